theorem dX10_simplify_10 : decode cX10_simplify 10 = .ok (.ifCond .ne 9, 3) := by decide +kernel
theorem dX10_simplify_13 : decode cX10_simplify 13 = .ok (.aload_n 0, 1) := by decide +kernel
theorem dX10_simplify_14 : decode cX10_simplify 14 = .ok (.iconst 1, 1) := by decide +kernel
theorem dX10_simplify_15 : decode cX10_simplify 15 = .ok (.invokevirtual 176, 3) := by decide +kernel
theorem dX10_simplify_18 : decode cX10_simplify 18 = .ok (.ireturn, 1) := by decide +kernel
theorem dX10_simplify_19 : decode cX10_simplify 19 = .ok (.aload_n 0, 1) := by decide +kernel
theorem dX10_simplify_20 : decode cX10_simplify 20 = .ok (.getfield 131, 3) := by decide +kernel
theorem dX10_simplify_23 : decode cX10_simplify 23 = .ok (.iload_n 1, 1) := by decide +kernel
theorem dX10_simplify_24 : decode cX10_simplify 24 = .ok (.aaload, 1) := by decide +kernel
theorem dX10_simplify_25 : decode cX10_simplify 25 = .ok (.arraylength, 1) := by decide +kernel
theorem dX10_simplify_26 : decode cX10_simplify 26 = .ok (.istore_n 2, 1) := by decide +kernel
theorem dX10_simplify_27 : decode cX10_simplify 27 = .ok (.iload_n 2, 1) := by decide +kernel
theorem dX10_simplify_28 : decode cX10_simplify 28 = .ok (.aload_n 0, 1) := by decide +kernel
theorem dX10_simplify_29 : decode cX10_simplify 29 = .ok (.iload_n 1, 1) := by decide +kernel
theorem dX10_simplify_30 : decode cX10_simplify 30 = .ok (.aload_n 0, 1) := by decide +kernel
theorem dX10_simplify_31 : decode cX10_simplify 31 = .ok (.aload_n 0, 1) := by decide +kernel
theorem dX10_simplify_32 : decode cX10_simplify 32 = .ok (.getfield 131, 3) := by decide +kernel
theorem dX10_simplify_35 : decode cX10_simplify 35 = .ok (.iload_n 1, 1) := by decide +kernel
theorem dX10_simplify_36 : decode cX10_simplify 36 = .ok (.aaload, 1) := by decide +kernel
theorem dX10_simplify_37 : decode cX10_simplify 37 = .ok (.invokevirtual 216, 3) := by decide +kernel
theorem dX10_simplify_40 : decode cX10_simplify 40 = .ok (.invokevirtual 206, 3) := by decide +kernel
theorem dX10_simplify_43 : decode cX10_simplify 43 = .ok (.isub, 1) := by decide +kernel
theorem dX10_simplify_44 : decode cX10_simplify 44 = .ok (.ireturn, 1) := by decide +kernel
theorem dX10_setRates_0 : decode cX10_setRates 0 = .ok (.aload_n 0, 1) := by decide +kernel
theorem dX10_setRates_1 : decode cX10_setRates 1 = .ok (.iconst 0, 1) := by decide +kernel
theorem dX10_setRates_2 : decode cX10_setRates 2 = .ok (.putfield 163, 3) := by decide +kernel
theorem dX10_setRates_5 : decode cX10_setRates 5 = .ok (.iload_n 1, 1) := by decide +kernel
theorem dX10_setRates_6 : decode cX10_setRates 6 = .ok (.iconst 0, 1) := by decide +kernel
theorem dX10_setRates_7 : decode cX10_setRates 7 = .ok (.bipush 100, 2) := by decide +kernel
theorem dX10_setRates_9 : decode cX10_setRates 9 = .ok (.invokestatic 94, 3) := by decide +kernel
theorem dX10_setRates_12 : decode cX10_setRates 12 = .ok (.ifCond .eq 33, 3) := by decide +kernel
theorem dX10_setRates_15 : decode cX10_setRates 15 = .ok (.iload_n 2, 1) := by decide +kernel
theorem dX10_setRates_16 : decode cX10_setRates 16 = .ok (.iconst 0, 1) := by decide +kernel
theorem dX10_setRates_17 : decode cX10_setRates 17 = .ok (.bipush 100, 2) := by decide +kernel
theorem dX10_setRates_19 : decode cX10_setRates 19 = .ok (.invokestatic 94, 3) := by decide +kernel
theorem dX10_setRates_22 : decode cX10_setRates 22 = .ok (.ifCond .eq 23, 3) := by decide +kernel
theorem dX10_setRates_25 : decode cX10_setRates 25 = .ok (.iload_n 3, 1) := by decide +kernel
theorem dX10_setRates_26 : decode cX10_setRates 26 = .ok (.iconst 0, 1) := by decide +kernel
theorem dX10_setRates_27 : decode cX10_setRates 27 = .ok (.bipush 100, 2) := by decide +kernel
theorem dX10_setRates_29 : decode cX10_setRates 29 = .ok (.invokestatic 94, 3) := by decide +kernel
theorem dX10_setRates_32 : decode cX10_setRates 32 = .ok (.ifCond .eq 13, 3) := by decide +kernel
theorem dX10_setRates_35 : decode cX10_setRates 35 = .ok (.iload_n 1, 1) := by decide +kernel
theorem dX10_setRates_36 : decode cX10_setRates 36 = .ok (.iload_n 2, 1) := by decide +kernel
theorem dX10_setRates_37 : decode cX10_setRates 37 = .ok (.iadd, 1) := by decide +kernel
theorem dX10_setRates_38 : decode cX10_setRates 38 = .ok (.iload_n 3, 1) := by decide +kernel
theorem dX10_setRates_39 : decode cX10_setRates 39 = .ok (.iadd, 1) := by decide +kernel
theorem dX10_setRates_40 : decode cX10_setRates 40 = .ok (.bipush 100, 2) := by decide +kernel
theorem dX10_setRates_42 : decode cX10_setRates 42 = .ok (.if_icmp .le 9, 3) := by decide +kernel
theorem dX10_setRates_45 : decode cX10_setRates 45 = .ok (.aload_n 0, 1) := by decide +kernel
theorem dX10_setRates_46 : decode cX10_setRates 46 = .ok (.iconst 1, 1) := by decide +kernel
theorem dX10_setRates_47 : decode cX10_setRates 47 = .ok (.invokevirtual 176, 3) := by decide +kernel
theorem dX10_setRates_50 : decode cX10_setRates 50 = .ok (.ireturn, 1) := by decide +kernel
theorem dX10_setRates_51 : decode cX10_setRates 51 = .ok (.aload_n 0, 1) := by decide +kernel
theorem dX10_setRates_52 : decode cX10_setRates 52 = .ok (.getfield 148, 3) := by decide +kernel
theorem dX10_setRates_55 : decode cX10_setRates 55 = .ok (.istore 4, 2) := by decide +kernel
theorem dX10_setRates_57 : decode cX10_setRates 57 = .ok (.aload_n 0, 1) := by decide +kernel
theorem dX10_setRates_58 : decode cX10_setRates 58 = .ok (.iload_n 1, 1) := by decide +kernel
theorem dX10_setRates_59 : decode cX10_setRates 59 = .ok (.putfield 148, 3) := by decide +kernel
theorem dX10_setRates_62 : decode cX10_setRates 62 = .ok (.aload_n 0, 1) := by decide +kernel
theorem dX10_setRates_63 : decode cX10_setRates 63 = .ok (.iload_n 2, 1) := by decide +kernel
theorem dX10_setRates_64 : decode cX10_setRates 64 = .ok (.putfield 151, 3) := by decide +kernel
theorem dX10_setRates_67 : decode cX10_setRates 67 = .ok (.aload_n 0, 1) := by decide +kernel
theorem dX10_setRates_68 : decode cX10_setRates 68 = .ok (.iload_n 3, 1) := by decide +kernel
theorem dX10_setRates_69 : decode cX10_setRates 69 = .ok (.putfield 154, 3) := by decide +kernel
theorem dX10_setRates_72 : decode cX10_setRates 72 = .ok (.iload 4, 2) := by decide +kernel
theorem dX10_setRates_74 : decode cX10_setRates 74 = .ok (.ireturn, 1) := by decide +kernel
theorem dX10_setChoosing_0 : decode cX10_setChoosing 0 = .ok (.aload_n 0, 1) := by decide +kernel
theorem dX10_setChoosing_1 : decode cX10_setChoosing 1 = .ok (.iconst 0, 1) := by decide +kernel
theorem dX10_setChoosing_2 : decode cX10_setChoosing 2 = .ok (.putfield 163, 3) := by decide +kernel
theorem dX10_setChoosing_5 : decode cX10_setChoosing 5 = .ok (.iload_n 1, 1) := by decide +kernel
theorem dX10_setChoosing_6 : decode cX10_setChoosing 6 = .ok (.iconst 1, 1) := by decide +kernel
theorem dX10_setChoosing_7 : decode cX10_setChoosing 7 = .ok (.iconst 5, 1) := by decide +kernel
theorem dX10_setChoosing_8 : decode cX10_setChoosing 8 = .ok (.invokestatic 94, 3) := by decide +kernel
theorem dX10_setChoosing_11 : decode cX10_setChoosing 11 = .ok (.ifCond .eq 12, 3) := by decide +kernel
theorem dX10_setChoosing_14 : decode cX10_setChoosing 14 = .ok (.iload_n 2, 1) := by decide +kernel
theorem dX10_setChoosing_15 : decode cX10_setChoosing 15 = .ok (.iconst 0, 1) := by decide +kernel
theorem dX10_setChoosing_16 : decode cX10_setChoosing 16 = .ok (.iconst 4, 1) := by decide +kernel
theorem dX10_setChoosing_17 : decode cX10_setChoosing 17 = .ok (.invokestatic 94, 3) := by decide +kernel
theorem dX10_setChoosing_20 : decode cX10_setChoosing 20 = .ok (.ifCond .ne 9, 3) := by decide +kernel
theorem dX10_setChoosing_23 : decode cX10_setChoosing 23 = .ok (.aload_n 0, 1) := by decide +kernel
theorem dX10_setChoosing_24 : decode cX10_setChoosing 24 = .ok (.iconst 1, 1) := by decide +kernel
theorem dX10_setChoosing_25 : decode cX10_setChoosing 25 = .ok (.invokevirtual 176, 3) := by decide +kernel
theorem dX10_setChoosing_28 : decode cX10_setChoosing 28 = .ok (.ireturn, 1) := by decide +kernel
theorem dX10_setChoosing_29 : decode cX10_setChoosing 29 = .ok (.aload_n 0, 1) := by decide +kernel
theorem dX10_setChoosing_30 : decode cX10_setChoosing 30 = .ok (.getfield 157, 3) := by decide +kernel
theorem dX10_setChoosing_33 : decode cX10_setChoosing 33 = .ok (.istore_n 3, 1) := by decide +kernel
theorem dX10_setChoosing_34 : decode cX10_setChoosing 34 = .ok (.aload_n 0, 1) := by decide +kernel
theorem dX10_setChoosing_35 : decode cX10_setChoosing 35 = .ok (.iload_n 1, 1) := by decide +kernel
theorem dX10_setChoosing_36 : decode cX10_setChoosing 36 = .ok (.putfield 157, 3) := by decide +kernel
theorem dX10_setChoosing_39 : decode cX10_setChoosing 39 = .ok (.aload_n 0, 1) := by decide +kernel
theorem dX10_setChoosing_40 : decode cX10_setChoosing 40 = .ok (.iload_n 2, 1) := by decide +kernel
theorem dX10_setChoosing_41 : decode cX10_setChoosing 41 = .ok (.putfield 160, 3) := by decide +kernel
theorem dX10_setChoosing_44 : decode cX10_setChoosing 44 = .ok (.iload_n 3, 1) := by decide +kernel
theorem dX10_setChoosing_45 : decode cX10_setChoosing 45 = .ok (.ireturn, 1) := by decide +kernel
theorem dX10_setLuck_0 : decode cX10_setLuck 0 = .ok (.aload_n 0, 1) := by decide +kernel
theorem dX10_setLuck_1 : decode cX10_setLuck 1 = .ok (.iconst 0, 1) := by decide +kernel
theorem dX10_setLuck_2 : decode cX10_setLuck 2 = .ok (.putfield 163, 3) := by decide +kernel
theorem dX10_setLuck_5 : decode cX10_setLuck 5 = .ok (.iload_n 1, 1) := by decide +kernel
theorem dX10_setLuck_6 : decode cX10_setLuck 6 = .ok (.iconst 0, 1) := by decide +kernel
theorem dX10_setLuck_7 : decode cX10_setLuck 7 = .ok (.sipush 9999, 3) := by decide +kernel
theorem dX10_setLuck_10 : decode cX10_setLuck 10 = .ok (.invokestatic 94, 3) := by decide +kernel
theorem dX10_setLuck_13 : decode cX10_setLuck 13 = .ok (.ifCond .ne 9, 3) := by decide +kernel
theorem dX10_setLuck_16 : decode cX10_setLuck 16 = .ok (.aload_n 0, 1) := by decide +kernel
theorem dX10_setLuck_17 : decode cX10_setLuck 17 = .ok (.iconst 1, 1) := by decide +kernel
theorem dX10_setLuck_18 : decode cX10_setLuck 18 = .ok (.invokevirtual 176, 3) := by decide +kernel
theorem dX10_setLuck_21 : decode cX10_setLuck 21 = .ok (.ireturn, 1) := by decide +kernel
theorem dX10_setLuck_22 : decode cX10_setLuck 22 = .ok (.aload_n 0, 1) := by decide +kernel
theorem dX10_setLuck_23 : decode cX10_setLuck 23 = .ok (.getfield 220, 3) := by decide +kernel
theorem dX10_setLuck_26 : decode cX10_setLuck 26 = .ok (.istore_n 2, 1) := by decide +kernel
theorem dX10_setLuck_27 : decode cX10_setLuck 27 = .ok (.aload_n 0, 1) := by decide +kernel
theorem dX10_setLuck_28 : decode cX10_setLuck 28 = .ok (.iload_n 1, 1) := by decide +kernel
theorem dX10_setLuck_29 : decode cX10_setLuck 29 = .ok (.putfield 220, 3) := by decide +kernel
theorem dX10_setLuck_32 : decode cX10_setLuck 32 = .ok (.iload_n 2, 1) := by decide +kernel
theorem dX10_setLuck_33 : decode cX10_setLuck 33 = .ok (.ireturn, 1) := by decide +kernel
theorem dX10_tell_0 : decode cX10_tell 0 = .ok (.aload_n 0, 1) := by decide +kernel
theorem dX10_tell_1 : decode cX10_tell 1 = .ok (.iconst 0, 1) := by decide +kernel
theorem dX10_tell_2 : decode cX10_tell 2 = .ok (.putfield 163, 3) := by decide +kernel
theorem dX10_tell_5 : decode cX10_tell 5 = .ok (.iload_n 1, 1) := by decide +kernel
theorem dX10_tell_6 : decode cX10_tell 6 = .ok (.ifCond .ge 9, 3) := by decide +kernel
theorem dX10_tell_9 : decode cX10_tell 9 = .ok (.aload_n 0, 1) := by decide +kernel
theorem dX10_tell_10 : decode cX10_tell 10 = .ok (.iconst 1, 1) := by decide +kernel
theorem dX10_tell_11 : decode cX10_tell 11 = .ok (.invokevirtual 176, 3) := by decide +kernel
theorem dX10_tell_14 : decode cX10_tell 14 = .ok (.ireturn, 1) := by decide +kernel
theorem dX10_tell_15 : decode cX10_tell 15 = .ok (.aload_n 0, 1) := by decide +kernel
theorem dX10_tell_16 : decode cX10_tell 16 = .ok (.getfield 223, 3) := by decide +kernel
theorem dX10_tell_19 : decode cX10_tell 19 = .ok (.bipush 40, 2) := by decide +kernel
theorem dX10_tell_21 : decode cX10_tell 21 = .ok (.if_icmp .ne 9, 3) := by decide +kernel
theorem dX10_tell_24 : decode cX10_tell 24 = .ok (.aload_n 0, 1) := by decide +kernel
theorem dX10_tell_25 : decode cX10_tell 25 = .ok (.iconst 2, 1) := by decide +kernel
theorem dX10_tell_26 : decode cX10_tell 26 = .ok (.invokevirtual 176, 3) := by decide +kernel
theorem dX10_tell_29 : decode cX10_tell 29 = .ok (.ireturn, 1) := by decide +kernel
theorem dX10_tell_30 : decode cX10_tell 30 = .ok (.aload_n 0, 1) := by decide +kernel
theorem dX10_tell_31 : decode cX10_tell 31 = .ok (.getfield 145, 3) := by decide +kernel
theorem dX10_tell_34 : decode cX10_tell 34 = .ok (.aload_n 0, 1) := by decide +kernel
theorem dX10_tell_35 : decode cX10_tell 35 = .ok (.dup, 1) := by decide +kernel
theorem dX10_tell_36 : decode cX10_tell 36 = .ok (.getfield 223, 3) := by decide +kernel
theorem dX10_tell_39 : decode cX10_tell 39 = .ok (.dup_x1, 1) := by decide +kernel
theorem dX10_tell_40 : decode cX10_tell 40 = .ok (.iconst 1, 1) := by decide +kernel
theorem dX10_tell_41 : decode cX10_tell 41 = .ok (.iadd, 1) := by decide +kernel
theorem dX10_tell_42 : decode cX10_tell 42 = .ok (.putfield 223, 3) := by decide +kernel
theorem dX10_tell_45 : decode cX10_tell 45 = .ok (.iload_n 1, 1) := by decide +kernel
theorem dX10_tell_46 : decode cX10_tell 46 = .ok (.iastore, 1) := by decide +kernel
theorem dX10_tell_47 : decode cX10_tell 47 = .ok (.aload_n 0, 1) := by decide +kernel
theorem dX10_tell_48 : decode cX10_tell 48 = .ok (.getfield 223, 3) := by decide +kernel
theorem dX10_tell_51 : decode cX10_tell 51 = .ok (.ireturn, 1) := by decide +kernel
theorem dX10_ranks_0 : decode cX10_ranks 0 = .ok (.aload_n 0, 1) := by decide +kernel
theorem dX10_ranks_1 : decode cX10_ranks 1 = .ok (.getfield 166, 3) := by decide +kernel
theorem dX10_ranks_4 : decode cX10_ranks 4 = .ok (.newarray .int, 2) := by decide +kernel
theorem dX10_ranks_6 : decode cX10_ranks 6 = .ok (.astore_n 1, 1) := by decide +kernel
theorem dX10_ranks_7 : decode cX10_ranks 7 = .ok (.aload_n 0, 1) := by decide +kernel
theorem dX10_ranks_8 : decode cX10_ranks 8 = .ok (.getfield 166, 3) := by decide +kernel
theorem dX10_ranks_11 : decode cX10_ranks 11 = .ok (.newarray .int, 2) := by decide +kernel
theorem dX10_ranks_13 : decode cX10_ranks 13 = .ok (.astore_n 2, 1) := by decide +kernel
theorem dX10_ranks_14 : decode cX10_ranks 14 = .ok (.iconst 0, 1) := by decide +kernel
theorem dX10_ranks_15 : decode cX10_ranks 15 = .ok (.istore_n 3, 1) := by decide +kernel
theorem dX10_ranks_16 : decode cX10_ranks 16 = .ok (.iload_n 3, 1) := by decide +kernel
theorem dX10_ranks_17 : decode cX10_ranks 17 = .ok (.aload_n 0, 1) := by decide +kernel
theorem dX10_ranks_18 : decode cX10_ranks 18 = .ok (.getfield 166, 3) := by decide +kernel
theorem dX10_ranks_21 : decode cX10_ranks 21 = .ok (.if_icmp .ge 22, 3) := by decide +kernel
theorem dX10_ranks_24 : decode cX10_ranks 24 = .ok (.aload_n 2, 1) := by decide +kernel
theorem dX10_ranks_25 : decode cX10_ranks 25 = .ok (.iload_n 3, 1) := by decide +kernel
theorem dX10_ranks_26 : decode cX10_ranks 26 = .ok (.aload_n 0, 1) := by decide +kernel
theorem dX10_ranks_27 : decode cX10_ranks 27 = .ok (.aload_n 0, 1) := by decide +kernel
theorem dX10_ranks_28 : decode cX10_ranks 28 = .ok (.getfield 131, 3) := by decide +kernel
theorem dX10_ranks_31 : decode cX10_ranks 31 = .ok (.iload_n 3, 1) := by decide +kernel
theorem dX10_ranks_32 : decode cX10_ranks 32 = .ok (.aaload, 1) := by decide +kernel
theorem dX10_ranks_33 : decode cX10_ranks 33 = .ok (.invokevirtual 232, 3) := by decide +kernel
theorem dX10_ranks_36 : decode cX10_ranks 36 = .ok (.iastore, 1) := by decide +kernel
theorem dX10_ranks_37 : decode cX10_ranks 37 = .ok (.iinc 3 1, 3) := by decide +kernel
theorem dX10_ranks_40 : decode cX10_ranks 40 = .ok (.goto (-24), 3) := by decide +kernel
theorem dX10_ranks_43 : decode cX10_ranks 43 = .ok (.iconst 0, 1) := by decide +kernel
theorem dX10_ranks_44 : decode cX10_ranks 44 = .ok (.istore_n 3, 1) := by decide +kernel
theorem dX10_ranks_45 : decode cX10_ranks 45 = .ok (.iload_n 3, 1) := by decide +kernel
theorem dX10_ranks_46 : decode cX10_ranks 46 = .ok (.aload_n 0, 1) := by decide +kernel
theorem dX10_ranks_47 : decode cX10_ranks 47 = .ok (.getfield 166, 3) := by decide +kernel
theorem dX10_ranks_50 : decode cX10_ranks 50 = .ok (.if_icmp .ge 62, 3) := by decide +kernel
theorem dX10_ranks_53 : decode cX10_ranks 53 = .ok (.iconst 0, 1) := by decide +kernel
theorem dX10_ranks_54 : decode cX10_ranks 54 = .ok (.istore 4, 2) := by decide +kernel
theorem dX10_ranks_56 : decode cX10_ranks 56 = .ok (.iconst 0, 1) := by decide +kernel
theorem dX10_ranks_57 : decode cX10_ranks 57 = .ok (.istore 5, 2) := by decide +kernel
theorem dX10_ranks_59 : decode cX10_ranks 59 = .ok (.iload 5, 2) := by decide +kernel
theorem dX10_ranks_61 : decode cX10_ranks 61 = .ok (.aload_n 0, 1) := by decide +kernel
theorem dX10_ranks_62 : decode cX10_ranks 62 = .ok (.getfield 166, 3) := by decide +kernel
theorem dX10_ranks_65 : decode cX10_ranks 65 = .ok (.if_icmp .ge 36, 3) := by decide +kernel
theorem dX10_ranks_68 : decode cX10_ranks 68 = .ok (.iload 4, 2) := by decide +kernel
theorem dX10_ranks_70 : decode cX10_ranks 70 = .ok (.iload 5, 2) := by decide +kernel
theorem dX10_ranks_72 : decode cX10_ranks 72 = .ok (.iload_n 3, 1) := by decide +kernel
theorem dX10_ranks_73 : decode cX10_ranks 73 = .ok (.if_icmp .eq 18, 3) := by decide +kernel
theorem dX10_ranks_76 : decode cX10_ranks 76 = .ok (.aload_n 0, 1) := by decide +kernel
theorem dX10_ranks_77 : decode cX10_ranks 77 = .ok (.iload 5, 2) := by decide +kernel
theorem dX10_ranks_79 : decode cX10_ranks 79 = .ok (.iload_n 3, 1) := by decide +kernel
theorem dX10_ranks_80 : decode cX10_ranks 80 = .ok (.aload_n 2, 1) := by decide +kernel
theorem dX10_ranks_81 : decode cX10_ranks 81 = .ok (.invokevirtual 235, 3) := by decide +kernel
theorem dX10_ranks_84 : decode cX10_ranks 84 = .ok (.ifCond .eq 7, 3) := by decide +kernel
theorem dX10_ranks_87 : decode cX10_ranks 87 = .ok (.iconst 1, 1) := by decide +kernel
theorem dX10_ranks_88 : decode cX10_ranks 88 = .ok (.goto 4, 3) := by decide +kernel
theorem dX10_ranks_91 : decode cX10_ranks 91 = .ok (.iconst 0, 1) := by decide +kernel
theorem dX10_ranks_92 : decode cX10_ranks 92 = .ok (.iadd, 1) := by decide +kernel
theorem dX10_ranks_93 : decode cX10_ranks 93 = .ok (.istore 4, 2) := by decide +kernel
theorem dX10_ranks_95 : decode cX10_ranks 95 = .ok (.iinc 5 1, 3) := by decide +kernel
theorem dX10_ranks_98 : decode cX10_ranks 98 = .ok (.goto (-39), 3) := by decide +kernel
theorem dX10_ranks_101 : decode cX10_ranks 101 = .ok (.aload_n 1, 1) := by decide +kernel
theorem dX10_ranks_102 : decode cX10_ranks 102 = .ok (.iload 4, 2) := by decide +kernel
theorem dX10_ranks_104 : decode cX10_ranks 104 = .ok (.iload_n 3, 1) := by decide +kernel
theorem dX10_ranks_105 : decode cX10_ranks 105 = .ok (.iastore, 1) := by decide +kernel
theorem dX10_ranks_106 : decode cX10_ranks 106 = .ok (.iinc 3 1, 3) := by decide +kernel
theorem dX10_ranks_109 : decode cX10_ranks 109 = .ok (.goto (-64), 3) := by decide +kernel
theorem dX10_ranks_112 : decode cX10_ranks 112 = .ok (.aload_n 1, 1) := by decide +kernel
theorem dX10_ranks_113 : decode cX10_ranks 113 = .ok (.areturn, 1) := by decide +kernel
theorem dX10_breed_0 : decode cX10_breed 0 = .ok (.aload_n 0, 1) := by decide +kernel
theorem dX10_breed_1 : decode cX10_breed 1 = .ok (.iconst 0, 1) := by decide +kernel
theorem dX10_breed_2 : decode cX10_breed 2 = .ok (.putfield 163, 3) := by decide +kernel
theorem dX10_breed_5 : decode cX10_breed 5 = .ok (.iload_n 1, 1) := by decide +kernel
theorem dX10_breed_6 : decode cX10_breed 6 = .ok (.iconst 1, 1) := by decide +kernel
theorem dX10_breed_7 : decode cX10_breed 7 = .ok (.bipush 10, 2) := by decide +kernel
theorem dX10_breed_9 : decode cX10_breed 9 = .ok (.invokestatic 94, 3) := by decide +kernel
theorem dX10_breed_12 : decode cX10_breed 12 = .ok (.ifCond .ne 9, 3) := by decide +kernel
theorem dX10_breed_15 : decode cX10_breed 15 = .ok (.aload_n 0, 1) := by decide +kernel
theorem dX10_breed_16 : decode cX10_breed 16 = .ok (.iconst 1, 1) := by decide +kernel
theorem dX10_breed_17 : decode cX10_breed 17 = .ok (.invokevirtual 176, 3) := by decide +kernel
theorem dX10_breed_20 : decode cX10_breed 20 = .ok (.ireturn, 1) := by decide +kernel
theorem dX10_breed_21 : decode cX10_breed 21 = .ok (.aload_n 0, 1) := by decide +kernel
theorem dX10_breed_22 : decode cX10_breed 22 = .ok (.getfield 166, 3) := by decide +kernel
theorem dX10_breed_25 : decode cX10_breed 25 = .ok (.ifCond .ne 11, 3) := by decide +kernel
theorem dX10_breed_28 : decode cX10_breed 28 = .ok (.aload_n 0, 1) := by decide +kernel
theorem dX10_breed_29 : decode cX10_breed 29 = .ok (.iconst 2, 1) := by decide +kernel
theorem dX10_breed_30 : decode cX10_breed 30 = .ok (.invokevirtual 176, 3) := by decide +kernel
theorem dX10_breed_33 : decode cX10_breed 33 = .ok (.goto 8, 3) := by decide +kernel
theorem dX10_breed_36 : decode cX10_breed 36 = .ok (.aload_n 0, 1) := by decide +kernel
theorem dX10_breed_37 : decode cX10_breed 37 = .ok (.iload_n 1, 1) := by decide +kernel
theorem dX10_breed_38 : decode cX10_breed 38 = .ok (.invokevirtual 269, 3) := by decide +kernel
theorem dX10_breed_41 : decode cX10_breed 41 = .ok (.ireturn, 1) := by decide +kernel
theorem dX10_sketched_0 : decode cX10_sketched 0 = .ok (.aload_n 0, 1) := by decide +kernel
theorem dX10_sketched_1 : decode cX10_sketched 1 = .ok (.aload_n 0, 1) := by decide +kernel
theorem dX10_sketched_2 : decode cX10_sketched 2 = .ok (.getfield 179, 3) := by decide +kernel
theorem dX10_sketched_5 : decode cX10_sketched 5 = .ok (.invokevirtual 272, 3) := by decide +kernel
theorem dX10_sketched_8 : decode cX10_sketched 8 = .ok (.ireturn, 1) := by decide +kernel
theorem dX10_trees_0 : decode cX10_trees 0 = .ok (.aload_n 0, 1) := by decide +kernel
theorem dX10_trees_1 : decode cX10_trees 1 = .ok (.aload_n 0, 1) := by decide +kernel
theorem dX10_trees_2 : decode cX10_trees 2 = .ok (.getfield 166, 3) := by decide +kernel
theorem dX10_trees_5 : decode cX10_trees 5 = .ok (.invokevirtual 272, 3) := by decide +kernel
theorem dX10_trees_8 : decode cX10_trees 8 = .ok (.ireturn, 1) := by decide +kernel
theorem dX10_cases_0 : decode cX10_cases 0 = .ok (.aload_n 0, 1) := by decide +kernel
theorem dX10_cases_1 : decode cX10_cases 1 = .ok (.aload_n 0, 1) := by decide +kernel
theorem dX10_cases_2 : decode cX10_cases 2 = .ok (.getfield 189, 3) := by decide +kernel
theorem dX10_cases_5 : decode cX10_cases 5 = .ok (.invokevirtual 272, 3) := by decide +kernel
theorem dX10_cases_8 : decode cX10_cases 8 = .ok (.ireturn, 1) := by decide +kernel
theorem dX10_size_0 : decode cX10_size 0 = .ok (.aload_n 0, 1) := by decide +kernel
theorem dX10_size_1 : decode cX10_size 1 = .ok (.iconst 0, 1) := by decide +kernel
theorem dX10_size_2 : decode cX10_size 2 = .ok (.putfield 163, 3) := by decide +kernel
theorem dX10_size_5 : decode cX10_size 5 = .ok (.aload_n 0, 1) := by decide +kernel
theorem dX10_size_6 : decode cX10_size 6 = .ok (.iload_n 1, 1) := by decide +kernel
theorem dX10_size_7 : decode cX10_size 7 = .ok (.invokevirtual 169, 3) := by decide +kernel
theorem dX10_size_10 : decode cX10_size 10 = .ok (.ifCond .eq 13, 3) := by decide +kernel
theorem dX10_size_13 : decode cX10_size 13 = .ok (.aload_n 0, 1) := by decide +kernel
theorem dX10_size_14 : decode cX10_size 14 = .ok (.getfield 131, 3) := by decide +kernel
theorem dX10_size_17 : decode cX10_size 17 = .ok (.iload_n 1, 1) := by decide +kernel
theorem dX10_size_18 : decode cX10_size 18 = .ok (.aaload, 1) := by decide +kernel
theorem dX10_size_19 : decode cX10_size 19 = .ok (.arraylength, 1) := by decide +kernel
theorem dX10_size_20 : decode cX10_size 20 = .ok (.goto 8, 3) := by decide +kernel
theorem dX10_size_23 : decode cX10_size 23 = .ok (.aload_n 0, 1) := by decide +kernel
theorem dX10_size_24 : decode cX10_size 24 = .ok (.iconst 1, 1) := by decide +kernel
theorem dX10_size_25 : decode cX10_size 25 = .ok (.invokevirtual 176, 3) := by decide +kernel
theorem dX10_size_28 : decode cX10_size 28 = .ok (.ireturn, 1) := by decide +kernel
theorem dX10_depth_0 : decode cX10_depth 0 = .ok (.aload_n 0, 1) := by decide +kernel
theorem dX10_depth_1 : decode cX10_depth 1 = .ok (.iconst 0, 1) := by decide +kernel
theorem dX10_depth_2 : decode cX10_depth 2 = .ok (.putfield 163, 3) := by decide +kernel
theorem dX10_depth_5 : decode cX10_depth 5 = .ok (.aload_n 0, 1) := by decide +kernel
theorem dX10_depth_6 : decode cX10_depth 6 = .ok (.iload_n 1, 1) := by decide +kernel
theorem dX10_depth_7 : decode cX10_depth 7 = .ok (.invokevirtual 169, 3) := by decide +kernel
theorem dX10_depth_10 : decode cX10_depth 10 = .ok (.ifCond .eq 15, 3) := by decide +kernel
theorem dX10_depth_13 : decode cX10_depth 13 = .ok (.aload_n 0, 1) := by decide +kernel
theorem dX10_depth_14 : decode cX10_depth 14 = .ok (.getfield 131, 3) := by decide +kernel
theorem dX10_depth_17 : decode cX10_depth 17 = .ok (.iload_n 1, 1) := by decide +kernel
theorem dX10_depth_18 : decode cX10_depth 18 = .ok (.aaload, 1) := by decide +kernel
theorem dX10_depth_19 : decode cX10_depth 19 = .ok (.invokestatic 52, 3) := by decide +kernel
theorem dX10_depth_22 : decode cX10_depth 22 = .ok (.goto 8, 3) := by decide +kernel
theorem dX10_depth_25 : decode cX10_depth 25 = .ok (.aload_n 0, 1) := by decide +kernel
theorem dX10_depth_26 : decode cX10_depth 26 = .ok (.iconst 1, 1) := by decide +kernel
theorem dX10_depth_27 : decode cX10_depth 27 = .ok (.invokevirtual 176, 3) := by decide +kernel
theorem dX10_depth_30 : decode cX10_depth 30 = .ok (.ireturn, 1) := by decide +kernel
theorem dX10_codeAt_0 : decode cX10_codeAt 0 = .ok (.aload_n 0, 1) := by decide +kernel
theorem dX10_codeAt_1 : decode cX10_codeAt 1 = .ok (.iconst 0, 1) := by decide +kernel
theorem dX10_codeAt_2 : decode cX10_codeAt 2 = .ok (.putfield 163, 3) := by decide +kernel
theorem dX10_codeAt_5 : decode cX10_codeAt 5 = .ok (.aload_n 0, 1) := by decide +kernel
theorem dX10_codeAt_6 : decode cX10_codeAt 6 = .ok (.iload_n 1, 1) := by decide +kernel
theorem dX10_codeAt_7 : decode cX10_codeAt 7 = .ok (.iload_n 2, 1) := by decide +kernel
theorem dX10_codeAt_8 : decode cX10_codeAt 8 = .ok (.invokevirtual 199, 3) := by decide +kernel
theorem dX10_codeAt_11 : decode cX10_codeAt 11 = .ok (.ifCond .eq 17, 3) := by decide +kernel
theorem dX10_codeAt_14 : decode cX10_codeAt 14 = .ok (.aload_n 0, 1) := by decide +kernel
theorem dX10_codeAt_15 : decode cX10_codeAt 15 = .ok (.getfield 131, 3) := by decide +kernel
theorem dX10_codeAt_18 : decode cX10_codeAt 18 = .ok (.iload_n 1, 1) := by decide +kernel
theorem dX10_codeAt_19 : decode cX10_codeAt 19 = .ok (.aaload, 1) := by decide +kernel
theorem dX10_codeAt_20 : decode cX10_codeAt 20 = .ok (.iload_n 2, 1) := by decide +kernel
theorem dX10_codeAt_21 : decode cX10_codeAt 21 = .ok (.iaload, 1) := by decide +kernel
theorem dX10_codeAt_22 : decode cX10_codeAt 22 = .ok (.invokestatic 35, 3) := by decide +kernel
theorem dX10_codeAt_25 : decode cX10_codeAt 25 = .ok (.goto 8, 3) := by decide +kernel
theorem dX10_codeAt_28 : decode cX10_codeAt 28 = .ok (.aload_n 0, 1) := by decide +kernel
theorem dX10_codeAt_29 : decode cX10_codeAt 29 = .ok (.iconst 1, 1) := by decide +kernel
theorem dX10_codeAt_30 : decode cX10_codeAt 30 = .ok (.invokevirtual 176, 3) := by decide +kernel
theorem dX10_codeAt_33 : decode cX10_codeAt 33 = .ok (.ireturn, 1) := by decide +kernel
theorem dX10_valueAt_0 : decode cX10_valueAt 0 = .ok (.aload_n 0, 1) := by decide +kernel
theorem dX10_valueAt_1 : decode cX10_valueAt 1 = .ok (.iconst 0, 1) := by decide +kernel
theorem dX10_valueAt_2 : decode cX10_valueAt 2 = .ok (.putfield 163, 3) := by decide +kernel
theorem dX10_valueAt_5 : decode cX10_valueAt 5 = .ok (.aload_n 0, 1) := by decide +kernel
theorem dX10_valueAt_6 : decode cX10_valueAt 6 = .ok (.iload_n 1, 1) := by decide +kernel
theorem dX10_valueAt_7 : decode cX10_valueAt 7 = .ok (.iload_n 2, 1) := by decide +kernel
theorem dX10_valueAt_8 : decode cX10_valueAt 8 = .ok (.invokevirtual 199, 3) := by decide +kernel
theorem dX10_valueAt_11 : decode cX10_valueAt 11 = .ok (.ifCond .eq 17, 3) := by decide +kernel
theorem dX10_valueAt_14 : decode cX10_valueAt 14 = .ok (.aload_n 0, 1) := by decide +kernel
theorem dX10_valueAt_15 : decode cX10_valueAt 15 = .ok (.getfield 131, 3) := by decide +kernel
theorem dX10_valueAt_18 : decode cX10_valueAt 18 = .ok (.iload_n 1, 1) := by decide +kernel
theorem dX10_valueAt_19 : decode cX10_valueAt 19 = .ok (.aaload, 1) := by decide +kernel
theorem dX10_valueAt_20 : decode cX10_valueAt 20 = .ok (.iload_n 2, 1) := by decide +kernel
theorem dX10_valueAt_21 : decode cX10_valueAt 21 = .ok (.iaload, 1) := by decide +kernel
theorem dX10_valueAt_22 : decode cX10_valueAt 22 = .ok (.invokestatic 76, 3) := by decide +kernel
theorem dX10_valueAt_25 : decode cX10_valueAt 25 = .ok (.goto 8, 3) := by decide +kernel
theorem dX10_valueAt_28 : decode cX10_valueAt 28 = .ok (.aload_n 0, 1) := by decide +kernel
theorem dX10_valueAt_29 : decode cX10_valueAt 29 = .ok (.iconst 1, 1) := by decide +kernel
theorem dX10_valueAt_30 : decode cX10_valueAt 30 = .ok (.invokevirtual 176, 3) := by decide +kernel
theorem dX10_valueAt_33 : decode cX10_valueAt 33 = .ok (.ireturn, 1) := by decide +kernel
theorem dX10_sizeAt_0 : decode cX10_sizeAt 0 = .ok (.aload_n 0, 1) := by decide +kernel
theorem dX10_sizeAt_1 : decode cX10_sizeAt 1 = .ok (.iconst 0, 1) := by decide +kernel
theorem dX10_sizeAt_2 : decode cX10_sizeAt 2 = .ok (.putfield 163, 3) := by decide +kernel
theorem dX10_sizeAt_5 : decode cX10_sizeAt 5 = .ok (.aload_n 0, 1) := by decide +kernel
theorem dX10_sizeAt_6 : decode cX10_sizeAt 6 = .ok (.iload_n 1, 1) := by decide +kernel
theorem dX10_sizeAt_7 : decode cX10_sizeAt 7 = .ok (.iload_n 2, 1) := by decide +kernel
theorem dX10_sizeAt_8 : decode cX10_sizeAt 8 = .ok (.invokevirtual 199, 3) := by decide +kernel
theorem dX10_sizeAt_11 : decode cX10_sizeAt 11 = .ok (.ifCond .eq 18, 3) := by decide +kernel
theorem dX10_sizeAt_14 : decode cX10_sizeAt 14 = .ok (.aload_n 0, 1) := by decide +kernel
theorem dX10_sizeAt_15 : decode cX10_sizeAt 15 = .ok (.getfield 131, 3) := by decide +kernel
theorem dX10_sizeAt_18 : decode cX10_sizeAt 18 = .ok (.iload_n 1, 1) := by decide +kernel
theorem dX10_sizeAt_19 : decode cX10_sizeAt 19 = .ok (.aaload, 1) := by decide +kernel
theorem dX10_sizeAt_20 : decode cX10_sizeAt 20 = .ok (.iload_n 2, 1) := by decide +kernel
theorem dX10_sizeAt_21 : decode cX10_sizeAt 21 = .ok (.invokestatic 39, 3) := by decide +kernel
theorem dX10_sizeAt_24 : decode cX10_sizeAt 24 = .ok (.iload_n 2, 1) := by decide +kernel
theorem dX10_sizeAt_25 : decode cX10_sizeAt 25 = .ok (.isub, 1) := by decide +kernel
theorem dX10_sizeAt_26 : decode cX10_sizeAt 26 = .ok (.goto 8, 3) := by decide +kernel
theorem dX10_sizeAt_29 : decode cX10_sizeAt 29 = .ok (.aload_n 0, 1) := by decide +kernel
theorem dX10_sizeAt_30 : decode cX10_sizeAt 30 = .ok (.iconst 1, 1) := by decide +kernel
theorem dX10_sizeAt_31 : decode cX10_sizeAt 31 = .ok (.invokevirtual 176, 3) := by decide +kernel
theorem dX10_sizeAt_34 : decode cX10_sizeAt 34 = .ok (.ireturn, 1) := by decide +kernel
theorem dX10_above_0 : decode cX10_above 0 = .ok (.aload_n 0, 1) := by decide +kernel
theorem dX10_above_1 : decode cX10_above 1 = .ok (.iconst 0, 1) := by decide +kernel
theorem dX10_above_2 : decode cX10_above 2 = .ok (.putfield 163, 3) := by decide +kernel
theorem dX10_above_5 : decode cX10_above 5 = .ok (.aload_n 0, 1) := by decide +kernel
theorem dX10_above_6 : decode cX10_above 6 = .ok (.iload_n 1, 1) := by decide +kernel
theorem dX10_above_7 : decode cX10_above 7 = .ok (.iload_n 2, 1) := by decide +kernel
theorem dX10_above_8 : decode cX10_above 8 = .ok (.invokevirtual 199, 3) := by decide +kernel
theorem dX10_above_11 : decode cX10_above 11 = .ok (.ifCond .eq 16, 3) := by decide +kernel
theorem dX10_above_14 : decode cX10_above 14 = .ok (.aload_n 0, 1) := by decide +kernel
theorem dX10_above_15 : decode cX10_above 15 = .ok (.getfield 131, 3) := by decide +kernel
theorem dX10_above_18 : decode cX10_above 18 = .ok (.iload_n 1, 1) := by decide +kernel
theorem dX10_above_19 : decode cX10_above 19 = .ok (.aaload, 1) := by decide +kernel
theorem dX10_above_20 : decode cX10_above 20 = .ok (.iload_n 2, 1) := by decide +kernel
theorem dX10_above_21 : decode cX10_above 21 = .ok (.invokestatic 43, 3) := by decide +kernel
theorem dX10_above_24 : decode cX10_above 24 = .ok (.goto 8, 3) := by decide +kernel
theorem dX10_above_27 : decode cX10_above 27 = .ok (.aload_n 0, 1) := by decide +kernel
theorem dX10_above_28 : decode cX10_above 28 = .ok (.iconst 1, 1) := by decide +kernel
theorem dX10_above_29 : decode cX10_above 29 = .ok (.invokevirtual 176, 3) := by decide +kernel
theorem dX10_above_32 : decode cX10_above 32 = .ok (.ireturn, 1) := by decide +kernel
theorem dX10_error_0 : decode cX10_error 0 = .ok (.aload_n 0, 1) := by decide +kernel
theorem dX10_error_1 : decode cX10_error 1 = .ok (.iconst 0, 1) := by decide +kernel
theorem dX10_error_2 : decode cX10_error 2 = .ok (.putfield 163, 3) := by decide +kernel
theorem dX10_error_5 : decode cX10_error 5 = .ok (.aload_n 0, 1) := by decide +kernel
theorem dX10_error_6 : decode cX10_error 6 = .ok (.iload_n 1, 1) := by decide +kernel
theorem dX10_error_7 : decode cX10_error 7 = .ok (.invokevirtual 169, 3) := by decide +kernel
theorem dX10_error_10 : decode cX10_error 10 = .ok (.ifCond .eq 16, 3) := by decide +kernel
theorem dX10_error_13 : decode cX10_error 13 = .ok (.aload_n 0, 1) := by decide +kernel
theorem dX10_error_14 : decode cX10_error 14 = .ok (.aload_n 0, 1) := by decide +kernel
theorem dX10_error_15 : decode cX10_error 15 = .ok (.getfield 131, 3) := by decide +kernel
theorem dX10_error_18 : decode cX10_error 18 = .ok (.iload_n 1, 1) := by decide +kernel
theorem dX10_error_19 : decode cX10_error 19 = .ok (.aaload, 1) := by decide +kernel
theorem dX10_error_20 : decode cX10_error 20 = .ok (.invokevirtual 229, 3) := by decide +kernel
theorem dX10_error_23 : decode cX10_error 23 = .ok (.goto 8, 3) := by decide +kernel
theorem dX10_error_26 : decode cX10_error 26 = .ok (.aload_n 0, 1) := by decide +kernel
theorem dX10_error_27 : decode cX10_error 27 = .ok (.iconst 1, 1) := by decide +kernel
theorem dX10_error_28 : decode cX10_error 28 = .ok (.invokevirtual 176, 3) := by decide +kernel
theorem dX10_error_31 : decode cX10_error 31 = .ok (.ireturn, 1) := by decide +kernel
theorem dX10_merit_0 : decode cX10_merit 0 = .ok (.aload_n 0, 1) := by decide +kernel
theorem dX10_merit_1 : decode cX10_merit 1 = .ok (.iconst 0, 1) := by decide +kernel
theorem dX10_merit_2 : decode cX10_merit 2 = .ok (.putfield 163, 3) := by decide +kernel
theorem dX10_merit_5 : decode cX10_merit 5 = .ok (.aload_n 0, 1) := by decide +kernel
theorem dX10_merit_6 : decode cX10_merit 6 = .ok (.iload_n 1, 1) := by decide +kernel
theorem dX10_merit_7 : decode cX10_merit 7 = .ok (.invokevirtual 169, 3) := by decide +kernel
theorem dX10_merit_10 : decode cX10_merit 10 = .ok (.ifCond .eq 16, 3) := by decide +kernel
theorem dX10_merit_13 : decode cX10_merit 13 = .ok (.aload_n 0, 1) := by decide +kernel
theorem dX10_merit_14 : decode cX10_merit 14 = .ok (.aload_n 0, 1) := by decide +kernel
theorem dX10_merit_15 : decode cX10_merit 15 = .ok (.getfield 131, 3) := by decide +kernel
theorem dX10_merit_18 : decode cX10_merit 18 = .ok (.iload_n 1, 1) := by decide +kernel
theorem dX10_merit_19 : decode cX10_merit 19 = .ok (.aaload, 1) := by decide +kernel
theorem dX10_merit_20 : decode cX10_merit 20 = .ok (.invokevirtual 232, 3) := by decide +kernel
theorem dX10_merit_23 : decode cX10_merit 23 = .ok (.goto 8, 3) := by decide +kernel
theorem dX10_merit_26 : decode cX10_merit 26 = .ok (.aload_n 0, 1) := by decide +kernel
theorem dX10_merit_27 : decode cX10_merit 27 = .ok (.iconst 1, 1) := by decide +kernel
theorem dX10_merit_28 : decode cX10_merit 28 = .ok (.invokevirtual 176, 3) := by decide +kernel
theorem dX10_merit_31 : decode cX10_merit 31 = .ok (.ireturn, 1) := by decide +kernel
theorem dX10_hits_0 : decode cX10_hits 0 = .ok (.aload_n 0, 1) := by decide +kernel
theorem dX10_hits_1 : decode cX10_hits 1 = .ok (.iconst 0, 1) := by decide +kernel
theorem dX10_hits_2 : decode cX10_hits 2 = .ok (.putfield 163, 3) := by decide +kernel
