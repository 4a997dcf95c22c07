theorem dX0_init_0 : decode cX0_init 0 = .ok (.aload_n 0, 1) := by decide +kernel
theorem dX0_init_1 : decode cX0_init 1 = .ok (.invokespecial 3, 3) := by decide +kernel
theorem dX0_init_4 : decode cX0_init 4 = .ok (.aload_n 0, 1) := by decide +kernel
theorem dX0_init_5 : decode cX0_init 5 = .ok (.new 9, 3) := by decide +kernel
theorem dX0_init_8 : decode cX0_init 8 = .ok (.dup, 1) := by decide +kernel
theorem dX0_init_9 : decode cX0_init 9 = .ok (.invokespecial 11, 3) := by decide +kernel
theorem dX0_init_12 : decode cX0_init 12 = .ok (.putfield 12, 3) := by decide +kernel
theorem dX0_init_15 : decode cX0_init 15 = .ok (.aload_n 0, 1) := by decide +kernel
theorem dX0_init_16 : decode cX0_init 16 = .ok (.bipush 70, 2) := by decide +kernel
theorem dX0_init_18 : decode cX0_init 18 = .ok (.putfield 18, 3) := by decide +kernel
theorem dX0_init_21 : decode cX0_init 21 = .ok (.aload_n 0, 1) := by decide +kernel
theorem dX0_init_22 : decode cX0_init 22 = .ok (.bipush 20, 2) := by decide +kernel
theorem dX0_init_24 : decode cX0_init 24 = .ok (.putfield 22, 3) := by decide +kernel
theorem dX0_init_27 : decode cX0_init 27 = .ok (.aload_n 0, 1) := by decide +kernel
theorem dX0_init_28 : decode cX0_init 28 = .ok (.iconst 5, 1) := by decide +kernel
theorem dX0_init_29 : decode cX0_init 29 = .ok (.putfield 25, 3) := by decide +kernel
theorem dX0_init_32 : decode cX0_init 32 = .ok (.aload_n 0, 1) := by decide +kernel
theorem dX0_init_33 : decode cX0_init 33 = .ok (.iconst 2, 1) := by decide +kernel
theorem dX0_init_34 : decode cX0_init 34 = .ok (.putfield 28, 3) := by decide +kernel
theorem dX0_init_37 : decode cX0_init 37 = .ok (.aload_n 0, 1) := by decide +kernel
theorem dX0_init_38 : decode cX0_init 38 = .ok (.iconst 1, 1) := by decide +kernel
theorem dX0_init_39 : decode cX0_init 39 = .ok (.putfield 31, 3) := by decide +kernel
theorem dX0_init_42 : decode cX0_init 42 = .ok (.return_, 1) := by decide +kernel
theorem dX0_errorAfter_0 : decode cX0_errorAfter 0 = .ok (.iconst 0, 1) := by decide +kernel
theorem dX0_errorAfter_1 : decode cX0_errorAfter 1 = .ok (.istore 4, 2) := by decide +kernel
theorem dX0_errorAfter_3 : decode cX0_errorAfter 3 = .ok (.iload 4, 2) := by decide +kernel
theorem dX0_errorAfter_5 : decode cX0_errorAfter 5 = .ok (.iload_n 1, 1) := by decide +kernel
theorem dX0_errorAfter_6 : decode cX0_errorAfter 6 = .ok (.if_icmp .ge 103, 3) := by decide +kernel
theorem dX0_errorAfter_9 : decode cX0_errorAfter 9 = .ok (.aload_n 0, 1) := by decide +kernel
theorem dX0_errorAfter_10 : decode cX0_errorAfter 10 = .ok (.getfield 12, 3) := by decide +kernel
theorem dX0_errorAfter_13 : decode cX0_errorAfter 13 = .ok (.aload_n 2, 1) := by decide +kernel
theorem dX0_errorAfter_14 : decode cX0_errorAfter 14 = .ok (.aload_n 3, 1) := by decide +kernel
theorem dX0_errorAfter_15 : decode cX0_errorAfter 15 = .ok (.invokevirtual 34, 3) := by decide +kernel
theorem dX0_errorAfter_18 : decode cX0_errorAfter 18 = .ok (.aload_n 0, 1) := by decide +kernel
theorem dX0_errorAfter_19 : decode cX0_errorAfter 19 = .ok (.getfield 31, 3) := by decide +kernel
theorem dX0_errorAfter_22 : decode cX0_errorAfter 22 = .ok (.aload_n 2, 1) := by decide +kernel
theorem dX0_errorAfter_23 : decode cX0_errorAfter 23 = .ok (.getfield 38, 3) := by decide +kernel
theorem dX0_errorAfter_26 : decode cX0_errorAfter 26 = .ok (.invokestatic 43, 3) := by decide +kernel
theorem dX0_errorAfter_29 : decode cX0_errorAfter 29 = .ok (.istore 5, 2) := by decide +kernel
theorem dX0_errorAfter_31 : decode cX0_errorAfter 31 = .ok (.iconst 0, 1) := by decide +kernel
theorem dX0_errorAfter_32 : decode cX0_errorAfter 32 = .ok (.istore 6, 2) := by decide +kernel
theorem dX0_errorAfter_34 : decode cX0_errorAfter 34 = .ok (.iload 6, 2) := by decide +kernel
theorem dX0_errorAfter_36 : decode cX0_errorAfter 36 = .ok (.iload 5, 2) := by decide +kernel
theorem dX0_errorAfter_38 : decode cX0_errorAfter 38 = .ok (.if_icmp .ge 31, 3) := by decide +kernel
theorem dX0_errorAfter_41 : decode cX0_errorAfter 41 = .ok (.aload_n 2, 1) := by decide +kernel
theorem dX0_errorAfter_42 : decode cX0_errorAfter 42 = .ok (.iload 6, 2) := by decide +kernel
theorem dX0_errorAfter_44 : decode cX0_errorAfter 44 = .ok (.invokevirtual 49, 3) := by decide +kernel
theorem dX0_errorAfter_47 : decode cX0_errorAfter 47 = .ok (.aload_n 2, 1) := by decide +kernel
theorem dX0_errorAfter_48 : decode cX0_errorAfter 48 = .ok (.aload_n 0, 1) := by decide +kernel
theorem dX0_errorAfter_49 : decode cX0_errorAfter 49 = .ok (.getfield 12, 3) := by decide +kernel
theorem dX0_errorAfter_52 : decode cX0_errorAfter 52 = .ok (.iload 6, 2) := by decide +kernel
theorem dX0_errorAfter_54 : decode cX0_errorAfter 54 = .ok (.invokevirtual 53, 3) := by decide +kernel
theorem dX0_errorAfter_57 : decode cX0_errorAfter 57 = .ok (.invokevirtual 57, 3) := by decide +kernel
theorem dX0_errorAfter_60 : decode cX0_errorAfter 60 = .ok (.invokevirtual 60, 3) := by decide +kernel
theorem dX0_errorAfter_63 : decode cX0_errorAfter 63 = .ok (.iinc 6 1, 3) := by decide +kernel
theorem dX0_errorAfter_66 : decode cX0_errorAfter 66 = .ok (.goto (-32), 3) := by decide +kernel
theorem dX0_errorAfter_69 : decode cX0_errorAfter 69 = .ok (.iload 5, 2) := by decide +kernel
theorem dX0_errorAfter_71 : decode cX0_errorAfter 71 = .ok (.istore 6, 2) := by decide +kernel
theorem dX0_errorAfter_73 : decode cX0_errorAfter 73 = .ok (.iload 6, 2) := by decide +kernel
theorem dX0_errorAfter_75 : decode cX0_errorAfter 75 = .ok (.aload_n 2, 1) := by decide +kernel
theorem dX0_errorAfter_76 : decode cX0_errorAfter 76 = .ok (.getfield 38, 3) := by decide +kernel
theorem dX0_errorAfter_79 : decode cX0_errorAfter 79 = .ok (.if_icmp .ge 20, 3) := by decide +kernel
theorem dX0_errorAfter_82 : decode cX0_errorAfter 82 = .ok (.aload_n 0, 1) := by decide +kernel
theorem dX0_errorAfter_83 : decode cX0_errorAfter 83 = .ok (.aload_n 2, 1) := by decide +kernel
theorem dX0_errorAfter_84 : decode cX0_errorAfter 84 = .ok (.aload_n 2, 1) := by decide +kernel
theorem dX0_errorAfter_85 : decode cX0_errorAfter 85 = .ok (.iload 6, 2) := by decide +kernel
theorem dX0_errorAfter_87 : decode cX0_errorAfter 87 = .ok (.invokevirtual 49, 3) := by decide +kernel
theorem dX0_errorAfter_90 : decode cX0_errorAfter 90 = .ok (.invokevirtual 66, 3) := by decide +kernel
theorem dX0_errorAfter_93 : decode cX0_errorAfter 93 = .ok (.iinc 6 1, 3) := by decide +kernel
theorem dX0_errorAfter_96 : decode cX0_errorAfter 96 = .ok (.goto (-23), 3) := by decide +kernel
theorem dX0_errorAfter_99 : decode cX0_errorAfter 99 = .ok (.aload_n 2, 1) := by decide +kernel
theorem dX0_errorAfter_100 : decode cX0_errorAfter 100 = .ok (.invokevirtual 70, 3) := by decide +kernel
theorem dX0_errorAfter_103 : decode cX0_errorAfter 103 = .ok (.iinc 4 1, 3) := by decide +kernel
theorem dX0_errorAfter_106 : decode cX0_errorAfter 106 = .ok (.goto (-103), 3) := by decide +kernel
theorem dX0_errorAfter_109 : decode cX0_errorAfter 109 = .ok (.aload_n 0, 1) := by decide +kernel
theorem dX0_errorAfter_110 : decode cX0_errorAfter 110 = .ok (.getfield 12, 3) := by decide +kernel
theorem dX0_errorAfter_113 : decode cX0_errorAfter 113 = .ok (.aload_n 2, 1) := by decide +kernel
theorem dX0_errorAfter_114 : decode cX0_errorAfter 114 = .ok (.aload_n 3, 1) := by decide +kernel
theorem dX0_errorAfter_115 : decode cX0_errorAfter 115 = .ok (.invokevirtual 34, 3) := by decide +kernel
theorem dX0_errorAfter_118 : decode cX0_errorAfter 118 = .ok (.aload_n 3, 1) := by decide +kernel
theorem dX0_errorAfter_119 : decode cX0_errorAfter 119 = .ok (.aload_n 2, 1) := by decide +kernel
theorem dX0_errorAfter_120 : decode cX0_errorAfter 120 = .ok (.aload_n 0, 1) := by decide +kernel
theorem dX0_errorAfter_121 : decode cX0_errorAfter 121 = .ok (.getfield 12, 3) := by decide +kernel
theorem dX0_errorAfter_124 : decode cX0_errorAfter 124 = .ok (.iconst 0, 1) := by decide +kernel
theorem dX0_errorAfter_125 : decode cX0_errorAfter 125 = .ok (.invokevirtual 53, 3) := by decide +kernel
theorem dX0_errorAfter_128 : decode cX0_errorAfter 128 = .ok (.invokevirtual 57, 3) := by decide +kernel
theorem dX0_errorAfter_131 : decode cX0_errorAfter 131 = .ok (.iconst 0, 1) := by decide +kernel
theorem dX0_errorAfter_132 : decode cX0_errorAfter 132 = .ok (.invokevirtual 73, 3) := by decide +kernel
theorem dX0_errorAfter_135 : decode cX0_errorAfter 135 = .ok (.ireturn, 1) := by decide +kernel
theorem dX0_makeYoung_0 : decode cX0_makeYoung 0 = .ok (.aload_n 1, 1) := by decide +kernel
theorem dX0_makeYoung_1 : decode cX0_makeYoung 1 = .ok (.getfield 79, 3) := by decide +kernel
theorem dX0_makeYoung_4 : decode cX0_makeYoung 4 = .ok (.bipush 100, 2) := by decide +kernel
theorem dX0_makeYoung_6 : decode cX0_makeYoung 6 = .ok (.invokevirtual 83, 3) := by decide +kernel
theorem dX0_makeYoung_9 : decode cX0_makeYoung 9 = .ok (.istore_n 3, 1) := by decide +kernel
theorem dX0_makeYoung_10 : decode cX0_makeYoung 10 = .ok (.aload_n 0, 1) := by decide +kernel
theorem dX0_makeYoung_11 : decode cX0_makeYoung 11 = .ok (.aload_n 1, 1) := by decide +kernel
theorem dX0_makeYoung_12 : decode cX0_makeYoung 12 = .ok (.invokevirtual 88, 3) := by decide +kernel
theorem dX0_makeYoung_15 : decode cX0_makeYoung 15 = .ok (.astore 4, 2) := by decide +kernel
theorem dX0_makeYoung_17 : decode cX0_makeYoung 17 = .ok (.aload_n 2, 1) := by decide +kernel
theorem dX0_makeYoung_18 : decode cX0_makeYoung 18 = .ok (.aload 4, 2) := by decide +kernel
theorem dX0_makeYoung_20 : decode cX0_makeYoung 20 = .ok (.invokevirtual 60, 3) := by decide +kernel
theorem dX0_makeYoung_23 : decode cX0_makeYoung 23 = .ok (.iload_n 3, 1) := by decide +kernel
theorem dX0_makeYoung_24 : decode cX0_makeYoung 24 = .ok (.aload_n 0, 1) := by decide +kernel
theorem dX0_makeYoung_25 : decode cX0_makeYoung 25 = .ok (.getfield 18, 3) := by decide +kernel
theorem dX0_makeYoung_28 : decode cX0_makeYoung 28 = .ok (.if_icmp .ge 18, 3) := by decide +kernel
theorem dX0_makeYoung_31 : decode cX0_makeYoung 31 = .ok (.aload_n 1, 1) := by decide +kernel
theorem dX0_makeYoung_32 : decode cX0_makeYoung 32 = .ok (.aload_n 2, 1) := by decide +kernel
theorem dX0_makeYoung_33 : decode cX0_makeYoung 33 = .ok (.aload 4, 2) := by decide +kernel
theorem dX0_makeYoung_35 : decode cX0_makeYoung 35 = .ok (.aload_n 0, 1) := by decide +kernel
theorem dX0_makeYoung_36 : decode cX0_makeYoung 36 = .ok (.aload_n 1, 1) := by decide +kernel
theorem dX0_makeYoung_37 : decode cX0_makeYoung 37 = .ok (.invokevirtual 88, 3) := by decide +kernel
theorem dX0_makeYoung_40 : decode cX0_makeYoung 40 = .ok (.invokestatic 92, 3) := by decide +kernel
theorem dX0_makeYoung_43 : decode cX0_makeYoung 43 = .ok (.goto 53, 3) := by decide +kernel
theorem dX0_makeYoung_46 : decode cX0_makeYoung 46 = .ok (.iload_n 3, 1) := by decide +kernel
theorem dX0_makeYoung_47 : decode cX0_makeYoung 47 = .ok (.aload_n 0, 1) := by decide +kernel
theorem dX0_makeYoung_48 : decode cX0_makeYoung 48 = .ok (.getfield 18, 3) := by decide +kernel
theorem dX0_makeYoung_51 : decode cX0_makeYoung 51 = .ok (.aload_n 0, 1) := by decide +kernel
theorem dX0_makeYoung_52 : decode cX0_makeYoung 52 = .ok (.getfield 22, 3) := by decide +kernel
theorem dX0_makeYoung_55 : decode cX0_makeYoung 55 = .ok (.iadd, 1) := by decide +kernel
theorem dX0_makeYoung_56 : decode cX0_makeYoung 56 = .ok (.if_icmp .ge 14, 3) := by decide +kernel
theorem dX0_makeYoung_59 : decode cX0_makeYoung 59 = .ok (.aload_n 1, 1) := by decide +kernel
theorem dX0_makeYoung_60 : decode cX0_makeYoung 60 = .ok (.getfield 79, 3) := by decide +kernel
theorem dX0_makeYoung_63 : decode cX0_makeYoung 63 = .ok (.aload_n 2, 1) := by decide +kernel
theorem dX0_makeYoung_64 : decode cX0_makeYoung 64 = .ok (.invokestatic 96, 3) := by decide +kernel
theorem dX0_makeYoung_67 : decode cX0_makeYoung 67 = .ok (.goto 29, 3) := by decide +kernel
theorem dX0_makeYoung_70 : decode cX0_makeYoung 70 = .ok (.iload_n 3, 1) := by decide +kernel
theorem dX0_makeYoung_71 : decode cX0_makeYoung 71 = .ok (.aload_n 0, 1) := by decide +kernel
theorem dX0_makeYoung_72 : decode cX0_makeYoung 72 = .ok (.getfield 18, 3) := by decide +kernel
theorem dX0_makeYoung_75 : decode cX0_makeYoung 75 = .ok (.aload_n 0, 1) := by decide +kernel
theorem dX0_makeYoung_76 : decode cX0_makeYoung 76 = .ok (.getfield 22, 3) := by decide +kernel
theorem dX0_makeYoung_79 : decode cX0_makeYoung 79 = .ok (.iadd, 1) := by decide +kernel
theorem dX0_makeYoung_80 : decode cX0_makeYoung 80 = .ok (.aload_n 0, 1) := by decide +kernel
theorem dX0_makeYoung_81 : decode cX0_makeYoung 81 = .ok (.getfield 25, 3) := by decide +kernel
theorem dX0_makeYoung_84 : decode cX0_makeYoung 84 = .ok (.iadd, 1) := by decide +kernel
theorem dX0_makeYoung_85 : decode cX0_makeYoung 85 = .ok (.if_icmp .ge 11, 3) := by decide +kernel
theorem dX0_makeYoung_88 : decode cX0_makeYoung 88 = .ok (.aload_n 1, 1) := by decide +kernel
theorem dX0_makeYoung_89 : decode cX0_makeYoung 89 = .ok (.getfield 79, 3) := by decide +kernel
theorem dX0_makeYoung_92 : decode cX0_makeYoung 92 = .ok (.aload_n 2, 1) := by decide +kernel
theorem dX0_makeYoung_93 : decode cX0_makeYoung 93 = .ok (.invokestatic 100, 3) := by decide +kernel
theorem dX0_makeYoung_96 : decode cX0_makeYoung 96 = .ok (.return_, 1) := by decide +kernel
theorem dX0_choose_0 : decode cX0_choose 0 = .ok (.aload_n 1, 1) := by decide +kernel
theorem dX0_choose_1 : decode cX0_choose 1 = .ok (.getfield 79, 3) := by decide +kernel
theorem dX0_choose_4 : decode cX0_choose 4 = .ok (.aload_n 1, 1) := by decide +kernel
theorem dX0_choose_5 : decode cX0_choose 5 = .ok (.getfield 38, 3) := by decide +kernel
theorem dX0_choose_8 : decode cX0_choose 8 = .ok (.invokevirtual 83, 3) := by decide +kernel
theorem dX0_choose_11 : decode cX0_choose 11 = .ok (.istore_n 2, 1) := by decide +kernel
theorem dX0_choose_12 : decode cX0_choose 12 = .ok (.iconst 1, 1) := by decide +kernel
theorem dX0_choose_13 : decode cX0_choose 13 = .ok (.istore_n 3, 1) := by decide +kernel
theorem dX0_choose_14 : decode cX0_choose 14 = .ok (.iload_n 3, 1) := by decide +kernel
theorem dX0_choose_15 : decode cX0_choose 15 = .ok (.aload_n 0, 1) := by decide +kernel
theorem dX0_choose_16 : decode cX0_choose 16 = .ok (.getfield 28, 3) := by decide +kernel
theorem dX0_choose_19 : decode cX0_choose 19 = .ok (.if_icmp .ge 38, 3) := by decide +kernel
theorem dX0_choose_22 : decode cX0_choose 22 = .ok (.aload_n 1, 1) := by decide +kernel
theorem dX0_choose_23 : decode cX0_choose 23 = .ok (.getfield 79, 3) := by decide +kernel
theorem dX0_choose_26 : decode cX0_choose 26 = .ok (.aload_n 1, 1) := by decide +kernel
theorem dX0_choose_27 : decode cX0_choose 27 = .ok (.getfield 38, 3) := by decide +kernel
theorem dX0_choose_30 : decode cX0_choose 30 = .ok (.invokevirtual 83, 3) := by decide +kernel
theorem dX0_choose_33 : decode cX0_choose 33 = .ok (.istore 4, 2) := by decide +kernel
theorem dX0_choose_35 : decode cX0_choose 35 = .ok (.aload_n 0, 1) := by decide +kernel
theorem dX0_choose_36 : decode cX0_choose 36 = .ok (.getfield 12, 3) := by decide +kernel
theorem dX0_choose_39 : decode cX0_choose 39 = .ok (.iload 4, 2) := by decide +kernel
theorem dX0_choose_41 : decode cX0_choose 41 = .ok (.iload_n 2, 1) := by decide +kernel
theorem dX0_choose_42 : decode cX0_choose 42 = .ok (.invokevirtual 103, 3) := by decide +kernel
theorem dX0_choose_45 : decode cX0_choose 45 = .ok (.ifCond .eq 6, 3) := by decide +kernel
theorem dX0_choose_48 : decode cX0_choose 48 = .ok (.iload 4, 2) := by decide +kernel
theorem dX0_choose_50 : decode cX0_choose 50 = .ok (.istore_n 2, 1) := by decide +kernel
theorem dX0_choose_51 : decode cX0_choose 51 = .ok (.iinc 3 1, 3) := by decide +kernel
theorem dX0_choose_54 : decode cX0_choose 54 = .ok (.goto (-40), 3) := by decide +kernel
theorem dX0_choose_57 : decode cX0_choose 57 = .ok (.aload_n 1, 1) := by decide +kernel
theorem dX0_choose_58 : decode cX0_choose 58 = .ok (.iload_n 2, 1) := by decide +kernel
theorem dX0_choose_59 : decode cX0_choose 59 = .ok (.invokevirtual 57, 3) := by decide +kernel
theorem dX0_choose_62 : decode cX0_choose 62 = .ok (.areturn, 1) := by decide +kernel
theorem dX0_crossYoung_0 : decode cX0_crossYoung 0 = .ok (.aload_n 0, 1) := by decide +kernel
theorem dX0_crossYoung_1 : decode cX0_crossYoung 1 = .ok (.getfield 79, 3) := by decide +kernel
theorem dX0_crossYoung_4 : decode cX0_crossYoung 4 = .ok (.aload_n 2, 1) := by decide +kernel
theorem dX0_crossYoung_5 : decode cX0_crossYoung 5 = .ok (.getfield 107, 3) := by decide +kernel
theorem dX0_crossYoung_8 : decode cX0_crossYoung 8 = .ok (.invokevirtual 83, 3) := by decide +kernel
theorem dX0_crossYoung_11 : decode cX0_crossYoung 11 = .ok (.istore 4, 2) := by decide +kernel
theorem dX0_crossYoung_13 : decode cX0_crossYoung 13 = .ok (.aload_n 2, 1) := by decide +kernel
theorem dX0_crossYoung_14 : decode cX0_crossYoung 14 = .ok (.iload 4, 2) := by decide +kernel
theorem dX0_crossYoung_16 : decode cX0_crossYoung 16 = .ok (.invokevirtual 110, 3) := by decide +kernel
theorem dX0_crossYoung_19 : decode cX0_crossYoung 19 = .ok (.istore 5, 2) := by decide +kernel
theorem dX0_crossYoung_21 : decode cX0_crossYoung 21 = .ok (.aload_n 3, 1) := by decide +kernel
theorem dX0_crossYoung_22 : decode cX0_crossYoung 22 = .ok (.iload 5, 2) := by decide +kernel
theorem dX0_crossYoung_24 : decode cX0_crossYoung 24 = .ok (.invokevirtual 114, 3) := by decide +kernel
theorem dX0_crossYoung_27 : decode cX0_crossYoung 27 = .ok (.istore 6, 2) := by decide +kernel
theorem dX0_crossYoung_29 : decode cX0_crossYoung 29 = .ok (.iload 6, 2) := by decide +kernel
theorem dX0_crossYoung_31 : decode cX0_crossYoung 31 = .ok (.ifCond .ne 14, 3) := by decide +kernel
theorem dX0_crossYoung_34 : decode cX0_crossYoung 34 = .ok (.aload_n 0, 1) := by decide +kernel
theorem dX0_crossYoung_35 : decode cX0_crossYoung 35 = .ok (.dup, 1) := by decide +kernel
theorem dX0_crossYoung_36 : decode cX0_crossYoung 36 = .ok (.getfield 118, 3) := by decide +kernel
theorem dX0_crossYoung_39 : decode cX0_crossYoung 39 = .ok (.iconst 1, 1) := by decide +kernel
theorem dX0_crossYoung_40 : decode cX0_crossYoung 40 = .ok (.iadd, 1) := by decide +kernel
theorem dX0_crossYoung_41 : decode cX0_crossYoung 41 = .ok (.putfield 118, 3) := by decide +kernel
theorem dX0_crossYoung_44 : decode cX0_crossYoung 44 = .ok (.return_, 1) := by decide +kernel
theorem dX0_crossYoung_45 : decode cX0_crossYoung 45 = .ok (.aload_n 3, 1) := by decide +kernel
theorem dX0_crossYoung_46 : decode cX0_crossYoung 46 = .ok (.iload 5, 2) := by decide +kernel
theorem dX0_crossYoung_48 : decode cX0_crossYoung 48 = .ok (.aload_n 0, 1) := by decide +kernel
theorem dX0_crossYoung_49 : decode cX0_crossYoung 49 = .ok (.getfield 79, 3) := by decide +kernel
theorem dX0_crossYoung_52 : decode cX0_crossYoung 52 = .ok (.iload 6, 2) := by decide +kernel
theorem dX0_crossYoung_54 : decode cX0_crossYoung 54 = .ok (.invokevirtual 83, 3) := by decide +kernel
theorem dX0_crossYoung_57 : decode cX0_crossYoung 57 = .ok (.invokevirtual 121, 3) := by decide +kernel
theorem dX0_crossYoung_60 : decode cX0_crossYoung 60 = .ok (.istore 7, 2) := by decide +kernel
theorem dX0_crossYoung_62 : decode cX0_crossYoung 62 = .ok (.aload_n 1, 1) := by decide +kernel
theorem dX0_crossYoung_63 : decode cX0_crossYoung 63 = .ok (.aload_n 2, 1) := by decide +kernel
theorem dX0_crossYoung_64 : decode cX0_crossYoung 64 = .ok (.iload 4, 2) := by decide +kernel
theorem dX0_crossYoung_66 : decode cX0_crossYoung 66 = .ok (.aload_n 3, 1) := by decide +kernel
theorem dX0_crossYoung_67 : decode cX0_crossYoung 67 = .ok (.iload 7, 2) := by decide +kernel
theorem dX0_crossYoung_69 : decode cX0_crossYoung 69 = .ok (.invokevirtual 125, 3) := by decide +kernel
theorem dX0_crossYoung_72 : decode cX0_crossYoung 72 = .ok (.ifCond .ne 18, 3) := by decide +kernel
theorem dX0_crossYoung_75 : decode cX0_crossYoung 75 = .ok (.aload_n 0, 1) := by decide +kernel
theorem dX0_crossYoung_76 : decode cX0_crossYoung 76 = .ok (.dup, 1) := by decide +kernel
theorem dX0_crossYoung_77 : decode cX0_crossYoung 77 = .ok (.getfield 118, 3) := by decide +kernel
theorem dX0_crossYoung_80 : decode cX0_crossYoung 80 = .ok (.iconst 1, 1) := by decide +kernel
theorem dX0_crossYoung_81 : decode cX0_crossYoung 81 = .ok (.iadd, 1) := by decide +kernel
theorem dX0_crossYoung_82 : decode cX0_crossYoung 82 = .ok (.putfield 118, 3) := by decide +kernel
theorem dX0_crossYoung_85 : decode cX0_crossYoung 85 = .ok (.aload_n 1, 1) := by decide +kernel
theorem dX0_crossYoung_86 : decode cX0_crossYoung 86 = .ok (.aload_n 2, 1) := by decide +kernel
theorem dX0_crossYoung_87 : decode cX0_crossYoung 87 = .ok (.invokevirtual 60, 3) := by decide +kernel
theorem dX0_crossYoung_90 : decode cX0_crossYoung 90 = .ok (.return_, 1) := by decide +kernel
theorem dX0_changeYoung_0 : decode cX0_changeYoung 0 = .ok (.aload_n 0, 1) := by decide +kernel
theorem dX0_changeYoung_1 : decode cX0_changeYoung 1 = .ok (.aload_n 1, 1) := by decide +kernel
theorem dX0_changeYoung_2 : decode cX0_changeYoung 2 = .ok (.getfield 107, 3) := by decide +kernel
theorem dX0_changeYoung_5 : decode cX0_changeYoung 5 = .ok (.invokevirtual 83, 3) := by decide +kernel
theorem dX0_changeYoung_8 : decode cX0_changeYoung 8 = .ok (.istore_n 2, 1) := by decide +kernel
theorem dX0_changeYoung_9 : decode cX0_changeYoung 9 = .ok (.aload_n 1, 1) := by decide +kernel
theorem dX0_changeYoung_10 : decode cX0_changeYoung 10 = .ok (.iload_n 2, 1) := by decide +kernel
theorem dX0_changeYoung_11 : decode cX0_changeYoung 11 = .ok (.invokevirtual 129, 3) := by decide +kernel
theorem dX0_changeYoung_14 : decode cX0_changeYoung 14 = .ok (.istore_n 3, 1) := by decide +kernel
theorem dX0_changeYoung_15 : decode cX0_changeYoung 15 = .ok (.iload_n 3, 1) := by decide +kernel
theorem dX0_changeYoung_16 : decode cX0_changeYoung 16 = .ok (.ifCond .ne 22, 3) := by decide +kernel
theorem dX0_changeYoung_19 : decode cX0_changeYoung 19 = .ok (.aload_n 1, 1) := by decide +kernel
theorem dX0_changeYoung_20 : decode cX0_changeYoung 20 = .ok (.iload_n 2, 1) := by decide +kernel
theorem dX0_changeYoung_21 : decode cX0_changeYoung 21 = .ok (.iconst 0, 1) := by decide +kernel
theorem dX0_changeYoung_22 : decode cX0_changeYoung 22 = .ok (.aload_n 0, 1) := by decide +kernel
theorem dX0_changeYoung_23 : decode cX0_changeYoung 23 = .ok (.sipush 199, 3) := by decide +kernel
theorem dX0_changeYoung_26 : decode cX0_changeYoung 26 = .ok (.invokevirtual 83, 3) := by decide +kernel
theorem dX0_changeYoung_29 : decode cX0_changeYoung 29 = .ok (.bipush 99, 2) := by decide +kernel
theorem dX0_changeYoung_31 : decode cX0_changeYoung 31 = .ok (.isub, 1) := by decide +kernel
theorem dX0_changeYoung_32 : decode cX0_changeYoung 32 = .ok (.invokevirtual 132, 3) := by decide +kernel
theorem dX0_changeYoung_35 : decode cX0_changeYoung 35 = .ok (.goto 47, 3) := by decide +kernel
theorem dX0_changeYoung_38 : decode cX0_changeYoung 38 = .ok (.iload_n 3, 1) := by decide +kernel
theorem dX0_changeYoung_39 : decode cX0_changeYoung 39 = .ok (.iconst 1, 1) := by decide +kernel
theorem dX0_changeYoung_40 : decode cX0_changeYoung 40 = .ok (.if_icmp .ne 17, 3) := by decide +kernel
theorem dX0_changeYoung_43 : decode cX0_changeYoung 43 = .ok (.aload_n 1, 1) := by decide +kernel
theorem dX0_changeYoung_44 : decode cX0_changeYoung 44 = .ok (.iload_n 2, 1) := by decide +kernel
theorem dX0_changeYoung_45 : decode cX0_changeYoung 45 = .ok (.iconst 1, 1) := by decide +kernel
theorem dX0_changeYoung_46 : decode cX0_changeYoung 46 = .ok (.aload_n 0, 1) := by decide +kernel
theorem dX0_changeYoung_47 : decode cX0_changeYoung 47 = .ok (.iconst 3, 1) := by decide +kernel
theorem dX0_changeYoung_48 : decode cX0_changeYoung 48 = .ok (.invokevirtual 83, 3) := by decide +kernel
theorem dX0_changeYoung_51 : decode cX0_changeYoung 51 = .ok (.invokevirtual 132, 3) := by decide +kernel
theorem dX0_changeYoung_54 : decode cX0_changeYoung 54 = .ok (.goto 28, 3) := by decide +kernel
theorem dX0_changeYoung_57 : decode cX0_changeYoung 57 = .ok (.aload_n 1, 1) := by decide +kernel
theorem dX0_changeYoung_58 : decode cX0_changeYoung 58 = .ok (.iload_n 2, 1) := by decide +kernel
theorem dX0_changeYoung_59 : decode cX0_changeYoung 59 = .ok (.getstatic 136, 3) := by decide +kernel
theorem dX0_changeYoung_62 : decode cX0_changeYoung 62 = .ok (.iload_n 3, 1) := by decide +kernel
theorem dX0_changeYoung_63 : decode cX0_changeYoung 63 = .ok (.invokestatic 140, 3) := by decide +kernel
theorem dX0_changeYoung_66 : decode cX0_changeYoung 66 = .ok (.aload_n 0, 1) := by decide +kernel
theorem dX0_changeYoung_67 : decode cX0_changeYoung 67 = .ok (.getstatic 144, 3) := by decide +kernel
theorem dX0_changeYoung_70 : decode cX0_changeYoung 70 = .ok (.iload_n 3, 1) := by decide +kernel
theorem dX0_changeYoung_71 : decode cX0_changeYoung 71 = .ok (.invokestatic 140, 3) := by decide +kernel
theorem dX0_changeYoung_74 : decode cX0_changeYoung 74 = .ok (.invokevirtual 83, 3) := by decide +kernel
theorem dX0_changeYoung_77 : decode cX0_changeYoung 77 = .ok (.iadd, 1) := by decide +kernel
theorem dX0_changeYoung_78 : decode cX0_changeYoung 78 = .ok (.iconst 0, 1) := by decide +kernel
theorem dX0_changeYoung_79 : decode cX0_changeYoung 79 = .ok (.invokevirtual 132, 3) := by decide +kernel
theorem dX0_changeYoung_82 : decode cX0_changeYoung 82 = .ok (.return_, 1) := by decide +kernel
theorem dX0_hoistYoung_0 : decode cX0_hoistYoung 0 = .ok (.aload_n 0, 1) := by decide +kernel
theorem dX0_hoistYoung_1 : decode cX0_hoistYoung 1 = .ok (.aload_n 1, 1) := by decide +kernel
theorem dX0_hoistYoung_2 : decode cX0_hoistYoung 2 = .ok (.iconst 1, 1) := by decide +kernel
theorem dX0_hoistYoung_3 : decode cX0_hoistYoung 3 = .ok (.invokevirtual 114, 3) := by decide +kernel
theorem dX0_hoistYoung_6 : decode cX0_hoistYoung 6 = .ok (.invokevirtual 83, 3) := by decide +kernel
theorem dX0_hoistYoung_9 : decode cX0_hoistYoung 9 = .ok (.istore_n 2, 1) := by decide +kernel
theorem dX0_hoistYoung_10 : decode cX0_hoistYoung 10 = .ok (.aload_n 1, 1) := by decide +kernel
theorem dX0_hoistYoung_11 : decode cX0_hoistYoung 11 = .ok (.iconst 0, 1) := by decide +kernel
theorem dX0_hoistYoung_12 : decode cX0_hoistYoung 12 = .ok (.aload_n 1, 1) := by decide +kernel
theorem dX0_hoistYoung_13 : decode cX0_hoistYoung 13 = .ok (.iconst 1, 1) := by decide +kernel
theorem dX0_hoistYoung_14 : decode cX0_hoistYoung 14 = .ok (.iload_n 2, 1) := by decide +kernel
theorem dX0_hoistYoung_15 : decode cX0_hoistYoung 15 = .ok (.invokevirtual 121, 3) := by decide +kernel
theorem dX0_hoistYoung_18 : decode cX0_hoistYoung 18 = .ok (.invokevirtual 147, 3) := by decide +kernel
theorem dX0_hoistYoung_21 : decode cX0_hoistYoung 21 = .ok (.return_, 1) := by decide +kernel
