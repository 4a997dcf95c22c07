theorem dX8_closeGap_0 : decode cX8_closeGap 0 = .ok (.iload_n 2, 1) := by decide +kernel
theorem dX8_closeGap_1 : decode cX8_closeGap 1 = .ok (.iload_n 1, 1) := by decide +kernel
theorem dX8_closeGap_2 : decode cX8_closeGap 2 = .ok (.isub, 1) := by decide +kernel
theorem dX8_closeGap_3 : decode cX8_closeGap 3 = .ok (.istore_n 3, 1) := by decide +kernel
theorem dX8_closeGap_4 : decode cX8_closeGap 4 = .ok (.iload_n 2, 1) := by decide +kernel
theorem dX8_closeGap_5 : decode cX8_closeGap 5 = .ok (.istore 4, 2) := by decide +kernel
theorem dX8_closeGap_7 : decode cX8_closeGap 7 = .ok (.iload 4, 2) := by decide +kernel
theorem dX8_closeGap_9 : decode cX8_closeGap 9 = .ok (.aload_n 0, 1) := by decide +kernel
theorem dX8_closeGap_10 : decode cX8_closeGap 10 = .ok (.getfield 41, 3) := by decide +kernel
theorem dX8_closeGap_13 : decode cX8_closeGap 13 = .ok (.if_icmp .ge 49, 3) := by decide +kernel
theorem dX8_closeGap_16 : decode cX8_closeGap 16 = .ok (.aload_n 0, 1) := by decide +kernel
theorem dX8_closeGap_17 : decode cX8_closeGap 17 = .ok (.getfield 9, 3) := by decide +kernel
theorem dX8_closeGap_20 : decode cX8_closeGap 20 = .ok (.iload 4, 2) := by decide +kernel
theorem dX8_closeGap_22 : decode cX8_closeGap 22 = .ok (.iload_n 3, 1) := by decide +kernel
theorem dX8_closeGap_23 : decode cX8_closeGap 23 = .ok (.isub, 1) := by decide +kernel
theorem dX8_closeGap_24 : decode cX8_closeGap 24 = .ok (.aload_n 0, 1) := by decide +kernel
theorem dX8_closeGap_25 : decode cX8_closeGap 25 = .ok (.getfield 9, 3) := by decide +kernel
theorem dX8_closeGap_28 : decode cX8_closeGap 28 = .ok (.iload 4, 2) := by decide +kernel
theorem dX8_closeGap_30 : decode cX8_closeGap 30 = .ok (.invokestatic 24, 3) := by decide +kernel
theorem dX8_closeGap_33 : decode cX8_closeGap 33 = .ok (.invokestatic 55, 3) := by decide +kernel
theorem dX8_closeGap_36 : decode cX8_closeGap 36 = .ok (.aload_n 0, 1) := by decide +kernel
theorem dX8_closeGap_37 : decode cX8_closeGap 37 = .ok (.getfield 15, 3) := by decide +kernel
theorem dX8_closeGap_40 : decode cX8_closeGap 40 = .ok (.iload 4, 2) := by decide +kernel
theorem dX8_closeGap_42 : decode cX8_closeGap 42 = .ok (.iload_n 3, 1) := by decide +kernel
theorem dX8_closeGap_43 : decode cX8_closeGap 43 = .ok (.isub, 1) := by decide +kernel
theorem dX8_closeGap_44 : decode cX8_closeGap 44 = .ok (.aload_n 0, 1) := by decide +kernel
theorem dX8_closeGap_45 : decode cX8_closeGap 45 = .ok (.getfield 15, 3) := by decide +kernel
theorem dX8_closeGap_48 : decode cX8_closeGap 48 = .ok (.iload 4, 2) := by decide +kernel
theorem dX8_closeGap_50 : decode cX8_closeGap 50 = .ok (.invokestatic 24, 3) := by decide +kernel
theorem dX8_closeGap_53 : decode cX8_closeGap 53 = .ok (.invokestatic 55, 3) := by decide +kernel
theorem dX8_closeGap_56 : decode cX8_closeGap 56 = .ok (.iinc 4 1, 3) := by decide +kernel
theorem dX8_closeGap_59 : decode cX8_closeGap 59 = .ok (.goto (-52), 3) := by decide +kernel
theorem dX8_closeGap_62 : decode cX8_closeGap 62 = .ok (.aload_n 0, 1) := by decide +kernel
theorem dX8_closeGap_63 : decode cX8_closeGap 63 = .ok (.dup, 1) := by decide +kernel
theorem dX8_closeGap_64 : decode cX8_closeGap 64 = .ok (.getfield 41, 3) := by decide +kernel
theorem dX8_closeGap_67 : decode cX8_closeGap 67 = .ok (.iload_n 3, 1) := by decide +kernel
theorem dX8_closeGap_68 : decode cX8_closeGap 68 = .ok (.isub, 1) := by decide +kernel
theorem dX8_closeGap_69 : decode cX8_closeGap 69 = .ok (.putfield 41, 3) := by decide +kernel
theorem dX8_closeGap_72 : decode cX8_closeGap 72 = .ok (.return_, 1) := by decide +kernel
theorem dX8_measure_0 : decode cX8_measure 0 = .ok (.aload_n 0, 1) := by decide +kernel
theorem dX8_measure_1 : decode cX8_measure 1 = .ok (.getfield 41, 3) := by decide +kernel
theorem dX8_measure_4 : decode cX8_measure 4 = .ok (.iconst 1, 1) := by decide +kernel
theorem dX8_measure_5 : decode cX8_measure 5 = .ok (.isub, 1) := by decide +kernel
theorem dX8_measure_6 : decode cX8_measure 6 = .ok (.istore_n 1, 1) := by decide +kernel
theorem dX8_measure_7 : decode cX8_measure 7 = .ok (.iload_n 1, 1) := by decide +kernel
theorem dX8_measure_8 : decode cX8_measure 8 = .ok (.ifCond .lt 95, 3) := by decide +kernel
theorem dX8_measure_11 : decode cX8_measure 11 = .ok (.getstatic 77, 3) := by decide +kernel
theorem dX8_measure_14 : decode cX8_measure 14 = .ok (.aload_n 0, 1) := by decide +kernel
theorem dX8_measure_15 : decode cX8_measure 15 = .ok (.getfield 9, 3) := by decide +kernel
theorem dX8_measure_18 : decode cX8_measure 18 = .ok (.iload_n 1, 1) := by decide +kernel
theorem dX8_measure_19 : decode cX8_measure 19 = .ok (.invokestatic 24, 3) := by decide +kernel
theorem dX8_measure_22 : decode cX8_measure 22 = .ok (.invokestatic 24, 3) := by decide +kernel
theorem dX8_measure_25 : decode cX8_measure 25 = .ok (.istore_n 2, 1) := by decide +kernel
theorem dX8_measure_26 : decode cX8_measure 26 = .ok (.iload_n 1, 1) := by decide +kernel
theorem dX8_measure_27 : decode cX8_measure 27 = .ok (.iconst 1, 1) := by decide +kernel
theorem dX8_measure_28 : decode cX8_measure 28 = .ok (.iadd, 1) := by decide +kernel
theorem dX8_measure_29 : decode cX8_measure 29 = .ok (.istore_n 3, 1) := by decide +kernel
theorem dX8_measure_30 : decode cX8_measure 30 = .ok (.iconst 0, 1) := by decide +kernel
theorem dX8_measure_31 : decode cX8_measure 31 = .ok (.istore 4, 2) := by decide +kernel
theorem dX8_measure_33 : decode cX8_measure 33 = .ok (.iconst 0, 1) := by decide +kernel
theorem dX8_measure_34 : decode cX8_measure 34 = .ok (.istore 5, 2) := by decide +kernel
theorem dX8_measure_36 : decode cX8_measure 36 = .ok (.iload 5, 2) := by decide +kernel
theorem dX8_measure_38 : decode cX8_measure 38 = .ok (.iload_n 2, 1) := by decide +kernel
theorem dX8_measure_39 : decode cX8_measure 39 = .ok (.if_icmp .ge 35, 3) := by decide +kernel
theorem dX8_measure_42 : decode cX8_measure 42 = .ok (.iload 4, 2) := by decide +kernel
theorem dX8_measure_44 : decode cX8_measure 44 = .ok (.aload_n 0, 1) := by decide +kernel
theorem dX8_measure_45 : decode cX8_measure 45 = .ok (.getfield 21, 3) := by decide +kernel
theorem dX8_measure_48 : decode cX8_measure 48 = .ok (.iload_n 3, 1) := by decide +kernel
theorem dX8_measure_49 : decode cX8_measure 49 = .ok (.invokestatic 24, 3) := by decide +kernel
theorem dX8_measure_52 : decode cX8_measure 52 = .ok (.invokestatic 80, 3) := by decide +kernel
theorem dX8_measure_55 : decode cX8_measure 55 = .ok (.istore 4, 2) := by decide +kernel
theorem dX8_measure_57 : decode cX8_measure 57 = .ok (.iload_n 3, 1) := by decide +kernel
theorem dX8_measure_58 : decode cX8_measure 58 = .ok (.aload_n 0, 1) := by decide +kernel
theorem dX8_measure_59 : decode cX8_measure 59 = .ok (.getfield 18, 3) := by decide +kernel
theorem dX8_measure_62 : decode cX8_measure 62 = .ok (.iload_n 3, 1) := by decide +kernel
theorem dX8_measure_63 : decode cX8_measure 63 = .ok (.invokestatic 24, 3) := by decide +kernel
theorem dX8_measure_66 : decode cX8_measure 66 = .ok (.iadd, 1) := by decide +kernel
theorem dX8_measure_67 : decode cX8_measure 67 = .ok (.istore_n 3, 1) := by decide +kernel
theorem dX8_measure_68 : decode cX8_measure 68 = .ok (.iinc 5 1, 3) := by decide +kernel
theorem dX8_measure_71 : decode cX8_measure 71 = .ok (.goto (-35), 3) := by decide +kernel
theorem dX8_measure_74 : decode cX8_measure 74 = .ok (.aload_n 0, 1) := by decide +kernel
theorem dX8_measure_75 : decode cX8_measure 75 = .ok (.getfield 18, 3) := by decide +kernel
theorem dX8_measure_78 : decode cX8_measure 78 = .ok (.iload_n 1, 1) := by decide +kernel
theorem dX8_measure_79 : decode cX8_measure 79 = .ok (.iload_n 3, 1) := by decide +kernel
theorem dX8_measure_80 : decode cX8_measure 80 = .ok (.iload_n 1, 1) := by decide +kernel
theorem dX8_measure_81 : decode cX8_measure 81 = .ok (.isub, 1) := by decide +kernel
theorem dX8_measure_82 : decode cX8_measure 82 = .ok (.invokestatic 55, 3) := by decide +kernel
theorem dX8_measure_85 : decode cX8_measure 85 = .ok (.aload_n 0, 1) := by decide +kernel
theorem dX8_measure_86 : decode cX8_measure 86 = .ok (.getfield 21, 3) := by decide +kernel
theorem dX8_measure_89 : decode cX8_measure 89 = .ok (.iload_n 1, 1) := by decide +kernel
theorem dX8_measure_90 : decode cX8_measure 90 = .ok (.iload 4, 2) := by decide +kernel
theorem dX8_measure_92 : decode cX8_measure 92 = .ok (.iconst 1, 1) := by decide +kernel
theorem dX8_measure_93 : decode cX8_measure 93 = .ok (.iadd, 1) := by decide +kernel
theorem dX8_measure_94 : decode cX8_measure 94 = .ok (.invokestatic 55, 3) := by decide +kernel
theorem dX8_measure_97 : decode cX8_measure 97 = .ok (.iinc 1 (-1), 3) := by decide +kernel
theorem dX8_measure_100 : decode cX8_measure 100 = .ok (.goto (-93), 3) := by decide +kernel
theorem dX8_measure_103 : decode cX8_measure 103 = .ok (.aload_n 0, 1) := by decide +kernel
theorem dX8_measure_104 : decode cX8_measure 104 = .ok (.aload_n 0, 1) := by decide +kernel
theorem dX8_measure_105 : decode cX8_measure 105 = .ok (.getfield 41, 3) := by decide +kernel
theorem dX8_measure_108 : decode cX8_measure 108 = .ok (.ifCond .ne 7, 3) := by decide +kernel
theorem dX8_measure_111 : decode cX8_measure 111 = .ok (.iconst 0, 1) := by decide +kernel
theorem dX8_measure_112 : decode cX8_measure 112 = .ok (.goto 11, 3) := by decide +kernel
theorem dX8_measure_115 : decode cX8_measure 115 = .ok (.aload_n 0, 1) := by decide +kernel
theorem dX8_measure_116 : decode cX8_measure 116 = .ok (.getfield 21, 3) := by decide +kernel
theorem dX8_measure_119 : decode cX8_measure 119 = .ok (.iconst 0, 1) := by decide +kernel
theorem dX8_measure_120 : decode cX8_measure 120 = .ok (.invokestatic 24, 3) := by decide +kernel
theorem dX8_measure_123 : decode cX8_measure 123 = .ok (.putfield 74, 3) := by decide +kernel
theorem dX8_measure_126 : decode cX8_measure 126 = .ok (.return_, 1) := by decide +kernel
