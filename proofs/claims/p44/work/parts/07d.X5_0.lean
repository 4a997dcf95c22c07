theorem dX5_init_0 : decode cX5_init 0 = .ok (.aload_n 0, 1) := by decide +kernel
theorem dX5_init_1 : decode cX5_init 1 = .ok (.invokespecial 3, 3) := by decide +kernel
theorem dX5_init_4 : decode cX5_init 4 = .ok (.aload_n 0, 1) := by decide +kernel
theorem dX5_init_5 : decode cX5_init 5 = .ok (.iconst 3, 1) := by decide +kernel
theorem dX5_init_6 : decode cX5_init 6 = .ok (.newarray .int, 2) := by decide +kernel
theorem dX5_init_8 : decode cX5_init 8 = .ok (.putfield 9, 3) := by decide +kernel
theorem dX5_init_11 : decode cX5_init 11 = .ok (.aload_n 0, 1) := by decide +kernel
theorem dX5_init_12 : decode cX5_init 12 = .ok (.bipush 40, 2) := by decide +kernel
theorem dX5_init_14 : decode cX5_init 14 = .ok (.newarray .int, 2) := by decide +kernel
theorem dX5_init_16 : decode cX5_init 16 = .ok (.putfield 15, 3) := by decide +kernel
theorem dX5_init_19 : decode cX5_init 19 = .ok (.return_, 1) := by decide +kernel
theorem dX5_setInputs_0 : decode cX5_setInputs 0 = .ok (.aload_n 0, 1) := by decide +kernel
theorem dX5_setInputs_1 : decode cX5_setInputs 1 = .ok (.getfield 9, 3) := by decide +kernel
theorem dX5_setInputs_4 : decode cX5_setInputs 4 = .ok (.iconst 0, 1) := by decide +kernel
theorem dX5_setInputs_5 : decode cX5_setInputs 5 = .ok (.iload_n 1, 1) := by decide +kernel
theorem dX5_setInputs_6 : decode cX5_setInputs 6 = .ok (.invokestatic 18, 3) := by decide +kernel
theorem dX5_setInputs_9 : decode cX5_setInputs 9 = .ok (.aload_n 0, 1) := by decide +kernel
theorem dX5_setInputs_10 : decode cX5_setInputs 10 = .ok (.getfield 9, 3) := by decide +kernel
theorem dX5_setInputs_13 : decode cX5_setInputs 13 = .ok (.iconst 1, 1) := by decide +kernel
theorem dX5_setInputs_14 : decode cX5_setInputs 14 = .ok (.iload_n 2, 1) := by decide +kernel
theorem dX5_setInputs_15 : decode cX5_setInputs 15 = .ok (.invokestatic 18, 3) := by decide +kernel
theorem dX5_setInputs_18 : decode cX5_setInputs 18 = .ok (.aload_n 0, 1) := by decide +kernel
theorem dX5_setInputs_19 : decode cX5_setInputs 19 = .ok (.getfield 9, 3) := by decide +kernel
theorem dX5_setInputs_22 : decode cX5_setInputs 22 = .ok (.iconst 2, 1) := by decide +kernel
theorem dX5_setInputs_23 : decode cX5_setInputs 23 = .ok (.iload_n 3, 1) := by decide +kernel
theorem dX5_setInputs_24 : decode cX5_setInputs 24 = .ok (.invokestatic 18, 3) := by decide +kernel
theorem dX5_setInputs_27 : decode cX5_setInputs 27 = .ok (.return_, 1) := by decide +kernel
theorem dX5_resultOf_0 : decode cX5_resultOf 0 = .ok (.iload_n 2, 1) := by decide +kernel
theorem dX5_resultOf_1 : decode cX5_resultOf 1 = .ok (.aload_n 1, 1) := by decide +kernel
theorem dX5_resultOf_2 : decode cX5_resultOf 2 = .ok (.getfield 22, 3) := by decide +kernel
theorem dX5_resultOf_5 : decode cX5_resultOf 5 = .ok (.iload_n 2, 1) := by decide +kernel
theorem dX5_resultOf_6 : decode cX5_resultOf 6 = .ok (.invokestatic 27, 3) := by decide +kernel
theorem dX5_resultOf_9 : decode cX5_resultOf 9 = .ok (.iadd, 1) := by decide +kernel
theorem dX5_resultOf_10 : decode cX5_resultOf 10 = .ok (.iconst 1, 1) := by decide +kernel
theorem dX5_resultOf_11 : decode cX5_resultOf 11 = .ok (.isub, 1) := by decide +kernel
theorem dX5_resultOf_12 : decode cX5_resultOf 12 = .ok (.istore_n 3, 1) := by decide +kernel
theorem dX5_resultOf_13 : decode cX5_resultOf 13 = .ok (.iload_n 3, 1) := by decide +kernel
theorem dX5_resultOf_14 : decode cX5_resultOf 14 = .ok (.iload_n 2, 1) := by decide +kernel
theorem dX5_resultOf_15 : decode cX5_resultOf 15 = .ok (.if_icmp .lt 171, 3) := by decide +kernel
theorem dX5_resultOf_18 : decode cX5_resultOf 18 = .ok (.aload_n 1, 1) := by decide +kernel
theorem dX5_resultOf_19 : decode cX5_resultOf 19 = .ok (.getfield 31, 3) := by decide +kernel
theorem dX5_resultOf_22 : decode cX5_resultOf 22 = .ok (.iload_n 3, 1) := by decide +kernel
theorem dX5_resultOf_23 : decode cX5_resultOf 23 = .ok (.invokestatic 27, 3) := by decide +kernel
theorem dX5_resultOf_26 : decode cX5_resultOf 26 = .ok (.istore 4, 2) := by decide +kernel
theorem dX5_resultOf_28 : decode cX5_resultOf 28 = .ok (.aload_n 1, 1) := by decide +kernel
theorem dX5_resultOf_29 : decode cX5_resultOf 29 = .ok (.getfield 34, 3) := by decide +kernel
theorem dX5_resultOf_32 : decode cX5_resultOf 32 = .ok (.iload_n 3, 1) := by decide +kernel
theorem dX5_resultOf_33 : decode cX5_resultOf 33 = .ok (.invokestatic 27, 3) := by decide +kernel
theorem dX5_resultOf_36 : decode cX5_resultOf 36 = .ok (.istore 5, 2) := by decide +kernel
theorem dX5_resultOf_38 : decode cX5_resultOf 38 = .ok (.iload_n 3, 1) := by decide +kernel
theorem dX5_resultOf_39 : decode cX5_resultOf 39 = .ok (.iconst 1, 1) := by decide +kernel
theorem dX5_resultOf_40 : decode cX5_resultOf 40 = .ok (.iadd, 1) := by decide +kernel
theorem dX5_resultOf_41 : decode cX5_resultOf 41 = .ok (.istore 6, 2) := by decide +kernel
theorem dX5_resultOf_43 : decode cX5_resultOf 43 = .ok (.iload 6, 2) := by decide +kernel
theorem dX5_resultOf_45 : decode cX5_resultOf 45 = .ok (.aload_n 1, 1) := by decide +kernel
theorem dX5_resultOf_46 : decode cX5_resultOf 46 = .ok (.getfield 22, 3) := by decide +kernel
theorem dX5_resultOf_49 : decode cX5_resultOf 49 = .ok (.iload 6, 2) := by decide +kernel
theorem dX5_resultOf_51 : decode cX5_resultOf 51 = .ok (.invokestatic 27, 3) := by decide +kernel
theorem dX5_resultOf_54 : decode cX5_resultOf 54 = .ok (.iadd, 1) := by decide +kernel
theorem dX5_resultOf_55 : decode cX5_resultOf 55 = .ok (.istore 7, 2) := by decide +kernel
theorem dX5_resultOf_57 : decode cX5_resultOf 57 = .ok (.iload 7, 2) := by decide +kernel
theorem dX5_resultOf_59 : decode cX5_resultOf 59 = .ok (.aload_n 1, 1) := by decide +kernel
theorem dX5_resultOf_60 : decode cX5_resultOf 60 = .ok (.getfield 22, 3) := by decide +kernel
theorem dX5_resultOf_63 : decode cX5_resultOf 63 = .ok (.iload 7, 2) := by decide +kernel
theorem dX5_resultOf_65 : decode cX5_resultOf 65 = .ok (.invokestatic 27, 3) := by decide +kernel
theorem dX5_resultOf_68 : decode cX5_resultOf 68 = .ok (.iadd, 1) := by decide +kernel
theorem dX5_resultOf_69 : decode cX5_resultOf 69 = .ok (.istore 8, 2) := by decide +kernel
theorem dX5_resultOf_71 : decode cX5_resultOf 71 = .ok (.iload 4, 2) := by decide +kernel
theorem dX5_resultOf_73 : decode cX5_resultOf 73 = .ok (.ifCond .ne 10, 3) := by decide +kernel
theorem dX5_resultOf_76 : decode cX5_resultOf 76 = .ok (.iload 5, 2) := by decide +kernel
theorem dX5_resultOf_78 : decode cX5_resultOf 78 = .ok (.istore 9, 2) := by decide +kernel
theorem dX5_resultOf_80 : decode cX5_resultOf 80 = .ok (.goto 87, 3) := by decide +kernel
theorem dX5_resultOf_83 : decode cX5_resultOf 83 = .ok (.iload 4, 2) := by decide +kernel
theorem dX5_resultOf_85 : decode cX5_resultOf 85 = .ok (.iconst 1, 1) := by decide +kernel
theorem dX5_resultOf_86 : decode cX5_resultOf 86 = .ok (.if_icmp .ne 17, 3) := by decide +kernel
theorem dX5_resultOf_89 : decode cX5_resultOf 89 = .ok (.aload_n 0, 1) := by decide +kernel
theorem dX5_resultOf_90 : decode cX5_resultOf 90 = .ok (.getfield 9, 3) := by decide +kernel
theorem dX5_resultOf_93 : decode cX5_resultOf 93 = .ok (.iload 5, 2) := by decide +kernel
theorem dX5_resultOf_95 : decode cX5_resultOf 95 = .ok (.invokestatic 27, 3) := by decide +kernel
theorem dX5_resultOf_98 : decode cX5_resultOf 98 = .ok (.istore 9, 2) := by decide +kernel
theorem dX5_resultOf_100 : decode cX5_resultOf 100 = .ok (.goto 67, 3) := by decide +kernel
theorem dX5_resultOf_103 : decode cX5_resultOf 103 = .ok (.iload 4, 2) := by decide +kernel
theorem dX5_resultOf_105 : decode cX5_resultOf 105 = .ok (.bipush 8, 2) := by decide +kernel
theorem dX5_resultOf_107 : decode cX5_resultOf 107 = .ok (.if_icmp .ne 35, 3) := by decide +kernel
theorem dX5_resultOf_110 : decode cX5_resultOf 110 = .ok (.aload_n 0, 1) := by decide +kernel
theorem dX5_resultOf_111 : decode cX5_resultOf 111 = .ok (.getfield 15, 3) := by decide +kernel
theorem dX5_resultOf_114 : decode cX5_resultOf 114 = .ok (.aload_n 0, 1) := by decide +kernel
theorem dX5_resultOf_115 : decode cX5_resultOf 115 = .ok (.getfield 15, 3) := by decide +kernel
theorem dX5_resultOf_118 : decode cX5_resultOf 118 = .ok (.iload 6, 2) := by decide +kernel
theorem dX5_resultOf_120 : decode cX5_resultOf 120 = .ok (.invokestatic 27, 3) := by decide +kernel
theorem dX5_resultOf_123 : decode cX5_resultOf 123 = .ok (.iconst 1, 1) := by decide +kernel
theorem dX5_resultOf_124 : decode cX5_resultOf 124 = .ok (.if_icmp .ne 8, 3) := by decide +kernel
theorem dX5_resultOf_127 : decode cX5_resultOf 127 = .ok (.iload 7, 2) := by decide +kernel
theorem dX5_resultOf_129 : decode cX5_resultOf 129 = .ok (.goto 5, 3) := by decide +kernel
theorem dX5_resultOf_132 : decode cX5_resultOf 132 = .ok (.iload 8, 2) := by decide +kernel
theorem dX5_resultOf_134 : decode cX5_resultOf 134 = .ok (.invokestatic 27, 3) := by decide +kernel
theorem dX5_resultOf_137 : decode cX5_resultOf 137 = .ok (.istore 9, 2) := by decide +kernel
theorem dX5_resultOf_139 : decode cX5_resultOf 139 = .ok (.goto 28, 3) := by decide +kernel
theorem dX5_resultOf_142 : decode cX5_resultOf 142 = .ok (.iload 4, 2) := by decide +kernel
theorem dX5_resultOf_144 : decode cX5_resultOf 144 = .ok (.aload_n 0, 1) := by decide +kernel
theorem dX5_resultOf_145 : decode cX5_resultOf 145 = .ok (.getfield 15, 3) := by decide +kernel
theorem dX5_resultOf_148 : decode cX5_resultOf 148 = .ok (.iload 6, 2) := by decide +kernel
theorem dX5_resultOf_150 : decode cX5_resultOf 150 = .ok (.invokestatic 27, 3) := by decide +kernel
theorem dX5_resultOf_153 : decode cX5_resultOf 153 = .ok (.aload_n 0, 1) := by decide +kernel
theorem dX5_resultOf_154 : decode cX5_resultOf 154 = .ok (.getfield 15, 3) := by decide +kernel
theorem dX5_resultOf_157 : decode cX5_resultOf 157 = .ok (.iload 7, 2) := by decide +kernel
theorem dX5_resultOf_159 : decode cX5_resultOf 159 = .ok (.invokestatic 27, 3) := by decide +kernel
theorem dX5_resultOf_162 : decode cX5_resultOf 162 = .ok (.invokestatic 37, 3) := by decide +kernel
theorem dX5_resultOf_165 : decode cX5_resultOf 165 = .ok (.istore 9, 2) := by decide +kernel
theorem dX5_resultOf_167 : decode cX5_resultOf 167 = .ok (.aload_n 0, 1) := by decide +kernel
theorem dX5_resultOf_168 : decode cX5_resultOf 168 = .ok (.getfield 15, 3) := by decide +kernel
theorem dX5_resultOf_171 : decode cX5_resultOf 171 = .ok (.iload_n 3, 1) := by decide +kernel
theorem dX5_resultOf_172 : decode cX5_resultOf 172 = .ok (.iload 9, 2) := by decide +kernel
theorem dX5_resultOf_174 : decode cX5_resultOf 174 = .ok (.invokestatic 41, 3) := by decide +kernel
theorem dX5_resultOf_177 : decode cX5_resultOf 177 = .ok (.invokestatic 18, 3) := by decide +kernel
theorem dX5_resultOf_180 : decode cX5_resultOf 180 = .ok (.iinc 3 (-1), 3) := by decide +kernel
theorem dX5_resultOf_183 : decode cX5_resultOf 183 = .ok (.goto (-170), 3) := by decide +kernel
theorem dX5_resultOf_186 : decode cX5_resultOf 186 = .ok (.aload_n 0, 1) := by decide +kernel
theorem dX5_resultOf_187 : decode cX5_resultOf 187 = .ok (.getfield 15, 3) := by decide +kernel
theorem dX5_resultOf_190 : decode cX5_resultOf 190 = .ok (.iload_n 2, 1) := by decide +kernel
theorem dX5_resultOf_191 : decode cX5_resultOf 191 = .ok (.invokestatic 27, 3) := by decide +kernel
theorem dX5_resultOf_194 : decode cX5_resultOf 194 = .ok (.ireturn, 1) := by decide +kernel
theorem dX5_pairResult_0 : decode cX5_pairResult 0 = .ok (.iload_n 0, 1) := by decide +kernel
theorem dX5_pairResult_1 : decode cX5_pairResult 1 = .ok (.tableswitch 135 2 13 #[63, 67, 71, 75, 87, 98, 135, 109, 120, 87, 98, 131], 63) := by decide +kernel
theorem dX5_pairResult_64 : decode cX5_pairResult 64 = .ok (.iload_n 1, 1) := by decide +kernel
theorem dX5_pairResult_65 : decode cX5_pairResult 65 = .ok (.iload_n 2, 1) := by decide +kernel
theorem dX5_pairResult_66 : decode cX5_pairResult 66 = .ok (.iadd, 1) := by decide +kernel
theorem dX5_pairResult_67 : decode cX5_pairResult 67 = .ok (.ireturn, 1) := by decide +kernel
theorem dX5_pairResult_68 : decode cX5_pairResult 68 = .ok (.iload_n 1, 1) := by decide +kernel
theorem dX5_pairResult_69 : decode cX5_pairResult 69 = .ok (.iload_n 2, 1) := by decide +kernel
theorem dX5_pairResult_70 : decode cX5_pairResult 70 = .ok (.isub, 1) := by decide +kernel
theorem dX5_pairResult_71 : decode cX5_pairResult 71 = .ok (.ireturn, 1) := by decide +kernel
theorem dX5_pairResult_72 : decode cX5_pairResult 72 = .ok (.iload_n 1, 1) := by decide +kernel
theorem dX5_pairResult_73 : decode cX5_pairResult 73 = .ok (.iload_n 2, 1) := by decide +kernel
theorem dX5_pairResult_74 : decode cX5_pairResult 74 = .ok (.imul, 1) := by decide +kernel
theorem dX5_pairResult_75 : decode cX5_pairResult 75 = .ok (.ireturn, 1) := by decide +kernel
theorem dX5_pairResult_76 : decode cX5_pairResult 76 = .ok (.iload_n 2, 1) := by decide +kernel
theorem dX5_pairResult_77 : decode cX5_pairResult 77 = .ok (.ifCond .ne 7, 3) := by decide +kernel
theorem dX5_pairResult_80 : decode cX5_pairResult 80 = .ok (.iload_n 1, 1) := by decide +kernel
theorem dX5_pairResult_81 : decode cX5_pairResult 81 = .ok (.goto 6, 3) := by decide +kernel
theorem dX5_pairResult_84 : decode cX5_pairResult 84 = .ok (.iload_n 1, 1) := by decide +kernel
theorem dX5_pairResult_85 : decode cX5_pairResult 85 = .ok (.iload_n 2, 1) := by decide +kernel
theorem dX5_pairResult_86 : decode cX5_pairResult 86 = .ok (.idiv, 1) := by decide +kernel
theorem dX5_pairResult_87 : decode cX5_pairResult 87 = .ok (.ireturn, 1) := by decide +kernel
theorem dX5_pairResult_88 : decode cX5_pairResult 88 = .ok (.iload_n 1, 1) := by decide +kernel
theorem dX5_pairResult_89 : decode cX5_pairResult 89 = .ok (.iload_n 2, 1) := by decide +kernel
theorem dX5_pairResult_90 : decode cX5_pairResult 90 = .ok (.if_icmp .ge 7, 3) := by decide +kernel
theorem dX5_pairResult_93 : decode cX5_pairResult 93 = .ok (.iload_n 1, 1) := by decide +kernel
theorem dX5_pairResult_94 : decode cX5_pairResult 94 = .ok (.goto 4, 3) := by decide +kernel
theorem dX5_pairResult_97 : decode cX5_pairResult 97 = .ok (.iload_n 2, 1) := by decide +kernel
theorem dX5_pairResult_98 : decode cX5_pairResult 98 = .ok (.ireturn, 1) := by decide +kernel
theorem dX5_pairResult_99 : decode cX5_pairResult 99 = .ok (.iload_n 1, 1) := by decide +kernel
theorem dX5_pairResult_100 : decode cX5_pairResult 100 = .ok (.iload_n 2, 1) := by decide +kernel
theorem dX5_pairResult_101 : decode cX5_pairResult 101 = .ok (.if_icmp .le 7, 3) := by decide +kernel
theorem dX5_pairResult_104 : decode cX5_pairResult 104 = .ok (.iload_n 1, 1) := by decide +kernel
theorem dX5_pairResult_105 : decode cX5_pairResult 105 = .ok (.goto 4, 3) := by decide +kernel
theorem dX5_pairResult_108 : decode cX5_pairResult 108 = .ok (.iload_n 2, 1) := by decide +kernel
theorem dX5_pairResult_109 : decode cX5_pairResult 109 = .ok (.ireturn, 1) := by decide +kernel
theorem dX5_pairResult_110 : decode cX5_pairResult 110 = .ok (.iload_n 1, 1) := by decide +kernel
theorem dX5_pairResult_111 : decode cX5_pairResult 111 = .ok (.iload_n 2, 1) := by decide +kernel
theorem dX5_pairResult_112 : decode cX5_pairResult 112 = .ok (.if_icmp .ge 7, 3) := by decide +kernel
theorem dX5_pairResult_115 : decode cX5_pairResult 115 = .ok (.iconst 1, 1) := by decide +kernel
theorem dX5_pairResult_116 : decode cX5_pairResult 116 = .ok (.goto 4, 3) := by decide +kernel
theorem dX5_pairResult_119 : decode cX5_pairResult 119 = .ok (.iconst 0, 1) := by decide +kernel
theorem dX5_pairResult_120 : decode cX5_pairResult 120 = .ok (.ireturn, 1) := by decide +kernel
theorem dX5_pairResult_121 : decode cX5_pairResult 121 = .ok (.iload_n 1, 1) := by decide +kernel
theorem dX5_pairResult_122 : decode cX5_pairResult 122 = .ok (.iload_n 2, 1) := by decide +kernel
theorem dX5_pairResult_123 : decode cX5_pairResult 123 = .ok (.if_icmp .ne 7, 3) := by decide +kernel
theorem dX5_pairResult_126 : decode cX5_pairResult 126 = .ok (.iconst 1, 1) := by decide +kernel
theorem dX5_pairResult_127 : decode cX5_pairResult 127 = .ok (.goto 4, 3) := by decide +kernel
theorem dX5_pairResult_130 : decode cX5_pairResult 130 = .ok (.iconst 0, 1) := by decide +kernel
theorem dX5_pairResult_131 : decode cX5_pairResult 131 = .ok (.ireturn, 1) := by decide +kernel
theorem dX5_pairResult_132 : decode cX5_pairResult 132 = .ok (.iconst 1, 1) := by decide +kernel
theorem dX5_pairResult_133 : decode cX5_pairResult 133 = .ok (.iload_n 1, 1) := by decide +kernel
theorem dX5_pairResult_134 : decode cX5_pairResult 134 = .ok (.isub, 1) := by decide +kernel
theorem dX5_pairResult_135 : decode cX5_pairResult 135 = .ok (.ireturn, 1) := by decide +kernel
theorem dX5_pairResult_136 : decode cX5_pairResult 136 = .ok (.iconst 0, 1) := by decide +kernel
theorem dX5_pairResult_137 : decode cX5_pairResult 137 = .ok (.ireturn, 1) := by decide +kernel
theorem dX5_limited_0 : decode cX5_limited 0 = .ok (.iload_n 0, 1) := by decide +kernel
theorem dX5_limited_1 : decode cX5_limited 1 = .ok (.sipush 9999, 3) := by decide +kernel
theorem dX5_limited_4 : decode cX5_limited 4 = .ok (.if_icmp .le 7, 3) := by decide +kernel
theorem dX5_limited_7 : decode cX5_limited 7 = .ok (.sipush 9999, 3) := by decide +kernel
theorem dX5_limited_10 : decode cX5_limited 10 = .ok (.ireturn, 1) := by decide +kernel
theorem dX5_limited_11 : decode cX5_limited 11 = .ok (.iload_n 0, 1) := by decide +kernel
theorem dX5_limited_12 : decode cX5_limited 12 = .ok (.sipush (-9999), 3) := by decide +kernel
theorem dX5_limited_15 : decode cX5_limited 15 = .ok (.if_icmp .ge 9, 3) := by decide +kernel
theorem dX5_limited_18 : decode cX5_limited 18 = .ok (.sipush (-9999), 3) := by decide +kernel
theorem dX5_limited_21 : decode cX5_limited 21 = .ok (.goto 4, 3) := by decide +kernel
theorem dX5_limited_24 : decode cX5_limited 24 = .ok (.iload_n 0, 1) := by decide +kernel
theorem dX5_limited_25 : decode cX5_limited 25 = .ok (.ireturn, 1) := by decide +kernel
