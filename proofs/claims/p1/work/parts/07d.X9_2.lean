theorem dX9_digest_130 : decode cX9_digest 130 = .ok (.iconst 0, 1) := by decide +kernel
theorem dX9_digest_131 : decode cX9_digest 131 = .ok (.istore_n 3, 1) := by decide +kernel
theorem dX9_digest_132 : decode cX9_digest 132 = .ok (.iload_n 3, 1) := by decide +kernel
theorem dX9_digest_133 : decode cX9_digest 133 = .ok (.aload_n 0, 1) := by decide +kernel
theorem dX9_digest_134 : decode cX9_digest 134 = .ok (.getfield 54, 3) := by decide +kernel
theorem dX9_digest_137 : decode cX9_digest 137 = .ok (.getfield 99, 3) := by decide +kernel
theorem dX9_digest_140 : decode cX9_digest 140 = .ok (.if_icmp .ge 23, 3) := by decide +kernel
theorem dX9_digest_143 : decode cX9_digest 143 = .ok (.aload_n 0, 1) := by decide +kernel
theorem dX9_digest_144 : decode cX9_digest 144 = .ok (.lload_n 1, 1) := by decide +kernel
theorem dX9_digest_145 : decode cX9_digest 145 = .ok (.aload_n 0, 1) := by decide +kernel
theorem dX9_digest_146 : decode cX9_digest 146 = .ok (.getfield 54, 3) := by decide +kernel
theorem dX9_digest_149 : decode cX9_digest 149 = .ok (.iload_n 3, 1) := by decide +kernel
theorem dX9_digest_150 : decode cX9_digest 150 = .ok (.invokevirtual 277, 3) := by decide +kernel
theorem dX9_digest_153 : decode cX9_digest 153 = .ok (.invokevirtual 297, 3) := by decide +kernel
theorem dX9_digest_156 : decode cX9_digest 156 = .ok (.lstore_n 1, 1) := by decide +kernel
theorem dX9_digest_157 : decode cX9_digest 157 = .ok (.iinc 3 1, 3) := by decide +kernel
theorem dX9_digest_160 : decode cX9_digest 160 = .ok (.goto (-28), 3) := by decide +kernel
theorem dX9_digest_163 : decode cX9_digest 163 = .ok (.aload_n 0, 1) := by decide +kernel
theorem dX9_digest_164 : decode cX9_digest 164 = .ok (.getfield 26, 3) := by decide +kernel
theorem dX9_digest_167 : decode cX9_digest 167 = .ok (.aload_n 0, 1) := by decide +kernel
theorem dX9_digest_168 : decode cX9_digest 168 = .ok (.getfield 54, 3) := by decide +kernel
theorem dX9_digest_171 : decode cX9_digest 171 = .ok (.aload_n 0, 1) := by decide +kernel
theorem dX9_digest_172 : decode cX9_digest 172 = .ok (.getfield 19, 3) := by decide +kernel
theorem dX9_digest_175 : decode cX9_digest 175 = .ok (.invokevirtual 264, 3) := by decide +kernel
theorem dX9_digest_178 : decode cX9_digest 178 = .ok (.iconst 0, 1) := by decide +kernel
theorem dX9_digest_179 : decode cX9_digest 179 = .ok (.istore_n 3, 1) := by decide +kernel
theorem dX9_digest_180 : decode cX9_digest 180 = .ok (.iload_n 3, 1) := by decide +kernel
theorem dX9_digest_181 : decode cX9_digest 181 = .ok (.aload_n 0, 1) := by decide +kernel
theorem dX9_digest_182 : decode cX9_digest 182 = .ok (.getfield 54, 3) := by decide +kernel
theorem dX9_digest_185 : decode cX9_digest 185 = .ok (.getfield 99, 3) := by decide +kernel
theorem dX9_digest_188 : decode cX9_digest 188 = .ok (.if_icmp .ge 25, 3) := by decide +kernel
theorem dX9_digest_191 : decode cX9_digest 191 = .ok (.lload_n 1, 1) := by decide +kernel
theorem dX9_digest_192 : decode cX9_digest 192 = .ok (.ldc2_w 291, 3) := by decide +kernel
theorem dX9_digest_195 : decode cX9_digest 195 = .ok (.lmul, 1) := by decide +kernel
theorem dX9_digest_196 : decode cX9_digest 196 = .ok (.aload_n 0, 1) := by decide +kernel
theorem dX9_digest_197 : decode cX9_digest 197 = .ok (.getfield 26, 3) := by decide +kernel
theorem dX9_digest_200 : decode cX9_digest 200 = .ok (.iload_n 3, 1) := by decide +kernel
theorem dX9_digest_201 : decode cX9_digest 201 = .ok (.invokevirtual 268, 3) := by decide +kernel
theorem dX9_digest_204 : decode cX9_digest 204 = .ok (.i2l, 1) := by decide +kernel
theorem dX9_digest_205 : decode cX9_digest 205 = .ok (.ladd, 1) := by decide +kernel
theorem dX9_digest_206 : decode cX9_digest 206 = .ok (.lstore_n 1, 1) := by decide +kernel
theorem dX9_digest_207 : decode cX9_digest 207 = .ok (.iinc 3 1, 3) := by decide +kernel
theorem dX9_digest_210 : decode cX9_digest 210 = .ok (.goto (-30), 3) := by decide +kernel
theorem dX9_digest_213 : decode cX9_digest 213 = .ok (.lload_n 1, 1) := by decide +kernel
theorem dX9_digest_214 : decode cX9_digest 214 = .ok (.lreturn, 1) := by decide +kernel
theorem dX9_digestWith_0 : decode cX9_digestWith 0 = .ok (.lload_n 1, 1) := by decide +kernel
theorem dX9_digestWith_1 : decode cX9_digestWith 1 = .ok (.lstore 4, 2) := by decide +kernel
theorem dX9_digestWith_3 : decode cX9_digestWith 3 = .ok (.lload 4, 2) := by decide +kernel
theorem dX9_digestWith_5 : decode cX9_digestWith 5 = .ok (.ldc2_w 291, 3) := by decide +kernel
theorem dX9_digestWith_8 : decode cX9_digestWith 8 = .ok (.lmul, 1) := by decide +kernel
theorem dX9_digestWith_9 : decode cX9_digestWith 9 = .ok (.aload_n 3, 1) := by decide +kernel
theorem dX9_digestWith_10 : decode cX9_digestWith 10 = .ok (.getfield 93, 3) := by decide +kernel
theorem dX9_digestWith_13 : decode cX9_digestWith 13 = .ok (.i2l, 1) := by decide +kernel
theorem dX9_digestWith_14 : decode cX9_digestWith 14 = .ok (.ladd, 1) := by decide +kernel
theorem dX9_digestWith_15 : decode cX9_digestWith 15 = .ok (.lstore 4, 2) := by decide +kernel
theorem dX9_digestWith_17 : decode cX9_digestWith 17 = .ok (.lload 4, 2) := by decide +kernel
theorem dX9_digestWith_19 : decode cX9_digestWith 19 = .ok (.ldc2_w 291, 3) := by decide +kernel
theorem dX9_digestWith_22 : decode cX9_digestWith 22 = .ok (.lmul, 1) := by decide +kernel
theorem dX9_digestWith_23 : decode cX9_digestWith 23 = .ok (.aload_n 3, 1) := by decide +kernel
theorem dX9_digestWith_24 : decode cX9_digestWith 24 = .ok (.getfield 230, 3) := by decide +kernel
theorem dX9_digestWith_27 : decode cX9_digestWith 27 = .ok (.i2l, 1) := by decide +kernel
theorem dX9_digestWith_28 : decode cX9_digestWith 28 = .ok (.ladd, 1) := by decide +kernel
theorem dX9_digestWith_29 : decode cX9_digestWith 29 = .ok (.lstore 4, 2) := by decide +kernel
theorem dX9_digestWith_31 : decode cX9_digestWith 31 = .ok (.lload 4, 2) := by decide +kernel
theorem dX9_digestWith_33 : decode cX9_digestWith 33 = .ok (.ldc2_w 291, 3) := by decide +kernel
theorem dX9_digestWith_36 : decode cX9_digestWith 36 = .ok (.lmul, 1) := by decide +kernel
theorem dX9_digestWith_37 : decode cX9_digestWith 37 = .ok (.aload_n 0, 1) := by decide +kernel
theorem dX9_digestWith_38 : decode cX9_digestWith 38 = .ok (.getfield 19, 3) := by decide +kernel
theorem dX9_digestWith_41 : decode cX9_digestWith 41 = .ok (.aload_n 3, 1) := by decide +kernel
theorem dX9_digestWith_42 : decode cX9_digestWith 42 = .ok (.iconst 0, 1) := by decide +kernel
theorem dX9_digestWith_43 : decode cX9_digestWith 43 = .ok (.invokevirtual 249, 3) := by decide +kernel
theorem dX9_digestWith_46 : decode cX9_digestWith 46 = .ok (.i2l, 1) := by decide +kernel
theorem dX9_digestWith_47 : decode cX9_digestWith 47 = .ok (.ladd, 1) := by decide +kernel
theorem dX9_digestWith_48 : decode cX9_digestWith 48 = .ok (.lstore 4, 2) := by decide +kernel
theorem dX9_digestWith_50 : decode cX9_digestWith 50 = .ok (.lload 4, 2) := by decide +kernel
theorem dX9_digestWith_52 : decode cX9_digestWith 52 = .ok (.ldc2_w 291, 3) := by decide +kernel
theorem dX9_digestWith_55 : decode cX9_digestWith 55 = .ok (.lmul, 1) := by decide +kernel
theorem dX9_digestWith_56 : decode cX9_digestWith 56 = .ok (.aload_n 0, 1) := by decide +kernel
theorem dX9_digestWith_57 : decode cX9_digestWith 57 = .ok (.getfield 19, 3) := by decide +kernel
theorem dX9_digestWith_60 : decode cX9_digestWith 60 = .ok (.aload_n 3, 1) := by decide +kernel
theorem dX9_digestWith_61 : decode cX9_digestWith 61 = .ok (.invokevirtual 252, 3) := by decide +kernel
theorem dX9_digestWith_64 : decode cX9_digestWith 64 = .ok (.i2l, 1) := by decide +kernel
theorem dX9_digestWith_65 : decode cX9_digestWith 65 = .ok (.ladd, 1) := by decide +kernel
theorem dX9_digestWith_66 : decode cX9_digestWith 66 = .ok (.lstore 4, 2) := by decide +kernel
theorem dX9_digestWith_68 : decode cX9_digestWith 68 = .ok (.lload 4, 2) := by decide +kernel
theorem dX9_digestWith_70 : decode cX9_digestWith 70 = .ok (.ldc2_w 291, 3) := by decide +kernel
theorem dX9_digestWith_73 : decode cX9_digestWith 73 = .ok (.lmul, 1) := by decide +kernel
theorem dX9_digestWith_74 : decode cX9_digestWith 74 = .ok (.aload_n 0, 1) := by decide +kernel
theorem dX9_digestWith_75 : decode cX9_digestWith 75 = .ok (.getfield 19, 3) := by decide +kernel
theorem dX9_digestWith_78 : decode cX9_digestWith 78 = .ok (.aload_n 3, 1) := by decide +kernel
theorem dX9_digestWith_79 : decode cX9_digestWith 79 = .ok (.invokevirtual 256, 3) := by decide +kernel
theorem dX9_digestWith_82 : decode cX9_digestWith 82 = .ok (.i2l, 1) := by decide +kernel
theorem dX9_digestWith_83 : decode cX9_digestWith 83 = .ok (.ladd, 1) := by decide +kernel
theorem dX9_digestWith_84 : decode cX9_digestWith 84 = .ok (.lstore 4, 2) := by decide +kernel
theorem dX9_digestWith_86 : decode cX9_digestWith 86 = .ok (.iconst 0, 1) := by decide +kernel
theorem dX9_digestWith_87 : decode cX9_digestWith 87 = .ok (.istore 6, 2) := by decide +kernel
theorem dX9_digestWith_89 : decode cX9_digestWith 89 = .ok (.iload 6, 2) := by decide +kernel
theorem dX9_digestWith_91 : decode cX9_digestWith 91 = .ok (.aload_n 3, 1) := by decide +kernel
theorem dX9_digestWith_92 : decode cX9_digestWith 92 = .ok (.getfield 93, 3) := by decide +kernel
theorem dX9_digestWith_95 : decode cX9_digestWith 95 = .ok (.if_icmp .ge 41, 3) := by decide +kernel
theorem dX9_digestWith_98 : decode cX9_digestWith 98 = .ok (.lload 4, 2) := by decide +kernel
theorem dX9_digestWith_100 : decode cX9_digestWith 100 = .ok (.ldc2_w 291, 3) := by decide +kernel
theorem dX9_digestWith_103 : decode cX9_digestWith 103 = .ok (.lmul, 1) := by decide +kernel
theorem dX9_digestWith_104 : decode cX9_digestWith 104 = .ok (.aload_n 3, 1) := by decide +kernel
theorem dX9_digestWith_105 : decode cX9_digestWith 105 = .ok (.iload 6, 2) := by decide +kernel
theorem dX9_digestWith_107 : decode cX9_digestWith 107 = .ok (.invokevirtual 158, 3) := by decide +kernel
theorem dX9_digestWith_110 : decode cX9_digestWith 110 = .ok (.i2l, 1) := by decide +kernel
theorem dX9_digestWith_111 : decode cX9_digestWith 111 = .ok (.ladd, 1) := by decide +kernel
theorem dX9_digestWith_112 : decode cX9_digestWith 112 = .ok (.lstore 4, 2) := by decide +kernel
theorem dX9_digestWith_114 : decode cX9_digestWith 114 = .ok (.lload 4, 2) := by decide +kernel
theorem dX9_digestWith_116 : decode cX9_digestWith 116 = .ok (.ldc2_w 291, 3) := by decide +kernel
theorem dX9_digestWith_119 : decode cX9_digestWith 119 = .ok (.lmul, 1) := by decide +kernel
theorem dX9_digestWith_120 : decode cX9_digestWith 120 = .ok (.aload_n 3, 1) := by decide +kernel
theorem dX9_digestWith_121 : decode cX9_digestWith 121 = .ok (.iload 6, 2) := by decide +kernel
theorem dX9_digestWith_123 : decode cX9_digestWith 123 = .ok (.invokevirtual 233, 3) := by decide +kernel
theorem dX9_digestWith_126 : decode cX9_digestWith 126 = .ok (.i2l, 1) := by decide +kernel
theorem dX9_digestWith_127 : decode cX9_digestWith 127 = .ok (.ladd, 1) := by decide +kernel
theorem dX9_digestWith_128 : decode cX9_digestWith 128 = .ok (.lstore 4, 2) := by decide +kernel
theorem dX9_digestWith_130 : decode cX9_digestWith 130 = .ok (.iinc 6 1, 3) := by decide +kernel
theorem dX9_digestWith_133 : decode cX9_digestWith 133 = .ok (.goto (-44), 3) := by decide +kernel
theorem dX9_digestWith_136 : decode cX9_digestWith 136 = .ok (.lload 4, 2) := by decide +kernel
theorem dX9_digestWith_138 : decode cX9_digestWith 138 = .ok (.lreturn, 1) := by decide +kernel
theorem dX9_requireTree_0 : decode cX9_requireTree 0 = .ok (.iload_n 1, 1) := by decide +kernel
theorem dX9_requireTree_1 : decode cX9_requireTree 1 = .ok (.ifCond .lt 14, 3) := by decide +kernel
theorem dX9_requireTree_4 : decode cX9_requireTree 4 = .ok (.iload_n 1, 1) := by decide +kernel
theorem dX9_requireTree_5 : decode cX9_requireTree 5 = .ok (.aload_n 0, 1) := by decide +kernel
theorem dX9_requireTree_6 : decode cX9_requireTree 6 = .ok (.getfield 54, 3) := by decide +kernel
theorem dX9_requireTree_9 : decode cX9_requireTree 9 = .ok (.getfield 99, 3) := by decide +kernel
theorem dX9_requireTree_12 : decode cX9_requireTree 12 = .ok (.if_icmp .lt 14, 3) := by decide +kernel
theorem dX9_requireTree_15 : decode cX9_requireTree 15 = .ok (.new 259, 3) := by decide +kernel
theorem dX9_requireTree_18 : decode cX9_requireTree 18 = .ok (.dup, 1) := by decide +kernel
theorem dX9_requireTree_19 : decode cX9_requireTree 19 = .ok (.ldc_w 301, 3) := by decide +kernel
theorem dX9_requireTree_22 : decode cX9_requireTree 22 = .ok (.invokespecial 263, 3) := by decide +kernel
theorem dX9_requireTree_25 : decode cX9_requireTree 25 = .ok (.athrow, 1) := by decide +kernel
theorem dX9_requireTree_26 : decode cX9_requireTree 26 = .ok (.aload_n 0, 1) := by decide +kernel
theorem dX9_requireTree_27 : decode cX9_requireTree 27 = .ok (.getfield 54, 3) := by decide +kernel
theorem dX9_requireTree_30 : decode cX9_requireTree 30 = .ok (.iload_n 1, 1) := by decide +kernel
theorem dX9_requireTree_31 : decode cX9_requireTree 31 = .ok (.invokevirtual 277, 3) := by decide +kernel
theorem dX9_requireTree_34 : decode cX9_requireTree 34 = .ok (.areturn, 1) := by decide +kernel
theorem dX9_requirePlace_0 : decode cX9_requirePlace 0 = .ok (.aload_n 0, 1) := by decide +kernel
theorem dX9_requirePlace_1 : decode cX9_requirePlace 1 = .ok (.iload_n 1, 1) := by decide +kernel
theorem dX9_requirePlace_2 : decode cX9_requirePlace 2 = .ok (.invokevirtual 108, 3) := by decide +kernel
theorem dX9_requirePlace_5 : decode cX9_requirePlace 5 = .ok (.astore_n 3, 1) := by decide +kernel
theorem dX9_requirePlace_6 : decode cX9_requirePlace 6 = .ok (.iload_n 2, 1) := by decide +kernel
theorem dX9_requirePlace_7 : decode cX9_requirePlace 7 = .ok (.ifCond .lt 11, 3) := by decide +kernel
theorem dX9_requirePlace_10 : decode cX9_requirePlace 10 = .ok (.iload_n 2, 1) := by decide +kernel
theorem dX9_requirePlace_11 : decode cX9_requirePlace 11 = .ok (.aload_n 3, 1) := by decide +kernel
theorem dX9_requirePlace_12 : decode cX9_requirePlace 12 = .ok (.getfield 93, 3) := by decide +kernel
theorem dX9_requirePlace_15 : decode cX9_requirePlace 15 = .ok (.if_icmp .lt 14, 3) := by decide +kernel
theorem dX9_requirePlace_18 : decode cX9_requirePlace 18 = .ok (.new 259, 3) := by decide +kernel
theorem dX9_requirePlace_21 : decode cX9_requirePlace 21 = .ok (.dup, 1) := by decide +kernel
theorem dX9_requirePlace_22 : decode cX9_requirePlace 22 = .ok (.ldc_w 303, 3) := by decide +kernel
theorem dX9_requirePlace_25 : decode cX9_requirePlace 25 = .ok (.invokespecial 263, 3) := by decide +kernel
theorem dX9_requirePlace_28 : decode cX9_requirePlace 28 = .ok (.athrow, 1) := by decide +kernel
theorem dX9_requirePlace_29 : decode cX9_requirePlace 29 = .ok (.aload_n 3, 1) := by decide +kernel
theorem dX9_requirePlace_30 : decode cX9_requirePlace 30 = .ok (.areturn, 1) := by decide +kernel
theorem dX9_requireBreeding_0 : decode cX9_requireBreeding 0 = .ok (.iload_n 1, 1) := by decide +kernel
theorem dX9_requireBreeding_1 : decode cX9_requireBreeding 1 = .ok (.iconst 1, 1) := by decide +kernel
theorem dX9_requireBreeding_2 : decode cX9_requireBreeding 2 = .ok (.if_icmp .lt 9, 3) := by decide +kernel
theorem dX9_requireBreeding_5 : decode cX9_requireBreeding 5 = .ok (.iload_n 1, 1) := by decide +kernel
theorem dX9_requireBreeding_6 : decode cX9_requireBreeding 6 = .ok (.bipush 10, 2) := by decide +kernel
theorem dX9_requireBreeding_8 : decode cX9_requireBreeding 8 = .ok (.if_icmp .le 14, 3) := by decide +kernel
theorem dX9_requireBreeding_11 : decode cX9_requireBreeding 11 = .ok (.new 120, 3) := by decide +kernel
theorem dX9_requireBreeding_14 : decode cX9_requireBreeding 14 = .ok (.dup, 1) := by decide +kernel
theorem dX9_requireBreeding_15 : decode cX9_requireBreeding 15 = .ok (.ldc_w 305, 3) := by decide +kernel
theorem dX9_requireBreeding_18 : decode cX9_requireBreeding 18 = .ok (.invokespecial 124, 3) := by decide +kernel
theorem dX9_requireBreeding_21 : decode cX9_requireBreeding 21 = .ok (.athrow, 1) := by decide +kernel
theorem dX9_requireBreeding_22 : decode cX9_requireBreeding 22 = .ok (.aload_n 0, 1) := by decide +kernel
theorem dX9_requireBreeding_23 : decode cX9_requireBreeding 23 = .ok (.getfield 54, 3) := by decide +kernel
theorem dX9_requireBreeding_26 : decode cX9_requireBreeding 26 = .ok (.getfield 99, 3) := by decide +kernel
theorem dX9_requireBreeding_29 : decode cX9_requireBreeding 29 = .ok (.ifCond .ne 14, 3) := by decide +kernel
theorem dX9_requireBreeding_32 : decode cX9_requireBreeding 32 = .ok (.new 76, 3) := by decide +kernel
theorem dX9_requireBreeding_35 : decode cX9_requireBreeding 35 = .ok (.dup, 1) := by decide +kernel
theorem dX9_requireBreeding_36 : decode cX9_requireBreeding 36 = .ok (.ldc_w 307, 3) := by decide +kernel
theorem dX9_requireBreeding_39 : decode cX9_requireBreeding 39 = .ok (.invokespecial 80, 3) := by decide +kernel
theorem dX9_requireBreeding_42 : decode cX9_requireBreeding 42 = .ok (.athrow, 1) := by decide +kernel
theorem dX9_requireBreeding_43 : decode cX9_requireBreeding 43 = .ok (.return_, 1) := by decide +kernel
theorem dX9_requireNode_0 : decode cX9_requireNode 0 = .ok (.iload_n 0, 1) := by decide +kernel
theorem dX9_requireNode_1 : decode cX9_requireNode 1 = .ok (.ifCond .lt 9, 3) := by decide +kernel
theorem dX9_requireNode_4 : decode cX9_requireNode 4 = .ok (.iload_n 0, 1) := by decide +kernel
theorem dX9_requireNode_5 : decode cX9_requireNode 5 = .ok (.bipush 13, 2) := by decide +kernel
theorem dX9_requireNode_7 : decode cX9_requireNode 7 = .ok (.if_icmp .le 14, 3) := by decide +kernel
theorem dX9_requireNode_10 : decode cX9_requireNode 10 = .ok (.new 120, 3) := by decide +kernel
theorem dX9_requireNode_13 : decode cX9_requireNode 13 = .ok (.dup, 1) := by decide +kernel
theorem dX9_requireNode_14 : decode cX9_requireNode 14 = .ok (.ldc_w 309, 3) := by decide +kernel
theorem dX9_requireNode_17 : decode cX9_requireNode 17 = .ok (.invokespecial 124, 3) := by decide +kernel
theorem dX9_requireNode_20 : decode cX9_requireNode 20 = .ok (.athrow, 1) := by decide +kernel
theorem dX9_requireNode_21 : decode cX9_requireNode 21 = .ok (.iload_n 0, 1) := by decide +kernel
theorem dX9_requireNode_22 : decode cX9_requireNode 22 = .ok (.ifCond .ne 26, 3) := by decide +kernel
theorem dX9_requireNode_25 : decode cX9_requireNode 25 = .ok (.iload_n 1, 1) := by decide +kernel
theorem dX9_requireNode_26 : decode cX9_requireNode 26 = .ok (.bipush (-99), 2) := by decide +kernel
theorem dX9_requireNode_28 : decode cX9_requireNode 28 = .ok (.if_icmp .lt 9, 3) := by decide +kernel
theorem dX9_requireNode_31 : decode cX9_requireNode 31 = .ok (.iload_n 1, 1) := by decide +kernel
theorem dX9_requireNode_32 : decode cX9_requireNode 32 = .ok (.bipush 99, 2) := by decide +kernel
theorem dX9_requireNode_34 : decode cX9_requireNode 34 = .ok (.if_icmp .le 14, 3) := by decide +kernel
theorem dX9_requireNode_37 : decode cX9_requireNode 37 = .ok (.new 120, 3) := by decide +kernel
theorem dX9_requireNode_40 : decode cX9_requireNode 40 = .ok (.dup, 1) := by decide +kernel
theorem dX9_requireNode_41 : decode cX9_requireNode 41 = .ok (.ldc_w 311, 3) := by decide +kernel
theorem dX9_requireNode_44 : decode cX9_requireNode 44 = .ok (.invokespecial 124, 3) := by decide +kernel
theorem dX9_requireNode_47 : decode cX9_requireNode 47 = .ok (.athrow, 1) := by decide +kernel
theorem dX9_requireNode_48 : decode cX9_requireNode 48 = .ok (.iload_n 0, 1) := by decide +kernel
theorem dX9_requireNode_49 : decode cX9_requireNode 49 = .ok (.iconst 1, 1) := by decide +kernel
theorem dX9_requireNode_50 : decode cX9_requireNode 50 = .ok (.if_icmp .ne 23, 3) := by decide +kernel
theorem dX9_requireNode_53 : decode cX9_requireNode 53 = .ok (.iload_n 1, 1) := by decide +kernel
theorem dX9_requireNode_54 : decode cX9_requireNode 54 = .ok (.ifCond .lt 8, 3) := by decide +kernel
theorem dX9_requireNode_57 : decode cX9_requireNode 57 = .ok (.iload_n 1, 1) := by decide +kernel
theorem dX9_requireNode_58 : decode cX9_requireNode 58 = .ok (.iconst 3, 1) := by decide +kernel
theorem dX9_requireNode_59 : decode cX9_requireNode 59 = .ok (.if_icmp .lt 14, 3) := by decide +kernel
theorem dX9_requireNode_62 : decode cX9_requireNode 62 = .ok (.new 120, 3) := by decide +kernel
theorem dX9_requireNode_65 : decode cX9_requireNode 65 = .ok (.dup, 1) := by decide +kernel
theorem dX9_requireNode_66 : decode cX9_requireNode 66 = .ok (.ldc_w 313, 3) := by decide +kernel
theorem dX9_requireNode_69 : decode cX9_requireNode 69 = .ok (.invokespecial 124, 3) := by decide +kernel
theorem dX9_requireNode_72 : decode cX9_requireNode 72 = .ok (.athrow, 1) := by decide +kernel
theorem dX9_requireNode_73 : decode cX9_requireNode 73 = .ok (.return_, 1) := by decide +kernel
theorem dX9_requireInputs_0 : decode cX9_requireInputs 0 = .ok (.iload_n 0, 1) := by decide +kernel
theorem dX9_requireInputs_1 : decode cX9_requireInputs 1 = .ok (.invokestatic 315, 3) := by decide +kernel
theorem dX9_requireInputs_4 : decode cX9_requireInputs 4 = .ok (.ifCond .eq 17, 3) := by decide +kernel
theorem dX9_requireInputs_7 : decode cX9_requireInputs 7 = .ok (.iload_n 1, 1) := by decide +kernel
theorem dX9_requireInputs_8 : decode cX9_requireInputs 8 = .ok (.invokestatic 315, 3) := by decide +kernel
theorem dX9_requireInputs_11 : decode cX9_requireInputs 11 = .ok (.ifCond .eq 10, 3) := by decide +kernel
theorem dX9_requireInputs_14 : decode cX9_requireInputs 14 = .ok (.iload_n 2, 1) := by decide +kernel
theorem dX9_requireInputs_15 : decode cX9_requireInputs 15 = .ok (.invokestatic 315, 3) := by decide +kernel
theorem dX9_requireInputs_18 : decode cX9_requireInputs 18 = .ok (.ifCond .ne 14, 3) := by decide +kernel
theorem dX9_requireInputs_21 : decode cX9_requireInputs 21 = .ok (.new 120, 3) := by decide +kernel
theorem dX9_requireInputs_24 : decode cX9_requireInputs 24 = .ok (.dup, 1) := by decide +kernel
theorem dX9_requireInputs_25 : decode cX9_requireInputs 25 = .ok (.ldc_w 318, 3) := by decide +kernel
theorem dX9_requireInputs_28 : decode cX9_requireInputs 28 = .ok (.invokespecial 124, 3) := by decide +kernel
theorem dX9_requireInputs_31 : decode cX9_requireInputs 31 = .ok (.athrow, 1) := by decide +kernel
theorem dX9_requireInputs_32 : decode cX9_requireInputs 32 = .ok (.return_, 1) := by decide +kernel
theorem dX9_isInput_0 : decode cX9_isInput 0 = .ok (.iload_n 0, 1) := by decide +kernel
theorem dX9_isInput_1 : decode cX9_isInput 1 = .ok (.bipush (-99), 2) := by decide +kernel
theorem dX9_isInput_3 : decode cX9_isInput 3 = .ok (.if_icmp .lt 13, 3) := by decide +kernel
theorem dX9_isInput_6 : decode cX9_isInput 6 = .ok (.iload_n 0, 1) := by decide +kernel
theorem dX9_isInput_7 : decode cX9_isInput 7 = .ok (.bipush 99, 2) := by decide +kernel
theorem dX9_isInput_9 : decode cX9_isInput 9 = .ok (.if_icmp .gt 7, 3) := by decide +kernel
theorem dX9_isInput_12 : decode cX9_isInput 12 = .ok (.iconst 1, 1) := by decide +kernel
theorem dX9_isInput_13 : decode cX9_isInput 13 = .ok (.goto 4, 3) := by decide +kernel
theorem dX9_isInput_16 : decode cX9_isInput 16 = .ok (.iconst 0, 1) := by decide +kernel
theorem dX9_isInput_17 : decode cX9_isInput 17 = .ok (.ireturn, 1) := by decide +kernel
theorem dX9_isRate_0 : decode cX9_isRate 0 = .ok (.iload_n 0, 1) := by decide +kernel
theorem dX9_isRate_1 : decode cX9_isRate 1 = .ok (.ifCond .lt 13, 3) := by decide +kernel
theorem dX9_isRate_4 : decode cX9_isRate 4 = .ok (.iload_n 0, 1) := by decide +kernel
theorem dX9_isRate_5 : decode cX9_isRate 5 = .ok (.bipush 100, 2) := by decide +kernel
theorem dX9_isRate_7 : decode cX9_isRate 7 = .ok (.if_icmp .gt 7, 3) := by decide +kernel
theorem dX9_isRate_10 : decode cX9_isRate 10 = .ok (.iconst 1, 1) := by decide +kernel
theorem dX9_isRate_11 : decode cX9_isRate 11 = .ok (.goto 4, 3) := by decide +kernel
theorem dX9_isRate_14 : decode cX9_isRate 14 = .ok (.iconst 0, 1) := by decide +kernel
theorem dX9_isRate_15 : decode cX9_isRate 15 = .ok (.ireturn, 1) := by decide +kernel
theorem dX9_isNumberPart_0 : decode cX9_isNumberPart 0 = .ok (.iload_n 0, 1) := by decide +kernel
theorem dX9_isNumberPart_1 : decode cX9_isNumberPart 1 = .ok (.bipush 11, 2) := by decide +kernel
theorem dX9_isNumberPart_3 : decode cX9_isNumberPart 3 = .ok (.if_icmp .ge 17, 3) := by decide +kernel
theorem dX9_isNumberPart_6 : decode cX9_isNumberPart 6 = .ok (.iload_n 0, 1) := by decide +kernel
theorem dX9_isNumberPart_7 : decode cX9_isNumberPart 7 = .ok (.bipush 8, 2) := by decide +kernel
theorem dX9_isNumberPart_9 : decode cX9_isNumberPart 9 = .ok (.if_icmp .ne 7, 3) := by decide +kernel
theorem dX9_isNumberPart_12 : decode cX9_isNumberPart 12 = .ok (.iload_n 1, 1) := by decide +kernel
theorem dX9_isNumberPart_13 : decode cX9_isNumberPart 13 = .ok (.ifCond .eq 7, 3) := by decide +kernel
theorem dX9_isNumberPart_16 : decode cX9_isNumberPart 16 = .ok (.iconst 1, 1) := by decide +kernel
theorem dX9_isNumberPart_17 : decode cX9_isNumberPart 17 = .ok (.goto 4, 3) := by decide +kernel
theorem dX9_isNumberPart_20 : decode cX9_isNumberPart 20 = .ok (.iconst 0, 1) := by decide +kernel
theorem dX9_isNumberPart_21 : decode cX9_isNumberPart 21 = .ok (.ireturn, 1) := by decide +kernel
theorem dX9_at_0 : decode cX9_at 0 = .ok (.iload_n 1, 1) := by decide +kernel
theorem dX9_at_1 : decode cX9_at 1 = .ok (.ifCond .lt 9, 3) := by decide +kernel
theorem dX9_at_4 : decode cX9_at 4 = .ok (.iload_n 1, 1) := by decide +kernel
theorem dX9_at_5 : decode cX9_at 5 = .ok (.aload_n 0, 1) := by decide +kernel
theorem dX9_at_6 : decode cX9_at 6 = .ok (.arraylength, 1) := by decide +kernel
theorem dX9_at_7 : decode cX9_at 7 = .ok (.if_icmp .lt 7, 3) := by decide +kernel
theorem dX9_at_10 : decode cX9_at 10 = .ok (.iconst 0, 1) := by decide +kernel
theorem dX9_at_11 : decode cX9_at 11 = .ok (.goto 6, 3) := by decide +kernel
theorem dX9_at_14 : decode cX9_at 14 = .ok (.aload_n 0, 1) := by decide +kernel
theorem dX9_at_15 : decode cX9_at 15 = .ok (.iload_n 1, 1) := by decide +kernel
theorem dX9_at_16 : decode cX9_at 16 = .ok (.iaload, 1) := by decide +kernel
theorem dX9_at_17 : decode cX9_at 17 = .ok (.ireturn, 1) := by decide +kernel
theorem dX9_put_0 : decode cX9_put 0 = .ok (.iload_n 1, 1) := by decide +kernel
theorem dX9_put_1 : decode cX9_put 1 = .ok (.ifCond .lt 13, 3) := by decide +kernel
theorem dX9_put_4 : decode cX9_put 4 = .ok (.iload_n 1, 1) := by decide +kernel
theorem dX9_put_5 : decode cX9_put 5 = .ok (.aload_n 0, 1) := by decide +kernel
theorem dX9_put_6 : decode cX9_put 6 = .ok (.arraylength, 1) := by decide +kernel
theorem dX9_put_7 : decode cX9_put 7 = .ok (.if_icmp .ge 7, 3) := by decide +kernel
theorem dX9_put_10 : decode cX9_put 10 = .ok (.aload_n 0, 1) := by decide +kernel
theorem dX9_put_11 : decode cX9_put 11 = .ok (.iload_n 1, 1) := by decide +kernel
theorem dX9_put_12 : decode cX9_put 12 = .ok (.iload_n 2, 1) := by decide +kernel
theorem dX9_put_13 : decode cX9_put 13 = .ok (.iastore, 1) := by decide +kernel
theorem dX9_put_14 : decode cX9_put 14 = .ok (.return_, 1) := by decide +kernel
