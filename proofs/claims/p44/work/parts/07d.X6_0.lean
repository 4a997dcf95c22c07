theorem dX6_init_0 : decode cX6_init 0 = .ok (.aload_n 0, 1) := by decide +kernel
theorem dX6_init_1 : decode cX6_init 1 = .ok (.invokespecial 3, 3) := by decide +kernel
theorem dX6_init_4 : decode cX6_init 4 = .ok (.aload_n 0, 1) := by decide +kernel
theorem dX6_init_5 : decode cX6_init 5 = .ok (.new 9, 3) := by decide +kernel
theorem dX6_init_8 : decode cX6_init 8 = .ok (.dup, 1) := by decide +kernel
theorem dX6_init_9 : decode cX6_init 9 = .ok (.invokespecial 11, 3) := by decide +kernel
theorem dX6_init_12 : decode cX6_init 12 = .ok (.putfield 12, 3) := by decide +kernel
theorem dX6_init_15 : decode cX6_init 15 = .ok (.return_, 1) := by decide +kernel
theorem dX6_finish_0 : decode cX6_finish 0 = .ok (.iconst 0, 1) := by decide +kernel
theorem dX6_finish_1 : decode cX6_finish 1 = .ok (.istore_n 2, 1) := by decide +kernel
theorem dX6_finish_2 : decode cX6_finish 2 = .ok (.iconst 0, 1) := by decide +kernel
theorem dX6_finish_3 : decode cX6_finish 3 = .ok (.istore_n 3, 1) := by decide +kernel
theorem dX6_finish_4 : decode cX6_finish 4 = .ok (.iload_n 3, 1) := by decide +kernel
theorem dX6_finish_5 : decode cX6_finish 5 = .ok (.sipush 1640, 3) := by decide +kernel
theorem dX6_finish_8 : decode cX6_finish 8 = .ok (.if_icmp .ge 34, 3) := by decide +kernel
theorem dX6_finish_11 : decode cX6_finish 11 = .ok (.iload_n 2, 1) := by decide +kernel
theorem dX6_finish_12 : decode cX6_finish 12 = .ok (.aload_n 1, 1) := by decide +kernel
theorem dX6_finish_13 : decode cX6_finish 13 = .ok (.getfield 18, 3) := by decide +kernel
theorem dX6_finish_16 : decode cX6_finish 16 = .ok (.if_icmp .ge 26, 3) := by decide +kernel
theorem dX6_finish_19 : decode cX6_finish 19 = .ok (.aload_n 0, 1) := by decide +kernel
theorem dX6_finish_20 : decode cX6_finish 20 = .ok (.aload_n 1, 1) := by decide +kernel
theorem dX6_finish_21 : decode cX6_finish 21 = .ok (.iload_n 2, 1) := by decide +kernel
theorem dX6_finish_22 : decode cX6_finish 22 = .ok (.invokevirtual 24, 3) := by decide +kernel
theorem dX6_finish_25 : decode cX6_finish 25 = .ok (.ifCond .eq 7, 3) := by decide +kernel
theorem dX6_finish_28 : decode cX6_finish 28 = .ok (.iconst 0, 1) := by decide +kernel
theorem dX6_finish_29 : decode cX6_finish 29 = .ok (.goto 6, 3) := by decide +kernel
theorem dX6_finish_32 : decode cX6_finish 32 = .ok (.iload_n 2, 1) := by decide +kernel
theorem dX6_finish_33 : decode cX6_finish 33 = .ok (.iconst 1, 1) := by decide +kernel
theorem dX6_finish_34 : decode cX6_finish 34 = .ok (.iadd, 1) := by decide +kernel
theorem dX6_finish_35 : decode cX6_finish 35 = .ok (.istore_n 2, 1) := by decide +kernel
theorem dX6_finish_36 : decode cX6_finish 36 = .ok (.iinc 3 1, 3) := by decide +kernel
theorem dX6_finish_39 : decode cX6_finish 39 = .ok (.goto (-35), 3) := by decide +kernel
theorem dX6_finish_42 : decode cX6_finish 42 = .ok (.return_, 1) := by decide +kernel
theorem dX6_changeAt_0 : decode cX6_changeAt 0 = .ok (.aload_n 1, 1) := by decide +kernel
theorem dX6_changeAt_1 : decode cX6_changeAt 1 = .ok (.iload_n 2, 1) := by decide +kernel
theorem dX6_changeAt_2 : decode cX6_changeAt 2 = .ok (.invokestatic 28, 3) := by decide +kernel
theorem dX6_changeAt_5 : decode cX6_changeAt 5 = .ok (.ifCond .eq 33, 3) := by decide +kernel
theorem dX6_changeAt_8 : decode cX6_changeAt 8 = .ok (.aload_n 0, 1) := by decide +kernel
theorem dX6_changeAt_9 : decode cX6_changeAt 9 = .ok (.getfield 12, 3) := by decide +kernel
theorem dX6_changeAt_12 : decode cX6_changeAt 12 = .ok (.aload_n 1, 1) := by decide +kernel
theorem dX6_changeAt_13 : decode cX6_changeAt 13 = .ok (.iload_n 2, 1) := by decide +kernel
theorem dX6_changeAt_14 : decode cX6_changeAt 14 = .ok (.invokevirtual 31, 3) := by decide +kernel
theorem dX6_changeAt_17 : decode cX6_changeAt 17 = .ok (.istore_n 3, 1) := by decide +kernel
theorem dX6_changeAt_18 : decode cX6_changeAt 18 = .ok (.iload_n 3, 1) := by decide +kernel
theorem dX6_changeAt_19 : decode cX6_changeAt 19 = .ok (.bipush (-99), 2) := by decide +kernel
theorem dX6_changeAt_21 : decode cX6_changeAt 21 = .ok (.if_icmp .lt 17, 3) := by decide +kernel
theorem dX6_changeAt_24 : decode cX6_changeAt 24 = .ok (.iload_n 3, 1) := by decide +kernel
theorem dX6_changeAt_25 : decode cX6_changeAt 25 = .ok (.bipush 99, 2) := by decide +kernel
theorem dX6_changeAt_27 : decode cX6_changeAt 27 = .ok (.if_icmp .gt 11, 3) := by decide +kernel
theorem dX6_changeAt_30 : decode cX6_changeAt 30 = .ok (.aload_n 1, 1) := by decide +kernel
theorem dX6_changeAt_31 : decode cX6_changeAt 31 = .ok (.iload_n 2, 1) := by decide +kernel
theorem dX6_changeAt_32 : decode cX6_changeAt 32 = .ok (.iload_n 3, 1) := by decide +kernel
theorem dX6_changeAt_33 : decode cX6_changeAt 33 = .ok (.invokevirtual 35, 3) := by decide +kernel
theorem dX6_changeAt_36 : decode cX6_changeAt 36 = .ok (.iconst 1, 1) := by decide +kernel
theorem dX6_changeAt_37 : decode cX6_changeAt 37 = .ok (.ireturn, 1) := by decide +kernel
theorem dX6_changeAt_38 : decode cX6_changeAt 38 = .ok (.aload_n 1, 1) := by decide +kernel
theorem dX6_changeAt_39 : decode cX6_changeAt 39 = .ok (.iload_n 2, 1) := by decide +kernel
theorem dX6_changeAt_40 : decode cX6_changeAt 40 = .ok (.invokestatic 39, 3) := by decide +kernel
theorem dX6_changeAt_43 : decode cX6_changeAt 43 = .ok (.istore_n 3, 1) := by decide +kernel
theorem dX6_changeAt_44 : decode cX6_changeAt 44 = .ok (.iload_n 3, 1) := by decide +kernel
theorem dX6_changeAt_45 : decode cX6_changeAt 45 = .ok (.iconst (-1), 1) := by decide +kernel
theorem dX6_changeAt_46 : decode cX6_changeAt 46 = .ok (.if_icmp .eq 11, 3) := by decide +kernel
theorem dX6_changeAt_49 : decode cX6_changeAt 49 = .ok (.aload_n 1, 1) := by decide +kernel
theorem dX6_changeAt_50 : decode cX6_changeAt 50 = .ok (.iload_n 2, 1) := by decide +kernel
theorem dX6_changeAt_51 : decode cX6_changeAt 51 = .ok (.iload_n 3, 1) := by decide +kernel
theorem dX6_changeAt_52 : decode cX6_changeAt 52 = .ok (.invokevirtual 42, 3) := by decide +kernel
theorem dX6_changeAt_55 : decode cX6_changeAt 55 = .ok (.iconst 1, 1) := by decide +kernel
theorem dX6_changeAt_56 : decode cX6_changeAt 56 = .ok (.ireturn, 1) := by decide +kernel
theorem dX6_changeAt_57 : decode cX6_changeAt 57 = .ok (.aload_n 1, 1) := by decide +kernel
theorem dX6_changeAt_58 : decode cX6_changeAt 58 = .ok (.iload_n 2, 1) := by decide +kernel
theorem dX6_changeAt_59 : decode cX6_changeAt 59 = .ok (.invokestatic 45, 3) := by decide +kernel
theorem dX6_changeAt_62 : decode cX6_changeAt 62 = .ok (.ifCond .eq 11, 3) := by decide +kernel
theorem dX6_changeAt_65 : decode cX6_changeAt 65 = .ok (.aload_n 1, 1) := by decide +kernel
theorem dX6_changeAt_66 : decode cX6_changeAt 66 = .ok (.iload_n 2, 1) := by decide +kernel
theorem dX6_changeAt_67 : decode cX6_changeAt 67 = .ok (.iconst 0, 1) := by decide +kernel
theorem dX6_changeAt_68 : decode cX6_changeAt 68 = .ok (.invokevirtual 35, 3) := by decide +kernel
theorem dX6_changeAt_71 : decode cX6_changeAt 71 = .ok (.iconst 1, 1) := by decide +kernel
theorem dX6_changeAt_72 : decode cX6_changeAt 72 = .ok (.ireturn, 1) := by decide +kernel
theorem dX6_changeAt_73 : decode cX6_changeAt 73 = .ok (.iconst 0, 1) := by decide +kernel
theorem dX6_changeAt_74 : decode cX6_changeAt 74 = .ok (.ireturn, 1) := by decide +kernel
theorem dX6_isFoldable_0 : decode cX6_isFoldable 0 = .ok (.aload_n 0, 1) := by decide +kernel
theorem dX6_isFoldable_1 : decode cX6_isFoldable 1 = .ok (.iload_n 1, 1) := by decide +kernel
theorem dX6_isFoldable_2 : decode cX6_isFoldable 2 = .ok (.invokevirtual 48, 3) := by decide +kernel
theorem dX6_isFoldable_5 : decode cX6_isFoldable 5 = .ok (.ifCond .eq 24, 3) := by decide +kernel
theorem dX6_isFoldable_8 : decode cX6_isFoldable 8 = .ok (.aload_n 0, 1) := by decide +kernel
theorem dX6_isFoldable_9 : decode cX6_isFoldable 9 = .ok (.iload_n 1, 1) := by decide +kernel
theorem dX6_isFoldable_10 : decode cX6_isFoldable 10 = .ok (.invokevirtual 52, 3) := by decide +kernel
theorem dX6_isFoldable_13 : decode cX6_isFoldable 13 = .ok (.iconst 1, 1) := by decide +kernel
theorem dX6_isFoldable_14 : decode cX6_isFoldable 14 = .ok (.if_icmp .le 15, 3) := by decide +kernel
theorem dX6_isFoldable_17 : decode cX6_isFoldable 17 = .ok (.aload_n 0, 1) := by decide +kernel
theorem dX6_isFoldable_18 : decode cX6_isFoldable 18 = .ok (.iload_n 1, 1) := by decide +kernel
theorem dX6_isFoldable_19 : decode cX6_isFoldable 19 = .ok (.invokevirtual 56, 3) := by decide +kernel
theorem dX6_isFoldable_22 : decode cX6_isFoldable 22 = .ok (.ifCond .ne 7, 3) := by decide +kernel
theorem dX6_isFoldable_25 : decode cX6_isFoldable 25 = .ok (.iconst 1, 1) := by decide +kernel
theorem dX6_isFoldable_26 : decode cX6_isFoldable 26 = .ok (.goto 4, 3) := by decide +kernel
theorem dX6_isFoldable_29 : decode cX6_isFoldable 29 = .ok (.iconst 0, 1) := by decide +kernel
theorem dX6_isFoldable_30 : decode cX6_isFoldable 30 = .ok (.ireturn, 1) := by decide +kernel
theorem dX6_partThatStays_0 : decode cX6_partThatStays 0 = .ok (.iload_n 1, 1) := by decide +kernel
theorem dX6_partThatStays_1 : decode cX6_partThatStays 1 = .ok (.iconst 1, 1) := by decide +kernel
theorem dX6_partThatStays_2 : decode cX6_partThatStays 2 = .ok (.iadd, 1) := by decide +kernel
theorem dX6_partThatStays_3 : decode cX6_partThatStays 3 = .ok (.istore_n 2, 1) := by decide +kernel
theorem dX6_partThatStays_4 : decode cX6_partThatStays 4 = .ok (.aload_n 0, 1) := by decide +kernel
theorem dX6_partThatStays_5 : decode cX6_partThatStays 5 = .ok (.iload_n 2, 1) := by decide +kernel
theorem dX6_partThatStays_6 : decode cX6_partThatStays 6 = .ok (.invokevirtual 59, 3) := by decide +kernel
theorem dX6_partThatStays_9 : decode cX6_partThatStays 9 = .ok (.istore_n 3, 1) := by decide +kernel
theorem dX6_partThatStays_10 : decode cX6_partThatStays 10 = .ok (.aload_n 0, 1) := by decide +kernel
theorem dX6_partThatStays_11 : decode cX6_partThatStays 11 = .ok (.iload_n 1, 1) := by decide +kernel
theorem dX6_partThatStays_12 : decode cX6_partThatStays 12 = .ok (.invokevirtual 62, 3) := by decide +kernel
theorem dX6_partThatStays_15 : decode cX6_partThatStays 15 = .ok (.tableswitch 199 2 13 #[61, 89, 104, 132, 147, 147, 162, 199, 199, 147, 147, 181], 61) := by decide +kernel
theorem dX6_partThatStays_76 : decode cX6_partThatStays 76 = .ok (.aload_n 0, 1) := by decide +kernel
theorem dX6_partThatStays_77 : decode cX6_partThatStays 77 = .ok (.iload_n 3, 1) := by decide +kernel
theorem dX6_partThatStays_78 : decode cX6_partThatStays 78 = .ok (.iconst 0, 1) := by decide +kernel
theorem dX6_partThatStays_79 : decode cX6_partThatStays 79 = .ok (.invokevirtual 65, 3) := by decide +kernel
theorem dX6_partThatStays_82 : decode cX6_partThatStays 82 = .ok (.ifCond .eq 7, 3) := by decide +kernel
theorem dX6_partThatStays_85 : decode cX6_partThatStays 85 = .ok (.iload_n 2, 1) := by decide +kernel
theorem dX6_partThatStays_86 : decode cX6_partThatStays 86 = .ok (.goto 17, 3) := by decide +kernel
theorem dX6_partThatStays_89 : decode cX6_partThatStays 89 = .ok (.aload_n 0, 1) := by decide +kernel
theorem dX6_partThatStays_90 : decode cX6_partThatStays 90 = .ok (.iload_n 2, 1) := by decide +kernel
theorem dX6_partThatStays_91 : decode cX6_partThatStays 91 = .ok (.iconst 0, 1) := by decide +kernel
theorem dX6_partThatStays_92 : decode cX6_partThatStays 92 = .ok (.invokevirtual 65, 3) := by decide +kernel
theorem dX6_partThatStays_95 : decode cX6_partThatStays 95 = .ok (.ifCond .eq 7, 3) := by decide +kernel
theorem dX6_partThatStays_98 : decode cX6_partThatStays 98 = .ok (.iload_n 3, 1) := by decide +kernel
theorem dX6_partThatStays_99 : decode cX6_partThatStays 99 = .ok (.goto 4, 3) := by decide +kernel
theorem dX6_partThatStays_102 : decode cX6_partThatStays 102 = .ok (.iconst (-1), 1) := by decide +kernel
theorem dX6_partThatStays_103 : decode cX6_partThatStays 103 = .ok (.ireturn, 1) := by decide +kernel
theorem dX6_partThatStays_104 : decode cX6_partThatStays 104 = .ok (.aload_n 0, 1) := by decide +kernel
theorem dX6_partThatStays_105 : decode cX6_partThatStays 105 = .ok (.iload_n 3, 1) := by decide +kernel
theorem dX6_partThatStays_106 : decode cX6_partThatStays 106 = .ok (.iconst 0, 1) := by decide +kernel
theorem dX6_partThatStays_107 : decode cX6_partThatStays 107 = .ok (.invokevirtual 65, 3) := by decide +kernel
theorem dX6_partThatStays_110 : decode cX6_partThatStays 110 = .ok (.ifCond .eq 7, 3) := by decide +kernel
theorem dX6_partThatStays_113 : decode cX6_partThatStays 113 = .ok (.iload_n 2, 1) := by decide +kernel
theorem dX6_partThatStays_114 : decode cX6_partThatStays 114 = .ok (.goto 4, 3) := by decide +kernel
theorem dX6_partThatStays_117 : decode cX6_partThatStays 117 = .ok (.iconst (-1), 1) := by decide +kernel
theorem dX6_partThatStays_118 : decode cX6_partThatStays 118 = .ok (.ireturn, 1) := by decide +kernel
theorem dX6_partThatStays_119 : decode cX6_partThatStays 119 = .ok (.aload_n 0, 1) := by decide +kernel
theorem dX6_partThatStays_120 : decode cX6_partThatStays 120 = .ok (.iload_n 3, 1) := by decide +kernel
theorem dX6_partThatStays_121 : decode cX6_partThatStays 121 = .ok (.iconst 1, 1) := by decide +kernel
theorem dX6_partThatStays_122 : decode cX6_partThatStays 122 = .ok (.invokevirtual 65, 3) := by decide +kernel
theorem dX6_partThatStays_125 : decode cX6_partThatStays 125 = .ok (.ifCond .eq 7, 3) := by decide +kernel
theorem dX6_partThatStays_128 : decode cX6_partThatStays 128 = .ok (.iload_n 2, 1) := by decide +kernel
theorem dX6_partThatStays_129 : decode cX6_partThatStays 129 = .ok (.goto 17, 3) := by decide +kernel
theorem dX6_partThatStays_132 : decode cX6_partThatStays 132 = .ok (.aload_n 0, 1) := by decide +kernel
theorem dX6_partThatStays_133 : decode cX6_partThatStays 133 = .ok (.iload_n 2, 1) := by decide +kernel
theorem dX6_partThatStays_134 : decode cX6_partThatStays 134 = .ok (.iconst 1, 1) := by decide +kernel
theorem dX6_partThatStays_135 : decode cX6_partThatStays 135 = .ok (.invokevirtual 65, 3) := by decide +kernel
theorem dX6_partThatStays_138 : decode cX6_partThatStays 138 = .ok (.ifCond .eq 7, 3) := by decide +kernel
theorem dX6_partThatStays_141 : decode cX6_partThatStays 141 = .ok (.iload_n 3, 1) := by decide +kernel
theorem dX6_partThatStays_142 : decode cX6_partThatStays 142 = .ok (.goto 4, 3) := by decide +kernel
theorem dX6_partThatStays_145 : decode cX6_partThatStays 145 = .ok (.iconst (-1), 1) := by decide +kernel
theorem dX6_partThatStays_146 : decode cX6_partThatStays 146 = .ok (.ireturn, 1) := by decide +kernel
theorem dX6_partThatStays_147 : decode cX6_partThatStays 147 = .ok (.aload_n 0, 1) := by decide +kernel
theorem dX6_partThatStays_148 : decode cX6_partThatStays 148 = .ok (.iload_n 3, 1) := by decide +kernel
theorem dX6_partThatStays_149 : decode cX6_partThatStays 149 = .ok (.iconst 1, 1) := by decide +kernel
theorem dX6_partThatStays_150 : decode cX6_partThatStays 150 = .ok (.invokevirtual 65, 3) := by decide +kernel
theorem dX6_partThatStays_153 : decode cX6_partThatStays 153 = .ok (.ifCond .eq 7, 3) := by decide +kernel
theorem dX6_partThatStays_156 : decode cX6_partThatStays 156 = .ok (.iload_n 2, 1) := by decide +kernel
theorem dX6_partThatStays_157 : decode cX6_partThatStays 157 = .ok (.goto 4, 3) := by decide +kernel
theorem dX6_partThatStays_160 : decode cX6_partThatStays 160 = .ok (.iconst (-1), 1) := by decide +kernel
theorem dX6_partThatStays_161 : decode cX6_partThatStays 161 = .ok (.ireturn, 1) := by decide +kernel
theorem dX6_partThatStays_162 : decode cX6_partThatStays 162 = .ok (.aload_n 0, 1) := by decide +kernel
theorem dX6_partThatStays_163 : decode cX6_partThatStays 163 = .ok (.iload_n 2, 1) := by decide +kernel
theorem dX6_partThatStays_164 : decode cX6_partThatStays 164 = .ok (.iload_n 3, 1) := by decide +kernel
theorem dX6_partThatStays_165 : decode cX6_partThatStays 165 = .ok (.invokevirtual 69, 3) := by decide +kernel
theorem dX6_partThatStays_168 : decode cX6_partThatStays 168 = .ok (.ifCond .eq 7, 3) := by decide +kernel
theorem dX6_partThatStays_171 : decode cX6_partThatStays 171 = .ok (.iload_n 2, 1) := by decide +kernel
theorem dX6_partThatStays_172 : decode cX6_partThatStays 172 = .ok (.goto 4, 3) := by decide +kernel
theorem dX6_partThatStays_175 : decode cX6_partThatStays 175 = .ok (.iconst (-1), 1) := by decide +kernel
theorem dX6_partThatStays_176 : decode cX6_partThatStays 176 = .ok (.ireturn, 1) := by decide +kernel
theorem dX6_partThatStays_177 : decode cX6_partThatStays 177 = .ok (.aload_n 0, 1) := by decide +kernel
theorem dX6_partThatStays_178 : decode cX6_partThatStays 178 = .ok (.iload_n 3, 1) := by decide +kernel
theorem dX6_partThatStays_179 : decode cX6_partThatStays 179 = .ok (.aload_n 0, 1) := by decide +kernel
theorem dX6_partThatStays_180 : decode cX6_partThatStays 180 = .ok (.iload_n 3, 1) := by decide +kernel
theorem dX6_partThatStays_181 : decode cX6_partThatStays 181 = .ok (.invokevirtual 59, 3) := by decide +kernel
theorem dX6_partThatStays_184 : decode cX6_partThatStays 184 = .ok (.invokevirtual 69, 3) := by decide +kernel
theorem dX6_partThatStays_187 : decode cX6_partThatStays 187 = .ok (.ifCond .eq 7, 3) := by decide +kernel
theorem dX6_partThatStays_190 : decode cX6_partThatStays 190 = .ok (.iload_n 3, 1) := by decide +kernel
theorem dX6_partThatStays_191 : decode cX6_partThatStays 191 = .ok (.goto 4, 3) := by decide +kernel
theorem dX6_partThatStays_194 : decode cX6_partThatStays 194 = .ok (.iconst (-1), 1) := by decide +kernel
theorem dX6_partThatStays_195 : decode cX6_partThatStays 195 = .ok (.ireturn, 1) := by decide +kernel
theorem dX6_partThatStays_196 : decode cX6_partThatStays 196 = .ok (.aload_n 0, 1) := by decide +kernel
theorem dX6_partThatStays_197 : decode cX6_partThatStays 197 = .ok (.iload_n 2, 1) := by decide +kernel
theorem dX6_partThatStays_198 : decode cX6_partThatStays 198 = .ok (.invokevirtual 62, 3) := by decide +kernel
theorem dX6_partThatStays_201 : decode cX6_partThatStays 201 = .ok (.bipush 13, 2) := by decide +kernel
theorem dX6_partThatStays_203 : decode cX6_partThatStays 203 = .ok (.if_icmp .ne 9, 3) := by decide +kernel
theorem dX6_partThatStays_206 : decode cX6_partThatStays 206 = .ok (.iload_n 2, 1) := by decide +kernel
theorem dX6_partThatStays_207 : decode cX6_partThatStays 207 = .ok (.iconst 1, 1) := by decide +kernel
theorem dX6_partThatStays_208 : decode cX6_partThatStays 208 = .ok (.iadd, 1) := by decide +kernel
theorem dX6_partThatStays_209 : decode cX6_partThatStays 209 = .ok (.goto 4, 3) := by decide +kernel
theorem dX6_partThatStays_212 : decode cX6_partThatStays 212 = .ok (.iconst (-1), 1) := by decide +kernel
theorem dX6_partThatStays_213 : decode cX6_partThatStays 213 = .ok (.ireturn, 1) := by decide +kernel
theorem dX6_partThatStays_214 : decode cX6_partThatStays 214 = .ok (.iconst (-1), 1) := by decide +kernel
theorem dX6_partThatStays_215 : decode cX6_partThatStays 215 = .ok (.ireturn, 1) := by decide +kernel
theorem dX6_isNothing_0 : decode cX6_isNothing 0 = .ok (.iload_n 1, 1) := by decide +kernel
theorem dX6_isNothing_1 : decode cX6_isNothing 1 = .ok (.iconst 1, 1) := by decide +kernel
theorem dX6_isNothing_2 : decode cX6_isNothing 2 = .ok (.iadd, 1) := by decide +kernel
theorem dX6_isNothing_3 : decode cX6_isNothing 3 = .ok (.istore_n 2, 1) := by decide +kernel
theorem dX6_isNothing_4 : decode cX6_isNothing 4 = .ok (.aload_n 0, 1) := by decide +kernel
theorem dX6_isNothing_5 : decode cX6_isNothing 5 = .ok (.iload_n 2, 1) := by decide +kernel
theorem dX6_isNothing_6 : decode cX6_isNothing 6 = .ok (.invokevirtual 59, 3) := by decide +kernel
theorem dX6_isNothing_9 : decode cX6_isNothing 9 = .ok (.istore_n 3, 1) := by decide +kernel
theorem dX6_isNothing_10 : decode cX6_isNothing 10 = .ok (.aload_n 0, 1) := by decide +kernel
theorem dX6_isNothing_11 : decode cX6_isNothing 11 = .ok (.iload_n 1, 1) := by decide +kernel
theorem dX6_isNothing_12 : decode cX6_isNothing 12 = .ok (.invokevirtual 62, 3) := by decide +kernel
theorem dX6_isNothing_15 : decode cX6_isNothing 15 = .ok (.istore 4, 2) := by decide +kernel
theorem dX6_isNothing_17 : decode cX6_isNothing 17 = .ok (.iload 4, 2) := by decide +kernel
theorem dX6_isNothing_19 : decode cX6_isNothing 19 = .ok (.iconst 3, 1) := by decide +kernel
theorem dX6_isNothing_20 : decode cX6_isNothing 20 = .ok (.if_icmp .ne 12, 3) := by decide +kernel
theorem dX6_isNothing_23 : decode cX6_isNothing 23 = .ok (.aload_n 0, 1) := by decide +kernel
theorem dX6_isNothing_24 : decode cX6_isNothing 24 = .ok (.iload_n 2, 1) := by decide +kernel
theorem dX6_isNothing_25 : decode cX6_isNothing 25 = .ok (.iload_n 3, 1) := by decide +kernel
theorem dX6_isNothing_26 : decode cX6_isNothing 26 = .ok (.invokevirtual 69, 3) := by decide +kernel
theorem dX6_isNothing_29 : decode cX6_isNothing 29 = .ok (.ifCond .ne 27, 3) := by decide +kernel
theorem dX6_isNothing_32 : decode cX6_isNothing 32 = .ok (.iload 4, 2) := by decide +kernel
theorem dX6_isNothing_34 : decode cX6_isNothing 34 = .ok (.iconst 4, 1) := by decide +kernel
theorem dX6_isNothing_35 : decode cX6_isNothing 35 = .ok (.if_icmp .ne 25, 3) := by decide +kernel
theorem dX6_isNothing_38 : decode cX6_isNothing 38 = .ok (.aload_n 0, 1) := by decide +kernel
theorem dX6_isNothing_39 : decode cX6_isNothing 39 = .ok (.iload_n 2, 1) := by decide +kernel
theorem dX6_isNothing_40 : decode cX6_isNothing 40 = .ok (.iconst 0, 1) := by decide +kernel
theorem dX6_isNothing_41 : decode cX6_isNothing 41 = .ok (.invokevirtual 65, 3) := by decide +kernel
theorem dX6_isNothing_44 : decode cX6_isNothing 44 = .ok (.ifCond .ne 12, 3) := by decide +kernel
theorem dX6_isNothing_47 : decode cX6_isNothing 47 = .ok (.aload_n 0, 1) := by decide +kernel
theorem dX6_isNothing_48 : decode cX6_isNothing 48 = .ok (.iload_n 3, 1) := by decide +kernel
theorem dX6_isNothing_49 : decode cX6_isNothing 49 = .ok (.iconst 0, 1) := by decide +kernel
theorem dX6_isNothing_50 : decode cX6_isNothing 50 = .ok (.invokevirtual 65, 3) := by decide +kernel
theorem dX6_isNothing_53 : decode cX6_isNothing 53 = .ok (.ifCond .eq 7, 3) := by decide +kernel
theorem dX6_isNothing_56 : decode cX6_isNothing 56 = .ok (.iconst 1, 1) := by decide +kernel
theorem dX6_isNothing_57 : decode cX6_isNothing 57 = .ok (.goto 4, 3) := by decide +kernel
theorem dX6_isNothing_60 : decode cX6_isNothing 60 = .ok (.iconst 0, 1) := by decide +kernel
theorem dX6_isNothing_61 : decode cX6_isNothing 61 = .ok (.ireturn, 1) := by decide +kernel
