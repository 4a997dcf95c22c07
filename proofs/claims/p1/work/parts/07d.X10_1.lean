theorem dX10_sketch_156 : decode cX10_sketch 156 = .ok (.aload_n 3, 1) := by decide +kernel
theorem dX10_sketch_157 : decode cX10_sketch 157 = .ok (.iload 8, 2) := by decide +kernel
theorem dX10_sketch_159 : decode cX10_sketch 159 = .ok (.baload, 1) := by decide +kernel
theorem dX10_sketch_160 : decode cX10_sketch 160 = .ok (.ifCond .eq 7, 3) := by decide +kernel
theorem dX10_sketch_163 : decode cX10_sketch 163 = .ok (.iconst 0, 1) := by decide +kernel
theorem dX10_sketch_164 : decode cX10_sketch 164 = .ok (.goto 4, 3) := by decide +kernel
theorem dX10_sketch_167 : decode cX10_sketch 167 = .ok (.iconst 1, 1) := by decide +kernel
theorem dX10_sketch_168 : decode cX10_sketch 168 = .ok (.iadd, 1) := by decide +kernel
theorem dX10_sketch_169 : decode cX10_sketch 169 = .ok (.bipush 8, 2) := by decide +kernel
theorem dX10_sketch_171 : decode cX10_sketch 171 = .ok (.if_icmp .le 7, 3) := by decide +kernel
theorem dX10_sketch_174 : decode cX10_sketch 174 = .ok (.iconst 1, 1) := by decide +kernel
theorem dX10_sketch_175 : decode cX10_sketch 175 = .ok (.goto 4, 3) := by decide +kernel
theorem dX10_sketch_178 : decode cX10_sketch 178 = .ok (.iconst 0, 1) := by decide +kernel
theorem dX10_sketch_179 : decode cX10_sketch 179 = .ok (.ior, 1) := by decide +kernel
theorem dX10_sketch_180 : decode cX10_sketch 180 = .ok (.istore 7, 2) := by decide +kernel
theorem dX10_sketch_182 : decode cX10_sketch 182 = .ok (.iinc 8 1, 3) := by decide +kernel
theorem dX10_sketch_185 : decode cX10_sketch 185 = .ok (.goto (-60), 3) := by decide +kernel
theorem dX10_sketch_188 : decode cX10_sketch 188 = .ok (.iload 6, 2) := by decide +kernel
theorem dX10_sketch_190 : decode cX10_sketch 190 = .ok (.bipush 40, 2) := by decide +kernel
theorem dX10_sketch_192 : decode cX10_sketch 192 = .ok (.if_icmp .gt 8, 3) := by decide +kernel
theorem dX10_sketch_195 : decode cX10_sketch 195 = .ok (.iload 7, 2) := by decide +kernel
theorem dX10_sketch_197 : decode cX10_sketch 197 = .ok (.ifCond .eq 9, 3) := by decide +kernel
theorem dX10_sketch_200 : decode cX10_sketch 200 = .ok (.aload_n 0, 1) := by decide +kernel
theorem dX10_sketch_201 : decode cX10_sketch 201 = .ok (.iconst 2, 1) := by decide +kernel
theorem dX10_sketch_202 : decode cX10_sketch 202 = .ok (.invokevirtual 176, 3) := by decide +kernel
theorem dX10_sketch_205 : decode cX10_sketch 205 = .ok (.ireturn, 1) := by decide +kernel
theorem dX10_sketch_206 : decode cX10_sketch 206 = .ok (.aload_n 0, 1) := by decide +kernel
theorem dX10_sketch_207 : decode cX10_sketch 207 = .ok (.dup, 1) := by decide +kernel
theorem dX10_sketch_208 : decode cX10_sketch 208 = .ok (.getfield 179, 3) := by decide +kernel
theorem dX10_sketch_211 : decode cX10_sketch 211 = .ok (.iconst 1, 1) := by decide +kernel
theorem dX10_sketch_212 : decode cX10_sketch 212 = .ok (.iadd, 1) := by decide +kernel
theorem dX10_sketch_213 : decode cX10_sketch 213 = .ok (.putfield 179, 3) := by decide +kernel
theorem dX10_sketch_216 : decode cX10_sketch 216 = .ok (.iload 5, 2) := by decide +kernel
theorem dX10_sketch_218 : decode cX10_sketch 218 = .ok (.ireturn, 1) := by decide +kernel
theorem dX10_erase_0 : decode cX10_erase 0 = .ok (.aload_n 0, 1) := by decide +kernel
theorem dX10_erase_1 : decode cX10_erase 1 = .ok (.iconst 0, 1) := by decide +kernel
theorem dX10_erase_2 : decode cX10_erase 2 = .ok (.putfield 163, 3) := by decide +kernel
theorem dX10_erase_5 : decode cX10_erase 5 = .ok (.aload_n 0, 1) := by decide +kernel
theorem dX10_erase_6 : decode cX10_erase 6 = .ok (.getfield 179, 3) := by decide +kernel
theorem dX10_erase_9 : decode cX10_erase 9 = .ok (.istore_n 1, 1) := by decide +kernel
theorem dX10_erase_10 : decode cX10_erase 10 = .ok (.aload_n 0, 1) := by decide +kernel
theorem dX10_erase_11 : decode cX10_erase 11 = .ok (.iconst 0, 1) := by decide +kernel
theorem dX10_erase_12 : decode cX10_erase 12 = .ok (.putfield 179, 3) := by decide +kernel
theorem dX10_erase_15 : decode cX10_erase 15 = .ok (.iload_n 1, 1) := by decide +kernel
theorem dX10_erase_16 : decode cX10_erase 16 = .ok (.ireturn, 1) := by decide +kernel
theorem dX10_plant_0 : decode cX10_plant 0 = .ok (.aload_n 0, 1) := by decide +kernel
theorem dX10_plant_1 : decode cX10_plant 1 = .ok (.iconst 0, 1) := by decide +kernel
theorem dX10_plant_2 : decode cX10_plant 2 = .ok (.putfield 163, 3) := by decide +kernel
theorem dX10_plant_5 : decode cX10_plant 5 = .ok (.aload_n 0, 1) := by decide +kernel
theorem dX10_plant_6 : decode cX10_plant 6 = .ok (.getfield 127, 3) := by decide +kernel
theorem dX10_plant_9 : decode cX10_plant 9 = .ok (.aload_n 0, 1) := by decide +kernel
theorem dX10_plant_10 : decode cX10_plant 10 = .ok (.getfield 179, 3) := by decide +kernel
theorem dX10_plant_13 : decode cX10_plant 13 = .ok (.bipush 120, 2) := by decide +kernel
theorem dX10_plant_15 : decode cX10_plant 15 = .ok (.newarray .boolean, 2) := by decide +kernel
theorem dX10_plant_17 : decode cX10_plant 17 = .ok (.bipush 120, 2) := by decide +kernel
theorem dX10_plant_19 : decode cX10_plant 19 = .ok (.newarray .int, 2) := by decide +kernel
theorem dX10_plant_21 : decode cX10_plant 21 = .ok (.invokestatic 182, 3) := by decide +kernel
theorem dX10_plant_24 : decode cX10_plant 24 = .ok (.ifCond .gt 12, 3) := by decide +kernel
theorem dX10_plant_27 : decode cX10_plant 27 = .ok (.aload_n 0, 1) := by decide +kernel
theorem dX10_plant_28 : decode cX10_plant 28 = .ok (.getfield 166, 3) := by decide +kernel
theorem dX10_plant_31 : decode cX10_plant 31 = .ok (.bipush 16, 2) := by decide +kernel
theorem dX10_plant_33 : decode cX10_plant 33 = .ok (.if_icmp .ne 9, 3) := by decide +kernel
theorem dX10_plant_36 : decode cX10_plant 36 = .ok (.aload_n 0, 1) := by decide +kernel
theorem dX10_plant_37 : decode cX10_plant 37 = .ok (.iconst 1, 1) := by decide +kernel
theorem dX10_plant_38 : decode cX10_plant 38 = .ok (.invokevirtual 176, 3) := by decide +kernel
theorem dX10_plant_41 : decode cX10_plant 41 = .ok (.ireturn, 1) := by decide +kernel
theorem dX10_plant_42 : decode cX10_plant 42 = .ok (.aload_n 0, 1) := by decide +kernel
theorem dX10_plant_43 : decode cX10_plant 43 = .ok (.getfield 131, 3) := by decide +kernel
theorem dX10_plant_46 : decode cX10_plant 46 = .ok (.aload_n 0, 1) := by decide +kernel
theorem dX10_plant_47 : decode cX10_plant 47 = .ok (.getfield 166, 3) := by decide +kernel
theorem dX10_plant_50 : decode cX10_plant 50 = .ok (.aload_n 0, 1) := by decide +kernel
theorem dX10_plant_51 : decode cX10_plant 51 = .ok (.getfield 127, 3) := by decide +kernel
theorem dX10_plant_54 : decode cX10_plant 54 = .ok (.iconst 0, 1) := by decide +kernel
theorem dX10_plant_55 : decode cX10_plant 55 = .ok (.aload_n 0, 1) := by decide +kernel
theorem dX10_plant_56 : decode cX10_plant 56 = .ok (.getfield 179, 3) := by decide +kernel
theorem dX10_plant_59 : decode cX10_plant 59 = .ok (.invokestatic 65, 3) := by decide +kernel
theorem dX10_plant_62 : decode cX10_plant 62 = .ok (.aastore, 1) := by decide +kernel
theorem dX10_plant_63 : decode cX10_plant 63 = .ok (.aload_n 0, 1) := by decide +kernel
theorem dX10_plant_64 : decode cX10_plant 64 = .ok (.iconst 0, 1) := by decide +kernel
theorem dX10_plant_65 : decode cX10_plant 65 = .ok (.putfield 179, 3) := by decide +kernel
theorem dX10_plant_68 : decode cX10_plant 68 = .ok (.aload_n 0, 1) := by decide +kernel
theorem dX10_plant_69 : decode cX10_plant 69 = .ok (.dup, 1) := by decide +kernel
theorem dX10_plant_70 : decode cX10_plant 70 = .ok (.getfield 166, 3) := by decide +kernel
theorem dX10_plant_73 : decode cX10_plant 73 = .ok (.dup_x1, 1) := by decide +kernel
theorem dX10_plant_74 : decode cX10_plant 74 = .ok (.iconst 1, 1) := by decide +kernel
theorem dX10_plant_75 : decode cX10_plant 75 = .ok (.iadd, 1) := by decide +kernel
theorem dX10_plant_76 : decode cX10_plant 76 = .ok (.putfield 166, 3) := by decide +kernel
theorem dX10_plant_79 : decode cX10_plant 79 = .ok (.ireturn, 1) := by decide +kernel
theorem dX10_fell_0 : decode cX10_fell 0 = .ok (.aload_n 0, 1) := by decide +kernel
theorem dX10_fell_1 : decode cX10_fell 1 = .ok (.iconst 0, 1) := by decide +kernel
theorem dX10_fell_2 : decode cX10_fell 2 = .ok (.putfield 163, 3) := by decide +kernel
theorem dX10_fell_5 : decode cX10_fell 5 = .ok (.aload_n 0, 1) := by decide +kernel
theorem dX10_fell_6 : decode cX10_fell 6 = .ok (.iload_n 1, 1) := by decide +kernel
theorem dX10_fell_7 : decode cX10_fell 7 = .ok (.invokevirtual 169, 3) := by decide +kernel
theorem dX10_fell_10 : decode cX10_fell 10 = .ok (.ifCond .ne 9, 3) := by decide +kernel
theorem dX10_fell_13 : decode cX10_fell 13 = .ok (.aload_n 0, 1) := by decide +kernel
theorem dX10_fell_14 : decode cX10_fell 14 = .ok (.iconst 1, 1) := by decide +kernel
theorem dX10_fell_15 : decode cX10_fell 15 = .ok (.invokevirtual 176, 3) := by decide +kernel
theorem dX10_fell_18 : decode cX10_fell 18 = .ok (.ireturn, 1) := by decide +kernel
theorem dX10_fell_19 : decode cX10_fell 19 = .ok (.aload_n 0, 1) := by decide +kernel
theorem dX10_fell_20 : decode cX10_fell 20 = .ok (.getfield 131, 3) := by decide +kernel
theorem dX10_fell_23 : decode cX10_fell 23 = .ok (.iload_n 1, 1) := by decide +kernel
theorem dX10_fell_24 : decode cX10_fell 24 = .ok (.aaload, 1) := by decide +kernel
theorem dX10_fell_25 : decode cX10_fell 25 = .ok (.arraylength, 1) := by decide +kernel
theorem dX10_fell_26 : decode cX10_fell 26 = .ok (.istore_n 2, 1) := by decide +kernel
theorem dX10_fell_27 : decode cX10_fell 27 = .ok (.aload_n 0, 1) := by decide +kernel
theorem dX10_fell_28 : decode cX10_fell 28 = .ok (.dup, 1) := by decide +kernel
theorem dX10_fell_29 : decode cX10_fell 29 = .ok (.getfield 166, 3) := by decide +kernel
theorem dX10_fell_32 : decode cX10_fell 32 = .ok (.iconst 1, 1) := by decide +kernel
theorem dX10_fell_33 : decode cX10_fell 33 = .ok (.isub, 1) := by decide +kernel
theorem dX10_fell_34 : decode cX10_fell 34 = .ok (.putfield 166, 3) := by decide +kernel
theorem dX10_fell_37 : decode cX10_fell 37 = .ok (.iload_n 1, 1) := by decide +kernel
theorem dX10_fell_38 : decode cX10_fell 38 = .ok (.istore_n 3, 1) := by decide +kernel
theorem dX10_fell_39 : decode cX10_fell 39 = .ok (.iload_n 3, 1) := by decide +kernel
theorem dX10_fell_40 : decode cX10_fell 40 = .ok (.aload_n 0, 1) := by decide +kernel
theorem dX10_fell_41 : decode cX10_fell 41 = .ok (.getfield 166, 3) := by decide +kernel
theorem dX10_fell_44 : decode cX10_fell 44 = .ok (.if_icmp .ge 23, 3) := by decide +kernel
theorem dX10_fell_47 : decode cX10_fell 47 = .ok (.aload_n 0, 1) := by decide +kernel
theorem dX10_fell_48 : decode cX10_fell 48 = .ok (.getfield 131, 3) := by decide +kernel
theorem dX10_fell_51 : decode cX10_fell 51 = .ok (.iload_n 3, 1) := by decide +kernel
theorem dX10_fell_52 : decode cX10_fell 52 = .ok (.aload_n 0, 1) := by decide +kernel
theorem dX10_fell_53 : decode cX10_fell 53 = .ok (.getfield 131, 3) := by decide +kernel
theorem dX10_fell_56 : decode cX10_fell 56 = .ok (.iload_n 3, 1) := by decide +kernel
theorem dX10_fell_57 : decode cX10_fell 57 = .ok (.iconst 1, 1) := by decide +kernel
theorem dX10_fell_58 : decode cX10_fell 58 = .ok (.iadd, 1) := by decide +kernel
theorem dX10_fell_59 : decode cX10_fell 59 = .ok (.aaload, 1) := by decide +kernel
theorem dX10_fell_60 : decode cX10_fell 60 = .ok (.aastore, 1) := by decide +kernel
theorem dX10_fell_61 : decode cX10_fell 61 = .ok (.iinc 3 1, 3) := by decide +kernel
theorem dX10_fell_64 : decode cX10_fell 64 = .ok (.goto (-25), 3) := by decide +kernel
theorem dX10_fell_67 : decode cX10_fell 67 = .ok (.iload_n 2, 1) := by decide +kernel
theorem dX10_fell_68 : decode cX10_fell 68 = .ok (.ireturn, 1) := by decide +kernel
theorem dX10_addCase_0 : decode cX10_addCase 0 = .ok (.aload_n 0, 1) := by decide +kernel
theorem dX10_addCase_1 : decode cX10_addCase 1 = .ok (.iconst 0, 1) := by decide +kernel
theorem dX10_addCase_2 : decode cX10_addCase 2 = .ok (.putfield 163, 3) := by decide +kernel
theorem dX10_addCase_5 : decode cX10_addCase 5 = .ok (.iload_n 1, 1) := by decide +kernel
theorem dX10_addCase_6 : decode cX10_addCase 6 = .ok (.bipush (-99), 2) := by decide +kernel
theorem dX10_addCase_8 : decode cX10_addCase 8 = .ok (.bipush 99, 2) := by decide +kernel
theorem dX10_addCase_10 : decode cX10_addCase 10 = .ok (.invokestatic 94, 3) := by decide +kernel
theorem dX10_addCase_13 : decode cX10_addCase 13 = .ok (.ifCond .eq 39, 3) := by decide +kernel
theorem dX10_addCase_16 : decode cX10_addCase 16 = .ok (.iload_n 2, 1) := by decide +kernel
theorem dX10_addCase_17 : decode cX10_addCase 17 = .ok (.bipush (-99), 2) := by decide +kernel
theorem dX10_addCase_19 : decode cX10_addCase 19 = .ok (.bipush 99, 2) := by decide +kernel
theorem dX10_addCase_21 : decode cX10_addCase 21 = .ok (.invokestatic 94, 3) := by decide +kernel
theorem dX10_addCase_24 : decode cX10_addCase 24 = .ok (.ifCond .eq 28, 3) := by decide +kernel
theorem dX10_addCase_27 : decode cX10_addCase 27 = .ok (.iload_n 3, 1) := by decide +kernel
theorem dX10_addCase_28 : decode cX10_addCase 28 = .ok (.bipush (-99), 2) := by decide +kernel
theorem dX10_addCase_30 : decode cX10_addCase 30 = .ok (.bipush 99, 2) := by decide +kernel
theorem dX10_addCase_32 : decode cX10_addCase 32 = .ok (.invokestatic 94, 3) := by decide +kernel
theorem dX10_addCase_35 : decode cX10_addCase 35 = .ok (.ifCond .eq 17, 3) := by decide +kernel
theorem dX10_addCase_38 : decode cX10_addCase 38 = .ok (.iload 4, 2) := by decide +kernel
theorem dX10_addCase_40 : decode cX10_addCase 40 = .ok (.sipush (-9999), 3) := by decide +kernel
theorem dX10_addCase_43 : decode cX10_addCase 43 = .ok (.sipush 9999, 3) := by decide +kernel
theorem dX10_addCase_46 : decode cX10_addCase 46 = .ok (.invokestatic 94, 3) := by decide +kernel
theorem dX10_addCase_49 : decode cX10_addCase 49 = .ok (.ifCond .ne 9, 3) := by decide +kernel
theorem dX10_addCase_52 : decode cX10_addCase 52 = .ok (.aload_n 0, 1) := by decide +kernel
theorem dX10_addCase_53 : decode cX10_addCase 53 = .ok (.iconst 1, 1) := by decide +kernel
theorem dX10_addCase_54 : decode cX10_addCase 54 = .ok (.invokevirtual 176, 3) := by decide +kernel
theorem dX10_addCase_57 : decode cX10_addCase 57 = .ok (.ireturn, 1) := by decide +kernel
theorem dX10_addCase_58 : decode cX10_addCase 58 = .ok (.aload_n 0, 1) := by decide +kernel
theorem dX10_addCase_59 : decode cX10_addCase 59 = .ok (.getfield 189, 3) := by decide +kernel
theorem dX10_addCase_62 : decode cX10_addCase 62 = .ok (.bipush 12, 2) := by decide +kernel
theorem dX10_addCase_64 : decode cX10_addCase 64 = .ok (.if_icmp .ne 9, 3) := by decide +kernel
theorem dX10_addCase_67 : decode cX10_addCase 67 = .ok (.aload_n 0, 1) := by decide +kernel
theorem dX10_addCase_68 : decode cX10_addCase 68 = .ok (.iconst 2, 1) := by decide +kernel
theorem dX10_addCase_69 : decode cX10_addCase 69 = .ok (.invokevirtual 176, 3) := by decide +kernel
theorem dX10_addCase_72 : decode cX10_addCase 72 = .ok (.ireturn, 1) := by decide +kernel
theorem dX10_addCase_73 : decode cX10_addCase 73 = .ok (.aload_n 0, 1) := by decide +kernel
theorem dX10_addCase_74 : decode cX10_addCase 74 = .ok (.getfield 135, 3) := by decide +kernel
theorem dX10_addCase_77 : decode cX10_addCase 77 = .ok (.iconst 3, 1) := by decide +kernel
theorem dX10_addCase_78 : decode cX10_addCase 78 = .ok (.aload_n 0, 1) := by decide +kernel
theorem dX10_addCase_79 : decode cX10_addCase 79 = .ok (.getfield 189, 3) := by decide +kernel
theorem dX10_addCase_82 : decode cX10_addCase 82 = .ok (.imul, 1) := by decide +kernel
theorem dX10_addCase_83 : decode cX10_addCase 83 = .ok (.iload_n 1, 1) := by decide +kernel
theorem dX10_addCase_84 : decode cX10_addCase 84 = .ok (.iastore, 1) := by decide +kernel
theorem dX10_addCase_85 : decode cX10_addCase 85 = .ok (.aload_n 0, 1) := by decide +kernel
theorem dX10_addCase_86 : decode cX10_addCase 86 = .ok (.getfield 135, 3) := by decide +kernel
theorem dX10_addCase_89 : decode cX10_addCase 89 = .ok (.iconst 3, 1) := by decide +kernel
theorem dX10_addCase_90 : decode cX10_addCase 90 = .ok (.aload_n 0, 1) := by decide +kernel
theorem dX10_addCase_91 : decode cX10_addCase 91 = .ok (.getfield 189, 3) := by decide +kernel
theorem dX10_addCase_94 : decode cX10_addCase 94 = .ok (.imul, 1) := by decide +kernel
theorem dX10_addCase_95 : decode cX10_addCase 95 = .ok (.iconst 1, 1) := by decide +kernel
theorem dX10_addCase_96 : decode cX10_addCase 96 = .ok (.iadd, 1) := by decide +kernel
theorem dX10_addCase_97 : decode cX10_addCase 97 = .ok (.iload_n 2, 1) := by decide +kernel
theorem dX10_addCase_98 : decode cX10_addCase 98 = .ok (.iastore, 1) := by decide +kernel
theorem dX10_addCase_99 : decode cX10_addCase 99 = .ok (.aload_n 0, 1) := by decide +kernel
theorem dX10_addCase_100 : decode cX10_addCase 100 = .ok (.getfield 135, 3) := by decide +kernel
theorem dX10_addCase_103 : decode cX10_addCase 103 = .ok (.iconst 3, 1) := by decide +kernel
theorem dX10_addCase_104 : decode cX10_addCase 104 = .ok (.aload_n 0, 1) := by decide +kernel
theorem dX10_addCase_105 : decode cX10_addCase 105 = .ok (.getfield 189, 3) := by decide +kernel
theorem dX10_addCase_108 : decode cX10_addCase 108 = .ok (.imul, 1) := by decide +kernel
theorem dX10_addCase_109 : decode cX10_addCase 109 = .ok (.iconst 2, 1) := by decide +kernel
theorem dX10_addCase_110 : decode cX10_addCase 110 = .ok (.iadd, 1) := by decide +kernel
theorem dX10_addCase_111 : decode cX10_addCase 111 = .ok (.iload_n 3, 1) := by decide +kernel
theorem dX10_addCase_112 : decode cX10_addCase 112 = .ok (.iastore, 1) := by decide +kernel
theorem dX10_addCase_113 : decode cX10_addCase 113 = .ok (.aload_n 0, 1) := by decide +kernel
theorem dX10_addCase_114 : decode cX10_addCase 114 = .ok (.getfield 138, 3) := by decide +kernel
theorem dX10_addCase_117 : decode cX10_addCase 117 = .ok (.aload_n 0, 1) := by decide +kernel
theorem dX10_addCase_118 : decode cX10_addCase 118 = .ok (.getfield 189, 3) := by decide +kernel
theorem dX10_addCase_121 : decode cX10_addCase 121 = .ok (.iload 4, 2) := by decide +kernel
theorem dX10_addCase_123 : decode cX10_addCase 123 = .ok (.iastore, 1) := by decide +kernel
theorem dX10_addCase_124 : decode cX10_addCase 124 = .ok (.aload_n 0, 1) := by decide +kernel
theorem dX10_addCase_125 : decode cX10_addCase 125 = .ok (.dup, 1) := by decide +kernel
theorem dX10_addCase_126 : decode cX10_addCase 126 = .ok (.getfield 189, 3) := by decide +kernel
theorem dX10_addCase_129 : decode cX10_addCase 129 = .ok (.dup_x1, 1) := by decide +kernel
theorem dX10_addCase_130 : decode cX10_addCase 130 = .ok (.iconst 1, 1) := by decide +kernel
theorem dX10_addCase_131 : decode cX10_addCase 131 = .ok (.iadd, 1) := by decide +kernel
theorem dX10_addCase_132 : decode cX10_addCase 132 = .ok (.putfield 189, 3) := by decide +kernel
theorem dX10_addCase_135 : decode cX10_addCase 135 = .ok (.ireturn, 1) := by decide +kernel
theorem dX10_setWay_0 : decode cX10_setWay 0 = .ok (.aload_n 0, 1) := by decide +kernel
theorem dX10_setWay_1 : decode cX10_setWay 1 = .ok (.iconst 0, 1) := by decide +kernel
theorem dX10_setWay_2 : decode cX10_setWay 2 = .ok (.putfield 163, 3) := by decide +kernel
theorem dX10_setWay_5 : decode cX10_setWay 5 = .ok (.iload_n 1, 1) := by decide +kernel
theorem dX10_setWay_6 : decode cX10_setWay 6 = .ok (.iconst 0, 1) := by decide +kernel
theorem dX10_setWay_7 : decode cX10_setWay 7 = .ok (.iconst 2, 1) := by decide +kernel
theorem dX10_setWay_8 : decode cX10_setWay 8 = .ok (.invokestatic 94, 3) := by decide +kernel
theorem dX10_setWay_11 : decode cX10_setWay 11 = .ok (.ifCond .eq 13, 3) := by decide +kernel
theorem dX10_setWay_14 : decode cX10_setWay 14 = .ok (.iload_n 2, 1) := by decide +kernel
theorem dX10_setWay_15 : decode cX10_setWay 15 = .ok (.iconst 0, 1) := by decide +kernel
theorem dX10_setWay_16 : decode cX10_setWay 16 = .ok (.bipush 99, 2) := by decide +kernel
theorem dX10_setWay_18 : decode cX10_setWay 18 = .ok (.invokestatic 94, 3) := by decide +kernel
theorem dX10_setWay_21 : decode cX10_setWay 21 = .ok (.ifCond .ne 9, 3) := by decide +kernel
theorem dX10_setWay_24 : decode cX10_setWay 24 = .ok (.aload_n 0, 1) := by decide +kernel
theorem dX10_setWay_25 : decode cX10_setWay 25 = .ok (.iconst 1, 1) := by decide +kernel
theorem dX10_setWay_26 : decode cX10_setWay 26 = .ok (.invokevirtual 176, 3) := by decide +kernel
theorem dX10_setWay_29 : decode cX10_setWay 29 = .ok (.ireturn, 1) := by decide +kernel
theorem dX10_setWay_30 : decode cX10_setWay 30 = .ok (.aload_n 0, 1) := by decide +kernel
theorem dX10_setWay_31 : decode cX10_setWay 31 = .ok (.getfield 192, 3) := by decide +kernel
theorem dX10_setWay_34 : decode cX10_setWay 34 = .ok (.istore_n 3, 1) := by decide +kernel
theorem dX10_setWay_35 : decode cX10_setWay 35 = .ok (.aload_n 0, 1) := by decide +kernel
theorem dX10_setWay_36 : decode cX10_setWay 36 = .ok (.iload_n 1, 1) := by decide +kernel
theorem dX10_setWay_37 : decode cX10_setWay 37 = .ok (.putfield 192, 3) := by decide +kernel
theorem dX10_setWay_40 : decode cX10_setWay 40 = .ok (.aload_n 0, 1) := by decide +kernel
theorem dX10_setWay_41 : decode cX10_setWay 41 = .ok (.iload_n 2, 1) := by decide +kernel
theorem dX10_setWay_42 : decode cX10_setWay 42 = .ok (.putfield 141, 3) := by decide +kernel
theorem dX10_setWay_45 : decode cX10_setWay 45 = .ok (.iload_n 3, 1) := by decide +kernel
theorem dX10_setWay_46 : decode cX10_setWay 46 = .ok (.ireturn, 1) := by decide +kernel
theorem dX10_cross_0 : decode cX10_cross 0 = .ok (.aload_n 0, 1) := by decide +kernel
theorem dX10_cross_1 : decode cX10_cross 1 = .ok (.iconst 0, 1) := by decide +kernel
theorem dX10_cross_2 : decode cX10_cross 2 = .ok (.putfield 163, 3) := by decide +kernel
theorem dX10_cross_5 : decode cX10_cross 5 = .ok (.aload_n 0, 1) := by decide +kernel
theorem dX10_cross_6 : decode cX10_cross 6 = .ok (.iload_n 1, 1) := by decide +kernel
theorem dX10_cross_7 : decode cX10_cross 7 = .ok (.iload_n 2, 1) := by decide +kernel
theorem dX10_cross_8 : decode cX10_cross 8 = .ok (.invokevirtual 199, 3) := by decide +kernel
theorem dX10_cross_11 : decode cX10_cross 11 = .ok (.ifCond .eq 13, 3) := by decide +kernel
theorem dX10_cross_14 : decode cX10_cross 14 = .ok (.aload_n 0, 1) := by decide +kernel
theorem dX10_cross_15 : decode cX10_cross 15 = .ok (.iload_n 3, 1) := by decide +kernel
theorem dX10_cross_16 : decode cX10_cross 16 = .ok (.iload 4, 2) := by decide +kernel
theorem dX10_cross_18 : decode cX10_cross 18 = .ok (.invokevirtual 199, 3) := by decide +kernel
theorem dX10_cross_21 : decode cX10_cross 21 = .ok (.ifCond .ne 9, 3) := by decide +kernel
theorem dX10_cross_24 : decode cX10_cross 24 = .ok (.aload_n 0, 1) := by decide +kernel
theorem dX10_cross_25 : decode cX10_cross 25 = .ok (.iconst 1, 1) := by decide +kernel
theorem dX10_cross_26 : decode cX10_cross 26 = .ok (.invokevirtual 176, 3) := by decide +kernel
theorem dX10_cross_29 : decode cX10_cross 29 = .ok (.ireturn, 1) := by decide +kernel
theorem dX10_cross_30 : decode cX10_cross 30 = .ok (.aload_n 0, 1) := by decide +kernel
theorem dX10_cross_31 : decode cX10_cross 31 = .ok (.iload_n 1, 1) := by decide +kernel
theorem dX10_cross_32 : decode cX10_cross 32 = .ok (.aload_n 0, 1) := by decide +kernel
theorem dX10_cross_33 : decode cX10_cross 33 = .ok (.getfield 131, 3) := by decide +kernel
theorem dX10_cross_36 : decode cX10_cross 36 = .ok (.iload_n 1, 1) := by decide +kernel
theorem dX10_cross_37 : decode cX10_cross 37 = .ok (.aaload, 1) := by decide +kernel
theorem dX10_cross_38 : decode cX10_cross 38 = .ok (.iload_n 2, 1) := by decide +kernel
theorem dX10_cross_39 : decode cX10_cross 39 = .ok (.aload_n 0, 1) := by decide +kernel
theorem dX10_cross_40 : decode cX10_cross 40 = .ok (.getfield 131, 3) := by decide +kernel
theorem dX10_cross_43 : decode cX10_cross 43 = .ok (.iload_n 3, 1) := by decide +kernel
theorem dX10_cross_44 : decode cX10_cross 44 = .ok (.aaload, 1) := by decide +kernel
theorem dX10_cross_45 : decode cX10_cross 45 = .ok (.iload 4, 2) := by decide +kernel
theorem dX10_cross_47 : decode cX10_cross 47 = .ok (.invokestatic 202, 3) := by decide +kernel
theorem dX10_cross_50 : decode cX10_cross 50 = .ok (.invokevirtual 206, 3) := by decide +kernel
theorem dX10_cross_53 : decode cX10_cross 53 = .ok (.ireturn, 1) := by decide +kernel
theorem dX10_hoist_0 : decode cX10_hoist 0 = .ok (.aload_n 0, 1) := by decide +kernel
theorem dX10_hoist_1 : decode cX10_hoist 1 = .ok (.iconst 0, 1) := by decide +kernel
theorem dX10_hoist_2 : decode cX10_hoist 2 = .ok (.putfield 163, 3) := by decide +kernel
theorem dX10_hoist_5 : decode cX10_hoist 5 = .ok (.aload_n 0, 1) := by decide +kernel
theorem dX10_hoist_6 : decode cX10_hoist 6 = .ok (.iload_n 1, 1) := by decide +kernel
theorem dX10_hoist_7 : decode cX10_hoist 7 = .ok (.iload_n 2, 1) := by decide +kernel
theorem dX10_hoist_8 : decode cX10_hoist 8 = .ok (.invokevirtual 199, 3) := by decide +kernel
theorem dX10_hoist_11 : decode cX10_hoist 11 = .ok (.ifCond .eq 21, 3) := by decide +kernel
theorem dX10_hoist_14 : decode cX10_hoist 14 = .ok (.aload_n 0, 1) := by decide +kernel
theorem dX10_hoist_15 : decode cX10_hoist 15 = .ok (.iload_n 1, 1) := by decide +kernel
theorem dX10_hoist_16 : decode cX10_hoist 16 = .ok (.aload_n 0, 1) := by decide +kernel
theorem dX10_hoist_17 : decode cX10_hoist 17 = .ok (.getfield 131, 3) := by decide +kernel
theorem dX10_hoist_20 : decode cX10_hoist 20 = .ok (.iload_n 1, 1) := by decide +kernel
theorem dX10_hoist_21 : decode cX10_hoist 21 = .ok (.aaload, 1) := by decide +kernel
theorem dX10_hoist_22 : decode cX10_hoist 22 = .ok (.iload_n 2, 1) := by decide +kernel
theorem dX10_hoist_23 : decode cX10_hoist 23 = .ok (.invokestatic 210, 3) := by decide +kernel
theorem dX10_hoist_26 : decode cX10_hoist 26 = .ok (.invokevirtual 206, 3) := by decide +kernel
theorem dX10_hoist_29 : decode cX10_hoist 29 = .ok (.goto 8, 3) := by decide +kernel
theorem dX10_hoist_32 : decode cX10_hoist 32 = .ok (.aload_n 0, 1) := by decide +kernel
theorem dX10_hoist_33 : decode cX10_hoist 33 = .ok (.iconst 1, 1) := by decide +kernel
theorem dX10_hoist_34 : decode cX10_hoist 34 = .ok (.invokevirtual 176, 3) := by decide +kernel
theorem dX10_hoist_37 : decode cX10_hoist 37 = .ok (.ireturn, 1) := by decide +kernel
theorem dX10_recode_0 : decode cX10_recode 0 = .ok (.aload_n 0, 1) := by decide +kernel
theorem dX10_recode_1 : decode cX10_recode 1 = .ok (.iconst 0, 1) := by decide +kernel
theorem dX10_recode_2 : decode cX10_recode 2 = .ok (.putfield 163, 3) := by decide +kernel
theorem dX10_recode_5 : decode cX10_recode 5 = .ok (.aload_n 0, 1) := by decide +kernel
theorem dX10_recode_6 : decode cX10_recode 6 = .ok (.iload_n 1, 1) := by decide +kernel
theorem dX10_recode_7 : decode cX10_recode 7 = .ok (.iload_n 2, 1) := by decide +kernel
theorem dX10_recode_8 : decode cX10_recode 8 = .ok (.invokevirtual 199, 3) := by decide +kernel
theorem dX10_recode_11 : decode cX10_recode 11 = .ok (.ifCond .ne 9, 3) := by decide +kernel
theorem dX10_recode_14 : decode cX10_recode 14 = .ok (.aload_n 0, 1) := by decide +kernel
theorem dX10_recode_15 : decode cX10_recode 15 = .ok (.iconst 1, 1) := by decide +kernel
theorem dX10_recode_16 : decode cX10_recode 16 = .ok (.invokevirtual 176, 3) := by decide +kernel
theorem dX10_recode_19 : decode cX10_recode 19 = .ok (.ireturn, 1) := by decide +kernel
theorem dX10_recode_20 : decode cX10_recode 20 = .ok (.iload_n 3, 1) := by decide +kernel
theorem dX10_recode_21 : decode cX10_recode 21 = .ok (.iload 4, 2) := by decide +kernel
theorem dX10_recode_23 : decode cX10_recode 23 = .ok (.invokestatic 172, 3) := by decide +kernel
theorem dX10_recode_26 : decode cX10_recode 26 = .ok (.ifCond .ne 9, 3) := by decide +kernel
theorem dX10_recode_29 : decode cX10_recode 29 = .ok (.aload_n 0, 1) := by decide +kernel
theorem dX10_recode_30 : decode cX10_recode 30 = .ok (.iconst 2, 1) := by decide +kernel
theorem dX10_recode_31 : decode cX10_recode 31 = .ok (.invokevirtual 176, 3) := by decide +kernel
theorem dX10_recode_34 : decode cX10_recode 34 = .ok (.ireturn, 1) := by decide +kernel
theorem dX10_recode_35 : decode cX10_recode 35 = .ok (.aload_n 0, 1) := by decide +kernel
theorem dX10_recode_36 : decode cX10_recode 36 = .ok (.getfield 131, 3) := by decide +kernel
theorem dX10_recode_39 : decode cX10_recode 39 = .ok (.iload_n 1, 1) := by decide +kernel
theorem dX10_recode_40 : decode cX10_recode 40 = .ok (.aaload, 1) := by decide +kernel
theorem dX10_recode_41 : decode cX10_recode 41 = .ok (.iload_n 2, 1) := by decide +kernel
theorem dX10_recode_42 : decode cX10_recode 42 = .ok (.iaload, 1) := by decide +kernel
theorem dX10_recode_43 : decode cX10_recode 43 = .ok (.invokestatic 35, 3) := by decide +kernel
theorem dX10_recode_46 : decode cX10_recode 46 = .ok (.istore 5, 2) := by decide +kernel
theorem dX10_recode_48 : decode cX10_recode 48 = .ok (.iload 5, 2) := by decide +kernel
theorem dX10_recode_50 : decode cX10_recode 50 = .ok (.iload_n 3, 1) := by decide +kernel
theorem dX10_recode_51 : decode cX10_recode 51 = .ok (.invokestatic 213, 3) := by decide +kernel
theorem dX10_recode_54 : decode cX10_recode 54 = .ok (.ifCond .ne 5, 3) := by decide +kernel
theorem dX10_recode_57 : decode cX10_recode 57 = .ok (.iconst (-1), 1) := by decide +kernel
theorem dX10_recode_58 : decode cX10_recode 58 = .ok (.ireturn, 1) := by decide +kernel
theorem dX10_recode_59 : decode cX10_recode 59 = .ok (.aload_n 0, 1) := by decide +kernel
theorem dX10_recode_60 : decode cX10_recode 60 = .ok (.getfield 131, 3) := by decide +kernel
theorem dX10_recode_63 : decode cX10_recode 63 = .ok (.iload_n 1, 1) := by decide +kernel
theorem dX10_recode_64 : decode cX10_recode 64 = .ok (.aload_n 0, 1) := by decide +kernel
theorem dX10_recode_65 : decode cX10_recode 65 = .ok (.getfield 131, 3) := by decide +kernel
theorem dX10_recode_68 : decode cX10_recode 68 = .ok (.iload_n 1, 1) := by decide +kernel
theorem dX10_recode_69 : decode cX10_recode 69 = .ok (.aaload, 1) := by decide +kernel
theorem dX10_recode_70 : decode cX10_recode 70 = .ok (.iconst 0, 1) := by decide +kernel
theorem dX10_recode_71 : decode cX10_recode 71 = .ok (.aload_n 0, 1) := by decide +kernel
theorem dX10_recode_72 : decode cX10_recode 72 = .ok (.getfield 131, 3) := by decide +kernel
theorem dX10_recode_75 : decode cX10_recode 75 = .ok (.iload_n 1, 1) := by decide +kernel
theorem dX10_recode_76 : decode cX10_recode 76 = .ok (.aaload, 1) := by decide +kernel
theorem dX10_recode_77 : decode cX10_recode 77 = .ok (.arraylength, 1) := by decide +kernel
theorem dX10_recode_78 : decode cX10_recode 78 = .ok (.invokestatic 65, 3) := by decide +kernel
theorem dX10_recode_81 : decode cX10_recode 81 = .ok (.aastore, 1) := by decide +kernel
theorem dX10_recode_82 : decode cX10_recode 82 = .ok (.aload_n 0, 1) := by decide +kernel
theorem dX10_recode_83 : decode cX10_recode 83 = .ok (.getfield 131, 3) := by decide +kernel
theorem dX10_recode_86 : decode cX10_recode 86 = .ok (.iload_n 1, 1) := by decide +kernel
theorem dX10_recode_87 : decode cX10_recode 87 = .ok (.aaload, 1) := by decide +kernel
theorem dX10_recode_88 : decode cX10_recode 88 = .ok (.iload_n 2, 1) := by decide +kernel
theorem dX10_recode_89 : decode cX10_recode 89 = .ok (.iload_n 3, 1) := by decide +kernel
theorem dX10_recode_90 : decode cX10_recode 90 = .ok (.iload 4, 2) := by decide +kernel
theorem dX10_recode_92 : decode cX10_recode 92 = .ok (.invokestatic 186, 3) := by decide +kernel
theorem dX10_recode_95 : decode cX10_recode 95 = .ok (.iastore, 1) := by decide +kernel
theorem dX10_recode_96 : decode cX10_recode 96 = .ok (.iload 5, 2) := by decide +kernel
theorem dX10_recode_98 : decode cX10_recode 98 = .ok (.ireturn, 1) := by decide +kernel
theorem dX10_wither_0 : decode cX10_wither 0 = .ok (.aload_n 0, 1) := by decide +kernel
theorem dX10_wither_1 : decode cX10_wither 1 = .ok (.iconst 0, 1) := by decide +kernel
theorem dX10_wither_2 : decode cX10_wither 2 = .ok (.putfield 163, 3) := by decide +kernel
theorem dX10_wither_5 : decode cX10_wither 5 = .ok (.aload_n 0, 1) := by decide +kernel
theorem dX10_wither_6 : decode cX10_wither 6 = .ok (.iload_n 1, 1) := by decide +kernel
theorem dX10_wither_7 : decode cX10_wither 7 = .ok (.iload_n 2, 1) := by decide +kernel
theorem dX10_wither_8 : decode cX10_wither 8 = .ok (.invokevirtual 199, 3) := by decide +kernel
theorem dX10_wither_11 : decode cX10_wither 11 = .ok (.ifCond .ne 9, 3) := by decide +kernel
theorem dX10_wither_14 : decode cX10_wither 14 = .ok (.aload_n 0, 1) := by decide +kernel
theorem dX10_wither_15 : decode cX10_wither 15 = .ok (.iconst 1, 1) := by decide +kernel
theorem dX10_wither_16 : decode cX10_wither 16 = .ok (.invokevirtual 176, 3) := by decide +kernel
theorem dX10_wither_19 : decode cX10_wither 19 = .ok (.ireturn, 1) := by decide +kernel
theorem dX10_wither_20 : decode cX10_wither 20 = .ok (.iload_n 3, 1) := by decide +kernel
theorem dX10_wither_21 : decode cX10_wither 21 = .ok (.bipush (-99), 2) := by decide +kernel
theorem dX10_wither_23 : decode cX10_wither 23 = .ok (.bipush 99, 2) := by decide +kernel
theorem dX10_wither_25 : decode cX10_wither 25 = .ok (.invokestatic 94, 3) := by decide +kernel
theorem dX10_wither_28 : decode cX10_wither 28 = .ok (.ifCond .ne 9, 3) := by decide +kernel
theorem dX10_wither_31 : decode cX10_wither 31 = .ok (.aload_n 0, 1) := by decide +kernel
theorem dX10_wither_32 : decode cX10_wither 32 = .ok (.iconst 2, 1) := by decide +kernel
theorem dX10_wither_33 : decode cX10_wither 33 = .ok (.invokevirtual 176, 3) := by decide +kernel
theorem dX10_wither_36 : decode cX10_wither 36 = .ok (.ireturn, 1) := by decide +kernel
theorem dX10_wither_37 : decode cX10_wither 37 = .ok (.aload_n 0, 1) := by decide +kernel
theorem dX10_wither_38 : decode cX10_wither 38 = .ok (.getfield 131, 3) := by decide +kernel
theorem dX10_wither_41 : decode cX10_wither 41 = .ok (.iload_n 1, 1) := by decide +kernel
theorem dX10_wither_42 : decode cX10_wither 42 = .ok (.aaload, 1) := by decide +kernel
theorem dX10_wither_43 : decode cX10_wither 43 = .ok (.iload_n 2, 1) := by decide +kernel
theorem dX10_wither_44 : decode cX10_wither 44 = .ok (.iaload, 1) := by decide +kernel
theorem dX10_wither_45 : decode cX10_wither 45 = .ok (.invokestatic 35, 3) := by decide +kernel
theorem dX10_wither_48 : decode cX10_wither 48 = .ok (.invokestatic 23, 3) := by decide +kernel
theorem dX10_wither_51 : decode cX10_wither 51 = .ok (.ifCond .eq 25, 3) := by decide +kernel
theorem dX10_wither_54 : decode cX10_wither 54 = .ok (.aload_n 0, 1) := by decide +kernel
theorem dX10_wither_55 : decode cX10_wither 55 = .ok (.iload_n 1, 1) := by decide +kernel
theorem dX10_wither_56 : decode cX10_wither 56 = .ok (.aload_n 0, 1) := by decide +kernel
theorem dX10_wither_57 : decode cX10_wither 57 = .ok (.getfield 131, 3) := by decide +kernel
theorem dX10_wither_60 : decode cX10_wither 60 = .ok (.iload_n 1, 1) := by decide +kernel
theorem dX10_wither_61 : decode cX10_wither 61 = .ok (.aaload, 1) := by decide +kernel
theorem dX10_wither_62 : decode cX10_wither 62 = .ok (.iload_n 2, 1) := by decide +kernel
theorem dX10_wither_63 : decode cX10_wither 63 = .ok (.iload_n 3, 1) := by decide +kernel
theorem dX10_wither_64 : decode cX10_wither 64 = .ok (.invokestatic 98, 3) := by decide +kernel
theorem dX10_wither_67 : decode cX10_wither 67 = .ok (.invokestatic 117, 3) := by decide +kernel
theorem dX10_wither_70 : decode cX10_wither 70 = .ok (.invokevirtual 206, 3) := by decide +kernel
theorem dX10_wither_73 : decode cX10_wither 73 = .ok (.goto 4, 3) := by decide +kernel
theorem dX10_wither_76 : decode cX10_wither 76 = .ok (.iconst (-1), 1) := by decide +kernel
theorem dX10_wither_77 : decode cX10_wither 77 = .ok (.ireturn, 1) := by decide +kernel
theorem dX10_simplify_0 : decode cX10_simplify 0 = .ok (.aload_n 0, 1) := by decide +kernel
theorem dX10_simplify_1 : decode cX10_simplify 1 = .ok (.iconst 0, 1) := by decide +kernel
theorem dX10_simplify_2 : decode cX10_simplify 2 = .ok (.putfield 163, 3) := by decide +kernel
theorem dX10_simplify_5 : decode cX10_simplify 5 = .ok (.aload_n 0, 1) := by decide +kernel
theorem dX10_simplify_6 : decode cX10_simplify 6 = .ok (.iload_n 1, 1) := by decide +kernel
theorem dX10_simplify_7 : decode cX10_simplify 7 = .ok (.invokevirtual 169, 3) := by decide +kernel
