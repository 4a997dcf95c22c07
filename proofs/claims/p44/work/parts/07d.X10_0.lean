theorem dX10_init_0 : decode cX10_init 0 = .ok (.aload_n 0, 1) := by decide +kernel
theorem dX10_init_1 : decode cX10_init 1 = .ok (.invokespecial 1, 3) := by decide +kernel
theorem dX10_init_4 : decode cX10_init 4 = .ok (.aload_n 0, 1) := by decide +kernel
theorem dX10_init_5 : decode cX10_init 5 = .ok (.new 7, 3) := by decide +kernel
theorem dX10_init_8 : decode cX10_init 8 = .ok (.dup, 1) := by decide +kernel
theorem dX10_init_9 : decode cX10_init 9 = .ok (.invokespecial 9, 3) := by decide +kernel
theorem dX10_init_12 : decode cX10_init 12 = .ok (.putfield 10, 3) := by decide +kernel
theorem dX10_init_15 : decode cX10_init 15 = .ok (.aload_n 0, 1) := by decide +kernel
theorem dX10_init_16 : decode cX10_init 16 = .ok (.bipush 16, 2) := by decide +kernel
theorem dX10_init_18 : decode cX10_init 18 = .ok (.anewarray 16, 3) := by decide +kernel
theorem dX10_init_21 : decode cX10_init 21 = .ok (.putfield 18, 3) := by decide +kernel
theorem dX10_init_24 : decode cX10_init 24 = .ok (.aload_n 0, 1) := by decide +kernel
theorem dX10_init_25 : decode cX10_init 25 = .ok (.bipush 12, 2) := by decide +kernel
theorem dX10_init_27 : decode cX10_init 27 = .ok (.anewarray 16, 3) := by decide +kernel
theorem dX10_init_30 : decode cX10_init 30 = .ok (.putfield 22, 3) := by decide +kernel
theorem dX10_init_33 : decode cX10_init 33 = .ok (.aload_n 0, 1) := by decide +kernel
theorem dX10_init_34 : decode cX10_init 34 = .ok (.aload_n 1, 1) := by decide +kernel
theorem dX10_init_35 : decode cX10_init 35 = .ok (.putfield 25, 3) := by decide +kernel
theorem dX10_init_38 : decode cX10_init 38 = .ok (.aload_n 0, 1) := by decide +kernel
theorem dX10_init_39 : decode cX10_init 39 = .ok (.iload_n 2, 1) := by decide +kernel
theorem dX10_init_40 : decode cX10_init 40 = .ok (.putfield 28, 3) := by decide +kernel
theorem dX10_init_43 : decode cX10_init 43 = .ok (.return_, 1) := by decide +kernel
theorem dX10_draw_0 : decode cX10_draw 0 = .ok (.aload_n 0, 1) := by decide +kernel
theorem dX10_draw_1 : decode cX10_draw 1 = .ok (.getfield 25, 3) := by decide +kernel
theorem dX10_draw_4 : decode cX10_draw 4 = .ok (.aload_n 0, 1) := by decide +kernel
theorem dX10_draw_5 : decode cX10_draw 5 = .ok (.getfield 28, 3) := by decide +kernel
theorem dX10_draw_8 : decode cX10_draw 8 = .ok (.bipush 24, 2) := by decide +kernel
theorem dX10_draw_10 : decode cX10_draw 10 = .ok (.irem, 1) := by decide +kernel
theorem dX10_draw_11 : decode cX10_draw 11 = .ok (.invokestatic 32, 3) := by decide +kernel
theorem dX10_draw_14 : decode cX10_draw 14 = .ok (.aload_n 0, 1) := by decide +kernel
theorem dX10_draw_15 : decode cX10_draw 15 = .ok (.getfield 28, 3) := by decide +kernel
theorem dX10_draw_18 : decode cX10_draw 18 = .ok (.bipush 24, 2) := by decide +kernel
theorem dX10_draw_20 : decode cX10_draw 20 = .ok (.idiv, 1) := by decide +kernel
theorem dX10_draw_21 : decode cX10_draw 21 = .ok (.bipush 8, 2) := by decide +kernel
theorem dX10_draw_23 : decode cX10_draw 23 = .ok (.irem, 1) := by decide +kernel
theorem dX10_draw_24 : decode cX10_draw 24 = .ok (.ishr, 1) := by decide +kernel
theorem dX10_draw_25 : decode cX10_draw 25 = .ok (.bipush 71, 2) := by decide +kernel
theorem dX10_draw_27 : decode cX10_draw 27 = .ok (.aload_n 0, 1) := by decide +kernel
theorem dX10_draw_28 : decode cX10_draw 28 = .ok (.getfield 28, 3) := by decide +kernel
theorem dX10_draw_31 : decode cX10_draw 31 = .ok (.imul, 1) := by decide +kernel
theorem dX10_draw_32 : decode cX10_draw 32 = .ok (.iadd, 1) := by decide +kernel
theorem dX10_draw_33 : decode cX10_draw 33 = .ok (.iload_n 1, 1) := by decide +kernel
theorem dX10_draw_34 : decode cX10_draw 34 = .ok (.invokestatic 38, 3) := by decide +kernel
theorem dX10_draw_37 : decode cX10_draw 37 = .ok (.istore_n 2, 1) := by decide +kernel
theorem dX10_draw_38 : decode cX10_draw 38 = .ok (.aload_n 0, 1) := by decide +kernel
theorem dX10_draw_39 : decode cX10_draw 39 = .ok (.dup, 1) := by decide +kernel
theorem dX10_draw_40 : decode cX10_draw 40 = .ok (.getfield 28, 3) := by decide +kernel
theorem dX10_draw_43 : decode cX10_draw 43 = .ok (.iconst 1, 1) := by decide +kernel
theorem dX10_draw_44 : decode cX10_draw 44 = .ok (.iadd, 1) := by decide +kernel
theorem dX10_draw_45 : decode cX10_draw 45 = .ok (.putfield 28, 3) := by decide +kernel
theorem dX10_draw_48 : decode cX10_draw 48 = .ok (.iload_n 2, 1) := by decide +kernel
theorem dX10_draw_49 : decode cX10_draw 49 = .ok (.ireturn, 1) := by decide +kernel
theorem dX10_many_0 : decode cX10_many 0 = .ok (.iload_n 0, 1) := by decide +kernel
theorem dX10_many_1 : decode cX10_many 1 = .ok (.iconst 2, 1) := by decide +kernel
theorem dX10_many_2 : decode cX10_many 2 = .ok (.if_icmp .ge 7, 3) := by decide +kernel
theorem dX10_many_5 : decode cX10_many 5 = .ok (.iconst 0, 1) := by decide +kernel
theorem dX10_many_6 : decode cX10_many 6 = .ok (.goto 24, 3) := by decide +kernel
theorem dX10_many_9 : decode cX10_many 9 = .ok (.iload_n 0, 1) := by decide +kernel
theorem dX10_many_10 : decode cX10_many 10 = .ok (.bipush 8, 2) := by decide +kernel
theorem dX10_many_12 : decode cX10_many 12 = .ok (.if_icmp .ne 7, 3) := by decide +kernel
theorem dX10_many_15 : decode cX10_many 15 = .ok (.iconst 3, 1) := by decide +kernel
theorem dX10_many_16 : decode cX10_many 16 = .ok (.goto 14, 3) := by decide +kernel
theorem dX10_many_19 : decode cX10_many 19 = .ok (.iload_n 0, 1) := by decide +kernel
theorem dX10_many_20 : decode cX10_many 20 = .ok (.bipush 13, 2) := by decide +kernel
theorem dX10_many_22 : decode cX10_many 22 = .ok (.if_icmp .ne 7, 3) := by decide +kernel
theorem dX10_many_25 : decode cX10_many 25 = .ok (.iconst 1, 1) := by decide +kernel
theorem dX10_many_26 : decode cX10_many 26 = .ok (.goto 4, 3) := by decide +kernel
theorem dX10_many_29 : decode cX10_many 29 = .ok (.iconst 2, 1) := by decide +kernel
theorem dX10_many_30 : decode cX10_many 30 = .ok (.ireturn, 1) := by decide +kernel
theorem dX10_isNumber_0 : decode cX10_isNumber 0 = .ok (.iload_n 0, 1) := by decide +kernel
theorem dX10_isNumber_1 : decode cX10_isNumber 1 = .ok (.bipush 8, 2) := by decide +kernel
theorem dX10_isNumber_3 : decode cX10_isNumber 3 = .ok (.if_icmp .lt 25, 3) := by decide +kernel
theorem dX10_isNumber_6 : decode cX10_isNumber 6 = .ok (.iload_n 0, 1) := by decide +kernel
theorem dX10_isNumber_7 : decode cX10_isNumber 7 = .ok (.bipush 8, 2) := by decide +kernel
theorem dX10_isNumber_9 : decode cX10_isNumber 9 = .ok (.if_icmp .ne 7, 3) := by decide +kernel
theorem dX10_isNumber_12 : decode cX10_isNumber 12 = .ok (.iload_n 1, 1) := by decide +kernel
theorem dX10_isNumber_13 : decode cX10_isNumber 13 = .ok (.ifCond .gt 15, 3) := by decide +kernel
theorem dX10_isNumber_16 : decode cX10_isNumber 16 = .ok (.iload_n 0, 1) := by decide +kernel
theorem dX10_isNumber_17 : decode cX10_isNumber 17 = .ok (.bipush 9, 2) := by decide +kernel
theorem dX10_isNumber_19 : decode cX10_isNumber 19 = .ok (.if_icmp .eq 9, 3) := by decide +kernel
theorem dX10_isNumber_22 : decode cX10_isNumber 22 = .ok (.iload_n 0, 1) := by decide +kernel
theorem dX10_isNumber_23 : decode cX10_isNumber 23 = .ok (.bipush 10, 2) := by decide +kernel
theorem dX10_isNumber_25 : decode cX10_isNumber 25 = .ok (.if_icmp .ne 7, 3) := by decide +kernel
theorem dX10_isNumber_28 : decode cX10_isNumber 28 = .ok (.iconst 1, 1) := by decide +kernel
theorem dX10_isNumber_29 : decode cX10_isNumber 29 = .ok (.goto 4, 3) := by decide +kernel
theorem dX10_isNumber_32 : decode cX10_isNumber 32 = .ok (.iconst 0, 1) := by decide +kernel
theorem dX10_isNumber_33 : decode cX10_isNumber 33 = .ok (.ireturn, 1) := by decide +kernel
theorem dX10_joined_0 : decode cX10_joined 0 = .ok (.aload_n 0, 1) := by decide +kernel
theorem dX10_joined_1 : decode cX10_joined 1 = .ok (.arraylength, 1) := by decide +kernel
theorem dX10_joined_2 : decode cX10_joined 2 = .ok (.aload_n 1, 1) := by decide +kernel
theorem dX10_joined_3 : decode cX10_joined 3 = .ok (.arraylength, 1) := by decide +kernel
theorem dX10_joined_4 : decode cX10_joined 4 = .ok (.iadd, 1) := by decide +kernel
theorem dX10_joined_5 : decode cX10_joined 5 = .ok (.newarray .int, 2) := by decide +kernel
theorem dX10_joined_7 : decode cX10_joined 7 = .ok (.astore_n 2, 1) := by decide +kernel
theorem dX10_joined_8 : decode cX10_joined 8 = .ok (.aload_n 0, 1) := by decide +kernel
theorem dX10_joined_9 : decode cX10_joined 9 = .ok (.iconst 0, 1) := by decide +kernel
theorem dX10_joined_10 : decode cX10_joined 10 = .ok (.aload_n 2, 1) := by decide +kernel
theorem dX10_joined_11 : decode cX10_joined 11 = .ok (.iconst 0, 1) := by decide +kernel
theorem dX10_joined_12 : decode cX10_joined 12 = .ok (.aload_n 0, 1) := by decide +kernel
theorem dX10_joined_13 : decode cX10_joined 13 = .ok (.arraylength, 1) := by decide +kernel
theorem dX10_joined_14 : decode cX10_joined 14 = .ok (.invokestatic 42, 3) := by decide +kernel
theorem dX10_joined_17 : decode cX10_joined 17 = .ok (.aload_n 1, 1) := by decide +kernel
theorem dX10_joined_18 : decode cX10_joined 18 = .ok (.iconst 0, 1) := by decide +kernel
theorem dX10_joined_19 : decode cX10_joined 19 = .ok (.aload_n 2, 1) := by decide +kernel
theorem dX10_joined_20 : decode cX10_joined 20 = .ok (.aload_n 0, 1) := by decide +kernel
theorem dX10_joined_21 : decode cX10_joined 21 = .ok (.arraylength, 1) := by decide +kernel
theorem dX10_joined_22 : decode cX10_joined 22 = .ok (.aload_n 1, 1) := by decide +kernel
theorem dX10_joined_23 : decode cX10_joined 23 = .ok (.arraylength, 1) := by decide +kernel
theorem dX10_joined_24 : decode cX10_joined 24 = .ok (.invokestatic 42, 3) := by decide +kernel
theorem dX10_joined_27 : decode cX10_joined 27 = .ok (.aload_n 2, 1) := by decide +kernel
theorem dX10_joined_28 : decode cX10_joined 28 = .ok (.areturn, 1) := by decide +kernel
theorem dX10_grown_0 : decode cX10_grown 0 = .ok (.iload_n 1, 1) := by decide +kernel
theorem dX10_grown_1 : decode cX10_grown 1 = .ok (.ifCond .eq 35, 3) := by decide +kernel
theorem dX10_grown_4 : decode cX10_grown 4 = .ok (.iload_n 2, 1) := by decide +kernel
theorem dX10_grown_5 : decode cX10_grown 5 = .ok (.iconst 2, 1) := by decide +kernel
theorem dX10_grown_6 : decode cX10_grown 6 = .ok (.if_icmp .lt 11, 3) := by decide +kernel
theorem dX10_grown_9 : decode cX10_grown 9 = .ok (.aload_n 0, 1) := by decide +kernel
theorem dX10_grown_10 : decode cX10_grown 10 = .ok (.iconst 3, 1) := by decide +kernel
theorem dX10_grown_11 : decode cX10_grown 11 = .ok (.invokevirtual 48, 3) := by decide +kernel
theorem dX10_grown_14 : decode cX10_grown 14 = .ok (.ifCond .ne 11, 3) := by decide +kernel
theorem dX10_grown_17 : decode cX10_grown 17 = .ok (.aload_n 0, 1) := by decide +kernel
theorem dX10_grown_18 : decode cX10_grown 18 = .ok (.iconst 2, 1) := by decide +kernel
theorem dX10_grown_19 : decode cX10_grown 19 = .ok (.invokevirtual 48, 3) := by decide +kernel
theorem dX10_grown_22 : decode cX10_grown 22 = .ok (.goto 46, 3) := by decide +kernel
theorem dX10_grown_25 : decode cX10_grown 25 = .ok (.iconst 2, 1) := by decide +kernel
theorem dX10_grown_26 : decode cX10_grown 26 = .ok (.aload_n 0, 1) := by decide +kernel
theorem dX10_grown_27 : decode cX10_grown 27 = .ok (.bipush 7, 2) := by decide +kernel
theorem dX10_grown_29 : decode cX10_grown 29 = .ok (.invokevirtual 48, 3) := by decide +kernel
theorem dX10_grown_32 : decode cX10_grown 32 = .ok (.iadd, 1) := by decide +kernel
theorem dX10_grown_33 : decode cX10_grown 33 = .ok (.goto 35, 3) := by decide +kernel
theorem dX10_grown_36 : decode cX10_grown 36 = .ok (.iload_n 2, 1) := by decide +kernel
theorem dX10_grown_37 : decode cX10_grown 37 = .ok (.iconst 3, 1) := by decide +kernel
theorem dX10_grown_38 : decode cX10_grown 38 = .ok (.if_icmp .lt 11, 3) := by decide +kernel
theorem dX10_grown_41 : decode cX10_grown 41 = .ok (.aload_n 0, 1) := by decide +kernel
theorem dX10_grown_42 : decode cX10_grown 42 = .ok (.iconst 2, 1) := by decide +kernel
theorem dX10_grown_43 : decode cX10_grown 43 = .ok (.invokevirtual 48, 3) := by decide +kernel
theorem dX10_grown_46 : decode cX10_grown 46 = .ok (.ifCond .ne 14, 3) := by decide +kernel
theorem dX10_grown_49 : decode cX10_grown 49 = .ok (.bipush 9, 2) := by decide +kernel
theorem dX10_grown_51 : decode cX10_grown 51 = .ok (.aload_n 0, 1) := by decide +kernel
theorem dX10_grown_52 : decode cX10_grown 52 = .ok (.iconst 2, 1) := by decide +kernel
theorem dX10_grown_53 : decode cX10_grown 53 = .ok (.invokevirtual 48, 3) := by decide +kernel
theorem dX10_grown_56 : decode cX10_grown 56 = .ok (.iadd, 1) := by decide +kernel
theorem dX10_grown_57 : decode cX10_grown 57 = .ok (.goto 11, 3) := by decide +kernel
theorem dX10_grown_60 : decode cX10_grown 60 = .ok (.bipush 11, 2) := by decide +kernel
theorem dX10_grown_62 : decode cX10_grown 62 = .ok (.aload_n 0, 1) := by decide +kernel
theorem dX10_grown_63 : decode cX10_grown 63 = .ok (.iconst 3, 1) := by decide +kernel
theorem dX10_grown_64 : decode cX10_grown 64 = .ok (.invokevirtual 48, 3) := by decide +kernel
theorem dX10_grown_67 : decode cX10_grown 67 = .ok (.iadd, 1) := by decide +kernel
theorem dX10_grown_68 : decode cX10_grown 68 = .ok (.istore_n 3, 1) := by decide +kernel
theorem dX10_grown_69 : decode cX10_grown 69 = .ok (.iconst 2, 1) := by decide +kernel
theorem dX10_grown_70 : decode cX10_grown 70 = .ok (.newarray .int, 2) := by decide +kernel
theorem dX10_grown_72 : decode cX10_grown 72 = .ok (.dup, 1) := by decide +kernel
theorem dX10_grown_73 : decode cX10_grown 73 = .ok (.iconst 0, 1) := by decide +kernel
theorem dX10_grown_74 : decode cX10_grown 74 = .ok (.iload_n 3, 1) := by decide +kernel
theorem dX10_grown_75 : decode cX10_grown 75 = .ok (.iastore, 1) := by decide +kernel
theorem dX10_grown_76 : decode cX10_grown 76 = .ok (.dup, 1) := by decide +kernel
theorem dX10_grown_77 : decode cX10_grown 77 = .ok (.iconst 1, 1) := by decide +kernel
theorem dX10_grown_78 : decode cX10_grown 78 = .ok (.iload_n 3, 1) := by decide +kernel
theorem dX10_grown_79 : decode cX10_grown 79 = .ok (.ifCond .ne 15, 3) := by decide +kernel
theorem dX10_grown_82 : decode cX10_grown 82 = .ok (.aload_n 0, 1) := by decide +kernel
theorem dX10_grown_83 : decode cX10_grown 83 = .ok (.bipush 25, 2) := by decide +kernel
theorem dX10_grown_85 : decode cX10_grown 85 = .ok (.invokevirtual 48, 3) := by decide +kernel
theorem dX10_grown_88 : decode cX10_grown 88 = .ok (.bipush 8, 2) := by decide +kernel
theorem dX10_grown_90 : decode cX10_grown 90 = .ok (.isub, 1) := by decide +kernel
theorem dX10_grown_91 : decode cX10_grown 91 = .ok (.goto 17, 3) := by decide +kernel
theorem dX10_grown_94 : decode cX10_grown 94 = .ok (.iload_n 3, 1) := by decide +kernel
theorem dX10_grown_95 : decode cX10_grown 95 = .ok (.iconst 1, 1) := by decide +kernel
theorem dX10_grown_96 : decode cX10_grown 96 = .ok (.if_icmp .ne 11, 3) := by decide +kernel
theorem dX10_grown_99 : decode cX10_grown 99 = .ok (.aload_n 0, 1) := by decide +kernel
theorem dX10_grown_100 : decode cX10_grown 100 = .ok (.iconst 3, 1) := by decide +kernel
theorem dX10_grown_101 : decode cX10_grown 101 = .ok (.invokevirtual 48, 3) := by decide +kernel
theorem dX10_grown_104 : decode cX10_grown 104 = .ok (.goto 4, 3) := by decide +kernel
theorem dX10_grown_107 : decode cX10_grown 107 = .ok (.iconst 0, 1) := by decide +kernel
theorem dX10_grown_108 : decode cX10_grown 108 = .ok (.iastore, 1) := by decide +kernel
theorem dX10_grown_109 : decode cX10_grown 109 = .ok (.astore 4, 2) := by decide +kernel
theorem dX10_grown_111 : decode cX10_grown 111 = .ok (.iconst 0, 1) := by decide +kernel
theorem dX10_grown_112 : decode cX10_grown 112 = .ok (.istore 5, 2) := by decide +kernel
theorem dX10_grown_114 : decode cX10_grown 114 = .ok (.iload 5, 2) := by decide +kernel
theorem dX10_grown_116 : decode cX10_grown 116 = .ok (.iload_n 3, 1) := by decide +kernel
theorem dX10_grown_117 : decode cX10_grown 117 = .ok (.invokestatic 52, 3) := by decide +kernel
theorem dX10_grown_120 : decode cX10_grown 120 = .ok (.if_icmp .ge 29, 3) := by decide +kernel
theorem dX10_grown_123 : decode cX10_grown 123 = .ok (.aload 4, 2) := by decide +kernel
theorem dX10_grown_125 : decode cX10_grown 125 = .ok (.aload_n 0, 1) := by decide +kernel
theorem dX10_grown_126 : decode cX10_grown 126 = .ok (.iload_n 3, 1) := by decide +kernel
theorem dX10_grown_127 : decode cX10_grown 127 = .ok (.iload 5, 2) := by decide +kernel
theorem dX10_grown_129 : decode cX10_grown 129 = .ok (.invokestatic 55, 3) := by decide +kernel
theorem dX10_grown_132 : decode cX10_grown 132 = .ok (.iload_n 2, 1) := by decide +kernel
theorem dX10_grown_133 : decode cX10_grown 133 = .ok (.iconst 1, 1) := by decide +kernel
theorem dX10_grown_134 : decode cX10_grown 134 = .ok (.isub, 1) := by decide +kernel
theorem dX10_grown_135 : decode cX10_grown 135 = .ok (.invokevirtual 59, 3) := by decide +kernel
theorem dX10_grown_138 : decode cX10_grown 138 = .ok (.invokestatic 63, 3) := by decide +kernel
theorem dX10_grown_141 : decode cX10_grown 141 = .ok (.astore 4, 2) := by decide +kernel
theorem dX10_grown_143 : decode cX10_grown 143 = .ok (.iinc 5 1, 3) := by decide +kernel
theorem dX10_grown_146 : decode cX10_grown 146 = .ok (.goto (-32), 3) := by decide +kernel
theorem dX10_grown_149 : decode cX10_grown 149 = .ok (.aload 4, 2) := by decide +kernel
theorem dX10_grown_151 : decode cX10_grown 151 = .ok (.areturn, 1) := by decide +kernel
theorem dX10_plant_0 : decode cX10_plant 0 = .ok (.aload_n 0, 1) := by decide +kernel
theorem dX10_plant_1 : decode cX10_plant 1 = .ok (.iconst 1, 1) := by decide +kernel
theorem dX10_plant_2 : decode cX10_plant 2 = .ok (.iconst 2, 1) := by decide +kernel
theorem dX10_plant_3 : decode cX10_plant 3 = .ok (.aload_n 0, 1) := by decide +kernel
theorem dX10_plant_4 : decode cX10_plant 4 = .ok (.iconst 3, 1) := by decide +kernel
theorem dX10_plant_5 : decode cX10_plant 5 = .ok (.invokevirtual 48, 3) := by decide +kernel
theorem dX10_plant_8 : decode cX10_plant 8 = .ok (.iadd, 1) := by decide +kernel
theorem dX10_plant_9 : decode cX10_plant 9 = .ok (.invokevirtual 59, 3) := by decide +kernel
theorem dX10_plant_12 : decode cX10_plant 12 = .ok (.astore_n 1, 1) := by decide +kernel
theorem dX10_plant_13 : decode cX10_plant 13 = .ok (.aload_n 1, 1) := by decide +kernel
theorem dX10_plant_14 : decode cX10_plant 14 = .ok (.arraylength, 1) := by decide +kernel
theorem dX10_plant_15 : decode cX10_plant 15 = .ok (.bipush 80, 2) := by decide +kernel
theorem dX10_plant_17 : decode cX10_plant 17 = .ok (.if_icmp .le 10, 3) := by decide +kernel
theorem dX10_plant_20 : decode cX10_plant 20 = .ok (.aload_n 0, 1) := by decide +kernel
theorem dX10_plant_21 : decode cX10_plant 21 = .ok (.iconst 1, 1) := by decide +kernel
theorem dX10_plant_22 : decode cX10_plant 22 = .ok (.iconst 3, 1) := by decide +kernel
theorem dX10_plant_23 : decode cX10_plant 23 = .ok (.invokevirtual 59, 3) := by decide +kernel
theorem dX10_plant_26 : decode cX10_plant 26 = .ok (.astore_n 1, 1) := by decide +kernel
theorem dX10_plant_27 : decode cX10_plant 27 = .ok (.iconst 1, 1) := by decide +kernel
theorem dX10_plant_28 : decode cX10_plant 28 = .ok (.istore_n 2, 1) := by decide +kernel
theorem dX10_plant_29 : decode cX10_plant 29 = .ok (.iconst 0, 1) := by decide +kernel
theorem dX10_plant_30 : decode cX10_plant 30 = .ok (.istore_n 3, 1) := by decide +kernel
theorem dX10_plant_31 : decode cX10_plant 31 = .ok (.iload_n 3, 1) := by decide +kernel
theorem dX10_plant_32 : decode cX10_plant 32 = .ok (.aload_n 1, 1) := by decide +kernel
theorem dX10_plant_33 : decode cX10_plant 33 = .ok (.arraylength, 1) := by decide +kernel
theorem dX10_plant_34 : decode cX10_plant 34 = .ok (.if_icmp .ge 56, 3) := by decide +kernel
theorem dX10_plant_37 : decode cX10_plant 37 = .ok (.iload_n 2, 1) := by decide +kernel
theorem dX10_plant_38 : decode cX10_plant 38 = .ok (.aload_n 1, 1) := by decide +kernel
theorem dX10_plant_39 : decode cX10_plant 39 = .ok (.iload_n 3, 1) := by decide +kernel
theorem dX10_plant_40 : decode cX10_plant 40 = .ok (.iaload, 1) := by decide +kernel
theorem dX10_plant_41 : decode cX10_plant 41 = .ok (.invokestatic 52, 3) := by decide +kernel
theorem dX10_plant_44 : decode cX10_plant 44 = .ok (.iconst 1, 1) := by decide +kernel
theorem dX10_plant_45 : decode cX10_plant 45 = .ok (.isub, 1) := by decide +kernel
theorem dX10_plant_46 : decode cX10_plant 46 = .ok (.iadd, 1) := by decide +kernel
theorem dX10_plant_47 : decode cX10_plant 47 = .ok (.istore_n 2, 1) := by decide +kernel
theorem dX10_plant_48 : decode cX10_plant 48 = .ok (.aload_n 0, 1) := by decide +kernel
theorem dX10_plant_49 : decode cX10_plant 49 = .ok (.getfield 10, 3) := by decide +kernel
theorem dX10_plant_52 : decode cX10_plant 52 = .ok (.aload_n 1, 1) := by decide +kernel
theorem dX10_plant_53 : decode cX10_plant 53 = .ok (.iload_n 3, 1) := by decide +kernel
theorem dX10_plant_54 : decode cX10_plant 54 = .ok (.iaload, 1) := by decide +kernel
theorem dX10_plant_55 : decode cX10_plant 55 = .ok (.aload_n 1, 1) := by decide +kernel
theorem dX10_plant_56 : decode cX10_plant 56 = .ok (.iload_n 3, 1) := by decide +kernel
theorem dX10_plant_57 : decode cX10_plant 57 = .ok (.iconst 1, 1) := by decide +kernel
theorem dX10_plant_58 : decode cX10_plant 58 = .ok (.iadd, 1) := by decide +kernel
theorem dX10_plant_59 : decode cX10_plant 59 = .ok (.iaload, 1) := by decide +kernel
theorem dX10_plant_60 : decode cX10_plant 60 = .ok (.invokevirtual 67, 3) := by decide +kernel
theorem dX10_plant_63 : decode cX10_plant 63 = .ok (.iload_n 2, 1) := by decide +kernel
theorem dX10_plant_64 : decode cX10_plant 64 = .ok (.if_icmp .ne 18, 3) := by decide +kernel
theorem dX10_plant_67 : decode cX10_plant 67 = .ok (.aload_n 0, 1) := by decide +kernel
theorem dX10_plant_68 : decode cX10_plant 68 = .ok (.getfield 10, 3) := by decide +kernel
theorem dX10_plant_71 : decode cX10_plant 71 = .ok (.invokevirtual 70, 3) := by decide +kernel
theorem dX10_plant_74 : decode cX10_plant 74 = .ok (.iload_n 3, 1) := by decide +kernel
theorem dX10_plant_75 : decode cX10_plant 75 = .ok (.iconst 2, 1) := by decide +kernel
theorem dX10_plant_76 : decode cX10_plant 76 = .ok (.idiv, 1) := by decide +kernel
theorem dX10_plant_77 : decode cX10_plant 77 = .ok (.iconst 1, 1) := by decide +kernel
theorem dX10_plant_78 : decode cX10_plant 78 = .ok (.iadd, 1) := by decide +kernel
theorem dX10_plant_79 : decode cX10_plant 79 = .ok (.if_icmp .eq 5, 3) := by decide +kernel
theorem dX10_plant_82 : decode cX10_plant 82 = .ok (.iconst 0, 1) := by decide +kernel
theorem dX10_plant_83 : decode cX10_plant 83 = .ok (.ireturn, 1) := by decide +kernel
theorem dX10_plant_84 : decode cX10_plant 84 = .ok (.iinc 3 2, 3) := by decide +kernel
theorem dX10_plant_87 : decode cX10_plant 87 = .ok (.goto (-56), 3) := by decide +kernel
theorem dX10_plant_90 : decode cX10_plant 90 = .ok (.aload_n 0, 1) := by decide +kernel
theorem dX10_plant_91 : decode cX10_plant 91 = .ok (.getfield 18, 3) := by decide +kernel
theorem dX10_plant_94 : decode cX10_plant 94 = .ok (.aload_n 0, 1) := by decide +kernel
theorem dX10_plant_95 : decode cX10_plant 95 = .ok (.getfield 74, 3) := by decide +kernel
theorem dX10_plant_98 : decode cX10_plant 98 = .ok (.aload_n 1, 1) := by decide +kernel
theorem dX10_plant_99 : decode cX10_plant 99 = .ok (.aastore, 1) := by decide +kernel
theorem dX10_plant_100 : decode cX10_plant 100 = .ok (.aload_n 0, 1) := by decide +kernel
theorem dX10_plant_101 : decode cX10_plant 101 = .ok (.getfield 10, 3) := by decide +kernel
theorem dX10_plant_104 : decode cX10_plant 104 = .ok (.invokevirtual 77, 3) := by decide +kernel
theorem dX10_plant_107 : decode cX10_plant 107 = .ok (.aload_n 0, 1) := by decide +kernel
theorem dX10_plant_108 : decode cX10_plant 108 = .ok (.dup, 1) := by decide +kernel
theorem dX10_plant_109 : decode cX10_plant 109 = .ok (.getfield 74, 3) := by decide +kernel
theorem dX10_plant_112 : decode cX10_plant 112 = .ok (.dup_x1, 1) := by decide +kernel
theorem dX10_plant_113 : decode cX10_plant 113 = .ok (.iconst 1, 1) := by decide +kernel
theorem dX10_plant_114 : decode cX10_plant 114 = .ok (.iadd, 1) := by decide +kernel
theorem dX10_plant_115 : decode cX10_plant 115 = .ok (.putfield 74, 3) := by decide +kernel
theorem dX10_plant_118 : decode cX10_plant 118 = .ok (.if_icmp .ne 17, 3) := by decide +kernel
theorem dX10_plant_121 : decode cX10_plant 121 = .ok (.aload_n 0, 1) := by decide +kernel
theorem dX10_plant_122 : decode cX10_plant 122 = .ok (.getfield 10, 3) := by decide +kernel
theorem dX10_plant_125 : decode cX10_plant 125 = .ok (.invokevirtual 70, 3) := by decide +kernel
theorem dX10_plant_128 : decode cX10_plant 128 = .ok (.ifCond .ne 7, 3) := by decide +kernel
theorem dX10_plant_131 : decode cX10_plant 131 = .ok (.iconst 1, 1) := by decide +kernel
theorem dX10_plant_132 : decode cX10_plant 132 = .ok (.goto 4, 3) := by decide +kernel
theorem dX10_plant_135 : decode cX10_plant 135 = .ok (.iconst 0, 1) := by decide +kernel
theorem dX10_plant_136 : decode cX10_plant 136 = .ok (.ireturn, 1) := by decide +kernel
theorem dX10_addCase_0 : decode cX10_addCase 0 = .ok (.iconst 4, 1) := by decide +kernel
theorem dX10_addCase_1 : decode cX10_addCase 1 = .ok (.newarray .int, 2) := by decide +kernel
theorem dX10_addCase_3 : decode cX10_addCase 3 = .ok (.dup, 1) := by decide +kernel
theorem dX10_addCase_4 : decode cX10_addCase 4 = .ok (.iconst 0, 1) := by decide +kernel
theorem dX10_addCase_5 : decode cX10_addCase 5 = .ok (.aload_n 0, 1) := by decide +kernel
theorem dX10_addCase_6 : decode cX10_addCase 6 = .ok (.bipush 41, 2) := by decide +kernel
theorem dX10_addCase_8 : decode cX10_addCase 8 = .ok (.invokevirtual 48, 3) := by decide +kernel
theorem dX10_addCase_11 : decode cX10_addCase 11 = .ok (.bipush 20, 2) := by decide +kernel
theorem dX10_addCase_13 : decode cX10_addCase 13 = .ok (.isub, 1) := by decide +kernel
theorem dX10_addCase_14 : decode cX10_addCase 14 = .ok (.iastore, 1) := by decide +kernel
theorem dX10_addCase_15 : decode cX10_addCase 15 = .ok (.dup, 1) := by decide +kernel
theorem dX10_addCase_16 : decode cX10_addCase 16 = .ok (.iconst 1, 1) := by decide +kernel
theorem dX10_addCase_17 : decode cX10_addCase 17 = .ok (.aload_n 0, 1) := by decide +kernel
theorem dX10_addCase_18 : decode cX10_addCase 18 = .ok (.bipush 41, 2) := by decide +kernel
theorem dX10_addCase_20 : decode cX10_addCase 20 = .ok (.invokevirtual 48, 3) := by decide +kernel
theorem dX10_addCase_23 : decode cX10_addCase 23 = .ok (.bipush 20, 2) := by decide +kernel
theorem dX10_addCase_25 : decode cX10_addCase 25 = .ok (.isub, 1) := by decide +kernel
theorem dX10_addCase_26 : decode cX10_addCase 26 = .ok (.iastore, 1) := by decide +kernel
theorem dX10_addCase_27 : decode cX10_addCase 27 = .ok (.dup, 1) := by decide +kernel
theorem dX10_addCase_28 : decode cX10_addCase 28 = .ok (.iconst 2, 1) := by decide +kernel
theorem dX10_addCase_29 : decode cX10_addCase 29 = .ok (.aload_n 0, 1) := by decide +kernel
theorem dX10_addCase_30 : decode cX10_addCase 30 = .ok (.bipush 41, 2) := by decide +kernel
theorem dX10_addCase_32 : decode cX10_addCase 32 = .ok (.invokevirtual 48, 3) := by decide +kernel
theorem dX10_addCase_35 : decode cX10_addCase 35 = .ok (.bipush 20, 2) := by decide +kernel
theorem dX10_addCase_37 : decode cX10_addCase 37 = .ok (.isub, 1) := by decide +kernel
theorem dX10_addCase_38 : decode cX10_addCase 38 = .ok (.iastore, 1) := by decide +kernel
theorem dX10_addCase_39 : decode cX10_addCase 39 = .ok (.dup, 1) := by decide +kernel
theorem dX10_addCase_40 : decode cX10_addCase 40 = .ok (.iconst 3, 1) := by decide +kernel
theorem dX10_addCase_41 : decode cX10_addCase 41 = .ok (.aload_n 0, 1) := by decide +kernel
theorem dX10_addCase_42 : decode cX10_addCase 42 = .ok (.sipush 201, 3) := by decide +kernel
theorem dX10_addCase_45 : decode cX10_addCase 45 = .ok (.invokevirtual 48, 3) := by decide +kernel
theorem dX10_addCase_48 : decode cX10_addCase 48 = .ok (.bipush 100, 2) := by decide +kernel
theorem dX10_addCase_50 : decode cX10_addCase 50 = .ok (.isub, 1) := by decide +kernel
theorem dX10_addCase_51 : decode cX10_addCase 51 = .ok (.iastore, 1) := by decide +kernel
theorem dX10_addCase_52 : decode cX10_addCase 52 = .ok (.astore_n 1, 1) := by decide +kernel
theorem dX10_addCase_53 : decode cX10_addCase 53 = .ok (.aload_n 0, 1) := by decide +kernel
theorem dX10_addCase_54 : decode cX10_addCase 54 = .ok (.getfield 22, 3) := by decide +kernel
theorem dX10_addCase_57 : decode cX10_addCase 57 = .ok (.aload_n 0, 1) := by decide +kernel
theorem dX10_addCase_58 : decode cX10_addCase 58 = .ok (.getfield 80, 3) := by decide +kernel
theorem dX10_addCase_61 : decode cX10_addCase 61 = .ok (.aload_n 1, 1) := by decide +kernel
theorem dX10_addCase_62 : decode cX10_addCase 62 = .ok (.aastore, 1) := by decide +kernel
theorem dX10_addCase_63 : decode cX10_addCase 63 = .ok (.aload_n 0, 1) := by decide +kernel
theorem dX10_addCase_64 : decode cX10_addCase 64 = .ok (.getfield 10, 3) := by decide +kernel
theorem dX10_addCase_67 : decode cX10_addCase 67 = .ok (.aload_n 1, 1) := by decide +kernel
theorem dX10_addCase_68 : decode cX10_addCase 68 = .ok (.iconst 0, 1) := by decide +kernel
theorem dX10_addCase_69 : decode cX10_addCase 69 = .ok (.iaload, 1) := by decide +kernel
theorem dX10_addCase_70 : decode cX10_addCase 70 = .ok (.aload_n 1, 1) := by decide +kernel
theorem dX10_addCase_71 : decode cX10_addCase 71 = .ok (.iconst 1, 1) := by decide +kernel
theorem dX10_addCase_72 : decode cX10_addCase 72 = .ok (.iaload, 1) := by decide +kernel
theorem dX10_addCase_73 : decode cX10_addCase 73 = .ok (.aload_n 1, 1) := by decide +kernel
theorem dX10_addCase_74 : decode cX10_addCase 74 = .ok (.iconst 2, 1) := by decide +kernel
theorem dX10_addCase_75 : decode cX10_addCase 75 = .ok (.iaload, 1) := by decide +kernel
theorem dX10_addCase_76 : decode cX10_addCase 76 = .ok (.aload_n 1, 1) := by decide +kernel
theorem dX10_addCase_77 : decode cX10_addCase 77 = .ok (.iconst 3, 1) := by decide +kernel
theorem dX10_addCase_78 : decode cX10_addCase 78 = .ok (.iaload, 1) := by decide +kernel
theorem dX10_addCase_79 : decode cX10_addCase 79 = .ok (.invokevirtual 83, 3) := by decide +kernel
theorem dX10_addCase_82 : decode cX10_addCase 82 = .ok (.aload_n 0, 1) := by decide +kernel
theorem dX10_addCase_83 : decode cX10_addCase 83 = .ok (.dup, 1) := by decide +kernel
theorem dX10_addCase_84 : decode cX10_addCase 84 = .ok (.getfield 80, 3) := by decide +kernel
theorem dX10_addCase_87 : decode cX10_addCase 87 = .ok (.dup_x1, 1) := by decide +kernel
theorem dX10_addCase_88 : decode cX10_addCase 88 = .ok (.iconst 1, 1) := by decide +kernel
theorem dX10_addCase_89 : decode cX10_addCase 89 = .ok (.iadd, 1) := by decide +kernel
theorem dX10_addCase_90 : decode cX10_addCase 90 = .ok (.putfield 80, 3) := by decide +kernel
theorem dX10_addCase_93 : decode cX10_addCase 93 = .ok (.if_icmp .ne 7, 3) := by decide +kernel
theorem dX10_addCase_96 : decode cX10_addCase 96 = .ok (.iconst 1, 1) := by decide +kernel
theorem dX10_addCase_97 : decode cX10_addCase 97 = .ok (.goto 4, 3) := by decide +kernel
theorem dX10_addCase_100 : decode cX10_addCase 100 = .ok (.iconst 0, 1) := by decide +kernel
theorem dX10_addCase_101 : decode cX10_addCase 101 = .ok (.ireturn, 1) := by decide +kernel
