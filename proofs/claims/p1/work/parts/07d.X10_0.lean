theorem dX10_isIn_0 : decode cX10_isIn 0 = .ok (.iload_n 0, 1) := by decide +kernel
theorem dX10_isIn_1 : decode cX10_isIn 1 = .ok (.iload_n 1, 1) := by decide +kernel
theorem dX10_isIn_2 : decode cX10_isIn 2 = .ok (.if_icmp .lt 12, 3) := by decide +kernel
theorem dX10_isIn_5 : decode cX10_isIn 5 = .ok (.iload_n 0, 1) := by decide +kernel
theorem dX10_isIn_6 : decode cX10_isIn 6 = .ok (.iload_n 2, 1) := by decide +kernel
theorem dX10_isIn_7 : decode cX10_isIn 7 = .ok (.if_icmp .gt 7, 3) := by decide +kernel
theorem dX10_isIn_10 : decode cX10_isIn 10 = .ok (.iconst 1, 1) := by decide +kernel
theorem dX10_isIn_11 : decode cX10_isIn 11 = .ok (.goto 4, 3) := by decide +kernel
theorem dX10_isIn_14 : decode cX10_isIn 14 = .ok (.iconst 0, 1) := by decide +kernel
theorem dX10_isIn_15 : decode cX10_isIn 15 = .ok (.ireturn, 1) := by decide +kernel
theorem dX10_node_0 : decode cX10_node 0 = .ok (.iload_n 0, 1) := by decide +kernel
theorem dX10_node_1 : decode cX10_node 1 = .ok (.sipush 256, 3) := by decide +kernel
theorem dX10_node_4 : decode cX10_node 4 = .ok (.imul, 1) := by decide +kernel
theorem dX10_node_5 : decode cX10_node 5 = .ok (.iload_n 1, 1) := by decide +kernel
theorem dX10_node_6 : decode cX10_node 6 = .ok (.iadd, 1) := by decide +kernel
theorem dX10_node_7 : decode cX10_node 7 = .ok (.sipush 128, 3) := by decide +kernel
theorem dX10_node_10 : decode cX10_node 10 = .ok (.iadd, 1) := by decide +kernel
theorem dX10_node_11 : decode cX10_node 11 = .ok (.ireturn, 1) := by decide +kernel
theorem dX10_codeOf_0 : decode cX10_codeOf 0 = .ok (.iload_n 0, 1) := by decide +kernel
theorem dX10_codeOf_1 : decode cX10_codeOf 1 = .ok (.sipush 256, 3) := by decide +kernel
theorem dX10_codeOf_4 : decode cX10_codeOf 4 = .ok (.idiv, 1) := by decide +kernel
theorem dX10_codeOf_5 : decode cX10_codeOf 5 = .ok (.ireturn, 1) := by decide +kernel
theorem dX10_isNumber_0 : decode cX10_isNumber 0 = .ok (.iload_n 0, 1) := by decide +kernel
theorem dX10_isNumber_1 : decode cX10_isNumber 1 = .ok (.bipush 9, 2) := by decide +kernel
theorem dX10_isNumber_3 : decode cX10_isNumber 3 = .ok (.if_icmp .ge 7, 3) := by decide +kernel
theorem dX10_isNumber_6 : decode cX10_isNumber 6 = .ok (.iconst 1, 1) := by decide +kernel
theorem dX10_isNumber_7 : decode cX10_isNumber 7 = .ok (.goto 4, 3) := by decide +kernel
theorem dX10_isNumber_10 : decode cX10_isNumber 10 = .ok (.iconst 0, 1) := by decide +kernel
theorem dX10_isNumber_11 : decode cX10_isNumber 11 = .ok (.ireturn, 1) := by decide +kernel
theorem dX10_beneath_0 : decode cX10_beneath 0 = .ok (.iload_n 0, 1) := by decide +kernel
theorem dX10_beneath_1 : decode cX10_beneath 1 = .ok (.iconst 1, 1) := by decide +kernel
theorem dX10_beneath_2 : decode cX10_beneath 2 = .ok (.if_icmp .gt 6, 3) := by decide +kernel
theorem dX10_beneath_5 : decode cX10_beneath 5 = .ok (.ldc 3, 2) := by decide +kernel
theorem dX10_beneath_7 : decode cX10_beneath 7 = .ok (.areturn, 1) := by decide +kernel
theorem dX10_beneath_8 : decode cX10_beneath 8 = .ok (.iload_n 0, 1) := by decide +kernel
theorem dX10_beneath_9 : decode cX10_beneath 9 = .ok (.bipush 8, 2) := by decide +kernel
theorem dX10_beneath_11 : decode cX10_beneath 11 = .ok (.if_icmp .lt 15, 3) := by decide +kernel
theorem dX10_beneath_14 : decode cX10_beneath 14 = .ok (.iload_n 0, 1) := by decide +kernel
theorem dX10_beneath_15 : decode cX10_beneath 15 = .ok (.bipush 9, 2) := by decide +kernel
theorem dX10_beneath_17 : decode cX10_beneath 17 = .ok (.if_icmp .eq 9, 3) := by decide +kernel
theorem dX10_beneath_20 : decode cX10_beneath 20 = .ok (.iload_n 0, 1) := by decide +kernel
theorem dX10_beneath_21 : decode cX10_beneath 21 = .ok (.bipush 10, 2) := by decide +kernel
theorem dX10_beneath_23 : decode cX10_beneath 23 = .ok (.if_icmp .ne 6, 3) := by decide +kernel
theorem dX10_beneath_26 : decode cX10_beneath 26 = .ok (.ldc 5, 2) := by decide +kernel
theorem dX10_beneath_28 : decode cX10_beneath 28 = .ok (.areturn, 1) := by decide +kernel
theorem dX10_beneath_29 : decode cX10_beneath 29 = .ok (.iload_n 0, 1) := by decide +kernel
theorem dX10_beneath_30 : decode cX10_beneath 30 = .ok (.bipush 8, 2) := by decide +kernel
theorem dX10_beneath_32 : decode cX10_beneath 32 = .ok (.if_icmp .ne 8, 3) := by decide +kernel
theorem dX10_beneath_35 : decode cX10_beneath 35 = .ok (.ldc 7, 2) := by decide +kernel
theorem dX10_beneath_37 : decode cX10_beneath 37 = .ok (.goto 16, 3) := by decide +kernel
theorem dX10_beneath_40 : decode cX10_beneath 40 = .ok (.iload_n 0, 1) := by decide +kernel
theorem dX10_beneath_41 : decode cX10_beneath 41 = .ok (.bipush 13, 2) := by decide +kernel
theorem dX10_beneath_43 : decode cX10_beneath 43 = .ok (.if_icmp .ne 8, 3) := by decide +kernel
theorem dX10_beneath_46 : decode cX10_beneath 46 = .ok (.ldc 9, 2) := by decide +kernel
theorem dX10_beneath_48 : decode cX10_beneath 48 = .ok (.goto 5, 3) := by decide +kernel
theorem dX10_beneath_51 : decode cX10_beneath 51 = .ok (.ldc 11, 2) := by decide +kernel
theorem dX10_beneath_53 : decode cX10_beneath 53 = .ok (.areturn, 1) := by decide +kernel
theorem dX10_gives_0 : decode cX10_gives 0 = .ok (.aload_n 0, 1) := by decide +kernel
theorem dX10_gives_1 : decode cX10_gives 1 = .ok (.getfield 72, 3) := by decide +kernel
theorem dX10_gives_4 : decode cX10_gives 4 = .ok (.astore 5, 2) := by decide +kernel
theorem dX10_gives_6 : decode cX10_gives 6 = .ok (.iconst 0, 1) := by decide +kernel
theorem dX10_gives_7 : decode cX10_gives 7 = .ok (.istore 6, 2) := by decide +kernel
theorem dX10_gives_9 : decode cX10_gives 9 = .ok (.aload_n 1, 1) := by decide +kernel
theorem dX10_gives_10 : decode cX10_gives 10 = .ok (.arraylength, 1) := by decide +kernel
theorem dX10_gives_11 : decode cX10_gives 11 = .ok (.iconst 1, 1) := by decide +kernel
theorem dX10_gives_12 : decode cX10_gives 12 = .ok (.isub, 1) := by decide +kernel
theorem dX10_gives_13 : decode cX10_gives 13 = .ok (.istore 7, 2) := by decide +kernel
theorem dX10_gives_15 : decode cX10_gives 15 = .ok (.iload 7, 2) := by decide +kernel
theorem dX10_gives_17 : decode cX10_gives 17 = .ok (.ifCond .lt 125, 3) := by decide +kernel
theorem dX10_gives_20 : decode cX10_gives 20 = .ok (.aload_n 1, 1) := by decide +kernel
theorem dX10_gives_21 : decode cX10_gives 21 = .ok (.iload 7, 2) := by decide +kernel
theorem dX10_gives_23 : decode cX10_gives 23 = .ok (.iaload, 1) := by decide +kernel
theorem dX10_gives_24 : decode cX10_gives 24 = .ok (.invokestatic 35, 3) := by decide +kernel
theorem dX10_gives_27 : decode cX10_gives 27 = .ok (.istore 8, 2) := by decide +kernel
theorem dX10_gives_29 : decode cX10_gives 29 = .ok (.aload_n 1, 1) := by decide +kernel
theorem dX10_gives_30 : decode cX10_gives 30 = .ok (.iload 7, 2) := by decide +kernel
theorem dX10_gives_32 : decode cX10_gives 32 = .ok (.iaload, 1) := by decide +kernel
theorem dX10_gives_33 : decode cX10_gives 33 = .ok (.invokestatic 76, 3) := by decide +kernel
theorem dX10_gives_36 : decode cX10_gives 36 = .ok (.istore 9, 2) := by decide +kernel
theorem dX10_gives_38 : decode cX10_gives 38 = .ok (.iload 8, 2) := by decide +kernel
theorem dX10_gives_40 : decode cX10_gives 40 = .ok (.invokestatic 27, 3) := by decide +kernel
theorem dX10_gives_43 : decode cX10_gives 43 = .ok (.invokevirtual 13, 3) := by decide +kernel
theorem dX10_gives_46 : decode cX10_gives 46 = .ok (.istore 10, 2) := by decide +kernel
theorem dX10_gives_48 : decode cX10_gives 48 = .ok (.iload 10, 2) := by decide +kernel
theorem dX10_gives_50 : decode cX10_gives 50 = .ok (.ifCond .le 13, 3) := by decide +kernel
theorem dX10_gives_53 : decode cX10_gives 53 = .ok (.aload 5, 2) := by decide +kernel
theorem dX10_gives_55 : decode cX10_gives 55 = .ok (.iload 6, 2) := by decide +kernel
theorem dX10_gives_57 : decode cX10_gives 57 = .ok (.iconst 1, 1) := by decide +kernel
theorem dX10_gives_58 : decode cX10_gives 58 = .ok (.isub, 1) := by decide +kernel
theorem dX10_gives_59 : decode cX10_gives 59 = .ok (.iaload, 1) := by decide +kernel
theorem dX10_gives_60 : decode cX10_gives 60 = .ok (.goto 4, 3) := by decide +kernel
theorem dX10_gives_63 : decode cX10_gives 63 = .ok (.iconst 0, 1) := by decide +kernel
theorem dX10_gives_64 : decode cX10_gives 64 = .ok (.istore 11, 2) := by decide +kernel
theorem dX10_gives_66 : decode cX10_gives 66 = .ok (.iload 10, 2) := by decide +kernel
theorem dX10_gives_68 : decode cX10_gives 68 = .ok (.iconst 1, 1) := by decide +kernel
theorem dX10_gives_69 : decode cX10_gives 69 = .ok (.if_icmp .le 13, 3) := by decide +kernel
theorem dX10_gives_72 : decode cX10_gives 72 = .ok (.aload 5, 2) := by decide +kernel
theorem dX10_gives_74 : decode cX10_gives 74 = .ok (.iload 6, 2) := by decide +kernel
theorem dX10_gives_76 : decode cX10_gives 76 = .ok (.iconst 2, 1) := by decide +kernel
theorem dX10_gives_77 : decode cX10_gives 77 = .ok (.isub, 1) := by decide +kernel
theorem dX10_gives_78 : decode cX10_gives 78 = .ok (.iaload, 1) := by decide +kernel
theorem dX10_gives_79 : decode cX10_gives 79 = .ok (.goto 4, 3) := by decide +kernel
theorem dX10_gives_82 : decode cX10_gives 82 = .ok (.iconst 0, 1) := by decide +kernel
theorem dX10_gives_83 : decode cX10_gives 83 = .ok (.istore 12, 2) := by decide +kernel
theorem dX10_gives_85 : decode cX10_gives 85 = .ok (.iload 10, 2) := by decide +kernel
theorem dX10_gives_87 : decode cX10_gives 87 = .ok (.iconst 2, 1) := by decide +kernel
theorem dX10_gives_88 : decode cX10_gives 88 = .ok (.if_icmp .le 13, 3) := by decide +kernel
theorem dX10_gives_91 : decode cX10_gives 91 = .ok (.aload 5, 2) := by decide +kernel
theorem dX10_gives_93 : decode cX10_gives 93 = .ok (.iload 6, 2) := by decide +kernel
theorem dX10_gives_95 : decode cX10_gives 95 = .ok (.iconst 3, 1) := by decide +kernel
theorem dX10_gives_96 : decode cX10_gives 96 = .ok (.isub, 1) := by decide +kernel
theorem dX10_gives_97 : decode cX10_gives 97 = .ok (.iaload, 1) := by decide +kernel
theorem dX10_gives_98 : decode cX10_gives 98 = .ok (.goto 4, 3) := by decide +kernel
theorem dX10_gives_101 : decode cX10_gives 101 = .ok (.iconst 0, 1) := by decide +kernel
theorem dX10_gives_102 : decode cX10_gives 102 = .ok (.istore 13, 2) := by decide +kernel
theorem dX10_gives_104 : decode cX10_gives 104 = .ok (.iload 6, 2) := by decide +kernel
theorem dX10_gives_106 : decode cX10_gives 106 = .ok (.iload 10, 2) := by decide +kernel
theorem dX10_gives_108 : decode cX10_gives 108 = .ok (.isub, 1) := by decide +kernel
theorem dX10_gives_109 : decode cX10_gives 109 = .ok (.istore 6, 2) := by decide +kernel
theorem dX10_gives_111 : decode cX10_gives 111 = .ok (.aload 5, 2) := by decide +kernel
theorem dX10_gives_113 : decode cX10_gives 113 = .ok (.iload 6, 2) := by decide +kernel
theorem dX10_gives_115 : decode cX10_gives 115 = .ok (.iinc 6 1, 3) := by decide +kernel
theorem dX10_gives_118 : decode cX10_gives 118 = .ok (.iload 8, 2) := by decide +kernel
theorem dX10_gives_120 : decode cX10_gives 120 = .ok (.iload 9, 2) := by decide +kernel
theorem dX10_gives_122 : decode cX10_gives 122 = .ok (.iload 11, 2) := by decide +kernel
theorem dX10_gives_124 : decode cX10_gives 124 = .ok (.iload 12, 2) := by decide +kernel
theorem dX10_gives_126 : decode cX10_gives 126 = .ok (.iload 13, 2) := by decide +kernel
theorem dX10_gives_128 : decode cX10_gives 128 = .ok (.iload_n 2, 1) := by decide +kernel
theorem dX10_gives_129 : decode cX10_gives 129 = .ok (.iload_n 3, 1) := by decide +kernel
theorem dX10_gives_130 : decode cX10_gives 130 = .ok (.iload 4, 2) := by decide +kernel
theorem dX10_gives_132 : decode cX10_gives 132 = .ok (.invokestatic 79, 3) := by decide +kernel
theorem dX10_gives_135 : decode cX10_gives 135 = .ok (.iastore, 1) := by decide +kernel
theorem dX10_gives_136 : decode cX10_gives 136 = .ok (.iinc 7 (-1), 3) := by decide +kernel
theorem dX10_gives_139 : decode cX10_gives 139 = .ok (.goto (-124), 3) := by decide +kernel
theorem dX10_gives_142 : decode cX10_gives 142 = .ok (.aload 5, 2) := by decide +kernel
theorem dX10_gives_144 : decode cX10_gives 144 = .ok (.iconst 0, 1) := by decide +kernel
theorem dX10_gives_145 : decode cX10_gives 145 = .ok (.iaload, 1) := by decide +kernel
theorem dX10_gives_146 : decode cX10_gives 146 = .ok (.ireturn, 1) := by decide +kernel
theorem dX10_init_0 : decode cX10_init 0 = .ok (.aload_n 0, 1) := by decide +kernel
theorem dX10_init_1 : decode cX10_init 1 = .ok (.invokespecial 121, 3) := by decide +kernel
theorem dX10_init_4 : decode cX10_init 4 = .ok (.aload_n 0, 1) := by decide +kernel
theorem dX10_init_5 : decode cX10_init 5 = .ok (.bipush 41, 2) := by decide +kernel
theorem dX10_init_7 : decode cX10_init 7 = .ok (.newarray .int, 2) := by decide +kernel
theorem dX10_init_9 : decode cX10_init 9 = .ok (.putfield 72, 3) := by decide +kernel
theorem dX10_init_12 : decode cX10_init 12 = .ok (.aload_n 0, 1) := by decide +kernel
theorem dX10_init_13 : decode cX10_init 13 = .ok (.bipush 40, 2) := by decide +kernel
theorem dX10_init_15 : decode cX10_init 15 = .ok (.newarray .int, 2) := by decide +kernel
theorem dX10_init_17 : decode cX10_init 17 = .ok (.putfield 127, 3) := by decide +kernel
theorem dX10_init_20 : decode cX10_init 20 = .ok (.aload_n 0, 1) := by decide +kernel
theorem dX10_init_21 : decode cX10_init 21 = .ok (.bipush 16, 2) := by decide +kernel
theorem dX10_init_23 : decode cX10_init 23 = .ok (.anewarray 130, 3) := by decide +kernel
theorem dX10_init_26 : decode cX10_init 26 = .ok (.putfield 131, 3) := by decide +kernel
theorem dX10_init_29 : decode cX10_init 29 = .ok (.aload_n 0, 1) := by decide +kernel
theorem dX10_init_30 : decode cX10_init 30 = .ok (.bipush 36, 2) := by decide +kernel
theorem dX10_init_32 : decode cX10_init 32 = .ok (.newarray .int, 2) := by decide +kernel
theorem dX10_init_34 : decode cX10_init 34 = .ok (.putfield 135, 3) := by decide +kernel
theorem dX10_init_37 : decode cX10_init 37 = .ok (.aload_n 0, 1) := by decide +kernel
theorem dX10_init_38 : decode cX10_init 38 = .ok (.bipush 12, 2) := by decide +kernel
theorem dX10_init_40 : decode cX10_init 40 = .ok (.newarray .int, 2) := by decide +kernel
theorem dX10_init_42 : decode cX10_init 42 = .ok (.putfield 138, 3) := by decide +kernel
theorem dX10_init_45 : decode cX10_init 45 = .ok (.aload_n 0, 1) := by decide +kernel
theorem dX10_init_46 : decode cX10_init 46 = .ok (.iconst 1, 1) := by decide +kernel
theorem dX10_init_47 : decode cX10_init 47 = .ok (.putfield 141, 3) := by decide +kernel
theorem dX10_init_50 : decode cX10_init 50 = .ok (.aload_n 0, 1) := by decide +kernel
theorem dX10_init_51 : decode cX10_init 51 = .ok (.bipush 40, 2) := by decide +kernel
theorem dX10_init_53 : decode cX10_init 53 = .ok (.newarray .int, 2) := by decide +kernel
theorem dX10_init_55 : decode cX10_init 55 = .ok (.putfield 145, 3) := by decide +kernel
theorem dX10_init_58 : decode cX10_init 58 = .ok (.aload_n 0, 1) := by decide +kernel
theorem dX10_init_59 : decode cX10_init 59 = .ok (.bipush 70, 2) := by decide +kernel
theorem dX10_init_61 : decode cX10_init 61 = .ok (.putfield 148, 3) := by decide +kernel
theorem dX10_init_64 : decode cX10_init 64 = .ok (.aload_n 0, 1) := by decide +kernel
theorem dX10_init_65 : decode cX10_init 65 = .ok (.bipush 20, 2) := by decide +kernel
theorem dX10_init_67 : decode cX10_init 67 = .ok (.putfield 151, 3) := by decide +kernel
theorem dX10_init_70 : decode cX10_init 70 = .ok (.aload_n 0, 1) := by decide +kernel
theorem dX10_init_71 : decode cX10_init 71 = .ok (.iconst 5, 1) := by decide +kernel
theorem dX10_init_72 : decode cX10_init 72 = .ok (.putfield 154, 3) := by decide +kernel
theorem dX10_init_75 : decode cX10_init 75 = .ok (.aload_n 0, 1) := by decide +kernel
theorem dX10_init_76 : decode cX10_init 76 = .ok (.iconst 2, 1) := by decide +kernel
theorem dX10_init_77 : decode cX10_init 77 = .ok (.putfield 157, 3) := by decide +kernel
theorem dX10_init_80 : decode cX10_init 80 = .ok (.aload_n 0, 1) := by decide +kernel
theorem dX10_init_81 : decode cX10_init 81 = .ok (.iconst 1, 1) := by decide +kernel
theorem dX10_init_82 : decode cX10_init 82 = .ok (.putfield 160, 3) := by decide +kernel
theorem dX10_init_85 : decode cX10_init 85 = .ok (.return_, 1) := by decide +kernel
theorem dX10_thrown_0 : decode cX10_thrown 0 = .ok (.aload_n 0, 1) := by decide +kernel
theorem dX10_thrown_1 : decode cX10_thrown 1 = .ok (.getfield 163, 3) := by decide +kernel
theorem dX10_thrown_4 : decode cX10_thrown 4 = .ok (.ireturn, 1) := by decide +kernel
theorem dX10_no_0 : decode cX10_no 0 = .ok (.aload_n 0, 1) := by decide +kernel
theorem dX10_no_1 : decode cX10_no 1 = .ok (.iload_n 1, 1) := by decide +kernel
theorem dX10_no_2 : decode cX10_no 2 = .ok (.putfield 163, 3) := by decide +kernel
theorem dX10_no_5 : decode cX10_no 5 = .ok (.iconst 0, 1) := by decide +kernel
theorem dX10_no_6 : decode cX10_no 6 = .ok (.ireturn, 1) := by decide +kernel
theorem dX10_ok_0 : decode cX10_ok 0 = .ok (.aload_n 0, 1) := by decide +kernel
theorem dX10_ok_1 : decode cX10_ok 1 = .ok (.iconst 0, 1) := by decide +kernel
theorem dX10_ok_2 : decode cX10_ok 2 = .ok (.putfield 163, 3) := by decide +kernel
theorem dX10_ok_5 : decode cX10_ok 5 = .ok (.iload_n 1, 1) := by decide +kernel
theorem dX10_ok_6 : decode cX10_ok 6 = .ok (.ireturn, 1) := by decide +kernel
theorem dX10_isTree_0 : decode cX10_isTree 0 = .ok (.iload_n 1, 1) := by decide +kernel
theorem dX10_isTree_1 : decode cX10_isTree 1 = .ok (.iconst 0, 1) := by decide +kernel
theorem dX10_isTree_2 : decode cX10_isTree 2 = .ok (.aload_n 0, 1) := by decide +kernel
theorem dX10_isTree_3 : decode cX10_isTree 3 = .ok (.getfield 166, 3) := by decide +kernel
theorem dX10_isTree_6 : decode cX10_isTree 6 = .ok (.iconst 1, 1) := by decide +kernel
theorem dX10_isTree_7 : decode cX10_isTree 7 = .ok (.isub, 1) := by decide +kernel
theorem dX10_isTree_8 : decode cX10_isTree 8 = .ok (.invokestatic 94, 3) := by decide +kernel
theorem dX10_isTree_11 : decode cX10_isTree 11 = .ok (.ireturn, 1) := by decide +kernel
theorem dX10_isPlace_0 : decode cX10_isPlace 0 = .ok (.aload_n 0, 1) := by decide +kernel
theorem dX10_isPlace_1 : decode cX10_isPlace 1 = .ok (.iload_n 1, 1) := by decide +kernel
theorem dX10_isPlace_2 : decode cX10_isPlace 2 = .ok (.invokevirtual 169, 3) := by decide +kernel
theorem dX10_isPlace_5 : decode cX10_isPlace 5 = .ok (.ifCond .eq 24, 3) := by decide +kernel
theorem dX10_isPlace_8 : decode cX10_isPlace 8 = .ok (.iload_n 2, 1) := by decide +kernel
theorem dX10_isPlace_9 : decode cX10_isPlace 9 = .ok (.iconst 0, 1) := by decide +kernel
theorem dX10_isPlace_10 : decode cX10_isPlace 10 = .ok (.aload_n 0, 1) := by decide +kernel
theorem dX10_isPlace_11 : decode cX10_isPlace 11 = .ok (.getfield 131, 3) := by decide +kernel
theorem dX10_isPlace_14 : decode cX10_isPlace 14 = .ok (.iload_n 1, 1) := by decide +kernel
theorem dX10_isPlace_15 : decode cX10_isPlace 15 = .ok (.aaload, 1) := by decide +kernel
theorem dX10_isPlace_16 : decode cX10_isPlace 16 = .ok (.arraylength, 1) := by decide +kernel
theorem dX10_isPlace_17 : decode cX10_isPlace 17 = .ok (.iconst 1, 1) := by decide +kernel
theorem dX10_isPlace_18 : decode cX10_isPlace 18 = .ok (.isub, 1) := by decide +kernel
theorem dX10_isPlace_19 : decode cX10_isPlace 19 = .ok (.invokestatic 94, 3) := by decide +kernel
theorem dX10_isPlace_22 : decode cX10_isPlace 22 = .ok (.ifCond .eq 7, 3) := by decide +kernel
theorem dX10_isPlace_25 : decode cX10_isPlace 25 = .ok (.iconst 1, 1) := by decide +kernel
theorem dX10_isPlace_26 : decode cX10_isPlace 26 = .ok (.goto 4, 3) := by decide +kernel
theorem dX10_isPlace_29 : decode cX10_isPlace 29 = .ok (.iconst 0, 1) := by decide +kernel
theorem dX10_isPlace_30 : decode cX10_isPlace 30 = .ok (.ireturn, 1) := by decide +kernel
theorem dX10_isCode_0 : decode cX10_isCode 0 = .ok (.iload_n 0, 1) := by decide +kernel
theorem dX10_isCode_1 : decode cX10_isCode 1 = .ok (.iconst 0, 1) := by decide +kernel
theorem dX10_isCode_2 : decode cX10_isCode 2 = .ok (.bipush 13, 2) := by decide +kernel
theorem dX10_isCode_4 : decode cX10_isCode 4 = .ok (.invokestatic 94, 3) := by decide +kernel
theorem dX10_isCode_7 : decode cX10_isCode 7 = .ok (.ifCond .eq 36, 3) := by decide +kernel
theorem dX10_isCode_10 : decode cX10_isCode 10 = .ok (.iload_n 0, 1) := by decide +kernel
theorem dX10_isCode_11 : decode cX10_isCode 11 = .ok (.ifCond .ne 14, 3) := by decide +kernel
theorem dX10_isCode_14 : decode cX10_isCode 14 = .ok (.iload_n 1, 1) := by decide +kernel
theorem dX10_isCode_15 : decode cX10_isCode 15 = .ok (.bipush (-99), 2) := by decide +kernel
theorem dX10_isCode_17 : decode cX10_isCode 17 = .ok (.bipush 99, 2) := by decide +kernel
theorem dX10_isCode_19 : decode cX10_isCode 19 = .ok (.invokestatic 94, 3) := by decide +kernel
theorem dX10_isCode_22 : decode cX10_isCode 22 = .ok (.ifCond .eq 21, 3) := by decide +kernel
theorem dX10_isCode_25 : decode cX10_isCode 25 = .ok (.iload_n 0, 1) := by decide +kernel
theorem dX10_isCode_26 : decode cX10_isCode 26 = .ok (.iconst 1, 1) := by decide +kernel
theorem dX10_isCode_27 : decode cX10_isCode 27 = .ok (.if_icmp .ne 12, 3) := by decide +kernel
theorem dX10_isCode_30 : decode cX10_isCode 30 = .ok (.iload_n 1, 1) := by decide +kernel
theorem dX10_isCode_31 : decode cX10_isCode 31 = .ok (.iconst 0, 1) := by decide +kernel
theorem dX10_isCode_32 : decode cX10_isCode 32 = .ok (.iconst 2, 1) := by decide +kernel
theorem dX10_isCode_33 : decode cX10_isCode 33 = .ok (.invokestatic 94, 3) := by decide +kernel
theorem dX10_isCode_36 : decode cX10_isCode 36 = .ok (.ifCond .eq 7, 3) := by decide +kernel
theorem dX10_isCode_39 : decode cX10_isCode 39 = .ok (.iconst 1, 1) := by decide +kernel
theorem dX10_isCode_40 : decode cX10_isCode 40 = .ok (.goto 4, 3) := by decide +kernel
theorem dX10_isCode_43 : decode cX10_isCode 43 = .ok (.iconst 0, 1) := by decide +kernel
theorem dX10_isCode_44 : decode cX10_isCode 44 = .ok (.ireturn, 1) := by decide +kernel
theorem dX10_nodeOf_0 : decode cX10_nodeOf 0 = .ok (.iload_n 0, 1) := by decide +kernel
theorem dX10_nodeOf_1 : decode cX10_nodeOf 1 = .ok (.iload_n 0, 1) := by decide +kernel
theorem dX10_nodeOf_2 : decode cX10_nodeOf 2 = .ok (.iconst 1, 1) := by decide +kernel
theorem dX10_nodeOf_3 : decode cX10_nodeOf 3 = .ok (.if_icmp .gt 7, 3) := by decide +kernel
theorem dX10_nodeOf_6 : decode cX10_nodeOf 6 = .ok (.iload_n 1, 1) := by decide +kernel
theorem dX10_nodeOf_7 : decode cX10_nodeOf 7 = .ok (.goto 4, 3) := by decide +kernel
theorem dX10_nodeOf_10 : decode cX10_nodeOf 10 = .ok (.iconst 0, 1) := by decide +kernel
theorem dX10_nodeOf_11 : decode cX10_nodeOf 11 = .ok (.invokestatic 62, 3) := by decide +kernel
theorem dX10_nodeOf_14 : decode cX10_nodeOf 14 = .ok (.ireturn, 1) := by decide +kernel
theorem dX10_missing_0 : decode cX10_missing 0 = .ok (.aload_n 2, 1) := by decide +kernel
theorem dX10_missing_1 : decode cX10_missing 1 = .ok (.iconst 0, 1) := by decide +kernel
theorem dX10_missing_2 : decode cX10_missing 2 = .ok (.iconst 1, 1) := by decide +kernel
theorem dX10_missing_3 : decode cX10_missing 3 = .ok (.bastore, 1) := by decide +kernel
theorem dX10_missing_4 : decode cX10_missing 4 = .ok (.aload_n 3, 1) := by decide +kernel
theorem dX10_missing_5 : decode cX10_missing 5 = .ok (.iconst 0, 1) := by decide +kernel
theorem dX10_missing_6 : decode cX10_missing 6 = .ok (.iconst 1, 1) := by decide +kernel
theorem dX10_missing_7 : decode cX10_missing 7 = .ok (.iastore, 1) := by decide +kernel
theorem dX10_missing_8 : decode cX10_missing 8 = .ok (.iconst 1, 1) := by decide +kernel
theorem dX10_missing_9 : decode cX10_missing 9 = .ok (.istore 4, 2) := by decide +kernel
theorem dX10_missing_11 : decode cX10_missing 11 = .ok (.iconst 0, 1) := by decide +kernel
theorem dX10_missing_12 : decode cX10_missing 12 = .ok (.istore 5, 2) := by decide +kernel
theorem dX10_missing_14 : decode cX10_missing 14 = .ok (.iload 5, 2) := by decide +kernel
theorem dX10_missing_16 : decode cX10_missing 16 = .ok (.iload_n 1, 1) := by decide +kernel
theorem dX10_missing_17 : decode cX10_missing 17 = .ok (.if_icmp .ge 82, 3) := by decide +kernel
theorem dX10_missing_20 : decode cX10_missing 20 = .ok (.iinc 4 (-1), 3) := by decide +kernel
theorem dX10_missing_23 : decode cX10_missing 23 = .ok (.aload_n 3, 1) := by decide +kernel
theorem dX10_missing_24 : decode cX10_missing 24 = .ok (.iload 4, 2) := by decide +kernel
theorem dX10_missing_26 : decode cX10_missing 26 = .ok (.iaload, 1) := by decide +kernel
theorem dX10_missing_27 : decode cX10_missing 27 = .ok (.istore 6, 2) := by decide +kernel
theorem dX10_missing_29 : decode cX10_missing 29 = .ok (.aload_n 0, 1) := by decide +kernel
theorem dX10_missing_30 : decode cX10_missing 30 = .ok (.iload 5, 2) := by decide +kernel
theorem dX10_missing_32 : decode cX10_missing 32 = .ok (.iaload, 1) := by decide +kernel
theorem dX10_missing_33 : decode cX10_missing 33 = .ok (.invokestatic 35, 3) := by decide +kernel
theorem dX10_missing_36 : decode cX10_missing 36 = .ok (.invokestatic 27, 3) := by decide +kernel
theorem dX10_missing_39 : decode cX10_missing 39 = .ok (.astore 7, 2) := by decide +kernel
theorem dX10_missing_41 : decode cX10_missing 41 = .ok (.aload 7, 2) := by decide +kernel
theorem dX10_missing_43 : decode cX10_missing 43 = .ok (.invokevirtual 13, 3) := by decide +kernel
theorem dX10_missing_46 : decode cX10_missing 46 = .ok (.iconst 1, 1) := by decide +kernel
theorem dX10_missing_47 : decode cX10_missing 47 = .ok (.isub, 1) := by decide +kernel
theorem dX10_missing_48 : decode cX10_missing 48 = .ok (.istore 8, 2) := by decide +kernel
theorem dX10_missing_50 : decode cX10_missing 50 = .ok (.iload 8, 2) := by decide +kernel
theorem dX10_missing_52 : decode cX10_missing 52 = .ok (.ifCond .lt 41, 3) := by decide +kernel
theorem dX10_missing_55 : decode cX10_missing 55 = .ok (.aload_n 2, 1) := by decide +kernel
theorem dX10_missing_56 : decode cX10_missing 56 = .ok (.iload 4, 2) := by decide +kernel
theorem dX10_missing_58 : decode cX10_missing 58 = .ok (.aload 7, 2) := by decide +kernel
theorem dX10_missing_60 : decode cX10_missing 60 = .ok (.iload 8, 2) := by decide +kernel
theorem dX10_missing_62 : decode cX10_missing 62 = .ok (.invokevirtual 19, 3) := by decide +kernel
theorem dX10_missing_65 : decode cX10_missing 65 = .ok (.bipush 110, 2) := by decide +kernel
theorem dX10_missing_67 : decode cX10_missing 67 = .ok (.if_icmp .ne 7, 3) := by decide +kernel
theorem dX10_missing_70 : decode cX10_missing 70 = .ok (.iconst 1, 1) := by decide +kernel
theorem dX10_missing_71 : decode cX10_missing 71 = .ok (.goto 4, 3) := by decide +kernel
theorem dX10_missing_74 : decode cX10_missing 74 = .ok (.iconst 0, 1) := by decide +kernel
theorem dX10_missing_75 : decode cX10_missing 75 = .ok (.bastore, 1) := by decide +kernel
theorem dX10_missing_76 : decode cX10_missing 76 = .ok (.aload_n 3, 1) := by decide +kernel
theorem dX10_missing_77 : decode cX10_missing 77 = .ok (.iload 4, 2) := by decide +kernel
theorem dX10_missing_79 : decode cX10_missing 79 = .ok (.iinc 4 1, 3) := by decide +kernel
theorem dX10_missing_82 : decode cX10_missing 82 = .ok (.iload 6, 2) := by decide +kernel
theorem dX10_missing_84 : decode cX10_missing 84 = .ok (.iconst 1, 1) := by decide +kernel
theorem dX10_missing_85 : decode cX10_missing 85 = .ok (.iadd, 1) := by decide +kernel
theorem dX10_missing_86 : decode cX10_missing 86 = .ok (.iastore, 1) := by decide +kernel
theorem dX10_missing_87 : decode cX10_missing 87 = .ok (.iinc 8 (-1), 3) := by decide +kernel
theorem dX10_missing_90 : decode cX10_missing 90 = .ok (.goto (-40), 3) := by decide +kernel
theorem dX10_missing_93 : decode cX10_missing 93 = .ok (.iinc 5 1, 3) := by decide +kernel
theorem dX10_missing_96 : decode cX10_missing 96 = .ok (.goto (-82), 3) := by decide +kernel
theorem dX10_missing_99 : decode cX10_missing 99 = .ok (.iload 4, 2) := by decide +kernel
theorem dX10_missing_101 : decode cX10_missing 101 = .ok (.ireturn, 1) := by decide +kernel
theorem dX10_sketch_0 : decode cX10_sketch 0 = .ok (.aload_n 0, 1) := by decide +kernel
theorem dX10_sketch_1 : decode cX10_sketch 1 = .ok (.iconst 0, 1) := by decide +kernel
theorem dX10_sketch_2 : decode cX10_sketch 2 = .ok (.putfield 163, 3) := by decide +kernel
theorem dX10_sketch_5 : decode cX10_sketch 5 = .ok (.iload_n 1, 1) := by decide +kernel
theorem dX10_sketch_6 : decode cX10_sketch 6 = .ok (.iload_n 2, 1) := by decide +kernel
theorem dX10_sketch_7 : decode cX10_sketch 7 = .ok (.invokestatic 172, 3) := by decide +kernel
theorem dX10_sketch_10 : decode cX10_sketch 10 = .ok (.ifCond .ne 9, 3) := by decide +kernel
theorem dX10_sketch_13 : decode cX10_sketch 13 = .ok (.aload_n 0, 1) := by decide +kernel
theorem dX10_sketch_14 : decode cX10_sketch 14 = .ok (.iconst 1, 1) := by decide +kernel
theorem dX10_sketch_15 : decode cX10_sketch 15 = .ok (.invokevirtual 176, 3) := by decide +kernel
theorem dX10_sketch_18 : decode cX10_sketch 18 = .ok (.ireturn, 1) := by decide +kernel
theorem dX10_sketch_19 : decode cX10_sketch 19 = .ok (.bipush 120, 2) := by decide +kernel
theorem dX10_sketch_21 : decode cX10_sketch 21 = .ok (.newarray .boolean, 2) := by decide +kernel
theorem dX10_sketch_23 : decode cX10_sketch 23 = .ok (.astore_n 3, 1) := by decide +kernel
theorem dX10_sketch_24 : decode cX10_sketch 24 = .ok (.bipush 120, 2) := by decide +kernel
theorem dX10_sketch_26 : decode cX10_sketch 26 = .ok (.newarray .int, 2) := by decide +kernel
theorem dX10_sketch_28 : decode cX10_sketch 28 = .ok (.astore 4, 2) := by decide +kernel
theorem dX10_sketch_30 : decode cX10_sketch 30 = .ok (.aload_n 0, 1) := by decide +kernel
theorem dX10_sketch_31 : decode cX10_sketch 31 = .ok (.getfield 127, 3) := by decide +kernel
theorem dX10_sketch_34 : decode cX10_sketch 34 = .ok (.aload_n 0, 1) := by decide +kernel
theorem dX10_sketch_35 : decode cX10_sketch 35 = .ok (.getfield 179, 3) := by decide +kernel
theorem dX10_sketch_38 : decode cX10_sketch 38 = .ok (.aload_n 3, 1) := by decide +kernel
theorem dX10_sketch_39 : decode cX10_sketch 39 = .ok (.aload 4, 2) := by decide +kernel
theorem dX10_sketch_41 : decode cX10_sketch 41 = .ok (.invokestatic 182, 3) := by decide +kernel
theorem dX10_sketch_44 : decode cX10_sketch 44 = .ok (.istore 5, 2) := by decide +kernel
theorem dX10_sketch_46 : decode cX10_sketch 46 = .ok (.iload 5, 2) := by decide +kernel
theorem dX10_sketch_48 : decode cX10_sketch 48 = .ok (.ifCond .eq 25, 3) := by decide +kernel
theorem dX10_sketch_51 : decode cX10_sketch 51 = .ok (.iload_n 1, 1) := by decide +kernel
theorem dX10_sketch_52 : decode cX10_sketch 52 = .ok (.invokestatic 23, 3) := by decide +kernel
theorem dX10_sketch_55 : decode cX10_sketch 55 = .ok (.aload_n 3, 1) := by decide +kernel
theorem dX10_sketch_56 : decode cX10_sketch 56 = .ok (.iload 5, 2) := by decide +kernel
theorem dX10_sketch_58 : decode cX10_sketch 58 = .ok (.iconst 1, 1) := by decide +kernel
theorem dX10_sketch_59 : decode cX10_sketch 59 = .ok (.isub, 1) := by decide +kernel
theorem dX10_sketch_60 : decode cX10_sketch 60 = .ok (.baload, 1) := by decide +kernel
theorem dX10_sketch_61 : decode cX10_sketch 61 = .ok (.if_icmp .ne 12, 3) := by decide +kernel
theorem dX10_sketch_64 : decode cX10_sketch 64 = .ok (.aload_n 0, 1) := by decide +kernel
theorem dX10_sketch_65 : decode cX10_sketch 65 = .ok (.getfield 179, 3) := by decide +kernel
theorem dX10_sketch_68 : decode cX10_sketch 68 = .ok (.bipush 40, 2) := by decide +kernel
theorem dX10_sketch_70 : decode cX10_sketch 70 = .ok (.if_icmp .ne 9, 3) := by decide +kernel
theorem dX10_sketch_73 : decode cX10_sketch 73 = .ok (.aload_n 0, 1) := by decide +kernel
theorem dX10_sketch_74 : decode cX10_sketch 74 = .ok (.iconst 2, 1) := by decide +kernel
theorem dX10_sketch_75 : decode cX10_sketch 75 = .ok (.invokevirtual 176, 3) := by decide +kernel
theorem dX10_sketch_78 : decode cX10_sketch 78 = .ok (.ireturn, 1) := by decide +kernel
theorem dX10_sketch_79 : decode cX10_sketch 79 = .ok (.aload_n 0, 1) := by decide +kernel
theorem dX10_sketch_80 : decode cX10_sketch 80 = .ok (.getfield 127, 3) := by decide +kernel
theorem dX10_sketch_83 : decode cX10_sketch 83 = .ok (.aload_n 0, 1) := by decide +kernel
theorem dX10_sketch_84 : decode cX10_sketch 84 = .ok (.getfield 179, 3) := by decide +kernel
theorem dX10_sketch_87 : decode cX10_sketch 87 = .ok (.iload_n 1, 1) := by decide +kernel
theorem dX10_sketch_88 : decode cX10_sketch 88 = .ok (.iload_n 2, 1) := by decide +kernel
theorem dX10_sketch_89 : decode cX10_sketch 89 = .ok (.invokestatic 186, 3) := by decide +kernel
theorem dX10_sketch_92 : decode cX10_sketch 92 = .ok (.iastore, 1) := by decide +kernel
theorem dX10_sketch_93 : decode cX10_sketch 93 = .ok (.aload_n 0, 1) := by decide +kernel
theorem dX10_sketch_94 : decode cX10_sketch 94 = .ok (.getfield 127, 3) := by decide +kernel
theorem dX10_sketch_97 : decode cX10_sketch 97 = .ok (.aload_n 0, 1) := by decide +kernel
theorem dX10_sketch_98 : decode cX10_sketch 98 = .ok (.getfield 179, 3) := by decide +kernel
theorem dX10_sketch_101 : decode cX10_sketch 101 = .ok (.iconst 1, 1) := by decide +kernel
theorem dX10_sketch_102 : decode cX10_sketch 102 = .ok (.iadd, 1) := by decide +kernel
theorem dX10_sketch_103 : decode cX10_sketch 103 = .ok (.aload_n 3, 1) := by decide +kernel
theorem dX10_sketch_104 : decode cX10_sketch 104 = .ok (.aload 4, 2) := by decide +kernel
theorem dX10_sketch_106 : decode cX10_sketch 106 = .ok (.invokestatic 182, 3) := by decide +kernel
theorem dX10_sketch_109 : decode cX10_sketch 109 = .ok (.istore 5, 2) := by decide +kernel
theorem dX10_sketch_111 : decode cX10_sketch 111 = .ok (.aload_n 0, 1) := by decide +kernel
theorem dX10_sketch_112 : decode cX10_sketch 112 = .ok (.getfield 179, 3) := by decide +kernel
theorem dX10_sketch_115 : decode cX10_sketch 115 = .ok (.iconst 1, 1) := by decide +kernel
theorem dX10_sketch_116 : decode cX10_sketch 116 = .ok (.iadd, 1) := by decide +kernel
theorem dX10_sketch_117 : decode cX10_sketch 117 = .ok (.istore 6, 2) := by decide +kernel
theorem dX10_sketch_119 : decode cX10_sketch 119 = .ok (.iconst 0, 1) := by decide +kernel
theorem dX10_sketch_120 : decode cX10_sketch 120 = .ok (.istore 7, 2) := by decide +kernel
theorem dX10_sketch_122 : decode cX10_sketch 122 = .ok (.iconst 0, 1) := by decide +kernel
theorem dX10_sketch_123 : decode cX10_sketch 123 = .ok (.istore 8, 2) := by decide +kernel
theorem dX10_sketch_125 : decode cX10_sketch 125 = .ok (.iload 8, 2) := by decide +kernel
theorem dX10_sketch_127 : decode cX10_sketch 127 = .ok (.iload 5, 2) := by decide +kernel
theorem dX10_sketch_129 : decode cX10_sketch 129 = .ok (.if_icmp .ge 59, 3) := by decide +kernel
theorem dX10_sketch_132 : decode cX10_sketch 132 = .ok (.iload 6, 2) := by decide +kernel
theorem dX10_sketch_134 : decode cX10_sketch 134 = .ok (.aload_n 3, 1) := by decide +kernel
theorem dX10_sketch_135 : decode cX10_sketch 135 = .ok (.iload 8, 2) := by decide +kernel
theorem dX10_sketch_137 : decode cX10_sketch 137 = .ok (.baload, 1) := by decide +kernel
theorem dX10_sketch_138 : decode cX10_sketch 138 = .ok (.ifCond .eq 7, 3) := by decide +kernel
theorem dX10_sketch_141 : decode cX10_sketch 141 = .ok (.iconst 1, 1) := by decide +kernel
theorem dX10_sketch_142 : decode cX10_sketch 142 = .ok (.goto 4, 3) := by decide +kernel
theorem dX10_sketch_145 : decode cX10_sketch 145 = .ok (.iconst 3, 1) := by decide +kernel
theorem dX10_sketch_146 : decode cX10_sketch 146 = .ok (.iadd, 1) := by decide +kernel
theorem dX10_sketch_147 : decode cX10_sketch 147 = .ok (.istore 6, 2) := by decide +kernel
theorem dX10_sketch_149 : decode cX10_sketch 149 = .ok (.iload 7, 2) := by decide +kernel
theorem dX10_sketch_151 : decode cX10_sketch 151 = .ok (.aload 4, 2) := by decide +kernel
theorem dX10_sketch_153 : decode cX10_sketch 153 = .ok (.iload 8, 2) := by decide +kernel
theorem dX10_sketch_155 : decode cX10_sketch 155 = .ok (.iaload, 1) := by decide +kernel
