theorem dX9_init_0 : decode cX9_init 0 = .ok (.aload_n 0, 1) := by decide +kernel
theorem dX9_init_1 : decode cX9_init 1 = .ok (.invokespecial 1, 3) := by decide +kernel
theorem dX9_init_4 : decode cX9_init 4 = .ok (.aload_n 0, 1) := by decide +kernel
theorem dX9_init_5 : decode cX9_init 5 = .ok (.new 7, 3) := by decide +kernel
theorem dX9_init_8 : decode cX9_init 8 = .ok (.dup, 1) := by decide +kernel
theorem dX9_init_9 : decode cX9_init 9 = .ok (.invokespecial 9, 3) := by decide +kernel
theorem dX9_init_12 : decode cX9_init 12 = .ok (.putfield 10, 3) := by decide +kernel
theorem dX9_init_15 : decode cX9_init 15 = .ok (.aload_n 0, 1) := by decide +kernel
theorem dX9_init_16 : decode cX9_init 16 = .ok (.new 16, 3) := by decide +kernel
theorem dX9_init_19 : decode cX9_init 19 = .ok (.dup, 1) := by decide +kernel
theorem dX9_init_20 : decode cX9_init 20 = .ok (.invokespecial 18, 3) := by decide +kernel
theorem dX9_init_23 : decode cX9_init 23 = .ok (.putfield 19, 3) := by decide +kernel
theorem dX9_init_26 : decode cX9_init 26 = .ok (.aload_n 0, 1) := by decide +kernel
theorem dX9_init_27 : decode cX9_init 27 = .ok (.new 23, 3) := by decide +kernel
theorem dX9_init_30 : decode cX9_init 30 = .ok (.dup, 1) := by decide +kernel
theorem dX9_init_31 : decode cX9_init 31 = .ok (.invokespecial 25, 3) := by decide +kernel
theorem dX9_init_34 : decode cX9_init 34 = .ok (.putfield 26, 3) := by decide +kernel
theorem dX9_init_37 : decode cX9_init 37 = .ok (.aload_n 0, 1) := by decide +kernel
theorem dX9_init_38 : decode cX9_init 38 = .ok (.new 30, 3) := by decide +kernel
theorem dX9_init_41 : decode cX9_init 41 = .ok (.dup, 1) := by decide +kernel
theorem dX9_init_42 : decode cX9_init 42 = .ok (.invokespecial 32, 3) := by decide +kernel
theorem dX9_init_45 : decode cX9_init 45 = .ok (.putfield 33, 3) := by decide +kernel
theorem dX9_init_48 : decode cX9_init 48 = .ok (.aload_n 0, 1) := by decide +kernel
theorem dX9_init_49 : decode cX9_init 49 = .ok (.new 37, 3) := by decide +kernel
theorem dX9_init_52 : decode cX9_init 52 = .ok (.dup, 1) := by decide +kernel
theorem dX9_init_53 : decode cX9_init 53 = .ok (.invokespecial 39, 3) := by decide +kernel
theorem dX9_init_56 : decode cX9_init 56 = .ok (.putfield 40, 3) := by decide +kernel
theorem dX9_init_59 : decode cX9_init 59 = .ok (.aload_n 0, 1) := by decide +kernel
theorem dX9_init_60 : decode cX9_init 60 = .ok (.new 44, 3) := by decide +kernel
theorem dX9_init_63 : decode cX9_init 63 = .ok (.dup, 1) := by decide +kernel
theorem dX9_init_64 : decode cX9_init 64 = .ok (.invokespecial 46, 3) := by decide +kernel
theorem dX9_init_67 : decode cX9_init 67 = .ok (.putfield 47, 3) := by decide +kernel
theorem dX9_init_70 : decode cX9_init 70 = .ok (.aload_n 0, 1) := by decide +kernel
theorem dX9_init_71 : decode cX9_init 71 = .ok (.new 51, 3) := by decide +kernel
theorem dX9_init_74 : decode cX9_init 74 = .ok (.dup, 1) := by decide +kernel
theorem dX9_init_75 : decode cX9_init 75 = .ok (.invokespecial 53, 3) := by decide +kernel
theorem dX9_init_78 : decode cX9_init 78 = .ok (.putfield 54, 3) := by decide +kernel
theorem dX9_init_81 : decode cX9_init 81 = .ok (.aload_n 0, 1) := by decide +kernel
theorem dX9_init_82 : decode cX9_init 82 = .ok (.new 51, 3) := by decide +kernel
theorem dX9_init_85 : decode cX9_init 85 = .ok (.dup, 1) := by decide +kernel
theorem dX9_init_86 : decode cX9_init 86 = .ok (.invokespecial 53, 3) := by decide +kernel
theorem dX9_init_89 : decode cX9_init 89 = .ok (.putfield 58, 3) := by decide +kernel
theorem dX9_init_92 : decode cX9_init 92 = .ok (.aload_n 0, 1) := by decide +kernel
theorem dX9_init_93 : decode cX9_init 93 = .ok (.new 61, 3) := by decide +kernel
theorem dX9_init_96 : decode cX9_init 96 = .ok (.dup, 1) := by decide +kernel
theorem dX9_init_97 : decode cX9_init 97 = .ok (.invokespecial 63, 3) := by decide +kernel
theorem dX9_init_100 : decode cX9_init 100 = .ok (.putfield 64, 3) := by decide +kernel
theorem dX9_init_103 : decode cX9_init 103 = .ok (.return_, 1) := by decide +kernel
theorem dX9_sketch_0 : decode cX9_sketch 0 = .ok (.iload_n 1, 1) := by decide +kernel
theorem dX9_sketch_1 : decode cX9_sketch 1 = .ok (.iload_n 2, 1) := by decide +kernel
theorem dX9_sketch_2 : decode cX9_sketch 2 = .ok (.invokestatic 68, 3) := by decide +kernel
theorem dX9_sketch_5 : decode cX9_sketch 5 = .ok (.aload_n 0, 1) := by decide +kernel
theorem dX9_sketch_6 : decode cX9_sketch 6 = .ok (.getfield 10, 3) := by decide +kernel
theorem dX9_sketch_9 : decode cX9_sketch 9 = .ok (.iload_n 1, 1) := by decide +kernel
theorem dX9_sketch_10 : decode cX9_sketch 10 = .ok (.invokevirtual 72, 3) := by decide +kernel
theorem dX9_sketch_13 : decode cX9_sketch 13 = .ok (.ifCond .ne 13, 3) := by decide +kernel
theorem dX9_sketch_16 : decode cX9_sketch 16 = .ok (.new 76, 3) := by decide +kernel
theorem dX9_sketch_19 : decode cX9_sketch 19 = .ok (.dup, 1) := by decide +kernel
theorem dX9_sketch_20 : decode cX9_sketch 20 = .ok (.ldc 78, 2) := by decide +kernel
theorem dX9_sketch_22 : decode cX9_sketch 22 = .ok (.invokespecial 80, 3) := by decide +kernel
theorem dX9_sketch_25 : decode cX9_sketch 25 = .ok (.athrow, 1) := by decide +kernel
theorem dX9_sketch_26 : decode cX9_sketch 26 = .ok (.aload_n 0, 1) := by decide +kernel
theorem dX9_sketch_27 : decode cX9_sketch 27 = .ok (.getfield 10, 3) := by decide +kernel
theorem dX9_sketch_30 : decode cX9_sketch 30 = .ok (.iload_n 1, 1) := by decide +kernel
theorem dX9_sketch_31 : decode cX9_sketch 31 = .ok (.iload_n 2, 1) := by decide +kernel
theorem dX9_sketch_32 : decode cX9_sketch 32 = .ok (.invokevirtual 83, 3) := by decide +kernel
theorem dX9_sketch_35 : decode cX9_sketch 35 = .ok (.aload_n 0, 1) := by decide +kernel
theorem dX9_sketch_36 : decode cX9_sketch 36 = .ok (.getfield 10, 3) := by decide +kernel
theorem dX9_sketch_39 : decode cX9_sketch 39 = .ok (.getfield 86, 3) := by decide +kernel
theorem dX9_sketch_42 : decode cX9_sketch 42 = .ok (.ireturn, 1) := by decide +kernel
theorem dX9_erase_0 : decode cX9_erase 0 = .ok (.aload_n 0, 1) := by decide +kernel
theorem dX9_erase_1 : decode cX9_erase 1 = .ok (.getfield 10, 3) := by decide +kernel
theorem dX9_erase_4 : decode cX9_erase 4 = .ok (.getfield 90, 3) := by decide +kernel
theorem dX9_erase_7 : decode cX9_erase 7 = .ok (.getfield 93, 3) := by decide +kernel
theorem dX9_erase_10 : decode cX9_erase 10 = .ok (.istore_n 1, 1) := by decide +kernel
theorem dX9_erase_11 : decode cX9_erase 11 = .ok (.aload_n 0, 1) := by decide +kernel
theorem dX9_erase_12 : decode cX9_erase 12 = .ok (.getfield 10, 3) := by decide +kernel
theorem dX9_erase_15 : decode cX9_erase 15 = .ok (.invokevirtual 96, 3) := by decide +kernel
theorem dX9_erase_18 : decode cX9_erase 18 = .ok (.iload_n 1, 1) := by decide +kernel
theorem dX9_erase_19 : decode cX9_erase 19 = .ok (.ireturn, 1) := by decide +kernel
theorem dX9_plant_0 : decode cX9_plant 0 = .ok (.aload_n 0, 1) := by decide +kernel
theorem dX9_plant_1 : decode cX9_plant 1 = .ok (.getfield 10, 3) := by decide +kernel
theorem dX9_plant_4 : decode cX9_plant 4 = .ok (.getfield 86, 3) := by decide +kernel
theorem dX9_plant_7 : decode cX9_plant 7 = .ok (.ifCond .ne 15, 3) := by decide +kernel
theorem dX9_plant_10 : decode cX9_plant 10 = .ok (.aload_n 0, 1) := by decide +kernel
theorem dX9_plant_11 : decode cX9_plant 11 = .ok (.getfield 54, 3) := by decide +kernel
theorem dX9_plant_14 : decode cX9_plant 14 = .ok (.getfield 99, 3) := by decide +kernel
theorem dX9_plant_17 : decode cX9_plant 17 = .ok (.bipush 16, 2) := by decide +kernel
theorem dX9_plant_19 : decode cX9_plant 19 = .ok (.if_icmp .lt 13, 3) := by decide +kernel
theorem dX9_plant_22 : decode cX9_plant 22 = .ok (.new 76, 3) := by decide +kernel
theorem dX9_plant_25 : decode cX9_plant 25 = .ok (.dup, 1) := by decide +kernel
theorem dX9_plant_26 : decode cX9_plant 26 = .ok (.ldc 102, 2) := by decide +kernel
theorem dX9_plant_28 : decode cX9_plant 28 = .ok (.invokespecial 80, 3) := by decide +kernel
theorem dX9_plant_31 : decode cX9_plant 31 = .ok (.athrow, 1) := by decide +kernel
theorem dX9_plant_32 : decode cX9_plant 32 = .ok (.aload_n 0, 1) := by decide +kernel
theorem dX9_plant_33 : decode cX9_plant 33 = .ok (.getfield 54, 3) := by decide +kernel
theorem dX9_plant_36 : decode cX9_plant 36 = .ok (.getfield 99, 3) := by decide +kernel
theorem dX9_plant_39 : decode cX9_plant 39 = .ok (.istore_n 1, 1) := by decide +kernel
theorem dX9_plant_40 : decode cX9_plant 40 = .ok (.aload_n 0, 1) := by decide +kernel
theorem dX9_plant_41 : decode cX9_plant 41 = .ok (.getfield 54, 3) := by decide +kernel
theorem dX9_plant_44 : decode cX9_plant 44 = .ok (.aload_n 0, 1) := by decide +kernel
theorem dX9_plant_45 : decode cX9_plant 45 = .ok (.getfield 10, 3) := by decide +kernel
theorem dX9_plant_48 : decode cX9_plant 48 = .ok (.getfield 90, 3) := by decide +kernel
theorem dX9_plant_51 : decode cX9_plant 51 = .ok (.invokevirtual 104, 3) := by decide +kernel
theorem dX9_plant_54 : decode cX9_plant 54 = .ok (.aload_n 0, 1) := by decide +kernel
theorem dX9_plant_55 : decode cX9_plant 55 = .ok (.getfield 10, 3) := by decide +kernel
theorem dX9_plant_58 : decode cX9_plant 58 = .ok (.invokevirtual 96, 3) := by decide +kernel
theorem dX9_plant_61 : decode cX9_plant 61 = .ok (.iload_n 1, 1) := by decide +kernel
theorem dX9_plant_62 : decode cX9_plant 62 = .ok (.ireturn, 1) := by decide +kernel
theorem dX9_fell_0 : decode cX9_fell 0 = .ok (.aload_n 0, 1) := by decide +kernel
theorem dX9_fell_1 : decode cX9_fell 1 = .ok (.iload_n 1, 1) := by decide +kernel
theorem dX9_fell_2 : decode cX9_fell 2 = .ok (.invokevirtual 108, 3) := by decide +kernel
theorem dX9_fell_5 : decode cX9_fell 5 = .ok (.getfield 93, 3) := by decide +kernel
theorem dX9_fell_8 : decode cX9_fell 8 = .ok (.istore_n 2, 1) := by decide +kernel
theorem dX9_fell_9 : decode cX9_fell 9 = .ok (.aload_n 0, 1) := by decide +kernel
theorem dX9_fell_10 : decode cX9_fell 10 = .ok (.getfield 54, 3) := by decide +kernel
theorem dX9_fell_13 : decode cX9_fell 13 = .ok (.iload_n 1, 1) := by decide +kernel
theorem dX9_fell_14 : decode cX9_fell 14 = .ok (.invokevirtual 112, 3) := by decide +kernel
theorem dX9_fell_17 : decode cX9_fell 17 = .ok (.iload_n 2, 1) := by decide +kernel
theorem dX9_fell_18 : decode cX9_fell 18 = .ok (.ireturn, 1) := by decide +kernel
theorem dX9_addCase_0 : decode cX9_addCase 0 = .ok (.iload_n 1, 1) := by decide +kernel
theorem dX9_addCase_1 : decode cX9_addCase 1 = .ok (.iload_n 2, 1) := by decide +kernel
theorem dX9_addCase_2 : decode cX9_addCase 2 = .ok (.iload_n 3, 1) := by decide +kernel
theorem dX9_addCase_3 : decode cX9_addCase 3 = .ok (.invokestatic 116, 3) := by decide +kernel
theorem dX9_addCase_6 : decode cX9_addCase 6 = .ok (.iload 4, 2) := by decide +kernel
theorem dX9_addCase_8 : decode cX9_addCase 8 = .ok (.sipush (-9999), 3) := by decide +kernel
theorem dX9_addCase_11 : decode cX9_addCase 11 = .ok (.if_icmp .lt 11, 3) := by decide +kernel
theorem dX9_addCase_14 : decode cX9_addCase 14 = .ok (.iload 4, 2) := by decide +kernel
theorem dX9_addCase_16 : decode cX9_addCase 16 = .ok (.sipush 9999, 3) := by decide +kernel
theorem dX9_addCase_19 : decode cX9_addCase 19 = .ok (.if_icmp .le 13, 3) := by decide +kernel
theorem dX9_addCase_22 : decode cX9_addCase 22 = .ok (.new 120, 3) := by decide +kernel
theorem dX9_addCase_25 : decode cX9_addCase 25 = .ok (.dup, 1) := by decide +kernel
theorem dX9_addCase_26 : decode cX9_addCase 26 = .ok (.ldc 122, 2) := by decide +kernel
theorem dX9_addCase_28 : decode cX9_addCase 28 = .ok (.invokespecial 124, 3) := by decide +kernel
theorem dX9_addCase_31 : decode cX9_addCase 31 = .ok (.athrow, 1) := by decide +kernel
theorem dX9_addCase_32 : decode cX9_addCase 32 = .ok (.aload_n 0, 1) := by decide +kernel
theorem dX9_addCase_33 : decode cX9_addCase 33 = .ok (.getfield 19, 3) := by decide +kernel
theorem dX9_addCase_36 : decode cX9_addCase 36 = .ok (.getfield 125, 3) := by decide +kernel
theorem dX9_addCase_39 : decode cX9_addCase 39 = .ok (.bipush 12, 2) := by decide +kernel
theorem dX9_addCase_41 : decode cX9_addCase 41 = .ok (.if_icmp .lt 13, 3) := by decide +kernel
theorem dX9_addCase_44 : decode cX9_addCase 44 = .ok (.new 76, 3) := by decide +kernel
theorem dX9_addCase_47 : decode cX9_addCase 47 = .ok (.dup, 1) := by decide +kernel
theorem dX9_addCase_48 : decode cX9_addCase 48 = .ok (.ldc 128, 2) := by decide +kernel
theorem dX9_addCase_50 : decode cX9_addCase 50 = .ok (.invokespecial 80, 3) := by decide +kernel
theorem dX9_addCase_53 : decode cX9_addCase 53 = .ok (.athrow, 1) := by decide +kernel
theorem dX9_addCase_54 : decode cX9_addCase 54 = .ok (.aload_n 0, 1) := by decide +kernel
theorem dX9_addCase_55 : decode cX9_addCase 55 = .ok (.getfield 19, 3) := by decide +kernel
theorem dX9_addCase_58 : decode cX9_addCase 58 = .ok (.getfield 125, 3) := by decide +kernel
theorem dX9_addCase_61 : decode cX9_addCase 61 = .ok (.istore 5, 2) := by decide +kernel
theorem dX9_addCase_63 : decode cX9_addCase 63 = .ok (.aload_n 0, 1) := by decide +kernel
theorem dX9_addCase_64 : decode cX9_addCase 64 = .ok (.getfield 19, 3) := by decide +kernel
theorem dX9_addCase_67 : decode cX9_addCase 67 = .ok (.iload_n 1, 1) := by decide +kernel
theorem dX9_addCase_68 : decode cX9_addCase 68 = .ok (.iload_n 2, 1) := by decide +kernel
theorem dX9_addCase_69 : decode cX9_addCase 69 = .ok (.iload_n 3, 1) := by decide +kernel
theorem dX9_addCase_70 : decode cX9_addCase 70 = .ok (.iload 4, 2) := by decide +kernel
theorem dX9_addCase_72 : decode cX9_addCase 72 = .ok (.invokevirtual 130, 3) := by decide +kernel
theorem dX9_addCase_75 : decode cX9_addCase 75 = .ok (.iload 5, 2) := by decide +kernel
theorem dX9_addCase_77 : decode cX9_addCase 77 = .ok (.ireturn, 1) := by decide +kernel
theorem dX9_setWay_0 : decode cX9_setWay 0 = .ok (.iload_n 1, 1) := by decide +kernel
theorem dX9_setWay_1 : decode cX9_setWay 1 = .ok (.ifCond .lt 18, 3) := by decide +kernel
theorem dX9_setWay_4 : decode cX9_setWay 4 = .ok (.iload_n 1, 1) := by decide +kernel
theorem dX9_setWay_5 : decode cX9_setWay 5 = .ok (.iconst 2, 1) := by decide +kernel
theorem dX9_setWay_6 : decode cX9_setWay 6 = .ok (.if_icmp .gt 13, 3) := by decide +kernel
theorem dX9_setWay_9 : decode cX9_setWay 9 = .ok (.iload_n 2, 1) := by decide +kernel
theorem dX9_setWay_10 : decode cX9_setWay 10 = .ok (.ifCond .lt 9, 3) := by decide +kernel
theorem dX9_setWay_13 : decode cX9_setWay 13 = .ok (.iload_n 2, 1) := by decide +kernel
theorem dX9_setWay_14 : decode cX9_setWay 14 = .ok (.bipush 99, 2) := by decide +kernel
theorem dX9_setWay_16 : decode cX9_setWay 16 = .ok (.if_icmp .le 13, 3) := by decide +kernel
theorem dX9_setWay_19 : decode cX9_setWay 19 = .ok (.new 120, 3) := by decide +kernel
theorem dX9_setWay_22 : decode cX9_setWay 22 = .ok (.dup, 1) := by decide +kernel
theorem dX9_setWay_23 : decode cX9_setWay 23 = .ok (.ldc 133, 2) := by decide +kernel
theorem dX9_setWay_25 : decode cX9_setWay 25 = .ok (.invokespecial 124, 3) := by decide +kernel
theorem dX9_setWay_28 : decode cX9_setWay 28 = .ok (.athrow, 1) := by decide +kernel
theorem dX9_setWay_29 : decode cX9_setWay 29 = .ok (.aload_n 0, 1) := by decide +kernel
theorem dX9_setWay_30 : decode cX9_setWay 30 = .ok (.getfield 19, 3) := by decide +kernel
theorem dX9_setWay_33 : decode cX9_setWay 33 = .ok (.getfield 135, 3) := by decide +kernel
theorem dX9_setWay_36 : decode cX9_setWay 36 = .ok (.istore_n 3, 1) := by decide +kernel
theorem dX9_setWay_37 : decode cX9_setWay 37 = .ok (.aload_n 0, 1) := by decide +kernel
theorem dX9_setWay_38 : decode cX9_setWay 38 = .ok (.getfield 19, 3) := by decide +kernel
theorem dX9_setWay_41 : decode cX9_setWay 41 = .ok (.iload_n 1, 1) := by decide +kernel
theorem dX9_setWay_42 : decode cX9_setWay 42 = .ok (.putfield 135, 3) := by decide +kernel
theorem dX9_setWay_45 : decode cX9_setWay 45 = .ok (.aload_n 0, 1) := by decide +kernel
theorem dX9_setWay_46 : decode cX9_setWay 46 = .ok (.getfield 19, 3) := by decide +kernel
theorem dX9_setWay_49 : decode cX9_setWay 49 = .ok (.iload_n 2, 1) := by decide +kernel
theorem dX9_setWay_50 : decode cX9_setWay 50 = .ok (.putfield 138, 3) := by decide +kernel
theorem dX9_setWay_53 : decode cX9_setWay 53 = .ok (.iload_n 3, 1) := by decide +kernel
theorem dX9_setWay_54 : decode cX9_setWay 54 = .ok (.ireturn, 1) := by decide +kernel
theorem dX9_cross_0 : decode cX9_cross 0 = .ok (.aload_n 0, 1) := by decide +kernel
theorem dX9_cross_1 : decode cX9_cross 1 = .ok (.iload_n 1, 1) := by decide +kernel
theorem dX9_cross_2 : decode cX9_cross 2 = .ok (.iload_n 2, 1) := by decide +kernel
theorem dX9_cross_3 : decode cX9_cross 3 = .ok (.invokevirtual 141, 3) := by decide +kernel
theorem dX9_cross_6 : decode cX9_cross 6 = .ok (.astore 5, 2) := by decide +kernel
theorem dX9_cross_8 : decode cX9_cross 8 = .ok (.aload_n 0, 1) := by decide +kernel
theorem dX9_cross_9 : decode cX9_cross 9 = .ok (.iload_n 3, 1) := by decide +kernel
theorem dX9_cross_10 : decode cX9_cross 10 = .ok (.iload 4, 2) := by decide +kernel
theorem dX9_cross_12 : decode cX9_cross 12 = .ok (.invokevirtual 141, 3) := by decide +kernel
theorem dX9_cross_15 : decode cX9_cross 15 = .ok (.astore 6, 2) := by decide +kernel
theorem dX9_cross_17 : decode cX9_cross 17 = .ok (.aload_n 0, 1) := by decide +kernel
theorem dX9_cross_18 : decode cX9_cross 18 = .ok (.getfield 64, 3) := by decide +kernel
theorem dX9_cross_21 : decode cX9_cross 21 = .ok (.aload 5, 2) := by decide +kernel
theorem dX9_cross_23 : decode cX9_cross 23 = .ok (.iload_n 2, 1) := by decide +kernel
theorem dX9_cross_24 : decode cX9_cross 24 = .ok (.aload 6, 2) := by decide +kernel
theorem dX9_cross_26 : decode cX9_cross 26 = .ok (.iload 4, 2) := by decide +kernel
theorem dX9_cross_28 : decode cX9_cross 28 = .ok (.invokevirtual 145, 3) := by decide +kernel
theorem dX9_cross_31 : decode cX9_cross 31 = .ok (.ifCond .ne 5, 3) := by decide +kernel
theorem dX9_cross_34 : decode cX9_cross 34 = .ok (.iconst (-1), 1) := by decide +kernel
theorem dX9_cross_35 : decode cX9_cross 35 = .ok (.ireturn, 1) := by decide +kernel
theorem dX9_cross_36 : decode cX9_cross 36 = .ok (.aload 5, 2) := by decide +kernel
theorem dX9_cross_38 : decode cX9_cross 38 = .ok (.aload_n 0, 1) := by decide +kernel
theorem dX9_cross_39 : decode cX9_cross 39 = .ok (.getfield 64, 3) := by decide +kernel
theorem dX9_cross_42 : decode cX9_cross 42 = .ok (.invokevirtual 149, 3) := by decide +kernel
theorem dX9_cross_45 : decode cX9_cross 45 = .ok (.aload 5, 2) := by decide +kernel
theorem dX9_cross_47 : decode cX9_cross 47 = .ok (.getfield 93, 3) := by decide +kernel
theorem dX9_cross_50 : decode cX9_cross 50 = .ok (.ireturn, 1) := by decide +kernel
theorem dX9_hoist_0 : decode cX9_hoist 0 = .ok (.aload_n 0, 1) := by decide +kernel
theorem dX9_hoist_1 : decode cX9_hoist 1 = .ok (.iload_n 1, 1) := by decide +kernel
theorem dX9_hoist_2 : decode cX9_hoist 2 = .ok (.iload_n 2, 1) := by decide +kernel
theorem dX9_hoist_3 : decode cX9_hoist 3 = .ok (.invokevirtual 141, 3) := by decide +kernel
theorem dX9_hoist_6 : decode cX9_hoist 6 = .ok (.astore_n 3, 1) := by decide +kernel
theorem dX9_hoist_7 : decode cX9_hoist 7 = .ok (.aload_n 3, 1) := by decide +kernel
theorem dX9_hoist_8 : decode cX9_hoist 8 = .ok (.iload_n 2, 1) := by decide +kernel
theorem dX9_hoist_9 : decode cX9_hoist 9 = .ok (.invokevirtual 152, 3) := by decide +kernel
theorem dX9_hoist_12 : decode cX9_hoist 12 = .ok (.ifCond .ne 5, 3) := by decide +kernel
theorem dX9_hoist_15 : decode cX9_hoist 15 = .ok (.iconst (-1), 1) := by decide +kernel
theorem dX9_hoist_16 : decode cX9_hoist 16 = .ok (.ireturn, 1) := by decide +kernel
theorem dX9_hoist_17 : decode cX9_hoist 17 = .ok (.aload_n 3, 1) := by decide +kernel
theorem dX9_hoist_18 : decode cX9_hoist 18 = .ok (.iconst 0, 1) := by decide +kernel
theorem dX9_hoist_19 : decode cX9_hoist 19 = .ok (.iload_n 2, 1) := by decide +kernel
theorem dX9_hoist_20 : decode cX9_hoist 20 = .ok (.invokevirtual 155, 3) := by decide +kernel
theorem dX9_hoist_23 : decode cX9_hoist 23 = .ok (.aload_n 3, 1) := by decide +kernel
theorem dX9_hoist_24 : decode cX9_hoist 24 = .ok (.getfield 93, 3) := by decide +kernel
theorem dX9_hoist_27 : decode cX9_hoist 27 = .ok (.ireturn, 1) := by decide +kernel
theorem dX9_recode_0 : decode cX9_recode 0 = .ok (.aload_n 0, 1) := by decide +kernel
theorem dX9_recode_1 : decode cX9_recode 1 = .ok (.iload_n 1, 1) := by decide +kernel
theorem dX9_recode_2 : decode cX9_recode 2 = .ok (.iload_n 2, 1) := by decide +kernel
theorem dX9_recode_3 : decode cX9_recode 3 = .ok (.invokevirtual 141, 3) := by decide +kernel
theorem dX9_recode_6 : decode cX9_recode 6 = .ok (.astore 5, 2) := by decide +kernel
theorem dX9_recode_8 : decode cX9_recode 8 = .ok (.iload_n 3, 1) := by decide +kernel
theorem dX9_recode_9 : decode cX9_recode 9 = .ok (.iload 4, 2) := by decide +kernel
theorem dX9_recode_11 : decode cX9_recode 11 = .ok (.invokestatic 68, 3) := by decide +kernel
theorem dX9_recode_14 : decode cX9_recode 14 = .ok (.aload 5, 2) := by decide +kernel
theorem dX9_recode_16 : decode cX9_recode 16 = .ok (.iload_n 2, 1) := by decide +kernel
theorem dX9_recode_17 : decode cX9_recode 17 = .ok (.invokevirtual 158, 3) := by decide +kernel
theorem dX9_recode_20 : decode cX9_recode 20 = .ok (.istore 6, 2) := by decide +kernel
theorem dX9_recode_22 : decode cX9_recode 22 = .ok (.getstatic 162, 3) := by decide +kernel
theorem dX9_recode_25 : decode cX9_recode 25 = .ok (.iload 6, 2) := by decide +kernel
theorem dX9_recode_27 : decode cX9_recode 27 = .ok (.invokestatic 166, 3) := by decide +kernel
theorem dX9_recode_30 : decode cX9_recode 30 = .ok (.getstatic 162, 3) := by decide +kernel
theorem dX9_recode_33 : decode cX9_recode 33 = .ok (.iload_n 3, 1) := by decide +kernel
theorem dX9_recode_34 : decode cX9_recode 34 = .ok (.invokestatic 166, 3) := by decide +kernel
theorem dX9_recode_37 : decode cX9_recode 37 = .ok (.if_icmp .eq 5, 3) := by decide +kernel
theorem dX9_recode_40 : decode cX9_recode 40 = .ok (.iconst (-1), 1) := by decide +kernel
theorem dX9_recode_41 : decode cX9_recode 41 = .ok (.ireturn, 1) := by decide +kernel
theorem dX9_recode_42 : decode cX9_recode 42 = .ok (.aload 5, 2) := by decide +kernel
theorem dX9_recode_44 : decode cX9_recode 44 = .ok (.iload_n 2, 1) := by decide +kernel
theorem dX9_recode_45 : decode cX9_recode 45 = .ok (.iload_n 3, 1) := by decide +kernel
theorem dX9_recode_46 : decode cX9_recode 46 = .ok (.iload 4, 2) := by decide +kernel
theorem dX9_recode_48 : decode cX9_recode 48 = .ok (.invokevirtual 170, 3) := by decide +kernel
theorem dX9_recode_51 : decode cX9_recode 51 = .ok (.iload 6, 2) := by decide +kernel
theorem dX9_recode_53 : decode cX9_recode 53 = .ok (.ireturn, 1) := by decide +kernel
theorem dX9_wither_0 : decode cX9_wither 0 = .ok (.aload_n 0, 1) := by decide +kernel
theorem dX9_wither_1 : decode cX9_wither 1 = .ok (.iload_n 1, 1) := by decide +kernel
theorem dX9_wither_2 : decode cX9_wither 2 = .ok (.iload_n 2, 1) := by decide +kernel
theorem dX9_wither_3 : decode cX9_wither 3 = .ok (.invokevirtual 141, 3) := by decide +kernel
theorem dX9_wither_6 : decode cX9_wither 6 = .ok (.astore 4, 2) := by decide +kernel
theorem dX9_wither_8 : decode cX9_wither 8 = .ok (.iload_n 3, 1) := by decide +kernel
theorem dX9_wither_9 : decode cX9_wither 9 = .ok (.bipush (-99), 2) := by decide +kernel
theorem dX9_wither_11 : decode cX9_wither 11 = .ok (.if_icmp .lt 9, 3) := by decide +kernel
theorem dX9_wither_14 : decode cX9_wither 14 = .ok (.iload_n 3, 1) := by decide +kernel
theorem dX9_wither_15 : decode cX9_wither 15 = .ok (.bipush 99, 2) := by decide +kernel
theorem dX9_wither_17 : decode cX9_wither 17 = .ok (.if_icmp .le 13, 3) := by decide +kernel
theorem dX9_wither_20 : decode cX9_wither 20 = .ok (.new 120, 3) := by decide +kernel
theorem dX9_wither_23 : decode cX9_wither 23 = .ok (.dup, 1) := by decide +kernel
theorem dX9_wither_24 : decode cX9_wither 24 = .ok (.ldc 173, 2) := by decide +kernel
theorem dX9_wither_26 : decode cX9_wither 26 = .ok (.invokespecial 124, 3) := by decide +kernel
theorem dX9_wither_29 : decode cX9_wither 29 = .ok (.athrow, 1) := by decide +kernel
theorem dX9_wither_30 : decode cX9_wither 30 = .ok (.aload 4, 2) := by decide +kernel
theorem dX9_wither_32 : decode cX9_wither 32 = .ok (.iload_n 2, 1) := by decide +kernel
theorem dX9_wither_33 : decode cX9_wither 33 = .ok (.invokevirtual 152, 3) := by decide +kernel
theorem dX9_wither_36 : decode cX9_wither 36 = .ok (.ifCond .ne 5, 3) := by decide +kernel
theorem dX9_wither_39 : decode cX9_wither 39 = .ok (.iconst (-1), 1) := by decide +kernel
theorem dX9_wither_40 : decode cX9_wither 40 = .ok (.ireturn, 1) := by decide +kernel
theorem dX9_wither_41 : decode cX9_wither 41 = .ok (.aload 4, 2) := by decide +kernel
theorem dX9_wither_43 : decode cX9_wither 43 = .ok (.iload_n 2, 1) := by decide +kernel
theorem dX9_wither_44 : decode cX9_wither 44 = .ok (.iload_n 3, 1) := by decide +kernel
theorem dX9_wither_45 : decode cX9_wither 45 = .ok (.invokevirtual 175, 3) := by decide +kernel
theorem dX9_wither_48 : decode cX9_wither 48 = .ok (.aload 4, 2) := by decide +kernel
theorem dX9_wither_50 : decode cX9_wither 50 = .ok (.getfield 93, 3) := by decide +kernel
theorem dX9_wither_53 : decode cX9_wither 53 = .ok (.ireturn, 1) := by decide +kernel
theorem dX9_simplify_0 : decode cX9_simplify 0 = .ok (.aload_n 0, 1) := by decide +kernel
theorem dX9_simplify_1 : decode cX9_simplify 1 = .ok (.iload_n 1, 1) := by decide +kernel
theorem dX9_simplify_2 : decode cX9_simplify 2 = .ok (.invokevirtual 108, 3) := by decide +kernel
theorem dX9_simplify_5 : decode cX9_simplify 5 = .ok (.astore_n 2, 1) := by decide +kernel
theorem dX9_simplify_6 : decode cX9_simplify 6 = .ok (.aload_n 2, 1) := by decide +kernel
theorem dX9_simplify_7 : decode cX9_simplify 7 = .ok (.getfield 93, 3) := by decide +kernel
theorem dX9_simplify_10 : decode cX9_simplify 10 = .ok (.istore_n 3, 1) := by decide +kernel
theorem dX9_simplify_11 : decode cX9_simplify 11 = .ok (.aload_n 0, 1) := by decide +kernel
theorem dX9_simplify_12 : decode cX9_simplify 12 = .ok (.getfield 40, 3) := by decide +kernel
theorem dX9_simplify_15 : decode cX9_simplify 15 = .ok (.aload_n 2, 1) := by decide +kernel
theorem dX9_simplify_16 : decode cX9_simplify 16 = .ok (.invokevirtual 178, 3) := by decide +kernel
theorem dX9_simplify_19 : decode cX9_simplify 19 = .ok (.iload_n 3, 1) := by decide +kernel
theorem dX9_simplify_20 : decode cX9_simplify 20 = .ok (.aload_n 2, 1) := by decide +kernel
theorem dX9_simplify_21 : decode cX9_simplify 21 = .ok (.getfield 93, 3) := by decide +kernel
theorem dX9_simplify_24 : decode cX9_simplify 24 = .ok (.isub, 1) := by decide +kernel
theorem dX9_simplify_25 : decode cX9_simplify 25 = .ok (.ireturn, 1) := by decide +kernel
theorem dX9_setRates_0 : decode cX9_setRates 0 = .ok (.iload_n 1, 1) := by decide +kernel
theorem dX9_setRates_1 : decode cX9_setRates 1 = .ok (.invokestatic 181, 3) := by decide +kernel
theorem dX9_setRates_4 : decode cX9_setRates 4 = .ok (.ifCond .eq 27, 3) := by decide +kernel
theorem dX9_setRates_7 : decode cX9_setRates 7 = .ok (.iload_n 2, 1) := by decide +kernel
theorem dX9_setRates_8 : decode cX9_setRates 8 = .ok (.invokestatic 181, 3) := by decide +kernel
theorem dX9_setRates_11 : decode cX9_setRates 11 = .ok (.ifCond .eq 20, 3) := by decide +kernel
theorem dX9_setRates_14 : decode cX9_setRates 14 = .ok (.iload_n 3, 1) := by decide +kernel
theorem dX9_setRates_15 : decode cX9_setRates 15 = .ok (.invokestatic 181, 3) := by decide +kernel
theorem dX9_setRates_18 : decode cX9_setRates 18 = .ok (.ifCond .eq 13, 3) := by decide +kernel
theorem dX9_setRates_21 : decode cX9_setRates 21 = .ok (.iload_n 1, 1) := by decide +kernel
theorem dX9_setRates_22 : decode cX9_setRates 22 = .ok (.iload_n 2, 1) := by decide +kernel
theorem dX9_setRates_23 : decode cX9_setRates 23 = .ok (.iadd, 1) := by decide +kernel
theorem dX9_setRates_24 : decode cX9_setRates 24 = .ok (.iload_n 3, 1) := by decide +kernel
theorem dX9_setRates_25 : decode cX9_setRates 25 = .ok (.iadd, 1) := by decide +kernel
theorem dX9_setRates_26 : decode cX9_setRates 26 = .ok (.bipush 100, 2) := by decide +kernel
theorem dX9_setRates_28 : decode cX9_setRates 28 = .ok (.if_icmp .le 13, 3) := by decide +kernel
theorem dX9_setRates_31 : decode cX9_setRates 31 = .ok (.new 120, 3) := by decide +kernel
theorem dX9_setRates_34 : decode cX9_setRates 34 = .ok (.dup, 1) := by decide +kernel
theorem dX9_setRates_35 : decode cX9_setRates 35 = .ok (.ldc 184, 2) := by decide +kernel
theorem dX9_setRates_37 : decode cX9_setRates 37 = .ok (.invokespecial 124, 3) := by decide +kernel
theorem dX9_setRates_40 : decode cX9_setRates 40 = .ok (.athrow, 1) := by decide +kernel
theorem dX9_setRates_41 : decode cX9_setRates 41 = .ok (.aload_n 0, 1) := by decide +kernel
theorem dX9_setRates_42 : decode cX9_setRates 42 = .ok (.getfield 33, 3) := by decide +kernel
theorem dX9_setRates_45 : decode cX9_setRates 45 = .ok (.getfield 186, 3) := by decide +kernel
theorem dX9_setRates_48 : decode cX9_setRates 48 = .ok (.istore 4, 2) := by decide +kernel
theorem dX9_setRates_50 : decode cX9_setRates 50 = .ok (.aload_n 0, 1) := by decide +kernel
theorem dX9_setRates_51 : decode cX9_setRates 51 = .ok (.getfield 33, 3) := by decide +kernel
theorem dX9_setRates_54 : decode cX9_setRates 54 = .ok (.iload_n 1, 1) := by decide +kernel
theorem dX9_setRates_55 : decode cX9_setRates 55 = .ok (.putfield 186, 3) := by decide +kernel
theorem dX9_setRates_58 : decode cX9_setRates 58 = .ok (.aload_n 0, 1) := by decide +kernel
theorem dX9_setRates_59 : decode cX9_setRates 59 = .ok (.getfield 33, 3) := by decide +kernel
theorem dX9_setRates_62 : decode cX9_setRates 62 = .ok (.iload_n 2, 1) := by decide +kernel
theorem dX9_setRates_63 : decode cX9_setRates 63 = .ok (.putfield 189, 3) := by decide +kernel
theorem dX9_setRates_66 : decode cX9_setRates 66 = .ok (.aload_n 0, 1) := by decide +kernel
theorem dX9_setRates_67 : decode cX9_setRates 67 = .ok (.getfield 33, 3) := by decide +kernel
theorem dX9_setRates_70 : decode cX9_setRates 70 = .ok (.iload_n 3, 1) := by decide +kernel
theorem dX9_setRates_71 : decode cX9_setRates 71 = .ok (.putfield 192, 3) := by decide +kernel
theorem dX9_setRates_74 : decode cX9_setRates 74 = .ok (.iload 4, 2) := by decide +kernel
theorem dX9_setRates_76 : decode cX9_setRates 76 = .ok (.ireturn, 1) := by decide +kernel
theorem dX9_setChoosing_0 : decode cX9_setChoosing 0 = .ok (.iload_n 1, 1) := by decide +kernel
theorem dX9_setChoosing_1 : decode cX9_setChoosing 1 = .ok (.iconst 1, 1) := by decide +kernel
theorem dX9_setChoosing_2 : decode cX9_setChoosing 2 = .ok (.if_icmp .lt 17, 3) := by decide +kernel
theorem dX9_setChoosing_5 : decode cX9_setChoosing 5 = .ok (.iload_n 1, 1) := by decide +kernel
theorem dX9_setChoosing_6 : decode cX9_setChoosing 6 = .ok (.iconst 5, 1) := by decide +kernel
theorem dX9_setChoosing_7 : decode cX9_setChoosing 7 = .ok (.if_icmp .gt 12, 3) := by decide +kernel
theorem dX9_setChoosing_10 : decode cX9_setChoosing 10 = .ok (.iload_n 2, 1) := by decide +kernel
theorem dX9_setChoosing_11 : decode cX9_setChoosing 11 = .ok (.ifCond .lt 8, 3) := by decide +kernel
theorem dX9_setChoosing_14 : decode cX9_setChoosing 14 = .ok (.iload_n 2, 1) := by decide +kernel
theorem dX9_setChoosing_15 : decode cX9_setChoosing 15 = .ok (.iconst 4, 1) := by decide +kernel
theorem dX9_setChoosing_16 : decode cX9_setChoosing 16 = .ok (.if_icmp .le 13, 3) := by decide +kernel
theorem dX9_setChoosing_19 : decode cX9_setChoosing 19 = .ok (.new 120, 3) := by decide +kernel
theorem dX9_setChoosing_22 : decode cX9_setChoosing 22 = .ok (.dup, 1) := by decide +kernel
theorem dX9_setChoosing_23 : decode cX9_setChoosing 23 = .ok (.ldc 195, 2) := by decide +kernel
theorem dX9_setChoosing_25 : decode cX9_setChoosing 25 = .ok (.invokespecial 124, 3) := by decide +kernel
theorem dX9_setChoosing_28 : decode cX9_setChoosing 28 = .ok (.athrow, 1) := by decide +kernel
theorem dX9_setChoosing_29 : decode cX9_setChoosing 29 = .ok (.aload_n 0, 1) := by decide +kernel
theorem dX9_setChoosing_30 : decode cX9_setChoosing 30 = .ok (.getfield 33, 3) := by decide +kernel
theorem dX9_setChoosing_33 : decode cX9_setChoosing 33 = .ok (.getfield 197, 3) := by decide +kernel
theorem dX9_setChoosing_36 : decode cX9_setChoosing 36 = .ok (.istore_n 3, 1) := by decide +kernel
theorem dX9_setChoosing_37 : decode cX9_setChoosing 37 = .ok (.aload_n 0, 1) := by decide +kernel
theorem dX9_setChoosing_38 : decode cX9_setChoosing 38 = .ok (.getfield 33, 3) := by decide +kernel
theorem dX9_setChoosing_41 : decode cX9_setChoosing 41 = .ok (.iload_n 1, 1) := by decide +kernel
theorem dX9_setChoosing_42 : decode cX9_setChoosing 42 = .ok (.putfield 197, 3) := by decide +kernel
theorem dX9_setChoosing_45 : decode cX9_setChoosing 45 = .ok (.aload_n 0, 1) := by decide +kernel
theorem dX9_setChoosing_46 : decode cX9_setChoosing 46 = .ok (.getfield 33, 3) := by decide +kernel
theorem dX9_setChoosing_49 : decode cX9_setChoosing 49 = .ok (.iload_n 2, 1) := by decide +kernel
theorem dX9_setChoosing_50 : decode cX9_setChoosing 50 = .ok (.putfield 200, 3) := by decide +kernel
theorem dX9_setChoosing_53 : decode cX9_setChoosing 53 = .ok (.iload_n 3, 1) := by decide +kernel
theorem dX9_setChoosing_54 : decode cX9_setChoosing 54 = .ok (.ireturn, 1) := by decide +kernel
theorem dX9_setLuck_0 : decode cX9_setLuck 0 = .ok (.iload_n 1, 1) := by decide +kernel
theorem dX9_setLuck_1 : decode cX9_setLuck 1 = .ok (.ifCond .lt 10, 3) := by decide +kernel
theorem dX9_setLuck_4 : decode cX9_setLuck 4 = .ok (.iload_n 1, 1) := by decide +kernel
theorem dX9_setLuck_5 : decode cX9_setLuck 5 = .ok (.sipush 10000, 3) := by decide +kernel
theorem dX9_setLuck_8 : decode cX9_setLuck 8 = .ok (.if_icmp .lt 13, 3) := by decide +kernel
theorem dX9_setLuck_11 : decode cX9_setLuck 11 = .ok (.new 120, 3) := by decide +kernel
theorem dX9_setLuck_14 : decode cX9_setLuck 14 = .ok (.dup, 1) := by decide +kernel
theorem dX9_setLuck_15 : decode cX9_setLuck 15 = .ok (.ldc 203, 2) := by decide +kernel
theorem dX9_setLuck_17 : decode cX9_setLuck 17 = .ok (.invokespecial 124, 3) := by decide +kernel
theorem dX9_setLuck_20 : decode cX9_setLuck 20 = .ok (.athrow, 1) := by decide +kernel
theorem dX9_setLuck_21 : decode cX9_setLuck 21 = .ok (.aload_n 0, 1) := by decide +kernel
theorem dX9_setLuck_22 : decode cX9_setLuck 22 = .ok (.getfield 54, 3) := by decide +kernel
theorem dX9_setLuck_25 : decode cX9_setLuck 25 = .ok (.getfield 205, 3) := by decide +kernel
theorem dX9_setLuck_28 : decode cX9_setLuck 28 = .ok (.getfield 209, 3) := by decide +kernel
theorem dX9_setLuck_31 : decode cX9_setLuck 31 = .ok (.istore_n 2, 1) := by decide +kernel
theorem dX9_setLuck_32 : decode cX9_setLuck 32 = .ok (.aload_n 0, 1) := by decide +kernel
theorem dX9_setLuck_33 : decode cX9_setLuck 33 = .ok (.getfield 54, 3) := by decide +kernel
theorem dX9_setLuck_36 : decode cX9_setLuck 36 = .ok (.getfield 205, 3) := by decide +kernel
theorem dX9_setLuck_39 : decode cX9_setLuck 39 = .ok (.iload_n 1, 1) := by decide +kernel
theorem dX9_setLuck_40 : decode cX9_setLuck 40 = .ok (.putfield 209, 3) := by decide +kernel
theorem dX9_setLuck_43 : decode cX9_setLuck 43 = .ok (.iload_n 2, 1) := by decide +kernel
theorem dX9_setLuck_44 : decode cX9_setLuck 44 = .ok (.ireturn, 1) := by decide +kernel
theorem dX9_tell_0 : decode cX9_tell 0 = .ok (.iload_n 1, 1) := by decide +kernel
theorem dX9_tell_1 : decode cX9_tell 1 = .ok (.ifCond .ge 13, 3) := by decide +kernel
theorem dX9_tell_4 : decode cX9_tell 4 = .ok (.new 120, 3) := by decide +kernel
theorem dX9_tell_7 : decode cX9_tell 7 = .ok (.dup, 1) := by decide +kernel
