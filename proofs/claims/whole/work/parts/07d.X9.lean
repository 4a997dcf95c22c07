theorem dX9_init_0 : decode cX9_init 0 = .ok (.aload_n 0, 1) := by decide +kernel
theorem dX9_init_1 : decode cX9_init 1 = .ok (.invokespecial 1, 3) := by decide +kernel
theorem dX9_init_4 : decode cX9_init 4 = .ok (.aload_n 0, 1) := by decide +kernel
theorem dX9_init_5 : decode cX9_init 5 = .ok (.new 7, 3) := by decide +kernel
theorem dX9_init_8 : decode cX9_init 8 = .ok (.dup, 1) := by decide +kernel
theorem dX9_init_9 : decode cX9_init 9 = .ok (.invokespecial 9, 3) := by decide +kernel
theorem dX9_init_12 : decode cX9_init 12 = .ok (.putfield 10, 3) := by decide +kernel
theorem dX9_init_15 : decode cX9_init 15 = .ok (.aload_n 0, 1) := by decide +kernel
theorem dX9_init_16 : decode cX9_init 16 = .ok (.new 16, 3) := by decide +kernel
theorem dX9_init_19 : decode cX9_init 19 = .ok (.dup, 1) := by decide +kernel
theorem dX9_init_20 : decode cX9_init 20 = .ok (.invokespecial 18, 3) := by decide +kernel
theorem dX9_init_23 : decode cX9_init 23 = .ok (.putfield 19, 3) := by decide +kernel
theorem dX9_init_26 : decode cX9_init 26 = .ok (.aload_n 0, 1) := by decide +kernel
theorem dX9_init_27 : decode cX9_init 27 = .ok (.new 23, 3) := by decide +kernel
theorem dX9_init_30 : decode cX9_init 30 = .ok (.dup, 1) := by decide +kernel
theorem dX9_init_31 : decode cX9_init 31 = .ok (.invokespecial 25, 3) := by decide +kernel
theorem dX9_init_34 : decode cX9_init 34 = .ok (.putfield 26, 3) := by decide +kernel
theorem dX9_init_37 : decode cX9_init 37 = .ok (.aload_n 0, 1) := by decide +kernel
theorem dX9_init_38 : decode cX9_init 38 = .ok (.new 30, 3) := by decide +kernel
theorem dX9_init_41 : decode cX9_init 41 = .ok (.dup, 1) := by decide +kernel
theorem dX9_init_42 : decode cX9_init 42 = .ok (.invokespecial 32, 3) := by decide +kernel
theorem dX9_init_45 : decode cX9_init 45 = .ok (.putfield 33, 3) := by decide +kernel
theorem dX9_init_48 : decode cX9_init 48 = .ok (.aload_n 0, 1) := by decide +kernel
theorem dX9_init_49 : decode cX9_init 49 = .ok (.new 37, 3) := by decide +kernel
theorem dX9_init_52 : decode cX9_init 52 = .ok (.dup, 1) := by decide +kernel
theorem dX9_init_53 : decode cX9_init 53 = .ok (.invokespecial 39, 3) := by decide +kernel
theorem dX9_init_56 : decode cX9_init 56 = .ok (.putfield 40, 3) := by decide +kernel
theorem dX9_init_59 : decode cX9_init 59 = .ok (.aload_n 0, 1) := by decide +kernel
theorem dX9_init_60 : decode cX9_init 60 = .ok (.new 44, 3) := by decide +kernel
theorem dX9_init_63 : decode cX9_init 63 = .ok (.dup, 1) := by decide +kernel
theorem dX9_init_64 : decode cX9_init 64 = .ok (.invokespecial 46, 3) := by decide +kernel
theorem dX9_init_67 : decode cX9_init 67 = .ok (.putfield 47, 3) := by decide +kernel
theorem dX9_init_70 : decode cX9_init 70 = .ok (.aload_n 0, 1) := by decide +kernel
theorem dX9_init_71 : decode cX9_init 71 = .ok (.new 51, 3) := by decide +kernel
theorem dX9_init_74 : decode cX9_init 74 = .ok (.dup, 1) := by decide +kernel
theorem dX9_init_75 : decode cX9_init 75 = .ok (.invokespecial 53, 3) := by decide +kernel
theorem dX9_init_78 : decode cX9_init 78 = .ok (.putfield 54, 3) := by decide +kernel
theorem dX9_init_81 : decode cX9_init 81 = .ok (.aload_n 0, 1) := by decide +kernel
theorem dX9_init_82 : decode cX9_init 82 = .ok (.new 51, 3) := by decide +kernel
theorem dX9_init_85 : decode cX9_init 85 = .ok (.dup, 1) := by decide +kernel
theorem dX9_init_86 : decode cX9_init 86 = .ok (.invokespecial 53, 3) := by decide +kernel
theorem dX9_init_89 : decode cX9_init 89 = .ok (.putfield 58, 3) := by decide +kernel
theorem dX9_init_92 : decode cX9_init 92 = .ok (.aload_n 0, 1) := by decide +kernel
theorem dX9_init_93 : decode cX9_init 93 = .ok (.new 61, 3) := by decide +kernel
theorem dX9_init_96 : decode cX9_init 96 = .ok (.dup, 1) := by decide +kernel
theorem dX9_init_97 : decode cX9_init 97 = .ok (.invokespecial 63, 3) := by decide +kernel
theorem dX9_init_100 : decode cX9_init 100 = .ok (.putfield 64, 3) := by decide +kernel
theorem dX9_init_103 : decode cX9_init 103 = .ok (.return_, 1) := by decide +kernel
theorem dX9_sketch_0 : decode cX9_sketch 0 = .ok (.iload_n 1, 1) := by decide +kernel
theorem dX9_sketch_1 : decode cX9_sketch 1 = .ok (.iload_n 2, 1) := by decide +kernel
theorem dX9_sketch_2 : decode cX9_sketch 2 = .ok (.invokestatic 68, 3) := by decide +kernel
theorem dX9_sketch_5 : decode cX9_sketch 5 = .ok (.aload_n 0, 1) := by decide +kernel
theorem dX9_sketch_6 : decode cX9_sketch 6 = .ok (.getfield 10, 3) := by decide +kernel
theorem dX9_sketch_9 : decode cX9_sketch 9 = .ok (.iload_n 1, 1) := by decide +kernel
theorem dX9_sketch_10 : decode cX9_sketch 10 = .ok (.invokevirtual 72, 3) := by decide +kernel
theorem dX9_sketch_13 : decode cX9_sketch 13 = .ok (.ifCond .ne 13, 3) := by decide +kernel
theorem dX9_sketch_16 : decode cX9_sketch 16 = .ok (.new 76, 3) := by decide +kernel
theorem dX9_sketch_19 : decode cX9_sketch 19 = .ok (.dup, 1) := by decide +kernel
theorem dX9_sketch_20 : decode cX9_sketch 20 = .ok (.ldc 78, 2) := by decide +kernel
theorem dX9_sketch_22 : decode cX9_sketch 22 = .ok (.invokespecial 80, 3) := by decide +kernel
theorem dX9_sketch_25 : decode cX9_sketch 25 = .ok (.athrow, 1) := by decide +kernel
theorem dX9_sketch_26 : decode cX9_sketch 26 = .ok (.aload_n 0, 1) := by decide +kernel
theorem dX9_sketch_27 : decode cX9_sketch 27 = .ok (.getfield 10, 3) := by decide +kernel
theorem dX9_sketch_30 : decode cX9_sketch 30 = .ok (.iload_n 1, 1) := by decide +kernel
theorem dX9_sketch_31 : decode cX9_sketch 31 = .ok (.iload_n 2, 1) := by decide +kernel
theorem dX9_sketch_32 : decode cX9_sketch 32 = .ok (.invokevirtual 83, 3) := by decide +kernel
theorem dX9_sketch_35 : decode cX9_sketch 35 = .ok (.aload_n 0, 1) := by decide +kernel
theorem dX9_sketch_36 : decode cX9_sketch 36 = .ok (.getfield 10, 3) := by decide +kernel
theorem dX9_sketch_39 : decode cX9_sketch 39 = .ok (.getfield 86, 3) := by decide +kernel
theorem dX9_sketch_42 : decode cX9_sketch 42 = .ok (.ireturn, 1) := by decide +kernel
theorem dX9_erase_0 : decode cX9_erase 0 = .ok (.aload_n 0, 1) := by decide +kernel
theorem dX9_erase_1 : decode cX9_erase 1 = .ok (.getfield 10, 3) := by decide +kernel
theorem dX9_erase_4 : decode cX9_erase 4 = .ok (.getfield 90, 3) := by decide +kernel
theorem dX9_erase_7 : decode cX9_erase 7 = .ok (.getfield 93, 3) := by decide +kernel
theorem dX9_erase_10 : decode cX9_erase 10 = .ok (.istore_n 1, 1) := by decide +kernel
theorem dX9_erase_11 : decode cX9_erase 11 = .ok (.aload_n 0, 1) := by decide +kernel
theorem dX9_erase_12 : decode cX9_erase 12 = .ok (.getfield 10, 3) := by decide +kernel
theorem dX9_erase_15 : decode cX9_erase 15 = .ok (.invokevirtual 96, 3) := by decide +kernel
theorem dX9_erase_18 : decode cX9_erase 18 = .ok (.iload_n 1, 1) := by decide +kernel
theorem dX9_erase_19 : decode cX9_erase 19 = .ok (.ireturn, 1) := by decide +kernel
theorem dX9_plant_0 : decode cX9_plant 0 = .ok (.aload_n 0, 1) := by decide +kernel
theorem dX9_plant_1 : decode cX9_plant 1 = .ok (.getfield 10, 3) := by decide +kernel
theorem dX9_plant_4 : decode cX9_plant 4 = .ok (.getfield 86, 3) := by decide +kernel
theorem dX9_plant_7 : decode cX9_plant 7 = .ok (.ifCond .ne 15, 3) := by decide +kernel
theorem dX9_plant_10 : decode cX9_plant 10 = .ok (.aload_n 0, 1) := by decide +kernel
theorem dX9_plant_11 : decode cX9_plant 11 = .ok (.getfield 54, 3) := by decide +kernel
theorem dX9_plant_14 : decode cX9_plant 14 = .ok (.getfield 99, 3) := by decide +kernel
theorem dX9_plant_17 : decode cX9_plant 17 = .ok (.bipush 16, 2) := by decide +kernel
theorem dX9_plant_19 : decode cX9_plant 19 = .ok (.if_icmp .lt 13, 3) := by decide +kernel
theorem dX9_plant_22 : decode cX9_plant 22 = .ok (.new 76, 3) := by decide +kernel
theorem dX9_plant_25 : decode cX9_plant 25 = .ok (.dup, 1) := by decide +kernel
theorem dX9_plant_26 : decode cX9_plant 26 = .ok (.ldc 102, 2) := by decide +kernel
theorem dX9_plant_28 : decode cX9_plant 28 = .ok (.invokespecial 80, 3) := by decide +kernel
theorem dX9_plant_31 : decode cX9_plant 31 = .ok (.athrow, 1) := by decide +kernel
theorem dX9_plant_32 : decode cX9_plant 32 = .ok (.aload_n 0, 1) := by decide +kernel
theorem dX9_plant_33 : decode cX9_plant 33 = .ok (.getfield 54, 3) := by decide +kernel
theorem dX9_plant_36 : decode cX9_plant 36 = .ok (.getfield 99, 3) := by decide +kernel
theorem dX9_plant_39 : decode cX9_plant 39 = .ok (.istore_n 1, 1) := by decide +kernel
theorem dX9_plant_40 : decode cX9_plant 40 = .ok (.aload_n 0, 1) := by decide +kernel
theorem dX9_plant_41 : decode cX9_plant 41 = .ok (.getfield 54, 3) := by decide +kernel
theorem dX9_plant_44 : decode cX9_plant 44 = .ok (.aload_n 0, 1) := by decide +kernel
theorem dX9_plant_45 : decode cX9_plant 45 = .ok (.getfield 10, 3) := by decide +kernel
theorem dX9_plant_48 : decode cX9_plant 48 = .ok (.getfield 90, 3) := by decide +kernel
theorem dX9_plant_51 : decode cX9_plant 51 = .ok (.invokevirtual 104, 3) := by decide +kernel
theorem dX9_plant_54 : decode cX9_plant 54 = .ok (.aload_n 0, 1) := by decide +kernel
theorem dX9_plant_55 : decode cX9_plant 55 = .ok (.getfield 10, 3) := by decide +kernel
theorem dX9_plant_58 : decode cX9_plant 58 = .ok (.invokevirtual 96, 3) := by decide +kernel
theorem dX9_plant_61 : decode cX9_plant 61 = .ok (.iload_n 1, 1) := by decide +kernel
theorem dX9_plant_62 : decode cX9_plant 62 = .ok (.ireturn, 1) := by decide +kernel
theorem dX9_fell_0 : decode cX9_fell 0 = .ok (.aload_n 0, 1) := by decide +kernel
theorem dX9_fell_1 : decode cX9_fell 1 = .ok (.iload_n 1, 1) := by decide +kernel
theorem dX9_fell_2 : decode cX9_fell 2 = .ok (.invokevirtual 108, 3) := by decide +kernel
theorem dX9_fell_5 : decode cX9_fell 5 = .ok (.getfield 93, 3) := by decide +kernel
theorem dX9_fell_8 : decode cX9_fell 8 = .ok (.istore_n 2, 1) := by decide +kernel
theorem dX9_fell_9 : decode cX9_fell 9 = .ok (.aload_n 0, 1) := by decide +kernel
theorem dX9_fell_10 : decode cX9_fell 10 = .ok (.getfield 54, 3) := by decide +kernel
theorem dX9_fell_13 : decode cX9_fell 13 = .ok (.iload_n 1, 1) := by decide +kernel
theorem dX9_fell_14 : decode cX9_fell 14 = .ok (.invokevirtual 112, 3) := by decide +kernel
theorem dX9_fell_17 : decode cX9_fell 17 = .ok (.iload_n 2, 1) := by decide +kernel
theorem dX9_fell_18 : decode cX9_fell 18 = .ok (.ireturn, 1) := by decide +kernel
theorem dX9_addCase_0 : decode cX9_addCase 0 = .ok (.iload_n 1, 1) := by decide +kernel
theorem dX9_addCase_1 : decode cX9_addCase 1 = .ok (.iload_n 2, 1) := by decide +kernel
theorem dX9_addCase_2 : decode cX9_addCase 2 = .ok (.iload_n 3, 1) := by decide +kernel
theorem dX9_addCase_3 : decode cX9_addCase 3 = .ok (.invokestatic 116, 3) := by decide +kernel
theorem dX9_addCase_6 : decode cX9_addCase 6 = .ok (.iload 4, 2) := by decide +kernel
theorem dX9_addCase_8 : decode cX9_addCase 8 = .ok (.sipush (-9999), 3) := by decide +kernel
theorem dX9_addCase_11 : decode cX9_addCase 11 = .ok (.if_icmp .lt 11, 3) := by decide +kernel
theorem dX9_addCase_14 : decode cX9_addCase 14 = .ok (.iload 4, 2) := by decide +kernel
theorem dX9_addCase_16 : decode cX9_addCase 16 = .ok (.sipush 9999, 3) := by decide +kernel
theorem dX9_addCase_19 : decode cX9_addCase 19 = .ok (.if_icmp .le 13, 3) := by decide +kernel
theorem dX9_addCase_22 : decode cX9_addCase 22 = .ok (.new 120, 3) := by decide +kernel
theorem dX9_addCase_25 : decode cX9_addCase 25 = .ok (.dup, 1) := by decide +kernel
theorem dX9_addCase_26 : decode cX9_addCase 26 = .ok (.ldc 122, 2) := by decide +kernel
theorem dX9_addCase_28 : decode cX9_addCase 28 = .ok (.invokespecial 124, 3) := by decide +kernel
theorem dX9_addCase_31 : decode cX9_addCase 31 = .ok (.athrow, 1) := by decide +kernel
theorem dX9_addCase_32 : decode cX9_addCase 32 = .ok (.aload_n 0, 1) := by decide +kernel
theorem dX9_addCase_33 : decode cX9_addCase 33 = .ok (.getfield 19, 3) := by decide +kernel
theorem dX9_addCase_36 : decode cX9_addCase 36 = .ok (.getfield 125, 3) := by decide +kernel
theorem dX9_addCase_39 : decode cX9_addCase 39 = .ok (.bipush 12, 2) := by decide +kernel
theorem dX9_addCase_41 : decode cX9_addCase 41 = .ok (.if_icmp .lt 13, 3) := by decide +kernel
theorem dX9_addCase_44 : decode cX9_addCase 44 = .ok (.new 76, 3) := by decide +kernel
theorem dX9_addCase_47 : decode cX9_addCase 47 = .ok (.dup, 1) := by decide +kernel
theorem dX9_addCase_48 : decode cX9_addCase 48 = .ok (.ldc 128, 2) := by decide +kernel
theorem dX9_addCase_50 : decode cX9_addCase 50 = .ok (.invokespecial 80, 3) := by decide +kernel
theorem dX9_addCase_53 : decode cX9_addCase 53 = .ok (.athrow, 1) := by decide +kernel
theorem dX9_addCase_54 : decode cX9_addCase 54 = .ok (.aload_n 0, 1) := by decide +kernel
theorem dX9_addCase_55 : decode cX9_addCase 55 = .ok (.getfield 19, 3) := by decide +kernel
theorem dX9_addCase_58 : decode cX9_addCase 58 = .ok (.getfield 125, 3) := by decide +kernel
theorem dX9_addCase_61 : decode cX9_addCase 61 = .ok (.istore 5, 2) := by decide +kernel
theorem dX9_addCase_63 : decode cX9_addCase 63 = .ok (.aload_n 0, 1) := by decide +kernel
theorem dX9_addCase_64 : decode cX9_addCase 64 = .ok (.getfield 19, 3) := by decide +kernel
theorem dX9_addCase_67 : decode cX9_addCase 67 = .ok (.iload_n 1, 1) := by decide +kernel
theorem dX9_addCase_68 : decode cX9_addCase 68 = .ok (.iload_n 2, 1) := by decide +kernel
theorem dX9_addCase_69 : decode cX9_addCase 69 = .ok (.iload_n 3, 1) := by decide +kernel
theorem dX9_addCase_70 : decode cX9_addCase 70 = .ok (.iload 4, 2) := by decide +kernel
theorem dX9_addCase_72 : decode cX9_addCase 72 = .ok (.invokevirtual 130, 3) := by decide +kernel
theorem dX9_addCase_75 : decode cX9_addCase 75 = .ok (.iload 5, 2) := by decide +kernel
theorem dX9_addCase_77 : decode cX9_addCase 77 = .ok (.ireturn, 1) := by decide +kernel
theorem dX9_setWay_0 : decode cX9_setWay 0 = .ok (.iload_n 1, 1) := by decide +kernel
theorem dX9_setWay_1 : decode cX9_setWay 1 = .ok (.ifCond .lt 18, 3) := by decide +kernel
theorem dX9_setWay_4 : decode cX9_setWay 4 = .ok (.iload_n 1, 1) := by decide +kernel
theorem dX9_setWay_5 : decode cX9_setWay 5 = .ok (.iconst 2, 1) := by decide +kernel
theorem dX9_setWay_6 : decode cX9_setWay 6 = .ok (.if_icmp .gt 13, 3) := by decide +kernel
theorem dX9_setWay_9 : decode cX9_setWay 9 = .ok (.iload_n 2, 1) := by decide +kernel
theorem dX9_setWay_10 : decode cX9_setWay 10 = .ok (.ifCond .lt 9, 3) := by decide +kernel
theorem dX9_setWay_13 : decode cX9_setWay 13 = .ok (.iload_n 2, 1) := by decide +kernel
theorem dX9_setWay_14 : decode cX9_setWay 14 = .ok (.bipush 99, 2) := by decide +kernel
theorem dX9_setWay_16 : decode cX9_setWay 16 = .ok (.if_icmp .le 13, 3) := by decide +kernel
theorem dX9_setWay_19 : decode cX9_setWay 19 = .ok (.new 120, 3) := by decide +kernel
theorem dX9_setWay_22 : decode cX9_setWay 22 = .ok (.dup, 1) := by decide +kernel
theorem dX9_setWay_23 : decode cX9_setWay 23 = .ok (.ldc 133, 2) := by decide +kernel
theorem dX9_setWay_25 : decode cX9_setWay 25 = .ok (.invokespecial 124, 3) := by decide +kernel
theorem dX9_setWay_28 : decode cX9_setWay 28 = .ok (.athrow, 1) := by decide +kernel
theorem dX9_setWay_29 : decode cX9_setWay 29 = .ok (.aload_n 0, 1) := by decide +kernel
theorem dX9_setWay_30 : decode cX9_setWay 30 = .ok (.getfield 19, 3) := by decide +kernel
theorem dX9_setWay_33 : decode cX9_setWay 33 = .ok (.getfield 135, 3) := by decide +kernel
theorem dX9_setWay_36 : decode cX9_setWay 36 = .ok (.istore_n 3, 1) := by decide +kernel
theorem dX9_setWay_37 : decode cX9_setWay 37 = .ok (.aload_n 0, 1) := by decide +kernel
theorem dX9_setWay_38 : decode cX9_setWay 38 = .ok (.getfield 19, 3) := by decide +kernel
theorem dX9_setWay_41 : decode cX9_setWay 41 = .ok (.iload_n 1, 1) := by decide +kernel
theorem dX9_setWay_42 : decode cX9_setWay 42 = .ok (.putfield 135, 3) := by decide +kernel
theorem dX9_setWay_45 : decode cX9_setWay 45 = .ok (.aload_n 0, 1) := by decide +kernel
theorem dX9_setWay_46 : decode cX9_setWay 46 = .ok (.getfield 19, 3) := by decide +kernel
theorem dX9_setWay_49 : decode cX9_setWay 49 = .ok (.iload_n 2, 1) := by decide +kernel
theorem dX9_setWay_50 : decode cX9_setWay 50 = .ok (.putfield 138, 3) := by decide +kernel
theorem dX9_setWay_53 : decode cX9_setWay 53 = .ok (.iload_n 3, 1) := by decide +kernel
theorem dX9_setWay_54 : decode cX9_setWay 54 = .ok (.ireturn, 1) := by decide +kernel
theorem dX9_cross_0 : decode cX9_cross 0 = .ok (.aload_n 0, 1) := by decide +kernel
theorem dX9_cross_1 : decode cX9_cross 1 = .ok (.iload_n 1, 1) := by decide +kernel
theorem dX9_cross_2 : decode cX9_cross 2 = .ok (.iload_n 2, 1) := by decide +kernel
theorem dX9_cross_3 : decode cX9_cross 3 = .ok (.invokevirtual 141, 3) := by decide +kernel
theorem dX9_cross_6 : decode cX9_cross 6 = .ok (.astore 5, 2) := by decide +kernel
theorem dX9_cross_8 : decode cX9_cross 8 = .ok (.aload_n 0, 1) := by decide +kernel
theorem dX9_cross_9 : decode cX9_cross 9 = .ok (.iload_n 3, 1) := by decide +kernel
theorem dX9_cross_10 : decode cX9_cross 10 = .ok (.iload 4, 2) := by decide +kernel
theorem dX9_cross_12 : decode cX9_cross 12 = .ok (.invokevirtual 141, 3) := by decide +kernel
theorem dX9_cross_15 : decode cX9_cross 15 = .ok (.astore 6, 2) := by decide +kernel
theorem dX9_cross_17 : decode cX9_cross 17 = .ok (.aload_n 0, 1) := by decide +kernel
theorem dX9_cross_18 : decode cX9_cross 18 = .ok (.getfield 64, 3) := by decide +kernel
theorem dX9_cross_21 : decode cX9_cross 21 = .ok (.aload 5, 2) := by decide +kernel
theorem dX9_cross_23 : decode cX9_cross 23 = .ok (.iload_n 2, 1) := by decide +kernel
theorem dX9_cross_24 : decode cX9_cross 24 = .ok (.aload 6, 2) := by decide +kernel
theorem dX9_cross_26 : decode cX9_cross 26 = .ok (.iload 4, 2) := by decide +kernel
theorem dX9_cross_28 : decode cX9_cross 28 = .ok (.invokevirtual 145, 3) := by decide +kernel
theorem dX9_cross_31 : decode cX9_cross 31 = .ok (.ifCond .ne 5, 3) := by decide +kernel
theorem dX9_cross_34 : decode cX9_cross 34 = .ok (.iconst (-1), 1) := by decide +kernel
theorem dX9_cross_35 : decode cX9_cross 35 = .ok (.ireturn, 1) := by decide +kernel
theorem dX9_cross_36 : decode cX9_cross 36 = .ok (.aload 5, 2) := by decide +kernel
theorem dX9_cross_38 : decode cX9_cross 38 = .ok (.aload_n 0, 1) := by decide +kernel
theorem dX9_cross_39 : decode cX9_cross 39 = .ok (.getfield 64, 3) := by decide +kernel
theorem dX9_cross_42 : decode cX9_cross 42 = .ok (.invokevirtual 149, 3) := by decide +kernel
theorem dX9_cross_45 : decode cX9_cross 45 = .ok (.aload 5, 2) := by decide +kernel
theorem dX9_cross_47 : decode cX9_cross 47 = .ok (.getfield 93, 3) := by decide +kernel
theorem dX9_cross_50 : decode cX9_cross 50 = .ok (.ireturn, 1) := by decide +kernel
theorem dX9_hoist_0 : decode cX9_hoist 0 = .ok (.aload_n 0, 1) := by decide +kernel
theorem dX9_hoist_1 : decode cX9_hoist 1 = .ok (.iload_n 1, 1) := by decide +kernel
theorem dX9_hoist_2 : decode cX9_hoist 2 = .ok (.iload_n 2, 1) := by decide +kernel
theorem dX9_hoist_3 : decode cX9_hoist 3 = .ok (.invokevirtual 141, 3) := by decide +kernel
theorem dX9_hoist_6 : decode cX9_hoist 6 = .ok (.astore_n 3, 1) := by decide +kernel
theorem dX9_hoist_7 : decode cX9_hoist 7 = .ok (.aload_n 3, 1) := by decide +kernel
theorem dX9_hoist_8 : decode cX9_hoist 8 = .ok (.iload_n 2, 1) := by decide +kernel
theorem dX9_hoist_9 : decode cX9_hoist 9 = .ok (.invokevirtual 152, 3) := by decide +kernel
theorem dX9_hoist_12 : decode cX9_hoist 12 = .ok (.ifCond .ne 5, 3) := by decide +kernel
theorem dX9_hoist_15 : decode cX9_hoist 15 = .ok (.iconst (-1), 1) := by decide +kernel
theorem dX9_hoist_16 : decode cX9_hoist 16 = .ok (.ireturn, 1) := by decide +kernel
theorem dX9_hoist_17 : decode cX9_hoist 17 = .ok (.aload_n 3, 1) := by decide +kernel
theorem dX9_hoist_18 : decode cX9_hoist 18 = .ok (.iconst 0, 1) := by decide +kernel
theorem dX9_hoist_19 : decode cX9_hoist 19 = .ok (.iload_n 2, 1) := by decide +kernel
theorem dX9_hoist_20 : decode cX9_hoist 20 = .ok (.invokevirtual 155, 3) := by decide +kernel
theorem dX9_hoist_23 : decode cX9_hoist 23 = .ok (.aload_n 3, 1) := by decide +kernel
theorem dX9_hoist_24 : decode cX9_hoist 24 = .ok (.getfield 93, 3) := by decide +kernel
theorem dX9_hoist_27 : decode cX9_hoist 27 = .ok (.ireturn, 1) := by decide +kernel
theorem dX9_recode_0 : decode cX9_recode 0 = .ok (.aload_n 0, 1) := by decide +kernel
theorem dX9_recode_1 : decode cX9_recode 1 = .ok (.iload_n 1, 1) := by decide +kernel
theorem dX9_recode_2 : decode cX9_recode 2 = .ok (.iload_n 2, 1) := by decide +kernel
theorem dX9_recode_3 : decode cX9_recode 3 = .ok (.invokevirtual 141, 3) := by decide +kernel
theorem dX9_recode_6 : decode cX9_recode 6 = .ok (.astore 5, 2) := by decide +kernel
theorem dX9_recode_8 : decode cX9_recode 8 = .ok (.iload_n 3, 1) := by decide +kernel
theorem dX9_recode_9 : decode cX9_recode 9 = .ok (.iload 4, 2) := by decide +kernel
theorem dX9_recode_11 : decode cX9_recode 11 = .ok (.invokestatic 68, 3) := by decide +kernel
theorem dX9_recode_14 : decode cX9_recode 14 = .ok (.aload 5, 2) := by decide +kernel
theorem dX9_recode_16 : decode cX9_recode 16 = .ok (.iload_n 2, 1) := by decide +kernel
theorem dX9_recode_17 : decode cX9_recode 17 = .ok (.invokevirtual 158, 3) := by decide +kernel
theorem dX9_recode_20 : decode cX9_recode 20 = .ok (.istore 6, 2) := by decide +kernel
theorem dX9_recode_22 : decode cX9_recode 22 = .ok (.getstatic 162, 3) := by decide +kernel
theorem dX9_recode_25 : decode cX9_recode 25 = .ok (.iload 6, 2) := by decide +kernel
theorem dX9_recode_27 : decode cX9_recode 27 = .ok (.invokestatic 166, 3) := by decide +kernel
theorem dX9_recode_30 : decode cX9_recode 30 = .ok (.getstatic 162, 3) := by decide +kernel
theorem dX9_recode_33 : decode cX9_recode 33 = .ok (.iload_n 3, 1) := by decide +kernel
theorem dX9_recode_34 : decode cX9_recode 34 = .ok (.invokestatic 166, 3) := by decide +kernel
theorem dX9_recode_37 : decode cX9_recode 37 = .ok (.if_icmp .eq 5, 3) := by decide +kernel
theorem dX9_recode_40 : decode cX9_recode 40 = .ok (.iconst (-1), 1) := by decide +kernel
theorem dX9_recode_41 : decode cX9_recode 41 = .ok (.ireturn, 1) := by decide +kernel
theorem dX9_recode_42 : decode cX9_recode 42 = .ok (.aload 5, 2) := by decide +kernel
theorem dX9_recode_44 : decode cX9_recode 44 = .ok (.iload_n 2, 1) := by decide +kernel
theorem dX9_recode_45 : decode cX9_recode 45 = .ok (.iload_n 3, 1) := by decide +kernel
theorem dX9_recode_46 : decode cX9_recode 46 = .ok (.iload 4, 2) := by decide +kernel
theorem dX9_recode_48 : decode cX9_recode 48 = .ok (.invokevirtual 170, 3) := by decide +kernel
theorem dX9_recode_51 : decode cX9_recode 51 = .ok (.iload 6, 2) := by decide +kernel
theorem dX9_recode_53 : decode cX9_recode 53 = .ok (.ireturn, 1) := by decide +kernel
theorem dX9_wither_0 : decode cX9_wither 0 = .ok (.aload_n 0, 1) := by decide +kernel
theorem dX9_wither_1 : decode cX9_wither 1 = .ok (.iload_n 1, 1) := by decide +kernel
theorem dX9_wither_2 : decode cX9_wither 2 = .ok (.iload_n 2, 1) := by decide +kernel
theorem dX9_wither_3 : decode cX9_wither 3 = .ok (.invokevirtual 141, 3) := by decide +kernel
theorem dX9_wither_6 : decode cX9_wither 6 = .ok (.astore 4, 2) := by decide +kernel
theorem dX9_wither_8 : decode cX9_wither 8 = .ok (.iload_n 3, 1) := by decide +kernel
theorem dX9_wither_9 : decode cX9_wither 9 = .ok (.bipush (-99), 2) := by decide +kernel
theorem dX9_wither_11 : decode cX9_wither 11 = .ok (.if_icmp .lt 9, 3) := by decide +kernel
theorem dX9_wither_14 : decode cX9_wither 14 = .ok (.iload_n 3, 1) := by decide +kernel
theorem dX9_wither_15 : decode cX9_wither 15 = .ok (.bipush 99, 2) := by decide +kernel
theorem dX9_wither_17 : decode cX9_wither 17 = .ok (.if_icmp .le 13, 3) := by decide +kernel
theorem dX9_wither_20 : decode cX9_wither 20 = .ok (.new 120, 3) := by decide +kernel
theorem dX9_wither_23 : decode cX9_wither 23 = .ok (.dup, 1) := by decide +kernel
theorem dX9_wither_24 : decode cX9_wither 24 = .ok (.ldc 173, 2) := by decide +kernel
theorem dX9_wither_26 : decode cX9_wither 26 = .ok (.invokespecial 124, 3) := by decide +kernel
theorem dX9_wither_29 : decode cX9_wither 29 = .ok (.athrow, 1) := by decide +kernel
theorem dX9_wither_30 : decode cX9_wither 30 = .ok (.aload 4, 2) := by decide +kernel
theorem dX9_wither_32 : decode cX9_wither 32 = .ok (.iload_n 2, 1) := by decide +kernel
theorem dX9_wither_33 : decode cX9_wither 33 = .ok (.invokevirtual 152, 3) := by decide +kernel
theorem dX9_wither_36 : decode cX9_wither 36 = .ok (.ifCond .ne 5, 3) := by decide +kernel
theorem dX9_wither_39 : decode cX9_wither 39 = .ok (.iconst (-1), 1) := by decide +kernel
theorem dX9_wither_40 : decode cX9_wither 40 = .ok (.ireturn, 1) := by decide +kernel
theorem dX9_wither_41 : decode cX9_wither 41 = .ok (.aload 4, 2) := by decide +kernel
theorem dX9_wither_43 : decode cX9_wither 43 = .ok (.iload_n 2, 1) := by decide +kernel
theorem dX9_wither_44 : decode cX9_wither 44 = .ok (.iload_n 3, 1) := by decide +kernel
theorem dX9_wither_45 : decode cX9_wither 45 = .ok (.invokevirtual 175, 3) := by decide +kernel
theorem dX9_wither_48 : decode cX9_wither 48 = .ok (.aload 4, 2) := by decide +kernel
theorem dX9_wither_50 : decode cX9_wither 50 = .ok (.getfield 93, 3) := by decide +kernel
theorem dX9_wither_53 : decode cX9_wither 53 = .ok (.ireturn, 1) := by decide +kernel
theorem dX9_simplify_0 : decode cX9_simplify 0 = .ok (.aload_n 0, 1) := by decide +kernel
theorem dX9_simplify_1 : decode cX9_simplify 1 = .ok (.iload_n 1, 1) := by decide +kernel
theorem dX9_simplify_2 : decode cX9_simplify 2 = .ok (.invokevirtual 108, 3) := by decide +kernel
theorem dX9_simplify_5 : decode cX9_simplify 5 = .ok (.astore_n 2, 1) := by decide +kernel
theorem dX9_simplify_6 : decode cX9_simplify 6 = .ok (.aload_n 2, 1) := by decide +kernel
theorem dX9_simplify_7 : decode cX9_simplify 7 = .ok (.getfield 93, 3) := by decide +kernel
theorem dX9_simplify_10 : decode cX9_simplify 10 = .ok (.istore_n 3, 1) := by decide +kernel
theorem dX9_simplify_11 : decode cX9_simplify 11 = .ok (.aload_n 0, 1) := by decide +kernel
theorem dX9_simplify_12 : decode cX9_simplify 12 = .ok (.getfield 40, 3) := by decide +kernel
theorem dX9_simplify_15 : decode cX9_simplify 15 = .ok (.aload_n 2, 1) := by decide +kernel
theorem dX9_simplify_16 : decode cX9_simplify 16 = .ok (.invokevirtual 178, 3) := by decide +kernel
theorem dX9_simplify_19 : decode cX9_simplify 19 = .ok (.iload_n 3, 1) := by decide +kernel
theorem dX9_simplify_20 : decode cX9_simplify 20 = .ok (.aload_n 2, 1) := by decide +kernel
theorem dX9_simplify_21 : decode cX9_simplify 21 = .ok (.getfield 93, 3) := by decide +kernel
theorem dX9_simplify_24 : decode cX9_simplify 24 = .ok (.isub, 1) := by decide +kernel
theorem dX9_simplify_25 : decode cX9_simplify 25 = .ok (.ireturn, 1) := by decide +kernel
theorem dX9_setRates_0 : decode cX9_setRates 0 = .ok (.iload_n 1, 1) := by decide +kernel
theorem dX9_setRates_1 : decode cX9_setRates 1 = .ok (.invokestatic 181, 3) := by decide +kernel
theorem dX9_setRates_4 : decode cX9_setRates 4 = .ok (.ifCond .eq 27, 3) := by decide +kernel
theorem dX9_setRates_7 : decode cX9_setRates 7 = .ok (.iload_n 2, 1) := by decide +kernel
theorem dX9_setRates_8 : decode cX9_setRates 8 = .ok (.invokestatic 181, 3) := by decide +kernel
theorem dX9_setRates_11 : decode cX9_setRates 11 = .ok (.ifCond .eq 20, 3) := by decide +kernel
theorem dX9_setRates_14 : decode cX9_setRates 14 = .ok (.iload_n 3, 1) := by decide +kernel
theorem dX9_setRates_15 : decode cX9_setRates 15 = .ok (.invokestatic 181, 3) := by decide +kernel
theorem dX9_setRates_18 : decode cX9_setRates 18 = .ok (.ifCond .eq 13, 3) := by decide +kernel
theorem dX9_setRates_21 : decode cX9_setRates 21 = .ok (.iload_n 1, 1) := by decide +kernel
theorem dX9_setRates_22 : decode cX9_setRates 22 = .ok (.iload_n 2, 1) := by decide +kernel
theorem dX9_setRates_23 : decode cX9_setRates 23 = .ok (.iadd, 1) := by decide +kernel
theorem dX9_setRates_24 : decode cX9_setRates 24 = .ok (.iload_n 3, 1) := by decide +kernel
theorem dX9_setRates_25 : decode cX9_setRates 25 = .ok (.iadd, 1) := by decide +kernel
theorem dX9_setRates_26 : decode cX9_setRates 26 = .ok (.bipush 100, 2) := by decide +kernel
theorem dX9_setRates_28 : decode cX9_setRates 28 = .ok (.if_icmp .le 13, 3) := by decide +kernel
theorem dX9_setRates_31 : decode cX9_setRates 31 = .ok (.new 120, 3) := by decide +kernel
theorem dX9_setRates_34 : decode cX9_setRates 34 = .ok (.dup, 1) := by decide +kernel
theorem dX9_setRates_35 : decode cX9_setRates 35 = .ok (.ldc 184, 2) := by decide +kernel
theorem dX9_setRates_37 : decode cX9_setRates 37 = .ok (.invokespecial 124, 3) := by decide +kernel
theorem dX9_setRates_40 : decode cX9_setRates 40 = .ok (.athrow, 1) := by decide +kernel
theorem dX9_setRates_41 : decode cX9_setRates 41 = .ok (.aload_n 0, 1) := by decide +kernel
theorem dX9_setRates_42 : decode cX9_setRates 42 = .ok (.getfield 33, 3) := by decide +kernel
theorem dX9_setRates_45 : decode cX9_setRates 45 = .ok (.getfield 186, 3) := by decide +kernel
theorem dX9_setRates_48 : decode cX9_setRates 48 = .ok (.istore 4, 2) := by decide +kernel
theorem dX9_setRates_50 : decode cX9_setRates 50 = .ok (.aload_n 0, 1) := by decide +kernel
theorem dX9_setRates_51 : decode cX9_setRates 51 = .ok (.getfield 33, 3) := by decide +kernel
theorem dX9_setRates_54 : decode cX9_setRates 54 = .ok (.iload_n 1, 1) := by decide +kernel
theorem dX9_setRates_55 : decode cX9_setRates 55 = .ok (.putfield 186, 3) := by decide +kernel
theorem dX9_setRates_58 : decode cX9_setRates 58 = .ok (.aload_n 0, 1) := by decide +kernel
theorem dX9_setRates_59 : decode cX9_setRates 59 = .ok (.getfield 33, 3) := by decide +kernel
theorem dX9_setRates_62 : decode cX9_setRates 62 = .ok (.iload_n 2, 1) := by decide +kernel
theorem dX9_setRates_63 : decode cX9_setRates 63 = .ok (.putfield 189, 3) := by decide +kernel
theorem dX9_setRates_66 : decode cX9_setRates 66 = .ok (.aload_n 0, 1) := by decide +kernel
theorem dX9_setRates_67 : decode cX9_setRates 67 = .ok (.getfield 33, 3) := by decide +kernel
theorem dX9_setRates_70 : decode cX9_setRates 70 = .ok (.iload_n 3, 1) := by decide +kernel
theorem dX9_setRates_71 : decode cX9_setRates 71 = .ok (.putfield 192, 3) := by decide +kernel
theorem dX9_setRates_74 : decode cX9_setRates 74 = .ok (.iload 4, 2) := by decide +kernel
theorem dX9_setRates_76 : decode cX9_setRates 76 = .ok (.ireturn, 1) := by decide +kernel
theorem dX9_setChoosing_0 : decode cX9_setChoosing 0 = .ok (.iload_n 1, 1) := by decide +kernel
theorem dX9_setChoosing_1 : decode cX9_setChoosing 1 = .ok (.iconst 1, 1) := by decide +kernel
theorem dX9_setChoosing_2 : decode cX9_setChoosing 2 = .ok (.if_icmp .lt 17, 3) := by decide +kernel
theorem dX9_setChoosing_5 : decode cX9_setChoosing 5 = .ok (.iload_n 1, 1) := by decide +kernel
theorem dX9_setChoosing_6 : decode cX9_setChoosing 6 = .ok (.iconst 5, 1) := by decide +kernel
theorem dX9_setChoosing_7 : decode cX9_setChoosing 7 = .ok (.if_icmp .gt 12, 3) := by decide +kernel
theorem dX9_setChoosing_10 : decode cX9_setChoosing 10 = .ok (.iload_n 2, 1) := by decide +kernel
theorem dX9_setChoosing_11 : decode cX9_setChoosing 11 = .ok (.ifCond .lt 8, 3) := by decide +kernel
theorem dX9_setChoosing_14 : decode cX9_setChoosing 14 = .ok (.iload_n 2, 1) := by decide +kernel
theorem dX9_setChoosing_15 : decode cX9_setChoosing 15 = .ok (.iconst 4, 1) := by decide +kernel
theorem dX9_setChoosing_16 : decode cX9_setChoosing 16 = .ok (.if_icmp .le 13, 3) := by decide +kernel
theorem dX9_setChoosing_19 : decode cX9_setChoosing 19 = .ok (.new 120, 3) := by decide +kernel
theorem dX9_setChoosing_22 : decode cX9_setChoosing 22 = .ok (.dup, 1) := by decide +kernel
theorem dX9_setChoosing_23 : decode cX9_setChoosing 23 = .ok (.ldc 195, 2) := by decide +kernel
theorem dX9_setChoosing_25 : decode cX9_setChoosing 25 = .ok (.invokespecial 124, 3) := by decide +kernel
theorem dX9_setChoosing_28 : decode cX9_setChoosing 28 = .ok (.athrow, 1) := by decide +kernel
theorem dX9_setChoosing_29 : decode cX9_setChoosing 29 = .ok (.aload_n 0, 1) := by decide +kernel
theorem dX9_setChoosing_30 : decode cX9_setChoosing 30 = .ok (.getfield 33, 3) := by decide +kernel
theorem dX9_setChoosing_33 : decode cX9_setChoosing 33 = .ok (.getfield 197, 3) := by decide +kernel
theorem dX9_setChoosing_36 : decode cX9_setChoosing 36 = .ok (.istore_n 3, 1) := by decide +kernel
theorem dX9_setChoosing_37 : decode cX9_setChoosing 37 = .ok (.aload_n 0, 1) := by decide +kernel
theorem dX9_setChoosing_38 : decode cX9_setChoosing 38 = .ok (.getfield 33, 3) := by decide +kernel
theorem dX9_setChoosing_41 : decode cX9_setChoosing 41 = .ok (.iload_n 1, 1) := by decide +kernel
theorem dX9_setChoosing_42 : decode cX9_setChoosing 42 = .ok (.putfield 197, 3) := by decide +kernel
theorem dX9_setChoosing_45 : decode cX9_setChoosing 45 = .ok (.aload_n 0, 1) := by decide +kernel
theorem dX9_setChoosing_46 : decode cX9_setChoosing 46 = .ok (.getfield 33, 3) := by decide +kernel
theorem dX9_setChoosing_49 : decode cX9_setChoosing 49 = .ok (.iload_n 2, 1) := by decide +kernel
theorem dX9_setChoosing_50 : decode cX9_setChoosing 50 = .ok (.putfield 200, 3) := by decide +kernel
theorem dX9_setChoosing_53 : decode cX9_setChoosing 53 = .ok (.iload_n 3, 1) := by decide +kernel
theorem dX9_setChoosing_54 : decode cX9_setChoosing 54 = .ok (.ireturn, 1) := by decide +kernel
theorem dX9_setLuck_0 : decode cX9_setLuck 0 = .ok (.iload_n 1, 1) := by decide +kernel
theorem dX9_setLuck_1 : decode cX9_setLuck 1 = .ok (.ifCond .lt 10, 3) := by decide +kernel
theorem dX9_setLuck_4 : decode cX9_setLuck 4 = .ok (.iload_n 1, 1) := by decide +kernel
theorem dX9_setLuck_5 : decode cX9_setLuck 5 = .ok (.sipush 10000, 3) := by decide +kernel
theorem dX9_setLuck_8 : decode cX9_setLuck 8 = .ok (.if_icmp .lt 13, 3) := by decide +kernel
theorem dX9_setLuck_11 : decode cX9_setLuck 11 = .ok (.new 120, 3) := by decide +kernel
theorem dX9_setLuck_14 : decode cX9_setLuck 14 = .ok (.dup, 1) := by decide +kernel
theorem dX9_setLuck_15 : decode cX9_setLuck 15 = .ok (.ldc 203, 2) := by decide +kernel
theorem dX9_setLuck_17 : decode cX9_setLuck 17 = .ok (.invokespecial 124, 3) := by decide +kernel
theorem dX9_setLuck_20 : decode cX9_setLuck 20 = .ok (.athrow, 1) := by decide +kernel
theorem dX9_setLuck_21 : decode cX9_setLuck 21 = .ok (.aload_n 0, 1) := by decide +kernel
theorem dX9_setLuck_22 : decode cX9_setLuck 22 = .ok (.getfield 54, 3) := by decide +kernel
theorem dX9_setLuck_25 : decode cX9_setLuck 25 = .ok (.getfield 205, 3) := by decide +kernel
theorem dX9_setLuck_28 : decode cX9_setLuck 28 = .ok (.getfield 209, 3) := by decide +kernel
theorem dX9_setLuck_31 : decode cX9_setLuck 31 = .ok (.istore_n 2, 1) := by decide +kernel
theorem dX9_setLuck_32 : decode cX9_setLuck 32 = .ok (.aload_n 0, 1) := by decide +kernel
theorem dX9_setLuck_33 : decode cX9_setLuck 33 = .ok (.getfield 54, 3) := by decide +kernel
theorem dX9_setLuck_36 : decode cX9_setLuck 36 = .ok (.getfield 205, 3) := by decide +kernel
theorem dX9_setLuck_39 : decode cX9_setLuck 39 = .ok (.iload_n 1, 1) := by decide +kernel
theorem dX9_setLuck_40 : decode cX9_setLuck 40 = .ok (.putfield 209, 3) := by decide +kernel
theorem dX9_setLuck_43 : decode cX9_setLuck 43 = .ok (.iload_n 2, 1) := by decide +kernel
theorem dX9_setLuck_44 : decode cX9_setLuck 44 = .ok (.ireturn, 1) := by decide +kernel
theorem dX9_tell_0 : decode cX9_tell 0 = .ok (.iload_n 1, 1) := by decide +kernel
theorem dX9_tell_1 : decode cX9_tell 1 = .ok (.ifCond .ge 13, 3) := by decide +kernel
theorem dX9_tell_4 : decode cX9_tell 4 = .ok (.new 120, 3) := by decide +kernel
theorem dX9_tell_7 : decode cX9_tell 7 = .ok (.dup, 1) := by decide +kernel
theorem dX9_tell_8 : decode cX9_tell 8 = .ok (.ldc 214, 2) := by decide +kernel
theorem dX9_tell_10 : decode cX9_tell 10 = .ok (.invokespecial 124, 3) := by decide +kernel
theorem dX9_tell_13 : decode cX9_tell 13 = .ok (.athrow, 1) := by decide +kernel
theorem dX9_tell_14 : decode cX9_tell 14 = .ok (.aload_n 0, 1) := by decide +kernel
theorem dX9_tell_15 : decode cX9_tell 15 = .ok (.getfield 54, 3) := by decide +kernel
theorem dX9_tell_18 : decode cX9_tell 18 = .ok (.getfield 205, 3) := by decide +kernel
theorem dX9_tell_21 : decode cX9_tell 21 = .ok (.getfield 216, 3) := by decide +kernel
theorem dX9_tell_24 : decode cX9_tell 24 = .ok (.bipush 40, 2) := by decide +kernel
theorem dX9_tell_26 : decode cX9_tell 26 = .ok (.if_icmp .lt 13, 3) := by decide +kernel
theorem dX9_tell_29 : decode cX9_tell 29 = .ok (.new 76, 3) := by decide +kernel
theorem dX9_tell_32 : decode cX9_tell 32 = .ok (.dup, 1) := by decide +kernel
theorem dX9_tell_33 : decode cX9_tell 33 = .ok (.ldc 219, 2) := by decide +kernel
theorem dX9_tell_35 : decode cX9_tell 35 = .ok (.invokespecial 80, 3) := by decide +kernel
theorem dX9_tell_38 : decode cX9_tell 38 = .ok (.athrow, 1) := by decide +kernel
theorem dX9_tell_39 : decode cX9_tell 39 = .ok (.aload_n 0, 1) := by decide +kernel
theorem dX9_tell_40 : decode cX9_tell 40 = .ok (.getfield 54, 3) := by decide +kernel
theorem dX9_tell_43 : decode cX9_tell 43 = .ok (.getfield 205, 3) := by decide +kernel
theorem dX9_tell_46 : decode cX9_tell 46 = .ok (.iload_n 1, 1) := by decide +kernel
theorem dX9_tell_47 : decode cX9_tell 47 = .ok (.invokevirtual 221, 3) := by decide +kernel
theorem dX9_tell_50 : decode cX9_tell 50 = .ok (.aload_n 0, 1) := by decide +kernel
theorem dX9_tell_51 : decode cX9_tell 51 = .ok (.getfield 54, 3) := by decide +kernel
theorem dX9_tell_54 : decode cX9_tell 54 = .ok (.getfield 205, 3) := by decide +kernel
theorem dX9_tell_57 : decode cX9_tell 57 = .ok (.getfield 216, 3) := by decide +kernel
theorem dX9_tell_60 : decode cX9_tell 60 = .ok (.ireturn, 1) := by decide +kernel
theorem dX9_breed_0 : decode cX9_breed 0 = .ok (.aload_n 0, 1) := by decide +kernel
theorem dX9_breed_1 : decode cX9_breed 1 = .ok (.iload_n 1, 1) := by decide +kernel
theorem dX9_breed_2 : decode cX9_breed 2 = .ok (.invokevirtual 223, 3) := by decide +kernel
theorem dX9_breed_5 : decode cX9_breed 5 = .ok (.aload_n 0, 1) := by decide +kernel
theorem dX9_breed_6 : decode cX9_breed 6 = .ok (.getfield 33, 3) := by decide +kernel
theorem dX9_breed_9 : decode cX9_breed 9 = .ok (.iload_n 1, 1) := by decide +kernel
theorem dX9_breed_10 : decode cX9_breed 10 = .ok (.aload_n 0, 1) := by decide +kernel
theorem dX9_breed_11 : decode cX9_breed 11 = .ok (.getfield 54, 3) := by decide +kernel
theorem dX9_breed_14 : decode cX9_breed 14 = .ok (.aload_n 0, 1) := by decide +kernel
theorem dX9_breed_15 : decode cX9_breed 15 = .ok (.getfield 19, 3) := by decide +kernel
theorem dX9_breed_18 : decode cX9_breed 18 = .ok (.invokevirtual 226, 3) := by decide +kernel
theorem dX9_breed_21 : decode cX9_breed 21 = .ok (.ireturn, 1) := by decide +kernel
theorem dX9_sketched_0 : decode cX9_sketched 0 = .ok (.aload_n 0, 1) := by decide +kernel
theorem dX9_sketched_1 : decode cX9_sketched 1 = .ok (.getfield 10, 3) := by decide +kernel
theorem dX9_sketched_4 : decode cX9_sketched 4 = .ok (.getfield 90, 3) := by decide +kernel
theorem dX9_sketched_7 : decode cX9_sketched 7 = .ok (.getfield 93, 3) := by decide +kernel
theorem dX9_sketched_10 : decode cX9_sketched 10 = .ok (.ireturn, 1) := by decide +kernel
theorem dX9_trees_0 : decode cX9_trees 0 = .ok (.aload_n 0, 1) := by decide +kernel
theorem dX9_trees_1 : decode cX9_trees 1 = .ok (.getfield 54, 3) := by decide +kernel
theorem dX9_trees_4 : decode cX9_trees 4 = .ok (.getfield 99, 3) := by decide +kernel
theorem dX9_trees_7 : decode cX9_trees 7 = .ok (.ireturn, 1) := by decide +kernel
theorem dX9_cases_0 : decode cX9_cases 0 = .ok (.aload_n 0, 1) := by decide +kernel
theorem dX9_cases_1 : decode cX9_cases 1 = .ok (.getfield 19, 3) := by decide +kernel
theorem dX9_cases_4 : decode cX9_cases 4 = .ok (.getfield 125, 3) := by decide +kernel
theorem dX9_cases_7 : decode cX9_cases 7 = .ok (.ireturn, 1) := by decide +kernel
theorem dX9_size_0 : decode cX9_size 0 = .ok (.aload_n 0, 1) := by decide +kernel
theorem dX9_size_1 : decode cX9_size 1 = .ok (.iload_n 1, 1) := by decide +kernel
theorem dX9_size_2 : decode cX9_size 2 = .ok (.invokevirtual 108, 3) := by decide +kernel
theorem dX9_size_5 : decode cX9_size 5 = .ok (.getfield 93, 3) := by decide +kernel
theorem dX9_size_8 : decode cX9_size 8 = .ok (.ireturn, 1) := by decide +kernel
theorem dX9_depth_0 : decode cX9_depth 0 = .ok (.aload_n 0, 1) := by decide +kernel
theorem dX9_depth_1 : decode cX9_depth 1 = .ok (.iload_n 1, 1) := by decide +kernel
theorem dX9_depth_2 : decode cX9_depth 2 = .ok (.invokevirtual 108, 3) := by decide +kernel
theorem dX9_depth_5 : decode cX9_depth 5 = .ok (.getfield 230, 3) := by decide +kernel
theorem dX9_depth_8 : decode cX9_depth 8 = .ok (.ireturn, 1) := by decide +kernel
theorem dX9_codeAt_0 : decode cX9_codeAt 0 = .ok (.aload_n 0, 1) := by decide +kernel
theorem dX9_codeAt_1 : decode cX9_codeAt 1 = .ok (.iload_n 1, 1) := by decide +kernel
theorem dX9_codeAt_2 : decode cX9_codeAt 2 = .ok (.iload_n 2, 1) := by decide +kernel
theorem dX9_codeAt_3 : decode cX9_codeAt 3 = .ok (.invokevirtual 141, 3) := by decide +kernel
theorem dX9_codeAt_6 : decode cX9_codeAt 6 = .ok (.iload_n 2, 1) := by decide +kernel
theorem dX9_codeAt_7 : decode cX9_codeAt 7 = .ok (.invokevirtual 158, 3) := by decide +kernel
theorem dX9_codeAt_10 : decode cX9_codeAt 10 = .ok (.ireturn, 1) := by decide +kernel
theorem dX9_valueAt_0 : decode cX9_valueAt 0 = .ok (.aload_n 0, 1) := by decide +kernel
theorem dX9_valueAt_1 : decode cX9_valueAt 1 = .ok (.iload_n 1, 1) := by decide +kernel
theorem dX9_valueAt_2 : decode cX9_valueAt 2 = .ok (.iload_n 2, 1) := by decide +kernel
theorem dX9_valueAt_3 : decode cX9_valueAt 3 = .ok (.invokevirtual 141, 3) := by decide +kernel
theorem dX9_valueAt_6 : decode cX9_valueAt 6 = .ok (.iload_n 2, 1) := by decide +kernel
theorem dX9_valueAt_7 : decode cX9_valueAt 7 = .ok (.invokevirtual 233, 3) := by decide +kernel
theorem dX9_valueAt_10 : decode cX9_valueAt 10 = .ok (.ireturn, 1) := by decide +kernel
theorem dX9_sizeAt_0 : decode cX9_sizeAt 0 = .ok (.aload_n 0, 1) := by decide +kernel
theorem dX9_sizeAt_1 : decode cX9_sizeAt 1 = .ok (.iload_n 1, 1) := by decide +kernel
theorem dX9_sizeAt_2 : decode cX9_sizeAt 2 = .ok (.iload_n 2, 1) := by decide +kernel
theorem dX9_sizeAt_3 : decode cX9_sizeAt 3 = .ok (.invokevirtual 141, 3) := by decide +kernel
theorem dX9_sizeAt_6 : decode cX9_sizeAt 6 = .ok (.iload_n 2, 1) := by decide +kernel
theorem dX9_sizeAt_7 : decode cX9_sizeAt 7 = .ok (.invokevirtual 236, 3) := by decide +kernel
theorem dX9_sizeAt_10 : decode cX9_sizeAt 10 = .ok (.ireturn, 1) := by decide +kernel
theorem dX9_above_0 : decode cX9_above 0 = .ok (.aload_n 0, 1) := by decide +kernel
theorem dX9_above_1 : decode cX9_above 1 = .ok (.iload_n 1, 1) := by decide +kernel
theorem dX9_above_2 : decode cX9_above 2 = .ok (.iload_n 2, 1) := by decide +kernel
theorem dX9_above_3 : decode cX9_above 3 = .ok (.invokevirtual 141, 3) := by decide +kernel
theorem dX9_above_6 : decode cX9_above 6 = .ok (.iload_n 2, 1) := by decide +kernel
theorem dX9_above_7 : decode cX9_above 7 = .ok (.invokevirtual 239, 3) := by decide +kernel
theorem dX9_above_10 : decode cX9_above 10 = .ok (.ireturn, 1) := by decide +kernel
theorem dX9_gives_0 : decode cX9_gives 0 = .ok (.aload_n 0, 1) := by decide +kernel
theorem dX9_gives_1 : decode cX9_gives 1 = .ok (.iload_n 1, 1) := by decide +kernel
theorem dX9_gives_2 : decode cX9_gives 2 = .ok (.invokevirtual 108, 3) := by decide +kernel
theorem dX9_gives_5 : decode cX9_gives 5 = .ok (.astore 5, 2) := by decide +kernel
theorem dX9_gives_7 : decode cX9_gives 7 = .ok (.iload_n 2, 1) := by decide +kernel
theorem dX9_gives_8 : decode cX9_gives 8 = .ok (.iload_n 3, 1) := by decide +kernel
theorem dX9_gives_9 : decode cX9_gives 9 = .ok (.iload 4, 2) := by decide +kernel
theorem dX9_gives_11 : decode cX9_gives 11 = .ok (.invokestatic 116, 3) := by decide +kernel
theorem dX9_gives_14 : decode cX9_gives 14 = .ok (.aload_n 0, 1) := by decide +kernel
theorem dX9_gives_15 : decode cX9_gives 15 = .ok (.getfield 47, 3) := by decide +kernel
theorem dX9_gives_18 : decode cX9_gives 18 = .ok (.iload_n 2, 1) := by decide +kernel
theorem dX9_gives_19 : decode cX9_gives 19 = .ok (.iload_n 3, 1) := by decide +kernel
theorem dX9_gives_20 : decode cX9_gives 20 = .ok (.iload 4, 2) := by decide +kernel
theorem dX9_gives_22 : decode cX9_gives 22 = .ok (.invokevirtual 242, 3) := by decide +kernel
theorem dX9_gives_25 : decode cX9_gives 25 = .ok (.aload_n 0, 1) := by decide +kernel
theorem dX9_gives_26 : decode cX9_gives 26 = .ok (.getfield 47, 3) := by decide +kernel
theorem dX9_gives_29 : decode cX9_gives 29 = .ok (.aload 5, 2) := by decide +kernel
theorem dX9_gives_31 : decode cX9_gives 31 = .ok (.iconst 0, 1) := by decide +kernel
theorem dX9_gives_32 : decode cX9_gives 32 = .ok (.invokevirtual 245, 3) := by decide +kernel
theorem dX9_gives_35 : decode cX9_gives 35 = .ok (.ireturn, 1) := by decide +kernel
theorem dX9_error_0 : decode cX9_error 0 = .ok (.aload_n 0, 1) := by decide +kernel
theorem dX9_error_1 : decode cX9_error 1 = .ok (.getfield 19, 3) := by decide +kernel
theorem dX9_error_4 : decode cX9_error 4 = .ok (.aload_n 0, 1) := by decide +kernel
theorem dX9_error_5 : decode cX9_error 5 = .ok (.iload_n 1, 1) := by decide +kernel
theorem dX9_error_6 : decode cX9_error 6 = .ok (.invokevirtual 108, 3) := by decide +kernel
theorem dX9_error_9 : decode cX9_error 9 = .ok (.iconst 0, 1) := by decide +kernel
theorem dX9_error_10 : decode cX9_error 10 = .ok (.invokevirtual 249, 3) := by decide +kernel
theorem dX9_error_13 : decode cX9_error 13 = .ok (.ireturn, 1) := by decide +kernel
theorem dX9_merit_0 : decode cX9_merit 0 = .ok (.aload_n 0, 1) := by decide +kernel
theorem dX9_merit_1 : decode cX9_merit 1 = .ok (.getfield 19, 3) := by decide +kernel
theorem dX9_merit_4 : decode cX9_merit 4 = .ok (.aload_n 0, 1) := by decide +kernel
theorem dX9_merit_5 : decode cX9_merit 5 = .ok (.iload_n 1, 1) := by decide +kernel
theorem dX9_merit_6 : decode cX9_merit 6 = .ok (.invokevirtual 108, 3) := by decide +kernel
theorem dX9_merit_9 : decode cX9_merit 9 = .ok (.invokevirtual 252, 3) := by decide +kernel
theorem dX9_merit_12 : decode cX9_merit 12 = .ok (.ireturn, 1) := by decide +kernel
theorem dX9_hits_0 : decode cX9_hits 0 = .ok (.aload_n 0, 1) := by decide +kernel
theorem dX9_hits_1 : decode cX9_hits 1 = .ok (.getfield 19, 3) := by decide +kernel
theorem dX9_hits_4 : decode cX9_hits 4 = .ok (.aload_n 0, 1) := by decide +kernel
theorem dX9_hits_5 : decode cX9_hits 5 = .ok (.iload_n 1, 1) := by decide +kernel
theorem dX9_hits_6 : decode cX9_hits 6 = .ok (.invokevirtual 108, 3) := by decide +kernel
theorem dX9_hits_9 : decode cX9_hits 9 = .ok (.invokevirtual 256, 3) := by decide +kernel
theorem dX9_hits_12 : decode cX9_hits 12 = .ok (.ireturn, 1) := by decide +kernel
theorem dX9_ranked_0 : decode cX9_ranked 0 = .ok (.iload_n 1, 1) := by decide +kernel
theorem dX9_ranked_1 : decode cX9_ranked 1 = .ok (.ifCond .lt 14, 3) := by decide +kernel
theorem dX9_ranked_4 : decode cX9_ranked 4 = .ok (.iload_n 1, 1) := by decide +kernel
theorem dX9_ranked_5 : decode cX9_ranked 5 = .ok (.aload_n 0, 1) := by decide +kernel
theorem dX9_ranked_6 : decode cX9_ranked 6 = .ok (.getfield 54, 3) := by decide +kernel
theorem dX9_ranked_9 : decode cX9_ranked 9 = .ok (.getfield 99, 3) := by decide +kernel
theorem dX9_ranked_12 : decode cX9_ranked 12 = .ok (.if_icmp .lt 14, 3) := by decide +kernel
theorem dX9_ranked_15 : decode cX9_ranked 15 = .ok (.new 259, 3) := by decide +kernel
theorem dX9_ranked_18 : decode cX9_ranked 18 = .ok (.dup, 1) := by decide +kernel
theorem dX9_ranked_19 : decode cX9_ranked 19 = .ok (.ldc_w 261, 3) := by decide +kernel
theorem dX9_ranked_22 : decode cX9_ranked 22 = .ok (.invokespecial 263, 3) := by decide +kernel
theorem dX9_ranked_25 : decode cX9_ranked 25 = .ok (.athrow, 1) := by decide +kernel
theorem dX9_ranked_26 : decode cX9_ranked 26 = .ok (.aload_n 0, 1) := by decide +kernel
theorem dX9_ranked_27 : decode cX9_ranked 27 = .ok (.getfield 26, 3) := by decide +kernel
theorem dX9_ranked_30 : decode cX9_ranked 30 = .ok (.aload_n 0, 1) := by decide +kernel
theorem dX9_ranked_31 : decode cX9_ranked 31 = .ok (.getfield 54, 3) := by decide +kernel
theorem dX9_ranked_34 : decode cX9_ranked 34 = .ok (.aload_n 0, 1) := by decide +kernel
theorem dX9_ranked_35 : decode cX9_ranked 35 = .ok (.getfield 19, 3) := by decide +kernel
theorem dX9_ranked_38 : decode cX9_ranked 38 = .ok (.invokevirtual 264, 3) := by decide +kernel
theorem dX9_ranked_41 : decode cX9_ranked 41 = .ok (.aload_n 0, 1) := by decide +kernel
theorem dX9_ranked_42 : decode cX9_ranked 42 = .ok (.getfield 26, 3) := by decide +kernel
theorem dX9_ranked_45 : decode cX9_ranked 45 = .ok (.iload_n 1, 1) := by decide +kernel
theorem dX9_ranked_46 : decode cX9_ranked 46 = .ok (.invokevirtual 268, 3) := by decide +kernel
theorem dX9_ranked_49 : decode cX9_ranked 49 = .ok (.ireturn, 1) := by decide +kernel
theorem dX9_different_0 : decode cX9_different 0 = .ok (.iconst 0, 1) := by decide +kernel
theorem dX9_different_1 : decode cX9_different 1 = .ok (.istore_n 1, 1) := by decide +kernel
theorem dX9_different_2 : decode cX9_different 2 = .ok (.iconst 0, 1) := by decide +kernel
theorem dX9_different_3 : decode cX9_different 3 = .ok (.istore_n 2, 1) := by decide +kernel
theorem dX9_different_4 : decode cX9_different 4 = .ok (.iload_n 2, 1) := by decide +kernel
theorem dX9_different_5 : decode cX9_different 5 = .ok (.aload_n 0, 1) := by decide +kernel
theorem dX9_different_6 : decode cX9_different 6 = .ok (.getfield 54, 3) := by decide +kernel
theorem dX9_different_9 : decode cX9_different 9 = .ok (.getfield 99, 3) := by decide +kernel
theorem dX9_different_12 : decode cX9_different 12 = .ok (.if_icmp .ge 23, 3) := by decide +kernel
theorem dX9_different_15 : decode cX9_different 15 = .ok (.aload_n 0, 1) := by decide +kernel
theorem dX9_different_16 : decode cX9_different 16 = .ok (.getfield 54, 3) := by decide +kernel
theorem dX9_different_19 : decode cX9_different 19 = .ok (.iload_n 2, 1) := by decide +kernel
theorem dX9_different_20 : decode cX9_different 20 = .ok (.invokevirtual 271, 3) := by decide +kernel
theorem dX9_different_23 : decode cX9_different 23 = .ok (.ifCond .ne 6, 3) := by decide +kernel
theorem dX9_different_26 : decode cX9_different 26 = .ok (.iinc 1 1, 3) := by decide +kernel
theorem dX9_different_29 : decode cX9_different 29 = .ok (.iinc 2 1, 3) := by decide +kernel
theorem dX9_different_32 : decode cX9_different 32 = .ok (.goto (-28), 3) := by decide +kernel
theorem dX9_different_35 : decode cX9_different 35 = .ok (.iload_n 1, 1) := by decide +kernel
theorem dX9_different_36 : decode cX9_different 36 = .ok (.ireturn, 1) := by decide +kernel
theorem dX9_alike_0 : decode cX9_alike 0 = .ok (.aload_n 0, 1) := by decide +kernel
theorem dX9_alike_1 : decode cX9_alike 1 = .ok (.iload_n 1, 1) := by decide +kernel
theorem dX9_alike_2 : decode cX9_alike 2 = .ok (.invokevirtual 108, 3) := by decide +kernel
theorem dX9_alike_5 : decode cX9_alike 5 = .ok (.aload_n 0, 1) := by decide +kernel
theorem dX9_alike_6 : decode cX9_alike 6 = .ok (.iload_n 2, 1) := by decide +kernel
theorem dX9_alike_7 : decode cX9_alike 7 = .ok (.invokevirtual 108, 3) := by decide +kernel
theorem dX9_alike_10 : decode cX9_alike 10 = .ok (.invokevirtual 274, 3) := by decide +kernel
theorem dX9_alike_13 : decode cX9_alike 13 = .ok (.ireturn, 1) := by decide +kernel
theorem dX9_meanSize_0 : decode cX9_meanSize 0 = .ok (.aload_n 0, 1) := by decide +kernel
theorem dX9_meanSize_1 : decode cX9_meanSize 1 = .ok (.getfield 54, 3) := by decide +kernel
theorem dX9_meanSize_4 : decode cX9_meanSize 4 = .ok (.getfield 99, 3) := by decide +kernel
theorem dX9_meanSize_7 : decode cX9_meanSize 7 = .ok (.ifCond .ne 5, 3) := by decide +kernel
theorem dX9_meanSize_10 : decode cX9_meanSize 10 = .ok (.dconst 0, 1) := by decide +kernel
theorem dX9_meanSize_11 : decode cX9_meanSize 11 = .ok (.dreturn, 1) := by decide +kernel
theorem dX9_meanSize_12 : decode cX9_meanSize 12 = .ok (.iconst 0, 1) := by decide +kernel
theorem dX9_meanSize_13 : decode cX9_meanSize 13 = .ok (.istore_n 1, 1) := by decide +kernel
theorem dX9_meanSize_14 : decode cX9_meanSize 14 = .ok (.iconst 0, 1) := by decide +kernel
theorem dX9_meanSize_15 : decode cX9_meanSize 15 = .ok (.istore_n 2, 1) := by decide +kernel
theorem dX9_meanSize_16 : decode cX9_meanSize 16 = .ok (.iload_n 2, 1) := by decide +kernel
theorem dX9_meanSize_17 : decode cX9_meanSize 17 = .ok (.aload_n 0, 1) := by decide +kernel
theorem dX9_meanSize_18 : decode cX9_meanSize 18 = .ok (.getfield 54, 3) := by decide +kernel
theorem dX9_meanSize_21 : decode cX9_meanSize 21 = .ok (.getfield 99, 3) := by decide +kernel
theorem dX9_meanSize_24 : decode cX9_meanSize 24 = .ok (.if_icmp .ge 23, 3) := by decide +kernel
theorem dX9_meanSize_27 : decode cX9_meanSize 27 = .ok (.iload_n 1, 1) := by decide +kernel
theorem dX9_meanSize_28 : decode cX9_meanSize 28 = .ok (.aload_n 0, 1) := by decide +kernel
theorem dX9_meanSize_29 : decode cX9_meanSize 29 = .ok (.getfield 54, 3) := by decide +kernel
theorem dX9_meanSize_32 : decode cX9_meanSize 32 = .ok (.iload_n 2, 1) := by decide +kernel
theorem dX9_meanSize_33 : decode cX9_meanSize 33 = .ok (.invokevirtual 277, 3) := by decide +kernel
theorem dX9_meanSize_36 : decode cX9_meanSize 36 = .ok (.getfield 93, 3) := by decide +kernel
theorem dX9_meanSize_39 : decode cX9_meanSize 39 = .ok (.iadd, 1) := by decide +kernel
theorem dX9_meanSize_40 : decode cX9_meanSize 40 = .ok (.istore_n 1, 1) := by decide +kernel
theorem dX9_meanSize_41 : decode cX9_meanSize 41 = .ok (.iinc 2 1, 3) := by decide +kernel
theorem dX9_meanSize_44 : decode cX9_meanSize 44 = .ok (.goto (-28), 3) := by decide +kernel
theorem dX9_meanSize_47 : decode cX9_meanSize 47 = .ok (.iload_n 1, 1) := by decide +kernel
theorem dX9_meanSize_48 : decode cX9_meanSize 48 = .ok (.i2d, 1) := by decide +kernel
theorem dX9_meanSize_49 : decode cX9_meanSize 49 = .ok (.aload_n 0, 1) := by decide +kernel
theorem dX9_meanSize_50 : decode cX9_meanSize 50 = .ok (.getfield 54, 3) := by decide +kernel
theorem dX9_meanSize_53 : decode cX9_meanSize 53 = .ok (.getfield 99, 3) := by decide +kernel
theorem dX9_meanSize_56 : decode cX9_meanSize 56 = .ok (.i2d, 1) := by decide +kernel
theorem dX9_meanSize_57 : decode cX9_meanSize 57 = .ok (.ddiv, 1) := by decide +kernel
theorem dX9_meanSize_58 : decode cX9_meanSize 58 = .ok (.dreturn, 1) := by decide +kernel
theorem dX9_generations_0 : decode cX9_generations 0 = .ok (.aload_n 0, 1) := by decide +kernel
theorem dX9_generations_1 : decode cX9_generations 1 = .ok (.getfield 54, 3) := by decide +kernel
theorem dX9_generations_4 : decode cX9_generations 4 = .ok (.getfield 280, 3) := by decide +kernel
theorem dX9_generations_7 : decode cX9_generations 7 = .ok (.ireturn, 1) := by decide +kernel
theorem dX9_misses_0 : decode cX9_misses 0 = .ok (.aload_n 0, 1) := by decide +kernel
theorem dX9_misses_1 : decode cX9_misses 1 = .ok (.getfield 54, 3) := by decide +kernel
theorem dX9_misses_4 : decode cX9_misses 4 = .ok (.getfield 283, 3) := by decide +kernel
theorem dX9_misses_7 : decode cX9_misses 7 = .ok (.ireturn, 1) := by decide +kernel
theorem dX9_luck_0 : decode cX9_luck 0 = .ok (.aload_n 0, 1) := by decide +kernel
theorem dX9_luck_1 : decode cX9_luck 1 = .ok (.getfield 54, 3) := by decide +kernel
theorem dX9_luck_4 : decode cX9_luck 4 = .ok (.getfield 205, 3) := by decide +kernel
theorem dX9_luck_7 : decode cX9_luck 7 = .ok (.getfield 209, 3) := by decide +kernel
theorem dX9_luck_10 : decode cX9_luck 10 = .ok (.ireturn, 1) := by decide +kernel
theorem dX9_waiting_0 : decode cX9_waiting 0 = .ok (.aload_n 0, 1) := by decide +kernel
theorem dX9_waiting_1 : decode cX9_waiting 1 = .ok (.getfield 54, 3) := by decide +kernel
theorem dX9_waiting_4 : decode cX9_waiting 4 = .ok (.getfield 205, 3) := by decide +kernel
theorem dX9_waiting_7 : decode cX9_waiting 7 = .ok (.getfield 216, 3) := by decide +kernel
theorem dX9_waiting_10 : decode cX9_waiting 10 = .ok (.ireturn, 1) := by decide +kernel
theorem dX9_errorCrossed_0 : decode cX9_errorCrossed 0 = .ok (.aload_n 0, 1) := by decide +kernel
theorem dX9_errorCrossed_1 : decode cX9_errorCrossed 1 = .ok (.iload_n 1, 1) := by decide +kernel
theorem dX9_errorCrossed_2 : decode cX9_errorCrossed 2 = .ok (.iload_n 2, 1) := by decide +kernel
theorem dX9_errorCrossed_3 : decode cX9_errorCrossed 3 = .ok (.invokevirtual 141, 3) := by decide +kernel
theorem dX9_errorCrossed_6 : decode cX9_errorCrossed 6 = .ok (.astore 5, 2) := by decide +kernel
theorem dX9_errorCrossed_8 : decode cX9_errorCrossed 8 = .ok (.aload_n 0, 1) := by decide +kernel
theorem dX9_errorCrossed_9 : decode cX9_errorCrossed 9 = .ok (.iload_n 3, 1) := by decide +kernel
theorem dX9_errorCrossed_10 : decode cX9_errorCrossed 10 = .ok (.iload 4, 2) := by decide +kernel
theorem dX9_errorCrossed_12 : decode cX9_errorCrossed 12 = .ok (.invokevirtual 141, 3) := by decide +kernel
theorem dX9_errorCrossed_15 : decode cX9_errorCrossed 15 = .ok (.astore 6, 2) := by decide +kernel
theorem dX9_errorCrossed_17 : decode cX9_errorCrossed 17 = .ok (.aload_n 0, 1) := by decide +kernel
theorem dX9_errorCrossed_18 : decode cX9_errorCrossed 18 = .ok (.getfield 64, 3) := by decide +kernel
theorem dX9_errorCrossed_21 : decode cX9_errorCrossed 21 = .ok (.aload 5, 2) := by decide +kernel
theorem dX9_errorCrossed_23 : decode cX9_errorCrossed 23 = .ok (.iload_n 2, 1) := by decide +kernel
theorem dX9_errorCrossed_24 : decode cX9_errorCrossed 24 = .ok (.aload 6, 2) := by decide +kernel
theorem dX9_errorCrossed_26 : decode cX9_errorCrossed 26 = .ok (.iload 4, 2) := by decide +kernel
theorem dX9_errorCrossed_28 : decode cX9_errorCrossed 28 = .ok (.invokevirtual 145, 3) := by decide +kernel
theorem dX9_errorCrossed_31 : decode cX9_errorCrossed 31 = .ok (.ifCond .ne 5, 3) := by decide +kernel
theorem dX9_errorCrossed_34 : decode cX9_errorCrossed 34 = .ok (.iconst (-1), 1) := by decide +kernel
theorem dX9_errorCrossed_35 : decode cX9_errorCrossed 35 = .ok (.ireturn, 1) := by decide +kernel
theorem dX9_errorCrossed_36 : decode cX9_errorCrossed 36 = .ok (.aload_n 0, 1) := by decide +kernel
theorem dX9_errorCrossed_37 : decode cX9_errorCrossed 37 = .ok (.getfield 19, 3) := by decide +kernel
theorem dX9_errorCrossed_40 : decode cX9_errorCrossed 40 = .ok (.aload_n 0, 1) := by decide +kernel
theorem dX9_errorCrossed_41 : decode cX9_errorCrossed 41 = .ok (.getfield 64, 3) := by decide +kernel
theorem dX9_errorCrossed_44 : decode cX9_errorCrossed 44 = .ok (.iconst 0, 1) := by decide +kernel
theorem dX9_errorCrossed_45 : decode cX9_errorCrossed 45 = .ok (.invokevirtual 249, 3) := by decide +kernel
theorem dX9_errorCrossed_48 : decode cX9_errorCrossed 48 = .ok (.ireturn, 1) := by decide +kernel
theorem dX9_bestHoist_0 : decode cX9_bestHoist 0 = .ok (.aload_n 0, 1) := by decide +kernel
theorem dX9_bestHoist_1 : decode cX9_bestHoist 1 = .ok (.iload_n 1, 1) := by decide +kernel
theorem dX9_bestHoist_2 : decode cX9_bestHoist 2 = .ok (.invokevirtual 108, 3) := by decide +kernel
theorem dX9_bestHoist_5 : decode cX9_bestHoist 5 = .ok (.astore_n 2, 1) := by decide +kernel
theorem dX9_bestHoist_6 : decode cX9_bestHoist 6 = .ok (.iconst 0, 1) := by decide +kernel
theorem dX9_bestHoist_7 : decode cX9_bestHoist 7 = .ok (.istore_n 3, 1) := by decide +kernel
theorem dX9_bestHoist_8 : decode cX9_bestHoist 8 = .ok (.aload_n 0, 1) := by decide +kernel
theorem dX9_bestHoist_9 : decode cX9_bestHoist 9 = .ok (.getfield 19, 3) := by decide +kernel
theorem dX9_bestHoist_12 : decode cX9_bestHoist 12 = .ok (.aload_n 2, 1) := by decide +kernel
theorem dX9_bestHoist_13 : decode cX9_bestHoist 13 = .ok (.iconst 0, 1) := by decide +kernel
theorem dX9_bestHoist_14 : decode cX9_bestHoist 14 = .ok (.invokevirtual 249, 3) := by decide +kernel
theorem dX9_bestHoist_17 : decode cX9_bestHoist 17 = .ok (.istore 4, 2) := by decide +kernel
theorem dX9_bestHoist_19 : decode cX9_bestHoist 19 = .ok (.iconst 1, 1) := by decide +kernel
theorem dX9_bestHoist_20 : decode cX9_bestHoist 20 = .ok (.istore 5, 2) := by decide +kernel
theorem dX9_bestHoist_22 : decode cX9_bestHoist 22 = .ok (.iload 5, 2) := by decide +kernel
theorem dX9_bestHoist_24 : decode cX9_bestHoist 24 = .ok (.aload_n 2, 1) := by decide +kernel
theorem dX9_bestHoist_25 : decode cX9_bestHoist 25 = .ok (.getfield 93, 3) := by decide +kernel
theorem dX9_bestHoist_28 : decode cX9_bestHoist 28 = .ok (.if_icmp .ge 65, 3) := by decide +kernel
theorem dX9_bestHoist_31 : decode cX9_bestHoist 31 = .ok (.aload_n 2, 1) := by decide +kernel
theorem dX9_bestHoist_32 : decode cX9_bestHoist 32 = .ok (.iload 5, 2) := by decide +kernel
theorem dX9_bestHoist_34 : decode cX9_bestHoist 34 = .ok (.invokevirtual 152, 3) := by decide +kernel
theorem dX9_bestHoist_37 : decode cX9_bestHoist 37 = .ok (.ifCond .eq 50, 3) := by decide +kernel
theorem dX9_bestHoist_40 : decode cX9_bestHoist 40 = .ok (.aload_n 0, 1) := by decide +kernel
theorem dX9_bestHoist_41 : decode cX9_bestHoist 41 = .ok (.getfield 19, 3) := by decide +kernel
theorem dX9_bestHoist_44 : decode cX9_bestHoist 44 = .ok (.aload_n 2, 1) := by decide +kernel
theorem dX9_bestHoist_45 : decode cX9_bestHoist 45 = .ok (.iload 5, 2) := by decide +kernel
theorem dX9_bestHoist_47 : decode cX9_bestHoist 47 = .ok (.invokevirtual 249, 3) := by decide +kernel
theorem dX9_bestHoist_50 : decode cX9_bestHoist 50 = .ok (.istore 6, 2) := by decide +kernel
theorem dX9_bestHoist_52 : decode cX9_bestHoist 52 = .ok (.iload 6, 2) := by decide +kernel
theorem dX9_bestHoist_54 : decode cX9_bestHoist 54 = .ok (.iload 4, 2) := by decide +kernel
theorem dX9_bestHoist_56 : decode cX9_bestHoist 56 = .ok (.if_icmp .lt 24, 3) := by decide +kernel
theorem dX9_bestHoist_59 : decode cX9_bestHoist 59 = .ok (.iload 6, 2) := by decide +kernel
theorem dX9_bestHoist_61 : decode cX9_bestHoist 61 = .ok (.iload 4, 2) := by decide +kernel
theorem dX9_bestHoist_63 : decode cX9_bestHoist 63 = .ok (.if_icmp .ne 24, 3) := by decide +kernel
theorem dX9_bestHoist_66 : decode cX9_bestHoist 66 = .ok (.aload_n 2, 1) := by decide +kernel
theorem dX9_bestHoist_67 : decode cX9_bestHoist 67 = .ok (.iload 5, 2) := by decide +kernel
theorem dX9_bestHoist_69 : decode cX9_bestHoist 69 = .ok (.invokevirtual 236, 3) := by decide +kernel
theorem dX9_bestHoist_72 : decode cX9_bestHoist 72 = .ok (.aload_n 2, 1) := by decide +kernel
theorem dX9_bestHoist_73 : decode cX9_bestHoist 73 = .ok (.iload_n 3, 1) := by decide +kernel
theorem dX9_bestHoist_74 : decode cX9_bestHoist 74 = .ok (.invokevirtual 236, 3) := by decide +kernel
theorem dX9_bestHoist_77 : decode cX9_bestHoist 77 = .ok (.if_icmp .ge 10, 3) := by decide +kernel
theorem dX9_bestHoist_80 : decode cX9_bestHoist 80 = .ok (.iload 5, 2) := by decide +kernel
theorem dX9_bestHoist_82 : decode cX9_bestHoist 82 = .ok (.istore_n 3, 1) := by decide +kernel
theorem dX9_bestHoist_83 : decode cX9_bestHoist 83 = .ok (.iload 6, 2) := by decide +kernel
theorem dX9_bestHoist_85 : decode cX9_bestHoist 85 = .ok (.istore 4, 2) := by decide +kernel
theorem dX9_bestHoist_87 : decode cX9_bestHoist 87 = .ok (.iinc 5 1, 3) := by decide +kernel
theorem dX9_bestHoist_90 : decode cX9_bestHoist 90 = .ok (.goto (-68), 3) := by decide +kernel
theorem dX9_bestHoist_93 : decode cX9_bestHoist 93 = .ok (.iload_n 3, 1) := by decide +kernel
theorem dX9_bestHoist_94 : decode cX9_bestHoist 94 = .ok (.ireturn, 1) := by decide +kernel
theorem dX9_errorBred_0 : decode cX9_errorBred 0 = .ok (.aload_n 0, 1) := by decide +kernel
theorem dX9_errorBred_1 : decode cX9_errorBred 1 = .ok (.iload_n 1, 1) := by decide +kernel
theorem dX9_errorBred_2 : decode cX9_errorBred 2 = .ok (.invokevirtual 223, 3) := by decide +kernel
theorem dX9_errorBred_5 : decode cX9_errorBred 5 = .ok (.aload_n 0, 1) := by decide +kernel
theorem dX9_errorBred_6 : decode cX9_errorBred 6 = .ok (.getfield 58, 3) := by decide +kernel
theorem dX9_errorBred_9 : decode cX9_errorBred 9 = .ok (.aload_n 0, 1) := by decide +kernel
theorem dX9_errorBred_10 : decode cX9_errorBred 10 = .ok (.getfield 54, 3) := by decide +kernel
theorem dX9_errorBred_13 : decode cX9_errorBred 13 = .ok (.invokevirtual 286, 3) := by decide +kernel
theorem dX9_errorBred_16 : decode cX9_errorBred 16 = .ok (.aload_n 0, 1) := by decide +kernel
theorem dX9_errorBred_17 : decode cX9_errorBred 17 = .ok (.getfield 33, 3) := by decide +kernel
theorem dX9_errorBred_20 : decode cX9_errorBred 20 = .ok (.iload_n 1, 1) := by decide +kernel
theorem dX9_errorBred_21 : decode cX9_errorBred 21 = .ok (.aload_n 0, 1) := by decide +kernel
theorem dX9_errorBred_22 : decode cX9_errorBred 22 = .ok (.getfield 58, 3) := by decide +kernel
theorem dX9_errorBred_25 : decode cX9_errorBred 25 = .ok (.aload_n 0, 1) := by decide +kernel
theorem dX9_errorBred_26 : decode cX9_errorBred 26 = .ok (.getfield 19, 3) := by decide +kernel
theorem dX9_errorBred_29 : decode cX9_errorBred 29 = .ok (.invokevirtual 226, 3) := by decide +kernel
theorem dX9_errorBred_32 : decode cX9_errorBred 32 = .ok (.ireturn, 1) := by decide +kernel
theorem dX9_digest_0 : decode cX9_digest 0 = .ok (.ldc2_w 289, 3) := by decide +kernel
theorem dX9_digest_3 : decode cX9_digest 3 = .ok (.lstore_n 1, 1) := by decide +kernel
theorem dX9_digest_4 : decode cX9_digest 4 = .ok (.lload_n 1, 1) := by decide +kernel
theorem dX9_digest_5 : decode cX9_digest 5 = .ok (.ldc2_w 291, 3) := by decide +kernel
theorem dX9_digest_8 : decode cX9_digest 8 = .ok (.lmul, 1) := by decide +kernel
theorem dX9_digest_9 : decode cX9_digest 9 = .ok (.aload_n 0, 1) := by decide +kernel
theorem dX9_digest_10 : decode cX9_digest 10 = .ok (.getfield 10, 3) := by decide +kernel
theorem dX9_digest_13 : decode cX9_digest 13 = .ok (.getfield 90, 3) := by decide +kernel
theorem dX9_digest_16 : decode cX9_digest 16 = .ok (.getfield 93, 3) := by decide +kernel
theorem dX9_digest_19 : decode cX9_digest 19 = .ok (.i2l, 1) := by decide +kernel
theorem dX9_digest_20 : decode cX9_digest 20 = .ok (.ladd, 1) := by decide +kernel
theorem dX9_digest_21 : decode cX9_digest 21 = .ok (.lstore_n 1, 1) := by decide +kernel
theorem dX9_digest_22 : decode cX9_digest 22 = .ok (.lload_n 1, 1) := by decide +kernel
theorem dX9_digest_23 : decode cX9_digest 23 = .ok (.ldc2_w 291, 3) := by decide +kernel
theorem dX9_digest_26 : decode cX9_digest 26 = .ok (.lmul, 1) := by decide +kernel
theorem dX9_digest_27 : decode cX9_digest 27 = .ok (.aload_n 0, 1) := by decide +kernel
theorem dX9_digest_28 : decode cX9_digest 28 = .ok (.getfield 54, 3) := by decide +kernel
theorem dX9_digest_31 : decode cX9_digest 31 = .ok (.getfield 99, 3) := by decide +kernel
theorem dX9_digest_34 : decode cX9_digest 34 = .ok (.i2l, 1) := by decide +kernel
theorem dX9_digest_35 : decode cX9_digest 35 = .ok (.ladd, 1) := by decide +kernel
theorem dX9_digest_36 : decode cX9_digest 36 = .ok (.lstore_n 1, 1) := by decide +kernel
theorem dX9_digest_37 : decode cX9_digest 37 = .ok (.lload_n 1, 1) := by decide +kernel
theorem dX9_digest_38 : decode cX9_digest 38 = .ok (.ldc2_w 291, 3) := by decide +kernel
theorem dX9_digest_41 : decode cX9_digest 41 = .ok (.lmul, 1) := by decide +kernel
theorem dX9_digest_42 : decode cX9_digest 42 = .ok (.aload_n 0, 1) := by decide +kernel
theorem dX9_digest_43 : decode cX9_digest 43 = .ok (.getfield 19, 3) := by decide +kernel
theorem dX9_digest_46 : decode cX9_digest 46 = .ok (.getfield 125, 3) := by decide +kernel
theorem dX9_digest_49 : decode cX9_digest 49 = .ok (.i2l, 1) := by decide +kernel
theorem dX9_digest_50 : decode cX9_digest 50 = .ok (.ladd, 1) := by decide +kernel
theorem dX9_digest_51 : decode cX9_digest 51 = .ok (.lstore_n 1, 1) := by decide +kernel
theorem dX9_digest_52 : decode cX9_digest 52 = .ok (.lload_n 1, 1) := by decide +kernel
theorem dX9_digest_53 : decode cX9_digest 53 = .ok (.ldc2_w 291, 3) := by decide +kernel
theorem dX9_digest_56 : decode cX9_digest 56 = .ok (.lmul, 1) := by decide +kernel
theorem dX9_digest_57 : decode cX9_digest 57 = .ok (.aload_n 0, 1) := by decide +kernel
theorem dX9_digest_58 : decode cX9_digest 58 = .ok (.getfield 54, 3) := by decide +kernel
theorem dX9_digest_61 : decode cX9_digest 61 = .ok (.getfield 280, 3) := by decide +kernel
theorem dX9_digest_64 : decode cX9_digest 64 = .ok (.i2l, 1) := by decide +kernel
theorem dX9_digest_65 : decode cX9_digest 65 = .ok (.ladd, 1) := by decide +kernel
theorem dX9_digest_66 : decode cX9_digest 66 = .ok (.lstore_n 1, 1) := by decide +kernel
theorem dX9_digest_67 : decode cX9_digest 67 = .ok (.lload_n 1, 1) := by decide +kernel
theorem dX9_digest_68 : decode cX9_digest 68 = .ok (.ldc2_w 291, 3) := by decide +kernel
theorem dX9_digest_71 : decode cX9_digest 71 = .ok (.lmul, 1) := by decide +kernel
theorem dX9_digest_72 : decode cX9_digest 72 = .ok (.aload_n 0, 1) := by decide +kernel
theorem dX9_digest_73 : decode cX9_digest 73 = .ok (.getfield 54, 3) := by decide +kernel
theorem dX9_digest_76 : decode cX9_digest 76 = .ok (.getfield 283, 3) := by decide +kernel
theorem dX9_digest_79 : decode cX9_digest 79 = .ok (.i2l, 1) := by decide +kernel
theorem dX9_digest_80 : decode cX9_digest 80 = .ok (.ladd, 1) := by decide +kernel
theorem dX9_digest_81 : decode cX9_digest 81 = .ok (.lstore_n 1, 1) := by decide +kernel
theorem dX9_digest_82 : decode cX9_digest 82 = .ok (.lload_n 1, 1) := by decide +kernel
theorem dX9_digest_83 : decode cX9_digest 83 = .ok (.ldc2_w 291, 3) := by decide +kernel
theorem dX9_digest_86 : decode cX9_digest 86 = .ok (.lmul, 1) := by decide +kernel
theorem dX9_digest_87 : decode cX9_digest 87 = .ok (.aload_n 0, 1) := by decide +kernel
theorem dX9_digest_88 : decode cX9_digest 88 = .ok (.getfield 54, 3) := by decide +kernel
theorem dX9_digest_91 : decode cX9_digest 91 = .ok (.getfield 205, 3) := by decide +kernel
theorem dX9_digest_94 : decode cX9_digest 94 = .ok (.getfield 209, 3) := by decide +kernel
theorem dX9_digest_97 : decode cX9_digest 97 = .ok (.i2l, 1) := by decide +kernel
theorem dX9_digest_98 : decode cX9_digest 98 = .ok (.ladd, 1) := by decide +kernel
theorem dX9_digest_99 : decode cX9_digest 99 = .ok (.lstore_n 1, 1) := by decide +kernel
theorem dX9_digest_100 : decode cX9_digest 100 = .ok (.lload_n 1, 1) := by decide +kernel
theorem dX9_digest_101 : decode cX9_digest 101 = .ok (.ldc2_w 291, 3) := by decide +kernel
theorem dX9_digest_104 : decode cX9_digest 104 = .ok (.lmul, 1) := by decide +kernel
theorem dX9_digest_105 : decode cX9_digest 105 = .ok (.aload_n 0, 1) := by decide +kernel
theorem dX9_digest_106 : decode cX9_digest 106 = .ok (.getfield 54, 3) := by decide +kernel
theorem dX9_digest_109 : decode cX9_digest 109 = .ok (.getfield 205, 3) := by decide +kernel
theorem dX9_digest_112 : decode cX9_digest 112 = .ok (.getfield 216, 3) := by decide +kernel
theorem dX9_digest_115 : decode cX9_digest 115 = .ok (.i2l, 1) := by decide +kernel
theorem dX9_digest_116 : decode cX9_digest 116 = .ok (.ladd, 1) := by decide +kernel
theorem dX9_digest_117 : decode cX9_digest 117 = .ok (.lstore_n 1, 1) := by decide +kernel
theorem dX9_digest_118 : decode cX9_digest 118 = .ok (.lload_n 1, 1) := by decide +kernel
theorem dX9_digest_119 : decode cX9_digest 119 = .ok (.ldc2_w 291, 3) := by decide +kernel
theorem dX9_digest_122 : decode cX9_digest 122 = .ok (.lmul, 1) := by decide +kernel
theorem dX9_digest_123 : decode cX9_digest 123 = .ok (.aload_n 0, 1) := by decide +kernel
theorem dX9_digest_124 : decode cX9_digest 124 = .ok (.invokevirtual 293, 3) := by decide +kernel
theorem dX9_digest_127 : decode cX9_digest 127 = .ok (.i2l, 1) := by decide +kernel
theorem dX9_digest_128 : decode cX9_digest 128 = .ok (.ladd, 1) := by decide +kernel
theorem dX9_digest_129 : decode cX9_digest 129 = .ok (.lstore_n 1, 1) := by decide +kernel
theorem dX9_digest_130 : decode cX9_digest 130 = .ok (.iconst 0, 1) := by decide +kernel
theorem dX9_digest_131 : decode cX9_digest 131 = .ok (.istore_n 3, 1) := by decide +kernel
theorem dX9_digest_132 : decode cX9_digest 132 = .ok (.iload_n 3, 1) := by decide +kernel
theorem dX9_digest_133 : decode cX9_digest 133 = .ok (.aload_n 0, 1) := by decide +kernel
theorem dX9_digest_134 : decode cX9_digest 134 = .ok (.getfield 54, 3) := by decide +kernel
theorem dX9_digest_137 : decode cX9_digest 137 = .ok (.getfield 99, 3) := by decide +kernel
theorem dX9_digest_140 : decode cX9_digest 140 = .ok (.if_icmp .ge 23, 3) := by decide +kernel
theorem dX9_digest_143 : decode cX9_digest 143 = .ok (.aload_n 0, 1) := by decide +kernel
theorem dX9_digest_144 : decode cX9_digest 144 = .ok (.lload_n 1, 1) := by decide +kernel
theorem dX9_digest_145 : decode cX9_digest 145 = .ok (.aload_n 0, 1) := by decide +kernel
theorem dX9_digest_146 : decode cX9_digest 146 = .ok (.getfield 54, 3) := by decide +kernel
theorem dX9_digest_149 : decode cX9_digest 149 = .ok (.iload_n 3, 1) := by decide +kernel
theorem dX9_digest_150 : decode cX9_digest 150 = .ok (.invokevirtual 277, 3) := by decide +kernel
theorem dX9_digest_153 : decode cX9_digest 153 = .ok (.invokevirtual 297, 3) := by decide +kernel
theorem dX9_digest_156 : decode cX9_digest 156 = .ok (.lstore_n 1, 1) := by decide +kernel
theorem dX9_digest_157 : decode cX9_digest 157 = .ok (.iinc 3 1, 3) := by decide +kernel
theorem dX9_digest_160 : decode cX9_digest 160 = .ok (.goto (-28), 3) := by decide +kernel
theorem dX9_digest_163 : decode cX9_digest 163 = .ok (.aload_n 0, 1) := by decide +kernel
theorem dX9_digest_164 : decode cX9_digest 164 = .ok (.getfield 26, 3) := by decide +kernel
theorem dX9_digest_167 : decode cX9_digest 167 = .ok (.aload_n 0, 1) := by decide +kernel
theorem dX9_digest_168 : decode cX9_digest 168 = .ok (.getfield 54, 3) := by decide +kernel
theorem dX9_digest_171 : decode cX9_digest 171 = .ok (.aload_n 0, 1) := by decide +kernel
theorem dX9_digest_172 : decode cX9_digest 172 = .ok (.getfield 19, 3) := by decide +kernel
theorem dX9_digest_175 : decode cX9_digest 175 = .ok (.invokevirtual 264, 3) := by decide +kernel
theorem dX9_digest_178 : decode cX9_digest 178 = .ok (.iconst 0, 1) := by decide +kernel
theorem dX9_digest_179 : decode cX9_digest 179 = .ok (.istore_n 3, 1) := by decide +kernel
theorem dX9_digest_180 : decode cX9_digest 180 = .ok (.iload_n 3, 1) := by decide +kernel
theorem dX9_digest_181 : decode cX9_digest 181 = .ok (.aload_n 0, 1) := by decide +kernel
theorem dX9_digest_182 : decode cX9_digest 182 = .ok (.getfield 54, 3) := by decide +kernel
theorem dX9_digest_185 : decode cX9_digest 185 = .ok (.getfield 99, 3) := by decide +kernel
theorem dX9_digest_188 : decode cX9_digest 188 = .ok (.if_icmp .ge 25, 3) := by decide +kernel
theorem dX9_digest_191 : decode cX9_digest 191 = .ok (.lload_n 1, 1) := by decide +kernel
theorem dX9_digest_192 : decode cX9_digest 192 = .ok (.ldc2_w 291, 3) := by decide +kernel
theorem dX9_digest_195 : decode cX9_digest 195 = .ok (.lmul, 1) := by decide +kernel
theorem dX9_digest_196 : decode cX9_digest 196 = .ok (.aload_n 0, 1) := by decide +kernel
theorem dX9_digest_197 : decode cX9_digest 197 = .ok (.getfield 26, 3) := by decide +kernel
theorem dX9_digest_200 : decode cX9_digest 200 = .ok (.iload_n 3, 1) := by decide +kernel
theorem dX9_digest_201 : decode cX9_digest 201 = .ok (.invokevirtual 268, 3) := by decide +kernel
theorem dX9_digest_204 : decode cX9_digest 204 = .ok (.i2l, 1) := by decide +kernel
theorem dX9_digest_205 : decode cX9_digest 205 = .ok (.ladd, 1) := by decide +kernel
theorem dX9_digest_206 : decode cX9_digest 206 = .ok (.lstore_n 1, 1) := by decide +kernel
theorem dX9_digest_207 : decode cX9_digest 207 = .ok (.iinc 3 1, 3) := by decide +kernel
theorem dX9_digest_210 : decode cX9_digest 210 = .ok (.goto (-30), 3) := by decide +kernel
theorem dX9_digest_213 : decode cX9_digest 213 = .ok (.lload_n 1, 1) := by decide +kernel
theorem dX9_digest_214 : decode cX9_digest 214 = .ok (.lreturn, 1) := by decide +kernel
theorem dX9_digestWith_0 : decode cX9_digestWith 0 = .ok (.lload_n 1, 1) := by decide +kernel
theorem dX9_digestWith_1 : decode cX9_digestWith 1 = .ok (.lstore 4, 2) := by decide +kernel
theorem dX9_digestWith_3 : decode cX9_digestWith 3 = .ok (.lload 4, 2) := by decide +kernel
theorem dX9_digestWith_5 : decode cX9_digestWith 5 = .ok (.ldc2_w 291, 3) := by decide +kernel
theorem dX9_digestWith_8 : decode cX9_digestWith 8 = .ok (.lmul, 1) := by decide +kernel
theorem dX9_digestWith_9 : decode cX9_digestWith 9 = .ok (.aload_n 3, 1) := by decide +kernel
theorem dX9_digestWith_10 : decode cX9_digestWith 10 = .ok (.getfield 93, 3) := by decide +kernel
theorem dX9_digestWith_13 : decode cX9_digestWith 13 = .ok (.i2l, 1) := by decide +kernel
theorem dX9_digestWith_14 : decode cX9_digestWith 14 = .ok (.ladd, 1) := by decide +kernel
theorem dX9_digestWith_15 : decode cX9_digestWith 15 = .ok (.lstore 4, 2) := by decide +kernel
theorem dX9_digestWith_17 : decode cX9_digestWith 17 = .ok (.lload 4, 2) := by decide +kernel
theorem dX9_digestWith_19 : decode cX9_digestWith 19 = .ok (.ldc2_w 291, 3) := by decide +kernel
theorem dX9_digestWith_22 : decode cX9_digestWith 22 = .ok (.lmul, 1) := by decide +kernel
theorem dX9_digestWith_23 : decode cX9_digestWith 23 = .ok (.aload_n 3, 1) := by decide +kernel
theorem dX9_digestWith_24 : decode cX9_digestWith 24 = .ok (.getfield 230, 3) := by decide +kernel
theorem dX9_digestWith_27 : decode cX9_digestWith 27 = .ok (.i2l, 1) := by decide +kernel
theorem dX9_digestWith_28 : decode cX9_digestWith 28 = .ok (.ladd, 1) := by decide +kernel
theorem dX9_digestWith_29 : decode cX9_digestWith 29 = .ok (.lstore 4, 2) := by decide +kernel
theorem dX9_digestWith_31 : decode cX9_digestWith 31 = .ok (.lload 4, 2) := by decide +kernel
theorem dX9_digestWith_33 : decode cX9_digestWith 33 = .ok (.ldc2_w 291, 3) := by decide +kernel
theorem dX9_digestWith_36 : decode cX9_digestWith 36 = .ok (.lmul, 1) := by decide +kernel
theorem dX9_digestWith_37 : decode cX9_digestWith 37 = .ok (.aload_n 0, 1) := by decide +kernel
theorem dX9_digestWith_38 : decode cX9_digestWith 38 = .ok (.getfield 19, 3) := by decide +kernel
theorem dX9_digestWith_41 : decode cX9_digestWith 41 = .ok (.aload_n 3, 1) := by decide +kernel
theorem dX9_digestWith_42 : decode cX9_digestWith 42 = .ok (.iconst 0, 1) := by decide +kernel
theorem dX9_digestWith_43 : decode cX9_digestWith 43 = .ok (.invokevirtual 249, 3) := by decide +kernel
theorem dX9_digestWith_46 : decode cX9_digestWith 46 = .ok (.i2l, 1) := by decide +kernel
theorem dX9_digestWith_47 : decode cX9_digestWith 47 = .ok (.ladd, 1) := by decide +kernel
theorem dX9_digestWith_48 : decode cX9_digestWith 48 = .ok (.lstore 4, 2) := by decide +kernel
theorem dX9_digestWith_50 : decode cX9_digestWith 50 = .ok (.lload 4, 2) := by decide +kernel
theorem dX9_digestWith_52 : decode cX9_digestWith 52 = .ok (.ldc2_w 291, 3) := by decide +kernel
theorem dX9_digestWith_55 : decode cX9_digestWith 55 = .ok (.lmul, 1) := by decide +kernel
theorem dX9_digestWith_56 : decode cX9_digestWith 56 = .ok (.aload_n 0, 1) := by decide +kernel
theorem dX9_digestWith_57 : decode cX9_digestWith 57 = .ok (.getfield 19, 3) := by decide +kernel
theorem dX9_digestWith_60 : decode cX9_digestWith 60 = .ok (.aload_n 3, 1) := by decide +kernel
theorem dX9_digestWith_61 : decode cX9_digestWith 61 = .ok (.invokevirtual 252, 3) := by decide +kernel
theorem dX9_digestWith_64 : decode cX9_digestWith 64 = .ok (.i2l, 1) := by decide +kernel
theorem dX9_digestWith_65 : decode cX9_digestWith 65 = .ok (.ladd, 1) := by decide +kernel
theorem dX9_digestWith_66 : decode cX9_digestWith 66 = .ok (.lstore 4, 2) := by decide +kernel
theorem dX9_digestWith_68 : decode cX9_digestWith 68 = .ok (.lload 4, 2) := by decide +kernel
theorem dX9_digestWith_70 : decode cX9_digestWith 70 = .ok (.ldc2_w 291, 3) := by decide +kernel
theorem dX9_digestWith_73 : decode cX9_digestWith 73 = .ok (.lmul, 1) := by decide +kernel
theorem dX9_digestWith_74 : decode cX9_digestWith 74 = .ok (.aload_n 0, 1) := by decide +kernel
theorem dX9_digestWith_75 : decode cX9_digestWith 75 = .ok (.getfield 19, 3) := by decide +kernel
theorem dX9_digestWith_78 : decode cX9_digestWith 78 = .ok (.aload_n 3, 1) := by decide +kernel
theorem dX9_digestWith_79 : decode cX9_digestWith 79 = .ok (.invokevirtual 256, 3) := by decide +kernel
theorem dX9_digestWith_82 : decode cX9_digestWith 82 = .ok (.i2l, 1) := by decide +kernel
theorem dX9_digestWith_83 : decode cX9_digestWith 83 = .ok (.ladd, 1) := by decide +kernel
theorem dX9_digestWith_84 : decode cX9_digestWith 84 = .ok (.lstore 4, 2) := by decide +kernel
theorem dX9_digestWith_86 : decode cX9_digestWith 86 = .ok (.iconst 0, 1) := by decide +kernel
theorem dX9_digestWith_87 : decode cX9_digestWith 87 = .ok (.istore 6, 2) := by decide +kernel
theorem dX9_digestWith_89 : decode cX9_digestWith 89 = .ok (.iload 6, 2) := by decide +kernel
theorem dX9_digestWith_91 : decode cX9_digestWith 91 = .ok (.aload_n 3, 1) := by decide +kernel
theorem dX9_digestWith_92 : decode cX9_digestWith 92 = .ok (.getfield 93, 3) := by decide +kernel
theorem dX9_digestWith_95 : decode cX9_digestWith 95 = .ok (.if_icmp .ge 41, 3) := by decide +kernel
theorem dX9_digestWith_98 : decode cX9_digestWith 98 = .ok (.lload 4, 2) := by decide +kernel
theorem dX9_digestWith_100 : decode cX9_digestWith 100 = .ok (.ldc2_w 291, 3) := by decide +kernel
theorem dX9_digestWith_103 : decode cX9_digestWith 103 = .ok (.lmul, 1) := by decide +kernel
theorem dX9_digestWith_104 : decode cX9_digestWith 104 = .ok (.aload_n 3, 1) := by decide +kernel
theorem dX9_digestWith_105 : decode cX9_digestWith 105 = .ok (.iload 6, 2) := by decide +kernel
theorem dX9_digestWith_107 : decode cX9_digestWith 107 = .ok (.invokevirtual 158, 3) := by decide +kernel
theorem dX9_digestWith_110 : decode cX9_digestWith 110 = .ok (.i2l, 1) := by decide +kernel
theorem dX9_digestWith_111 : decode cX9_digestWith 111 = .ok (.ladd, 1) := by decide +kernel
theorem dX9_digestWith_112 : decode cX9_digestWith 112 = .ok (.lstore 4, 2) := by decide +kernel
theorem dX9_digestWith_114 : decode cX9_digestWith 114 = .ok (.lload 4, 2) := by decide +kernel
theorem dX9_digestWith_116 : decode cX9_digestWith 116 = .ok (.ldc2_w 291, 3) := by decide +kernel
theorem dX9_digestWith_119 : decode cX9_digestWith 119 = .ok (.lmul, 1) := by decide +kernel
theorem dX9_digestWith_120 : decode cX9_digestWith 120 = .ok (.aload_n 3, 1) := by decide +kernel
theorem dX9_digestWith_121 : decode cX9_digestWith 121 = .ok (.iload 6, 2) := by decide +kernel
theorem dX9_digestWith_123 : decode cX9_digestWith 123 = .ok (.invokevirtual 233, 3) := by decide +kernel
theorem dX9_digestWith_126 : decode cX9_digestWith 126 = .ok (.i2l, 1) := by decide +kernel
theorem dX9_digestWith_127 : decode cX9_digestWith 127 = .ok (.ladd, 1) := by decide +kernel
theorem dX9_digestWith_128 : decode cX9_digestWith 128 = .ok (.lstore 4, 2) := by decide +kernel
theorem dX9_digestWith_130 : decode cX9_digestWith 130 = .ok (.iinc 6 1, 3) := by decide +kernel
theorem dX9_digestWith_133 : decode cX9_digestWith 133 = .ok (.goto (-44), 3) := by decide +kernel
theorem dX9_digestWith_136 : decode cX9_digestWith 136 = .ok (.lload 4, 2) := by decide +kernel
theorem dX9_digestWith_138 : decode cX9_digestWith 138 = .ok (.lreturn, 1) := by decide +kernel
theorem dX9_requireTree_0 : decode cX9_requireTree 0 = .ok (.iload_n 1, 1) := by decide +kernel
theorem dX9_requireTree_1 : decode cX9_requireTree 1 = .ok (.ifCond .lt 14, 3) := by decide +kernel
theorem dX9_requireTree_4 : decode cX9_requireTree 4 = .ok (.iload_n 1, 1) := by decide +kernel
theorem dX9_requireTree_5 : decode cX9_requireTree 5 = .ok (.aload_n 0, 1) := by decide +kernel
theorem dX9_requireTree_6 : decode cX9_requireTree 6 = .ok (.getfield 54, 3) := by decide +kernel
theorem dX9_requireTree_9 : decode cX9_requireTree 9 = .ok (.getfield 99, 3) := by decide +kernel
theorem dX9_requireTree_12 : decode cX9_requireTree 12 = .ok (.if_icmp .lt 14, 3) := by decide +kernel
theorem dX9_requireTree_15 : decode cX9_requireTree 15 = .ok (.new 259, 3) := by decide +kernel
theorem dX9_requireTree_18 : decode cX9_requireTree 18 = .ok (.dup, 1) := by decide +kernel
theorem dX9_requireTree_19 : decode cX9_requireTree 19 = .ok (.ldc_w 301, 3) := by decide +kernel
theorem dX9_requireTree_22 : decode cX9_requireTree 22 = .ok (.invokespecial 263, 3) := by decide +kernel
theorem dX9_requireTree_25 : decode cX9_requireTree 25 = .ok (.athrow, 1) := by decide +kernel
theorem dX9_requireTree_26 : decode cX9_requireTree 26 = .ok (.aload_n 0, 1) := by decide +kernel
theorem dX9_requireTree_27 : decode cX9_requireTree 27 = .ok (.getfield 54, 3) := by decide +kernel
theorem dX9_requireTree_30 : decode cX9_requireTree 30 = .ok (.iload_n 1, 1) := by decide +kernel
theorem dX9_requireTree_31 : decode cX9_requireTree 31 = .ok (.invokevirtual 277, 3) := by decide +kernel
theorem dX9_requireTree_34 : decode cX9_requireTree 34 = .ok (.areturn, 1) := by decide +kernel
theorem dX9_requirePlace_0 : decode cX9_requirePlace 0 = .ok (.aload_n 0, 1) := by decide +kernel
theorem dX9_requirePlace_1 : decode cX9_requirePlace 1 = .ok (.iload_n 1, 1) := by decide +kernel
theorem dX9_requirePlace_2 : decode cX9_requirePlace 2 = .ok (.invokevirtual 108, 3) := by decide +kernel
theorem dX9_requirePlace_5 : decode cX9_requirePlace 5 = .ok (.astore_n 3, 1) := by decide +kernel
theorem dX9_requirePlace_6 : decode cX9_requirePlace 6 = .ok (.iload_n 2, 1) := by decide +kernel
theorem dX9_requirePlace_7 : decode cX9_requirePlace 7 = .ok (.ifCond .lt 11, 3) := by decide +kernel
theorem dX9_requirePlace_10 : decode cX9_requirePlace 10 = .ok (.iload_n 2, 1) := by decide +kernel
theorem dX9_requirePlace_11 : decode cX9_requirePlace 11 = .ok (.aload_n 3, 1) := by decide +kernel
theorem dX9_requirePlace_12 : decode cX9_requirePlace 12 = .ok (.getfield 93, 3) := by decide +kernel
theorem dX9_requirePlace_15 : decode cX9_requirePlace 15 = .ok (.if_icmp .lt 14, 3) := by decide +kernel
theorem dX9_requirePlace_18 : decode cX9_requirePlace 18 = .ok (.new 259, 3) := by decide +kernel
theorem dX9_requirePlace_21 : decode cX9_requirePlace 21 = .ok (.dup, 1) := by decide +kernel
theorem dX9_requirePlace_22 : decode cX9_requirePlace 22 = .ok (.ldc_w 303, 3) := by decide +kernel
theorem dX9_requirePlace_25 : decode cX9_requirePlace 25 = .ok (.invokespecial 263, 3) := by decide +kernel
theorem dX9_requirePlace_28 : decode cX9_requirePlace 28 = .ok (.athrow, 1) := by decide +kernel
theorem dX9_requirePlace_29 : decode cX9_requirePlace 29 = .ok (.aload_n 3, 1) := by decide +kernel
theorem dX9_requirePlace_30 : decode cX9_requirePlace 30 = .ok (.areturn, 1) := by decide +kernel
theorem dX9_requireBreeding_0 : decode cX9_requireBreeding 0 = .ok (.iload_n 1, 1) := by decide +kernel
theorem dX9_requireBreeding_1 : decode cX9_requireBreeding 1 = .ok (.iconst 1, 1) := by decide +kernel
theorem dX9_requireBreeding_2 : decode cX9_requireBreeding 2 = .ok (.if_icmp .lt 9, 3) := by decide +kernel
theorem dX9_requireBreeding_5 : decode cX9_requireBreeding 5 = .ok (.iload_n 1, 1) := by decide +kernel
theorem dX9_requireBreeding_6 : decode cX9_requireBreeding 6 = .ok (.bipush 10, 2) := by decide +kernel
theorem dX9_requireBreeding_8 : decode cX9_requireBreeding 8 = .ok (.if_icmp .le 14, 3) := by decide +kernel
theorem dX9_requireBreeding_11 : decode cX9_requireBreeding 11 = .ok (.new 120, 3) := by decide +kernel
theorem dX9_requireBreeding_14 : decode cX9_requireBreeding 14 = .ok (.dup, 1) := by decide +kernel
theorem dX9_requireBreeding_15 : decode cX9_requireBreeding 15 = .ok (.ldc_w 305, 3) := by decide +kernel
theorem dX9_requireBreeding_18 : decode cX9_requireBreeding 18 = .ok (.invokespecial 124, 3) := by decide +kernel
theorem dX9_requireBreeding_21 : decode cX9_requireBreeding 21 = .ok (.athrow, 1) := by decide +kernel
theorem dX9_requireBreeding_22 : decode cX9_requireBreeding 22 = .ok (.aload_n 0, 1) := by decide +kernel
theorem dX9_requireBreeding_23 : decode cX9_requireBreeding 23 = .ok (.getfield 54, 3) := by decide +kernel
theorem dX9_requireBreeding_26 : decode cX9_requireBreeding 26 = .ok (.getfield 99, 3) := by decide +kernel
theorem dX9_requireBreeding_29 : decode cX9_requireBreeding 29 = .ok (.ifCond .ne 14, 3) := by decide +kernel
theorem dX9_requireBreeding_32 : decode cX9_requireBreeding 32 = .ok (.new 76, 3) := by decide +kernel
theorem dX9_requireBreeding_35 : decode cX9_requireBreeding 35 = .ok (.dup, 1) := by decide +kernel
theorem dX9_requireBreeding_36 : decode cX9_requireBreeding 36 = .ok (.ldc_w 307, 3) := by decide +kernel
theorem dX9_requireBreeding_39 : decode cX9_requireBreeding 39 = .ok (.invokespecial 80, 3) := by decide +kernel
theorem dX9_requireBreeding_42 : decode cX9_requireBreeding 42 = .ok (.athrow, 1) := by decide +kernel
theorem dX9_requireBreeding_43 : decode cX9_requireBreeding 43 = .ok (.return_, 1) := by decide +kernel
theorem dX9_requireNode_0 : decode cX9_requireNode 0 = .ok (.iload_n 0, 1) := by decide +kernel
theorem dX9_requireNode_1 : decode cX9_requireNode 1 = .ok (.ifCond .lt 9, 3) := by decide +kernel
theorem dX9_requireNode_4 : decode cX9_requireNode 4 = .ok (.iload_n 0, 1) := by decide +kernel
theorem dX9_requireNode_5 : decode cX9_requireNode 5 = .ok (.bipush 13, 2) := by decide +kernel
theorem dX9_requireNode_7 : decode cX9_requireNode 7 = .ok (.if_icmp .le 14, 3) := by decide +kernel
theorem dX9_requireNode_10 : decode cX9_requireNode 10 = .ok (.new 120, 3) := by decide +kernel
theorem dX9_requireNode_13 : decode cX9_requireNode 13 = .ok (.dup, 1) := by decide +kernel
theorem dX9_requireNode_14 : decode cX9_requireNode 14 = .ok (.ldc_w 309, 3) := by decide +kernel
theorem dX9_requireNode_17 : decode cX9_requireNode 17 = .ok (.invokespecial 124, 3) := by decide +kernel
theorem dX9_requireNode_20 : decode cX9_requireNode 20 = .ok (.athrow, 1) := by decide +kernel
theorem dX9_requireNode_21 : decode cX9_requireNode 21 = .ok (.iload_n 0, 1) := by decide +kernel
theorem dX9_requireNode_22 : decode cX9_requireNode 22 = .ok (.ifCond .ne 26, 3) := by decide +kernel
theorem dX9_requireNode_25 : decode cX9_requireNode 25 = .ok (.iload_n 1, 1) := by decide +kernel
theorem dX9_requireNode_26 : decode cX9_requireNode 26 = .ok (.bipush (-99), 2) := by decide +kernel
theorem dX9_requireNode_28 : decode cX9_requireNode 28 = .ok (.if_icmp .lt 9, 3) := by decide +kernel
theorem dX9_requireNode_31 : decode cX9_requireNode 31 = .ok (.iload_n 1, 1) := by decide +kernel
theorem dX9_requireNode_32 : decode cX9_requireNode 32 = .ok (.bipush 99, 2) := by decide +kernel
theorem dX9_requireNode_34 : decode cX9_requireNode 34 = .ok (.if_icmp .le 14, 3) := by decide +kernel
theorem dX9_requireNode_37 : decode cX9_requireNode 37 = .ok (.new 120, 3) := by decide +kernel
theorem dX9_requireNode_40 : decode cX9_requireNode 40 = .ok (.dup, 1) := by decide +kernel
theorem dX9_requireNode_41 : decode cX9_requireNode 41 = .ok (.ldc_w 311, 3) := by decide +kernel
theorem dX9_requireNode_44 : decode cX9_requireNode 44 = .ok (.invokespecial 124, 3) := by decide +kernel
theorem dX9_requireNode_47 : decode cX9_requireNode 47 = .ok (.athrow, 1) := by decide +kernel
theorem dX9_requireNode_48 : decode cX9_requireNode 48 = .ok (.iload_n 0, 1) := by decide +kernel
theorem dX9_requireNode_49 : decode cX9_requireNode 49 = .ok (.iconst 1, 1) := by decide +kernel
theorem dX9_requireNode_50 : decode cX9_requireNode 50 = .ok (.if_icmp .ne 23, 3) := by decide +kernel
theorem dX9_requireNode_53 : decode cX9_requireNode 53 = .ok (.iload_n 1, 1) := by decide +kernel
theorem dX9_requireNode_54 : decode cX9_requireNode 54 = .ok (.ifCond .lt 8, 3) := by decide +kernel
theorem dX9_requireNode_57 : decode cX9_requireNode 57 = .ok (.iload_n 1, 1) := by decide +kernel
theorem dX9_requireNode_58 : decode cX9_requireNode 58 = .ok (.iconst 3, 1) := by decide +kernel
theorem dX9_requireNode_59 : decode cX9_requireNode 59 = .ok (.if_icmp .lt 14, 3) := by decide +kernel
theorem dX9_requireNode_62 : decode cX9_requireNode 62 = .ok (.new 120, 3) := by decide +kernel
theorem dX9_requireNode_65 : decode cX9_requireNode 65 = .ok (.dup, 1) := by decide +kernel
theorem dX9_requireNode_66 : decode cX9_requireNode 66 = .ok (.ldc_w 313, 3) := by decide +kernel
theorem dX9_requireNode_69 : decode cX9_requireNode 69 = .ok (.invokespecial 124, 3) := by decide +kernel
theorem dX9_requireNode_72 : decode cX9_requireNode 72 = .ok (.athrow, 1) := by decide +kernel
theorem dX9_requireNode_73 : decode cX9_requireNode 73 = .ok (.return_, 1) := by decide +kernel
theorem dX9_requireInputs_0 : decode cX9_requireInputs 0 = .ok (.iload_n 0, 1) := by decide +kernel
theorem dX9_requireInputs_1 : decode cX9_requireInputs 1 = .ok (.invokestatic 315, 3) := by decide +kernel
theorem dX9_requireInputs_4 : decode cX9_requireInputs 4 = .ok (.ifCond .eq 17, 3) := by decide +kernel
theorem dX9_requireInputs_7 : decode cX9_requireInputs 7 = .ok (.iload_n 1, 1) := by decide +kernel
theorem dX9_requireInputs_8 : decode cX9_requireInputs 8 = .ok (.invokestatic 315, 3) := by decide +kernel
theorem dX9_requireInputs_11 : decode cX9_requireInputs 11 = .ok (.ifCond .eq 10, 3) := by decide +kernel
theorem dX9_requireInputs_14 : decode cX9_requireInputs 14 = .ok (.iload_n 2, 1) := by decide +kernel
theorem dX9_requireInputs_15 : decode cX9_requireInputs 15 = .ok (.invokestatic 315, 3) := by decide +kernel
theorem dX9_requireInputs_18 : decode cX9_requireInputs 18 = .ok (.ifCond .ne 14, 3) := by decide +kernel
theorem dX9_requireInputs_21 : decode cX9_requireInputs 21 = .ok (.new 120, 3) := by decide +kernel
theorem dX9_requireInputs_24 : decode cX9_requireInputs 24 = .ok (.dup, 1) := by decide +kernel
theorem dX9_requireInputs_25 : decode cX9_requireInputs 25 = .ok (.ldc_w 318, 3) := by decide +kernel
theorem dX9_requireInputs_28 : decode cX9_requireInputs 28 = .ok (.invokespecial 124, 3) := by decide +kernel
theorem dX9_requireInputs_31 : decode cX9_requireInputs 31 = .ok (.athrow, 1) := by decide +kernel
theorem dX9_requireInputs_32 : decode cX9_requireInputs 32 = .ok (.return_, 1) := by decide +kernel
theorem dX9_isInput_0 : decode cX9_isInput 0 = .ok (.iload_n 0, 1) := by decide +kernel
theorem dX9_isInput_1 : decode cX9_isInput 1 = .ok (.bipush (-99), 2) := by decide +kernel
theorem dX9_isInput_3 : decode cX9_isInput 3 = .ok (.if_icmp .lt 13, 3) := by decide +kernel
theorem dX9_isInput_6 : decode cX9_isInput 6 = .ok (.iload_n 0, 1) := by decide +kernel
theorem dX9_isInput_7 : decode cX9_isInput 7 = .ok (.bipush 99, 2) := by decide +kernel
theorem dX9_isInput_9 : decode cX9_isInput 9 = .ok (.if_icmp .gt 7, 3) := by decide +kernel
theorem dX9_isInput_12 : decode cX9_isInput 12 = .ok (.iconst 1, 1) := by decide +kernel
theorem dX9_isInput_13 : decode cX9_isInput 13 = .ok (.goto 4, 3) := by decide +kernel
theorem dX9_isInput_16 : decode cX9_isInput 16 = .ok (.iconst 0, 1) := by decide +kernel
theorem dX9_isInput_17 : decode cX9_isInput 17 = .ok (.ireturn, 1) := by decide +kernel
theorem dX9_isRate_0 : decode cX9_isRate 0 = .ok (.iload_n 0, 1) := by decide +kernel
theorem dX9_isRate_1 : decode cX9_isRate 1 = .ok (.ifCond .lt 13, 3) := by decide +kernel
theorem dX9_isRate_4 : decode cX9_isRate 4 = .ok (.iload_n 0, 1) := by decide +kernel
theorem dX9_isRate_5 : decode cX9_isRate 5 = .ok (.bipush 100, 2) := by decide +kernel
theorem dX9_isRate_7 : decode cX9_isRate 7 = .ok (.if_icmp .gt 7, 3) := by decide +kernel
theorem dX9_isRate_10 : decode cX9_isRate 10 = .ok (.iconst 1, 1) := by decide +kernel
theorem dX9_isRate_11 : decode cX9_isRate 11 = .ok (.goto 4, 3) := by decide +kernel
theorem dX9_isRate_14 : decode cX9_isRate 14 = .ok (.iconst 0, 1) := by decide +kernel
theorem dX9_isRate_15 : decode cX9_isRate 15 = .ok (.ireturn, 1) := by decide +kernel
theorem dX9_isNumberPart_0 : decode cX9_isNumberPart 0 = .ok (.iload_n 0, 1) := by decide +kernel
theorem dX9_isNumberPart_1 : decode cX9_isNumberPart 1 = .ok (.bipush 11, 2) := by decide +kernel
theorem dX9_isNumberPart_3 : decode cX9_isNumberPart 3 = .ok (.if_icmp .ge 17, 3) := by decide +kernel
theorem dX9_isNumberPart_6 : decode cX9_isNumberPart 6 = .ok (.iload_n 0, 1) := by decide +kernel
theorem dX9_isNumberPart_7 : decode cX9_isNumberPart 7 = .ok (.bipush 8, 2) := by decide +kernel
theorem dX9_isNumberPart_9 : decode cX9_isNumberPart 9 = .ok (.if_icmp .ne 7, 3) := by decide +kernel
theorem dX9_isNumberPart_12 : decode cX9_isNumberPart 12 = .ok (.iload_n 1, 1) := by decide +kernel
theorem dX9_isNumberPart_13 : decode cX9_isNumberPart 13 = .ok (.ifCond .eq 7, 3) := by decide +kernel
theorem dX9_isNumberPart_16 : decode cX9_isNumberPart 16 = .ok (.iconst 1, 1) := by decide +kernel
theorem dX9_isNumberPart_17 : decode cX9_isNumberPart 17 = .ok (.goto 4, 3) := by decide +kernel
theorem dX9_isNumberPart_20 : decode cX9_isNumberPart 20 = .ok (.iconst 0, 1) := by decide +kernel
theorem dX9_isNumberPart_21 : decode cX9_isNumberPart 21 = .ok (.ireturn, 1) := by decide +kernel
theorem dX9_at_0 : decode cX9_at 0 = .ok (.iload_n 1, 1) := by decide +kernel
theorem dX9_at_1 : decode cX9_at 1 = .ok (.ifCond .lt 9, 3) := by decide +kernel
theorem dX9_at_4 : decode cX9_at 4 = .ok (.iload_n 1, 1) := by decide +kernel
theorem dX9_at_5 : decode cX9_at 5 = .ok (.aload_n 0, 1) := by decide +kernel
theorem dX9_at_6 : decode cX9_at 6 = .ok (.arraylength, 1) := by decide +kernel
theorem dX9_at_7 : decode cX9_at 7 = .ok (.if_icmp .lt 7, 3) := by decide +kernel
theorem dX9_at_10 : decode cX9_at 10 = .ok (.iconst 0, 1) := by decide +kernel
theorem dX9_at_11 : decode cX9_at 11 = .ok (.goto 6, 3) := by decide +kernel
theorem dX9_at_14 : decode cX9_at 14 = .ok (.aload_n 0, 1) := by decide +kernel
theorem dX9_at_15 : decode cX9_at 15 = .ok (.iload_n 1, 1) := by decide +kernel
theorem dX9_at_16 : decode cX9_at 16 = .ok (.iaload, 1) := by decide +kernel
theorem dX9_at_17 : decode cX9_at 17 = .ok (.ireturn, 1) := by decide +kernel
theorem dX9_put_0 : decode cX9_put 0 = .ok (.iload_n 1, 1) := by decide +kernel
theorem dX9_put_1 : decode cX9_put 1 = .ok (.ifCond .lt 13, 3) := by decide +kernel
theorem dX9_put_4 : decode cX9_put 4 = .ok (.iload_n 1, 1) := by decide +kernel
theorem dX9_put_5 : decode cX9_put 5 = .ok (.aload_n 0, 1) := by decide +kernel
theorem dX9_put_6 : decode cX9_put 6 = .ok (.arraylength, 1) := by decide +kernel
theorem dX9_put_7 : decode cX9_put 7 = .ok (.if_icmp .ge 7, 3) := by decide +kernel
theorem dX9_put_10 : decode cX9_put 10 = .ok (.aload_n 0, 1) := by decide +kernel
theorem dX9_put_11 : decode cX9_put 11 = .ok (.iload_n 1, 1) := by decide +kernel
theorem dX9_put_12 : decode cX9_put 12 = .ok (.iload_n 2, 1) := by decide +kernel
theorem dX9_put_13 : decode cX9_put 13 = .ok (.iastore, 1) := by decide +kernel
theorem dX9_put_14 : decode cX9_put 14 = .ok (.return_, 1) := by decide +kernel
