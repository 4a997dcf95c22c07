theorem dX9_init_0 : decode cX9_init 0 = .ok (.aload_n 0, 1) := by decide +kernel
theorem dX9_init_1 : decode cX9_init 1 = .ok (.invokespecial 1, 3) := by decide +kernel
theorem dX9_init_4 : decode cX9_init 4 = .ok (.aload_n 0, 1) := by decide +kernel
theorem dX9_init_5 : decode cX9_init 5 = .ok (.new 7, 3) := by decide +kernel
theorem dX9_init_8 : decode cX9_init 8 = .ok (.dup, 1) := by decide +kernel
theorem dX9_init_9 : decode cX9_init 9 = .ok (.invokespecial 9, 3) := by decide +kernel
theorem dX9_init_12 : decode cX9_init 12 = .ok (.putfield 10, 3) := by decide +kernel
theorem dX9_init_15 : decode cX9_init 15 = .ok (.aload_n 0, 1) := by decide +kernel
theorem dX9_init_16 : decode cX9_init 16 = .ok (.new 16, 3) := by decide +kernel
theorem dX9_init_19 : decode cX9_init 19 = .ok (.dup, 1) := by decide +kernel
theorem dX9_init_20 : decode cX9_init 20 = .ok (.invokespecial 18, 3) := by decide +kernel
theorem dX9_init_23 : decode cX9_init 23 = .ok (.putfield 19, 3) := by decide +kernel
theorem dX9_init_26 : decode cX9_init 26 = .ok (.aload_n 0, 1) := by decide +kernel
theorem dX9_init_27 : decode cX9_init 27 = .ok (.new 23, 3) := by decide +kernel
theorem dX9_init_30 : decode cX9_init 30 = .ok (.dup, 1) := by decide +kernel
theorem dX9_init_31 : decode cX9_init 31 = .ok (.invokespecial 25, 3) := by decide +kernel
theorem dX9_init_34 : decode cX9_init 34 = .ok (.putfield 26, 3) := by decide +kernel
theorem dX9_init_37 : decode cX9_init 37 = .ok (.aload_n 0, 1) := by decide +kernel
theorem dX9_init_38 : decode cX9_init 38 = .ok (.new 30, 3) := by decide +kernel
theorem dX9_init_41 : decode cX9_init 41 = .ok (.dup, 1) := by decide +kernel
theorem dX9_init_42 : decode cX9_init 42 = .ok (.invokespecial 32, 3) := by decide +kernel
theorem dX9_init_45 : decode cX9_init 45 = .ok (.putfield 33, 3) := by decide +kernel
theorem dX9_init_48 : decode cX9_init 48 = .ok (.aload_n 0, 1) := by decide +kernel
theorem dX9_init_49 : decode cX9_init 49 = .ok (.new 37, 3) := by decide +kernel
theorem dX9_init_52 : decode cX9_init 52 = .ok (.dup, 1) := by decide +kernel
theorem dX9_init_53 : decode cX9_init 53 = .ok (.invokespecial 39, 3) := by decide +kernel
theorem dX9_init_56 : decode cX9_init 56 = .ok (.putfield 40, 3) := by decide +kernel
theorem dX9_init_59 : decode cX9_init 59 = .ok (.aload_n 0, 1) := by decide +kernel
theorem dX9_init_60 : decode cX9_init 60 = .ok (.new 44, 3) := by decide +kernel
theorem dX9_init_63 : decode cX9_init 63 = .ok (.dup, 1) := by decide +kernel
theorem dX9_init_64 : decode cX9_init 64 = .ok (.invokespecial 46, 3) := by decide +kernel
theorem dX9_init_67 : decode cX9_init 67 = .ok (.putfield 47, 3) := by decide +kernel
theorem dX9_init_70 : decode cX9_init 70 = .ok (.aload_n 0, 1) := by decide +kernel
theorem dX9_init_71 : decode cX9_init 71 = .ok (.new 51, 3) := by decide +kernel
theorem dX9_init_74 : decode cX9_init 74 = .ok (.dup, 1) := by decide +kernel
theorem dX9_init_75 : decode cX9_init 75 = .ok (.invokespecial 53, 3) := by decide +kernel
theorem dX9_init_78 : decode cX9_init 78 = .ok (.putfield 54, 3) := by decide +kernel
theorem dX9_init_81 : decode cX9_init 81 = .ok (.aload_n 0, 1) := by decide +kernel
theorem dX9_init_82 : decode cX9_init 82 = .ok (.new 51, 3) := by decide +kernel
theorem dX9_init_85 : decode cX9_init 85 = .ok (.dup, 1) := by decide +kernel
theorem dX9_init_86 : decode cX9_init 86 = .ok (.invokespecial 53, 3) := by decide +kernel
theorem dX9_init_89 : decode cX9_init 89 = .ok (.putfield 58, 3) := by decide +kernel
theorem dX9_init_92 : decode cX9_init 92 = .ok (.aload_n 0, 1) := by decide +kernel
theorem dX9_init_93 : decode cX9_init 93 = .ok (.new 61, 3) := by decide +kernel
theorem dX9_init_96 : decode cX9_init 96 = .ok (.dup, 1) := by decide +kernel
theorem dX9_init_97 : decode cX9_init 97 = .ok (.invokespecial 63, 3) := by decide +kernel
theorem dX9_init_100 : decode cX9_init 100 = .ok (.putfield 64, 3) := by decide +kernel
theorem dX9_init_103 : decode cX9_init 103 = .ok (.return_, 1) := by decide +kernel
theorem dX9_sketch_0 : decode cX9_sketch 0 = .ok (.iload_n 1, 1) := by decide +kernel
theorem dX9_sketch_1 : decode cX9_sketch 1 = .ok (.iload_n 2, 1) := by decide +kernel
theorem dX9_sketch_2 : decode cX9_sketch 2 = .ok (.invokestatic 68, 3) := by decide +kernel
theorem dX9_sketch_5 : decode cX9_sketch 5 = .ok (.aload_n 0, 1) := by decide +kernel
theorem dX9_sketch_6 : decode cX9_sketch 6 = .ok (.getfield 10, 3) := by decide +kernel
theorem dX9_sketch_9 : decode cX9_sketch 9 = .ok (.iload_n 1, 1) := by decide +kernel
theorem dX9_sketch_10 : decode cX9_sketch 10 = .ok (.invokevirtual 72, 3) := by decide +kernel
theorem dX9_sketch_13 : decode cX9_sketch 13 = .ok (.ifCond .ne 13, 3) := by decide +kernel
theorem dX9_sketch_16 : decode cX9_sketch 16 = .ok (.new 76, 3) := by decide +kernel
theorem dX9_sketch_19 : decode cX9_sketch 19 = .ok (.dup, 1) := by decide +kernel
theorem dX9_sketch_20 : decode cX9_sketch 20 = .ok (.ldc 78, 2) := by decide +kernel
theorem dX9_sketch_22 : decode cX9_sketch 22 = .ok (.invokespecial 80, 3) := by decide +kernel
theorem dX9_sketch_25 : decode cX9_sketch 25 = .ok (.athrow, 1) := by decide +kernel
theorem dX9_sketch_26 : decode cX9_sketch 26 = .ok (.aload_n 0, 1) := by decide +kernel
theorem dX9_sketch_27 : decode cX9_sketch 27 = .ok (.getfield 10, 3) := by decide +kernel
theorem dX9_sketch_30 : decode cX9_sketch 30 = .ok (.iload_n 1, 1) := by decide +kernel
theorem dX9_sketch_31 : decode cX9_sketch 31 = .ok (.iload_n 2, 1) := by decide +kernel
theorem dX9_sketch_32 : decode cX9_sketch 32 = .ok (.invokevirtual 83, 3) := by decide +kernel
theorem dX9_sketch_35 : decode cX9_sketch 35 = .ok (.aload_n 0, 1) := by decide +kernel
theorem dX9_sketch_36 : decode cX9_sketch 36 = .ok (.getfield 10, 3) := by decide +kernel
theorem dX9_sketch_39 : decode cX9_sketch 39 = .ok (.getfield 86, 3) := by decide +kernel
theorem dX9_sketch_42 : decode cX9_sketch 42 = .ok (.ireturn, 1) := by decide +kernel
theorem dX9_plant_0 : decode cX9_plant 0 = .ok (.aload_n 0, 1) := by decide +kernel
theorem dX9_plant_1 : decode cX9_plant 1 = .ok (.getfield 10, 3) := by decide +kernel
theorem dX9_plant_4 : decode cX9_plant 4 = .ok (.getfield 86, 3) := by decide +kernel
theorem dX9_plant_7 : decode cX9_plant 7 = .ok (.ifCond .ne 15, 3) := by decide +kernel
theorem dX9_plant_10 : decode cX9_plant 10 = .ok (.aload_n 0, 1) := by decide +kernel
theorem dX9_plant_11 : decode cX9_plant 11 = .ok (.getfield 54, 3) := by decide +kernel
theorem dX9_plant_14 : decode cX9_plant 14 = .ok (.getfield 99, 3) := by decide +kernel
theorem dX9_plant_17 : decode cX9_plant 17 = .ok (.bipush 16, 2) := by decide +kernel
theorem dX9_plant_19 : decode cX9_plant 19 = .ok (.if_icmp .lt 13, 3) := by decide +kernel
theorem dX9_plant_22 : decode cX9_plant 22 = .ok (.new 76, 3) := by decide +kernel
theorem dX9_plant_25 : decode cX9_plant 25 = .ok (.dup, 1) := by decide +kernel
theorem dX9_plant_26 : decode cX9_plant 26 = .ok (.ldc 102, 2) := by decide +kernel
theorem dX9_plant_28 : decode cX9_plant 28 = .ok (.invokespecial 80, 3) := by decide +kernel
theorem dX9_plant_31 : decode cX9_plant 31 = .ok (.athrow, 1) := by decide +kernel
theorem dX9_plant_32 : decode cX9_plant 32 = .ok (.aload_n 0, 1) := by decide +kernel
theorem dX9_plant_33 : decode cX9_plant 33 = .ok (.getfield 54, 3) := by decide +kernel
theorem dX9_plant_36 : decode cX9_plant 36 = .ok (.getfield 99, 3) := by decide +kernel
theorem dX9_plant_39 : decode cX9_plant 39 = .ok (.istore_n 1, 1) := by decide +kernel
theorem dX9_plant_40 : decode cX9_plant 40 = .ok (.aload_n 0, 1) := by decide +kernel
theorem dX9_plant_41 : decode cX9_plant 41 = .ok (.getfield 54, 3) := by decide +kernel
theorem dX9_plant_44 : decode cX9_plant 44 = .ok (.aload_n 0, 1) := by decide +kernel
theorem dX9_plant_45 : decode cX9_plant 45 = .ok (.getfield 10, 3) := by decide +kernel
theorem dX9_plant_48 : decode cX9_plant 48 = .ok (.getfield 90, 3) := by decide +kernel
theorem dX9_plant_51 : decode cX9_plant 51 = .ok (.invokevirtual 104, 3) := by decide +kernel
theorem dX9_plant_54 : decode cX9_plant 54 = .ok (.aload_n 0, 1) := by decide +kernel
theorem dX9_plant_55 : decode cX9_plant 55 = .ok (.getfield 10, 3) := by decide +kernel
theorem dX9_plant_58 : decode cX9_plant 58 = .ok (.invokevirtual 96, 3) := by decide +kernel
theorem dX9_plant_61 : decode cX9_plant 61 = .ok (.iload_n 1, 1) := by decide +kernel
theorem dX9_plant_62 : decode cX9_plant 62 = .ok (.ireturn, 1) := by decide +kernel
theorem dX9_addCase_0 : decode cX9_addCase 0 = .ok (.iload_n 1, 1) := by decide +kernel
theorem dX9_addCase_1 : decode cX9_addCase 1 = .ok (.iload_n 2, 1) := by decide +kernel
theorem dX9_addCase_2 : decode cX9_addCase 2 = .ok (.iload_n 3, 1) := by decide +kernel
theorem dX9_addCase_3 : decode cX9_addCase 3 = .ok (.invokestatic 116, 3) := by decide +kernel
theorem dX9_addCase_6 : decode cX9_addCase 6 = .ok (.iload 4, 2) := by decide +kernel
theorem dX9_addCase_8 : decode cX9_addCase 8 = .ok (.sipush (-9999), 3) := by decide +kernel
theorem dX9_addCase_11 : decode cX9_addCase 11 = .ok (.if_icmp .lt 11, 3) := by decide +kernel
theorem dX9_addCase_14 : decode cX9_addCase 14 = .ok (.iload 4, 2) := by decide +kernel
theorem dX9_addCase_16 : decode cX9_addCase 16 = .ok (.sipush 9999, 3) := by decide +kernel
theorem dX9_addCase_19 : decode cX9_addCase 19 = .ok (.if_icmp .le 13, 3) := by decide +kernel
theorem dX9_addCase_22 : decode cX9_addCase 22 = .ok (.new 120, 3) := by decide +kernel
theorem dX9_addCase_25 : decode cX9_addCase 25 = .ok (.dup, 1) := by decide +kernel
theorem dX9_addCase_26 : decode cX9_addCase 26 = .ok (.ldc 122, 2) := by decide +kernel
theorem dX9_addCase_28 : decode cX9_addCase 28 = .ok (.invokespecial 124, 3) := by decide +kernel
theorem dX9_addCase_31 : decode cX9_addCase 31 = .ok (.athrow, 1) := by decide +kernel
theorem dX9_addCase_32 : decode cX9_addCase 32 = .ok (.aload_n 0, 1) := by decide +kernel
theorem dX9_addCase_33 : decode cX9_addCase 33 = .ok (.getfield 19, 3) := by decide +kernel
theorem dX9_addCase_36 : decode cX9_addCase 36 = .ok (.getfield 125, 3) := by decide +kernel
theorem dX9_addCase_39 : decode cX9_addCase 39 = .ok (.bipush 12, 2) := by decide +kernel
theorem dX9_addCase_41 : decode cX9_addCase 41 = .ok (.if_icmp .lt 13, 3) := by decide +kernel
theorem dX9_addCase_44 : decode cX9_addCase 44 = .ok (.new 76, 3) := by decide +kernel
theorem dX9_addCase_47 : decode cX9_addCase 47 = .ok (.dup, 1) := by decide +kernel
theorem dX9_addCase_48 : decode cX9_addCase 48 = .ok (.ldc 128, 2) := by decide +kernel
theorem dX9_addCase_50 : decode cX9_addCase 50 = .ok (.invokespecial 80, 3) := by decide +kernel
theorem dX9_addCase_53 : decode cX9_addCase 53 = .ok (.athrow, 1) := by decide +kernel
theorem dX9_addCase_54 : decode cX9_addCase 54 = .ok (.aload_n 0, 1) := by decide +kernel
theorem dX9_addCase_55 : decode cX9_addCase 55 = .ok (.getfield 19, 3) := by decide +kernel
theorem dX9_addCase_58 : decode cX9_addCase 58 = .ok (.getfield 125, 3) := by decide +kernel
theorem dX9_addCase_61 : decode cX9_addCase 61 = .ok (.istore 5, 2) := by decide +kernel
theorem dX9_addCase_63 : decode cX9_addCase 63 = .ok (.aload_n 0, 1) := by decide +kernel
theorem dX9_addCase_64 : decode cX9_addCase 64 = .ok (.getfield 19, 3) := by decide +kernel
theorem dX9_addCase_67 : decode cX9_addCase 67 = .ok (.iload_n 1, 1) := by decide +kernel
theorem dX9_addCase_68 : decode cX9_addCase 68 = .ok (.iload_n 2, 1) := by decide +kernel
theorem dX9_addCase_69 : decode cX9_addCase 69 = .ok (.iload_n 3, 1) := by decide +kernel
theorem dX9_addCase_70 : decode cX9_addCase 70 = .ok (.iload 4, 2) := by decide +kernel
theorem dX9_addCase_72 : decode cX9_addCase 72 = .ok (.invokevirtual 130, 3) := by decide +kernel
theorem dX9_addCase_75 : decode cX9_addCase 75 = .ok (.iload 5, 2) := by decide +kernel
theorem dX9_addCase_77 : decode cX9_addCase 77 = .ok (.ireturn, 1) := by decide +kernel
theorem dX9_setWay_0 : decode cX9_setWay 0 = .ok (.iload_n 1, 1) := by decide +kernel
theorem dX9_setWay_1 : decode cX9_setWay 1 = .ok (.ifCond .lt 18, 3) := by decide +kernel
theorem dX9_setWay_4 : decode cX9_setWay 4 = .ok (.iload_n 1, 1) := by decide +kernel
theorem dX9_setWay_5 : decode cX9_setWay 5 = .ok (.iconst 2, 1) := by decide +kernel
theorem dX9_setWay_6 : decode cX9_setWay 6 = .ok (.if_icmp .gt 13, 3) := by decide +kernel
theorem dX9_setWay_9 : decode cX9_setWay 9 = .ok (.iload_n 2, 1) := by decide +kernel
theorem dX9_setWay_10 : decode cX9_setWay 10 = .ok (.ifCond .lt 9, 3) := by decide +kernel
theorem dX9_setWay_13 : decode cX9_setWay 13 = .ok (.iload_n 2, 1) := by decide +kernel
theorem dX9_setWay_14 : decode cX9_setWay 14 = .ok (.bipush 99, 2) := by decide +kernel
theorem dX9_setWay_16 : decode cX9_setWay 16 = .ok (.if_icmp .le 13, 3) := by decide +kernel
theorem dX9_setWay_19 : decode cX9_setWay 19 = .ok (.new 120, 3) := by decide +kernel
theorem dX9_setWay_22 : decode cX9_setWay 22 = .ok (.dup, 1) := by decide +kernel
theorem dX9_setWay_23 : decode cX9_setWay 23 = .ok (.ldc 133, 2) := by decide +kernel
theorem dX9_setWay_25 : decode cX9_setWay 25 = .ok (.invokespecial 124, 3) := by decide +kernel
theorem dX9_setWay_28 : decode cX9_setWay 28 = .ok (.athrow, 1) := by decide +kernel
theorem dX9_setWay_29 : decode cX9_setWay 29 = .ok (.aload_n 0, 1) := by decide +kernel
theorem dX9_setWay_30 : decode cX9_setWay 30 = .ok (.getfield 19, 3) := by decide +kernel
theorem dX9_setWay_33 : decode cX9_setWay 33 = .ok (.getfield 135, 3) := by decide +kernel
theorem dX9_setWay_36 : decode cX9_setWay 36 = .ok (.istore_n 3, 1) := by decide +kernel
theorem dX9_setWay_37 : decode cX9_setWay 37 = .ok (.aload_n 0, 1) := by decide +kernel
theorem dX9_setWay_38 : decode cX9_setWay 38 = .ok (.getfield 19, 3) := by decide +kernel
theorem dX9_setWay_41 : decode cX9_setWay 41 = .ok (.iload_n 1, 1) := by decide +kernel
theorem dX9_setWay_42 : decode cX9_setWay 42 = .ok (.putfield 135, 3) := by decide +kernel
theorem dX9_setWay_45 : decode cX9_setWay 45 = .ok (.aload_n 0, 1) := by decide +kernel
theorem dX9_setWay_46 : decode cX9_setWay 46 = .ok (.getfield 19, 3) := by decide +kernel
theorem dX9_setWay_49 : decode cX9_setWay 49 = .ok (.iload_n 2, 1) := by decide +kernel
theorem dX9_setWay_50 : decode cX9_setWay 50 = .ok (.putfield 138, 3) := by decide +kernel
theorem dX9_setWay_53 : decode cX9_setWay 53 = .ok (.iload_n 3, 1) := by decide +kernel
theorem dX9_setWay_54 : decode cX9_setWay 54 = .ok (.ireturn, 1) := by decide +kernel
theorem dX9_cross_0 : decode cX9_cross 0 = .ok (.aload_n 0, 1) := by decide +kernel
theorem dX9_cross_1 : decode cX9_cross 1 = .ok (.iload_n 1, 1) := by decide +kernel
theorem dX9_cross_2 : decode cX9_cross 2 = .ok (.iload_n 2, 1) := by decide +kernel
theorem dX9_cross_3 : decode cX9_cross 3 = .ok (.invokevirtual 141, 3) := by decide +kernel
theorem dX9_cross_6 : decode cX9_cross 6 = .ok (.astore 5, 2) := by decide +kernel
theorem dX9_cross_8 : decode cX9_cross 8 = .ok (.aload_n 0, 1) := by decide +kernel
theorem dX9_cross_9 : decode cX9_cross 9 = .ok (.iload_n 3, 1) := by decide +kernel
theorem dX9_cross_10 : decode cX9_cross 10 = .ok (.iload 4, 2) := by decide +kernel
theorem dX9_cross_12 : decode cX9_cross 12 = .ok (.invokevirtual 141, 3) := by decide +kernel
theorem dX9_cross_15 : decode cX9_cross 15 = .ok (.astore 6, 2) := by decide +kernel
theorem dX9_cross_17 : decode cX9_cross 17 = .ok (.aload_n 0, 1) := by decide +kernel
theorem dX9_cross_18 : decode cX9_cross 18 = .ok (.getfield 64, 3) := by decide +kernel
theorem dX9_cross_21 : decode cX9_cross 21 = .ok (.aload 5, 2) := by decide +kernel
theorem dX9_cross_23 : decode cX9_cross 23 = .ok (.iload_n 2, 1) := by decide +kernel
theorem dX9_cross_24 : decode cX9_cross 24 = .ok (.aload 6, 2) := by decide +kernel
theorem dX9_cross_26 : decode cX9_cross 26 = .ok (.iload 4, 2) := by decide +kernel
theorem dX9_cross_28 : decode cX9_cross 28 = .ok (.invokevirtual 145, 3) := by decide +kernel
theorem dX9_cross_31 : decode cX9_cross 31 = .ok (.ifCond .ne 5, 3) := by decide +kernel
theorem dX9_cross_34 : decode cX9_cross 34 = .ok (.iconst (-1), 1) := by decide +kernel
theorem dX9_cross_35 : decode cX9_cross 35 = .ok (.ireturn, 1) := by decide +kernel
theorem dX9_cross_36 : decode cX9_cross 36 = .ok (.aload 5, 2) := by decide +kernel
theorem dX9_cross_38 : decode cX9_cross 38 = .ok (.aload_n 0, 1) := by decide +kernel
theorem dX9_cross_39 : decode cX9_cross 39 = .ok (.getfield 64, 3) := by decide +kernel
theorem dX9_cross_42 : decode cX9_cross 42 = .ok (.invokevirtual 149, 3) := by decide +kernel
theorem dX9_cross_45 : decode cX9_cross 45 = .ok (.aload 5, 2) := by decide +kernel
theorem dX9_cross_47 : decode cX9_cross 47 = .ok (.getfield 93, 3) := by decide +kernel
theorem dX9_cross_50 : decode cX9_cross 50 = .ok (.ireturn, 1) := by decide +kernel
theorem dX9_hoist_0 : decode cX9_hoist 0 = .ok (.aload_n 0, 1) := by decide +kernel
theorem dX9_hoist_1 : decode cX9_hoist 1 = .ok (.iload_n 1, 1) := by decide +kernel
theorem dX9_hoist_2 : decode cX9_hoist 2 = .ok (.iload_n 2, 1) := by decide +kernel
theorem dX9_hoist_3 : decode cX9_hoist 3 = .ok (.invokevirtual 141, 3) := by decide +kernel
theorem dX9_hoist_6 : decode cX9_hoist 6 = .ok (.astore_n 3, 1) := by decide +kernel
theorem dX9_hoist_7 : decode cX9_hoist 7 = .ok (.aload_n 3, 1) := by decide +kernel
theorem dX9_hoist_8 : decode cX9_hoist 8 = .ok (.iload_n 2, 1) := by decide +kernel
theorem dX9_hoist_9 : decode cX9_hoist 9 = .ok (.invokevirtual 152, 3) := by decide +kernel
theorem dX9_hoist_12 : decode cX9_hoist 12 = .ok (.ifCond .ne 5, 3) := by decide +kernel
theorem dX9_hoist_15 : decode cX9_hoist 15 = .ok (.iconst (-1), 1) := by decide +kernel
theorem dX9_hoist_16 : decode cX9_hoist 16 = .ok (.ireturn, 1) := by decide +kernel
theorem dX9_hoist_17 : decode cX9_hoist 17 = .ok (.aload_n 3, 1) := by decide +kernel
theorem dX9_hoist_18 : decode cX9_hoist 18 = .ok (.iconst 0, 1) := by decide +kernel
theorem dX9_hoist_19 : decode cX9_hoist 19 = .ok (.iload_n 2, 1) := by decide +kernel
theorem dX9_hoist_20 : decode cX9_hoist 20 = .ok (.invokevirtual 155, 3) := by decide +kernel
theorem dX9_hoist_23 : decode cX9_hoist 23 = .ok (.aload_n 3, 1) := by decide +kernel
theorem dX9_hoist_24 : decode cX9_hoist 24 = .ok (.getfield 93, 3) := by decide +kernel
theorem dX9_hoist_27 : decode cX9_hoist 27 = .ok (.ireturn, 1) := by decide +kernel
theorem dX9_wither_0 : decode cX9_wither 0 = .ok (.aload_n 0, 1) := by decide +kernel
theorem dX9_wither_1 : decode cX9_wither 1 = .ok (.iload_n 1, 1) := by decide +kernel
theorem dX9_wither_2 : decode cX9_wither 2 = .ok (.iload_n 2, 1) := by decide +kernel
theorem dX9_wither_3 : decode cX9_wither 3 = .ok (.invokevirtual 141, 3) := by decide +kernel
theorem dX9_wither_6 : decode cX9_wither 6 = .ok (.astore 4, 2) := by decide +kernel
theorem dX9_wither_8 : decode cX9_wither 8 = .ok (.iload_n 3, 1) := by decide +kernel
theorem dX9_wither_9 : decode cX9_wither 9 = .ok (.bipush (-99), 2) := by decide +kernel
theorem dX9_wither_11 : decode cX9_wither 11 = .ok (.if_icmp .lt 9, 3) := by decide +kernel
theorem dX9_wither_14 : decode cX9_wither 14 = .ok (.iload_n 3, 1) := by decide +kernel
theorem dX9_wither_15 : decode cX9_wither 15 = .ok (.bipush 99, 2) := by decide +kernel
theorem dX9_wither_17 : decode cX9_wither 17 = .ok (.if_icmp .le 13, 3) := by decide +kernel
theorem dX9_wither_20 : decode cX9_wither 20 = .ok (.new 120, 3) := by decide +kernel
theorem dX9_wither_23 : decode cX9_wither 23 = .ok (.dup, 1) := by decide +kernel
theorem dX9_wither_24 : decode cX9_wither 24 = .ok (.ldc 173, 2) := by decide +kernel
theorem dX9_wither_26 : decode cX9_wither 26 = .ok (.invokespecial 124, 3) := by decide +kernel
theorem dX9_wither_29 : decode cX9_wither 29 = .ok (.athrow, 1) := by decide +kernel
theorem dX9_wither_30 : decode cX9_wither 30 = .ok (.aload 4, 2) := by decide +kernel
theorem dX9_wither_32 : decode cX9_wither 32 = .ok (.iload_n 2, 1) := by decide +kernel
theorem dX9_wither_33 : decode cX9_wither 33 = .ok (.invokevirtual 152, 3) := by decide +kernel
theorem dX9_wither_36 : decode cX9_wither 36 = .ok (.ifCond .ne 5, 3) := by decide +kernel
theorem dX9_wither_39 : decode cX9_wither 39 = .ok (.iconst (-1), 1) := by decide +kernel
theorem dX9_wither_40 : decode cX9_wither 40 = .ok (.ireturn, 1) := by decide +kernel
theorem dX9_wither_41 : decode cX9_wither 41 = .ok (.aload 4, 2) := by decide +kernel
theorem dX9_wither_43 : decode cX9_wither 43 = .ok (.iload_n 2, 1) := by decide +kernel
theorem dX9_wither_44 : decode cX9_wither 44 = .ok (.iload_n 3, 1) := by decide +kernel
theorem dX9_wither_45 : decode cX9_wither 45 = .ok (.invokevirtual 175, 3) := by decide +kernel
theorem dX9_wither_48 : decode cX9_wither 48 = .ok (.aload 4, 2) := by decide +kernel
theorem dX9_wither_50 : decode cX9_wither 50 = .ok (.getfield 93, 3) := by decide +kernel
theorem dX9_wither_53 : decode cX9_wither 53 = .ok (.ireturn, 1) := by decide +kernel
theorem dX9_simplify_0 : decode cX9_simplify 0 = .ok (.aload_n 0, 1) := by decide +kernel
theorem dX9_simplify_1 : decode cX9_simplify 1 = .ok (.iload_n 1, 1) := by decide +kernel
theorem dX9_simplify_2 : decode cX9_simplify 2 = .ok (.invokevirtual 108, 3) := by decide +kernel
theorem dX9_simplify_5 : decode cX9_simplify 5 = .ok (.astore_n 2, 1) := by decide +kernel
theorem dX9_simplify_6 : decode cX9_simplify 6 = .ok (.aload_n 2, 1) := by decide +kernel
theorem dX9_simplify_7 : decode cX9_simplify 7 = .ok (.getfield 93, 3) := by decide +kernel
theorem dX9_simplify_10 : decode cX9_simplify 10 = .ok (.istore_n 3, 1) := by decide +kernel
theorem dX9_simplify_11 : decode cX9_simplify 11 = .ok (.aload_n 0, 1) := by decide +kernel
theorem dX9_simplify_12 : decode cX9_simplify 12 = .ok (.getfield 40, 3) := by decide +kernel
theorem dX9_simplify_15 : decode cX9_simplify 15 = .ok (.aload_n 2, 1) := by decide +kernel
theorem dX9_simplify_16 : decode cX9_simplify 16 = .ok (.invokevirtual 178, 3) := by decide +kernel
theorem dX9_simplify_19 : decode cX9_simplify 19 = .ok (.iload_n 3, 1) := by decide +kernel
theorem dX9_simplify_20 : decode cX9_simplify 20 = .ok (.aload_n 2, 1) := by decide +kernel
theorem dX9_simplify_21 : decode cX9_simplify 21 = .ok (.getfield 93, 3) := by decide +kernel
theorem dX9_simplify_24 : decode cX9_simplify 24 = .ok (.isub, 1) := by decide +kernel
theorem dX9_simplify_25 : decode cX9_simplify 25 = .ok (.ireturn, 1) := by decide +kernel
theorem dX9_setChoosing_0 : decode cX9_setChoosing 0 = .ok (.iload_n 1, 1) := by decide +kernel
theorem dX9_setChoosing_1 : decode cX9_setChoosing 1 = .ok (.iconst 1, 1) := by decide +kernel
theorem dX9_setChoosing_2 : decode cX9_setChoosing 2 = .ok (.if_icmp .lt 17, 3) := by decide +kernel
theorem dX9_setChoosing_5 : decode cX9_setChoosing 5 = .ok (.iload_n 1, 1) := by decide +kernel
theorem dX9_setChoosing_6 : decode cX9_setChoosing 6 = .ok (.iconst 5, 1) := by decide +kernel
theorem dX9_setChoosing_7 : decode cX9_setChoosing 7 = .ok (.if_icmp .gt 12, 3) := by decide +kernel
theorem dX9_setChoosing_10 : decode cX9_setChoosing 10 = .ok (.iload_n 2, 1) := by decide +kernel
theorem dX9_setChoosing_11 : decode cX9_setChoosing 11 = .ok (.ifCond .lt 8, 3) := by decide +kernel
theorem dX9_setChoosing_14 : decode cX9_setChoosing 14 = .ok (.iload_n 2, 1) := by decide +kernel
theorem dX9_setChoosing_15 : decode cX9_setChoosing 15 = .ok (.iconst 4, 1) := by decide +kernel
theorem dX9_setChoosing_16 : decode cX9_setChoosing 16 = .ok (.if_icmp .le 13, 3) := by decide +kernel
theorem dX9_setChoosing_19 : decode cX9_setChoosing 19 = .ok (.new 120, 3) := by decide +kernel
theorem dX9_setChoosing_22 : decode cX9_setChoosing 22 = .ok (.dup, 1) := by decide +kernel
theorem dX9_setChoosing_23 : decode cX9_setChoosing 23 = .ok (.ldc 195, 2) := by decide +kernel
theorem dX9_setChoosing_25 : decode cX9_setChoosing 25 = .ok (.invokespecial 124, 3) := by decide +kernel
theorem dX9_setChoosing_28 : decode cX9_setChoosing 28 = .ok (.athrow, 1) := by decide +kernel
theorem dX9_setChoosing_29 : decode cX9_setChoosing 29 = .ok (.aload_n 0, 1) := by decide +kernel
theorem dX9_setChoosing_30 : decode cX9_setChoosing 30 = .ok (.getfield 33, 3) := by decide +kernel
theorem dX9_setChoosing_33 : decode cX9_setChoosing 33 = .ok (.getfield 197, 3) := by decide +kernel
theorem dX9_setChoosing_36 : decode cX9_setChoosing 36 = .ok (.istore_n 3, 1) := by decide +kernel
theorem dX9_setChoosing_37 : decode cX9_setChoosing 37 = .ok (.aload_n 0, 1) := by decide +kernel
theorem dX9_setChoosing_38 : decode cX9_setChoosing 38 = .ok (.getfield 33, 3) := by decide +kernel
theorem dX9_setChoosing_41 : decode cX9_setChoosing 41 = .ok (.iload_n 1, 1) := by decide +kernel
theorem dX9_setChoosing_42 : decode cX9_setChoosing 42 = .ok (.putfield 197, 3) := by decide +kernel
theorem dX9_setChoosing_45 : decode cX9_setChoosing 45 = .ok (.aload_n 0, 1) := by decide +kernel
theorem dX9_setChoosing_46 : decode cX9_setChoosing 46 = .ok (.getfield 33, 3) := by decide +kernel
theorem dX9_setChoosing_49 : decode cX9_setChoosing 49 = .ok (.iload_n 2, 1) := by decide +kernel
theorem dX9_setChoosing_50 : decode cX9_setChoosing 50 = .ok (.putfield 200, 3) := by decide +kernel
theorem dX9_setChoosing_53 : decode cX9_setChoosing 53 = .ok (.iload_n 3, 1) := by decide +kernel
theorem dX9_setChoosing_54 : decode cX9_setChoosing 54 = .ok (.ireturn, 1) := by decide +kernel
theorem dX9_setLuck_0 : decode cX9_setLuck 0 = .ok (.iload_n 1, 1) := by decide +kernel
theorem dX9_setLuck_1 : decode cX9_setLuck 1 = .ok (.ifCond .lt 10, 3) := by decide +kernel
theorem dX9_setLuck_4 : decode cX9_setLuck 4 = .ok (.iload_n 1, 1) := by decide +kernel
theorem dX9_setLuck_5 : decode cX9_setLuck 5 = .ok (.sipush 10000, 3) := by decide +kernel
theorem dX9_setLuck_8 : decode cX9_setLuck 8 = .ok (.if_icmp .lt 13, 3) := by decide +kernel
theorem dX9_setLuck_11 : decode cX9_setLuck 11 = .ok (.new 120, 3) := by decide +kernel
theorem dX9_setLuck_14 : decode cX9_setLuck 14 = .ok (.dup, 1) := by decide +kernel
theorem dX9_setLuck_15 : decode cX9_setLuck 15 = .ok (.ldc 203, 2) := by decide +kernel
theorem dX9_setLuck_17 : decode cX9_setLuck 17 = .ok (.invokespecial 124, 3) := by decide +kernel
theorem dX9_setLuck_20 : decode cX9_setLuck 20 = .ok (.athrow, 1) := by decide +kernel
theorem dX9_setLuck_21 : decode cX9_setLuck 21 = .ok (.aload_n 0, 1) := by decide +kernel
theorem dX9_setLuck_22 : decode cX9_setLuck 22 = .ok (.getfield 54, 3) := by decide +kernel
theorem dX9_setLuck_25 : decode cX9_setLuck 25 = .ok (.getfield 205, 3) := by decide +kernel
theorem dX9_setLuck_28 : decode cX9_setLuck 28 = .ok (.getfield 209, 3) := by decide +kernel
theorem dX9_setLuck_31 : decode cX9_setLuck 31 = .ok (.istore_n 2, 1) := by decide +kernel
theorem dX9_setLuck_32 : decode cX9_setLuck 32 = .ok (.aload_n 0, 1) := by decide +kernel
theorem dX9_setLuck_33 : decode cX9_setLuck 33 = .ok (.getfield 54, 3) := by decide +kernel
theorem dX9_setLuck_36 : decode cX9_setLuck 36 = .ok (.getfield 205, 3) := by decide +kernel
theorem dX9_setLuck_39 : decode cX9_setLuck 39 = .ok (.iload_n 1, 1) := by decide +kernel
theorem dX9_setLuck_40 : decode cX9_setLuck 40 = .ok (.putfield 209, 3) := by decide +kernel
theorem dX9_setLuck_43 : decode cX9_setLuck 43 = .ok (.iload_n 2, 1) := by decide +kernel
theorem dX9_setLuck_44 : decode cX9_setLuck 44 = .ok (.ireturn, 1) := by decide +kernel
theorem dX9_breed_0 : decode cX9_breed 0 = .ok (.aload_n 0, 1) := by decide +kernel
theorem dX9_breed_1 : decode cX9_breed 1 = .ok (.iload_n 1, 1) := by decide +kernel
theorem dX9_breed_2 : decode cX9_breed 2 = .ok (.invokevirtual 223, 3) := by decide +kernel
theorem dX9_breed_5 : decode cX9_breed 5 = .ok (.aload_n 0, 1) := by decide +kernel
theorem dX9_breed_6 : decode cX9_breed 6 = .ok (.getfield 33, 3) := by decide +kernel
theorem dX9_breed_9 : decode cX9_breed 9 = .ok (.iload_n 1, 1) := by decide +kernel
theorem dX9_breed_10 : decode cX9_breed 10 = .ok (.aload_n 0, 1) := by decide +kernel
theorem dX9_breed_11 : decode cX9_breed 11 = .ok (.getfield 54, 3) := by decide +kernel
theorem dX9_breed_14 : decode cX9_breed 14 = .ok (.aload_n 0, 1) := by decide +kernel
theorem dX9_breed_15 : decode cX9_breed 15 = .ok (.getfield 19, 3) := by decide +kernel
theorem dX9_breed_18 : decode cX9_breed 18 = .ok (.invokevirtual 226, 3) := by decide +kernel
theorem dX9_breed_21 : decode cX9_breed 21 = .ok (.ireturn, 1) := by decide +kernel
theorem dX9_sketched_0 : decode cX9_sketched 0 = .ok (.aload_n 0, 1) := by decide +kernel
theorem dX9_sketched_1 : decode cX9_sketched 1 = .ok (.getfield 10, 3) := by decide +kernel
theorem dX9_sketched_4 : decode cX9_sketched 4 = .ok (.getfield 90, 3) := by decide +kernel
theorem dX9_sketched_7 : decode cX9_sketched 7 = .ok (.getfield 93, 3) := by decide +kernel
theorem dX9_sketched_10 : decode cX9_sketched 10 = .ok (.ireturn, 1) := by decide +kernel
theorem dX9_trees_0 : decode cX9_trees 0 = .ok (.aload_n 0, 1) := by decide +kernel
theorem dX9_trees_1 : decode cX9_trees 1 = .ok (.getfield 54, 3) := by decide +kernel
theorem dX9_trees_4 : decode cX9_trees 4 = .ok (.getfield 99, 3) := by decide +kernel
theorem dX9_trees_7 : decode cX9_trees 7 = .ok (.ireturn, 1) := by decide +kernel
theorem dX9_size_0 : decode cX9_size 0 = .ok (.aload_n 0, 1) := by decide +kernel
theorem dX9_size_1 : decode cX9_size 1 = .ok (.iload_n 1, 1) := by decide +kernel
theorem dX9_size_2 : decode cX9_size 2 = .ok (.invokevirtual 108, 3) := by decide +kernel
theorem dX9_size_5 : decode cX9_size 5 = .ok (.getfield 93, 3) := by decide +kernel
theorem dX9_size_8 : decode cX9_size 8 = .ok (.ireturn, 1) := by decide +kernel
theorem dX9_depth_0 : decode cX9_depth 0 = .ok (.aload_n 0, 1) := by decide +kernel
theorem dX9_depth_1 : decode cX9_depth 1 = .ok (.iload_n 1, 1) := by decide +kernel
theorem dX9_depth_2 : decode cX9_depth 2 = .ok (.invokevirtual 108, 3) := by decide +kernel
theorem dX9_depth_5 : decode cX9_depth 5 = .ok (.getfield 230, 3) := by decide +kernel
theorem dX9_depth_8 : decode cX9_depth 8 = .ok (.ireturn, 1) := by decide +kernel
theorem dX9_codeAt_0 : decode cX9_codeAt 0 = .ok (.aload_n 0, 1) := by decide +kernel
theorem dX9_codeAt_1 : decode cX9_codeAt 1 = .ok (.iload_n 1, 1) := by decide +kernel
theorem dX9_codeAt_2 : decode cX9_codeAt 2 = .ok (.iload_n 2, 1) := by decide +kernel
theorem dX9_codeAt_3 : decode cX9_codeAt 3 = .ok (.invokevirtual 141, 3) := by decide +kernel
theorem dX9_codeAt_6 : decode cX9_codeAt 6 = .ok (.iload_n 2, 1) := by decide +kernel
theorem dX9_codeAt_7 : decode cX9_codeAt 7 = .ok (.invokevirtual 158, 3) := by decide +kernel
theorem dX9_codeAt_10 : decode cX9_codeAt 10 = .ok (.ireturn, 1) := by decide +kernel
theorem dX9_valueAt_0 : decode cX9_valueAt 0 = .ok (.aload_n 0, 1) := by decide +kernel
theorem dX9_valueAt_1 : decode cX9_valueAt 1 = .ok (.iload_n 1, 1) := by decide +kernel
theorem dX9_valueAt_2 : decode cX9_valueAt 2 = .ok (.iload_n 2, 1) := by decide +kernel
theorem dX9_valueAt_3 : decode cX9_valueAt 3 = .ok (.invokevirtual 141, 3) := by decide +kernel
theorem dX9_valueAt_6 : decode cX9_valueAt 6 = .ok (.iload_n 2, 1) := by decide +kernel
theorem dX9_valueAt_7 : decode cX9_valueAt 7 = .ok (.invokevirtual 233, 3) := by decide +kernel
theorem dX9_valueAt_10 : decode cX9_valueAt 10 = .ok (.ireturn, 1) := by decide +kernel
theorem dX9_sizeAt_0 : decode cX9_sizeAt 0 = .ok (.aload_n 0, 1) := by decide +kernel
theorem dX9_sizeAt_1 : decode cX9_sizeAt 1 = .ok (.iload_n 1, 1) := by decide +kernel
theorem dX9_sizeAt_2 : decode cX9_sizeAt 2 = .ok (.iload_n 2, 1) := by decide +kernel
theorem dX9_sizeAt_3 : decode cX9_sizeAt 3 = .ok (.invokevirtual 141, 3) := by decide +kernel
theorem dX9_sizeAt_6 : decode cX9_sizeAt 6 = .ok (.iload_n 2, 1) := by decide +kernel
theorem dX9_sizeAt_7 : decode cX9_sizeAt 7 = .ok (.invokevirtual 236, 3) := by decide +kernel
theorem dX9_sizeAt_10 : decode cX9_sizeAt 10 = .ok (.ireturn, 1) := by decide +kernel
theorem dX9_above_0 : decode cX9_above 0 = .ok (.aload_n 0, 1) := by decide +kernel
theorem dX9_above_1 : decode cX9_above 1 = .ok (.iload_n 1, 1) := by decide +kernel
theorem dX9_above_2 : decode cX9_above 2 = .ok (.iload_n 2, 1) := by decide +kernel
theorem dX9_above_3 : decode cX9_above 3 = .ok (.invokevirtual 141, 3) := by decide +kernel
theorem dX9_above_6 : decode cX9_above 6 = .ok (.iload_n 2, 1) := by decide +kernel
theorem dX9_above_7 : decode cX9_above 7 = .ok (.invokevirtual 239, 3) := by decide +kernel
theorem dX9_above_10 : decode cX9_above 10 = .ok (.ireturn, 1) := by decide +kernel
theorem dX9_gives_0 : decode cX9_gives 0 = .ok (.aload_n 0, 1) := by decide +kernel
theorem dX9_gives_1 : decode cX9_gives 1 = .ok (.iload_n 1, 1) := by decide +kernel
theorem dX9_gives_2 : decode cX9_gives 2 = .ok (.invokevirtual 108, 3) := by decide +kernel
theorem dX9_gives_5 : decode cX9_gives 5 = .ok (.astore 5, 2) := by decide +kernel
theorem dX9_gives_7 : decode cX9_gives 7 = .ok (.iload_n 2, 1) := by decide +kernel
theorem dX9_gives_8 : decode cX9_gives 8 = .ok (.iload_n 3, 1) := by decide +kernel
theorem dX9_gives_9 : decode cX9_gives 9 = .ok (.iload 4, 2) := by decide +kernel
theorem dX9_gives_11 : decode cX9_gives 11 = .ok (.invokestatic 116, 3) := by decide +kernel
theorem dX9_gives_14 : decode cX9_gives 14 = .ok (.aload_n 0, 1) := by decide +kernel
theorem dX9_gives_15 : decode cX9_gives 15 = .ok (.getfield 47, 3) := by decide +kernel
theorem dX9_gives_18 : decode cX9_gives 18 = .ok (.iload_n 2, 1) := by decide +kernel
theorem dX9_gives_19 : decode cX9_gives 19 = .ok (.iload_n 3, 1) := by decide +kernel
theorem dX9_gives_20 : decode cX9_gives 20 = .ok (.iload 4, 2) := by decide +kernel
theorem dX9_gives_22 : decode cX9_gives 22 = .ok (.invokevirtual 242, 3) := by decide +kernel
theorem dX9_gives_25 : decode cX9_gives 25 = .ok (.aload_n 0, 1) := by decide +kernel
theorem dX9_gives_26 : decode cX9_gives 26 = .ok (.getfield 47, 3) := by decide +kernel
theorem dX9_gives_29 : decode cX9_gives 29 = .ok (.aload 5, 2) := by decide +kernel
theorem dX9_gives_31 : decode cX9_gives 31 = .ok (.iconst 0, 1) := by decide +kernel
theorem dX9_gives_32 : decode cX9_gives 32 = .ok (.invokevirtual 245, 3) := by decide +kernel
theorem dX9_gives_35 : decode cX9_gives 35 = .ok (.ireturn, 1) := by decide +kernel
theorem dX9_error_0 : decode cX9_error 0 = .ok (.aload_n 0, 1) := by decide +kernel
theorem dX9_error_1 : decode cX9_error 1 = .ok (.getfield 19, 3) := by decide +kernel
theorem dX9_error_4 : decode cX9_error 4 = .ok (.aload_n 0, 1) := by decide +kernel
theorem dX9_error_5 : decode cX9_error 5 = .ok (.iload_n 1, 1) := by decide +kernel
theorem dX9_error_6 : decode cX9_error 6 = .ok (.invokevirtual 108, 3) := by decide +kernel
theorem dX9_error_9 : decode cX9_error 9 = .ok (.iconst 0, 1) := by decide +kernel
theorem dX9_error_10 : decode cX9_error 10 = .ok (.invokevirtual 249, 3) := by decide +kernel
theorem dX9_error_13 : decode cX9_error 13 = .ok (.ireturn, 1) := by decide +kernel
theorem dX9_merit_0 : decode cX9_merit 0 = .ok (.aload_n 0, 1) := by decide +kernel
theorem dX9_merit_1 : decode cX9_merit 1 = .ok (.getfield 19, 3) := by decide +kernel
theorem dX9_merit_4 : decode cX9_merit 4 = .ok (.aload_n 0, 1) := by decide +kernel
theorem dX9_merit_5 : decode cX9_merit 5 = .ok (.iload_n 1, 1) := by decide +kernel
theorem dX9_merit_6 : decode cX9_merit 6 = .ok (.invokevirtual 108, 3) := by decide +kernel
