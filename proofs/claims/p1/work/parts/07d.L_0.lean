theorem dL_sketch_0 : decode cL_sketch 0 = .ok (.aload_n 3, 1) := by decide +kernel
theorem dL_sketch_1 : decode cL_sketch 1 = .ok (.iconst 0, 1) := by decide +kernel
theorem dL_sketch_2 : decode cL_sketch 2 = .ok (.aload_n 0, 1) := by decide +kernel
theorem dL_sketch_3 : decode cL_sketch 3 = .ok (.iload_n 1, 1) := by decide +kernel
theorem dL_sketch_4 : decode cL_sketch 4 = .ok (.iload_n 2, 1) := by decide +kernel
theorem dL_sketch_5 : decode cL_sketch 5 = .ok (.invokevirtual 7, 3) := by decide +kernel
theorem dL_sketch_8 : decode cL_sketch 8 = .ok (.i2l, 1) := by decide +kernel
theorem dL_sketch_9 : decode cL_sketch 9 = .ok (.lastore, 1) := by decide +kernel
theorem dL_sketch_10 : decode cL_sketch 10 = .ok (.goto 11, 3) := by decide +kernel
theorem dL_sketch_13 : decode cL_sketch 13 = .ok (.astore 4, 2) := by decide +kernel
theorem dL_sketch_15 : decode cL_sketch 15 = .ok (.iconst 1, 1) := by decide +kernel
theorem dL_sketch_16 : decode cL_sketch 16 = .ok (.ireturn, 1) := by decide +kernel
theorem dL_sketch_17 : decode cL_sketch 17 = .ok (.astore 4, 2) := by decide +kernel
theorem dL_sketch_19 : decode cL_sketch 19 = .ok (.iconst 2, 1) := by decide +kernel
theorem dL_sketch_20 : decode cL_sketch 20 = .ok (.ireturn, 1) := by decide +kernel
theorem dL_sketch_21 : decode cL_sketch 21 = .ok (.iconst 0, 1) := by decide +kernel
theorem dL_sketch_22 : decode cL_sketch 22 = .ok (.ireturn, 1) := by decide +kernel
theorem dL_plant_0 : decode cL_plant 0 = .ok (.aload_n 1, 1) := by decide +kernel
theorem dL_plant_1 : decode cL_plant 1 = .ok (.iconst 0, 1) := by decide +kernel
theorem dL_plant_2 : decode cL_plant 2 = .ok (.aload_n 0, 1) := by decide +kernel
theorem dL_plant_3 : decode cL_plant 3 = .ok (.invokevirtual 17, 3) := by decide +kernel
theorem dL_plant_6 : decode cL_plant 6 = .ok (.i2l, 1) := by decide +kernel
theorem dL_plant_7 : decode cL_plant 7 = .ok (.lastore, 1) := by decide +kernel
theorem dL_plant_8 : decode cL_plant 8 = .ok (.goto 6, 3) := by decide +kernel
theorem dL_plant_11 : decode cL_plant 11 = .ok (.astore_n 2, 1) := by decide +kernel
theorem dL_plant_12 : decode cL_plant 12 = .ok (.iconst 1, 1) := by decide +kernel
theorem dL_plant_13 : decode cL_plant 13 = .ok (.ireturn, 1) := by decide +kernel
theorem dL_plant_14 : decode cL_plant 14 = .ok (.iconst 0, 1) := by decide +kernel
theorem dL_plant_15 : decode cL_plant 15 = .ok (.ireturn, 1) := by decide +kernel
theorem dL_fell_0 : decode cL_fell 0 = .ok (.aload_n 2, 1) := by decide +kernel
theorem dL_fell_1 : decode cL_fell 1 = .ok (.iconst 0, 1) := by decide +kernel
theorem dL_fell_2 : decode cL_fell 2 = .ok (.aload_n 0, 1) := by decide +kernel
theorem dL_fell_3 : decode cL_fell 3 = .ok (.iload_n 1, 1) := by decide +kernel
theorem dL_fell_4 : decode cL_fell 4 = .ok (.invokevirtual 21, 3) := by decide +kernel
theorem dL_fell_7 : decode cL_fell 7 = .ok (.i2l, 1) := by decide +kernel
theorem dL_fell_8 : decode cL_fell 8 = .ok (.lastore, 1) := by decide +kernel
theorem dL_fell_9 : decode cL_fell 9 = .ok (.goto 6, 3) := by decide +kernel
theorem dL_fell_12 : decode cL_fell 12 = .ok (.astore_n 3, 1) := by decide +kernel
theorem dL_fell_13 : decode cL_fell 13 = .ok (.iconst 1, 1) := by decide +kernel
theorem dL_fell_14 : decode cL_fell 14 = .ok (.ireturn, 1) := by decide +kernel
theorem dL_fell_15 : decode cL_fell 15 = .ok (.iconst 0, 1) := by decide +kernel
theorem dL_fell_16 : decode cL_fell 16 = .ok (.ireturn, 1) := by decide +kernel
theorem dL_addCase_0 : decode cL_addCase 0 = .ok (.aload 5, 2) := by decide +kernel
theorem dL_addCase_2 : decode cL_addCase 2 = .ok (.iconst 0, 1) := by decide +kernel
theorem dL_addCase_3 : decode cL_addCase 3 = .ok (.aload_n 0, 1) := by decide +kernel
theorem dL_addCase_4 : decode cL_addCase 4 = .ok (.iload_n 1, 1) := by decide +kernel
theorem dL_addCase_5 : decode cL_addCase 5 = .ok (.iload_n 2, 1) := by decide +kernel
theorem dL_addCase_6 : decode cL_addCase 6 = .ok (.iload_n 3, 1) := by decide +kernel
theorem dL_addCase_7 : decode cL_addCase 7 = .ok (.iload 4, 2) := by decide +kernel
theorem dL_addCase_9 : decode cL_addCase 9 = .ok (.invokevirtual 27, 3) := by decide +kernel
theorem dL_addCase_12 : decode cL_addCase 12 = .ok (.i2l, 1) := by decide +kernel
theorem dL_addCase_13 : decode cL_addCase 13 = .ok (.lastore, 1) := by decide +kernel
theorem dL_addCase_14 : decode cL_addCase 14 = .ok (.goto 11, 3) := by decide +kernel
theorem dL_addCase_17 : decode cL_addCase 17 = .ok (.astore 6, 2) := by decide +kernel
theorem dL_addCase_19 : decode cL_addCase 19 = .ok (.iconst 1, 1) := by decide +kernel
theorem dL_addCase_20 : decode cL_addCase 20 = .ok (.ireturn, 1) := by decide +kernel
theorem dL_addCase_21 : decode cL_addCase 21 = .ok (.astore 6, 2) := by decide +kernel
theorem dL_addCase_23 : decode cL_addCase 23 = .ok (.iconst 2, 1) := by decide +kernel
theorem dL_addCase_24 : decode cL_addCase 24 = .ok (.ireturn, 1) := by decide +kernel
theorem dL_addCase_25 : decode cL_addCase 25 = .ok (.iconst 0, 1) := by decide +kernel
theorem dL_addCase_26 : decode cL_addCase 26 = .ok (.ireturn, 1) := by decide +kernel
theorem dL_setWay_0 : decode cL_setWay 0 = .ok (.aload_n 3, 1) := by decide +kernel
theorem dL_setWay_1 : decode cL_setWay 1 = .ok (.iconst 0, 1) := by decide +kernel
theorem dL_setWay_2 : decode cL_setWay 2 = .ok (.aload_n 0, 1) := by decide +kernel
theorem dL_setWay_3 : decode cL_setWay 3 = .ok (.iload_n 1, 1) := by decide +kernel
theorem dL_setWay_4 : decode cL_setWay 4 = .ok (.iload_n 2, 1) := by decide +kernel
theorem dL_setWay_5 : decode cL_setWay 5 = .ok (.invokevirtual 31, 3) := by decide +kernel
theorem dL_setWay_8 : decode cL_setWay 8 = .ok (.i2l, 1) := by decide +kernel
theorem dL_setWay_9 : decode cL_setWay 9 = .ok (.lastore, 1) := by decide +kernel
theorem dL_setWay_10 : decode cL_setWay 10 = .ok (.goto 7, 3) := by decide +kernel
theorem dL_setWay_13 : decode cL_setWay 13 = .ok (.astore 4, 2) := by decide +kernel
theorem dL_setWay_15 : decode cL_setWay 15 = .ok (.iconst 1, 1) := by decide +kernel
theorem dL_setWay_16 : decode cL_setWay 16 = .ok (.ireturn, 1) := by decide +kernel
theorem dL_setWay_17 : decode cL_setWay 17 = .ok (.iconst 0, 1) := by decide +kernel
theorem dL_setWay_18 : decode cL_setWay 18 = .ok (.ireturn, 1) := by decide +kernel
theorem dL_cross_0 : decode cL_cross 0 = .ok (.aload 5, 2) := by decide +kernel
theorem dL_cross_2 : decode cL_cross 2 = .ok (.iconst 0, 1) := by decide +kernel
theorem dL_cross_3 : decode cL_cross 3 = .ok (.aload_n 0, 1) := by decide +kernel
theorem dL_cross_4 : decode cL_cross 4 = .ok (.iload_n 1, 1) := by decide +kernel
theorem dL_cross_5 : decode cL_cross 5 = .ok (.iload_n 2, 1) := by decide +kernel
theorem dL_cross_6 : decode cL_cross 6 = .ok (.iload_n 3, 1) := by decide +kernel
theorem dL_cross_7 : decode cL_cross 7 = .ok (.iload 4, 2) := by decide +kernel
theorem dL_cross_9 : decode cL_cross 9 = .ok (.invokevirtual 34, 3) := by decide +kernel
theorem dL_cross_12 : decode cL_cross 12 = .ok (.i2l, 1) := by decide +kernel
theorem dL_cross_13 : decode cL_cross 13 = .ok (.lastore, 1) := by decide +kernel
theorem dL_cross_14 : decode cL_cross 14 = .ok (.goto 7, 3) := by decide +kernel
theorem dL_cross_17 : decode cL_cross 17 = .ok (.astore 6, 2) := by decide +kernel
theorem dL_cross_19 : decode cL_cross 19 = .ok (.iconst 1, 1) := by decide +kernel
theorem dL_cross_20 : decode cL_cross 20 = .ok (.ireturn, 1) := by decide +kernel
theorem dL_cross_21 : decode cL_cross 21 = .ok (.iconst 0, 1) := by decide +kernel
theorem dL_cross_22 : decode cL_cross 22 = .ok (.ireturn, 1) := by decide +kernel
theorem dL_hoist_0 : decode cL_hoist 0 = .ok (.aload_n 3, 1) := by decide +kernel
theorem dL_hoist_1 : decode cL_hoist 1 = .ok (.iconst 0, 1) := by decide +kernel
theorem dL_hoist_2 : decode cL_hoist 2 = .ok (.aload_n 0, 1) := by decide +kernel
theorem dL_hoist_3 : decode cL_hoist 3 = .ok (.iload_n 1, 1) := by decide +kernel
theorem dL_hoist_4 : decode cL_hoist 4 = .ok (.iload_n 2, 1) := by decide +kernel
theorem dL_hoist_5 : decode cL_hoist 5 = .ok (.invokevirtual 37, 3) := by decide +kernel
theorem dL_hoist_8 : decode cL_hoist 8 = .ok (.i2l, 1) := by decide +kernel
theorem dL_hoist_9 : decode cL_hoist 9 = .ok (.lastore, 1) := by decide +kernel
theorem dL_hoist_10 : decode cL_hoist 10 = .ok (.goto 7, 3) := by decide +kernel
theorem dL_hoist_13 : decode cL_hoist 13 = .ok (.astore 4, 2) := by decide +kernel
theorem dL_hoist_15 : decode cL_hoist 15 = .ok (.iconst 1, 1) := by decide +kernel
theorem dL_hoist_16 : decode cL_hoist 16 = .ok (.ireturn, 1) := by decide +kernel
theorem dL_hoist_17 : decode cL_hoist 17 = .ok (.iconst 0, 1) := by decide +kernel
theorem dL_hoist_18 : decode cL_hoist 18 = .ok (.ireturn, 1) := by decide +kernel
theorem dL_recode_0 : decode cL_recode 0 = .ok (.aload 5, 2) := by decide +kernel
theorem dL_recode_2 : decode cL_recode 2 = .ok (.iconst 0, 1) := by decide +kernel
theorem dL_recode_3 : decode cL_recode 3 = .ok (.aload_n 0, 1) := by decide +kernel
theorem dL_recode_4 : decode cL_recode 4 = .ok (.iload_n 1, 1) := by decide +kernel
theorem dL_recode_5 : decode cL_recode 5 = .ok (.iload_n 2, 1) := by decide +kernel
theorem dL_recode_6 : decode cL_recode 6 = .ok (.iload_n 3, 1) := by decide +kernel
theorem dL_recode_7 : decode cL_recode 7 = .ok (.iload 4, 2) := by decide +kernel
theorem dL_recode_9 : decode cL_recode 9 = .ok (.invokevirtual 40, 3) := by decide +kernel
theorem dL_recode_12 : decode cL_recode 12 = .ok (.i2l, 1) := by decide +kernel
theorem dL_recode_13 : decode cL_recode 13 = .ok (.lastore, 1) := by decide +kernel
theorem dL_recode_14 : decode cL_recode 14 = .ok (.goto 11, 3) := by decide +kernel
theorem dL_recode_17 : decode cL_recode 17 = .ok (.astore 6, 2) := by decide +kernel
theorem dL_recode_19 : decode cL_recode 19 = .ok (.iconst 1, 1) := by decide +kernel
theorem dL_recode_20 : decode cL_recode 20 = .ok (.ireturn, 1) := by decide +kernel
theorem dL_recode_21 : decode cL_recode 21 = .ok (.astore 6, 2) := by decide +kernel
theorem dL_recode_23 : decode cL_recode 23 = .ok (.iconst 2, 1) := by decide +kernel
theorem dL_recode_24 : decode cL_recode 24 = .ok (.ireturn, 1) := by decide +kernel
theorem dL_recode_25 : decode cL_recode 25 = .ok (.iconst 0, 1) := by decide +kernel
theorem dL_recode_26 : decode cL_recode 26 = .ok (.ireturn, 1) := by decide +kernel
theorem dL_wither_0 : decode cL_wither 0 = .ok (.aload 4, 2) := by decide +kernel
theorem dL_wither_2 : decode cL_wither 2 = .ok (.iconst 0, 1) := by decide +kernel
theorem dL_wither_3 : decode cL_wither 3 = .ok (.aload_n 0, 1) := by decide +kernel
theorem dL_wither_4 : decode cL_wither 4 = .ok (.iload_n 1, 1) := by decide +kernel
theorem dL_wither_5 : decode cL_wither 5 = .ok (.iload_n 2, 1) := by decide +kernel
theorem dL_wither_6 : decode cL_wither 6 = .ok (.iload_n 3, 1) := by decide +kernel
theorem dL_wither_7 : decode cL_wither 7 = .ok (.invokevirtual 43, 3) := by decide +kernel
theorem dL_wither_10 : decode cL_wither 10 = .ok (.i2l, 1) := by decide +kernel
theorem dL_wither_11 : decode cL_wither 11 = .ok (.lastore, 1) := by decide +kernel
theorem dL_wither_12 : decode cL_wither 12 = .ok (.goto 11, 3) := by decide +kernel
theorem dL_wither_15 : decode cL_wither 15 = .ok (.astore 5, 2) := by decide +kernel
theorem dL_wither_17 : decode cL_wither 17 = .ok (.iconst 1, 1) := by decide +kernel
theorem dL_wither_18 : decode cL_wither 18 = .ok (.ireturn, 1) := by decide +kernel
theorem dL_wither_19 : decode cL_wither 19 = .ok (.astore 5, 2) := by decide +kernel
theorem dL_wither_21 : decode cL_wither 21 = .ok (.iconst 2, 1) := by decide +kernel
theorem dL_wither_22 : decode cL_wither 22 = .ok (.ireturn, 1) := by decide +kernel
theorem dL_wither_23 : decode cL_wither 23 = .ok (.iconst 0, 1) := by decide +kernel
theorem dL_wither_24 : decode cL_wither 24 = .ok (.ireturn, 1) := by decide +kernel
theorem dL_simplify_0 : decode cL_simplify 0 = .ok (.aload_n 2, 1) := by decide +kernel
theorem dL_simplify_1 : decode cL_simplify 1 = .ok (.iconst 0, 1) := by decide +kernel
theorem dL_simplify_2 : decode cL_simplify 2 = .ok (.aload_n 0, 1) := by decide +kernel
theorem dL_simplify_3 : decode cL_simplify 3 = .ok (.iload_n 1, 1) := by decide +kernel
theorem dL_simplify_4 : decode cL_simplify 4 = .ok (.invokevirtual 47, 3) := by decide +kernel
theorem dL_simplify_7 : decode cL_simplify 7 = .ok (.i2l, 1) := by decide +kernel
theorem dL_simplify_8 : decode cL_simplify 8 = .ok (.lastore, 1) := by decide +kernel
theorem dL_simplify_9 : decode cL_simplify 9 = .ok (.goto 6, 3) := by decide +kernel
theorem dL_simplify_12 : decode cL_simplify 12 = .ok (.astore_n 3, 1) := by decide +kernel
theorem dL_simplify_13 : decode cL_simplify 13 = .ok (.iconst 1, 1) := by decide +kernel
theorem dL_simplify_14 : decode cL_simplify 14 = .ok (.ireturn, 1) := by decide +kernel
theorem dL_simplify_15 : decode cL_simplify 15 = .ok (.iconst 0, 1) := by decide +kernel
theorem dL_simplify_16 : decode cL_simplify 16 = .ok (.ireturn, 1) := by decide +kernel
theorem dL_setRates_0 : decode cL_setRates 0 = .ok (.aload 4, 2) := by decide +kernel
theorem dL_setRates_2 : decode cL_setRates 2 = .ok (.iconst 0, 1) := by decide +kernel
theorem dL_setRates_3 : decode cL_setRates 3 = .ok (.aload_n 0, 1) := by decide +kernel
theorem dL_setRates_4 : decode cL_setRates 4 = .ok (.iload_n 1, 1) := by decide +kernel
theorem dL_setRates_5 : decode cL_setRates 5 = .ok (.iload_n 2, 1) := by decide +kernel
theorem dL_setRates_6 : decode cL_setRates 6 = .ok (.iload_n 3, 1) := by decide +kernel
theorem dL_setRates_7 : decode cL_setRates 7 = .ok (.invokevirtual 50, 3) := by decide +kernel
theorem dL_setRates_10 : decode cL_setRates 10 = .ok (.i2l, 1) := by decide +kernel
theorem dL_setRates_11 : decode cL_setRates 11 = .ok (.lastore, 1) := by decide +kernel
theorem dL_setRates_12 : decode cL_setRates 12 = .ok (.goto 7, 3) := by decide +kernel
theorem dL_setRates_15 : decode cL_setRates 15 = .ok (.astore 5, 2) := by decide +kernel
theorem dL_setRates_17 : decode cL_setRates 17 = .ok (.iconst 1, 1) := by decide +kernel
theorem dL_setRates_18 : decode cL_setRates 18 = .ok (.ireturn, 1) := by decide +kernel
theorem dL_setRates_19 : decode cL_setRates 19 = .ok (.iconst 0, 1) := by decide +kernel
theorem dL_setRates_20 : decode cL_setRates 20 = .ok (.ireturn, 1) := by decide +kernel
theorem dL_setChoosing_0 : decode cL_setChoosing 0 = .ok (.aload_n 3, 1) := by decide +kernel
theorem dL_setChoosing_1 : decode cL_setChoosing 1 = .ok (.iconst 0, 1) := by decide +kernel
theorem dL_setChoosing_2 : decode cL_setChoosing 2 = .ok (.aload_n 0, 1) := by decide +kernel
theorem dL_setChoosing_3 : decode cL_setChoosing 3 = .ok (.iload_n 1, 1) := by decide +kernel
theorem dL_setChoosing_4 : decode cL_setChoosing 4 = .ok (.iload_n 2, 1) := by decide +kernel
theorem dL_setChoosing_5 : decode cL_setChoosing 5 = .ok (.invokevirtual 53, 3) := by decide +kernel
theorem dL_setChoosing_8 : decode cL_setChoosing 8 = .ok (.i2l, 1) := by decide +kernel
theorem dL_setChoosing_9 : decode cL_setChoosing 9 = .ok (.lastore, 1) := by decide +kernel
theorem dL_setChoosing_10 : decode cL_setChoosing 10 = .ok (.goto 7, 3) := by decide +kernel
theorem dL_setChoosing_13 : decode cL_setChoosing 13 = .ok (.astore 4, 2) := by decide +kernel
theorem dL_setChoosing_15 : decode cL_setChoosing 15 = .ok (.iconst 1, 1) := by decide +kernel
theorem dL_setChoosing_16 : decode cL_setChoosing 16 = .ok (.ireturn, 1) := by decide +kernel
theorem dL_setChoosing_17 : decode cL_setChoosing 17 = .ok (.iconst 0, 1) := by decide +kernel
theorem dL_setChoosing_18 : decode cL_setChoosing 18 = .ok (.ireturn, 1) := by decide +kernel
theorem dL_setLuck_0 : decode cL_setLuck 0 = .ok (.aload_n 2, 1) := by decide +kernel
theorem dL_setLuck_1 : decode cL_setLuck 1 = .ok (.iconst 0, 1) := by decide +kernel
theorem dL_setLuck_2 : decode cL_setLuck 2 = .ok (.aload_n 0, 1) := by decide +kernel
theorem dL_setLuck_3 : decode cL_setLuck 3 = .ok (.iload_n 1, 1) := by decide +kernel
theorem dL_setLuck_4 : decode cL_setLuck 4 = .ok (.invokevirtual 56, 3) := by decide +kernel
theorem dL_setLuck_7 : decode cL_setLuck 7 = .ok (.i2l, 1) := by decide +kernel
theorem dL_setLuck_8 : decode cL_setLuck 8 = .ok (.lastore, 1) := by decide +kernel
theorem dL_setLuck_9 : decode cL_setLuck 9 = .ok (.goto 6, 3) := by decide +kernel
theorem dL_setLuck_12 : decode cL_setLuck 12 = .ok (.astore_n 3, 1) := by decide +kernel
theorem dL_setLuck_13 : decode cL_setLuck 13 = .ok (.iconst 1, 1) := by decide +kernel
theorem dL_setLuck_14 : decode cL_setLuck 14 = .ok (.ireturn, 1) := by decide +kernel
theorem dL_setLuck_15 : decode cL_setLuck 15 = .ok (.iconst 0, 1) := by decide +kernel
theorem dL_setLuck_16 : decode cL_setLuck 16 = .ok (.ireturn, 1) := by decide +kernel
theorem dL_tell_0 : decode cL_tell 0 = .ok (.aload_n 2, 1) := by decide +kernel
theorem dL_tell_1 : decode cL_tell 1 = .ok (.iconst 0, 1) := by decide +kernel
theorem dL_tell_2 : decode cL_tell 2 = .ok (.aload_n 0, 1) := by decide +kernel
theorem dL_tell_3 : decode cL_tell 3 = .ok (.iload_n 1, 1) := by decide +kernel
theorem dL_tell_4 : decode cL_tell 4 = .ok (.invokevirtual 59, 3) := by decide +kernel
theorem dL_tell_7 : decode cL_tell 7 = .ok (.i2l, 1) := by decide +kernel
theorem dL_tell_8 : decode cL_tell 8 = .ok (.lastore, 1) := by decide +kernel
theorem dL_tell_9 : decode cL_tell 9 = .ok (.goto 9, 3) := by decide +kernel
theorem dL_tell_12 : decode cL_tell 12 = .ok (.astore_n 3, 1) := by decide +kernel
theorem dL_tell_13 : decode cL_tell 13 = .ok (.iconst 1, 1) := by decide +kernel
theorem dL_tell_14 : decode cL_tell 14 = .ok (.ireturn, 1) := by decide +kernel
theorem dL_tell_15 : decode cL_tell 15 = .ok (.astore_n 3, 1) := by decide +kernel
theorem dL_tell_16 : decode cL_tell 16 = .ok (.iconst 2, 1) := by decide +kernel
theorem dL_tell_17 : decode cL_tell 17 = .ok (.ireturn, 1) := by decide +kernel
theorem dL_tell_18 : decode cL_tell 18 = .ok (.iconst 0, 1) := by decide +kernel
theorem dL_tell_19 : decode cL_tell 19 = .ok (.ireturn, 1) := by decide +kernel
theorem dL_breed_0 : decode cL_breed 0 = .ok (.aload_n 2, 1) := by decide +kernel
theorem dL_breed_1 : decode cL_breed 1 = .ok (.iconst 0, 1) := by decide +kernel
theorem dL_breed_2 : decode cL_breed 2 = .ok (.aload_n 0, 1) := by decide +kernel
theorem dL_breed_3 : decode cL_breed 3 = .ok (.iload_n 1, 1) := by decide +kernel
theorem dL_breed_4 : decode cL_breed 4 = .ok (.invokevirtual 62, 3) := by decide +kernel
theorem dL_breed_7 : decode cL_breed 7 = .ok (.i2l, 1) := by decide +kernel
theorem dL_breed_8 : decode cL_breed 8 = .ok (.lastore, 1) := by decide +kernel
theorem dL_breed_9 : decode cL_breed 9 = .ok (.goto 9, 3) := by decide +kernel
theorem dL_breed_12 : decode cL_breed 12 = .ok (.astore_n 3, 1) := by decide +kernel
theorem dL_breed_13 : decode cL_breed 13 = .ok (.iconst 1, 1) := by decide +kernel
theorem dL_breed_14 : decode cL_breed 14 = .ok (.ireturn, 1) := by decide +kernel
theorem dL_breed_15 : decode cL_breed 15 = .ok (.astore_n 3, 1) := by decide +kernel
theorem dL_breed_16 : decode cL_breed 16 = .ok (.iconst 2, 1) := by decide +kernel
theorem dL_breed_17 : decode cL_breed 17 = .ok (.ireturn, 1) := by decide +kernel
theorem dL_breed_18 : decode cL_breed 18 = .ok (.iconst 0, 1) := by decide +kernel
theorem dL_breed_19 : decode cL_breed 19 = .ok (.ireturn, 1) := by decide +kernel
theorem dL_size_0 : decode cL_size 0 = .ok (.aload_n 2, 1) := by decide +kernel
theorem dL_size_1 : decode cL_size 1 = .ok (.iconst 0, 1) := by decide +kernel
theorem dL_size_2 : decode cL_size 2 = .ok (.aload_n 0, 1) := by decide +kernel
theorem dL_size_3 : decode cL_size 3 = .ok (.iload_n 1, 1) := by decide +kernel
theorem dL_size_4 : decode cL_size 4 = .ok (.invokevirtual 65, 3) := by decide +kernel
theorem dL_size_7 : decode cL_size 7 = .ok (.i2l, 1) := by decide +kernel
theorem dL_size_8 : decode cL_size 8 = .ok (.lastore, 1) := by decide +kernel
theorem dL_size_9 : decode cL_size 9 = .ok (.goto 6, 3) := by decide +kernel
theorem dL_size_12 : decode cL_size 12 = .ok (.astore_n 3, 1) := by decide +kernel
theorem dL_size_13 : decode cL_size 13 = .ok (.iconst 1, 1) := by decide +kernel
theorem dL_size_14 : decode cL_size 14 = .ok (.ireturn, 1) := by decide +kernel
theorem dL_size_15 : decode cL_size 15 = .ok (.iconst 0, 1) := by decide +kernel
theorem dL_size_16 : decode cL_size 16 = .ok (.ireturn, 1) := by decide +kernel
theorem dL_depth_0 : decode cL_depth 0 = .ok (.aload_n 2, 1) := by decide +kernel
theorem dL_depth_1 : decode cL_depth 1 = .ok (.iconst 0, 1) := by decide +kernel
theorem dL_depth_2 : decode cL_depth 2 = .ok (.aload_n 0, 1) := by decide +kernel
theorem dL_depth_3 : decode cL_depth 3 = .ok (.iload_n 1, 1) := by decide +kernel
theorem dL_depth_4 : decode cL_depth 4 = .ok (.invokevirtual 68, 3) := by decide +kernel
theorem dL_depth_7 : decode cL_depth 7 = .ok (.i2l, 1) := by decide +kernel
theorem dL_depth_8 : decode cL_depth 8 = .ok (.lastore, 1) := by decide +kernel
theorem dL_depth_9 : decode cL_depth 9 = .ok (.goto 6, 3) := by decide +kernel
theorem dL_depth_12 : decode cL_depth 12 = .ok (.astore_n 3, 1) := by decide +kernel
theorem dL_depth_13 : decode cL_depth 13 = .ok (.iconst 1, 1) := by decide +kernel
theorem dL_depth_14 : decode cL_depth 14 = .ok (.ireturn, 1) := by decide +kernel
theorem dL_depth_15 : decode cL_depth 15 = .ok (.iconst 0, 1) := by decide +kernel
theorem dL_depth_16 : decode cL_depth 16 = .ok (.ireturn, 1) := by decide +kernel
theorem dL_codeAt_0 : decode cL_codeAt 0 = .ok (.aload_n 3, 1) := by decide +kernel
theorem dL_codeAt_1 : decode cL_codeAt 1 = .ok (.iconst 0, 1) := by decide +kernel
theorem dL_codeAt_2 : decode cL_codeAt 2 = .ok (.aload_n 0, 1) := by decide +kernel
theorem dL_codeAt_3 : decode cL_codeAt 3 = .ok (.iload_n 1, 1) := by decide +kernel
theorem dL_codeAt_4 : decode cL_codeAt 4 = .ok (.iload_n 2, 1) := by decide +kernel
theorem dL_codeAt_5 : decode cL_codeAt 5 = .ok (.invokevirtual 71, 3) := by decide +kernel
theorem dL_codeAt_8 : decode cL_codeAt 8 = .ok (.i2l, 1) := by decide +kernel
theorem dL_codeAt_9 : decode cL_codeAt 9 = .ok (.lastore, 1) := by decide +kernel
theorem dL_codeAt_10 : decode cL_codeAt 10 = .ok (.goto 7, 3) := by decide +kernel
theorem dL_codeAt_13 : decode cL_codeAt 13 = .ok (.astore 4, 2) := by decide +kernel
theorem dL_codeAt_15 : decode cL_codeAt 15 = .ok (.iconst 1, 1) := by decide +kernel
theorem dL_codeAt_16 : decode cL_codeAt 16 = .ok (.ireturn, 1) := by decide +kernel
theorem dL_codeAt_17 : decode cL_codeAt 17 = .ok (.iconst 0, 1) := by decide +kernel
theorem dL_codeAt_18 : decode cL_codeAt 18 = .ok (.ireturn, 1) := by decide +kernel
theorem dL_valueAt_0 : decode cL_valueAt 0 = .ok (.aload_n 3, 1) := by decide +kernel
theorem dL_valueAt_1 : decode cL_valueAt 1 = .ok (.iconst 0, 1) := by decide +kernel
theorem dL_valueAt_2 : decode cL_valueAt 2 = .ok (.aload_n 0, 1) := by decide +kernel
theorem dL_valueAt_3 : decode cL_valueAt 3 = .ok (.iload_n 1, 1) := by decide +kernel
theorem dL_valueAt_4 : decode cL_valueAt 4 = .ok (.iload_n 2, 1) := by decide +kernel
theorem dL_valueAt_5 : decode cL_valueAt 5 = .ok (.invokevirtual 74, 3) := by decide +kernel
theorem dL_valueAt_8 : decode cL_valueAt 8 = .ok (.i2l, 1) := by decide +kernel
theorem dL_valueAt_9 : decode cL_valueAt 9 = .ok (.lastore, 1) := by decide +kernel
theorem dL_valueAt_10 : decode cL_valueAt 10 = .ok (.goto 7, 3) := by decide +kernel
theorem dL_valueAt_13 : decode cL_valueAt 13 = .ok (.astore 4, 2) := by decide +kernel
theorem dL_valueAt_15 : decode cL_valueAt 15 = .ok (.iconst 1, 1) := by decide +kernel
theorem dL_valueAt_16 : decode cL_valueAt 16 = .ok (.ireturn, 1) := by decide +kernel
theorem dL_valueAt_17 : decode cL_valueAt 17 = .ok (.iconst 0, 1) := by decide +kernel
theorem dL_valueAt_18 : decode cL_valueAt 18 = .ok (.ireturn, 1) := by decide +kernel
theorem dL_sizeAt_0 : decode cL_sizeAt 0 = .ok (.aload_n 3, 1) := by decide +kernel
theorem dL_sizeAt_1 : decode cL_sizeAt 1 = .ok (.iconst 0, 1) := by decide +kernel
theorem dL_sizeAt_2 : decode cL_sizeAt 2 = .ok (.aload_n 0, 1) := by decide +kernel
theorem dL_sizeAt_3 : decode cL_sizeAt 3 = .ok (.iload_n 1, 1) := by decide +kernel
theorem dL_sizeAt_4 : decode cL_sizeAt 4 = .ok (.iload_n 2, 1) := by decide +kernel
theorem dL_sizeAt_5 : decode cL_sizeAt 5 = .ok (.invokevirtual 77, 3) := by decide +kernel
theorem dL_sizeAt_8 : decode cL_sizeAt 8 = .ok (.i2l, 1) := by decide +kernel
theorem dL_sizeAt_9 : decode cL_sizeAt 9 = .ok (.lastore, 1) := by decide +kernel
theorem dL_sizeAt_10 : decode cL_sizeAt 10 = .ok (.goto 7, 3) := by decide +kernel
theorem dL_sizeAt_13 : decode cL_sizeAt 13 = .ok (.astore 4, 2) := by decide +kernel
theorem dL_sizeAt_15 : decode cL_sizeAt 15 = .ok (.iconst 1, 1) := by decide +kernel
theorem dL_sizeAt_16 : decode cL_sizeAt 16 = .ok (.ireturn, 1) := by decide +kernel
theorem dL_sizeAt_17 : decode cL_sizeAt 17 = .ok (.iconst 0, 1) := by decide +kernel
theorem dL_sizeAt_18 : decode cL_sizeAt 18 = .ok (.ireturn, 1) := by decide +kernel
theorem dL_above_0 : decode cL_above 0 = .ok (.aload_n 3, 1) := by decide +kernel
theorem dL_above_1 : decode cL_above 1 = .ok (.iconst 0, 1) := by decide +kernel
theorem dL_above_2 : decode cL_above 2 = .ok (.aload_n 0, 1) := by decide +kernel
theorem dL_above_3 : decode cL_above 3 = .ok (.iload_n 1, 1) := by decide +kernel
theorem dL_above_4 : decode cL_above 4 = .ok (.iload_n 2, 1) := by decide +kernel
theorem dL_above_5 : decode cL_above 5 = .ok (.invokevirtual 80, 3) := by decide +kernel
theorem dL_above_8 : decode cL_above 8 = .ok (.i2l, 1) := by decide +kernel
theorem dL_above_9 : decode cL_above 9 = .ok (.lastore, 1) := by decide +kernel
theorem dL_above_10 : decode cL_above 10 = .ok (.goto 7, 3) := by decide +kernel
theorem dL_above_13 : decode cL_above 13 = .ok (.astore 4, 2) := by decide +kernel
theorem dL_above_15 : decode cL_above 15 = .ok (.iconst 1, 1) := by decide +kernel
theorem dL_above_16 : decode cL_above 16 = .ok (.ireturn, 1) := by decide +kernel
theorem dL_above_17 : decode cL_above 17 = .ok (.iconst 0, 1) := by decide +kernel
theorem dL_above_18 : decode cL_above 18 = .ok (.ireturn, 1) := by decide +kernel
theorem dL_gives_0 : decode cL_gives 0 = .ok (.aload 5, 2) := by decide +kernel
theorem dL_gives_2 : decode cL_gives 2 = .ok (.iconst 0, 1) := by decide +kernel
theorem dL_gives_3 : decode cL_gives 3 = .ok (.aload_n 0, 1) := by decide +kernel
theorem dL_gives_4 : decode cL_gives 4 = .ok (.iload_n 1, 1) := by decide +kernel
theorem dL_gives_5 : decode cL_gives 5 = .ok (.iload_n 2, 1) := by decide +kernel
theorem dL_gives_6 : decode cL_gives 6 = .ok (.iload_n 3, 1) := by decide +kernel
theorem dL_gives_7 : decode cL_gives 7 = .ok (.iload 4, 2) := by decide +kernel
theorem dL_gives_9 : decode cL_gives 9 = .ok (.invokevirtual 83, 3) := by decide +kernel
theorem dL_gives_12 : decode cL_gives 12 = .ok (.i2l, 1) := by decide +kernel
theorem dL_gives_13 : decode cL_gives 13 = .ok (.lastore, 1) := by decide +kernel
theorem dL_gives_14 : decode cL_gives 14 = .ok (.goto 11, 3) := by decide +kernel
theorem dL_gives_17 : decode cL_gives 17 = .ok (.astore 6, 2) := by decide +kernel
theorem dL_gives_19 : decode cL_gives 19 = .ok (.iconst 1, 1) := by decide +kernel
theorem dL_gives_20 : decode cL_gives 20 = .ok (.ireturn, 1) := by decide +kernel
theorem dL_gives_21 : decode cL_gives 21 = .ok (.astore 6, 2) := by decide +kernel
theorem dL_gives_23 : decode cL_gives 23 = .ok (.iconst 2, 1) := by decide +kernel
theorem dL_gives_24 : decode cL_gives 24 = .ok (.ireturn, 1) := by decide +kernel
theorem dL_gives_25 : decode cL_gives 25 = .ok (.iconst 0, 1) := by decide +kernel
theorem dL_gives_26 : decode cL_gives 26 = .ok (.ireturn, 1) := by decide +kernel
theorem dL_error_0 : decode cL_error 0 = .ok (.aload_n 2, 1) := by decide +kernel
theorem dL_error_1 : decode cL_error 1 = .ok (.iconst 0, 1) := by decide +kernel
theorem dL_error_2 : decode cL_error 2 = .ok (.aload_n 0, 1) := by decide +kernel
theorem dL_error_3 : decode cL_error 3 = .ok (.iload_n 1, 1) := by decide +kernel
theorem dL_error_4 : decode cL_error 4 = .ok (.invokevirtual 86, 3) := by decide +kernel
theorem dL_error_7 : decode cL_error 7 = .ok (.i2l, 1) := by decide +kernel
theorem dL_error_8 : decode cL_error 8 = .ok (.lastore, 1) := by decide +kernel
theorem dL_error_9 : decode cL_error 9 = .ok (.goto 6, 3) := by decide +kernel
theorem dL_error_12 : decode cL_error 12 = .ok (.astore_n 3, 1) := by decide +kernel
theorem dL_error_13 : decode cL_error 13 = .ok (.iconst 1, 1) := by decide +kernel
theorem dL_error_14 : decode cL_error 14 = .ok (.ireturn, 1) := by decide +kernel
theorem dL_error_15 : decode cL_error 15 = .ok (.iconst 0, 1) := by decide +kernel
theorem dL_error_16 : decode cL_error 16 = .ok (.ireturn, 1) := by decide +kernel
theorem dL_merit_0 : decode cL_merit 0 = .ok (.aload_n 2, 1) := by decide +kernel
theorem dL_merit_1 : decode cL_merit 1 = .ok (.iconst 0, 1) := by decide +kernel
theorem dL_merit_2 : decode cL_merit 2 = .ok (.aload_n 0, 1) := by decide +kernel
theorem dL_merit_3 : decode cL_merit 3 = .ok (.iload_n 1, 1) := by decide +kernel
theorem dL_merit_4 : decode cL_merit 4 = .ok (.invokevirtual 89, 3) := by decide +kernel
theorem dL_merit_7 : decode cL_merit 7 = .ok (.i2l, 1) := by decide +kernel
theorem dL_merit_8 : decode cL_merit 8 = .ok (.lastore, 1) := by decide +kernel
theorem dL_merit_9 : decode cL_merit 9 = .ok (.goto 6, 3) := by decide +kernel
theorem dL_merit_12 : decode cL_merit 12 = .ok (.astore_n 3, 1) := by decide +kernel
theorem dL_merit_13 : decode cL_merit 13 = .ok (.iconst 1, 1) := by decide +kernel
theorem dL_merit_14 : decode cL_merit 14 = .ok (.ireturn, 1) := by decide +kernel
theorem dL_merit_15 : decode cL_merit 15 = .ok (.iconst 0, 1) := by decide +kernel
theorem dL_merit_16 : decode cL_merit 16 = .ok (.ireturn, 1) := by decide +kernel
theorem dL_hits_0 : decode cL_hits 0 = .ok (.aload_n 2, 1) := by decide +kernel
theorem dL_hits_1 : decode cL_hits 1 = .ok (.iconst 0, 1) := by decide +kernel
theorem dL_hits_2 : decode cL_hits 2 = .ok (.aload_n 0, 1) := by decide +kernel
theorem dL_hits_3 : decode cL_hits 3 = .ok (.iload_n 1, 1) := by decide +kernel
theorem dL_hits_4 : decode cL_hits 4 = .ok (.invokevirtual 92, 3) := by decide +kernel
theorem dL_hits_7 : decode cL_hits 7 = .ok (.i2l, 1) := by decide +kernel
theorem dL_hits_8 : decode cL_hits 8 = .ok (.lastore, 1) := by decide +kernel
theorem dL_hits_9 : decode cL_hits 9 = .ok (.goto 6, 3) := by decide +kernel
theorem dL_hits_12 : decode cL_hits 12 = .ok (.astore_n 3, 1) := by decide +kernel
theorem dL_hits_13 : decode cL_hits 13 = .ok (.iconst 1, 1) := by decide +kernel
theorem dL_hits_14 : decode cL_hits 14 = .ok (.ireturn, 1) := by decide +kernel
theorem dL_hits_15 : decode cL_hits 15 = .ok (.iconst 0, 1) := by decide +kernel
theorem dL_hits_16 : decode cL_hits 16 = .ok (.ireturn, 1) := by decide +kernel
theorem dL_ranked_0 : decode cL_ranked 0 = .ok (.aload_n 2, 1) := by decide +kernel
theorem dL_ranked_1 : decode cL_ranked 1 = .ok (.iconst 0, 1) := by decide +kernel
theorem dL_ranked_2 : decode cL_ranked 2 = .ok (.aload_n 0, 1) := by decide +kernel
theorem dL_ranked_3 : decode cL_ranked 3 = .ok (.iload_n 1, 1) := by decide +kernel
theorem dL_ranked_4 : decode cL_ranked 4 = .ok (.invokevirtual 95, 3) := by decide +kernel
theorem dL_ranked_7 : decode cL_ranked 7 = .ok (.i2l, 1) := by decide +kernel
theorem dL_ranked_8 : decode cL_ranked 8 = .ok (.lastore, 1) := by decide +kernel
theorem dL_ranked_9 : decode cL_ranked 9 = .ok (.goto 6, 3) := by decide +kernel
theorem dL_ranked_12 : decode cL_ranked 12 = .ok (.astore_n 3, 1) := by decide +kernel
theorem dL_ranked_13 : decode cL_ranked 13 = .ok (.iconst 1, 1) := by decide +kernel
theorem dL_ranked_14 : decode cL_ranked 14 = .ok (.ireturn, 1) := by decide +kernel
theorem dL_ranked_15 : decode cL_ranked 15 = .ok (.iconst 0, 1) := by decide +kernel
theorem dL_ranked_16 : decode cL_ranked 16 = .ok (.ireturn, 1) := by decide +kernel
theorem dL_alike_0 : decode cL_alike 0 = .ok (.aload_n 3, 1) := by decide +kernel
theorem dL_alike_1 : decode cL_alike 1 = .ok (.iconst 0, 1) := by decide +kernel
theorem dL_alike_2 : decode cL_alike 2 = .ok (.aload_n 0, 1) := by decide +kernel
theorem dL_alike_3 : decode cL_alike 3 = .ok (.iload_n 1, 1) := by decide +kernel
theorem dL_alike_4 : decode cL_alike 4 = .ok (.iload_n 2, 1) := by decide +kernel
theorem dL_alike_5 : decode cL_alike 5 = .ok (.invokevirtual 98, 3) := by decide +kernel
theorem dL_alike_8 : decode cL_alike 8 = .ok (.i2l, 1) := by decide +kernel
theorem dL_alike_9 : decode cL_alike 9 = .ok (.lastore, 1) := by decide +kernel
theorem dL_alike_10 : decode cL_alike 10 = .ok (.goto 7, 3) := by decide +kernel
theorem dL_alike_13 : decode cL_alike 13 = .ok (.astore 4, 2) := by decide +kernel
theorem dL_alike_15 : decode cL_alike 15 = .ok (.iconst 1, 1) := by decide +kernel
theorem dL_alike_16 : decode cL_alike 16 = .ok (.ireturn, 1) := by decide +kernel
theorem dL_alike_17 : decode cL_alike 17 = .ok (.iconst 0, 1) := by decide +kernel
theorem dL_alike_18 : decode cL_alike 18 = .ok (.ireturn, 1) := by decide +kernel
theorem dL_errorCrossed_0 : decode cL_errorCrossed 0 = .ok (.aload 5, 2) := by decide +kernel
theorem dL_errorCrossed_2 : decode cL_errorCrossed 2 = .ok (.iconst 0, 1) := by decide +kernel
theorem dL_errorCrossed_3 : decode cL_errorCrossed 3 = .ok (.aload_n 0, 1) := by decide +kernel
theorem dL_errorCrossed_4 : decode cL_errorCrossed 4 = .ok (.iload_n 1, 1) := by decide +kernel
