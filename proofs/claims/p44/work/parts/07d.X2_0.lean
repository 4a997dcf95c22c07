theorem dX2_init_0 : decode cX2_init 0 = .ok (.aload_n 0, 1) := by decide +kernel
theorem dX2_init_1 : decode cX2_init 1 = .ok (.invokespecial 3, 3) := by decide +kernel
theorem dX2_init_4 : decode cX2_init 4 = .ok (.aload_n 0, 1) := by decide +kernel
theorem dX2_init_5 : decode cX2_init 5 = .ok (.new 9, 3) := by decide +kernel
theorem dX2_init_8 : decode cX2_init 8 = .ok (.dup, 1) := by decide +kernel
theorem dX2_init_9 : decode cX2_init 9 = .ok (.invokespecial 11, 3) := by decide +kernel
theorem dX2_init_12 : decode cX2_init 12 = .ok (.putfield 12, 3) := by decide +kernel
theorem dX2_init_15 : decode cX2_init 15 = .ok (.aload_n 0, 1) := by decide +kernel
theorem dX2_init_16 : decode cX2_init 16 = .ok (.new 18, 3) := by decide +kernel
theorem dX2_init_19 : decode cX2_init 19 = .ok (.dup, 1) := by decide +kernel
theorem dX2_init_20 : decode cX2_init 20 = .ok (.invokespecial 20, 3) := by decide +kernel
theorem dX2_init_23 : decode cX2_init 23 = .ok (.putfield 21, 3) := by decide +kernel
theorem dX2_init_26 : decode cX2_init 26 = .ok (.aload_n 0, 1) := by decide +kernel
theorem dX2_init_27 : decode cX2_init 27 = .ok (.bipush 16, 2) := by decide +kernel
theorem dX2_init_29 : decode cX2_init 29 = .ok (.anewarray 18, 3) := by decide +kernel
theorem dX2_init_32 : decode cX2_init 32 = .ok (.putfield 25, 3) := by decide +kernel
theorem dX2_init_35 : decode cX2_init 35 = .ok (.aload_n 0, 1) := by decide +kernel
theorem dX2_init_36 : decode cX2_init 36 = .ok (.bipush 16, 2) := by decide +kernel
theorem dX2_init_38 : decode cX2_init 38 = .ok (.anewarray 18, 3) := by decide +kernel
theorem dX2_init_41 : decode cX2_init 41 = .ok (.putfield 29, 3) := by decide +kernel
theorem dX2_init_44 : decode cX2_init 44 = .ok (.iconst 0, 1) := by decide +kernel
theorem dX2_init_45 : decode cX2_init 45 = .ok (.istore_n 1, 1) := by decide +kernel
theorem dX2_init_46 : decode cX2_init 46 = .ok (.iload_n 1, 1) := by decide +kernel
theorem dX2_init_47 : decode cX2_init 47 = .ok (.aload_n 0, 1) := by decide +kernel
theorem dX2_init_48 : decode cX2_init 48 = .ok (.getfield 25, 3) := by decide +kernel
theorem dX2_init_51 : decode cX2_init 51 = .ok (.arraylength, 1) := by decide +kernel
theorem dX2_init_52 : decode cX2_init 52 = .ok (.if_icmp .ge 22, 3) := by decide +kernel
theorem dX2_init_55 : decode cX2_init 55 = .ok (.aload_n 0, 1) := by decide +kernel
theorem dX2_init_56 : decode cX2_init 56 = .ok (.getfield 25, 3) := by decide +kernel
theorem dX2_init_59 : decode cX2_init 59 = .ok (.iload_n 1, 1) := by decide +kernel
theorem dX2_init_60 : decode cX2_init 60 = .ok (.new 18, 3) := by decide +kernel
theorem dX2_init_63 : decode cX2_init 63 = .ok (.dup, 1) := by decide +kernel
theorem dX2_init_64 : decode cX2_init 64 = .ok (.invokespecial 20, 3) := by decide +kernel
theorem dX2_init_67 : decode cX2_init 67 = .ok (.aastore, 1) := by decide +kernel
theorem dX2_init_68 : decode cX2_init 68 = .ok (.iinc 1 1, 3) := by decide +kernel
theorem dX2_init_71 : decode cX2_init 71 = .ok (.goto (-25), 3) := by decide +kernel
theorem dX2_init_74 : decode cX2_init 74 = .ok (.iconst 0, 1) := by decide +kernel
theorem dX2_init_75 : decode cX2_init 75 = .ok (.istore_n 1, 1) := by decide +kernel
theorem dX2_init_76 : decode cX2_init 76 = .ok (.iload_n 1, 1) := by decide +kernel
theorem dX2_init_77 : decode cX2_init 77 = .ok (.aload_n 0, 1) := by decide +kernel
theorem dX2_init_78 : decode cX2_init 78 = .ok (.getfield 29, 3) := by decide +kernel
theorem dX2_init_81 : decode cX2_init 81 = .ok (.arraylength, 1) := by decide +kernel
theorem dX2_init_82 : decode cX2_init 82 = .ok (.if_icmp .ge 22, 3) := by decide +kernel
theorem dX2_init_85 : decode cX2_init 85 = .ok (.aload_n 0, 1) := by decide +kernel
theorem dX2_init_86 : decode cX2_init 86 = .ok (.getfield 29, 3) := by decide +kernel
theorem dX2_init_89 : decode cX2_init 89 = .ok (.iload_n 1, 1) := by decide +kernel
theorem dX2_init_90 : decode cX2_init 90 = .ok (.new 18, 3) := by decide +kernel
theorem dX2_init_93 : decode cX2_init 93 = .ok (.dup, 1) := by decide +kernel
theorem dX2_init_94 : decode cX2_init 94 = .ok (.invokespecial 20, 3) := by decide +kernel
theorem dX2_init_97 : decode cX2_init 97 = .ok (.aastore, 1) := by decide +kernel
theorem dX2_init_98 : decode cX2_init 98 = .ok (.iinc 1 1, 3) := by decide +kernel
theorem dX2_init_101 : decode cX2_init 101 = .ok (.goto (-25), 3) := by decide +kernel
theorem dX2_init_104 : decode cX2_init 104 = .ok (.return_, 1) := by decide +kernel
theorem dX2_tree_0 : decode cX2_tree 0 = .ok (.aload_n 0, 1) := by decide +kernel
theorem dX2_tree_1 : decode cX2_tree 1 = .ok (.aload_n 0, 1) := by decide +kernel
theorem dX2_tree_2 : decode cX2_tree 2 = .ok (.getfield 25, 3) := by decide +kernel
theorem dX2_tree_5 : decode cX2_tree 5 = .ok (.iload_n 1, 1) := by decide +kernel
theorem dX2_tree_6 : decode cX2_tree 6 = .ok (.invokevirtual 32, 3) := by decide +kernel
theorem dX2_tree_9 : decode cX2_tree 9 = .ok (.areturn, 1) := by decide +kernel
theorem dX2_youngTree_0 : decode cX2_youngTree 0 = .ok (.aload_n 0, 1) := by decide +kernel
theorem dX2_youngTree_1 : decode cX2_youngTree 1 = .ok (.aload_n 0, 1) := by decide +kernel
theorem dX2_youngTree_2 : decode cX2_youngTree 2 = .ok (.getfield 29, 3) := by decide +kernel
theorem dX2_youngTree_5 : decode cX2_youngTree 5 = .ok (.iload_n 1, 1) := by decide +kernel
theorem dX2_youngTree_6 : decode cX2_youngTree 6 = .ok (.invokevirtual 32, 3) := by decide +kernel
theorem dX2_youngTree_9 : decode cX2_youngTree 9 = .ok (.areturn, 1) := by decide +kernel
theorem dX2_add_0 : decode cX2_add 0 = .ok (.aload_n 0, 1) := by decide +kernel
theorem dX2_add_1 : decode cX2_add 1 = .ok (.getfield 36, 3) := by decide +kernel
theorem dX2_add_4 : decode cX2_add 4 = .ok (.bipush 16, 2) := by decide +kernel
theorem dX2_add_6 : decode cX2_add 6 = .ok (.if_icmp .ge 25, 3) := by decide +kernel
theorem dX2_add_9 : decode cX2_add 9 = .ok (.aload_n 0, 1) := by decide +kernel
theorem dX2_add_10 : decode cX2_add 10 = .ok (.aload_n 0, 1) := by decide +kernel
theorem dX2_add_11 : decode cX2_add 11 = .ok (.getfield 36, 3) := by decide +kernel
theorem dX2_add_14 : decode cX2_add 14 = .ok (.invokevirtual 40, 3) := by decide +kernel
theorem dX2_add_17 : decode cX2_add 17 = .ok (.aload_n 1, 1) := by decide +kernel
theorem dX2_add_18 : decode cX2_add 18 = .ok (.invokevirtual 44, 3) := by decide +kernel
theorem dX2_add_21 : decode cX2_add 21 = .ok (.aload_n 0, 1) := by decide +kernel
theorem dX2_add_22 : decode cX2_add 22 = .ok (.dup, 1) := by decide +kernel
theorem dX2_add_23 : decode cX2_add 23 = .ok (.getfield 36, 3) := by decide +kernel
theorem dX2_add_26 : decode cX2_add 26 = .ok (.iconst 1, 1) := by decide +kernel
theorem dX2_add_27 : decode cX2_add 27 = .ok (.iadd, 1) := by decide +kernel
theorem dX2_add_28 : decode cX2_add 28 = .ok (.putfield 36, 3) := by decide +kernel
theorem dX2_add_31 : decode cX2_add 31 = .ok (.return_, 1) := by decide +kernel
theorem dX2_hasEarlierTwin_0 : decode cX2_hasEarlierTwin 0 = .ok (.aload_n 0, 1) := by decide +kernel
theorem dX2_hasEarlierTwin_1 : decode cX2_hasEarlierTwin 1 = .ok (.iload_n 1, 1) := by decide +kernel
theorem dX2_hasEarlierTwin_2 : decode cX2_hasEarlierTwin 2 = .ok (.invokevirtual 40, 3) := by decide +kernel
theorem dX2_hasEarlierTwin_5 : decode cX2_hasEarlierTwin 5 = .ok (.astore_n 2, 1) := by decide +kernel
theorem dX2_hasEarlierTwin_6 : decode cX2_hasEarlierTwin 6 = .ok (.iconst 0, 1) := by decide +kernel
theorem dX2_hasEarlierTwin_7 : decode cX2_hasEarlierTwin 7 = .ok (.istore_n 3, 1) := by decide +kernel
theorem dX2_hasEarlierTwin_8 : decode cX2_hasEarlierTwin 8 = .ok (.iload_n 3, 1) := by decide +kernel
theorem dX2_hasEarlierTwin_9 : decode cX2_hasEarlierTwin 9 = .ok (.iload_n 1, 1) := by decide +kernel
theorem dX2_hasEarlierTwin_10 : decode cX2_hasEarlierTwin 10 = .ok (.if_icmp .ge 43, 3) := by decide +kernel
theorem dX2_hasEarlierTwin_13 : decode cX2_hasEarlierTwin 13 = .ok (.aload_n 0, 1) := by decide +kernel
theorem dX2_hasEarlierTwin_14 : decode cX2_hasEarlierTwin 14 = .ok (.iload_n 3, 1) := by decide +kernel
theorem dX2_hasEarlierTwin_15 : decode cX2_hasEarlierTwin 15 = .ok (.invokevirtual 40, 3) := by decide +kernel
theorem dX2_hasEarlierTwin_18 : decode cX2_hasEarlierTwin 18 = .ok (.astore 4, 2) := by decide +kernel
theorem dX2_hasEarlierTwin_20 : decode cX2_hasEarlierTwin 20 = .ok (.aload 4, 2) := by decide +kernel
theorem dX2_hasEarlierTwin_22 : decode cX2_hasEarlierTwin 22 = .ok (.getfield 48, 3) := by decide +kernel
theorem dX2_hasEarlierTwin_25 : decode cX2_hasEarlierTwin 25 = .ok (.aload_n 2, 1) := by decide +kernel
theorem dX2_hasEarlierTwin_26 : decode cX2_hasEarlierTwin 26 = .ok (.getfield 48, 3) := by decide +kernel
theorem dX2_hasEarlierTwin_29 : decode cX2_hasEarlierTwin 29 = .ok (.if_icmp .ne 18, 3) := by decide +kernel
theorem dX2_hasEarlierTwin_32 : decode cX2_hasEarlierTwin 32 = .ok (.aload 4, 2) := by decide +kernel
theorem dX2_hasEarlierTwin_34 : decode cX2_hasEarlierTwin 34 = .ok (.aload_n 2, 1) := by decide +kernel
theorem dX2_hasEarlierTwin_35 : decode cX2_hasEarlierTwin 35 = .ok (.invokevirtual 51, 3) := by decide +kernel
theorem dX2_hasEarlierTwin_38 : decode cX2_hasEarlierTwin 38 = .ok (.aload_n 2, 1) := by decide +kernel
theorem dX2_hasEarlierTwin_39 : decode cX2_hasEarlierTwin 39 = .ok (.getfield 48, 3) := by decide +kernel
theorem dX2_hasEarlierTwin_42 : decode cX2_hasEarlierTwin 42 = .ok (.if_icmp .ne 5, 3) := by decide +kernel
theorem dX2_hasEarlierTwin_45 : decode cX2_hasEarlierTwin 45 = .ok (.iconst 1, 1) := by decide +kernel
theorem dX2_hasEarlierTwin_46 : decode cX2_hasEarlierTwin 46 = .ok (.ireturn, 1) := by decide +kernel
theorem dX2_hasEarlierTwin_47 : decode cX2_hasEarlierTwin 47 = .ok (.iinc 3 1, 3) := by decide +kernel
theorem dX2_hasEarlierTwin_50 : decode cX2_hasEarlierTwin 50 = .ok (.goto (-42), 3) := by decide +kernel
theorem dX2_hasEarlierTwin_53 : decode cX2_hasEarlierTwin 53 = .ok (.iconst 0, 1) := by decide +kernel
theorem dX2_hasEarlierTwin_54 : decode cX2_hasEarlierTwin 54 = .ok (.ireturn, 1) := by decide +kernel
theorem dX2_replaceByYoung_0 : decode cX2_replaceByYoung 0 = .ok (.aload_n 0, 1) := by decide +kernel
theorem dX2_replaceByYoung_1 : decode cX2_replaceByYoung 1 = .ok (.getfield 25, 3) := by decide +kernel
theorem dX2_replaceByYoung_4 : decode cX2_replaceByYoung 4 = .ok (.astore_n 1, 1) := by decide +kernel
theorem dX2_replaceByYoung_5 : decode cX2_replaceByYoung 5 = .ok (.aload_n 0, 1) := by decide +kernel
theorem dX2_replaceByYoung_6 : decode cX2_replaceByYoung 6 = .ok (.aload_n 0, 1) := by decide +kernel
theorem dX2_replaceByYoung_7 : decode cX2_replaceByYoung 7 = .ok (.getfield 29, 3) := by decide +kernel
theorem dX2_replaceByYoung_10 : decode cX2_replaceByYoung 10 = .ok (.putfield 25, 3) := by decide +kernel
theorem dX2_replaceByYoung_13 : decode cX2_replaceByYoung 13 = .ok (.aload_n 0, 1) := by decide +kernel
theorem dX2_replaceByYoung_14 : decode cX2_replaceByYoung 14 = .ok (.aload_n 1, 1) := by decide +kernel
theorem dX2_replaceByYoung_15 : decode cX2_replaceByYoung 15 = .ok (.putfield 29, 3) := by decide +kernel
theorem dX2_replaceByYoung_18 : decode cX2_replaceByYoung 18 = .ok (.aload_n 0, 1) := by decide +kernel
theorem dX2_replaceByYoung_19 : decode cX2_replaceByYoung 19 = .ok (.dup, 1) := by decide +kernel
theorem dX2_replaceByYoung_20 : decode cX2_replaceByYoung 20 = .ok (.getfield 55, 3) := by decide +kernel
theorem dX2_replaceByYoung_23 : decode cX2_replaceByYoung 23 = .ok (.iconst 1, 1) := by decide +kernel
theorem dX2_replaceByYoung_24 : decode cX2_replaceByYoung 24 = .ok (.iadd, 1) := by decide +kernel
theorem dX2_replaceByYoung_25 : decode cX2_replaceByYoung 25 = .ok (.putfield 55, 3) := by decide +kernel
theorem dX2_replaceByYoung_28 : decode cX2_replaceByYoung 28 = .ok (.return_, 1) := by decide +kernel
theorem dX2_copyFrom_0 : decode cX2_copyFrom 0 = .ok (.aload_n 0, 1) := by decide +kernel
theorem dX2_copyFrom_1 : decode cX2_copyFrom 1 = .ok (.getfield 12, 3) := by decide +kernel
theorem dX2_copyFrom_4 : decode cX2_copyFrom 4 = .ok (.aload_n 1, 1) := by decide +kernel
theorem dX2_copyFrom_5 : decode cX2_copyFrom 5 = .ok (.getfield 12, 3) := by decide +kernel
theorem dX2_copyFrom_8 : decode cX2_copyFrom 8 = .ok (.invokevirtual 58, 3) := by decide +kernel
theorem dX2_copyFrom_11 : decode cX2_copyFrom 11 = .ok (.iconst 0, 1) := by decide +kernel
theorem dX2_copyFrom_12 : decode cX2_copyFrom 12 = .ok (.istore_n 2, 1) := by decide +kernel
theorem dX2_copyFrom_13 : decode cX2_copyFrom 13 = .ok (.iload_n 2, 1) := by decide +kernel
theorem dX2_copyFrom_14 : decode cX2_copyFrom 14 = .ok (.aload_n 1, 1) := by decide +kernel
theorem dX2_copyFrom_15 : decode cX2_copyFrom 15 = .ok (.getfield 36, 3) := by decide +kernel
theorem dX2_copyFrom_18 : decode cX2_copyFrom 18 = .ok (.if_icmp .ge 22, 3) := by decide +kernel
theorem dX2_copyFrom_21 : decode cX2_copyFrom 21 = .ok (.aload_n 0, 1) := by decide +kernel
theorem dX2_copyFrom_22 : decode cX2_copyFrom 22 = .ok (.iload_n 2, 1) := by decide +kernel
theorem dX2_copyFrom_23 : decode cX2_copyFrom 23 = .ok (.invokevirtual 40, 3) := by decide +kernel
theorem dX2_copyFrom_26 : decode cX2_copyFrom 26 = .ok (.aload_n 1, 1) := by decide +kernel
theorem dX2_copyFrom_27 : decode cX2_copyFrom 27 = .ok (.iload_n 2, 1) := by decide +kernel
theorem dX2_copyFrom_28 : decode cX2_copyFrom 28 = .ok (.invokevirtual 40, 3) := by decide +kernel
theorem dX2_copyFrom_31 : decode cX2_copyFrom 31 = .ok (.invokevirtual 44, 3) := by decide +kernel
theorem dX2_copyFrom_34 : decode cX2_copyFrom 34 = .ok (.iinc 2 1, 3) := by decide +kernel
theorem dX2_copyFrom_37 : decode cX2_copyFrom 37 = .ok (.goto (-24), 3) := by decide +kernel
theorem dX2_copyFrom_40 : decode cX2_copyFrom 40 = .ok (.aload_n 0, 1) := by decide +kernel
theorem dX2_copyFrom_41 : decode cX2_copyFrom 41 = .ok (.aload_n 1, 1) := by decide +kernel
theorem dX2_copyFrom_42 : decode cX2_copyFrom 42 = .ok (.getfield 36, 3) := by decide +kernel
theorem dX2_copyFrom_45 : decode cX2_copyFrom 45 = .ok (.putfield 36, 3) := by decide +kernel
theorem dX2_copyFrom_48 : decode cX2_copyFrom 48 = .ok (.aload_n 0, 1) := by decide +kernel
theorem dX2_copyFrom_49 : decode cX2_copyFrom 49 = .ok (.aload_n 1, 1) := by decide +kernel
theorem dX2_copyFrom_50 : decode cX2_copyFrom 50 = .ok (.getfield 55, 3) := by decide +kernel
theorem dX2_copyFrom_53 : decode cX2_copyFrom 53 = .ok (.putfield 55, 3) := by decide +kernel
theorem dX2_copyFrom_56 : decode cX2_copyFrom 56 = .ok (.aload_n 0, 1) := by decide +kernel
theorem dX2_copyFrom_57 : decode cX2_copyFrom 57 = .ok (.aload_n 1, 1) := by decide +kernel
theorem dX2_copyFrom_58 : decode cX2_copyFrom 58 = .ok (.getfield 61, 3) := by decide +kernel
theorem dX2_copyFrom_61 : decode cX2_copyFrom 61 = .ok (.putfield 61, 3) := by decide +kernel
theorem dX2_copyFrom_64 : decode cX2_copyFrom 64 = .ok (.return_, 1) := by decide +kernel
theorem dX2_treeOf_0 : decode cX2_treeOf 0 = .ok (.iload_n 2, 1) := by decide +kernel
theorem dX2_treeOf_1 : decode cX2_treeOf 1 = .ok (.ifCond .lt 9, 3) := by decide +kernel
theorem dX2_treeOf_4 : decode cX2_treeOf 4 = .ok (.iload_n 2, 1) := by decide +kernel
theorem dX2_treeOf_5 : decode cX2_treeOf 5 = .ok (.aload_n 1, 1) := by decide +kernel
theorem dX2_treeOf_6 : decode cX2_treeOf 6 = .ok (.arraylength, 1) := by decide +kernel
theorem dX2_treeOf_7 : decode cX2_treeOf 7 = .ok (.if_icmp .lt 8, 3) := by decide +kernel
theorem dX2_treeOf_10 : decode cX2_treeOf 10 = .ok (.aload_n 0, 1) := by decide +kernel
theorem dX2_treeOf_11 : decode cX2_treeOf 11 = .ok (.getfield 21, 3) := by decide +kernel
theorem dX2_treeOf_14 : decode cX2_treeOf 14 = .ok (.areturn, 1) := by decide +kernel
theorem dX2_treeOf_15 : decode cX2_treeOf 15 = .ok (.aload_n 1, 1) := by decide +kernel
theorem dX2_treeOf_16 : decode cX2_treeOf 16 = .ok (.iload_n 2, 1) := by decide +kernel
theorem dX2_treeOf_17 : decode cX2_treeOf 17 = .ok (.aaload, 1) := by decide +kernel
theorem dX2_treeOf_18 : decode cX2_treeOf 18 = .ok (.astore_n 3, 1) := by decide +kernel
theorem dX2_treeOf_19 : decode cX2_treeOf 19 = .ok (.aload_n 3, 1) := by decide +kernel
theorem dX2_treeOf_20 : decode cX2_treeOf 20 = .ok (.ifnonnull 10, 3) := by decide +kernel
theorem dX2_treeOf_23 : decode cX2_treeOf 23 = .ok (.aload_n 0, 1) := by decide +kernel
theorem dX2_treeOf_24 : decode cX2_treeOf 24 = .ok (.getfield 21, 3) := by decide +kernel
theorem dX2_treeOf_27 : decode cX2_treeOf 27 = .ok (.goto 4, 3) := by decide +kernel
theorem dX2_treeOf_30 : decode cX2_treeOf 30 = .ok (.aload_n 3, 1) := by decide +kernel
theorem dX2_treeOf_31 : decode cX2_treeOf 31 = .ok (.areturn, 1) := by decide +kernel
