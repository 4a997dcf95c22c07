theorem dX3_init_0 : decode cX3_init 0 = .ok (.aload_n 0, 1) := by decide +kernel
theorem dX3_init_1 : decode cX3_init 1 = .ok (.invokespecial 3, 3) := by decide +kernel
theorem dX3_init_4 : decode cX3_init 4 = .ok (.aload_n 0, 1) := by decide +kernel
theorem dX3_init_5 : decode cX3_init 5 = .ok (.new 9, 3) := by decide +kernel
theorem dX3_init_8 : decode cX3_init 8 = .ok (.dup, 1) := by decide +kernel
theorem dX3_init_9 : decode cX3_init 9 = .ok (.invokespecial 11, 3) := by decide +kernel
theorem dX3_init_12 : decode cX3_init 12 = .ok (.putfield 12, 3) := by decide +kernel
theorem dX3_init_15 : decode cX3_init 15 = .ok (.aload_n 0, 1) := by decide +kernel
theorem dX3_init_16 : decode cX3_init 16 = .ok (.bipush 12, 2) := by decide +kernel
theorem dX3_init_18 : decode cX3_init 18 = .ok (.newarray .int, 2) := by decide +kernel
theorem dX3_init_20 : decode cX3_init 20 = .ok (.putfield 18, 3) := by decide +kernel
theorem dX3_init_23 : decode cX3_init 23 = .ok (.aload_n 0, 1) := by decide +kernel
theorem dX3_init_24 : decode cX3_init 24 = .ok (.bipush 12, 2) := by decide +kernel
theorem dX3_init_26 : decode cX3_init 26 = .ok (.newarray .int, 2) := by decide +kernel
theorem dX3_init_28 : decode cX3_init 28 = .ok (.putfield 22, 3) := by decide +kernel
theorem dX3_init_31 : decode cX3_init 31 = .ok (.aload_n 0, 1) := by decide +kernel
theorem dX3_init_32 : decode cX3_init 32 = .ok (.bipush 12, 2) := by decide +kernel
theorem dX3_init_34 : decode cX3_init 34 = .ok (.newarray .int, 2) := by decide +kernel
theorem dX3_init_36 : decode cX3_init 36 = .ok (.putfield 25, 3) := by decide +kernel
theorem dX3_init_39 : decode cX3_init 39 = .ok (.aload_n 0, 1) := by decide +kernel
theorem dX3_init_40 : decode cX3_init 40 = .ok (.bipush 12, 2) := by decide +kernel
theorem dX3_init_42 : decode cX3_init 42 = .ok (.newarray .int, 2) := by decide +kernel
theorem dX3_init_44 : decode cX3_init 44 = .ok (.putfield 28, 3) := by decide +kernel
theorem dX3_init_47 : decode cX3_init 47 = .ok (.aload_n 0, 1) := by decide +kernel
theorem dX3_init_48 : decode cX3_init 48 = .ok (.iconst 1, 1) := by decide +kernel
theorem dX3_init_49 : decode cX3_init 49 = .ok (.putfield 31, 3) := by decide +kernel
theorem dX3_init_52 : decode cX3_init 52 = .ok (.return_, 1) := by decide +kernel
theorem dX3_add_0 : decode cX3_add 0 = .ok (.aload_n 0, 1) := by decide +kernel
theorem dX3_add_1 : decode cX3_add 1 = .ok (.getfield 18, 3) := by decide +kernel
theorem dX3_add_4 : decode cX3_add 4 = .ok (.aload_n 0, 1) := by decide +kernel
theorem dX3_add_5 : decode cX3_add 5 = .ok (.getfield 35, 3) := by decide +kernel
theorem dX3_add_8 : decode cX3_add 8 = .ok (.iload_n 1, 1) := by decide +kernel
theorem dX3_add_9 : decode cX3_add 9 = .ok (.invokestatic 38, 3) := by decide +kernel
theorem dX3_add_12 : decode cX3_add 12 = .ok (.aload_n 0, 1) := by decide +kernel
theorem dX3_add_13 : decode cX3_add 13 = .ok (.getfield 22, 3) := by decide +kernel
theorem dX3_add_16 : decode cX3_add 16 = .ok (.aload_n 0, 1) := by decide +kernel
theorem dX3_add_17 : decode cX3_add 17 = .ok (.getfield 35, 3) := by decide +kernel
theorem dX3_add_20 : decode cX3_add 20 = .ok (.iload_n 2, 1) := by decide +kernel
theorem dX3_add_21 : decode cX3_add 21 = .ok (.invokestatic 38, 3) := by decide +kernel
theorem dX3_add_24 : decode cX3_add 24 = .ok (.aload_n 0, 1) := by decide +kernel
theorem dX3_add_25 : decode cX3_add 25 = .ok (.getfield 25, 3) := by decide +kernel
theorem dX3_add_28 : decode cX3_add 28 = .ok (.aload_n 0, 1) := by decide +kernel
theorem dX3_add_29 : decode cX3_add 29 = .ok (.getfield 35, 3) := by decide +kernel
theorem dX3_add_32 : decode cX3_add 32 = .ok (.iload_n 3, 1) := by decide +kernel
theorem dX3_add_33 : decode cX3_add 33 = .ok (.invokestatic 38, 3) := by decide +kernel
theorem dX3_add_36 : decode cX3_add 36 = .ok (.aload_n 0, 1) := by decide +kernel
theorem dX3_add_37 : decode cX3_add 37 = .ok (.getfield 28, 3) := by decide +kernel
theorem dX3_add_40 : decode cX3_add 40 = .ok (.aload_n 0, 1) := by decide +kernel
theorem dX3_add_41 : decode cX3_add 41 = .ok (.getfield 35, 3) := by decide +kernel
theorem dX3_add_44 : decode cX3_add 44 = .ok (.iload 4, 2) := by decide +kernel
theorem dX3_add_46 : decode cX3_add 46 = .ok (.invokestatic 38, 3) := by decide +kernel
theorem dX3_add_49 : decode cX3_add 49 = .ok (.aload_n 0, 1) := by decide +kernel
theorem dX3_add_50 : decode cX3_add 50 = .ok (.dup, 1) := by decide +kernel
theorem dX3_add_51 : decode cX3_add 51 = .ok (.getfield 35, 3) := by decide +kernel
theorem dX3_add_54 : decode cX3_add 54 = .ok (.iconst 1, 1) := by decide +kernel
theorem dX3_add_55 : decode cX3_add 55 = .ok (.iadd, 1) := by decide +kernel
theorem dX3_add_56 : decode cX3_add 56 = .ok (.putfield 35, 3) := by decide +kernel
theorem dX3_add_59 : decode cX3_add 59 = .ok (.return_, 1) := by decide +kernel
theorem dX3_errorOf_0 : decode cX3_errorOf 0 = .ok (.iconst 0, 1) := by decide +kernel
theorem dX3_errorOf_1 : decode cX3_errorOf 1 = .ok (.istore_n 3, 1) := by decide +kernel
theorem dX3_errorOf_2 : decode cX3_errorOf 2 = .ok (.iconst 0, 1) := by decide +kernel
theorem dX3_errorOf_3 : decode cX3_errorOf 3 = .ok (.istore 4, 2) := by decide +kernel
theorem dX3_errorOf_5 : decode cX3_errorOf 5 = .ok (.iload 4, 2) := by decide +kernel
theorem dX3_errorOf_7 : decode cX3_errorOf 7 = .ok (.aload_n 0, 1) := by decide +kernel
theorem dX3_errorOf_8 : decode cX3_errorOf 8 = .ok (.getfield 35, 3) := by decide +kernel
theorem dX3_errorOf_11 : decode cX3_errorOf 11 = .ok (.if_icmp .ge 80, 3) := by decide +kernel
theorem dX3_errorOf_14 : decode cX3_errorOf 14 = .ok (.aload_n 0, 1) := by decide +kernel
theorem dX3_errorOf_15 : decode cX3_errorOf 15 = .ok (.getfield 12, 3) := by decide +kernel
theorem dX3_errorOf_18 : decode cX3_errorOf 18 = .ok (.aload_n 0, 1) := by decide +kernel
theorem dX3_errorOf_19 : decode cX3_errorOf 19 = .ok (.getfield 18, 3) := by decide +kernel
theorem dX3_errorOf_22 : decode cX3_errorOf 22 = .ok (.iload 4, 2) := by decide +kernel
theorem dX3_errorOf_24 : decode cX3_errorOf 24 = .ok (.invokestatic 42, 3) := by decide +kernel
theorem dX3_errorOf_27 : decode cX3_errorOf 27 = .ok (.aload_n 0, 1) := by decide +kernel
theorem dX3_errorOf_28 : decode cX3_errorOf 28 = .ok (.getfield 22, 3) := by decide +kernel
theorem dX3_errorOf_31 : decode cX3_errorOf 31 = .ok (.iload 4, 2) := by decide +kernel
theorem dX3_errorOf_33 : decode cX3_errorOf 33 = .ok (.invokestatic 42, 3) := by decide +kernel
theorem dX3_errorOf_36 : decode cX3_errorOf 36 = .ok (.aload_n 0, 1) := by decide +kernel
theorem dX3_errorOf_37 : decode cX3_errorOf 37 = .ok (.getfield 25, 3) := by decide +kernel
theorem dX3_errorOf_40 : decode cX3_errorOf 40 = .ok (.iload 4, 2) := by decide +kernel
theorem dX3_errorOf_42 : decode cX3_errorOf 42 = .ok (.invokestatic 42, 3) := by decide +kernel
theorem dX3_errorOf_45 : decode cX3_errorOf 45 = .ok (.invokevirtual 46, 3) := by decide +kernel
theorem dX3_errorOf_48 : decode cX3_errorOf 48 = .ok (.aload_n 0, 1) := by decide +kernel
theorem dX3_errorOf_49 : decode cX3_errorOf 49 = .ok (.getfield 12, 3) := by decide +kernel
theorem dX3_errorOf_52 : decode cX3_errorOf 52 = .ok (.aload_n 1, 1) := by decide +kernel
theorem dX3_errorOf_53 : decode cX3_errorOf 53 = .ok (.iload_n 2, 1) := by decide +kernel
theorem dX3_errorOf_54 : decode cX3_errorOf 54 = .ok (.invokevirtual 50, 3) := by decide +kernel
theorem dX3_errorOf_57 : decode cX3_errorOf 57 = .ok (.aload_n 0, 1) := by decide +kernel
theorem dX3_errorOf_58 : decode cX3_errorOf 58 = .ok (.getfield 28, 3) := by decide +kernel
theorem dX3_errorOf_61 : decode cX3_errorOf 61 = .ok (.iload 4, 2) := by decide +kernel
theorem dX3_errorOf_63 : decode cX3_errorOf 63 = .ok (.invokestatic 42, 3) := by decide +kernel
theorem dX3_errorOf_66 : decode cX3_errorOf 66 = .ok (.isub, 1) := by decide +kernel
theorem dX3_errorOf_67 : decode cX3_errorOf 67 = .ok (.istore 5, 2) := by decide +kernel
theorem dX3_errorOf_69 : decode cX3_errorOf 69 = .ok (.iload_n 3, 1) := by decide +kernel
theorem dX3_errorOf_70 : decode cX3_errorOf 70 = .ok (.iload 5, 2) := by decide +kernel
theorem dX3_errorOf_72 : decode cX3_errorOf 72 = .ok (.ifCond .ge 9, 3) := by decide +kernel
theorem dX3_errorOf_75 : decode cX3_errorOf 75 = .ok (.iload 5, 2) := by decide +kernel
theorem dX3_errorOf_77 : decode cX3_errorOf 77 = .ok (.ineg, 1) := by decide +kernel
theorem dX3_errorOf_78 : decode cX3_errorOf 78 = .ok (.goto 5, 3) := by decide +kernel
theorem dX3_errorOf_81 : decode cX3_errorOf 81 = .ok (.iload 5, 2) := by decide +kernel
theorem dX3_errorOf_83 : decode cX3_errorOf 83 = .ok (.iadd, 1) := by decide +kernel
theorem dX3_errorOf_84 : decode cX3_errorOf 84 = .ok (.istore_n 3, 1) := by decide +kernel
theorem dX3_errorOf_85 : decode cX3_errorOf 85 = .ok (.iinc 4 1, 3) := by decide +kernel
theorem dX3_errorOf_88 : decode cX3_errorOf 88 = .ok (.goto (-83), 3) := by decide +kernel
theorem dX3_errorOf_91 : decode cX3_errorOf 91 = .ok (.iload_n 3, 1) := by decide +kernel
theorem dX3_errorOf_92 : decode cX3_errorOf 92 = .ok (.ireturn, 1) := by decide +kernel
theorem dX3_meritOf_0 : decode cX3_meritOf 0 = .ok (.aload_n 0, 1) := by decide +kernel
theorem dX3_meritOf_1 : decode cX3_meritOf 1 = .ok (.aload_n 1, 1) := by decide +kernel
theorem dX3_meritOf_2 : decode cX3_meritOf 2 = .ok (.iconst 0, 1) := by decide +kernel
theorem dX3_meritOf_3 : decode cX3_meritOf 3 = .ok (.invokevirtual 54, 3) := by decide +kernel
theorem dX3_meritOf_6 : decode cX3_meritOf 6 = .ok (.istore_n 2, 1) := by decide +kernel
theorem dX3_meritOf_7 : decode cX3_meritOf 7 = .ok (.aload_n 0, 1) := by decide +kernel
theorem dX3_meritOf_8 : decode cX3_meritOf 8 = .ok (.getfield 57, 3) := by decide +kernel
theorem dX3_meritOf_11 : decode cX3_meritOf 11 = .ok (.iconst 1, 1) := by decide +kernel
theorem dX3_meritOf_12 : decode cX3_meritOf 12 = .ok (.if_icmp .ne 17, 3) := by decide +kernel
theorem dX3_meritOf_15 : decode cX3_meritOf 15 = .ok (.iload_n 2, 1) := by decide +kernel
theorem dX3_meritOf_16 : decode cX3_meritOf 16 = .ok (.aload_n 0, 1) := by decide +kernel
theorem dX3_meritOf_17 : decode cX3_meritOf 17 = .ok (.getfield 31, 3) := by decide +kernel
theorem dX3_meritOf_20 : decode cX3_meritOf 20 = .ok (.aload_n 1, 1) := by decide +kernel
theorem dX3_meritOf_21 : decode cX3_meritOf 21 = .ok (.getfield 60, 3) := by decide +kernel
theorem dX3_meritOf_24 : decode cX3_meritOf 24 = .ok (.imul, 1) := by decide +kernel
theorem dX3_meritOf_25 : decode cX3_meritOf 25 = .ok (.iadd, 1) := by decide +kernel
theorem dX3_meritOf_26 : decode cX3_meritOf 26 = .ok (.goto 4, 3) := by decide +kernel
theorem dX3_meritOf_29 : decode cX3_meritOf 29 = .ok (.iload_n 2, 1) := by decide +kernel
theorem dX3_meritOf_30 : decode cX3_meritOf 30 = .ok (.ireturn, 1) := by decide +kernel
theorem dX3_hitsOf_0 : decode cX3_hitsOf 0 = .ok (.iconst 0, 1) := by decide +kernel
theorem dX3_hitsOf_1 : decode cX3_hitsOf 1 = .ok (.istore_n 2, 1) := by decide +kernel
theorem dX3_hitsOf_2 : decode cX3_hitsOf 2 = .ok (.iconst 0, 1) := by decide +kernel
theorem dX3_hitsOf_3 : decode cX3_hitsOf 3 = .ok (.istore_n 3, 1) := by decide +kernel
theorem dX3_hitsOf_4 : decode cX3_hitsOf 4 = .ok (.iload_n 3, 1) := by decide +kernel
theorem dX3_hitsOf_5 : decode cX3_hitsOf 5 = .ok (.aload_n 0, 1) := by decide +kernel
theorem dX3_hitsOf_6 : decode cX3_hitsOf 6 = .ok (.getfield 35, 3) := by decide +kernel
theorem dX3_hitsOf_9 : decode cX3_hitsOf 9 = .ok (.if_icmp .ge 63, 3) := by decide +kernel
theorem dX3_hitsOf_12 : decode cX3_hitsOf 12 = .ok (.aload_n 0, 1) := by decide +kernel
theorem dX3_hitsOf_13 : decode cX3_hitsOf 13 = .ok (.getfield 12, 3) := by decide +kernel
theorem dX3_hitsOf_16 : decode cX3_hitsOf 16 = .ok (.aload_n 0, 1) := by decide +kernel
theorem dX3_hitsOf_17 : decode cX3_hitsOf 17 = .ok (.getfield 18, 3) := by decide +kernel
theorem dX3_hitsOf_20 : decode cX3_hitsOf 20 = .ok (.iload_n 3, 1) := by decide +kernel
theorem dX3_hitsOf_21 : decode cX3_hitsOf 21 = .ok (.invokestatic 42, 3) := by decide +kernel
theorem dX3_hitsOf_24 : decode cX3_hitsOf 24 = .ok (.aload_n 0, 1) := by decide +kernel
theorem dX3_hitsOf_25 : decode cX3_hitsOf 25 = .ok (.getfield 22, 3) := by decide +kernel
theorem dX3_hitsOf_28 : decode cX3_hitsOf 28 = .ok (.iload_n 3, 1) := by decide +kernel
theorem dX3_hitsOf_29 : decode cX3_hitsOf 29 = .ok (.invokestatic 42, 3) := by decide +kernel
theorem dX3_hitsOf_32 : decode cX3_hitsOf 32 = .ok (.aload_n 0, 1) := by decide +kernel
theorem dX3_hitsOf_33 : decode cX3_hitsOf 33 = .ok (.getfield 25, 3) := by decide +kernel
theorem dX3_hitsOf_36 : decode cX3_hitsOf 36 = .ok (.iload_n 3, 1) := by decide +kernel
theorem dX3_hitsOf_37 : decode cX3_hitsOf 37 = .ok (.invokestatic 42, 3) := by decide +kernel
theorem dX3_hitsOf_40 : decode cX3_hitsOf 40 = .ok (.invokevirtual 46, 3) := by decide +kernel
theorem dX3_hitsOf_43 : decode cX3_hitsOf 43 = .ok (.aload_n 0, 1) := by decide +kernel
theorem dX3_hitsOf_44 : decode cX3_hitsOf 44 = .ok (.getfield 12, 3) := by decide +kernel
theorem dX3_hitsOf_47 : decode cX3_hitsOf 47 = .ok (.aload_n 1, 1) := by decide +kernel
theorem dX3_hitsOf_48 : decode cX3_hitsOf 48 = .ok (.iconst 0, 1) := by decide +kernel
theorem dX3_hitsOf_49 : decode cX3_hitsOf 49 = .ok (.invokevirtual 50, 3) := by decide +kernel
theorem dX3_hitsOf_52 : decode cX3_hitsOf 52 = .ok (.aload_n 0, 1) := by decide +kernel
theorem dX3_hitsOf_53 : decode cX3_hitsOf 53 = .ok (.getfield 28, 3) := by decide +kernel
theorem dX3_hitsOf_56 : decode cX3_hitsOf 56 = .ok (.iload_n 3, 1) := by decide +kernel
theorem dX3_hitsOf_57 : decode cX3_hitsOf 57 = .ok (.invokestatic 42, 3) := by decide +kernel
theorem dX3_hitsOf_60 : decode cX3_hitsOf 60 = .ok (.if_icmp .ne 6, 3) := by decide +kernel
theorem dX3_hitsOf_63 : decode cX3_hitsOf 63 = .ok (.iinc 2 1, 3) := by decide +kernel
theorem dX3_hitsOf_66 : decode cX3_hitsOf 66 = .ok (.iinc 3 1, 3) := by decide +kernel
theorem dX3_hitsOf_69 : decode cX3_hitsOf 69 = .ok (.goto (-65), 3) := by decide +kernel
theorem dX3_hitsOf_72 : decode cX3_hitsOf 72 = .ok (.iload_n 2, 1) := by decide +kernel
theorem dX3_hitsOf_73 : decode cX3_hitsOf 73 = .ok (.ireturn, 1) := by decide +kernel
