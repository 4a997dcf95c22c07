theorem dX7_init_0 : decode cX7_init 0 = .ok (.aload_n 0, 1) := by decide +kernel
theorem dX7_init_1 : decode cX7_init 1 = .ok (.invokespecial 3, 3) := by decide +kernel
theorem dX7_init_4 : decode cX7_init 4 = .ok (.aload_n 0, 1) := by decide +kernel
theorem dX7_init_5 : decode cX7_init 5 = .ok (.new 9, 3) := by decide +kernel
theorem dX7_init_8 : decode cX7_init 8 = .ok (.dup, 1) := by decide +kernel
theorem dX7_init_9 : decode cX7_init 9 = .ok (.invokespecial 11, 3) := by decide +kernel
theorem dX7_init_12 : decode cX7_init 12 = .ok (.putfield 12, 3) := by decide +kernel
theorem dX7_init_15 : decode cX7_init 15 = .ok (.aload_n 0, 1) := by decide +kernel
theorem dX7_init_16 : decode cX7_init 16 = .ok (.bipush 40, 2) := by decide +kernel
theorem dX7_init_18 : decode cX7_init 18 = .ok (.newarray .int, 2) := by decide +kernel
theorem dX7_init_20 : decode cX7_init 20 = .ok (.putfield 18, 3) := by decide +kernel
theorem dX7_init_23 : decode cX7_init 23 = .ok (.aload_n 0, 1) := by decide +kernel
theorem dX7_init_24 : decode cX7_init 24 = .ok (.bipush 40, 2) := by decide +kernel
theorem dX7_init_26 : decode cX7_init 26 = .ok (.newarray .int, 2) := by decide +kernel
theorem dX7_init_28 : decode cX7_init 28 = .ok (.putfield 22, 3) := by decide +kernel
theorem dX7_init_31 : decode cX7_init 31 = .ok (.aload_n 0, 1) := by decide +kernel
theorem dX7_init_32 : decode cX7_init 32 = .ok (.invokevirtual 25, 3) := by decide +kernel
theorem dX7_init_35 : decode cX7_init 35 = .ok (.return_, 1) := by decide +kernel
theorem dX7_clear_0 : decode cX7_clear 0 = .ok (.aload_n 0, 1) := by decide +kernel
theorem dX7_clear_1 : decode cX7_clear 1 = .ok (.getfield 12, 3) := by decide +kernel
theorem dX7_clear_4 : decode cX7_clear 4 = .ok (.iconst 0, 1) := by decide +kernel
theorem dX7_clear_5 : decode cX7_clear 5 = .ok (.putfield 28, 3) := by decide +kernel
theorem dX7_clear_8 : decode cX7_clear 8 = .ok (.aload_n 0, 1) := by decide +kernel
theorem dX7_clear_9 : decode cX7_clear 9 = .ok (.iconst 0, 1) := by decide +kernel
theorem dX7_clear_10 : decode cX7_clear 10 = .ok (.putfield 32, 3) := by decide +kernel
theorem dX7_clear_13 : decode cX7_clear 13 = .ok (.aload_n 0, 1) := by decide +kernel
theorem dX7_clear_14 : decode cX7_clear 14 = .ok (.iconst 0, 1) := by decide +kernel
theorem dX7_clear_15 : decode cX7_clear 15 = .ok (.putfield 35, 3) := by decide +kernel
theorem dX7_clear_18 : decode cX7_clear 18 = .ok (.aload_n 0, 1) := by decide +kernel
theorem dX7_clear_19 : decode cX7_clear 19 = .ok (.iconst 1, 1) := by decide +kernel
theorem dX7_clear_20 : decode cX7_clear 20 = .ok (.iconst 1, 1) := by decide +kernel
theorem dX7_clear_21 : decode cX7_clear 21 = .ok (.invokevirtual 38, 3) := by decide +kernel
theorem dX7_clear_24 : decode cX7_clear 24 = .ok (.return_, 1) := by decide +kernel
theorem dX7_accepts_0 : decode cX7_accepts 0 = .ok (.aload_n 0, 1) := by decide +kernel
theorem dX7_accepts_1 : decode cX7_accepts 1 = .ok (.getfield 32, 3) := by decide +kernel
theorem dX7_accepts_4 : decode cX7_accepts 4 = .ok (.iconst 1, 1) := by decide +kernel
theorem dX7_accepts_5 : decode cX7_accepts 5 = .ok (.isub, 1) := by decide +kernel
theorem dX7_accepts_6 : decode cX7_accepts 6 = .ok (.istore_n 2, 1) := by decide +kernel
theorem dX7_accepts_7 : decode cX7_accepts 7 = .ok (.iload_n 2, 1) := by decide +kernel
theorem dX7_accepts_8 : decode cX7_accepts 8 = .ok (.ifCond .lt 28, 3) := by decide +kernel
theorem dX7_accepts_11 : decode cX7_accepts 11 = .ok (.aload_n 0, 1) := by decide +kernel
theorem dX7_accepts_12 : decode cX7_accepts 12 = .ok (.getfield 18, 3) := by decide +kernel
theorem dX7_accepts_15 : decode cX7_accepts 15 = .ok (.iload_n 2, 1) := by decide +kernel
theorem dX7_accepts_16 : decode cX7_accepts 16 = .ok (.invokestatic 42, 3) := by decide +kernel
theorem dX7_accepts_19 : decode cX7_accepts 19 = .ok (.iload_n 1, 1) := by decide +kernel
theorem dX7_accepts_20 : decode cX7_accepts 20 = .ok (.bipush 8, 2) := by decide +kernel
theorem dX7_accepts_22 : decode cX7_accepts 22 = .ok (.if_icmp .gt 7, 3) := by decide +kernel
theorem dX7_accepts_25 : decode cX7_accepts 25 = .ok (.iconst 1, 1) := by decide +kernel
theorem dX7_accepts_26 : decode cX7_accepts 26 = .ok (.goto 4, 3) := by decide +kernel
theorem dX7_accepts_29 : decode cX7_accepts 29 = .ok (.iconst 0, 1) := by decide +kernel
theorem dX7_accepts_30 : decode cX7_accepts 30 = .ok (.invokestatic 46, 3) := by decide +kernel
theorem dX7_accepts_33 : decode cX7_accepts 33 = .ok (.if_icmp .eq 5, 3) := by decide +kernel
theorem dX7_accepts_36 : decode cX7_accepts 36 = .ok (.iconst 0, 1) := by decide +kernel
theorem dX7_accepts_37 : decode cX7_accepts 37 = .ok (.ireturn, 1) := by decide +kernel
theorem dX7_accepts_38 : decode cX7_accepts 38 = .ok (.aload_n 0, 1) := by decide +kernel
theorem dX7_accepts_39 : decode cX7_accepts 39 = .ok (.getfield 35, 3) := by decide +kernel
theorem dX7_accepts_42 : decode cX7_accepts 42 = .ok (.aload_n 0, 1) := by decide +kernel
theorem dX7_accepts_43 : decode cX7_accepts 43 = .ok (.getfield 18, 3) := by decide +kernel
theorem dX7_accepts_46 : decode cX7_accepts 46 = .ok (.iload_n 2, 1) := by decide +kernel
theorem dX7_accepts_47 : decode cX7_accepts 47 = .ok (.invokestatic 42, 3) := by decide +kernel
theorem dX7_accepts_50 : decode cX7_accepts 50 = .ok (.isub, 1) := by decide +kernel
theorem dX7_accepts_51 : decode cX7_accepts 51 = .ok (.iconst 1, 1) := by decide +kernel
theorem dX7_accepts_52 : decode cX7_accepts 52 = .ok (.iadd, 1) := by decide +kernel
theorem dX7_accepts_53 : decode cX7_accepts 53 = .ok (.istore_n 3, 1) := by decide +kernel
theorem dX7_accepts_54 : decode cX7_accepts 54 = .ok (.getstatic 50, 3) := by decide +kernel
theorem dX7_accepts_57 : decode cX7_accepts 57 = .ok (.iload_n 1, 1) := by decide +kernel
theorem dX7_accepts_58 : decode cX7_accepts 58 = .ok (.invokestatic 42, 3) := by decide +kernel
theorem dX7_accepts_61 : decode cX7_accepts 61 = .ok (.istore 4, 2) := by decide +kernel
theorem dX7_accepts_63 : decode cX7_accepts 63 = .ok (.iconst 0, 1) := by decide +kernel
theorem dX7_accepts_64 : decode cX7_accepts 64 = .ok (.istore 5, 2) := by decide +kernel
theorem dX7_accepts_66 : decode cX7_accepts 66 = .ok (.iload 5, 2) := by decide +kernel
theorem dX7_accepts_68 : decode cX7_accepts 68 = .ok (.iload 4, 2) := by decide +kernel
theorem dX7_accepts_70 : decode cX7_accepts 70 = .ok (.if_icmp .ge 51, 3) := by decide +kernel
theorem dX7_accepts_73 : decode cX7_accepts 73 = .ok (.iload_n 1, 1) := by decide +kernel
theorem dX7_accepts_74 : decode cX7_accepts 74 = .ok (.iload 5, 2) := by decide +kernel
theorem dX7_accepts_76 : decode cX7_accepts 76 = .ok (.invokestatic 53, 3) := by decide +kernel
theorem dX7_accepts_79 : decode cX7_accepts 79 = .ok (.istore 6, 2) := by decide +kernel
theorem dX7_accepts_81 : decode cX7_accepts 81 = .ok (.iload_n 3, 1) := by decide +kernel
theorem dX7_accepts_82 : decode cX7_accepts 82 = .ok (.iload 6, 2) := by decide +kernel
theorem dX7_accepts_84 : decode cX7_accepts 84 = .ok (.invokestatic 46, 3) := by decide +kernel
theorem dX7_accepts_87 : decode cX7_accepts 87 = .ok (.iadd, 1) := by decide +kernel
theorem dX7_accepts_88 : decode cX7_accepts 88 = .ok (.istore_n 3, 1) := by decide +kernel
theorem dX7_accepts_89 : decode cX7_accepts 89 = .ok (.aload_n 0, 1) := by decide +kernel
theorem dX7_accepts_90 : decode cX7_accepts 90 = .ok (.getfield 22, 3) := by decide +kernel
theorem dX7_accepts_93 : decode cX7_accepts 93 = .ok (.iload_n 2, 1) := by decide +kernel
theorem dX7_accepts_94 : decode cX7_accepts 94 = .ok (.invokestatic 42, 3) := by decide +kernel
theorem dX7_accepts_97 : decode cX7_accepts 97 = .ok (.iload 6, 2) := by decide +kernel
theorem dX7_accepts_99 : decode cX7_accepts 99 = .ok (.ifCond .eq 7, 3) := by decide +kernel
theorem dX7_accepts_102 : decode cX7_accepts 102 = .ok (.iconst 1, 1) := by decide +kernel
theorem dX7_accepts_103 : decode cX7_accepts 103 = .ok (.goto 4, 3) := by decide +kernel
theorem dX7_accepts_106 : decode cX7_accepts 106 = .ok (.iconst 2, 1) := by decide +kernel
theorem dX7_accepts_107 : decode cX7_accepts 107 = .ok (.iadd, 1) := by decide +kernel
theorem dX7_accepts_108 : decode cX7_accepts 108 = .ok (.bipush 8, 2) := by decide +kernel
theorem dX7_accepts_110 : decode cX7_accepts 110 = .ok (.if_icmp .le 5, 3) := by decide +kernel
theorem dX7_accepts_113 : decode cX7_accepts 113 = .ok (.iconst 0, 1) := by decide +kernel
theorem dX7_accepts_114 : decode cX7_accepts 114 = .ok (.ireturn, 1) := by decide +kernel
theorem dX7_accepts_115 : decode cX7_accepts 115 = .ok (.iinc 5 1, 3) := by decide +kernel
theorem dX7_accepts_118 : decode cX7_accepts 118 = .ok (.goto (-52), 3) := by decide +kernel
theorem dX7_accepts_121 : decode cX7_accepts 121 = .ok (.iload_n 3, 1) := by decide +kernel
theorem dX7_accepts_122 : decode cX7_accepts 122 = .ok (.bipush 40, 2) := by decide +kernel
theorem dX7_accepts_124 : decode cX7_accepts 124 = .ok (.if_icmp .gt 7, 3) := by decide +kernel
theorem dX7_accepts_127 : decode cX7_accepts 127 = .ok (.iconst 1, 1) := by decide +kernel
theorem dX7_accepts_128 : decode cX7_accepts 128 = .ok (.goto 4, 3) := by decide +kernel
theorem dX7_accepts_131 : decode cX7_accepts 131 = .ok (.iconst 0, 1) := by decide +kernel
theorem dX7_accepts_132 : decode cX7_accepts 132 = .ok (.ireturn, 1) := by decide +kernel
theorem dX7_take_0 : decode cX7_take 0 = .ok (.aload_n 0, 1) := by decide +kernel
theorem dX7_take_1 : decode cX7_take 1 = .ok (.getfield 22, 3) := by decide +kernel
theorem dX7_take_4 : decode cX7_take 4 = .ok (.aload_n 0, 1) := by decide +kernel
theorem dX7_take_5 : decode cX7_take 5 = .ok (.getfield 32, 3) := by decide +kernel
theorem dX7_take_8 : decode cX7_take 8 = .ok (.iconst 1, 1) := by decide +kernel
theorem dX7_take_9 : decode cX7_take 9 = .ok (.isub, 1) := by decide +kernel
theorem dX7_take_10 : decode cX7_take 10 = .ok (.invokestatic 42, 3) := by decide +kernel
theorem dX7_take_13 : decode cX7_take 13 = .ok (.istore_n 3, 1) := by decide +kernel
theorem dX7_take_14 : decode cX7_take 14 = .ok (.aload_n 0, 1) := by decide +kernel
theorem dX7_take_15 : decode cX7_take 15 = .ok (.dup, 1) := by decide +kernel
theorem dX7_take_16 : decode cX7_take 16 = .ok (.getfield 35, 3) := by decide +kernel
theorem dX7_take_19 : decode cX7_take 19 = .ok (.iconst 1, 1) := by decide +kernel
theorem dX7_take_20 : decode cX7_take 20 = .ok (.aload_n 0, 1) := by decide +kernel
theorem dX7_take_21 : decode cX7_take 21 = .ok (.getfield 18, 3) := by decide +kernel
theorem dX7_take_24 : decode cX7_take 24 = .ok (.aload_n 0, 1) := by decide +kernel
theorem dX7_take_25 : decode cX7_take 25 = .ok (.getfield 32, 3) := by decide +kernel
theorem dX7_take_28 : decode cX7_take 28 = .ok (.iconst 1, 1) := by decide +kernel
theorem dX7_take_29 : decode cX7_take 29 = .ok (.isub, 1) := by decide +kernel
theorem dX7_take_30 : decode cX7_take 30 = .ok (.invokestatic 42, 3) := by decide +kernel
theorem dX7_take_33 : decode cX7_take 33 = .ok (.isub, 1) := by decide +kernel
theorem dX7_take_34 : decode cX7_take 34 = .ok (.iadd, 1) := by decide +kernel
theorem dX7_take_35 : decode cX7_take 35 = .ok (.putfield 35, 3) := by decide +kernel
theorem dX7_take_38 : decode cX7_take 38 = .ok (.aload_n 0, 1) := by decide +kernel
theorem dX7_take_39 : decode cX7_take 39 = .ok (.dup, 1) := by decide +kernel
theorem dX7_take_40 : decode cX7_take 40 = .ok (.getfield 32, 3) := by decide +kernel
theorem dX7_take_43 : decode cX7_take 43 = .ok (.iconst 1, 1) := by decide +kernel
theorem dX7_take_44 : decode cX7_take 44 = .ok (.isub, 1) := by decide +kernel
theorem dX7_take_45 : decode cX7_take 45 = .ok (.putfield 32, 3) := by decide +kernel
theorem dX7_take_48 : decode cX7_take 48 = .ok (.aload_n 0, 1) := by decide +kernel
theorem dX7_take_49 : decode cX7_take 49 = .ok (.getfield 12, 3) := by decide +kernel
theorem dX7_take_52 : decode cX7_take 52 = .ok (.iload_n 1, 1) := by decide +kernel
theorem dX7_take_53 : decode cX7_take 53 = .ok (.iload_n 2, 1) := by decide +kernel
theorem dX7_take_54 : decode cX7_take 54 = .ok (.invokevirtual 57, 3) := by decide +kernel
theorem dX7_take_57 : decode cX7_take 57 = .ok (.getstatic 50, 3) := by decide +kernel
theorem dX7_take_60 : decode cX7_take 60 = .ok (.iload_n 1, 1) := by decide +kernel
theorem dX7_take_61 : decode cX7_take 61 = .ok (.invokestatic 42, 3) := by decide +kernel
theorem dX7_take_64 : decode cX7_take 64 = .ok (.iconst 1, 1) := by decide +kernel
theorem dX7_take_65 : decode cX7_take 65 = .ok (.isub, 1) := by decide +kernel
theorem dX7_take_66 : decode cX7_take 66 = .ok (.istore 4, 2) := by decide +kernel
theorem dX7_take_68 : decode cX7_take 68 = .ok (.iload 4, 2) := by decide +kernel
theorem dX7_take_70 : decode cX7_take 70 = .ok (.ifCond .lt 22, 3) := by decide +kernel
theorem dX7_take_73 : decode cX7_take 73 = .ok (.aload_n 0, 1) := by decide +kernel
theorem dX7_take_74 : decode cX7_take 74 = .ok (.iload_n 1, 1) := by decide +kernel
theorem dX7_take_75 : decode cX7_take 75 = .ok (.iload 4, 2) := by decide +kernel
theorem dX7_take_77 : decode cX7_take 77 = .ok (.invokestatic 53, 3) := by decide +kernel
theorem dX7_take_80 : decode cX7_take 80 = .ok (.iload_n 3, 1) := by decide +kernel
theorem dX7_take_81 : decode cX7_take 81 = .ok (.iconst 1, 1) := by decide +kernel
theorem dX7_take_82 : decode cX7_take 82 = .ok (.iadd, 1) := by decide +kernel
theorem dX7_take_83 : decode cX7_take 83 = .ok (.invokevirtual 38, 3) := by decide +kernel
theorem dX7_take_86 : decode cX7_take 86 = .ok (.iinc 4 (-1), 3) := by decide +kernel
theorem dX7_take_89 : decode cX7_take 89 = .ok (.goto (-21), 3) := by decide +kernel
theorem dX7_take_92 : decode cX7_take 92 = .ok (.return_, 1) := by decide +kernel
theorem dX7_miss_0 : decode cX7_miss 0 = .ok (.aload_n 0, 1) := by decide +kernel
theorem dX7_miss_1 : decode cX7_miss 1 = .ok (.getfield 18, 3) := by decide +kernel
theorem dX7_miss_4 : decode cX7_miss 4 = .ok (.aload_n 0, 1) := by decide +kernel
theorem dX7_miss_5 : decode cX7_miss 5 = .ok (.getfield 32, 3) := by decide +kernel
theorem dX7_miss_8 : decode cX7_miss 8 = .ok (.iload_n 1, 1) := by decide +kernel
theorem dX7_miss_9 : decode cX7_miss 9 = .ok (.invokestatic 46, 3) := by decide +kernel
theorem dX7_miss_12 : decode cX7_miss 12 = .ok (.invokestatic 61, 3) := by decide +kernel
theorem dX7_miss_15 : decode cX7_miss 15 = .ok (.aload_n 0, 1) := by decide +kernel
theorem dX7_miss_16 : decode cX7_miss 16 = .ok (.getfield 22, 3) := by decide +kernel
theorem dX7_miss_19 : decode cX7_miss 19 = .ok (.aload_n 0, 1) := by decide +kernel
theorem dX7_miss_20 : decode cX7_miss 20 = .ok (.getfield 32, 3) := by decide +kernel
theorem dX7_miss_23 : decode cX7_miss 23 = .ok (.iload_n 2, 1) := by decide +kernel
theorem dX7_miss_24 : decode cX7_miss 24 = .ok (.invokestatic 61, 3) := by decide +kernel
theorem dX7_miss_27 : decode cX7_miss 27 = .ok (.aload_n 0, 1) := by decide +kernel
theorem dX7_miss_28 : decode cX7_miss 28 = .ok (.dup, 1) := by decide +kernel
theorem dX7_miss_29 : decode cX7_miss 29 = .ok (.getfield 32, 3) := by decide +kernel
theorem dX7_miss_32 : decode cX7_miss 32 = .ok (.iconst 1, 1) := by decide +kernel
theorem dX7_miss_33 : decode cX7_miss 33 = .ok (.iadd, 1) := by decide +kernel
theorem dX7_miss_34 : decode cX7_miss 34 = .ok (.putfield 32, 3) := by decide +kernel
theorem dX7_miss_37 : decode cX7_miss 37 = .ok (.aload_n 0, 1) := by decide +kernel
theorem dX7_miss_38 : decode cX7_miss 38 = .ok (.dup, 1) := by decide +kernel
theorem dX7_miss_39 : decode cX7_miss 39 = .ok (.getfield 35, 3) := by decide +kernel
theorem dX7_miss_42 : decode cX7_miss 42 = .ok (.iload_n 1, 1) := by decide +kernel
theorem dX7_miss_43 : decode cX7_miss 43 = .ok (.invokestatic 46, 3) := by decide +kernel
theorem dX7_miss_46 : decode cX7_miss 46 = .ok (.iadd, 1) := by decide +kernel
theorem dX7_miss_47 : decode cX7_miss 47 = .ok (.putfield 35, 3) := by decide +kernel
theorem dX7_miss_50 : decode cX7_miss 50 = .ok (.return_, 1) := by decide +kernel
theorem dX7_needOf_0 : decode cX7_needOf 0 = .ok (.iload_n 0, 1) := by decide +kernel
theorem dX7_needOf_1 : decode cX7_needOf 1 = .ok (.ifCond .eq 7, 3) := by decide +kernel
theorem dX7_needOf_4 : decode cX7_needOf 4 = .ok (.iconst 1, 1) := by decide +kernel
theorem dX7_needOf_5 : decode cX7_needOf 5 = .ok (.goto 4, 3) := by decide +kernel
theorem dX7_needOf_8 : decode cX7_needOf 8 = .ok (.iconst 3, 1) := by decide +kernel
theorem dX7_needOf_9 : decode cX7_needOf 9 = .ok (.ireturn, 1) := by decide +kernel
