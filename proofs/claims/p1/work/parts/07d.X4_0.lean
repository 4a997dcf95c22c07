theorem dX4_init_0 : decode cX4_init 0 = .ok (.aload_n 0, 1) := by decide +kernel
theorem dX4_init_1 : decode cX4_init 1 = .ok (.invokespecial 3, 3) := by decide +kernel
theorem dX4_init_4 : decode cX4_init 4 = .ok (.aload_n 0, 1) := by decide +kernel
theorem dX4_init_5 : decode cX4_init 5 = .ok (.bipush 16, 2) := by decide +kernel
theorem dX4_init_7 : decode cX4_init 7 = .ok (.newarray .int, 2) := by decide +kernel
theorem dX4_init_9 : decode cX4_init 9 = .ok (.putfield 9, 3) := by decide +kernel
theorem dX4_init_12 : decode cX4_init 12 = .ok (.aload_n 0, 1) := by decide +kernel
theorem dX4_init_13 : decode cX4_init 13 = .ok (.bipush 16, 2) := by decide +kernel
theorem dX4_init_15 : decode cX4_init 15 = .ok (.newarray .int, 2) := by decide +kernel
theorem dX4_init_17 : decode cX4_init 17 = .ok (.putfield 15, 3) := by decide +kernel
theorem dX4_init_20 : decode cX4_init 20 = .ok (.aload_n 0, 1) := by decide +kernel
theorem dX4_init_21 : decode cX4_init 21 = .ok (.bipush 16, 2) := by decide +kernel
theorem dX4_init_23 : decode cX4_init 23 = .ok (.newarray .int, 2) := by decide +kernel
theorem dX4_init_25 : decode cX4_init 25 = .ok (.putfield 18, 3) := by decide +kernel
theorem dX4_init_28 : decode cX4_init 28 = .ok (.return_, 1) := by decide +kernel
theorem dX4_rank_0 : decode cX4_rank 0 = .ok (.iconst 0, 1) := by decide +kernel
theorem dX4_rank_1 : decode cX4_rank 1 = .ok (.istore_n 3, 1) := by decide +kernel
theorem dX4_rank_2 : decode cX4_rank 2 = .ok (.iload_n 3, 1) := by decide +kernel
theorem dX4_rank_3 : decode cX4_rank 3 = .ok (.aload_n 1, 1) := by decide +kernel
theorem dX4_rank_4 : decode cX4_rank 4 = .ok (.getfield 21, 3) := by decide +kernel
theorem dX4_rank_7 : decode cX4_rank 7 = .ok (.if_icmp .ge 60, 3) := by decide +kernel
theorem dX4_rank_10 : decode cX4_rank 10 = .ok (.aload_n 1, 1) := by decide +kernel
theorem dX4_rank_11 : decode cX4_rank 11 = .ok (.iload_n 3, 1) := by decide +kernel
theorem dX4_rank_12 : decode cX4_rank 12 = .ok (.invokevirtual 27, 3) := by decide +kernel
theorem dX4_rank_15 : decode cX4_rank 15 = .ok (.astore 4, 2) := by decide +kernel
theorem dX4_rank_17 : decode cX4_rank 17 = .ok (.aload_n 0, 1) := by decide +kernel
theorem dX4_rank_18 : decode cX4_rank 18 = .ok (.getfield 9, 3) := by decide +kernel
theorem dX4_rank_21 : decode cX4_rank 21 = .ok (.iload_n 3, 1) := by decide +kernel
theorem dX4_rank_22 : decode cX4_rank 22 = .ok (.aload_n 2, 1) := by decide +kernel
theorem dX4_rank_23 : decode cX4_rank 23 = .ok (.aload 4, 2) := by decide +kernel
theorem dX4_rank_25 : decode cX4_rank 25 = .ok (.invokevirtual 31, 3) := by decide +kernel
theorem dX4_rank_28 : decode cX4_rank 28 = .ok (.invokestatic 37, 3) := by decide +kernel
theorem dX4_rank_31 : decode cX4_rank 31 = .ok (.aload_n 0, 1) := by decide +kernel
theorem dX4_rank_32 : decode cX4_rank 32 = .ok (.getfield 15, 3) := by decide +kernel
theorem dX4_rank_35 : decode cX4_rank 35 = .ok (.iload_n 3, 1) := by decide +kernel
theorem dX4_rank_36 : decode cX4_rank 36 = .ok (.aload_n 2, 1) := by decide +kernel
theorem dX4_rank_37 : decode cX4_rank 37 = .ok (.getfield 41, 3) := by decide +kernel
theorem dX4_rank_40 : decode cX4_rank 40 = .ok (.iconst 2, 1) := by decide +kernel
theorem dX4_rank_41 : decode cX4_rank 41 = .ok (.if_icmp .ne 11, 3) := by decide +kernel
theorem dX4_rank_44 : decode cX4_rank 44 = .ok (.aload 4, 2) := by decide +kernel
theorem dX4_rank_46 : decode cX4_rank 46 = .ok (.getfield 44, 3) := by decide +kernel
theorem dX4_rank_49 : decode cX4_rank 49 = .ok (.goto 4, 3) := by decide +kernel
theorem dX4_rank_52 : decode cX4_rank 52 = .ok (.iconst 0, 1) := by decide +kernel
theorem dX4_rank_53 : decode cX4_rank 53 = .ok (.invokestatic 37, 3) := by decide +kernel
theorem dX4_rank_56 : decode cX4_rank 56 = .ok (.aload_n 0, 1) := by decide +kernel
theorem dX4_rank_57 : decode cX4_rank 57 = .ok (.iload_n 3, 1) := by decide +kernel
theorem dX4_rank_58 : decode cX4_rank 58 = .ok (.invokevirtual 49, 3) := by decide +kernel
theorem dX4_rank_61 : decode cX4_rank 61 = .ok (.iinc 3 1, 3) := by decide +kernel
theorem dX4_rank_64 : decode cX4_rank 64 = .ok (.goto (-62), 3) := by decide +kernel
theorem dX4_rank_67 : decode cX4_rank 67 = .ok (.return_, 1) := by decide +kernel
