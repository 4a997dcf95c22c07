theorem dX10_gives__0 : decode cX10_gives_ 0 = .ok (.aload_n 0, 1) := by decide +kernel
theorem dX10_gives__1 : decode cX10_gives_ 1 = .ok (.iconst 0, 1) := by decide +kernel
theorem dX10_gives__2 : decode cX10_gives_ 2 = .ok (.putfield 163, 3) := by decide +kernel
theorem dX10_gives__5 : decode cX10_gives_ 5 = .ok (.aload_n 0, 1) := by decide +kernel
theorem dX10_gives__6 : decode cX10_gives_ 6 = .ok (.iload_n 1, 1) := by decide +kernel
theorem dX10_gives__7 : decode cX10_gives_ 7 = .ok (.invokevirtual 169, 3) := by decide +kernel
theorem dX10_gives__10 : decode cX10_gives_ 10 = .ok (.ifCond .ne 9, 3) := by decide +kernel
theorem dX10_gives__13 : decode cX10_gives_ 13 = .ok (.aload_n 0, 1) := by decide +kernel
theorem dX10_gives__14 : decode cX10_gives_ 14 = .ok (.iconst 1, 1) := by decide +kernel
theorem dX10_gives__15 : decode cX10_gives_ 15 = .ok (.invokevirtual 176, 3) := by decide +kernel
theorem dX10_gives__18 : decode cX10_gives_ 18 = .ok (.ireturn, 1) := by decide +kernel
theorem dX10_gives__19 : decode cX10_gives_ 19 = .ok (.iload_n 2, 1) := by decide +kernel
theorem dX10_gives__20 : decode cX10_gives_ 20 = .ok (.bipush (-99), 2) := by decide +kernel
theorem dX10_gives__22 : decode cX10_gives_ 22 = .ok (.bipush 99, 2) := by decide +kernel
theorem dX10_gives__24 : decode cX10_gives_ 24 = .ok (.invokestatic 94, 3) := by decide +kernel
theorem dX10_gives__27 : decode cX10_gives_ 27 = .ok (.ifCond .eq 43, 3) := by decide +kernel
theorem dX10_gives__30 : decode cX10_gives_ 30 = .ok (.iload_n 3, 1) := by decide +kernel
theorem dX10_gives__31 : decode cX10_gives_ 31 = .ok (.bipush (-99), 2) := by decide +kernel
theorem dX10_gives__33 : decode cX10_gives_ 33 = .ok (.bipush 99, 2) := by decide +kernel
theorem dX10_gives__35 : decode cX10_gives_ 35 = .ok (.invokestatic 94, 3) := by decide +kernel
theorem dX10_gives__38 : decode cX10_gives_ 38 = .ok (.ifCond .eq 32, 3) := by decide +kernel
theorem dX10_gives__41 : decode cX10_gives_ 41 = .ok (.iload 4, 2) := by decide +kernel
theorem dX10_gives__43 : decode cX10_gives_ 43 = .ok (.bipush (-99), 2) := by decide +kernel
theorem dX10_gives__45 : decode cX10_gives_ 45 = .ok (.bipush 99, 2) := by decide +kernel
theorem dX10_gives__47 : decode cX10_gives_ 47 = .ok (.invokestatic 94, 3) := by decide +kernel
theorem dX10_gives__50 : decode cX10_gives_ 50 = .ok (.ifCond .eq 20, 3) := by decide +kernel
theorem dX10_gives__53 : decode cX10_gives_ 53 = .ok (.aload_n 0, 1) := by decide +kernel
theorem dX10_gives__54 : decode cX10_gives_ 54 = .ok (.aload_n 0, 1) := by decide +kernel
theorem dX10_gives__55 : decode cX10_gives_ 55 = .ok (.getfield 131, 3) := by decide +kernel
theorem dX10_gives__58 : decode cX10_gives_ 58 = .ok (.iload_n 1, 1) := by decide +kernel
theorem dX10_gives__59 : decode cX10_gives_ 59 = .ok (.aaload, 1) := by decide +kernel
theorem dX10_gives__60 : decode cX10_gives_ 60 = .ok (.iload_n 2, 1) := by decide +kernel
theorem dX10_gives__61 : decode cX10_gives_ 61 = .ok (.iload_n 3, 1) := by decide +kernel
theorem dX10_gives__62 : decode cX10_gives_ 62 = .ok (.iload 4, 2) := by decide +kernel
theorem dX10_gives__64 : decode cX10_gives_ 64 = .ok (.invokevirtual 90, 3) := by decide +kernel
theorem dX10_gives__67 : decode cX10_gives_ 67 = .ok (.goto 8, 3) := by decide +kernel
theorem dX10_gives__70 : decode cX10_gives_ 70 = .ok (.aload_n 0, 1) := by decide +kernel
theorem dX10_gives__71 : decode cX10_gives_ 71 = .ok (.iconst 2, 1) := by decide +kernel
theorem dX10_gives__72 : decode cX10_gives_ 72 = .ok (.invokevirtual 176, 3) := by decide +kernel
theorem dX10_gives__75 : decode cX10_gives_ 75 = .ok (.ireturn, 1) := by decide +kernel
