theorem dX9_requireNode_1 : decode cX9_requireNode 1 = .ok (.ifCond .lt 9, 3) := by decide +kernel
theorem dX9_requireNode_4 : decode cX9_requireNode 4 = .ok (.iload_n 0, 1) := by decide +kernel
theorem dX9_requireNode_5 : decode cX9_requireNode 5 = .ok (.bipush 13, 2) := by decide +kernel
theorem dX9_requireNode_7 : decode cX9_requireNode 7 = .ok (.if_icmp .le 14, 3) := by decide +kernel
theorem dX9_requireNode_10 : decode cX9_requireNode 10 = .ok (.new 120, 3) := by decide +kernel
theorem dX9_requireNode_13 : decode cX9_requireNode 13 = .ok (.dup, 1) := by decide +kernel
theorem dX9_requireNode_14 : decode cX9_requireNode 14 = .ok (.ldc_w 309, 3) := by decide +kernel
theorem dX9_requireNode_17 : decode cX9_requireNode 17 = .ok (.invokespecial 124, 3) := by decide +kernel
theorem dX9_requireNode_20 : decode cX9_requireNode 20 = .ok (.athrow, 1) := by decide +kernel
theorem dX9_requireNode_21 : decode cX9_requireNode 21 = .ok (.iload_n 0, 1) := by decide +kernel
theorem dX9_requireNode_22 : decode cX9_requireNode 22 = .ok (.ifCond .ne 26, 3) := by decide +kernel
theorem dX9_requireNode_25 : decode cX9_requireNode 25 = .ok (.iload_n 1, 1) := by decide +kernel
theorem dX9_requireNode_26 : decode cX9_requireNode 26 = .ok (.bipush (-99), 2) := by decide +kernel
theorem dX9_requireNode_28 : decode cX9_requireNode 28 = .ok (.if_icmp .lt 9, 3) := by decide +kernel
theorem dX9_requireNode_31 : decode cX9_requireNode 31 = .ok (.iload_n 1, 1) := by decide +kernel
theorem dX9_requireNode_32 : decode cX9_requireNode 32 = .ok (.bipush 99, 2) := by decide +kernel
theorem dX9_requireNode_34 : decode cX9_requireNode 34 = .ok (.if_icmp .le 14, 3) := by decide +kernel
theorem dX9_requireNode_37 : decode cX9_requireNode 37 = .ok (.new 120, 3) := by decide +kernel
theorem dX9_requireNode_40 : decode cX9_requireNode 40 = .ok (.dup, 1) := by decide +kernel
theorem dX9_requireNode_41 : decode cX9_requireNode 41 = .ok (.ldc_w 311, 3) := by decide +kernel
theorem dX9_requireNode_44 : decode cX9_requireNode 44 = .ok (.invokespecial 124, 3) := by decide +kernel
theorem dX9_requireNode_47 : decode cX9_requireNode 47 = .ok (.athrow, 1) := by decide +kernel
theorem dX9_requireNode_48 : decode cX9_requireNode 48 = .ok (.iload_n 0, 1) := by decide +kernel
theorem dX9_requireNode_49 : decode cX9_requireNode 49 = .ok (.iconst 1, 1) := by decide +kernel
theorem dX9_requireNode_50 : decode cX9_requireNode 50 = .ok (.if_icmp .ne 23, 3) := by decide +kernel
theorem dX9_requireNode_53 : decode cX9_requireNode 53 = .ok (.iload_n 1, 1) := by decide +kernel
theorem dX9_requireNode_54 : decode cX9_requireNode 54 = .ok (.ifCond .lt 8, 3) := by decide +kernel
theorem dX9_requireNode_57 : decode cX9_requireNode 57 = .ok (.iload_n 1, 1) := by decide +kernel
theorem dX9_requireNode_58 : decode cX9_requireNode 58 = .ok (.iconst 3, 1) := by decide +kernel
theorem dX9_requireNode_59 : decode cX9_requireNode 59 = .ok (.if_icmp .lt 14, 3) := by decide +kernel
theorem dX9_requireNode_62 : decode cX9_requireNode 62 = .ok (.new 120, 3) := by decide +kernel
theorem dX9_requireNode_65 : decode cX9_requireNode 65 = .ok (.dup, 1) := by decide +kernel
theorem dX9_requireNode_66 : decode cX9_requireNode 66 = .ok (.ldc_w 313, 3) := by decide +kernel
theorem dX9_requireNode_69 : decode cX9_requireNode 69 = .ok (.invokespecial 124, 3) := by decide +kernel
theorem dX9_requireNode_72 : decode cX9_requireNode 72 = .ok (.athrow, 1) := by decide +kernel
theorem dX9_requireNode_73 : decode cX9_requireNode 73 = .ok (.return_, 1) := by decide +kernel
theorem dX9_requireInputs_0 : decode cX9_requireInputs 0 = .ok (.iload_n 0, 1) := by decide +kernel
theorem dX9_requireInputs_1 : decode cX9_requireInputs 1 = .ok (.invokestatic 315, 3) := by decide +kernel
theorem dX9_requireInputs_4 : decode cX9_requireInputs 4 = .ok (.ifCond .eq 17, 3) := by decide +kernel
theorem dX9_requireInputs_7 : decode cX9_requireInputs 7 = .ok (.iload_n 1, 1) := by decide +kernel
theorem dX9_requireInputs_8 : decode cX9_requireInputs 8 = .ok (.invokestatic 315, 3) := by decide +kernel
theorem dX9_requireInputs_11 : decode cX9_requireInputs 11 = .ok (.ifCond .eq 10, 3) := by decide +kernel
theorem dX9_requireInputs_14 : decode cX9_requireInputs 14 = .ok (.iload_n 2, 1) := by decide +kernel
theorem dX9_requireInputs_15 : decode cX9_requireInputs 15 = .ok (.invokestatic 315, 3) := by decide +kernel
theorem dX9_requireInputs_18 : decode cX9_requireInputs 18 = .ok (.ifCond .ne 14, 3) := by decide +kernel
theorem dX9_requireInputs_21 : decode cX9_requireInputs 21 = .ok (.new 120, 3) := by decide +kernel
theorem dX9_requireInputs_24 : decode cX9_requireInputs 24 = .ok (.dup, 1) := by decide +kernel
theorem dX9_requireInputs_25 : decode cX9_requireInputs 25 = .ok (.ldc_w 318, 3) := by decide +kernel
theorem dX9_requireInputs_28 : decode cX9_requireInputs 28 = .ok (.invokespecial 124, 3) := by decide +kernel
theorem dX9_requireInputs_31 : decode cX9_requireInputs 31 = .ok (.athrow, 1) := by decide +kernel
theorem dX9_requireInputs_32 : decode cX9_requireInputs 32 = .ok (.return_, 1) := by decide +kernel
theorem dX9_isInput_0 : decode cX9_isInput 0 = .ok (.iload_n 0, 1) := by decide +kernel
theorem dX9_isInput_1 : decode cX9_isInput 1 = .ok (.bipush (-99), 2) := by decide +kernel
theorem dX9_isInput_3 : decode cX9_isInput 3 = .ok (.if_icmp .lt 13, 3) := by decide +kernel
theorem dX9_isInput_6 : decode cX9_isInput 6 = .ok (.iload_n 0, 1) := by decide +kernel
theorem dX9_isInput_7 : decode cX9_isInput 7 = .ok (.bipush 99, 2) := by decide +kernel
theorem dX9_isInput_9 : decode cX9_isInput 9 = .ok (.if_icmp .gt 7, 3) := by decide +kernel
theorem dX9_isInput_12 : decode cX9_isInput 12 = .ok (.iconst 1, 1) := by decide +kernel
theorem dX9_isInput_13 : decode cX9_isInput 13 = .ok (.goto 4, 3) := by decide +kernel
theorem dX9_isInput_16 : decode cX9_isInput 16 = .ok (.iconst 0, 1) := by decide +kernel
theorem dX9_isInput_17 : decode cX9_isInput 17 = .ok (.ireturn, 1) := by decide +kernel
theorem dX9_isNumberPart_0 : decode cX9_isNumberPart 0 = .ok (.iload_n 0, 1) := by decide +kernel
theorem dX9_isNumberPart_1 : decode cX9_isNumberPart 1 = .ok (.bipush 11, 2) := by decide +kernel
theorem dX9_isNumberPart_3 : decode cX9_isNumberPart 3 = .ok (.if_icmp .ge 17, 3) := by decide +kernel
theorem dX9_isNumberPart_6 : decode cX9_isNumberPart 6 = .ok (.iload_n 0, 1) := by decide +kernel
theorem dX9_isNumberPart_7 : decode cX9_isNumberPart 7 = .ok (.bipush 8, 2) := by decide +kernel
theorem dX9_isNumberPart_9 : decode cX9_isNumberPart 9 = .ok (.if_icmp .ne 7, 3) := by decide +kernel
theorem dX9_isNumberPart_12 : decode cX9_isNumberPart 12 = .ok (.iload_n 1, 1) := by decide +kernel
theorem dX9_isNumberPart_13 : decode cX9_isNumberPart 13 = .ok (.ifCond .eq 7, 3) := by decide +kernel
theorem dX9_isNumberPart_16 : decode cX9_isNumberPart 16 = .ok (.iconst 1, 1) := by decide +kernel
theorem dX9_isNumberPart_17 : decode cX9_isNumberPart 17 = .ok (.goto 4, 3) := by decide +kernel
theorem dX9_isNumberPart_20 : decode cX9_isNumberPart 20 = .ok (.iconst 0, 1) := by decide +kernel
theorem dX9_isNumberPart_21 : decode cX9_isNumberPart 21 = .ok (.ireturn, 1) := by decide +kernel
theorem dX9_at_0 : decode cX9_at 0 = .ok (.iload_n 1, 1) := by decide +kernel
theorem dX9_at_1 : decode cX9_at 1 = .ok (.ifCond .lt 9, 3) := by decide +kernel
theorem dX9_at_4 : decode cX9_at 4 = .ok (.iload_n 1, 1) := by decide +kernel
theorem dX9_at_5 : decode cX9_at 5 = .ok (.aload_n 0, 1) := by decide +kernel
theorem dX9_at_6 : decode cX9_at 6 = .ok (.arraylength, 1) := by decide +kernel
theorem dX9_at_7 : decode cX9_at 7 = .ok (.if_icmp .lt 7, 3) := by decide +kernel
theorem dX9_at_10 : decode cX9_at 10 = .ok (.iconst 0, 1) := by decide +kernel
theorem dX9_at_11 : decode cX9_at 11 = .ok (.goto 6, 3) := by decide +kernel
theorem dX9_at_14 : decode cX9_at 14 = .ok (.aload_n 0, 1) := by decide +kernel
theorem dX9_at_15 : decode cX9_at 15 = .ok (.iload_n 1, 1) := by decide +kernel
theorem dX9_at_16 : decode cX9_at 16 = .ok (.iaload, 1) := by decide +kernel
theorem dX9_at_17 : decode cX9_at 17 = .ok (.ireturn, 1) := by decide +kernel
theorem dX9_put_0 : decode cX9_put 0 = .ok (.iload_n 1, 1) := by decide +kernel
theorem dX9_put_1 : decode cX9_put 1 = .ok (.ifCond .lt 13, 3) := by decide +kernel
theorem dX9_put_4 : decode cX9_put 4 = .ok (.iload_n 1, 1) := by decide +kernel
theorem dX9_put_5 : decode cX9_put 5 = .ok (.aload_n 0, 1) := by decide +kernel
theorem dX9_put_6 : decode cX9_put 6 = .ok (.arraylength, 1) := by decide +kernel
theorem dX9_put_7 : decode cX9_put 7 = .ok (.if_icmp .ge 7, 3) := by decide +kernel
theorem dX9_put_10 : decode cX9_put 10 = .ok (.aload_n 0, 1) := by decide +kernel
theorem dX9_put_11 : decode cX9_put 11 = .ok (.iload_n 1, 1) := by decide +kernel
theorem dX9_put_12 : decode cX9_put 12 = .ok (.iload_n 2, 1) := by decide +kernel
theorem dX9_put_13 : decode cX9_put 13 = .ok (.iastore, 1) := by decide +kernel
theorem dX9_put_14 : decode cX9_put 14 = .ok (.return_, 1) := by decide +kernel
