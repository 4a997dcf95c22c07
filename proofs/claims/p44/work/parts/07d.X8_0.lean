theorem dX8_init_0 : decode cX8_init 0 = .ok (.aload_n 0, 1) := by decide +kernel
theorem dX8_init_1 : decode cX8_init 1 = .ok (.invokespecial 3, 3) := by decide +kernel
theorem dX8_init_4 : decode cX8_init 4 = .ok (.aload_n 0, 1) := by decide +kernel
theorem dX8_init_5 : decode cX8_init 5 = .ok (.bipush 40, 2) := by decide +kernel
theorem dX8_init_7 : decode cX8_init 7 = .ok (.newarray .int, 2) := by decide +kernel
theorem dX8_init_9 : decode cX8_init 9 = .ok (.putfield 9, 3) := by decide +kernel
theorem dX8_init_12 : decode cX8_init 12 = .ok (.aload_n 0, 1) := by decide +kernel
theorem dX8_init_13 : decode cX8_init 13 = .ok (.bipush 40, 2) := by decide +kernel
theorem dX8_init_15 : decode cX8_init 15 = .ok (.newarray .int, 2) := by decide +kernel
theorem dX8_init_17 : decode cX8_init 17 = .ok (.putfield 15, 3) := by decide +kernel
theorem dX8_init_20 : decode cX8_init 20 = .ok (.aload_n 0, 1) := by decide +kernel
theorem dX8_init_21 : decode cX8_init 21 = .ok (.bipush 40, 2) := by decide +kernel
theorem dX8_init_23 : decode cX8_init 23 = .ok (.newarray .int, 2) := by decide +kernel
theorem dX8_init_25 : decode cX8_init 25 = .ok (.putfield 18, 3) := by decide +kernel
theorem dX8_init_28 : decode cX8_init 28 = .ok (.aload_n 0, 1) := by decide +kernel
theorem dX8_init_29 : decode cX8_init 29 = .ok (.bipush 40, 2) := by decide +kernel
theorem dX8_init_31 : decode cX8_init 31 = .ok (.newarray .int, 2) := by decide +kernel
theorem dX8_init_33 : decode cX8_init 33 = .ok (.putfield 21, 3) := by decide +kernel
theorem dX8_init_36 : decode cX8_init 36 = .ok (.return_, 1) := by decide +kernel
theorem dX8_code_0 : decode cX8_code 0 = .ok (.aload_n 0, 1) := by decide +kernel
theorem dX8_code_1 : decode cX8_code 1 = .ok (.getfield 9, 3) := by decide +kernel
theorem dX8_code_4 : decode cX8_code 4 = .ok (.iload_n 1, 1) := by decide +kernel
theorem dX8_code_5 : decode cX8_code 5 = .ok (.invokestatic 24, 3) := by decide +kernel
theorem dX8_code_8 : decode cX8_code 8 = .ok (.ireturn, 1) := by decide +kernel
theorem dX8_value_0 : decode cX8_value 0 = .ok (.aload_n 0, 1) := by decide +kernel
theorem dX8_value_1 : decode cX8_value 1 = .ok (.getfield 15, 3) := by decide +kernel
theorem dX8_value_4 : decode cX8_value 4 = .ok (.iload_n 1, 1) := by decide +kernel
theorem dX8_value_5 : decode cX8_value 5 = .ok (.invokestatic 24, 3) := by decide +kernel
theorem dX8_value_8 : decode cX8_value 8 = .ok (.ireturn, 1) := by decide +kernel
theorem dX8_span_0 : decode cX8_span 0 = .ok (.aload_n 0, 1) := by decide +kernel
theorem dX8_span_1 : decode cX8_span 1 = .ok (.getfield 18, 3) := by decide +kernel
theorem dX8_span_4 : decode cX8_span 4 = .ok (.iload_n 1, 1) := by decide +kernel
theorem dX8_span_5 : decode cX8_span 5 = .ok (.invokestatic 24, 3) := by decide +kernel
theorem dX8_span_8 : decode cX8_span 8 = .ok (.ireturn, 1) := by decide +kernel
theorem dX8_isNumber_0 : decode cX8_isNumber 0 = .ok (.aload_n 0, 1) := by decide +kernel
theorem dX8_isNumber_1 : decode cX8_isNumber 1 = .ok (.getfield 9, 3) := by decide +kernel
theorem dX8_isNumber_4 : decode cX8_isNumber 4 = .ok (.iload_n 1, 1) := by decide +kernel
theorem dX8_isNumber_5 : decode cX8_isNumber 5 = .ok (.invokestatic 24, 3) := by decide +kernel
theorem dX8_isNumber_8 : decode cX8_isNumber 8 = .ok (.bipush 8, 2) := by decide +kernel
theorem dX8_isNumber_10 : decode cX8_isNumber 10 = .ok (.if_icmp .gt 7, 3) := by decide +kernel
theorem dX8_isNumber_13 : decode cX8_isNumber 13 = .ok (.iconst 1, 1) := by decide +kernel
theorem dX8_isNumber_14 : decode cX8_isNumber 14 = .ok (.goto 4, 3) := by decide +kernel
theorem dX8_isNumber_17 : decode cX8_isNumber 17 = .ok (.iconst 0, 1) := by decide +kernel
theorem dX8_isNumber_18 : decode cX8_isNumber 18 = .ok (.ireturn, 1) := by decide +kernel
theorem dX8_isConstant_0 : decode cX8_isConstant 0 = .ok (.aload_n 0, 1) := by decide +kernel
theorem dX8_isConstant_1 : decode cX8_isConstant 1 = .ok (.iload_n 1, 1) := by decide +kernel
theorem dX8_isConstant_2 : decode cX8_isConstant 2 = .ok (.invokevirtual 28, 3) := by decide +kernel
theorem dX8_isConstant_5 : decode cX8_isConstant 5 = .ok (.ifCond .ne 16, 3) := by decide +kernel
theorem dX8_isConstant_8 : decode cX8_isConstant 8 = .ok (.aload_n 0, 1) := by decide +kernel
theorem dX8_isConstant_9 : decode cX8_isConstant 9 = .ok (.iload_n 1, 1) := by decide +kernel
theorem dX8_isConstant_10 : decode cX8_isConstant 10 = .ok (.invokevirtual 32, 3) := by decide +kernel
theorem dX8_isConstant_13 : decode cX8_isConstant 13 = .ok (.iload_n 2, 1) := by decide +kernel
theorem dX8_isConstant_14 : decode cX8_isConstant 14 = .ok (.if_icmp .ne 7, 3) := by decide +kernel
theorem dX8_isConstant_17 : decode cX8_isConstant 17 = .ok (.iconst 1, 1) := by decide +kernel
theorem dX8_isConstant_18 : decode cX8_isConstant 18 = .ok (.goto 4, 3) := by decide +kernel
theorem dX8_isConstant_21 : decode cX8_isConstant 21 = .ok (.iconst 0, 1) := by decide +kernel
theorem dX8_isConstant_22 : decode cX8_isConstant 22 = .ok (.ireturn, 1) := by decide +kernel
theorem dX8_behind_0 : decode cX8_behind 0 = .ok (.iload_n 1, 1) := by decide +kernel
theorem dX8_behind_1 : decode cX8_behind 1 = .ok (.aload_n 0, 1) := by decide +kernel
theorem dX8_behind_2 : decode cX8_behind 2 = .ok (.getfield 18, 3) := by decide +kernel
theorem dX8_behind_5 : decode cX8_behind 5 = .ok (.iload_n 1, 1) := by decide +kernel
theorem dX8_behind_6 : decode cX8_behind 6 = .ok (.invokestatic 24, 3) := by decide +kernel
theorem dX8_behind_9 : decode cX8_behind 9 = .ok (.iadd, 1) := by decide +kernel
theorem dX8_behind_10 : decode cX8_behind 10 = .ok (.ireturn, 1) := by decide +kernel
theorem dX8_placeAbove_0 : decode cX8_placeAbove 0 = .ok (.iload_n 1, 1) := by decide +kernel
theorem dX8_placeAbove_1 : decode cX8_placeAbove 1 = .ok (.iconst 1, 1) := by decide +kernel
theorem dX8_placeAbove_2 : decode cX8_placeAbove 2 = .ok (.isub, 1) := by decide +kernel
theorem dX8_placeAbove_3 : decode cX8_placeAbove 3 = .ok (.istore_n 2, 1) := by decide +kernel
theorem dX8_placeAbove_4 : decode cX8_placeAbove 4 = .ok (.iload_n 2, 1) := by decide +kernel
theorem dX8_placeAbove_5 : decode cX8_placeAbove 5 = .ok (.ifCond .lt 20, 3) := by decide +kernel
theorem dX8_placeAbove_8 : decode cX8_placeAbove 8 = .ok (.aload_n 0, 1) := by decide +kernel
theorem dX8_placeAbove_9 : decode cX8_placeAbove 9 = .ok (.iload_n 2, 1) := by decide +kernel
theorem dX8_placeAbove_10 : decode cX8_placeAbove 10 = .ok (.invokevirtual 35, 3) := by decide +kernel
theorem dX8_placeAbove_13 : decode cX8_placeAbove 13 = .ok (.iload_n 1, 1) := by decide +kernel
theorem dX8_placeAbove_14 : decode cX8_placeAbove 14 = .ok (.if_icmp .le 5, 3) := by decide +kernel
theorem dX8_placeAbove_17 : decode cX8_placeAbove 17 = .ok (.iload_n 2, 1) := by decide +kernel
theorem dX8_placeAbove_18 : decode cX8_placeAbove 18 = .ok (.ireturn, 1) := by decide +kernel
theorem dX8_placeAbove_19 : decode cX8_placeAbove 19 = .ok (.iinc 2 (-1), 3) := by decide +kernel
theorem dX8_placeAbove_22 : decode cX8_placeAbove 22 = .ok (.goto (-18), 3) := by decide +kernel
theorem dX8_placeAbove_25 : decode cX8_placeAbove 25 = .ok (.iconst (-1), 1) := by decide +kernel
theorem dX8_placeAbove_26 : decode cX8_placeAbove 26 = .ok (.ireturn, 1) := by decide +kernel
theorem dX8_hasInput_0 : decode cX8_hasInput 0 = .ok (.aload_n 0, 1) := by decide +kernel
theorem dX8_hasInput_1 : decode cX8_hasInput 1 = .ok (.iload_n 1, 1) := by decide +kernel
theorem dX8_hasInput_2 : decode cX8_hasInput 2 = .ok (.invokevirtual 35, 3) := by decide +kernel
theorem dX8_hasInput_5 : decode cX8_hasInput 5 = .ok (.istore_n 2, 1) := by decide +kernel
theorem dX8_hasInput_6 : decode cX8_hasInput 6 = .ok (.iload_n 1, 1) := by decide +kernel
theorem dX8_hasInput_7 : decode cX8_hasInput 7 = .ok (.istore_n 3, 1) := by decide +kernel
theorem dX8_hasInput_8 : decode cX8_hasInput 8 = .ok (.iload_n 3, 1) := by decide +kernel
theorem dX8_hasInput_9 : decode cX8_hasInput 9 = .ok (.iload_n 2, 1) := by decide +kernel
theorem dX8_hasInput_10 : decode cX8_hasInput 10 = .ok (.if_icmp .ge 20, 3) := by decide +kernel
theorem dX8_hasInput_13 : decode cX8_hasInput 13 = .ok (.aload_n 0, 1) := by decide +kernel
theorem dX8_hasInput_14 : decode cX8_hasInput 14 = .ok (.iload_n 3, 1) := by decide +kernel
theorem dX8_hasInput_15 : decode cX8_hasInput 15 = .ok (.invokevirtual 28, 3) := by decide +kernel
theorem dX8_hasInput_18 : decode cX8_hasInput 18 = .ok (.iconst 1, 1) := by decide +kernel
theorem dX8_hasInput_19 : decode cX8_hasInput 19 = .ok (.if_icmp .ne 5, 3) := by decide +kernel
theorem dX8_hasInput_22 : decode cX8_hasInput 22 = .ok (.iconst 1, 1) := by decide +kernel
theorem dX8_hasInput_23 : decode cX8_hasInput 23 = .ok (.ireturn, 1) := by decide +kernel
theorem dX8_hasInput_24 : decode cX8_hasInput 24 = .ok (.iinc 3 1, 3) := by decide +kernel
theorem dX8_hasInput_27 : decode cX8_hasInput 27 = .ok (.goto (-19), 3) := by decide +kernel
theorem dX8_hasInput_30 : decode cX8_hasInput 30 = .ok (.iconst 0, 1) := by decide +kernel
theorem dX8_hasInput_31 : decode cX8_hasInput 31 = .ok (.ireturn, 1) := by decide +kernel
theorem dX8_sameParts_0 : decode cX8_sameParts 0 = .ok (.aload_n 0, 1) := by decide +kernel
theorem dX8_sameParts_1 : decode cX8_sameParts 1 = .ok (.iload_n 1, 1) := by decide +kernel
theorem dX8_sameParts_2 : decode cX8_sameParts 2 = .ok (.invokevirtual 38, 3) := by decide +kernel
theorem dX8_sameParts_5 : decode cX8_sameParts 5 = .ok (.istore_n 3, 1) := by decide +kernel
theorem dX8_sameParts_6 : decode cX8_sameParts 6 = .ok (.iconst 0, 1) := by decide +kernel
theorem dX8_sameParts_7 : decode cX8_sameParts 7 = .ok (.istore 4, 2) := by decide +kernel
theorem dX8_sameParts_9 : decode cX8_sameParts 9 = .ok (.iload 4, 2) := by decide +kernel
theorem dX8_sameParts_11 : decode cX8_sameParts 11 = .ok (.iload_n 3, 1) := by decide +kernel
theorem dX8_sameParts_12 : decode cX8_sameParts 12 = .ok (.if_icmp .ge 49, 3) := by decide +kernel
theorem dX8_sameParts_15 : decode cX8_sameParts 15 = .ok (.aload_n 0, 1) := by decide +kernel
theorem dX8_sameParts_16 : decode cX8_sameParts 16 = .ok (.iload_n 1, 1) := by decide +kernel
theorem dX8_sameParts_17 : decode cX8_sameParts 17 = .ok (.iload 4, 2) := by decide +kernel
theorem dX8_sameParts_19 : decode cX8_sameParts 19 = .ok (.iadd, 1) := by decide +kernel
theorem dX8_sameParts_20 : decode cX8_sameParts 20 = .ok (.invokevirtual 28, 3) := by decide +kernel
theorem dX8_sameParts_23 : decode cX8_sameParts 23 = .ok (.aload_n 0, 1) := by decide +kernel
theorem dX8_sameParts_24 : decode cX8_sameParts 24 = .ok (.iload_n 2, 1) := by decide +kernel
theorem dX8_sameParts_25 : decode cX8_sameParts 25 = .ok (.iload 4, 2) := by decide +kernel
theorem dX8_sameParts_27 : decode cX8_sameParts 27 = .ok (.iadd, 1) := by decide +kernel
theorem dX8_sameParts_28 : decode cX8_sameParts 28 = .ok (.invokevirtual 28, 3) := by decide +kernel
theorem dX8_sameParts_31 : decode cX8_sameParts 31 = .ok (.if_icmp .ne 22, 3) := by decide +kernel
theorem dX8_sameParts_34 : decode cX8_sameParts 34 = .ok (.aload_n 0, 1) := by decide +kernel
theorem dX8_sameParts_35 : decode cX8_sameParts 35 = .ok (.iload_n 1, 1) := by decide +kernel
theorem dX8_sameParts_36 : decode cX8_sameParts 36 = .ok (.iload 4, 2) := by decide +kernel
theorem dX8_sameParts_38 : decode cX8_sameParts 38 = .ok (.iadd, 1) := by decide +kernel
theorem dX8_sameParts_39 : decode cX8_sameParts 39 = .ok (.invokevirtual 32, 3) := by decide +kernel
theorem dX8_sameParts_42 : decode cX8_sameParts 42 = .ok (.aload_n 0, 1) := by decide +kernel
theorem dX8_sameParts_43 : decode cX8_sameParts 43 = .ok (.iload_n 2, 1) := by decide +kernel
theorem dX8_sameParts_44 : decode cX8_sameParts 44 = .ok (.iload 4, 2) := by decide +kernel
theorem dX8_sameParts_46 : decode cX8_sameParts 46 = .ok (.iadd, 1) := by decide +kernel
theorem dX8_sameParts_47 : decode cX8_sameParts 47 = .ok (.invokevirtual 32, 3) := by decide +kernel
theorem dX8_sameParts_50 : decode cX8_sameParts 50 = .ok (.if_icmp .eq 5, 3) := by decide +kernel
theorem dX8_sameParts_53 : decode cX8_sameParts 53 = .ok (.iconst 0, 1) := by decide +kernel
theorem dX8_sameParts_54 : decode cX8_sameParts 54 = .ok (.ireturn, 1) := by decide +kernel
theorem dX8_sameParts_55 : decode cX8_sameParts 55 = .ok (.iinc 4 1, 3) := by decide +kernel
theorem dX8_sameParts_58 : decode cX8_sameParts 58 = .ok (.goto (-49), 3) := by decide +kernel
theorem dX8_sameParts_61 : decode cX8_sameParts 61 = .ok (.iconst 1, 1) := by decide +kernel
theorem dX8_sameParts_62 : decode cX8_sameParts 62 = .ok (.ireturn, 1) := by decide +kernel
theorem dX8_sameNodes_0 : decode cX8_sameNodes 0 = .ok (.aload_n 0, 1) := by decide +kernel
theorem dX8_sameNodes_1 : decode cX8_sameNodes 1 = .ok (.getfield 41, 3) := by decide +kernel
theorem dX8_sameNodes_4 : decode cX8_sameNodes 4 = .ok (.aload_n 1, 1) := by decide +kernel
theorem dX8_sameNodes_5 : decode cX8_sameNodes 5 = .ok (.getfield 41, 3) := by decide +kernel
theorem dX8_sameNodes_8 : decode cX8_sameNodes 8 = .ok (.invokestatic 45, 3) := by decide +kernel
theorem dX8_sameNodes_11 : decode cX8_sameNodes 11 = .ok (.istore_n 2, 1) := by decide +kernel
theorem dX8_sameNodes_12 : decode cX8_sameNodes 12 = .ok (.iconst 0, 1) := by decide +kernel
theorem dX8_sameNodes_13 : decode cX8_sameNodes 13 = .ok (.istore_n 3, 1) := by decide +kernel
theorem dX8_sameNodes_14 : decode cX8_sameNodes 14 = .ok (.iload_n 3, 1) := by decide +kernel
theorem dX8_sameNodes_15 : decode cX8_sameNodes 15 = .ok (.iload_n 2, 1) := by decide +kernel
theorem dX8_sameNodes_16 : decode cX8_sameNodes 16 = .ok (.if_icmp .ge 37, 3) := by decide +kernel
theorem dX8_sameNodes_19 : decode cX8_sameNodes 19 = .ok (.aload_n 0, 1) := by decide +kernel
theorem dX8_sameNodes_20 : decode cX8_sameNodes 20 = .ok (.iload_n 3, 1) := by decide +kernel
theorem dX8_sameNodes_21 : decode cX8_sameNodes 21 = .ok (.invokevirtual 28, 3) := by decide +kernel
theorem dX8_sameNodes_24 : decode cX8_sameNodes 24 = .ok (.aload_n 1, 1) := by decide +kernel
theorem dX8_sameNodes_25 : decode cX8_sameNodes 25 = .ok (.iload_n 3, 1) := by decide +kernel
theorem dX8_sameNodes_26 : decode cX8_sameNodes 26 = .ok (.invokevirtual 28, 3) := by decide +kernel
theorem dX8_sameNodes_29 : decode cX8_sameNodes 29 = .ok (.if_icmp .ne 16, 3) := by decide +kernel
theorem dX8_sameNodes_32 : decode cX8_sameNodes 32 = .ok (.aload_n 0, 1) := by decide +kernel
theorem dX8_sameNodes_33 : decode cX8_sameNodes 33 = .ok (.iload_n 3, 1) := by decide +kernel
theorem dX8_sameNodes_34 : decode cX8_sameNodes 34 = .ok (.invokevirtual 32, 3) := by decide +kernel
theorem dX8_sameNodes_37 : decode cX8_sameNodes 37 = .ok (.aload_n 1, 1) := by decide +kernel
theorem dX8_sameNodes_38 : decode cX8_sameNodes 38 = .ok (.iload_n 3, 1) := by decide +kernel
theorem dX8_sameNodes_39 : decode cX8_sameNodes 39 = .ok (.invokevirtual 32, 3) := by decide +kernel
theorem dX8_sameNodes_42 : decode cX8_sameNodes 42 = .ok (.if_icmp .eq 5, 3) := by decide +kernel
theorem dX8_sameNodes_45 : decode cX8_sameNodes 45 = .ok (.iload_n 3, 1) := by decide +kernel
theorem dX8_sameNodes_46 : decode cX8_sameNodes 46 = .ok (.ireturn, 1) := by decide +kernel
theorem dX8_sameNodes_47 : decode cX8_sameNodes 47 = .ok (.iinc 3 1, 3) := by decide +kernel
theorem dX8_sameNodes_50 : decode cX8_sameNodes 50 = .ok (.goto (-36), 3) := by decide +kernel
theorem dX8_sameNodes_53 : decode cX8_sameNodes 53 = .ok (.iload_n 2, 1) := by decide +kernel
theorem dX8_sameNodes_54 : decode cX8_sameNodes 54 = .ok (.ireturn, 1) := by decide +kernel
theorem dX8_countOfType_0 : decode cX8_countOfType 0 = .ok (.iconst 0, 1) := by decide +kernel
theorem dX8_countOfType_1 : decode cX8_countOfType 1 = .ok (.istore_n 2, 1) := by decide +kernel
theorem dX8_countOfType_2 : decode cX8_countOfType 2 = .ok (.iconst 0, 1) := by decide +kernel
theorem dX8_countOfType_3 : decode cX8_countOfType 3 = .ok (.istore_n 3, 1) := by decide +kernel
theorem dX8_countOfType_4 : decode cX8_countOfType 4 = .ok (.iload_n 3, 1) := by decide +kernel
theorem dX8_countOfType_5 : decode cX8_countOfType 5 = .ok (.aload_n 0, 1) := by decide +kernel
theorem dX8_countOfType_6 : decode cX8_countOfType 6 = .ok (.getfield 41, 3) := by decide +kernel
theorem dX8_countOfType_9 : decode cX8_countOfType 9 = .ok (.if_icmp .ge 21, 3) := by decide +kernel
theorem dX8_countOfType_12 : decode cX8_countOfType 12 = .ok (.aload_n 0, 1) := by decide +kernel
theorem dX8_countOfType_13 : decode cX8_countOfType 13 = .ok (.iload_n 3, 1) := by decide +kernel
theorem dX8_countOfType_14 : decode cX8_countOfType 14 = .ok (.invokevirtual 51, 3) := by decide +kernel
theorem dX8_countOfType_17 : decode cX8_countOfType 17 = .ok (.iload_n 1, 1) := by decide +kernel
theorem dX8_countOfType_18 : decode cX8_countOfType 18 = .ok (.if_icmp .ne 6, 3) := by decide +kernel
theorem dX8_countOfType_21 : decode cX8_countOfType 21 = .ok (.iinc 2 1, 3) := by decide +kernel
theorem dX8_countOfType_24 : decode cX8_countOfType 24 = .ok (.iinc 3 1, 3) := by decide +kernel
theorem dX8_countOfType_27 : decode cX8_countOfType 27 = .ok (.goto (-23), 3) := by decide +kernel
theorem dX8_countOfType_30 : decode cX8_countOfType 30 = .ok (.iload_n 2, 1) := by decide +kernel
theorem dX8_countOfType_31 : decode cX8_countOfType 31 = .ok (.ireturn, 1) := by decide +kernel
theorem dX8_placeOfType_0 : decode cX8_placeOfType 0 = .ok (.iconst 0, 1) := by decide +kernel
theorem dX8_placeOfType_1 : decode cX8_placeOfType 1 = .ok (.istore_n 3, 1) := by decide +kernel
theorem dX8_placeOfType_2 : decode cX8_placeOfType 2 = .ok (.iconst 0, 1) := by decide +kernel
theorem dX8_placeOfType_3 : decode cX8_placeOfType 3 = .ok (.istore 4, 2) := by decide +kernel
theorem dX8_placeOfType_5 : decode cX8_placeOfType 5 = .ok (.iload 4, 2) := by decide +kernel
theorem dX8_placeOfType_7 : decode cX8_placeOfType 7 = .ok (.aload_n 0, 1) := by decide +kernel
theorem dX8_placeOfType_8 : decode cX8_placeOfType 8 = .ok (.getfield 41, 3) := by decide +kernel
theorem dX8_placeOfType_11 : decode cX8_placeOfType 11 = .ok (.if_icmp .ge 30, 3) := by decide +kernel
theorem dX8_placeOfType_14 : decode cX8_placeOfType 14 = .ok (.aload_n 0, 1) := by decide +kernel
theorem dX8_placeOfType_15 : decode cX8_placeOfType 15 = .ok (.iload 4, 2) := by decide +kernel
theorem dX8_placeOfType_17 : decode cX8_placeOfType 17 = .ok (.invokevirtual 51, 3) := by decide +kernel
theorem dX8_placeOfType_20 : decode cX8_placeOfType 20 = .ok (.iload_n 1, 1) := by decide +kernel
theorem dX8_placeOfType_21 : decode cX8_placeOfType 21 = .ok (.if_icmp .ne 14, 3) := by decide +kernel
theorem dX8_placeOfType_24 : decode cX8_placeOfType 24 = .ok (.iload_n 3, 1) := by decide +kernel
theorem dX8_placeOfType_25 : decode cX8_placeOfType 25 = .ok (.iload_n 2, 1) := by decide +kernel
theorem dX8_placeOfType_26 : decode cX8_placeOfType 26 = .ok (.if_icmp .ne 6, 3) := by decide +kernel
theorem dX8_placeOfType_29 : decode cX8_placeOfType 29 = .ok (.iload 4, 2) := by decide +kernel
theorem dX8_placeOfType_31 : decode cX8_placeOfType 31 = .ok (.ireturn, 1) := by decide +kernel
theorem dX8_placeOfType_32 : decode cX8_placeOfType 32 = .ok (.iinc 3 1, 3) := by decide +kernel
theorem dX8_placeOfType_35 : decode cX8_placeOfType 35 = .ok (.iinc 4 1, 3) := by decide +kernel
theorem dX8_placeOfType_38 : decode cX8_placeOfType 38 = .ok (.goto (-33), 3) := by decide +kernel
theorem dX8_placeOfType_41 : decode cX8_placeOfType 41 = .ok (.iconst 0, 1) := by decide +kernel
theorem dX8_placeOfType_42 : decode cX8_placeOfType 42 = .ok (.ireturn, 1) := by decide +kernel
theorem dX8_write_0 : decode cX8_write 0 = .ok (.aload_n 0, 1) := by decide +kernel
theorem dX8_write_1 : decode cX8_write 1 = .ok (.getfield 9, 3) := by decide +kernel
theorem dX8_write_4 : decode cX8_write 4 = .ok (.iload_n 1, 1) := by decide +kernel
theorem dX8_write_5 : decode cX8_write 5 = .ok (.iload_n 2, 1) := by decide +kernel
theorem dX8_write_6 : decode cX8_write 6 = .ok (.invokestatic 55, 3) := by decide +kernel
theorem dX8_write_9 : decode cX8_write 9 = .ok (.aload_n 0, 1) := by decide +kernel
theorem dX8_write_10 : decode cX8_write 10 = .ok (.getfield 15, 3) := by decide +kernel
theorem dX8_write_13 : decode cX8_write 13 = .ok (.iload_n 1, 1) := by decide +kernel
theorem dX8_write_14 : decode cX8_write 14 = .ok (.iload_n 2, 1) := by decide +kernel
theorem dX8_write_15 : decode cX8_write 15 = .ok (.iconst 1, 1) := by decide +kernel
theorem dX8_write_16 : decode cX8_write 16 = .ok (.if_icmp .gt 7, 3) := by decide +kernel
theorem dX8_write_19 : decode cX8_write 19 = .ok (.iload_n 3, 1) := by decide +kernel
theorem dX8_write_20 : decode cX8_write 20 = .ok (.goto 4, 3) := by decide +kernel
theorem dX8_write_23 : decode cX8_write 23 = .ok (.iconst 0, 1) := by decide +kernel
theorem dX8_write_24 : decode cX8_write 24 = .ok (.invokestatic 55, 3) := by decide +kernel
theorem dX8_write_27 : decode cX8_write 27 = .ok (.return_, 1) := by decide +kernel
theorem dX8_append_0 : decode cX8_append 0 = .ok (.aload_n 0, 1) := by decide +kernel
theorem dX8_append_1 : decode cX8_append 1 = .ok (.getfield 41, 3) := by decide +kernel
theorem dX8_append_4 : decode cX8_append 4 = .ok (.bipush 40, 2) := by decide +kernel
theorem dX8_append_6 : decode cX8_append 6 = .ok (.if_icmp .ge 23, 3) := by decide +kernel
theorem dX8_append_9 : decode cX8_append 9 = .ok (.aload_n 0, 1) := by decide +kernel
theorem dX8_append_10 : decode cX8_append 10 = .ok (.aload_n 0, 1) := by decide +kernel
theorem dX8_append_11 : decode cX8_append 11 = .ok (.getfield 41, 3) := by decide +kernel
theorem dX8_append_14 : decode cX8_append 14 = .ok (.iload_n 1, 1) := by decide +kernel
theorem dX8_append_15 : decode cX8_append 15 = .ok (.iload_n 2, 1) := by decide +kernel
theorem dX8_append_16 : decode cX8_append 16 = .ok (.invokevirtual 59, 3) := by decide +kernel
theorem dX8_append_19 : decode cX8_append 19 = .ok (.aload_n 0, 1) := by decide +kernel
theorem dX8_append_20 : decode cX8_append 20 = .ok (.dup, 1) := by decide +kernel
theorem dX8_append_21 : decode cX8_append 21 = .ok (.getfield 41, 3) := by decide +kernel
theorem dX8_append_24 : decode cX8_append 24 = .ok (.iconst 1, 1) := by decide +kernel
theorem dX8_append_25 : decode cX8_append 25 = .ok (.iadd, 1) := by decide +kernel
theorem dX8_append_26 : decode cX8_append 26 = .ok (.putfield 41, 3) := by decide +kernel
theorem dX8_append_29 : decode cX8_append 29 = .ok (.return_, 1) := by decide +kernel
theorem dX8_copyFrom_0 : decode cX8_copyFrom 0 = .ok (.aload_n 0, 1) := by decide +kernel
theorem dX8_copyFrom_1 : decode cX8_copyFrom 1 = .ok (.iconst 0, 1) := by decide +kernel
theorem dX8_copyFrom_2 : decode cX8_copyFrom 2 = .ok (.putfield 41, 3) := by decide +kernel
theorem dX8_copyFrom_5 : decode cX8_copyFrom 5 = .ok (.aload_n 0, 1) := by decide +kernel
theorem dX8_copyFrom_6 : decode cX8_copyFrom 6 = .ok (.aload_n 1, 1) := by decide +kernel
theorem dX8_copyFrom_7 : decode cX8_copyFrom 7 = .ok (.iconst 0, 1) := by decide +kernel
theorem dX8_copyFrom_8 : decode cX8_copyFrom 8 = .ok (.aload_n 1, 1) := by decide +kernel
theorem dX8_copyFrom_9 : decode cX8_copyFrom 9 = .ok (.getfield 41, 3) := by decide +kernel
theorem dX8_copyFrom_12 : decode cX8_copyFrom 12 = .ok (.invokevirtual 63, 3) := by decide +kernel
theorem dX8_copyFrom_15 : decode cX8_copyFrom 15 = .ok (.aload_n 0, 1) := by decide +kernel
theorem dX8_copyFrom_16 : decode cX8_copyFrom 16 = .ok (.invokevirtual 67, 3) := by decide +kernel
theorem dX8_copyFrom_19 : decode cX8_copyFrom 19 = .ok (.return_, 1) := by decide +kernel
theorem dX8_makeConstant_0 : decode cX8_makeConstant 0 = .ok (.aload_n 0, 1) := by decide +kernel
theorem dX8_makeConstant_1 : decode cX8_makeConstant 1 = .ok (.iload_n 1, 1) := by decide +kernel
theorem dX8_makeConstant_2 : decode cX8_makeConstant 2 = .ok (.invokevirtual 35, 3) := by decide +kernel
theorem dX8_makeConstant_5 : decode cX8_makeConstant 5 = .ok (.istore_n 3, 1) := by decide +kernel
theorem dX8_makeConstant_6 : decode cX8_makeConstant 6 = .ok (.aload_n 0, 1) := by decide +kernel
theorem dX8_makeConstant_7 : decode cX8_makeConstant 7 = .ok (.iload_n 1, 1) := by decide +kernel
theorem dX8_makeConstant_8 : decode cX8_makeConstant 8 = .ok (.iconst 0, 1) := by decide +kernel
theorem dX8_makeConstant_9 : decode cX8_makeConstant 9 = .ok (.iload_n 2, 1) := by decide +kernel
theorem dX8_makeConstant_10 : decode cX8_makeConstant 10 = .ok (.invokevirtual 59, 3) := by decide +kernel
theorem dX8_makeConstant_13 : decode cX8_makeConstant 13 = .ok (.aload_n 0, 1) := by decide +kernel
theorem dX8_makeConstant_14 : decode cX8_makeConstant 14 = .ok (.iload_n 1, 1) := by decide +kernel
theorem dX8_makeConstant_15 : decode cX8_makeConstant 15 = .ok (.iconst 1, 1) := by decide +kernel
theorem dX8_makeConstant_16 : decode cX8_makeConstant 16 = .ok (.iadd, 1) := by decide +kernel
theorem dX8_makeConstant_17 : decode cX8_makeConstant 17 = .ok (.iload_n 3, 1) := by decide +kernel
theorem dX8_makeConstant_18 : decode cX8_makeConstant 18 = .ok (.invokevirtual 70, 3) := by decide +kernel
theorem dX8_makeConstant_21 : decode cX8_makeConstant 21 = .ok (.aload_n 0, 1) := by decide +kernel
theorem dX8_makeConstant_22 : decode cX8_makeConstant 22 = .ok (.invokevirtual 67, 3) := by decide +kernel
theorem dX8_makeConstant_25 : decode cX8_makeConstant 25 = .ok (.return_, 1) := by decide +kernel
theorem dX8_keepPart_0 : decode cX8_keepPart 0 = .ok (.aload_n 0, 1) := by decide +kernel
theorem dX8_keepPart_1 : decode cX8_keepPart 1 = .ok (.iload_n 1, 1) := by decide +kernel
theorem dX8_keepPart_2 : decode cX8_keepPart 2 = .ok (.invokevirtual 35, 3) := by decide +kernel
theorem dX8_keepPart_5 : decode cX8_keepPart 5 = .ok (.istore_n 3, 1) := by decide +kernel
theorem dX8_keepPart_6 : decode cX8_keepPart 6 = .ok (.aload_n 0, 1) := by decide +kernel
theorem dX8_keepPart_7 : decode cX8_keepPart 7 = .ok (.iload_n 2, 1) := by decide +kernel
theorem dX8_keepPart_8 : decode cX8_keepPart 8 = .ok (.invokevirtual 38, 3) := by decide +kernel
theorem dX8_keepPart_11 : decode cX8_keepPart 11 = .ok (.istore 4, 2) := by decide +kernel
theorem dX8_keepPart_13 : decode cX8_keepPart 13 = .ok (.iconst 0, 1) := by decide +kernel
theorem dX8_keepPart_14 : decode cX8_keepPart 14 = .ok (.istore 5, 2) := by decide +kernel
theorem dX8_keepPart_16 : decode cX8_keepPart 16 = .ok (.iload 5, 2) := by decide +kernel
theorem dX8_keepPart_18 : decode cX8_keepPart 18 = .ok (.iload 4, 2) := by decide +kernel
theorem dX8_keepPart_20 : decode cX8_keepPart 20 = .ok (.if_icmp .ge 33, 3) := by decide +kernel
theorem dX8_keepPart_23 : decode cX8_keepPart 23 = .ok (.aload_n 0, 1) := by decide +kernel
theorem dX8_keepPart_24 : decode cX8_keepPart 24 = .ok (.iload_n 1, 1) := by decide +kernel
theorem dX8_keepPart_25 : decode cX8_keepPart 25 = .ok (.iload 5, 2) := by decide +kernel
theorem dX8_keepPart_27 : decode cX8_keepPart 27 = .ok (.iadd, 1) := by decide +kernel
theorem dX8_keepPart_28 : decode cX8_keepPart 28 = .ok (.aload_n 0, 1) := by decide +kernel
theorem dX8_keepPart_29 : decode cX8_keepPart 29 = .ok (.iload_n 2, 1) := by decide +kernel
theorem dX8_keepPart_30 : decode cX8_keepPart 30 = .ok (.iload 5, 2) := by decide +kernel
theorem dX8_keepPart_32 : decode cX8_keepPart 32 = .ok (.iadd, 1) := by decide +kernel
theorem dX8_keepPart_33 : decode cX8_keepPart 33 = .ok (.invokevirtual 28, 3) := by decide +kernel
theorem dX8_keepPart_36 : decode cX8_keepPart 36 = .ok (.aload_n 0, 1) := by decide +kernel
theorem dX8_keepPart_37 : decode cX8_keepPart 37 = .ok (.iload_n 2, 1) := by decide +kernel
theorem dX8_keepPart_38 : decode cX8_keepPart 38 = .ok (.iload 5, 2) := by decide +kernel
theorem dX8_keepPart_40 : decode cX8_keepPart 40 = .ok (.iadd, 1) := by decide +kernel
theorem dX8_keepPart_41 : decode cX8_keepPart 41 = .ok (.invokevirtual 32, 3) := by decide +kernel
theorem dX8_keepPart_44 : decode cX8_keepPart 44 = .ok (.invokevirtual 59, 3) := by decide +kernel
theorem dX8_keepPart_47 : decode cX8_keepPart 47 = .ok (.iinc 5 1, 3) := by decide +kernel
theorem dX8_keepPart_50 : decode cX8_keepPart 50 = .ok (.goto (-34), 3) := by decide +kernel
theorem dX8_keepPart_53 : decode cX8_keepPart 53 = .ok (.aload_n 0, 1) := by decide +kernel
theorem dX8_keepPart_54 : decode cX8_keepPart 54 = .ok (.iload_n 1, 1) := by decide +kernel
theorem dX8_keepPart_55 : decode cX8_keepPart 55 = .ok (.iload 4, 2) := by decide +kernel
theorem dX8_keepPart_57 : decode cX8_keepPart 57 = .ok (.iadd, 1) := by decide +kernel
theorem dX8_keepPart_58 : decode cX8_keepPart 58 = .ok (.iload_n 3, 1) := by decide +kernel
theorem dX8_keepPart_59 : decode cX8_keepPart 59 = .ok (.invokevirtual 70, 3) := by decide +kernel
theorem dX8_keepPart_62 : decode cX8_keepPart 62 = .ok (.aload_n 0, 1) := by decide +kernel
theorem dX8_keepPart_63 : decode cX8_keepPart 63 = .ok (.invokevirtual 67, 3) := by decide +kernel
theorem dX8_keepPart_66 : decode cX8_keepPart 66 = .ok (.return_, 1) := by decide +kernel
theorem dX8_becomeCrossed_0 : decode cX8_becomeCrossed 0 = .ok (.aload_n 1, 1) := by decide +kernel
theorem dX8_becomeCrossed_1 : decode cX8_becomeCrossed 1 = .ok (.getfield 41, 3) := by decide +kernel
theorem dX8_becomeCrossed_4 : decode cX8_becomeCrossed 4 = .ok (.aload_n 1, 1) := by decide +kernel
theorem dX8_becomeCrossed_5 : decode cX8_becomeCrossed 5 = .ok (.iload_n 2, 1) := by decide +kernel
theorem dX8_becomeCrossed_6 : decode cX8_becomeCrossed 6 = .ok (.invokevirtual 38, 3) := by decide +kernel
theorem dX8_becomeCrossed_9 : decode cX8_becomeCrossed 9 = .ok (.isub, 1) := by decide +kernel
theorem dX8_becomeCrossed_10 : decode cX8_becomeCrossed 10 = .ok (.aload_n 3, 1) := by decide +kernel
theorem dX8_becomeCrossed_11 : decode cX8_becomeCrossed 11 = .ok (.iload 4, 2) := by decide +kernel
theorem dX8_becomeCrossed_13 : decode cX8_becomeCrossed 13 = .ok (.invokevirtual 38, 3) := by decide +kernel
theorem dX8_becomeCrossed_16 : decode cX8_becomeCrossed 16 = .ok (.iadd, 1) := by decide +kernel
theorem dX8_becomeCrossed_17 : decode cX8_becomeCrossed 17 = .ok (.istore 5, 2) := by decide +kernel
theorem dX8_becomeCrossed_19 : decode cX8_becomeCrossed 19 = .ok (.aload_n 1, 1) := by decide +kernel
theorem dX8_becomeCrossed_20 : decode cX8_becomeCrossed 20 = .ok (.iload_n 2, 1) := by decide +kernel
theorem dX8_becomeCrossed_21 : decode cX8_becomeCrossed 21 = .ok (.invokevirtual 51, 3) := by decide +kernel
theorem dX8_becomeCrossed_24 : decode cX8_becomeCrossed 24 = .ok (.aload_n 3, 1) := by decide +kernel
theorem dX8_becomeCrossed_25 : decode cX8_becomeCrossed 25 = .ok (.iload 4, 2) := by decide +kernel
theorem dX8_becomeCrossed_27 : decode cX8_becomeCrossed 27 = .ok (.invokevirtual 51, 3) := by decide +kernel
theorem dX8_becomeCrossed_30 : decode cX8_becomeCrossed 30 = .ok (.if_icmp .ne 10, 3) := by decide +kernel
theorem dX8_becomeCrossed_33 : decode cX8_becomeCrossed 33 = .ok (.iload 5, 2) := by decide +kernel
theorem dX8_becomeCrossed_35 : decode cX8_becomeCrossed 35 = .ok (.bipush 40, 2) := by decide +kernel
theorem dX8_becomeCrossed_37 : decode cX8_becomeCrossed 37 = .ok (.if_icmp .le 5, 3) := by decide +kernel
theorem dX8_becomeCrossed_40 : decode cX8_becomeCrossed 40 = .ok (.iconst 0, 1) := by decide +kernel
theorem dX8_becomeCrossed_41 : decode cX8_becomeCrossed 41 = .ok (.ireturn, 1) := by decide +kernel
theorem dX8_becomeCrossed_42 : decode cX8_becomeCrossed 42 = .ok (.aload_n 0, 1) := by decide +kernel
theorem dX8_becomeCrossed_43 : decode cX8_becomeCrossed 43 = .ok (.iconst 0, 1) := by decide +kernel
theorem dX8_becomeCrossed_44 : decode cX8_becomeCrossed 44 = .ok (.putfield 41, 3) := by decide +kernel
theorem dX8_becomeCrossed_47 : decode cX8_becomeCrossed 47 = .ok (.aload_n 0, 1) := by decide +kernel
theorem dX8_becomeCrossed_48 : decode cX8_becomeCrossed 48 = .ok (.aload_n 1, 1) := by decide +kernel
theorem dX8_becomeCrossed_49 : decode cX8_becomeCrossed 49 = .ok (.iconst 0, 1) := by decide +kernel
theorem dX8_becomeCrossed_50 : decode cX8_becomeCrossed 50 = .ok (.iload_n 2, 1) := by decide +kernel
theorem dX8_becomeCrossed_51 : decode cX8_becomeCrossed 51 = .ok (.invokevirtual 63, 3) := by decide +kernel
theorem dX8_becomeCrossed_54 : decode cX8_becomeCrossed 54 = .ok (.aload_n 0, 1) := by decide +kernel
theorem dX8_becomeCrossed_55 : decode cX8_becomeCrossed 55 = .ok (.aload_n 3, 1) := by decide +kernel
theorem dX8_becomeCrossed_56 : decode cX8_becomeCrossed 56 = .ok (.iload 4, 2) := by decide +kernel
theorem dX8_becomeCrossed_58 : decode cX8_becomeCrossed 58 = .ok (.aload_n 3, 1) := by decide +kernel
theorem dX8_becomeCrossed_59 : decode cX8_becomeCrossed 59 = .ok (.iload 4, 2) := by decide +kernel
theorem dX8_becomeCrossed_61 : decode cX8_becomeCrossed 61 = .ok (.invokevirtual 35, 3) := by decide +kernel
theorem dX8_becomeCrossed_64 : decode cX8_becomeCrossed 64 = .ok (.invokevirtual 63, 3) := by decide +kernel
theorem dX8_becomeCrossed_67 : decode cX8_becomeCrossed 67 = .ok (.aload_n 0, 1) := by decide +kernel
theorem dX8_becomeCrossed_68 : decode cX8_becomeCrossed 68 = .ok (.aload_n 1, 1) := by decide +kernel
theorem dX8_becomeCrossed_69 : decode cX8_becomeCrossed 69 = .ok (.aload_n 1, 1) := by decide +kernel
theorem dX8_becomeCrossed_70 : decode cX8_becomeCrossed 70 = .ok (.iload_n 2, 1) := by decide +kernel
theorem dX8_becomeCrossed_71 : decode cX8_becomeCrossed 71 = .ok (.invokevirtual 35, 3) := by decide +kernel
theorem dX8_becomeCrossed_74 : decode cX8_becomeCrossed 74 = .ok (.aload_n 1, 1) := by decide +kernel
theorem dX8_becomeCrossed_75 : decode cX8_becomeCrossed 75 = .ok (.getfield 41, 3) := by decide +kernel
theorem dX8_becomeCrossed_78 : decode cX8_becomeCrossed 78 = .ok (.invokevirtual 63, 3) := by decide +kernel
theorem dX8_becomeCrossed_81 : decode cX8_becomeCrossed 81 = .ok (.aload_n 0, 1) := by decide +kernel
theorem dX8_becomeCrossed_82 : decode cX8_becomeCrossed 82 = .ok (.invokevirtual 67, 3) := by decide +kernel
theorem dX8_becomeCrossed_85 : decode cX8_becomeCrossed 85 = .ok (.aload_n 0, 1) := by decide +kernel
theorem dX8_becomeCrossed_86 : decode cX8_becomeCrossed 86 = .ok (.getfield 74, 3) := by decide +kernel
theorem dX8_becomeCrossed_89 : decode cX8_becomeCrossed 89 = .ok (.bipush 8, 2) := by decide +kernel
theorem dX8_becomeCrossed_91 : decode cX8_becomeCrossed 91 = .ok (.if_icmp .gt 7, 3) := by decide +kernel
theorem dX8_becomeCrossed_94 : decode cX8_becomeCrossed 94 = .ok (.iconst 1, 1) := by decide +kernel
theorem dX8_becomeCrossed_95 : decode cX8_becomeCrossed 95 = .ok (.goto 4, 3) := by decide +kernel
theorem dX8_becomeCrossed_98 : decode cX8_becomeCrossed 98 = .ok (.iconst 0, 1) := by decide +kernel
theorem dX8_becomeCrossed_99 : decode cX8_becomeCrossed 99 = .ok (.ireturn, 1) := by decide +kernel
theorem dX8_appendFrom_0 : decode cX8_appendFrom 0 = .ok (.iload_n 2, 1) := by decide +kernel
theorem dX8_appendFrom_1 : decode cX8_appendFrom 1 = .ok (.istore 4, 2) := by decide +kernel
theorem dX8_appendFrom_3 : decode cX8_appendFrom 3 = .ok (.iload 4, 2) := by decide +kernel
theorem dX8_appendFrom_5 : decode cX8_appendFrom 5 = .ok (.iload_n 3, 1) := by decide +kernel
theorem dX8_appendFrom_6 : decode cX8_appendFrom 6 = .ok (.if_icmp .ge 59, 3) := by decide +kernel
theorem dX8_appendFrom_9 : decode cX8_appendFrom 9 = .ok (.aload_n 0, 1) := by decide +kernel
theorem dX8_appendFrom_10 : decode cX8_appendFrom 10 = .ok (.getfield 9, 3) := by decide +kernel
theorem dX8_appendFrom_13 : decode cX8_appendFrom 13 = .ok (.aload_n 0, 1) := by decide +kernel
theorem dX8_appendFrom_14 : decode cX8_appendFrom 14 = .ok (.getfield 41, 3) := by decide +kernel
theorem dX8_appendFrom_17 : decode cX8_appendFrom 17 = .ok (.aload_n 1, 1) := by decide +kernel
theorem dX8_appendFrom_18 : decode cX8_appendFrom 18 = .ok (.getfield 9, 3) := by decide +kernel
theorem dX8_appendFrom_21 : decode cX8_appendFrom 21 = .ok (.iload 4, 2) := by decide +kernel
theorem dX8_appendFrom_23 : decode cX8_appendFrom 23 = .ok (.invokestatic 24, 3) := by decide +kernel
theorem dX8_appendFrom_26 : decode cX8_appendFrom 26 = .ok (.invokestatic 55, 3) := by decide +kernel
theorem dX8_appendFrom_29 : decode cX8_appendFrom 29 = .ok (.aload_n 0, 1) := by decide +kernel
theorem dX8_appendFrom_30 : decode cX8_appendFrom 30 = .ok (.getfield 15, 3) := by decide +kernel
theorem dX8_appendFrom_33 : decode cX8_appendFrom 33 = .ok (.aload_n 0, 1) := by decide +kernel
theorem dX8_appendFrom_34 : decode cX8_appendFrom 34 = .ok (.getfield 41, 3) := by decide +kernel
theorem dX8_appendFrom_37 : decode cX8_appendFrom 37 = .ok (.aload_n 1, 1) := by decide +kernel
theorem dX8_appendFrom_38 : decode cX8_appendFrom 38 = .ok (.getfield 15, 3) := by decide +kernel
theorem dX8_appendFrom_41 : decode cX8_appendFrom 41 = .ok (.iload 4, 2) := by decide +kernel
theorem dX8_appendFrom_43 : decode cX8_appendFrom 43 = .ok (.invokestatic 24, 3) := by decide +kernel
theorem dX8_appendFrom_46 : decode cX8_appendFrom 46 = .ok (.invokestatic 55, 3) := by decide +kernel
theorem dX8_appendFrom_49 : decode cX8_appendFrom 49 = .ok (.aload_n 0, 1) := by decide +kernel
theorem dX8_appendFrom_50 : decode cX8_appendFrom 50 = .ok (.dup, 1) := by decide +kernel
theorem dX8_appendFrom_51 : decode cX8_appendFrom 51 = .ok (.getfield 41, 3) := by decide +kernel
theorem dX8_appendFrom_54 : decode cX8_appendFrom 54 = .ok (.iconst 1, 1) := by decide +kernel
theorem dX8_appendFrom_55 : decode cX8_appendFrom 55 = .ok (.iadd, 1) := by decide +kernel
theorem dX8_appendFrom_56 : decode cX8_appendFrom 56 = .ok (.putfield 41, 3) := by decide +kernel
theorem dX8_appendFrom_59 : decode cX8_appendFrom 59 = .ok (.iinc 4 1, 3) := by decide +kernel
theorem dX8_appendFrom_62 : decode cX8_appendFrom 62 = .ok (.goto (-59), 3) := by decide +kernel
theorem dX8_appendFrom_65 : decode cX8_appendFrom 65 = .ok (.return_, 1) := by decide +kernel
