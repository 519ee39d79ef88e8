theorem d_C_constraintsNeeded_90 : decode b_C_constraintsNeeded 90 = .ok (.iconst 0, 1) := by decide +kernel
theorem d_C_constraintsNeeded_91 : decode b_C_constraintsNeeded 91 = .ok (.ireturn, 1) := by decide +kernel
theorem d_C_sumOf_0 : decode b_C_sumOf 0 = .ok (.aload_n 0, 1) := by decide +kernel
theorem d_C_sumOf_1 : decode b_C_sumOf 1 = .ok (.getfield 30, 3) := by decide +kernel
theorem d_C_sumOf_4 : decode b_C_sumOf 4 = .ok (.iload_n 1, 1) := by decide +kernel
theorem d_C_sumOf_5 : decode b_C_sumOf 5 = .ok (.invokevirtual 104, 3) := by decide +kernel
theorem d_C_sumOf_8 : decode b_C_sumOf 8 = .ok (.checkcast 69, 3) := by decide +kernel
theorem d_C_sumOf_11 : decode b_C_sumOf 11 = .ok (.getfield 192, 3) := by decide +kernel
theorem d_C_sumOf_14 : decode b_C_sumOf 14 = .ok (.areturn, 1) := by decide +kernel
theorem d_A_get_0 : decode b_A_get 0 = .ok (.iload_n 1, 1) := by decide +kernel
theorem d_A_get_1 : decode b_A_get 1 = .ok (.aload_n 0, 1) := by decide +kernel
theorem d_A_get_2 : decode b_A_get 2 = .ok (.getfield 48, 3) := by decide +kernel
theorem d_A_get_5 : decode b_A_get 5 = .ok (.invokestatic 118, 3) := by decide +kernel
theorem d_A_get_8 : decode b_A_get 8 = .ok (.pop, 1) := by decide +kernel
theorem d_A_get_9 : decode b_A_get 9 = .ok (.aload_n 0, 1) := by decide +kernel
theorem d_A_get_10 : decode b_A_get 10 = .ok (.iload_n 1, 1) := by decide +kernel
theorem d_A_get_11 : decode b_A_get 11 = .ok (.invokevirtual 123, 3) := by decide +kernel
theorem d_A_get_14 : decode b_A_get 14 = .ok (.areturn, 1) := by decide +kernel
theorem d_OB_checkIndex_0 : decode b_OB_checkIndex 0 = .ok (.iload_n 0, 1) := by decide +kernel
theorem d_OB_checkIndex_1 : decode b_OB_checkIndex 1 = .ok (.iload_n 1, 1) := by decide +kernel
theorem d_OB_checkIndex_2 : decode b_OB_checkIndex 2 = .ok (.aconst_null, 1) := by decide +kernel
theorem d_OB_checkIndex_3 : decode b_OB_checkIndex 3 = .ok (.invokestatic 105, 3) := by decide +kernel
theorem d_OB_checkIndex_6 : decode b_OB_checkIndex 6 = .ok (.ireturn, 1) := by decide +kernel
theorem d_PC_checkIndex_0 : decode b_PC_checkIndex 0 = .ok (.iload_n 0, 1) := by decide +kernel
theorem d_PC_checkIndex_1 : decode b_PC_checkIndex 1 = .ok (.ifCond .lt 8, 3) := by decide +kernel
theorem d_PC_checkIndex_4 : decode b_PC_checkIndex 4 = .ok (.iload_n 0, 1) := by decide +kernel
theorem d_PC_checkIndex_5 : decode b_PC_checkIndex 5 = .ok (.iload_n 1, 1) := by decide +kernel
theorem d_PC_checkIndex_6 : decode b_PC_checkIndex 6 = .ok (.if_icmp .lt 10, 3) := by decide +kernel
theorem d_PC_checkIndex_9 : decode b_PC_checkIndex 9 = .ok (.aload_n 2, 1) := by decide +kernel
theorem d_PC_checkIndex_10 : decode b_PC_checkIndex 10 = .ok (.iload_n 0, 1) := by decide +kernel
theorem d_PC_checkIndex_11 : decode b_PC_checkIndex 11 = .ok (.iload_n 1, 1) := by decide +kernel
theorem d_PC_checkIndex_12 : decode b_PC_checkIndex 12 = .ok (.invokestatic 95, 3) := by decide +kernel
theorem d_PC_checkIndex_15 : decode b_PC_checkIndex 15 = .ok (.athrow, 1) := by decide +kernel
theorem d_PC_checkIndex_16 : decode b_PC_checkIndex 16 = .ok (.iload_n 0, 1) := by decide +kernel
theorem d_PC_checkIndex_17 : decode b_PC_checkIndex 17 = .ok (.ireturn, 1) := by decide +kernel
theorem d_A_elementData_0 : decode b_A_elementData 0 = .ok (.aload_n 0, 1) := by decide +kernel
theorem d_A_elementData_1 : decode b_A_elementData 1 = .ok (.getfield 9, 3) := by decide +kernel
theorem d_A_elementData_4 : decode b_A_elementData 4 = .ok (.iload_n 1, 1) := by decide +kernel
theorem d_A_elementData_5 : decode b_A_elementData 5 = .ok (.aaload, 1) := by decide +kernel
theorem d_A_elementData_6 : decode b_A_elementData 6 = .ok (.areturn, 1) := by decide +kernel
theorem d_C_constraintsOfProduct_0 : decode b_C_constraintsOfProduct 0 = .ok (.aload_n 0, 1) := by decide +kernel
theorem d_C_constraintsOfProduct_1 : decode b_C_constraintsOfProduct 1 = .ok (.invokevirtual 189, 3) := by decide +kernel
theorem d_C_constraintsOfProduct_4 : decode b_C_constraintsOfProduct 4 = .ok (.ifCond .ne 10, 3) := by decide +kernel
theorem d_C_constraintsOfProduct_7 : decode b_C_constraintsOfProduct 7 = .ok (.aload_n 1, 1) := by decide +kernel
theorem d_C_constraintsOfProduct_8 : decode b_C_constraintsOfProduct 8 = .ok (.invokevirtual 189, 3) := by decide +kernel
theorem d_C_constraintsOfProduct_11 : decode b_C_constraintsOfProduct 11 = .ok (.ifCond .eq 7, 3) := by decide +kernel
theorem d_C_constraintsOfProduct_14 : decode b_C_constraintsOfProduct 14 = .ok (.iconst 0, 1) := by decide +kernel
theorem d_C_constraintsOfProduct_15 : decode b_C_constraintsOfProduct 15 = .ok (.goto 4, 3) := by decide +kernel
theorem d_C_constraintsOfProduct_18 : decode b_C_constraintsOfProduct 18 = .ok (.iconst 1, 1) := by decide +kernel
theorem d_C_constraintsOfProduct_19 : decode b_C_constraintsOfProduct 19 = .ok (.ireturn, 1) := by decide +kernel
theorem d_S_isConstant_0 : decode b_S_isConstant 0 = .ok (.aload_n 0, 1) := by decide +kernel
theorem d_S_isConstant_1 : decode b_S_isConstant 1 = .ok (.invokevirtual 24, 3) := by decide +kernel
theorem d_S_isConstant_4 : decode b_S_isConstant 4 = .ok (.ifCond .ne 7, 3) := by decide +kernel
theorem d_S_isConstant_7 : decode b_S_isConstant 7 = .ok (.iconst 1, 1) := by decide +kernel
theorem d_S_isConstant_8 : decode b_S_isConstant 8 = .ok (.goto 4, 3) := by decide +kernel
theorem d_S_isConstant_11 : decode b_S_isConstant 11 = .ok (.iconst 0, 1) := by decide +kernel
theorem d_S_isConstant_12 : decode b_S_isConstant 12 = .ok (.ireturn, 1) := by decide +kernel
theorem d_S_lastVariable_0 : decode b_S_lastVariable 0 = .ok (.bipush 59, 2) := by decide +kernel
theorem d_S_lastVariable_2 : decode b_S_lastVariable 2 = .ok (.istore_n 1, 1) := by decide +kernel
theorem d_S_lastVariable_3 : decode b_S_lastVariable 3 = .ok (.iload_n 1, 1) := by decide +kernel
theorem d_S_lastVariable_4 : decode b_S_lastVariable 4 = .ok (.ifCond .le 20, 3) := by decide +kernel
theorem d_S_lastVariable_7 : decode b_S_lastVariable 7 = .ok (.aload_n 0, 1) := by decide +kernel
theorem d_S_lastVariable_8 : decode b_S_lastVariable 8 = .ok (.getfield 9, 3) := by decide +kernel
theorem d_S_lastVariable_11 : decode b_S_lastVariable 11 = .ok (.iload_n 1, 1) := by decide +kernel
theorem d_S_lastVariable_12 : decode b_S_lastVariable 12 = .ok (.iaload, 1) := by decide +kernel
theorem d_S_lastVariable_13 : decode b_S_lastVariable 13 = .ok (.ifCond .eq 5, 3) := by decide +kernel
theorem d_S_lastVariable_16 : decode b_S_lastVariable 16 = .ok (.iload_n 1, 1) := by decide +kernel
theorem d_S_lastVariable_17 : decode b_S_lastVariable 17 = .ok (.ireturn, 1) := by decide +kernel
theorem d_S_lastVariable_18 : decode b_S_lastVariable 18 = .ok (.iinc 1 (-1), 3) := by decide +kernel
theorem d_S_lastVariable_21 : decode b_S_lastVariable 21 = .ok (.goto (-18), 3) := by decide +kernel
theorem d_S_lastVariable_24 : decode b_S_lastVariable 24 = .ok (.iconst 0, 1) := by decide +kernel
theorem d_S_lastVariable_25 : decode b_S_lastVariable 25 = .ok (.ireturn, 1) := by decide +kernel
theorem d_C_difference_0 : decode b_C_difference 0 = .ok (.aload_n 0, 1) := by decide +kernel
theorem d_C_difference_1 : decode b_C_difference 1 = .ok (.iload_n 1, 1) := by decide +kernel
theorem d_C_difference_2 : decode b_C_difference 2 = .ok (.invokevirtual 94, 3) := by decide +kernel
theorem d_C_difference_5 : decode b_C_difference 5 = .ok (.aload_n 0, 1) := by decide +kernel
theorem d_C_difference_6 : decode b_C_difference 6 = .ok (.iload_n 2, 1) := by decide +kernel
theorem d_C_difference_7 : decode b_C_difference 7 = .ok (.invokevirtual 94, 3) := by decide +kernel
theorem d_C_difference_10 : decode b_C_difference 10 = .ok (.invokevirtual 97, 3) := by decide +kernel
theorem d_C_difference_13 : decode b_C_difference 13 = .ok (.areturn, 1) := by decide +kernel
theorem d_S_minus_0 : decode b_S_minus 0 = .ok (.aload_n 0, 1) := by decide +kernel
theorem d_S_minus_1 : decode b_S_minus 1 = .ok (.aload_n 1, 1) := by decide +kernel
theorem d_S_minus_2 : decode b_S_minus 2 = .ok (.iconst 1, 1) := by decide +kernel
theorem d_S_minus_3 : decode b_S_minus 3 = .ok (.bipush 96, 2) := by decide +kernel
theorem d_S_minus_5 : decode b_S_minus 5 = .ok (.invokevirtual 16, 3) := by decide +kernel
theorem d_S_minus_8 : decode b_S_minus 8 = .ok (.areturn, 1) := by decide +kernel
theorem d_S_combinedWith_0 : decode b_S_combinedWith 0 = .ok (.new 10, 3) := by decide +kernel
theorem d_S_combinedWith_3 : decode b_S_combinedWith 3 = .ok (.dup, 1) := by decide +kernel
theorem d_S_combinedWith_4 : decode b_S_combinedWith 4 = .ok (.invokespecial 15, 3) := by decide +kernel
theorem d_S_combinedWith_7 : decode b_S_combinedWith 7 = .ok (.astore 4, 2) := by decide +kernel
theorem d_S_combinedWith_9 : decode b_S_combinedWith 9 = .ok (.iconst 0, 1) := by decide +kernel
theorem d_S_combinedWith_10 : decode b_S_combinedWith 10 = .ok (.istore 5, 2) := by decide +kernel
theorem d_S_combinedWith_12 : decode b_S_combinedWith 12 = .ok (.iload 5, 2) := by decide +kernel
theorem d_S_combinedWith_14 : decode b_S_combinedWith 14 = .ok (.bipush 60, 2) := by decide +kernel
theorem d_S_combinedWith_16 : decode b_S_combinedWith 16 = .ok (.if_icmp .ge 39, 3) := by decide +kernel
theorem d_S_combinedWith_19 : decode b_S_combinedWith 19 = .ok (.aload 4, 2) := by decide +kernel
theorem d_S_combinedWith_21 : decode b_S_combinedWith 21 = .ok (.getfield 9, 3) := by decide +kernel
theorem d_S_combinedWith_24 : decode b_S_combinedWith 24 = .ok (.iload 5, 2) := by decide +kernel
theorem d_S_combinedWith_26 : decode b_S_combinedWith 26 = .ok (.iload_n 2, 1) := by decide +kernel
theorem d_S_combinedWith_27 : decode b_S_combinedWith 27 = .ok (.aload_n 0, 1) := by decide +kernel
theorem d_S_combinedWith_28 : decode b_S_combinedWith 28 = .ok (.getfield 9, 3) := by decide +kernel
theorem d_S_combinedWith_31 : decode b_S_combinedWith 31 = .ok (.iload 5, 2) := by decide +kernel
theorem d_S_combinedWith_33 : decode b_S_combinedWith 33 = .ok (.iaload, 1) := by decide +kernel
theorem d_S_combinedWith_34 : decode b_S_combinedWith 34 = .ok (.imul, 1) := by decide +kernel
theorem d_S_combinedWith_35 : decode b_S_combinedWith 35 = .ok (.iload_n 3, 1) := by decide +kernel
theorem d_S_combinedWith_36 : decode b_S_combinedWith 36 = .ok (.aload_n 1, 1) := by decide +kernel
theorem d_S_combinedWith_37 : decode b_S_combinedWith 37 = .ok (.getfield 9, 3) := by decide +kernel
theorem d_S_combinedWith_40 : decode b_S_combinedWith 40 = .ok (.iload 5, 2) := by decide +kernel
theorem d_S_combinedWith_42 : decode b_S_combinedWith 42 = .ok (.iaload, 1) := by decide +kernel
theorem d_S_combinedWith_43 : decode b_S_combinedWith 43 = .ok (.imul, 1) := by decide +kernel
theorem d_S_combinedWith_44 : decode b_S_combinedWith 44 = .ok (.iadd, 1) := by decide +kernel
theorem d_S_combinedWith_45 : decode b_S_combinedWith 45 = .ok (.invokestatic 20, 3) := by decide +kernel
theorem d_S_combinedWith_48 : decode b_S_combinedWith 48 = .ok (.iastore, 1) := by decide +kernel
theorem d_S_combinedWith_49 : decode b_S_combinedWith 49 = .ok (.iinc 5 1, 3) := by decide +kernel
theorem d_S_combinedWith_52 : decode b_S_combinedWith 52 = .ok (.goto (-40), 3) := by decide +kernel
theorem d_S_combinedWith_55 : decode b_S_combinedWith 55 = .ok (.aload 4, 2) := by decide +kernel
theorem d_S_combinedWith_57 : decode b_S_combinedWith 57 = .ok (.areturn, 1) := by decide +kernel
theorem d_C_remainder_0 : decode b_C_remainder 0 = .ok (.iload_n 0, 1) := by decide +kernel
theorem d_C_remainder_1 : decode b_C_remainder 1 = .ok (.bipush 97, 2) := by decide +kernel
theorem d_C_remainder_3 : decode b_C_remainder 3 = .ok (.invokestatic 175, 3) := by decide +kernel
theorem d_C_remainder_6 : decode b_C_remainder 6 = .ok (.ireturn, 1) := by decide +kernel
theorem d_MA_floorMod_0 : decode b_MA_floorMod 0 = .ok (.iload_n 0, 1) := by decide +kernel
theorem d_MA_floorMod_1 : decode b_MA_floorMod 1 = .ok (.iload_n 1, 1) := by decide +kernel
theorem d_MA_floorMod_2 : decode b_MA_floorMod 2 = .ok (.irem, 1) := by decide +kernel
theorem d_MA_floorMod_3 : decode b_MA_floorMod 3 = .ok (.istore_n 2, 1) := by decide +kernel
theorem d_MA_floorMod_4 : decode b_MA_floorMod 4 = .ok (.iload_n 0, 1) := by decide +kernel
theorem d_MA_floorMod_5 : decode b_MA_floorMod 5 = .ok (.iload_n 1, 1) := by decide +kernel
theorem d_MA_floorMod_6 : decode b_MA_floorMod 6 = .ok (.ixor, 1) := by decide +kernel
theorem d_MA_floorMod_7 : decode b_MA_floorMod 7 = .ok (.ifCond .ge 11, 3) := by decide +kernel
theorem d_MA_floorMod_10 : decode b_MA_floorMod 10 = .ok (.iload_n 2, 1) := by decide +kernel
theorem d_MA_floorMod_11 : decode b_MA_floorMod 11 = .ok (.ifCond .eq 7, 3) := by decide +kernel
theorem d_MA_floorMod_14 : decode b_MA_floorMod 14 = .ok (.iload_n 2, 1) := by decide +kernel
theorem d_MA_floorMod_15 : decode b_MA_floorMod 15 = .ok (.iload_n 1, 1) := by decide +kernel
theorem d_MA_floorMod_16 : decode b_MA_floorMod 16 = .ok (.iadd, 1) := by decide +kernel
theorem d_MA_floorMod_17 : decode b_MA_floorMod 17 = .ok (.ireturn, 1) := by decide +kernel
theorem d_MA_floorMod_18 : decode b_MA_floorMod 18 = .ok (.iload_n 2, 1) := by decide +kernel
theorem d_MA_floorMod_19 : decode b_MA_floorMod 19 = .ok (.ireturn, 1) := by decide +kernel
theorem d_C_makeInput_0 : decode b_C_makeInput 0 = .ok (.aload_n 0, 1) := by decide +kernel
theorem d_C_makeInput_1 : decode b_C_makeInput 1 = .ok (.iconst 1, 1) := by decide +kernel
theorem d_C_makeInput_2 : decode b_C_makeInput 2 = .ok (.aload_n 0, 1) := by decide +kernel
theorem d_C_makeInput_3 : decode b_C_makeInput 3 = .ok (.getfield 12, 3) := by decide +kernel
theorem d_C_makeInput_6 : decode b_C_makeInput 6 = .ok (.aload_n 0, 1) := by decide +kernel
theorem d_C_makeInput_7 : decode b_C_makeInput 7 = .ok (.getfield 12, 3) := by decide +kernel
theorem d_C_makeInput_10 : decode b_C_makeInput 10 = .ok (.invokevirtual 195, 3) := by decide +kernel
theorem d_C_makeInput_13 : decode b_C_makeInput 13 = .ok (.istore_n 1, 1) := by decide +kernel
theorem d_C_makeInput_14 : decode b_C_makeInput 14 = .ok (.aload_n 0, 1) := by decide +kernel
theorem d_C_makeInput_15 : decode b_C_makeInput 15 = .ok (.dup, 1) := by decide +kernel
theorem d_C_makeInput_16 : decode b_C_makeInput 16 = .ok (.getfield 172, 3) := by decide +kernel
theorem d_C_makeInput_19 : decode b_C_makeInput 19 = .ok (.iconst 1, 1) := by decide +kernel
theorem d_C_makeInput_20 : decode b_C_makeInput 20 = .ok (.iadd, 1) := by decide +kernel
theorem d_C_makeInput_21 : decode b_C_makeInput 21 = .ok (.putfield 172, 3) := by decide +kernel
theorem d_C_makeInput_24 : decode b_C_makeInput 24 = .ok (.new 69, 3) := by decide +kernel
theorem d_C_makeInput_27 : decode b_C_makeInput 27 = .ok (.dup, 1) := by decide +kernel
theorem d_C_makeInput_28 : decode b_C_makeInput 28 = .ok (.iload_n 1, 1) := by decide +kernel
theorem d_C_makeInput_29 : decode b_C_makeInput 29 = .ok (.invokestatic 16, 3) := by decide +kernel
theorem d_C_makeInput_32 : decode b_C_makeInput 32 = .ok (.iload_n 1, 1) := by decide +kernel
theorem d_C_makeInput_33 : decode b_C_makeInput 33 = .ok (.invokespecial 75, 3) := by decide +kernel
theorem d_C_makeInput_36 : decode b_C_makeInput 36 = .ok (.areturn, 1) := by decide +kernel
theorem d_C_addVariable_0 : decode b_C_addVariable 0 = .ok (.aload_n 0, 1) := by decide +kernel
theorem d_C_addVariable_1 : decode b_C_addVariable 1 = .ok (.getfield 26, 3) := by decide +kernel
theorem d_C_addVariable_4 : decode b_C_addVariable 4 = .ok (.new 43, 3) := by decide +kernel
theorem d_C_addVariable_7 : decode b_C_addVariable 7 = .ok (.dup, 1) := by decide +kernel
theorem d_C_addVariable_8 : decode b_C_addVariable 8 = .ok (.iload_n 1, 1) := by decide +kernel
theorem d_C_addVariable_9 : decode b_C_addVariable 9 = .ok (.aload_n 2, 1) := by decide +kernel
theorem d_C_addVariable_10 : decode b_C_addVariable 10 = .ok (.aload_n 3, 1) := by decide +kernel
theorem d_C_addVariable_11 : decode b_C_addVariable 11 = .ok (.invokespecial 45, 3) := by decide +kernel
theorem d_C_addVariable_14 : decode b_C_addVariable 14 = .ok (.invokevirtual 48, 3) := by decide +kernel
theorem d_C_addVariable_17 : decode b_C_addVariable 17 = .ok (.pop, 1) := by decide +kernel
theorem d_C_addVariable_18 : decode b_C_addVariable 18 = .ok (.aload_n 0, 1) := by decide +kernel
theorem d_C_addVariable_19 : decode b_C_addVariable 19 = .ok (.getfield 26, 3) := by decide +kernel
theorem d_C_addVariable_22 : decode b_C_addVariable 22 = .ok (.invokevirtual 78, 3) := by decide +kernel
theorem d_C_addVariable_25 : decode b_C_addVariable 25 = .ok (.iconst 1, 1) := by decide +kernel
theorem d_C_addVariable_26 : decode b_C_addVariable 26 = .ok (.isub, 1) := by decide +kernel
theorem d_C_addVariable_27 : decode b_C_addVariable 27 = .ok (.ireturn, 1) := by decide +kernel
theorem d_E_init_0 : decode b_E_init 0 = .ok (.aload_n 0, 1) := by decide +kernel
theorem d_E_init_1 : decode b_E_init 1 = .ok (.invokespecial 1, 3) := by decide +kernel
theorem d_E_init_4 : decode b_E_init 4 = .ok (.aload_n 0, 1) := by decide +kernel
theorem d_E_init_5 : decode b_E_init 5 = .ok (.aload_n 1, 1) := by decide +kernel
theorem d_E_init_6 : decode b_E_init 6 = .ok (.putfield 7, 3) := by decide +kernel
theorem d_E_init_9 : decode b_E_init 9 = .ok (.aload_n 0, 1) := by decide +kernel
theorem d_E_init_10 : decode b_E_init 10 = .ok (.iload_n 2, 1) := by decide +kernel
theorem d_E_init_11 : decode b_E_init 11 = .ok (.putfield 13, 3) := by decide +kernel
theorem d_E_init_14 : decode b_E_init 14 = .ok (.return_, 1) := by decide +kernel
theorem d_C_makeSum_0 : decode b_C_makeSum 0 = .ok (.iload_n 1, 1) := by decide +kernel
theorem d_C_makeSum_1 : decode b_C_makeSum 1 = .ok (.tableswitch 158 2 9 #[47, 61, 68, 83, 98, 109, 134, 147], 47) := by decide +kernel
theorem d_C_makeSum_48 : decode b_C_makeSum 48 = .ok (.aload_n 0, 1) := by decide +kernel
theorem d_C_makeSum_49 : decode b_C_makeSum 49 = .ok (.iload_n 2, 1) := by decide +kernel
theorem d_C_makeSum_50 : decode b_C_makeSum 50 = .ok (.invokevirtual 94, 3) := by decide +kernel
theorem d_C_makeSum_53 : decode b_C_makeSum 53 = .ok (.aload_n 0, 1) := by decide +kernel
theorem d_C_makeSum_54 : decode b_C_makeSum 54 = .ok (.iload_n 3, 1) := by decide +kernel
theorem d_C_makeSum_55 : decode b_C_makeSum 55 = .ok (.invokevirtual 94, 3) := by decide +kernel
theorem d_C_makeSum_58 : decode b_C_makeSum 58 = .ok (.invokevirtual 199, 3) := by decide +kernel
theorem d_C_makeSum_61 : decode b_C_makeSum 61 = .ok (.areturn, 1) := by decide +kernel
theorem d_C_makeSum_62 : decode b_C_makeSum 62 = .ok (.aload_n 0, 1) := by decide +kernel
theorem d_C_makeSum_63 : decode b_C_makeSum 63 = .ok (.iload_n 2, 1) := by decide +kernel
theorem d_C_makeSum_64 : decode b_C_makeSum 64 = .ok (.iload_n 3, 1) := by decide +kernel
theorem d_C_makeSum_65 : decode b_C_makeSum 65 = .ok (.invokevirtual 86, 3) := by decide +kernel
theorem d_C_makeSum_68 : decode b_C_makeSum 68 = .ok (.areturn, 1) := by decide +kernel
theorem d_C_makeSum_69 : decode b_C_makeSum 69 = .ok (.aload_n 0, 1) := by decide +kernel
theorem d_C_makeSum_70 : decode b_C_makeSum 70 = .ok (.aload_n 0, 1) := by decide +kernel
theorem d_C_makeSum_71 : decode b_C_makeSum 71 = .ok (.iload_n 2, 1) := by decide +kernel
theorem d_C_makeSum_72 : decode b_C_makeSum 72 = .ok (.invokevirtual 94, 3) := by decide +kernel
theorem d_C_makeSum_75 : decode b_C_makeSum 75 = .ok (.aload_n 0, 1) := by decide +kernel
theorem d_C_makeSum_76 : decode b_C_makeSum 76 = .ok (.iload_n 3, 1) := by decide +kernel
theorem d_C_makeSum_77 : decode b_C_makeSum 77 = .ok (.invokevirtual 94, 3) := by decide +kernel
theorem d_C_makeSum_80 : decode b_C_makeSum 80 = .ok (.invokevirtual 202, 3) := by decide +kernel
theorem d_C_makeSum_83 : decode b_C_makeSum 83 = .ok (.areturn, 1) := by decide +kernel
theorem d_C_makeSum_84 : decode b_C_makeSum 84 = .ok (.aload_n 0, 1) := by decide +kernel
theorem d_C_makeSum_85 : decode b_C_makeSum 85 = .ok (.aload_n 0, 1) := by decide +kernel
theorem d_C_makeSum_86 : decode b_C_makeSum 86 = .ok (.iload_n 2, 1) := by decide +kernel
theorem d_C_makeSum_87 : decode b_C_makeSum 87 = .ok (.invokevirtual 94, 3) := by decide +kernel
theorem d_C_makeSum_90 : decode b_C_makeSum 90 = .ok (.aload_n 0, 1) := by decide +kernel
theorem d_C_makeSum_91 : decode b_C_makeSum 91 = .ok (.iload_n 3, 1) := by decide +kernel
theorem d_C_makeSum_92 : decode b_C_makeSum 92 = .ok (.invokevirtual 94, 3) := by decide +kernel
theorem d_C_makeSum_95 : decode b_C_makeSum 95 = .ok (.invokevirtual 206, 3) := by decide +kernel
theorem d_C_makeSum_98 : decode b_C_makeSum 98 = .ok (.areturn, 1) := by decide +kernel
theorem d_C_makeSum_99 : decode b_C_makeSum 99 = .ok (.aload_n 0, 1) := by decide +kernel
theorem d_C_makeSum_100 : decode b_C_makeSum 100 = .ok (.aload_n 0, 1) := by decide +kernel
theorem d_C_makeSum_101 : decode b_C_makeSum 101 = .ok (.iload_n 2, 1) := by decide +kernel
theorem d_C_makeSum_102 : decode b_C_makeSum 102 = .ok (.iload_n 3, 1) := by decide +kernel
theorem d_C_makeSum_103 : decode b_C_makeSum 103 = .ok (.invokevirtual 86, 3) := by decide +kernel
theorem d_C_makeSum_106 : decode b_C_makeSum 106 = .ok (.invokevirtual 209, 3) := by decide +kernel
theorem d_C_makeSum_109 : decode b_C_makeSum 109 = .ok (.areturn, 1) := by decide +kernel
theorem d_C_makeSum_110 : decode b_C_makeSum 110 = .ok (.aload_n 0, 1) := by decide +kernel
theorem d_C_makeSum_111 : decode b_C_makeSum 111 = .ok (.aload_n 0, 1) := by decide +kernel
theorem d_C_makeSum_112 : decode b_C_makeSum 112 = .ok (.iload 4, 2) := by decide +kernel
theorem d_C_makeSum_114 : decode b_C_makeSum 114 = .ok (.invokevirtual 94, 3) := by decide +kernel
theorem d_C_makeSum_117 : decode b_C_makeSum 117 = .ok (.aload_n 0, 1) := by decide +kernel
theorem d_C_makeSum_118 : decode b_C_makeSum 118 = .ok (.iload_n 2, 1) := by decide +kernel
theorem d_C_makeSum_119 : decode b_C_makeSum 119 = .ok (.iload_n 3, 1) := by decide +kernel
theorem d_C_makeSum_120 : decode b_C_makeSum 120 = .ok (.invokevirtual 86, 3) := by decide +kernel
theorem d_C_makeSum_123 : decode b_C_makeSum 123 = .ok (.invokevirtual 202, 3) := by decide +kernel
theorem d_C_makeSum_126 : decode b_C_makeSum 126 = .ok (.aload_n 0, 1) := by decide +kernel
theorem d_C_makeSum_127 : decode b_C_makeSum 127 = .ok (.iload_n 3, 1) := by decide +kernel
theorem d_C_makeSum_128 : decode b_C_makeSum 128 = .ok (.invokevirtual 94, 3) := by decide +kernel
theorem d_C_makeSum_131 : decode b_C_makeSum 131 = .ok (.invokevirtual 199, 3) := by decide +kernel
theorem d_C_makeSum_134 : decode b_C_makeSum 134 = .ok (.areturn, 1) := by decide +kernel
theorem d_C_makeSum_135 : decode b_C_makeSum 135 = .ok (.aload_n 0, 1) := by decide +kernel
theorem d_C_makeSum_136 : decode b_C_makeSum 136 = .ok (.getfield 20, 3) := by decide +kernel
theorem d_C_makeSum_139 : decode b_C_makeSum 139 = .ok (.aload_n 0, 1) := by decide +kernel
theorem d_C_makeSum_140 : decode b_C_makeSum 140 = .ok (.iload_n 2, 1) := by decide +kernel
theorem d_C_makeSum_141 : decode b_C_makeSum 141 = .ok (.invokevirtual 94, 3) := by decide +kernel
theorem d_C_makeSum_144 : decode b_C_makeSum 144 = .ok (.invokevirtual 97, 3) := by decide +kernel
theorem d_C_makeSum_147 : decode b_C_makeSum 147 = .ok (.areturn, 1) := by decide +kernel
theorem d_C_makeSum_148 : decode b_C_makeSum 148 = .ok (.aload_n 0, 1) := by decide +kernel
theorem d_C_makeSum_149 : decode b_C_makeSum 149 = .ok (.aload_n 0, 1) := by decide +kernel
theorem d_C_makeSum_150 : decode b_C_makeSum 150 = .ok (.iload_n 2, 1) := by decide +kernel
theorem d_C_makeSum_151 : decode b_C_makeSum 151 = .ok (.invokevirtual 94, 3) := by decide +kernel
theorem d_C_makeSum_154 : decode b_C_makeSum 154 = .ok (.iload_n 3, 1) := by decide +kernel
theorem d_C_makeSum_155 : decode b_C_makeSum 155 = .ok (.invokevirtual 212, 3) := by decide +kernel
theorem d_C_makeSum_158 : decode b_C_makeSum 158 = .ok (.areturn, 1) := by decide +kernel
theorem d_C_makeSum_159 : decode b_C_makeSum 159 = .ok (.aload_n 0, 1) := by decide +kernel
theorem d_C_makeSum_160 : decode b_C_makeSum 160 = .ok (.getfield 20, 3) := by decide +kernel
theorem d_C_makeSum_163 : decode b_C_makeSum 163 = .ok (.iload_n 2, 1) := by decide +kernel
theorem d_C_makeSum_164 : decode b_C_makeSum 164 = .ok (.invokestatic 122, 3) := by decide +kernel
theorem d_C_makeSum_167 : decode b_C_makeSum 167 = .ok (.invokevirtual 216, 3) := by decide +kernel
theorem d_C_makeSum_170 : decode b_C_makeSum 170 = .ok (.areturn, 1) := by decide +kernel
theorem d_S_plus_0 : decode b_S_plus 0 = .ok (.aload_n 0, 1) := by decide +kernel
theorem d_S_plus_1 : decode b_S_plus 1 = .ok (.aload_n 1, 1) := by decide +kernel
theorem d_S_plus_2 : decode b_S_plus 2 = .ok (.iconst 1, 1) := by decide +kernel
theorem d_S_plus_3 : decode b_S_plus 3 = .ok (.iconst 1, 1) := by decide +kernel
theorem d_S_plus_4 : decode b_S_plus 4 = .ok (.invokevirtual 16, 3) := by decide +kernel
theorem d_S_plus_7 : decode b_S_plus 7 = .ok (.areturn, 1) := by decide +kernel
theorem d_C_makeProduct_0 : decode b_C_makeProduct 0 = .ok (.aload_n 1, 1) := by decide +kernel
theorem d_C_makeProduct_1 : decode b_C_makeProduct 1 = .ok (.invokevirtual 189, 3) := by decide +kernel
theorem d_C_makeProduct_4 : decode b_C_makeProduct 4 = .ok (.ifCond .eq 14, 3) := by decide +kernel
theorem d_C_makeProduct_7 : decode b_C_makeProduct 7 = .ok (.aload_n 2, 1) := by decide +kernel
theorem d_C_makeProduct_8 : decode b_C_makeProduct 8 = .ok (.aload_n 1, 1) := by decide +kernel
theorem d_C_makeProduct_9 : decode b_C_makeProduct 9 = .ok (.getfield 163, 3) := by decide +kernel
theorem d_C_makeProduct_12 : decode b_C_makeProduct 12 = .ok (.iconst 0, 1) := by decide +kernel
theorem d_C_makeProduct_13 : decode b_C_makeProduct 13 = .ok (.iaload, 1) := by decide +kernel
theorem d_C_makeProduct_14 : decode b_C_makeProduct 14 = .ok (.invokevirtual 216, 3) := by decide +kernel
theorem d_C_makeProduct_17 : decode b_C_makeProduct 17 = .ok (.areturn, 1) := by decide +kernel
theorem d_C_makeProduct_18 : decode b_C_makeProduct 18 = .ok (.aload_n 2, 1) := by decide +kernel
theorem d_C_makeProduct_19 : decode b_C_makeProduct 19 = .ok (.invokevirtual 189, 3) := by decide +kernel
theorem d_C_makeProduct_22 : decode b_C_makeProduct 22 = .ok (.ifCond .eq 14, 3) := by decide +kernel
theorem d_C_makeProduct_25 : decode b_C_makeProduct 25 = .ok (.aload_n 1, 1) := by decide +kernel
theorem d_C_makeProduct_26 : decode b_C_makeProduct 26 = .ok (.aload_n 2, 1) := by decide +kernel
theorem d_C_makeProduct_27 : decode b_C_makeProduct 27 = .ok (.getfield 163, 3) := by decide +kernel
theorem d_C_makeProduct_30 : decode b_C_makeProduct 30 = .ok (.iconst 0, 1) := by decide +kernel
theorem d_C_makeProduct_31 : decode b_C_makeProduct 31 = .ok (.iaload, 1) := by decide +kernel
theorem d_C_makeProduct_32 : decode b_C_makeProduct 32 = .ok (.invokevirtual 216, 3) := by decide +kernel
theorem d_C_makeProduct_35 : decode b_C_makeProduct 35 = .ok (.areturn, 1) := by decide +kernel
theorem d_C_makeProduct_36 : decode b_C_makeProduct 36 = .ok (.aload_n 0, 1) := by decide +kernel
theorem d_C_makeProduct_37 : decode b_C_makeProduct 37 = .ok (.aload_n 1, 1) := by decide +kernel
theorem d_C_makeProduct_38 : decode b_C_makeProduct 38 = .ok (.aload_n 2, 1) := by decide +kernel
theorem d_C_makeProduct_39 : decode b_C_makeProduct 39 = .ok (.invokevirtual 219, 3) := by decide +kernel
theorem d_C_makeProduct_42 : decode b_C_makeProduct 42 = .ok (.areturn, 1) := by decide +kernel
theorem d_S_scaledBy_0 : decode b_S_scaledBy 0 = .ok (.aload_n 0, 1) := by decide +kernel
theorem d_S_scaledBy_1 : decode b_S_scaledBy 1 = .ok (.aload_n 0, 1) := by decide +kernel
theorem d_S_scaledBy_2 : decode b_S_scaledBy 2 = .ok (.iload_n 1, 1) := by decide +kernel
theorem d_S_scaledBy_3 : decode b_S_scaledBy 3 = .ok (.iconst 0, 1) := by decide +kernel
theorem d_S_scaledBy_4 : decode b_S_scaledBy 4 = .ok (.invokevirtual 16, 3) := by decide +kernel
theorem d_S_scaledBy_7 : decode b_S_scaledBy 7 = .ok (.areturn, 1) := by decide +kernel
theorem d_C_makeConstrainedProduct_0 : decode b_C_makeConstrainedProduct 0 = .ok (.aload_n 0, 1) := by decide +kernel
theorem d_C_makeConstrainedProduct_1 : decode b_C_makeConstrainedProduct 1 = .ok (.iconst 2, 1) := by decide +kernel
theorem d_C_makeConstrainedProduct_2 : decode b_C_makeConstrainedProduct 2 = .ok (.aload_n 1, 1) := by decide +kernel
theorem d_C_makeConstrainedProduct_3 : decode b_C_makeConstrainedProduct 3 = .ok (.aload_n 2, 1) := by decide +kernel
theorem d_C_makeConstrainedProduct_4 : decode b_C_makeConstrainedProduct 4 = .ok (.invokevirtual 195, 3) := by decide +kernel
theorem d_C_makeConstrainedProduct_7 : decode b_C_makeConstrainedProduct 7 = .ok (.invokestatic 16, 3) := by decide +kernel
theorem d_C_makeConstrainedProduct_10 : decode b_C_makeConstrainedProduct 10 = .ok (.astore_n 3, 1) := by decide +kernel
theorem d_C_makeConstrainedProduct_11 : decode b_C_makeConstrainedProduct 11 = .ok (.aload_n 0, 1) := by decide +kernel
theorem d_C_makeConstrainedProduct_12 : decode b_C_makeConstrainedProduct 12 = .ok (.aload_n 1, 1) := by decide +kernel
theorem d_C_makeConstrainedProduct_13 : decode b_C_makeConstrainedProduct 13 = .ok (.aload_n 2, 1) := by decide +kernel
theorem d_C_makeConstrainedProduct_14 : decode b_C_makeConstrainedProduct 14 = .ok (.aload_n 3, 1) := by decide +kernel
theorem d_C_makeConstrainedProduct_15 : decode b_C_makeConstrainedProduct 15 = .ok (.invokevirtual 90, 3) := by decide +kernel
theorem d_C_makeConstrainedProduct_18 : decode b_C_makeConstrainedProduct 18 = .ok (.aload_n 3, 1) := by decide +kernel
theorem d_C_makeConstrainedProduct_19 : decode b_C_makeConstrainedProduct 19 = .ok (.areturn, 1) := by decide +kernel
theorem d_C_addConstraint_0 : decode b_C_addConstraint 0 = .ok (.aload_n 0, 1) := by decide +kernel
theorem d_C_addConstraint_1 : decode b_C_addConstraint 1 = .ok (.getfield 33, 3) := by decide +kernel
theorem d_C_addConstraint_4 : decode b_C_addConstraint 4 = .ok (.new 151, 3) := by decide +kernel
theorem d_C_addConstraint_7 : decode b_C_addConstraint 7 = .ok (.dup, 1) := by decide +kernel
theorem d_C_addConstraint_8 : decode b_C_addConstraint 8 = .ok (.aload_n 1, 1) := by decide +kernel
theorem d_C_addConstraint_9 : decode b_C_addConstraint 9 = .ok (.aload_n 2, 1) := by decide +kernel
theorem d_C_addConstraint_10 : decode b_C_addConstraint 10 = .ok (.aload_n 3, 1) := by decide +kernel
theorem d_C_addConstraint_11 : decode b_C_addConstraint 11 = .ok (.invokespecial 222, 3) := by decide +kernel
theorem d_C_addConstraint_14 : decode b_C_addConstraint 14 = .ok (.invokevirtual 48, 3) := by decide +kernel
theorem d_C_addConstraint_17 : decode b_C_addConstraint 17 = .ok (.pop, 1) := by decide +kernel
theorem d_C_addConstraint_18 : decode b_C_addConstraint 18 = .ok (.return_, 1) := by decide +kernel
theorem d_K_init_0 : decode b_K_init 0 = .ok (.aload_n 0, 1) := by decide +kernel
theorem d_K_init_1 : decode b_K_init 1 = .ok (.invokespecial 1, 3) := by decide +kernel
theorem d_K_init_4 : decode b_K_init 4 = .ok (.aload_n 0, 1) := by decide +kernel
theorem d_K_init_5 : decode b_K_init 5 = .ok (.aload_n 1, 1) := by decide +kernel
theorem d_K_init_6 : decode b_K_init 6 = .ok (.putfield 7, 3) := by decide +kernel
theorem d_K_init_9 : decode b_K_init 9 = .ok (.aload_n 0, 1) := by decide +kernel
theorem d_K_init_10 : decode b_K_init 10 = .ok (.aload_n 2, 1) := by decide +kernel
theorem d_K_init_11 : decode b_K_init 11 = .ok (.putfield 13, 3) := by decide +kernel
theorem d_K_init_14 : decode b_K_init 14 = .ok (.aload_n 0, 1) := by decide +kernel
theorem d_K_init_15 : decode b_K_init 15 = .ok (.aload_n 3, 1) := by decide +kernel
theorem d_K_init_16 : decode b_K_init 16 = .ok (.putfield 16, 3) := by decide +kernel
theorem d_K_init_19 : decode b_K_init 19 = .ok (.return_, 1) := by decide +kernel
theorem d_C_makeShare_0 : decode b_C_makeShare 0 = .ok (.aload_n 0, 1) := by decide +kernel
theorem d_C_makeShare_1 : decode b_C_makeShare 1 = .ok (.iconst 3, 1) := by decide +kernel
theorem d_C_makeShare_2 : decode b_C_makeShare 2 = .ok (.aload_n 2, 1) := by decide +kernel
theorem d_C_makeShare_3 : decode b_C_makeShare 3 = .ok (.aload_n 0, 1) := by decide +kernel
theorem d_C_makeShare_4 : decode b_C_makeShare 4 = .ok (.getfield 12, 3) := by decide +kernel
theorem d_C_makeShare_7 : decode b_C_makeShare 7 = .ok (.invokevirtual 195, 3) := by decide +kernel
theorem d_C_makeShare_10 : decode b_C_makeShare 10 = .ok (.invokestatic 16, 3) := by decide +kernel
theorem d_C_makeShare_13 : decode b_C_makeShare 13 = .ok (.astore_n 3, 1) := by decide +kernel
theorem d_C_makeShare_14 : decode b_C_makeShare 14 = .ok (.aload_n 0, 1) := by decide +kernel
theorem d_C_makeShare_15 : decode b_C_makeShare 15 = .ok (.aload_n 2, 1) := by decide +kernel
theorem d_C_makeShare_16 : decode b_C_makeShare 16 = .ok (.aload_n 3, 1) := by decide +kernel
theorem d_C_makeShare_17 : decode b_C_makeShare 17 = .ok (.aload_n 0, 1) := by decide +kernel
theorem d_C_makeShare_18 : decode b_C_makeShare 18 = .ok (.getfield 20, 3) := by decide +kernel
theorem d_C_makeShare_21 : decode b_C_makeShare 21 = .ok (.invokevirtual 90, 3) := by decide +kernel
theorem d_C_makeShare_24 : decode b_C_makeShare 24 = .ok (.aload_n 0, 1) := by decide +kernel
theorem d_C_makeShare_25 : decode b_C_makeShare 25 = .ok (.aload_n 1, 1) := by decide +kernel
theorem d_C_makeShare_26 : decode b_C_makeShare 26 = .ok (.aload_n 3, 1) := by decide +kernel
theorem d_C_makeShare_27 : decode b_C_makeShare 27 = .ok (.invokevirtual 219, 3) := by decide +kernel
theorem d_C_makeShare_30 : decode b_C_makeShare 30 = .ok (.areturn, 1) := by decide +kernel
theorem d_C_makeSame_0 : decode b_C_makeSame 0 = .ok (.aload_n 0, 1) := by decide +kernel
theorem d_C_makeSame_1 : decode b_C_makeSame 1 = .ok (.iconst 4, 1) := by decide +kernel
theorem d_C_makeSame_2 : decode b_C_makeSame 2 = .ok (.aload_n 1, 1) := by decide +kernel
theorem d_C_makeSame_3 : decode b_C_makeSame 3 = .ok (.aload_n 0, 1) := by decide +kernel
theorem d_C_makeSame_4 : decode b_C_makeSame 4 = .ok (.getfield 12, 3) := by decide +kernel
theorem d_C_makeSame_7 : decode b_C_makeSame 7 = .ok (.invokevirtual 195, 3) := by decide +kernel
theorem d_C_makeSame_10 : decode b_C_makeSame 10 = .ok (.invokestatic 16, 3) := by decide +kernel
theorem d_C_makeSame_13 : decode b_C_makeSame 13 = .ok (.astore_n 2, 1) := by decide +kernel
theorem d_C_makeSame_14 : decode b_C_makeSame 14 = .ok (.aload_n 0, 1) := by decide +kernel
theorem d_C_makeSame_15 : decode b_C_makeSame 15 = .ok (.iconst 5, 1) := by decide +kernel
theorem d_C_makeSame_16 : decode b_C_makeSame 16 = .ok (.aload_n 1, 1) := by decide +kernel
theorem d_C_makeSame_17 : decode b_C_makeSame 17 = .ok (.aload_n 0, 1) := by decide +kernel
theorem d_C_makeSame_18 : decode b_C_makeSame 18 = .ok (.getfield 12, 3) := by decide +kernel
theorem d_C_makeSame_21 : decode b_C_makeSame 21 = .ok (.invokevirtual 195, 3) := by decide +kernel
theorem d_C_makeSame_24 : decode b_C_makeSame 24 = .ok (.invokestatic 16, 3) := by decide +kernel
theorem d_C_makeSame_27 : decode b_C_makeSame 27 = .ok (.astore_n 3, 1) := by decide +kernel
theorem d_C_makeSame_28 : decode b_C_makeSame 28 = .ok (.aload_n 0, 1) := by decide +kernel
theorem d_C_makeSame_29 : decode b_C_makeSame 29 = .ok (.aload_n 1, 1) := by decide +kernel
theorem d_C_makeSame_30 : decode b_C_makeSame 30 = .ok (.aload_n 2, 1) := by decide +kernel
theorem d_C_makeSame_31 : decode b_C_makeSame 31 = .ok (.aload_n 0, 1) := by decide +kernel
theorem d_C_makeSame_32 : decode b_C_makeSame 32 = .ok (.getfield 20, 3) := by decide +kernel
theorem d_C_makeSame_35 : decode b_C_makeSame 35 = .ok (.aload_n 3, 1) := by decide +kernel
theorem d_C_makeSame_36 : decode b_C_makeSame 36 = .ok (.invokevirtual 97, 3) := by decide +kernel
theorem d_C_makeSame_39 : decode b_C_makeSame 39 = .ok (.invokevirtual 90, 3) := by decide +kernel
theorem d_C_makeSame_42 : decode b_C_makeSame 42 = .ok (.aload_n 0, 1) := by decide +kernel
theorem d_C_makeSame_43 : decode b_C_makeSame 43 = .ok (.aload_n 1, 1) := by decide +kernel
theorem d_C_makeSame_44 : decode b_C_makeSame 44 = .ok (.aload_n 3, 1) := by decide +kernel
theorem d_C_makeSame_45 : decode b_C_makeSame 45 = .ok (.aload_n 0, 1) := by decide +kernel
theorem d_C_makeSame_46 : decode b_C_makeSame 46 = .ok (.getfield 12, 3) := by decide +kernel
theorem d_C_makeSame_49 : decode b_C_makeSame 49 = .ok (.invokevirtual 90, 3) := by decide +kernel
theorem d_C_makeSame_52 : decode b_C_makeSame 52 = .ok (.aload_n 3, 1) := by decide +kernel
theorem d_C_makeSame_53 : decode b_C_makeSame 53 = .ok (.areturn, 1) := by decide +kernel
theorem d_C_makePower_0 : decode b_C_makePower 0 = .ok (.aload_n 1, 1) := by decide +kernel
theorem d_C_makePower_1 : decode b_C_makePower 1 = .ok (.astore_n 3, 1) := by decide +kernel
theorem d_C_makePower_2 : decode b_C_makePower 2 = .ok (.iconst 1, 1) := by decide +kernel
theorem d_C_makePower_3 : decode b_C_makePower 3 = .ok (.istore 4, 2) := by decide +kernel
theorem d_C_makePower_5 : decode b_C_makePower 5 = .ok (.iload 4, 2) := by decide +kernel
theorem d_C_makePower_7 : decode b_C_makePower 7 = .ok (.iload_n 2, 1) := by decide +kernel
theorem d_C_makePower_8 : decode b_C_makePower 8 = .ok (.if_icmp .ge 16, 3) := by decide +kernel
theorem d_C_makePower_11 : decode b_C_makePower 11 = .ok (.aload_n 0, 1) := by decide +kernel
theorem d_C_makePower_12 : decode b_C_makePower 12 = .ok (.aload_n 3, 1) := by decide +kernel
theorem d_C_makePower_13 : decode b_C_makePower 13 = .ok (.aload_n 1, 1) := by decide +kernel
theorem d_C_makePower_14 : decode b_C_makePower 14 = .ok (.invokevirtual 202, 3) := by decide +kernel
theorem d_C_makePower_17 : decode b_C_makePower 17 = .ok (.astore_n 3, 1) := by decide +kernel
theorem d_C_makePower_18 : decode b_C_makePower 18 = .ok (.iinc 4 1, 3) := by decide +kernel
theorem d_C_makePower_21 : decode b_C_makePower 21 = .ok (.goto (-16), 3) := by decide +kernel
theorem d_C_makePower_24 : decode b_C_makePower 24 = .ok (.aload_n 3, 1) := by decide +kernel
theorem d_C_makePower_25 : decode b_C_makePower 25 = .ok (.areturn, 1) := by decide +kernel
theorem d_L_claim_0 : decode b_L_claim 0 = .ok (.aload 4, 2) := by decide +kernel
theorem d_L_claim_2 : decode b_L_claim 2 = .ok (.iconst 0, 1) := by decide +kernel
theorem d_L_claim_3 : decode b_L_claim 3 = .ok (.aload_n 0, 1) := by decide +kernel
theorem d_L_claim_4 : decode b_L_claim 4 = .ok (.iload_n 1, 1) := by decide +kernel
theorem d_L_claim_5 : decode b_L_claim 5 = .ok (.iload_n 2, 1) := by decide +kernel
theorem d_L_claim_6 : decode b_L_claim 6 = .ok (.iload_n 3, 1) := by decide +kernel
theorem d_L_claim_7 : decode b_L_claim 7 = .ok (.invokevirtual 17, 3) := by decide +kernel
theorem d_L_claim_10 : decode b_L_claim 10 = .ok (.i2l, 1) := by decide +kernel
theorem d_L_claim_11 : decode b_L_claim 11 = .ok (.lastore, 1) := by decide +kernel
theorem d_L_claim_12 : decode b_L_claim 12 = .ok (.goto 11, 3) := by decide +kernel
theorem d_L_claim_15 : decode b_L_claim 15 = .ok (.astore 5, 2) := by decide +kernel
theorem d_L_claim_17 : decode b_L_claim 17 = .ok (.iconst 1, 1) := by decide +kernel
theorem d_L_claim_18 : decode b_L_claim 18 = .ok (.ireturn, 1) := by decide +kernel
theorem d_L_claim_19 : decode b_L_claim 19 = .ok (.astore 5, 2) := by decide +kernel
theorem d_L_claim_21 : decode b_L_claim 21 = .ok (.iconst 2, 1) := by decide +kernel
theorem d_L_claim_22 : decode b_L_claim 22 = .ok (.ireturn, 1) := by decide +kernel
theorem d_L_claim_23 : decode b_L_claim 23 = .ok (.iconst 0, 1) := by decide +kernel
theorem d_L_claim_24 : decode b_L_claim 24 = .ok (.ireturn, 1) := by decide +kernel
theorem d_C_claim_0 : decode b_C_claim 0 = .ok (.iload_n 1, 1) := by decide +kernel
theorem d_C_claim_1 : decode b_C_claim 1 = .ok (.ifCond .eq 8, 3) := by decide +kernel
theorem d_C_claim_4 : decode b_C_claim 4 = .ok (.iload_n 1, 1) := by decide +kernel
theorem d_C_claim_5 : decode b_C_claim 5 = .ok (.iconst 1, 1) := by decide +kernel
theorem d_C_claim_6 : decode b_C_claim 6 = .ok (.if_icmp .ne 23, 3) := by decide +kernel
theorem d_C_claim_9 : decode b_C_claim 9 = .ok (.aload_n 0, 1) := by decide +kernel
theorem d_C_claim_10 : decode b_C_claim 10 = .ok (.iload_n 2, 1) := by decide +kernel
theorem d_C_claim_11 : decode b_C_claim 11 = .ok (.invokevirtual 82, 3) := by decide +kernel
theorem d_C_claim_14 : decode b_C_claim 14 = .ok (.ifCond .eq 15, 3) := by decide +kernel
theorem d_C_claim_17 : decode b_C_claim 17 = .ok (.iload_n 1, 1) := by decide +kernel
theorem d_C_claim_18 : decode b_C_claim 18 = .ok (.ifCond .ne 19, 3) := by decide +kernel
theorem d_C_claim_21 : decode b_C_claim 21 = .ok (.aload_n 0, 1) := by decide +kernel
theorem d_C_claim_22 : decode b_C_claim 22 = .ok (.iload_n 3, 1) := by decide +kernel
theorem d_C_claim_23 : decode b_C_claim 23 = .ok (.invokevirtual 82, 3) := by decide +kernel
theorem d_C_claim_26 : decode b_C_claim 26 = .ok (.ifCond .ne 11, 3) := by decide +kernel
theorem d_C_claim_29 : decode b_C_claim 29 = .ok (.new 56, 3) := by decide +kernel
theorem d_C_claim_32 : decode b_C_claim 32 = .ok (.dup, 1) := by decide +kernel
theorem d_C_claim_33 : decode b_C_claim 33 = .ok (.invokespecial 58, 3) := by decide +kernel
theorem d_C_claim_36 : decode b_C_claim 36 = .ok (.athrow, 1) := by decide +kernel
theorem d_C_claim_37 : decode b_C_claim 37 = .ok (.aload_n 0, 1) := by decide +kernel
theorem d_C_claim_38 : decode b_C_claim 38 = .ok (.getfield 33, 3) := by decide +kernel
theorem d_C_claim_41 : decode b_C_claim 41 = .ok (.invokevirtual 78, 3) := by decide +kernel
theorem d_C_claim_44 : decode b_C_claim 44 = .ok (.bipush 80, 2) := by decide +kernel
theorem d_C_claim_46 : decode b_C_claim 46 = .ok (.if_icmp .lt 11, 3) := by decide +kernel
theorem d_C_claim_49 : decode b_C_claim 49 = .ok (.new 62, 3) := by decide +kernel
theorem d_C_claim_52 : decode b_C_claim 52 = .ok (.dup, 1) := by decide +kernel
theorem d_C_claim_53 : decode b_C_claim 53 = .ok (.invokespecial 64, 3) := by decide +kernel
theorem d_C_claim_56 : decode b_C_claim 56 = .ok (.athrow, 1) := by decide +kernel
theorem d_C_claim_57 : decode b_C_claim 57 = .ok (.iload_n 1, 1) := by decide +kernel
theorem d_C_claim_58 : decode b_C_claim 58 = .ok (.ifCond .ne 24, 3) := by decide +kernel
theorem d_C_claim_61 : decode b_C_claim 61 = .ok (.aload_n 0, 1) := by decide +kernel
theorem d_C_claim_62 : decode b_C_claim 62 = .ok (.aload_n 0, 1) := by decide +kernel
theorem d_C_claim_63 : decode b_C_claim 63 = .ok (.iload_n 2, 1) := by decide +kernel
theorem d_C_claim_64 : decode b_C_claim 64 = .ok (.iload_n 3, 1) := by decide +kernel
theorem d_C_claim_65 : decode b_C_claim 65 = .ok (.invokevirtual 86, 3) := by decide +kernel
theorem d_C_claim_68 : decode b_C_claim 68 = .ok (.aload_n 0, 1) := by decide +kernel
theorem d_C_claim_69 : decode b_C_claim 69 = .ok (.getfield 20, 3) := by decide +kernel
theorem d_C_claim_72 : decode b_C_claim 72 = .ok (.aload_n 0, 1) := by decide +kernel
theorem d_C_claim_73 : decode b_C_claim 73 = .ok (.getfield 12, 3) := by decide +kernel
theorem d_C_claim_76 : decode b_C_claim 76 = .ok (.invokevirtual 90, 3) := by decide +kernel
theorem d_C_claim_79 : decode b_C_claim 79 = .ok (.goto 28, 3) := by decide +kernel
theorem d_C_claim_82 : decode b_C_claim 82 = .ok (.aload_n 0, 1) := by decide +kernel
theorem d_C_claim_83 : decode b_C_claim 83 = .ok (.aload_n 0, 1) := by decide +kernel
theorem d_C_claim_84 : decode b_C_claim 84 = .ok (.iload_n 2, 1) := by decide +kernel
