theorem d_C_coefficient_15 : decode b_C_coefficient 15 = .ok (.new 101, 3) := by decide +kernel
theorem d_C_coefficient_18 : decode b_C_coefficient 18 = .ok (.dup, 1) := by decide +kernel
theorem d_C_coefficient_19 : decode b_C_coefficient 19 = .ok (.invokespecial 103, 3) := by decide +kernel
theorem d_C_coefficient_22 : decode b_C_coefficient 22 = .ok (.athrow, 1) := by decide +kernel
theorem d_C_coefficient_23 : decode b_C_coefficient 23 = .ok (.iload_n 2, 1) := by decide +kernel
theorem d_C_coefficient_24 : decode b_C_coefficient 24 = .ok (.ifCond .lt 15, 3) := by decide +kernel
theorem d_C_coefficient_27 : decode b_C_coefficient 27 = .ok (.iload_n 2, 1) := by decide +kernel
theorem d_C_coefficient_28 : decode b_C_coefficient 28 = .ok (.iconst 2, 1) := by decide +kernel
theorem d_C_coefficient_29 : decode b_C_coefficient 29 = .ok (.if_icmp .gt 10, 3) := by decide +kernel
theorem d_C_coefficient_32 : decode b_C_coefficient 32 = .ok (.iload_n 3, 1) := by decide +kernel
theorem d_C_coefficient_33 : decode b_C_coefficient 33 = .ok (.invokestatic 157, 3) := by decide +kernel
theorem d_C_coefficient_36 : decode b_C_coefficient 36 = .ok (.ifCond .ne 11, 3) := by decide +kernel
theorem d_C_coefficient_39 : decode b_C_coefficient 39 = .ok (.new 56, 3) := by decide +kernel
theorem d_C_coefficient_42 : decode b_C_coefficient 42 = .ok (.dup, 1) := by decide +kernel
theorem d_C_coefficient_43 : decode b_C_coefficient 43 = .ok (.invokespecial 58, 3) := by decide +kernel
theorem d_C_coefficient_46 : decode b_C_coefficient 46 = .ok (.athrow, 1) := by decide +kernel
theorem d_C_coefficient_47 : decode b_C_coefficient 47 = .ok (.aload_n 0, 1) := by decide +kernel
theorem d_C_coefficient_48 : decode b_C_coefficient 48 = .ok (.getfield 33, 3) := by decide +kernel
theorem d_C_coefficient_51 : decode b_C_coefficient 51 = .ok (.iload_n 1, 1) := by decide +kernel
theorem d_C_coefficient_52 : decode b_C_coefficient 52 = .ok (.invokevirtual 104, 3) := by decide +kernel
theorem d_C_coefficient_55 : decode b_C_coefficient 55 = .ok (.checkcast 151, 3) := by decide +kernel
theorem d_C_coefficient_58 : decode b_C_coefficient 58 = .ok (.iload_n 2, 1) := by decide +kernel
theorem d_C_coefficient_59 : decode b_C_coefficient 59 = .ok (.invokevirtual 160, 3) := by decide +kernel
theorem d_C_coefficient_62 : decode b_C_coefficient 62 = .ok (.getfield 163, 3) := by decide +kernel
theorem d_C_coefficient_65 : decode b_C_coefficient 65 = .ok (.iload_n 3, 1) := by decide +kernel
theorem d_C_coefficient_66 : decode b_C_coefficient 66 = .ok (.iaload, 1) := by decide +kernel
theorem d_C_coefficient_67 : decode b_C_coefficient 67 = .ok (.ireturn, 1) := by decide +kernel
theorem d_C_isVariableNumber_0 : decode b_C_isVariableNumber 0 = .ok (.iload_n 0, 1) := by decide +kernel
theorem d_C_isVariableNumber_1 : decode b_C_isVariableNumber 1 = .ok (.ifCond .lt 13, 3) := by decide +kernel
theorem d_C_isVariableNumber_4 : decode b_C_isVariableNumber 4 = .ok (.iload_n 0, 1) := by decide +kernel
theorem d_C_isVariableNumber_5 : decode b_C_isVariableNumber 5 = .ok (.bipush 60, 2) := by decide +kernel
theorem d_C_isVariableNumber_7 : decode b_C_isVariableNumber 7 = .ok (.if_icmp .ge 7, 3) := by decide +kernel
theorem d_C_isVariableNumber_10 : decode b_C_isVariableNumber 10 = .ok (.iconst 1, 1) := by decide +kernel
theorem d_C_isVariableNumber_11 : decode b_C_isVariableNumber 11 = .ok (.goto 4, 3) := by decide +kernel
theorem d_C_isVariableNumber_14 : decode b_C_isVariableNumber 14 = .ok (.iconst 0, 1) := by decide +kernel
theorem d_C_isVariableNumber_15 : decode b_C_isVariableNumber 15 = .ok (.ireturn, 1) := by decide +kernel
theorem d_K_sumAt_0 : decode b_K_sumAt 0 = .ok (.iload_n 1, 1) := by decide +kernel
theorem d_K_sumAt_1 : decode b_K_sumAt 1 = .ok (.lookupswitch 37 #[(0, 27), (1, 32)], 27) := by decide +kernel
theorem d_K_sumAt_28 : decode b_K_sumAt 28 = .ok (.aload_n 0, 1) := by decide +kernel
theorem d_K_sumAt_29 : decode b_K_sumAt 29 = .ok (.getfield 7, 3) := by decide +kernel
theorem d_K_sumAt_32 : decode b_K_sumAt 32 = .ok (.areturn, 1) := by decide +kernel
theorem d_K_sumAt_33 : decode b_K_sumAt 33 = .ok (.aload_n 0, 1) := by decide +kernel
theorem d_K_sumAt_34 : decode b_K_sumAt 34 = .ok (.getfield 13, 3) := by decide +kernel
theorem d_K_sumAt_37 : decode b_K_sumAt 37 = .ok (.areturn, 1) := by decide +kernel
theorem d_K_sumAt_38 : decode b_K_sumAt 38 = .ok (.aload_n 0, 1) := by decide +kernel
theorem d_K_sumAt_39 : decode b_K_sumAt 39 = .ok (.getfield 16, 3) := by decide +kernel
theorem d_K_sumAt_42 : decode b_K_sumAt 42 = .ok (.areturn, 1) := by decide +kernel
theorem d_L_terms_0 : decode b_L_terms 0 = .ok (.aload_n 2, 1) := by decide +kernel
theorem d_L_terms_1 : decode b_L_terms 1 = .ok (.iconst 0, 1) := by decide +kernel
theorem d_L_terms_2 : decode b_L_terms 2 = .ok (.aload_n 0, 1) := by decide +kernel
theorem d_L_terms_3 : decode b_L_terms 3 = .ok (.iload_n 1, 1) := by decide +kernel
theorem d_L_terms_4 : decode b_L_terms 4 = .ok (.invokevirtual 51, 3) := by decide +kernel
theorem d_L_terms_7 : decode b_L_terms 7 = .ok (.i2l, 1) := by decide +kernel
theorem d_L_terms_8 : decode b_L_terms 8 = .ok (.lastore, 1) := by decide +kernel
theorem d_L_terms_9 : decode b_L_terms 9 = .ok (.goto 6, 3) := by decide +kernel
theorem d_L_terms_12 : decode b_L_terms 12 = .ok (.astore_n 3, 1) := by decide +kernel
theorem d_L_terms_13 : decode b_L_terms 13 = .ok (.iconst 1, 1) := by decide +kernel
theorem d_L_terms_14 : decode b_L_terms 14 = .ok (.ireturn, 1) := by decide +kernel
theorem d_L_terms_15 : decode b_L_terms 15 = .ok (.iconst 0, 1) := by decide +kernel
theorem d_L_terms_16 : decode b_L_terms 16 = .ok (.ireturn, 1) := by decide +kernel
theorem d_C_terms_0 : decode b_C_terms 0 = .ok (.aload_n 0, 1) := by decide +kernel
theorem d_C_terms_1 : decode b_C_terms 1 = .ok (.iload_n 1, 1) := by decide +kernel
theorem d_C_terms_2 : decode b_C_terms 2 = .ok (.invokevirtual 82, 3) := by decide +kernel
theorem d_C_terms_5 : decode b_C_terms 5 = .ok (.ifCond .ne 11, 3) := by decide +kernel
theorem d_C_terms_8 : decode b_C_terms 8 = .ok (.new 101, 3) := by decide +kernel
theorem d_C_terms_11 : decode b_C_terms 11 = .ok (.dup, 1) := by decide +kernel
theorem d_C_terms_12 : decode b_C_terms 12 = .ok (.invokespecial 103, 3) := by decide +kernel
theorem d_C_terms_15 : decode b_C_terms 15 = .ok (.athrow, 1) := by decide +kernel
theorem d_C_terms_16 : decode b_C_terms 16 = .ok (.aload_n 0, 1) := by decide +kernel
theorem d_C_terms_17 : decode b_C_terms 17 = .ok (.iload_n 1, 1) := by decide +kernel
theorem d_C_terms_18 : decode b_C_terms 18 = .ok (.invokevirtual 94, 3) := by decide +kernel
theorem d_C_terms_21 : decode b_C_terms 21 = .ok (.invokevirtual 166, 3) := by decide +kernel
theorem d_C_terms_24 : decode b_C_terms 24 = .ok (.ireturn, 1) := by decide +kernel
theorem d_S_howManyTerms_0 : decode b_S_howManyTerms 0 = .ok (.iconst 0, 1) := by decide +kernel
theorem d_S_howManyTerms_1 : decode b_S_howManyTerms 1 = .ok (.istore_n 1, 1) := by decide +kernel
theorem d_S_howManyTerms_2 : decode b_S_howManyTerms 2 = .ok (.iconst 0, 1) := by decide +kernel
theorem d_S_howManyTerms_3 : decode b_S_howManyTerms 3 = .ok (.istore_n 2, 1) := by decide +kernel
theorem d_S_howManyTerms_4 : decode b_S_howManyTerms 4 = .ok (.iload_n 2, 1) := by decide +kernel
theorem d_S_howManyTerms_5 : decode b_S_howManyTerms 5 = .ok (.bipush 60, 2) := by decide +kernel
theorem d_S_howManyTerms_7 : decode b_S_howManyTerms 7 = .ok (.if_icmp .ge 21, 3) := by decide +kernel
theorem d_S_howManyTerms_10 : decode b_S_howManyTerms 10 = .ok (.aload_n 0, 1) := by decide +kernel
theorem d_S_howManyTerms_11 : decode b_S_howManyTerms 11 = .ok (.getfield 9, 3) := by decide +kernel
theorem d_S_howManyTerms_14 : decode b_S_howManyTerms 14 = .ok (.iload_n 2, 1) := by decide +kernel
theorem d_S_howManyTerms_15 : decode b_S_howManyTerms 15 = .ok (.iaload, 1) := by decide +kernel
theorem d_S_howManyTerms_16 : decode b_S_howManyTerms 16 = .ok (.ifCond .eq 6, 3) := by decide +kernel
theorem d_S_howManyTerms_19 : decode b_S_howManyTerms 19 = .ok (.iinc 1 1, 3) := by decide +kernel
theorem d_S_howManyTerms_22 : decode b_S_howManyTerms 22 = .ok (.iinc 2 1, 3) := by decide +kernel
theorem d_S_howManyTerms_25 : decode b_S_howManyTerms 25 = .ok (.goto (-21), 3) := by decide +kernel
theorem d_S_howManyTerms_28 : decode b_S_howManyTerms 28 = .ok (.iload_n 1, 1) := by decide +kernel
theorem d_S_howManyTerms_29 : decode b_S_howManyTerms 29 = .ok (.ireturn, 1) := by decide +kernel
theorem d_L_uses_0 : decode b_L_uses 0 = .ok (.aload_n 2, 1) := by decide +kernel
theorem d_L_uses_1 : decode b_L_uses 1 = .ok (.iconst 0, 1) := by decide +kernel
theorem d_L_uses_2 : decode b_L_uses 2 = .ok (.aload_n 0, 1) := by decide +kernel
theorem d_L_uses_3 : decode b_L_uses 3 = .ok (.iload_n 1, 1) := by decide +kernel
theorem d_L_uses_4 : decode b_L_uses 4 = .ok (.invokevirtual 54, 3) := by decide +kernel
theorem d_L_uses_7 : decode b_L_uses 7 = .ok (.i2l, 1) := by decide +kernel
theorem d_L_uses_8 : decode b_L_uses 8 = .ok (.lastore, 1) := by decide +kernel
theorem d_L_uses_9 : decode b_L_uses 9 = .ok (.goto 6, 3) := by decide +kernel
theorem d_L_uses_12 : decode b_L_uses 12 = .ok (.astore_n 3, 1) := by decide +kernel
theorem d_L_uses_13 : decode b_L_uses 13 = .ok (.iconst 1, 1) := by decide +kernel
theorem d_L_uses_14 : decode b_L_uses 14 = .ok (.ireturn, 1) := by decide +kernel
theorem d_L_uses_15 : decode b_L_uses 15 = .ok (.iconst 0, 1) := by decide +kernel
theorem d_L_uses_16 : decode b_L_uses 16 = .ok (.ireturn, 1) := by decide +kernel
theorem d_C_uses_0 : decode b_C_uses 0 = .ok (.iload_n 1, 1) := by decide +kernel
theorem d_C_uses_1 : decode b_C_uses 1 = .ok (.invokestatic 157, 3) := by decide +kernel
theorem d_C_uses_4 : decode b_C_uses 4 = .ok (.ifCond .ne 11, 3) := by decide +kernel
theorem d_C_uses_7 : decode b_C_uses 7 = .ok (.new 56, 3) := by decide +kernel
theorem d_C_uses_10 : decode b_C_uses 10 = .ok (.dup, 1) := by decide +kernel
theorem d_C_uses_11 : decode b_C_uses 11 = .ok (.invokespecial 58, 3) := by decide +kernel
theorem d_C_uses_14 : decode b_C_uses 14 = .ok (.athrow, 1) := by decide +kernel
theorem d_C_uses_15 : decode b_C_uses 15 = .ok (.iconst 0, 1) := by decide +kernel
theorem d_C_uses_16 : decode b_C_uses 16 = .ok (.istore_n 2, 1) := by decide +kernel
theorem d_C_uses_17 : decode b_C_uses 17 = .ok (.iconst 0, 1) := by decide +kernel
theorem d_C_uses_18 : decode b_C_uses 18 = .ok (.istore_n 3, 1) := by decide +kernel
theorem d_C_uses_19 : decode b_C_uses 19 = .ok (.iload_n 3, 1) := by decide +kernel
theorem d_C_uses_20 : decode b_C_uses 20 = .ok (.aload_n 0, 1) := by decide +kernel
theorem d_C_uses_21 : decode b_C_uses 21 = .ok (.getfield 33, 3) := by decide +kernel
theorem d_C_uses_24 : decode b_C_uses 24 = .ok (.invokevirtual 78, 3) := by decide +kernel
theorem d_C_uses_27 : decode b_C_uses 27 = .ok (.if_icmp .ge 30, 3) := by decide +kernel
theorem d_C_uses_30 : decode b_C_uses 30 = .ok (.aload_n 0, 1) := by decide +kernel
theorem d_C_uses_31 : decode b_C_uses 31 = .ok (.getfield 33, 3) := by decide +kernel
theorem d_C_uses_34 : decode b_C_uses 34 = .ok (.iload_n 3, 1) := by decide +kernel
theorem d_C_uses_35 : decode b_C_uses 35 = .ok (.invokevirtual 104, 3) := by decide +kernel
theorem d_C_uses_38 : decode b_C_uses 38 = .ok (.checkcast 151, 3) := by decide +kernel
theorem d_C_uses_41 : decode b_C_uses 41 = .ok (.iload_n 1, 1) := by decide +kernel
theorem d_C_uses_42 : decode b_C_uses 42 = .ok (.invokevirtual 169, 3) := by decide +kernel
theorem d_C_uses_45 : decode b_C_uses 45 = .ok (.ifCond .eq 6, 3) := by decide +kernel
theorem d_C_uses_48 : decode b_C_uses 48 = .ok (.iinc 2 1, 3) := by decide +kernel
theorem d_C_uses_51 : decode b_C_uses 51 = .ok (.iinc 3 1, 3) := by decide +kernel
theorem d_C_uses_54 : decode b_C_uses 54 = .ok (.goto (-35), 3) := by decide +kernel
theorem d_C_uses_57 : decode b_C_uses 57 = .ok (.iload_n 2, 1) := by decide +kernel
theorem d_C_uses_58 : decode b_C_uses 58 = .ok (.ireturn, 1) := by decide +kernel
theorem d_K_hasVariable_0 : decode b_K_hasVariable 0 = .ok (.aload_n 0, 1) := by decide +kernel
theorem d_K_hasVariable_1 : decode b_K_hasVariable 1 = .ok (.getfield 7, 3) := by decide +kernel
theorem d_K_hasVariable_4 : decode b_K_hasVariable 4 = .ok (.getfield 31, 3) := by decide +kernel
theorem d_K_hasVariable_7 : decode b_K_hasVariable 7 = .ok (.iload_n 1, 1) := by decide +kernel
theorem d_K_hasVariable_8 : decode b_K_hasVariable 8 = .ok (.iaload, 1) := by decide +kernel
theorem d_K_hasVariable_9 : decode b_K_hasVariable 9 = .ok (.ifCond .ne 27, 3) := by decide +kernel
theorem d_K_hasVariable_12 : decode b_K_hasVariable 12 = .ok (.aload_n 0, 1) := by decide +kernel
theorem d_K_hasVariable_13 : decode b_K_hasVariable 13 = .ok (.getfield 13, 3) := by decide +kernel
theorem d_K_hasVariable_16 : decode b_K_hasVariable 16 = .ok (.getfield 31, 3) := by decide +kernel
theorem d_K_hasVariable_19 : decode b_K_hasVariable 19 = .ok (.iload_n 1, 1) := by decide +kernel
theorem d_K_hasVariable_20 : decode b_K_hasVariable 20 = .ok (.iaload, 1) := by decide +kernel
theorem d_K_hasVariable_21 : decode b_K_hasVariable 21 = .ok (.ifCond .ne 15, 3) := by decide +kernel
theorem d_K_hasVariable_24 : decode b_K_hasVariable 24 = .ok (.aload_n 0, 1) := by decide +kernel
theorem d_K_hasVariable_25 : decode b_K_hasVariable 25 = .ok (.getfield 16, 3) := by decide +kernel
theorem d_K_hasVariable_28 : decode b_K_hasVariable 28 = .ok (.getfield 31, 3) := by decide +kernel
theorem d_K_hasVariable_31 : decode b_K_hasVariable 31 = .ok (.iload_n 1, 1) := by decide +kernel
theorem d_K_hasVariable_32 : decode b_K_hasVariable 32 = .ok (.iaload, 1) := by decide +kernel
theorem d_K_hasVariable_33 : decode b_K_hasVariable 33 = .ok (.ifCond .eq 7, 3) := by decide +kernel
theorem d_K_hasVariable_36 : decode b_K_hasVariable 36 = .ok (.iconst 1, 1) := by decide +kernel
theorem d_K_hasVariable_37 : decode b_K_hasVariable 37 = .ok (.goto 4, 3) := by decide +kernel
theorem d_K_hasVariable_40 : decode b_K_hasVariable 40 = .ok (.iconst 0, 1) := by decide +kernel
theorem d_K_hasVariable_41 : decode b_K_hasVariable 41 = .ok (.ireturn, 1) := by decide +kernel
theorem d_L_count_0 : decode b_L_count 0 = .ok (.aload_n 2, 1) := by decide +kernel
theorem d_L_count_1 : decode b_L_count 1 = .ok (.iconst 0, 1) := by decide +kernel
theorem d_L_count_2 : decode b_L_count 2 = .ok (.aload_n 0, 1) := by decide +kernel
theorem d_L_count_3 : decode b_L_count 3 = .ok (.iload_n 1, 1) := by decide +kernel
theorem d_L_count_4 : decode b_L_count 4 = .ok (.invokevirtual 57, 3) := by decide +kernel
theorem d_L_count_7 : decode b_L_count 7 = .ok (.i2l, 1) := by decide +kernel
theorem d_L_count_8 : decode b_L_count 8 = .ok (.lastore, 1) := by decide +kernel
theorem d_L_count_9 : decode b_L_count 9 = .ok (.goto 6, 3) := by decide +kernel
theorem d_L_count_12 : decode b_L_count 12 = .ok (.astore_n 3, 1) := by decide +kernel
theorem d_L_count_13 : decode b_L_count 13 = .ok (.iconst 1, 1) := by decide +kernel
theorem d_L_count_14 : decode b_L_count 14 = .ok (.ireturn, 1) := by decide +kernel
theorem d_L_count_15 : decode b_L_count 15 = .ok (.iconst 0, 1) := by decide +kernel
theorem d_L_count_16 : decode b_L_count 16 = .ok (.ireturn, 1) := by decide +kernel
theorem d_C_count_0 : decode b_C_count 0 = .ok (.iload_n 1, 1) := by decide +kernel
theorem d_C_count_1 : decode b_C_count 1 = .ok (.tableswitch 86 0 5 #[39, 47, 55, 63, 68, 81], 39) := by decide +kernel
theorem d_C_count_40 : decode b_C_count 40 = .ok (.aload_n 0, 1) := by decide +kernel
theorem d_C_count_41 : decode b_C_count 41 = .ok (.getfield 30, 3) := by decide +kernel
theorem d_C_count_44 : decode b_C_count 44 = .ok (.invokevirtual 78, 3) := by decide +kernel
theorem d_C_count_47 : decode b_C_count 47 = .ok (.ireturn, 1) := by decide +kernel
theorem d_C_count_48 : decode b_C_count 48 = .ok (.aload_n 0, 1) := by decide +kernel
theorem d_C_count_49 : decode b_C_count 49 = .ok (.getfield 26, 3) := by decide +kernel
theorem d_C_count_52 : decode b_C_count 52 = .ok (.invokevirtual 78, 3) := by decide +kernel
theorem d_C_count_55 : decode b_C_count 55 = .ok (.ireturn, 1) := by decide +kernel
theorem d_C_count_56 : decode b_C_count 56 = .ok (.aload_n 0, 1) := by decide +kernel
theorem d_C_count_57 : decode b_C_count 57 = .ok (.getfield 33, 3) := by decide +kernel
theorem d_C_count_60 : decode b_C_count 60 = .ok (.invokevirtual 78, 3) := by decide +kernel
theorem d_C_count_63 : decode b_C_count 63 = .ok (.ireturn, 1) := by decide +kernel
theorem d_C_count_64 : decode b_C_count 64 = .ok (.aload_n 0, 1) := by decide +kernel
theorem d_C_count_65 : decode b_C_count 65 = .ok (.getfield 172, 3) := by decide +kernel
theorem d_C_count_68 : decode b_C_count 68 = .ok (.ireturn, 1) := by decide +kernel
theorem d_C_count_69 : decode b_C_count 69 = .ok (.aload_n 0, 1) := by decide +kernel
theorem d_C_count_70 : decode b_C_count 70 = .ok (.invokevirtual 141, 3) := by decide +kernel
theorem d_C_count_73 : decode b_C_count 73 = .ok (.ifCond .eq 7, 3) := by decide +kernel
theorem d_C_count_76 : decode b_C_count 76 = .ok (.iconst 1, 1) := by decide +kernel
theorem d_C_count_77 : decode b_C_count 77 = .ok (.goto 4, 3) := by decide +kernel
theorem d_C_count_80 : decode b_C_count 80 = .ok (.iconst 0, 1) := by decide +kernel
theorem d_C_count_81 : decode b_C_count 81 = .ok (.ireturn, 1) := by decide +kernel
theorem d_C_count_82 : decode b_C_count 82 = .ok (.aload_n 0, 1) := by decide +kernel
theorem d_C_count_83 : decode b_C_count 83 = .ok (.getfield 132, 3) := by decide +kernel
theorem d_C_count_86 : decode b_C_count 86 = .ok (.ireturn, 1) := by decide +kernel
theorem d_C_count_87 : decode b_C_count 87 = .ok (.new 56, 3) := by decide +kernel
theorem d_C_count_90 : decode b_C_count 90 = .ok (.dup, 1) := by decide +kernel
theorem d_C_count_91 : decode b_C_count 91 = .ok (.invokespecial 58, 3) := by decide +kernel
theorem d_C_count_94 : decode b_C_count 94 = .ok (.athrow, 1) := by decide +kernel
theorem d_M_init_0 : decode b_M_init 0 = .ok (.aload_n 0, 1) := by decide +kernel
theorem d_M_init_1 : decode b_M_init 1 = .ok (.invokespecial 1, 3) := by decide +kernel
theorem d_M_init_4 : decode b_M_init 4 = .ok (.aload_n 0, 1) := by decide +kernel
theorem d_M_init_5 : decode b_M_init 5 = .ok (.sipush 3600, 3) := by decide +kernel
theorem d_M_init_8 : decode b_M_init 8 = .ok (.newarray .int, 2) := by decide +kernel
theorem d_M_init_10 : decode b_M_init 10 = .ok (.putfield 7, 3) := by decide +kernel
theorem d_M_init_13 : decode b_M_init 13 = .ok (.aload_n 0, 1) := by decide +kernel
theorem d_M_init_14 : decode b_M_init 14 = .ok (.bipush 60, 2) := by decide +kernel
theorem d_M_init_16 : decode b_M_init 16 = .ok (.newarray .int, 2) := by decide +kernel
theorem d_M_init_18 : decode b_M_init 18 = .ok (.putfield 13, 3) := by decide +kernel
theorem d_M_init_21 : decode b_M_init 21 = .ok (.aload_n 0, 1) := by decide +kernel
theorem d_M_init_22 : decode b_M_init 22 = .ok (.bipush 60, 2) := by decide +kernel
theorem d_M_init_24 : decode b_M_init 24 = .ok (.newarray .int, 2) := by decide +kernel
theorem d_M_init_26 : decode b_M_init 26 = .ok (.putfield 16, 3) := by decide +kernel
theorem d_M_init_29 : decode b_M_init 29 = .ok (.aload_n 0, 1) := by decide +kernel
theorem d_M_init_30 : decode b_M_init 30 = .ok (.bipush 60, 2) := by decide +kernel
theorem d_M_init_32 : decode b_M_init 32 = .ok (.newarray .int, 2) := by decide +kernel
theorem d_M_init_34 : decode b_M_init 34 = .ok (.putfield 19, 3) := by decide +kernel
theorem d_M_init_37 : decode b_M_init 37 = .ok (.aload_n 0, 1) := by decide +kernel
theorem d_M_init_38 : decode b_M_init 38 = .ok (.bipush 60, 2) := by decide +kernel
theorem d_M_init_40 : decode b_M_init 40 = .ok (.newarray .int, 2) := by decide +kernel
theorem d_M_init_42 : decode b_M_init 42 = .ok (.putfield 22, 3) := by decide +kernel
theorem d_M_init_45 : decode b_M_init 45 = .ok (.aload_n 0, 1) := by decide +kernel
theorem d_M_init_46 : decode b_M_init 46 = .ok (.bipush 60, 2) := by decide +kernel
theorem d_M_init_48 : decode b_M_init 48 = .ok (.newarray .int, 2) := by decide +kernel
theorem d_M_init_50 : decode b_M_init 50 = .ok (.putfield 25, 3) := by decide +kernel
theorem d_M_init_53 : decode b_M_init 53 = .ok (.aload_n 0, 1) := by decide +kernel
theorem d_M_init_54 : decode b_M_init 54 = .ok (.iconst 1, 1) := by decide +kernel
theorem d_M_init_55 : decode b_M_init 55 = .ok (.putfield 28, 3) := by decide +kernel
theorem d_M_init_58 : decode b_M_init 58 = .ok (.aload_n 0, 1) := by decide +kernel
theorem d_M_init_59 : decode b_M_init 59 = .ok (.sipush 14400, 3) := by decide +kernel
theorem d_M_init_62 : decode b_M_init 62 = .ok (.newarray .int, 2) := by decide +kernel
theorem d_M_init_64 : decode b_M_init 64 = .ok (.putfield 32, 3) := by decide +kernel
theorem d_M_init_67 : decode b_M_init 67 = .ok (.aload_n 0, 1) := by decide +kernel
theorem d_M_init_68 : decode b_M_init 68 = .ok (.bipush 60, 2) := by decide +kernel
theorem d_M_init_70 : decode b_M_init 70 = .ok (.newarray .int, 2) := by decide +kernel
theorem d_M_init_72 : decode b_M_init 72 = .ok (.putfield 35, 3) := by decide +kernel
theorem d_M_init_75 : decode b_M_init 75 = .ok (.aload_n 0, 1) := by decide +kernel
theorem d_M_init_76 : decode b_M_init 76 = .ok (.bipush 60, 2) := by decide +kernel
theorem d_M_init_78 : decode b_M_init 78 = .ok (.newarray .int, 2) := by decide +kernel
theorem d_M_init_80 : decode b_M_init 80 = .ok (.putfield 38, 3) := by decide +kernel
theorem d_M_init_83 : decode b_M_init 83 = .ok (.aload_n 0, 1) := by decide +kernel
theorem d_M_init_84 : decode b_M_init 84 = .ok (.bipush 60, 2) := by decide +kernel
theorem d_M_init_86 : decode b_M_init 86 = .ok (.newarray .int, 2) := by decide +kernel
theorem d_M_init_88 : decode b_M_init 88 = .ok (.putfield 41, 3) := by decide +kernel
theorem d_M_init_91 : decode b_M_init 91 = .ok (.aload_n 0, 1) := by decide +kernel
theorem d_M_init_92 : decode b_M_init 92 = .ok (.bipush 60, 2) := by decide +kernel
theorem d_M_init_94 : decode b_M_init 94 = .ok (.newarray .int, 2) := by decide +kernel
theorem d_M_init_96 : decode b_M_init 96 = .ok (.putfield 44, 3) := by decide +kernel
theorem d_M_init_99 : decode b_M_init 99 = .ok (.aload_n 0, 1) := by decide +kernel
theorem d_M_init_100 : decode b_M_init 100 = .ok (.bipush 60, 2) := by decide +kernel
theorem d_M_init_102 : decode b_M_init 102 = .ok (.newarray .int, 2) := by decide +kernel
theorem d_M_init_104 : decode b_M_init 104 = .ok (.putfield 47, 3) := by decide +kernel
theorem d_M_init_107 : decode b_M_init 107 = .ok (.return_, 1) := by decide +kernel
theorem d_M_thrown_0 : decode b_M_thrown 0 = .ok (.aload_n 0, 1) := by decide +kernel
theorem d_M_thrown_1 : decode b_M_thrown 1 = .ok (.getfield 50, 3) := by decide +kernel
theorem d_M_thrown_4 : decode b_M_thrown 4 = .ok (.ireturn, 1) := by decide +kernel
theorem d_M_expression_0 : decode b_M_expression 0 = .ok (.aload_n 0, 1) := by decide +kernel
theorem d_M_expression_1 : decode b_M_expression 1 = .ok (.iconst 0, 1) := by decide +kernel
theorem d_M_expression_2 : decode b_M_expression 2 = .ok (.putfield 50, 3) := by decide +kernel
theorem d_M_expression_5 : decode b_M_expression 5 = .ok (.aload_n 0, 1) := by decide +kernel
theorem d_M_expression_6 : decode b_M_expression 6 = .ok (.iload_n 1, 1) := by decide +kernel
theorem d_M_expression_7 : decode b_M_expression 7 = .ok (.iload_n 2, 1) := by decide +kernel
theorem d_M_expression_8 : decode b_M_expression 8 = .ok (.iload_n 3, 1) := by decide +kernel
theorem d_M_expression_9 : decode b_M_expression 9 = .ok (.iload 4, 2) := by decide +kernel
theorem d_M_expression_11 : decode b_M_expression 11 = .ok (.invokevirtual 113, 3) := by decide +kernel
theorem d_M_expression_14 : decode b_M_expression 14 = .ok (.ifCond .ne 9, 3) := by decide +kernel
theorem d_M_expression_17 : decode b_M_expression 17 = .ok (.aload_n 0, 1) := by decide +kernel
theorem d_M_expression_18 : decode b_M_expression 18 = .ok (.iconst 1, 1) := by decide +kernel
theorem d_M_expression_19 : decode b_M_expression 19 = .ok (.invokevirtual 117, 3) := by decide +kernel
theorem d_M_expression_22 : decode b_M_expression 22 = .ok (.ireturn, 1) := by decide +kernel
theorem d_M_expression_23 : decode b_M_expression 23 = .ok (.aload_n 0, 1) := by decide +kernel
theorem d_M_expression_24 : decode b_M_expression 24 = .ok (.iload_n 1, 1) := by decide +kernel
theorem d_M_expression_25 : decode b_M_expression 25 = .ok (.iload_n 2, 1) := by decide +kernel
theorem d_M_expression_26 : decode b_M_expression 26 = .ok (.iload_n 3, 1) := by decide +kernel
theorem d_M_expression_27 : decode b_M_expression 27 = .ok (.iload 4, 2) := by decide +kernel
theorem d_M_expression_29 : decode b_M_expression 29 = .ok (.invokevirtual 120, 3) := by decide +kernel
theorem d_M_expression_32 : decode b_M_expression 32 = .ok (.istore 5, 2) := by decide +kernel
theorem d_M_expression_34 : decode b_M_expression 34 = .ok (.aload_n 0, 1) := by decide +kernel
theorem d_M_expression_35 : decode b_M_expression 35 = .ok (.getfield 53, 3) := by decide +kernel
theorem d_M_expression_38 : decode b_M_expression 38 = .ok (.bipush 60, 2) := by decide +kernel
theorem d_M_expression_40 : decode b_M_expression 40 = .ok (.if_icmp .eq 32, 3) := by decide +kernel
theorem d_M_expression_43 : decode b_M_expression 43 = .ok (.aload_n 0, 1) := by decide +kernel
theorem d_M_expression_44 : decode b_M_expression 44 = .ok (.getfield 28, 3) := by decide +kernel
theorem d_M_expression_47 : decode b_M_expression 47 = .ok (.iload 5, 2) := by decide +kernel
theorem d_M_expression_49 : decode b_M_expression 49 = .ok (.iadd, 1) := by decide +kernel
theorem d_M_expression_50 : decode b_M_expression 50 = .ok (.bipush 60, 2) := by decide +kernel
theorem d_M_expression_52 : decode b_M_expression 52 = .ok (.if_icmp .gt 20, 3) := by decide +kernel
theorem d_M_expression_55 : decode b_M_expression 55 = .ok (.iload_n 1, 1) := by decide +kernel
theorem d_M_expression_56 : decode b_M_expression 56 = .ok (.iconst 1, 1) := by decide +kernel
theorem d_M_expression_57 : decode b_M_expression 57 = .ok (.if_icmp .eq 21, 3) := by decide +kernel
theorem d_M_expression_60 : decode b_M_expression 60 = .ok (.aload_n 0, 1) := by decide +kernel
theorem d_M_expression_61 : decode b_M_expression 61 = .ok (.getfield 72, 3) := by decide +kernel
theorem d_M_expression_64 : decode b_M_expression 64 = .ok (.iload 5, 2) := by decide +kernel
theorem d_M_expression_66 : decode b_M_expression 66 = .ok (.iadd, 1) := by decide +kernel
theorem d_M_expression_67 : decode b_M_expression 67 = .ok (.bipush 80, 2) := by decide +kernel
theorem d_M_expression_69 : decode b_M_expression 69 = .ok (.if_icmp .le 9, 3) := by decide +kernel
theorem d_M_expression_72 : decode b_M_expression 72 = .ok (.aload_n 0, 1) := by decide +kernel
theorem d_M_expression_73 : decode b_M_expression 73 = .ok (.iconst 2, 1) := by decide +kernel
theorem d_M_expression_74 : decode b_M_expression 74 = .ok (.invokevirtual 117, 3) := by decide +kernel
theorem d_M_expression_77 : decode b_M_expression 77 = .ok (.ireturn, 1) := by decide +kernel
theorem d_M_expression_78 : decode b_M_expression 78 = .ok (.aload_n 0, 1) := by decide +kernel
theorem d_M_expression_79 : decode b_M_expression 79 = .ok (.iload_n 1, 1) := by decide +kernel
theorem d_M_expression_80 : decode b_M_expression 80 = .ok (.iload_n 2, 1) := by decide +kernel
theorem d_M_expression_81 : decode b_M_expression 81 = .ok (.iload_n 3, 1) := by decide +kernel
theorem d_M_expression_82 : decode b_M_expression 82 = .ok (.iload 4, 2) := by decide +kernel
theorem d_M_expression_84 : decode b_M_expression 84 = .ok (.invokevirtual 124, 3) := by decide +kernel
theorem d_M_expression_87 : decode b_M_expression 87 = .ok (.aload_n 0, 1) := by decide +kernel
theorem d_M_expression_88 : decode b_M_expression 88 = .ok (.getfield 13, 3) := by decide +kernel
theorem d_M_expression_91 : decode b_M_expression 91 = .ok (.aload_n 0, 1) := by decide +kernel
theorem d_M_expression_92 : decode b_M_expression 92 = .ok (.getfield 53, 3) := by decide +kernel
theorem d_M_expression_95 : decode b_M_expression 95 = .ok (.iload_n 1, 1) := by decide +kernel
theorem d_M_expression_96 : decode b_M_expression 96 = .ok (.iastore, 1) := by decide +kernel
theorem d_M_expression_97 : decode b_M_expression 97 = .ok (.iconst 0, 1) := by decide +kernel
theorem d_M_expression_98 : decode b_M_expression 98 = .ok (.istore 6, 2) := by decide +kernel
theorem d_M_expression_100 : decode b_M_expression 100 = .ok (.iload 6, 2) := by decide +kernel
theorem d_M_expression_102 : decode b_M_expression 102 = .ok (.bipush 60, 2) := by decide +kernel
theorem d_M_expression_104 : decode b_M_expression 104 = .ok (.if_icmp .ge 31, 3) := by decide +kernel
theorem d_M_expression_107 : decode b_M_expression 107 = .ok (.aload_n 0, 1) := by decide +kernel
theorem d_M_expression_108 : decode b_M_expression 108 = .ok (.getfield 7, 3) := by decide +kernel
theorem d_M_expression_111 : decode b_M_expression 111 = .ok (.bipush 60, 2) := by decide +kernel
theorem d_M_expression_113 : decode b_M_expression 113 = .ok (.aload_n 0, 1) := by decide +kernel
theorem d_M_expression_114 : decode b_M_expression 114 = .ok (.getfield 53, 3) := by decide +kernel
theorem d_M_expression_117 : decode b_M_expression 117 = .ok (.imul, 1) := by decide +kernel
theorem d_M_expression_118 : decode b_M_expression 118 = .ok (.iload 6, 2) := by decide +kernel
theorem d_M_expression_120 : decode b_M_expression 120 = .ok (.iadd, 1) := by decide +kernel
theorem d_M_expression_121 : decode b_M_expression 121 = .ok (.aload_n 0, 1) := by decide +kernel
theorem d_M_expression_122 : decode b_M_expression 122 = .ok (.getfield 35, 3) := by decide +kernel
theorem d_M_expression_125 : decode b_M_expression 125 = .ok (.iload 6, 2) := by decide +kernel
theorem d_M_expression_127 : decode b_M_expression 127 = .ok (.iaload, 1) := by decide +kernel
theorem d_M_expression_128 : decode b_M_expression 128 = .ok (.iastore, 1) := by decide +kernel
theorem d_M_expression_129 : decode b_M_expression 129 = .ok (.iinc 6 1, 3) := by decide +kernel
theorem d_M_expression_132 : decode b_M_expression 132 = .ok (.goto (-32), 3) := by decide +kernel
theorem d_M_expression_135 : decode b_M_expression 135 = .ok (.aload_n 0, 1) := by decide +kernel
theorem d_M_expression_136 : decode b_M_expression 136 = .ok (.dup, 1) := by decide +kernel
theorem d_M_expression_137 : decode b_M_expression 137 = .ok (.getfield 53, 3) := by decide +kernel
theorem d_M_expression_140 : decode b_M_expression 140 = .ok (.iconst 1, 1) := by decide +kernel
theorem d_M_expression_141 : decode b_M_expression 141 = .ok (.iadd, 1) := by decide +kernel
theorem d_M_expression_142 : decode b_M_expression 142 = .ok (.putfield 53, 3) := by decide +kernel
theorem d_M_expression_145 : decode b_M_expression 145 = .ok (.aload_n 0, 1) := by decide +kernel
theorem d_M_expression_146 : decode b_M_expression 146 = .ok (.getfield 53, 3) := by decide +kernel
theorem d_M_expression_149 : decode b_M_expression 149 = .ok (.iconst 1, 1) := by decide +kernel
theorem d_M_expression_150 : decode b_M_expression 150 = .ok (.isub, 1) := by decide +kernel
theorem d_M_expression_151 : decode b_M_expression 151 = .ok (.ireturn, 1) := by decide +kernel
theorem d_M_fits_0 : decode b_M_fits 0 = .ok (.iload_n 1, 1) := by decide +kernel
theorem d_M_fits_1 : decode b_M_fits 1 = .ok (.iconst 0, 1) := by decide +kernel
theorem d_M_fits_2 : decode b_M_fits 2 = .ok (.bipush 9, 2) := by decide +kernel
theorem d_M_fits_4 : decode b_M_fits 4 = .ok (.invokestatic 56, 3) := by decide +kernel
theorem d_M_fits_7 : decode b_M_fits 7 = .ok (.ifCond .ne 5, 3) := by decide +kernel
theorem d_M_fits_10 : decode b_M_fits 10 = .ok (.iconst 0, 1) := by decide +kernel
theorem d_M_fits_11 : decode b_M_fits 11 = .ok (.ireturn, 1) := by decide +kernel
theorem d_M_fits_12 : decode b_M_fits 12 = .ok (.iload_n 1, 1) := by decide +kernel
theorem d_M_fits_13 : decode b_M_fits 13 = .ok (.iconst 2, 1) := by decide +kernel
theorem d_M_fits_14 : decode b_M_fits 14 = .ok (.if_icmp .ge 5, 3) := by decide +kernel
theorem d_M_fits_17 : decode b_M_fits 17 = .ok (.iconst 1, 1) := by decide +kernel
theorem d_M_fits_18 : decode b_M_fits 18 = .ok (.ireturn, 1) := by decide +kernel
theorem d_M_fits_19 : decode b_M_fits 19 = .ok (.aload_n 0, 1) := by decide +kernel
theorem d_M_fits_20 : decode b_M_fits 20 = .ok (.iload_n 2, 1) := by decide +kernel
theorem d_M_fits_21 : decode b_M_fits 21 = .ok (.invokevirtual 86, 3) := by decide +kernel
theorem d_M_fits_24 : decode b_M_fits 24 = .ok (.ifCond .eq 32, 3) := by decide +kernel
theorem d_M_fits_27 : decode b_M_fits 27 = .ok (.iload_n 1, 1) := by decide +kernel
theorem d_M_fits_28 : decode b_M_fits 28 = .ok (.bipush 8, 2) := by decide +kernel
theorem d_M_fits_30 : decode b_M_fits 30 = .ok (.if_icmp .ge 11, 3) := by decide +kernel
theorem d_M_fits_33 : decode b_M_fits 33 = .ok (.aload_n 0, 1) := by decide +kernel
theorem d_M_fits_34 : decode b_M_fits 34 = .ok (.iload_n 3, 1) := by decide +kernel
theorem d_M_fits_35 : decode b_M_fits 35 = .ok (.invokevirtual 86, 3) := by decide +kernel
theorem d_M_fits_38 : decode b_M_fits 38 = .ok (.ifCond .eq 18, 3) := by decide +kernel
theorem d_M_fits_41 : decode b_M_fits 41 = .ok (.iload_n 1, 1) := by decide +kernel
theorem d_M_fits_42 : decode b_M_fits 42 = .ok (.bipush 7, 2) := by decide +kernel
theorem d_M_fits_44 : decode b_M_fits 44 = .ok (.if_icmp .ne 14, 3) := by decide +kernel
theorem d_M_fits_47 : decode b_M_fits 47 = .ok (.aload_n 0, 1) := by decide +kernel
theorem d_M_fits_48 : decode b_M_fits 48 = .ok (.iload 4, 2) := by decide +kernel
theorem d_M_fits_50 : decode b_M_fits 50 = .ok (.invokevirtual 86, 3) := by decide +kernel
theorem d_M_fits_53 : decode b_M_fits 53 = .ok (.ifCond .ne 5, 3) := by decide +kernel
theorem d_M_fits_56 : decode b_M_fits 56 = .ok (.iconst 0, 1) := by decide +kernel
theorem d_M_fits_57 : decode b_M_fits 57 = .ok (.ireturn, 1) := by decide +kernel
theorem d_M_fits_58 : decode b_M_fits 58 = .ok (.iload_n 1, 1) := by decide +kernel
theorem d_M_fits_59 : decode b_M_fits 59 = .ok (.bipush 9, 2) := by decide +kernel
theorem d_M_fits_61 : decode b_M_fits 61 = .ok (.if_icmp .ne 12, 3) := by decide +kernel
theorem d_M_fits_64 : decode b_M_fits 64 = .ok (.iload_n 3, 1) := by decide +kernel
theorem d_M_fits_65 : decode b_M_fits 65 = .ok (.iconst 1, 1) := by decide +kernel
theorem d_M_fits_66 : decode b_M_fits 66 = .ok (.iconst 5, 1) := by decide +kernel
theorem d_M_fits_67 : decode b_M_fits 67 = .ok (.invokestatic 56, 3) := by decide +kernel
theorem d_M_fits_70 : decode b_M_fits 70 = .ok (.ifCond .eq 7, 3) := by decide +kernel
theorem d_M_fits_73 : decode b_M_fits 73 = .ok (.iconst 1, 1) := by decide +kernel
theorem d_M_fits_74 : decode b_M_fits 74 = .ok (.goto 4, 3) := by decide +kernel
theorem d_M_fits_77 : decode b_M_fits 77 = .ok (.iconst 0, 1) := by decide +kernel
theorem d_M_fits_78 : decode b_M_fits 78 = .ok (.ireturn, 1) := by decide +kernel
theorem d_M_in_0 : decode b_M_in 0 = .ok (.iload_n 0, 1) := by decide +kernel
theorem d_M_in_1 : decode b_M_in 1 = .ok (.iload_n 1, 1) := by decide +kernel
theorem d_M_in_2 : decode b_M_in 2 = .ok (.if_icmp .lt 12, 3) := by decide +kernel
theorem d_M_in_5 : decode b_M_in 5 = .ok (.iload_n 0, 1) := by decide +kernel
theorem d_M_in_6 : decode b_M_in 6 = .ok (.iload_n 2, 1) := by decide +kernel
theorem d_M_in_7 : decode b_M_in 7 = .ok (.if_icmp .gt 7, 3) := by decide +kernel
theorem d_M_in_10 : decode b_M_in 10 = .ok (.iconst 1, 1) := by decide +kernel
theorem d_M_in_11 : decode b_M_in 11 = .ok (.goto 4, 3) := by decide +kernel
theorem d_M_in_14 : decode b_M_in 14 = .ok (.iconst 0, 1) := by decide +kernel
theorem d_M_in_15 : decode b_M_in 15 = .ok (.ireturn, 1) := by decide +kernel
theorem d_M_made_0 : decode b_M_made 0 = .ok (.iload_n 1, 1) := by decide +kernel
theorem d_M_made_1 : decode b_M_made 1 = .ok (.iconst 0, 1) := by decide +kernel
theorem d_M_made_2 : decode b_M_made 2 = .ok (.aload_n 0, 1) := by decide +kernel
theorem d_M_made_3 : decode b_M_made 3 = .ok (.getfield 53, 3) := by decide +kernel
theorem d_M_made_6 : decode b_M_made 6 = .ok (.iconst 1, 1) := by decide +kernel
theorem d_M_made_7 : decode b_M_made 7 = .ok (.isub, 1) := by decide +kernel
theorem d_M_made_8 : decode b_M_made 8 = .ok (.invokestatic 56, 3) := by decide +kernel
theorem d_M_made_11 : decode b_M_made 11 = .ok (.ireturn, 1) := by decide +kernel
theorem d_M_raise_0 : decode b_M_raise 0 = .ok (.aload_n 0, 1) := by decide +kernel
theorem d_M_raise_1 : decode b_M_raise 1 = .ok (.iload_n 1, 1) := by decide +kernel
theorem d_M_raise_2 : decode b_M_raise 2 = .ok (.putfield 50, 3) := by decide +kernel
theorem d_M_raise_5 : decode b_M_raise 5 = .ok (.iconst 0, 1) := by decide +kernel
theorem d_M_raise_6 : decode b_M_raise 6 = .ok (.ireturn, 1) := by decide +kernel
theorem d_M_needs_0 : decode b_M_needs 0 = .ok (.iload_n 1, 1) := by decide +kernel
theorem d_M_needs_1 : decode b_M_needs 1 = .ok (.tableswitch 110 1 9 #[51, 110, 110, 53, 75, 75, 77, 110, 94], 51) := by decide +kernel
theorem d_M_needs_52 : decode b_M_needs 52 = .ok (.iconst 1, 1) := by decide +kernel
theorem d_M_needs_53 : decode b_M_needs 53 = .ok (.ireturn, 1) := by decide +kernel
theorem d_M_needs_54 : decode b_M_needs 54 = .ok (.aload_n 0, 1) := by decide +kernel
theorem d_M_needs_55 : decode b_M_needs 55 = .ok (.iload_n 2, 1) := by decide +kernel
theorem d_M_needs_56 : decode b_M_needs 56 = .ok (.invokevirtual 94, 3) := by decide +kernel
theorem d_M_needs_59 : decode b_M_needs 59 = .ok (.ifCond .ne 11, 3) := by decide +kernel
theorem d_M_needs_62 : decode b_M_needs 62 = .ok (.aload_n 0, 1) := by decide +kernel
theorem d_M_needs_63 : decode b_M_needs 63 = .ok (.iload_n 3, 1) := by decide +kernel
theorem d_M_needs_64 : decode b_M_needs 64 = .ok (.invokevirtual 94, 3) := by decide +kernel
theorem d_M_needs_67 : decode b_M_needs 67 = .ok (.ifCond .eq 7, 3) := by decide +kernel
theorem d_M_needs_70 : decode b_M_needs 70 = .ok (.iconst 0, 1) := by decide +kernel
theorem d_M_needs_71 : decode b_M_needs 71 = .ok (.goto 4, 3) := by decide +kernel
theorem d_M_needs_74 : decode b_M_needs 74 = .ok (.iconst 1, 1) := by decide +kernel
theorem d_M_needs_75 : decode b_M_needs 75 = .ok (.ireturn, 1) := by decide +kernel
theorem d_M_needs_76 : decode b_M_needs 76 = .ok (.iconst 2, 1) := by decide +kernel
theorem d_M_needs_77 : decode b_M_needs 77 = .ok (.ireturn, 1) := by decide +kernel
theorem d_M_needs_78 : decode b_M_needs 78 = .ok (.aload_n 0, 1) := by decide +kernel
theorem d_M_needs_79 : decode b_M_needs 79 = .ok (.iload_n 2, 1) := by decide +kernel
theorem d_M_needs_80 : decode b_M_needs 80 = .ok (.iload_n 3, 1) := by decide +kernel
theorem d_M_needs_81 : decode b_M_needs 81 = .ok (.iload 4, 2) := by decide +kernel
theorem d_M_needs_83 : decode b_M_needs 83 = .ok (.invokevirtual 97, 3) := by decide +kernel
theorem d_M_needs_86 : decode b_M_needs 86 = .ok (.ifCond .eq 7, 3) := by decide +kernel
theorem d_M_needs_89 : decode b_M_needs 89 = .ok (.iconst 0, 1) := by decide +kernel
theorem d_M_needs_90 : decode b_M_needs 90 = .ok (.goto 4, 3) := by decide +kernel
theorem d_M_needs_93 : decode b_M_needs 93 = .ok (.iconst 1, 1) := by decide +kernel
theorem d_M_needs_94 : decode b_M_needs 94 = .ok (.ireturn, 1) := by decide +kernel
theorem d_M_needs_95 : decode b_M_needs 95 = .ok (.aload_n 0, 1) := by decide +kernel
theorem d_M_needs_96 : decode b_M_needs 96 = .ok (.iload_n 2, 1) := by decide +kernel
theorem d_M_needs_97 : decode b_M_needs 97 = .ok (.invokevirtual 94, 3) := by decide +kernel
theorem d_M_needs_100 : decode b_M_needs 100 = .ok (.ifCond .eq 7, 3) := by decide +kernel
theorem d_M_needs_103 : decode b_M_needs 103 = .ok (.iconst 0, 1) := by decide +kernel
theorem d_M_needs_104 : decode b_M_needs 104 = .ok (.goto 6, 3) := by decide +kernel
theorem d_M_needs_107 : decode b_M_needs 107 = .ok (.iload_n 3, 1) := by decide +kernel
theorem d_M_needs_108 : decode b_M_needs 108 = .ok (.iconst 1, 1) := by decide +kernel
theorem d_M_needs_109 : decode b_M_needs 109 = .ok (.isub, 1) := by decide +kernel
theorem d_M_needs_110 : decode b_M_needs 110 = .ok (.ireturn, 1) := by decide +kernel
theorem d_M_needs_111 : decode b_M_needs 111 = .ok (.iconst 0, 1) := by decide +kernel
theorem d_M_needs_112 : decode b_M_needs 112 = .ok (.ireturn, 1) := by decide +kernel
theorem d_M_isConstant_0 : decode b_M_isConstant 0 = .ok (.iconst 1, 1) := by decide +kernel
theorem d_M_isConstant_1 : decode b_M_isConstant 1 = .ok (.istore_n 2, 1) := by decide +kernel
theorem d_M_isConstant_2 : decode b_M_isConstant 2 = .ok (.iload_n 2, 1) := by decide +kernel
theorem d_M_isConstant_3 : decode b_M_isConstant 3 = .ok (.bipush 60, 2) := by decide +kernel
theorem d_M_isConstant_5 : decode b_M_isConstant 5 = .ok (.if_icmp .ge 25, 3) := by decide +kernel
theorem d_M_isConstant_8 : decode b_M_isConstant 8 = .ok (.aload_n 0, 1) := by decide +kernel
theorem d_M_isConstant_9 : decode b_M_isConstant 9 = .ok (.getfield 7, 3) := by decide +kernel
theorem d_M_isConstant_12 : decode b_M_isConstant 12 = .ok (.bipush 60, 2) := by decide +kernel
theorem d_M_isConstant_14 : decode b_M_isConstant 14 = .ok (.iload_n 1, 1) := by decide +kernel
theorem d_M_isConstant_15 : decode b_M_isConstant 15 = .ok (.imul, 1) := by decide +kernel
theorem d_M_isConstant_16 : decode b_M_isConstant 16 = .ok (.iload_n 2, 1) := by decide +kernel
