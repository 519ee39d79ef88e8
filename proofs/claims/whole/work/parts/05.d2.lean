theorem d_C_claim_85 : decode b_C_claim 85 = .ok (.invokevirtual 94, 3) := by decide +kernel
theorem d_C_claim_88 : decode b_C_claim 88 = .ok (.aload_n 0, 1) := by decide +kernel
theorem d_C_claim_89 : decode b_C_claim 89 = .ok (.getfield 20, 3) := by decide +kernel
theorem d_C_claim_92 : decode b_C_claim 92 = .ok (.aload_n 0, 1) := by decide +kernel
theorem d_C_claim_93 : decode b_C_claim 93 = .ok (.iload_n 2, 1) := by decide +kernel
theorem d_C_claim_94 : decode b_C_claim 94 = .ok (.invokevirtual 94, 3) := by decide +kernel
theorem d_C_claim_97 : decode b_C_claim 97 = .ok (.invokevirtual 97, 3) := by decide +kernel
theorem d_C_claim_100 : decode b_C_claim 100 = .ok (.aload_n 0, 1) := by decide +kernel
theorem d_C_claim_101 : decode b_C_claim 101 = .ok (.getfield 12, 3) := by decide +kernel
theorem d_C_claim_104 : decode b_C_claim 104 = .ok (.invokevirtual 90, 3) := by decide +kernel
theorem d_C_claim_107 : decode b_C_claim 107 = .ok (.aload_n 0, 1) := by decide +kernel
theorem d_C_claim_108 : decode b_C_claim 108 = .ok (.getfield 33, 3) := by decide +kernel
theorem d_C_claim_111 : decode b_C_claim 111 = .ok (.invokevirtual 78, 3) := by decide +kernel
theorem d_C_claim_114 : decode b_C_claim 114 = .ok (.iconst 1, 1) := by decide +kernel
theorem d_C_claim_115 : decode b_C_claim 115 = .ok (.isub, 1) := by decide +kernel
theorem d_C_claim_116 : decode b_C_claim 116 = .ok (.ireturn, 1) := by decide +kernel
theorem d_L_give_0 : decode b_L_give 0 = .ok (.aload_n 3, 1) := by decide +kernel
theorem d_L_give_1 : decode b_L_give 1 = .ok (.iconst 0, 1) := by decide +kernel
theorem d_L_give_2 : decode b_L_give 2 = .ok (.aload_n 0, 1) := by decide +kernel
theorem d_L_give_3 : decode b_L_give 3 = .ok (.iload_n 1, 1) := by decide +kernel
theorem d_L_give_4 : decode b_L_give 4 = .ok (.iload_n 2, 1) := by decide +kernel
theorem d_L_give_5 : decode b_L_give 5 = .ok (.invokevirtual 21, 3) := by decide +kernel
theorem d_L_give_8 : decode b_L_give 8 = .ok (.i2l, 1) := by decide +kernel
theorem d_L_give_9 : decode b_L_give 9 = .ok (.lastore, 1) := by decide +kernel
theorem d_L_give_10 : decode b_L_give 10 = .ok (.goto 11, 3) := by decide +kernel
theorem d_L_give_13 : decode b_L_give 13 = .ok (.astore 4, 2) := by decide +kernel
theorem d_L_give_15 : decode b_L_give 15 = .ok (.iconst 1, 1) := by decide +kernel
theorem d_L_give_16 : decode b_L_give 16 = .ok (.ireturn, 1) := by decide +kernel
theorem d_L_give_17 : decode b_L_give 17 = .ok (.astore 4, 2) := by decide +kernel
theorem d_L_give_19 : decode b_L_give 19 = .ok (.iconst 2, 1) := by decide +kernel
theorem d_L_give_20 : decode b_L_give 20 = .ok (.ireturn, 1) := by decide +kernel
theorem d_L_give_21 : decode b_L_give 21 = .ok (.iconst 0, 1) := by decide +kernel
theorem d_L_give_22 : decode b_L_give 22 = .ok (.ireturn, 1) := by decide +kernel
theorem d_C_give_0 : decode b_C_give 0 = .ok (.aload_n 0, 1) := by decide +kernel
theorem d_C_give_1 : decode b_C_give 1 = .ok (.iload_n 1, 1) := by decide +kernel
theorem d_C_give_2 : decode b_C_give 2 = .ok (.invokevirtual 82, 3) := by decide +kernel
theorem d_C_give_5 : decode b_C_give 5 = .ok (.ifCond .ne 11, 3) := by decide +kernel
theorem d_C_give_8 : decode b_C_give 8 = .ok (.new 101, 3) := by decide +kernel
theorem d_C_give_11 : decode b_C_give 11 = .ok (.dup, 1) := by decide +kernel
theorem d_C_give_12 : decode b_C_give 12 = .ok (.invokespecial 103, 3) := by decide +kernel
theorem d_C_give_15 : decode b_C_give 15 = .ok (.athrow, 1) := by decide +kernel
theorem d_C_give_16 : decode b_C_give 16 = .ok (.aload_n 0, 1) := by decide +kernel
theorem d_C_give_17 : decode b_C_give 17 = .ok (.getfield 30, 3) := by decide +kernel
theorem d_C_give_20 : decode b_C_give 20 = .ok (.iload_n 1, 1) := by decide +kernel
theorem d_C_give_21 : decode b_C_give 21 = .ok (.invokevirtual 104, 3) := by decide +kernel
theorem d_C_give_24 : decode b_C_give 24 = .ok (.checkcast 69, 3) := by decide +kernel
theorem d_C_give_27 : decode b_C_give 27 = .ok (.astore_n 3, 1) := by decide +kernel
theorem d_C_give_28 : decode b_C_give 28 = .ok (.aload_n 3, 1) := by decide +kernel
theorem d_C_give_29 : decode b_C_give 29 = .ok (.invokevirtual 108, 3) := by decide +kernel
theorem d_C_give_32 : decode b_C_give 32 = .ok (.ifCond .ne 11, 3) := by decide +kernel
theorem d_C_give_35 : decode b_C_give 35 = .ok (.new 112, 3) := by decide +kernel
theorem d_C_give_38 : decode b_C_give 38 = .ok (.dup, 1) := by decide +kernel
theorem d_C_give_39 : decode b_C_give 39 = .ok (.invokespecial 114, 3) := by decide +kernel
theorem d_C_give_42 : decode b_C_give 42 = .ok (.athrow, 1) := by decide +kernel
theorem d_C_give_43 : decode b_C_give 43 = .ok (.aload_n 0, 1) := by decide +kernel
theorem d_C_give_44 : decode b_C_give 44 = .ok (.getfield 26, 3) := by decide +kernel
theorem d_C_give_47 : decode b_C_give 47 = .ok (.aload_n 3, 1) := by decide +kernel
theorem d_C_give_48 : decode b_C_give 48 = .ok (.getfield 115, 3) := by decide +kernel
theorem d_C_give_51 : decode b_C_give 51 = .ok (.invokevirtual 104, 3) := by decide +kernel
theorem d_C_give_54 : decode b_C_give 54 = .ok (.checkcast 43, 3) := by decide +kernel
theorem d_C_give_57 : decode b_C_give 57 = .ok (.astore 4, 2) := by decide +kernel
theorem d_C_give_59 : decode b_C_give 59 = .ok (.aload 4, 2) := by decide +kernel
theorem d_C_give_61 : decode b_C_give 61 = .ok (.getfield 119, 3) := by decide +kernel
theorem d_C_give_64 : decode b_C_give 64 = .ok (.istore 5, 2) := by decide +kernel
theorem d_C_give_66 : decode b_C_give 66 = .ok (.aload 4, 2) := by decide +kernel
theorem d_C_give_68 : decode b_C_give 68 = .ok (.iload_n 2, 1) := by decide +kernel
theorem d_C_give_69 : decode b_C_give 69 = .ok (.invokestatic 122, 3) := by decide +kernel
theorem d_C_give_72 : decode b_C_give 72 = .ok (.putfield 119, 3) := by decide +kernel
theorem d_C_give_75 : decode b_C_give 75 = .ok (.iload 5, 2) := by decide +kernel
theorem d_C_give_77 : decode b_C_give 77 = .ok (.ireturn, 1) := by decide +kernel
theorem d_E_isInput_0 : decode b_E_isInput 0 = .ok (.aload_n 0, 1) := by decide +kernel
theorem d_E_isInput_1 : decode b_E_isInput 1 = .ok (.getfield 13, 3) := by decide +kernel
theorem d_E_isInput_4 : decode b_E_isInput 4 = .ok (.ifCond .eq 7, 3) := by decide +kernel
theorem d_E_isInput_7 : decode b_E_isInput 7 = .ok (.iconst 1, 1) := by decide +kernel
theorem d_E_isInput_8 : decode b_E_isInput 8 = .ok (.goto 4, 3) := by decide +kernel
theorem d_E_isInput_11 : decode b_E_isInput 11 = .ok (.iconst 0, 1) := by decide +kernel
theorem d_E_isInput_12 : decode b_E_isInput 12 = .ok (.ireturn, 1) := by decide +kernel
theorem d_L_solve_0 : decode b_L_solve 0 = .ok (.aload_n 1, 1) := by decide +kernel
theorem d_L_solve_1 : decode b_L_solve 1 = .ok (.iconst 0, 1) := by decide +kernel
theorem d_L_solve_2 : decode b_L_solve 2 = .ok (.aload_n 0, 1) := by decide +kernel
theorem d_L_solve_3 : decode b_L_solve 3 = .ok (.invokevirtual 29, 3) := by decide +kernel
theorem d_L_solve_6 : decode b_L_solve 6 = .ok (.i2l, 1) := by decide +kernel
theorem d_L_solve_7 : decode b_L_solve 7 = .ok (.lastore, 1) := by decide +kernel
theorem d_L_solve_8 : decode b_L_solve 8 = .ok (.goto 6, 3) := by decide +kernel
theorem d_L_solve_11 : decode b_L_solve 11 = .ok (.astore_n 2, 1) := by decide +kernel
theorem d_L_solve_12 : decode b_L_solve 12 = .ok (.iconst 1, 1) := by decide +kernel
theorem d_L_solve_13 : decode b_L_solve 13 = .ok (.ireturn, 1) := by decide +kernel
theorem d_L_solve_14 : decode b_L_solve 14 = .ok (.iconst 0, 1) := by decide +kernel
theorem d_L_solve_15 : decode b_L_solve 15 = .ok (.ireturn, 1) := by decide +kernel
theorem d_C_solve_0 : decode b_C_solve 0 = .ok (.aload_n 0, 1) := by decide +kernel
theorem d_C_solve_1 : decode b_C_solve 1 = .ok (.invokevirtual 126, 3) := by decide +kernel
theorem d_C_solve_4 : decode b_C_solve 4 = .ok (.ifCond .ne 11, 3) := by decide +kernel
theorem d_C_solve_7 : decode b_C_solve 7 = .ok (.new 129, 3) := by decide +kernel
theorem d_C_solve_10 : decode b_C_solve 10 = .ok (.dup, 1) := by decide +kernel
theorem d_C_solve_11 : decode b_C_solve 11 = .ok (.invokespecial 131, 3) := by decide +kernel
theorem d_C_solve_14 : decode b_C_solve 14 = .ok (.athrow, 1) := by decide +kernel
theorem d_C_solve_15 : decode b_C_solve 15 = .ok (.aload_n 0, 1) := by decide +kernel
theorem d_C_solve_16 : decode b_C_solve 16 = .ok (.getfield 36, 3) := by decide +kernel
theorem d_C_solve_19 : decode b_C_solve 19 = .ok (.astore_n 1, 1) := by decide +kernel
theorem d_C_solve_20 : decode b_C_solve 20 = .ok (.aload_n 0, 1) := by decide +kernel
theorem d_C_solve_21 : decode b_C_solve 21 = .ok (.aload_n 0, 1) := by decide +kernel
theorem d_C_solve_22 : decode b_C_solve 22 = .ok (.getfield 40, 3) := by decide +kernel
theorem d_C_solve_25 : decode b_C_solve 25 = .ok (.putfield 36, 3) := by decide +kernel
theorem d_C_solve_28 : decode b_C_solve 28 = .ok (.aload_n 0, 1) := by decide +kernel
theorem d_C_solve_29 : decode b_C_solve 29 = .ok (.aload_n 1, 1) := by decide +kernel
theorem d_C_solve_30 : decode b_C_solve 30 = .ok (.putfield 40, 3) := by decide +kernel
theorem d_C_solve_33 : decode b_C_solve 33 = .ok (.aload_n 0, 1) := by decide +kernel
theorem d_C_solve_34 : decode b_C_solve 34 = .ok (.aload_n 0, 1) := by decide +kernel
theorem d_C_solve_35 : decode b_C_solve 35 = .ok (.getfield 26, 3) := by decide +kernel
theorem d_C_solve_38 : decode b_C_solve 38 = .ok (.invokevirtual 78, 3) := by decide +kernel
theorem d_C_solve_41 : decode b_C_solve 41 = .ok (.putfield 132, 3) := by decide +kernel
theorem d_C_solve_44 : decode b_C_solve 44 = .ok (.aload_n 0, 1) := by decide +kernel
theorem d_C_solve_45 : decode b_C_solve 45 = .ok (.aload_n 0, 1) := by decide +kernel
theorem d_C_solve_46 : decode b_C_solve 46 = .ok (.getfield 33, 3) := by decide +kernel
theorem d_C_solve_49 : decode b_C_solve 49 = .ok (.invokevirtual 78, 3) := by decide +kernel
theorem d_C_solve_52 : decode b_C_solve 52 = .ok (.putfield 135, 3) := by decide +kernel
theorem d_C_solve_55 : decode b_C_solve 55 = .ok (.aload_n 0, 1) := by decide +kernel
theorem d_C_solve_56 : decode b_C_solve 56 = .ok (.invokevirtual 138, 3) := by decide +kernel
theorem d_C_solve_59 : decode b_C_solve 59 = .ok (.ireturn, 1) := by decide +kernel
theorem d_C_fillDraft_0 : decode b_C_fillDraft 0 = .ok (.iconst 0, 1) := by decide +kernel
theorem d_C_fillDraft_1 : decode b_C_fillDraft 1 = .ok (.istore_n 1, 1) := by decide +kernel
theorem d_C_fillDraft_2 : decode b_C_fillDraft 2 = .ok (.iload_n 1, 1) := by decide +kernel
theorem d_C_fillDraft_3 : decode b_C_fillDraft 3 = .ok (.aload_n 0, 1) := by decide +kernel
theorem d_C_fillDraft_4 : decode b_C_fillDraft 4 = .ok (.getfield 26, 3) := by decide +kernel
theorem d_C_fillDraft_7 : decode b_C_fillDraft 7 = .ok (.invokevirtual 78, 3) := by decide +kernel
theorem d_C_fillDraft_10 : decode b_C_fillDraft 10 = .ok (.if_icmp .ge 42, 3) := by decide +kernel
theorem d_C_fillDraft_13 : decode b_C_fillDraft 13 = .ok (.aload_n 0, 1) := by decide +kernel
theorem d_C_fillDraft_14 : decode b_C_fillDraft 14 = .ok (.getfield 26, 3) := by decide +kernel
theorem d_C_fillDraft_17 : decode b_C_fillDraft 17 = .ok (.iload_n 1, 1) := by decide +kernel
theorem d_C_fillDraft_18 : decode b_C_fillDraft 18 = .ok (.invokevirtual 104, 3) := by decide +kernel
theorem d_C_fillDraft_21 : decode b_C_fillDraft 21 = .ok (.checkcast 43, 3) := by decide +kernel
theorem d_C_fillDraft_24 : decode b_C_fillDraft 24 = .ok (.aload_n 0, 1) := by decide +kernel
theorem d_C_fillDraft_25 : decode b_C_fillDraft 25 = .ok (.getfield 40, 3) := by decide +kernel
theorem d_C_fillDraft_28 : decode b_C_fillDraft 28 = .ok (.invokevirtual 224, 3) := by decide +kernel
theorem d_C_fillDraft_31 : decode b_C_fillDraft 31 = .ok (.istore_n 2, 1) := by decide +kernel
theorem d_C_fillDraft_32 : decode b_C_fillDraft 32 = .ok (.iload_n 2, 1) := by decide +kernel
theorem d_C_fillDraft_33 : decode b_C_fillDraft 33 = .ok (.iconst (-1), 1) := by decide +kernel
theorem d_C_fillDraft_34 : decode b_C_fillDraft 34 = .ok (.if_icmp .ne 5, 3) := by decide +kernel
theorem d_C_fillDraft_37 : decode b_C_fillDraft 37 = .ok (.iconst 0, 1) := by decide +kernel
theorem d_C_fillDraft_38 : decode b_C_fillDraft 38 = .ok (.ireturn, 1) := by decide +kernel
theorem d_C_fillDraft_39 : decode b_C_fillDraft 39 = .ok (.aload_n 0, 1) := by decide +kernel
theorem d_C_fillDraft_40 : decode b_C_fillDraft 40 = .ok (.getfield 40, 3) := by decide +kernel
theorem d_C_fillDraft_43 : decode b_C_fillDraft 43 = .ok (.iload_n 1, 1) := by decide +kernel
theorem d_C_fillDraft_44 : decode b_C_fillDraft 44 = .ok (.iload_n 2, 1) := by decide +kernel
theorem d_C_fillDraft_45 : decode b_C_fillDraft 45 = .ok (.iastore, 1) := by decide +kernel
theorem d_C_fillDraft_46 : decode b_C_fillDraft 46 = .ok (.iinc 1 1, 3) := by decide +kernel
theorem d_C_fillDraft_49 : decode b_C_fillDraft 49 = .ok (.goto (-47), 3) := by decide +kernel
theorem d_C_fillDraft_52 : decode b_C_fillDraft 52 = .ok (.iconst 1, 1) := by decide +kernel
theorem d_C_fillDraft_53 : decode b_C_fillDraft 53 = .ok (.ireturn, 1) := by decide +kernel
theorem d_V_numberFor_0 : decode b_V_numberFor 0 = .ok (.aload_n 0, 1) := by decide +kernel
theorem d_V_numberFor_1 : decode b_V_numberFor 1 = .ok (.getfield 15, 3) := by decide +kernel
theorem d_V_numberFor_4 : decode b_V_numberFor 4 = .ok (.aload_n 1, 1) := by decide +kernel
theorem d_V_numberFor_5 : decode b_V_numberFor 5 = .ok (.invokevirtual 22, 3) := by decide +kernel
theorem d_V_numberFor_8 : decode b_V_numberFor 8 = .ok (.istore_n 2, 1) := by decide +kernel
theorem d_V_numberFor_9 : decode b_V_numberFor 9 = .ok (.aload_n 0, 1) := by decide +kernel
theorem d_V_numberFor_10 : decode b_V_numberFor 10 = .ok (.getfield 9, 3) := by decide +kernel
theorem d_V_numberFor_13 : decode b_V_numberFor 13 = .ok (.tableswitch 74 0 4 #[35, 37, 42, 56, 69], 35) := by decide +kernel
theorem d_V_numberFor_48 : decode b_V_numberFor 48 = .ok (.iconst 1, 1) := by decide +kernel
theorem d_V_numberFor_49 : decode b_V_numberFor 49 = .ok (.ireturn, 1) := by decide +kernel
theorem d_V_numberFor_50 : decode b_V_numberFor 50 = .ok (.aload_n 0, 1) := by decide +kernel
theorem d_V_numberFor_51 : decode b_V_numberFor 51 = .ok (.getfield 28, 3) := by decide +kernel
theorem d_V_numberFor_54 : decode b_V_numberFor 54 = .ok (.ireturn, 1) := by decide +kernel
theorem d_V_numberFor_55 : decode b_V_numberFor 55 = .ok (.iload_n 2, 1) := by decide +kernel
theorem d_V_numberFor_56 : decode b_V_numberFor 56 = .ok (.aload_n 0, 1) := by decide +kernel
theorem d_V_numberFor_57 : decode b_V_numberFor 57 = .ok (.getfield 19, 3) := by decide +kernel
theorem d_V_numberFor_60 : decode b_V_numberFor 60 = .ok (.aload_n 1, 1) := by decide +kernel
theorem d_V_numberFor_61 : decode b_V_numberFor 61 = .ok (.invokevirtual 22, 3) := by decide +kernel
theorem d_V_numberFor_64 : decode b_V_numberFor 64 = .ok (.imul, 1) := by decide +kernel
theorem d_V_numberFor_65 : decode b_V_numberFor 65 = .ok (.invokestatic 31, 3) := by decide +kernel
theorem d_V_numberFor_68 : decode b_V_numberFor 68 = .ok (.ireturn, 1) := by decide +kernel
theorem d_V_numberFor_69 : decode b_V_numberFor 69 = .ok (.iload_n 2, 1) := by decide +kernel
theorem d_V_numberFor_70 : decode b_V_numberFor 70 = .ok (.ifCond .ne 7, 3) := by decide +kernel
theorem d_V_numberFor_73 : decode b_V_numberFor 73 = .ok (.iconst (-1), 1) := by decide +kernel
theorem d_V_numberFor_74 : decode b_V_numberFor 74 = .ok (.goto 7, 3) := by decide +kernel
theorem d_V_numberFor_77 : decode b_V_numberFor 77 = .ok (.iload_n 2, 1) := by decide +kernel
theorem d_V_numberFor_78 : decode b_V_numberFor 78 = .ok (.invokestatic 35, 3) := by decide +kernel
theorem d_V_numberFor_81 : decode b_V_numberFor 81 = .ok (.ireturn, 1) := by decide +kernel
theorem d_V_numberFor_82 : decode b_V_numberFor 82 = .ok (.iload_n 2, 1) := by decide +kernel
theorem d_V_numberFor_83 : decode b_V_numberFor 83 = .ok (.invokestatic 35, 3) := by decide +kernel
theorem d_V_numberFor_86 : decode b_V_numberFor 86 = .ok (.ireturn, 1) := by decide +kernel
theorem d_V_numberFor_87 : decode b_V_numberFor 87 = .ok (.iload_n 2, 1) := by decide +kernel
theorem d_V_numberFor_88 : decode b_V_numberFor 88 = .ok (.ifCond .ne 7, 3) := by decide +kernel
theorem d_V_numberFor_91 : decode b_V_numberFor 91 = .ok (.iconst 1, 1) := by decide +kernel
theorem d_V_numberFor_92 : decode b_V_numberFor 92 = .ok (.goto 4, 3) := by decide +kernel
theorem d_V_numberFor_95 : decode b_V_numberFor 95 = .ok (.iconst 0, 1) := by decide +kernel
theorem d_V_numberFor_96 : decode b_V_numberFor 96 = .ok (.ireturn, 1) := by decide +kernel
theorem d_S_valueFor_0 : decode b_S_valueFor 0 = .ok (.iconst 0, 1) := by decide +kernel
theorem d_S_valueFor_1 : decode b_S_valueFor 1 = .ok (.istore_n 2, 1) := by decide +kernel
theorem d_S_valueFor_2 : decode b_S_valueFor 2 = .ok (.iconst 0, 1) := by decide +kernel
theorem d_S_valueFor_3 : decode b_S_valueFor 3 = .ok (.istore_n 3, 1) := by decide +kernel
theorem d_S_valueFor_4 : decode b_S_valueFor 4 = .ok (.iload_n 3, 1) := by decide +kernel
theorem d_S_valueFor_5 : decode b_S_valueFor 5 = .ok (.bipush 60, 2) := by decide +kernel
theorem d_S_valueFor_7 : decode b_S_valueFor 7 = .ok (.if_icmp .ge 22, 3) := by decide +kernel
theorem d_S_valueFor_10 : decode b_S_valueFor 10 = .ok (.iload_n 2, 1) := by decide +kernel
theorem d_S_valueFor_11 : decode b_S_valueFor 11 = .ok (.aload_n 0, 1) := by decide +kernel
theorem d_S_valueFor_12 : decode b_S_valueFor 12 = .ok (.getfield 9, 3) := by decide +kernel
theorem d_S_valueFor_15 : decode b_S_valueFor 15 = .ok (.iload_n 3, 1) := by decide +kernel
theorem d_S_valueFor_16 : decode b_S_valueFor 16 = .ok (.iaload, 1) := by decide +kernel
theorem d_S_valueFor_17 : decode b_S_valueFor 17 = .ok (.aload_n 1, 1) := by decide +kernel
theorem d_S_valueFor_18 : decode b_S_valueFor 18 = .ok (.iload_n 3, 1) := by decide +kernel
theorem d_S_valueFor_19 : decode b_S_valueFor 19 = .ok (.iaload, 1) := by decide +kernel
theorem d_S_valueFor_20 : decode b_S_valueFor 20 = .ok (.imul, 1) := by decide +kernel
theorem d_S_valueFor_21 : decode b_S_valueFor 21 = .ok (.iadd, 1) := by decide +kernel
theorem d_S_valueFor_22 : decode b_S_valueFor 22 = .ok (.istore_n 2, 1) := by decide +kernel
theorem d_S_valueFor_23 : decode b_S_valueFor 23 = .ok (.iinc 3 1, 3) := by decide +kernel
theorem d_S_valueFor_26 : decode b_S_valueFor 26 = .ok (.goto (-22), 3) := by decide +kernel
theorem d_S_valueFor_29 : decode b_S_valueFor 29 = .ok (.iload_n 2, 1) := by decide +kernel
theorem d_S_valueFor_30 : decode b_S_valueFor 30 = .ok (.invokestatic 20, 3) := by decide +kernel
theorem d_S_valueFor_33 : decode b_S_valueFor 33 = .ok (.ireturn, 1) := by decide +kernel
theorem d_C_inverseOrZero_0 : decode b_C_inverseOrZero 0 = .ok (.iconst 1, 1) := by decide +kernel
theorem d_C_inverseOrZero_1 : decode b_C_inverseOrZero 1 = .ok (.istore_n 1, 1) := by decide +kernel
theorem d_C_inverseOrZero_2 : decode b_C_inverseOrZero 2 = .ok (.iload_n 1, 1) := by decide +kernel
theorem d_C_inverseOrZero_3 : decode b_C_inverseOrZero 3 = .ok (.bipush 97, 2) := by decide +kernel
theorem d_C_inverseOrZero_5 : decode b_C_inverseOrZero 5 = .ok (.if_icmp .ge 21, 3) := by decide +kernel
theorem d_C_inverseOrZero_8 : decode b_C_inverseOrZero 8 = .ok (.iload_n 0, 1) := by decide +kernel
theorem d_C_inverseOrZero_9 : decode b_C_inverseOrZero 9 = .ok (.iload_n 1, 1) := by decide +kernel
theorem d_C_inverseOrZero_10 : decode b_C_inverseOrZero 10 = .ok (.imul, 1) := by decide +kernel
theorem d_C_inverseOrZero_11 : decode b_C_inverseOrZero 11 = .ok (.bipush 97, 2) := by decide +kernel
theorem d_C_inverseOrZero_13 : decode b_C_inverseOrZero 13 = .ok (.irem, 1) := by decide +kernel
theorem d_C_inverseOrZero_14 : decode b_C_inverseOrZero 14 = .ok (.iconst 1, 1) := by decide +kernel
theorem d_C_inverseOrZero_15 : decode b_C_inverseOrZero 15 = .ok (.if_icmp .ne 5, 3) := by decide +kernel
theorem d_C_inverseOrZero_18 : decode b_C_inverseOrZero 18 = .ok (.iload_n 1, 1) := by decide +kernel
theorem d_C_inverseOrZero_19 : decode b_C_inverseOrZero 19 = .ok (.ireturn, 1) := by decide +kernel
theorem d_C_inverseOrZero_20 : decode b_C_inverseOrZero 20 = .ok (.iinc 1 1, 3) := by decide +kernel
theorem d_C_inverseOrZero_23 : decode b_C_inverseOrZero 23 = .ok (.goto (-21), 3) := by decide +kernel
theorem d_C_inverseOrZero_26 : decode b_C_inverseOrZero 26 = .ok (.iconst 0, 1) := by decide +kernel
theorem d_C_inverseOrZero_27 : decode b_C_inverseOrZero 27 = .ok (.ireturn, 1) := by decide +kernel
theorem d_C_howManyBroken_0 : decode b_C_howManyBroken 0 = .ok (.iconst 0, 1) := by decide +kernel
theorem d_C_howManyBroken_1 : decode b_C_howManyBroken 1 = .ok (.istore_n 1, 1) := by decide +kernel
theorem d_C_howManyBroken_2 : decode b_C_howManyBroken 2 = .ok (.iconst 0, 1) := by decide +kernel
theorem d_C_howManyBroken_3 : decode b_C_howManyBroken 3 = .ok (.istore_n 2, 1) := by decide +kernel
theorem d_C_howManyBroken_4 : decode b_C_howManyBroken 4 = .ok (.iload_n 2, 1) := by decide +kernel
theorem d_C_howManyBroken_5 : decode b_C_howManyBroken 5 = .ok (.aload_n 0, 1) := by decide +kernel
theorem d_C_howManyBroken_6 : decode b_C_howManyBroken 6 = .ok (.getfield 135, 3) := by decide +kernel
theorem d_C_howManyBroken_9 : decode b_C_howManyBroken 9 = .ok (.if_icmp .ge 33, 3) := by decide +kernel
theorem d_C_howManyBroken_12 : decode b_C_howManyBroken 12 = .ok (.aload_n 0, 1) := by decide +kernel
theorem d_C_howManyBroken_13 : decode b_C_howManyBroken 13 = .ok (.getfield 33, 3) := by decide +kernel
theorem d_C_howManyBroken_16 : decode b_C_howManyBroken 16 = .ok (.iload_n 2, 1) := by decide +kernel
theorem d_C_howManyBroken_17 : decode b_C_howManyBroken 17 = .ok (.invokevirtual 104, 3) := by decide +kernel
theorem d_C_howManyBroken_20 : decode b_C_howManyBroken 20 = .ok (.checkcast 151, 3) := by decide +kernel
theorem d_C_howManyBroken_23 : decode b_C_howManyBroken 23 = .ok (.aload_n 0, 1) := by decide +kernel
theorem d_C_howManyBroken_24 : decode b_C_howManyBroken 24 = .ok (.getfield 36, 3) := by decide +kernel
theorem d_C_howManyBroken_27 : decode b_C_howManyBroken 27 = .ok (.invokevirtual 153, 3) := by decide +kernel
theorem d_C_howManyBroken_30 : decode b_C_howManyBroken 30 = .ok (.ifCond .ne 6, 3) := by decide +kernel
theorem d_C_howManyBroken_33 : decode b_C_howManyBroken 33 = .ok (.iinc 1 1, 3) := by decide +kernel
theorem d_C_howManyBroken_36 : decode b_C_howManyBroken 36 = .ok (.iinc 2 1, 3) := by decide +kernel
theorem d_C_howManyBroken_39 : decode b_C_howManyBroken 39 = .ok (.goto (-35), 3) := by decide +kernel
theorem d_C_howManyBroken_42 : decode b_C_howManyBroken 42 = .ok (.iload_n 1, 1) := by decide +kernel
theorem d_C_howManyBroken_43 : decode b_C_howManyBroken 43 = .ok (.ireturn, 1) := by decide +kernel
theorem d_K_holdsFor_0 : decode b_K_holdsFor 0 = .ok (.aload_n 0, 1) := by decide +kernel
theorem d_K_holdsFor_1 : decode b_K_holdsFor 1 = .ok (.getfield 7, 3) := by decide +kernel
theorem d_K_holdsFor_4 : decode b_K_holdsFor 4 = .ok (.aload_n 1, 1) := by decide +kernel
theorem d_K_holdsFor_5 : decode b_K_holdsFor 5 = .ok (.invokevirtual 19, 3) := by decide +kernel
theorem d_K_holdsFor_8 : decode b_K_holdsFor 8 = .ok (.aload_n 0, 1) := by decide +kernel
theorem d_K_holdsFor_9 : decode b_K_holdsFor 9 = .ok (.getfield 13, 3) := by decide +kernel
theorem d_K_holdsFor_12 : decode b_K_holdsFor 12 = .ok (.aload_n 1, 1) := by decide +kernel
theorem d_K_holdsFor_13 : decode b_K_holdsFor 13 = .ok (.invokevirtual 19, 3) := by decide +kernel
theorem d_K_holdsFor_16 : decode b_K_holdsFor 16 = .ok (.imul, 1) := by decide +kernel
theorem d_K_holdsFor_17 : decode b_K_holdsFor 17 = .ok (.invokestatic 25, 3) := by decide +kernel
theorem d_K_holdsFor_20 : decode b_K_holdsFor 20 = .ok (.aload_n 0, 1) := by decide +kernel
theorem d_K_holdsFor_21 : decode b_K_holdsFor 21 = .ok (.getfield 16, 3) := by decide +kernel
theorem d_K_holdsFor_24 : decode b_K_holdsFor 24 = .ok (.aload_n 1, 1) := by decide +kernel
theorem d_K_holdsFor_25 : decode b_K_holdsFor 25 = .ok (.invokevirtual 19, 3) := by decide +kernel
theorem d_K_holdsFor_28 : decode b_K_holdsFor 28 = .ok (.if_icmp .ne 7, 3) := by decide +kernel
theorem d_K_holdsFor_31 : decode b_K_holdsFor 31 = .ok (.iconst 1, 1) := by decide +kernel
theorem d_K_holdsFor_32 : decode b_K_holdsFor 32 = .ok (.goto 4, 3) := by decide +kernel
theorem d_K_holdsFor_35 : decode b_K_holdsFor 35 = .ok (.iconst 0, 1) := by decide +kernel
theorem d_K_holdsFor_36 : decode b_K_holdsFor 36 = .ok (.ireturn, 1) := by decide +kernel
theorem d_L_value_0 : decode b_L_value 0 = .ok (.aload_n 2, 1) := by decide +kernel
theorem d_L_value_1 : decode b_L_value 1 = .ok (.iconst 0, 1) := by decide +kernel
theorem d_L_value_2 : decode b_L_value 2 = .ok (.aload_n 0, 1) := by decide +kernel
theorem d_L_value_3 : decode b_L_value 3 = .ok (.iload_n 1, 1) := by decide +kernel
theorem d_L_value_4 : decode b_L_value 4 = .ok (.invokevirtual 35, 3) := by decide +kernel
theorem d_L_value_7 : decode b_L_value 7 = .ok (.i2l, 1) := by decide +kernel
theorem d_L_value_8 : decode b_L_value 8 = .ok (.lastore, 1) := by decide +kernel
theorem d_L_value_9 : decode b_L_value 9 = .ok (.goto 9, 3) := by decide +kernel
theorem d_L_value_12 : decode b_L_value 12 = .ok (.astore_n 3, 1) := by decide +kernel
theorem d_L_value_13 : decode b_L_value 13 = .ok (.iconst 1, 1) := by decide +kernel
theorem d_L_value_14 : decode b_L_value 14 = .ok (.ireturn, 1) := by decide +kernel
theorem d_L_value_15 : decode b_L_value 15 = .ok (.astore_n 3, 1) := by decide +kernel
theorem d_L_value_16 : decode b_L_value 16 = .ok (.iconst 2, 1) := by decide +kernel
theorem d_L_value_17 : decode b_L_value 17 = .ok (.ireturn, 1) := by decide +kernel
theorem d_L_value_18 : decode b_L_value 18 = .ok (.iconst 0, 1) := by decide +kernel
theorem d_L_value_19 : decode b_L_value 19 = .ok (.ireturn, 1) := by decide +kernel
theorem d_C_value_0 : decode b_C_value 0 = .ok (.aload_n 0, 1) := by decide +kernel
theorem d_C_value_1 : decode b_C_value 1 = .ok (.iload_n 1, 1) := by decide +kernel
theorem d_C_value_2 : decode b_C_value 2 = .ok (.invokevirtual 82, 3) := by decide +kernel
theorem d_C_value_5 : decode b_C_value 5 = .ok (.ifCond .ne 11, 3) := by decide +kernel
theorem d_C_value_8 : decode b_C_value 8 = .ok (.new 101, 3) := by decide +kernel
theorem d_C_value_11 : decode b_C_value 11 = .ok (.dup, 1) := by decide +kernel
theorem d_C_value_12 : decode b_C_value 12 = .ok (.invokespecial 103, 3) := by decide +kernel
theorem d_C_value_15 : decode b_C_value 15 = .ok (.athrow, 1) := by decide +kernel
theorem d_C_value_16 : decode b_C_value 16 = .ok (.aload_n 0, 1) := by decide +kernel
theorem d_C_value_17 : decode b_C_value 17 = .ok (.iload_n 1, 1) := by decide +kernel
theorem d_C_value_18 : decode b_C_value 18 = .ok (.invokevirtual 94, 3) := by decide +kernel
theorem d_C_value_21 : decode b_C_value 21 = .ok (.astore_n 2, 1) := by decide +kernel
theorem d_C_value_22 : decode b_C_value 22 = .ok (.aload_n 0, 1) := by decide +kernel
theorem d_C_value_23 : decode b_C_value 23 = .ok (.invokevirtual 141, 3) := by decide +kernel
theorem d_C_value_26 : decode b_C_value 26 = .ok (.ifCond .eq 14, 3) := by decide +kernel
theorem d_C_value_29 : decode b_C_value 29 = .ok (.aload_n 2, 1) := by decide +kernel
theorem d_C_value_30 : decode b_C_value 30 = .ok (.invokevirtual 144, 3) := by decide +kernel
theorem d_C_value_33 : decode b_C_value 33 = .ok (.aload_n 0, 1) := by decide +kernel
theorem d_C_value_34 : decode b_C_value 34 = .ok (.getfield 132, 3) := by decide +kernel
theorem d_C_value_37 : decode b_C_value 37 = .ok (.if_icmp .lt 11, 3) := by decide +kernel
theorem d_C_value_40 : decode b_C_value 40 = .ok (.new 62, 3) := by decide +kernel
theorem d_C_value_43 : decode b_C_value 43 = .ok (.dup, 1) := by decide +kernel
theorem d_C_value_44 : decode b_C_value 44 = .ok (.invokespecial 64, 3) := by decide +kernel
theorem d_C_value_47 : decode b_C_value 47 = .ok (.athrow, 1) := by decide +kernel
theorem d_C_value_48 : decode b_C_value 48 = .ok (.aload_n 2, 1) := by decide +kernel
theorem d_C_value_49 : decode b_C_value 49 = .ok (.aload_n 0, 1) := by decide +kernel
theorem d_C_value_50 : decode b_C_value 50 = .ok (.getfield 36, 3) := by decide +kernel
theorem d_C_value_53 : decode b_C_value 53 = .ok (.invokevirtual 147, 3) := by decide +kernel
theorem d_C_value_56 : decode b_C_value 56 = .ok (.ireturn, 1) := by decide +kernel
theorem d_C_hasWitness_0 : decode b_C_hasWitness 0 = .ok (.aload_n 0, 1) := by decide +kernel
theorem d_C_hasWitness_1 : decode b_C_hasWitness 1 = .ok (.getfield 132, 3) := by decide +kernel
theorem d_C_hasWitness_4 : decode b_C_hasWitness 4 = .ok (.ifCond .le 7, 3) := by decide +kernel
theorem d_C_hasWitness_7 : decode b_C_hasWitness 7 = .ok (.iconst 1, 1) := by decide +kernel
theorem d_C_hasWitness_8 : decode b_C_hasWitness 8 = .ok (.goto 4, 3) := by decide +kernel
theorem d_C_hasWitness_11 : decode b_C_hasWitness 11 = .ok (.iconst 0, 1) := by decide +kernel
theorem d_C_hasWitness_12 : decode b_C_hasWitness 12 = .ok (.ireturn, 1) := by decide +kernel
theorem d_L_tamper_0 : decode b_L_tamper 0 = .ok (.aload_n 3, 1) := by decide +kernel
theorem d_L_tamper_1 : decode b_L_tamper 1 = .ok (.iconst 0, 1) := by decide +kernel
theorem d_L_tamper_2 : decode b_L_tamper 2 = .ok (.aload_n 0, 1) := by decide +kernel
theorem d_L_tamper_3 : decode b_L_tamper 3 = .ok (.iload_n 1, 1) := by decide +kernel
theorem d_L_tamper_4 : decode b_L_tamper 4 = .ok (.iload_n 2, 1) := by decide +kernel
theorem d_L_tamper_5 : decode b_L_tamper 5 = .ok (.invokevirtual 39, 3) := by decide +kernel
theorem d_L_tamper_8 : decode b_L_tamper 8 = .ok (.i2l, 1) := by decide +kernel
theorem d_L_tamper_9 : decode b_L_tamper 9 = .ok (.lastore, 1) := by decide +kernel
theorem d_L_tamper_10 : decode b_L_tamper 10 = .ok (.goto 11, 3) := by decide +kernel
theorem d_L_tamper_13 : decode b_L_tamper 13 = .ok (.astore 4, 2) := by decide +kernel
theorem d_L_tamper_15 : decode b_L_tamper 15 = .ok (.iconst 1, 1) := by decide +kernel
theorem d_L_tamper_16 : decode b_L_tamper 16 = .ok (.ireturn, 1) := by decide +kernel
theorem d_L_tamper_17 : decode b_L_tamper 17 = .ok (.astore 4, 2) := by decide +kernel
theorem d_L_tamper_19 : decode b_L_tamper 19 = .ok (.iconst 2, 1) := by decide +kernel
theorem d_L_tamper_20 : decode b_L_tamper 20 = .ok (.ireturn, 1) := by decide +kernel
theorem d_L_tamper_21 : decode b_L_tamper 21 = .ok (.iconst 0, 1) := by decide +kernel
theorem d_L_tamper_22 : decode b_L_tamper 22 = .ok (.ireturn, 1) := by decide +kernel
theorem d_C_tamper_0 : decode b_C_tamper 0 = .ok (.aload_n 0, 1) := by decide +kernel
theorem d_C_tamper_1 : decode b_C_tamper 1 = .ok (.invokevirtual 141, 3) := by decide +kernel
theorem d_C_tamper_4 : decode b_C_tamper 4 = .ok (.ifCond .ne 11, 3) := by decide +kernel
theorem d_C_tamper_7 : decode b_C_tamper 7 = .ok (.new 62, 3) := by decide +kernel
theorem d_C_tamper_10 : decode b_C_tamper 10 = .ok (.dup, 1) := by decide +kernel
theorem d_C_tamper_11 : decode b_C_tamper 11 = .ok (.invokespecial 64, 3) := by decide +kernel
theorem d_C_tamper_14 : decode b_C_tamper 14 = .ok (.athrow, 1) := by decide +kernel
theorem d_C_tamper_15 : decode b_C_tamper 15 = .ok (.iload_n 1, 1) := by decide +kernel
theorem d_C_tamper_16 : decode b_C_tamper 16 = .ok (.iconst 1, 1) := by decide +kernel
theorem d_C_tamper_17 : decode b_C_tamper 17 = .ok (.if_icmp .lt 11, 3) := by decide +kernel
theorem d_C_tamper_20 : decode b_C_tamper 20 = .ok (.iload_n 1, 1) := by decide +kernel
theorem d_C_tamper_21 : decode b_C_tamper 21 = .ok (.aload_n 0, 1) := by decide +kernel
theorem d_C_tamper_22 : decode b_C_tamper 22 = .ok (.getfield 132, 3) := by decide +kernel
theorem d_C_tamper_25 : decode b_C_tamper 25 = .ok (.if_icmp .lt 11, 3) := by decide +kernel
theorem d_C_tamper_28 : decode b_C_tamper 28 = .ok (.new 56, 3) := by decide +kernel
theorem d_C_tamper_31 : decode b_C_tamper 31 = .ok (.dup, 1) := by decide +kernel
theorem d_C_tamper_32 : decode b_C_tamper 32 = .ok (.invokespecial 58, 3) := by decide +kernel
theorem d_C_tamper_35 : decode b_C_tamper 35 = .ok (.athrow, 1) := by decide +kernel
theorem d_C_tamper_36 : decode b_C_tamper 36 = .ok (.aload_n 0, 1) := by decide +kernel
theorem d_C_tamper_37 : decode b_C_tamper 37 = .ok (.getfield 36, 3) := by decide +kernel
theorem d_C_tamper_40 : decode b_C_tamper 40 = .ok (.iload_n 1, 1) := by decide +kernel
theorem d_C_tamper_41 : decode b_C_tamper 41 = .ok (.iaload, 1) := by decide +kernel
theorem d_C_tamper_42 : decode b_C_tamper 42 = .ok (.istore_n 3, 1) := by decide +kernel
theorem d_C_tamper_43 : decode b_C_tamper 43 = .ok (.aload_n 0, 1) := by decide +kernel
theorem d_C_tamper_44 : decode b_C_tamper 44 = .ok (.getfield 36, 3) := by decide +kernel
theorem d_C_tamper_47 : decode b_C_tamper 47 = .ok (.iload_n 1, 1) := by decide +kernel
theorem d_C_tamper_48 : decode b_C_tamper 48 = .ok (.iload_n 2, 1) := by decide +kernel
theorem d_C_tamper_49 : decode b_C_tamper 49 = .ok (.invokestatic 122, 3) := by decide +kernel
theorem d_C_tamper_52 : decode b_C_tamper 52 = .ok (.iastore, 1) := by decide +kernel
theorem d_C_tamper_53 : decode b_C_tamper 53 = .ok (.iload_n 3, 1) := by decide +kernel
theorem d_C_tamper_54 : decode b_C_tamper 54 = .ok (.ireturn, 1) := by decide +kernel
theorem d_L_broken_0 : decode b_L_broken 0 = .ok (.aload_n 1, 1) := by decide +kernel
theorem d_L_broken_1 : decode b_L_broken 1 = .ok (.iconst 0, 1) := by decide +kernel
theorem d_L_broken_2 : decode b_L_broken 2 = .ok (.aload_n 0, 1) := by decide +kernel
theorem d_L_broken_3 : decode b_L_broken 3 = .ok (.invokevirtual 42, 3) := by decide +kernel
theorem d_L_broken_6 : decode b_L_broken 6 = .ok (.i2l, 1) := by decide +kernel
theorem d_L_broken_7 : decode b_L_broken 7 = .ok (.lastore, 1) := by decide +kernel
theorem d_L_broken_8 : decode b_L_broken 8 = .ok (.goto 6, 3) := by decide +kernel
theorem d_L_broken_11 : decode b_L_broken 11 = .ok (.astore_n 2, 1) := by decide +kernel
theorem d_L_broken_12 : decode b_L_broken 12 = .ok (.iconst 1, 1) := by decide +kernel
theorem d_L_broken_13 : decode b_L_broken 13 = .ok (.ireturn, 1) := by decide +kernel
theorem d_L_broken_14 : decode b_L_broken 14 = .ok (.iconst 0, 1) := by decide +kernel
theorem d_L_broken_15 : decode b_L_broken 15 = .ok (.ireturn, 1) := by decide +kernel
theorem d_C_broken_0 : decode b_C_broken 0 = .ok (.aload_n 0, 1) := by decide +kernel
theorem d_C_broken_1 : decode b_C_broken 1 = .ok (.invokevirtual 141, 3) := by decide +kernel
theorem d_C_broken_4 : decode b_C_broken 4 = .ok (.ifCond .ne 11, 3) := by decide +kernel
theorem d_C_broken_7 : decode b_C_broken 7 = .ok (.new 62, 3) := by decide +kernel
theorem d_C_broken_10 : decode b_C_broken 10 = .ok (.dup, 1) := by decide +kernel
theorem d_C_broken_11 : decode b_C_broken 11 = .ok (.invokespecial 64, 3) := by decide +kernel
theorem d_C_broken_14 : decode b_C_broken 14 = .ok (.athrow, 1) := by decide +kernel
theorem d_C_broken_15 : decode b_C_broken 15 = .ok (.aload_n 0, 1) := by decide +kernel
theorem d_C_broken_16 : decode b_C_broken 16 = .ok (.invokevirtual 138, 3) := by decide +kernel
theorem d_C_broken_19 : decode b_C_broken 19 = .ok (.ireturn, 1) := by decide +kernel
theorem d_L_first_0 : decode b_L_first 0 = .ok (.aload_n 1, 1) := by decide +kernel
theorem d_L_first_1 : decode b_L_first 1 = .ok (.iconst 0, 1) := by decide +kernel
theorem d_L_first_2 : decode b_L_first 2 = .ok (.aload_n 0, 1) := by decide +kernel
theorem d_L_first_3 : decode b_L_first 3 = .ok (.invokevirtual 45, 3) := by decide +kernel
theorem d_L_first_6 : decode b_L_first 6 = .ok (.i2l, 1) := by decide +kernel
theorem d_L_first_7 : decode b_L_first 7 = .ok (.lastore, 1) := by decide +kernel
theorem d_L_first_8 : decode b_L_first 8 = .ok (.goto 9, 3) := by decide +kernel
theorem d_L_first_11 : decode b_L_first 11 = .ok (.astore_n 2, 1) := by decide +kernel
theorem d_L_first_12 : decode b_L_first 12 = .ok (.iconst 1, 1) := by decide +kernel
theorem d_L_first_13 : decode b_L_first 13 = .ok (.ireturn, 1) := by decide +kernel
theorem d_L_first_14 : decode b_L_first 14 = .ok (.astore_n 2, 1) := by decide +kernel
theorem d_L_first_15 : decode b_L_first 15 = .ok (.iconst 2, 1) := by decide +kernel
theorem d_L_first_16 : decode b_L_first 16 = .ok (.ireturn, 1) := by decide +kernel
theorem d_L_first_17 : decode b_L_first 17 = .ok (.iconst 0, 1) := by decide +kernel
theorem d_L_first_18 : decode b_L_first 18 = .ok (.ireturn, 1) := by decide +kernel
theorem d_C_first_0 : decode b_C_first 0 = .ok (.aload_n 0, 1) := by decide +kernel
theorem d_C_first_1 : decode b_C_first 1 = .ok (.invokevirtual 141, 3) := by decide +kernel
theorem d_C_first_4 : decode b_C_first 4 = .ok (.ifCond .ne 11, 3) := by decide +kernel
theorem d_C_first_7 : decode b_C_first 7 = .ok (.new 62, 3) := by decide +kernel
theorem d_C_first_10 : decode b_C_first 10 = .ok (.dup, 1) := by decide +kernel
theorem d_C_first_11 : decode b_C_first 11 = .ok (.invokespecial 64, 3) := by decide +kernel
theorem d_C_first_14 : decode b_C_first 14 = .ok (.athrow, 1) := by decide +kernel
theorem d_C_first_15 : decode b_C_first 15 = .ok (.iconst 0, 1) := by decide +kernel
theorem d_C_first_16 : decode b_C_first 16 = .ok (.istore_n 1, 1) := by decide +kernel
theorem d_C_first_17 : decode b_C_first 17 = .ok (.iload_n 1, 1) := by decide +kernel
theorem d_C_first_18 : decode b_C_first 18 = .ok (.aload_n 0, 1) := by decide +kernel
theorem d_C_first_19 : decode b_C_first 19 = .ok (.getfield 135, 3) := by decide +kernel
theorem d_C_first_22 : decode b_C_first 22 = .ok (.if_icmp .ge 32, 3) := by decide +kernel
theorem d_C_first_25 : decode b_C_first 25 = .ok (.aload_n 0, 1) := by decide +kernel
theorem d_C_first_26 : decode b_C_first 26 = .ok (.getfield 33, 3) := by decide +kernel
theorem d_C_first_29 : decode b_C_first 29 = .ok (.iload_n 1, 1) := by decide +kernel
theorem d_C_first_30 : decode b_C_first 30 = .ok (.invokevirtual 104, 3) := by decide +kernel
theorem d_C_first_33 : decode b_C_first 33 = .ok (.checkcast 151, 3) := by decide +kernel
theorem d_C_first_36 : decode b_C_first 36 = .ok (.aload_n 0, 1) := by decide +kernel
theorem d_C_first_37 : decode b_C_first 37 = .ok (.getfield 36, 3) := by decide +kernel
theorem d_C_first_40 : decode b_C_first 40 = .ok (.invokevirtual 153, 3) := by decide +kernel
theorem d_C_first_43 : decode b_C_first 43 = .ok (.ifCond .ne 5, 3) := by decide +kernel
theorem d_C_first_46 : decode b_C_first 46 = .ok (.iload_n 1, 1) := by decide +kernel
theorem d_C_first_47 : decode b_C_first 47 = .ok (.ireturn, 1) := by decide +kernel
theorem d_C_first_48 : decode b_C_first 48 = .ok (.iinc 1 1, 3) := by decide +kernel
theorem d_C_first_51 : decode b_C_first 51 = .ok (.goto (-34), 3) := by decide +kernel
theorem d_C_first_54 : decode b_C_first 54 = .ok (.new 101, 3) := by decide +kernel
theorem d_C_first_57 : decode b_C_first 57 = .ok (.dup, 1) := by decide +kernel
theorem d_C_first_58 : decode b_C_first 58 = .ok (.invokespecial 103, 3) := by decide +kernel
theorem d_C_first_61 : decode b_C_first 61 = .ok (.athrow, 1) := by decide +kernel
theorem d_L_coefficient_0 : decode b_L_coefficient 0 = .ok (.aload 4, 2) := by decide +kernel
theorem d_L_coefficient_2 : decode b_L_coefficient 2 = .ok (.iconst 0, 1) := by decide +kernel
theorem d_L_coefficient_3 : decode b_L_coefficient 3 = .ok (.aload_n 0, 1) := by decide +kernel
theorem d_L_coefficient_4 : decode b_L_coefficient 4 = .ok (.iload_n 1, 1) := by decide +kernel
theorem d_L_coefficient_5 : decode b_L_coefficient 5 = .ok (.iload_n 2, 1) := by decide +kernel
theorem d_L_coefficient_6 : decode b_L_coefficient 6 = .ok (.iload_n 3, 1) := by decide +kernel
theorem d_L_coefficient_7 : decode b_L_coefficient 7 = .ok (.invokevirtual 48, 3) := by decide +kernel
theorem d_L_coefficient_10 : decode b_L_coefficient 10 = .ok (.i2l, 1) := by decide +kernel
theorem d_L_coefficient_11 : decode b_L_coefficient 11 = .ok (.lastore, 1) := by decide +kernel
theorem d_L_coefficient_12 : decode b_L_coefficient 12 = .ok (.goto 11, 3) := by decide +kernel
theorem d_L_coefficient_15 : decode b_L_coefficient 15 = .ok (.astore 5, 2) := by decide +kernel
theorem d_L_coefficient_17 : decode b_L_coefficient 17 = .ok (.iconst 1, 1) := by decide +kernel
theorem d_L_coefficient_18 : decode b_L_coefficient 18 = .ok (.ireturn, 1) := by decide +kernel
theorem d_L_coefficient_19 : decode b_L_coefficient 19 = .ok (.astore 5, 2) := by decide +kernel
theorem d_L_coefficient_21 : decode b_L_coefficient 21 = .ok (.iconst 2, 1) := by decide +kernel
theorem d_L_coefficient_22 : decode b_L_coefficient 22 = .ok (.ireturn, 1) := by decide +kernel
theorem d_L_coefficient_23 : decode b_L_coefficient 23 = .ok (.iconst 0, 1) := by decide +kernel
theorem d_L_coefficient_24 : decode b_L_coefficient 24 = .ok (.ireturn, 1) := by decide +kernel
theorem d_C_coefficient_0 : decode b_C_coefficient 0 = .ok (.iload_n 1, 1) := by decide +kernel
theorem d_C_coefficient_1 : decode b_C_coefficient 1 = .ok (.ifCond .lt 14, 3) := by decide +kernel
theorem d_C_coefficient_4 : decode b_C_coefficient 4 = .ok (.iload_n 1, 1) := by decide +kernel
theorem d_C_coefficient_5 : decode b_C_coefficient 5 = .ok (.aload_n 0, 1) := by decide +kernel
theorem d_C_coefficient_6 : decode b_C_coefficient 6 = .ok (.getfield 33, 3) := by decide +kernel
theorem d_C_coefficient_9 : decode b_C_coefficient 9 = .ok (.invokevirtual 78, 3) := by decide +kernel
theorem d_C_coefficient_12 : decode b_C_coefficient 12 = .ok (.if_icmp .lt 11, 3) := by decide +kernel
