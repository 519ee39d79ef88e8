theorem d_C_init_0 : decode b_C_init 0 = .ok (.aload_n 0, 1) := by decide +kernel
theorem d_C_init_1 : decode b_C_init 1 = .ok (.invokespecial 3, 3) := by decide +kernel
theorem d_C_init_4 : decode b_C_init 4 = .ok (.aload_n 0, 1) := by decide +kernel
theorem d_C_init_5 : decode b_C_init 5 = .ok (.new 9, 3) := by decide +kernel
theorem d_C_init_8 : decode b_C_init 8 = .ok (.dup, 1) := by decide +kernel
theorem d_C_init_9 : decode b_C_init 9 = .ok (.invokespecial 11, 3) := by decide +kernel
theorem d_C_init_12 : decode b_C_init 12 = .ok (.putfield 12, 3) := by decide +kernel
theorem d_C_init_15 : decode b_C_init 15 = .ok (.aload_n 0, 1) := by decide +kernel
theorem d_C_init_16 : decode b_C_init 16 = .ok (.iconst 0, 1) := by decide +kernel
theorem d_C_init_17 : decode b_C_init 17 = .ok (.invokestatic 16, 3) := by decide +kernel
theorem d_C_init_20 : decode b_C_init 20 = .ok (.putfield 20, 3) := by decide +kernel
theorem d_C_init_23 : decode b_C_init 23 = .ok (.aload_n 0, 1) := by decide +kernel
theorem d_C_init_24 : decode b_C_init 24 = .ok (.new 23, 3) := by decide +kernel
theorem d_C_init_27 : decode b_C_init 27 = .ok (.dup, 1) := by decide +kernel
theorem d_C_init_28 : decode b_C_init 28 = .ok (.invokespecial 25, 3) := by decide +kernel
theorem d_C_init_31 : decode b_C_init 31 = .ok (.putfield 26, 3) := by decide +kernel
theorem d_C_init_34 : decode b_C_init 34 = .ok (.aload_n 0, 1) := by decide +kernel
theorem d_C_init_35 : decode b_C_init 35 = .ok (.new 23, 3) := by decide +kernel
theorem d_C_init_38 : decode b_C_init 38 = .ok (.dup, 1) := by decide +kernel
theorem d_C_init_39 : decode b_C_init 39 = .ok (.invokespecial 25, 3) := by decide +kernel
theorem d_C_init_42 : decode b_C_init 42 = .ok (.putfield 30, 3) := by decide +kernel
theorem d_C_init_45 : decode b_C_init 45 = .ok (.aload_n 0, 1) := by decide +kernel
theorem d_C_init_46 : decode b_C_init 46 = .ok (.new 23, 3) := by decide +kernel
theorem d_C_init_49 : decode b_C_init 49 = .ok (.dup, 1) := by decide +kernel
theorem d_C_init_50 : decode b_C_init 50 = .ok (.invokespecial 25, 3) := by decide +kernel
theorem d_C_init_53 : decode b_C_init 53 = .ok (.putfield 33, 3) := by decide +kernel
theorem d_C_init_56 : decode b_C_init 56 = .ok (.aload_n 0, 1) := by decide +kernel
theorem d_C_init_57 : decode b_C_init 57 = .ok (.bipush 60, 2) := by decide +kernel
theorem d_C_init_59 : decode b_C_init 59 = .ok (.newarray .int, 2) := by decide +kernel
theorem d_C_init_61 : decode b_C_init 61 = .ok (.putfield 36, 3) := by decide +kernel
theorem d_C_init_64 : decode b_C_init 64 = .ok (.aload_n 0, 1) := by decide +kernel
theorem d_C_init_65 : decode b_C_init 65 = .ok (.bipush 60, 2) := by decide +kernel
theorem d_C_init_67 : decode b_C_init 67 = .ok (.newarray .int, 2) := by decide +kernel
theorem d_C_init_69 : decode b_C_init 69 = .ok (.putfield 40, 3) := by decide +kernel
theorem d_C_init_72 : decode b_C_init 72 = .ok (.aload_n 0, 1) := by decide +kernel
theorem d_C_init_73 : decode b_C_init 73 = .ok (.getfield 26, 3) := by decide +kernel
theorem d_C_init_76 : decode b_C_init 76 = .ok (.new 43, 3) := by decide +kernel
theorem d_C_init_79 : decode b_C_init 79 = .ok (.dup, 1) := by decide +kernel
theorem d_C_init_80 : decode b_C_init 80 = .ok (.iconst 0, 1) := by decide +kernel
theorem d_C_init_81 : decode b_C_init 81 = .ok (.aload_n 0, 1) := by decide +kernel
theorem d_C_init_82 : decode b_C_init 82 = .ok (.getfield 12, 3) := by decide +kernel
theorem d_C_init_85 : decode b_C_init 85 = .ok (.aload_n 0, 1) := by decide +kernel
theorem d_C_init_86 : decode b_C_init 86 = .ok (.getfield 12, 3) := by decide +kernel
theorem d_C_init_89 : decode b_C_init 89 = .ok (.invokespecial 45, 3) := by decide +kernel
theorem d_C_init_92 : decode b_C_init 92 = .ok (.invokevirtual 48, 3) := by decide +kernel
theorem d_C_init_95 : decode b_C_init 95 = .ok (.pop, 1) := by decide +kernel
theorem d_C_init_96 : decode b_C_init 96 = .ok (.return_, 1) := by decide +kernel
theorem d_OJ_init_0 : decode b_OJ_init 0 = .ok (.return_, 1) := by decide +kernel
theorem d_S_init_0 : decode b_S_init 0 = .ok (.aload_n 0, 1) := by decide +kernel
theorem d_S_init_1 : decode b_S_init 1 = .ok (.invokespecial 3, 3) := by decide +kernel
theorem d_S_init_4 : decode b_S_init 4 = .ok (.aload_n 0, 1) := by decide +kernel
theorem d_S_init_5 : decode b_S_init 5 = .ok (.bipush 60, 2) := by decide +kernel
theorem d_S_init_7 : decode b_S_init 7 = .ok (.newarray .int, 2) := by decide +kernel
theorem d_S_init_9 : decode b_S_init 9 = .ok (.putfield 9, 3) := by decide +kernel
theorem d_S_init_12 : decode b_S_init 12 = .ok (.return_, 1) := by decide +kernel
theorem d_S_ofVariable_0 : decode b_S_ofVariable 0 = .ok (.new 10, 3) := by decide +kernel
theorem d_S_ofVariable_3 : decode b_S_ofVariable 3 = .ok (.dup, 1) := by decide +kernel
theorem d_S_ofVariable_4 : decode b_S_ofVariable 4 = .ok (.invokespecial 15, 3) := by decide +kernel
theorem d_S_ofVariable_7 : decode b_S_ofVariable 7 = .ok (.astore_n 1, 1) := by decide +kernel
theorem d_S_ofVariable_8 : decode b_S_ofVariable 8 = .ok (.aload_n 1, 1) := by decide +kernel
theorem d_S_ofVariable_9 : decode b_S_ofVariable 9 = .ok (.getfield 9, 3) := by decide +kernel
theorem d_S_ofVariable_12 : decode b_S_ofVariable 12 = .ok (.iload_n 0, 1) := by decide +kernel
theorem d_S_ofVariable_13 : decode b_S_ofVariable 13 = .ok (.iconst 1, 1) := by decide +kernel
theorem d_S_ofVariable_14 : decode b_S_ofVariable 14 = .ok (.iastore, 1) := by decide +kernel
theorem d_S_ofVariable_15 : decode b_S_ofVariable 15 = .ok (.aload_n 1, 1) := by decide +kernel
theorem d_S_ofVariable_16 : decode b_S_ofVariable 16 = .ok (.areturn, 1) := by decide +kernel
theorem d_A_init_0 : decode b_A_init 0 = .ok (.aload_n 0, 1) := by decide +kernel
theorem d_A_init_1 : decode b_A_init 1 = .ok (.invokespecial 1, 3) := by decide +kernel
theorem d_A_init_4 : decode b_A_init 4 = .ok (.aload_n 0, 1) := by decide +kernel
theorem d_A_init_5 : decode b_A_init 5 = .ok (.getstatic 39, 3) := by decide +kernel
theorem d_A_init_8 : decode b_A_init 8 = .ok (.putfield 9, 3) := by decide +kernel
theorem d_A_init_11 : decode b_A_init 11 = .ok (.return_, 1) := by decide +kernel
theorem d_AL_init_0 : decode b_AL_init 0 = .ok (.aload_n 0, 1) := by decide +kernel
theorem d_AL_init_1 : decode b_AL_init 1 = .ok (.invokespecial 1, 3) := by decide +kernel
theorem d_AL_init_4 : decode b_AL_init 4 = .ok (.aload_n 0, 1) := by decide +kernel
theorem d_AL_init_5 : decode b_AL_init 5 = .ok (.iconst 0, 1) := by decide +kernel
theorem d_AL_init_6 : decode b_AL_init 6 = .ok (.putfield 7, 3) := by decide +kernel
theorem d_AL_init_9 : decode b_AL_init 9 = .ok (.return_, 1) := by decide +kernel
theorem d_AC_init_0 : decode b_AC_init 0 = .ok (.aload_n 0, 1) := by decide +kernel
theorem d_AC_init_1 : decode b_AC_init 1 = .ok (.invokespecial 1, 3) := by decide +kernel
theorem d_AC_init_4 : decode b_AC_init 4 = .ok (.return_, 1) := by decide +kernel
theorem d_V_init_0 : decode b_V_init 0 = .ok (.aload_n 0, 1) := by decide +kernel
theorem d_V_init_1 : decode b_V_init 1 = .ok (.invokespecial 3, 3) := by decide +kernel
theorem d_V_init_4 : decode b_V_init 4 = .ok (.aload_n 0, 1) := by decide +kernel
theorem d_V_init_5 : decode b_V_init 5 = .ok (.iload_n 1, 1) := by decide +kernel
theorem d_V_init_6 : decode b_V_init 6 = .ok (.putfield 9, 3) := by decide +kernel
theorem d_V_init_9 : decode b_V_init 9 = .ok (.aload_n 0, 1) := by decide +kernel
theorem d_V_init_10 : decode b_V_init 10 = .ok (.aload_n 2, 1) := by decide +kernel
theorem d_V_init_11 : decode b_V_init 11 = .ok (.putfield 15, 3) := by decide +kernel
theorem d_V_init_14 : decode b_V_init 14 = .ok (.aload_n 0, 1) := by decide +kernel
theorem d_V_init_15 : decode b_V_init 15 = .ok (.aload_n 3, 1) := by decide +kernel
theorem d_V_init_16 : decode b_V_init 16 = .ok (.putfield 19, 3) := by decide +kernel
theorem d_V_init_19 : decode b_V_init 19 = .ok (.return_, 1) := by decide +kernel
theorem d_A_add1_0 : decode b_A_add1 0 = .ok (.aload_n 0, 1) := by decide +kernel
theorem d_A_add1_1 : decode b_A_add1 1 = .ok (.dup, 1) := by decide +kernel
theorem d_A_add1_2 : decode b_A_add1 2 = .ok (.getfield 63, 3) := by decide +kernel
theorem d_A_add1_5 : decode b_A_add1 5 = .ok (.iconst 1, 1) := by decide +kernel
theorem d_A_add1_6 : decode b_A_add1 6 = .ok (.iadd, 1) := by decide +kernel
theorem d_A_add1_7 : decode b_A_add1 7 = .ok (.putfield 63, 3) := by decide +kernel
theorem d_A_add1_10 : decode b_A_add1 10 = .ok (.aload_n 0, 1) := by decide +kernel
theorem d_A_add1_11 : decode b_A_add1 11 = .ok (.aload_n 1, 1) := by decide +kernel
theorem d_A_add1_12 : decode b_A_add1 12 = .ok (.aload_n 0, 1) := by decide +kernel
theorem d_A_add1_13 : decode b_A_add1 13 = .ok (.getfield 9, 3) := by decide +kernel
theorem d_A_add1_16 : decode b_A_add1 16 = .ok (.aload_n 0, 1) := by decide +kernel
theorem d_A_add1_17 : decode b_A_add1 17 = .ok (.getfield 48, 3) := by decide +kernel
theorem d_A_add1_20 : decode b_A_add1 20 = .ok (.invokevirtual 131, 3) := by decide +kernel
theorem d_A_add1_23 : decode b_A_add1 23 = .ok (.iconst 1, 1) := by decide +kernel
theorem d_A_add1_24 : decode b_A_add1 24 = .ok (.ireturn, 1) := by decide +kernel
theorem d_A_add3_0 : decode b_A_add3 0 = .ok (.iload_n 3, 1) := by decide +kernel
theorem d_A_add3_1 : decode b_A_add3 1 = .ok (.aload_n 2, 1) := by decide +kernel
theorem d_A_add3_2 : decode b_A_add3 2 = .ok (.arraylength, 1) := by decide +kernel
theorem d_A_add3_3 : decode b_A_add3 3 = .ok (.if_icmp .ne 8, 3) := by decide +kernel
theorem d_A_add3_6 : decode b_A_add3 6 = .ok (.aload_n 0, 1) := by decide +kernel
theorem d_A_add3_7 : decode b_A_add3 7 = .ok (.invokevirtual 129, 3) := by decide +kernel
theorem d_A_add3_10 : decode b_A_add3 10 = .ok (.astore_n 2, 1) := by decide +kernel
theorem d_A_add3_11 : decode b_A_add3 11 = .ok (.aload_n 2, 1) := by decide +kernel
theorem d_A_add3_12 : decode b_A_add3 12 = .ok (.iload_n 3, 1) := by decide +kernel
theorem d_A_add3_13 : decode b_A_add3 13 = .ok (.aload_n 1, 1) := by decide +kernel
theorem d_A_add3_14 : decode b_A_add3 14 = .ok (.aastore, 1) := by decide +kernel
theorem d_A_add3_15 : decode b_A_add3 15 = .ok (.aload_n 0, 1) := by decide +kernel
theorem d_A_add3_16 : decode b_A_add3 16 = .ok (.iload_n 3, 1) := by decide +kernel
theorem d_A_add3_17 : decode b_A_add3 17 = .ok (.iconst 1, 1) := by decide +kernel
theorem d_A_add3_18 : decode b_A_add3 18 = .ok (.iadd, 1) := by decide +kernel
theorem d_A_add3_19 : decode b_A_add3 19 = .ok (.putfield 48, 3) := by decide +kernel
theorem d_A_add3_22 : decode b_A_add3 22 = .ok (.return_, 1) := by decide +kernel
theorem d_A_grow0_0 : decode b_A_grow0 0 = .ok (.aload_n 0, 1) := by decide +kernel
theorem d_A_grow0_1 : decode b_A_grow0 1 = .ok (.aload_n 0, 1) := by decide +kernel
theorem d_A_grow0_2 : decode b_A_grow0 2 = .ok (.getfield 48, 3) := by decide +kernel
theorem d_A_grow0_5 : decode b_A_grow0 5 = .ok (.iconst 1, 1) := by decide +kernel
theorem d_A_grow0_6 : decode b_A_grow0 6 = .ok (.iadd, 1) := by decide +kernel
theorem d_A_grow0_7 : decode b_A_grow0 7 = .ok (.invokevirtual 69, 3) := by decide +kernel
theorem d_A_grow0_10 : decode b_A_grow0 10 = .ok (.areturn, 1) := by decide +kernel
theorem d_A_grow1_0 : decode b_A_grow1 0 = .ok (.aload_n 0, 1) := by decide +kernel
theorem d_A_grow1_1 : decode b_A_grow1 1 = .ok (.getfield 9, 3) := by decide +kernel
theorem d_A_grow1_4 : decode b_A_grow1 4 = .ok (.arraylength, 1) := by decide +kernel
theorem d_A_grow1_5 : decode b_A_grow1 5 = .ok (.istore_n 2, 1) := by decide +kernel
theorem d_A_grow1_6 : decode b_A_grow1 6 = .ok (.iload_n 2, 1) := by decide +kernel
theorem d_A_grow1_7 : decode b_A_grow1 7 = .ok (.ifCond .gt 13, 3) := by decide +kernel
theorem d_A_grow1_10 : decode b_A_grow1 10 = .ok (.aload_n 0, 1) := by decide +kernel
theorem d_A_grow1_11 : decode b_A_grow1 11 = .ok (.getfield 9, 3) := by decide +kernel
theorem d_A_grow1_14 : decode b_A_grow1 14 = .ok (.getstatic 39, 3) := by decide +kernel
theorem d_A_grow1_17 : decode b_A_grow1 17 = .ok (.if_acmp .eq 28, 3) := by decide +kernel
theorem d_A_grow1_20 : decode b_A_grow1 20 = .ok (.iload_n 2, 1) := by decide +kernel
theorem d_A_grow1_21 : decode b_A_grow1 21 = .ok (.iload_n 1, 1) := by decide +kernel
theorem d_A_grow1_22 : decode b_A_grow1 22 = .ok (.iload_n 2, 1) := by decide +kernel
theorem d_A_grow1_23 : decode b_A_grow1 23 = .ok (.isub, 1) := by decide +kernel
theorem d_A_grow1_24 : decode b_A_grow1 24 = .ok (.iload_n 2, 1) := by decide +kernel
theorem d_A_grow1_25 : decode b_A_grow1 25 = .ok (.iconst 1, 1) := by decide +kernel
theorem d_A_grow1_26 : decode b_A_grow1 26 = .ok (.ishr, 1) := by decide +kernel
theorem d_A_grow1_27 : decode b_A_grow1 27 = .ok (.invokestatic 73, 3) := by decide +kernel
theorem d_A_grow1_30 : decode b_A_grow1 30 = .ok (.istore_n 3, 1) := by decide +kernel
theorem d_A_grow1_31 : decode b_A_grow1 31 = .ok (.aload_n 0, 1) := by decide +kernel
theorem d_A_grow1_32 : decode b_A_grow1 32 = .ok (.aload_n 0, 1) := by decide +kernel
theorem d_A_grow1_33 : decode b_A_grow1 33 = .ok (.getfield 9, 3) := by decide +kernel
theorem d_A_grow1_36 : decode b_A_grow1 36 = .ok (.iload_n 3, 1) := by decide +kernel
theorem d_A_grow1_37 : decode b_A_grow1 37 = .ok (.invokestatic 66, 3) := by decide +kernel
theorem d_A_grow1_40 : decode b_A_grow1 40 = .ok (.dup_x1, 1) := by decide +kernel
theorem d_A_grow1_41 : decode b_A_grow1 41 = .ok (.putfield 9, 3) := by decide +kernel
theorem d_A_grow1_44 : decode b_A_grow1 44 = .ok (.areturn, 1) := by decide +kernel
theorem d_A_grow1_45 : decode b_A_grow1 45 = .ok (.aload_n 0, 1) := by decide +kernel
theorem d_A_grow1_46 : decode b_A_grow1 46 = .ok (.bipush 10, 2) := by decide +kernel
theorem d_A_grow1_48 : decode b_A_grow1 48 = .ok (.iload_n 1, 1) := by decide +kernel
theorem d_A_grow1_49 : decode b_A_grow1 49 = .ok (.invokestatic 79, 3) := by decide +kernel
theorem d_A_grow1_52 : decode b_A_grow1 52 = .ok (.anewarray 7, 3) := by decide +kernel
theorem d_A_grow1_55 : decode b_A_grow1 55 = .ok (.dup_x1, 1) := by decide +kernel
theorem d_A_grow1_56 : decode b_A_grow1 56 = .ok (.putfield 9, 3) := by decide +kernel
theorem d_A_grow1_59 : decode b_A_grow1 59 = .ok (.areturn, 1) := by decide +kernel
theorem d_AS_newLength_0 : decode b_AS_newLength 0 = .ok (.iload_n 0, 1) := by decide +kernel
theorem d_AS_newLength_1 : decode b_AS_newLength 1 = .ok (.iload_n 1, 1) := by decide +kernel
theorem d_AS_newLength_2 : decode b_AS_newLength 2 = .ok (.iload_n 2, 1) := by decide +kernel
theorem d_AS_newLength_3 : decode b_AS_newLength 3 = .ok (.invokestatic 194, 3) := by decide +kernel
theorem d_AS_newLength_6 : decode b_AS_newLength 6 = .ok (.iadd, 1) := by decide +kernel
theorem d_AS_newLength_7 : decode b_AS_newLength 7 = .ok (.istore_n 3, 1) := by decide +kernel
theorem d_AS_newLength_8 : decode b_AS_newLength 8 = .ok (.iconst 0, 1) := by decide +kernel
theorem d_AS_newLength_9 : decode b_AS_newLength 9 = .ok (.iload_n 3, 1) := by decide +kernel
theorem d_AS_newLength_10 : decode b_AS_newLength 10 = .ok (.if_icmp .ge 11, 3) := by decide +kernel
theorem d_AS_newLength_13 : decode b_AS_newLength 13 = .ok (.iload_n 3, 1) := by decide +kernel
theorem d_AS_newLength_14 : decode b_AS_newLength 14 = .ok (.ldc 200, 2) := by decide +kernel
theorem d_AS_newLength_16 : decode b_AS_newLength 16 = .ok (.if_icmp .gt 5, 3) := by decide +kernel
theorem d_AS_newLength_19 : decode b_AS_newLength 19 = .ok (.iload_n 3, 1) := by decide +kernel
theorem d_AS_newLength_20 : decode b_AS_newLength 20 = .ok (.ireturn, 1) := by decide +kernel
theorem d_AS_newLength_21 : decode b_AS_newLength 21 = .ok (.iload_n 0, 1) := by decide +kernel
theorem d_AS_newLength_22 : decode b_AS_newLength 22 = .ok (.iload_n 1, 1) := by decide +kernel
theorem d_AS_newLength_23 : decode b_AS_newLength 23 = .ok (.invokestatic 201, 3) := by decide +kernel
theorem d_AS_newLength_26 : decode b_AS_newLength 26 = .ok (.ireturn, 1) := by decide +kernel
theorem d_MA_max_0 : decode b_MA_max 0 = .ok (.iload_n 0, 1) := by decide +kernel
theorem d_MA_max_1 : decode b_MA_max 1 = .ok (.iload_n 1, 1) := by decide +kernel
theorem d_MA_max_2 : decode b_MA_max 2 = .ok (.if_icmp .lt 7, 3) := by decide +kernel
theorem d_MA_max_5 : decode b_MA_max 5 = .ok (.iload_n 0, 1) := by decide +kernel
theorem d_MA_max_6 : decode b_MA_max 6 = .ok (.goto 4, 3) := by decide +kernel
theorem d_MA_max_9 : decode b_MA_max 9 = .ok (.iload_n 1, 1) := by decide +kernel
theorem d_MA_max_10 : decode b_MA_max 10 = .ok (.ireturn, 1) := by decide +kernel
theorem d_AS_hugeLength_0 : decode b_AS_hugeLength 0 = .ok (.iload_n 0, 1) := by decide +kernel
theorem d_AS_hugeLength_1 : decode b_AS_hugeLength 1 = .ok (.iload_n 1, 1) := by decide +kernel
theorem d_AS_hugeLength_2 : decode b_AS_hugeLength 2 = .ok (.iadd, 1) := by decide +kernel
theorem d_AS_hugeLength_3 : decode b_AS_hugeLength 3 = .ok (.istore_n 2, 1) := by decide +kernel
theorem d_AS_hugeLength_4 : decode b_AS_hugeLength 4 = .ok (.iload_n 2, 1) := by decide +kernel
theorem d_AS_hugeLength_5 : decode b_AS_hugeLength 5 = .ok (.ifCond .ge 44, 3) := by decide +kernel
theorem d_AS_hugeLength_8 : decode b_AS_hugeLength 8 = .ok (.new 204, 3) := by decide +kernel
theorem d_AS_hugeLength_11 : decode b_AS_hugeLength 11 = .ok (.dup, 1) := by decide +kernel
theorem d_AS_hugeLength_12 : decode b_AS_hugeLength 12 = .ok (.new 89, 3) := by decide +kernel
theorem d_AS_hugeLength_15 : decode b_AS_hugeLength 15 = .ok (.dup, 1) := by decide +kernel
theorem d_AS_hugeLength_16 : decode b_AS_hugeLength 16 = .ok (.invokespecial 91, 3) := by decide +kernel
theorem d_AS_hugeLength_19 : decode b_AS_hugeLength 19 = .ok (.ldc 206, 2) := by decide +kernel
theorem d_AS_hugeLength_21 : decode b_AS_hugeLength 21 = .ok (.invokevirtual 94, 3) := by decide +kernel
theorem d_AS_hugeLength_24 : decode b_AS_hugeLength 24 = .ok (.iload_n 0, 1) := by decide +kernel
theorem d_AS_hugeLength_25 : decode b_AS_hugeLength 25 = .ok (.invokevirtual 98, 3) := by decide +kernel
theorem d_AS_hugeLength_28 : decode b_AS_hugeLength 28 = .ok (.ldc 208, 2) := by decide +kernel
theorem d_AS_hugeLength_30 : decode b_AS_hugeLength 30 = .ok (.invokevirtual 94, 3) := by decide +kernel
theorem d_AS_hugeLength_33 : decode b_AS_hugeLength 33 = .ok (.iload_n 1, 1) := by decide +kernel
theorem d_AS_hugeLength_34 : decode b_AS_hugeLength 34 = .ok (.invokevirtual 98, 3) := by decide +kernel
theorem d_AS_hugeLength_37 : decode b_AS_hugeLength 37 = .ok (.ldc 210, 2) := by decide +kernel
theorem d_AS_hugeLength_39 : decode b_AS_hugeLength 39 = .ok (.invokevirtual 94, 3) := by decide +kernel
theorem d_AS_hugeLength_42 : decode b_AS_hugeLength 42 = .ok (.invokevirtual 101, 3) := by decide +kernel
theorem d_AS_hugeLength_45 : decode b_AS_hugeLength 45 = .ok (.invokespecial 212, 3) := by decide +kernel
theorem d_AS_hugeLength_48 : decode b_AS_hugeLength 48 = .ok (.athrow, 1) := by decide +kernel
theorem d_AS_hugeLength_49 : decode b_AS_hugeLength 49 = .ok (.iload_n 2, 1) := by decide +kernel
theorem d_AS_hugeLength_50 : decode b_AS_hugeLength 50 = .ok (.ldc 200, 2) := by decide +kernel
theorem d_AS_hugeLength_52 : decode b_AS_hugeLength 52 = .ok (.if_icmp .gt 6, 3) := by decide +kernel
theorem d_AS_hugeLength_55 : decode b_AS_hugeLength 55 = .ok (.ldc 200, 2) := by decide +kernel
theorem d_AS_hugeLength_57 : decode b_AS_hugeLength 57 = .ok (.ireturn, 1) := by decide +kernel
theorem d_AS_hugeLength_58 : decode b_AS_hugeLength 58 = .ok (.iload_n 2, 1) := by decide +kernel
theorem d_AS_hugeLength_59 : decode b_AS_hugeLength 59 = .ok (.ireturn, 1) := by decide +kernel
theorem d_AR_copyOf2_0 : decode b_AR_copyOf2 0 = .ok (.aload_n 0, 1) := by decide +kernel
theorem d_AR_copyOf2_1 : decode b_AR_copyOf2 1 = .ok (.iload_n 1, 1) := by decide +kernel
theorem d_AR_copyOf2_2 : decode b_AR_copyOf2 2 = .ok (.aload_n 0, 1) := by decide +kernel
theorem d_AR_copyOf2_3 : decode b_AR_copyOf2 3 = .ok (.invokevirtual 86, 3) := by decide +kernel
theorem d_AR_copyOf2_6 : decode b_AR_copyOf2 6 = .ok (.invokestatic 300, 3) := by decide +kernel
theorem d_AR_copyOf2_9 : decode b_AR_copyOf2 9 = .ok (.areturn, 1) := by decide +kernel
theorem d_AR_copyOf3_0 : decode b_AR_copyOf3 0 = .ok (.aload_n 2, 1) := by decide +kernel
theorem d_AR_copyOf3_1 : decode b_AR_copyOf3 1 = .ok (.ldc 110, 2) := by decide +kernel
theorem d_AR_copyOf3_3 : decode b_AR_copyOf3 3 = .ok (.if_acmp .ne 10, 3) := by decide +kernel
theorem d_AR_copyOf3_6 : decode b_AR_copyOf3 6 = .ok (.iload_n 1, 1) := by decide +kernel
theorem d_AR_copyOf3_7 : decode b_AR_copyOf3 7 = .ok (.anewarray 2, 3) := by decide +kernel
theorem d_AR_copyOf3_10 : decode b_AR_copyOf3 10 = .ok (.goto 14, 3) := by decide +kernel
theorem d_AR_copyOf3_13 : decode b_AR_copyOf3 13 = .ok (.aload_n 2, 1) := by decide +kernel
theorem d_AR_copyOf3_14 : decode b_AR_copyOf3 14 = .ok (.invokevirtual 90, 3) := by decide +kernel
theorem d_AR_copyOf3_17 : decode b_AR_copyOf3 17 = .ok (.iload_n 1, 1) := by decide +kernel
theorem d_AR_copyOf3_18 : decode b_AR_copyOf3 18 = .ok (.invokestatic 95, 3) := by decide +kernel
theorem d_AR_copyOf3_21 : decode b_AR_copyOf3 21 = .ok (.checkcast 110, 3) := by decide +kernel
theorem d_AR_copyOf3_24 : decode b_AR_copyOf3 24 = .ok (.astore_n 3, 1) := by decide +kernel
theorem d_AR_copyOf3_25 : decode b_AR_copyOf3 25 = .ok (.aload_n 0, 1) := by decide +kernel
theorem d_AR_copyOf3_26 : decode b_AR_copyOf3 26 = .ok (.iconst 0, 1) := by decide +kernel
theorem d_AR_copyOf3_27 : decode b_AR_copyOf3 27 = .ok (.aload_n 3, 1) := by decide +kernel
theorem d_AR_copyOf3_28 : decode b_AR_copyOf3 28 = .ok (.iconst 0, 1) := by decide +kernel
theorem d_AR_copyOf3_29 : decode b_AR_copyOf3 29 = .ok (.aload_n 0, 1) := by decide +kernel
theorem d_AR_copyOf3_30 : decode b_AR_copyOf3 30 = .ok (.arraylength, 1) := by decide +kernel
theorem d_AR_copyOf3_31 : decode b_AR_copyOf3 31 = .ok (.iload_n 1, 1) := by decide +kernel
theorem d_AR_copyOf3_32 : decode b_AR_copyOf3 32 = .ok (.invokestatic 304, 3) := by decide +kernel
theorem d_AR_copyOf3_35 : decode b_AR_copyOf3 35 = .ok (.invokestatic 150, 3) := by decide +kernel
theorem d_AR_copyOf3_38 : decode b_AR_copyOf3 38 = .ok (.aload_n 3, 1) := by decide +kernel
theorem d_AR_copyOf3_39 : decode b_AR_copyOf3 39 = .ok (.areturn, 1) := by decide +kernel
theorem d_MA_min_0 : decode b_MA_min 0 = .ok (.iload_n 0, 1) := by decide +kernel
theorem d_MA_min_1 : decode b_MA_min 1 = .ok (.iload_n 1, 1) := by decide +kernel
theorem d_MA_min_2 : decode b_MA_min 2 = .ok (.if_icmp .gt 7, 3) := by decide +kernel
theorem d_MA_min_5 : decode b_MA_min 5 = .ok (.iload_n 0, 1) := by decide +kernel
theorem d_MA_min_6 : decode b_MA_min 6 = .ok (.goto 4, 3) := by decide +kernel
theorem d_MA_min_9 : decode b_MA_min 9 = .ok (.iload_n 1, 1) := by decide +kernel
theorem d_MA_min_10 : decode b_MA_min 10 = .ok (.ireturn, 1) := by decide +kernel
theorem d_L_expression_0 : decode b_L_expression 0 = .ok (.aload 5, 2) := by decide +kernel
theorem d_L_expression_2 : decode b_L_expression 2 = .ok (.iconst 0, 1) := by decide +kernel
theorem d_L_expression_3 : decode b_L_expression 3 = .ok (.aload_n 0, 1) := by decide +kernel
theorem d_L_expression_4 : decode b_L_expression 4 = .ok (.iload_n 1, 1) := by decide +kernel
theorem d_L_expression_5 : decode b_L_expression 5 = .ok (.iload_n 2, 1) := by decide +kernel
theorem d_L_expression_6 : decode b_L_expression 6 = .ok (.iload_n 3, 1) := by decide +kernel
theorem d_L_expression_7 : decode b_L_expression 7 = .ok (.iload 4, 2) := by decide +kernel
theorem d_L_expression_9 : decode b_L_expression 9 = .ok (.invokevirtual 7, 3) := by decide +kernel
theorem d_L_expression_12 : decode b_L_expression 12 = .ok (.i2l, 1) := by decide +kernel
theorem d_L_expression_13 : decode b_L_expression 13 = .ok (.lastore, 1) := by decide +kernel
theorem d_L_expression_14 : decode b_L_expression 14 = .ok (.goto 11, 3) := by decide +kernel
theorem d_L_expression_17 : decode b_L_expression 17 = .ok (.astore 6, 2) := by decide +kernel
theorem d_L_expression_19 : decode b_L_expression 19 = .ok (.iconst 1, 1) := by decide +kernel
theorem d_L_expression_20 : decode b_L_expression 20 = .ok (.ireturn, 1) := by decide +kernel
theorem d_L_expression_21 : decode b_L_expression 21 = .ok (.astore 6, 2) := by decide +kernel
theorem d_L_expression_23 : decode b_L_expression 23 = .ok (.iconst 2, 1) := by decide +kernel
theorem d_L_expression_24 : decode b_L_expression 24 = .ok (.ireturn, 1) := by decide +kernel
theorem d_L_expression_25 : decode b_L_expression 25 = .ok (.iconst 0, 1) := by decide +kernel
theorem d_L_expression_26 : decode b_L_expression 26 = .ok (.ireturn, 1) := by decide +kernel
theorem d_C_expression_0 : decode b_C_expression 0 = .ok (.aload_n 0, 1) := by decide +kernel
theorem d_C_expression_1 : decode b_C_expression 1 = .ok (.iload_n 1, 1) := by decide +kernel
theorem d_C_expression_2 : decode b_C_expression 2 = .ok (.iload_n 2, 1) := by decide +kernel
theorem d_C_expression_3 : decode b_C_expression 3 = .ok (.iload_n 3, 1) := by decide +kernel
theorem d_C_expression_4 : decode b_C_expression 4 = .ok (.iload 4, 2) := by decide +kernel
theorem d_C_expression_6 : decode b_C_expression 6 = .ok (.invokevirtual 52, 3) := by decide +kernel
theorem d_C_expression_9 : decode b_C_expression 9 = .ok (.ifCond .ne 11, 3) := by decide +kernel
theorem d_C_expression_12 : decode b_C_expression 12 = .ok (.new 56, 3) := by decide +kernel
theorem d_C_expression_15 : decode b_C_expression 15 = .ok (.dup, 1) := by decide +kernel
theorem d_C_expression_16 : decode b_C_expression 16 = .ok (.invokespecial 58, 3) := by decide +kernel
theorem d_C_expression_19 : decode b_C_expression 19 = .ok (.athrow, 1) := by decide +kernel
theorem d_C_expression_20 : decode b_C_expression 20 = .ok (.aload_n 0, 1) := by decide +kernel
theorem d_C_expression_21 : decode b_C_expression 21 = .ok (.iload_n 1, 1) := by decide +kernel
theorem d_C_expression_22 : decode b_C_expression 22 = .ok (.iload_n 2, 1) := by decide +kernel
theorem d_C_expression_23 : decode b_C_expression 23 = .ok (.iload_n 3, 1) := by decide +kernel
theorem d_C_expression_24 : decode b_C_expression 24 = .ok (.iload 4, 2) := by decide +kernel
theorem d_C_expression_26 : decode b_C_expression 26 = .ok (.invokevirtual 59, 3) := by decide +kernel
theorem d_C_expression_29 : decode b_C_expression 29 = .ok (.ifCond .ne 11, 3) := by decide +kernel
theorem d_C_expression_32 : decode b_C_expression 32 = .ok (.new 62, 3) := by decide +kernel
theorem d_C_expression_35 : decode b_C_expression 35 = .ok (.dup, 1) := by decide +kernel
theorem d_C_expression_36 : decode b_C_expression 36 = .ok (.invokespecial 64, 3) := by decide +kernel
theorem d_C_expression_39 : decode b_C_expression 39 = .ok (.athrow, 1) := by decide +kernel
theorem d_C_expression_40 : decode b_C_expression 40 = .ok (.aload_n 0, 1) := by decide +kernel
theorem d_C_expression_41 : decode b_C_expression 41 = .ok (.getfield 30, 3) := by decide +kernel
theorem d_C_expression_44 : decode b_C_expression 44 = .ok (.iload_n 1, 1) := by decide +kernel
theorem d_C_expression_45 : decode b_C_expression 45 = .ok (.iconst 1, 1) := by decide +kernel
theorem d_C_expression_46 : decode b_C_expression 46 = .ok (.if_icmp .ne 10, 3) := by decide +kernel
theorem d_C_expression_49 : decode b_C_expression 49 = .ok (.aload_n 0, 1) := by decide +kernel
theorem d_C_expression_50 : decode b_C_expression 50 = .ok (.invokevirtual 65, 3) := by decide +kernel
theorem d_C_expression_53 : decode b_C_expression 53 = .ok (.goto 20, 3) := by decide +kernel
theorem d_C_expression_56 : decode b_C_expression 56 = .ok (.new 69, 3) := by decide +kernel
theorem d_C_expression_59 : decode b_C_expression 59 = .ok (.dup, 1) := by decide +kernel
theorem d_C_expression_60 : decode b_C_expression 60 = .ok (.aload_n 0, 1) := by decide +kernel
theorem d_C_expression_61 : decode b_C_expression 61 = .ok (.iload_n 1, 1) := by decide +kernel
theorem d_C_expression_62 : decode b_C_expression 62 = .ok (.iload_n 2, 1) := by decide +kernel
theorem d_C_expression_63 : decode b_C_expression 63 = .ok (.iload_n 3, 1) := by decide +kernel
theorem d_C_expression_64 : decode b_C_expression 64 = .ok (.iload 4, 2) := by decide +kernel
theorem d_C_expression_66 : decode b_C_expression 66 = .ok (.invokevirtual 71, 3) := by decide +kernel
theorem d_C_expression_69 : decode b_C_expression 69 = .ok (.iconst 0, 1) := by decide +kernel
theorem d_C_expression_70 : decode b_C_expression 70 = .ok (.invokespecial 75, 3) := by decide +kernel
theorem d_C_expression_73 : decode b_C_expression 73 = .ok (.invokevirtual 48, 3) := by decide +kernel
theorem d_C_expression_76 : decode b_C_expression 76 = .ok (.pop, 1) := by decide +kernel
theorem d_C_expression_77 : decode b_C_expression 77 = .ok (.aload_n 0, 1) := by decide +kernel
theorem d_C_expression_78 : decode b_C_expression 78 = .ok (.getfield 30, 3) := by decide +kernel
theorem d_C_expression_81 : decode b_C_expression 81 = .ok (.invokevirtual 78, 3) := by decide +kernel
theorem d_C_expression_84 : decode b_C_expression 84 = .ok (.iconst 1, 1) := by decide +kernel
theorem d_C_expression_85 : decode b_C_expression 85 = .ok (.isub, 1) := by decide +kernel
theorem d_C_expression_86 : decode b_C_expression 86 = .ok (.ireturn, 1) := by decide +kernel
theorem d_C_isWellFormed_0 : decode b_C_isWellFormed 0 = .ok (.iload_n 1, 1) := by decide +kernel
theorem d_C_isWellFormed_1 : decode b_C_isWellFormed 1 = .ok (.ifCond .lt 9, 3) := by decide +kernel
theorem d_C_isWellFormed_4 : decode b_C_isWellFormed 4 = .ok (.iload_n 1, 1) := by decide +kernel
theorem d_C_isWellFormed_5 : decode b_C_isWellFormed 5 = .ok (.bipush 9, 2) := by decide +kernel
theorem d_C_isWellFormed_7 : decode b_C_isWellFormed 7 = .ok (.if_icmp .le 5, 3) := by decide +kernel
theorem d_C_isWellFormed_10 : decode b_C_isWellFormed 10 = .ok (.iconst 0, 1) := by decide +kernel
theorem d_C_isWellFormed_11 : decode b_C_isWellFormed 11 = .ok (.ireturn, 1) := by decide +kernel
theorem d_C_isWellFormed_12 : decode b_C_isWellFormed 12 = .ok (.iload_n 1, 1) := by decide +kernel
theorem d_C_isWellFormed_13 : decode b_C_isWellFormed 13 = .ok (.iconst 2, 1) := by decide +kernel
theorem d_C_isWellFormed_14 : decode b_C_isWellFormed 14 = .ok (.if_icmp .lt 13, 3) := by decide +kernel
theorem d_C_isWellFormed_17 : decode b_C_isWellFormed 17 = .ok (.aload_n 0, 1) := by decide +kernel
theorem d_C_isWellFormed_18 : decode b_C_isWellFormed 18 = .ok (.iload_n 2, 1) := by decide +kernel
theorem d_C_isWellFormed_19 : decode b_C_isWellFormed 19 = .ok (.invokevirtual 82, 3) := by decide +kernel
theorem d_C_isWellFormed_22 : decode b_C_isWellFormed 22 = .ok (.ifCond .ne 5, 3) := by decide +kernel
theorem d_C_isWellFormed_25 : decode b_C_isWellFormed 25 = .ok (.iconst 0, 1) := by decide +kernel
theorem d_C_isWellFormed_26 : decode b_C_isWellFormed 26 = .ok (.ireturn, 1) := by decide +kernel
theorem d_C_isWellFormed_27 : decode b_C_isWellFormed 27 = .ok (.iload_n 1, 1) := by decide +kernel
theorem d_C_isWellFormed_28 : decode b_C_isWellFormed 28 = .ok (.iconst 2, 1) := by decide +kernel
theorem d_C_isWellFormed_29 : decode b_C_isWellFormed 29 = .ok (.if_icmp .lt 19, 3) := by decide +kernel
theorem d_C_isWellFormed_32 : decode b_C_isWellFormed 32 = .ok (.iload_n 1, 1) := by decide +kernel
theorem d_C_isWellFormed_33 : decode b_C_isWellFormed 33 = .ok (.bipush 7, 2) := by decide +kernel
theorem d_C_isWellFormed_35 : decode b_C_isWellFormed 35 = .ok (.if_icmp .gt 13, 3) := by decide +kernel
theorem d_C_isWellFormed_38 : decode b_C_isWellFormed 38 = .ok (.aload_n 0, 1) := by decide +kernel
theorem d_C_isWellFormed_39 : decode b_C_isWellFormed 39 = .ok (.iload_n 3, 1) := by decide +kernel
theorem d_C_isWellFormed_40 : decode b_C_isWellFormed 40 = .ok (.invokevirtual 82, 3) := by decide +kernel
theorem d_C_isWellFormed_43 : decode b_C_isWellFormed 43 = .ok (.ifCond .ne 5, 3) := by decide +kernel
theorem d_C_isWellFormed_46 : decode b_C_isWellFormed 46 = .ok (.iconst 0, 1) := by decide +kernel
theorem d_C_isWellFormed_47 : decode b_C_isWellFormed 47 = .ok (.ireturn, 1) := by decide +kernel
theorem d_C_isWellFormed_48 : decode b_C_isWellFormed 48 = .ok (.iload_n 1, 1) := by decide +kernel
theorem d_C_isWellFormed_49 : decode b_C_isWellFormed 49 = .ok (.bipush 7, 2) := by decide +kernel
theorem d_C_isWellFormed_51 : decode b_C_isWellFormed 51 = .ok (.if_icmp .ne 14, 3) := by decide +kernel
theorem d_C_isWellFormed_54 : decode b_C_isWellFormed 54 = .ok (.aload_n 0, 1) := by decide +kernel
theorem d_C_isWellFormed_55 : decode b_C_isWellFormed 55 = .ok (.iload 4, 2) := by decide +kernel
theorem d_C_isWellFormed_57 : decode b_C_isWellFormed 57 = .ok (.invokevirtual 82, 3) := by decide +kernel
theorem d_C_isWellFormed_60 : decode b_C_isWellFormed 60 = .ok (.ifCond .ne 5, 3) := by decide +kernel
theorem d_C_isWellFormed_63 : decode b_C_isWellFormed 63 = .ok (.iconst 0, 1) := by decide +kernel
theorem d_C_isWellFormed_64 : decode b_C_isWellFormed 64 = .ok (.ireturn, 1) := by decide +kernel
theorem d_C_isWellFormed_65 : decode b_C_isWellFormed 65 = .ok (.iload_n 1, 1) := by decide +kernel
theorem d_C_isWellFormed_66 : decode b_C_isWellFormed 66 = .ok (.bipush 9, 2) := by decide +kernel
theorem d_C_isWellFormed_68 : decode b_C_isWellFormed 68 = .ok (.if_icmp .ne 13, 3) := by decide +kernel
theorem d_C_isWellFormed_71 : decode b_C_isWellFormed 71 = .ok (.iload_n 3, 1) := by decide +kernel
theorem d_C_isWellFormed_72 : decode b_C_isWellFormed 72 = .ok (.iconst 1, 1) := by decide +kernel
theorem d_C_isWellFormed_73 : decode b_C_isWellFormed 73 = .ok (.if_icmp .lt 12, 3) := by decide +kernel
theorem d_C_isWellFormed_76 : decode b_C_isWellFormed 76 = .ok (.iload_n 3, 1) := by decide +kernel
theorem d_C_isWellFormed_77 : decode b_C_isWellFormed 77 = .ok (.iconst 5, 1) := by decide +kernel
theorem d_C_isWellFormed_78 : decode b_C_isWellFormed 78 = .ok (.if_icmp .gt 7, 3) := by decide +kernel
theorem d_C_isWellFormed_81 : decode b_C_isWellFormed 81 = .ok (.iconst 1, 1) := by decide +kernel
theorem d_C_isWellFormed_82 : decode b_C_isWellFormed 82 = .ok (.goto 4, 3) := by decide +kernel
theorem d_C_isWellFormed_85 : decode b_C_isWellFormed 85 = .ok (.iconst 0, 1) := by decide +kernel
theorem d_C_isWellFormed_86 : decode b_C_isWellFormed 86 = .ok (.ireturn, 1) := by decide +kernel
theorem d_C_isMade_0 : decode b_C_isMade 0 = .ok (.iload_n 1, 1) := by decide +kernel
theorem d_C_isMade_1 : decode b_C_isMade 1 = .ok (.ifCond .lt 18, 3) := by decide +kernel
theorem d_C_isMade_4 : decode b_C_isMade 4 = .ok (.iload_n 1, 1) := by decide +kernel
theorem d_C_isMade_5 : decode b_C_isMade 5 = .ok (.aload_n 0, 1) := by decide +kernel
theorem d_C_isMade_6 : decode b_C_isMade 6 = .ok (.getfield 30, 3) := by decide +kernel
theorem d_C_isMade_9 : decode b_C_isMade 9 = .ok (.invokevirtual 78, 3) := by decide +kernel
theorem d_C_isMade_12 : decode b_C_isMade 12 = .ok (.if_icmp .ge 7, 3) := by decide +kernel
theorem d_C_isMade_15 : decode b_C_isMade 15 = .ok (.iconst 1, 1) := by decide +kernel
theorem d_C_isMade_16 : decode b_C_isMade 16 = .ok (.goto 4, 3) := by decide +kernel
theorem d_C_isMade_19 : decode b_C_isMade 19 = .ok (.iconst 0, 1) := by decide +kernel
theorem d_C_isMade_20 : decode b_C_isMade 20 = .ok (.ireturn, 1) := by decide +kernel
theorem d_A_size_0 : decode b_A_size 0 = .ok (.aload_n 0, 1) := by decide +kernel
theorem d_A_size_1 : decode b_A_size 1 = .ok (.getfield 48, 3) := by decide +kernel
theorem d_A_size_4 : decode b_A_size 4 = .ok (.ireturn, 1) := by decide +kernel
theorem d_C_hasRoomFor_0 : decode b_C_hasRoomFor 0 = .ok (.aload_n 0, 1) := by decide +kernel
theorem d_C_hasRoomFor_1 : decode b_C_hasRoomFor 1 = .ok (.iload_n 1, 1) := by decide +kernel
theorem d_C_hasRoomFor_2 : decode b_C_hasRoomFor 2 = .ok (.iload_n 2, 1) := by decide +kernel
theorem d_C_hasRoomFor_3 : decode b_C_hasRoomFor 3 = .ok (.iload_n 3, 1) := by decide +kernel
theorem d_C_hasRoomFor_4 : decode b_C_hasRoomFor 4 = .ok (.iload 4, 2) := by decide +kernel
theorem d_C_hasRoomFor_6 : decode b_C_hasRoomFor 6 = .ok (.invokevirtual 181, 3) := by decide +kernel
theorem d_C_hasRoomFor_9 : decode b_C_hasRoomFor 9 = .ok (.istore 5, 2) := by decide +kernel
theorem d_C_hasRoomFor_11 : decode b_C_hasRoomFor 11 = .ok (.iload_n 1, 1) := by decide +kernel
theorem d_C_hasRoomFor_12 : decode b_C_hasRoomFor 12 = .ok (.iconst 1, 1) := by decide +kernel
theorem d_C_hasRoomFor_13 : decode b_C_hasRoomFor 13 = .ok (.if_icmp .ne 7, 3) := by decide +kernel
theorem d_C_hasRoomFor_16 : decode b_C_hasRoomFor 16 = .ok (.iconst 1, 1) := by decide +kernel
theorem d_C_hasRoomFor_17 : decode b_C_hasRoomFor 17 = .ok (.goto 5, 3) := by decide +kernel
theorem d_C_hasRoomFor_20 : decode b_C_hasRoomFor 20 = .ok (.iload 5, 2) := by decide +kernel
theorem d_C_hasRoomFor_22 : decode b_C_hasRoomFor 22 = .ok (.istore 6, 2) := by decide +kernel
theorem d_C_hasRoomFor_24 : decode b_C_hasRoomFor 24 = .ok (.aload_n 0, 1) := by decide +kernel
theorem d_C_hasRoomFor_25 : decode b_C_hasRoomFor 25 = .ok (.getfield 30, 3) := by decide +kernel
theorem d_C_hasRoomFor_28 : decode b_C_hasRoomFor 28 = .ok (.invokevirtual 78, 3) := by decide +kernel
theorem d_C_hasRoomFor_31 : decode b_C_hasRoomFor 31 = .ok (.bipush 60, 2) := by decide +kernel
theorem d_C_hasRoomFor_33 : decode b_C_hasRoomFor 33 = .ok (.if_icmp .ge 37, 3) := by decide +kernel
theorem d_C_hasRoomFor_36 : decode b_C_hasRoomFor 36 = .ok (.aload_n 0, 1) := by decide +kernel
theorem d_C_hasRoomFor_37 : decode b_C_hasRoomFor 37 = .ok (.getfield 26, 3) := by decide +kernel
theorem d_C_hasRoomFor_40 : decode b_C_hasRoomFor 40 = .ok (.invokevirtual 78, 3) := by decide +kernel
theorem d_C_hasRoomFor_43 : decode b_C_hasRoomFor 43 = .ok (.iload 6, 2) := by decide +kernel
theorem d_C_hasRoomFor_45 : decode b_C_hasRoomFor 45 = .ok (.iadd, 1) := by decide +kernel
theorem d_C_hasRoomFor_46 : decode b_C_hasRoomFor 46 = .ok (.bipush 60, 2) := by decide +kernel
theorem d_C_hasRoomFor_48 : decode b_C_hasRoomFor 48 = .ok (.if_icmp .gt 22, 3) := by decide +kernel
theorem d_C_hasRoomFor_51 : decode b_C_hasRoomFor 51 = .ok (.aload_n 0, 1) := by decide +kernel
theorem d_C_hasRoomFor_52 : decode b_C_hasRoomFor 52 = .ok (.getfield 33, 3) := by decide +kernel
theorem d_C_hasRoomFor_55 : decode b_C_hasRoomFor 55 = .ok (.invokevirtual 78, 3) := by decide +kernel
theorem d_C_hasRoomFor_58 : decode b_C_hasRoomFor 58 = .ok (.iload 5, 2) := by decide +kernel
theorem d_C_hasRoomFor_60 : decode b_C_hasRoomFor 60 = .ok (.iadd, 1) := by decide +kernel
theorem d_C_hasRoomFor_61 : decode b_C_hasRoomFor 61 = .ok (.bipush 80, 2) := by decide +kernel
theorem d_C_hasRoomFor_63 : decode b_C_hasRoomFor 63 = .ok (.if_icmp .gt 7, 3) := by decide +kernel
theorem d_C_hasRoomFor_66 : decode b_C_hasRoomFor 66 = .ok (.iconst 1, 1) := by decide +kernel
theorem d_C_hasRoomFor_67 : decode b_C_hasRoomFor 67 = .ok (.goto 4, 3) := by decide +kernel
theorem d_C_hasRoomFor_70 : decode b_C_hasRoomFor 70 = .ok (.iconst 0, 1) := by decide +kernel
theorem d_C_hasRoomFor_71 : decode b_C_hasRoomFor 71 = .ok (.ireturn, 1) := by decide +kernel
theorem d_C_constraintsNeeded_0 : decode b_C_constraintsNeeded 0 = .ok (.iload_n 1, 1) := by decide +kernel
theorem d_C_constraintsNeeded_1 : decode b_C_constraintsNeeded 1 = .ok (.tableswitch 89 4 9 #[39, 53, 53, 55, 89, 71], 39) := by decide +kernel
theorem d_C_constraintsNeeded_40 : decode b_C_constraintsNeeded 40 = .ok (.aload_n 0, 1) := by decide +kernel
theorem d_C_constraintsNeeded_41 : decode b_C_constraintsNeeded 41 = .ok (.iload_n 2, 1) := by decide +kernel
theorem d_C_constraintsNeeded_42 : decode b_C_constraintsNeeded 42 = .ok (.invokevirtual 94, 3) := by decide +kernel
theorem d_C_constraintsNeeded_45 : decode b_C_constraintsNeeded 45 = .ok (.aload_n 0, 1) := by decide +kernel
theorem d_C_constraintsNeeded_46 : decode b_C_constraintsNeeded 46 = .ok (.iload_n 3, 1) := by decide +kernel
theorem d_C_constraintsNeeded_47 : decode b_C_constraintsNeeded 47 = .ok (.invokevirtual 94, 3) := by decide +kernel
theorem d_C_constraintsNeeded_50 : decode b_C_constraintsNeeded 50 = .ok (.invokestatic 185, 3) := by decide +kernel
theorem d_C_constraintsNeeded_53 : decode b_C_constraintsNeeded 53 = .ok (.ireturn, 1) := by decide +kernel
theorem d_C_constraintsNeeded_54 : decode b_C_constraintsNeeded 54 = .ok (.iconst 2, 1) := by decide +kernel
theorem d_C_constraintsNeeded_55 : decode b_C_constraintsNeeded 55 = .ok (.ireturn, 1) := by decide +kernel
theorem d_C_constraintsNeeded_56 : decode b_C_constraintsNeeded 56 = .ok (.aload_n 0, 1) := by decide +kernel
theorem d_C_constraintsNeeded_57 : decode b_C_constraintsNeeded 57 = .ok (.iload 4, 2) := by decide +kernel
theorem d_C_constraintsNeeded_59 : decode b_C_constraintsNeeded 59 = .ok (.invokevirtual 94, 3) := by decide +kernel
theorem d_C_constraintsNeeded_62 : decode b_C_constraintsNeeded 62 = .ok (.aload_n 0, 1) := by decide +kernel
theorem d_C_constraintsNeeded_63 : decode b_C_constraintsNeeded 63 = .ok (.iload_n 2, 1) := by decide +kernel
theorem d_C_constraintsNeeded_64 : decode b_C_constraintsNeeded 64 = .ok (.iload_n 3, 1) := by decide +kernel
theorem d_C_constraintsNeeded_65 : decode b_C_constraintsNeeded 65 = .ok (.invokevirtual 86, 3) := by decide +kernel
theorem d_C_constraintsNeeded_68 : decode b_C_constraintsNeeded 68 = .ok (.invokestatic 185, 3) := by decide +kernel
theorem d_C_constraintsNeeded_71 : decode b_C_constraintsNeeded 71 = .ok (.ireturn, 1) := by decide +kernel
theorem d_C_constraintsNeeded_72 : decode b_C_constraintsNeeded 72 = .ok (.iload_n 3, 1) := by decide +kernel
theorem d_C_constraintsNeeded_73 : decode b_C_constraintsNeeded 73 = .ok (.iconst 1, 1) := by decide +kernel
theorem d_C_constraintsNeeded_74 : decode b_C_constraintsNeeded 74 = .ok (.isub, 1) := by decide +kernel
theorem d_C_constraintsNeeded_75 : decode b_C_constraintsNeeded 75 = .ok (.aload_n 0, 1) := by decide +kernel
theorem d_C_constraintsNeeded_76 : decode b_C_constraintsNeeded 76 = .ok (.iload_n 2, 1) := by decide +kernel
theorem d_C_constraintsNeeded_77 : decode b_C_constraintsNeeded 77 = .ok (.invokevirtual 94, 3) := by decide +kernel
theorem d_C_constraintsNeeded_80 : decode b_C_constraintsNeeded 80 = .ok (.aload_n 0, 1) := by decide +kernel
theorem d_C_constraintsNeeded_81 : decode b_C_constraintsNeeded 81 = .ok (.iload_n 2, 1) := by decide +kernel
theorem d_C_constraintsNeeded_82 : decode b_C_constraintsNeeded 82 = .ok (.invokevirtual 94, 3) := by decide +kernel
theorem d_C_constraintsNeeded_85 : decode b_C_constraintsNeeded 85 = .ok (.invokestatic 185, 3) := by decide +kernel
theorem d_C_constraintsNeeded_88 : decode b_C_constraintsNeeded 88 = .ok (.imul, 1) := by decide +kernel
theorem d_C_constraintsNeeded_89 : decode b_C_constraintsNeeded 89 = .ok (.ireturn, 1) := by decide +kernel
