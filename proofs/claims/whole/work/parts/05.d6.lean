theorem d_M_bad_21 : decode b_M_bad 21 = .ok (.ifCond .ne 6, 3) := by decide +kernel
theorem d_M_bad_24 : decode b_M_bad 24 = .ok (.iinc 1 1, 3) := by decide +kernel
theorem d_M_bad_27 : decode b_M_bad 27 = .ok (.iinc 2 1, 3) := by decide +kernel
theorem d_M_bad_30 : decode b_M_bad 30 = .ok (.goto (-26), 3) := by decide +kernel
theorem d_M_bad_33 : decode b_M_bad 33 = .ok (.iload_n 1, 1) := by decide +kernel
theorem d_M_bad_34 : decode b_M_bad 34 = .ok (.ireturn, 1) := by decide +kernel
theorem d_M_holds_0 : decode b_M_holds 0 = .ok (.aload_n 0, 1) := by decide +kernel
theorem d_M_holds_1 : decode b_M_holds 1 = .ok (.iload_n 1, 1) := by decide +kernel
theorem d_M_holds_2 : decode b_M_holds 2 = .ok (.iconst 0, 1) := by decide +kernel
theorem d_M_holds_3 : decode b_M_holds 3 = .ok (.aload_n 2, 1) := by decide +kernel
theorem d_M_holds_4 : decode b_M_holds 4 = .ok (.invokevirtual 128, 3) := by decide +kernel
theorem d_M_holds_7 : decode b_M_holds 7 = .ok (.aload_n 0, 1) := by decide +kernel
theorem d_M_holds_8 : decode b_M_holds 8 = .ok (.iload_n 1, 1) := by decide +kernel
theorem d_M_holds_9 : decode b_M_holds 9 = .ok (.iconst 1, 1) := by decide +kernel
theorem d_M_holds_10 : decode b_M_holds 10 = .ok (.aload_n 2, 1) := by decide +kernel
theorem d_M_holds_11 : decode b_M_holds 11 = .ok (.invokevirtual 128, 3) := by decide +kernel
theorem d_M_holds_14 : decode b_M_holds 14 = .ok (.imul, 1) := by decide +kernel
theorem d_M_holds_15 : decode b_M_holds 15 = .ok (.bipush 97, 2) := by decide +kernel
theorem d_M_holds_17 : decode b_M_holds 17 = .ok (.irem, 1) := by decide +kernel
theorem d_M_holds_18 : decode b_M_holds 18 = .ok (.aload_n 0, 1) := by decide +kernel
theorem d_M_holds_19 : decode b_M_holds 19 = .ok (.iload_n 1, 1) := by decide +kernel
theorem d_M_holds_20 : decode b_M_holds 20 = .ok (.iconst 2, 1) := by decide +kernel
theorem d_M_holds_21 : decode b_M_holds 21 = .ok (.aload_n 2, 1) := by decide +kernel
theorem d_M_holds_22 : decode b_M_holds 22 = .ok (.invokevirtual 128, 3) := by decide +kernel
theorem d_M_holds_25 : decode b_M_holds 25 = .ok (.if_icmp .ne 7, 3) := by decide +kernel
theorem d_M_holds_28 : decode b_M_holds 28 = .ok (.iconst 1, 1) := by decide +kernel
theorem d_M_holds_29 : decode b_M_holds 29 = .ok (.goto 4, 3) := by decide +kernel
theorem d_M_holds_32 : decode b_M_holds 32 = .ok (.iconst 0, 1) := by decide +kernel
theorem d_M_holds_33 : decode b_M_holds 33 = .ok (.ireturn, 1) := by decide +kernel
theorem d_M_value_0 : decode b_M_value 0 = .ok (.aload_n 0, 1) := by decide +kernel
theorem d_M_value_1 : decode b_M_value 1 = .ok (.iconst 0, 1) := by decide +kernel
theorem d_M_value_2 : decode b_M_value 2 = .ok (.putfield 50, 3) := by decide +kernel
theorem d_M_value_5 : decode b_M_value 5 = .ok (.aload_n 0, 1) := by decide +kernel
theorem d_M_value_6 : decode b_M_value 6 = .ok (.iload_n 1, 1) := by decide +kernel
theorem d_M_value_7 : decode b_M_value 7 = .ok (.invokevirtual 86, 3) := by decide +kernel
theorem d_M_value_10 : decode b_M_value 10 = .ok (.ifCond .ne 9, 3) := by decide +kernel
theorem d_M_value_13 : decode b_M_value 13 = .ok (.aload_n 0, 1) := by decide +kernel
theorem d_M_value_14 : decode b_M_value 14 = .ok (.iconst 1, 1) := by decide +kernel
theorem d_M_value_15 : decode b_M_value 15 = .ok (.invokevirtual 117, 3) := by decide +kernel
theorem d_M_value_18 : decode b_M_value 18 = .ok (.ireturn, 1) := by decide +kernel
theorem d_M_value_19 : decode b_M_value 19 = .ok (.aload_n 0, 1) := by decide +kernel
theorem d_M_value_20 : decode b_M_value 20 = .ok (.getfield 135, 3) := by decide +kernel
theorem d_M_value_23 : decode b_M_value 23 = .ok (.ifCond .ne 9, 3) := by decide +kernel
theorem d_M_value_26 : decode b_M_value 26 = .ok (.aload_n 0, 1) := by decide +kernel
theorem d_M_value_27 : decode b_M_value 27 = .ok (.iconst 2, 1) := by decide +kernel
theorem d_M_value_28 : decode b_M_value 28 = .ok (.invokevirtual 117, 3) := by decide +kernel
theorem d_M_value_31 : decode b_M_value 31 = .ok (.ireturn, 1) := by decide +kernel
theorem d_M_value_32 : decode b_M_value 32 = .ok (.iconst 0, 1) := by decide +kernel
theorem d_M_value_33 : decode b_M_value 33 = .ok (.istore_n 2, 1) := by decide +kernel
theorem d_M_value_34 : decode b_M_value 34 = .ok (.iconst 0, 1) := by decide +kernel
theorem d_M_value_35 : decode b_M_value 35 = .ok (.istore_n 3, 1) := by decide +kernel
theorem d_M_value_36 : decode b_M_value 36 = .ok (.iload_n 3, 1) := by decide +kernel
theorem d_M_value_37 : decode b_M_value 37 = .ok (.bipush 60, 2) := by decide +kernel
theorem d_M_value_39 : decode b_M_value 39 = .ok (.if_icmp .ge 58, 3) := by decide +kernel
theorem d_M_value_42 : decode b_M_value 42 = .ok (.iload_n 3, 1) := by decide +kernel
theorem d_M_value_43 : decode b_M_value 43 = .ok (.aload_n 0, 1) := by decide +kernel
theorem d_M_value_44 : decode b_M_value 44 = .ok (.getfield 139, 3) := by decide +kernel
theorem d_M_value_47 : decode b_M_value 47 = .ok (.if_icmp .lt 23, 3) := by decide +kernel
theorem d_M_value_50 : decode b_M_value 50 = .ok (.aload_n 0, 1) := by decide +kernel
theorem d_M_value_51 : decode b_M_value 51 = .ok (.getfield 7, 3) := by decide +kernel
theorem d_M_value_54 : decode b_M_value 54 = .ok (.bipush 60, 2) := by decide +kernel
theorem d_M_value_56 : decode b_M_value 56 = .ok (.iload_n 1, 1) := by decide +kernel
theorem d_M_value_57 : decode b_M_value 57 = .ok (.imul, 1) := by decide +kernel
theorem d_M_value_58 : decode b_M_value 58 = .ok (.iload_n 3, 1) := by decide +kernel
theorem d_M_value_59 : decode b_M_value 59 = .ok (.iadd, 1) := by decide +kernel
theorem d_M_value_60 : decode b_M_value 60 = .ok (.iaload, 1) := by decide +kernel
theorem d_M_value_61 : decode b_M_value 61 = .ok (.ifCond .eq 9, 3) := by decide +kernel
theorem d_M_value_64 : decode b_M_value 64 = .ok (.aload_n 0, 1) := by decide +kernel
theorem d_M_value_65 : decode b_M_value 65 = .ok (.iconst 2, 1) := by decide +kernel
theorem d_M_value_66 : decode b_M_value 66 = .ok (.invokevirtual 117, 3) := by decide +kernel
theorem d_M_value_69 : decode b_M_value 69 = .ok (.ireturn, 1) := by decide +kernel
theorem d_M_value_70 : decode b_M_value 70 = .ok (.iload_n 2, 1) := by decide +kernel
theorem d_M_value_71 : decode b_M_value 71 = .ok (.aload_n 0, 1) := by decide +kernel
theorem d_M_value_72 : decode b_M_value 72 = .ok (.getfield 7, 3) := by decide +kernel
theorem d_M_value_75 : decode b_M_value 75 = .ok (.bipush 60, 2) := by decide +kernel
theorem d_M_value_77 : decode b_M_value 77 = .ok (.iload_n 1, 1) := by decide +kernel
theorem d_M_value_78 : decode b_M_value 78 = .ok (.imul, 1) := by decide +kernel
theorem d_M_value_79 : decode b_M_value 79 = .ok (.iload_n 3, 1) := by decide +kernel
theorem d_M_value_80 : decode b_M_value 80 = .ok (.iadd, 1) := by decide +kernel
theorem d_M_value_81 : decode b_M_value 81 = .ok (.iaload, 1) := by decide +kernel
theorem d_M_value_82 : decode b_M_value 82 = .ok (.aload_n 0, 1) := by decide +kernel
theorem d_M_value_83 : decode b_M_value 83 = .ok (.getfield 47, 3) := by decide +kernel
theorem d_M_value_86 : decode b_M_value 86 = .ok (.iload_n 3, 1) := by decide +kernel
theorem d_M_value_87 : decode b_M_value 87 = .ok (.iaload, 1) := by decide +kernel
theorem d_M_value_88 : decode b_M_value 88 = .ok (.imul, 1) := by decide +kernel
theorem d_M_value_89 : decode b_M_value 89 = .ok (.iadd, 1) := by decide +kernel
theorem d_M_value_90 : decode b_M_value 90 = .ok (.istore_n 2, 1) := by decide +kernel
theorem d_M_value_91 : decode b_M_value 91 = .ok (.iinc 3 1, 3) := by decide +kernel
theorem d_M_value_94 : decode b_M_value 94 = .ok (.goto (-58), 3) := by decide +kernel
theorem d_M_value_97 : decode b_M_value 97 = .ok (.iload_n 2, 1) := by decide +kernel
theorem d_M_value_98 : decode b_M_value 98 = .ok (.bipush 97, 2) := by decide +kernel
theorem d_M_value_100 : decode b_M_value 100 = .ok (.irem, 1) := by decide +kernel
theorem d_M_value_101 : decode b_M_value 101 = .ok (.ireturn, 1) := by decide +kernel
theorem d_M_tamper_0 : decode b_M_tamper 0 = .ok (.aload_n 0, 1) := by decide +kernel
theorem d_M_tamper_1 : decode b_M_tamper 1 = .ok (.iconst 0, 1) := by decide +kernel
theorem d_M_tamper_2 : decode b_M_tamper 2 = .ok (.putfield 50, 3) := by decide +kernel
theorem d_M_tamper_5 : decode b_M_tamper 5 = .ok (.aload_n 0, 1) := by decide +kernel
theorem d_M_tamper_6 : decode b_M_tamper 6 = .ok (.getfield 135, 3) := by decide +kernel
theorem d_M_tamper_9 : decode b_M_tamper 9 = .ok (.ifCond .ne 9, 3) := by decide +kernel
theorem d_M_tamper_12 : decode b_M_tamper 12 = .ok (.aload_n 0, 1) := by decide +kernel
theorem d_M_tamper_13 : decode b_M_tamper 13 = .ok (.iconst 1, 1) := by decide +kernel
theorem d_M_tamper_14 : decode b_M_tamper 14 = .ok (.invokevirtual 117, 3) := by decide +kernel
theorem d_M_tamper_17 : decode b_M_tamper 17 = .ok (.ireturn, 1) := by decide +kernel
theorem d_M_tamper_18 : decode b_M_tamper 18 = .ok (.iload_n 1, 1) := by decide +kernel
theorem d_M_tamper_19 : decode b_M_tamper 19 = .ok (.iconst 1, 1) := by decide +kernel
theorem d_M_tamper_20 : decode b_M_tamper 20 = .ok (.aload_n 0, 1) := by decide +kernel
theorem d_M_tamper_21 : decode b_M_tamper 21 = .ok (.getfield 139, 3) := by decide +kernel
theorem d_M_tamper_24 : decode b_M_tamper 24 = .ok (.iconst 1, 1) := by decide +kernel
theorem d_M_tamper_25 : decode b_M_tamper 25 = .ok (.isub, 1) := by decide +kernel
theorem d_M_tamper_26 : decode b_M_tamper 26 = .ok (.invokestatic 56, 3) := by decide +kernel
theorem d_M_tamper_29 : decode b_M_tamper 29 = .ok (.ifCond .ne 9, 3) := by decide +kernel
theorem d_M_tamper_32 : decode b_M_tamper 32 = .ok (.aload_n 0, 1) := by decide +kernel
theorem d_M_tamper_33 : decode b_M_tamper 33 = .ok (.iconst 2, 1) := by decide +kernel
theorem d_M_tamper_34 : decode b_M_tamper 34 = .ok (.invokevirtual 117, 3) := by decide +kernel
theorem d_M_tamper_37 : decode b_M_tamper 37 = .ok (.ireturn, 1) := by decide +kernel
theorem d_M_tamper_38 : decode b_M_tamper 38 = .ok (.aload_n 0, 1) := by decide +kernel
theorem d_M_tamper_39 : decode b_M_tamper 39 = .ok (.getfield 47, 3) := by decide +kernel
theorem d_M_tamper_42 : decode b_M_tamper 42 = .ok (.iload_n 1, 1) := by decide +kernel
theorem d_M_tamper_43 : decode b_M_tamper 43 = .ok (.iaload, 1) := by decide +kernel
theorem d_M_tamper_44 : decode b_M_tamper 44 = .ok (.istore_n 3, 1) := by decide +kernel
theorem d_M_tamper_45 : decode b_M_tamper 45 = .ok (.aload_n 0, 1) := by decide +kernel
theorem d_M_tamper_46 : decode b_M_tamper 46 = .ok (.getfield 47, 3) := by decide +kernel
theorem d_M_tamper_49 : decode b_M_tamper 49 = .ok (.iload_n 1, 1) := by decide +kernel
theorem d_M_tamper_50 : decode b_M_tamper 50 = .ok (.iload_n 2, 1) := by decide +kernel
theorem d_M_tamper_51 : decode b_M_tamper 51 = .ok (.invokestatic 60, 3) := by decide +kernel
theorem d_M_tamper_54 : decode b_M_tamper 54 = .ok (.iastore, 1) := by decide +kernel
theorem d_M_tamper_55 : decode b_M_tamper 55 = .ok (.iload_n 3, 1) := by decide +kernel
theorem d_M_tamper_56 : decode b_M_tamper 56 = .ok (.ireturn, 1) := by decide +kernel
theorem d_M_broken_0 : decode b_M_broken 0 = .ok (.aload_n 0, 1) := by decide +kernel
theorem d_M_broken_1 : decode b_M_broken 1 = .ok (.iconst 0, 1) := by decide +kernel
theorem d_M_broken_2 : decode b_M_broken 2 = .ok (.putfield 50, 3) := by decide +kernel
theorem d_M_broken_5 : decode b_M_broken 5 = .ok (.aload_n 0, 1) := by decide +kernel
theorem d_M_broken_6 : decode b_M_broken 6 = .ok (.getfield 135, 3) := by decide +kernel
theorem d_M_broken_9 : decode b_M_broken 9 = .ok (.ifCond .eq 10, 3) := by decide +kernel
theorem d_M_broken_12 : decode b_M_broken 12 = .ok (.aload_n 0, 1) := by decide +kernel
theorem d_M_broken_13 : decode b_M_broken 13 = .ok (.invokevirtual 145, 3) := by decide +kernel
theorem d_M_broken_16 : decode b_M_broken 16 = .ok (.goto 8, 3) := by decide +kernel
theorem d_M_broken_19 : decode b_M_broken 19 = .ok (.aload_n 0, 1) := by decide +kernel
theorem d_M_broken_20 : decode b_M_broken 20 = .ok (.iconst 1, 1) := by decide +kernel
theorem d_M_broken_21 : decode b_M_broken 21 = .ok (.invokevirtual 117, 3) := by decide +kernel
theorem d_M_broken_24 : decode b_M_broken 24 = .ok (.ireturn, 1) := by decide +kernel
theorem d_M_first_0 : decode b_M_first 0 = .ok (.aload_n 0, 1) := by decide +kernel
theorem d_M_first_1 : decode b_M_first 1 = .ok (.iconst 0, 1) := by decide +kernel
theorem d_M_first_2 : decode b_M_first 2 = .ok (.putfield 50, 3) := by decide +kernel
theorem d_M_first_5 : decode b_M_first 5 = .ok (.aload_n 0, 1) := by decide +kernel
theorem d_M_first_6 : decode b_M_first 6 = .ok (.getfield 135, 3) := by decide +kernel
theorem d_M_first_9 : decode b_M_first 9 = .ok (.ifCond .ne 9, 3) := by decide +kernel
theorem d_M_first_12 : decode b_M_first 12 = .ok (.aload_n 0, 1) := by decide +kernel
theorem d_M_first_13 : decode b_M_first 13 = .ok (.iconst 1, 1) := by decide +kernel
theorem d_M_first_14 : decode b_M_first 14 = .ok (.invokevirtual 117, 3) := by decide +kernel
theorem d_M_first_17 : decode b_M_first 17 = .ok (.ireturn, 1) := by decide +kernel
theorem d_M_first_18 : decode b_M_first 18 = .ok (.iconst 0, 1) := by decide +kernel
theorem d_M_first_19 : decode b_M_first 19 = .ok (.istore_n 1, 1) := by decide +kernel
theorem d_M_first_20 : decode b_M_first 20 = .ok (.iload_n 1, 1) := by decide +kernel
theorem d_M_first_21 : decode b_M_first 21 = .ok (.aload_n 0, 1) := by decide +kernel
theorem d_M_first_22 : decode b_M_first 22 = .ok (.getfield 142, 3) := by decide +kernel
theorem d_M_first_25 : decode b_M_first 25 = .ok (.if_icmp .ge 23, 3) := by decide +kernel
theorem d_M_first_28 : decode b_M_first 28 = .ok (.aload_n 0, 1) := by decide +kernel
theorem d_M_first_29 : decode b_M_first 29 = .ok (.iload_n 1, 1) := by decide +kernel
theorem d_M_first_30 : decode b_M_first 30 = .ok (.aload_n 0, 1) := by decide +kernel
theorem d_M_first_31 : decode b_M_first 31 = .ok (.getfield 47, 3) := by decide +kernel
theorem d_M_first_34 : decode b_M_first 34 = .ok (.invokevirtual 149, 3) := by decide +kernel
theorem d_M_first_37 : decode b_M_first 37 = .ok (.ifCond .ne 5, 3) := by decide +kernel
theorem d_M_first_40 : decode b_M_first 40 = .ok (.iload_n 1, 1) := by decide +kernel
theorem d_M_first_41 : decode b_M_first 41 = .ok (.ireturn, 1) := by decide +kernel
theorem d_M_first_42 : decode b_M_first 42 = .ok (.iinc 1 1, 3) := by decide +kernel
theorem d_M_first_45 : decode b_M_first 45 = .ok (.goto (-25), 3) := by decide +kernel
theorem d_M_first_48 : decode b_M_first 48 = .ok (.aload_n 0, 1) := by decide +kernel
theorem d_M_first_49 : decode b_M_first 49 = .ok (.iconst 2, 1) := by decide +kernel
theorem d_M_first_50 : decode b_M_first 50 = .ok (.invokevirtual 117, 3) := by decide +kernel
theorem d_M_first_53 : decode b_M_first 53 = .ok (.ireturn, 1) := by decide +kernel
theorem d_M_coefficient_0 : decode b_M_coefficient 0 = .ok (.aload_n 0, 1) := by decide +kernel
theorem d_M_coefficient_1 : decode b_M_coefficient 1 = .ok (.iconst 0, 1) := by decide +kernel
theorem d_M_coefficient_2 : decode b_M_coefficient 2 = .ok (.putfield 50, 3) := by decide +kernel
theorem d_M_coefficient_5 : decode b_M_coefficient 5 = .ok (.iload_n 1, 1) := by decide +kernel
theorem d_M_coefficient_6 : decode b_M_coefficient 6 = .ok (.iconst 0, 1) := by decide +kernel
theorem d_M_coefficient_7 : decode b_M_coefficient 7 = .ok (.aload_n 0, 1) := by decide +kernel
theorem d_M_coefficient_8 : decode b_M_coefficient 8 = .ok (.getfield 72, 3) := by decide +kernel
theorem d_M_coefficient_11 : decode b_M_coefficient 11 = .ok (.iconst 1, 1) := by decide +kernel
theorem d_M_coefficient_12 : decode b_M_coefficient 12 = .ok (.isub, 1) := by decide +kernel
theorem d_M_coefficient_13 : decode b_M_coefficient 13 = .ok (.invokestatic 56, 3) := by decide +kernel
theorem d_M_coefficient_16 : decode b_M_coefficient 16 = .ok (.ifCond .ne 9, 3) := by decide +kernel
theorem d_M_coefficient_19 : decode b_M_coefficient 19 = .ok (.aload_n 0, 1) := by decide +kernel
theorem d_M_coefficient_20 : decode b_M_coefficient 20 = .ok (.iconst 1, 1) := by decide +kernel
theorem d_M_coefficient_21 : decode b_M_coefficient 21 = .ok (.invokevirtual 117, 3) := by decide +kernel
theorem d_M_coefficient_24 : decode b_M_coefficient 24 = .ok (.ireturn, 1) := by decide +kernel
theorem d_M_coefficient_25 : decode b_M_coefficient 25 = .ok (.iload_n 2, 1) := by decide +kernel
theorem d_M_coefficient_26 : decode b_M_coefficient 26 = .ok (.iconst 0, 1) := by decide +kernel
theorem d_M_coefficient_27 : decode b_M_coefficient 27 = .ok (.iconst 2, 1) := by decide +kernel
theorem d_M_coefficient_28 : decode b_M_coefficient 28 = .ok (.invokestatic 56, 3) := by decide +kernel
theorem d_M_coefficient_31 : decode b_M_coefficient 31 = .ok (.ifCond .eq 33, 3) := by decide +kernel
theorem d_M_coefficient_34 : decode b_M_coefficient 34 = .ok (.iload_n 3, 1) := by decide +kernel
theorem d_M_coefficient_35 : decode b_M_coefficient 35 = .ok (.iconst 0, 1) := by decide +kernel
theorem d_M_coefficient_36 : decode b_M_coefficient 36 = .ok (.bipush 59, 2) := by decide +kernel
theorem d_M_coefficient_38 : decode b_M_coefficient 38 = .ok (.invokestatic 56, 3) := by decide +kernel
theorem d_M_coefficient_41 : decode b_M_coefficient 41 = .ok (.ifCond .eq 23, 3) := by decide +kernel
theorem d_M_coefficient_44 : decode b_M_coefficient 44 = .ok (.aload_n 0, 1) := by decide +kernel
theorem d_M_coefficient_45 : decode b_M_coefficient 45 = .ok (.getfield 32, 3) := by decide +kernel
theorem d_M_coefficient_48 : decode b_M_coefficient 48 = .ok (.sipush 180, 3) := by decide +kernel
theorem d_M_coefficient_51 : decode b_M_coefficient 51 = .ok (.iload_n 1, 1) := by decide +kernel
theorem d_M_coefficient_52 : decode b_M_coefficient 52 = .ok (.imul, 1) := by decide +kernel
theorem d_M_coefficient_53 : decode b_M_coefficient 53 = .ok (.bipush 60, 2) := by decide +kernel
theorem d_M_coefficient_55 : decode b_M_coefficient 55 = .ok (.iload_n 2, 1) := by decide +kernel
theorem d_M_coefficient_56 : decode b_M_coefficient 56 = .ok (.imul, 1) := by decide +kernel
theorem d_M_coefficient_57 : decode b_M_coefficient 57 = .ok (.iadd, 1) := by decide +kernel
theorem d_M_coefficient_58 : decode b_M_coefficient 58 = .ok (.iload_n 3, 1) := by decide +kernel
theorem d_M_coefficient_59 : decode b_M_coefficient 59 = .ok (.iadd, 1) := by decide +kernel
theorem d_M_coefficient_60 : decode b_M_coefficient 60 = .ok (.iaload, 1) := by decide +kernel
theorem d_M_coefficient_61 : decode b_M_coefficient 61 = .ok (.goto 8, 3) := by decide +kernel
theorem d_M_coefficient_64 : decode b_M_coefficient 64 = .ok (.aload_n 0, 1) := by decide +kernel
theorem d_M_coefficient_65 : decode b_M_coefficient 65 = .ok (.iconst 2, 1) := by decide +kernel
theorem d_M_coefficient_66 : decode b_M_coefficient 66 = .ok (.invokevirtual 117, 3) := by decide +kernel
theorem d_M_coefficient_69 : decode b_M_coefficient 69 = .ok (.ireturn, 1) := by decide +kernel
theorem d_M_terms_0 : decode b_M_terms 0 = .ok (.aload_n 0, 1) := by decide +kernel
theorem d_M_terms_1 : decode b_M_terms 1 = .ok (.iconst 0, 1) := by decide +kernel
theorem d_M_terms_2 : decode b_M_terms 2 = .ok (.putfield 50, 3) := by decide +kernel
theorem d_M_terms_5 : decode b_M_terms 5 = .ok (.aload_n 0, 1) := by decide +kernel
theorem d_M_terms_6 : decode b_M_terms 6 = .ok (.iload_n 1, 1) := by decide +kernel
theorem d_M_terms_7 : decode b_M_terms 7 = .ok (.invokevirtual 86, 3) := by decide +kernel
theorem d_M_terms_10 : decode b_M_terms 10 = .ok (.ifCond .ne 9, 3) := by decide +kernel
theorem d_M_terms_13 : decode b_M_terms 13 = .ok (.aload_n 0, 1) := by decide +kernel
theorem d_M_terms_14 : decode b_M_terms 14 = .ok (.iconst 1, 1) := by decide +kernel
theorem d_M_terms_15 : decode b_M_terms 15 = .ok (.invokevirtual 117, 3) := by decide +kernel
theorem d_M_terms_18 : decode b_M_terms 18 = .ok (.ireturn, 1) := by decide +kernel
theorem d_M_terms_19 : decode b_M_terms 19 = .ok (.iconst 0, 1) := by decide +kernel
theorem d_M_terms_20 : decode b_M_terms 20 = .ok (.istore_n 2, 1) := by decide +kernel
theorem d_M_terms_21 : decode b_M_terms 21 = .ok (.iconst 0, 1) := by decide +kernel
theorem d_M_terms_22 : decode b_M_terms 22 = .ok (.istore_n 3, 1) := by decide +kernel
theorem d_M_terms_23 : decode b_M_terms 23 = .ok (.iload_n 3, 1) := by decide +kernel
theorem d_M_terms_24 : decode b_M_terms 24 = .ok (.bipush 60, 2) := by decide +kernel
theorem d_M_terms_26 : decode b_M_terms 26 = .ok (.if_icmp .ge 26, 3) := by decide +kernel
theorem d_M_terms_29 : decode b_M_terms 29 = .ok (.aload_n 0, 1) := by decide +kernel
theorem d_M_terms_30 : decode b_M_terms 30 = .ok (.getfield 7, 3) := by decide +kernel
theorem d_M_terms_33 : decode b_M_terms 33 = .ok (.bipush 60, 2) := by decide +kernel
theorem d_M_terms_35 : decode b_M_terms 35 = .ok (.iload_n 1, 1) := by decide +kernel
theorem d_M_terms_36 : decode b_M_terms 36 = .ok (.imul, 1) := by decide +kernel
theorem d_M_terms_37 : decode b_M_terms 37 = .ok (.iload_n 3, 1) := by decide +kernel
theorem d_M_terms_38 : decode b_M_terms 38 = .ok (.iadd, 1) := by decide +kernel
theorem d_M_terms_39 : decode b_M_terms 39 = .ok (.iaload, 1) := by decide +kernel
theorem d_M_terms_40 : decode b_M_terms 40 = .ok (.ifCond .eq 6, 3) := by decide +kernel
theorem d_M_terms_43 : decode b_M_terms 43 = .ok (.iinc 2 1, 3) := by decide +kernel
theorem d_M_terms_46 : decode b_M_terms 46 = .ok (.iinc 3 1, 3) := by decide +kernel
theorem d_M_terms_49 : decode b_M_terms 49 = .ok (.goto (-26), 3) := by decide +kernel
theorem d_M_terms_52 : decode b_M_terms 52 = .ok (.iload_n 2, 1) := by decide +kernel
theorem d_M_terms_53 : decode b_M_terms 53 = .ok (.ireturn, 1) := by decide +kernel
theorem d_M_uses_0 : decode b_M_uses 0 = .ok (.aload_n 0, 1) := by decide +kernel
theorem d_M_uses_1 : decode b_M_uses 1 = .ok (.iconst 0, 1) := by decide +kernel
theorem d_M_uses_2 : decode b_M_uses 2 = .ok (.putfield 50, 3) := by decide +kernel
theorem d_M_uses_5 : decode b_M_uses 5 = .ok (.iload_n 1, 1) := by decide +kernel
theorem d_M_uses_6 : decode b_M_uses 6 = .ok (.iconst 0, 1) := by decide +kernel
theorem d_M_uses_7 : decode b_M_uses 7 = .ok (.bipush 59, 2) := by decide +kernel
theorem d_M_uses_9 : decode b_M_uses 9 = .ok (.invokestatic 56, 3) := by decide +kernel
theorem d_M_uses_12 : decode b_M_uses 12 = .ok (.ifCond .ne 9, 3) := by decide +kernel
theorem d_M_uses_15 : decode b_M_uses 15 = .ok (.aload_n 0, 1) := by decide +kernel
theorem d_M_uses_16 : decode b_M_uses 16 = .ok (.iconst 1, 1) := by decide +kernel
theorem d_M_uses_17 : decode b_M_uses 17 = .ok (.invokevirtual 117, 3) := by decide +kernel
theorem d_M_uses_20 : decode b_M_uses 20 = .ok (.ireturn, 1) := by decide +kernel
theorem d_M_uses_21 : decode b_M_uses 21 = .ok (.iconst 0, 1) := by decide +kernel
theorem d_M_uses_22 : decode b_M_uses 22 = .ok (.istore_n 2, 1) := by decide +kernel
theorem d_M_uses_23 : decode b_M_uses 23 = .ok (.iconst 0, 1) := by decide +kernel
theorem d_M_uses_24 : decode b_M_uses 24 = .ok (.istore_n 3, 1) := by decide +kernel
theorem d_M_uses_25 : decode b_M_uses 25 = .ok (.iload_n 3, 1) := by decide +kernel
theorem d_M_uses_26 : decode b_M_uses 26 = .ok (.aload_n 0, 1) := by decide +kernel
theorem d_M_uses_27 : decode b_M_uses 27 = .ok (.getfield 72, 3) := by decide +kernel
theorem d_M_uses_30 : decode b_M_uses 30 = .ok (.if_icmp .ge 57, 3) := by decide +kernel
theorem d_M_uses_33 : decode b_M_uses 33 = .ok (.sipush 180, 3) := by decide +kernel
theorem d_M_uses_36 : decode b_M_uses 36 = .ok (.iload_n 3, 1) := by decide +kernel
theorem d_M_uses_37 : decode b_M_uses 37 = .ok (.imul, 1) := by decide +kernel
theorem d_M_uses_38 : decode b_M_uses 38 = .ok (.iload_n 1, 1) := by decide +kernel
theorem d_M_uses_39 : decode b_M_uses 39 = .ok (.iadd, 1) := by decide +kernel
theorem d_M_uses_40 : decode b_M_uses 40 = .ok (.istore 4, 2) := by decide +kernel
theorem d_M_uses_42 : decode b_M_uses 42 = .ok (.aload_n 0, 1) := by decide +kernel
theorem d_M_uses_43 : decode b_M_uses 43 = .ok (.getfield 32, 3) := by decide +kernel
theorem d_M_uses_46 : decode b_M_uses 46 = .ok (.iload 4, 2) := by decide +kernel
theorem d_M_uses_48 : decode b_M_uses 48 = .ok (.iaload, 1) := by decide +kernel
theorem d_M_uses_49 : decode b_M_uses 49 = .ok (.ifCond .ne 29, 3) := by decide +kernel
theorem d_M_uses_52 : decode b_M_uses 52 = .ok (.aload_n 0, 1) := by decide +kernel
theorem d_M_uses_53 : decode b_M_uses 53 = .ok (.getfield 32, 3) := by decide +kernel
theorem d_M_uses_56 : decode b_M_uses 56 = .ok (.iload 4, 2) := by decide +kernel
theorem d_M_uses_58 : decode b_M_uses 58 = .ok (.bipush 60, 2) := by decide +kernel
theorem d_M_uses_60 : decode b_M_uses 60 = .ok (.iadd, 1) := by decide +kernel
theorem d_M_uses_61 : decode b_M_uses 61 = .ok (.iaload, 1) := by decide +kernel
theorem d_M_uses_62 : decode b_M_uses 62 = .ok (.ifCond .ne 16, 3) := by decide +kernel
theorem d_M_uses_65 : decode b_M_uses 65 = .ok (.aload_n 0, 1) := by decide +kernel
theorem d_M_uses_66 : decode b_M_uses 66 = .ok (.getfield 32, 3) := by decide +kernel
theorem d_M_uses_69 : decode b_M_uses 69 = .ok (.iload 4, 2) := by decide +kernel
theorem d_M_uses_71 : decode b_M_uses 71 = .ok (.bipush 120, 2) := by decide +kernel
theorem d_M_uses_73 : decode b_M_uses 73 = .ok (.iadd, 1) := by decide +kernel
theorem d_M_uses_74 : decode b_M_uses 74 = .ok (.iaload, 1) := by decide +kernel
theorem d_M_uses_75 : decode b_M_uses 75 = .ok (.ifCond .eq 6, 3) := by decide +kernel
theorem d_M_uses_78 : decode b_M_uses 78 = .ok (.iinc 2 1, 3) := by decide +kernel
theorem d_M_uses_81 : decode b_M_uses 81 = .ok (.iinc 3 1, 3) := by decide +kernel
theorem d_M_uses_84 : decode b_M_uses 84 = .ok (.goto (-59), 3) := by decide +kernel
theorem d_M_uses_87 : decode b_M_uses 87 = .ok (.iload_n 2, 1) := by decide +kernel
theorem d_M_uses_88 : decode b_M_uses 88 = .ok (.ireturn, 1) := by decide +kernel
theorem d_M_count_0 : decode b_M_count 0 = .ok (.aload_n 0, 1) := by decide +kernel
theorem d_M_count_1 : decode b_M_count 1 = .ok (.iconst 0, 1) := by decide +kernel
theorem d_M_count_2 : decode b_M_count 2 = .ok (.putfield 50, 3) := by decide +kernel
theorem d_M_count_5 : decode b_M_count 5 = .ok (.iconst 0, 1) := by decide +kernel
theorem d_M_count_6 : decode b_M_count 6 = .ok (.istore_n 2, 1) := by decide +kernel
theorem d_M_count_7 : decode b_M_count 7 = .ok (.iload_n 1, 1) := by decide +kernel
theorem d_M_count_8 : decode b_M_count 8 = .ok (.tableswitch 115 0 5 #[40, 45, 50, 55, 86, 99], 40) := by decide +kernel
theorem d_M_count_48 : decode b_M_count 48 = .ok (.aload_n 0, 1) := by decide +kernel
theorem d_M_count_49 : decode b_M_count 49 = .ok (.getfield 53, 3) := by decide +kernel
theorem d_M_count_52 : decode b_M_count 52 = .ok (.ireturn, 1) := by decide +kernel
theorem d_M_count_53 : decode b_M_count 53 = .ok (.aload_n 0, 1) := by decide +kernel
theorem d_M_count_54 : decode b_M_count 54 = .ok (.getfield 28, 3) := by decide +kernel
theorem d_M_count_57 : decode b_M_count 57 = .ok (.ireturn, 1) := by decide +kernel
theorem d_M_count_58 : decode b_M_count 58 = .ok (.aload_n 0, 1) := by decide +kernel
theorem d_M_count_59 : decode b_M_count 59 = .ok (.getfield 72, 3) := by decide +kernel
theorem d_M_count_62 : decode b_M_count 62 = .ok (.ireturn, 1) := by decide +kernel
theorem d_M_count_63 : decode b_M_count 63 = .ok (.iconst 0, 1) := by decide +kernel
theorem d_M_count_64 : decode b_M_count 64 = .ok (.istore_n 3, 1) := by decide +kernel
theorem d_M_count_65 : decode b_M_count 65 = .ok (.iload_n 3, 1) := by decide +kernel
theorem d_M_count_66 : decode b_M_count 66 = .ok (.aload_n 0, 1) := by decide +kernel
theorem d_M_count_67 : decode b_M_count 67 = .ok (.getfield 53, 3) := by decide +kernel
theorem d_M_count_70 : decode b_M_count 70 = .ok (.if_icmp .ge 22, 3) := by decide +kernel
theorem d_M_count_73 : decode b_M_count 73 = .ok (.aload_n 0, 1) := by decide +kernel
theorem d_M_count_74 : decode b_M_count 74 = .ok (.getfield 13, 3) := by decide +kernel
theorem d_M_count_77 : decode b_M_count 77 = .ok (.iload_n 3, 1) := by decide +kernel
theorem d_M_count_78 : decode b_M_count 78 = .ok (.iaload, 1) := by decide +kernel
theorem d_M_count_79 : decode b_M_count 79 = .ok (.iconst 1, 1) := by decide +kernel
theorem d_M_count_80 : decode b_M_count 80 = .ok (.if_icmp .ne 6, 3) := by decide +kernel
theorem d_M_count_83 : decode b_M_count 83 = .ok (.iinc 2 1, 3) := by decide +kernel
theorem d_M_count_86 : decode b_M_count 86 = .ok (.iinc 3 1, 3) := by decide +kernel
theorem d_M_count_89 : decode b_M_count 89 = .ok (.goto (-24), 3) := by decide +kernel
theorem d_M_count_92 : decode b_M_count 92 = .ok (.iload_n 2, 1) := by decide +kernel
theorem d_M_count_93 : decode b_M_count 93 = .ok (.ireturn, 1) := by decide +kernel
theorem d_M_count_94 : decode b_M_count 94 = .ok (.aload_n 0, 1) := by decide +kernel
theorem d_M_count_95 : decode b_M_count 95 = .ok (.getfield 135, 3) := by decide +kernel
theorem d_M_count_98 : decode b_M_count 98 = .ok (.ifCond .eq 7, 3) := by decide +kernel
theorem d_M_count_101 : decode b_M_count 101 = .ok (.iconst 1, 1) := by decide +kernel
theorem d_M_count_102 : decode b_M_count 102 = .ok (.goto 4, 3) := by decide +kernel
theorem d_M_count_105 : decode b_M_count 105 = .ok (.iconst 0, 1) := by decide +kernel
theorem d_M_count_106 : decode b_M_count 106 = .ok (.ireturn, 1) := by decide +kernel
theorem d_M_count_107 : decode b_M_count 107 = .ok (.aload_n 0, 1) := by decide +kernel
theorem d_M_count_108 : decode b_M_count 108 = .ok (.getfield 135, 3) := by decide +kernel
theorem d_M_count_111 : decode b_M_count 111 = .ok (.ifCond .eq 10, 3) := by decide +kernel
theorem d_M_count_114 : decode b_M_count 114 = .ok (.aload_n 0, 1) := by decide +kernel
theorem d_M_count_115 : decode b_M_count 115 = .ok (.getfield 139, 3) := by decide +kernel
theorem d_M_count_118 : decode b_M_count 118 = .ok (.goto 4, 3) := by decide +kernel
theorem d_M_count_121 : decode b_M_count 121 = .ok (.iconst 0, 1) := by decide +kernel
theorem d_M_count_122 : decode b_M_count 122 = .ok (.ireturn, 1) := by decide +kernel
theorem d_M_count_123 : decode b_M_count 123 = .ok (.aload_n 0, 1) := by decide +kernel
theorem d_M_count_124 : decode b_M_count 124 = .ok (.iconst 1, 1) := by decide +kernel
theorem d_M_count_125 : decode b_M_count 125 = .ok (.invokevirtual 117, 3) := by decide +kernel
theorem d_M_count_128 : decode b_M_count 128 = .ok (.ireturn, 1) := by decide +kernel
theorem d_L_law_0 : decode b_L_law 0 = .ok (.new 8, 3) := by decide +kernel
theorem d_L_law_3 : decode b_L_law 3 = .ok (.dup, 1) := by decide +kernel
theorem d_L_law_4 : decode b_L_law 4 = .ok (.invokespecial 60, 3) := by decide +kernel
theorem d_L_law_7 : decode b_L_law 7 = .ok (.astore_n 1, 1) := by decide +kernel
theorem d_L_law_8 : decode b_L_law 8 = .ok (.new 61, 3) := by decide +kernel
theorem d_L_law_11 : decode b_L_law 11 = .ok (.dup, 1) := by decide +kernel
theorem d_L_law_12 : decode b_L_law 12 = .ok (.invokespecial 63, 3) := by decide +kernel
theorem d_L_law_15 : decode b_L_law 15 = .ok (.astore_n 2, 1) := by decide +kernel
theorem d_L_law_16 : decode b_L_law 16 = .ok (.iconst 1, 1) := by decide +kernel
theorem d_L_law_17 : decode b_L_law 17 = .ok (.newarray .long, 2) := by decide +kernel
theorem d_L_law_19 : decode b_L_law 19 = .ok (.astore_n 3, 1) := by decide +kernel
theorem d_L_law_20 : decode b_L_law 20 = .ok (.iconst 0, 1) := by decide +kernel
theorem d_L_law_21 : decode b_L_law 21 = .ok (.istore 4, 2) := by decide +kernel
theorem d_L_law_23 : decode b_L_law 23 = .ok (.iload 4, 2) := by decide +kernel
theorem d_L_law_25 : decode b_L_law 25 = .ok (.aload_n 0, 1) := by decide +kernel
theorem d_L_law_26 : decode b_L_law 26 = .ok (.arraylength, 1) := by decide +kernel
theorem d_L_law_27 : decode b_L_law 27 = .ok (.iconst 5, 1) := by decide +kernel
theorem d_L_law_28 : decode b_L_law 28 = .ok (.isub, 1) := by decide +kernel
theorem d_L_law_29 : decode b_L_law 29 = .ok (.if_icmp .gt 821, 3) := by decide +kernel
theorem d_L_law_32 : decode b_L_law 32 = .ok (.aload_n 0, 1) := by decide +kernel
theorem d_L_law_33 : decode b_L_law 33 = .ok (.iload 4, 2) := by decide +kernel
theorem d_L_law_35 : decode b_L_law 35 = .ok (.iaload, 1) := by decide +kernel
theorem d_L_law_36 : decode b_L_law 36 = .ok (.bipush 15, 2) := by decide +kernel
theorem d_L_law_38 : decode b_L_law 38 = .ok (.iand, 1) := by decide +kernel
theorem d_L_law_39 : decode b_L_law 39 = .ok (.tableswitch 805 0 11 #[61, 153, 233, 301, 345, 401, 469, 513, 557, 637, 693, 749], 61) := by decide +kernel
theorem d_L_law_100 : decode b_L_law 100 = .ok (.aload_n 1, 1) := by decide +kernel
theorem d_L_law_101 : decode b_L_law 101 = .ok (.aload_n 0, 1) := by decide +kernel
theorem d_L_law_102 : decode b_L_law 102 = .ok (.iload 4, 2) := by decide +kernel
theorem d_L_law_104 : decode b_L_law 104 = .ok (.iconst 1, 1) := by decide +kernel
theorem d_L_law_105 : decode b_L_law 105 = .ok (.iadd, 1) := by decide +kernel
theorem d_L_law_106 : decode b_L_law 106 = .ok (.iaload, 1) := by decide +kernel
theorem d_L_law_107 : decode b_L_law 107 = .ok (.aload_n 0, 1) := by decide +kernel
theorem d_L_law_108 : decode b_L_law 108 = .ok (.iload 4, 2) := by decide +kernel
theorem d_L_law_110 : decode b_L_law 110 = .ok (.iconst 2, 1) := by decide +kernel
theorem d_L_law_111 : decode b_L_law 111 = .ok (.iadd, 1) := by decide +kernel
theorem d_L_law_112 : decode b_L_law 112 = .ok (.iaload, 1) := by decide +kernel
theorem d_L_law_113 : decode b_L_law 113 = .ok (.aload_n 0, 1) := by decide +kernel
theorem d_L_law_114 : decode b_L_law 114 = .ok (.iload 4, 2) := by decide +kernel
theorem d_L_law_116 : decode b_L_law 116 = .ok (.iconst 3, 1) := by decide +kernel
theorem d_L_law_117 : decode b_L_law 117 = .ok (.iadd, 1) := by decide +kernel
theorem d_L_law_118 : decode b_L_law 118 = .ok (.iaload, 1) := by decide +kernel
theorem d_L_law_119 : decode b_L_law 119 = .ok (.aload_n 0, 1) := by decide +kernel
theorem d_L_law_120 : decode b_L_law 120 = .ok (.iload 4, 2) := by decide +kernel
theorem d_L_law_122 : decode b_L_law 122 = .ok (.iconst 4, 1) := by decide +kernel
theorem d_L_law_123 : decode b_L_law 123 = .ok (.iadd, 1) := by decide +kernel
theorem d_L_law_124 : decode b_L_law 124 = .ok (.iaload, 1) := by decide +kernel
theorem d_L_law_125 : decode b_L_law 125 = .ok (.aload_n 3, 1) := by decide +kernel
theorem d_L_law_126 : decode b_L_law 126 = .ok (.invokestatic 64, 3) := by decide +kernel
theorem d_L_law_129 : decode b_L_law 129 = .ok (.istore 5, 2) := by decide +kernel
theorem d_L_law_131 : decode b_L_law 131 = .ok (.aload_n 2, 1) := by decide +kernel
theorem d_L_law_132 : decode b_L_law 132 = .ok (.aload_n 0, 1) := by decide +kernel
theorem d_L_law_133 : decode b_L_law 133 = .ok (.iload 4, 2) := by decide +kernel
theorem d_L_law_135 : decode b_L_law 135 = .ok (.iconst 1, 1) := by decide +kernel
theorem d_L_law_136 : decode b_L_law 136 = .ok (.iadd, 1) := by decide +kernel
theorem d_L_law_137 : decode b_L_law 137 = .ok (.iaload, 1) := by decide +kernel
theorem d_L_law_138 : decode b_L_law 138 = .ok (.aload_n 0, 1) := by decide +kernel
theorem d_L_law_139 : decode b_L_law 139 = .ok (.iload 4, 2) := by decide +kernel
theorem d_L_law_141 : decode b_L_law 141 = .ok (.iconst 2, 1) := by decide +kernel
theorem d_L_law_142 : decode b_L_law 142 = .ok (.iadd, 1) := by decide +kernel
theorem d_L_law_143 : decode b_L_law 143 = .ok (.iaload, 1) := by decide +kernel
theorem d_L_law_144 : decode b_L_law 144 = .ok (.aload_n 0, 1) := by decide +kernel
theorem d_L_law_145 : decode b_L_law 145 = .ok (.iload 4, 2) := by decide +kernel
theorem d_L_law_147 : decode b_L_law 147 = .ok (.iconst 3, 1) := by decide +kernel
theorem d_L_law_148 : decode b_L_law 148 = .ok (.iadd, 1) := by decide +kernel
theorem d_L_law_149 : decode b_L_law 149 = .ok (.iaload, 1) := by decide +kernel
theorem d_L_law_150 : decode b_L_law 150 = .ok (.aload_n 0, 1) := by decide +kernel
theorem d_L_law_151 : decode b_L_law 151 = .ok (.iload 4, 2) := by decide +kernel
theorem d_L_law_153 : decode b_L_law 153 = .ok (.iconst 4, 1) := by decide +kernel
theorem d_L_law_154 : decode b_L_law 154 = .ok (.iadd, 1) := by decide +kernel
theorem d_L_law_155 : decode b_L_law 155 = .ok (.iaload, 1) := by decide +kernel
theorem d_L_law_156 : decode b_L_law 156 = .ok (.invokevirtual 69, 3) := by decide +kernel
theorem d_L_law_159 : decode b_L_law 159 = .ok (.istore 6, 2) := by decide +kernel
theorem d_L_law_161 : decode b_L_law 161 = .ok (.aload_n 2, 1) := by decide +kernel
theorem d_L_law_162 : decode b_L_law 162 = .ok (.invokevirtual 70, 3) := by decide +kernel
theorem d_L_law_165 : decode b_L_law 165 = .ok (.iload 5, 2) := by decide +kernel
theorem d_L_law_167 : decode b_L_law 167 = .ok (.if_icmp .eq 5, 3) := by decide +kernel
theorem d_L_law_170 : decode b_L_law 170 = .ok (.iconst 0, 1) := by decide +kernel
theorem d_L_law_171 : decode b_L_law 171 = .ok (.ireturn, 1) := by decide +kernel
theorem d_L_law_172 : decode b_L_law 172 = .ok (.iload 5, 2) := by decide +kernel
theorem d_L_law_174 : decode b_L_law 174 = .ok (.ifCond .ne 15, 3) := by decide +kernel
theorem d_L_law_177 : decode b_L_law 177 = .ok (.aload_n 3, 1) := by decide +kernel
theorem d_L_law_178 : decode b_L_law 178 = .ok (.iconst 0, 1) := by decide +kernel
theorem d_L_law_179 : decode b_L_law 179 = .ok (.laload, 1) := by decide +kernel
theorem d_L_law_180 : decode b_L_law 180 = .ok (.iload 6, 2) := by decide +kernel
theorem d_L_law_182 : decode b_L_law 182 = .ok (.i2l, 1) := by decide +kernel
theorem d_L_law_183 : decode b_L_law 183 = .ok (.lcmp, 1) := by decide +kernel
theorem d_L_law_184 : decode b_L_law 184 = .ok (.ifCond .eq 5, 3) := by decide +kernel
theorem d_L_law_187 : decode b_L_law 187 = .ok (.iconst 0, 1) := by decide +kernel
theorem d_L_law_188 : decode b_L_law 188 = .ok (.ireturn, 1) := by decide +kernel
theorem d_L_law_189 : decode b_L_law 189 = .ok (.goto 655, 3) := by decide +kernel
theorem d_L_law_192 : decode b_L_law 192 = .ok (.aload_n 1, 1) := by decide +kernel
theorem d_L_law_193 : decode b_L_law 193 = .ok (.aload_n 0, 1) := by decide +kernel
theorem d_L_law_194 : decode b_L_law 194 = .ok (.iload 4, 2) := by decide +kernel
theorem d_L_law_196 : decode b_L_law 196 = .ok (.iconst 1, 1) := by decide +kernel
theorem d_L_law_197 : decode b_L_law 197 = .ok (.iadd, 1) := by decide +kernel
theorem d_L_law_198 : decode b_L_law 198 = .ok (.iaload, 1) := by decide +kernel
theorem d_L_law_199 : decode b_L_law 199 = .ok (.aload_n 0, 1) := by decide +kernel
theorem d_L_law_200 : decode b_L_law 200 = .ok (.iload 4, 2) := by decide +kernel
theorem d_L_law_202 : decode b_L_law 202 = .ok (.iconst 2, 1) := by decide +kernel
theorem d_L_law_203 : decode b_L_law 203 = .ok (.iadd, 1) := by decide +kernel
theorem d_L_law_204 : decode b_L_law 204 = .ok (.iaload, 1) := by decide +kernel
theorem d_L_law_205 : decode b_L_law 205 = .ok (.aload_n 0, 1) := by decide +kernel
theorem d_L_law_206 : decode b_L_law 206 = .ok (.iload 4, 2) := by decide +kernel
theorem d_L_law_208 : decode b_L_law 208 = .ok (.iconst 3, 1) := by decide +kernel
theorem d_L_law_209 : decode b_L_law 209 = .ok (.iadd, 1) := by decide +kernel
theorem d_L_law_210 : decode b_L_law 210 = .ok (.iaload, 1) := by decide +kernel
theorem d_L_law_211 : decode b_L_law 211 = .ok (.aload_n 3, 1) := by decide +kernel
theorem d_L_law_212 : decode b_L_law 212 = .ok (.invokestatic 73, 3) := by decide +kernel
theorem d_L_law_215 : decode b_L_law 215 = .ok (.istore 5, 2) := by decide +kernel
theorem d_L_law_217 : decode b_L_law 217 = .ok (.aload_n 2, 1) := by decide +kernel
theorem d_L_law_218 : decode b_L_law 218 = .ok (.aload_n 0, 1) := by decide +kernel
theorem d_L_law_219 : decode b_L_law 219 = .ok (.iload 4, 2) := by decide +kernel
theorem d_L_law_221 : decode b_L_law 221 = .ok (.iconst 1, 1) := by decide +kernel
