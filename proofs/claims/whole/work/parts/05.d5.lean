theorem d_M_share_115 : decode b_M_share 115 = .ok (.aload_n 0, 1) := by decide +kernel
theorem d_M_share_116 : decode b_M_share 116 = .ok (.getfield 41, 3) := by decide +kernel
theorem d_M_share_119 : decode b_M_share 119 = .ok (.invokevirtual 79, 3) := by decide +kernel
theorem d_M_share_122 : decode b_M_share 122 = .ok (.aload_n 0, 1) := by decide +kernel
theorem d_M_share_123 : decode b_M_share 123 = .ok (.getfield 35, 3) := by decide +kernel
theorem d_M_share_126 : decode b_M_share 126 = .ok (.iload 5, 2) := by decide +kernel
theorem d_M_share_128 : decode b_M_share 128 = .ok (.invokestatic 83, 3) := by decide +kernel
theorem d_M_share_131 : decode b_M_share 131 = .ok (.aload_n 0, 1) := by decide +kernel
theorem d_M_share_132 : decode b_M_share 132 = .ok (.iload_n 3, 1) := by decide +kernel
theorem d_M_share_133 : decode b_M_share 133 = .ok (.iconst 1, 1) := by decide +kernel
theorem d_M_share_134 : decode b_M_share 134 = .ok (.iadd, 1) := by decide +kernel
theorem d_M_share_135 : decode b_M_share 135 = .ok (.iconst 2, 1) := by decide +kernel
theorem d_M_share_136 : decode b_M_share 136 = .ok (.aload_n 0, 1) := by decide +kernel
theorem d_M_share_137 : decode b_M_share 137 = .ok (.getfield 35, 3) := by decide +kernel
theorem d_M_share_140 : decode b_M_share 140 = .ok (.invokevirtual 79, 3) := by decide +kernel
theorem d_M_share_143 : decode b_M_share 143 = .ok (.return_, 1) := by decide +kernel
theorem d_M_same_0 : decode b_M_same 0 = .ok (.aload_n 0, 1) := by decide +kernel
theorem d_M_same_1 : decode b_M_same 1 = .ok (.getfield 72, 3) := by decide +kernel
theorem d_M_same_4 : decode b_M_same 4 = .ok (.istore_n 3, 1) := by decide +kernel
theorem d_M_same_5 : decode b_M_same 5 = .ok (.aload_n 0, 1) := by decide +kernel
theorem d_M_same_6 : decode b_M_same 6 = .ok (.dup, 1) := by decide +kernel
theorem d_M_same_7 : decode b_M_same 7 = .ok (.getfield 72, 3) := by decide +kernel
theorem d_M_same_10 : decode b_M_same 10 = .ok (.iconst 2, 1) := by decide +kernel
theorem d_M_same_11 : decode b_M_same 11 = .ok (.iadd, 1) := by decide +kernel
theorem d_M_same_12 : decode b_M_same 12 = .ok (.putfield 72, 3) := by decide +kernel
theorem d_M_same_15 : decode b_M_same 15 = .ok (.aload_n 0, 1) := by decide +kernel
theorem d_M_same_16 : decode b_M_same 16 = .ok (.iconst 3, 1) := by decide +kernel
theorem d_M_same_17 : decode b_M_same 17 = .ok (.iload_n 3, 1) := by decide +kernel
theorem d_M_same_18 : decode b_M_same 18 = .ok (.invokevirtual 75, 3) := by decide +kernel
theorem d_M_same_21 : decode b_M_same 21 = .ok (.istore 4, 2) := by decide +kernel
theorem d_M_same_23 : decode b_M_same 23 = .ok (.aload_n 0, 1) := by decide +kernel
theorem d_M_same_24 : decode b_M_same 24 = .ok (.iconst 4, 1) := by decide +kernel
theorem d_M_same_25 : decode b_M_same 25 = .ok (.iload_n 3, 1) := by decide +kernel
theorem d_M_same_26 : decode b_M_same 26 = .ok (.invokevirtual 75, 3) := by decide +kernel
theorem d_M_same_29 : decode b_M_same 29 = .ok (.istore 5, 2) := by decide +kernel
theorem d_M_same_31 : decode b_M_same 31 = .ok (.aload_n 0, 1) := by decide +kernel
theorem d_M_same_32 : decode b_M_same 32 = .ok (.aload_n 0, 1) := by decide +kernel
theorem d_M_same_33 : decode b_M_same 33 = .ok (.getfield 41, 3) := by decide +kernel
theorem d_M_same_36 : decode b_M_same 36 = .ok (.iload_n 1, 1) := by decide +kernel
theorem d_M_same_37 : decode b_M_same 37 = .ok (.invokevirtual 100, 3) := by decide +kernel
theorem d_M_same_40 : decode b_M_same 40 = .ok (.aload_n 0, 1) := by decide +kernel
theorem d_M_same_41 : decode b_M_same 41 = .ok (.aload_n 0, 1) := by decide +kernel
theorem d_M_same_42 : decode b_M_same 42 = .ok (.getfield 41, 3) := by decide +kernel
theorem d_M_same_45 : decode b_M_same 45 = .ok (.iload_n 2, 1) := by decide +kernel
theorem d_M_same_46 : decode b_M_same 46 = .ok (.bipush 96, 2) := by decide +kernel
theorem d_M_same_48 : decode b_M_same 48 = .ok (.invokevirtual 90, 3) := by decide +kernel
theorem d_M_same_51 : decode b_M_same 51 = .ok (.aload_n 0, 1) := by decide +kernel
theorem d_M_same_52 : decode b_M_same 52 = .ok (.iload_n 3, 1) := by decide +kernel
theorem d_M_same_53 : decode b_M_same 53 = .ok (.iconst 0, 1) := by decide +kernel
theorem d_M_same_54 : decode b_M_same 54 = .ok (.aload_n 0, 1) := by decide +kernel
theorem d_M_same_55 : decode b_M_same 55 = .ok (.getfield 41, 3) := by decide +kernel
theorem d_M_same_58 : decode b_M_same 58 = .ok (.invokevirtual 79, 3) := by decide +kernel
theorem d_M_same_61 : decode b_M_same 61 = .ok (.aload_n 0, 1) := by decide +kernel
theorem d_M_same_62 : decode b_M_same 62 = .ok (.iload_n 3, 1) := by decide +kernel
theorem d_M_same_63 : decode b_M_same 63 = .ok (.iconst 1, 1) := by decide +kernel
theorem d_M_same_64 : decode b_M_same 64 = .ok (.iadd, 1) := by decide +kernel
theorem d_M_same_65 : decode b_M_same 65 = .ok (.iconst 0, 1) := by decide +kernel
theorem d_M_same_66 : decode b_M_same 66 = .ok (.aload_n 0, 1) := by decide +kernel
theorem d_M_same_67 : decode b_M_same 67 = .ok (.getfield 41, 3) := by decide +kernel
theorem d_M_same_70 : decode b_M_same 70 = .ok (.invokevirtual 79, 3) := by decide +kernel
theorem d_M_same_73 : decode b_M_same 73 = .ok (.aload_n 0, 1) := by decide +kernel
theorem d_M_same_74 : decode b_M_same 74 = .ok (.getfield 41, 3) := by decide +kernel
theorem d_M_same_77 : decode b_M_same 77 = .ok (.iload 4, 2) := by decide +kernel
theorem d_M_same_79 : decode b_M_same 79 = .ok (.invokestatic 83, 3) := by decide +kernel
theorem d_M_same_82 : decode b_M_same 82 = .ok (.aload_n 0, 1) := by decide +kernel
theorem d_M_same_83 : decode b_M_same 83 = .ok (.iload_n 3, 1) := by decide +kernel
theorem d_M_same_84 : decode b_M_same 84 = .ok (.iconst 1, 1) := by decide +kernel
theorem d_M_same_85 : decode b_M_same 85 = .ok (.aload_n 0, 1) := by decide +kernel
theorem d_M_same_86 : decode b_M_same 86 = .ok (.getfield 41, 3) := by decide +kernel
theorem d_M_same_89 : decode b_M_same 89 = .ok (.invokevirtual 79, 3) := by decide +kernel
theorem d_M_same_92 : decode b_M_same 92 = .ok (.aload_n 0, 1) := by decide +kernel
theorem d_M_same_93 : decode b_M_same 93 = .ok (.getfield 35, 3) := by decide +kernel
theorem d_M_same_96 : decode b_M_same 96 = .ok (.iload 5, 2) := by decide +kernel
theorem d_M_same_98 : decode b_M_same 98 = .ok (.invokestatic 83, 3) := by decide +kernel
theorem d_M_same_101 : decode b_M_same 101 = .ok (.aload_n 0, 1) := by decide +kernel
theorem d_M_same_102 : decode b_M_same 102 = .ok (.iload_n 3, 1) := by decide +kernel
theorem d_M_same_103 : decode b_M_same 103 = .ok (.iconst 1, 1) := by decide +kernel
theorem d_M_same_104 : decode b_M_same 104 = .ok (.iadd, 1) := by decide +kernel
theorem d_M_same_105 : decode b_M_same 105 = .ok (.iconst 1, 1) := by decide +kernel
theorem d_M_same_106 : decode b_M_same 106 = .ok (.aload_n 0, 1) := by decide +kernel
theorem d_M_same_107 : decode b_M_same 107 = .ok (.getfield 35, 3) := by decide +kernel
theorem d_M_same_110 : decode b_M_same 110 = .ok (.invokevirtual 79, 3) := by decide +kernel
theorem d_M_same_113 : decode b_M_same 113 = .ok (.aload_n 0, 1) := by decide +kernel
theorem d_M_same_114 : decode b_M_same 114 = .ok (.getfield 41, 3) := by decide +kernel
theorem d_M_same_117 : decode b_M_same 117 = .ok (.iconst 1, 1) := by decide +kernel
theorem d_M_same_118 : decode b_M_same 118 = .ok (.invokestatic 64, 3) := by decide +kernel
theorem d_M_same_121 : decode b_M_same 121 = .ok (.aload_n 0, 1) := by decide +kernel
theorem d_M_same_122 : decode b_M_same 122 = .ok (.getfield 41, 3) := by decide +kernel
theorem d_M_same_125 : decode b_M_same 125 = .ok (.iload 5, 2) := by decide +kernel
theorem d_M_same_127 : decode b_M_same 127 = .ok (.bipush 96, 2) := by decide +kernel
theorem d_M_same_129 : decode b_M_same 129 = .ok (.iastore, 1) := by decide +kernel
theorem d_M_same_130 : decode b_M_same 130 = .ok (.aload_n 0, 1) := by decide +kernel
theorem d_M_same_131 : decode b_M_same 131 = .ok (.iload_n 3, 1) := by decide +kernel
theorem d_M_same_132 : decode b_M_same 132 = .ok (.iconst 2, 1) := by decide +kernel
theorem d_M_same_133 : decode b_M_same 133 = .ok (.aload_n 0, 1) := by decide +kernel
theorem d_M_same_134 : decode b_M_same 134 = .ok (.getfield 41, 3) := by decide +kernel
theorem d_M_same_137 : decode b_M_same 137 = .ok (.invokevirtual 79, 3) := by decide +kernel
theorem d_M_same_140 : decode b_M_same 140 = .ok (.aload_n 0, 1) := by decide +kernel
theorem d_M_same_141 : decode b_M_same 141 = .ok (.getfield 41, 3) := by decide +kernel
theorem d_M_same_144 : decode b_M_same 144 = .ok (.iconst 0, 1) := by decide +kernel
theorem d_M_same_145 : decode b_M_same 145 = .ok (.invokestatic 64, 3) := by decide +kernel
theorem d_M_same_148 : decode b_M_same 148 = .ok (.aload_n 0, 1) := by decide +kernel
theorem d_M_same_149 : decode b_M_same 149 = .ok (.iload_n 3, 1) := by decide +kernel
theorem d_M_same_150 : decode b_M_same 150 = .ok (.iconst 1, 1) := by decide +kernel
theorem d_M_same_151 : decode b_M_same 151 = .ok (.iadd, 1) := by decide +kernel
theorem d_M_same_152 : decode b_M_same 152 = .ok (.iconst 2, 1) := by decide +kernel
theorem d_M_same_153 : decode b_M_same 153 = .ok (.aload_n 0, 1) := by decide +kernel
theorem d_M_same_154 : decode b_M_same 154 = .ok (.getfield 41, 3) := by decide +kernel
theorem d_M_same_157 : decode b_M_same 157 = .ok (.invokevirtual 79, 3) := by decide +kernel
theorem d_M_same_160 : decode b_M_same 160 = .ok (.return_, 1) := by decide +kernel
theorem d_M_claim_0 : decode b_M_claim 0 = .ok (.aload_n 0, 1) := by decide +kernel
theorem d_M_claim_1 : decode b_M_claim 1 = .ok (.iconst 0, 1) := by decide +kernel
theorem d_M_claim_2 : decode b_M_claim 2 = .ok (.putfield 50, 3) := by decide +kernel
theorem d_M_claim_5 : decode b_M_claim 5 = .ok (.iload_n 1, 1) := by decide +kernel
theorem d_M_claim_6 : decode b_M_claim 6 = .ok (.iconst 0, 1) := by decide +kernel
theorem d_M_claim_7 : decode b_M_claim 7 = .ok (.iconst 1, 1) := by decide +kernel
theorem d_M_claim_8 : decode b_M_claim 8 = .ok (.invokestatic 56, 3) := by decide +kernel
theorem d_M_claim_11 : decode b_M_claim 11 = .ok (.ifCond .eq 23, 3) := by decide +kernel
theorem d_M_claim_14 : decode b_M_claim 14 = .ok (.aload_n 0, 1) := by decide +kernel
theorem d_M_claim_15 : decode b_M_claim 15 = .ok (.iload_n 2, 1) := by decide +kernel
theorem d_M_claim_16 : decode b_M_claim 16 = .ok (.invokevirtual 86, 3) := by decide +kernel
theorem d_M_claim_19 : decode b_M_claim 19 = .ok (.ifCond .eq 15, 3) := by decide +kernel
theorem d_M_claim_22 : decode b_M_claim 22 = .ok (.iload_n 1, 1) := by decide +kernel
theorem d_M_claim_23 : decode b_M_claim 23 = .ok (.ifCond .ne 17, 3) := by decide +kernel
theorem d_M_claim_26 : decode b_M_claim 26 = .ok (.aload_n 0, 1) := by decide +kernel
theorem d_M_claim_27 : decode b_M_claim 27 = .ok (.iload_n 3, 1) := by decide +kernel
theorem d_M_claim_28 : decode b_M_claim 28 = .ok (.invokevirtual 86, 3) := by decide +kernel
theorem d_M_claim_31 : decode b_M_claim 31 = .ok (.ifCond .ne 9, 3) := by decide +kernel
theorem d_M_claim_34 : decode b_M_claim 34 = .ok (.aload_n 0, 1) := by decide +kernel
theorem d_M_claim_35 : decode b_M_claim 35 = .ok (.iconst 1, 1) := by decide +kernel
theorem d_M_claim_36 : decode b_M_claim 36 = .ok (.invokevirtual 117, 3) := by decide +kernel
theorem d_M_claim_39 : decode b_M_claim 39 = .ok (.ireturn, 1) := by decide +kernel
theorem d_M_claim_40 : decode b_M_claim 40 = .ok (.aload_n 0, 1) := by decide +kernel
theorem d_M_claim_41 : decode b_M_claim 41 = .ok (.getfield 72, 3) := by decide +kernel
theorem d_M_claim_44 : decode b_M_claim 44 = .ok (.bipush 80, 2) := by decide +kernel
theorem d_M_claim_46 : decode b_M_claim 46 = .ok (.if_icmp .ne 9, 3) := by decide +kernel
theorem d_M_claim_49 : decode b_M_claim 49 = .ok (.aload_n 0, 1) := by decide +kernel
theorem d_M_claim_50 : decode b_M_claim 50 = .ok (.iconst 2, 1) := by decide +kernel
theorem d_M_claim_51 : decode b_M_claim 51 = .ok (.invokevirtual 117, 3) := by decide +kernel
theorem d_M_claim_54 : decode b_M_claim 54 = .ok (.ireturn, 1) := by decide +kernel
theorem d_M_claim_55 : decode b_M_claim 55 = .ok (.aload_n 0, 1) := by decide +kernel
theorem d_M_claim_56 : decode b_M_claim 56 = .ok (.aload_n 0, 1) := by decide +kernel
theorem d_M_claim_57 : decode b_M_claim 57 = .ok (.getfield 35, 3) := by decide +kernel
theorem d_M_claim_60 : decode b_M_claim 60 = .ok (.iload_n 2, 1) := by decide +kernel
theorem d_M_claim_61 : decode b_M_claim 61 = .ok (.invokevirtual 100, 3) := by decide +kernel
theorem d_M_claim_64 : decode b_M_claim 64 = .ok (.iload_n 1, 1) := by decide +kernel
theorem d_M_claim_65 : decode b_M_claim 65 = .ok (.ifCond .ne 14, 3) := by decide +kernel
theorem d_M_claim_68 : decode b_M_claim 68 = .ok (.aload_n 0, 1) := by decide +kernel
theorem d_M_claim_69 : decode b_M_claim 69 = .ok (.aload_n 0, 1) := by decide +kernel
theorem d_M_claim_70 : decode b_M_claim 70 = .ok (.getfield 35, 3) := by decide +kernel
theorem d_M_claim_73 : decode b_M_claim 73 = .ok (.iload_n 3, 1) := by decide +kernel
theorem d_M_claim_74 : decode b_M_claim 74 = .ok (.bipush 96, 2) := by decide +kernel
theorem d_M_claim_76 : decode b_M_claim 76 = .ok (.invokevirtual 90, 3) := by decide +kernel
theorem d_M_claim_79 : decode b_M_claim 79 = .ok (.aload_n 0, 1) := by decide +kernel
theorem d_M_claim_80 : decode b_M_claim 80 = .ok (.getfield 38, 3) := by decide +kernel
theorem d_M_claim_83 : decode b_M_claim 83 = .ok (.iconst 1, 1) := by decide +kernel
theorem d_M_claim_84 : decode b_M_claim 84 = .ok (.invokestatic 64, 3) := by decide +kernel
theorem d_M_claim_87 : decode b_M_claim 87 = .ok (.iload_n 1, 1) := by decide +kernel
theorem d_M_claim_88 : decode b_M_claim 88 = .ok (.iconst 1, 1) := by decide +kernel
theorem d_M_claim_89 : decode b_M_claim 89 = .ok (.if_icmp .ne 14, 3) := by decide +kernel
theorem d_M_claim_92 : decode b_M_claim 92 = .ok (.aload_n 0, 1) := by decide +kernel
theorem d_M_claim_93 : decode b_M_claim 93 = .ok (.aload_n 0, 1) := by decide +kernel
theorem d_M_claim_94 : decode b_M_claim 94 = .ok (.getfield 38, 3) := by decide +kernel
theorem d_M_claim_97 : decode b_M_claim 97 = .ok (.iload_n 2, 1) := by decide +kernel
theorem d_M_claim_98 : decode b_M_claim 98 = .ok (.bipush 96, 2) := by decide +kernel
theorem d_M_claim_100 : decode b_M_claim 100 = .ok (.invokevirtual 90, 3) := by decide +kernel
theorem d_M_claim_103 : decode b_M_claim 103 = .ok (.aload_n 0, 1) := by decide +kernel
theorem d_M_claim_104 : decode b_M_claim 104 = .ok (.getfield 41, 3) := by decide +kernel
theorem d_M_claim_107 : decode b_M_claim 107 = .ok (.iconst 0, 1) := by decide +kernel
theorem d_M_claim_108 : decode b_M_claim 108 = .ok (.invokestatic 64, 3) := by decide +kernel
theorem d_M_claim_111 : decode b_M_claim 111 = .ok (.aload_n 0, 1) := by decide +kernel
theorem d_M_claim_112 : decode b_M_claim 112 = .ok (.aload_n 0, 1) := by decide +kernel
theorem d_M_claim_113 : decode b_M_claim 113 = .ok (.getfield 72, 3) := by decide +kernel
theorem d_M_claim_116 : decode b_M_claim 116 = .ok (.iconst 0, 1) := by decide +kernel
theorem d_M_claim_117 : decode b_M_claim 117 = .ok (.aload_n 0, 1) := by decide +kernel
theorem d_M_claim_118 : decode b_M_claim 118 = .ok (.getfield 35, 3) := by decide +kernel
theorem d_M_claim_121 : decode b_M_claim 121 = .ok (.invokevirtual 79, 3) := by decide +kernel
theorem d_M_claim_124 : decode b_M_claim 124 = .ok (.aload_n 0, 1) := by decide +kernel
theorem d_M_claim_125 : decode b_M_claim 125 = .ok (.aload_n 0, 1) := by decide +kernel
theorem d_M_claim_126 : decode b_M_claim 126 = .ok (.getfield 72, 3) := by decide +kernel
theorem d_M_claim_129 : decode b_M_claim 129 = .ok (.iconst 1, 1) := by decide +kernel
theorem d_M_claim_130 : decode b_M_claim 130 = .ok (.aload_n 0, 1) := by decide +kernel
theorem d_M_claim_131 : decode b_M_claim 131 = .ok (.getfield 38, 3) := by decide +kernel
theorem d_M_claim_134 : decode b_M_claim 134 = .ok (.invokevirtual 79, 3) := by decide +kernel
theorem d_M_claim_137 : decode b_M_claim 137 = .ok (.aload_n 0, 1) := by decide +kernel
theorem d_M_claim_138 : decode b_M_claim 138 = .ok (.aload_n 0, 1) := by decide +kernel
theorem d_M_claim_139 : decode b_M_claim 139 = .ok (.getfield 72, 3) := by decide +kernel
theorem d_M_claim_142 : decode b_M_claim 142 = .ok (.iconst 2, 1) := by decide +kernel
theorem d_M_claim_143 : decode b_M_claim 143 = .ok (.aload_n 0, 1) := by decide +kernel
theorem d_M_claim_144 : decode b_M_claim 144 = .ok (.getfield 41, 3) := by decide +kernel
theorem d_M_claim_147 : decode b_M_claim 147 = .ok (.invokevirtual 79, 3) := by decide +kernel
theorem d_M_claim_150 : decode b_M_claim 150 = .ok (.aload_n 0, 1) := by decide +kernel
theorem d_M_claim_151 : decode b_M_claim 151 = .ok (.dup, 1) := by decide +kernel
theorem d_M_claim_152 : decode b_M_claim 152 = .ok (.getfield 72, 3) := by decide +kernel
theorem d_M_claim_155 : decode b_M_claim 155 = .ok (.iconst 1, 1) := by decide +kernel
theorem d_M_claim_156 : decode b_M_claim 156 = .ok (.iadd, 1) := by decide +kernel
theorem d_M_claim_157 : decode b_M_claim 157 = .ok (.putfield 72, 3) := by decide +kernel
theorem d_M_claim_160 : decode b_M_claim 160 = .ok (.aload_n 0, 1) := by decide +kernel
theorem d_M_claim_161 : decode b_M_claim 161 = .ok (.getfield 72, 3) := by decide +kernel
theorem d_M_claim_164 : decode b_M_claim 164 = .ok (.iconst 1, 1) := by decide +kernel
theorem d_M_claim_165 : decode b_M_claim 165 = .ok (.isub, 1) := by decide +kernel
theorem d_M_claim_166 : decode b_M_claim 166 = .ok (.ireturn, 1) := by decide +kernel
theorem d_M_give_0 : decode b_M_give 0 = .ok (.aload_n 0, 1) := by decide +kernel
theorem d_M_give_1 : decode b_M_give 1 = .ok (.iconst 0, 1) := by decide +kernel
theorem d_M_give_2 : decode b_M_give 2 = .ok (.putfield 50, 3) := by decide +kernel
theorem d_M_give_5 : decode b_M_give 5 = .ok (.aload_n 0, 1) := by decide +kernel
theorem d_M_give_6 : decode b_M_give 6 = .ok (.iload_n 1, 1) := by decide +kernel
theorem d_M_give_7 : decode b_M_give 7 = .ok (.invokevirtual 86, 3) := by decide +kernel
theorem d_M_give_10 : decode b_M_give 10 = .ok (.ifCond .ne 9, 3) := by decide +kernel
theorem d_M_give_13 : decode b_M_give 13 = .ok (.aload_n 0, 1) := by decide +kernel
theorem d_M_give_14 : decode b_M_give 14 = .ok (.iconst 1, 1) := by decide +kernel
theorem d_M_give_15 : decode b_M_give 15 = .ok (.invokevirtual 117, 3) := by decide +kernel
theorem d_M_give_18 : decode b_M_give 18 = .ok (.ireturn, 1) := by decide +kernel
theorem d_M_give_19 : decode b_M_give 19 = .ok (.aload_n 0, 1) := by decide +kernel
theorem d_M_give_20 : decode b_M_give 20 = .ok (.getfield 13, 3) := by decide +kernel
theorem d_M_give_23 : decode b_M_give 23 = .ok (.iload_n 1, 1) := by decide +kernel
theorem d_M_give_24 : decode b_M_give 24 = .ok (.iaload, 1) := by decide +kernel
theorem d_M_give_25 : decode b_M_give 25 = .ok (.iconst 1, 1) := by decide +kernel
theorem d_M_give_26 : decode b_M_give 26 = .ok (.if_icmp .eq 9, 3) := by decide +kernel
theorem d_M_give_29 : decode b_M_give 29 = .ok (.aload_n 0, 1) := by decide +kernel
theorem d_M_give_30 : decode b_M_give 30 = .ok (.iconst 2, 1) := by decide +kernel
theorem d_M_give_31 : decode b_M_give 31 = .ok (.invokevirtual 117, 3) := by decide +kernel
theorem d_M_give_34 : decode b_M_give 34 = .ok (.ireturn, 1) := by decide +kernel
theorem d_M_give_35 : decode b_M_give 35 = .ok (.aload_n 0, 1) := by decide +kernel
theorem d_M_give_36 : decode b_M_give 36 = .ok (.getfield 25, 3) := by decide +kernel
theorem d_M_give_39 : decode b_M_give 39 = .ok (.aload_n 0, 1) := by decide +kernel
theorem d_M_give_40 : decode b_M_give 40 = .ok (.getfield 16, 3) := by decide +kernel
theorem d_M_give_43 : decode b_M_give 43 = .ok (.iload_n 1, 1) := by decide +kernel
theorem d_M_give_44 : decode b_M_give 44 = .ok (.iaload, 1) := by decide +kernel
theorem d_M_give_45 : decode b_M_give 45 = .ok (.iaload, 1) := by decide +kernel
theorem d_M_give_46 : decode b_M_give 46 = .ok (.istore_n 3, 1) := by decide +kernel
theorem d_M_give_47 : decode b_M_give 47 = .ok (.aload_n 0, 1) := by decide +kernel
theorem d_M_give_48 : decode b_M_give 48 = .ok (.getfield 25, 3) := by decide +kernel
theorem d_M_give_51 : decode b_M_give 51 = .ok (.aload_n 0, 1) := by decide +kernel
theorem d_M_give_52 : decode b_M_give 52 = .ok (.getfield 16, 3) := by decide +kernel
theorem d_M_give_55 : decode b_M_give 55 = .ok (.iload_n 1, 1) := by decide +kernel
theorem d_M_give_56 : decode b_M_give 56 = .ok (.iaload, 1) := by decide +kernel
theorem d_M_give_57 : decode b_M_give 57 = .ok (.iload_n 2, 1) := by decide +kernel
theorem d_M_give_58 : decode b_M_give 58 = .ok (.invokestatic 60, 3) := by decide +kernel
theorem d_M_give_61 : decode b_M_give 61 = .ok (.iastore, 1) := by decide +kernel
theorem d_M_give_62 : decode b_M_give 62 = .ok (.iload_n 3, 1) := by decide +kernel
theorem d_M_give_63 : decode b_M_give 63 = .ok (.ireturn, 1) := by decide +kernel
theorem d_M_solve_0 : decode b_M_solve 0 = .ok (.aload_n 0, 1) := by decide +kernel
theorem d_M_solve_1 : decode b_M_solve 1 = .ok (.iconst 0, 1) := by decide +kernel
theorem d_M_solve_2 : decode b_M_solve 2 = .ok (.putfield 50, 3) := by decide +kernel
theorem d_M_solve_5 : decode b_M_solve 5 = .ok (.iconst 0, 1) := by decide +kernel
theorem d_M_solve_6 : decode b_M_solve 6 = .ok (.istore_n 1, 1) := by decide +kernel
theorem d_M_solve_7 : decode b_M_solve 7 = .ok (.iload_n 1, 1) := by decide +kernel
theorem d_M_solve_8 : decode b_M_solve 8 = .ok (.bipush 60, 2) := by decide +kernel
theorem d_M_solve_10 : decode b_M_solve 10 = .ok (.if_icmp .ge 16, 3) := by decide +kernel
theorem d_M_solve_13 : decode b_M_solve 13 = .ok (.aload_n 0, 1) := by decide +kernel
theorem d_M_solve_14 : decode b_M_solve 14 = .ok (.getfield 44, 3) := by decide +kernel
theorem d_M_solve_17 : decode b_M_solve 17 = .ok (.iload_n 1, 1) := by decide +kernel
theorem d_M_solve_18 : decode b_M_solve 18 = .ok (.iconst 0, 1) := by decide +kernel
theorem d_M_solve_19 : decode b_M_solve 19 = .ok (.iastore, 1) := by decide +kernel
theorem d_M_solve_20 : decode b_M_solve 20 = .ok (.iinc 1 1, 3) := by decide +kernel
theorem d_M_solve_23 : decode b_M_solve 23 = .ok (.goto (-16), 3) := by decide +kernel
theorem d_M_solve_26 : decode b_M_solve 26 = .ok (.aload_n 0, 1) := by decide +kernel
theorem d_M_solve_27 : decode b_M_solve 27 = .ok (.getfield 44, 3) := by decide +kernel
theorem d_M_solve_30 : decode b_M_solve 30 = .ok (.iconst 0, 1) := by decide +kernel
theorem d_M_solve_31 : decode b_M_solve 31 = .ok (.iconst 1, 1) := by decide +kernel
theorem d_M_solve_32 : decode b_M_solve 32 = .ok (.iastore, 1) := by decide +kernel
theorem d_M_solve_33 : decode b_M_solve 33 = .ok (.iconst 1, 1) := by decide +kernel
theorem d_M_solve_34 : decode b_M_solve 34 = .ok (.istore_n 1, 1) := by decide +kernel
theorem d_M_solve_35 : decode b_M_solve 35 = .ok (.iload_n 1, 1) := by decide +kernel
theorem d_M_solve_36 : decode b_M_solve 36 = .ok (.aload_n 0, 1) := by decide +kernel
theorem d_M_solve_37 : decode b_M_solve 37 = .ok (.getfield 28, 3) := by decide +kernel
theorem d_M_solve_40 : decode b_M_solve 40 = .ok (.if_icmp .ge 170, 3) := by decide +kernel
theorem d_M_solve_43 : decode b_M_solve 43 = .ok (.aload_n 0, 1) := by decide +kernel
theorem d_M_solve_44 : decode b_M_solve 44 = .ok (.getfield 19, 3) := by decide +kernel
theorem d_M_solve_47 : decode b_M_solve 47 = .ok (.iload_n 1, 1) := by decide +kernel
theorem d_M_solve_48 : decode b_M_solve 48 = .ok (.iaload, 1) := by decide +kernel
theorem d_M_solve_49 : decode b_M_solve 49 = .ok (.ifCond .ne 7, 3) := by decide +kernel
theorem d_M_solve_52 : decode b_M_solve 52 = .ok (.iconst 0, 1) := by decide +kernel
theorem d_M_solve_53 : decode b_M_solve 53 = .ok (.goto 18, 3) := by decide +kernel
theorem d_M_solve_56 : decode b_M_solve 56 = .ok (.aload_n 0, 1) := by decide +kernel
theorem d_M_solve_57 : decode b_M_solve 57 = .ok (.aload_n 0, 1) := by decide +kernel
theorem d_M_solve_58 : decode b_M_solve 58 = .ok (.getfield 22, 3) := by decide +kernel
theorem d_M_solve_61 : decode b_M_solve 61 = .ok (.iload_n 1, 1) := by decide +kernel
theorem d_M_solve_62 : decode b_M_solve 62 = .ok (.iaload, 1) := by decide +kernel
theorem d_M_solve_63 : decode b_M_solve 63 = .ok (.iconst 0, 1) := by decide +kernel
theorem d_M_solve_64 : decode b_M_solve 64 = .ok (.aload_n 0, 1) := by decide +kernel
theorem d_M_solve_65 : decode b_M_solve 65 = .ok (.getfield 44, 3) := by decide +kernel
theorem d_M_solve_68 : decode b_M_solve 68 = .ok (.invokevirtual 128, 3) := by decide +kernel
theorem d_M_solve_71 : decode b_M_solve 71 = .ok (.istore_n 2, 1) := by decide +kernel
theorem d_M_solve_72 : decode b_M_solve 72 = .ok (.aload_n 0, 1) := by decide +kernel
theorem d_M_solve_73 : decode b_M_solve 73 = .ok (.getfield 19, 3) := by decide +kernel
theorem d_M_solve_76 : decode b_M_solve 76 = .ok (.iload_n 1, 1) := by decide +kernel
theorem d_M_solve_77 : decode b_M_solve 77 = .ok (.iaload, 1) := by decide +kernel
theorem d_M_solve_78 : decode b_M_solve 78 = .ok (.iconst 2, 1) := by decide +kernel
theorem d_M_solve_79 : decode b_M_solve 79 = .ok (.if_icmp .ne 13, 3) := by decide +kernel
theorem d_M_solve_82 : decode b_M_solve 82 = .ok (.iload_n 2, 1) := by decide +kernel
theorem d_M_solve_83 : decode b_M_solve 83 = .ok (.ifCond .ne 9, 3) := by decide +kernel
theorem d_M_solve_86 : decode b_M_solve 86 = .ok (.aload_n 0, 1) := by decide +kernel
theorem d_M_solve_87 : decode b_M_solve 87 = .ok (.iconst 1, 1) := by decide +kernel
theorem d_M_solve_88 : decode b_M_solve 88 = .ok (.invokevirtual 117, 3) := by decide +kernel
theorem d_M_solve_91 : decode b_M_solve 91 = .ok (.ireturn, 1) := by decide +kernel
theorem d_M_solve_92 : decode b_M_solve 92 = .ok (.aload_n 0, 1) := by decide +kernel
theorem d_M_solve_93 : decode b_M_solve 93 = .ok (.getfield 19, 3) := by decide +kernel
theorem d_M_solve_96 : decode b_M_solve 96 = .ok (.iload_n 1, 1) := by decide +kernel
theorem d_M_solve_97 : decode b_M_solve 97 = .ok (.iaload, 1) := by decide +kernel
theorem d_M_solve_98 : decode b_M_solve 98 = .ok (.ifCond .ne 15, 3) := by decide +kernel
theorem d_M_solve_101 : decode b_M_solve 101 = .ok (.aload_n 0, 1) := by decide +kernel
theorem d_M_solve_102 : decode b_M_solve 102 = .ok (.getfield 44, 3) := by decide +kernel
theorem d_M_solve_105 : decode b_M_solve 105 = .ok (.iload_n 1, 1) := by decide +kernel
theorem d_M_solve_106 : decode b_M_solve 106 = .ok (.aload_n 0, 1) := by decide +kernel
theorem d_M_solve_107 : decode b_M_solve 107 = .ok (.getfield 25, 3) := by decide +kernel
theorem d_M_solve_110 : decode b_M_solve 110 = .ok (.iload_n 1, 1) := by decide +kernel
theorem d_M_solve_111 : decode b_M_solve 111 = .ok (.iaload, 1) := by decide +kernel
theorem d_M_solve_112 : decode b_M_solve 112 = .ok (.iastore, 1) := by decide +kernel
theorem d_M_solve_113 : decode b_M_solve 113 = .ok (.aload_n 0, 1) := by decide +kernel
theorem d_M_solve_114 : decode b_M_solve 114 = .ok (.getfield 19, 3) := by decide +kernel
theorem d_M_solve_117 : decode b_M_solve 117 = .ok (.iload_n 1, 1) := by decide +kernel
theorem d_M_solve_118 : decode b_M_solve 118 = .ok (.iaload, 1) := by decide +kernel
theorem d_M_solve_119 : decode b_M_solve 119 = .ok (.iconst 1, 1) := by decide +kernel
theorem d_M_solve_120 : decode b_M_solve 120 = .ok (.if_icmp .ne 29, 3) := by decide +kernel
theorem d_M_solve_123 : decode b_M_solve 123 = .ok (.aload_n 0, 1) := by decide +kernel
theorem d_M_solve_124 : decode b_M_solve 124 = .ok (.getfield 44, 3) := by decide +kernel
theorem d_M_solve_127 : decode b_M_solve 127 = .ok (.iload_n 1, 1) := by decide +kernel
theorem d_M_solve_128 : decode b_M_solve 128 = .ok (.iload_n 2, 1) := by decide +kernel
theorem d_M_solve_129 : decode b_M_solve 129 = .ok (.aload_n 0, 1) := by decide +kernel
theorem d_M_solve_130 : decode b_M_solve 130 = .ok (.aload_n 0, 1) := by decide +kernel
theorem d_M_solve_131 : decode b_M_solve 131 = .ok (.getfield 22, 3) := by decide +kernel
theorem d_M_solve_134 : decode b_M_solve 134 = .ok (.iload_n 1, 1) := by decide +kernel
theorem d_M_solve_135 : decode b_M_solve 135 = .ok (.iaload, 1) := by decide +kernel
theorem d_M_solve_136 : decode b_M_solve 136 = .ok (.iconst 1, 1) := by decide +kernel
theorem d_M_solve_137 : decode b_M_solve 137 = .ok (.aload_n 0, 1) := by decide +kernel
theorem d_M_solve_138 : decode b_M_solve 138 = .ok (.getfield 44, 3) := by decide +kernel
theorem d_M_solve_141 : decode b_M_solve 141 = .ok (.invokevirtual 128, 3) := by decide +kernel
theorem d_M_solve_144 : decode b_M_solve 144 = .ok (.imul, 1) := by decide +kernel
theorem d_M_solve_145 : decode b_M_solve 145 = .ok (.bipush 97, 2) := by decide +kernel
theorem d_M_solve_147 : decode b_M_solve 147 = .ok (.irem, 1) := by decide +kernel
theorem d_M_solve_148 : decode b_M_solve 148 = .ok (.iastore, 1) := by decide +kernel
theorem d_M_solve_149 : decode b_M_solve 149 = .ok (.aload_n 0, 1) := by decide +kernel
theorem d_M_solve_150 : decode b_M_solve 150 = .ok (.getfield 19, 3) := by decide +kernel
theorem d_M_solve_153 : decode b_M_solve 153 = .ok (.iload_n 1, 1) := by decide +kernel
theorem d_M_solve_154 : decode b_M_solve 154 = .ok (.iaload, 1) := by decide +kernel
theorem d_M_solve_155 : decode b_M_solve 155 = .ok (.iconst 2, 1) := by decide +kernel
theorem d_M_solve_156 : decode b_M_solve 156 = .ok (.if_icmp .eq 13, 3) := by decide +kernel
theorem d_M_solve_159 : decode b_M_solve 159 = .ok (.aload_n 0, 1) := by decide +kernel
theorem d_M_solve_160 : decode b_M_solve 160 = .ok (.getfield 19, 3) := by decide +kernel
theorem d_M_solve_163 : decode b_M_solve 163 = .ok (.iload_n 1, 1) := by decide +kernel
theorem d_M_solve_164 : decode b_M_solve 164 = .ok (.iaload, 1) := by decide +kernel
theorem d_M_solve_165 : decode b_M_solve 165 = .ok (.iconst 3, 1) := by decide +kernel
theorem d_M_solve_166 : decode b_M_solve 166 = .ok (.if_icmp .ne 13, 3) := by decide +kernel
theorem d_M_solve_169 : decode b_M_solve 169 = .ok (.aload_n 0, 1) := by decide +kernel
theorem d_M_solve_170 : decode b_M_solve 170 = .ok (.getfield 44, 3) := by decide +kernel
theorem d_M_solve_173 : decode b_M_solve 173 = .ok (.iload_n 1, 1) := by decide +kernel
theorem d_M_solve_174 : decode b_M_solve 174 = .ok (.iload_n 2, 1) := by decide +kernel
theorem d_M_solve_175 : decode b_M_solve 175 = .ok (.invokestatic 132, 3) := by decide +kernel
theorem d_M_solve_178 : decode b_M_solve 178 = .ok (.iastore, 1) := by decide +kernel
theorem d_M_solve_179 : decode b_M_solve 179 = .ok (.aload_n 0, 1) := by decide +kernel
theorem d_M_solve_180 : decode b_M_solve 180 = .ok (.getfield 19, 3) := by decide +kernel
theorem d_M_solve_183 : decode b_M_solve 183 = .ok (.iload_n 1, 1) := by decide +kernel
theorem d_M_solve_184 : decode b_M_solve 184 = .ok (.iaload, 1) := by decide +kernel
theorem d_M_solve_185 : decode b_M_solve 185 = .ok (.iconst 4, 1) := by decide +kernel
theorem d_M_solve_186 : decode b_M_solve 186 = .ok (.if_icmp .ne 18, 3) := by decide +kernel
theorem d_M_solve_189 : decode b_M_solve 189 = .ok (.aload_n 0, 1) := by decide +kernel
theorem d_M_solve_190 : decode b_M_solve 190 = .ok (.getfield 44, 3) := by decide +kernel
theorem d_M_solve_193 : decode b_M_solve 193 = .ok (.iload_n 1, 1) := by decide +kernel
theorem d_M_solve_194 : decode b_M_solve 194 = .ok (.iload_n 2, 1) := by decide +kernel
theorem d_M_solve_195 : decode b_M_solve 195 = .ok (.ifCond .ne 7, 3) := by decide +kernel
theorem d_M_solve_198 : decode b_M_solve 198 = .ok (.iconst 1, 1) := by decide +kernel
theorem d_M_solve_199 : decode b_M_solve 199 = .ok (.goto 4, 3) := by decide +kernel
theorem d_M_solve_202 : decode b_M_solve 202 = .ok (.iconst 0, 1) := by decide +kernel
theorem d_M_solve_203 : decode b_M_solve 203 = .ok (.iastore, 1) := by decide +kernel
theorem d_M_solve_204 : decode b_M_solve 204 = .ok (.iinc 1 1, 3) := by decide +kernel
theorem d_M_solve_207 : decode b_M_solve 207 = .ok (.goto (-172), 3) := by decide +kernel
theorem d_M_solve_210 : decode b_M_solve 210 = .ok (.iconst 0, 1) := by decide +kernel
theorem d_M_solve_211 : decode b_M_solve 211 = .ok (.istore_n 1, 1) := by decide +kernel
theorem d_M_solve_212 : decode b_M_solve 212 = .ok (.iload_n 1, 1) := by decide +kernel
theorem d_M_solve_213 : decode b_M_solve 213 = .ok (.bipush 60, 2) := by decide +kernel
theorem d_M_solve_215 : decode b_M_solve 215 = .ok (.if_icmp .ge 21, 3) := by decide +kernel
theorem d_M_solve_218 : decode b_M_solve 218 = .ok (.aload_n 0, 1) := by decide +kernel
theorem d_M_solve_219 : decode b_M_solve 219 = .ok (.getfield 47, 3) := by decide +kernel
theorem d_M_solve_222 : decode b_M_solve 222 = .ok (.iload_n 1, 1) := by decide +kernel
theorem d_M_solve_223 : decode b_M_solve 223 = .ok (.aload_n 0, 1) := by decide +kernel
theorem d_M_solve_224 : decode b_M_solve 224 = .ok (.getfield 44, 3) := by decide +kernel
theorem d_M_solve_227 : decode b_M_solve 227 = .ok (.iload_n 1, 1) := by decide +kernel
theorem d_M_solve_228 : decode b_M_solve 228 = .ok (.iaload, 1) := by decide +kernel
theorem d_M_solve_229 : decode b_M_solve 229 = .ok (.iastore, 1) := by decide +kernel
theorem d_M_solve_230 : decode b_M_solve 230 = .ok (.iinc 1 1, 3) := by decide +kernel
theorem d_M_solve_233 : decode b_M_solve 233 = .ok (.goto (-21), 3) := by decide +kernel
theorem d_M_solve_236 : decode b_M_solve 236 = .ok (.aload_n 0, 1) := by decide +kernel
theorem d_M_solve_237 : decode b_M_solve 237 = .ok (.iconst 1, 1) := by decide +kernel
theorem d_M_solve_238 : decode b_M_solve 238 = .ok (.putfield 135, 3) := by decide +kernel
theorem d_M_solve_241 : decode b_M_solve 241 = .ok (.aload_n 0, 1) := by decide +kernel
theorem d_M_solve_242 : decode b_M_solve 242 = .ok (.aload_n 0, 1) := by decide +kernel
theorem d_M_solve_243 : decode b_M_solve 243 = .ok (.getfield 28, 3) := by decide +kernel
theorem d_M_solve_246 : decode b_M_solve 246 = .ok (.putfield 139, 3) := by decide +kernel
theorem d_M_solve_249 : decode b_M_solve 249 = .ok (.aload_n 0, 1) := by decide +kernel
theorem d_M_solve_250 : decode b_M_solve 250 = .ok (.aload_n 0, 1) := by decide +kernel
theorem d_M_solve_251 : decode b_M_solve 251 = .ok (.getfield 72, 3) := by decide +kernel
theorem d_M_solve_254 : decode b_M_solve 254 = .ok (.putfield 142, 3) := by decide +kernel
theorem d_M_solve_257 : decode b_M_solve 257 = .ok (.aload_n 0, 1) := by decide +kernel
theorem d_M_solve_258 : decode b_M_solve 258 = .ok (.invokevirtual 145, 3) := by decide +kernel
theorem d_M_solve_261 : decode b_M_solve 261 = .ok (.ireturn, 1) := by decide +kernel
theorem d_M_valueOf_0 : decode b_M_valueOf 0 = .ok (.iconst 0, 1) := by decide +kernel
theorem d_M_valueOf_1 : decode b_M_valueOf 1 = .ok (.istore 4, 2) := by decide +kernel
theorem d_M_valueOf_3 : decode b_M_valueOf 3 = .ok (.iconst 0, 1) := by decide +kernel
theorem d_M_valueOf_4 : decode b_M_valueOf 4 = .ok (.istore 5, 2) := by decide +kernel
theorem d_M_valueOf_6 : decode b_M_valueOf 6 = .ok (.iload 5, 2) := by decide +kernel
theorem d_M_valueOf_8 : decode b_M_valueOf 8 = .ok (.bipush 60, 2) := by decide +kernel
theorem d_M_valueOf_10 : decode b_M_valueOf 10 = .ok (.if_icmp .ge 37, 3) := by decide +kernel
theorem d_M_valueOf_13 : decode b_M_valueOf 13 = .ok (.iload 4, 2) := by decide +kernel
theorem d_M_valueOf_15 : decode b_M_valueOf 15 = .ok (.aload_n 0, 1) := by decide +kernel
theorem d_M_valueOf_16 : decode b_M_valueOf 16 = .ok (.getfield 32, 3) := by decide +kernel
theorem d_M_valueOf_19 : decode b_M_valueOf 19 = .ok (.sipush 180, 3) := by decide +kernel
theorem d_M_valueOf_22 : decode b_M_valueOf 22 = .ok (.iload_n 1, 1) := by decide +kernel
theorem d_M_valueOf_23 : decode b_M_valueOf 23 = .ok (.imul, 1) := by decide +kernel
theorem d_M_valueOf_24 : decode b_M_valueOf 24 = .ok (.bipush 60, 2) := by decide +kernel
theorem d_M_valueOf_26 : decode b_M_valueOf 26 = .ok (.iload_n 2, 1) := by decide +kernel
theorem d_M_valueOf_27 : decode b_M_valueOf 27 = .ok (.imul, 1) := by decide +kernel
theorem d_M_valueOf_28 : decode b_M_valueOf 28 = .ok (.iadd, 1) := by decide +kernel
theorem d_M_valueOf_29 : decode b_M_valueOf 29 = .ok (.iload 5, 2) := by decide +kernel
theorem d_M_valueOf_31 : decode b_M_valueOf 31 = .ok (.iadd, 1) := by decide +kernel
theorem d_M_valueOf_32 : decode b_M_valueOf 32 = .ok (.iaload, 1) := by decide +kernel
theorem d_M_valueOf_33 : decode b_M_valueOf 33 = .ok (.aload_n 3, 1) := by decide +kernel
theorem d_M_valueOf_34 : decode b_M_valueOf 34 = .ok (.iload 5, 2) := by decide +kernel
theorem d_M_valueOf_36 : decode b_M_valueOf 36 = .ok (.iaload, 1) := by decide +kernel
theorem d_M_valueOf_37 : decode b_M_valueOf 37 = .ok (.imul, 1) := by decide +kernel
theorem d_M_valueOf_38 : decode b_M_valueOf 38 = .ok (.iadd, 1) := by decide +kernel
theorem d_M_valueOf_39 : decode b_M_valueOf 39 = .ok (.istore 4, 2) := by decide +kernel
theorem d_M_valueOf_41 : decode b_M_valueOf 41 = .ok (.iinc 5 1, 3) := by decide +kernel
theorem d_M_valueOf_44 : decode b_M_valueOf 44 = .ok (.goto (-38), 3) := by decide +kernel
theorem d_M_valueOf_47 : decode b_M_valueOf 47 = .ok (.iload 4, 2) := by decide +kernel
theorem d_M_valueOf_49 : decode b_M_valueOf 49 = .ok (.bipush 97, 2) := by decide +kernel
theorem d_M_valueOf_51 : decode b_M_valueOf 51 = .ok (.irem, 1) := by decide +kernel
theorem d_M_valueOf_52 : decode b_M_valueOf 52 = .ok (.ireturn, 1) := by decide +kernel
theorem d_M_inverse_0 : decode b_M_inverse 0 = .ok (.iconst 1, 1) := by decide +kernel
theorem d_M_inverse_1 : decode b_M_inverse 1 = .ok (.istore_n 1, 1) := by decide +kernel
theorem d_M_inverse_2 : decode b_M_inverse 2 = .ok (.iload_n 1, 1) := by decide +kernel
theorem d_M_inverse_3 : decode b_M_inverse 3 = .ok (.bipush 97, 2) := by decide +kernel
theorem d_M_inverse_5 : decode b_M_inverse 5 = .ok (.if_icmp .ge 21, 3) := by decide +kernel
theorem d_M_inverse_8 : decode b_M_inverse 8 = .ok (.iload_n 1, 1) := by decide +kernel
theorem d_M_inverse_9 : decode b_M_inverse 9 = .ok (.iload_n 0, 1) := by decide +kernel
theorem d_M_inverse_10 : decode b_M_inverse 10 = .ok (.imul, 1) := by decide +kernel
theorem d_M_inverse_11 : decode b_M_inverse 11 = .ok (.bipush 97, 2) := by decide +kernel
theorem d_M_inverse_13 : decode b_M_inverse 13 = .ok (.irem, 1) := by decide +kernel
theorem d_M_inverse_14 : decode b_M_inverse 14 = .ok (.iconst 1, 1) := by decide +kernel
theorem d_M_inverse_15 : decode b_M_inverse 15 = .ok (.if_icmp .ne 5, 3) := by decide +kernel
theorem d_M_inverse_18 : decode b_M_inverse 18 = .ok (.iload_n 1, 1) := by decide +kernel
theorem d_M_inverse_19 : decode b_M_inverse 19 = .ok (.ireturn, 1) := by decide +kernel
theorem d_M_inverse_20 : decode b_M_inverse 20 = .ok (.iinc 1 1, 3) := by decide +kernel
theorem d_M_inverse_23 : decode b_M_inverse 23 = .ok (.goto (-21), 3) := by decide +kernel
theorem d_M_inverse_26 : decode b_M_inverse 26 = .ok (.iconst 0, 1) := by decide +kernel
theorem d_M_inverse_27 : decode b_M_inverse 27 = .ok (.ireturn, 1) := by decide +kernel
theorem d_M_bad_0 : decode b_M_bad 0 = .ok (.iconst 0, 1) := by decide +kernel
theorem d_M_bad_1 : decode b_M_bad 1 = .ok (.istore_n 1, 1) := by decide +kernel
theorem d_M_bad_2 : decode b_M_bad 2 = .ok (.iconst 0, 1) := by decide +kernel
theorem d_M_bad_3 : decode b_M_bad 3 = .ok (.istore_n 2, 1) := by decide +kernel
theorem d_M_bad_4 : decode b_M_bad 4 = .ok (.iload_n 2, 1) := by decide +kernel
theorem d_M_bad_5 : decode b_M_bad 5 = .ok (.aload_n 0, 1) := by decide +kernel
theorem d_M_bad_6 : decode b_M_bad 6 = .ok (.getfield 142, 3) := by decide +kernel
theorem d_M_bad_9 : decode b_M_bad 9 = .ok (.if_icmp .ge 24, 3) := by decide +kernel
theorem d_M_bad_12 : decode b_M_bad 12 = .ok (.aload_n 0, 1) := by decide +kernel
theorem d_M_bad_13 : decode b_M_bad 13 = .ok (.iload_n 2, 1) := by decide +kernel
theorem d_M_bad_14 : decode b_M_bad 14 = .ok (.aload_n 0, 1) := by decide +kernel
theorem d_M_bad_15 : decode b_M_bad 15 = .ok (.getfield 47, 3) := by decide +kernel
theorem d_M_bad_18 : decode b_M_bad 18 = .ok (.invokevirtual 149, 3) := by decide +kernel
