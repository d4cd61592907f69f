theorem dX4_readFact_1 : decode cX4_readFact 1 = .ok (.ldc 227, 2) := by decide +kernel
theorem dX4_readFact_3 : decode cX4_readFact 3 = .ok (.invokevirtual 93, 3) := by decide +kernel
theorem dX4_readFact_6 : decode cX4_readFact 6 = .ok (.ifCond .eq 48, 3) := by decide +kernel
theorem dX4_readFact_54 : decode cX4_readFact 54 = .ok (.aload_n 0, 1) := by decide +kernel
theorem dX4_readFact_55 : decode cX4_readFact 55 = .ok (.getfield 29, 3) := by decide +kernel
theorem dX4_readFact_58 : decode cX4_readFact 58 = .ok (.bipush 91, 2) := by decide +kernel
theorem dX4_readFact_60 : decode cX4_readFact 60 = .ok (.if_icmp .ne 48, 3) := by decide +kernel
theorem dX4_readFact_108 : decode cX4_readFact 108 = .ok (.aload_n 0, 1) := by decide +kernel
theorem dX4_readFact_109 : decode cX4_readFact 109 = .ok (.ldc 235, 2) := by decide +kernel
theorem dX4_readFact_111 : decode cX4_readFact 111 = .ok (.invokevirtual 97, 3) := by decide +kernel
theorem dX4_readFact_114 : decode cX4_readFact 114 = .ok (.ifCond .eq 9, 3) := by decide +kernel
theorem dX4_readFact_123 : decode cX4_readFact 123 = .ok (.aload_n 0, 1) := by decide +kernel
theorem dX4_readFact_124 : decode cX4_readFact 124 = .ok (.invokevirtual 196, 3) := by decide +kernel
theorem dX4_readFact_127 : decode cX4_readFact 127 = .ok (.ifCond .ne 5, 3) := by decide +kernel
theorem dX4_readFact_132 : decode cX4_readFact 132 = .ok (.aload_n 0, 1) := by decide +kernel
theorem dX4_readFact_133 : decode cX4_readFact 133 = .ok (.getfield 29, 3) := by decide +kernel
theorem dX4_readFact_136 : decode cX4_readFact 136 = .ok (.invokestatic 237, 3) := by decide +kernel
theorem dX4_comparisonBy_0 : decode cX4_comparisonBy 0 = .ok (.iload_n 0, 1) := by decide +kernel
theorem dX4_comparisonBy_1 : decode cX4_comparisonBy 1 = .ok (.tableswitch 36 60 62 #[27, 33, 30], 27) := by decide +kernel
theorem dX4_comparisonBy_28 : decode cX4_comparisonBy 28 = .ok (.bipush (-11), 2) := by decide +kernel
theorem dX4_comparisonBy_30 : decode cX4_comparisonBy 30 = .ok (.ireturn, 1) := by decide +kernel
theorem dX4_comparisonBy_34 : decode cX4_comparisonBy 34 = .ok (.bipush (-13), 2) := by decide +kernel
theorem dX4_comparisonBy_36 : decode cX4_comparisonBy 36 = .ok (.ireturn, 1) := by decide +kernel
theorem dX4_comparisonBy_31 : decode cX4_comparisonBy 31 = .ok (.bipush (-12), 2) := by decide +kernel
theorem dX4_comparisonBy_33 : decode cX4_comparisonBy 33 = .ok (.ireturn, 1) := by decide +kernel
theorem dX4_comparisonBy_37 : decode cX4_comparisonBy 37 = .ok (.iconst 0, 1) := by decide +kernel
theorem dX4_comparisonBy_38 : decode cX4_comparisonBy 38 = .ok (.ireturn, 1) := by decide +kernel
theorem dX4_readFact_139 : decode cX4_readFact 139 = .ok (.istore_n 1, 1) := by decide +kernel
theorem dX4_readFact_140 : decode cX4_readFact 140 = .ok (.iload_n 1, 1) := by decide +kernel
theorem dX4_readFact_141 : decode cX4_readFact 141 = .ok (.ifCond .ne 8, 3) := by decide +kernel
theorem dX4_readFact_149 : decode cX4_readFact 149 = .ok (.aload_n 0, 1) := by decide +kernel
theorem dX4_readFact_150 : decode cX4_readFact 150 = .ok (.aload_n 0, 1) := by decide +kernel
theorem dX4_readFact_151 : decode cX4_readFact 151 = .ok (.getfield 25, 3) := by decide +kernel
theorem dX4_readFact_154 : decode cX4_readFact 154 = .ok (.iconst 1, 1) := by decide +kernel
theorem dX4_readFact_155 : decode cX4_readFact 155 = .ok (.iadd, 1) := by decide +kernel
theorem dX4_readFact_156 : decode cX4_readFact 156 = .ok (.iconst 0, 1) := by decide +kernel
theorem dX4_readFact_157 : decode cX4_readFact 157 = .ok (.invokevirtual 47, 3) := by decide +kernel
theorem dX4_readFact_160 : decode cX4_readFact 160 = .ok (.aload_n 0, 1) := by decide +kernel
theorem dX4_readFact_161 : decode cX4_readFact 161 = .ok (.invokevirtual 196, 3) := by decide +kernel
theorem dX4_readFact_164 : decode cX4_readFact 164 = .ok (.ifCond .eq 15, 3) := by decide +kernel
theorem dX4_readFact_179 : decode cX4_readFact 179 = .ok (.iconst 0, 1) := by decide +kernel
theorem dX4_readFact_180 : decode cX4_readFact 180 = .ok (.ireturn, 1) := by decide +kernel
theorem dX4_readFact_167 : decode cX4_readFact 167 = .ok (.aload_n 0, 1) := by decide +kernel
theorem dX4_readFact_168 : decode cX4_readFact 168 = .ok (.iload_n 1, 1) := by decide +kernel
theorem dX4_readFact_169 : decode cX4_readFact 169 = .ok (.invokevirtual 219, 3) := by decide +kernel
theorem dX4_readFact_172 : decode cX4_readFact 172 = .ok (.ifCond .eq 7, 3) := by decide +kernel
theorem dX4_readFact_175 : decode cX4_readFact 175 = .ok (.iconst 1, 1) := by decide +kernel
theorem dX4_readFact_176 : decode cX4_readFact 176 = .ok (.goto 4, 3) := by decide +kernel
theorem dX4_readFact_144 : decode cX4_readFact 144 = .ok (.aload_n 0, 1) := by decide +kernel
theorem dX4_readFact_145 : decode cX4_readFact 145 = .ok (.invokevirtual 51, 3) := by decide +kernel
theorem dX4_readFact_148 : decode cX4_readFact 148 = .ok (.ireturn, 1) := by decide +kernel
theorem dX4_readFact_130 : decode cX4_readFact 130 = .ok (.iconst 0, 1) := by decide +kernel
theorem dX4_readFact_131 : decode cX4_readFact 131 = .ok (.ireturn, 1) := by decide +kernel
theorem dX4_readFact_117 : decode cX4_readFact 117 = .ok (.aload_n 0, 1) := by decide +kernel
theorem dX4_readFact_118 : decode cX4_readFact 118 = .ok (.iconst 1, 1) := by decide +kernel
theorem dX4_readFact_119 : decode cX4_readFact 119 = .ok (.invokevirtual 219, 3) := by decide +kernel
theorem dX4_readFact_122 : decode cX4_readFact 122 = .ok (.ireturn, 1) := by decide +kernel
theorem dX4_readFact_63 : decode cX4_readFact 63 = .ok (.aload_n 0, 1) := by decide +kernel
theorem dX4_readFact_64 : decode cX4_readFact 64 = .ok (.invokevirtual 229, 3) := by decide +kernel
theorem dX4_readFact_67 : decode cX4_readFact 67 = .ok (.ifCond .eq 39, 3) := by decide +kernel
theorem dX4_readFact_70 : decode cX4_readFact 70 = .ok (.aload_n 0, 1) := by decide +kernel
theorem dX4_readFact_71 : decode cX4_readFact 71 = .ok (.bipush 91, 2) := by decide +kernel
theorem dX4_readFact_73 : decode cX4_readFact 73 = .ok (.invokevirtual 63, 3) := by decide +kernel
theorem dX4_readFact_76 : decode cX4_readFact 76 = .ok (.ifCond .eq 30, 3) := by decide +kernel
theorem dX4_readFact_106 : decode cX4_readFact 106 = .ok (.iconst 0, 1) := by decide +kernel
theorem dX4_readFact_107 : decode cX4_readFact 107 = .ok (.ireturn, 1) := by decide +kernel
theorem dX4_readFact_79 : decode cX4_readFact 79 = .ok (.aload_n 0, 1) := by decide +kernel
theorem dX4_readFact_80 : decode cX4_readFact 80 = .ok (.invokevirtual 204, 3) := by decide +kernel
theorem dX4_readFact_9 : decode cX4_readFact 9 = .ok (.aload_n 0, 1) := by decide +kernel
theorem dX4_readFact_10 : decode cX4_readFact 10 = .ok (.invokevirtual 229, 3) := by decide +kernel
theorem dX4_readFact_13 : decode cX4_readFact 13 = .ok (.ifCond .eq 39, 3) := by decide +kernel
theorem dX4_readFact_52 : decode cX4_readFact 52 = .ok (.iconst 0, 1) := by decide +kernel
theorem dX4_readFact_53 : decode cX4_readFact 53 = .ok (.ireturn, 1) := by decide +kernel
theorem dX4_readBoth_4 : decode cX4_readBoth 4 = .ok (.istore_n 1, 1) := by decide +kernel
theorem dX4_readBoth_5 : decode cX4_readBoth 5 = .ok (.iconst 0, 1) := by decide +kernel
theorem dX4_readBoth_6 : decode cX4_readBoth 6 = .ok (.istore_n 2, 1) := by decide +kernel
theorem dX4_readBoth_7 : decode cX4_readBoth 7 = .ok (.iload_n 2, 1) := by decide +kernel
theorem dX4_readBoth_8 : decode cX4_readBoth 8 = .ok (.sipush 1600, 3) := by decide +kernel
theorem dX4_readBoth_11 : decode cX4_readBoth 11 = .ok (.if_icmp .ge 44, 3) := by decide +kernel
theorem dX4_readBoth_14 : decode cX4_readBoth 14 = .ok (.iload_n 1, 1) := by decide +kernel
theorem dX4_readBoth_15 : decode cX4_readBoth 15 = .ok (.ifCond .eq 40, 3) := by decide +kernel
theorem dX4_readBoth_55 : decode cX4_readBoth 55 = .ok (.iload_n 1, 1) := by decide +kernel
theorem dX4_readBoth_56 : decode cX4_readBoth 56 = .ok (.ireturn, 1) := by decide +kernel
theorem dX4_readBoth_18 : decode cX4_readBoth 18 = .ok (.aload_n 0, 1) := by decide +kernel
theorem dX4_readBoth_19 : decode cX4_readBoth 19 = .ok (.ldc 225, 2) := by decide +kernel
theorem dX4_readBoth_21 : decode cX4_readBoth 21 = .ok (.invokevirtual 97, 3) := by decide +kernel
theorem dX4_readBoth_24 : decode cX4_readBoth 24 = .ok (.ifCond .eq 31, 3) := by decide +kernel
theorem dX4_readBoth_27 : decode cX4_readBoth 27 = .ok (.aload_n 0, 1) := by decide +kernel
theorem dX4_readBoth_28 : decode cX4_readBoth 28 = .ok (.invokevirtual 222, 3) := by decide +kernel
theorem dX4_readBoth_31 : decode cX4_readBoth 31 = .ok (.ifCond .eq 16, 3) := by decide +kernel
theorem dX4_readBoth_47 : decode cX4_readBoth 47 = .ok (.iconst 0, 1) := by decide +kernel
theorem dX4_readBoth_48 : decode cX4_readBoth 48 = .ok (.istore_n 1, 1) := by decide +kernel
theorem dX4_readBoth_49 : decode cX4_readBoth 49 = .ok (.iinc 2 1, 3) := by decide +kernel
theorem dX4_readBoth_52 : decode cX4_readBoth 52 = .ok (.goto (-45), 3) := by decide +kernel
theorem dX4_readBoth_34 : decode cX4_readBoth 34 = .ok (.aload_n 0, 1) := by decide +kernel
theorem dX4_readBoth_35 : decode cX4_readBoth 35 = .ok (.bipush (-14), 2) := by decide +kernel
theorem dX4_readBoth_37 : decode cX4_readBoth 37 = .ok (.invokevirtual 219, 3) := by decide +kernel
theorem dX4_readBoth_40 : decode cX4_readBoth 40 = .ok (.ifCond .eq 7, 3) := by decide +kernel
theorem dX4_readBoth_43 : decode cX4_readBoth 43 = .ok (.iconst 1, 1) := by decide +kernel
theorem dX4_readBoth_44 : decode cX4_readBoth 44 = .ok (.goto 4, 3) := by decide +kernel
theorem dX4_readTest_4 : decode cX4_readTest 4 = .ok (.istore_n 1, 1) := by decide +kernel
theorem dX4_readTest_5 : decode cX4_readTest 5 = .ok (.iconst 0, 1) := by decide +kernel
theorem dX4_readTest_6 : decode cX4_readTest 6 = .ok (.istore_n 2, 1) := by decide +kernel
theorem dX4_readTest_7 : decode cX4_readTest 7 = .ok (.iload_n 2, 1) := by decide +kernel
theorem dX4_readTest_8 : decode cX4_readTest 8 = .ok (.sipush 1600, 3) := by decide +kernel
theorem dX4_readTest_11 : decode cX4_readTest 11 = .ok (.if_icmp .ge 44, 3) := by decide +kernel
theorem dX4_readTest_14 : decode cX4_readTest 14 = .ok (.iload_n 1, 1) := by decide +kernel
theorem dX4_readTest_15 : decode cX4_readTest 15 = .ok (.ifCond .eq 40, 3) := by decide +kernel
theorem dX4_readTest_55 : decode cX4_readTest 55 = .ok (.iload_n 1, 1) := by decide +kernel
theorem dX4_readTest_56 : decode cX4_readTest 56 = .ok (.ireturn, 1) := by decide +kernel
theorem dX4_readTest_18 : decode cX4_readTest 18 = .ok (.aload_n 0, 1) := by decide +kernel
theorem dX4_readTest_19 : decode cX4_readTest 19 = .ok (.ldc 217, 2) := by decide +kernel
theorem dX4_readTest_21 : decode cX4_readTest 21 = .ok (.invokevirtual 97, 3) := by decide +kernel
theorem dX4_readTest_24 : decode cX4_readTest 24 = .ok (.ifCond .eq 31, 3) := by decide +kernel
theorem dX4_readTest_27 : decode cX4_readTest 27 = .ok (.aload_n 0, 1) := by decide +kernel
theorem dX4_readTest_28 : decode cX4_readTest 28 = .ok (.invokevirtual 214, 3) := by decide +kernel
theorem dX4_readTest_31 : decode cX4_readTest 31 = .ok (.ifCond .eq 16, 3) := by decide +kernel
theorem dX4_readTest_47 : decode cX4_readTest 47 = .ok (.iconst 0, 1) := by decide +kernel
theorem dX4_readTest_48 : decode cX4_readTest 48 = .ok (.istore_n 1, 1) := by decide +kernel
theorem dX4_readTest_49 : decode cX4_readTest 49 = .ok (.iinc 2 1, 3) := by decide +kernel
theorem dX4_readTest_52 : decode cX4_readTest 52 = .ok (.goto (-45), 3) := by decide +kernel
theorem dX4_readTest_34 : decode cX4_readTest 34 = .ok (.aload_n 0, 1) := by decide +kernel
theorem dX4_readTest_35 : decode cX4_readTest 35 = .ok (.bipush (-15), 2) := by decide +kernel
theorem dX4_readTest_37 : decode cX4_readTest 37 = .ok (.invokevirtual 219, 3) := by decide +kernel
theorem dX4_readTest_40 : decode cX4_readTest 40 = .ok (.ifCond .eq 7, 3) := by decide +kernel
theorem dX4_readTest_43 : decode cX4_readTest 43 = .ok (.iconst 1, 1) := by decide +kernel
theorem dX4_readTest_44 : decode cX4_readTest 44 = .ok (.goto 4, 3) := by decide +kernel
theorem dX4_readFact_83 : decode cX4_readFact 83 = .ok (.ifCond .eq 23, 3) := by decide +kernel
theorem dX4_readFact_86 : decode cX4_readFact 86 = .ok (.aload_n 0, 1) := by decide +kernel
theorem dX4_readFact_87 : decode cX4_readFact 87 = .ok (.bipush 93, 2) := by decide +kernel
theorem dX4_readFact_89 : decode cX4_readFact 89 = .ok (.invokevirtual 63, 3) := by decide +kernel
theorem dX4_readFact_92 : decode cX4_readFact 92 = .ok (.ifCond .eq 14, 3) := by decide +kernel
theorem dX4_readFact_95 : decode cX4_readFact 95 = .ok (.aload_n 0, 1) := by decide +kernel
theorem dX4_readFact_96 : decode cX4_readFact 96 = .ok (.invokevirtual 232, 3) := by decide +kernel
theorem dX4_readFact_99 : decode cX4_readFact 99 = .ok (.ifCond .eq 7, 3) := by decide +kernel
theorem dX4_readFact_102 : decode cX4_readFact 102 = .ok (.iconst 1, 1) := by decide +kernel
theorem dX4_readFact_103 : decode cX4_readFact 103 = .ok (.goto 4, 3) := by decide +kernel
theorem dX4_readFact_16 : decode cX4_readFact 16 = .ok (.aload_n 0, 1) := by decide +kernel
theorem dX4_readFact_17 : decode cX4_readFact 17 = .ok (.ldc 227, 2) := by decide +kernel
theorem dX4_readFact_19 : decode cX4_readFact 19 = .ok (.invokevirtual 109, 3) := by decide +kernel
theorem dX4_readFact_22 : decode cX4_readFact 22 = .ok (.ifCond .eq 30, 3) := by decide +kernel
theorem dX4_readFact_25 : decode cX4_readFact 25 = .ok (.aload_n 0, 1) := by decide +kernel
theorem dX4_readFact_26 : decode cX4_readFact 26 = .ok (.invokevirtual 222, 3) := by decide +kernel
theorem dX4_readFact_29 : decode cX4_readFact 29 = .ok (.ifCond .eq 23, 3) := by decide +kernel
theorem dX4_readFact_32 : decode cX4_readFact 32 = .ok (.aload_n 0, 1) := by decide +kernel
theorem dX4_readFact_33 : decode cX4_readFact 33 = .ok (.invokevirtual 232, 3) := by decide +kernel
theorem dX4_readFact_36 : decode cX4_readFact 36 = .ok (.ifCond .eq 16, 3) := by decide +kernel
theorem dX4_readFact_39 : decode cX4_readFact 39 = .ok (.aload_n 0, 1) := by decide +kernel
theorem dX4_readFact_40 : decode cX4_readFact 40 = .ok (.bipush (-4), 2) := by decide +kernel
theorem dX4_readFact_42 : decode cX4_readFact 42 = .ok (.invokevirtual 219, 3) := by decide +kernel
theorem dX4_readFact_45 : decode cX4_readFact 45 = .ok (.ifCond .eq 7, 3) := by decide +kernel
theorem dX4_readFact_48 : decode cX4_readFact 48 = .ok (.iconst 1, 1) := by decide +kernel
theorem dX4_readFact_49 : decode cX4_readFact 49 = .ok (.goto 4, 3) := by decide +kernel
theorem dX4_readRule_42 : decode cX4_readRule 42 = .ok (.ifCond .ne 5, 3) := by decide +kernel
theorem dX4_readRule_47 : decode cX4_readRule 47 = .ok (.aload_n 0, 1) := by decide +kernel
theorem dX4_readRule_48 : decode cX4_readRule 48 = .ok (.getfield 21, 3) := by decide +kernel
theorem dX4_readRule_51 : decode cX4_readRule 51 = .ok (.getfield 139, 3) := by decide +kernel
theorem dX4_readRule_54 : decode cX4_readRule 54 = .ok (.invokevirtual 207, 3) := by decide +kernel
theorem dX4_readRule_57 : decode cX4_readRule 57 = .ok (.iconst 1, 1) := by decide +kernel
theorem dX4_readRule_58 : decode cX4_readRule 58 = .ok (.ireturn, 1) := by decide +kernel
theorem dX4_readRule_45 : decode cX4_readRule 45 = .ok (.iconst 0, 1) := by decide +kernel
theorem dX4_readRule_46 : decode cX4_readRule 46 = .ok (.ireturn, 1) := by decide +kernel
theorem dX4_readStatement_166 : decode cX4_readStatement 166 = .ok (.ifCond .eq 7, 3) := by decide +kernel
theorem dX4_readStatement_169 : decode cX4_readStatement 169 = .ok (.iconst 1, 1) := by decide +kernel
theorem dX4_readStatement_170 : decode cX4_readStatement 170 = .ok (.goto 4, 3) := by decide +kernel
theorem dX4_readStatement_87 : decode cX4_readStatement 87 = .ok (.aload_n 0, 1) := by decide +kernel
theorem dX4_readStatement_88 : decode cX4_readStatement 88 = .ok (.aload_n 0, 1) := by decide +kernel
theorem dX4_readStatement_89 : decode cX4_readStatement 89 = .ok (.getfield 21, 3) := by decide +kernel
theorem dX4_readStatement_92 : decode cX4_readStatement 92 = .ok (.getfield 131, 3) := by decide +kernel
theorem dX4_readStatement_95 : decode cX4_readStatement 95 = .ok (.bipush 16, 2) := by decide +kernel
theorem dX4_readStatement_97 : decode cX4_readStatement 97 = .ok (.invokevirtual 123, 3) := by decide +kernel
theorem dX4_readStatement_100 : decode cX4_readStatement 100 = .ok (.ifCond .eq 23, 3) := by decide +kernel
theorem dX4_readStatement_123 : decode cX4_readStatement 123 = .ok (.iconst 0, 1) := by decide +kernel
theorem dX4_readStatement_124 : decode cX4_readStatement 124 = .ok (.ireturn, 1) := by decide +kernel
theorem dX4_readStatement_103 : decode cX4_readStatement 103 = .ok (.aload_n 0, 1) := by decide +kernel
theorem dX4_readStatement_104 : decode cX4_readStatement 104 = .ok (.ldc 129, 2) := by decide +kernel
theorem dX4_readStatement_106 : decode cX4_readStatement 106 = .ok (.invokevirtual 109, 3) := by decide +kernel
theorem dX4_readStatement_109 : decode cX4_readStatement 109 = .ok (.ifCond .eq 14, 3) := by decide +kernel
theorem dX4_readStatement_112 : decode cX4_readStatement 112 = .ok (.aload_n 0, 1) := by decide +kernel
theorem dX4_readStatement_113 : decode cX4_readStatement 113 = .ok (.invokevirtual 134, 3) := by decide +kernel
theorem dX4_readLetters_0 : decode cX4_readLetters 0 = .ok (.iconst 0, 1) := by decide +kernel
theorem dX4_readLetters_1 : decode cX4_readLetters 1 = .ok (.istore_n 1, 1) := by decide +kernel
theorem dX4_readLetters_2 : decode cX4_readLetters 2 = .ok (.iload_n 1, 1) := by decide +kernel
theorem dX4_readLetters_3 : decode cX4_readLetters 3 = .ok (.aload_n 0, 1) := by decide +kernel
theorem dX4_readLetters_4 : decode cX4_readLetters 4 = .ok (.getfield 21, 3) := by decide +kernel
theorem dX4_readLetters_7 : decode cX4_readLetters 7 = .ok (.getfield 163, 3) := by decide +kernel
theorem dX4_readLetters_10 : decode cX4_readLetters 10 = .ok (.if_icmp .ge 63, 3) := by decide +kernel
theorem dX4_readLetters_73 : decode cX4_readLetters 73 = .ok (.aload_n 0, 1) := by decide +kernel
theorem dX4_readLetters_74 : decode cX4_readLetters 74 = .ok (.getfield 21, 3) := by decide +kernel
theorem dX4_readLetters_77 : decode cX4_readLetters 77 = .ok (.dup, 1) := by decide +kernel
theorem dX4_readLetters_78 : decode cX4_readLetters 78 = .ok (.getfield 131, 3) := by decide +kernel
theorem dX4_readLetters_81 : decode cX4_readLetters 81 = .ok (.iconst 1, 1) := by decide +kernel
theorem dX4_readLetters_82 : decode cX4_readLetters 82 = .ok (.iadd, 1) := by decide +kernel
theorem dX4_readLetters_83 : decode cX4_readLetters 83 = .ok (.putfield 131, 3) := by decide +kernel
theorem dX4_readLetters_86 : decode cX4_readLetters 86 = .ok (.iconst 1, 1) := by decide +kernel
theorem dX4_readLetters_87 : decode cX4_readLetters 87 = .ok (.ireturn, 1) := by decide +kernel
theorem dX4_readLetters_13 : decode cX4_readLetters 13 = .ok (.aload_n 0, 1) := by decide +kernel
theorem dX4_readLetters_14 : decode cX4_readLetters 14 = .ok (.invokevirtual 166, 3) := by decide +kernel
theorem dX4_readSigned_0 : decode cX4_readSigned 0 = .ok (.aload_n 0, 1) := by decide +kernel
theorem dX4_readSigned_1 : decode cX4_readSigned 1 = .ok (.getfield 25, 3) := by decide +kernel
theorem dX4_readSigned_4 : decode cX4_readSigned 4 = .ok (.istore_n 1, 1) := by decide +kernel
theorem dX4_readSigned_5 : decode cX4_readSigned 5 = .ok (.aload_n 0, 1) := by decide +kernel
theorem dX4_readSigned_6 : decode cX4_readSigned 6 = .ok (.bipush 45, 2) := by decide +kernel
theorem dX4_readSigned_8 : decode cX4_readSigned 8 = .ok (.invokevirtual 100, 3) := by decide +kernel
theorem dX4_readSigned_11 : decode cX4_readSigned 11 = .ok (.istore_n 2, 1) := by decide +kernel
theorem dX4_readSigned_12 : decode cX4_readSigned 12 = .ok (.aload_n 0, 1) := by decide +kernel
theorem dX4_readSigned_13 : decode cX4_readSigned 13 = .ok (.invokevirtual 103, 3) := by decide +kernel
theorem dX4_readSigned_16 : decode cX4_readSigned 16 = .ok (.istore_n 3, 1) := by decide +kernel
theorem dX4_readSigned_17 : decode cX4_readSigned 17 = .ok (.iload_n 3, 1) := by decide +kernel
theorem dX4_readSigned_18 : decode cX4_readSigned 18 = .ok (.iconst (-1), 1) := by decide +kernel
theorem dX4_readSigned_19 : decode cX4_readSigned 19 = .ok (.if_icmp .ne 6, 3) := by decide +kernel
theorem dX4_readSigned_25 : decode cX4_readSigned 25 = .ok (.aload_n 0, 1) := by decide +kernel
theorem dX4_readSigned_26 : decode cX4_readSigned 26 = .ok (.iload_n 1, 1) := by decide +kernel
theorem dX4_readSigned_27 : decode cX4_readSigned 27 = .ok (.putfield 32, 3) := by decide +kernel
theorem dX4_readSigned_30 : decode cX4_readSigned 30 = .ok (.iload_n 2, 1) := by decide +kernel
theorem dX4_readSigned_31 : decode cX4_readSigned 31 = .ok (.ifCond .eq 8, 3) := by decide +kernel
theorem dX4_readSigned_39 : decode cX4_readSigned 39 = .ok (.iload_n 3, 1) := by decide +kernel
theorem dX4_readSigned_40 : decode cX4_readSigned 40 = .ok (.ireturn, 1) := by decide +kernel
theorem dX4_readSigned_34 : decode cX4_readSigned 34 = .ok (.iload_n 3, 1) := by decide +kernel
theorem dX4_readSigned_35 : decode cX4_readSigned 35 = .ok (.ineg, 1) := by decide +kernel
theorem dX4_readSigned_36 : decode cX4_readSigned 36 = .ok (.goto 4, 3) := by decide +kernel
theorem dX4_readSigned_22 : decode cX4_readSigned 22 = .ok (.ldc 106, 2) := by decide +kernel
theorem dX4_readSigned_24 : decode cX4_readSigned 24 = .ok (.ireturn, 1) := by decide +kernel
theorem dX4_readLetters_17 : decode cX4_readLetters 17 = .ok (.istore_n 2, 1) := by decide +kernel
theorem dX4_readLetters_18 : decode cX4_readLetters 18 = .ok (.iload_n 2, 1) := by decide +kernel
theorem dX4_readLetters_19 : decode cX4_readLetters 19 = .ok (.ldc 106, 2) := by decide +kernel
theorem dX4_readLetters_21 : decode cX4_readLetters 21 = .ok (.if_icmp .ne 5, 3) := by decide +kernel
theorem dX4_readLetters_26 : decode cX4_readLetters 26 = .ok (.aload_n 0, 1) := by decide +kernel
theorem dX4_readLetters_27 : decode cX4_readLetters 27 = .ok (.getfield 21, 3) := by decide +kernel
theorem dX4_readLetters_30 : decode cX4_readLetters 30 = .ok (.iload_n 2, 1) := by decide +kernel
theorem dX4_readLetters_31 : decode cX4_readLetters 31 = .ok (.invokevirtual 184, 3) := by decide +kernel
theorem dX4_readLetters_34 : decode cX4_readLetters 34 = .ok (.ifCond .ne 13, 3) := by decide +kernel
theorem dX4_readLetters_47 : decode cX4_readLetters 47 = .ok (.aload_n 0, 1) := by decide +kernel
theorem dX4_readLetters_48 : decode cX4_readLetters 48 = .ok (.getfield 21, 3) := by decide +kernel
theorem dX4_readLetters_51 : decode cX4_readLetters 51 = .ok (.getfield 187, 3) := by decide +kernel
theorem dX4_readLetters_54 : decode cX4_readLetters 54 = .ok (.aload_n 0, 1) := by decide +kernel
theorem dX4_readLetters_55 : decode cX4_readLetters 55 = .ok (.getfield 21, 3) := by decide +kernel
theorem dX4_readLetters_58 : decode cX4_readLetters 58 = .ok (.getfield 131, 3) := by decide +kernel
theorem dX4_readLetters_61 : decode cX4_readLetters 61 = .ok (.iconst 5, 1) := by decide +kernel
theorem dX4_readLetters_62 : decode cX4_readLetters 62 = .ok (.imul, 1) := by decide +kernel
theorem dX4_readLetters_63 : decode cX4_readLetters 63 = .ok (.iload_n 1, 1) := by decide +kernel
theorem dX4_readLetters_64 : decode cX4_readLetters 64 = .ok (.iadd, 1) := by decide +kernel
theorem dX4_readLetters_65 : decode cX4_readLetters 65 = .ok (.iload_n 2, 1) := by decide +kernel
theorem dX4_readLetters_66 : decode cX4_readLetters 66 = .ok (.iastore, 1) := by decide +kernel
theorem dX4_readLetters_67 : decode cX4_readLetters 67 = .ok (.iinc 1 1, 3) := by decide +kernel
theorem dX4_readLetters_70 : decode cX4_readLetters 70 = .ok (.goto (-68), 3) := by decide +kernel
theorem dX4_readLetters_37 : decode cX4_readLetters 37 = .ok (.aload_n 0, 1) := by decide +kernel
theorem dX4_readLetters_38 : decode cX4_readLetters 38 = .ok (.iconst 2, 1) := by decide +kernel
theorem dX4_readLetters_39 : decode cX4_readLetters 39 = .ok (.aload_n 0, 1) := by decide +kernel
theorem dX4_readLetters_40 : decode cX4_readLetters 40 = .ok (.getfield 32, 3) := by decide +kernel
theorem dX4_readLetters_43 : decode cX4_readLetters 43 = .ok (.invokevirtual 55, 3) := by decide +kernel
theorem dX4_readLetters_46 : decode cX4_readLetters 46 = .ok (.ireturn, 1) := by decide +kernel
theorem dX4_readLetters_24 : decode cX4_readLetters 24 = .ok (.iconst 0, 1) := by decide +kernel
theorem dX4_readLetters_25 : decode cX4_readLetters 25 = .ok (.ireturn, 1) := by decide +kernel
theorem dX4_readStatement_116 : decode cX4_readStatement 116 = .ok (.ifCond .eq 7, 3) := by decide +kernel
theorem dX4_readStatement_119 : decode cX4_readStatement 119 = .ok (.iconst 1, 1) := by decide +kernel
theorem dX4_readStatement_120 : decode cX4_readStatement 120 = .ok (.goto 4, 3) := by decide +kernel
theorem dX4_readStatement_35 : decode cX4_readStatement 35 = .ok (.aload_n 0, 1) := by decide +kernel
theorem dX4_readStatement_36 : decode cX4_readStatement 36 = .ok (.aload_n 0, 1) := by decide +kernel
theorem dX4_readStatement_37 : decode cX4_readStatement 37 = .ok (.getfield 21, 3) := by decide +kernel
theorem dX4_readStatement_40 : decode cX4_readStatement 40 = .ok (.getfield 117, 3) := by decide +kernel
theorem dX4_readStatement_43 : decode cX4_readStatement 43 = .ok (.aload_n 0, 1) := by decide +kernel
theorem dX4_readStatement_44 : decode cX4_readStatement 44 = .ok (.getfield 21, 3) := by decide +kernel
theorem dX4_readStatement_47 : decode cX4_readStatement 47 = .ok (.getfield 120, 3) := by decide +kernel
theorem dX4_readStatement_50 : decode cX4_readStatement 50 = .ok (.invokevirtual 123, 3) := by decide +kernel
theorem dX4_readStatement_53 : decode cX4_readStatement 53 = .ok (.ifCond .eq 23, 3) := by decide +kernel
theorem dX4_readStatement_76 : decode cX4_readStatement 76 = .ok (.iconst 0, 1) := by decide +kernel
theorem dX4_readStatement_77 : decode cX4_readStatement 77 = .ok (.ireturn, 1) := by decide +kernel
theorem dX4_readStatement_56 : decode cX4_readStatement 56 = .ok (.aload_n 0, 1) := by decide +kernel
theorem dX4_readStatement_57 : decode cX4_readStatement 57 = .ok (.ldc 115, 2) := by decide +kernel
theorem dX4_readStatement_59 : decode cX4_readStatement 59 = .ok (.invokevirtual 109, 3) := by decide +kernel
theorem dX4_readStatement_62 : decode cX4_readStatement 62 = .ok (.ifCond .eq 14, 3) := by decide +kernel
theorem dX4_readStatement_65 : decode cX4_readStatement 65 = .ok (.aload_n 0, 1) := by decide +kernel
theorem dX4_readStatement_66 : decode cX4_readStatement 66 = .ok (.invokevirtual 126, 3) := by decide +kernel
theorem dX4_readRow_0 : decode cX4_readRow 0 = .ok (.iconst 0, 1) := by decide +kernel
theorem dX4_readRow_1 : decode cX4_readRow 1 = .ok (.istore_n 1, 1) := by decide +kernel
theorem dX4_readRow_2 : decode cX4_readRow 2 = .ok (.iload_n 1, 1) := by decide +kernel
theorem dX4_readRow_3 : decode cX4_readRow 3 = .ok (.aload_n 0, 1) := by decide +kernel
theorem dX4_readRow_4 : decode cX4_readRow 4 = .ok (.getfield 21, 3) := by decide +kernel
theorem dX4_readRow_7 : decode cX4_readRow 7 = .ok (.getfield 163, 3) := by decide +kernel
theorem dX4_readRow_10 : decode cX4_readRow 10 = .ok (.if_icmp .ge 60, 3) := by decide +kernel
theorem dX4_readRow_70 : decode cX4_readRow 70 = .ok (.aload_n 0, 1) := by decide +kernel
theorem dX4_readRow_71 : decode cX4_readRow 71 = .ok (.getfield 21, 3) := by decide +kernel
theorem dX4_readRow_74 : decode cX4_readRow 74 = .ok (.dup, 1) := by decide +kernel
theorem dX4_readRow_75 : decode cX4_readRow 75 = .ok (.getfield 117, 3) := by decide +kernel
theorem dX4_readRow_78 : decode cX4_readRow 78 = .ok (.iconst 1, 1) := by decide +kernel
theorem dX4_readRow_79 : decode cX4_readRow 79 = .ok (.iadd, 1) := by decide +kernel
theorem dX4_readRow_80 : decode cX4_readRow 80 = .ok (.putfield 117, 3) := by decide +kernel
theorem dX4_readRow_83 : decode cX4_readRow 83 = .ok (.iconst 1, 1) := by decide +kernel
theorem dX4_readRow_84 : decode cX4_readRow 84 = .ok (.ireturn, 1) := by decide +kernel
theorem dX4_readRow_13 : decode cX4_readRow 13 = .ok (.aload_n 0, 1) := by decide +kernel
theorem dX4_readRow_14 : decode cX4_readRow 14 = .ok (.invokevirtual 166, 3) := by decide +kernel
theorem dX4_readRow_17 : decode cX4_readRow 17 = .ok (.istore_n 2, 1) := by decide +kernel
theorem dX4_readRow_18 : decode cX4_readRow 18 = .ok (.iload_n 2, 1) := by decide +kernel
theorem dX4_readRow_19 : decode cX4_readRow 19 = .ok (.ldc 106, 2) := by decide +kernel
theorem dX4_readRow_21 : decode cX4_readRow 21 = .ok (.if_icmp .ne 5, 3) := by decide +kernel
theorem dX4_readRow_26 : decode cX4_readRow 26 = .ok (.iload_n 2, 1) := by decide +kernel
theorem dX4_readRow_27 : decode cX4_readRow 27 = .ok (.invokestatic 169, 3) := by decide +kernel
theorem dX4_readRow_30 : decode cX4_readRow 30 = .ok (.bipush 99, 2) := by decide +kernel
theorem dX4_readRow_32 : decode cX4_readRow 32 = .ok (.if_icmp .le 13, 3) := by decide +kernel
theorem dX4_readRow_45 : decode cX4_readRow 45 = .ok (.aload_n 0, 1) := by decide +kernel
theorem dX4_readRow_46 : decode cX4_readRow 46 = .ok (.getfield 21, 3) := by decide +kernel
theorem dX4_readRow_49 : decode cX4_readRow 49 = .ok (.getfield 174, 3) := by decide +kernel
theorem dX4_readRow_52 : decode cX4_readRow 52 = .ok (.aload_n 0, 1) := by decide +kernel
theorem dX4_readRow_53 : decode cX4_readRow 53 = .ok (.getfield 21, 3) := by decide +kernel
theorem dX4_readRow_56 : decode cX4_readRow 56 = .ok (.getfield 117, 3) := by decide +kernel
theorem dX4_readRow_59 : decode cX4_readRow 59 = .ok (.iload_n 1, 1) := by decide +kernel
theorem dX4_readRow_60 : decode cX4_readRow 60 = .ok (.iload_n 2, 1) := by decide +kernel
theorem dX4_readRow_61 : decode cX4_readRow 61 = .ok (.invokevirtual 178, 3) := by decide +kernel
theorem dX4_readRow_64 : decode cX4_readRow 64 = .ok (.iinc 1 1, 3) := by decide +kernel
theorem dX4_readRow_67 : decode cX4_readRow 67 = .ok (.goto (-65), 3) := by decide +kernel
theorem dX4_readRow_35 : decode cX4_readRow 35 = .ok (.aload_n 0, 1) := by decide +kernel
theorem dX4_readRow_36 : decode cX4_readRow 36 = .ok (.iconst 2, 1) := by decide +kernel
theorem dX4_readRow_37 : decode cX4_readRow 37 = .ok (.aload_n 0, 1) := by decide +kernel
theorem dX4_readRow_38 : decode cX4_readRow 38 = .ok (.getfield 32, 3) := by decide +kernel
theorem dX4_readRow_41 : decode cX4_readRow 41 = .ok (.invokevirtual 55, 3) := by decide +kernel
theorem dX4_readRow_44 : decode cX4_readRow 44 = .ok (.ireturn, 1) := by decide +kernel
theorem dX4_readRow_24 : decode cX4_readRow 24 = .ok (.iconst 0, 1) := by decide +kernel
theorem dX4_readRow_25 : decode cX4_readRow 25 = .ok (.ireturn, 1) := by decide +kernel
theorem dX4_readStatement_69 : decode cX4_readStatement 69 = .ok (.ifCond .eq 7, 3) := by decide +kernel
theorem dX4_readStatement_72 : decode cX4_readStatement 72 = .ok (.iconst 1, 1) := by decide +kernel
theorem dX4_readStatement_73 : decode cX4_readStatement 73 = .ok (.goto 4, 3) := by decide +kernel
theorem dX4_readHouse_67 : decode cX4_readHouse 67 = .ok (.aload_n 0, 1) := by decide +kernel
theorem dX4_readHouse_68 : decode cX4_readHouse 68 = .ok (.iconst 4, 1) := by decide +kernel
theorem dX4_readHouse_69 : decode cX4_readHouse 69 = .ok (.aload_n 0, 1) := by decide +kernel
theorem dX4_readHouse_70 : decode cX4_readHouse 70 = .ok (.getfield 25, 3) := by decide +kernel
theorem dX4_readHouse_73 : decode cX4_readHouse 73 = .ok (.invokevirtual 55, 3) := by decide +kernel
theorem dX4_readHouse_76 : decode cX4_readHouse 76 = .ok (.ireturn, 1) := by decide +kernel
theorem dX4_readHouse_55 : decode cX4_readHouse 55 = .ok (.iconst 1, 1) := by decide +kernel
theorem dX4_readHouse_56 : decode cX4_readHouse 56 = .ok (.goto 4, 3) := by decide +kernel
theorem dX11_house_7 : decode cX11_house 7 = .ok (.istore_n 1, 1) := by decide +kernel
theorem dX11_house_8 : decode cX11_house 8 = .ok (.aload_n 0, 1) := by decide +kernel
theorem dX11_house_9 : decode cX11_house 9 = .ok (.getfield 20, 3) := by decide +kernel
theorem dX11_house_12 : decode cX11_house 12 = .ok (.iconst 0, 1) := by decide +kernel
theorem dX11_house_13 : decode cX11_house 13 = .ok (.invokevirtual 97, 3) := by decide +kernel
theorem dX11_house_16 : decode cX11_house 16 = .ok (.iload_n 1, 1) := by decide +kernel
theorem dX11_house_17 : decode cX11_house 17 = .ok (.ifCond .ne 5, 3) := by decide +kernel
theorem dX11_house_22 : decode cX11_house 22 = .ok (.aload_n 0, 1) := by decide +kernel
theorem dX11_house_23 : decode cX11_house 23 = .ok (.aload_n 0, 1) := by decide +kernel
theorem dX11_house_24 : decode cX11_house 24 = .ok (.getfield 10, 3) := by decide +kernel
theorem dX11_house_27 : decode cX11_house 27 = .ok (.aload_n 0, 1) := by decide +kernel
theorem dX11_house_28 : decode cX11_house 28 = .ok (.getfield 69, 3) := by decide +kernel
theorem dX11_house_31 : decode cX11_house 31 = .ok (.invokevirtual 104, 3) := by decide +kernel
theorem dX4_exchange_0 : decode cX4_exchange 0 = .ok (.aload_n 0, 1) := by decide +kernel
theorem dX4_exchange_1 : decode cX4_exchange 1 = .ok (.getfield 21, 3) := by decide +kernel
theorem dX4_exchange_4 : decode cX4_exchange 4 = .ok (.astore_n 2, 1) := by decide +kernel
theorem dX4_exchange_5 : decode cX4_exchange 5 = .ok (.aload_n 0, 1) := by decide +kernel
theorem dX4_exchange_6 : decode cX4_exchange 6 = .ok (.aload_n 1, 1) := by decide +kernel
theorem dX4_exchange_7 : decode cX4_exchange 7 = .ok (.putfield 21, 3) := by decide +kernel
theorem dX4_exchange_10 : decode cX4_exchange 10 = .ok (.aload_n 2, 1) := by decide +kernel
theorem dX4_exchange_11 : decode cX4_exchange 11 = .ok (.areturn, 1) := by decide +kernel
theorem dX11_house_34 : decode cX11_house 34 = .ok (.putfield 69, 3) := by decide +kernel
theorem dX11_house_37 : decode cX11_house 37 = .ok (.aload_n 0, 1) := by decide +kernel
theorem dX11_house_38 : decode cX11_house 38 = .ok (.getfield 49, 3) := by decide +kernel
theorem dX11_house_41 : decode cX11_house 41 = .ok (.iconst 0, 1) := by decide +kernel
theorem dX11_house_42 : decode cX11_house 42 = .ok (.invokestatic 108, 3) := by decide +kernel
theorem dX11_house_45 : decode cX11_house 45 = .ok (.aload_n 0, 1) := by decide +kernel
theorem dX11_house_46 : decode cX11_house 46 = .ok (.getfield 76, 3) := by decide +kernel
theorem dX11_house_49 : decode cX11_house 49 = .ok (.aload_n 0, 1) := by decide +kernel
theorem dX11_house_50 : decode cX11_house 50 = .ok (.getfield 69, 3) := by decide +kernel
theorem dX11_house_53 : decode cX11_house 53 = .ok (.invokevirtual 114, 3) := by decide +kernel
theorem dX2_start_0 : decode cX2_start 0 = .ok (.aload_n 0, 1) := by decide +kernel
theorem dX2_start_1 : decode cX2_start 1 = .ok (.getfield 12, 3) := by decide +kernel
theorem dX2_start_4 : decode cX2_start 4 = .ok (.aload_n 1, 1) := by decide +kernel
theorem dX2_start_5 : decode cX2_start 5 = .ok (.getfield 42, 3) := by decide +kernel
theorem dX2_start_8 : decode cX2_start 8 = .ok (.invokevirtual 45, 3) := by decide +kernel
theorem dX2_start_11 : decode cX2_start 11 = .ok (.aload_n 0, 1) := by decide +kernel
theorem dX2_start_12 : decode cX2_start 12 = .ok (.aload_n 1, 1) := by decide +kernel
theorem dX2_start_13 : decode cX2_start 13 = .ok (.getfield 49, 3) := by decide +kernel
theorem dX2_start_16 : decode cX2_start 16 = .ok (.putfield 26, 3) := by decide +kernel
theorem dX2_start_19 : decode cX2_start 19 = .ok (.aload_n 0, 1) := by decide +kernel
theorem dX2_start_20 : decode cX2_start 20 = .ok (.getfield 18, 3) := by decide +kernel
theorem dX2_start_23 : decode cX2_start 23 = .ok (.lconst 0, 1) := by decide +kernel
theorem dX2_start_24 : decode cX2_start 24 = .ok (.invokestatic 50, 3) := by decide +kernel
theorem dX2_start_27 : decode cX2_start 27 = .ok (.iconst 0, 1) := by decide +kernel
theorem dX2_start_28 : decode cX2_start 28 = .ok (.istore_n 2, 1) := by decide +kernel
theorem dX2_start_29 : decode cX2_start 29 = .ok (.iload_n 2, 1) := by decide +kernel
theorem dX2_start_30 : decode cX2_start 30 = .ok (.iconst 5, 1) := by decide +kernel
theorem dX2_start_31 : decode cX2_start 31 = .ok (.if_icmp .ge 20, 3) := by decide +kernel
theorem dX2_start_34 : decode cX2_start 34 = .ok (.aload_n 0, 1) := by decide +kernel
theorem dX2_start_35 : decode cX2_start 35 = .ok (.getfield 18, 3) := by decide +kernel
theorem dX2_start_38 : decode cX2_start 38 = .ok (.iload_n 2, 1) := by decide +kernel
theorem dX2_start_39 : decode cX2_start 39 = .ok (.iconst 5, 1) := by decide +kernel
theorem dX2_start_40 : decode cX2_start 40 = .ok (.imul, 1) := by decide +kernel
theorem dX2_start_41 : decode cX2_start 41 = .ok (.iload_n 2, 1) := by decide +kernel
theorem dX2_start_42 : decode cX2_start 42 = .ok (.iadd, 1) := by decide +kernel
theorem dX2_start_43 : decode cX2_start 43 = .ok (.lconst 1, 1) := by decide +kernel
theorem dX2_start_44 : decode cX2_start 44 = .ok (.lastore, 1) := by decide +kernel
theorem dX2_start_45 : decode cX2_start 45 = .ok (.iinc 2 1, 3) := by decide +kernel
theorem dX2_start_48 : decode cX2_start 48 = .ok (.goto (-19), 3) := by decide +kernel
theorem dX2_start_51 : decode cX2_start 51 = .ok (.aload_n 0, 1) := by decide +kernel
theorem dX2_start_52 : decode cX2_start 52 = .ok (.iconst 0, 1) := by decide +kernel
theorem dX2_start_53 : decode cX2_start 53 = .ok (.putfield 30, 3) := by decide +kernel
theorem dX2_start_56 : decode cX2_start 56 = .ok (.aload_n 0, 1) := by decide +kernel
theorem dX2_start_57 : decode cX2_start 57 = .ok (.iconst 0, 1) := by decide +kernel
theorem dX2_start_58 : decode cX2_start 58 = .ok (.putfield 33, 3) := by decide +kernel
theorem dX2_start_61 : decode cX2_start 61 = .ok (.aload_n 0, 1) := by decide +kernel
theorem dX2_start_62 : decode cX2_start 62 = .ok (.iconst 0, 1) := by decide +kernel
theorem dX2_start_63 : decode cX2_start 63 = .ok (.putfield 36, 3) := by decide +kernel
theorem dX2_start_66 : decode cX2_start 66 = .ok (.aload_n 0, 1) := by decide +kernel
