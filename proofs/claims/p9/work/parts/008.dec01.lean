theorem dX5_valueOf_142 : decode cX5_valueOf 142 = .ok (.getfield 24, 3) := by decide +kernel
theorem dX5_valueOf_145 : decode cX5_valueOf 145 = .ok (.iconst 0, 1) := by decide +kernel
theorem dX5_valueOf_146 : decode cX5_valueOf 146 = .ok (.iaload, 1) := by decide +kernel
theorem dX5_valueOf_147 : decode cX5_valueOf 147 = .ok (.ireturn, 1) := by decide +kernel
theorem dX5_valueOf_12 : decode cX5_valueOf 12 = .ok (.aload_n 0, 1) := by decide +kernel
theorem dX5_valueOf_13 : decode cX5_valueOf 13 = .ok (.getfield 9, 3) := by decide +kernel
theorem dX5_valueOf_16 : decode cX5_valueOf 16 = .ok (.iload 7, 2) := by decide +kernel
theorem dX5_valueOf_18 : decode cX5_valueOf 18 = .ok (.iaload, 1) := by decide +kernel
theorem dX5_valueOf_19 : decode cX5_valueOf 19 = .ok (.istore 8, 2) := by decide +kernel
theorem dX5_valueOf_21 : decode cX5_valueOf 21 = .ok (.iload 8, 2) := by decide +kernel
theorem dX5_valueOf_23 : decode cX5_valueOf 23 = .ok (.bipush (-4), 2) := by decide +kernel
theorem dX5_valueOf_25 : decode cX5_valueOf 25 = .ok (.if_icmp .le 36, 3) := by decide +kernel
theorem dX5_valueOf_61 : decode cX5_valueOf 61 = .ok (.iload 8, 2) := by decide +kernel
theorem dX5_valueOf_63 : decode cX5_valueOf 63 = .ok (.bipush (-4), 2) := by decide +kernel
theorem dX5_valueOf_65 : decode cX5_valueOf 65 = .ok (.if_icmp .ne 31, 3) := by decide +kernel
theorem dX5_valueOf_96 : decode cX5_valueOf 96 = .ok (.iload 6, 2) := by decide +kernel
theorem dX5_valueOf_98 : decode cX5_valueOf 98 = .ok (.iconst 1, 1) := by decide +kernel
theorem dX5_valueOf_99 : decode cX5_valueOf 99 = .ok (.if_icmp .le 36, 3) := by decide +kernel
theorem dX5_valueOf_135 : decode cX5_valueOf 135 = .ok (.iinc 7 1, 3) := by decide +kernel
theorem dX5_valueOf_138 : decode cX5_valueOf 138 = .ok (.goto (-132), 3) := by decide +kernel
theorem dX5_valueOf_68 : decode cX5_valueOf 68 = .ok (.iload 6, 2) := by decide +kernel
theorem dX5_valueOf_70 : decode cX5_valueOf 70 = .ok (.ifCond .le 65, 3) := by decide +kernel
theorem dX5_valueOf_28 : decode cX5_valueOf 28 = .ok (.iload 6, 2) := by decide +kernel
theorem dX5_valueOf_30 : decode cX5_valueOf 30 = .ok (.aload_n 0, 1) := by decide +kernel
theorem dX5_valueOf_31 : decode cX5_valueOf 31 = .ok (.getfield 24, 3) := by decide +kernel
theorem dX5_valueOf_34 : decode cX5_valueOf 34 = .ok (.arraylength, 1) := by decide +kernel
theorem dX5_valueOf_35 : decode cX5_valueOf 35 = .ok (.if_icmp .ge 100, 3) := by decide +kernel
theorem dX5_valueOf_38 : decode cX5_valueOf 38 = .ok (.aload_n 0, 1) := by decide +kernel
theorem dX5_valueOf_39 : decode cX5_valueOf 39 = .ok (.getfield 24, 3) := by decide +kernel
theorem dX5_valueOf_42 : decode cX5_valueOf 42 = .ok (.iload 6, 2) := by decide +kernel
theorem dX5_valueOf_44 : decode cX5_valueOf 44 = .ok (.iload 8, 2) := by decide +kernel
theorem dX5_valueOf_46 : decode cX5_valueOf 46 = .ok (.iload_n 3, 1) := by decide +kernel
theorem dX5_valueOf_47 : decode cX5_valueOf 47 = .ok (.iload 4, 2) := by decide +kernel
theorem dX5_valueOf_49 : decode cX5_valueOf 49 = .ok (.iload 5, 2) := by decide +kernel
theorem dX5_valueOf_51 : decode cX5_valueOf 51 = .ok (.invokestatic 38, 3) := by decide +kernel
theorem dX5_partBy_0 : decode cX5_partBy 0 = .ok (.iload_n 0, 1) := by decide +kernel
theorem dX5_partBy_1 : decode cX5_partBy 1 = .ok (.tableswitch 33 (-3) (-1) #[31, 29, 27], 27) := by decide +kernel
theorem dX5_partBy_32 : decode cX5_partBy 32 = .ok (.iload_n 3, 1) := by decide +kernel
theorem dX5_partBy_33 : decode cX5_partBy 33 = .ok (.ireturn, 1) := by decide +kernel
theorem dX5_partBy_30 : decode cX5_partBy 30 = .ok (.iload_n 2, 1) := by decide +kernel
theorem dX5_partBy_31 : decode cX5_partBy 31 = .ok (.ireturn, 1) := by decide +kernel
theorem dX5_partBy_28 : decode cX5_partBy 28 = .ok (.iload_n 1, 1) := by decide +kernel
theorem dX5_partBy_29 : decode cX5_partBy 29 = .ok (.ireturn, 1) := by decide +kernel
theorem dX5_partBy_34 : decode cX5_partBy 34 = .ok (.iload_n 0, 1) := by decide +kernel
theorem dX5_partBy_35 : decode cX5_partBy 35 = .ok (.ireturn, 1) := by decide +kernel
theorem dX5_valueOf_54 : decode cX5_valueOf 54 = .ok (.iastore, 1) := by decide +kernel
theorem dX5_valueOf_55 : decode cX5_valueOf 55 = .ok (.iinc 6 1, 3) := by decide +kernel
theorem dX5_valueOf_58 : decode cX5_valueOf 58 = .ok (.goto 77, 3) := by decide +kernel
theorem dX5_valueOf_102 : decode cX5_valueOf 102 = .ok (.iinc 6 (-1), 3) := by decide +kernel
theorem dX5_valueOf_105 : decode cX5_valueOf 105 = .ok (.aload_n 0, 1) := by decide +kernel
theorem dX5_valueOf_106 : decode cX5_valueOf 106 = .ok (.getfield 24, 3) := by decide +kernel
theorem dX5_valueOf_109 : decode cX5_valueOf 109 = .ok (.iload 6, 2) := by decide +kernel
theorem dX5_valueOf_111 : decode cX5_valueOf 111 = .ok (.iconst 1, 1) := by decide +kernel
theorem dX5_valueOf_112 : decode cX5_valueOf 112 = .ok (.isub, 1) := by decide +kernel
theorem dX5_valueOf_113 : decode cX5_valueOf 113 = .ok (.iload 8, 2) := by decide +kernel
theorem dX5_valueOf_115 : decode cX5_valueOf 115 = .ok (.aload_n 0, 1) := by decide +kernel
theorem dX5_valueOf_116 : decode cX5_valueOf 116 = .ok (.getfield 24, 3) := by decide +kernel
theorem dX5_valueOf_119 : decode cX5_valueOf 119 = .ok (.iload 6, 2) := by decide +kernel
theorem dX5_valueOf_121 : decode cX5_valueOf 121 = .ok (.iconst 1, 1) := by decide +kernel
theorem dX5_valueOf_122 : decode cX5_valueOf 122 = .ok (.isub, 1) := by decide +kernel
theorem dX5_valueOf_123 : decode cX5_valueOf 123 = .ok (.iaload, 1) := by decide +kernel
theorem dX5_valueOf_124 : decode cX5_valueOf 124 = .ok (.aload_n 0, 1) := by decide +kernel
theorem dX5_valueOf_125 : decode cX5_valueOf 125 = .ok (.getfield 24, 3) := by decide +kernel
theorem dX5_valueOf_128 : decode cX5_valueOf 128 = .ok (.iload 6, 2) := by decide +kernel
theorem dX5_valueOf_130 : decode cX5_valueOf 130 = .ok (.iaload, 1) := by decide +kernel
theorem dX5_valueOf_131 : decode cX5_valueOf 131 = .ok (.invokestatic 42, 3) := by decide +kernel
theorem dX5_joined_0 : decode cX5_joined 0 = .ok (.iload_n 0, 1) := by decide +kernel
theorem dX5_joined_1 : decode cX5_joined 1 = .ok (.tableswitch 153 (-15) (-5) #[149, 145, 134, 123, 112, 106, 100, 86, 77, 68, 59], 59) := by decide +kernel
theorem dX5_joined_150 : decode cX5_joined 150 = .ok (.iload_n 1, 1) := by decide +kernel
theorem dX5_joined_151 : decode cX5_joined 151 = .ok (.iload_n 2, 1) := by decide +kernel
theorem dX5_joined_152 : decode cX5_joined 152 = .ok (.ior, 1) := by decide +kernel
theorem dX5_joined_153 : decode cX5_joined 153 = .ok (.ireturn, 1) := by decide +kernel
theorem dX5_joined_146 : decode cX5_joined 146 = .ok (.iload_n 1, 1) := by decide +kernel
theorem dX5_joined_147 : decode cX5_joined 147 = .ok (.iload_n 2, 1) := by decide +kernel
theorem dX5_joined_148 : decode cX5_joined 148 = .ok (.iand, 1) := by decide +kernel
theorem dX5_joined_149 : decode cX5_joined 149 = .ok (.ireturn, 1) := by decide +kernel
theorem dX5_joined_135 : decode cX5_joined 135 = .ok (.iload_n 1, 1) := by decide +kernel
theorem dX5_joined_136 : decode cX5_joined 136 = .ok (.iload_n 2, 1) := by decide +kernel
theorem dX5_joined_137 : decode cX5_joined 137 = .ok (.if_icmp .ne 7, 3) := by decide +kernel
theorem dX5_joined_144 : decode cX5_joined 144 = .ok (.iconst 0, 1) := by decide +kernel
theorem dX5_joined_145 : decode cX5_joined 145 = .ok (.ireturn, 1) := by decide +kernel
theorem dX5_joined_140 : decode cX5_joined 140 = .ok (.iconst 1, 1) := by decide +kernel
theorem dX5_joined_141 : decode cX5_joined 141 = .ok (.goto 4, 3) := by decide +kernel
theorem dX5_joined_124 : decode cX5_joined 124 = .ok (.iload_n 1, 1) := by decide +kernel
theorem dX5_joined_125 : decode cX5_joined 125 = .ok (.iload_n 2, 1) := by decide +kernel
theorem dX5_joined_126 : decode cX5_joined 126 = .ok (.if_icmp .le 7, 3) := by decide +kernel
theorem dX5_joined_133 : decode cX5_joined 133 = .ok (.iconst 0, 1) := by decide +kernel
theorem dX5_joined_134 : decode cX5_joined 134 = .ok (.ireturn, 1) := by decide +kernel
theorem dX5_joined_129 : decode cX5_joined 129 = .ok (.iconst 1, 1) := by decide +kernel
theorem dX5_joined_130 : decode cX5_joined 130 = .ok (.goto 4, 3) := by decide +kernel
theorem dX5_joined_113 : decode cX5_joined 113 = .ok (.iload_n 1, 1) := by decide +kernel
theorem dX5_joined_114 : decode cX5_joined 114 = .ok (.iload_n 2, 1) := by decide +kernel
theorem dX5_joined_115 : decode cX5_joined 115 = .ok (.if_icmp .ge 7, 3) := by decide +kernel
theorem dX5_joined_122 : decode cX5_joined 122 = .ok (.iconst 0, 1) := by decide +kernel
theorem dX5_joined_123 : decode cX5_joined 123 = .ok (.ireturn, 1) := by decide +kernel
theorem dX5_joined_118 : decode cX5_joined 118 = .ok (.iconst 1, 1) := by decide +kernel
theorem dX5_joined_119 : decode cX5_joined 119 = .ok (.goto 4, 3) := by decide +kernel
theorem dX5_joined_107 : decode cX5_joined 107 = .ok (.iload_n 1, 1) := by decide +kernel
theorem dX5_joined_108 : decode cX5_joined 108 = .ok (.iload_n 2, 1) := by decide +kernel
theorem dX5_joined_109 : decode cX5_joined 109 = .ok (.invokestatic 59, 3) := by decide +kernel
theorem dX5_joined_112 : decode cX5_joined 112 = .ok (.ireturn, 1) := by decide +kernel
theorem dX5_joined_101 : decode cX5_joined 101 = .ok (.iload_n 1, 1) := by decide +kernel
theorem dX5_joined_102 : decode cX5_joined 102 = .ok (.iload_n 2, 1) := by decide +kernel
theorem dX5_joined_103 : decode cX5_joined 103 = .ok (.invokestatic 56, 3) := by decide +kernel
theorem dX5_joined_106 : decode cX5_joined 106 = .ok (.ireturn, 1) := by decide +kernel
theorem dX5_joined_87 : decode cX5_joined 87 = .ok (.iload_n 2, 1) := by decide +kernel
theorem dX5_joined_88 : decode cX5_joined 88 = .ok (.ifCond .ne 7, 3) := by decide +kernel
theorem dX5_joined_95 : decode cX5_joined 95 = .ok (.iload_n 1, 1) := by decide +kernel
theorem dX5_joined_96 : decode cX5_joined 96 = .ok (.iload_n 2, 1) := by decide +kernel
theorem dX5_joined_97 : decode cX5_joined 97 = .ok (.invokestatic 50, 3) := by decide +kernel
theorem dX5_joined_100 : decode cX5_joined 100 = .ok (.ireturn, 1) := by decide +kernel
theorem dX5_joined_91 : decode cX5_joined 91 = .ok (.iconst 0, 1) := by decide +kernel
theorem dX5_joined_92 : decode cX5_joined 92 = .ok (.goto 8, 3) := by decide +kernel
theorem dX5_joined_78 : decode cX5_joined 78 = .ok (.iload_n 1, 1) := by decide +kernel
theorem dX5_joined_79 : decode cX5_joined 79 = .ok (.i2l, 1) := by decide +kernel
theorem dX5_joined_80 : decode cX5_joined 80 = .ok (.iload_n 2, 1) := by decide +kernel
theorem dX5_joined_81 : decode cX5_joined 81 = .ok (.i2l, 1) := by decide +kernel
theorem dX5_joined_82 : decode cX5_joined 82 = .ok (.lmul, 1) := by decide +kernel
theorem dX5_joined_83 : decode cX5_joined 83 = .ok (.invokestatic 46, 3) := by decide +kernel
theorem dX5_bounded_0 : decode cX5_bounded 0 = .ok (.ldc2_w 62, 3) := by decide +kernel
theorem dX5_bounded_3 : decode cX5_bounded 3 = .ok (.ldc2_w 64, 3) := by decide +kernel
theorem dX5_bounded_6 : decode cX5_bounded 6 = .ok (.lload_n 0, 1) := by decide +kernel
theorem dX5_bounded_7 : decode cX5_bounded 7 = .ok (.invokestatic 66, 3) := by decide +kernel
theorem dX5_bounded_10 : decode cX5_bounded 10 = .ok (.invokestatic 69, 3) := by decide +kernel
theorem dX5_bounded_13 : decode cX5_bounded 13 = .ok (.l2i, 1) := by decide +kernel
theorem dX5_bounded_14 : decode cX5_bounded 14 = .ok (.ireturn, 1) := by decide +kernel
theorem dX5_joined_86 : decode cX5_joined 86 = .ok (.ireturn, 1) := by decide +kernel
theorem dX5_joined_69 : decode cX5_joined 69 = .ok (.iload_n 1, 1) := by decide +kernel
theorem dX5_joined_70 : decode cX5_joined 70 = .ok (.i2l, 1) := by decide +kernel
theorem dX5_joined_71 : decode cX5_joined 71 = .ok (.iload_n 2, 1) := by decide +kernel
theorem dX5_joined_72 : decode cX5_joined 72 = .ok (.i2l, 1) := by decide +kernel
theorem dX5_joined_73 : decode cX5_joined 73 = .ok (.lsub, 1) := by decide +kernel
theorem dX5_joined_74 : decode cX5_joined 74 = .ok (.invokestatic 46, 3) := by decide +kernel
theorem dX5_joined_77 : decode cX5_joined 77 = .ok (.ireturn, 1) := by decide +kernel
theorem dX5_joined_60 : decode cX5_joined 60 = .ok (.iload_n 1, 1) := by decide +kernel
theorem dX5_joined_61 : decode cX5_joined 61 = .ok (.i2l, 1) := by decide +kernel
theorem dX5_joined_62 : decode cX5_joined 62 = .ok (.iload_n 2, 1) := by decide +kernel
theorem dX5_joined_63 : decode cX5_joined 63 = .ok (.i2l, 1) := by decide +kernel
theorem dX5_joined_64 : decode cX5_joined 64 = .ok (.ladd, 1) := by decide +kernel
theorem dX5_joined_65 : decode cX5_joined 65 = .ok (.invokestatic 46, 3) := by decide +kernel
theorem dX5_joined_68 : decode cX5_joined 68 = .ok (.ireturn, 1) := by decide +kernel
theorem dX5_joined_154 : decode cX5_joined 154 = .ok (.iconst 0, 1) := by decide +kernel
theorem dX5_joined_155 : decode cX5_joined 155 = .ok (.ireturn, 1) := by decide +kernel
theorem dX5_valueOf_134 : decode cX5_valueOf 134 = .ok (.iastore, 1) := by decide +kernel
theorem dX5_valueOf_73 : decode cX5_valueOf 73 = .ok (.aload_n 0, 1) := by decide +kernel
theorem dX5_valueOf_74 : decode cX5_valueOf 74 = .ok (.getfield 24, 3) := by decide +kernel
theorem dX5_valueOf_77 : decode cX5_valueOf 77 = .ok (.iload 6, 2) := by decide +kernel
theorem dX5_valueOf_79 : decode cX5_valueOf 79 = .ok (.iconst 1, 1) := by decide +kernel
theorem dX5_valueOf_80 : decode cX5_valueOf 80 = .ok (.isub, 1) := by decide +kernel
theorem dX5_valueOf_81 : decode cX5_valueOf 81 = .ok (.iconst 1, 1) := by decide +kernel
theorem dX5_valueOf_82 : decode cX5_valueOf 82 = .ok (.aload_n 0, 1) := by decide +kernel
theorem dX5_valueOf_83 : decode cX5_valueOf 83 = .ok (.getfield 24, 3) := by decide +kernel
theorem dX5_valueOf_86 : decode cX5_valueOf 86 = .ok (.iload 6, 2) := by decide +kernel
theorem dX5_valueOf_88 : decode cX5_valueOf 88 = .ok (.iconst 1, 1) := by decide +kernel
theorem dX5_valueOf_89 : decode cX5_valueOf 89 = .ok (.isub, 1) := by decide +kernel
theorem dX5_valueOf_90 : decode cX5_valueOf 90 = .ok (.iaload, 1) := by decide +kernel
theorem dX5_valueOf_91 : decode cX5_valueOf 91 = .ok (.isub, 1) := by decide +kernel
theorem dX5_valueOf_92 : decode cX5_valueOf 92 = .ok (.iastore, 1) := by decide +kernel
theorem dX5_valueOf_93 : decode cX5_valueOf 93 = .ok (.goto 42, 3) := by decide +kernel
theorem dX5_worthBy_33 : decode cX5_worthBy 33 = .ok (.ifCond .eq 25, 3) := by decide +kernel
theorem dX5_worthBy_58 : decode cX5_worthBy 58 = .ok (.iinc 4 1, 3) := by decide +kernel
theorem dX5_worthBy_61 : decode cX5_worthBy 61 = .ok (.goto (-58), 3) := by decide +kernel
theorem dX5_worthBy_36 : decode cX5_worthBy 36 = .ok (.aload_n 0, 1) := by decide +kernel
theorem dX5_worthBy_37 : decode cX5_worthBy 37 = .ok (.aload_n 0, 1) := by decide +kernel
theorem dX5_worthBy_38 : decode cX5_worthBy 38 = .ok (.getfield 15, 3) := by decide +kernel
theorem dX5_worthBy_41 : decode cX5_worthBy 41 = .ok (.iload 4, 2) := by decide +kernel
theorem dX5_worthBy_43 : decode cX5_worthBy 43 = .ok (.iaload, 1) := by decide +kernel
theorem dX5_worthBy_44 : decode cX5_worthBy 44 = .ok (.aload_n 0, 1) := by decide +kernel
theorem dX5_worthBy_45 : decode cX5_worthBy 45 = .ok (.getfield 18, 3) := by decide +kernel
theorem dX5_worthBy_48 : decode cX5_worthBy 48 = .ok (.iload 4, 2) := by decide +kernel
theorem dX5_worthBy_50 : decode cX5_worthBy 50 = .ok (.iaload, 1) := by decide +kernel
theorem dX5_worthBy_51 : decode cX5_worthBy 51 = .ok (.iload_n 1, 1) := by decide +kernel
theorem dX5_worthBy_52 : decode cX5_worthBy 52 = .ok (.iload_n 2, 1) := by decide +kernel
theorem dX5_worthBy_53 : decode cX5_worthBy 53 = .ok (.iload_n 3, 1) := by decide +kernel
theorem dX5_worthBy_54 : decode cX5_worthBy 54 = .ok (.invokevirtual 34, 3) := by decide +kernel
theorem dX5_worthBy_57 : decode cX5_worthBy 57 = .ok (.ireturn, 1) := by decide +kernel
theorem dX1_clear_0 : decode cX1_clear 0 = .ok (.aload_n 0, 1) := by decide +kernel
theorem dX1_clear_1 : decode cX1_clear 1 = .ok (.getfield 12, 3) := by decide +kernel
theorem dX1_clear_4 : decode cX1_clear 4 = .ok (.invokevirtual 51, 3) := by decide +kernel
theorem dX1_clear_7 : decode cX1_clear 7 = .ok (.aload_n 0, 1) := by decide +kernel
theorem dX1_clear_8 : decode cX1_clear 8 = .ok (.getfield 21, 3) := by decide +kernel
theorem dX1_clear_11 : decode cX1_clear 11 = .ok (.invokevirtual 54, 3) := by decide +kernel
theorem dX1_clear_14 : decode cX1_clear 14 = .ok (.aload_n 0, 1) := by decide +kernel
theorem dX1_clear_15 : decode cX1_clear 15 = .ok (.iconst 0, 1) := by decide +kernel
theorem dX1_clear_16 : decode cX1_clear 16 = .ok (.putfield 29, 3) := by decide +kernel
theorem dX1_clear_19 : decode cX1_clear 19 = .ok (.aload_n 0, 1) := by decide +kernel
theorem dX1_clear_20 : decode cX1_clear 20 = .ok (.iconst 0, 1) := by decide +kernel
theorem dX1_clear_21 : decode cX1_clear 21 = .ok (.putfield 33, 3) := by decide +kernel
theorem dX1_clear_24 : decode cX1_clear 24 = .ok (.aload_n 0, 1) := by decide +kernel
theorem dX1_clear_25 : decode cX1_clear 25 = .ok (.iconst 0, 1) := by decide +kernel
theorem dX1_clear_26 : decode cX1_clear 26 = .ok (.putfield 36, 3) := by decide +kernel
theorem dX1_clear_29 : decode cX1_clear 29 = .ok (.aload_n 0, 1) := by decide +kernel
theorem dX1_clear_30 : decode cX1_clear 30 = .ok (.iconst 0, 1) := by decide +kernel
theorem dX1_clear_31 : decode cX1_clear 31 = .ok (.putfield 39, 3) := by decide +kernel
theorem dX1_clear_34 : decode cX1_clear 34 = .ok (.aload_n 0, 1) := by decide +kernel
theorem dX1_clear_35 : decode cX1_clear 35 = .ok (.iconst 0, 1) := by decide +kernel
theorem dX1_clear_36 : decode cX1_clear 36 = .ok (.putfield 42, 3) := by decide +kernel
theorem dX1_clear_39 : decode cX1_clear 39 = .ok (.aload_n 0, 1) := by decide +kernel
theorem dX1_clear_40 : decode cX1_clear 40 = .ok (.sipush 9999, 3) := by decide +kernel
theorem dX1_clear_43 : decode cX1_clear 43 = .ok (.putfield 45, 3) := by decide +kernel
theorem dX1_clear_46 : decode cX1_clear 46 = .ok (.aload_n 0, 1) := by decide +kernel
theorem dX1_clear_47 : decode cX1_clear 47 = .ok (.iconst 0, 1) := by decide +kernel
theorem dX1_clear_48 : decode cX1_clear 48 = .ok (.putfield 48, 3) := by decide +kernel
theorem dX1_clear_51 : decode cX1_clear 51 = .ok (.return_, 1) := by decide +kernel
theorem dX1_isLetter_0 : decode cX1_isLetter 0 = .ok (.iload_n 1, 1) := by decide +kernel
theorem dX1_isLetter_1 : decode cX1_isLetter 1 = .ok (.aload_n 0, 1) := by decide +kernel
theorem dX1_isLetter_2 : decode cX1_isLetter 2 = .ok (.getfield 29, 3) := by decide +kernel
theorem dX1_isLetter_5 : decode cX1_isLetter 5 = .ok (.ineg, 1) := by decide +kernel
theorem dX1_isLetter_6 : decode cX1_isLetter 6 = .ok (.if_icmp .le 27, 3) := by decide +kernel
theorem dX1_isLetter_33 : decode cX1_isLetter 33 = .ok (.iconst 0, 1) := by decide +kernel
theorem dX1_isLetter_34 : decode cX1_isLetter 34 = .ok (.ireturn, 1) := by decide +kernel
theorem dX1_isLetter_9 : decode cX1_isLetter 9 = .ok (.iload_n 1, 1) := by decide +kernel
theorem dX1_isLetter_10 : decode cX1_isLetter 10 = .ok (.aload_n 0, 1) := by decide +kernel
theorem dX1_isLetter_11 : decode cX1_isLetter 11 = .ok (.getfield 29, 3) := by decide +kernel
theorem dX1_isLetter_14 : decode cX1_isLetter 14 = .ok (.if_icmp .ge 19, 3) := by decide +kernel
theorem dX1_isLetter_17 : decode cX1_isLetter 17 = .ok (.iload_n 1, 1) := by decide +kernel
theorem dX1_isLetter_18 : decode cX1_isLetter 18 = .ok (.aload_n 0, 1) := by decide +kernel
theorem dX1_isLetter_19 : decode cX1_isLetter 19 = .ok (.getfield 29, 3) := by decide +kernel
theorem dX1_isLetter_22 : decode cX1_isLetter 22 = .ok (.iadd, 1) := by decide +kernel
theorem dX1_isLetter_23 : decode cX1_isLetter 23 = .ok (.iconst 1, 1) := by decide +kernel
theorem dX1_isLetter_24 : decode cX1_isLetter 24 = .ok (.iand, 1) := by decide +kernel
theorem dX1_isLetter_25 : decode cX1_isLetter 25 = .ok (.iconst 1, 1) := by decide +kernel
theorem dX1_isLetter_26 : decode cX1_isLetter 26 = .ok (.if_icmp .ne 7, 3) := by decide +kernel
theorem dX1_isLetter_29 : decode cX1_isLetter 29 = .ok (.iconst 1, 1) := by decide +kernel
theorem dX1_isLetter_30 : decode cX1_isLetter 30 = .ok (.goto 4, 3) := by decide +kernel
theorem dX1_isReceiver_0 : decode cX1_isReceiver 0 = .ok (.iload_n 1, 1) := by decide +kernel
theorem dX1_isReceiver_1 : decode cX1_isReceiver 1 = .ok (.ifCond .lt 15, 3) := by decide +kernel
theorem dX1_isReceiver_16 : decode cX1_isReceiver 16 = .ok (.iconst 0, 1) := by decide +kernel
theorem dX1_isReceiver_17 : decode cX1_isReceiver 17 = .ok (.ireturn, 1) := by decide +kernel
theorem dX1_isReceiver_4 : decode cX1_isReceiver 4 = .ok (.iload_n 1, 1) := by decide +kernel
theorem dX1_isReceiver_5 : decode cX1_isReceiver 5 = .ok (.aload_n 0, 1) := by decide +kernel
theorem dX1_isReceiver_6 : decode cX1_isReceiver 6 = .ok (.getfield 36, 3) := by decide +kernel
theorem dX1_isReceiver_9 : decode cX1_isReceiver 9 = .ok (.if_icmp .ge 7, 3) := by decide +kernel
theorem dX1_isReceiver_12 : decode cX1_isReceiver 12 = .ok (.iconst 1, 1) := by decide +kernel
theorem dX1_isReceiver_13 : decode cX1_isReceiver 13 = .ok (.goto 4, 3) := by decide +kernel
theorem dX1_isSender_0 : decode cX1_isSender 0 = .ok (.iload_n 1, 1) := by decide +kernel
theorem dX1_isSender_1 : decode cX1_isSender 1 = .ok (.ifCond .lt 15, 3) := by decide +kernel
theorem dX1_isSender_16 : decode cX1_isSender 16 = .ok (.iconst 0, 1) := by decide +kernel
theorem dX1_isSender_17 : decode cX1_isSender 17 = .ok (.ireturn, 1) := by decide +kernel
theorem dX1_isSender_4 : decode cX1_isSender 4 = .ok (.iload_n 1, 1) := by decide +kernel
theorem dX1_isSender_5 : decode cX1_isSender 5 = .ok (.aload_n 0, 1) := by decide +kernel
theorem dX1_isSender_6 : decode cX1_isSender 6 = .ok (.getfield 33, 3) := by decide +kernel
theorem dX1_isSender_9 : decode cX1_isSender 9 = .ok (.if_icmp .ge 7, 3) := by decide +kernel
theorem dX1_isSender_12 : decode cX1_isSender 12 = .ok (.iconst 1, 1) := by decide +kernel
theorem dX1_isSender_13 : decode cX1_isSender 13 = .ok (.goto 4, 3) := by decide +kernel
theorem dX1_distanceOf_0 : decode cX1_distanceOf 0 = .ok (.lconst 0, 1) := by decide +kernel
theorem dX1_distanceOf_1 : decode cX1_distanceOf 1 = .ok (.lstore_n 3, 1) := by decide +kernel
theorem dX1_distanceOf_2 : decode cX1_distanceOf 2 = .ok (.iconst 0, 1) := by decide +kernel
theorem dX1_distanceOf_3 : decode cX1_distanceOf 3 = .ok (.istore 5, 2) := by decide +kernel
theorem dX1_distanceOf_5 : decode cX1_distanceOf 5 = .ok (.iload 5, 2) := by decide +kernel
theorem dX1_distanceOf_7 : decode cX1_distanceOf 7 = .ok (.aload_n 0, 1) := by decide +kernel
theorem dX1_distanceOf_8 : decode cX1_distanceOf 8 = .ok (.getfield 36, 3) := by decide +kernel
theorem dX1_distanceOf_11 : decode cX1_distanceOf 11 = .ok (.if_icmp .ge 39, 3) := by decide +kernel
theorem dX1_distanceOf_50 : decode cX1_distanceOf 50 = .ok (.lload_n 3, 1) := by decide +kernel
theorem dX1_distanceOf_51 : decode cX1_distanceOf 51 = .ok (.lreturn, 1) := by decide +kernel
theorem dX1_distanceOf_14 : decode cX1_distanceOf 14 = .ok (.aload_n 2, 1) := by decide +kernel
theorem dX1_distanceOf_15 : decode cX1_distanceOf 15 = .ok (.iload 5, 2) := by decide +kernel
theorem dX1_distanceOf_17 : decode cX1_distanceOf 17 = .ok (.iaload, 1) := by decide +kernel
theorem dX1_distanceOf_18 : decode cX1_distanceOf 18 = .ok (.aload_n 0, 1) := by decide +kernel
theorem dX1_distanceOf_19 : decode cX1_distanceOf 19 = .ok (.getfield 12, 3) := by decide +kernel
theorem dX1_distanceOf_22 : decode cX1_distanceOf 22 = .ok (.iload 5, 2) := by decide +kernel
theorem dX1_distanceOf_24 : decode cX1_distanceOf 24 = .ok (.aload_n 1, 1) := by decide +kernel
theorem dX1_distanceOf_25 : decode cX1_distanceOf 25 = .ok (.aload_n 0, 1) := by decide +kernel
theorem dX1_distanceOf_26 : decode cX1_distanceOf 26 = .ok (.getfield 33, 3) := by decide +kernel
theorem dX1_distanceOf_29 : decode cX1_distanceOf 29 = .ok (.invokevirtual 72, 3) := by decide +kernel
theorem dX1_distanceOf_32 : decode cX1_distanceOf 32 = .ok (.isub, 1) := by decide +kernel
theorem dX1_distanceOf_33 : decode cX1_distanceOf 33 = .ok (.i2l, 1) := by decide +kernel
theorem dX1_distanceOf_34 : decode cX1_distanceOf 34 = .ok (.lstore 6, 2) := by decide +kernel
theorem dX1_distanceOf_36 : decode cX1_distanceOf 36 = .ok (.lload_n 3, 1) := by decide +kernel
theorem dX1_distanceOf_37 : decode cX1_distanceOf 37 = .ok (.lload 6, 2) := by decide +kernel
theorem dX1_distanceOf_39 : decode cX1_distanceOf 39 = .ok (.lload 6, 2) := by decide +kernel
theorem dX1_distanceOf_41 : decode cX1_distanceOf 41 = .ok (.lmul, 1) := by decide +kernel
theorem dX1_distanceOf_42 : decode cX1_distanceOf 42 = .ok (.ladd, 1) := by decide +kernel
theorem dX1_distanceOf_43 : decode cX1_distanceOf 43 = .ok (.lstore_n 3, 1) := by decide +kernel
theorem dX1_distanceOf_44 : decode cX1_distanceOf 44 = .ok (.iinc 5 1, 3) := by decide +kernel
theorem dX1_distanceOf_47 : decode cX1_distanceOf 47 = .ok (.goto (-42), 3) := by decide +kernel
theorem dX1_letterInRow_0 : decode cX1_letterInRow 0 = .ok (.aload_n 0, 1) := by decide +kernel
theorem dX1_letterInRow_1 : decode cX1_letterInRow 1 = .ok (.aload_n 0, 1) := by decide +kernel
theorem dX1_letterInRow_2 : decode cX1_letterInRow 2 = .ok (.iload_n 1, 1) := by decide +kernel
theorem dX1_letterInRow_3 : decode cX1_letterInRow 3 = .ok (.iload_n 2, 1) := by decide +kernel
theorem dX1_letterInRow_4 : decode cX1_letterInRow 4 = .ok (.invokevirtual 59, 3) := by decide +kernel
theorem dX1_digitInRow_0 : decode cX1_digitInRow 0 = .ok (.aload_n 0, 1) := by decide +kernel
theorem dX1_digitInRow_1 : decode cX1_digitInRow 1 = .ok (.aload_n 0, 1) := by decide +kernel
theorem dX1_digitInRow_2 : decode cX1_digitInRow 2 = .ok (.getfield 33, 3) := by decide +kernel
theorem dX1_digitInRow_5 : decode cX1_digitInRow 5 = .ok (.iconst 1, 1) := by decide +kernel
theorem dX1_digitInRow_6 : decode cX1_digitInRow 6 = .ok (.isub, 1) := by decide +kernel
theorem dX1_digitInRow_7 : decode cX1_digitInRow 7 = .ok (.iload_n 2, 1) := by decide +kernel
theorem dX1_digitInRow_8 : decode cX1_digitInRow 8 = .ok (.isub, 1) := by decide +kernel
theorem dX1_digitInRow_9 : decode cX1_digitInRow 9 = .ok (.invokevirtual 55, 3) := by decide +kernel
theorem dX1_rowsOf_0 : decode cX1_rowsOf 0 = .ok (.iconst 1, 1) := by decide +kernel
theorem dX1_rowsOf_1 : decode cX1_rowsOf 1 = .ok (.istore_n 2, 1) := by decide +kernel
theorem dX1_rowsOf_2 : decode cX1_rowsOf 2 = .ok (.iconst 0, 1) := by decide +kernel
theorem dX1_rowsOf_3 : decode cX1_rowsOf 3 = .ok (.istore_n 3, 1) := by decide +kernel
theorem dX1_rowsOf_4 : decode cX1_rowsOf 4 = .ok (.iload_n 3, 1) := by decide +kernel
theorem dX1_rowsOf_5 : decode cX1_rowsOf 5 = .ok (.iload_n 1, 1) := by decide +kernel
theorem dX1_rowsOf_6 : decode cX1_rowsOf 6 = .ok (.if_icmp .ge 16, 3) := by decide +kernel
theorem dX1_rowsOf_22 : decode cX1_rowsOf 22 = .ok (.iload_n 2, 1) := by decide +kernel
theorem dX1_rowsOf_23 : decode cX1_rowsOf 23 = .ok (.ireturn, 1) := by decide +kernel
theorem dX1_rowsOf_9 : decode cX1_rowsOf 9 = .ok (.iload_n 2, 1) := by decide +kernel
theorem dX1_rowsOf_10 : decode cX1_rowsOf 10 = .ok (.aload_n 0, 1) := by decide +kernel
theorem dX1_rowsOf_11 : decode cX1_rowsOf 11 = .ok (.getfield 29, 3) := by decide +kernel
theorem dX1_rowsOf_14 : decode cX1_rowsOf 14 = .ok (.imul, 1) := by decide +kernel
theorem dX1_rowsOf_15 : decode cX1_rowsOf 15 = .ok (.istore_n 2, 1) := by decide +kernel
theorem dX1_rowsOf_16 : decode cX1_rowsOf 16 = .ok (.iinc 3 1, 3) := by decide +kernel
theorem dX1_rowsOf_19 : decode cX1_rowsOf 19 = .ok (.goto (-15), 3) := by decide +kernel
theorem dX1_digitInRow_12 : decode cX1_digitInRow 12 = .ok (.istore_n 3, 1) := by decide +kernel
theorem dX1_digitInRow_13 : decode cX1_digitInRow 13 = .ok (.iload_n 3, 1) := by decide +kernel
theorem dX1_digitInRow_14 : decode cX1_digitInRow 14 = .ok (.ifCond .eq 10, 3) := by decide +kernel
theorem dX1_digitInRow_24 : decode cX1_digitInRow 24 = .ok (.iconst 0, 1) := by decide +kernel
theorem dX1_digitInRow_25 : decode cX1_digitInRow 25 = .ok (.goto 11, 3) := by decide +kernel
theorem dX1_digitInRow_36 : decode cX1_digitInRow 36 = .ok (.ireturn, 1) := by decide +kernel
theorem dX1_digitInRow_17 : decode cX1_digitInRow 17 = .ok (.aload_n 0, 1) := by decide +kernel
theorem dX1_digitInRow_18 : decode cX1_digitInRow 18 = .ok (.getfield 29, 3) := by decide +kernel
theorem dX1_digitInRow_21 : decode cX1_digitInRow 21 = .ok (.ifCond .ne 7, 3) := by decide +kernel
theorem dX1_digitInRow_28 : decode cX1_digitInRow 28 = .ok (.iload_n 1, 1) := by decide +kernel
theorem dX1_digitInRow_29 : decode cX1_digitInRow 29 = .ok (.iload_n 3, 1) := by decide +kernel
theorem dX1_digitInRow_30 : decode cX1_digitInRow 30 = .ok (.idiv, 1) := by decide +kernel
theorem dX1_digitInRow_31 : decode cX1_digitInRow 31 = .ok (.aload_n 0, 1) := by decide +kernel
theorem dX1_digitInRow_32 : decode cX1_digitInRow 32 = .ok (.getfield 29, 3) := by decide +kernel
theorem dX1_digitInRow_35 : decode cX1_digitInRow 35 = .ok (.irem, 1) := by decide +kernel
theorem dX1_letterInRow_7 : decode cX1_letterInRow 7 = .ok (.invokevirtual 63, 3) := by decide +kernel
theorem dX1_letterOfDigit_0 : decode cX1_letterOfDigit 0 = .ok (.iconst 2, 1) := by decide +kernel
theorem dX1_letterOfDigit_1 : decode cX1_letterOfDigit 1 = .ok (.iload_n 1, 1) := by decide +kernel
theorem dX1_letterOfDigit_2 : decode cX1_letterOfDigit 2 = .ok (.imul, 1) := by decide +kernel
theorem dX1_letterOfDigit_3 : decode cX1_letterOfDigit 3 = .ok (.aload_n 0, 1) := by decide +kernel
theorem dX1_letterOfDigit_4 : decode cX1_letterOfDigit 4 = .ok (.getfield 29, 3) := by decide +kernel
theorem dX1_letterOfDigit_7 : decode cX1_letterOfDigit 7 = .ok (.iconst 1, 1) := by decide +kernel
theorem dX1_letterOfDigit_8 : decode cX1_letterOfDigit 8 = .ok (.isub, 1) := by decide +kernel
theorem dX1_letterOfDigit_9 : decode cX1_letterOfDigit 9 = .ok (.isub, 1) := by decide +kernel
theorem dX1_letterOfDigit_10 : decode cX1_letterOfDigit 10 = .ok (.ireturn, 1) := by decide +kernel
theorem dX1_letterInRow_10 : decode cX1_letterInRow 10 = .ok (.ireturn, 1) := by decide +kernel
theorem dX1_rowCount_0 : decode cX1_rowCount 0 = .ok (.aload_n 0, 1) := by decide +kernel
theorem dX1_rowCount_1 : decode cX1_rowCount 1 = .ok (.getfield 33, 3) := by decide +kernel
theorem dX1_rowCount_4 : decode cX1_rowCount 4 = .ok (.ifCond .ne 7, 3) := by decide +kernel
theorem dX1_rowCount_11 : decode cX1_rowCount 11 = .ok (.aload_n 0, 1) := by decide +kernel
theorem dX1_rowCount_12 : decode cX1_rowCount 12 = .ok (.aload_n 0, 1) := by decide +kernel
theorem dX1_rowCount_13 : decode cX1_rowCount 13 = .ok (.getfield 33, 3) := by decide +kernel
theorem dX1_rowCount_16 : decode cX1_rowCount 16 = .ok (.invokevirtual 55, 3) := by decide +kernel
theorem dX1_rowCount_19 : decode cX1_rowCount 19 = .ok (.ireturn, 1) := by decide +kernel
theorem dX1_rowCount_7 : decode cX1_rowCount 7 = .ok (.iconst 0, 1) := by decide +kernel
theorem dX1_rowCount_8 : decode cX1_rowCount 8 = .ok (.goto 11, 3) := by decide +kernel
theorem dX1_digitOfLetter_0 : decode cX1_digitOfLetter 0 = .ok (.iload_n 1, 1) := by decide +kernel
theorem dX1_digitOfLetter_1 : decode cX1_digitOfLetter 1 = .ok (.aload_n 0, 1) := by decide +kernel
theorem dX1_digitOfLetter_2 : decode cX1_digitOfLetter 2 = .ok (.getfield 29, 3) := by decide +kernel
theorem dX1_digitOfLetter_5 : decode cX1_digitOfLetter 5 = .ok (.iadd, 1) := by decide +kernel
theorem dX1_digitOfLetter_6 : decode cX1_digitOfLetter 6 = .ok (.iconst 1, 1) := by decide +kernel
theorem dX1_digitOfLetter_7 : decode cX1_digitOfLetter 7 = .ok (.isub, 1) := by decide +kernel
theorem dX1_digitOfLetter_8 : decode cX1_digitOfLetter 8 = .ok (.iconst 2, 1) := by decide +kernel
theorem dX1_digitOfLetter_9 : decode cX1_digitOfLetter 9 = .ok (.idiv, 1) := by decide +kernel
theorem dX1_digitOfLetter_10 : decode cX1_digitOfLetter 10 = .ok (.ireturn, 1) := by decide +kernel
theorem dX1_isSenderSet_0 : decode cX1_isSenderSet 0 = .ok (.iload_n 1, 1) := by decide +kernel
theorem dX1_isSenderSet_1 : decode cX1_isSenderSet 1 = .ok (.ifCond .le 17, 3) := by decide +kernel
theorem dX1_isSenderSet_18 : decode cX1_isSenderSet 18 = .ok (.iconst 0, 1) := by decide +kernel
theorem dX1_isSenderSet_19 : decode cX1_isSenderSet 19 = .ok (.ireturn, 1) := by decide +kernel
theorem dX1_isSenderSet_4 : decode cX1_isSenderSet 4 = .ok (.iload_n 1, 1) := by decide +kernel
theorem dX1_isSenderSet_5 : decode cX1_isSenderSet 5 = .ok (.iconst 1, 1) := by decide +kernel
theorem dX1_isSenderSet_6 : decode cX1_isSenderSet 6 = .ok (.aload_n 0, 1) := by decide +kernel
theorem dX1_isSenderSet_7 : decode cX1_isSenderSet 7 = .ok (.getfield 33, 3) := by decide +kernel
theorem dX1_isSenderSet_10 : decode cX1_isSenderSet 10 = .ok (.ishl, 1) := by decide +kernel
theorem dX1_isSenderSet_11 : decode cX1_isSenderSet 11 = .ok (.if_icmp .ge 7, 3) := by decide +kernel
theorem dX1_isSenderSet_14 : decode cX1_isSenderSet 14 = .ok (.iconst 1, 1) := by decide +kernel
theorem dX1_isSenderSet_15 : decode cX1_isSenderSet 15 = .ok (.goto 4, 3) := by decide +kernel
theorem dX1_isWord_0 : decode cX1_isWord 0 = .ok (.iload_n 1, 1) := by decide +kernel
theorem dX1_isWord_1 : decode cX1_isWord 1 = .ok (.ifCond .lt 15, 3) := by decide +kernel
theorem dX1_isWord_16 : decode cX1_isWord 16 = .ok (.iconst 0, 1) := by decide +kernel
theorem dX1_isWord_17 : decode cX1_isWord 17 = .ok (.ireturn, 1) := by decide +kernel
theorem dX1_isWord_4 : decode cX1_isWord 4 = .ok (.iload_n 1, 1) := by decide +kernel
theorem dX1_isWord_5 : decode cX1_isWord 5 = .ok (.aload_n 0, 1) := by decide +kernel
theorem dX1_isWord_6 : decode cX1_isWord 6 = .ok (.getfield 42, 3) := by decide +kernel
theorem dX1_isWord_9 : decode cX1_isWord 9 = .ok (.if_icmp .ge 7, 3) := by decide +kernel
theorem dX1_isWord_12 : decode cX1_isWord 12 = .ok (.iconst 1, 1) := by decide +kernel
theorem dX1_isWord_13 : decode cX1_isWord 13 = .ok (.goto 4, 3) := by decide +kernel
theorem dX1_letterOfWord_0 : decode cX1_letterOfWord 0 = .ok (.aload_n 0, 1) := by decide +kernel
theorem dX1_letterOfWord_1 : decode cX1_letterOfWord 1 = .ok (.getfield 25, 3) := by decide +kernel
theorem dX1_letterOfWord_4 : decode cX1_letterOfWord 4 = .ok (.iload_n 1, 1) := by decide +kernel
theorem dX1_letterOfWord_5 : decode cX1_letterOfWord 5 = .ok (.iconst 5, 1) := by decide +kernel
theorem dX1_letterOfWord_6 : decode cX1_letterOfWord 6 = .ok (.imul, 1) := by decide +kernel
theorem dX1_letterOfWord_7 : decode cX1_letterOfWord 7 = .ok (.iload_n 2, 1) := by decide +kernel
theorem dX1_letterOfWord_8 : decode cX1_letterOfWord 8 = .ok (.iadd, 1) := by decide +kernel
theorem dX1_letterOfWord_9 : decode cX1_letterOfWord 9 = .ok (.iaload, 1) := by decide +kernel
theorem dX1_letterOfWord_10 : decode cX1_letterOfWord 10 = .ok (.ireturn, 1) := by decide +kernel
theorem dX1_mostPower_0 : decode cX1_mostPower 0 = .ok (.iconst 0, 1) := by decide +kernel
theorem dX1_mostPower_1 : decode cX1_mostPower 1 = .ok (.istore_n 1, 1) := by decide +kernel
theorem dX1_mostPower_2 : decode cX1_mostPower 2 = .ok (.iconst 0, 1) := by decide +kernel
theorem dX1_mostPower_3 : decode cX1_mostPower 3 = .ok (.istore_n 2, 1) := by decide +kernel
theorem dX1_mostPower_4 : decode cX1_mostPower 4 = .ok (.iload_n 2, 1) := by decide +kernel
theorem dX1_mostPower_5 : decode cX1_mostPower 5 = .ok (.aload_n 0, 1) := by decide +kernel
theorem dX1_mostPower_6 : decode cX1_mostPower 6 = .ok (.getfield 42, 3) := by decide +kernel
theorem dX1_mostPower_9 : decode cX1_mostPower 9 = .ok (.if_icmp .ge 53, 3) := by decide +kernel
theorem dX1_mostPower_62 : decode cX1_mostPower 62 = .ok (.iload_n 1, 1) := by decide +kernel
theorem dX1_mostPower_63 : decode cX1_mostPower 63 = .ok (.ireturn, 1) := by decide +kernel
theorem dX1_mostPower_12 : decode cX1_mostPower 12 = .ok (.iconst 0, 1) := by decide +kernel
theorem dX1_mostPower_13 : decode cX1_mostPower 13 = .ok (.istore_n 3, 1) := by decide +kernel
theorem dX1_mostPower_14 : decode cX1_mostPower 14 = .ok (.iconst 0, 1) := by decide +kernel
theorem dX1_mostPower_15 : decode cX1_mostPower 15 = .ok (.istore 4, 2) := by decide +kernel
theorem dX1_mostPower_17 : decode cX1_mostPower 17 = .ok (.iload 4, 2) := by decide +kernel
theorem dX1_mostPower_19 : decode cX1_mostPower 19 = .ok (.aload_n 0, 1) := by decide +kernel
theorem dX1_mostPower_20 : decode cX1_mostPower 20 = .ok (.getfield 33, 3) := by decide +kernel
theorem dX1_mostPower_23 : decode cX1_mostPower 23 = .ok (.if_icmp .ge 27, 3) := by decide +kernel
theorem dX1_mostPower_50 : decode cX1_mostPower 50 = .ok (.iload_n 1, 1) := by decide +kernel
