theorem dX12_goesOnTest_104 : decode cX12_goesOnTest 104 = .ok (.getfield 78, 3) := by decide +kernel
theorem dX12_goesOnTest_107 : decode cX12_goesOnTest 107 = .ok (.aload_n 0, 1) := by decide +kernel
theorem dX12_goesOnTest_108 : decode cX12_goesOnTest 108 = .ok (.getfield 259, 3) := by decide +kernel
theorem dX12_goesOnTest_111 : decode cX12_goesOnTest 111 = .ok (.bipush 14, 2) := by decide +kernel
theorem dX12_goesOnTest_113 : decode cX12_goesOnTest 113 = .ok (.iastore, 1) := by decide +kernel
theorem dX12_goesOnTest_114 : decode cX12_goesOnTest 114 = .ok (.aload_n 0, 1) := by decide +kernel
theorem dX12_goesOnTest_115 : decode cX12_goesOnTest 115 = .ok (.dup, 1) := by decide +kernel
theorem dX12_goesOnTest_116 : decode cX12_goesOnTest 116 = .ok (.getfield 259, 3) := by decide +kernel
theorem dX12_goesOnTest_119 : decode cX12_goesOnTest 119 = .ok (.iconst 1, 1) := by decide +kernel
theorem dX12_goesOnTest_120 : decode cX12_goesOnTest 120 = .ok (.iadd, 1) := by decide +kernel
theorem dX12_goesOnTest_121 : decode cX12_goesOnTest 121 = .ok (.putfield 259, 3) := by decide +kernel
theorem dX12_goesOnTest_124 : decode cX12_goesOnTest 124 = .ok (.iconst 1, 1) := by decide +kernel
theorem dX12_goesOnTest_125 : decode cX12_goesOnTest 125 = .ok (.ireturn, 1) := by decide +kernel
theorem dX12_goesOnTest_96 : decode cX12_goesOnTest 96 = .ok (.aload_n 0, 1) := by decide +kernel
theorem dX12_goesOnTest_97 : decode cX12_goesOnTest 97 = .ok (.invokevirtual 271, 3) := by decide +kernel
theorem dX12_goesOnTest_100 : decode cX12_goesOnTest 100 = .ok (.goto (-13), 3) := by decide +kernel
theorem dX12_goesOnTest_16 : decode cX12_goesOnTest 16 = .ok (.aload_n 0, 1) := by decide +kernel
theorem dX12_goesOnTest_17 : decode cX12_goesOnTest 17 = .ok (.invokevirtual 305, 3) := by decide +kernel
theorem dX12_goesOnTest_20 : decode cX12_goesOnTest 20 = .ok (.ifCond .eq 56, 3) := by decide +kernel
theorem dX12_goesOnTest_23 : decode cX12_goesOnTest 23 = .ok (.aload_n 0, 1) := by decide +kernel
theorem dX12_goesOnTest_24 : decode cX12_goesOnTest 24 = .ok (.dup, 1) := by decide +kernel
theorem dX12_goesOnTest_25 : decode cX12_goesOnTest 25 = .ok (.getfield 157, 3) := by decide +kernel
theorem dX12_goesOnTest_28 : decode cX12_goesOnTest 28 = .ok (.iconst 1, 1) := by decide +kernel
theorem dX12_goesOnTest_29 : decode cX12_goesOnTest 29 = .ok (.iadd, 1) := by decide +kernel
theorem dX12_goesOnTest_30 : decode cX12_goesOnTest 30 = .ok (.putfield 157, 3) := by decide +kernel
theorem dX12_goesOnTest_33 : decode cX12_goesOnTest 33 = .ok (.aload_n 0, 1) := by decide +kernel
theorem dX12_goesOnTest_34 : decode cX12_goesOnTest 34 = .ok (.bipush 25, 2) := by decide +kernel
theorem dX12_goesOnTest_36 : decode cX12_goesOnTest 36 = .ok (.invokevirtual 283, 3) := by decide +kernel
theorem dX12_goesOnTest_39 : decode cX12_goesOnTest 39 = .ok (.ifCond .ne 10, 3) := by decide +kernel
theorem dX12_goesOnTest_49 : decode cX12_goesOnTest 49 = .ok (.aload_n 0, 1) := by decide +kernel
theorem dX12_goesOnTest_50 : decode cX12_goesOnTest 50 = .ok (.dup, 1) := by decide +kernel
theorem dX12_goesOnTest_51 : decode cX12_goesOnTest 51 = .ok (.getfield 259, 3) := by decide +kernel
theorem dX12_goesOnTest_54 : decode cX12_goesOnTest 54 = .ok (.iconst 1, 1) := by decide +kernel
theorem dX12_goesOnTest_55 : decode cX12_goesOnTest 55 = .ok (.isub, 1) := by decide +kernel
theorem dX12_goesOnTest_56 : decode cX12_goesOnTest 56 = .ok (.putfield 259, 3) := by decide +kernel
theorem dX12_goesOnTest_59 : decode cX12_goesOnTest 59 = .ok (.aload_n 0, 1) := by decide +kernel
theorem dX12_goesOnTest_60 : decode cX12_goesOnTest 60 = .ok (.dup, 1) := by decide +kernel
theorem dX12_goesOnTest_61 : decode cX12_goesOnTest 61 = .ok (.getfield 256, 3) := by decide +kernel
theorem dX12_goesOnTest_64 : decode cX12_goesOnTest 64 = .ok (.iconst 1, 1) := by decide +kernel
theorem dX12_goesOnTest_65 : decode cX12_goesOnTest 65 = .ok (.isub, 1) := by decide +kernel
theorem dX12_goesOnTest_66 : decode cX12_goesOnTest 66 = .ok (.putfield 256, 3) := by decide +kernel
theorem dX12_goesOnTest_69 : decode cX12_goesOnTest 69 = .ok (.aload_n 0, 1) := by decide +kernel
theorem dX12_goesOnTest_70 : decode cX12_goesOnTest 70 = .ok (.invokevirtual 299, 3) := by decide +kernel
theorem dX12_goesOnTest_73 : decode cX12_goesOnTest 73 = .ok (.goto (-73), 3) := by decide +kernel
theorem dX12_goesOnTest_42 : decode cX12_goesOnTest 42 = .ok (.aload_n 0, 1) := by decide +kernel
theorem dX12_goesOnTest_43 : decode cX12_goesOnTest 43 = .ok (.invokevirtual 271, 3) := by decide +kernel
theorem dX12_goesOnTest_46 : decode cX12_goesOnTest 46 = .ok (.goto (-13), 3) := by decide +kernel
theorem dX12_test_98 : decode cX12_test 98 = .ok (.ifCond .eq 7, 3) := by decide +kernel
theorem dX12_test_101 : decode cX12_test 101 = .ok (.iconst 1, 1) := by decide +kernel
theorem dX12_test_102 : decode cX12_test 102 = .ok (.goto 4, 3) := by decide +kernel
theorem dX12_test_58 : decode cX12_test 58 = .ok (.aload_n 0, 1) := by decide +kernel
theorem dX12_test_59 : decode cX12_test 59 = .ok (.bipush 16, 2) := by decide +kernel
theorem dX12_test_61 : decode cX12_test 61 = .ok (.aload_n 0, 1) := by decide +kernel
theorem dX12_test_62 : decode cX12_test 62 = .ok (.getfield 157, 3) := by decide +kernel
theorem dX12_test_65 : decode cX12_test 65 = .ok (.invokevirtual 274, 3) := by decide +kernel
theorem dX12_test_68 : decode cX12_test 68 = .ok (.aload_n 0, 1) := by decide +kernel
theorem dX12_test_69 : decode cX12_test 69 = .ok (.aload_n 0, 1) := by decide +kernel
theorem dX12_test_70 : decode cX12_test 70 = .ok (.getfield 42, 3) := by decide +kernel
theorem dX12_test_73 : decode cX12_test 73 = .ok (.invokevirtual 212, 3) := by decide +kernel
theorem dX12_test_76 : decode cX12_test 76 = .ok (.goto (-74), 3) := by decide +kernel
theorem dX12_test_24 : decode cX12_test 24 = .ok (.aload_n 0, 1) := by decide +kernel
theorem dX12_test_25 : decode cX12_test 25 = .ok (.bipush 25, 2) := by decide +kernel
theorem dX12_test_27 : decode cX12_test 27 = .ok (.aload_n 0, 1) := by decide +kernel
theorem dX12_test_28 : decode cX12_test 28 = .ok (.getfield 157, 3) := by decide +kernel
theorem dX12_test_31 : decode cX12_test 31 = .ok (.invokevirtual 274, 3) := by decide +kernel
theorem dX12_test_34 : decode cX12_test 34 = .ok (.aload_n 0, 1) := by decide +kernel
theorem dX12_test_35 : decode cX12_test 35 = .ok (.dup, 1) := by decide +kernel
theorem dX12_test_36 : decode cX12_test 36 = .ok (.getfield 157, 3) := by decide +kernel
theorem dX12_test_39 : decode cX12_test 39 = .ok (.iconst 1, 1) := by decide +kernel
theorem dX12_test_40 : decode cX12_test 40 = .ok (.iadd, 1) := by decide +kernel
theorem dX12_test_41 : decode cX12_test 41 = .ok (.putfield 157, 3) := by decide +kernel
theorem dX12_test_44 : decode cX12_test 44 = .ok (.goto (-42), 3) := by decide +kernel
theorem dX12_worthTold_18 : decode cX12_worthTold 18 = .ok (.aload_n 0, 1) := by decide +kernel
theorem dX12_worthTold_19 : decode cX12_worthTold 19 = .ok (.iconst 4, 1) := by decide +kernel
theorem dX12_worthTold_20 : decode cX12_worthTold 20 = .ok (.iload_n 1, 1) := by decide +kernel
theorem dX12_worthTold_21 : decode cX12_worthTold 21 = .ok (.invokevirtual 181, 3) := by decide +kernel
theorem dX12_worthTold_31 : decode cX12_worthTold 31 = .ok (.return_, 1) := by decide +kernel
theorem dX12_houseTold_70 : decode cX12_houseTold 70 = .ok (.aload_n 0, 1) := by decide +kernel
theorem dX12_houseTold_71 : decode cX12_houseTold 71 = .ok (.getfield 66, 3) := by decide +kernel
theorem dX12_houseTold_74 : decode cX12_houseTold 74 = .ok (.iconst 5, 1) := by decide +kernel
theorem dX12_houseTold_75 : decode cX12_houseTold 75 = .ok (.aload_n 0, 1) := by decide +kernel
theorem dX12_houseTold_76 : decode cX12_houseTold 76 = .ok (.iconst 0, 1) := by decide +kernel
theorem dX12_houseTold_77 : decode cX12_houseTold 77 = .ok (.sipush 9999, 3) := by decide +kernel
theorem dX12_houseTold_80 : decode cX12_houseTold 80 = .ok (.invokevirtual 195, 3) := by decide +kernel
theorem dX12_houseTold_83 : decode cX12_houseTold 83 = .ok (.iastore, 1) := by decide +kernel
theorem dX12_houseTold_84 : decode cX12_houseTold 84 = .ok (.goto 23, 3) := by decide +kernel
theorem dX12_houseTold_51 : decode cX12_houseTold 51 = .ok (.aload_n 0, 1) := by decide +kernel
theorem dX12_houseTold_52 : decode cX12_houseTold 52 = .ok (.iload_n 1, 1) := by decide +kernel
theorem dX12_houseTold_53 : decode cX12_houseTold 53 = .ok (.invokevirtual 209, 3) := by decide +kernel
theorem dX12_houseTold_56 : decode cX12_houseTold 56 = .ok (.goto 51, 3) := by decide +kernel
theorem dX12_houseTold_32 : decode cX12_houseTold 32 = .ok (.aload_n 0, 1) := by decide +kernel
theorem dX12_houseTold_33 : decode cX12_houseTold 33 = .ok (.iload_n 1, 1) := by decide +kernel
theorem dX12_houseTold_34 : decode cX12_houseTold 34 = .ok (.invokevirtual 205, 3) := by decide +kernel
theorem dX12_houseTold_37 : decode cX12_houseTold 37 = .ok (.goto 70, 3) := by decide +kernel
theorem dX12_houseTold_14 : decode cX12_houseTold 14 = .ok (.aload_n 0, 1) := by decide +kernel
theorem dX12_houseTold_15 : decode cX12_houseTold 15 = .ok (.iconst 4, 1) := by decide +kernel
theorem dX12_houseTold_16 : decode cX12_houseTold 16 = .ok (.iload_n 1, 1) := by decide +kernel
theorem dX12_houseTold_17 : decode cX12_houseTold 17 = .ok (.invokevirtual 181, 3) := by decide +kernel
theorem dX12_houseTold_20 : decode cX12_houseTold 20 = .ok (.return_, 1) := by decide +kernel
theorem dX12_house_168 : decode cX12_house 168 = .ok (.goto (-19), 3) := by decide +kernel
theorem dX12_share_47 : decode cX12_share 47 = .ok (.lstore 8, 2) := by decide +kernel
theorem dX12_share_49 : decode cX12_share 49 = .ok (.lload 5, 2) := by decide +kernel
theorem dX12_share_51 : decode cX12_share 51 = .ok (.lload 8, 2) := by decide +kernel
theorem dX12_share_53 : decode cX12_share 53 = .ok (.ladd, 1) := by decide +kernel
theorem dX12_share_54 : decode cX12_share 54 = .ok (.lstore 5, 2) := by decide +kernel
theorem dX12_share_56 : decode cX12_share 56 = .ok (.aload_n 0, 1) := by decide +kernel
theorem dX12_share_57 : decode cX12_share 57 = .ok (.getfield 103, 3) := by decide +kernel
theorem dX12_share_60 : decode cX12_share 60 = .ok (.iload_n 1, 1) := by decide +kernel
theorem dX12_share_61 : decode cX12_share 61 = .ok (.iaload, 1) := by decide +kernel
theorem dX12_share_62 : decode cX12_share 62 = .ok (.iload_n 2, 1) := by decide +kernel
theorem dX12_share_63 : decode cX12_share 63 = .ok (.if_icmp .ne 8, 3) := by decide +kernel
theorem dX12_share_71 : decode cX12_share 71 = .ok (.iinc 7 1, 3) := by decide +kernel
theorem dX12_share_74 : decode cX12_share 74 = .ok (.goto (-48), 3) := by decide +kernel
theorem dX12_share_66 : decode cX12_share 66 = .ok (.lload_n 3, 1) := by decide +kernel
theorem dX12_share_67 : decode cX12_share 67 = .ok (.lload 8, 2) := by decide +kernel
theorem dX12_share_69 : decode cX12_share 69 = .ok (.ladd, 1) := by decide +kernel
theorem dX12_share_70 : decode cX12_share 70 = .ok (.lstore_n 3, 1) := by decide +kernel
theorem dX12_share_88 : decode cX12_share 88 = .ok (.ldc2_w 365, 3) := by decide +kernel
theorem dX12_share_91 : decode cX12_share 91 = .ok (.lload_n 3, 1) := by decide +kernel
theorem dX12_share_92 : decode cX12_share 92 = .ok (.lmul, 1) := by decide +kernel
theorem dX12_share_93 : decode cX12_share 93 = .ok (.lload 5, 2) := by decide +kernel
theorem dX12_share_95 : decode cX12_share 95 = .ok (.ldiv, 1) := by decide +kernel
theorem dX12_share_96 : decode cX12_share 96 = .ok (.l2i, 1) := by decide +kernel
theorem dX12_isLeast_19 : decode cX12_isLeast 19 = .ok (.aload_n 0, 1) := by decide +kernel
theorem dX12_isLeast_20 : decode cX12_isLeast 20 = .ok (.getfield 103, 3) := by decide +kernel
theorem dX12_isLeast_23 : decode cX12_isLeast 23 = .ok (.iload 4, 2) := by decide +kernel
theorem dX12_isLeast_25 : decode cX12_isLeast 25 = .ok (.iload_n 1, 1) := by decide +kernel
theorem dX12_isLeast_26 : decode cX12_isLeast 26 = .ok (.iload 4, 2) := by decide +kernel
theorem dX12_isLeast_28 : decode cX12_isLeast 28 = .ok (.ishr, 1) := by decide +kernel
theorem dX12_isLeast_29 : decode cX12_isLeast 29 = .ok (.iconst 1, 1) := by decide +kernel
theorem dX12_isLeast_30 : decode cX12_isLeast 30 = .ok (.iand, 1) := by decide +kernel
theorem dX12_isLeast_31 : decode cX12_isLeast 31 = .ok (.iconst 1, 1) := by decide +kernel
theorem dX12_isLeast_32 : decode cX12_isLeast 32 = .ok (.if_icmp .ne 8, 3) := by decide +kernel
theorem dX12_isLeast_40 : decode cX12_isLeast 40 = .ok (.iconst 0, 1) := by decide +kernel
theorem dX12_isLeast_41 : decode cX12_isLeast 41 = .ok (.iastore, 1) := by decide +kernel
theorem dX12_isLeast_42 : decode cX12_isLeast 42 = .ok (.iinc 4 1, 3) := by decide +kernel
theorem dX12_isLeast_45 : decode cX12_isLeast 45 = .ok (.goto (-35), 3) := by decide +kernel
theorem dX12_isLeast_35 : decode cX12_isLeast 35 = .ok (.iload_n 2, 1) := by decide +kernel
theorem dX12_isLeast_36 : decode cX12_isLeast 36 = .ok (.ineg, 1) := by decide +kernel
theorem dX12_isLeast_37 : decode cX12_isLeast 37 = .ok (.goto 4, 3) := by decide +kernel
theorem dX12_isLeast_71 : decode cX12_isLeast 71 = .ok (.iload 5, 2) := by decide +kernel
theorem dX12_isLeast_73 : decode cX12_isLeast 73 = .ok (.ifCond .eq 17, 3) := by decide +kernel
theorem dX12_isLeast_76 : decode cX12_isLeast 76 = .ok (.aload_n 0, 1) := by decide +kernel
theorem dX12_isLeast_77 : decode cX12_isLeast 77 = .ok (.getfield 103, 3) := by decide +kernel
theorem dX12_isLeast_80 : decode cX12_isLeast 80 = .ok (.iload 6, 2) := by decide +kernel
theorem dX12_isLeast_82 : decode cX12_isLeast 82 = .ok (.iaload, 1) := by decide +kernel
theorem dX12_isLeast_83 : decode cX12_isLeast 83 = .ok (.ifCond .ne 7, 3) := by decide +kernel
theorem dX12_isLeast_90 : decode cX12_isLeast 90 = .ok (.iconst 0, 1) := by decide +kernel
theorem dX12_isLeast_91 : decode cX12_isLeast 91 = .ok (.istore 5, 2) := by decide +kernel
theorem dX12_isLeast_93 : decode cX12_isLeast 93 = .ok (.iinc 6 1, 3) := by decide +kernel
theorem dX12_isLeast_96 : decode cX12_isLeast 96 = .ok (.goto (-34), 3) := by decide +kernel
theorem dX12_isLeast_86 : decode cX12_isLeast 86 = .ok (.iconst 1, 1) := by decide +kernel
theorem dX12_isLeast_87 : decode cX12_isLeast 87 = .ok (.goto 4, 3) := by decide +kernel
theorem dX12_isLeast_108 : decode cX12_isLeast 108 = .ok (.aload_n 0, 1) := by decide +kernel
theorem dX12_isLeast_109 : decode cX12_isLeast 109 = .ok (.iconst 0, 1) := by decide +kernel
theorem dX12_isLeast_110 : decode cX12_isLeast 110 = .ok (.invokevirtual 380, 3) := by decide +kernel
theorem dX12_isLeast_120 : decode cX12_isLeast 120 = .ok (.aload_n 0, 1) := by decide +kernel
theorem dX12_isLeast_121 : decode cX12_isLeast 121 = .ok (.getfield 447, 3) := by decide +kernel
theorem dX12_isLeast_124 : decode cX12_isLeast 124 = .ok (.lconst 0, 1) := by decide +kernel
theorem dX12_isLeast_125 : decode cX12_isLeast 125 = .ok (.lcmp, 1) := by decide +kernel
theorem dX12_isLeast_126 : decode cX12_isLeast 126 = .ok (.ifCond .lt 13, 3) := by decide +kernel
theorem dX12_isLeast_139 : decode cX12_isLeast 139 = .ok (.aload_n 0, 1) := by decide +kernel
theorem dX12_isLeast_140 : decode cX12_isLeast 140 = .ok (.lload 6, 2) := by decide +kernel
theorem dX12_isLeast_142 : decode cX12_isLeast 142 = .ok (.putfield 447, 3) := by decide +kernel
theorem dX12_isLeast_145 : decode cX12_isLeast 145 = .ok (.iconst 0, 1) := by decide +kernel
theorem dX12_isLeast_146 : decode cX12_isLeast 146 = .ok (.istore 8, 2) := by decide +kernel
theorem dX12_isLeast_148 : decode cX12_isLeast 148 = .ok (.iload 8, 2) := by decide +kernel
theorem dX12_isLeast_150 : decode cX12_isLeast 150 = .ok (.aload_n 0, 1) := by decide +kernel
theorem dX12_isLeast_151 : decode cX12_isLeast 151 = .ok (.getfield 237, 3) := by decide +kernel
theorem dX12_isLeast_154 : decode cX12_isLeast 154 = .ok (.if_icmp .ge 23, 3) := by decide +kernel
theorem dX12_isLeast_157 : decode cX12_isLeast 157 = .ok (.aload_n 0, 1) := by decide +kernel
theorem dX12_isLeast_158 : decode cX12_isLeast 158 = .ok (.getfield 133, 3) := by decide +kernel
theorem dX12_isLeast_161 : decode cX12_isLeast 161 = .ok (.iload 8, 2) := by decide +kernel
theorem dX12_isLeast_163 : decode cX12_isLeast 163 = .ok (.aload_n 0, 1) := by decide +kernel
theorem dX12_isLeast_164 : decode cX12_isLeast 164 = .ok (.getfield 103, 3) := by decide +kernel
theorem dX12_isLeast_167 : decode cX12_isLeast 167 = .ok (.iload 8, 2) := by decide +kernel
theorem dX12_isLeast_169 : decode cX12_isLeast 169 = .ok (.iaload, 1) := by decide +kernel
theorem dX12_isLeast_170 : decode cX12_isLeast 170 = .ok (.iastore, 1) := by decide +kernel
theorem dX12_isLeast_171 : decode cX12_isLeast 171 = .ok (.iinc 8 1, 3) := by decide +kernel
theorem dX12_isLeast_174 : decode cX12_isLeast 174 = .ok (.goto (-26), 3) := by decide +kernel
theorem dX12_isLeast_198 : decode cX12_isLeast 198 = .ok (.iconst 1, 1) := by decide +kernel
theorem dX12_isLeast_199 : decode cX12_isLeast 199 = .ok (.goto 4, 3) := by decide +kernel
theorem dX12_isLeast_129 : decode cX12_isLeast 129 = .ok (.lload 6, 2) := by decide +kernel
theorem dX12_isLeast_131 : decode cX12_isLeast 131 = .ok (.aload_n 0, 1) := by decide +kernel
theorem dX12_isLeast_132 : decode cX12_isLeast 132 = .ok (.getfield 447, 3) := by decide +kernel
theorem dX12_isLeast_135 : decode cX12_isLeast 135 = .ok (.lcmp, 1) := by decide +kernel
theorem dX12_isLeast_136 : decode cX12_isLeast 136 = .ok (.ifCond .ge 41, 3) := by decide +kernel
theorem dX12_sums_40 : decode cX12_sums 40 = .ok (.ifCond .ne 7, 3) := by decide +kernel
theorem dX12_sums_47 : decode cX12_sums 47 = .ok (.iload_n 3, 1) := by decide +kernel
theorem dX12_sums_48 : decode cX12_sums 48 = .ok (.iconst (-1), 1) := by decide +kernel
theorem dX12_sums_49 : decode cX12_sums 49 = .ok (.if_icmp .ne 10, 3) := by decide +kernel
theorem dX12_sums_52 : decode cX12_sums 52 = .ok (.aload_n 0, 1) := by decide +kernel
theorem dX12_sums_53 : decode cX12_sums 53 = .ok (.getfield 447, 3) := by decide +kernel
theorem dX12_sums_56 : decode cX12_sums 56 = .ok (.goto 10, 3) := by decide +kernel
theorem dX12_sums_66 : decode cX12_sums 66 = .ok (.lreturn, 1) := by decide +kernel
theorem dX12_sums_25 : decode cX12_sums 25 = .ok (.aload_n 0, 1) := by decide +kernel
theorem dX12_sums_26 : decode cX12_sums 26 = .ok (.iload_n 3, 1) := by decide +kernel
theorem dX12_sums_27 : decode cX12_sums 27 = .ok (.invokevirtual 361, 3) := by decide +kernel
theorem dX12_sums_30 : decode cX12_sums 30 = .ok (.ifCond .eq 13, 3) := by decide +kernel
theorem dX12_sums_59 : decode cX12_sums 59 = .ok (.aload_n 0, 1) := by decide +kernel
theorem dX12_sums_60 : decode cX12_sums 60 = .ok (.getfield 133, 3) := by decide +kernel
theorem dX12_sums_63 : decode cX12_sums 63 = .ok (.iload_n 3, 1) := by decide +kernel
theorem dX12_sums_64 : decode cX12_sums 64 = .ok (.iaload, 1) := by decide +kernel
theorem dX12_sums_65 : decode cX12_sums 65 = .ok (.i2l, 1) := by decide +kernel
theorem dX12_apart_22 : decode cX12_apart 22 = .ok (.ifCond .eq 10, 3) := by decide +kernel
theorem dX12_apart_25 : decode cX12_apart 25 = .ok (.aload_n 0, 1) := by decide +kernel
theorem dX12_apart_26 : decode cX12_apart 26 = .ok (.getfield 447, 3) := by decide +kernel
theorem dX12_apart_29 : decode cX12_apart 29 = .ok (.goto 6, 3) := by decide +kernel
theorem dX12_chosen_64 : decode cX12_chosen 64 = .ok (.ifCond .eq 84, 3) := by decide +kernel
theorem dX12_chosen_67 : decode cX12_chosen 67 = .ok (.aload_n 0, 1) := by decide +kernel
theorem dX12_chosen_68 : decode cX12_chosen 68 = .ok (.getfield 447, 3) := by decide +kernel
theorem dX12_chosen_71 : decode cX12_chosen 71 = .ok (.lload_n 2, 1) := by decide +kernel
theorem dX12_chosen_72 : decode cX12_chosen 72 = .ok (.lcmp, 1) := by decide +kernel
theorem dX12_chosen_73 : decode cX12_chosen 73 = .ok (.ifCond .ge 6, 3) := by decide +kernel
theorem dX12_chosen_79 : decode cX12_chosen 79 = .ok (.lconst 0, 1) := by decide +kernel
theorem dX12_chosen_80 : decode cX12_chosen 80 = .ok (.lstore 8, 2) := by decide +kernel
theorem dX12_chosen_82 : decode cX12_chosen 82 = .ok (.iconst 0, 1) := by decide +kernel
theorem dX12_chosen_83 : decode cX12_chosen 83 = .ok (.istore 10, 2) := by decide +kernel
theorem dX12_chosen_85 : decode cX12_chosen 85 = .ok (.iload 10, 2) := by decide +kernel
theorem dX12_chosen_87 : decode cX12_chosen 87 = .ok (.aload_n 0, 1) := by decide +kernel
theorem dX12_chosen_88 : decode cX12_chosen 88 = .ok (.getfield 237, 3) := by decide +kernel
theorem dX12_chosen_91 : decode cX12_chosen 91 = .ok (.if_icmp .ge 32, 3) := by decide +kernel
theorem dX12_chosen_123 : decode cX12_chosen 123 = .ok (.iload 4, 2) := by decide +kernel
theorem dX12_chosen_125 : decode cX12_chosen 125 = .ok (.iconst (-1), 1) := by decide +kernel
theorem dX12_chosen_126 : decode cX12_chosen 126 = .ok (.if_icmp .eq 14, 3) := by decide +kernel
theorem dX12_chosen_140 : decode cX12_chosen 140 = .ok (.iload 7, 2) := by decide +kernel
theorem dX12_chosen_142 : decode cX12_chosen 142 = .ok (.istore 4, 2) := by decide +kernel
theorem dX12_chosen_144 : decode cX12_chosen 144 = .ok (.lload 8, 2) := by decide +kernel
theorem dX12_chosen_146 : decode cX12_chosen 146 = .ok (.lstore 5, 2) := by decide +kernel
theorem dX12_chosen_94 : decode cX12_chosen 94 = .ok (.iload 7, 2) := by decide +kernel
theorem dX12_chosen_96 : decode cX12_chosen 96 = .ok (.iload 10, 2) := by decide +kernel
theorem dX12_chosen_98 : decode cX12_chosen 98 = .ok (.ishr, 1) := by decide +kernel
theorem dX12_chosen_99 : decode cX12_chosen 99 = .ok (.iconst 1, 1) := by decide +kernel
theorem dX12_chosen_100 : decode cX12_chosen 100 = .ok (.iand, 1) := by decide +kernel
theorem dX12_chosen_101 : decode cX12_chosen 101 = .ok (.iconst 1, 1) := by decide +kernel
theorem dX12_chosen_102 : decode cX12_chosen 102 = .ok (.if_icmp .ne 15, 3) := by decide +kernel
theorem dX12_chosen_117 : decode cX12_chosen 117 = .ok (.iinc 10 1, 3) := by decide +kernel
theorem dX12_chosen_120 : decode cX12_chosen 120 = .ok (.goto (-35), 3) := by decide +kernel
theorem dX12_chosen_105 : decode cX12_chosen 105 = .ok (.lload 8, 2) := by decide +kernel
theorem dX12_chosen_107 : decode cX12_chosen 107 = .ok (.aload_n 0, 1) := by decide +kernel
theorem dX12_chosen_108 : decode cX12_chosen 108 = .ok (.iload 10, 2) := by decide +kernel
theorem dX12_chosen_110 : decode cX12_chosen 110 = .ok (.invokevirtual 481, 3) := by decide +kernel
theorem dX12_chosen_113 : decode cX12_chosen 113 = .ok (.i2l, 1) := by decide +kernel
theorem dX12_chosen_114 : decode cX12_chosen 114 = .ok (.ladd, 1) := by decide +kernel
theorem dX12_chosen_115 : decode cX12_chosen 115 = .ok (.lstore 8, 2) := by decide +kernel
theorem dX12_chosen_76 : decode cX12_chosen 76 = .ok (.goto 72, 3) := by decide +kernel
theorem dX12_chosen_129 : decode cX12_chosen 129 = .ok (.lload 8, 2) := by decide +kernel
theorem dX12_chosen_131 : decode cX12_chosen 131 = .ok (.lload 5, 2) := by decide +kernel
theorem dX12_chosen_133 : decode cX12_chosen 133 = .ok (.lcmp, 1) := by decide +kernel
theorem dX12_chosen_134 : decode cX12_chosen 134 = .ok (.ifCond .gt 6, 3) := by decide +kernel
theorem dX12_chosen_137 : decode cX12_chosen 137 = .ok (.goto 11, 3) := by decide +kernel
