theorem dX12_share_47 : decode cX12_share 47 = .ok (.lstore 8, 2) := dq_55 (a := 8) (by decide +kernel) rfl
theorem dX12_share_49 : decode cX12_share 49 = .ok (.lload 5, 2) := dq_22 (a := 5) (by decide +kernel) rfl
theorem dX12_share_51 : decode cX12_share 51 = .ok (.lload 8, 2) := dq_22 (a := 8) (by decide +kernel) rfl
theorem dX12_share_53 : decode cX12_share 53 = .ok (.ladd, 1) := dq_97 (by decide +kernel)
theorem dX12_share_54 : decode cX12_share 54 = .ok (.lstore 5, 2) := dq_55 (a := 5) (by decide +kernel) rfl
theorem dX12_share_56 : decode cX12_share 56 = .ok (.aload_n 0, 1) := dq_42 (by decide +kernel)
theorem dX12_share_57 : decode cX12_share 57 = .ok (.getfield 103, 3) := dq_180 (a := 0) (b := 103) (by decide +kernel) rfl
theorem dX12_share_60 : decode cX12_share 60 = .ok (.iload_n 1, 1) := dq_27 (by decide +kernel)
theorem dX12_share_61 : decode cX12_share 61 = .ok (.iaload, 1) := dq_46 (by decide +kernel)
theorem dX12_share_62 : decode cX12_share 62 = .ok (.iload_n 2, 1) := dq_28 (by decide +kernel)
theorem dX12_share_63 : decode cX12_share 63 = .ok (.if_icmp .ne 8, 3) := dq_160 (a := 0) (b := 8) (by decide +kernel) (by decide +kernel)
theorem dX12_share_71 : decode cX12_share 71 = .ok (.iinc 7 1, 3) := dq_132 (a := 7) (b := 1) (by decide +kernel) rfl (by decide +kernel)
theorem dX12_share_74 : decode cX12_share 74 = .ok (.goto (-48), 3) := dq_167 (a := 255) (b := 208) (by decide +kernel) (by decide +kernel)
theorem dX12_share_66 : decode cX12_share 66 = .ok (.lload_n 3, 1) := dq_33 (by decide +kernel)
theorem dX12_share_67 : decode cX12_share 67 = .ok (.lload 8, 2) := dq_22 (a := 8) (by decide +kernel) rfl
theorem dX12_share_69 : decode cX12_share 69 = .ok (.ladd, 1) := dq_97 (by decide +kernel)
theorem dX12_share_70 : decode cX12_share 70 = .ok (.lstore_n 3, 1) := dq_66 (by decide +kernel)
theorem dX12_share_88 : decode cX12_share 88 = .ok (.ldc2_w 365, 3) := dq_20 (a := 1) (b := 109) (by decide +kernel) rfl
theorem dX12_share_91 : decode cX12_share 91 = .ok (.lload_n 3, 1) := dq_33 (by decide +kernel)
theorem dX12_share_92 : decode cX12_share 92 = .ok (.lmul, 1) := dq_105 (by decide +kernel)
theorem dX12_share_93 : decode cX12_share 93 = .ok (.lload 5, 2) := dq_22 (a := 5) (by decide +kernel) rfl
theorem dX12_share_95 : decode cX12_share 95 = .ok (.ldiv, 1) := dq_109 (by decide +kernel)
theorem dX12_share_96 : decode cX12_share 96 = .ok (.l2i, 1) := dq_136 (by decide +kernel)
theorem dX12_isLeast_19 : decode cX12_isLeast 19 = .ok (.aload_n 0, 1) := dq_42 (by decide +kernel)
theorem dX12_isLeast_20 : decode cX12_isLeast 20 = .ok (.getfield 103, 3) := dq_180 (a := 0) (b := 103) (by decide +kernel) rfl
theorem dX12_isLeast_23 : decode cX12_isLeast 23 = .ok (.iload 4, 2) := dq_21 (a := 4) (by decide +kernel) rfl
theorem dX12_isLeast_25 : decode cX12_isLeast 25 = .ok (.iload_n 1, 1) := dq_27 (by decide +kernel)
theorem dX12_isLeast_26 : decode cX12_isLeast 26 = .ok (.iload 4, 2) := dq_21 (a := 4) (by decide +kernel) rfl
theorem dX12_isLeast_28 : decode cX12_isLeast 28 = .ok (.ishr, 1) := dq_122 (by decide +kernel)
theorem dX12_isLeast_29 : decode cX12_isLeast 29 = .ok (.iconst 1, 1) := dq_4 (by decide +kernel)
theorem dX12_isLeast_30 : decode cX12_isLeast 30 = .ok (.iand, 1) := dq_126 (by decide +kernel)
theorem dX12_isLeast_31 : decode cX12_isLeast 31 = .ok (.iconst 1, 1) := dq_4 (by decide +kernel)
theorem dX12_isLeast_32 : decode cX12_isLeast 32 = .ok (.if_icmp .ne 8, 3) := dq_160 (a := 0) (b := 8) (by decide +kernel) (by decide +kernel)
theorem dX12_isLeast_40 : decode cX12_isLeast 40 = .ok (.iconst 0, 1) := dq_3 (by decide +kernel)
theorem dX12_isLeast_41 : decode cX12_isLeast 41 = .ok (.iastore, 1) := dq_79 (by decide +kernel)
theorem dX12_isLeast_42 : decode cX12_isLeast 42 = .ok (.iinc 4 1, 3) := dq_132 (a := 4) (b := 1) (by decide +kernel) rfl (by decide +kernel)
theorem dX12_isLeast_45 : decode cX12_isLeast 45 = .ok (.goto (-35), 3) := dq_167 (a := 255) (b := 221) (by decide +kernel) (by decide +kernel)
theorem dX12_isLeast_35 : decode cX12_isLeast 35 = .ok (.iload_n 2, 1) := dq_28 (by decide +kernel)
theorem dX12_isLeast_36 : decode cX12_isLeast 36 = .ok (.ineg, 1) := dq_116 (by decide +kernel)
theorem dX12_isLeast_37 : decode cX12_isLeast 37 = .ok (.goto 4, 3) := dq_167 (a := 0) (b := 4) (by decide +kernel) (by decide +kernel)
theorem dX12_isLeast_71 : decode cX12_isLeast 71 = .ok (.iload 5, 2) := dq_21 (a := 5) (by decide +kernel) rfl
theorem dX12_isLeast_73 : decode cX12_isLeast 73 = .ok (.ifCond .eq 17, 3) := dq_153 (a := 0) (b := 17) (by decide +kernel) (by decide +kernel)
theorem dX12_isLeast_76 : decode cX12_isLeast 76 = .ok (.aload_n 0, 1) := dq_42 (by decide +kernel)
theorem dX12_isLeast_77 : decode cX12_isLeast 77 = .ok (.getfield 103, 3) := dq_180 (a := 0) (b := 103) (by decide +kernel) rfl
theorem dX12_isLeast_80 : decode cX12_isLeast 80 = .ok (.iload 6, 2) := dq_21 (a := 6) (by decide +kernel) rfl
theorem dX12_isLeast_82 : decode cX12_isLeast 82 = .ok (.iaload, 1) := dq_46 (by decide +kernel)
theorem dX12_isLeast_83 : decode cX12_isLeast 83 = .ok (.ifCond .ne 7, 3) := dq_154 (a := 0) (b := 7) (by decide +kernel) (by decide +kernel)
theorem dX12_isLeast_90 : decode cX12_isLeast 90 = .ok (.iconst 0, 1) := dq_3 (by decide +kernel)
theorem dX12_isLeast_91 : decode cX12_isLeast 91 = .ok (.istore 5, 2) := dq_54 (a := 5) (by decide +kernel) rfl
theorem dX12_isLeast_93 : decode cX12_isLeast 93 = .ok (.iinc 6 1, 3) := dq_132 (a := 6) (b := 1) (by decide +kernel) rfl (by decide +kernel)
theorem dX12_isLeast_96 : decode cX12_isLeast 96 = .ok (.goto (-34), 3) := dq_167 (a := 255) (b := 222) (by decide +kernel) (by decide +kernel)
theorem dX12_isLeast_86 : decode cX12_isLeast 86 = .ok (.iconst 1, 1) := dq_4 (by decide +kernel)
theorem dX12_isLeast_87 : decode cX12_isLeast 87 = .ok (.goto 4, 3) := dq_167 (a := 0) (b := 4) (by decide +kernel) (by decide +kernel)
theorem dX12_isLeast_108 : decode cX12_isLeast 108 = .ok (.aload_n 0, 1) := dq_42 (by decide +kernel)
theorem dX12_isLeast_109 : decode cX12_isLeast 109 = .ok (.iconst 0, 1) := dq_3 (by decide +kernel)
theorem dX12_isLeast_110 : decode cX12_isLeast 110 = .ok (.invokevirtual 380, 3) := dq_182 (a := 1) (b := 124) (by decide +kernel) rfl
theorem dX12_isLeast_120 : decode cX12_isLeast 120 = .ok (.aload_n 0, 1) := dq_42 (by decide +kernel)
theorem dX12_isLeast_121 : decode cX12_isLeast 121 = .ok (.getfield 447, 3) := dq_180 (a := 1) (b := 191) (by decide +kernel) rfl
theorem dX12_isLeast_124 : decode cX12_isLeast 124 = .ok (.lconst 0, 1) := dq_9 (by decide +kernel)
theorem dX12_isLeast_125 : decode cX12_isLeast 125 = .ok (.lcmp, 1) := dq_148 (by decide +kernel)
theorem dX12_isLeast_126 : decode cX12_isLeast 126 = .ok (.ifCond .lt 13, 3) := dq_155 (a := 0) (b := 13) (by decide +kernel) (by decide +kernel)
theorem dX12_isLeast_139 : decode cX12_isLeast 139 = .ok (.aload_n 0, 1) := dq_42 (by decide +kernel)
theorem dX12_isLeast_140 : decode cX12_isLeast 140 = .ok (.lload 6, 2) := dq_22 (a := 6) (by decide +kernel) rfl
theorem dX12_isLeast_142 : decode cX12_isLeast 142 = .ok (.putfield 447, 3) := dq_181 (a := 1) (b := 191) (by decide +kernel) rfl
theorem dX12_isLeast_145 : decode cX12_isLeast 145 = .ok (.iconst 0, 1) := dq_3 (by decide +kernel)
theorem dX12_isLeast_146 : decode cX12_isLeast 146 = .ok (.istore 8, 2) := dq_54 (a := 8) (by decide +kernel) rfl
theorem dX12_isLeast_148 : decode cX12_isLeast 148 = .ok (.iload 8, 2) := dq_21 (a := 8) (by decide +kernel) rfl
theorem dX12_isLeast_150 : decode cX12_isLeast 150 = .ok (.aload_n 0, 1) := dq_42 (by decide +kernel)
theorem dX12_isLeast_151 : decode cX12_isLeast 151 = .ok (.getfield 237, 3) := dq_180 (a := 0) (b := 237) (by decide +kernel) rfl
theorem dX12_isLeast_154 : decode cX12_isLeast 154 = .ok (.if_icmp .ge 23, 3) := dq_162 (a := 0) (b := 23) (by decide +kernel) (by decide +kernel)
theorem dX12_isLeast_157 : decode cX12_isLeast 157 = .ok (.aload_n 0, 1) := dq_42 (by decide +kernel)
theorem dX12_isLeast_158 : decode cX12_isLeast 158 = .ok (.getfield 133, 3) := dq_180 (a := 0) (b := 133) (by decide +kernel) rfl
theorem dX12_isLeast_161 : decode cX12_isLeast 161 = .ok (.iload 8, 2) := dq_21 (a := 8) (by decide +kernel) rfl
theorem dX12_isLeast_163 : decode cX12_isLeast 163 = .ok (.aload_n 0, 1) := dq_42 (by decide +kernel)
theorem dX12_isLeast_164 : decode cX12_isLeast 164 = .ok (.getfield 103, 3) := dq_180 (a := 0) (b := 103) (by decide +kernel) rfl
theorem dX12_isLeast_167 : decode cX12_isLeast 167 = .ok (.iload 8, 2) := dq_21 (a := 8) (by decide +kernel) rfl
theorem dX12_isLeast_169 : decode cX12_isLeast 169 = .ok (.iaload, 1) := dq_46 (by decide +kernel)
theorem dX12_isLeast_170 : decode cX12_isLeast 170 = .ok (.iastore, 1) := dq_79 (by decide +kernel)
theorem dX12_isLeast_171 : decode cX12_isLeast 171 = .ok (.iinc 8 1, 3) := dq_132 (a := 8) (b := 1) (by decide +kernel) rfl (by decide +kernel)
theorem dX12_isLeast_174 : decode cX12_isLeast 174 = .ok (.goto (-26), 3) := dq_167 (a := 255) (b := 230) (by decide +kernel) (by decide +kernel)
theorem dX12_isLeast_198 : decode cX12_isLeast 198 = .ok (.iconst 1, 1) := dq_4 (by decide +kernel)
theorem dX12_isLeast_199 : decode cX12_isLeast 199 = .ok (.goto 4, 3) := dq_167 (a := 0) (b := 4) (by decide +kernel) (by decide +kernel)
theorem dX12_isLeast_129 : decode cX12_isLeast 129 = .ok (.lload 6, 2) := dq_22 (a := 6) (by decide +kernel) rfl
theorem dX12_isLeast_131 : decode cX12_isLeast 131 = .ok (.aload_n 0, 1) := dq_42 (by decide +kernel)
theorem dX12_isLeast_132 : decode cX12_isLeast 132 = .ok (.getfield 447, 3) := dq_180 (a := 1) (b := 191) (by decide +kernel) rfl
theorem dX12_isLeast_135 : decode cX12_isLeast 135 = .ok (.lcmp, 1) := dq_148 (by decide +kernel)
theorem dX12_isLeast_136 : decode cX12_isLeast 136 = .ok (.ifCond .ge 41, 3) := dq_156 (a := 0) (b := 41) (by decide +kernel) (by decide +kernel)
theorem dX12_sums_40 : decode cX12_sums 40 = .ok (.ifCond .ne 7, 3) := dq_154 (a := 0) (b := 7) (by decide +kernel) (by decide +kernel)
theorem dX12_sums_47 : decode cX12_sums 47 = .ok (.iload_n 3, 1) := dq_29 (by decide +kernel)
theorem dX12_sums_48 : decode cX12_sums 48 = .ok (.iconst (-1), 1) := dq_2 (by decide +kernel)
theorem dX12_sums_49 : decode cX12_sums 49 = .ok (.if_icmp .ne 10, 3) := dq_160 (a := 0) (b := 10) (by decide +kernel) (by decide +kernel)
theorem dX12_sums_52 : decode cX12_sums 52 = .ok (.aload_n 0, 1) := dq_42 (by decide +kernel)
theorem dX12_sums_53 : decode cX12_sums 53 = .ok (.getfield 447, 3) := dq_180 (a := 1) (b := 191) (by decide +kernel) rfl
theorem dX12_sums_56 : decode cX12_sums 56 = .ok (.goto 10, 3) := dq_167 (a := 0) (b := 10) (by decide +kernel) (by decide +kernel)
theorem dX12_sums_66 : decode cX12_sums 66 = .ok (.lreturn, 1) := dq_173 (by decide +kernel)
theorem dX12_sums_25 : decode cX12_sums 25 = .ok (.aload_n 0, 1) := dq_42 (by decide +kernel)
theorem dX12_sums_26 : decode cX12_sums 26 = .ok (.iload_n 3, 1) := dq_29 (by decide +kernel)
theorem dX12_sums_27 : decode cX12_sums 27 = .ok (.invokevirtual 361, 3) := dq_182 (a := 1) (b := 105) (by decide +kernel) rfl
theorem dX12_sums_30 : decode cX12_sums 30 = .ok (.ifCond .eq 13, 3) := dq_153 (a := 0) (b := 13) (by decide +kernel) (by decide +kernel)
theorem dX12_sums_59 : decode cX12_sums 59 = .ok (.aload_n 0, 1) := dq_42 (by decide +kernel)
theorem dX12_sums_60 : decode cX12_sums 60 = .ok (.getfield 133, 3) := dq_180 (a := 0) (b := 133) (by decide +kernel) rfl
theorem dX12_sums_63 : decode cX12_sums 63 = .ok (.iload_n 3, 1) := dq_29 (by decide +kernel)
theorem dX12_sums_64 : decode cX12_sums 64 = .ok (.iaload, 1) := dq_46 (by decide +kernel)
theorem dX12_sums_65 : decode cX12_sums 65 = .ok (.i2l, 1) := dq_133 (by decide +kernel)
theorem dX12_apart_22 : decode cX12_apart 22 = .ok (.ifCond .eq 10, 3) := dq_153 (a := 0) (b := 10) (by decide +kernel) (by decide +kernel)
theorem dX12_apart_25 : decode cX12_apart 25 = .ok (.aload_n 0, 1) := dq_42 (by decide +kernel)
theorem dX12_apart_26 : decode cX12_apart 26 = .ok (.getfield 447, 3) := dq_180 (a := 1) (b := 191) (by decide +kernel) rfl
theorem dX12_apart_29 : decode cX12_apart 29 = .ok (.goto 6, 3) := dq_167 (a := 0) (b := 6) (by decide +kernel) (by decide +kernel)
theorem dX12_chosen_64 : decode cX12_chosen 64 = .ok (.ifCond .eq 84, 3) := dq_153 (a := 0) (b := 84) (by decide +kernel) (by decide +kernel)
theorem dX12_chosen_67 : decode cX12_chosen 67 = .ok (.aload_n 0, 1) := dq_42 (by decide +kernel)
theorem dX12_chosen_68 : decode cX12_chosen 68 = .ok (.getfield 447, 3) := dq_180 (a := 1) (b := 191) (by decide +kernel) rfl
theorem dX12_chosen_71 : decode cX12_chosen 71 = .ok (.lload_n 2, 1) := dq_32 (by decide +kernel)
theorem dX12_chosen_72 : decode cX12_chosen 72 = .ok (.lcmp, 1) := dq_148 (by decide +kernel)
theorem dX12_chosen_73 : decode cX12_chosen 73 = .ok (.ifCond .ge 6, 3) := dq_156 (a := 0) (b := 6) (by decide +kernel) (by decide +kernel)
theorem dX12_chosen_79 : decode cX12_chosen 79 = .ok (.lconst 0, 1) := dq_9 (by decide +kernel)
theorem dX12_chosen_80 : decode cX12_chosen 80 = .ok (.lstore 8, 2) := dq_55 (a := 8) (by decide +kernel) rfl
theorem dX12_chosen_82 : decode cX12_chosen 82 = .ok (.iconst 0, 1) := dq_3 (by decide +kernel)
theorem dX12_chosen_83 : decode cX12_chosen 83 = .ok (.istore 10, 2) := dq_54 (a := 10) (by decide +kernel) rfl
theorem dX12_chosen_85 : decode cX12_chosen 85 = .ok (.iload 10, 2) := dq_21 (a := 10) (by decide +kernel) rfl
theorem dX12_chosen_87 : decode cX12_chosen 87 = .ok (.aload_n 0, 1) := dq_42 (by decide +kernel)
theorem dX12_chosen_88 : decode cX12_chosen 88 = .ok (.getfield 237, 3) := dq_180 (a := 0) (b := 237) (by decide +kernel) rfl
theorem dX12_chosen_91 : decode cX12_chosen 91 = .ok (.if_icmp .ge 32, 3) := dq_162 (a := 0) (b := 32) (by decide +kernel) (by decide +kernel)
theorem dX12_chosen_123 : decode cX12_chosen 123 = .ok (.iload 4, 2) := dq_21 (a := 4) (by decide +kernel) rfl
theorem dX12_chosen_125 : decode cX12_chosen 125 = .ok (.iconst (-1), 1) := dq_2 (by decide +kernel)
theorem dX12_chosen_126 : decode cX12_chosen 126 = .ok (.if_icmp .eq 14, 3) := dq_159 (a := 0) (b := 14) (by decide +kernel) (by decide +kernel)
theorem dX12_chosen_140 : decode cX12_chosen 140 = .ok (.iload 7, 2) := dq_21 (a := 7) (by decide +kernel) rfl
theorem dX12_chosen_142 : decode cX12_chosen 142 = .ok (.istore 4, 2) := dq_54 (a := 4) (by decide +kernel) rfl
theorem dX12_chosen_144 : decode cX12_chosen 144 = .ok (.lload 8, 2) := dq_22 (a := 8) (by decide +kernel) rfl
theorem dX12_chosen_146 : decode cX12_chosen 146 = .ok (.lstore 5, 2) := dq_55 (a := 5) (by decide +kernel) rfl
theorem dX12_chosen_94 : decode cX12_chosen 94 = .ok (.iload 7, 2) := dq_21 (a := 7) (by decide +kernel) rfl
theorem dX12_chosen_96 : decode cX12_chosen 96 = .ok (.iload 10, 2) := dq_21 (a := 10) (by decide +kernel) rfl
theorem dX12_chosen_98 : decode cX12_chosen 98 = .ok (.ishr, 1) := dq_122 (by decide +kernel)
theorem dX12_chosen_99 : decode cX12_chosen 99 = .ok (.iconst 1, 1) := dq_4 (by decide +kernel)
theorem dX12_chosen_100 : decode cX12_chosen 100 = .ok (.iand, 1) := dq_126 (by decide +kernel)
theorem dX12_chosen_101 : decode cX12_chosen 101 = .ok (.iconst 1, 1) := dq_4 (by decide +kernel)
theorem dX12_chosen_102 : decode cX12_chosen 102 = .ok (.if_icmp .ne 15, 3) := dq_160 (a := 0) (b := 15) (by decide +kernel) (by decide +kernel)
theorem dX12_chosen_117 : decode cX12_chosen 117 = .ok (.iinc 10 1, 3) := dq_132 (a := 10) (b := 1) (by decide +kernel) rfl (by decide +kernel)
theorem dX12_chosen_120 : decode cX12_chosen 120 = .ok (.goto (-35), 3) := dq_167 (a := 255) (b := 221) (by decide +kernel) (by decide +kernel)
theorem dX12_chosen_105 : decode cX12_chosen 105 = .ok (.lload 8, 2) := dq_22 (a := 8) (by decide +kernel) rfl
theorem dX12_chosen_107 : decode cX12_chosen 107 = .ok (.aload_n 0, 1) := dq_42 (by decide +kernel)
theorem dX12_chosen_108 : decode cX12_chosen 108 = .ok (.iload 10, 2) := dq_21 (a := 10) (by decide +kernel) rfl
theorem dX12_chosen_110 : decode cX12_chosen 110 = .ok (.invokevirtual 481, 3) := dq_182 (a := 1) (b := 225) (by decide +kernel) rfl
theorem dX12_chosen_113 : decode cX12_chosen 113 = .ok (.i2l, 1) := dq_133 (by decide +kernel)
theorem dX12_chosen_114 : decode cX12_chosen 114 = .ok (.ladd, 1) := dq_97 (by decide +kernel)
theorem dX12_chosen_115 : decode cX12_chosen 115 = .ok (.lstore 8, 2) := dq_55 (a := 8) (by decide +kernel) rfl
theorem dX12_chosen_76 : decode cX12_chosen 76 = .ok (.goto 72, 3) := dq_167 (a := 0) (b := 72) (by decide +kernel) (by decide +kernel)
theorem dX12_chosen_129 : decode cX12_chosen 129 = .ok (.lload 8, 2) := dq_22 (a := 8) (by decide +kernel) rfl
theorem dX12_chosen_131 : decode cX12_chosen 131 = .ok (.lload 5, 2) := dq_22 (a := 5) (by decide +kernel) rfl
theorem dX12_chosen_133 : decode cX12_chosen 133 = .ok (.lcmp, 1) := dq_148 (by decide +kernel)
theorem dX12_chosen_134 : decode cX12_chosen 134 = .ok (.ifCond .gt 6, 3) := dq_157 (a := 0) (b := 6) (by decide +kernel) (by decide +kernel)
theorem dX12_chosen_137 : decode cX12_chosen 137 = .ok (.goto 11, 3) := dq_167 (a := 0) (b := 11) (by decide +kernel) (by decide +kernel)
theorem dX11_lead_0 : decode cX11_lead 0 = .ok (.iload_n 1, 1) := dq_27 (by decide +kernel)
theorem dX11_lead_1 : decode cX11_lead 1 = .ok (.iconst 1, 1) := dq_4 (by decide +kernel)
theorem dX11_lead_2 : decode cX11_lead 2 = .ok (.if_icmp .lt 9, 3) := dq_161 (a := 0) (b := 9) (by decide +kernel) (by decide +kernel)
theorem dX11_lead_11 : decode cX11_lead 11 = .ok (.iconst (-1), 1) := dq_2 (by decide +kernel)
theorem dX11_lead_12 : decode cX11_lead 12 = .ok (.goto 11, 3) := dq_167 (a := 0) (b := 11) (by decide +kernel) (by decide +kernel)
theorem dX11_lead_23 : decode cX11_lead 23 = .ok (.ireturn, 1) := dq_172 (by decide +kernel)
theorem dX11_lead_5 : decode cX11_lead 5 = .ok (.iload_n 1, 1) := dq_27 (by decide +kernel)
theorem dX11_lead_6 : decode cX11_lead 6 = .ok (.bipush 100, 2) := dq_16 (a := 100) (by decide +kernel) (by decide +kernel)
theorem dX11_lead_8 : decode cX11_lead 8 = .ok (.if_icmp .le 7, 3) := dq_164 (a := 0) (b := 7) (by decide +kernel) (by decide +kernel)
theorem dX11_lead_15 : decode cX11_lead 15 = .ok (.aload_n 0, 1) := dq_42 (by decide +kernel)
theorem dX11_lead_16 : decode cX11_lead 16 = .ok (.getfield 76, 3) := dq_180 (a := 0) (b := 76) (by decide +kernel) rfl
theorem dX11_lead_19 : decode cX11_lead 19 = .ok (.iload_n 1, 1) := dq_27 (by decide +kernel)
theorem dX11_lead_20 : decode cX11_lead 20 = .ok (.invokevirtual 296, 3) := dq_182 (a := 1) (b := 40) (by decide +kernel) rfl
theorem dX2_makeSteps_0 : decode cX2_makeSteps 0 = .ok (.iconst 0, 1) := dq_3 (by decide +kernel)
theorem dX2_makeSteps_1 : decode cX2_makeSteps 1 = .ok (.istore_n 2, 1) := dq_61 (by decide +kernel)
theorem dX2_makeSteps_2 : decode cX2_makeSteps 2 = .ok (.iload_n 2, 1) := dq_28 (by decide +kernel)
theorem dX2_makeSteps_3 : decode cX2_makeSteps 3 = .ok (.iload_n 1, 1) := dq_27 (by decide +kernel)
theorem dX2_makeSteps_4 : decode cX2_makeSteps 4 = .ok (.if_icmp .ge 16, 3) := dq_162 (a := 0) (b := 16) (by decide +kernel) (by decide +kernel)
theorem dX2_makeSteps_20 : decode cX2_makeSteps 20 = .ok (.iload_n 2, 1) := dq_28 (by decide +kernel)
theorem dX2_makeSteps_21 : decode cX2_makeSteps 21 = .ok (.ireturn, 1) := dq_172 (by decide +kernel)
theorem dX2_makeSteps_7 : decode cX2_makeSteps 7 = .ok (.aload_n 0, 1) := dq_42 (by decide +kernel)
theorem dX2_makeSteps_8 : decode cX2_makeSteps 8 = .ok (.invokevirtual 60, 3) := dq_182 (a := 0) (b := 60) (by decide +kernel) rfl
theorem dX2_makeStep_0 : decode cX2_makeStep 0 = .ok (.aload_n 0, 1) := dq_42 (by decide +kernel)
theorem dX2_makeStep_1 : decode cX2_makeStep 1 = .ok (.getfield 39, 3) := dq_180 (a := 0) (b := 39) (by decide +kernel) rfl
theorem dX2_makeStep_4 : decode cX2_makeStep 4 = .ok (.sipush 200, 3) := dq_17 (a := 0) (b := 200) (by decide +kernel) (by decide +kernel)
theorem dX2_makeStep_7 : decode cX2_makeStep 7 = .ok (.if_icmp .lt 5, 3) := dq_161 (a := 0) (b := 5) (by decide +kernel) (by decide +kernel)
theorem dX2_makeStep_12 : decode cX2_makeStep 12 = .ok (.iconst 0, 1) := dq_3 (by decide +kernel)
theorem dX2_makeStep_13 : decode cX2_makeStep 13 = .ok (.istore_n 1, 1) := dq_60 (by decide +kernel)
theorem dX2_makeStep_14 : decode cX2_makeStep 14 = .ok (.iload_n 1, 1) := dq_27 (by decide +kernel)
theorem dX2_makeStep_15 : decode cX2_makeStep 15 = .ok (.aload_n 0, 1) := dq_42 (by decide +kernel)
theorem dX2_makeStep_16 : decode cX2_makeStep 16 = .ok (.getfield 26, 3) := dq_180 (a := 0) (b := 26) (by decide +kernel) rfl
theorem dX2_makeStep_19 : decode cX2_makeStep 19 = .ok (.if_icmp .ge 71, 3) := dq_162 (a := 0) (b := 71) (by decide +kernel) (by decide +kernel)
theorem dX2_makeStep_90 : decode cX2_makeStep 90 = .ok (.iconst 0, 1) := dq_3 (by decide +kernel)
theorem dX2_makeStep_91 : decode cX2_makeStep 91 = .ok (.ireturn, 1) := dq_172 (by decide +kernel)
theorem dX2_makeStep_22 : decode cX2_makeStep 22 = .ok (.iconst 0, 1) := dq_3 (by decide +kernel)
theorem dX2_makeStep_23 : decode cX2_makeStep 23 = .ok (.istore_n 2, 1) := dq_61 (by decide +kernel)
theorem dX2_makeStep_24 : decode cX2_makeStep 24 = .ok (.iload_n 2, 1) := dq_28 (by decide +kernel)
theorem dX2_makeStep_25 : decode cX2_makeStep 25 = .ok (.aload_n 0, 1) := dq_42 (by decide +kernel)
theorem dX2_makeStep_26 : decode cX2_makeStep 26 = .ok (.getfield 26, 3) := dq_180 (a := 0) (b := 26) (by decide +kernel) rfl
theorem dX2_makeStep_29 : decode cX2_makeStep 29 = .ok (.if_icmp .ge 55, 3) := dq_162 (a := 0) (b := 55) (by decide +kernel) (by decide +kernel)
theorem dX2_makeStep_32 : decode cX2_makeStep 32 = .ok (.iload_n 1, 1) := dq_27 (by decide +kernel)
theorem dX2_makeStep_33 : decode cX2_makeStep 33 = .ok (.iload_n 2, 1) := dq_28 (by decide +kernel)
theorem dX2_makeStep_34 : decode cX2_makeStep 34 = .ok (.if_icmp .ne 7, 3) := dq_160 (a := 0) (b := 7) (by decide +kernel) (by decide +kernel)
theorem dX2_makeStep_37 : decode cX2_makeStep 37 = .ok (.iconst 0, 1) := dq_3 (by decide +kernel)
theorem dX2_makeStep_38 : decode cX2_makeStep 38 = .ok (.goto 9, 3) := dq_167 (a := 0) (b := 9) (by decide +kernel) (by decide +kernel)
theorem dX2_makeStep_47 : decode cX2_makeStep 47 = .ok (.istore_n 3, 1) := dq_62 (by decide +kernel)
theorem dX2_makeStep_48 : decode cX2_makeStep 48 = .ok (.iload_n 3, 1) := dq_29 (by decide +kernel)
theorem dX2_makeStep_49 : decode cX2_makeStep 49 = .ok (.ifCond .eq 29, 3) := dq_153 (a := 0) (b := 29) (by decide +kernel) (by decide +kernel)
theorem dX2_makeStep_78 : decode cX2_makeStep 78 = .ok (.iinc 2 1, 3) := dq_132 (a := 2) (b := 1) (by decide +kernel) rfl (by decide +kernel)
theorem dX2_makeStep_81 : decode cX2_makeStep 81 = .ok (.goto (-57), 3) := dq_167 (a := 255) (b := 199) (by decide +kernel) (by decide +kernel)
theorem dX2_makeStep_84 : decode cX2_makeStep 84 = .ok (.iinc 1 1, 3) := dq_132 (a := 1) (b := 1) (by decide +kernel) rfl (by decide +kernel)
theorem dX2_makeStep_87 : decode cX2_makeStep 87 = .ok (.goto (-73), 3) := dq_167 (a := 255) (b := 183) (by decide +kernel) (by decide +kernel)
theorem dX2_makeStep_41 : decode cX2_makeStep 41 = .ok (.aload_n 0, 1) := dq_42 (by decide +kernel)
theorem dX2_makeStep_42 : decode cX2_makeStep 42 = .ok (.iload_n 1, 1) := dq_27 (by decide +kernel)
theorem dX2_makeStep_43 : decode cX2_makeStep 43 = .ok (.iload_n 2, 1) := dq_28 (by decide +kernel)
theorem dX2_makeStep_44 : decode cX2_makeStep 44 = .ok (.invokevirtual 64, 3) := dq_182 (a := 0) (b := 64) (by decide +kernel) rfl
theorem dX2_timesIn_0 : decode cX2_timesIn 0 = .ok (.aload_n 0, 1) := dq_42 (by decide +kernel)
theorem dX2_timesIn_1 : decode cX2_timesIn 1 = .ok (.getfield 12, 3) := dq_180 (a := 0) (b := 12) (by decide +kernel) rfl
theorem dX2_timesIn_4 : decode cX2_timesIn 4 = .ok (.iload_n 2, 1) := dq_28 (by decide +kernel)
theorem dX2_timesIn_5 : decode cX2_timesIn 5 = .ok (.iload_n 2, 1) := dq_28 (by decide +kernel)
theorem dX2_timesIn_6 : decode cX2_timesIn 6 = .ok (.invokevirtual 75, 3) := dq_182 (a := 0) (b := 75) (by decide +kernel) rfl
theorem dX2_timesIn_9 : decode cX2_timesIn 9 = .ok (.istore_n 3, 1) := dq_62 (by decide +kernel)
theorem dX2_timesIn_10 : decode cX2_timesIn 10 = .ok (.iload_n 3, 1) := dq_29 (by decide +kernel)
theorem dX2_timesIn_11 : decode cX2_timesIn 11 = .ok (.ifCond .ne 5, 3) := dq_154 (a := 0) (b := 5) (by decide +kernel) (by decide +kernel)
theorem dX2_timesIn_16 : decode cX2_timesIn 16 = .ok (.aload_n 0, 1) := dq_42 (by decide +kernel)
theorem dX2_timesIn_17 : decode cX2_timesIn 17 = .ok (.getfield 12, 3) := dq_180 (a := 0) (b := 12) (by decide +kernel) rfl
theorem dX2_timesIn_20 : decode cX2_timesIn 20 = .ok (.iload_n 1, 1) := dq_27 (by decide +kernel)
theorem dX2_timesIn_21 : decode cX2_timesIn 21 = .ok (.iload_n 2, 1) := dq_28 (by decide +kernel)
theorem dX2_timesIn_22 : decode cX2_timesIn 22 = .ok (.invokevirtual 75, 3) := dq_182 (a := 0) (b := 75) (by decide +kernel) rfl
theorem dX2_timesIn_25 : decode cX2_timesIn 25 = .ok (.istore 4, 2) := dq_54 (a := 4) (by decide +kernel) rfl
theorem dX2_timesIn_27 : decode cX2_timesIn 27 = .ok (.iconst 2, 1) := dq_5 (by decide +kernel)
theorem dX2_timesIn_28 : decode cX2_timesIn 28 = .ok (.iload 4, 2) := dq_21 (a := 4) (by decide +kernel) rfl
theorem dX2_timesIn_30 : decode cX2_timesIn 30 = .ok (.invokestatic 78, 3) := dq_184 (a := 0) (b := 78) (by decide +kernel) rfl
theorem dX2_timesIn_33 : decode cX2_timesIn 33 = .ok (.imul, 1) := dq_104 (by decide +kernel)
theorem dX2_timesIn_34 : decode cX2_timesIn 34 = .ok (.iload_n 3, 1) := dq_29 (by decide +kernel)
theorem dX2_timesIn_35 : decode cX2_timesIn 35 = .ok (.iadd, 1) := dq_96 (by decide +kernel)
theorem dX2_timesIn_36 : decode cX2_timesIn 36 = .ok (.iconst 1, 1) := dq_4 (by decide +kernel)
theorem dX2_timesIn_37 : decode cX2_timesIn 37 = .ok (.isub, 1) := dq_100 (by decide +kernel)
theorem dX2_timesIn_38 : decode cX2_timesIn 38 = .ok (.iconst 2, 1) := dq_5 (by decide +kernel)
theorem dX2_timesIn_39 : decode cX2_timesIn 39 = .ok (.iload_n 3, 1) := dq_29 (by decide +kernel)
theorem dX2_timesIn_40 : decode cX2_timesIn 40 = .ok (.imul, 1) := dq_104 (by decide +kernel)
theorem dX2_timesIn_41 : decode cX2_timesIn 41 = .ok (.idiv, 1) := dq_108 (by decide +kernel)
theorem dX2_timesIn_42 : decode cX2_timesIn 42 = .ok (.istore 5, 2) := dq_54 (a := 5) (by decide +kernel) rfl
theorem dX2_timesIn_44 : decode cX2_timesIn 44 = .ok (.iload 4, 2) := dq_21 (a := 4) (by decide +kernel) rfl
theorem dX2_timesIn_46 : decode cX2_timesIn 46 = .ok (.ifCond .ge 9, 3) := dq_156 (a := 0) (b := 9) (by decide +kernel) (by decide +kernel)
theorem dX2_timesIn_55 : decode cX2_timesIn 55 = .ok (.iload 5, 2) := dq_21 (a := 5) (by decide +kernel) rfl
theorem dX2_timesIn_57 : decode cX2_timesIn 57 = .ok (.ireturn, 1) := dq_172 (by decide +kernel)
theorem dX2_timesIn_49 : decode cX2_timesIn 49 = .ok (.iload 5, 2) := dq_21 (a := 5) (by decide +kernel) rfl
theorem dX2_timesIn_51 : decode cX2_timesIn 51 = .ok (.ineg, 1) := dq_116 (by decide +kernel)
theorem dX2_timesIn_52 : decode cX2_timesIn 52 = .ok (.goto 5, 3) := dq_167 (a := 0) (b := 5) (by decide +kernel) (by decide +kernel)
theorem dX2_timesIn_14 : decode cX2_timesIn 14 = .ok (.iconst 0, 1) := dq_3 (by decide +kernel)
theorem dX2_timesIn_15 : decode cX2_timesIn 15 = .ok (.ireturn, 1) := dq_172 (by decide +kernel)
theorem dX2_makeStep_52 : decode cX2_makeStep 52 = .ok (.aload_n 0, 1) := dq_42 (by decide +kernel)
theorem dX2_makeStep_53 : decode cX2_makeStep 53 = .ok (.iload_n 1, 1) := dq_27 (by decide +kernel)
theorem dX2_makeStep_54 : decode cX2_makeStep 54 = .ok (.iload_n 2, 1) := dq_28 (by decide +kernel)
theorem dX2_makeStep_55 : decode cX2_makeStep 55 = .ok (.iload_n 3, 1) := dq_29 (by decide +kernel)
theorem dX2_makeStep_56 : decode cX2_makeStep 56 = .ok (.invokevirtual 68, 3) := dq_182 (a := 0) (b := 68) (by decide +kernel) rfl
theorem dX2_remember_0 : decode cX2_remember 0 = .ok (.aload_n 0, 1) := dq_42 (by decide +kernel)
theorem dX2_remember_1 : decode cX2_remember 1 = .ok (.iconst 0, 1) := dq_3 (by decide +kernel)
theorem dX2_remember_2 : decode cX2_remember 2 = .ok (.putfield 36, 3) := dq_181 (a := 0) (b := 36) (by decide +kernel) rfl
theorem dX2_remember_5 : decode cX2_remember 5 = .ok (.aload_n 0, 1) := dq_42 (by decide +kernel)
theorem dX2_remember_6 : decode cX2_remember 6 = .ok (.getfield 33, 3) := dq_180 (a := 0) (b := 33) (by decide +kernel) rfl
theorem dX2_remember_9 : decode cX2_remember 9 = .ok (.bipush 40, 2) := dq_16 (a := 40) (by decide +kernel) (by decide +kernel)
theorem dX2_remember_11 : decode cX2_remember 11 = .ok (.if_icmp .ne 26, 3) := dq_160 (a := 0) (b := 26) (by decide +kernel) (by decide +kernel)
theorem dX2_remember_37 : decode cX2_remember 37 = .ok (.aload_n 0, 1) := dq_42 (by decide +kernel)
theorem dX2_remember_38 : decode cX2_remember 38 = .ok (.aload_n 0, 1) := dq_42 (by decide +kernel)
theorem dX2_remember_39 : decode cX2_remember 39 = .ok (.getfield 33, 3) := dq_180 (a := 0) (b := 33) (by decide +kernel) rfl
theorem dX2_remember_42 : decode cX2_remember 42 = .ok (.invokevirtual 56, 3) := dq_182 (a := 0) (b := 56) (by decide +kernel) rfl
theorem dX2_remember_45 : decode cX2_remember 45 = .ok (.istore 4, 2) := dq_54 (a := 4) (by decide +kernel) rfl
theorem dX2_remember_47 : decode cX2_remember 47 = .ok (.aload_n 0, 1) := dq_42 (by decide +kernel)
theorem dX2_remember_48 : decode cX2_remember 48 = .ok (.getfield 22, 3) := dq_180 (a := 0) (b := 22) (by decide +kernel) rfl
theorem dX2_remember_51 : decode cX2_remember 51 = .ok (.iload 4, 2) := dq_21 (a := 4) (by decide +kernel) rfl
theorem dX2_remember_53 : decode cX2_remember 53 = .ok (.iload_n 1, 1) := dq_27 (by decide +kernel)
theorem dX2_remember_54 : decode cX2_remember 54 = .ok (.iastore, 1) := dq_79 (by decide +kernel)
theorem dX2_remember_55 : decode cX2_remember 55 = .ok (.aload_n 0, 1) := dq_42 (by decide +kernel)
theorem dX2_remember_56 : decode cX2_remember 56 = .ok (.getfield 22, 3) := dq_180 (a := 0) (b := 22) (by decide +kernel) rfl
theorem dX2_remember_59 : decode cX2_remember 59 = .ok (.iload 4, 2) := dq_21 (a := 4) (by decide +kernel) rfl
theorem dX2_remember_61 : decode cX2_remember 61 = .ok (.iconst 1, 1) := dq_4 (by decide +kernel)
theorem dX2_remember_62 : decode cX2_remember 62 = .ok (.iadd, 1) := dq_96 (by decide +kernel)
theorem dX2_remember_63 : decode cX2_remember 63 = .ok (.iload_n 2, 1) := dq_28 (by decide +kernel)
theorem dX2_remember_64 : decode cX2_remember 64 = .ok (.iastore, 1) := dq_79 (by decide +kernel)
theorem dX2_remember_65 : decode cX2_remember 65 = .ok (.aload_n 0, 1) := dq_42 (by decide +kernel)
theorem dX2_remember_66 : decode cX2_remember 66 = .ok (.getfield 22, 3) := dq_180 (a := 0) (b := 22) (by decide +kernel) rfl
theorem dX2_remember_69 : decode cX2_remember 69 = .ok (.iload 4, 2) := dq_21 (a := 4) (by decide +kernel) rfl
theorem dX2_remember_71 : decode cX2_remember 71 = .ok (.iconst 2, 1) := dq_5 (by decide +kernel)
theorem dX2_remember_72 : decode cX2_remember 72 = .ok (.iadd, 1) := dq_96 (by decide +kernel)
theorem dX2_remember_73 : decode cX2_remember 73 = .ok (.iload_n 3, 1) := dq_29 (by decide +kernel)
theorem dX2_remember_74 : decode cX2_remember 74 = .ok (.iastore, 1) := dq_79 (by decide +kernel)
theorem dX2_remember_75 : decode cX2_remember 75 = .ok (.aload_n 0, 1) := dq_42 (by decide +kernel)
theorem dX2_remember_76 : decode cX2_remember 76 = .ok (.dup, 1) := dq_89 (by decide +kernel)
theorem dX2_remember_77 : decode cX2_remember 77 = .ok (.getfield 33, 3) := dq_180 (a := 0) (b := 33) (by decide +kernel) rfl
theorem dX2_remember_80 : decode cX2_remember 80 = .ok (.iconst 1, 1) := dq_4 (by decide +kernel)
theorem dX2_remember_81 : decode cX2_remember 81 = .ok (.iadd, 1) := dq_96 (by decide +kernel)
theorem dX2_remember_82 : decode cX2_remember 82 = .ok (.putfield 33, 3) := dq_181 (a := 0) (b := 33) (by decide +kernel) rfl
theorem dX2_remember_85 : decode cX2_remember 85 = .ok (.return_, 1) := dq_177 (by decide +kernel)
theorem dX2_remember_14 : decode cX2_remember 14 = .ok (.aload_n 0, 1) := dq_42 (by decide +kernel)
theorem dX2_remember_15 : decode cX2_remember 15 = .ok (.aload_n 0, 1) := dq_42 (by decide +kernel)
theorem dX2_remember_16 : decode cX2_remember 16 = .ok (.getfield 30, 3) := dq_180 (a := 0) (b := 30) (by decide +kernel) rfl
theorem dX2_remember_19 : decode cX2_remember 19 = .ok (.iconst 1, 1) := dq_4 (by decide +kernel)
theorem dX2_remember_20 : decode cX2_remember 20 = .ok (.iadd, 1) := dq_96 (by decide +kernel)
theorem dX2_remember_21 : decode cX2_remember 21 = .ok (.bipush 40, 2) := dq_16 (a := 40) (by decide +kernel) (by decide +kernel)
theorem dX2_remember_23 : decode cX2_remember 23 = .ok (.irem, 1) := dq_112 (by decide +kernel)
theorem dX2_remember_24 : decode cX2_remember 24 = .ok (.putfield 30, 3) := dq_181 (a := 0) (b := 30) (by decide +kernel) rfl
theorem dX2_remember_27 : decode cX2_remember 27 = .ok (.aload_n 0, 1) := dq_42 (by decide +kernel)
theorem dX2_remember_28 : decode cX2_remember 28 = .ok (.dup, 1) := dq_89 (by decide +kernel)
theorem dX2_remember_29 : decode cX2_remember 29 = .ok (.getfield 33, 3) := dq_180 (a := 0) (b := 33) (by decide +kernel) rfl
theorem dX2_remember_32 : decode cX2_remember 32 = .ok (.iconst 1, 1) := dq_4 (by decide +kernel)
theorem dX2_remember_33 : decode cX2_remember 33 = .ok (.isub, 1) := dq_100 (by decide +kernel)
theorem dX2_remember_34 : decode cX2_remember 34 = .ok (.putfield 33, 3) := dq_181 (a := 0) (b := 33) (by decide +kernel) rfl
theorem dX2_makeStep_59 : decode cX2_makeStep 59 = .ok (.aload_n 0, 1) := dq_42 (by decide +kernel)
theorem dX2_makeStep_60 : decode cX2_makeStep 60 = .ok (.iload_n 1, 1) := dq_27 (by decide +kernel)
theorem dX2_makeStep_61 : decode cX2_makeStep 61 = .ok (.iload_n 2, 1) := dq_28 (by decide +kernel)
theorem dX2_makeStep_62 : decode cX2_makeStep 62 = .ok (.iload_n 3, 1) := dq_29 (by decide +kernel)
theorem dX2_makeStep_63 : decode cX2_makeStep 63 = .ok (.invokevirtual 72, 3) := dq_182 (a := 0) (b := 72) (by decide +kernel) rfl
theorem dX2_takeAway_0 : decode cX2_takeAway 0 = .ok (.aload_n 0, 1) := dq_42 (by decide +kernel)
theorem dX2_takeAway_1 : decode cX2_takeAway 1 = .ok (.getfield 12, 3) := dq_180 (a := 0) (b := 12) (by decide +kernel) rfl
theorem dX2_takeAway_4 : decode cX2_takeAway 4 = .ok (.iload_n 1, 1) := dq_27 (by decide +kernel)
theorem dX2_takeAway_5 : decode cX2_takeAway 5 = .ok (.iload_n 2, 1) := dq_28 (by decide +kernel)
theorem dX2_takeAway_6 : decode cX2_takeAway 6 = .ok (.iload_n 3, 1) := dq_29 (by decide +kernel)
theorem dX2_takeAway_7 : decode cX2_takeAway 7 = .ok (.invokevirtual 83, 3) := dq_182 (a := 0) (b := 83) (by decide +kernel) rfl
theorem dX2_takeAway_10 : decode cX2_takeAway 10 = .ok (.iconst 0, 1) := dq_3 (by decide +kernel)
theorem dX2_takeAway_11 : decode cX2_takeAway 11 = .ok (.istore 4, 2) := dq_54 (a := 4) (by decide +kernel) rfl
theorem dX2_takeAway_13 : decode cX2_takeAway 13 = .ok (.iload 4, 2) := dq_21 (a := 4) (by decide +kernel) rfl
theorem dX2_takeAway_15 : decode cX2_takeAway 15 = .ok (.iconst 5, 1) := dq_8 (by decide +kernel)
theorem dX2_takeAway_16 : decode cX2_takeAway 16 = .ok (.if_icmp .ge 37, 3) := dq_162 (a := 0) (b := 37) (by decide +kernel) (by decide +kernel)
theorem dX2_takeAway_19 : decode cX2_takeAway 19 = .ok (.aload_n 0, 1) := dq_42 (by decide +kernel)
theorem dX2_takeAway_20 : decode cX2_takeAway 20 = .ok (.getfield 18, 3) := dq_180 (a := 0) (b := 18) (by decide +kernel) rfl
theorem dX2_takeAway_23 : decode cX2_takeAway 23 = .ok (.iload_n 1, 1) := dq_27 (by decide +kernel)
theorem dX2_takeAway_24 : decode cX2_takeAway 24 = .ok (.iconst 5, 1) := dq_8 (by decide +kernel)
theorem dX2_takeAway_25 : decode cX2_takeAway 25 = .ok (.imul, 1) := dq_104 (by decide +kernel)
theorem dX2_takeAway_26 : decode cX2_takeAway 26 = .ok (.iload 4, 2) := dq_21 (a := 4) (by decide +kernel) rfl
theorem dX2_takeAway_28 : decode cX2_takeAway 28 = .ok (.iadd, 1) := dq_96 (by decide +kernel)
theorem dX2_takeAway_29 : decode cX2_takeAway 29 = .ok (.dup2, 1) := dq_92 (by decide +kernel)
theorem dX2_takeAway_30 : decode cX2_takeAway 30 = .ok (.laload, 1) := dq_47 (by decide +kernel)
theorem dX2_takeAway_31 : decode cX2_takeAway 31 = .ok (.iload_n 3, 1) := dq_29 (by decide +kernel)
theorem dX2_takeAway_32 : decode cX2_takeAway 32 = .ok (.i2l, 1) := dq_133 (by decide +kernel)
theorem dX2_takeAway_33 : decode cX2_takeAway 33 = .ok (.aload_n 0, 1) := dq_42 (by decide +kernel)
theorem dX2_takeAway_34 : decode cX2_takeAway 34 = .ok (.getfield 18, 3) := dq_180 (a := 0) (b := 18) (by decide +kernel) rfl
theorem dX2_takeAway_37 : decode cX2_takeAway 37 = .ok (.iload_n 2, 1) := dq_28 (by decide +kernel)
theorem dX2_takeAway_38 : decode cX2_takeAway 38 = .ok (.iconst 5, 1) := dq_8 (by decide +kernel)
theorem dX2_takeAway_39 : decode cX2_takeAway 39 = .ok (.imul, 1) := dq_104 (by decide +kernel)
theorem dX2_takeAway_40 : decode cX2_takeAway 40 = .ok (.iload 4, 2) := dq_21 (a := 4) (by decide +kernel) rfl
theorem dX2_takeAway_42 : decode cX2_takeAway 42 = .ok (.iadd, 1) := dq_96 (by decide +kernel)
theorem dX2_takeAway_43 : decode cX2_takeAway 43 = .ok (.laload, 1) := dq_47 (by decide +kernel)
theorem dX2_takeAway_44 : decode cX2_takeAway 44 = .ok (.lmul, 1) := dq_105 (by decide +kernel)
theorem dX2_takeAway_45 : decode cX2_takeAway 45 = .ok (.lsub, 1) := dq_101 (by decide +kernel)
theorem dX2_takeAway_46 : decode cX2_takeAway 46 = .ok (.lastore, 1) := dq_80 (by decide +kernel)
theorem dX2_takeAway_47 : decode cX2_takeAway 47 = .ok (.iinc 4 1, 3) := dq_132 (a := 4) (b := 1) (by decide +kernel) rfl (by decide +kernel)
theorem dX2_takeAway_50 : decode cX2_takeAway 50 = .ok (.goto (-37), 3) := dq_167 (a := 255) (b := 219) (by decide +kernel) (by decide +kernel)
theorem dX2_takeAway_53 : decode cX2_takeAway 53 = .ok (.return_, 1) := dq_177 (by decide +kernel)
theorem dX2_makeStep_66 : decode cX2_makeStep 66 = .ok (.aload_n 0, 1) := dq_42 (by decide +kernel)
theorem dX2_makeStep_67 : decode cX2_makeStep 67 = .ok (.dup, 1) := dq_89 (by decide +kernel)
theorem dX2_makeStep_68 : decode cX2_makeStep 68 = .ok (.getfield 39, 3) := dq_180 (a := 0) (b := 39) (by decide +kernel) rfl
theorem dX2_makeStep_71 : decode cX2_makeStep 71 = .ok (.iconst 1, 1) := dq_4 (by decide +kernel)
theorem dX2_makeStep_72 : decode cX2_makeStep 72 = .ok (.iadd, 1) := dq_96 (by decide +kernel)
theorem dX2_makeStep_73 : decode cX2_makeStep 73 = .ok (.putfield 39, 3) := dq_181 (a := 0) (b := 39) (by decide +kernel) rfl
theorem dX2_makeStep_76 : decode cX2_makeStep 76 = .ok (.iconst 1, 1) := dq_4 (by decide +kernel)
theorem dX2_makeStep_77 : decode cX2_makeStep 77 = .ok (.ireturn, 1) := dq_172 (by decide +kernel)
theorem dX2_makeStep_10 : decode cX2_makeStep 10 = .ok (.iconst 0, 1) := dq_3 (by decide +kernel)
theorem dX2_makeStep_11 : decode cX2_makeStep 11 = .ok (.ireturn, 1) := dq_172 (by decide +kernel)
theorem dX2_makeSteps_11 : decode cX2_makeSteps 11 = .ok (.ifCond .eq 9, 3) := dq_153 (a := 0) (b := 9) (by decide +kernel) (by decide +kernel)
theorem dX2_makeSteps_14 : decode cX2_makeSteps 14 = .ok (.iinc 2 1, 3) := dq_132 (a := 2) (b := 1) (by decide +kernel) rfl (by decide +kernel)
theorem dX2_makeSteps_17 : decode cX2_makeSteps 17 = .ok (.goto (-15), 3) := dq_167 (a := 255) (b := 241) (by decide +kernel) (by decide +kernel)
theorem dX11_undo_0 : decode cX11_undo 0 = .ok (.aload_n 0, 1) := dq_42 (by decide +kernel)
theorem dX11_undo_1 : decode cX11_undo 1 = .ok (.getfield 76, 3) := dq_180 (a := 0) (b := 76) (by decide +kernel) rfl
theorem dX11_undo_4 : decode cX11_undo 4 = .ok (.invokevirtual 299, 3) := dq_182 (a := 1) (b := 43) (by decide +kernel) rfl
theorem dX2_undoStep_0 : decode cX2_undoStep 0 = .ok (.aload_n 0, 1) := dq_42 (by decide +kernel)
theorem dX2_undoStep_1 : decode cX2_undoStep 1 = .ok (.getfield 33, 3) := dq_180 (a := 0) (b := 33) (by decide +kernel) rfl
theorem dX2_undoStep_4 : decode cX2_undoStep 4 = .ok (.ifCond .ne 5, 3) := dq_154 (a := 0) (b := 5) (by decide +kernel) (by decide +kernel)
theorem dX2_undoStep_9 : decode cX2_undoStep 9 = .ok (.aload_n 0, 1) := dq_42 (by decide +kernel)
theorem dX2_undoStep_10 : decode cX2_undoStep 10 = .ok (.dup, 1) := dq_89 (by decide +kernel)
theorem dX2_undoStep_11 : decode cX2_undoStep 11 = .ok (.getfield 33, 3) := dq_180 (a := 0) (b := 33) (by decide +kernel) rfl
theorem dX2_undoStep_14 : decode cX2_undoStep 14 = .ok (.iconst 1, 1) := dq_4 (by decide +kernel)
theorem dX2_undoStep_15 : decode cX2_undoStep 15 = .ok (.isub, 1) := dq_100 (by decide +kernel)
theorem dX2_undoStep_16 : decode cX2_undoStep 16 = .ok (.putfield 33, 3) := dq_181 (a := 0) (b := 33) (by decide +kernel) rfl
theorem dX2_undoStep_19 : decode cX2_undoStep 19 = .ok (.aload_n 0, 1) := dq_42 (by decide +kernel)
theorem dX2_undoStep_20 : decode cX2_undoStep 20 = .ok (.dup, 1) := dq_89 (by decide +kernel)
theorem dX2_undoStep_21 : decode cX2_undoStep 21 = .ok (.getfield 36, 3) := dq_180 (a := 0) (b := 36) (by decide +kernel) rfl
theorem dX2_undoStep_24 : decode cX2_undoStep 24 = .ok (.iconst 1, 1) := dq_4 (by decide +kernel)
theorem dX2_undoStep_25 : decode cX2_undoStep 25 = .ok (.iadd, 1) := dq_96 (by decide +kernel)
theorem dX2_undoStep_26 : decode cX2_undoStep 26 = .ok (.putfield 36, 3) := dq_181 (a := 0) (b := 36) (by decide +kernel) rfl
theorem dX2_undoStep_29 : decode cX2_undoStep 29 = .ok (.aload_n 0, 1) := dq_42 (by decide +kernel)
theorem dX2_undoStep_30 : decode cX2_undoStep 30 = .ok (.dup, 1) := dq_89 (by decide +kernel)
theorem dX2_undoStep_31 : decode cX2_undoStep 31 = .ok (.getfield 39, 3) := dq_180 (a := 0) (b := 39) (by decide +kernel) rfl
theorem dX2_undoStep_34 : decode cX2_undoStep 34 = .ok (.iconst 1, 1) := dq_4 (by decide +kernel)
theorem dX2_undoStep_35 : decode cX2_undoStep 35 = .ok (.isub, 1) := dq_100 (by decide +kernel)
theorem dX2_undoStep_36 : decode cX2_undoStep 36 = .ok (.putfield 39, 3) := dq_181 (a := 0) (b := 39) (by decide +kernel) rfl
theorem dX2_undoStep_39 : decode cX2_undoStep 39 = .ok (.aload_n 0, 1) := dq_42 (by decide +kernel)
theorem dX2_undoStep_40 : decode cX2_undoStep 40 = .ok (.aload_n 0, 1) := dq_42 (by decide +kernel)
theorem dX2_undoStep_41 : decode cX2_undoStep 41 = .ok (.getfield 33, 3) := dq_180 (a := 0) (b := 33) (by decide +kernel) rfl
theorem dX2_undoStep_44 : decode cX2_undoStep 44 = .ok (.invokevirtual 56, 3) := dq_182 (a := 0) (b := 56) (by decide +kernel) rfl
theorem dX2_undoStep_47 : decode cX2_undoStep 47 = .ok (.istore_n 1, 1) := dq_60 (by decide +kernel)
theorem dX2_undoStep_48 : decode cX2_undoStep 48 = .ok (.aload_n 0, 1) := dq_42 (by decide +kernel)
theorem dX2_undoStep_49 : decode cX2_undoStep 49 = .ok (.aload_n 0, 1) := dq_42 (by decide +kernel)
theorem dX2_undoStep_50 : decode cX2_undoStep 50 = .ok (.getfield 22, 3) := dq_180 (a := 0) (b := 22) (by decide +kernel) rfl
theorem dX2_undoStep_53 : decode cX2_undoStep 53 = .ok (.iload_n 1, 1) := dq_27 (by decide +kernel)
theorem dX2_undoStep_54 : decode cX2_undoStep 54 = .ok (.iaload, 1) := dq_46 (by decide +kernel)
theorem dX2_undoStep_55 : decode cX2_undoStep 55 = .ok (.aload_n 0, 1) := dq_42 (by decide +kernel)
theorem dX2_undoStep_56 : decode cX2_undoStep 56 = .ok (.getfield 22, 3) := dq_180 (a := 0) (b := 22) (by decide +kernel) rfl
theorem dX2_undoStep_59 : decode cX2_undoStep 59 = .ok (.iload_n 1, 1) := dq_27 (by decide +kernel)
theorem dX2_undoStep_60 : decode cX2_undoStep 60 = .ok (.iconst 1, 1) := dq_4 (by decide +kernel)
theorem dX2_undoStep_61 : decode cX2_undoStep 61 = .ok (.iadd, 1) := dq_96 (by decide +kernel)
theorem dX2_undoStep_62 : decode cX2_undoStep 62 = .ok (.iaload, 1) := dq_46 (by decide +kernel)
theorem dX2_undoStep_63 : decode cX2_undoStep 63 = .ok (.aload_n 0, 1) := dq_42 (by decide +kernel)
theorem dX2_undoStep_64 : decode cX2_undoStep 64 = .ok (.getfield 22, 3) := dq_180 (a := 0) (b := 22) (by decide +kernel) rfl
theorem dX2_undoStep_67 : decode cX2_undoStep 67 = .ok (.iload_n 1, 1) := dq_27 (by decide +kernel)
theorem dX2_undoStep_68 : decode cX2_undoStep 68 = .ok (.iconst 2, 1) := dq_5 (by decide +kernel)
theorem dX2_undoStep_69 : decode cX2_undoStep 69 = .ok (.iadd, 1) := dq_96 (by decide +kernel)
theorem dX2_undoStep_70 : decode cX2_undoStep 70 = .ok (.iaload, 1) := dq_46 (by decide +kernel)
theorem dX2_undoStep_71 : decode cX2_undoStep 71 = .ok (.ineg, 1) := dq_116 (by decide +kernel)
theorem dX2_undoStep_72 : decode cX2_undoStep 72 = .ok (.invokevirtual 72, 3) := dq_182 (a := 0) (b := 72) (by decide +kernel) rfl
theorem dX2_undoStep_75 : decode cX2_undoStep 75 = .ok (.iconst 1, 1) := dq_4 (by decide +kernel)
theorem dX2_undoStep_76 : decode cX2_undoStep 76 = .ok (.ireturn, 1) := dq_172 (by decide +kernel)
theorem dX2_undoStep_7 : decode cX2_undoStep 7 = .ok (.iconst 0, 1) := dq_3 (by decide +kernel)
theorem dX2_undoStep_8 : decode cX2_undoStep 8 = .ok (.ireturn, 1) := dq_172 (by decide +kernel)
theorem dX11_undo_7 : decode cX11_undo 7 = .ok (.ireturn, 1) := dq_172 (by decide +kernel)
theorem dX11_redo_0 : decode cX11_redo 0 = .ok (.aload_n 0, 1) := dq_42 (by decide +kernel)
theorem dX11_redo_1 : decode cX11_redo 1 = .ok (.getfield 76, 3) := dq_180 (a := 0) (b := 76) (by decide +kernel) rfl
theorem dX11_redo_4 : decode cX11_redo 4 = .ok (.invokevirtual 302, 3) := dq_182 (a := 1) (b := 46) (by decide +kernel) rfl
theorem dX2_redoStep_0 : decode cX2_redoStep 0 = .ok (.aload_n 0, 1) := dq_42 (by decide +kernel)
theorem dX2_redoStep_1 : decode cX2_redoStep 1 = .ok (.getfield 36, 3) := dq_180 (a := 0) (b := 36) (by decide +kernel) rfl
theorem dX2_redoStep_4 : decode cX2_redoStep 4 = .ok (.ifCond .ne 5, 3) := dq_154 (a := 0) (b := 5) (by decide +kernel) (by decide +kernel)
theorem dX2_redoStep_9 : decode cX2_redoStep 9 = .ok (.aload_n 0, 1) := dq_42 (by decide +kernel)
theorem dX2_redoStep_10 : decode cX2_redoStep 10 = .ok (.aload_n 0, 1) := dq_42 (by decide +kernel)
theorem dX2_redoStep_11 : decode cX2_redoStep 11 = .ok (.getfield 33, 3) := dq_180 (a := 0) (b := 33) (by decide +kernel) rfl
theorem dX2_redoStep_14 : decode cX2_redoStep 14 = .ok (.invokevirtual 56, 3) := dq_182 (a := 0) (b := 56) (by decide +kernel) rfl
theorem dX2_redoStep_17 : decode cX2_redoStep 17 = .ok (.istore_n 1, 1) := dq_60 (by decide +kernel)
theorem dX2_redoStep_18 : decode cX2_redoStep 18 = .ok (.aload_n 0, 1) := dq_42 (by decide +kernel)
theorem dX2_redoStep_19 : decode cX2_redoStep 19 = .ok (.aload_n 0, 1) := dq_42 (by decide +kernel)
theorem dX2_redoStep_20 : decode cX2_redoStep 20 = .ok (.getfield 22, 3) := dq_180 (a := 0) (b := 22) (by decide +kernel) rfl
theorem dX2_redoStep_23 : decode cX2_redoStep 23 = .ok (.iload_n 1, 1) := dq_27 (by decide +kernel)
theorem dX2_redoStep_24 : decode cX2_redoStep 24 = .ok (.iaload, 1) := dq_46 (by decide +kernel)
theorem dX2_redoStep_25 : decode cX2_redoStep 25 = .ok (.aload_n 0, 1) := dq_42 (by decide +kernel)
theorem dX2_redoStep_26 : decode cX2_redoStep 26 = .ok (.getfield 22, 3) := dq_180 (a := 0) (b := 22) (by decide +kernel) rfl
theorem dX2_redoStep_29 : decode cX2_redoStep 29 = .ok (.iload_n 1, 1) := dq_27 (by decide +kernel)
theorem dX2_redoStep_30 : decode cX2_redoStep 30 = .ok (.iconst 1, 1) := dq_4 (by decide +kernel)
theorem dX2_redoStep_31 : decode cX2_redoStep 31 = .ok (.iadd, 1) := dq_96 (by decide +kernel)
theorem dX2_redoStep_32 : decode cX2_redoStep 32 = .ok (.iaload, 1) := dq_46 (by decide +kernel)
theorem dX2_redoStep_33 : decode cX2_redoStep 33 = .ok (.aload_n 0, 1) := dq_42 (by decide +kernel)
theorem dX2_redoStep_34 : decode cX2_redoStep 34 = .ok (.getfield 22, 3) := dq_180 (a := 0) (b := 22) (by decide +kernel) rfl
theorem dX2_redoStep_37 : decode cX2_redoStep 37 = .ok (.iload_n 1, 1) := dq_27 (by decide +kernel)
theorem dX2_redoStep_38 : decode cX2_redoStep 38 = .ok (.iconst 2, 1) := dq_5 (by decide +kernel)
theorem dX2_redoStep_39 : decode cX2_redoStep 39 = .ok (.iadd, 1) := dq_96 (by decide +kernel)
theorem dX2_redoStep_40 : decode cX2_redoStep 40 = .ok (.iaload, 1) := dq_46 (by decide +kernel)
theorem dX2_redoStep_41 : decode cX2_redoStep 41 = .ok (.invokevirtual 72, 3) := dq_182 (a := 0) (b := 72) (by decide +kernel) rfl
theorem dX2_redoStep_44 : decode cX2_redoStep 44 = .ok (.aload_n 0, 1) := dq_42 (by decide +kernel)
theorem dX2_redoStep_45 : decode cX2_redoStep 45 = .ok (.dup, 1) := dq_89 (by decide +kernel)
theorem dX2_redoStep_46 : decode cX2_redoStep 46 = .ok (.getfield 33, 3) := dq_180 (a := 0) (b := 33) (by decide +kernel) rfl
theorem dX2_redoStep_49 : decode cX2_redoStep 49 = .ok (.iconst 1, 1) := dq_4 (by decide +kernel)
theorem dX2_redoStep_50 : decode cX2_redoStep 50 = .ok (.iadd, 1) := dq_96 (by decide +kernel)
theorem dX2_redoStep_51 : decode cX2_redoStep 51 = .ok (.putfield 33, 3) := dq_181 (a := 0) (b := 33) (by decide +kernel) rfl
theorem dX2_redoStep_54 : decode cX2_redoStep 54 = .ok (.aload_n 0, 1) := dq_42 (by decide +kernel)
theorem dX2_redoStep_55 : decode cX2_redoStep 55 = .ok (.dup, 1) := dq_89 (by decide +kernel)
theorem dX2_redoStep_56 : decode cX2_redoStep 56 = .ok (.getfield 36, 3) := dq_180 (a := 0) (b := 36) (by decide +kernel) rfl
theorem dX2_redoStep_59 : decode cX2_redoStep 59 = .ok (.iconst 1, 1) := dq_4 (by decide +kernel)
theorem dX2_redoStep_60 : decode cX2_redoStep 60 = .ok (.isub, 1) := dq_100 (by decide +kernel)
theorem dX2_redoStep_61 : decode cX2_redoStep 61 = .ok (.putfield 36, 3) := dq_181 (a := 0) (b := 36) (by decide +kernel) rfl
theorem dX2_redoStep_64 : decode cX2_redoStep 64 = .ok (.aload_n 0, 1) := dq_42 (by decide +kernel)
theorem dX2_redoStep_65 : decode cX2_redoStep 65 = .ok (.dup, 1) := dq_89 (by decide +kernel)
theorem dX2_redoStep_66 : decode cX2_redoStep 66 = .ok (.getfield 39, 3) := dq_180 (a := 0) (b := 39) (by decide +kernel) rfl
theorem dX2_redoStep_69 : decode cX2_redoStep 69 = .ok (.iconst 1, 1) := dq_4 (by decide +kernel)
theorem dX2_redoStep_70 : decode cX2_redoStep 70 = .ok (.iadd, 1) := dq_96 (by decide +kernel)
theorem dX2_redoStep_71 : decode cX2_redoStep 71 = .ok (.putfield 39, 3) := dq_181 (a := 0) (b := 39) (by decide +kernel) rfl
theorem dX2_redoStep_74 : decode cX2_redoStep 74 = .ok (.iconst 1, 1) := dq_4 (by decide +kernel)
theorem dX2_redoStep_75 : decode cX2_redoStep 75 = .ok (.ireturn, 1) := dq_172 (by decide +kernel)
theorem dX2_redoStep_7 : decode cX2_redoStep 7 = .ok (.iconst 0, 1) := dq_3 (by decide +kernel)
theorem dX2_redoStep_8 : decode cX2_redoStep 8 = .ok (.ireturn, 1) := dq_172 (by decide +kernel)
theorem dX11_redo_7 : decode cX11_redo 7 = .ok (.ireturn, 1) := dq_172 (by decide +kernel)
theorem dX11_on_0 : decode cX11_on 0 = .ok (.aload_n 0, 1) := dq_42 (by decide +kernel)
theorem dX11_on_1 : decode cX11_on 1 = .ok (.invokevirtual 407, 3) := dq_182 (a := 1) (b := 151) (by decide +kernel) rfl
theorem dX11_on_4 : decode cX11_on 4 = .ok (.istore_n 1, 1) := dq_60 (by decide +kernel)
theorem dX11_on_5 : decode cX11_on 5 = .ok (.iload_n 1, 1) := dq_27 (by decide +kernel)
theorem dX11_on_6 : decode cX11_on 6 = .ok (.ifCond .eq 49, 3) := dq_153 (a := 0) (b := 49) (by decide +kernel) (by decide +kernel)
theorem dX11_on_55 : decode cX11_on 55 = .ok (.iload_n 1, 1) := dq_27 (by decide +kernel)
theorem dX11_on_56 : decode cX11_on 56 = .ok (.ifCond .eq 25, 3) := dq_153 (a := 0) (b := 25) (by decide +kernel) (by decide +kernel)
theorem dX11_on_81 : decode cX11_on 81 = .ok (.aload_n 0, 1) := dq_42 (by decide +kernel)
theorem dX11_on_82 : decode cX11_on 82 = .ok (.getfield 20, 3) := dq_180 (a := 0) (b := 20) (by decide +kernel) rfl
theorem dX11_on_85 : decode cX11_on 85 = .ok (.iconst 0, 1) := dq_3 (by decide +kernel)
theorem dX11_on_86 : decode cX11_on 86 = .ok (.invokevirtual 97, 3) := dq_182 (a := 0) (b := 97) (by decide +kernel) rfl
theorem dX11_on_89 : decode cX11_on 89 = .ok (.iload_n 1, 1) := dq_27 (by decide +kernel)
theorem dX11_on_90 : decode cX11_on 90 = .ok (.ireturn, 1) := dq_172 (by decide +kernel)
theorem dX11_on_9 : decode cX11_on 9 = .ok (.aload_n 0, 1) := dq_42 (by decide +kernel)
theorem dX11_on_10 : decode cX11_on 10 = .ok (.getfield 20, 3) := dq_180 (a := 0) (b := 20) (by decide +kernel) rfl
theorem dX11_on_13 : decode cX11_on 13 = .ok (.aload_n 0, 1) := dq_42 (by decide +kernel)
theorem dX11_on_14 : decode cX11_on 14 = .ok (.getfield 20, 3) := dq_180 (a := 0) (b := 20) (by decide +kernel) rfl
theorem dX11_on_17 : decode cX11_on 17 = .ok (.invokevirtual 93, 3) := dq_182 (a := 0) (b := 93) (by decide +kernel) rfl
theorem dX11_on_20 : decode cX11_on 20 = .ok (.iconst 2, 1) := dq_5 (by decide +kernel)
theorem dX11_on_21 : decode cX11_on 21 = .ok (.isub, 1) := dq_100 (by decide +kernel)
theorem dX11_on_22 : decode cX11_on 22 = .ok (.invokevirtual 410, 3) := dq_182 (a := 1) (b := 154) (by decide +kernel) rfl
theorem dX11_on_25 : decode cX11_on 25 = .ok (.istore_n 2, 1) := dq_61 (by decide +kernel)
theorem dX11_on_26 : decode cX11_on 26 = .ok (.aload_n 0, 1) := dq_42 (by decide +kernel)
theorem dX11_on_27 : decode cX11_on 27 = .ok (.getfield 80, 3) := dq_180 (a := 0) (b := 80) (by decide +kernel) rfl
theorem dX11_on_30 : decode cX11_on 30 = .ok (.aload_n 0, 1) := dq_42 (by decide +kernel)
theorem dX11_on_31 : decode cX11_on 31 = .ok (.getfield 69, 3) := dq_180 (a := 0) (b := 69) (by decide +kernel) rfl
theorem dX11_on_34 : decode cX11_on 34 = .ok (.invokevirtual 114, 3) := dq_182 (a := 0) (b := 114) (by decide +kernel) rfl
theorem dX11_on_37 : decode cX11_on 37 = .ok (.aload_n 0, 1) := dq_42 (by decide +kernel)
theorem dX11_on_38 : decode cX11_on 38 = .ok (.getfield 80, 3) := dq_180 (a := 0) (b := 80) (by decide +kernel) rfl
theorem dX11_on_41 : decode cX11_on 41 = .ok (.iload_n 2, 1) := dq_28 (by decide +kernel)
theorem dX11_on_42 : decode cX11_on 42 = .ok (.invokevirtual 296, 3) := dq_182 (a := 1) (b := 40) (by decide +kernel) rfl
theorem dX11_on_45 : decode cX11_on 45 = .ok (.iload_n 2, 1) := dq_28 (by decide +kernel)
theorem dX11_on_46 : decode cX11_on 46 = .ok (.if_icmp .ne 7, 3) := dq_160 (a := 0) (b := 7) (by decide +kernel) (by decide +kernel)
theorem dX11_on_53 : decode cX11_on 53 = .ok (.iconst 0, 1) := dq_3 (by decide +kernel)
theorem dX11_on_54 : decode cX11_on 54 = .ok (.istore_n 1, 1) := dq_60 (by decide +kernel)
theorem dX11_on_49 : decode cX11_on 49 = .ok (.iconst 1, 1) := dq_4 (by decide +kernel)
theorem dX11_on_50 : decode cX11_on 50 = .ok (.goto 4, 3) := dq_167 (a := 0) (b := 4) (by decide +kernel) (by decide +kernel)
theorem dX11_on_59 : decode cX11_on 59 = .ok (.aload_n 0, 1) := dq_42 (by decide +kernel)
theorem dX11_on_60 : decode cX11_on 60 = .ok (.invokevirtual 194, 3) := dq_182 (a := 0) (b := 194) (by decide +kernel) rfl
theorem dX11_on_63 : decode cX11_on 63 = .ok (.aload_n 0, 1) := dq_42 (by decide +kernel)
theorem dX11_on_64 : decode cX11_on 64 = .ok (.getfield 76, 3) := dq_180 (a := 0) (b := 76) (by decide +kernel) rfl
theorem dX11_on_67 : decode cX11_on 67 = .ok (.astore_n 2, 1) := dq_77 (by decide +kernel)
theorem dX11_on_68 : decode cX11_on 68 = .ok (.aload_n 0, 1) := dq_42 (by decide +kernel)
theorem dX11_on_69 : decode cX11_on 69 = .ok (.aload_n 0, 1) := dq_42 (by decide +kernel)
theorem dX11_on_70 : decode cX11_on 70 = .ok (.getfield 80, 3) := dq_180 (a := 0) (b := 80) (by decide +kernel) rfl
theorem dX11_on_73 : decode cX11_on 73 = .ok (.putfield 76, 3) := dq_181 (a := 0) (b := 76) (by decide +kernel) rfl
theorem dX11_on_76 : decode cX11_on 76 = .ok (.aload_n 0, 1) := dq_42 (by decide +kernel)
theorem dX11_on_77 : decode cX11_on 77 = .ok (.aload_n 2, 1) := dq_44 (by decide +kernel)
theorem dX11_on_78 : decode cX11_on 78 = .ok (.putfield 80, 3) := dq_181 (a := 0) (b := 80) (by decide +kernel) rfl
