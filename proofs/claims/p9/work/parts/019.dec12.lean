theorem dX12_leadsAnew_39 : decode cX12_leadsAnew 39 = .ok (.iload_n 1, 1) := by decide +kernel
theorem dX12_leadsAnew_40 : decode cX12_leadsAnew 40 = .ok (.iconst 5, 1) := by decide +kernel
theorem dX12_leadsAnew_41 : decode cX12_leadsAnew 41 = .ok (.irem, 1) := by decide +kernel
theorem dX12_leadsAnew_42 : decode cX12_leadsAnew 42 = .ok (.iload_n 1, 1) := by decide +kernel
theorem dX12_leadsAnew_43 : decode cX12_leadsAnew 43 = .ok (.iconst 5, 1) := by decide +kernel
theorem dX12_leadsAnew_44 : decode cX12_leadsAnew 44 = .ok (.idiv, 1) := by decide +kernel
theorem dX12_leadsAnew_45 : decode cX12_leadsAnew 45 = .ok (.if_icmp .ne 7, 3) := by decide +kernel
theorem dX12_leadsAnew_48 : decode cX12_leadsAnew 48 = .ok (.lconst 1, 1) := by decide +kernel
theorem dX12_leadsAnew_49 : decode cX12_leadsAnew 49 = .ok (.goto 4, 3) := by decide +kernel
theorem dX12_leadsAnew_53 : decode cX12_leadsAnew 53 = .ok (.lastore, 1) := by decide +kernel
theorem dX12_leadsAnew_54 : decode cX12_leadsAnew 54 = .ok (.iinc 1 1, 3) := by decide +kernel
theorem dX12_leadsAnew_57 : decode cX12_leadsAnew 57 = .ok (.goto (-29), 3) := by decide +kernel
theorem dX12_leadsAnew_60 : decode cX12_leadsAnew 60 = .ok (.aload_n 0, 1) := by decide +kernel
theorem dX12_leadsAnew_61 : decode cX12_leadsAnew 61 = .ok (.iconst 0, 1) := by decide +kernel
theorem dX12_leadsAnew_62 : decode cX12_leadsAnew 62 = .ok (.putfield 349, 3) := by decide +kernel
theorem dX12_leadsAnew_65 : decode cX12_leadsAnew 65 = .ok (.aload_n 0, 1) := by decide +kernel
theorem dX12_leadsAnew_66 : decode cX12_leadsAnew 66 = .ok (.iconst 0, 1) := by decide +kernel
theorem dX12_leadsAnew_67 : decode cX12_leadsAnew 67 = .ok (.putfield 352, 3) := by decide +kernel
theorem dX12_leadsAnew_70 : decode cX12_leadsAnew 70 = .ok (.aload_n 0, 1) := by decide +kernel
theorem dX12_leadsAnew_71 : decode cX12_leadsAnew 71 = .ok (.iconst 0, 1) := by decide +kernel
theorem dX12_leadsAnew_72 : decode cX12_leadsAnew 72 = .ok (.putfield 355, 3) := by decide +kernel
theorem dX12_leadsAnew_75 : decode cX12_leadsAnew 75 = .ok (.return_, 1) := by decide +kernel
theorem dX12_leadsAnew_52 : decode cX12_leadsAnew 52 = .ok (.lconst 0, 1) := by decide +kernel
theorem dX12_stands_246 : decode cX12_stands 246 = .ok (.aload_n 0, 1) := by decide +kernel
theorem dX12_stands_247 : decode cX12_stands 247 = .ok (.iconst 0, 1) := by decide +kernel
theorem dX12_stands_248 : decode cX12_stands 248 = .ok (.putfield 252, 3) := by decide +kernel
theorem dX12_stands_251 : decode cX12_stands 251 = .ok (.return_, 1) := by decide +kernel
theorem dX12_stands_199 : decode cX12_stands 199 = .ok (.aload_n 0, 1) := by decide +kernel
theorem dX12_stands_200 : decode cX12_stands 200 = .ok (.getfield 75, 3) := by decide +kernel
theorem dX12_stands_203 : decode cX12_stands 203 = .ok (.iload_n 1, 1) := by decide +kernel
theorem dX12_stands_204 : decode cX12_stands 204 = .ok (.aload_n 0, 1) := by decide +kernel
theorem dX12_stands_205 : decode cX12_stands 205 = .ok (.getfield 75, 3) := by decide +kernel
theorem dX12_stands_208 : decode cX12_stands 208 = .ok (.sipush 1600, 3) := by decide +kernel
theorem dX12_stands_211 : decode cX12_stands 211 = .ok (.iload_n 1, 1) := by decide +kernel
theorem dX12_stands_212 : decode cX12_stands 212 = .ok (.iadd, 1) := by decide +kernel
theorem dX12_stands_213 : decode cX12_stands 213 = .ok (.iaload, 1) := by decide +kernel
theorem dX12_stands_214 : decode cX12_stands 214 = .ok (.iastore, 1) := by decide +kernel
theorem dX12_stands_215 : decode cX12_stands 215 = .ok (.iinc 1 1, 3) := by decide +kernel
theorem dX12_stands_218 : decode cX12_stands 218 = .ok (.goto (-27), 3) := by decide +kernel
theorem dX12_house_200 : decode cX12_house 200 = .ok (.aload_n 0, 1) := by decide +kernel
theorem dX12_house_201 : decode cX12_house 201 = .ok (.getfield 202, 3) := by decide +kernel
theorem dX12_house_204 : decode cX12_house 204 = .ok (.ireturn, 1) := by decide +kernel
theorem dX12_house_194 : decode cX12_house 194 = .ok (.iconst (-1), 1) := by decide +kernel
theorem dX12_house_195 : decode cX12_house 195 = .ok (.ireturn, 1) := by decide +kernel
theorem dX12_house_156 : decode cX12_house 156 = .ok (.aload_n 0, 1) := by decide +kernel
theorem dX12_house_157 : decode cX12_house 157 = .ok (.invokevirtual 163, 3) := by decide +kernel
theorem dX12_house_160 : decode cX12_house 160 = .ok (.iconst (-1), 1) := by decide +kernel
theorem dX12_house_161 : decode cX12_house 161 = .ok (.if_icmp .eq 10, 3) := by decide +kernel
theorem dX12_house_164 : decode cX12_house 164 = .ok (.aload_n 0, 1) := by decide +kernel
theorem dX12_house_165 : decode cX12_house 165 = .ok (.invokevirtual 225, 3) := by decide +kernel
theorem dX12_houseTold_0 : decode cX12_houseTold 0 = .ok (.aload_n 0, 1) := by decide +kernel
theorem dX12_houseTold_1 : decode cX12_houseTold 1 = .ok (.getfield 157, 3) := by decide +kernel
theorem dX12_houseTold_4 : decode cX12_houseTold 4 = .ok (.istore_n 1, 1) := by decide +kernel
theorem dX12_houseTold_5 : decode cX12_houseTold 5 = .ok (.aload_n 0, 1) := by decide +kernel
theorem dX12_houseTold_6 : decode cX12_houseTold 6 = .ok (.getfield 202, 3) := by decide +kernel
theorem dX12_houseTold_9 : decode cX12_houseTold 9 = .ok (.bipush 60, 2) := by decide +kernel
theorem dX12_houseTold_11 : decode cX12_houseTold 11 = .ok (.if_icmp .ne 10, 3) := by decide +kernel
theorem dX12_houseTold_21 : decode cX12_houseTold 21 = .ok (.aload_n 0, 1) := by decide +kernel
theorem dX12_houseTold_22 : decode cX12_houseTold 22 = .ok (.aload_n 0, 1) := by decide +kernel
theorem dX12_houseTold_23 : decode cX12_houseTold 23 = .ok (.getfield 21, 3) := by decide +kernel
theorem dX12_houseTold_26 : decode cX12_houseTold 26 = .ok (.invokevirtual 178, 3) := by decide +kernel
theorem dX12_houseTold_29 : decode cX12_houseTold 29 = .ok (.ifCond .eq 11, 3) := by decide +kernel
theorem dX12_houseTold_40 : decode cX12_houseTold 40 = .ok (.aload_n 0, 1) := by decide +kernel
theorem dX12_houseTold_41 : decode cX12_houseTold 41 = .ok (.aload_n 0, 1) := by decide +kernel
theorem dX12_houseTold_42 : decode cX12_houseTold 42 = .ok (.getfield 24, 3) := by decide +kernel
theorem dX12_houseTold_45 : decode cX12_houseTold 45 = .ok (.invokevirtual 178, 3) := by decide +kernel
theorem dX12_houseTold_48 : decode cX12_houseTold 48 = .ok (.ifCond .eq 11, 3) := by decide +kernel
theorem dX12_houseTold_59 : decode cX12_houseTold 59 = .ok (.aload_n 0, 1) := by decide +kernel
theorem dX12_houseTold_60 : decode cX12_houseTold 60 = .ok (.aload_n 0, 1) := by decide +kernel
theorem dX12_houseTold_61 : decode cX12_houseTold 61 = .ok (.getfield 30, 3) := by decide +kernel
theorem dX12_houseTold_64 : decode cX12_houseTold 64 = .ok (.invokevirtual 178, 3) := by decide +kernel
theorem dX12_houseTold_67 : decode cX12_houseTold 67 = .ok (.ifCond .eq 20, 3) := by decide +kernel
theorem dX12_houseTold_87 : decode cX12_houseTold 87 = .ok (.aload_n 0, 1) := by decide +kernel
theorem dX12_houseTold_88 : decode cX12_houseTold 88 = .ok (.aload_n 0, 1) := by decide +kernel
theorem dX12_houseTold_89 : decode cX12_houseTold 89 = .ok (.getfield 27, 3) := by decide +kernel
theorem dX12_houseTold_92 : decode cX12_houseTold 92 = .ok (.invokevirtual 212, 3) := by decide +kernel
theorem dX12_houseTold_95 : decode cX12_houseTold 95 = .ok (.aload_n 0, 1) := by decide +kernel
theorem dX12_houseTold_96 : decode cX12_houseTold 96 = .ok (.getfield 151, 3) := by decide +kernel
theorem dX12_houseTold_99 : decode cX12_houseTold 99 = .ok (.ifCond .ne 8, 3) := by decide +kernel
theorem dX12_houseTold_107 : decode cX12_houseTold 107 = .ok (.aload_n 0, 1) := by decide +kernel
theorem dX12_houseTold_108 : decode cX12_houseTold 108 = .ok (.bipush 59, 2) := by decide +kernel
theorem dX12_houseTold_110 : decode cX12_houseTold 110 = .ok (.invokevirtual 219, 3) := by decide +kernel
theorem dX12_houseTold_113 : decode cX12_houseTold 113 = .ok (.aload_n 0, 1) := by decide +kernel
theorem dX12_houseTold_114 : decode cX12_houseTold 114 = .ok (.dup, 1) := by decide +kernel
theorem dX12_houseTold_115 : decode cX12_houseTold 115 = .ok (.getfield 202, 3) := by decide +kernel
theorem dX12_houseTold_118 : decode cX12_houseTold 118 = .ok (.iconst 1, 1) := by decide +kernel
theorem dX12_houseTold_119 : decode cX12_houseTold 119 = .ok (.iadd, 1) := by decide +kernel
theorem dX12_houseTold_120 : decode cX12_houseTold 120 = .ok (.putfield 202, 3) := by decide +kernel
theorem dX12_houseTold_123 : decode cX12_houseTold 123 = .ok (.return_, 1) := by decide +kernel
theorem dX12_houseTold_102 : decode cX12_houseTold 102 = .ok (.aload_n 0, 1) := by decide +kernel
theorem dX12_houseTold_103 : decode cX12_houseTold 103 = .ok (.iload_n 1, 1) := by decide +kernel
theorem dX12_houseTold_104 : decode cX12_houseTold 104 = .ok (.invokevirtual 216, 3) := by decide +kernel
theorem dX12_worthTold_0 : decode cX12_worthTold 0 = .ok (.aload_n 0, 1) := by decide +kernel
theorem dX12_worthTold_1 : decode cX12_worthTold 1 = .ok (.getfield 151, 3) := by decide +kernel
theorem dX12_worthTold_4 : decode cX12_worthTold 4 = .ok (.ifCond .ne 20, 3) := by decide +kernel
theorem dX12_worthTold_24 : decode cX12_worthTold 24 = .ok (.aload_n 0, 1) := by decide +kernel
theorem dX12_worthTold_25 : decode cX12_worthTold 25 = .ok (.getfield 151, 3) := by decide +kernel
theorem dX12_worthTold_28 : decode cX12_worthTold 28 = .ok (.ifCond .eq 4, 3) := by decide +kernel
theorem dX12_worthTold_32 : decode cX12_worthTold 32 = .ok (.bipush 8, 2) := by decide +kernel
theorem dX12_worthTold_34 : decode cX12_worthTold 34 = .ok (.aload_n 0, 1) := by decide +kernel
theorem dX12_worthTold_35 : decode cX12_worthTold 35 = .ok (.getfield 81, 3) := by decide +kernel
theorem dX12_worthTold_38 : decode cX12_worthTold 38 = .ok (.iconst 1, 1) := by decide +kernel
theorem dX12_worthTold_39 : decode cX12_worthTold 39 = .ok (.iaload, 1) := by decide +kernel
theorem dX12_worthTold_40 : decode cX12_worthTold 40 = .ok (.iadd, 1) := by decide +kernel
theorem dX12_worthTold_41 : decode cX12_worthTold 41 = .ok (.istore_n 2, 1) := by decide +kernel
theorem dX12_worthTold_42 : decode cX12_worthTold 42 = .ok (.aload_n 0, 1) := by decide +kernel
theorem dX12_worthTold_43 : decode cX12_worthTold 43 = .ok (.getfield 84, 3) := by decide +kernel
theorem dX12_worthTold_46 : decode cX12_worthTold 46 = .ok (.iload_n 2, 1) := by decide +kernel
theorem dX12_worthTold_47 : decode cX12_worthTold 47 = .ok (.aload_n 0, 1) := by decide +kernel
theorem dX12_worthTold_48 : decode cX12_worthTold 48 = .ok (.getfield 222, 3) := by decide +kernel
theorem dX12_worthTold_51 : decode cX12_worthTold 51 = .ok (.iastore, 1) := by decide +kernel
theorem dX12_worthTold_52 : decode cX12_worthTold 52 = .ok (.aload_n 0, 1) := by decide +kernel
theorem dX12_worthTold_53 : decode cX12_worthTold 53 = .ok (.iconst 0, 1) := by decide +kernel
theorem dX12_worthTold_54 : decode cX12_worthTold 54 = .ok (.putfield 259, 3) := by decide +kernel
theorem dX12_worthTold_57 : decode cX12_worthTold 57 = .ok (.aload_n 0, 1) := by decide +kernel
theorem dX12_worthTold_58 : decode cX12_worthTold 58 = .ok (.iconst 0, 1) := by decide +kernel
theorem dX12_worthTold_59 : decode cX12_worthTold 59 = .ok (.putfield 256, 3) := by decide +kernel
theorem dX12_worthTold_62 : decode cX12_worthTold 62 = .ok (.aload_n 0, 1) := by decide +kernel
theorem dX12_worthTold_63 : decode cX12_worthTold 63 = .ok (.iconst 0, 1) := by decide +kernel
theorem dX12_worthTold_64 : decode cX12_worthTold 64 = .ok (.putfield 265, 3) := by decide +kernel
theorem dX12_worthTold_67 : decode cX12_worthTold 67 = .ok (.aload_n 0, 1) := by decide +kernel
theorem dX12_worthTold_68 : decode cX12_worthTold 68 = .ok (.invokevirtual 293, 3) := by decide +kernel
theorem dX12_sumsTold_0 : decode cX12_sumsTold 0 = .ok (.aload_n 0, 1) := by decide +kernel
theorem dX12_sumsTold_1 : decode cX12_sumsTold 1 = .ok (.getfield 265, 3) := by decide +kernel
theorem dX12_sumsTold_4 : decode cX12_sumsTold 4 = .ok (.istore_n 1, 1) := by decide +kernel
theorem dX12_sumsTold_5 : decode cX12_sumsTold 5 = .ok (.aload_n 0, 1) := by decide +kernel
theorem dX12_sumsTold_6 : decode cX12_sumsTold 6 = .ok (.aload_n 0, 1) := by decide +kernel
theorem dX12_sumsTold_7 : decode cX12_sumsTold 7 = .ok (.getfield 259, 3) := by decide +kernel
theorem dX12_sumsTold_10 : decode cX12_sumsTold 10 = .ok (.putfield 265, 3) := by decide +kernel
theorem dX12_sumsTold_13 : decode cX12_sumsTold 13 = .ok (.iconst 1, 1) := by decide +kernel
theorem dX12_sumsTold_14 : decode cX12_sumsTold 14 = .ok (.istore_n 2, 1) := by decide +kernel
theorem dX12_sumsTold_15 : decode cX12_sumsTold 15 = .ok (.iload_n 2, 1) := by decide +kernel
theorem dX12_sumsTold_16 : decode cX12_sumsTold 16 = .ok (.ifCond .eq 37, 3) := by decide +kernel
theorem dX12_sumsTold_19 : decode cX12_sumsTold 19 = .ok (.aload_n 0, 1) := by decide +kernel
theorem dX12_sumsTold_20 : decode cX12_sumsTold 20 = .ok (.getfield 151, 3) := by decide +kernel
theorem dX12_sumsTold_23 : decode cX12_sumsTold 23 = .ok (.ifCond .ne 30, 3) := by decide +kernel
theorem dX12_sumsTold_53 : decode cX12_sumsTold 53 = .ok (.aload_n 0, 1) := by decide +kernel
theorem dX12_sumsTold_54 : decode cX12_sumsTold 54 = .ok (.getfield 151, 3) := by decide +kernel
theorem dX12_sumsTold_57 : decode cX12_sumsTold 57 = .ok (.ifCond .ne 21, 3) := by decide +kernel
theorem dX12_sumsTold_78 : decode cX12_sumsTold 78 = .ok (.aload_n 0, 1) := by decide +kernel
theorem dX12_sumsTold_79 : decode cX12_sumsTold 79 = .ok (.iload_n 1, 1) := by decide +kernel
theorem dX12_sumsTold_80 : decode cX12_sumsTold 80 = .ok (.putfield 265, 3) := by decide +kernel
theorem dX12_sumsTold_83 : decode cX12_sumsTold 83 = .ok (.return_, 1) := by decide +kernel
theorem dX12_sumsTold_60 : decode cX12_sumsTold 60 = .ok (.aload_n 0, 1) := by decide +kernel
theorem dX12_sumsTold_61 : decode cX12_sumsTold 61 = .ok (.getfield 259, 3) := by decide +kernel
theorem dX12_sumsTold_64 : decode cX12_sumsTold 64 = .ok (.aload_n 0, 1) := by decide +kernel
theorem dX12_sumsTold_65 : decode cX12_sumsTold 65 = .ok (.getfield 265, 3) := by decide +kernel
theorem dX12_sumsTold_68 : decode cX12_sumsTold 68 = .ok (.if_icmp .le 10, 3) := by decide +kernel
theorem dX12_sumsTold_26 : decode cX12_sumsTold 26 = .ok (.aload_n 0, 1) := by decide +kernel
theorem dX12_sumsTold_27 : decode cX12_sumsTold 27 = .ok (.invokevirtual 286, 3) := by decide +kernel
theorem dX12_onePart_0 : decode cX12_onePart 0 = .ok (.iconst 1, 1) := by decide +kernel
theorem dX12_onePart_1 : decode cX12_onePart 1 = .ok (.istore_n 1, 1) := by decide +kernel
theorem dX12_onePart_2 : decode cX12_onePart 2 = .ok (.iload_n 1, 1) := by decide +kernel
theorem dX12_onePart_3 : decode cX12_onePart 3 = .ok (.ifCond .eq 143, 3) := by decide +kernel
theorem dX12_onePart_6 : decode cX12_onePart 6 = .ok (.aload_n 0, 1) := by decide +kernel
theorem dX12_onePart_7 : decode cX12_onePart 7 = .ok (.getfield 151, 3) := by decide +kernel
theorem dX12_onePart_10 : decode cX12_onePart 10 = .ok (.ifCond .ne 136, 3) := by decide +kernel
theorem dX12_onePart_146 : decode cX12_onePart 146 = .ok (.aload_n 0, 1) := by decide +kernel
theorem dX12_onePart_147 : decode cX12_onePart 147 = .ok (.getfield 151, 3) := by decide +kernel
theorem dX12_onePart_150 : decode cX12_onePart 150 = .ok (.ifCond .eq 4, 3) := by decide +kernel
theorem dX12_onePart_154 : decode cX12_onePart 154 = .ok (.aload_n 0, 1) := by decide +kernel
theorem dX12_onePart_155 : decode cX12_onePart 155 = .ok (.aload_n 0, 1) := by decide +kernel
theorem dX12_onePart_156 : decode cX12_onePart 156 = .ok (.getfield 48, 3) := by decide +kernel
theorem dX12_onePart_159 : decode cX12_onePart 159 = .ok (.invokevirtual 178, 3) := by decide +kernel
theorem dX12_onePart_162 : decode cX12_onePart 162 = .ok (.ifCond .eq 8, 3) := by decide +kernel
theorem dX12_onePart_170 : decode cX12_onePart 170 = .ok (.aload_n 0, 1) := by decide +kernel
theorem dX12_onePart_171 : decode cX12_onePart 171 = .ok (.aload_n 0, 1) := by decide +kernel
theorem dX12_onePart_172 : decode cX12_onePart 172 = .ok (.getfield 51, 3) := by decide +kernel
theorem dX12_onePart_175 : decode cX12_onePart 175 = .ok (.invokevirtual 178, 3) := by decide +kernel
theorem dX12_onePart_178 : decode cX12_onePart 178 = .ok (.ifCond .eq 8, 3) := by decide +kernel
theorem dX12_onePart_186 : decode cX12_onePart 186 = .ok (.aload_n 0, 1) := by decide +kernel
theorem dX12_onePart_187 : decode cX12_onePart 187 = .ok (.aload_n 0, 1) := by decide +kernel
theorem dX12_onePart_188 : decode cX12_onePart 188 = .ok (.getfield 54, 3) := by decide +kernel
theorem dX12_onePart_191 : decode cX12_onePart 191 = .ok (.invokevirtual 178, 3) := by decide +kernel
theorem dX12_onePart_194 : decode cX12_onePart 194 = .ok (.ifCond .eq 8, 3) := by decide +kernel
theorem dX12_onePart_202 : decode cX12_onePart 202 = .ok (.iconst (-1), 1) := by decide +kernel
theorem dX12_onePart_203 : decode cX12_onePart 203 = .ok (.istore_n 2, 1) := by decide +kernel
theorem dX12_onePart_204 : decode cX12_onePart 204 = .ok (.aload_n 0, 1) := by decide +kernel
theorem dX12_onePart_205 : decode cX12_onePart 205 = .ok (.iload_n 2, 1) := by decide +kernel
theorem dX12_onePart_206 : decode cX12_onePart 206 = .ok (.iconst (-1), 1) := by decide +kernel
theorem dX12_onePart_207 : decode cX12_onePart 207 = .ok (.if_icmp .eq 7, 3) := by decide +kernel
theorem dX12_onePart_214 : decode cX12_onePart 214 = .ok (.sipush 1000, 3) := by decide +kernel
theorem dX12_onePart_217 : decode cX12_onePart 217 = .ok (.aload_n 0, 1) := by decide +kernel
theorem dX12_onePart_218 : decode cX12_onePart 218 = .ok (.iconst 0, 1) := by decide +kernel
theorem dX12_onePart_219 : decode cX12_onePart 219 = .ok (.sipush 9999, 3) := by decide +kernel
theorem dX12_onePart_222 : decode cX12_onePart 222 = .ok (.invokevirtual 195, 3) := by decide +kernel
theorem dX12_onePart_225 : decode cX12_onePart 225 = .ok (.iadd, 1) := by decide +kernel
theorem dX12_onePart_226 : decode cX12_onePart 226 = .ok (.invokevirtual 262, 3) := by decide +kernel
theorem dX12_lay_0 : decode cX12_lay 0 = .ok (.aload_n 0, 1) := by decide +kernel
theorem dX12_lay_1 : decode cX12_lay 1 = .ok (.getfield 75, 3) := by decide +kernel
theorem dX12_lay_4 : decode cX12_lay 4 = .ok (.sipush 1600, 3) := by decide +kernel
theorem dX12_lay_7 : decode cX12_lay 7 = .ok (.aload_n 0, 1) := by decide +kernel
theorem dX12_lay_8 : decode cX12_lay 8 = .ok (.getfield 222, 3) := by decide +kernel
theorem dX12_lay_11 : decode cX12_lay 11 = .ok (.iadd, 1) := by decide +kernel
theorem dX12_lay_12 : decode cX12_lay 12 = .ok (.iload_n 1, 1) := by decide +kernel
theorem dX12_lay_13 : decode cX12_lay 13 = .ok (.iastore, 1) := by decide +kernel
theorem dX12_lay_14 : decode cX12_lay 14 = .ok (.aload_n 0, 1) := by decide +kernel
theorem dX12_lay_15 : decode cX12_lay 15 = .ok (.dup, 1) := by decide +kernel
theorem dX12_lay_16 : decode cX12_lay 16 = .ok (.getfield 222, 3) := by decide +kernel
theorem dX12_lay_19 : decode cX12_lay 19 = .ok (.iconst 1, 1) := by decide +kernel
theorem dX12_lay_20 : decode cX12_lay 20 = .ok (.iadd, 1) := by decide +kernel
theorem dX12_lay_21 : decode cX12_lay 21 = .ok (.putfield 222, 3) := by decide +kernel
theorem dX12_lay_24 : decode cX12_lay 24 = .ok (.return_, 1) := by decide +kernel
theorem dX12_onePart_229 : decode cX12_onePart 229 = .ok (.return_, 1) := by decide +kernel
theorem dX12_onePart_197 : decode cX12_onePart 197 = .ok (.bipush 9, 2) := by decide +kernel
theorem dX12_onePart_199 : decode cX12_onePart 199 = .ok (.goto 4, 3) := by decide +kernel
theorem dX12_onePart_210 : decode cX12_onePart 210 = .ok (.iload_n 2, 1) := by decide +kernel
theorem dX12_onePart_211 : decode cX12_onePart 211 = .ok (.goto 15, 3) := by decide +kernel
theorem dX12_onePart_181 : decode cX12_onePart 181 = .ok (.bipush 8, 2) := by decide +kernel
theorem dX12_onePart_183 : decode cX12_onePart 183 = .ok (.goto 20, 3) := by decide +kernel
theorem dX12_onePart_165 : decode cX12_onePart 165 = .ok (.bipush 7, 2) := by decide +kernel
theorem dX12_onePart_167 : decode cX12_onePart 167 = .ok (.goto 36, 3) := by decide +kernel
theorem dX12_onePart_153 : decode cX12_onePart 153 = .ok (.return_, 1) := by decide +kernel
theorem dX12_onePart_13 : decode cX12_onePart 13 = .ok (.aload_n 0, 1) := by decide +kernel
theorem dX12_onePart_14 : decode cX12_onePart 14 = .ok (.invokevirtual 163, 3) := by decide +kernel
theorem dX12_onePart_17 : decode cX12_onePart 17 = .ok (.istore_n 2, 1) := by decide +kernel
theorem dX12_onePart_18 : decode cX12_onePart 18 = .ok (.iload_n 2, 1) := by decide +kernel
theorem dX12_onePart_19 : decode cX12_onePart 19 = .ok (.bipush 40, 2) := by decide +kernel
theorem dX12_onePart_21 : decode cX12_onePart 21 = .ok (.if_icmp .ne 26, 3) := by decide +kernel
theorem dX12_onePart_47 : decode cX12_onePart 47 = .ok (.aload_n 0, 1) := by decide +kernel
theorem dX12_onePart_48 : decode cX12_onePart 48 = .ok (.aload_n 0, 1) := by decide +kernel
theorem dX12_onePart_49 : decode cX12_onePart 49 = .ok (.getfield 57, 3) := by decide +kernel
theorem dX12_onePart_52 : decode cX12_onePart 52 = .ok (.invokevirtual 174, 3) := by decide +kernel
theorem dX12_onePart_55 : decode cX12_onePart 55 = .ok (.ifCond .ne 14, 3) := by decide +kernel
theorem dX12_onePart_69 : decode cX12_onePart 69 = .ok (.aload_n 0, 1) := by decide +kernel
theorem dX12_onePart_70 : decode cX12_onePart 70 = .ok (.aload_n 0, 1) := by decide +kernel
theorem dX12_onePart_71 : decode cX12_onePart 71 = .ok (.getfield 57, 3) := by decide +kernel
theorem dX12_onePart_74 : decode cX12_onePart 74 = .ok (.invokevirtual 178, 3) := by decide +kernel
theorem dX12_onePart_77 : decode cX12_onePart 77 = .ok (.istore_n 3, 1) := by decide +kernel
theorem dX12_onePart_78 : decode cX12_onePart 78 = .ok (.iload_n 3, 1) := by decide +kernel
theorem dX12_onePart_79 : decode cX12_onePart 79 = .ok (.ifCond .ne 11, 3) := by decide +kernel
theorem dX12_onePart_90 : decode cX12_onePart 90 = .ok (.aload_n 0, 1) := by decide +kernel
theorem dX12_onePart_91 : decode cX12_onePart 91 = .ok (.invokevirtual 163, 3) := by decide +kernel
theorem dX12_onePart_94 : decode cX12_onePart 94 = .ok (.bipush 40, 2) := by decide +kernel
theorem dX12_onePart_96 : decode cX12_onePart 96 = .ok (.if_icmp .ne 10, 3) := by decide +kernel
theorem dX12_onePart_106 : decode cX12_onePart 106 = .ok (.iconst (-1), 1) := by decide +kernel
theorem dX12_onePart_107 : decode cX12_onePart 107 = .ok (.istore 4, 2) := by decide +kernel
theorem dX12_onePart_109 : decode cX12_onePart 109 = .ok (.iload 4, 2) := by decide +kernel
theorem dX12_onePart_111 : decode cX12_onePart 111 = .ok (.iconst (-1), 1) := by decide +kernel
theorem dX12_onePart_112 : decode cX12_onePart 112 = .ok (.if_icmp .eq 20, 3) := by decide +kernel
theorem dX12_onePart_132 : decode cX12_onePart 132 = .ok (.aload_n 0, 1) := by decide +kernel
theorem dX12_onePart_133 : decode cX12_onePart 133 = .ok (.bipush 40, 2) := by decide +kernel
theorem dX12_onePart_135 : decode cX12_onePart 135 = .ok (.invokevirtual 219, 3) := by decide +kernel
theorem dX12_onePart_138 : decode cX12_onePart 138 = .ok (.goto 5, 3) := by decide +kernel
theorem dX12_onePart_143 : decode cX12_onePart 143 = .ok (.goto (-141), 3) := by decide +kernel
theorem dX12_onePart_99 : decode cX12_onePart 99 = .ok (.aload_n 0, 1) := by decide +kernel
theorem dX12_onePart_100 : decode cX12_onePart 100 = .ok (.getfield 157, 3) := by decide +kernel
theorem dX12_onePart_103 : decode cX12_onePart 103 = .ok (.goto 4, 3) := by decide +kernel
theorem dX12_onePart_115 : decode cX12_onePart 115 = .ok (.aload_n 0, 1) := by decide +kernel
theorem dX12_onePart_116 : decode cX12_onePart 116 = .ok (.iload_n 3, 1) := by decide +kernel
theorem dX12_onePart_117 : decode cX12_onePart 117 = .ok (.ifCond .eq 8, 3) := by decide +kernel
theorem dX12_onePart_120 : decode cX12_onePart 120 = .ok (.bipush 21, 2) := by decide +kernel
theorem dX12_onePart_122 : decode cX12_onePart 122 = .ok (.goto 5, 3) := by decide +kernel
theorem dX12_onePart_127 : decode cX12_onePart 127 = .ok (.iload 4, 2) := by decide +kernel
theorem dX12_onePart_129 : decode cX12_onePart 129 = .ok (.invokevirtual 274, 3) := by decide +kernel
theorem dX12_opens_0 : decode cX12_opens 0 = .ok (.aload_n 0, 1) := by decide +kernel
theorem dX12_opens_1 : decode cX12_opens 1 = .ok (.getfield 256, 3) := by decide +kernel
theorem dX12_opens_4 : decode cX12_opens 4 = .ok (.bipush 6, 2) := by decide +kernel
theorem dX12_opens_6 : decode cX12_opens 6 = .ok (.if_icmp .ne 10, 3) := by decide +kernel
theorem dX12_opens_16 : decode cX12_opens 16 = .ok (.aload_n 0, 1) := by decide +kernel
theorem dX12_opens_17 : decode cX12_opens 17 = .ok (.dup, 1) := by decide +kernel
theorem dX12_opens_18 : decode cX12_opens 18 = .ok (.getfield 256, 3) := by decide +kernel
theorem dX12_opens_21 : decode cX12_opens 21 = .ok (.iconst 1, 1) := by decide +kernel
theorem dX12_opens_22 : decode cX12_opens 22 = .ok (.iadd, 1) := by decide +kernel
theorem dX12_opens_23 : decode cX12_opens 23 = .ok (.putfield 256, 3) := by decide +kernel
theorem dX12_opens_26 : decode cX12_opens 26 = .ok (.aload_n 0, 1) := by decide +kernel
theorem dX12_opens_27 : decode cX12_opens 27 = .ok (.getfield 78, 3) := by decide +kernel
theorem dX12_opens_30 : decode cX12_opens 30 = .ok (.aload_n 0, 1) := by decide +kernel
theorem dX12_opens_31 : decode cX12_opens 31 = .ok (.getfield 259, 3) := by decide +kernel
theorem dX12_opens_34 : decode cX12_opens 34 = .ok (.iload_n 1, 1) := by decide +kernel
theorem dX12_opens_35 : decode cX12_opens 35 = .ok (.iastore, 1) := by decide +kernel
theorem dX12_opens_36 : decode cX12_opens 36 = .ok (.aload_n 0, 1) := by decide +kernel
theorem dX12_opens_37 : decode cX12_opens 37 = .ok (.dup, 1) := by decide +kernel
theorem dX12_opens_38 : decode cX12_opens 38 = .ok (.getfield 259, 3) := by decide +kernel
theorem dX12_opens_41 : decode cX12_opens 41 = .ok (.iconst 1, 1) := by decide +kernel
theorem dX12_opens_42 : decode cX12_opens 42 = .ok (.iadd, 1) := by decide +kernel
theorem dX12_opens_43 : decode cX12_opens 43 = .ok (.putfield 259, 3) := by decide +kernel
theorem dX12_opens_46 : decode cX12_opens 46 = .ok (.return_, 1) := by decide +kernel
theorem dX12_opens_9 : decode cX12_opens 9 = .ok (.aload_n 0, 1) := by decide +kernel
theorem dX12_opens_10 : decode cX12_opens 10 = .ok (.iconst 3, 1) := by decide +kernel
theorem dX12_opens_11 : decode cX12_opens 11 = .ok (.iload_n 2, 1) := by decide +kernel
theorem dX12_opens_12 : decode cX12_opens 12 = .ok (.invokevirtual 181, 3) := by decide +kernel
theorem dX12_opens_15 : decode cX12_opens 15 = .ok (.return_, 1) := by decide +kernel
theorem dX12_onePart_82 : decode cX12_onePart 82 = .ok (.aload_n 0, 1) := by decide +kernel
theorem dX12_onePart_83 : decode cX12_onePart 83 = .ok (.aload_n 0, 1) := by decide +kernel
theorem dX12_onePart_84 : decode cX12_onePart 84 = .ok (.getfield 60, 3) := by decide +kernel
theorem dX12_onePart_87 : decode cX12_onePart 87 = .ok (.invokevirtual 212, 3) := by decide +kernel
theorem dX12_onePart_125 : decode cX12_onePart 125 = .ok (.bipush 22, 2) := by decide +kernel
theorem dX12_onePart_58 : decode cX12_onePart 58 = .ok (.aload_n 0, 1) := by decide +kernel
theorem dX12_onePart_59 : decode cX12_onePart 59 = .ok (.aload_n 0, 1) := by decide +kernel
theorem dX12_onePart_60 : decode cX12_onePart 60 = .ok (.getfield 60, 3) := by decide +kernel
theorem dX12_onePart_63 : decode cX12_onePart 63 = .ok (.invokevirtual 174, 3) := by decide +kernel
theorem dX12_onePart_66 : decode cX12_onePart 66 = .ok (.ifCond .eq 75, 3) := by decide +kernel
theorem dX12_onePart_141 : decode cX12_onePart 141 = .ok (.iconst 0, 1) := by decide +kernel
theorem dX12_onePart_142 : decode cX12_onePart 142 = .ok (.istore_n 1, 1) := by decide +kernel
theorem dX12_onePart_24 : decode cX12_onePart 24 = .ok (.aload_n 0, 1) := by decide +kernel
theorem dX12_onePart_25 : decode cX12_onePart 25 = .ok (.bipush 20, 2) := by decide +kernel
theorem dX12_onePart_27 : decode cX12_onePart 27 = .ok (.aload_n 0, 1) := by decide +kernel
theorem dX12_onePart_28 : decode cX12_onePart 28 = .ok (.getfield 157, 3) := by decide +kernel
theorem dX12_onePart_31 : decode cX12_onePart 31 = .ok (.invokevirtual 274, 3) := by decide +kernel
theorem dX12_onePart_34 : decode cX12_onePart 34 = .ok (.aload_n 0, 1) := by decide +kernel
theorem dX12_onePart_35 : decode cX12_onePart 35 = .ok (.dup, 1) := by decide +kernel
theorem dX12_onePart_36 : decode cX12_onePart 36 = .ok (.getfield 157, 3) := by decide +kernel
theorem dX12_onePart_39 : decode cX12_onePart 39 = .ok (.iconst 1, 1) := by decide +kernel
theorem dX12_onePart_40 : decode cX12_onePart 40 = .ok (.iadd, 1) := by decide +kernel
theorem dX12_onePart_41 : decode cX12_onePart 41 = .ok (.putfield 157, 3) := by decide +kernel
theorem dX12_onePart_44 : decode cX12_onePart 44 = .ok (.goto 99, 3) := by decide +kernel
theorem dX12_rowTold_0 : decode cX12_rowTold 0 = .ok (.aload_n 0, 1) := by decide +kernel
theorem dX12_rowTold_1 : decode cX12_rowTold 1 = .ok (.getfield 151, 3) := by decide +kernel
theorem dX12_rowTold_4 : decode cX12_rowTold 4 = .ok (.ifCond .ne 24, 3) := by decide +kernel
theorem dX12_rowTold_28 : decode cX12_rowTold 28 = .ok (.aload_n 0, 1) := by decide +kernel
theorem dX12_rowTold_29 : decode cX12_rowTold 29 = .ok (.getfield 151, 3) := by decide +kernel
theorem dX12_rowTold_32 : decode cX12_rowTold 32 = .ok (.ifCond .eq 4, 3) := by decide +kernel
theorem dX12_rowTold_36 : decode cX12_rowTold 36 = .ok (.iconst 0, 1) := by decide +kernel
theorem dX12_rowTold_37 : decode cX12_rowTold 37 = .ok (.istore_n 2, 1) := by decide +kernel
theorem dX12_rowTold_38 : decode cX12_rowTold 38 = .ok (.iload_n 2, 1) := by decide +kernel
theorem dX12_rowTold_39 : decode cX12_rowTold 39 = .ok (.aload_n 0, 1) := by decide +kernel
theorem dX12_rowTold_40 : decode cX12_rowTold 40 = .ok (.getfield 66, 3) := by decide +kernel
theorem dX12_rowTold_43 : decode cX12_rowTold 43 = .ok (.iconst 1, 1) := by decide +kernel
theorem dX12_rowTold_44 : decode cX12_rowTold 44 = .ok (.iaload, 1) := by decide +kernel
theorem dX12_rowTold_45 : decode cX12_rowTold 45 = .ok (.if_icmp .ge 34, 3) := by decide +kernel
theorem dX12_rowTold_79 : decode cX12_rowTold 79 = .ok (.aload_n 0, 1) := by decide +kernel
theorem dX12_rowTold_80 : decode cX12_rowTold 80 = .ok (.getfield 66, 3) := by decide +kernel
theorem dX12_rowTold_83 : decode cX12_rowTold 83 = .ok (.iconst 3, 1) := by decide +kernel
theorem dX12_rowTold_84 : decode cX12_rowTold 84 = .ok (.dup2, 1) := by decide +kernel
theorem dX12_rowTold_85 : decode cX12_rowTold 85 = .ok (.iaload, 1) := by decide +kernel
theorem dX12_rowTold_86 : decode cX12_rowTold 86 = .ok (.iconst 1, 1) := by decide +kernel
theorem dX12_rowTold_87 : decode cX12_rowTold 87 = .ok (.iadd, 1) := by decide +kernel
theorem dX12_rowTold_88 : decode cX12_rowTold 88 = .ok (.iastore, 1) := by decide +kernel
theorem dX12_rowTold_89 : decode cX12_rowTold 89 = .ok (.return_, 1) := by decide +kernel
theorem dX12_rowTold_48 : decode cX12_rowTold 48 = .ok (.aload_n 0, 1) := by decide +kernel
theorem dX12_rowTold_49 : decode cX12_rowTold 49 = .ok (.getfield 69, 3) := by decide +kernel
theorem dX12_rowTold_52 : decode cX12_rowTold 52 = .ok (.bipush 30, 2) := by decide +kernel
theorem dX12_rowTold_54 : decode cX12_rowTold 54 = .ok (.iconst 5, 1) := by decide +kernel
theorem dX12_rowTold_55 : decode cX12_rowTold 55 = .ok (.aload_n 0, 1) := by decide +kernel
theorem dX12_rowTold_56 : decode cX12_rowTold 56 = .ok (.getfield 66, 3) := by decide +kernel
theorem dX12_rowTold_59 : decode cX12_rowTold 59 = .ok (.iconst 3, 1) := by decide +kernel
theorem dX12_rowTold_60 : decode cX12_rowTold 60 = .ok (.iaload, 1) := by decide +kernel
theorem dX12_rowTold_61 : decode cX12_rowTold 61 = .ok (.imul, 1) := by decide +kernel
theorem dX12_rowTold_62 : decode cX12_rowTold 62 = .ok (.iadd, 1) := by decide +kernel
theorem dX12_rowTold_63 : decode cX12_rowTold 63 = .ok (.iload_n 2, 1) := by decide +kernel
theorem dX12_rowTold_64 : decode cX12_rowTold 64 = .ok (.iadd, 1) := by decide +kernel
theorem dX12_rowTold_65 : decode cX12_rowTold 65 = .ok (.aload_n 0, 1) := by decide +kernel
theorem dX12_rowTold_66 : decode cX12_rowTold 66 = .ok (.bipush 99, 2) := by decide +kernel
theorem dX12_rowTold_68 : decode cX12_rowTold 68 = .ok (.iconst 1, 1) := by decide +kernel
theorem dX12_rowTold_69 : decode cX12_rowTold 69 = .ok (.invokevirtual 199, 3) := by decide +kernel
theorem dX12_signed_0 : decode cX12_signed 0 = .ok (.aload_n 0, 1) := by decide +kernel
theorem dX12_signed_1 : decode cX12_signed 1 = .ok (.getfield 151, 3) := by decide +kernel
theorem dX12_signed_4 : decode cX12_signed 4 = .ok (.ifCond .eq 5, 3) := by decide +kernel
theorem dX12_signed_9 : decode cX12_signed 9 = .ok (.aload_n 0, 1) := by decide +kernel
theorem dX12_signed_10 : decode cX12_signed 10 = .ok (.invokevirtual 163, 3) := by decide +kernel
theorem dX12_signed_13 : decode cX12_signed 13 = .ok (.bipush 45, 2) := by decide +kernel
theorem dX12_signed_15 : decode cX12_signed 15 = .ok (.if_icmp .ne 7, 3) := by decide +kernel
theorem dX12_signed_22 : decode cX12_signed 22 = .ok (.iconst 0, 1) := by decide +kernel
theorem dX12_signed_23 : decode cX12_signed 23 = .ok (.istore_n 3, 1) := by decide +kernel
theorem dX12_signed_24 : decode cX12_signed 24 = .ok (.aload_n 0, 1) := by decide +kernel
theorem dX12_signed_25 : decode cX12_signed 25 = .ok (.getfield 157, 3) := by decide +kernel
theorem dX12_signed_28 : decode cX12_signed 28 = .ok (.istore 4, 2) := by decide +kernel
theorem dX12_signed_30 : decode cX12_signed 30 = .ok (.iload_n 3, 1) := by decide +kernel
theorem dX12_signed_31 : decode cX12_signed 31 = .ok (.ifCond .eq 13, 3) := by decide +kernel
theorem dX12_signed_44 : decode cX12_signed 44 = .ok (.aload_n 0, 1) := by decide +kernel
theorem dX12_signed_45 : decode cX12_signed 45 = .ok (.iconst 0, 1) := by decide +kernel
theorem dX12_signed_46 : decode cX12_signed 46 = .ok (.sipush 9999, 3) := by decide +kernel
theorem dX12_signed_49 : decode cX12_signed 49 = .ok (.invokevirtual 195, 3) := by decide +kernel
theorem dX12_signed_52 : decode cX12_signed 52 = .ok (.istore 5, 2) := by decide +kernel
theorem dX12_signed_54 : decode cX12_signed 54 = .ok (.iload_n 3, 1) := by decide +kernel
theorem dX12_signed_55 : decode cX12_signed 55 = .ok (.ifCond .eq 8, 3) := by decide +kernel
theorem dX12_signed_63 : decode cX12_signed 63 = .ok (.aload_n 0, 1) := by decide +kernel
theorem dX12_signed_64 : decode cX12_signed 64 = .ok (.getfield 151, 3) := by decide +kernel
theorem dX12_signed_67 : decode cX12_signed 67 = .ok (.ifCond .ne 38, 3) := by decide +kernel
theorem dX12_signed_105 : decode cX12_signed 105 = .ok (.iload 5, 2) := by decide +kernel
theorem dX12_signed_107 : decode cX12_signed 107 = .ok (.ireturn, 1) := by decide +kernel
theorem dX12_signed_70 : decode cX12_signed 70 = .ok (.iload 5, 2) := by decide +kernel
theorem dX12_signed_72 : decode cX12_signed 72 = .ok (.i2l, 1) := by decide +kernel
theorem dX12_signed_73 : decode cX12_signed 73 = .ok (.iload_n 1, 1) := by decide +kernel
theorem dX12_signed_74 : decode cX12_signed 74 = .ok (.ineg, 1) := by decide +kernel
theorem dX12_signed_75 : decode cX12_signed 75 = .ok (.i2l, 1) := by decide +kernel
theorem dX12_signed_76 : decode cX12_signed 76 = .ok (.iload_n 1, 1) := by decide +kernel
theorem dX12_signed_77 : decode cX12_signed 77 = .ok (.i2l, 1) := by decide +kernel
theorem dX12_signed_78 : decode cX12_signed 78 = .ok (.invokestatic 191, 3) := by decide +kernel
theorem dX12_signed_81 : decode cX12_signed 81 = .ok (.ifCond .eq 17, 3) := by decide +kernel
theorem dX12_signed_98 : decode cX12_signed 98 = .ok (.aload_n 0, 1) := by decide +kernel
theorem dX12_signed_99 : decode cX12_signed 99 = .ok (.iconst 2, 1) := by decide +kernel
theorem dX12_signed_100 : decode cX12_signed 100 = .ok (.iload 4, 2) := by decide +kernel
theorem dX12_signed_102 : decode cX12_signed 102 = .ok (.invokevirtual 181, 3) := by decide +kernel
theorem dX12_signed_84 : decode cX12_signed 84 = .ok (.iload_n 2, 1) := by decide +kernel
theorem dX12_signed_85 : decode cX12_signed 85 = .ok (.iconst 2, 1) := by decide +kernel
theorem dX12_signed_86 : decode cX12_signed 86 = .ok (.if_icmp .ne 19, 3) := by decide +kernel
theorem dX12_signed_89 : decode cX12_signed 89 = .ok (.iload 5, 2) := by decide +kernel
theorem dX12_signed_91 : decode cX12_signed 91 = .ok (.iload_n 1, 1) := by decide +kernel
theorem dX12_signed_92 : decode cX12_signed 92 = .ok (.iadd, 1) := by decide +kernel
theorem dX12_signed_93 : decode cX12_signed 93 = .ok (.iconst 2, 1) := by decide +kernel
theorem dX12_signed_94 : decode cX12_signed 94 = .ok (.irem, 1) := by decide +kernel
theorem dX12_signed_95 : decode cX12_signed 95 = .ok (.ifCond .eq 10, 3) := by decide +kernel
theorem dX12_signed_18 : decode cX12_signed 18 = .ok (.iconst 1, 1) := by decide +kernel
theorem dX12_signed_19 : decode cX12_signed 19 = .ok (.goto 4, 3) := by decide +kernel
theorem dX12_signed_34 : decode cX12_signed 34 = .ok (.aload_n 0, 1) := by decide +kernel
theorem dX12_signed_35 : decode cX12_signed 35 = .ok (.dup, 1) := by decide +kernel
theorem dX12_signed_36 : decode cX12_signed 36 = .ok (.getfield 157, 3) := by decide +kernel
theorem dX12_signed_39 : decode cX12_signed 39 = .ok (.iconst 1, 1) := by decide +kernel
