theorem dX12_house_24 : decode cX12_house 24 = .ok (.iconst 0, 1) := by decide +kernel
theorem dX12_house_25 : decode cX12_house 25 = .ok (.putfield 151, 3) := by decide +kernel
theorem dX12_house_28 : decode cX12_house 28 = .ok (.aload_n 0, 1) := by decide +kernel
theorem dX12_house_29 : decode cX12_house 29 = .ok (.iconst (-1), 1) := by decide +kernel
theorem dX12_house_30 : decode cX12_house 30 = .ok (.putfield 154, 3) := by decide +kernel
theorem dX12_house_33 : decode cX12_house 33 = .ok (.aload_n 0, 1) := by decide +kernel
theorem dX12_house_34 : decode cX12_house 34 = .ok (.iconst 0, 1) := by decide +kernel
theorem dX12_house_35 : decode cX12_house 35 = .ok (.putfield 222, 3) := by decide +kernel
theorem dX12_house_38 : decode cX12_house 38 = .ok (.aload_n 0, 1) := by decide +kernel
theorem dX12_house_39 : decode cX12_house 39 = .ok (.getfield 81, 3) := by decide +kernel
theorem dX12_house_42 : decode cX12_house 42 = .ok (.iconst 1, 1) := by decide +kernel
theorem dX12_house_43 : decode cX12_house 43 = .ok (.iconst 0, 1) := by decide +kernel
theorem dX12_house_44 : decode cX12_house 44 = .ok (.iastore, 1) := by decide +kernel
theorem dX12_house_45 : decode cX12_house 45 = .ok (.aload_n 0, 1) := by decide +kernel
theorem dX12_house_46 : decode cX12_house 46 = .ok (.aload_n 0, 1) := by decide +kernel
theorem dX12_house_47 : decode cX12_house 47 = .ok (.getfield 17, 3) := by decide +kernel
theorem dX12_house_50 : decode cX12_house 50 = .ok (.invokevirtual 212, 3) := by decide +kernel
theorem dX12_asks_0 : decode cX12_asks 0 = .ok (.aload_n 0, 1) := by decide +kernel
theorem dX12_asks_1 : decode cX12_asks 1 = .ok (.getfield 151, 3) := by decide +kernel
theorem dX12_asks_4 : decode cX12_asks 4 = .ok (.ifCond .ne 20, 3) := by decide +kernel
theorem dX12_asks_7 : decode cX12_asks 7 = .ok (.aload_n 0, 1) := by decide +kernel
theorem dX12_asks_8 : decode cX12_asks 8 = .ok (.aload_n 1, 1) := by decide +kernel
theorem dX12_asks_9 : decode cX12_asks 9 = .ok (.invokevirtual 178, 3) := by decide +kernel
theorem dX12_takes_0 : decode cX12_takes 0 = .ok (.aload_n 0, 1) := by decide +kernel
theorem dX12_takes_1 : decode cX12_takes 1 = .ok (.aload_n 1, 1) := by decide +kernel
theorem dX12_takes_2 : decode cX12_takes 2 = .ok (.invokevirtual 174, 3) := by decide +kernel
theorem dX12_isHere_0 : decode cX12_isHere 0 = .ok (.aload_n 0, 1) := by decide +kernel
theorem dX12_isHere_1 : decode cX12_isHere 1 = .ok (.getfield 151, 3) := by decide +kernel
theorem dX12_isHere_4 : decode cX12_isHere 4 = .ok (.ifCond .ne 24, 3) := by decide +kernel
theorem dX12_isHere_7 : decode cX12_isHere 7 = .ok (.aload_n 0, 1) := by decide +kernel
theorem dX12_isHere_8 : decode cX12_isHere 8 = .ok (.invokevirtual 163, 3) := by decide +kernel
theorem dX12_look_0 : decode cX12_look 0 = .ok (.aload_n 0, 1) := by decide +kernel
theorem dX12_look_1 : decode cX12_look 1 = .ok (.getfield 157, 3) := by decide +kernel
theorem dX12_look_4 : decode cX12_look 4 = .ok (.aload_n 0, 1) := by decide +kernel
theorem dX12_look_5 : decode cX12_look 5 = .ok (.getfield 160, 3) := by decide +kernel
theorem dX12_look_8 : decode cX12_look 8 = .ok (.if_icmp .ge 44, 3) := by decide +kernel
theorem dX12_look_52 : decode cX12_look 52 = .ok (.aload_n 0, 1) := by decide +kernel
theorem dX12_look_53 : decode cX12_look 53 = .ok (.getfield 157, 3) := by decide +kernel
theorem dX12_look_56 : decode cX12_look 56 = .ok (.aload_n 0, 1) := by decide +kernel
theorem dX12_look_57 : decode cX12_look 57 = .ok (.getfield 160, 3) := by decide +kernel
theorem dX12_look_60 : decode cX12_look 60 = .ok (.if_icmp .ge 15, 3) := by decide +kernel
theorem dX12_look_75 : decode cX12_look 75 = .ok (.iconst (-1), 1) := by decide +kernel
theorem dX12_look_76 : decode cX12_look 76 = .ok (.ireturn, 1) := by decide +kernel
theorem dX12_isHere_11 : decode cX12_isHere 11 = .ok (.invokestatic 167, 3) := by decide +kernel
theorem dX12_isLetter_0 : decode cX12_isLetter 0 = .ok (.iload_n 0, 1) := by decide +kernel
theorem dX12_isLetter_1 : decode cX12_isLetter 1 = .ok (.bipush 97, 2) := by decide +kernel
theorem dX12_isLetter_3 : decode cX12_isLetter 3 = .ok (.if_icmp .lt 13, 3) := by decide +kernel
theorem dX12_isLetter_16 : decode cX12_isLetter 16 = .ok (.iconst 0, 1) := by decide +kernel
theorem dX12_isLetter_17 : decode cX12_isLetter 17 = .ok (.ireturn, 1) := by decide +kernel
theorem dX12_isHere_14 : decode cX12_isHere 14 = .ok (.ifCond .eq 14, 3) := by decide +kernel
theorem dX12_isHere_28 : decode cX12_isHere 28 = .ok (.iconst 0, 1) := by decide +kernel
theorem dX12_isHere_29 : decode cX12_isHere 29 = .ok (.ireturn, 1) := by decide +kernel
theorem dX12_takes_5 : decode cX12_takes 5 = .ok (.ifCond .ne 5, 3) := by decide +kernel
theorem dX12_takes_8 : decode cX12_takes 8 = .ok (.iconst 0, 1) := by decide +kernel
theorem dX12_takes_9 : decode cX12_takes 9 = .ok (.ireturn, 1) := by decide +kernel
theorem dX12_asks_12 : decode cX12_asks 12 = .ok (.ifCond .ne 12, 3) := by decide +kernel
theorem dX12_asks_15 : decode cX12_asks 15 = .ok (.aload_n 0, 1) := by decide +kernel
theorem dX12_asks_16 : decode cX12_asks 16 = .ok (.iconst 1, 1) := by decide +kernel
theorem dX12_asks_17 : decode cX12_asks 17 = .ok (.aload_n 0, 1) := by decide +kernel
theorem dX12_asks_18 : decode cX12_asks 18 = .ok (.getfield 157, 3) := by decide +kernel
theorem dX12_asks_21 : decode cX12_asks 21 = .ok (.invokevirtual 181, 3) := by decide +kernel
theorem dX12_fail_0 : decode cX12_fail 0 = .ok (.aload_n 0, 1) := by decide +kernel
theorem dX12_fail_1 : decode cX12_fail 1 = .ok (.getfield 151, 3) := by decide +kernel
theorem dX12_fail_4 : decode cX12_fail 4 = .ok (.ifCond .eq 4, 3) := by decide +kernel
theorem dX12_fail_8 : decode cX12_fail 8 = .ok (.aload_n 0, 1) := by decide +kernel
theorem dX12_fail_9 : decode cX12_fail 9 = .ok (.iload_n 1, 1) := by decide +kernel
theorem dX12_fail_10 : decode cX12_fail 10 = .ok (.putfield 151, 3) := by decide +kernel
theorem dX12_fail_13 : decode cX12_fail 13 = .ok (.aload_n 0, 1) := by decide +kernel
theorem dX12_fail_14 : decode cX12_fail 14 = .ok (.iload_n 2, 1) := by decide +kernel
theorem dX12_fail_15 : decode cX12_fail 15 = .ok (.putfield 154, 3) := by decide +kernel
theorem dX12_fail_18 : decode cX12_fail 18 = .ok (.return_, 1) := by decide +kernel
theorem dX12_asks_24 : decode cX12_asks 24 = .ok (.return_, 1) := by decide +kernel
theorem dX12_house_53 : decode cX12_house 53 = .ok (.aload_n 0, 1) := by decide +kernel
theorem dX12_house_54 : decode cX12_house 54 = .ok (.getfield 66, 3) := by decide +kernel
theorem dX12_house_57 : decode cX12_house 57 = .ok (.iconst 0, 1) := by decide +kernel
theorem dX12_house_58 : decode cX12_house 58 = .ok (.aload_n 0, 1) := by decide +kernel
theorem dX12_house_59 : decode cX12_house 59 = .ok (.iconst 2, 1) := by decide +kernel
theorem dX12_house_60 : decode cX12_house 60 = .ok (.bipush 8, 2) := by decide +kernel
theorem dX12_house_62 : decode cX12_house 62 = .ok (.invokevirtual 195, 3) := by decide +kernel
theorem dX12_number_0 : decode cX12_number 0 = .ok (.aload_n 0, 1) := by decide +kernel
theorem dX12_number_1 : decode cX12_number 1 = .ok (.getfield 151, 3) := by decide +kernel
theorem dX12_number_4 : decode cX12_number 4 = .ok (.ifCond .eq 5, 3) := by decide +kernel
theorem dX12_number_7 : decode cX12_number 7 = .ok (.iconst 0, 1) := by decide +kernel
theorem dX12_number_8 : decode cX12_number 8 = .ok (.ireturn, 1) := by decide +kernel
theorem dX12_house_65 : decode cX12_house 65 = .ok (.iastore, 1) := by decide +kernel
theorem dX12_house_66 : decode cX12_house 66 = .ok (.aload_n 0, 1) := by decide +kernel
theorem dX12_house_67 : decode cX12_house 67 = .ok (.getfield 66, 3) := by decide +kernel
theorem dX12_house_70 : decode cX12_house 70 = .ok (.iconst 1, 1) := by decide +kernel
theorem dX12_house_71 : decode cX12_house 71 = .ok (.aload_n 0, 1) := by decide +kernel
theorem dX12_house_72 : decode cX12_house 72 = .ok (.iconst 1, 1) := by decide +kernel
theorem dX12_house_73 : decode cX12_house 73 = .ok (.iconst 5, 1) := by decide +kernel
theorem dX12_house_74 : decode cX12_house 74 = .ok (.invokevirtual 195, 3) := by decide +kernel
theorem dX12_house_77 : decode cX12_house 77 = .ok (.iastore, 1) := by decide +kernel
theorem dX12_house_78 : decode cX12_house 78 = .ok (.aload_n 0, 1) := by decide +kernel
theorem dX12_house_79 : decode cX12_house 79 = .ok (.getfield 66, 3) := by decide +kernel
theorem dX12_house_82 : decode cX12_house 82 = .ok (.iconst 2, 1) := by decide +kernel
theorem dX12_house_83 : decode cX12_house 83 = .ok (.aload_n 0, 1) := by decide +kernel
theorem dX12_house_84 : decode cX12_house 84 = .ok (.iconst 1, 1) := by decide +kernel
theorem dX12_house_85 : decode cX12_house 85 = .ok (.bipush 6, 2) := by decide +kernel
theorem dX12_house_87 : decode cX12_house 87 = .ok (.invokevirtual 195, 3) := by decide +kernel
theorem dX12_house_90 : decode cX12_house 90 = .ok (.iastore, 1) := by decide +kernel
theorem dX12_house_91 : decode cX12_house 91 = .ok (.aload_n 0, 1) := by decide +kernel
theorem dX12_house_92 : decode cX12_house 92 = .ok (.getfield 66, 3) := by decide +kernel
theorem dX12_house_95 : decode cX12_house 95 = .ok (.iconst 3, 1) := by decide +kernel
theorem dX12_house_96 : decode cX12_house 96 = .ok (.iconst 0, 1) := by decide +kernel
theorem dX12_house_97 : decode cX12_house 97 = .ok (.iastore, 1) := by decide +kernel
theorem dX12_house_98 : decode cX12_house 98 = .ok (.aload_n 0, 1) := by decide +kernel
theorem dX12_house_99 : decode cX12_house 99 = .ok (.getfield 66, 3) := by decide +kernel
theorem dX12_house_102 : decode cX12_house 102 = .ok (.iconst 4, 1) := by decide +kernel
theorem dX12_house_103 : decode cX12_house 103 = .ok (.iconst 0, 1) := by decide +kernel
theorem dX12_house_104 : decode cX12_house 104 = .ok (.iastore, 1) := by decide +kernel
theorem dX12_house_105 : decode cX12_house 105 = .ok (.aload_n 0, 1) := by decide +kernel
theorem dX12_house_106 : decode cX12_house 106 = .ok (.getfield 66, 3) := by decide +kernel
theorem dX12_house_109 : decode cX12_house 109 = .ok (.iconst 5, 1) := by decide +kernel
theorem dX12_house_110 : decode cX12_house 110 = .ok (.sipush 9999, 3) := by decide +kernel
theorem dX12_house_113 : decode cX12_house 113 = .ok (.iastore, 1) := by decide +kernel
theorem dX12_house_114 : decode cX12_house 114 = .ok (.iconst 0, 1) := by decide +kernel
theorem dX12_house_115 : decode cX12_house 115 = .ok (.istore_n 1, 1) := by decide +kernel
theorem dX12_house_116 : decode cX12_house 116 = .ok (.iload_n 1, 1) := by decide +kernel
theorem dX12_house_117 : decode cX12_house 117 = .ok (.bipush 30, 2) := by decide +kernel
theorem dX12_house_119 : decode cX12_house 119 = .ok (.if_icmp .ge 19, 3) := by decide +kernel
theorem dX12_house_122 : decode cX12_house 122 = .ok (.aload_n 0, 1) := by decide +kernel
theorem dX12_house_123 : decode cX12_house 123 = .ok (.getfield 69, 3) := by decide +kernel
theorem dX12_house_126 : decode cX12_house 126 = .ok (.bipush 30, 2) := by decide +kernel
theorem dX12_house_128 : decode cX12_house 128 = .ok (.iload_n 1, 1) := by decide +kernel
theorem dX12_house_129 : decode cX12_house 129 = .ok (.iadd, 1) := by decide +kernel
theorem dX12_house_130 : decode cX12_house 130 = .ok (.iconst 0, 1) := by decide +kernel
theorem dX12_house_131 : decode cX12_house 131 = .ok (.iastore, 1) := by decide +kernel
theorem dX12_house_132 : decode cX12_house 132 = .ok (.iinc 1 1, 3) := by decide +kernel
theorem dX12_house_135 : decode cX12_house 135 = .ok (.goto (-19), 3) := by decide +kernel
theorem dX12_house_138 : decode cX12_house 138 = .ok (.aload_n 0, 1) := by decide +kernel
theorem dX12_house_139 : decode cX12_house 139 = .ok (.bipush 59, 2) := by decide +kernel
theorem dX12_house_141 : decode cX12_house 141 = .ok (.invokevirtual 219, 3) := by decide +kernel
theorem dX12_asksSign_0 : decode cX12_asksSign 0 = .ok (.aload_n 0, 1) := by decide +kernel
theorem dX12_asksSign_1 : decode cX12_asksSign 1 = .ok (.getfield 151, 3) := by decide +kernel
theorem dX12_asksSign_4 : decode cX12_asksSign 4 = .ok (.ifCond .ne 20, 3) := by decide +kernel
theorem dX12_asksSign_24 : decode cX12_asksSign 24 = .ok (.return_, 1) := by decide +kernel
theorem dX12_house_144 : decode cX12_house 144 = .ok (.aload_n 0, 1) := by decide +kernel
theorem dX12_house_145 : decode cX12_house 145 = .ok (.iconst 1, 1) := by decide +kernel
theorem dX12_house_146 : decode cX12_house 146 = .ok (.putfield 202, 3) := by decide +kernel
theorem dX12_house_149 : decode cX12_house 149 = .ok (.aload_n 0, 1) := by decide +kernel
theorem dX12_house_150 : decode cX12_house 150 = .ok (.getfield 151, 3) := by decide +kernel
theorem dX12_house_153 : decode cX12_house 153 = .ok (.ifCond .ne 18, 3) := by decide +kernel
theorem dX12_house_171 : decode cX12_house 171 = .ok (.aload_n 0, 1) := by decide +kernel
theorem dX12_house_172 : decode cX12_house 172 = .ok (.aload_n 0, 1) := by decide +kernel
theorem dX12_house_173 : decode cX12_house 173 = .ok (.getfield 151, 3) := by decide +kernel
theorem dX12_house_176 : decode cX12_house 176 = .ok (.putfield 228, 3) := by decide +kernel
theorem dX12_house_179 : decode cX12_house 179 = .ok (.aload_n 0, 1) := by decide +kernel
theorem dX12_house_180 : decode cX12_house 180 = .ok (.aload_n 0, 1) := by decide +kernel
theorem dX12_house_181 : decode cX12_house 181 = .ok (.getfield 154, 3) := by decide +kernel
theorem dX12_house_184 : decode cX12_house 184 = .ok (.putfield 13, 3) := by decide +kernel
theorem dX12_house_187 : decode cX12_house 187 = .ok (.aload_n 0, 1) := by decide +kernel
theorem dX12_house_188 : decode cX12_house 188 = .ok (.getfield 151, 3) := by decide +kernel
theorem dX12_house_191 : decode cX12_house 191 = .ok (.ifCond .eq 5, 3) := by decide +kernel
theorem dX12_house_194 : decode cX12_house 194 = .ok (.iconst (-1), 1) := by decide +kernel
theorem dX12_house_195 : decode cX12_house 195 = .ok (.ireturn, 1) := by decide +kernel
theorem dL_law_322 : decode cL_law 322 = .ok (.if_icmp .eq 1210, 3) := by decide +kernel
theorem dL_law_327 : decode cL_law 327 = .ok (.aload_n 1, 1) := by decide +kernel
theorem dL_law_328 : decode cL_law 328 = .ok (.aload_n 0, 1) := by decide +kernel
theorem dL_law_329 : decode cL_law 329 = .ok (.iload_n 3, 1) := by decide +kernel
theorem dL_law_330 : decode cL_law 330 = .ok (.iconst 1, 1) := by decide +kernel
theorem dL_law_331 : decode cL_law 331 = .ok (.iadd, 1) := by decide +kernel
theorem dL_law_332 : decode cL_law 332 = .ok (.iaload, 1) := by decide +kernel
theorem dL_law_333 : decode cL_law 333 = .ok (.invokevirtual 28, 3) := by decide +kernel
theorem dX11_fault_0 : decode cX11_fault 0 = .ok (.iload_n 1, 1) := by decide +kernel
theorem dX11_fault_1 : decode cX11_fault 1 = .ok (.ifCond .ne 11, 3) := by decide +kernel
theorem dX11_fault_12 : decode cX11_fault 12 = .ok (.iload_n 1, 1) := by decide +kernel
theorem dX11_fault_13 : decode cX11_fault 13 = .ok (.iconst 1, 1) := by decide +kernel
theorem dX11_fault_14 : decode cX11_fault 14 = .ok (.if_icmp .ne 13, 3) := by decide +kernel
theorem dX11_fault_27 : decode cX11_fault 27 = .ok (.iconst (-1), 1) := by decide +kernel
theorem dX11_fault_28 : decode cX11_fault 28 = .ok (.ireturn, 1) := by decide +kernel
theorem dX11_fault_17 : decode cX11_fault 17 = .ok (.aload_n 0, 1) := by decide +kernel
theorem dX11_fault_18 : decode cX11_fault 18 = .ok (.getfield 10, 3) := by decide +kernel
theorem dX11_fault_21 : decode cX11_fault 21 = .ok (.getfield 130, 3) := by decide +kernel
theorem dX11_fault_24 : decode cX11_fault 24 = .ok (.goto 4, 3) := by decide +kernel
theorem dX11_fault_4 : decode cX11_fault 4 = .ok (.aload_n 0, 1) := by decide +kernel
theorem dX11_fault_5 : decode cX11_fault 5 = .ok (.getfield 10, 3) := by decide +kernel
theorem dX11_fault_8 : decode cX11_fault 8 = .ok (.getfield 127, 3) := by decide +kernel
theorem dX11_fault_11 : decode cX11_fault 11 = .ok (.ireturn, 1) := by decide +kernel
theorem dL_law_336 : decode cL_law 336 = .ok (.aload_n 2, 1) := by decide +kernel
theorem dL_law_337 : decode cL_law 337 = .ok (.aload_n 0, 1) := by decide +kernel
theorem dL_law_338 : decode cL_law 338 = .ok (.iload_n 3, 1) := by decide +kernel
theorem dL_law_339 : decode cL_law 339 = .ok (.iconst 1, 1) := by decide +kernel
theorem dL_law_340 : decode cL_law 340 = .ok (.iadd, 1) := by decide +kernel
theorem dL_law_341 : decode cL_law 341 = .ok (.iaload, 1) := by decide +kernel
theorem dL_law_342 : decode cL_law 342 = .ok (.invokevirtual 32, 3) := by decide +kernel
theorem dX12_fault_0 : decode cX12_fault 0 = .ok (.iload_n 1, 1) := by decide +kernel
theorem dX12_fault_1 : decode cX12_fault 1 = .ok (.ifCond .ne 10, 3) := by decide +kernel
theorem dX12_fault_11 : decode cX12_fault 11 = .ok (.iload_n 1, 1) := by decide +kernel
theorem dX12_fault_12 : decode cX12_fault 12 = .ok (.iconst 1, 1) := by decide +kernel
theorem dX12_fault_13 : decode cX12_fault 13 = .ok (.if_icmp .ne 10, 3) := by decide +kernel
theorem dX12_fault_23 : decode cX12_fault 23 = .ok (.iconst (-1), 1) := by decide +kernel
theorem dX12_fault_24 : decode cX12_fault 24 = .ok (.ireturn, 1) := by decide +kernel
theorem dX12_fault_16 : decode cX12_fault 16 = .ok (.aload_n 0, 1) := by decide +kernel
theorem dX12_fault_17 : decode cX12_fault 17 = .ok (.getfield 13, 3) := by decide +kernel
theorem dX12_fault_20 : decode cX12_fault 20 = .ok (.goto 4, 3) := by decide +kernel
theorem dX12_fault_4 : decode cX12_fault 4 = .ok (.aload_n 0, 1) := by decide +kernel
theorem dX12_fault_5 : decode cX12_fault 5 = .ok (.getfield 228, 3) := by decide +kernel
theorem dX12_fault_8 : decode cX12_fault 8 = .ok (.goto 16, 3) := by decide +kernel
theorem dL_law_345 : decode cL_law 345 = .ok (.if_icmp .eq 1187, 3) := by decide +kernel
theorem dL_law_350 : decode cL_law 350 = .ok (.aload_n 1, 1) := by decide +kernel
theorem dL_law_351 : decode cL_law 351 = .ok (.aload_n 0, 1) := by decide +kernel
theorem dL_law_352 : decode cL_law 352 = .ok (.iload_n 3, 1) := by decide +kernel
theorem dL_law_353 : decode cL_law 353 = .ok (.iconst 1, 1) := by decide +kernel
theorem dL_law_354 : decode cL_law 354 = .ok (.iadd, 1) := by decide +kernel
theorem dL_law_355 : decode cL_law 355 = .ok (.iaload, 1) := by decide +kernel
theorem dL_law_356 : decode cL_law 356 = .ok (.invokevirtual 33, 3) := by decide +kernel
theorem dX11_has_0 : decode cX11_has 0 = .ok (.iload_n 1, 1) := by decide +kernel
theorem dX11_has_1 : decode cX11_has 1 = .ok (.tableswitch 138 0 9 #[55, 63, 71, 79, 87, 95, 106, 114, 122, 130], 55) := by decide +kernel
theorem dX11_has_56 : decode cX11_has 56 = .ok (.aload_n 0, 1) := by decide +kernel
theorem dX11_has_57 : decode cX11_has 57 = .ok (.getfield 69, 3) := by decide +kernel
theorem dX11_has_60 : decode cX11_has 60 = .ok (.getfield 133, 3) := by decide +kernel
theorem dX11_has_63 : decode cX11_has 63 = .ok (.ireturn, 1) := by decide +kernel
theorem dX11_has_64 : decode cX11_has 64 = .ok (.aload_n 0, 1) := by decide +kernel
theorem dX11_has_65 : decode cX11_has 65 = .ok (.getfield 69, 3) := by decide +kernel
theorem dX11_has_68 : decode cX11_has 68 = .ok (.getfield 136, 3) := by decide +kernel
theorem dX11_has_71 : decode cX11_has 71 = .ok (.ireturn, 1) := by decide +kernel
theorem dX11_has_72 : decode cX11_has 72 = .ok (.aload_n 0, 1) := by decide +kernel
theorem dX11_has_73 : decode cX11_has 73 = .ok (.getfield 69, 3) := by decide +kernel
theorem dX11_has_76 : decode cX11_has 76 = .ok (.getfield 139, 3) := by decide +kernel
theorem dX11_has_79 : decode cX11_has 79 = .ok (.ireturn, 1) := by decide +kernel
theorem dX11_has_80 : decode cX11_has 80 = .ok (.aload_n 0, 1) := by decide +kernel
theorem dX11_has_81 : decode cX11_has 81 = .ok (.getfield 69, 3) := by decide +kernel
theorem dX11_has_84 : decode cX11_has 84 = .ok (.getfield 142, 3) := by decide +kernel
theorem dX11_has_87 : decode cX11_has 87 = .ok (.ireturn, 1) := by decide +kernel
theorem dX11_has_88 : decode cX11_has 88 = .ok (.aload_n 0, 1) := by decide +kernel
theorem dX11_has_89 : decode cX11_has 89 = .ok (.getfield 69, 3) := by decide +kernel
theorem dX11_has_92 : decode cX11_has 92 = .ok (.getfield 145, 3) := by decide +kernel
theorem dX11_has_95 : decode cX11_has 95 = .ok (.ireturn, 1) := by decide +kernel
theorem dX11_has_96 : decode cX11_has 96 = .ok (.aload_n 0, 1) := by decide +kernel
theorem dX11_has_97 : decode cX11_has 97 = .ok (.getfield 69, 3) := by decide +kernel
theorem dX11_has_100 : decode cX11_has 100 = .ok (.getfield 148, 3) := by decide +kernel
theorem dX11_has_103 : decode cX11_has 103 = .ok (.getfield 152, 3) := by decide +kernel
theorem dX11_has_106 : decode cX11_has 106 = .ok (.ireturn, 1) := by decide +kernel
theorem dX11_has_107 : decode cX11_has 107 = .ok (.aload_n 0, 1) := by decide +kernel
theorem dX11_has_108 : decode cX11_has 108 = .ok (.getfield 69, 3) := by decide +kernel
theorem dX11_has_111 : decode cX11_has 111 = .ok (.getfield 157, 3) := by decide +kernel
theorem dX11_has_114 : decode cX11_has 114 = .ok (.ireturn, 1) := by decide +kernel
theorem dX11_has_115 : decode cX11_has 115 = .ok (.aload_n 0, 1) := by decide +kernel
theorem dX11_has_116 : decode cX11_has 116 = .ok (.getfield 76, 3) := by decide +kernel
theorem dX11_has_119 : decode cX11_has 119 = .ok (.getfield 160, 3) := by decide +kernel
theorem dX11_has_122 : decode cX11_has 122 = .ok (.ireturn, 1) := by decide +kernel
theorem dX11_has_123 : decode cX11_has 123 = .ok (.aload_n 0, 1) := by decide +kernel
theorem dX11_has_124 : decode cX11_has 124 = .ok (.getfield 76, 3) := by decide +kernel
theorem dX11_has_127 : decode cX11_has 127 = .ok (.getfield 163, 3) := by decide +kernel
theorem dX11_has_130 : decode cX11_has 130 = .ok (.ireturn, 1) := by decide +kernel
theorem dX11_has_131 : decode cX11_has 131 = .ok (.aload_n 0, 1) := by decide +kernel
theorem dX11_has_132 : decode cX11_has 132 = .ok (.getfield 76, 3) := by decide +kernel
theorem dX11_has_135 : decode cX11_has 135 = .ok (.getfield 166, 3) := by decide +kernel
theorem dX11_has_138 : decode cX11_has 138 = .ok (.ireturn, 1) := by decide +kernel
theorem dX11_has_139 : decode cX11_has 139 = .ok (.iconst (-1), 1) := by decide +kernel
theorem dX11_has_140 : decode cX11_has 140 = .ok (.ireturn, 1) := by decide +kernel
theorem dL_law_359 : decode cL_law 359 = .ok (.aload_n 2, 1) := by decide +kernel
theorem dL_law_360 : decode cL_law 360 = .ok (.aload_n 0, 1) := by decide +kernel
theorem dL_law_361 : decode cL_law 361 = .ok (.iload_n 3, 1) := by decide +kernel
theorem dL_law_362 : decode cL_law 362 = .ok (.iconst 1, 1) := by decide +kernel
theorem dL_law_363 : decode cL_law 363 = .ok (.iadd, 1) := by decide +kernel
theorem dL_law_364 : decode cL_law 364 = .ok (.iaload, 1) := by decide +kernel
theorem dL_law_365 : decode cL_law 365 = .ok (.invokevirtual 36, 3) := by decide +kernel
theorem dX12_has_0 : decode cX12_has 0 = .ok (.iload_n 1, 1) := by decide +kernel
theorem dX12_has_1 : decode cX12_has 1 = .ok (.tableswitch 107 0 9 #[55, 60, 65, 70, 75, 80, 87, 92, 97, 102], 55) := by decide +kernel
theorem dX12_has_56 : decode cX12_has 56 = .ok (.aload_n 0, 1) := by decide +kernel
theorem dX12_has_57 : decode cX12_has 57 = .ok (.getfield 234, 3) := by decide +kernel
theorem dX12_has_60 : decode cX12_has 60 = .ok (.ireturn, 1) := by decide +kernel
theorem dX12_has_61 : decode cX12_has 61 = .ok (.aload_n 0, 1) := by decide +kernel
theorem dX12_has_62 : decode cX12_has 62 = .ok (.getfield 237, 3) := by decide +kernel
theorem dX12_has_65 : decode cX12_has 65 = .ok (.ireturn, 1) := by decide +kernel
theorem dX12_has_66 : decode cX12_has 66 = .ok (.aload_n 0, 1) := by decide +kernel
theorem dX12_has_67 : decode cX12_has 67 = .ok (.getfield 240, 3) := by decide +kernel
theorem dX12_has_70 : decode cX12_has 70 = .ok (.ireturn, 1) := by decide +kernel
theorem dX12_has_71 : decode cX12_has 71 = .ok (.aload_n 0, 1) := by decide +kernel
theorem dX12_has_72 : decode cX12_has 72 = .ok (.getfield 243, 3) := by decide +kernel
theorem dX12_has_75 : decode cX12_has 75 = .ok (.ireturn, 1) := by decide +kernel
theorem dX12_has_76 : decode cX12_has 76 = .ok (.aload_n 0, 1) := by decide +kernel
theorem dX12_has_77 : decode cX12_has 77 = .ok (.getfield 246, 3) := by decide +kernel
theorem dX12_has_80 : decode cX12_has 80 = .ok (.ireturn, 1) := by decide +kernel
theorem dX12_has_81 : decode cX12_has 81 = .ok (.aload_n 0, 1) := by decide +kernel
theorem dX12_has_82 : decode cX12_has 82 = .ok (.getfield 81, 3) := by decide +kernel
theorem dX12_has_85 : decode cX12_has 85 = .ok (.iconst 0, 1) := by decide +kernel
theorem dX12_has_86 : decode cX12_has 86 = .ok (.iaload, 1) := by decide +kernel
theorem dX12_has_87 : decode cX12_has 87 = .ok (.ireturn, 1) := by decide +kernel
theorem dX12_has_88 : decode cX12_has 88 = .ok (.aload_n 0, 1) := by decide +kernel
theorem dX12_has_89 : decode cX12_has 89 = .ok (.getfield 63, 3) := by decide +kernel
theorem dX12_has_92 : decode cX12_has 92 = .ok (.ireturn, 1) := by decide +kernel
theorem dX12_has_93 : decode cX12_has 93 = .ok (.aload_n 0, 1) := by decide +kernel
theorem dX12_has_94 : decode cX12_has 94 = .ok (.getfield 349, 3) := by decide +kernel
theorem dX12_has_97 : decode cX12_has 97 = .ok (.ireturn, 1) := by decide +kernel
theorem dX12_has_98 : decode cX12_has 98 = .ok (.aload_n 0, 1) := by decide +kernel
theorem dX12_has_99 : decode cX12_has 99 = .ok (.getfield 352, 3) := by decide +kernel
theorem dX12_has_102 : decode cX12_has 102 = .ok (.ireturn, 1) := by decide +kernel
theorem dX12_has_103 : decode cX12_has 103 = .ok (.aload_n 0, 1) := by decide +kernel
theorem dX12_has_104 : decode cX12_has 104 = .ok (.getfield 355, 3) := by decide +kernel
theorem dX12_has_107 : decode cX12_has 107 = .ok (.ireturn, 1) := by decide +kernel
theorem dX12_has_108 : decode cX12_has 108 = .ok (.iconst (-1), 1) := by decide +kernel
theorem dX12_has_109 : decode cX12_has 109 = .ok (.ireturn, 1) := by decide +kernel
theorem dL_law_368 : decode cL_law 368 = .ok (.if_icmp .eq 1164, 3) := by decide +kernel
theorem dL_law_373 : decode cL_law 373 = .ok (.aload_n 1, 1) := by decide +kernel
theorem dL_law_374 : decode cL_law 374 = .ok (.aload_n 0, 1) := by decide +kernel
theorem dL_law_375 : decode cL_law 375 = .ok (.iload_n 3, 1) := by decide +kernel
theorem dL_law_376 : decode cL_law 376 = .ok (.iconst 1, 1) := by decide +kernel
theorem dL_law_377 : decode cL_law 377 = .ok (.iadd, 1) := by decide +kernel
theorem dL_law_378 : decode cL_law 378 = .ok (.iaload, 1) := by decide +kernel
theorem dL_law_379 : decode cL_law 379 = .ok (.aload_n 0, 1) := by decide +kernel
theorem dL_law_380 : decode cL_law 380 = .ok (.iload_n 3, 1) := by decide +kernel
theorem dL_law_381 : decode cL_law 381 = .ok (.iconst 2, 1) := by decide +kernel
theorem dL_law_382 : decode cL_law 382 = .ok (.iadd, 1) := by decide +kernel
theorem dL_law_383 : decode cL_law 383 = .ok (.iaload, 1) := by decide +kernel
theorem dL_law_384 : decode cL_law 384 = .ok (.aload_n 0, 1) := by decide +kernel
theorem dL_law_385 : decode cL_law 385 = .ok (.iload_n 3, 1) := by decide +kernel
theorem dL_law_386 : decode cL_law 386 = .ok (.iconst 3, 1) := by decide +kernel
theorem dL_law_387 : decode cL_law 387 = .ok (.iadd, 1) := by decide +kernel
theorem dL_law_388 : decode cL_law 388 = .ok (.iaload, 1) := by decide +kernel
theorem dL_law_389 : decode cL_law 389 = .ok (.ifCond .eq 7, 3) := by decide +kernel
theorem dL_law_396 : decode cL_law 396 = .ok (.iconst 0, 1) := by decide +kernel
theorem dL_law_397 : decode cL_law 397 = .ok (.invokevirtual 37, 3) := by decide +kernel
theorem dX11_table_0 : decode cX11_table 0 = .ok (.aload_n 0, 1) := by decide +kernel
theorem dX11_table_1 : decode cX11_table 1 = .ok (.getfield 69, 3) := by decide +kernel
theorem dX11_table_4 : decode cX11_table 4 = .ok (.iload_n 1, 1) := by decide +kernel
theorem dX11_table_5 : decode cX11_table 5 = .ok (.invokevirtual 169, 3) := by decide +kernel
theorem dX1_isReceiver_0 : decode cX1_isReceiver 0 = .ok (.iload_n 1, 1) := by decide +kernel
theorem dX1_isReceiver_1 : decode cX1_isReceiver 1 = .ok (.ifCond .lt 15, 3) := by decide +kernel
theorem dX1_isReceiver_16 : decode cX1_isReceiver 16 = .ok (.iconst 0, 1) := by decide +kernel
theorem dX1_isReceiver_17 : decode cX1_isReceiver 17 = .ok (.ireturn, 1) := by decide +kernel
theorem dX1_isReceiver_4 : decode cX1_isReceiver 4 = .ok (.iload_n 1, 1) := by decide +kernel
theorem dX1_isReceiver_5 : decode cX1_isReceiver 5 = .ok (.aload_n 0, 1) := by decide +kernel
theorem dX1_isReceiver_6 : decode cX1_isReceiver 6 = .ok (.getfield 36, 3) := by decide +kernel
theorem dX1_isReceiver_9 : decode cX1_isReceiver 9 = .ok (.if_icmp .ge 7, 3) := by decide +kernel
theorem dX11_table_8 : decode cX11_table 8 = .ok (.ifCond .eq 14, 3) := by decide +kernel
theorem dX11_table_22 : decode cX11_table 22 = .ok (.ldc 175, 2) := by decide +kernel
theorem dX11_table_24 : decode cX11_table 24 = .ok (.ireturn, 1) := by decide +kernel
theorem dL_law_400 : decode cL_law 400 = .ok (.aload_n 2, 1) := by decide +kernel
theorem dL_law_401 : decode cL_law 401 = .ok (.aload_n 0, 1) := by decide +kernel
theorem dL_law_402 : decode cL_law 402 = .ok (.iload_n 3, 1) := by decide +kernel
theorem dL_law_403 : decode cL_law 403 = .ok (.iconst 1, 1) := by decide +kernel
theorem dL_law_404 : decode cL_law 404 = .ok (.iadd, 1) := by decide +kernel
theorem dL_law_405 : decode cL_law 405 = .ok (.iaload, 1) := by decide +kernel
theorem dL_law_406 : decode cL_law 406 = .ok (.aload_n 0, 1) := by decide +kernel
theorem dL_law_407 : decode cL_law 407 = .ok (.iload_n 3, 1) := by decide +kernel
theorem dL_law_408 : decode cL_law 408 = .ok (.iconst 2, 1) := by decide +kernel
theorem dL_law_409 : decode cL_law 409 = .ok (.iadd, 1) := by decide +kernel
theorem dL_law_410 : decode cL_law 410 = .ok (.iaload, 1) := by decide +kernel
theorem dL_law_411 : decode cL_law 411 = .ok (.aload_n 0, 1) := by decide +kernel
theorem dL_law_412 : decode cL_law 412 = .ok (.iload_n 3, 1) := by decide +kernel
theorem dL_law_413 : decode cL_law 413 = .ok (.iconst 3, 1) := by decide +kernel
theorem dL_law_414 : decode cL_law 414 = .ok (.iadd, 1) := by decide +kernel
theorem dL_law_415 : decode cL_law 415 = .ok (.iaload, 1) := by decide +kernel
theorem dL_law_416 : decode cL_law 416 = .ok (.ifCond .eq 7, 3) := by decide +kernel
theorem dL_law_423 : decode cL_law 423 = .ok (.iconst 0, 1) := by decide +kernel
theorem dL_law_424 : decode cL_law 424 = .ok (.invokevirtual 41, 3) := by decide +kernel
theorem dX12_table_0 : decode cX12_table 0 = .ok (.aload_n 0, 1) := by decide +kernel
theorem dX12_table_1 : decode cX12_table 1 = .ok (.iload_n 1, 1) := by decide +kernel
theorem dX12_table_2 : decode cX12_table 2 = .ok (.invokevirtual 358, 3) := by decide +kernel
theorem dX12_isReceiver_0 : decode cX12_isReceiver 0 = .ok (.iload_n 1, 1) := by decide +kernel
theorem dX12_isReceiver_1 : decode cX12_isReceiver 1 = .ok (.i2l, 1) := by decide +kernel
theorem dX12_isReceiver_2 : decode cX12_isReceiver 2 = .ok (.lconst 0, 1) := by decide +kernel
theorem dX12_isReceiver_3 : decode cX12_isReceiver 3 = .ok (.aload_n 0, 1) := by decide +kernel
theorem dX12_isReceiver_4 : decode cX12_isReceiver 4 = .ok (.getfield 240, 3) := by decide +kernel
theorem dX12_isReceiver_7 : decode cX12_isReceiver 7 = .ok (.iconst 1, 1) := by decide +kernel
theorem dX12_isReceiver_8 : decode cX12_isReceiver 8 = .ok (.isub, 1) := by decide +kernel
theorem dX12_isReceiver_9 : decode cX12_isReceiver 9 = .ok (.i2l, 1) := by decide +kernel
theorem dX12_isReceiver_10 : decode cX12_isReceiver 10 = .ok (.invokestatic 191, 3) := by decide +kernel
theorem dX12_isIn_0 : decode cX12_isIn 0 = .ok (.lload_n 0, 1) := by decide +kernel
theorem dX12_isIn_1 : decode cX12_isIn 1 = .ok (.lload_n 2, 1) := by decide +kernel
theorem dX12_isIn_2 : decode cX12_isIn 2 = .ok (.lcmp, 1) := by decide +kernel
theorem dX12_isIn_3 : decode cX12_isIn 3 = .ok (.ifCond .lt 14, 3) := by decide +kernel
theorem dX12_isIn_17 : decode cX12_isIn 17 = .ok (.iconst 0, 1) := by decide +kernel
theorem dX12_isIn_18 : decode cX12_isIn 18 = .ok (.ireturn, 1) := by decide +kernel
theorem dX12_isIn_6 : decode cX12_isIn 6 = .ok (.lload_n 0, 1) := by decide +kernel
theorem dX12_isIn_7 : decode cX12_isIn 7 = .ok (.lload 4, 2) := by decide +kernel
theorem dX12_isIn_9 : decode cX12_isIn 9 = .ok (.lcmp, 1) := by decide +kernel
theorem dX12_isIn_10 : decode cX12_isIn 10 = .ok (.ifCond .gt 7, 3) := by decide +kernel
theorem dX12_isReceiver_13 : decode cX12_isReceiver 13 = .ok (.ireturn, 1) := by decide +kernel
theorem dX12_table_5 : decode cX12_table 5 = .ok (.ifCond .eq 11, 3) := by decide +kernel
theorem dX12_table_16 : decode cX12_table 16 = .ok (.ldc_w 364, 3) := by decide +kernel
theorem dX12_table_19 : decode cX12_table 19 = .ok (.ireturn, 1) := by decide +kernel
theorem dL_law_427 : decode cL_law 427 = .ok (.if_icmp .eq 1105, 3) := by decide +kernel
theorem dL_law_392 : decode cL_law 392 = .ok (.iconst 1, 1) := by decide +kernel
theorem dL_law_393 : decode cL_law 393 = .ok (.goto 4, 3) := by decide +kernel
theorem dL_law_419 : decode cL_law 419 = .ok (.iconst 1, 1) := by decide +kernel
theorem dL_law_420 : decode cL_law 420 = .ok (.goto 4, 3) := by decide +kernel
theorem dL_law_432 : decode cL_law 432 = .ok (.aload_n 1, 1) := by decide +kernel
theorem dL_law_433 : decode cL_law 433 = .ok (.aload_n 0, 1) := by decide +kernel
theorem dL_law_434 : decode cL_law 434 = .ok (.iload_n 3, 1) := by decide +kernel
theorem dL_law_435 : decode cL_law 435 = .ok (.iconst 1, 1) := by decide +kernel
theorem dL_law_436 : decode cL_law 436 = .ok (.iadd, 1) := by decide +kernel
theorem dL_law_437 : decode cL_law 437 = .ok (.iaload, 1) := by decide +kernel
theorem dL_law_438 : decode cL_law 438 = .ok (.aload_n 0, 1) := by decide +kernel
theorem dL_law_439 : decode cL_law 439 = .ok (.iload_n 3, 1) := by decide +kernel
theorem dL_law_440 : decode cL_law 440 = .ok (.iconst 2, 1) := by decide +kernel
theorem dL_law_441 : decode cL_law 441 = .ok (.iadd, 1) := by decide +kernel
theorem dL_law_442 : decode cL_law 442 = .ok (.iaload, 1) := by decide +kernel
theorem dL_law_443 : decode cL_law 443 = .ok (.aload_n 0, 1) := by decide +kernel
theorem dL_law_444 : decode cL_law 444 = .ok (.iload_n 3, 1) := by decide +kernel
theorem dL_law_445 : decode cL_law 445 = .ok (.iconst 3, 1) := by decide +kernel
theorem dL_law_446 : decode cL_law 446 = .ok (.iadd, 1) := by decide +kernel
theorem dL_law_447 : decode cL_law 447 = .ok (.iaload, 1) := by decide +kernel
theorem dL_law_448 : decode cL_law 448 = .ok (.ifCond .eq 7, 3) := by decide +kernel
theorem dL_law_455 : decode cL_law 455 = .ok (.iconst 0, 1) := by decide +kernel
theorem dL_law_456 : decode cL_law 456 = .ok (.invokevirtual 42, 3) := by decide +kernel
theorem dX11_product_0 : decode cX11_product 0 = .ok (.aload_n 0, 1) := by decide +kernel
