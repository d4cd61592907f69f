theorem dX12_on_0 : decode cX12_on 0 = .ok (.aload_n 0, 1) := by decide +kernel
theorem dX12_on_1 : decode cX12_on 1 = .ok (.getfield 148, 3) := by decide +kernel
theorem dX12_on_4 : decode cX12_on 4 = .ok (.istore_n 1, 1) := by decide +kernel
theorem dX12_on_5 : decode cX12_on 5 = .ok (.aload_n 0, 1) := by decide +kernel
theorem dX12_on_6 : decode cX12_on 6 = .ok (.iconst 0, 1) := by decide +kernel
theorem dX12_on_7 : decode cX12_on 7 = .ok (.putfield 148, 3) := by decide +kernel
theorem dX12_on_10 : decode cX12_on 10 = .ok (.iload_n 1, 1) := by decide +kernel
theorem dX12_on_11 : decode cX12_on 11 = .ok (.iconst 2, 1) := by decide +kernel
theorem dX12_on_12 : decode cX12_on 12 = .ok (.aload_n 0, 1) := by decide +kernel
theorem dX12_on_13 : decode cX12_on 13 = .ok (.getfield 240, 3) := by decide +kernel
theorem dX12_on_16 : decode cX12_on 16 = .ok (.imul, 1) := by decide +kernel
theorem dX12_on_17 : decode cX12_on 17 = .ok (.iconst 2, 1) := by decide +kernel
theorem dX12_on_18 : decode cX12_on 18 = .ok (.iadd, 1) := by decide +kernel
theorem dX12_on_19 : decode cX12_on 19 = .ok (.if_icmp .ne 24, 3) := by decide +kernel
theorem dX12_on_43 : decode cX12_on 43 = .ok (.iconst 0, 1) := by decide +kernel
theorem dX12_on_44 : decode cX12_on 44 = .ok (.ireturn, 1) := by decide +kernel
theorem dX12_on_22 : decode cX12_on 22 = .ok (.aload_n 0, 1) := by decide +kernel
theorem dX12_on_23 : decode cX12_on 23 = .ok (.getfield 7, 3) := by decide +kernel
theorem dX12_on_26 : decode cX12_on 26 = .ok (.iload_n 1, 1) := by decide +kernel
theorem dX12_on_27 : decode cX12_on 27 = .ok (.iconst 1, 1) := by decide +kernel
theorem dX12_on_28 : decode cX12_on 28 = .ok (.isub, 1) := by decide +kernel
theorem dX12_on_29 : decode cX12_on 29 = .ok (.iaload, 1) := by decide +kernel
theorem dX12_on_30 : decode cX12_on 30 = .ok (.aload_n 0, 1) := by decide +kernel
theorem dX12_on_31 : decode cX12_on 31 = .ok (.getfield 7, 3) := by decide +kernel
theorem dX12_on_34 : decode cX12_on 34 = .ok (.iload_n 1, 1) := by decide +kernel
theorem dX12_on_35 : decode cX12_on 35 = .ok (.iconst 1, 1) := by decide +kernel
theorem dX12_on_36 : decode cX12_on 36 = .ok (.isub, 1) := by decide +kernel
theorem dX12_on_37 : decode cX12_on 37 = .ok (.invokestatic 495, 3) := by decide +kernel
theorem dX12_on_40 : decode cX12_on 40 = .ok (.if_icmp .eq 5, 3) := by decide +kernel
theorem dX12_on_45 : decode cX12_on 45 = .ok (.aload_n 0, 1) := by decide +kernel
theorem dX12_on_46 : decode cX12_on 46 = .ok (.aload_n 0, 1) := by decide +kernel
theorem dX12_on_47 : decode cX12_on 47 = .ok (.getfield 349, 3) := by decide +kernel
theorem dX12_on_50 : decode cX12_on 50 = .ok (.putfield 499, 3) := by decide +kernel
theorem dX12_on_53 : decode cX12_on 53 = .ok (.aload_n 0, 1) := by decide +kernel
theorem dX12_on_54 : decode cX12_on 54 = .ok (.aload_n 0, 1) := by decide +kernel
theorem dX12_on_55 : decode cX12_on 55 = .ok (.getfield 352, 3) := by decide +kernel
theorem dX12_on_58 : decode cX12_on 58 = .ok (.putfield 502, 3) := by decide +kernel
theorem dX12_on_61 : decode cX12_on 61 = .ok (.aload_n 0, 1) := by decide +kernel
theorem dX12_on_62 : decode cX12_on 62 = .ok (.aload_n 0, 1) := by decide +kernel
theorem dX12_on_63 : decode cX12_on 63 = .ok (.getfield 355, 3) := by decide +kernel
theorem dX12_on_66 : decode cX12_on 66 = .ok (.putfield 505, 3) := by decide +kernel
theorem dX12_on_69 : decode cX12_on 69 = .ok (.aload_n 0, 1) := by decide +kernel
theorem dX12_on_70 : decode cX12_on 70 = .ok (.aload_n 0, 1) := by decide +kernel
theorem dX12_on_71 : decode cX12_on 71 = .ok (.getfield 7, 3) := by decide +kernel
theorem dX12_on_74 : decode cX12_on 74 = .ok (.iload_n 1, 1) := by decide +kernel
theorem dX12_on_75 : decode cX12_on 75 = .ok (.iconst 2, 1) := by decide +kernel
theorem dX12_on_76 : decode cX12_on 76 = .ok (.isub, 1) := by decide +kernel
theorem dX12_on_77 : decode cX12_on 77 = .ok (.iaload, 1) := by decide +kernel
theorem dX12_on_78 : decode cX12_on 78 = .ok (.invokevirtual 508, 3) := by decide +kernel
theorem dX12_canLead_0 : decode cX12_canLead 0 = .ok (.aload_n 0, 1) := by decide +kernel
theorem dX12_canLead_1 : decode cX12_canLead 1 = .ok (.invokevirtual 249, 3) := by decide +kernel
theorem dX12_canLead_4 : decode cX12_canLead 4 = .ok (.aload_n 0, 1) := by decide +kernel
theorem dX12_canLead_5 : decode cX12_canLead 5 = .ok (.getfield 349, 3) := by decide +kernel
theorem dX12_canLead_8 : decode cX12_canLead 8 = .ok (.iload_n 1, 1) := by decide +kernel
theorem dX12_canLead_9 : decode cX12_canLead 9 = .ok (.if_icmp .ge 35, 3) := by decide +kernel
theorem dX12_canLead_44 : decode cX12_canLead 44 = .ok (.aload_n 0, 1) := by decide +kernel
theorem dX12_canLead_45 : decode cX12_canLead 45 = .ok (.getfield 349, 3) := by decide +kernel
theorem dX12_canLead_48 : decode cX12_canLead 48 = .ok (.iload_n 1, 1) := by decide +kernel
theorem dX12_canLead_49 : decode cX12_canLead 49 = .ok (.if_icmp .ne 7, 3) := by decide +kernel
theorem dX12_canLead_56 : decode cX12_canLead 56 = .ok (.iconst 0, 1) := by decide +kernel
theorem dX12_canLead_57 : decode cX12_canLead 57 = .ok (.ireturn, 1) := by decide +kernel
theorem dX12_canLead_52 : decode cX12_canLead 52 = .ok (.iconst 1, 1) := by decide +kernel
theorem dX12_canLead_53 : decode cX12_canLead 53 = .ok (.goto 4, 3) := by decide +kernel
theorem dX12_canLead_12 : decode cX12_canLead 12 = .ok (.aload_n 0, 1) := by decide +kernel
theorem dX12_canLead_13 : decode cX12_canLead 13 = .ok (.invokevirtual 442, 3) := by decide +kernel
theorem dX12_canLead_16 : decode cX12_canLead 16 = .ok (.ifCond .eq 28, 3) := by decide +kernel
theorem dX12_canLead_19 : decode cX12_canLead 19 = .ok (.aload_n 0, 1) := by decide +kernel
theorem dX12_canLead_20 : decode cX12_canLead 20 = .ok (.aload_n 0, 1) := by decide +kernel
theorem dX12_canLead_21 : decode cX12_canLead 21 = .ok (.getfield 349, 3) := by decide +kernel
theorem dX12_canLead_24 : decode cX12_canLead 24 = .ok (.bipush 40, 2) := by decide +kernel
theorem dX12_canLead_26 : decode cX12_canLead 26 = .ok (.if_icmp .ge 10, 3) := by decide +kernel
theorem dX12_canLead_36 : decode cX12_canLead 36 = .ok (.bipush 40, 2) := by decide +kernel
theorem dX12_canLead_38 : decode cX12_canLead 38 = .ok (.putfield 352, 3) := by decide +kernel
theorem dX12_canLead_41 : decode cX12_canLead 41 = .ok (.goto (-37), 3) := by decide +kernel
theorem dX12_canLead_29 : decode cX12_canLead 29 = .ok (.aload_n 0, 1) := by decide +kernel
theorem dX12_canLead_30 : decode cX12_canLead 30 = .ok (.getfield 349, 3) := by decide +kernel
theorem dX12_canLead_33 : decode cX12_canLead 33 = .ok (.goto 5, 3) := by decide +kernel
theorem dX12_on_81 : decode cX12_on 81 = .ok (.ifCond .ne 9, 3) := by decide +kernel
theorem dX12_on_90 : decode cX12_on 90 = .ok (.iconst 0, 1) := by decide +kernel
theorem dX12_on_91 : decode cX12_on 91 = .ok (.istore_n 2, 1) := by decide +kernel
theorem dX12_on_92 : decode cX12_on 92 = .ok (.iload_n 2, 1) := by decide +kernel
theorem dX12_on_93 : decode cX12_on 93 = .ok (.aload_n 0, 1) := by decide +kernel
theorem dX12_on_94 : decode cX12_on 94 = .ok (.getfield 240, 3) := by decide +kernel
theorem dX12_on_97 : decode cX12_on 97 = .ok (.if_icmp .ge 55, 3) := by decide +kernel
theorem dX12_on_152 : decode cX12_on 152 = .ok (.iconst 1, 1) := by decide +kernel
theorem dX12_on_153 : decode cX12_on 153 = .ok (.ireturn, 1) := by decide +kernel
theorem dX12_on_100 : decode cX12_on 100 = .ok (.sipush 256, 3) := by decide +kernel
theorem dX12_on_103 : decode cX12_on 103 = .ok (.aload_n 0, 1) := by decide +kernel
theorem dX12_on_104 : decode cX12_on 104 = .ok (.getfield 7, 3) := by decide +kernel
theorem dX12_on_107 : decode cX12_on 107 = .ok (.iconst 2, 1) := by decide +kernel
theorem dX12_on_108 : decode cX12_on 108 = .ok (.iload_n 2, 1) := by decide +kernel
theorem dX12_on_109 : decode cX12_on 109 = .ok (.imul, 1) := by decide +kernel
theorem dX12_on_110 : decode cX12_on 110 = .ok (.iaload, 1) := by decide +kernel
theorem dX12_on_111 : decode cX12_on 111 = .ok (.imul, 1) := by decide +kernel
theorem dX12_on_112 : decode cX12_on 112 = .ok (.aload_n 0, 1) := by decide +kernel
theorem dX12_on_113 : decode cX12_on 113 = .ok (.getfield 7, 3) := by decide +kernel
theorem dX12_on_116 : decode cX12_on 116 = .ok (.iconst 2, 1) := by decide +kernel
theorem dX12_on_117 : decode cX12_on 117 = .ok (.iload_n 2, 1) := by decide +kernel
theorem dX12_on_118 : decode cX12_on 118 = .ok (.imul, 1) := by decide +kernel
theorem dX12_on_119 : decode cX12_on 119 = .ok (.iconst 1, 1) := by decide +kernel
theorem dX12_on_120 : decode cX12_on 120 = .ok (.iadd, 1) := by decide +kernel
theorem dX12_on_121 : decode cX12_on 121 = .ok (.iaload, 1) := by decide +kernel
theorem dX12_on_122 : decode cX12_on 122 = .ok (.iadd, 1) := by decide +kernel
theorem dX12_on_123 : decode cX12_on 123 = .ok (.istore_n 3, 1) := by decide +kernel
theorem dX12_on_124 : decode cX12_on 124 = .ok (.aload_n 0, 1) := by decide +kernel
theorem dX12_on_125 : decode cX12_on 125 = .ok (.getfield 100, 3) := by decide +kernel
theorem dX12_on_128 : decode cX12_on 128 = .ok (.iload_n 2, 1) := by decide +kernel
theorem dX12_on_129 : decode cX12_on 129 = .ok (.iload_n 3, 1) := by decide +kernel
theorem dX12_on_130 : decode cX12_on 130 = .ok (.sipush 32767, 3) := by decide +kernel
theorem dX12_on_133 : decode cX12_on 133 = .ok (.if_icmp .le 11, 3) := by decide +kernel
theorem dX12_on_144 : decode cX12_on 144 = .ok (.iload_n 3, 1) := by decide +kernel
theorem dX12_on_145 : decode cX12_on 145 = .ok (.iastore, 1) := by decide +kernel
theorem dX12_on_146 : decode cX12_on 146 = .ok (.iinc 2 1, 3) := by decide +kernel
theorem dX12_on_149 : decode cX12_on 149 = .ok (.goto (-57), 3) := by decide +kernel
theorem dX12_on_136 : decode cX12_on 136 = .ok (.iload_n 3, 1) := by decide +kernel
theorem dX12_on_137 : decode cX12_on 137 = .ok (.ldc_w 370, 3) := by decide +kernel
theorem dX12_on_140 : decode cX12_on 140 = .ok (.isub, 1) := by decide +kernel
theorem dX12_on_141 : decode cX12_on 141 = .ok (.goto 4, 3) := by decide +kernel
theorem dX12_on_84 : decode cX12_on 84 = .ok (.aload_n 0, 1) := by decide +kernel
theorem dX12_on_85 : decode cX12_on 85 = .ok (.invokevirtual 511, 3) := by decide +kernel
theorem dX12_takesBack_0 : decode cX12_takesBack 0 = .ok (.aload_n 0, 1) := by decide +kernel
theorem dX12_takesBack_1 : decode cX12_takesBack 1 = .ok (.getfield 499, 3) := by decide +kernel
theorem dX12_takesBack_4 : decode cX12_takesBack 4 = .ok (.aload_n 0, 1) := by decide +kernel
theorem dX12_takesBack_5 : decode cX12_takesBack 5 = .ok (.getfield 505, 3) := by decide +kernel
theorem dX12_takesBack_8 : decode cX12_takesBack 8 = .ok (.iadd, 1) := by decide +kernel
theorem dX12_takesBack_9 : decode cX12_takesBack 9 = .ok (.istore_n 1, 1) := by decide +kernel
theorem dX12_takesBack_10 : decode cX12_takesBack 10 = .ok (.aload_n 0, 1) := by decide +kernel
theorem dX12_takesBack_11 : decode cX12_takesBack 11 = .ok (.iload_n 1, 1) := by decide +kernel
theorem dX12_takesBack_12 : decode cX12_takesBack 12 = .ok (.invokevirtual 508, 3) := by decide +kernel
theorem dX12_takesBack_15 : decode cX12_takesBack 15 = .ok (.istore_n 2, 1) := by decide +kernel
theorem dX12_takesBack_16 : decode cX12_takesBack 16 = .ok (.aload_n 0, 1) := by decide +kernel
theorem dX12_takesBack_17 : decode cX12_takesBack 17 = .ok (.getfield 349, 3) := by decide +kernel
theorem dX12_takesBack_20 : decode cX12_takesBack 20 = .ok (.aload_n 0, 1) := by decide +kernel
theorem dX12_takesBack_21 : decode cX12_takesBack 21 = .ok (.getfield 499, 3) := by decide +kernel
theorem dX12_takesBack_24 : decode cX12_takesBack 24 = .ok (.if_icmp .le 48, 3) := by decide +kernel
theorem dX12_takesBack_72 : decode cX12_takesBack 72 = .ok (.aload_n 0, 1) := by decide +kernel
theorem dX12_takesBack_73 : decode cX12_takesBack 73 = .ok (.aload_n 0, 1) := by decide +kernel
theorem dX12_takesBack_74 : decode cX12_takesBack 74 = .ok (.getfield 502, 3) := by decide +kernel
theorem dX12_takesBack_77 : decode cX12_takesBack 77 = .ok (.putfield 352, 3) := by decide +kernel
theorem dX12_takesBack_80 : decode cX12_takesBack 80 = .ok (.aload_n 0, 1) := by decide +kernel
theorem dX12_takesBack_81 : decode cX12_takesBack 81 = .ok (.aload_n 0, 1) := by decide +kernel
theorem dX12_takesBack_82 : decode cX12_takesBack 82 = .ok (.getfield 505, 3) := by decide +kernel
theorem dX12_takesBack_85 : decode cX12_takesBack 85 = .ok (.putfield 355, 3) := by decide +kernel
theorem dX12_takesBack_88 : decode cX12_takesBack 88 = .ok (.return_, 1) := by decide +kernel
theorem dX12_takesBack_27 : decode cX12_takesBack 27 = .ok (.aload_n 0, 1) := by decide +kernel
theorem dX12_takesBack_28 : decode cX12_takesBack 28 = .ok (.dup, 1) := by decide +kernel
theorem dX12_takesBack_29 : decode cX12_takesBack 29 = .ok (.getfield 349, 3) := by decide +kernel
theorem dX12_takesBack_32 : decode cX12_takesBack 32 = .ok (.iconst 1, 1) := by decide +kernel
theorem dX12_takesBack_33 : decode cX12_takesBack 33 = .ok (.isub, 1) := by decide +kernel
theorem dX12_takesBack_34 : decode cX12_takesBack 34 = .ok (.putfield 349, 3) := by decide +kernel
theorem dX12_takesBack_37 : decode cX12_takesBack 37 = .ok (.aload_n 0, 1) := by decide +kernel
theorem dX12_takesBack_38 : decode cX12_takesBack 38 = .ok (.aload_n 0, 1) := by decide +kernel
theorem dX12_takesBack_39 : decode cX12_takesBack 39 = .ok (.getfield 124, 3) := by decide +kernel
theorem dX12_takesBack_42 : decode cX12_takesBack 42 = .ok (.aload_n 0, 1) := by decide +kernel
theorem dX12_takesBack_43 : decode cX12_takesBack 43 = .ok (.getfield 349, 3) := by decide +kernel
theorem dX12_takesBack_46 : decode cX12_takesBack 46 = .ok (.iaload, 1) := by decide +kernel
theorem dX12_takesBack_47 : decode cX12_takesBack 47 = .ok (.aload_n 0, 1) := by decide +kernel
theorem dX12_takesBack_48 : decode cX12_takesBack 48 = .ok (.getfield 127, 3) := by decide +kernel
theorem dX12_takesBack_51 : decode cX12_takesBack 51 = .ok (.aload_n 0, 1) := by decide +kernel
theorem dX12_takesBack_52 : decode cX12_takesBack 52 = .ok (.getfield 349, 3) := by decide +kernel
theorem dX12_takesBack_55 : decode cX12_takesBack 55 = .ok (.iaload, 1) := by decide +kernel
theorem dX12_takesBack_56 : decode cX12_takesBack 56 = .ok (.aload_n 0, 1) := by decide +kernel
theorem dX12_takesBack_57 : decode cX12_takesBack 57 = .ok (.getfield 130, 3) := by decide +kernel
theorem dX12_takesBack_60 : decode cX12_takesBack 60 = .ok (.aload_n 0, 1) := by decide +kernel
theorem dX12_takesBack_61 : decode cX12_takesBack 61 = .ok (.getfield 349, 3) := by decide +kernel
theorem dX12_takesBack_64 : decode cX12_takesBack 64 = .ok (.iaload, 1) := by decide +kernel
theorem dX12_takesBack_65 : decode cX12_takesBack 65 = .ok (.ineg, 1) := by decide +kernel
theorem dX12_takesBack_66 : decode cX12_takesBack 66 = .ok (.invokevirtual 436, 3) := by decide +kernel
theorem dX12_takesBack_69 : decode cX12_takesBack 69 = .ok (.goto (-53), 3) := by decide +kernel
theorem dX12_on_88 : decode cX12_on 88 = .ok (.iconst 0, 1) := by decide +kernel
theorem dX12_on_89 : decode cX12_on 89 = .ok (.ireturn, 1) := by decide +kernel
