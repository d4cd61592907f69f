theorem dX11_code_50 : decode cX11_code 50 = .ok (.ldc2_w 212, 3) := dq_20 (a := 0) (b := 212) (by decide +kernel) rfl
theorem dX11_code_53 : decode cX11_code 53 = .ok (.lreturn, 1) := dq_173 (by decide +kernel)
theorem dX11_code_34 : decode cX11_code 34 = .ok (.iload_n 1, 1) := dq_27 (by decide +kernel)
theorem dX11_code_35 : decode cX11_code 35 = .ok (.iconst 2, 1) := dq_5 (by decide +kernel)
theorem dX11_code_36 : decode cX11_code 36 = .ok (.if_icmp .gt 14, 3) := dq_163 (a := 0) (b := 14) (by decide +kernel) (by decide +kernel)
theorem dX11_code_39 : decode cX11_code 39 = .ok (.aload_n 0, 1) := dq_42 (by decide +kernel)
theorem dX11_code_40 : decode cX11_code 40 = .ok (.getfield 69, 3) := dq_180 (a := 0) (b := 69) (by decide +kernel) rfl
theorem dX11_code_43 : decode cX11_code 43 = .ok (.getfield 145, 3) := dq_180 (a := 0) (b := 145) (by decide +kernel) rfl
theorem dX11_code_46 : decode cX11_code 46 = .ok (.iconst 2, 1) := dq_5 (by decide +kernel)
theorem dX11_code_47 : decode cX11_code 47 = .ok (.if_icmp .ge 7, 3) := dq_162 (a := 0) (b := 7) (by decide +kernel) (by decide +kernel)
theorem dX11_code_54 : decode cX11_code 54 = .ok (.aload_n 0, 1) := dq_42 (by decide +kernel)
theorem dX11_code_55 : decode cX11_code 55 = .ok (.getfield 38, 3) := dq_180 (a := 0) (b := 38) (by decide +kernel) rfl
theorem dX11_code_58 : decode cX11_code 58 = .ok (.aload_n 0, 1) := dq_42 (by decide +kernel)
theorem dX11_code_59 : decode cX11_code 59 = .ok (.getfield 69, 3) := dq_180 (a := 0) (b := 69) (by decide +kernel) rfl
theorem dX11_code_62 : decode cX11_code 62 = .ok (.invokevirtual 350, 3) := dq_182 (a := 1) (b := 94) (by decide +kernel) rfl
theorem dX11_code_65 : decode cX11_code 65 = .ok (.aload_n 0, 1) := dq_42 (by decide +kernel)
theorem dX11_code_66 : decode cX11_code 66 = .ok (.getfield 38, 3) := dq_180 (a := 0) (b := 38) (by decide +kernel) rfl
theorem dX11_code_69 : decode cX11_code 69 = .ok (.iconst (-1), 1) := dq_2 (by decide +kernel)
theorem dX11_code_70 : decode cX11_code 70 = .ok (.invokevirtual 352, 3) := dq_182 (a := 1) (b := 96) (by decide +kernel) rfl
theorem dX11_code_73 : decode cX11_code 73 = .ok (.iload_n 1, 1) := dq_27 (by decide +kernel)
theorem dX11_code_74 : decode cX11_code 74 = .ok (.ifCond .ne 11, 3) := dq_154 (a := 0) (b := 11) (by decide +kernel) (by decide +kernel)
theorem dX11_code_85 : decode cX11_code 85 = .ok (.iload_n 1, 1) := dq_27 (by decide +kernel)
theorem dX11_code_86 : decode cX11_code 86 = .ok (.iconst 1, 1) := dq_4 (by decide +kernel)
theorem dX11_code_87 : decode cX11_code 87 = .ok (.if_icmp .ne 14, 3) := dq_160 (a := 0) (b := 14) (by decide +kernel) (by decide +kernel)
theorem dX11_code_101 : decode cX11_code 101 = .ok (.aload_n 0, 1) := dq_42 (by decide +kernel)
theorem dX11_code_102 : decode cX11_code 102 = .ok (.getfield 38, 3) := dq_180 (a := 0) (b := 38) (by decide +kernel) rfl
theorem dX11_code_105 : decode cX11_code 105 = .ok (.getfield 361, 3) := dq_180 (a := 1) (b := 105) (by decide +kernel) rfl
theorem dX11_code_108 : decode cX11_code 108 = .ok (.i2l, 1) := dq_133 (by decide +kernel)
theorem dX11_code_109 : decode cX11_code 109 = .ok (.lreturn, 1) := dq_173 (by decide +kernel)
theorem dX11_code_90 : decode cX11_code 90 = .ok (.aload_n 0, 1) := dq_42 (by decide +kernel)
theorem dX11_code_91 : decode cX11_code 91 = .ok (.getfield 38, 3) := dq_180 (a := 0) (b := 38) (by decide +kernel) rfl
theorem dX11_code_94 : decode cX11_code 94 = .ok (.getfield 358, 3) := dq_180 (a := 1) (b := 102) (by decide +kernel) rfl
theorem dX11_code_97 : decode cX11_code 97 = .ok (.i2l, 1) := dq_133 (by decide +kernel)
theorem dX11_code_98 : decode cX11_code 98 = .ok (.goto 11, 3) := dq_167 (a := 0) (b := 11) (by decide +kernel) (by decide +kernel)
theorem dX11_code_77 : decode cX11_code 77 = .ok (.aload_n 0, 1) := dq_42 (by decide +kernel)
theorem dX11_code_78 : decode cX11_code 78 = .ok (.getfield 38, 3) := dq_180 (a := 0) (b := 38) (by decide +kernel) rfl
theorem dX11_code_81 : decode cX11_code 81 = .ok (.getfield 355, 3) := dq_180 (a := 1) (b := 99) (by decide +kernel) rfl
theorem dX11_code_84 : decode cX11_code 84 = .ok (.lreturn, 1) := dq_173 (by decide +kernel)
theorem dX11_code_5 : decode cX11_code 5 = .ok (.aload_n 0, 1) := dq_42 (by decide +kernel)
theorem dX11_code_6 : decode cX11_code 6 = .ok (.getfield 69, 3) := dq_180 (a := 0) (b := 69) (by decide +kernel) rfl
theorem dX11_code_9 : decode cX11_code 9 = .ok (.getfield 145, 3) := dq_180 (a := 0) (b := 145) (by decide +kernel) rfl
theorem dX11_code_12 : decode cX11_code 12 = .ok (.ifCond .ne 9, 3) := dq_154 (a := 0) (b := 9) (by decide +kernel) (by decide +kernel)
theorem dX11_code_21 : decode cX11_code 21 = .ok (.aload_n 0, 1) := dq_42 (by decide +kernel)
theorem dX11_code_22 : decode cX11_code 22 = .ok (.getfield 69, 3) := dq_180 (a := 0) (b := 69) (by decide +kernel) rfl
theorem dX11_code_25 : decode cX11_code 25 = .ok (.invokevirtual 347, 3) := dq_182 (a := 1) (b := 91) (by decide +kernel) rfl
theorem dX11_code_28 : decode cX11_code 28 = .ok (.i2l, 1) := dq_133 (by decide +kernel)
theorem dX11_code_29 : decode cX11_code 29 = .ok (.lreturn, 1) := dq_173 (by decide +kernel)
theorem dX11_code_15 : decode cX11_code 15 = .ok (.ldc2_w 212, 3) := dq_20 (a := 0) (b := 212) (by decide +kernel) rfl
theorem dX11_code_18 : decode cX11_code 18 = .ok (.goto 11, 3) := dq_167 (a := 0) (b := 11) (by decide +kernel) (by decide +kernel)
theorem dX11_decode_0 : decode cX11_decode 0 = .ok (.iconst (-1), 1) := dq_2 (by decide +kernel)
theorem dX11_decode_1 : decode cX11_decode 1 = .ok (.istore_n 1, 1) := dq_60 (by decide +kernel)
theorem dX11_decode_2 : decode cX11_decode 2 = .ok (.lconst 0, 1) := dq_9 (by decide +kernel)
theorem dX11_decode_3 : decode cX11_decode 3 = .ok (.lstore_n 2, 1) := dq_65 (by decide +kernel)
theorem dX11_decode_4 : decode cX11_decode 4 = .ok (.iconst 0, 1) := dq_3 (by decide +kernel)
theorem dX11_decode_5 : decode cX11_decode 5 = .ok (.istore 4, 2) := dq_54 (a := 4) (by decide +kernel) rfl
theorem dX11_decode_7 : decode cX11_decode 7 = .ok (.iload 4, 2) := dq_21 (a := 4) (by decide +kernel) rfl
theorem dX11_decode_9 : decode cX11_decode 9 = .ok (.aload_n 0, 1) := dq_42 (by decide +kernel)
theorem dX11_decode_10 : decode cX11_decode 10 = .ok (.getfield 69, 3) := dq_180 (a := 0) (b := 69) (by decide +kernel) rfl
theorem dX11_decode_13 : decode cX11_decode 13 = .ok (.getfield 145, 3) := dq_180 (a := 0) (b := 145) (by decide +kernel) rfl
theorem dX11_decode_16 : decode cX11_decode 16 = .ok (.if_icmp .ge 57, 3) := dq_162 (a := 0) (b := 57) (by decide +kernel) (by decide +kernel)
theorem dX11_decode_73 : decode cX11_decode 73 = .ok (.iload_n 1, 1) := dq_27 (by decide +kernel)
theorem dX11_decode_74 : decode cX11_decode 74 = .ok (.ireturn, 1) := dq_172 (by decide +kernel)
theorem dX11_decode_19 : decode cX11_decode 19 = .ok (.aload_n 0, 1) := dq_42 (by decide +kernel)
theorem dX11_decode_20 : decode cX11_decode 20 = .ok (.getfield 69, 3) := dq_180 (a := 0) (b := 69) (by decide +kernel) rfl
theorem dX11_decode_23 : decode cX11_decode 23 = .ok (.iload 4, 2) := dq_21 (a := 4) (by decide +kernel) rfl
theorem dX11_decode_25 : decode cX11_decode 25 = .ok (.aload_n 0, 1) := dq_42 (by decide +kernel)
theorem dX11_decode_26 : decode cX11_decode 26 = .ok (.getfield 53, 3) := dq_180 (a := 0) (b := 53) (by decide +kernel) rfl
theorem dX11_decode_29 : decode cX11_decode 29 = .ok (.invokevirtual 364, 3) := dq_182 (a := 1) (b := 108) (by decide +kernel) rfl
theorem dX11_decode_32 : decode cX11_decode 32 = .ok (.aload_n 0, 1) := dq_42 (by decide +kernel)
theorem dX11_decode_33 : decode cX11_decode 33 = .ok (.getfield 69, 3) := dq_180 (a := 0) (b := 69) (by decide +kernel) rfl
theorem dX11_decode_36 : decode cX11_decode 36 = .ok (.aload_n 0, 1) := dq_42 (by decide +kernel)
theorem dX11_decode_37 : decode cX11_decode 37 = .ok (.getfield 53, 3) := dq_180 (a := 0) (b := 53) (by decide +kernel) rfl
theorem dX11_decode_40 : decode cX11_decode 40 = .ok (.aload_n 0, 1) := dq_42 (by decide +kernel)
theorem dX11_decode_41 : decode cX11_decode 41 = .ok (.getfield 49, 3) := dq_180 (a := 0) (b := 49) (by decide +kernel) rfl
theorem dX11_decode_44 : decode cX11_decode 44 = .ok (.invokevirtual 208, 3) := dq_182 (a := 0) (b := 208) (by decide +kernel) rfl
theorem dX11_decode_47 : decode cX11_decode 47 = .ok (.lstore 5, 2) := dq_55 (a := 5) (by decide +kernel) rfl
theorem dX11_decode_49 : decode cX11_decode 49 = .ok (.iload_n 1, 1) := dq_27 (by decide +kernel)
theorem dX11_decode_50 : decode cX11_decode 50 = .ok (.iconst (-1), 1) := dq_2 (by decide +kernel)
theorem dX11_decode_51 : decode cX11_decode 51 = .ok (.if_icmp .eq 10, 3) := dq_159 (a := 0) (b := 10) (by decide +kernel) (by decide +kernel)
theorem dX11_decode_61 : decode cX11_decode 61 = .ok (.iload 4, 2) := dq_21 (a := 4) (by decide +kernel) rfl
theorem dX11_decode_63 : decode cX11_decode 63 = .ok (.istore_n 1, 1) := dq_60 (by decide +kernel)
theorem dX11_decode_64 : decode cX11_decode 64 = .ok (.lload 5, 2) := dq_22 (a := 5) (by decide +kernel) rfl
theorem dX11_decode_66 : decode cX11_decode 66 = .ok (.lstore_n 2, 1) := dq_65 (by decide +kernel)
theorem dX11_decode_67 : decode cX11_decode 67 = .ok (.iinc 4 1, 3) := dq_132 (a := 4) (b := 1) (by decide +kernel) rfl (by decide +kernel)
theorem dX11_decode_70 : decode cX11_decode 70 = .ok (.goto (-63), 3) := dq_167 (a := 255) (b := 193) (by decide +kernel) (by decide +kernel)
theorem dX11_decode_54 : decode cX11_decode 54 = .ok (.lload 5, 2) := dq_22 (a := 5) (by decide +kernel) rfl
theorem dX11_decode_56 : decode cX11_decode 56 = .ok (.lload_n 2, 1) := dq_32 (by decide +kernel)
theorem dX11_decode_57 : decode cX11_decode 57 = .ok (.lcmp, 1) := dq_148 (by decide +kernel)
theorem dX11_decode_58 : decode cX11_decode 58 = .ok (.ifCond .ge 9, 3) := dq_156 (a := 0) (b := 9) (by decide +kernel) (by decide +kernel)
theorem dX11_leave_0 : decode cX11_leave 0 = .ok (.iload_n 1, 1) := dq_27 (by decide +kernel)
theorem dX11_leave_1 : decode cX11_leave 1 = .ok (.ifCond .lt 19, 3) := dq_155 (a := 0) (b := 19) (by decide +kernel) (by decide +kernel)
theorem dX11_leave_20 : decode cX11_leave 20 = .ok (.ldc2_w 212, 3) := dq_20 (a := 0) (b := 212) (by decide +kernel) rfl
theorem dX11_leave_23 : decode cX11_leave 23 = .ok (.lreturn, 1) := dq_173 (by decide +kernel)
theorem dX11_leave_4 : decode cX11_leave 4 = .ok (.iload_n 1, 1) := dq_27 (by decide +kernel)
theorem dX11_leave_5 : decode cX11_leave 5 = .ok (.iconst 1, 1) := dq_4 (by decide +kernel)
theorem dX11_leave_6 : decode cX11_leave 6 = .ok (.if_icmp .gt 14, 3) := dq_163 (a := 0) (b := 14) (by decide +kernel) (by decide +kernel)
theorem dX11_leave_9 : decode cX11_leave 9 = .ok (.aload_n 0, 1) := dq_42 (by decide +kernel)
theorem dX11_leave_10 : decode cX11_leave 10 = .ok (.getfield 69, 3) := dq_180 (a := 0) (b := 69) (by decide +kernel) rfl
theorem dX11_leave_13 : decode cX11_leave 13 = .ok (.getfield 145, 3) := dq_180 (a := 0) (b := 145) (by decide +kernel) rfl
theorem dX11_leave_16 : decode cX11_leave 16 = .ok (.iconst 3, 1) := dq_6 (by decide +kernel)
theorem dX11_leave_17 : decode cX11_leave 17 = .ok (.if_icmp .ge 7, 3) := dq_162 (a := 0) (b := 7) (by decide +kernel) (by decide +kernel)
theorem dX11_leave_24 : decode cX11_leave 24 = .ok (.aload_n 0, 1) := dq_42 (by decide +kernel)
theorem dX11_leave_25 : decode cX11_leave 25 = .ok (.getfield 38, 3) := dq_180 (a := 0) (b := 38) (by decide +kernel) rfl
theorem dX11_leave_28 : decode cX11_leave 28 = .ok (.aload_n 0, 1) := dq_42 (by decide +kernel)
theorem dX11_leave_29 : decode cX11_leave 29 = .ok (.getfield 69, 3) := dq_180 (a := 0) (b := 69) (by decide +kernel) rfl
theorem dX11_leave_32 : decode cX11_leave 32 = .ok (.invokevirtual 350, 3) := dq_182 (a := 1) (b := 94) (by decide +kernel) rfl
theorem dX11_leave_35 : decode cX11_leave 35 = .ok (.iconst (-1), 1) := dq_2 (by decide +kernel)
theorem dX11_leave_36 : decode cX11_leave 36 = .ok (.istore_n 2, 1) := dq_61 (by decide +kernel)
theorem dX11_leave_37 : decode cX11_leave 37 = .ok (.lconst 0, 1) := dq_9 (by decide +kernel)
theorem dX11_leave_38 : decode cX11_leave 38 = .ok (.lstore_n 3, 1) := dq_66 (by decide +kernel)
theorem dX11_leave_39 : decode cX11_leave 39 = .ok (.iconst 0, 1) := dq_3 (by decide +kernel)
theorem dX11_leave_40 : decode cX11_leave 40 = .ok (.istore 5, 2) := dq_54 (a := 5) (by decide +kernel) rfl
theorem dX11_leave_42 : decode cX11_leave 42 = .ok (.iload 5, 2) := dq_21 (a := 5) (by decide +kernel) rfl
theorem dX11_leave_44 : decode cX11_leave 44 = .ok (.aload_n 0, 1) := dq_42 (by decide +kernel)
theorem dX11_leave_45 : decode cX11_leave 45 = .ok (.getfield 69, 3) := dq_180 (a := 0) (b := 69) (by decide +kernel) rfl
theorem dX11_leave_48 : decode cX11_leave 48 = .ok (.getfield 145, 3) := dq_180 (a := 0) (b := 145) (by decide +kernel) rfl
theorem dX11_leave_51 : decode cX11_leave 51 = .ok (.if_icmp .ge 46, 3) := dq_162 (a := 0) (b := 46) (by decide +kernel) (by decide +kernel)
theorem dX11_leave_54 : decode cX11_leave 54 = .ok (.aload_n 0, 1) := dq_42 (by decide +kernel)
theorem dX11_leave_55 : decode cX11_leave 55 = .ok (.getfield 38, 3) := dq_180 (a := 0) (b := 38) (by decide +kernel) rfl
theorem dX11_leave_58 : decode cX11_leave 58 = .ok (.iload 5, 2) := dq_21 (a := 5) (by decide +kernel) rfl
theorem dX11_leave_60 : decode cX11_leave 60 = .ok (.invokevirtual 352, 3) := dq_182 (a := 1) (b := 96) (by decide +kernel) rfl
theorem dX11_leave_63 : decode cX11_leave 63 = .ok (.iload_n 2, 1) := dq_28 (by decide +kernel)
theorem dX11_leave_64 : decode cX11_leave 64 = .ok (.iconst (-1), 1) := dq_2 (by decide +kernel)
theorem dX11_leave_65 : decode cX11_leave 65 = .ok (.if_icmp .eq 15, 3) := dq_159 (a := 0) (b := 15) (by decide +kernel) (by decide +kernel)
theorem dX11_leave_80 : decode cX11_leave 80 = .ok (.iload 5, 2) := dq_21 (a := 5) (by decide +kernel) rfl
theorem dX11_leave_82 : decode cX11_leave 82 = .ok (.istore_n 2, 1) := dq_61 (by decide +kernel)
theorem dX11_leave_83 : decode cX11_leave 83 = .ok (.aload_n 0, 1) := dq_42 (by decide +kernel)
theorem dX11_leave_84 : decode cX11_leave 84 = .ok (.getfield 38, 3) := dq_180 (a := 0) (b := 38) (by decide +kernel) rfl
theorem dX11_leave_87 : decode cX11_leave 87 = .ok (.getfield 355, 3) := dq_180 (a := 1) (b := 99) (by decide +kernel) rfl
theorem dX11_leave_90 : decode cX11_leave 90 = .ok (.lstore_n 3, 1) := dq_66 (by decide +kernel)
theorem dX11_leave_91 : decode cX11_leave 91 = .ok (.iinc 5 1, 3) := dq_132 (a := 5) (b := 1) (by decide +kernel) rfl (by decide +kernel)
theorem dX11_leave_94 : decode cX11_leave 94 = .ok (.goto (-52), 3) := dq_167 (a := 255) (b := 204) (by decide +kernel) (by decide +kernel)
theorem dX11_leave_97 : decode cX11_leave 97 = .ok (.iload_n 1, 1) := dq_27 (by decide +kernel)
theorem dX11_leave_98 : decode cX11_leave 98 = .ok (.ifCond .ne 8, 3) := dq_154 (a := 0) (b := 8) (by decide +kernel) (by decide +kernel)
theorem dX11_leave_106 : decode cX11_leave 106 = .ok (.lload_n 3, 1) := dq_33 (by decide +kernel)
theorem dX11_leave_107 : decode cX11_leave 107 = .ok (.lreturn, 1) := dq_173 (by decide +kernel)
theorem dX11_leave_101 : decode cX11_leave 101 = .ok (.iload_n 2, 1) := dq_28 (by decide +kernel)
theorem dX11_leave_102 : decode cX11_leave 102 = .ok (.i2l, 1) := dq_133 (by decide +kernel)
theorem dX11_leave_103 : decode cX11_leave 103 = .ok (.goto 4, 3) := dq_167 (a := 0) (b := 4) (by decide +kernel) (by decide +kernel)
theorem dX11_leave_68 : decode cX11_leave 68 = .ok (.aload_n 0, 1) := dq_42 (by decide +kernel)
theorem dX11_leave_69 : decode cX11_leave 69 = .ok (.getfield 38, 3) := dq_180 (a := 0) (b := 38) (by decide +kernel) rfl
theorem dX11_leave_72 : decode cX11_leave 72 = .ok (.getfield 355, 3) := dq_180 (a := 1) (b := 99) (by decide +kernel) rfl
theorem dX11_leave_75 : decode cX11_leave 75 = .ok (.lload_n 3, 1) := dq_33 (by decide +kernel)
theorem dX11_leave_76 : decode cX11_leave 76 = .ok (.lcmp, 1) := dq_148 (by decide +kernel)
theorem dX11_leave_77 : decode cX11_leave 77 = .ok (.ifCond .le 14, 3) := dq_158 (a := 0) (b := 14) (by decide +kernel) (by decide +kernel)
theorem dX11_behind_0 : decode cX11_behind 0 = .ok (.aload_n 0, 1) := dq_42 (by decide +kernel)
theorem dX11_behind_1 : decode cX11_behind 1 = .ok (.getfield 69, 3) := dq_180 (a := 0) (b := 69) (by decide +kernel) rfl
theorem dX11_behind_4 : decode cX11_behind 4 = .ok (.iload_n 1, 1) := dq_27 (by decide +kernel)
theorem dX11_behind_5 : decode cX11_behind 5 = .ok (.invokevirtual 341, 3) := dq_182 (a := 1) (b := 85) (by decide +kernel) rfl
theorem dX11_behind_8 : decode cX11_behind 8 = .ok (.ifCond .ne 5, 3) := dq_154 (a := 0) (b := 5) (by decide +kernel) (by decide +kernel)
theorem dX11_behind_13 : decode cX11_behind 13 = .ok (.aload_n 0, 1) := dq_42 (by decide +kernel)
theorem dX11_behind_14 : decode cX11_behind 14 = .ok (.getfield 69, 3) := dq_180 (a := 0) (b := 69) (by decide +kernel) rfl
theorem dX11_behind_17 : decode cX11_behind 17 = .ok (.iload_n 1, 1) := dq_27 (by decide +kernel)
theorem dX11_behind_18 : decode cX11_behind 18 = .ok (.aload_n 0, 1) := dq_42 (by decide +kernel)
theorem dX11_behind_19 : decode cX11_behind 19 = .ok (.getfield 53, 3) := dq_180 (a := 0) (b := 53) (by decide +kernel) rfl
theorem dX11_behind_22 : decode cX11_behind 22 = .ok (.invokevirtual 364, 3) := dq_182 (a := 1) (b := 108) (by decide +kernel) rfl
theorem dX11_behind_25 : decode cX11_behind 25 = .ok (.aload_n 0, 1) := dq_42 (by decide +kernel)
theorem dX11_behind_26 : decode cX11_behind 26 = .ok (.getfield 69, 3) := dq_180 (a := 0) (b := 69) (by decide +kernel) rfl
theorem dX11_behind_29 : decode cX11_behind 29 = .ok (.aload_n 0, 1) := dq_42 (by decide +kernel)
theorem dX11_behind_30 : decode cX11_behind 30 = .ok (.getfield 53, 3) := dq_180 (a := 0) (b := 53) (by decide +kernel) rfl
theorem dX11_behind_33 : decode cX11_behind 33 = .ok (.aload_n 0, 1) := dq_42 (by decide +kernel)
theorem dX11_behind_34 : decode cX11_behind 34 = .ok (.getfield 49, 3) := dq_180 (a := 0) (b := 49) (by decide +kernel) rfl
theorem dX11_behind_37 : decode cX11_behind 37 = .ok (.invokevirtual 208, 3) := dq_182 (a := 0) (b := 208) (by decide +kernel) rfl
theorem dX11_behind_40 : decode cX11_behind 40 = .ok (.lstore_n 2, 1) := dq_65 (by decide +kernel)
theorem dX11_behind_41 : decode cX11_behind 41 = .ok (.aload_n 0, 1) := dq_42 (by decide +kernel)
theorem dX11_behind_42 : decode cX11_behind 42 = .ok (.getfield 24, 3) := dq_180 (a := 0) (b := 24) (by decide +kernel) rfl
theorem dX11_behind_45 : decode cX11_behind 45 = .ok (.aload_n 0, 1) := dq_42 (by decide +kernel)
theorem dX11_behind_46 : decode cX11_behind 46 = .ok (.getfield 69, 3) := dq_180 (a := 0) (b := 69) (by decide +kernel) rfl
theorem dX11_behind_49 : decode cX11_behind 49 = .ok (.aload_n 0, 1) := dq_42 (by decide +kernel)
theorem dX11_behind_50 : decode cX11_behind 50 = .ok (.getfield 49, 3) := dq_180 (a := 0) (b := 49) (by decide +kernel) rfl
theorem dX11_behind_53 : decode cX11_behind 53 = .ok (.lload_n 2, 1) := dq_32 (by decide +kernel)
theorem dX11_behind_54 : decode cX11_behind 54 = .ok (.aload_n 0, 1) := dq_42 (by decide +kernel)
theorem dX11_behind_55 : decode cX11_behind 55 = .ok (.getfield 69, 3) := dq_180 (a := 0) (b := 69) (by decide +kernel) rfl
theorem dX11_behind_58 : decode cX11_behind 58 = .ok (.aload_n 0, 1) := dq_42 (by decide +kernel)
theorem dX11_behind_59 : decode cX11_behind 59 = .ok (.getfield 53, 3) := dq_180 (a := 0) (b := 53) (by decide +kernel) rfl
theorem dX11_behind_62 : decode cX11_behind 62 = .ok (.invokevirtual 368, 3) := dq_182 (a := 1) (b := 112) (by decide +kernel) rfl
theorem dX11_behind_65 : decode cX11_behind 65 = .ok (.invokevirtual 266, 3) := dq_182 (a := 1) (b := 10) (by decide +kernel) rfl
theorem dX11_behind_68 : decode cX11_behind 68 = .ok (.ireturn, 1) := dq_172 (by decide +kernel)
theorem dX11_behind_11 : decode cX11_behind 11 = .ok (.iconst (-1), 1) := dq_2 (by decide +kernel)
theorem dX11_behind_12 : decode cX11_behind 12 = .ok (.ireturn, 1) := dq_172 (by decide +kernel)
theorem dX11_unlike_0 : decode cX11_unlike 0 = .ok (.aload_n 0, 1) := dq_42 (by decide +kernel)
theorem dX11_unlike_1 : decode cX11_unlike 1 = .ok (.getfield 69, 3) := dq_180 (a := 0) (b := 69) (by decide +kernel) rfl
theorem dX11_unlike_4 : decode cX11_unlike 4 = .ok (.iload_n 1, 1) := dq_27 (by decide +kernel)
theorem dX11_unlike_5 : decode cX11_unlike 5 = .ok (.invokevirtual 341, 3) := dq_182 (a := 1) (b := 85) (by decide +kernel) rfl
theorem dX11_unlike_8 : decode cX11_unlike 8 = .ok (.ifCond .eq 14, 3) := dq_153 (a := 0) (b := 14) (by decide +kernel) (by decide +kernel)
theorem dX11_unlike_22 : decode cX11_unlike 22 = .ok (.iconst (-1), 1) := dq_2 (by decide +kernel)
theorem dX11_unlike_23 : decode cX11_unlike 23 = .ok (.ireturn, 1) := dq_172 (by decide +kernel)
theorem dX11_unlike_11 : decode cX11_unlike 11 = .ok (.aload_n 0, 1) := dq_42 (by decide +kernel)
theorem dX11_unlike_12 : decode cX11_unlike 12 = .ok (.getfield 69, 3) := dq_180 (a := 0) (b := 69) (by decide +kernel) rfl
theorem dX11_unlike_15 : decode cX11_unlike 15 = .ok (.iload_n 2, 1) := dq_28 (by decide +kernel)
theorem dX11_unlike_16 : decode cX11_unlike 16 = .ok (.invokevirtual 341, 3) := dq_182 (a := 1) (b := 85) (by decide +kernel) rfl
theorem dX11_unlike_19 : decode cX11_unlike 19 = .ok (.ifCond .ne 5, 3) := dq_154 (a := 0) (b := 5) (by decide +kernel) (by decide +kernel)
theorem dX11_unlike_24 : decode cX11_unlike 24 = .ok (.iconst 0, 1) := dq_3 (by decide +kernel)
theorem dX11_unlike_25 : decode cX11_unlike 25 = .ok (.istore_n 3, 1) := dq_62 (by decide +kernel)
theorem dX11_unlike_26 : decode cX11_unlike 26 = .ok (.iconst 0, 1) := dq_3 (by decide +kernel)
theorem dX11_unlike_27 : decode cX11_unlike 27 = .ok (.istore 4, 2) := dq_54 (a := 4) (by decide +kernel) rfl
theorem dX11_unlike_29 : decode cX11_unlike 29 = .ok (.iload 4, 2) := dq_21 (a := 4) (by decide +kernel) rfl
theorem dX11_unlike_31 : decode cX11_unlike 31 = .ok (.aload_n 0, 1) := dq_42 (by decide +kernel)
theorem dX11_unlike_32 : decode cX11_unlike 32 = .ok (.getfield 69, 3) := dq_180 (a := 0) (b := 69) (by decide +kernel) rfl
theorem dX11_unlike_35 : decode cX11_unlike 35 = .ok (.getfield 136, 3) := dq_180 (a := 0) (b := 136) (by decide +kernel) rfl
theorem dX11_unlike_38 : decode cX11_unlike 38 = .ok (.if_icmp .ge 35, 3) := dq_162 (a := 0) (b := 35) (by decide +kernel) (by decide +kernel)
theorem dX11_unlike_73 : decode cX11_unlike 73 = .ok (.iload_n 3, 1) := dq_29 (by decide +kernel)
theorem dX11_unlike_74 : decode cX11_unlike 74 = .ok (.ireturn, 1) := dq_172 (by decide +kernel)
theorem dX11_unlike_41 : decode cX11_unlike 41 = .ok (.aload_n 0, 1) := dq_42 (by decide +kernel)
theorem dX11_unlike_42 : decode cX11_unlike 42 = .ok (.getfield 69, 3) := dq_180 (a := 0) (b := 69) (by decide +kernel) rfl
theorem dX11_unlike_45 : decode cX11_unlike 45 = .ok (.iload_n 1, 1) := dq_27 (by decide +kernel)
theorem dX11_unlike_46 : decode cX11_unlike 46 = .ok (.iload 4, 2) := dq_21 (a := 4) (by decide +kernel) rfl
theorem dX11_unlike_48 : decode cX11_unlike 48 = .ok (.invokevirtual 344, 3) := dq_182 (a := 1) (b := 88) (by decide +kernel) rfl
theorem dX11_unlike_51 : decode cX11_unlike 51 = .ok (.aload_n 0, 1) := dq_42 (by decide +kernel)
theorem dX11_unlike_52 : decode cX11_unlike 52 = .ok (.getfield 69, 3) := dq_180 (a := 0) (b := 69) (by decide +kernel) rfl
theorem dX11_unlike_55 : decode cX11_unlike 55 = .ok (.iload_n 2, 1) := dq_28 (by decide +kernel)
theorem dX11_unlike_56 : decode cX11_unlike 56 = .ok (.iload 4, 2) := dq_21 (a := 4) (by decide +kernel) rfl
theorem dX11_unlike_58 : decode cX11_unlike 58 = .ok (.invokevirtual 344, 3) := dq_182 (a := 1) (b := 88) (by decide +kernel) rfl
theorem dX11_unlike_61 : decode cX11_unlike 61 = .ok (.if_icmp .eq 6, 3) := dq_159 (a := 0) (b := 6) (by decide +kernel) (by decide +kernel)
theorem dX11_unlike_67 : decode cX11_unlike 67 = .ok (.iinc 4 1, 3) := dq_132 (a := 4) (b := 1) (by decide +kernel) rfl (by decide +kernel)
theorem dX11_unlike_70 : decode cX11_unlike 70 = .ok (.goto (-41), 3) := dq_167 (a := 255) (b := 215) (by decide +kernel) (by decide +kernel)
theorem dX11_unlike_64 : decode cX11_unlike 64 = .ok (.iinc 3 1, 3) := dq_132 (a := 3) (b := 1) (by decide +kernel) rfl (by decide +kernel)
theorem dX11_span_0 : decode cX11_span 0 = .ok (.aload_n 0, 1) := dq_42 (by decide +kernel)
theorem dX11_span_1 : decode cX11_span 1 = .ok (.getfield 69, 3) := dq_180 (a := 0) (b := 69) (by decide +kernel) rfl
theorem dX11_span_4 : decode cX11_span 4 = .ok (.getfield 136, 3) := dq_180 (a := 0) (b := 136) (by decide +kernel) rfl
theorem dX11_span_7 : decode cX11_span 7 = .ok (.ifCond .ne 7, 3) := dq_154 (a := 0) (b := 7) (by decide +kernel) (by decide +kernel)
theorem dX11_span_14 : decode cX11_span 14 = .ok (.iload_n 1, 1) := dq_27 (by decide +kernel)
theorem dX11_span_15 : decode cX11_span 15 = .ok (.ifCond .eq 17, 3) := dq_153 (a := 0) (b := 17) (by decide +kernel) (by decide +kernel)
theorem dX11_span_32 : decode cX11_span 32 = .ok (.aload_n 0, 1) := dq_42 (by decide +kernel)
theorem dX11_span_33 : decode cX11_span 33 = .ok (.getfield 45, 3) := dq_180 (a := 0) (b := 45) (by decide +kernel) rfl
theorem dX11_span_36 : decode cX11_span 36 = .ok (.aload_n 0, 1) := dq_42 (by decide +kernel)
theorem dX11_span_37 : decode cX11_span 37 = .ok (.getfield 69, 3) := dq_180 (a := 0) (b := 69) (by decide +kernel) rfl
theorem dX11_span_40 : decode cX11_span 40 = .ok (.invokevirtual 376, 3) := dq_182 (a := 1) (b := 120) (by decide +kernel) rfl
theorem dX11_span_43 : decode cX11_span 43 = .ok (.lreturn, 1) := dq_173 (by decide +kernel)
theorem dX11_span_18 : decode cX11_span 18 = .ok (.aload_n 0, 1) := dq_42 (by decide +kernel)
theorem dX11_span_19 : decode cX11_span 19 = .ok (.getfield 45, 3) := dq_180 (a := 0) (b := 45) (by decide +kernel) rfl
theorem dX11_span_22 : decode cX11_span 22 = .ok (.aload_n 0, 1) := dq_42 (by decide +kernel)
theorem dX11_span_23 : decode cX11_span 23 = .ok (.getfield 69, 3) := dq_180 (a := 0) (b := 69) (by decide +kernel) rfl
theorem dX11_span_26 : decode cX11_span 26 = .ok (.invokevirtual 372, 3) := dq_182 (a := 1) (b := 116) (by decide +kernel) rfl
theorem dX11_span_29 : decode cX11_span 29 = .ok (.goto 14, 3) := dq_167 (a := 0) (b := 14) (by decide +kernel) (by decide +kernel)
theorem dX11_span_10 : decode cX11_span 10 = .ok (.ldc2_w 212, 3) := dq_20 (a := 0) (b := 212) (by decide +kernel) rfl
theorem dX11_span_13 : decode cX11_span 13 = .ok (.lreturn, 1) := dq_173 (by decide +kernel)
theorem dX11_ahead_0 : decode cX11_ahead 0 = .ok (.aload_n 0, 1) := dq_42 (by decide +kernel)
theorem dX11_ahead_1 : decode cX11_ahead 1 = .ok (.invokevirtual 201, 3) := dq_182 (a := 0) (b := 201) (by decide +kernel) rfl
theorem dX11_ahead_4 : decode cX11_ahead 4 = .ok (.ifCond .eq 21, 3) := dq_153 (a := 0) (b := 21) (by decide +kernel) (by decide +kernel)
theorem dX11_ahead_25 : decode cX11_ahead 25 = .ok (.aload_n 0, 1) := dq_42 (by decide +kernel)
theorem dX11_ahead_26 : decode cX11_ahead 26 = .ok (.getfield 45, 3) := dq_180 (a := 0) (b := 45) (by decide +kernel) rfl
theorem dX11_ahead_29 : decode cX11_ahead 29 = .ok (.invokevirtual 383, 3) := dq_182 (a := 1) (b := 127) (by decide +kernel) rfl
theorem dX11_ahead_32 : decode cX11_ahead 32 = .ok (.lreturn, 1) := dq_173 (by decide +kernel)
theorem dX11_ahead_7 : decode cX11_ahead 7 = .ok (.aload_n 0, 1) := dq_42 (by decide +kernel)
theorem dX11_ahead_8 : decode cX11_ahead 8 = .ok (.getfield 45, 3) := dq_180 (a := 0) (b := 45) (by decide +kernel) rfl
theorem dX11_ahead_11 : decode cX11_ahead 11 = .ok (.aload_n 0, 1) := dq_42 (by decide +kernel)
theorem dX11_ahead_12 : decode cX11_ahead 12 = .ok (.getfield 69, 3) := dq_180 (a := 0) (b := 69) (by decide +kernel) rfl
theorem dX11_ahead_15 : decode cX11_ahead 15 = .ok (.aload_n 0, 1) := dq_42 (by decide +kernel)
theorem dX11_ahead_16 : decode cX11_ahead 16 = .ok (.getfield 53, 3) := dq_180 (a := 0) (b := 53) (by decide +kernel) rfl
theorem dX11_ahead_19 : decode cX11_ahead 19 = .ok (.invokevirtual 379, 3) := dq_182 (a := 1) (b := 123) (by decide +kernel) rfl
theorem dX11_ahead_22 : decode cX11_ahead 22 = .ok (.goto 10, 3) := dq_167 (a := 0) (b := 10) (by decide +kernel) (by decide +kernel)
theorem dX11_put_0 : decode cX11_put 0 = .ok (.aload_n 0, 1) := dq_42 (by decide +kernel)
theorem dX11_put_1 : decode cX11_put 1 = .ok (.getfield 69, 3) := dq_180 (a := 0) (b := 69) (by decide +kernel) rfl
theorem dX11_put_4 : decode cX11_put 4 = .ok (.iload_n 1, 1) := dq_27 (by decide +kernel)
theorem dX11_put_5 : decode cX11_put 5 = .ok (.invokevirtual 172, 3) := dq_182 (a := 0) (b := 172) (by decide +kernel) rfl
theorem dX11_put_8 : decode cX11_put 8 = .ok (.ifCond .eq 25, 3) := dq_153 (a := 0) (b := 25) (by decide +kernel) (by decide +kernel)
theorem dX11_put_33 : decode cX11_put 33 = .ok (.ldc 175, 2) := dq_18 (a := 175) (by decide +kernel) rfl
theorem dX11_put_35 : decode cX11_put 35 = .ok (.ireturn, 1) := dq_172 (by decide +kernel)
theorem dX11_put_11 : decode cX11_put 11 = .ok (.aload_n 0, 1) := dq_42 (by decide +kernel)
theorem dX11_put_12 : decode cX11_put 12 = .ok (.getfield 45, 3) := dq_180 (a := 0) (b := 45) (by decide +kernel) rfl
theorem dX11_put_15 : decode cX11_put 15 = .ok (.getfield 386, 3) := dq_180 (a := 1) (b := 130) (by decide +kernel) rfl
theorem dX11_put_18 : decode cX11_put 18 = .ok (.ifCond .eq 15, 3) := dq_153 (a := 0) (b := 15) (by decide +kernel) (by decide +kernel)
theorem dX11_put_21 : decode cX11_put 21 = .ok (.aload_n 0, 1) := dq_42 (by decide +kernel)
theorem dX11_put_22 : decode cX11_put 22 = .ok (.getfield 45, 3) := dq_180 (a := 0) (b := 45) (by decide +kernel) rfl
theorem dX11_put_25 : decode cX11_put 25 = .ok (.getfield 390, 3) := dq_180 (a := 1) (b := 134) (by decide +kernel) rfl
theorem dX11_put_28 : decode cX11_put 28 = .ok (.iload_n 1, 1) := dq_27 (by decide +kernel)
theorem dX11_put_29 : decode cX11_put 29 = .ok (.iaload, 1) := dq_46 (by decide +kernel)
theorem dX11_put_30 : decode cX11_put 30 = .ok (.goto 5, 3) := dq_167 (a := 0) (b := 5) (by decide +kernel) (by decide +kernel)
theorem dX11_worth_0 : decode cX11_worth 0 = .ok (.aload_n 0, 1) := dq_42 (by decide +kernel)
theorem dX11_worth_1 : decode cX11_worth 1 = .ok (.getfield 69, 3) := dq_180 (a := 0) (b := 69) (by decide +kernel) rfl
theorem dX11_worth_4 : decode cX11_worth 4 = .ok (.iload_n 1, 1) := dq_27 (by decide +kernel)
theorem dX11_worth_5 : decode cX11_worth 5 = .ok (.invokevirtual 172, 3) := dq_182 (a := 0) (b := 172) (by decide +kernel) rfl
theorem dX11_worth_8 : decode cX11_worth 8 = .ok (.ifCond .eq 14, 3) := dq_153 (a := 0) (b := 14) (by decide +kernel) (by decide +kernel)
theorem dX11_worth_22 : decode cX11_worth 22 = .ok (.ldc 175, 2) := dq_18 (a := 175) (by decide +kernel) rfl
theorem dX11_worth_24 : decode cX11_worth 24 = .ok (.ireturn, 1) := dq_172 (by decide +kernel)
theorem dX11_worth_11 : decode cX11_worth 11 = .ok (.aload_n 0, 1) := dq_42 (by decide +kernel)
theorem dX11_worth_12 : decode cX11_worth 12 = .ok (.getfield 69, 3) := dq_180 (a := 0) (b := 69) (by decide +kernel) rfl
theorem dX11_worth_15 : decode cX11_worth 15 = .ok (.iload_n 1, 1) := dq_27 (by decide +kernel)
theorem dX11_worth_16 : decode cX11_worth 16 = .ok (.invokevirtual 393, 3) := dq_182 (a := 1) (b := 137) (by decide +kernel) rfl
theorem dX11_worth_19 : decode cX11_worth 19 = .ok (.goto 5, 3) := dq_167 (a := 0) (b := 5) (by decide +kernel) (by decide +kernel)
theorem dX11_chosen_0 : decode cX11_chosen 0 = .ok (.iload_n 1, 1) := dq_27 (by decide +kernel)
theorem dX11_chosen_1 : decode cX11_chosen 1 = .ok (.iconst 1, 1) := dq_4 (by decide +kernel)
theorem dX11_chosen_2 : decode cX11_chosen 2 = .ok (.if_icmp .lt 20, 3) := dq_161 (a := 0) (b := 20) (by decide +kernel) (by decide +kernel)
theorem dX11_chosen_22 : decode cX11_chosen 22 = .ok (.iconst (-1), 1) := dq_2 (by decide +kernel)
theorem dX11_chosen_23 : decode cX11_chosen 23 = .ok (.ireturn, 1) := dq_172 (by decide +kernel)
theorem dX11_chosen_5 : decode cX11_chosen 5 = .ok (.iload_n 1, 1) := dq_27 (by decide +kernel)
theorem dX11_chosen_6 : decode cX11_chosen 6 = .ok (.aload_n 0, 1) := dq_42 (by decide +kernel)
theorem dX11_chosen_7 : decode cX11_chosen 7 = .ok (.getfield 69, 3) := dq_180 (a := 0) (b := 69) (by decide +kernel) rfl
theorem dX11_chosen_10 : decode cX11_chosen 10 = .ok (.getfield 136, 3) := dq_180 (a := 0) (b := 136) (by decide +kernel) rfl
theorem dX11_chosen_13 : decode cX11_chosen 13 = .ok (.if_icmp .gt 9, 3) := dq_163 (a := 0) (b := 9) (by decide +kernel) (by decide +kernel)
theorem dX11_chosen_16 : decode cX11_chosen 16 = .ok (.lload_n 2, 1) := dq_32 (by decide +kernel)
theorem dX11_chosen_17 : decode cX11_chosen 17 = .ok (.lconst 0, 1) := dq_9 (by decide +kernel)
theorem dX11_chosen_18 : decode cX11_chosen 18 = .ok (.lcmp, 1) := dq_148 (by decide +kernel)
theorem dX11_chosen_19 : decode cX11_chosen 19 = .ok (.ifCond .ge 5, 3) := dq_156 (a := 0) (b := 5) (by decide +kernel) (by decide +kernel)
theorem dX11_chosen_24 : decode cX11_chosen 24 = .ok (.iconst 0, 1) := dq_3 (by decide +kernel)
theorem dX11_chosen_25 : decode cX11_chosen 25 = .ok (.istore 4, 2) := dq_54 (a := 4) (by decide +kernel) rfl
theorem dX11_chosen_27 : decode cX11_chosen 27 = .ok (.iload 4, 2) := dq_21 (a := 4) (by decide +kernel) rfl
theorem dX11_chosen_29 : decode cX11_chosen 29 = .ok (.aload_n 0, 1) := dq_42 (by decide +kernel)
theorem dX11_chosen_30 : decode cX11_chosen 30 = .ok (.getfield 69, 3) := dq_180 (a := 0) (b := 69) (by decide +kernel) rfl
theorem dX11_chosen_33 : decode cX11_chosen 33 = .ok (.getfield 136, 3) := dq_180 (a := 0) (b := 136) (by decide +kernel) rfl
theorem dX11_chosen_36 : decode cX11_chosen 36 = .ok (.if_icmp .ge 25, 3) := dq_162 (a := 0) (b := 25) (by decide +kernel) (by decide +kernel)
theorem dX11_chosen_39 : decode cX11_chosen 39 = .ok (.aload_n 0, 1) := dq_42 (by decide +kernel)
theorem dX11_chosen_40 : decode cX11_chosen 40 = .ok (.getfield 56, 3) := dq_180 (a := 0) (b := 56) (by decide +kernel) rfl
theorem dX11_chosen_43 : decode cX11_chosen 43 = .ok (.iload 4, 2) := dq_21 (a := 4) (by decide +kernel) rfl
theorem dX11_chosen_45 : decode cX11_chosen 45 = .ok (.aload_n 0, 1) := dq_42 (by decide +kernel)
theorem dX11_chosen_46 : decode cX11_chosen 46 = .ok (.getfield 69, 3) := dq_180 (a := 0) (b := 69) (by decide +kernel) rfl
theorem dX11_chosen_49 : decode cX11_chosen 49 = .ok (.iload 4, 2) := dq_21 (a := 4) (by decide +kernel) rfl
theorem dX11_chosen_51 : decode cX11_chosen 51 = .ok (.invokevirtual 393, 3) := dq_182 (a := 1) (b := 137) (by decide +kernel) rfl
theorem dX11_chosen_54 : decode cX11_chosen 54 = .ok (.iastore, 1) := dq_79 (by decide +kernel)
theorem dX11_chosen_55 : decode cX11_chosen 55 = .ok (.iinc 4 1, 3) := dq_132 (a := 4) (b := 1) (by decide +kernel) rfl (by decide +kernel)
theorem dX11_chosen_58 : decode cX11_chosen 58 = .ok (.goto (-31), 3) := dq_167 (a := 255) (b := 225) (by decide +kernel) (by decide +kernel)
theorem dX11_chosen_61 : decode cX11_chosen 61 = .ok (.iconst (-1), 1) := dq_2 (by decide +kernel)
theorem dX11_chosen_62 : decode cX11_chosen 62 = .ok (.istore 4, 2) := dq_54 (a := 4) (by decide +kernel) rfl
theorem dX11_chosen_64 : decode cX11_chosen 64 = .ok (.iconst 0, 1) := dq_3 (by decide +kernel)
theorem dX11_chosen_65 : decode cX11_chosen 65 = .ok (.istore 5, 2) := dq_54 (a := 5) (by decide +kernel) rfl
theorem dX11_chosen_67 : decode cX11_chosen 67 = .ok (.iconst 1, 1) := dq_4 (by decide +kernel)
theorem dX11_chosen_68 : decode cX11_chosen 68 = .ok (.istore 6, 2) := dq_54 (a := 6) (by decide +kernel) rfl
theorem dX11_chosen_70 : decode cX11_chosen 70 = .ok (.iload 6, 2) := dq_21 (a := 6) (by decide +kernel) rfl
theorem dX11_chosen_72 : decode cX11_chosen 72 = .ok (.iconst 1, 1) := dq_4 (by decide +kernel)
theorem dX11_chosen_73 : decode cX11_chosen 73 = .ok (.aload_n 0, 1) := dq_42 (by decide +kernel)
theorem dX11_chosen_74 : decode cX11_chosen 74 = .ok (.getfield 69, 3) := dq_180 (a := 0) (b := 69) (by decide +kernel) rfl
theorem dX11_chosen_77 : decode cX11_chosen 77 = .ok (.getfield 136, 3) := dq_180 (a := 0) (b := 136) (by decide +kernel) rfl
theorem dX11_chosen_80 : decode cX11_chosen 80 = .ok (.ishl, 1) := dq_120 (by decide +kernel)
theorem dX11_chosen_81 : decode cX11_chosen 81 = .ok (.if_icmp .ge 77, 3) := dq_162 (a := 0) (b := 77) (by decide +kernel) (by decide +kernel)
theorem dX11_chosen_158 : decode cX11_chosen 158 = .ok (.iload 4, 2) := dq_21 (a := 4) (by decide +kernel) rfl
theorem dX11_chosen_160 : decode cX11_chosen 160 = .ok (.ireturn, 1) := dq_172 (by decide +kernel)
theorem dX11_chosen_84 : decode cX11_chosen 84 = .ok (.aload_n 0, 1) := dq_42 (by decide +kernel)
theorem dX11_chosen_85 : decode cX11_chosen 85 = .ok (.iload 6, 2) := dq_21 (a := 6) (by decide +kernel) rfl
theorem dX11_chosen_87 : decode cX11_chosen 87 = .ok (.invokevirtual 396, 3) := dq_182 (a := 1) (b := 140) (by decide +kernel) rfl
theorem dX11_worthTogether_0 : decode cX11_worthTogether 0 = .ok (.iconst 0, 1) := dq_3 (by decide +kernel)
theorem dX11_worthTogether_1 : decode cX11_worthTogether 1 = .ok (.istore_n 2, 1) := dq_61 (by decide +kernel)
theorem dX11_worthTogether_2 : decode cX11_worthTogether 2 = .ok (.iconst 0, 1) := dq_3 (by decide +kernel)
theorem dX11_worthTogether_3 : decode cX11_worthTogether 3 = .ok (.istore_n 3, 1) := dq_62 (by decide +kernel)
theorem dX11_worthTogether_4 : decode cX11_worthTogether 4 = .ok (.iload_n 3, 1) := dq_29 (by decide +kernel)
theorem dX11_worthTogether_5 : decode cX11_worthTogether 5 = .ok (.aload_n 0, 1) := dq_42 (by decide +kernel)
theorem dX11_worthTogether_6 : decode cX11_worthTogether 6 = .ok (.getfield 69, 3) := dq_180 (a := 0) (b := 69) (by decide +kernel) rfl
theorem dX11_worthTogether_9 : decode cX11_worthTogether 9 = .ok (.getfield 136, 3) := dq_180 (a := 0) (b := 136) (by decide +kernel) rfl
theorem dX11_worthTogether_12 : decode cX11_worthTogether 12 = .ok (.if_icmp .ge 27, 3) := dq_162 (a := 0) (b := 27) (by decide +kernel) (by decide +kernel)
theorem dX11_worthTogether_39 : decode cX11_worthTogether 39 = .ok (.iload_n 2, 1) := dq_28 (by decide +kernel)
theorem dX11_worthTogether_40 : decode cX11_worthTogether 40 = .ok (.ireturn, 1) := dq_172 (by decide +kernel)
theorem dX11_worthTogether_15 : decode cX11_worthTogether 15 = .ok (.iload_n 1, 1) := dq_27 (by decide +kernel)
theorem dX11_worthTogether_16 : decode cX11_worthTogether 16 = .ok (.iload_n 3, 1) := dq_29 (by decide +kernel)
theorem dX11_worthTogether_17 : decode cX11_worthTogether 17 = .ok (.ishr, 1) := dq_122 (by decide +kernel)
theorem dX11_worthTogether_18 : decode cX11_worthTogether 18 = .ok (.iconst 1, 1) := dq_4 (by decide +kernel)
theorem dX11_worthTogether_19 : decode cX11_worthTogether 19 = .ok (.iand, 1) := dq_126 (by decide +kernel)
theorem dX11_worthTogether_20 : decode cX11_worthTogether 20 = .ok (.iconst 1, 1) := dq_4 (by decide +kernel)
theorem dX11_worthTogether_21 : decode cX11_worthTogether 21 = .ok (.if_icmp .ne 12, 3) := dq_160 (a := 0) (b := 12) (by decide +kernel) (by decide +kernel)
theorem dX11_worthTogether_33 : decode cX11_worthTogether 33 = .ok (.iinc 3 1, 3) := dq_132 (a := 3) (b := 1) (by decide +kernel) rfl (by decide +kernel)
theorem dX11_worthTogether_36 : decode cX11_worthTogether 36 = .ok (.goto (-32), 3) := dq_167 (a := 255) (b := 224) (by decide +kernel) (by decide +kernel)
theorem dX11_worthTogether_24 : decode cX11_worthTogether 24 = .ok (.iload_n 2, 1) := dq_28 (by decide +kernel)
theorem dX11_worthTogether_25 : decode cX11_worthTogether 25 = .ok (.aload_n 0, 1) := dq_42 (by decide +kernel)
theorem dX11_worthTogether_26 : decode cX11_worthTogether 26 = .ok (.getfield 56, 3) := dq_180 (a := 0) (b := 56) (by decide +kernel) rfl
theorem dX11_worthTogether_29 : decode cX11_worthTogether 29 = .ok (.iload_n 3, 1) := dq_29 (by decide +kernel)
theorem dX11_worthTogether_30 : decode cX11_worthTogether 30 = .ok (.iaload, 1) := dq_46 (by decide +kernel)
theorem dX11_worthTogether_31 : decode cX11_worthTogether 31 = .ok (.iadd, 1) := dq_96 (by decide +kernel)
theorem dX11_worthTogether_32 : decode cX11_worthTogether 32 = .ok (.istore_n 2, 1) := dq_61 (by decide +kernel)
theorem dX11_chosen_90 : decode cX11_chosen 90 = .ok (.istore 7, 2) := dq_54 (a := 7) (by decide +kernel) rfl
theorem dX11_chosen_92 : decode cX11_chosen 92 = .ok (.iload 6, 2) := dq_21 (a := 6) (by decide +kernel) rfl
theorem dX11_chosen_94 : decode cX11_chosen 94 = .ok (.invokestatic 399, 3) := dq_184 (a := 1) (b := 143) (by decide +kernel) rfl
theorem dJ6_bitCount_0f7a4_0 : decode cJ6_bitCount_0f7a4 0 = .ok (.iload_n 0, 1) := dq_26 (by decide +kernel)
theorem dJ6_bitCount_0f7a4_1 : decode cJ6_bitCount_0f7a4 1 = .ok (.iload_n 0, 1) := dq_26 (by decide +kernel)
theorem dJ6_bitCount_0f7a4_2 : decode cJ6_bitCount_0f7a4 2 = .ok (.iconst 1, 1) := dq_4 (by decide +kernel)
theorem dJ6_bitCount_0f7a4_3 : decode cJ6_bitCount_0f7a4 3 = .ok (.iushr, 1) := dq_124 (by decide +kernel)
theorem dJ6_bitCount_0f7a4_4 : decode cJ6_bitCount_0f7a4 4 = .ok (.ldc_w 265, 3) := dq_19 (a := 1) (b := 9) (by decide +kernel) rfl
theorem dJ6_bitCount_0f7a4_7 : decode cJ6_bitCount_0f7a4 7 = .ok (.iand, 1) := dq_126 (by decide +kernel)
theorem dJ6_bitCount_0f7a4_8 : decode cJ6_bitCount_0f7a4 8 = .ok (.isub, 1) := dq_100 (by decide +kernel)
theorem dJ6_bitCount_0f7a4_9 : decode cJ6_bitCount_0f7a4 9 = .ok (.istore_n 0, 1) := dq_59 (by decide +kernel)
theorem dJ6_bitCount_0f7a4_10 : decode cJ6_bitCount_0f7a4 10 = .ok (.iload_n 0, 1) := dq_26 (by decide +kernel)
theorem dJ6_bitCount_0f7a4_11 : decode cJ6_bitCount_0f7a4 11 = .ok (.ldc_w 266, 3) := dq_19 (a := 1) (b := 10) (by decide +kernel) rfl
theorem dJ6_bitCount_0f7a4_14 : decode cJ6_bitCount_0f7a4 14 = .ok (.iand, 1) := dq_126 (by decide +kernel)
theorem dJ6_bitCount_0f7a4_15 : decode cJ6_bitCount_0f7a4 15 = .ok (.iload_n 0, 1) := dq_26 (by decide +kernel)
theorem dJ6_bitCount_0f7a4_16 : decode cJ6_bitCount_0f7a4 16 = .ok (.iconst 2, 1) := dq_5 (by decide +kernel)
theorem dJ6_bitCount_0f7a4_17 : decode cJ6_bitCount_0f7a4 17 = .ok (.iushr, 1) := dq_124 (by decide +kernel)
theorem dJ6_bitCount_0f7a4_18 : decode cJ6_bitCount_0f7a4 18 = .ok (.ldc_w 266, 3) := dq_19 (a := 1) (b := 10) (by decide +kernel) rfl
theorem dJ6_bitCount_0f7a4_21 : decode cJ6_bitCount_0f7a4 21 = .ok (.iand, 1) := dq_126 (by decide +kernel)
theorem dJ6_bitCount_0f7a4_22 : decode cJ6_bitCount_0f7a4 22 = .ok (.iadd, 1) := dq_96 (by decide +kernel)
theorem dJ6_bitCount_0f7a4_23 : decode cJ6_bitCount_0f7a4 23 = .ok (.istore_n 0, 1) := dq_59 (by decide +kernel)
theorem dJ6_bitCount_0f7a4_24 : decode cJ6_bitCount_0f7a4 24 = .ok (.iload_n 0, 1) := dq_26 (by decide +kernel)
theorem dJ6_bitCount_0f7a4_25 : decode cJ6_bitCount_0f7a4 25 = .ok (.iload_n 0, 1) := dq_26 (by decide +kernel)
theorem dJ6_bitCount_0f7a4_26 : decode cJ6_bitCount_0f7a4 26 = .ok (.iconst 4, 1) := dq_7 (by decide +kernel)
theorem dJ6_bitCount_0f7a4_27 : decode cJ6_bitCount_0f7a4 27 = .ok (.iushr, 1) := dq_124 (by decide +kernel)
theorem dJ6_bitCount_0f7a4_28 : decode cJ6_bitCount_0f7a4 28 = .ok (.iadd, 1) := dq_96 (by decide +kernel)
theorem dJ6_bitCount_0f7a4_29 : decode cJ6_bitCount_0f7a4 29 = .ok (.ldc_w 267, 3) := dq_19 (a := 1) (b := 11) (by decide +kernel) rfl
theorem dJ6_bitCount_0f7a4_32 : decode cJ6_bitCount_0f7a4 32 = .ok (.iand, 1) := dq_126 (by decide +kernel)
theorem dJ6_bitCount_0f7a4_33 : decode cJ6_bitCount_0f7a4 33 = .ok (.istore_n 0, 1) := dq_59 (by decide +kernel)
theorem dJ6_bitCount_0f7a4_34 : decode cJ6_bitCount_0f7a4 34 = .ok (.iload_n 0, 1) := dq_26 (by decide +kernel)
theorem dJ6_bitCount_0f7a4_35 : decode cJ6_bitCount_0f7a4 35 = .ok (.iload_n 0, 1) := dq_26 (by decide +kernel)
theorem dJ6_bitCount_0f7a4_36 : decode cJ6_bitCount_0f7a4 36 = .ok (.bipush 8, 2) := dq_16 (a := 8) (by decide +kernel) (by decide +kernel)
theorem dJ6_bitCount_0f7a4_38 : decode cJ6_bitCount_0f7a4 38 = .ok (.iushr, 1) := dq_124 (by decide +kernel)
theorem dJ6_bitCount_0f7a4_39 : decode cJ6_bitCount_0f7a4 39 = .ok (.iadd, 1) := dq_96 (by decide +kernel)
theorem dJ6_bitCount_0f7a4_40 : decode cJ6_bitCount_0f7a4 40 = .ok (.istore_n 0, 1) := dq_59 (by decide +kernel)
theorem dJ6_bitCount_0f7a4_41 : decode cJ6_bitCount_0f7a4 41 = .ok (.iload_n 0, 1) := dq_26 (by decide +kernel)
theorem dJ6_bitCount_0f7a4_42 : decode cJ6_bitCount_0f7a4 42 = .ok (.iload_n 0, 1) := dq_26 (by decide +kernel)
theorem dJ6_bitCount_0f7a4_43 : decode cJ6_bitCount_0f7a4 43 = .ok (.bipush 16, 2) := dq_16 (a := 16) (by decide +kernel) (by decide +kernel)
theorem dJ6_bitCount_0f7a4_45 : decode cJ6_bitCount_0f7a4 45 = .ok (.iushr, 1) := dq_124 (by decide +kernel)
theorem dJ6_bitCount_0f7a4_46 : decode cJ6_bitCount_0f7a4 46 = .ok (.iadd, 1) := dq_96 (by decide +kernel)
theorem dJ6_bitCount_0f7a4_47 : decode cJ6_bitCount_0f7a4 47 = .ok (.istore_n 0, 1) := dq_59 (by decide +kernel)
theorem dJ6_bitCount_0f7a4_48 : decode cJ6_bitCount_0f7a4 48 = .ok (.iload_n 0, 1) := dq_26 (by decide +kernel)
theorem dJ6_bitCount_0f7a4_49 : decode cJ6_bitCount_0f7a4 49 = .ok (.bipush 63, 2) := dq_16 (a := 63) (by decide +kernel) (by decide +kernel)
theorem dJ6_bitCount_0f7a4_51 : decode cJ6_bitCount_0f7a4 51 = .ok (.iand, 1) := dq_126 (by decide +kernel)
theorem dJ6_bitCount_0f7a4_52 : decode cJ6_bitCount_0f7a4 52 = .ok (.ireturn, 1) := dq_172 (by decide +kernel)
theorem dX11_chosen_97 : decode cX11_chosen 97 = .ok (.iload_n 1, 1) := dq_27 (by decide +kernel)
theorem dX11_chosen_98 : decode cX11_chosen 98 = .ok (.if_icmp .ne 20, 3) := dq_160 (a := 0) (b := 20) (by decide +kernel) (by decide +kernel)
theorem dX11_chosen_118 : decode cX11_chosen 118 = .ok (.iconst 0, 1) := dq_3 (by decide +kernel)
theorem dX11_chosen_119 : decode cX11_chosen 119 = .ok (.istore 8, 2) := dq_54 (a := 8) (by decide +kernel) rfl
theorem dX11_chosen_121 : decode cX11_chosen 121 = .ok (.iload 8, 2) := dq_21 (a := 8) (by decide +kernel) rfl
theorem dX11_chosen_123 : decode cX11_chosen 123 = .ok (.ifCond .eq 29, 3) := dq_153 (a := 0) (b := 29) (by decide +kernel) (by decide +kernel)
theorem dX11_chosen_152 : decode cX11_chosen 152 = .ok (.iinc 6 1, 3) := dq_132 (a := 6) (b := 1) (by decide +kernel) rfl (by decide +kernel)
theorem dX11_chosen_155 : decode cX11_chosen 155 = .ok (.goto (-85), 3) := dq_167 (a := 255) (b := 171) (by decide +kernel) (by decide +kernel)
theorem dX11_chosen_101 : decode cX11_chosen 101 = .ok (.iload 4, 2) := dq_21 (a := 4) (by decide +kernel) rfl
theorem dX11_chosen_103 : decode cX11_chosen 103 = .ok (.iconst (-1), 1) := dq_2 (by decide +kernel)
theorem dX11_chosen_104 : decode cX11_chosen 104 = .ok (.if_icmp .eq 10, 3) := dq_159 (a := 0) (b := 10) (by decide +kernel) (by decide +kernel)
theorem dX11_chosen_114 : decode cX11_chosen 114 = .ok (.iconst 1, 1) := dq_4 (by decide +kernel)
theorem dX11_chosen_115 : decode cX11_chosen 115 = .ok (.goto 4, 3) := dq_167 (a := 0) (b := 4) (by decide +kernel) (by decide +kernel)
theorem dX11_chosen_126 : decode cX11_chosen 126 = .ok (.aload_n 0, 1) := dq_42 (by decide +kernel)
theorem dX11_chosen_127 : decode cX11_chosen 127 = .ok (.getfield 31, 3) := dq_180 (a := 0) (b := 31) (by decide +kernel) rfl
theorem dX11_chosen_130 : decode cX11_chosen 130 = .ok (.aload_n 0, 1) := dq_42 (by decide +kernel)
theorem dX11_chosen_131 : decode cX11_chosen 131 = .ok (.getfield 69, 3) := dq_180 (a := 0) (b := 69) (by decide +kernel) rfl
theorem dX11_chosen_134 : decode cX11_chosen 134 = .ok (.iload 6, 2) := dq_21 (a := 6) (by decide +kernel) rfl
theorem dX11_chosen_136 : decode cX11_chosen 136 = .ok (.invokevirtual 337, 3) := dq_182 (a := 1) (b := 81) (by decide +kernel) rfl
theorem dX11_chosen_139 : decode cX11_chosen 139 = .ok (.lload_n 2, 1) := dq_32 (by decide +kernel)
theorem dX11_chosen_140 : decode cX11_chosen 140 = .ok (.lcmp, 1) := dq_148 (by decide +kernel)
theorem dX11_chosen_141 : decode cX11_chosen 141 = .ok (.ifCond .lt 11, 3) := dq_155 (a := 0) (b := 11) (by decide +kernel) (by decide +kernel)
theorem dX11_chosen_144 : decode cX11_chosen 144 = .ok (.iload 6, 2) := dq_21 (a := 6) (by decide +kernel) rfl
theorem dX11_chosen_146 : decode cX11_chosen 146 = .ok (.istore 4, 2) := dq_54 (a := 4) (by decide +kernel) rfl
theorem dX11_chosen_148 : decode cX11_chosen 148 = .ok (.iload 7, 2) := dq_21 (a := 7) (by decide +kernel) rfl
theorem dX11_chosen_150 : decode cX11_chosen 150 = .ok (.istore 5, 2) := dq_54 (a := 5) (by decide +kernel) rfl
theorem dX11_chosen_107 : decode cX11_chosen 107 = .ok (.iload 7, 2) := dq_21 (a := 7) (by decide +kernel) rfl
theorem dX11_chosen_109 : decode cX11_chosen 109 = .ok (.iload 5, 2) := dq_21 (a := 5) (by decide +kernel) rfl
theorem dX11_chosen_111 : decode cX11_chosen 111 = .ok (.if_icmp .le 7, 3) := dq_164 (a := 0) (b := 7) (by decide +kernel) (by decide +kernel)
theorem dX11_image_0 : decode cX11_image 0 = .ok (.iconst 0, 1) := dq_3 (by decide +kernel)
theorem dX11_image_1 : decode cX11_image 1 = .ok (.istore_n 1, 1) := dq_60 (by decide +kernel)
theorem dX11_image_2 : decode cX11_image 2 = .ok (.iconst 0, 1) := dq_3 (by decide +kernel)
theorem dX11_image_3 : decode cX11_image 3 = .ok (.istore_n 2, 1) := dq_61 (by decide +kernel)
theorem dX11_image_4 : decode cX11_image 4 = .ok (.iload_n 2, 1) := dq_28 (by decide +kernel)
theorem dX11_image_5 : decode cX11_image 5 = .ok (.aload_n 0, 1) := dq_42 (by decide +kernel)
theorem dX11_image_6 : decode cX11_image 6 = .ok (.getfield 69, 3) := dq_180 (a := 0) (b := 69) (by decide +kernel) rfl
theorem dX11_image_9 : decode cX11_image 9 = .ok (.getfield 139, 3) := dq_180 (a := 0) (b := 139) (by decide +kernel) rfl
theorem dX11_image_12 : decode cX11_image 12 = .ok (.if_icmp .ge 49, 3) := dq_162 (a := 0) (b := 49) (by decide +kernel) (by decide +kernel)
theorem dX11_image_61 : decode cX11_image 61 = .ok (.aload_n 0, 1) := dq_42 (by decide +kernel)
theorem dX11_image_62 : decode cX11_image 62 = .ok (.getfield 59, 3) := dq_180 (a := 0) (b := 59) (by decide +kernel) rfl
theorem dX11_image_65 : decode cX11_image 65 = .ok (.iload_n 1, 1) := dq_27 (by decide +kernel)
theorem dX11_image_66 : decode cX11_image 66 = .ok (.aload_n 0, 1) := dq_42 (by decide +kernel)
theorem dX11_image_67 : decode cX11_image 67 = .ok (.getfield 76, 3) := dq_180 (a := 0) (b := 76) (by decide +kernel) rfl
theorem dX11_image_70 : decode cX11_image 70 = .ok (.getfield 160, 3) := dq_180 (a := 0) (b := 160) (by decide +kernel) rfl
theorem dX11_image_73 : decode cX11_image 73 = .ok (.iastore, 1) := dq_79 (by decide +kernel)
theorem dX11_image_74 : decode cX11_image 74 = .ok (.iinc 1 1, 3) := dq_132 (a := 1) (b := 1) (by decide +kernel) rfl (by decide +kernel)
theorem dX11_image_77 : decode cX11_image 77 = .ok (.bipush 51, 2) := dq_16 (a := 51) (by decide +kernel) (by decide +kernel)
theorem dX11_image_79 : decode cX11_image 79 = .ok (.istore_n 2, 1) := dq_61 (by decide +kernel)
theorem dX11_image_80 : decode cX11_image 80 = .ok (.iconst 0, 1) := dq_3 (by decide +kernel)
theorem dX11_image_81 : decode cX11_image 81 = .ok (.istore_n 3, 1) := dq_62 (by decide +kernel)
theorem dX11_image_82 : decode cX11_image 82 = .ok (.iload_n 3, 1) := dq_29 (by decide +kernel)
theorem dX11_image_83 : decode cX11_image 83 = .ok (.iload_n 1, 1) := dq_27 (by decide +kernel)
theorem dX11_image_84 : decode cX11_image 84 = .ok (.if_icmp .ge 20, 3) := dq_162 (a := 0) (b := 20) (by decide +kernel) (by decide +kernel)
theorem dX11_image_87 : decode cX11_image 87 = .ok (.iload_n 2, 1) := dq_28 (by decide +kernel)
theorem dX11_image_88 : decode cX11_image 88 = .ok (.aload_n 0, 1) := dq_42 (by decide +kernel)
theorem dX11_image_89 : decode cX11_image 89 = .ok (.getfield 59, 3) := dq_180 (a := 0) (b := 59) (by decide +kernel) rfl
theorem dX11_image_92 : decode cX11_image 92 = .ok (.iload_n 3, 1) := dq_29 (by decide +kernel)
theorem dX11_image_93 : decode cX11_image 93 = .ok (.iaload, 1) := dq_46 (by decide +kernel)
theorem dX11_image_94 : decode cX11_image 94 = .ok (.invokestatic 404, 3) := dq_184 (a := 1) (b := 148) (by decide +kernel) rfl
theorem dX11_checkWith_0 : decode cX11_checkWith 0 = .ok (.bipush 7, 2) := dq_16 (a := 7) (by decide +kernel) (by decide +kernel)
theorem dX11_checkWith_2 : decode cX11_checkWith 2 = .ok (.iload_n 0, 1) := dq_26 (by decide +kernel)
theorem dX11_checkWith_3 : decode cX11_checkWith 3 = .ok (.imul, 1) := dq_104 (by decide +kernel)
theorem dX11_checkWith_4 : decode cX11_checkWith 4 = .ok (.iload_n 1, 1) := dq_27 (by decide +kernel)
theorem dX11_checkWith_5 : decode cX11_checkWith 5 = .ok (.iadd, 1) := dq_96 (by decide +kernel)
theorem dX11_checkWith_6 : decode cX11_checkWith 6 = .ok (.sipush 253, 3) := dq_17 (a := 0) (b := 253) (by decide +kernel) (by decide +kernel)
theorem dX11_checkWith_9 : decode cX11_checkWith 9 = .ok (.irem, 1) := dq_112 (by decide +kernel)
theorem dX11_checkWith_10 : decode cX11_checkWith 10 = .ok (.ireturn, 1) := dq_172 (by decide +kernel)
theorem dX11_image_97 : decode cX11_image 97 = .ok (.istore_n 2, 1) := dq_61 (by decide +kernel)
theorem dX11_image_98 : decode cX11_image 98 = .ok (.iinc 3 1, 3) := dq_132 (a := 3) (b := 1) (by decide +kernel) rfl (by decide +kernel)
theorem dX11_image_101 : decode cX11_image 101 = .ok (.goto (-19), 3) := dq_167 (a := 255) (b := 237) (by decide +kernel) (by decide +kernel)
theorem dX11_image_104 : decode cX11_image 104 = .ok (.aload_n 0, 1) := dq_42 (by decide +kernel)
theorem dX11_image_105 : decode cX11_image 105 = .ok (.getfield 59, 3) := dq_180 (a := 0) (b := 59) (by decide +kernel) rfl
theorem dX11_image_108 : decode cX11_image 108 = .ok (.iload_n 1, 1) := dq_27 (by decide +kernel)
theorem dX11_image_109 : decode cX11_image 109 = .ok (.iload_n 2, 1) := dq_28 (by decide +kernel)
theorem dX11_image_110 : decode cX11_image 110 = .ok (.iastore, 1) := dq_79 (by decide +kernel)
theorem dX11_image_111 : decode cX11_image 111 = .ok (.aload_n 0, 1) := dq_42 (by decide +kernel)
theorem dX11_image_112 : decode cX11_image 112 = .ok (.iload_n 1, 1) := dq_27 (by decide +kernel)
theorem dX11_image_113 : decode cX11_image 113 = .ok (.iconst 1, 1) := dq_4 (by decide +kernel)
theorem dX11_image_114 : decode cX11_image 114 = .ok (.iadd, 1) := dq_96 (by decide +kernel)
theorem dX11_image_115 : decode cX11_image 115 = .ok (.putfield 62, 3) := dq_181 (a := 0) (b := 62) (by decide +kernel) rfl
theorem dX11_image_118 : decode cX11_image 118 = .ok (.aload_n 0, 1) := dq_42 (by decide +kernel)
theorem dX11_image_119 : decode cX11_image 119 = .ok (.getfield 62, 3) := dq_180 (a := 0) (b := 62) (by decide +kernel) rfl
theorem dX11_image_122 : decode cX11_image 122 = .ok (.ireturn, 1) := dq_172 (by decide +kernel)
theorem dX11_image_15 : decode cX11_image 15 = .ok (.aload_n 0, 1) := dq_42 (by decide +kernel)
theorem dX11_image_16 : decode cX11_image 16 = .ok (.getfield 59, 3) := dq_180 (a := 0) (b := 59) (by decide +kernel) rfl
theorem dX11_image_19 : decode cX11_image 19 = .ok (.iload_n 1, 1) := dq_27 (by decide +kernel)
theorem dX11_image_20 : decode cX11_image 20 = .ok (.aload_n 0, 1) := dq_42 (by decide +kernel)
theorem dX11_image_21 : decode cX11_image 21 = .ok (.getfield 49, 3) := dq_180 (a := 0) (b := 49) (by decide +kernel) rfl
theorem dX11_image_24 : decode cX11_image 24 = .ok (.iload_n 2, 1) := dq_28 (by decide +kernel)
theorem dX11_image_25 : decode cX11_image 25 = .ok (.iaload, 1) := dq_46 (by decide +kernel)
theorem dX11_image_26 : decode cX11_image 26 = .ok (.bipush 8, 2) := dq_16 (a := 8) (by decide +kernel) (by decide +kernel)
theorem dX11_image_28 : decode cX11_image 28 = .ok (.ishr, 1) := dq_122 (by decide +kernel)
theorem dX11_image_29 : decode cX11_image 29 = .ok (.sipush 255, 3) := dq_17 (a := 0) (b := 255) (by decide +kernel) (by decide +kernel)
theorem dX11_image_32 : decode cX11_image 32 = .ok (.iand, 1) := dq_126 (by decide +kernel)
theorem dX11_image_33 : decode cX11_image 33 = .ok (.iastore, 1) := dq_79 (by decide +kernel)
theorem dX11_image_34 : decode cX11_image 34 = .ok (.aload_n 0, 1) := dq_42 (by decide +kernel)
theorem dX11_image_35 : decode cX11_image 35 = .ok (.getfield 59, 3) := dq_180 (a := 0) (b := 59) (by decide +kernel) rfl
theorem dX11_image_38 : decode cX11_image 38 = .ok (.iload_n 1, 1) := dq_27 (by decide +kernel)
theorem dX11_image_39 : decode cX11_image 39 = .ok (.iconst 1, 1) := dq_4 (by decide +kernel)
theorem dX11_image_40 : decode cX11_image 40 = .ok (.iadd, 1) := dq_96 (by decide +kernel)
theorem dX11_image_41 : decode cX11_image 41 = .ok (.aload_n 0, 1) := dq_42 (by decide +kernel)
theorem dX11_image_42 : decode cX11_image 42 = .ok (.getfield 49, 3) := dq_180 (a := 0) (b := 49) (by decide +kernel) rfl
theorem dX11_image_45 : decode cX11_image 45 = .ok (.iload_n 2, 1) := dq_28 (by decide +kernel)
theorem dX11_image_46 : decode cX11_image 46 = .ok (.iaload, 1) := dq_46 (by decide +kernel)
theorem dX11_image_47 : decode cX11_image 47 = .ok (.sipush 255, 3) := dq_17 (a := 0) (b := 255) (by decide +kernel) (by decide +kernel)
theorem dX11_image_50 : decode cX11_image 50 = .ok (.iand, 1) := dq_126 (by decide +kernel)
theorem dX11_image_51 : decode cX11_image 51 = .ok (.iastore, 1) := dq_79 (by decide +kernel)
theorem dX11_image_52 : decode cX11_image 52 = .ok (.iinc 1 2, 3) := dq_132 (a := 1) (b := 2) (by decide +kernel) rfl (by decide +kernel)
theorem dX11_image_55 : decode cX11_image 55 = .ok (.iinc 2 1, 3) := dq_132 (a := 2) (b := 1) (by decide +kernel) rfl (by decide +kernel)
theorem dX11_image_58 : decode cX11_image 58 = .ok (.goto (-54), 3) := dq_167 (a := 255) (b := 202) (by decide +kernel) (by decide +kernel)
theorem dX11_octet_0 : decode cX11_octet 0 = .ok (.iload_n 1, 1) := dq_27 (by decide +kernel)
theorem dX11_octet_1 : decode cX11_octet 1 = .ok (.ifCond .lt 20, 3) := dq_155 (a := 0) (b := 20) (by decide +kernel) (by decide +kernel)
theorem dX11_octet_21 : decode cX11_octet 21 = .ok (.iconst (-1), 1) := dq_2 (by decide +kernel)
theorem dX11_octet_22 : decode cX11_octet 22 = .ok (.ireturn, 1) := dq_172 (by decide +kernel)
theorem dX11_octet_4 : decode cX11_octet 4 = .ok (.iload_n 1, 1) := dq_27 (by decide +kernel)
theorem dX11_octet_5 : decode cX11_octet 5 = .ok (.aload_n 0, 1) := dq_42 (by decide +kernel)
theorem dX11_octet_6 : decode cX11_octet 6 = .ok (.getfield 62, 3) := dq_180 (a := 0) (b := 62) (by decide +kernel) rfl
theorem dX11_octet_9 : decode cX11_octet 9 = .ok (.if_icmp .ge 12, 3) := dq_162 (a := 0) (b := 12) (by decide +kernel) (by decide +kernel)
theorem dX11_octet_12 : decode cX11_octet 12 = .ok (.aload_n 0, 1) := dq_42 (by decide +kernel)
theorem dX11_octet_13 : decode cX11_octet 13 = .ok (.getfield 59, 3) := dq_180 (a := 0) (b := 59) (by decide +kernel) rfl
theorem dX11_octet_16 : decode cX11_octet 16 = .ok (.iload_n 1, 1) := dq_27 (by decide +kernel)
theorem dX11_octet_17 : decode cX11_octet 17 = .ok (.iaload, 1) := dq_46 (by decide +kernel)
theorem dX11_octet_18 : decode cX11_octet 18 = .ok (.goto 4, 3) := dq_167 (a := 0) (b := 4) (by decide +kernel) (by decide +kernel)
theorem dX11_isImage_0 : decode cX11_isImage 0 = .ok (.iconst 2, 1) := dq_5 (by decide +kernel)
theorem dX11_isImage_1 : decode cX11_isImage 1 = .ok (.aload_n 0, 1) := dq_42 (by decide +kernel)
theorem dX11_isImage_2 : decode cX11_isImage 2 = .ok (.getfield 69, 3) := dq_180 (a := 0) (b := 69) (by decide +kernel) rfl
theorem dX11_isImage_5 : decode cX11_isImage 5 = .ok (.getfield 139, 3) := dq_180 (a := 0) (b := 139) (by decide +kernel) rfl
theorem dX11_isImage_8 : decode cX11_isImage 8 = .ok (.imul, 1) := dq_104 (by decide +kernel)
theorem dX11_isImage_9 : decode cX11_isImage 9 = .ok (.iconst 1, 1) := dq_4 (by decide +kernel)
theorem dX11_isImage_10 : decode cX11_isImage 10 = .ok (.iadd, 1) := dq_96 (by decide +kernel)
theorem dX11_isImage_11 : decode cX11_isImage 11 = .ok (.istore_n 1, 1) := dq_60 (by decide +kernel)
theorem dX11_isImage_12 : decode cX11_isImage 12 = .ok (.aload_n 0, 1) := dq_42 (by decide +kernel)
theorem dX11_isImage_13 : decode cX11_isImage 13 = .ok (.getfield 20, 3) := dq_180 (a := 0) (b := 20) (by decide +kernel) rfl
theorem dX11_isImage_16 : decode cX11_isImage 16 = .ok (.invokevirtual 93, 3) := dq_182 (a := 0) (b := 93) (by decide +kernel) rfl
theorem dX11_isImage_19 : decode cX11_isImage 19 = .ok (.iload_n 1, 1) := dq_27 (by decide +kernel)
theorem dX11_isImage_20 : decode cX11_isImage 20 = .ok (.iconst 1, 1) := dq_4 (by decide +kernel)
theorem dX11_isImage_21 : decode cX11_isImage 21 = .ok (.iadd, 1) := dq_96 (by decide +kernel)
theorem dX11_isImage_22 : decode cX11_isImage 22 = .ok (.if_icmp .eq 5, 3) := dq_159 (a := 0) (b := 5) (by decide +kernel) (by decide +kernel)
theorem dX11_isImage_27 : decode cX11_isImage 27 = .ok (.bipush 51, 2) := dq_16 (a := 51) (by decide +kernel) (by decide +kernel)
theorem dX11_isImage_29 : decode cX11_isImage 29 = .ok (.istore_n 2, 1) := dq_61 (by decide +kernel)
theorem dX11_isImage_30 : decode cX11_isImage 30 = .ok (.iconst 0, 1) := dq_3 (by decide +kernel)
theorem dX11_isImage_31 : decode cX11_isImage 31 = .ok (.istore_n 3, 1) := dq_62 (by decide +kernel)
theorem dX11_isImage_32 : decode cX11_isImage 32 = .ok (.iload_n 3, 1) := dq_29 (by decide +kernel)
theorem dX11_isImage_33 : decode cX11_isImage 33 = .ok (.iload_n 1, 1) := dq_27 (by decide +kernel)
theorem dX11_isImage_34 : decode cX11_isImage 34 = .ok (.if_icmp .ge 22, 3) := dq_162 (a := 0) (b := 22) (by decide +kernel) (by decide +kernel)
theorem dX11_isImage_56 : decode cX11_isImage 56 = .ok (.aload_n 0, 1) := dq_42 (by decide +kernel)
theorem dX11_isImage_57 : decode cX11_isImage 57 = .ok (.getfield 20, 3) := dq_180 (a := 0) (b := 20) (by decide +kernel) rfl
theorem dX11_isImage_60 : decode cX11_isImage 60 = .ok (.iload_n 1, 1) := dq_27 (by decide +kernel)
theorem dX11_isImage_61 : decode cX11_isImage 61 = .ok (.invokevirtual 410, 3) := dq_182 (a := 1) (b := 154) (by decide +kernel) rfl
theorem dX11_isImage_64 : decode cX11_isImage 64 = .ok (.iload_n 2, 1) := dq_28 (by decide +kernel)
theorem dX11_isImage_65 : decode cX11_isImage 65 = .ok (.if_icmp .ne 7, 3) := dq_160 (a := 0) (b := 7) (by decide +kernel) (by decide +kernel)
theorem dX11_isImage_72 : decode cX11_isImage 72 = .ok (.iconst 0, 1) := dq_3 (by decide +kernel)
theorem dX11_isImage_73 : decode cX11_isImage 73 = .ok (.ireturn, 1) := dq_172 (by decide +kernel)
theorem dX11_isImage_68 : decode cX11_isImage 68 = .ok (.iconst 1, 1) := dq_4 (by decide +kernel)
theorem dX11_isImage_69 : decode cX11_isImage 69 = .ok (.goto 4, 3) := dq_167 (a := 0) (b := 4) (by decide +kernel) (by decide +kernel)
theorem dX11_isImage_37 : decode cX11_isImage 37 = .ok (.iload_n 2, 1) := dq_28 (by decide +kernel)
theorem dX11_isImage_38 : decode cX11_isImage 38 = .ok (.aload_n 0, 1) := dq_42 (by decide +kernel)
theorem dX11_isImage_39 : decode cX11_isImage 39 = .ok (.getfield 20, 3) := dq_180 (a := 0) (b := 20) (by decide +kernel) rfl
theorem dX11_isImage_42 : decode cX11_isImage 42 = .ok (.iload_n 3, 1) := dq_29 (by decide +kernel)
theorem dX11_isImage_43 : decode cX11_isImage 43 = .ok (.invokevirtual 410, 3) := dq_182 (a := 1) (b := 154) (by decide +kernel) rfl
theorem dX11_isImage_46 : decode cX11_isImage 46 = .ok (.invokestatic 404, 3) := dq_184 (a := 1) (b := 148) (by decide +kernel) rfl
theorem dX11_isImage_49 : decode cX11_isImage 49 = .ok (.istore_n 2, 1) := dq_61 (by decide +kernel)
theorem dX11_isImage_50 : decode cX11_isImage 50 = .ok (.iinc 3 1, 3) := dq_132 (a := 3) (b := 1) (by decide +kernel) rfl (by decide +kernel)
theorem dX11_isImage_53 : decode cX11_isImage 53 = .ok (.goto (-21), 3) := dq_167 (a := 255) (b := 235) (by decide +kernel) (by decide +kernel)
theorem dX11_isImage_25 : decode cX11_isImage 25 = .ok (.iconst 0, 1) := dq_3 (by decide +kernel)
theorem dX11_isImage_26 : decode cX11_isImage 26 = .ok (.ireturn, 1) := dq_172 (by decide +kernel)
theorem dX12_feed_0 : decode cX12_feed 0 = .ok (.aload_n 0, 1) := dq_42 (by decide +kernel)
theorem dX12_feed_1 : decode cX12_feed 1 = .ok (.getfield 148, 3) := dq_180 (a := 0) (b := 148) (by decide +kernel) rfl
theorem dX12_feed_4 : decode cX12_feed 4 = .ok (.bipush 20, 2) := dq_16 (a := 20) (by decide +kernel) (by decide +kernel)
theorem dX12_feed_6 : decode cX12_feed 6 = .ok (.iadd, 1) := dq_96 (by decide +kernel)
theorem dX12_feed_7 : decode cX12_feed 7 = .ok (.sipush 1600, 3) := dq_17 (a := 6) (b := 64) (by decide +kernel) (by decide +kernel)
theorem dX12_feed_10 : decode cX12_feed 10 = .ok (.if_icmp .le 5, 3) := dq_164 (a := 0) (b := 5) (by decide +kernel) (by decide +kernel)
theorem dX12_feed_15 : decode cX12_feed 15 = .ok (.iconst 0, 1) := dq_3 (by decide +kernel)
theorem dX12_feed_16 : decode cX12_feed 16 = .ok (.istore 6, 2) := dq_54 (a := 6) (by decide +kernel) rfl
theorem dX12_feed_18 : decode cX12_feed 18 = .ok (.iload 6, 2) := dq_21 (a := 6) (by decide +kernel) rfl
theorem dX12_feed_20 : decode cX12_feed 20 = .ok (.bipush 20, 2) := dq_16 (a := 20) (by decide +kernel) (by decide +kernel)
theorem dX12_feed_22 : decode cX12_feed 22 = .ok (.if_icmp .ge 92, 3) := dq_162 (a := 0) (b := 92) (by decide +kernel) (by decide +kernel)
theorem dX12_feed_25 : decode cX12_feed 25 = .ok (.iload 6, 2) := dq_21 (a := 6) (by decide +kernel) rfl
theorem dX12_feed_27 : decode cX12_feed 27 = .ok (.iconst 4, 1) := dq_7 (by decide +kernel)
theorem dX12_feed_28 : decode cX12_feed 28 = .ok (.if_icmp .ge 7, 3) := dq_162 (a := 0) (b := 7) (by decide +kernel) (by decide +kernel)
theorem dX12_feed_31 : decode cX12_feed 31 = .ok (.iload_n 1, 1) := dq_27 (by decide +kernel)
theorem dX12_feed_32 : decode cX12_feed 32 = .ok (.goto 39, 3) := dq_167 (a := 0) (b := 39) (by decide +kernel) (by decide +kernel)
theorem dX12_feed_71 : decode cX12_feed 71 = .ok (.istore 7, 2) := dq_54 (a := 7) (by decide +kernel) rfl
theorem dX12_feed_73 : decode cX12_feed 73 = .ok (.aload_n 0, 1) := dq_42 (by decide +kernel)
theorem dX12_feed_74 : decode cX12_feed 74 = .ok (.getfield 7, 3) := dq_180 (a := 0) (b := 7) (by decide +kernel) rfl
theorem dX12_feed_77 : decode cX12_feed 77 = .ok (.aload_n 0, 1) := dq_42 (by decide +kernel)
theorem dX12_feed_78 : decode cX12_feed 78 = .ok (.getfield 148, 3) := dq_180 (a := 0) (b := 148) (by decide +kernel) rfl
theorem dX12_feed_81 : decode cX12_feed 81 = .ok (.iload 7, 2) := dq_21 (a := 7) (by decide +kernel) rfl
theorem dX12_feed_83 : decode cX12_feed 83 = .ok (.bipush 8, 2) := dq_16 (a := 8) (by decide +kernel) (by decide +kernel)
theorem dX12_feed_85 : decode cX12_feed 85 = .ok (.iconst 3, 1) := dq_6 (by decide +kernel)
theorem dX12_feed_86 : decode cX12_feed 86 = .ok (.iload 6, 2) := dq_21 (a := 6) (by decide +kernel) rfl
theorem dX12_feed_88 : decode cX12_feed 88 = .ok (.iconst 4, 1) := dq_7 (by decide +kernel)
theorem dX12_feed_89 : decode cX12_feed 89 = .ok (.irem, 1) := dq_112 (by decide +kernel)
theorem dX12_feed_90 : decode cX12_feed 90 = .ok (.isub, 1) := dq_100 (by decide +kernel)
theorem dX12_feed_91 : decode cX12_feed 91 = .ok (.imul, 1) := dq_104 (by decide +kernel)
theorem dX12_feed_92 : decode cX12_feed 92 = .ok (.ishr, 1) := dq_122 (by decide +kernel)
theorem dX12_feed_93 : decode cX12_feed 93 = .ok (.sipush 255, 3) := dq_17 (a := 0) (b := 255) (by decide +kernel) (by decide +kernel)
theorem dX12_feed_96 : decode cX12_feed 96 = .ok (.iand, 1) := dq_126 (by decide +kernel)
theorem dX12_feed_97 : decode cX12_feed 97 = .ok (.iastore, 1) := dq_79 (by decide +kernel)
theorem dX12_feed_98 : decode cX12_feed 98 = .ok (.aload_n 0, 1) := dq_42 (by decide +kernel)
theorem dX12_feed_99 : decode cX12_feed 99 = .ok (.dup, 1) := dq_89 (by decide +kernel)
theorem dX12_feed_100 : decode cX12_feed 100 = .ok (.getfield 148, 3) := dq_180 (a := 0) (b := 148) (by decide +kernel) rfl
theorem dX12_feed_103 : decode cX12_feed 103 = .ok (.iconst 1, 1) := dq_4 (by decide +kernel)
theorem dX12_feed_104 : decode cX12_feed 104 = .ok (.iadd, 1) := dq_96 (by decide +kernel)
theorem dX12_feed_105 : decode cX12_feed 105 = .ok (.putfield 148, 3) := dq_181 (a := 0) (b := 148) (by decide +kernel) rfl
theorem dX12_feed_108 : decode cX12_feed 108 = .ok (.iinc 6 1, 3) := dq_132 (a := 6) (b := 1) (by decide +kernel) rfl (by decide +kernel)
theorem dX12_feed_111 : decode cX12_feed 111 = .ok (.goto (-93), 3) := dq_167 (a := 255) (b := 163) (by decide +kernel) (by decide +kernel)
theorem dX12_feed_114 : decode cX12_feed 114 = .ok (.aload_n 0, 1) := dq_42 (by decide +kernel)
theorem dX12_feed_115 : decode cX12_feed 115 = .ok (.getfield 148, 3) := dq_180 (a := 0) (b := 148) (by decide +kernel) rfl
theorem dX12_feed_118 : decode cX12_feed 118 = .ok (.ireturn, 1) := dq_172 (by decide +kernel)
theorem dX12_feed_35 : decode cX12_feed 35 = .ok (.iload 6, 2) := dq_21 (a := 6) (by decide +kernel) rfl
theorem dX12_feed_37 : decode cX12_feed 37 = .ok (.bipush 8, 2) := dq_16 (a := 8) (by decide +kernel) (by decide +kernel)
theorem dX12_feed_39 : decode cX12_feed 39 = .ok (.if_icmp .ge 7, 3) := dq_162 (a := 0) (b := 7) (by decide +kernel) (by decide +kernel)
theorem dX12_feed_46 : decode cX12_feed 46 = .ok (.iload 6, 2) := dq_21 (a := 6) (by decide +kernel) rfl
theorem dX12_feed_48 : decode cX12_feed 48 = .ok (.bipush 12, 2) := dq_16 (a := 12) (by decide +kernel) (by decide +kernel)
theorem dX12_feed_50 : decode cX12_feed 50 = .ok (.if_icmp .ge 7, 3) := dq_162 (a := 0) (b := 7) (by decide +kernel) (by decide +kernel)
theorem dX12_feed_57 : decode cX12_feed 57 = .ok (.iload 6, 2) := dq_21 (a := 6) (by decide +kernel) rfl
theorem dX12_feed_59 : decode cX12_feed 59 = .ok (.bipush 16, 2) := dq_16 (a := 16) (by decide +kernel) (by decide +kernel)
theorem dX12_feed_61 : decode cX12_feed 61 = .ok (.if_icmp .ge 8, 3) := dq_162 (a := 0) (b := 8) (by decide +kernel) (by decide +kernel)
theorem dX12_feed_69 : decode cX12_feed 69 = .ok (.iload 5, 2) := dq_21 (a := 5) (by decide +kernel) rfl
theorem dX12_feed_64 : decode cX12_feed 64 = .ok (.iload 4, 2) := dq_21 (a := 4) (by decide +kernel) rfl
theorem dX12_feed_66 : decode cX12_feed 66 = .ok (.goto 5, 3) := dq_167 (a := 0) (b := 5) (by decide +kernel) (by decide +kernel)
theorem dX12_feed_53 : decode cX12_feed 53 = .ok (.iload_n 3, 1) := dq_29 (by decide +kernel)
theorem dX12_feed_54 : decode cX12_feed 54 = .ok (.goto 17, 3) := dq_167 (a := 0) (b := 17) (by decide +kernel) (by decide +kernel)
theorem dX12_feed_42 : decode cX12_feed 42 = .ok (.iload_n 2, 1) := dq_28 (by decide +kernel)
theorem dX12_feed_43 : decode cX12_feed 43 = .ok (.goto 28, 3) := dq_167 (a := 0) (b := 28) (by decide +kernel) (by decide +kernel)
theorem dX12_feed_13 : decode cX12_feed 13 = .ok (.iconst (-1), 1) := dq_2 (by decide +kernel)
theorem dX12_feed_14 : decode cX12_feed 14 = .ok (.ireturn, 1) := dq_172 (by decide +kernel)
theorem dX12_end_0 : decode cX12_end 0 = .ok (.iload_n 1, 1) := dq_27 (by decide +kernel)
theorem dX12_end_1 : decode cX12_end 1 = .ok (.ifCond .lt 11, 3) := dq_155 (a := 0) (b := 11) (by decide +kernel) (by decide +kernel)
theorem dX12_end_12 : decode cX12_end 12 = .ok (.iconst 0, 1) := dq_3 (by decide +kernel)
theorem dX12_end_13 : decode cX12_end 13 = .ok (.ireturn, 1) := dq_172 (by decide +kernel)
theorem dX12_end_4 : decode cX12_end 4 = .ok (.iload_n 1, 1) := dq_27 (by decide +kernel)
theorem dX12_end_5 : decode cX12_end 5 = .ok (.aload_n 0, 1) := dq_42 (by decide +kernel)
theorem dX12_end_6 : decode cX12_end 6 = .ok (.getfield 148, 3) := dq_180 (a := 0) (b := 148) (by decide +kernel) rfl
theorem dX12_end_9 : decode cX12_end 9 = .ok (.if_icmp .le 5, 3) := dq_164 (a := 0) (b := 5) (by decide +kernel) (by decide +kernel)
theorem dX12_end_14 : decode cX12_end 14 = .ok (.aload_n 0, 1) := dq_42 (by decide +kernel)
theorem dX12_end_15 : decode cX12_end 15 = .ok (.iload_n 1, 1) := dq_27 (by decide +kernel)
theorem dX12_end_16 : decode cX12_end 16 = .ok (.putfield 148, 3) := dq_181 (a := 0) (b := 148) (by decide +kernel) rfl
theorem dX12_end_19 : decode cX12_end 19 = .ok (.iconst 1, 1) := dq_4 (by decide +kernel)
theorem dX12_end_20 : decode cX12_end 20 = .ok (.ireturn, 1) := dq_172 (by decide +kernel)
theorem dX12_house_0 : decode cX12_house 0 = .ok (.aload_n 0, 1) := dq_42 (by decide +kernel)
theorem dX12_house_1 : decode cX12_house 1 = .ok (.aload_n 0, 1) := dq_42 (by decide +kernel)
theorem dX12_house_2 : decode cX12_house 2 = .ok (.getfield 148, 3) := dq_180 (a := 0) (b := 148) (by decide +kernel) rfl
theorem dX12_house_5 : decode cX12_house 5 = .ok (.putfield 160, 3) := dq_181 (a := 0) (b := 160) (by decide +kernel) rfl
theorem dX12_house_8 : decode cX12_house 8 = .ok (.aload_n 0, 1) := dq_42 (by decide +kernel)
theorem dX12_house_9 : decode cX12_house 9 = .ok (.iconst 0, 1) := dq_3 (by decide +kernel)
theorem dX12_house_10 : decode cX12_house 10 = .ok (.putfield 148, 3) := dq_181 (a := 0) (b := 148) (by decide +kernel) rfl
theorem dX12_house_13 : decode cX12_house 13 = .ok (.aload_n 0, 1) := dq_42 (by decide +kernel)
theorem dX12_house_14 : decode cX12_house 14 = .ok (.iconst 0, 1) := dq_3 (by decide +kernel)
theorem dX12_house_15 : decode cX12_house 15 = .ok (.putfield 157, 3) := dq_181 (a := 0) (b := 157) (by decide +kernel) rfl
theorem dX12_house_18 : decode cX12_house 18 = .ok (.aload_n 0, 1) := dq_42 (by decide +kernel)
theorem dX12_house_19 : decode cX12_house 19 = .ok (.iconst (-1), 1) := dq_2 (by decide +kernel)
theorem dX12_house_20 : decode cX12_house 20 = .ok (.putfield 171, 3) := dq_181 (a := 0) (b := 171) (by decide +kernel) rfl
theorem dX12_house_23 : decode cX12_house 23 = .ok (.aload_n 0, 1) := dq_42 (by decide +kernel)
theorem dX12_house_24 : decode cX12_house 24 = .ok (.iconst 0, 1) := dq_3 (by decide +kernel)
theorem dX12_house_25 : decode cX12_house 25 = .ok (.putfield 151, 3) := dq_181 (a := 0) (b := 151) (by decide +kernel) rfl
theorem dX12_house_28 : decode cX12_house 28 = .ok (.aload_n 0, 1) := dq_42 (by decide +kernel)
theorem dX12_house_29 : decode cX12_house 29 = .ok (.iconst (-1), 1) := dq_2 (by decide +kernel)
theorem dX12_house_30 : decode cX12_house 30 = .ok (.putfield 154, 3) := dq_181 (a := 0) (b := 154) (by decide +kernel) rfl
theorem dX12_house_33 : decode cX12_house 33 = .ok (.aload_n 0, 1) := dq_42 (by decide +kernel)
theorem dX12_house_34 : decode cX12_house 34 = .ok (.iconst 0, 1) := dq_3 (by decide +kernel)
theorem dX12_house_35 : decode cX12_house 35 = .ok (.putfield 222, 3) := dq_181 (a := 0) (b := 222) (by decide +kernel) rfl
theorem dX12_house_38 : decode cX12_house 38 = .ok (.aload_n 0, 1) := dq_42 (by decide +kernel)
theorem dX12_house_39 : decode cX12_house 39 = .ok (.getfield 81, 3) := dq_180 (a := 0) (b := 81) (by decide +kernel) rfl
theorem dX12_house_42 : decode cX12_house 42 = .ok (.iconst 1, 1) := dq_4 (by decide +kernel)
theorem dX12_house_43 : decode cX12_house 43 = .ok (.iconst 0, 1) := dq_3 (by decide +kernel)
theorem dX12_house_44 : decode cX12_house 44 = .ok (.iastore, 1) := dq_79 (by decide +kernel)
theorem dX12_house_45 : decode cX12_house 45 = .ok (.aload_n 0, 1) := dq_42 (by decide +kernel)
theorem dX12_house_46 : decode cX12_house 46 = .ok (.aload_n 0, 1) := dq_42 (by decide +kernel)
theorem dX12_house_47 : decode cX12_house 47 = .ok (.getfield 17, 3) := dq_180 (a := 0) (b := 17) (by decide +kernel) rfl
theorem dX12_house_50 : decode cX12_house 50 = .ok (.invokevirtual 212, 3) := dq_182 (a := 0) (b := 212) (by decide +kernel) rfl
theorem dX12_asks_0 : decode cX12_asks 0 = .ok (.aload_n 0, 1) := dq_42 (by decide +kernel)
theorem dX12_asks_1 : decode cX12_asks 1 = .ok (.getfield 151, 3) := dq_180 (a := 0) (b := 151) (by decide +kernel) rfl
theorem dX12_asks_4 : decode cX12_asks 4 = .ok (.ifCond .ne 20, 3) := dq_154 (a := 0) (b := 20) (by decide +kernel) (by decide +kernel)
theorem dX12_asks_24 : decode cX12_asks 24 = .ok (.return_, 1) := dq_177 (by decide +kernel)
theorem dX12_asks_7 : decode cX12_asks 7 = .ok (.aload_n 0, 1) := dq_42 (by decide +kernel)
theorem dX12_asks_8 : decode cX12_asks 8 = .ok (.aload_n 1, 1) := dq_43 (by decide +kernel)
theorem dX12_asks_9 : decode cX12_asks 9 = .ok (.invokevirtual 178, 3) := dq_182 (a := 0) (b := 178) (by decide +kernel) rfl
theorem dX12_takes_0 : decode cX12_takes 0 = .ok (.aload_n 0, 1) := dq_42 (by decide +kernel)
theorem dX12_takes_1 : decode cX12_takes 1 = .ok (.aload_n 1, 1) := dq_43 (by decide +kernel)
theorem dX12_takes_2 : decode cX12_takes 2 = .ok (.invokevirtual 174, 3) := dq_182 (a := 0) (b := 174) (by decide +kernel) rfl
theorem dX12_isHere_0 : decode cX12_isHere 0 = .ok (.aload_n 0, 1) := dq_42 (by decide +kernel)
theorem dX12_isHere_1 : decode cX12_isHere 1 = .ok (.getfield 151, 3) := dq_180 (a := 0) (b := 151) (by decide +kernel) rfl
theorem dX12_isHere_4 : decode cX12_isHere 4 = .ok (.ifCond .ne 24, 3) := dq_154 (a := 0) (b := 24) (by decide +kernel) (by decide +kernel)
theorem dX12_isHere_28 : decode cX12_isHere 28 = .ok (.iconst 0, 1) := dq_3 (by decide +kernel)
theorem dX12_isHere_29 : decode cX12_isHere 29 = .ok (.ireturn, 1) := dq_172 (by decide +kernel)
theorem dX12_isHere_7 : decode cX12_isHere 7 = .ok (.aload_n 0, 1) := dq_42 (by decide +kernel)
theorem dX12_isHere_8 : decode cX12_isHere 8 = .ok (.invokevirtual 163, 3) := dq_182 (a := 0) (b := 163) (by decide +kernel) rfl
theorem dX12_look_0 : decode cX12_look 0 = .ok (.aload_n 0, 1) := dq_42 (by decide +kernel)
theorem dX12_look_1 : decode cX12_look 1 = .ok (.getfield 157, 3) := dq_180 (a := 0) (b := 157) (by decide +kernel) rfl
theorem dX12_look_4 : decode cX12_look 4 = .ok (.aload_n 0, 1) := dq_42 (by decide +kernel)
theorem dX12_look_5 : decode cX12_look 5 = .ok (.getfield 160, 3) := dq_180 (a := 0) (b := 160) (by decide +kernel) rfl
theorem dX12_look_8 : decode cX12_look 8 = .ok (.if_icmp .ge 44, 3) := dq_162 (a := 0) (b := 44) (by decide +kernel) (by decide +kernel)
theorem dX12_look_52 : decode cX12_look 52 = .ok (.aload_n 0, 1) := dq_42 (by decide +kernel)
theorem dX12_look_53 : decode cX12_look 53 = .ok (.getfield 157, 3) := dq_180 (a := 0) (b := 157) (by decide +kernel) rfl
theorem dX12_look_56 : decode cX12_look 56 = .ok (.aload_n 0, 1) := dq_42 (by decide +kernel)
theorem dX12_look_57 : decode cX12_look 57 = .ok (.getfield 160, 3) := dq_180 (a := 0) (b := 160) (by decide +kernel) rfl
theorem dX12_look_60 : decode cX12_look 60 = .ok (.if_icmp .ge 15, 3) := dq_162 (a := 0) (b := 15) (by decide +kernel) (by decide +kernel)
theorem dX12_look_75 : decode cX12_look 75 = .ok (.iconst (-1), 1) := dq_2 (by decide +kernel)
theorem dX12_look_76 : decode cX12_look 76 = .ok (.ireturn, 1) := dq_172 (by decide +kernel)
theorem dX12_look_63 : decode cX12_look 63 = .ok (.aload_n 0, 1) := dq_42 (by decide +kernel)
theorem dX12_look_64 : decode cX12_look 64 = .ok (.getfield 7, 3) := dq_180 (a := 0) (b := 7) (by decide +kernel) rfl
theorem dX12_look_67 : decode cX12_look 67 = .ok (.aload_n 0, 1) := dq_42 (by decide +kernel)
theorem dX12_look_68 : decode cX12_look 68 = .ok (.getfield 157, 3) := dq_180 (a := 0) (b := 157) (by decide +kernel) rfl
theorem dX12_look_71 : decode cX12_look 71 = .ok (.iaload, 1) := dq_46 (by decide +kernel)
theorem dX12_look_72 : decode cX12_look 72 = .ok (.goto 4, 3) := dq_167 (a := 0) (b := 4) (by decide +kernel) (by decide +kernel)
theorem dX12_look_11 : decode cX12_look 11 = .ok (.aload_n 0, 1) := dq_42 (by decide +kernel)
theorem dX12_look_12 : decode cX12_look 12 = .ok (.getfield 7, 3) := dq_180 (a := 0) (b := 7) (by decide +kernel) rfl
theorem dX12_look_15 : decode cX12_look 15 = .ok (.aload_n 0, 1) := dq_42 (by decide +kernel)
theorem dX12_look_16 : decode cX12_look 16 = .ok (.getfield 157, 3) := dq_180 (a := 0) (b := 157) (by decide +kernel) rfl
theorem dX12_look_19 : decode cX12_look 19 = .ok (.iaload, 1) := dq_46 (by decide +kernel)
theorem dX12_look_20 : decode cX12_look 20 = .ok (.bipush 10, 2) := dq_16 (a := 10) (by decide +kernel) (by decide +kernel)
theorem dX12_look_22 : decode cX12_look 22 = .ok (.if_icmp .eq 17, 3) := dq_159 (a := 0) (b := 17) (by decide +kernel) (by decide +kernel)
theorem dX12_look_39 : decode cX12_look 39 = .ok (.aload_n 0, 1) := dq_42 (by decide +kernel)
theorem dX12_look_40 : decode cX12_look 40 = .ok (.dup, 1) := dq_89 (by decide +kernel)
theorem dX12_look_41 : decode cX12_look 41 = .ok (.getfield 157, 3) := dq_180 (a := 0) (b := 157) (by decide +kernel) rfl
theorem dX12_look_44 : decode cX12_look 44 = .ok (.iconst 1, 1) := dq_4 (by decide +kernel)
theorem dX12_look_45 : decode cX12_look 45 = .ok (.iadd, 1) := dq_96 (by decide +kernel)
theorem dX12_look_46 : decode cX12_look 46 = .ok (.putfield 157, 3) := dq_181 (a := 0) (b := 157) (by decide +kernel) rfl
theorem dX12_look_49 : decode cX12_look 49 = .ok (.goto (-49), 3) := dq_167 (a := 255) (b := 207) (by decide +kernel) (by decide +kernel)
theorem dX12_look_25 : decode cX12_look 25 = .ok (.aload_n 0, 1) := dq_42 (by decide +kernel)
theorem dX12_look_26 : decode cX12_look 26 = .ok (.getfield 7, 3) := dq_180 (a := 0) (b := 7) (by decide +kernel) rfl
theorem dX12_look_29 : decode cX12_look 29 = .ok (.aload_n 0, 1) := dq_42 (by decide +kernel)
theorem dX12_look_30 : decode cX12_look 30 = .ok (.getfield 157, 3) := dq_180 (a := 0) (b := 157) (by decide +kernel) rfl
theorem dX12_look_33 : decode cX12_look 33 = .ok (.iaload, 1) := dq_46 (by decide +kernel)
theorem dX12_look_34 : decode cX12_look 34 = .ok (.bipush 32, 2) := dq_16 (a := 32) (by decide +kernel) (by decide +kernel)
theorem dX12_look_36 : decode cX12_look 36 = .ok (.if_icmp .ne 16, 3) := dq_160 (a := 0) (b := 16) (by decide +kernel) (by decide +kernel)
theorem dX12_isHere_11 : decode cX12_isHere 11 = .ok (.invokestatic 167, 3) := dq_184 (a := 0) (b := 167) (by decide +kernel) rfl
theorem dX12_isLetter_0 : decode cX12_isLetter 0 = .ok (.iload_n 0, 1) := dq_26 (by decide +kernel)
theorem dX12_isLetter_1 : decode cX12_isLetter 1 = .ok (.bipush 97, 2) := dq_16 (a := 97) (by decide +kernel) (by decide +kernel)
theorem dX12_isLetter_3 : decode cX12_isLetter 3 = .ok (.if_icmp .lt 13, 3) := dq_161 (a := 0) (b := 13) (by decide +kernel) (by decide +kernel)
theorem dX12_isLetter_16 : decode cX12_isLetter 16 = .ok (.iconst 0, 1) := dq_3 (by decide +kernel)
theorem dX12_isLetter_17 : decode cX12_isLetter 17 = .ok (.ireturn, 1) := dq_172 (by decide +kernel)
theorem dX12_isLetter_6 : decode cX12_isLetter 6 = .ok (.iload_n 0, 1) := dq_26 (by decide +kernel)
theorem dX12_isLetter_7 : decode cX12_isLetter 7 = .ok (.bipush 122, 2) := dq_16 (a := 122) (by decide +kernel) (by decide +kernel)
theorem dX12_isLetter_9 : decode cX12_isLetter 9 = .ok (.if_icmp .gt 7, 3) := dq_163 (a := 0) (b := 7) (by decide +kernel) (by decide +kernel)
theorem dX12_isLetter_12 : decode cX12_isLetter 12 = .ok (.iconst 1, 1) := dq_4 (by decide +kernel)
theorem dX12_isLetter_13 : decode cX12_isLetter 13 = .ok (.goto 4, 3) := dq_167 (a := 0) (b := 4) (by decide +kernel) (by decide +kernel)
theorem dX12_isHere_14 : decode cX12_isHere 14 = .ok (.ifCond .eq 14, 3) := dq_153 (a := 0) (b := 14) (by decide +kernel) (by decide +kernel)
theorem dX12_isHere_17 : decode cX12_isHere 17 = .ok (.aload_n 0, 1) := dq_42 (by decide +kernel)
theorem dX12_isHere_18 : decode cX12_isHere 18 = .ok (.getfield 157, 3) := dq_180 (a := 0) (b := 157) (by decide +kernel) rfl
theorem dX12_isHere_21 : decode cX12_isHere 21 = .ok (.aload_n 0, 1) := dq_42 (by decide +kernel)
theorem dX12_isHere_22 : decode cX12_isHere 22 = .ok (.getfield 171, 3) := dq_180 (a := 0) (b := 171) (by decide +kernel) rfl
theorem dX12_isHere_25 : decode cX12_isHere 25 = .ok (.if_icmp .ne 5, 3) := dq_160 (a := 0) (b := 5) (by decide +kernel) (by decide +kernel)
theorem dX12_isHere_30 : decode cX12_isHere 30 = .ok (.aload_n 0, 1) := dq_42 (by decide +kernel)
theorem dX12_isHere_31 : decode cX12_isHere 31 = .ok (.getfield 157, 3) := dq_180 (a := 0) (b := 157) (by decide +kernel) rfl
theorem dX12_isHere_34 : decode cX12_isHere 34 = .ok (.istore_n 2, 1) := dq_61 (by decide +kernel)
theorem dX12_isHere_35 : decode cX12_isHere 35 = .ok (.iload_n 2, 1) := dq_28 (by decide +kernel)
theorem dX12_isHere_36 : decode cX12_isHere 36 = .ok (.aload_n 0, 1) := dq_42 (by decide +kernel)
theorem dX12_isHere_37 : decode cX12_isHere 37 = .ok (.getfield 160, 3) := dq_180 (a := 0) (b := 160) (by decide +kernel) rfl
theorem dX12_isHere_40 : decode cX12_isHere 40 = .ok (.if_icmp .ge 21, 3) := dq_162 (a := 0) (b := 21) (by decide +kernel) (by decide +kernel)
theorem dX12_isHere_61 : decode cX12_isHere 61 = .ok (.iload_n 2, 1) := dq_28 (by decide +kernel)
theorem dX12_isHere_62 : decode cX12_isHere 62 = .ok (.aload_n 0, 1) := dq_42 (by decide +kernel)
theorem dX12_isHere_63 : decode cX12_isHere 63 = .ok (.getfield 157, 3) := dq_180 (a := 0) (b := 157) (by decide +kernel) rfl
theorem dX12_isHere_66 : decode cX12_isHere 66 = .ok (.isub, 1) := dq_100 (by decide +kernel)
theorem dX12_isHere_67 : decode cX12_isHere 67 = .ok (.aload_n 1, 1) := dq_43 (by decide +kernel)
theorem dX12_isHere_68 : decode cX12_isHere 68 = .ok (.arraylength, 1) := dq_190 (by decide +kernel)
theorem dX12_isHere_69 : decode cX12_isHere 69 = .ok (.if_icmp .eq 5, 3) := dq_159 (a := 0) (b := 5) (by decide +kernel) (by decide +kernel)
theorem dX12_isHere_74 : decode cX12_isHere 74 = .ok (.iconst 0, 1) := dq_3 (by decide +kernel)
theorem dX12_isHere_75 : decode cX12_isHere 75 = .ok (.istore_n 3, 1) := dq_62 (by decide +kernel)
theorem dX12_isHere_76 : decode cX12_isHere 76 = .ok (.iload_n 3, 1) := dq_29 (by decide +kernel)
theorem dX12_isHere_77 : decode cX12_isHere 77 = .ok (.aload_n 1, 1) := dq_43 (by decide +kernel)
theorem dX12_isHere_78 : decode cX12_isHere 78 = .ok (.arraylength, 1) := dq_190 (by decide +kernel)
theorem dX12_isHere_79 : decode cX12_isHere 79 = .ok (.if_icmp .ge 28, 3) := dq_162 (a := 0) (b := 28) (by decide +kernel) (by decide +kernel)
theorem dX12_isHere_82 : decode cX12_isHere 82 = .ok (.aload_n 0, 1) := dq_42 (by decide +kernel)
theorem dX12_isHere_83 : decode cX12_isHere 83 = .ok (.getfield 7, 3) := dq_180 (a := 0) (b := 7) (by decide +kernel) rfl
theorem dX12_isHere_86 : decode cX12_isHere 86 = .ok (.aload_n 0, 1) := dq_42 (by decide +kernel)
theorem dX12_isHere_87 : decode cX12_isHere 87 = .ok (.getfield 157, 3) := dq_180 (a := 0) (b := 157) (by decide +kernel) rfl
theorem dX12_isHere_90 : decode cX12_isHere 90 = .ok (.iload_n 3, 1) := dq_29 (by decide +kernel)
theorem dX12_isHere_91 : decode cX12_isHere 91 = .ok (.iadd, 1) := dq_96 (by decide +kernel)
theorem dX12_isHere_92 : decode cX12_isHere 92 = .ok (.iaload, 1) := dq_46 (by decide +kernel)
theorem dX12_isHere_93 : decode cX12_isHere 93 = .ok (.aload_n 1, 1) := dq_43 (by decide +kernel)
theorem dX12_isHere_94 : decode cX12_isHere 94 = .ok (.iload_n 3, 1) := dq_29 (by decide +kernel)
theorem dX12_isHere_95 : decode cX12_isHere 95 = .ok (.caload, 1) := dq_52 (by decide +kernel)
theorem dX12_isHere_96 : decode cX12_isHere 96 = .ok (.if_icmp .eq 5, 3) := dq_159 (a := 0) (b := 5) (by decide +kernel) (by decide +kernel)
theorem dX12_isHere_101 : decode cX12_isHere 101 = .ok (.iinc 3 1, 3) := dq_132 (a := 3) (b := 1) (by decide +kernel) rfl (by decide +kernel)
theorem dX12_isHere_104 : decode cX12_isHere 104 = .ok (.goto (-28), 3) := dq_167 (a := 255) (b := 228) (by decide +kernel) (by decide +kernel)
theorem dX12_isHere_99 : decode cX12_isHere 99 = .ok (.iconst 0, 1) := dq_3 (by decide +kernel)
theorem dX12_isHere_100 : decode cX12_isHere 100 = .ok (.ireturn, 1) := dq_172 (by decide +kernel)
theorem dX12_isHere_107 : decode cX12_isHere 107 = .ok (.iconst 1, 1) := dq_4 (by decide +kernel)
theorem dX12_isHere_108 : decode cX12_isHere 108 = .ok (.ireturn, 1) := dq_172 (by decide +kernel)
theorem dX12_isHere_72 : decode cX12_isHere 72 = .ok (.iconst 0, 1) := dq_3 (by decide +kernel)
theorem dX12_isHere_73 : decode cX12_isHere 73 = .ok (.ireturn, 1) := dq_172 (by decide +kernel)
theorem dX12_isHere_43 : decode cX12_isHere 43 = .ok (.aload_n 0, 1) := dq_42 (by decide +kernel)
theorem dX12_isHere_44 : decode cX12_isHere 44 = .ok (.getfield 7, 3) := dq_180 (a := 0) (b := 7) (by decide +kernel) rfl
theorem dX12_isHere_47 : decode cX12_isHere 47 = .ok (.iload_n 2, 1) := dq_28 (by decide +kernel)
theorem dX12_isHere_48 : decode cX12_isHere 48 = .ok (.iaload, 1) := dq_46 (by decide +kernel)
theorem dX12_isHere_49 : decode cX12_isHere 49 = .ok (.invokestatic 167, 3) := dq_184 (a := 0) (b := 167) (by decide +kernel) rfl
theorem dX12_isHere_52 : decode cX12_isHere 52 = .ok (.ifCond .eq 9, 3) := dq_153 (a := 0) (b := 9) (by decide +kernel) (by decide +kernel)
theorem dX12_isHere_55 : decode cX12_isHere 55 = .ok (.iinc 2 1, 3) := dq_132 (a := 2) (b := 1) (by decide +kernel) rfl (by decide +kernel)
theorem dX12_isHere_58 : decode cX12_isHere 58 = .ok (.goto (-23), 3) := dq_167 (a := 255) (b := 233) (by decide +kernel) (by decide +kernel)
theorem dX12_takes_5 : decode cX12_takes 5 = .ok (.ifCond .ne 5, 3) := dq_154 (a := 0) (b := 5) (by decide +kernel) (by decide +kernel)
theorem dX12_takes_10 : decode cX12_takes 10 = .ok (.aload_n 0, 1) := dq_42 (by decide +kernel)
theorem dX12_takes_11 : decode cX12_takes 11 = .ok (.dup, 1) := dq_89 (by decide +kernel)
theorem dX12_takes_12 : decode cX12_takes 12 = .ok (.getfield 157, 3) := dq_180 (a := 0) (b := 157) (by decide +kernel) rfl
theorem dX12_takes_15 : decode cX12_takes 15 = .ok (.aload_n 1, 1) := dq_43 (by decide +kernel)
theorem dX12_takes_16 : decode cX12_takes 16 = .ok (.arraylength, 1) := dq_190 (by decide +kernel)
theorem dX12_takes_17 : decode cX12_takes 17 = .ok (.iadd, 1) := dq_96 (by decide +kernel)
theorem dX12_takes_18 : decode cX12_takes 18 = .ok (.putfield 157, 3) := dq_181 (a := 0) (b := 157) (by decide +kernel) rfl
theorem dX12_takes_21 : decode cX12_takes 21 = .ok (.aload_n 0, 1) := dq_42 (by decide +kernel)
theorem dX12_takes_22 : decode cX12_takes 22 = .ok (.aload_n 0, 1) := dq_42 (by decide +kernel)
theorem dX12_takes_23 : decode cX12_takes 23 = .ok (.getfield 157, 3) := dq_180 (a := 0) (b := 157) (by decide +kernel) rfl
theorem dX12_takes_26 : decode cX12_takes 26 = .ok (.putfield 171, 3) := dq_181 (a := 0) (b := 171) (by decide +kernel) rfl
theorem dX12_takes_29 : decode cX12_takes 29 = .ok (.iconst 1, 1) := dq_4 (by decide +kernel)
theorem dX12_takes_30 : decode cX12_takes 30 = .ok (.ireturn, 1) := dq_172 (by decide +kernel)
theorem dX12_takes_8 : decode cX12_takes 8 = .ok (.iconst 0, 1) := dq_3 (by decide +kernel)
theorem dX12_takes_9 : decode cX12_takes 9 = .ok (.ireturn, 1) := dq_172 (by decide +kernel)
theorem dX12_asks_12 : decode cX12_asks 12 = .ok (.ifCond .ne 12, 3) := dq_154 (a := 0) (b := 12) (by decide +kernel) (by decide +kernel)
theorem dX12_asks_15 : decode cX12_asks 15 = .ok (.aload_n 0, 1) := dq_42 (by decide +kernel)
theorem dX12_asks_16 : decode cX12_asks 16 = .ok (.iconst 1, 1) := dq_4 (by decide +kernel)
theorem dX12_asks_17 : decode cX12_asks 17 = .ok (.aload_n 0, 1) := dq_42 (by decide +kernel)
theorem dX12_asks_18 : decode cX12_asks 18 = .ok (.getfield 157, 3) := dq_180 (a := 0) (b := 157) (by decide +kernel) rfl
theorem dX12_asks_21 : decode cX12_asks 21 = .ok (.invokevirtual 181, 3) := dq_182 (a := 0) (b := 181) (by decide +kernel) rfl
theorem dX12_fail_0 : decode cX12_fail 0 = .ok (.aload_n 0, 1) := dq_42 (by decide +kernel)
theorem dX12_fail_1 : decode cX12_fail 1 = .ok (.getfield 151, 3) := dq_180 (a := 0) (b := 151) (by decide +kernel) rfl
theorem dX12_fail_4 : decode cX12_fail 4 = .ok (.ifCond .eq 4, 3) := dq_153 (a := 0) (b := 4) (by decide +kernel) (by decide +kernel)
theorem dX12_fail_8 : decode cX12_fail 8 = .ok (.aload_n 0, 1) := dq_42 (by decide +kernel)
theorem dX12_fail_9 : decode cX12_fail 9 = .ok (.iload_n 1, 1) := dq_27 (by decide +kernel)
theorem dX12_fail_10 : decode cX12_fail 10 = .ok (.putfield 151, 3) := dq_181 (a := 0) (b := 151) (by decide +kernel) rfl
theorem dX12_fail_13 : decode cX12_fail 13 = .ok (.aload_n 0, 1) := dq_42 (by decide +kernel)
theorem dX12_fail_14 : decode cX12_fail 14 = .ok (.iload_n 2, 1) := dq_28 (by decide +kernel)
theorem dX12_fail_15 : decode cX12_fail 15 = .ok (.putfield 154, 3) := dq_181 (a := 0) (b := 154) (by decide +kernel) rfl
theorem dX12_fail_18 : decode cX12_fail 18 = .ok (.return_, 1) := dq_177 (by decide +kernel)
theorem dX12_fail_7 : decode cX12_fail 7 = .ok (.return_, 1) := dq_177 (by decide +kernel)
theorem dX12_house_53 : decode cX12_house 53 = .ok (.aload_n 0, 1) := dq_42 (by decide +kernel)
theorem dX12_house_54 : decode cX12_house 54 = .ok (.getfield 66, 3) := dq_180 (a := 0) (b := 66) (by decide +kernel) rfl
theorem dX12_house_57 : decode cX12_house 57 = .ok (.iconst 0, 1) := dq_3 (by decide +kernel)
theorem dX12_house_58 : decode cX12_house 58 = .ok (.aload_n 0, 1) := dq_42 (by decide +kernel)
theorem dX12_house_59 : decode cX12_house 59 = .ok (.iconst 2, 1) := dq_5 (by decide +kernel)
theorem dX12_house_60 : decode cX12_house 60 = .ok (.bipush 8, 2) := dq_16 (a := 8) (by decide +kernel) (by decide +kernel)
theorem dX12_house_62 : decode cX12_house 62 = .ok (.invokevirtual 195, 3) := dq_182 (a := 0) (b := 195) (by decide +kernel) rfl
theorem dX12_number_0 : decode cX12_number 0 = .ok (.aload_n 0, 1) := dq_42 (by decide +kernel)
theorem dX12_number_1 : decode cX12_number 1 = .ok (.getfield 151, 3) := dq_180 (a := 0) (b := 151) (by decide +kernel) rfl
theorem dX12_number_4 : decode cX12_number 4 = .ok (.ifCond .eq 5, 3) := dq_153 (a := 0) (b := 5) (by decide +kernel) (by decide +kernel)
theorem dX12_number_9 : decode cX12_number 9 = .ok (.aload_n 0, 1) := dq_42 (by decide +kernel)
theorem dX12_number_10 : decode cX12_number 10 = .ok (.invokevirtual 163, 3) := dq_182 (a := 0) (b := 163) (by decide +kernel) rfl
theorem dX12_number_13 : decode cX12_number 13 = .ok (.invokestatic 188, 3) := dq_184 (a := 0) (b := 188) (by decide +kernel) rfl
theorem dX12_isDigit_0 : decode cX12_isDigit 0 = .ok (.iload_n 0, 1) := dq_26 (by decide +kernel)
theorem dX12_isDigit_1 : decode cX12_isDigit 1 = .ok (.bipush 48, 2) := dq_16 (a := 48) (by decide +kernel) (by decide +kernel)
theorem dX12_isDigit_3 : decode cX12_isDigit 3 = .ok (.if_icmp .lt 13, 3) := dq_161 (a := 0) (b := 13) (by decide +kernel) (by decide +kernel)
theorem dX12_isDigit_16 : decode cX12_isDigit 16 = .ok (.iconst 0, 1) := dq_3 (by decide +kernel)
theorem dX12_isDigit_17 : decode cX12_isDigit 17 = .ok (.ireturn, 1) := dq_172 (by decide +kernel)
theorem dX12_isDigit_6 : decode cX12_isDigit 6 = .ok (.iload_n 0, 1) := dq_26 (by decide +kernel)
theorem dX12_isDigit_7 : decode cX12_isDigit 7 = .ok (.bipush 57, 2) := dq_16 (a := 57) (by decide +kernel) (by decide +kernel)
theorem dX12_isDigit_9 : decode cX12_isDigit 9 = .ok (.if_icmp .gt 7, 3) := dq_163 (a := 0) (b := 7) (by decide +kernel) (by decide +kernel)
theorem dX12_isDigit_12 : decode cX12_isDigit 12 = .ok (.iconst 1, 1) := dq_4 (by decide +kernel)
theorem dX12_isDigit_13 : decode cX12_isDigit 13 = .ok (.goto 4, 3) := dq_167 (a := 0) (b := 4) (by decide +kernel) (by decide +kernel)
theorem dX12_number_16 : decode cX12_number 16 = .ok (.ifCond .eq 14, 3) := dq_153 (a := 0) (b := 14) (by decide +kernel) (by decide +kernel)
theorem dX12_number_30 : decode cX12_number 30 = .ok (.aload_n 0, 1) := dq_42 (by decide +kernel)
theorem dX12_number_31 : decode cX12_number 31 = .ok (.iconst 1, 1) := dq_4 (by decide +kernel)
theorem dX12_number_32 : decode cX12_number 32 = .ok (.aload_n 0, 1) := dq_42 (by decide +kernel)
theorem dX12_number_33 : decode cX12_number 33 = .ok (.getfield 157, 3) := dq_180 (a := 0) (b := 157) (by decide +kernel) rfl
theorem dX12_number_36 : decode cX12_number 36 = .ok (.invokevirtual 181, 3) := dq_182 (a := 0) (b := 181) (by decide +kernel) rfl
theorem dX12_number_39 : decode cX12_number 39 = .ok (.iconst 0, 1) := dq_3 (by decide +kernel)
theorem dX12_number_40 : decode cX12_number 40 = .ok (.ireturn, 1) := dq_172 (by decide +kernel)
theorem dX12_number_19 : decode cX12_number 19 = .ok (.aload_n 0, 1) := dq_42 (by decide +kernel)
theorem dX12_number_20 : decode cX12_number 20 = .ok (.getfield 157, 3) := dq_180 (a := 0) (b := 157) (by decide +kernel) rfl
theorem dX12_number_23 : decode cX12_number 23 = .ok (.aload_n 0, 1) := dq_42 (by decide +kernel)
theorem dX12_number_24 : decode cX12_number 24 = .ok (.getfield 171, 3) := dq_180 (a := 0) (b := 171) (by decide +kernel) rfl
theorem dX12_number_27 : decode cX12_number 27 = .ok (.if_icmp .ne 14, 3) := dq_160 (a := 0) (b := 14) (by decide +kernel) (by decide +kernel)
theorem dX12_number_41 : decode cX12_number 41 = .ok (.aload_n 0, 1) := dq_42 (by decide +kernel)
theorem dX12_number_42 : decode cX12_number 42 = .ok (.getfield 157, 3) := dq_180 (a := 0) (b := 157) (by decide +kernel) rfl
theorem dX12_number_45 : decode cX12_number 45 = .ok (.istore_n 3, 1) := dq_62 (by decide +kernel)
theorem dX12_number_46 : decode cX12_number 46 = .ok (.iconst 0, 1) := dq_3 (by decide +kernel)
theorem dX12_number_47 : decode cX12_number 47 = .ok (.istore 4, 2) := dq_54 (a := 4) (by decide +kernel) rfl
theorem dX12_number_49 : decode cX12_number 49 = .ok (.aload_n 0, 1) := dq_42 (by decide +kernel)
theorem dX12_number_50 : decode cX12_number 50 = .ok (.getfield 157, 3) := dq_180 (a := 0) (b := 157) (by decide +kernel) rfl
theorem dX12_number_53 : decode cX12_number 53 = .ok (.aload_n 0, 1) := dq_42 (by decide +kernel)
theorem dX12_number_54 : decode cX12_number 54 = .ok (.getfield 160, 3) := dq_180 (a := 0) (b := 160) (by decide +kernel) rfl
theorem dX12_number_57 : decode cX12_number 57 = .ok (.if_icmp .ge 72, 3) := dq_162 (a := 0) (b := 72) (by decide +kernel) (by decide +kernel)
theorem dX12_number_129 : decode cX12_number 129 = .ok (.aload_n 0, 1) := dq_42 (by decide +kernel)
theorem dX12_number_130 : decode cX12_number 130 = .ok (.aload_n 0, 1) := dq_42 (by decide +kernel)
theorem dX12_number_131 : decode cX12_number 131 = .ok (.getfield 157, 3) := dq_180 (a := 0) (b := 157) (by decide +kernel) rfl
theorem dX12_number_134 : decode cX12_number 134 = .ok (.putfield 171, 3) := dq_181 (a := 0) (b := 171) (by decide +kernel) rfl
theorem dX12_number_137 : decode cX12_number 137 = .ok (.iload 4, 2) := dq_21 (a := 4) (by decide +kernel) rfl
theorem dX12_number_139 : decode cX12_number 139 = .ok (.i2l, 1) := dq_133 (by decide +kernel)
theorem dX12_number_140 : decode cX12_number 140 = .ok (.iload_n 1, 1) := dq_27 (by decide +kernel)
theorem dX12_number_141 : decode cX12_number 141 = .ok (.i2l, 1) := dq_133 (by decide +kernel)
theorem dX12_number_142 : decode cX12_number 142 = .ok (.iload_n 2, 1) := dq_28 (by decide +kernel)
theorem dX12_number_143 : decode cX12_number 143 = .ok (.i2l, 1) := dq_133 (by decide +kernel)
theorem dX12_number_144 : decode cX12_number 144 = .ok (.invokestatic 191, 3) := dq_184 (a := 0) (b := 191) (by decide +kernel) rfl
theorem dX12_isIn_0 : decode cX12_isIn 0 = .ok (.lload_n 0, 1) := dq_30 (by decide +kernel)
theorem dX12_isIn_1 : decode cX12_isIn 1 = .ok (.lload_n 2, 1) := dq_32 (by decide +kernel)
theorem dX12_isIn_2 : decode cX12_isIn 2 = .ok (.lcmp, 1) := dq_148 (by decide +kernel)
theorem dX12_isIn_3 : decode cX12_isIn 3 = .ok (.ifCond .lt 14, 3) := dq_155 (a := 0) (b := 14) (by decide +kernel) (by decide +kernel)
theorem dX12_isIn_17 : decode cX12_isIn 17 = .ok (.iconst 0, 1) := dq_3 (by decide +kernel)
theorem dX12_isIn_18 : decode cX12_isIn 18 = .ok (.ireturn, 1) := dq_172 (by decide +kernel)
theorem dX12_isIn_6 : decode cX12_isIn 6 = .ok (.lload_n 0, 1) := dq_30 (by decide +kernel)
theorem dX12_isIn_7 : decode cX12_isIn 7 = .ok (.lload 4, 2) := dq_22 (a := 4) (by decide +kernel) rfl
theorem dX12_isIn_9 : decode cX12_isIn 9 = .ok (.lcmp, 1) := dq_148 (by decide +kernel)
theorem dX12_isIn_10 : decode cX12_isIn 10 = .ok (.ifCond .gt 7, 3) := dq_157 (a := 0) (b := 7) (by decide +kernel) (by decide +kernel)
theorem dX12_isIn_13 : decode cX12_isIn 13 = .ok (.iconst 1, 1) := dq_4 (by decide +kernel)
theorem dX12_isIn_14 : decode cX12_isIn 14 = .ok (.goto 4, 3) := dq_167 (a := 0) (b := 4) (by decide +kernel) (by decide +kernel)
theorem dX12_number_147 : decode cX12_number 147 = .ok (.ifCond .ne 9, 3) := dq_154 (a := 0) (b := 9) (by decide +kernel) (by decide +kernel)
theorem dX12_number_156 : decode cX12_number 156 = .ok (.iload 4, 2) := dq_21 (a := 4) (by decide +kernel) rfl
theorem dX12_number_158 : decode cX12_number 158 = .ok (.ireturn, 1) := dq_172 (by decide +kernel)
theorem dX12_number_150 : decode cX12_number 150 = .ok (.aload_n 0, 1) := dq_42 (by decide +kernel)
theorem dX12_number_151 : decode cX12_number 151 = .ok (.iconst 2, 1) := dq_5 (by decide +kernel)
theorem dX12_number_152 : decode cX12_number 152 = .ok (.iload_n 3, 1) := dq_29 (by decide +kernel)
theorem dX12_number_153 : decode cX12_number 153 = .ok (.invokevirtual 181, 3) := dq_182 (a := 0) (b := 181) (by decide +kernel) rfl
theorem dX12_number_60 : decode cX12_number 60 = .ok (.aload_n 0, 1) := dq_42 (by decide +kernel)
theorem dX12_number_61 : decode cX12_number 61 = .ok (.getfield 7, 3) := dq_180 (a := 0) (b := 7) (by decide +kernel) rfl
theorem dX12_number_64 : decode cX12_number 64 = .ok (.aload_n 0, 1) := dq_42 (by decide +kernel)
theorem dX12_number_65 : decode cX12_number 65 = .ok (.getfield 157, 3) := dq_180 (a := 0) (b := 157) (by decide +kernel) rfl
theorem dX12_number_68 : decode cX12_number 68 = .ok (.iaload, 1) := dq_46 (by decide +kernel)
theorem dX12_number_69 : decode cX12_number 69 = .ok (.invokestatic 188, 3) := dq_184 (a := 0) (b := 188) (by decide +kernel) rfl
theorem dX12_number_72 : decode cX12_number 72 = .ok (.ifCond .eq 57, 3) := dq_153 (a := 0) (b := 57) (by decide +kernel) (by decide +kernel)
theorem dX12_number_75 : decode cX12_number 75 = .ok (.aload_n 0, 1) := dq_42 (by decide +kernel)
theorem dX12_number_76 : decode cX12_number 76 = .ok (.getfield 157, 3) := dq_180 (a := 0) (b := 157) (by decide +kernel) rfl
theorem dX12_number_79 : decode cX12_number 79 = .ok (.iload_n 3, 1) := dq_29 (by decide +kernel)
theorem dX12_number_80 : decode cX12_number 80 = .ok (.isub, 1) := dq_100 (by decide +kernel)
theorem dX12_number_81 : decode cX12_number 81 = .ok (.iconst 4, 1) := dq_7 (by decide +kernel)
theorem dX12_number_82 : decode cX12_number 82 = .ok (.if_icmp .ne 14, 3) := dq_160 (a := 0) (b := 14) (by decide +kernel) (by decide +kernel)
theorem dX12_number_96 : decode cX12_number 96 = .ok (.bipush 10, 2) := dq_16 (a := 10) (by decide +kernel) (by decide +kernel)
theorem dX12_number_98 : decode cX12_number 98 = .ok (.iload 4, 2) := dq_21 (a := 4) (by decide +kernel) rfl
theorem dX12_number_100 : decode cX12_number 100 = .ok (.imul, 1) := dq_104 (by decide +kernel)
theorem dX12_number_101 : decode cX12_number 101 = .ok (.aload_n 0, 1) := dq_42 (by decide +kernel)
theorem dX12_number_102 : decode cX12_number 102 = .ok (.getfield 7, 3) := dq_180 (a := 0) (b := 7) (by decide +kernel) rfl
theorem dX12_number_105 : decode cX12_number 105 = .ok (.aload_n 0, 1) := dq_42 (by decide +kernel)
theorem dX12_number_106 : decode cX12_number 106 = .ok (.getfield 157, 3) := dq_180 (a := 0) (b := 157) (by decide +kernel) rfl
theorem dX12_number_109 : decode cX12_number 109 = .ok (.iaload, 1) := dq_46 (by decide +kernel)
theorem dX12_number_110 : decode cX12_number 110 = .ok (.iadd, 1) := dq_96 (by decide +kernel)
theorem dX12_number_111 : decode cX12_number 111 = .ok (.bipush 48, 2) := dq_16 (a := 48) (by decide +kernel) (by decide +kernel)
theorem dX12_number_113 : decode cX12_number 113 = .ok (.isub, 1) := dq_100 (by decide +kernel)
theorem dX12_number_114 : decode cX12_number 114 = .ok (.istore 4, 2) := dq_54 (a := 4) (by decide +kernel) rfl
theorem dX12_number_116 : decode cX12_number 116 = .ok (.aload_n 0, 1) := dq_42 (by decide +kernel)
theorem dX12_number_117 : decode cX12_number 117 = .ok (.dup, 1) := dq_89 (by decide +kernel)
theorem dX12_number_118 : decode cX12_number 118 = .ok (.getfield 157, 3) := dq_180 (a := 0) (b := 157) (by decide +kernel) rfl
theorem dX12_number_121 : decode cX12_number 121 = .ok (.iconst 1, 1) := dq_4 (by decide +kernel)
theorem dX12_number_122 : decode cX12_number 122 = .ok (.iadd, 1) := dq_96 (by decide +kernel)
theorem dX12_number_123 : decode cX12_number 123 = .ok (.putfield 157, 3) := dq_181 (a := 0) (b := 157) (by decide +kernel) rfl
theorem dX12_number_126 : decode cX12_number 126 = .ok (.goto (-77), 3) := dq_167 (a := 255) (b := 179) (by decide +kernel) (by decide +kernel)
theorem dX12_number_85 : decode cX12_number 85 = .ok (.aload_n 0, 1) := dq_42 (by decide +kernel)
theorem dX12_number_86 : decode cX12_number 86 = .ok (.iconst 1, 1) := dq_4 (by decide +kernel)
theorem dX12_number_87 : decode cX12_number 87 = .ok (.aload_n 0, 1) := dq_42 (by decide +kernel)
theorem dX12_number_88 : decode cX12_number 88 = .ok (.getfield 157, 3) := dq_180 (a := 0) (b := 157) (by decide +kernel) rfl
theorem dX12_number_91 : decode cX12_number 91 = .ok (.invokevirtual 181, 3) := dq_182 (a := 0) (b := 181) (by decide +kernel) rfl
theorem dX12_number_94 : decode cX12_number 94 = .ok (.iconst 0, 1) := dq_3 (by decide +kernel)
theorem dX12_number_95 : decode cX12_number 95 = .ok (.ireturn, 1) := dq_172 (by decide +kernel)
theorem dX12_number_7 : decode cX12_number 7 = .ok (.iconst 0, 1) := dq_3 (by decide +kernel)
theorem dX12_number_8 : decode cX12_number 8 = .ok (.ireturn, 1) := dq_172 (by decide +kernel)
theorem dX12_house_65 : decode cX12_house 65 = .ok (.iastore, 1) := dq_79 (by decide +kernel)
theorem dX12_house_66 : decode cX12_house 66 = .ok (.aload_n 0, 1) := dq_42 (by decide +kernel)
theorem dX12_house_67 : decode cX12_house 67 = .ok (.getfield 66, 3) := dq_180 (a := 0) (b := 66) (by decide +kernel) rfl
theorem dX12_house_70 : decode cX12_house 70 = .ok (.iconst 1, 1) := dq_4 (by decide +kernel)
theorem dX12_house_71 : decode cX12_house 71 = .ok (.aload_n 0, 1) := dq_42 (by decide +kernel)
theorem dX12_house_72 : decode cX12_house 72 = .ok (.iconst 1, 1) := dq_4 (by decide +kernel)
theorem dX12_house_73 : decode cX12_house 73 = .ok (.iconst 5, 1) := dq_8 (by decide +kernel)
theorem dX12_house_74 : decode cX12_house 74 = .ok (.invokevirtual 195, 3) := dq_182 (a := 0) (b := 195) (by decide +kernel) rfl
theorem dX12_house_77 : decode cX12_house 77 = .ok (.iastore, 1) := dq_79 (by decide +kernel)
theorem dX12_house_78 : decode cX12_house 78 = .ok (.aload_n 0, 1) := dq_42 (by decide +kernel)
theorem dX12_house_79 : decode cX12_house 79 = .ok (.getfield 66, 3) := dq_180 (a := 0) (b := 66) (by decide +kernel) rfl
theorem dX12_house_82 : decode cX12_house 82 = .ok (.iconst 2, 1) := dq_5 (by decide +kernel)
theorem dX12_house_83 : decode cX12_house 83 = .ok (.aload_n 0, 1) := dq_42 (by decide +kernel)
theorem dX12_house_84 : decode cX12_house 84 = .ok (.iconst 1, 1) := dq_4 (by decide +kernel)
theorem dX12_house_85 : decode cX12_house 85 = .ok (.bipush 6, 2) := dq_16 (a := 6) (by decide +kernel) (by decide +kernel)
theorem dX12_house_87 : decode cX12_house 87 = .ok (.invokevirtual 195, 3) := dq_182 (a := 0) (b := 195) (by decide +kernel) rfl
theorem dX12_house_90 : decode cX12_house 90 = .ok (.iastore, 1) := dq_79 (by decide +kernel)
theorem dX12_house_91 : decode cX12_house 91 = .ok (.aload_n 0, 1) := dq_42 (by decide +kernel)
theorem dX12_house_92 : decode cX12_house 92 = .ok (.getfield 66, 3) := dq_180 (a := 0) (b := 66) (by decide +kernel) rfl
theorem dX12_house_95 : decode cX12_house 95 = .ok (.iconst 3, 1) := dq_6 (by decide +kernel)
theorem dX12_house_96 : decode cX12_house 96 = .ok (.iconst 0, 1) := dq_3 (by decide +kernel)
theorem dX12_house_97 : decode cX12_house 97 = .ok (.iastore, 1) := dq_79 (by decide +kernel)
theorem dX12_house_98 : decode cX12_house 98 = .ok (.aload_n 0, 1) := dq_42 (by decide +kernel)
theorem dX12_house_99 : decode cX12_house 99 = .ok (.getfield 66, 3) := dq_180 (a := 0) (b := 66) (by decide +kernel) rfl
theorem dX12_house_102 : decode cX12_house 102 = .ok (.iconst 4, 1) := dq_7 (by decide +kernel)
theorem dX12_house_103 : decode cX12_house 103 = .ok (.iconst 0, 1) := dq_3 (by decide +kernel)
theorem dX12_house_104 : decode cX12_house 104 = .ok (.iastore, 1) := dq_79 (by decide +kernel)
theorem dX12_house_105 : decode cX12_house 105 = .ok (.aload_n 0, 1) := dq_42 (by decide +kernel)
theorem dX12_house_106 : decode cX12_house 106 = .ok (.getfield 66, 3) := dq_180 (a := 0) (b := 66) (by decide +kernel) rfl
theorem dX12_house_109 : decode cX12_house 109 = .ok (.iconst 5, 1) := dq_8 (by decide +kernel)
theorem dX12_house_110 : decode cX12_house 110 = .ok (.sipush 9999, 3) := dq_17 (a := 39) (b := 15) (by decide +kernel) (by decide +kernel)
theorem dX12_house_113 : decode cX12_house 113 = .ok (.iastore, 1) := dq_79 (by decide +kernel)
theorem dX12_house_114 : decode cX12_house 114 = .ok (.iconst 0, 1) := dq_3 (by decide +kernel)
theorem dX12_house_115 : decode cX12_house 115 = .ok (.istore_n 1, 1) := dq_60 (by decide +kernel)
theorem dX12_house_116 : decode cX12_house 116 = .ok (.iload_n 1, 1) := dq_27 (by decide +kernel)
theorem dX12_house_117 : decode cX12_house 117 = .ok (.bipush 30, 2) := dq_16 (a := 30) (by decide +kernel) (by decide +kernel)
theorem dX12_house_119 : decode cX12_house 119 = .ok (.if_icmp .ge 19, 3) := dq_162 (a := 0) (b := 19) (by decide +kernel) (by decide +kernel)
theorem dX12_house_122 : decode cX12_house 122 = .ok (.aload_n 0, 1) := dq_42 (by decide +kernel)
theorem dX12_house_123 : decode cX12_house 123 = .ok (.getfield 69, 3) := dq_180 (a := 0) (b := 69) (by decide +kernel) rfl
theorem dX12_house_126 : decode cX12_house 126 = .ok (.bipush 30, 2) := dq_16 (a := 30) (by decide +kernel) (by decide +kernel)
theorem dX12_house_128 : decode cX12_house 128 = .ok (.iload_n 1, 1) := dq_27 (by decide +kernel)
theorem dX12_house_129 : decode cX12_house 129 = .ok (.iadd, 1) := dq_96 (by decide +kernel)
theorem dX12_house_130 : decode cX12_house 130 = .ok (.iconst 0, 1) := dq_3 (by decide +kernel)
theorem dX12_house_131 : decode cX12_house 131 = .ok (.iastore, 1) := dq_79 (by decide +kernel)
theorem dX12_house_132 : decode cX12_house 132 = .ok (.iinc 1 1, 3) := dq_132 (a := 1) (b := 1) (by decide +kernel) rfl (by decide +kernel)
theorem dX12_house_135 : decode cX12_house 135 = .ok (.goto (-19), 3) := dq_167 (a := 255) (b := 237) (by decide +kernel) (by decide +kernel)
theorem dX12_house_138 : decode cX12_house 138 = .ok (.aload_n 0, 1) := dq_42 (by decide +kernel)
theorem dX12_house_139 : decode cX12_house 139 = .ok (.bipush 59, 2) := dq_16 (a := 59) (by decide +kernel) (by decide +kernel)
theorem dX12_house_141 : decode cX12_house 141 = .ok (.invokevirtual 219, 3) := dq_182 (a := 0) (b := 219) (by decide +kernel) rfl
theorem dX12_asksSign_0 : decode cX12_asksSign 0 = .ok (.aload_n 0, 1) := dq_42 (by decide +kernel)
theorem dX12_asksSign_1 : decode cX12_asksSign 1 = .ok (.getfield 151, 3) := dq_180 (a := 0) (b := 151) (by decide +kernel) rfl
theorem dX12_asksSign_4 : decode cX12_asksSign 4 = .ok (.ifCond .ne 20, 3) := dq_154 (a := 0) (b := 20) (by decide +kernel) (by decide +kernel)
theorem dX12_asksSign_24 : decode cX12_asksSign 24 = .ok (.return_, 1) := dq_177 (by decide +kernel)
theorem dX12_asksSign_7 : decode cX12_asksSign 7 = .ok (.aload_n 0, 1) := dq_42 (by decide +kernel)
theorem dX12_asksSign_8 : decode cX12_asksSign 8 = .ok (.iload_n 1, 1) := dq_27 (by decide +kernel)
theorem dX12_asksSign_9 : decode cX12_asksSign 9 = .ok (.invokevirtual 185, 3) := dq_182 (a := 0) (b := 185) (by decide +kernel) rfl
theorem dX12_takesSign_0 : decode cX12_takesSign 0 = .ok (.aload_n 0, 1) := dq_42 (by decide +kernel)
theorem dX12_takesSign_1 : decode cX12_takesSign 1 = .ok (.getfield 151, 3) := dq_180 (a := 0) (b := 151) (by decide +kernel) rfl
theorem dX12_takesSign_4 : decode cX12_takesSign 4 = .ok (.ifCond .ne 11, 3) := dq_154 (a := 0) (b := 11) (by decide +kernel) (by decide +kernel)
theorem dX12_takesSign_15 : decode cX12_takesSign 15 = .ok (.iconst 0, 1) := dq_3 (by decide +kernel)
theorem dX12_takesSign_16 : decode cX12_takesSign 16 = .ok (.ireturn, 1) := dq_172 (by decide +kernel)
theorem dX12_takesSign_7 : decode cX12_takesSign 7 = .ok (.aload_n 0, 1) := dq_42 (by decide +kernel)
theorem dX12_takesSign_8 : decode cX12_takesSign 8 = .ok (.invokevirtual 163, 3) := dq_182 (a := 0) (b := 163) (by decide +kernel) rfl
theorem dX12_takesSign_11 : decode cX12_takesSign 11 = .ok (.iload_n 1, 1) := dq_27 (by decide +kernel)
theorem dX12_takesSign_12 : decode cX12_takesSign 12 = .ok (.if_icmp .eq 5, 3) := dq_159 (a := 0) (b := 5) (by decide +kernel) (by decide +kernel)
theorem dX12_takesSign_17 : decode cX12_takesSign 17 = .ok (.aload_n 0, 1) := dq_42 (by decide +kernel)
theorem dX12_takesSign_18 : decode cX12_takesSign 18 = .ok (.dup, 1) := dq_89 (by decide +kernel)
theorem dX12_takesSign_19 : decode cX12_takesSign 19 = .ok (.getfield 157, 3) := dq_180 (a := 0) (b := 157) (by decide +kernel) rfl
theorem dX12_takesSign_22 : decode cX12_takesSign 22 = .ok (.iconst 1, 1) := dq_4 (by decide +kernel)
theorem dX12_takesSign_23 : decode cX12_takesSign 23 = .ok (.iadd, 1) := dq_96 (by decide +kernel)
theorem dX12_takesSign_24 : decode cX12_takesSign 24 = .ok (.putfield 157, 3) := dq_181 (a := 0) (b := 157) (by decide +kernel) rfl
theorem dX12_takesSign_27 : decode cX12_takesSign 27 = .ok (.iconst 1, 1) := dq_4 (by decide +kernel)
theorem dX12_takesSign_28 : decode cX12_takesSign 28 = .ok (.ireturn, 1) := dq_172 (by decide +kernel)
theorem dX12_asksSign_12 : decode cX12_asksSign 12 = .ok (.ifCond .ne 12, 3) := dq_154 (a := 0) (b := 12) (by decide +kernel) (by decide +kernel)
theorem dX12_asksSign_15 : decode cX12_asksSign 15 = .ok (.aload_n 0, 1) := dq_42 (by decide +kernel)
theorem dX12_asksSign_16 : decode cX12_asksSign 16 = .ok (.iconst 1, 1) := dq_4 (by decide +kernel)
theorem dX12_asksSign_17 : decode cX12_asksSign 17 = .ok (.aload_n 0, 1) := dq_42 (by decide +kernel)
theorem dX12_asksSign_18 : decode cX12_asksSign 18 = .ok (.getfield 157, 3) := dq_180 (a := 0) (b := 157) (by decide +kernel) rfl
theorem dX12_asksSign_21 : decode cX12_asksSign 21 = .ok (.invokevirtual 181, 3) := dq_182 (a := 0) (b := 181) (by decide +kernel) rfl
theorem dX12_house_144 : decode cX12_house 144 = .ok (.aload_n 0, 1) := dq_42 (by decide +kernel)
theorem dX12_house_145 : decode cX12_house 145 = .ok (.iconst 1, 1) := dq_4 (by decide +kernel)
theorem dX12_house_146 : decode cX12_house 146 = .ok (.putfield 202, 3) := dq_181 (a := 0) (b := 202) (by decide +kernel) rfl
theorem dX12_house_149 : decode cX12_house 149 = .ok (.aload_n 0, 1) := dq_42 (by decide +kernel)
theorem dX12_house_150 : decode cX12_house 150 = .ok (.getfield 151, 3) := dq_180 (a := 0) (b := 151) (by decide +kernel) rfl
theorem dX12_house_153 : decode cX12_house 153 = .ok (.ifCond .ne 18, 3) := dq_154 (a := 0) (b := 18) (by decide +kernel) (by decide +kernel)
theorem dX12_house_171 : decode cX12_house 171 = .ok (.aload_n 0, 1) := dq_42 (by decide +kernel)
theorem dX12_house_172 : decode cX12_house 172 = .ok (.aload_n 0, 1) := dq_42 (by decide +kernel)
theorem dX12_house_173 : decode cX12_house 173 = .ok (.getfield 151, 3) := dq_180 (a := 0) (b := 151) (by decide +kernel) rfl
theorem dX12_house_176 : decode cX12_house 176 = .ok (.putfield 228, 3) := dq_181 (a := 0) (b := 228) (by decide +kernel) rfl
theorem dX12_house_179 : decode cX12_house 179 = .ok (.aload_n 0, 1) := dq_42 (by decide +kernel)
theorem dX12_house_180 : decode cX12_house 180 = .ok (.aload_n 0, 1) := dq_42 (by decide +kernel)
theorem dX12_house_181 : decode cX12_house 181 = .ok (.getfield 154, 3) := dq_180 (a := 0) (b := 154) (by decide +kernel) rfl
theorem dX12_house_184 : decode cX12_house 184 = .ok (.putfield 13, 3) := dq_181 (a := 0) (b := 13) (by decide +kernel) rfl
theorem dX12_house_187 : decode cX12_house 187 = .ok (.aload_n 0, 1) := dq_42 (by decide +kernel)
theorem dX12_house_188 : decode cX12_house 188 = .ok (.getfield 151, 3) := dq_180 (a := 0) (b := 151) (by decide +kernel) rfl
theorem dX12_house_191 : decode cX12_house 191 = .ok (.ifCond .eq 5, 3) := dq_153 (a := 0) (b := 5) (by decide +kernel) (by decide +kernel)
theorem dX12_house_196 : decode cX12_house 196 = .ok (.aload_n 0, 1) := dq_42 (by decide +kernel)
theorem dX12_house_197 : decode cX12_house 197 = .ok (.invokevirtual 231, 3) := dq_182 (a := 0) (b := 231) (by decide +kernel) rfl
theorem dX12_stands_0 : decode cX12_stands 0 = .ok (.aload_n 0, 1) := dq_42 (by decide +kernel)
theorem dX12_stands_1 : decode cX12_stands 1 = .ok (.aload_n 0, 1) := dq_42 (by decide +kernel)
theorem dX12_stands_2 : decode cX12_stands 2 = .ok (.getfield 66, 3) := dq_180 (a := 0) (b := 66) (by decide +kernel) rfl
theorem dX12_stands_5 : decode cX12_stands 5 = .ok (.iconst 0, 1) := dq_3 (by decide +kernel)
theorem dX12_stands_6 : decode cX12_stands 6 = .ok (.iaload, 1) := dq_46 (by decide +kernel)
theorem dX12_stands_7 : decode cX12_stands 7 = .ok (.putfield 234, 3) := dq_181 (a := 0) (b := 234) (by decide +kernel) rfl
theorem dX12_stands_10 : decode cX12_stands 10 = .ok (.aload_n 0, 1) := dq_42 (by decide +kernel)
theorem dX12_stands_11 : decode cX12_stands 11 = .ok (.aload_n 0, 1) := dq_42 (by decide +kernel)
theorem dX12_stands_12 : decode cX12_stands 12 = .ok (.getfield 66, 3) := dq_180 (a := 0) (b := 66) (by decide +kernel) rfl
theorem dX12_stands_15 : decode cX12_stands 15 = .ok (.iconst 1, 1) := dq_4 (by decide +kernel)
theorem dX12_stands_16 : decode cX12_stands 16 = .ok (.iaload, 1) := dq_46 (by decide +kernel)
theorem dX12_stands_17 : decode cX12_stands 17 = .ok (.putfield 237, 3) := dq_181 (a := 0) (b := 237) (by decide +kernel) rfl
theorem dX12_stands_20 : decode cX12_stands 20 = .ok (.aload_n 0, 1) := dq_42 (by decide +kernel)
theorem dX12_stands_21 : decode cX12_stands 21 = .ok (.aload_n 0, 1) := dq_42 (by decide +kernel)
theorem dX12_stands_22 : decode cX12_stands 22 = .ok (.getfield 66, 3) := dq_180 (a := 0) (b := 66) (by decide +kernel) rfl
theorem dX12_stands_25 : decode cX12_stands 25 = .ok (.iconst 2, 1) := dq_5 (by decide +kernel)
theorem dX12_stands_26 : decode cX12_stands 26 = .ok (.iaload, 1) := dq_46 (by decide +kernel)
theorem dX12_stands_27 : decode cX12_stands 27 = .ok (.putfield 240, 3) := dq_181 (a := 0) (b := 240) (by decide +kernel) rfl
theorem dX12_stands_30 : decode cX12_stands 30 = .ok (.aload_n 0, 1) := dq_42 (by decide +kernel)
theorem dX12_stands_31 : decode cX12_stands 31 = .ok (.aload_n 0, 1) := dq_42 (by decide +kernel)
theorem dX12_stands_32 : decode cX12_stands 32 = .ok (.getfield 66, 3) := dq_180 (a := 0) (b := 66) (by decide +kernel) rfl
theorem dX12_stands_35 : decode cX12_stands 35 = .ok (.iconst 3, 1) := dq_6 (by decide +kernel)
theorem dX12_stands_36 : decode cX12_stands 36 = .ok (.iaload, 1) := dq_46 (by decide +kernel)
theorem dX12_stands_37 : decode cX12_stands 37 = .ok (.putfield 243, 3) := dq_181 (a := 0) (b := 243) (by decide +kernel) rfl
theorem dX12_stands_40 : decode cX12_stands 40 = .ok (.aload_n 0, 1) := dq_42 (by decide +kernel)
theorem dX12_stands_41 : decode cX12_stands 41 = .ok (.aload_n 0, 1) := dq_42 (by decide +kernel)
theorem dX12_stands_42 : decode cX12_stands 42 = .ok (.getfield 66, 3) := dq_180 (a := 0) (b := 66) (by decide +kernel) rfl
theorem dX12_stands_45 : decode cX12_stands 45 = .ok (.iconst 4, 1) := dq_7 (by decide +kernel)
theorem dX12_stands_46 : decode cX12_stands 46 = .ok (.iaload, 1) := dq_46 (by decide +kernel)
theorem dX12_stands_47 : decode cX12_stands 47 = .ok (.putfield 246, 3) := dq_181 (a := 0) (b := 246) (by decide +kernel) rfl
theorem dX12_stands_50 : decode cX12_stands 50 = .ok (.aload_n 0, 1) := dq_42 (by decide +kernel)
theorem dX12_stands_51 : decode cX12_stands 51 = .ok (.aload_n 0, 1) := dq_42 (by decide +kernel)
theorem dX12_stands_52 : decode cX12_stands 52 = .ok (.getfield 66, 3) := dq_180 (a := 0) (b := 66) (by decide +kernel) rfl
theorem dX12_stands_55 : decode cX12_stands 55 = .ok (.iconst 5, 1) := dq_8 (by decide +kernel)
theorem dX12_stands_56 : decode cX12_stands 56 = .ok (.iaload, 1) := dq_46 (by decide +kernel)
theorem dX12_stands_57 : decode cX12_stands 57 = .ok (.putfield 63, 3) := dq_181 (a := 0) (b := 63) (by decide +kernel) rfl
theorem dX12_stands_60 : decode cX12_stands 60 = .ok (.iconst 0, 1) := dq_3 (by decide +kernel)
theorem dX12_stands_61 : decode cX12_stands 61 = .ok (.istore_n 1, 1) := dq_60 (by decide +kernel)
theorem dX12_stands_62 : decode cX12_stands 62 = .ok (.iload_n 1, 1) := dq_27 (by decide +kernel)
theorem dX12_stands_63 : decode cX12_stands 63 = .ok (.bipush 30, 2) := dq_16 (a := 30) (by decide +kernel) (by decide +kernel)
theorem dX12_stands_65 : decode cX12_stands 65 = .ok (.if_icmp .ge 24, 3) := dq_162 (a := 0) (b := 24) (by decide +kernel) (by decide +kernel)
theorem dX12_stands_68 : decode cX12_stands 68 = .ok (.aload_n 0, 1) := dq_42 (by decide +kernel)
theorem dX12_stands_69 : decode cX12_stands 69 = .ok (.getfield 69, 3) := dq_180 (a := 0) (b := 69) (by decide +kernel) rfl
theorem dX12_stands_72 : decode cX12_stands 72 = .ok (.iload_n 1, 1) := dq_27 (by decide +kernel)
theorem dX12_stands_73 : decode cX12_stands 73 = .ok (.aload_n 0, 1) := dq_42 (by decide +kernel)
theorem dX12_stands_74 : decode cX12_stands 74 = .ok (.getfield 69, 3) := dq_180 (a := 0) (b := 69) (by decide +kernel) rfl
theorem dX12_stands_77 : decode cX12_stands 77 = .ok (.bipush 30, 2) := dq_16 (a := 30) (by decide +kernel) (by decide +kernel)
theorem dX12_stands_79 : decode cX12_stands 79 = .ok (.iload_n 1, 1) := dq_27 (by decide +kernel)
theorem dX12_stands_80 : decode cX12_stands 80 = .ok (.iadd, 1) := dq_96 (by decide +kernel)
theorem dX12_stands_81 : decode cX12_stands 81 = .ok (.iaload, 1) := dq_46 (by decide +kernel)
theorem dX12_stands_82 : decode cX12_stands 82 = .ok (.iastore, 1) := dq_79 (by decide +kernel)
theorem dX12_stands_83 : decode cX12_stands 83 = .ok (.iinc 1 1, 3) := dq_132 (a := 1) (b := 1) (by decide +kernel) rfl (by decide +kernel)
theorem dX12_stands_86 : decode cX12_stands 86 = .ok (.goto (-24), 3) := dq_167 (a := 255) (b := 232) (by decide +kernel) (by decide +kernel)
theorem dX12_stands_89 : decode cX12_stands 89 = .ok (.iconst 0, 1) := dq_3 (by decide +kernel)
theorem dX12_stands_90 : decode cX12_stands 90 = .ok (.istore_n 1, 1) := dq_60 (by decide +kernel)
theorem dX12_stands_91 : decode cX12_stands 91 = .ok (.iload_n 1, 1) := dq_27 (by decide +kernel)
theorem dX12_stands_92 : decode cX12_stands 92 = .ok (.bipush 80, 2) := dq_16 (a := 80) (by decide +kernel) (by decide +kernel)
theorem dX12_stands_94 : decode cX12_stands 94 = .ok (.if_icmp .ge 24, 3) := dq_162 (a := 0) (b := 24) (by decide +kernel) (by decide +kernel)
theorem dX12_stands_97 : decode cX12_stands 97 = .ok (.aload_n 0, 1) := dq_42 (by decide +kernel)
theorem dX12_stands_98 : decode cX12_stands 98 = .ok (.getfield 72, 3) := dq_180 (a := 0) (b := 72) (by decide +kernel) rfl
theorem dX12_stands_101 : decode cX12_stands 101 = .ok (.iload_n 1, 1) := dq_27 (by decide +kernel)
theorem dX12_stands_102 : decode cX12_stands 102 = .ok (.aload_n 0, 1) := dq_42 (by decide +kernel)
theorem dX12_stands_103 : decode cX12_stands 103 = .ok (.getfield 72, 3) := dq_180 (a := 0) (b := 72) (by decide +kernel) rfl
theorem dX12_stands_106 : decode cX12_stands 106 = .ok (.bipush 80, 2) := dq_16 (a := 80) (by decide +kernel) (by decide +kernel)
theorem dX12_stands_108 : decode cX12_stands 108 = .ok (.iload_n 1, 1) := dq_27 (by decide +kernel)
theorem dX12_stands_109 : decode cX12_stands 109 = .ok (.iadd, 1) := dq_96 (by decide +kernel)
theorem dX12_stands_110 : decode cX12_stands 110 = .ok (.iaload, 1) := dq_46 (by decide +kernel)
theorem dX12_stands_111 : decode cX12_stands 111 = .ok (.iastore, 1) := dq_79 (by decide +kernel)
theorem dX12_stands_112 : decode cX12_stands 112 = .ok (.iinc 1 1, 3) := dq_132 (a := 1) (b := 1) (by decide +kernel) rfl (by decide +kernel)
theorem dX12_stands_115 : decode cX12_stands 115 = .ok (.goto (-24), 3) := dq_167 (a := 255) (b := 232) (by decide +kernel) (by decide +kernel)
theorem dX12_stands_118 : decode cX12_stands 118 = .ok (.aload_n 0, 1) := dq_42 (by decide +kernel)
theorem dX12_stands_119 : decode cX12_stands 119 = .ok (.getfield 81, 3) := dq_180 (a := 0) (b := 81) (by decide +kernel) rfl
theorem dX12_stands_122 : decode cX12_stands 122 = .ok (.iconst 0, 1) := dq_3 (by decide +kernel)
theorem dX12_stands_123 : decode cX12_stands 123 = .ok (.aload_n 0, 1) := dq_42 (by decide +kernel)
theorem dX12_stands_124 : decode cX12_stands 124 = .ok (.getfield 81, 3) := dq_180 (a := 0) (b := 81) (by decide +kernel) rfl
theorem dX12_stands_127 : decode cX12_stands 127 = .ok (.iconst 1, 1) := dq_4 (by decide +kernel)
theorem dX12_stands_128 : decode cX12_stands 128 = .ok (.iaload, 1) := dq_46 (by decide +kernel)
theorem dX12_stands_129 : decode cX12_stands 129 = .ok (.iastore, 1) := dq_79 (by decide +kernel)
theorem dX12_stands_130 : decode cX12_stands 130 = .ok (.iconst 0, 1) := dq_3 (by decide +kernel)
theorem dX12_stands_131 : decode cX12_stands 131 = .ok (.istore_n 1, 1) := dq_60 (by decide +kernel)
theorem dX12_stands_132 : decode cX12_stands 132 = .ok (.iload_n 1, 1) := dq_27 (by decide +kernel)
theorem dX12_stands_133 : decode cX12_stands 133 = .ok (.bipush 8, 2) := dq_16 (a := 8) (by decide +kernel) (by decide +kernel)
theorem dX12_stands_135 : decode cX12_stands 135 = .ok (.if_icmp .ge 54, 3) := dq_162 (a := 0) (b := 54) (by decide +kernel) (by decide +kernel)
theorem dX12_stands_138 : decode cX12_stands 138 = .ok (.aload_n 0, 1) := dq_42 (by decide +kernel)
theorem dX12_stands_139 : decode cX12_stands 139 = .ok (.getfield 84, 3) := dq_180 (a := 0) (b := 84) (by decide +kernel) rfl
theorem dX12_stands_142 : decode cX12_stands 142 = .ok (.iload_n 1, 1) := dq_27 (by decide +kernel)
theorem dX12_stands_143 : decode cX12_stands 143 = .ok (.aload_n 0, 1) := dq_42 (by decide +kernel)
theorem dX12_stands_144 : decode cX12_stands 144 = .ok (.getfield 84, 3) := dq_180 (a := 0) (b := 84) (by decide +kernel) rfl
theorem dX12_stands_147 : decode cX12_stands 147 = .ok (.bipush 8, 2) := dq_16 (a := 8) (by decide +kernel) (by decide +kernel)
theorem dX12_stands_149 : decode cX12_stands 149 = .ok (.iload_n 1, 1) := dq_27 (by decide +kernel)
theorem dX12_stands_150 : decode cX12_stands 150 = .ok (.iadd, 1) := dq_96 (by decide +kernel)
theorem dX12_stands_151 : decode cX12_stands 151 = .ok (.iaload, 1) := dq_46 (by decide +kernel)
theorem dX12_stands_152 : decode cX12_stands 152 = .ok (.iastore, 1) := dq_79 (by decide +kernel)
theorem dX12_stands_153 : decode cX12_stands 153 = .ok (.aload_n 0, 1) := dq_42 (by decide +kernel)
theorem dX12_stands_154 : decode cX12_stands 154 = .ok (.getfield 87, 3) := dq_180 (a := 0) (b := 87) (by decide +kernel) rfl
theorem dX12_stands_157 : decode cX12_stands 157 = .ok (.iload_n 1, 1) := dq_27 (by decide +kernel)
theorem dX12_stands_158 : decode cX12_stands 158 = .ok (.aload_n 0, 1) := dq_42 (by decide +kernel)
theorem dX12_stands_159 : decode cX12_stands 159 = .ok (.getfield 87, 3) := dq_180 (a := 0) (b := 87) (by decide +kernel) rfl
theorem dX12_stands_162 : decode cX12_stands 162 = .ok (.bipush 8, 2) := dq_16 (a := 8) (by decide +kernel) (by decide +kernel)
theorem dX12_stands_164 : decode cX12_stands 164 = .ok (.iload_n 1, 1) := dq_27 (by decide +kernel)
theorem dX12_stands_165 : decode cX12_stands 165 = .ok (.iadd, 1) := dq_96 (by decide +kernel)
theorem dX12_stands_166 : decode cX12_stands 166 = .ok (.iaload, 1) := dq_46 (by decide +kernel)
theorem dX12_stands_167 : decode cX12_stands 167 = .ok (.iastore, 1) := dq_79 (by decide +kernel)
theorem dX12_stands_168 : decode cX12_stands 168 = .ok (.aload_n 0, 1) := dq_42 (by decide +kernel)
theorem dX12_stands_169 : decode cX12_stands 169 = .ok (.getfield 90, 3) := dq_180 (a := 0) (b := 90) (by decide +kernel) rfl
theorem dX12_stands_172 : decode cX12_stands 172 = .ok (.iload_n 1, 1) := dq_27 (by decide +kernel)
theorem dX12_stands_173 : decode cX12_stands 173 = .ok (.aload_n 0, 1) := dq_42 (by decide +kernel)
theorem dX12_stands_174 : decode cX12_stands 174 = .ok (.getfield 90, 3) := dq_180 (a := 0) (b := 90) (by decide +kernel) rfl
theorem dX12_stands_177 : decode cX12_stands 177 = .ok (.bipush 8, 2) := dq_16 (a := 8) (by decide +kernel) (by decide +kernel)
theorem dX12_stands_179 : decode cX12_stands 179 = .ok (.iload_n 1, 1) := dq_27 (by decide +kernel)
theorem dX12_stands_180 : decode cX12_stands 180 = .ok (.iadd, 1) := dq_96 (by decide +kernel)
theorem dX12_stands_181 : decode cX12_stands 181 = .ok (.iaload, 1) := dq_46 (by decide +kernel)
theorem dX12_stands_182 : decode cX12_stands 182 = .ok (.iastore, 1) := dq_79 (by decide +kernel)
theorem dX12_stands_183 : decode cX12_stands 183 = .ok (.iinc 1 1, 3) := dq_132 (a := 1) (b := 1) (by decide +kernel) rfl (by decide +kernel)
theorem dX12_stands_186 : decode cX12_stands 186 = .ok (.goto (-54), 3) := dq_167 (a := 255) (b := 202) (by decide +kernel) (by decide +kernel)
theorem dX12_stands_189 : decode cX12_stands 189 = .ok (.iconst 0, 1) := dq_3 (by decide +kernel)
theorem dX12_stands_190 : decode cX12_stands 190 = .ok (.istore_n 1, 1) := dq_60 (by decide +kernel)
theorem dX12_stands_191 : decode cX12_stands 191 = .ok (.iload_n 1, 1) := dq_27 (by decide +kernel)
theorem dX12_stands_192 : decode cX12_stands 192 = .ok (.aload_n 0, 1) := dq_42 (by decide +kernel)
theorem dX12_stands_193 : decode cX12_stands 193 = .ok (.getfield 222, 3) := dq_180 (a := 0) (b := 222) (by decide +kernel) rfl
theorem dX12_stands_196 : decode cX12_stands 196 = .ok (.if_icmp .ge 25, 3) := dq_162 (a := 0) (b := 25) (by decide +kernel) (by decide +kernel)
theorem dX12_stands_221 : decode cX12_stands 221 = .ok (.iconst 0, 1) := dq_3 (by decide +kernel)
theorem dX12_stands_222 : decode cX12_stands 222 = .ok (.istore_n 1, 1) := dq_60 (by decide +kernel)
theorem dX12_stands_223 : decode cX12_stands 223 = .ok (.iload_n 1, 1) := dq_27 (by decide +kernel)
theorem dX12_stands_224 : decode cX12_stands 224 = .ok (.bipush 6, 2) := dq_16 (a := 6) (by decide +kernel) (by decide +kernel)
theorem dX12_stands_226 : decode cX12_stands 226 = .ok (.if_icmp .ge 16, 3) := dq_162 (a := 0) (b := 16) (by decide +kernel) (by decide +kernel)
theorem dX12_stands_229 : decode cX12_stands 229 = .ok (.aload_n 0, 1) := dq_42 (by decide +kernel)
theorem dX12_stands_230 : decode cX12_stands 230 = .ok (.getfield 100, 3) := dq_180 (a := 0) (b := 100) (by decide +kernel) rfl
theorem dX12_stands_233 : decode cX12_stands 233 = .ok (.iload_n 1, 1) := dq_27 (by decide +kernel)
theorem dX12_stands_234 : decode cX12_stands 234 = .ok (.iconst 0, 1) := dq_3 (by decide +kernel)
theorem dX12_stands_235 : decode cX12_stands 235 = .ok (.iastore, 1) := dq_79 (by decide +kernel)
theorem dX12_stands_236 : decode cX12_stands 236 = .ok (.iinc 1 1, 3) := dq_132 (a := 1) (b := 1) (by decide +kernel) rfl (by decide +kernel)
theorem dX12_stands_239 : decode cX12_stands 239 = .ok (.goto (-16), 3) := dq_167 (a := 255) (b := 240) (by decide +kernel) (by decide +kernel)
theorem dX12_stands_242 : decode cX12_stands 242 = .ok (.aload_n 0, 1) := dq_42 (by decide +kernel)
theorem dX12_stands_243 : decode cX12_stands 243 = .ok (.invokevirtual 249, 3) := dq_182 (a := 0) (b := 249) (by decide +kernel) rfl
theorem dX12_leadsAnew_0 : decode cX12_leadsAnew 0 = .ok (.iconst 0, 1) := dq_3 (by decide +kernel)
theorem dX12_leadsAnew_1 : decode cX12_leadsAnew 1 = .ok (.istore_n 1, 1) := dq_60 (by decide +kernel)
theorem dX12_leadsAnew_2 : decode cX12_leadsAnew 2 = .ok (.iload_n 1, 1) := dq_27 (by decide +kernel)
theorem dX12_leadsAnew_3 : decode cX12_leadsAnew 3 = .ok (.bipush 30, 2) := dq_16 (a := 30) (by decide +kernel) (by decide +kernel)
theorem dX12_leadsAnew_5 : decode cX12_leadsAnew 5 = .ok (.if_icmp .ge 21, 3) := dq_162 (a := 0) (b := 21) (by decide +kernel) (by decide +kernel)
theorem dX12_leadsAnew_8 : decode cX12_leadsAnew 8 = .ok (.aload_n 0, 1) := dq_42 (by decide +kernel)
theorem dX12_leadsAnew_9 : decode cX12_leadsAnew 9 = .ok (.getfield 97, 3) := dq_180 (a := 0) (b := 97) (by decide +kernel) rfl
theorem dX12_leadsAnew_12 : decode cX12_leadsAnew 12 = .ok (.iload_n 1, 1) := dq_27 (by decide +kernel)
theorem dX12_leadsAnew_13 : decode cX12_leadsAnew 13 = .ok (.aload_n 0, 1) := dq_42 (by decide +kernel)
theorem dX12_leadsAnew_14 : decode cX12_leadsAnew 14 = .ok (.getfield 69, 3) := dq_180 (a := 0) (b := 69) (by decide +kernel) rfl
theorem dX12_leadsAnew_17 : decode cX12_leadsAnew 17 = .ok (.iload_n 1, 1) := dq_27 (by decide +kernel)
theorem dX12_leadsAnew_18 : decode cX12_leadsAnew 18 = .ok (.iaload, 1) := dq_46 (by decide +kernel)
theorem dX12_leadsAnew_19 : decode cX12_leadsAnew 19 = .ok (.iastore, 1) := dq_79 (by decide +kernel)
theorem dX12_leadsAnew_20 : decode cX12_leadsAnew 20 = .ok (.iinc 1 1, 3) := dq_132 (a := 1) (b := 1) (by decide +kernel) rfl (by decide +kernel)
theorem dX12_leadsAnew_23 : decode cX12_leadsAnew 23 = .ok (.goto (-21), 3) := dq_167 (a := 255) (b := 235) (by decide +kernel) (by decide +kernel)
theorem dX12_leadsAnew_26 : decode cX12_leadsAnew 26 = .ok (.iconst 0, 1) := dq_3 (by decide +kernel)
theorem dX12_leadsAnew_27 : decode cX12_leadsAnew 27 = .ok (.istore_n 1, 1) := dq_60 (by decide +kernel)
theorem dX12_leadsAnew_28 : decode cX12_leadsAnew 28 = .ok (.iload_n 1, 1) := dq_27 (by decide +kernel)
theorem dX12_leadsAnew_29 : decode cX12_leadsAnew 29 = .ok (.bipush 25, 2) := dq_16 (a := 25) (by decide +kernel) (by decide +kernel)
theorem dX12_leadsAnew_31 : decode cX12_leadsAnew 31 = .ok (.if_icmp .ge 29, 3) := dq_162 (a := 0) (b := 29) (by decide +kernel) (by decide +kernel)
theorem dX12_leadsAnew_34 : decode cX12_leadsAnew 34 = .ok (.aload_n 0, 1) := dq_42 (by decide +kernel)
theorem dX12_leadsAnew_35 : decode cX12_leadsAnew 35 = .ok (.getfield 121, 3) := dq_180 (a := 0) (b := 121) (by decide +kernel) rfl
theorem dX12_leadsAnew_38 : decode cX12_leadsAnew 38 = .ok (.iload_n 1, 1) := dq_27 (by decide +kernel)
theorem dX12_leadsAnew_39 : decode cX12_leadsAnew 39 = .ok (.iload_n 1, 1) := dq_27 (by decide +kernel)
theorem dX12_leadsAnew_40 : decode cX12_leadsAnew 40 = .ok (.iconst 5, 1) := dq_8 (by decide +kernel)
theorem dX12_leadsAnew_41 : decode cX12_leadsAnew 41 = .ok (.irem, 1) := dq_112 (by decide +kernel)
theorem dX12_leadsAnew_42 : decode cX12_leadsAnew 42 = .ok (.iload_n 1, 1) := dq_27 (by decide +kernel)
theorem dX12_leadsAnew_43 : decode cX12_leadsAnew 43 = .ok (.iconst 5, 1) := dq_8 (by decide +kernel)
theorem dX12_leadsAnew_44 : decode cX12_leadsAnew 44 = .ok (.idiv, 1) := dq_108 (by decide +kernel)
theorem dX12_leadsAnew_45 : decode cX12_leadsAnew 45 = .ok (.if_icmp .ne 7, 3) := dq_160 (a := 0) (b := 7) (by decide +kernel) (by decide +kernel)
theorem dX12_leadsAnew_48 : decode cX12_leadsAnew 48 = .ok (.lconst 1, 1) := dq_10 (by decide +kernel)
theorem dX12_leadsAnew_49 : decode cX12_leadsAnew 49 = .ok (.goto 4, 3) := dq_167 (a := 0) (b := 4) (by decide +kernel) (by decide +kernel)
theorem dX12_leadsAnew_53 : decode cX12_leadsAnew 53 = .ok (.lastore, 1) := dq_80 (by decide +kernel)
theorem dX12_leadsAnew_54 : decode cX12_leadsAnew 54 = .ok (.iinc 1 1, 3) := dq_132 (a := 1) (b := 1) (by decide +kernel) rfl (by decide +kernel)
theorem dX12_leadsAnew_57 : decode cX12_leadsAnew 57 = .ok (.goto (-29), 3) := dq_167 (a := 255) (b := 227) (by decide +kernel) (by decide +kernel)
theorem dX12_leadsAnew_60 : decode cX12_leadsAnew 60 = .ok (.aload_n 0, 1) := dq_42 (by decide +kernel)
theorem dX12_leadsAnew_61 : decode cX12_leadsAnew 61 = .ok (.iconst 0, 1) := dq_3 (by decide +kernel)
theorem dX12_leadsAnew_62 : decode cX12_leadsAnew 62 = .ok (.putfield 349, 3) := dq_181 (a := 1) (b := 93) (by decide +kernel) rfl
theorem dX12_leadsAnew_65 : decode cX12_leadsAnew 65 = .ok (.aload_n 0, 1) := dq_42 (by decide +kernel)
theorem dX12_leadsAnew_66 : decode cX12_leadsAnew 66 = .ok (.iconst 0, 1) := dq_3 (by decide +kernel)
theorem dX12_leadsAnew_67 : decode cX12_leadsAnew 67 = .ok (.putfield 352, 3) := dq_181 (a := 1) (b := 96) (by decide +kernel) rfl
theorem dX12_leadsAnew_70 : decode cX12_leadsAnew 70 = .ok (.aload_n 0, 1) := dq_42 (by decide +kernel)
theorem dX12_leadsAnew_71 : decode cX12_leadsAnew 71 = .ok (.iconst 0, 1) := dq_3 (by decide +kernel)
theorem dX12_leadsAnew_72 : decode cX12_leadsAnew 72 = .ok (.putfield 355, 3) := dq_181 (a := 1) (b := 99) (by decide +kernel) rfl
theorem dX12_leadsAnew_75 : decode cX12_leadsAnew 75 = .ok (.return_, 1) := dq_177 (by decide +kernel)
theorem dX12_leadsAnew_52 : decode cX12_leadsAnew 52 = .ok (.lconst 0, 1) := dq_9 (by decide +kernel)
theorem dX12_stands_246 : decode cX12_stands 246 = .ok (.aload_n 0, 1) := dq_42 (by decide +kernel)
theorem dX12_stands_247 : decode cX12_stands 247 = .ok (.iconst 0, 1) := dq_3 (by decide +kernel)
theorem dX12_stands_248 : decode cX12_stands 248 = .ok (.putfield 252, 3) := dq_181 (a := 0) (b := 252) (by decide +kernel) rfl
theorem dX12_stands_251 : decode cX12_stands 251 = .ok (.return_, 1) := dq_177 (by decide +kernel)
theorem dX12_stands_199 : decode cX12_stands 199 = .ok (.aload_n 0, 1) := dq_42 (by decide +kernel)
theorem dX12_stands_200 : decode cX12_stands 200 = .ok (.getfield 75, 3) := dq_180 (a := 0) (b := 75) (by decide +kernel) rfl
theorem dX12_stands_203 : decode cX12_stands 203 = .ok (.iload_n 1, 1) := dq_27 (by decide +kernel)
theorem dX12_stands_204 : decode cX12_stands 204 = .ok (.aload_n 0, 1) := dq_42 (by decide +kernel)
theorem dX12_stands_205 : decode cX12_stands 205 = .ok (.getfield 75, 3) := dq_180 (a := 0) (b := 75) (by decide +kernel) rfl
theorem dX12_stands_208 : decode cX12_stands 208 = .ok (.sipush 1600, 3) := dq_17 (a := 6) (b := 64) (by decide +kernel) (by decide +kernel)
theorem dX12_stands_211 : decode cX12_stands 211 = .ok (.iload_n 1, 1) := dq_27 (by decide +kernel)
theorem dX12_stands_212 : decode cX12_stands 212 = .ok (.iadd, 1) := dq_96 (by decide +kernel)
theorem dX12_stands_213 : decode cX12_stands 213 = .ok (.iaload, 1) := dq_46 (by decide +kernel)
theorem dX12_stands_214 : decode cX12_stands 214 = .ok (.iastore, 1) := dq_79 (by decide +kernel)
theorem dX12_stands_215 : decode cX12_stands 215 = .ok (.iinc 1 1, 3) := dq_132 (a := 1) (b := 1) (by decide +kernel) rfl (by decide +kernel)
theorem dX12_stands_218 : decode cX12_stands 218 = .ok (.goto (-27), 3) := dq_167 (a := 255) (b := 229) (by decide +kernel) (by decide +kernel)
theorem dX12_house_200 : decode cX12_house 200 = .ok (.aload_n 0, 1) := dq_42 (by decide +kernel)
theorem dX12_house_201 : decode cX12_house 201 = .ok (.getfield 202, 3) := dq_180 (a := 0) (b := 202) (by decide +kernel) rfl
theorem dX12_house_204 : decode cX12_house 204 = .ok (.ireturn, 1) := dq_172 (by decide +kernel)
theorem dX12_house_194 : decode cX12_house 194 = .ok (.iconst (-1), 1) := dq_2 (by decide +kernel)
theorem dX12_house_195 : decode cX12_house 195 = .ok (.ireturn, 1) := dq_172 (by decide +kernel)
theorem dX12_house_156 : decode cX12_house 156 = .ok (.aload_n 0, 1) := dq_42 (by decide +kernel)
theorem dX12_house_157 : decode cX12_house 157 = .ok (.invokevirtual 163, 3) := dq_182 (a := 0) (b := 163) (by decide +kernel) rfl
theorem dX12_house_160 : decode cX12_house 160 = .ok (.iconst (-1), 1) := dq_2 (by decide +kernel)
theorem dX12_house_161 : decode cX12_house 161 = .ok (.if_icmp .eq 10, 3) := dq_159 (a := 0) (b := 10) (by decide +kernel) (by decide +kernel)
theorem dX12_house_164 : decode cX12_house 164 = .ok (.aload_n 0, 1) := dq_42 (by decide +kernel)
theorem dX12_house_165 : decode cX12_house 165 = .ok (.invokevirtual 225, 3) := dq_182 (a := 0) (b := 225) (by decide +kernel) rfl
theorem dX12_houseTold_0 : decode cX12_houseTold 0 = .ok (.aload_n 0, 1) := dq_42 (by decide +kernel)
theorem dX12_houseTold_1 : decode cX12_houseTold 1 = .ok (.getfield 157, 3) := dq_180 (a := 0) (b := 157) (by decide +kernel) rfl
theorem dX12_houseTold_4 : decode cX12_houseTold 4 = .ok (.istore_n 1, 1) := dq_60 (by decide +kernel)
theorem dX12_houseTold_5 : decode cX12_houseTold 5 = .ok (.aload_n 0, 1) := dq_42 (by decide +kernel)
theorem dX12_houseTold_6 : decode cX12_houseTold 6 = .ok (.getfield 202, 3) := dq_180 (a := 0) (b := 202) (by decide +kernel) rfl
theorem dX12_houseTold_9 : decode cX12_houseTold 9 = .ok (.bipush 60, 2) := dq_16 (a := 60) (by decide +kernel) (by decide +kernel)
theorem dX12_houseTold_11 : decode cX12_houseTold 11 = .ok (.if_icmp .ne 10, 3) := dq_160 (a := 0) (b := 10) (by decide +kernel) (by decide +kernel)
theorem dX12_houseTold_21 : decode cX12_houseTold 21 = .ok (.aload_n 0, 1) := dq_42 (by decide +kernel)
theorem dX12_houseTold_22 : decode cX12_houseTold 22 = .ok (.aload_n 0, 1) := dq_42 (by decide +kernel)
theorem dX12_houseTold_23 : decode cX12_houseTold 23 = .ok (.getfield 21, 3) := dq_180 (a := 0) (b := 21) (by decide +kernel) rfl
theorem dX12_houseTold_26 : decode cX12_houseTold 26 = .ok (.invokevirtual 178, 3) := dq_182 (a := 0) (b := 178) (by decide +kernel) rfl
theorem dX12_houseTold_29 : decode cX12_houseTold 29 = .ok (.ifCond .eq 11, 3) := dq_153 (a := 0) (b := 11) (by decide +kernel) (by decide +kernel)
theorem dX12_houseTold_40 : decode cX12_houseTold 40 = .ok (.aload_n 0, 1) := dq_42 (by decide +kernel)
theorem dX12_houseTold_41 : decode cX12_houseTold 41 = .ok (.aload_n 0, 1) := dq_42 (by decide +kernel)
theorem dX12_houseTold_42 : decode cX12_houseTold 42 = .ok (.getfield 24, 3) := dq_180 (a := 0) (b := 24) (by decide +kernel) rfl
theorem dX12_houseTold_45 : decode cX12_houseTold 45 = .ok (.invokevirtual 178, 3) := dq_182 (a := 0) (b := 178) (by decide +kernel) rfl
theorem dX12_houseTold_48 : decode cX12_houseTold 48 = .ok (.ifCond .eq 11, 3) := dq_153 (a := 0) (b := 11) (by decide +kernel) (by decide +kernel)
theorem dX12_houseTold_59 : decode cX12_houseTold 59 = .ok (.aload_n 0, 1) := dq_42 (by decide +kernel)
theorem dX12_houseTold_60 : decode cX12_houseTold 60 = .ok (.aload_n 0, 1) := dq_42 (by decide +kernel)
theorem dX12_houseTold_61 : decode cX12_houseTold 61 = .ok (.getfield 30, 3) := dq_180 (a := 0) (b := 30) (by decide +kernel) rfl
theorem dX12_houseTold_64 : decode cX12_houseTold 64 = .ok (.invokevirtual 178, 3) := dq_182 (a := 0) (b := 178) (by decide +kernel) rfl
theorem dX12_houseTold_67 : decode cX12_houseTold 67 = .ok (.ifCond .eq 20, 3) := dq_153 (a := 0) (b := 20) (by decide +kernel) (by decide +kernel)
theorem dX12_houseTold_87 : decode cX12_houseTold 87 = .ok (.aload_n 0, 1) := dq_42 (by decide +kernel)
theorem dX12_houseTold_88 : decode cX12_houseTold 88 = .ok (.aload_n 0, 1) := dq_42 (by decide +kernel)
theorem dX12_houseTold_89 : decode cX12_houseTold 89 = .ok (.getfield 27, 3) := dq_180 (a := 0) (b := 27) (by decide +kernel) rfl
theorem dX12_houseTold_92 : decode cX12_houseTold 92 = .ok (.invokevirtual 212, 3) := dq_182 (a := 0) (b := 212) (by decide +kernel) rfl
theorem dX12_houseTold_95 : decode cX12_houseTold 95 = .ok (.aload_n 0, 1) := dq_42 (by decide +kernel)
theorem dX12_houseTold_96 : decode cX12_houseTold 96 = .ok (.getfield 151, 3) := dq_180 (a := 0) (b := 151) (by decide +kernel) rfl
theorem dX12_houseTold_99 : decode cX12_houseTold 99 = .ok (.ifCond .ne 8, 3) := dq_154 (a := 0) (b := 8) (by decide +kernel) (by decide +kernel)
theorem dX12_houseTold_107 : decode cX12_houseTold 107 = .ok (.aload_n 0, 1) := dq_42 (by decide +kernel)
theorem dX12_houseTold_108 : decode cX12_houseTold 108 = .ok (.bipush 59, 2) := dq_16 (a := 59) (by decide +kernel) (by decide +kernel)
theorem dX12_houseTold_110 : decode cX12_houseTold 110 = .ok (.invokevirtual 219, 3) := dq_182 (a := 0) (b := 219) (by decide +kernel) rfl
theorem dX12_houseTold_113 : decode cX12_houseTold 113 = .ok (.aload_n 0, 1) := dq_42 (by decide +kernel)
theorem dX12_houseTold_114 : decode cX12_houseTold 114 = .ok (.dup, 1) := dq_89 (by decide +kernel)
theorem dX12_houseTold_115 : decode cX12_houseTold 115 = .ok (.getfield 202, 3) := dq_180 (a := 0) (b := 202) (by decide +kernel) rfl
theorem dX12_houseTold_118 : decode cX12_houseTold 118 = .ok (.iconst 1, 1) := dq_4 (by decide +kernel)
theorem dX12_houseTold_119 : decode cX12_houseTold 119 = .ok (.iadd, 1) := dq_96 (by decide +kernel)
theorem dX12_houseTold_120 : decode cX12_houseTold 120 = .ok (.putfield 202, 3) := dq_181 (a := 0) (b := 202) (by decide +kernel) rfl
theorem dX12_houseTold_123 : decode cX12_houseTold 123 = .ok (.return_, 1) := dq_177 (by decide +kernel)
theorem dX12_houseTold_102 : decode cX12_houseTold 102 = .ok (.aload_n 0, 1) := dq_42 (by decide +kernel)
theorem dX12_houseTold_103 : decode cX12_houseTold 103 = .ok (.iload_n 1, 1) := dq_27 (by decide +kernel)
theorem dX12_houseTold_104 : decode cX12_houseTold 104 = .ok (.invokevirtual 216, 3) := dq_182 (a := 0) (b := 216) (by decide +kernel) rfl
theorem dX12_worthTold_0 : decode cX12_worthTold 0 = .ok (.aload_n 0, 1) := dq_42 (by decide +kernel)
theorem dX12_worthTold_1 : decode cX12_worthTold 1 = .ok (.getfield 151, 3) := dq_180 (a := 0) (b := 151) (by decide +kernel) rfl
theorem dX12_worthTold_4 : decode cX12_worthTold 4 = .ok (.ifCond .ne 20, 3) := dq_154 (a := 0) (b := 20) (by decide +kernel) (by decide +kernel)
theorem dX12_worthTold_24 : decode cX12_worthTold 24 = .ok (.aload_n 0, 1) := dq_42 (by decide +kernel)
theorem dX12_worthTold_25 : decode cX12_worthTold 25 = .ok (.getfield 151, 3) := dq_180 (a := 0) (b := 151) (by decide +kernel) rfl
theorem dX12_worthTold_28 : decode cX12_worthTold 28 = .ok (.ifCond .eq 4, 3) := dq_153 (a := 0) (b := 4) (by decide +kernel) (by decide +kernel)
theorem dX12_worthTold_32 : decode cX12_worthTold 32 = .ok (.bipush 8, 2) := dq_16 (a := 8) (by decide +kernel) (by decide +kernel)
theorem dX12_worthTold_34 : decode cX12_worthTold 34 = .ok (.aload_n 0, 1) := dq_42 (by decide +kernel)
theorem dX12_worthTold_35 : decode cX12_worthTold 35 = .ok (.getfield 81, 3) := dq_180 (a := 0) (b := 81) (by decide +kernel) rfl
theorem dX12_worthTold_38 : decode cX12_worthTold 38 = .ok (.iconst 1, 1) := dq_4 (by decide +kernel)
theorem dX12_worthTold_39 : decode cX12_worthTold 39 = .ok (.iaload, 1) := dq_46 (by decide +kernel)
theorem dX12_worthTold_40 : decode cX12_worthTold 40 = .ok (.iadd, 1) := dq_96 (by decide +kernel)
theorem dX12_worthTold_41 : decode cX12_worthTold 41 = .ok (.istore_n 2, 1) := dq_61 (by decide +kernel)
theorem dX12_worthTold_42 : decode cX12_worthTold 42 = .ok (.aload_n 0, 1) := dq_42 (by decide +kernel)
theorem dX12_worthTold_43 : decode cX12_worthTold 43 = .ok (.getfield 84, 3) := dq_180 (a := 0) (b := 84) (by decide +kernel) rfl
theorem dX12_worthTold_46 : decode cX12_worthTold 46 = .ok (.iload_n 2, 1) := dq_28 (by decide +kernel)
theorem dX12_worthTold_47 : decode cX12_worthTold 47 = .ok (.aload_n 0, 1) := dq_42 (by decide +kernel)
theorem dX12_worthTold_48 : decode cX12_worthTold 48 = .ok (.getfield 222, 3) := dq_180 (a := 0) (b := 222) (by decide +kernel) rfl
theorem dX12_worthTold_51 : decode cX12_worthTold 51 = .ok (.iastore, 1) := dq_79 (by decide +kernel)
theorem dX12_worthTold_52 : decode cX12_worthTold 52 = .ok (.aload_n 0, 1) := dq_42 (by decide +kernel)
theorem dX12_worthTold_53 : decode cX12_worthTold 53 = .ok (.iconst 0, 1) := dq_3 (by decide +kernel)
theorem dX12_worthTold_54 : decode cX12_worthTold 54 = .ok (.putfield 259, 3) := dq_181 (a := 1) (b := 3) (by decide +kernel) rfl
theorem dX12_worthTold_57 : decode cX12_worthTold 57 = .ok (.aload_n 0, 1) := dq_42 (by decide +kernel)
theorem dX12_worthTold_58 : decode cX12_worthTold 58 = .ok (.iconst 0, 1) := dq_3 (by decide +kernel)
theorem dX12_worthTold_59 : decode cX12_worthTold 59 = .ok (.putfield 256, 3) := dq_181 (a := 1) (b := 0) (by decide +kernel) rfl
theorem dX12_worthTold_62 : decode cX12_worthTold 62 = .ok (.aload_n 0, 1) := dq_42 (by decide +kernel)
theorem dX12_worthTold_63 : decode cX12_worthTold 63 = .ok (.iconst 0, 1) := dq_3 (by decide +kernel)
theorem dX12_worthTold_64 : decode cX12_worthTold 64 = .ok (.putfield 265, 3) := dq_181 (a := 1) (b := 9) (by decide +kernel) rfl
theorem dX12_worthTold_67 : decode cX12_worthTold 67 = .ok (.aload_n 0, 1) := dq_42 (by decide +kernel)
theorem dX12_worthTold_68 : decode cX12_worthTold 68 = .ok (.invokevirtual 293, 3) := dq_182 (a := 1) (b := 37) (by decide +kernel) rfl
theorem dX12_sumsTold_0 : decode cX12_sumsTold 0 = .ok (.aload_n 0, 1) := dq_42 (by decide +kernel)
theorem dX12_sumsTold_1 : decode cX12_sumsTold 1 = .ok (.getfield 265, 3) := dq_180 (a := 1) (b := 9) (by decide +kernel) rfl
theorem dX12_sumsTold_4 : decode cX12_sumsTold 4 = .ok (.istore_n 1, 1) := dq_60 (by decide +kernel)
theorem dX12_sumsTold_5 : decode cX12_sumsTold 5 = .ok (.aload_n 0, 1) := dq_42 (by decide +kernel)
theorem dX12_sumsTold_6 : decode cX12_sumsTold 6 = .ok (.aload_n 0, 1) := dq_42 (by decide +kernel)
theorem dX12_sumsTold_7 : decode cX12_sumsTold 7 = .ok (.getfield 259, 3) := dq_180 (a := 1) (b := 3) (by decide +kernel) rfl
theorem dX12_sumsTold_10 : decode cX12_sumsTold 10 = .ok (.putfield 265, 3) := dq_181 (a := 1) (b := 9) (by decide +kernel) rfl
theorem dX12_sumsTold_13 : decode cX12_sumsTold 13 = .ok (.iconst 1, 1) := dq_4 (by decide +kernel)
theorem dX12_sumsTold_14 : decode cX12_sumsTold 14 = .ok (.istore_n 2, 1) := dq_61 (by decide +kernel)
theorem dX12_sumsTold_15 : decode cX12_sumsTold 15 = .ok (.iload_n 2, 1) := dq_28 (by decide +kernel)
theorem dX12_sumsTold_16 : decode cX12_sumsTold 16 = .ok (.ifCond .eq 37, 3) := dq_153 (a := 0) (b := 37) (by decide +kernel) (by decide +kernel)
theorem dX12_sumsTold_19 : decode cX12_sumsTold 19 = .ok (.aload_n 0, 1) := dq_42 (by decide +kernel)
theorem dX12_sumsTold_20 : decode cX12_sumsTold 20 = .ok (.getfield 151, 3) := dq_180 (a := 0) (b := 151) (by decide +kernel) rfl
theorem dX12_sumsTold_23 : decode cX12_sumsTold 23 = .ok (.ifCond .ne 30, 3) := dq_154 (a := 0) (b := 30) (by decide +kernel) (by decide +kernel)
theorem dX12_sumsTold_53 : decode cX12_sumsTold 53 = .ok (.aload_n 0, 1) := dq_42 (by decide +kernel)
theorem dX12_sumsTold_54 : decode cX12_sumsTold 54 = .ok (.getfield 151, 3) := dq_180 (a := 0) (b := 151) (by decide +kernel) rfl
theorem dX12_sumsTold_57 : decode cX12_sumsTold 57 = .ok (.ifCond .ne 21, 3) := dq_154 (a := 0) (b := 21) (by decide +kernel) (by decide +kernel)
theorem dX12_sumsTold_78 : decode cX12_sumsTold 78 = .ok (.aload_n 0, 1) := dq_42 (by decide +kernel)
theorem dX12_sumsTold_79 : decode cX12_sumsTold 79 = .ok (.iload_n 1, 1) := dq_27 (by decide +kernel)
theorem dX12_sumsTold_80 : decode cX12_sumsTold 80 = .ok (.putfield 265, 3) := dq_181 (a := 1) (b := 9) (by decide +kernel) rfl
theorem dX12_sumsTold_83 : decode cX12_sumsTold 83 = .ok (.return_, 1) := dq_177 (by decide +kernel)
theorem dX12_sumsTold_60 : decode cX12_sumsTold 60 = .ok (.aload_n 0, 1) := dq_42 (by decide +kernel)
theorem dX12_sumsTold_61 : decode cX12_sumsTold 61 = .ok (.getfield 259, 3) := dq_180 (a := 1) (b := 3) (by decide +kernel) rfl
theorem dX12_sumsTold_64 : decode cX12_sumsTold 64 = .ok (.aload_n 0, 1) := dq_42 (by decide +kernel)
theorem dX12_sumsTold_65 : decode cX12_sumsTold 65 = .ok (.getfield 265, 3) := dq_180 (a := 1) (b := 9) (by decide +kernel) rfl
theorem dX12_sumsTold_68 : decode cX12_sumsTold 68 = .ok (.if_icmp .le 10, 3) := dq_164 (a := 0) (b := 10) (by decide +kernel) (by decide +kernel)
theorem dX12_sumsTold_26 : decode cX12_sumsTold 26 = .ok (.aload_n 0, 1) := dq_42 (by decide +kernel)
theorem dX12_sumsTold_27 : decode cX12_sumsTold 27 = .ok (.invokevirtual 286, 3) := dq_182 (a := 1) (b := 30) (by decide +kernel) rfl
theorem dX12_onePart_0 : decode cX12_onePart 0 = .ok (.iconst 1, 1) := dq_4 (by decide +kernel)
theorem dX12_onePart_1 : decode cX12_onePart 1 = .ok (.istore_n 1, 1) := dq_60 (by decide +kernel)
theorem dX12_onePart_2 : decode cX12_onePart 2 = .ok (.iload_n 1, 1) := dq_27 (by decide +kernel)
theorem dX12_onePart_3 : decode cX12_onePart 3 = .ok (.ifCond .eq 143, 3) := dq_153 (a := 0) (b := 143) (by decide +kernel) (by decide +kernel)
theorem dX12_onePart_6 : decode cX12_onePart 6 = .ok (.aload_n 0, 1) := dq_42 (by decide +kernel)
theorem dX12_onePart_7 : decode cX12_onePart 7 = .ok (.getfield 151, 3) := dq_180 (a := 0) (b := 151) (by decide +kernel) rfl
theorem dX12_onePart_10 : decode cX12_onePart 10 = .ok (.ifCond .ne 136, 3) := dq_154 (a := 0) (b := 136) (by decide +kernel) (by decide +kernel)
theorem dX12_onePart_146 : decode cX12_onePart 146 = .ok (.aload_n 0, 1) := dq_42 (by decide +kernel)
theorem dX12_onePart_147 : decode cX12_onePart 147 = .ok (.getfield 151, 3) := dq_180 (a := 0) (b := 151) (by decide +kernel) rfl
theorem dX12_onePart_150 : decode cX12_onePart 150 = .ok (.ifCond .eq 4, 3) := dq_153 (a := 0) (b := 4) (by decide +kernel) (by decide +kernel)
theorem dX12_onePart_154 : decode cX12_onePart 154 = .ok (.aload_n 0, 1) := dq_42 (by decide +kernel)
theorem dX12_onePart_155 : decode cX12_onePart 155 = .ok (.aload_n 0, 1) := dq_42 (by decide +kernel)
theorem dX12_onePart_156 : decode cX12_onePart 156 = .ok (.getfield 48, 3) := dq_180 (a := 0) (b := 48) (by decide +kernel) rfl
theorem dX12_onePart_159 : decode cX12_onePart 159 = .ok (.invokevirtual 178, 3) := dq_182 (a := 0) (b := 178) (by decide +kernel) rfl
theorem dX12_onePart_162 : decode cX12_onePart 162 = .ok (.ifCond .eq 8, 3) := dq_153 (a := 0) (b := 8) (by decide +kernel) (by decide +kernel)
theorem dX12_onePart_170 : decode cX12_onePart 170 = .ok (.aload_n 0, 1) := dq_42 (by decide +kernel)
theorem dX12_onePart_171 : decode cX12_onePart 171 = .ok (.aload_n 0, 1) := dq_42 (by decide +kernel)
theorem dX12_onePart_172 : decode cX12_onePart 172 = .ok (.getfield 51, 3) := dq_180 (a := 0) (b := 51) (by decide +kernel) rfl
theorem dX12_onePart_175 : decode cX12_onePart 175 = .ok (.invokevirtual 178, 3) := dq_182 (a := 0) (b := 178) (by decide +kernel) rfl
theorem dX12_onePart_178 : decode cX12_onePart 178 = .ok (.ifCond .eq 8, 3) := dq_153 (a := 0) (b := 8) (by decide +kernel) (by decide +kernel)
theorem dX12_onePart_186 : decode cX12_onePart 186 = .ok (.aload_n 0, 1) := dq_42 (by decide +kernel)
theorem dX12_onePart_187 : decode cX12_onePart 187 = .ok (.aload_n 0, 1) := dq_42 (by decide +kernel)
theorem dX12_onePart_188 : decode cX12_onePart 188 = .ok (.getfield 54, 3) := dq_180 (a := 0) (b := 54) (by decide +kernel) rfl
theorem dX12_onePart_191 : decode cX12_onePart 191 = .ok (.invokevirtual 178, 3) := dq_182 (a := 0) (b := 178) (by decide +kernel) rfl
theorem dX12_onePart_194 : decode cX12_onePart 194 = .ok (.ifCond .eq 8, 3) := dq_153 (a := 0) (b := 8) (by decide +kernel) (by decide +kernel)
theorem dX12_onePart_202 : decode cX12_onePart 202 = .ok (.iconst (-1), 1) := dq_2 (by decide +kernel)
theorem dX12_onePart_203 : decode cX12_onePart 203 = .ok (.istore_n 2, 1) := dq_61 (by decide +kernel)
theorem dX12_onePart_204 : decode cX12_onePart 204 = .ok (.aload_n 0, 1) := dq_42 (by decide +kernel)
theorem dX12_onePart_205 : decode cX12_onePart 205 = .ok (.iload_n 2, 1) := dq_28 (by decide +kernel)
theorem dX12_onePart_206 : decode cX12_onePart 206 = .ok (.iconst (-1), 1) := dq_2 (by decide +kernel)
theorem dX12_onePart_207 : decode cX12_onePart 207 = .ok (.if_icmp .eq 7, 3) := dq_159 (a := 0) (b := 7) (by decide +kernel) (by decide +kernel)
theorem dX12_onePart_214 : decode cX12_onePart 214 = .ok (.sipush 1000, 3) := dq_17 (a := 3) (b := 232) (by decide +kernel) (by decide +kernel)
theorem dX12_onePart_217 : decode cX12_onePart 217 = .ok (.aload_n 0, 1) := dq_42 (by decide +kernel)
theorem dX12_onePart_218 : decode cX12_onePart 218 = .ok (.iconst 0, 1) := dq_3 (by decide +kernel)
theorem dX12_onePart_219 : decode cX12_onePart 219 = .ok (.sipush 9999, 3) := dq_17 (a := 39) (b := 15) (by decide +kernel) (by decide +kernel)
theorem dX12_onePart_222 : decode cX12_onePart 222 = .ok (.invokevirtual 195, 3) := dq_182 (a := 0) (b := 195) (by decide +kernel) rfl
theorem dX12_onePart_225 : decode cX12_onePart 225 = .ok (.iadd, 1) := dq_96 (by decide +kernel)
theorem dX12_onePart_226 : decode cX12_onePart 226 = .ok (.invokevirtual 262, 3) := dq_182 (a := 1) (b := 6) (by decide +kernel) rfl
theorem dX12_lay_0 : decode cX12_lay 0 = .ok (.aload_n 0, 1) := dq_42 (by decide +kernel)
theorem dX12_lay_1 : decode cX12_lay 1 = .ok (.getfield 75, 3) := dq_180 (a := 0) (b := 75) (by decide +kernel) rfl
theorem dX12_lay_4 : decode cX12_lay 4 = .ok (.sipush 1600, 3) := dq_17 (a := 6) (b := 64) (by decide +kernel) (by decide +kernel)
theorem dX12_lay_7 : decode cX12_lay 7 = .ok (.aload_n 0, 1) := dq_42 (by decide +kernel)
theorem dX12_lay_8 : decode cX12_lay 8 = .ok (.getfield 222, 3) := dq_180 (a := 0) (b := 222) (by decide +kernel) rfl
theorem dX12_lay_11 : decode cX12_lay 11 = .ok (.iadd, 1) := dq_96 (by decide +kernel)
theorem dX12_lay_12 : decode cX12_lay 12 = .ok (.iload_n 1, 1) := dq_27 (by decide +kernel)
theorem dX12_lay_13 : decode cX12_lay 13 = .ok (.iastore, 1) := dq_79 (by decide +kernel)
theorem dX12_lay_14 : decode cX12_lay 14 = .ok (.aload_n 0, 1) := dq_42 (by decide +kernel)
theorem dX12_lay_15 : decode cX12_lay 15 = .ok (.dup, 1) := dq_89 (by decide +kernel)
theorem dX12_lay_16 : decode cX12_lay 16 = .ok (.getfield 222, 3) := dq_180 (a := 0) (b := 222) (by decide +kernel) rfl
theorem dX12_lay_19 : decode cX12_lay 19 = .ok (.iconst 1, 1) := dq_4 (by decide +kernel)
theorem dX12_lay_20 : decode cX12_lay 20 = .ok (.iadd, 1) := dq_96 (by decide +kernel)
theorem dX12_lay_21 : decode cX12_lay 21 = .ok (.putfield 222, 3) := dq_181 (a := 0) (b := 222) (by decide +kernel) rfl
theorem dX12_lay_24 : decode cX12_lay 24 = .ok (.return_, 1) := dq_177 (by decide +kernel)
theorem dX12_onePart_229 : decode cX12_onePart 229 = .ok (.return_, 1) := dq_177 (by decide +kernel)
theorem dX12_onePart_197 : decode cX12_onePart 197 = .ok (.bipush 9, 2) := dq_16 (a := 9) (by decide +kernel) (by decide +kernel)
theorem dX12_onePart_199 : decode cX12_onePart 199 = .ok (.goto 4, 3) := dq_167 (a := 0) (b := 4) (by decide +kernel) (by decide +kernel)
theorem dX12_onePart_210 : decode cX12_onePart 210 = .ok (.iload_n 2, 1) := dq_28 (by decide +kernel)
theorem dX12_onePart_211 : decode cX12_onePart 211 = .ok (.goto 15, 3) := dq_167 (a := 0) (b := 15) (by decide +kernel) (by decide +kernel)
theorem dX12_onePart_181 : decode cX12_onePart 181 = .ok (.bipush 8, 2) := dq_16 (a := 8) (by decide +kernel) (by decide +kernel)
theorem dX12_onePart_183 : decode cX12_onePart 183 = .ok (.goto 20, 3) := dq_167 (a := 0) (b := 20) (by decide +kernel) (by decide +kernel)
theorem dX12_onePart_165 : decode cX12_onePart 165 = .ok (.bipush 7, 2) := dq_16 (a := 7) (by decide +kernel) (by decide +kernel)
theorem dX12_onePart_167 : decode cX12_onePart 167 = .ok (.goto 36, 3) := dq_167 (a := 0) (b := 36) (by decide +kernel) (by decide +kernel)
theorem dX12_onePart_153 : decode cX12_onePart 153 = .ok (.return_, 1) := dq_177 (by decide +kernel)
theorem dX12_onePart_13 : decode cX12_onePart 13 = .ok (.aload_n 0, 1) := dq_42 (by decide +kernel)
theorem dX12_onePart_14 : decode cX12_onePart 14 = .ok (.invokevirtual 163, 3) := dq_182 (a := 0) (b := 163) (by decide +kernel) rfl
theorem dX12_onePart_17 : decode cX12_onePart 17 = .ok (.istore_n 2, 1) := dq_61 (by decide +kernel)
theorem dX12_onePart_18 : decode cX12_onePart 18 = .ok (.iload_n 2, 1) := dq_28 (by decide +kernel)
theorem dX12_onePart_19 : decode cX12_onePart 19 = .ok (.bipush 40, 2) := dq_16 (a := 40) (by decide +kernel) (by decide +kernel)
theorem dX12_onePart_21 : decode cX12_onePart 21 = .ok (.if_icmp .ne 26, 3) := dq_160 (a := 0) (b := 26) (by decide +kernel) (by decide +kernel)
theorem dX12_onePart_47 : decode cX12_onePart 47 = .ok (.aload_n 0, 1) := dq_42 (by decide +kernel)
theorem dX12_onePart_48 : decode cX12_onePart 48 = .ok (.aload_n 0, 1) := dq_42 (by decide +kernel)
theorem dX12_onePart_49 : decode cX12_onePart 49 = .ok (.getfield 57, 3) := dq_180 (a := 0) (b := 57) (by decide +kernel) rfl
theorem dX12_onePart_52 : decode cX12_onePart 52 = .ok (.invokevirtual 174, 3) := dq_182 (a := 0) (b := 174) (by decide +kernel) rfl
theorem dX12_onePart_55 : decode cX12_onePart 55 = .ok (.ifCond .ne 14, 3) := dq_154 (a := 0) (b := 14) (by decide +kernel) (by decide +kernel)
theorem dX12_onePart_69 : decode cX12_onePart 69 = .ok (.aload_n 0, 1) := dq_42 (by decide +kernel)
theorem dX12_onePart_70 : decode cX12_onePart 70 = .ok (.aload_n 0, 1) := dq_42 (by decide +kernel)
theorem dX12_onePart_71 : decode cX12_onePart 71 = .ok (.getfield 57, 3) := dq_180 (a := 0) (b := 57) (by decide +kernel) rfl
theorem dX12_onePart_74 : decode cX12_onePart 74 = .ok (.invokevirtual 178, 3) := dq_182 (a := 0) (b := 178) (by decide +kernel) rfl
theorem dX12_onePart_77 : decode cX12_onePart 77 = .ok (.istore_n 3, 1) := dq_62 (by decide +kernel)
theorem dX12_onePart_78 : decode cX12_onePart 78 = .ok (.iload_n 3, 1) := dq_29 (by decide +kernel)
theorem dX12_onePart_79 : decode cX12_onePart 79 = .ok (.ifCond .ne 11, 3) := dq_154 (a := 0) (b := 11) (by decide +kernel) (by decide +kernel)
theorem dX12_onePart_90 : decode cX12_onePart 90 = .ok (.aload_n 0, 1) := dq_42 (by decide +kernel)
theorem dX12_onePart_91 : decode cX12_onePart 91 = .ok (.invokevirtual 163, 3) := dq_182 (a := 0) (b := 163) (by decide +kernel) rfl
theorem dX12_onePart_94 : decode cX12_onePart 94 = .ok (.bipush 40, 2) := dq_16 (a := 40) (by decide +kernel) (by decide +kernel)
theorem dX12_onePart_96 : decode cX12_onePart 96 = .ok (.if_icmp .ne 10, 3) := dq_160 (a := 0) (b := 10) (by decide +kernel) (by decide +kernel)
theorem dX12_onePart_106 : decode cX12_onePart 106 = .ok (.iconst (-1), 1) := dq_2 (by decide +kernel)
theorem dX12_onePart_107 : decode cX12_onePart 107 = .ok (.istore 4, 2) := dq_54 (a := 4) (by decide +kernel) rfl
theorem dX12_onePart_109 : decode cX12_onePart 109 = .ok (.iload 4, 2) := dq_21 (a := 4) (by decide +kernel) rfl
theorem dX12_onePart_111 : decode cX12_onePart 111 = .ok (.iconst (-1), 1) := dq_2 (by decide +kernel)
theorem dX12_onePart_112 : decode cX12_onePart 112 = .ok (.if_icmp .eq 20, 3) := dq_159 (a := 0) (b := 20) (by decide +kernel) (by decide +kernel)
theorem dX12_onePart_132 : decode cX12_onePart 132 = .ok (.aload_n 0, 1) := dq_42 (by decide +kernel)
theorem dX12_onePart_133 : decode cX12_onePart 133 = .ok (.bipush 40, 2) := dq_16 (a := 40) (by decide +kernel) (by decide +kernel)
theorem dX12_onePart_135 : decode cX12_onePart 135 = .ok (.invokevirtual 219, 3) := dq_182 (a := 0) (b := 219) (by decide +kernel) rfl
theorem dX12_onePart_138 : decode cX12_onePart 138 = .ok (.goto 5, 3) := dq_167 (a := 0) (b := 5) (by decide +kernel) (by decide +kernel)
theorem dX12_onePart_143 : decode cX12_onePart 143 = .ok (.goto (-141), 3) := dq_167 (a := 255) (b := 115) (by decide +kernel) (by decide +kernel)
theorem dX12_onePart_99 : decode cX12_onePart 99 = .ok (.aload_n 0, 1) := dq_42 (by decide +kernel)
theorem dX12_onePart_100 : decode cX12_onePart 100 = .ok (.getfield 157, 3) := dq_180 (a := 0) (b := 157) (by decide +kernel) rfl
theorem dX12_onePart_103 : decode cX12_onePart 103 = .ok (.goto 4, 3) := dq_167 (a := 0) (b := 4) (by decide +kernel) (by decide +kernel)
theorem dX12_onePart_115 : decode cX12_onePart 115 = .ok (.aload_n 0, 1) := dq_42 (by decide +kernel)
theorem dX12_onePart_116 : decode cX12_onePart 116 = .ok (.iload_n 3, 1) := dq_29 (by decide +kernel)
theorem dX12_onePart_117 : decode cX12_onePart 117 = .ok (.ifCond .eq 8, 3) := dq_153 (a := 0) (b := 8) (by decide +kernel) (by decide +kernel)
theorem dX12_onePart_120 : decode cX12_onePart 120 = .ok (.bipush 21, 2) := dq_16 (a := 21) (by decide +kernel) (by decide +kernel)
theorem dX12_onePart_122 : decode cX12_onePart 122 = .ok (.goto 5, 3) := dq_167 (a := 0) (b := 5) (by decide +kernel) (by decide +kernel)
theorem dX12_onePart_127 : decode cX12_onePart 127 = .ok (.iload 4, 2) := dq_21 (a := 4) (by decide +kernel) rfl
theorem dX12_onePart_129 : decode cX12_onePart 129 = .ok (.invokevirtual 274, 3) := dq_182 (a := 1) (b := 18) (by decide +kernel) rfl
theorem dX12_opens_0 : decode cX12_opens 0 = .ok (.aload_n 0, 1) := dq_42 (by decide +kernel)
theorem dX12_opens_1 : decode cX12_opens 1 = .ok (.getfield 256, 3) := dq_180 (a := 1) (b := 0) (by decide +kernel) rfl
theorem dX12_opens_4 : decode cX12_opens 4 = .ok (.bipush 6, 2) := dq_16 (a := 6) (by decide +kernel) (by decide +kernel)
theorem dX12_opens_6 : decode cX12_opens 6 = .ok (.if_icmp .ne 10, 3) := dq_160 (a := 0) (b := 10) (by decide +kernel) (by decide +kernel)
theorem dX12_opens_16 : decode cX12_opens 16 = .ok (.aload_n 0, 1) := dq_42 (by decide +kernel)
theorem dX12_opens_17 : decode cX12_opens 17 = .ok (.dup, 1) := dq_89 (by decide +kernel)
theorem dX12_opens_18 : decode cX12_opens 18 = .ok (.getfield 256, 3) := dq_180 (a := 1) (b := 0) (by decide +kernel) rfl
theorem dX12_opens_21 : decode cX12_opens 21 = .ok (.iconst 1, 1) := dq_4 (by decide +kernel)
theorem dX12_opens_22 : decode cX12_opens 22 = .ok (.iadd, 1) := dq_96 (by decide +kernel)
theorem dX12_opens_23 : decode cX12_opens 23 = .ok (.putfield 256, 3) := dq_181 (a := 1) (b := 0) (by decide +kernel) rfl
theorem dX12_opens_26 : decode cX12_opens 26 = .ok (.aload_n 0, 1) := dq_42 (by decide +kernel)
theorem dX12_opens_27 : decode cX12_opens 27 = .ok (.getfield 78, 3) := dq_180 (a := 0) (b := 78) (by decide +kernel) rfl
theorem dX12_opens_30 : decode cX12_opens 30 = .ok (.aload_n 0, 1) := dq_42 (by decide +kernel)
theorem dX12_opens_31 : decode cX12_opens 31 = .ok (.getfield 259, 3) := dq_180 (a := 1) (b := 3) (by decide +kernel) rfl
theorem dX12_opens_34 : decode cX12_opens 34 = .ok (.iload_n 1, 1) := dq_27 (by decide +kernel)
theorem dX12_opens_35 : decode cX12_opens 35 = .ok (.iastore, 1) := dq_79 (by decide +kernel)
theorem dX12_opens_36 : decode cX12_opens 36 = .ok (.aload_n 0, 1) := dq_42 (by decide +kernel)
theorem dX12_opens_37 : decode cX12_opens 37 = .ok (.dup, 1) := dq_89 (by decide +kernel)
theorem dX12_opens_38 : decode cX12_opens 38 = .ok (.getfield 259, 3) := dq_180 (a := 1) (b := 3) (by decide +kernel) rfl
theorem dX12_opens_41 : decode cX12_opens 41 = .ok (.iconst 1, 1) := dq_4 (by decide +kernel)
theorem dX12_opens_42 : decode cX12_opens 42 = .ok (.iadd, 1) := dq_96 (by decide +kernel)
theorem dX12_opens_43 : decode cX12_opens 43 = .ok (.putfield 259, 3) := dq_181 (a := 1) (b := 3) (by decide +kernel) rfl
theorem dX12_opens_46 : decode cX12_opens 46 = .ok (.return_, 1) := dq_177 (by decide +kernel)
theorem dX12_opens_9 : decode cX12_opens 9 = .ok (.aload_n 0, 1) := dq_42 (by decide +kernel)
theorem dX12_opens_10 : decode cX12_opens 10 = .ok (.iconst 3, 1) := dq_6 (by decide +kernel)
theorem dX12_opens_11 : decode cX12_opens 11 = .ok (.iload_n 2, 1) := dq_28 (by decide +kernel)
theorem dX12_opens_12 : decode cX12_opens 12 = .ok (.invokevirtual 181, 3) := dq_182 (a := 0) (b := 181) (by decide +kernel) rfl
theorem dX12_opens_15 : decode cX12_opens 15 = .ok (.return_, 1) := dq_177 (by decide +kernel)
theorem dX12_onePart_82 : decode cX12_onePart 82 = .ok (.aload_n 0, 1) := dq_42 (by decide +kernel)
theorem dX12_onePart_83 : decode cX12_onePart 83 = .ok (.aload_n 0, 1) := dq_42 (by decide +kernel)
theorem dX12_onePart_84 : decode cX12_onePart 84 = .ok (.getfield 60, 3) := dq_180 (a := 0) (b := 60) (by decide +kernel) rfl
theorem dX12_onePart_87 : decode cX12_onePart 87 = .ok (.invokevirtual 212, 3) := dq_182 (a := 0) (b := 212) (by decide +kernel) rfl
theorem dX12_onePart_125 : decode cX12_onePart 125 = .ok (.bipush 22, 2) := dq_16 (a := 22) (by decide +kernel) (by decide +kernel)
theorem dX12_onePart_58 : decode cX12_onePart 58 = .ok (.aload_n 0, 1) := dq_42 (by decide +kernel)
theorem dX12_onePart_59 : decode cX12_onePart 59 = .ok (.aload_n 0, 1) := dq_42 (by decide +kernel)
theorem dX12_onePart_60 : decode cX12_onePart 60 = .ok (.getfield 60, 3) := dq_180 (a := 0) (b := 60) (by decide +kernel) rfl
theorem dX12_onePart_63 : decode cX12_onePart 63 = .ok (.invokevirtual 174, 3) := dq_182 (a := 0) (b := 174) (by decide +kernel) rfl
theorem dX12_onePart_66 : decode cX12_onePart 66 = .ok (.ifCond .eq 75, 3) := dq_153 (a := 0) (b := 75) (by decide +kernel) (by decide +kernel)
theorem dX12_onePart_141 : decode cX12_onePart 141 = .ok (.iconst 0, 1) := dq_3 (by decide +kernel)
theorem dX12_onePart_142 : decode cX12_onePart 142 = .ok (.istore_n 1, 1) := dq_60 (by decide +kernel)
theorem dX12_onePart_24 : decode cX12_onePart 24 = .ok (.aload_n 0, 1) := dq_42 (by decide +kernel)
theorem dX12_onePart_25 : decode cX12_onePart 25 = .ok (.bipush 20, 2) := dq_16 (a := 20) (by decide +kernel) (by decide +kernel)
theorem dX12_onePart_27 : decode cX12_onePart 27 = .ok (.aload_n 0, 1) := dq_42 (by decide +kernel)
theorem dX12_onePart_28 : decode cX12_onePart 28 = .ok (.getfield 157, 3) := dq_180 (a := 0) (b := 157) (by decide +kernel) rfl
theorem dX12_onePart_31 : decode cX12_onePart 31 = .ok (.invokevirtual 274, 3) := dq_182 (a := 1) (b := 18) (by decide +kernel) rfl
theorem dX12_onePart_34 : decode cX12_onePart 34 = .ok (.aload_n 0, 1) := dq_42 (by decide +kernel)
theorem dX12_onePart_35 : decode cX12_onePart 35 = .ok (.dup, 1) := dq_89 (by decide +kernel)
theorem dX12_onePart_36 : decode cX12_onePart 36 = .ok (.getfield 157, 3) := dq_180 (a := 0) (b := 157) (by decide +kernel) rfl
theorem dX12_onePart_39 : decode cX12_onePart 39 = .ok (.iconst 1, 1) := dq_4 (by decide +kernel)
theorem dX12_onePart_40 : decode cX12_onePart 40 = .ok (.iadd, 1) := dq_96 (by decide +kernel)
theorem dX12_onePart_41 : decode cX12_onePart 41 = .ok (.putfield 157, 3) := dq_181 (a := 0) (b := 157) (by decide +kernel) rfl
theorem dX12_onePart_44 : decode cX12_onePart 44 = .ok (.goto 99, 3) := dq_167 (a := 0) (b := 99) (by decide +kernel) (by decide +kernel)
theorem dX12_rowTold_0 : decode cX12_rowTold 0 = .ok (.aload_n 0, 1) := dq_42 (by decide +kernel)
theorem dX12_rowTold_1 : decode cX12_rowTold 1 = .ok (.getfield 151, 3) := dq_180 (a := 0) (b := 151) (by decide +kernel) rfl
theorem dX12_rowTold_4 : decode cX12_rowTold 4 = .ok (.ifCond .ne 24, 3) := dq_154 (a := 0) (b := 24) (by decide +kernel) (by decide +kernel)
theorem dX12_rowTold_28 : decode cX12_rowTold 28 = .ok (.aload_n 0, 1) := dq_42 (by decide +kernel)
theorem dX12_rowTold_29 : decode cX12_rowTold 29 = .ok (.getfield 151, 3) := dq_180 (a := 0) (b := 151) (by decide +kernel) rfl
theorem dX12_rowTold_32 : decode cX12_rowTold 32 = .ok (.ifCond .eq 4, 3) := dq_153 (a := 0) (b := 4) (by decide +kernel) (by decide +kernel)
theorem dX12_rowTold_36 : decode cX12_rowTold 36 = .ok (.iconst 0, 1) := dq_3 (by decide +kernel)
theorem dX12_rowTold_37 : decode cX12_rowTold 37 = .ok (.istore_n 2, 1) := dq_61 (by decide +kernel)
theorem dX12_rowTold_38 : decode cX12_rowTold 38 = .ok (.iload_n 2, 1) := dq_28 (by decide +kernel)
theorem dX12_rowTold_39 : decode cX12_rowTold 39 = .ok (.aload_n 0, 1) := dq_42 (by decide +kernel)
theorem dX12_rowTold_40 : decode cX12_rowTold 40 = .ok (.getfield 66, 3) := dq_180 (a := 0) (b := 66) (by decide +kernel) rfl
theorem dX12_rowTold_43 : decode cX12_rowTold 43 = .ok (.iconst 1, 1) := dq_4 (by decide +kernel)
theorem dX12_rowTold_44 : decode cX12_rowTold 44 = .ok (.iaload, 1) := dq_46 (by decide +kernel)
theorem dX12_rowTold_45 : decode cX12_rowTold 45 = .ok (.if_icmp .ge 34, 3) := dq_162 (a := 0) (b := 34) (by decide +kernel) (by decide +kernel)
theorem dX12_rowTold_79 : decode cX12_rowTold 79 = .ok (.aload_n 0, 1) := dq_42 (by decide +kernel)
theorem dX12_rowTold_80 : decode cX12_rowTold 80 = .ok (.getfield 66, 3) := dq_180 (a := 0) (b := 66) (by decide +kernel) rfl
theorem dX12_rowTold_83 : decode cX12_rowTold 83 = .ok (.iconst 3, 1) := dq_6 (by decide +kernel)
theorem dX12_rowTold_84 : decode cX12_rowTold 84 = .ok (.dup2, 1) := dq_92 (by decide +kernel)
theorem dX12_rowTold_85 : decode cX12_rowTold 85 = .ok (.iaload, 1) := dq_46 (by decide +kernel)
theorem dX12_rowTold_86 : decode cX12_rowTold 86 = .ok (.iconst 1, 1) := dq_4 (by decide +kernel)
theorem dX12_rowTold_87 : decode cX12_rowTold 87 = .ok (.iadd, 1) := dq_96 (by decide +kernel)
theorem dX12_rowTold_88 : decode cX12_rowTold 88 = .ok (.iastore, 1) := dq_79 (by decide +kernel)
theorem dX12_rowTold_89 : decode cX12_rowTold 89 = .ok (.return_, 1) := dq_177 (by decide +kernel)
theorem dX12_rowTold_48 : decode cX12_rowTold 48 = .ok (.aload_n 0, 1) := dq_42 (by decide +kernel)
theorem dX12_rowTold_49 : decode cX12_rowTold 49 = .ok (.getfield 69, 3) := dq_180 (a := 0) (b := 69) (by decide +kernel) rfl
theorem dX12_rowTold_52 : decode cX12_rowTold 52 = .ok (.bipush 30, 2) := dq_16 (a := 30) (by decide +kernel) (by decide +kernel)
theorem dX12_rowTold_54 : decode cX12_rowTold 54 = .ok (.iconst 5, 1) := dq_8 (by decide +kernel)
theorem dX12_rowTold_55 : decode cX12_rowTold 55 = .ok (.aload_n 0, 1) := dq_42 (by decide +kernel)
theorem dX12_rowTold_56 : decode cX12_rowTold 56 = .ok (.getfield 66, 3) := dq_180 (a := 0) (b := 66) (by decide +kernel) rfl
theorem dX12_rowTold_59 : decode cX12_rowTold 59 = .ok (.iconst 3, 1) := dq_6 (by decide +kernel)
theorem dX12_rowTold_60 : decode cX12_rowTold 60 = .ok (.iaload, 1) := dq_46 (by decide +kernel)
theorem dX12_rowTold_61 : decode cX12_rowTold 61 = .ok (.imul, 1) := dq_104 (by decide +kernel)
theorem dX12_rowTold_62 : decode cX12_rowTold 62 = .ok (.iadd, 1) := dq_96 (by decide +kernel)
theorem dX12_rowTold_63 : decode cX12_rowTold 63 = .ok (.iload_n 2, 1) := dq_28 (by decide +kernel)
theorem dX12_rowTold_64 : decode cX12_rowTold 64 = .ok (.iadd, 1) := dq_96 (by decide +kernel)
theorem dX12_rowTold_65 : decode cX12_rowTold 65 = .ok (.aload_n 0, 1) := dq_42 (by decide +kernel)
theorem dX12_rowTold_66 : decode cX12_rowTold 66 = .ok (.bipush 99, 2) := dq_16 (a := 99) (by decide +kernel) (by decide +kernel)
theorem dX12_rowTold_68 : decode cX12_rowTold 68 = .ok (.iconst 1, 1) := dq_4 (by decide +kernel)
theorem dX12_rowTold_69 : decode cX12_rowTold 69 = .ok (.invokevirtual 199, 3) := dq_182 (a := 0) (b := 199) (by decide +kernel) rfl
theorem dX12_signed_0 : decode cX12_signed 0 = .ok (.aload_n 0, 1) := dq_42 (by decide +kernel)
theorem dX12_signed_1 : decode cX12_signed 1 = .ok (.getfield 151, 3) := dq_180 (a := 0) (b := 151) (by decide +kernel) rfl
theorem dX12_signed_4 : decode cX12_signed 4 = .ok (.ifCond .eq 5, 3) := dq_153 (a := 0) (b := 5) (by decide +kernel) (by decide +kernel)
theorem dX12_signed_9 : decode cX12_signed 9 = .ok (.aload_n 0, 1) := dq_42 (by decide +kernel)
theorem dX12_signed_10 : decode cX12_signed 10 = .ok (.invokevirtual 163, 3) := dq_182 (a := 0) (b := 163) (by decide +kernel) rfl
theorem dX12_signed_13 : decode cX12_signed 13 = .ok (.bipush 45, 2) := dq_16 (a := 45) (by decide +kernel) (by decide +kernel)
theorem dX12_signed_15 : decode cX12_signed 15 = .ok (.if_icmp .ne 7, 3) := dq_160 (a := 0) (b := 7) (by decide +kernel) (by decide +kernel)
theorem dX12_signed_22 : decode cX12_signed 22 = .ok (.iconst 0, 1) := dq_3 (by decide +kernel)
theorem dX12_signed_23 : decode cX12_signed 23 = .ok (.istore_n 3, 1) := dq_62 (by decide +kernel)
theorem dX12_signed_24 : decode cX12_signed 24 = .ok (.aload_n 0, 1) := dq_42 (by decide +kernel)
theorem dX12_signed_25 : decode cX12_signed 25 = .ok (.getfield 157, 3) := dq_180 (a := 0) (b := 157) (by decide +kernel) rfl
theorem dX12_signed_28 : decode cX12_signed 28 = .ok (.istore 4, 2) := dq_54 (a := 4) (by decide +kernel) rfl
theorem dX12_signed_30 : decode cX12_signed 30 = .ok (.iload_n 3, 1) := dq_29 (by decide +kernel)
theorem dX12_signed_31 : decode cX12_signed 31 = .ok (.ifCond .eq 13, 3) := dq_153 (a := 0) (b := 13) (by decide +kernel) (by decide +kernel)
theorem dX12_signed_44 : decode cX12_signed 44 = .ok (.aload_n 0, 1) := dq_42 (by decide +kernel)
theorem dX12_signed_45 : decode cX12_signed 45 = .ok (.iconst 0, 1) := dq_3 (by decide +kernel)
theorem dX12_signed_46 : decode cX12_signed 46 = .ok (.sipush 9999, 3) := dq_17 (a := 39) (b := 15) (by decide +kernel) (by decide +kernel)
theorem dX12_signed_49 : decode cX12_signed 49 = .ok (.invokevirtual 195, 3) := dq_182 (a := 0) (b := 195) (by decide +kernel) rfl
theorem dX12_signed_52 : decode cX12_signed 52 = .ok (.istore 5, 2) := dq_54 (a := 5) (by decide +kernel) rfl
theorem dX12_signed_54 : decode cX12_signed 54 = .ok (.iload_n 3, 1) := dq_29 (by decide +kernel)
theorem dX12_signed_55 : decode cX12_signed 55 = .ok (.ifCond .eq 8, 3) := dq_153 (a := 0) (b := 8) (by decide +kernel) (by decide +kernel)
theorem dX12_signed_63 : decode cX12_signed 63 = .ok (.aload_n 0, 1) := dq_42 (by decide +kernel)
theorem dX12_signed_64 : decode cX12_signed 64 = .ok (.getfield 151, 3) := dq_180 (a := 0) (b := 151) (by decide +kernel) rfl
theorem dX12_signed_67 : decode cX12_signed 67 = .ok (.ifCond .ne 38, 3) := dq_154 (a := 0) (b := 38) (by decide +kernel) (by decide +kernel)
theorem dX12_signed_105 : decode cX12_signed 105 = .ok (.iload 5, 2) := dq_21 (a := 5) (by decide +kernel) rfl
theorem dX12_signed_107 : decode cX12_signed 107 = .ok (.ireturn, 1) := dq_172 (by decide +kernel)
theorem dX12_signed_70 : decode cX12_signed 70 = .ok (.iload 5, 2) := dq_21 (a := 5) (by decide +kernel) rfl
theorem dX12_signed_72 : decode cX12_signed 72 = .ok (.i2l, 1) := dq_133 (by decide +kernel)
theorem dX12_signed_73 : decode cX12_signed 73 = .ok (.iload_n 1, 1) := dq_27 (by decide +kernel)
theorem dX12_signed_74 : decode cX12_signed 74 = .ok (.ineg, 1) := dq_116 (by decide +kernel)
theorem dX12_signed_75 : decode cX12_signed 75 = .ok (.i2l, 1) := dq_133 (by decide +kernel)
theorem dX12_signed_76 : decode cX12_signed 76 = .ok (.iload_n 1, 1) := dq_27 (by decide +kernel)
theorem dX12_signed_77 : decode cX12_signed 77 = .ok (.i2l, 1) := dq_133 (by decide +kernel)
theorem dX12_signed_78 : decode cX12_signed 78 = .ok (.invokestatic 191, 3) := dq_184 (a := 0) (b := 191) (by decide +kernel) rfl
theorem dX12_signed_81 : decode cX12_signed 81 = .ok (.ifCond .eq 17, 3) := dq_153 (a := 0) (b := 17) (by decide +kernel) (by decide +kernel)
theorem dX12_signed_98 : decode cX12_signed 98 = .ok (.aload_n 0, 1) := dq_42 (by decide +kernel)
theorem dX12_signed_99 : decode cX12_signed 99 = .ok (.iconst 2, 1) := dq_5 (by decide +kernel)
theorem dX12_signed_100 : decode cX12_signed 100 = .ok (.iload 4, 2) := dq_21 (a := 4) (by decide +kernel) rfl
theorem dX12_signed_102 : decode cX12_signed 102 = .ok (.invokevirtual 181, 3) := dq_182 (a := 0) (b := 181) (by decide +kernel) rfl
theorem dX12_signed_84 : decode cX12_signed 84 = .ok (.iload_n 2, 1) := dq_28 (by decide +kernel)
theorem dX12_signed_85 : decode cX12_signed 85 = .ok (.iconst 2, 1) := dq_5 (by decide +kernel)
theorem dX12_signed_86 : decode cX12_signed 86 = .ok (.if_icmp .ne 19, 3) := dq_160 (a := 0) (b := 19) (by decide +kernel) (by decide +kernel)
theorem dX12_signed_89 : decode cX12_signed 89 = .ok (.iload 5, 2) := dq_21 (a := 5) (by decide +kernel) rfl
theorem dX12_signed_91 : decode cX12_signed 91 = .ok (.iload_n 1, 1) := dq_27 (by decide +kernel)
theorem dX12_signed_92 : decode cX12_signed 92 = .ok (.iadd, 1) := dq_96 (by decide +kernel)
theorem dX12_signed_93 : decode cX12_signed 93 = .ok (.iconst 2, 1) := dq_5 (by decide +kernel)
theorem dX12_signed_94 : decode cX12_signed 94 = .ok (.irem, 1) := dq_112 (by decide +kernel)
theorem dX12_signed_95 : decode cX12_signed 95 = .ok (.ifCond .eq 10, 3) := dq_153 (a := 0) (b := 10) (by decide +kernel) (by decide +kernel)
theorem dX12_signed_18 : decode cX12_signed 18 = .ok (.iconst 1, 1) := dq_4 (by decide +kernel)
theorem dX12_signed_19 : decode cX12_signed 19 = .ok (.goto 4, 3) := dq_167 (a := 0) (b := 4) (by decide +kernel) (by decide +kernel)
theorem dX12_signed_34 : decode cX12_signed 34 = .ok (.aload_n 0, 1) := dq_42 (by decide +kernel)
theorem dX12_signed_35 : decode cX12_signed 35 = .ok (.dup, 1) := dq_89 (by decide +kernel)
theorem dX12_signed_36 : decode cX12_signed 36 = .ok (.getfield 157, 3) := dq_180 (a := 0) (b := 157) (by decide +kernel) rfl
theorem dX12_signed_39 : decode cX12_signed 39 = .ok (.iconst 1, 1) := dq_4 (by decide +kernel)
theorem lw_d_cX12_has_1 : lw_dl cX12_has [(1, .tableswitch 107 0 9 #[55, 60, 65, 70, 75, 80, 87, 92, 97, 102], 55)] = true := by decide +kernel
theorem dX12_has_1 : decode cX12_has 1 = .ok (.tableswitch 107 0 9 #[55, 60, 65, 70, 75, 80, 87, 92, 97, 102], 55) := lw_dr lw_d_cX12_has_1 0 rfl
theorem dX12_signed_40 : decode cX12_signed 40 = .ok (.iadd, 1) := dq_96 (by decide +kernel)
theorem dX12_signed_41 : decode cX12_signed 41 = .ok (.putfield 157, 3) := dq_181 (a := 0) (b := 157) (by decide +kernel) rfl
theorem dX12_signed_58 : decode cX12_signed 58 = .ok (.iload 5, 2) := dq_21 (a := 5) (by decide +kernel) rfl
theorem dX12_signed_60 : decode cX12_signed 60 = .ok (.ineg, 1) := dq_116 (by decide +kernel)
theorem dX12_signed_61 : decode cX12_signed 61 = .ok (.istore 5, 2) := dq_54 (a := 5) (by decide +kernel) rfl
theorem dX12_signed_7 : decode cX12_signed 7 = .ok (.iconst 0, 1) := dq_3 (by decide +kernel)
theorem dX12_signed_8 : decode cX12_signed 8 = .ok (.ireturn, 1) := dq_172 (by decide +kernel)
theorem dX12_rowTold_72 : decode cX12_rowTold 72 = .ok (.iastore, 1) := dq_79 (by decide +kernel)
theorem dX12_rowTold_73 : decode cX12_rowTold 73 = .ok (.iinc 2 1, 3) := dq_132 (a := 2) (b := 1) (by decide +kernel) rfl (by decide +kernel)
theorem dX12_rowTold_76 : decode cX12_rowTold 76 = .ok (.goto (-38), 3) := dq_167 (a := 255) (b := 218) (by decide +kernel) (by decide +kernel)
theorem dX12_rowTold_35 : decode cX12_rowTold 35 = .ok (.return_, 1) := dq_177 (by decide +kernel)
theorem dX12_rowTold_7 : decode cX12_rowTold 7 = .ok (.aload_n 0, 1) := dq_42 (by decide +kernel)
theorem dX12_rowTold_8 : decode cX12_rowTold 8 = .ok (.getfield 66, 3) := dq_180 (a := 0) (b := 66) (by decide +kernel) rfl
theorem dX12_rowTold_11 : decode cX12_rowTold 11 = .ok (.iconst 3, 1) := dq_6 (by decide +kernel)
theorem dX12_rowTold_12 : decode cX12_rowTold 12 = .ok (.iaload, 1) := dq_46 (by decide +kernel)
theorem dX12_rowTold_13 : decode cX12_rowTold 13 = .ok (.aload_n 0, 1) := dq_42 (by decide +kernel)
theorem dX12_rowTold_14 : decode cX12_rowTold 14 = .ok (.getfield 66, 3) := dq_180 (a := 0) (b := 66) (by decide +kernel) rfl
theorem dX12_rowTold_17 : decode cX12_rowTold 17 = .ok (.iconst 2, 1) := dq_5 (by decide +kernel)
theorem dX12_rowTold_18 : decode cX12_rowTold 18 = .ok (.iaload, 1) := dq_46 (by decide +kernel)
theorem dX12_rowTold_19 : decode cX12_rowTold 19 = .ok (.if_icmp .ne 9, 3) := dq_160 (a := 0) (b := 9) (by decide +kernel) (by decide +kernel)
theorem dX12_rowTold_22 : decode cX12_rowTold 22 = .ok (.aload_n 0, 1) := dq_42 (by decide +kernel)
theorem dX12_rowTold_23 : decode cX12_rowTold 23 = .ok (.iconst 4, 1) := dq_7 (by decide +kernel)
theorem dX12_rowTold_24 : decode cX12_rowTold 24 = .ok (.iload_n 1, 1) := dq_27 (by decide +kernel)
theorem dX12_rowTold_25 : decode cX12_rowTold 25 = .ok (.invokevirtual 181, 3) := dq_182 (a := 0) (b := 181) (by decide +kernel) rfl
theorem dX12_wordTold_0 : decode cX12_wordTold 0 = .ok (.aload_n 0, 1) := dq_42 (by decide +kernel)
theorem dX12_wordTold_1 : decode cX12_wordTold 1 = .ok (.getfield 151, 3) := dq_180 (a := 0) (b := 151) (by decide +kernel) rfl
theorem dX12_wordTold_4 : decode cX12_wordTold 4 = .ok (.ifCond .ne 20, 3) := dq_154 (a := 0) (b := 20) (by decide +kernel) (by decide +kernel)
theorem dX12_wordTold_24 : decode cX12_wordTold 24 = .ok (.aload_n 0, 1) := dq_42 (by decide +kernel)
theorem dX12_wordTold_25 : decode cX12_wordTold 25 = .ok (.getfield 151, 3) := dq_180 (a := 0) (b := 151) (by decide +kernel) rfl
theorem dX12_wordTold_28 : decode cX12_wordTold 28 = .ok (.ifCond .eq 4, 3) := dq_153 (a := 0) (b := 4) (by decide +kernel) (by decide +kernel)
theorem dX12_wordTold_32 : decode cX12_wordTold 32 = .ok (.iconst 0, 1) := dq_3 (by decide +kernel)
theorem dX12_wordTold_33 : decode cX12_wordTold 33 = .ok (.istore_n 2, 1) := dq_61 (by decide +kernel)
theorem dX12_wordTold_34 : decode cX12_wordTold 34 = .ok (.iload_n 2, 1) := dq_28 (by decide +kernel)
theorem dX12_wordTold_35 : decode cX12_wordTold 35 = .ok (.aload_n 0, 1) := dq_42 (by decide +kernel)
theorem dX12_wordTold_36 : decode cX12_wordTold 36 = .ok (.getfield 66, 3) := dq_180 (a := 0) (b := 66) (by decide +kernel) rfl
theorem dX12_wordTold_39 : decode cX12_wordTold 39 = .ok (.iconst 1, 1) := dq_4 (by decide +kernel)
theorem dX12_wordTold_40 : decode cX12_wordTold 40 = .ok (.iaload, 1) := dq_46 (by decide +kernel)
theorem dX12_wordTold_41 : decode cX12_wordTold 41 = .ok (.if_icmp .ge 40, 3) := dq_162 (a := 0) (b := 40) (by decide +kernel) (by decide +kernel)
theorem dX12_wordTold_81 : decode cX12_wordTold 81 = .ok (.aload_n 0, 1) := dq_42 (by decide +kernel)
theorem dX12_wordTold_82 : decode cX12_wordTold 82 = .ok (.getfield 66, 3) := dq_180 (a := 0) (b := 66) (by decide +kernel) rfl
theorem dX12_wordTold_85 : decode cX12_wordTold 85 = .ok (.iconst 4, 1) := dq_7 (by decide +kernel)
theorem dX12_wordTold_86 : decode cX12_wordTold 86 = .ok (.dup2, 1) := dq_92 (by decide +kernel)
theorem dX12_wordTold_87 : decode cX12_wordTold 87 = .ok (.iaload, 1) := dq_46 (by decide +kernel)
theorem dX12_wordTold_88 : decode cX12_wordTold 88 = .ok (.iconst 1, 1) := dq_4 (by decide +kernel)
theorem dX12_wordTold_89 : decode cX12_wordTold 89 = .ok (.iadd, 1) := dq_96 (by decide +kernel)
theorem dX12_wordTold_90 : decode cX12_wordTold 90 = .ok (.iastore, 1) := dq_79 (by decide +kernel)
theorem dX12_wordTold_91 : decode cX12_wordTold 91 = .ok (.return_, 1) := dq_177 (by decide +kernel)
theorem dX12_wordTold_44 : decode cX12_wordTold 44 = .ok (.aload_n 0, 1) := dq_42 (by decide +kernel)
theorem dX12_wordTold_45 : decode cX12_wordTold 45 = .ok (.getfield 72, 3) := dq_180 (a := 0) (b := 72) (by decide +kernel) rfl
theorem dX12_wordTold_48 : decode cX12_wordTold 48 = .ok (.bipush 80, 2) := dq_16 (a := 80) (by decide +kernel) (by decide +kernel)
theorem dX12_wordTold_50 : decode cX12_wordTold 50 = .ok (.iconst 5, 1) := dq_8 (by decide +kernel)
theorem dX12_wordTold_51 : decode cX12_wordTold 51 = .ok (.aload_n 0, 1) := dq_42 (by decide +kernel)
theorem dX12_wordTold_52 : decode cX12_wordTold 52 = .ok (.getfield 66, 3) := dq_180 (a := 0) (b := 66) (by decide +kernel) rfl
theorem dX12_wordTold_55 : decode cX12_wordTold 55 = .ok (.iconst 4, 1) := dq_7 (by decide +kernel)
theorem dX12_wordTold_56 : decode cX12_wordTold 56 = .ok (.iaload, 1) := dq_46 (by decide +kernel)
theorem dX12_wordTold_57 : decode cX12_wordTold 57 = .ok (.imul, 1) := dq_104 (by decide +kernel)
theorem dX12_wordTold_58 : decode cX12_wordTold 58 = .ok (.iadd, 1) := dq_96 (by decide +kernel)
theorem dX12_wordTold_59 : decode cX12_wordTold 59 = .ok (.iload_n 2, 1) := dq_28 (by decide +kernel)
theorem dX12_wordTold_60 : decode cX12_wordTold 60 = .ok (.iadd, 1) := dq_96 (by decide +kernel)
theorem dX12_wordTold_61 : decode cX12_wordTold 61 = .ok (.aload_n 0, 1) := dq_42 (by decide +kernel)
theorem dX12_wordTold_62 : decode cX12_wordTold 62 = .ok (.aload_n 0, 1) := dq_42 (by decide +kernel)
theorem dX12_wordTold_63 : decode cX12_wordTold 63 = .ok (.getfield 66, 3) := dq_180 (a := 0) (b := 66) (by decide +kernel) rfl
theorem dX12_wordTold_66 : decode cX12_wordTold 66 = .ok (.iconst 0, 1) := dq_3 (by decide +kernel)
theorem dX12_wordTold_67 : decode cX12_wordTold 67 = .ok (.iaload, 1) := dq_46 (by decide +kernel)
theorem dX12_wordTold_68 : decode cX12_wordTold 68 = .ok (.iconst 1, 1) := dq_4 (by decide +kernel)
theorem dX12_wordTold_69 : decode cX12_wordTold 69 = .ok (.isub, 1) := dq_100 (by decide +kernel)
theorem dX12_wordTold_70 : decode cX12_wordTold 70 = .ok (.iconst 2, 1) := dq_5 (by decide +kernel)
theorem dX12_wordTold_71 : decode cX12_wordTold 71 = .ok (.invokevirtual 199, 3) := dq_182 (a := 0) (b := 199) (by decide +kernel) rfl
theorem dX12_wordTold_74 : decode cX12_wordTold 74 = .ok (.iastore, 1) := dq_79 (by decide +kernel)
theorem dX12_wordTold_75 : decode cX12_wordTold 75 = .ok (.iinc 2 1, 3) := dq_132 (a := 2) (b := 1) (by decide +kernel) rfl (by decide +kernel)
theorem dX12_wordTold_78 : decode cX12_wordTold 78 = .ok (.goto (-44), 3) := dq_167 (a := 255) (b := 212) (by decide +kernel) (by decide +kernel)
theorem dX12_wordTold_31 : decode cX12_wordTold 31 = .ok (.return_, 1) := dq_177 (by decide +kernel)
theorem dX12_wordTold_7 : decode cX12_wordTold 7 = .ok (.aload_n 0, 1) := dq_42 (by decide +kernel)
theorem dX12_wordTold_8 : decode cX12_wordTold 8 = .ok (.getfield 66, 3) := dq_180 (a := 0) (b := 66) (by decide +kernel) rfl
theorem dX12_wordTold_11 : decode cX12_wordTold 11 = .ok (.iconst 4, 1) := dq_7 (by decide +kernel)
theorem dX12_wordTold_12 : decode cX12_wordTold 12 = .ok (.iaload, 1) := dq_46 (by decide +kernel)
theorem dX12_wordTold_13 : decode cX12_wordTold 13 = .ok (.bipush 16, 2) := dq_16 (a := 16) (by decide +kernel) (by decide +kernel)
theorem dX12_wordTold_15 : decode cX12_wordTold 15 = .ok (.if_icmp .ne 9, 3) := dq_160 (a := 0) (b := 9) (by decide +kernel) (by decide +kernel)
theorem dX12_wordTold_18 : decode cX12_wordTold 18 = .ok (.aload_n 0, 1) := dq_42 (by decide +kernel)
theorem dX12_wordTold_19 : decode cX12_wordTold 19 = .ok (.iconst 4, 1) := dq_7 (by decide +kernel)
theorem dX12_wordTold_20 : decode cX12_wordTold 20 = .ok (.iload_n 1, 1) := dq_27 (by decide +kernel)
theorem dX12_wordTold_21 : decode cX12_wordTold 21 = .ok (.invokevirtual 181, 3) := dq_182 (a := 0) (b := 181) (by decide +kernel) rfl
theorem dX12_goesOn_0 : decode cX12_goesOn 0 = .ok (.aload_n 0, 1) := dq_42 (by decide +kernel)
theorem dX12_goesOn_1 : decode cX12_goesOn 1 = .ok (.getfield 151, 3) := dq_180 (a := 0) (b := 151) (by decide +kernel) rfl
theorem dX12_goesOn_4 : decode cX12_goesOn 4 = .ok (.ifCond .ne 114, 3) := dq_154 (a := 0) (b := 114) (by decide +kernel) (by decide +kernel)
theorem dX12_goesOn_118 : decode cX12_goesOn 118 = .ok (.aload_n 0, 1) := dq_42 (by decide +kernel)
theorem dX12_goesOn_119 : decode cX12_goesOn 119 = .ok (.bipush 42, 2) := dq_16 (a := 42) (by decide +kernel) (by decide +kernel)
theorem dX12_goesOn_121 : decode cX12_goesOn 121 = .ok (.invokevirtual 185, 3) := dq_182 (a := 0) (b := 185) (by decide +kernel) rfl
theorem dX12_goesOn_124 : decode cX12_goesOn 124 = .ok (.ifCond .ne 12, 3) := dq_154 (a := 0) (b := 12) (by decide +kernel) (by decide +kernel)
theorem dX12_goesOn_136 : decode cX12_goesOn 136 = .ok (.aload_n 0, 1) := dq_42 (by decide +kernel)
theorem dX12_goesOn_137 : decode cX12_goesOn 137 = .ok (.getfield 7, 3) := dq_180 (a := 0) (b := 7) (by decide +kernel) rfl
theorem dX12_goesOn_140 : decode cX12_goesOn 140 = .ok (.aload_n 0, 1) := dq_42 (by decide +kernel)
theorem dX12_goesOn_141 : decode cX12_goesOn 141 = .ok (.getfield 157, 3) := dq_180 (a := 0) (b := 157) (by decide +kernel) rfl
theorem dX12_goesOn_144 : decode cX12_goesOn 144 = .ok (.iconst 1, 1) := dq_4 (by decide +kernel)
theorem dX12_goesOn_145 : decode cX12_goesOn 145 = .ok (.isub, 1) := dq_100 (by decide +kernel)
theorem dX12_goesOn_146 : decode cX12_goesOn 146 = .ok (.iaload, 1) := dq_46 (by decide +kernel)
theorem dX12_goesOn_147 : decode cX12_goesOn 147 = .ok (.bipush 42, 2) := dq_16 (a := 42) (by decide +kernel) (by decide +kernel)
theorem dX12_goesOn_149 : decode cX12_goesOn 149 = .ok (.if_icmp .ne 7, 3) := dq_160 (a := 0) (b := 7) (by decide +kernel) (by decide +kernel)
theorem dX12_goesOn_156 : decode cX12_goesOn 156 = .ok (.iconst 4, 1) := dq_7 (by decide +kernel)
theorem dX12_goesOn_157 : decode cX12_goesOn 157 = .ok (.istore_n 1, 1) := dq_60 (by decide +kernel)
theorem dX12_goesOn_158 : decode cX12_goesOn 158 = .ok (.aload_n 0, 1) := dq_42 (by decide +kernel)
theorem dX12_goesOn_159 : decode cX12_goesOn 159 = .ok (.iconst 3, 1) := dq_6 (by decide +kernel)
theorem dX12_goesOn_160 : decode cX12_goesOn 160 = .ok (.invokevirtual 283, 3) := dq_182 (a := 1) (b := 27) (by decide +kernel) rfl
theorem dX12_isOn_0 : decode cX12_isOn 0 = .ok (.aload_n 0, 1) := dq_42 (by decide +kernel)
theorem dX12_isOn_1 : decode cX12_isOn 1 = .ok (.getfield 259, 3) := dq_180 (a := 1) (b := 3) (by decide +kernel) rfl
theorem dX12_isOn_4 : decode cX12_isOn 4 = .ok (.ifCond .le 22, 3) := dq_158 (a := 0) (b := 22) (by decide +kernel) (by decide +kernel)
theorem dX12_isOn_26 : decode cX12_isOn 26 = .ok (.iconst 0, 1) := dq_3 (by decide +kernel)
theorem dX12_isOn_27 : decode cX12_isOn 27 = .ok (.ireturn, 1) := dq_172 (by decide +kernel)
theorem dX12_isOn_7 : decode cX12_isOn 7 = .ok (.aload_n 0, 1) := dq_42 (by decide +kernel)
theorem dX12_isOn_8 : decode cX12_isOn 8 = .ok (.getfield 78, 3) := dq_180 (a := 0) (b := 78) (by decide +kernel) rfl
theorem dX12_isOn_11 : decode cX12_isOn 11 = .ok (.aload_n 0, 1) := dq_42 (by decide +kernel)
theorem dX12_isOn_12 : decode cX12_isOn 12 = .ok (.getfield 259, 3) := dq_180 (a := 1) (b := 3) (by decide +kernel) rfl
theorem dX12_isOn_15 : decode cX12_isOn 15 = .ok (.iconst 1, 1) := dq_4 (by decide +kernel)
theorem dX12_isOn_16 : decode cX12_isOn 16 = .ok (.isub, 1) := dq_100 (by decide +kernel)
theorem dX12_isOn_17 : decode cX12_isOn 17 = .ok (.iaload, 1) := dq_46 (by decide +kernel)
theorem dX12_isOn_18 : decode cX12_isOn 18 = .ok (.iload_n 1, 1) := dq_27 (by decide +kernel)
theorem dX12_isOn_19 : decode cX12_isOn 19 = .ok (.if_icmp .ne 7, 3) := dq_160 (a := 0) (b := 7) (by decide +kernel) (by decide +kernel)
theorem dX12_isOn_22 : decode cX12_isOn 22 = .ok (.iconst 1, 1) := dq_4 (by decide +kernel)
theorem dX12_isOn_23 : decode cX12_isOn 23 = .ok (.goto 4, 3) := dq_167 (a := 0) (b := 4) (by decide +kernel) (by decide +kernel)
theorem dX12_goesOn_163 : decode cX12_goesOn 163 = .ok (.ifCond .ne 11, 3) := dq_154 (a := 0) (b := 11) (by decide +kernel) (by decide +kernel)
theorem dX12_goesOn_174 : decode cX12_goesOn 174 = .ok (.aload_n 0, 1) := dq_42 (by decide +kernel)
theorem dX12_goesOn_175 : decode cX12_goesOn 175 = .ok (.invokevirtual 271, 3) := dq_182 (a := 1) (b := 15) (by decide +kernel) rfl
theorem dX12_drops_0 : decode cX12_drops 0 = .ok (.aload_n 0, 1) := dq_42 (by decide +kernel)
theorem dX12_drops_1 : decode cX12_drops 1 = .ok (.dup, 1) := dq_89 (by decide +kernel)
theorem dX12_drops_2 : decode cX12_drops 2 = .ok (.getfield 259, 3) := dq_180 (a := 1) (b := 3) (by decide +kernel) rfl
theorem dX12_drops_5 : decode cX12_drops 5 = .ok (.iconst 1, 1) := dq_4 (by decide +kernel)
theorem dX12_drops_6 : decode cX12_drops 6 = .ok (.isub, 1) := dq_100 (by decide +kernel)
theorem dX12_drops_7 : decode cX12_drops 7 = .ok (.putfield 259, 3) := dq_181 (a := 1) (b := 3) (by decide +kernel) rfl
theorem dX12_drops_10 : decode cX12_drops 10 = .ok (.aload_n 0, 1) := dq_42 (by decide +kernel)
theorem dX12_drops_11 : decode cX12_drops 11 = .ok (.aload_n 0, 1) := dq_42 (by decide +kernel)
theorem dX12_drops_12 : decode cX12_drops 12 = .ok (.getfield 78, 3) := dq_180 (a := 0) (b := 78) (by decide +kernel) rfl
theorem dX12_drops_15 : decode cX12_drops 15 = .ok (.aload_n 0, 1) := dq_42 (by decide +kernel)
theorem dX12_drops_16 : decode cX12_drops 16 = .ok (.getfield 259, 3) := dq_180 (a := 1) (b := 3) (by decide +kernel) rfl
theorem dX12_drops_19 : decode cX12_drops 19 = .ok (.iaload, 1) := dq_46 (by decide +kernel)
theorem dX12_drops_20 : decode cX12_drops 20 = .ok (.invokevirtual 262, 3) := dq_182 (a := 1) (b := 6) (by decide +kernel) rfl
theorem dX12_drops_23 : decode cX12_drops 23 = .ok (.return_, 1) := dq_177 (by decide +kernel)
theorem dX12_goesOn_178 : decode cX12_goesOn 178 = .ok (.goto (-20), 3) := dq_167 (a := 255) (b := 236) (by decide +kernel) (by decide +kernel)
theorem dX12_goesOn_166 : decode cX12_goesOn 166 = .ok (.aload_n 0, 1) := dq_42 (by decide +kernel)
theorem dX12_goesOn_167 : decode cX12_goesOn 167 = .ok (.iconst 4, 1) := dq_7 (by decide +kernel)
theorem dX12_goesOn_168 : decode cX12_goesOn 168 = .ok (.invokevirtual 283, 3) := dq_182 (a := 1) (b := 27) (by decide +kernel) rfl
theorem dX12_goesOn_171 : decode cX12_goesOn 171 = .ok (.ifCond .eq 10, 3) := dq_153 (a := 0) (b := 10) (by decide +kernel) (by decide +kernel)
theorem dX12_goesOn_181 : decode cX12_goesOn 181 = .ok (.aload_n 0, 1) := dq_42 (by decide +kernel)
theorem dX12_goesOn_182 : decode cX12_goesOn 182 = .ok (.getfield 78, 3) := dq_180 (a := 0) (b := 78) (by decide +kernel) rfl
theorem dX12_goesOn_185 : decode cX12_goesOn 185 = .ok (.aload_n 0, 1) := dq_42 (by decide +kernel)
theorem dX12_goesOn_186 : decode cX12_goesOn 186 = .ok (.getfield 259, 3) := dq_180 (a := 1) (b := 3) (by decide +kernel) rfl
theorem dX12_goesOn_189 : decode cX12_goesOn 189 = .ok (.iload_n 1, 1) := dq_27 (by decide +kernel)
theorem dX12_goesOn_190 : decode cX12_goesOn 190 = .ok (.iastore, 1) := dq_79 (by decide +kernel)
theorem dX12_goesOn_191 : decode cX12_goesOn 191 = .ok (.aload_n 0, 1) := dq_42 (by decide +kernel)
theorem dX12_goesOn_192 : decode cX12_goesOn 192 = .ok (.dup, 1) := dq_89 (by decide +kernel)
theorem dX12_goesOn_193 : decode cX12_goesOn 193 = .ok (.getfield 259, 3) := dq_180 (a := 1) (b := 3) (by decide +kernel) rfl
theorem dX12_goesOn_196 : decode cX12_goesOn 196 = .ok (.iconst 1, 1) := dq_4 (by decide +kernel)
theorem dX12_goesOn_197 : decode cX12_goesOn 197 = .ok (.iadd, 1) := dq_96 (by decide +kernel)
theorem dX12_goesOn_198 : decode cX12_goesOn 198 = .ok (.putfield 259, 3) := dq_181 (a := 1) (b := 3) (by decide +kernel) rfl
theorem dX12_goesOn_201 : decode cX12_goesOn 201 = .ok (.iconst 1, 1) := dq_4 (by decide +kernel)
theorem dX12_goesOn_202 : decode cX12_goesOn 202 = .ok (.ireturn, 1) := dq_172 (by decide +kernel)
theorem dX12_mark_0 : decode cX12_mark 0 = .ok (.aload_n 0, 1) := dq_42 (by decide +kernel)
theorem dX12_mark_1 : decode cX12_mark 1 = .ok (.getfield 259, 3) := dq_180 (a := 1) (b := 3) (by decide +kernel) rfl
theorem dX12_mark_4 : decode cX12_mark 4 = .ok (.iconst 1, 1) := dq_4 (by decide +kernel)
theorem dX12_mark_5 : decode cX12_mark 5 = .ok (.isub, 1) := dq_100 (by decide +kernel)
theorem dX12_mark_6 : decode cX12_mark 6 = .ok (.istore_n 1, 1) := dq_60 (by decide +kernel)
theorem dX12_mark_7 : decode cX12_mark 7 = .ok (.iload_n 1, 1) := dq_27 (by decide +kernel)
theorem dX12_mark_8 : decode cX12_mark 8 = .ok (.aload_n 0, 1) := dq_42 (by decide +kernel)
theorem dX12_mark_9 : decode cX12_mark 9 = .ok (.getfield 265, 3) := dq_180 (a := 1) (b := 9) (by decide +kernel) rfl
theorem dX12_mark_12 : decode cX12_mark 12 = .ok (.if_icmp .lt 22, 3) := dq_161 (a := 0) (b := 22) (by decide +kernel) (by decide +kernel)
theorem dX12_mark_34 : decode cX12_mark 34 = .ok (.iload_n 1, 1) := dq_27 (by decide +kernel)
theorem dX12_mark_35 : decode cX12_mark 35 = .ok (.aload_n 0, 1) := dq_42 (by decide +kernel)
theorem dX12_mark_36 : decode cX12_mark 36 = .ok (.getfield 265, 3) := dq_180 (a := 1) (b := 9) (by decide +kernel) rfl
theorem dX12_mark_39 : decode cX12_mark 39 = .ok (.if_icmp .lt 12, 3) := dq_161 (a := 0) (b := 12) (by decide +kernel) (by decide +kernel)
theorem dX12_mark_51 : decode cX12_mark 51 = .ok (.iconst (-1), 1) := dq_2 (by decide +kernel)
theorem dX12_mark_52 : decode cX12_mark 52 = .ok (.ireturn, 1) := dq_172 (by decide +kernel)
theorem dX12_mark_42 : decode cX12_mark 42 = .ok (.aload_n 0, 1) := dq_42 (by decide +kernel)
theorem dX12_mark_43 : decode cX12_mark 43 = .ok (.getfield 78, 3) := dq_180 (a := 0) (b := 78) (by decide +kernel) rfl
theorem dX12_mark_46 : decode cX12_mark 46 = .ok (.iload_n 1, 1) := dq_27 (by decide +kernel)
theorem dX12_mark_47 : decode cX12_mark 47 = .ok (.iaload, 1) := dq_46 (by decide +kernel)
theorem dX12_mark_48 : decode cX12_mark 48 = .ok (.goto 4, 3) := dq_167 (a := 0) (b := 4) (by decide +kernel) (by decide +kernel)
theorem dX12_mark_15 : decode cX12_mark 15 = .ok (.aload_n 0, 1) := dq_42 (by decide +kernel)
theorem dX12_mark_16 : decode cX12_mark 16 = .ok (.aload_n 0, 1) := dq_42 (by decide +kernel)
theorem dX12_mark_17 : decode cX12_mark 17 = .ok (.getfield 78, 3) := dq_180 (a := 0) (b := 78) (by decide +kernel) rfl
theorem dX12_mark_20 : decode cX12_mark 20 = .ok (.iload_n 1, 1) := dq_27 (by decide +kernel)
theorem dX12_mark_21 : decode cX12_mark 21 = .ok (.iaload, 1) := dq_46 (by decide +kernel)
theorem dX12_mark_22 : decode cX12_mark 22 = .ok (.invokevirtual 268, 3) := dq_182 (a := 1) (b := 12) (by decide +kernel) rfl
theorem dX12_isMark_0 : decode cX12_isMark 0 = .ok (.iload_n 1, 1) := dq_27 (by decide +kernel)
theorem dX12_isMark_1 : decode cX12_isMark 1 = .ok (.bipush 20, 2) := dq_16 (a := 20) (by decide +kernel) (by decide +kernel)
theorem dX12_isMark_3 : decode cX12_isMark 3 = .ok (.if_icmp .lt 13, 3) := dq_161 (a := 0) (b := 13) (by decide +kernel) (by decide +kernel)
theorem dX12_isMark_16 : decode cX12_isMark 16 = .ok (.iconst 0, 1) := dq_3 (by decide +kernel)
theorem dX12_isMark_17 : decode cX12_isMark 17 = .ok (.ireturn, 1) := dq_172 (by decide +kernel)
theorem dX12_isMark_6 : decode cX12_isMark 6 = .ok (.iload_n 1, 1) := dq_27 (by decide +kernel)
theorem dX12_isMark_7 : decode cX12_isMark 7 = .ok (.bipush 24, 2) := dq_16 (a := 24) (by decide +kernel) (by decide +kernel)
theorem dX12_isMark_9 : decode cX12_isMark 9 = .ok (.if_icmp .gt 7, 3) := dq_163 (a := 0) (b := 7) (by decide +kernel) (by decide +kernel)
theorem dX12_isMark_12 : decode cX12_isMark 12 = .ok (.iconst 1, 1) := dq_4 (by decide +kernel)
theorem dX12_isMark_13 : decode cX12_isMark 13 = .ok (.goto 4, 3) := dq_167 (a := 0) (b := 4) (by decide +kernel) (by decide +kernel)
theorem dX12_mark_25 : decode cX12_mark 25 = .ok (.ifCond .ne 9, 3) := dq_154 (a := 0) (b := 9) (by decide +kernel) (by decide +kernel)
theorem dX12_mark_28 : decode cX12_mark 28 = .ok (.iinc 1 (-1), 3) := dq_132 (a := 1) (b := 255) (by decide +kernel) rfl (by decide +kernel)
theorem dX12_mark_31 : decode cX12_mark 31 = .ok (.goto (-24), 3) := dq_167 (a := 255) (b := 232) (by decide +kernel) (by decide +kernel)
theorem dX12_dropsToMark_0 : decode cX12_dropsToMark 0 = .ok (.aload_n 0, 1) := dq_42 (by decide +kernel)
theorem dX12_dropsToMark_1 : decode cX12_dropsToMark 1 = .ok (.getfield 259, 3) := dq_180 (a := 1) (b := 3) (by decide +kernel) rfl
theorem dX12_dropsToMark_4 : decode cX12_dropsToMark 4 = .ok (.aload_n 0, 1) := dq_42 (by decide +kernel)
theorem dX12_dropsToMark_5 : decode cX12_dropsToMark 5 = .ok (.getfield 265, 3) := dq_180 (a := 1) (b := 9) (by decide +kernel) rfl
theorem dX12_dropsToMark_8 : decode cX12_dropsToMark 8 = .ok (.if_icmp .le 28, 3) := dq_164 (a := 0) (b := 28) (by decide +kernel) (by decide +kernel)
theorem dX12_dropsToMark_36 : decode cX12_dropsToMark 36 = .ok (.return_, 1) := dq_177 (by decide +kernel)
theorem dX12_dropsToMark_11 : decode cX12_dropsToMark 11 = .ok (.aload_n 0, 1) := dq_42 (by decide +kernel)
theorem dX12_dropsToMark_12 : decode cX12_dropsToMark 12 = .ok (.aload_n 0, 1) := dq_42 (by decide +kernel)
theorem dX12_dropsToMark_13 : decode cX12_dropsToMark 13 = .ok (.getfield 78, 3) := dq_180 (a := 0) (b := 78) (by decide +kernel) rfl
theorem dX12_dropsToMark_16 : decode cX12_dropsToMark 16 = .ok (.aload_n 0, 1) := dq_42 (by decide +kernel)
theorem dX12_dropsToMark_17 : decode cX12_dropsToMark 17 = .ok (.getfield 259, 3) := dq_180 (a := 1) (b := 3) (by decide +kernel) rfl
theorem dX12_dropsToMark_20 : decode cX12_dropsToMark 20 = .ok (.iconst 1, 1) := dq_4 (by decide +kernel)
theorem dX12_dropsToMark_21 : decode cX12_dropsToMark 21 = .ok (.isub, 1) := dq_100 (by decide +kernel)
theorem dX12_dropsToMark_22 : decode cX12_dropsToMark 22 = .ok (.iaload, 1) := dq_46 (by decide +kernel)
theorem dX12_dropsToMark_23 : decode cX12_dropsToMark 23 = .ok (.invokevirtual 268, 3) := dq_182 (a := 1) (b := 12) (by decide +kernel) rfl
theorem dX12_dropsToMark_26 : decode cX12_dropsToMark 26 = .ok (.ifCond .ne 10, 3) := dq_154 (a := 0) (b := 10) (by decide +kernel) (by decide +kernel)
theorem dX12_dropsToMark_29 : decode cX12_dropsToMark 29 = .ok (.aload_n 0, 1) := dq_42 (by decide +kernel)
theorem dX12_dropsToMark_30 : decode cX12_dropsToMark 30 = .ok (.invokevirtual 271, 3) := dq_182 (a := 1) (b := 15) (by decide +kernel) rfl
theorem dX12_dropsToMark_33 : decode cX12_dropsToMark 33 = .ok (.goto (-33), 3) := dq_167 (a := 255) (b := 223) (by decide +kernel) (by decide +kernel)
theorem dX12_test_0 : decode cX12_test 0 = .ok (.iconst 1, 1) := dq_4 (by decide +kernel)
theorem dX12_test_1 : decode cX12_test 1 = .ok (.istore_n 1, 1) := dq_60 (by decide +kernel)
theorem dX12_test_2 : decode cX12_test 2 = .ok (.iload_n 1, 1) := dq_27 (by decide +kernel)
theorem dX12_test_3 : decode cX12_test 3 = .ok (.ifCond .eq 107, 3) := dq_153 (a := 0) (b := 107) (by decide +kernel) (by decide +kernel)
theorem dX12_test_6 : decode cX12_test 6 = .ok (.aload_n 0, 1) := dq_42 (by decide +kernel)
theorem dX12_test_7 : decode cX12_test 7 = .ok (.getfield 151, 3) := dq_180 (a := 0) (b := 151) (by decide +kernel) rfl
theorem dX12_test_10 : decode cX12_test 10 = .ok (.ifCond .ne 100, 3) := dq_154 (a := 0) (b := 100) (by decide +kernel) (by decide +kernel)
theorem dX12_test_110 : decode cX12_test 110 = .ok (.aload_n 0, 1) := dq_42 (by decide +kernel)
theorem dX12_test_111 : decode cX12_test 111 = .ok (.getfield 151, 3) := dq_180 (a := 0) (b := 151) (by decide +kernel) rfl
theorem dX12_test_114 : decode cX12_test 114 = .ok (.ifCond .ne 17, 3) := dq_154 (a := 0) (b := 17) (by decide +kernel) (by decide +kernel)
theorem dX12_test_131 : decode cX12_test 131 = .ok (.return_, 1) := dq_177 (by decide +kernel)
theorem dX12_test_117 : decode cX12_test 117 = .ok (.aload_n 0, 1) := dq_42 (by decide +kernel)
theorem dX12_test_118 : decode cX12_test 118 = .ok (.getfield 259, 3) := dq_180 (a := 1) (b := 3) (by decide +kernel) rfl
theorem dX12_test_121 : decode cX12_test 121 = .ok (.ifCond .le 10, 3) := dq_158 (a := 0) (b := 10) (by decide +kernel) (by decide +kernel)
theorem dX12_test_124 : decode cX12_test 124 = .ok (.aload_n 0, 1) := dq_42 (by decide +kernel)
theorem dX12_test_125 : decode cX12_test 125 = .ok (.invokevirtual 271, 3) := dq_182 (a := 1) (b := 15) (by decide +kernel) rfl
theorem dX12_test_128 : decode cX12_test 128 = .ok (.goto (-18), 3) := dq_167 (a := 255) (b := 238) (by decide +kernel) (by decide +kernel)
theorem dX12_fact_0 : decode cX12_fact 0 = .ok (.aload_n 0, 1) := dq_42 (by decide +kernel)
theorem dX12_fact_1 : decode cX12_fact 1 = .ok (.aload_n 0, 1) := dq_42 (by decide +kernel)
theorem dX12_fact_2 : decode cX12_fact 2 = .ok (.getfield 45, 3) := dq_180 (a := 0) (b := 45) (by decide +kernel) rfl
theorem dX12_fact_5 : decode cX12_fact 5 = .ok (.invokevirtual 178, 3) := dq_182 (a := 0) (b := 178) (by decide +kernel) rfl
theorem dX12_fact_8 : decode cX12_fact 8 = .ok (.ifCond .eq 10, 3) := dq_153 (a := 0) (b := 10) (by decide +kernel) (by decide +kernel)
theorem dX12_fact_18 : decode cX12_fact 18 = .ok (.aload_n 0, 1) := dq_42 (by decide +kernel)
theorem dX12_fact_19 : decode cX12_fact 19 = .ok (.invokevirtual 293, 3) := dq_182 (a := 1) (b := 37) (by decide +kernel) rfl
theorem dX12_dropsNots_0 : decode cX12_dropsNots 0 = .ok (.aload_n 0, 1) := dq_42 (by decide +kernel)
theorem dX12_dropsNots_1 : decode cX12_dropsNots 1 = .ok (.getfield 151, 3) := dq_180 (a := 0) (b := 151) (by decide +kernel) rfl
theorem dX12_dropsNots_4 : decode cX12_dropsNots 4 = .ok (.ifCond .ne 29, 3) := dq_154 (a := 0) (b := 29) (by decide +kernel) (by decide +kernel)
theorem dX12_dropsNots_33 : decode cX12_dropsNots 33 = .ok (.return_, 1) := dq_177 (by decide +kernel)
theorem dX12_dropsNots_7 : decode cX12_dropsNots 7 = .ok (.aload_n 0, 1) := dq_42 (by decide +kernel)
theorem dX12_dropsNots_8 : decode cX12_dropsNots 8 = .ok (.bipush 16, 2) := dq_16 (a := 16) (by decide +kernel) (by decide +kernel)
theorem dX12_dropsNots_10 : decode cX12_dropsNots 10 = .ok (.invokevirtual 283, 3) := dq_182 (a := 1) (b := 27) (by decide +kernel) rfl
theorem dX12_dropsNots_13 : decode cX12_dropsNots 13 = .ok (.ifCond .eq 20, 3) := dq_153 (a := 0) (b := 20) (by decide +kernel) (by decide +kernel)
theorem dX12_dropsNots_16 : decode cX12_dropsNots 16 = .ok (.aload_n 0, 1) := dq_42 (by decide +kernel)
theorem dX12_dropsNots_17 : decode cX12_dropsNots 17 = .ok (.dup, 1) := dq_89 (by decide +kernel)
theorem dX12_dropsNots_18 : decode cX12_dropsNots 18 = .ok (.getfield 256, 3) := dq_180 (a := 1) (b := 0) (by decide +kernel) rfl
theorem dX12_dropsNots_21 : decode cX12_dropsNots 21 = .ok (.iconst 1, 1) := dq_4 (by decide +kernel)
theorem dX12_dropsNots_22 : decode cX12_dropsNots 22 = .ok (.isub, 1) := dq_100 (by decide +kernel)
theorem dX12_dropsNots_23 : decode cX12_dropsNots 23 = .ok (.putfield 256, 3) := dq_181 (a := 1) (b := 0) (by decide +kernel) rfl
theorem dX12_dropsNots_26 : decode cX12_dropsNots 26 = .ok (.aload_n 0, 1) := dq_42 (by decide +kernel)
theorem dX12_dropsNots_27 : decode cX12_dropsNots 27 = .ok (.invokevirtual 271, 3) := dq_182 (a := 1) (b := 15) (by decide +kernel) rfl
theorem dX12_dropsNots_30 : decode cX12_dropsNots 30 = .ok (.goto (-30), 3) := dq_167 (a := 255) (b := 226) (by decide +kernel) (by decide +kernel)
theorem dX12_goesOnTest_0 : decode cX12_goesOnTest 0 = .ok (.aload_n 0, 1) := dq_42 (by decide +kernel)
theorem dX12_goesOnTest_1 : decode cX12_goesOnTest 1 = .ok (.getfield 151, 3) := dq_180 (a := 0) (b := 151) (by decide +kernel) rfl
theorem dX12_goesOnTest_4 : decode cX12_goesOnTest 4 = .ok (.ifCond .ne 72, 3) := dq_154 (a := 0) (b := 72) (by decide +kernel) (by decide +kernel)
theorem dX12_goesOnTest_76 : decode cX12_goesOnTest 76 = .ok (.aload_n 0, 1) := dq_42 (by decide +kernel)
theorem dX12_goesOnTest_77 : decode cX12_goesOnTest 77 = .ok (.aload_n 0, 1) := dq_42 (by decide +kernel)
theorem dX12_goesOnTest_78 : decode cX12_goesOnTest 78 = .ok (.getfield 39, 3) := dq_180 (a := 0) (b := 39) (by decide +kernel) rfl
theorem dX12_goesOnTest_81 : decode cX12_goesOnTest 81 = .ok (.invokevirtual 178, 3) := dq_182 (a := 0) (b := 178) (by decide +kernel) rfl
theorem dX12_goesOnTest_84 : decode cX12_goesOnTest 84 = .ok (.ifCond .eq 42, 3) := dq_153 (a := 0) (b := 42) (by decide +kernel) (by decide +kernel)
theorem dX12_goesOnTest_126 : decode cX12_goesOnTest 126 = .ok (.aload_n 0, 1) := dq_42 (by decide +kernel)
theorem dX12_goesOnTest_127 : decode cX12_goesOnTest 127 = .ok (.aload_n 0, 1) := dq_42 (by decide +kernel)
theorem dX12_goesOnTest_128 : decode cX12_goesOnTest 128 = .ok (.getfield 36, 3) := dq_180 (a := 0) (b := 36) (by decide +kernel) rfl
theorem dX12_goesOnTest_131 : decode cX12_goesOnTest 131 = .ok (.invokevirtual 178, 3) := dq_182 (a := 0) (b := 178) (by decide +kernel) rfl
theorem dX12_goesOnTest_134 : decode cX12_goesOnTest 134 = .ok (.ifCond .eq 51, 3) := dq_153 (a := 0) (b := 51) (by decide +kernel) (by decide +kernel)
theorem dX12_goesOnTest_185 : decode cX12_goesOnTest 185 = .ok (.aload_n 0, 1) := dq_42 (by decide +kernel)
theorem dX12_goesOnTest_186 : decode cX12_goesOnTest 186 = .ok (.getfield 151, 3) := dq_180 (a := 0) (b := 151) (by decide +kernel) rfl
theorem dX12_goesOnTest_189 : decode cX12_goesOnTest 189 = .ok (.ifCond .ne 19, 3) := dq_154 (a := 0) (b := 19) (by decide +kernel) (by decide +kernel)
theorem dX12_goesOnTest_208 : decode cX12_goesOnTest 208 = .ok (.iconst 0, 1) := dq_3 (by decide +kernel)
theorem dX12_goesOnTest_209 : decode cX12_goesOnTest 209 = .ok (.ireturn, 1) := dq_172 (by decide +kernel)
theorem dX12_goesOnTest_192 : decode cX12_goesOnTest 192 = .ok (.aload_n 0, 1) := dq_42 (by decide +kernel)
theorem dX12_goesOnTest_193 : decode cX12_goesOnTest 193 = .ok (.invokevirtual 305, 3) := dq_182 (a := 1) (b := 49) (by decide +kernel) rfl
theorem dX12_hasSquare_0 : decode cX12_hasSquare 0 = .ok (.iconst 0, 1) := dq_3 (by decide +kernel)
theorem dX12_hasSquare_1 : decode cX12_hasSquare 1 = .ok (.istore_n 1, 1) := dq_60 (by decide +kernel)
theorem dX12_hasSquare_2 : decode cX12_hasSquare 2 = .ok (.iload_n 1, 1) := dq_27 (by decide +kernel)
theorem dX12_hasSquare_3 : decode cX12_hasSquare 3 = .ok (.aload_n 0, 1) := dq_42 (by decide +kernel)
theorem dX12_hasSquare_4 : decode cX12_hasSquare 4 = .ok (.getfield 259, 3) := dq_180 (a := 1) (b := 3) (by decide +kernel) rfl
theorem dX12_hasSquare_7 : decode cX12_hasSquare 7 = .ok (.if_icmp .ge 22, 3) := dq_162 (a := 0) (b := 22) (by decide +kernel) (by decide +kernel)
theorem dX12_hasSquare_29 : decode cX12_hasSquare 29 = .ok (.iconst 0, 1) := dq_3 (by decide +kernel)
theorem dX12_hasSquare_30 : decode cX12_hasSquare 30 = .ok (.ireturn, 1) := dq_172 (by decide +kernel)
theorem dX12_hasSquare_10 : decode cX12_hasSquare 10 = .ok (.aload_n 0, 1) := dq_42 (by decide +kernel)
theorem dX12_hasSquare_11 : decode cX12_hasSquare 11 = .ok (.getfield 78, 3) := dq_180 (a := 0) (b := 78) (by decide +kernel) rfl
theorem dX12_hasSquare_14 : decode cX12_hasSquare 14 = .ok (.iload_n 1, 1) := dq_27 (by decide +kernel)
theorem dX12_hasSquare_15 : decode cX12_hasSquare 15 = .ok (.iaload, 1) := dq_46 (by decide +kernel)
theorem dX12_hasSquare_16 : decode cX12_hasSquare 16 = .ok (.bipush 25, 2) := dq_16 (a := 25) (by decide +kernel) (by decide +kernel)
theorem dX12_hasSquare_18 : decode cX12_hasSquare 18 = .ok (.if_icmp .ne 5, 3) := dq_160 (a := 0) (b := 5) (by decide +kernel) (by decide +kernel)
theorem dX12_hasSquare_23 : decode cX12_hasSquare 23 = .ok (.iinc 1 1, 3) := dq_132 (a := 1) (b := 1) (by decide +kernel) rfl (by decide +kernel)
theorem dX12_hasSquare_26 : decode cX12_hasSquare 26 = .ok (.goto (-24), 3) := dq_167 (a := 255) (b := 232) (by decide +kernel) (by decide +kernel)
theorem dX12_hasSquare_21 : decode cX12_hasSquare 21 = .ok (.iconst 1, 1) := dq_4 (by decide +kernel)
theorem dX12_hasSquare_22 : decode cX12_hasSquare 22 = .ok (.ireturn, 1) := dq_172 (by decide +kernel)
theorem dX12_goesOnTest_196 : decode cX12_goesOnTest 196 = .ok (.ifCond .eq 12, 3) := dq_153 (a := 0) (b := 12) (by decide +kernel) (by decide +kernel)
theorem dX12_goesOnTest_199 : decode cX12_goesOnTest 199 = .ok (.aload_n 0, 1) := dq_42 (by decide +kernel)
theorem dX12_goesOnTest_200 : decode cX12_goesOnTest 200 = .ok (.iconst 1, 1) := dq_4 (by decide +kernel)
theorem dX12_goesOnTest_201 : decode cX12_goesOnTest 201 = .ok (.aload_n 0, 1) := dq_42 (by decide +kernel)
theorem dX12_goesOnTest_202 : decode cX12_goesOnTest 202 = .ok (.getfield 157, 3) := dq_180 (a := 0) (b := 157) (by decide +kernel) rfl
theorem dX12_goesOnTest_205 : decode cX12_goesOnTest 205 = .ok (.invokevirtual 181, 3) := dq_182 (a := 0) (b := 181) (by decide +kernel) rfl
theorem dX12_goesOnTest_137 : decode cX12_goesOnTest 137 = .ok (.aload_n 0, 1) := dq_42 (by decide +kernel)
theorem dX12_goesOnTest_138 : decode cX12_goesOnTest 138 = .ok (.bipush 14, 2) := dq_16 (a := 14) (by decide +kernel) (by decide +kernel)
theorem dX12_goesOnTest_140 : decode cX12_goesOnTest 140 = .ok (.invokevirtual 283, 3) := dq_182 (a := 1) (b := 27) (by decide +kernel) rfl
theorem dX12_goesOnTest_143 : decode cX12_goesOnTest 143 = .ok (.ifCond .ne 12, 3) := dq_154 (a := 0) (b := 12) (by decide +kernel) (by decide +kernel)
theorem dX12_goesOnTest_155 : decode cX12_goesOnTest 155 = .ok (.aload_n 0, 1) := dq_42 (by decide +kernel)
theorem dX12_goesOnTest_156 : decode cX12_goesOnTest 156 = .ok (.invokevirtual 271, 3) := dq_182 (a := 1) (b := 15) (by decide +kernel) rfl
theorem dX12_goesOnTest_159 : decode cX12_goesOnTest 159 = .ok (.goto (-22), 3) := dq_167 (a := 255) (b := 234) (by decide +kernel) (by decide +kernel)
theorem dX12_goesOnTest_146 : decode cX12_goesOnTest 146 = .ok (.aload_n 0, 1) := dq_42 (by decide +kernel)
theorem dX12_goesOnTest_147 : decode cX12_goesOnTest 147 = .ok (.bipush 15, 2) := dq_16 (a := 15) (by decide +kernel) (by decide +kernel)
theorem dX12_goesOnTest_149 : decode cX12_goesOnTest 149 = .ok (.invokevirtual 283, 3) := dq_182 (a := 1) (b := 27) (by decide +kernel) rfl
theorem dX12_goesOnTest_152 : decode cX12_goesOnTest 152 = .ok (.ifCond .eq 10, 3) := dq_153 (a := 0) (b := 10) (by decide +kernel) (by decide +kernel)
theorem dX12_goesOnTest_162 : decode cX12_goesOnTest 162 = .ok (.aload_n 0, 1) := dq_42 (by decide +kernel)
theorem dX12_goesOnTest_163 : decode cX12_goesOnTest 163 = .ok (.getfield 78, 3) := dq_180 (a := 0) (b := 78) (by decide +kernel) rfl
theorem dX12_goesOnTest_166 : decode cX12_goesOnTest 166 = .ok (.aload_n 0, 1) := dq_42 (by decide +kernel)
theorem dX12_goesOnTest_167 : decode cX12_goesOnTest 167 = .ok (.getfield 259, 3) := dq_180 (a := 1) (b := 3) (by decide +kernel) rfl
theorem dX12_goesOnTest_170 : decode cX12_goesOnTest 170 = .ok (.bipush 15, 2) := dq_16 (a := 15) (by decide +kernel) (by decide +kernel)
theorem dX12_goesOnTest_172 : decode cX12_goesOnTest 172 = .ok (.iastore, 1) := dq_79 (by decide +kernel)
theorem dX12_goesOnTest_173 : decode cX12_goesOnTest 173 = .ok (.aload_n 0, 1) := dq_42 (by decide +kernel)
theorem dX12_goesOnTest_174 : decode cX12_goesOnTest 174 = .ok (.dup, 1) := dq_89 (by decide +kernel)
theorem dX12_goesOnTest_175 : decode cX12_goesOnTest 175 = .ok (.getfield 259, 3) := dq_180 (a := 1) (b := 3) (by decide +kernel) rfl
theorem dX12_goesOnTest_178 : decode cX12_goesOnTest 178 = .ok (.iconst 1, 1) := dq_4 (by decide +kernel)
theorem dX12_goesOnTest_179 : decode cX12_goesOnTest 179 = .ok (.iadd, 1) := dq_96 (by decide +kernel)
theorem dX12_goesOnTest_180 : decode cX12_goesOnTest 180 = .ok (.putfield 259, 3) := dq_181 (a := 1) (b := 3) (by decide +kernel) rfl
theorem dX12_goesOnTest_183 : decode cX12_goesOnTest 183 = .ok (.iconst 1, 1) := dq_4 (by decide +kernel)
theorem dX12_goesOnTest_184 : decode cX12_goesOnTest 184 = .ok (.ireturn, 1) := dq_172 (by decide +kernel)
theorem dX12_fault_0 : decode cX12_fault 0 = .ok (.iload_n 1, 1) := dq_27 (by decide +kernel)
theorem dX12_fault_1 : decode cX12_fault 1 = .ok (.ifCond .ne 10, 3) := dq_154 (a := 0) (b := 10) (by decide +kernel) (by decide +kernel)
theorem dX12_fault_11 : decode cX12_fault 11 = .ok (.iload_n 1, 1) := dq_27 (by decide +kernel)
theorem dX12_fault_12 : decode cX12_fault 12 = .ok (.iconst 1, 1) := dq_4 (by decide +kernel)
theorem dX12_fault_13 : decode cX12_fault 13 = .ok (.if_icmp .ne 10, 3) := dq_160 (a := 0) (b := 10) (by decide +kernel) (by decide +kernel)
theorem dX12_fault_23 : decode cX12_fault 23 = .ok (.iconst (-1), 1) := dq_2 (by decide +kernel)
theorem dX12_fault_24 : decode cX12_fault 24 = .ok (.ireturn, 1) := dq_172 (by decide +kernel)
theorem dX12_fault_16 : decode cX12_fault 16 = .ok (.aload_n 0, 1) := dq_42 (by decide +kernel)
theorem dX12_fault_17 : decode cX12_fault 17 = .ok (.getfield 13, 3) := dq_180 (a := 0) (b := 13) (by decide +kernel) rfl
theorem dX12_fault_20 : decode cX12_fault 20 = .ok (.goto 4, 3) := dq_167 (a := 0) (b := 4) (by decide +kernel) (by decide +kernel)
theorem dX12_fault_4 : decode cX12_fault 4 = .ok (.aload_n 0, 1) := dq_42 (by decide +kernel)
theorem dX12_fault_5 : decode cX12_fault 5 = .ok (.getfield 228, 3) := dq_180 (a := 0) (b := 228) (by decide +kernel) rfl
theorem dX12_fault_8 : decode cX12_fault 8 = .ok (.goto 16, 3) := dq_167 (a := 0) (b := 16) (by decide +kernel) (by decide +kernel)
theorem dX12_has_0 : decode cX12_has 0 = .ok (.iload_n 1, 1) := dq_27 (by decide +kernel)
theorem dX12_has_56 : decode cX12_has 56 = .ok (.aload_n 0, 1) := dq_42 (by decide +kernel)
theorem dX12_has_57 : decode cX12_has 57 = .ok (.getfield 234, 3) := dq_180 (a := 0) (b := 234) (by decide +kernel) rfl
theorem dX12_has_60 : decode cX12_has 60 = .ok (.ireturn, 1) := dq_172 (by decide +kernel)
theorem dX12_has_61 : decode cX12_has 61 = .ok (.aload_n 0, 1) := dq_42 (by decide +kernel)
theorem dX12_has_62 : decode cX12_has 62 = .ok (.getfield 237, 3) := dq_180 (a := 0) (b := 237) (by decide +kernel) rfl
theorem dX12_has_65 : decode cX12_has 65 = .ok (.ireturn, 1) := dq_172 (by decide +kernel)
theorem dX12_has_66 : decode cX12_has 66 = .ok (.aload_n 0, 1) := dq_42 (by decide +kernel)
theorem dX12_has_67 : decode cX12_has 67 = .ok (.getfield 240, 3) := dq_180 (a := 0) (b := 240) (by decide +kernel) rfl
theorem dX12_has_70 : decode cX12_has 70 = .ok (.ireturn, 1) := dq_172 (by decide +kernel)
theorem dX12_has_71 : decode cX12_has 71 = .ok (.aload_n 0, 1) := dq_42 (by decide +kernel)
theorem dX12_has_72 : decode cX12_has 72 = .ok (.getfield 243, 3) := dq_180 (a := 0) (b := 243) (by decide +kernel) rfl
theorem dX12_has_75 : decode cX12_has 75 = .ok (.ireturn, 1) := dq_172 (by decide +kernel)
theorem dX12_has_76 : decode cX12_has 76 = .ok (.aload_n 0, 1) := dq_42 (by decide +kernel)
theorem dX12_has_77 : decode cX12_has 77 = .ok (.getfield 246, 3) := dq_180 (a := 0) (b := 246) (by decide +kernel) rfl
theorem dX12_has_80 : decode cX12_has 80 = .ok (.ireturn, 1) := dq_172 (by decide +kernel)
theorem dX12_has_81 : decode cX12_has 81 = .ok (.aload_n 0, 1) := dq_42 (by decide +kernel)
theorem dX12_has_82 : decode cX12_has 82 = .ok (.getfield 81, 3) := dq_180 (a := 0) (b := 81) (by decide +kernel) rfl
theorem dX12_has_85 : decode cX12_has 85 = .ok (.iconst 0, 1) := dq_3 (by decide +kernel)
theorem dX12_has_86 : decode cX12_has 86 = .ok (.iaload, 1) := dq_46 (by decide +kernel)
theorem dX12_has_87 : decode cX12_has 87 = .ok (.ireturn, 1) := dq_172 (by decide +kernel)
theorem dX12_has_88 : decode cX12_has 88 = .ok (.aload_n 0, 1) := dq_42 (by decide +kernel)
theorem dX12_has_89 : decode cX12_has 89 = .ok (.getfield 63, 3) := dq_180 (a := 0) (b := 63) (by decide +kernel) rfl
theorem dX12_has_92 : decode cX12_has 92 = .ok (.ireturn, 1) := dq_172 (by decide +kernel)
theorem dX12_has_93 : decode cX12_has 93 = .ok (.aload_n 0, 1) := dq_42 (by decide +kernel)
theorem dX12_has_94 : decode cX12_has 94 = .ok (.getfield 349, 3) := dq_180 (a := 1) (b := 93) (by decide +kernel) rfl
theorem dX12_has_97 : decode cX12_has 97 = .ok (.ireturn, 1) := dq_172 (by decide +kernel)
theorem dX12_has_98 : decode cX12_has 98 = .ok (.aload_n 0, 1) := dq_42 (by decide +kernel)
theorem dX12_has_99 : decode cX12_has 99 = .ok (.getfield 352, 3) := dq_180 (a := 1) (b := 96) (by decide +kernel) rfl
theorem dX12_has_102 : decode cX12_has 102 = .ok (.ireturn, 1) := dq_172 (by decide +kernel)
theorem dX12_has_103 : decode cX12_has 103 = .ok (.aload_n 0, 1) := dq_42 (by decide +kernel)
theorem dX12_has_104 : decode cX12_has 104 = .ok (.getfield 355, 3) := dq_180 (a := 1) (b := 99) (by decide +kernel) rfl
theorem dX12_has_107 : decode cX12_has 107 = .ok (.ireturn, 1) := dq_172 (by decide +kernel)
theorem dX12_has_108 : decode cX12_has 108 = .ok (.iconst (-1), 1) := dq_2 (by decide +kernel)
theorem dX12_has_109 : decode cX12_has 109 = .ok (.ireturn, 1) := dq_172 (by decide +kernel)
theorem dX12_table_0 : decode cX12_table 0 = .ok (.aload_n 0, 1) := dq_42 (by decide +kernel)
theorem dX12_table_1 : decode cX12_table 1 = .ok (.iload_n 1, 1) := dq_27 (by decide +kernel)
theorem dX12_table_2 : decode cX12_table 2 = .ok (.invokevirtual 358, 3) := dq_182 (a := 1) (b := 102) (by decide +kernel) rfl
theorem dX12_isReceiver_0 : decode cX12_isReceiver 0 = .ok (.iload_n 1, 1) := dq_27 (by decide +kernel)
theorem dX12_isReceiver_1 : decode cX12_isReceiver 1 = .ok (.i2l, 1) := dq_133 (by decide +kernel)
theorem dX12_isReceiver_2 : decode cX12_isReceiver 2 = .ok (.lconst 0, 1) := dq_9 (by decide +kernel)
theorem dX12_isReceiver_3 : decode cX12_isReceiver 3 = .ok (.aload_n 0, 1) := dq_42 (by decide +kernel)
theorem dX12_isReceiver_4 : decode cX12_isReceiver 4 = .ok (.getfield 240, 3) := dq_180 (a := 0) (b := 240) (by decide +kernel) rfl
theorem dX12_isReceiver_7 : decode cX12_isReceiver 7 = .ok (.iconst 1, 1) := dq_4 (by decide +kernel)
theorem dX12_isReceiver_8 : decode cX12_isReceiver 8 = .ok (.isub, 1) := dq_100 (by decide +kernel)
theorem dX12_isReceiver_9 : decode cX12_isReceiver 9 = .ok (.i2l, 1) := dq_133 (by decide +kernel)
theorem dX12_isReceiver_10 : decode cX12_isReceiver 10 = .ok (.invokestatic 191, 3) := dq_184 (a := 0) (b := 191) (by decide +kernel) rfl
theorem dX12_isReceiver_13 : decode cX12_isReceiver 13 = .ok (.ireturn, 1) := dq_172 (by decide +kernel)
theorem dX12_table_5 : decode cX12_table 5 = .ok (.ifCond .eq 11, 3) := dq_153 (a := 0) (b := 11) (by decide +kernel) (by decide +kernel)
theorem dX12_table_16 : decode cX12_table 16 = .ok (.ldc_w 364, 3) := dq_19 (a := 1) (b := 108) (by decide +kernel) rfl
theorem dX12_table_19 : decode cX12_table 19 = .ok (.ireturn, 1) := dq_172 (by decide +kernel)
theorem dX12_table_8 : decode cX12_table 8 = .ok (.aload_n 0, 1) := dq_42 (by decide +kernel)
theorem dX12_table_9 : decode cX12_table 9 = .ok (.iload_n 2, 1) := dq_28 (by decide +kernel)
theorem dX12_table_10 : decode cX12_table 10 = .ok (.invokevirtual 361, 3) := dq_182 (a := 1) (b := 105) (by decide +kernel) rfl
theorem dX12_isSender_0 : decode cX12_isSender 0 = .ok (.iload_n 1, 1) := dq_27 (by decide +kernel)
theorem dX12_isSender_1 : decode cX12_isSender 1 = .ok (.i2l, 1) := dq_133 (by decide +kernel)
theorem dX12_isSender_2 : decode cX12_isSender 2 = .ok (.lconst 0, 1) := dq_9 (by decide +kernel)
theorem dX12_isSender_3 : decode cX12_isSender 3 = .ok (.aload_n 0, 1) := dq_42 (by decide +kernel)
theorem dX12_isSender_4 : decode cX12_isSender 4 = .ok (.getfield 237, 3) := dq_180 (a := 0) (b := 237) (by decide +kernel) rfl
theorem dX12_isSender_7 : decode cX12_isSender 7 = .ok (.iconst 1, 1) := dq_4 (by decide +kernel)
theorem dX12_isSender_8 : decode cX12_isSender 8 = .ok (.isub, 1) := dq_100 (by decide +kernel)
theorem dX12_isSender_9 : decode cX12_isSender 9 = .ok (.i2l, 1) := dq_133 (by decide +kernel)
theorem dX12_isSender_10 : decode cX12_isSender 10 = .ok (.invokestatic 191, 3) := dq_184 (a := 0) (b := 191) (by decide +kernel) rfl
theorem dX12_isSender_13 : decode cX12_isSender 13 = .ok (.ireturn, 1) := dq_172 (by decide +kernel)
theorem dX12_table_13 : decode cX12_table 13 = .ok (.ifCond .ne 7, 3) := dq_154 (a := 0) (b := 7) (by decide +kernel) (by decide +kernel)
theorem dX12_table_20 : decode cX12_table 20 = .ok (.iload_n 3, 1) := dq_29 (by decide +kernel)
theorem dX12_table_21 : decode cX12_table 21 = .ok (.ifCond .eq 16, 3) := dq_153 (a := 0) (b := 16) (by decide +kernel) (by decide +kernel)
theorem dX12_table_37 : decode cX12_table 37 = .ok (.aload_n 0, 1) := dq_42 (by decide +kernel)
theorem dX12_table_38 : decode cX12_table 38 = .ok (.getfield 69, 3) := dq_180 (a := 0) (b := 69) (by decide +kernel) rfl
theorem dX12_table_41 : decode cX12_table 41 = .ok (.iconst 5, 1) := dq_8 (by decide +kernel)
theorem dX12_table_42 : decode cX12_table 42 = .ok (.iload_n 1, 1) := dq_27 (by decide +kernel)
theorem dX12_table_43 : decode cX12_table 43 = .ok (.imul, 1) := dq_104 (by decide +kernel)
theorem dX12_table_44 : decode cX12_table 44 = .ok (.iload_n 2, 1) := dq_28 (by decide +kernel)
theorem dX12_table_45 : decode cX12_table 45 = .ok (.iadd, 1) := dq_96 (by decide +kernel)
theorem dX12_table_46 : decode cX12_table 46 = .ok (.iaload, 1) := dq_46 (by decide +kernel)
theorem dX12_table_47 : decode cX12_table 47 = .ok (.ireturn, 1) := dq_172 (by decide +kernel)
theorem dX12_table_24 : decode cX12_table 24 = .ok (.aload_n 0, 1) := dq_42 (by decide +kernel)
theorem dX12_table_25 : decode cX12_table 25 = .ok (.getfield 97, 3) := dq_180 (a := 0) (b := 97) (by decide +kernel) rfl
theorem dX12_table_28 : decode cX12_table 28 = .ok (.iconst 5, 1) := dq_8 (by decide +kernel)
theorem dX12_table_29 : decode cX12_table 29 = .ok (.iload_n 1, 1) := dq_27 (by decide +kernel)
theorem dX12_table_30 : decode cX12_table 30 = .ok (.imul, 1) := dq_104 (by decide +kernel)
theorem dX12_table_31 : decode cX12_table 31 = .ok (.iload_n 2, 1) := dq_28 (by decide +kernel)
theorem dX12_table_32 : decode cX12_table 32 = .ok (.iadd, 1) := dq_96 (by decide +kernel)
theorem dX12_table_33 : decode cX12_table 33 = .ok (.iaload, 1) := dq_46 (by decide +kernel)
theorem dX12_table_34 : decode cX12_table 34 = .ok (.goto 13, 3) := dq_167 (a := 0) (b := 13) (by decide +kernel) (by decide +kernel)
theorem dX12_product_0 : decode cX12_product 0 = .ok (.aload_n 0, 1) := dq_42 (by decide +kernel)
theorem dX12_product_1 : decode cX12_product 1 = .ok (.iload_n 1, 1) := dq_27 (by decide +kernel)
theorem dX12_product_2 : decode cX12_product 2 = .ok (.invokevirtual 361, 3) := dq_182 (a := 1) (b := 105) (by decide +kernel) rfl
theorem dX12_product_5 : decode cX12_product 5 = .ok (.ifCond .eq 11, 3) := dq_153 (a := 0) (b := 11) (by decide +kernel) (by decide +kernel)
theorem dX12_product_16 : decode cX12_product 16 = .ok (.ldc_w 364, 3) := dq_19 (a := 1) (b := 108) (by decide +kernel) rfl
theorem dX12_product_19 : decode cX12_product 19 = .ok (.ireturn, 1) := dq_172 (by decide +kernel)
theorem dX12_product_8 : decode cX12_product 8 = .ok (.aload_n 0, 1) := dq_42 (by decide +kernel)
theorem dX12_product_9 : decode cX12_product 9 = .ok (.iload_n 2, 1) := dq_28 (by decide +kernel)
theorem dX12_product_10 : decode cX12_product 10 = .ok (.invokevirtual 361, 3) := dq_182 (a := 1) (b := 105) (by decide +kernel) rfl
theorem dX12_product_13 : decode cX12_product 13 = .ok (.ifCond .ne 7, 3) := dq_154 (a := 0) (b := 7) (by decide +kernel) (by decide +kernel)
theorem dX12_product_20 : decode cX12_product 20 = .ok (.iload_n 3, 1) := dq_29 (by decide +kernel)
theorem dX12_product_21 : decode cX12_product 21 = .ok (.ifCond .eq 16, 3) := dq_153 (a := 0) (b := 16) (by decide +kernel) (by decide +kernel)
theorem dX12_product_37 : decode cX12_product 37 = .ok (.aload_n 0, 1) := dq_42 (by decide +kernel)
theorem dX12_product_38 : decode cX12_product 38 = .ok (.iload_n 1, 1) := dq_27 (by decide +kernel)
theorem dX12_product_39 : decode cX12_product 39 = .ok (.iload_n 2, 1) := dq_28 (by decide +kernel)
theorem dX12_product_40 : decode cX12_product 40 = .ok (.aload_n 0, 1) := dq_42 (by decide +kernel)
theorem dX12_product_41 : decode cX12_product 41 = .ok (.getfield 69, 3) := dq_180 (a := 0) (b := 69) (by decide +kernel) rfl
theorem dX12_product_44 : decode cX12_product 44 = .ok (.invokevirtual 334, 3) := dq_182 (a := 1) (b := 78) (by decide +kernel) rfl
theorem dX12_productOf_0 : decode cX12_productOf 0 = .ok (.iconst 0, 1) := dq_3 (by decide +kernel)
theorem dX12_productOf_1 : decode cX12_productOf 1 = .ok (.istore 4, 2) := dq_54 (a := 4) (by decide +kernel) rfl
theorem dX12_productOf_3 : decode cX12_productOf 3 = .ok (.iconst 0, 1) := dq_3 (by decide +kernel)
theorem dX12_productOf_4 : decode cX12_productOf 4 = .ok (.istore 5, 2) := dq_54 (a := 5) (by decide +kernel) rfl
theorem dX12_productOf_6 : decode cX12_productOf 6 = .ok (.iload 5, 2) := dq_21 (a := 5) (by decide +kernel) rfl
theorem dX12_productOf_8 : decode cX12_productOf 8 = .ok (.aload_n 0, 1) := dq_42 (by decide +kernel)
theorem dX12_productOf_9 : decode cX12_productOf 9 = .ok (.getfield 240, 3) := dq_180 (a := 0) (b := 240) (by decide +kernel) rfl
theorem dX12_productOf_12 : decode cX12_productOf 12 = .ok (.if_icmp .ge 31, 3) := dq_162 (a := 0) (b := 31) (by decide +kernel) (by decide +kernel)
theorem dX12_productOf_43 : decode cX12_productOf 43 = .ok (.iload 4, 2) := dq_21 (a := 4) (by decide +kernel) rfl
theorem dX12_productOf_45 : decode cX12_productOf 45 = .ok (.ireturn, 1) := dq_172 (by decide +kernel)
theorem dX12_productOf_15 : decode cX12_productOf 15 = .ok (.iload 4, 2) := dq_21 (a := 4) (by decide +kernel) rfl
theorem dX12_productOf_17 : decode cX12_productOf 17 = .ok (.aload_n 3, 1) := dq_45 (by decide +kernel)
theorem dX12_productOf_18 : decode cX12_productOf 18 = .ok (.iconst 5, 1) := dq_8 (by decide +kernel)
theorem dX12_productOf_19 : decode cX12_productOf 19 = .ok (.iload 5, 2) := dq_21 (a := 5) (by decide +kernel) rfl
theorem dX12_productOf_21 : decode cX12_productOf 21 = .ok (.imul, 1) := dq_104 (by decide +kernel)
theorem dX12_productOf_22 : decode cX12_productOf 22 = .ok (.iload_n 1, 1) := dq_27 (by decide +kernel)
theorem dX12_productOf_23 : decode cX12_productOf 23 = .ok (.iadd, 1) := dq_96 (by decide +kernel)
theorem dX12_productOf_24 : decode cX12_productOf 24 = .ok (.iaload, 1) := dq_46 (by decide +kernel)
theorem dX12_productOf_25 : decode cX12_productOf 25 = .ok (.aload_n 3, 1) := dq_45 (by decide +kernel)
theorem dX12_productOf_26 : decode cX12_productOf 26 = .ok (.iconst 5, 1) := dq_8 (by decide +kernel)
theorem dX12_productOf_27 : decode cX12_productOf 27 = .ok (.iload 5, 2) := dq_21 (a := 5) (by decide +kernel) rfl
theorem dX12_productOf_29 : decode cX12_productOf 29 = .ok (.imul, 1) := dq_104 (by decide +kernel)
theorem dX12_productOf_30 : decode cX12_productOf 30 = .ok (.iload_n 2, 1) := dq_28 (by decide +kernel)
theorem dX12_productOf_31 : decode cX12_productOf 31 = .ok (.iadd, 1) := dq_96 (by decide +kernel)
theorem dX12_productOf_32 : decode cX12_productOf 32 = .ok (.iaload, 1) := dq_46 (by decide +kernel)
theorem dX12_productOf_33 : decode cX12_productOf 33 = .ok (.imul, 1) := dq_104 (by decide +kernel)
theorem dX12_productOf_34 : decode cX12_productOf 34 = .ok (.iadd, 1) := dq_96 (by decide +kernel)
theorem dX12_productOf_35 : decode cX12_productOf 35 = .ok (.istore 4, 2) := dq_54 (a := 4) (by decide +kernel) rfl
theorem dX12_productOf_37 : decode cX12_productOf 37 = .ok (.iinc 5 1, 3) := dq_132 (a := 5) (b := 1) (by decide +kernel) rfl (by decide +kernel)
theorem dX12_productOf_40 : decode cX12_productOf 40 = .ok (.goto (-34), 3) := dq_167 (a := 255) (b := 222) (by decide +kernel) (by decide +kernel)
theorem dX12_product_47 : decode cX12_product 47 = .ok (.ireturn, 1) := dq_172 (by decide +kernel)
theorem dX12_product_24 : decode cX12_product 24 = .ok (.aload_n 0, 1) := dq_42 (by decide +kernel)
theorem dX12_product_25 : decode cX12_product 25 = .ok (.iload_n 1, 1) := dq_27 (by decide +kernel)
theorem dX12_product_26 : decode cX12_product 26 = .ok (.iload_n 2, 1) := dq_28 (by decide +kernel)
theorem dX12_product_27 : decode cX12_product 27 = .ok (.aload_n 0, 1) := dq_42 (by decide +kernel)
theorem dX12_product_28 : decode cX12_product 28 = .ok (.getfield 97, 3) := dq_180 (a := 0) (b := 97) (by decide +kernel) rfl
theorem dX12_product_31 : decode cX12_product 31 = .ok (.invokevirtual 334, 3) := dq_182 (a := 1) (b := 78) (by decide +kernel) rfl
theorem dX12_product_34 : decode cX12_product 34 = .ok (.goto 13, 3) := dq_167 (a := 0) (b := 13) (by decide +kernel) (by decide +kernel)
theorem dX12_clash_0 : decode cX12_clash 0 = .ok (.aload_n 0, 1) := dq_42 (by decide +kernel)
theorem dX12_clash_1 : decode cX12_clash 1 = .ok (.iload_n 1, 1) := dq_27 (by decide +kernel)
theorem dX12_clash_2 : decode cX12_clash 2 = .ok (.invokevirtual 361, 3) := dq_182 (a := 1) (b := 105) (by decide +kernel) rfl
theorem dX12_clash_5 : decode cX12_clash 5 = .ok (.ifCond .eq 16, 3) := dq_153 (a := 0) (b := 16) (by decide +kernel) (by decide +kernel)
theorem dX12_clash_21 : decode cX12_clash 21 = .ok (.iconst (-1), 1) := dq_2 (by decide +kernel)
theorem dX12_clash_22 : decode cX12_clash 22 = .ok (.ireturn, 1) := dq_172 (by decide +kernel)
theorem dX12_clash_8 : decode cX12_clash 8 = .ok (.aload_n 0, 1) := dq_42 (by decide +kernel)
theorem dX12_clash_9 : decode cX12_clash 9 = .ok (.iload_n 2, 1) := dq_28 (by decide +kernel)
theorem dX12_clash_10 : decode cX12_clash 10 = .ok (.invokevirtual 361, 3) := dq_182 (a := 1) (b := 105) (by decide +kernel) rfl
theorem dX12_clash_13 : decode cX12_clash 13 = .ok (.ifCond .eq 8, 3) := dq_153 (a := 0) (b := 8) (by decide +kernel) (by decide +kernel)
theorem dX12_clash_16 : decode cX12_clash 16 = .ok (.iload_n 1, 1) := dq_27 (by decide +kernel)
theorem dX12_clash_17 : decode cX12_clash 17 = .ok (.iload_n 2, 1) := dq_28 (by decide +kernel)
theorem dX12_clash_18 : decode cX12_clash 18 = .ok (.if_icmp .ne 5, 3) := dq_160 (a := 0) (b := 5) (by decide +kernel) (by decide +kernel)
theorem dX12_clash_23 : decode cX12_clash 23 = .ok (.iload_n 3, 1) := dq_29 (by decide +kernel)
theorem dX12_clash_24 : decode cX12_clash 24 = .ok (.ifCond .eq 16, 3) := dq_153 (a := 0) (b := 16) (by decide +kernel) (by decide +kernel)
theorem dX12_clash_40 : decode cX12_clash 40 = .ok (.aload_n 0, 1) := dq_42 (by decide +kernel)
theorem dX12_clash_41 : decode cX12_clash 41 = .ok (.iload_n 1, 1) := dq_27 (by decide +kernel)
theorem dX12_clash_42 : decode cX12_clash 42 = .ok (.iload_n 2, 1) := dq_28 (by decide +kernel)
theorem dX12_clash_43 : decode cX12_clash 43 = .ok (.aload_n 0, 1) := dq_42 (by decide +kernel)
theorem dX12_clash_44 : decode cX12_clash 44 = .ok (.getfield 69, 3) := dq_180 (a := 0) (b := 69) (by decide +kernel) rfl
theorem dX12_clash_47 : decode cX12_clash 47 = .ok (.invokevirtual 367, 3) := dq_182 (a := 1) (b := 111) (by decide +kernel) rfl
theorem dX12_clashOf_0 : decode cX12_clashOf 0 = .ok (.aload_n 0, 1) := dq_42 (by decide +kernel)
theorem dX12_clashOf_1 : decode cX12_clashOf 1 = .ok (.iload_n 1, 1) := dq_27 (by decide +kernel)
theorem dX12_clashOf_2 : decode cX12_clashOf 2 = .ok (.iload_n 1, 1) := dq_27 (by decide +kernel)
theorem dX12_clashOf_3 : decode cX12_clashOf 3 = .ok (.aload_n 3, 1) := dq_45 (by decide +kernel)
theorem dX12_clashOf_4 : decode cX12_clashOf 4 = .ok (.invokevirtual 334, 3) := dq_182 (a := 1) (b := 78) (by decide +kernel) rfl
theorem dX12_clashOf_7 : decode cX12_clashOf 7 = .ok (.i2l, 1) := dq_133 (by decide +kernel)
theorem dX12_clashOf_8 : decode cX12_clashOf 8 = .ok (.lstore 4, 2) := dq_55 (a := 4) (by decide +kernel) rfl
theorem dX12_clashOf_10 : decode cX12_clashOf 10 = .ok (.aload_n 0, 1) := dq_42 (by decide +kernel)
theorem dX12_clashOf_11 : decode cX12_clashOf 11 = .ok (.iload_n 2, 1) := dq_28 (by decide +kernel)
theorem dX12_clashOf_12 : decode cX12_clashOf 12 = .ok (.iload_n 2, 1) := dq_28 (by decide +kernel)
theorem dX12_clashOf_13 : decode cX12_clashOf 13 = .ok (.aload_n 3, 1) := dq_45 (by decide +kernel)
theorem dX12_clashOf_14 : decode cX12_clashOf 14 = .ok (.invokevirtual 334, 3) := dq_182 (a := 1) (b := 78) (by decide +kernel) rfl
theorem dX12_clashOf_17 : decode cX12_clashOf 17 = .ok (.i2l, 1) := dq_133 (by decide +kernel)
theorem dX12_clashOf_18 : decode cX12_clashOf 18 = .ok (.lstore 6, 2) := dq_55 (a := 6) (by decide +kernel) rfl
theorem dX12_clashOf_20 : decode cX12_clashOf 20 = .ok (.aload_n 0, 1) := dq_42 (by decide +kernel)
theorem dX12_clashOf_21 : decode cX12_clashOf 21 = .ok (.iload_n 1, 1) := dq_27 (by decide +kernel)
theorem dX12_clashOf_22 : decode cX12_clashOf 22 = .ok (.iload_n 2, 1) := dq_28 (by decide +kernel)
theorem dX12_clashOf_23 : decode cX12_clashOf 23 = .ok (.aload_n 3, 1) := dq_45 (by decide +kernel)
theorem dX12_clashOf_24 : decode cX12_clashOf 24 = .ok (.invokevirtual 334, 3) := dq_182 (a := 1) (b := 78) (by decide +kernel) rfl
theorem dX12_clashOf_27 : decode cX12_clashOf 27 = .ok (.i2l, 1) := dq_133 (by decide +kernel)
theorem dX12_clashOf_28 : decode cX12_clashOf 28 = .ok (.lstore 8, 2) := dq_55 (a := 8) (by decide +kernel) rfl
theorem dX12_clashOf_30 : decode cX12_clashOf 30 = .ok (.lload 4, 2) := dq_22 (a := 4) (by decide +kernel) rfl
theorem dX12_clashOf_32 : decode cX12_clashOf 32 = .ok (.lconst 0, 1) := dq_9 (by decide +kernel)
theorem dX12_clashOf_33 : decode cX12_clashOf 33 = .ok (.lcmp, 1) := dq_148 (by decide +kernel)
theorem dX12_clashOf_34 : decode cX12_clashOf 34 = .ok (.ifCond .eq 10, 3) := dq_153 (a := 0) (b := 10) (by decide +kernel) (by decide +kernel)
theorem dX12_clashOf_44 : decode cX12_clashOf 44 = .ok (.iconst 0, 1) := dq_3 (by decide +kernel)
theorem dX12_clashOf_45 : decode cX12_clashOf 45 = .ok (.goto 19, 3) := dq_167 (a := 0) (b := 19) (by decide +kernel) (by decide +kernel)
theorem dX12_clashOf_64 : decode cX12_clashOf 64 = .ok (.ireturn, 1) := dq_172 (by decide +kernel)
theorem dX12_clashOf_37 : decode cX12_clashOf 37 = .ok (.lload 6, 2) := dq_22 (a := 6) (by decide +kernel) rfl
theorem dX12_clashOf_39 : decode cX12_clashOf 39 = .ok (.lconst 0, 1) := dq_9 (by decide +kernel)
theorem dX12_clashOf_40 : decode cX12_clashOf 40 = .ok (.lcmp, 1) := dq_148 (by decide +kernel)
theorem dX12_clashOf_41 : decode cX12_clashOf 41 = .ok (.ifCond .ne 7, 3) := dq_154 (a := 0) (b := 7) (by decide +kernel) (by decide +kernel)
theorem dX12_clashOf_48 : decode cX12_clashOf 48 = .ok (.ldc2_w 365, 3) := dq_20 (a := 1) (b := 109) (by decide +kernel) rfl
theorem dX12_clashOf_51 : decode cX12_clashOf 51 = .ok (.lload 8, 2) := dq_22 (a := 8) (by decide +kernel) rfl
theorem dX12_clashOf_53 : decode cX12_clashOf 53 = .ok (.lmul, 1) := dq_105 (by decide +kernel)
theorem dX12_clashOf_54 : decode cX12_clashOf 54 = .ok (.lload 8, 2) := dq_22 (a := 8) (by decide +kernel) rfl
theorem dX12_clashOf_56 : decode cX12_clashOf 56 = .ok (.lmul, 1) := dq_105 (by decide +kernel)
theorem dX12_clashOf_57 : decode cX12_clashOf 57 = .ok (.lload 4, 2) := dq_22 (a := 4) (by decide +kernel) rfl
theorem dX12_clashOf_59 : decode cX12_clashOf 59 = .ok (.lload 6, 2) := dq_22 (a := 6) (by decide +kernel) rfl
theorem dX12_clashOf_61 : decode cX12_clashOf 61 = .ok (.lmul, 1) := dq_105 (by decide +kernel)
theorem dX12_clashOf_62 : decode cX12_clashOf 62 = .ok (.ldiv, 1) := dq_109 (by decide +kernel)
theorem dX12_clashOf_63 : decode cX12_clashOf 63 = .ok (.l2i, 1) := dq_136 (by decide +kernel)
theorem dX12_clash_50 : decode cX12_clash 50 = .ok (.ireturn, 1) := dq_172 (by decide +kernel)
theorem dX12_clash_27 : decode cX12_clash 27 = .ok (.aload_n 0, 1) := dq_42 (by decide +kernel)
theorem dX12_clash_28 : decode cX12_clash 28 = .ok (.iload_n 1, 1) := dq_27 (by decide +kernel)
theorem dX12_clash_29 : decode cX12_clash 29 = .ok (.iload_n 2, 1) := dq_28 (by decide +kernel)
theorem dX12_clash_30 : decode cX12_clash 30 = .ok (.aload_n 0, 1) := dq_42 (by decide +kernel)
theorem dX12_clash_31 : decode cX12_clash 31 = .ok (.getfield 97, 3) := dq_180 (a := 0) (b := 97) (by decide +kernel) rfl
theorem dX12_clash_34 : decode cX12_clash 34 = .ok (.invokevirtual 367, 3) := dq_182 (a := 1) (b := 111) (by decide +kernel) rfl
theorem dX12_clash_37 : decode cX12_clash 37 = .ok (.goto 13, 3) := dq_167 (a := 0) (b := 13) (by decide +kernel) (by decide +kernel)
theorem dX12_worst_0 : decode cX12_worst 0 = .ok (.iconst (-1), 1) := dq_2 (by decide +kernel)
theorem dX12_worst_1 : decode cX12_worst 1 = .ok (.istore_n 2, 1) := dq_61 (by decide +kernel)
theorem dX12_worst_2 : decode cX12_worst 2 = .ok (.iconst (-1), 1) := dq_2 (by decide +kernel)
theorem dX12_worst_3 : decode cX12_worst 3 = .ok (.istore_n 3, 1) := dq_62 (by decide +kernel)
theorem dX12_worst_4 : decode cX12_worst 4 = .ok (.iconst 0, 1) := dq_3 (by decide +kernel)
theorem dX12_worst_5 : decode cX12_worst 5 = .ok (.istore 4, 2) := dq_54 (a := 4) (by decide +kernel) rfl
theorem dX12_worst_7 : decode cX12_worst 7 = .ok (.iload 4, 2) := dq_21 (a := 4) (by decide +kernel) rfl
theorem dX12_worst_9 : decode cX12_worst 9 = .ok (.aload_n 0, 1) := dq_42 (by decide +kernel)
theorem dX12_worst_10 : decode cX12_worst 10 = .ok (.getfield 237, 3) := dq_180 (a := 0) (b := 237) (by decide +kernel) rfl
theorem dX12_worst_13 : decode cX12_worst 13 = .ok (.if_icmp .ge 84, 3) := dq_162 (a := 0) (b := 84) (by decide +kernel) (by decide +kernel)
theorem dX12_worst_97 : decode cX12_worst 97 = .ok (.iload_n 2, 1) := dq_28 (by decide +kernel)
theorem dX12_worst_98 : decode cX12_worst 98 = .ok (.ireturn, 1) := dq_172 (by decide +kernel)
theorem dX12_worst_16 : decode cX12_worst 16 = .ok (.iload 4, 2) := dq_21 (a := 4) (by decide +kernel) rfl
theorem dX12_worst_18 : decode cX12_worst 18 = .ok (.iconst 1, 1) := dq_4 (by decide +kernel)
theorem dX12_worst_19 : decode cX12_worst 19 = .ok (.iadd, 1) := dq_96 (by decide +kernel)
theorem dX12_worst_20 : decode cX12_worst 20 = .ok (.istore 5, 2) := dq_54 (a := 5) (by decide +kernel) rfl
theorem dX12_worst_22 : decode cX12_worst 22 = .ok (.iload 5, 2) := dq_21 (a := 5) (by decide +kernel) rfl
theorem dX12_worst_24 : decode cX12_worst 24 = .ok (.aload_n 0, 1) := dq_42 (by decide +kernel)
theorem dX12_worst_25 : decode cX12_worst 25 = .ok (.getfield 237, 3) := dq_180 (a := 0) (b := 237) (by decide +kernel) rfl
theorem dX12_worst_28 : decode cX12_worst 28 = .ok (.if_icmp .ge 63, 3) := dq_162 (a := 0) (b := 63) (by decide +kernel) (by decide +kernel)
theorem dX12_worst_91 : decode cX12_worst 91 = .ok (.iinc 4 1, 3) := dq_132 (a := 4) (b := 1) (by decide +kernel) rfl (by decide +kernel)
theorem dX12_worst_94 : decode cX12_worst 94 = .ok (.goto (-87), 3) := dq_167 (a := 255) (b := 169) (by decide +kernel) (by decide +kernel)
theorem dX12_worst_31 : decode cX12_worst 31 = .ok (.iload_n 1, 1) := dq_27 (by decide +kernel)
theorem dX12_worst_32 : decode cX12_worst 32 = .ok (.ifCond .eq 18, 3) := dq_153 (a := 0) (b := 18) (by decide +kernel) (by decide +kernel)
theorem dX12_worst_50 : decode cX12_worst 50 = .ok (.aload_n 0, 1) := dq_42 (by decide +kernel)
theorem dX12_worst_51 : decode cX12_worst 51 = .ok (.iload 4, 2) := dq_21 (a := 4) (by decide +kernel) rfl
theorem dX12_worst_53 : decode cX12_worst 53 = .ok (.iload 5, 2) := dq_21 (a := 5) (by decide +kernel) rfl
theorem dX12_worst_55 : decode cX12_worst 55 = .ok (.aload_n 0, 1) := dq_42 (by decide +kernel)
theorem dX12_worst_56 : decode cX12_worst 56 = .ok (.getfield 69, 3) := dq_180 (a := 0) (b := 69) (by decide +kernel) rfl
theorem dX12_worst_59 : decode cX12_worst 59 = .ok (.invokevirtual 367, 3) := dq_182 (a := 1) (b := 111) (by decide +kernel) rfl
theorem dX12_worst_62 : decode cX12_worst 62 = .ok (.istore 6, 2) := dq_54 (a := 6) (by decide +kernel) rfl
theorem dX12_worst_64 : decode cX12_worst 64 = .ok (.iload 6, 2) := dq_21 (a := 6) (by decide +kernel) rfl
theorem dX12_worst_66 : decode cX12_worst 66 = .ok (.iload_n 3, 1) := dq_29 (by decide +kernel)
theorem dX12_worst_67 : decode cX12_worst 67 = .ok (.if_icmp .gt 6, 3) := dq_163 (a := 0) (b := 6) (by decide +kernel) (by decide +kernel)
theorem dX12_worst_73 : decode cX12_worst 73 = .ok (.bipush 100, 2) := dq_16 (a := 100) (by decide +kernel) (by decide +kernel)
theorem dX12_worst_75 : decode cX12_worst 75 = .ok (.iload 4, 2) := dq_21 (a := 4) (by decide +kernel) rfl
theorem dX12_worst_77 : decode cX12_worst 77 = .ok (.imul, 1) := dq_104 (by decide +kernel)
theorem dX12_worst_78 : decode cX12_worst 78 = .ok (.iload 5, 2) := dq_21 (a := 5) (by decide +kernel) rfl
theorem dX12_worst_80 : decode cX12_worst 80 = .ok (.iadd, 1) := dq_96 (by decide +kernel)
theorem dX12_worst_81 : decode cX12_worst 81 = .ok (.istore_n 2, 1) := dq_61 (by decide +kernel)
theorem dX12_worst_82 : decode cX12_worst 82 = .ok (.iload 6, 2) := dq_21 (a := 6) (by decide +kernel) rfl
theorem dX12_worst_84 : decode cX12_worst 84 = .ok (.istore_n 3, 1) := dq_62 (by decide +kernel)
theorem dX12_worst_85 : decode cX12_worst 85 = .ok (.iinc 5 1, 3) := dq_132 (a := 5) (b := 1) (by decide +kernel) rfl (by decide +kernel)
theorem dX12_worst_88 : decode cX12_worst 88 = .ok (.goto (-66), 3) := dq_167 (a := 255) (b := 190) (by decide +kernel) (by decide +kernel)
theorem dX12_worst_70 : decode cX12_worst 70 = .ok (.goto 15, 3) := dq_167 (a := 0) (b := 15) (by decide +kernel) (by decide +kernel)
theorem dX12_worst_35 : decode cX12_worst 35 = .ok (.aload_n 0, 1) := dq_42 (by decide +kernel)
theorem dX12_worst_36 : decode cX12_worst 36 = .ok (.iload 4, 2) := dq_21 (a := 4) (by decide +kernel) rfl
theorem dX12_worst_38 : decode cX12_worst 38 = .ok (.iload 5, 2) := dq_21 (a := 5) (by decide +kernel) rfl
theorem dX12_worst_40 : decode cX12_worst 40 = .ok (.aload_n 0, 1) := dq_42 (by decide +kernel)
theorem dX12_worst_41 : decode cX12_worst 41 = .ok (.getfield 97, 3) := dq_180 (a := 0) (b := 97) (by decide +kernel) rfl
theorem dX12_worst_44 : decode cX12_worst 44 = .ok (.invokevirtual 367, 3) := dq_182 (a := 1) (b := 111) (by decide +kernel) rfl
theorem dX12_worst_47 : decode cX12_worst 47 = .ok (.goto 15, 3) := dq_167 (a := 0) (b := 15) (by decide +kernel) (by decide +kernel)
theorem dX12_hear_0 : decode cX12_hear 0 = .ok (.aload_n 0, 1) := dq_42 (by decide +kernel)
theorem dX12_hear_1 : decode cX12_hear 1 = .ok (.getfield 148, 3) := dq_180 (a := 0) (b := 148) (by decide +kernel) rfl
theorem dX12_hear_4 : decode cX12_hear 4 = .ok (.istore_n 1, 1) := dq_60 (by decide +kernel)
theorem dX12_hear_5 : decode cX12_hear 5 = .ok (.aload_n 0, 1) := dq_42 (by decide +kernel)
theorem dX12_hear_6 : decode cX12_hear 6 = .ok (.iconst 0, 1) := dq_3 (by decide +kernel)
theorem dX12_hear_7 : decode cX12_hear 7 = .ok (.putfield 148, 3) := dq_181 (a := 0) (b := 148) (by decide +kernel) rfl
theorem dX12_hear_10 : decode cX12_hear 10 = .ok (.iload_n 1, 1) := dq_27 (by decide +kernel)
theorem dX12_hear_11 : decode cX12_hear 11 = .ok (.iconst 2, 1) := dq_5 (by decide +kernel)
theorem dX12_hear_12 : decode cX12_hear 12 = .ok (.aload_n 0, 1) := dq_42 (by decide +kernel)
theorem dX12_hear_13 : decode cX12_hear 13 = .ok (.getfield 240, 3) := dq_180 (a := 0) (b := 240) (by decide +kernel) rfl
theorem dX12_hear_16 : decode cX12_hear 16 = .ok (.imul, 1) := dq_104 (by decide +kernel)
theorem dX12_hear_17 : decode cX12_hear 17 = .ok (.if_icmp .eq 5, 3) := dq_159 (a := 0) (b := 5) (by decide +kernel) (by decide +kernel)
theorem dX12_hear_22 : decode cX12_hear 22 = .ok (.iconst 0, 1) := dq_3 (by decide +kernel)
theorem dX12_hear_23 : decode cX12_hear 23 = .ok (.istore_n 2, 1) := dq_61 (by decide +kernel)
theorem dX12_hear_24 : decode cX12_hear 24 = .ok (.iload_n 2, 1) := dq_28 (by decide +kernel)
theorem dX12_hear_25 : decode cX12_hear 25 = .ok (.aload_n 0, 1) := dq_42 (by decide +kernel)
theorem dX12_hear_26 : decode cX12_hear 26 = .ok (.getfield 240, 3) := dq_180 (a := 0) (b := 240) (by decide +kernel) rfl
theorem dX12_hear_29 : decode cX12_hear 29 = .ok (.if_icmp .ge 55, 3) := dq_162 (a := 0) (b := 55) (by decide +kernel) (by decide +kernel)
theorem dX12_hear_84 : decode cX12_hear 84 = .ok (.iconst 1, 1) := dq_4 (by decide +kernel)
theorem dX12_hear_85 : decode cX12_hear 85 = .ok (.ireturn, 1) := dq_172 (by decide +kernel)
theorem dX12_hear_32 : decode cX12_hear 32 = .ok (.sipush 256, 3) := dq_17 (a := 1) (b := 0) (by decide +kernel) (by decide +kernel)
theorem dX12_hear_35 : decode cX12_hear 35 = .ok (.aload_n 0, 1) := dq_42 (by decide +kernel)
theorem dX12_hear_36 : decode cX12_hear 36 = .ok (.getfield 7, 3) := dq_180 (a := 0) (b := 7) (by decide +kernel) rfl
theorem dX12_hear_39 : decode cX12_hear 39 = .ok (.iconst 2, 1) := dq_5 (by decide +kernel)
theorem dX12_hear_40 : decode cX12_hear 40 = .ok (.iload_n 2, 1) := dq_28 (by decide +kernel)
theorem dX12_hear_41 : decode cX12_hear 41 = .ok (.imul, 1) := dq_104 (by decide +kernel)
theorem dX12_hear_42 : decode cX12_hear 42 = .ok (.iaload, 1) := dq_46 (by decide +kernel)
theorem dX12_hear_43 : decode cX12_hear 43 = .ok (.imul, 1) := dq_104 (by decide +kernel)
theorem dX12_hear_44 : decode cX12_hear 44 = .ok (.aload_n 0, 1) := dq_42 (by decide +kernel)
theorem dX12_hear_45 : decode cX12_hear 45 = .ok (.getfield 7, 3) := dq_180 (a := 0) (b := 7) (by decide +kernel) rfl
theorem dX12_hear_48 : decode cX12_hear 48 = .ok (.iconst 2, 1) := dq_5 (by decide +kernel)
theorem dX12_hear_49 : decode cX12_hear 49 = .ok (.iload_n 2, 1) := dq_28 (by decide +kernel)
theorem dX12_hear_50 : decode cX12_hear 50 = .ok (.imul, 1) := dq_104 (by decide +kernel)
theorem dX12_hear_51 : decode cX12_hear 51 = .ok (.iconst 1, 1) := dq_4 (by decide +kernel)
theorem dX12_hear_52 : decode cX12_hear 52 = .ok (.iadd, 1) := dq_96 (by decide +kernel)
theorem dX12_hear_53 : decode cX12_hear 53 = .ok (.iaload, 1) := dq_46 (by decide +kernel)
theorem dX12_hear_54 : decode cX12_hear 54 = .ok (.iadd, 1) := dq_96 (by decide +kernel)
theorem dX12_hear_55 : decode cX12_hear 55 = .ok (.istore_n 3, 1) := dq_62 (by decide +kernel)
theorem dX12_hear_56 : decode cX12_hear 56 = .ok (.aload_n 0, 1) := dq_42 (by decide +kernel)
theorem dX12_hear_57 : decode cX12_hear 57 = .ok (.getfield 100, 3) := dq_180 (a := 0) (b := 100) (by decide +kernel) rfl
theorem dX12_hear_60 : decode cX12_hear 60 = .ok (.iload_n 2, 1) := dq_28 (by decide +kernel)
theorem dX12_hear_61 : decode cX12_hear 61 = .ok (.iload_n 3, 1) := dq_29 (by decide +kernel)
theorem dX12_hear_62 : decode cX12_hear 62 = .ok (.sipush 32767, 3) := dq_17 (a := 127) (b := 255) (by decide +kernel) (by decide +kernel)
theorem dX12_hear_65 : decode cX12_hear 65 = .ok (.if_icmp .le 11, 3) := dq_164 (a := 0) (b := 11) (by decide +kernel) (by decide +kernel)
theorem dX12_hear_76 : decode cX12_hear 76 = .ok (.iload_n 3, 1) := dq_29 (by decide +kernel)
theorem dX12_hear_77 : decode cX12_hear 77 = .ok (.iastore, 1) := dq_79 (by decide +kernel)
theorem dX12_hear_78 : decode cX12_hear 78 = .ok (.iinc 2 1, 3) := dq_132 (a := 2) (b := 1) (by decide +kernel) rfl (by decide +kernel)
theorem dX12_hear_81 : decode cX12_hear 81 = .ok (.goto (-57), 3) := dq_167 (a := 255) (b := 199) (by decide +kernel) (by decide +kernel)
theorem dX12_hear_68 : decode cX12_hear 68 = .ok (.iload_n 3, 1) := dq_29 (by decide +kernel)
theorem dX12_hear_69 : decode cX12_hear 69 = .ok (.ldc_w 370, 3) := dq_19 (a := 1) (b := 114) (by decide +kernel) rfl
theorem dX12_hear_72 : decode cX12_hear 72 = .ok (.isub, 1) := dq_100 (by decide +kernel)
theorem dX12_hear_73 : decode cX12_hear 73 = .ok (.goto 4, 3) := dq_167 (a := 0) (b := 4) (by decide +kernel) (by decide +kernel)
theorem dX12_hear_20 : decode cX12_hear 20 = .ok (.iconst 0, 1) := dq_3 (by decide +kernel)
theorem dX12_hear_21 : decode cX12_hear 21 = .ok (.ireturn, 1) := dq_172 (by decide +kernel)
theorem dX12_heard_0 : decode cX12_heard 0 = .ok (.aload_n 0, 1) := dq_42 (by decide +kernel)
theorem dX12_heard_1 : decode cX12_heard 1 = .ok (.iload_n 1, 1) := dq_27 (by decide +kernel)
theorem dX12_heard_2 : decode cX12_heard 2 = .ok (.invokevirtual 358, 3) := dq_182 (a := 1) (b := 102) (by decide +kernel) rfl
theorem dX12_heard_5 : decode cX12_heard 5 = .ok (.ifCond .eq 12, 3) := dq_153 (a := 0) (b := 12) (by decide +kernel) (by decide +kernel)
theorem dX12_heard_17 : decode cX12_heard 17 = .ok (.ldc_w 364, 3) := dq_19 (a := 1) (b := 108) (by decide +kernel) rfl
theorem dX12_heard_20 : decode cX12_heard 20 = .ok (.ireturn, 1) := dq_172 (by decide +kernel)
theorem dX12_heard_8 : decode cX12_heard 8 = .ok (.aload_n 0, 1) := dq_42 (by decide +kernel)
theorem dX12_heard_9 : decode cX12_heard 9 = .ok (.getfield 100, 3) := dq_180 (a := 0) (b := 100) (by decide +kernel) rfl
theorem dX12_heard_12 : decode cX12_heard 12 = .ok (.iload_n 1, 1) := dq_27 (by decide +kernel)
theorem dX12_heard_13 : decode cX12_heard 13 = .ok (.iaload, 1) := dq_46 (by decide +kernel)
theorem dX12_heard_14 : decode cX12_heard 14 = .ok (.goto 6, 3) := dq_167 (a := 0) (b := 6) (by decide +kernel) (by decide +kernel)
theorem dX12_send_0 : decode cX12_send 0 = .ok (.aload_n 0, 1) := dq_42 (by decide +kernel)
theorem dX12_send_1 : decode cX12_send 1 = .ok (.invokevirtual 377, 3) := dq_182 (a := 1) (b := 121) (by decide +kernel) rfl
theorem dX12_isRowTold_0 : decode cX12_isRowTold 0 = .ok (.aload_n 0, 1) := dq_42 (by decide +kernel)
theorem dX12_isRowTold_1 : decode cX12_isRowTold 1 = .ok (.getfield 148, 3) := dq_180 (a := 0) (b := 148) (by decide +kernel) rfl
theorem dX12_isRowTold_4 : decode cX12_isRowTold 4 = .ok (.istore_n 1, 1) := dq_60 (by decide +kernel)
theorem dX12_isRowTold_5 : decode cX12_isRowTold 5 = .ok (.aload_n 0, 1) := dq_42 (by decide +kernel)
theorem dX12_isRowTold_6 : decode cX12_isRowTold 6 = .ok (.iconst 0, 1) := dq_3 (by decide +kernel)
theorem dX12_isRowTold_7 : decode cX12_isRowTold 7 = .ok (.putfield 148, 3) := dq_181 (a := 0) (b := 148) (by decide +kernel) rfl
theorem dX12_isRowTold_10 : decode cX12_isRowTold 10 = .ok (.aload_n 0, 1) := dq_42 (by decide +kernel)
theorem dX12_isRowTold_11 : decode cX12_isRowTold 11 = .ok (.getfield 237, 3) := dq_180 (a := 0) (b := 237) (by decide +kernel) rfl
theorem dX12_isRowTold_14 : decode cX12_isRowTold 14 = .ok (.ifCond .eq 11, 3) := dq_153 (a := 0) (b := 11) (by decide +kernel) (by decide +kernel)
theorem dX12_isRowTold_25 : decode cX12_isRowTold 25 = .ok (.iconst 0, 1) := dq_3 (by decide +kernel)
theorem dX12_isRowTold_26 : decode cX12_isRowTold 26 = .ok (.ireturn, 1) := dq_172 (by decide +kernel)
theorem dX12_isRowTold_17 : decode cX12_isRowTold 17 = .ok (.iload_n 1, 1) := dq_27 (by decide +kernel)
theorem dX12_isRowTold_18 : decode cX12_isRowTold 18 = .ok (.aload_n 0, 1) := dq_42 (by decide +kernel)
theorem dX12_isRowTold_19 : decode cX12_isRowTold 19 = .ok (.getfield 237, 3) := dq_180 (a := 0) (b := 237) (by decide +kernel) rfl
theorem dX12_isRowTold_22 : decode cX12_isRowTold 22 = .ok (.if_icmp .eq 5, 3) := dq_159 (a := 0) (b := 5) (by decide +kernel) (by decide +kernel)
theorem dX12_isRowTold_27 : decode cX12_isRowTold 27 = .ok (.iconst 0, 1) := dq_3 (by decide +kernel)
theorem dX12_isRowTold_28 : decode cX12_isRowTold 28 = .ok (.istore_n 2, 1) := dq_61 (by decide +kernel)
theorem dX12_isRowTold_29 : decode cX12_isRowTold 29 = .ok (.iload_n 2, 1) := dq_28 (by decide +kernel)
theorem dX12_isRowTold_30 : decode cX12_isRowTold 30 = .ok (.aload_n 0, 1) := dq_42 (by decide +kernel)
theorem dX12_isRowTold_31 : decode cX12_isRowTold 31 = .ok (.getfield 237, 3) := dq_180 (a := 0) (b := 237) (by decide +kernel) rfl
theorem dX12_isRowTold_34 : decode cX12_isRowTold 34 = .ok (.if_icmp .ge 60, 3) := dq_162 (a := 0) (b := 60) (by decide +kernel) (by decide +kernel)
theorem dX12_isRowTold_37 : decode cX12_isRowTold 37 = .ok (.aload_n 0, 1) := dq_42 (by decide +kernel)
theorem dX12_isRowTold_38 : decode cX12_isRowTold 38 = .ok (.getfield 103, 3) := dq_180 (a := 0) (b := 103) (by decide +kernel) rfl
theorem dX12_isRowTold_41 : decode cX12_isRowTold 41 = .ok (.iload_n 2, 1) := dq_28 (by decide +kernel)
theorem dX12_isRowTold_42 : decode cX12_isRowTold 42 = .ok (.aload_n 0, 1) := dq_42 (by decide +kernel)
theorem dX12_isRowTold_43 : decode cX12_isRowTold 43 = .ok (.getfield 7, 3) := dq_180 (a := 0) (b := 7) (by decide +kernel) rfl
theorem dX12_isRowTold_46 : decode cX12_isRowTold 46 = .ok (.iload_n 2, 1) := dq_28 (by decide +kernel)
theorem dX12_isRowTold_47 : decode cX12_isRowTold 47 = .ok (.iaload, 1) := dq_46 (by decide +kernel)
theorem dX12_isRowTold_48 : decode cX12_isRowTold 48 = .ok (.bipush 127, 2) := dq_16 (a := 127) (by decide +kernel) (by decide +kernel)
theorem dX12_isRowTold_50 : decode cX12_isRowTold 50 = .ok (.if_icmp .le 16, 3) := dq_164 (a := 0) (b := 16) (by decide +kernel) (by decide +kernel)
theorem dX12_isRowTold_66 : decode cX12_isRowTold 66 = .ok (.aload_n 0, 1) := dq_42 (by decide +kernel)
theorem dX12_isRowTold_67 : decode cX12_isRowTold 67 = .ok (.getfield 7, 3) := dq_180 (a := 0) (b := 7) (by decide +kernel) rfl
theorem dX12_isRowTold_70 : decode cX12_isRowTold 70 = .ok (.iload_n 2, 1) := dq_28 (by decide +kernel)
theorem dX12_isRowTold_71 : decode cX12_isRowTold 71 = .ok (.iaload, 1) := dq_46 (by decide +kernel)
theorem dX12_isRowTold_72 : decode cX12_isRowTold 72 = .ok (.iastore, 1) := dq_79 (by decide +kernel)
theorem dX12_isRowTold_73 : decode cX12_isRowTold 73 = .ok (.aload_n 0, 1) := dq_42 (by decide +kernel)
theorem dX12_isRowTold_74 : decode cX12_isRowTold 74 = .ok (.aload_n 0, 1) := dq_42 (by decide +kernel)
theorem dX12_isRowTold_75 : decode cX12_isRowTold 75 = .ok (.getfield 103, 3) := dq_180 (a := 0) (b := 103) (by decide +kernel) rfl
theorem dX12_isRowTold_78 : decode cX12_isRowTold 78 = .ok (.iload_n 2, 1) := dq_28 (by decide +kernel)
theorem dX12_isRowTold_79 : decode cX12_isRowTold 79 = .ok (.iaload, 1) := dq_46 (by decide +kernel)
theorem dX12_isRowTold_80 : decode cX12_isRowTold 80 = .ok (.invokevirtual 371, 3) := dq_182 (a := 1) (b := 115) (by decide +kernel) rfl
theorem dX12_isLetterOf_0 : decode cX12_isLetterOf 0 = .ok (.iload_n 1, 1) := dq_27 (by decide +kernel)
theorem dX12_isLetterOf_1 : decode cX12_isLetterOf 1 = .ok (.i2l, 1) := dq_133 (by decide +kernel)
theorem dX12_isLetterOf_2 : decode cX12_isLetterOf 2 = .ok (.iconst 1, 1) := dq_4 (by decide +kernel)
theorem dX12_isLetterOf_3 : decode cX12_isLetterOf 3 = .ok (.aload_n 0, 1) := dq_42 (by decide +kernel)
theorem dX12_isLetterOf_4 : decode cX12_isLetterOf 4 = .ok (.getfield 234, 3) := dq_180 (a := 0) (b := 234) (by decide +kernel) rfl
theorem dX12_isLetterOf_7 : decode cX12_isLetterOf 7 = .ok (.isub, 1) := dq_100 (by decide +kernel)
theorem dX12_isLetterOf_8 : decode cX12_isLetterOf 8 = .ok (.i2l, 1) := dq_133 (by decide +kernel)
theorem dX12_isLetterOf_9 : decode cX12_isLetterOf 9 = .ok (.aload_n 0, 1) := dq_42 (by decide +kernel)
theorem dX12_isLetterOf_10 : decode cX12_isLetterOf 10 = .ok (.getfield 234, 3) := dq_180 (a := 0) (b := 234) (by decide +kernel) rfl
theorem dX12_isLetterOf_13 : decode cX12_isLetterOf 13 = .ok (.iconst 1, 1) := dq_4 (by decide +kernel)
theorem dX12_isLetterOf_14 : decode cX12_isLetterOf 14 = .ok (.isub, 1) := dq_100 (by decide +kernel)
theorem dX12_isLetterOf_15 : decode cX12_isLetterOf 15 = .ok (.i2l, 1) := dq_133 (by decide +kernel)
theorem dX12_isLetterOf_16 : decode cX12_isLetterOf 16 = .ok (.invokestatic 191, 3) := dq_184 (a := 0) (b := 191) (by decide +kernel) rfl
theorem dX12_isLetterOf_19 : decode cX12_isLetterOf 19 = .ok (.ifCond .eq 20, 3) := dq_153 (a := 0) (b := 20) (by decide +kernel) (by decide +kernel)
theorem dX12_isLetterOf_39 : decode cX12_isLetterOf 39 = .ok (.iconst 0, 1) := dq_3 (by decide +kernel)
theorem dX12_isLetterOf_40 : decode cX12_isLetterOf 40 = .ok (.ireturn, 1) := dq_172 (by decide +kernel)
theorem dX12_isLetterOf_22 : decode cX12_isLetterOf 22 = .ok (.iload_n 1, 1) := dq_27 (by decide +kernel)
theorem dX12_isLetterOf_23 : decode cX12_isLetterOf 23 = .ok (.aload_n 0, 1) := dq_42 (by decide +kernel)
theorem dX12_isLetterOf_24 : decode cX12_isLetterOf 24 = .ok (.getfield 234, 3) := dq_180 (a := 0) (b := 234) (by decide +kernel) rfl
theorem dX12_isLetterOf_27 : decode cX12_isLetterOf 27 = .ok (.iadd, 1) := dq_96 (by decide +kernel)
theorem dX12_isLetterOf_28 : decode cX12_isLetterOf 28 = .ok (.iconst 1, 1) := dq_4 (by decide +kernel)
theorem dX12_isLetterOf_29 : decode cX12_isLetterOf 29 = .ok (.isub, 1) := dq_100 (by decide +kernel)
theorem dX12_isLetterOf_30 : decode cX12_isLetterOf 30 = .ok (.iconst 2, 1) := dq_5 (by decide +kernel)
theorem dX12_isLetterOf_31 : decode cX12_isLetterOf 31 = .ok (.irem, 1) := dq_112 (by decide +kernel)
theorem dX12_isLetterOf_32 : decode cX12_isLetterOf 32 = .ok (.ifCond .ne 7, 3) := dq_154 (a := 0) (b := 7) (by decide +kernel) (by decide +kernel)
theorem dX12_isLetterOf_35 : decode cX12_isLetterOf 35 = .ok (.iconst 1, 1) := dq_4 (by decide +kernel)
theorem dX12_isLetterOf_36 : decode cX12_isLetterOf 36 = .ok (.goto 4, 3) := dq_167 (a := 0) (b := 4) (by decide +kernel) (by decide +kernel)
theorem dX12_isRowTold_83 : decode cX12_isRowTold 83 = .ok (.ifCond .ne 5, 3) := dq_154 (a := 0) (b := 5) (by decide +kernel) (by decide +kernel)
theorem dX12_isRowTold_88 : decode cX12_isRowTold 88 = .ok (.iinc 2 1, 3) := dq_132 (a := 2) (b := 1) (by decide +kernel) rfl (by decide +kernel)
theorem dX12_isRowTold_91 : decode cX12_isRowTold 91 = .ok (.goto (-62), 3) := dq_167 (a := 255) (b := 194) (by decide +kernel) (by decide +kernel)
theorem dX12_isRowTold_86 : decode cX12_isRowTold 86 = .ok (.iconst 0, 1) := dq_3 (by decide +kernel)
theorem dX12_isRowTold_87 : decode cX12_isRowTold 87 = .ok (.ireturn, 1) := dq_172 (by decide +kernel)
theorem dX12_isRowTold_53 : decode cX12_isRowTold 53 = .ok (.aload_n 0, 1) := dq_42 (by decide +kernel)
theorem dX12_isRowTold_54 : decode cX12_isRowTold 54 = .ok (.getfield 7, 3) := dq_180 (a := 0) (b := 7) (by decide +kernel) rfl
theorem dX12_isRowTold_57 : decode cX12_isRowTold 57 = .ok (.iload_n 2, 1) := dq_28 (by decide +kernel)
theorem dX12_isRowTold_58 : decode cX12_isRowTold 58 = .ok (.iaload, 1) := dq_46 (by decide +kernel)
theorem dX12_isRowTold_59 : decode cX12_isRowTold 59 = .ok (.sipush 256, 3) := dq_17 (a := 1) (b := 0) (by decide +kernel) (by decide +kernel)
theorem dX12_isRowTold_62 : decode cX12_isRowTold 62 = .ok (.isub, 1) := dq_100 (by decide +kernel)
theorem dX12_isRowTold_63 : decode cX12_isRowTold 63 = .ok (.goto 9, 3) := dq_167 (a := 0) (b := 9) (by decide +kernel) (by decide +kernel)
theorem dX12_isRowTold_94 : decode cX12_isRowTold 94 = .ok (.iconst 1, 1) := dq_4 (by decide +kernel)
theorem dX12_isRowTold_95 : decode cX12_isRowTold 95 = .ok (.ireturn, 1) := dq_172 (by decide +kernel)
theorem dX12_send_4 : decode cX12_send 4 = .ok (.ifCond .ne 5, 3) := dq_154 (a := 0) (b := 5) (by decide +kernel) (by decide +kernel)
theorem dX12_send_9 : decode cX12_send 9 = .ok (.iconst 0, 1) := dq_3 (by decide +kernel)
theorem dX12_send_10 : decode cX12_send 10 = .ok (.istore_n 1, 1) := dq_60 (by decide +kernel)
theorem dX12_send_11 : decode cX12_send 11 = .ok (.iload_n 1, 1) := dq_27 (by decide +kernel)
theorem dX12_send_12 : decode cX12_send 12 = .ok (.aload_n 0, 1) := dq_42 (by decide +kernel)
theorem dX12_send_13 : decode cX12_send 13 = .ok (.getfield 240, 3) := dq_180 (a := 0) (b := 240) (by decide +kernel) rfl
theorem dX12_send_16 : decode cX12_send 16 = .ok (.if_icmp .ge 20, 3) := dq_162 (a := 0) (b := 20) (by decide +kernel) (by decide +kernel)
theorem dX12_send_36 : decode cX12_send 36 = .ok (.iconst 1, 1) := dq_4 (by decide +kernel)
theorem dX12_send_37 : decode cX12_send 37 = .ok (.ireturn, 1) := dq_172 (by decide +kernel)
theorem dX12_send_19 : decode cX12_send 19 = .ok (.aload_n 0, 1) := dq_42 (by decide +kernel)
theorem dX12_send_20 : decode cX12_send 20 = .ok (.getfield 100, 3) := dq_180 (a := 0) (b := 100) (by decide +kernel) rfl
theorem dX12_send_23 : decode cX12_send 23 = .ok (.iload_n 1, 1) := dq_27 (by decide +kernel)
theorem dX12_send_24 : decode cX12_send 24 = .ok (.aload_n 0, 1) := dq_42 (by decide +kernel)
theorem dX12_send_25 : decode cX12_send 25 = .ok (.iload_n 1, 1) := dq_27 (by decide +kernel)
theorem dX12_send_26 : decode cX12_send 26 = .ok (.invokevirtual 374, 3) := dq_182 (a := 1) (b := 118) (by decide +kernel) rfl
theorem dX12_sentTo_0 : decode cX12_sentTo 0 = .ok (.iconst 0, 1) := dq_3 (by decide +kernel)
theorem dX12_sentTo_1 : decode cX12_sentTo 1 = .ok (.istore_n 2, 1) := dq_61 (by decide +kernel)
theorem dX12_sentTo_2 : decode cX12_sentTo 2 = .ok (.iconst 0, 1) := dq_3 (by decide +kernel)
theorem dX12_sentTo_3 : decode cX12_sentTo 3 = .ok (.istore_n 3, 1) := dq_62 (by decide +kernel)
theorem dX12_sentTo_4 : decode cX12_sentTo 4 = .ok (.iload_n 3, 1) := dq_29 (by decide +kernel)
theorem dX12_sentTo_5 : decode cX12_sentTo 5 = .ok (.aload_n 0, 1) := dq_42 (by decide +kernel)
theorem dX12_sentTo_6 : decode cX12_sentTo 6 = .ok (.getfield 237, 3) := dq_180 (a := 0) (b := 237) (by decide +kernel) rfl
theorem dX12_sentTo_9 : decode cX12_sentTo 9 = .ok (.if_icmp .ge 29, 3) := dq_162 (a := 0) (b := 29) (by decide +kernel) (by decide +kernel)
theorem dX12_sentTo_38 : decode cX12_sentTo 38 = .ok (.iload_n 2, 1) := dq_28 (by decide +kernel)
theorem dX12_sentTo_39 : decode cX12_sentTo 39 = .ok (.ireturn, 1) := dq_172 (by decide +kernel)
theorem dX12_sentTo_12 : decode cX12_sentTo 12 = .ok (.iload_n 2, 1) := dq_28 (by decide +kernel)
theorem dX12_sentTo_13 : decode cX12_sentTo 13 = .ok (.aload_n 0, 1) := dq_42 (by decide +kernel)
theorem dX12_sentTo_14 : decode cX12_sentTo 14 = .ok (.getfield 69, 3) := dq_180 (a := 0) (b := 69) (by decide +kernel) rfl
theorem dX12_sentTo_17 : decode cX12_sentTo 17 = .ok (.iconst 5, 1) := dq_8 (by decide +kernel)
theorem dX12_sentTo_18 : decode cX12_sentTo 18 = .ok (.iload_n 1, 1) := dq_27 (by decide +kernel)
theorem dX12_sentTo_19 : decode cX12_sentTo 19 = .ok (.imul, 1) := dq_104 (by decide +kernel)
theorem dX12_sentTo_20 : decode cX12_sentTo 20 = .ok (.iload_n 3, 1) := dq_29 (by decide +kernel)
theorem dX12_sentTo_21 : decode cX12_sentTo 21 = .ok (.iadd, 1) := dq_96 (by decide +kernel)
theorem dX12_sentTo_22 : decode cX12_sentTo 22 = .ok (.iaload, 1) := dq_46 (by decide +kernel)
theorem dX12_sentTo_23 : decode cX12_sentTo 23 = .ok (.aload_n 0, 1) := dq_42 (by decide +kernel)
theorem dX12_sentTo_24 : decode cX12_sentTo 24 = .ok (.getfield 103, 3) := dq_180 (a := 0) (b := 103) (by decide +kernel) rfl
theorem dX12_sentTo_27 : decode cX12_sentTo 27 = .ok (.iload_n 3, 1) := dq_29 (by decide +kernel)
theorem dX12_sentTo_28 : decode cX12_sentTo 28 = .ok (.iaload, 1) := dq_46 (by decide +kernel)
theorem dX12_sentTo_29 : decode cX12_sentTo 29 = .ok (.imul, 1) := dq_104 (by decide +kernel)
theorem dX12_sentTo_30 : decode cX12_sentTo 30 = .ok (.iadd, 1) := dq_96 (by decide +kernel)
theorem dX12_sentTo_31 : decode cX12_sentTo 31 = .ok (.istore_n 2, 1) := dq_61 (by decide +kernel)
theorem dX12_sentTo_32 : decode cX12_sentTo 32 = .ok (.iinc 3 1, 3) := dq_132 (a := 3) (b := 1) (by decide +kernel) rfl (by decide +kernel)
theorem dX12_sentTo_35 : decode cX12_sentTo 35 = .ok (.goto (-31), 3) := dq_167 (a := 255) (b := 225) (by decide +kernel) (by decide +kernel)
theorem dX12_send_29 : decode cX12_send 29 = .ok (.iastore, 1) := dq_79 (by decide +kernel)
theorem dX12_send_30 : decode cX12_send 30 = .ok (.iinc 1 1, 3) := dq_132 (a := 1) (b := 1) (by decide +kernel) rfl (by decide +kernel)
theorem dX12_send_33 : decode cX12_send 33 = .ok (.goto (-22), 3) := dq_167 (a := 255) (b := 234) (by decide +kernel) (by decide +kernel)
theorem dX12_send_7 : decode cX12_send 7 = .ok (.iconst 0, 1) := dq_3 (by decide +kernel)
theorem dX12_send_8 : decode cX12_send 8 = .ok (.ireturn, 1) := dq_172 (by decide +kernel)
theorem dX12_distance_0 : decode cX12_distance 0 = .ok (.aload_n 0, 1) := dq_42 (by decide +kernel)
theorem dX12_distance_1 : decode cX12_distance 1 = .ok (.invokevirtual 377, 3) := dq_182 (a := 1) (b := 121) (by decide +kernel) rfl
theorem dX12_distance_4 : decode cX12_distance 4 = .ok (.ifCond .eq 11, 3) := dq_153 (a := 0) (b := 11) (by decide +kernel) (by decide +kernel)
theorem dX12_distance_15 : decode cX12_distance 15 = .ok (.ldc2_w 384, 3) := dq_20 (a := 1) (b := 128) (by decide +kernel) rfl
theorem dX12_distance_18 : decode cX12_distance 18 = .ok (.lreturn, 1) := dq_173 (by decide +kernel)
theorem dX12_distance_7 : decode cX12_distance 7 = .ok (.aload_n 0, 1) := dq_42 (by decide +kernel)
theorem dX12_distance_8 : decode cX12_distance 8 = .ok (.iconst 1, 1) := dq_4 (by decide +kernel)
theorem dX12_distance_9 : decode cX12_distance 9 = .ok (.invokevirtual 380, 3) := dq_182 (a := 1) (b := 124) (by decide +kernel) rfl
theorem dX12_squaresLess_0 : decode cX12_squaresLess 0 = .ok (.lconst 0, 1) := dq_9 (by decide +kernel)
theorem dX12_squaresLess_1 : decode cX12_squaresLess 1 = .ok (.lstore_n 2, 1) := dq_65 (by decide +kernel)
theorem dX12_squaresLess_2 : decode cX12_squaresLess 2 = .ok (.iconst 0, 1) := dq_3 (by decide +kernel)
theorem dX12_squaresLess_3 : decode cX12_squaresLess 3 = .ok (.istore 4, 2) := dq_54 (a := 4) (by decide +kernel) rfl
theorem dX12_squaresLess_5 : decode cX12_squaresLess 5 = .ok (.iload 4, 2) := dq_21 (a := 4) (by decide +kernel) rfl
theorem dX12_squaresLess_7 : decode cX12_squaresLess 7 = .ok (.aload_n 0, 1) := dq_42 (by decide +kernel)
theorem dX12_squaresLess_8 : decode cX12_squaresLess 8 = .ok (.getfield 240, 3) := dq_180 (a := 0) (b := 240) (by decide +kernel) rfl
theorem dX12_squaresLess_11 : decode cX12_squaresLess 11 = .ok (.if_icmp .ge 42, 3) := dq_162 (a := 0) (b := 42) (by decide +kernel) (by decide +kernel)
theorem dX12_squaresLess_53 : decode cX12_squaresLess 53 = .ok (.lload_n 2, 1) := dq_32 (by decide +kernel)
theorem dX12_squaresLess_54 : decode cX12_squaresLess 54 = .ok (.lreturn, 1) := dq_173 (by decide +kernel)
theorem dX12_squaresLess_14 : decode cX12_squaresLess 14 = .ok (.iload_n 1, 1) := dq_27 (by decide +kernel)
theorem dX12_squaresLess_15 : decode cX12_squaresLess 15 = .ok (.ifCond .eq 13, 3) := dq_153 (a := 0) (b := 13) (by decide +kernel) (by decide +kernel)
theorem dX12_squaresLess_28 : decode cX12_squaresLess 28 = .ok (.iconst 0, 1) := dq_3 (by decide +kernel)
theorem dX12_squaresLess_29 : decode cX12_squaresLess 29 = .ok (.aload_n 0, 1) := dq_42 (by decide +kernel)
theorem dX12_squaresLess_30 : decode cX12_squaresLess 30 = .ok (.iload 4, 2) := dq_21 (a := 4) (by decide +kernel) rfl
theorem dX12_squaresLess_32 : decode cX12_squaresLess 32 = .ok (.invokevirtual 374, 3) := dq_182 (a := 1) (b := 118) (by decide +kernel) rfl
theorem dX12_squaresLess_35 : decode cX12_squaresLess 35 = .ok (.isub, 1) := dq_100 (by decide +kernel)
theorem dX12_squaresLess_36 : decode cX12_squaresLess 36 = .ok (.i2l, 1) := dq_133 (by decide +kernel)
theorem dX12_squaresLess_37 : decode cX12_squaresLess 37 = .ok (.lstore 5, 2) := dq_55 (a := 5) (by decide +kernel) rfl
theorem dX12_squaresLess_39 : decode cX12_squaresLess 39 = .ok (.lload_n 2, 1) := dq_32 (by decide +kernel)
theorem dX12_squaresLess_40 : decode cX12_squaresLess 40 = .ok (.lload 5, 2) := dq_22 (a := 5) (by decide +kernel) rfl
theorem dX12_squaresLess_42 : decode cX12_squaresLess 42 = .ok (.lload 5, 2) := dq_22 (a := 5) (by decide +kernel) rfl
theorem dX12_squaresLess_44 : decode cX12_squaresLess 44 = .ok (.lmul, 1) := dq_105 (by decide +kernel)
theorem dX12_squaresLess_45 : decode cX12_squaresLess 45 = .ok (.ladd, 1) := dq_97 (by decide +kernel)
theorem dX12_squaresLess_46 : decode cX12_squaresLess 46 = .ok (.lstore_n 2, 1) := dq_65 (by decide +kernel)
theorem dX12_squaresLess_47 : decode cX12_squaresLess 47 = .ok (.iinc 4 1, 3) := dq_132 (a := 4) (b := 1) (by decide +kernel) rfl (by decide +kernel)
theorem dX12_squaresLess_50 : decode cX12_squaresLess 50 = .ok (.goto (-45), 3) := dq_167 (a := 255) (b := 211) (by decide +kernel) (by decide +kernel)
theorem dX12_squaresLess_18 : decode cX12_squaresLess 18 = .ok (.aload_n 0, 1) := dq_42 (by decide +kernel)
theorem dX12_squaresLess_19 : decode cX12_squaresLess 19 = .ok (.getfield 100, 3) := dq_180 (a := 0) (b := 100) (by decide +kernel) rfl
theorem dX12_squaresLess_22 : decode cX12_squaresLess 22 = .ok (.iload 4, 2) := dq_21 (a := 4) (by decide +kernel) rfl
theorem dX12_squaresLess_24 : decode cX12_squaresLess 24 = .ok (.iaload, 1) := dq_46 (by decide +kernel)
theorem dX12_squaresLess_25 : decode cX12_squaresLess 25 = .ok (.goto 4, 3) := dq_167 (a := 0) (b := 4) (by decide +kernel) (by decide +kernel)
theorem dX12_distance_12 : decode cX12_distance 12 = .ok (.goto 6, 3) := dq_167 (a := 0) (b := 6) (by decide +kernel) (by decide +kernel)
theorem dX12_slips_0 : decode cX12_slips 0 = .ok (.iload_n 1, 1) := dq_27 (by decide +kernel)
theorem dX12_slips_1 : decode cX12_slips 1 = .ok (.i2l, 1) := dq_133 (by decide +kernel)
theorem dX12_slips_2 : decode cX12_slips 2 = .ok (.lconst 0, 1) := dq_9 (by decide +kernel)
theorem dX12_slips_3 : decode cX12_slips 3 = .ok (.ldc2_w 398, 3) := dq_20 (a := 1) (b := 142) (by decide +kernel) rfl
theorem dX12_slips_6 : decode cX12_slips 6 = .ok (.invokestatic 191, 3) := dq_184 (a := 0) (b := 191) (by decide +kernel) rfl
theorem dX12_slips_9 : decode cX12_slips 9 = .ok (.ifCond .eq 14, 3) := dq_153 (a := 0) (b := 14) (by decide +kernel) (by decide +kernel)
theorem dX12_slips_23 : decode cX12_slips 23 = .ok (.iconst (-1), 1) := dq_2 (by decide +kernel)
theorem dX12_slips_24 : decode cX12_slips 24 = .ok (.ireturn, 1) := dq_172 (by decide +kernel)
theorem dX12_slips_12 : decode cX12_slips 12 = .ok (.iload_n 2, 1) := dq_28 (by decide +kernel)
theorem dX12_slips_13 : decode cX12_slips 13 = .ok (.ifCond .lt 10, 3) := dq_155 (a := 0) (b := 10) (by decide +kernel) (by decide +kernel)
theorem dX12_slips_16 : decode cX12_slips 16 = .ok (.aload_n 0, 1) := dq_42 (by decide +kernel)
theorem dX12_slips_17 : decode cX12_slips 17 = .ok (.getfield 240, 3) := dq_180 (a := 0) (b := 240) (by decide +kernel) rfl
theorem dX12_slips_20 : decode cX12_slips 20 = .ok (.ifCond .ne 5, 3) := dq_154 (a := 0) (b := 5) (by decide +kernel) (by decide +kernel)
theorem dX12_slips_25 : decode cX12_slips 25 = .ok (.aload_n 0, 1) := dq_42 (by decide +kernel)
theorem dX12_slips_26 : decode cX12_slips 26 = .ok (.iload_n 2, 1) := dq_28 (by decide +kernel)
theorem dX12_slips_27 : decode cX12_slips 27 = .ok (.i2l, 1) := dq_133 (by decide +kernel)
theorem dX12_slips_28 : decode cX12_slips 28 = .ok (.putfield 388, 3) := dq_181 (a := 1) (b := 132) (by decide +kernel) rfl
theorem dX12_slips_31 : decode cX12_slips 31 = .ok (.iconst 0, 1) := dq_3 (by decide +kernel)
theorem dX12_slips_32 : decode cX12_slips 32 = .ok (.istore_n 3, 1) := dq_62 (by decide +kernel)
theorem dX12_slips_33 : decode cX12_slips 33 = .ok (.iload_n 3, 1) := dq_29 (by decide +kernel)
theorem dX12_slips_34 : decode cX12_slips 34 = .ok (.aload_n 0, 1) := dq_42 (by decide +kernel)
theorem dX12_slips_35 : decode cX12_slips 35 = .ok (.getfield 240, 3) := dq_180 (a := 0) (b := 240) (by decide +kernel) rfl
theorem dX12_slips_38 : decode cX12_slips 38 = .ok (.if_icmp .ge 65, 3) := dq_162 (a := 0) (b := 65) (by decide +kernel) (by decide +kernel)
theorem dX12_slips_41 : decode cX12_slips 41 = .ok (.aload_n 0, 1) := dq_42 (by decide +kernel)
theorem dX12_slips_42 : decode cX12_slips 42 = .ok (.getfield 100, 3) := dq_180 (a := 0) (b := 100) (by decide +kernel) rfl
theorem dX12_slips_45 : decode cX12_slips 45 = .ok (.iload_n 3, 1) := dq_29 (by decide +kernel)
theorem dX12_slips_46 : decode cX12_slips 46 = .ok (.iaload, 1) := dq_46 (by decide +kernel)
theorem dX12_slips_47 : decode cX12_slips 47 = .ok (.aload_n 0, 1) := dq_42 (by decide +kernel)
theorem dX12_slips_48 : decode cX12_slips 48 = .ok (.iconst 2, 1) := dq_5 (by decide +kernel)
theorem dX12_slips_49 : decode cX12_slips 49 = .ok (.iload_n 1, 1) := dq_27 (by decide +kernel)
theorem dX12_slips_50 : decode cX12_slips 50 = .ok (.imul, 1) := dq_104 (by decide +kernel)
theorem dX12_slips_51 : decode cX12_slips 51 = .ok (.iconst 1, 1) := dq_4 (by decide +kernel)
theorem dX12_slips_52 : decode cX12_slips 52 = .ok (.iadd, 1) := dq_96 (by decide +kernel)
theorem dX12_slips_53 : decode cX12_slips 53 = .ok (.invokevirtual 400, 3) := dq_182 (a := 1) (b := 144) (by decide +kernel) rfl
theorem dX12_drawOf_0 : decode cX12_drawOf 0 = .ok (.aload_n 0, 1) := dq_42 (by decide +kernel)
theorem dX12_drawOf_1 : decode cX12_drawOf 1 = .ok (.ldc2_w 386, 3) := dq_20 (a := 1) (b := 130) (by decide +kernel) rfl
theorem dX12_drawOf_4 : decode cX12_drawOf 4 = .ok (.aload_n 0, 1) := dq_42 (by decide +kernel)
theorem dX12_drawOf_5 : decode cX12_drawOf 5 = .ok (.getfield 388, 3) := dq_180 (a := 1) (b := 132) (by decide +kernel) rfl
theorem dX12_drawOf_8 : decode cX12_drawOf 8 = .ok (.lmul, 1) := dq_105 (by decide +kernel)
theorem dX12_drawOf_9 : decode cX12_drawOf 9 = .ok (.ldc2_w 392, 3) := dq_20 (a := 1) (b := 136) (by decide +kernel) rfl
theorem dX12_drawOf_12 : decode cX12_drawOf 12 = .ok (.ladd, 1) := dq_97 (by decide +kernel)
theorem dX12_drawOf_13 : decode cX12_drawOf 13 = .ok (.ldc2_w 394, 3) := dq_20 (a := 1) (b := 138) (by decide +kernel) rfl
theorem dX12_drawOf_16 : decode cX12_drawOf 16 = .ok (.lrem, 1) := dq_113 (by decide +kernel)
theorem dX12_drawOf_17 : decode cX12_drawOf 17 = .ok (.putfield 388, 3) := dq_181 (a := 1) (b := 132) (by decide +kernel) rfl
theorem dX12_drawOf_20 : decode cX12_drawOf 20 = .ok (.aload_n 0, 1) := dq_42 (by decide +kernel)
theorem dX12_drawOf_21 : decode cX12_drawOf 21 = .ok (.getfield 388, 3) := dq_180 (a := 1) (b := 132) (by decide +kernel) rfl
theorem dX12_drawOf_24 : decode cX12_drawOf 24 = .ok (.ldc2_w 396, 3) := dq_20 (a := 1) (b := 140) (by decide +kernel) rfl
theorem dX12_drawOf_27 : decode cX12_drawOf 27 = .ok (.ldiv, 1) := dq_109 (by decide +kernel)
theorem dX12_drawOf_28 : decode cX12_drawOf 28 = .ok (.iload_n 1, 1) := dq_27 (by decide +kernel)
theorem dX12_drawOf_29 : decode cX12_drawOf 29 = .ok (.i2l, 1) := dq_133 (by decide +kernel)
theorem dX12_drawOf_30 : decode cX12_drawOf 30 = .ok (.lrem, 1) := dq_113 (by decide +kernel)
theorem dX12_drawOf_31 : decode cX12_drawOf 31 = .ok (.l2i, 1) := dq_136 (by decide +kernel)
theorem dX12_drawOf_32 : decode cX12_drawOf 32 = .ok (.ireturn, 1) := dq_172 (by decide +kernel)
theorem dX12_slips_56 : decode cX12_slips 56 = .ok (.iadd, 1) := dq_96 (by decide +kernel)
theorem dX12_slips_57 : decode cX12_slips 57 = .ok (.iload_n 1, 1) := dq_27 (by decide +kernel)
theorem dX12_slips_58 : decode cX12_slips 58 = .ok (.isub, 1) := dq_100 (by decide +kernel)
theorem dX12_slips_59 : decode cX12_slips 59 = .ok (.istore 4, 2) := dq_54 (a := 4) (by decide +kernel) rfl
theorem dX12_slips_61 : decode cX12_slips 61 = .ok (.aload_n 0, 1) := dq_42 (by decide +kernel)
theorem dX12_slips_62 : decode cX12_slips 62 = .ok (.getfield 100, 3) := dq_180 (a := 0) (b := 100) (by decide +kernel) rfl
theorem dX12_slips_65 : decode cX12_slips 65 = .ok (.iload_n 3, 1) := dq_29 (by decide +kernel)
theorem dX12_slips_66 : decode cX12_slips 66 = .ok (.iload 4, 2) := dq_21 (a := 4) (by decide +kernel) rfl
theorem dX12_slips_68 : decode cX12_slips 68 = .ok (.sipush 32767, 3) := dq_17 (a := 127) (b := 255) (by decide +kernel) (by decide +kernel)
theorem dX12_slips_71 : decode cX12_slips 71 = .ok (.if_icmp .le 9, 3) := dq_164 (a := 0) (b := 9) (by decide +kernel) (by decide +kernel)
theorem dX12_slips_80 : decode cX12_slips 80 = .ok (.iload 4, 2) := dq_21 (a := 4) (by decide +kernel) rfl
theorem dX12_slips_82 : decode cX12_slips 82 = .ok (.sipush (-32768), 3) := dq_17 (a := 128) (b := 0) (by decide +kernel) (by decide +kernel)
theorem dX12_slips_85 : decode cX12_slips 85 = .ok (.if_icmp .ge 9, 3) := dq_162 (a := 0) (b := 9) (by decide +kernel) (by decide +kernel)
theorem dX12_slips_94 : decode cX12_slips 94 = .ok (.iload 4, 2) := dq_21 (a := 4) (by decide +kernel) rfl
theorem dX12_slips_96 : decode cX12_slips 96 = .ok (.iastore, 1) := dq_79 (by decide +kernel)
theorem dX12_slips_97 : decode cX12_slips 97 = .ok (.iinc 3 1, 3) := dq_132 (a := 3) (b := 1) (by decide +kernel) rfl (by decide +kernel)
theorem dX12_slips_100 : decode cX12_slips 100 = .ok (.goto (-67), 3) := dq_167 (a := 255) (b := 189) (by decide +kernel) (by decide +kernel)
theorem dX12_slips_88 : decode cX12_slips 88 = .ok (.sipush (-32768), 3) := dq_17 (a := 128) (b := 0) (by decide +kernel) (by decide +kernel)
theorem dX12_slips_91 : decode cX12_slips 91 = .ok (.goto 5, 3) := dq_167 (a := 0) (b := 5) (by decide +kernel) (by decide +kernel)
theorem dX12_slips_74 : decode cX12_slips 74 = .ok (.sipush 32767, 3) := dq_17 (a := 127) (b := 255) (by decide +kernel) (by decide +kernel)
theorem dX12_slips_77 : decode cX12_slips 77 = .ok (.goto 19, 3) := dq_167 (a := 0) (b := 19) (by decide +kernel) (by decide +kernel)
theorem dX12_slips_103 : decode cX12_slips 103 = .ok (.aload_n 0, 1) := dq_42 (by decide +kernel)
theorem dX12_slips_104 : decode cX12_slips 104 = .ok (.getfield 240, 3) := dq_180 (a := 0) (b := 240) (by decide +kernel) rfl
theorem dX12_slips_107 : decode cX12_slips 107 = .ok (.ireturn, 1) := dq_172 (by decide +kernel)
theorem dX12_nearest_0 : decode cX12_nearest 0 = .ok (.aload_n 0, 1) := dq_42 (by decide +kernel)
theorem dX12_nearest_1 : decode cX12_nearest 1 = .ok (.iload_n 2, 1) := dq_28 (by decide +kernel)
theorem dX12_nearest_2 : decode cX12_nearest 2 = .ok (.invokevirtual 361, 3) := dq_182 (a := 1) (b := 105) (by decide +kernel) rfl
theorem dX12_nearest_5 : decode cX12_nearest 5 = .ok (.ifCond .eq 11, 3) := dq_153 (a := 0) (b := 11) (by decide +kernel) (by decide +kernel)
theorem dX12_nearest_16 : decode cX12_nearest 16 = .ok (.ldc_w 364, 3) := dq_19 (a := 1) (b := 108) (by decide +kernel) rfl
theorem dX12_nearest_19 : decode cX12_nearest 19 = .ok (.ireturn, 1) := dq_172 (by decide +kernel)
theorem dX12_nearest_8 : decode cX12_nearest 8 = .ok (.aload_n 0, 1) := dq_42 (by decide +kernel)
theorem dX12_nearest_9 : decode cX12_nearest 9 = .ok (.iload_n 1, 1) := dq_27 (by decide +kernel)
theorem dX12_nearest_10 : decode cX12_nearest 10 = .ok (.invokevirtual 416, 3) := dq_182 (a := 1) (b := 160) (by decide +kernel) rfl
theorem dX12_isNear_0 : decode cX12_isNear 0 = .ok (.iload_n 1, 1) := dq_27 (by decide +kernel)
theorem dX12_isNear_1 : decode cX12_isNear 1 = .ok (.i2l, 1) := dq_133 (by decide +kernel)
theorem dX12_isNear_2 : decode cX12_isNear 2 = .ok (.lconst 0, 1) := dq_9 (by decide +kernel)
theorem dX12_isNear_3 : decode cX12_isNear 3 = .ok (.ldc2_w 332, 3) := dq_20 (a := 1) (b := 76) (by decide +kernel) rfl
theorem dX12_isNear_6 : decode cX12_isNear 6 = .ok (.invokestatic 191, 3) := dq_184 (a := 0) (b := 191) (by decide +kernel) rfl
theorem dX12_isNear_9 : decode cX12_isNear 9 = .ok (.ifCond .eq 20, 3) := dq_153 (a := 0) (b := 20) (by decide +kernel) (by decide +kernel)
theorem dX12_isNear_29 : decode cX12_isNear 29 = .ok (.iconst 0, 1) := dq_3 (by decide +kernel)
theorem dX12_isNear_30 : decode cX12_isNear 30 = .ok (.ireturn, 1) := dq_172 (by decide +kernel)
theorem dX12_isNear_12 : decode cX12_isNear 12 = .ok (.aload_n 0, 1) := dq_42 (by decide +kernel)
theorem dX12_isNear_13 : decode cX12_isNear 13 = .ok (.iload_n 1, 1) := dq_27 (by decide +kernel)
theorem dX12_isNear_14 : decode cX12_isNear 14 = .ok (.iconst 1, 1) := dq_4 (by decide +kernel)
theorem dX12_isNear_15 : decode cX12_isNear 15 = .ok (.iadd, 1) := dq_96 (by decide +kernel)
theorem dX12_isNear_16 : decode cX12_isNear 16 = .ok (.invokevirtual 413, 3) := dq_182 (a := 1) (b := 157) (by decide +kernel) rfl
theorem dX12_nears_0 : decode cX12_nears 0 = .ok (.iconst 0, 1) := dq_3 (by decide +kernel)
theorem dX12_nears_1 : decode cX12_nears 1 = .ok (.istore_n 2, 1) := dq_61 (by decide +kernel)
theorem dX12_nears_2 : decode cX12_nears 2 = .ok (.iconst 0, 1) := dq_3 (by decide +kernel)
theorem dX12_nears_3 : decode cX12_nears 3 = .ok (.istore_n 3, 1) := dq_62 (by decide +kernel)
theorem dX12_nears_4 : decode cX12_nears 4 = .ok (.iload_n 3, 1) := dq_29 (by decide +kernel)
theorem dX12_nears_5 : decode cX12_nears 5 = .ok (.aload_n 0, 1) := dq_42 (by decide +kernel)
theorem dX12_nears_6 : decode cX12_nears 6 = .ok (.invokevirtual 406, 3) := dq_182 (a := 1) (b := 150) (by decide +kernel) rfl
theorem dX12_rowMany_0 : decode cX12_rowMany 0 = .ok (.aload_n 0, 1) := dq_42 (by decide +kernel)
theorem dX12_rowMany_1 : decode cX12_rowMany 1 = .ok (.getfield 237, 3) := dq_180 (a := 0) (b := 237) (by decide +kernel) rfl
theorem dX12_rowMany_4 : decode cX12_rowMany 4 = .ok (.ifCond .ne 5, 3) := dq_154 (a := 0) (b := 5) (by decide +kernel) (by decide +kernel)
theorem dX12_rowMany_9 : decode cX12_rowMany 9 = .ok (.iconst 1, 1) := dq_4 (by decide +kernel)
theorem dX12_rowMany_10 : decode cX12_rowMany 10 = .ok (.istore_n 1, 1) := dq_60 (by decide +kernel)
theorem dX12_rowMany_11 : decode cX12_rowMany 11 = .ok (.iconst 0, 1) := dq_3 (by decide +kernel)
theorem dX12_rowMany_12 : decode cX12_rowMany 12 = .ok (.istore_n 2, 1) := dq_61 (by decide +kernel)
theorem dX12_rowMany_13 : decode cX12_rowMany 13 = .ok (.iload_n 2, 1) := dq_28 (by decide +kernel)
theorem dX12_rowMany_14 : decode cX12_rowMany 14 = .ok (.aload_n 0, 1) := dq_42 (by decide +kernel)
theorem dX12_rowMany_15 : decode cX12_rowMany 15 = .ok (.getfield 237, 3) := dq_180 (a := 0) (b := 237) (by decide +kernel) rfl
theorem dX12_rowMany_18 : decode cX12_rowMany 18 = .ok (.if_icmp .ge 16, 3) := dq_162 (a := 0) (b := 16) (by decide +kernel) (by decide +kernel)
theorem dX12_rowMany_21 : decode cX12_rowMany 21 = .ok (.iload_n 1, 1) := dq_27 (by decide +kernel)
theorem dX12_rowMany_22 : decode cX12_rowMany 22 = .ok (.aload_n 0, 1) := dq_42 (by decide +kernel)
theorem dX12_rowMany_23 : decode cX12_rowMany 23 = .ok (.getfield 234, 3) := dq_180 (a := 0) (b := 234) (by decide +kernel) rfl
theorem dX12_rowMany_26 : decode cX12_rowMany 26 = .ok (.imul, 1) := dq_104 (by decide +kernel)
theorem dX12_rowMany_27 : decode cX12_rowMany 27 = .ok (.istore_n 1, 1) := dq_60 (by decide +kernel)
theorem dX12_rowMany_28 : decode cX12_rowMany 28 = .ok (.iinc 2 1, 3) := dq_132 (a := 2) (b := 1) (by decide +kernel) rfl (by decide +kernel)
theorem dX12_rowMany_31 : decode cX12_rowMany 31 = .ok (.goto (-18), 3) := dq_167 (a := 255) (b := 238) (by decide +kernel) (by decide +kernel)
theorem dX12_rowMany_34 : decode cX12_rowMany 34 = .ok (.iload_n 1, 1) := dq_27 (by decide +kernel)
theorem dX12_rowMany_35 : decode cX12_rowMany 35 = .ok (.ireturn, 1) := dq_172 (by decide +kernel)
theorem dX12_rowMany_7 : decode cX12_rowMany 7 = .ok (.iconst 0, 1) := dq_3 (by decide +kernel)
theorem dX12_rowMany_8 : decode cX12_rowMany 8 = .ok (.ireturn, 1) := dq_172 (by decide +kernel)
theorem dX12_nears_9 : decode cX12_nears 9 = .ok (.if_icmp .ge 126, 3) := dq_162 (a := 0) (b := 126) (by decide +kernel) (by decide +kernel)
theorem dX12_nears_135 : decode cX12_nears 135 = .ok (.iload_n 2, 1) := dq_28 (by decide +kernel)
theorem dX12_nears_136 : decode cX12_nears 136 = .ok (.ireturn, 1) := dq_172 (by decide +kernel)
theorem dX12_nears_12 : decode cX12_nears 12 = .ok (.aload_n 0, 1) := dq_42 (by decide +kernel)
theorem dX12_nears_13 : decode cX12_nears 13 = .ok (.iload_n 3, 1) := dq_29 (by decide +kernel)
theorem dX12_nears_14 : decode cX12_nears 14 = .ok (.invokevirtual 409, 3) := dq_182 (a := 1) (b := 153) (by decide +kernel) rfl
theorem dX12_distanceOf_0 : decode cX12_distanceOf 0 = .ok (.aload_n 0, 1) := dq_42 (by decide +kernel)
theorem dX12_distanceOf_1 : decode cX12_distanceOf 1 = .ok (.iload_n 1, 1) := dq_27 (by decide +kernel)
theorem dX12_distanceOf_2 : decode cX12_distanceOf 2 = .ok (.invokevirtual 403, 3) := dq_182 (a := 1) (b := 147) (by decide +kernel) rfl
theorem dX12_rowIs_0 : decode cX12_rowIs 0 = .ok (.iload_n 1, 1) := dq_27 (by decide +kernel)
theorem dX12_rowIs_1 : decode cX12_rowIs 1 = .ok (.istore_n 2, 1) := dq_61 (by decide +kernel)
theorem dX12_rowIs_2 : decode cX12_rowIs 2 = .ok (.aload_n 0, 1) := dq_42 (by decide +kernel)
theorem dX12_rowIs_3 : decode cX12_rowIs 3 = .ok (.getfield 237, 3) := dq_180 (a := 0) (b := 237) (by decide +kernel) rfl
theorem dX12_rowIs_6 : decode cX12_rowIs 6 = .ok (.iconst 1, 1) := dq_4 (by decide +kernel)
theorem dX12_rowIs_7 : decode cX12_rowIs 7 = .ok (.isub, 1) := dq_100 (by decide +kernel)
theorem dX12_rowIs_8 : decode cX12_rowIs 8 = .ok (.istore_n 3, 1) := dq_62 (by decide +kernel)
theorem dX12_rowIs_9 : decode cX12_rowIs 9 = .ok (.iload_n 3, 1) := dq_29 (by decide +kernel)
theorem dX12_rowIs_10 : decode cX12_rowIs 10 = .ok (.ifCond .lt 37, 3) := dq_155 (a := 0) (b := 37) (by decide +kernel) (by decide +kernel)
theorem dX12_rowIs_47 : decode cX12_rowIs 47 = .ok (.return_, 1) := dq_177 (by decide +kernel)
theorem dX12_rowIs_13 : decode cX12_rowIs 13 = .ok (.aload_n 0, 1) := dq_42 (by decide +kernel)
theorem dX12_rowIs_14 : decode cX12_rowIs 14 = .ok (.getfield 103, 3) := dq_180 (a := 0) (b := 103) (by decide +kernel) rfl
theorem dX12_rowIs_17 : decode cX12_rowIs 17 = .ok (.iload_n 3, 1) := dq_29 (by decide +kernel)
theorem dX12_rowIs_18 : decode cX12_rowIs 18 = .ok (.iconst 2, 1) := dq_5 (by decide +kernel)
theorem dX12_rowIs_19 : decode cX12_rowIs 19 = .ok (.iload_n 2, 1) := dq_28 (by decide +kernel)
theorem dX12_rowIs_20 : decode cX12_rowIs 20 = .ok (.aload_n 0, 1) := dq_42 (by decide +kernel)
theorem dX12_rowIs_21 : decode cX12_rowIs 21 = .ok (.getfield 234, 3) := dq_180 (a := 0) (b := 234) (by decide +kernel) rfl
theorem dX12_rowIs_24 : decode cX12_rowIs 24 = .ok (.irem, 1) := dq_112 (by decide +kernel)
theorem dX12_rowIs_25 : decode cX12_rowIs 25 = .ok (.imul, 1) := dq_104 (by decide +kernel)
theorem dX12_rowIs_26 : decode cX12_rowIs 26 = .ok (.aload_n 0, 1) := dq_42 (by decide +kernel)
theorem dX12_rowIs_27 : decode cX12_rowIs 27 = .ok (.getfield 234, 3) := dq_180 (a := 0) (b := 234) (by decide +kernel) rfl
theorem dX12_rowIs_30 : decode cX12_rowIs 30 = .ok (.isub, 1) := dq_100 (by decide +kernel)
theorem dX12_rowIs_31 : decode cX12_rowIs 31 = .ok (.iconst 1, 1) := dq_4 (by decide +kernel)
theorem dX12_rowIs_32 : decode cX12_rowIs 32 = .ok (.iadd, 1) := dq_96 (by decide +kernel)
theorem dX12_rowIs_33 : decode cX12_rowIs 33 = .ok (.iastore, 1) := dq_79 (by decide +kernel)
theorem dX12_rowIs_34 : decode cX12_rowIs 34 = .ok (.iload_n 2, 1) := dq_28 (by decide +kernel)
theorem dX12_rowIs_35 : decode cX12_rowIs 35 = .ok (.aload_n 0, 1) := dq_42 (by decide +kernel)
theorem dX12_rowIs_36 : decode cX12_rowIs 36 = .ok (.getfield 234, 3) := dq_180 (a := 0) (b := 234) (by decide +kernel) rfl
theorem dX12_rowIs_39 : decode cX12_rowIs 39 = .ok (.idiv, 1) := dq_108 (by decide +kernel)
theorem dX12_rowIs_40 : decode cX12_rowIs 40 = .ok (.istore_n 2, 1) := dq_61 (by decide +kernel)
theorem dX12_rowIs_41 : decode cX12_rowIs 41 = .ok (.iinc 3 (-1), 3) := dq_132 (a := 3) (b := 255) (by decide +kernel) rfl (by decide +kernel)
theorem dX12_rowIs_44 : decode cX12_rowIs 44 = .ok (.goto (-35), 3) := dq_167 (a := 255) (b := 221) (by decide +kernel) (by decide +kernel)
theorem dX12_distanceOf_5 : decode cX12_distanceOf 5 = .ok (.aload_n 0, 1) := dq_42 (by decide +kernel)
theorem dX12_distanceOf_6 : decode cX12_distanceOf 6 = .ok (.iconst 1, 1) := dq_4 (by decide +kernel)
theorem dX12_distanceOf_7 : decode cX12_distanceOf 7 = .ok (.invokevirtual 380, 3) := dq_182 (a := 1) (b := 124) (by decide +kernel) rfl
theorem dX12_distanceOf_10 : decode cX12_distanceOf 10 = .ok (.lreturn, 1) := dq_173 (by decide +kernel)
theorem dX12_nears_17 : decode cX12_nears 17 = .ok (.lstore 4, 2) := dq_55 (a := 4) (by decide +kernel) rfl
theorem dX12_nears_19 : decode cX12_nears 19 = .ok (.iload_n 2, 1) := dq_28 (by decide +kernel)
theorem dX12_nears_20 : decode cX12_nears 20 = .ok (.iload_n 1, 1) := dq_27 (by decide +kernel)
theorem dX12_nears_21 : decode cX12_nears 21 = .ok (.if_icmp .ne 20, 3) := dq_160 (a := 0) (b := 20) (by decide +kernel) (by decide +kernel)
theorem dX12_nears_41 : decode cX12_nears 41 = .ok (.iload_n 2, 1) := dq_28 (by decide +kernel)
theorem dX12_nears_42 : decode cX12_nears 42 = .ok (.iload_n 1, 1) := dq_27 (by decide +kernel)
theorem dX12_nears_43 : decode cX12_nears 43 = .ok (.if_icmp .ge 6, 3) := dq_162 (a := 0) (b := 6) (by decide +kernel) (by decide +kernel)
theorem dX12_nears_46 : decode cX12_nears 46 = .ok (.iinc 2 1, 3) := dq_132 (a := 2) (b := 1) (by decide +kernel) rfl (by decide +kernel)
theorem dX12_nears_49 : decode cX12_nears 49 = .ok (.iload_n 2, 1) := dq_28 (by decide +kernel)
theorem dX12_nears_50 : decode cX12_nears 50 = .ok (.iconst 1, 1) := dq_4 (by decide +kernel)
theorem dX12_nears_51 : decode cX12_nears 51 = .ok (.isub, 1) := dq_100 (by decide +kernel)
theorem dX12_nears_52 : decode cX12_nears 52 = .ok (.istore 6, 2) := dq_54 (a := 6) (by decide +kernel) rfl
theorem dX12_nears_54 : decode cX12_nears 54 = .ok (.iload 6, 2) := dq_21 (a := 6) (by decide +kernel) rfl
theorem dX12_nears_56 : decode cX12_nears 56 = .ok (.ifCond .le 56, 3) := dq_158 (a := 0) (b := 56) (by decide +kernel) (by decide +kernel)
theorem dX12_nears_112 : decode cX12_nears 112 = .ok (.aload_n 0, 1) := dq_42 (by decide +kernel)
theorem dX12_nears_113 : decode cX12_nears 113 = .ok (.getfield 106, 3) := dq_180 (a := 0) (b := 106) (by decide +kernel) rfl
theorem dX12_nears_116 : decode cX12_nears 116 = .ok (.iload 6, 2) := dq_21 (a := 6) (by decide +kernel) rfl
theorem dX12_nears_118 : decode cX12_nears 118 = .ok (.lload 4, 2) := dq_22 (a := 4) (by decide +kernel) rfl
theorem dX12_nears_120 : decode cX12_nears 120 = .ok (.lastore, 1) := dq_80 (by decide +kernel)
theorem dX12_nears_121 : decode cX12_nears 121 = .ok (.aload_n 0, 1) := dq_42 (by decide +kernel)
theorem dX12_nears_122 : decode cX12_nears 122 = .ok (.getfield 109, 3) := dq_180 (a := 0) (b := 109) (by decide +kernel) rfl
theorem dX12_nears_125 : decode cX12_nears 125 = .ok (.iload 6, 2) := dq_21 (a := 6) (by decide +kernel) rfl
theorem dX12_nears_127 : decode cX12_nears 127 = .ok (.iload_n 3, 1) := dq_29 (by decide +kernel)
theorem dX12_nears_128 : decode cX12_nears 128 = .ok (.iastore, 1) := dq_79 (by decide +kernel)
theorem dX12_nears_129 : decode cX12_nears 129 = .ok (.iinc 3 1, 3) := dq_132 (a := 3) (b := 1) (by decide +kernel) rfl (by decide +kernel)
theorem dX12_nears_132 : decode cX12_nears 132 = .ok (.goto (-128), 3) := dq_167 (a := 255) (b := 128) (by decide +kernel) (by decide +kernel)
theorem dX12_nears_59 : decode cX12_nears 59 = .ok (.aload_n 0, 1) := dq_42 (by decide +kernel)
theorem dX12_nears_60 : decode cX12_nears 60 = .ok (.getfield 106, 3) := dq_180 (a := 0) (b := 106) (by decide +kernel) rfl
theorem dX12_nears_63 : decode cX12_nears 63 = .ok (.iload 6, 2) := dq_21 (a := 6) (by decide +kernel) rfl
theorem dX12_nears_65 : decode cX12_nears 65 = .ok (.iconst 1, 1) := dq_4 (by decide +kernel)
theorem dX12_nears_66 : decode cX12_nears 66 = .ok (.isub, 1) := dq_100 (by decide +kernel)
theorem dX12_nears_67 : decode cX12_nears 67 = .ok (.laload, 1) := dq_47 (by decide +kernel)
theorem dX12_nears_68 : decode cX12_nears 68 = .ok (.lload 4, 2) := dq_22 (a := 4) (by decide +kernel) rfl
theorem dX12_nears_70 : decode cX12_nears 70 = .ok (.lcmp, 1) := dq_148 (by decide +kernel)
theorem dX12_nears_71 : decode cX12_nears 71 = .ok (.ifCond .le 41, 3) := dq_158 (a := 0) (b := 41) (by decide +kernel) (by decide +kernel)
theorem dX12_nears_74 : decode cX12_nears 74 = .ok (.aload_n 0, 1) := dq_42 (by decide +kernel)
theorem dX12_nears_75 : decode cX12_nears 75 = .ok (.getfield 106, 3) := dq_180 (a := 0) (b := 106) (by decide +kernel) rfl
theorem dX12_nears_78 : decode cX12_nears 78 = .ok (.iload 6, 2) := dq_21 (a := 6) (by decide +kernel) rfl
theorem dX12_nears_80 : decode cX12_nears 80 = .ok (.aload_n 0, 1) := dq_42 (by decide +kernel)
theorem dX12_nears_81 : decode cX12_nears 81 = .ok (.getfield 106, 3) := dq_180 (a := 0) (b := 106) (by decide +kernel) rfl
theorem dX12_nears_84 : decode cX12_nears 84 = .ok (.iload 6, 2) := dq_21 (a := 6) (by decide +kernel) rfl
theorem dX12_nears_86 : decode cX12_nears 86 = .ok (.iconst 1, 1) := dq_4 (by decide +kernel)
theorem dX12_nears_87 : decode cX12_nears 87 = .ok (.isub, 1) := dq_100 (by decide +kernel)
theorem dX12_nears_88 : decode cX12_nears 88 = .ok (.laload, 1) := dq_47 (by decide +kernel)
theorem dX12_nears_89 : decode cX12_nears 89 = .ok (.lastore, 1) := dq_80 (by decide +kernel)
theorem dX12_nears_90 : decode cX12_nears 90 = .ok (.aload_n 0, 1) := dq_42 (by decide +kernel)
theorem dX12_nears_91 : decode cX12_nears 91 = .ok (.getfield 109, 3) := dq_180 (a := 0) (b := 109) (by decide +kernel) rfl
theorem dX12_nears_94 : decode cX12_nears 94 = .ok (.iload 6, 2) := dq_21 (a := 6) (by decide +kernel) rfl
theorem dX12_nears_96 : decode cX12_nears 96 = .ok (.aload_n 0, 1) := dq_42 (by decide +kernel)
theorem dX12_nears_97 : decode cX12_nears 97 = .ok (.getfield 109, 3) := dq_180 (a := 0) (b := 109) (by decide +kernel) rfl
theorem dX12_nears_100 : decode cX12_nears 100 = .ok (.iload 6, 2) := dq_21 (a := 6) (by decide +kernel) rfl
theorem dX12_nears_102 : decode cX12_nears 102 = .ok (.iconst 1, 1) := dq_4 (by decide +kernel)
theorem dX12_nears_103 : decode cX12_nears 103 = .ok (.isub, 1) := dq_100 (by decide +kernel)
theorem dX12_nears_104 : decode cX12_nears 104 = .ok (.iaload, 1) := dq_46 (by decide +kernel)
theorem dX12_nears_105 : decode cX12_nears 105 = .ok (.iastore, 1) := dq_79 (by decide +kernel)
theorem dX12_nears_106 : decode cX12_nears 106 = .ok (.iinc 6 (-1), 3) := dq_132 (a := 6) (b := 255) (by decide +kernel) rfl (by decide +kernel)
theorem dX12_nears_109 : decode cX12_nears 109 = .ok (.goto (-55), 3) := dq_167 (a := 255) (b := 201) (by decide +kernel) (by decide +kernel)
theorem dX12_nears_24 : decode cX12_nears 24 = .ok (.lload 4, 2) := dq_22 (a := 4) (by decide +kernel) rfl
theorem dX12_nears_26 : decode cX12_nears 26 = .ok (.aload_n 0, 1) := dq_42 (by decide +kernel)
theorem dX12_nears_27 : decode cX12_nears 27 = .ok (.getfield 106, 3) := dq_180 (a := 0) (b := 106) (by decide +kernel) rfl
theorem dX12_nears_30 : decode cX12_nears 30 = .ok (.iload_n 2, 1) := dq_28 (by decide +kernel)
theorem dX12_nears_31 : decode cX12_nears 31 = .ok (.iconst 1, 1) := dq_4 (by decide +kernel)
theorem dX12_nears_32 : decode cX12_nears 32 = .ok (.isub, 1) := dq_100 (by decide +kernel)
theorem dX12_nears_33 : decode cX12_nears 33 = .ok (.laload, 1) := dq_47 (by decide +kernel)
theorem dX12_nears_34 : decode cX12_nears 34 = .ok (.lcmp, 1) := dq_148 (by decide +kernel)
theorem dX12_nears_35 : decode cX12_nears 35 = .ok (.ifCond .lt 6, 3) := dq_155 (a := 0) (b := 6) (by decide +kernel) (by decide +kernel)
theorem dX12_nears_38 : decode cX12_nears 38 = .ok (.goto 91, 3) := dq_167 (a := 0) (b := 91) (by decide +kernel) (by decide +kernel)
theorem dX12_isNear_19 : decode cX12_isNear 19 = .ok (.iload_n 1, 1) := dq_27 (by decide +kernel)
theorem dX12_isNear_20 : decode cX12_isNear 20 = .ok (.iconst 1, 1) := dq_4 (by decide +kernel)
theorem dX12_isNear_21 : decode cX12_isNear 21 = .ok (.iadd, 1) := dq_96 (by decide +kernel)
theorem dX12_isNear_22 : decode cX12_isNear 22 = .ok (.if_icmp .ne 7, 3) := dq_160 (a := 0) (b := 7) (by decide +kernel) (by decide +kernel)
theorem dX12_isNear_25 : decode cX12_isNear 25 = .ok (.iconst 1, 1) := dq_4 (by decide +kernel)
theorem dX12_isNear_26 : decode cX12_isNear 26 = .ok (.goto 4, 3) := dq_167 (a := 0) (b := 4) (by decide +kernel) (by decide +kernel)
theorem dX12_nearest_13 : decode cX12_nearest 13 = .ok (.ifCond .ne 7, 3) := dq_154 (a := 0) (b := 7) (by decide +kernel) (by decide +kernel)
theorem dX12_nearest_20 : decode cX12_nearest 20 = .ok (.aload_n 0, 1) := dq_42 (by decide +kernel)
theorem dX12_nearest_21 : decode cX12_nearest 21 = .ok (.aload_n 0, 1) := dq_42 (by decide +kernel)
theorem dX12_nearest_22 : decode cX12_nearest 22 = .ok (.getfield 109, 3) := dq_180 (a := 0) (b := 109) (by decide +kernel) rfl
theorem dX12_nearest_25 : decode cX12_nearest 25 = .ok (.iload_n 1, 1) := dq_27 (by decide +kernel)
theorem dX12_nearest_26 : decode cX12_nearest 26 = .ok (.iaload, 1) := dq_46 (by decide +kernel)
theorem dX12_nearest_27 : decode cX12_nearest 27 = .ok (.invokevirtual 403, 3) := dq_182 (a := 1) (b := 147) (by decide +kernel) rfl
theorem dX12_nearest_30 : decode cX12_nearest 30 = .ok (.aload_n 0, 1) := dq_42 (by decide +kernel)
theorem dX12_nearest_31 : decode cX12_nearest 31 = .ok (.getfield 103, 3) := dq_180 (a := 0) (b := 103) (by decide +kernel) rfl
theorem dX12_nearest_34 : decode cX12_nearest 34 = .ok (.iload_n 2, 1) := dq_28 (by decide +kernel)
theorem dX12_nearest_35 : decode cX12_nearest 35 = .ok (.iaload, 1) := dq_46 (by decide +kernel)
theorem dX12_nearest_36 : decode cX12_nearest 36 = .ok (.ireturn, 1) := dq_172 (by decide +kernel)
theorem dX12_near_0 : decode cX12_near 0 = .ok (.aload_n 0, 1) := dq_42 (by decide +kernel)
theorem dX12_near_1 : decode cX12_near 1 = .ok (.iload_n 1, 1) := dq_27 (by decide +kernel)
theorem dX12_near_2 : decode cX12_near 2 = .ok (.invokevirtual 416, 3) := dq_182 (a := 1) (b := 160) (by decide +kernel) rfl
theorem dX12_near_5 : decode cX12_near 5 = .ok (.ifCond .eq 12, 3) := dq_153 (a := 0) (b := 12) (by decide +kernel) (by decide +kernel)
theorem dX12_near_17 : decode cX12_near 17 = .ok (.ldc2_w 384, 3) := dq_20 (a := 1) (b := 128) (by decide +kernel) rfl
theorem dX12_near_20 : decode cX12_near 20 = .ok (.lreturn, 1) := dq_173 (by decide +kernel)
theorem dX12_near_8 : decode cX12_near 8 = .ok (.aload_n 0, 1) := dq_42 (by decide +kernel)
theorem dX12_near_9 : decode cX12_near 9 = .ok (.getfield 106, 3) := dq_180 (a := 0) (b := 106) (by decide +kernel) rfl
theorem dX12_near_12 : decode cX12_near 12 = .ok (.iload_n 1, 1) := dq_27 (by decide +kernel)
theorem dX12_near_13 : decode cX12_near 13 = .ok (.laload, 1) := dq_47 (by decide +kernel)
theorem dX12_near_14 : decode cX12_near 14 = .ok (.goto 6, 3) := dq_167 (a := 0) (b := 6) (by decide +kernel) (by decide +kernel)
theorem dX12_within_0 : decode cX12_within 0 = .ok (.lload_n 1, 1) := dq_31 (by decide +kernel)
theorem dX12_within_1 : decode cX12_within 1 = .ok (.lconst 0, 1) := dq_9 (by decide +kernel)
theorem dX12_within_2 : decode cX12_within 2 = .ok (.lcmp, 1) := dq_148 (by decide +kernel)
theorem dX12_within_3 : decode cX12_within 3 = .ok (.ifCond .ge 5, 3) := dq_156 (a := 0) (b := 5) (by decide +kernel) (by decide +kernel)
theorem dX12_within_8 : decode cX12_within 8 = .ok (.iconst 0, 1) := dq_3 (by decide +kernel)
theorem dX12_within_9 : decode cX12_within 9 = .ok (.istore_n 3, 1) := dq_62 (by decide +kernel)
theorem dX12_within_10 : decode cX12_within 10 = .ok (.iconst 0, 1) := dq_3 (by decide +kernel)
theorem dX12_within_11 : decode cX12_within 11 = .ok (.istore 4, 2) := dq_54 (a := 4) (by decide +kernel) rfl
theorem dX12_within_13 : decode cX12_within 13 = .ok (.iload 4, 2) := dq_21 (a := 4) (by decide +kernel) rfl
theorem dX12_within_15 : decode cX12_within 15 = .ok (.aload_n 0, 1) := dq_42 (by decide +kernel)
theorem dX12_within_16 : decode cX12_within 16 = .ok (.invokevirtual 406, 3) := dq_182 (a := 1) (b := 150) (by decide +kernel) rfl
theorem dX12_within_19 : decode cX12_within 19 = .ok (.if_icmp .ge 23, 3) := dq_162 (a := 0) (b := 23) (by decide +kernel) (by decide +kernel)
theorem dX12_within_42 : decode cX12_within 42 = .ok (.iload_n 3, 1) := dq_29 (by decide +kernel)
theorem dX12_within_43 : decode cX12_within 43 = .ok (.ireturn, 1) := dq_172 (by decide +kernel)
theorem dX12_within_22 : decode cX12_within 22 = .ok (.aload_n 0, 1) := dq_42 (by decide +kernel)
theorem dX12_within_23 : decode cX12_within 23 = .ok (.iload 4, 2) := dq_21 (a := 4) (by decide +kernel) rfl
theorem dX12_within_25 : decode cX12_within 25 = .ok (.invokevirtual 409, 3) := dq_182 (a := 1) (b := 153) (by decide +kernel) rfl
theorem dX12_within_28 : decode cX12_within 28 = .ok (.lload_n 1, 1) := dq_31 (by decide +kernel)
theorem dX12_within_29 : decode cX12_within 29 = .ok (.lcmp, 1) := dq_148 (by decide +kernel)
theorem dX12_within_30 : decode cX12_within 30 = .ok (.ifCond .gt 6, 3) := dq_157 (a := 0) (b := 6) (by decide +kernel) (by decide +kernel)
theorem dX12_within_36 : decode cX12_within 36 = .ok (.iinc 4 1, 3) := dq_132 (a := 4) (b := 1) (by decide +kernel) rfl (by decide +kernel)
theorem dX12_within_39 : decode cX12_within 39 = .ok (.goto (-26), 3) := dq_167 (a := 255) (b := 230) (by decide +kernel) (by decide +kernel)
theorem dX12_within_33 : decode cX12_within 33 = .ok (.iinc 3 1, 3) := dq_132 (a := 3) (b := 1) (by decide +kernel) rfl (by decide +kernel)
theorem dX12_within_6 : decode cX12_within 6 = .ok (.iconst (-1), 1) := dq_2 (by decide +kernel)
theorem dX12_within_7 : decode cX12_within 7 = .ok (.ireturn, 1) := dq_172 (by decide +kernel)
theorem dX12_cancel_0 : decode cX12_cancel 0 = .ok (.aload_n 0, 1) := dq_42 (by decide +kernel)
theorem dX12_cancel_1 : decode cX12_cancel 1 = .ok (.iload_n 1, 1) := dq_27 (by decide +kernel)
theorem dX12_cancel_2 : decode cX12_cancel 2 = .ok (.invokevirtual 361, 3) := dq_182 (a := 1) (b := 105) (by decide +kernel) rfl
theorem dX12_cancel_5 : decode cX12_cancel 5 = .ok (.ifCond .ne 7, 3) := dq_154 (a := 0) (b := 7) (by decide +kernel) (by decide +kernel)
theorem dX12_cancel_12 : decode cX12_cancel 12 = .ok (.aload_n 0, 1) := dq_42 (by decide +kernel)
theorem dX12_cancel_13 : decode cX12_cancel 13 = .ok (.invokevirtual 426, 3) := dq_182 (a := 1) (b := 170) (by decide +kernel) rfl
theorem dX12_cancels_0 : decode cX12_cancels 0 = .ok (.aload_n 0, 1) := dq_42 (by decide +kernel)
theorem dX12_cancels_1 : decode cX12_cancels 1 = .ok (.invokevirtual 419, 3) := dq_182 (a := 1) (b := 163) (by decide +kernel) rfl
theorem dX12_orders_0 : decode cX12_orders 0 = .ok (.iconst 0, 1) := dq_3 (by decide +kernel)
theorem dX12_orders_1 : decode cX12_orders 1 = .ok (.istore_n 1, 1) := dq_60 (by decide +kernel)
theorem dX12_orders_2 : decode cX12_orders 2 = .ok (.iload_n 1, 1) := dq_27 (by decide +kernel)
theorem dX12_orders_3 : decode cX12_orders 3 = .ok (.aload_n 0, 1) := dq_42 (by decide +kernel)
theorem dX12_orders_4 : decode cX12_orders 4 = .ok (.getfield 237, 3) := dq_180 (a := 0) (b := 237) (by decide +kernel) rfl
theorem dX12_orders_7 : decode cX12_orders 7 = .ok (.if_icmp .ge 80, 3) := dq_162 (a := 0) (b := 80) (by decide +kernel) (by decide +kernel)
theorem dX12_orders_87 : decode cX12_orders 87 = .ok (.return_, 1) := dq_177 (by decide +kernel)
theorem dX12_orders_10 : decode cX12_orders 10 = .ok (.iconst 0, 1) := dq_3 (by decide +kernel)
theorem dX12_orders_11 : decode cX12_orders 11 = .ok (.istore_n 2, 1) := dq_61 (by decide +kernel)
theorem dX12_orders_12 : decode cX12_orders 12 = .ok (.iconst 0, 1) := dq_3 (by decide +kernel)
theorem dX12_orders_13 : decode cX12_orders 13 = .ok (.istore_n 3, 1) := dq_62 (by decide +kernel)
theorem dX12_orders_14 : decode cX12_orders 14 = .ok (.iload_n 3, 1) := dq_29 (by decide +kernel)
theorem dX12_orders_15 : decode cX12_orders 15 = .ok (.aload_n 0, 1) := dq_42 (by decide +kernel)
theorem dX12_orders_16 : decode cX12_orders 16 = .ok (.getfield 237, 3) := dq_180 (a := 0) (b := 237) (by decide +kernel) rfl
theorem dX12_orders_19 : decode cX12_orders 19 = .ok (.if_icmp .ge 55, 3) := dq_162 (a := 0) (b := 55) (by decide +kernel) (by decide +kernel)
theorem dX12_orders_22 : decode cX12_orders 22 = .ok (.aload_n 0, 1) := dq_42 (by decide +kernel)
theorem dX12_orders_23 : decode cX12_orders 23 = .ok (.iload_n 3, 1) := dq_29 (by decide +kernel)
theorem dX12_orders_24 : decode cX12_orders 24 = .ok (.iload_n 3, 1) := dq_29 (by decide +kernel)
theorem dX12_orders_25 : decode cX12_orders 25 = .ok (.aload_n 0, 1) := dq_42 (by decide +kernel)
theorem dX12_orders_26 : decode cX12_orders 26 = .ok (.getfield 69, 3) := dq_180 (a := 0) (b := 69) (by decide +kernel) rfl
theorem dX12_orders_29 : decode cX12_orders 29 = .ok (.invokevirtual 334, 3) := dq_182 (a := 1) (b := 78) (by decide +kernel) rfl
theorem dX12_orders_32 : decode cX12_orders 32 = .ok (.istore 4, 2) := dq_54 (a := 4) (by decide +kernel) rfl
theorem dX12_orders_34 : decode cX12_orders 34 = .ok (.aload_n 0, 1) := dq_42 (by decide +kernel)
theorem dX12_orders_35 : decode cX12_orders 35 = .ok (.iload_n 1, 1) := dq_27 (by decide +kernel)
theorem dX12_orders_36 : decode cX12_orders 36 = .ok (.iload_n 1, 1) := dq_27 (by decide +kernel)
theorem dX12_orders_37 : decode cX12_orders 37 = .ok (.aload_n 0, 1) := dq_42 (by decide +kernel)
theorem dX12_orders_38 : decode cX12_orders 38 = .ok (.getfield 69, 3) := dq_180 (a := 0) (b := 69) (by decide +kernel) rfl
theorem dX12_orders_41 : decode cX12_orders 41 = .ok (.invokevirtual 334, 3) := dq_182 (a := 1) (b := 78) (by decide +kernel) rfl
theorem dX12_orders_44 : decode cX12_orders 44 = .ok (.istore 5, 2) := dq_54 (a := 5) (by decide +kernel) rfl
theorem dX12_orders_46 : decode cX12_orders 46 = .ok (.iload 4, 2) := dq_21 (a := 4) (by decide +kernel) rfl
theorem dX12_orders_48 : decode cX12_orders 48 = .ok (.iload 5, 2) := dq_21 (a := 5) (by decide +kernel) rfl
theorem dX12_orders_50 : decode cX12_orders 50 = .ok (.if_icmp .gt 15, 3) := dq_163 (a := 0) (b := 15) (by decide +kernel) (by decide +kernel)
theorem dX12_orders_65 : decode cX12_orders 65 = .ok (.iinc 2 1, 3) := dq_132 (a := 2) (b := 1) (by decide +kernel) rfl (by decide +kernel)
theorem dX12_orders_68 : decode cX12_orders 68 = .ok (.iinc 3 1, 3) := dq_132 (a := 3) (b := 1) (by decide +kernel) rfl (by decide +kernel)
theorem dX12_orders_71 : decode cX12_orders 71 = .ok (.goto (-57), 3) := dq_167 (a := 255) (b := 199) (by decide +kernel) (by decide +kernel)
theorem dX12_orders_53 : decode cX12_orders 53 = .ok (.iload 4, 2) := dq_21 (a := 4) (by decide +kernel) rfl
theorem dX12_orders_55 : decode cX12_orders 55 = .ok (.iload 5, 2) := dq_21 (a := 5) (by decide +kernel) rfl
theorem dX12_orders_57 : decode cX12_orders 57 = .ok (.if_icmp .ne 11, 3) := dq_160 (a := 0) (b := 11) (by decide +kernel) (by decide +kernel)
theorem dX12_orders_60 : decode cX12_orders 60 = .ok (.iload_n 3, 1) := dq_29 (by decide +kernel)
theorem dX12_orders_61 : decode cX12_orders 61 = .ok (.iload_n 1, 1) := dq_27 (by decide +kernel)
theorem dX12_orders_62 : decode cX12_orders 62 = .ok (.if_icmp .ge 6, 3) := dq_162 (a := 0) (b := 6) (by decide +kernel) (by decide +kernel)
theorem dX12_orders_74 : decode cX12_orders 74 = .ok (.aload_n 0, 1) := dq_42 (by decide +kernel)
theorem dX12_orders_75 : decode cX12_orders 75 = .ok (.getfield 112, 3) := dq_180 (a := 0) (b := 112) (by decide +kernel) rfl
theorem dX12_orders_78 : decode cX12_orders 78 = .ok (.iload_n 2, 1) := dq_28 (by decide +kernel)
theorem dX12_orders_79 : decode cX12_orders 79 = .ok (.iload_n 1, 1) := dq_27 (by decide +kernel)
theorem dX12_orders_80 : decode cX12_orders 80 = .ok (.iastore, 1) := dq_79 (by decide +kernel)
theorem dX12_orders_81 : decode cX12_orders 81 = .ok (.iinc 1 1, 3) := dq_132 (a := 1) (b := 1) (by decide +kernel) rfl (by decide +kernel)
theorem dX12_orders_84 : decode cX12_orders 84 = .ok (.goto (-82), 3) := dq_167 (a := 255) (b := 174) (by decide +kernel) (by decide +kernel)
theorem dX12_cancels_4 : decode cX12_cancels 4 = .ok (.iconst 0, 1) := dq_3 (by decide +kernel)
theorem dX12_cancels_5 : decode cX12_cancels 5 = .ok (.istore_n 1, 1) := dq_60 (by decide +kernel)
theorem dX12_cancels_6 : decode cX12_cancels 6 = .ok (.iload_n 1, 1) := dq_27 (by decide +kernel)
theorem dX12_cancels_7 : decode cX12_cancels 7 = .ok (.aload_n 0, 1) := dq_42 (by decide +kernel)
theorem dX12_cancels_8 : decode cX12_cancels 8 = .ok (.getfield 240, 3) := dq_180 (a := 0) (b := 240) (by decide +kernel) rfl
theorem dX12_cancels_11 : decode cX12_cancels 11 = .ok (.if_icmp .ge 22, 3) := dq_162 (a := 0) (b := 22) (by decide +kernel) (by decide +kernel)
theorem dX12_cancels_33 : decode cX12_cancels 33 = .ok (.iconst 0, 1) := dq_3 (by decide +kernel)
theorem dX12_cancels_34 : decode cX12_cancels 34 = .ok (.istore_n 1, 1) := dq_60 (by decide +kernel)
theorem dX12_cancels_35 : decode cX12_cancels 35 = .ok (.iload_n 1, 1) := dq_27 (by decide +kernel)
theorem dX12_cancels_36 : decode cX12_cancels 36 = .ok (.aload_n 0, 1) := dq_42 (by decide +kernel)
theorem dX12_cancels_37 : decode cX12_cancels 37 = .ok (.getfield 237, 3) := dq_180 (a := 0) (b := 237) (by decide +kernel) rfl
theorem dX12_cancels_40 : decode cX12_cancels 40 = .ok (.if_icmp .ge 115, 3) := dq_162 (a := 0) (b := 115) (by decide +kernel) (by decide +kernel)
theorem dX12_cancels_155 : decode cX12_cancels 155 = .ok (.return_, 1) := dq_177 (by decide +kernel)
theorem dX12_cancels_43 : decode cX12_cancels 43 = .ok (.aload_n 0, 1) := dq_42 (by decide +kernel)
theorem dX12_cancels_44 : decode cX12_cancels 44 = .ok (.getfield 112, 3) := dq_180 (a := 0) (b := 112) (by decide +kernel) rfl
theorem dX12_cancels_47 : decode cX12_cancels 47 = .ok (.iload_n 1, 1) := dq_27 (by decide +kernel)
theorem dX12_cancels_48 : decode cX12_cancels 48 = .ok (.iaload, 1) := dq_46 (by decide +kernel)
theorem dX12_cancels_49 : decode cX12_cancels 49 = .ok (.istore_n 2, 1) := dq_61 (by decide +kernel)
theorem dX12_cancels_50 : decode cX12_cancels 50 = .ok (.iconst 1, 1) := dq_4 (by decide +kernel)
theorem dX12_cancels_51 : decode cX12_cancels 51 = .ok (.aload_n 0, 1) := dq_42 (by decide +kernel)
theorem dX12_cancels_52 : decode cX12_cancels 52 = .ok (.getfield 234, 3) := dq_180 (a := 0) (b := 234) (by decide +kernel) rfl
theorem dX12_cancels_55 : decode cX12_cancels 55 = .ok (.isub, 1) := dq_100 (by decide +kernel)
theorem dX12_cancels_56 : decode cX12_cancels 56 = .ok (.istore_n 3, 1) := dq_62 (by decide +kernel)
theorem dX12_cancels_57 : decode cX12_cancels 57 = .ok (.iconst 3, 1) := dq_6 (by decide +kernel)
theorem dX12_cancels_58 : decode cX12_cancels 58 = .ok (.aload_n 0, 1) := dq_42 (by decide +kernel)
theorem dX12_cancels_59 : decode cX12_cancels 59 = .ok (.getfield 234, 3) := dq_180 (a := 0) (b := 234) (by decide +kernel) rfl
theorem dX12_cancels_62 : decode cX12_cancels 62 = .ok (.isub, 1) := dq_100 (by decide +kernel)
theorem dX12_cancels_63 : decode cX12_cancels 63 = .ok (.istore 4, 2) := dq_54 (a := 4) (by decide +kernel) rfl
theorem dX12_cancels_65 : decode cX12_cancels 65 = .ok (.iload 4, 2) := dq_21 (a := 4) (by decide +kernel) rfl
theorem dX12_cancels_67 : decode cX12_cancels 67 = .ok (.aload_n 0, 1) := dq_42 (by decide +kernel)
theorem dX12_cancels_68 : decode cX12_cancels 68 = .ok (.getfield 234, 3) := dq_180 (a := 0) (b := 234) (by decide +kernel) rfl
theorem dX12_cancels_71 : decode cX12_cancels 71 = .ok (.if_icmp .ge 29, 3) := dq_162 (a := 0) (b := 29) (by decide +kernel) (by decide +kernel)
theorem dX12_cancels_100 : decode cX12_cancels 100 = .ok (.aload_n 0, 1) := dq_42 (by decide +kernel)
theorem dX12_cancels_101 : decode cX12_cancels 101 = .ok (.getfield 115, 3) := dq_180 (a := 0) (b := 115) (by decide +kernel) rfl
theorem dX12_cancels_104 : decode cX12_cancels 104 = .ok (.iload_n 2, 1) := dq_28 (by decide +kernel)
theorem dX12_cancels_105 : decode cX12_cancels 105 = .ok (.iload_n 3, 1) := dq_29 (by decide +kernel)
theorem dX12_cancels_106 : decode cX12_cancels 106 = .ok (.iastore, 1) := dq_79 (by decide +kernel)
theorem dX12_cancels_107 : decode cX12_cancels 107 = .ok (.iconst 0, 1) := dq_3 (by decide +kernel)
theorem dX12_cancels_108 : decode cX12_cancels 108 = .ok (.istore 4, 2) := dq_54 (a := 4) (by decide +kernel) rfl
theorem dX12_cancels_110 : decode cX12_cancels 110 = .ok (.iload 4, 2) := dq_21 (a := 4) (by decide +kernel) rfl
theorem dX12_cancels_112 : decode cX12_cancels 112 = .ok (.aload_n 0, 1) := dq_42 (by decide +kernel)
theorem dX12_cancels_113 : decode cX12_cancels 113 = .ok (.getfield 240, 3) := dq_180 (a := 0) (b := 240) (by decide +kernel) rfl
theorem dX12_cancels_116 : decode cX12_cancels 116 = .ok (.if_icmp .ge 33, 3) := dq_162 (a := 0) (b := 33) (by decide +kernel) (by decide +kernel)
theorem dX12_cancels_149 : decode cX12_cancels 149 = .ok (.iinc 1 1, 3) := dq_132 (a := 1) (b := 1) (by decide +kernel) rfl (by decide +kernel)
theorem dX12_cancels_152 : decode cX12_cancels 152 = .ok (.goto (-117), 3) := dq_167 (a := 255) (b := 139) (by decide +kernel) (by decide +kernel)
theorem dX12_cancels_74 : decode cX12_cancels 74 = .ok (.aload_n 0, 1) := dq_42 (by decide +kernel)
theorem dX12_cancels_75 : decode cX12_cancels 75 = .ok (.iload_n 2, 1) := dq_28 (by decide +kernel)
theorem dX12_cancels_76 : decode cX12_cancels 76 = .ok (.iload 4, 2) := dq_21 (a := 4) (by decide +kernel) rfl
theorem dX12_cancels_78 : decode cX12_cancels 78 = .ok (.invokevirtual 422, 3) := dq_182 (a := 1) (b := 166) (by decide +kernel) rfl
theorem dX12_restBy_0 : decode cX12_restBy 0 = .ok (.lconst 0, 1) := dq_9 (by decide +kernel)
theorem dX12_restBy_1 : decode cX12_restBy 1 = .ok (.lstore_n 3, 1) := dq_66 (by decide +kernel)
theorem dX12_restBy_2 : decode cX12_restBy 2 = .ok (.iconst 0, 1) := dq_3 (by decide +kernel)
theorem dX12_restBy_3 : decode cX12_restBy 3 = .ok (.istore 5, 2) := dq_54 (a := 5) (by decide +kernel) rfl
theorem dX12_restBy_5 : decode cX12_restBy 5 = .ok (.iload 5, 2) := dq_21 (a := 5) (by decide +kernel) rfl
theorem dX12_restBy_7 : decode cX12_restBy 7 = .ok (.aload_n 0, 1) := dq_42 (by decide +kernel)
theorem dX12_restBy_8 : decode cX12_restBy 8 = .ok (.getfield 240, 3) := dq_180 (a := 0) (b := 240) (by decide +kernel) rfl
theorem dX12_restBy_11 : decode cX12_restBy 11 = .ok (.if_icmp .ge 41, 3) := dq_162 (a := 0) (b := 41) (by decide +kernel) (by decide +kernel)
theorem dX12_restBy_52 : decode cX12_restBy 52 = .ok (.lload_n 3, 1) := dq_33 (by decide +kernel)
theorem dX12_restBy_53 : decode cX12_restBy 53 = .ok (.lreturn, 1) := dq_173 (by decide +kernel)
theorem dX12_restBy_14 : decode cX12_restBy 14 = .ok (.aload_n 0, 1) := dq_42 (by decide +kernel)
theorem dX12_restBy_15 : decode cX12_restBy 15 = .ok (.getfield 118, 3) := dq_180 (a := 0) (b := 118) (by decide +kernel) rfl
theorem dX12_restBy_18 : decode cX12_restBy 18 = .ok (.iload 5, 2) := dq_21 (a := 5) (by decide +kernel) rfl
theorem dX12_restBy_20 : decode cX12_restBy 20 = .ok (.laload, 1) := dq_47 (by decide +kernel)
theorem dX12_restBy_21 : decode cX12_restBy 21 = .ok (.aload_n 0, 1) := dq_42 (by decide +kernel)
theorem dX12_restBy_22 : decode cX12_restBy 22 = .ok (.getfield 69, 3) := dq_180 (a := 0) (b := 69) (by decide +kernel) rfl
theorem dX12_restBy_25 : decode cX12_restBy 25 = .ok (.iconst 5, 1) := dq_8 (by decide +kernel)
theorem dX12_restBy_26 : decode cX12_restBy 26 = .ok (.iload 5, 2) := dq_21 (a := 5) (by decide +kernel) rfl
theorem dX12_restBy_28 : decode cX12_restBy 28 = .ok (.imul, 1) := dq_104 (by decide +kernel)
theorem dX12_restBy_29 : decode cX12_restBy 29 = .ok (.iload_n 1, 1) := dq_27 (by decide +kernel)
theorem dX12_restBy_30 : decode cX12_restBy 30 = .ok (.iadd, 1) := dq_96 (by decide +kernel)
theorem dX12_restBy_31 : decode cX12_restBy 31 = .ok (.iaload, 1) := dq_46 (by decide +kernel)
theorem dX12_restBy_32 : decode cX12_restBy 32 = .ok (.iload_n 2, 1) := dq_28 (by decide +kernel)
theorem dX12_restBy_33 : decode cX12_restBy 33 = .ok (.imul, 1) := dq_104 (by decide +kernel)
theorem dX12_restBy_34 : decode cX12_restBy 34 = .ok (.i2l, 1) := dq_133 (by decide +kernel)
theorem dX12_restBy_35 : decode cX12_restBy 35 = .ok (.lsub, 1) := dq_101 (by decide +kernel)
theorem dX12_restBy_36 : decode cX12_restBy 36 = .ok (.lstore 6, 2) := dq_55 (a := 6) (by decide +kernel) rfl
theorem dX12_restBy_38 : decode cX12_restBy 38 = .ok (.lload_n 3, 1) := dq_33 (by decide +kernel)
theorem dX12_restBy_39 : decode cX12_restBy 39 = .ok (.lload 6, 2) := dq_22 (a := 6) (by decide +kernel) rfl
theorem dX12_restBy_41 : decode cX12_restBy 41 = .ok (.lload 6, 2) := dq_22 (a := 6) (by decide +kernel) rfl
theorem dX12_restBy_43 : decode cX12_restBy 43 = .ok (.lmul, 1) := dq_105 (by decide +kernel)
theorem dX12_restBy_44 : decode cX12_restBy 44 = .ok (.ladd, 1) := dq_97 (by decide +kernel)
theorem dX12_restBy_45 : decode cX12_restBy 45 = .ok (.lstore_n 3, 1) := dq_66 (by decide +kernel)
theorem dX12_restBy_46 : decode cX12_restBy 46 = .ok (.iinc 5 1, 3) := dq_132 (a := 5) (b := 1) (by decide +kernel) rfl (by decide +kernel)
theorem dX12_restBy_49 : decode cX12_restBy 49 = .ok (.goto (-44), 3) := dq_167 (a := 255) (b := 212) (by decide +kernel) (by decide +kernel)
theorem dX12_cancels_81 : decode cX12_cancels 81 = .ok (.aload_n 0, 1) := dq_42 (by decide +kernel)
theorem dX12_cancels_82 : decode cX12_cancels 82 = .ok (.iload_n 2, 1) := dq_28 (by decide +kernel)
theorem dX12_cancels_83 : decode cX12_cancels 83 = .ok (.iload_n 3, 1) := dq_29 (by decide +kernel)
theorem dX12_cancels_84 : decode cX12_cancels 84 = .ok (.invokevirtual 422, 3) := dq_182 (a := 1) (b := 166) (by decide +kernel) rfl
theorem dX12_cancels_87 : decode cX12_cancels 87 = .ok (.lcmp, 1) := dq_148 (by decide +kernel)
theorem dX12_cancels_88 : decode cX12_cancels 88 = .ok (.ifCond .ge 6, 3) := dq_156 (a := 0) (b := 6) (by decide +kernel) (by decide +kernel)
theorem dX12_cancels_94 : decode cX12_cancels 94 = .ok (.iinc 4 2, 3) := dq_132 (a := 4) (b := 2) (by decide +kernel) rfl (by decide +kernel)
theorem dX12_cancels_97 : decode cX12_cancels 97 = .ok (.goto (-32), 3) := dq_167 (a := 255) (b := 224) (by decide +kernel) (by decide +kernel)
theorem dX12_cancels_91 : decode cX12_cancels 91 = .ok (.iload 4, 2) := dq_21 (a := 4) (by decide +kernel) rfl
theorem dX12_cancels_93 : decode cX12_cancels 93 = .ok (.istore_n 3, 1) := dq_62 (by decide +kernel)
theorem dX12_cancels_14 : decode cX12_cancels 14 = .ok (.aload_n 0, 1) := dq_42 (by decide +kernel)
theorem dX12_cancels_15 : decode cX12_cancels 15 = .ok (.getfield 118, 3) := dq_180 (a := 0) (b := 118) (by decide +kernel) rfl
theorem dX12_cancels_18 : decode cX12_cancels 18 = .ok (.iload_n 1, 1) := dq_27 (by decide +kernel)
theorem dX12_cancels_19 : decode cX12_cancels 19 = .ok (.aload_n 0, 1) := dq_42 (by decide +kernel)
theorem dX12_cancels_20 : decode cX12_cancels 20 = .ok (.getfield 100, 3) := dq_180 (a := 0) (b := 100) (by decide +kernel) rfl
theorem dX12_cancels_23 : decode cX12_cancels 23 = .ok (.iload_n 1, 1) := dq_27 (by decide +kernel)
theorem dX12_cancels_24 : decode cX12_cancels 24 = .ok (.iaload, 1) := dq_46 (by decide +kernel)
theorem dX12_cancels_25 : decode cX12_cancels 25 = .ok (.i2l, 1) := dq_133 (by decide +kernel)
theorem dX12_cancels_26 : decode cX12_cancels 26 = .ok (.lastore, 1) := dq_80 (by decide +kernel)
theorem dX12_cancels_27 : decode cX12_cancels 27 = .ok (.iinc 1 1, 3) := dq_132 (a := 1) (b := 1) (by decide +kernel) rfl (by decide +kernel)
theorem dX12_cancels_30 : decode cX12_cancels 30 = .ok (.goto (-24), 3) := dq_167 (a := 255) (b := 232) (by decide +kernel) (by decide +kernel)
theorem dX12_cancels_119 : decode cX12_cancels 119 = .ok (.aload_n 0, 1) := dq_42 (by decide +kernel)
theorem dX12_cancels_120 : decode cX12_cancels 120 = .ok (.getfield 118, 3) := dq_180 (a := 0) (b := 118) (by decide +kernel) rfl
theorem dX12_cancels_123 : decode cX12_cancels 123 = .ok (.iload 4, 2) := dq_21 (a := 4) (by decide +kernel) rfl
theorem dX12_cancels_125 : decode cX12_cancels 125 = .ok (.dup2, 1) := dq_92 (by decide +kernel)
theorem dX12_cancels_126 : decode cX12_cancels 126 = .ok (.laload, 1) := dq_47 (by decide +kernel)
theorem dX12_cancels_127 : decode cX12_cancels 127 = .ok (.aload_n 0, 1) := dq_42 (by decide +kernel)
theorem dX12_cancels_128 : decode cX12_cancels 128 = .ok (.getfield 69, 3) := dq_180 (a := 0) (b := 69) (by decide +kernel) rfl
theorem dX12_cancels_131 : decode cX12_cancels 131 = .ok (.iconst 5, 1) := dq_8 (by decide +kernel)
theorem dX12_cancels_132 : decode cX12_cancels 132 = .ok (.iload 4, 2) := dq_21 (a := 4) (by decide +kernel) rfl
theorem dX12_cancels_134 : decode cX12_cancels 134 = .ok (.imul, 1) := dq_104 (by decide +kernel)
theorem dX12_cancels_135 : decode cX12_cancels 135 = .ok (.iload_n 2, 1) := dq_28 (by decide +kernel)
theorem dX12_cancels_136 : decode cX12_cancels 136 = .ok (.iadd, 1) := dq_96 (by decide +kernel)
theorem dX12_cancels_137 : decode cX12_cancels 137 = .ok (.iaload, 1) := dq_46 (by decide +kernel)
theorem dX12_cancels_138 : decode cX12_cancels 138 = .ok (.iload_n 3, 1) := dq_29 (by decide +kernel)
theorem dX12_cancels_139 : decode cX12_cancels 139 = .ok (.imul, 1) := dq_104 (by decide +kernel)
theorem dX12_cancels_140 : decode cX12_cancels 140 = .ok (.i2l, 1) := dq_133 (by decide +kernel)
theorem dX12_cancels_141 : decode cX12_cancels 141 = .ok (.lsub, 1) := dq_101 (by decide +kernel)
theorem dX12_cancels_142 : decode cX12_cancels 142 = .ok (.lastore, 1) := dq_80 (by decide +kernel)
theorem dX12_cancels_143 : decode cX12_cancels 143 = .ok (.iinc 4 1, 3) := dq_132 (a := 4) (b := 1) (by decide +kernel) rfl (by decide +kernel)
theorem dX12_cancels_146 : decode cX12_cancels 146 = .ok (.goto (-36), 3) := dq_167 (a := 255) (b := 220) (by decide +kernel) (by decide +kernel)
theorem dX12_cancel_16 : decode cX12_cancel 16 = .ok (.aload_n 0, 1) := dq_42 (by decide +kernel)
theorem dX12_cancel_17 : decode cX12_cancel 17 = .ok (.getfield 115, 3) := dq_180 (a := 0) (b := 115) (by decide +kernel) rfl
theorem dX12_cancel_20 : decode cX12_cancel 20 = .ok (.iload_n 1, 1) := dq_27 (by decide +kernel)
theorem dX12_cancel_21 : decode cX12_cancel 21 = .ok (.iaload, 1) := dq_46 (by decide +kernel)
theorem dX12_cancel_22 : decode cX12_cancel 22 = .ok (.ireturn, 1) := dq_172 (by decide +kernel)
theorem dX12_cancel_8 : decode cX12_cancel 8 = .ok (.ldc_w 364, 3) := dq_19 (a := 1) (b := 108) (by decide +kernel) rfl
theorem dX12_cancel_11 : decode cX12_cancel 11 = .ok (.ireturn, 1) := dq_172 (by decide +kernel)
theorem dX12_order_0 : decode cX12_order 0 = .ok (.aload_n 0, 1) := dq_42 (by decide +kernel)
theorem dX12_order_1 : decode cX12_order 1 = .ok (.iload_n 1, 1) := dq_27 (by decide +kernel)
theorem dX12_order_2 : decode cX12_order 2 = .ok (.invokevirtual 361, 3) := dq_182 (a := 1) (b := 105) (by decide +kernel) rfl
theorem dX12_order_5 : decode cX12_order 5 = .ok (.ifCond .ne 5, 3) := dq_154 (a := 0) (b := 5) (by decide +kernel) (by decide +kernel)
theorem dX12_order_10 : decode cX12_order 10 = .ok (.aload_n 0, 1) := dq_42 (by decide +kernel)
theorem dX12_order_11 : decode cX12_order 11 = .ok (.invokevirtual 419, 3) := dq_182 (a := 1) (b := 163) (by decide +kernel) rfl
theorem dX12_order_14 : decode cX12_order 14 = .ok (.aload_n 0, 1) := dq_42 (by decide +kernel)
theorem dX12_order_15 : decode cX12_order 15 = .ok (.getfield 112, 3) := dq_180 (a := 0) (b := 112) (by decide +kernel) rfl
theorem dX12_order_18 : decode cX12_order 18 = .ok (.iload_n 1, 1) := dq_27 (by decide +kernel)
theorem dX12_order_19 : decode cX12_order 19 = .ok (.iaload, 1) := dq_46 (by decide +kernel)
theorem dX12_order_20 : decode cX12_order 20 = .ok (.ireturn, 1) := dq_172 (by decide +kernel)
theorem dX12_order_8 : decode cX12_order 8 = .ok (.iconst (-1), 1) := dq_2 (by decide +kernel)
theorem dX12_order_9 : decode cX12_order 9 = .ok (.ireturn, 1) := dq_172 (by decide +kernel)
theorem dX12_left_0 : decode cX12_left 0 = .ok (.aload_n 0, 1) := dq_42 (by decide +kernel)
theorem dX12_left_1 : decode cX12_left 1 = .ok (.getfield 237, 3) := dq_180 (a := 0) (b := 237) (by decide +kernel) rfl
theorem dX12_left_4 : decode cX12_left 4 = .ok (.ifCond .ne 7, 3) := dq_154 (a := 0) (b := 7) (by decide +kernel) (by decide +kernel)
theorem dX12_left_11 : decode cX12_left 11 = .ok (.aload_n 0, 1) := dq_42 (by decide +kernel)
theorem dX12_left_12 : decode cX12_left 12 = .ok (.invokevirtual 426, 3) := dq_182 (a := 1) (b := 170) (by decide +kernel) rfl
theorem dX12_left_15 : decode cX12_left 15 = .ok (.lconst 0, 1) := dq_9 (by decide +kernel)
theorem dX12_left_16 : decode cX12_left 16 = .ok (.lstore_n 1, 1) := dq_64 (by decide +kernel)
theorem dX12_left_17 : decode cX12_left 17 = .ok (.iconst 0, 1) := dq_3 (by decide +kernel)
theorem dX12_left_18 : decode cX12_left 18 = .ok (.istore_n 3, 1) := dq_62 (by decide +kernel)
theorem dX12_left_19 : decode cX12_left 19 = .ok (.iload_n 3, 1) := dq_29 (by decide +kernel)
theorem dX12_left_20 : decode cX12_left 20 = .ok (.aload_n 0, 1) := dq_42 (by decide +kernel)
theorem dX12_left_21 : decode cX12_left 21 = .ok (.getfield 240, 3) := dq_180 (a := 0) (b := 240) (by decide +kernel) rfl
theorem dX12_left_24 : decode cX12_left 24 = .ok (.if_icmp .ge 25, 3) := dq_162 (a := 0) (b := 25) (by decide +kernel) (by decide +kernel)
theorem dX12_left_49 : decode cX12_left 49 = .ok (.lload_n 1, 1) := dq_31 (by decide +kernel)
theorem dX12_left_50 : decode cX12_left 50 = .ok (.lreturn, 1) := dq_173 (by decide +kernel)
theorem dX12_left_27 : decode cX12_left 27 = .ok (.lload_n 1, 1) := dq_31 (by decide +kernel)
theorem dX12_left_28 : decode cX12_left 28 = .ok (.aload_n 0, 1) := dq_42 (by decide +kernel)
theorem dX12_left_29 : decode cX12_left 29 = .ok (.getfield 118, 3) := dq_180 (a := 0) (b := 118) (by decide +kernel) rfl
theorem dX12_left_32 : decode cX12_left 32 = .ok (.iload_n 3, 1) := dq_29 (by decide +kernel)
theorem dX12_left_33 : decode cX12_left 33 = .ok (.laload, 1) := dq_47 (by decide +kernel)
theorem dX12_left_34 : decode cX12_left 34 = .ok (.aload_n 0, 1) := dq_42 (by decide +kernel)
theorem dX12_left_35 : decode cX12_left 35 = .ok (.getfield 118, 3) := dq_180 (a := 0) (b := 118) (by decide +kernel) rfl
theorem dX12_left_38 : decode cX12_left 38 = .ok (.iload_n 3, 1) := dq_29 (by decide +kernel)
theorem dX12_left_39 : decode cX12_left 39 = .ok (.laload, 1) := dq_47 (by decide +kernel)
theorem dX12_left_40 : decode cX12_left 40 = .ok (.lmul, 1) := dq_105 (by decide +kernel)
theorem dX12_left_41 : decode cX12_left 41 = .ok (.ladd, 1) := dq_97 (by decide +kernel)
theorem dX12_left_42 : decode cX12_left 42 = .ok (.lstore_n 1, 1) := dq_64 (by decide +kernel)
theorem dX12_left_43 : decode cX12_left 43 = .ok (.iinc 3 1, 3) := dq_132 (a := 3) (b := 1) (by decide +kernel) rfl (by decide +kernel)
theorem dX12_left_46 : decode cX12_left 46 = .ok (.goto (-27), 3) := dq_167 (a := 255) (b := 229) (by decide +kernel) (by decide +kernel)
theorem dX12_left_7 : decode cX12_left 7 = .ok (.ldc2_w 384, 3) := dq_20 (a := 1) (b := 128) (by decide +kernel) rfl
theorem dX12_left_10 : decode cX12_left 10 = .ok (.lreturn, 1) := dq_173 (by decide +kernel)
theorem dX12_least_0 : decode cX12_least 0 = .ok (.aload_n 0, 1) := dq_42 (by decide +kernel)
theorem dX12_least_1 : decode cX12_least 1 = .ok (.iload_n 1, 1) := dq_27 (by decide +kernel)
theorem dX12_least_2 : decode cX12_least 2 = .ok (.invokevirtual 361, 3) := dq_182 (a := 1) (b := 105) (by decide +kernel) rfl
theorem dX12_least_5 : decode cX12_least 5 = .ok (.ifCond .eq 11, 3) := dq_153 (a := 0) (b := 11) (by decide +kernel) (by decide +kernel)
theorem dX12_least_16 : decode cX12_least 16 = .ok (.ldc2_w 384, 3) := dq_20 (a := 1) (b := 128) (by decide +kernel) rfl
theorem dX12_least_19 : decode cX12_least 19 = .ok (.lreturn, 1) := dq_173 (by decide +kernel)
theorem dX12_least_8 : decode cX12_least 8 = .ok (.aload_n 0, 1) := dq_42 (by decide +kernel)
theorem dX12_least_9 : decode cX12_least 9 = .ok (.iload_n 2, 1) := dq_28 (by decide +kernel)
theorem dX12_least_10 : decode cX12_least 10 = .ok (.invokevirtual 371, 3) := dq_182 (a := 1) (b := 115) (by decide +kernel) rfl
theorem dX12_least_13 : decode cX12_least 13 = .ok (.ifCond .ne 7, 3) := dq_154 (a := 0) (b := 7) (by decide +kernel) (by decide +kernel)
theorem dX12_least_20 : decode cX12_least 20 = .ok (.ldc2_w 384, 3) := dq_20 (a := 1) (b := 128) (by decide +kernel) rfl
theorem dX12_least_23 : decode cX12_least 23 = .ok (.lstore_n 3, 1) := dq_66 (by decide +kernel)
theorem dX12_least_24 : decode cX12_least 24 = .ok (.iconst 0, 1) := dq_3 (by decide +kernel)
theorem dX12_least_25 : decode cX12_least 25 = .ok (.istore 5, 2) := dq_54 (a := 5) (by decide +kernel) rfl
theorem dX12_least_27 : decode cX12_least 27 = .ok (.iload 5, 2) := dq_21 (a := 5) (by decide +kernel) rfl
theorem dX12_least_29 : decode cX12_least 29 = .ok (.aload_n 0, 1) := dq_42 (by decide +kernel)
theorem dX12_least_30 : decode cX12_least 30 = .ok (.invokevirtual 406, 3) := dq_182 (a := 1) (b := 150) (by decide +kernel) rfl
theorem dX12_least_33 : decode cX12_least 33 = .ok (.if_icmp .ge 43, 3) := dq_162 (a := 0) (b := 43) (by decide +kernel) (by decide +kernel)
theorem dX12_least_76 : decode cX12_least 76 = .ok (.lload_n 3, 1) := dq_33 (by decide +kernel)
theorem dX12_least_77 : decode cX12_least 77 = .ok (.lreturn, 1) := dq_173 (by decide +kernel)
theorem dX12_least_36 : decode cX12_least 36 = .ok (.aload_n 0, 1) := dq_42 (by decide +kernel)
theorem dX12_least_37 : decode cX12_least 37 = .ok (.iload 5, 2) := dq_21 (a := 5) (by decide +kernel) rfl
theorem dX12_least_39 : decode cX12_least 39 = .ok (.invokevirtual 409, 3) := dq_182 (a := 1) (b := 153) (by decide +kernel) rfl
theorem dX12_least_42 : decode cX12_least 42 = .ok (.lstore 6, 2) := dq_55 (a := 6) (by decide +kernel) rfl
theorem dX12_least_44 : decode cX12_least 44 = .ok (.aload_n 0, 1) := dq_42 (by decide +kernel)
theorem dX12_least_45 : decode cX12_least 45 = .ok (.getfield 103, 3) := dq_180 (a := 0) (b := 103) (by decide +kernel) rfl
theorem dX12_least_48 : decode cX12_least 48 = .ok (.iload_n 1, 1) := dq_27 (by decide +kernel)
theorem dX12_least_49 : decode cX12_least 49 = .ok (.iaload, 1) := dq_46 (by decide +kernel)
theorem dX12_least_50 : decode cX12_least 50 = .ok (.iload_n 2, 1) := dq_28 (by decide +kernel)
theorem dX12_least_51 : decode cX12_least 51 = .ok (.if_icmp .ne 19, 3) := dq_160 (a := 0) (b := 19) (by decide +kernel) (by decide +kernel)
theorem dX12_least_70 : decode cX12_least 70 = .ok (.iinc 5 1, 3) := dq_132 (a := 5) (b := 1) (by decide +kernel) rfl (by decide +kernel)
theorem dX12_least_73 : decode cX12_least 73 = .ok (.goto (-46), 3) := dq_167 (a := 255) (b := 210) (by decide +kernel) (by decide +kernel)
theorem dX12_least_54 : decode cX12_least 54 = .ok (.lload_n 3, 1) := dq_33 (by decide +kernel)
theorem dX12_least_55 : decode cX12_least 55 = .ok (.lconst 0, 1) := dq_9 (by decide +kernel)
theorem dX12_least_56 : decode cX12_least 56 = .ok (.lcmp, 1) := dq_148 (by decide +kernel)
theorem dX12_least_57 : decode cX12_least 57 = .ok (.ifCond .lt 10, 3) := dq_155 (a := 0) (b := 10) (by decide +kernel) (by decide +kernel)
theorem dX12_least_67 : decode cX12_least 67 = .ok (.lload 6, 2) := dq_22 (a := 6) (by decide +kernel) rfl
theorem dX12_least_69 : decode cX12_least 69 = .ok (.lstore_n 3, 1) := dq_66 (by decide +kernel)
theorem dX12_least_60 : decode cX12_least 60 = .ok (.lload 6, 2) := dq_22 (a := 6) (by decide +kernel) rfl
theorem dX12_least_62 : decode cX12_least 62 = .ok (.lload_n 3, 1) := dq_33 (by decide +kernel)
theorem dX12_least_63 : decode cX12_least 63 = .ok (.lcmp, 1) := dq_148 (by decide +kernel)
theorem dX12_least_64 : decode cX12_least 64 = .ok (.ifCond .ge 6, 3) := dq_156 (a := 0) (b := 6) (by decide +kernel) (by decide +kernel)
theorem dX12_share_0 : decode cX12_share 0 = .ok (.aload_n 0, 1) := dq_42 (by decide +kernel)
theorem dX12_share_1 : decode cX12_share 1 = .ok (.iload_n 1, 1) := dq_27 (by decide +kernel)
theorem dX12_share_2 : decode cX12_share 2 = .ok (.invokevirtual 361, 3) := dq_182 (a := 1) (b := 105) (by decide +kernel) rfl
theorem dX12_share_5 : decode cX12_share 5 = .ok (.ifCond .eq 11, 3) := dq_153 (a := 0) (b := 11) (by decide +kernel) (by decide +kernel)
theorem dX12_share_16 : decode cX12_share 16 = .ok (.iconst (-1), 1) := dq_2 (by decide +kernel)
theorem dX12_share_17 : decode cX12_share 17 = .ok (.ireturn, 1) := dq_172 (by decide +kernel)
theorem dX12_share_8 : decode cX12_share 8 = .ok (.aload_n 0, 1) := dq_42 (by decide +kernel)
theorem dX12_share_9 : decode cX12_share 9 = .ok (.iload_n 2, 1) := dq_28 (by decide +kernel)
theorem dX12_share_10 : decode cX12_share 10 = .ok (.invokevirtual 371, 3) := dq_182 (a := 1) (b := 115) (by decide +kernel) rfl
theorem dX12_share_13 : decode cX12_share 13 = .ok (.ifCond .ne 5, 3) := dq_154 (a := 0) (b := 5) (by decide +kernel) (by decide +kernel)
theorem dX12_share_18 : decode cX12_share 18 = .ok (.lconst 0, 1) := dq_9 (by decide +kernel)
theorem dX12_share_19 : decode cX12_share 19 = .ok (.lstore_n 3, 1) := dq_66 (by decide +kernel)
theorem dX12_share_20 : decode cX12_share 20 = .ok (.lconst 0, 1) := dq_9 (by decide +kernel)
theorem dX12_share_21 : decode cX12_share 21 = .ok (.lstore 5, 2) := dq_55 (a := 5) (by decide +kernel) rfl
theorem dX12_share_23 : decode cX12_share 23 = .ok (.iconst 0, 1) := dq_3 (by decide +kernel)
theorem dX12_share_24 : decode cX12_share 24 = .ok (.istore 7, 2) := dq_54 (a := 7) (by decide +kernel) rfl
theorem dX12_share_26 : decode cX12_share 26 = .ok (.iload 7, 2) := dq_21 (a := 7) (by decide +kernel) rfl
theorem dX12_share_28 : decode cX12_share 28 = .ok (.aload_n 0, 1) := dq_42 (by decide +kernel)
theorem dX12_share_29 : decode cX12_share 29 = .ok (.invokevirtual 406, 3) := dq_182 (a := 1) (b := 150) (by decide +kernel) rfl
theorem dX12_share_32 : decode cX12_share 32 = .ok (.if_icmp .ge 45, 3) := dq_162 (a := 0) (b := 45) (by decide +kernel) (by decide +kernel)
theorem dX12_share_77 : decode cX12_share 77 = .ok (.lload 5, 2) := dq_22 (a := 5) (by decide +kernel) rfl
theorem dX12_share_79 : decode cX12_share 79 = .ok (.lconst 0, 1) := dq_9 (by decide +kernel)
theorem dX12_share_80 : decode cX12_share 80 = .ok (.lcmp, 1) := dq_148 (by decide +kernel)
theorem dX12_share_81 : decode cX12_share 81 = .ok (.ifCond .ne 7, 3) := dq_154 (a := 0) (b := 7) (by decide +kernel) (by decide +kernel)
theorem dX12_share_84 : decode cX12_share 84 = .ok (.iconst 0, 1) := dq_3 (by decide +kernel)
theorem dX12_share_85 : decode cX12_share 85 = .ok (.goto 12, 3) := dq_167 (a := 0) (b := 12) (by decide +kernel) (by decide +kernel)
theorem dX12_share_97 : decode cX12_share 97 = .ok (.ireturn, 1) := dq_172 (by decide +kernel)
theorem dX12_share_35 : decode cX12_share 35 = .ok (.ldc2_w 429, 3) := dq_20 (a := 1) (b := 173) (by decide +kernel) rfl
theorem dX12_share_38 : decode cX12_share 38 = .ok (.lconst 1, 1) := dq_10 (by decide +kernel)
theorem dX12_share_39 : decode cX12_share 39 = .ok (.aload_n 0, 1) := dq_42 (by decide +kernel)
theorem dX12_share_40 : decode cX12_share 40 = .ok (.iload 7, 2) := dq_21 (a := 7) (by decide +kernel) rfl
theorem dX12_share_42 : decode cX12_share 42 = .ok (.invokevirtual 409, 3) := dq_182 (a := 1) (b := 153) (by decide +kernel) rfl
theorem dX12_share_45 : decode cX12_share 45 = .ok (.ladd, 1) := dq_97 (by decide +kernel)
theorem dX12_share_46 : decode cX12_share 46 = .ok (.ldiv, 1) := dq_109 (by decide +kernel)
theorem dX12_sure_0 : decode cX12_sure 0 = .ok (.aload_n 0, 1) := dq_42 (by decide +kernel)
theorem dX12_sure_1 : decode cX12_sure 1 = .ok (.iload_n 1, 1) := dq_27 (by decide +kernel)
theorem dX12_sure_2 : decode cX12_sure 2 = .ok (.invokevirtual 361, 3) := dq_182 (a := 1) (b := 105) (by decide +kernel) rfl
theorem dX12_sure_5 : decode cX12_sure 5 = .ok (.ifCond .ne 7, 3) := dq_154 (a := 0) (b := 7) (by decide +kernel) (by decide +kernel)
theorem dX12_sure_12 : decode cX12_sure 12 = .ok (.aload_n 0, 1) := dq_42 (by decide +kernel)
theorem dX12_sure_13 : decode cX12_sure 13 = .ok (.iconst 1, 1) := dq_4 (by decide +kernel)
theorem dX12_sure_14 : decode cX12_sure 14 = .ok (.invokevirtual 413, 3) := dq_182 (a := 1) (b := 157) (by decide +kernel) rfl
theorem dX12_sure_17 : decode cX12_sure 17 = .ok (.istore_n 2, 1) := dq_61 (by decide +kernel)
theorem dX12_sure_18 : decode cX12_sure 18 = .ok (.aload_n 0, 1) := dq_42 (by decide +kernel)
theorem dX12_sure_19 : decode cX12_sure 19 = .ok (.getfield 106, 3) := dq_180 (a := 0) (b := 106) (by decide +kernel) rfl
theorem dX12_sure_22 : decode cX12_sure 22 = .ok (.iconst 0, 1) := dq_3 (by decide +kernel)
theorem dX12_sure_23 : decode cX12_sure 23 = .ok (.laload, 1) := dq_47 (by decide +kernel)
theorem dX12_sure_24 : decode cX12_sure 24 = .ok (.lstore_n 3, 1) := dq_66 (by decide +kernel)
theorem dX12_sure_25 : decode cX12_sure 25 = .ok (.aload_n 0, 1) := dq_42 (by decide +kernel)
theorem dX12_sure_26 : decode cX12_sure 26 = .ok (.aload_n 0, 1) := dq_42 (by decide +kernel)
theorem dX12_sure_27 : decode cX12_sure 27 = .ok (.getfield 109, 3) := dq_180 (a := 0) (b := 109) (by decide +kernel) rfl
theorem dX12_sure_30 : decode cX12_sure 30 = .ok (.iconst 0, 1) := dq_3 (by decide +kernel)
theorem dX12_sure_31 : decode cX12_sure 31 = .ok (.iaload, 1) := dq_46 (by decide +kernel)
theorem dX12_sure_32 : decode cX12_sure 32 = .ok (.invokevirtual 403, 3) := dq_182 (a := 1) (b := 147) (by decide +kernel) rfl
theorem dX12_sure_35 : decode cX12_sure 35 = .ok (.aload_n 0, 1) := dq_42 (by decide +kernel)
theorem dX12_sure_36 : decode cX12_sure 36 = .ok (.getfield 103, 3) := dq_180 (a := 0) (b := 103) (by decide +kernel) rfl
theorem dX12_sure_39 : decode cX12_sure 39 = .ok (.iload_n 1, 1) := dq_27 (by decide +kernel)
theorem dX12_sure_40 : decode cX12_sure 40 = .ok (.iaload, 1) := dq_46 (by decide +kernel)
theorem dX12_sure_41 : decode cX12_sure 41 = .ok (.istore 5, 2) := dq_54 (a := 5) (by decide +kernel) rfl
theorem dX12_sure_43 : decode cX12_sure 43 = .ok (.ldc2_w 384, 3) := dq_20 (a := 1) (b := 128) (by decide +kernel) rfl
theorem dX12_sure_46 : decode cX12_sure 46 = .ok (.lstore 6, 2) := dq_55 (a := 6) (by decide +kernel) rfl
theorem dX12_sure_48 : decode cX12_sure 48 = .ok (.iconst 0, 1) := dq_3 (by decide +kernel)
theorem dX12_sure_49 : decode cX12_sure 49 = .ok (.istore 8, 2) := dq_54 (a := 8) (by decide +kernel) rfl
theorem dX12_sure_51 : decode cX12_sure 51 = .ok (.iload 8, 2) := dq_21 (a := 8) (by decide +kernel) rfl
theorem dX12_sure_53 : decode cX12_sure 53 = .ok (.aload_n 0, 1) := dq_42 (by decide +kernel)
theorem dX12_sure_54 : decode cX12_sure 54 = .ok (.invokevirtual 406, 3) := dq_182 (a := 1) (b := 150) (by decide +kernel) rfl
theorem dX12_sure_57 : decode cX12_sure 57 = .ok (.if_icmp .ge 47, 3) := dq_162 (a := 0) (b := 47) (by decide +kernel) (by decide +kernel)
theorem dX12_sure_104 : decode cX12_sure 104 = .ok (.lload 6, 2) := dq_22 (a := 6) (by decide +kernel) rfl
theorem dX12_sure_106 : decode cX12_sure 106 = .ok (.lload_n 3, 1) := dq_33 (by decide +kernel)
theorem dX12_sure_107 : decode cX12_sure 107 = .ok (.lsub, 1) := dq_101 (by decide +kernel)
theorem dX12_sure_108 : decode cX12_sure 108 = .ok (.lreturn, 1) := dq_173 (by decide +kernel)
theorem dX12_sure_60 : decode cX12_sure 60 = .ok (.aload_n 0, 1) := dq_42 (by decide +kernel)
theorem dX12_sure_61 : decode cX12_sure 61 = .ok (.iload 8, 2) := dq_21 (a := 8) (by decide +kernel) rfl
theorem dX12_sure_63 : decode cX12_sure 63 = .ok (.invokevirtual 409, 3) := dq_182 (a := 1) (b := 153) (by decide +kernel) rfl
theorem dX12_sure_66 : decode cX12_sure 66 = .ok (.lstore 9, 2) := dq_55 (a := 9) (by decide +kernel) rfl
theorem dX12_sure_68 : decode cX12_sure 68 = .ok (.aload_n 0, 1) := dq_42 (by decide +kernel)
theorem dX12_sure_69 : decode cX12_sure 69 = .ok (.getfield 103, 3) := dq_180 (a := 0) (b := 103) (by decide +kernel) rfl
theorem dX12_sure_72 : decode cX12_sure 72 = .ok (.iload_n 1, 1) := dq_27 (by decide +kernel)
theorem dX12_sure_73 : decode cX12_sure 73 = .ok (.iaload, 1) := dq_46 (by decide +kernel)
theorem dX12_sure_74 : decode cX12_sure 74 = .ok (.iload 5, 2) := dq_21 (a := 5) (by decide +kernel) rfl
theorem dX12_sure_76 : decode cX12_sure 76 = .ok (.if_icmp .eq 22, 3) := dq_159 (a := 0) (b := 22) (by decide +kernel) (by decide +kernel)
theorem dX12_sure_98 : decode cX12_sure 98 = .ok (.iinc 8 1, 3) := dq_132 (a := 8) (b := 1) (by decide +kernel) rfl (by decide +kernel)
theorem dX12_sure_101 : decode cX12_sure 101 = .ok (.goto (-50), 3) := dq_167 (a := 255) (b := 206) (by decide +kernel) (by decide +kernel)
theorem dX12_sure_79 : decode cX12_sure 79 = .ok (.lload 6, 2) := dq_22 (a := 6) (by decide +kernel) rfl
theorem dX12_sure_81 : decode cX12_sure 81 = .ok (.lconst 0, 1) := dq_9 (by decide +kernel)
theorem dX12_sure_82 : decode cX12_sure 82 = .ok (.lcmp, 1) := dq_148 (by decide +kernel)
theorem dX12_sure_83 : decode cX12_sure 83 = .ok (.ifCond .lt 11, 3) := dq_155 (a := 0) (b := 11) (by decide +kernel) (by decide +kernel)
theorem dX12_sure_94 : decode cX12_sure 94 = .ok (.lload 9, 2) := dq_22 (a := 9) (by decide +kernel) rfl
theorem dX12_sure_96 : decode cX12_sure 96 = .ok (.lstore 6, 2) := dq_55 (a := 6) (by decide +kernel) rfl
theorem dX12_sure_86 : decode cX12_sure 86 = .ok (.lload 9, 2) := dq_22 (a := 9) (by decide +kernel) rfl
theorem dX12_sure_88 : decode cX12_sure 88 = .ok (.lload 6, 2) := dq_22 (a := 6) (by decide +kernel) rfl
theorem dX12_sure_90 : decode cX12_sure 90 = .ok (.lcmp, 1) := dq_148 (by decide +kernel)
theorem dX12_sure_91 : decode cX12_sure 91 = .ok (.ifCond .ge 7, 3) := dq_156 (a := 0) (b := 7) (by decide +kernel) (by decide +kernel)
theorem dX12_sure_8 : decode cX12_sure 8 = .ok (.ldc2_w 384, 3) := dq_20 (a := 1) (b := 128) (by decide +kernel) rfl
theorem dX12_sure_11 : decode cX12_sure 11 = .ok (.lreturn, 1) := dq_173 (by decide +kernel)
theorem dX12_lead_0 : decode cX12_lead 0 = .ok (.iload_n 1, 1) := dq_27 (by decide +kernel)
theorem dX12_lead_1 : decode cX12_lead 1 = .ok (.i2l, 1) := dq_133 (by decide +kernel)
theorem dX12_lead_2 : decode cX12_lead 2 = .ok (.lconst 1, 1) := dq_10 (by decide +kernel)
theorem dX12_lead_3 : decode cX12_lead 3 = .ok (.ldc2_w 440, 3) := dq_20 (a := 1) (b := 184) (by decide +kernel) rfl
theorem dX12_lead_6 : decode cX12_lead 6 = .ok (.invokestatic 191, 3) := dq_184 (a := 0) (b := 191) (by decide +kernel) rfl
theorem dX12_lead_9 : decode cX12_lead 9 = .ok (.ifCond .ne 5, 3) := dq_154 (a := 0) (b := 5) (by decide +kernel) (by decide +kernel)
theorem dX12_lead_14 : decode cX12_lead 14 = .ok (.iconst 0, 1) := dq_3 (by decide +kernel)
theorem dX12_lead_15 : decode cX12_lead 15 = .ok (.istore_n 2, 1) := dq_61 (by decide +kernel)
theorem dX12_lead_16 : decode cX12_lead 16 = .ok (.iload_n 2, 1) := dq_28 (by decide +kernel)
theorem dX12_lead_17 : decode cX12_lead 17 = .ok (.iload_n 1, 1) := dq_27 (by decide +kernel)
theorem dX12_lead_18 : decode cX12_lead 18 = .ok (.if_icmp .ge 40, 3) := dq_162 (a := 0) (b := 40) (by decide +kernel) (by decide +kernel)
theorem dX12_lead_58 : decode cX12_lead 58 = .ok (.iload_n 2, 1) := dq_28 (by decide +kernel)
theorem dX12_lead_59 : decode cX12_lead 59 = .ok (.ireturn, 1) := dq_172 (by decide +kernel)
theorem dX12_lead_21 : decode cX12_lead 21 = .ok (.aload_n 0, 1) := dq_42 (by decide +kernel)
theorem dX12_lead_22 : decode cX12_lead 22 = .ok (.invokevirtual 442, 3) := dq_182 (a := 1) (b := 186) (by decide +kernel) rfl
theorem dX12_isStep_0 : decode cX12_isStep 0 = .ok (.aload_n 0, 1) := dq_42 (by decide +kernel)
theorem dX12_isStep_1 : decode cX12_isStep 1 = .ok (.getfield 349, 3) := dq_180 (a := 1) (b := 93) (by decide +kernel) rfl
theorem dX12_isStep_4 : decode cX12_isStep 4 = .ok (.sipush 200, 3) := dq_17 (a := 0) (b := 200) (by decide +kernel) (by decide +kernel)
theorem dX12_isStep_7 : decode cX12_isStep 7 = .ok (.if_icmp .ne 5, 3) := dq_160 (a := 0) (b := 5) (by decide +kernel) (by decide +kernel)
theorem dX12_isStep_12 : decode cX12_isStep 12 = .ok (.iconst 0, 1) := dq_3 (by decide +kernel)
theorem dX12_isStep_13 : decode cX12_isStep 13 = .ok (.istore_n 1, 1) := dq_60 (by decide +kernel)
theorem dX12_isStep_14 : decode cX12_isStep 14 = .ok (.iload_n 1, 1) := dq_27 (by decide +kernel)
theorem dX12_isStep_15 : decode cX12_isStep 15 = .ok (.aload_n 0, 1) := dq_42 (by decide +kernel)
theorem dX12_isStep_16 : decode cX12_isStep 16 = .ok (.getfield 237, 3) := dq_180 (a := 0) (b := 237) (by decide +kernel) rfl
theorem dX12_isStep_19 : decode cX12_isStep 19 = .ok (.if_icmp .ge 123, 3) := dq_162 (a := 0) (b := 123) (by decide +kernel) (by decide +kernel)
theorem dX12_isStep_142 : decode cX12_isStep 142 = .ok (.iconst 0, 1) := dq_3 (by decide +kernel)
theorem dX12_isStep_143 : decode cX12_isStep 143 = .ok (.ireturn, 1) := dq_172 (by decide +kernel)
theorem dX12_isStep_22 : decode cX12_isStep 22 = .ok (.iconst 0, 1) := dq_3 (by decide +kernel)
theorem dX12_isStep_23 : decode cX12_isStep 23 = .ok (.istore_n 2, 1) := dq_61 (by decide +kernel)
theorem dX12_isStep_24 : decode cX12_isStep 24 = .ok (.iload_n 2, 1) := dq_28 (by decide +kernel)
theorem dX12_isStep_25 : decode cX12_isStep 25 = .ok (.aload_n 0, 1) := dq_42 (by decide +kernel)
theorem dX12_isStep_26 : decode cX12_isStep 26 = .ok (.getfield 237, 3) := dq_180 (a := 0) (b := 237) (by decide +kernel) rfl
theorem dX12_isStep_29 : decode cX12_isStep 29 = .ok (.if_icmp .ge 107, 3) := dq_162 (a := 0) (b := 107) (by decide +kernel) (by decide +kernel)
theorem dX12_isStep_32 : decode cX12_isStep 32 = .ok (.aload_n 0, 1) := dq_42 (by decide +kernel)
theorem dX12_isStep_33 : decode cX12_isStep 33 = .ok (.iload_n 2, 1) := dq_28 (by decide +kernel)
theorem dX12_isStep_34 : decode cX12_isStep 34 = .ok (.iload_n 2, 1) := dq_28 (by decide +kernel)
theorem dX12_isStep_35 : decode cX12_isStep 35 = .ok (.aload_n 0, 1) := dq_42 (by decide +kernel)
theorem dX12_isStep_36 : decode cX12_isStep 36 = .ok (.getfield 97, 3) := dq_180 (a := 0) (b := 97) (by decide +kernel) rfl
theorem dX12_isStep_39 : decode cX12_isStep 39 = .ok (.invokevirtual 334, 3) := dq_182 (a := 1) (b := 78) (by decide +kernel) rfl
theorem dX12_isStep_42 : decode cX12_isStep 42 = .ok (.istore_n 3, 1) := dq_62 (by decide +kernel)
theorem dX12_isStep_43 : decode cX12_isStep 43 = .ok (.iload_n 1, 1) := dq_27 (by decide +kernel)
theorem dX12_isStep_44 : decode cX12_isStep 44 = .ok (.iload_n 2, 1) := dq_28 (by decide +kernel)
theorem dX12_isStep_45 : decode cX12_isStep 45 = .ok (.if_icmp .eq 85, 3) := dq_159 (a := 0) (b := 85) (by decide +kernel) (by decide +kernel)
theorem dX12_isStep_130 : decode cX12_isStep 130 = .ok (.iinc 2 1, 3) := dq_132 (a := 2) (b := 1) (by decide +kernel) rfl (by decide +kernel)
theorem dX12_isStep_133 : decode cX12_isStep 133 = .ok (.goto (-109), 3) := dq_167 (a := 255) (b := 147) (by decide +kernel) (by decide +kernel)
theorem dX12_isStep_136 : decode cX12_isStep 136 = .ok (.iinc 1 1, 3) := dq_132 (a := 1) (b := 1) (by decide +kernel) rfl (by decide +kernel)
theorem dX12_isStep_139 : decode cX12_isStep 139 = .ok (.goto (-125), 3) := dq_167 (a := 255) (b := 131) (by decide +kernel) (by decide +kernel)
theorem dX12_isStep_48 : decode cX12_isStep 48 = .ok (.iload_n 3, 1) := dq_29 (by decide +kernel)
theorem dX12_isStep_49 : decode cX12_isStep 49 = .ok (.ifCond .ne 6, 3) := dq_154 (a := 0) (b := 6) (by decide +kernel) (by decide +kernel)
theorem dX12_isStep_55 : decode cX12_isStep 55 = .ok (.aload_n 0, 1) := dq_42 (by decide +kernel)
theorem dX12_isStep_56 : decode cX12_isStep 56 = .ok (.iload_n 1, 1) := dq_27 (by decide +kernel)
theorem dX12_isStep_57 : decode cX12_isStep 57 = .ok (.iload_n 2, 1) := dq_28 (by decide +kernel)
theorem dX12_isStep_58 : decode cX12_isStep 58 = .ok (.aload_n 0, 1) := dq_42 (by decide +kernel)
theorem dX12_isStep_59 : decode cX12_isStep 59 = .ok (.getfield 97, 3) := dq_180 (a := 0) (b := 97) (by decide +kernel) rfl
theorem dX12_isStep_62 : decode cX12_isStep 62 = .ok (.invokevirtual 334, 3) := dq_182 (a := 1) (b := 78) (by decide +kernel) rfl
theorem dX12_isStep_65 : decode cX12_isStep 65 = .ok (.iload_n 3, 1) := dq_29 (by decide +kernel)
theorem dX12_isStep_66 : decode cX12_isStep 66 = .ok (.invokestatic 433, 3) := dq_184 (a := 1) (b := 177) (by decide +kernel) rfl
theorem dX12_nearestTo_0 : decode cX12_nearestTo 0 = .ok (.iload_n 0, 1) := dq_26 (by decide +kernel)
theorem dX12_nearestTo_1 : decode cX12_nearestTo 1 = .ok (.ifCond .ge 8, 3) := dq_156 (a := 0) (b := 8) (by decide +kernel) (by decide +kernel)
theorem dX12_nearestTo_9 : decode cX12_nearestTo 9 = .ok (.iload_n 0, 1) := dq_26 (by decide +kernel)
theorem dX12_nearestTo_10 : decode cX12_nearestTo 10 = .ok (.istore_n 2, 1) := dq_61 (by decide +kernel)
theorem dX12_nearestTo_11 : decode cX12_nearestTo 11 = .ok (.iload_n 2, 1) := dq_28 (by decide +kernel)
theorem dX12_nearestTo_12 : decode cX12_nearestTo 12 = .ok (.iload_n 1, 1) := dq_27 (by decide +kernel)
theorem dX12_nearestTo_13 : decode cX12_nearestTo 13 = .ok (.idiv, 1) := dq_108 (by decide +kernel)
theorem dX12_nearestTo_14 : decode cX12_nearestTo 14 = .ok (.istore_n 3, 1) := dq_62 (by decide +kernel)
theorem dX12_nearestTo_15 : decode cX12_nearestTo 15 = .ok (.ldc2_w 431, 3) := dq_20 (a := 1) (b := 175) (by decide +kernel) rfl
theorem dX12_nearestTo_18 : decode cX12_nearestTo 18 = .ok (.iload_n 2, 1) := dq_28 (by decide +kernel)
theorem dX12_nearestTo_19 : decode cX12_nearestTo 19 = .ok (.iload_n 1, 1) := dq_27 (by decide +kernel)
theorem dX12_nearestTo_20 : decode cX12_nearestTo 20 = .ok (.irem, 1) := dq_112 (by decide +kernel)
theorem dX12_nearestTo_21 : decode cX12_nearestTo 21 = .ok (.i2l, 1) := dq_133 (by decide +kernel)
theorem dX12_nearestTo_22 : decode cX12_nearestTo 22 = .ok (.lmul, 1) := dq_105 (by decide +kernel)
theorem dX12_nearestTo_23 : decode cX12_nearestTo 23 = .ok (.iload_n 1, 1) := dq_27 (by decide +kernel)
theorem dX12_nearestTo_24 : decode cX12_nearestTo 24 = .ok (.i2l, 1) := dq_133 (by decide +kernel)
theorem dX12_nearestTo_25 : decode cX12_nearestTo 25 = .ok (.lcmp, 1) := dq_148 (by decide +kernel)
theorem dX12_nearestTo_26 : decode cX12_nearestTo 26 = .ok (.ifCond .le 6, 3) := dq_158 (a := 0) (b := 6) (by decide +kernel) (by decide +kernel)
theorem dX12_nearestTo_32 : decode cX12_nearestTo 32 = .ok (.iload_n 0, 1) := dq_26 (by decide +kernel)
theorem dX12_nearestTo_33 : decode cX12_nearestTo 33 = .ok (.ifCond .ge 8, 3) := dq_156 (a := 0) (b := 8) (by decide +kernel) (by decide +kernel)
theorem dX12_nearestTo_41 : decode cX12_nearestTo 41 = .ok (.iload_n 3, 1) := dq_29 (by decide +kernel)
theorem dX12_nearestTo_42 : decode cX12_nearestTo 42 = .ok (.ireturn, 1) := dq_172 (by decide +kernel)
theorem dX12_nearestTo_29 : decode cX12_nearestTo 29 = .ok (.iinc 3 1, 3) := dq_132 (a := 3) (b := 1) (by decide +kernel) rfl (by decide +kernel)
theorem dX12_nearestTo_4 : decode cX12_nearestTo 4 = .ok (.iload_n 0, 1) := dq_26 (by decide +kernel)
theorem dX12_nearestTo_5 : decode cX12_nearestTo 5 = .ok (.ineg, 1) := dq_116 (by decide +kernel)
theorem dX12_nearestTo_6 : decode cX12_nearestTo 6 = .ok (.goto 4, 3) := dq_167 (a := 0) (b := 4) (by decide +kernel) (by decide +kernel)
theorem dX12_nearestTo_36 : decode cX12_nearestTo 36 = .ok (.iload_n 3, 1) := dq_29 (by decide +kernel)
theorem dX12_nearestTo_37 : decode cX12_nearestTo 37 = .ok (.ineg, 1) := dq_116 (by decide +kernel)
theorem dX12_nearestTo_38 : decode cX12_nearestTo 38 = .ok (.goto 4, 3) := dq_167 (a := 0) (b := 4) (by decide +kernel) (by decide +kernel)
theorem dX12_isStep_69 : decode cX12_isStep 69 = .ok (.istore 4, 2) := dq_54 (a := 4) (by decide +kernel) rfl
theorem dX12_isStep_71 : decode cX12_isStep 71 = .ok (.iload 4, 2) := dq_21 (a := 4) (by decide +kernel) rfl
theorem dX12_isStep_73 : decode cX12_isStep 73 = .ok (.ifCond .ne 6, 3) := dq_154 (a := 0) (b := 6) (by decide +kernel) (by decide +kernel)
theorem dX12_isStep_79 : decode cX12_isStep 79 = .ok (.aload_n 0, 1) := dq_42 (by decide +kernel)
theorem dX12_isStep_80 : decode cX12_isStep 80 = .ok (.iload_n 1, 1) := dq_27 (by decide +kernel)
theorem dX12_isStep_81 : decode cX12_isStep 81 = .ok (.iload_n 2, 1) := dq_28 (by decide +kernel)
theorem dX12_isStep_82 : decode cX12_isStep 82 = .ok (.iload 4, 2) := dq_21 (a := 4) (by decide +kernel) rfl
theorem dX12_isStep_84 : decode cX12_isStep 84 = .ok (.invokevirtual 436, 3) := dq_182 (a := 1) (b := 180) (by decide +kernel) rfl
theorem dX12_goes_0 : decode cX12_goes 0 = .ok (.iconst 0, 1) := dq_3 (by decide +kernel)
theorem dX12_goes_1 : decode cX12_goes 1 = .ok (.istore 4, 2) := dq_54 (a := 4) (by decide +kernel) rfl
theorem dX12_goes_3 : decode cX12_goes 3 = .ok (.iload 4, 2) := dq_21 (a := 4) (by decide +kernel) rfl
theorem dX12_goes_5 : decode cX12_goes 5 = .ok (.aload_n 0, 1) := dq_42 (by decide +kernel)
theorem dX12_goes_6 : decode cX12_goes 6 = .ok (.getfield 240, 3) := dq_180 (a := 0) (b := 240) (by decide +kernel) rfl
theorem dX12_goes_9 : decode cX12_goes 9 = .ok (.if_icmp .ge 36, 3) := dq_162 (a := 0) (b := 36) (by decide +kernel) (by decide +kernel)
theorem dX12_goes_45 : decode cX12_goes 45 = .ok (.iconst 0, 1) := dq_3 (by decide +kernel)
theorem dX12_goes_46 : decode cX12_goes 46 = .ok (.istore 4, 2) := dq_54 (a := 4) (by decide +kernel) rfl
theorem dX12_goes_48 : decode cX12_goes 48 = .ok (.iload 4, 2) := dq_21 (a := 4) (by decide +kernel) rfl
theorem dX12_goes_50 : decode cX12_goes 50 = .ok (.aload_n 0, 1) := dq_42 (by decide +kernel)
theorem dX12_goes_51 : decode cX12_goes 51 = .ok (.getfield 237, 3) := dq_180 (a := 0) (b := 237) (by decide +kernel) rfl
theorem dX12_goes_54 : decode cX12_goes 54 = .ok (.if_icmp .ge 37, 3) := dq_162 (a := 0) (b := 37) (by decide +kernel) (by decide +kernel)
theorem dX12_goes_91 : decode cX12_goes 91 = .ok (.return_, 1) := dq_177 (by decide +kernel)
theorem dX12_goes_57 : decode cX12_goes 57 = .ok (.aload_n 0, 1) := dq_42 (by decide +kernel)
theorem dX12_goes_58 : decode cX12_goes 58 = .ok (.getfield 121, 3) := dq_180 (a := 0) (b := 121) (by decide +kernel) rfl
theorem dX12_goes_61 : decode cX12_goes 61 = .ok (.iconst 5, 1) := dq_8 (by decide +kernel)
theorem dX12_goes_62 : decode cX12_goes 62 = .ok (.iload 4, 2) := dq_21 (a := 4) (by decide +kernel) rfl
theorem dX12_goes_64 : decode cX12_goes 64 = .ok (.imul, 1) := dq_104 (by decide +kernel)
theorem dX12_goes_65 : decode cX12_goes 65 = .ok (.iload_n 1, 1) := dq_27 (by decide +kernel)
theorem dX12_goes_66 : decode cX12_goes 66 = .ok (.iadd, 1) := dq_96 (by decide +kernel)
theorem dX12_goes_67 : decode cX12_goes 67 = .ok (.dup2, 1) := dq_92 (by decide +kernel)
theorem dX12_goes_68 : decode cX12_goes 68 = .ok (.laload, 1) := dq_47 (by decide +kernel)
theorem dX12_goes_69 : decode cX12_goes 69 = .ok (.iload_n 3, 1) := dq_29 (by decide +kernel)
theorem dX12_goes_70 : decode cX12_goes 70 = .ok (.i2l, 1) := dq_133 (by decide +kernel)
theorem dX12_goes_71 : decode cX12_goes 71 = .ok (.aload_n 0, 1) := dq_42 (by decide +kernel)
theorem dX12_goes_72 : decode cX12_goes 72 = .ok (.getfield 121, 3) := dq_180 (a := 0) (b := 121) (by decide +kernel) rfl
theorem dX12_goes_75 : decode cX12_goes 75 = .ok (.iconst 5, 1) := dq_8 (by decide +kernel)
theorem dX12_goes_76 : decode cX12_goes 76 = .ok (.iload 4, 2) := dq_21 (a := 4) (by decide +kernel) rfl
theorem dX12_goes_78 : decode cX12_goes 78 = .ok (.imul, 1) := dq_104 (by decide +kernel)
theorem dX12_goes_79 : decode cX12_goes 79 = .ok (.iload_n 2, 1) := dq_28 (by decide +kernel)
theorem dX12_goes_80 : decode cX12_goes 80 = .ok (.iadd, 1) := dq_96 (by decide +kernel)
theorem dX12_goes_81 : decode cX12_goes 81 = .ok (.laload, 1) := dq_47 (by decide +kernel)
theorem dX12_goes_82 : decode cX12_goes 82 = .ok (.lmul, 1) := dq_105 (by decide +kernel)
theorem dX12_goes_83 : decode cX12_goes 83 = .ok (.lsub, 1) := dq_101 (by decide +kernel)
theorem dX12_goes_84 : decode cX12_goes 84 = .ok (.lastore, 1) := dq_80 (by decide +kernel)
theorem dX12_goes_85 : decode cX12_goes 85 = .ok (.iinc 4 1, 3) := dq_132 (a := 4) (b := 1) (by decide +kernel) rfl (by decide +kernel)
theorem dX12_goes_88 : decode cX12_goes 88 = .ok (.goto (-40), 3) := dq_167 (a := 255) (b := 216) (by decide +kernel) (by decide +kernel)
theorem dX12_goes_12 : decode cX12_goes 12 = .ok (.aload_n 0, 1) := dq_42 (by decide +kernel)
theorem dX12_goes_13 : decode cX12_goes 13 = .ok (.getfield 97, 3) := dq_180 (a := 0) (b := 97) (by decide +kernel) rfl
theorem dX12_goes_16 : decode cX12_goes 16 = .ok (.iconst 5, 1) := dq_8 (by decide +kernel)
theorem dX12_goes_17 : decode cX12_goes 17 = .ok (.iload 4, 2) := dq_21 (a := 4) (by decide +kernel) rfl
theorem dX12_goes_19 : decode cX12_goes 19 = .ok (.imul, 1) := dq_104 (by decide +kernel)
theorem dX12_goes_20 : decode cX12_goes 20 = .ok (.iload_n 1, 1) := dq_27 (by decide +kernel)
theorem dX12_goes_21 : decode cX12_goes 21 = .ok (.iadd, 1) := dq_96 (by decide +kernel)
theorem dX12_goes_22 : decode cX12_goes 22 = .ok (.dup2, 1) := dq_92 (by decide +kernel)
theorem dX12_goes_23 : decode cX12_goes 23 = .ok (.iaload, 1) := dq_46 (by decide +kernel)
theorem dX12_goes_24 : decode cX12_goes 24 = .ok (.iload_n 3, 1) := dq_29 (by decide +kernel)
theorem dX12_goes_25 : decode cX12_goes 25 = .ok (.aload_n 0, 1) := dq_42 (by decide +kernel)
theorem dX12_goes_26 : decode cX12_goes 26 = .ok (.getfield 97, 3) := dq_180 (a := 0) (b := 97) (by decide +kernel) rfl
theorem dX12_goes_29 : decode cX12_goes 29 = .ok (.iconst 5, 1) := dq_8 (by decide +kernel)
theorem dX12_goes_30 : decode cX12_goes 30 = .ok (.iload 4, 2) := dq_21 (a := 4) (by decide +kernel) rfl
theorem dX12_goes_32 : decode cX12_goes 32 = .ok (.imul, 1) := dq_104 (by decide +kernel)
theorem dX12_goes_33 : decode cX12_goes 33 = .ok (.iload_n 2, 1) := dq_28 (by decide +kernel)
theorem dX12_goes_34 : decode cX12_goes 34 = .ok (.iadd, 1) := dq_96 (by decide +kernel)
theorem dX12_goes_35 : decode cX12_goes 35 = .ok (.iaload, 1) := dq_46 (by decide +kernel)
theorem dX12_goes_36 : decode cX12_goes 36 = .ok (.imul, 1) := dq_104 (by decide +kernel)
theorem dX12_goes_37 : decode cX12_goes 37 = .ok (.isub, 1) := dq_100 (by decide +kernel)
theorem dX12_goes_38 : decode cX12_goes 38 = .ok (.iastore, 1) := dq_79 (by decide +kernel)
theorem dX12_goes_39 : decode cX12_goes 39 = .ok (.iinc 4 1, 3) := dq_132 (a := 4) (b := 1) (by decide +kernel) rfl (by decide +kernel)
theorem dX12_goes_42 : decode cX12_goes 42 = .ok (.goto (-39), 3) := dq_167 (a := 255) (b := 217) (by decide +kernel) (by decide +kernel)
theorem dX12_isStep_87 : decode cX12_isStep 87 = .ok (.aload_n 0, 1) := dq_42 (by decide +kernel)
theorem dX12_isStep_88 : decode cX12_isStep 88 = .ok (.getfield 124, 3) := dq_180 (a := 0) (b := 124) (by decide +kernel) rfl
theorem dX12_isStep_91 : decode cX12_isStep 91 = .ok (.aload_n 0, 1) := dq_42 (by decide +kernel)
theorem dX12_isStep_92 : decode cX12_isStep 92 = .ok (.getfield 349, 3) := dq_180 (a := 1) (b := 93) (by decide +kernel) rfl
theorem dX12_isStep_95 : decode cX12_isStep 95 = .ok (.iload_n 1, 1) := dq_27 (by decide +kernel)
theorem dX12_isStep_96 : decode cX12_isStep 96 = .ok (.iastore, 1) := dq_79 (by decide +kernel)
theorem dX12_isStep_97 : decode cX12_isStep 97 = .ok (.aload_n 0, 1) := dq_42 (by decide +kernel)
theorem dX12_isStep_98 : decode cX12_isStep 98 = .ok (.getfield 127, 3) := dq_180 (a := 0) (b := 127) (by decide +kernel) rfl
theorem dX12_isStep_101 : decode cX12_isStep 101 = .ok (.aload_n 0, 1) := dq_42 (by decide +kernel)
theorem dX12_isStep_102 : decode cX12_isStep 102 = .ok (.getfield 349, 3) := dq_180 (a := 1) (b := 93) (by decide +kernel) rfl
theorem dX12_isStep_105 : decode cX12_isStep 105 = .ok (.iload_n 2, 1) := dq_28 (by decide +kernel)
theorem dX12_isStep_106 : decode cX12_isStep 106 = .ok (.iastore, 1) := dq_79 (by decide +kernel)
theorem dX12_isStep_107 : decode cX12_isStep 107 = .ok (.aload_n 0, 1) := dq_42 (by decide +kernel)
theorem dX12_isStep_108 : decode cX12_isStep 108 = .ok (.getfield 130, 3) := dq_180 (a := 0) (b := 130) (by decide +kernel) rfl
theorem dX12_isStep_111 : decode cX12_isStep 111 = .ok (.aload_n 0, 1) := dq_42 (by decide +kernel)
theorem dX12_isStep_112 : decode cX12_isStep 112 = .ok (.getfield 349, 3) := dq_180 (a := 1) (b := 93) (by decide +kernel) rfl
theorem dX12_isStep_115 : decode cX12_isStep 115 = .ok (.iload 4, 2) := dq_21 (a := 4) (by decide +kernel) rfl
theorem dX12_isStep_117 : decode cX12_isStep 117 = .ok (.iastore, 1) := dq_79 (by decide +kernel)
theorem dX12_isStep_118 : decode cX12_isStep 118 = .ok (.aload_n 0, 1) := dq_42 (by decide +kernel)
theorem dX12_isStep_119 : decode cX12_isStep 119 = .ok (.dup, 1) := dq_89 (by decide +kernel)
theorem dX12_isStep_120 : decode cX12_isStep 120 = .ok (.getfield 349, 3) := dq_180 (a := 1) (b := 93) (by decide +kernel) rfl
theorem dX12_isStep_123 : decode cX12_isStep 123 = .ok (.iconst 1, 1) := dq_4 (by decide +kernel)
theorem dX12_isStep_124 : decode cX12_isStep 124 = .ok (.iadd, 1) := dq_96 (by decide +kernel)
theorem dX12_isStep_125 : decode cX12_isStep 125 = .ok (.putfield 349, 3) := dq_181 (a := 1) (b := 93) (by decide +kernel) rfl
theorem dX12_isStep_128 : decode cX12_isStep 128 = .ok (.iconst 1, 1) := dq_4 (by decide +kernel)
theorem dX12_isStep_129 : decode cX12_isStep 129 = .ok (.ireturn, 1) := dq_172 (by decide +kernel)
theorem dX12_isStep_76 : decode cX12_isStep 76 = .ok (.goto 54, 3) := dq_167 (a := 0) (b := 54) (by decide +kernel) (by decide +kernel)
theorem dX12_isStep_52 : decode cX12_isStep 52 = .ok (.goto 78, 3) := dq_167 (a := 0) (b := 78) (by decide +kernel) (by decide +kernel)
theorem dX12_isStep_10 : decode cX12_isStep 10 = .ok (.iconst 0, 1) := dq_3 (by decide +kernel)
theorem dX12_isStep_11 : decode cX12_isStep 11 = .ok (.ireturn, 1) := dq_172 (by decide +kernel)
theorem dX12_lead_25 : decode cX12_lead 25 = .ok (.ifCond .eq 33, 3) := dq_153 (a := 0) (b := 33) (by decide +kernel) (by decide +kernel)
theorem dX12_lead_28 : decode cX12_lead 28 = .ok (.iinc 2 1, 3) := dq_132 (a := 2) (b := 1) (by decide +kernel) rfl (by decide +kernel)
theorem dX12_lead_31 : decode cX12_lead 31 = .ok (.aload_n 0, 1) := dq_42 (by decide +kernel)
theorem dX12_lead_32 : decode cX12_lead 32 = .ok (.getfield 352, 3) := dq_180 (a := 1) (b := 96) (by decide +kernel) rfl
theorem dX12_lead_35 : decode cX12_lead 35 = .ok (.bipush 40, 2) := dq_16 (a := 40) (by decide +kernel) (by decide +kernel)
theorem dX12_lead_37 : decode cX12_lead 37 = .ok (.if_icmp .ge 13, 3) := dq_162 (a := 0) (b := 13) (by decide +kernel) (by decide +kernel)
theorem dX12_lead_50 : decode cX12_lead 50 = .ok (.aload_n 0, 1) := dq_42 (by decide +kernel)
theorem dX12_lead_51 : decode cX12_lead 51 = .ok (.iconst 0, 1) := dq_3 (by decide +kernel)
theorem dX12_lead_52 : decode cX12_lead 52 = .ok (.putfield 355, 3) := dq_181 (a := 1) (b := 99) (by decide +kernel) rfl
theorem dX12_lead_55 : decode cX12_lead 55 = .ok (.goto (-39), 3) := dq_167 (a := 255) (b := 217) (by decide +kernel) (by decide +kernel)
theorem dX12_lead_40 : decode cX12_lead 40 = .ok (.aload_n 0, 1) := dq_42 (by decide +kernel)
theorem dX12_lead_41 : decode cX12_lead 41 = .ok (.dup, 1) := dq_89 (by decide +kernel)
theorem dX12_lead_42 : decode cX12_lead 42 = .ok (.getfield 352, 3) := dq_180 (a := 1) (b := 96) (by decide +kernel) rfl
theorem dX12_lead_45 : decode cX12_lead 45 = .ok (.iconst 1, 1) := dq_4 (by decide +kernel)
theorem dX12_lead_46 : decode cX12_lead 46 = .ok (.iadd, 1) := dq_96 (by decide +kernel)
theorem dX12_lead_47 : decode cX12_lead 47 = .ok (.putfield 352, 3) := dq_181 (a := 1) (b := 96) (by decide +kernel) rfl
theorem dX12_lead_12 : decode cX12_lead 12 = .ok (.iconst (-1), 1) := dq_2 (by decide +kernel)
theorem dX12_lead_13 : decode cX12_lead 13 = .ok (.ireturn, 1) := dq_172 (by decide +kernel)
theorem dX12_undo_0 : decode cX12_undo 0 = .ok (.aload_n 0, 1) := dq_42 (by decide +kernel)
theorem dX12_undo_1 : decode cX12_undo 1 = .ok (.getfield 352, 3) := dq_180 (a := 1) (b := 96) (by decide +kernel) rfl
theorem dX12_undo_4 : decode cX12_undo 4 = .ok (.ifCond .ne 5, 3) := dq_154 (a := 0) (b := 5) (by decide +kernel) (by decide +kernel)
theorem dX12_undo_9 : decode cX12_undo 9 = .ok (.aload_n 0, 1) := dq_42 (by decide +kernel)
theorem dX12_undo_10 : decode cX12_undo 10 = .ok (.dup, 1) := dq_89 (by decide +kernel)
theorem dX12_undo_11 : decode cX12_undo 11 = .ok (.getfield 349, 3) := dq_180 (a := 1) (b := 93) (by decide +kernel) rfl
theorem dX12_undo_14 : decode cX12_undo 14 = .ok (.iconst 1, 1) := dq_4 (by decide +kernel)
theorem dX12_undo_15 : decode cX12_undo 15 = .ok (.isub, 1) := dq_100 (by decide +kernel)
theorem dX12_undo_16 : decode cX12_undo 16 = .ok (.putfield 349, 3) := dq_181 (a := 1) (b := 93) (by decide +kernel) rfl
theorem dX12_undo_19 : decode cX12_undo 19 = .ok (.aload_n 0, 1) := dq_42 (by decide +kernel)
theorem dX12_undo_20 : decode cX12_undo 20 = .ok (.aload_n 0, 1) := dq_42 (by decide +kernel)
theorem dX12_undo_21 : decode cX12_undo 21 = .ok (.getfield 124, 3) := dq_180 (a := 0) (b := 124) (by decide +kernel) rfl
theorem dX12_undo_24 : decode cX12_undo 24 = .ok (.aload_n 0, 1) := dq_42 (by decide +kernel)
theorem dX12_undo_25 : decode cX12_undo 25 = .ok (.getfield 349, 3) := dq_180 (a := 1) (b := 93) (by decide +kernel) rfl
theorem dX12_undo_28 : decode cX12_undo 28 = .ok (.iaload, 1) := dq_46 (by decide +kernel)
theorem dX12_undo_29 : decode cX12_undo 29 = .ok (.aload_n 0, 1) := dq_42 (by decide +kernel)
theorem dX12_undo_30 : decode cX12_undo 30 = .ok (.getfield 127, 3) := dq_180 (a := 0) (b := 127) (by decide +kernel) rfl
theorem dX12_undo_33 : decode cX12_undo 33 = .ok (.aload_n 0, 1) := dq_42 (by decide +kernel)
theorem dX12_undo_34 : decode cX12_undo 34 = .ok (.getfield 349, 3) := dq_180 (a := 1) (b := 93) (by decide +kernel) rfl
theorem dX12_undo_37 : decode cX12_undo 37 = .ok (.iaload, 1) := dq_46 (by decide +kernel)
theorem dX12_undo_38 : decode cX12_undo 38 = .ok (.aload_n 0, 1) := dq_42 (by decide +kernel)
theorem dX12_undo_39 : decode cX12_undo 39 = .ok (.getfield 130, 3) := dq_180 (a := 0) (b := 130) (by decide +kernel) rfl
theorem dX12_undo_42 : decode cX12_undo 42 = .ok (.aload_n 0, 1) := dq_42 (by decide +kernel)
theorem dX12_undo_43 : decode cX12_undo 43 = .ok (.getfield 349, 3) := dq_180 (a := 1) (b := 93) (by decide +kernel) rfl
theorem dX12_undo_46 : decode cX12_undo 46 = .ok (.iaload, 1) := dq_46 (by decide +kernel)
theorem dX12_undo_47 : decode cX12_undo 47 = .ok (.ineg, 1) := dq_116 (by decide +kernel)
theorem dX12_undo_48 : decode cX12_undo 48 = .ok (.invokevirtual 436, 3) := dq_182 (a := 1) (b := 180) (by decide +kernel) rfl
theorem dX12_undo_51 : decode cX12_undo 51 = .ok (.aload_n 0, 1) := dq_42 (by decide +kernel)
theorem dX12_undo_52 : decode cX12_undo 52 = .ok (.dup, 1) := dq_89 (by decide +kernel)
theorem dX12_undo_53 : decode cX12_undo 53 = .ok (.getfield 352, 3) := dq_180 (a := 1) (b := 96) (by decide +kernel) rfl
theorem dX12_undo_56 : decode cX12_undo 56 = .ok (.iconst 1, 1) := dq_4 (by decide +kernel)
theorem dX12_undo_57 : decode cX12_undo 57 = .ok (.isub, 1) := dq_100 (by decide +kernel)
theorem dX12_undo_58 : decode cX12_undo 58 = .ok (.putfield 352, 3) := dq_181 (a := 1) (b := 96) (by decide +kernel) rfl
theorem dX12_undo_61 : decode cX12_undo 61 = .ok (.aload_n 0, 1) := dq_42 (by decide +kernel)
theorem dX12_undo_62 : decode cX12_undo 62 = .ok (.dup, 1) := dq_89 (by decide +kernel)
theorem dX12_undo_63 : decode cX12_undo 63 = .ok (.getfield 355, 3) := dq_180 (a := 1) (b := 99) (by decide +kernel) rfl
theorem dX12_undo_66 : decode cX12_undo 66 = .ok (.iconst 1, 1) := dq_4 (by decide +kernel)
theorem dX12_undo_67 : decode cX12_undo 67 = .ok (.iadd, 1) := dq_96 (by decide +kernel)
theorem dX12_undo_68 : decode cX12_undo 68 = .ok (.putfield 355, 3) := dq_181 (a := 1) (b := 99) (by decide +kernel) rfl
theorem dX12_undo_71 : decode cX12_undo 71 = .ok (.iconst 1, 1) := dq_4 (by decide +kernel)
theorem dX12_undo_72 : decode cX12_undo 72 = .ok (.ireturn, 1) := dq_172 (by decide +kernel)
theorem dX12_undo_7 : decode cX12_undo 7 = .ok (.iconst 0, 1) := dq_3 (by decide +kernel)
theorem dX12_undo_8 : decode cX12_undo 8 = .ok (.ireturn, 1) := dq_172 (by decide +kernel)
theorem dX12_redo_0 : decode cX12_redo 0 = .ok (.aload_n 0, 1) := dq_42 (by decide +kernel)
theorem dX12_redo_1 : decode cX12_redo 1 = .ok (.getfield 355, 3) := dq_180 (a := 1) (b := 99) (by decide +kernel) rfl
theorem dX12_redo_4 : decode cX12_redo 4 = .ok (.ifCond .ne 5, 3) := dq_154 (a := 0) (b := 5) (by decide +kernel) (by decide +kernel)
theorem dX12_redo_9 : decode cX12_redo 9 = .ok (.aload_n 0, 1) := dq_42 (by decide +kernel)
theorem dX12_redo_10 : decode cX12_redo 10 = .ok (.aload_n 0, 1) := dq_42 (by decide +kernel)
theorem dX12_redo_11 : decode cX12_redo 11 = .ok (.getfield 124, 3) := dq_180 (a := 0) (b := 124) (by decide +kernel) rfl
theorem dX12_redo_14 : decode cX12_redo 14 = .ok (.aload_n 0, 1) := dq_42 (by decide +kernel)
theorem dX12_redo_15 : decode cX12_redo 15 = .ok (.getfield 349, 3) := dq_180 (a := 1) (b := 93) (by decide +kernel) rfl
theorem dX12_redo_18 : decode cX12_redo 18 = .ok (.iaload, 1) := dq_46 (by decide +kernel)
theorem dX12_redo_19 : decode cX12_redo 19 = .ok (.aload_n 0, 1) := dq_42 (by decide +kernel)
theorem dX12_redo_20 : decode cX12_redo 20 = .ok (.getfield 127, 3) := dq_180 (a := 0) (b := 127) (by decide +kernel) rfl
theorem dX12_redo_23 : decode cX12_redo 23 = .ok (.aload_n 0, 1) := dq_42 (by decide +kernel)
theorem dX12_redo_24 : decode cX12_redo 24 = .ok (.getfield 349, 3) := dq_180 (a := 1) (b := 93) (by decide +kernel) rfl
theorem dX12_redo_27 : decode cX12_redo 27 = .ok (.iaload, 1) := dq_46 (by decide +kernel)
theorem dX12_redo_28 : decode cX12_redo 28 = .ok (.aload_n 0, 1) := dq_42 (by decide +kernel)
theorem dX12_redo_29 : decode cX12_redo 29 = .ok (.getfield 130, 3) := dq_180 (a := 0) (b := 130) (by decide +kernel) rfl
theorem dX12_redo_32 : decode cX12_redo 32 = .ok (.aload_n 0, 1) := dq_42 (by decide +kernel)
theorem dX12_redo_33 : decode cX12_redo 33 = .ok (.getfield 349, 3) := dq_180 (a := 1) (b := 93) (by decide +kernel) rfl
theorem dX12_redo_36 : decode cX12_redo 36 = .ok (.iaload, 1) := dq_46 (by decide +kernel)
theorem dX12_redo_37 : decode cX12_redo 37 = .ok (.invokevirtual 436, 3) := dq_182 (a := 1) (b := 180) (by decide +kernel) rfl
theorem dX12_redo_40 : decode cX12_redo 40 = .ok (.aload_n 0, 1) := dq_42 (by decide +kernel)
theorem dX12_redo_41 : decode cX12_redo 41 = .ok (.dup, 1) := dq_89 (by decide +kernel)
theorem dX12_redo_42 : decode cX12_redo 42 = .ok (.getfield 349, 3) := dq_180 (a := 1) (b := 93) (by decide +kernel) rfl
theorem dX12_redo_45 : decode cX12_redo 45 = .ok (.iconst 1, 1) := dq_4 (by decide +kernel)
theorem dX12_redo_46 : decode cX12_redo 46 = .ok (.iadd, 1) := dq_96 (by decide +kernel)
theorem dX12_redo_47 : decode cX12_redo 47 = .ok (.putfield 349, 3) := dq_181 (a := 1) (b := 93) (by decide +kernel) rfl
theorem dX12_redo_50 : decode cX12_redo 50 = .ok (.aload_n 0, 1) := dq_42 (by decide +kernel)
theorem dX12_redo_51 : decode cX12_redo 51 = .ok (.dup, 1) := dq_89 (by decide +kernel)
theorem dX12_redo_52 : decode cX12_redo 52 = .ok (.getfield 352, 3) := dq_180 (a := 1) (b := 96) (by decide +kernel) rfl
theorem dX12_redo_55 : decode cX12_redo 55 = .ok (.iconst 1, 1) := dq_4 (by decide +kernel)
theorem dX12_redo_56 : decode cX12_redo 56 = .ok (.iadd, 1) := dq_96 (by decide +kernel)
theorem dX12_redo_57 : decode cX12_redo 57 = .ok (.putfield 352, 3) := dq_181 (a := 1) (b := 96) (by decide +kernel) rfl
theorem dX12_redo_60 : decode cX12_redo 60 = .ok (.aload_n 0, 1) := dq_42 (by decide +kernel)
theorem dX12_redo_61 : decode cX12_redo 61 = .ok (.dup, 1) := dq_89 (by decide +kernel)
theorem dX12_redo_62 : decode cX12_redo 62 = .ok (.getfield 355, 3) := dq_180 (a := 1) (b := 99) (by decide +kernel) rfl
theorem dX12_redo_65 : decode cX12_redo 65 = .ok (.iconst 1, 1) := dq_4 (by decide +kernel)
theorem dX12_redo_66 : decode cX12_redo 66 = .ok (.isub, 1) := dq_100 (by decide +kernel)
theorem dX12_redo_67 : decode cX12_redo 67 = .ok (.putfield 355, 3) := dq_181 (a := 1) (b := 99) (by decide +kernel) rfl
theorem dX12_redo_70 : decode cX12_redo 70 = .ok (.iconst 1, 1) := dq_4 (by decide +kernel)
theorem dX12_redo_71 : decode cX12_redo 71 = .ok (.ireturn, 1) := dq_172 (by decide +kernel)
theorem dX12_redo_7 : decode cX12_redo 7 = .ok (.iconst 0, 1) := dq_3 (by decide +kernel)
theorem dX12_redo_8 : decode cX12_redo 8 = .ok (.ireturn, 1) := dq_172 (by decide +kernel)
theorem dX12_step_0 : decode cX12_step 0 = .ok (.iload_n 1, 1) := dq_27 (by decide +kernel)
theorem dX12_step_1 : decode cX12_step 1 = .ok (.i2l, 1) := dq_133 (by decide +kernel)
theorem dX12_step_2 : decode cX12_step 2 = .ok (.lconst 0, 1) := dq_9 (by decide +kernel)
theorem dX12_step_3 : decode cX12_step 3 = .ok (.aload_n 0, 1) := dq_42 (by decide +kernel)
theorem dX12_step_4 : decode cX12_step 4 = .ok (.getfield 352, 3) := dq_180 (a := 1) (b := 96) (by decide +kernel) rfl
theorem dX12_step_7 : decode cX12_step 7 = .ok (.iconst 1, 1) := dq_4 (by decide +kernel)
theorem dX12_step_8 : decode cX12_step 8 = .ok (.isub, 1) := dq_100 (by decide +kernel)
theorem dX12_step_9 : decode cX12_step 9 = .ok (.i2l, 1) := dq_133 (by decide +kernel)
theorem dX12_step_10 : decode cX12_step 10 = .ok (.invokestatic 191, 3) := dq_184 (a := 0) (b := 191) (by decide +kernel) rfl
theorem dX12_step_13 : decode cX12_step 13 = .ok (.ifCond .eq 15, 3) := dq_153 (a := 0) (b := 15) (by decide +kernel) (by decide +kernel)
theorem dX12_step_28 : decode cX12_step 28 = .ok (.ldc_w 364, 3) := dq_19 (a := 1) (b := 108) (by decide +kernel) rfl
theorem dX12_step_31 : decode cX12_step 31 = .ok (.ireturn, 1) := dq_172 (by decide +kernel)
theorem dX12_step_16 : decode cX12_step 16 = .ok (.iload_n 2, 1) := dq_28 (by decide +kernel)
theorem dX12_step_17 : decode cX12_step 17 = .ok (.i2l, 1) := dq_133 (by decide +kernel)
theorem dX12_step_18 : decode cX12_step 18 = .ok (.lconst 0, 1) := dq_9 (by decide +kernel)
theorem dX12_step_19 : decode cX12_step 19 = .ok (.ldc2_w 431, 3) := dq_20 (a := 1) (b := 175) (by decide +kernel) rfl
theorem dX12_step_22 : decode cX12_step 22 = .ok (.invokestatic 191, 3) := dq_184 (a := 0) (b := 191) (by decide +kernel) rfl
theorem dX12_step_25 : decode cX12_step 25 = .ok (.ifCond .ne 7, 3) := dq_154 (a := 0) (b := 7) (by decide +kernel) (by decide +kernel)
theorem dX12_step_32 : decode cX12_step 32 = .ok (.aload_n 0, 1) := dq_42 (by decide +kernel)
theorem dX12_step_33 : decode cX12_step 33 = .ok (.getfield 349, 3) := dq_180 (a := 1) (b := 93) (by decide +kernel) rfl
theorem dX12_step_36 : decode cX12_step 36 = .ok (.aload_n 0, 1) := dq_42 (by decide +kernel)
theorem dX12_step_37 : decode cX12_step 37 = .ok (.getfield 352, 3) := dq_180 (a := 1) (b := 96) (by decide +kernel) rfl
theorem dX12_step_40 : decode cX12_step 40 = .ok (.isub, 1) := dq_100 (by decide +kernel)
theorem dX12_step_41 : decode cX12_step 41 = .ok (.iload_n 1, 1) := dq_27 (by decide +kernel)
theorem dX12_step_42 : decode cX12_step 42 = .ok (.iadd, 1) := dq_96 (by decide +kernel)
theorem dX12_step_43 : decode cX12_step 43 = .ok (.istore_n 3, 1) := dq_62 (by decide +kernel)
theorem dX12_step_44 : decode cX12_step 44 = .ok (.iload_n 2, 1) := dq_28 (by decide +kernel)
theorem dX12_step_45 : decode cX12_step 45 = .ok (.ifCond .ne 12, 3) := dq_154 (a := 0) (b := 12) (by decide +kernel) (by decide +kernel)
theorem dX12_step_57 : decode cX12_step 57 = .ok (.iload_n 2, 1) := dq_28 (by decide +kernel)
theorem dX12_step_58 : decode cX12_step 58 = .ok (.iconst 1, 1) := dq_4 (by decide +kernel)
theorem dX12_step_59 : decode cX12_step 59 = .ok (.if_icmp .ne 12, 3) := dq_160 (a := 0) (b := 12) (by decide +kernel) (by decide +kernel)
theorem dX12_step_71 : decode cX12_step 71 = .ok (.aload_n 0, 1) := dq_42 (by decide +kernel)
theorem dX12_step_72 : decode cX12_step 72 = .ok (.getfield 130, 3) := dq_180 (a := 0) (b := 130) (by decide +kernel) rfl
theorem dX12_step_75 : decode cX12_step 75 = .ok (.iload_n 3, 1) := dq_29 (by decide +kernel)
theorem dX12_step_76 : decode cX12_step 76 = .ok (.iaload, 1) := dq_46 (by decide +kernel)
theorem dX12_step_77 : decode cX12_step 77 = .ok (.ireturn, 1) := dq_172 (by decide +kernel)
theorem dX12_step_62 : decode cX12_step 62 = .ok (.aload_n 0, 1) := dq_42 (by decide +kernel)
theorem dX12_step_63 : decode cX12_step 63 = .ok (.getfield 127, 3) := dq_180 (a := 0) (b := 127) (by decide +kernel) rfl
theorem dX12_step_66 : decode cX12_step 66 = .ok (.iload_n 3, 1) := dq_29 (by decide +kernel)
theorem dX12_step_67 : decode cX12_step 67 = .ok (.iaload, 1) := dq_46 (by decide +kernel)
theorem dX12_step_68 : decode cX12_step 68 = .ok (.goto 9, 3) := dq_167 (a := 0) (b := 9) (by decide +kernel) (by decide +kernel)
theorem dX12_step_48 : decode cX12_step 48 = .ok (.aload_n 0, 1) := dq_42 (by decide +kernel)
theorem dX12_step_49 : decode cX12_step 49 = .ok (.getfield 124, 3) := dq_180 (a := 0) (b := 124) (by decide +kernel) rfl
theorem dX12_step_52 : decode cX12_step 52 = .ok (.iload_n 3, 1) := dq_29 (by decide +kernel)
theorem dX12_step_53 : decode cX12_step 53 = .ok (.iaload, 1) := dq_46 (by decide +kernel)
theorem dX12_step_54 : decode cX12_step 54 = .ok (.goto 23, 3) := dq_167 (a := 0) (b := 23) (by decide +kernel) (by decide +kernel)
theorem dX12_leader_0 : decode cX12_leader 0 = .ok (.aload_n 0, 1) := dq_42 (by decide +kernel)
theorem dX12_leader_1 : decode cX12_leader 1 = .ok (.iload_n 1, 1) := dq_27 (by decide +kernel)
theorem dX12_leader_2 : decode cX12_leader 2 = .ok (.invokevirtual 361, 3) := dq_182 (a := 1) (b := 105) (by decide +kernel) rfl
theorem dX12_leader_5 : decode cX12_leader 5 = .ok (.ifCond .eq 24, 3) := dq_153 (a := 0) (b := 24) (by decide +kernel) (by decide +kernel)
theorem dX12_leader_29 : decode cX12_leader 29 = .ok (.ldc2_w 445, 3) := dq_20 (a := 1) (b := 189) (by decide +kernel) rfl
theorem dX12_leader_32 : decode cX12_leader 32 = .ok (.lreturn, 1) := dq_173 (by decide +kernel)
theorem dX12_leader_8 : decode cX12_leader 8 = .ok (.aload_n 0, 1) := dq_42 (by decide +kernel)
theorem dX12_leader_9 : decode cX12_leader 9 = .ok (.iload_n 2, 1) := dq_28 (by decide +kernel)
theorem dX12_leader_10 : decode cX12_leader 10 = .ok (.invokevirtual 361, 3) := dq_182 (a := 1) (b := 105) (by decide +kernel) rfl
theorem dX12_leader_13 : decode cX12_leader 13 = .ok (.ifCond .eq 16, 3) := dq_153 (a := 0) (b := 16) (by decide +kernel) (by decide +kernel)
theorem dX12_leader_16 : decode cX12_leader 16 = .ok (.aload_n 0, 1) := dq_42 (by decide +kernel)
theorem dX12_leader_17 : decode cX12_leader 17 = .ok (.getfield 121, 3) := dq_180 (a := 0) (b := 121) (by decide +kernel) rfl
theorem dX12_leader_20 : decode cX12_leader 20 = .ok (.iconst 5, 1) := dq_8 (by decide +kernel)
theorem dX12_leader_21 : decode cX12_leader 21 = .ok (.iload_n 1, 1) := dq_27 (by decide +kernel)
theorem dX12_leader_22 : decode cX12_leader 22 = .ok (.imul, 1) := dq_104 (by decide +kernel)
theorem dX12_leader_23 : decode cX12_leader 23 = .ok (.iload_n 2, 1) := dq_28 (by decide +kernel)
theorem dX12_leader_24 : decode cX12_leader 24 = .ok (.iadd, 1) := dq_96 (by decide +kernel)
theorem dX12_leader_25 : decode cX12_leader 25 = .ok (.laload, 1) := dq_47 (by decide +kernel)
theorem dX12_leader_26 : decode cX12_leader 26 = .ok (.goto 6, 3) := dq_167 (a := 0) (b := 6) (by decide +kernel) (by decide +kernel)
theorem dX12_squares_0 : decode cX12_squares 0 = .ok (.lconst 0, 1) := dq_9 (by decide +kernel)
theorem dX12_squares_1 : decode cX12_squares 1 = .ok (.lstore_n 2, 1) := dq_65 (by decide +kernel)
theorem dX12_squares_2 : decode cX12_squares 2 = .ok (.iconst 0, 1) := dq_3 (by decide +kernel)
theorem dX12_squares_3 : decode cX12_squares 3 = .ok (.istore 4, 2) := dq_54 (a := 4) (by decide +kernel) rfl
theorem dX12_squares_5 : decode cX12_squares 5 = .ok (.iload 4, 2) := dq_21 (a := 4) (by decide +kernel) rfl
theorem dX12_squares_7 : decode cX12_squares 7 = .ok (.aload_n 0, 1) := dq_42 (by decide +kernel)
theorem dX12_squares_8 : decode cX12_squares 8 = .ok (.getfield 237, 3) := dq_180 (a := 0) (b := 237) (by decide +kernel) rfl
theorem dX12_squares_11 : decode cX12_squares 11 = .ok (.if_icmp .ge 45, 3) := dq_162 (a := 0) (b := 45) (by decide +kernel) (by decide +kernel)
theorem dX12_squares_56 : decode cX12_squares 56 = .ok (.lload_n 2, 1) := dq_32 (by decide +kernel)
theorem dX12_squares_57 : decode cX12_squares 57 = .ok (.lreturn, 1) := dq_173 (by decide +kernel)
theorem dX12_squares_14 : decode cX12_squares 14 = .ok (.lload_n 2, 1) := dq_32 (by decide +kernel)
theorem dX12_squares_15 : decode cX12_squares 15 = .ok (.iload_n 1, 1) := dq_27 (by decide +kernel)
theorem dX12_squares_16 : decode cX12_squares 16 = .ok (.ifCond .eq 19, 3) := dq_153 (a := 0) (b := 19) (by decide +kernel) (by decide +kernel)
theorem dX12_squares_35 : decode cX12_squares 35 = .ok (.aload_n 0, 1) := dq_42 (by decide +kernel)
theorem dX12_squares_36 : decode cX12_squares 36 = .ok (.iload 4, 2) := dq_21 (a := 4) (by decide +kernel) rfl
theorem dX12_squares_38 : decode cX12_squares 38 = .ok (.iload 4, 2) := dq_21 (a := 4) (by decide +kernel) rfl
theorem dX12_squares_40 : decode cX12_squares 40 = .ok (.aload_n 0, 1) := dq_42 (by decide +kernel)
theorem dX12_squares_41 : decode cX12_squares 41 = .ok (.getfield 69, 3) := dq_180 (a := 0) (b := 69) (by decide +kernel) rfl
theorem dX12_squares_44 : decode cX12_squares 44 = .ok (.invokevirtual 334, 3) := dq_182 (a := 1) (b := 78) (by decide +kernel) rfl
theorem dX12_squares_47 : decode cX12_squares 47 = .ok (.i2l, 1) := dq_133 (by decide +kernel)
theorem dX12_squares_48 : decode cX12_squares 48 = .ok (.ladd, 1) := dq_97 (by decide +kernel)
theorem dX12_squares_49 : decode cX12_squares 49 = .ok (.lstore_n 2, 1) := dq_65 (by decide +kernel)
theorem dX12_squares_50 : decode cX12_squares 50 = .ok (.iinc 4 1, 3) := dq_132 (a := 4) (b := 1) (by decide +kernel) rfl (by decide +kernel)
theorem dX12_squares_53 : decode cX12_squares 53 = .ok (.goto (-48), 3) := dq_167 (a := 255) (b := 208) (by decide +kernel) (by decide +kernel)
theorem dX12_squares_19 : decode cX12_squares 19 = .ok (.aload_n 0, 1) := dq_42 (by decide +kernel)
theorem dX12_squares_20 : decode cX12_squares 20 = .ok (.iload 4, 2) := dq_21 (a := 4) (by decide +kernel) rfl
theorem dX12_squares_22 : decode cX12_squares 22 = .ok (.iload 4, 2) := dq_21 (a := 4) (by decide +kernel) rfl
theorem dX12_squares_24 : decode cX12_squares 24 = .ok (.aload_n 0, 1) := dq_42 (by decide +kernel)
theorem dX12_squares_25 : decode cX12_squares 25 = .ok (.getfield 97, 3) := dq_180 (a := 0) (b := 97) (by decide +kernel) rfl
theorem dX12_squares_28 : decode cX12_squares 28 = .ok (.invokevirtual 334, 3) := dq_182 (a := 1) (b := 78) (by decide +kernel) rfl
theorem dX12_squares_31 : decode cX12_squares 31 = .ok (.i2l, 1) := dq_133 (by decide +kernel)
theorem dX12_squares_32 : decode cX12_squares 32 = .ok (.goto 16, 3) := dq_167 (a := 0) (b := 16) (by decide +kernel) (by decide +kernel)
theorem dX12_sums_0 : decode cX12_sums 0 = .ok (.aload_n 0, 1) := dq_42 (by decide +kernel)
theorem dX12_sums_1 : decode cX12_sums 1 = .ok (.iload_n 1, 1) := dq_27 (by decide +kernel)
theorem dX12_sums_2 : decode cX12_sums 2 = .ok (.invokevirtual 454, 3) := dq_182 (a := 1) (b := 198) (by decide +kernel) rfl
theorem dX12_areSenders_0 : decode cX12_areSenders 0 = .ok (.iload_n 1, 1) := dq_27 (by decide +kernel)
theorem dX12_areSenders_1 : decode cX12_areSenders 1 = .ok (.i2l, 1) := dq_133 (by decide +kernel)
theorem dX12_areSenders_2 : decode cX12_areSenders 2 = .ok (.lconst 0, 1) := dq_9 (by decide +kernel)
theorem dX12_areSenders_3 : decode cX12_areSenders 3 = .ok (.iconst 1, 1) := dq_4 (by decide +kernel)
theorem dX12_areSenders_4 : decode cX12_areSenders 4 = .ok (.aload_n 0, 1) := dq_42 (by decide +kernel)
theorem dX12_areSenders_5 : decode cX12_areSenders 5 = .ok (.getfield 237, 3) := dq_180 (a := 0) (b := 237) (by decide +kernel) rfl
theorem dX12_areSenders_8 : decode cX12_areSenders 8 = .ok (.ishl, 1) := dq_120 (by decide +kernel)
theorem dX12_areSenders_9 : decode cX12_areSenders 9 = .ok (.iconst 1, 1) := dq_4 (by decide +kernel)
theorem dX12_areSenders_10 : decode cX12_areSenders 10 = .ok (.isub, 1) := dq_100 (by decide +kernel)
theorem dX12_areSenders_11 : decode cX12_areSenders 11 = .ok (.i2l, 1) := dq_133 (by decide +kernel)
theorem dX12_areSenders_12 : decode cX12_areSenders 12 = .ok (.invokestatic 191, 3) := dq_184 (a := 0) (b := 191) (by decide +kernel) rfl
theorem dX12_areSenders_15 : decode cX12_areSenders 15 = .ok (.ireturn, 1) := dq_172 (by decide +kernel)
theorem dX12_sums_5 : decode cX12_sums 5 = .ok (.ifCond .eq 38, 3) := dq_153 (a := 0) (b := 38) (by decide +kernel) (by decide +kernel)
theorem dX12_sums_43 : decode cX12_sums 43 = .ok (.ldc2_w 445, 3) := dq_20 (a := 1) (b := 189) (by decide +kernel) rfl
theorem dX12_sums_46 : decode cX12_sums 46 = .ok (.lreturn, 1) := dq_173 (by decide +kernel)
theorem dX12_sums_8 : decode cX12_sums 8 = .ok (.iload_n 2, 1) := dq_28 (by decide +kernel)
theorem dX12_sums_9 : decode cX12_sums 9 = .ok (.i2l, 1) := dq_133 (by decide +kernel)
theorem dX12_sums_10 : decode cX12_sums 10 = .ok (.lconst 1, 1) := dq_10 (by decide +kernel)
theorem dX12_sums_11 : decode cX12_sums 11 = .ok (.ldc2_w 431, 3) := dq_20 (a := 1) (b := 175) (by decide +kernel) rfl
theorem dX12_sums_14 : decode cX12_sums 14 = .ok (.invokestatic 191, 3) := dq_184 (a := 0) (b := 191) (by decide +kernel) rfl
theorem dX12_sums_17 : decode cX12_sums 17 = .ok (.ifCond .eq 26, 3) := dq_153 (a := 0) (b := 26) (by decide +kernel) (by decide +kernel)
theorem dX12_sums_20 : decode cX12_sums 20 = .ok (.iload_n 3, 1) := dq_29 (by decide +kernel)
theorem dX12_sums_21 : decode cX12_sums 21 = .ok (.iconst (-1), 1) := dq_2 (by decide +kernel)
theorem dX12_sums_22 : decode cX12_sums 22 = .ok (.if_icmp .eq 11, 3) := dq_159 (a := 0) (b := 11) (by decide +kernel) (by decide +kernel)
theorem dX12_sums_33 : decode cX12_sums 33 = .ok (.aload_n 0, 1) := dq_42 (by decide +kernel)
theorem dX12_sums_34 : decode cX12_sums 34 = .ok (.iload_n 1, 1) := dq_27 (by decide +kernel)
theorem dX12_sums_35 : decode cX12_sums 35 = .ok (.iload_n 2, 1) := dq_28 (by decide +kernel)
theorem dX12_sums_36 : decode cX12_sums 36 = .ok (.iconst 1, 1) := dq_4 (by decide +kernel)
theorem dX12_sums_37 : decode cX12_sums 37 = .ok (.invokevirtual 457, 3) := dq_182 (a := 1) (b := 201) (by decide +kernel) rfl
theorem dX12_isLeast_0 : decode cX12_isLeast 0 = .ok (.aload_n 0, 1) := dq_42 (by decide +kernel)
theorem dX12_isLeast_1 : decode cX12_isLeast 1 = .ok (.ldc2_w 384, 3) := dq_20 (a := 1) (b := 128) (by decide +kernel) rfl
theorem dX12_isLeast_4 : decode cX12_isLeast 4 = .ok (.putfield 447, 3) := dq_181 (a := 1) (b := 191) (by decide +kernel) rfl
theorem dX12_isLeast_7 : decode cX12_isLeast 7 = .ok (.iconst 0, 1) := dq_3 (by decide +kernel)
theorem dX12_isLeast_8 : decode cX12_isLeast 8 = .ok (.istore 4, 2) := dq_54 (a := 4) (by decide +kernel) rfl
theorem dX12_isLeast_10 : decode cX12_isLeast 10 = .ok (.iload 4, 2) := dq_21 (a := 4) (by decide +kernel) rfl
theorem dX12_isLeast_12 : decode cX12_isLeast 12 = .ok (.aload_n 0, 1) := dq_42 (by decide +kernel)
theorem dX12_isLeast_13 : decode cX12_isLeast 13 = .ok (.getfield 237, 3) := dq_180 (a := 0) (b := 237) (by decide +kernel) rfl
theorem dX12_isLeast_16 : decode cX12_isLeast 16 = .ok (.if_icmp .ge 32, 3) := dq_162 (a := 0) (b := 32) (by decide +kernel) (by decide +kernel)
theorem dX12_isLeast_48 : decode cX12_isLeast 48 = .ok (.iconst 1, 1) := dq_4 (by decide +kernel)
theorem dX12_isLeast_49 : decode cX12_isLeast 49 = .ok (.istore 4, 2) := dq_54 (a := 4) (by decide +kernel) rfl
theorem dX12_isLeast_51 : decode cX12_isLeast 51 = .ok (.iload 4, 2) := dq_21 (a := 4) (by decide +kernel) rfl
theorem dX12_isLeast_53 : decode cX12_isLeast 53 = .ok (.ifCond .eq 136, 3) := dq_153 (a := 0) (b := 136) (by decide +kernel) (by decide +kernel)
theorem dX12_isLeast_56 : decode cX12_isLeast 56 = .ok (.iconst 1, 1) := dq_4 (by decide +kernel)
theorem dX12_isLeast_57 : decode cX12_isLeast 57 = .ok (.istore 5, 2) := dq_54 (a := 5) (by decide +kernel) rfl
theorem dX12_isLeast_59 : decode cX12_isLeast 59 = .ok (.iconst 0, 1) := dq_3 (by decide +kernel)
theorem dX12_isLeast_60 : decode cX12_isLeast 60 = .ok (.istore 6, 2) := dq_54 (a := 6) (by decide +kernel) rfl
theorem dX12_isLeast_62 : decode cX12_isLeast 62 = .ok (.iload 6, 2) := dq_21 (a := 6) (by decide +kernel) rfl
theorem dX12_isLeast_64 : decode cX12_isLeast 64 = .ok (.aload_n 0, 1) := dq_42 (by decide +kernel)
theorem dX12_isLeast_65 : decode cX12_isLeast 65 = .ok (.getfield 237, 3) := dq_180 (a := 0) (b := 237) (by decide +kernel) rfl
theorem dX12_isLeast_68 : decode cX12_isLeast 68 = .ok (.if_icmp .ge 31, 3) := dq_162 (a := 0) (b := 31) (by decide +kernel) (by decide +kernel)
theorem dX12_isLeast_99 : decode cX12_isLeast 99 = .ok (.iload 5, 2) := dq_21 (a := 5) (by decide +kernel) rfl
theorem dX12_isLeast_101 : decode cX12_isLeast 101 = .ok (.ifCond .eq 7, 3) := dq_153 (a := 0) (b := 7) (by decide +kernel) (by decide +kernel)
theorem dX12_isLeast_104 : decode cX12_isLeast 104 = .ok (.lconst 0, 1) := dq_9 (by decide +kernel)
theorem dX12_isLeast_105 : decode cX12_isLeast 105 = .ok (.goto 8, 3) := dq_167 (a := 0) (b := 8) (by decide +kernel) (by decide +kernel)
theorem dX12_isLeast_113 : decode cX12_isLeast 113 = .ok (.lstore 6, 2) := dq_55 (a := 6) (by decide +kernel) rfl
theorem dX12_isLeast_115 : decode cX12_isLeast 115 = .ok (.iload 5, 2) := dq_21 (a := 5) (by decide +kernel) rfl
theorem dX12_isLeast_117 : decode cX12_isLeast 117 = .ok (.ifCond .ne 60, 3) := dq_154 (a := 0) (b := 60) (by decide +kernel) (by decide +kernel)
theorem dX12_isLeast_177 : decode cX12_isLeast 177 = .ok (.aload_n 0, 1) := dq_42 (by decide +kernel)
theorem dX12_isLeast_178 : decode cX12_isLeast 178 = .ok (.iload_n 1, 1) := dq_27 (by decide +kernel)
theorem dX12_isLeast_179 : decode cX12_isLeast 179 = .ok (.iload_n 2, 1) := dq_28 (by decide +kernel)
theorem dX12_isLeast_180 : decode cX12_isLeast 180 = .ok (.iload_n 3, 1) := dq_29 (by decide +kernel)
theorem dX12_isLeast_181 : decode cX12_isLeast 181 = .ok (.invokevirtual 450, 3) := dq_182 (a := 1) (b := 194) (by decide +kernel) rfl
theorem dX12_isNext_0 : decode cX12_isNext 0 = .ok (.aload_n 0, 1) := dq_42 (by decide +kernel)
theorem dX12_isNext_1 : decode cX12_isNext 1 = .ok (.getfield 237, 3) := dq_180 (a := 0) (b := 237) (by decide +kernel) rfl
theorem dX12_isNext_4 : decode cX12_isNext 4 = .ok (.iconst 1, 1) := dq_4 (by decide +kernel)
theorem dX12_isNext_5 : decode cX12_isNext 5 = .ok (.isub, 1) := dq_100 (by decide +kernel)
theorem dX12_isNext_6 : decode cX12_isNext 6 = .ok (.istore 4, 2) := dq_54 (a := 4) (by decide +kernel) rfl
theorem dX12_isNext_8 : decode cX12_isNext 8 = .ok (.iload 4, 2) := dq_21 (a := 4) (by decide +kernel) rfl
theorem dX12_isNext_10 : decode cX12_isNext 10 = .ok (.ifCond .lt 54, 3) := dq_155 (a := 0) (b := 54) (by decide +kernel) (by decide +kernel)
theorem dX12_isNext_64 : decode cX12_isNext 64 = .ok (.iconst 0, 1) := dq_3 (by decide +kernel)
theorem dX12_isNext_65 : decode cX12_isNext 65 = .ok (.ireturn, 1) := dq_172 (by decide +kernel)
theorem dX12_isNext_13 : decode cX12_isNext 13 = .ok (.iload_n 1, 1) := dq_27 (by decide +kernel)
theorem dX12_isNext_14 : decode cX12_isNext 14 = .ok (.iload 4, 2) := dq_21 (a := 4) (by decide +kernel) rfl
theorem dX12_isNext_16 : decode cX12_isNext 16 = .ok (.ishr, 1) := dq_122 (by decide +kernel)
theorem dX12_isNext_17 : decode cX12_isNext 17 = .ok (.iconst 1, 1) := dq_4 (by decide +kernel)
theorem dX12_isNext_18 : decode cX12_isNext 18 = .ok (.iand, 1) := dq_126 (by decide +kernel)
theorem dX12_isNext_19 : decode cX12_isNext 19 = .ok (.ifCond .ne 6, 3) := dq_154 (a := 0) (b := 6) (by decide +kernel) (by decide +kernel)
theorem dX12_isNext_25 : decode cX12_isNext 25 = .ok (.aload_n 0, 1) := dq_42 (by decide +kernel)
theorem dX12_isNext_26 : decode cX12_isNext 26 = .ok (.getfield 103, 3) := dq_180 (a := 0) (b := 103) (by decide +kernel) rfl
theorem dX12_isNext_29 : decode cX12_isNext 29 = .ok (.iload 4, 2) := dq_21 (a := 4) (by decide +kernel) rfl
theorem dX12_isNext_31 : decode cX12_isNext 31 = .ok (.dup2, 1) := dq_92 (by decide +kernel)
theorem dX12_isNext_32 : decode cX12_isNext 32 = .ok (.iaload, 1) := dq_46 (by decide +kernel)
theorem dX12_isNext_33 : decode cX12_isNext 33 = .ok (.iload_n 3, 1) := dq_29 (by decide +kernel)
theorem dX12_isNext_34 : decode cX12_isNext 34 = .ok (.iadd, 1) := dq_96 (by decide +kernel)
theorem dX12_isNext_35 : decode cX12_isNext 35 = .ok (.iastore, 1) := dq_79 (by decide +kernel)
theorem dX12_isNext_36 : decode cX12_isNext 36 = .ok (.aload_n 0, 1) := dq_42 (by decide +kernel)
theorem dX12_isNext_37 : decode cX12_isNext 37 = .ok (.getfield 103, 3) := dq_180 (a := 0) (b := 103) (by decide +kernel) rfl
theorem dX12_isNext_40 : decode cX12_isNext 40 = .ok (.iload 4, 2) := dq_21 (a := 4) (by decide +kernel) rfl
theorem dX12_isNext_42 : decode cX12_isNext 42 = .ok (.iaload, 1) := dq_46 (by decide +kernel)
theorem dX12_isNext_43 : decode cX12_isNext 43 = .ok (.iload_n 2, 1) := dq_28 (by decide +kernel)
theorem dX12_isNext_44 : decode cX12_isNext 44 = .ok (.if_icmp .gt 5, 3) := dq_163 (a := 0) (b := 5) (by decide +kernel) (by decide +kernel)
theorem dX12_isNext_49 : decode cX12_isNext 49 = .ok (.aload_n 0, 1) := dq_42 (by decide +kernel)
theorem dX12_isNext_50 : decode cX12_isNext 50 = .ok (.getfield 103, 3) := dq_180 (a := 0) (b := 103) (by decide +kernel) rfl
theorem dX12_isNext_53 : decode cX12_isNext 53 = .ok (.iload 4, 2) := dq_21 (a := 4) (by decide +kernel) rfl
theorem dX12_isNext_55 : decode cX12_isNext 55 = .ok (.iload_n 2, 1) := dq_28 (by decide +kernel)
theorem dX12_isNext_56 : decode cX12_isNext 56 = .ok (.ineg, 1) := dq_116 (by decide +kernel)
theorem dX12_isNext_57 : decode cX12_isNext 57 = .ok (.iastore, 1) := dq_79 (by decide +kernel)
theorem dX12_isNext_58 : decode cX12_isNext 58 = .ok (.iinc 4 (-1), 3) := dq_132 (a := 4) (b := 255) (by decide +kernel) rfl (by decide +kernel)
theorem dX12_isNext_61 : decode cX12_isNext 61 = .ok (.goto (-53), 3) := dq_167 (a := 255) (b := 203) (by decide +kernel) (by decide +kernel)
theorem dX12_isNext_47 : decode cX12_isNext 47 = .ok (.iconst 1, 1) := dq_4 (by decide +kernel)
theorem dX12_isNext_48 : decode cX12_isNext 48 = .ok (.ireturn, 1) := dq_172 (by decide +kernel)
theorem dX12_isNext_22 : decode cX12_isNext 22 = .ok (.goto 36, 3) := dq_167 (a := 0) (b := 36) (by decide +kernel) (by decide +kernel)
theorem dX12_isLeast_184 : decode cX12_isLeast 184 = .ok (.istore 4, 2) := dq_54 (a := 4) (by decide +kernel) rfl
theorem dX12_isLeast_186 : decode cX12_isLeast 186 = .ok (.goto (-135), 3) := dq_167 (a := 255) (b := 121) (by decide +kernel) (by decide +kernel)
theorem dX12_isLeast_189 : decode cX12_isLeast 189 = .ok (.aload_n 0, 1) := dq_42 (by decide +kernel)
theorem dX12_isLeast_190 : decode cX12_isLeast 190 = .ok (.getfield 447, 3) := dq_180 (a := 1) (b := 191) (by decide +kernel) rfl
theorem dX12_isLeast_193 : decode cX12_isLeast 193 = .ok (.lconst 0, 1) := dq_9 (by decide +kernel)
theorem dX12_isLeast_194 : decode cX12_isLeast 194 = .ok (.lcmp, 1) := dq_148 (by decide +kernel)
theorem dX12_isLeast_195 : decode cX12_isLeast 195 = .ok (.ifCond .lt 7, 3) := dq_155 (a := 0) (b := 7) (by decide +kernel) (by decide +kernel)
theorem dX12_isLeast_202 : decode cX12_isLeast 202 = .ok (.iconst 0, 1) := dq_3 (by decide +kernel)
theorem dX12_isLeast_203 : decode cX12_isLeast 203 = .ok (.ireturn, 1) := dq_172 (by decide +kernel)
theorem dX12_apart_0 : decode cX12_apart 0 = .ok (.aload_n 0, 1) := dq_42 (by decide +kernel)
