theorem dX11_code_50 : decode cX11_code 50 = .ok (.ldc2_w 212, 3) := by decide +kernel
theorem dX11_code_53 : decode cX11_code 53 = .ok (.lreturn, 1) := by decide +kernel
theorem dX11_code_34 : decode cX11_code 34 = .ok (.iload_n 1, 1) := by decide +kernel
theorem dX11_code_35 : decode cX11_code 35 = .ok (.iconst 2, 1) := by decide +kernel
theorem dX11_code_36 : decode cX11_code 36 = .ok (.if_icmp .gt 14, 3) := by decide +kernel
theorem dX11_code_39 : decode cX11_code 39 = .ok (.aload_n 0, 1) := by decide +kernel
theorem dX11_code_40 : decode cX11_code 40 = .ok (.getfield 69, 3) := by decide +kernel
theorem dX11_code_43 : decode cX11_code 43 = .ok (.getfield 145, 3) := by decide +kernel
theorem dX11_code_46 : decode cX11_code 46 = .ok (.iconst 2, 1) := by decide +kernel
theorem dX11_code_47 : decode cX11_code 47 = .ok (.if_icmp .ge 7, 3) := by decide +kernel
theorem dX11_code_54 : decode cX11_code 54 = .ok (.aload_n 0, 1) := by decide +kernel
theorem dX11_code_55 : decode cX11_code 55 = .ok (.getfield 38, 3) := by decide +kernel
theorem dX11_code_58 : decode cX11_code 58 = .ok (.aload_n 0, 1) := by decide +kernel
theorem dX11_code_59 : decode cX11_code 59 = .ok (.getfield 69, 3) := by decide +kernel
theorem dX11_code_62 : decode cX11_code 62 = .ok (.invokevirtual 350, 3) := by decide +kernel
theorem dX11_code_65 : decode cX11_code 65 = .ok (.aload_n 0, 1) := by decide +kernel
theorem dX11_code_66 : decode cX11_code 66 = .ok (.getfield 38, 3) := by decide +kernel
theorem dX11_code_69 : decode cX11_code 69 = .ok (.iconst (-1), 1) := by decide +kernel
theorem dX11_code_70 : decode cX11_code 70 = .ok (.invokevirtual 352, 3) := by decide +kernel
theorem dX11_code_73 : decode cX11_code 73 = .ok (.iload_n 1, 1) := by decide +kernel
theorem dX11_code_74 : decode cX11_code 74 = .ok (.ifCond .ne 11, 3) := by decide +kernel
theorem dX11_code_85 : decode cX11_code 85 = .ok (.iload_n 1, 1) := by decide +kernel
theorem dX11_code_86 : decode cX11_code 86 = .ok (.iconst 1, 1) := by decide +kernel
theorem dX11_code_87 : decode cX11_code 87 = .ok (.if_icmp .ne 14, 3) := by decide +kernel
theorem dX11_code_101 : decode cX11_code 101 = .ok (.aload_n 0, 1) := by decide +kernel
theorem dX11_code_102 : decode cX11_code 102 = .ok (.getfield 38, 3) := by decide +kernel
theorem dX11_code_105 : decode cX11_code 105 = .ok (.getfield 361, 3) := by decide +kernel
theorem dX11_code_108 : decode cX11_code 108 = .ok (.i2l, 1) := by decide +kernel
theorem dX11_code_109 : decode cX11_code 109 = .ok (.lreturn, 1) := by decide +kernel
theorem dX11_code_90 : decode cX11_code 90 = .ok (.aload_n 0, 1) := by decide +kernel
theorem dX11_code_91 : decode cX11_code 91 = .ok (.getfield 38, 3) := by decide +kernel
theorem dX11_code_94 : decode cX11_code 94 = .ok (.getfield 358, 3) := by decide +kernel
theorem dX11_code_97 : decode cX11_code 97 = .ok (.i2l, 1) := by decide +kernel
theorem dX11_code_98 : decode cX11_code 98 = .ok (.goto 11, 3) := by decide +kernel
theorem dX11_code_77 : decode cX11_code 77 = .ok (.aload_n 0, 1) := by decide +kernel
theorem dX11_code_78 : decode cX11_code 78 = .ok (.getfield 38, 3) := by decide +kernel
theorem dX11_code_81 : decode cX11_code 81 = .ok (.getfield 355, 3) := by decide +kernel
theorem dX11_code_84 : decode cX11_code 84 = .ok (.lreturn, 1) := by decide +kernel
theorem dX11_code_5 : decode cX11_code 5 = .ok (.aload_n 0, 1) := by decide +kernel
theorem dX11_code_6 : decode cX11_code 6 = .ok (.getfield 69, 3) := by decide +kernel
theorem dX11_code_9 : decode cX11_code 9 = .ok (.getfield 145, 3) := by decide +kernel
theorem dX11_code_12 : decode cX11_code 12 = .ok (.ifCond .ne 9, 3) := by decide +kernel
theorem dX11_code_21 : decode cX11_code 21 = .ok (.aload_n 0, 1) := by decide +kernel
theorem dX11_code_22 : decode cX11_code 22 = .ok (.getfield 69, 3) := by decide +kernel
theorem dX11_code_25 : decode cX11_code 25 = .ok (.invokevirtual 347, 3) := by decide +kernel
theorem dX11_code_28 : decode cX11_code 28 = .ok (.i2l, 1) := by decide +kernel
theorem dX11_code_29 : decode cX11_code 29 = .ok (.lreturn, 1) := by decide +kernel
theorem dX11_code_15 : decode cX11_code 15 = .ok (.ldc2_w 212, 3) := by decide +kernel
theorem dX11_code_18 : decode cX11_code 18 = .ok (.goto 11, 3) := by decide +kernel
theorem dX11_decode_0 : decode cX11_decode 0 = .ok (.iconst (-1), 1) := by decide +kernel
theorem dX11_decode_1 : decode cX11_decode 1 = .ok (.istore_n 1, 1) := by decide +kernel
theorem dX11_decode_2 : decode cX11_decode 2 = .ok (.lconst 0, 1) := by decide +kernel
theorem dX11_decode_3 : decode cX11_decode 3 = .ok (.lstore_n 2, 1) := by decide +kernel
theorem dX11_decode_4 : decode cX11_decode 4 = .ok (.iconst 0, 1) := by decide +kernel
theorem dX11_decode_5 : decode cX11_decode 5 = .ok (.istore 4, 2) := by decide +kernel
theorem dX11_decode_7 : decode cX11_decode 7 = .ok (.iload 4, 2) := by decide +kernel
theorem dX11_decode_9 : decode cX11_decode 9 = .ok (.aload_n 0, 1) := by decide +kernel
theorem dX11_decode_10 : decode cX11_decode 10 = .ok (.getfield 69, 3) := by decide +kernel
theorem dX11_decode_13 : decode cX11_decode 13 = .ok (.getfield 145, 3) := by decide +kernel
theorem dX11_decode_16 : decode cX11_decode 16 = .ok (.if_icmp .ge 57, 3) := by decide +kernel
theorem dX11_decode_73 : decode cX11_decode 73 = .ok (.iload_n 1, 1) := by decide +kernel
theorem dX11_decode_74 : decode cX11_decode 74 = .ok (.ireturn, 1) := by decide +kernel
theorem dX11_decode_19 : decode cX11_decode 19 = .ok (.aload_n 0, 1) := by decide +kernel
theorem dX11_decode_20 : decode cX11_decode 20 = .ok (.getfield 69, 3) := by decide +kernel
theorem dX11_decode_23 : decode cX11_decode 23 = .ok (.iload 4, 2) := by decide +kernel
theorem dX11_decode_25 : decode cX11_decode 25 = .ok (.aload_n 0, 1) := by decide +kernel
theorem dX11_decode_26 : decode cX11_decode 26 = .ok (.getfield 53, 3) := by decide +kernel
theorem dX11_decode_29 : decode cX11_decode 29 = .ok (.invokevirtual 364, 3) := by decide +kernel
theorem dX11_decode_32 : decode cX11_decode 32 = .ok (.aload_n 0, 1) := by decide +kernel
theorem dX11_decode_33 : decode cX11_decode 33 = .ok (.getfield 69, 3) := by decide +kernel
theorem dX11_decode_36 : decode cX11_decode 36 = .ok (.aload_n 0, 1) := by decide +kernel
theorem dX11_decode_37 : decode cX11_decode 37 = .ok (.getfield 53, 3) := by decide +kernel
theorem dX11_decode_40 : decode cX11_decode 40 = .ok (.aload_n 0, 1) := by decide +kernel
theorem dX11_decode_41 : decode cX11_decode 41 = .ok (.getfield 49, 3) := by decide +kernel
theorem dX11_decode_44 : decode cX11_decode 44 = .ok (.invokevirtual 208, 3) := by decide +kernel
theorem dX11_decode_47 : decode cX11_decode 47 = .ok (.lstore 5, 2) := by decide +kernel
theorem dX11_decode_49 : decode cX11_decode 49 = .ok (.iload_n 1, 1) := by decide +kernel
theorem dX11_decode_50 : decode cX11_decode 50 = .ok (.iconst (-1), 1) := by decide +kernel
theorem dX11_decode_51 : decode cX11_decode 51 = .ok (.if_icmp .eq 10, 3) := by decide +kernel
theorem dX11_decode_61 : decode cX11_decode 61 = .ok (.iload 4, 2) := by decide +kernel
theorem dX11_decode_63 : decode cX11_decode 63 = .ok (.istore_n 1, 1) := by decide +kernel
theorem dX11_decode_64 : decode cX11_decode 64 = .ok (.lload 5, 2) := by decide +kernel
theorem dX11_decode_66 : decode cX11_decode 66 = .ok (.lstore_n 2, 1) := by decide +kernel
theorem dX11_decode_67 : decode cX11_decode 67 = .ok (.iinc 4 1, 3) := by decide +kernel
theorem dX11_decode_70 : decode cX11_decode 70 = .ok (.goto (-63), 3) := by decide +kernel
theorem dX11_decode_54 : decode cX11_decode 54 = .ok (.lload 5, 2) := by decide +kernel
theorem dX11_decode_56 : decode cX11_decode 56 = .ok (.lload_n 2, 1) := by decide +kernel
theorem dX11_decode_57 : decode cX11_decode 57 = .ok (.lcmp, 1) := by decide +kernel
theorem dX11_decode_58 : decode cX11_decode 58 = .ok (.ifCond .ge 9, 3) := by decide +kernel
theorem dX11_leave_0 : decode cX11_leave 0 = .ok (.iload_n 1, 1) := by decide +kernel
theorem dX11_leave_1 : decode cX11_leave 1 = .ok (.ifCond .lt 19, 3) := by decide +kernel
theorem dX11_leave_20 : decode cX11_leave 20 = .ok (.ldc2_w 212, 3) := by decide +kernel
theorem dX11_leave_23 : decode cX11_leave 23 = .ok (.lreturn, 1) := by decide +kernel
theorem dX11_leave_4 : decode cX11_leave 4 = .ok (.iload_n 1, 1) := by decide +kernel
theorem dX11_leave_5 : decode cX11_leave 5 = .ok (.iconst 1, 1) := by decide +kernel
theorem dX11_leave_6 : decode cX11_leave 6 = .ok (.if_icmp .gt 14, 3) := by decide +kernel
theorem dX11_leave_9 : decode cX11_leave 9 = .ok (.aload_n 0, 1) := by decide +kernel
theorem dX11_leave_10 : decode cX11_leave 10 = .ok (.getfield 69, 3) := by decide +kernel
theorem dX11_leave_13 : decode cX11_leave 13 = .ok (.getfield 145, 3) := by decide +kernel
theorem dX11_leave_16 : decode cX11_leave 16 = .ok (.iconst 3, 1) := by decide +kernel
theorem dX11_leave_17 : decode cX11_leave 17 = .ok (.if_icmp .ge 7, 3) := by decide +kernel
theorem dX11_leave_24 : decode cX11_leave 24 = .ok (.aload_n 0, 1) := by decide +kernel
theorem dX11_leave_25 : decode cX11_leave 25 = .ok (.getfield 38, 3) := by decide +kernel
theorem dX11_leave_28 : decode cX11_leave 28 = .ok (.aload_n 0, 1) := by decide +kernel
theorem dX11_leave_29 : decode cX11_leave 29 = .ok (.getfield 69, 3) := by decide +kernel
theorem dX11_leave_32 : decode cX11_leave 32 = .ok (.invokevirtual 350, 3) := by decide +kernel
theorem dX11_leave_35 : decode cX11_leave 35 = .ok (.iconst (-1), 1) := by decide +kernel
theorem dX11_leave_36 : decode cX11_leave 36 = .ok (.istore_n 2, 1) := by decide +kernel
theorem dX11_leave_37 : decode cX11_leave 37 = .ok (.lconst 0, 1) := by decide +kernel
theorem dX11_leave_38 : decode cX11_leave 38 = .ok (.lstore_n 3, 1) := by decide +kernel
theorem dX11_leave_39 : decode cX11_leave 39 = .ok (.iconst 0, 1) := by decide +kernel
theorem dX11_leave_40 : decode cX11_leave 40 = .ok (.istore 5, 2) := by decide +kernel
theorem dX11_leave_42 : decode cX11_leave 42 = .ok (.iload 5, 2) := by decide +kernel
theorem dX11_leave_44 : decode cX11_leave 44 = .ok (.aload_n 0, 1) := by decide +kernel
theorem dX11_leave_45 : decode cX11_leave 45 = .ok (.getfield 69, 3) := by decide +kernel
theorem dX11_leave_48 : decode cX11_leave 48 = .ok (.getfield 145, 3) := by decide +kernel
theorem dX11_leave_51 : decode cX11_leave 51 = .ok (.if_icmp .ge 46, 3) := by decide +kernel
theorem dX11_leave_54 : decode cX11_leave 54 = .ok (.aload_n 0, 1) := by decide +kernel
theorem dX11_leave_55 : decode cX11_leave 55 = .ok (.getfield 38, 3) := by decide +kernel
theorem dX11_leave_58 : decode cX11_leave 58 = .ok (.iload 5, 2) := by decide +kernel
theorem dX11_leave_60 : decode cX11_leave 60 = .ok (.invokevirtual 352, 3) := by decide +kernel
theorem dX11_leave_63 : decode cX11_leave 63 = .ok (.iload_n 2, 1) := by decide +kernel
theorem dX11_leave_64 : decode cX11_leave 64 = .ok (.iconst (-1), 1) := by decide +kernel
theorem dX11_leave_65 : decode cX11_leave 65 = .ok (.if_icmp .eq 15, 3) := by decide +kernel
theorem dX11_leave_80 : decode cX11_leave 80 = .ok (.iload 5, 2) := by decide +kernel
theorem dX11_leave_82 : decode cX11_leave 82 = .ok (.istore_n 2, 1) := by decide +kernel
theorem dX11_leave_83 : decode cX11_leave 83 = .ok (.aload_n 0, 1) := by decide +kernel
theorem dX11_leave_84 : decode cX11_leave 84 = .ok (.getfield 38, 3) := by decide +kernel
theorem dX11_leave_87 : decode cX11_leave 87 = .ok (.getfield 355, 3) := by decide +kernel
theorem dX11_leave_90 : decode cX11_leave 90 = .ok (.lstore_n 3, 1) := by decide +kernel
theorem dX11_leave_91 : decode cX11_leave 91 = .ok (.iinc 5 1, 3) := by decide +kernel
theorem dX11_leave_94 : decode cX11_leave 94 = .ok (.goto (-52), 3) := by decide +kernel
theorem dX11_leave_97 : decode cX11_leave 97 = .ok (.iload_n 1, 1) := by decide +kernel
theorem dX11_leave_98 : decode cX11_leave 98 = .ok (.ifCond .ne 8, 3) := by decide +kernel
theorem dX11_leave_106 : decode cX11_leave 106 = .ok (.lload_n 3, 1) := by decide +kernel
theorem dX11_leave_107 : decode cX11_leave 107 = .ok (.lreturn, 1) := by decide +kernel
theorem dX11_leave_101 : decode cX11_leave 101 = .ok (.iload_n 2, 1) := by decide +kernel
theorem dX11_leave_102 : decode cX11_leave 102 = .ok (.i2l, 1) := by decide +kernel
theorem dX11_leave_103 : decode cX11_leave 103 = .ok (.goto 4, 3) := by decide +kernel
theorem dX11_leave_68 : decode cX11_leave 68 = .ok (.aload_n 0, 1) := by decide +kernel
theorem dX11_leave_69 : decode cX11_leave 69 = .ok (.getfield 38, 3) := by decide +kernel
theorem dX11_leave_72 : decode cX11_leave 72 = .ok (.getfield 355, 3) := by decide +kernel
theorem dX11_leave_75 : decode cX11_leave 75 = .ok (.lload_n 3, 1) := by decide +kernel
theorem dX11_leave_76 : decode cX11_leave 76 = .ok (.lcmp, 1) := by decide +kernel
theorem dX11_leave_77 : decode cX11_leave 77 = .ok (.ifCond .le 14, 3) := by decide +kernel
theorem dX11_behind_0 : decode cX11_behind 0 = .ok (.aload_n 0, 1) := by decide +kernel
theorem dX11_behind_1 : decode cX11_behind 1 = .ok (.getfield 69, 3) := by decide +kernel
theorem dX11_behind_4 : decode cX11_behind 4 = .ok (.iload_n 1, 1) := by decide +kernel
theorem dX11_behind_5 : decode cX11_behind 5 = .ok (.invokevirtual 341, 3) := by decide +kernel
theorem dX11_behind_8 : decode cX11_behind 8 = .ok (.ifCond .ne 5, 3) := by decide +kernel
theorem dX11_behind_13 : decode cX11_behind 13 = .ok (.aload_n 0, 1) := by decide +kernel
theorem dX11_behind_14 : decode cX11_behind 14 = .ok (.getfield 69, 3) := by decide +kernel
theorem dX11_behind_17 : decode cX11_behind 17 = .ok (.iload_n 1, 1) := by decide +kernel
theorem dX11_behind_18 : decode cX11_behind 18 = .ok (.aload_n 0, 1) := by decide +kernel
theorem dX11_behind_19 : decode cX11_behind 19 = .ok (.getfield 53, 3) := by decide +kernel
theorem dX11_behind_22 : decode cX11_behind 22 = .ok (.invokevirtual 364, 3) := by decide +kernel
theorem dX11_behind_25 : decode cX11_behind 25 = .ok (.aload_n 0, 1) := by decide +kernel
theorem dX11_behind_26 : decode cX11_behind 26 = .ok (.getfield 69, 3) := by decide +kernel
theorem dX11_behind_29 : decode cX11_behind 29 = .ok (.aload_n 0, 1) := by decide +kernel
theorem dX11_behind_30 : decode cX11_behind 30 = .ok (.getfield 53, 3) := by decide +kernel
theorem dX11_behind_33 : decode cX11_behind 33 = .ok (.aload_n 0, 1) := by decide +kernel
theorem dX11_behind_34 : decode cX11_behind 34 = .ok (.getfield 49, 3) := by decide +kernel
theorem dX11_behind_37 : decode cX11_behind 37 = .ok (.invokevirtual 208, 3) := by decide +kernel
theorem dX11_behind_40 : decode cX11_behind 40 = .ok (.lstore_n 2, 1) := by decide +kernel
theorem dX11_behind_41 : decode cX11_behind 41 = .ok (.aload_n 0, 1) := by decide +kernel
theorem dX11_behind_42 : decode cX11_behind 42 = .ok (.getfield 24, 3) := by decide +kernel
theorem dX11_behind_45 : decode cX11_behind 45 = .ok (.aload_n 0, 1) := by decide +kernel
theorem dX11_behind_46 : decode cX11_behind 46 = .ok (.getfield 69, 3) := by decide +kernel
theorem dX11_behind_49 : decode cX11_behind 49 = .ok (.aload_n 0, 1) := by decide +kernel
theorem dX11_behind_50 : decode cX11_behind 50 = .ok (.getfield 49, 3) := by decide +kernel
theorem dX11_behind_53 : decode cX11_behind 53 = .ok (.lload_n 2, 1) := by decide +kernel
theorem dX11_behind_54 : decode cX11_behind 54 = .ok (.aload_n 0, 1) := by decide +kernel
theorem dX11_behind_55 : decode cX11_behind 55 = .ok (.getfield 69, 3) := by decide +kernel
theorem dX11_behind_58 : decode cX11_behind 58 = .ok (.aload_n 0, 1) := by decide +kernel
theorem dX11_behind_59 : decode cX11_behind 59 = .ok (.getfield 53, 3) := by decide +kernel
theorem dX11_behind_62 : decode cX11_behind 62 = .ok (.invokevirtual 368, 3) := by decide +kernel
theorem dX11_behind_65 : decode cX11_behind 65 = .ok (.invokevirtual 266, 3) := by decide +kernel
theorem dX11_behind_68 : decode cX11_behind 68 = .ok (.ireturn, 1) := by decide +kernel
theorem dX11_behind_11 : decode cX11_behind 11 = .ok (.iconst (-1), 1) := by decide +kernel
theorem dX11_behind_12 : decode cX11_behind 12 = .ok (.ireturn, 1) := by decide +kernel
theorem dX11_unlike_0 : decode cX11_unlike 0 = .ok (.aload_n 0, 1) := by decide +kernel
theorem dX11_unlike_1 : decode cX11_unlike 1 = .ok (.getfield 69, 3) := by decide +kernel
theorem dX11_unlike_4 : decode cX11_unlike 4 = .ok (.iload_n 1, 1) := by decide +kernel
theorem dX11_unlike_5 : decode cX11_unlike 5 = .ok (.invokevirtual 341, 3) := by decide +kernel
theorem dX11_unlike_8 : decode cX11_unlike 8 = .ok (.ifCond .eq 14, 3) := by decide +kernel
theorem dX11_unlike_22 : decode cX11_unlike 22 = .ok (.iconst (-1), 1) := by decide +kernel
theorem dX11_unlike_23 : decode cX11_unlike 23 = .ok (.ireturn, 1) := by decide +kernel
theorem dX11_unlike_11 : decode cX11_unlike 11 = .ok (.aload_n 0, 1) := by decide +kernel
theorem dX11_unlike_12 : decode cX11_unlike 12 = .ok (.getfield 69, 3) := by decide +kernel
theorem dX11_unlike_15 : decode cX11_unlike 15 = .ok (.iload_n 2, 1) := by decide +kernel
theorem dX11_unlike_16 : decode cX11_unlike 16 = .ok (.invokevirtual 341, 3) := by decide +kernel
theorem dX11_unlike_19 : decode cX11_unlike 19 = .ok (.ifCond .ne 5, 3) := by decide +kernel
theorem dX11_unlike_24 : decode cX11_unlike 24 = .ok (.iconst 0, 1) := by decide +kernel
theorem dX11_unlike_25 : decode cX11_unlike 25 = .ok (.istore_n 3, 1) := by decide +kernel
theorem dX11_unlike_26 : decode cX11_unlike 26 = .ok (.iconst 0, 1) := by decide +kernel
theorem dX11_unlike_27 : decode cX11_unlike 27 = .ok (.istore 4, 2) := by decide +kernel
theorem dX11_unlike_29 : decode cX11_unlike 29 = .ok (.iload 4, 2) := by decide +kernel
theorem dX11_unlike_31 : decode cX11_unlike 31 = .ok (.aload_n 0, 1) := by decide +kernel
theorem dX11_unlike_32 : decode cX11_unlike 32 = .ok (.getfield 69, 3) := by decide +kernel
theorem dX11_unlike_35 : decode cX11_unlike 35 = .ok (.getfield 136, 3) := by decide +kernel
theorem dX11_unlike_38 : decode cX11_unlike 38 = .ok (.if_icmp .ge 35, 3) := by decide +kernel
theorem dX11_unlike_73 : decode cX11_unlike 73 = .ok (.iload_n 3, 1) := by decide +kernel
theorem dX11_unlike_74 : decode cX11_unlike 74 = .ok (.ireturn, 1) := by decide +kernel
theorem dX11_unlike_41 : decode cX11_unlike 41 = .ok (.aload_n 0, 1) := by decide +kernel
theorem dX11_unlike_42 : decode cX11_unlike 42 = .ok (.getfield 69, 3) := by decide +kernel
theorem dX11_unlike_45 : decode cX11_unlike 45 = .ok (.iload_n 1, 1) := by decide +kernel
theorem dX11_unlike_46 : decode cX11_unlike 46 = .ok (.iload 4, 2) := by decide +kernel
theorem dX11_unlike_48 : decode cX11_unlike 48 = .ok (.invokevirtual 344, 3) := by decide +kernel
theorem dX11_unlike_51 : decode cX11_unlike 51 = .ok (.aload_n 0, 1) := by decide +kernel
theorem dX11_unlike_52 : decode cX11_unlike 52 = .ok (.getfield 69, 3) := by decide +kernel
theorem dX11_unlike_55 : decode cX11_unlike 55 = .ok (.iload_n 2, 1) := by decide +kernel
theorem dX11_unlike_56 : decode cX11_unlike 56 = .ok (.iload 4, 2) := by decide +kernel
theorem dX11_unlike_58 : decode cX11_unlike 58 = .ok (.invokevirtual 344, 3) := by decide +kernel
theorem dX11_unlike_61 : decode cX11_unlike 61 = .ok (.if_icmp .eq 6, 3) := by decide +kernel
theorem dX11_unlike_67 : decode cX11_unlike 67 = .ok (.iinc 4 1, 3) := by decide +kernel
theorem dX11_unlike_70 : decode cX11_unlike 70 = .ok (.goto (-41), 3) := by decide +kernel
theorem dX11_unlike_64 : decode cX11_unlike 64 = .ok (.iinc 3 1, 3) := by decide +kernel
theorem dX11_span_0 : decode cX11_span 0 = .ok (.aload_n 0, 1) := by decide +kernel
theorem dX11_span_1 : decode cX11_span 1 = .ok (.getfield 69, 3) := by decide +kernel
theorem dX11_span_4 : decode cX11_span 4 = .ok (.getfield 136, 3) := by decide +kernel
theorem dX11_span_7 : decode cX11_span 7 = .ok (.ifCond .ne 7, 3) := by decide +kernel
theorem dX11_span_14 : decode cX11_span 14 = .ok (.iload_n 1, 1) := by decide +kernel
theorem dX11_span_15 : decode cX11_span 15 = .ok (.ifCond .eq 17, 3) := by decide +kernel
theorem dX11_span_32 : decode cX11_span 32 = .ok (.aload_n 0, 1) := by decide +kernel
theorem dX11_span_33 : decode cX11_span 33 = .ok (.getfield 45, 3) := by decide +kernel
theorem dX11_span_36 : decode cX11_span 36 = .ok (.aload_n 0, 1) := by decide +kernel
theorem dX11_span_37 : decode cX11_span 37 = .ok (.getfield 69, 3) := by decide +kernel
theorem dX11_span_40 : decode cX11_span 40 = .ok (.invokevirtual 376, 3) := by decide +kernel
theorem dX11_span_43 : decode cX11_span 43 = .ok (.lreturn, 1) := by decide +kernel
theorem dX11_span_18 : decode cX11_span 18 = .ok (.aload_n 0, 1) := by decide +kernel
theorem dX11_span_19 : decode cX11_span 19 = .ok (.getfield 45, 3) := by decide +kernel
theorem dX11_span_22 : decode cX11_span 22 = .ok (.aload_n 0, 1) := by decide +kernel
theorem dX11_span_23 : decode cX11_span 23 = .ok (.getfield 69, 3) := by decide +kernel
theorem dX11_span_26 : decode cX11_span 26 = .ok (.invokevirtual 372, 3) := by decide +kernel
theorem dX11_span_29 : decode cX11_span 29 = .ok (.goto 14, 3) := by decide +kernel
theorem dX11_span_10 : decode cX11_span 10 = .ok (.ldc2_w 212, 3) := by decide +kernel
theorem dX11_span_13 : decode cX11_span 13 = .ok (.lreturn, 1) := by decide +kernel
theorem dX11_ahead_0 : decode cX11_ahead 0 = .ok (.aload_n 0, 1) := by decide +kernel
theorem dX11_ahead_1 : decode cX11_ahead 1 = .ok (.invokevirtual 201, 3) := by decide +kernel
theorem dX11_ahead_4 : decode cX11_ahead 4 = .ok (.ifCond .eq 21, 3) := by decide +kernel
theorem dX11_ahead_25 : decode cX11_ahead 25 = .ok (.aload_n 0, 1) := by decide +kernel
theorem dX11_ahead_26 : decode cX11_ahead 26 = .ok (.getfield 45, 3) := by decide +kernel
theorem dX11_ahead_29 : decode cX11_ahead 29 = .ok (.invokevirtual 383, 3) := by decide +kernel
theorem dX11_ahead_32 : decode cX11_ahead 32 = .ok (.lreturn, 1) := by decide +kernel
theorem dX11_ahead_7 : decode cX11_ahead 7 = .ok (.aload_n 0, 1) := by decide +kernel
theorem dX11_ahead_8 : decode cX11_ahead 8 = .ok (.getfield 45, 3) := by decide +kernel
theorem dX11_ahead_11 : decode cX11_ahead 11 = .ok (.aload_n 0, 1) := by decide +kernel
theorem dX11_ahead_12 : decode cX11_ahead 12 = .ok (.getfield 69, 3) := by decide +kernel
theorem dX11_ahead_15 : decode cX11_ahead 15 = .ok (.aload_n 0, 1) := by decide +kernel
theorem dX11_ahead_16 : decode cX11_ahead 16 = .ok (.getfield 53, 3) := by decide +kernel
theorem dX11_ahead_19 : decode cX11_ahead 19 = .ok (.invokevirtual 379, 3) := by decide +kernel
theorem dX11_ahead_22 : decode cX11_ahead 22 = .ok (.goto 10, 3) := by decide +kernel
theorem dX11_put_0 : decode cX11_put 0 = .ok (.aload_n 0, 1) := by decide +kernel
theorem dX11_put_1 : decode cX11_put 1 = .ok (.getfield 69, 3) := by decide +kernel
theorem dX11_put_4 : decode cX11_put 4 = .ok (.iload_n 1, 1) := by decide +kernel
theorem dX11_put_5 : decode cX11_put 5 = .ok (.invokevirtual 172, 3) := by decide +kernel
theorem dX11_put_8 : decode cX11_put 8 = .ok (.ifCond .eq 25, 3) := by decide +kernel
theorem dX11_put_33 : decode cX11_put 33 = .ok (.ldc 175, 2) := by decide +kernel
theorem dX11_put_35 : decode cX11_put 35 = .ok (.ireturn, 1) := by decide +kernel
theorem dX11_put_11 : decode cX11_put 11 = .ok (.aload_n 0, 1) := by decide +kernel
theorem dX11_put_12 : decode cX11_put 12 = .ok (.getfield 45, 3) := by decide +kernel
theorem dX11_put_15 : decode cX11_put 15 = .ok (.getfield 386, 3) := by decide +kernel
theorem dX11_put_18 : decode cX11_put 18 = .ok (.ifCond .eq 15, 3) := by decide +kernel
theorem dX11_put_21 : decode cX11_put 21 = .ok (.aload_n 0, 1) := by decide +kernel
theorem dX11_put_22 : decode cX11_put 22 = .ok (.getfield 45, 3) := by decide +kernel
theorem dX11_put_25 : decode cX11_put 25 = .ok (.getfield 390, 3) := by decide +kernel
theorem dX11_put_28 : decode cX11_put 28 = .ok (.iload_n 1, 1) := by decide +kernel
theorem dX11_put_29 : decode cX11_put 29 = .ok (.iaload, 1) := by decide +kernel
theorem dX11_put_30 : decode cX11_put 30 = .ok (.goto 5, 3) := by decide +kernel
theorem dX11_worth_0 : decode cX11_worth 0 = .ok (.aload_n 0, 1) := by decide +kernel
theorem dX11_worth_1 : decode cX11_worth 1 = .ok (.getfield 69, 3) := by decide +kernel
theorem dX11_worth_4 : decode cX11_worth 4 = .ok (.iload_n 1, 1) := by decide +kernel
theorem dX11_worth_5 : decode cX11_worth 5 = .ok (.invokevirtual 172, 3) := by decide +kernel
theorem dX11_worth_8 : decode cX11_worth 8 = .ok (.ifCond .eq 14, 3) := by decide +kernel
theorem dX11_worth_22 : decode cX11_worth 22 = .ok (.ldc 175, 2) := by decide +kernel
theorem dX11_worth_24 : decode cX11_worth 24 = .ok (.ireturn, 1) := by decide +kernel
theorem dX11_worth_11 : decode cX11_worth 11 = .ok (.aload_n 0, 1) := by decide +kernel
theorem dX11_worth_12 : decode cX11_worth 12 = .ok (.getfield 69, 3) := by decide +kernel
theorem dX11_worth_15 : decode cX11_worth 15 = .ok (.iload_n 1, 1) := by decide +kernel
theorem dX11_worth_16 : decode cX11_worth 16 = .ok (.invokevirtual 393, 3) := by decide +kernel
theorem dX11_worth_19 : decode cX11_worth 19 = .ok (.goto 5, 3) := by decide +kernel
theorem dX11_chosen_0 : decode cX11_chosen 0 = .ok (.iload_n 1, 1) := by decide +kernel
theorem dX11_chosen_1 : decode cX11_chosen 1 = .ok (.iconst 1, 1) := by decide +kernel
theorem dX11_chosen_2 : decode cX11_chosen 2 = .ok (.if_icmp .lt 20, 3) := by decide +kernel
theorem dX11_chosen_22 : decode cX11_chosen 22 = .ok (.iconst (-1), 1) := by decide +kernel
theorem dX11_chosen_23 : decode cX11_chosen 23 = .ok (.ireturn, 1) := by decide +kernel
theorem dX11_chosen_5 : decode cX11_chosen 5 = .ok (.iload_n 1, 1) := by decide +kernel
theorem dX11_chosen_6 : decode cX11_chosen 6 = .ok (.aload_n 0, 1) := by decide +kernel
theorem dX11_chosen_7 : decode cX11_chosen 7 = .ok (.getfield 69, 3) := by decide +kernel
theorem dX11_chosen_10 : decode cX11_chosen 10 = .ok (.getfield 136, 3) := by decide +kernel
theorem dX11_chosen_13 : decode cX11_chosen 13 = .ok (.if_icmp .gt 9, 3) := by decide +kernel
theorem dX11_chosen_16 : decode cX11_chosen 16 = .ok (.lload_n 2, 1) := by decide +kernel
theorem dX11_chosen_17 : decode cX11_chosen 17 = .ok (.lconst 0, 1) := by decide +kernel
theorem dX11_chosen_18 : decode cX11_chosen 18 = .ok (.lcmp, 1) := by decide +kernel
theorem dX11_chosen_19 : decode cX11_chosen 19 = .ok (.ifCond .ge 5, 3) := by decide +kernel
theorem dX11_chosen_24 : decode cX11_chosen 24 = .ok (.iconst 0, 1) := by decide +kernel
theorem dX11_chosen_25 : decode cX11_chosen 25 = .ok (.istore 4, 2) := by decide +kernel
theorem dX11_chosen_27 : decode cX11_chosen 27 = .ok (.iload 4, 2) := by decide +kernel
theorem dX11_chosen_29 : decode cX11_chosen 29 = .ok (.aload_n 0, 1) := by decide +kernel
theorem dX11_chosen_30 : decode cX11_chosen 30 = .ok (.getfield 69, 3) := by decide +kernel
theorem dX11_chosen_33 : decode cX11_chosen 33 = .ok (.getfield 136, 3) := by decide +kernel
theorem dX11_chosen_36 : decode cX11_chosen 36 = .ok (.if_icmp .ge 25, 3) := by decide +kernel
theorem dX11_chosen_39 : decode cX11_chosen 39 = .ok (.aload_n 0, 1) := by decide +kernel
theorem dX11_chosen_40 : decode cX11_chosen 40 = .ok (.getfield 56, 3) := by decide +kernel
theorem dX11_chosen_43 : decode cX11_chosen 43 = .ok (.iload 4, 2) := by decide +kernel
theorem dX11_chosen_45 : decode cX11_chosen 45 = .ok (.aload_n 0, 1) := by decide +kernel
theorem dX11_chosen_46 : decode cX11_chosen 46 = .ok (.getfield 69, 3) := by decide +kernel
theorem dX11_chosen_49 : decode cX11_chosen 49 = .ok (.iload 4, 2) := by decide +kernel
theorem dX11_chosen_51 : decode cX11_chosen 51 = .ok (.invokevirtual 393, 3) := by decide +kernel
theorem dX11_chosen_54 : decode cX11_chosen 54 = .ok (.iastore, 1) := by decide +kernel
theorem dX11_chosen_55 : decode cX11_chosen 55 = .ok (.iinc 4 1, 3) := by decide +kernel
theorem dX11_chosen_58 : decode cX11_chosen 58 = .ok (.goto (-31), 3) := by decide +kernel
theorem dX11_chosen_61 : decode cX11_chosen 61 = .ok (.iconst (-1), 1) := by decide +kernel
theorem dX11_chosen_62 : decode cX11_chosen 62 = .ok (.istore 4, 2) := by decide +kernel
theorem dX11_chosen_64 : decode cX11_chosen 64 = .ok (.iconst 0, 1) := by decide +kernel
theorem dX11_chosen_65 : decode cX11_chosen 65 = .ok (.istore 5, 2) := by decide +kernel
theorem dX11_chosen_67 : decode cX11_chosen 67 = .ok (.iconst 1, 1) := by decide +kernel
theorem dX11_chosen_68 : decode cX11_chosen 68 = .ok (.istore 6, 2) := by decide +kernel
theorem dX11_chosen_70 : decode cX11_chosen 70 = .ok (.iload 6, 2) := by decide +kernel
theorem dX11_chosen_72 : decode cX11_chosen 72 = .ok (.iconst 1, 1) := by decide +kernel
theorem dX11_chosen_73 : decode cX11_chosen 73 = .ok (.aload_n 0, 1) := by decide +kernel
theorem dX11_chosen_74 : decode cX11_chosen 74 = .ok (.getfield 69, 3) := by decide +kernel
theorem dX11_chosen_77 : decode cX11_chosen 77 = .ok (.getfield 136, 3) := by decide +kernel
theorem dX11_chosen_80 : decode cX11_chosen 80 = .ok (.ishl, 1) := by decide +kernel
theorem dX11_chosen_81 : decode cX11_chosen 81 = .ok (.if_icmp .ge 77, 3) := by decide +kernel
theorem dX11_chosen_158 : decode cX11_chosen 158 = .ok (.iload 4, 2) := by decide +kernel
theorem dX11_chosen_160 : decode cX11_chosen 160 = .ok (.ireturn, 1) := by decide +kernel
theorem dX11_chosen_84 : decode cX11_chosen 84 = .ok (.aload_n 0, 1) := by decide +kernel
theorem dX11_chosen_85 : decode cX11_chosen 85 = .ok (.iload 6, 2) := by decide +kernel
theorem dX11_chosen_87 : decode cX11_chosen 87 = .ok (.invokevirtual 396, 3) := by decide +kernel
theorem dX11_worthTogether_0 : decode cX11_worthTogether 0 = .ok (.iconst 0, 1) := by decide +kernel
theorem dX11_worthTogether_1 : decode cX11_worthTogether 1 = .ok (.istore_n 2, 1) := by decide +kernel
theorem dX11_worthTogether_2 : decode cX11_worthTogether 2 = .ok (.iconst 0, 1) := by decide +kernel
theorem dX11_worthTogether_3 : decode cX11_worthTogether 3 = .ok (.istore_n 3, 1) := by decide +kernel
theorem dX11_worthTogether_4 : decode cX11_worthTogether 4 = .ok (.iload_n 3, 1) := by decide +kernel
theorem dX11_worthTogether_5 : decode cX11_worthTogether 5 = .ok (.aload_n 0, 1) := by decide +kernel
theorem dX11_worthTogether_6 : decode cX11_worthTogether 6 = .ok (.getfield 69, 3) := by decide +kernel
theorem dX11_worthTogether_9 : decode cX11_worthTogether 9 = .ok (.getfield 136, 3) := by decide +kernel
theorem dX11_worthTogether_12 : decode cX11_worthTogether 12 = .ok (.if_icmp .ge 27, 3) := by decide +kernel
theorem dX11_worthTogether_39 : decode cX11_worthTogether 39 = .ok (.iload_n 2, 1) := by decide +kernel
theorem dX11_worthTogether_40 : decode cX11_worthTogether 40 = .ok (.ireturn, 1) := by decide +kernel
theorem dX11_worthTogether_15 : decode cX11_worthTogether 15 = .ok (.iload_n 1, 1) := by decide +kernel
theorem dX11_worthTogether_16 : decode cX11_worthTogether 16 = .ok (.iload_n 3, 1) := by decide +kernel
theorem dX11_worthTogether_17 : decode cX11_worthTogether 17 = .ok (.ishr, 1) := by decide +kernel
theorem dX11_worthTogether_18 : decode cX11_worthTogether 18 = .ok (.iconst 1, 1) := by decide +kernel
theorem dX11_worthTogether_19 : decode cX11_worthTogether 19 = .ok (.iand, 1) := by decide +kernel
theorem dX11_worthTogether_20 : decode cX11_worthTogether 20 = .ok (.iconst 1, 1) := by decide +kernel
theorem dX11_worthTogether_21 : decode cX11_worthTogether 21 = .ok (.if_icmp .ne 12, 3) := by decide +kernel
theorem dX11_worthTogether_33 : decode cX11_worthTogether 33 = .ok (.iinc 3 1, 3) := by decide +kernel
theorem dX11_worthTogether_36 : decode cX11_worthTogether 36 = .ok (.goto (-32), 3) := by decide +kernel
theorem dX11_worthTogether_24 : decode cX11_worthTogether 24 = .ok (.iload_n 2, 1) := by decide +kernel
theorem dX11_worthTogether_25 : decode cX11_worthTogether 25 = .ok (.aload_n 0, 1) := by decide +kernel
theorem dX11_worthTogether_26 : decode cX11_worthTogether 26 = .ok (.getfield 56, 3) := by decide +kernel
theorem dX11_worthTogether_29 : decode cX11_worthTogether 29 = .ok (.iload_n 3, 1) := by decide +kernel
theorem dX11_worthTogether_30 : decode cX11_worthTogether 30 = .ok (.iaload, 1) := by decide +kernel
theorem dX11_worthTogether_31 : decode cX11_worthTogether 31 = .ok (.iadd, 1) := by decide +kernel
theorem dX11_worthTogether_32 : decode cX11_worthTogether 32 = .ok (.istore_n 2, 1) := by decide +kernel
theorem dX11_chosen_90 : decode cX11_chosen 90 = .ok (.istore 7, 2) := by decide +kernel
theorem dX11_chosen_92 : decode cX11_chosen 92 = .ok (.iload 6, 2) := by decide +kernel
theorem dX11_chosen_94 : decode cX11_chosen 94 = .ok (.invokestatic 399, 3) := by decide +kernel
theorem dJ6_bitCount_0f7a4_0 : decode cJ6_bitCount_0f7a4 0 = .ok (.iload_n 0, 1) := by decide +kernel
theorem dJ6_bitCount_0f7a4_1 : decode cJ6_bitCount_0f7a4 1 = .ok (.iload_n 0, 1) := by decide +kernel
theorem dJ6_bitCount_0f7a4_2 : decode cJ6_bitCount_0f7a4 2 = .ok (.iconst 1, 1) := by decide +kernel
theorem dJ6_bitCount_0f7a4_3 : decode cJ6_bitCount_0f7a4 3 = .ok (.iushr, 1) := by decide +kernel
theorem dJ6_bitCount_0f7a4_4 : decode cJ6_bitCount_0f7a4 4 = .ok (.ldc_w 265, 3) := by decide +kernel
theorem dJ6_bitCount_0f7a4_7 : decode cJ6_bitCount_0f7a4 7 = .ok (.iand, 1) := by decide +kernel
theorem dJ6_bitCount_0f7a4_8 : decode cJ6_bitCount_0f7a4 8 = .ok (.isub, 1) := by decide +kernel
theorem dJ6_bitCount_0f7a4_9 : decode cJ6_bitCount_0f7a4 9 = .ok (.istore_n 0, 1) := by decide +kernel
theorem dJ6_bitCount_0f7a4_10 : decode cJ6_bitCount_0f7a4 10 = .ok (.iload_n 0, 1) := by decide +kernel
theorem dJ6_bitCount_0f7a4_11 : decode cJ6_bitCount_0f7a4 11 = .ok (.ldc_w 266, 3) := by decide +kernel
theorem dJ6_bitCount_0f7a4_14 : decode cJ6_bitCount_0f7a4 14 = .ok (.iand, 1) := by decide +kernel
theorem dJ6_bitCount_0f7a4_15 : decode cJ6_bitCount_0f7a4 15 = .ok (.iload_n 0, 1) := by decide +kernel
theorem dJ6_bitCount_0f7a4_16 : decode cJ6_bitCount_0f7a4 16 = .ok (.iconst 2, 1) := by decide +kernel
theorem dJ6_bitCount_0f7a4_17 : decode cJ6_bitCount_0f7a4 17 = .ok (.iushr, 1) := by decide +kernel
theorem dJ6_bitCount_0f7a4_18 : decode cJ6_bitCount_0f7a4 18 = .ok (.ldc_w 266, 3) := by decide +kernel
theorem dJ6_bitCount_0f7a4_21 : decode cJ6_bitCount_0f7a4 21 = .ok (.iand, 1) := by decide +kernel
theorem dJ6_bitCount_0f7a4_22 : decode cJ6_bitCount_0f7a4 22 = .ok (.iadd, 1) := by decide +kernel
theorem dJ6_bitCount_0f7a4_23 : decode cJ6_bitCount_0f7a4 23 = .ok (.istore_n 0, 1) := by decide +kernel
theorem dJ6_bitCount_0f7a4_24 : decode cJ6_bitCount_0f7a4 24 = .ok (.iload_n 0, 1) := by decide +kernel
theorem dJ6_bitCount_0f7a4_25 : decode cJ6_bitCount_0f7a4 25 = .ok (.iload_n 0, 1) := by decide +kernel
theorem dJ6_bitCount_0f7a4_26 : decode cJ6_bitCount_0f7a4 26 = .ok (.iconst 4, 1) := by decide +kernel
theorem dJ6_bitCount_0f7a4_27 : decode cJ6_bitCount_0f7a4 27 = .ok (.iushr, 1) := by decide +kernel
theorem dJ6_bitCount_0f7a4_28 : decode cJ6_bitCount_0f7a4 28 = .ok (.iadd, 1) := by decide +kernel
theorem dJ6_bitCount_0f7a4_29 : decode cJ6_bitCount_0f7a4 29 = .ok (.ldc_w 267, 3) := by decide +kernel
theorem dJ6_bitCount_0f7a4_32 : decode cJ6_bitCount_0f7a4 32 = .ok (.iand, 1) := by decide +kernel
theorem dJ6_bitCount_0f7a4_33 : decode cJ6_bitCount_0f7a4 33 = .ok (.istore_n 0, 1) := by decide +kernel
theorem dJ6_bitCount_0f7a4_34 : decode cJ6_bitCount_0f7a4 34 = .ok (.iload_n 0, 1) := by decide +kernel
theorem dJ6_bitCount_0f7a4_35 : decode cJ6_bitCount_0f7a4 35 = .ok (.iload_n 0, 1) := by decide +kernel
theorem dJ6_bitCount_0f7a4_36 : decode cJ6_bitCount_0f7a4 36 = .ok (.bipush 8, 2) := by decide +kernel
theorem dJ6_bitCount_0f7a4_38 : decode cJ6_bitCount_0f7a4 38 = .ok (.iushr, 1) := by decide +kernel
theorem dJ6_bitCount_0f7a4_39 : decode cJ6_bitCount_0f7a4 39 = .ok (.iadd, 1) := by decide +kernel
theorem dJ6_bitCount_0f7a4_40 : decode cJ6_bitCount_0f7a4 40 = .ok (.istore_n 0, 1) := by decide +kernel
theorem dJ6_bitCount_0f7a4_41 : decode cJ6_bitCount_0f7a4 41 = .ok (.iload_n 0, 1) := by decide +kernel
theorem dJ6_bitCount_0f7a4_42 : decode cJ6_bitCount_0f7a4 42 = .ok (.iload_n 0, 1) := by decide +kernel
theorem dJ6_bitCount_0f7a4_43 : decode cJ6_bitCount_0f7a4 43 = .ok (.bipush 16, 2) := by decide +kernel
theorem dJ6_bitCount_0f7a4_45 : decode cJ6_bitCount_0f7a4 45 = .ok (.iushr, 1) := by decide +kernel
theorem dJ6_bitCount_0f7a4_46 : decode cJ6_bitCount_0f7a4 46 = .ok (.iadd, 1) := by decide +kernel
theorem dJ6_bitCount_0f7a4_47 : decode cJ6_bitCount_0f7a4 47 = .ok (.istore_n 0, 1) := by decide +kernel
theorem dJ6_bitCount_0f7a4_48 : decode cJ6_bitCount_0f7a4 48 = .ok (.iload_n 0, 1) := by decide +kernel
theorem dJ6_bitCount_0f7a4_49 : decode cJ6_bitCount_0f7a4 49 = .ok (.bipush 63, 2) := by decide +kernel
