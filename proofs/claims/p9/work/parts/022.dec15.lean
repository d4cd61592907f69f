theorem dX12_distance_4 : decode cX12_distance 4 = .ok (.ifCond .eq 11, 3) := by decide +kernel
theorem dX12_distance_15 : decode cX12_distance 15 = .ok (.ldc2_w 384, 3) := by decide +kernel
theorem dX12_distance_18 : decode cX12_distance 18 = .ok (.lreturn, 1) := by decide +kernel
theorem dX12_distance_7 : decode cX12_distance 7 = .ok (.aload_n 0, 1) := by decide +kernel
theorem dX12_distance_8 : decode cX12_distance 8 = .ok (.iconst 1, 1) := by decide +kernel
theorem dX12_distance_9 : decode cX12_distance 9 = .ok (.invokevirtual 380, 3) := by decide +kernel
theorem dX12_squaresLess_0 : decode cX12_squaresLess 0 = .ok (.lconst 0, 1) := by decide +kernel
theorem dX12_squaresLess_1 : decode cX12_squaresLess 1 = .ok (.lstore_n 2, 1) := by decide +kernel
theorem dX12_squaresLess_2 : decode cX12_squaresLess 2 = .ok (.iconst 0, 1) := by decide +kernel
theorem dX12_squaresLess_3 : decode cX12_squaresLess 3 = .ok (.istore 4, 2) := by decide +kernel
theorem dX12_squaresLess_5 : decode cX12_squaresLess 5 = .ok (.iload 4, 2) := by decide +kernel
theorem dX12_squaresLess_7 : decode cX12_squaresLess 7 = .ok (.aload_n 0, 1) := by decide +kernel
theorem dX12_squaresLess_8 : decode cX12_squaresLess 8 = .ok (.getfield 240, 3) := by decide +kernel
theorem dX12_squaresLess_11 : decode cX12_squaresLess 11 = .ok (.if_icmp .ge 42, 3) := by decide +kernel
theorem dX12_squaresLess_53 : decode cX12_squaresLess 53 = .ok (.lload_n 2, 1) := by decide +kernel
theorem dX12_squaresLess_54 : decode cX12_squaresLess 54 = .ok (.lreturn, 1) := by decide +kernel
theorem dX12_squaresLess_14 : decode cX12_squaresLess 14 = .ok (.iload_n 1, 1) := by decide +kernel
theorem dX12_squaresLess_15 : decode cX12_squaresLess 15 = .ok (.ifCond .eq 13, 3) := by decide +kernel
theorem dX12_squaresLess_28 : decode cX12_squaresLess 28 = .ok (.iconst 0, 1) := by decide +kernel
theorem dX12_squaresLess_29 : decode cX12_squaresLess 29 = .ok (.aload_n 0, 1) := by decide +kernel
theorem dX12_squaresLess_30 : decode cX12_squaresLess 30 = .ok (.iload 4, 2) := by decide +kernel
theorem dX12_squaresLess_32 : decode cX12_squaresLess 32 = .ok (.invokevirtual 374, 3) := by decide +kernel
theorem dX12_squaresLess_35 : decode cX12_squaresLess 35 = .ok (.isub, 1) := by decide +kernel
theorem dX12_squaresLess_36 : decode cX12_squaresLess 36 = .ok (.i2l, 1) := by decide +kernel
theorem dX12_squaresLess_37 : decode cX12_squaresLess 37 = .ok (.lstore 5, 2) := by decide +kernel
theorem dX12_squaresLess_39 : decode cX12_squaresLess 39 = .ok (.lload_n 2, 1) := by decide +kernel
theorem dX12_squaresLess_40 : decode cX12_squaresLess 40 = .ok (.lload 5, 2) := by decide +kernel
theorem dX12_squaresLess_42 : decode cX12_squaresLess 42 = .ok (.lload 5, 2) := by decide +kernel
theorem dX12_squaresLess_44 : decode cX12_squaresLess 44 = .ok (.lmul, 1) := by decide +kernel
theorem dX12_squaresLess_45 : decode cX12_squaresLess 45 = .ok (.ladd, 1) := by decide +kernel
theorem dX12_squaresLess_46 : decode cX12_squaresLess 46 = .ok (.lstore_n 2, 1) := by decide +kernel
theorem dX12_squaresLess_47 : decode cX12_squaresLess 47 = .ok (.iinc 4 1, 3) := by decide +kernel
theorem dX12_squaresLess_50 : decode cX12_squaresLess 50 = .ok (.goto (-45), 3) := by decide +kernel
theorem dX12_squaresLess_18 : decode cX12_squaresLess 18 = .ok (.aload_n 0, 1) := by decide +kernel
theorem dX12_squaresLess_19 : decode cX12_squaresLess 19 = .ok (.getfield 100, 3) := by decide +kernel
theorem dX12_squaresLess_22 : decode cX12_squaresLess 22 = .ok (.iload 4, 2) := by decide +kernel
theorem dX12_squaresLess_24 : decode cX12_squaresLess 24 = .ok (.iaload, 1) := by decide +kernel
theorem dX12_squaresLess_25 : decode cX12_squaresLess 25 = .ok (.goto 4, 3) := by decide +kernel
theorem dX12_distance_12 : decode cX12_distance 12 = .ok (.goto 6, 3) := by decide +kernel
theorem dX12_slips_0 : decode cX12_slips 0 = .ok (.iload_n 1, 1) := by decide +kernel
theorem dX12_slips_1 : decode cX12_slips 1 = .ok (.i2l, 1) := by decide +kernel
theorem dX12_slips_2 : decode cX12_slips 2 = .ok (.lconst 0, 1) := by decide +kernel
theorem dX12_slips_3 : decode cX12_slips 3 = .ok (.ldc2_w 398, 3) := by decide +kernel
theorem dX12_slips_6 : decode cX12_slips 6 = .ok (.invokestatic 191, 3) := by decide +kernel
theorem dX12_slips_9 : decode cX12_slips 9 = .ok (.ifCond .eq 14, 3) := by decide +kernel
theorem dX12_slips_23 : decode cX12_slips 23 = .ok (.iconst (-1), 1) := by decide +kernel
theorem dX12_slips_24 : decode cX12_slips 24 = .ok (.ireturn, 1) := by decide +kernel
theorem dX12_slips_12 : decode cX12_slips 12 = .ok (.iload_n 2, 1) := by decide +kernel
theorem dX12_slips_13 : decode cX12_slips 13 = .ok (.ifCond .lt 10, 3) := by decide +kernel
theorem dX12_slips_16 : decode cX12_slips 16 = .ok (.aload_n 0, 1) := by decide +kernel
theorem dX12_slips_17 : decode cX12_slips 17 = .ok (.getfield 240, 3) := by decide +kernel
theorem dX12_slips_20 : decode cX12_slips 20 = .ok (.ifCond .ne 5, 3) := by decide +kernel
theorem dX12_slips_25 : decode cX12_slips 25 = .ok (.aload_n 0, 1) := by decide +kernel
theorem dX12_slips_26 : decode cX12_slips 26 = .ok (.iload_n 2, 1) := by decide +kernel
theorem dX12_slips_27 : decode cX12_slips 27 = .ok (.i2l, 1) := by decide +kernel
theorem dX12_slips_28 : decode cX12_slips 28 = .ok (.putfield 388, 3) := by decide +kernel
theorem dX12_slips_31 : decode cX12_slips 31 = .ok (.iconst 0, 1) := by decide +kernel
theorem dX12_slips_32 : decode cX12_slips 32 = .ok (.istore_n 3, 1) := by decide +kernel
theorem dX12_slips_33 : decode cX12_slips 33 = .ok (.iload_n 3, 1) := by decide +kernel
theorem dX12_slips_34 : decode cX12_slips 34 = .ok (.aload_n 0, 1) := by decide +kernel
theorem dX12_slips_35 : decode cX12_slips 35 = .ok (.getfield 240, 3) := by decide +kernel
theorem dX12_slips_38 : decode cX12_slips 38 = .ok (.if_icmp .ge 65, 3) := by decide +kernel
theorem dX12_slips_41 : decode cX12_slips 41 = .ok (.aload_n 0, 1) := by decide +kernel
theorem dX12_slips_42 : decode cX12_slips 42 = .ok (.getfield 100, 3) := by decide +kernel
theorem dX12_slips_45 : decode cX12_slips 45 = .ok (.iload_n 3, 1) := by decide +kernel
theorem dX12_slips_46 : decode cX12_slips 46 = .ok (.iaload, 1) := by decide +kernel
theorem dX12_slips_47 : decode cX12_slips 47 = .ok (.aload_n 0, 1) := by decide +kernel
theorem dX12_slips_48 : decode cX12_slips 48 = .ok (.iconst 2, 1) := by decide +kernel
theorem dX12_slips_49 : decode cX12_slips 49 = .ok (.iload_n 1, 1) := by decide +kernel
theorem dX12_slips_50 : decode cX12_slips 50 = .ok (.imul, 1) := by decide +kernel
theorem dX12_slips_51 : decode cX12_slips 51 = .ok (.iconst 1, 1) := by decide +kernel
theorem dX12_slips_52 : decode cX12_slips 52 = .ok (.iadd, 1) := by decide +kernel
theorem dX12_slips_53 : decode cX12_slips 53 = .ok (.invokevirtual 400, 3) := by decide +kernel
theorem dX12_drawOf_0 : decode cX12_drawOf 0 = .ok (.aload_n 0, 1) := by decide +kernel
theorem dX12_drawOf_1 : decode cX12_drawOf 1 = .ok (.ldc2_w 386, 3) := by decide +kernel
theorem dX12_drawOf_4 : decode cX12_drawOf 4 = .ok (.aload_n 0, 1) := by decide +kernel
theorem dX12_drawOf_5 : decode cX12_drawOf 5 = .ok (.getfield 388, 3) := by decide +kernel
theorem dX12_drawOf_8 : decode cX12_drawOf 8 = .ok (.lmul, 1) := by decide +kernel
theorem dX12_drawOf_9 : decode cX12_drawOf 9 = .ok (.ldc2_w 392, 3) := by decide +kernel
theorem dX12_drawOf_12 : decode cX12_drawOf 12 = .ok (.ladd, 1) := by decide +kernel
theorem dX12_drawOf_13 : decode cX12_drawOf 13 = .ok (.ldc2_w 394, 3) := by decide +kernel
theorem dX12_drawOf_16 : decode cX12_drawOf 16 = .ok (.lrem, 1) := by decide +kernel
theorem dX12_drawOf_17 : decode cX12_drawOf 17 = .ok (.putfield 388, 3) := by decide +kernel
theorem dX12_drawOf_20 : decode cX12_drawOf 20 = .ok (.aload_n 0, 1) := by decide +kernel
theorem dX12_drawOf_21 : decode cX12_drawOf 21 = .ok (.getfield 388, 3) := by decide +kernel
theorem dX12_drawOf_24 : decode cX12_drawOf 24 = .ok (.ldc2_w 396, 3) := by decide +kernel
theorem dX12_drawOf_27 : decode cX12_drawOf 27 = .ok (.ldiv, 1) := by decide +kernel
theorem dX12_drawOf_28 : decode cX12_drawOf 28 = .ok (.iload_n 1, 1) := by decide +kernel
theorem dX12_drawOf_29 : decode cX12_drawOf 29 = .ok (.i2l, 1) := by decide +kernel
theorem dX12_drawOf_30 : decode cX12_drawOf 30 = .ok (.lrem, 1) := by decide +kernel
theorem dX12_drawOf_31 : decode cX12_drawOf 31 = .ok (.l2i, 1) := by decide +kernel
theorem dX12_drawOf_32 : decode cX12_drawOf 32 = .ok (.ireturn, 1) := by decide +kernel
theorem dX12_slips_56 : decode cX12_slips 56 = .ok (.iadd, 1) := by decide +kernel
theorem dX12_slips_57 : decode cX12_slips 57 = .ok (.iload_n 1, 1) := by decide +kernel
theorem dX12_slips_58 : decode cX12_slips 58 = .ok (.isub, 1) := by decide +kernel
theorem dX12_slips_59 : decode cX12_slips 59 = .ok (.istore 4, 2) := by decide +kernel
theorem dX12_slips_61 : decode cX12_slips 61 = .ok (.aload_n 0, 1) := by decide +kernel
theorem dX12_slips_62 : decode cX12_slips 62 = .ok (.getfield 100, 3) := by decide +kernel
theorem dX12_slips_65 : decode cX12_slips 65 = .ok (.iload_n 3, 1) := by decide +kernel
theorem dX12_slips_66 : decode cX12_slips 66 = .ok (.iload 4, 2) := by decide +kernel
theorem dX12_slips_68 : decode cX12_slips 68 = .ok (.sipush 32767, 3) := by decide +kernel
theorem dX12_slips_71 : decode cX12_slips 71 = .ok (.if_icmp .le 9, 3) := by decide +kernel
theorem dX12_slips_80 : decode cX12_slips 80 = .ok (.iload 4, 2) := by decide +kernel
theorem dX12_slips_82 : decode cX12_slips 82 = .ok (.sipush (-32768), 3) := by decide +kernel
theorem dX12_slips_85 : decode cX12_slips 85 = .ok (.if_icmp .ge 9, 3) := by decide +kernel
theorem dX12_slips_94 : decode cX12_slips 94 = .ok (.iload 4, 2) := by decide +kernel
theorem dX12_slips_96 : decode cX12_slips 96 = .ok (.iastore, 1) := by decide +kernel
theorem dX12_slips_97 : decode cX12_slips 97 = .ok (.iinc 3 1, 3) := by decide +kernel
theorem dX12_slips_100 : decode cX12_slips 100 = .ok (.goto (-67), 3) := by decide +kernel
theorem dX12_slips_88 : decode cX12_slips 88 = .ok (.sipush (-32768), 3) := by decide +kernel
theorem dX12_slips_91 : decode cX12_slips 91 = .ok (.goto 5, 3) := by decide +kernel
theorem dX12_slips_74 : decode cX12_slips 74 = .ok (.sipush 32767, 3) := by decide +kernel
theorem dX12_slips_77 : decode cX12_slips 77 = .ok (.goto 19, 3) := by decide +kernel
theorem dX12_slips_103 : decode cX12_slips 103 = .ok (.aload_n 0, 1) := by decide +kernel
theorem dX12_slips_104 : decode cX12_slips 104 = .ok (.getfield 240, 3) := by decide +kernel
theorem dX12_slips_107 : decode cX12_slips 107 = .ok (.ireturn, 1) := by decide +kernel
theorem dX12_nearest_0 : decode cX12_nearest 0 = .ok (.aload_n 0, 1) := by decide +kernel
theorem dX12_nearest_1 : decode cX12_nearest 1 = .ok (.iload_n 2, 1) := by decide +kernel
theorem dX12_nearest_2 : decode cX12_nearest 2 = .ok (.invokevirtual 361, 3) := by decide +kernel
theorem dX12_nearest_5 : decode cX12_nearest 5 = .ok (.ifCond .eq 11, 3) := by decide +kernel
theorem dX12_nearest_16 : decode cX12_nearest 16 = .ok (.ldc_w 364, 3) := by decide +kernel
theorem dX12_nearest_19 : decode cX12_nearest 19 = .ok (.ireturn, 1) := by decide +kernel
theorem dX12_nearest_8 : decode cX12_nearest 8 = .ok (.aload_n 0, 1) := by decide +kernel
theorem dX12_nearest_9 : decode cX12_nearest 9 = .ok (.iload_n 1, 1) := by decide +kernel
theorem dX12_nearest_10 : decode cX12_nearest 10 = .ok (.invokevirtual 416, 3) := by decide +kernel
theorem dX12_isNear_0 : decode cX12_isNear 0 = .ok (.iload_n 1, 1) := by decide +kernel
theorem dX12_isNear_1 : decode cX12_isNear 1 = .ok (.i2l, 1) := by decide +kernel
theorem dX12_isNear_2 : decode cX12_isNear 2 = .ok (.lconst 0, 1) := by decide +kernel
theorem dX12_isNear_3 : decode cX12_isNear 3 = .ok (.ldc2_w 332, 3) := by decide +kernel
theorem dX12_isNear_6 : decode cX12_isNear 6 = .ok (.invokestatic 191, 3) := by decide +kernel
theorem dX12_isNear_9 : decode cX12_isNear 9 = .ok (.ifCond .eq 20, 3) := by decide +kernel
theorem dX12_isNear_29 : decode cX12_isNear 29 = .ok (.iconst 0, 1) := by decide +kernel
theorem dX12_isNear_30 : decode cX12_isNear 30 = .ok (.ireturn, 1) := by decide +kernel
theorem dX12_isNear_12 : decode cX12_isNear 12 = .ok (.aload_n 0, 1) := by decide +kernel
theorem dX12_isNear_13 : decode cX12_isNear 13 = .ok (.iload_n 1, 1) := by decide +kernel
theorem dX12_isNear_14 : decode cX12_isNear 14 = .ok (.iconst 1, 1) := by decide +kernel
theorem dX12_isNear_15 : decode cX12_isNear 15 = .ok (.iadd, 1) := by decide +kernel
theorem dX12_isNear_16 : decode cX12_isNear 16 = .ok (.invokevirtual 413, 3) := by decide +kernel
theorem dX12_nears_0 : decode cX12_nears 0 = .ok (.iconst 0, 1) := by decide +kernel
theorem dX12_nears_1 : decode cX12_nears 1 = .ok (.istore_n 2, 1) := by decide +kernel
theorem dX12_nears_2 : decode cX12_nears 2 = .ok (.iconst 0, 1) := by decide +kernel
theorem dX12_nears_3 : decode cX12_nears 3 = .ok (.istore_n 3, 1) := by decide +kernel
theorem dX12_nears_4 : decode cX12_nears 4 = .ok (.iload_n 3, 1) := by decide +kernel
theorem dX12_nears_5 : decode cX12_nears 5 = .ok (.aload_n 0, 1) := by decide +kernel
theorem dX12_nears_6 : decode cX12_nears 6 = .ok (.invokevirtual 406, 3) := by decide +kernel
theorem dX12_rowMany_0 : decode cX12_rowMany 0 = .ok (.aload_n 0, 1) := by decide +kernel
theorem dX12_rowMany_1 : decode cX12_rowMany 1 = .ok (.getfield 237, 3) := by decide +kernel
theorem dX12_rowMany_4 : decode cX12_rowMany 4 = .ok (.ifCond .ne 5, 3) := by decide +kernel
theorem dX12_rowMany_9 : decode cX12_rowMany 9 = .ok (.iconst 1, 1) := by decide +kernel
theorem dX12_rowMany_10 : decode cX12_rowMany 10 = .ok (.istore_n 1, 1) := by decide +kernel
theorem dX12_rowMany_11 : decode cX12_rowMany 11 = .ok (.iconst 0, 1) := by decide +kernel
theorem dX12_rowMany_12 : decode cX12_rowMany 12 = .ok (.istore_n 2, 1) := by decide +kernel
theorem dX12_rowMany_13 : decode cX12_rowMany 13 = .ok (.iload_n 2, 1) := by decide +kernel
theorem dX12_rowMany_14 : decode cX12_rowMany 14 = .ok (.aload_n 0, 1) := by decide +kernel
theorem dX12_rowMany_15 : decode cX12_rowMany 15 = .ok (.getfield 237, 3) := by decide +kernel
theorem dX12_rowMany_18 : decode cX12_rowMany 18 = .ok (.if_icmp .ge 16, 3) := by decide +kernel
theorem dX12_rowMany_21 : decode cX12_rowMany 21 = .ok (.iload_n 1, 1) := by decide +kernel
theorem dX12_rowMany_22 : decode cX12_rowMany 22 = .ok (.aload_n 0, 1) := by decide +kernel
theorem dX12_rowMany_23 : decode cX12_rowMany 23 = .ok (.getfield 234, 3) := by decide +kernel
theorem dX12_rowMany_26 : decode cX12_rowMany 26 = .ok (.imul, 1) := by decide +kernel
theorem dX12_rowMany_27 : decode cX12_rowMany 27 = .ok (.istore_n 1, 1) := by decide +kernel
theorem dX12_rowMany_28 : decode cX12_rowMany 28 = .ok (.iinc 2 1, 3) := by decide +kernel
theorem dX12_rowMany_31 : decode cX12_rowMany 31 = .ok (.goto (-18), 3) := by decide +kernel
theorem dX12_rowMany_34 : decode cX12_rowMany 34 = .ok (.iload_n 1, 1) := by decide +kernel
theorem dX12_rowMany_35 : decode cX12_rowMany 35 = .ok (.ireturn, 1) := by decide +kernel
theorem dX12_rowMany_7 : decode cX12_rowMany 7 = .ok (.iconst 0, 1) := by decide +kernel
theorem dX12_rowMany_8 : decode cX12_rowMany 8 = .ok (.ireturn, 1) := by decide +kernel
theorem dX12_nears_9 : decode cX12_nears 9 = .ok (.if_icmp .ge 126, 3) := by decide +kernel
theorem dX12_nears_135 : decode cX12_nears 135 = .ok (.iload_n 2, 1) := by decide +kernel
theorem dX12_nears_136 : decode cX12_nears 136 = .ok (.ireturn, 1) := by decide +kernel
theorem dX12_nears_12 : decode cX12_nears 12 = .ok (.aload_n 0, 1) := by decide +kernel
theorem dX12_nears_13 : decode cX12_nears 13 = .ok (.iload_n 3, 1) := by decide +kernel
theorem dX12_nears_14 : decode cX12_nears 14 = .ok (.invokevirtual 409, 3) := by decide +kernel
theorem dX12_distanceOf_0 : decode cX12_distanceOf 0 = .ok (.aload_n 0, 1) := by decide +kernel
theorem dX12_distanceOf_1 : decode cX12_distanceOf 1 = .ok (.iload_n 1, 1) := by decide +kernel
theorem dX12_distanceOf_2 : decode cX12_distanceOf 2 = .ok (.invokevirtual 403, 3) := by decide +kernel
theorem dX12_rowIs_0 : decode cX12_rowIs 0 = .ok (.iload_n 1, 1) := by decide +kernel
theorem dX12_rowIs_1 : decode cX12_rowIs 1 = .ok (.istore_n 2, 1) := by decide +kernel
theorem dX12_rowIs_2 : decode cX12_rowIs 2 = .ok (.aload_n 0, 1) := by decide +kernel
theorem dX12_rowIs_3 : decode cX12_rowIs 3 = .ok (.getfield 237, 3) := by decide +kernel
theorem dX12_rowIs_6 : decode cX12_rowIs 6 = .ok (.iconst 1, 1) := by decide +kernel
theorem dX12_rowIs_7 : decode cX12_rowIs 7 = .ok (.isub, 1) := by decide +kernel
theorem dX12_rowIs_8 : decode cX12_rowIs 8 = .ok (.istore_n 3, 1) := by decide +kernel
theorem dX12_rowIs_9 : decode cX12_rowIs 9 = .ok (.iload_n 3, 1) := by decide +kernel
theorem dX12_rowIs_10 : decode cX12_rowIs 10 = .ok (.ifCond .lt 37, 3) := by decide +kernel
theorem dX12_rowIs_47 : decode cX12_rowIs 47 = .ok (.return_, 1) := by decide +kernel
theorem dX12_rowIs_13 : decode cX12_rowIs 13 = .ok (.aload_n 0, 1) := by decide +kernel
theorem dX12_rowIs_14 : decode cX12_rowIs 14 = .ok (.getfield 103, 3) := by decide +kernel
theorem dX12_rowIs_17 : decode cX12_rowIs 17 = .ok (.iload_n 3, 1) := by decide +kernel
theorem dX12_rowIs_18 : decode cX12_rowIs 18 = .ok (.iconst 2, 1) := by decide +kernel
theorem dX12_rowIs_19 : decode cX12_rowIs 19 = .ok (.iload_n 2, 1) := by decide +kernel
theorem dX12_rowIs_20 : decode cX12_rowIs 20 = .ok (.aload_n 0, 1) := by decide +kernel
theorem dX12_rowIs_21 : decode cX12_rowIs 21 = .ok (.getfield 234, 3) := by decide +kernel
theorem dX12_rowIs_24 : decode cX12_rowIs 24 = .ok (.irem, 1) := by decide +kernel
theorem dX12_rowIs_25 : decode cX12_rowIs 25 = .ok (.imul, 1) := by decide +kernel
theorem dX12_rowIs_26 : decode cX12_rowIs 26 = .ok (.aload_n 0, 1) := by decide +kernel
theorem dX12_rowIs_27 : decode cX12_rowIs 27 = .ok (.getfield 234, 3) := by decide +kernel
theorem dX12_rowIs_30 : decode cX12_rowIs 30 = .ok (.isub, 1) := by decide +kernel
theorem dX12_rowIs_31 : decode cX12_rowIs 31 = .ok (.iconst 1, 1) := by decide +kernel
theorem dX12_rowIs_32 : decode cX12_rowIs 32 = .ok (.iadd, 1) := by decide +kernel
theorem dX12_rowIs_33 : decode cX12_rowIs 33 = .ok (.iastore, 1) := by decide +kernel
theorem dX12_rowIs_34 : decode cX12_rowIs 34 = .ok (.iload_n 2, 1) := by decide +kernel
theorem dX12_rowIs_35 : decode cX12_rowIs 35 = .ok (.aload_n 0, 1) := by decide +kernel
theorem dX12_rowIs_36 : decode cX12_rowIs 36 = .ok (.getfield 234, 3) := by decide +kernel
theorem dX12_rowIs_39 : decode cX12_rowIs 39 = .ok (.idiv, 1) := by decide +kernel
theorem dX12_rowIs_40 : decode cX12_rowIs 40 = .ok (.istore_n 2, 1) := by decide +kernel
theorem dX12_rowIs_41 : decode cX12_rowIs 41 = .ok (.iinc 3 (-1), 3) := by decide +kernel
theorem dX12_rowIs_44 : decode cX12_rowIs 44 = .ok (.goto (-35), 3) := by decide +kernel
theorem dX12_distanceOf_5 : decode cX12_distanceOf 5 = .ok (.aload_n 0, 1) := by decide +kernel
theorem dX12_distanceOf_6 : decode cX12_distanceOf 6 = .ok (.iconst 1, 1) := by decide +kernel
theorem dX12_distanceOf_7 : decode cX12_distanceOf 7 = .ok (.invokevirtual 380, 3) := by decide +kernel
theorem dX12_distanceOf_10 : decode cX12_distanceOf 10 = .ok (.lreturn, 1) := by decide +kernel
theorem dX12_nears_17 : decode cX12_nears 17 = .ok (.lstore 4, 2) := by decide +kernel
theorem dX12_nears_19 : decode cX12_nears 19 = .ok (.iload_n 2, 1) := by decide +kernel
theorem dX12_nears_20 : decode cX12_nears 20 = .ok (.iload_n 1, 1) := by decide +kernel
theorem dX12_nears_21 : decode cX12_nears 21 = .ok (.if_icmp .ne 20, 3) := by decide +kernel
theorem dX12_nears_41 : decode cX12_nears 41 = .ok (.iload_n 2, 1) := by decide +kernel
theorem dX12_nears_42 : decode cX12_nears 42 = .ok (.iload_n 1, 1) := by decide +kernel
theorem dX12_nears_43 : decode cX12_nears 43 = .ok (.if_icmp .ge 6, 3) := by decide +kernel
theorem dX12_nears_46 : decode cX12_nears 46 = .ok (.iinc 2 1, 3) := by decide +kernel
theorem dX12_nears_49 : decode cX12_nears 49 = .ok (.iload_n 2, 1) := by decide +kernel
theorem dX12_nears_50 : decode cX12_nears 50 = .ok (.iconst 1, 1) := by decide +kernel
theorem dX12_nears_51 : decode cX12_nears 51 = .ok (.isub, 1) := by decide +kernel
theorem dX12_nears_52 : decode cX12_nears 52 = .ok (.istore 6, 2) := by decide +kernel
theorem dX12_nears_54 : decode cX12_nears 54 = .ok (.iload 6, 2) := by decide +kernel
theorem dX12_nears_56 : decode cX12_nears 56 = .ok (.ifCond .le 56, 3) := by decide +kernel
theorem dX12_nears_112 : decode cX12_nears 112 = .ok (.aload_n 0, 1) := by decide +kernel
theorem dX12_nears_113 : decode cX12_nears 113 = .ok (.getfield 106, 3) := by decide +kernel
theorem dX12_nears_116 : decode cX12_nears 116 = .ok (.iload 6, 2) := by decide +kernel
theorem dX12_nears_118 : decode cX12_nears 118 = .ok (.lload 4, 2) := by decide +kernel
theorem dX12_nears_120 : decode cX12_nears 120 = .ok (.lastore, 1) := by decide +kernel
theorem dX12_nears_121 : decode cX12_nears 121 = .ok (.aload_n 0, 1) := by decide +kernel
theorem dX12_nears_122 : decode cX12_nears 122 = .ok (.getfield 109, 3) := by decide +kernel
theorem dX12_nears_125 : decode cX12_nears 125 = .ok (.iload 6, 2) := by decide +kernel
theorem dX12_nears_127 : decode cX12_nears 127 = .ok (.iload_n 3, 1) := by decide +kernel
theorem dX12_nears_128 : decode cX12_nears 128 = .ok (.iastore, 1) := by decide +kernel
theorem dX12_nears_129 : decode cX12_nears 129 = .ok (.iinc 3 1, 3) := by decide +kernel
theorem dX12_nears_132 : decode cX12_nears 132 = .ok (.goto (-128), 3) := by decide +kernel
theorem dX12_nears_59 : decode cX12_nears 59 = .ok (.aload_n 0, 1) := by decide +kernel
theorem dX12_nears_60 : decode cX12_nears 60 = .ok (.getfield 106, 3) := by decide +kernel
theorem dX12_nears_63 : decode cX12_nears 63 = .ok (.iload 6, 2) := by decide +kernel
theorem dX12_nears_65 : decode cX12_nears 65 = .ok (.iconst 1, 1) := by decide +kernel
theorem dX12_nears_66 : decode cX12_nears 66 = .ok (.isub, 1) := by decide +kernel
theorem dX12_nears_67 : decode cX12_nears 67 = .ok (.laload, 1) := by decide +kernel
theorem dX12_nears_68 : decode cX12_nears 68 = .ok (.lload 4, 2) := by decide +kernel
theorem dX12_nears_70 : decode cX12_nears 70 = .ok (.lcmp, 1) := by decide +kernel
theorem dX12_nears_71 : decode cX12_nears 71 = .ok (.ifCond .le 41, 3) := by decide +kernel
theorem dX12_nears_74 : decode cX12_nears 74 = .ok (.aload_n 0, 1) := by decide +kernel
theorem dX12_nears_75 : decode cX12_nears 75 = .ok (.getfield 106, 3) := by decide +kernel
theorem dX12_nears_78 : decode cX12_nears 78 = .ok (.iload 6, 2) := by decide +kernel
theorem dX12_nears_80 : decode cX12_nears 80 = .ok (.aload_n 0, 1) := by decide +kernel
theorem dX12_nears_81 : decode cX12_nears 81 = .ok (.getfield 106, 3) := by decide +kernel
theorem dX12_nears_84 : decode cX12_nears 84 = .ok (.iload 6, 2) := by decide +kernel
theorem dX12_nears_86 : decode cX12_nears 86 = .ok (.iconst 1, 1) := by decide +kernel
theorem dX12_nears_87 : decode cX12_nears 87 = .ok (.isub, 1) := by decide +kernel
theorem dX12_nears_88 : decode cX12_nears 88 = .ok (.laload, 1) := by decide +kernel
theorem dX12_nears_89 : decode cX12_nears 89 = .ok (.lastore, 1) := by decide +kernel
theorem dX12_nears_90 : decode cX12_nears 90 = .ok (.aload_n 0, 1) := by decide +kernel
theorem dX12_nears_91 : decode cX12_nears 91 = .ok (.getfield 109, 3) := by decide +kernel
theorem dX12_nears_94 : decode cX12_nears 94 = .ok (.iload 6, 2) := by decide +kernel
theorem dX12_nears_96 : decode cX12_nears 96 = .ok (.aload_n 0, 1) := by decide +kernel
theorem dX12_nears_97 : decode cX12_nears 97 = .ok (.getfield 109, 3) := by decide +kernel
theorem dX12_nears_100 : decode cX12_nears 100 = .ok (.iload 6, 2) := by decide +kernel
theorem dX12_nears_102 : decode cX12_nears 102 = .ok (.iconst 1, 1) := by decide +kernel
theorem dX12_nears_103 : decode cX12_nears 103 = .ok (.isub, 1) := by decide +kernel
theorem dX12_nears_104 : decode cX12_nears 104 = .ok (.iaload, 1) := by decide +kernel
theorem dX12_nears_105 : decode cX12_nears 105 = .ok (.iastore, 1) := by decide +kernel
theorem dX12_nears_106 : decode cX12_nears 106 = .ok (.iinc 6 (-1), 3) := by decide +kernel
theorem dX12_nears_109 : decode cX12_nears 109 = .ok (.goto (-55), 3) := by decide +kernel
theorem dX12_nears_24 : decode cX12_nears 24 = .ok (.lload 4, 2) := by decide +kernel
theorem dX12_nears_26 : decode cX12_nears 26 = .ok (.aload_n 0, 1) := by decide +kernel
theorem dX12_nears_27 : decode cX12_nears 27 = .ok (.getfield 106, 3) := by decide +kernel
theorem dX12_nears_30 : decode cX12_nears 30 = .ok (.iload_n 2, 1) := by decide +kernel
theorem dX12_nears_31 : decode cX12_nears 31 = .ok (.iconst 1, 1) := by decide +kernel
theorem dX12_nears_32 : decode cX12_nears 32 = .ok (.isub, 1) := by decide +kernel
theorem dX12_nears_33 : decode cX12_nears 33 = .ok (.laload, 1) := by decide +kernel
theorem dX12_nears_34 : decode cX12_nears 34 = .ok (.lcmp, 1) := by decide +kernel
theorem dX12_nears_35 : decode cX12_nears 35 = .ok (.ifCond .lt 6, 3) := by decide +kernel
theorem dX12_nears_38 : decode cX12_nears 38 = .ok (.goto 91, 3) := by decide +kernel
theorem dX12_isNear_19 : decode cX12_isNear 19 = .ok (.iload_n 1, 1) := by decide +kernel
theorem dX12_isNear_20 : decode cX12_isNear 20 = .ok (.iconst 1, 1) := by decide +kernel
theorem dX12_isNear_21 : decode cX12_isNear 21 = .ok (.iadd, 1) := by decide +kernel
theorem dX12_isNear_22 : decode cX12_isNear 22 = .ok (.if_icmp .ne 7, 3) := by decide +kernel
theorem dX12_isNear_25 : decode cX12_isNear 25 = .ok (.iconst 1, 1) := by decide +kernel
theorem dX12_isNear_26 : decode cX12_isNear 26 = .ok (.goto 4, 3) := by decide +kernel
theorem dX12_nearest_13 : decode cX12_nearest 13 = .ok (.ifCond .ne 7, 3) := by decide +kernel
theorem dX12_nearest_20 : decode cX12_nearest 20 = .ok (.aload_n 0, 1) := by decide +kernel
theorem dX12_nearest_21 : decode cX12_nearest 21 = .ok (.aload_n 0, 1) := by decide +kernel
theorem dX12_nearest_22 : decode cX12_nearest 22 = .ok (.getfield 109, 3) := by decide +kernel
theorem dX12_nearest_25 : decode cX12_nearest 25 = .ok (.iload_n 1, 1) := by decide +kernel
theorem dX12_nearest_26 : decode cX12_nearest 26 = .ok (.iaload, 1) := by decide +kernel
theorem dX12_nearest_27 : decode cX12_nearest 27 = .ok (.invokevirtual 403, 3) := by decide +kernel
theorem dX12_nearest_30 : decode cX12_nearest 30 = .ok (.aload_n 0, 1) := by decide +kernel
theorem dX12_nearest_31 : decode cX12_nearest 31 = .ok (.getfield 103, 3) := by decide +kernel
theorem dX12_nearest_34 : decode cX12_nearest 34 = .ok (.iload_n 2, 1) := by decide +kernel
theorem dX12_nearest_35 : decode cX12_nearest 35 = .ok (.iaload, 1) := by decide +kernel
theorem dX12_nearest_36 : decode cX12_nearest 36 = .ok (.ireturn, 1) := by decide +kernel
theorem dX12_near_0 : decode cX12_near 0 = .ok (.aload_n 0, 1) := by decide +kernel
theorem dX12_near_1 : decode cX12_near 1 = .ok (.iload_n 1, 1) := by decide +kernel
theorem dX12_near_2 : decode cX12_near 2 = .ok (.invokevirtual 416, 3) := by decide +kernel
theorem dX12_near_5 : decode cX12_near 5 = .ok (.ifCond .eq 12, 3) := by decide +kernel
theorem dX12_near_17 : decode cX12_near 17 = .ok (.ldc2_w 384, 3) := by decide +kernel
theorem dX12_near_20 : decode cX12_near 20 = .ok (.lreturn, 1) := by decide +kernel
theorem dX12_near_8 : decode cX12_near 8 = .ok (.aload_n 0, 1) := by decide +kernel
theorem dX12_near_9 : decode cX12_near 9 = .ok (.getfield 106, 3) := by decide +kernel
theorem dX12_near_12 : decode cX12_near 12 = .ok (.iload_n 1, 1) := by decide +kernel
theorem dX12_near_13 : decode cX12_near 13 = .ok (.laload, 1) := by decide +kernel
theorem dX12_near_14 : decode cX12_near 14 = .ok (.goto 6, 3) := by decide +kernel
theorem dX12_within_0 : decode cX12_within 0 = .ok (.lload_n 1, 1) := by decide +kernel
theorem dX12_within_1 : decode cX12_within 1 = .ok (.lconst 0, 1) := by decide +kernel
theorem dX12_within_2 : decode cX12_within 2 = .ok (.lcmp, 1) := by decide +kernel
theorem dX12_within_3 : decode cX12_within 3 = .ok (.ifCond .ge 5, 3) := by decide +kernel
theorem dX12_within_8 : decode cX12_within 8 = .ok (.iconst 0, 1) := by decide +kernel
theorem dX12_within_9 : decode cX12_within 9 = .ok (.istore_n 3, 1) := by decide +kernel
theorem dX12_within_10 : decode cX12_within 10 = .ok (.iconst 0, 1) := by decide +kernel
theorem dX12_within_11 : decode cX12_within 11 = .ok (.istore 4, 2) := by decide +kernel
theorem dX12_within_13 : decode cX12_within 13 = .ok (.iload 4, 2) := by decide +kernel
theorem dX12_within_15 : decode cX12_within 15 = .ok (.aload_n 0, 1) := by decide +kernel
theorem dX12_within_16 : decode cX12_within 16 = .ok (.invokevirtual 406, 3) := by decide +kernel
theorem dX12_within_19 : decode cX12_within 19 = .ok (.if_icmp .ge 23, 3) := by decide +kernel
theorem dX12_within_42 : decode cX12_within 42 = .ok (.iload_n 3, 1) := by decide +kernel
theorem dX12_within_43 : decode cX12_within 43 = .ok (.ireturn, 1) := by decide +kernel
theorem dX12_within_22 : decode cX12_within 22 = .ok (.aload_n 0, 1) := by decide +kernel
theorem dX12_within_23 : decode cX12_within 23 = .ok (.iload 4, 2) := by decide +kernel
theorem dX12_within_25 : decode cX12_within 25 = .ok (.invokevirtual 409, 3) := by decide +kernel
theorem dX12_within_28 : decode cX12_within 28 = .ok (.lload_n 1, 1) := by decide +kernel
theorem dX12_within_29 : decode cX12_within 29 = .ok (.lcmp, 1) := by decide +kernel
theorem dX12_within_30 : decode cX12_within 30 = .ok (.ifCond .gt 6, 3) := by decide +kernel
theorem dX12_within_36 : decode cX12_within 36 = .ok (.iinc 4 1, 3) := by decide +kernel
theorem dX12_within_39 : decode cX12_within 39 = .ok (.goto (-26), 3) := by decide +kernel
theorem dX12_within_33 : decode cX12_within 33 = .ok (.iinc 3 1, 3) := by decide +kernel
theorem dX12_within_6 : decode cX12_within 6 = .ok (.iconst (-1), 1) := by decide +kernel
theorem dX12_within_7 : decode cX12_within 7 = .ok (.ireturn, 1) := by decide +kernel
theorem dX12_cancel_0 : decode cX12_cancel 0 = .ok (.aload_n 0, 1) := by decide +kernel
theorem dX12_cancel_1 : decode cX12_cancel 1 = .ok (.iload_n 1, 1) := by decide +kernel
theorem dX12_cancel_2 : decode cX12_cancel 2 = .ok (.invokevirtual 361, 3) := by decide +kernel
theorem dX12_cancel_5 : decode cX12_cancel 5 = .ok (.ifCond .ne 7, 3) := by decide +kernel
theorem dX12_cancel_12 : decode cX12_cancel 12 = .ok (.aload_n 0, 1) := by decide +kernel
theorem dX12_cancel_13 : decode cX12_cancel 13 = .ok (.invokevirtual 426, 3) := by decide +kernel
theorem dX12_cancels_0 : decode cX12_cancels 0 = .ok (.aload_n 0, 1) := by decide +kernel
theorem dX12_cancels_1 : decode cX12_cancels 1 = .ok (.invokevirtual 419, 3) := by decide +kernel
theorem dX12_orders_0 : decode cX12_orders 0 = .ok (.iconst 0, 1) := by decide +kernel
theorem dX12_orders_1 : decode cX12_orders 1 = .ok (.istore_n 1, 1) := by decide +kernel
theorem dX12_orders_2 : decode cX12_orders 2 = .ok (.iload_n 1, 1) := by decide +kernel
theorem dX12_orders_3 : decode cX12_orders 3 = .ok (.aload_n 0, 1) := by decide +kernel
theorem dX12_orders_4 : decode cX12_orders 4 = .ok (.getfield 237, 3) := by decide +kernel
theorem dX12_orders_7 : decode cX12_orders 7 = .ok (.if_icmp .ge 80, 3) := by decide +kernel
theorem dX12_orders_87 : decode cX12_orders 87 = .ok (.return_, 1) := by decide +kernel
theorem dX12_orders_10 : decode cX12_orders 10 = .ok (.iconst 0, 1) := by decide +kernel
theorem dX12_orders_11 : decode cX12_orders 11 = .ok (.istore_n 2, 1) := by decide +kernel
theorem dX12_orders_12 : decode cX12_orders 12 = .ok (.iconst 0, 1) := by decide +kernel
theorem dX12_orders_13 : decode cX12_orders 13 = .ok (.istore_n 3, 1) := by decide +kernel
theorem dX12_orders_14 : decode cX12_orders 14 = .ok (.iload_n 3, 1) := by decide +kernel
theorem dX12_orders_15 : decode cX12_orders 15 = .ok (.aload_n 0, 1) := by decide +kernel
theorem dX12_orders_16 : decode cX12_orders 16 = .ok (.getfield 237, 3) := by decide +kernel
theorem dX12_orders_19 : decode cX12_orders 19 = .ok (.if_icmp .ge 55, 3) := by decide +kernel
theorem dX12_orders_22 : decode cX12_orders 22 = .ok (.aload_n 0, 1) := by decide +kernel
theorem dX12_orders_23 : decode cX12_orders 23 = .ok (.iload_n 3, 1) := by decide +kernel
theorem dX12_orders_24 : decode cX12_orders 24 = .ok (.iload_n 3, 1) := by decide +kernel
theorem dX12_orders_25 : decode cX12_orders 25 = .ok (.aload_n 0, 1) := by decide +kernel
theorem dX12_orders_26 : decode cX12_orders 26 = .ok (.getfield 69, 3) := by decide +kernel
theorem dX12_orders_29 : decode cX12_orders 29 = .ok (.invokevirtual 334, 3) := by decide +kernel
theorem dX12_orders_32 : decode cX12_orders 32 = .ok (.istore 4, 2) := by decide +kernel
theorem dX12_orders_34 : decode cX12_orders 34 = .ok (.aload_n 0, 1) := by decide +kernel
theorem dX12_orders_35 : decode cX12_orders 35 = .ok (.iload_n 1, 1) := by decide +kernel
theorem dX12_orders_36 : decode cX12_orders 36 = .ok (.iload_n 1, 1) := by decide +kernel
theorem dX12_orders_37 : decode cX12_orders 37 = .ok (.aload_n 0, 1) := by decide +kernel
theorem dX12_orders_38 : decode cX12_orders 38 = .ok (.getfield 69, 3) := by decide +kernel
theorem dX12_orders_41 : decode cX12_orders 41 = .ok (.invokevirtual 334, 3) := by decide +kernel
theorem dX12_orders_44 : decode cX12_orders 44 = .ok (.istore 5, 2) := by decide +kernel
theorem dX12_orders_46 : decode cX12_orders 46 = .ok (.iload 4, 2) := by decide +kernel
theorem dX12_orders_48 : decode cX12_orders 48 = .ok (.iload 5, 2) := by decide +kernel
theorem dX12_orders_50 : decode cX12_orders 50 = .ok (.if_icmp .gt 15, 3) := by decide +kernel
theorem dX12_orders_65 : decode cX12_orders 65 = .ok (.iinc 2 1, 3) := by decide +kernel
theorem dX12_orders_68 : decode cX12_orders 68 = .ok (.iinc 3 1, 3) := by decide +kernel
theorem dX12_orders_71 : decode cX12_orders 71 = .ok (.goto (-57), 3) := by decide +kernel
theorem dX12_orders_53 : decode cX12_orders 53 = .ok (.iload 4, 2) := by decide +kernel
theorem dX12_orders_55 : decode cX12_orders 55 = .ok (.iload 5, 2) := by decide +kernel
theorem dX12_orders_57 : decode cX12_orders 57 = .ok (.if_icmp .ne 11, 3) := by decide +kernel
theorem dX12_orders_60 : decode cX12_orders 60 = .ok (.iload_n 3, 1) := by decide +kernel
theorem dX12_orders_61 : decode cX12_orders 61 = .ok (.iload_n 1, 1) := by decide +kernel
theorem dX12_orders_62 : decode cX12_orders 62 = .ok (.if_icmp .ge 6, 3) := by decide +kernel
theorem dX12_orders_74 : decode cX12_orders 74 = .ok (.aload_n 0, 1) := by decide +kernel
theorem dX12_orders_75 : decode cX12_orders 75 = .ok (.getfield 112, 3) := by decide +kernel
theorem dX12_orders_78 : decode cX12_orders 78 = .ok (.iload_n 2, 1) := by decide +kernel
theorem dX12_orders_79 : decode cX12_orders 79 = .ok (.iload_n 1, 1) := by decide +kernel
theorem dX12_orders_80 : decode cX12_orders 80 = .ok (.iastore, 1) := by decide +kernel
theorem dX12_orders_81 : decode cX12_orders 81 = .ok (.iinc 1 1, 3) := by decide +kernel
theorem dX12_orders_84 : decode cX12_orders 84 = .ok (.goto (-82), 3) := by decide +kernel
theorem dX12_cancels_4 : decode cX12_cancels 4 = .ok (.iconst 0, 1) := by decide +kernel
theorem dX12_cancels_5 : decode cX12_cancels 5 = .ok (.istore_n 1, 1) := by decide +kernel
theorem dX12_cancels_6 : decode cX12_cancels 6 = .ok (.iload_n 1, 1) := by decide +kernel
theorem dX12_cancels_7 : decode cX12_cancels 7 = .ok (.aload_n 0, 1) := by decide +kernel
theorem dX12_cancels_8 : decode cX12_cancels 8 = .ok (.getfield 240, 3) := by decide +kernel
theorem dX12_cancels_11 : decode cX12_cancels 11 = .ok (.if_icmp .ge 22, 3) := by decide +kernel
theorem dX12_cancels_33 : decode cX12_cancels 33 = .ok (.iconst 0, 1) := by decide +kernel
theorem dX12_cancels_34 : decode cX12_cancels 34 = .ok (.istore_n 1, 1) := by decide +kernel
theorem dX12_cancels_35 : decode cX12_cancels 35 = .ok (.iload_n 1, 1) := by decide +kernel
theorem dX12_cancels_36 : decode cX12_cancels 36 = .ok (.aload_n 0, 1) := by decide +kernel
theorem dX12_cancels_37 : decode cX12_cancels 37 = .ok (.getfield 237, 3) := by decide +kernel
