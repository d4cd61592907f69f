theorem dX11_image_92 : decode cX11_image 92 = .ok (.iload_n 3, 1) := by decide +kernel
theorem dX11_image_93 : decode cX11_image 93 = .ok (.iaload, 1) := by decide +kernel
theorem dX11_image_94 : decode cX11_image 94 = .ok (.invokestatic 404, 3) := by decide +kernel
theorem dX11_checkWith_0 : decode cX11_checkWith 0 = .ok (.bipush 7, 2) := by decide +kernel
theorem dX11_checkWith_2 : decode cX11_checkWith 2 = .ok (.iload_n 0, 1) := by decide +kernel
theorem dX11_checkWith_3 : decode cX11_checkWith 3 = .ok (.imul, 1) := by decide +kernel
theorem dX11_checkWith_4 : decode cX11_checkWith 4 = .ok (.iload_n 1, 1) := by decide +kernel
theorem dX11_checkWith_5 : decode cX11_checkWith 5 = .ok (.iadd, 1) := by decide +kernel
theorem dX11_checkWith_6 : decode cX11_checkWith 6 = .ok (.sipush 253, 3) := by decide +kernel
theorem dX11_checkWith_9 : decode cX11_checkWith 9 = .ok (.irem, 1) := by decide +kernel
theorem dX11_checkWith_10 : decode cX11_checkWith 10 = .ok (.ireturn, 1) := by decide +kernel
theorem dX11_image_97 : decode cX11_image 97 = .ok (.istore_n 2, 1) := by decide +kernel
theorem dX11_image_98 : decode cX11_image 98 = .ok (.iinc 3 1, 3) := by decide +kernel
theorem dX11_image_101 : decode cX11_image 101 = .ok (.goto (-19), 3) := by decide +kernel
theorem dX11_image_104 : decode cX11_image 104 = .ok (.aload_n 0, 1) := by decide +kernel
theorem dX11_image_105 : decode cX11_image 105 = .ok (.getfield 59, 3) := by decide +kernel
theorem dX11_image_108 : decode cX11_image 108 = .ok (.iload_n 1, 1) := by decide +kernel
theorem dX11_image_109 : decode cX11_image 109 = .ok (.iload_n 2, 1) := by decide +kernel
theorem dX11_image_110 : decode cX11_image 110 = .ok (.iastore, 1) := by decide +kernel
theorem dX11_image_111 : decode cX11_image 111 = .ok (.aload_n 0, 1) := by decide +kernel
theorem dX11_image_112 : decode cX11_image 112 = .ok (.iload_n 1, 1) := by decide +kernel
theorem dX11_image_113 : decode cX11_image 113 = .ok (.iconst 1, 1) := by decide +kernel
theorem dX11_image_114 : decode cX11_image 114 = .ok (.iadd, 1) := by decide +kernel
theorem dX11_image_115 : decode cX11_image 115 = .ok (.putfield 62, 3) := by decide +kernel
theorem dX11_image_118 : decode cX11_image 118 = .ok (.aload_n 0, 1) := by decide +kernel
theorem dX11_image_119 : decode cX11_image 119 = .ok (.getfield 62, 3) := by decide +kernel
theorem dX11_image_122 : decode cX11_image 122 = .ok (.ireturn, 1) := by decide +kernel
theorem dX11_image_15 : decode cX11_image 15 = .ok (.aload_n 0, 1) := by decide +kernel
theorem dX11_image_16 : decode cX11_image 16 = .ok (.getfield 59, 3) := by decide +kernel
theorem dX11_image_19 : decode cX11_image 19 = .ok (.iload_n 1, 1) := by decide +kernel
theorem dX11_image_20 : decode cX11_image 20 = .ok (.aload_n 0, 1) := by decide +kernel
theorem dX11_image_21 : decode cX11_image 21 = .ok (.getfield 49, 3) := by decide +kernel
theorem dX11_image_24 : decode cX11_image 24 = .ok (.iload_n 2, 1) := by decide +kernel
theorem dX11_image_25 : decode cX11_image 25 = .ok (.iaload, 1) := by decide +kernel
theorem dX11_image_26 : decode cX11_image 26 = .ok (.bipush 8, 2) := by decide +kernel
theorem dX11_image_28 : decode cX11_image 28 = .ok (.ishr, 1) := by decide +kernel
theorem dX11_image_29 : decode cX11_image 29 = .ok (.sipush 255, 3) := by decide +kernel
theorem dX11_image_32 : decode cX11_image 32 = .ok (.iand, 1) := by decide +kernel
theorem dX11_image_33 : decode cX11_image 33 = .ok (.iastore, 1) := by decide +kernel
theorem dX11_image_34 : decode cX11_image 34 = .ok (.aload_n 0, 1) := by decide +kernel
theorem dX11_image_35 : decode cX11_image 35 = .ok (.getfield 59, 3) := by decide +kernel
theorem dX11_image_38 : decode cX11_image 38 = .ok (.iload_n 1, 1) := by decide +kernel
theorem dX11_image_39 : decode cX11_image 39 = .ok (.iconst 1, 1) := by decide +kernel
theorem dX11_image_40 : decode cX11_image 40 = .ok (.iadd, 1) := by decide +kernel
theorem dX11_image_41 : decode cX11_image 41 = .ok (.aload_n 0, 1) := by decide +kernel
theorem dX11_image_42 : decode cX11_image 42 = .ok (.getfield 49, 3) := by decide +kernel
theorem dX11_image_45 : decode cX11_image 45 = .ok (.iload_n 2, 1) := by decide +kernel
theorem dX11_image_46 : decode cX11_image 46 = .ok (.iaload, 1) := by decide +kernel
theorem dX11_image_47 : decode cX11_image 47 = .ok (.sipush 255, 3) := by decide +kernel
theorem dX11_image_50 : decode cX11_image 50 = .ok (.iand, 1) := by decide +kernel
theorem dX11_image_51 : decode cX11_image 51 = .ok (.iastore, 1) := by decide +kernel
theorem dX11_image_52 : decode cX11_image 52 = .ok (.iinc 1 2, 3) := by decide +kernel
theorem dX11_image_55 : decode cX11_image 55 = .ok (.iinc 2 1, 3) := by decide +kernel
theorem dX11_image_58 : decode cX11_image 58 = .ok (.goto (-54), 3) := by decide +kernel
theorem dX11_octet_0 : decode cX11_octet 0 = .ok (.iload_n 1, 1) := by decide +kernel
theorem dX11_octet_1 : decode cX11_octet 1 = .ok (.ifCond .lt 20, 3) := by decide +kernel
theorem dX11_octet_21 : decode cX11_octet 21 = .ok (.iconst (-1), 1) := by decide +kernel
theorem dX11_octet_22 : decode cX11_octet 22 = .ok (.ireturn, 1) := by decide +kernel
theorem dX11_octet_4 : decode cX11_octet 4 = .ok (.iload_n 1, 1) := by decide +kernel
theorem dX11_octet_5 : decode cX11_octet 5 = .ok (.aload_n 0, 1) := by decide +kernel
theorem dX11_octet_6 : decode cX11_octet 6 = .ok (.getfield 62, 3) := by decide +kernel
theorem dX11_octet_9 : decode cX11_octet 9 = .ok (.if_icmp .ge 12, 3) := by decide +kernel
theorem dX11_octet_12 : decode cX11_octet 12 = .ok (.aload_n 0, 1) := by decide +kernel
theorem dX11_octet_13 : decode cX11_octet 13 = .ok (.getfield 59, 3) := by decide +kernel
theorem dX11_octet_16 : decode cX11_octet 16 = .ok (.iload_n 1, 1) := by decide +kernel
theorem dX11_octet_17 : decode cX11_octet 17 = .ok (.iaload, 1) := by decide +kernel
theorem dX11_octet_18 : decode cX11_octet 18 = .ok (.goto 4, 3) := by decide +kernel
theorem dX11_on_0 : decode cX11_on 0 = .ok (.aload_n 0, 1) := by decide +kernel
theorem dX11_on_1 : decode cX11_on 1 = .ok (.invokevirtual 407, 3) := by decide +kernel
theorem dX11_isImage_0 : decode cX11_isImage 0 = .ok (.iconst 2, 1) := by decide +kernel
theorem dX11_isImage_1 : decode cX11_isImage 1 = .ok (.aload_n 0, 1) := by decide +kernel
theorem dX11_isImage_2 : decode cX11_isImage 2 = .ok (.getfield 69, 3) := by decide +kernel
theorem dX11_isImage_5 : decode cX11_isImage 5 = .ok (.getfield 139, 3) := by decide +kernel
theorem dX11_isImage_8 : decode cX11_isImage 8 = .ok (.imul, 1) := by decide +kernel
theorem dX11_isImage_9 : decode cX11_isImage 9 = .ok (.iconst 1, 1) := by decide +kernel
theorem dX11_isImage_10 : decode cX11_isImage 10 = .ok (.iadd, 1) := by decide +kernel
theorem dX11_isImage_11 : decode cX11_isImage 11 = .ok (.istore_n 1, 1) := by decide +kernel
theorem dX11_isImage_12 : decode cX11_isImage 12 = .ok (.aload_n 0, 1) := by decide +kernel
theorem dX11_isImage_13 : decode cX11_isImage 13 = .ok (.getfield 20, 3) := by decide +kernel
theorem dX11_isImage_16 : decode cX11_isImage 16 = .ok (.invokevirtual 93, 3) := by decide +kernel
theorem dX11_isImage_19 : decode cX11_isImage 19 = .ok (.iload_n 1, 1) := by decide +kernel
theorem dX11_isImage_20 : decode cX11_isImage 20 = .ok (.iconst 1, 1) := by decide +kernel
theorem dX11_isImage_21 : decode cX11_isImage 21 = .ok (.iadd, 1) := by decide +kernel
theorem dX11_isImage_22 : decode cX11_isImage 22 = .ok (.if_icmp .eq 5, 3) := by decide +kernel
theorem dX11_isImage_27 : decode cX11_isImage 27 = .ok (.bipush 51, 2) := by decide +kernel
theorem dX11_isImage_29 : decode cX11_isImage 29 = .ok (.istore_n 2, 1) := by decide +kernel
theorem dX11_isImage_30 : decode cX11_isImage 30 = .ok (.iconst 0, 1) := by decide +kernel
theorem dX11_isImage_31 : decode cX11_isImage 31 = .ok (.istore_n 3, 1) := by decide +kernel
theorem dX11_isImage_32 : decode cX11_isImage 32 = .ok (.iload_n 3, 1) := by decide +kernel
theorem dX11_isImage_33 : decode cX11_isImage 33 = .ok (.iload_n 1, 1) := by decide +kernel
theorem dX11_isImage_34 : decode cX11_isImage 34 = .ok (.if_icmp .ge 22, 3) := by decide +kernel
theorem dX11_isImage_56 : decode cX11_isImage 56 = .ok (.aload_n 0, 1) := by decide +kernel
theorem dX11_isImage_57 : decode cX11_isImage 57 = .ok (.getfield 20, 3) := by decide +kernel
theorem dX11_isImage_60 : decode cX11_isImage 60 = .ok (.iload_n 1, 1) := by decide +kernel
theorem dX11_isImage_61 : decode cX11_isImage 61 = .ok (.invokevirtual 410, 3) := by decide +kernel
theorem dX11_isImage_64 : decode cX11_isImage 64 = .ok (.iload_n 2, 1) := by decide +kernel
theorem dX11_isImage_65 : decode cX11_isImage 65 = .ok (.if_icmp .ne 7, 3) := by decide +kernel
theorem dX11_isImage_72 : decode cX11_isImage 72 = .ok (.iconst 0, 1) := by decide +kernel
theorem dX11_isImage_73 : decode cX11_isImage 73 = .ok (.ireturn, 1) := by decide +kernel
theorem dX11_isImage_68 : decode cX11_isImage 68 = .ok (.iconst 1, 1) := by decide +kernel
theorem dX11_isImage_69 : decode cX11_isImage 69 = .ok (.goto 4, 3) := by decide +kernel
theorem dX11_isImage_37 : decode cX11_isImage 37 = .ok (.iload_n 2, 1) := by decide +kernel
theorem dX11_isImage_38 : decode cX11_isImage 38 = .ok (.aload_n 0, 1) := by decide +kernel
theorem dX11_isImage_39 : decode cX11_isImage 39 = .ok (.getfield 20, 3) := by decide +kernel
theorem dX11_isImage_42 : decode cX11_isImage 42 = .ok (.iload_n 3, 1) := by decide +kernel
theorem dX11_isImage_43 : decode cX11_isImage 43 = .ok (.invokevirtual 410, 3) := by decide +kernel
theorem dX11_isImage_46 : decode cX11_isImage 46 = .ok (.invokestatic 404, 3) := by decide +kernel
theorem dX11_isImage_49 : decode cX11_isImage 49 = .ok (.istore_n 2, 1) := by decide +kernel
theorem dX11_isImage_50 : decode cX11_isImage 50 = .ok (.iinc 3 1, 3) := by decide +kernel
theorem dX11_isImage_53 : decode cX11_isImage 53 = .ok (.goto (-21), 3) := by decide +kernel
theorem dX11_isImage_25 : decode cX11_isImage 25 = .ok (.iconst 0, 1) := by decide +kernel
theorem dX11_isImage_26 : decode cX11_isImage 26 = .ok (.ireturn, 1) := by decide +kernel
theorem dX11_on_4 : decode cX11_on 4 = .ok (.istore_n 1, 1) := by decide +kernel
theorem dX11_on_5 : decode cX11_on 5 = .ok (.iload_n 1, 1) := by decide +kernel
theorem dX11_on_6 : decode cX11_on 6 = .ok (.ifCond .eq 49, 3) := by decide +kernel
theorem dX11_on_55 : decode cX11_on 55 = .ok (.iload_n 1, 1) := by decide +kernel
theorem dX11_on_56 : decode cX11_on 56 = .ok (.ifCond .eq 25, 3) := by decide +kernel
theorem dX11_on_81 : decode cX11_on 81 = .ok (.aload_n 0, 1) := by decide +kernel
theorem dX11_on_82 : decode cX11_on 82 = .ok (.getfield 20, 3) := by decide +kernel
theorem dX11_on_85 : decode cX11_on 85 = .ok (.iconst 0, 1) := by decide +kernel
theorem dX11_on_86 : decode cX11_on 86 = .ok (.invokevirtual 97, 3) := by decide +kernel
theorem dX11_on_89 : decode cX11_on 89 = .ok (.iload_n 1, 1) := by decide +kernel
theorem dX11_on_90 : decode cX11_on 90 = .ok (.ireturn, 1) := by decide +kernel
theorem dX11_on_9 : decode cX11_on 9 = .ok (.aload_n 0, 1) := by decide +kernel
theorem dX11_on_10 : decode cX11_on 10 = .ok (.getfield 20, 3) := by decide +kernel
theorem dX11_on_13 : decode cX11_on 13 = .ok (.aload_n 0, 1) := by decide +kernel
theorem dX11_on_14 : decode cX11_on 14 = .ok (.getfield 20, 3) := by decide +kernel
theorem dX11_on_17 : decode cX11_on 17 = .ok (.invokevirtual 93, 3) := by decide +kernel
theorem dX11_on_20 : decode cX11_on 20 = .ok (.iconst 2, 1) := by decide +kernel
theorem dX11_on_21 : decode cX11_on 21 = .ok (.isub, 1) := by decide +kernel
theorem dX11_on_22 : decode cX11_on 22 = .ok (.invokevirtual 410, 3) := by decide +kernel
theorem dX11_on_25 : decode cX11_on 25 = .ok (.istore_n 2, 1) := by decide +kernel
theorem dX11_on_26 : decode cX11_on 26 = .ok (.aload_n 0, 1) := by decide +kernel
theorem dX11_on_27 : decode cX11_on 27 = .ok (.getfield 80, 3) := by decide +kernel
theorem dX11_on_30 : decode cX11_on 30 = .ok (.aload_n 0, 1) := by decide +kernel
theorem dX11_on_31 : decode cX11_on 31 = .ok (.getfield 69, 3) := by decide +kernel
theorem dX11_on_34 : decode cX11_on 34 = .ok (.invokevirtual 114, 3) := by decide +kernel
theorem dX2_start_0 : decode cX2_start 0 = .ok (.aload_n 0, 1) := by decide +kernel
theorem dX2_start_1 : decode cX2_start 1 = .ok (.getfield 12, 3) := by decide +kernel
theorem dX2_start_4 : decode cX2_start 4 = .ok (.aload_n 1, 1) := by decide +kernel
theorem dX2_start_5 : decode cX2_start 5 = .ok (.getfield 42, 3) := by decide +kernel
theorem dX2_start_8 : decode cX2_start 8 = .ok (.invokevirtual 45, 3) := by decide +kernel
theorem dX2_start_11 : decode cX2_start 11 = .ok (.aload_n 0, 1) := by decide +kernel
theorem dX2_start_12 : decode cX2_start 12 = .ok (.aload_n 1, 1) := by decide +kernel
theorem dX2_start_13 : decode cX2_start 13 = .ok (.getfield 49, 3) := by decide +kernel
theorem dX2_start_16 : decode cX2_start 16 = .ok (.putfield 26, 3) := by decide +kernel
theorem dX2_start_19 : decode cX2_start 19 = .ok (.aload_n 0, 1) := by decide +kernel
theorem dX2_start_20 : decode cX2_start 20 = .ok (.getfield 18, 3) := by decide +kernel
theorem dX2_start_23 : decode cX2_start 23 = .ok (.lconst 0, 1) := by decide +kernel
theorem dX2_start_24 : decode cX2_start 24 = .ok (.invokestatic 50, 3) := by decide +kernel
theorem dX2_start_27 : decode cX2_start 27 = .ok (.iconst 0, 1) := by decide +kernel
theorem dX2_start_28 : decode cX2_start 28 = .ok (.istore_n 2, 1) := by decide +kernel
theorem dX2_start_29 : decode cX2_start 29 = .ok (.iload_n 2, 1) := by decide +kernel
theorem dX2_start_30 : decode cX2_start 30 = .ok (.iconst 5, 1) := by decide +kernel
theorem dX2_start_31 : decode cX2_start 31 = .ok (.if_icmp .ge 20, 3) := by decide +kernel
theorem dX2_start_34 : decode cX2_start 34 = .ok (.aload_n 0, 1) := by decide +kernel
theorem dX2_start_35 : decode cX2_start 35 = .ok (.getfield 18, 3) := by decide +kernel
theorem dX2_start_38 : decode cX2_start 38 = .ok (.iload_n 2, 1) := by decide +kernel
theorem dX2_start_39 : decode cX2_start 39 = .ok (.iconst 5, 1) := by decide +kernel
theorem dX2_start_40 : decode cX2_start 40 = .ok (.imul, 1) := by decide +kernel
theorem dX2_start_41 : decode cX2_start 41 = .ok (.iload_n 2, 1) := by decide +kernel
theorem dX2_start_42 : decode cX2_start 42 = .ok (.iadd, 1) := by decide +kernel
theorem dX2_start_43 : decode cX2_start 43 = .ok (.lconst 1, 1) := by decide +kernel
theorem dX2_start_44 : decode cX2_start 44 = .ok (.lastore, 1) := by decide +kernel
theorem dX2_start_45 : decode cX2_start 45 = .ok (.iinc 2 1, 3) := by decide +kernel
theorem dX2_start_48 : decode cX2_start 48 = .ok (.goto (-19), 3) := by decide +kernel
theorem dX2_start_51 : decode cX2_start 51 = .ok (.aload_n 0, 1) := by decide +kernel
theorem dX2_start_52 : decode cX2_start 52 = .ok (.iconst 0, 1) := by decide +kernel
theorem dX2_start_53 : decode cX2_start 53 = .ok (.putfield 30, 3) := by decide +kernel
theorem dX2_start_56 : decode cX2_start 56 = .ok (.aload_n 0, 1) := by decide +kernel
theorem dX2_start_57 : decode cX2_start 57 = .ok (.iconst 0, 1) := by decide +kernel
theorem dX2_start_58 : decode cX2_start 58 = .ok (.putfield 33, 3) := by decide +kernel
theorem dX2_start_61 : decode cX2_start 61 = .ok (.aload_n 0, 1) := by decide +kernel
theorem dX2_start_62 : decode cX2_start 62 = .ok (.iconst 0, 1) := by decide +kernel
theorem dX2_start_63 : decode cX2_start 63 = .ok (.putfield 36, 3) := by decide +kernel
theorem dX2_start_66 : decode cX2_start 66 = .ok (.aload_n 0, 1) := by decide +kernel
theorem dX2_start_67 : decode cX2_start 67 = .ok (.iconst 0, 1) := by decide +kernel
theorem dX2_start_68 : decode cX2_start 68 = .ok (.putfield 39, 3) := by decide +kernel
theorem dX2_start_71 : decode cX2_start 71 = .ok (.return_, 1) := by decide +kernel
theorem dX11_on_37 : decode cX11_on 37 = .ok (.aload_n 0, 1) := by decide +kernel
theorem dX11_on_38 : decode cX11_on 38 = .ok (.getfield 80, 3) := by decide +kernel
theorem dX11_on_41 : decode cX11_on 41 = .ok (.iload_n 2, 1) := by decide +kernel
theorem dX11_on_42 : decode cX11_on 42 = .ok (.invokevirtual 296, 3) := by decide +kernel
