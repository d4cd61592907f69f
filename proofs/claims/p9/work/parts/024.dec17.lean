theorem dX12_goes_9 : decode cX12_goes 9 = .ok (.if_icmp .ge 36, 3) := by decide +kernel
theorem dX12_goes_45 : decode cX12_goes 45 = .ok (.iconst 0, 1) := by decide +kernel
theorem dX12_goes_46 : decode cX12_goes 46 = .ok (.istore 4, 2) := by decide +kernel
theorem dX12_goes_48 : decode cX12_goes 48 = .ok (.iload 4, 2) := by decide +kernel
theorem dX12_goes_50 : decode cX12_goes 50 = .ok (.aload_n 0, 1) := by decide +kernel
theorem dX12_goes_51 : decode cX12_goes 51 = .ok (.getfield 237, 3) := by decide +kernel
theorem dX12_goes_54 : decode cX12_goes 54 = .ok (.if_icmp .ge 37, 3) := by decide +kernel
theorem dX12_goes_91 : decode cX12_goes 91 = .ok (.return_, 1) := by decide +kernel
theorem dX12_goes_57 : decode cX12_goes 57 = .ok (.aload_n 0, 1) := by decide +kernel
theorem dX12_goes_58 : decode cX12_goes 58 = .ok (.getfield 121, 3) := by decide +kernel
theorem dX12_goes_61 : decode cX12_goes 61 = .ok (.iconst 5, 1) := by decide +kernel
theorem dX12_goes_62 : decode cX12_goes 62 = .ok (.iload 4, 2) := by decide +kernel
theorem dX12_goes_64 : decode cX12_goes 64 = .ok (.imul, 1) := by decide +kernel
theorem dX12_goes_65 : decode cX12_goes 65 = .ok (.iload_n 1, 1) := by decide +kernel
theorem dX12_goes_66 : decode cX12_goes 66 = .ok (.iadd, 1) := by decide +kernel
theorem dX12_goes_67 : decode cX12_goes 67 = .ok (.dup2, 1) := by decide +kernel
theorem dX12_goes_68 : decode cX12_goes 68 = .ok (.laload, 1) := by decide +kernel
theorem dX12_goes_69 : decode cX12_goes 69 = .ok (.iload_n 3, 1) := by decide +kernel
theorem dX12_goes_70 : decode cX12_goes 70 = .ok (.i2l, 1) := by decide +kernel
theorem dX12_goes_71 : decode cX12_goes 71 = .ok (.aload_n 0, 1) := by decide +kernel
theorem dX12_goes_72 : decode cX12_goes 72 = .ok (.getfield 121, 3) := by decide +kernel
theorem dX12_goes_75 : decode cX12_goes 75 = .ok (.iconst 5, 1) := by decide +kernel
theorem dX12_goes_76 : decode cX12_goes 76 = .ok (.iload 4, 2) := by decide +kernel
theorem dX12_goes_78 : decode cX12_goes 78 = .ok (.imul, 1) := by decide +kernel
theorem dX12_goes_79 : decode cX12_goes 79 = .ok (.iload_n 2, 1) := by decide +kernel
theorem dX12_goes_80 : decode cX12_goes 80 = .ok (.iadd, 1) := by decide +kernel
theorem dX12_goes_81 : decode cX12_goes 81 = .ok (.laload, 1) := by decide +kernel
theorem dX12_goes_82 : decode cX12_goes 82 = .ok (.lmul, 1) := by decide +kernel
theorem dX12_goes_83 : decode cX12_goes 83 = .ok (.lsub, 1) := by decide +kernel
theorem dX12_goes_84 : decode cX12_goes 84 = .ok (.lastore, 1) := by decide +kernel
theorem dX12_goes_85 : decode cX12_goes 85 = .ok (.iinc 4 1, 3) := by decide +kernel
theorem dX12_goes_88 : decode cX12_goes 88 = .ok (.goto (-40), 3) := by decide +kernel
theorem dX12_goes_12 : decode cX12_goes 12 = .ok (.aload_n 0, 1) := by decide +kernel
theorem dX12_goes_13 : decode cX12_goes 13 = .ok (.getfield 97, 3) := by decide +kernel
theorem dX12_goes_16 : decode cX12_goes 16 = .ok (.iconst 5, 1) := by decide +kernel
theorem dX12_goes_17 : decode cX12_goes 17 = .ok (.iload 4, 2) := by decide +kernel
theorem dX12_goes_19 : decode cX12_goes 19 = .ok (.imul, 1) := by decide +kernel
theorem dX12_goes_20 : decode cX12_goes 20 = .ok (.iload_n 1, 1) := by decide +kernel
theorem dX12_goes_21 : decode cX12_goes 21 = .ok (.iadd, 1) := by decide +kernel
theorem dX12_goes_22 : decode cX12_goes 22 = .ok (.dup2, 1) := by decide +kernel
theorem dX12_goes_23 : decode cX12_goes 23 = .ok (.iaload, 1) := by decide +kernel
theorem dX12_goes_24 : decode cX12_goes 24 = .ok (.iload_n 3, 1) := by decide +kernel
theorem dX12_goes_25 : decode cX12_goes 25 = .ok (.aload_n 0, 1) := by decide +kernel
theorem dX12_goes_26 : decode cX12_goes 26 = .ok (.getfield 97, 3) := by decide +kernel
theorem dX12_goes_29 : decode cX12_goes 29 = .ok (.iconst 5, 1) := by decide +kernel
theorem dX12_goes_30 : decode cX12_goes 30 = .ok (.iload 4, 2) := by decide +kernel
theorem dX12_goes_32 : decode cX12_goes 32 = .ok (.imul, 1) := by decide +kernel
theorem dX12_goes_33 : decode cX12_goes 33 = .ok (.iload_n 2, 1) := by decide +kernel
theorem dX12_goes_34 : decode cX12_goes 34 = .ok (.iadd, 1) := by decide +kernel
theorem dX12_goes_35 : decode cX12_goes 35 = .ok (.iaload, 1) := by decide +kernel
theorem dX12_goes_36 : decode cX12_goes 36 = .ok (.imul, 1) := by decide +kernel
theorem dX12_goes_37 : decode cX12_goes 37 = .ok (.isub, 1) := by decide +kernel
theorem dX12_goes_38 : decode cX12_goes 38 = .ok (.iastore, 1) := by decide +kernel
theorem dX12_goes_39 : decode cX12_goes 39 = .ok (.iinc 4 1, 3) := by decide +kernel
theorem dX12_goes_42 : decode cX12_goes 42 = .ok (.goto (-39), 3) := by decide +kernel
theorem dX12_isStep_87 : decode cX12_isStep 87 = .ok (.aload_n 0, 1) := by decide +kernel
theorem dX12_isStep_88 : decode cX12_isStep 88 = .ok (.getfield 124, 3) := by decide +kernel
theorem dX12_isStep_91 : decode cX12_isStep 91 = .ok (.aload_n 0, 1) := by decide +kernel
theorem dX12_isStep_92 : decode cX12_isStep 92 = .ok (.getfield 349, 3) := by decide +kernel
theorem dX12_isStep_95 : decode cX12_isStep 95 = .ok (.iload_n 1, 1) := by decide +kernel
theorem dX12_isStep_96 : decode cX12_isStep 96 = .ok (.iastore, 1) := by decide +kernel
theorem dX12_isStep_97 : decode cX12_isStep 97 = .ok (.aload_n 0, 1) := by decide +kernel
theorem dX12_isStep_98 : decode cX12_isStep 98 = .ok (.getfield 127, 3) := by decide +kernel
theorem dX12_isStep_101 : decode cX12_isStep 101 = .ok (.aload_n 0, 1) := by decide +kernel
theorem dX12_isStep_102 : decode cX12_isStep 102 = .ok (.getfield 349, 3) := by decide +kernel
theorem dX12_isStep_105 : decode cX12_isStep 105 = .ok (.iload_n 2, 1) := by decide +kernel
theorem dX12_isStep_106 : decode cX12_isStep 106 = .ok (.iastore, 1) := by decide +kernel
theorem dX12_isStep_107 : decode cX12_isStep 107 = .ok (.aload_n 0, 1) := by decide +kernel
theorem dX12_isStep_108 : decode cX12_isStep 108 = .ok (.getfield 130, 3) := by decide +kernel
theorem dX12_isStep_111 : decode cX12_isStep 111 = .ok (.aload_n 0, 1) := by decide +kernel
theorem dX12_isStep_112 : decode cX12_isStep 112 = .ok (.getfield 349, 3) := by decide +kernel
theorem dX12_isStep_115 : decode cX12_isStep 115 = .ok (.iload 4, 2) := by decide +kernel
theorem dX12_isStep_117 : decode cX12_isStep 117 = .ok (.iastore, 1) := by decide +kernel
theorem dX12_isStep_118 : decode cX12_isStep 118 = .ok (.aload_n 0, 1) := by decide +kernel
theorem dX12_isStep_119 : decode cX12_isStep 119 = .ok (.dup, 1) := by decide +kernel
theorem dX12_isStep_120 : decode cX12_isStep 120 = .ok (.getfield 349, 3) := by decide +kernel
theorem dX12_isStep_123 : decode cX12_isStep 123 = .ok (.iconst 1, 1) := by decide +kernel
theorem dX12_isStep_124 : decode cX12_isStep 124 = .ok (.iadd, 1) := by decide +kernel
theorem dX12_isStep_125 : decode cX12_isStep 125 = .ok (.putfield 349, 3) := by decide +kernel
theorem dX12_isStep_128 : decode cX12_isStep 128 = .ok (.iconst 1, 1) := by decide +kernel
theorem dX12_isStep_129 : decode cX12_isStep 129 = .ok (.ireturn, 1) := by decide +kernel
theorem dX12_isStep_76 : decode cX12_isStep 76 = .ok (.goto 54, 3) := by decide +kernel
theorem dX12_isStep_52 : decode cX12_isStep 52 = .ok (.goto 78, 3) := by decide +kernel
theorem dX12_isStep_10 : decode cX12_isStep 10 = .ok (.iconst 0, 1) := by decide +kernel
theorem dX12_isStep_11 : decode cX12_isStep 11 = .ok (.ireturn, 1) := by decide +kernel
theorem dX12_lead_25 : decode cX12_lead 25 = .ok (.ifCond .eq 33, 3) := by decide +kernel
theorem dX12_lead_28 : decode cX12_lead 28 = .ok (.iinc 2 1, 3) := by decide +kernel
theorem dX12_lead_31 : decode cX12_lead 31 = .ok (.aload_n 0, 1) := by decide +kernel
theorem dX12_lead_32 : decode cX12_lead 32 = .ok (.getfield 352, 3) := by decide +kernel
theorem dX12_lead_35 : decode cX12_lead 35 = .ok (.bipush 40, 2) := by decide +kernel
theorem dX12_lead_37 : decode cX12_lead 37 = .ok (.if_icmp .ge 13, 3) := by decide +kernel
theorem dX12_lead_50 : decode cX12_lead 50 = .ok (.aload_n 0, 1) := by decide +kernel
theorem dX12_lead_51 : decode cX12_lead 51 = .ok (.iconst 0, 1) := by decide +kernel
theorem dX12_lead_52 : decode cX12_lead 52 = .ok (.putfield 355, 3) := by decide +kernel
theorem dX12_lead_55 : decode cX12_lead 55 = .ok (.goto (-39), 3) := by decide +kernel
theorem dX12_lead_40 : decode cX12_lead 40 = .ok (.aload_n 0, 1) := by decide +kernel
theorem dX12_lead_41 : decode cX12_lead 41 = .ok (.dup, 1) := by decide +kernel
theorem dX12_lead_42 : decode cX12_lead 42 = .ok (.getfield 352, 3) := by decide +kernel
theorem dX12_lead_45 : decode cX12_lead 45 = .ok (.iconst 1, 1) := by decide +kernel
theorem dX12_lead_46 : decode cX12_lead 46 = .ok (.iadd, 1) := by decide +kernel
theorem dX12_lead_47 : decode cX12_lead 47 = .ok (.putfield 352, 3) := by decide +kernel
theorem dX12_lead_12 : decode cX12_lead 12 = .ok (.iconst (-1), 1) := by decide +kernel
theorem dX12_lead_13 : decode cX12_lead 13 = .ok (.ireturn, 1) := by decide +kernel
theorem dX12_undo_0 : decode cX12_undo 0 = .ok (.aload_n 0, 1) := by decide +kernel
theorem dX12_undo_1 : decode cX12_undo 1 = .ok (.getfield 352, 3) := by decide +kernel
theorem dX12_undo_4 : decode cX12_undo 4 = .ok (.ifCond .ne 5, 3) := by decide +kernel
theorem dX12_undo_9 : decode cX12_undo 9 = .ok (.aload_n 0, 1) := by decide +kernel
theorem dX12_undo_10 : decode cX12_undo 10 = .ok (.dup, 1) := by decide +kernel
theorem dX12_undo_11 : decode cX12_undo 11 = .ok (.getfield 349, 3) := by decide +kernel
theorem dX12_undo_14 : decode cX12_undo 14 = .ok (.iconst 1, 1) := by decide +kernel
theorem dX12_undo_15 : decode cX12_undo 15 = .ok (.isub, 1) := by decide +kernel
theorem dX12_undo_16 : decode cX12_undo 16 = .ok (.putfield 349, 3) := by decide +kernel
theorem dX12_undo_19 : decode cX12_undo 19 = .ok (.aload_n 0, 1) := by decide +kernel
theorem dX12_undo_20 : decode cX12_undo 20 = .ok (.aload_n 0, 1) := by decide +kernel
theorem dX12_undo_21 : decode cX12_undo 21 = .ok (.getfield 124, 3) := by decide +kernel
theorem dX12_undo_24 : decode cX12_undo 24 = .ok (.aload_n 0, 1) := by decide +kernel
theorem dX12_undo_25 : decode cX12_undo 25 = .ok (.getfield 349, 3) := by decide +kernel
theorem dX12_undo_28 : decode cX12_undo 28 = .ok (.iaload, 1) := by decide +kernel
theorem dX12_undo_29 : decode cX12_undo 29 = .ok (.aload_n 0, 1) := by decide +kernel
theorem dX12_undo_30 : decode cX12_undo 30 = .ok (.getfield 127, 3) := by decide +kernel
theorem dX12_undo_33 : decode cX12_undo 33 = .ok (.aload_n 0, 1) := by decide +kernel
theorem dX12_undo_34 : decode cX12_undo 34 = .ok (.getfield 349, 3) := by decide +kernel
theorem dX12_undo_37 : decode cX12_undo 37 = .ok (.iaload, 1) := by decide +kernel
theorem dX12_undo_38 : decode cX12_undo 38 = .ok (.aload_n 0, 1) := by decide +kernel
theorem dX12_undo_39 : decode cX12_undo 39 = .ok (.getfield 130, 3) := by decide +kernel
theorem dX12_undo_42 : decode cX12_undo 42 = .ok (.aload_n 0, 1) := by decide +kernel
theorem dX12_undo_43 : decode cX12_undo 43 = .ok (.getfield 349, 3) := by decide +kernel
theorem dX12_undo_46 : decode cX12_undo 46 = .ok (.iaload, 1) := by decide +kernel
theorem dX12_undo_47 : decode cX12_undo 47 = .ok (.ineg, 1) := by decide +kernel
theorem dX12_undo_48 : decode cX12_undo 48 = .ok (.invokevirtual 436, 3) := by decide +kernel
theorem dX12_undo_51 : decode cX12_undo 51 = .ok (.aload_n 0, 1) := by decide +kernel
theorem dX12_undo_52 : decode cX12_undo 52 = .ok (.dup, 1) := by decide +kernel
theorem dX12_undo_53 : decode cX12_undo 53 = .ok (.getfield 352, 3) := by decide +kernel
theorem dX12_undo_56 : decode cX12_undo 56 = .ok (.iconst 1, 1) := by decide +kernel
theorem dX12_undo_57 : decode cX12_undo 57 = .ok (.isub, 1) := by decide +kernel
theorem dX12_undo_58 : decode cX12_undo 58 = .ok (.putfield 352, 3) := by decide +kernel
theorem dX12_undo_61 : decode cX12_undo 61 = .ok (.aload_n 0, 1) := by decide +kernel
theorem dX12_undo_62 : decode cX12_undo 62 = .ok (.dup, 1) := by decide +kernel
theorem dX12_undo_63 : decode cX12_undo 63 = .ok (.getfield 355, 3) := by decide +kernel
theorem dX12_undo_66 : decode cX12_undo 66 = .ok (.iconst 1, 1) := by decide +kernel
theorem dX12_undo_67 : decode cX12_undo 67 = .ok (.iadd, 1) := by decide +kernel
theorem dX12_undo_68 : decode cX12_undo 68 = .ok (.putfield 355, 3) := by decide +kernel
theorem dX12_undo_71 : decode cX12_undo 71 = .ok (.iconst 1, 1) := by decide +kernel
theorem dX12_undo_72 : decode cX12_undo 72 = .ok (.ireturn, 1) := by decide +kernel
theorem dX12_undo_7 : decode cX12_undo 7 = .ok (.iconst 0, 1) := by decide +kernel
theorem dX12_undo_8 : decode cX12_undo 8 = .ok (.ireturn, 1) := by decide +kernel
theorem dX12_redo_0 : decode cX12_redo 0 = .ok (.aload_n 0, 1) := by decide +kernel
theorem dX12_redo_1 : decode cX12_redo 1 = .ok (.getfield 355, 3) := by decide +kernel
theorem dX12_redo_4 : decode cX12_redo 4 = .ok (.ifCond .ne 5, 3) := by decide +kernel
theorem dX12_redo_9 : decode cX12_redo 9 = .ok (.aload_n 0, 1) := by decide +kernel
theorem dX12_redo_10 : decode cX12_redo 10 = .ok (.aload_n 0, 1) := by decide +kernel
theorem dX12_redo_11 : decode cX12_redo 11 = .ok (.getfield 124, 3) := by decide +kernel
theorem dX12_redo_14 : decode cX12_redo 14 = .ok (.aload_n 0, 1) := by decide +kernel
theorem dX12_redo_15 : decode cX12_redo 15 = .ok (.getfield 349, 3) := by decide +kernel
theorem dX12_redo_18 : decode cX12_redo 18 = .ok (.iaload, 1) := by decide +kernel
theorem dX12_redo_19 : decode cX12_redo 19 = .ok (.aload_n 0, 1) := by decide +kernel
theorem dX12_redo_20 : decode cX12_redo 20 = .ok (.getfield 127, 3) := by decide +kernel
theorem dX12_redo_23 : decode cX12_redo 23 = .ok (.aload_n 0, 1) := by decide +kernel
theorem dX12_redo_24 : decode cX12_redo 24 = .ok (.getfield 349, 3) := by decide +kernel
theorem dX12_redo_27 : decode cX12_redo 27 = .ok (.iaload, 1) := by decide +kernel
theorem dX12_redo_28 : decode cX12_redo 28 = .ok (.aload_n 0, 1) := by decide +kernel
theorem dX12_redo_29 : decode cX12_redo 29 = .ok (.getfield 130, 3) := by decide +kernel
theorem dX12_redo_32 : decode cX12_redo 32 = .ok (.aload_n 0, 1) := by decide +kernel
theorem dX12_redo_33 : decode cX12_redo 33 = .ok (.getfield 349, 3) := by decide +kernel
theorem dX12_redo_36 : decode cX12_redo 36 = .ok (.iaload, 1) := by decide +kernel
theorem dX12_redo_37 : decode cX12_redo 37 = .ok (.invokevirtual 436, 3) := by decide +kernel
theorem dX12_redo_40 : decode cX12_redo 40 = .ok (.aload_n 0, 1) := by decide +kernel
theorem dX12_redo_41 : decode cX12_redo 41 = .ok (.dup, 1) := by decide +kernel
theorem dX12_redo_42 : decode cX12_redo 42 = .ok (.getfield 349, 3) := by decide +kernel
theorem dX12_redo_45 : decode cX12_redo 45 = .ok (.iconst 1, 1) := by decide +kernel
theorem dX12_redo_46 : decode cX12_redo 46 = .ok (.iadd, 1) := by decide +kernel
theorem dX12_redo_47 : decode cX12_redo 47 = .ok (.putfield 349, 3) := by decide +kernel
theorem dX12_redo_50 : decode cX12_redo 50 = .ok (.aload_n 0, 1) := by decide +kernel
theorem dX12_redo_51 : decode cX12_redo 51 = .ok (.dup, 1) := by decide +kernel
theorem dX12_redo_52 : decode cX12_redo 52 = .ok (.getfield 352, 3) := by decide +kernel
theorem dX12_redo_55 : decode cX12_redo 55 = .ok (.iconst 1, 1) := by decide +kernel
theorem dX12_redo_56 : decode cX12_redo 56 = .ok (.iadd, 1) := by decide +kernel
theorem dX12_redo_57 : decode cX12_redo 57 = .ok (.putfield 352, 3) := by decide +kernel
theorem dX12_redo_60 : decode cX12_redo 60 = .ok (.aload_n 0, 1) := by decide +kernel
theorem dX12_redo_61 : decode cX12_redo 61 = .ok (.dup, 1) := by decide +kernel
theorem dX12_redo_62 : decode cX12_redo 62 = .ok (.getfield 355, 3) := by decide +kernel
theorem dX12_redo_65 : decode cX12_redo 65 = .ok (.iconst 1, 1) := by decide +kernel
theorem dX12_redo_66 : decode cX12_redo 66 = .ok (.isub, 1) := by decide +kernel
theorem dX12_redo_67 : decode cX12_redo 67 = .ok (.putfield 355, 3) := by decide +kernel
theorem dX12_redo_70 : decode cX12_redo 70 = .ok (.iconst 1, 1) := by decide +kernel
theorem dX12_redo_71 : decode cX12_redo 71 = .ok (.ireturn, 1) := by decide +kernel
theorem dX12_redo_7 : decode cX12_redo 7 = .ok (.iconst 0, 1) := by decide +kernel
theorem dX12_redo_8 : decode cX12_redo 8 = .ok (.ireturn, 1) := by decide +kernel
theorem dX12_step_0 : decode cX12_step 0 = .ok (.iload_n 1, 1) := by decide +kernel
theorem dX12_step_1 : decode cX12_step 1 = .ok (.i2l, 1) := by decide +kernel
theorem dX12_step_2 : decode cX12_step 2 = .ok (.lconst 0, 1) := by decide +kernel
theorem dX12_step_3 : decode cX12_step 3 = .ok (.aload_n 0, 1) := by decide +kernel
theorem dX12_step_4 : decode cX12_step 4 = .ok (.getfield 352, 3) := by decide +kernel
theorem dX12_step_7 : decode cX12_step 7 = .ok (.iconst 1, 1) := by decide +kernel
theorem dX12_step_8 : decode cX12_step 8 = .ok (.isub, 1) := by decide +kernel
theorem dX12_step_9 : decode cX12_step 9 = .ok (.i2l, 1) := by decide +kernel
theorem dX12_step_10 : decode cX12_step 10 = .ok (.invokestatic 191, 3) := by decide +kernel
theorem dX12_step_13 : decode cX12_step 13 = .ok (.ifCond .eq 15, 3) := by decide +kernel
theorem dX12_step_28 : decode cX12_step 28 = .ok (.ldc_w 364, 3) := by decide +kernel
theorem dX12_step_31 : decode cX12_step 31 = .ok (.ireturn, 1) := by decide +kernel
theorem dX12_step_16 : decode cX12_step 16 = .ok (.iload_n 2, 1) := by decide +kernel
theorem dX12_step_17 : decode cX12_step 17 = .ok (.i2l, 1) := by decide +kernel
theorem dX12_step_18 : decode cX12_step 18 = .ok (.lconst 0, 1) := by decide +kernel
theorem dX12_step_19 : decode cX12_step 19 = .ok (.ldc2_w 431, 3) := by decide +kernel
theorem dX12_step_22 : decode cX12_step 22 = .ok (.invokestatic 191, 3) := by decide +kernel
theorem dX12_step_25 : decode cX12_step 25 = .ok (.ifCond .ne 7, 3) := by decide +kernel
theorem dX12_step_32 : decode cX12_step 32 = .ok (.aload_n 0, 1) := by decide +kernel
theorem dX12_step_33 : decode cX12_step 33 = .ok (.getfield 349, 3) := by decide +kernel
theorem dX12_step_36 : decode cX12_step 36 = .ok (.aload_n 0, 1) := by decide +kernel
theorem dX12_step_37 : decode cX12_step 37 = .ok (.getfield 352, 3) := by decide +kernel
theorem dX12_step_40 : decode cX12_step 40 = .ok (.isub, 1) := by decide +kernel
theorem dX12_step_41 : decode cX12_step 41 = .ok (.iload_n 1, 1) := by decide +kernel
theorem dX12_step_42 : decode cX12_step 42 = .ok (.iadd, 1) := by decide +kernel
theorem dX12_step_43 : decode cX12_step 43 = .ok (.istore_n 3, 1) := by decide +kernel
theorem dX12_step_44 : decode cX12_step 44 = .ok (.iload_n 2, 1) := by decide +kernel
theorem dX12_step_45 : decode cX12_step 45 = .ok (.ifCond .ne 12, 3) := by decide +kernel
theorem dX12_step_57 : decode cX12_step 57 = .ok (.iload_n 2, 1) := by decide +kernel
theorem dX12_step_58 : decode cX12_step 58 = .ok (.iconst 1, 1) := by decide +kernel
theorem dX12_step_59 : decode cX12_step 59 = .ok (.if_icmp .ne 12, 3) := by decide +kernel
theorem dX12_step_71 : decode cX12_step 71 = .ok (.aload_n 0, 1) := by decide +kernel
theorem dX12_step_72 : decode cX12_step 72 = .ok (.getfield 130, 3) := by decide +kernel
theorem dX12_step_75 : decode cX12_step 75 = .ok (.iload_n 3, 1) := by decide +kernel
theorem dX12_step_76 : decode cX12_step 76 = .ok (.iaload, 1) := by decide +kernel
theorem dX12_step_77 : decode cX12_step 77 = .ok (.ireturn, 1) := by decide +kernel
theorem dX12_step_62 : decode cX12_step 62 = .ok (.aload_n 0, 1) := by decide +kernel
theorem dX12_step_63 : decode cX12_step 63 = .ok (.getfield 127, 3) := by decide +kernel
theorem dX12_step_66 : decode cX12_step 66 = .ok (.iload_n 3, 1) := by decide +kernel
theorem dX12_step_67 : decode cX12_step 67 = .ok (.iaload, 1) := by decide +kernel
theorem dX12_step_68 : decode cX12_step 68 = .ok (.goto 9, 3) := by decide +kernel
theorem dX12_step_48 : decode cX12_step 48 = .ok (.aload_n 0, 1) := by decide +kernel
theorem dX12_step_49 : decode cX12_step 49 = .ok (.getfield 124, 3) := by decide +kernel
theorem dX12_step_52 : decode cX12_step 52 = .ok (.iload_n 3, 1) := by decide +kernel
theorem dX12_step_53 : decode cX12_step 53 = .ok (.iaload, 1) := by decide +kernel
theorem dX12_step_54 : decode cX12_step 54 = .ok (.goto 23, 3) := by decide +kernel
theorem dX12_leader_0 : decode cX12_leader 0 = .ok (.aload_n 0, 1) := by decide +kernel
theorem dX12_leader_1 : decode cX12_leader 1 = .ok (.iload_n 1, 1) := by decide +kernel
theorem dX12_leader_2 : decode cX12_leader 2 = .ok (.invokevirtual 361, 3) := by decide +kernel
theorem dX12_leader_5 : decode cX12_leader 5 = .ok (.ifCond .eq 24, 3) := by decide +kernel
theorem dX12_leader_29 : decode cX12_leader 29 = .ok (.ldc2_w 445, 3) := by decide +kernel
theorem dX12_leader_32 : decode cX12_leader 32 = .ok (.lreturn, 1) := by decide +kernel
theorem dX12_leader_8 : decode cX12_leader 8 = .ok (.aload_n 0, 1) := by decide +kernel
theorem dX12_leader_9 : decode cX12_leader 9 = .ok (.iload_n 2, 1) := by decide +kernel
theorem dX12_leader_10 : decode cX12_leader 10 = .ok (.invokevirtual 361, 3) := by decide +kernel
theorem dX12_leader_13 : decode cX12_leader 13 = .ok (.ifCond .eq 16, 3) := by decide +kernel
theorem dX12_leader_16 : decode cX12_leader 16 = .ok (.aload_n 0, 1) := by decide +kernel
theorem dX12_leader_17 : decode cX12_leader 17 = .ok (.getfield 121, 3) := by decide +kernel
theorem dX12_leader_20 : decode cX12_leader 20 = .ok (.iconst 5, 1) := by decide +kernel
theorem dX12_leader_21 : decode cX12_leader 21 = .ok (.iload_n 1, 1) := by decide +kernel
theorem dX12_leader_22 : decode cX12_leader 22 = .ok (.imul, 1) := by decide +kernel
theorem dX12_leader_23 : decode cX12_leader 23 = .ok (.iload_n 2, 1) := by decide +kernel
theorem dX12_leader_24 : decode cX12_leader 24 = .ok (.iadd, 1) := by decide +kernel
theorem dX12_leader_25 : decode cX12_leader 25 = .ok (.laload, 1) := by decide +kernel
theorem dX12_leader_26 : decode cX12_leader 26 = .ok (.goto 6, 3) := by decide +kernel
theorem dX12_squares_0 : decode cX12_squares 0 = .ok (.lconst 0, 1) := by decide +kernel
theorem dX12_squares_1 : decode cX12_squares 1 = .ok (.lstore_n 2, 1) := by decide +kernel
theorem dX12_squares_2 : decode cX12_squares 2 = .ok (.iconst 0, 1) := by decide +kernel
theorem dX12_squares_3 : decode cX12_squares 3 = .ok (.istore 4, 2) := by decide +kernel
theorem dX12_squares_5 : decode cX12_squares 5 = .ok (.iload 4, 2) := by decide +kernel
theorem dX12_squares_7 : decode cX12_squares 7 = .ok (.aload_n 0, 1) := by decide +kernel
theorem dX12_squares_8 : decode cX12_squares 8 = .ok (.getfield 237, 3) := by decide +kernel
theorem dX12_squares_11 : decode cX12_squares 11 = .ok (.if_icmp .ge 45, 3) := by decide +kernel
theorem dX12_squares_56 : decode cX12_squares 56 = .ok (.lload_n 2, 1) := by decide +kernel
theorem dX12_squares_57 : decode cX12_squares 57 = .ok (.lreturn, 1) := by decide +kernel
theorem dX12_squares_14 : decode cX12_squares 14 = .ok (.lload_n 2, 1) := by decide +kernel
theorem dX12_squares_15 : decode cX12_squares 15 = .ok (.iload_n 1, 1) := by decide +kernel
theorem dX12_squares_16 : decode cX12_squares 16 = .ok (.ifCond .eq 19, 3) := by decide +kernel
theorem dX12_squares_35 : decode cX12_squares 35 = .ok (.aload_n 0, 1) := by decide +kernel
theorem dX12_squares_36 : decode cX12_squares 36 = .ok (.iload 4, 2) := by decide +kernel
theorem dX12_squares_38 : decode cX12_squares 38 = .ok (.iload 4, 2) := by decide +kernel
theorem dX12_squares_40 : decode cX12_squares 40 = .ok (.aload_n 0, 1) := by decide +kernel
theorem dX12_squares_41 : decode cX12_squares 41 = .ok (.getfield 69, 3) := by decide +kernel
theorem dX12_squares_44 : decode cX12_squares 44 = .ok (.invokevirtual 334, 3) := by decide +kernel
theorem dX12_squares_47 : decode cX12_squares 47 = .ok (.i2l, 1) := by decide +kernel
theorem dX12_squares_48 : decode cX12_squares 48 = .ok (.ladd, 1) := by decide +kernel
theorem dX12_squares_49 : decode cX12_squares 49 = .ok (.lstore_n 2, 1) := by decide +kernel
theorem dX12_squares_50 : decode cX12_squares 50 = .ok (.iinc 4 1, 3) := by decide +kernel
theorem dX12_squares_53 : decode cX12_squares 53 = .ok (.goto (-48), 3) := by decide +kernel
theorem dX12_squares_19 : decode cX12_squares 19 = .ok (.aload_n 0, 1) := by decide +kernel
theorem dX12_squares_20 : decode cX12_squares 20 = .ok (.iload 4, 2) := by decide +kernel
theorem dX12_squares_22 : decode cX12_squares 22 = .ok (.iload 4, 2) := by decide +kernel
theorem dX12_squares_24 : decode cX12_squares 24 = .ok (.aload_n 0, 1) := by decide +kernel
theorem dX12_squares_25 : decode cX12_squares 25 = .ok (.getfield 97, 3) := by decide +kernel
theorem dX12_squares_28 : decode cX12_squares 28 = .ok (.invokevirtual 334, 3) := by decide +kernel
theorem dX12_squares_31 : decode cX12_squares 31 = .ok (.i2l, 1) := by decide +kernel
theorem dX12_squares_32 : decode cX12_squares 32 = .ok (.goto 16, 3) := by decide +kernel
theorem dX12_sums_0 : decode cX12_sums 0 = .ok (.aload_n 0, 1) := by decide +kernel
theorem dX12_sums_1 : decode cX12_sums 1 = .ok (.iload_n 1, 1) := by decide +kernel
theorem dX12_sums_2 : decode cX12_sums 2 = .ok (.invokevirtual 454, 3) := by decide +kernel
theorem dX12_areSenders_0 : decode cX12_areSenders 0 = .ok (.iload_n 1, 1) := by decide +kernel
theorem dX12_areSenders_1 : decode cX12_areSenders 1 = .ok (.i2l, 1) := by decide +kernel
theorem dX12_areSenders_2 : decode cX12_areSenders 2 = .ok (.lconst 0, 1) := by decide +kernel
theorem dX12_areSenders_3 : decode cX12_areSenders 3 = .ok (.iconst 1, 1) := by decide +kernel
theorem dX12_areSenders_4 : decode cX12_areSenders 4 = .ok (.aload_n 0, 1) := by decide +kernel
theorem dX12_areSenders_5 : decode cX12_areSenders 5 = .ok (.getfield 237, 3) := by decide +kernel
theorem dX12_areSenders_8 : decode cX12_areSenders 8 = .ok (.ishl, 1) := by decide +kernel
theorem dX12_areSenders_9 : decode cX12_areSenders 9 = .ok (.iconst 1, 1) := by decide +kernel
theorem dX12_areSenders_10 : decode cX12_areSenders 10 = .ok (.isub, 1) := by decide +kernel
theorem dX12_areSenders_11 : decode cX12_areSenders 11 = .ok (.i2l, 1) := by decide +kernel
theorem dX12_areSenders_12 : decode cX12_areSenders 12 = .ok (.invokestatic 191, 3) := by decide +kernel
theorem dX12_areSenders_15 : decode cX12_areSenders 15 = .ok (.ireturn, 1) := by decide +kernel
theorem dX12_sums_5 : decode cX12_sums 5 = .ok (.ifCond .eq 38, 3) := by decide +kernel
theorem dX12_sums_43 : decode cX12_sums 43 = .ok (.ldc2_w 445, 3) := by decide +kernel
theorem dX12_sums_46 : decode cX12_sums 46 = .ok (.lreturn, 1) := by decide +kernel
theorem dX12_sums_8 : decode cX12_sums 8 = .ok (.iload_n 2, 1) := by decide +kernel
theorem dX12_sums_9 : decode cX12_sums 9 = .ok (.i2l, 1) := by decide +kernel
theorem dX12_sums_10 : decode cX12_sums 10 = .ok (.lconst 1, 1) := by decide +kernel
theorem dX12_sums_11 : decode cX12_sums 11 = .ok (.ldc2_w 431, 3) := by decide +kernel
theorem dX12_sums_14 : decode cX12_sums 14 = .ok (.invokestatic 191, 3) := by decide +kernel
theorem dX12_sums_17 : decode cX12_sums 17 = .ok (.ifCond .eq 26, 3) := by decide +kernel
theorem dX12_sums_20 : decode cX12_sums 20 = .ok (.iload_n 3, 1) := by decide +kernel
theorem dX12_sums_21 : decode cX12_sums 21 = .ok (.iconst (-1), 1) := by decide +kernel
theorem dX12_sums_22 : decode cX12_sums 22 = .ok (.if_icmp .eq 11, 3) := by decide +kernel
theorem dX12_sums_33 : decode cX12_sums 33 = .ok (.aload_n 0, 1) := by decide +kernel
theorem dX12_sums_34 : decode cX12_sums 34 = .ok (.iload_n 1, 1) := by decide +kernel
theorem dX12_sums_35 : decode cX12_sums 35 = .ok (.iload_n 2, 1) := by decide +kernel
theorem dX12_sums_36 : decode cX12_sums 36 = .ok (.iconst 1, 1) := by decide +kernel
theorem dX12_sums_37 : decode cX12_sums 37 = .ok (.invokevirtual 457, 3) := by decide +kernel
theorem dX12_isLeast_0 : decode cX12_isLeast 0 = .ok (.aload_n 0, 1) := by decide +kernel
theorem dX12_isLeast_1 : decode cX12_isLeast 1 = .ok (.ldc2_w 384, 3) := by decide +kernel
theorem dX12_isLeast_4 : decode cX12_isLeast 4 = .ok (.putfield 447, 3) := by decide +kernel
theorem dX12_isLeast_7 : decode cX12_isLeast 7 = .ok (.iconst 0, 1) := by decide +kernel
theorem dX12_isLeast_8 : decode cX12_isLeast 8 = .ok (.istore 4, 2) := by decide +kernel
theorem dX12_isLeast_10 : decode cX12_isLeast 10 = .ok (.iload 4, 2) := by decide +kernel
theorem dX12_isLeast_12 : decode cX12_isLeast 12 = .ok (.aload_n 0, 1) := by decide +kernel
theorem dX12_isLeast_13 : decode cX12_isLeast 13 = .ok (.getfield 237, 3) := by decide +kernel
theorem dX12_isLeast_16 : decode cX12_isLeast 16 = .ok (.if_icmp .ge 32, 3) := by decide +kernel
theorem dX12_isLeast_48 : decode cX12_isLeast 48 = .ok (.iconst 1, 1) := by decide +kernel
theorem dX12_isLeast_49 : decode cX12_isLeast 49 = .ok (.istore 4, 2) := by decide +kernel
theorem dX12_isLeast_51 : decode cX12_isLeast 51 = .ok (.iload 4, 2) := by decide +kernel
theorem dX12_isLeast_53 : decode cX12_isLeast 53 = .ok (.ifCond .eq 136, 3) := by decide +kernel
theorem dX12_isLeast_56 : decode cX12_isLeast 56 = .ok (.iconst 1, 1) := by decide +kernel
theorem dX12_isLeast_57 : decode cX12_isLeast 57 = .ok (.istore 5, 2) := by decide +kernel
theorem dX12_isLeast_59 : decode cX12_isLeast 59 = .ok (.iconst 0, 1) := by decide +kernel
theorem dX12_isLeast_60 : decode cX12_isLeast 60 = .ok (.istore 6, 2) := by decide +kernel
theorem dX12_isLeast_62 : decode cX12_isLeast 62 = .ok (.iload 6, 2) := by decide +kernel
theorem dX12_isLeast_64 : decode cX12_isLeast 64 = .ok (.aload_n 0, 1) := by decide +kernel
theorem dX12_isLeast_65 : decode cX12_isLeast 65 = .ok (.getfield 237, 3) := by decide +kernel
theorem dX12_isLeast_68 : decode cX12_isLeast 68 = .ok (.if_icmp .ge 31, 3) := by decide +kernel
theorem dX12_isLeast_99 : decode cX12_isLeast 99 = .ok (.iload 5, 2) := by decide +kernel
theorem dX12_isLeast_101 : decode cX12_isLeast 101 = .ok (.ifCond .eq 7, 3) := by decide +kernel
theorem dX12_isLeast_104 : decode cX12_isLeast 104 = .ok (.lconst 0, 1) := by decide +kernel
theorem dX12_isLeast_105 : decode cX12_isLeast 105 = .ok (.goto 8, 3) := by decide +kernel
theorem dX12_isLeast_113 : decode cX12_isLeast 113 = .ok (.lstore 6, 2) := by decide +kernel
theorem dX12_isLeast_115 : decode cX12_isLeast 115 = .ok (.iload 5, 2) := by decide +kernel
theorem dX12_isLeast_117 : decode cX12_isLeast 117 = .ok (.ifCond .ne 60, 3) := by decide +kernel
theorem dX12_isLeast_177 : decode cX12_isLeast 177 = .ok (.aload_n 0, 1) := by decide +kernel
theorem dX12_isLeast_178 : decode cX12_isLeast 178 = .ok (.iload_n 1, 1) := by decide +kernel
theorem dX12_isLeast_179 : decode cX12_isLeast 179 = .ok (.iload_n 2, 1) := by decide +kernel
theorem dX12_isLeast_180 : decode cX12_isLeast 180 = .ok (.iload_n 3, 1) := by decide +kernel
theorem dX12_isLeast_181 : decode cX12_isLeast 181 = .ok (.invokevirtual 450, 3) := by decide +kernel
theorem dX12_isNext_0 : decode cX12_isNext 0 = .ok (.aload_n 0, 1) := by decide +kernel
theorem dX12_isNext_1 : decode cX12_isNext 1 = .ok (.getfield 237, 3) := by decide +kernel
theorem dX12_isNext_4 : decode cX12_isNext 4 = .ok (.iconst 1, 1) := by decide +kernel
theorem dX12_isNext_5 : decode cX12_isNext 5 = .ok (.isub, 1) := by decide +kernel
theorem dX12_isNext_6 : decode cX12_isNext 6 = .ok (.istore 4, 2) := by decide +kernel
theorem dX12_isNext_8 : decode cX12_isNext 8 = .ok (.iload 4, 2) := by decide +kernel
theorem dX12_isNext_10 : decode cX12_isNext 10 = .ok (.ifCond .lt 54, 3) := by decide +kernel
theorem dX12_isNext_64 : decode cX12_isNext 64 = .ok (.iconst 0, 1) := by decide +kernel
theorem dX12_isNext_65 : decode cX12_isNext 65 = .ok (.ireturn, 1) := by decide +kernel
theorem dX12_isNext_13 : decode cX12_isNext 13 = .ok (.iload_n 1, 1) := by decide +kernel
theorem dX12_isNext_14 : decode cX12_isNext 14 = .ok (.iload 4, 2) := by decide +kernel
theorem dX12_isNext_16 : decode cX12_isNext 16 = .ok (.ishr, 1) := by decide +kernel
theorem dX12_isNext_17 : decode cX12_isNext 17 = .ok (.iconst 1, 1) := by decide +kernel
theorem dX12_isNext_18 : decode cX12_isNext 18 = .ok (.iand, 1) := by decide +kernel
theorem dX12_isNext_19 : decode cX12_isNext 19 = .ok (.ifCond .ne 6, 3) := by decide +kernel
theorem dX12_isNext_25 : decode cX12_isNext 25 = .ok (.aload_n 0, 1) := by decide +kernel
theorem dX12_isNext_26 : decode cX12_isNext 26 = .ok (.getfield 103, 3) := by decide +kernel
theorem dX12_isNext_29 : decode cX12_isNext 29 = .ok (.iload 4, 2) := by decide +kernel
theorem dX12_isNext_31 : decode cX12_isNext 31 = .ok (.dup2, 1) := by decide +kernel
theorem dX12_isNext_32 : decode cX12_isNext 32 = .ok (.iaload, 1) := by decide +kernel
theorem dX12_isNext_33 : decode cX12_isNext 33 = .ok (.iload_n 3, 1) := by decide +kernel
theorem dX12_isNext_34 : decode cX12_isNext 34 = .ok (.iadd, 1) := by decide +kernel
theorem dX12_isNext_35 : decode cX12_isNext 35 = .ok (.iastore, 1) := by decide +kernel
theorem dX12_isNext_36 : decode cX12_isNext 36 = .ok (.aload_n 0, 1) := by decide +kernel
theorem dX12_isNext_37 : decode cX12_isNext 37 = .ok (.getfield 103, 3) := by decide +kernel
theorem dX12_isNext_40 : decode cX12_isNext 40 = .ok (.iload 4, 2) := by decide +kernel
theorem dX12_isNext_42 : decode cX12_isNext 42 = .ok (.iaload, 1) := by decide +kernel
theorem dX12_isNext_43 : decode cX12_isNext 43 = .ok (.iload_n 2, 1) := by decide +kernel
theorem dX12_isNext_44 : decode cX12_isNext 44 = .ok (.if_icmp .gt 5, 3) := by decide +kernel
theorem dX12_isNext_49 : decode cX12_isNext 49 = .ok (.aload_n 0, 1) := by decide +kernel
theorem dX12_isNext_50 : decode cX12_isNext 50 = .ok (.getfield 103, 3) := by decide +kernel
theorem dX12_isNext_53 : decode cX12_isNext 53 = .ok (.iload 4, 2) := by decide +kernel
theorem dX12_isNext_55 : decode cX12_isNext 55 = .ok (.iload_n 2, 1) := by decide +kernel
theorem dX12_isNext_56 : decode cX12_isNext 56 = .ok (.ineg, 1) := by decide +kernel
theorem dX12_isNext_57 : decode cX12_isNext 57 = .ok (.iastore, 1) := by decide +kernel
theorem dX12_isNext_58 : decode cX12_isNext 58 = .ok (.iinc 4 (-1), 3) := by decide +kernel
theorem dX12_isNext_61 : decode cX12_isNext 61 = .ok (.goto (-53), 3) := by decide +kernel
theorem dX12_isNext_47 : decode cX12_isNext 47 = .ok (.iconst 1, 1) := by decide +kernel
theorem dX12_isNext_48 : decode cX12_isNext 48 = .ok (.ireturn, 1) := by decide +kernel
theorem dX12_isNext_22 : decode cX12_isNext 22 = .ok (.goto 36, 3) := by decide +kernel
theorem dX12_isLeast_184 : decode cX12_isLeast 184 = .ok (.istore 4, 2) := by decide +kernel
theorem dX12_isLeast_186 : decode cX12_isLeast 186 = .ok (.goto (-135), 3) := by decide +kernel
theorem dX12_isLeast_189 : decode cX12_isLeast 189 = .ok (.aload_n 0, 1) := by decide +kernel
theorem dX12_isLeast_190 : decode cX12_isLeast 190 = .ok (.getfield 447, 3) := by decide +kernel
theorem dX12_isLeast_193 : decode cX12_isLeast 193 = .ok (.lconst 0, 1) := by decide +kernel
theorem dX12_isLeast_194 : decode cX12_isLeast 194 = .ok (.lcmp, 1) := by decide +kernel
theorem dX12_isLeast_195 : decode cX12_isLeast 195 = .ok (.ifCond .lt 7, 3) := by decide +kernel
theorem dX12_isLeast_202 : decode cX12_isLeast 202 = .ok (.iconst 0, 1) := by decide +kernel
theorem dX12_isLeast_203 : decode cX12_isLeast 203 = .ok (.ireturn, 1) := by decide +kernel
theorem dX12_apart_0 : decode cX12_apart 0 = .ok (.aload_n 0, 1) := by decide +kernel
