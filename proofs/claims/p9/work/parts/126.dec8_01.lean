theorem dX2_undoStep_71 : decode cX2_undoStep 71 = .ok (.ineg, 1) := by decide +kernel
theorem dX2_undoStep_72 : decode cX2_undoStep 72 = .ok (.invokevirtual 72, 3) := by decide +kernel
theorem dX2_undoStep_75 : decode cX2_undoStep 75 = .ok (.iconst 1, 1) := by decide +kernel
theorem dX2_undoStep_76 : decode cX2_undoStep 76 = .ok (.ireturn, 1) := by decide +kernel
theorem dX2_undoStep_7 : decode cX2_undoStep 7 = .ok (.iconst 0, 1) := by decide +kernel
theorem dX2_undoStep_8 : decode cX2_undoStep 8 = .ok (.ireturn, 1) := by decide +kernel
theorem dX11_undo_7 : decode cX11_undo 7 = .ok (.ireturn, 1) := by decide +kernel
theorem dX11_redo_0 : decode cX11_redo 0 = .ok (.aload_n 0, 1) := by decide +kernel
theorem dX11_redo_1 : decode cX11_redo 1 = .ok (.getfield 76, 3) := by decide +kernel
theorem dX11_redo_4 : decode cX11_redo 4 = .ok (.invokevirtual 302, 3) := by decide +kernel
theorem dX2_redoStep_0 : decode cX2_redoStep 0 = .ok (.aload_n 0, 1) := by decide +kernel
theorem dX2_redoStep_1 : decode cX2_redoStep 1 = .ok (.getfield 36, 3) := by decide +kernel
theorem dX2_redoStep_4 : decode cX2_redoStep 4 = .ok (.ifCond .ne 5, 3) := by decide +kernel
theorem dX2_redoStep_9 : decode cX2_redoStep 9 = .ok (.aload_n 0, 1) := by decide +kernel
theorem dX2_redoStep_10 : decode cX2_redoStep 10 = .ok (.aload_n 0, 1) := by decide +kernel
theorem dX2_redoStep_11 : decode cX2_redoStep 11 = .ok (.getfield 33, 3) := by decide +kernel
theorem dX2_redoStep_14 : decode cX2_redoStep 14 = .ok (.invokevirtual 56, 3) := by decide +kernel
theorem dX2_redoStep_17 : decode cX2_redoStep 17 = .ok (.istore_n 1, 1) := by decide +kernel
theorem dX2_redoStep_18 : decode cX2_redoStep 18 = .ok (.aload_n 0, 1) := by decide +kernel
theorem dX2_redoStep_19 : decode cX2_redoStep 19 = .ok (.aload_n 0, 1) := by decide +kernel
theorem dX2_redoStep_20 : decode cX2_redoStep 20 = .ok (.getfield 22, 3) := by decide +kernel
theorem dX2_redoStep_23 : decode cX2_redoStep 23 = .ok (.iload_n 1, 1) := by decide +kernel
theorem dX2_redoStep_24 : decode cX2_redoStep 24 = .ok (.iaload, 1) := by decide +kernel
theorem dX2_redoStep_25 : decode cX2_redoStep 25 = .ok (.aload_n 0, 1) := by decide +kernel
theorem dX2_redoStep_26 : decode cX2_redoStep 26 = .ok (.getfield 22, 3) := by decide +kernel
theorem dX2_redoStep_29 : decode cX2_redoStep 29 = .ok (.iload_n 1, 1) := by decide +kernel
theorem dX2_redoStep_30 : decode cX2_redoStep 30 = .ok (.iconst 1, 1) := by decide +kernel
theorem dX2_redoStep_31 : decode cX2_redoStep 31 = .ok (.iadd, 1) := by decide +kernel
theorem dX2_redoStep_32 : decode cX2_redoStep 32 = .ok (.iaload, 1) := by decide +kernel
theorem dX2_redoStep_33 : decode cX2_redoStep 33 = .ok (.aload_n 0, 1) := by decide +kernel
theorem dX2_redoStep_34 : decode cX2_redoStep 34 = .ok (.getfield 22, 3) := by decide +kernel
theorem dX2_redoStep_37 : decode cX2_redoStep 37 = .ok (.iload_n 1, 1) := by decide +kernel
theorem dX2_redoStep_38 : decode cX2_redoStep 38 = .ok (.iconst 2, 1) := by decide +kernel
theorem dX2_redoStep_39 : decode cX2_redoStep 39 = .ok (.iadd, 1) := by decide +kernel
theorem dX2_redoStep_40 : decode cX2_redoStep 40 = .ok (.iaload, 1) := by decide +kernel
theorem dX2_redoStep_41 : decode cX2_redoStep 41 = .ok (.invokevirtual 72, 3) := by decide +kernel
theorem dX2_redoStep_44 : decode cX2_redoStep 44 = .ok (.aload_n 0, 1) := by decide +kernel
theorem dX2_redoStep_45 : decode cX2_redoStep 45 = .ok (.dup, 1) := by decide +kernel
theorem dX2_redoStep_46 : decode cX2_redoStep 46 = .ok (.getfield 33, 3) := by decide +kernel
theorem dX2_redoStep_49 : decode cX2_redoStep 49 = .ok (.iconst 1, 1) := by decide +kernel
theorem dX2_redoStep_50 : decode cX2_redoStep 50 = .ok (.iadd, 1) := by decide +kernel
theorem dX2_redoStep_51 : decode cX2_redoStep 51 = .ok (.putfield 33, 3) := by decide +kernel
theorem dX2_redoStep_54 : decode cX2_redoStep 54 = .ok (.aload_n 0, 1) := by decide +kernel
theorem dX2_redoStep_55 : decode cX2_redoStep 55 = .ok (.dup, 1) := by decide +kernel
theorem dX2_redoStep_56 : decode cX2_redoStep 56 = .ok (.getfield 36, 3) := by decide +kernel
theorem dX2_redoStep_59 : decode cX2_redoStep 59 = .ok (.iconst 1, 1) := by decide +kernel
theorem dX2_redoStep_60 : decode cX2_redoStep 60 = .ok (.isub, 1) := by decide +kernel
theorem dX2_redoStep_61 : decode cX2_redoStep 61 = .ok (.putfield 36, 3) := by decide +kernel
theorem dX2_redoStep_64 : decode cX2_redoStep 64 = .ok (.aload_n 0, 1) := by decide +kernel
theorem dX2_redoStep_65 : decode cX2_redoStep 65 = .ok (.dup, 1) := by decide +kernel
theorem dX2_redoStep_66 : decode cX2_redoStep 66 = .ok (.getfield 39, 3) := by decide +kernel
theorem dX2_redoStep_69 : decode cX2_redoStep 69 = .ok (.iconst 1, 1) := by decide +kernel
theorem dX2_redoStep_70 : decode cX2_redoStep 70 = .ok (.iadd, 1) := by decide +kernel
theorem dX2_redoStep_71 : decode cX2_redoStep 71 = .ok (.putfield 39, 3) := by decide +kernel
theorem dX2_redoStep_74 : decode cX2_redoStep 74 = .ok (.iconst 1, 1) := by decide +kernel
theorem dX2_redoStep_75 : decode cX2_redoStep 75 = .ok (.ireturn, 1) := by decide +kernel
theorem dX2_redoStep_7 : decode cX2_redoStep 7 = .ok (.iconst 0, 1) := by decide +kernel
theorem dX2_redoStep_8 : decode cX2_redoStep 8 = .ok (.ireturn, 1) := by decide +kernel
theorem dX11_redo_7 : decode cX11_redo 7 = .ok (.ireturn, 1) := by decide +kernel
theorem dX11_on_0 : decode cX11_on 0 = .ok (.aload_n 0, 1) := by decide +kernel
theorem dX11_on_1 : decode cX11_on 1 = .ok (.invokevirtual 407, 3) := by decide +kernel
theorem dX11_on_4 : decode cX11_on 4 = .ok (.istore_n 1, 1) := by decide +kernel
theorem dX11_on_5 : decode cX11_on 5 = .ok (.iload_n 1, 1) := by decide +kernel
theorem dX11_on_6 : decode cX11_on 6 = .ok (.ifCond .eq 49, 3) := by decide +kernel
theorem dX11_on_55 : decode cX11_on 55 = .ok (.iload_n 1, 1) := by decide +kernel
theorem dX11_on_56 : decode cX11_on 56 = .ok (.ifCond .eq 25, 3) := by decide +kernel
theorem dX11_on_81 : decode cX11_on 81 = .ok (.aload_n 0, 1) := by decide +kernel
theorem dX11_on_82 : decode cX11_on 82 = .ok (.getfield 20, 3) := by decide +kernel
theorem dX11_on_85 : decode cX11_on 85 = .ok (.iconst 0, 1) := by decide +kernel
theorem dX11_on_86 : decode cX11_on 86 = .ok (.invokevirtual 97, 3) := by decide +kernel
theorem dX11_on_89 : decode cX11_on 89 = .ok (.iload_n 1, 1) := by decide +kernel
theorem dX11_on_90 : decode cX11_on 90 = .ok (.ireturn, 1) := by decide +kernel
theorem dX11_on_9 : decode cX11_on 9 = .ok (.aload_n 0, 1) := by decide +kernel
theorem dX11_on_10 : decode cX11_on 10 = .ok (.getfield 20, 3) := by decide +kernel
theorem dX11_on_13 : decode cX11_on 13 = .ok (.aload_n 0, 1) := by decide +kernel
theorem dX11_on_14 : decode cX11_on 14 = .ok (.getfield 20, 3) := by decide +kernel
theorem dX11_on_17 : decode cX11_on 17 = .ok (.invokevirtual 93, 3) := by decide +kernel
theorem dX11_on_20 : decode cX11_on 20 = .ok (.iconst 2, 1) := by decide +kernel
theorem dX11_on_21 : decode cX11_on 21 = .ok (.isub, 1) := by decide +kernel
theorem dX11_on_22 : decode cX11_on 22 = .ok (.invokevirtual 410, 3) := by decide +kernel
theorem dX11_on_25 : decode cX11_on 25 = .ok (.istore_n 2, 1) := by decide +kernel
theorem dX11_on_26 : decode cX11_on 26 = .ok (.aload_n 0, 1) := by decide +kernel
theorem dX11_on_27 : decode cX11_on 27 = .ok (.getfield 80, 3) := by decide +kernel
theorem dX11_on_30 : decode cX11_on 30 = .ok (.aload_n 0, 1) := by decide +kernel
theorem dX11_on_31 : decode cX11_on 31 = .ok (.getfield 69, 3) := by decide +kernel
theorem dX11_on_34 : decode cX11_on 34 = .ok (.invokevirtual 114, 3) := by decide +kernel
theorem dX11_on_37 : decode cX11_on 37 = .ok (.aload_n 0, 1) := by decide +kernel
theorem dX11_on_38 : decode cX11_on 38 = .ok (.getfield 80, 3) := by decide +kernel
theorem dX11_on_41 : decode cX11_on 41 = .ok (.iload_n 2, 1) := by decide +kernel
theorem dX11_on_42 : decode cX11_on 42 = .ok (.invokevirtual 296, 3) := by decide +kernel
theorem dX11_on_45 : decode cX11_on 45 = .ok (.iload_n 2, 1) := by decide +kernel
theorem dX11_on_46 : decode cX11_on 46 = .ok (.if_icmp .ne 7, 3) := by decide +kernel
theorem dX11_on_53 : decode cX11_on 53 = .ok (.iconst 0, 1) := by decide +kernel
theorem dX11_on_54 : decode cX11_on 54 = .ok (.istore_n 1, 1) := by decide +kernel
theorem dX11_on_49 : decode cX11_on 49 = .ok (.iconst 1, 1) := by decide +kernel
theorem dX11_on_50 : decode cX11_on 50 = .ok (.goto 4, 3) := by decide +kernel
theorem dX11_on_59 : decode cX11_on 59 = .ok (.aload_n 0, 1) := by decide +kernel
theorem dX11_on_60 : decode cX11_on 60 = .ok (.invokevirtual 194, 3) := by decide +kernel
theorem dX11_on_63 : decode cX11_on 63 = .ok (.aload_n 0, 1) := by decide +kernel
theorem dX11_on_64 : decode cX11_on 64 = .ok (.getfield 76, 3) := by decide +kernel
theorem dX11_on_67 : decode cX11_on 67 = .ok (.astore_n 2, 1) := by decide +kernel
theorem dX11_on_68 : decode cX11_on 68 = .ok (.aload_n 0, 1) := by decide +kernel
theorem dX11_on_69 : decode cX11_on 69 = .ok (.aload_n 0, 1) := by decide +kernel
theorem dX11_on_70 : decode cX11_on 70 = .ok (.getfield 80, 3) := by decide +kernel
theorem dX11_on_73 : decode cX11_on 73 = .ok (.putfield 76, 3) := by decide +kernel
theorem dX11_on_76 : decode cX11_on 76 = .ok (.aload_n 0, 1) := by decide +kernel
theorem dX11_on_77 : decode cX11_on 77 = .ok (.aload_n 2, 1) := by decide +kernel
theorem dX11_on_78 : decode cX11_on 78 = .ok (.putfield 80, 3) := by decide +kernel
