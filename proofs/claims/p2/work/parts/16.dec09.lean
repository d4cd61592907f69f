theorem dX2_timesIn_6 : decode cX2_timesIn 6 = .ok (.invokevirtual 75, 3) := by decide +kernel
theorem dX2_timesIn_9 : decode cX2_timesIn 9 = .ok (.istore_n 3, 1) := by decide +kernel
theorem dX2_timesIn_10 : decode cX2_timesIn 10 = .ok (.iload_n 3, 1) := by decide +kernel
theorem dX2_timesIn_11 : decode cX2_timesIn 11 = .ok (.ifCond .ne 5, 3) := by decide +kernel
theorem dX2_timesIn_16 : decode cX2_timesIn 16 = .ok (.aload_n 0, 1) := by decide +kernel
theorem dX2_timesIn_17 : decode cX2_timesIn 17 = .ok (.getfield 12, 3) := by decide +kernel
theorem dX2_timesIn_20 : decode cX2_timesIn 20 = .ok (.iload_n 1, 1) := by decide +kernel
theorem dX2_timesIn_21 : decode cX2_timesIn 21 = .ok (.iload_n 2, 1) := by decide +kernel
theorem dX2_timesIn_22 : decode cX2_timesIn 22 = .ok (.invokevirtual 75, 3) := by decide +kernel
theorem dX2_timesIn_25 : decode cX2_timesIn 25 = .ok (.istore 4, 2) := by decide +kernel
theorem dX2_timesIn_27 : decode cX2_timesIn 27 = .ok (.iconst 2, 1) := by decide +kernel
theorem dX2_timesIn_28 : decode cX2_timesIn 28 = .ok (.iload 4, 2) := by decide +kernel
theorem dX2_timesIn_30 : decode cX2_timesIn 30 = .ok (.invokestatic 78, 3) := by decide +kernel
theorem dX2_timesIn_33 : decode cX2_timesIn 33 = .ok (.imul, 1) := by decide +kernel
theorem dX2_timesIn_34 : decode cX2_timesIn 34 = .ok (.iload_n 3, 1) := by decide +kernel
theorem dX2_timesIn_35 : decode cX2_timesIn 35 = .ok (.iadd, 1) := by decide +kernel
theorem dX2_timesIn_36 : decode cX2_timesIn 36 = .ok (.iconst 1, 1) := by decide +kernel
theorem dX2_timesIn_37 : decode cX2_timesIn 37 = .ok (.isub, 1) := by decide +kernel
theorem dX2_timesIn_38 : decode cX2_timesIn 38 = .ok (.iconst 2, 1) := by decide +kernel
theorem dX2_timesIn_39 : decode cX2_timesIn 39 = .ok (.iload_n 3, 1) := by decide +kernel
theorem dX2_timesIn_40 : decode cX2_timesIn 40 = .ok (.imul, 1) := by decide +kernel
theorem dX2_timesIn_41 : decode cX2_timesIn 41 = .ok (.idiv, 1) := by decide +kernel
theorem dX11_undo_0 : decode cX11_undo 0 = .ok (.aload_n 0, 1) := by decide +kernel
theorem dX11_undo_1 : decode cX11_undo 1 = .ok (.getfield 76, 3) := by decide +kernel
theorem dX11_undo_4 : decode cX11_undo 4 = .ok (.invokevirtual 299, 3) := by decide +kernel
theorem dX2_undoStep_0 : decode cX2_undoStep 0 = .ok (.aload_n 0, 1) := by decide +kernel
theorem dX2_undoStep_1 : decode cX2_undoStep 1 = .ok (.getfield 33, 3) := by decide +kernel
theorem dX2_undoStep_4 : decode cX2_undoStep 4 = .ok (.ifCond .ne 5, 3) := by decide +kernel
theorem dX2_undoStep_9 : decode cX2_undoStep 9 = .ok (.aload_n 0, 1) := by decide +kernel
theorem dX2_undoStep_10 : decode cX2_undoStep 10 = .ok (.dup, 1) := by decide +kernel
theorem dX2_undoStep_11 : decode cX2_undoStep 11 = .ok (.getfield 33, 3) := by decide +kernel
theorem dX2_undoStep_14 : decode cX2_undoStep 14 = .ok (.iconst 1, 1) := by decide +kernel
theorem dX2_undoStep_15 : decode cX2_undoStep 15 = .ok (.isub, 1) := by decide +kernel
theorem dX2_undoStep_16 : decode cX2_undoStep 16 = .ok (.putfield 33, 3) := by decide +kernel
theorem dX2_undoStep_19 : decode cX2_undoStep 19 = .ok (.aload_n 0, 1) := by decide +kernel
theorem dX2_undoStep_20 : decode cX2_undoStep 20 = .ok (.dup, 1) := by decide +kernel
theorem dX2_undoStep_21 : decode cX2_undoStep 21 = .ok (.getfield 36, 3) := by decide +kernel
theorem dX2_undoStep_24 : decode cX2_undoStep 24 = .ok (.iconst 1, 1) := by decide +kernel
theorem dX2_undoStep_25 : decode cX2_undoStep 25 = .ok (.iadd, 1) := by decide +kernel
theorem dX2_undoStep_26 : decode cX2_undoStep 26 = .ok (.putfield 36, 3) := by decide +kernel
theorem dX2_undoStep_29 : decode cX2_undoStep 29 = .ok (.aload_n 0, 1) := by decide +kernel
theorem dX2_undoStep_30 : decode cX2_undoStep 30 = .ok (.dup, 1) := by decide +kernel
theorem dX2_undoStep_31 : decode cX2_undoStep 31 = .ok (.getfield 39, 3) := by decide +kernel
theorem dX2_undoStep_34 : decode cX2_undoStep 34 = .ok (.iconst 1, 1) := by decide +kernel
theorem dX2_undoStep_35 : decode cX2_undoStep 35 = .ok (.isub, 1) := by decide +kernel
theorem dX2_undoStep_36 : decode cX2_undoStep 36 = .ok (.putfield 39, 3) := by decide +kernel
theorem dX2_undoStep_39 : decode cX2_undoStep 39 = .ok (.aload_n 0, 1) := by decide +kernel
theorem dX2_undoStep_40 : decode cX2_undoStep 40 = .ok (.aload_n 0, 1) := by decide +kernel
theorem dX2_undoStep_41 : decode cX2_undoStep 41 = .ok (.getfield 33, 3) := by decide +kernel
theorem dX2_undoStep_44 : decode cX2_undoStep 44 = .ok (.invokevirtual 56, 3) := by decide +kernel
theorem dX2_slot_0 : decode cX2_slot 0 = .ok (.aload_n 0, 1) := by decide +kernel
theorem dX2_slot_1 : decode cX2_slot 1 = .ok (.getfield 30, 3) := by decide +kernel
theorem dX2_slot_4 : decode cX2_slot 4 = .ok (.iload_n 1, 1) := by decide +kernel
theorem dX2_slot_5 : decode cX2_slot 5 = .ok (.iadd, 1) := by decide +kernel
theorem dX2_slot_6 : decode cX2_slot 6 = .ok (.bipush 40, 2) := by decide +kernel
theorem dX2_slot_8 : decode cX2_slot 8 = .ok (.irem, 1) := by decide +kernel
theorem dX2_slot_9 : decode cX2_slot 9 = .ok (.iconst 3, 1) := by decide +kernel
theorem dX2_slot_10 : decode cX2_slot 10 = .ok (.imul, 1) := by decide +kernel
theorem dX2_slot_11 : decode cX2_slot 11 = .ok (.ireturn, 1) := by decide +kernel
theorem dX2_undoStep_47 : decode cX2_undoStep 47 = .ok (.istore_n 1, 1) := by decide +kernel
theorem dX2_undoStep_48 : decode cX2_undoStep 48 = .ok (.aload_n 0, 1) := by decide +kernel
theorem dX2_undoStep_49 : decode cX2_undoStep 49 = .ok (.aload_n 0, 1) := by decide +kernel
theorem dX2_undoStep_50 : decode cX2_undoStep 50 = .ok (.getfield 22, 3) := by decide +kernel
theorem dX2_undoStep_53 : decode cX2_undoStep 53 = .ok (.iload_n 1, 1) := by decide +kernel
theorem dX2_undoStep_54 : decode cX2_undoStep 54 = .ok (.iaload, 1) := by decide +kernel
theorem dX2_undoStep_55 : decode cX2_undoStep 55 = .ok (.aload_n 0, 1) := by decide +kernel
theorem dX2_undoStep_56 : decode cX2_undoStep 56 = .ok (.getfield 22, 3) := by decide +kernel
theorem dX2_undoStep_59 : decode cX2_undoStep 59 = .ok (.iload_n 1, 1) := by decide +kernel
theorem dX2_undoStep_60 : decode cX2_undoStep 60 = .ok (.iconst 1, 1) := by decide +kernel
theorem dX2_undoStep_61 : decode cX2_undoStep 61 = .ok (.iadd, 1) := by decide +kernel
theorem dX2_undoStep_62 : decode cX2_undoStep 62 = .ok (.iaload, 1) := by decide +kernel
theorem dX2_undoStep_63 : decode cX2_undoStep 63 = .ok (.aload_n 0, 1) := by decide +kernel
theorem dX2_undoStep_64 : decode cX2_undoStep 64 = .ok (.getfield 22, 3) := by decide +kernel
theorem dX2_undoStep_67 : decode cX2_undoStep 67 = .ok (.iload_n 1, 1) := by decide +kernel
theorem dX2_undoStep_68 : decode cX2_undoStep 68 = .ok (.iconst 2, 1) := by decide +kernel
theorem dX2_undoStep_69 : decode cX2_undoStep 69 = .ok (.iadd, 1) := by decide +kernel
theorem dX2_undoStep_70 : decode cX2_undoStep 70 = .ok (.iaload, 1) := by decide +kernel
theorem dX2_undoStep_71 : decode cX2_undoStep 71 = .ok (.ineg, 1) := by decide +kernel
theorem dX2_undoStep_72 : decode cX2_undoStep 72 = .ok (.invokevirtual 72, 3) := by decide +kernel
theorem dX2_takeAway_0 : decode cX2_takeAway 0 = .ok (.aload_n 0, 1) := by decide +kernel
theorem dX2_takeAway_1 : decode cX2_takeAway 1 = .ok (.getfield 12, 3) := by decide +kernel
theorem dX2_takeAway_4 : decode cX2_takeAway 4 = .ok (.iload_n 1, 1) := by decide +kernel
theorem dX2_takeAway_5 : decode cX2_takeAway 5 = .ok (.iload_n 2, 1) := by decide +kernel
theorem dX2_takeAway_6 : decode cX2_takeAway 6 = .ok (.iload_n 3, 1) := by decide +kernel
theorem dX2_takeAway_7 : decode cX2_takeAway 7 = .ok (.invokevirtual 83, 3) := by decide +kernel
theorem dX2_takeAway_10 : decode cX2_takeAway 10 = .ok (.iconst 0, 1) := by decide +kernel
theorem dX2_takeAway_11 : decode cX2_takeAway 11 = .ok (.istore 4, 2) := by decide +kernel
theorem dX2_takeAway_13 : decode cX2_takeAway 13 = .ok (.iload 4, 2) := by decide +kernel
theorem dX2_takeAway_15 : decode cX2_takeAway 15 = .ok (.iconst 5, 1) := by decide +kernel
theorem dX2_takeAway_16 : decode cX2_takeAway 16 = .ok (.if_icmp .ge 37, 3) := by decide +kernel
theorem dX2_takeAway_19 : decode cX2_takeAway 19 = .ok (.aload_n 0, 1) := by decide +kernel
theorem dX2_takeAway_20 : decode cX2_takeAway 20 = .ok (.getfield 18, 3) := by decide +kernel
theorem dX2_takeAway_23 : decode cX2_takeAway 23 = .ok (.iload_n 1, 1) := by decide +kernel
theorem dX2_takeAway_24 : decode cX2_takeAway 24 = .ok (.iconst 5, 1) := by decide +kernel
theorem dX2_takeAway_25 : decode cX2_takeAway 25 = .ok (.imul, 1) := by decide +kernel
theorem dX2_takeAway_26 : decode cX2_takeAway 26 = .ok (.iload 4, 2) := by decide +kernel
theorem dX2_takeAway_28 : decode cX2_takeAway 28 = .ok (.iadd, 1) := by decide +kernel
theorem dX2_takeAway_29 : decode cX2_takeAway 29 = .ok (.dup2, 1) := by decide +kernel
theorem dX2_takeAway_30 : decode cX2_takeAway 30 = .ok (.laload, 1) := by decide +kernel
theorem dX2_takeAway_31 : decode cX2_takeAway 31 = .ok (.iload_n 3, 1) := by decide +kernel
theorem dX2_takeAway_32 : decode cX2_takeAway 32 = .ok (.i2l, 1) := by decide +kernel
theorem dX2_takeAway_33 : decode cX2_takeAway 33 = .ok (.aload_n 0, 1) := by decide +kernel
theorem dX2_takeAway_34 : decode cX2_takeAway 34 = .ok (.getfield 18, 3) := by decide +kernel
theorem dX2_takeAway_37 : decode cX2_takeAway 37 = .ok (.iload_n 2, 1) := by decide +kernel
theorem dX2_takeAway_38 : decode cX2_takeAway 38 = .ok (.iconst 5, 1) := by decide +kernel
theorem dX2_takeAway_39 : decode cX2_takeAway 39 = .ok (.imul, 1) := by decide +kernel
theorem dX2_takeAway_40 : decode cX2_takeAway 40 = .ok (.iload 4, 2) := by decide +kernel
theorem dX2_takeAway_42 : decode cX2_takeAway 42 = .ok (.iadd, 1) := by decide +kernel
theorem dX2_takeAway_43 : decode cX2_takeAway 43 = .ok (.laload, 1) := by decide +kernel
theorem dX2_takeAway_44 : decode cX2_takeAway 44 = .ok (.lmul, 1) := by decide +kernel
theorem dX2_takeAway_45 : decode cX2_takeAway 45 = .ok (.lsub, 1) := by decide +kernel
theorem dX2_takeAway_46 : decode cX2_takeAway 46 = .ok (.lastore, 1) := by decide +kernel
theorem dX2_takeAway_47 : decode cX2_takeAway 47 = .ok (.iinc 4 1, 3) := by decide +kernel
theorem dX2_takeAway_50 : decode cX2_takeAway 50 = .ok (.goto (-37), 3) := by decide +kernel
theorem dX2_takeAway_53 : decode cX2_takeAway 53 = .ok (.return_, 1) := by decide +kernel
theorem dX2_undoStep_75 : decode cX2_undoStep 75 = .ok (.iconst 1, 1) := by decide +kernel
theorem dX2_undoStep_76 : decode cX2_undoStep 76 = .ok (.ireturn, 1) := by decide +kernel
theorem dX2_undoStep_7 : decode cX2_undoStep 7 = .ok (.iconst 0, 1) := by decide +kernel
theorem dX2_undoStep_8 : decode cX2_undoStep 8 = .ok (.ireturn, 1) := by decide +kernel
theorem dX11_undo_7 : decode cX11_undo 7 = .ok (.ireturn, 1) := by decide +kernel
theorem dX11_redo_0 : decode cX11_redo 0 = .ok (.aload_n 0, 1) := by decide +kernel
theorem dX11_redo_1 : decode cX11_redo 1 = .ok (.getfield 76, 3) := by decide +kernel
theorem dX11_redo_4 : decode cX11_redo 4 = .ok (.invokevirtual 302, 3) := by decide +kernel
theorem dX2_redoStep_0 : decode cX2_redoStep 0 = .ok (.aload_n 0, 1) := by decide +kernel
theorem dX2_redoStep_1 : decode cX2_redoStep 1 = .ok (.getfield 36, 3) := by decide +kernel
theorem dX2_redoStep_4 : decode cX2_redoStep 4 = .ok (.ifCond .ne 5, 3) := by decide +kernel
theorem dX2_redoStep_9 : decode cX2_redoStep 9 = .ok (.aload_n 0, 1) := by decide +kernel
theorem dX2_redoStep_10 : decode cX2_redoStep 10 = .ok (.aload_n 0, 1) := by decide +kernel
theorem dX2_redoStep_11 : decode cX2_redoStep 11 = .ok (.getfield 33, 3) := by decide +kernel
theorem dX2_redoStep_14 : decode cX2_redoStep 14 = .ok (.invokevirtual 56, 3) := by decide +kernel
theorem dX2_redoStep_17 : decode cX2_redoStep 17 = .ok (.istore_n 1, 1) := by decide +kernel
theorem dX2_redoStep_18 : decode cX2_redoStep 18 = .ok (.aload_n 0, 1) := by decide +kernel
theorem dX2_redoStep_19 : decode cX2_redoStep 19 = .ok (.aload_n 0, 1) := by decide +kernel
theorem dX2_redoStep_20 : decode cX2_redoStep 20 = .ok (.getfield 22, 3) := by decide +kernel
theorem dX2_redoStep_23 : decode cX2_redoStep 23 = .ok (.iload_n 1, 1) := by decide +kernel
theorem dX2_redoStep_24 : decode cX2_redoStep 24 = .ok (.iaload, 1) := by decide +kernel
theorem dX2_redoStep_25 : decode cX2_redoStep 25 = .ok (.aload_n 0, 1) := by decide +kernel
theorem dX2_redoStep_26 : decode cX2_redoStep 26 = .ok (.getfield 22, 3) := by decide +kernel
theorem dX2_redoStep_29 : decode cX2_redoStep 29 = .ok (.iload_n 1, 1) := by decide +kernel
theorem dX2_redoStep_30 : decode cX2_redoStep 30 = .ok (.iconst 1, 1) := by decide +kernel
theorem dX2_redoStep_31 : decode cX2_redoStep 31 = .ok (.iadd, 1) := by decide +kernel
theorem dX2_redoStep_32 : decode cX2_redoStep 32 = .ok (.iaload, 1) := by decide +kernel
theorem dX2_redoStep_33 : decode cX2_redoStep 33 = .ok (.aload_n 0, 1) := by decide +kernel
theorem dX2_redoStep_34 : decode cX2_redoStep 34 = .ok (.getfield 22, 3) := by decide +kernel
theorem dX2_redoStep_37 : decode cX2_redoStep 37 = .ok (.iload_n 1, 1) := by decide +kernel
theorem dX2_redoStep_38 : decode cX2_redoStep 38 = .ok (.iconst 2, 1) := by decide +kernel
theorem dX2_redoStep_39 : decode cX2_redoStep 39 = .ok (.iadd, 1) := by decide +kernel
theorem dX2_redoStep_40 : decode cX2_redoStep 40 = .ok (.iaload, 1) := by decide +kernel
theorem dX2_redoStep_41 : decode cX2_redoStep 41 = .ok (.invokevirtual 72, 3) := by decide +kernel
theorem dX2_redoStep_44 : decode cX2_redoStep 44 = .ok (.aload_n 0, 1) := by decide +kernel
theorem dX2_redoStep_45 : decode cX2_redoStep 45 = .ok (.dup, 1) := by decide +kernel
theorem dX2_redoStep_46 : decode cX2_redoStep 46 = .ok (.getfield 33, 3) := by decide +kernel
theorem dX2_redoStep_49 : decode cX2_redoStep 49 = .ok (.iconst 1, 1) := by decide +kernel
theorem dX2_redoStep_50 : decode cX2_redoStep 50 = .ok (.iadd, 1) := by decide +kernel
theorem dX2_redoStep_51 : decode cX2_redoStep 51 = .ok (.putfield 33, 3) := by decide +kernel
theorem dX2_redoStep_54 : decode cX2_redoStep 54 = .ok (.aload_n 0, 1) := by decide +kernel
theorem dX2_redoStep_55 : decode cX2_redoStep 55 = .ok (.dup, 1) := by decide +kernel
theorem dX2_redoStep_56 : decode cX2_redoStep 56 = .ok (.getfield 36, 3) := by decide +kernel
theorem dX2_redoStep_59 : decode cX2_redoStep 59 = .ok (.iconst 1, 1) := by decide +kernel
theorem dX2_redoStep_60 : decode cX2_redoStep 60 = .ok (.isub, 1) := by decide +kernel
theorem dX2_redoStep_61 : decode cX2_redoStep 61 = .ok (.putfield 36, 3) := by decide +kernel
theorem dX2_redoStep_64 : decode cX2_redoStep 64 = .ok (.aload_n 0, 1) := by decide +kernel
theorem dX2_redoStep_65 : decode cX2_redoStep 65 = .ok (.dup, 1) := by decide +kernel
theorem dX2_redoStep_66 : decode cX2_redoStep 66 = .ok (.getfield 39, 3) := by decide +kernel
theorem dX2_redoStep_69 : decode cX2_redoStep 69 = .ok (.iconst 1, 1) := by decide +kernel
theorem dX2_redoStep_70 : decode cX2_redoStep 70 = .ok (.iadd, 1) := by decide +kernel
theorem dX2_redoStep_71 : decode cX2_redoStep 71 = .ok (.putfield 39, 3) := by decide +kernel
theorem dX2_redoStep_74 : decode cX2_redoStep 74 = .ok (.iconst 1, 1) := by decide +kernel
theorem dX2_redoStep_75 : decode cX2_redoStep 75 = .ok (.ireturn, 1) := by decide +kernel
theorem dX2_redoStep_7 : decode cX2_redoStep 7 = .ok (.iconst 0, 1) := by decide +kernel
theorem dX2_redoStep_8 : decode cX2_redoStep 8 = .ok (.ireturn, 1) := by decide +kernel
theorem dX11_redo_7 : decode cX11_redo 7 = .ok (.ireturn, 1) := by decide +kernel
theorem dX11_leader_0 : decode cX11_leader 0 = .ok (.aload_n 0, 1) := by decide +kernel
theorem dX11_leader_1 : decode cX11_leader 1 = .ok (.getfield 69, 3) := by decide +kernel
theorem dX11_leader_4 : decode cX11_leader 4 = .ok (.iload_n 1, 1) := by decide +kernel
theorem dX11_leader_5 : decode cX11_leader 5 = .ok (.invokevirtual 172, 3) := by decide +kernel
theorem dX11_leader_8 : decode cX11_leader 8 = .ok (.ifCond .eq 26, 3) := by decide +kernel
theorem dX11_leader_34 : decode cX11_leader 34 = .ok (.ldc2_w 308, 3) := by decide +kernel
theorem dX11_leader_37 : decode cX11_leader 37 = .ok (.lreturn, 1) := by decide +kernel
theorem dX11_leader_11 : decode cX11_leader 11 = .ok (.aload_n 0, 1) := by decide +kernel
theorem dX11_leader_12 : decode cX11_leader 12 = .ok (.getfield 69, 3) := by decide +kernel
theorem dX11_leader_15 : decode cX11_leader 15 = .ok (.iload_n 2, 1) := by decide +kernel
theorem dX11_leader_16 : decode cX11_leader 16 = .ok (.invokevirtual 172, 3) := by decide +kernel
theorem dX11_leader_19 : decode cX11_leader 19 = .ok (.ifCond .eq 15, 3) := by decide +kernel
theorem dX11_leader_22 : decode cX11_leader 22 = .ok (.aload_n 0, 1) := by decide +kernel
theorem dX11_leader_23 : decode cX11_leader 23 = .ok (.getfield 76, 3) := by decide +kernel
theorem dX11_leader_26 : decode cX11_leader 26 = .ok (.iload_n 1, 1) := by decide +kernel
theorem dX11_leader_27 : decode cX11_leader 27 = .ok (.iload_n 2, 1) := by decide +kernel
theorem dX11_leader_28 : decode cX11_leader 28 = .ok (.invokevirtual 305, 3) := by decide +kernel
theorem dX2_leaderAt_0 : decode cX2_leaderAt 0 = .ok (.aload_n 0, 1) := by decide +kernel
theorem dX2_leaderAt_1 : decode cX2_leaderAt 1 = .ok (.getfield 18, 3) := by decide +kernel
theorem dX2_leaderAt_4 : decode cX2_leaderAt 4 = .ok (.iload_n 2, 1) := by decide +kernel
theorem dX2_leaderAt_5 : decode cX2_leaderAt 5 = .ok (.iconst 5, 1) := by decide +kernel
theorem dX2_leaderAt_6 : decode cX2_leaderAt 6 = .ok (.imul, 1) := by decide +kernel
theorem dX2_leaderAt_7 : decode cX2_leaderAt 7 = .ok (.iload_n 1, 1) := by decide +kernel
theorem dX2_leaderAt_8 : decode cX2_leaderAt 8 = .ok (.iadd, 1) := by decide +kernel
theorem dX2_leaderAt_9 : decode cX2_leaderAt 9 = .ok (.laload, 1) := by decide +kernel
theorem dX2_leaderAt_10 : decode cX2_leaderAt 10 = .ok (.lreturn, 1) := by decide +kernel
theorem dX11_leader_31 : decode cX11_leader 31 = .ok (.goto 6, 3) := by decide +kernel
theorem dX11_step_0 : decode cX11_step 0 = .ok (.iload_n 1, 1) := by decide +kernel
theorem dX11_step_1 : decode cX11_step 1 = .ok (.ifCond .lt 23, 3) := by decide +kernel
theorem dX11_step_24 : decode cX11_step 24 = .ok (.ldc 175, 2) := by decide +kernel
theorem dX11_step_26 : decode cX11_step 26 = .ok (.ireturn, 1) := by decide +kernel
theorem dX11_step_4 : decode cX11_step 4 = .ok (.iload_n 1, 1) := by decide +kernel
theorem dX11_step_5 : decode cX11_step 5 = .ok (.aload_n 0, 1) := by decide +kernel
theorem dX11_step_6 : decode cX11_step 6 = .ok (.getfield 76, 3) := by decide +kernel
theorem dX11_step_9 : decode cX11_step 9 = .ok (.getfield 163, 3) := by decide +kernel
theorem dX11_step_12 : decode cX11_step 12 = .ok (.if_icmp .ge 12, 3) := by decide +kernel
theorem dX11_step_15 : decode cX11_step 15 = .ok (.iload_n 2, 1) := by decide +kernel
theorem dX11_step_16 : decode cX11_step 16 = .ok (.ifCond .lt 8, 3) := by decide +kernel
theorem dX11_step_19 : decode cX11_step 19 = .ok (.iload_n 2, 1) := by decide +kernel
theorem dX11_step_20 : decode cX11_step 20 = .ok (.iconst 2, 1) := by decide +kernel
theorem dX11_step_21 : decode cX11_step 21 = .ok (.if_icmp .le 6, 3) := by decide +kernel
theorem dX11_step_27 : decode cX11_step 27 = .ok (.aload_n 0, 1) := by decide +kernel
theorem dX11_step_28 : decode cX11_step 28 = .ok (.getfield 76, 3) := by decide +kernel
theorem dX11_step_31 : decode cX11_step 31 = .ok (.iload_n 1, 1) := by decide +kernel
theorem dX11_step_32 : decode cX11_step 32 = .ok (.iload_n 2, 1) := by decide +kernel
theorem dX11_step_33 : decode cX11_step 33 = .ok (.invokevirtual 310, 3) := by decide +kernel
theorem dX2_stepAt_0 : decode cX2_stepAt 0 = .ok (.aload_n 0, 1) := by decide +kernel
theorem dX2_stepAt_1 : decode cX2_stepAt 1 = .ok (.getfield 22, 3) := by decide +kernel
theorem dX2_stepAt_4 : decode cX2_stepAt 4 = .ok (.aload_n 0, 1) := by decide +kernel
theorem dX2_stepAt_5 : decode cX2_stepAt 5 = .ok (.iload_n 1, 1) := by decide +kernel
theorem dX2_stepAt_6 : decode cX2_stepAt 6 = .ok (.invokevirtual 56, 3) := by decide +kernel
theorem dX2_stepAt_9 : decode cX2_stepAt 9 = .ok (.iload_n 2, 1) := by decide +kernel
theorem dX2_stepAt_10 : decode cX2_stepAt 10 = .ok (.iadd, 1) := by decide +kernel
theorem dX2_stepAt_11 : decode cX2_stepAt 11 = .ok (.iaload, 1) := by decide +kernel
theorem dX2_stepAt_12 : decode cX2_stepAt 12 = .ok (.ireturn, 1) := by decide +kernel
theorem dX11_step_36 : decode cX11_step 36 = .ok (.ireturn, 1) := by decide +kernel
theorem dX11_clash_0 : decode cX11_clash 0 = .ok (.aload_n 0, 1) := by decide +kernel
theorem dX11_clash_1 : decode cX11_clash 1 = .ok (.getfield 69, 3) := by decide +kernel
theorem dX11_clash_4 : decode cX11_clash 4 = .ok (.iload_n 1, 1) := by decide +kernel
theorem dX11_clash_5 : decode cX11_clash 5 = .ok (.invokevirtual 172, 3) := by decide +kernel
theorem dX11_clash_8 : decode cX11_clash 8 = .ok (.ifCond .eq 19, 3) := by decide +kernel
theorem dX11_clash_27 : decode cX11_clash 27 = .ok (.iconst (-1), 1) := by decide +kernel
theorem dX11_clash_28 : decode cX11_clash 28 = .ok (.ireturn, 1) := by decide +kernel
theorem dX11_clash_11 : decode cX11_clash 11 = .ok (.aload_n 0, 1) := by decide +kernel
theorem dX11_clash_12 : decode cX11_clash 12 = .ok (.getfield 69, 3) := by decide +kernel
theorem dX11_clash_15 : decode cX11_clash 15 = .ok (.iload_n 2, 1) := by decide +kernel
theorem dX11_clash_16 : decode cX11_clash 16 = .ok (.invokevirtual 172, 3) := by decide +kernel
theorem dX11_clash_19 : decode cX11_clash 19 = .ok (.ifCond .eq 8, 3) := by decide +kernel
theorem dX11_clash_22 : decode cX11_clash 22 = .ok (.iload_n 1, 1) := by decide +kernel
theorem dX11_clash_23 : decode cX11_clash 23 = .ok (.iload_n 2, 1) := by decide +kernel
theorem dX11_clash_24 : decode cX11_clash 24 = .ok (.if_icmp .ne 5, 3) := by decide +kernel
theorem dX11_clash_29 : decode cX11_clash 29 = .ok (.aload_n 0, 1) := by decide +kernel
theorem dX11_clash_30 : decode cX11_clash 30 = .ok (.iload_n 3, 1) := by decide +kernel
theorem dX11_clash_31 : decode cX11_clash 31 = .ok (.invokevirtual 176, 3) := by decide +kernel
theorem dX11_clash_34 : decode cX11_clash 34 = .ok (.iload_n 1, 1) := by decide +kernel
theorem dX11_clash_35 : decode cX11_clash 35 = .ok (.iload_n 2, 1) := by decide +kernel
theorem dX11_clash_36 : decode cX11_clash 36 = .ok (.invokevirtual 313, 3) := by decide +kernel
theorem dX11_clash_39 : decode cX11_clash 39 = .ok (.ireturn, 1) := by decide +kernel
theorem dX11_worst_0 : decode cX11_worst 0 = .ok (.aload_n 0, 1) := by decide +kernel
theorem dX11_worst_1 : decode cX11_worst 1 = .ok (.iload_n 1, 1) := by decide +kernel
theorem dX11_worst_2 : decode cX11_worst 2 = .ok (.invokevirtual 176, 3) := by decide +kernel
theorem dX11_worst_5 : decode cX11_worst 5 = .ok (.aload_n 0, 1) := by decide +kernel
theorem dX11_worst_6 : decode cX11_worst 6 = .ok (.getfield 69, 3) := by decide +kernel
theorem dX11_worst_9 : decode cX11_worst 9 = .ok (.getfield 136, 3) := by decide +kernel
theorem dX11_worst_12 : decode cX11_worst 12 = .ok (.invokevirtual 316, 3) := by decide +kernel
theorem dX11_worst_15 : decode cX11_worst 15 = .ok (.ireturn, 1) := by decide +kernel
theorem dX11_squares_0 : decode cX11_squares 0 = .ok (.aload_n 0, 1) := by decide +kernel
theorem dX11_squares_1 : decode cX11_squares 1 = .ok (.iload_n 1, 1) := by decide +kernel
theorem dX11_squares_2 : decode cX11_squares 2 = .ok (.invokevirtual 176, 3) := by decide +kernel
theorem dX11_squares_5 : decode cX11_squares 5 = .ok (.invokevirtual 319, 3) := by decide +kernel
theorem dX11_squares_8 : decode cX11_squares 8 = .ok (.lreturn, 1) := by decide +kernel
theorem dX11_sums_0 : decode cX11_sums 0 = .ok (.aload_n 0, 1) := by decide +kernel
theorem dX11_sums_1 : decode cX11_sums 1 = .ok (.getfield 69, 3) := by decide +kernel
theorem dX11_sums_4 : decode cX11_sums 4 = .ok (.iload_n 1, 1) := by decide +kernel
theorem dX11_sums_5 : decode cX11_sums 5 = .ok (.invokevirtual 323, 3) := by decide +kernel
theorem dX11_sums_8 : decode cX11_sums 8 = .ok (.ifCond .eq 29, 3) := by decide +kernel
theorem dX11_sums_37 : decode cX11_sums 37 = .ok (.ldc2_w 308, 3) := by decide +kernel
theorem dX11_sums_40 : decode cX11_sums 40 = .ok (.lreturn, 1) := by decide +kernel
theorem dX11_sums_11 : decode cX11_sums 11 = .ok (.iload_n 2, 1) := by decide +kernel
theorem dX11_sums_12 : decode cX11_sums 12 = .ok (.iconst 1, 1) := by decide +kernel
theorem dX11_sums_13 : decode cX11_sums 13 = .ok (.if_icmp .lt 24, 3) := by decide +kernel
theorem dX11_sums_16 : decode cX11_sums 16 = .ok (.iload_n 2, 1) := by decide +kernel
theorem dX11_sums_17 : decode cX11_sums 17 = .ok (.iconst 2, 1) := by decide +kernel
theorem dX11_sums_18 : decode cX11_sums 18 = .ok (.if_icmp .gt 19, 3) := by decide +kernel
theorem dX11_sums_21 : decode cX11_sums 21 = .ok (.iload_n 3, 1) := by decide +kernel
theorem dX11_sums_22 : decode cX11_sums 22 = .ok (.iconst (-1), 1) := by decide +kernel
theorem dX11_sums_23 : decode cX11_sums 23 = .ok (.if_icmp .eq 18, 3) := by decide +kernel
theorem dX11_sums_41 : decode cX11_sums 41 = .ok (.aload_n 0, 1) := by decide +kernel
theorem dX11_sums_42 : decode cX11_sums 42 = .ok (.getfield 31, 3) := by decide +kernel
theorem dX11_sums_45 : decode cX11_sums 45 = .ok (.aload_n 0, 1) := by decide +kernel
theorem dX11_sums_46 : decode cX11_sums 46 = .ok (.getfield 69, 3) := by decide +kernel
theorem dX11_sums_49 : decode cX11_sums 49 = .ok (.iload_n 1, 1) := by decide +kernel
theorem dX11_sums_50 : decode cX11_sums 50 = .ok (.iload_n 2, 1) := by decide +kernel
theorem dX11_sums_51 : decode cX11_sums 51 = .ok (.invokevirtual 326, 3) := by decide +kernel
theorem dX11_sums_54 : decode cX11_sums 54 = .ok (.iload_n 3, 1) := by decide +kernel
theorem dX11_sums_55 : decode cX11_sums 55 = .ok (.iconst (-1), 1) := by decide +kernel
theorem dX11_sums_56 : decode cX11_sums 56 = .ok (.if_icmp .ne 13, 3) := by decide +kernel
theorem dX11_sums_59 : decode cX11_sums 59 = .ok (.aload_n 0, 1) := by decide +kernel
theorem dX11_sums_60 : decode cX11_sums 60 = .ok (.getfield 31, 3) := by decide +kernel
theorem dX11_sums_63 : decode cX11_sums 63 = .ok (.getfield 330, 3) := by decide +kernel
theorem dX11_sums_66 : decode cX11_sums 66 = .ok (.goto 13, 3) := by decide +kernel
theorem dX11_sums_79 : decode cX11_sums 79 = .ok (.lreturn, 1) := by decide +kernel
theorem dX11_sums_26 : decode cX11_sums 26 = .ok (.aload_n 0, 1) := by decide +kernel
theorem dX11_sums_27 : decode cX11_sums 27 = .ok (.getfield 69, 3) := by decide +kernel
theorem dX11_sums_30 : decode cX11_sums 30 = .ok (.iload_n 3, 1) := by decide +kernel
theorem dX11_sums_31 : decode cX11_sums 31 = .ok (.invokevirtual 172, 3) := by decide +kernel
theorem dX11_sums_34 : decode cX11_sums 34 = .ok (.ifCond .ne 7, 3) := by decide +kernel
theorem dX11_sums_69 : decode cX11_sums 69 = .ok (.aload_n 0, 1) := by decide +kernel
theorem dX11_sums_70 : decode cX11_sums 70 = .ok (.getfield 31, 3) := by decide +kernel
theorem dX11_sums_73 : decode cX11_sums 73 = .ok (.getfield 334, 3) := by decide +kernel
theorem dX11_sums_76 : decode cX11_sums 76 = .ok (.iload_n 3, 1) := by decide +kernel
theorem dX11_sums_77 : decode cX11_sums 77 = .ok (.iaload, 1) := by decide +kernel
theorem dX11_sums_78 : decode cX11_sums 78 = .ok (.i2l, 1) := by decide +kernel
theorem dX11_apart_0 : decode cX11_apart 0 = .ok (.aload_n 0, 1) := by decide +kernel
theorem dX11_apart_1 : decode cX11_apart 1 = .ok (.getfield 69, 3) := by decide +kernel
theorem dX11_apart_4 : decode cX11_apart 4 = .ok (.iload_n 1, 1) := by decide +kernel
theorem dX11_apart_5 : decode cX11_apart 5 = .ok (.invokevirtual 323, 3) := by decide +kernel
theorem dX11_apart_8 : decode cX11_apart 8 = .ok (.ifCond .eq 18, 3) := by decide +kernel
theorem dX11_apart_26 : decode cX11_apart 26 = .ok (.ldc2_w 212, 3) := by decide +kernel
theorem dX11_apart_29 : decode cX11_apart 29 = .ok (.lreturn, 1) := by decide +kernel
theorem dX11_apart_11 : decode cX11_apart 11 = .ok (.aload_n 0, 1) := by decide +kernel
theorem dX11_apart_12 : decode cX11_apart 12 = .ok (.getfield 31, 3) := by decide +kernel
theorem dX11_apart_15 : decode cX11_apart 15 = .ok (.aload_n 0, 1) := by decide +kernel
theorem dX11_apart_16 : decode cX11_apart 16 = .ok (.getfield 69, 3) := by decide +kernel
theorem dX11_apart_19 : decode cX11_apart 19 = .ok (.iload_n 1, 1) := by decide +kernel
theorem dX11_apart_20 : decode cX11_apart 20 = .ok (.invokevirtual 337, 3) := by decide +kernel
theorem dX11_apart_23 : decode cX11_apart 23 = .ok (.goto 6, 3) := by decide +kernel
theorem dX11_word_0 : decode cX11_word 0 = .ok (.aload_n 0, 1) := by decide +kernel
theorem dX11_word_1 : decode cX11_word 1 = .ok (.getfield 69, 3) := by decide +kernel
theorem dX11_word_4 : decode cX11_word 4 = .ok (.iload_n 1, 1) := by decide +kernel
theorem dX11_word_5 : decode cX11_word 5 = .ok (.invokevirtual 341, 3) := by decide +kernel
theorem dX11_word_8 : decode cX11_word 8 = .ok (.ifCond .eq 26, 3) := by decide +kernel
theorem dX11_word_34 : decode cX11_word 34 = .ok (.ldc 175, 2) := by decide +kernel
theorem dX11_word_36 : decode cX11_word 36 = .ok (.ireturn, 1) := by decide +kernel
theorem dX11_word_11 : decode cX11_word 11 = .ok (.aload_n 0, 1) := by decide +kernel
theorem dX11_word_12 : decode cX11_word 12 = .ok (.getfield 69, 3) := by decide +kernel
theorem dX11_word_15 : decode cX11_word 15 = .ok (.iload_n 2, 1) := by decide +kernel
theorem dX11_word_16 : decode cX11_word 16 = .ok (.invokevirtual 172, 3) := by decide +kernel
theorem dX11_word_19 : decode cX11_word 19 = .ok (.ifCond .eq 15, 3) := by decide +kernel
theorem dX11_word_22 : decode cX11_word 22 = .ok (.aload_n 0, 1) := by decide +kernel
theorem dX11_word_23 : decode cX11_word 23 = .ok (.getfield 69, 3) := by decide +kernel
theorem dX11_word_26 : decode cX11_word 26 = .ok (.iload_n 1, 1) := by decide +kernel
theorem dX11_word_27 : decode cX11_word 27 = .ok (.iload_n 2, 1) := by decide +kernel
theorem dX11_word_28 : decode cX11_word 28 = .ok (.invokevirtual 344, 3) := by decide +kernel
theorem dX11_word_31 : decode cX11_word 31 = .ok (.goto 5, 3) := by decide +kernel
theorem dX11_code_0 : decode cX11_code 0 = .ok (.iload_n 1, 1) := by decide +kernel
theorem dX11_code_1 : decode cX11_code 1 = .ok (.iconst 3, 1) := by decide +kernel
theorem dX11_code_2 : decode cX11_code 2 = .ok (.if_icmp .ne 28, 3) := by decide +kernel
theorem dX11_code_30 : decode cX11_code 30 = .ok (.iload_n 1, 1) := by decide +kernel
theorem dX11_code_31 : decode cX11_code 31 = .ok (.ifCond .lt 19, 3) := by decide +kernel
theorem dX11_code_50 : decode cX11_code 50 = .ok (.ldc2_w 212, 3) := by decide +kernel
theorem dX11_code_53 : decode cX11_code 53 = .ok (.lreturn, 1) := by decide +kernel
theorem dX11_code_34 : decode cX11_code 34 = .ok (.iload_n 1, 1) := by decide +kernel
theorem dX11_code_35 : decode cX11_code 35 = .ok (.iconst 2, 1) := by decide +kernel
theorem dX11_code_36 : decode cX11_code 36 = .ok (.if_icmp .gt 14, 3) := by decide +kernel
theorem dX11_code_39 : decode cX11_code 39 = .ok (.aload_n 0, 1) := by decide +kernel
theorem dX11_code_40 : decode cX11_code 40 = .ok (.getfield 69, 3) := by decide +kernel
theorem dX11_code_43 : decode cX11_code 43 = .ok (.getfield 145, 3) := by decide +kernel
theorem dX11_code_46 : decode cX11_code 46 = .ok (.iconst 2, 1) := by decide +kernel
theorem dX11_code_47 : decode cX11_code 47 = .ok (.if_icmp .ge 7, 3) := by decide +kernel
theorem dX11_code_54 : decode cX11_code 54 = .ok (.aload_n 0, 1) := by decide +kernel
theorem dX11_code_55 : decode cX11_code 55 = .ok (.getfield 38, 3) := by decide +kernel
theorem dX11_code_58 : decode cX11_code 58 = .ok (.aload_n 0, 1) := by decide +kernel
theorem dX11_code_59 : decode cX11_code 59 = .ok (.getfield 69, 3) := by decide +kernel
theorem dX11_code_62 : decode cX11_code 62 = .ok (.invokevirtual 350, 3) := by decide +kernel
theorem dX11_code_65 : decode cX11_code 65 = .ok (.aload_n 0, 1) := by decide +kernel
theorem dX11_code_66 : decode cX11_code 66 = .ok (.getfield 38, 3) := by decide +kernel
theorem dX11_code_69 : decode cX11_code 69 = .ok (.iconst (-1), 1) := by decide +kernel
theorem dX11_code_70 : decode cX11_code 70 = .ok (.invokevirtual 352, 3) := by decide +kernel
theorem dX11_code_73 : decode cX11_code 73 = .ok (.iload_n 1, 1) := by decide +kernel
theorem dX11_code_74 : decode cX11_code 74 = .ok (.ifCond .ne 11, 3) := by decide +kernel
theorem dX11_code_85 : decode cX11_code 85 = .ok (.iload_n 1, 1) := by decide +kernel
theorem dX11_code_86 : decode cX11_code 86 = .ok (.iconst 1, 1) := by decide +kernel
theorem dX11_code_87 : decode cX11_code 87 = .ok (.if_icmp .ne 14, 3) := by decide +kernel
theorem dX11_code_101 : decode cX11_code 101 = .ok (.aload_n 0, 1) := by decide +kernel
theorem dX11_code_102 : decode cX11_code 102 = .ok (.getfield 38, 3) := by decide +kernel
theorem dX11_code_105 : decode cX11_code 105 = .ok (.getfield 361, 3) := by decide +kernel
theorem dX11_code_108 : decode cX11_code 108 = .ok (.i2l, 1) := by decide +kernel
theorem dX11_code_109 : decode cX11_code 109 = .ok (.lreturn, 1) := by decide +kernel
theorem dX11_code_90 : decode cX11_code 90 = .ok (.aload_n 0, 1) := by decide +kernel
theorem dX11_code_91 : decode cX11_code 91 = .ok (.getfield 38, 3) := by decide +kernel
theorem dX11_code_94 : decode cX11_code 94 = .ok (.getfield 358, 3) := by decide +kernel
theorem dX11_code_97 : decode cX11_code 97 = .ok (.i2l, 1) := by decide +kernel
theorem dX11_code_98 : decode cX11_code 98 = .ok (.goto 11, 3) := by decide +kernel
theorem dX11_code_77 : decode cX11_code 77 = .ok (.aload_n 0, 1) := by decide +kernel
theorem dX11_code_78 : decode cX11_code 78 = .ok (.getfield 38, 3) := by decide +kernel
theorem dX11_code_81 : decode cX11_code 81 = .ok (.getfield 355, 3) := by decide +kernel
theorem dX11_code_84 : decode cX11_code 84 = .ok (.lreturn, 1) := by decide +kernel
theorem dX11_code_5 : decode cX11_code 5 = .ok (.aload_n 0, 1) := by decide +kernel
theorem dX11_code_6 : decode cX11_code 6 = .ok (.getfield 69, 3) := by decide +kernel
theorem dX11_code_9 : decode cX11_code 9 = .ok (.getfield 145, 3) := by decide +kernel
theorem dX11_code_12 : decode cX11_code 12 = .ok (.ifCond .ne 9, 3) := by decide +kernel
theorem dX11_code_21 : decode cX11_code 21 = .ok (.aload_n 0, 1) := by decide +kernel
theorem dX11_code_22 : decode cX11_code 22 = .ok (.getfield 69, 3) := by decide +kernel
theorem dX11_code_25 : decode cX11_code 25 = .ok (.invokevirtual 347, 3) := by decide +kernel
theorem dX11_code_28 : decode cX11_code 28 = .ok (.i2l, 1) := by decide +kernel
theorem dX11_code_29 : decode cX11_code 29 = .ok (.lreturn, 1) := by decide +kernel
theorem dX11_code_15 : decode cX11_code 15 = .ok (.ldc2_w 212, 3) := by decide +kernel
theorem dX11_code_18 : decode cX11_code 18 = .ok (.goto 11, 3) := by decide +kernel
theorem dX11_decode_0 : decode cX11_decode 0 = .ok (.iconst (-1), 1) := by decide +kernel
theorem dX11_decode_1 : decode cX11_decode 1 = .ok (.istore_n 1, 1) := by decide +kernel
theorem dX11_decode_2 : decode cX11_decode 2 = .ok (.lconst 0, 1) := by decide +kernel
theorem dX11_decode_3 : decode cX11_decode 3 = .ok (.lstore_n 2, 1) := by decide +kernel
theorem dX11_decode_4 : decode cX11_decode 4 = .ok (.iconst 0, 1) := by decide +kernel
theorem dX11_decode_5 : decode cX11_decode 5 = .ok (.istore 4, 2) := by decide +kernel
theorem dX11_decode_7 : decode cX11_decode 7 = .ok (.iload 4, 2) := by decide +kernel
theorem dX11_decode_9 : decode cX11_decode 9 = .ok (.aload_n 0, 1) := by decide +kernel
theorem dX11_decode_10 : decode cX11_decode 10 = .ok (.getfield 69, 3) := by decide +kernel
