def lw_dl (c : ByteArray) (l : List (Nat × Instr × Nat)) : Bool := l.all (fun q => decide (decode c q.1 = .ok (q.2.1, q.2.2)))
theorem lw_dr {c : ByteArray} {l : List (Nat × Instr × Nat)} (h : lw_dl c l = true) (k : Nat) {pc : Nat} {i : Instr} {n : Nat} (hk : l[k]? = some (pc, i, n)) : decode c pc = .ok (i, n) := by
  simp only [lw_dl, List.all_eq_true, decide_eq_true_eq] at h
  exact h (pc, i, n) (List.mem_of_getElem? hk)
theorem lw_d_cJ7_fill_53178_0 : lw_dl cJ7_fill_53178 [(0, .iconst 0, 1), (1, .istore_n 2, 1), (2, .aload_n 0, 1), (3, .arraylength, 1), (4, .istore_n 3, 1), (5, .iload_n 2, 1), (6, .iload_n 3, 1), (7, .if_icmp .ge 13, 3), (10, .aload_n 0, 1), (11, .iload_n 2, 1), (12, .iload_n 1, 1), (13, .iastore, 1), (14, .iinc 2 1, 3), (17, .goto (-12), 3), (20, .return_, 1)] = true := by decide +kernel
theorem dJ7_fill_53178_0 : decode cJ7_fill_53178 0 = .ok (.iconst 0, 1) := lw_dr lw_d_cJ7_fill_53178_0 0 rfl
theorem dJ7_fill_53178_1 : decode cJ7_fill_53178 1 = .ok (.istore_n 2, 1) := lw_dr lw_d_cJ7_fill_53178_0 1 rfl
theorem dJ7_fill_53178_2 : decode cJ7_fill_53178 2 = .ok (.aload_n 0, 1) := lw_dr lw_d_cJ7_fill_53178_0 2 rfl
theorem dJ7_fill_53178_3 : decode cJ7_fill_53178 3 = .ok (.arraylength, 1) := lw_dr lw_d_cJ7_fill_53178_0 3 rfl
theorem dJ7_fill_53178_4 : decode cJ7_fill_53178 4 = .ok (.istore_n 3, 1) := lw_dr lw_d_cJ7_fill_53178_0 4 rfl
theorem dJ7_fill_53178_5 : decode cJ7_fill_53178 5 = .ok (.iload_n 2, 1) := lw_dr lw_d_cJ7_fill_53178_0 5 rfl
theorem dJ7_fill_53178_6 : decode cJ7_fill_53178 6 = .ok (.iload_n 3, 1) := lw_dr lw_d_cJ7_fill_53178_0 6 rfl
theorem dJ7_fill_53178_7 : decode cJ7_fill_53178 7 = .ok (.if_icmp .ge 13, 3) := lw_dr lw_d_cJ7_fill_53178_0 7 rfl
theorem dJ7_fill_53178_10 : decode cJ7_fill_53178 10 = .ok (.aload_n 0, 1) := lw_dr lw_d_cJ7_fill_53178_0 8 rfl
theorem dJ7_fill_53178_11 : decode cJ7_fill_53178 11 = .ok (.iload_n 2, 1) := lw_dr lw_d_cJ7_fill_53178_0 9 rfl
theorem dJ7_fill_53178_12 : decode cJ7_fill_53178 12 = .ok (.iload_n 1, 1) := lw_dr lw_d_cJ7_fill_53178_0 10 rfl
theorem dJ7_fill_53178_13 : decode cJ7_fill_53178 13 = .ok (.iastore, 1) := lw_dr lw_d_cJ7_fill_53178_0 11 rfl
theorem dJ7_fill_53178_14 : decode cJ7_fill_53178 14 = .ok (.iinc 2 1, 3) := lw_dr lw_d_cJ7_fill_53178_0 12 rfl
theorem dJ7_fill_53178_17 : decode cJ7_fill_53178 17 = .ok (.goto (-12), 3) := lw_dr lw_d_cJ7_fill_53178_0 13 rfl
theorem dJ7_fill_53178_20 : decode cJ7_fill_53178 20 = .ok (.return_, 1) := lw_dr lw_d_cJ7_fill_53178_0 14 rfl
theorem lw_d_cX8_at_0 : lw_dl cX8_at [(0, .aload_n 0, 1), (1, .getfield 9, 3), (4, .iload_n 2, 1), (5, .bipush 6, 2), (7, .imul, 1), (8, .iload_n 1, 1), (9, .iadd, 1), (10, .iaload, 1), (11, .ireturn, 1)] = true := by decide +kernel
theorem dX8_at_0 : decode cX8_at 0 = .ok (.aload_n 0, 1) := lw_dr lw_d_cX8_at_0 0 rfl
theorem dX8_at_1 : decode cX8_at 1 = .ok (.getfield 9, 3) := lw_dr lw_d_cX8_at_0 1 rfl
theorem dX8_at_4 : decode cX8_at 4 = .ok (.iload_n 2, 1) := lw_dr lw_d_cX8_at_0 2 rfl
theorem dX8_at_5 : decode cX8_at 5 = .ok (.bipush 6, 2) := lw_dr lw_d_cX8_at_0 3 rfl
theorem dX8_at_7 : decode cX8_at 7 = .ok (.imul, 1) := lw_dr lw_d_cX8_at_0 4 rfl
theorem dX8_at_8 : decode cX8_at 8 = .ok (.iload_n 1, 1) := lw_dr lw_d_cX8_at_0 5 rfl
theorem dX8_at_9 : decode cX8_at 9 = .ok (.iadd, 1) := lw_dr lw_d_cX8_at_0 6 rfl
theorem dX8_at_10 : decode cX8_at 10 = .ok (.iaload, 1) := lw_dr lw_d_cX8_at_0 7 rfl
theorem dX8_at_11 : decode cX8_at 11 = .ok (.ireturn, 1) := lw_dr lw_d_cX8_at_0 8 rfl
theorem lw_d_cX8_productOf_0 : lw_dl cX8_productOf [(0, .iconst 0, 1), (1, .istore_n 3, 1), (2, .iconst 0, 1), (3, .istore 4, 2), (5, .iload 4, 2), (7, .bipush 6, 2), (9, .if_icmp .ge 27, 3), (12, .iload_n 3, 1), (13, .aload_n 0, 1), (14, .iload 4, 2), (16, .iload_n 1, 1), (17, .invokevirtual 27, 3), (20, .aload_n 0, 1), (21, .iload 4, 2), (23, .iload_n 2, 1), (24, .invokevirtual 27, 3), (27, .imul, 1), (28, .iadd, 1), (29, .istore_n 3, 1), (30, .iinc 4 1, 3), (33, .goto (-28), 3), (36, .iload_n 3, 1), (37, .ireturn, 1)] = true := by decide +kernel
theorem dX8_productOf_0 : decode cX8_productOf 0 = .ok (.iconst 0, 1) := lw_dr lw_d_cX8_productOf_0 0 rfl
theorem dX8_productOf_1 : decode cX8_productOf 1 = .ok (.istore_n 3, 1) := lw_dr lw_d_cX8_productOf_0 1 rfl
theorem dX8_productOf_2 : decode cX8_productOf 2 = .ok (.iconst 0, 1) := lw_dr lw_d_cX8_productOf_0 2 rfl
theorem dX8_productOf_3 : decode cX8_productOf 3 = .ok (.istore 4, 2) := lw_dr lw_d_cX8_productOf_0 3 rfl
theorem dX8_productOf_5 : decode cX8_productOf 5 = .ok (.iload 4, 2) := lw_dr lw_d_cX8_productOf_0 4 rfl
theorem dX8_productOf_7 : decode cX8_productOf 7 = .ok (.bipush 6, 2) := lw_dr lw_d_cX8_productOf_0 5 rfl
theorem dX8_productOf_9 : decode cX8_productOf 9 = .ok (.if_icmp .ge 27, 3) := lw_dr lw_d_cX8_productOf_0 6 rfl
theorem dX8_productOf_12 : decode cX8_productOf 12 = .ok (.iload_n 3, 1) := lw_dr lw_d_cX8_productOf_0 7 rfl
theorem dX8_productOf_13 : decode cX8_productOf 13 = .ok (.aload_n 0, 1) := lw_dr lw_d_cX8_productOf_0 8 rfl
theorem dX8_productOf_14 : decode cX8_productOf 14 = .ok (.iload 4, 2) := lw_dr lw_d_cX8_productOf_0 9 rfl
theorem dX8_productOf_16 : decode cX8_productOf 16 = .ok (.iload_n 1, 1) := lw_dr lw_d_cX8_productOf_0 10 rfl
theorem dX8_productOf_17 : decode cX8_productOf 17 = .ok (.invokevirtual 27, 3) := lw_dr lw_d_cX8_productOf_0 11 rfl
theorem dX8_productOf_20 : decode cX8_productOf 20 = .ok (.aload_n 0, 1) := lw_dr lw_d_cX8_productOf_0 12 rfl
theorem dX8_productOf_21 : decode cX8_productOf 21 = .ok (.iload 4, 2) := lw_dr lw_d_cX8_productOf_0 13 rfl
theorem dX8_productOf_23 : decode cX8_productOf 23 = .ok (.iload_n 2, 1) := lw_dr lw_d_cX8_productOf_0 14 rfl
theorem dX8_productOf_24 : decode cX8_productOf 24 = .ok (.invokevirtual 27, 3) := lw_dr lw_d_cX8_productOf_0 15 rfl
theorem dX8_productOf_27 : decode cX8_productOf 27 = .ok (.imul, 1) := lw_dr lw_d_cX8_productOf_0 16 rfl
theorem dX8_productOf_28 : decode cX8_productOf 28 = .ok (.iadd, 1) := lw_dr lw_d_cX8_productOf_0 17 rfl
theorem dX8_productOf_29 : decode cX8_productOf 29 = .ok (.istore_n 3, 1) := lw_dr lw_d_cX8_productOf_0 18 rfl
theorem dX8_productOf_30 : decode cX8_productOf 30 = .ok (.iinc 4 1, 3) := lw_dr lw_d_cX8_productOf_0 19 rfl
theorem dX8_productOf_33 : decode cX8_productOf 33 = .ok (.goto (-28), 3) := lw_dr lw_d_cX8_productOf_0 20 rfl
theorem dX8_productOf_36 : decode cX8_productOf 36 = .ok (.iload_n 3, 1) := lw_dr lw_d_cX8_productOf_0 21 rfl
theorem dX8_productOf_37 : decode cX8_productOf 37 = .ok (.ireturn, 1) := lw_dr lw_d_cX8_productOf_0 22 rfl
theorem lw_d_cX10_start_0 : lw_dl cX10_start [(0, .aload_n 0, 1), (1, .iconst 0, 1), (2, .aload_n 1, 1), (3, .getfield 38, 3), (6, .iconst 1, 1), (7, .isub, 1), (8, .invokestatic 43, 3), (11, .putfield 34, 3), (14, .iconst 0, 1), (15, .istore_n 2, 1), (16, .iload_n 2, 1), (17, .aload_n 0, 1), (18, .getfield 34, 3), (21, .if_icmp .gt 52, 3), (24, .iconst 0, 1), (25, .istore_n 3, 1), (26, .iload_n 3, 1), (27, .aload_n 0, 1), (28, .getfield 34, 3), (31, .if_icmp .gt 29, 3), (34, .aload_n 0, 1), (35, .getfield 9, 3), (38, .iload_n 2, 1), (39, .iconst 5, 1), (40, .imul, 1), (41, .iload_n 3, 1), (42, .iadd, 1), (43, .aload_n 1, 1), (44, .getfield 49, 3), (47, .iload_n 2, 1), (48, .iload_n 3, 1), (49, .invokevirtual 53, 3), (52, .i2l, 1), (53, .lastore, 1), (54, .iinc 3 1, 3), (57, .goto (-31), 3), (60, .aload_n 0, 1), (61, .getfield 18, 3), (64, .iload_n 2, 1), (65, .lconst 0, 1)] = true := by decide +kernel
theorem dX10_start_0 : decode cX10_start 0 = .ok (.aload_n 0, 1) := lw_dr lw_d_cX10_start_0 0 rfl
theorem dX10_start_1 : decode cX10_start 1 = .ok (.iconst 0, 1) := lw_dr lw_d_cX10_start_0 1 rfl
theorem dX10_start_2 : decode cX10_start 2 = .ok (.aload_n 1, 1) := lw_dr lw_d_cX10_start_0 2 rfl
theorem dX10_start_3 : decode cX10_start 3 = .ok (.getfield 38, 3) := lw_dr lw_d_cX10_start_0 3 rfl
theorem dX10_start_6 : decode cX10_start 6 = .ok (.iconst 1, 1) := lw_dr lw_d_cX10_start_0 4 rfl
theorem dX10_start_7 : decode cX10_start 7 = .ok (.isub, 1) := lw_dr lw_d_cX10_start_0 5 rfl
theorem dX10_start_8 : decode cX10_start 8 = .ok (.invokestatic 43, 3) := lw_dr lw_d_cX10_start_0 6 rfl
theorem dX10_start_11 : decode cX10_start 11 = .ok (.putfield 34, 3) := lw_dr lw_d_cX10_start_0 7 rfl
theorem dX10_start_14 : decode cX10_start 14 = .ok (.iconst 0, 1) := lw_dr lw_d_cX10_start_0 8 rfl
theorem dX10_start_15 : decode cX10_start 15 = .ok (.istore_n 2, 1) := lw_dr lw_d_cX10_start_0 9 rfl
theorem dX10_start_16 : decode cX10_start 16 = .ok (.iload_n 2, 1) := lw_dr lw_d_cX10_start_0 10 rfl
theorem dX10_start_17 : decode cX10_start 17 = .ok (.aload_n 0, 1) := lw_dr lw_d_cX10_start_0 11 rfl
theorem dX10_start_18 : decode cX10_start 18 = .ok (.getfield 34, 3) := lw_dr lw_d_cX10_start_0 12 rfl
theorem dX10_start_21 : decode cX10_start 21 = .ok (.if_icmp .gt 52, 3) := lw_dr lw_d_cX10_start_0 13 rfl
theorem dX10_start_24 : decode cX10_start 24 = .ok (.iconst 0, 1) := lw_dr lw_d_cX10_start_0 14 rfl
theorem dX10_start_25 : decode cX10_start 25 = .ok (.istore_n 3, 1) := lw_dr lw_d_cX10_start_0 15 rfl
theorem dX10_start_26 : decode cX10_start 26 = .ok (.iload_n 3, 1) := lw_dr lw_d_cX10_start_0 16 rfl
theorem dX10_start_27 : decode cX10_start 27 = .ok (.aload_n 0, 1) := lw_dr lw_d_cX10_start_0 17 rfl
theorem dX10_start_28 : decode cX10_start 28 = .ok (.getfield 34, 3) := lw_dr lw_d_cX10_start_0 18 rfl
theorem dX10_start_31 : decode cX10_start 31 = .ok (.if_icmp .gt 29, 3) := lw_dr lw_d_cX10_start_0 19 rfl
theorem dX10_start_34 : decode cX10_start 34 = .ok (.aload_n 0, 1) := lw_dr lw_d_cX10_start_0 20 rfl
theorem dX10_start_35 : decode cX10_start 35 = .ok (.getfield 9, 3) := lw_dr lw_d_cX10_start_0 21 rfl
theorem dX10_start_38 : decode cX10_start 38 = .ok (.iload_n 2, 1) := lw_dr lw_d_cX10_start_0 22 rfl
theorem dX10_start_39 : decode cX10_start 39 = .ok (.iconst 5, 1) := lw_dr lw_d_cX10_start_0 23 rfl
theorem dX10_start_40 : decode cX10_start 40 = .ok (.imul, 1) := lw_dr lw_d_cX10_start_0 24 rfl
theorem dX10_start_41 : decode cX10_start 41 = .ok (.iload_n 3, 1) := lw_dr lw_d_cX10_start_0 25 rfl
theorem dX10_start_42 : decode cX10_start 42 = .ok (.iadd, 1) := lw_dr lw_d_cX10_start_0 26 rfl
theorem dX10_start_43 : decode cX10_start 43 = .ok (.aload_n 1, 1) := lw_dr lw_d_cX10_start_0 27 rfl
theorem dX10_start_44 : decode cX10_start 44 = .ok (.getfield 49, 3) := lw_dr lw_d_cX10_start_0 28 rfl
theorem dX10_start_47 : decode cX10_start 47 = .ok (.iload_n 2, 1) := lw_dr lw_d_cX10_start_0 29 rfl
theorem dX10_start_48 : decode cX10_start 48 = .ok (.iload_n 3, 1) := lw_dr lw_d_cX10_start_0 30 rfl
theorem dX10_start_49 : decode cX10_start 49 = .ok (.invokevirtual 53, 3) := lw_dr lw_d_cX10_start_0 31 rfl
theorem dX10_start_52 : decode cX10_start 52 = .ok (.i2l, 1) := lw_dr lw_d_cX10_start_0 32 rfl
theorem dX10_start_53 : decode cX10_start 53 = .ok (.lastore, 1) := lw_dr lw_d_cX10_start_0 33 rfl
theorem dX10_start_54 : decode cX10_start 54 = .ok (.iinc 3 1, 3) := lw_dr lw_d_cX10_start_0 34 rfl
theorem dX10_start_57 : decode cX10_start 57 = .ok (.goto (-31), 3) := lw_dr lw_d_cX10_start_0 35 rfl
theorem dX10_start_60 : decode cX10_start 60 = .ok (.aload_n 0, 1) := lw_dr lw_d_cX10_start_0 36 rfl
theorem dX10_start_61 : decode cX10_start 61 = .ok (.getfield 18, 3) := lw_dr lw_d_cX10_start_0 37 rfl
theorem dX10_start_64 : decode cX10_start 64 = .ok (.iload_n 2, 1) := lw_dr lw_d_cX10_start_0 38 rfl
theorem dX10_start_65 : decode cX10_start 65 = .ok (.lconst 0, 1) := lw_dr lw_d_cX10_start_0 39 rfl
theorem lw_d_cX10_start_66 : lw_dl cX10_start [(66, .lastore, 1), (67, .iinc 2 1, 3), (70, .goto (-54), 3), (73, .aload_n 0, 1), (74, .getfield 15, 3), (77, .iconst 0, 1), (78, .lconst 0, 1), (79, .lastore, 1), (80, .return_, 1)] = true := by decide +kernel
theorem dX10_start_66 : decode cX10_start 66 = .ok (.lastore, 1) := lw_dr lw_d_cX10_start_66 0 rfl
theorem dX10_start_67 : decode cX10_start 67 = .ok (.iinc 2 1, 3) := lw_dr lw_d_cX10_start_66 1 rfl
theorem dX10_start_70 : decode cX10_start 70 = .ok (.goto (-54), 3) := lw_dr lw_d_cX10_start_66 2 rfl
theorem dX10_start_73 : decode cX10_start 73 = .ok (.aload_n 0, 1) := lw_dr lw_d_cX10_start_66 3 rfl
theorem dX10_start_74 : decode cX10_start 74 = .ok (.getfield 15, 3) := lw_dr lw_d_cX10_start_66 4 rfl
theorem dX10_start_77 : decode cX10_start 77 = .ok (.iconst 0, 1) := lw_dr lw_d_cX10_start_66 5 rfl
theorem dX10_start_78 : decode cX10_start 78 = .ok (.lconst 0, 1) := lw_dr lw_d_cX10_start_66 6 rfl
theorem dX10_start_79 : decode cX10_start 79 = .ok (.lastore, 1) := lw_dr lw_d_cX10_start_66 7 rfl
theorem dX10_start_80 : decode cX10_start 80 = .ok (.return_, 1) := lw_dr lw_d_cX10_start_66 8 rfl
theorem lw_d_cX10_setNumbers_0 : lw_dl cX10_setNumbers [(0, .aload_n 0, 1), (1, .getfield 21, 3), (4, .iload_n 1, 1), (5, .iload_n 2, 1), (6, .iastore, 1), (7, .aload_n 0, 1), (8, .getfield 25, 3), (11, .iload_n 1, 1), (12, .iload_n 3, 1), (13, .iastore, 1), (14, .aload_n 0, 1), (15, .getfield 28, 3), (18, .iload_n 1, 1), (19, .iload 4, 2), (21, .iastore, 1), (22, .return_, 1)] = true := by decide +kernel
theorem dX10_setNumbers_0 : decode cX10_setNumbers 0 = .ok (.aload_n 0, 1) := lw_dr lw_d_cX10_setNumbers_0 0 rfl
theorem dX10_setNumbers_1 : decode cX10_setNumbers 1 = .ok (.getfield 21, 3) := lw_dr lw_d_cX10_setNumbers_0 1 rfl
theorem dX10_setNumbers_4 : decode cX10_setNumbers 4 = .ok (.iload_n 1, 1) := lw_dr lw_d_cX10_setNumbers_0 2 rfl
theorem dX10_setNumbers_5 : decode cX10_setNumbers 5 = .ok (.iload_n 2, 1) := lw_dr lw_d_cX10_setNumbers_0 3 rfl
theorem dX10_setNumbers_6 : decode cX10_setNumbers 6 = .ok (.iastore, 1) := lw_dr lw_d_cX10_setNumbers_0 4 rfl
theorem dX10_setNumbers_7 : decode cX10_setNumbers 7 = .ok (.aload_n 0, 1) := lw_dr lw_d_cX10_setNumbers_0 5 rfl
theorem dX10_setNumbers_8 : decode cX10_setNumbers 8 = .ok (.getfield 25, 3) := lw_dr lw_d_cX10_setNumbers_0 6 rfl
theorem dX10_setNumbers_11 : decode cX10_setNumbers 11 = .ok (.iload_n 1, 1) := lw_dr lw_d_cX10_setNumbers_0 7 rfl
theorem dX10_setNumbers_12 : decode cX10_setNumbers 12 = .ok (.iload_n 3, 1) := lw_dr lw_d_cX10_setNumbers_0 8 rfl
theorem dX10_setNumbers_13 : decode cX10_setNumbers 13 = .ok (.iastore, 1) := lw_dr lw_d_cX10_setNumbers_0 9 rfl
theorem dX10_setNumbers_14 : decode cX10_setNumbers 14 = .ok (.aload_n 0, 1) := lw_dr lw_d_cX10_setNumbers_0 10 rfl
theorem dX10_setNumbers_15 : decode cX10_setNumbers 15 = .ok (.getfield 28, 3) := lw_dr lw_d_cX10_setNumbers_0 11 rfl
theorem dX10_setNumbers_18 : decode cX10_setNumbers 18 = .ok (.iload_n 1, 1) := lw_dr lw_d_cX10_setNumbers_0 12 rfl
theorem dX10_setNumbers_19 : decode cX10_setNumbers 19 = .ok (.iload 4, 2) := lw_dr lw_d_cX10_setNumbers_0 13 rfl
theorem dX10_setNumbers_21 : decode cX10_setNumbers 21 = .ok (.iastore, 1) := lw_dr lw_d_cX10_setNumbers_0 14 rfl
theorem dX10_setNumbers_22 : decode cX10_setNumbers 22 = .ok (.return_, 1) := lw_dr lw_d_cX10_setNumbers_0 15 rfl
theorem lw_d_cX10_firstLine_0 : lw_dl cX10_firstLine [(0, .aload_n 0, 1), (1, .getfield 31, 3), (4, .iconst 0, 1), (5, .invokestatic 68, 3), (8, .aload_n 0, 1), (9, .iconst 0, 1), (10, .invokevirtual 74, 3), (13, .return_, 1)] = true := by decide +kernel
theorem dX10_firstLine_0 : decode cX10_firstLine 0 = .ok (.aload_n 0, 1) := lw_dr lw_d_cX10_firstLine_0 0 rfl
theorem dX10_firstLine_1 : decode cX10_firstLine 1 = .ok (.getfield 31, 3) := lw_dr lw_d_cX10_firstLine_0 1 rfl
theorem dX10_firstLine_4 : decode cX10_firstLine 4 = .ok (.iconst 0, 1) := lw_dr lw_d_cX10_firstLine_0 2 rfl
theorem dX10_firstLine_5 : decode cX10_firstLine 5 = .ok (.invokestatic 68, 3) := lw_dr lw_d_cX10_firstLine_0 3 rfl
theorem dX10_firstLine_8 : decode cX10_firstLine 8 = .ok (.aload_n 0, 1) := lw_dr lw_d_cX10_firstLine_0 4 rfl
theorem dX10_firstLine_9 : decode cX10_firstLine 9 = .ok (.iconst 0, 1) := lw_dr lw_d_cX10_firstLine_0 5 rfl
theorem dX10_firstLine_10 : decode cX10_firstLine 10 = .ok (.invokevirtual 74, 3) := lw_dr lw_d_cX10_firstLine_0 6 rfl
theorem dX10_firstLine_13 : decode cX10_firstLine 13 = .ok (.return_, 1) := lw_dr lw_d_cX10_firstLine_0 7 rfl
theorem lw_d_cX10_settle_0 : lw_dl cX10_settle [(0, .iload_n 1, 1), (1, .istore_n 2, 1), (2, .iload_n 2, 1), (3, .aload_n 0, 1), (4, .getfield 34, 3), (7, .if_icmp .ge 131, 3), (138, .return_, 1), (10, .iload_n 2, 1), (11, .iconst 5, 1), (12, .imul, 1), (13, .istore_n 3, 1), (14, .aload_n 0, 1), (15, .getfield 21, 3), (18, .iload_n 2, 1), (19, .iaload, 1), (20, .aload_n 0, 1), (21, .getfield 25, 3), (24, .iload_n 2, 1), (25, .iaload, 1), (26, .aload_n 0, 1), (27, .getfield 31, 3), (30, .iload_n 2, 1), (31, .iaload, 1), (32, .imul, 1), (33, .iadd, 1), (34, .i2l, 1), (35, .lstore 4, 2), (37, .aload_n 0, 1), (38, .getfield 15, 3), (41, .iload_n 2, 1), (42, .iconst 1, 1), (43, .iadd, 1), (44, .aload_n 0, 1), (45, .getfield 15, 3), (48, .iload_n 2, 1), (49, .laload, 1), (50, .lload 4, 2), (52, .lload 4, 2), (54, .aload_n 0, 1), (55, .getfield 9, 3)] = true := by decide +kernel
theorem dX10_settle_0 : decode cX10_settle 0 = .ok (.iload_n 1, 1) := lw_dr lw_d_cX10_settle_0 0 rfl
theorem dX10_settle_1 : decode cX10_settle 1 = .ok (.istore_n 2, 1) := lw_dr lw_d_cX10_settle_0 1 rfl
theorem dX10_settle_2 : decode cX10_settle 2 = .ok (.iload_n 2, 1) := lw_dr lw_d_cX10_settle_0 2 rfl
theorem dX10_settle_3 : decode cX10_settle 3 = .ok (.aload_n 0, 1) := lw_dr lw_d_cX10_settle_0 3 rfl
theorem dX10_settle_4 : decode cX10_settle 4 = .ok (.getfield 34, 3) := lw_dr lw_d_cX10_settle_0 4 rfl
theorem dX10_settle_7 : decode cX10_settle 7 = .ok (.if_icmp .ge 131, 3) := lw_dr lw_d_cX10_settle_0 5 rfl
theorem dX10_settle_138 : decode cX10_settle 138 = .ok (.return_, 1) := lw_dr lw_d_cX10_settle_0 6 rfl
theorem dX10_settle_10 : decode cX10_settle 10 = .ok (.iload_n 2, 1) := lw_dr lw_d_cX10_settle_0 7 rfl
theorem dX10_settle_11 : decode cX10_settle 11 = .ok (.iconst 5, 1) := lw_dr lw_d_cX10_settle_0 8 rfl
theorem dX10_settle_12 : decode cX10_settle 12 = .ok (.imul, 1) := lw_dr lw_d_cX10_settle_0 9 rfl
theorem dX10_settle_13 : decode cX10_settle 13 = .ok (.istore_n 3, 1) := lw_dr lw_d_cX10_settle_0 10 rfl
theorem dX10_settle_14 : decode cX10_settle 14 = .ok (.aload_n 0, 1) := lw_dr lw_d_cX10_settle_0 11 rfl
theorem dX10_settle_15 : decode cX10_settle 15 = .ok (.getfield 21, 3) := lw_dr lw_d_cX10_settle_0 12 rfl
theorem dX10_settle_18 : decode cX10_settle 18 = .ok (.iload_n 2, 1) := lw_dr lw_d_cX10_settle_0 13 rfl
theorem dX10_settle_19 : decode cX10_settle 19 = .ok (.iaload, 1) := lw_dr lw_d_cX10_settle_0 14 rfl
theorem dX10_settle_20 : decode cX10_settle 20 = .ok (.aload_n 0, 1) := lw_dr lw_d_cX10_settle_0 15 rfl
theorem dX10_settle_21 : decode cX10_settle 21 = .ok (.getfield 25, 3) := lw_dr lw_d_cX10_settle_0 16 rfl
theorem dX10_settle_24 : decode cX10_settle 24 = .ok (.iload_n 2, 1) := lw_dr lw_d_cX10_settle_0 17 rfl
theorem dX10_settle_25 : decode cX10_settle 25 = .ok (.iaload, 1) := lw_dr lw_d_cX10_settle_0 18 rfl
theorem dX10_settle_26 : decode cX10_settle 26 = .ok (.aload_n 0, 1) := lw_dr lw_d_cX10_settle_0 19 rfl
theorem dX10_settle_27 : decode cX10_settle 27 = .ok (.getfield 31, 3) := lw_dr lw_d_cX10_settle_0 20 rfl
theorem dX10_settle_30 : decode cX10_settle 30 = .ok (.iload_n 2, 1) := lw_dr lw_d_cX10_settle_0 21 rfl
theorem dX10_settle_31 : decode cX10_settle 31 = .ok (.iaload, 1) := lw_dr lw_d_cX10_settle_0 22 rfl
theorem dX10_settle_32 : decode cX10_settle 32 = .ok (.imul, 1) := lw_dr lw_d_cX10_settle_0 23 rfl
theorem dX10_settle_33 : decode cX10_settle 33 = .ok (.iadd, 1) := lw_dr lw_d_cX10_settle_0 24 rfl
theorem dX10_settle_34 : decode cX10_settle 34 = .ok (.i2l, 1) := lw_dr lw_d_cX10_settle_0 25 rfl
theorem dX10_settle_35 : decode cX10_settle 35 = .ok (.lstore 4, 2) := lw_dr lw_d_cX10_settle_0 26 rfl
theorem dX10_settle_37 : decode cX10_settle 37 = .ok (.aload_n 0, 1) := lw_dr lw_d_cX10_settle_0 27 rfl
theorem dX10_settle_38 : decode cX10_settle 38 = .ok (.getfield 15, 3) := lw_dr lw_d_cX10_settle_0 28 rfl
theorem dX10_settle_41 : decode cX10_settle 41 = .ok (.iload_n 2, 1) := lw_dr lw_d_cX10_settle_0 29 rfl
theorem dX10_settle_42 : decode cX10_settle 42 = .ok (.iconst 1, 1) := lw_dr lw_d_cX10_settle_0 30 rfl
theorem dX10_settle_43 : decode cX10_settle 43 = .ok (.iadd, 1) := lw_dr lw_d_cX10_settle_0 31 rfl
theorem dX10_settle_44 : decode cX10_settle 44 = .ok (.aload_n 0, 1) := lw_dr lw_d_cX10_settle_0 32 rfl
theorem dX10_settle_45 : decode cX10_settle 45 = .ok (.getfield 15, 3) := lw_dr lw_d_cX10_settle_0 33 rfl
theorem dX10_settle_48 : decode cX10_settle 48 = .ok (.iload_n 2, 1) := lw_dr lw_d_cX10_settle_0 34 rfl
theorem dX10_settle_49 : decode cX10_settle 49 = .ok (.laload, 1) := lw_dr lw_d_cX10_settle_0 35 rfl
theorem dX10_settle_50 : decode cX10_settle 50 = .ok (.lload 4, 2) := lw_dr lw_d_cX10_settle_0 36 rfl
theorem dX10_settle_52 : decode cX10_settle 52 = .ok (.lload 4, 2) := lw_dr lw_d_cX10_settle_0 37 rfl
theorem dX10_settle_54 : decode cX10_settle 54 = .ok (.aload_n 0, 1) := lw_dr lw_d_cX10_settle_0 38 rfl
theorem dX10_settle_55 : decode cX10_settle 55 = .ok (.getfield 9, 3) := lw_dr lw_d_cX10_settle_0 39 rfl
theorem lw_d_cX10_settle_58 : lw_dl cX10_settle [(58, .iload_n 3, 1), (59, .iload_n 2, 1), (60, .iadd, 1), (61, .laload, 1), (62, .lmul, 1), (63, .ldc2_w 78, 3), (66, .aload_n 0, 1), (67, .getfield 18, 3), (70, .iload_n 3, 1), (71, .iload_n 2, 1), (72, .iadd, 1), (73, .laload, 1), (74, .lmul, 1), (75, .lsub, 1), (76, .lmul, 1), (77, .ladd, 1), (78, .lastore, 1), (79, .iload_n 2, 1), (80, .iconst 1, 1), (81, .iadd, 1), (82, .istore 6, 2), (84, .iload 6, 2), (86, .aload_n 0, 1), (87, .getfield 34, 3), (90, .if_icmp .gt 42, 3), (132, .iinc 2 1, 3), (135, .goto (-133), 3), (93, .aload_n 0, 1), (94, .getfield 18, 3), (97, .iload_n 3, 1), (98, .iconst 5, 1), (99, .iadd, 1), (100, .iload 6, 2), (102, .iadd, 1), (103, .aload_n 0, 1), (104, .getfield 18, 3), (107, .iload_n 3, 1), (108, .iload 6, 2), (110, .iadd, 1), (111, .laload, 1)] = true := by decide +kernel
theorem dX10_settle_58 : decode cX10_settle 58 = .ok (.iload_n 3, 1) := lw_dr lw_d_cX10_settle_58 0 rfl
theorem dX10_settle_59 : decode cX10_settle 59 = .ok (.iload_n 2, 1) := lw_dr lw_d_cX10_settle_58 1 rfl
theorem dX10_settle_60 : decode cX10_settle 60 = .ok (.iadd, 1) := lw_dr lw_d_cX10_settle_58 2 rfl
theorem dX10_settle_61 : decode cX10_settle 61 = .ok (.laload, 1) := lw_dr lw_d_cX10_settle_58 3 rfl
theorem dX10_settle_62 : decode cX10_settle 62 = .ok (.lmul, 1) := lw_dr lw_d_cX10_settle_58 4 rfl
theorem dX10_settle_63 : decode cX10_settle 63 = .ok (.ldc2_w 78, 3) := lw_dr lw_d_cX10_settle_58 5 rfl
theorem dX10_settle_66 : decode cX10_settle 66 = .ok (.aload_n 0, 1) := lw_dr lw_d_cX10_settle_58 6 rfl
theorem dX10_settle_67 : decode cX10_settle 67 = .ok (.getfield 18, 3) := lw_dr lw_d_cX10_settle_58 7 rfl
theorem dX10_settle_70 : decode cX10_settle 70 = .ok (.iload_n 3, 1) := lw_dr lw_d_cX10_settle_58 8 rfl
theorem dX10_settle_71 : decode cX10_settle 71 = .ok (.iload_n 2, 1) := lw_dr lw_d_cX10_settle_58 9 rfl
theorem dX10_settle_72 : decode cX10_settle 72 = .ok (.iadd, 1) := lw_dr lw_d_cX10_settle_58 10 rfl
theorem dX10_settle_73 : decode cX10_settle 73 = .ok (.laload, 1) := lw_dr lw_d_cX10_settle_58 11 rfl
theorem dX10_settle_74 : decode cX10_settle 74 = .ok (.lmul, 1) := lw_dr lw_d_cX10_settle_58 12 rfl
theorem dX10_settle_75 : decode cX10_settle 75 = .ok (.lsub, 1) := lw_dr lw_d_cX10_settle_58 13 rfl
theorem dX10_settle_76 : decode cX10_settle 76 = .ok (.lmul, 1) := lw_dr lw_d_cX10_settle_58 14 rfl
theorem dX10_settle_77 : decode cX10_settle 77 = .ok (.ladd, 1) := lw_dr lw_d_cX10_settle_58 15 rfl
theorem dX10_settle_78 : decode cX10_settle 78 = .ok (.lastore, 1) := lw_dr lw_d_cX10_settle_58 16 rfl
theorem dX10_settle_79 : decode cX10_settle 79 = .ok (.iload_n 2, 1) := lw_dr lw_d_cX10_settle_58 17 rfl
theorem dX10_settle_80 : decode cX10_settle 80 = .ok (.iconst 1, 1) := lw_dr lw_d_cX10_settle_58 18 rfl
theorem dX10_settle_81 : decode cX10_settle 81 = .ok (.iadd, 1) := lw_dr lw_d_cX10_settle_58 19 rfl
theorem dX10_settle_82 : decode cX10_settle 82 = .ok (.istore 6, 2) := lw_dr lw_d_cX10_settle_58 20 rfl
theorem dX10_settle_84 : decode cX10_settle 84 = .ok (.iload 6, 2) := lw_dr lw_d_cX10_settle_58 21 rfl
theorem dX10_settle_86 : decode cX10_settle 86 = .ok (.aload_n 0, 1) := lw_dr lw_d_cX10_settle_58 22 rfl
theorem dX10_settle_87 : decode cX10_settle 87 = .ok (.getfield 34, 3) := lw_dr lw_d_cX10_settle_58 23 rfl
theorem dX10_settle_90 : decode cX10_settle 90 = .ok (.if_icmp .gt 42, 3) := lw_dr lw_d_cX10_settle_58 24 rfl
theorem dX10_settle_132 : decode cX10_settle 132 = .ok (.iinc 2 1, 3) := lw_dr lw_d_cX10_settle_58 25 rfl
theorem dX10_settle_135 : decode cX10_settle 135 = .ok (.goto (-133), 3) := lw_dr lw_d_cX10_settle_58 26 rfl
theorem dX10_settle_93 : decode cX10_settle 93 = .ok (.aload_n 0, 1) := lw_dr lw_d_cX10_settle_58 27 rfl
theorem dX10_settle_94 : decode cX10_settle 94 = .ok (.getfield 18, 3) := lw_dr lw_d_cX10_settle_58 28 rfl
theorem dX10_settle_97 : decode cX10_settle 97 = .ok (.iload_n 3, 1) := lw_dr lw_d_cX10_settle_58 29 rfl
theorem dX10_settle_98 : decode cX10_settle 98 = .ok (.iconst 5, 1) := lw_dr lw_d_cX10_settle_58 30 rfl
theorem dX10_settle_99 : decode cX10_settle 99 = .ok (.iadd, 1) := lw_dr lw_d_cX10_settle_58 31 rfl
theorem dX10_settle_100 : decode cX10_settle 100 = .ok (.iload 6, 2) := lw_dr lw_d_cX10_settle_58 32 rfl
theorem dX10_settle_102 : decode cX10_settle 102 = .ok (.iadd, 1) := lw_dr lw_d_cX10_settle_58 33 rfl
theorem dX10_settle_103 : decode cX10_settle 103 = .ok (.aload_n 0, 1) := lw_dr lw_d_cX10_settle_58 34 rfl
theorem dX10_settle_104 : decode cX10_settle 104 = .ok (.getfield 18, 3) := lw_dr lw_d_cX10_settle_58 35 rfl
theorem dX10_settle_107 : decode cX10_settle 107 = .ok (.iload_n 3, 1) := lw_dr lw_d_cX10_settle_58 36 rfl
theorem dX10_settle_108 : decode cX10_settle 108 = .ok (.iload 6, 2) := lw_dr lw_d_cX10_settle_58 37 rfl
theorem dX10_settle_110 : decode cX10_settle 110 = .ok (.iadd, 1) := lw_dr lw_d_cX10_settle_58 38 rfl
theorem dX10_settle_111 : decode cX10_settle 111 = .ok (.laload, 1) := lw_dr lw_d_cX10_settle_58 39 rfl
theorem lw_d_cX10_settle_112 : lw_dl cX10_settle [(112, .lload 4, 2), (114, .aload_n 0, 1), (115, .getfield 9, 3), (118, .iload_n 3, 1), (119, .iload 6, 2), (121, .iadd, 1), (122, .laload, 1), (123, .lmul, 1), (124, .lsub, 1), (125, .lastore, 1), (126, .iinc 6 1, 3), (129, .goto (-45), 3)] = true := by decide +kernel
theorem dX10_settle_112 : decode cX10_settle 112 = .ok (.lload 4, 2) := lw_dr lw_d_cX10_settle_112 0 rfl
theorem dX10_settle_114 : decode cX10_settle 114 = .ok (.aload_n 0, 1) := lw_dr lw_d_cX10_settle_112 1 rfl
theorem dX10_settle_115 : decode cX10_settle 115 = .ok (.getfield 9, 3) := lw_dr lw_d_cX10_settle_112 2 rfl
theorem dX10_settle_118 : decode cX10_settle 118 = .ok (.iload_n 3, 1) := lw_dr lw_d_cX10_settle_112 3 rfl
theorem dX10_settle_119 : decode cX10_settle 119 = .ok (.iload 6, 2) := lw_dr lw_d_cX10_settle_112 4 rfl
theorem dX10_settle_121 : decode cX10_settle 121 = .ok (.iadd, 1) := lw_dr lw_d_cX10_settle_112 5 rfl
theorem dX10_settle_122 : decode cX10_settle 122 = .ok (.laload, 1) := lw_dr lw_d_cX10_settle_112 6 rfl
theorem dX10_settle_123 : decode cX10_settle 123 = .ok (.lmul, 1) := lw_dr lw_d_cX10_settle_112 7 rfl
theorem dX10_settle_124 : decode cX10_settle 124 = .ok (.lsub, 1) := lw_dr lw_d_cX10_settle_112 8 rfl
theorem dX10_settle_125 : decode cX10_settle 125 = .ok (.lastore, 1) := lw_dr lw_d_cX10_settle_112 9 rfl
theorem dX10_settle_126 : decode cX10_settle 126 = .ok (.iinc 6 1, 3) := lw_dr lw_d_cX10_settle_112 10 rfl
theorem dX10_settle_129 : decode cX10_settle 129 = .ok (.goto (-45), 3) := lw_dr lw_d_cX10_settle_112 11 rfl
theorem lw_d_cX10_lineCount_0 : lw_dl cX10_lineCount [(0, .iconst 1, 1), (1, .istore_n 1, 1), (2, .iconst 0, 1), (3, .istore_n 2, 1), (4, .iload_n 2, 1), (5, .aload_n 0, 1), (6, .getfield 34, 3), (9, .if_icmp .ge 18, 3), (27, .iload_n 1, 1), (28, .ireturn, 1), (12, .iload_n 1, 1), (13, .aload_n 0, 1), (14, .getfield 28, 3), (17, .iload_n 2, 1), (18, .iaload, 1), (19, .imul, 1), (20, .istore_n 1, 1), (21, .iinc 2 1, 3), (24, .goto (-20), 3)] = true := by decide +kernel
theorem dX10_lineCount_0 : decode cX10_lineCount 0 = .ok (.iconst 1, 1) := lw_dr lw_d_cX10_lineCount_0 0 rfl
theorem dX10_lineCount_1 : decode cX10_lineCount 1 = .ok (.istore_n 1, 1) := lw_dr lw_d_cX10_lineCount_0 1 rfl
theorem dX10_lineCount_2 : decode cX10_lineCount 2 = .ok (.iconst 0, 1) := lw_dr lw_d_cX10_lineCount_0 2 rfl
theorem dX10_lineCount_3 : decode cX10_lineCount 3 = .ok (.istore_n 2, 1) := lw_dr lw_d_cX10_lineCount_0 3 rfl
theorem dX10_lineCount_4 : decode cX10_lineCount 4 = .ok (.iload_n 2, 1) := lw_dr lw_d_cX10_lineCount_0 4 rfl
theorem dX10_lineCount_5 : decode cX10_lineCount 5 = .ok (.aload_n 0, 1) := lw_dr lw_d_cX10_lineCount_0 5 rfl
theorem dX10_lineCount_6 : decode cX10_lineCount 6 = .ok (.getfield 34, 3) := lw_dr lw_d_cX10_lineCount_0 6 rfl
theorem dX10_lineCount_9 : decode cX10_lineCount 9 = .ok (.if_icmp .ge 18, 3) := lw_dr lw_d_cX10_lineCount_0 7 rfl
theorem dX10_lineCount_27 : decode cX10_lineCount 27 = .ok (.iload_n 1, 1) := lw_dr lw_d_cX10_lineCount_0 8 rfl
theorem dX10_lineCount_28 : decode cX10_lineCount 28 = .ok (.ireturn, 1) := lw_dr lw_d_cX10_lineCount_0 9 rfl
theorem dX10_lineCount_12 : decode cX10_lineCount 12 = .ok (.iload_n 1, 1) := lw_dr lw_d_cX10_lineCount_0 10 rfl
theorem dX10_lineCount_13 : decode cX10_lineCount 13 = .ok (.aload_n 0, 1) := lw_dr lw_d_cX10_lineCount_0 11 rfl
theorem dX10_lineCount_14 : decode cX10_lineCount 14 = .ok (.getfield 28, 3) := lw_dr lw_d_cX10_lineCount_0 12 rfl
theorem dX10_lineCount_17 : decode cX10_lineCount 17 = .ok (.iload_n 2, 1) := lw_dr lw_d_cX10_lineCount_0 13 rfl
theorem dX10_lineCount_18 : decode cX10_lineCount 18 = .ok (.iaload, 1) := lw_dr lw_d_cX10_lineCount_0 14 rfl
theorem dX10_lineCount_19 : decode cX10_lineCount 19 = .ok (.imul, 1) := lw_dr lw_d_cX10_lineCount_0 15 rfl
theorem dX10_lineCount_20 : decode cX10_lineCount 20 = .ok (.istore_n 1, 1) := lw_dr lw_d_cX10_lineCount_0 16 rfl
theorem dX10_lineCount_21 : decode cX10_lineCount 21 = .ok (.iinc 2 1, 3) := lw_dr lw_d_cX10_lineCount_0 17 rfl
theorem dX10_lineCount_24 : decode cX10_lineCount 24 = .ok (.goto (-20), 3) := lw_dr lw_d_cX10_lineCount_0 18 rfl
theorem lw_d_cX10_squaresAt_0 : lw_dl cX10_squaresAt [(0, .aload_n 0, 1), (1, .getfield 34, 3), (4, .iconst 5, 1), (5, .imul, 1), (6, .aload_n 0, 1), (7, .getfield 34, 3), (10, .iadd, 1), (11, .istore_n 2, 1), (12, .aload_n 0, 1), (13, .getfield 21, 3), (16, .aload_n 0, 1), (17, .getfield 34, 3), (20, .iaload, 1), (21, .aload_n 0, 1), (22, .getfield 25, 3), (25, .aload_n 0, 1), (26, .getfield 34, 3), (29, .iaload, 1), (30, .iload_n 1, 1), (31, .imul, 1), (32, .iadd, 1), (33, .i2l, 1), (34, .lstore_n 3, 1), (35, .aload_n 0, 1), (36, .getfield 15, 3), (39, .aload_n 0, 1), (40, .getfield 34, 3), (43, .laload, 1), (44, .lload_n 3, 1), (45, .lload_n 3, 1), (46, .aload_n 0, 1), (47, .getfield 9, 3), (50, .iload_n 2, 1), (51, .laload, 1), (52, .lmul, 1), (53, .ldc2_w 78, 3), (56, .aload_n 0, 1), (57, .getfield 18, 3), (60, .iload_n 2, 1), (61, .laload, 1)] = true := by decide +kernel
theorem dX10_squaresAt_0 : decode cX10_squaresAt 0 = .ok (.aload_n 0, 1) := lw_dr lw_d_cX10_squaresAt_0 0 rfl
theorem dX10_squaresAt_1 : decode cX10_squaresAt 1 = .ok (.getfield 34, 3) := lw_dr lw_d_cX10_squaresAt_0 1 rfl
theorem dX10_squaresAt_4 : decode cX10_squaresAt 4 = .ok (.iconst 5, 1) := lw_dr lw_d_cX10_squaresAt_0 2 rfl
theorem dX10_squaresAt_5 : decode cX10_squaresAt 5 = .ok (.imul, 1) := lw_dr lw_d_cX10_squaresAt_0 3 rfl
theorem dX10_squaresAt_6 : decode cX10_squaresAt 6 = .ok (.aload_n 0, 1) := lw_dr lw_d_cX10_squaresAt_0 4 rfl
theorem dX10_squaresAt_7 : decode cX10_squaresAt 7 = .ok (.getfield 34, 3) := lw_dr lw_d_cX10_squaresAt_0 5 rfl
theorem dX10_squaresAt_10 : decode cX10_squaresAt 10 = .ok (.iadd, 1) := lw_dr lw_d_cX10_squaresAt_0 6 rfl
theorem dX10_squaresAt_11 : decode cX10_squaresAt 11 = .ok (.istore_n 2, 1) := lw_dr lw_d_cX10_squaresAt_0 7 rfl
theorem dX10_squaresAt_12 : decode cX10_squaresAt 12 = .ok (.aload_n 0, 1) := lw_dr lw_d_cX10_squaresAt_0 8 rfl
theorem dX10_squaresAt_13 : decode cX10_squaresAt 13 = .ok (.getfield 21, 3) := lw_dr lw_d_cX10_squaresAt_0 9 rfl
theorem dX10_squaresAt_16 : decode cX10_squaresAt 16 = .ok (.aload_n 0, 1) := lw_dr lw_d_cX10_squaresAt_0 10 rfl
theorem dX10_squaresAt_17 : decode cX10_squaresAt 17 = .ok (.getfield 34, 3) := lw_dr lw_d_cX10_squaresAt_0 11 rfl
theorem dX10_squaresAt_20 : decode cX10_squaresAt 20 = .ok (.iaload, 1) := lw_dr lw_d_cX10_squaresAt_0 12 rfl
theorem dX10_squaresAt_21 : decode cX10_squaresAt 21 = .ok (.aload_n 0, 1) := lw_dr lw_d_cX10_squaresAt_0 13 rfl
theorem dX10_squaresAt_22 : decode cX10_squaresAt 22 = .ok (.getfield 25, 3) := lw_dr lw_d_cX10_squaresAt_0 14 rfl
theorem dX10_squaresAt_25 : decode cX10_squaresAt 25 = .ok (.aload_n 0, 1) := lw_dr lw_d_cX10_squaresAt_0 15 rfl
theorem dX10_squaresAt_26 : decode cX10_squaresAt 26 = .ok (.getfield 34, 3) := lw_dr lw_d_cX10_squaresAt_0 16 rfl
theorem dX10_squaresAt_29 : decode cX10_squaresAt 29 = .ok (.iaload, 1) := lw_dr lw_d_cX10_squaresAt_0 17 rfl
theorem dX10_squaresAt_30 : decode cX10_squaresAt 30 = .ok (.iload_n 1, 1) := lw_dr lw_d_cX10_squaresAt_0 18 rfl
theorem dX10_squaresAt_31 : decode cX10_squaresAt 31 = .ok (.imul, 1) := lw_dr lw_d_cX10_squaresAt_0 19 rfl
theorem dX10_squaresAt_32 : decode cX10_squaresAt 32 = .ok (.iadd, 1) := lw_dr lw_d_cX10_squaresAt_0 20 rfl
theorem dX10_squaresAt_33 : decode cX10_squaresAt 33 = .ok (.i2l, 1) := lw_dr lw_d_cX10_squaresAt_0 21 rfl
theorem dX10_squaresAt_34 : decode cX10_squaresAt 34 = .ok (.lstore_n 3, 1) := lw_dr lw_d_cX10_squaresAt_0 22 rfl
theorem dX10_squaresAt_35 : decode cX10_squaresAt 35 = .ok (.aload_n 0, 1) := lw_dr lw_d_cX10_squaresAt_0 23 rfl
theorem dX10_squaresAt_36 : decode cX10_squaresAt 36 = .ok (.getfield 15, 3) := lw_dr lw_d_cX10_squaresAt_0 24 rfl
theorem dX10_squaresAt_39 : decode cX10_squaresAt 39 = .ok (.aload_n 0, 1) := lw_dr lw_d_cX10_squaresAt_0 25 rfl
theorem dX10_squaresAt_40 : decode cX10_squaresAt 40 = .ok (.getfield 34, 3) := lw_dr lw_d_cX10_squaresAt_0 26 rfl
theorem dX10_squaresAt_43 : decode cX10_squaresAt 43 = .ok (.laload, 1) := lw_dr lw_d_cX10_squaresAt_0 27 rfl
theorem dX10_squaresAt_44 : decode cX10_squaresAt 44 = .ok (.lload_n 3, 1) := lw_dr lw_d_cX10_squaresAt_0 28 rfl
theorem dX10_squaresAt_45 : decode cX10_squaresAt 45 = .ok (.lload_n 3, 1) := lw_dr lw_d_cX10_squaresAt_0 29 rfl
theorem dX10_squaresAt_46 : decode cX10_squaresAt 46 = .ok (.aload_n 0, 1) := lw_dr lw_d_cX10_squaresAt_0 30 rfl
theorem dX10_squaresAt_47 : decode cX10_squaresAt 47 = .ok (.getfield 9, 3) := lw_dr lw_d_cX10_squaresAt_0 31 rfl
theorem dX10_squaresAt_50 : decode cX10_squaresAt 50 = .ok (.iload_n 2, 1) := lw_dr lw_d_cX10_squaresAt_0 32 rfl
theorem dX10_squaresAt_51 : decode cX10_squaresAt 51 = .ok (.laload, 1) := lw_dr lw_d_cX10_squaresAt_0 33 rfl
theorem dX10_squaresAt_52 : decode cX10_squaresAt 52 = .ok (.lmul, 1) := lw_dr lw_d_cX10_squaresAt_0 34 rfl
theorem dX10_squaresAt_53 : decode cX10_squaresAt 53 = .ok (.ldc2_w 78, 3) := lw_dr lw_d_cX10_squaresAt_0 35 rfl
theorem dX10_squaresAt_56 : decode cX10_squaresAt 56 = .ok (.aload_n 0, 1) := lw_dr lw_d_cX10_squaresAt_0 36 rfl
theorem dX10_squaresAt_57 : decode cX10_squaresAt 57 = .ok (.getfield 18, 3) := lw_dr lw_d_cX10_squaresAt_0 37 rfl
theorem dX10_squaresAt_60 : decode cX10_squaresAt 60 = .ok (.iload_n 2, 1) := lw_dr lw_d_cX10_squaresAt_0 38 rfl
theorem dX10_squaresAt_61 : decode cX10_squaresAt 61 = .ok (.laload, 1) := lw_dr lw_d_cX10_squaresAt_0 39 rfl
theorem lw_d_cX10_squaresAt_62 : lw_dl cX10_squaresAt [(62, .lmul, 1), (63, .lsub, 1), (64, .lmul, 1), (65, .ladd, 1), (66, .lreturn, 1)] = true := by decide +kernel
theorem dX10_squaresAt_62 : decode cX10_squaresAt 62 = .ok (.lmul, 1) := lw_dr lw_d_cX10_squaresAt_62 0 rfl
theorem dX10_squaresAt_63 : decode cX10_squaresAt 63 = .ok (.lsub, 1) := lw_dr lw_d_cX10_squaresAt_62 1 rfl
theorem dX10_squaresAt_64 : decode cX10_squaresAt 64 = .ok (.lmul, 1) := lw_dr lw_d_cX10_squaresAt_62 2 rfl
theorem dX10_squaresAt_65 : decode cX10_squaresAt 65 = .ok (.ladd, 1) := lw_dr lw_d_cX10_squaresAt_62 3 rfl
theorem dX10_squaresAt_66 : decode cX10_squaresAt 66 = .ok (.lreturn, 1) := lw_dr lw_d_cX10_squaresAt_62 4 rfl
theorem lw_d_cX10_nextLine_0 : lw_dl cX10_nextLine [(0, .aload_n 0, 1), (1, .getfield 34, 3), (4, .iconst 1, 1), (5, .isub, 1), (6, .istore_n 1, 1), (7, .iload_n 1, 1), (8, .ifCond .lt 33, 3), (41, .iload_n 1, 1), (42, .ifCond .lt 18, 3), (60, .return_, 1), (11, .aload_n 0, 1), (12, .getfield 31, 3), (15, .iload_n 1, 1), (16, .iaload, 1), (17, .iconst 1, 1), (18, .iadd, 1), (19, .aload_n 0, 1), (20, .getfield 28, 3), (23, .iload_n 1, 1)] = true := by decide +kernel
theorem dX10_nextLine_0 : decode cX10_nextLine 0 = .ok (.aload_n 0, 1) := lw_dr lw_d_cX10_nextLine_0 0 rfl
theorem dX10_nextLine_1 : decode cX10_nextLine 1 = .ok (.getfield 34, 3) := lw_dr lw_d_cX10_nextLine_0 1 rfl
theorem dX10_nextLine_4 : decode cX10_nextLine 4 = .ok (.iconst 1, 1) := lw_dr lw_d_cX10_nextLine_0 2 rfl
theorem dX10_nextLine_5 : decode cX10_nextLine 5 = .ok (.isub, 1) := lw_dr lw_d_cX10_nextLine_0 3 rfl
theorem dX10_nextLine_6 : decode cX10_nextLine 6 = .ok (.istore_n 1, 1) := lw_dr lw_d_cX10_nextLine_0 4 rfl
theorem dX10_nextLine_7 : decode cX10_nextLine 7 = .ok (.iload_n 1, 1) := lw_dr lw_d_cX10_nextLine_0 5 rfl
theorem dX10_nextLine_8 : decode cX10_nextLine 8 = .ok (.ifCond .lt 33, 3) := lw_dr lw_d_cX10_nextLine_0 6 rfl
theorem dX10_nextLine_41 : decode cX10_nextLine 41 = .ok (.iload_n 1, 1) := lw_dr lw_d_cX10_nextLine_0 7 rfl
theorem dX10_nextLine_42 : decode cX10_nextLine 42 = .ok (.ifCond .lt 18, 3) := lw_dr lw_d_cX10_nextLine_0 8 rfl
theorem dX10_nextLine_60 : decode cX10_nextLine 60 = .ok (.return_, 1) := lw_dr lw_d_cX10_nextLine_0 9 rfl
theorem dX10_nextLine_11 : decode cX10_nextLine 11 = .ok (.aload_n 0, 1) := lw_dr lw_d_cX10_nextLine_0 10 rfl
theorem dX10_nextLine_12 : decode cX10_nextLine 12 = .ok (.getfield 31, 3) := lw_dr lw_d_cX10_nextLine_0 11 rfl
theorem dX10_nextLine_15 : decode cX10_nextLine 15 = .ok (.iload_n 1, 1) := lw_dr lw_d_cX10_nextLine_0 12 rfl
theorem dX10_nextLine_16 : decode cX10_nextLine 16 = .ok (.iaload, 1) := lw_dr lw_d_cX10_nextLine_0 13 rfl
theorem dX10_nextLine_17 : decode cX10_nextLine 17 = .ok (.iconst 1, 1) := lw_dr lw_d_cX10_nextLine_0 14 rfl
theorem dX10_nextLine_18 : decode cX10_nextLine 18 = .ok (.iadd, 1) := lw_dr lw_d_cX10_nextLine_0 15 rfl
theorem dX10_nextLine_19 : decode cX10_nextLine 19 = .ok (.aload_n 0, 1) := lw_dr lw_d_cX10_nextLine_0 16 rfl
theorem dX10_nextLine_20 : decode cX10_nextLine 20 = .ok (.getfield 28, 3) := lw_dr lw_d_cX10_nextLine_0 17 rfl
theorem dX10_nextLine_23 : decode cX10_nextLine 23 = .ok (.iload_n 1, 1) := lw_dr lw_d_cX10_nextLine_0 18 rfl
theorem lw_d_cX10_nextLine_24 : lw_dl cX10_nextLine [(24, .iaload, 1), (25, .if_icmp .lt 16, 3), (45, .aload_n 0, 1), (46, .getfield 31, 3), (49, .iload_n 1, 1), (50, .dup2, 1), (51, .iaload, 1), (52, .iconst 1, 1), (53, .iadd, 1), (54, .iastore, 1), (55, .aload_n 0, 1), (56, .iload_n 1, 1), (57, .invokevirtual 74, 3), (28, .aload_n 0, 1), (29, .getfield 31, 3), (32, .iload_n 1, 1), (33, .iconst 0, 1), (34, .iastore, 1), (35, .iinc 1 (-1), 3), (38, .goto (-31), 3)] = true := by decide +kernel
theorem dX10_nextLine_24 : decode cX10_nextLine 24 = .ok (.iaload, 1) := lw_dr lw_d_cX10_nextLine_24 0 rfl
theorem dX10_nextLine_25 : decode cX10_nextLine 25 = .ok (.if_icmp .lt 16, 3) := lw_dr lw_d_cX10_nextLine_24 1 rfl
theorem dX10_nextLine_45 : decode cX10_nextLine 45 = .ok (.aload_n 0, 1) := lw_dr lw_d_cX10_nextLine_24 2 rfl
theorem dX10_nextLine_46 : decode cX10_nextLine 46 = .ok (.getfield 31, 3) := lw_dr lw_d_cX10_nextLine_24 3 rfl
theorem dX10_nextLine_49 : decode cX10_nextLine 49 = .ok (.iload_n 1, 1) := lw_dr lw_d_cX10_nextLine_24 4 rfl
theorem dX10_nextLine_50 : decode cX10_nextLine 50 = .ok (.dup2, 1) := lw_dr lw_d_cX10_nextLine_24 5 rfl
theorem dX10_nextLine_51 : decode cX10_nextLine 51 = .ok (.iaload, 1) := lw_dr lw_d_cX10_nextLine_24 6 rfl
theorem dX10_nextLine_52 : decode cX10_nextLine 52 = .ok (.iconst 1, 1) := lw_dr lw_d_cX10_nextLine_24 7 rfl
theorem dX10_nextLine_53 : decode cX10_nextLine 53 = .ok (.iadd, 1) := lw_dr lw_d_cX10_nextLine_24 8 rfl
theorem dX10_nextLine_54 : decode cX10_nextLine 54 = .ok (.iastore, 1) := lw_dr lw_d_cX10_nextLine_24 9 rfl
theorem dX10_nextLine_55 : decode cX10_nextLine 55 = .ok (.aload_n 0, 1) := lw_dr lw_d_cX10_nextLine_24 10 rfl
theorem dX10_nextLine_56 : decode cX10_nextLine 56 = .ok (.iload_n 1, 1) := lw_dr lw_d_cX10_nextLine_24 11 rfl
theorem dX10_nextLine_57 : decode cX10_nextLine 57 = .ok (.invokevirtual 74, 3) := lw_dr lw_d_cX10_nextLine_24 12 rfl
theorem dX10_nextLine_28 : decode cX10_nextLine 28 = .ok (.aload_n 0, 1) := lw_dr lw_d_cX10_nextLine_24 13 rfl
theorem dX10_nextLine_29 : decode cX10_nextLine 29 = .ok (.getfield 31, 3) := lw_dr lw_d_cX10_nextLine_24 14 rfl
theorem dX10_nextLine_32 : decode cX10_nextLine 32 = .ok (.iload_n 1, 1) := lw_dr lw_d_cX10_nextLine_24 15 rfl
theorem dX10_nextLine_33 : decode cX10_nextLine 33 = .ok (.iconst 0, 1) := lw_dr lw_d_cX10_nextLine_24 16 rfl
theorem dX10_nextLine_34 : decode cX10_nextLine 34 = .ok (.iastore, 1) := lw_dr lw_d_cX10_nextLine_24 17 rfl
theorem dX10_nextLine_35 : decode cX10_nextLine 35 = .ok (.iinc 1 (-1), 3) := lw_dr lw_d_cX10_nextLine_24 18 rfl
theorem dX10_nextLine_38 : decode cX10_nextLine 38 = .ok (.goto (-31), 3) := lw_dr lw_d_cX10_nextLine_24 19 rfl
theorem lw_d_cX10_bestDigit_0 : lw_dl cX10_bestDigit [(0, .aload_n 0, 1), (1, .getfield 34, 3), (4, .iconst 5, 1), (5, .imul, 1), (6, .aload_n 0, 1), (7, .getfield 34, 3), (10, .iadd, 1), (11, .istore_n 2, 1), (12, .aload_n 0, 1), (13, .getfield 9, 3), (16, .iload_n 2, 1), (17, .laload, 1), (18, .aload_n 0, 1), (19, .getfield 25, 3), (22, .aload_n 0, 1), (23, .getfield 34, 3), (26, .iaload, 1), (27, .i2l, 1), (28, .lmul, 1), (29, .lstore_n 3, 1), (30, .lload_n 3, 1), (31, .lconst 0, 1), (32, .lcmp, 1), (33, .ifCond .gt 5, 3), (38, .aload_n 0, 1), (39, .getfield 18, 3), (42, .iload_n 2, 1), (43, .laload, 1), (44, .aload_n 0, 1), (45, .getfield 21, 3), (48, .aload_n 0, 1), (49, .getfield 34, 3), (52, .iaload, 1), (53, .i2l, 1), (54, .aload_n 0, 1), (55, .getfield 9, 3), (58, .iload_n 2, 1), (59, .laload, 1), (60, .lmul, 1), (61, .lsub, 1)] = true := by decide +kernel
theorem dX10_bestDigit_0 : decode cX10_bestDigit 0 = .ok (.aload_n 0, 1) := lw_dr lw_d_cX10_bestDigit_0 0 rfl
theorem dX10_bestDigit_1 : decode cX10_bestDigit 1 = .ok (.getfield 34, 3) := lw_dr lw_d_cX10_bestDigit_0 1 rfl
theorem dX10_bestDigit_4 : decode cX10_bestDigit 4 = .ok (.iconst 5, 1) := lw_dr lw_d_cX10_bestDigit_0 2 rfl
theorem dX10_bestDigit_5 : decode cX10_bestDigit 5 = .ok (.imul, 1) := lw_dr lw_d_cX10_bestDigit_0 3 rfl
theorem dX10_bestDigit_6 : decode cX10_bestDigit 6 = .ok (.aload_n 0, 1) := lw_dr lw_d_cX10_bestDigit_0 4 rfl
theorem dX10_bestDigit_7 : decode cX10_bestDigit 7 = .ok (.getfield 34, 3) := lw_dr lw_d_cX10_bestDigit_0 5 rfl
theorem dX10_bestDigit_10 : decode cX10_bestDigit 10 = .ok (.iadd, 1) := lw_dr lw_d_cX10_bestDigit_0 6 rfl
theorem dX10_bestDigit_11 : decode cX10_bestDigit 11 = .ok (.istore_n 2, 1) := lw_dr lw_d_cX10_bestDigit_0 7 rfl
theorem dX10_bestDigit_12 : decode cX10_bestDigit 12 = .ok (.aload_n 0, 1) := lw_dr lw_d_cX10_bestDigit_0 8 rfl
theorem dX10_bestDigit_13 : decode cX10_bestDigit 13 = .ok (.getfield 9, 3) := lw_dr lw_d_cX10_bestDigit_0 9 rfl
theorem dX10_bestDigit_16 : decode cX10_bestDigit 16 = .ok (.iload_n 2, 1) := lw_dr lw_d_cX10_bestDigit_0 10 rfl
theorem dX10_bestDigit_17 : decode cX10_bestDigit 17 = .ok (.laload, 1) := lw_dr lw_d_cX10_bestDigit_0 11 rfl
theorem dX10_bestDigit_18 : decode cX10_bestDigit 18 = .ok (.aload_n 0, 1) := lw_dr lw_d_cX10_bestDigit_0 12 rfl
theorem dX10_bestDigit_19 : decode cX10_bestDigit 19 = .ok (.getfield 25, 3) := lw_dr lw_d_cX10_bestDigit_0 13 rfl
theorem dX10_bestDigit_22 : decode cX10_bestDigit 22 = .ok (.aload_n 0, 1) := lw_dr lw_d_cX10_bestDigit_0 14 rfl
theorem dX10_bestDigit_23 : decode cX10_bestDigit 23 = .ok (.getfield 34, 3) := lw_dr lw_d_cX10_bestDigit_0 15 rfl
theorem dX10_bestDigit_26 : decode cX10_bestDigit 26 = .ok (.iaload, 1) := lw_dr lw_d_cX10_bestDigit_0 16 rfl
theorem dX10_bestDigit_27 : decode cX10_bestDigit 27 = .ok (.i2l, 1) := lw_dr lw_d_cX10_bestDigit_0 17 rfl
theorem dX10_bestDigit_28 : decode cX10_bestDigit 28 = .ok (.lmul, 1) := lw_dr lw_d_cX10_bestDigit_0 18 rfl
theorem dX10_bestDigit_29 : decode cX10_bestDigit 29 = .ok (.lstore_n 3, 1) := lw_dr lw_d_cX10_bestDigit_0 19 rfl
theorem dX10_bestDigit_30 : decode cX10_bestDigit 30 = .ok (.lload_n 3, 1) := lw_dr lw_d_cX10_bestDigit_0 20 rfl
theorem dX10_bestDigit_31 : decode cX10_bestDigit 31 = .ok (.lconst 0, 1) := lw_dr lw_d_cX10_bestDigit_0 21 rfl
theorem dX10_bestDigit_32 : decode cX10_bestDigit 32 = .ok (.lcmp, 1) := lw_dr lw_d_cX10_bestDigit_0 22 rfl
theorem dX10_bestDigit_33 : decode cX10_bestDigit 33 = .ok (.ifCond .gt 5, 3) := lw_dr lw_d_cX10_bestDigit_0 23 rfl
theorem dX10_bestDigit_38 : decode cX10_bestDigit 38 = .ok (.aload_n 0, 1) := lw_dr lw_d_cX10_bestDigit_0 24 rfl
theorem dX10_bestDigit_39 : decode cX10_bestDigit 39 = .ok (.getfield 18, 3) := lw_dr lw_d_cX10_bestDigit_0 25 rfl
theorem dX10_bestDigit_42 : decode cX10_bestDigit 42 = .ok (.iload_n 2, 1) := lw_dr lw_d_cX10_bestDigit_0 26 rfl
theorem dX10_bestDigit_43 : decode cX10_bestDigit 43 = .ok (.laload, 1) := lw_dr lw_d_cX10_bestDigit_0 27 rfl
theorem dX10_bestDigit_44 : decode cX10_bestDigit 44 = .ok (.aload_n 0, 1) := lw_dr lw_d_cX10_bestDigit_0 28 rfl
theorem dX10_bestDigit_45 : decode cX10_bestDigit 45 = .ok (.getfield 21, 3) := lw_dr lw_d_cX10_bestDigit_0 29 rfl
theorem dX10_bestDigit_48 : decode cX10_bestDigit 48 = .ok (.aload_n 0, 1) := lw_dr lw_d_cX10_bestDigit_0 30 rfl
theorem dX10_bestDigit_49 : decode cX10_bestDigit 49 = .ok (.getfield 34, 3) := lw_dr lw_d_cX10_bestDigit_0 31 rfl
theorem dX10_bestDigit_52 : decode cX10_bestDigit 52 = .ok (.iaload, 1) := lw_dr lw_d_cX10_bestDigit_0 32 rfl
theorem dX10_bestDigit_53 : decode cX10_bestDigit 53 = .ok (.i2l, 1) := lw_dr lw_d_cX10_bestDigit_0 33 rfl
theorem dX10_bestDigit_54 : decode cX10_bestDigit 54 = .ok (.aload_n 0, 1) := lw_dr lw_d_cX10_bestDigit_0 34 rfl
theorem dX10_bestDigit_55 : decode cX10_bestDigit 55 = .ok (.getfield 9, 3) := lw_dr lw_d_cX10_bestDigit_0 35 rfl
theorem dX10_bestDigit_58 : decode cX10_bestDigit 58 = .ok (.iload_n 2, 1) := lw_dr lw_d_cX10_bestDigit_0 36 rfl
theorem dX10_bestDigit_59 : decode cX10_bestDigit 59 = .ok (.laload, 1) := lw_dr lw_d_cX10_bestDigit_0 37 rfl
theorem dX10_bestDigit_60 : decode cX10_bestDigit 60 = .ok (.lmul, 1) := lw_dr lw_d_cX10_bestDigit_0 38 rfl
theorem dX10_bestDigit_61 : decode cX10_bestDigit 61 = .ok (.lsub, 1) := lw_dr lw_d_cX10_bestDigit_0 39 rfl
theorem lw_d_cX10_bestDigit_62 : lw_dl cX10_bestDigit [(62, .lload_n 3, 1), (63, .invokestatic 80, 3), (66, .lstore 5, 2), (68, .lconst 0, 1), (69, .iload_n 1, 1), (70, .iconst 1, 1), (71, .isub, 1), (72, .i2l, 1), (73, .lload 5, 2), (75, .invokestatic 84, 3), (78, .invokestatic 87, 3), (81, .l2i, 1), (82, .istore 7, 2), (84, .iload 7, 2), (86, .iconst 1, 1), (87, .iadd, 1), (88, .iload_n 1, 1), (89, .if_icmp .ge 28, 3), (117, .iload 7, 2), (119, .ireturn, 1), (92, .aload_n 0, 1), (93, .iload 7, 2), (95, .iconst 1, 1), (96, .iadd, 1), (97, .invokevirtual 89, 3), (100, .aload_n 0, 1), (101, .iload 7, 2), (103, .invokevirtual 89, 3), (106, .lcmp, 1), (107, .ifCond .ge 10, 3), (110, .iload 7, 2), (112, .iconst 1, 1), (113, .iadd, 1), (114, .goto 5, 3), (36, .iconst 0, 1), (37, .ireturn, 1)] = true := by decide +kernel
theorem dX10_bestDigit_62 : decode cX10_bestDigit 62 = .ok (.lload_n 3, 1) := lw_dr lw_d_cX10_bestDigit_62 0 rfl
theorem dX10_bestDigit_63 : decode cX10_bestDigit 63 = .ok (.invokestatic 80, 3) := lw_dr lw_d_cX10_bestDigit_62 1 rfl
theorem dX10_bestDigit_66 : decode cX10_bestDigit 66 = .ok (.lstore 5, 2) := lw_dr lw_d_cX10_bestDigit_62 2 rfl
theorem dX10_bestDigit_68 : decode cX10_bestDigit 68 = .ok (.lconst 0, 1) := lw_dr lw_d_cX10_bestDigit_62 3 rfl
theorem dX10_bestDigit_69 : decode cX10_bestDigit 69 = .ok (.iload_n 1, 1) := lw_dr lw_d_cX10_bestDigit_62 4 rfl
theorem dX10_bestDigit_70 : decode cX10_bestDigit 70 = .ok (.iconst 1, 1) := lw_dr lw_d_cX10_bestDigit_62 5 rfl
theorem dX10_bestDigit_71 : decode cX10_bestDigit 71 = .ok (.isub, 1) := lw_dr lw_d_cX10_bestDigit_62 6 rfl
theorem dX10_bestDigit_72 : decode cX10_bestDigit 72 = .ok (.i2l, 1) := lw_dr lw_d_cX10_bestDigit_62 7 rfl
theorem dX10_bestDigit_73 : decode cX10_bestDigit 73 = .ok (.lload 5, 2) := lw_dr lw_d_cX10_bestDigit_62 8 rfl
theorem dX10_bestDigit_75 : decode cX10_bestDigit 75 = .ok (.invokestatic 84, 3) := lw_dr lw_d_cX10_bestDigit_62 9 rfl
theorem dX10_bestDigit_78 : decode cX10_bestDigit 78 = .ok (.invokestatic 87, 3) := lw_dr lw_d_cX10_bestDigit_62 10 rfl
theorem dX10_bestDigit_81 : decode cX10_bestDigit 81 = .ok (.l2i, 1) := lw_dr lw_d_cX10_bestDigit_62 11 rfl
theorem dX10_bestDigit_82 : decode cX10_bestDigit 82 = .ok (.istore 7, 2) := lw_dr lw_d_cX10_bestDigit_62 12 rfl
theorem dX10_bestDigit_84 : decode cX10_bestDigit 84 = .ok (.iload 7, 2) := lw_dr lw_d_cX10_bestDigit_62 13 rfl
theorem dX10_bestDigit_86 : decode cX10_bestDigit 86 = .ok (.iconst 1, 1) := lw_dr lw_d_cX10_bestDigit_62 14 rfl
theorem dX10_bestDigit_87 : decode cX10_bestDigit 87 = .ok (.iadd, 1) := lw_dr lw_d_cX10_bestDigit_62 15 rfl
theorem dX10_bestDigit_88 : decode cX10_bestDigit 88 = .ok (.iload_n 1, 1) := lw_dr lw_d_cX10_bestDigit_62 16 rfl
theorem dX10_bestDigit_89 : decode cX10_bestDigit 89 = .ok (.if_icmp .ge 28, 3) := lw_dr lw_d_cX10_bestDigit_62 17 rfl
theorem dX10_bestDigit_117 : decode cX10_bestDigit 117 = .ok (.iload 7, 2) := lw_dr lw_d_cX10_bestDigit_62 18 rfl
theorem dX10_bestDigit_119 : decode cX10_bestDigit 119 = .ok (.ireturn, 1) := lw_dr lw_d_cX10_bestDigit_62 19 rfl
theorem dX10_bestDigit_92 : decode cX10_bestDigit 92 = .ok (.aload_n 0, 1) := lw_dr lw_d_cX10_bestDigit_62 20 rfl
theorem dX10_bestDigit_93 : decode cX10_bestDigit 93 = .ok (.iload 7, 2) := lw_dr lw_d_cX10_bestDigit_62 21 rfl
theorem dX10_bestDigit_95 : decode cX10_bestDigit 95 = .ok (.iconst 1, 1) := lw_dr lw_d_cX10_bestDigit_62 22 rfl
theorem dX10_bestDigit_96 : decode cX10_bestDigit 96 = .ok (.iadd, 1) := lw_dr lw_d_cX10_bestDigit_62 23 rfl
theorem dX10_bestDigit_97 : decode cX10_bestDigit 97 = .ok (.invokevirtual 89, 3) := lw_dr lw_d_cX10_bestDigit_62 24 rfl
theorem dX10_bestDigit_100 : decode cX10_bestDigit 100 = .ok (.aload_n 0, 1) := lw_dr lw_d_cX10_bestDigit_62 25 rfl
theorem dX10_bestDigit_101 : decode cX10_bestDigit 101 = .ok (.iload 7, 2) := lw_dr lw_d_cX10_bestDigit_62 26 rfl
theorem dX10_bestDigit_103 : decode cX10_bestDigit 103 = .ok (.invokevirtual 89, 3) := lw_dr lw_d_cX10_bestDigit_62 27 rfl
theorem dX10_bestDigit_106 : decode cX10_bestDigit 106 = .ok (.lcmp, 1) := lw_dr lw_d_cX10_bestDigit_62 28 rfl
theorem dX10_bestDigit_107 : decode cX10_bestDigit 107 = .ok (.ifCond .ge 10, 3) := lw_dr lw_d_cX10_bestDigit_62 29 rfl
theorem dX10_bestDigit_110 : decode cX10_bestDigit 110 = .ok (.iload 7, 2) := lw_dr lw_d_cX10_bestDigit_62 30 rfl
theorem dX10_bestDigit_112 : decode cX10_bestDigit 112 = .ok (.iconst 1, 1) := lw_dr lw_d_cX10_bestDigit_62 31 rfl
theorem dX10_bestDigit_113 : decode cX10_bestDigit 113 = .ok (.iadd, 1) := lw_dr lw_d_cX10_bestDigit_62 32 rfl
theorem dX10_bestDigit_114 : decode cX10_bestDigit 114 = .ok (.goto 5, 3) := lw_dr lw_d_cX10_bestDigit_62 33 rfl
theorem dX10_bestDigit_36 : decode cX10_bestDigit 36 = .ok (.iconst 0, 1) := lw_dr lw_d_cX10_bestDigit_62 34 rfl
theorem dX10_bestDigit_37 : decode cX10_bestDigit 37 = .ok (.ireturn, 1) := lw_dr lw_d_cX10_bestDigit_62 35 rfl
theorem lw_d_cX3_leastFor_0 : lw_dl cX3_leastFor [(0, .iconst 2, 1), (1, .aload_n 1, 1), (2, .getfield 77, 3), (5, .imul, 1), (6, .istore 5, 2), (8, .iconst 0, 1), (9, .istore 6, 2), (11, .iload 6, 2), (13, .aload_n 1, 1), (14, .getfield 79, 3), (17, .if_icmp .ge 28, 3), (45, .aload_n 0, 1), (46, .getfield 12, 3), (49, .invokevirtual 86, 3), (52, .ldc2_w 89, 3), (55, .lstore 6, 2), (57, .aload_n 0, 1), (58, .getfield 12, 3), (61, .invokevirtual 91, 3), (64, .istore 8, 2), (66, .iconst 0, 1), (67, .istore 9, 2), (69, .iload 9, 2), (71, .iload 8, 2), (73, .if_icmp .ge 62, 3), (135, .lload 6, 2), (137, .lreturn, 1), (76, .lload 6, 2), (78, .lload_n 3, 1), (79, .lcmp, 1), (80, .ifCond .le 55, 3), (83, .aload_n 0, 1), (84, .getfield 12, 3), (87, .iconst 3, 1), (88, .invokevirtual 95, 3), (91, .istore 10, 2), (93, .aload_n 0, 1), (94, .getfield 12, 3), (97, .iload 10, 2), (99, .invokevirtual 99, 3)] = true := by decide +kernel
theorem dX3_leastFor_0 : decode cX3_leastFor 0 = .ok (.iconst 2, 1) := lw_dr lw_d_cX3_leastFor_0 0 rfl
theorem dX3_leastFor_1 : decode cX3_leastFor 1 = .ok (.aload_n 1, 1) := lw_dr lw_d_cX3_leastFor_0 1 rfl
theorem dX3_leastFor_2 : decode cX3_leastFor 2 = .ok (.getfield 77, 3) := lw_dr lw_d_cX3_leastFor_0 2 rfl
theorem dX3_leastFor_5 : decode cX3_leastFor 5 = .ok (.imul, 1) := lw_dr lw_d_cX3_leastFor_0 3 rfl
theorem dX3_leastFor_6 : decode cX3_leastFor 6 = .ok (.istore 5, 2) := lw_dr lw_d_cX3_leastFor_0 4 rfl
theorem dX3_leastFor_8 : decode cX3_leastFor 8 = .ok (.iconst 0, 1) := lw_dr lw_d_cX3_leastFor_0 5 rfl
theorem dX3_leastFor_9 : decode cX3_leastFor 9 = .ok (.istore 6, 2) := lw_dr lw_d_cX3_leastFor_0 6 rfl
theorem dX3_leastFor_11 : decode cX3_leastFor 11 = .ok (.iload 6, 2) := lw_dr lw_d_cX3_leastFor_0 7 rfl
theorem dX3_leastFor_13 : decode cX3_leastFor 13 = .ok (.aload_n 1, 1) := lw_dr lw_d_cX3_leastFor_0 8 rfl
theorem dX3_leastFor_14 : decode cX3_leastFor 14 = .ok (.getfield 79, 3) := lw_dr lw_d_cX3_leastFor_0 9 rfl
theorem dX3_leastFor_17 : decode cX3_leastFor 17 = .ok (.if_icmp .ge 28, 3) := lw_dr lw_d_cX3_leastFor_0 10 rfl
theorem dX3_leastFor_45 : decode cX3_leastFor 45 = .ok (.aload_n 0, 1) := lw_dr lw_d_cX3_leastFor_0 11 rfl
theorem dX3_leastFor_46 : decode cX3_leastFor 46 = .ok (.getfield 12, 3) := lw_dr lw_d_cX3_leastFor_0 12 rfl
theorem dX3_leastFor_49 : decode cX3_leastFor 49 = .ok (.invokevirtual 86, 3) := lw_dr lw_d_cX3_leastFor_0 13 rfl
theorem dX3_leastFor_52 : decode cX3_leastFor 52 = .ok (.ldc2_w 89, 3) := lw_dr lw_d_cX3_leastFor_0 14 rfl
theorem dX3_leastFor_55 : decode cX3_leastFor 55 = .ok (.lstore 6, 2) := lw_dr lw_d_cX3_leastFor_0 15 rfl
theorem dX3_leastFor_57 : decode cX3_leastFor 57 = .ok (.aload_n 0, 1) := lw_dr lw_d_cX3_leastFor_0 16 rfl
theorem dX3_leastFor_58 : decode cX3_leastFor 58 = .ok (.getfield 12, 3) := lw_dr lw_d_cX3_leastFor_0 17 rfl
theorem dX3_leastFor_61 : decode cX3_leastFor 61 = .ok (.invokevirtual 91, 3) := lw_dr lw_d_cX3_leastFor_0 18 rfl
theorem dX3_leastFor_64 : decode cX3_leastFor 64 = .ok (.istore 8, 2) := lw_dr lw_d_cX3_leastFor_0 19 rfl
theorem dX3_leastFor_66 : decode cX3_leastFor 66 = .ok (.iconst 0, 1) := lw_dr lw_d_cX3_leastFor_0 20 rfl
theorem dX3_leastFor_67 : decode cX3_leastFor 67 = .ok (.istore 9, 2) := lw_dr lw_d_cX3_leastFor_0 21 rfl
theorem dX3_leastFor_69 : decode cX3_leastFor 69 = .ok (.iload 9, 2) := lw_dr lw_d_cX3_leastFor_0 22 rfl
theorem dX3_leastFor_71 : decode cX3_leastFor 71 = .ok (.iload 8, 2) := lw_dr lw_d_cX3_leastFor_0 23 rfl
theorem dX3_leastFor_73 : decode cX3_leastFor 73 = .ok (.if_icmp .ge 62, 3) := lw_dr lw_d_cX3_leastFor_0 24 rfl
theorem dX3_leastFor_135 : decode cX3_leastFor 135 = .ok (.lload 6, 2) := lw_dr lw_d_cX3_leastFor_0 25 rfl
theorem dX3_leastFor_137 : decode cX3_leastFor 137 = .ok (.lreturn, 1) := lw_dr lw_d_cX3_leastFor_0 26 rfl
theorem dX3_leastFor_76 : decode cX3_leastFor 76 = .ok (.lload 6, 2) := lw_dr lw_d_cX3_leastFor_0 27 rfl
theorem dX3_leastFor_78 : decode cX3_leastFor 78 = .ok (.lload_n 3, 1) := lw_dr lw_d_cX3_leastFor_0 28 rfl
theorem dX3_leastFor_79 : decode cX3_leastFor 79 = .ok (.lcmp, 1) := lw_dr lw_d_cX3_leastFor_0 29 rfl
theorem dX3_leastFor_80 : decode cX3_leastFor 80 = .ok (.ifCond .le 55, 3) := lw_dr lw_d_cX3_leastFor_0 30 rfl
theorem dX3_leastFor_83 : decode cX3_leastFor 83 = .ok (.aload_n 0, 1) := lw_dr lw_d_cX3_leastFor_0 31 rfl
theorem dX3_leastFor_84 : decode cX3_leastFor 84 = .ok (.getfield 12, 3) := lw_dr lw_d_cX3_leastFor_0 32 rfl
theorem dX3_leastFor_87 : decode cX3_leastFor 87 = .ok (.iconst 3, 1) := lw_dr lw_d_cX3_leastFor_0 33 rfl
theorem dX3_leastFor_88 : decode cX3_leastFor 88 = .ok (.invokevirtual 95, 3) := lw_dr lw_d_cX3_leastFor_0 34 rfl
theorem dX3_leastFor_91 : decode cX3_leastFor 91 = .ok (.istore 10, 2) := lw_dr lw_d_cX3_leastFor_0 35 rfl
theorem dX3_leastFor_93 : decode cX3_leastFor 93 = .ok (.aload_n 0, 1) := lw_dr lw_d_cX3_leastFor_0 36 rfl
theorem dX3_leastFor_94 : decode cX3_leastFor 94 = .ok (.getfield 12, 3) := lw_dr lw_d_cX3_leastFor_0 37 rfl
theorem dX3_leastFor_97 : decode cX3_leastFor 97 = .ok (.iload 10, 2) := lw_dr lw_d_cX3_leastFor_0 38 rfl
theorem dX3_leastFor_99 : decode cX3_leastFor 99 = .ok (.invokevirtual 99, 3) := lw_dr lw_d_cX3_leastFor_0 39 rfl
theorem lw_d_cX3_leastFor_102 : lw_dl cX3_leastFor [(102, .lstore 11, 2), (104, .lload 11, 2), (106, .lload 6, 2), (108, .lcmp, 1), (109, .ifCond .ge 13, 3), (122, .aload_n 0, 1), (123, .getfield 12, 3), (126, .invokevirtual 107, 3), (129, .iinc 9 1, 3), (132, .goto (-63), 3), (112, .lload 11, 2), (114, .lstore 6, 2), (116, .aload_n 0, 1), (117, .iload 10, 2), (119, .invokevirtual 103, 3), (20, .aload_n 0, 1), (21, .getfield 12, 3), (24, .iload 6, 2), (26, .aload_n 2, 1), (27, .iload 6, 2), (29, .iaload, 1), (30, .iload 5, 2), (32, .isub, 1), (33, .iload 5, 2), (35, .iconst 3, 1), (36, .invokevirtual 82, 3), (39, .iinc 6 1, 3), (42, .goto (-31), 3)] = true := by decide +kernel
theorem dX3_leastFor_102 : decode cX3_leastFor 102 = .ok (.lstore 11, 2) := lw_dr lw_d_cX3_leastFor_102 0 rfl
theorem dX3_leastFor_104 : decode cX3_leastFor 104 = .ok (.lload 11, 2) := lw_dr lw_d_cX3_leastFor_102 1 rfl
theorem dX3_leastFor_106 : decode cX3_leastFor 106 = .ok (.lload 6, 2) := lw_dr lw_d_cX3_leastFor_102 2 rfl
theorem dX3_leastFor_108 : decode cX3_leastFor 108 = .ok (.lcmp, 1) := lw_dr lw_d_cX3_leastFor_102 3 rfl
theorem dX3_leastFor_109 : decode cX3_leastFor 109 = .ok (.ifCond .ge 13, 3) := lw_dr lw_d_cX3_leastFor_102 4 rfl
theorem dX3_leastFor_122 : decode cX3_leastFor 122 = .ok (.aload_n 0, 1) := lw_dr lw_d_cX3_leastFor_102 5 rfl
theorem dX3_leastFor_123 : decode cX3_leastFor 123 = .ok (.getfield 12, 3) := lw_dr lw_d_cX3_leastFor_102 6 rfl
theorem dX3_leastFor_126 : decode cX3_leastFor 126 = .ok (.invokevirtual 107, 3) := lw_dr lw_d_cX3_leastFor_102 7 rfl
theorem dX3_leastFor_129 : decode cX3_leastFor 129 = .ok (.iinc 9 1, 3) := lw_dr lw_d_cX3_leastFor_102 8 rfl
theorem dX3_leastFor_132 : decode cX3_leastFor 132 = .ok (.goto (-63), 3) := lw_dr lw_d_cX3_leastFor_102 9 rfl
theorem dX3_leastFor_112 : decode cX3_leastFor 112 = .ok (.lload 11, 2) := lw_dr lw_d_cX3_leastFor_102 10 rfl
theorem dX3_leastFor_114 : decode cX3_leastFor 114 = .ok (.lstore 6, 2) := lw_dr lw_d_cX3_leastFor_102 11 rfl
theorem dX3_leastFor_116 : decode cX3_leastFor 116 = .ok (.aload_n 0, 1) := lw_dr lw_d_cX3_leastFor_102 12 rfl
theorem dX3_leastFor_117 : decode cX3_leastFor 117 = .ok (.iload 10, 2) := lw_dr lw_d_cX3_leastFor_102 13 rfl
theorem dX3_leastFor_119 : decode cX3_leastFor 119 = .ok (.invokevirtual 103, 3) := lw_dr lw_d_cX3_leastFor_102 14 rfl
theorem dX3_leastFor_20 : decode cX3_leastFor 20 = .ok (.aload_n 0, 1) := lw_dr lw_d_cX3_leastFor_102 15 rfl
theorem dX3_leastFor_21 : decode cX3_leastFor 21 = .ok (.getfield 12, 3) := lw_dr lw_d_cX3_leastFor_102 16 rfl
theorem dX3_leastFor_24 : decode cX3_leastFor 24 = .ok (.iload 6, 2) := lw_dr lw_d_cX3_leastFor_102 17 rfl
theorem dX3_leastFor_26 : decode cX3_leastFor 26 = .ok (.aload_n 2, 1) := lw_dr lw_d_cX3_leastFor_102 18 rfl
theorem dX3_leastFor_27 : decode cX3_leastFor 27 = .ok (.iload 6, 2) := lw_dr lw_d_cX3_leastFor_102 19 rfl
theorem dX3_leastFor_29 : decode cX3_leastFor 29 = .ok (.iaload, 1) := lw_dr lw_d_cX3_leastFor_102 20 rfl
theorem dX3_leastFor_30 : decode cX3_leastFor 30 = .ok (.iload 5, 2) := lw_dr lw_d_cX3_leastFor_102 21 rfl
theorem dX3_leastFor_32 : decode cX3_leastFor 32 = .ok (.isub, 1) := lw_dr lw_d_cX3_leastFor_102 22 rfl
theorem dX3_leastFor_33 : decode cX3_leastFor 33 = .ok (.iload 5, 2) := lw_dr lw_d_cX3_leastFor_102 23 rfl
theorem dX3_leastFor_35 : decode cX3_leastFor 35 = .ok (.iconst 3, 1) := lw_dr lw_d_cX3_leastFor_102 24 rfl
theorem dX3_leastFor_36 : decode cX3_leastFor 36 = .ok (.invokevirtual 82, 3) := lw_dr lw_d_cX3_leastFor_102 25 rfl
theorem dX3_leastFor_39 : decode cX3_leastFor 39 = .ok (.iinc 6 1, 3) := lw_dr lw_d_cX3_leastFor_102 26 rfl
theorem dX3_leastFor_42 : decode cX3_leastFor 42 = .ok (.goto (-31), 3) := lw_dr lw_d_cX3_leastFor_102 27 rfl
theorem lw_d_cX3_keepFound_0 : lw_dl cX3_keepFound [(0, .iconst 0, 1), (1, .istore_n 2, 1), (2, .iload_n 2, 1), (3, .aload_n 0, 1), (4, .getfield 12, 3), (7, .getfield 110, 3), (10, .if_icmp .ge 26, 3), (36, .aload_n 0, 1), (37, .getfield 22, 3), (40, .aload_n 0, 1), (41, .getfield 12, 3), (44, .getfield 110, 3), (47, .iload_n 1, 1), (48, .iconst 1, 1), (49, .isub, 1), (50, .iastore, 1), (51, .return_, 1), (13, .aload_n 0, 1), (14, .getfield 22, 3), (17, .iload_n 2, 1), (18, .aload_n 0, 1), (19, .getfield 12, 3), (22, .getfield 113, 3), (25, .iload_n 2, 1), (26, .iaload, 1), (27, .iconst 1, 1), (28, .isub, 1), (29, .iastore, 1), (30, .iinc 2 1, 3), (33, .goto (-31), 3)] = true := by decide +kernel
theorem dX3_keepFound_0 : decode cX3_keepFound 0 = .ok (.iconst 0, 1) := lw_dr lw_d_cX3_keepFound_0 0 rfl
theorem dX3_keepFound_1 : decode cX3_keepFound 1 = .ok (.istore_n 2, 1) := lw_dr lw_d_cX3_keepFound_0 1 rfl
theorem dX3_keepFound_2 : decode cX3_keepFound 2 = .ok (.iload_n 2, 1) := lw_dr lw_d_cX3_keepFound_0 2 rfl
theorem dX3_keepFound_3 : decode cX3_keepFound 3 = .ok (.aload_n 0, 1) := lw_dr lw_d_cX3_keepFound_0 3 rfl
theorem dX3_keepFound_4 : decode cX3_keepFound 4 = .ok (.getfield 12, 3) := lw_dr lw_d_cX3_keepFound_0 4 rfl
theorem dX3_keepFound_7 : decode cX3_keepFound 7 = .ok (.getfield 110, 3) := lw_dr lw_d_cX3_keepFound_0 5 rfl
theorem dX3_keepFound_10 : decode cX3_keepFound 10 = .ok (.if_icmp .ge 26, 3) := lw_dr lw_d_cX3_keepFound_0 6 rfl
theorem dX3_keepFound_36 : decode cX3_keepFound 36 = .ok (.aload_n 0, 1) := lw_dr lw_d_cX3_keepFound_0 7 rfl
theorem dX3_keepFound_37 : decode cX3_keepFound 37 = .ok (.getfield 22, 3) := lw_dr lw_d_cX3_keepFound_0 8 rfl
theorem dX3_keepFound_40 : decode cX3_keepFound 40 = .ok (.aload_n 0, 1) := lw_dr lw_d_cX3_keepFound_0 9 rfl
theorem dX3_keepFound_41 : decode cX3_keepFound 41 = .ok (.getfield 12, 3) := lw_dr lw_d_cX3_keepFound_0 10 rfl
theorem dX3_keepFound_44 : decode cX3_keepFound 44 = .ok (.getfield 110, 3) := lw_dr lw_d_cX3_keepFound_0 11 rfl
theorem dX3_keepFound_47 : decode cX3_keepFound 47 = .ok (.iload_n 1, 1) := lw_dr lw_d_cX3_keepFound_0 12 rfl
theorem dX3_keepFound_48 : decode cX3_keepFound 48 = .ok (.iconst 1, 1) := lw_dr lw_d_cX3_keepFound_0 13 rfl
theorem dX3_keepFound_49 : decode cX3_keepFound 49 = .ok (.isub, 1) := lw_dr lw_d_cX3_keepFound_0 14 rfl
theorem dX3_keepFound_50 : decode cX3_keepFound 50 = .ok (.iastore, 1) := lw_dr lw_d_cX3_keepFound_0 15 rfl
theorem dX3_keepFound_51 : decode cX3_keepFound 51 = .ok (.return_, 1) := lw_dr lw_d_cX3_keepFound_0 16 rfl
theorem dX3_keepFound_13 : decode cX3_keepFound 13 = .ok (.aload_n 0, 1) := lw_dr lw_d_cX3_keepFound_0 17 rfl
theorem dX3_keepFound_14 : decode cX3_keepFound 14 = .ok (.getfield 22, 3) := lw_dr lw_d_cX3_keepFound_0 18 rfl
theorem dX3_keepFound_17 : decode cX3_keepFound 17 = .ok (.iload_n 2, 1) := lw_dr lw_d_cX3_keepFound_0 19 rfl
theorem dX3_keepFound_18 : decode cX3_keepFound 18 = .ok (.aload_n 0, 1) := lw_dr lw_d_cX3_keepFound_0 20 rfl
theorem dX3_keepFound_19 : decode cX3_keepFound 19 = .ok (.getfield 12, 3) := lw_dr lw_d_cX3_keepFound_0 21 rfl
theorem dX3_keepFound_22 : decode cX3_keepFound 22 = .ok (.getfield 113, 3) := lw_dr lw_d_cX3_keepFound_0 22 rfl
theorem dX3_keepFound_25 : decode cX3_keepFound 25 = .ok (.iload_n 2, 1) := lw_dr lw_d_cX3_keepFound_0 23 rfl
theorem dX3_keepFound_26 : decode cX3_keepFound 26 = .ok (.iaload, 1) := lw_dr lw_d_cX3_keepFound_0 24 rfl
theorem dX3_keepFound_27 : decode cX3_keepFound 27 = .ok (.iconst 1, 1) := lw_dr lw_d_cX3_keepFound_0 25 rfl
theorem dX3_keepFound_28 : decode cX3_keepFound 28 = .ok (.isub, 1) := lw_dr lw_d_cX3_keepFound_0 26 rfl
theorem dX3_keepFound_29 : decode cX3_keepFound 29 = .ok (.iastore, 1) := lw_dr lw_d_cX3_keepFound_0 27 rfl
theorem dX3_keepFound_30 : decode cX3_keepFound 30 = .ok (.iinc 2 1, 3) := lw_dr lw_d_cX3_keepFound_0 28 rfl
theorem dX3_keepFound_33 : decode cX3_keepFound 33 = .ok (.goto (-31), 3) := lw_dr lw_d_cX3_keepFound_0 29 rfl
