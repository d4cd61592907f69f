def lw_dl (c : ByteArray) (l : List (Nat × Instr × Nat)) : Bool := l.all (fun q => decide (decode c q.1 = .ok (q.2.1, q.2.2)))
theorem lw_dr {c : ByteArray} {l : List (Nat × Instr × Nat)} (h : lw_dl c l = true) (k : Nat) {pc : Nat} {i : Instr} {n : Nat} (hk : l[k]? = some (pc, i, n)) : decode c pc = .ok (i, n) := by
  simp only [lw_dl, List.all_eq_true, decide_eq_true_eq] at h
  exact h (pc, i, n) (List.mem_of_getElem? hk)
theorem lw_d_cX9_hasRoom_0 : lw_dl cX9_hasRoom [(0, .aload_n 0, 1), (1, .getfield 15, 3), (4, .iload_n 1, 1), (5, .iadd, 1), (6, .sipush 1600, 3), (9, .if_icmp .gt 7, 3), (16, .iconst 0, 1), (17, .ireturn, 1), (12, .iconst 1, 1), (13, .goto 4, 3)] = true := by decide +kernel
theorem dX9_hasRoom_0 : decode cX9_hasRoom 0 = .ok (.aload_n 0, 1) := lw_dr lw_d_cX9_hasRoom_0 0 rfl
theorem dX9_hasRoom_1 : decode cX9_hasRoom 1 = .ok (.getfield 15, 3) := lw_dr lw_d_cX9_hasRoom_0 1 rfl
theorem dX9_hasRoom_4 : decode cX9_hasRoom 4 = .ok (.iload_n 1, 1) := lw_dr lw_d_cX9_hasRoom_0 2 rfl
theorem dX9_hasRoom_5 : decode cX9_hasRoom 5 = .ok (.iadd, 1) := lw_dr lw_d_cX9_hasRoom_0 3 rfl
theorem dX9_hasRoom_6 : decode cX9_hasRoom 6 = .ok (.sipush 1600, 3) := lw_dr lw_d_cX9_hasRoom_0 4 rfl
theorem dX9_hasRoom_9 : decode cX9_hasRoom 9 = .ok (.if_icmp .gt 7, 3) := lw_dr lw_d_cX9_hasRoom_0 5 rfl
theorem dX9_hasRoom_16 : decode cX9_hasRoom 16 = .ok (.iconst 0, 1) := lw_dr lw_d_cX9_hasRoom_0 6 rfl
theorem dX9_hasRoom_17 : decode cX9_hasRoom 17 = .ok (.ireturn, 1) := lw_dr lw_d_cX9_hasRoom_0 7 rfl
theorem dX9_hasRoom_12 : decode cX9_hasRoom 12 = .ok (.iconst 1, 1) := lw_dr lw_d_cX9_hasRoom_0 8 rfl
theorem dX9_hasRoom_13 : decode cX9_hasRoom 13 = .ok (.goto 4, 3) := lw_dr lw_d_cX9_hasRoom_0 9 rfl
theorem lw_d_cX9_addNumber_0 : lw_dl cX9_addNumber [(0, .bipush 24, 2), (2, .istore_n 2, 1), (3, .iload_n 2, 1), (4, .ifCond .lt 42, 3), (7, .aload_n 0, 1), (8, .getfield 15, 3), (11, .sipush 1600, 3), (14, .if_icmp .ge 32, 3), (46, .return_, 1), (17, .aload_n 0, 1), (18, .getfield 9, 3), (21, .aload_n 0, 1), (22, .getfield 15, 3), (25, .iload_n 1, 1), (26, .iload_n 2, 1), (27, .ishr, 1), (28, .i2b, 1), (29, .bastore, 1), (30, .aload_n 0, 1), (31, .dup, 1), (32, .getfield 15, 3), (35, .iconst 1, 1), (36, .iadd, 1), (37, .putfield 15, 3), (40, .iinc 2 (-8), 3), (43, .goto (-40), 3)] = true := by decide +kernel
theorem dX9_addNumber_0 : decode cX9_addNumber 0 = .ok (.bipush 24, 2) := lw_dr lw_d_cX9_addNumber_0 0 rfl
theorem dX9_addNumber_2 : decode cX9_addNumber 2 = .ok (.istore_n 2, 1) := lw_dr lw_d_cX9_addNumber_0 1 rfl
theorem dX9_addNumber_3 : decode cX9_addNumber 3 = .ok (.iload_n 2, 1) := lw_dr lw_d_cX9_addNumber_0 2 rfl
theorem dX9_addNumber_4 : decode cX9_addNumber 4 = .ok (.ifCond .lt 42, 3) := lw_dr lw_d_cX9_addNumber_0 3 rfl
theorem dX9_addNumber_7 : decode cX9_addNumber 7 = .ok (.aload_n 0, 1) := lw_dr lw_d_cX9_addNumber_0 4 rfl
theorem dX9_addNumber_8 : decode cX9_addNumber 8 = .ok (.getfield 15, 3) := lw_dr lw_d_cX9_addNumber_0 5 rfl
theorem dX9_addNumber_11 : decode cX9_addNumber 11 = .ok (.sipush 1600, 3) := lw_dr lw_d_cX9_addNumber_0 6 rfl
theorem dX9_addNumber_14 : decode cX9_addNumber 14 = .ok (.if_icmp .ge 32, 3) := lw_dr lw_d_cX9_addNumber_0 7 rfl
theorem dX9_addNumber_46 : decode cX9_addNumber 46 = .ok (.return_, 1) := lw_dr lw_d_cX9_addNumber_0 8 rfl
theorem dX9_addNumber_17 : decode cX9_addNumber 17 = .ok (.aload_n 0, 1) := lw_dr lw_d_cX9_addNumber_0 9 rfl
theorem dX9_addNumber_18 : decode cX9_addNumber 18 = .ok (.getfield 9, 3) := lw_dr lw_d_cX9_addNumber_0 10 rfl
theorem dX9_addNumber_21 : decode cX9_addNumber 21 = .ok (.aload_n 0, 1) := lw_dr lw_d_cX9_addNumber_0 11 rfl
theorem dX9_addNumber_22 : decode cX9_addNumber 22 = .ok (.getfield 15, 3) := lw_dr lw_d_cX9_addNumber_0 12 rfl
theorem dX9_addNumber_25 : decode cX9_addNumber 25 = .ok (.iload_n 1, 1) := lw_dr lw_d_cX9_addNumber_0 13 rfl
theorem dX9_addNumber_26 : decode cX9_addNumber 26 = .ok (.iload_n 2, 1) := lw_dr lw_d_cX9_addNumber_0 14 rfl
theorem dX9_addNumber_27 : decode cX9_addNumber 27 = .ok (.ishr, 1) := lw_dr lw_d_cX9_addNumber_0 15 rfl
theorem dX9_addNumber_28 : decode cX9_addNumber 28 = .ok (.i2b, 1) := lw_dr lw_d_cX9_addNumber_0 16 rfl
theorem dX9_addNumber_29 : decode cX9_addNumber 29 = .ok (.bastore, 1) := lw_dr lw_d_cX9_addNumber_0 17 rfl
theorem dX9_addNumber_30 : decode cX9_addNumber 30 = .ok (.aload_n 0, 1) := lw_dr lw_d_cX9_addNumber_0 18 rfl
theorem dX9_addNumber_31 : decode cX9_addNumber 31 = .ok (.dup, 1) := lw_dr lw_d_cX9_addNumber_0 19 rfl
theorem dX9_addNumber_32 : decode cX9_addNumber 32 = .ok (.getfield 15, 3) := lw_dr lw_d_cX9_addNumber_0 20 rfl
theorem dX9_addNumber_35 : decode cX9_addNumber 35 = .ok (.iconst 1, 1) := lw_dr lw_d_cX9_addNumber_0 21 rfl
theorem dX9_addNumber_36 : decode cX9_addNumber 36 = .ok (.iadd, 1) := lw_dr lw_d_cX9_addNumber_0 22 rfl
theorem dX9_addNumber_37 : decode cX9_addNumber 37 = .ok (.putfield 15, 3) := lw_dr lw_d_cX9_addNumber_0 23 rfl
theorem dX9_addNumber_40 : decode cX9_addNumber 40 = .ok (.iinc 2 (-8), 3) := lw_dr lw_d_cX9_addNumber_0 24 rfl
theorem dX9_addNumber_43 : decode cX9_addNumber 43 = .ok (.goto (-40), 3) := lw_dr lw_d_cX9_addNumber_0 25 rfl
theorem lw_d_cX9_length_0 : lw_dl cX9_length [(0, .aload_n 0, 1), (1, .getfield 15, 3), (4, .ireturn, 1)] = true := by decide +kernel
theorem dX9_length_0 : decode cX9_length 0 = .ok (.aload_n 0, 1) := lw_dr lw_d_cX9_length_0 0 rfl
theorem dX9_length_1 : decode cX9_length 1 = .ok (.getfield 15, 3) := lw_dr lw_d_cX9_length_0 1 rfl
theorem dX9_length_4 : decode cX9_length 4 = .ok (.ireturn, 1) := lw_dr lw_d_cX9_length_0 2 rfl
theorem lw_d_cX9_cutTo_0 : lw_dl cX9_cutTo [(0, .aload_n 0, 1), (1, .iload_n 1, 1), (2, .putfield 15, 3), (5, .return_, 1)] = true := by decide +kernel
theorem dX9_cutTo_0 : decode cX9_cutTo 0 = .ok (.aload_n 0, 1) := lw_dr lw_d_cX9_cutTo_0 0 rfl
theorem dX9_cutTo_1 : decode cX9_cutTo 1 = .ok (.iload_n 1, 1) := lw_dr lw_d_cX9_cutTo_0 1 rfl
theorem dX9_cutTo_2 : decode cX9_cutTo 2 = .ok (.putfield 15, 3) := lw_dr lw_d_cX9_cutTo_0 2 rfl
theorem dX9_cutTo_5 : decode cX9_cutTo 5 = .ok (.return_, 1) := lw_dr lw_d_cX9_cutTo_0 3 rfl
theorem lw_d_cX9_at_0 : lw_dl cX9_at [(0, .iload_n 1, 1), (1, .ifCond .lt 24, 3), (25, .iconst (-1), 1), (26, .ireturn, 1), (4, .iload_n 1, 1), (5, .aload_n 0, 1), (6, .getfield 15, 3), (9, .if_icmp .ge 16, 3), (12, .aload_n 0, 1), (13, .getfield 9, 3), (16, .iload_n 1, 1), (17, .baload, 1), (18, .sipush 255, 3), (21, .iand, 1), (22, .goto 4, 3)] = true := by decide +kernel
theorem dX9_at_0 : decode cX9_at 0 = .ok (.iload_n 1, 1) := lw_dr lw_d_cX9_at_0 0 rfl
theorem dX9_at_1 : decode cX9_at 1 = .ok (.ifCond .lt 24, 3) := lw_dr lw_d_cX9_at_0 1 rfl
theorem dX9_at_25 : decode cX9_at 25 = .ok (.iconst (-1), 1) := lw_dr lw_d_cX9_at_0 2 rfl
theorem dX9_at_26 : decode cX9_at 26 = .ok (.ireturn, 1) := lw_dr lw_d_cX9_at_0 3 rfl
theorem dX9_at_4 : decode cX9_at 4 = .ok (.iload_n 1, 1) := lw_dr lw_d_cX9_at_0 4 rfl
theorem dX9_at_5 : decode cX9_at 5 = .ok (.aload_n 0, 1) := lw_dr lw_d_cX9_at_0 5 rfl
theorem dX9_at_6 : decode cX9_at 6 = .ok (.getfield 15, 3) := lw_dr lw_d_cX9_at_0 6 rfl
theorem dX9_at_9 : decode cX9_at 9 = .ok (.if_icmp .ge 16, 3) := lw_dr lw_d_cX9_at_0 7 rfl
theorem dX9_at_12 : decode cX9_at 12 = .ok (.aload_n 0, 1) := lw_dr lw_d_cX9_at_0 8 rfl
theorem dX9_at_13 : decode cX9_at 13 = .ok (.getfield 9, 3) := lw_dr lw_d_cX9_at_0 9 rfl
theorem dX9_at_16 : decode cX9_at 16 = .ok (.iload_n 1, 1) := lw_dr lw_d_cX9_at_0 10 rfl
theorem dX9_at_17 : decode cX9_at 17 = .ok (.baload, 1) := lw_dr lw_d_cX9_at_0 11 rfl
theorem dX9_at_18 : decode cX9_at 18 = .ok (.sipush 255, 3) := lw_dr lw_d_cX9_at_0 12 rfl
theorem dX9_at_21 : decode cX9_at 21 = .ok (.iand, 1) := lw_dr lw_d_cX9_at_0 13 rfl
theorem dX9_at_22 : decode cX9_at 22 = .ok (.goto 4, 3) := lw_dr lw_d_cX9_at_0 14 rfl
theorem lw_d_cX9_shortAt_0 : lw_dl cX9_shortAt [(0, .aload_n 0, 1), (1, .iload_n 1, 1), (2, .invokevirtual 19, 3), (5, .bipush 8, 2), (7, .ishl, 1), (8, .aload_n 0, 1), (9, .iload_n 1, 1), (10, .iconst 1, 1), (11, .iadd, 1), (12, .invokevirtual 19, 3), (15, .ior, 1), (16, .i2s, 1), (17, .ireturn, 1)] = true := by decide +kernel
theorem dX9_shortAt_0 : decode cX9_shortAt 0 = .ok (.aload_n 0, 1) := lw_dr lw_d_cX9_shortAt_0 0 rfl
theorem dX9_shortAt_1 : decode cX9_shortAt 1 = .ok (.iload_n 1, 1) := lw_dr lw_d_cX9_shortAt_0 1 rfl
theorem dX9_shortAt_2 : decode cX9_shortAt 2 = .ok (.invokevirtual 19, 3) := lw_dr lw_d_cX9_shortAt_0 2 rfl
theorem dX9_shortAt_5 : decode cX9_shortAt 5 = .ok (.bipush 8, 2) := lw_dr lw_d_cX9_shortAt_0 3 rfl
theorem dX9_shortAt_7 : decode cX9_shortAt 7 = .ok (.ishl, 1) := lw_dr lw_d_cX9_shortAt_0 4 rfl
theorem dX9_shortAt_8 : decode cX9_shortAt 8 = .ok (.aload_n 0, 1) := lw_dr lw_d_cX9_shortAt_0 5 rfl
theorem dX9_shortAt_9 : decode cX9_shortAt 9 = .ok (.iload_n 1, 1) := lw_dr lw_d_cX9_shortAt_0 6 rfl
theorem dX9_shortAt_10 : decode cX9_shortAt 10 = .ok (.iconst 1, 1) := lw_dr lw_d_cX9_shortAt_0 7 rfl
theorem dX9_shortAt_11 : decode cX9_shortAt 11 = .ok (.iadd, 1) := lw_dr lw_d_cX9_shortAt_0 8 rfl
theorem dX9_shortAt_12 : decode cX9_shortAt 12 = .ok (.invokevirtual 19, 3) := lw_dr lw_d_cX9_shortAt_0 9 rfl
theorem dX9_shortAt_15 : decode cX9_shortAt 15 = .ok (.ior, 1) := lw_dr lw_d_cX9_shortAt_0 10 rfl
theorem dX9_shortAt_16 : decode cX9_shortAt 16 = .ok (.i2s, 1) := lw_dr lw_d_cX9_shortAt_0 11 rfl
theorem dX9_shortAt_17 : decode cX9_shortAt 17 = .ok (.ireturn, 1) := lw_dr lw_d_cX9_shortAt_0 12 rfl
theorem lw_d_cX9_signedAt_0 : lw_dl cX9_signedAt [(0, .aload_n 0, 1), (1, .iload_n 1, 1), (2, .invokevirtual 19, 3), (5, .i2b, 1), (6, .ireturn, 1)] = true := by decide +kernel
theorem dX9_signedAt_0 : decode cX9_signedAt 0 = .ok (.aload_n 0, 1) := lw_dr lw_d_cX9_signedAt_0 0 rfl
theorem dX9_signedAt_1 : decode cX9_signedAt 1 = .ok (.iload_n 1, 1) := lw_dr lw_d_cX9_signedAt_0 1 rfl
theorem dX9_signedAt_2 : decode cX9_signedAt 2 = .ok (.invokevirtual 19, 3) := lw_dr lw_d_cX9_signedAt_0 2 rfl
theorem dX9_signedAt_5 : decode cX9_signedAt 5 = .ok (.i2b, 1) := lw_dr lw_d_cX9_signedAt_0 3 rfl
theorem dX9_signedAt_6 : decode cX9_signedAt 6 = .ok (.ireturn, 1) := lw_dr lw_d_cX9_signedAt_0 4 rfl
theorem lw_d_cX8_clear_0 : lw_dl cX8_clear [(0, .aload_n 0, 1), (1, .getfield 9, 3), (4, .iconst 0, 1), (5, .invokestatic 15, 3), (8, .return_, 1)] = true := by decide +kernel
theorem dX8_clear_0 : decode cX8_clear 0 = .ok (.aload_n 0, 1) := lw_dr lw_d_cX8_clear_0 0 rfl
theorem dX8_clear_1 : decode cX8_clear 1 = .ok (.getfield 9, 3) := lw_dr lw_d_cX8_clear_0 1 rfl
theorem dX8_clear_4 : decode cX8_clear 4 = .ok (.iconst 0, 1) := lw_dr lw_d_cX8_clear_0 2 rfl
theorem dX8_clear_5 : decode cX8_clear 5 = .ok (.invokestatic 15, 3) := lw_dr lw_d_cX8_clear_0 3 rfl
theorem dX8_clear_8 : decode cX8_clear 8 = .ok (.return_, 1) := lw_dr lw_d_cX8_clear_0 4 rfl
theorem lw_d_cJ7_fill_53178_0 : lw_dl cJ7_fill_53178 [(0, .iconst 0, 1), (1, .istore_n 2, 1), (2, .aload_n 0, 1), (3, .arraylength, 1), (4, .istore_n 3, 1), (5, .iload_n 2, 1), (6, .iload_n 3, 1), (7, .if_icmp .ge 13, 3), (10, .aload_n 0, 1), (11, .iload_n 2, 1), (12, .iload_n 1, 1), (13, .iastore, 1), (14, .iinc 2 1, 3), (17, .goto (-12), 3), (20, .return_, 1)] = true := by decide +kernel
theorem dJ7_fill_53178_0 : decode cJ7_fill_53178 0 = .ok (.iconst 0, 1) := lw_dr lw_d_cJ7_fill_53178_0 0 rfl
theorem dJ7_fill_53178_1 : decode cJ7_fill_53178 1 = .ok (.istore_n 2, 1) := lw_dr lw_d_cJ7_fill_53178_0 1 rfl
theorem dJ7_fill_53178_2 : decode cJ7_fill_53178 2 = .ok (.aload_n 0, 1) := lw_dr lw_d_cJ7_fill_53178_0 2 rfl
theorem dJ7_fill_53178_3 : decode cJ7_fill_53178 3 = .ok (.arraylength, 1) := lw_dr lw_d_cJ7_fill_53178_0 3 rfl
theorem dJ7_fill_53178_4 : decode cJ7_fill_53178 4 = .ok (.istore_n 3, 1) := lw_dr lw_d_cJ7_fill_53178_0 4 rfl
theorem dJ7_fill_53178_5 : decode cJ7_fill_53178 5 = .ok (.iload_n 2, 1) := lw_dr lw_d_cJ7_fill_53178_0 5 rfl
theorem dJ7_fill_53178_6 : decode cJ7_fill_53178 6 = .ok (.iload_n 3, 1) := lw_dr lw_d_cJ7_fill_53178_0 6 rfl
theorem dJ7_fill_53178_7 : decode cJ7_fill_53178 7 = .ok (.if_icmp .ge 13, 3) := lw_dr lw_d_cJ7_fill_53178_0 7 rfl
theorem dJ7_fill_53178_10 : decode cJ7_fill_53178 10 = .ok (.aload_n 0, 1) := lw_dr lw_d_cJ7_fill_53178_0 8 rfl
theorem dJ7_fill_53178_11 : decode cJ7_fill_53178 11 = .ok (.iload_n 2, 1) := lw_dr lw_d_cJ7_fill_53178_0 9 rfl
theorem dJ7_fill_53178_12 : decode cJ7_fill_53178 12 = .ok (.iload_n 1, 1) := lw_dr lw_d_cJ7_fill_53178_0 10 rfl
theorem dJ7_fill_53178_13 : decode cJ7_fill_53178 13 = .ok (.iastore, 1) := lw_dr lw_d_cJ7_fill_53178_0 11 rfl
theorem dJ7_fill_53178_14 : decode cJ7_fill_53178 14 = .ok (.iinc 2 1, 3) := lw_dr lw_d_cJ7_fill_53178_0 12 rfl
theorem dJ7_fill_53178_17 : decode cJ7_fill_53178 17 = .ok (.goto (-12), 3) := lw_dr lw_d_cJ7_fill_53178_0 13 rfl
theorem dJ7_fill_53178_20 : decode cJ7_fill_53178 20 = .ok (.return_, 1) := lw_dr lw_d_cJ7_fill_53178_0 14 rfl
theorem lw_d_cX8_setAt_0 : lw_dl cX8_setAt [(0, .aload_n 0, 1), (1, .getfield 9, 3), (4, .iload_n 2, 1), (5, .bipush 6, 2), (7, .imul, 1), (8, .iload_n 1, 1), (9, .iadd, 1), (10, .iload_n 3, 1), (11, .iastore, 1), (12, .return_, 1)] = true := by decide +kernel
theorem dX8_setAt_0 : decode cX8_setAt 0 = .ok (.aload_n 0, 1) := lw_dr lw_d_cX8_setAt_0 0 rfl
theorem dX8_setAt_1 : decode cX8_setAt 1 = .ok (.getfield 9, 3) := lw_dr lw_d_cX8_setAt_0 1 rfl
theorem dX8_setAt_4 : decode cX8_setAt 4 = .ok (.iload_n 2, 1) := lw_dr lw_d_cX8_setAt_0 2 rfl
theorem dX8_setAt_5 : decode cX8_setAt 5 = .ok (.bipush 6, 2) := lw_dr lw_d_cX8_setAt_0 3 rfl
theorem dX8_setAt_7 : decode cX8_setAt 7 = .ok (.imul, 1) := lw_dr lw_d_cX8_setAt_0 4 rfl
theorem dX8_setAt_8 : decode cX8_setAt 8 = .ok (.iload_n 1, 1) := lw_dr lw_d_cX8_setAt_0 5 rfl
theorem dX8_setAt_9 : decode cX8_setAt 9 = .ok (.iadd, 1) := lw_dr lw_d_cX8_setAt_0 6 rfl
theorem dX8_setAt_10 : decode cX8_setAt 10 = .ok (.iload_n 3, 1) := lw_dr lw_d_cX8_setAt_0 7 rfl
theorem dX8_setAt_11 : decode cX8_setAt 11 = .ok (.iastore, 1) := lw_dr lw_d_cX8_setAt_0 8 rfl
theorem dX8_setAt_12 : decode cX8_setAt 12 = .ok (.return_, 1) := lw_dr lw_d_cX8_setAt_0 9 rfl
theorem lw_d_cX8_copyFrom_0 : lw_dl cX8_copyFrom [(0, .aload_n 1, 1), (1, .getfield 9, 3), (4, .iconst 0, 1), (5, .aload_n 0, 1), (6, .getfield 9, 3), (9, .iconst 0, 1), (10, .aload_n 0, 1), (11, .getfield 9, 3), (14, .arraylength, 1), (15, .invokestatic 21, 3), (18, .return_, 1)] = true := by decide +kernel
theorem dX8_copyFrom_0 : decode cX8_copyFrom 0 = .ok (.aload_n 1, 1) := lw_dr lw_d_cX8_copyFrom_0 0 rfl
theorem dX8_copyFrom_1 : decode cX8_copyFrom 1 = .ok (.getfield 9, 3) := lw_dr lw_d_cX8_copyFrom_0 1 rfl
theorem dX8_copyFrom_4 : decode cX8_copyFrom 4 = .ok (.iconst 0, 1) := lw_dr lw_d_cX8_copyFrom_0 2 rfl
theorem dX8_copyFrom_5 : decode cX8_copyFrom 5 = .ok (.aload_n 0, 1) := lw_dr lw_d_cX8_copyFrom_0 3 rfl
theorem dX8_copyFrom_6 : decode cX8_copyFrom 6 = .ok (.getfield 9, 3) := lw_dr lw_d_cX8_copyFrom_0 4 rfl
theorem dX8_copyFrom_9 : decode cX8_copyFrom 9 = .ok (.iconst 0, 1) := lw_dr lw_d_cX8_copyFrom_0 5 rfl
theorem dX8_copyFrom_10 : decode cX8_copyFrom 10 = .ok (.aload_n 0, 1) := lw_dr lw_d_cX8_copyFrom_0 6 rfl
theorem dX8_copyFrom_11 : decode cX8_copyFrom 11 = .ok (.getfield 9, 3) := lw_dr lw_d_cX8_copyFrom_0 7 rfl
theorem dX8_copyFrom_14 : decode cX8_copyFrom 14 = .ok (.arraylength, 1) := lw_dr lw_d_cX8_copyFrom_0 8 rfl
theorem dX8_copyFrom_15 : decode cX8_copyFrom 15 = .ok (.invokestatic 21, 3) := lw_dr lw_d_cX8_copyFrom_0 9 rfl
theorem dX8_copyFrom_18 : decode cX8_copyFrom 18 = .ok (.return_, 1) := lw_dr lw_d_cX8_copyFrom_0 10 rfl
theorem lw_d_cX8_at_0 : lw_dl cX8_at [(0, .aload_n 0, 1), (1, .getfield 9, 3), (4, .iload_n 2, 1), (5, .bipush 6, 2), (7, .imul, 1), (8, .iload_n 1, 1), (9, .iadd, 1), (10, .iaload, 1), (11, .ireturn, 1)] = true := by decide +kernel
theorem dX8_at_0 : decode cX8_at 0 = .ok (.aload_n 0, 1) := lw_dr lw_d_cX8_at_0 0 rfl
theorem dX8_at_1 : decode cX8_at 1 = .ok (.getfield 9, 3) := lw_dr lw_d_cX8_at_0 1 rfl
theorem dX8_at_4 : decode cX8_at 4 = .ok (.iload_n 2, 1) := lw_dr lw_d_cX8_at_0 2 rfl
theorem dX8_at_5 : decode cX8_at 5 = .ok (.bipush 6, 2) := lw_dr lw_d_cX8_at_0 3 rfl
theorem dX8_at_7 : decode cX8_at 7 = .ok (.imul, 1) := lw_dr lw_d_cX8_at_0 4 rfl
theorem dX8_at_8 : decode cX8_at 8 = .ok (.iload_n 1, 1) := lw_dr lw_d_cX8_at_0 5 rfl
theorem dX8_at_9 : decode cX8_at 9 = .ok (.iadd, 1) := lw_dr lw_d_cX8_at_0 6 rfl
theorem dX8_at_10 : decode cX8_at 10 = .ok (.iaload, 1) := lw_dr lw_d_cX8_at_0 7 rfl
theorem dX8_at_11 : decode cX8_at 11 = .ok (.ireturn, 1) := lw_dr lw_d_cX8_at_0 8 rfl
theorem lw_d_cX8_productOf_0 : lw_dl cX8_productOf [(0, .iconst 0, 1), (1, .istore_n 3, 1), (2, .iconst 0, 1), (3, .istore 4, 2), (5, .iload 4, 2), (7, .bipush 6, 2), (9, .if_icmp .ge 27, 3), (12, .iload_n 3, 1), (13, .aload_n 0, 1), (14, .iload 4, 2), (16, .iload_n 1, 1), (17, .invokevirtual 27, 3), (20, .aload_n 0, 1), (21, .iload 4, 2), (23, .iload_n 2, 1), (24, .invokevirtual 27, 3), (27, .imul, 1), (28, .iadd, 1), (29, .istore_n 3, 1), (30, .iinc 4 1, 3), (33, .goto (-28), 3), (36, .iload_n 3, 1), (37, .ireturn, 1)] = true := by decide +kernel
theorem dX8_productOf_0 : decode cX8_productOf 0 = .ok (.iconst 0, 1) := lw_dr lw_d_cX8_productOf_0 0 rfl
theorem dX8_productOf_1 : decode cX8_productOf 1 = .ok (.istore_n 3, 1) := lw_dr lw_d_cX8_productOf_0 1 rfl
theorem dX8_productOf_2 : decode cX8_productOf 2 = .ok (.iconst 0, 1) := lw_dr lw_d_cX8_productOf_0 2 rfl
theorem dX8_productOf_3 : decode cX8_productOf 3 = .ok (.istore 4, 2) := lw_dr lw_d_cX8_productOf_0 3 rfl
theorem dX8_productOf_5 : decode cX8_productOf 5 = .ok (.iload 4, 2) := lw_dr lw_d_cX8_productOf_0 4 rfl
theorem dX8_productOf_7 : decode cX8_productOf 7 = .ok (.bipush 6, 2) := lw_dr lw_d_cX8_productOf_0 5 rfl
theorem dX8_productOf_9 : decode cX8_productOf 9 = .ok (.if_icmp .ge 27, 3) := lw_dr lw_d_cX8_productOf_0 6 rfl
theorem dX8_productOf_12 : decode cX8_productOf 12 = .ok (.iload_n 3, 1) := lw_dr lw_d_cX8_productOf_0 7 rfl
theorem dX8_productOf_13 : decode cX8_productOf 13 = .ok (.aload_n 0, 1) := lw_dr lw_d_cX8_productOf_0 8 rfl
theorem dX8_productOf_14 : decode cX8_productOf 14 = .ok (.iload 4, 2) := lw_dr lw_d_cX8_productOf_0 9 rfl
theorem dX8_productOf_16 : decode cX8_productOf 16 = .ok (.iload_n 1, 1) := lw_dr lw_d_cX8_productOf_0 10 rfl
theorem dX8_productOf_17 : decode cX8_productOf 17 = .ok (.invokevirtual 27, 3) := lw_dr lw_d_cX8_productOf_0 11 rfl
theorem dX8_productOf_20 : decode cX8_productOf 20 = .ok (.aload_n 0, 1) := lw_dr lw_d_cX8_productOf_0 12 rfl
theorem dX8_productOf_21 : decode cX8_productOf 21 = .ok (.iload 4, 2) := lw_dr lw_d_cX8_productOf_0 13 rfl
theorem dX8_productOf_23 : decode cX8_productOf 23 = .ok (.iload_n 2, 1) := lw_dr lw_d_cX8_productOf_0 14 rfl
theorem dX8_productOf_24 : decode cX8_productOf 24 = .ok (.invokevirtual 27, 3) := lw_dr lw_d_cX8_productOf_0 15 rfl
theorem dX8_productOf_27 : decode cX8_productOf 27 = .ok (.imul, 1) := lw_dr lw_d_cX8_productOf_0 16 rfl
theorem dX8_productOf_28 : decode cX8_productOf 28 = .ok (.iadd, 1) := lw_dr lw_d_cX8_productOf_0 17 rfl
theorem dX8_productOf_29 : decode cX8_productOf 29 = .ok (.istore_n 3, 1) := lw_dr lw_d_cX8_productOf_0 18 rfl
theorem dX8_productOf_30 : decode cX8_productOf 30 = .ok (.iinc 4 1, 3) := lw_dr lw_d_cX8_productOf_0 19 rfl
theorem dX8_productOf_33 : decode cX8_productOf 33 = .ok (.goto (-28), 3) := lw_dr lw_d_cX8_productOf_0 20 rfl
theorem dX8_productOf_36 : decode cX8_productOf 36 = .ok (.iload_n 3, 1) := lw_dr lw_d_cX8_productOf_0 21 rfl
theorem dX8_productOf_37 : decode cX8_productOf 37 = .ok (.ireturn, 1) := lw_dr lw_d_cX8_productOf_0 22 rfl
theorem lw_d_cX8_sentTo_0 : lw_dl cX8_sentTo [(0, .iconst 0, 1), (1, .istore 4, 2), (3, .iconst 0, 1), (4, .istore 5, 2), (6, .iload 5, 2), (8, .iload_n 3, 1), (9, .if_icmp .ge 26, 3), (35, .iload 4, 2), (37, .ireturn, 1), (12, .iload 4, 2), (14, .aload_n 0, 1), (15, .iload_n 1, 1), (16, .iload 5, 2), (18, .invokevirtual 27, 3), (21, .aload_n 2, 1), (22, .iload 5, 2), (24, .iaload, 1), (25, .imul, 1), (26, .iadd, 1), (27, .istore 4, 2), (29, .iinc 5 1, 3), (32, .goto (-26), 3)] = true := by decide +kernel
theorem dX8_sentTo_0 : decode cX8_sentTo 0 = .ok (.iconst 0, 1) := lw_dr lw_d_cX8_sentTo_0 0 rfl
theorem dX8_sentTo_1 : decode cX8_sentTo 1 = .ok (.istore 4, 2) := lw_dr lw_d_cX8_sentTo_0 1 rfl
theorem dX8_sentTo_3 : decode cX8_sentTo 3 = .ok (.iconst 0, 1) := lw_dr lw_d_cX8_sentTo_0 2 rfl
theorem dX8_sentTo_4 : decode cX8_sentTo 4 = .ok (.istore 5, 2) := lw_dr lw_d_cX8_sentTo_0 3 rfl
theorem dX8_sentTo_6 : decode cX8_sentTo 6 = .ok (.iload 5, 2) := lw_dr lw_d_cX8_sentTo_0 4 rfl
theorem dX8_sentTo_8 : decode cX8_sentTo 8 = .ok (.iload_n 3, 1) := lw_dr lw_d_cX8_sentTo_0 5 rfl
theorem dX8_sentTo_9 : decode cX8_sentTo 9 = .ok (.if_icmp .ge 26, 3) := lw_dr lw_d_cX8_sentTo_0 6 rfl
theorem dX8_sentTo_35 : decode cX8_sentTo 35 = .ok (.iload 4, 2) := lw_dr lw_d_cX8_sentTo_0 7 rfl
theorem dX8_sentTo_37 : decode cX8_sentTo 37 = .ok (.ireturn, 1) := lw_dr lw_d_cX8_sentTo_0 8 rfl
theorem dX8_sentTo_12 : decode cX8_sentTo 12 = .ok (.iload 4, 2) := lw_dr lw_d_cX8_sentTo_0 9 rfl
theorem dX8_sentTo_14 : decode cX8_sentTo 14 = .ok (.aload_n 0, 1) := lw_dr lw_d_cX8_sentTo_0 10 rfl
theorem dX8_sentTo_15 : decode cX8_sentTo 15 = .ok (.iload_n 1, 1) := lw_dr lw_d_cX8_sentTo_0 11 rfl
theorem dX8_sentTo_16 : decode cX8_sentTo 16 = .ok (.iload 5, 2) := lw_dr lw_d_cX8_sentTo_0 12 rfl
theorem dX8_sentTo_18 : decode cX8_sentTo 18 = .ok (.invokevirtual 27, 3) := lw_dr lw_d_cX8_sentTo_0 13 rfl
theorem dX8_sentTo_21 : decode cX8_sentTo 21 = .ok (.aload_n 2, 1) := lw_dr lw_d_cX8_sentTo_0 14 rfl
theorem dX8_sentTo_22 : decode cX8_sentTo 22 = .ok (.iload 5, 2) := lw_dr lw_d_cX8_sentTo_0 15 rfl
theorem dX8_sentTo_24 : decode cX8_sentTo 24 = .ok (.iaload, 1) := lw_dr lw_d_cX8_sentTo_0 16 rfl
theorem dX8_sentTo_25 : decode cX8_sentTo 25 = .ok (.imul, 1) := lw_dr lw_d_cX8_sentTo_0 17 rfl
theorem dX8_sentTo_26 : decode cX8_sentTo 26 = .ok (.iadd, 1) := lw_dr lw_d_cX8_sentTo_0 18 rfl
theorem dX8_sentTo_27 : decode cX8_sentTo 27 = .ok (.istore 4, 2) := lw_dr lw_d_cX8_sentTo_0 19 rfl
theorem dX8_sentTo_29 : decode cX8_sentTo 29 = .ok (.iinc 5 1, 3) := lw_dr lw_d_cX8_sentTo_0 20 rfl
theorem dX8_sentTo_32 : decode cX8_sentTo 32 = .ok (.goto (-26), 3) := lw_dr lw_d_cX8_sentTo_0 21 rfl
theorem lw_d_cX8_takeAway_0 : lw_dl cX8_takeAway [(0, .iconst 0, 1), (1, .istore 4, 2), (3, .iload 4, 2), (5, .bipush 6, 2), (7, .if_icmp .ge 33, 3), (10, .aload_n 0, 1), (11, .iload 4, 2), (13, .iload_n 1, 1), (14, .aload_n 0, 1), (15, .iload 4, 2), (17, .iload_n 1, 1), (18, .invokevirtual 27, 3), (21, .iload_n 3, 1), (22, .aload_n 0, 1), (23, .iload 4, 2), (25, .iload_n 2, 1), (26, .invokevirtual 27, 3), (29, .imul, 1), (30, .isub, 1), (31, .invokevirtual 43, 3), (34, .iinc 4 1, 3), (37, .goto (-34), 3), (40, .return_, 1)] = true := by decide +kernel
theorem dX8_takeAway_0 : decode cX8_takeAway 0 = .ok (.iconst 0, 1) := lw_dr lw_d_cX8_takeAway_0 0 rfl
theorem dX8_takeAway_1 : decode cX8_takeAway 1 = .ok (.istore 4, 2) := lw_dr lw_d_cX8_takeAway_0 1 rfl
theorem dX8_takeAway_3 : decode cX8_takeAway 3 = .ok (.iload 4, 2) := lw_dr lw_d_cX8_takeAway_0 2 rfl
theorem dX8_takeAway_5 : decode cX8_takeAway 5 = .ok (.bipush 6, 2) := lw_dr lw_d_cX8_takeAway_0 3 rfl
theorem dX8_takeAway_7 : decode cX8_takeAway 7 = .ok (.if_icmp .ge 33, 3) := lw_dr lw_d_cX8_takeAway_0 4 rfl
theorem dX8_takeAway_10 : decode cX8_takeAway 10 = .ok (.aload_n 0, 1) := lw_dr lw_d_cX8_takeAway_0 5 rfl
theorem dX8_takeAway_11 : decode cX8_takeAway 11 = .ok (.iload 4, 2) := lw_dr lw_d_cX8_takeAway_0 6 rfl
theorem dX8_takeAway_13 : decode cX8_takeAway 13 = .ok (.iload_n 1, 1) := lw_dr lw_d_cX8_takeAway_0 7 rfl
theorem dX8_takeAway_14 : decode cX8_takeAway 14 = .ok (.aload_n 0, 1) := lw_dr lw_d_cX8_takeAway_0 8 rfl
theorem dX8_takeAway_15 : decode cX8_takeAway 15 = .ok (.iload 4, 2) := lw_dr lw_d_cX8_takeAway_0 9 rfl
theorem dX8_takeAway_17 : decode cX8_takeAway 17 = .ok (.iload_n 1, 1) := lw_dr lw_d_cX8_takeAway_0 10 rfl
theorem dX8_takeAway_18 : decode cX8_takeAway 18 = .ok (.invokevirtual 27, 3) := lw_dr lw_d_cX8_takeAway_0 11 rfl
theorem dX8_takeAway_21 : decode cX8_takeAway 21 = .ok (.iload_n 3, 1) := lw_dr lw_d_cX8_takeAway_0 12 rfl
theorem dX8_takeAway_22 : decode cX8_takeAway 22 = .ok (.aload_n 0, 1) := lw_dr lw_d_cX8_takeAway_0 13 rfl
theorem dX8_takeAway_23 : decode cX8_takeAway 23 = .ok (.iload 4, 2) := lw_dr lw_d_cX8_takeAway_0 14 rfl
theorem dX8_takeAway_25 : decode cX8_takeAway 25 = .ok (.iload_n 2, 1) := lw_dr lw_d_cX8_takeAway_0 15 rfl
theorem dX8_takeAway_26 : decode cX8_takeAway 26 = .ok (.invokevirtual 27, 3) := lw_dr lw_d_cX8_takeAway_0 16 rfl
theorem dX8_takeAway_29 : decode cX8_takeAway 29 = .ok (.imul, 1) := lw_dr lw_d_cX8_takeAway_0 17 rfl
theorem dX8_takeAway_30 : decode cX8_takeAway 30 = .ok (.isub, 1) := lw_dr lw_d_cX8_takeAway_0 18 rfl
theorem dX8_takeAway_31 : decode cX8_takeAway 31 = .ok (.invokevirtual 43, 3) := lw_dr lw_d_cX8_takeAway_0 19 rfl
theorem dX8_takeAway_34 : decode cX8_takeAway 34 = .ok (.iinc 4 1, 3) := lw_dr lw_d_cX8_takeAway_0 20 rfl
theorem dX8_takeAway_37 : decode cX8_takeAway 37 = .ok (.goto (-34), 3) := lw_dr lw_d_cX8_takeAway_0 21 rfl
theorem dX8_takeAway_40 : decode cX8_takeAway 40 = .ok (.return_, 1) := lw_dr lw_d_cX8_takeAway_0 22 rfl
theorem lw_d_cX8_clashOf_0 : lw_dl cX8_clashOf [(0, .aload_n 0, 1), (1, .iload_n 1, 1), (2, .iload_n 2, 1), (3, .invokevirtual 40, 3), (6, .i2l, 1), (7, .lstore_n 3, 1), (8, .aload_n 0, 1), (9, .iload_n 1, 1), (10, .iload_n 1, 1), (11, .invokevirtual 40, 3), (14, .i2l, 1), (15, .aload_n 0, 1), (16, .iload_n 2, 1), (17, .iload_n 2, 1), (18, .invokevirtual 40, 3), (21, .i2l, 1), (22, .lmul, 1), (23, .lstore 5, 2), (25, .lload 5, 2), (27, .lconst 0, 1), (28, .lcmp, 1), (29, .ifCond .ne 7, 3), (36, .ldc2_w 47, 3), (39, .lload_n 3, 1), (40, .lmul, 1), (41, .lload_n 3, 1), (42, .lmul, 1), (43, .lload 5, 2), (45, .ldiv, 1), (46, .l2i, 1), (47, .ireturn, 1), (32, .iconst 0, 1), (33, .goto 14, 3)] = true := by decide +kernel
theorem dX8_clashOf_0 : decode cX8_clashOf 0 = .ok (.aload_n 0, 1) := lw_dr lw_d_cX8_clashOf_0 0 rfl
theorem dX8_clashOf_1 : decode cX8_clashOf 1 = .ok (.iload_n 1, 1) := lw_dr lw_d_cX8_clashOf_0 1 rfl
theorem dX8_clashOf_2 : decode cX8_clashOf 2 = .ok (.iload_n 2, 1) := lw_dr lw_d_cX8_clashOf_0 2 rfl
theorem dX8_clashOf_3 : decode cX8_clashOf 3 = .ok (.invokevirtual 40, 3) := lw_dr lw_d_cX8_clashOf_0 3 rfl
theorem dX8_clashOf_6 : decode cX8_clashOf 6 = .ok (.i2l, 1) := lw_dr lw_d_cX8_clashOf_0 4 rfl
theorem dX8_clashOf_7 : decode cX8_clashOf 7 = .ok (.lstore_n 3, 1) := lw_dr lw_d_cX8_clashOf_0 5 rfl
theorem dX8_clashOf_8 : decode cX8_clashOf 8 = .ok (.aload_n 0, 1) := lw_dr lw_d_cX8_clashOf_0 6 rfl
theorem dX8_clashOf_9 : decode cX8_clashOf 9 = .ok (.iload_n 1, 1) := lw_dr lw_d_cX8_clashOf_0 7 rfl
theorem dX8_clashOf_10 : decode cX8_clashOf 10 = .ok (.iload_n 1, 1) := lw_dr lw_d_cX8_clashOf_0 8 rfl
theorem dX8_clashOf_11 : decode cX8_clashOf 11 = .ok (.invokevirtual 40, 3) := lw_dr lw_d_cX8_clashOf_0 9 rfl
theorem dX8_clashOf_14 : decode cX8_clashOf 14 = .ok (.i2l, 1) := lw_dr lw_d_cX8_clashOf_0 10 rfl
theorem dX8_clashOf_15 : decode cX8_clashOf 15 = .ok (.aload_n 0, 1) := lw_dr lw_d_cX8_clashOf_0 11 rfl
theorem dX8_clashOf_16 : decode cX8_clashOf 16 = .ok (.iload_n 2, 1) := lw_dr lw_d_cX8_clashOf_0 12 rfl
theorem dX8_clashOf_17 : decode cX8_clashOf 17 = .ok (.iload_n 2, 1) := lw_dr lw_d_cX8_clashOf_0 13 rfl
theorem dX8_clashOf_18 : decode cX8_clashOf 18 = .ok (.invokevirtual 40, 3) := lw_dr lw_d_cX8_clashOf_0 14 rfl
theorem dX8_clashOf_21 : decode cX8_clashOf 21 = .ok (.i2l, 1) := lw_dr lw_d_cX8_clashOf_0 15 rfl
theorem dX8_clashOf_22 : decode cX8_clashOf 22 = .ok (.lmul, 1) := lw_dr lw_d_cX8_clashOf_0 16 rfl
theorem dX8_clashOf_23 : decode cX8_clashOf 23 = .ok (.lstore 5, 2) := lw_dr lw_d_cX8_clashOf_0 17 rfl
theorem dX8_clashOf_25 : decode cX8_clashOf 25 = .ok (.lload 5, 2) := lw_dr lw_d_cX8_clashOf_0 18 rfl
theorem dX8_clashOf_27 : decode cX8_clashOf 27 = .ok (.lconst 0, 1) := lw_dr lw_d_cX8_clashOf_0 19 rfl
theorem dX8_clashOf_28 : decode cX8_clashOf 28 = .ok (.lcmp, 1) := lw_dr lw_d_cX8_clashOf_0 20 rfl
theorem dX8_clashOf_29 : decode cX8_clashOf 29 = .ok (.ifCond .ne 7, 3) := lw_dr lw_d_cX8_clashOf_0 21 rfl
theorem dX8_clashOf_36 : decode cX8_clashOf 36 = .ok (.ldc2_w 47, 3) := lw_dr lw_d_cX8_clashOf_0 22 rfl
theorem dX8_clashOf_39 : decode cX8_clashOf 39 = .ok (.lload_n 3, 1) := lw_dr lw_d_cX8_clashOf_0 23 rfl
theorem dX8_clashOf_40 : decode cX8_clashOf 40 = .ok (.lmul, 1) := lw_dr lw_d_cX8_clashOf_0 24 rfl
theorem dX8_clashOf_41 : decode cX8_clashOf 41 = .ok (.lload_n 3, 1) := lw_dr lw_d_cX8_clashOf_0 25 rfl
theorem dX8_clashOf_42 : decode cX8_clashOf 42 = .ok (.lmul, 1) := lw_dr lw_d_cX8_clashOf_0 26 rfl
theorem dX8_clashOf_43 : decode cX8_clashOf 43 = .ok (.lload 5, 2) := lw_dr lw_d_cX8_clashOf_0 27 rfl
theorem dX8_clashOf_45 : decode cX8_clashOf 45 = .ok (.ldiv, 1) := lw_dr lw_d_cX8_clashOf_0 28 rfl
theorem dX8_clashOf_46 : decode cX8_clashOf 46 = .ok (.l2i, 1) := lw_dr lw_d_cX8_clashOf_0 29 rfl
theorem dX8_clashOf_47 : decode cX8_clashOf 47 = .ok (.ireturn, 1) := lw_dr lw_d_cX8_clashOf_0 30 rfl
theorem dX8_clashOf_32 : decode cX8_clashOf 32 = .ok (.iconst 0, 1) := lw_dr lw_d_cX8_clashOf_0 31 rfl
theorem dX8_clashOf_33 : decode cX8_clashOf 33 = .ok (.goto 14, 3) := lw_dr lw_d_cX8_clashOf_0 32 rfl
theorem lw_d_cX8_worstPair_0 : lw_dl cX8_worstPair [(0, .iconst (-1), 1), (1, .istore_n 2, 1), (2, .iconst (-1), 1), (3, .istore_n 3, 1), (4, .iconst 0, 1), (5, .istore 4, 2), (7, .iload 4, 2), (9, .iload_n 1, 1), (10, .if_icmp .ge 55, 3), (65, .iload_n 2, 1), (66, .ireturn, 1), (13, .iload 4, 2), (15, .iconst 1, 1), (16, .iadd, 1), (17, .istore 5, 2), (19, .iload 5, 2), (21, .iload_n 1, 1), (22, .if_icmp .ge 37, 3), (59, .iinc 4 1, 3), (62, .goto (-55), 3), (25, .aload_n 0, 1), (26, .iload 4, 2), (28, .iload 5, 2), (30, .invokevirtual 49, 3), (33, .istore 6, 2), (35, .iload 6, 2), (37, .iload_n 3, 1), (38, .if_icmp .le 15, 3), (53, .iinc 5 1, 3), (56, .goto (-37), 3), (41, .iload 6, 2), (43, .istore_n 3, 1), (44, .bipush 100, 2), (46, .iload 4, 2), (48, .imul, 1), (49, .iload 5, 2), (51, .iadd, 1), (52, .istore_n 2, 1)] = true := by decide +kernel
theorem dX8_worstPair_0 : decode cX8_worstPair 0 = .ok (.iconst (-1), 1) := lw_dr lw_d_cX8_worstPair_0 0 rfl
theorem dX8_worstPair_1 : decode cX8_worstPair 1 = .ok (.istore_n 2, 1) := lw_dr lw_d_cX8_worstPair_0 1 rfl
theorem dX8_worstPair_2 : decode cX8_worstPair 2 = .ok (.iconst (-1), 1) := lw_dr lw_d_cX8_worstPair_0 2 rfl
theorem dX8_worstPair_3 : decode cX8_worstPair 3 = .ok (.istore_n 3, 1) := lw_dr lw_d_cX8_worstPair_0 3 rfl
theorem dX8_worstPair_4 : decode cX8_worstPair 4 = .ok (.iconst 0, 1) := lw_dr lw_d_cX8_worstPair_0 4 rfl
theorem dX8_worstPair_5 : decode cX8_worstPair 5 = .ok (.istore 4, 2) := lw_dr lw_d_cX8_worstPair_0 5 rfl
theorem dX8_worstPair_7 : decode cX8_worstPair 7 = .ok (.iload 4, 2) := lw_dr lw_d_cX8_worstPair_0 6 rfl
theorem dX8_worstPair_9 : decode cX8_worstPair 9 = .ok (.iload_n 1, 1) := lw_dr lw_d_cX8_worstPair_0 7 rfl
theorem dX8_worstPair_10 : decode cX8_worstPair 10 = .ok (.if_icmp .ge 55, 3) := lw_dr lw_d_cX8_worstPair_0 8 rfl
theorem dX8_worstPair_65 : decode cX8_worstPair 65 = .ok (.iload_n 2, 1) := lw_dr lw_d_cX8_worstPair_0 9 rfl
theorem dX8_worstPair_66 : decode cX8_worstPair 66 = .ok (.ireturn, 1) := lw_dr lw_d_cX8_worstPair_0 10 rfl
theorem dX8_worstPair_13 : decode cX8_worstPair 13 = .ok (.iload 4, 2) := lw_dr lw_d_cX8_worstPair_0 11 rfl
theorem dX8_worstPair_15 : decode cX8_worstPair 15 = .ok (.iconst 1, 1) := lw_dr lw_d_cX8_worstPair_0 12 rfl
theorem dX8_worstPair_16 : decode cX8_worstPair 16 = .ok (.iadd, 1) := lw_dr lw_d_cX8_worstPair_0 13 rfl
theorem dX8_worstPair_17 : decode cX8_worstPair 17 = .ok (.istore 5, 2) := lw_dr lw_d_cX8_worstPair_0 14 rfl
theorem dX8_worstPair_19 : decode cX8_worstPair 19 = .ok (.iload 5, 2) := lw_dr lw_d_cX8_worstPair_0 15 rfl
theorem dX8_worstPair_21 : decode cX8_worstPair 21 = .ok (.iload_n 1, 1) := lw_dr lw_d_cX8_worstPair_0 16 rfl
theorem dX8_worstPair_22 : decode cX8_worstPair 22 = .ok (.if_icmp .ge 37, 3) := lw_dr lw_d_cX8_worstPair_0 17 rfl
theorem dX8_worstPair_59 : decode cX8_worstPair 59 = .ok (.iinc 4 1, 3) := lw_dr lw_d_cX8_worstPair_0 18 rfl
theorem dX8_worstPair_62 : decode cX8_worstPair 62 = .ok (.goto (-55), 3) := lw_dr lw_d_cX8_worstPair_0 19 rfl
theorem dX8_worstPair_25 : decode cX8_worstPair 25 = .ok (.aload_n 0, 1) := lw_dr lw_d_cX8_worstPair_0 20 rfl
theorem dX8_worstPair_26 : decode cX8_worstPair 26 = .ok (.iload 4, 2) := lw_dr lw_d_cX8_worstPair_0 21 rfl
theorem dX8_worstPair_28 : decode cX8_worstPair 28 = .ok (.iload 5, 2) := lw_dr lw_d_cX8_worstPair_0 22 rfl
theorem dX8_worstPair_30 : decode cX8_worstPair 30 = .ok (.invokevirtual 49, 3) := lw_dr lw_d_cX8_worstPair_0 23 rfl
theorem dX8_worstPair_33 : decode cX8_worstPair 33 = .ok (.istore 6, 2) := lw_dr lw_d_cX8_worstPair_0 24 rfl
theorem dX8_worstPair_35 : decode cX8_worstPair 35 = .ok (.iload 6, 2) := lw_dr lw_d_cX8_worstPair_0 25 rfl
theorem dX8_worstPair_37 : decode cX8_worstPair 37 = .ok (.iload_n 3, 1) := lw_dr lw_d_cX8_worstPair_0 26 rfl
theorem dX8_worstPair_38 : decode cX8_worstPair 38 = .ok (.if_icmp .le 15, 3) := lw_dr lw_d_cX8_worstPair_0 27 rfl
theorem dX8_worstPair_53 : decode cX8_worstPair 53 = .ok (.iinc 5 1, 3) := lw_dr lw_d_cX8_worstPair_0 28 rfl
theorem dX8_worstPair_56 : decode cX8_worstPair 56 = .ok (.goto (-37), 3) := lw_dr lw_d_cX8_worstPair_0 29 rfl
theorem dX8_worstPair_41 : decode cX8_worstPair 41 = .ok (.iload 6, 2) := lw_dr lw_d_cX8_worstPair_0 30 rfl
theorem dX8_worstPair_43 : decode cX8_worstPair 43 = .ok (.istore_n 3, 1) := lw_dr lw_d_cX8_worstPair_0 31 rfl
theorem dX8_worstPair_44 : decode cX8_worstPair 44 = .ok (.bipush 100, 2) := lw_dr lw_d_cX8_worstPair_0 32 rfl
theorem dX8_worstPair_46 : decode cX8_worstPair 46 = .ok (.iload 4, 2) := lw_dr lw_d_cX8_worstPair_0 33 rfl
theorem dX8_worstPair_48 : decode cX8_worstPair 48 = .ok (.imul, 1) := lw_dr lw_d_cX8_worstPair_0 34 rfl
theorem dX8_worstPair_49 : decode cX8_worstPair 49 = .ok (.iload 5, 2) := lw_dr lw_d_cX8_worstPair_0 35 rfl
theorem dX8_worstPair_51 : decode cX8_worstPair 51 = .ok (.iadd, 1) := lw_dr lw_d_cX8_worstPair_0 36 rfl
theorem dX8_worstPair_52 : decode cX8_worstPair 52 = .ok (.istore_n 2, 1) := lw_dr lw_d_cX8_worstPair_0 37 rfl
theorem lw_d_cX8_allSquares_0 : lw_dl cX8_allSquares [(0, .lconst 0, 1), (1, .lstore_n 1, 1), (2, .iconst 0, 1), (3, .istore_n 3, 1), (4, .iload_n 3, 1), (5, .iconst 5, 1), (6, .if_icmp .ge 19, 3), (9, .lload_n 1, 1), (10, .aload_n 0, 1), (11, .iload_n 3, 1), (12, .iload_n 3, 1), (13, .invokevirtual 40, 3), (16, .i2l, 1), (17, .ladd, 1), (18, .lstore_n 1, 1), (19, .iinc 3 1, 3), (22, .goto (-18), 3), (25, .lload_n 1, 1), (26, .lreturn, 1)] = true := by decide +kernel
theorem dX8_allSquares_0 : decode cX8_allSquares 0 = .ok (.lconst 0, 1) := lw_dr lw_d_cX8_allSquares_0 0 rfl
theorem dX8_allSquares_1 : decode cX8_allSquares 1 = .ok (.lstore_n 1, 1) := lw_dr lw_d_cX8_allSquares_0 1 rfl
theorem dX8_allSquares_2 : decode cX8_allSquares 2 = .ok (.iconst 0, 1) := lw_dr lw_d_cX8_allSquares_0 2 rfl
theorem dX8_allSquares_3 : decode cX8_allSquares 3 = .ok (.istore_n 3, 1) := lw_dr lw_d_cX8_allSquares_0 3 rfl
theorem dX8_allSquares_4 : decode cX8_allSquares 4 = .ok (.iload_n 3, 1) := lw_dr lw_d_cX8_allSquares_0 4 rfl
theorem dX8_allSquares_5 : decode cX8_allSquares 5 = .ok (.iconst 5, 1) := lw_dr lw_d_cX8_allSquares_0 5 rfl
theorem dX8_allSquares_6 : decode cX8_allSquares 6 = .ok (.if_icmp .ge 19, 3) := lw_dr lw_d_cX8_allSquares_0 6 rfl
theorem dX8_allSquares_9 : decode cX8_allSquares 9 = .ok (.lload_n 1, 1) := lw_dr lw_d_cX8_allSquares_0 7 rfl
theorem dX8_allSquares_10 : decode cX8_allSquares 10 = .ok (.aload_n 0, 1) := lw_dr lw_d_cX8_allSquares_0 8 rfl
theorem dX8_allSquares_11 : decode cX8_allSquares 11 = .ok (.iload_n 3, 1) := lw_dr lw_d_cX8_allSquares_0 9 rfl
theorem dX8_allSquares_12 : decode cX8_allSquares 12 = .ok (.iload_n 3, 1) := lw_dr lw_d_cX8_allSquares_0 10 rfl
theorem dX8_allSquares_13 : decode cX8_allSquares 13 = .ok (.invokevirtual 40, 3) := lw_dr lw_d_cX8_allSquares_0 11 rfl
theorem dX8_allSquares_16 : decode cX8_allSquares 16 = .ok (.i2l, 1) := lw_dr lw_d_cX8_allSquares_0 12 rfl
theorem dX8_allSquares_17 : decode cX8_allSquares 17 = .ok (.ladd, 1) := lw_dr lw_d_cX8_allSquares_0 13 rfl
theorem dX8_allSquares_18 : decode cX8_allSquares 18 = .ok (.lstore_n 1, 1) := lw_dr lw_d_cX8_allSquares_0 14 rfl
theorem dX8_allSquares_19 : decode cX8_allSquares 19 = .ok (.iinc 3 1, 3) := lw_dr lw_d_cX8_allSquares_0 15 rfl
theorem dX8_allSquares_22 : decode cX8_allSquares 22 = .ok (.goto (-18), 3) := lw_dr lw_d_cX8_allSquares_0 16 rfl
theorem dX8_allSquares_25 : decode cX8_allSquares 25 = .ok (.lload_n 1, 1) := lw_dr lw_d_cX8_allSquares_0 17 rfl
theorem dX8_allSquares_26 : decode cX8_allSquares 26 = .ok (.lreturn, 1) := lw_dr lw_d_cX8_allSquares_0 18 rfl
theorem lw_d_cX8_peakOf_0 : lw_dl cX8_peakOf [(0, .iconst 0, 1), (1, .istore_n 2, 1), (2, .iconst 0, 1), (3, .istore_n 3, 1), (4, .iload_n 3, 1), (5, .bipush 6, 2), (7, .if_icmp .ge 23, 3), (10, .iload_n 2, 1), (11, .aload_n 0, 1), (12, .iload_n 3, 1), (13, .iload_n 1, 1), (14, .invokevirtual 27, 3), (17, .invokestatic 31, 3), (20, .invokestatic 37, 3), (23, .istore_n 2, 1), (24, .iinc 3 1, 3), (27, .goto (-23), 3), (30, .iload_n 2, 1), (31, .ireturn, 1)] = true := by decide +kernel
theorem dX8_peakOf_0 : decode cX8_peakOf 0 = .ok (.iconst 0, 1) := lw_dr lw_d_cX8_peakOf_0 0 rfl
theorem dX8_peakOf_1 : decode cX8_peakOf 1 = .ok (.istore_n 2, 1) := lw_dr lw_d_cX8_peakOf_0 1 rfl
theorem dX8_peakOf_2 : decode cX8_peakOf 2 = .ok (.iconst 0, 1) := lw_dr lw_d_cX8_peakOf_0 2 rfl
theorem dX8_peakOf_3 : decode cX8_peakOf 3 = .ok (.istore_n 3, 1) := lw_dr lw_d_cX8_peakOf_0 3 rfl
theorem dX8_peakOf_4 : decode cX8_peakOf 4 = .ok (.iload_n 3, 1) := lw_dr lw_d_cX8_peakOf_0 4 rfl
theorem dX8_peakOf_5 : decode cX8_peakOf 5 = .ok (.bipush 6, 2) := lw_dr lw_d_cX8_peakOf_0 5 rfl
theorem dX8_peakOf_7 : decode cX8_peakOf 7 = .ok (.if_icmp .ge 23, 3) := lw_dr lw_d_cX8_peakOf_0 6 rfl
theorem dX8_peakOf_10 : decode cX8_peakOf 10 = .ok (.iload_n 2, 1) := lw_dr lw_d_cX8_peakOf_0 7 rfl
theorem dX8_peakOf_11 : decode cX8_peakOf 11 = .ok (.aload_n 0, 1) := lw_dr lw_d_cX8_peakOf_0 8 rfl
theorem dX8_peakOf_12 : decode cX8_peakOf 12 = .ok (.iload_n 3, 1) := lw_dr lw_d_cX8_peakOf_0 9 rfl
theorem dX8_peakOf_13 : decode cX8_peakOf 13 = .ok (.iload_n 1, 1) := lw_dr lw_d_cX8_peakOf_0 10 rfl
theorem dX8_peakOf_14 : decode cX8_peakOf 14 = .ok (.invokevirtual 27, 3) := lw_dr lw_d_cX8_peakOf_0 11 rfl
theorem dX8_peakOf_17 : decode cX8_peakOf 17 = .ok (.invokestatic 31, 3) := lw_dr lw_d_cX8_peakOf_0 12 rfl
theorem dX8_peakOf_20 : decode cX8_peakOf 20 = .ok (.invokestatic 37, 3) := lw_dr lw_d_cX8_peakOf_0 13 rfl
theorem dX8_peakOf_23 : decode cX8_peakOf 23 = .ok (.istore_n 2, 1) := lw_dr lw_d_cX8_peakOf_0 14 rfl
theorem dX8_peakOf_24 : decode cX8_peakOf 24 = .ok (.iinc 3 1, 3) := lw_dr lw_d_cX8_peakOf_0 15 rfl
theorem dX8_peakOf_27 : decode cX8_peakOf 27 = .ok (.goto (-23), 3) := lw_dr lw_d_cX8_peakOf_0 16 rfl
theorem dX8_peakOf_30 : decode cX8_peakOf 30 = .ok (.iload_n 2, 1) := lw_dr lw_d_cX8_peakOf_0 17 rfl
theorem dX8_peakOf_31 : decode cX8_peakOf 31 = .ok (.ireturn, 1) := lw_dr lw_d_cX8_peakOf_0 18 rfl
theorem lw_d_cX5_clear_0 : lw_dl cX5_clear [(0, .aload_n 0, 1), (1, .iconst 0, 1), (2, .putfield 27, 3), (5, .aload_n 0, 1), (6, .iconst 0, 1), (7, .putfield 31, 3), (10, .return_, 1)] = true := by decide +kernel
theorem dX5_clear_0 : decode cX5_clear 0 = .ok (.aload_n 0, 1) := lw_dr lw_d_cX5_clear_0 0 rfl
theorem dX5_clear_1 : decode cX5_clear 1 = .ok (.iconst 0, 1) := lw_dr lw_d_cX5_clear_0 1 rfl
theorem dX5_clear_2 : decode cX5_clear 2 = .ok (.putfield 27, 3) := lw_dr lw_d_cX5_clear_0 2 rfl
theorem dX5_clear_5 : decode cX5_clear 5 = .ok (.aload_n 0, 1) := lw_dr lw_d_cX5_clear_0 3 rfl
theorem dX5_clear_6 : decode cX5_clear 6 = .ok (.iconst 0, 1) := lw_dr lw_d_cX5_clear_0 4 rfl
theorem dX5_clear_7 : decode cX5_clear 7 = .ok (.putfield 31, 3) := lw_dr lw_d_cX5_clear_0 5 rfl
theorem dX5_clear_10 : decode cX5_clear 10 = .ok (.return_, 1) := lw_dr lw_d_cX5_clear_0 6 rfl
theorem lw_d_cX5_beginRule_0 : lw_dl cX5_beginRule [(0, .aload_n 0, 1), (1, .getfield 31, 3), (4, .bipush 8, 2), (6, .if_icmp .ge 16, 3), (22, .return_, 1), (9, .aload_n 0, 1), (10, .getfield 15, 3), (13, .aload_n 0, 1), (14, .getfield 31, 3), (17, .aload_n 0, 1), (18, .getfield 27, 3), (21, .iastore, 1)] = true := by decide +kernel
theorem dX5_beginRule_0 : decode cX5_beginRule 0 = .ok (.aload_n 0, 1) := lw_dr lw_d_cX5_beginRule_0 0 rfl
theorem dX5_beginRule_1 : decode cX5_beginRule 1 = .ok (.getfield 31, 3) := lw_dr lw_d_cX5_beginRule_0 1 rfl
theorem dX5_beginRule_4 : decode cX5_beginRule 4 = .ok (.bipush 8, 2) := lw_dr lw_d_cX5_beginRule_0 2 rfl
theorem dX5_beginRule_6 : decode cX5_beginRule 6 = .ok (.if_icmp .ge 16, 3) := lw_dr lw_d_cX5_beginRule_0 3 rfl
theorem dX5_beginRule_22 : decode cX5_beginRule 22 = .ok (.return_, 1) := lw_dr lw_d_cX5_beginRule_0 4 rfl
theorem dX5_beginRule_9 : decode cX5_beginRule 9 = .ok (.aload_n 0, 1) := lw_dr lw_d_cX5_beginRule_0 5 rfl
theorem dX5_beginRule_10 : decode cX5_beginRule 10 = .ok (.getfield 15, 3) := lw_dr lw_d_cX5_beginRule_0 6 rfl
theorem dX5_beginRule_13 : decode cX5_beginRule 13 = .ok (.aload_n 0, 1) := lw_dr lw_d_cX5_beginRule_0 7 rfl
theorem dX5_beginRule_14 : decode cX5_beginRule 14 = .ok (.getfield 31, 3) := lw_dr lw_d_cX5_beginRule_0 8 rfl
theorem dX5_beginRule_17 : decode cX5_beginRule 17 = .ok (.aload_n 0, 1) := lw_dr lw_d_cX5_beginRule_0 9 rfl
theorem dX5_beginRule_18 : decode cX5_beginRule 18 = .ok (.getfield 27, 3) := lw_dr lw_d_cX5_beginRule_0 10 rfl
theorem dX5_beginRule_21 : decode cX5_beginRule 21 = .ok (.iastore, 1) := lw_dr lw_d_cX5_beginRule_0 11 rfl
theorem lw_d_cX5_add_0 : lw_dl cX5_add [(0, .aload_n 0, 1), (1, .getfield 27, 3), (4, .aload_n 0, 1), (5, .getfield 9, 3), (8, .arraylength, 1), (9, .if_icmp .ge 23, 3), (32, .return_, 1), (12, .aload_n 0, 1), (13, .getfield 9, 3), (16, .aload_n 0, 1), (17, .getfield 27, 3), (20, .iload_n 1, 1), (21, .iastore, 1), (22, .aload_n 0, 1), (23, .dup, 1), (24, .getfield 27, 3), (27, .iconst 1, 1), (28, .iadd, 1), (29, .putfield 27, 3)] = true := by decide +kernel
theorem dX5_add_0 : decode cX5_add 0 = .ok (.aload_n 0, 1) := lw_dr lw_d_cX5_add_0 0 rfl
theorem dX5_add_1 : decode cX5_add 1 = .ok (.getfield 27, 3) := lw_dr lw_d_cX5_add_0 1 rfl
theorem dX5_add_4 : decode cX5_add 4 = .ok (.aload_n 0, 1) := lw_dr lw_d_cX5_add_0 2 rfl
theorem dX5_add_5 : decode cX5_add 5 = .ok (.getfield 9, 3) := lw_dr lw_d_cX5_add_0 3 rfl
theorem dX5_add_8 : decode cX5_add 8 = .ok (.arraylength, 1) := lw_dr lw_d_cX5_add_0 4 rfl
theorem dX5_add_9 : decode cX5_add 9 = .ok (.if_icmp .ge 23, 3) := lw_dr lw_d_cX5_add_0 5 rfl
theorem dX5_add_32 : decode cX5_add 32 = .ok (.return_, 1) := lw_dr lw_d_cX5_add_0 6 rfl
theorem dX5_add_12 : decode cX5_add 12 = .ok (.aload_n 0, 1) := lw_dr lw_d_cX5_add_0 7 rfl
theorem dX5_add_13 : decode cX5_add 13 = .ok (.getfield 9, 3) := lw_dr lw_d_cX5_add_0 8 rfl
theorem dX5_add_16 : decode cX5_add 16 = .ok (.aload_n 0, 1) := lw_dr lw_d_cX5_add_0 9 rfl
theorem dX5_add_17 : decode cX5_add 17 = .ok (.getfield 27, 3) := lw_dr lw_d_cX5_add_0 10 rfl
theorem dX5_add_20 : decode cX5_add 20 = .ok (.iload_n 1, 1) := lw_dr lw_d_cX5_add_0 11 rfl
theorem dX5_add_21 : decode cX5_add 21 = .ok (.iastore, 1) := lw_dr lw_d_cX5_add_0 12 rfl
theorem dX5_add_22 : decode cX5_add 22 = .ok (.aload_n 0, 1) := lw_dr lw_d_cX5_add_0 13 rfl
theorem dX5_add_23 : decode cX5_add 23 = .ok (.dup, 1) := lw_dr lw_d_cX5_add_0 14 rfl
theorem dX5_add_24 : decode cX5_add 24 = .ok (.getfield 27, 3) := lw_dr lw_d_cX5_add_0 15 rfl
theorem dX5_add_27 : decode cX5_add 27 = .ok (.iconst 1, 1) := lw_dr lw_d_cX5_add_0 16 rfl
theorem dX5_add_28 : decode cX5_add 28 = .ok (.iadd, 1) := lw_dr lw_d_cX5_add_0 17 rfl
theorem dX5_add_29 : decode cX5_add 29 = .ok (.putfield 27, 3) := lw_dr lw_d_cX5_add_0 18 rfl
theorem lw_d_cX5_beginTest_0 : lw_dl cX5_beginTest [(0, .aload_n 0, 1), (1, .getfield 31, 3), (4, .bipush 8, 2), (6, .if_icmp .ge 16, 3), (22, .return_, 1), (9, .aload_n 0, 1), (10, .getfield 18, 3), (13, .aload_n 0, 1), (14, .getfield 31, 3), (17, .aload_n 0, 1), (18, .getfield 27, 3), (21, .iastore, 1)] = true := by decide +kernel
theorem dX5_beginTest_0 : decode cX5_beginTest 0 = .ok (.aload_n 0, 1) := lw_dr lw_d_cX5_beginTest_0 0 rfl
theorem dX5_beginTest_1 : decode cX5_beginTest 1 = .ok (.getfield 31, 3) := lw_dr lw_d_cX5_beginTest_0 1 rfl
theorem dX5_beginTest_4 : decode cX5_beginTest 4 = .ok (.bipush 8, 2) := lw_dr lw_d_cX5_beginTest_0 2 rfl
theorem dX5_beginTest_6 : decode cX5_beginTest 6 = .ok (.if_icmp .ge 16, 3) := lw_dr lw_d_cX5_beginTest_0 3 rfl
theorem dX5_beginTest_22 : decode cX5_beginTest 22 = .ok (.return_, 1) := lw_dr lw_d_cX5_beginTest_0 4 rfl
theorem dX5_beginTest_9 : decode cX5_beginTest 9 = .ok (.aload_n 0, 1) := lw_dr lw_d_cX5_beginTest_0 5 rfl
theorem dX5_beginTest_10 : decode cX5_beginTest 10 = .ok (.getfield 18, 3) := lw_dr lw_d_cX5_beginTest_0 6 rfl
theorem dX5_beginTest_13 : decode cX5_beginTest 13 = .ok (.aload_n 0, 1) := lw_dr lw_d_cX5_beginTest_0 7 rfl
theorem dX5_beginTest_14 : decode cX5_beginTest 14 = .ok (.getfield 31, 3) := lw_dr lw_d_cX5_beginTest_0 8 rfl
theorem dX5_beginTest_17 : decode cX5_beginTest 17 = .ok (.aload_n 0, 1) := lw_dr lw_d_cX5_beginTest_0 9 rfl
theorem dX5_beginTest_18 : decode cX5_beginTest 18 = .ok (.getfield 27, 3) := lw_dr lw_d_cX5_beginTest_0 10 rfl
theorem dX5_beginTest_21 : decode cX5_beginTest 21 = .ok (.iastore, 1) := lw_dr lw_d_cX5_beginTest_0 11 rfl
theorem lw_d_cX5_endRule_0 : lw_dl cX5_endRule [(0, .aload_n 0, 1), (1, .getfield 31, 3), (4, .bipush 8, 2), (6, .if_icmp .ge 26, 3), (32, .return_, 1), (9, .aload_n 0, 1), (10, .getfield 21, 3), (13, .aload_n 0, 1), (14, .getfield 31, 3), (17, .aload_n 0, 1), (18, .getfield 27, 3), (21, .iastore, 1), (22, .aload_n 0, 1), (23, .dup, 1), (24, .getfield 31, 3), (27, .iconst 1, 1), (28, .iadd, 1), (29, .putfield 31, 3)] = true := by decide +kernel
theorem dX5_endRule_0 : decode cX5_endRule 0 = .ok (.aload_n 0, 1) := lw_dr lw_d_cX5_endRule_0 0 rfl
theorem dX5_endRule_1 : decode cX5_endRule 1 = .ok (.getfield 31, 3) := lw_dr lw_d_cX5_endRule_0 1 rfl
theorem dX5_endRule_4 : decode cX5_endRule 4 = .ok (.bipush 8, 2) := lw_dr lw_d_cX5_endRule_0 2 rfl
theorem dX5_endRule_6 : decode cX5_endRule 6 = .ok (.if_icmp .ge 26, 3) := lw_dr lw_d_cX5_endRule_0 3 rfl
theorem dX5_endRule_32 : decode cX5_endRule 32 = .ok (.return_, 1) := lw_dr lw_d_cX5_endRule_0 4 rfl
theorem dX5_endRule_9 : decode cX5_endRule 9 = .ok (.aload_n 0, 1) := lw_dr lw_d_cX5_endRule_0 5 rfl
theorem dX5_endRule_10 : decode cX5_endRule 10 = .ok (.getfield 21, 3) := lw_dr lw_d_cX5_endRule_0 6 rfl
theorem dX5_endRule_13 : decode cX5_endRule 13 = .ok (.aload_n 0, 1) := lw_dr lw_d_cX5_endRule_0 7 rfl
theorem dX5_endRule_14 : decode cX5_endRule 14 = .ok (.getfield 31, 3) := lw_dr lw_d_cX5_endRule_0 8 rfl
theorem dX5_endRule_17 : decode cX5_endRule 17 = .ok (.aload_n 0, 1) := lw_dr lw_d_cX5_endRule_0 9 rfl
theorem dX5_endRule_18 : decode cX5_endRule 18 = .ok (.getfield 27, 3) := lw_dr lw_d_cX5_endRule_0 10 rfl
theorem dX5_endRule_21 : decode cX5_endRule 21 = .ok (.iastore, 1) := lw_dr lw_d_cX5_endRule_0 11 rfl
theorem dX5_endRule_22 : decode cX5_endRule 22 = .ok (.aload_n 0, 1) := lw_dr lw_d_cX5_endRule_0 12 rfl
theorem dX5_endRule_23 : decode cX5_endRule 23 = .ok (.dup, 1) := lw_dr lw_d_cX5_endRule_0 13 rfl
theorem dX5_endRule_24 : decode cX5_endRule 24 = .ok (.getfield 31, 3) := lw_dr lw_d_cX5_endRule_0 14 rfl
theorem dX5_endRule_27 : decode cX5_endRule 27 = .ok (.iconst 1, 1) := lw_dr lw_d_cX5_endRule_0 15 rfl
theorem dX5_endRule_28 : decode cX5_endRule 28 = .ok (.iadd, 1) := lw_dr lw_d_cX5_endRule_0 16 rfl
theorem dX5_endRule_29 : decode cX5_endRule 29 = .ok (.putfield 31, 3) := lw_dr lw_d_cX5_endRule_0 17 rfl
theorem lw_d_cX5_worthBy_0 : lw_dl cX5_worthBy [(0, .iconst 0, 1), (1, .istore 4, 2), (3, .iload 4, 2), (5, .aload_n 0, 1), (6, .getfield 31, 3), (9, .if_icmp .ge 55, 3), (64, .iconst 0, 1), (65, .ireturn, 1), (12, .aload_n 0, 1), (13, .aload_n 0, 1), (14, .getfield 18, 3), (17, .iload 4, 2), (19, .iaload, 1), (20, .aload_n 0, 1), (21, .getfield 21, 3), (24, .iload 4, 2), (26, .iaload, 1), (27, .iload_n 1, 1), (28, .iload_n 2, 1), (29, .iload_n 3, 1), (30, .invokevirtual 34, 3)] = true := by decide +kernel
theorem dX5_worthBy_0 : decode cX5_worthBy 0 = .ok (.iconst 0, 1) := lw_dr lw_d_cX5_worthBy_0 0 rfl
theorem dX5_worthBy_1 : decode cX5_worthBy 1 = .ok (.istore 4, 2) := lw_dr lw_d_cX5_worthBy_0 1 rfl
theorem dX5_worthBy_3 : decode cX5_worthBy 3 = .ok (.iload 4, 2) := lw_dr lw_d_cX5_worthBy_0 2 rfl
theorem dX5_worthBy_5 : decode cX5_worthBy 5 = .ok (.aload_n 0, 1) := lw_dr lw_d_cX5_worthBy_0 3 rfl
theorem dX5_worthBy_6 : decode cX5_worthBy 6 = .ok (.getfield 31, 3) := lw_dr lw_d_cX5_worthBy_0 4 rfl
theorem dX5_worthBy_9 : decode cX5_worthBy 9 = .ok (.if_icmp .ge 55, 3) := lw_dr lw_d_cX5_worthBy_0 5 rfl
theorem dX5_worthBy_64 : decode cX5_worthBy 64 = .ok (.iconst 0, 1) := lw_dr lw_d_cX5_worthBy_0 6 rfl
theorem dX5_worthBy_65 : decode cX5_worthBy 65 = .ok (.ireturn, 1) := lw_dr lw_d_cX5_worthBy_0 7 rfl
theorem dX5_worthBy_12 : decode cX5_worthBy 12 = .ok (.aload_n 0, 1) := lw_dr lw_d_cX5_worthBy_0 8 rfl
theorem dX5_worthBy_13 : decode cX5_worthBy 13 = .ok (.aload_n 0, 1) := lw_dr lw_d_cX5_worthBy_0 9 rfl
theorem dX5_worthBy_14 : decode cX5_worthBy 14 = .ok (.getfield 18, 3) := lw_dr lw_d_cX5_worthBy_0 10 rfl
theorem dX5_worthBy_17 : decode cX5_worthBy 17 = .ok (.iload 4, 2) := lw_dr lw_d_cX5_worthBy_0 11 rfl
theorem dX5_worthBy_19 : decode cX5_worthBy 19 = .ok (.iaload, 1) := lw_dr lw_d_cX5_worthBy_0 12 rfl
theorem dX5_worthBy_20 : decode cX5_worthBy 20 = .ok (.aload_n 0, 1) := lw_dr lw_d_cX5_worthBy_0 13 rfl
theorem dX5_worthBy_21 : decode cX5_worthBy 21 = .ok (.getfield 21, 3) := lw_dr lw_d_cX5_worthBy_0 14 rfl
theorem dX5_worthBy_24 : decode cX5_worthBy 24 = .ok (.iload 4, 2) := lw_dr lw_d_cX5_worthBy_0 15 rfl
theorem dX5_worthBy_26 : decode cX5_worthBy 26 = .ok (.iaload, 1) := lw_dr lw_d_cX5_worthBy_0 16 rfl
theorem dX5_worthBy_27 : decode cX5_worthBy 27 = .ok (.iload_n 1, 1) := lw_dr lw_d_cX5_worthBy_0 17 rfl
theorem dX5_worthBy_28 : decode cX5_worthBy 28 = .ok (.iload_n 2, 1) := lw_dr lw_d_cX5_worthBy_0 18 rfl
theorem dX5_worthBy_29 : decode cX5_worthBy 29 = .ok (.iload_n 3, 1) := lw_dr lw_d_cX5_worthBy_0 19 rfl
theorem dX5_worthBy_30 : decode cX5_worthBy 30 = .ok (.invokevirtual 34, 3) := lw_dr lw_d_cX5_worthBy_0 20 rfl
theorem lw_d_cX5_valueOf_0 : lw_dl cX5_valueOf [(0, .iconst 0, 1), (1, .istore 6, 2), (3, .iload_n 1, 1), (4, .istore 7, 2), (6, .iload 7, 2), (8, .iload_n 2, 1), (9, .if_icmp .ge 132, 3), (141, .aload_n 0, 1)] = true := by decide +kernel
theorem dX5_valueOf_0 : decode cX5_valueOf 0 = .ok (.iconst 0, 1) := lw_dr lw_d_cX5_valueOf_0 0 rfl
theorem dX5_valueOf_1 : decode cX5_valueOf 1 = .ok (.istore 6, 2) := lw_dr lw_d_cX5_valueOf_0 1 rfl
theorem dX5_valueOf_3 : decode cX5_valueOf 3 = .ok (.iload_n 1, 1) := lw_dr lw_d_cX5_valueOf_0 2 rfl
theorem dX5_valueOf_4 : decode cX5_valueOf 4 = .ok (.istore 7, 2) := lw_dr lw_d_cX5_valueOf_0 3 rfl
theorem dX5_valueOf_6 : decode cX5_valueOf 6 = .ok (.iload 7, 2) := lw_dr lw_d_cX5_valueOf_0 4 rfl
theorem dX5_valueOf_8 : decode cX5_valueOf 8 = .ok (.iload_n 2, 1) := lw_dr lw_d_cX5_valueOf_0 5 rfl
theorem dX5_valueOf_9 : decode cX5_valueOf 9 = .ok (.if_icmp .ge 132, 3) := lw_dr lw_d_cX5_valueOf_0 6 rfl
theorem dX5_valueOf_141 : decode cX5_valueOf 141 = .ok (.aload_n 0, 1) := lw_dr lw_d_cX5_valueOf_0 7 rfl
theorem lw_d_cX5_valueOf_142 : lw_dl cX5_valueOf [(142, .getfield 24, 3), (145, .iconst 0, 1), (146, .iaload, 1), (147, .ireturn, 1), (12, .aload_n 0, 1), (13, .getfield 9, 3), (16, .iload 7, 2), (18, .iaload, 1), (19, .istore 8, 2), (21, .iload 8, 2), (23, .bipush (-4), 2), (25, .if_icmp .le 36, 3), (61, .iload 8, 2), (63, .bipush (-4), 2), (65, .if_icmp .ne 31, 3), (96, .iload 6, 2), (98, .iconst 1, 1), (99, .if_icmp .le 36, 3), (135, .iinc 7 1, 3), (138, .goto (-132), 3), (68, .iload 6, 2), (70, .ifCond .le 65, 3), (28, .iload 6, 2), (30, .aload_n 0, 1), (31, .getfield 24, 3), (34, .arraylength, 1), (35, .if_icmp .ge 100, 3), (38, .aload_n 0, 1), (39, .getfield 24, 3), (42, .iload 6, 2), (44, .iload 8, 2), (46, .iload_n 3, 1), (47, .iload 4, 2), (49, .iload 5, 2), (51, .invokestatic 38, 3), (54, .iastore, 1), (55, .iinc 6 1, 3), (58, .goto 77, 3), (102, .iinc 6 (-1), 3), (105, .aload_n 0, 1)] = true := by decide +kernel
theorem dX5_valueOf_142 : decode cX5_valueOf 142 = .ok (.getfield 24, 3) := lw_dr lw_d_cX5_valueOf_142 0 rfl
theorem dX5_valueOf_145 : decode cX5_valueOf 145 = .ok (.iconst 0, 1) := lw_dr lw_d_cX5_valueOf_142 1 rfl
theorem dX5_valueOf_146 : decode cX5_valueOf 146 = .ok (.iaload, 1) := lw_dr lw_d_cX5_valueOf_142 2 rfl
theorem dX5_valueOf_147 : decode cX5_valueOf 147 = .ok (.ireturn, 1) := lw_dr lw_d_cX5_valueOf_142 3 rfl
theorem dX5_valueOf_12 : decode cX5_valueOf 12 = .ok (.aload_n 0, 1) := lw_dr lw_d_cX5_valueOf_142 4 rfl
theorem dX5_valueOf_13 : decode cX5_valueOf 13 = .ok (.getfield 9, 3) := lw_dr lw_d_cX5_valueOf_142 5 rfl
theorem dX5_valueOf_16 : decode cX5_valueOf 16 = .ok (.iload 7, 2) := lw_dr lw_d_cX5_valueOf_142 6 rfl
theorem dX5_valueOf_18 : decode cX5_valueOf 18 = .ok (.iaload, 1) := lw_dr lw_d_cX5_valueOf_142 7 rfl
theorem dX5_valueOf_19 : decode cX5_valueOf 19 = .ok (.istore 8, 2) := lw_dr lw_d_cX5_valueOf_142 8 rfl
theorem dX5_valueOf_21 : decode cX5_valueOf 21 = .ok (.iload 8, 2) := lw_dr lw_d_cX5_valueOf_142 9 rfl
theorem dX5_valueOf_23 : decode cX5_valueOf 23 = .ok (.bipush (-4), 2) := lw_dr lw_d_cX5_valueOf_142 10 rfl
theorem dX5_valueOf_25 : decode cX5_valueOf 25 = .ok (.if_icmp .le 36, 3) := lw_dr lw_d_cX5_valueOf_142 11 rfl
theorem dX5_valueOf_61 : decode cX5_valueOf 61 = .ok (.iload 8, 2) := lw_dr lw_d_cX5_valueOf_142 12 rfl
theorem dX5_valueOf_63 : decode cX5_valueOf 63 = .ok (.bipush (-4), 2) := lw_dr lw_d_cX5_valueOf_142 13 rfl
theorem dX5_valueOf_65 : decode cX5_valueOf 65 = .ok (.if_icmp .ne 31, 3) := lw_dr lw_d_cX5_valueOf_142 14 rfl
theorem dX5_valueOf_96 : decode cX5_valueOf 96 = .ok (.iload 6, 2) := lw_dr lw_d_cX5_valueOf_142 15 rfl
theorem dX5_valueOf_98 : decode cX5_valueOf 98 = .ok (.iconst 1, 1) := lw_dr lw_d_cX5_valueOf_142 16 rfl
theorem dX5_valueOf_99 : decode cX5_valueOf 99 = .ok (.if_icmp .le 36, 3) := lw_dr lw_d_cX5_valueOf_142 17 rfl
theorem dX5_valueOf_135 : decode cX5_valueOf 135 = .ok (.iinc 7 1, 3) := lw_dr lw_d_cX5_valueOf_142 18 rfl
theorem dX5_valueOf_138 : decode cX5_valueOf 138 = .ok (.goto (-132), 3) := lw_dr lw_d_cX5_valueOf_142 19 rfl
theorem dX5_valueOf_68 : decode cX5_valueOf 68 = .ok (.iload 6, 2) := lw_dr lw_d_cX5_valueOf_142 20 rfl
theorem dX5_valueOf_70 : decode cX5_valueOf 70 = .ok (.ifCond .le 65, 3) := lw_dr lw_d_cX5_valueOf_142 21 rfl
theorem dX5_valueOf_28 : decode cX5_valueOf 28 = .ok (.iload 6, 2) := lw_dr lw_d_cX5_valueOf_142 22 rfl
theorem dX5_valueOf_30 : decode cX5_valueOf 30 = .ok (.aload_n 0, 1) := lw_dr lw_d_cX5_valueOf_142 23 rfl
theorem dX5_valueOf_31 : decode cX5_valueOf 31 = .ok (.getfield 24, 3) := lw_dr lw_d_cX5_valueOf_142 24 rfl
theorem dX5_valueOf_34 : decode cX5_valueOf 34 = .ok (.arraylength, 1) := lw_dr lw_d_cX5_valueOf_142 25 rfl
theorem dX5_valueOf_35 : decode cX5_valueOf 35 = .ok (.if_icmp .ge 100, 3) := lw_dr lw_d_cX5_valueOf_142 26 rfl
theorem dX5_valueOf_38 : decode cX5_valueOf 38 = .ok (.aload_n 0, 1) := lw_dr lw_d_cX5_valueOf_142 27 rfl
theorem dX5_valueOf_39 : decode cX5_valueOf 39 = .ok (.getfield 24, 3) := lw_dr lw_d_cX5_valueOf_142 28 rfl
theorem dX5_valueOf_42 : decode cX5_valueOf 42 = .ok (.iload 6, 2) := lw_dr lw_d_cX5_valueOf_142 29 rfl
theorem dX5_valueOf_44 : decode cX5_valueOf 44 = .ok (.iload 8, 2) := lw_dr lw_d_cX5_valueOf_142 30 rfl
theorem dX5_valueOf_46 : decode cX5_valueOf 46 = .ok (.iload_n 3, 1) := lw_dr lw_d_cX5_valueOf_142 31 rfl
theorem dX5_valueOf_47 : decode cX5_valueOf 47 = .ok (.iload 4, 2) := lw_dr lw_d_cX5_valueOf_142 32 rfl
theorem dX5_valueOf_49 : decode cX5_valueOf 49 = .ok (.iload 5, 2) := lw_dr lw_d_cX5_valueOf_142 33 rfl
theorem dX5_valueOf_51 : decode cX5_valueOf 51 = .ok (.invokestatic 38, 3) := lw_dr lw_d_cX5_valueOf_142 34 rfl
theorem dX5_valueOf_54 : decode cX5_valueOf 54 = .ok (.iastore, 1) := lw_dr lw_d_cX5_valueOf_142 35 rfl
theorem dX5_valueOf_55 : decode cX5_valueOf 55 = .ok (.iinc 6 1, 3) := lw_dr lw_d_cX5_valueOf_142 36 rfl
theorem dX5_valueOf_58 : decode cX5_valueOf 58 = .ok (.goto 77, 3) := lw_dr lw_d_cX5_valueOf_142 37 rfl
theorem dX5_valueOf_102 : decode cX5_valueOf 102 = .ok (.iinc 6 (-1), 3) := lw_dr lw_d_cX5_valueOf_142 38 rfl
theorem dX5_valueOf_105 : decode cX5_valueOf 105 = .ok (.aload_n 0, 1) := lw_dr lw_d_cX5_valueOf_142 39 rfl
theorem lw_d_cX5_valueOf_106 : lw_dl cX5_valueOf [(106, .getfield 24, 3), (109, .iload 6, 2), (111, .iconst 1, 1), (112, .isub, 1), (113, .iload 8, 2), (115, .aload_n 0, 1), (116, .getfield 24, 3), (119, .iload 6, 2), (121, .iconst 1, 1), (122, .isub, 1), (123, .iaload, 1), (124, .aload_n 0, 1), (125, .getfield 24, 3), (128, .iload 6, 2), (130, .iaload, 1), (131, .invokestatic 42, 3), (134, .iastore, 1), (73, .aload_n 0, 1), (74, .getfield 24, 3), (77, .iload 6, 2), (79, .iconst 1, 1), (80, .isub, 1), (81, .iconst 1, 1), (82, .aload_n 0, 1), (83, .getfield 24, 3), (86, .iload 6, 2), (88, .iconst 1, 1), (89, .isub, 1), (90, .iaload, 1), (91, .isub, 1), (92, .iastore, 1), (93, .goto 42, 3)] = true := by decide +kernel
theorem dX5_valueOf_106 : decode cX5_valueOf 106 = .ok (.getfield 24, 3) := lw_dr lw_d_cX5_valueOf_106 0 rfl
theorem dX5_valueOf_109 : decode cX5_valueOf 109 = .ok (.iload 6, 2) := lw_dr lw_d_cX5_valueOf_106 1 rfl
theorem dX5_valueOf_111 : decode cX5_valueOf 111 = .ok (.iconst 1, 1) := lw_dr lw_d_cX5_valueOf_106 2 rfl
theorem dX5_valueOf_112 : decode cX5_valueOf 112 = .ok (.isub, 1) := lw_dr lw_d_cX5_valueOf_106 3 rfl
theorem dX5_valueOf_113 : decode cX5_valueOf 113 = .ok (.iload 8, 2) := lw_dr lw_d_cX5_valueOf_106 4 rfl
theorem dX5_valueOf_115 : decode cX5_valueOf 115 = .ok (.aload_n 0, 1) := lw_dr lw_d_cX5_valueOf_106 5 rfl
theorem dX5_valueOf_116 : decode cX5_valueOf 116 = .ok (.getfield 24, 3) := lw_dr lw_d_cX5_valueOf_106 6 rfl
theorem dX5_valueOf_119 : decode cX5_valueOf 119 = .ok (.iload 6, 2) := lw_dr lw_d_cX5_valueOf_106 7 rfl
theorem dX5_valueOf_121 : decode cX5_valueOf 121 = .ok (.iconst 1, 1) := lw_dr lw_d_cX5_valueOf_106 8 rfl
theorem dX5_valueOf_122 : decode cX5_valueOf 122 = .ok (.isub, 1) := lw_dr lw_d_cX5_valueOf_106 9 rfl
theorem dX5_valueOf_123 : decode cX5_valueOf 123 = .ok (.iaload, 1) := lw_dr lw_d_cX5_valueOf_106 10 rfl
theorem dX5_valueOf_124 : decode cX5_valueOf 124 = .ok (.aload_n 0, 1) := lw_dr lw_d_cX5_valueOf_106 11 rfl
theorem dX5_valueOf_125 : decode cX5_valueOf 125 = .ok (.getfield 24, 3) := lw_dr lw_d_cX5_valueOf_106 12 rfl
theorem dX5_valueOf_128 : decode cX5_valueOf 128 = .ok (.iload 6, 2) := lw_dr lw_d_cX5_valueOf_106 13 rfl
theorem dX5_valueOf_130 : decode cX5_valueOf 130 = .ok (.iaload, 1) := lw_dr lw_d_cX5_valueOf_106 14 rfl
theorem dX5_valueOf_131 : decode cX5_valueOf 131 = .ok (.invokestatic 42, 3) := lw_dr lw_d_cX5_valueOf_106 15 rfl
theorem dX5_valueOf_134 : decode cX5_valueOf 134 = .ok (.iastore, 1) := lw_dr lw_d_cX5_valueOf_106 16 rfl
theorem dX5_valueOf_73 : decode cX5_valueOf 73 = .ok (.aload_n 0, 1) := lw_dr lw_d_cX5_valueOf_106 17 rfl
theorem dX5_valueOf_74 : decode cX5_valueOf 74 = .ok (.getfield 24, 3) := lw_dr lw_d_cX5_valueOf_106 18 rfl
theorem dX5_valueOf_77 : decode cX5_valueOf 77 = .ok (.iload 6, 2) := lw_dr lw_d_cX5_valueOf_106 19 rfl
theorem dX5_valueOf_79 : decode cX5_valueOf 79 = .ok (.iconst 1, 1) := lw_dr lw_d_cX5_valueOf_106 20 rfl
theorem dX5_valueOf_80 : decode cX5_valueOf 80 = .ok (.isub, 1) := lw_dr lw_d_cX5_valueOf_106 21 rfl
theorem dX5_valueOf_81 : decode cX5_valueOf 81 = .ok (.iconst 1, 1) := lw_dr lw_d_cX5_valueOf_106 22 rfl
theorem dX5_valueOf_82 : decode cX5_valueOf 82 = .ok (.aload_n 0, 1) := lw_dr lw_d_cX5_valueOf_106 23 rfl
theorem dX5_valueOf_83 : decode cX5_valueOf 83 = .ok (.getfield 24, 3) := lw_dr lw_d_cX5_valueOf_106 24 rfl
theorem dX5_valueOf_86 : decode cX5_valueOf 86 = .ok (.iload 6, 2) := lw_dr lw_d_cX5_valueOf_106 25 rfl
theorem dX5_valueOf_88 : decode cX5_valueOf 88 = .ok (.iconst 1, 1) := lw_dr lw_d_cX5_valueOf_106 26 rfl
theorem dX5_valueOf_89 : decode cX5_valueOf 89 = .ok (.isub, 1) := lw_dr lw_d_cX5_valueOf_106 27 rfl
theorem dX5_valueOf_90 : decode cX5_valueOf 90 = .ok (.iaload, 1) := lw_dr lw_d_cX5_valueOf_106 28 rfl
theorem dX5_valueOf_91 : decode cX5_valueOf 91 = .ok (.isub, 1) := lw_dr lw_d_cX5_valueOf_106 29 rfl
theorem dX5_valueOf_92 : decode cX5_valueOf 92 = .ok (.iastore, 1) := lw_dr lw_d_cX5_valueOf_106 30 rfl
theorem dX5_valueOf_93 : decode cX5_valueOf 93 = .ok (.goto 42, 3) := lw_dr lw_d_cX5_valueOf_106 31 rfl
theorem lw_d_cX5_partBy_0 : lw_dl cX5_partBy [(0, .iload_n 0, 1), (1, .tableswitch 33 (-3) (-1) #[31, 29, 27], 27), (32, .iload_n 3, 1), (33, .ireturn, 1), (30, .iload_n 2, 1), (31, .ireturn, 1), (28, .iload_n 1, 1), (29, .ireturn, 1), (34, .iload_n 0, 1), (35, .ireturn, 1)] = true := by decide +kernel
theorem dX5_partBy_0 : decode cX5_partBy 0 = .ok (.iload_n 0, 1) := lw_dr lw_d_cX5_partBy_0 0 rfl
theorem dX5_partBy_1 : decode cX5_partBy 1 = .ok (.tableswitch 33 (-3) (-1) #[31, 29, 27], 27) := lw_dr lw_d_cX5_partBy_0 1 rfl
theorem dX5_partBy_32 : decode cX5_partBy 32 = .ok (.iload_n 3, 1) := lw_dr lw_d_cX5_partBy_0 2 rfl
theorem dX5_partBy_33 : decode cX5_partBy 33 = .ok (.ireturn, 1) := lw_dr lw_d_cX5_partBy_0 3 rfl
theorem dX5_partBy_30 : decode cX5_partBy 30 = .ok (.iload_n 2, 1) := lw_dr lw_d_cX5_partBy_0 4 rfl
theorem dX5_partBy_31 : decode cX5_partBy 31 = .ok (.ireturn, 1) := lw_dr lw_d_cX5_partBy_0 5 rfl
theorem dX5_partBy_28 : decode cX5_partBy 28 = .ok (.iload_n 1, 1) := lw_dr lw_d_cX5_partBy_0 6 rfl
theorem dX5_partBy_29 : decode cX5_partBy 29 = .ok (.ireturn, 1) := lw_dr lw_d_cX5_partBy_0 7 rfl
theorem dX5_partBy_34 : decode cX5_partBy 34 = .ok (.iload_n 0, 1) := lw_dr lw_d_cX5_partBy_0 8 rfl
theorem dX5_partBy_35 : decode cX5_partBy 35 = .ok (.ireturn, 1) := lw_dr lw_d_cX5_partBy_0 9 rfl
theorem lw_d_cX5_joined_0 : lw_dl cX5_joined [(0, .iload_n 0, 1), (1, .tableswitch 153 (-15) (-5) #[149, 145, 134, 123, 112, 106, 100, 86, 77, 68, 59], 59), (150, .iload_n 1, 1), (151, .iload_n 2, 1), (152, .ior, 1), (153, .ireturn, 1), (146, .iload_n 1, 1), (147, .iload_n 2, 1), (148, .iand, 1), (149, .ireturn, 1), (135, .iload_n 1, 1), (136, .iload_n 2, 1), (137, .if_icmp .ne 7, 3), (144, .iconst 0, 1), (145, .ireturn, 1), (140, .iconst 1, 1), (141, .goto 4, 3), (124, .iload_n 1, 1), (125, .iload_n 2, 1), (126, .if_icmp .le 7, 3), (133, .iconst 0, 1), (134, .ireturn, 1), (129, .iconst 1, 1), (130, .goto 4, 3), (113, .iload_n 1, 1), (114, .iload_n 2, 1), (115, .if_icmp .ge 7, 3), (122, .iconst 0, 1), (123, .ireturn, 1), (118, .iconst 1, 1), (119, .goto 4, 3), (107, .iload_n 1, 1), (108, .iload_n 2, 1), (109, .invokestatic 59, 3), (112, .ireturn, 1), (101, .iload_n 1, 1), (102, .iload_n 2, 1), (103, .invokestatic 56, 3), (106, .ireturn, 1), (87, .iload_n 2, 1)] = true := by decide +kernel
theorem dX5_joined_0 : decode cX5_joined 0 = .ok (.iload_n 0, 1) := lw_dr lw_d_cX5_joined_0 0 rfl
theorem dX5_joined_1 : decode cX5_joined 1 = .ok (.tableswitch 153 (-15) (-5) #[149, 145, 134, 123, 112, 106, 100, 86, 77, 68, 59], 59) := lw_dr lw_d_cX5_joined_0 1 rfl
theorem dX5_joined_150 : decode cX5_joined 150 = .ok (.iload_n 1, 1) := lw_dr lw_d_cX5_joined_0 2 rfl
theorem dX5_joined_151 : decode cX5_joined 151 = .ok (.iload_n 2, 1) := lw_dr lw_d_cX5_joined_0 3 rfl
theorem dX5_joined_152 : decode cX5_joined 152 = .ok (.ior, 1) := lw_dr lw_d_cX5_joined_0 4 rfl
theorem dX5_joined_153 : decode cX5_joined 153 = .ok (.ireturn, 1) := lw_dr lw_d_cX5_joined_0 5 rfl
theorem dX5_joined_146 : decode cX5_joined 146 = .ok (.iload_n 1, 1) := lw_dr lw_d_cX5_joined_0 6 rfl
theorem dX5_joined_147 : decode cX5_joined 147 = .ok (.iload_n 2, 1) := lw_dr lw_d_cX5_joined_0 7 rfl
theorem dX5_joined_148 : decode cX5_joined 148 = .ok (.iand, 1) := lw_dr lw_d_cX5_joined_0 8 rfl
theorem dX5_joined_149 : decode cX5_joined 149 = .ok (.ireturn, 1) := lw_dr lw_d_cX5_joined_0 9 rfl
theorem dX5_joined_135 : decode cX5_joined 135 = .ok (.iload_n 1, 1) := lw_dr lw_d_cX5_joined_0 10 rfl
theorem dX5_joined_136 : decode cX5_joined 136 = .ok (.iload_n 2, 1) := lw_dr lw_d_cX5_joined_0 11 rfl
theorem dX5_joined_137 : decode cX5_joined 137 = .ok (.if_icmp .ne 7, 3) := lw_dr lw_d_cX5_joined_0 12 rfl
theorem dX5_joined_144 : decode cX5_joined 144 = .ok (.iconst 0, 1) := lw_dr lw_d_cX5_joined_0 13 rfl
theorem dX5_joined_145 : decode cX5_joined 145 = .ok (.ireturn, 1) := lw_dr lw_d_cX5_joined_0 14 rfl
theorem dX5_joined_140 : decode cX5_joined 140 = .ok (.iconst 1, 1) := lw_dr lw_d_cX5_joined_0 15 rfl
theorem dX5_joined_141 : decode cX5_joined 141 = .ok (.goto 4, 3) := lw_dr lw_d_cX5_joined_0 16 rfl
theorem dX5_joined_124 : decode cX5_joined 124 = .ok (.iload_n 1, 1) := lw_dr lw_d_cX5_joined_0 17 rfl
theorem dX5_joined_125 : decode cX5_joined 125 = .ok (.iload_n 2, 1) := lw_dr lw_d_cX5_joined_0 18 rfl
theorem dX5_joined_126 : decode cX5_joined 126 = .ok (.if_icmp .le 7, 3) := lw_dr lw_d_cX5_joined_0 19 rfl
theorem dX5_joined_133 : decode cX5_joined 133 = .ok (.iconst 0, 1) := lw_dr lw_d_cX5_joined_0 20 rfl
theorem dX5_joined_134 : decode cX5_joined 134 = .ok (.ireturn, 1) := lw_dr lw_d_cX5_joined_0 21 rfl
theorem dX5_joined_129 : decode cX5_joined 129 = .ok (.iconst 1, 1) := lw_dr lw_d_cX5_joined_0 22 rfl
theorem dX5_joined_130 : decode cX5_joined 130 = .ok (.goto 4, 3) := lw_dr lw_d_cX5_joined_0 23 rfl
theorem dX5_joined_113 : decode cX5_joined 113 = .ok (.iload_n 1, 1) := lw_dr lw_d_cX5_joined_0 24 rfl
theorem dX5_joined_114 : decode cX5_joined 114 = .ok (.iload_n 2, 1) := lw_dr lw_d_cX5_joined_0 25 rfl
theorem dX5_joined_115 : decode cX5_joined 115 = .ok (.if_icmp .ge 7, 3) := lw_dr lw_d_cX5_joined_0 26 rfl
theorem dX5_joined_122 : decode cX5_joined 122 = .ok (.iconst 0, 1) := lw_dr lw_d_cX5_joined_0 27 rfl
theorem dX5_joined_123 : decode cX5_joined 123 = .ok (.ireturn, 1) := lw_dr lw_d_cX5_joined_0 28 rfl
theorem dX5_joined_118 : decode cX5_joined 118 = .ok (.iconst 1, 1) := lw_dr lw_d_cX5_joined_0 29 rfl
theorem dX5_joined_119 : decode cX5_joined 119 = .ok (.goto 4, 3) := lw_dr lw_d_cX5_joined_0 30 rfl
theorem dX5_joined_107 : decode cX5_joined 107 = .ok (.iload_n 1, 1) := lw_dr lw_d_cX5_joined_0 31 rfl
theorem dX5_joined_108 : decode cX5_joined 108 = .ok (.iload_n 2, 1) := lw_dr lw_d_cX5_joined_0 32 rfl
theorem dX5_joined_109 : decode cX5_joined 109 = .ok (.invokestatic 59, 3) := lw_dr lw_d_cX5_joined_0 33 rfl
theorem dX5_joined_112 : decode cX5_joined 112 = .ok (.ireturn, 1) := lw_dr lw_d_cX5_joined_0 34 rfl
theorem dX5_joined_101 : decode cX5_joined 101 = .ok (.iload_n 1, 1) := lw_dr lw_d_cX5_joined_0 35 rfl
theorem dX5_joined_102 : decode cX5_joined 102 = .ok (.iload_n 2, 1) := lw_dr lw_d_cX5_joined_0 36 rfl
theorem dX5_joined_103 : decode cX5_joined 103 = .ok (.invokestatic 56, 3) := lw_dr lw_d_cX5_joined_0 37 rfl
theorem dX5_joined_106 : decode cX5_joined 106 = .ok (.ireturn, 1) := lw_dr lw_d_cX5_joined_0 38 rfl
theorem dX5_joined_87 : decode cX5_joined 87 = .ok (.iload_n 2, 1) := lw_dr lw_d_cX5_joined_0 39 rfl
theorem lw_d_cX5_joined_88 : lw_dl cX5_joined [(88, .ifCond .ne 7, 3), (95, .iload_n 1, 1), (96, .iload_n 2, 1), (97, .invokestatic 50, 3), (100, .ireturn, 1), (91, .iconst 0, 1), (92, .goto 8, 3), (78, .iload_n 1, 1), (79, .i2l, 1), (80, .iload_n 2, 1), (81, .i2l, 1), (82, .lmul, 1), (83, .invokestatic 46, 3), (86, .ireturn, 1), (69, .iload_n 1, 1), (70, .i2l, 1), (71, .iload_n 2, 1), (72, .i2l, 1), (73, .lsub, 1), (74, .invokestatic 46, 3), (77, .ireturn, 1), (60, .iload_n 1, 1), (61, .i2l, 1), (62, .iload_n 2, 1), (63, .i2l, 1), (64, .ladd, 1), (65, .invokestatic 46, 3), (68, .ireturn, 1), (154, .iconst 0, 1), (155, .ireturn, 1)] = true := by decide +kernel
theorem dX5_joined_88 : decode cX5_joined 88 = .ok (.ifCond .ne 7, 3) := lw_dr lw_d_cX5_joined_88 0 rfl
theorem dX5_joined_95 : decode cX5_joined 95 = .ok (.iload_n 1, 1) := lw_dr lw_d_cX5_joined_88 1 rfl
theorem dX5_joined_96 : decode cX5_joined 96 = .ok (.iload_n 2, 1) := lw_dr lw_d_cX5_joined_88 2 rfl
theorem dX5_joined_97 : decode cX5_joined 97 = .ok (.invokestatic 50, 3) := lw_dr lw_d_cX5_joined_88 3 rfl
theorem dX5_joined_100 : decode cX5_joined 100 = .ok (.ireturn, 1) := lw_dr lw_d_cX5_joined_88 4 rfl
theorem dX5_joined_91 : decode cX5_joined 91 = .ok (.iconst 0, 1) := lw_dr lw_d_cX5_joined_88 5 rfl
theorem dX5_joined_92 : decode cX5_joined 92 = .ok (.goto 8, 3) := lw_dr lw_d_cX5_joined_88 6 rfl
theorem dX5_joined_78 : decode cX5_joined 78 = .ok (.iload_n 1, 1) := lw_dr lw_d_cX5_joined_88 7 rfl
theorem dX5_joined_79 : decode cX5_joined 79 = .ok (.i2l, 1) := lw_dr lw_d_cX5_joined_88 8 rfl
theorem dX5_joined_80 : decode cX5_joined 80 = .ok (.iload_n 2, 1) := lw_dr lw_d_cX5_joined_88 9 rfl
theorem dX5_joined_81 : decode cX5_joined 81 = .ok (.i2l, 1) := lw_dr lw_d_cX5_joined_88 10 rfl
theorem dX5_joined_82 : decode cX5_joined 82 = .ok (.lmul, 1) := lw_dr lw_d_cX5_joined_88 11 rfl
theorem dX5_joined_83 : decode cX5_joined 83 = .ok (.invokestatic 46, 3) := lw_dr lw_d_cX5_joined_88 12 rfl
theorem dX5_joined_86 : decode cX5_joined 86 = .ok (.ireturn, 1) := lw_dr lw_d_cX5_joined_88 13 rfl
theorem dX5_joined_69 : decode cX5_joined 69 = .ok (.iload_n 1, 1) := lw_dr lw_d_cX5_joined_88 14 rfl
theorem dX5_joined_70 : decode cX5_joined 70 = .ok (.i2l, 1) := lw_dr lw_d_cX5_joined_88 15 rfl
theorem dX5_joined_71 : decode cX5_joined 71 = .ok (.iload_n 2, 1) := lw_dr lw_d_cX5_joined_88 16 rfl
theorem dX5_joined_72 : decode cX5_joined 72 = .ok (.i2l, 1) := lw_dr lw_d_cX5_joined_88 17 rfl
theorem dX5_joined_73 : decode cX5_joined 73 = .ok (.lsub, 1) := lw_dr lw_d_cX5_joined_88 18 rfl
theorem dX5_joined_74 : decode cX5_joined 74 = .ok (.invokestatic 46, 3) := lw_dr lw_d_cX5_joined_88 19 rfl
theorem dX5_joined_77 : decode cX5_joined 77 = .ok (.ireturn, 1) := lw_dr lw_d_cX5_joined_88 20 rfl
theorem dX5_joined_60 : decode cX5_joined 60 = .ok (.iload_n 1, 1) := lw_dr lw_d_cX5_joined_88 21 rfl
theorem dX5_joined_61 : decode cX5_joined 61 = .ok (.i2l, 1) := lw_dr lw_d_cX5_joined_88 22 rfl
theorem dX5_joined_62 : decode cX5_joined 62 = .ok (.iload_n 2, 1) := lw_dr lw_d_cX5_joined_88 23 rfl
theorem dX5_joined_63 : decode cX5_joined 63 = .ok (.i2l, 1) := lw_dr lw_d_cX5_joined_88 24 rfl
theorem dX5_joined_64 : decode cX5_joined 64 = .ok (.ladd, 1) := lw_dr lw_d_cX5_joined_88 25 rfl
theorem dX5_joined_65 : decode cX5_joined 65 = .ok (.invokestatic 46, 3) := lw_dr lw_d_cX5_joined_88 26 rfl
theorem dX5_joined_68 : decode cX5_joined 68 = .ok (.ireturn, 1) := lw_dr lw_d_cX5_joined_88 27 rfl
theorem dX5_joined_154 : decode cX5_joined 154 = .ok (.iconst 0, 1) := lw_dr lw_d_cX5_joined_88 28 rfl
theorem dX5_joined_155 : decode cX5_joined 155 = .ok (.ireturn, 1) := lw_dr lw_d_cX5_joined_88 29 rfl
theorem lw_d_cX5_bounded_0 : lw_dl cX5_bounded [(0, .ldc2_w 62, 3), (3, .ldc2_w 64, 3), (6, .lload_n 0, 1), (7, .invokestatic 66, 3), (10, .invokestatic 69, 3), (13, .l2i, 1), (14, .ireturn, 1)] = true := by decide +kernel
theorem dX5_bounded_0 : decode cX5_bounded 0 = .ok (.ldc2_w 62, 3) := lw_dr lw_d_cX5_bounded_0 0 rfl
theorem dX5_bounded_3 : decode cX5_bounded 3 = .ok (.ldc2_w 64, 3) := lw_dr lw_d_cX5_bounded_0 1 rfl
theorem dX5_bounded_6 : decode cX5_bounded 6 = .ok (.lload_n 0, 1) := lw_dr lw_d_cX5_bounded_0 2 rfl
theorem dX5_bounded_7 : decode cX5_bounded 7 = .ok (.invokestatic 66, 3) := lw_dr lw_d_cX5_bounded_0 3 rfl
theorem dX5_bounded_10 : decode cX5_bounded 10 = .ok (.invokestatic 69, 3) := lw_dr lw_d_cX5_bounded_0 4 rfl
theorem dX5_bounded_13 : decode cX5_bounded 13 = .ok (.l2i, 1) := lw_dr lw_d_cX5_bounded_0 5 rfl
theorem dX5_bounded_14 : decode cX5_bounded 14 = .ok (.ireturn, 1) := lw_dr lw_d_cX5_bounded_0 6 rfl
theorem lw_d_cX5_worthBy_33 : lw_dl cX5_worthBy [(33, .ifCond .eq 25, 3), (58, .iinc 4 1, 3), (61, .goto (-58), 3), (36, .aload_n 0, 1), (37, .aload_n 0, 1), (38, .getfield 15, 3), (41, .iload 4, 2), (43, .iaload, 1), (44, .aload_n 0, 1), (45, .getfield 18, 3), (48, .iload 4, 2), (50, .iaload, 1), (51, .iload_n 1, 1), (52, .iload_n 2, 1), (53, .iload_n 3, 1), (54, .invokevirtual 34, 3), (57, .ireturn, 1)] = true := by decide +kernel
theorem dX5_worthBy_33 : decode cX5_worthBy 33 = .ok (.ifCond .eq 25, 3) := lw_dr lw_d_cX5_worthBy_33 0 rfl
theorem dX5_worthBy_58 : decode cX5_worthBy 58 = .ok (.iinc 4 1, 3) := lw_dr lw_d_cX5_worthBy_33 1 rfl
theorem dX5_worthBy_61 : decode cX5_worthBy 61 = .ok (.goto (-58), 3) := lw_dr lw_d_cX5_worthBy_33 2 rfl
theorem dX5_worthBy_36 : decode cX5_worthBy 36 = .ok (.aload_n 0, 1) := lw_dr lw_d_cX5_worthBy_33 3 rfl
theorem dX5_worthBy_37 : decode cX5_worthBy 37 = .ok (.aload_n 0, 1) := lw_dr lw_d_cX5_worthBy_33 4 rfl
theorem dX5_worthBy_38 : decode cX5_worthBy 38 = .ok (.getfield 15, 3) := lw_dr lw_d_cX5_worthBy_33 5 rfl
theorem dX5_worthBy_41 : decode cX5_worthBy 41 = .ok (.iload 4, 2) := lw_dr lw_d_cX5_worthBy_33 6 rfl
theorem dX5_worthBy_43 : decode cX5_worthBy 43 = .ok (.iaload, 1) := lw_dr lw_d_cX5_worthBy_33 7 rfl
theorem dX5_worthBy_44 : decode cX5_worthBy 44 = .ok (.aload_n 0, 1) := lw_dr lw_d_cX5_worthBy_33 8 rfl
theorem dX5_worthBy_45 : decode cX5_worthBy 45 = .ok (.getfield 18, 3) := lw_dr lw_d_cX5_worthBy_33 9 rfl
theorem dX5_worthBy_48 : decode cX5_worthBy 48 = .ok (.iload 4, 2) := lw_dr lw_d_cX5_worthBy_33 10 rfl
theorem dX5_worthBy_50 : decode cX5_worthBy 50 = .ok (.iaload, 1) := lw_dr lw_d_cX5_worthBy_33 11 rfl
theorem dX5_worthBy_51 : decode cX5_worthBy 51 = .ok (.iload_n 1, 1) := lw_dr lw_d_cX5_worthBy_33 12 rfl
theorem dX5_worthBy_52 : decode cX5_worthBy 52 = .ok (.iload_n 2, 1) := lw_dr lw_d_cX5_worthBy_33 13 rfl
theorem dX5_worthBy_53 : decode cX5_worthBy 53 = .ok (.iload_n 3, 1) := lw_dr lw_d_cX5_worthBy_33 14 rfl
theorem dX5_worthBy_54 : decode cX5_worthBy 54 = .ok (.invokevirtual 34, 3) := lw_dr lw_d_cX5_worthBy_33 15 rfl
theorem dX5_worthBy_57 : decode cX5_worthBy 57 = .ok (.ireturn, 1) := lw_dr lw_d_cX5_worthBy_33 16 rfl
theorem lw_d_cX1_clear_0 : lw_dl cX1_clear [(0, .aload_n 0, 1), (1, .getfield 12, 3), (4, .invokevirtual 51, 3), (7, .aload_n 0, 1), (8, .getfield 21, 3), (11, .invokevirtual 54, 3), (14, .aload_n 0, 1), (15, .iconst 0, 1), (16, .putfield 29, 3), (19, .aload_n 0, 1), (20, .iconst 0, 1), (21, .putfield 33, 3), (24, .aload_n 0, 1), (25, .iconst 0, 1), (26, .putfield 36, 3), (29, .aload_n 0, 1), (30, .iconst 0, 1), (31, .putfield 39, 3), (34, .aload_n 0, 1), (35, .iconst 0, 1), (36, .putfield 42, 3), (39, .aload_n 0, 1), (40, .sipush 9999, 3), (43, .putfield 45, 3), (46, .aload_n 0, 1), (47, .iconst 0, 1), (48, .putfield 48, 3), (51, .return_, 1)] = true := by decide +kernel
theorem dX1_clear_0 : decode cX1_clear 0 = .ok (.aload_n 0, 1) := lw_dr lw_d_cX1_clear_0 0 rfl
theorem dX1_clear_1 : decode cX1_clear 1 = .ok (.getfield 12, 3) := lw_dr lw_d_cX1_clear_0 1 rfl
theorem dX1_clear_4 : decode cX1_clear 4 = .ok (.invokevirtual 51, 3) := lw_dr lw_d_cX1_clear_0 2 rfl
theorem dX1_clear_7 : decode cX1_clear 7 = .ok (.aload_n 0, 1) := lw_dr lw_d_cX1_clear_0 3 rfl
theorem dX1_clear_8 : decode cX1_clear 8 = .ok (.getfield 21, 3) := lw_dr lw_d_cX1_clear_0 4 rfl
theorem dX1_clear_11 : decode cX1_clear 11 = .ok (.invokevirtual 54, 3) := lw_dr lw_d_cX1_clear_0 5 rfl
theorem dX1_clear_14 : decode cX1_clear 14 = .ok (.aload_n 0, 1) := lw_dr lw_d_cX1_clear_0 6 rfl
theorem dX1_clear_15 : decode cX1_clear 15 = .ok (.iconst 0, 1) := lw_dr lw_d_cX1_clear_0 7 rfl
theorem dX1_clear_16 : decode cX1_clear 16 = .ok (.putfield 29, 3) := lw_dr lw_d_cX1_clear_0 8 rfl
theorem dX1_clear_19 : decode cX1_clear 19 = .ok (.aload_n 0, 1) := lw_dr lw_d_cX1_clear_0 9 rfl
theorem dX1_clear_20 : decode cX1_clear 20 = .ok (.iconst 0, 1) := lw_dr lw_d_cX1_clear_0 10 rfl
theorem dX1_clear_21 : decode cX1_clear 21 = .ok (.putfield 33, 3) := lw_dr lw_d_cX1_clear_0 11 rfl
theorem dX1_clear_24 : decode cX1_clear 24 = .ok (.aload_n 0, 1) := lw_dr lw_d_cX1_clear_0 12 rfl
theorem dX1_clear_25 : decode cX1_clear 25 = .ok (.iconst 0, 1) := lw_dr lw_d_cX1_clear_0 13 rfl
theorem dX1_clear_26 : decode cX1_clear 26 = .ok (.putfield 36, 3) := lw_dr lw_d_cX1_clear_0 14 rfl
theorem dX1_clear_29 : decode cX1_clear 29 = .ok (.aload_n 0, 1) := lw_dr lw_d_cX1_clear_0 15 rfl
theorem dX1_clear_30 : decode cX1_clear 30 = .ok (.iconst 0, 1) := lw_dr lw_d_cX1_clear_0 16 rfl
theorem dX1_clear_31 : decode cX1_clear 31 = .ok (.putfield 39, 3) := lw_dr lw_d_cX1_clear_0 17 rfl
theorem dX1_clear_34 : decode cX1_clear 34 = .ok (.aload_n 0, 1) := lw_dr lw_d_cX1_clear_0 18 rfl
theorem dX1_clear_35 : decode cX1_clear 35 = .ok (.iconst 0, 1) := lw_dr lw_d_cX1_clear_0 19 rfl
theorem dX1_clear_36 : decode cX1_clear 36 = .ok (.putfield 42, 3) := lw_dr lw_d_cX1_clear_0 20 rfl
theorem dX1_clear_39 : decode cX1_clear 39 = .ok (.aload_n 0, 1) := lw_dr lw_d_cX1_clear_0 21 rfl
theorem dX1_clear_40 : decode cX1_clear 40 = .ok (.sipush 9999, 3) := lw_dr lw_d_cX1_clear_0 22 rfl
theorem dX1_clear_43 : decode cX1_clear 43 = .ok (.putfield 45, 3) := lw_dr lw_d_cX1_clear_0 23 rfl
theorem dX1_clear_46 : decode cX1_clear 46 = .ok (.aload_n 0, 1) := lw_dr lw_d_cX1_clear_0 24 rfl
theorem dX1_clear_47 : decode cX1_clear 47 = .ok (.iconst 0, 1) := lw_dr lw_d_cX1_clear_0 25 rfl
theorem dX1_clear_48 : decode cX1_clear 48 = .ok (.putfield 48, 3) := lw_dr lw_d_cX1_clear_0 26 rfl
theorem dX1_clear_51 : decode cX1_clear 51 = .ok (.return_, 1) := lw_dr lw_d_cX1_clear_0 27 rfl
theorem lw_d_cX1_isLetter_0 : lw_dl cX1_isLetter [(0, .iload_n 1, 1), (1, .aload_n 0, 1), (2, .getfield 29, 3), (5, .ineg, 1), (6, .if_icmp .le 27, 3), (33, .iconst 0, 1), (34, .ireturn, 1), (9, .iload_n 1, 1), (10, .aload_n 0, 1), (11, .getfield 29, 3), (14, .if_icmp .ge 19, 3), (17, .iload_n 1, 1), (18, .aload_n 0, 1), (19, .getfield 29, 3), (22, .iadd, 1), (23, .iconst 1, 1), (24, .iand, 1), (25, .iconst 1, 1), (26, .if_icmp .ne 7, 3), (29, .iconst 1, 1), (30, .goto 4, 3)] = true := by decide +kernel
theorem dX1_isLetter_0 : decode cX1_isLetter 0 = .ok (.iload_n 1, 1) := lw_dr lw_d_cX1_isLetter_0 0 rfl
theorem dX1_isLetter_1 : decode cX1_isLetter 1 = .ok (.aload_n 0, 1) := lw_dr lw_d_cX1_isLetter_0 1 rfl
theorem dX1_isLetter_2 : decode cX1_isLetter 2 = .ok (.getfield 29, 3) := lw_dr lw_d_cX1_isLetter_0 2 rfl
theorem dX1_isLetter_5 : decode cX1_isLetter 5 = .ok (.ineg, 1) := lw_dr lw_d_cX1_isLetter_0 3 rfl
theorem dX1_isLetter_6 : decode cX1_isLetter 6 = .ok (.if_icmp .le 27, 3) := lw_dr lw_d_cX1_isLetter_0 4 rfl
theorem dX1_isLetter_33 : decode cX1_isLetter 33 = .ok (.iconst 0, 1) := lw_dr lw_d_cX1_isLetter_0 5 rfl
theorem dX1_isLetter_34 : decode cX1_isLetter 34 = .ok (.ireturn, 1) := lw_dr lw_d_cX1_isLetter_0 6 rfl
theorem dX1_isLetter_9 : decode cX1_isLetter 9 = .ok (.iload_n 1, 1) := lw_dr lw_d_cX1_isLetter_0 7 rfl
theorem dX1_isLetter_10 : decode cX1_isLetter 10 = .ok (.aload_n 0, 1) := lw_dr lw_d_cX1_isLetter_0 8 rfl
theorem dX1_isLetter_11 : decode cX1_isLetter 11 = .ok (.getfield 29, 3) := lw_dr lw_d_cX1_isLetter_0 9 rfl
theorem dX1_isLetter_14 : decode cX1_isLetter 14 = .ok (.if_icmp .ge 19, 3) := lw_dr lw_d_cX1_isLetter_0 10 rfl
theorem dX1_isLetter_17 : decode cX1_isLetter 17 = .ok (.iload_n 1, 1) := lw_dr lw_d_cX1_isLetter_0 11 rfl
theorem dX1_isLetter_18 : decode cX1_isLetter 18 = .ok (.aload_n 0, 1) := lw_dr lw_d_cX1_isLetter_0 12 rfl
theorem dX1_isLetter_19 : decode cX1_isLetter 19 = .ok (.getfield 29, 3) := lw_dr lw_d_cX1_isLetter_0 13 rfl
theorem dX1_isLetter_22 : decode cX1_isLetter 22 = .ok (.iadd, 1) := lw_dr lw_d_cX1_isLetter_0 14 rfl
theorem dX1_isLetter_23 : decode cX1_isLetter 23 = .ok (.iconst 1, 1) := lw_dr lw_d_cX1_isLetter_0 15 rfl
theorem dX1_isLetter_24 : decode cX1_isLetter 24 = .ok (.iand, 1) := lw_dr lw_d_cX1_isLetter_0 16 rfl
theorem dX1_isLetter_25 : decode cX1_isLetter 25 = .ok (.iconst 1, 1) := lw_dr lw_d_cX1_isLetter_0 17 rfl
theorem dX1_isLetter_26 : decode cX1_isLetter 26 = .ok (.if_icmp .ne 7, 3) := lw_dr lw_d_cX1_isLetter_0 18 rfl
theorem dX1_isLetter_29 : decode cX1_isLetter 29 = .ok (.iconst 1, 1) := lw_dr lw_d_cX1_isLetter_0 19 rfl
theorem dX1_isLetter_30 : decode cX1_isLetter 30 = .ok (.goto 4, 3) := lw_dr lw_d_cX1_isLetter_0 20 rfl
theorem lw_d_cX1_isReceiver_0 : lw_dl cX1_isReceiver [(0, .iload_n 1, 1), (1, .ifCond .lt 15, 3), (16, .iconst 0, 1), (17, .ireturn, 1), (4, .iload_n 1, 1), (5, .aload_n 0, 1), (6, .getfield 36, 3), (9, .if_icmp .ge 7, 3), (12, .iconst 1, 1), (13, .goto 4, 3)] = true := by decide +kernel
theorem dX1_isReceiver_0 : decode cX1_isReceiver 0 = .ok (.iload_n 1, 1) := lw_dr lw_d_cX1_isReceiver_0 0 rfl
theorem dX1_isReceiver_1 : decode cX1_isReceiver 1 = .ok (.ifCond .lt 15, 3) := lw_dr lw_d_cX1_isReceiver_0 1 rfl
theorem dX1_isReceiver_16 : decode cX1_isReceiver 16 = .ok (.iconst 0, 1) := lw_dr lw_d_cX1_isReceiver_0 2 rfl
theorem dX1_isReceiver_17 : decode cX1_isReceiver 17 = .ok (.ireturn, 1) := lw_dr lw_d_cX1_isReceiver_0 3 rfl
theorem dX1_isReceiver_4 : decode cX1_isReceiver 4 = .ok (.iload_n 1, 1) := lw_dr lw_d_cX1_isReceiver_0 4 rfl
theorem dX1_isReceiver_5 : decode cX1_isReceiver 5 = .ok (.aload_n 0, 1) := lw_dr lw_d_cX1_isReceiver_0 5 rfl
theorem dX1_isReceiver_6 : decode cX1_isReceiver 6 = .ok (.getfield 36, 3) := lw_dr lw_d_cX1_isReceiver_0 6 rfl
theorem dX1_isReceiver_9 : decode cX1_isReceiver 9 = .ok (.if_icmp .ge 7, 3) := lw_dr lw_d_cX1_isReceiver_0 7 rfl
theorem dX1_isReceiver_12 : decode cX1_isReceiver 12 = .ok (.iconst 1, 1) := lw_dr lw_d_cX1_isReceiver_0 8 rfl
theorem dX1_isReceiver_13 : decode cX1_isReceiver 13 = .ok (.goto 4, 3) := lw_dr lw_d_cX1_isReceiver_0 9 rfl
theorem lw_d_cX1_isSender_0 : lw_dl cX1_isSender [(0, .iload_n 1, 1), (1, .ifCond .lt 15, 3), (16, .iconst 0, 1), (17, .ireturn, 1), (4, .iload_n 1, 1), (5, .aload_n 0, 1), (6, .getfield 33, 3), (9, .if_icmp .ge 7, 3), (12, .iconst 1, 1), (13, .goto 4, 3)] = true := by decide +kernel
theorem dX1_isSender_0 : decode cX1_isSender 0 = .ok (.iload_n 1, 1) := lw_dr lw_d_cX1_isSender_0 0 rfl
theorem dX1_isSender_1 : decode cX1_isSender 1 = .ok (.ifCond .lt 15, 3) := lw_dr lw_d_cX1_isSender_0 1 rfl
theorem dX1_isSender_16 : decode cX1_isSender 16 = .ok (.iconst 0, 1) := lw_dr lw_d_cX1_isSender_0 2 rfl
theorem dX1_isSender_17 : decode cX1_isSender 17 = .ok (.ireturn, 1) := lw_dr lw_d_cX1_isSender_0 3 rfl
theorem dX1_isSender_4 : decode cX1_isSender 4 = .ok (.iload_n 1, 1) := lw_dr lw_d_cX1_isSender_0 4 rfl
theorem dX1_isSender_5 : decode cX1_isSender 5 = .ok (.aload_n 0, 1) := lw_dr lw_d_cX1_isSender_0 5 rfl
theorem dX1_isSender_6 : decode cX1_isSender 6 = .ok (.getfield 33, 3) := lw_dr lw_d_cX1_isSender_0 6 rfl
theorem dX1_isSender_9 : decode cX1_isSender 9 = .ok (.if_icmp .ge 7, 3) := lw_dr lw_d_cX1_isSender_0 7 rfl
theorem dX1_isSender_12 : decode cX1_isSender 12 = .ok (.iconst 1, 1) := lw_dr lw_d_cX1_isSender_0 8 rfl
theorem dX1_isSender_13 : decode cX1_isSender 13 = .ok (.goto 4, 3) := lw_dr lw_d_cX1_isSender_0 9 rfl
theorem lw_d_cX1_distanceOf_0 : lw_dl cX1_distanceOf [(0, .lconst 0, 1), (1, .lstore_n 3, 1), (2, .iconst 0, 1), (3, .istore 5, 2), (5, .iload 5, 2), (7, .aload_n 0, 1), (8, .getfield 36, 3), (11, .if_icmp .ge 39, 3), (50, .lload_n 3, 1), (51, .lreturn, 1), (14, .aload_n 2, 1), (15, .iload 5, 2), (17, .iaload, 1), (18, .aload_n 0, 1), (19, .getfield 12, 3), (22, .iload 5, 2), (24, .aload_n 1, 1), (25, .aload_n 0, 1), (26, .getfield 33, 3), (29, .invokevirtual 72, 3), (32, .isub, 1), (33, .i2l, 1), (34, .lstore 6, 2), (36, .lload_n 3, 1), (37, .lload 6, 2), (39, .lload 6, 2), (41, .lmul, 1), (42, .ladd, 1), (43, .lstore_n 3, 1), (44, .iinc 5 1, 3), (47, .goto (-42), 3)] = true := by decide +kernel
theorem dX1_distanceOf_0 : decode cX1_distanceOf 0 = .ok (.lconst 0, 1) := lw_dr lw_d_cX1_distanceOf_0 0 rfl
theorem dX1_distanceOf_1 : decode cX1_distanceOf 1 = .ok (.lstore_n 3, 1) := lw_dr lw_d_cX1_distanceOf_0 1 rfl
theorem dX1_distanceOf_2 : decode cX1_distanceOf 2 = .ok (.iconst 0, 1) := lw_dr lw_d_cX1_distanceOf_0 2 rfl
theorem dX1_distanceOf_3 : decode cX1_distanceOf 3 = .ok (.istore 5, 2) := lw_dr lw_d_cX1_distanceOf_0 3 rfl
theorem dX1_distanceOf_5 : decode cX1_distanceOf 5 = .ok (.iload 5, 2) := lw_dr lw_d_cX1_distanceOf_0 4 rfl
theorem dX1_distanceOf_7 : decode cX1_distanceOf 7 = .ok (.aload_n 0, 1) := lw_dr lw_d_cX1_distanceOf_0 5 rfl
theorem dX1_distanceOf_8 : decode cX1_distanceOf 8 = .ok (.getfield 36, 3) := lw_dr lw_d_cX1_distanceOf_0 6 rfl
theorem dX1_distanceOf_11 : decode cX1_distanceOf 11 = .ok (.if_icmp .ge 39, 3) := lw_dr lw_d_cX1_distanceOf_0 7 rfl
theorem dX1_distanceOf_50 : decode cX1_distanceOf 50 = .ok (.lload_n 3, 1) := lw_dr lw_d_cX1_distanceOf_0 8 rfl
theorem dX1_distanceOf_51 : decode cX1_distanceOf 51 = .ok (.lreturn, 1) := lw_dr lw_d_cX1_distanceOf_0 9 rfl
theorem dX1_distanceOf_14 : decode cX1_distanceOf 14 = .ok (.aload_n 2, 1) := lw_dr lw_d_cX1_distanceOf_0 10 rfl
theorem dX1_distanceOf_15 : decode cX1_distanceOf 15 = .ok (.iload 5, 2) := lw_dr lw_d_cX1_distanceOf_0 11 rfl
theorem dX1_distanceOf_17 : decode cX1_distanceOf 17 = .ok (.iaload, 1) := lw_dr lw_d_cX1_distanceOf_0 12 rfl
theorem dX1_distanceOf_18 : decode cX1_distanceOf 18 = .ok (.aload_n 0, 1) := lw_dr lw_d_cX1_distanceOf_0 13 rfl
theorem dX1_distanceOf_19 : decode cX1_distanceOf 19 = .ok (.getfield 12, 3) := lw_dr lw_d_cX1_distanceOf_0 14 rfl
theorem dX1_distanceOf_22 : decode cX1_distanceOf 22 = .ok (.iload 5, 2) := lw_dr lw_d_cX1_distanceOf_0 15 rfl
theorem dX1_distanceOf_24 : decode cX1_distanceOf 24 = .ok (.aload_n 1, 1) := lw_dr lw_d_cX1_distanceOf_0 16 rfl
theorem dX1_distanceOf_25 : decode cX1_distanceOf 25 = .ok (.aload_n 0, 1) := lw_dr lw_d_cX1_distanceOf_0 17 rfl
theorem dX1_distanceOf_26 : decode cX1_distanceOf 26 = .ok (.getfield 33, 3) := lw_dr lw_d_cX1_distanceOf_0 18 rfl
theorem dX1_distanceOf_29 : decode cX1_distanceOf 29 = .ok (.invokevirtual 72, 3) := lw_dr lw_d_cX1_distanceOf_0 19 rfl
theorem dX1_distanceOf_32 : decode cX1_distanceOf 32 = .ok (.isub, 1) := lw_dr lw_d_cX1_distanceOf_0 20 rfl
theorem dX1_distanceOf_33 : decode cX1_distanceOf 33 = .ok (.i2l, 1) := lw_dr lw_d_cX1_distanceOf_0 21 rfl
theorem dX1_distanceOf_34 : decode cX1_distanceOf 34 = .ok (.lstore 6, 2) := lw_dr lw_d_cX1_distanceOf_0 22 rfl
theorem dX1_distanceOf_36 : decode cX1_distanceOf 36 = .ok (.lload_n 3, 1) := lw_dr lw_d_cX1_distanceOf_0 23 rfl
theorem dX1_distanceOf_37 : decode cX1_distanceOf 37 = .ok (.lload 6, 2) := lw_dr lw_d_cX1_distanceOf_0 24 rfl
theorem dX1_distanceOf_39 : decode cX1_distanceOf 39 = .ok (.lload 6, 2) := lw_dr lw_d_cX1_distanceOf_0 25 rfl
theorem dX1_distanceOf_41 : decode cX1_distanceOf 41 = .ok (.lmul, 1) := lw_dr lw_d_cX1_distanceOf_0 26 rfl
theorem dX1_distanceOf_42 : decode cX1_distanceOf 42 = .ok (.ladd, 1) := lw_dr lw_d_cX1_distanceOf_0 27 rfl
theorem dX1_distanceOf_43 : decode cX1_distanceOf 43 = .ok (.lstore_n 3, 1) := lw_dr lw_d_cX1_distanceOf_0 28 rfl
theorem dX1_distanceOf_44 : decode cX1_distanceOf 44 = .ok (.iinc 5 1, 3) := lw_dr lw_d_cX1_distanceOf_0 29 rfl
theorem dX1_distanceOf_47 : decode cX1_distanceOf 47 = .ok (.goto (-42), 3) := lw_dr lw_d_cX1_distanceOf_0 30 rfl
theorem lw_d_cX1_letterInRow_0 : lw_dl cX1_letterInRow [(0, .aload_n 0, 1), (1, .aload_n 0, 1), (2, .iload_n 1, 1), (3, .iload_n 2, 1), (4, .invokevirtual 59, 3), (7, .invokevirtual 63, 3), (10, .ireturn, 1)] = true := by decide +kernel
theorem dX1_letterInRow_0 : decode cX1_letterInRow 0 = .ok (.aload_n 0, 1) := lw_dr lw_d_cX1_letterInRow_0 0 rfl
theorem dX1_letterInRow_1 : decode cX1_letterInRow 1 = .ok (.aload_n 0, 1) := lw_dr lw_d_cX1_letterInRow_0 1 rfl
theorem dX1_letterInRow_2 : decode cX1_letterInRow 2 = .ok (.iload_n 1, 1) := lw_dr lw_d_cX1_letterInRow_0 2 rfl
theorem dX1_letterInRow_3 : decode cX1_letterInRow 3 = .ok (.iload_n 2, 1) := lw_dr lw_d_cX1_letterInRow_0 3 rfl
theorem dX1_letterInRow_4 : decode cX1_letterInRow 4 = .ok (.invokevirtual 59, 3) := lw_dr lw_d_cX1_letterInRow_0 4 rfl
theorem dX1_letterInRow_7 : decode cX1_letterInRow 7 = .ok (.invokevirtual 63, 3) := lw_dr lw_d_cX1_letterInRow_0 5 rfl
theorem dX1_letterInRow_10 : decode cX1_letterInRow 10 = .ok (.ireturn, 1) := lw_dr lw_d_cX1_letterInRow_0 6 rfl
theorem lw_d_cX1_digitInRow_0 : lw_dl cX1_digitInRow [(0, .aload_n 0, 1), (1, .aload_n 0, 1), (2, .getfield 33, 3), (5, .iconst 1, 1), (6, .isub, 1), (7, .iload_n 2, 1), (8, .isub, 1), (9, .invokevirtual 55, 3), (12, .istore_n 3, 1), (13, .iload_n 3, 1), (14, .ifCond .eq 10, 3), (24, .iconst 0, 1), (25, .goto 11, 3), (36, .ireturn, 1), (17, .aload_n 0, 1), (18, .getfield 29, 3), (21, .ifCond .ne 7, 3), (28, .iload_n 1, 1), (29, .iload_n 3, 1), (30, .idiv, 1), (31, .aload_n 0, 1), (32, .getfield 29, 3), (35, .irem, 1)] = true := by decide +kernel
theorem dX1_digitInRow_0 : decode cX1_digitInRow 0 = .ok (.aload_n 0, 1) := lw_dr lw_d_cX1_digitInRow_0 0 rfl
theorem dX1_digitInRow_1 : decode cX1_digitInRow 1 = .ok (.aload_n 0, 1) := lw_dr lw_d_cX1_digitInRow_0 1 rfl
theorem dX1_digitInRow_2 : decode cX1_digitInRow 2 = .ok (.getfield 33, 3) := lw_dr lw_d_cX1_digitInRow_0 2 rfl
theorem dX1_digitInRow_5 : decode cX1_digitInRow 5 = .ok (.iconst 1, 1) := lw_dr lw_d_cX1_digitInRow_0 3 rfl
theorem dX1_digitInRow_6 : decode cX1_digitInRow 6 = .ok (.isub, 1) := lw_dr lw_d_cX1_digitInRow_0 4 rfl
theorem dX1_digitInRow_7 : decode cX1_digitInRow 7 = .ok (.iload_n 2, 1) := lw_dr lw_d_cX1_digitInRow_0 5 rfl
theorem dX1_digitInRow_8 : decode cX1_digitInRow 8 = .ok (.isub, 1) := lw_dr lw_d_cX1_digitInRow_0 6 rfl
theorem dX1_digitInRow_9 : decode cX1_digitInRow 9 = .ok (.invokevirtual 55, 3) := lw_dr lw_d_cX1_digitInRow_0 7 rfl
theorem dX1_digitInRow_12 : decode cX1_digitInRow 12 = .ok (.istore_n 3, 1) := lw_dr lw_d_cX1_digitInRow_0 8 rfl
theorem dX1_digitInRow_13 : decode cX1_digitInRow 13 = .ok (.iload_n 3, 1) := lw_dr lw_d_cX1_digitInRow_0 9 rfl
theorem dX1_digitInRow_14 : decode cX1_digitInRow 14 = .ok (.ifCond .eq 10, 3) := lw_dr lw_d_cX1_digitInRow_0 10 rfl
theorem dX1_digitInRow_24 : decode cX1_digitInRow 24 = .ok (.iconst 0, 1) := lw_dr lw_d_cX1_digitInRow_0 11 rfl
theorem dX1_digitInRow_25 : decode cX1_digitInRow 25 = .ok (.goto 11, 3) := lw_dr lw_d_cX1_digitInRow_0 12 rfl
theorem dX1_digitInRow_36 : decode cX1_digitInRow 36 = .ok (.ireturn, 1) := lw_dr lw_d_cX1_digitInRow_0 13 rfl
theorem dX1_digitInRow_17 : decode cX1_digitInRow 17 = .ok (.aload_n 0, 1) := lw_dr lw_d_cX1_digitInRow_0 14 rfl
theorem dX1_digitInRow_18 : decode cX1_digitInRow 18 = .ok (.getfield 29, 3) := lw_dr lw_d_cX1_digitInRow_0 15 rfl
theorem dX1_digitInRow_21 : decode cX1_digitInRow 21 = .ok (.ifCond .ne 7, 3) := lw_dr lw_d_cX1_digitInRow_0 16 rfl
theorem dX1_digitInRow_28 : decode cX1_digitInRow 28 = .ok (.iload_n 1, 1) := lw_dr lw_d_cX1_digitInRow_0 17 rfl
theorem dX1_digitInRow_29 : decode cX1_digitInRow 29 = .ok (.iload_n 3, 1) := lw_dr lw_d_cX1_digitInRow_0 18 rfl
theorem dX1_digitInRow_30 : decode cX1_digitInRow 30 = .ok (.idiv, 1) := lw_dr lw_d_cX1_digitInRow_0 19 rfl
theorem dX1_digitInRow_31 : decode cX1_digitInRow 31 = .ok (.aload_n 0, 1) := lw_dr lw_d_cX1_digitInRow_0 20 rfl
theorem dX1_digitInRow_32 : decode cX1_digitInRow 32 = .ok (.getfield 29, 3) := lw_dr lw_d_cX1_digitInRow_0 21 rfl
theorem dX1_digitInRow_35 : decode cX1_digitInRow 35 = .ok (.irem, 1) := lw_dr lw_d_cX1_digitInRow_0 22 rfl
theorem lw_d_cX1_rowsOf_0 : lw_dl cX1_rowsOf [(0, .iconst 1, 1), (1, .istore_n 2, 1), (2, .iconst 0, 1), (3, .istore_n 3, 1), (4, .iload_n 3, 1), (5, .iload_n 1, 1), (6, .if_icmp .ge 16, 3), (22, .iload_n 2, 1), (23, .ireturn, 1), (9, .iload_n 2, 1), (10, .aload_n 0, 1), (11, .getfield 29, 3), (14, .imul, 1), (15, .istore_n 2, 1), (16, .iinc 3 1, 3), (19, .goto (-15), 3)] = true := by decide +kernel
theorem dX1_rowsOf_0 : decode cX1_rowsOf 0 = .ok (.iconst 1, 1) := lw_dr lw_d_cX1_rowsOf_0 0 rfl
theorem dX1_rowsOf_1 : decode cX1_rowsOf 1 = .ok (.istore_n 2, 1) := lw_dr lw_d_cX1_rowsOf_0 1 rfl
theorem dX1_rowsOf_2 : decode cX1_rowsOf 2 = .ok (.iconst 0, 1) := lw_dr lw_d_cX1_rowsOf_0 2 rfl
theorem dX1_rowsOf_3 : decode cX1_rowsOf 3 = .ok (.istore_n 3, 1) := lw_dr lw_d_cX1_rowsOf_0 3 rfl
theorem dX1_rowsOf_4 : decode cX1_rowsOf 4 = .ok (.iload_n 3, 1) := lw_dr lw_d_cX1_rowsOf_0 4 rfl
theorem dX1_rowsOf_5 : decode cX1_rowsOf 5 = .ok (.iload_n 1, 1) := lw_dr lw_d_cX1_rowsOf_0 5 rfl
theorem dX1_rowsOf_6 : decode cX1_rowsOf 6 = .ok (.if_icmp .ge 16, 3) := lw_dr lw_d_cX1_rowsOf_0 6 rfl
theorem dX1_rowsOf_22 : decode cX1_rowsOf 22 = .ok (.iload_n 2, 1) := lw_dr lw_d_cX1_rowsOf_0 7 rfl
theorem dX1_rowsOf_23 : decode cX1_rowsOf 23 = .ok (.ireturn, 1) := lw_dr lw_d_cX1_rowsOf_0 8 rfl
theorem dX1_rowsOf_9 : decode cX1_rowsOf 9 = .ok (.iload_n 2, 1) := lw_dr lw_d_cX1_rowsOf_0 9 rfl
theorem dX1_rowsOf_10 : decode cX1_rowsOf 10 = .ok (.aload_n 0, 1) := lw_dr lw_d_cX1_rowsOf_0 10 rfl
theorem dX1_rowsOf_11 : decode cX1_rowsOf 11 = .ok (.getfield 29, 3) := lw_dr lw_d_cX1_rowsOf_0 11 rfl
theorem dX1_rowsOf_14 : decode cX1_rowsOf 14 = .ok (.imul, 1) := lw_dr lw_d_cX1_rowsOf_0 12 rfl
theorem dX1_rowsOf_15 : decode cX1_rowsOf 15 = .ok (.istore_n 2, 1) := lw_dr lw_d_cX1_rowsOf_0 13 rfl
theorem dX1_rowsOf_16 : decode cX1_rowsOf 16 = .ok (.iinc 3 1, 3) := lw_dr lw_d_cX1_rowsOf_0 14 rfl
theorem dX1_rowsOf_19 : decode cX1_rowsOf 19 = .ok (.goto (-15), 3) := lw_dr lw_d_cX1_rowsOf_0 15 rfl
theorem lw_d_cX1_letterOfDigit_0 : lw_dl cX1_letterOfDigit [(0, .iconst 2, 1), (1, .iload_n 1, 1), (2, .imul, 1), (3, .aload_n 0, 1), (4, .getfield 29, 3), (7, .iconst 1, 1), (8, .isub, 1), (9, .isub, 1), (10, .ireturn, 1)] = true := by decide +kernel
theorem dX1_letterOfDigit_0 : decode cX1_letterOfDigit 0 = .ok (.iconst 2, 1) := lw_dr lw_d_cX1_letterOfDigit_0 0 rfl
theorem dX1_letterOfDigit_1 : decode cX1_letterOfDigit 1 = .ok (.iload_n 1, 1) := lw_dr lw_d_cX1_letterOfDigit_0 1 rfl
theorem dX1_letterOfDigit_2 : decode cX1_letterOfDigit 2 = .ok (.imul, 1) := lw_dr lw_d_cX1_letterOfDigit_0 2 rfl
theorem dX1_letterOfDigit_3 : decode cX1_letterOfDigit 3 = .ok (.aload_n 0, 1) := lw_dr lw_d_cX1_letterOfDigit_0 3 rfl
theorem dX1_letterOfDigit_4 : decode cX1_letterOfDigit 4 = .ok (.getfield 29, 3) := lw_dr lw_d_cX1_letterOfDigit_0 4 rfl
theorem dX1_letterOfDigit_7 : decode cX1_letterOfDigit 7 = .ok (.iconst 1, 1) := lw_dr lw_d_cX1_letterOfDigit_0 5 rfl
theorem dX1_letterOfDigit_8 : decode cX1_letterOfDigit 8 = .ok (.isub, 1) := lw_dr lw_d_cX1_letterOfDigit_0 6 rfl
theorem dX1_letterOfDigit_9 : decode cX1_letterOfDigit 9 = .ok (.isub, 1) := lw_dr lw_d_cX1_letterOfDigit_0 7 rfl
theorem dX1_letterOfDigit_10 : decode cX1_letterOfDigit 10 = .ok (.ireturn, 1) := lw_dr lw_d_cX1_letterOfDigit_0 8 rfl
theorem lw_d_cX1_rowCount_0 : lw_dl cX1_rowCount [(0, .aload_n 0, 1), (1, .getfield 33, 3), (4, .ifCond .ne 7, 3), (11, .aload_n 0, 1), (12, .aload_n 0, 1), (13, .getfield 33, 3), (16, .invokevirtual 55, 3), (19, .ireturn, 1), (7, .iconst 0, 1), (8, .goto 11, 3)] = true := by decide +kernel
theorem dX1_rowCount_0 : decode cX1_rowCount 0 = .ok (.aload_n 0, 1) := lw_dr lw_d_cX1_rowCount_0 0 rfl
theorem dX1_rowCount_1 : decode cX1_rowCount 1 = .ok (.getfield 33, 3) := lw_dr lw_d_cX1_rowCount_0 1 rfl
theorem dX1_rowCount_4 : decode cX1_rowCount 4 = .ok (.ifCond .ne 7, 3) := lw_dr lw_d_cX1_rowCount_0 2 rfl
theorem dX1_rowCount_11 : decode cX1_rowCount 11 = .ok (.aload_n 0, 1) := lw_dr lw_d_cX1_rowCount_0 3 rfl
theorem dX1_rowCount_12 : decode cX1_rowCount 12 = .ok (.aload_n 0, 1) := lw_dr lw_d_cX1_rowCount_0 4 rfl
theorem dX1_rowCount_13 : decode cX1_rowCount 13 = .ok (.getfield 33, 3) := lw_dr lw_d_cX1_rowCount_0 5 rfl
theorem dX1_rowCount_16 : decode cX1_rowCount 16 = .ok (.invokevirtual 55, 3) := lw_dr lw_d_cX1_rowCount_0 6 rfl
theorem dX1_rowCount_19 : decode cX1_rowCount 19 = .ok (.ireturn, 1) := lw_dr lw_d_cX1_rowCount_0 7 rfl
theorem dX1_rowCount_7 : decode cX1_rowCount 7 = .ok (.iconst 0, 1) := lw_dr lw_d_cX1_rowCount_0 8 rfl
theorem dX1_rowCount_8 : decode cX1_rowCount 8 = .ok (.goto 11, 3) := lw_dr lw_d_cX1_rowCount_0 9 rfl
theorem lw_d_cX1_digitOfLetter_0 : lw_dl cX1_digitOfLetter [(0, .iload_n 1, 1), (1, .aload_n 0, 1), (2, .getfield 29, 3), (5, .iadd, 1), (6, .iconst 1, 1), (7, .isub, 1), (8, .iconst 2, 1), (9, .idiv, 1), (10, .ireturn, 1)] = true := by decide +kernel
theorem dX1_digitOfLetter_0 : decode cX1_digitOfLetter 0 = .ok (.iload_n 1, 1) := lw_dr lw_d_cX1_digitOfLetter_0 0 rfl
theorem dX1_digitOfLetter_1 : decode cX1_digitOfLetter 1 = .ok (.aload_n 0, 1) := lw_dr lw_d_cX1_digitOfLetter_0 1 rfl
theorem dX1_digitOfLetter_2 : decode cX1_digitOfLetter 2 = .ok (.getfield 29, 3) := lw_dr lw_d_cX1_digitOfLetter_0 2 rfl
theorem dX1_digitOfLetter_5 : decode cX1_digitOfLetter 5 = .ok (.iadd, 1) := lw_dr lw_d_cX1_digitOfLetter_0 3 rfl
theorem dX1_digitOfLetter_6 : decode cX1_digitOfLetter 6 = .ok (.iconst 1, 1) := lw_dr lw_d_cX1_digitOfLetter_0 4 rfl
theorem dX1_digitOfLetter_7 : decode cX1_digitOfLetter 7 = .ok (.isub, 1) := lw_dr lw_d_cX1_digitOfLetter_0 5 rfl
theorem dX1_digitOfLetter_8 : decode cX1_digitOfLetter 8 = .ok (.iconst 2, 1) := lw_dr lw_d_cX1_digitOfLetter_0 6 rfl
theorem dX1_digitOfLetter_9 : decode cX1_digitOfLetter 9 = .ok (.idiv, 1) := lw_dr lw_d_cX1_digitOfLetter_0 7 rfl
theorem dX1_digitOfLetter_10 : decode cX1_digitOfLetter 10 = .ok (.ireturn, 1) := lw_dr lw_d_cX1_digitOfLetter_0 8 rfl
theorem lw_d_cX1_isSenderSet_0 : lw_dl cX1_isSenderSet [(0, .iload_n 1, 1), (1, .ifCond .le 17, 3), (18, .iconst 0, 1), (19, .ireturn, 1), (4, .iload_n 1, 1), (5, .iconst 1, 1), (6, .aload_n 0, 1), (7, .getfield 33, 3), (10, .ishl, 1), (11, .if_icmp .ge 7, 3), (14, .iconst 1, 1), (15, .goto 4, 3)] = true := by decide +kernel
theorem dX1_isSenderSet_0 : decode cX1_isSenderSet 0 = .ok (.iload_n 1, 1) := lw_dr lw_d_cX1_isSenderSet_0 0 rfl
theorem dX1_isSenderSet_1 : decode cX1_isSenderSet 1 = .ok (.ifCond .le 17, 3) := lw_dr lw_d_cX1_isSenderSet_0 1 rfl
theorem dX1_isSenderSet_18 : decode cX1_isSenderSet 18 = .ok (.iconst 0, 1) := lw_dr lw_d_cX1_isSenderSet_0 2 rfl
theorem dX1_isSenderSet_19 : decode cX1_isSenderSet 19 = .ok (.ireturn, 1) := lw_dr lw_d_cX1_isSenderSet_0 3 rfl
theorem dX1_isSenderSet_4 : decode cX1_isSenderSet 4 = .ok (.iload_n 1, 1) := lw_dr lw_d_cX1_isSenderSet_0 4 rfl
theorem dX1_isSenderSet_5 : decode cX1_isSenderSet 5 = .ok (.iconst 1, 1) := lw_dr lw_d_cX1_isSenderSet_0 5 rfl
theorem dX1_isSenderSet_6 : decode cX1_isSenderSet 6 = .ok (.aload_n 0, 1) := lw_dr lw_d_cX1_isSenderSet_0 6 rfl
theorem dX1_isSenderSet_7 : decode cX1_isSenderSet 7 = .ok (.getfield 33, 3) := lw_dr lw_d_cX1_isSenderSet_0 7 rfl
theorem dX1_isSenderSet_10 : decode cX1_isSenderSet 10 = .ok (.ishl, 1) := lw_dr lw_d_cX1_isSenderSet_0 8 rfl
theorem dX1_isSenderSet_11 : decode cX1_isSenderSet 11 = .ok (.if_icmp .ge 7, 3) := lw_dr lw_d_cX1_isSenderSet_0 9 rfl
theorem dX1_isSenderSet_14 : decode cX1_isSenderSet 14 = .ok (.iconst 1, 1) := lw_dr lw_d_cX1_isSenderSet_0 10 rfl
theorem dX1_isSenderSet_15 : decode cX1_isSenderSet 15 = .ok (.goto 4, 3) := lw_dr lw_d_cX1_isSenderSet_0 11 rfl
theorem lw_d_cX1_isWord_0 : lw_dl cX1_isWord [(0, .iload_n 1, 1), (1, .ifCond .lt 15, 3), (16, .iconst 0, 1), (17, .ireturn, 1), (4, .iload_n 1, 1), (5, .aload_n 0, 1), (6, .getfield 42, 3), (9, .if_icmp .ge 7, 3), (12, .iconst 1, 1), (13, .goto 4, 3)] = true := by decide +kernel
theorem dX1_isWord_0 : decode cX1_isWord 0 = .ok (.iload_n 1, 1) := lw_dr lw_d_cX1_isWord_0 0 rfl
theorem dX1_isWord_1 : decode cX1_isWord 1 = .ok (.ifCond .lt 15, 3) := lw_dr lw_d_cX1_isWord_0 1 rfl
theorem dX1_isWord_16 : decode cX1_isWord 16 = .ok (.iconst 0, 1) := lw_dr lw_d_cX1_isWord_0 2 rfl
theorem dX1_isWord_17 : decode cX1_isWord 17 = .ok (.ireturn, 1) := lw_dr lw_d_cX1_isWord_0 3 rfl
theorem dX1_isWord_4 : decode cX1_isWord 4 = .ok (.iload_n 1, 1) := lw_dr lw_d_cX1_isWord_0 4 rfl
theorem dX1_isWord_5 : decode cX1_isWord 5 = .ok (.aload_n 0, 1) := lw_dr lw_d_cX1_isWord_0 5 rfl
theorem dX1_isWord_6 : decode cX1_isWord 6 = .ok (.getfield 42, 3) := lw_dr lw_d_cX1_isWord_0 6 rfl
theorem dX1_isWord_9 : decode cX1_isWord 9 = .ok (.if_icmp .ge 7, 3) := lw_dr lw_d_cX1_isWord_0 7 rfl
theorem dX1_isWord_12 : decode cX1_isWord 12 = .ok (.iconst 1, 1) := lw_dr lw_d_cX1_isWord_0 8 rfl
theorem dX1_isWord_13 : decode cX1_isWord 13 = .ok (.goto 4, 3) := lw_dr lw_d_cX1_isWord_0 9 rfl
theorem lw_d_cX1_letterOfWord_0 : lw_dl cX1_letterOfWord [(0, .aload_n 0, 1), (1, .getfield 25, 3), (4, .iload_n 1, 1), (5, .iconst 5, 1), (6, .imul, 1), (7, .iload_n 2, 1), (8, .iadd, 1), (9, .iaload, 1), (10, .ireturn, 1)] = true := by decide +kernel
theorem dX1_letterOfWord_0 : decode cX1_letterOfWord 0 = .ok (.aload_n 0, 1) := lw_dr lw_d_cX1_letterOfWord_0 0 rfl
theorem dX1_letterOfWord_1 : decode cX1_letterOfWord 1 = .ok (.getfield 25, 3) := lw_dr lw_d_cX1_letterOfWord_0 1 rfl
theorem dX1_letterOfWord_4 : decode cX1_letterOfWord 4 = .ok (.iload_n 1, 1) := lw_dr lw_d_cX1_letterOfWord_0 2 rfl
theorem dX1_letterOfWord_5 : decode cX1_letterOfWord 5 = .ok (.iconst 5, 1) := lw_dr lw_d_cX1_letterOfWord_0 3 rfl
theorem dX1_letterOfWord_6 : decode cX1_letterOfWord 6 = .ok (.imul, 1) := lw_dr lw_d_cX1_letterOfWord_0 4 rfl
theorem dX1_letterOfWord_7 : decode cX1_letterOfWord 7 = .ok (.iload_n 2, 1) := lw_dr lw_d_cX1_letterOfWord_0 5 rfl
theorem dX1_letterOfWord_8 : decode cX1_letterOfWord 8 = .ok (.iadd, 1) := lw_dr lw_d_cX1_letterOfWord_0 6 rfl
theorem dX1_letterOfWord_9 : decode cX1_letterOfWord 9 = .ok (.iaload, 1) := lw_dr lw_d_cX1_letterOfWord_0 7 rfl
theorem dX1_letterOfWord_10 : decode cX1_letterOfWord 10 = .ok (.ireturn, 1) := lw_dr lw_d_cX1_letterOfWord_0 8 rfl
theorem lw_d_cX1_mostPower_0 : lw_dl cX1_mostPower [(0, .iconst 0, 1), (1, .istore_n 1, 1), (2, .iconst 0, 1), (3, .istore_n 2, 1), (4, .iload_n 2, 1), (5, .aload_n 0, 1), (6, .getfield 42, 3), (9, .if_icmp .ge 53, 3), (62, .iload_n 1, 1), (63, .ireturn, 1), (12, .iconst 0, 1), (13, .istore_n 3, 1), (14, .iconst 0, 1), (15, .istore 4, 2), (17, .iload 4, 2), (19, .aload_n 0, 1), (20, .getfield 33, 3), (23, .if_icmp .ge 27, 3), (50, .iload_n 1, 1)] = true := by decide +kernel
theorem dX1_mostPower_0 : decode cX1_mostPower 0 = .ok (.iconst 0, 1) := lw_dr lw_d_cX1_mostPower_0 0 rfl
theorem dX1_mostPower_1 : decode cX1_mostPower 1 = .ok (.istore_n 1, 1) := lw_dr lw_d_cX1_mostPower_0 1 rfl
theorem dX1_mostPower_2 : decode cX1_mostPower 2 = .ok (.iconst 0, 1) := lw_dr lw_d_cX1_mostPower_0 2 rfl
theorem dX1_mostPower_3 : decode cX1_mostPower 3 = .ok (.istore_n 2, 1) := lw_dr lw_d_cX1_mostPower_0 3 rfl
theorem dX1_mostPower_4 : decode cX1_mostPower 4 = .ok (.iload_n 2, 1) := lw_dr lw_d_cX1_mostPower_0 4 rfl
theorem dX1_mostPower_5 : decode cX1_mostPower 5 = .ok (.aload_n 0, 1) := lw_dr lw_d_cX1_mostPower_0 5 rfl
theorem dX1_mostPower_6 : decode cX1_mostPower 6 = .ok (.getfield 42, 3) := lw_dr lw_d_cX1_mostPower_0 6 rfl
theorem dX1_mostPower_9 : decode cX1_mostPower 9 = .ok (.if_icmp .ge 53, 3) := lw_dr lw_d_cX1_mostPower_0 7 rfl
theorem dX1_mostPower_62 : decode cX1_mostPower 62 = .ok (.iload_n 1, 1) := lw_dr lw_d_cX1_mostPower_0 8 rfl
theorem dX1_mostPower_63 : decode cX1_mostPower 63 = .ok (.ireturn, 1) := lw_dr lw_d_cX1_mostPower_0 9 rfl
theorem dX1_mostPower_12 : decode cX1_mostPower 12 = .ok (.iconst 0, 1) := lw_dr lw_d_cX1_mostPower_0 10 rfl
theorem dX1_mostPower_13 : decode cX1_mostPower 13 = .ok (.istore_n 3, 1) := lw_dr lw_d_cX1_mostPower_0 11 rfl
theorem dX1_mostPower_14 : decode cX1_mostPower 14 = .ok (.iconst 0, 1) := lw_dr lw_d_cX1_mostPower_0 12 rfl
theorem dX1_mostPower_15 : decode cX1_mostPower 15 = .ok (.istore 4, 2) := lw_dr lw_d_cX1_mostPower_0 13 rfl
theorem dX1_mostPower_17 : decode cX1_mostPower 17 = .ok (.iload 4, 2) := lw_dr lw_d_cX1_mostPower_0 14 rfl
theorem dX1_mostPower_19 : decode cX1_mostPower 19 = .ok (.aload_n 0, 1) := lw_dr lw_d_cX1_mostPower_0 15 rfl
theorem dX1_mostPower_20 : decode cX1_mostPower 20 = .ok (.getfield 33, 3) := lw_dr lw_d_cX1_mostPower_0 16 rfl
theorem dX1_mostPower_23 : decode cX1_mostPower 23 = .ok (.if_icmp .ge 27, 3) := lw_dr lw_d_cX1_mostPower_0 17 rfl
theorem dX1_mostPower_50 : decode cX1_mostPower 50 = .ok (.iload_n 1, 1) := lw_dr lw_d_cX1_mostPower_0 18 rfl
theorem lw_d_cX1_mostPower_51 : lw_dl cX1_mostPower [(51, .iload_n 3, 1), (52, .invokestatic 76, 3), (55, .istore_n 1, 1), (56, .iinc 2 1, 3), (59, .goto (-55), 3), (26, .iload_n 3, 1), (27, .aload_n 0, 1), (28, .iload_n 2, 1), (29, .iload 4, 2), (31, .invokevirtual 69, 3), (34, .aload_n 0, 1), (35, .iload_n 2, 1), (36, .iload 4, 2), (38, .invokevirtual 69, 3), (41, .imul, 1), (42, .iadd, 1), (43, .istore_n 3, 1), (44, .iinc 4 1, 3), (47, .goto (-30), 3)] = true := by decide +kernel
theorem dX1_mostPower_51 : decode cX1_mostPower 51 = .ok (.iload_n 3, 1) := lw_dr lw_d_cX1_mostPower_51 0 rfl
theorem dX1_mostPower_52 : decode cX1_mostPower 52 = .ok (.invokestatic 76, 3) := lw_dr lw_d_cX1_mostPower_51 1 rfl
theorem dX1_mostPower_55 : decode cX1_mostPower 55 = .ok (.istore_n 1, 1) := lw_dr lw_d_cX1_mostPower_51 2 rfl
theorem dX1_mostPower_56 : decode cX1_mostPower 56 = .ok (.iinc 2 1, 3) := lw_dr lw_d_cX1_mostPower_51 3 rfl
theorem dX1_mostPower_59 : decode cX1_mostPower 59 = .ok (.goto (-55), 3) := lw_dr lw_d_cX1_mostPower_51 4 rfl
theorem dX1_mostPower_26 : decode cX1_mostPower 26 = .ok (.iload_n 3, 1) := lw_dr lw_d_cX1_mostPower_51 5 rfl
theorem dX1_mostPower_27 : decode cX1_mostPower 27 = .ok (.aload_n 0, 1) := lw_dr lw_d_cX1_mostPower_51 6 rfl
theorem dX1_mostPower_28 : decode cX1_mostPower 28 = .ok (.iload_n 2, 1) := lw_dr lw_d_cX1_mostPower_51 7 rfl
theorem dX1_mostPower_29 : decode cX1_mostPower 29 = .ok (.iload 4, 2) := lw_dr lw_d_cX1_mostPower_51 8 rfl
theorem dX1_mostPower_31 : decode cX1_mostPower 31 = .ok (.invokevirtual 69, 3) := lw_dr lw_d_cX1_mostPower_51 9 rfl
theorem dX1_mostPower_34 : decode cX1_mostPower 34 = .ok (.aload_n 0, 1) := lw_dr lw_d_cX1_mostPower_51 10 rfl
theorem dX1_mostPower_35 : decode cX1_mostPower 35 = .ok (.iload_n 2, 1) := lw_dr lw_d_cX1_mostPower_51 11 rfl
theorem dX1_mostPower_36 : decode cX1_mostPower 36 = .ok (.iload 4, 2) := lw_dr lw_d_cX1_mostPower_51 12 rfl
theorem dX1_mostPower_38 : decode cX1_mostPower 38 = .ok (.invokevirtual 69, 3) := lw_dr lw_d_cX1_mostPower_51 13 rfl
theorem dX1_mostPower_41 : decode cX1_mostPower 41 = .ok (.imul, 1) := lw_dr lw_d_cX1_mostPower_51 14 rfl
theorem dX1_mostPower_42 : decode cX1_mostPower 42 = .ok (.iadd, 1) := lw_dr lw_d_cX1_mostPower_51 15 rfl
theorem dX1_mostPower_43 : decode cX1_mostPower 43 = .ok (.istore_n 3, 1) := lw_dr lw_d_cX1_mostPower_51 16 rfl
theorem dX1_mostPower_44 : decode cX1_mostPower 44 = .ok (.iinc 4 1, 3) := lw_dr lw_d_cX1_mostPower_51 17 rfl
theorem dX1_mostPower_47 : decode cX1_mostPower 47 = .ok (.goto (-30), 3) := lw_dr lw_d_cX1_mostPower_51 18 rfl
theorem lw_d_cX1_copyWord_0 : lw_dl cX1_copyWord [(0, .iconst 0, 1), (1, .istore_n 3, 1), (2, .iload_n 3, 1), (3, .aload_n 0, 1), (4, .getfield 33, 3), (7, .if_icmp .ge 18, 3), (25, .return_, 1), (10, .aload_n 2, 1), (11, .iload_n 3, 1), (12, .aload_n 0, 1), (13, .iload_n 1, 1), (14, .iload_n 3, 1), (15, .invokevirtual 69, 3), (18, .iastore, 1), (19, .iinc 3 1, 3), (22, .goto (-20), 3)] = true := by decide +kernel
theorem dX1_copyWord_0 : decode cX1_copyWord 0 = .ok (.iconst 0, 1) := lw_dr lw_d_cX1_copyWord_0 0 rfl
theorem dX1_copyWord_1 : decode cX1_copyWord 1 = .ok (.istore_n 3, 1) := lw_dr lw_d_cX1_copyWord_0 1 rfl
theorem dX1_copyWord_2 : decode cX1_copyWord 2 = .ok (.iload_n 3, 1) := lw_dr lw_d_cX1_copyWord_0 2 rfl
theorem dX1_copyWord_3 : decode cX1_copyWord 3 = .ok (.aload_n 0, 1) := lw_dr lw_d_cX1_copyWord_0 3 rfl
theorem dX1_copyWord_4 : decode cX1_copyWord 4 = .ok (.getfield 33, 3) := lw_dr lw_d_cX1_copyWord_0 4 rfl
theorem dX1_copyWord_7 : decode cX1_copyWord 7 = .ok (.if_icmp .ge 18, 3) := lw_dr lw_d_cX1_copyWord_0 5 rfl
theorem dX1_copyWord_25 : decode cX1_copyWord 25 = .ok (.return_, 1) := lw_dr lw_d_cX1_copyWord_0 6 rfl
theorem dX1_copyWord_10 : decode cX1_copyWord 10 = .ok (.aload_n 2, 1) := lw_dr lw_d_cX1_copyWord_0 7 rfl
theorem dX1_copyWord_11 : decode cX1_copyWord 11 = .ok (.iload_n 3, 1) := lw_dr lw_d_cX1_copyWord_0 8 rfl
theorem dX1_copyWord_12 : decode cX1_copyWord 12 = .ok (.aload_n 0, 1) := lw_dr lw_d_cX1_copyWord_0 9 rfl
theorem dX1_copyWord_13 : decode cX1_copyWord 13 = .ok (.iload_n 1, 1) := lw_dr lw_d_cX1_copyWord_0 10 rfl
theorem dX1_copyWord_14 : decode cX1_copyWord 14 = .ok (.iload_n 3, 1) := lw_dr lw_d_cX1_copyWord_0 11 rfl
theorem dX1_copyWord_15 : decode cX1_copyWord 15 = .ok (.invokevirtual 69, 3) := lw_dr lw_d_cX1_copyWord_0 12 rfl
theorem dX1_copyWord_18 : decode cX1_copyWord 18 = .ok (.iastore, 1) := lw_dr lw_d_cX1_copyWord_0 13 rfl
theorem dX1_copyWord_19 : decode cX1_copyWord 19 = .ok (.iinc 3 1, 3) := lw_dr lw_d_cX1_copyWord_0 14 rfl
theorem dX1_copyWord_22 : decode cX1_copyWord 22 = .ok (.goto (-20), 3) := lw_dr lw_d_cX1_copyWord_0 15 rfl
theorem lw_d_cX1_rowOfLetters_0 : lw_dl cX1_rowOfLetters [(0, .iconst 0, 1), (1, .istore_n 2, 1), (2, .iconst 0, 1), (3, .istore_n 3, 1), (4, .iload_n 3, 1), (5, .aload_n 0, 1), (6, .getfield 33, 3), (9, .if_icmp .ge 24, 3), (33, .iload_n 2, 1), (34, .ireturn, 1), (12, .iload_n 2, 1), (13, .aload_n 0, 1), (14, .getfield 29, 3), (17, .imul, 1), (18, .aload_n 0, 1), (19, .aload_n 1, 1), (20, .iload_n 3, 1), (21, .iaload, 1), (22, .invokevirtual 66, 3), (25, .iadd, 1), (26, .istore_n 2, 1), (27, .iinc 3 1, 3), (30, .goto (-26), 3)] = true := by decide +kernel
theorem dX1_rowOfLetters_0 : decode cX1_rowOfLetters 0 = .ok (.iconst 0, 1) := lw_dr lw_d_cX1_rowOfLetters_0 0 rfl
theorem dX1_rowOfLetters_1 : decode cX1_rowOfLetters 1 = .ok (.istore_n 2, 1) := lw_dr lw_d_cX1_rowOfLetters_0 1 rfl
theorem dX1_rowOfLetters_2 : decode cX1_rowOfLetters 2 = .ok (.iconst 0, 1) := lw_dr lw_d_cX1_rowOfLetters_0 2 rfl
theorem dX1_rowOfLetters_3 : decode cX1_rowOfLetters 3 = .ok (.istore_n 3, 1) := lw_dr lw_d_cX1_rowOfLetters_0 3 rfl
theorem dX1_rowOfLetters_4 : decode cX1_rowOfLetters 4 = .ok (.iload_n 3, 1) := lw_dr lw_d_cX1_rowOfLetters_0 4 rfl
theorem dX1_rowOfLetters_5 : decode cX1_rowOfLetters 5 = .ok (.aload_n 0, 1) := lw_dr lw_d_cX1_rowOfLetters_0 5 rfl
theorem dX1_rowOfLetters_6 : decode cX1_rowOfLetters 6 = .ok (.getfield 33, 3) := lw_dr lw_d_cX1_rowOfLetters_0 6 rfl
theorem dX1_rowOfLetters_9 : decode cX1_rowOfLetters 9 = .ok (.if_icmp .ge 24, 3) := lw_dr lw_d_cX1_rowOfLetters_0 7 rfl
theorem dX1_rowOfLetters_33 : decode cX1_rowOfLetters 33 = .ok (.iload_n 2, 1) := lw_dr lw_d_cX1_rowOfLetters_0 8 rfl
theorem dX1_rowOfLetters_34 : decode cX1_rowOfLetters 34 = .ok (.ireturn, 1) := lw_dr lw_d_cX1_rowOfLetters_0 9 rfl
theorem dX1_rowOfLetters_12 : decode cX1_rowOfLetters 12 = .ok (.iload_n 2, 1) := lw_dr lw_d_cX1_rowOfLetters_0 10 rfl
theorem dX1_rowOfLetters_13 : decode cX1_rowOfLetters 13 = .ok (.aload_n 0, 1) := lw_dr lw_d_cX1_rowOfLetters_0 11 rfl
theorem dX1_rowOfLetters_14 : decode cX1_rowOfLetters 14 = .ok (.getfield 29, 3) := lw_dr lw_d_cX1_rowOfLetters_0 12 rfl
theorem dX1_rowOfLetters_17 : decode cX1_rowOfLetters 17 = .ok (.imul, 1) := lw_dr lw_d_cX1_rowOfLetters_0 13 rfl
theorem dX1_rowOfLetters_18 : decode cX1_rowOfLetters 18 = .ok (.aload_n 0, 1) := lw_dr lw_d_cX1_rowOfLetters_0 14 rfl
theorem dX1_rowOfLetters_19 : decode cX1_rowOfLetters 19 = .ok (.aload_n 1, 1) := lw_dr lw_d_cX1_rowOfLetters_0 15 rfl
theorem dX1_rowOfLetters_20 : decode cX1_rowOfLetters 20 = .ok (.iload_n 3, 1) := lw_dr lw_d_cX1_rowOfLetters_0 16 rfl
theorem dX1_rowOfLetters_21 : decode cX1_rowOfLetters 21 = .ok (.iaload, 1) := lw_dr lw_d_cX1_rowOfLetters_0 17 rfl
theorem dX1_rowOfLetters_22 : decode cX1_rowOfLetters 22 = .ok (.invokevirtual 66, 3) := lw_dr lw_d_cX1_rowOfLetters_0 18 rfl
theorem dX1_rowOfLetters_25 : decode cX1_rowOfLetters 25 = .ok (.iadd, 1) := lw_dr lw_d_cX1_rowOfLetters_0 19 rfl
theorem dX1_rowOfLetters_26 : decode cX1_rowOfLetters 26 = .ok (.istore_n 2, 1) := lw_dr lw_d_cX1_rowOfLetters_0 20 rfl
theorem dX1_rowOfLetters_27 : decode cX1_rowOfLetters 27 = .ok (.iinc 3 1, 3) := lw_dr lw_d_cX1_rowOfLetters_0 21 rfl
theorem dX1_rowOfLetters_30 : decode cX1_rowOfLetters 30 = .ok (.goto (-26), 3) := lw_dr lw_d_cX1_rowOfLetters_0 22 rfl
theorem lw_d_cX1_worthOf_0 : lw_dl cX1_worthOf [(0, .aload_n 0, 1), (1, .getfield 21, 3), (4, .iload_n 1, 1), (5, .aload_n 0, 1), (6, .getfield 12, 3), (9, .iload_n 1, 1), (10, .iload_n 1, 1), (11, .invokevirtual 81, 3), (14, .aload_n 0, 1), (15, .getfield 12, 3), (18, .iload_n 1, 1), (19, .invokevirtual 84, 3), (22, .invokevirtual 87, 3), (25, .ireturn, 1)] = true := by decide +kernel
theorem dX1_worthOf_0 : decode cX1_worthOf 0 = .ok (.aload_n 0, 1) := lw_dr lw_d_cX1_worthOf_0 0 rfl
theorem dX1_worthOf_1 : decode cX1_worthOf 1 = .ok (.getfield 21, 3) := lw_dr lw_d_cX1_worthOf_0 1 rfl
theorem dX1_worthOf_4 : decode cX1_worthOf 4 = .ok (.iload_n 1, 1) := lw_dr lw_d_cX1_worthOf_0 2 rfl
theorem dX1_worthOf_5 : decode cX1_worthOf 5 = .ok (.aload_n 0, 1) := lw_dr lw_d_cX1_worthOf_0 3 rfl
theorem dX1_worthOf_6 : decode cX1_worthOf 6 = .ok (.getfield 12, 3) := lw_dr lw_d_cX1_worthOf_0 4 rfl
theorem dX1_worthOf_9 : decode cX1_worthOf 9 = .ok (.iload_n 1, 1) := lw_dr lw_d_cX1_worthOf_0 5 rfl
theorem dX1_worthOf_10 : decode cX1_worthOf 10 = .ok (.iload_n 1, 1) := lw_dr lw_d_cX1_worthOf_0 6 rfl
theorem dX1_worthOf_11 : decode cX1_worthOf 11 = .ok (.invokevirtual 81, 3) := lw_dr lw_d_cX1_worthOf_0 7 rfl
theorem dX1_worthOf_14 : decode cX1_worthOf 14 = .ok (.aload_n 0, 1) := lw_dr lw_d_cX1_worthOf_0 8 rfl
theorem dX1_worthOf_15 : decode cX1_worthOf 15 = .ok (.getfield 12, 3) := lw_dr lw_d_cX1_worthOf_0 9 rfl
theorem dX1_worthOf_18 : decode cX1_worthOf 18 = .ok (.iload_n 1, 1) := lw_dr lw_d_cX1_worthOf_0 10 rfl
theorem dX1_worthOf_19 : decode cX1_worthOf 19 = .ok (.invokevirtual 84, 3) := lw_dr lw_d_cX1_worthOf_0 11 rfl
theorem dX1_worthOf_22 : decode cX1_worthOf 22 = .ok (.invokevirtual 87, 3) := lw_dr lw_d_cX1_worthOf_0 12 rfl
theorem dX1_worthOf_25 : decode cX1_worthOf 25 = .ok (.ireturn, 1) := lw_dr lw_d_cX1_worthOf_0 13 rfl
theorem lw_d_cX10_start_0 : lw_dl cX10_start [(0, .aload_n 0, 1), (1, .iconst 0, 1), (2, .aload_n 1, 1), (3, .getfield 38, 3), (6, .iconst 1, 1), (7, .isub, 1), (8, .invokestatic 43, 3), (11, .putfield 34, 3), (14, .iconst 0, 1), (15, .istore_n 2, 1), (16, .iload_n 2, 1), (17, .aload_n 0, 1), (18, .getfield 34, 3), (21, .if_icmp .gt 52, 3), (24, .iconst 0, 1), (25, .istore_n 3, 1), (26, .iload_n 3, 1), (27, .aload_n 0, 1), (28, .getfield 34, 3), (31, .if_icmp .gt 29, 3), (34, .aload_n 0, 1), (35, .getfield 9, 3), (38, .iload_n 2, 1), (39, .iconst 5, 1), (40, .imul, 1), (41, .iload_n 3, 1), (42, .iadd, 1), (43, .aload_n 1, 1), (44, .getfield 49, 3), (47, .iload_n 2, 1), (48, .iload_n 3, 1), (49, .invokevirtual 53, 3), (52, .i2l, 1), (53, .lastore, 1), (54, .iinc 3 1, 3), (57, .goto (-31), 3), (60, .aload_n 0, 1), (61, .getfield 18, 3), (64, .iload_n 2, 1), (65, .lconst 0, 1)] = true := by decide +kernel
theorem dX10_start_0 : decode cX10_start 0 = .ok (.aload_n 0, 1) := lw_dr lw_d_cX10_start_0 0 rfl
theorem dX10_start_1 : decode cX10_start 1 = .ok (.iconst 0, 1) := lw_dr lw_d_cX10_start_0 1 rfl
theorem dX10_start_2 : decode cX10_start 2 = .ok (.aload_n 1, 1) := lw_dr lw_d_cX10_start_0 2 rfl
theorem dX10_start_3 : decode cX10_start 3 = .ok (.getfield 38, 3) := lw_dr lw_d_cX10_start_0 3 rfl
theorem dX10_start_6 : decode cX10_start 6 = .ok (.iconst 1, 1) := lw_dr lw_d_cX10_start_0 4 rfl
theorem dX10_start_7 : decode cX10_start 7 = .ok (.isub, 1) := lw_dr lw_d_cX10_start_0 5 rfl
theorem dX10_start_8 : decode cX10_start 8 = .ok (.invokestatic 43, 3) := lw_dr lw_d_cX10_start_0 6 rfl
theorem dX10_start_11 : decode cX10_start 11 = .ok (.putfield 34, 3) := lw_dr lw_d_cX10_start_0 7 rfl
theorem dX10_start_14 : decode cX10_start 14 = .ok (.iconst 0, 1) := lw_dr lw_d_cX10_start_0 8 rfl
theorem dX10_start_15 : decode cX10_start 15 = .ok (.istore_n 2, 1) := lw_dr lw_d_cX10_start_0 9 rfl
theorem dX10_start_16 : decode cX10_start 16 = .ok (.iload_n 2, 1) := lw_dr lw_d_cX10_start_0 10 rfl
theorem dX10_start_17 : decode cX10_start 17 = .ok (.aload_n 0, 1) := lw_dr lw_d_cX10_start_0 11 rfl
theorem dX10_start_18 : decode cX10_start 18 = .ok (.getfield 34, 3) := lw_dr lw_d_cX10_start_0 12 rfl
theorem dX10_start_21 : decode cX10_start 21 = .ok (.if_icmp .gt 52, 3) := lw_dr lw_d_cX10_start_0 13 rfl
theorem dX10_start_24 : decode cX10_start 24 = .ok (.iconst 0, 1) := lw_dr lw_d_cX10_start_0 14 rfl
theorem dX10_start_25 : decode cX10_start 25 = .ok (.istore_n 3, 1) := lw_dr lw_d_cX10_start_0 15 rfl
theorem dX10_start_26 : decode cX10_start 26 = .ok (.iload_n 3, 1) := lw_dr lw_d_cX10_start_0 16 rfl
theorem dX10_start_27 : decode cX10_start 27 = .ok (.aload_n 0, 1) := lw_dr lw_d_cX10_start_0 17 rfl
theorem dX10_start_28 : decode cX10_start 28 = .ok (.getfield 34, 3) := lw_dr lw_d_cX10_start_0 18 rfl
theorem dX10_start_31 : decode cX10_start 31 = .ok (.if_icmp .gt 29, 3) := lw_dr lw_d_cX10_start_0 19 rfl
theorem dX10_start_34 : decode cX10_start 34 = .ok (.aload_n 0, 1) := lw_dr lw_d_cX10_start_0 20 rfl
theorem dX10_start_35 : decode cX10_start 35 = .ok (.getfield 9, 3) := lw_dr lw_d_cX10_start_0 21 rfl
theorem dX10_start_38 : decode cX10_start 38 = .ok (.iload_n 2, 1) := lw_dr lw_d_cX10_start_0 22 rfl
theorem dX10_start_39 : decode cX10_start 39 = .ok (.iconst 5, 1) := lw_dr lw_d_cX10_start_0 23 rfl
theorem dX10_start_40 : decode cX10_start 40 = .ok (.imul, 1) := lw_dr lw_d_cX10_start_0 24 rfl
theorem dX10_start_41 : decode cX10_start 41 = .ok (.iload_n 3, 1) := lw_dr lw_d_cX10_start_0 25 rfl
theorem dX10_start_42 : decode cX10_start 42 = .ok (.iadd, 1) := lw_dr lw_d_cX10_start_0 26 rfl
theorem dX10_start_43 : decode cX10_start 43 = .ok (.aload_n 1, 1) := lw_dr lw_d_cX10_start_0 27 rfl
theorem dX10_start_44 : decode cX10_start 44 = .ok (.getfield 49, 3) := lw_dr lw_d_cX10_start_0 28 rfl
theorem dX10_start_47 : decode cX10_start 47 = .ok (.iload_n 2, 1) := lw_dr lw_d_cX10_start_0 29 rfl
theorem dX10_start_48 : decode cX10_start 48 = .ok (.iload_n 3, 1) := lw_dr lw_d_cX10_start_0 30 rfl
theorem dX10_start_49 : decode cX10_start 49 = .ok (.invokevirtual 53, 3) := lw_dr lw_d_cX10_start_0 31 rfl
theorem dX10_start_52 : decode cX10_start 52 = .ok (.i2l, 1) := lw_dr lw_d_cX10_start_0 32 rfl
theorem dX10_start_53 : decode cX10_start 53 = .ok (.lastore, 1) := lw_dr lw_d_cX10_start_0 33 rfl
theorem dX10_start_54 : decode cX10_start 54 = .ok (.iinc 3 1, 3) := lw_dr lw_d_cX10_start_0 34 rfl
theorem dX10_start_57 : decode cX10_start 57 = .ok (.goto (-31), 3) := lw_dr lw_d_cX10_start_0 35 rfl
theorem dX10_start_60 : decode cX10_start 60 = .ok (.aload_n 0, 1) := lw_dr lw_d_cX10_start_0 36 rfl
theorem dX10_start_61 : decode cX10_start 61 = .ok (.getfield 18, 3) := lw_dr lw_d_cX10_start_0 37 rfl
theorem dX10_start_64 : decode cX10_start 64 = .ok (.iload_n 2, 1) := lw_dr lw_d_cX10_start_0 38 rfl
theorem dX10_start_65 : decode cX10_start 65 = .ok (.lconst 0, 1) := lw_dr lw_d_cX10_start_0 39 rfl
theorem lw_d_cX10_start_66 : lw_dl cX10_start [(66, .lastore, 1), (67, .iinc 2 1, 3), (70, .goto (-54), 3), (73, .aload_n 0, 1), (74, .getfield 15, 3), (77, .iconst 0, 1), (78, .lconst 0, 1), (79, .lastore, 1), (80, .return_, 1)] = true := by decide +kernel
theorem dX10_start_66 : decode cX10_start 66 = .ok (.lastore, 1) := lw_dr lw_d_cX10_start_66 0 rfl
theorem dX10_start_67 : decode cX10_start 67 = .ok (.iinc 2 1, 3) := lw_dr lw_d_cX10_start_66 1 rfl
theorem dX10_start_70 : decode cX10_start 70 = .ok (.goto (-54), 3) := lw_dr lw_d_cX10_start_66 2 rfl
theorem dX10_start_73 : decode cX10_start 73 = .ok (.aload_n 0, 1) := lw_dr lw_d_cX10_start_66 3 rfl
theorem dX10_start_74 : decode cX10_start 74 = .ok (.getfield 15, 3) := lw_dr lw_d_cX10_start_66 4 rfl
theorem dX10_start_77 : decode cX10_start 77 = .ok (.iconst 0, 1) := lw_dr lw_d_cX10_start_66 5 rfl
theorem dX10_start_78 : decode cX10_start 78 = .ok (.lconst 0, 1) := lw_dr lw_d_cX10_start_66 6 rfl
theorem dX10_start_79 : decode cX10_start 79 = .ok (.lastore, 1) := lw_dr lw_d_cX10_start_66 7 rfl
theorem dX10_start_80 : decode cX10_start 80 = .ok (.return_, 1) := lw_dr lw_d_cX10_start_66 8 rfl
theorem lw_d_cX10_aimAt_0 : lw_dl cX10_aimAt [(0, .lconst 0, 1), (1, .lstore_n 3, 1), (2, .iconst 0, 1), (3, .istore 5, 2), (5, .iload 5, 2), (7, .aload_n 1, 1), (8, .getfield 58, 3), (11, .if_icmp .ge 23, 3), (34, .aload_n 0, 1), (35, .getfield 15, 3), (38, .iconst 0, 1), (39, .lload_n 3, 1), (40, .lastore, 1), (41, .iconst 0, 1), (42, .istore 5, 2), (44, .iload 5, 2), (46, .aload_n 0, 1), (47, .getfield 34, 3), (50, .if_icmp .gt 62, 3), (53, .lconst 0, 1), (54, .lstore 6, 2), (56, .iconst 0, 1), (57, .istore 8, 2), (59, .iload 8, 2), (61, .aload_n 1, 1), (62, .getfield 58, 3), (65, .if_icmp .ge 32, 3), (97, .aload_n 0, 1), (98, .getfield 18, 3), (101, .iload 5, 2), (103, .lload 6, 2), (105, .lastore, 1), (106, .iinc 5 1, 3), (109, .goto (-65), 3), (112, .return_, 1), (14, .lload_n 3, 1), (15, .aload_n 2, 1), (16, .iload 5, 2), (18, .iaload, 1), (19, .i2l, 1)] = true := by decide +kernel
theorem dX10_aimAt_0 : decode cX10_aimAt 0 = .ok (.lconst 0, 1) := lw_dr lw_d_cX10_aimAt_0 0 rfl
theorem dX10_aimAt_1 : decode cX10_aimAt 1 = .ok (.lstore_n 3, 1) := lw_dr lw_d_cX10_aimAt_0 1 rfl
theorem dX10_aimAt_2 : decode cX10_aimAt 2 = .ok (.iconst 0, 1) := lw_dr lw_d_cX10_aimAt_0 2 rfl
theorem dX10_aimAt_3 : decode cX10_aimAt 3 = .ok (.istore 5, 2) := lw_dr lw_d_cX10_aimAt_0 3 rfl
theorem dX10_aimAt_5 : decode cX10_aimAt 5 = .ok (.iload 5, 2) := lw_dr lw_d_cX10_aimAt_0 4 rfl
theorem dX10_aimAt_7 : decode cX10_aimAt 7 = .ok (.aload_n 1, 1) := lw_dr lw_d_cX10_aimAt_0 5 rfl
theorem dX10_aimAt_8 : decode cX10_aimAt 8 = .ok (.getfield 58, 3) := lw_dr lw_d_cX10_aimAt_0 6 rfl
theorem dX10_aimAt_11 : decode cX10_aimAt 11 = .ok (.if_icmp .ge 23, 3) := lw_dr lw_d_cX10_aimAt_0 7 rfl
theorem dX10_aimAt_34 : decode cX10_aimAt 34 = .ok (.aload_n 0, 1) := lw_dr lw_d_cX10_aimAt_0 8 rfl
theorem dX10_aimAt_35 : decode cX10_aimAt 35 = .ok (.getfield 15, 3) := lw_dr lw_d_cX10_aimAt_0 9 rfl
theorem dX10_aimAt_38 : decode cX10_aimAt 38 = .ok (.iconst 0, 1) := lw_dr lw_d_cX10_aimAt_0 10 rfl
theorem dX10_aimAt_39 : decode cX10_aimAt 39 = .ok (.lload_n 3, 1) := lw_dr lw_d_cX10_aimAt_0 11 rfl
theorem dX10_aimAt_40 : decode cX10_aimAt 40 = .ok (.lastore, 1) := lw_dr lw_d_cX10_aimAt_0 12 rfl
theorem dX10_aimAt_41 : decode cX10_aimAt 41 = .ok (.iconst 0, 1) := lw_dr lw_d_cX10_aimAt_0 13 rfl
theorem dX10_aimAt_42 : decode cX10_aimAt 42 = .ok (.istore 5, 2) := lw_dr lw_d_cX10_aimAt_0 14 rfl
theorem dX10_aimAt_44 : decode cX10_aimAt 44 = .ok (.iload 5, 2) := lw_dr lw_d_cX10_aimAt_0 15 rfl
theorem dX10_aimAt_46 : decode cX10_aimAt 46 = .ok (.aload_n 0, 1) := lw_dr lw_d_cX10_aimAt_0 16 rfl
theorem dX10_aimAt_47 : decode cX10_aimAt 47 = .ok (.getfield 34, 3) := lw_dr lw_d_cX10_aimAt_0 17 rfl
theorem dX10_aimAt_50 : decode cX10_aimAt 50 = .ok (.if_icmp .gt 62, 3) := lw_dr lw_d_cX10_aimAt_0 18 rfl
theorem dX10_aimAt_53 : decode cX10_aimAt 53 = .ok (.lconst 0, 1) := lw_dr lw_d_cX10_aimAt_0 19 rfl
theorem dX10_aimAt_54 : decode cX10_aimAt 54 = .ok (.lstore 6, 2) := lw_dr lw_d_cX10_aimAt_0 20 rfl
theorem dX10_aimAt_56 : decode cX10_aimAt 56 = .ok (.iconst 0, 1) := lw_dr lw_d_cX10_aimAt_0 21 rfl
theorem dX10_aimAt_57 : decode cX10_aimAt 57 = .ok (.istore 8, 2) := lw_dr lw_d_cX10_aimAt_0 22 rfl
theorem dX10_aimAt_59 : decode cX10_aimAt 59 = .ok (.iload 8, 2) := lw_dr lw_d_cX10_aimAt_0 23 rfl
theorem dX10_aimAt_61 : decode cX10_aimAt 61 = .ok (.aload_n 1, 1) := lw_dr lw_d_cX10_aimAt_0 24 rfl
theorem dX10_aimAt_62 : decode cX10_aimAt 62 = .ok (.getfield 58, 3) := lw_dr lw_d_cX10_aimAt_0 25 rfl
theorem dX10_aimAt_65 : decode cX10_aimAt 65 = .ok (.if_icmp .ge 32, 3) := lw_dr lw_d_cX10_aimAt_0 26 rfl
theorem dX10_aimAt_97 : decode cX10_aimAt 97 = .ok (.aload_n 0, 1) := lw_dr lw_d_cX10_aimAt_0 27 rfl
theorem dX10_aimAt_98 : decode cX10_aimAt 98 = .ok (.getfield 18, 3) := lw_dr lw_d_cX10_aimAt_0 28 rfl
theorem dX10_aimAt_101 : decode cX10_aimAt 101 = .ok (.iload 5, 2) := lw_dr lw_d_cX10_aimAt_0 29 rfl
theorem dX10_aimAt_103 : decode cX10_aimAt 103 = .ok (.lload 6, 2) := lw_dr lw_d_cX10_aimAt_0 30 rfl
theorem dX10_aimAt_105 : decode cX10_aimAt 105 = .ok (.lastore, 1) := lw_dr lw_d_cX10_aimAt_0 31 rfl
theorem dX10_aimAt_106 : decode cX10_aimAt 106 = .ok (.iinc 5 1, 3) := lw_dr lw_d_cX10_aimAt_0 32 rfl
theorem dX10_aimAt_109 : decode cX10_aimAt 109 = .ok (.goto (-65), 3) := lw_dr lw_d_cX10_aimAt_0 33 rfl
theorem dX10_aimAt_112 : decode cX10_aimAt 112 = .ok (.return_, 1) := lw_dr lw_d_cX10_aimAt_0 34 rfl
theorem dX10_aimAt_14 : decode cX10_aimAt 14 = .ok (.lload_n 3, 1) := lw_dr lw_d_cX10_aimAt_0 35 rfl
theorem dX10_aimAt_15 : decode cX10_aimAt 15 = .ok (.aload_n 2, 1) := lw_dr lw_d_cX10_aimAt_0 36 rfl
theorem dX10_aimAt_16 : decode cX10_aimAt 16 = .ok (.iload 5, 2) := lw_dr lw_d_cX10_aimAt_0 37 rfl
theorem dX10_aimAt_18 : decode cX10_aimAt 18 = .ok (.iaload, 1) := lw_dr lw_d_cX10_aimAt_0 38 rfl
theorem dX10_aimAt_19 : decode cX10_aimAt 19 = .ok (.i2l, 1) := lw_dr lw_d_cX10_aimAt_0 39 rfl
theorem lw_d_cX10_aimAt_20 : lw_dl cX10_aimAt [(20, .aload_n 2, 1), (21, .iload 5, 2), (23, .iaload, 1), (24, .i2l, 1), (25, .lmul, 1), (26, .ladd, 1), (27, .lstore_n 3, 1), (28, .iinc 5 1, 3), (31, .goto (-26), 3), (68, .lload 6, 2), (70, .aload_n 2, 1), (71, .iload 8, 2), (73, .iaload, 1), (74, .i2l, 1), (75, .aload_n 1, 1), (76, .getfield 49, 3), (79, .iload 8, 2), (81, .iload 5, 2), (83, .invokevirtual 61, 3), (86, .i2l, 1), (87, .lmul, 1), (88, .ladd, 1), (89, .lstore 6, 2), (91, .iinc 8 1, 3), (94, .goto (-35), 3)] = true := by decide +kernel
theorem dX10_aimAt_20 : decode cX10_aimAt 20 = .ok (.aload_n 2, 1) := lw_dr lw_d_cX10_aimAt_20 0 rfl
theorem dX10_aimAt_21 : decode cX10_aimAt 21 = .ok (.iload 5, 2) := lw_dr lw_d_cX10_aimAt_20 1 rfl
theorem dX10_aimAt_23 : decode cX10_aimAt 23 = .ok (.iaload, 1) := lw_dr lw_d_cX10_aimAt_20 2 rfl
theorem dX10_aimAt_24 : decode cX10_aimAt 24 = .ok (.i2l, 1) := lw_dr lw_d_cX10_aimAt_20 3 rfl
theorem dX10_aimAt_25 : decode cX10_aimAt 25 = .ok (.lmul, 1) := lw_dr lw_d_cX10_aimAt_20 4 rfl
theorem dX10_aimAt_26 : decode cX10_aimAt 26 = .ok (.ladd, 1) := lw_dr lw_d_cX10_aimAt_20 5 rfl
theorem dX10_aimAt_27 : decode cX10_aimAt 27 = .ok (.lstore_n 3, 1) := lw_dr lw_d_cX10_aimAt_20 6 rfl
theorem dX10_aimAt_28 : decode cX10_aimAt 28 = .ok (.iinc 5 1, 3) := lw_dr lw_d_cX10_aimAt_20 7 rfl
theorem dX10_aimAt_31 : decode cX10_aimAt 31 = .ok (.goto (-26), 3) := lw_dr lw_d_cX10_aimAt_20 8 rfl
theorem dX10_aimAt_68 : decode cX10_aimAt 68 = .ok (.lload 6, 2) := lw_dr lw_d_cX10_aimAt_20 9 rfl
theorem dX10_aimAt_70 : decode cX10_aimAt 70 = .ok (.aload_n 2, 1) := lw_dr lw_d_cX10_aimAt_20 10 rfl
theorem dX10_aimAt_71 : decode cX10_aimAt 71 = .ok (.iload 8, 2) := lw_dr lw_d_cX10_aimAt_20 11 rfl
theorem dX10_aimAt_73 : decode cX10_aimAt 73 = .ok (.iaload, 1) := lw_dr lw_d_cX10_aimAt_20 12 rfl
theorem dX10_aimAt_74 : decode cX10_aimAt 74 = .ok (.i2l, 1) := lw_dr lw_d_cX10_aimAt_20 13 rfl
theorem dX10_aimAt_75 : decode cX10_aimAt 75 = .ok (.aload_n 1, 1) := lw_dr lw_d_cX10_aimAt_20 14 rfl
theorem dX10_aimAt_76 : decode cX10_aimAt 76 = .ok (.getfield 49, 3) := lw_dr lw_d_cX10_aimAt_20 15 rfl
theorem dX10_aimAt_79 : decode cX10_aimAt 79 = .ok (.iload 8, 2) := lw_dr lw_d_cX10_aimAt_20 16 rfl
theorem dX10_aimAt_81 : decode cX10_aimAt 81 = .ok (.iload 5, 2) := lw_dr lw_d_cX10_aimAt_20 17 rfl
theorem dX10_aimAt_83 : decode cX10_aimAt 83 = .ok (.invokevirtual 61, 3) := lw_dr lw_d_cX10_aimAt_20 18 rfl
theorem dX10_aimAt_86 : decode cX10_aimAt 86 = .ok (.i2l, 1) := lw_dr lw_d_cX10_aimAt_20 19 rfl
theorem dX10_aimAt_87 : decode cX10_aimAt 87 = .ok (.lmul, 1) := lw_dr lw_d_cX10_aimAt_20 20 rfl
theorem dX10_aimAt_88 : decode cX10_aimAt 88 = .ok (.ladd, 1) := lw_dr lw_d_cX10_aimAt_20 21 rfl
theorem dX10_aimAt_89 : decode cX10_aimAt 89 = .ok (.lstore 6, 2) := lw_dr lw_d_cX10_aimAt_20 22 rfl
theorem dX10_aimAt_91 : decode cX10_aimAt 91 = .ok (.iinc 8 1, 3) := lw_dr lw_d_cX10_aimAt_20 23 rfl
theorem dX10_aimAt_94 : decode cX10_aimAt 94 = .ok (.goto (-35), 3) := lw_dr lw_d_cX10_aimAt_20 24 rfl
theorem lw_d_cX10_setAllNumbers_0 : lw_dl cX10_setAllNumbers [(0, .iconst 0, 1), (1, .istore 4, 2), (3, .iload 4, 2), (5, .aload_n 0, 1), (6, .getfield 34, 3), (9, .if_icmp .gt 18, 3), (12, .aload_n 0, 1), (13, .iload 4, 2), (15, .iload_n 1, 1), (16, .iload_n 2, 1), (17, .iload_n 3, 1), (18, .invokevirtual 64, 3), (21, .iinc 4 1, 3), (24, .goto (-21), 3), (27, .return_, 1)] = true := by decide +kernel
theorem dX10_setAllNumbers_0 : decode cX10_setAllNumbers 0 = .ok (.iconst 0, 1) := lw_dr lw_d_cX10_setAllNumbers_0 0 rfl
theorem dX10_setAllNumbers_1 : decode cX10_setAllNumbers 1 = .ok (.istore 4, 2) := lw_dr lw_d_cX10_setAllNumbers_0 1 rfl
theorem dX10_setAllNumbers_3 : decode cX10_setAllNumbers 3 = .ok (.iload 4, 2) := lw_dr lw_d_cX10_setAllNumbers_0 2 rfl
theorem dX10_setAllNumbers_5 : decode cX10_setAllNumbers 5 = .ok (.aload_n 0, 1) := lw_dr lw_d_cX10_setAllNumbers_0 3 rfl
theorem dX10_setAllNumbers_6 : decode cX10_setAllNumbers 6 = .ok (.getfield 34, 3) := lw_dr lw_d_cX10_setAllNumbers_0 4 rfl
theorem dX10_setAllNumbers_9 : decode cX10_setAllNumbers 9 = .ok (.if_icmp .gt 18, 3) := lw_dr lw_d_cX10_setAllNumbers_0 5 rfl
theorem dX10_setAllNumbers_12 : decode cX10_setAllNumbers 12 = .ok (.aload_n 0, 1) := lw_dr lw_d_cX10_setAllNumbers_0 6 rfl
theorem dX10_setAllNumbers_13 : decode cX10_setAllNumbers 13 = .ok (.iload 4, 2) := lw_dr lw_d_cX10_setAllNumbers_0 7 rfl
theorem dX10_setAllNumbers_15 : decode cX10_setAllNumbers 15 = .ok (.iload_n 1, 1) := lw_dr lw_d_cX10_setAllNumbers_0 8 rfl
theorem dX10_setAllNumbers_16 : decode cX10_setAllNumbers 16 = .ok (.iload_n 2, 1) := lw_dr lw_d_cX10_setAllNumbers_0 9 rfl
theorem dX10_setAllNumbers_17 : decode cX10_setAllNumbers 17 = .ok (.iload_n 3, 1) := lw_dr lw_d_cX10_setAllNumbers_0 10 rfl
theorem dX10_setAllNumbers_18 : decode cX10_setAllNumbers 18 = .ok (.invokevirtual 64, 3) := lw_dr lw_d_cX10_setAllNumbers_0 11 rfl
theorem dX10_setAllNumbers_21 : decode cX10_setAllNumbers 21 = .ok (.iinc 4 1, 3) := lw_dr lw_d_cX10_setAllNumbers_0 12 rfl
theorem dX10_setAllNumbers_24 : decode cX10_setAllNumbers 24 = .ok (.goto (-21), 3) := lw_dr lw_d_cX10_setAllNumbers_0 13 rfl
theorem dX10_setAllNumbers_27 : decode cX10_setAllNumbers 27 = .ok (.return_, 1) := lw_dr lw_d_cX10_setAllNumbers_0 14 rfl
theorem lw_d_cX10_setNumbers_0 : lw_dl cX10_setNumbers [(0, .aload_n 0, 1), (1, .getfield 21, 3), (4, .iload_n 1, 1), (5, .iload_n 2, 1), (6, .iastore, 1), (7, .aload_n 0, 1), (8, .getfield 25, 3), (11, .iload_n 1, 1), (12, .iload_n 3, 1), (13, .iastore, 1), (14, .aload_n 0, 1), (15, .getfield 28, 3), (18, .iload_n 1, 1), (19, .iload 4, 2), (21, .iastore, 1), (22, .return_, 1)] = true := by decide +kernel
theorem dX10_setNumbers_0 : decode cX10_setNumbers 0 = .ok (.aload_n 0, 1) := lw_dr lw_d_cX10_setNumbers_0 0 rfl
theorem dX10_setNumbers_1 : decode cX10_setNumbers 1 = .ok (.getfield 21, 3) := lw_dr lw_d_cX10_setNumbers_0 1 rfl
theorem dX10_setNumbers_4 : decode cX10_setNumbers 4 = .ok (.iload_n 1, 1) := lw_dr lw_d_cX10_setNumbers_0 2 rfl
theorem dX10_setNumbers_5 : decode cX10_setNumbers 5 = .ok (.iload_n 2, 1) := lw_dr lw_d_cX10_setNumbers_0 3 rfl
theorem dX10_setNumbers_6 : decode cX10_setNumbers 6 = .ok (.iastore, 1) := lw_dr lw_d_cX10_setNumbers_0 4 rfl
theorem dX10_setNumbers_7 : decode cX10_setNumbers 7 = .ok (.aload_n 0, 1) := lw_dr lw_d_cX10_setNumbers_0 5 rfl
theorem dX10_setNumbers_8 : decode cX10_setNumbers 8 = .ok (.getfield 25, 3) := lw_dr lw_d_cX10_setNumbers_0 6 rfl
theorem dX10_setNumbers_11 : decode cX10_setNumbers 11 = .ok (.iload_n 1, 1) := lw_dr lw_d_cX10_setNumbers_0 7 rfl
theorem dX10_setNumbers_12 : decode cX10_setNumbers 12 = .ok (.iload_n 3, 1) := lw_dr lw_d_cX10_setNumbers_0 8 rfl
theorem dX10_setNumbers_13 : decode cX10_setNumbers 13 = .ok (.iastore, 1) := lw_dr lw_d_cX10_setNumbers_0 9 rfl
theorem dX10_setNumbers_14 : decode cX10_setNumbers 14 = .ok (.aload_n 0, 1) := lw_dr lw_d_cX10_setNumbers_0 10 rfl
theorem dX10_setNumbers_15 : decode cX10_setNumbers 15 = .ok (.getfield 28, 3) := lw_dr lw_d_cX10_setNumbers_0 11 rfl
theorem dX10_setNumbers_18 : decode cX10_setNumbers 18 = .ok (.iload_n 1, 1) := lw_dr lw_d_cX10_setNumbers_0 12 rfl
theorem dX10_setNumbers_19 : decode cX10_setNumbers 19 = .ok (.iload 4, 2) := lw_dr lw_d_cX10_setNumbers_0 13 rfl
theorem dX10_setNumbers_21 : decode cX10_setNumbers 21 = .ok (.iastore, 1) := lw_dr lw_d_cX10_setNumbers_0 14 rfl
theorem dX10_setNumbers_22 : decode cX10_setNumbers 22 = .ok (.return_, 1) := lw_dr lw_d_cX10_setNumbers_0 15 rfl
theorem lw_d_cX10_firstLine_0 : lw_dl cX10_firstLine [(0, .aload_n 0, 1), (1, .getfield 31, 3), (4, .iconst 0, 1), (5, .invokestatic 68, 3), (8, .aload_n 0, 1), (9, .iconst 0, 1), (10, .invokevirtual 74, 3), (13, .return_, 1)] = true := by decide +kernel
theorem dX10_firstLine_0 : decode cX10_firstLine 0 = .ok (.aload_n 0, 1) := lw_dr lw_d_cX10_firstLine_0 0 rfl
theorem dX10_firstLine_1 : decode cX10_firstLine 1 = .ok (.getfield 31, 3) := lw_dr lw_d_cX10_firstLine_0 1 rfl
theorem dX10_firstLine_4 : decode cX10_firstLine 4 = .ok (.iconst 0, 1) := lw_dr lw_d_cX10_firstLine_0 2 rfl
theorem dX10_firstLine_5 : decode cX10_firstLine 5 = .ok (.invokestatic 68, 3) := lw_dr lw_d_cX10_firstLine_0 3 rfl
theorem dX10_firstLine_8 : decode cX10_firstLine 8 = .ok (.aload_n 0, 1) := lw_dr lw_d_cX10_firstLine_0 4 rfl
theorem dX10_firstLine_9 : decode cX10_firstLine 9 = .ok (.iconst 0, 1) := lw_dr lw_d_cX10_firstLine_0 5 rfl
theorem dX10_firstLine_10 : decode cX10_firstLine 10 = .ok (.invokevirtual 74, 3) := lw_dr lw_d_cX10_firstLine_0 6 rfl
theorem dX10_firstLine_13 : decode cX10_firstLine 13 = .ok (.return_, 1) := lw_dr lw_d_cX10_firstLine_0 7 rfl
theorem lw_d_cX10_settle_0 : lw_dl cX10_settle [(0, .iload_n 1, 1), (1, .istore_n 2, 1), (2, .iload_n 2, 1), (3, .aload_n 0, 1), (4, .getfield 34, 3), (7, .if_icmp .ge 131, 3), (138, .return_, 1), (10, .iload_n 2, 1), (11, .iconst 5, 1), (12, .imul, 1), (13, .istore_n 3, 1), (14, .aload_n 0, 1), (15, .getfield 21, 3), (18, .iload_n 2, 1), (19, .iaload, 1), (20, .aload_n 0, 1), (21, .getfield 25, 3), (24, .iload_n 2, 1), (25, .iaload, 1), (26, .aload_n 0, 1), (27, .getfield 31, 3), (30, .iload_n 2, 1), (31, .iaload, 1), (32, .imul, 1), (33, .iadd, 1), (34, .i2l, 1), (35, .lstore 4, 2), (37, .aload_n 0, 1), (38, .getfield 15, 3), (41, .iload_n 2, 1), (42, .iconst 1, 1), (43, .iadd, 1), (44, .aload_n 0, 1), (45, .getfield 15, 3), (48, .iload_n 2, 1), (49, .laload, 1), (50, .lload 4, 2), (52, .lload 4, 2), (54, .aload_n 0, 1), (55, .getfield 9, 3)] = true := by decide +kernel
theorem dX10_settle_0 : decode cX10_settle 0 = .ok (.iload_n 1, 1) := lw_dr lw_d_cX10_settle_0 0 rfl
theorem dX10_settle_1 : decode cX10_settle 1 = .ok (.istore_n 2, 1) := lw_dr lw_d_cX10_settle_0 1 rfl
theorem dX10_settle_2 : decode cX10_settle 2 = .ok (.iload_n 2, 1) := lw_dr lw_d_cX10_settle_0 2 rfl
theorem dX10_settle_3 : decode cX10_settle 3 = .ok (.aload_n 0, 1) := lw_dr lw_d_cX10_settle_0 3 rfl
theorem dX10_settle_4 : decode cX10_settle 4 = .ok (.getfield 34, 3) := lw_dr lw_d_cX10_settle_0 4 rfl
theorem dX10_settle_7 : decode cX10_settle 7 = .ok (.if_icmp .ge 131, 3) := lw_dr lw_d_cX10_settle_0 5 rfl
theorem dX10_settle_138 : decode cX10_settle 138 = .ok (.return_, 1) := lw_dr lw_d_cX10_settle_0 6 rfl
theorem dX10_settle_10 : decode cX10_settle 10 = .ok (.iload_n 2, 1) := lw_dr lw_d_cX10_settle_0 7 rfl
theorem dX10_settle_11 : decode cX10_settle 11 = .ok (.iconst 5, 1) := lw_dr lw_d_cX10_settle_0 8 rfl
theorem dX10_settle_12 : decode cX10_settle 12 = .ok (.imul, 1) := lw_dr lw_d_cX10_settle_0 9 rfl
theorem dX10_settle_13 : decode cX10_settle 13 = .ok (.istore_n 3, 1) := lw_dr lw_d_cX10_settle_0 10 rfl
theorem dX10_settle_14 : decode cX10_settle 14 = .ok (.aload_n 0, 1) := lw_dr lw_d_cX10_settle_0 11 rfl
theorem dX10_settle_15 : decode cX10_settle 15 = .ok (.getfield 21, 3) := lw_dr lw_d_cX10_settle_0 12 rfl
theorem dX10_settle_18 : decode cX10_settle 18 = .ok (.iload_n 2, 1) := lw_dr lw_d_cX10_settle_0 13 rfl
theorem dX10_settle_19 : decode cX10_settle 19 = .ok (.iaload, 1) := lw_dr lw_d_cX10_settle_0 14 rfl
theorem dX10_settle_20 : decode cX10_settle 20 = .ok (.aload_n 0, 1) := lw_dr lw_d_cX10_settle_0 15 rfl
theorem dX10_settle_21 : decode cX10_settle 21 = .ok (.getfield 25, 3) := lw_dr lw_d_cX10_settle_0 16 rfl
theorem dX10_settle_24 : decode cX10_settle 24 = .ok (.iload_n 2, 1) := lw_dr lw_d_cX10_settle_0 17 rfl
theorem dX10_settle_25 : decode cX10_settle 25 = .ok (.iaload, 1) := lw_dr lw_d_cX10_settle_0 18 rfl
theorem dX10_settle_26 : decode cX10_settle 26 = .ok (.aload_n 0, 1) := lw_dr lw_d_cX10_settle_0 19 rfl
theorem dX10_settle_27 : decode cX10_settle 27 = .ok (.getfield 31, 3) := lw_dr lw_d_cX10_settle_0 20 rfl
theorem dX10_settle_30 : decode cX10_settle 30 = .ok (.iload_n 2, 1) := lw_dr lw_d_cX10_settle_0 21 rfl
theorem dX10_settle_31 : decode cX10_settle 31 = .ok (.iaload, 1) := lw_dr lw_d_cX10_settle_0 22 rfl
theorem dX10_settle_32 : decode cX10_settle 32 = .ok (.imul, 1) := lw_dr lw_d_cX10_settle_0 23 rfl
theorem dX10_settle_33 : decode cX10_settle 33 = .ok (.iadd, 1) := lw_dr lw_d_cX10_settle_0 24 rfl
theorem dX10_settle_34 : decode cX10_settle 34 = .ok (.i2l, 1) := lw_dr lw_d_cX10_settle_0 25 rfl
theorem dX10_settle_35 : decode cX10_settle 35 = .ok (.lstore 4, 2) := lw_dr lw_d_cX10_settle_0 26 rfl
theorem dX10_settle_37 : decode cX10_settle 37 = .ok (.aload_n 0, 1) := lw_dr lw_d_cX10_settle_0 27 rfl
theorem dX10_settle_38 : decode cX10_settle 38 = .ok (.getfield 15, 3) := lw_dr lw_d_cX10_settle_0 28 rfl
theorem dX10_settle_41 : decode cX10_settle 41 = .ok (.iload_n 2, 1) := lw_dr lw_d_cX10_settle_0 29 rfl
theorem dX10_settle_42 : decode cX10_settle 42 = .ok (.iconst 1, 1) := lw_dr lw_d_cX10_settle_0 30 rfl
theorem dX10_settle_43 : decode cX10_settle 43 = .ok (.iadd, 1) := lw_dr lw_d_cX10_settle_0 31 rfl
theorem dX10_settle_44 : decode cX10_settle 44 = .ok (.aload_n 0, 1) := lw_dr lw_d_cX10_settle_0 32 rfl
theorem dX10_settle_45 : decode cX10_settle 45 = .ok (.getfield 15, 3) := lw_dr lw_d_cX10_settle_0 33 rfl
theorem dX10_settle_48 : decode cX10_settle 48 = .ok (.iload_n 2, 1) := lw_dr lw_d_cX10_settle_0 34 rfl
theorem dX10_settle_49 : decode cX10_settle 49 = .ok (.laload, 1) := lw_dr lw_d_cX10_settle_0 35 rfl
theorem dX10_settle_50 : decode cX10_settle 50 = .ok (.lload 4, 2) := lw_dr lw_d_cX10_settle_0 36 rfl
theorem dX10_settle_52 : decode cX10_settle 52 = .ok (.lload 4, 2) := lw_dr lw_d_cX10_settle_0 37 rfl
theorem dX10_settle_54 : decode cX10_settle 54 = .ok (.aload_n 0, 1) := lw_dr lw_d_cX10_settle_0 38 rfl
theorem dX10_settle_55 : decode cX10_settle 55 = .ok (.getfield 9, 3) := lw_dr lw_d_cX10_settle_0 39 rfl
theorem lw_d_cX10_settle_58 : lw_dl cX10_settle [(58, .iload_n 3, 1), (59, .iload_n 2, 1), (60, .iadd, 1), (61, .laload, 1), (62, .lmul, 1), (63, .ldc2_w 78, 3), (66, .aload_n 0, 1), (67, .getfield 18, 3), (70, .iload_n 3, 1), (71, .iload_n 2, 1), (72, .iadd, 1), (73, .laload, 1), (74, .lmul, 1), (75, .lsub, 1), (76, .lmul, 1), (77, .ladd, 1), (78, .lastore, 1), (79, .iload_n 2, 1), (80, .iconst 1, 1), (81, .iadd, 1), (82, .istore 6, 2), (84, .iload 6, 2), (86, .aload_n 0, 1), (87, .getfield 34, 3), (90, .if_icmp .gt 42, 3), (132, .iinc 2 1, 3), (135, .goto (-133), 3), (93, .aload_n 0, 1), (94, .getfield 18, 3), (97, .iload_n 3, 1), (98, .iconst 5, 1), (99, .iadd, 1), (100, .iload 6, 2), (102, .iadd, 1), (103, .aload_n 0, 1), (104, .getfield 18, 3), (107, .iload_n 3, 1), (108, .iload 6, 2), (110, .iadd, 1), (111, .laload, 1)] = true := by decide +kernel
theorem dX10_settle_58 : decode cX10_settle 58 = .ok (.iload_n 3, 1) := lw_dr lw_d_cX10_settle_58 0 rfl
theorem dX10_settle_59 : decode cX10_settle 59 = .ok (.iload_n 2, 1) := lw_dr lw_d_cX10_settle_58 1 rfl
theorem dX10_settle_60 : decode cX10_settle 60 = .ok (.iadd, 1) := lw_dr lw_d_cX10_settle_58 2 rfl
theorem dX10_settle_61 : decode cX10_settle 61 = .ok (.laload, 1) := lw_dr lw_d_cX10_settle_58 3 rfl
theorem dX10_settle_62 : decode cX10_settle 62 = .ok (.lmul, 1) := lw_dr lw_d_cX10_settle_58 4 rfl
theorem dX10_settle_63 : decode cX10_settle 63 = .ok (.ldc2_w 78, 3) := lw_dr lw_d_cX10_settle_58 5 rfl
theorem dX10_settle_66 : decode cX10_settle 66 = .ok (.aload_n 0, 1) := lw_dr lw_d_cX10_settle_58 6 rfl
theorem dX10_settle_67 : decode cX10_settle 67 = .ok (.getfield 18, 3) := lw_dr lw_d_cX10_settle_58 7 rfl
theorem dX10_settle_70 : decode cX10_settle 70 = .ok (.iload_n 3, 1) := lw_dr lw_d_cX10_settle_58 8 rfl
theorem dX10_settle_71 : decode cX10_settle 71 = .ok (.iload_n 2, 1) := lw_dr lw_d_cX10_settle_58 9 rfl
theorem dX10_settle_72 : decode cX10_settle 72 = .ok (.iadd, 1) := lw_dr lw_d_cX10_settle_58 10 rfl
theorem dX10_settle_73 : decode cX10_settle 73 = .ok (.laload, 1) := lw_dr lw_d_cX10_settle_58 11 rfl
theorem dX10_settle_74 : decode cX10_settle 74 = .ok (.lmul, 1) := lw_dr lw_d_cX10_settle_58 12 rfl
theorem dX10_settle_75 : decode cX10_settle 75 = .ok (.lsub, 1) := lw_dr lw_d_cX10_settle_58 13 rfl
theorem dX10_settle_76 : decode cX10_settle 76 = .ok (.lmul, 1) := lw_dr lw_d_cX10_settle_58 14 rfl
theorem dX10_settle_77 : decode cX10_settle 77 = .ok (.ladd, 1) := lw_dr lw_d_cX10_settle_58 15 rfl
theorem dX10_settle_78 : decode cX10_settle 78 = .ok (.lastore, 1) := lw_dr lw_d_cX10_settle_58 16 rfl
theorem dX10_settle_79 : decode cX10_settle 79 = .ok (.iload_n 2, 1) := lw_dr lw_d_cX10_settle_58 17 rfl
theorem dX10_settle_80 : decode cX10_settle 80 = .ok (.iconst 1, 1) := lw_dr lw_d_cX10_settle_58 18 rfl
theorem dX10_settle_81 : decode cX10_settle 81 = .ok (.iadd, 1) := lw_dr lw_d_cX10_settle_58 19 rfl
theorem dX10_settle_82 : decode cX10_settle 82 = .ok (.istore 6, 2) := lw_dr lw_d_cX10_settle_58 20 rfl
theorem dX10_settle_84 : decode cX10_settle 84 = .ok (.iload 6, 2) := lw_dr lw_d_cX10_settle_58 21 rfl
theorem dX10_settle_86 : decode cX10_settle 86 = .ok (.aload_n 0, 1) := lw_dr lw_d_cX10_settle_58 22 rfl
theorem dX10_settle_87 : decode cX10_settle 87 = .ok (.getfield 34, 3) := lw_dr lw_d_cX10_settle_58 23 rfl
theorem dX10_settle_90 : decode cX10_settle 90 = .ok (.if_icmp .gt 42, 3) := lw_dr lw_d_cX10_settle_58 24 rfl
theorem dX10_settle_132 : decode cX10_settle 132 = .ok (.iinc 2 1, 3) := lw_dr lw_d_cX10_settle_58 25 rfl
theorem dX10_settle_135 : decode cX10_settle 135 = .ok (.goto (-133), 3) := lw_dr lw_d_cX10_settle_58 26 rfl
theorem dX10_settle_93 : decode cX10_settle 93 = .ok (.aload_n 0, 1) := lw_dr lw_d_cX10_settle_58 27 rfl
theorem dX10_settle_94 : decode cX10_settle 94 = .ok (.getfield 18, 3) := lw_dr lw_d_cX10_settle_58 28 rfl
theorem dX10_settle_97 : decode cX10_settle 97 = .ok (.iload_n 3, 1) := lw_dr lw_d_cX10_settle_58 29 rfl
theorem dX10_settle_98 : decode cX10_settle 98 = .ok (.iconst 5, 1) := lw_dr lw_d_cX10_settle_58 30 rfl
theorem dX10_settle_99 : decode cX10_settle 99 = .ok (.iadd, 1) := lw_dr lw_d_cX10_settle_58 31 rfl
theorem dX10_settle_100 : decode cX10_settle 100 = .ok (.iload 6, 2) := lw_dr lw_d_cX10_settle_58 32 rfl
theorem dX10_settle_102 : decode cX10_settle 102 = .ok (.iadd, 1) := lw_dr lw_d_cX10_settle_58 33 rfl
theorem dX10_settle_103 : decode cX10_settle 103 = .ok (.aload_n 0, 1) := lw_dr lw_d_cX10_settle_58 34 rfl
theorem dX10_settle_104 : decode cX10_settle 104 = .ok (.getfield 18, 3) := lw_dr lw_d_cX10_settle_58 35 rfl
theorem dX10_settle_107 : decode cX10_settle 107 = .ok (.iload_n 3, 1) := lw_dr lw_d_cX10_settle_58 36 rfl
theorem dX10_settle_108 : decode cX10_settle 108 = .ok (.iload 6, 2) := lw_dr lw_d_cX10_settle_58 37 rfl
theorem dX10_settle_110 : decode cX10_settle 110 = .ok (.iadd, 1) := lw_dr lw_d_cX10_settle_58 38 rfl
theorem dX10_settle_111 : decode cX10_settle 111 = .ok (.laload, 1) := lw_dr lw_d_cX10_settle_58 39 rfl
theorem lw_d_cX10_settle_112 : lw_dl cX10_settle [(112, .lload 4, 2), (114, .aload_n 0, 1), (115, .getfield 9, 3), (118, .iload_n 3, 1), (119, .iload 6, 2), (121, .iadd, 1), (122, .laload, 1), (123, .lmul, 1), (124, .lsub, 1), (125, .lastore, 1), (126, .iinc 6 1, 3), (129, .goto (-45), 3)] = true := by decide +kernel
theorem dX10_settle_112 : decode cX10_settle 112 = .ok (.lload 4, 2) := lw_dr lw_d_cX10_settle_112 0 rfl
theorem dX10_settle_114 : decode cX10_settle 114 = .ok (.aload_n 0, 1) := lw_dr lw_d_cX10_settle_112 1 rfl
theorem dX10_settle_115 : decode cX10_settle 115 = .ok (.getfield 9, 3) := lw_dr lw_d_cX10_settle_112 2 rfl
theorem dX10_settle_118 : decode cX10_settle 118 = .ok (.iload_n 3, 1) := lw_dr lw_d_cX10_settle_112 3 rfl
theorem dX10_settle_119 : decode cX10_settle 119 = .ok (.iload 6, 2) := lw_dr lw_d_cX10_settle_112 4 rfl
theorem dX10_settle_121 : decode cX10_settle 121 = .ok (.iadd, 1) := lw_dr lw_d_cX10_settle_112 5 rfl
theorem dX10_settle_122 : decode cX10_settle 122 = .ok (.laload, 1) := lw_dr lw_d_cX10_settle_112 6 rfl
theorem dX10_settle_123 : decode cX10_settle 123 = .ok (.lmul, 1) := lw_dr lw_d_cX10_settle_112 7 rfl
theorem dX10_settle_124 : decode cX10_settle 124 = .ok (.lsub, 1) := lw_dr lw_d_cX10_settle_112 8 rfl
theorem dX10_settle_125 : decode cX10_settle 125 = .ok (.lastore, 1) := lw_dr lw_d_cX10_settle_112 9 rfl
theorem dX10_settle_126 : decode cX10_settle 126 = .ok (.iinc 6 1, 3) := lw_dr lw_d_cX10_settle_112 10 rfl
theorem dX10_settle_129 : decode cX10_settle 129 = .ok (.goto (-45), 3) := lw_dr lw_d_cX10_settle_112 11 rfl
theorem lw_d_cX10_lineCount_0 : lw_dl cX10_lineCount [(0, .iconst 1, 1), (1, .istore_n 1, 1), (2, .iconst 0, 1), (3, .istore_n 2, 1), (4, .iload_n 2, 1), (5, .aload_n 0, 1), (6, .getfield 34, 3), (9, .if_icmp .ge 18, 3), (27, .iload_n 1, 1), (28, .ireturn, 1), (12, .iload_n 1, 1), (13, .aload_n 0, 1), (14, .getfield 28, 3), (17, .iload_n 2, 1), (18, .iaload, 1), (19, .imul, 1), (20, .istore_n 1, 1), (21, .iinc 2 1, 3), (24, .goto (-20), 3)] = true := by decide +kernel
theorem dX10_lineCount_0 : decode cX10_lineCount 0 = .ok (.iconst 1, 1) := lw_dr lw_d_cX10_lineCount_0 0 rfl
theorem dX10_lineCount_1 : decode cX10_lineCount 1 = .ok (.istore_n 1, 1) := lw_dr lw_d_cX10_lineCount_0 1 rfl
theorem dX10_lineCount_2 : decode cX10_lineCount 2 = .ok (.iconst 0, 1) := lw_dr lw_d_cX10_lineCount_0 2 rfl
theorem dX10_lineCount_3 : decode cX10_lineCount 3 = .ok (.istore_n 2, 1) := lw_dr lw_d_cX10_lineCount_0 3 rfl
theorem dX10_lineCount_4 : decode cX10_lineCount 4 = .ok (.iload_n 2, 1) := lw_dr lw_d_cX10_lineCount_0 4 rfl
theorem dX10_lineCount_5 : decode cX10_lineCount 5 = .ok (.aload_n 0, 1) := lw_dr lw_d_cX10_lineCount_0 5 rfl
theorem dX10_lineCount_6 : decode cX10_lineCount 6 = .ok (.getfield 34, 3) := lw_dr lw_d_cX10_lineCount_0 6 rfl
theorem dX10_lineCount_9 : decode cX10_lineCount 9 = .ok (.if_icmp .ge 18, 3) := lw_dr lw_d_cX10_lineCount_0 7 rfl
theorem dX10_lineCount_27 : decode cX10_lineCount 27 = .ok (.iload_n 1, 1) := lw_dr lw_d_cX10_lineCount_0 8 rfl
theorem dX10_lineCount_28 : decode cX10_lineCount 28 = .ok (.ireturn, 1) := lw_dr lw_d_cX10_lineCount_0 9 rfl
theorem dX10_lineCount_12 : decode cX10_lineCount 12 = .ok (.iload_n 1, 1) := lw_dr lw_d_cX10_lineCount_0 10 rfl
theorem dX10_lineCount_13 : decode cX10_lineCount 13 = .ok (.aload_n 0, 1) := lw_dr lw_d_cX10_lineCount_0 11 rfl
theorem dX10_lineCount_14 : decode cX10_lineCount 14 = .ok (.getfield 28, 3) := lw_dr lw_d_cX10_lineCount_0 12 rfl
theorem dX10_lineCount_17 : decode cX10_lineCount 17 = .ok (.iload_n 2, 1) := lw_dr lw_d_cX10_lineCount_0 13 rfl
theorem dX10_lineCount_18 : decode cX10_lineCount 18 = .ok (.iaload, 1) := lw_dr lw_d_cX10_lineCount_0 14 rfl
theorem dX10_lineCount_19 : decode cX10_lineCount 19 = .ok (.imul, 1) := lw_dr lw_d_cX10_lineCount_0 15 rfl
theorem dX10_lineCount_20 : decode cX10_lineCount 20 = .ok (.istore_n 1, 1) := lw_dr lw_d_cX10_lineCount_0 16 rfl
theorem dX10_lineCount_21 : decode cX10_lineCount 21 = .ok (.iinc 2 1, 3) := lw_dr lw_d_cX10_lineCount_0 17 rfl
theorem dX10_lineCount_24 : decode cX10_lineCount 24 = .ok (.goto (-20), 3) := lw_dr lw_d_cX10_lineCount_0 18 rfl
theorem lw_d_cX10_squaresAt_0 : lw_dl cX10_squaresAt [(0, .aload_n 0, 1), (1, .getfield 34, 3), (4, .iconst 5, 1), (5, .imul, 1), (6, .aload_n 0, 1), (7, .getfield 34, 3), (10, .iadd, 1), (11, .istore_n 2, 1), (12, .aload_n 0, 1), (13, .getfield 21, 3), (16, .aload_n 0, 1), (17, .getfield 34, 3), (20, .iaload, 1), (21, .aload_n 0, 1), (22, .getfield 25, 3), (25, .aload_n 0, 1), (26, .getfield 34, 3), (29, .iaload, 1), (30, .iload_n 1, 1), (31, .imul, 1), (32, .iadd, 1), (33, .i2l, 1), (34, .lstore_n 3, 1), (35, .aload_n 0, 1), (36, .getfield 15, 3), (39, .aload_n 0, 1), (40, .getfield 34, 3), (43, .laload, 1), (44, .lload_n 3, 1), (45, .lload_n 3, 1), (46, .aload_n 0, 1), (47, .getfield 9, 3), (50, .iload_n 2, 1), (51, .laload, 1), (52, .lmul, 1), (53, .ldc2_w 78, 3), (56, .aload_n 0, 1), (57, .getfield 18, 3), (60, .iload_n 2, 1), (61, .laload, 1)] = true := by decide +kernel
theorem dX10_squaresAt_0 : decode cX10_squaresAt 0 = .ok (.aload_n 0, 1) := lw_dr lw_d_cX10_squaresAt_0 0 rfl
theorem dX10_squaresAt_1 : decode cX10_squaresAt 1 = .ok (.getfield 34, 3) := lw_dr lw_d_cX10_squaresAt_0 1 rfl
theorem dX10_squaresAt_4 : decode cX10_squaresAt 4 = .ok (.iconst 5, 1) := lw_dr lw_d_cX10_squaresAt_0 2 rfl
theorem dX10_squaresAt_5 : decode cX10_squaresAt 5 = .ok (.imul, 1) := lw_dr lw_d_cX10_squaresAt_0 3 rfl
theorem dX10_squaresAt_6 : decode cX10_squaresAt 6 = .ok (.aload_n 0, 1) := lw_dr lw_d_cX10_squaresAt_0 4 rfl
theorem dX10_squaresAt_7 : decode cX10_squaresAt 7 = .ok (.getfield 34, 3) := lw_dr lw_d_cX10_squaresAt_0 5 rfl
theorem dX10_squaresAt_10 : decode cX10_squaresAt 10 = .ok (.iadd, 1) := lw_dr lw_d_cX10_squaresAt_0 6 rfl
theorem dX10_squaresAt_11 : decode cX10_squaresAt 11 = .ok (.istore_n 2, 1) := lw_dr lw_d_cX10_squaresAt_0 7 rfl
theorem dX10_squaresAt_12 : decode cX10_squaresAt 12 = .ok (.aload_n 0, 1) := lw_dr lw_d_cX10_squaresAt_0 8 rfl
theorem dX10_squaresAt_13 : decode cX10_squaresAt 13 = .ok (.getfield 21, 3) := lw_dr lw_d_cX10_squaresAt_0 9 rfl
theorem dX10_squaresAt_16 : decode cX10_squaresAt 16 = .ok (.aload_n 0, 1) := lw_dr lw_d_cX10_squaresAt_0 10 rfl
theorem dX10_squaresAt_17 : decode cX10_squaresAt 17 = .ok (.getfield 34, 3) := lw_dr lw_d_cX10_squaresAt_0 11 rfl
theorem dX10_squaresAt_20 : decode cX10_squaresAt 20 = .ok (.iaload, 1) := lw_dr lw_d_cX10_squaresAt_0 12 rfl
theorem dX10_squaresAt_21 : decode cX10_squaresAt 21 = .ok (.aload_n 0, 1) := lw_dr lw_d_cX10_squaresAt_0 13 rfl
theorem dX10_squaresAt_22 : decode cX10_squaresAt 22 = .ok (.getfield 25, 3) := lw_dr lw_d_cX10_squaresAt_0 14 rfl
theorem dX10_squaresAt_25 : decode cX10_squaresAt 25 = .ok (.aload_n 0, 1) := lw_dr lw_d_cX10_squaresAt_0 15 rfl
theorem dX10_squaresAt_26 : decode cX10_squaresAt 26 = .ok (.getfield 34, 3) := lw_dr lw_d_cX10_squaresAt_0 16 rfl
theorem dX10_squaresAt_29 : decode cX10_squaresAt 29 = .ok (.iaload, 1) := lw_dr lw_d_cX10_squaresAt_0 17 rfl
theorem dX10_squaresAt_30 : decode cX10_squaresAt 30 = .ok (.iload_n 1, 1) := lw_dr lw_d_cX10_squaresAt_0 18 rfl
theorem dX10_squaresAt_31 : decode cX10_squaresAt 31 = .ok (.imul, 1) := lw_dr lw_d_cX10_squaresAt_0 19 rfl
theorem dX10_squaresAt_32 : decode cX10_squaresAt 32 = .ok (.iadd, 1) := lw_dr lw_d_cX10_squaresAt_0 20 rfl
theorem dX10_squaresAt_33 : decode cX10_squaresAt 33 = .ok (.i2l, 1) := lw_dr lw_d_cX10_squaresAt_0 21 rfl
theorem dX10_squaresAt_34 : decode cX10_squaresAt 34 = .ok (.lstore_n 3, 1) := lw_dr lw_d_cX10_squaresAt_0 22 rfl
theorem dX10_squaresAt_35 : decode cX10_squaresAt 35 = .ok (.aload_n 0, 1) := lw_dr lw_d_cX10_squaresAt_0 23 rfl
theorem dX10_squaresAt_36 : decode cX10_squaresAt 36 = .ok (.getfield 15, 3) := lw_dr lw_d_cX10_squaresAt_0 24 rfl
theorem dX10_squaresAt_39 : decode cX10_squaresAt 39 = .ok (.aload_n 0, 1) := lw_dr lw_d_cX10_squaresAt_0 25 rfl
theorem dX10_squaresAt_40 : decode cX10_squaresAt 40 = .ok (.getfield 34, 3) := lw_dr lw_d_cX10_squaresAt_0 26 rfl
theorem dX10_squaresAt_43 : decode cX10_squaresAt 43 = .ok (.laload, 1) := lw_dr lw_d_cX10_squaresAt_0 27 rfl
theorem dX10_squaresAt_44 : decode cX10_squaresAt 44 = .ok (.lload_n 3, 1) := lw_dr lw_d_cX10_squaresAt_0 28 rfl
theorem dX10_squaresAt_45 : decode cX10_squaresAt 45 = .ok (.lload_n 3, 1) := lw_dr lw_d_cX10_squaresAt_0 29 rfl
theorem dX10_squaresAt_46 : decode cX10_squaresAt 46 = .ok (.aload_n 0, 1) := lw_dr lw_d_cX10_squaresAt_0 30 rfl
theorem dX10_squaresAt_47 : decode cX10_squaresAt 47 = .ok (.getfield 9, 3) := lw_dr lw_d_cX10_squaresAt_0 31 rfl
theorem dX10_squaresAt_50 : decode cX10_squaresAt 50 = .ok (.iload_n 2, 1) := lw_dr lw_d_cX10_squaresAt_0 32 rfl
theorem dX10_squaresAt_51 : decode cX10_squaresAt 51 = .ok (.laload, 1) := lw_dr lw_d_cX10_squaresAt_0 33 rfl
theorem dX10_squaresAt_52 : decode cX10_squaresAt 52 = .ok (.lmul, 1) := lw_dr lw_d_cX10_squaresAt_0 34 rfl
theorem dX10_squaresAt_53 : decode cX10_squaresAt 53 = .ok (.ldc2_w 78, 3) := lw_dr lw_d_cX10_squaresAt_0 35 rfl
theorem dX10_squaresAt_56 : decode cX10_squaresAt 56 = .ok (.aload_n 0, 1) := lw_dr lw_d_cX10_squaresAt_0 36 rfl
theorem dX10_squaresAt_57 : decode cX10_squaresAt 57 = .ok (.getfield 18, 3) := lw_dr lw_d_cX10_squaresAt_0 37 rfl
theorem dX10_squaresAt_60 : decode cX10_squaresAt 60 = .ok (.iload_n 2, 1) := lw_dr lw_d_cX10_squaresAt_0 38 rfl
theorem dX10_squaresAt_61 : decode cX10_squaresAt 61 = .ok (.laload, 1) := lw_dr lw_d_cX10_squaresAt_0 39 rfl
theorem lw_d_cX10_squaresAt_62 : lw_dl cX10_squaresAt [(62, .lmul, 1), (63, .lsub, 1), (64, .lmul, 1), (65, .ladd, 1), (66, .lreturn, 1)] = true := by decide +kernel
theorem dX10_squaresAt_62 : decode cX10_squaresAt 62 = .ok (.lmul, 1) := lw_dr lw_d_cX10_squaresAt_62 0 rfl
theorem dX10_squaresAt_63 : decode cX10_squaresAt 63 = .ok (.lsub, 1) := lw_dr lw_d_cX10_squaresAt_62 1 rfl
theorem dX10_squaresAt_64 : decode cX10_squaresAt 64 = .ok (.lmul, 1) := lw_dr lw_d_cX10_squaresAt_62 2 rfl
theorem dX10_squaresAt_65 : decode cX10_squaresAt 65 = .ok (.ladd, 1) := lw_dr lw_d_cX10_squaresAt_62 3 rfl
theorem dX10_squaresAt_66 : decode cX10_squaresAt 66 = .ok (.lreturn, 1) := lw_dr lw_d_cX10_squaresAt_62 4 rfl
theorem lw_d_cX10_nextLine_0 : lw_dl cX10_nextLine [(0, .aload_n 0, 1), (1, .getfield 34, 3), (4, .iconst 1, 1), (5, .isub, 1), (6, .istore_n 1, 1), (7, .iload_n 1, 1), (8, .ifCond .lt 33, 3), (41, .iload_n 1, 1), (42, .ifCond .lt 18, 3), (60, .return_, 1), (11, .aload_n 0, 1), (12, .getfield 31, 3), (15, .iload_n 1, 1), (16, .iaload, 1), (17, .iconst 1, 1), (18, .iadd, 1), (19, .aload_n 0, 1), (20, .getfield 28, 3), (23, .iload_n 1, 1)] = true := by decide +kernel
theorem dX10_nextLine_0 : decode cX10_nextLine 0 = .ok (.aload_n 0, 1) := lw_dr lw_d_cX10_nextLine_0 0 rfl
theorem dX10_nextLine_1 : decode cX10_nextLine 1 = .ok (.getfield 34, 3) := lw_dr lw_d_cX10_nextLine_0 1 rfl
theorem dX10_nextLine_4 : decode cX10_nextLine 4 = .ok (.iconst 1, 1) := lw_dr lw_d_cX10_nextLine_0 2 rfl
theorem dX10_nextLine_5 : decode cX10_nextLine 5 = .ok (.isub, 1) := lw_dr lw_d_cX10_nextLine_0 3 rfl
theorem dX10_nextLine_6 : decode cX10_nextLine 6 = .ok (.istore_n 1, 1) := lw_dr lw_d_cX10_nextLine_0 4 rfl
theorem dX10_nextLine_7 : decode cX10_nextLine 7 = .ok (.iload_n 1, 1) := lw_dr lw_d_cX10_nextLine_0 5 rfl
theorem dX10_nextLine_8 : decode cX10_nextLine 8 = .ok (.ifCond .lt 33, 3) := lw_dr lw_d_cX10_nextLine_0 6 rfl
theorem dX10_nextLine_41 : decode cX10_nextLine 41 = .ok (.iload_n 1, 1) := lw_dr lw_d_cX10_nextLine_0 7 rfl
theorem dX10_nextLine_42 : decode cX10_nextLine 42 = .ok (.ifCond .lt 18, 3) := lw_dr lw_d_cX10_nextLine_0 8 rfl
theorem dX10_nextLine_60 : decode cX10_nextLine 60 = .ok (.return_, 1) := lw_dr lw_d_cX10_nextLine_0 9 rfl
theorem dX10_nextLine_11 : decode cX10_nextLine 11 = .ok (.aload_n 0, 1) := lw_dr lw_d_cX10_nextLine_0 10 rfl
theorem dX10_nextLine_12 : decode cX10_nextLine 12 = .ok (.getfield 31, 3) := lw_dr lw_d_cX10_nextLine_0 11 rfl
theorem dX10_nextLine_15 : decode cX10_nextLine 15 = .ok (.iload_n 1, 1) := lw_dr lw_d_cX10_nextLine_0 12 rfl
theorem dX10_nextLine_16 : decode cX10_nextLine 16 = .ok (.iaload, 1) := lw_dr lw_d_cX10_nextLine_0 13 rfl
theorem dX10_nextLine_17 : decode cX10_nextLine 17 = .ok (.iconst 1, 1) := lw_dr lw_d_cX10_nextLine_0 14 rfl
theorem dX10_nextLine_18 : decode cX10_nextLine 18 = .ok (.iadd, 1) := lw_dr lw_d_cX10_nextLine_0 15 rfl
theorem dX10_nextLine_19 : decode cX10_nextLine 19 = .ok (.aload_n 0, 1) := lw_dr lw_d_cX10_nextLine_0 16 rfl
theorem dX10_nextLine_20 : decode cX10_nextLine 20 = .ok (.getfield 28, 3) := lw_dr lw_d_cX10_nextLine_0 17 rfl
theorem dX10_nextLine_23 : decode cX10_nextLine 23 = .ok (.iload_n 1, 1) := lw_dr lw_d_cX10_nextLine_0 18 rfl
theorem lw_d_cX10_nextLine_24 : lw_dl cX10_nextLine [(24, .iaload, 1), (25, .if_icmp .lt 16, 3), (45, .aload_n 0, 1), (46, .getfield 31, 3), (49, .iload_n 1, 1), (50, .dup2, 1), (51, .iaload, 1), (52, .iconst 1, 1), (53, .iadd, 1), (54, .iastore, 1), (55, .aload_n 0, 1), (56, .iload_n 1, 1), (57, .invokevirtual 74, 3), (28, .aload_n 0, 1), (29, .getfield 31, 3), (32, .iload_n 1, 1), (33, .iconst 0, 1), (34, .iastore, 1), (35, .iinc 1 (-1), 3), (38, .goto (-31), 3)] = true := by decide +kernel
theorem dX10_nextLine_24 : decode cX10_nextLine 24 = .ok (.iaload, 1) := lw_dr lw_d_cX10_nextLine_24 0 rfl
theorem dX10_nextLine_25 : decode cX10_nextLine 25 = .ok (.if_icmp .lt 16, 3) := lw_dr lw_d_cX10_nextLine_24 1 rfl
theorem dX10_nextLine_45 : decode cX10_nextLine 45 = .ok (.aload_n 0, 1) := lw_dr lw_d_cX10_nextLine_24 2 rfl
theorem dX10_nextLine_46 : decode cX10_nextLine 46 = .ok (.getfield 31, 3) := lw_dr lw_d_cX10_nextLine_24 3 rfl
theorem dX10_nextLine_49 : decode cX10_nextLine 49 = .ok (.iload_n 1, 1) := lw_dr lw_d_cX10_nextLine_24 4 rfl
theorem dX10_nextLine_50 : decode cX10_nextLine 50 = .ok (.dup2, 1) := lw_dr lw_d_cX10_nextLine_24 5 rfl
theorem dX10_nextLine_51 : decode cX10_nextLine 51 = .ok (.iaload, 1) := lw_dr lw_d_cX10_nextLine_24 6 rfl
theorem dX10_nextLine_52 : decode cX10_nextLine 52 = .ok (.iconst 1, 1) := lw_dr lw_d_cX10_nextLine_24 7 rfl
theorem dX10_nextLine_53 : decode cX10_nextLine 53 = .ok (.iadd, 1) := lw_dr lw_d_cX10_nextLine_24 8 rfl
theorem dX10_nextLine_54 : decode cX10_nextLine 54 = .ok (.iastore, 1) := lw_dr lw_d_cX10_nextLine_24 9 rfl
theorem dX10_nextLine_55 : decode cX10_nextLine 55 = .ok (.aload_n 0, 1) := lw_dr lw_d_cX10_nextLine_24 10 rfl
theorem dX10_nextLine_56 : decode cX10_nextLine 56 = .ok (.iload_n 1, 1) := lw_dr lw_d_cX10_nextLine_24 11 rfl
theorem dX10_nextLine_57 : decode cX10_nextLine 57 = .ok (.invokevirtual 74, 3) := lw_dr lw_d_cX10_nextLine_24 12 rfl
theorem dX10_nextLine_28 : decode cX10_nextLine 28 = .ok (.aload_n 0, 1) := lw_dr lw_d_cX10_nextLine_24 13 rfl
theorem dX10_nextLine_29 : decode cX10_nextLine 29 = .ok (.getfield 31, 3) := lw_dr lw_d_cX10_nextLine_24 14 rfl
theorem dX10_nextLine_32 : decode cX10_nextLine 32 = .ok (.iload_n 1, 1) := lw_dr lw_d_cX10_nextLine_24 15 rfl
theorem dX10_nextLine_33 : decode cX10_nextLine 33 = .ok (.iconst 0, 1) := lw_dr lw_d_cX10_nextLine_24 16 rfl
theorem dX10_nextLine_34 : decode cX10_nextLine 34 = .ok (.iastore, 1) := lw_dr lw_d_cX10_nextLine_24 17 rfl
theorem dX10_nextLine_35 : decode cX10_nextLine 35 = .ok (.iinc 1 (-1), 3) := lw_dr lw_d_cX10_nextLine_24 18 rfl
theorem dX10_nextLine_38 : decode cX10_nextLine 38 = .ok (.goto (-31), 3) := lw_dr lw_d_cX10_nextLine_24 19 rfl
theorem lw_d_cX10_bestDigit_0 : lw_dl cX10_bestDigit [(0, .aload_n 0, 1), (1, .getfield 34, 3), (4, .iconst 5, 1), (5, .imul, 1), (6, .aload_n 0, 1), (7, .getfield 34, 3), (10, .iadd, 1), (11, .istore_n 2, 1), (12, .aload_n 0, 1), (13, .getfield 9, 3), (16, .iload_n 2, 1), (17, .laload, 1), (18, .aload_n 0, 1), (19, .getfield 25, 3), (22, .aload_n 0, 1), (23, .getfield 34, 3), (26, .iaload, 1), (27, .i2l, 1), (28, .lmul, 1), (29, .lstore_n 3, 1), (30, .lload_n 3, 1), (31, .lconst 0, 1), (32, .lcmp, 1), (33, .ifCond .gt 5, 3), (38, .aload_n 0, 1), (39, .getfield 18, 3), (42, .iload_n 2, 1), (43, .laload, 1), (44, .aload_n 0, 1), (45, .getfield 21, 3), (48, .aload_n 0, 1), (49, .getfield 34, 3), (52, .iaload, 1), (53, .i2l, 1), (54, .aload_n 0, 1), (55, .getfield 9, 3), (58, .iload_n 2, 1), (59, .laload, 1), (60, .lmul, 1), (61, .lsub, 1)] = true := by decide +kernel
theorem dX10_bestDigit_0 : decode cX10_bestDigit 0 = .ok (.aload_n 0, 1) := lw_dr lw_d_cX10_bestDigit_0 0 rfl
theorem dX10_bestDigit_1 : decode cX10_bestDigit 1 = .ok (.getfield 34, 3) := lw_dr lw_d_cX10_bestDigit_0 1 rfl
theorem dX10_bestDigit_4 : decode cX10_bestDigit 4 = .ok (.iconst 5, 1) := lw_dr lw_d_cX10_bestDigit_0 2 rfl
theorem dX10_bestDigit_5 : decode cX10_bestDigit 5 = .ok (.imul, 1) := lw_dr lw_d_cX10_bestDigit_0 3 rfl
theorem dX10_bestDigit_6 : decode cX10_bestDigit 6 = .ok (.aload_n 0, 1) := lw_dr lw_d_cX10_bestDigit_0 4 rfl
theorem dX10_bestDigit_7 : decode cX10_bestDigit 7 = .ok (.getfield 34, 3) := lw_dr lw_d_cX10_bestDigit_0 5 rfl
theorem dX10_bestDigit_10 : decode cX10_bestDigit 10 = .ok (.iadd, 1) := lw_dr lw_d_cX10_bestDigit_0 6 rfl
theorem dX10_bestDigit_11 : decode cX10_bestDigit 11 = .ok (.istore_n 2, 1) := lw_dr lw_d_cX10_bestDigit_0 7 rfl
theorem dX10_bestDigit_12 : decode cX10_bestDigit 12 = .ok (.aload_n 0, 1) := lw_dr lw_d_cX10_bestDigit_0 8 rfl
theorem dX10_bestDigit_13 : decode cX10_bestDigit 13 = .ok (.getfield 9, 3) := lw_dr lw_d_cX10_bestDigit_0 9 rfl
theorem dX10_bestDigit_16 : decode cX10_bestDigit 16 = .ok (.iload_n 2, 1) := lw_dr lw_d_cX10_bestDigit_0 10 rfl
theorem dX10_bestDigit_17 : decode cX10_bestDigit 17 = .ok (.laload, 1) := lw_dr lw_d_cX10_bestDigit_0 11 rfl
theorem dX10_bestDigit_18 : decode cX10_bestDigit 18 = .ok (.aload_n 0, 1) := lw_dr lw_d_cX10_bestDigit_0 12 rfl
theorem dX10_bestDigit_19 : decode cX10_bestDigit 19 = .ok (.getfield 25, 3) := lw_dr lw_d_cX10_bestDigit_0 13 rfl
theorem dX10_bestDigit_22 : decode cX10_bestDigit 22 = .ok (.aload_n 0, 1) := lw_dr lw_d_cX10_bestDigit_0 14 rfl
theorem dX10_bestDigit_23 : decode cX10_bestDigit 23 = .ok (.getfield 34, 3) := lw_dr lw_d_cX10_bestDigit_0 15 rfl
theorem dX10_bestDigit_26 : decode cX10_bestDigit 26 = .ok (.iaload, 1) := lw_dr lw_d_cX10_bestDigit_0 16 rfl
theorem dX10_bestDigit_27 : decode cX10_bestDigit 27 = .ok (.i2l, 1) := lw_dr lw_d_cX10_bestDigit_0 17 rfl
theorem dX10_bestDigit_28 : decode cX10_bestDigit 28 = .ok (.lmul, 1) := lw_dr lw_d_cX10_bestDigit_0 18 rfl
theorem dX10_bestDigit_29 : decode cX10_bestDigit 29 = .ok (.lstore_n 3, 1) := lw_dr lw_d_cX10_bestDigit_0 19 rfl
theorem dX10_bestDigit_30 : decode cX10_bestDigit 30 = .ok (.lload_n 3, 1) := lw_dr lw_d_cX10_bestDigit_0 20 rfl
theorem dX10_bestDigit_31 : decode cX10_bestDigit 31 = .ok (.lconst 0, 1) := lw_dr lw_d_cX10_bestDigit_0 21 rfl
theorem dX10_bestDigit_32 : decode cX10_bestDigit 32 = .ok (.lcmp, 1) := lw_dr lw_d_cX10_bestDigit_0 22 rfl
theorem dX10_bestDigit_33 : decode cX10_bestDigit 33 = .ok (.ifCond .gt 5, 3) := lw_dr lw_d_cX10_bestDigit_0 23 rfl
theorem dX10_bestDigit_38 : decode cX10_bestDigit 38 = .ok (.aload_n 0, 1) := lw_dr lw_d_cX10_bestDigit_0 24 rfl
theorem dX10_bestDigit_39 : decode cX10_bestDigit 39 = .ok (.getfield 18, 3) := lw_dr lw_d_cX10_bestDigit_0 25 rfl
theorem dX10_bestDigit_42 : decode cX10_bestDigit 42 = .ok (.iload_n 2, 1) := lw_dr lw_d_cX10_bestDigit_0 26 rfl
theorem dX10_bestDigit_43 : decode cX10_bestDigit 43 = .ok (.laload, 1) := lw_dr lw_d_cX10_bestDigit_0 27 rfl
theorem dX10_bestDigit_44 : decode cX10_bestDigit 44 = .ok (.aload_n 0, 1) := lw_dr lw_d_cX10_bestDigit_0 28 rfl
theorem dX10_bestDigit_45 : decode cX10_bestDigit 45 = .ok (.getfield 21, 3) := lw_dr lw_d_cX10_bestDigit_0 29 rfl
theorem dX10_bestDigit_48 : decode cX10_bestDigit 48 = .ok (.aload_n 0, 1) := lw_dr lw_d_cX10_bestDigit_0 30 rfl
theorem dX10_bestDigit_49 : decode cX10_bestDigit 49 = .ok (.getfield 34, 3) := lw_dr lw_d_cX10_bestDigit_0 31 rfl
theorem dX10_bestDigit_52 : decode cX10_bestDigit 52 = .ok (.iaload, 1) := lw_dr lw_d_cX10_bestDigit_0 32 rfl
theorem dX10_bestDigit_53 : decode cX10_bestDigit 53 = .ok (.i2l, 1) := lw_dr lw_d_cX10_bestDigit_0 33 rfl
theorem dX10_bestDigit_54 : decode cX10_bestDigit 54 = .ok (.aload_n 0, 1) := lw_dr lw_d_cX10_bestDigit_0 34 rfl
theorem dX10_bestDigit_55 : decode cX10_bestDigit 55 = .ok (.getfield 9, 3) := lw_dr lw_d_cX10_bestDigit_0 35 rfl
theorem dX10_bestDigit_58 : decode cX10_bestDigit 58 = .ok (.iload_n 2, 1) := lw_dr lw_d_cX10_bestDigit_0 36 rfl
theorem dX10_bestDigit_59 : decode cX10_bestDigit 59 = .ok (.laload, 1) := lw_dr lw_d_cX10_bestDigit_0 37 rfl
theorem dX10_bestDigit_60 : decode cX10_bestDigit 60 = .ok (.lmul, 1) := lw_dr lw_d_cX10_bestDigit_0 38 rfl
theorem dX10_bestDigit_61 : decode cX10_bestDigit 61 = .ok (.lsub, 1) := lw_dr lw_d_cX10_bestDigit_0 39 rfl
theorem lw_d_cX10_bestDigit_62 : lw_dl cX10_bestDigit [(62, .lload_n 3, 1), (63, .invokestatic 80, 3), (66, .lstore 5, 2), (68, .lconst 0, 1), (69, .iload_n 1, 1), (70, .iconst 1, 1), (71, .isub, 1), (72, .i2l, 1), (73, .lload 5, 2), (75, .invokestatic 84, 3), (78, .invokestatic 87, 3), (81, .l2i, 1), (82, .istore 7, 2), (84, .iload 7, 2), (86, .iconst 1, 1), (87, .iadd, 1), (88, .iload_n 1, 1), (89, .if_icmp .ge 28, 3), (117, .iload 7, 2), (119, .ireturn, 1), (92, .aload_n 0, 1), (93, .iload 7, 2), (95, .iconst 1, 1), (96, .iadd, 1), (97, .invokevirtual 89, 3), (100, .aload_n 0, 1), (101, .iload 7, 2), (103, .invokevirtual 89, 3), (106, .lcmp, 1), (107, .ifCond .ge 10, 3), (110, .iload 7, 2), (112, .iconst 1, 1), (113, .iadd, 1), (114, .goto 5, 3), (36, .iconst 0, 1), (37, .ireturn, 1)] = true := by decide +kernel
theorem dX10_bestDigit_62 : decode cX10_bestDigit 62 = .ok (.lload_n 3, 1) := lw_dr lw_d_cX10_bestDigit_62 0 rfl
theorem dX10_bestDigit_63 : decode cX10_bestDigit 63 = .ok (.invokestatic 80, 3) := lw_dr lw_d_cX10_bestDigit_62 1 rfl
theorem dX10_bestDigit_66 : decode cX10_bestDigit 66 = .ok (.lstore 5, 2) := lw_dr lw_d_cX10_bestDigit_62 2 rfl
theorem dX10_bestDigit_68 : decode cX10_bestDigit 68 = .ok (.lconst 0, 1) := lw_dr lw_d_cX10_bestDigit_62 3 rfl
theorem dX10_bestDigit_69 : decode cX10_bestDigit 69 = .ok (.iload_n 1, 1) := lw_dr lw_d_cX10_bestDigit_62 4 rfl
theorem dX10_bestDigit_70 : decode cX10_bestDigit 70 = .ok (.iconst 1, 1) := lw_dr lw_d_cX10_bestDigit_62 5 rfl
theorem dX10_bestDigit_71 : decode cX10_bestDigit 71 = .ok (.isub, 1) := lw_dr lw_d_cX10_bestDigit_62 6 rfl
theorem dX10_bestDigit_72 : decode cX10_bestDigit 72 = .ok (.i2l, 1) := lw_dr lw_d_cX10_bestDigit_62 7 rfl
theorem dX10_bestDigit_73 : decode cX10_bestDigit 73 = .ok (.lload 5, 2) := lw_dr lw_d_cX10_bestDigit_62 8 rfl
theorem dX10_bestDigit_75 : decode cX10_bestDigit 75 = .ok (.invokestatic 84, 3) := lw_dr lw_d_cX10_bestDigit_62 9 rfl
theorem dX10_bestDigit_78 : decode cX10_bestDigit 78 = .ok (.invokestatic 87, 3) := lw_dr lw_d_cX10_bestDigit_62 10 rfl
theorem dX10_bestDigit_81 : decode cX10_bestDigit 81 = .ok (.l2i, 1) := lw_dr lw_d_cX10_bestDigit_62 11 rfl
theorem dX10_bestDigit_82 : decode cX10_bestDigit 82 = .ok (.istore 7, 2) := lw_dr lw_d_cX10_bestDigit_62 12 rfl
theorem dX10_bestDigit_84 : decode cX10_bestDigit 84 = .ok (.iload 7, 2) := lw_dr lw_d_cX10_bestDigit_62 13 rfl
theorem dX10_bestDigit_86 : decode cX10_bestDigit 86 = .ok (.iconst 1, 1) := lw_dr lw_d_cX10_bestDigit_62 14 rfl
theorem dX10_bestDigit_87 : decode cX10_bestDigit 87 = .ok (.iadd, 1) := lw_dr lw_d_cX10_bestDigit_62 15 rfl
theorem dX10_bestDigit_88 : decode cX10_bestDigit 88 = .ok (.iload_n 1, 1) := lw_dr lw_d_cX10_bestDigit_62 16 rfl
theorem dX10_bestDigit_89 : decode cX10_bestDigit 89 = .ok (.if_icmp .ge 28, 3) := lw_dr lw_d_cX10_bestDigit_62 17 rfl
theorem dX10_bestDigit_117 : decode cX10_bestDigit 117 = .ok (.iload 7, 2) := lw_dr lw_d_cX10_bestDigit_62 18 rfl
theorem dX10_bestDigit_119 : decode cX10_bestDigit 119 = .ok (.ireturn, 1) := lw_dr lw_d_cX10_bestDigit_62 19 rfl
theorem dX10_bestDigit_92 : decode cX10_bestDigit 92 = .ok (.aload_n 0, 1) := lw_dr lw_d_cX10_bestDigit_62 20 rfl
theorem dX10_bestDigit_93 : decode cX10_bestDigit 93 = .ok (.iload 7, 2) := lw_dr lw_d_cX10_bestDigit_62 21 rfl
theorem dX10_bestDigit_95 : decode cX10_bestDigit 95 = .ok (.iconst 1, 1) := lw_dr lw_d_cX10_bestDigit_62 22 rfl
theorem dX10_bestDigit_96 : decode cX10_bestDigit 96 = .ok (.iadd, 1) := lw_dr lw_d_cX10_bestDigit_62 23 rfl
theorem dX10_bestDigit_97 : decode cX10_bestDigit 97 = .ok (.invokevirtual 89, 3) := lw_dr lw_d_cX10_bestDigit_62 24 rfl
theorem dX10_bestDigit_100 : decode cX10_bestDigit 100 = .ok (.aload_n 0, 1) := lw_dr lw_d_cX10_bestDigit_62 25 rfl
theorem dX10_bestDigit_101 : decode cX10_bestDigit 101 = .ok (.iload 7, 2) := lw_dr lw_d_cX10_bestDigit_62 26 rfl
theorem dX10_bestDigit_103 : decode cX10_bestDigit 103 = .ok (.invokevirtual 89, 3) := lw_dr lw_d_cX10_bestDigit_62 27 rfl
theorem dX10_bestDigit_106 : decode cX10_bestDigit 106 = .ok (.lcmp, 1) := lw_dr lw_d_cX10_bestDigit_62 28 rfl
theorem dX10_bestDigit_107 : decode cX10_bestDigit 107 = .ok (.ifCond .ge 10, 3) := lw_dr lw_d_cX10_bestDigit_62 29 rfl
theorem dX10_bestDigit_110 : decode cX10_bestDigit 110 = .ok (.iload 7, 2) := lw_dr lw_d_cX10_bestDigit_62 30 rfl
theorem dX10_bestDigit_112 : decode cX10_bestDigit 112 = .ok (.iconst 1, 1) := lw_dr lw_d_cX10_bestDigit_62 31 rfl
theorem dX10_bestDigit_113 : decode cX10_bestDigit 113 = .ok (.iadd, 1) := lw_dr lw_d_cX10_bestDigit_62 32 rfl
theorem dX10_bestDigit_114 : decode cX10_bestDigit 114 = .ok (.goto 5, 3) := lw_dr lw_d_cX10_bestDigit_62 33 rfl
theorem dX10_bestDigit_36 : decode cX10_bestDigit 36 = .ok (.iconst 0, 1) := lw_dr lw_d_cX10_bestDigit_62 34 rfl
theorem dX10_bestDigit_37 : decode cX10_bestDigit 37 = .ok (.ireturn, 1) := lw_dr lw_d_cX10_bestDigit_62 35 rfl
theorem lw_d_cX0_forget_0 : lw_dl cX0_forget [(0, .aload_n 0, 1), (1, .iconst 0, 1), (2, .putfield 23, 3), (5, .return_, 1)] = true := by decide +kernel
theorem dX0_forget_0 : decode cX0_forget 0 = .ok (.aload_n 0, 1) := lw_dr lw_d_cX0_forget_0 0 rfl
theorem dX0_forget_1 : decode cX0_forget 1 = .ok (.iconst 0, 1) := lw_dr lw_d_cX0_forget_0 1 rfl
theorem dX0_forget_2 : decode cX0_forget 2 = .ok (.putfield 23, 3) := lw_dr lw_d_cX0_forget_0 2 rfl
theorem dX0_forget_5 : decode cX0_forget 5 = .ok (.return_, 1) := lw_dr lw_d_cX0_forget_0 3 rfl
theorem lw_d_cX0_learn_0 : lw_dl cX0_learn [(0, .aload_n 0, 1), (1, .getfield 23, 3), (4, .ifCond .eq 4, 3), (8, .aload_n 0, 1), (9, .iconst 1, 1), (10, .putfield 23, 3), (13, .aload_n 0, 1), (14, .aload_n 1, 1), (15, .getfield 37, 3), (18, .putfield 19, 3), (21, .iconst 0, 1), (22, .istore_n 2, 1), (23, .iload_n 2, 1), (24, .aload_n 0, 1), (25, .getfield 19, 3), (28, .if_icmp .ge 45, 3), (73, .return_, 1), (31, .iload_n 2, 1), (32, .iconst 1, 1), (33, .iadd, 1), (34, .istore_n 3, 1), (35, .iload_n 3, 1), (36, .aload_n 0, 1), (37, .getfield 19, 3), (40, .if_icmp .ge 27, 3), (67, .iinc 2 1, 3), (70, .goto (-47), 3), (43, .aload_n 0, 1), (44, .getfield 9, 3), (47, .iload_n 2, 1), (48, .bipush 16, 2), (50, .imul, 1), (51, .iload_n 3, 1), (52, .iadd, 1), (53, .aload_n 0, 1), (54, .aload_n 1, 1), (55, .iload_n 2, 1), (56, .iload_n 3, 1), (57, .invokevirtual 42, 3), (60, .lastore, 1)] = true := by decide +kernel
theorem dX0_learn_0 : decode cX0_learn 0 = .ok (.aload_n 0, 1) := lw_dr lw_d_cX0_learn_0 0 rfl
theorem dX0_learn_1 : decode cX0_learn 1 = .ok (.getfield 23, 3) := lw_dr lw_d_cX0_learn_0 1 rfl
theorem dX0_learn_4 : decode cX0_learn 4 = .ok (.ifCond .eq 4, 3) := lw_dr lw_d_cX0_learn_0 2 rfl
theorem dX0_learn_8 : decode cX0_learn 8 = .ok (.aload_n 0, 1) := lw_dr lw_d_cX0_learn_0 3 rfl
theorem dX0_learn_9 : decode cX0_learn 9 = .ok (.iconst 1, 1) := lw_dr lw_d_cX0_learn_0 4 rfl
theorem dX0_learn_10 : decode cX0_learn 10 = .ok (.putfield 23, 3) := lw_dr lw_d_cX0_learn_0 5 rfl
theorem dX0_learn_13 : decode cX0_learn 13 = .ok (.aload_n 0, 1) := lw_dr lw_d_cX0_learn_0 6 rfl
theorem dX0_learn_14 : decode cX0_learn 14 = .ok (.aload_n 1, 1) := lw_dr lw_d_cX0_learn_0 7 rfl
theorem dX0_learn_15 : decode cX0_learn 15 = .ok (.getfield 37, 3) := lw_dr lw_d_cX0_learn_0 8 rfl
theorem dX0_learn_18 : decode cX0_learn 18 = .ok (.putfield 19, 3) := lw_dr lw_d_cX0_learn_0 9 rfl
theorem dX0_learn_21 : decode cX0_learn 21 = .ok (.iconst 0, 1) := lw_dr lw_d_cX0_learn_0 10 rfl
theorem dX0_learn_22 : decode cX0_learn 22 = .ok (.istore_n 2, 1) := lw_dr lw_d_cX0_learn_0 11 rfl
theorem dX0_learn_23 : decode cX0_learn 23 = .ok (.iload_n 2, 1) := lw_dr lw_d_cX0_learn_0 12 rfl
theorem dX0_learn_24 : decode cX0_learn 24 = .ok (.aload_n 0, 1) := lw_dr lw_d_cX0_learn_0 13 rfl
theorem dX0_learn_25 : decode cX0_learn 25 = .ok (.getfield 19, 3) := lw_dr lw_d_cX0_learn_0 14 rfl
theorem dX0_learn_28 : decode cX0_learn 28 = .ok (.if_icmp .ge 45, 3) := lw_dr lw_d_cX0_learn_0 15 rfl
theorem dX0_learn_73 : decode cX0_learn 73 = .ok (.return_, 1) := lw_dr lw_d_cX0_learn_0 16 rfl
theorem dX0_learn_31 : decode cX0_learn 31 = .ok (.iload_n 2, 1) := lw_dr lw_d_cX0_learn_0 17 rfl
theorem dX0_learn_32 : decode cX0_learn 32 = .ok (.iconst 1, 1) := lw_dr lw_d_cX0_learn_0 18 rfl
theorem dX0_learn_33 : decode cX0_learn 33 = .ok (.iadd, 1) := lw_dr lw_d_cX0_learn_0 19 rfl
theorem dX0_learn_34 : decode cX0_learn 34 = .ok (.istore_n 3, 1) := lw_dr lw_d_cX0_learn_0 20 rfl
theorem dX0_learn_35 : decode cX0_learn 35 = .ok (.iload_n 3, 1) := lw_dr lw_d_cX0_learn_0 21 rfl
theorem dX0_learn_36 : decode cX0_learn 36 = .ok (.aload_n 0, 1) := lw_dr lw_d_cX0_learn_0 22 rfl
theorem dX0_learn_37 : decode cX0_learn 37 = .ok (.getfield 19, 3) := lw_dr lw_d_cX0_learn_0 23 rfl
theorem dX0_learn_40 : decode cX0_learn 40 = .ok (.if_icmp .ge 27, 3) := lw_dr lw_d_cX0_learn_0 24 rfl
theorem dX0_learn_67 : decode cX0_learn 67 = .ok (.iinc 2 1, 3) := lw_dr lw_d_cX0_learn_0 25 rfl
theorem dX0_learn_70 : decode cX0_learn 70 = .ok (.goto (-47), 3) := lw_dr lw_d_cX0_learn_0 26 rfl
theorem dX0_learn_43 : decode cX0_learn 43 = .ok (.aload_n 0, 1) := lw_dr lw_d_cX0_learn_0 27 rfl
theorem dX0_learn_44 : decode cX0_learn 44 = .ok (.getfield 9, 3) := lw_dr lw_d_cX0_learn_0 28 rfl
theorem dX0_learn_47 : decode cX0_learn 47 = .ok (.iload_n 2, 1) := lw_dr lw_d_cX0_learn_0 29 rfl
theorem dX0_learn_48 : decode cX0_learn 48 = .ok (.bipush 16, 2) := lw_dr lw_d_cX0_learn_0 30 rfl
theorem dX0_learn_50 : decode cX0_learn 50 = .ok (.imul, 1) := lw_dr lw_d_cX0_learn_0 31 rfl
theorem dX0_learn_51 : decode cX0_learn 51 = .ok (.iload_n 3, 1) := lw_dr lw_d_cX0_learn_0 32 rfl
theorem dX0_learn_52 : decode cX0_learn 52 = .ok (.iadd, 1) := lw_dr lw_d_cX0_learn_0 33 rfl
theorem dX0_learn_53 : decode cX0_learn 53 = .ok (.aload_n 0, 1) := lw_dr lw_d_cX0_learn_0 34 rfl
theorem dX0_learn_54 : decode cX0_learn 54 = .ok (.aload_n 1, 1) := lw_dr lw_d_cX0_learn_0 35 rfl
theorem dX0_learn_55 : decode cX0_learn 55 = .ok (.iload_n 2, 1) := lw_dr lw_d_cX0_learn_0 36 rfl
theorem dX0_learn_56 : decode cX0_learn 56 = .ok (.iload_n 3, 1) := lw_dr lw_d_cX0_learn_0 37 rfl
theorem dX0_learn_57 : decode cX0_learn 57 = .ok (.invokevirtual 42, 3) := lw_dr lw_d_cX0_learn_0 38 rfl
theorem dX0_learn_60 : decode cX0_learn 60 = .ok (.lastore, 1) := lw_dr lw_d_cX0_learn_0 39 rfl
theorem lw_d_cX0_learn_61 : lw_dl cX0_learn [(61, .iinc 3 1, 3), (64, .goto (-29), 3), (7, .return_, 1)] = true := by decide +kernel
theorem dX0_learn_61 : decode cX0_learn 61 = .ok (.iinc 3 1, 3) := lw_dr lw_d_cX0_learn_61 0 rfl
theorem dX0_learn_64 : decode cX0_learn 64 = .ok (.goto (-29), 3) := lw_dr lw_d_cX0_learn_61 1 rfl
theorem dX0_learn_7 : decode cX0_learn 7 = .ok (.return_, 1) := lw_dr lw_d_cX0_learn_61 2 rfl
theorem lw_d_cX0_worthOfPair_0 : lw_dl cX0_worthOfPair [(0, .iconst 0, 1), (1, .istore 4, 2), (3, .iload 4, 2), (5, .aload_n 1, 1), (6, .getfield 46, 3), (9, .if_icmp .ge 31, 3), (40, .lconst 0, 1), (41, .lstore 4, 2), (43, .iconst 0, 1), (44, .istore 6, 2), (46, .iload 6, 2), (48, .aload_n 1, 1), (49, .getfield 53, 3), (52, .if_icmp .ge 39, 3), (91, .lload 4, 2), (93, .lreturn, 1), (55, .aload_n 1, 1), (56, .getfield 56, 3), (59, .iload 6, 2), (61, .aload_n 0, 1), (62, .getfield 15, 3), (65, .aload_n 1, 1), (66, .getfield 46, 3), (69, .invokevirtual 60, 3), (72, .i2l, 1), (73, .lstore 7, 2), (75, .lload 4, 2), (77, .lload 7, 2), (79, .lload 7, 2), (81, .lmul, 1), (82, .ladd, 1), (83, .lstore 4, 2), (85, .iinc 6 1, 3), (88, .goto (-42), 3), (12, .aload_n 0, 1), (13, .getfield 15, 3), (16, .iload 4, 2), (18, .aload_n 1, 1), (19, .iload_n 2, 1), (20, .iload 4, 2)] = true := by decide +kernel
theorem dX0_worthOfPair_0 : decode cX0_worthOfPair 0 = .ok (.iconst 0, 1) := lw_dr lw_d_cX0_worthOfPair_0 0 rfl
theorem dX0_worthOfPair_1 : decode cX0_worthOfPair 1 = .ok (.istore 4, 2) := lw_dr lw_d_cX0_worthOfPair_0 1 rfl
theorem dX0_worthOfPair_3 : decode cX0_worthOfPair 3 = .ok (.iload 4, 2) := lw_dr lw_d_cX0_worthOfPair_0 2 rfl
theorem dX0_worthOfPair_5 : decode cX0_worthOfPair 5 = .ok (.aload_n 1, 1) := lw_dr lw_d_cX0_worthOfPair_0 3 rfl
theorem dX0_worthOfPair_6 : decode cX0_worthOfPair 6 = .ok (.getfield 46, 3) := lw_dr lw_d_cX0_worthOfPair_0 4 rfl
theorem dX0_worthOfPair_9 : decode cX0_worthOfPair 9 = .ok (.if_icmp .ge 31, 3) := lw_dr lw_d_cX0_worthOfPair_0 5 rfl
theorem dX0_worthOfPair_40 : decode cX0_worthOfPair 40 = .ok (.lconst 0, 1) := lw_dr lw_d_cX0_worthOfPair_0 6 rfl
theorem dX0_worthOfPair_41 : decode cX0_worthOfPair 41 = .ok (.lstore 4, 2) := lw_dr lw_d_cX0_worthOfPair_0 7 rfl
theorem dX0_worthOfPair_43 : decode cX0_worthOfPair 43 = .ok (.iconst 0, 1) := lw_dr lw_d_cX0_worthOfPair_0 8 rfl
theorem dX0_worthOfPair_44 : decode cX0_worthOfPair 44 = .ok (.istore 6, 2) := lw_dr lw_d_cX0_worthOfPair_0 9 rfl
theorem dX0_worthOfPair_46 : decode cX0_worthOfPair 46 = .ok (.iload 6, 2) := lw_dr lw_d_cX0_worthOfPair_0 10 rfl
theorem dX0_worthOfPair_48 : decode cX0_worthOfPair 48 = .ok (.aload_n 1, 1) := lw_dr lw_d_cX0_worthOfPair_0 11 rfl
theorem dX0_worthOfPair_49 : decode cX0_worthOfPair 49 = .ok (.getfield 53, 3) := lw_dr lw_d_cX0_worthOfPair_0 12 rfl
theorem dX0_worthOfPair_52 : decode cX0_worthOfPair 52 = .ok (.if_icmp .ge 39, 3) := lw_dr lw_d_cX0_worthOfPair_0 13 rfl
theorem dX0_worthOfPair_91 : decode cX0_worthOfPair 91 = .ok (.lload 4, 2) := lw_dr lw_d_cX0_worthOfPair_0 14 rfl
theorem dX0_worthOfPair_93 : decode cX0_worthOfPair 93 = .ok (.lreturn, 1) := lw_dr lw_d_cX0_worthOfPair_0 15 rfl
theorem dX0_worthOfPair_55 : decode cX0_worthOfPair 55 = .ok (.aload_n 1, 1) := lw_dr lw_d_cX0_worthOfPair_0 16 rfl
theorem dX0_worthOfPair_56 : decode cX0_worthOfPair 56 = .ok (.getfield 56, 3) := lw_dr lw_d_cX0_worthOfPair_0 17 rfl
theorem dX0_worthOfPair_59 : decode cX0_worthOfPair 59 = .ok (.iload 6, 2) := lw_dr lw_d_cX0_worthOfPair_0 18 rfl
theorem dX0_worthOfPair_61 : decode cX0_worthOfPair 61 = .ok (.aload_n 0, 1) := lw_dr lw_d_cX0_worthOfPair_0 19 rfl
theorem dX0_worthOfPair_62 : decode cX0_worthOfPair 62 = .ok (.getfield 15, 3) := lw_dr lw_d_cX0_worthOfPair_0 20 rfl
theorem dX0_worthOfPair_65 : decode cX0_worthOfPair 65 = .ok (.aload_n 1, 1) := lw_dr lw_d_cX0_worthOfPair_0 21 rfl
theorem dX0_worthOfPair_66 : decode cX0_worthOfPair 66 = .ok (.getfield 46, 3) := lw_dr lw_d_cX0_worthOfPair_0 22 rfl
theorem dX0_worthOfPair_69 : decode cX0_worthOfPair 69 = .ok (.invokevirtual 60, 3) := lw_dr lw_d_cX0_worthOfPair_0 23 rfl
theorem dX0_worthOfPair_72 : decode cX0_worthOfPair 72 = .ok (.i2l, 1) := lw_dr lw_d_cX0_worthOfPair_0 24 rfl
theorem dX0_worthOfPair_73 : decode cX0_worthOfPair 73 = .ok (.lstore 7, 2) := lw_dr lw_d_cX0_worthOfPair_0 25 rfl
theorem dX0_worthOfPair_75 : decode cX0_worthOfPair 75 = .ok (.lload 4, 2) := lw_dr lw_d_cX0_worthOfPair_0 26 rfl
theorem dX0_worthOfPair_77 : decode cX0_worthOfPair 77 = .ok (.lload 7, 2) := lw_dr lw_d_cX0_worthOfPair_0 27 rfl
theorem dX0_worthOfPair_79 : decode cX0_worthOfPair 79 = .ok (.lload 7, 2) := lw_dr lw_d_cX0_worthOfPair_0 28 rfl
theorem dX0_worthOfPair_81 : decode cX0_worthOfPair 81 = .ok (.lmul, 1) := lw_dr lw_d_cX0_worthOfPair_0 29 rfl
theorem dX0_worthOfPair_82 : decode cX0_worthOfPair 82 = .ok (.ladd, 1) := lw_dr lw_d_cX0_worthOfPair_0 30 rfl
theorem dX0_worthOfPair_83 : decode cX0_worthOfPair 83 = .ok (.lstore 4, 2) := lw_dr lw_d_cX0_worthOfPair_0 31 rfl
theorem dX0_worthOfPair_85 : decode cX0_worthOfPair 85 = .ok (.iinc 6 1, 3) := lw_dr lw_d_cX0_worthOfPair_0 32 rfl
theorem dX0_worthOfPair_88 : decode cX0_worthOfPair 88 = .ok (.goto (-42), 3) := lw_dr lw_d_cX0_worthOfPair_0 33 rfl
theorem dX0_worthOfPair_12 : decode cX0_worthOfPair 12 = .ok (.aload_n 0, 1) := lw_dr lw_d_cX0_worthOfPair_0 34 rfl
theorem dX0_worthOfPair_13 : decode cX0_worthOfPair 13 = .ok (.getfield 15, 3) := lw_dr lw_d_cX0_worthOfPair_0 35 rfl
theorem dX0_worthOfPair_16 : decode cX0_worthOfPair 16 = .ok (.iload 4, 2) := lw_dr lw_d_cX0_worthOfPair_0 36 rfl
theorem dX0_worthOfPair_18 : decode cX0_worthOfPair 18 = .ok (.aload_n 1, 1) := lw_dr lw_d_cX0_worthOfPair_0 37 rfl
theorem dX0_worthOfPair_19 : decode cX0_worthOfPair 19 = .ok (.iload_n 2, 1) := lw_dr lw_d_cX0_worthOfPair_0 38 rfl
theorem dX0_worthOfPair_20 : decode cX0_worthOfPair 20 = .ok (.iload 4, 2) := lw_dr lw_d_cX0_worthOfPair_0 39 rfl
theorem lw_d_cX0_worthOfPair_22 : lw_dl cX0_worthOfPair [(22, .invokevirtual 49, 3), (25, .aload_n 1, 1), (26, .iload_n 3, 1), (27, .iload 4, 2), (29, .invokevirtual 49, 3), (32, .isub, 1), (33, .iastore, 1), (34, .iinc 4 1, 3), (37, .goto (-34), 3)] = true := by decide +kernel
theorem dX0_worthOfPair_22 : decode cX0_worthOfPair 22 = .ok (.invokevirtual 49, 3) := lw_dr lw_d_cX0_worthOfPair_22 0 rfl
theorem dX0_worthOfPair_25 : decode cX0_worthOfPair 25 = .ok (.aload_n 1, 1) := lw_dr lw_d_cX0_worthOfPair_22 1 rfl
theorem dX0_worthOfPair_26 : decode cX0_worthOfPair 26 = .ok (.iload_n 3, 1) := lw_dr lw_d_cX0_worthOfPair_22 2 rfl
theorem dX0_worthOfPair_27 : decode cX0_worthOfPair 27 = .ok (.iload 4, 2) := lw_dr lw_d_cX0_worthOfPair_22 3 rfl
theorem dX0_worthOfPair_29 : decode cX0_worthOfPair 29 = .ok (.invokevirtual 49, 3) := lw_dr lw_d_cX0_worthOfPair_22 4 rfl
theorem dX0_worthOfPair_32 : decode cX0_worthOfPair 32 = .ok (.isub, 1) := lw_dr lw_d_cX0_worthOfPair_22 5 rfl
theorem dX0_worthOfPair_33 : decode cX0_worthOfPair 33 = .ok (.iastore, 1) := lw_dr lw_d_cX0_worthOfPair_22 6 rfl
theorem dX0_worthOfPair_34 : decode cX0_worthOfPair 34 = .ok (.iinc 4 1, 3) := lw_dr lw_d_cX0_worthOfPair_22 7 rfl
theorem dX0_worthOfPair_37 : decode cX0_worthOfPair 37 = .ok (.goto (-34), 3) := lw_dr lw_d_cX0_worthOfPair_22 8 rfl
theorem lw_d_cX0_findLeast_0 : lw_dl cX0_findLeast [(0, .aload_n 0, 1), (1, .ldc2_w 66, 3), (4, .putfield 27, 3), (7, .aload_n 0, 1), (8, .iconst 0, 1), (9, .putfield 31, 3), (12, .iconst 0, 1), (13, .istore_n 2, 1), (14, .iload_n 2, 1), (15, .aload_n 0, 1), (16, .getfield 19, 3), (19, .if_icmp .ge 43, 3), (62, .return_, 1), (22, .iload_n 2, 1), (23, .iconst 1, 1), (24, .iadd, 1), (25, .istore_n 3, 1), (26, .iload_n 3, 1), (27, .aload_n 0, 1), (28, .getfield 19, 3), (31, .if_icmp .ge 25, 3), (56, .iinc 2 1, 3), (59, .goto (-45), 3), (34, .iload_n 2, 1), (35, .iload_n 1, 1), (36, .if_icmp .eq 14, 3), (50, .iinc 3 1, 3), (53, .goto (-27), 3), (39, .iload_n 3, 1), (40, .iload_n 1, 1), (41, .if_icmp .eq 9, 3), (44, .aload_n 0, 1), (45, .iload_n 2, 1), (46, .iload_n 3, 1), (47, .invokevirtual 68, 3)] = true := by decide +kernel
theorem dX0_findLeast_0 : decode cX0_findLeast 0 = .ok (.aload_n 0, 1) := lw_dr lw_d_cX0_findLeast_0 0 rfl
theorem dX0_findLeast_1 : decode cX0_findLeast 1 = .ok (.ldc2_w 66, 3) := lw_dr lw_d_cX0_findLeast_0 1 rfl
theorem dX0_findLeast_4 : decode cX0_findLeast 4 = .ok (.putfield 27, 3) := lw_dr lw_d_cX0_findLeast_0 2 rfl
theorem dX0_findLeast_7 : decode cX0_findLeast 7 = .ok (.aload_n 0, 1) := lw_dr lw_d_cX0_findLeast_0 3 rfl
theorem dX0_findLeast_8 : decode cX0_findLeast 8 = .ok (.iconst 0, 1) := lw_dr lw_d_cX0_findLeast_0 4 rfl
theorem dX0_findLeast_9 : decode cX0_findLeast 9 = .ok (.putfield 31, 3) := lw_dr lw_d_cX0_findLeast_0 5 rfl
theorem dX0_findLeast_12 : decode cX0_findLeast 12 = .ok (.iconst 0, 1) := lw_dr lw_d_cX0_findLeast_0 6 rfl
theorem dX0_findLeast_13 : decode cX0_findLeast 13 = .ok (.istore_n 2, 1) := lw_dr lw_d_cX0_findLeast_0 7 rfl
theorem dX0_findLeast_14 : decode cX0_findLeast 14 = .ok (.iload_n 2, 1) := lw_dr lw_d_cX0_findLeast_0 8 rfl
theorem dX0_findLeast_15 : decode cX0_findLeast 15 = .ok (.aload_n 0, 1) := lw_dr lw_d_cX0_findLeast_0 9 rfl
theorem dX0_findLeast_16 : decode cX0_findLeast 16 = .ok (.getfield 19, 3) := lw_dr lw_d_cX0_findLeast_0 10 rfl
theorem dX0_findLeast_19 : decode cX0_findLeast 19 = .ok (.if_icmp .ge 43, 3) := lw_dr lw_d_cX0_findLeast_0 11 rfl
theorem dX0_findLeast_62 : decode cX0_findLeast 62 = .ok (.return_, 1) := lw_dr lw_d_cX0_findLeast_0 12 rfl
theorem dX0_findLeast_22 : decode cX0_findLeast 22 = .ok (.iload_n 2, 1) := lw_dr lw_d_cX0_findLeast_0 13 rfl
theorem dX0_findLeast_23 : decode cX0_findLeast 23 = .ok (.iconst 1, 1) := lw_dr lw_d_cX0_findLeast_0 14 rfl
theorem dX0_findLeast_24 : decode cX0_findLeast 24 = .ok (.iadd, 1) := lw_dr lw_d_cX0_findLeast_0 15 rfl
theorem dX0_findLeast_25 : decode cX0_findLeast 25 = .ok (.istore_n 3, 1) := lw_dr lw_d_cX0_findLeast_0 16 rfl
theorem dX0_findLeast_26 : decode cX0_findLeast 26 = .ok (.iload_n 3, 1) := lw_dr lw_d_cX0_findLeast_0 17 rfl
theorem dX0_findLeast_27 : decode cX0_findLeast 27 = .ok (.aload_n 0, 1) := lw_dr lw_d_cX0_findLeast_0 18 rfl
theorem dX0_findLeast_28 : decode cX0_findLeast 28 = .ok (.getfield 19, 3) := lw_dr lw_d_cX0_findLeast_0 19 rfl
theorem dX0_findLeast_31 : decode cX0_findLeast 31 = .ok (.if_icmp .ge 25, 3) := lw_dr lw_d_cX0_findLeast_0 20 rfl
theorem dX0_findLeast_56 : decode cX0_findLeast 56 = .ok (.iinc 2 1, 3) := lw_dr lw_d_cX0_findLeast_0 21 rfl
theorem dX0_findLeast_59 : decode cX0_findLeast 59 = .ok (.goto (-45), 3) := lw_dr lw_d_cX0_findLeast_0 22 rfl
theorem dX0_findLeast_34 : decode cX0_findLeast 34 = .ok (.iload_n 2, 1) := lw_dr lw_d_cX0_findLeast_0 23 rfl
theorem dX0_findLeast_35 : decode cX0_findLeast 35 = .ok (.iload_n 1, 1) := lw_dr lw_d_cX0_findLeast_0 24 rfl
theorem dX0_findLeast_36 : decode cX0_findLeast 36 = .ok (.if_icmp .eq 14, 3) := lw_dr lw_d_cX0_findLeast_0 25 rfl
theorem dX0_findLeast_50 : decode cX0_findLeast 50 = .ok (.iinc 3 1, 3) := lw_dr lw_d_cX0_findLeast_0 26 rfl
theorem dX0_findLeast_53 : decode cX0_findLeast 53 = .ok (.goto (-27), 3) := lw_dr lw_d_cX0_findLeast_0 27 rfl
theorem dX0_findLeast_39 : decode cX0_findLeast 39 = .ok (.iload_n 3, 1) := lw_dr lw_d_cX0_findLeast_0 28 rfl
theorem dX0_findLeast_40 : decode cX0_findLeast 40 = .ok (.iload_n 1, 1) := lw_dr lw_d_cX0_findLeast_0 29 rfl
theorem dX0_findLeast_41 : decode cX0_findLeast 41 = .ok (.if_icmp .eq 9, 3) := lw_dr lw_d_cX0_findLeast_0 30 rfl
theorem dX0_findLeast_44 : decode cX0_findLeast 44 = .ok (.aload_n 0, 1) := lw_dr lw_d_cX0_findLeast_0 31 rfl
theorem dX0_findLeast_45 : decode cX0_findLeast 45 = .ok (.iload_n 2, 1) := lw_dr lw_d_cX0_findLeast_0 32 rfl
theorem dX0_findLeast_46 : decode cX0_findLeast 46 = .ok (.iload_n 3, 1) := lw_dr lw_d_cX0_findLeast_0 33 rfl
theorem dX0_findLeast_47 : decode cX0_findLeast 47 = .ok (.invokevirtual 68, 3) := lw_dr lw_d_cX0_findLeast_0 34 rfl
theorem lw_d_cX0_weighPair_0 : lw_dl cX0_weighPair [(0, .aload_n 0, 1), (1, .getfield 9, 3), (4, .iload_n 1, 1), (5, .bipush 16, 2), (7, .imul, 1), (8, .iload_n 2, 1), (9, .iadd, 1), (10, .laload, 1), (11, .lstore_n 3, 1), (12, .lload_n 3, 1), (13, .aload_n 0, 1), (14, .getfield 27, 3), (17, .lcmp, 1), (18, .ifCond .ge 23, 3), (41, .lload_n 3, 1), (42, .aload_n 0, 1), (43, .getfield 27, 3), (46, .lcmp, 1), (47, .ifCond .ne 13, 3), (60, .return_, 1), (50, .aload_n 0, 1), (51, .dup, 1), (52, .getfield 31, 3), (55, .iconst 1, 1), (56, .iadd, 1), (57, .putfield 31, 3), (21, .aload_n 0, 1), (22, .lload_n 3, 1), (23, .putfield 27, 3), (26, .aload_n 0, 1), (27, .iconst 0, 1), (28, .putfield 31, 3), (31, .aload_n 0, 1), (32, .bipush 100, 2), (34, .iload_n 1, 1), (35, .imul, 1), (36, .iload_n 2, 1), (37, .iadd, 1), (38, .putfield 34, 3)] = true := by decide +kernel
theorem dX0_weighPair_0 : decode cX0_weighPair 0 = .ok (.aload_n 0, 1) := lw_dr lw_d_cX0_weighPair_0 0 rfl
theorem dX0_weighPair_1 : decode cX0_weighPair 1 = .ok (.getfield 9, 3) := lw_dr lw_d_cX0_weighPair_0 1 rfl
theorem dX0_weighPair_4 : decode cX0_weighPair 4 = .ok (.iload_n 1, 1) := lw_dr lw_d_cX0_weighPair_0 2 rfl
theorem dX0_weighPair_5 : decode cX0_weighPair 5 = .ok (.bipush 16, 2) := lw_dr lw_d_cX0_weighPair_0 3 rfl
theorem dX0_weighPair_7 : decode cX0_weighPair 7 = .ok (.imul, 1) := lw_dr lw_d_cX0_weighPair_0 4 rfl
theorem dX0_weighPair_8 : decode cX0_weighPair 8 = .ok (.iload_n 2, 1) := lw_dr lw_d_cX0_weighPair_0 5 rfl
theorem dX0_weighPair_9 : decode cX0_weighPair 9 = .ok (.iadd, 1) := lw_dr lw_d_cX0_weighPair_0 6 rfl
theorem dX0_weighPair_10 : decode cX0_weighPair 10 = .ok (.laload, 1) := lw_dr lw_d_cX0_weighPair_0 7 rfl
theorem dX0_weighPair_11 : decode cX0_weighPair 11 = .ok (.lstore_n 3, 1) := lw_dr lw_d_cX0_weighPair_0 8 rfl
theorem dX0_weighPair_12 : decode cX0_weighPair 12 = .ok (.lload_n 3, 1) := lw_dr lw_d_cX0_weighPair_0 9 rfl
theorem dX0_weighPair_13 : decode cX0_weighPair 13 = .ok (.aload_n 0, 1) := lw_dr lw_d_cX0_weighPair_0 10 rfl
theorem dX0_weighPair_14 : decode cX0_weighPair 14 = .ok (.getfield 27, 3) := lw_dr lw_d_cX0_weighPair_0 11 rfl
theorem dX0_weighPair_17 : decode cX0_weighPair 17 = .ok (.lcmp, 1) := lw_dr lw_d_cX0_weighPair_0 12 rfl
theorem dX0_weighPair_18 : decode cX0_weighPair 18 = .ok (.ifCond .ge 23, 3) := lw_dr lw_d_cX0_weighPair_0 13 rfl
theorem dX0_weighPair_41 : decode cX0_weighPair 41 = .ok (.lload_n 3, 1) := lw_dr lw_d_cX0_weighPair_0 14 rfl
theorem dX0_weighPair_42 : decode cX0_weighPair 42 = .ok (.aload_n 0, 1) := lw_dr lw_d_cX0_weighPair_0 15 rfl
theorem dX0_weighPair_43 : decode cX0_weighPair 43 = .ok (.getfield 27, 3) := lw_dr lw_d_cX0_weighPair_0 16 rfl
theorem dX0_weighPair_46 : decode cX0_weighPair 46 = .ok (.lcmp, 1) := lw_dr lw_d_cX0_weighPair_0 17 rfl
theorem dX0_weighPair_47 : decode cX0_weighPair 47 = .ok (.ifCond .ne 13, 3) := lw_dr lw_d_cX0_weighPair_0 18 rfl
theorem dX0_weighPair_60 : decode cX0_weighPair 60 = .ok (.return_, 1) := lw_dr lw_d_cX0_weighPair_0 19 rfl
theorem dX0_weighPair_50 : decode cX0_weighPair 50 = .ok (.aload_n 0, 1) := lw_dr lw_d_cX0_weighPair_0 20 rfl
theorem dX0_weighPair_51 : decode cX0_weighPair 51 = .ok (.dup, 1) := lw_dr lw_d_cX0_weighPair_0 21 rfl
theorem dX0_weighPair_52 : decode cX0_weighPair 52 = .ok (.getfield 31, 3) := lw_dr lw_d_cX0_weighPair_0 22 rfl
theorem dX0_weighPair_55 : decode cX0_weighPair 55 = .ok (.iconst 1, 1) := lw_dr lw_d_cX0_weighPair_0 23 rfl
theorem dX0_weighPair_56 : decode cX0_weighPair 56 = .ok (.iadd, 1) := lw_dr lw_d_cX0_weighPair_0 24 rfl
theorem dX0_weighPair_57 : decode cX0_weighPair 57 = .ok (.putfield 31, 3) := lw_dr lw_d_cX0_weighPair_0 25 rfl
theorem dX0_weighPair_21 : decode cX0_weighPair 21 = .ok (.aload_n 0, 1) := lw_dr lw_d_cX0_weighPair_0 26 rfl
theorem dX0_weighPair_22 : decode cX0_weighPair 22 = .ok (.lload_n 3, 1) := lw_dr lw_d_cX0_weighPair_0 27 rfl
theorem dX0_weighPair_23 : decode cX0_weighPair 23 = .ok (.putfield 27, 3) := lw_dr lw_d_cX0_weighPair_0 28 rfl
theorem dX0_weighPair_26 : decode cX0_weighPair 26 = .ok (.aload_n 0, 1) := lw_dr lw_d_cX0_weighPair_0 29 rfl
theorem dX0_weighPair_27 : decode cX0_weighPair 27 = .ok (.iconst 0, 1) := lw_dr lw_d_cX0_weighPair_0 30 rfl
theorem dX0_weighPair_28 : decode cX0_weighPair 28 = .ok (.putfield 31, 3) := lw_dr lw_d_cX0_weighPair_0 31 rfl
theorem dX0_weighPair_31 : decode cX0_weighPair 31 = .ok (.aload_n 0, 1) := lw_dr lw_d_cX0_weighPair_0 32 rfl
theorem dX0_weighPair_32 : decode cX0_weighPair 32 = .ok (.bipush 100, 2) := lw_dr lw_d_cX0_weighPair_0 33 rfl
theorem dX0_weighPair_34 : decode cX0_weighPair 34 = .ok (.iload_n 1, 1) := lw_dr lw_d_cX0_weighPair_0 34 rfl
theorem dX0_weighPair_35 : decode cX0_weighPair 35 = .ok (.imul, 1) := lw_dr lw_d_cX0_weighPair_0 35 rfl
theorem dX0_weighPair_36 : decode cX0_weighPair 36 = .ok (.iload_n 2, 1) := lw_dr lw_d_cX0_weighPair_0 36 rfl
theorem dX0_weighPair_37 : decode cX0_weighPair 37 = .ok (.iadd, 1) := lw_dr lw_d_cX0_weighPair_0 37 rfl
theorem dX0_weighPair_38 : decode cX0_weighPair 38 = .ok (.putfield 34, 3) := lw_dr lw_d_cX0_weighPair_0 38 rfl
theorem lw_d_cX6_forget_0 : lw_dl cX6_forget [(0, .aload_n 0, 1), (1, .getfield 22, 3), (4, .ldc2_w 30, 3), (7, .invokestatic 32, 3), (10, .return_, 1)] = true := by decide +kernel
theorem dX6_forget_0 : decode cX6_forget 0 = .ok (.aload_n 0, 1) := lw_dr lw_d_cX6_forget_0 0 rfl
theorem dX6_forget_1 : decode cX6_forget 1 = .ok (.getfield 22, 3) := lw_dr lw_d_cX6_forget_0 1 rfl
theorem dX6_forget_4 : decode cX6_forget 4 = .ok (.ldc2_w 30, 3) := lw_dr lw_d_cX6_forget_0 2 rfl
theorem dX6_forget_7 : decode cX6_forget 7 = .ok (.invokestatic 32, 3) := lw_dr lw_d_cX6_forget_0 3 rfl
theorem dX6_forget_10 : decode cX6_forget 10 = .ok (.return_, 1) := lw_dr lw_d_cX6_forget_0 4 rfl
theorem lw_d_cJ7_fill_d0a16_0 : lw_dl cJ7_fill_d0a16 [(0, .iconst 0, 1), (1, .istore_n 3, 1), (2, .aload_n 0, 1), (3, .arraylength, 1), (4, .istore 4, 2), (6, .iload_n 3, 1), (7, .iload 4, 2), (9, .if_icmp .ge 13, 3), (12, .aload_n 0, 1), (13, .iload_n 3, 1), (14, .lload_n 1, 1), (15, .lastore, 1), (16, .iinc 3 1, 3), (19, .goto (-13), 3), (22, .return_, 1)] = true := by decide +kernel
theorem dJ7_fill_d0a16_0 : decode cJ7_fill_d0a16 0 = .ok (.iconst 0, 1) := lw_dr lw_d_cJ7_fill_d0a16_0 0 rfl
theorem dJ7_fill_d0a16_1 : decode cJ7_fill_d0a16 1 = .ok (.istore_n 3, 1) := lw_dr lw_d_cJ7_fill_d0a16_0 1 rfl
theorem dJ7_fill_d0a16_2 : decode cJ7_fill_d0a16 2 = .ok (.aload_n 0, 1) := lw_dr lw_d_cJ7_fill_d0a16_0 2 rfl
theorem dJ7_fill_d0a16_3 : decode cJ7_fill_d0a16 3 = .ok (.arraylength, 1) := lw_dr lw_d_cJ7_fill_d0a16_0 3 rfl
theorem dJ7_fill_d0a16_4 : decode cJ7_fill_d0a16 4 = .ok (.istore 4, 2) := lw_dr lw_d_cJ7_fill_d0a16_0 4 rfl
theorem dJ7_fill_d0a16_6 : decode cJ7_fill_d0a16 6 = .ok (.iload_n 3, 1) := lw_dr lw_d_cJ7_fill_d0a16_0 5 rfl
theorem dJ7_fill_d0a16_7 : decode cJ7_fill_d0a16 7 = .ok (.iload 4, 2) := lw_dr lw_d_cJ7_fill_d0a16_0 6 rfl
theorem dJ7_fill_d0a16_9 : decode cJ7_fill_d0a16 9 = .ok (.if_icmp .ge 13, 3) := lw_dr lw_d_cJ7_fill_d0a16_0 7 rfl
theorem dJ7_fill_d0a16_12 : decode cJ7_fill_d0a16 12 = .ok (.aload_n 0, 1) := lw_dr lw_d_cJ7_fill_d0a16_0 8 rfl
theorem dJ7_fill_d0a16_13 : decode cJ7_fill_d0a16 13 = .ok (.iload_n 3, 1) := lw_dr lw_d_cJ7_fill_d0a16_0 9 rfl
theorem dJ7_fill_d0a16_14 : decode cJ7_fill_d0a16 14 = .ok (.lload_n 1, 1) := lw_dr lw_d_cJ7_fill_d0a16_0 10 rfl
theorem dJ7_fill_d0a16_15 : decode cJ7_fill_d0a16 15 = .ok (.lastore, 1) := lw_dr lw_d_cJ7_fill_d0a16_0 11 rfl
theorem dJ7_fill_d0a16_16 : decode cJ7_fill_d0a16 16 = .ok (.iinc 3 1, 3) := lw_dr lw_d_cJ7_fill_d0a16_0 12 rfl
theorem dJ7_fill_d0a16_19 : decode cJ7_fill_d0a16 19 = .ok (.goto (-13), 3) := lw_dr lw_d_cJ7_fill_d0a16_0 13 rfl
theorem dJ7_fill_d0a16_22 : decode cJ7_fill_d0a16 22 = .ok (.return_, 1) := lw_dr lw_d_cJ7_fill_d0a16_0 14 rfl
theorem lw_d_cX6_findShortest_0 : lw_dl cX6_findShortest [(0, .aload_n 0, 1), (1, .getfield 12, 3), (4, .aload_n 1, 1), (5, .invokevirtual 50, 3), (8, .iconst 0, 1), (9, .istore 4, 2), (11, .iload 4, 2), (13, .aload_n 1, 1), (14, .getfield 54, 3), (17, .if_icmp .ge 61, 3), (78, .aload_n 0, 1), (79, .ldc2_w 61, 3), (82, .putfield 26, 3), (85, .aload_n 0, 1), (86, .getfield 12, 3), (89, .getfield 63, 3), (92, .aload_n 0, 1), (93, .getfield 12, 3), (96, .getfield 66, 3), (99, .iaload, 1), (100, .istore 4, 2), (102, .iload 4, 2), (104, .iconst 1, 1), (105, .isub, 1), (106, .iconst 2, 1), (107, .idiv, 1), (108, .istore 5, 2), (110, .aload_n 0, 1), (111, .getfield 12, 3), (114, .invokevirtual 69, 3), (117, .iconst 1, 1), (118, .isub, 1), (119, .iconst 2, 1), (120, .idiv, 1), (121, .istore 6, 2), (123, .aload_n 0, 1), (124, .getfield 12, 3), (127, .invokevirtual 73, 3), (130, .iconst 0, 1), (131, .istore 7, 2)] = true := by decide +kernel
theorem dX6_findShortest_0 : decode cX6_findShortest 0 = .ok (.aload_n 0, 1) := lw_dr lw_d_cX6_findShortest_0 0 rfl
theorem dX6_findShortest_1 : decode cX6_findShortest 1 = .ok (.getfield 12, 3) := lw_dr lw_d_cX6_findShortest_0 1 rfl
theorem dX6_findShortest_4 : decode cX6_findShortest 4 = .ok (.aload_n 1, 1) := lw_dr lw_d_cX6_findShortest_0 2 rfl
theorem dX6_findShortest_5 : decode cX6_findShortest 5 = .ok (.invokevirtual 50, 3) := lw_dr lw_d_cX6_findShortest_0 3 rfl
theorem dX6_findShortest_8 : decode cX6_findShortest 8 = .ok (.iconst 0, 1) := lw_dr lw_d_cX6_findShortest_0 4 rfl
theorem dX6_findShortest_9 : decode cX6_findShortest 9 = .ok (.istore 4, 2) := lw_dr lw_d_cX6_findShortest_0 5 rfl
theorem dX6_findShortest_11 : decode cX6_findShortest 11 = .ok (.iload 4, 2) := lw_dr lw_d_cX6_findShortest_0 6 rfl
theorem dX6_findShortest_13 : decode cX6_findShortest 13 = .ok (.aload_n 1, 1) := lw_dr lw_d_cX6_findShortest_0 7 rfl
theorem dX6_findShortest_14 : decode cX6_findShortest 14 = .ok (.getfield 54, 3) := lw_dr lw_d_cX6_findShortest_0 8 rfl
theorem dX6_findShortest_17 : decode cX6_findShortest 17 = .ok (.if_icmp .ge 61, 3) := lw_dr lw_d_cX6_findShortest_0 9 rfl
theorem dX6_findShortest_78 : decode cX6_findShortest 78 = .ok (.aload_n 0, 1) := lw_dr lw_d_cX6_findShortest_0 10 rfl
theorem dX6_findShortest_79 : decode cX6_findShortest 79 = .ok (.ldc2_w 61, 3) := lw_dr lw_d_cX6_findShortest_0 11 rfl
theorem dX6_findShortest_82 : decode cX6_findShortest 82 = .ok (.putfield 26, 3) := lw_dr lw_d_cX6_findShortest_0 12 rfl
theorem dX6_findShortest_85 : decode cX6_findShortest 85 = .ok (.aload_n 0, 1) := lw_dr lw_d_cX6_findShortest_0 13 rfl
theorem dX6_findShortest_86 : decode cX6_findShortest 86 = .ok (.getfield 12, 3) := lw_dr lw_d_cX6_findShortest_0 14 rfl
theorem dX6_findShortest_89 : decode cX6_findShortest 89 = .ok (.getfield 63, 3) := lw_dr lw_d_cX6_findShortest_0 15 rfl
theorem dX6_findShortest_92 : decode cX6_findShortest 92 = .ok (.aload_n 0, 1) := lw_dr lw_d_cX6_findShortest_0 16 rfl
theorem dX6_findShortest_93 : decode cX6_findShortest 93 = .ok (.getfield 12, 3) := lw_dr lw_d_cX6_findShortest_0 17 rfl
theorem dX6_findShortest_96 : decode cX6_findShortest 96 = .ok (.getfield 66, 3) := lw_dr lw_d_cX6_findShortest_0 18 rfl
theorem dX6_findShortest_99 : decode cX6_findShortest 99 = .ok (.iaload, 1) := lw_dr lw_d_cX6_findShortest_0 19 rfl
theorem dX6_findShortest_100 : decode cX6_findShortest 100 = .ok (.istore 4, 2) := lw_dr lw_d_cX6_findShortest_0 20 rfl
theorem dX6_findShortest_102 : decode cX6_findShortest 102 = .ok (.iload 4, 2) := lw_dr lw_d_cX6_findShortest_0 21 rfl
theorem dX6_findShortest_104 : decode cX6_findShortest 104 = .ok (.iconst 1, 1) := lw_dr lw_d_cX6_findShortest_0 22 rfl
theorem dX6_findShortest_105 : decode cX6_findShortest 105 = .ok (.isub, 1) := lw_dr lw_d_cX6_findShortest_0 23 rfl
theorem dX6_findShortest_106 : decode cX6_findShortest 106 = .ok (.iconst 2, 1) := lw_dr lw_d_cX6_findShortest_0 24 rfl
theorem dX6_findShortest_107 : decode cX6_findShortest 107 = .ok (.idiv, 1) := lw_dr lw_d_cX6_findShortest_0 25 rfl
theorem dX6_findShortest_108 : decode cX6_findShortest 108 = .ok (.istore 5, 2) := lw_dr lw_d_cX6_findShortest_0 26 rfl
theorem dX6_findShortest_110 : decode cX6_findShortest 110 = .ok (.aload_n 0, 1) := lw_dr lw_d_cX6_findShortest_0 27 rfl
theorem dX6_findShortest_111 : decode cX6_findShortest 111 = .ok (.getfield 12, 3) := lw_dr lw_d_cX6_findShortest_0 28 rfl
theorem dX6_findShortest_114 : decode cX6_findShortest 114 = .ok (.invokevirtual 69, 3) := lw_dr lw_d_cX6_findShortest_0 29 rfl
theorem dX6_findShortest_117 : decode cX6_findShortest 117 = .ok (.iconst 1, 1) := lw_dr lw_d_cX6_findShortest_0 30 rfl
theorem dX6_findShortest_118 : decode cX6_findShortest 118 = .ok (.isub, 1) := lw_dr lw_d_cX6_findShortest_0 31 rfl
theorem dX6_findShortest_119 : decode cX6_findShortest 119 = .ok (.iconst 2, 1) := lw_dr lw_d_cX6_findShortest_0 32 rfl
theorem dX6_findShortest_120 : decode cX6_findShortest 120 = .ok (.idiv, 1) := lw_dr lw_d_cX6_findShortest_0 33 rfl
theorem dX6_findShortest_121 : decode cX6_findShortest 121 = .ok (.istore 6, 2) := lw_dr lw_d_cX6_findShortest_0 34 rfl
theorem dX6_findShortest_123 : decode cX6_findShortest 123 = .ok (.aload_n 0, 1) := lw_dr lw_d_cX6_findShortest_0 35 rfl
theorem dX6_findShortest_124 : decode cX6_findShortest 124 = .ok (.getfield 12, 3) := lw_dr lw_d_cX6_findShortest_0 36 rfl
theorem dX6_findShortest_127 : decode cX6_findShortest 127 = .ok (.invokevirtual 73, 3) := lw_dr lw_d_cX6_findShortest_0 37 rfl
theorem dX6_findShortest_130 : decode cX6_findShortest 130 = .ok (.iconst 0, 1) := lw_dr lw_d_cX6_findShortest_0 38 rfl
theorem dX6_findShortest_131 : decode cX6_findShortest 131 = .ok (.istore 7, 2) := lw_dr lw_d_cX6_findShortest_0 39 rfl
theorem lw_d_cX6_findShortest_133 : lw_dl cX6_findShortest [(133, .iload 7, 2), (135, .iload 6, 2), (137, .if_icmp .ge 22, 3), (159, .iload 5, 2), (161, .ifCond .le 9, 3), (170, .return_, 1), (164, .aload_n 0, 1), (165, .iload 5, 2), (167, .invokevirtual 76, 3), (140, .aload_n 0, 1), (141, .iload 4, 2), (143, .invokevirtual 76, 3), (146, .aload_n 0, 1), (147, .getfield 12, 3), (150, .invokevirtual 80, 3), (153, .iinc 7 1, 3)] = true := by decide +kernel
theorem dX6_findShortest_133 : decode cX6_findShortest 133 = .ok (.iload 7, 2) := lw_dr lw_d_cX6_findShortest_133 0 rfl
theorem dX6_findShortest_135 : decode cX6_findShortest 135 = .ok (.iload 6, 2) := lw_dr lw_d_cX6_findShortest_133 1 rfl
theorem dX6_findShortest_137 : decode cX6_findShortest 137 = .ok (.if_icmp .ge 22, 3) := lw_dr lw_d_cX6_findShortest_133 2 rfl
theorem dX6_findShortest_159 : decode cX6_findShortest 159 = .ok (.iload 5, 2) := lw_dr lw_d_cX6_findShortest_133 3 rfl
theorem dX6_findShortest_161 : decode cX6_findShortest 161 = .ok (.ifCond .le 9, 3) := lw_dr lw_d_cX6_findShortest_133 4 rfl
theorem dX6_findShortest_170 : decode cX6_findShortest 170 = .ok (.return_, 1) := lw_dr lw_d_cX6_findShortest_133 5 rfl
theorem dX6_findShortest_164 : decode cX6_findShortest 164 = .ok (.aload_n 0, 1) := lw_dr lw_d_cX6_findShortest_133 6 rfl
theorem dX6_findShortest_165 : decode cX6_findShortest 165 = .ok (.iload 5, 2) := lw_dr lw_d_cX6_findShortest_133 7 rfl
theorem dX6_findShortest_167 : decode cX6_findShortest 167 = .ok (.invokevirtual 76, 3) := lw_dr lw_d_cX6_findShortest_133 8 rfl
theorem dX6_findShortest_140 : decode cX6_findShortest 140 = .ok (.aload_n 0, 1) := lw_dr lw_d_cX6_findShortest_133 9 rfl
theorem dX6_findShortest_141 : decode cX6_findShortest 141 = .ok (.iload 4, 2) := lw_dr lw_d_cX6_findShortest_133 10 rfl
theorem dX6_findShortest_143 : decode cX6_findShortest 143 = .ok (.invokevirtual 76, 3) := lw_dr lw_d_cX6_findShortest_133 11 rfl
theorem dX6_findShortest_146 : decode cX6_findShortest 146 = .ok (.aload_n 0, 1) := lw_dr lw_d_cX6_findShortest_133 12 rfl
theorem dX6_findShortest_147 : decode cX6_findShortest 147 = .ok (.getfield 12, 3) := lw_dr lw_d_cX6_findShortest_133 13 rfl
theorem dX6_findShortest_150 : decode cX6_findShortest 150 = .ok (.invokevirtual 80, 3) := lw_dr lw_d_cX6_findShortest_133 14 rfl
theorem dX6_findShortest_153 : decode cX6_findShortest 153 = .ok (.iinc 7 1, 3) := lw_dr lw_d_cX6_findShortest_133 15 rfl
theorem lw_d_cX6_lookAtLine_0 : lw_dl cX6_lookAtLine [(0, .aload_n 0, 1), (1, .getfield 12, 3), (4, .iload_n 1, 1), (5, .invokevirtual 83, 3), (8, .istore_n 2, 1), (9, .aload_n 0, 1), (10, .getfield 12, 3), (13, .iload_n 2, 1), (14, .invokevirtual 87, 3), (17, .lstore_n 3, 1), (18, .lload_n 3, 1), (19, .aload_n 0, 1), (20, .getfield 26, 3), (23, .lcmp, 1), (24, .ifCond .ge 86, 3), (110, .return_, 1), (27, .aload_n 0, 1), (28, .lload_n 3, 1), (29, .putfield 26, 3), (32, .iconst 0, 1), (33, .istore 5, 2), (35, .iload 5, 2), (37, .aload_n 0, 1), (38, .getfield 12, 3), (41, .getfield 66, 3), (44, .if_icmp .ge 37, 3), (81, .aload_n 0, 1), (82, .getfield 18, 3), (85, .aload_n 0, 1), (86, .getfield 12, 3), (89, .getfield 66, 3), (92, .aload_n 0, 1), (93, .getfield 12, 3), (96, .getfield 91, 3), (99, .aload_n 0, 1), (100, .getfield 12, 3), (103, .getfield 66, 3), (106, .iaload, 1), (107, .iload_n 2, 1), (108, .iadd, 1)] = true := by decide +kernel
theorem dX6_lookAtLine_0 : decode cX6_lookAtLine 0 = .ok (.aload_n 0, 1) := lw_dr lw_d_cX6_lookAtLine_0 0 rfl
theorem dX6_lookAtLine_1 : decode cX6_lookAtLine 1 = .ok (.getfield 12, 3) := lw_dr lw_d_cX6_lookAtLine_0 1 rfl
theorem dX6_lookAtLine_4 : decode cX6_lookAtLine 4 = .ok (.iload_n 1, 1) := lw_dr lw_d_cX6_lookAtLine_0 2 rfl
theorem dX6_lookAtLine_5 : decode cX6_lookAtLine 5 = .ok (.invokevirtual 83, 3) := lw_dr lw_d_cX6_lookAtLine_0 3 rfl
theorem dX6_lookAtLine_8 : decode cX6_lookAtLine 8 = .ok (.istore_n 2, 1) := lw_dr lw_d_cX6_lookAtLine_0 4 rfl
theorem dX6_lookAtLine_9 : decode cX6_lookAtLine 9 = .ok (.aload_n 0, 1) := lw_dr lw_d_cX6_lookAtLine_0 5 rfl
theorem dX6_lookAtLine_10 : decode cX6_lookAtLine 10 = .ok (.getfield 12, 3) := lw_dr lw_d_cX6_lookAtLine_0 6 rfl
theorem dX6_lookAtLine_13 : decode cX6_lookAtLine 13 = .ok (.iload_n 2, 1) := lw_dr lw_d_cX6_lookAtLine_0 7 rfl
theorem dX6_lookAtLine_14 : decode cX6_lookAtLine 14 = .ok (.invokevirtual 87, 3) := lw_dr lw_d_cX6_lookAtLine_0 8 rfl
theorem dX6_lookAtLine_17 : decode cX6_lookAtLine 17 = .ok (.lstore_n 3, 1) := lw_dr lw_d_cX6_lookAtLine_0 9 rfl
theorem dX6_lookAtLine_18 : decode cX6_lookAtLine 18 = .ok (.lload_n 3, 1) := lw_dr lw_d_cX6_lookAtLine_0 10 rfl
theorem dX6_lookAtLine_19 : decode cX6_lookAtLine 19 = .ok (.aload_n 0, 1) := lw_dr lw_d_cX6_lookAtLine_0 11 rfl
theorem dX6_lookAtLine_20 : decode cX6_lookAtLine 20 = .ok (.getfield 26, 3) := lw_dr lw_d_cX6_lookAtLine_0 12 rfl
theorem dX6_lookAtLine_23 : decode cX6_lookAtLine 23 = .ok (.lcmp, 1) := lw_dr lw_d_cX6_lookAtLine_0 13 rfl
theorem dX6_lookAtLine_24 : decode cX6_lookAtLine 24 = .ok (.ifCond .ge 86, 3) := lw_dr lw_d_cX6_lookAtLine_0 14 rfl
theorem dX6_lookAtLine_110 : decode cX6_lookAtLine 110 = .ok (.return_, 1) := lw_dr lw_d_cX6_lookAtLine_0 15 rfl
theorem dX6_lookAtLine_27 : decode cX6_lookAtLine 27 = .ok (.aload_n 0, 1) := lw_dr lw_d_cX6_lookAtLine_0 16 rfl
theorem dX6_lookAtLine_28 : decode cX6_lookAtLine 28 = .ok (.lload_n 3, 1) := lw_dr lw_d_cX6_lookAtLine_0 17 rfl
theorem dX6_lookAtLine_29 : decode cX6_lookAtLine 29 = .ok (.putfield 26, 3) := lw_dr lw_d_cX6_lookAtLine_0 18 rfl
theorem dX6_lookAtLine_32 : decode cX6_lookAtLine 32 = .ok (.iconst 0, 1) := lw_dr lw_d_cX6_lookAtLine_0 19 rfl
theorem dX6_lookAtLine_33 : decode cX6_lookAtLine 33 = .ok (.istore 5, 2) := lw_dr lw_d_cX6_lookAtLine_0 20 rfl
theorem dX6_lookAtLine_35 : decode cX6_lookAtLine 35 = .ok (.iload 5, 2) := lw_dr lw_d_cX6_lookAtLine_0 21 rfl
theorem dX6_lookAtLine_37 : decode cX6_lookAtLine 37 = .ok (.aload_n 0, 1) := lw_dr lw_d_cX6_lookAtLine_0 22 rfl
theorem dX6_lookAtLine_38 : decode cX6_lookAtLine 38 = .ok (.getfield 12, 3) := lw_dr lw_d_cX6_lookAtLine_0 23 rfl
theorem dX6_lookAtLine_41 : decode cX6_lookAtLine 41 = .ok (.getfield 66, 3) := lw_dr lw_d_cX6_lookAtLine_0 24 rfl
theorem dX6_lookAtLine_44 : decode cX6_lookAtLine 44 = .ok (.if_icmp .ge 37, 3) := lw_dr lw_d_cX6_lookAtLine_0 25 rfl
theorem dX6_lookAtLine_81 : decode cX6_lookAtLine 81 = .ok (.aload_n 0, 1) := lw_dr lw_d_cX6_lookAtLine_0 26 rfl
theorem dX6_lookAtLine_82 : decode cX6_lookAtLine 82 = .ok (.getfield 18, 3) := lw_dr lw_d_cX6_lookAtLine_0 27 rfl
theorem dX6_lookAtLine_85 : decode cX6_lookAtLine 85 = .ok (.aload_n 0, 1) := lw_dr lw_d_cX6_lookAtLine_0 28 rfl
theorem dX6_lookAtLine_86 : decode cX6_lookAtLine 86 = .ok (.getfield 12, 3) := lw_dr lw_d_cX6_lookAtLine_0 29 rfl
theorem dX6_lookAtLine_89 : decode cX6_lookAtLine 89 = .ok (.getfield 66, 3) := lw_dr lw_d_cX6_lookAtLine_0 30 rfl
theorem dX6_lookAtLine_92 : decode cX6_lookAtLine 92 = .ok (.aload_n 0, 1) := lw_dr lw_d_cX6_lookAtLine_0 31 rfl
theorem dX6_lookAtLine_93 : decode cX6_lookAtLine 93 = .ok (.getfield 12, 3) := lw_dr lw_d_cX6_lookAtLine_0 32 rfl
theorem dX6_lookAtLine_96 : decode cX6_lookAtLine 96 = .ok (.getfield 91, 3) := lw_dr lw_d_cX6_lookAtLine_0 33 rfl
theorem dX6_lookAtLine_99 : decode cX6_lookAtLine 99 = .ok (.aload_n 0, 1) := lw_dr lw_d_cX6_lookAtLine_0 34 rfl
theorem dX6_lookAtLine_100 : decode cX6_lookAtLine 100 = .ok (.getfield 12, 3) := lw_dr lw_d_cX6_lookAtLine_0 35 rfl
theorem dX6_lookAtLine_103 : decode cX6_lookAtLine 103 = .ok (.getfield 66, 3) := lw_dr lw_d_cX6_lookAtLine_0 36 rfl
theorem dX6_lookAtLine_106 : decode cX6_lookAtLine 106 = .ok (.iaload, 1) := lw_dr lw_d_cX6_lookAtLine_0 37 rfl
theorem dX6_lookAtLine_107 : decode cX6_lookAtLine 107 = .ok (.iload_n 2, 1) := lw_dr lw_d_cX6_lookAtLine_0 38 rfl
theorem dX6_lookAtLine_108 : decode cX6_lookAtLine 108 = .ok (.iadd, 1) := lw_dr lw_d_cX6_lookAtLine_0 39 rfl
theorem lw_d_cX6_lookAtLine_109 : lw_dl cX6_lookAtLine [(109, .iastore, 1), (47, .aload_n 0, 1), (48, .getfield 18, 3), (51, .iload 5, 2), (53, .aload_n 0, 1), (54, .getfield 12, 3), (57, .getfield 91, 3), (60, .iload 5, 2), (62, .iaload, 1), (63, .aload_n 0, 1), (64, .getfield 12, 3), (67, .getfield 94, 3), (70, .iload 5, 2), (72, .iaload, 1), (73, .iadd, 1), (74, .iastore, 1), (75, .iinc 5 1, 3), (78, .goto (-43), 3)] = true := by decide +kernel
theorem dX6_lookAtLine_109 : decode cX6_lookAtLine 109 = .ok (.iastore, 1) := lw_dr lw_d_cX6_lookAtLine_109 0 rfl
theorem dX6_lookAtLine_47 : decode cX6_lookAtLine 47 = .ok (.aload_n 0, 1) := lw_dr lw_d_cX6_lookAtLine_109 1 rfl
theorem dX6_lookAtLine_48 : decode cX6_lookAtLine 48 = .ok (.getfield 18, 3) := lw_dr lw_d_cX6_lookAtLine_109 2 rfl
theorem dX6_lookAtLine_51 : decode cX6_lookAtLine 51 = .ok (.iload 5, 2) := lw_dr lw_d_cX6_lookAtLine_109 3 rfl
theorem dX6_lookAtLine_53 : decode cX6_lookAtLine 53 = .ok (.aload_n 0, 1) := lw_dr lw_d_cX6_lookAtLine_109 4 rfl
theorem dX6_lookAtLine_54 : decode cX6_lookAtLine 54 = .ok (.getfield 12, 3) := lw_dr lw_d_cX6_lookAtLine_109 5 rfl
theorem dX6_lookAtLine_57 : decode cX6_lookAtLine 57 = .ok (.getfield 91, 3) := lw_dr lw_d_cX6_lookAtLine_109 6 rfl
theorem dX6_lookAtLine_60 : decode cX6_lookAtLine 60 = .ok (.iload 5, 2) := lw_dr lw_d_cX6_lookAtLine_109 7 rfl
theorem dX6_lookAtLine_62 : decode cX6_lookAtLine 62 = .ok (.iaload, 1) := lw_dr lw_d_cX6_lookAtLine_109 8 rfl
theorem dX6_lookAtLine_63 : decode cX6_lookAtLine 63 = .ok (.aload_n 0, 1) := lw_dr lw_d_cX6_lookAtLine_109 9 rfl
theorem dX6_lookAtLine_64 : decode cX6_lookAtLine 64 = .ok (.getfield 12, 3) := lw_dr lw_d_cX6_lookAtLine_109 10 rfl
theorem dX6_lookAtLine_67 : decode cX6_lookAtLine 67 = .ok (.getfield 94, 3) := lw_dr lw_d_cX6_lookAtLine_109 11 rfl
theorem dX6_lookAtLine_70 : decode cX6_lookAtLine 70 = .ok (.iload 5, 2) := lw_dr lw_d_cX6_lookAtLine_109 12 rfl
theorem dX6_lookAtLine_72 : decode cX6_lookAtLine 72 = .ok (.iaload, 1) := lw_dr lw_d_cX6_lookAtLine_109 13 rfl
theorem dX6_lookAtLine_73 : decode cX6_lookAtLine 73 = .ok (.iadd, 1) := lw_dr lw_d_cX6_lookAtLine_109 14 rfl
theorem dX6_lookAtLine_74 : decode cX6_lookAtLine 74 = .ok (.iastore, 1) := lw_dr lw_d_cX6_lookAtLine_109 15 rfl
theorem dX6_lookAtLine_75 : decode cX6_lookAtLine 75 = .ok (.iinc 5 1, 3) := lw_dr lw_d_cX6_lookAtLine_109 16 rfl
theorem dX6_lookAtLine_78 : decode cX6_lookAtLine 78 = .ok (.goto (-43), 3) := lw_dr lw_d_cX6_lookAtLine_109 17 rfl
theorem lw_d_cX6_findShortest_156 : lw_dl cX6_findShortest [(156, .goto (-23), 3), (20, .iload_n 2, 1), (21, .iload 4, 2), (23, .ishr, 1), (24, .iconst 1, 1), (25, .iand, 1), (26, .iconst 1, 1), (27, .if_icmp .ne 7, 3), (34, .iconst 0, 1), (35, .istore 5, 2), (37, .aload_n 0, 1), (38, .getfield 12, 3), (41, .iload 4, 2), (43, .iload 5, 2), (45, .ifCond .eq 8, 3), (53, .iconst 0, 1), (54, .iconst 1, 1), (55, .iload 5, 2), (57, .ifCond .eq 11, 3), (68, .iconst 1, 1), (69, .invokevirtual 57, 3), (72, .iinc 4 1, 3), (75, .goto (-64), 3), (30, .iconst 1, 1), (31, .goto 4, 3), (48, .iload_n 3, 1), (49, .ineg, 1), (50, .goto 4, 3), (60, .iconst 2, 1), (61, .iload_n 3, 1), (62, .imul, 1), (63, .iconst 1, 1), (64, .iadd, 1), (65, .goto 4, 3)] = true := by decide +kernel
theorem dX6_findShortest_156 : decode cX6_findShortest 156 = .ok (.goto (-23), 3) := lw_dr lw_d_cX6_findShortest_156 0 rfl
theorem dX6_findShortest_20 : decode cX6_findShortest 20 = .ok (.iload_n 2, 1) := lw_dr lw_d_cX6_findShortest_156 1 rfl
theorem dX6_findShortest_21 : decode cX6_findShortest 21 = .ok (.iload 4, 2) := lw_dr lw_d_cX6_findShortest_156 2 rfl
theorem dX6_findShortest_23 : decode cX6_findShortest 23 = .ok (.ishr, 1) := lw_dr lw_d_cX6_findShortest_156 3 rfl
theorem dX6_findShortest_24 : decode cX6_findShortest 24 = .ok (.iconst 1, 1) := lw_dr lw_d_cX6_findShortest_156 4 rfl
theorem dX6_findShortest_25 : decode cX6_findShortest 25 = .ok (.iand, 1) := lw_dr lw_d_cX6_findShortest_156 5 rfl
theorem dX6_findShortest_26 : decode cX6_findShortest 26 = .ok (.iconst 1, 1) := lw_dr lw_d_cX6_findShortest_156 6 rfl
theorem dX6_findShortest_27 : decode cX6_findShortest 27 = .ok (.if_icmp .ne 7, 3) := lw_dr lw_d_cX6_findShortest_156 7 rfl
theorem dX6_findShortest_34 : decode cX6_findShortest 34 = .ok (.iconst 0, 1) := lw_dr lw_d_cX6_findShortest_156 8 rfl
theorem dX6_findShortest_35 : decode cX6_findShortest 35 = .ok (.istore 5, 2) := lw_dr lw_d_cX6_findShortest_156 9 rfl
theorem dX6_findShortest_37 : decode cX6_findShortest 37 = .ok (.aload_n 0, 1) := lw_dr lw_d_cX6_findShortest_156 10 rfl
theorem dX6_findShortest_38 : decode cX6_findShortest 38 = .ok (.getfield 12, 3) := lw_dr lw_d_cX6_findShortest_156 11 rfl
theorem dX6_findShortest_41 : decode cX6_findShortest 41 = .ok (.iload 4, 2) := lw_dr lw_d_cX6_findShortest_156 12 rfl
theorem dX6_findShortest_43 : decode cX6_findShortest 43 = .ok (.iload 5, 2) := lw_dr lw_d_cX6_findShortest_156 13 rfl
theorem dX6_findShortest_45 : decode cX6_findShortest 45 = .ok (.ifCond .eq 8, 3) := lw_dr lw_d_cX6_findShortest_156 14 rfl
theorem dX6_findShortest_53 : decode cX6_findShortest 53 = .ok (.iconst 0, 1) := lw_dr lw_d_cX6_findShortest_156 15 rfl
theorem dX6_findShortest_54 : decode cX6_findShortest 54 = .ok (.iconst 1, 1) := lw_dr lw_d_cX6_findShortest_156 16 rfl
theorem dX6_findShortest_55 : decode cX6_findShortest 55 = .ok (.iload 5, 2) := lw_dr lw_d_cX6_findShortest_156 17 rfl
theorem dX6_findShortest_57 : decode cX6_findShortest 57 = .ok (.ifCond .eq 11, 3) := lw_dr lw_d_cX6_findShortest_156 18 rfl
theorem dX6_findShortest_68 : decode cX6_findShortest 68 = .ok (.iconst 1, 1) := lw_dr lw_d_cX6_findShortest_156 19 rfl
theorem dX6_findShortest_69 : decode cX6_findShortest 69 = .ok (.invokevirtual 57, 3) := lw_dr lw_d_cX6_findShortest_156 20 rfl
theorem dX6_findShortest_72 : decode cX6_findShortest 72 = .ok (.iinc 4 1, 3) := lw_dr lw_d_cX6_findShortest_156 21 rfl
theorem dX6_findShortest_75 : decode cX6_findShortest 75 = .ok (.goto (-64), 3) := lw_dr lw_d_cX6_findShortest_156 22 rfl
theorem dX6_findShortest_30 : decode cX6_findShortest 30 = .ok (.iconst 1, 1) := lw_dr lw_d_cX6_findShortest_156 23 rfl
theorem dX6_findShortest_31 : decode cX6_findShortest 31 = .ok (.goto 4, 3) := lw_dr lw_d_cX6_findShortest_156 24 rfl
theorem dX6_findShortest_48 : decode cX6_findShortest 48 = .ok (.iload_n 3, 1) := lw_dr lw_d_cX6_findShortest_156 25 rfl
theorem dX6_findShortest_49 : decode cX6_findShortest 49 = .ok (.ineg, 1) := lw_dr lw_d_cX6_findShortest_156 26 rfl
theorem dX6_findShortest_50 : decode cX6_findShortest 50 = .ok (.goto 4, 3) := lw_dr lw_d_cX6_findShortest_156 27 rfl
theorem dX6_findShortest_60 : decode cX6_findShortest 60 = .ok (.iconst 2, 1) := lw_dr lw_d_cX6_findShortest_156 28 rfl
theorem dX6_findShortest_61 : decode cX6_findShortest 61 = .ok (.iload_n 3, 1) := lw_dr lw_d_cX6_findShortest_156 29 rfl
theorem dX6_findShortest_62 : decode cX6_findShortest 62 = .ok (.imul, 1) := lw_dr lw_d_cX6_findShortest_156 30 rfl
theorem dX6_findShortest_63 : decode cX6_findShortest 63 = .ok (.iconst 1, 1) := lw_dr lw_d_cX6_findShortest_156 31 rfl
theorem dX6_findShortest_64 : decode cX6_findShortest 64 = .ok (.iadd, 1) := lw_dr lw_d_cX6_findShortest_156 32 rfl
theorem dX6_findShortest_65 : decode cX6_findShortest 65 = .ok (.goto 4, 3) := lw_dr lw_d_cX6_findShortest_156 33 rfl
theorem lw_d_cX6_apartOf_0 : lw_dl cX6_apartOf [(0, .aload_n 0, 1), (1, .getfield 22, 3), (4, .iload_n 2, 1), (5, .laload, 1), (6, .lconst 0, 1), (7, .lcmp, 1), (8, .ifCond .ge 29, 3), (37, .aload_n 0, 1), (38, .getfield 22, 3), (41, .iload_n 2, 1), (42, .laload, 1), (43, .lreturn, 1), (11, .aload_n 0, 1), (12, .aload_n 1, 1), (13, .iload_n 2, 1), (14, .aload_n 1, 1), (15, .getfield 38, 3), (18, .iconst 1, 1), (19, .isub, 1), (20, .invokevirtual 44, 3), (23, .aload_n 0, 1), (24, .getfield 22, 3), (27, .iload_n 2, 1), (28, .ldc2_w 48, 3), (31, .aload_n 0, 1), (32, .getfield 26, 3), (35, .lmul, 1), (36, .lastore, 1)] = true := by decide +kernel
theorem dX6_apartOf_0 : decode cX6_apartOf 0 = .ok (.aload_n 0, 1) := lw_dr lw_d_cX6_apartOf_0 0 rfl
theorem dX6_apartOf_1 : decode cX6_apartOf 1 = .ok (.getfield 22, 3) := lw_dr lw_d_cX6_apartOf_0 1 rfl
theorem dX6_apartOf_4 : decode cX6_apartOf 4 = .ok (.iload_n 2, 1) := lw_dr lw_d_cX6_apartOf_0 2 rfl
theorem dX6_apartOf_5 : decode cX6_apartOf 5 = .ok (.laload, 1) := lw_dr lw_d_cX6_apartOf_0 3 rfl
theorem dX6_apartOf_6 : decode cX6_apartOf 6 = .ok (.lconst 0, 1) := lw_dr lw_d_cX6_apartOf_0 4 rfl
theorem dX6_apartOf_7 : decode cX6_apartOf 7 = .ok (.lcmp, 1) := lw_dr lw_d_cX6_apartOf_0 5 rfl
theorem dX6_apartOf_8 : decode cX6_apartOf 8 = .ok (.ifCond .ge 29, 3) := lw_dr lw_d_cX6_apartOf_0 6 rfl
theorem dX6_apartOf_37 : decode cX6_apartOf 37 = .ok (.aload_n 0, 1) := lw_dr lw_d_cX6_apartOf_0 7 rfl
theorem dX6_apartOf_38 : decode cX6_apartOf 38 = .ok (.getfield 22, 3) := lw_dr lw_d_cX6_apartOf_0 8 rfl
theorem dX6_apartOf_41 : decode cX6_apartOf 41 = .ok (.iload_n 2, 1) := lw_dr lw_d_cX6_apartOf_0 9 rfl
theorem dX6_apartOf_42 : decode cX6_apartOf 42 = .ok (.laload, 1) := lw_dr lw_d_cX6_apartOf_0 10 rfl
theorem dX6_apartOf_43 : decode cX6_apartOf 43 = .ok (.lreturn, 1) := lw_dr lw_d_cX6_apartOf_0 11 rfl
theorem dX6_apartOf_11 : decode cX6_apartOf 11 = .ok (.aload_n 0, 1) := lw_dr lw_d_cX6_apartOf_0 12 rfl
theorem dX6_apartOf_12 : decode cX6_apartOf 12 = .ok (.aload_n 1, 1) := lw_dr lw_d_cX6_apartOf_0 13 rfl
theorem dX6_apartOf_13 : decode cX6_apartOf 13 = .ok (.iload_n 2, 1) := lw_dr lw_d_cX6_apartOf_0 14 rfl
theorem dX6_apartOf_14 : decode cX6_apartOf 14 = .ok (.aload_n 1, 1) := lw_dr lw_d_cX6_apartOf_0 15 rfl
theorem dX6_apartOf_15 : decode cX6_apartOf 15 = .ok (.getfield 38, 3) := lw_dr lw_d_cX6_apartOf_0 16 rfl
theorem dX6_apartOf_18 : decode cX6_apartOf 18 = .ok (.iconst 1, 1) := lw_dr lw_d_cX6_apartOf_0 17 rfl
theorem dX6_apartOf_19 : decode cX6_apartOf 19 = .ok (.isub, 1) := lw_dr lw_d_cX6_apartOf_0 18 rfl
theorem dX6_apartOf_20 : decode cX6_apartOf 20 = .ok (.invokevirtual 44, 3) := lw_dr lw_d_cX6_apartOf_0 19 rfl
theorem dX6_apartOf_23 : decode cX6_apartOf 23 = .ok (.aload_n 0, 1) := lw_dr lw_d_cX6_apartOf_0 20 rfl
theorem dX6_apartOf_24 : decode cX6_apartOf 24 = .ok (.getfield 22, 3) := lw_dr lw_d_cX6_apartOf_0 21 rfl
theorem dX6_apartOf_27 : decode cX6_apartOf 27 = .ok (.iload_n 2, 1) := lw_dr lw_d_cX6_apartOf_0 22 rfl
theorem dX6_apartOf_28 : decode cX6_apartOf 28 = .ok (.ldc2_w 48, 3) := lw_dr lw_d_cX6_apartOf_0 23 rfl
theorem dX6_apartOf_31 : decode cX6_apartOf 31 = .ok (.aload_n 0, 1) := lw_dr lw_d_cX6_apartOf_0 24 rfl
theorem dX6_apartOf_32 : decode cX6_apartOf 32 = .ok (.getfield 26, 3) := lw_dr lw_d_cX6_apartOf_0 25 rfl
theorem dX6_apartOf_35 : decode cX6_apartOf 35 = .ok (.lmul, 1) := lw_dr lw_d_cX6_apartOf_0 26 rfl
theorem dX6_apartOf_36 : decode cX6_apartOf 36 = .ok (.lastore, 1) := lw_dr lw_d_cX6_apartOf_0 27 rfl
theorem lw_d_cX7_forget_0 : lw_dl cX7_forget [(0, .aload_n 0, 1), (1, .iconst 0, 1), (2, .putfield 49, 3), (5, .return_, 1)] = true := by decide +kernel
theorem dX7_forget_0 : decode cX7_forget 0 = .ok (.aload_n 0, 1) := lw_dr lw_d_cX7_forget_0 0 rfl
theorem dX7_forget_1 : decode cX7_forget 1 = .ok (.iconst 0, 1) := lw_dr lw_d_cX7_forget_0 1 rfl
theorem dX7_forget_2 : decode cX7_forget 2 = .ok (.putfield 49, 3) := lw_dr lw_d_cX7_forget_0 2 rfl
theorem dX7_forget_5 : decode cX7_forget 5 = .ok (.return_, 1) := lw_dr lw_d_cX7_forget_0 3 rfl
theorem lw_d_cX7_learn_0 : lw_dl cX7_learn [(0, .aload_n 0, 1), (1, .getfield 49, 3), (4, .ifCond .ne 10, 3), (14, .return_, 1), (7, .aload_n 1, 1), (8, .getfield 73, 3), (11, .ifCond .ne 4, 3), (15, .aload_n 0, 1), (16, .iconst 1, 1), (17, .putfield 49, 3), (20, .aload_n 0, 1), (21, .iconst 0, 1), (22, .putfield 41, 3), (25, .aload_n 0, 1), (26, .lconst 0, 1), (27, .putfield 45, 3), (30, .aload_n 0, 1), (31, .getfield 26, 3), (34, .ldc2_w 76, 3), (37, .invokestatic 78, 3), (40, .aload_n 0, 1), (41, .getfield 29, 3), (44, .lconst 0, 1), (45, .invokestatic 78, 3), (48, .aload_n 0, 1), (49, .aload_n 1, 1), (50, .aload_n 2, 1), (51, .invokevirtual 84, 3), (54, .aload_n 0, 1), (55, .getfield 12, 3), (58, .invokevirtual 87, 3), (61, .istore_n 3, 1), (62, .iconst 0, 1), (63, .istore 4, 2), (65, .iload 4, 2), (67, .iload_n 3, 1), (68, .if_icmp .ge 31, 3), (99, .return_, 1), (71, .aload_n 0, 1), (72, .iload 4, 2)] = true := by decide +kernel
theorem dX7_learn_0 : decode cX7_learn 0 = .ok (.aload_n 0, 1) := lw_dr lw_d_cX7_learn_0 0 rfl
theorem dX7_learn_1 : decode cX7_learn 1 = .ok (.getfield 49, 3) := lw_dr lw_d_cX7_learn_0 1 rfl
theorem dX7_learn_4 : decode cX7_learn 4 = .ok (.ifCond .ne 10, 3) := lw_dr lw_d_cX7_learn_0 2 rfl
theorem dX7_learn_14 : decode cX7_learn 14 = .ok (.return_, 1) := lw_dr lw_d_cX7_learn_0 3 rfl
theorem dX7_learn_7 : decode cX7_learn 7 = .ok (.aload_n 1, 1) := lw_dr lw_d_cX7_learn_0 4 rfl
theorem dX7_learn_8 : decode cX7_learn 8 = .ok (.getfield 73, 3) := lw_dr lw_d_cX7_learn_0 5 rfl
theorem dX7_learn_11 : decode cX7_learn 11 = .ok (.ifCond .ne 4, 3) := lw_dr lw_d_cX7_learn_0 6 rfl
theorem dX7_learn_15 : decode cX7_learn 15 = .ok (.aload_n 0, 1) := lw_dr lw_d_cX7_learn_0 7 rfl
theorem dX7_learn_16 : decode cX7_learn 16 = .ok (.iconst 1, 1) := lw_dr lw_d_cX7_learn_0 8 rfl
theorem dX7_learn_17 : decode cX7_learn 17 = .ok (.putfield 49, 3) := lw_dr lw_d_cX7_learn_0 9 rfl
theorem dX7_learn_20 : decode cX7_learn 20 = .ok (.aload_n 0, 1) := lw_dr lw_d_cX7_learn_0 10 rfl
theorem dX7_learn_21 : decode cX7_learn 21 = .ok (.iconst 0, 1) := lw_dr lw_d_cX7_learn_0 11 rfl
theorem dX7_learn_22 : decode cX7_learn 22 = .ok (.putfield 41, 3) := lw_dr lw_d_cX7_learn_0 12 rfl
theorem dX7_learn_25 : decode cX7_learn 25 = .ok (.aload_n 0, 1) := lw_dr lw_d_cX7_learn_0 13 rfl
theorem dX7_learn_26 : decode cX7_learn 26 = .ok (.lconst 0, 1) := lw_dr lw_d_cX7_learn_0 14 rfl
theorem dX7_learn_27 : decode cX7_learn 27 = .ok (.putfield 45, 3) := lw_dr lw_d_cX7_learn_0 15 rfl
theorem dX7_learn_30 : decode cX7_learn 30 = .ok (.aload_n 0, 1) := lw_dr lw_d_cX7_learn_0 16 rfl
theorem dX7_learn_31 : decode cX7_learn 31 = .ok (.getfield 26, 3) := lw_dr lw_d_cX7_learn_0 17 rfl
theorem dX7_learn_34 : decode cX7_learn 34 = .ok (.ldc2_w 76, 3) := lw_dr lw_d_cX7_learn_0 18 rfl
theorem dX7_learn_37 : decode cX7_learn 37 = .ok (.invokestatic 78, 3) := lw_dr lw_d_cX7_learn_0 19 rfl
theorem dX7_learn_40 : decode cX7_learn 40 = .ok (.aload_n 0, 1) := lw_dr lw_d_cX7_learn_0 20 rfl
theorem dX7_learn_41 : decode cX7_learn 41 = .ok (.getfield 29, 3) := lw_dr lw_d_cX7_learn_0 21 rfl
theorem dX7_learn_44 : decode cX7_learn 44 = .ok (.lconst 0, 1) := lw_dr lw_d_cX7_learn_0 22 rfl
theorem dX7_learn_45 : decode cX7_learn 45 = .ok (.invokestatic 78, 3) := lw_dr lw_d_cX7_learn_0 23 rfl
theorem dX7_learn_48 : decode cX7_learn 48 = .ok (.aload_n 0, 1) := lw_dr lw_d_cX7_learn_0 24 rfl
theorem dX7_learn_49 : decode cX7_learn 49 = .ok (.aload_n 1, 1) := lw_dr lw_d_cX7_learn_0 25 rfl
theorem dX7_learn_50 : decode cX7_learn 50 = .ok (.aload_n 2, 1) := lw_dr lw_d_cX7_learn_0 26 rfl
theorem dX7_learn_51 : decode cX7_learn 51 = .ok (.invokevirtual 84, 3) := lw_dr lw_d_cX7_learn_0 27 rfl
theorem dX7_learn_54 : decode cX7_learn 54 = .ok (.aload_n 0, 1) := lw_dr lw_d_cX7_learn_0 28 rfl
theorem dX7_learn_55 : decode cX7_learn 55 = .ok (.getfield 12, 3) := lw_dr lw_d_cX7_learn_0 29 rfl
theorem dX7_learn_58 : decode cX7_learn 58 = .ok (.invokevirtual 87, 3) := lw_dr lw_d_cX7_learn_0 30 rfl
theorem dX7_learn_61 : decode cX7_learn 61 = .ok (.istore_n 3, 1) := lw_dr lw_d_cX7_learn_0 31 rfl
theorem dX7_learn_62 : decode cX7_learn 62 = .ok (.iconst 0, 1) := lw_dr lw_d_cX7_learn_0 32 rfl
theorem dX7_learn_63 : decode cX7_learn 63 = .ok (.istore 4, 2) := lw_dr lw_d_cX7_learn_0 33 rfl
theorem dX7_learn_65 : decode cX7_learn 65 = .ok (.iload 4, 2) := lw_dr lw_d_cX7_learn_0 34 rfl
theorem dX7_learn_67 : decode cX7_learn 67 = .ok (.iload_n 3, 1) := lw_dr lw_d_cX7_learn_0 35 rfl
theorem dX7_learn_68 : decode cX7_learn 68 = .ok (.if_icmp .ge 31, 3) := lw_dr lw_d_cX7_learn_0 36 rfl
theorem dX7_learn_99 : decode cX7_learn 99 = .ok (.return_, 1) := lw_dr lw_d_cX7_learn_0 37 rfl
theorem dX7_learn_71 : decode cX7_learn 71 = .ok (.aload_n 0, 1) := lw_dr lw_d_cX7_learn_0 38 rfl
theorem dX7_learn_72 : decode cX7_learn 72 = .ok (.iload 4, 2) := lw_dr lw_d_cX7_learn_0 39 rfl
theorem lw_d_cX7_learn_74 : lw_dl cX7_learn [(74, .aload_n 1, 1), (75, .getfield 61, 3), (78, .imul, 1), (79, .aload_n 1, 1), (80, .getfield 61, 3), (83, .invokevirtual 91, 3), (86, .aload_n 0, 1), (87, .getfield 12, 3), (90, .invokevirtual 95, 3), (93, .iinc 4 1, 3), (96, .goto (-31), 3)] = true := by decide +kernel
theorem dX7_learn_74 : decode cX7_learn 74 = .ok (.aload_n 1, 1) := lw_dr lw_d_cX7_learn_74 0 rfl
theorem dX7_learn_75 : decode cX7_learn 75 = .ok (.getfield 61, 3) := lw_dr lw_d_cX7_learn_74 1 rfl
theorem dX7_learn_78 : decode cX7_learn 78 = .ok (.imul, 1) := lw_dr lw_d_cX7_learn_74 2 rfl
theorem dX7_learn_79 : decode cX7_learn 79 = .ok (.aload_n 1, 1) := lw_dr lw_d_cX7_learn_74 3 rfl
theorem dX7_learn_80 : decode cX7_learn 80 = .ok (.getfield 61, 3) := lw_dr lw_d_cX7_learn_74 4 rfl
theorem dX7_learn_83 : decode cX7_learn 83 = .ok (.invokevirtual 91, 3) := lw_dr lw_d_cX7_learn_74 5 rfl
theorem dX7_learn_86 : decode cX7_learn 86 = .ok (.aload_n 0, 1) := lw_dr lw_d_cX7_learn_74 6 rfl
theorem dX7_learn_87 : decode cX7_learn 87 = .ok (.getfield 12, 3) := lw_dr lw_d_cX7_learn_74 7 rfl
theorem dX7_learn_90 : decode cX7_learn 90 = .ok (.invokevirtual 95, 3) := lw_dr lw_d_cX7_learn_74 8 rfl
theorem dX7_learn_93 : decode cX7_learn 93 = .ok (.iinc 4 1, 3) := lw_dr lw_d_cX7_learn_74 9 rfl
theorem dX7_learn_96 : decode cX7_learn 96 = .ok (.goto (-31), 3) := lw_dr lw_d_cX7_learn_74 10 rfl
theorem lw_d_cX7_startWalk_0 : lw_dl cX7_startWalk [(0, .aload_n 0, 1), (1, .getfield 12, 3), (4, .aload_n 1, 1), (5, .invokevirtual 53, 3), (8, .aload_n 0, 1), (9, .getfield 12, 3), (12, .aload_n 1, 1), (13, .aload_n 2, 1), (14, .invokevirtual 57, 3), (17, .aload_n 0, 1), (18, .getfield 12, 3), (21, .iconst 1, 1), (22, .aload_n 1, 1), (23, .getfield 61, 3), (26, .isub, 1), (27, .iconst 2, 1), (28, .aload_n 1, 1), (29, .getfield 61, 3), (32, .invokevirtual 66, 3), (35, .aload_n 0, 1), (36, .getfield 12, 3), (39, .invokevirtual 70, 3), (42, .return_, 1)] = true := by decide +kernel
theorem dX7_startWalk_0 : decode cX7_startWalk 0 = .ok (.aload_n 0, 1) := lw_dr lw_d_cX7_startWalk_0 0 rfl
theorem dX7_startWalk_1 : decode cX7_startWalk 1 = .ok (.getfield 12, 3) := lw_dr lw_d_cX7_startWalk_0 1 rfl
theorem dX7_startWalk_4 : decode cX7_startWalk 4 = .ok (.aload_n 1, 1) := lw_dr lw_d_cX7_startWalk_0 2 rfl
theorem dX7_startWalk_5 : decode cX7_startWalk 5 = .ok (.invokevirtual 53, 3) := lw_dr lw_d_cX7_startWalk_0 3 rfl
theorem dX7_startWalk_8 : decode cX7_startWalk 8 = .ok (.aload_n 0, 1) := lw_dr lw_d_cX7_startWalk_0 4 rfl
theorem dX7_startWalk_9 : decode cX7_startWalk 9 = .ok (.getfield 12, 3) := lw_dr lw_d_cX7_startWalk_0 5 rfl
theorem dX7_startWalk_12 : decode cX7_startWalk 12 = .ok (.aload_n 1, 1) := lw_dr lw_d_cX7_startWalk_0 6 rfl
theorem dX7_startWalk_13 : decode cX7_startWalk 13 = .ok (.aload_n 2, 1) := lw_dr lw_d_cX7_startWalk_0 7 rfl
theorem dX7_startWalk_14 : decode cX7_startWalk 14 = .ok (.invokevirtual 57, 3) := lw_dr lw_d_cX7_startWalk_0 8 rfl
theorem dX7_startWalk_17 : decode cX7_startWalk 17 = .ok (.aload_n 0, 1) := lw_dr lw_d_cX7_startWalk_0 9 rfl
theorem dX7_startWalk_18 : decode cX7_startWalk 18 = .ok (.getfield 12, 3) := lw_dr lw_d_cX7_startWalk_0 10 rfl
theorem dX7_startWalk_21 : decode cX7_startWalk 21 = .ok (.iconst 1, 1) := lw_dr lw_d_cX7_startWalk_0 11 rfl
theorem dX7_startWalk_22 : decode cX7_startWalk 22 = .ok (.aload_n 1, 1) := lw_dr lw_d_cX7_startWalk_0 12 rfl
theorem dX7_startWalk_23 : decode cX7_startWalk 23 = .ok (.getfield 61, 3) := lw_dr lw_d_cX7_startWalk_0 13 rfl
theorem dX7_startWalk_26 : decode cX7_startWalk 26 = .ok (.isub, 1) := lw_dr lw_d_cX7_startWalk_0 14 rfl
theorem dX7_startWalk_27 : decode cX7_startWalk 27 = .ok (.iconst 2, 1) := lw_dr lw_d_cX7_startWalk_0 15 rfl
theorem dX7_startWalk_28 : decode cX7_startWalk 28 = .ok (.aload_n 1, 1) := lw_dr lw_d_cX7_startWalk_0 16 rfl
theorem dX7_startWalk_29 : decode cX7_startWalk 29 = .ok (.getfield 61, 3) := lw_dr lw_d_cX7_startWalk_0 17 rfl
theorem dX7_startWalk_32 : decode cX7_startWalk 32 = .ok (.invokevirtual 66, 3) := lw_dr lw_d_cX7_startWalk_0 18 rfl
theorem dX7_startWalk_35 : decode cX7_startWalk 35 = .ok (.aload_n 0, 1) := lw_dr lw_d_cX7_startWalk_0 19 rfl
theorem dX7_startWalk_36 : decode cX7_startWalk 36 = .ok (.getfield 12, 3) := lw_dr lw_d_cX7_startWalk_0 20 rfl
theorem dX7_startWalk_39 : decode cX7_startWalk 39 = .ok (.invokevirtual 70, 3) := lw_dr lw_d_cX7_startWalk_0 21 rfl
theorem dX7_startWalk_42 : decode cX7_startWalk 42 = .ok (.return_, 1) := lw_dr lw_d_cX7_startWalk_0 22 rfl
theorem lw_d_cX7_learnLine_0 : lw_dl cX7_learnLine [(0, .ldc2_w 76, 3), (3, .lstore_n 3, 1), (4, .lconst 0, 1), (5, .lstore 5, 2), (7, .iconst 0, 1), (8, .istore 7, 2), (10, .iload 7, 2), (12, .iload_n 2, 1), (13, .if_icmp .ge 82, 3), (95, .iconst 0, 1), (96, .istore 7, 2), (98, .iload 7, 2), (100, .aload_n 0, 1), (101, .getfield 12, 3), (104, .getfield 104, 3), (107, .if_icmp .ge 28, 3), (135, .aload_n 0, 1), (136, .dup, 1), (137, .getfield 45, 3), (140, .lload 5, 2), (142, .ladd, 1), (143, .putfield 45, 3), (146, .return_, 1), (110, .aload_n 0, 1), (111, .iload 7, 2), (113, .aload_n 0, 1), (114, .getfield 12, 3), (117, .getfield 121, 3), (120, .iload 7, 2), (122, .iaload, 1), (123, .lload_n 3, 1), (124, .lload 5, 2), (126, .invokevirtual 107, 3), (129, .iinc 7 1, 3), (132, .goto (-34), 3), (16, .aload_n 0, 1), (17, .getfield 12, 3), (20, .iload 7, 2), (22, .invokevirtual 98, 3), (25, .lstore 8, 2)] = true := by decide +kernel
theorem dX7_learnLine_0 : decode cX7_learnLine 0 = .ok (.ldc2_w 76, 3) := lw_dr lw_d_cX7_learnLine_0 0 rfl
theorem dX7_learnLine_3 : decode cX7_learnLine 3 = .ok (.lstore_n 3, 1) := lw_dr lw_d_cX7_learnLine_0 1 rfl
theorem dX7_learnLine_4 : decode cX7_learnLine 4 = .ok (.lconst 0, 1) := lw_dr lw_d_cX7_learnLine_0 2 rfl
theorem dX7_learnLine_5 : decode cX7_learnLine 5 = .ok (.lstore 5, 2) := lw_dr lw_d_cX7_learnLine_0 3 rfl
theorem dX7_learnLine_7 : decode cX7_learnLine 7 = .ok (.iconst 0, 1) := lw_dr lw_d_cX7_learnLine_0 4 rfl
theorem dX7_learnLine_8 : decode cX7_learnLine 8 = .ok (.istore 7, 2) := lw_dr lw_d_cX7_learnLine_0 5 rfl
theorem dX7_learnLine_10 : decode cX7_learnLine 10 = .ok (.iload 7, 2) := lw_dr lw_d_cX7_learnLine_0 6 rfl
theorem dX7_learnLine_12 : decode cX7_learnLine 12 = .ok (.iload_n 2, 1) := lw_dr lw_d_cX7_learnLine_0 7 rfl
theorem dX7_learnLine_13 : decode cX7_learnLine 13 = .ok (.if_icmp .ge 82, 3) := lw_dr lw_d_cX7_learnLine_0 8 rfl
theorem dX7_learnLine_95 : decode cX7_learnLine 95 = .ok (.iconst 0, 1) := lw_dr lw_d_cX7_learnLine_0 9 rfl
theorem dX7_learnLine_96 : decode cX7_learnLine 96 = .ok (.istore 7, 2) := lw_dr lw_d_cX7_learnLine_0 10 rfl
theorem dX7_learnLine_98 : decode cX7_learnLine 98 = .ok (.iload 7, 2) := lw_dr lw_d_cX7_learnLine_0 11 rfl
theorem dX7_learnLine_100 : decode cX7_learnLine 100 = .ok (.aload_n 0, 1) := lw_dr lw_d_cX7_learnLine_0 12 rfl
theorem dX7_learnLine_101 : decode cX7_learnLine 101 = .ok (.getfield 12, 3) := lw_dr lw_d_cX7_learnLine_0 13 rfl
theorem dX7_learnLine_104 : decode cX7_learnLine 104 = .ok (.getfield 104, 3) := lw_dr lw_d_cX7_learnLine_0 14 rfl
theorem dX7_learnLine_107 : decode cX7_learnLine 107 = .ok (.if_icmp .ge 28, 3) := lw_dr lw_d_cX7_learnLine_0 15 rfl
theorem dX7_learnLine_135 : decode cX7_learnLine 135 = .ok (.aload_n 0, 1) := lw_dr lw_d_cX7_learnLine_0 16 rfl
theorem dX7_learnLine_136 : decode cX7_learnLine 136 = .ok (.dup, 1) := lw_dr lw_d_cX7_learnLine_0 17 rfl
theorem dX7_learnLine_137 : decode cX7_learnLine 137 = .ok (.getfield 45, 3) := lw_dr lw_d_cX7_learnLine_0 18 rfl
theorem dX7_learnLine_140 : decode cX7_learnLine 140 = .ok (.lload 5, 2) := lw_dr lw_d_cX7_learnLine_0 19 rfl
theorem dX7_learnLine_142 : decode cX7_learnLine 142 = .ok (.ladd, 1) := lw_dr lw_d_cX7_learnLine_0 20 rfl
theorem dX7_learnLine_143 : decode cX7_learnLine 143 = .ok (.putfield 45, 3) := lw_dr lw_d_cX7_learnLine_0 21 rfl
theorem dX7_learnLine_146 : decode cX7_learnLine 146 = .ok (.return_, 1) := lw_dr lw_d_cX7_learnLine_0 22 rfl
theorem dX7_learnLine_110 : decode cX7_learnLine 110 = .ok (.aload_n 0, 1) := lw_dr lw_d_cX7_learnLine_0 23 rfl
theorem dX7_learnLine_111 : decode cX7_learnLine 111 = .ok (.iload 7, 2) := lw_dr lw_d_cX7_learnLine_0 24 rfl
theorem dX7_learnLine_113 : decode cX7_learnLine 113 = .ok (.aload_n 0, 1) := lw_dr lw_d_cX7_learnLine_0 25 rfl
theorem dX7_learnLine_114 : decode cX7_learnLine 114 = .ok (.getfield 12, 3) := lw_dr lw_d_cX7_learnLine_0 26 rfl
theorem dX7_learnLine_117 : decode cX7_learnLine 117 = .ok (.getfield 121, 3) := lw_dr lw_d_cX7_learnLine_0 27 rfl
theorem dX7_learnLine_120 : decode cX7_learnLine 120 = .ok (.iload 7, 2) := lw_dr lw_d_cX7_learnLine_0 28 rfl
theorem dX7_learnLine_122 : decode cX7_learnLine 122 = .ok (.iaload, 1) := lw_dr lw_d_cX7_learnLine_0 29 rfl
theorem dX7_learnLine_123 : decode cX7_learnLine 123 = .ok (.lload_n 3, 1) := lw_dr lw_d_cX7_learnLine_0 30 rfl
theorem dX7_learnLine_124 : decode cX7_learnLine 124 = .ok (.lload 5, 2) := lw_dr lw_d_cX7_learnLine_0 31 rfl
theorem dX7_learnLine_126 : decode cX7_learnLine 126 = .ok (.invokevirtual 107, 3) := lw_dr lw_d_cX7_learnLine_0 32 rfl
theorem dX7_learnLine_129 : decode cX7_learnLine 129 = .ok (.iinc 7 1, 3) := lw_dr lw_d_cX7_learnLine_0 33 rfl
theorem dX7_learnLine_132 : decode cX7_learnLine 132 = .ok (.goto (-34), 3) := lw_dr lw_d_cX7_learnLine_0 34 rfl
theorem dX7_learnLine_16 : decode cX7_learnLine 16 = .ok (.aload_n 0, 1) := lw_dr lw_d_cX7_learnLine_0 35 rfl
theorem dX7_learnLine_17 : decode cX7_learnLine 17 = .ok (.getfield 12, 3) := lw_dr lw_d_cX7_learnLine_0 36 rfl
theorem dX7_learnLine_20 : decode cX7_learnLine 20 = .ok (.iload 7, 2) := lw_dr lw_d_cX7_learnLine_0 37 rfl
theorem dX7_learnLine_22 : decode cX7_learnLine 22 = .ok (.invokevirtual 98, 3) := lw_dr lw_d_cX7_learnLine_0 38 rfl
theorem dX7_learnLine_25 : decode cX7_learnLine 25 = .ok (.lstore 8, 2) := lw_dr lw_d_cX7_learnLine_0 39 rfl
theorem lw_d_cX7_learnLine_27 : lw_dl cX7_learnLine [(27, .lload 8, 2), (29, .lconst 0, 1), (30, .lcmp, 1), (31, .ifCond .ge 7, 3), (38, .ldc2_w 102, 3), (41, .lconst 1, 1), (42, .lload 8, 2), (44, .ladd, 1), (45, .ldiv, 1), (46, .lstore 10, 2), (48, .aload_n 0, 1), (49, .aload_n 0, 1), (50, .getfield 12, 3), (53, .getfield 104, 3), (56, .iload 7, 2), (58, .lload 8, 2), (60, .lload 10, 2), (62, .invokevirtual 107, 3), (65, .aload_n 0, 1), (66, .iload_n 1, 1), (67, .iload 7, 2), (69, .iadd, 1), (70, .lload 8, 2), (72, .invokevirtual 111, 3), (75, .lload_n 3, 1), (76, .lload 8, 2), (78, .invokestatic 115, 3), (81, .lstore_n 3, 1), (82, .lload 5, 2), (84, .lload 10, 2), (86, .ladd, 1), (87, .lstore 5, 2), (89, .iinc 7 1, 3), (92, .goto (-82), 3), (34, .lconst 0, 1), (35, .goto 11, 3)] = true := by decide +kernel
theorem dX7_learnLine_27 : decode cX7_learnLine 27 = .ok (.lload 8, 2) := lw_dr lw_d_cX7_learnLine_27 0 rfl
theorem dX7_learnLine_29 : decode cX7_learnLine 29 = .ok (.lconst 0, 1) := lw_dr lw_d_cX7_learnLine_27 1 rfl
theorem dX7_learnLine_30 : decode cX7_learnLine 30 = .ok (.lcmp, 1) := lw_dr lw_d_cX7_learnLine_27 2 rfl
theorem dX7_learnLine_31 : decode cX7_learnLine 31 = .ok (.ifCond .ge 7, 3) := lw_dr lw_d_cX7_learnLine_27 3 rfl
theorem dX7_learnLine_38 : decode cX7_learnLine 38 = .ok (.ldc2_w 102, 3) := lw_dr lw_d_cX7_learnLine_27 4 rfl
theorem dX7_learnLine_41 : decode cX7_learnLine 41 = .ok (.lconst 1, 1) := lw_dr lw_d_cX7_learnLine_27 5 rfl
theorem dX7_learnLine_42 : decode cX7_learnLine 42 = .ok (.lload 8, 2) := lw_dr lw_d_cX7_learnLine_27 6 rfl
theorem dX7_learnLine_44 : decode cX7_learnLine 44 = .ok (.ladd, 1) := lw_dr lw_d_cX7_learnLine_27 7 rfl
theorem dX7_learnLine_45 : decode cX7_learnLine 45 = .ok (.ldiv, 1) := lw_dr lw_d_cX7_learnLine_27 8 rfl
theorem dX7_learnLine_46 : decode cX7_learnLine 46 = .ok (.lstore 10, 2) := lw_dr lw_d_cX7_learnLine_27 9 rfl
theorem dX7_learnLine_48 : decode cX7_learnLine 48 = .ok (.aload_n 0, 1) := lw_dr lw_d_cX7_learnLine_27 10 rfl
theorem dX7_learnLine_49 : decode cX7_learnLine 49 = .ok (.aload_n 0, 1) := lw_dr lw_d_cX7_learnLine_27 11 rfl
theorem dX7_learnLine_50 : decode cX7_learnLine 50 = .ok (.getfield 12, 3) := lw_dr lw_d_cX7_learnLine_27 12 rfl
theorem dX7_learnLine_53 : decode cX7_learnLine 53 = .ok (.getfield 104, 3) := lw_dr lw_d_cX7_learnLine_27 13 rfl
theorem dX7_learnLine_56 : decode cX7_learnLine 56 = .ok (.iload 7, 2) := lw_dr lw_d_cX7_learnLine_27 14 rfl
theorem dX7_learnLine_58 : decode cX7_learnLine 58 = .ok (.lload 8, 2) := lw_dr lw_d_cX7_learnLine_27 15 rfl
theorem dX7_learnLine_60 : decode cX7_learnLine 60 = .ok (.lload 10, 2) := lw_dr lw_d_cX7_learnLine_27 16 rfl
theorem dX7_learnLine_62 : decode cX7_learnLine 62 = .ok (.invokevirtual 107, 3) := lw_dr lw_d_cX7_learnLine_27 17 rfl
theorem dX7_learnLine_65 : decode cX7_learnLine 65 = .ok (.aload_n 0, 1) := lw_dr lw_d_cX7_learnLine_27 18 rfl
theorem dX7_learnLine_66 : decode cX7_learnLine 66 = .ok (.iload_n 1, 1) := lw_dr lw_d_cX7_learnLine_27 19 rfl
theorem dX7_learnLine_67 : decode cX7_learnLine 67 = .ok (.iload 7, 2) := lw_dr lw_d_cX7_learnLine_27 20 rfl
theorem dX7_learnLine_69 : decode cX7_learnLine 69 = .ok (.iadd, 1) := lw_dr lw_d_cX7_learnLine_27 21 rfl
theorem dX7_learnLine_70 : decode cX7_learnLine 70 = .ok (.lload 8, 2) := lw_dr lw_d_cX7_learnLine_27 22 rfl
theorem dX7_learnLine_72 : decode cX7_learnLine 72 = .ok (.invokevirtual 111, 3) := lw_dr lw_d_cX7_learnLine_27 23 rfl
theorem dX7_learnLine_75 : decode cX7_learnLine 75 = .ok (.lload_n 3, 1) := lw_dr lw_d_cX7_learnLine_27 24 rfl
theorem dX7_learnLine_76 : decode cX7_learnLine 76 = .ok (.lload 8, 2) := lw_dr lw_d_cX7_learnLine_27 25 rfl
theorem dX7_learnLine_78 : decode cX7_learnLine 78 = .ok (.invokestatic 115, 3) := lw_dr lw_d_cX7_learnLine_27 26 rfl
theorem dX7_learnLine_81 : decode cX7_learnLine 81 = .ok (.lstore_n 3, 1) := lw_dr lw_d_cX7_learnLine_27 27 rfl
theorem dX7_learnLine_82 : decode cX7_learnLine 82 = .ok (.lload 5, 2) := lw_dr lw_d_cX7_learnLine_27 28 rfl
theorem dX7_learnLine_84 : decode cX7_learnLine 84 = .ok (.lload 10, 2) := lw_dr lw_d_cX7_learnLine_27 29 rfl
theorem dX7_learnLine_86 : decode cX7_learnLine 86 = .ok (.ladd, 1) := lw_dr lw_d_cX7_learnLine_27 30 rfl
theorem dX7_learnLine_87 : decode cX7_learnLine 87 = .ok (.lstore 5, 2) := lw_dr lw_d_cX7_learnLine_27 31 rfl
theorem dX7_learnLine_89 : decode cX7_learnLine 89 = .ok (.iinc 7 1, 3) := lw_dr lw_d_cX7_learnLine_27 32 rfl
theorem dX7_learnLine_92 : decode cX7_learnLine 92 = .ok (.goto (-82), 3) := lw_dr lw_d_cX7_learnLine_27 33 rfl
theorem dX7_learnLine_34 : decode cX7_learnLine 34 = .ok (.lconst 0, 1) := lw_dr lw_d_cX7_learnLine_27 34 rfl
theorem dX7_learnLine_35 : decode cX7_learnLine 35 = .ok (.goto 11, 3) := lw_dr lw_d_cX7_learnLine_27 35 rfl
theorem lw_d_cX7_note_0 : lw_dl cX7_note [(0, .iload_n 1, 1), (1, .bipush 8, 2), (3, .imul, 1), (4, .iload_n 2, 1), (5, .iadd, 1), (6, .istore 7, 2), (8, .aload_n 0, 1), (9, .getfield 26, 3), (12, .iload 7, 2), (14, .aload_n 0, 1), (15, .getfield 26, 3), (18, .iload 7, 2), (20, .laload, 1), (21, .lload_n 3, 1), (22, .invokestatic 115, 3), (25, .lastore, 1), (26, .aload_n 0, 1), (27, .getfield 29, 3), (30, .iload 7, 2), (32, .dup2, 1), (33, .laload, 1), (34, .lload 5, 2), (36, .ladd, 1), (37, .lastore, 1), (38, .return_, 1)] = true := by decide +kernel
theorem dX7_note_0 : decode cX7_note 0 = .ok (.iload_n 1, 1) := lw_dr lw_d_cX7_note_0 0 rfl
theorem dX7_note_1 : decode cX7_note 1 = .ok (.bipush 8, 2) := lw_dr lw_d_cX7_note_0 1 rfl
theorem dX7_note_3 : decode cX7_note 3 = .ok (.imul, 1) := lw_dr lw_d_cX7_note_0 2 rfl
theorem dX7_note_4 : decode cX7_note 4 = .ok (.iload_n 2, 1) := lw_dr lw_d_cX7_note_0 3 rfl
theorem dX7_note_5 : decode cX7_note 5 = .ok (.iadd, 1) := lw_dr lw_d_cX7_note_0 4 rfl
theorem dX7_note_6 : decode cX7_note 6 = .ok (.istore 7, 2) := lw_dr lw_d_cX7_note_0 5 rfl
theorem dX7_note_8 : decode cX7_note 8 = .ok (.aload_n 0, 1) := lw_dr lw_d_cX7_note_0 6 rfl
theorem dX7_note_9 : decode cX7_note 9 = .ok (.getfield 26, 3) := lw_dr lw_d_cX7_note_0 7 rfl
theorem dX7_note_12 : decode cX7_note 12 = .ok (.iload 7, 2) := lw_dr lw_d_cX7_note_0 8 rfl
theorem dX7_note_14 : decode cX7_note 14 = .ok (.aload_n 0, 1) := lw_dr lw_d_cX7_note_0 9 rfl
theorem dX7_note_15 : decode cX7_note 15 = .ok (.getfield 26, 3) := lw_dr lw_d_cX7_note_0 10 rfl
theorem dX7_note_18 : decode cX7_note 18 = .ok (.iload 7, 2) := lw_dr lw_d_cX7_note_0 11 rfl
theorem dX7_note_20 : decode cX7_note 20 = .ok (.laload, 1) := lw_dr lw_d_cX7_note_0 12 rfl
theorem dX7_note_21 : decode cX7_note 21 = .ok (.lload_n 3, 1) := lw_dr lw_d_cX7_note_0 13 rfl
theorem dX7_note_22 : decode cX7_note 22 = .ok (.invokestatic 115, 3) := lw_dr lw_d_cX7_note_0 14 rfl
theorem dX7_note_25 : decode cX7_note 25 = .ok (.lastore, 1) := lw_dr lw_d_cX7_note_0 15 rfl
theorem dX7_note_26 : decode cX7_note 26 = .ok (.aload_n 0, 1) := lw_dr lw_d_cX7_note_0 16 rfl
theorem dX7_note_27 : decode cX7_note 27 = .ok (.getfield 29, 3) := lw_dr lw_d_cX7_note_0 17 rfl
theorem dX7_note_30 : decode cX7_note 30 = .ok (.iload 7, 2) := lw_dr lw_d_cX7_note_0 18 rfl
theorem dX7_note_32 : decode cX7_note 32 = .ok (.dup2, 1) := lw_dr lw_d_cX7_note_0 19 rfl
theorem dX7_note_33 : decode cX7_note 33 = .ok (.laload, 1) := lw_dr lw_d_cX7_note_0 20 rfl
theorem dX7_note_34 : decode cX7_note 34 = .ok (.lload 5, 2) := lw_dr lw_d_cX7_note_0 21 rfl
theorem dX7_note_36 : decode cX7_note 36 = .ok (.ladd, 1) := lw_dr lw_d_cX7_note_0 22 rfl
theorem dX7_note_37 : decode cX7_note 37 = .ok (.lastore, 1) := lw_dr lw_d_cX7_note_0 23 rfl
theorem dX7_note_38 : decode cX7_note 38 = .ok (.return_, 1) := lw_dr lw_d_cX7_note_0 24 rfl
theorem lw_d_cX7_admit_0 : lw_dl cX7_admit [(0, .aload_n 0, 1), (1, .getfield 41, 3), (4, .bipush 10, 2), (6, .if_icmp .ne 26, 3), (32, .aload_n 0, 1), (33, .getfield 41, 3), (36, .istore 4, 2), (38, .iload 4, 2), (40, .ifCond .le 55, 3), (95, .aload_n 0, 1), (96, .getfield 18, 3), (99, .iload 4, 2), (101, .lload_n 2, 1), (102, .lastore, 1), (103, .aload_n 0, 1), (104, .getfield 22, 3), (107, .iload 4, 2), (109, .iload_n 1, 1), (110, .iastore, 1), (111, .aload_n 0, 1), (112, .dup, 1), (113, .getfield 41, 3), (116, .iconst 1, 1), (117, .iadd, 1), (118, .putfield 41, 3), (121, .return_, 1), (43, .aload_n 0, 1), (44, .getfield 18, 3), (47, .iload 4, 2), (49, .iconst 1, 1), (50, .isub, 1), (51, .laload, 1), (52, .lload_n 2, 1), (53, .lcmp, 1), (54, .ifCond .le 41, 3), (57, .aload_n 0, 1), (58, .getfield 18, 3), (61, .iload 4, 2), (63, .aload_n 0, 1), (64, .getfield 18, 3)] = true := by decide +kernel
theorem dX7_admit_0 : decode cX7_admit 0 = .ok (.aload_n 0, 1) := lw_dr lw_d_cX7_admit_0 0 rfl
theorem dX7_admit_1 : decode cX7_admit 1 = .ok (.getfield 41, 3) := lw_dr lw_d_cX7_admit_0 1 rfl
theorem dX7_admit_4 : decode cX7_admit 4 = .ok (.bipush 10, 2) := lw_dr lw_d_cX7_admit_0 2 rfl
theorem dX7_admit_6 : decode cX7_admit 6 = .ok (.if_icmp .ne 26, 3) := lw_dr lw_d_cX7_admit_0 3 rfl
theorem dX7_admit_32 : decode cX7_admit 32 = .ok (.aload_n 0, 1) := lw_dr lw_d_cX7_admit_0 4 rfl
theorem dX7_admit_33 : decode cX7_admit 33 = .ok (.getfield 41, 3) := lw_dr lw_d_cX7_admit_0 5 rfl
theorem dX7_admit_36 : decode cX7_admit 36 = .ok (.istore 4, 2) := lw_dr lw_d_cX7_admit_0 6 rfl
theorem dX7_admit_38 : decode cX7_admit 38 = .ok (.iload 4, 2) := lw_dr lw_d_cX7_admit_0 7 rfl
theorem dX7_admit_40 : decode cX7_admit 40 = .ok (.ifCond .le 55, 3) := lw_dr lw_d_cX7_admit_0 8 rfl
theorem dX7_admit_95 : decode cX7_admit 95 = .ok (.aload_n 0, 1) := lw_dr lw_d_cX7_admit_0 9 rfl
theorem dX7_admit_96 : decode cX7_admit 96 = .ok (.getfield 18, 3) := lw_dr lw_d_cX7_admit_0 10 rfl
theorem dX7_admit_99 : decode cX7_admit 99 = .ok (.iload 4, 2) := lw_dr lw_d_cX7_admit_0 11 rfl
theorem dX7_admit_101 : decode cX7_admit 101 = .ok (.lload_n 2, 1) := lw_dr lw_d_cX7_admit_0 12 rfl
theorem dX7_admit_102 : decode cX7_admit 102 = .ok (.lastore, 1) := lw_dr lw_d_cX7_admit_0 13 rfl
theorem dX7_admit_103 : decode cX7_admit 103 = .ok (.aload_n 0, 1) := lw_dr lw_d_cX7_admit_0 14 rfl
theorem dX7_admit_104 : decode cX7_admit 104 = .ok (.getfield 22, 3) := lw_dr lw_d_cX7_admit_0 15 rfl
theorem dX7_admit_107 : decode cX7_admit 107 = .ok (.iload 4, 2) := lw_dr lw_d_cX7_admit_0 16 rfl
theorem dX7_admit_109 : decode cX7_admit 109 = .ok (.iload_n 1, 1) := lw_dr lw_d_cX7_admit_0 17 rfl
theorem dX7_admit_110 : decode cX7_admit 110 = .ok (.iastore, 1) := lw_dr lw_d_cX7_admit_0 18 rfl
theorem dX7_admit_111 : decode cX7_admit 111 = .ok (.aload_n 0, 1) := lw_dr lw_d_cX7_admit_0 19 rfl
theorem dX7_admit_112 : decode cX7_admit 112 = .ok (.dup, 1) := lw_dr lw_d_cX7_admit_0 20 rfl
theorem dX7_admit_113 : decode cX7_admit 113 = .ok (.getfield 41, 3) := lw_dr lw_d_cX7_admit_0 21 rfl
theorem dX7_admit_116 : decode cX7_admit 116 = .ok (.iconst 1, 1) := lw_dr lw_d_cX7_admit_0 22 rfl
theorem dX7_admit_117 : decode cX7_admit 117 = .ok (.iadd, 1) := lw_dr lw_d_cX7_admit_0 23 rfl
theorem dX7_admit_118 : decode cX7_admit 118 = .ok (.putfield 41, 3) := lw_dr lw_d_cX7_admit_0 24 rfl
theorem dX7_admit_121 : decode cX7_admit 121 = .ok (.return_, 1) := lw_dr lw_d_cX7_admit_0 25 rfl
theorem dX7_admit_43 : decode cX7_admit 43 = .ok (.aload_n 0, 1) := lw_dr lw_d_cX7_admit_0 26 rfl
theorem dX7_admit_44 : decode cX7_admit 44 = .ok (.getfield 18, 3) := lw_dr lw_d_cX7_admit_0 27 rfl
theorem dX7_admit_47 : decode cX7_admit 47 = .ok (.iload 4, 2) := lw_dr lw_d_cX7_admit_0 28 rfl
theorem dX7_admit_49 : decode cX7_admit 49 = .ok (.iconst 1, 1) := lw_dr lw_d_cX7_admit_0 29 rfl
theorem dX7_admit_50 : decode cX7_admit 50 = .ok (.isub, 1) := lw_dr lw_d_cX7_admit_0 30 rfl
theorem dX7_admit_51 : decode cX7_admit 51 = .ok (.laload, 1) := lw_dr lw_d_cX7_admit_0 31 rfl
theorem dX7_admit_52 : decode cX7_admit 52 = .ok (.lload_n 2, 1) := lw_dr lw_d_cX7_admit_0 32 rfl
theorem dX7_admit_53 : decode cX7_admit 53 = .ok (.lcmp, 1) := lw_dr lw_d_cX7_admit_0 33 rfl
theorem dX7_admit_54 : decode cX7_admit 54 = .ok (.ifCond .le 41, 3) := lw_dr lw_d_cX7_admit_0 34 rfl
theorem dX7_admit_57 : decode cX7_admit 57 = .ok (.aload_n 0, 1) := lw_dr lw_d_cX7_admit_0 35 rfl
theorem dX7_admit_58 : decode cX7_admit 58 = .ok (.getfield 18, 3) := lw_dr lw_d_cX7_admit_0 36 rfl
theorem dX7_admit_61 : decode cX7_admit 61 = .ok (.iload 4, 2) := lw_dr lw_d_cX7_admit_0 37 rfl
theorem dX7_admit_63 : decode cX7_admit 63 = .ok (.aload_n 0, 1) := lw_dr lw_d_cX7_admit_0 38 rfl
theorem dX7_admit_64 : decode cX7_admit 64 = .ok (.getfield 18, 3) := lw_dr lw_d_cX7_admit_0 39 rfl
theorem lw_d_cX7_admit_67 : lw_dl cX7_admit [(67, .iload 4, 2), (69, .iconst 1, 1), (70, .isub, 1), (71, .laload, 1), (72, .lastore, 1), (73, .aload_n 0, 1), (74, .getfield 22, 3), (77, .iload 4, 2), (79, .aload_n 0, 1), (80, .getfield 22, 3), (83, .iload 4, 2), (85, .iconst 1, 1), (86, .isub, 1), (87, .iaload, 1), (88, .iastore, 1), (89, .iinc 4 (-1), 3), (92, .goto (-54), 3), (9, .lload_n 2, 1), (10, .aload_n 0, 1), (11, .getfield 18, 3), (14, .bipush 9, 2), (16, .laload, 1), (17, .lcmp, 1), (18, .ifCond .lt 4, 3), (22, .aload_n 0, 1), (23, .dup, 1), (24, .getfield 41, 3), (27, .iconst 1, 1), (28, .isub, 1), (29, .putfield 41, 3), (21, .return_, 1)] = true := by decide +kernel
theorem dX7_admit_67 : decode cX7_admit 67 = .ok (.iload 4, 2) := lw_dr lw_d_cX7_admit_67 0 rfl
theorem dX7_admit_69 : decode cX7_admit 69 = .ok (.iconst 1, 1) := lw_dr lw_d_cX7_admit_67 1 rfl
theorem dX7_admit_70 : decode cX7_admit 70 = .ok (.isub, 1) := lw_dr lw_d_cX7_admit_67 2 rfl
theorem dX7_admit_71 : decode cX7_admit 71 = .ok (.laload, 1) := lw_dr lw_d_cX7_admit_67 3 rfl
theorem dX7_admit_72 : decode cX7_admit 72 = .ok (.lastore, 1) := lw_dr lw_d_cX7_admit_67 4 rfl
theorem dX7_admit_73 : decode cX7_admit 73 = .ok (.aload_n 0, 1) := lw_dr lw_d_cX7_admit_67 5 rfl
theorem dX7_admit_74 : decode cX7_admit 74 = .ok (.getfield 22, 3) := lw_dr lw_d_cX7_admit_67 6 rfl
theorem dX7_admit_77 : decode cX7_admit 77 = .ok (.iload 4, 2) := lw_dr lw_d_cX7_admit_67 7 rfl
theorem dX7_admit_79 : decode cX7_admit 79 = .ok (.aload_n 0, 1) := lw_dr lw_d_cX7_admit_67 8 rfl
theorem dX7_admit_80 : decode cX7_admit 80 = .ok (.getfield 22, 3) := lw_dr lw_d_cX7_admit_67 9 rfl
theorem dX7_admit_83 : decode cX7_admit 83 = .ok (.iload 4, 2) := lw_dr lw_d_cX7_admit_67 10 rfl
theorem dX7_admit_85 : decode cX7_admit 85 = .ok (.iconst 1, 1) := lw_dr lw_d_cX7_admit_67 11 rfl
theorem dX7_admit_86 : decode cX7_admit 86 = .ok (.isub, 1) := lw_dr lw_d_cX7_admit_67 12 rfl
theorem dX7_admit_87 : decode cX7_admit 87 = .ok (.iaload, 1) := lw_dr lw_d_cX7_admit_67 13 rfl
theorem dX7_admit_88 : decode cX7_admit 88 = .ok (.iastore, 1) := lw_dr lw_d_cX7_admit_67 14 rfl
theorem dX7_admit_89 : decode cX7_admit 89 = .ok (.iinc 4 (-1), 3) := lw_dr lw_d_cX7_admit_67 15 rfl
theorem dX7_admit_92 : decode cX7_admit 92 = .ok (.goto (-54), 3) := lw_dr lw_d_cX7_admit_67 16 rfl
theorem dX7_admit_9 : decode cX7_admit 9 = .ok (.lload_n 2, 1) := lw_dr lw_d_cX7_admit_67 17 rfl
theorem dX7_admit_10 : decode cX7_admit 10 = .ok (.aload_n 0, 1) := lw_dr lw_d_cX7_admit_67 18 rfl
theorem dX7_admit_11 : decode cX7_admit 11 = .ok (.getfield 18, 3) := lw_dr lw_d_cX7_admit_67 19 rfl
theorem dX7_admit_14 : decode cX7_admit 14 = .ok (.bipush 9, 2) := lw_dr lw_d_cX7_admit_67 20 rfl
theorem dX7_admit_16 : decode cX7_admit 16 = .ok (.laload, 1) := lw_dr lw_d_cX7_admit_67 21 rfl
theorem dX7_admit_17 : decode cX7_admit 17 = .ok (.lcmp, 1) := lw_dr lw_d_cX7_admit_67 22 rfl
theorem dX7_admit_18 : decode cX7_admit 18 = .ok (.ifCond .lt 4, 3) := lw_dr lw_d_cX7_admit_67 23 rfl
theorem dX7_admit_22 : decode cX7_admit 22 = .ok (.aload_n 0, 1) := lw_dr lw_d_cX7_admit_67 24 rfl
theorem dX7_admit_23 : decode cX7_admit 23 = .ok (.dup, 1) := lw_dr lw_d_cX7_admit_67 25 rfl
theorem dX7_admit_24 : decode cX7_admit 24 = .ok (.getfield 41, 3) := lw_dr lw_d_cX7_admit_67 26 rfl
theorem dX7_admit_27 : decode cX7_admit 27 = .ok (.iconst 1, 1) := lw_dr lw_d_cX7_admit_67 27 rfl
theorem dX7_admit_28 : decode cX7_admit 28 = .ok (.isub, 1) := lw_dr lw_d_cX7_admit_67 28 rfl
theorem dX7_admit_29 : decode cX7_admit 29 = .ok (.putfield 41, 3) := lw_dr lw_d_cX7_admit_67 29 rfl
theorem dX7_admit_21 : decode cX7_admit 21 = .ok (.return_, 1) := lw_dr lw_d_cX7_admit_67 30 rfl
theorem lw_d_cX7_countAhead_0 : lw_dl cX7_countAhead [(0, .aload_n 1, 1), (1, .getfield 73, 3), (4, .ifCond .ne 5, 3), (9, .aload_n 0, 1), (10, .aload_n 1, 1), (11, .aload_n 2, 1), (12, .invokevirtual 84, 3), (15, .iconst 0, 1), (16, .istore 6, 2), (18, .aload_n 0, 1), (19, .getfield 12, 3), (22, .invokevirtual 87, 3), (25, .istore 7, 2), (27, .iconst 0, 1), (28, .istore 8, 2), (30, .iconst 0, 1), (31, .istore 9, 2), (33, .iload 9, 2), (35, .iload 7, 2), (37, .if_icmp .ge 72, 3), (109, .iload 6, 2), (111, .ireturn, 1), (40, .iconst 0, 1), (41, .istore 10, 2), (43, .iload 10, 2), (45, .aload_n 1, 1), (46, .getfield 61, 3), (49, .if_icmp .ge 47, 3), (96, .aload_n 0, 1), (97, .getfield 12, 3), (100, .invokevirtual 95, 3), (103, .iinc 9 1, 3), (106, .goto (-73), 3), (52, .aload_n 0, 1), (53, .getfield 12, 3), (56, .iload 10, 2), (58, .invokevirtual 98, 3), (61, .lstore 11, 2), (63, .lload 11, 2), (65, .lload_n 3, 1)] = true := by decide +kernel
theorem dX7_countAhead_0 : decode cX7_countAhead 0 = .ok (.aload_n 1, 1) := lw_dr lw_d_cX7_countAhead_0 0 rfl
theorem dX7_countAhead_1 : decode cX7_countAhead 1 = .ok (.getfield 73, 3) := lw_dr lw_d_cX7_countAhead_0 1 rfl
theorem dX7_countAhead_4 : decode cX7_countAhead 4 = .ok (.ifCond .ne 5, 3) := lw_dr lw_d_cX7_countAhead_0 2 rfl
theorem dX7_countAhead_9 : decode cX7_countAhead 9 = .ok (.aload_n 0, 1) := lw_dr lw_d_cX7_countAhead_0 3 rfl
theorem dX7_countAhead_10 : decode cX7_countAhead 10 = .ok (.aload_n 1, 1) := lw_dr lw_d_cX7_countAhead_0 4 rfl
theorem dX7_countAhead_11 : decode cX7_countAhead 11 = .ok (.aload_n 2, 1) := lw_dr lw_d_cX7_countAhead_0 5 rfl
theorem dX7_countAhead_12 : decode cX7_countAhead 12 = .ok (.invokevirtual 84, 3) := lw_dr lw_d_cX7_countAhead_0 6 rfl
theorem dX7_countAhead_15 : decode cX7_countAhead 15 = .ok (.iconst 0, 1) := lw_dr lw_d_cX7_countAhead_0 7 rfl
theorem dX7_countAhead_16 : decode cX7_countAhead 16 = .ok (.istore 6, 2) := lw_dr lw_d_cX7_countAhead_0 8 rfl
theorem dX7_countAhead_18 : decode cX7_countAhead 18 = .ok (.aload_n 0, 1) := lw_dr lw_d_cX7_countAhead_0 9 rfl
theorem dX7_countAhead_19 : decode cX7_countAhead 19 = .ok (.getfield 12, 3) := lw_dr lw_d_cX7_countAhead_0 10 rfl
theorem dX7_countAhead_22 : decode cX7_countAhead 22 = .ok (.invokevirtual 87, 3) := lw_dr lw_d_cX7_countAhead_0 11 rfl
theorem dX7_countAhead_25 : decode cX7_countAhead 25 = .ok (.istore 7, 2) := lw_dr lw_d_cX7_countAhead_0 12 rfl
theorem dX7_countAhead_27 : decode cX7_countAhead 27 = .ok (.iconst 0, 1) := lw_dr lw_d_cX7_countAhead_0 13 rfl
theorem dX7_countAhead_28 : decode cX7_countAhead 28 = .ok (.istore 8, 2) := lw_dr lw_d_cX7_countAhead_0 14 rfl
theorem dX7_countAhead_30 : decode cX7_countAhead 30 = .ok (.iconst 0, 1) := lw_dr lw_d_cX7_countAhead_0 15 rfl
theorem dX7_countAhead_31 : decode cX7_countAhead 31 = .ok (.istore 9, 2) := lw_dr lw_d_cX7_countAhead_0 16 rfl
theorem dX7_countAhead_33 : decode cX7_countAhead 33 = .ok (.iload 9, 2) := lw_dr lw_d_cX7_countAhead_0 17 rfl
theorem dX7_countAhead_35 : decode cX7_countAhead 35 = .ok (.iload 7, 2) := lw_dr lw_d_cX7_countAhead_0 18 rfl
theorem dX7_countAhead_37 : decode cX7_countAhead 37 = .ok (.if_icmp .ge 72, 3) := lw_dr lw_d_cX7_countAhead_0 19 rfl
theorem dX7_countAhead_109 : decode cX7_countAhead 109 = .ok (.iload 6, 2) := lw_dr lw_d_cX7_countAhead_0 20 rfl
theorem dX7_countAhead_111 : decode cX7_countAhead 111 = .ok (.ireturn, 1) := lw_dr lw_d_cX7_countAhead_0 21 rfl
theorem dX7_countAhead_40 : decode cX7_countAhead 40 = .ok (.iconst 0, 1) := lw_dr lw_d_cX7_countAhead_0 22 rfl
theorem dX7_countAhead_41 : decode cX7_countAhead 41 = .ok (.istore 10, 2) := lw_dr lw_d_cX7_countAhead_0 23 rfl
theorem dX7_countAhead_43 : decode cX7_countAhead 43 = .ok (.iload 10, 2) := lw_dr lw_d_cX7_countAhead_0 24 rfl
theorem dX7_countAhead_45 : decode cX7_countAhead 45 = .ok (.aload_n 1, 1) := lw_dr lw_d_cX7_countAhead_0 25 rfl
theorem dX7_countAhead_46 : decode cX7_countAhead 46 = .ok (.getfield 61, 3) := lw_dr lw_d_cX7_countAhead_0 26 rfl
theorem dX7_countAhead_49 : decode cX7_countAhead 49 = .ok (.if_icmp .ge 47, 3) := lw_dr lw_d_cX7_countAhead_0 27 rfl
theorem dX7_countAhead_96 : decode cX7_countAhead 96 = .ok (.aload_n 0, 1) := lw_dr lw_d_cX7_countAhead_0 28 rfl
theorem dX7_countAhead_97 : decode cX7_countAhead 97 = .ok (.getfield 12, 3) := lw_dr lw_d_cX7_countAhead_0 29 rfl
theorem dX7_countAhead_100 : decode cX7_countAhead 100 = .ok (.invokevirtual 95, 3) := lw_dr lw_d_cX7_countAhead_0 30 rfl
theorem dX7_countAhead_103 : decode cX7_countAhead 103 = .ok (.iinc 9 1, 3) := lw_dr lw_d_cX7_countAhead_0 31 rfl
theorem dX7_countAhead_106 : decode cX7_countAhead 106 = .ok (.goto (-73), 3) := lw_dr lw_d_cX7_countAhead_0 32 rfl
theorem dX7_countAhead_52 : decode cX7_countAhead 52 = .ok (.aload_n 0, 1) := lw_dr lw_d_cX7_countAhead_0 33 rfl
theorem dX7_countAhead_53 : decode cX7_countAhead 53 = .ok (.getfield 12, 3) := lw_dr lw_d_cX7_countAhead_0 34 rfl
theorem dX7_countAhead_56 : decode cX7_countAhead 56 = .ok (.iload 10, 2) := lw_dr lw_d_cX7_countAhead_0 35 rfl
theorem dX7_countAhead_58 : decode cX7_countAhead 58 = .ok (.invokevirtual 98, 3) := lw_dr lw_d_cX7_countAhead_0 36 rfl
theorem dX7_countAhead_61 : decode cX7_countAhead 61 = .ok (.lstore 11, 2) := lw_dr lw_d_cX7_countAhead_0 37 rfl
theorem dX7_countAhead_63 : decode cX7_countAhead 63 = .ok (.lload 11, 2) := lw_dr lw_d_cX7_countAhead_0 38 rfl
theorem dX7_countAhead_65 : decode cX7_countAhead 65 = .ok (.lload_n 3, 1) := lw_dr lw_d_cX7_countAhead_0 39 rfl
theorem lw_d_cX7_countAhead_66 : lw_dl cX7_countAhead [(66, .lcmp, 1), (67, .ifCond .lt 17, 3), (84, .iinc 6 1, 3), (87, .iinc 8 1, 3), (90, .iinc 10 1, 3), (93, .goto (-50), 3), (70, .lload 11, 2), (72, .lload_n 3, 1), (73, .lcmp, 1), (74, .ifCond .ne 13, 3), (77, .iload 8, 2), (79, .iload 5, 2), (81, .if_icmp .ge 6, 3), (7, .iconst 0, 1), (8, .ireturn, 1)] = true := by decide +kernel
theorem dX7_countAhead_66 : decode cX7_countAhead 66 = .ok (.lcmp, 1) := lw_dr lw_d_cX7_countAhead_66 0 rfl
theorem dX7_countAhead_67 : decode cX7_countAhead 67 = .ok (.ifCond .lt 17, 3) := lw_dr lw_d_cX7_countAhead_66 1 rfl
theorem dX7_countAhead_84 : decode cX7_countAhead 84 = .ok (.iinc 6 1, 3) := lw_dr lw_d_cX7_countAhead_66 2 rfl
theorem dX7_countAhead_87 : decode cX7_countAhead 87 = .ok (.iinc 8 1, 3) := lw_dr lw_d_cX7_countAhead_66 3 rfl
theorem dX7_countAhead_90 : decode cX7_countAhead 90 = .ok (.iinc 10 1, 3) := lw_dr lw_d_cX7_countAhead_66 4 rfl
theorem dX7_countAhead_93 : decode cX7_countAhead 93 = .ok (.goto (-50), 3) := lw_dr lw_d_cX7_countAhead_66 5 rfl
theorem dX7_countAhead_70 : decode cX7_countAhead 70 = .ok (.lload 11, 2) := lw_dr lw_d_cX7_countAhead_66 6 rfl
theorem dX7_countAhead_72 : decode cX7_countAhead 72 = .ok (.lload_n 3, 1) := lw_dr lw_d_cX7_countAhead_66 7 rfl
theorem dX7_countAhead_73 : decode cX7_countAhead 73 = .ok (.lcmp, 1) := lw_dr lw_d_cX7_countAhead_66 8 rfl
theorem dX7_countAhead_74 : decode cX7_countAhead 74 = .ok (.ifCond .ne 13, 3) := lw_dr lw_d_cX7_countAhead_66 9 rfl
theorem dX7_countAhead_77 : decode cX7_countAhead 77 = .ok (.iload 8, 2) := lw_dr lw_d_cX7_countAhead_66 10 rfl
theorem dX7_countAhead_79 : decode cX7_countAhead 79 = .ok (.iload 5, 2) := lw_dr lw_d_cX7_countAhead_66 11 rfl
theorem dX7_countAhead_81 : decode cX7_countAhead 81 = .ok (.if_icmp .ge 6, 3) := lw_dr lw_d_cX7_countAhead_66 12 rfl
theorem dX7_countAhead_7 : decode cX7_countAhead 7 = .ok (.iconst 0, 1) := lw_dr lw_d_cX7_countAhead_66 13 rfl
theorem dX7_countAhead_8 : decode cX7_countAhead 8 = .ok (.ireturn, 1) := lw_dr lw_d_cX7_countAhead_66 14 rfl
theorem lw_d_cX7_cancelAll_0 : lw_dl cX7_cancelAll [(0, .aload_n 0, 1), (1, .aload_n 1, 1), (2, .invokevirtual 130, 3)] = true := by decide +kernel
theorem dX7_cancelAll_0 : decode cX7_cancelAll 0 = .ok (.aload_n 0, 1) := lw_dr lw_d_cX7_cancelAll_0 0 rfl
theorem dX7_cancelAll_1 : decode cX7_cancelAll 1 = .ok (.aload_n 1, 1) := lw_dr lw_d_cX7_cancelAll_0 1 rfl
theorem dX7_cancelAll_2 : decode cX7_cancelAll 2 = .ok (.invokevirtual 130, 3) := lw_dr lw_d_cX7_cancelAll_0 2 rfl
theorem lw_d_cX7_findTurns_0 : lw_dl cX7_findTurns [(0, .iconst 0, 1), (1, .istore_n 2, 1), (2, .iload_n 2, 1), (3, .aload_n 1, 1), (4, .getfield 73, 3), (7, .if_icmp .ge 86, 3), (93, .return_, 1), (10, .aload_n 1, 1), (11, .getfield 146, 3), (14, .iload_n 2, 1), (15, .iload_n 2, 1), (16, .invokevirtual 156, 3), (19, .istore_n 3, 1), (20, .iload_n 2, 1), (21, .istore 4, 2), (23, .iload 4, 2), (25, .ifCond .le 54, 3), (79, .aload_n 0, 1), (80, .getfield 32, 3), (83, .iload 4, 2), (85, .iload_n 2, 1), (86, .iastore, 1), (87, .iinc 2 1, 3), (90, .goto (-88), 3), (28, .aload_n 1, 1), (29, .getfield 146, 3), (32, .aload_n 0, 1), (33, .getfield 32, 3), (36, .iload 4, 2), (38, .iconst 1, 1)] = true := by decide +kernel
theorem dX7_findTurns_0 : decode cX7_findTurns 0 = .ok (.iconst 0, 1) := lw_dr lw_d_cX7_findTurns_0 0 rfl
theorem dX7_findTurns_1 : decode cX7_findTurns 1 = .ok (.istore_n 2, 1) := lw_dr lw_d_cX7_findTurns_0 1 rfl
theorem dX7_findTurns_2 : decode cX7_findTurns 2 = .ok (.iload_n 2, 1) := lw_dr lw_d_cX7_findTurns_0 2 rfl
theorem dX7_findTurns_3 : decode cX7_findTurns 3 = .ok (.aload_n 1, 1) := lw_dr lw_d_cX7_findTurns_0 3 rfl
theorem dX7_findTurns_4 : decode cX7_findTurns 4 = .ok (.getfield 73, 3) := lw_dr lw_d_cX7_findTurns_0 4 rfl
theorem dX7_findTurns_7 : decode cX7_findTurns 7 = .ok (.if_icmp .ge 86, 3) := lw_dr lw_d_cX7_findTurns_0 5 rfl
theorem dX7_findTurns_93 : decode cX7_findTurns 93 = .ok (.return_, 1) := lw_dr lw_d_cX7_findTurns_0 6 rfl
theorem dX7_findTurns_10 : decode cX7_findTurns 10 = .ok (.aload_n 1, 1) := lw_dr lw_d_cX7_findTurns_0 7 rfl
theorem dX7_findTurns_11 : decode cX7_findTurns 11 = .ok (.getfield 146, 3) := lw_dr lw_d_cX7_findTurns_0 8 rfl
theorem dX7_findTurns_14 : decode cX7_findTurns 14 = .ok (.iload_n 2, 1) := lw_dr lw_d_cX7_findTurns_0 9 rfl
theorem dX7_findTurns_15 : decode cX7_findTurns 15 = .ok (.iload_n 2, 1) := lw_dr lw_d_cX7_findTurns_0 10 rfl
theorem dX7_findTurns_16 : decode cX7_findTurns 16 = .ok (.invokevirtual 156, 3) := lw_dr lw_d_cX7_findTurns_0 11 rfl
theorem dX7_findTurns_19 : decode cX7_findTurns 19 = .ok (.istore_n 3, 1) := lw_dr lw_d_cX7_findTurns_0 12 rfl
theorem dX7_findTurns_20 : decode cX7_findTurns 20 = .ok (.iload_n 2, 1) := lw_dr lw_d_cX7_findTurns_0 13 rfl
theorem dX7_findTurns_21 : decode cX7_findTurns 21 = .ok (.istore 4, 2) := lw_dr lw_d_cX7_findTurns_0 14 rfl
theorem dX7_findTurns_23 : decode cX7_findTurns 23 = .ok (.iload 4, 2) := lw_dr lw_d_cX7_findTurns_0 15 rfl
theorem dX7_findTurns_25 : decode cX7_findTurns 25 = .ok (.ifCond .le 54, 3) := lw_dr lw_d_cX7_findTurns_0 16 rfl
theorem dX7_findTurns_79 : decode cX7_findTurns 79 = .ok (.aload_n 0, 1) := lw_dr lw_d_cX7_findTurns_0 17 rfl
theorem dX7_findTurns_80 : decode cX7_findTurns 80 = .ok (.getfield 32, 3) := lw_dr lw_d_cX7_findTurns_0 18 rfl
theorem dX7_findTurns_83 : decode cX7_findTurns 83 = .ok (.iload 4, 2) := lw_dr lw_d_cX7_findTurns_0 19 rfl
theorem dX7_findTurns_85 : decode cX7_findTurns 85 = .ok (.iload_n 2, 1) := lw_dr lw_d_cX7_findTurns_0 20 rfl
theorem dX7_findTurns_86 : decode cX7_findTurns 86 = .ok (.iastore, 1) := lw_dr lw_d_cX7_findTurns_0 21 rfl
theorem dX7_findTurns_87 : decode cX7_findTurns 87 = .ok (.iinc 2 1, 3) := lw_dr lw_d_cX7_findTurns_0 22 rfl
theorem dX7_findTurns_90 : decode cX7_findTurns 90 = .ok (.goto (-88), 3) := lw_dr lw_d_cX7_findTurns_0 23 rfl
theorem dX7_findTurns_28 : decode cX7_findTurns 28 = .ok (.aload_n 1, 1) := lw_dr lw_d_cX7_findTurns_0 24 rfl
theorem dX7_findTurns_29 : decode cX7_findTurns 29 = .ok (.getfield 146, 3) := lw_dr lw_d_cX7_findTurns_0 25 rfl
theorem dX7_findTurns_32 : decode cX7_findTurns 32 = .ok (.aload_n 0, 1) := lw_dr lw_d_cX7_findTurns_0 26 rfl
theorem dX7_findTurns_33 : decode cX7_findTurns 33 = .ok (.getfield 32, 3) := lw_dr lw_d_cX7_findTurns_0 27 rfl
theorem dX7_findTurns_36 : decode cX7_findTurns 36 = .ok (.iload 4, 2) := lw_dr lw_d_cX7_findTurns_0 28 rfl
theorem dX7_findTurns_38 : decode cX7_findTurns 38 = .ok (.iconst 1, 1) := lw_dr lw_d_cX7_findTurns_0 29 rfl
theorem lw_d_cX7_findTurns_39 : lw_dl cX7_findTurns [(39, .isub, 1), (40, .iaload, 1), (41, .aload_n 0, 1), (42, .getfield 32, 3), (45, .iload 4, 2), (47, .iconst 1, 1), (48, .isub, 1), (49, .iaload, 1), (50, .invokevirtual 156, 3), (53, .iload_n 3, 1), (54, .if_icmp .ge 25, 3), (57, .aload_n 0, 1), (58, .getfield 32, 3), (61, .iload 4, 2), (63, .aload_n 0, 1), (64, .getfield 32, 3), (67, .iload 4, 2), (69, .iconst 1, 1), (70, .isub, 1), (71, .iaload, 1), (72, .iastore, 1), (73, .iinc 4 (-1), 3), (76, .goto (-53), 3)] = true := by decide +kernel
theorem dX7_findTurns_39 : decode cX7_findTurns 39 = .ok (.isub, 1) := lw_dr lw_d_cX7_findTurns_39 0 rfl
theorem dX7_findTurns_40 : decode cX7_findTurns 40 = .ok (.iaload, 1) := lw_dr lw_d_cX7_findTurns_39 1 rfl
theorem dX7_findTurns_41 : decode cX7_findTurns 41 = .ok (.aload_n 0, 1) := lw_dr lw_d_cX7_findTurns_39 2 rfl
theorem dX7_findTurns_42 : decode cX7_findTurns 42 = .ok (.getfield 32, 3) := lw_dr lw_d_cX7_findTurns_39 3 rfl
theorem dX7_findTurns_45 : decode cX7_findTurns 45 = .ok (.iload 4, 2) := lw_dr lw_d_cX7_findTurns_39 4 rfl
theorem dX7_findTurns_47 : decode cX7_findTurns 47 = .ok (.iconst 1, 1) := lw_dr lw_d_cX7_findTurns_39 5 rfl
theorem dX7_findTurns_48 : decode cX7_findTurns 48 = .ok (.isub, 1) := lw_dr lw_d_cX7_findTurns_39 6 rfl
theorem dX7_findTurns_49 : decode cX7_findTurns 49 = .ok (.iaload, 1) := lw_dr lw_d_cX7_findTurns_39 7 rfl
theorem dX7_findTurns_50 : decode cX7_findTurns 50 = .ok (.invokevirtual 156, 3) := lw_dr lw_d_cX7_findTurns_39 8 rfl
theorem dX7_findTurns_53 : decode cX7_findTurns 53 = .ok (.iload_n 3, 1) := lw_dr lw_d_cX7_findTurns_39 9 rfl
theorem dX7_findTurns_54 : decode cX7_findTurns 54 = .ok (.if_icmp .ge 25, 3) := lw_dr lw_d_cX7_findTurns_39 10 rfl
theorem dX7_findTurns_57 : decode cX7_findTurns 57 = .ok (.aload_n 0, 1) := lw_dr lw_d_cX7_findTurns_39 11 rfl
theorem dX7_findTurns_58 : decode cX7_findTurns 58 = .ok (.getfield 32, 3) := lw_dr lw_d_cX7_findTurns_39 12 rfl
theorem dX7_findTurns_61 : decode cX7_findTurns 61 = .ok (.iload 4, 2) := lw_dr lw_d_cX7_findTurns_39 13 rfl
theorem dX7_findTurns_63 : decode cX7_findTurns 63 = .ok (.aload_n 0, 1) := lw_dr lw_d_cX7_findTurns_39 14 rfl
theorem dX7_findTurns_64 : decode cX7_findTurns 64 = .ok (.getfield 32, 3) := lw_dr lw_d_cX7_findTurns_39 15 rfl
theorem dX7_findTurns_67 : decode cX7_findTurns 67 = .ok (.iload 4, 2) := lw_dr lw_d_cX7_findTurns_39 16 rfl
theorem dX7_findTurns_69 : decode cX7_findTurns 69 = .ok (.iconst 1, 1) := lw_dr lw_d_cX7_findTurns_39 17 rfl
theorem dX7_findTurns_70 : decode cX7_findTurns 70 = .ok (.isub, 1) := lw_dr lw_d_cX7_findTurns_39 18 rfl
theorem dX7_findTurns_71 : decode cX7_findTurns 71 = .ok (.iaload, 1) := lw_dr lw_d_cX7_findTurns_39 19 rfl
theorem dX7_findTurns_72 : decode cX7_findTurns 72 = .ok (.iastore, 1) := lw_dr lw_d_cX7_findTurns_39 20 rfl
theorem dX7_findTurns_73 : decode cX7_findTurns 73 = .ok (.iinc 4 (-1), 3) := lw_dr lw_d_cX7_findTurns_39 21 rfl
theorem dX7_findTurns_76 : decode cX7_findTurns 76 = .ok (.goto (-53), 3) := lw_dr lw_d_cX7_findTurns_39 22 rfl
theorem lw_d_cX7_cancelAll_5 : lw_dl cX7_cancelAll [(5, .aload_n 2, 1), (6, .iconst 0, 1), (7, .aload_n 0, 1), (8, .getfield 38, 3), (11, .iconst 0, 1), (12, .bipush 6, 2), (14, .invokestatic 133, 3), (17, .iconst 0, 1), (18, .istore_n 3, 1), (19, .iload_n 3, 1), (20, .aload_n 1, 1), (21, .getfield 73, 3), (24, .if_icmp .ge 78, 3), (102, .return_, 1), (27, .aload_n 0, 1), (28, .getfield 32, 3), (31, .iload_n 3, 1), (32, .iaload, 1), (33, .istore 4, 2), (35, .aload_n 0, 1), (36, .getfield 35, 3), (39, .iload 4, 2), (41, .aload_n 0, 1), (42, .aload_n 1, 1), (43, .iload 4, 2), (45, .invokevirtual 139, 3), (48, .iastore, 1), (49, .iconst 0, 1), (50, .istore 5, 2), (52, .iload 5, 2), (54, .aload_n 1, 1), (55, .getfield 143, 3), (58, .if_icmp .ge 38, 3), (96, .iinc 3 1, 3), (99, .goto (-80), 3), (61, .aload_n 0, 1), (62, .getfield 38, 3), (65, .iload 5, 2), (67, .dup2, 1), (68, .iaload, 1)] = true := by decide +kernel
theorem dX7_cancelAll_5 : decode cX7_cancelAll 5 = .ok (.aload_n 2, 1) := lw_dr lw_d_cX7_cancelAll_5 0 rfl
theorem dX7_cancelAll_6 : decode cX7_cancelAll 6 = .ok (.iconst 0, 1) := lw_dr lw_d_cX7_cancelAll_5 1 rfl
theorem dX7_cancelAll_7 : decode cX7_cancelAll 7 = .ok (.aload_n 0, 1) := lw_dr lw_d_cX7_cancelAll_5 2 rfl
theorem dX7_cancelAll_8 : decode cX7_cancelAll 8 = .ok (.getfield 38, 3) := lw_dr lw_d_cX7_cancelAll_5 3 rfl
theorem dX7_cancelAll_11 : decode cX7_cancelAll 11 = .ok (.iconst 0, 1) := lw_dr lw_d_cX7_cancelAll_5 4 rfl
theorem dX7_cancelAll_12 : decode cX7_cancelAll 12 = .ok (.bipush 6, 2) := lw_dr lw_d_cX7_cancelAll_5 5 rfl
theorem dX7_cancelAll_14 : decode cX7_cancelAll 14 = .ok (.invokestatic 133, 3) := lw_dr lw_d_cX7_cancelAll_5 6 rfl
theorem dX7_cancelAll_17 : decode cX7_cancelAll 17 = .ok (.iconst 0, 1) := lw_dr lw_d_cX7_cancelAll_5 7 rfl
theorem dX7_cancelAll_18 : decode cX7_cancelAll 18 = .ok (.istore_n 3, 1) := lw_dr lw_d_cX7_cancelAll_5 8 rfl
theorem dX7_cancelAll_19 : decode cX7_cancelAll 19 = .ok (.iload_n 3, 1) := lw_dr lw_d_cX7_cancelAll_5 9 rfl
theorem dX7_cancelAll_20 : decode cX7_cancelAll 20 = .ok (.aload_n 1, 1) := lw_dr lw_d_cX7_cancelAll_5 10 rfl
theorem dX7_cancelAll_21 : decode cX7_cancelAll 21 = .ok (.getfield 73, 3) := lw_dr lw_d_cX7_cancelAll_5 11 rfl
theorem dX7_cancelAll_24 : decode cX7_cancelAll 24 = .ok (.if_icmp .ge 78, 3) := lw_dr lw_d_cX7_cancelAll_5 12 rfl
theorem dX7_cancelAll_102 : decode cX7_cancelAll 102 = .ok (.return_, 1) := lw_dr lw_d_cX7_cancelAll_5 13 rfl
theorem dX7_cancelAll_27 : decode cX7_cancelAll 27 = .ok (.aload_n 0, 1) := lw_dr lw_d_cX7_cancelAll_5 14 rfl
theorem dX7_cancelAll_28 : decode cX7_cancelAll 28 = .ok (.getfield 32, 3) := lw_dr lw_d_cX7_cancelAll_5 15 rfl
theorem dX7_cancelAll_31 : decode cX7_cancelAll 31 = .ok (.iload_n 3, 1) := lw_dr lw_d_cX7_cancelAll_5 16 rfl
theorem dX7_cancelAll_32 : decode cX7_cancelAll 32 = .ok (.iaload, 1) := lw_dr lw_d_cX7_cancelAll_5 17 rfl
theorem dX7_cancelAll_33 : decode cX7_cancelAll 33 = .ok (.istore 4, 2) := lw_dr lw_d_cX7_cancelAll_5 18 rfl
theorem dX7_cancelAll_35 : decode cX7_cancelAll 35 = .ok (.aload_n 0, 1) := lw_dr lw_d_cX7_cancelAll_5 19 rfl
theorem dX7_cancelAll_36 : decode cX7_cancelAll 36 = .ok (.getfield 35, 3) := lw_dr lw_d_cX7_cancelAll_5 20 rfl
theorem dX7_cancelAll_39 : decode cX7_cancelAll 39 = .ok (.iload 4, 2) := lw_dr lw_d_cX7_cancelAll_5 21 rfl
theorem dX7_cancelAll_41 : decode cX7_cancelAll 41 = .ok (.aload_n 0, 1) := lw_dr lw_d_cX7_cancelAll_5 22 rfl
theorem dX7_cancelAll_42 : decode cX7_cancelAll 42 = .ok (.aload_n 1, 1) := lw_dr lw_d_cX7_cancelAll_5 23 rfl
theorem dX7_cancelAll_43 : decode cX7_cancelAll 43 = .ok (.iload 4, 2) := lw_dr lw_d_cX7_cancelAll_5 24 rfl
theorem dX7_cancelAll_45 : decode cX7_cancelAll 45 = .ok (.invokevirtual 139, 3) := lw_dr lw_d_cX7_cancelAll_5 25 rfl
theorem dX7_cancelAll_48 : decode cX7_cancelAll 48 = .ok (.iastore, 1) := lw_dr lw_d_cX7_cancelAll_5 26 rfl
theorem dX7_cancelAll_49 : decode cX7_cancelAll 49 = .ok (.iconst 0, 1) := lw_dr lw_d_cX7_cancelAll_5 27 rfl
theorem dX7_cancelAll_50 : decode cX7_cancelAll 50 = .ok (.istore 5, 2) := lw_dr lw_d_cX7_cancelAll_5 28 rfl
theorem dX7_cancelAll_52 : decode cX7_cancelAll 52 = .ok (.iload 5, 2) := lw_dr lw_d_cX7_cancelAll_5 29 rfl
theorem dX7_cancelAll_54 : decode cX7_cancelAll 54 = .ok (.aload_n 1, 1) := lw_dr lw_d_cX7_cancelAll_5 30 rfl
theorem dX7_cancelAll_55 : decode cX7_cancelAll 55 = .ok (.getfield 143, 3) := lw_dr lw_d_cX7_cancelAll_5 31 rfl
theorem dX7_cancelAll_58 : decode cX7_cancelAll 58 = .ok (.if_icmp .ge 38, 3) := lw_dr lw_d_cX7_cancelAll_5 32 rfl
theorem dX7_cancelAll_96 : decode cX7_cancelAll 96 = .ok (.iinc 3 1, 3) := lw_dr lw_d_cX7_cancelAll_5 33 rfl
theorem dX7_cancelAll_99 : decode cX7_cancelAll 99 = .ok (.goto (-80), 3) := lw_dr lw_d_cX7_cancelAll_5 34 rfl
theorem dX7_cancelAll_61 : decode cX7_cancelAll 61 = .ok (.aload_n 0, 1) := lw_dr lw_d_cX7_cancelAll_5 35 rfl
theorem dX7_cancelAll_62 : decode cX7_cancelAll 62 = .ok (.getfield 38, 3) := lw_dr lw_d_cX7_cancelAll_5 36 rfl
theorem dX7_cancelAll_65 : decode cX7_cancelAll 65 = .ok (.iload 5, 2) := lw_dr lw_d_cX7_cancelAll_5 37 rfl
theorem dX7_cancelAll_67 : decode cX7_cancelAll 67 = .ok (.dup2, 1) := lw_dr lw_d_cX7_cancelAll_5 38 rfl
theorem dX7_cancelAll_68 : decode cX7_cancelAll 68 = .ok (.iaload, 1) := lw_dr lw_d_cX7_cancelAll_5 39 rfl
theorem lw_d_cX7_cancelAll_69 : lw_dl cX7_cancelAll [(69, .aload_n 1, 1), (70, .getfield 146, 3), (73, .iload 5, 2), (75, .iload 4, 2), (77, .invokevirtual 150, 3), (80, .aload_n 0, 1), (81, .getfield 35, 3), (84, .iload 4, 2), (86, .iaload, 1), (87, .imul, 1), (88, .isub, 1), (89, .iastore, 1), (90, .iinc 5 1, 3), (93, .goto (-41), 3)] = true := by decide +kernel
theorem dX7_cancelAll_69 : decode cX7_cancelAll 69 = .ok (.aload_n 1, 1) := lw_dr lw_d_cX7_cancelAll_69 0 rfl
theorem dX7_cancelAll_70 : decode cX7_cancelAll 70 = .ok (.getfield 146, 3) := lw_dr lw_d_cX7_cancelAll_69 1 rfl
theorem dX7_cancelAll_73 : decode cX7_cancelAll 73 = .ok (.iload 5, 2) := lw_dr lw_d_cX7_cancelAll_69 2 rfl
theorem dX7_cancelAll_75 : decode cX7_cancelAll 75 = .ok (.iload 4, 2) := lw_dr lw_d_cX7_cancelAll_69 3 rfl
theorem dX7_cancelAll_77 : decode cX7_cancelAll 77 = .ok (.invokevirtual 150, 3) := lw_dr lw_d_cX7_cancelAll_69 4 rfl
theorem dX7_cancelAll_80 : decode cX7_cancelAll 80 = .ok (.aload_n 0, 1) := lw_dr lw_d_cX7_cancelAll_69 5 rfl
theorem dX7_cancelAll_81 : decode cX7_cancelAll 81 = .ok (.getfield 35, 3) := lw_dr lw_d_cX7_cancelAll_69 6 rfl
theorem dX7_cancelAll_84 : decode cX7_cancelAll 84 = .ok (.iload 4, 2) := lw_dr lw_d_cX7_cancelAll_69 7 rfl
theorem dX7_cancelAll_86 : decode cX7_cancelAll 86 = .ok (.iaload, 1) := lw_dr lw_d_cX7_cancelAll_69 8 rfl
theorem dX7_cancelAll_87 : decode cX7_cancelAll 87 = .ok (.imul, 1) := lw_dr lw_d_cX7_cancelAll_69 9 rfl
theorem dX7_cancelAll_88 : decode cX7_cancelAll 88 = .ok (.isub, 1) := lw_dr lw_d_cX7_cancelAll_69 10 rfl
theorem dX7_cancelAll_89 : decode cX7_cancelAll 89 = .ok (.iastore, 1) := lw_dr lw_d_cX7_cancelAll_69 11 rfl
theorem dX7_cancelAll_90 : decode cX7_cancelAll 90 = .ok (.iinc 5 1, 3) := lw_dr lw_d_cX7_cancelAll_69 12 rfl
theorem dX7_cancelAll_93 : decode cX7_cancelAll 93 = .ok (.goto (-41), 3) := lw_dr lw_d_cX7_cancelAll_69 13 rfl
theorem lw_d_cX7_bestLetter_0 : lw_dl cX7_bestLetter [(0, .iconst 0, 1), (1, .istore_n 3, 1), (2, .ldc2_w 76, 3), (5, .lstore 4, 2), (7, .iconst 0, 1), (8, .istore 6, 2), (10, .iload 6, 2), (12, .aload_n 1, 1), (13, .getfield 61, 3), (16, .if_icmp .ge 42, 3), (58, .iload_n 3, 1), (59, .ireturn, 1), (19, .aload_n 1, 1), (20, .iload 6, 2), (22, .invokevirtual 159, 3), (25, .istore 7, 2), (27, .aload_n 0, 1), (28, .aload_n 1, 1), (29, .iload_n 2, 1), (30, .iload 7, 2), (32, .invokevirtual 163, 3), (35, .lstore 8, 2), (37, .lload 8, 2), (39, .lload 4, 2), (41, .lcmp, 1), (42, .ifCond .ge 10, 3), (52, .iinc 6 1, 3), (55, .goto (-45), 3), (45, .lload 8, 2), (47, .lstore 4, 2), (49, .iload 7, 2), (51, .istore_n 3, 1)] = true := by decide +kernel
theorem dX7_bestLetter_0 : decode cX7_bestLetter 0 = .ok (.iconst 0, 1) := lw_dr lw_d_cX7_bestLetter_0 0 rfl
theorem dX7_bestLetter_1 : decode cX7_bestLetter 1 = .ok (.istore_n 3, 1) := lw_dr lw_d_cX7_bestLetter_0 1 rfl
theorem dX7_bestLetter_2 : decode cX7_bestLetter 2 = .ok (.ldc2_w 76, 3) := lw_dr lw_d_cX7_bestLetter_0 2 rfl
theorem dX7_bestLetter_5 : decode cX7_bestLetter 5 = .ok (.lstore 4, 2) := lw_dr lw_d_cX7_bestLetter_0 3 rfl
theorem dX7_bestLetter_7 : decode cX7_bestLetter 7 = .ok (.iconst 0, 1) := lw_dr lw_d_cX7_bestLetter_0 4 rfl
theorem dX7_bestLetter_8 : decode cX7_bestLetter 8 = .ok (.istore 6, 2) := lw_dr lw_d_cX7_bestLetter_0 5 rfl
theorem dX7_bestLetter_10 : decode cX7_bestLetter 10 = .ok (.iload 6, 2) := lw_dr lw_d_cX7_bestLetter_0 6 rfl
theorem dX7_bestLetter_12 : decode cX7_bestLetter 12 = .ok (.aload_n 1, 1) := lw_dr lw_d_cX7_bestLetter_0 7 rfl
theorem dX7_bestLetter_13 : decode cX7_bestLetter 13 = .ok (.getfield 61, 3) := lw_dr lw_d_cX7_bestLetter_0 8 rfl
theorem dX7_bestLetter_16 : decode cX7_bestLetter 16 = .ok (.if_icmp .ge 42, 3) := lw_dr lw_d_cX7_bestLetter_0 9 rfl
theorem dX7_bestLetter_58 : decode cX7_bestLetter 58 = .ok (.iload_n 3, 1) := lw_dr lw_d_cX7_bestLetter_0 10 rfl
theorem dX7_bestLetter_59 : decode cX7_bestLetter 59 = .ok (.ireturn, 1) := lw_dr lw_d_cX7_bestLetter_0 11 rfl
theorem dX7_bestLetter_19 : decode cX7_bestLetter 19 = .ok (.aload_n 1, 1) := lw_dr lw_d_cX7_bestLetter_0 12 rfl
theorem dX7_bestLetter_20 : decode cX7_bestLetter 20 = .ok (.iload 6, 2) := lw_dr lw_d_cX7_bestLetter_0 13 rfl
theorem dX7_bestLetter_22 : decode cX7_bestLetter 22 = .ok (.invokevirtual 159, 3) := lw_dr lw_d_cX7_bestLetter_0 14 rfl
theorem dX7_bestLetter_25 : decode cX7_bestLetter 25 = .ok (.istore 7, 2) := lw_dr lw_d_cX7_bestLetter_0 15 rfl
theorem dX7_bestLetter_27 : decode cX7_bestLetter 27 = .ok (.aload_n 0, 1) := lw_dr lw_d_cX7_bestLetter_0 16 rfl
theorem dX7_bestLetter_28 : decode cX7_bestLetter 28 = .ok (.aload_n 1, 1) := lw_dr lw_d_cX7_bestLetter_0 17 rfl
theorem dX7_bestLetter_29 : decode cX7_bestLetter 29 = .ok (.iload_n 2, 1) := lw_dr lw_d_cX7_bestLetter_0 18 rfl
theorem dX7_bestLetter_30 : decode cX7_bestLetter 30 = .ok (.iload 7, 2) := lw_dr lw_d_cX7_bestLetter_0 19 rfl
theorem dX7_bestLetter_32 : decode cX7_bestLetter 32 = .ok (.invokevirtual 163, 3) := lw_dr lw_d_cX7_bestLetter_0 20 rfl
theorem dX7_bestLetter_35 : decode cX7_bestLetter 35 = .ok (.lstore 8, 2) := lw_dr lw_d_cX7_bestLetter_0 21 rfl
theorem dX7_bestLetter_37 : decode cX7_bestLetter 37 = .ok (.lload 8, 2) := lw_dr lw_d_cX7_bestLetter_0 22 rfl
theorem dX7_bestLetter_39 : decode cX7_bestLetter 39 = .ok (.lload 4, 2) := lw_dr lw_d_cX7_bestLetter_0 23 rfl
theorem dX7_bestLetter_41 : decode cX7_bestLetter 41 = .ok (.lcmp, 1) := lw_dr lw_d_cX7_bestLetter_0 24 rfl
theorem dX7_bestLetter_42 : decode cX7_bestLetter 42 = .ok (.ifCond .ge 10, 3) := lw_dr lw_d_cX7_bestLetter_0 25 rfl
theorem dX7_bestLetter_52 : decode cX7_bestLetter 52 = .ok (.iinc 6 1, 3) := lw_dr lw_d_cX7_bestLetter_0 26 rfl
theorem dX7_bestLetter_55 : decode cX7_bestLetter 55 = .ok (.goto (-45), 3) := lw_dr lw_d_cX7_bestLetter_0 27 rfl
theorem dX7_bestLetter_45 : decode cX7_bestLetter 45 = .ok (.lload 8, 2) := lw_dr lw_d_cX7_bestLetter_0 28 rfl
theorem dX7_bestLetter_47 : decode cX7_bestLetter 47 = .ok (.lstore 4, 2) := lw_dr lw_d_cX7_bestLetter_0 29 rfl
theorem dX7_bestLetter_49 : decode cX7_bestLetter 49 = .ok (.iload 7, 2) := lw_dr lw_d_cX7_bestLetter_0 30 rfl
theorem dX7_bestLetter_51 : decode cX7_bestLetter 51 = .ok (.istore_n 3, 1) := lw_dr lw_d_cX7_bestLetter_0 31 rfl
theorem lw_d_cX7_squaresWith_0 : lw_dl cX7_squaresWith [(0, .lconst 0, 1), (1, .lstore 4, 2), (3, .iconst 0, 1), (4, .istore 6, 2), (6, .iload 6, 2), (8, .aload_n 1, 1), (9, .getfield 143, 3), (12, .if_icmp .ge 42, 3), (54, .lload 4, 2), (56, .lreturn, 1), (15, .aload_n 0, 1), (16, .getfield 38, 3), (19, .iload 6, 2), (21, .iaload, 1), (22, .aload_n 1, 1), (23, .getfield 146, 3), (26, .iload 6, 2), (28, .iload_n 2, 1), (29, .invokevirtual 150, 3), (32, .iload_n 3, 1), (33, .imul, 1), (34, .isub, 1), (35, .i2l, 1), (36, .lstore 7, 2), (38, .lload 4, 2), (40, .lload 7, 2), (42, .lload 7, 2), (44, .lmul, 1), (45, .ladd, 1), (46, .lstore 4, 2), (48, .iinc 6 1, 3), (51, .goto (-45), 3)] = true := by decide +kernel
theorem dX7_squaresWith_0 : decode cX7_squaresWith 0 = .ok (.lconst 0, 1) := lw_dr lw_d_cX7_squaresWith_0 0 rfl
theorem dX7_squaresWith_1 : decode cX7_squaresWith 1 = .ok (.lstore 4, 2) := lw_dr lw_d_cX7_squaresWith_0 1 rfl
theorem dX7_squaresWith_3 : decode cX7_squaresWith 3 = .ok (.iconst 0, 1) := lw_dr lw_d_cX7_squaresWith_0 2 rfl
theorem dX7_squaresWith_4 : decode cX7_squaresWith 4 = .ok (.istore 6, 2) := lw_dr lw_d_cX7_squaresWith_0 3 rfl
theorem dX7_squaresWith_6 : decode cX7_squaresWith 6 = .ok (.iload 6, 2) := lw_dr lw_d_cX7_squaresWith_0 4 rfl
theorem dX7_squaresWith_8 : decode cX7_squaresWith 8 = .ok (.aload_n 1, 1) := lw_dr lw_d_cX7_squaresWith_0 5 rfl
theorem dX7_squaresWith_9 : decode cX7_squaresWith 9 = .ok (.getfield 143, 3) := lw_dr lw_d_cX7_squaresWith_0 6 rfl
theorem dX7_squaresWith_12 : decode cX7_squaresWith 12 = .ok (.if_icmp .ge 42, 3) := lw_dr lw_d_cX7_squaresWith_0 7 rfl
theorem dX7_squaresWith_54 : decode cX7_squaresWith 54 = .ok (.lload 4, 2) := lw_dr lw_d_cX7_squaresWith_0 8 rfl
theorem dX7_squaresWith_56 : decode cX7_squaresWith 56 = .ok (.lreturn, 1) := lw_dr lw_d_cX7_squaresWith_0 9 rfl
theorem dX7_squaresWith_15 : decode cX7_squaresWith 15 = .ok (.aload_n 0, 1) := lw_dr lw_d_cX7_squaresWith_0 10 rfl
theorem dX7_squaresWith_16 : decode cX7_squaresWith 16 = .ok (.getfield 38, 3) := lw_dr lw_d_cX7_squaresWith_0 11 rfl
theorem dX7_squaresWith_19 : decode cX7_squaresWith 19 = .ok (.iload 6, 2) := lw_dr lw_d_cX7_squaresWith_0 12 rfl
theorem dX7_squaresWith_21 : decode cX7_squaresWith 21 = .ok (.iaload, 1) := lw_dr lw_d_cX7_squaresWith_0 13 rfl
theorem dX7_squaresWith_22 : decode cX7_squaresWith 22 = .ok (.aload_n 1, 1) := lw_dr lw_d_cX7_squaresWith_0 14 rfl
theorem dX7_squaresWith_23 : decode cX7_squaresWith 23 = .ok (.getfield 146, 3) := lw_dr lw_d_cX7_squaresWith_0 15 rfl
theorem dX7_squaresWith_26 : decode cX7_squaresWith 26 = .ok (.iload 6, 2) := lw_dr lw_d_cX7_squaresWith_0 16 rfl
theorem dX7_squaresWith_28 : decode cX7_squaresWith 28 = .ok (.iload_n 2, 1) := lw_dr lw_d_cX7_squaresWith_0 17 rfl
theorem dX7_squaresWith_29 : decode cX7_squaresWith 29 = .ok (.invokevirtual 150, 3) := lw_dr lw_d_cX7_squaresWith_0 18 rfl
theorem dX7_squaresWith_32 : decode cX7_squaresWith 32 = .ok (.iload_n 3, 1) := lw_dr lw_d_cX7_squaresWith_0 19 rfl
theorem dX7_squaresWith_33 : decode cX7_squaresWith 33 = .ok (.imul, 1) := lw_dr lw_d_cX7_squaresWith_0 20 rfl
theorem dX7_squaresWith_34 : decode cX7_squaresWith 34 = .ok (.isub, 1) := lw_dr lw_d_cX7_squaresWith_0 21 rfl
theorem dX7_squaresWith_35 : decode cX7_squaresWith 35 = .ok (.i2l, 1) := lw_dr lw_d_cX7_squaresWith_0 22 rfl
theorem dX7_squaresWith_36 : decode cX7_squaresWith 36 = .ok (.lstore 7, 2) := lw_dr lw_d_cX7_squaresWith_0 23 rfl
theorem dX7_squaresWith_38 : decode cX7_squaresWith 38 = .ok (.lload 4, 2) := lw_dr lw_d_cX7_squaresWith_0 24 rfl
theorem dX7_squaresWith_40 : decode cX7_squaresWith 40 = .ok (.lload 7, 2) := lw_dr lw_d_cX7_squaresWith_0 25 rfl
theorem dX7_squaresWith_42 : decode cX7_squaresWith 42 = .ok (.lload 7, 2) := lw_dr lw_d_cX7_squaresWith_0 26 rfl
theorem dX7_squaresWith_44 : decode cX7_squaresWith 44 = .ok (.lmul, 1) := lw_dr lw_d_cX7_squaresWith_0 27 rfl
theorem dX7_squaresWith_45 : decode cX7_squaresWith 45 = .ok (.ladd, 1) := lw_dr lw_d_cX7_squaresWith_0 28 rfl
theorem dX7_squaresWith_46 : decode cX7_squaresWith 46 = .ok (.lstore 4, 2) := lw_dr lw_d_cX7_squaresWith_0 29 rfl
theorem dX7_squaresWith_48 : decode cX7_squaresWith 48 = .ok (.iinc 6 1, 3) := lw_dr lw_d_cX7_squaresWith_0 30 rfl
theorem dX7_squaresWith_51 : decode cX7_squaresWith 51 = .ok (.goto (-45), 3) := lw_dr lw_d_cX7_squaresWith_0 31 rfl
theorem lw_d_cX7_leastWith_0 : lw_dl cX7_leastWith [(0, .aload_n 0, 1), (1, .getfield 26, 3), (4, .iload_n 1, 1), (5, .bipush 8, 2), (7, .imul, 1), (8, .iload_n 2, 1), (9, .iadd, 1), (10, .laload, 1), (11, .lreturn, 1)] = true := by decide +kernel
theorem dX7_leastWith_0 : decode cX7_leastWith 0 = .ok (.aload_n 0, 1) := lw_dr lw_d_cX7_leastWith_0 0 rfl
theorem dX7_leastWith_1 : decode cX7_leastWith 1 = .ok (.getfield 26, 3) := lw_dr lw_d_cX7_leastWith_0 1 rfl
theorem dX7_leastWith_4 : decode cX7_leastWith 4 = .ok (.iload_n 1, 1) := lw_dr lw_d_cX7_leastWith_0 2 rfl
theorem dX7_leastWith_5 : decode cX7_leastWith 5 = .ok (.bipush 8, 2) := lw_dr lw_d_cX7_leastWith_0 3 rfl
theorem dX7_leastWith_7 : decode cX7_leastWith 7 = .ok (.imul, 1) := lw_dr lw_d_cX7_leastWith_0 4 rfl
theorem dX7_leastWith_8 : decode cX7_leastWith 8 = .ok (.iload_n 2, 1) := lw_dr lw_d_cX7_leastWith_0 5 rfl
theorem dX7_leastWith_9 : decode cX7_leastWith 9 = .ok (.iadd, 1) := lw_dr lw_d_cX7_leastWith_0 6 rfl
theorem dX7_leastWith_10 : decode cX7_leastWith 10 = .ok (.laload, 1) := lw_dr lw_d_cX7_leastWith_0 7 rfl
theorem dX7_leastWith_11 : decode cX7_leastWith 11 = .ok (.lreturn, 1) := lw_dr lw_d_cX7_leastWith_0 8 rfl
theorem lw_d_cX7_shareOf_0 : lw_dl cX7_shareOf [(0, .aload_n 0, 1), (1, .getfield 45, 3), (4, .lconst 0, 1), (5, .lcmp, 1), (6, .ifCond .gt 5, 3), (11, .ldc2_w 128, 3), (14, .aload_n 0, 1), (15, .getfield 29, 3), (18, .iload_n 1, 1), (19, .bipush 8, 2), (21, .imul, 1), (22, .iload_n 2, 1), (23, .iadd, 1), (24, .laload, 1), (25, .lmul, 1), (26, .aload_n 0, 1), (27, .getfield 45, 3), (30, .ldiv, 1), (31, .l2i, 1), (32, .ireturn, 1), (9, .iconst 0, 1), (10, .ireturn, 1)] = true := by decide +kernel
theorem dX7_shareOf_0 : decode cX7_shareOf 0 = .ok (.aload_n 0, 1) := lw_dr lw_d_cX7_shareOf_0 0 rfl
theorem dX7_shareOf_1 : decode cX7_shareOf 1 = .ok (.getfield 45, 3) := lw_dr lw_d_cX7_shareOf_0 1 rfl
theorem dX7_shareOf_4 : decode cX7_shareOf 4 = .ok (.lconst 0, 1) := lw_dr lw_d_cX7_shareOf_0 2 rfl
theorem dX7_shareOf_5 : decode cX7_shareOf 5 = .ok (.lcmp, 1) := lw_dr lw_d_cX7_shareOf_0 3 rfl
theorem dX7_shareOf_6 : decode cX7_shareOf 6 = .ok (.ifCond .gt 5, 3) := lw_dr lw_d_cX7_shareOf_0 4 rfl
theorem dX7_shareOf_11 : decode cX7_shareOf 11 = .ok (.ldc2_w 128, 3) := lw_dr lw_d_cX7_shareOf_0 5 rfl
theorem dX7_shareOf_14 : decode cX7_shareOf 14 = .ok (.aload_n 0, 1) := lw_dr lw_d_cX7_shareOf_0 6 rfl
theorem dX7_shareOf_15 : decode cX7_shareOf 15 = .ok (.getfield 29, 3) := lw_dr lw_d_cX7_shareOf_0 7 rfl
theorem dX7_shareOf_18 : decode cX7_shareOf 18 = .ok (.iload_n 1, 1) := lw_dr lw_d_cX7_shareOf_0 8 rfl
theorem dX7_shareOf_19 : decode cX7_shareOf 19 = .ok (.bipush 8, 2) := lw_dr lw_d_cX7_shareOf_0 9 rfl
theorem dX7_shareOf_21 : decode cX7_shareOf 21 = .ok (.imul, 1) := lw_dr lw_d_cX7_shareOf_0 10 rfl
theorem dX7_shareOf_22 : decode cX7_shareOf 22 = .ok (.iload_n 2, 1) := lw_dr lw_d_cX7_shareOf_0 11 rfl
theorem dX7_shareOf_23 : decode cX7_shareOf 23 = .ok (.iadd, 1) := lw_dr lw_d_cX7_shareOf_0 12 rfl
theorem dX7_shareOf_24 : decode cX7_shareOf 24 = .ok (.laload, 1) := lw_dr lw_d_cX7_shareOf_0 13 rfl
theorem dX7_shareOf_25 : decode cX7_shareOf 25 = .ok (.lmul, 1) := lw_dr lw_d_cX7_shareOf_0 14 rfl
theorem dX7_shareOf_26 : decode cX7_shareOf 26 = .ok (.aload_n 0, 1) := lw_dr lw_d_cX7_shareOf_0 15 rfl
theorem dX7_shareOf_27 : decode cX7_shareOf 27 = .ok (.getfield 45, 3) := lw_dr lw_d_cX7_shareOf_0 16 rfl
theorem dX7_shareOf_30 : decode cX7_shareOf 30 = .ok (.ldiv, 1) := lw_dr lw_d_cX7_shareOf_0 17 rfl
theorem dX7_shareOf_31 : decode cX7_shareOf 31 = .ok (.l2i, 1) := lw_dr lw_d_cX7_shareOf_0 18 rfl
theorem dX7_shareOf_32 : decode cX7_shareOf 32 = .ok (.ireturn, 1) := lw_dr lw_d_cX7_shareOf_0 19 rfl
theorem dX7_shareOf_9 : decode cX7_shareOf 9 = .ok (.iconst 0, 1) := lw_dr lw_d_cX7_shareOf_0 20 rfl
theorem dX7_shareOf_10 : decode cX7_shareOf 10 = .ok (.ireturn, 1) := lw_dr lw_d_cX7_shareOf_0 21 rfl
theorem lw_d_cX7_leastWithout_0 : lw_dl cX7_leastWithout [(0, .ldc2_w 76, 3), (3, .lstore 4, 2), (5, .iconst 0, 1), (6, .istore 6, 2), (8, .iload 6, 2), (10, .iload_n 3, 1), (11, .if_icmp .ge 29, 3), (40, .lload 4, 2), (42, .lreturn, 1), (14, .iload 6, 2), (16, .iload_n 2, 1), (17, .if_icmp .eq 17, 3), (34, .iinc 6 1, 3), (37, .goto (-29), 3), (20, .lload 4, 2), (22, .aload_n 0, 1), (23, .iload_n 1, 1), (24, .iload 6, 2), (26, .invokevirtual 124, 3), (29, .invokestatic 115, 3), (32, .lstore 4, 2)] = true := by decide +kernel
theorem dX7_leastWithout_0 : decode cX7_leastWithout 0 = .ok (.ldc2_w 76, 3) := lw_dr lw_d_cX7_leastWithout_0 0 rfl
theorem dX7_leastWithout_3 : decode cX7_leastWithout 3 = .ok (.lstore 4, 2) := lw_dr lw_d_cX7_leastWithout_0 1 rfl
theorem dX7_leastWithout_5 : decode cX7_leastWithout 5 = .ok (.iconst 0, 1) := lw_dr lw_d_cX7_leastWithout_0 2 rfl
theorem dX7_leastWithout_6 : decode cX7_leastWithout 6 = .ok (.istore 6, 2) := lw_dr lw_d_cX7_leastWithout_0 3 rfl
theorem dX7_leastWithout_8 : decode cX7_leastWithout 8 = .ok (.iload 6, 2) := lw_dr lw_d_cX7_leastWithout_0 4 rfl
theorem dX7_leastWithout_10 : decode cX7_leastWithout 10 = .ok (.iload_n 3, 1) := lw_dr lw_d_cX7_leastWithout_0 5 rfl
theorem dX7_leastWithout_11 : decode cX7_leastWithout 11 = .ok (.if_icmp .ge 29, 3) := lw_dr lw_d_cX7_leastWithout_0 6 rfl
theorem dX7_leastWithout_40 : decode cX7_leastWithout 40 = .ok (.lload 4, 2) := lw_dr lw_d_cX7_leastWithout_0 7 rfl
theorem dX7_leastWithout_42 : decode cX7_leastWithout 42 = .ok (.lreturn, 1) := lw_dr lw_d_cX7_leastWithout_0 8 rfl
theorem dX7_leastWithout_14 : decode cX7_leastWithout 14 = .ok (.iload 6, 2) := lw_dr lw_d_cX7_leastWithout_0 9 rfl
theorem dX7_leastWithout_16 : decode cX7_leastWithout 16 = .ok (.iload_n 2, 1) := lw_dr lw_d_cX7_leastWithout_0 10 rfl
theorem dX7_leastWithout_17 : decode cX7_leastWithout 17 = .ok (.if_icmp .eq 17, 3) := lw_dr lw_d_cX7_leastWithout_0 11 rfl
theorem dX7_leastWithout_34 : decode cX7_leastWithout 34 = .ok (.iinc 6 1, 3) := lw_dr lw_d_cX7_leastWithout_0 12 rfl
theorem dX7_leastWithout_37 : decode cX7_leastWithout 37 = .ok (.goto (-29), 3) := lw_dr lw_d_cX7_leastWithout_0 13 rfl
theorem dX7_leastWithout_20 : decode cX7_leastWithout 20 = .ok (.lload 4, 2) := lw_dr lw_d_cX7_leastWithout_0 14 rfl
theorem dX7_leastWithout_22 : decode cX7_leastWithout 22 = .ok (.aload_n 0, 1) := lw_dr lw_d_cX7_leastWithout_0 15 rfl
theorem dX7_leastWithout_23 : decode cX7_leastWithout 23 = .ok (.iload_n 1, 1) := lw_dr lw_d_cX7_leastWithout_0 16 rfl
theorem dX7_leastWithout_24 : decode cX7_leastWithout 24 = .ok (.iload 6, 2) := lw_dr lw_d_cX7_leastWithout_0 17 rfl
theorem dX7_leastWithout_26 : decode cX7_leastWithout 26 = .ok (.invokevirtual 124, 3) := lw_dr lw_d_cX7_leastWithout_0 18 rfl
theorem dX7_leastWithout_29 : decode cX7_leastWithout 29 = .ok (.invokestatic 115, 3) := lw_dr lw_d_cX7_leastWithout_0 19 rfl
theorem dX7_leastWithout_32 : decode cX7_leastWithout 32 = .ok (.lstore 4, 2) := lw_dr lw_d_cX7_leastWithout_0 20 rfl
theorem lw_d_cX3_forget_0 : lw_dl cX3_forget [(0, .aload_n 0, 1), (1, .iconst 0, 1), (2, .putfield 39, 3), (5, .aload_n 0, 1), (6, .ldc2_w 43, 3), (9, .putfield 45, 3), (12, .aload_n 0, 1), (13, .ldc2_w 43, 3), (16, .putfield 48, 3), (19, .return_, 1)] = true := by decide +kernel
theorem dX3_forget_0 : decode cX3_forget 0 = .ok (.aload_n 0, 1) := lw_dr lw_d_cX3_forget_0 0 rfl
theorem dX3_forget_1 : decode cX3_forget 1 = .ok (.iconst 0, 1) := lw_dr lw_d_cX3_forget_0 1 rfl
theorem dX3_forget_2 : decode cX3_forget 2 = .ok (.putfield 39, 3) := lw_dr lw_d_cX3_forget_0 2 rfl
theorem dX3_forget_5 : decode cX3_forget 5 = .ok (.aload_n 0, 1) := lw_dr lw_d_cX3_forget_0 3 rfl
theorem dX3_forget_6 : decode cX3_forget 6 = .ok (.ldc2_w 43, 3) := lw_dr lw_d_cX3_forget_0 4 rfl
theorem dX3_forget_9 : decode cX3_forget 9 = .ok (.putfield 45, 3) := lw_dr lw_d_cX3_forget_0 5 rfl
theorem dX3_forget_12 : decode cX3_forget 12 = .ok (.aload_n 0, 1) := lw_dr lw_d_cX3_forget_0 6 rfl
theorem dX3_forget_13 : decode cX3_forget 13 = .ok (.ldc2_w 43, 3) := lw_dr lw_d_cX3_forget_0 7 rfl
theorem dX3_forget_16 : decode cX3_forget 16 = .ok (.putfield 48, 3) := lw_dr lw_d_cX3_forget_0 8 rfl
theorem dX3_forget_19 : decode cX3_forget 19 = .ok (.return_, 1) := lw_dr lw_d_cX3_forget_0 9 rfl
theorem lw_d_cX3_mostOfAll_0 : lw_dl cX3_mostOfAll [(0, .aload_n 0, 1), (1, .getfield 48, 3), (4, .lconst 0, 1), (5, .lcmp, 1), (6, .ifCond .lt 8, 3), (14, .aload_n 0, 1), (15, .getfield 12, 3), (18, .aload_n 1, 1), (19, .invokevirtual 51, 3), (22, .aload_n 0, 1), (23, .aload_n 1, 1), (24, .invokevirtual 143, 3), (27, .ldc2_w 43, 3), (30, .lstore_n 2, 1), (31, .aload_n 1, 1), (32, .invokevirtual 146, 3), (35, .iconst 1, 1), (36, .iadd, 1), (37, .iconst 2, 1), (38, .idiv, 1), (39, .istore 4, 2), (41, .iconst 0, 1), (42, .istore 5, 2), (44, .iload 5, 2), (46, .iload 4, 2), (48, .if_icmp .ge 43, 3), (91, .aload_n 0, 1), (92, .lload_n 2, 1), (93, .putfield 48, 3), (96, .lload_n 2, 1), (97, .lreturn, 1), (51, .aload_n 0, 1), (52, .lload_n 2, 1), (53, .aload_n 1, 1), (54, .invokevirtual 149, 3)] = true := by decide +kernel
theorem dX3_mostOfAll_0 : decode cX3_mostOfAll 0 = .ok (.aload_n 0, 1) := lw_dr lw_d_cX3_mostOfAll_0 0 rfl
theorem dX3_mostOfAll_1 : decode cX3_mostOfAll 1 = .ok (.getfield 48, 3) := lw_dr lw_d_cX3_mostOfAll_0 1 rfl
theorem dX3_mostOfAll_4 : decode cX3_mostOfAll 4 = .ok (.lconst 0, 1) := lw_dr lw_d_cX3_mostOfAll_0 2 rfl
theorem dX3_mostOfAll_5 : decode cX3_mostOfAll 5 = .ok (.lcmp, 1) := lw_dr lw_d_cX3_mostOfAll_0 3 rfl
theorem dX3_mostOfAll_6 : decode cX3_mostOfAll 6 = .ok (.ifCond .lt 8, 3) := lw_dr lw_d_cX3_mostOfAll_0 4 rfl
theorem dX3_mostOfAll_14 : decode cX3_mostOfAll 14 = .ok (.aload_n 0, 1) := lw_dr lw_d_cX3_mostOfAll_0 5 rfl
theorem dX3_mostOfAll_15 : decode cX3_mostOfAll 15 = .ok (.getfield 12, 3) := lw_dr lw_d_cX3_mostOfAll_0 6 rfl
theorem dX3_mostOfAll_18 : decode cX3_mostOfAll 18 = .ok (.aload_n 1, 1) := lw_dr lw_d_cX3_mostOfAll_0 7 rfl
theorem dX3_mostOfAll_19 : decode cX3_mostOfAll 19 = .ok (.invokevirtual 51, 3) := lw_dr lw_d_cX3_mostOfAll_0 8 rfl
theorem dX3_mostOfAll_22 : decode cX3_mostOfAll 22 = .ok (.aload_n 0, 1) := lw_dr lw_d_cX3_mostOfAll_0 9 rfl
theorem dX3_mostOfAll_23 : decode cX3_mostOfAll 23 = .ok (.aload_n 1, 1) := lw_dr lw_d_cX3_mostOfAll_0 10 rfl
theorem dX3_mostOfAll_24 : decode cX3_mostOfAll 24 = .ok (.invokevirtual 143, 3) := lw_dr lw_d_cX3_mostOfAll_0 11 rfl
theorem dX3_mostOfAll_27 : decode cX3_mostOfAll 27 = .ok (.ldc2_w 43, 3) := lw_dr lw_d_cX3_mostOfAll_0 12 rfl
theorem dX3_mostOfAll_30 : decode cX3_mostOfAll 30 = .ok (.lstore_n 2, 1) := lw_dr lw_d_cX3_mostOfAll_0 13 rfl
theorem dX3_mostOfAll_31 : decode cX3_mostOfAll 31 = .ok (.aload_n 1, 1) := lw_dr lw_d_cX3_mostOfAll_0 14 rfl
theorem dX3_mostOfAll_32 : decode cX3_mostOfAll 32 = .ok (.invokevirtual 146, 3) := lw_dr lw_d_cX3_mostOfAll_0 15 rfl
theorem dX3_mostOfAll_35 : decode cX3_mostOfAll 35 = .ok (.iconst 1, 1) := lw_dr lw_d_cX3_mostOfAll_0 16 rfl
theorem dX3_mostOfAll_36 : decode cX3_mostOfAll 36 = .ok (.iadd, 1) := lw_dr lw_d_cX3_mostOfAll_0 17 rfl
theorem dX3_mostOfAll_37 : decode cX3_mostOfAll 37 = .ok (.iconst 2, 1) := lw_dr lw_d_cX3_mostOfAll_0 18 rfl
theorem dX3_mostOfAll_38 : decode cX3_mostOfAll 38 = .ok (.idiv, 1) := lw_dr lw_d_cX3_mostOfAll_0 19 rfl
theorem dX3_mostOfAll_39 : decode cX3_mostOfAll 39 = .ok (.istore 4, 2) := lw_dr lw_d_cX3_mostOfAll_0 20 rfl
theorem dX3_mostOfAll_41 : decode cX3_mostOfAll 41 = .ok (.iconst 0, 1) := lw_dr lw_d_cX3_mostOfAll_0 21 rfl
theorem dX3_mostOfAll_42 : decode cX3_mostOfAll 42 = .ok (.istore 5, 2) := lw_dr lw_d_cX3_mostOfAll_0 22 rfl
theorem dX3_mostOfAll_44 : decode cX3_mostOfAll 44 = .ok (.iload 5, 2) := lw_dr lw_d_cX3_mostOfAll_0 23 rfl
theorem dX3_mostOfAll_46 : decode cX3_mostOfAll 46 = .ok (.iload 4, 2) := lw_dr lw_d_cX3_mostOfAll_0 24 rfl
theorem dX3_mostOfAll_48 : decode cX3_mostOfAll 48 = .ok (.if_icmp .ge 43, 3) := lw_dr lw_d_cX3_mostOfAll_0 25 rfl
theorem dX3_mostOfAll_91 : decode cX3_mostOfAll 91 = .ok (.aload_n 0, 1) := lw_dr lw_d_cX3_mostOfAll_0 26 rfl
theorem dX3_mostOfAll_92 : decode cX3_mostOfAll 92 = .ok (.lload_n 2, 1) := lw_dr lw_d_cX3_mostOfAll_0 27 rfl
theorem dX3_mostOfAll_93 : decode cX3_mostOfAll 93 = .ok (.putfield 48, 3) := lw_dr lw_d_cX3_mostOfAll_0 28 rfl
theorem dX3_mostOfAll_96 : decode cX3_mostOfAll 96 = .ok (.lload_n 2, 1) := lw_dr lw_d_cX3_mostOfAll_0 29 rfl
theorem dX3_mostOfAll_97 : decode cX3_mostOfAll 97 = .ok (.lreturn, 1) := lw_dr lw_d_cX3_mostOfAll_0 30 rfl
theorem dX3_mostOfAll_51 : decode cX3_mostOfAll 51 = .ok (.aload_n 0, 1) := lw_dr lw_d_cX3_mostOfAll_0 31 rfl
theorem dX3_mostOfAll_52 : decode cX3_mostOfAll 52 = .ok (.lload_n 2, 1) := lw_dr lw_d_cX3_mostOfAll_0 32 rfl
theorem dX3_mostOfAll_53 : decode cX3_mostOfAll 53 = .ok (.aload_n 1, 1) := lw_dr lw_d_cX3_mostOfAll_0 33 rfl
theorem dX3_mostOfAll_54 : decode cX3_mostOfAll 54 = .ok (.invokevirtual 149, 3) := lw_dr lw_d_cX3_mostOfAll_0 34 rfl
theorem lw_d_cX3_startTrying_0 : lw_dl cX3_startTrying [(0, .aload_n 0, 1), (1, .getfield 28, 3), (4, .iconst 0, 1), (5, .invokestatic 162, 3), (8, .aload_n 0, 1), (9, .getfield 31, 3), (12, .lconst 0, 1), (13, .invokestatic 168, 3), (16, .aload_n 0, 1), (17, .lconst 0, 1), (18, .putfield 35, 3), (21, .iconst 0, 1), (22, .istore_n 2, 1), (23, .iload_n 2, 1), (24, .aload_n 1, 1), (25, .getfield 79, 3), (28, .if_icmp .ge 33, 3), (61, .return_, 1), (31, .aload_n 0, 1), (32, .getfield 25, 3), (35, .iload_n 2, 1), (36, .iconst 1, 1), (37, .aload_n 1, 1), (38, .getfield 77, 3), (41, .isub, 1), (42, .iastore, 1), (43, .aload_n 0, 1), (44, .iload_n 2, 1), (45, .aload_n 0, 1), (46, .getfield 25, 3), (49, .iload_n 2, 1), (50, .iaload, 1), (51, .i2l, 1), (52, .invokevirtual 171, 3), (55, .iinc 2 1, 3), (58, .goto (-35), 3)] = true := by decide +kernel
theorem dX3_startTrying_0 : decode cX3_startTrying 0 = .ok (.aload_n 0, 1) := lw_dr lw_d_cX3_startTrying_0 0 rfl
theorem dX3_startTrying_1 : decode cX3_startTrying 1 = .ok (.getfield 28, 3) := lw_dr lw_d_cX3_startTrying_0 1 rfl
theorem dX3_startTrying_4 : decode cX3_startTrying 4 = .ok (.iconst 0, 1) := lw_dr lw_d_cX3_startTrying_0 2 rfl
theorem dX3_startTrying_5 : decode cX3_startTrying 5 = .ok (.invokestatic 162, 3) := lw_dr lw_d_cX3_startTrying_0 3 rfl
theorem dX3_startTrying_8 : decode cX3_startTrying 8 = .ok (.aload_n 0, 1) := lw_dr lw_d_cX3_startTrying_0 4 rfl
theorem dX3_startTrying_9 : decode cX3_startTrying 9 = .ok (.getfield 31, 3) := lw_dr lw_d_cX3_startTrying_0 5 rfl
theorem dX3_startTrying_12 : decode cX3_startTrying 12 = .ok (.lconst 0, 1) := lw_dr lw_d_cX3_startTrying_0 6 rfl
theorem dX3_startTrying_13 : decode cX3_startTrying 13 = .ok (.invokestatic 168, 3) := lw_dr lw_d_cX3_startTrying_0 7 rfl
theorem dX3_startTrying_16 : decode cX3_startTrying 16 = .ok (.aload_n 0, 1) := lw_dr lw_d_cX3_startTrying_0 8 rfl
theorem dX3_startTrying_17 : decode cX3_startTrying 17 = .ok (.lconst 0, 1) := lw_dr lw_d_cX3_startTrying_0 9 rfl
theorem dX3_startTrying_18 : decode cX3_startTrying 18 = .ok (.putfield 35, 3) := lw_dr lw_d_cX3_startTrying_0 10 rfl
theorem dX3_startTrying_21 : decode cX3_startTrying 21 = .ok (.iconst 0, 1) := lw_dr lw_d_cX3_startTrying_0 11 rfl
theorem dX3_startTrying_22 : decode cX3_startTrying 22 = .ok (.istore_n 2, 1) := lw_dr lw_d_cX3_startTrying_0 12 rfl
theorem dX3_startTrying_23 : decode cX3_startTrying 23 = .ok (.iload_n 2, 1) := lw_dr lw_d_cX3_startTrying_0 13 rfl
theorem dX3_startTrying_24 : decode cX3_startTrying 24 = .ok (.aload_n 1, 1) := lw_dr lw_d_cX3_startTrying_0 14 rfl
theorem dX3_startTrying_25 : decode cX3_startTrying 25 = .ok (.getfield 79, 3) := lw_dr lw_d_cX3_startTrying_0 15 rfl
theorem dX3_startTrying_28 : decode cX3_startTrying 28 = .ok (.if_icmp .ge 33, 3) := lw_dr lw_d_cX3_startTrying_0 16 rfl
theorem dX3_startTrying_61 : decode cX3_startTrying 61 = .ok (.return_, 1) := lw_dr lw_d_cX3_startTrying_0 17 rfl
theorem dX3_startTrying_31 : decode cX3_startTrying 31 = .ok (.aload_n 0, 1) := lw_dr lw_d_cX3_startTrying_0 18 rfl
theorem dX3_startTrying_32 : decode cX3_startTrying 32 = .ok (.getfield 25, 3) := lw_dr lw_d_cX3_startTrying_0 19 rfl
theorem dX3_startTrying_35 : decode cX3_startTrying 35 = .ok (.iload_n 2, 1) := lw_dr lw_d_cX3_startTrying_0 20 rfl
theorem dX3_startTrying_36 : decode cX3_startTrying 36 = .ok (.iconst 1, 1) := lw_dr lw_d_cX3_startTrying_0 21 rfl
theorem dX3_startTrying_37 : decode cX3_startTrying 37 = .ok (.aload_n 1, 1) := lw_dr lw_d_cX3_startTrying_0 22 rfl
theorem dX3_startTrying_38 : decode cX3_startTrying 38 = .ok (.getfield 77, 3) := lw_dr lw_d_cX3_startTrying_0 23 rfl
theorem dX3_startTrying_41 : decode cX3_startTrying 41 = .ok (.isub, 1) := lw_dr lw_d_cX3_startTrying_0 24 rfl
theorem dX3_startTrying_42 : decode cX3_startTrying 42 = .ok (.iastore, 1) := lw_dr lw_d_cX3_startTrying_0 25 rfl
theorem dX3_startTrying_43 : decode cX3_startTrying 43 = .ok (.aload_n 0, 1) := lw_dr lw_d_cX3_startTrying_0 26 rfl
theorem dX3_startTrying_44 : decode cX3_startTrying 44 = .ok (.iload_n 2, 1) := lw_dr lw_d_cX3_startTrying_0 27 rfl
theorem dX3_startTrying_45 : decode cX3_startTrying 45 = .ok (.aload_n 0, 1) := lw_dr lw_d_cX3_startTrying_0 28 rfl
theorem dX3_startTrying_46 : decode cX3_startTrying 46 = .ok (.getfield 25, 3) := lw_dr lw_d_cX3_startTrying_0 29 rfl
theorem dX3_startTrying_49 : decode cX3_startTrying 49 = .ok (.iload_n 2, 1) := lw_dr lw_d_cX3_startTrying_0 30 rfl
theorem dX3_startTrying_50 : decode cX3_startTrying 50 = .ok (.iaload, 1) := lw_dr lw_d_cX3_startTrying_0 31 rfl
theorem dX3_startTrying_51 : decode cX3_startTrying 51 = .ok (.i2l, 1) := lw_dr lw_d_cX3_startTrying_0 32 rfl
theorem dX3_startTrying_52 : decode cX3_startTrying 52 = .ok (.invokevirtual 171, 3) := lw_dr lw_d_cX3_startTrying_0 33 rfl
theorem dX3_startTrying_55 : decode cX3_startTrying 55 = .ok (.iinc 2 1, 3) := lw_dr lw_d_cX3_startTrying_0 34 rfl
theorem dX3_startTrying_58 : decode cX3_startTrying 58 = .ok (.goto (-35), 3) := lw_dr lw_d_cX3_startTrying_0 35 rfl
theorem lw_d_cX3_move_0 : lw_dl cX3_move [(0, .iload_n 1, 1), (1, .iconst 5, 1), (2, .imul, 1), (3, .istore 4, 2), (5, .aload_n 0, 1), (6, .dup, 1), (7, .getfield 35, 3), (10, .lload_n 2, 1), (11, .ldc2_w 175, 3), (14, .aload_n 0, 1), (15, .getfield 31, 3), (18, .iload_n 1, 1), (19, .laload, 1), (20, .lmul, 1), (21, .lload_n 2, 1), (22, .aload_n 0, 1), (23, .getfield 12, 3), (26, .getfield 177, 3), (29, .iload 4, 2), (31, .iload_n 1, 1), (32, .iadd, 1), (33, .laload, 1), (34, .lmul, 1), (35, .ladd, 1), (36, .lmul, 1), (37, .ladd, 1), (38, .putfield 35, 3), (41, .iconst 0, 1), (42, .istore 5, 2), (44, .iload 5, 2), (46, .aload_n 0, 1), (47, .getfield 12, 3), (50, .getfield 110, 3), (53, .if_icmp .gt 34, 3), (56, .aload_n 0, 1), (57, .getfield 31, 3), (60, .iload 5, 2), (62, .dup2, 1), (63, .laload, 1), (64, .lload_n 2, 1)] = true := by decide +kernel
theorem dX3_move_0 : decode cX3_move 0 = .ok (.iload_n 1, 1) := lw_dr lw_d_cX3_move_0 0 rfl
theorem dX3_move_1 : decode cX3_move 1 = .ok (.iconst 5, 1) := lw_dr lw_d_cX3_move_0 1 rfl
theorem dX3_move_2 : decode cX3_move 2 = .ok (.imul, 1) := lw_dr lw_d_cX3_move_0 2 rfl
theorem dX3_move_3 : decode cX3_move 3 = .ok (.istore 4, 2) := lw_dr lw_d_cX3_move_0 3 rfl
theorem dX3_move_5 : decode cX3_move 5 = .ok (.aload_n 0, 1) := lw_dr lw_d_cX3_move_0 4 rfl
theorem dX3_move_6 : decode cX3_move 6 = .ok (.dup, 1) := lw_dr lw_d_cX3_move_0 5 rfl
theorem dX3_move_7 : decode cX3_move 7 = .ok (.getfield 35, 3) := lw_dr lw_d_cX3_move_0 6 rfl
theorem dX3_move_10 : decode cX3_move 10 = .ok (.lload_n 2, 1) := lw_dr lw_d_cX3_move_0 7 rfl
theorem dX3_move_11 : decode cX3_move 11 = .ok (.ldc2_w 175, 3) := lw_dr lw_d_cX3_move_0 8 rfl
theorem dX3_move_14 : decode cX3_move 14 = .ok (.aload_n 0, 1) := lw_dr lw_d_cX3_move_0 9 rfl
theorem dX3_move_15 : decode cX3_move 15 = .ok (.getfield 31, 3) := lw_dr lw_d_cX3_move_0 10 rfl
theorem dX3_move_18 : decode cX3_move 18 = .ok (.iload_n 1, 1) := lw_dr lw_d_cX3_move_0 11 rfl
theorem dX3_move_19 : decode cX3_move 19 = .ok (.laload, 1) := lw_dr lw_d_cX3_move_0 12 rfl
theorem dX3_move_20 : decode cX3_move 20 = .ok (.lmul, 1) := lw_dr lw_d_cX3_move_0 13 rfl
theorem dX3_move_21 : decode cX3_move 21 = .ok (.lload_n 2, 1) := lw_dr lw_d_cX3_move_0 14 rfl
theorem dX3_move_22 : decode cX3_move 22 = .ok (.aload_n 0, 1) := lw_dr lw_d_cX3_move_0 15 rfl
theorem dX3_move_23 : decode cX3_move 23 = .ok (.getfield 12, 3) := lw_dr lw_d_cX3_move_0 16 rfl
theorem dX3_move_26 : decode cX3_move 26 = .ok (.getfield 177, 3) := lw_dr lw_d_cX3_move_0 17 rfl
theorem dX3_move_29 : decode cX3_move 29 = .ok (.iload 4, 2) := lw_dr lw_d_cX3_move_0 18 rfl
theorem dX3_move_31 : decode cX3_move 31 = .ok (.iload_n 1, 1) := lw_dr lw_d_cX3_move_0 19 rfl
theorem dX3_move_32 : decode cX3_move 32 = .ok (.iadd, 1) := lw_dr lw_d_cX3_move_0 20 rfl
theorem dX3_move_33 : decode cX3_move 33 = .ok (.laload, 1) := lw_dr lw_d_cX3_move_0 21 rfl
theorem dX3_move_34 : decode cX3_move 34 = .ok (.lmul, 1) := lw_dr lw_d_cX3_move_0 22 rfl
theorem dX3_move_35 : decode cX3_move 35 = .ok (.ladd, 1) := lw_dr lw_d_cX3_move_0 23 rfl
theorem dX3_move_36 : decode cX3_move 36 = .ok (.lmul, 1) := lw_dr lw_d_cX3_move_0 24 rfl
theorem dX3_move_37 : decode cX3_move 37 = .ok (.ladd, 1) := lw_dr lw_d_cX3_move_0 25 rfl
theorem dX3_move_38 : decode cX3_move 38 = .ok (.putfield 35, 3) := lw_dr lw_d_cX3_move_0 26 rfl
theorem dX3_move_41 : decode cX3_move 41 = .ok (.iconst 0, 1) := lw_dr lw_d_cX3_move_0 27 rfl
theorem dX3_move_42 : decode cX3_move 42 = .ok (.istore 5, 2) := lw_dr lw_d_cX3_move_0 28 rfl
theorem dX3_move_44 : decode cX3_move 44 = .ok (.iload 5, 2) := lw_dr lw_d_cX3_move_0 29 rfl
theorem dX3_move_46 : decode cX3_move 46 = .ok (.aload_n 0, 1) := lw_dr lw_d_cX3_move_0 30 rfl
theorem dX3_move_47 : decode cX3_move 47 = .ok (.getfield 12, 3) := lw_dr lw_d_cX3_move_0 31 rfl
theorem dX3_move_50 : decode cX3_move 50 = .ok (.getfield 110, 3) := lw_dr lw_d_cX3_move_0 32 rfl
theorem dX3_move_53 : decode cX3_move 53 = .ok (.if_icmp .gt 34, 3) := lw_dr lw_d_cX3_move_0 33 rfl
theorem dX3_move_56 : decode cX3_move 56 = .ok (.aload_n 0, 1) := lw_dr lw_d_cX3_move_0 34 rfl
theorem dX3_move_57 : decode cX3_move 57 = .ok (.getfield 31, 3) := lw_dr lw_d_cX3_move_0 35 rfl
theorem dX3_move_60 : decode cX3_move 60 = .ok (.iload 5, 2) := lw_dr lw_d_cX3_move_0 36 rfl
theorem dX3_move_62 : decode cX3_move 62 = .ok (.dup2, 1) := lw_dr lw_d_cX3_move_0 37 rfl
theorem dX3_move_63 : decode cX3_move 63 = .ok (.laload, 1) := lw_dr lw_d_cX3_move_0 38 rfl
theorem dX3_move_64 : decode cX3_move 64 = .ok (.lload_n 2, 1) := lw_dr lw_d_cX3_move_0 39 rfl
theorem lw_d_cX3_move_65 : lw_dl cX3_move [(65, .aload_n 0, 1), (66, .getfield 12, 3), (69, .getfield 177, 3), (72, .iload 4, 2), (74, .iload 5, 2), (76, .iadd, 1), (77, .laload, 1), (78, .lmul, 1), (79, .ladd, 1), (80, .lastore, 1), (81, .iinc 5 1, 3), (84, .goto (-40), 3), (87, .return_, 1)] = true := by decide +kernel
theorem dX3_move_65 : decode cX3_move 65 = .ok (.aload_n 0, 1) := lw_dr lw_d_cX3_move_65 0 rfl
theorem dX3_move_66 : decode cX3_move 66 = .ok (.getfield 12, 3) := lw_dr lw_d_cX3_move_65 1 rfl
theorem dX3_move_69 : decode cX3_move 69 = .ok (.getfield 177, 3) := lw_dr lw_d_cX3_move_65 2 rfl
theorem dX3_move_72 : decode cX3_move 72 = .ok (.iload 4, 2) := lw_dr lw_d_cX3_move_65 3 rfl
theorem dX3_move_74 : decode cX3_move 74 = .ok (.iload 5, 2) := lw_dr lw_d_cX3_move_65 4 rfl
theorem dX3_move_76 : decode cX3_move 76 = .ok (.iadd, 1) := lw_dr lw_d_cX3_move_65 5 rfl
theorem dX3_move_77 : decode cX3_move 77 = .ok (.laload, 1) := lw_dr lw_d_cX3_move_65 6 rfl
theorem dX3_move_78 : decode cX3_move 78 = .ok (.lmul, 1) := lw_dr lw_d_cX3_move_65 7 rfl
theorem dX3_move_79 : decode cX3_move 79 = .ok (.ladd, 1) := lw_dr lw_d_cX3_move_65 8 rfl
theorem dX3_move_80 : decode cX3_move 80 = .ok (.lastore, 1) := lw_dr lw_d_cX3_move_65 9 rfl
theorem dX3_move_81 : decode cX3_move 81 = .ok (.iinc 5 1, 3) := lw_dr lw_d_cX3_move_65 10 rfl
theorem dX3_move_84 : decode cX3_move 84 = .ok (.goto (-40), 3) := lw_dr lw_d_cX3_move_65 11 rfl
theorem dX3_move_87 : decode cX3_move 87 = .ok (.return_, 1) := lw_dr lw_d_cX3_move_65 12 rfl
theorem lw_d_cX3_fallsTo_0 : lw_dl cX3_fallsTo [(0, .iconst 2, 1), (1, .aload_n 3, 1), (2, .getfield 77, 3), (5, .imul, 1), (6, .istore 4, 2), (8, .iconst 0, 1), (9, .istore 5, 2), (11, .iload 5, 2), (13, .sipush 243, 3), (16, .if_icmp .ge 74, 3), (19, .aload_n 0, 1), (20, .getfield 35, 3), (23, .lload_n 1, 1), (24, .lcmp, 1), (25, .ifCond .le 65, 3), (90, .aload_n 0, 1), (91, .getfield 35, 3), (94, .lload_n 1, 1), (95, .lcmp, 1), (96, .ifCond .gt 7, 3), (103, .iconst 0, 1), (104, .ireturn, 1), (99, .iconst 1, 1), (100, .goto 4, 3), (28, .aload_n 0, 1), (29, .getfield 35, 3), (32, .lstore 6, 2), (34, .iconst 0, 1), (35, .istore 8, 2), (37, .iload 8, 2), (39, .aload_n 0, 1), (40, .getfield 12, 3), (43, .getfield 110, 3), (46, .if_icmp .gt 26, 3), (49, .aload_n 0, 1), (50, .getfield 35, 3), (53, .lload_n 1, 1), (54, .lcmp, 1), (55, .ifCond .le 17, 3), (72, .aload_n 0, 1)] = true := by decide +kernel
theorem dX3_fallsTo_0 : decode cX3_fallsTo 0 = .ok (.iconst 2, 1) := lw_dr lw_d_cX3_fallsTo_0 0 rfl
theorem dX3_fallsTo_1 : decode cX3_fallsTo 1 = .ok (.aload_n 3, 1) := lw_dr lw_d_cX3_fallsTo_0 1 rfl
theorem dX3_fallsTo_2 : decode cX3_fallsTo 2 = .ok (.getfield 77, 3) := lw_dr lw_d_cX3_fallsTo_0 2 rfl
theorem dX3_fallsTo_5 : decode cX3_fallsTo 5 = .ok (.imul, 1) := lw_dr lw_d_cX3_fallsTo_0 3 rfl
theorem dX3_fallsTo_6 : decode cX3_fallsTo 6 = .ok (.istore 4, 2) := lw_dr lw_d_cX3_fallsTo_0 4 rfl
theorem dX3_fallsTo_8 : decode cX3_fallsTo 8 = .ok (.iconst 0, 1) := lw_dr lw_d_cX3_fallsTo_0 5 rfl
theorem dX3_fallsTo_9 : decode cX3_fallsTo 9 = .ok (.istore 5, 2) := lw_dr lw_d_cX3_fallsTo_0 6 rfl
theorem dX3_fallsTo_11 : decode cX3_fallsTo 11 = .ok (.iload 5, 2) := lw_dr lw_d_cX3_fallsTo_0 7 rfl
theorem dX3_fallsTo_13 : decode cX3_fallsTo 13 = .ok (.sipush 243, 3) := lw_dr lw_d_cX3_fallsTo_0 8 rfl
theorem dX3_fallsTo_16 : decode cX3_fallsTo 16 = .ok (.if_icmp .ge 74, 3) := lw_dr lw_d_cX3_fallsTo_0 9 rfl
theorem dX3_fallsTo_19 : decode cX3_fallsTo 19 = .ok (.aload_n 0, 1) := lw_dr lw_d_cX3_fallsTo_0 10 rfl
theorem dX3_fallsTo_20 : decode cX3_fallsTo 20 = .ok (.getfield 35, 3) := lw_dr lw_d_cX3_fallsTo_0 11 rfl
theorem dX3_fallsTo_23 : decode cX3_fallsTo 23 = .ok (.lload_n 1, 1) := lw_dr lw_d_cX3_fallsTo_0 12 rfl
theorem dX3_fallsTo_24 : decode cX3_fallsTo 24 = .ok (.lcmp, 1) := lw_dr lw_d_cX3_fallsTo_0 13 rfl
theorem dX3_fallsTo_25 : decode cX3_fallsTo 25 = .ok (.ifCond .le 65, 3) := lw_dr lw_d_cX3_fallsTo_0 14 rfl
theorem dX3_fallsTo_90 : decode cX3_fallsTo 90 = .ok (.aload_n 0, 1) := lw_dr lw_d_cX3_fallsTo_0 15 rfl
theorem dX3_fallsTo_91 : decode cX3_fallsTo 91 = .ok (.getfield 35, 3) := lw_dr lw_d_cX3_fallsTo_0 16 rfl
theorem dX3_fallsTo_94 : decode cX3_fallsTo 94 = .ok (.lload_n 1, 1) := lw_dr lw_d_cX3_fallsTo_0 17 rfl
theorem dX3_fallsTo_95 : decode cX3_fallsTo 95 = .ok (.lcmp, 1) := lw_dr lw_d_cX3_fallsTo_0 18 rfl
theorem dX3_fallsTo_96 : decode cX3_fallsTo 96 = .ok (.ifCond .gt 7, 3) := lw_dr lw_d_cX3_fallsTo_0 19 rfl
theorem dX3_fallsTo_103 : decode cX3_fallsTo 103 = .ok (.iconst 0, 1) := lw_dr lw_d_cX3_fallsTo_0 20 rfl
theorem dX3_fallsTo_104 : decode cX3_fallsTo 104 = .ok (.ireturn, 1) := lw_dr lw_d_cX3_fallsTo_0 21 rfl
theorem dX3_fallsTo_99 : decode cX3_fallsTo 99 = .ok (.iconst 1, 1) := lw_dr lw_d_cX3_fallsTo_0 22 rfl
theorem dX3_fallsTo_100 : decode cX3_fallsTo 100 = .ok (.goto 4, 3) := lw_dr lw_d_cX3_fallsTo_0 23 rfl
theorem dX3_fallsTo_28 : decode cX3_fallsTo 28 = .ok (.aload_n 0, 1) := lw_dr lw_d_cX3_fallsTo_0 24 rfl
theorem dX3_fallsTo_29 : decode cX3_fallsTo 29 = .ok (.getfield 35, 3) := lw_dr lw_d_cX3_fallsTo_0 25 rfl
theorem dX3_fallsTo_32 : decode cX3_fallsTo 32 = .ok (.lstore 6, 2) := lw_dr lw_d_cX3_fallsTo_0 26 rfl
theorem dX3_fallsTo_34 : decode cX3_fallsTo 34 = .ok (.iconst 0, 1) := lw_dr lw_d_cX3_fallsTo_0 27 rfl
theorem dX3_fallsTo_35 : decode cX3_fallsTo 35 = .ok (.istore 8, 2) := lw_dr lw_d_cX3_fallsTo_0 28 rfl
theorem dX3_fallsTo_37 : decode cX3_fallsTo 37 = .ok (.iload 8, 2) := lw_dr lw_d_cX3_fallsTo_0 29 rfl
theorem dX3_fallsTo_39 : decode cX3_fallsTo 39 = .ok (.aload_n 0, 1) := lw_dr lw_d_cX3_fallsTo_0 30 rfl
theorem dX3_fallsTo_40 : decode cX3_fallsTo 40 = .ok (.getfield 12, 3) := lw_dr lw_d_cX3_fallsTo_0 31 rfl
theorem dX3_fallsTo_43 : decode cX3_fallsTo 43 = .ok (.getfield 110, 3) := lw_dr lw_d_cX3_fallsTo_0 32 rfl
theorem dX3_fallsTo_46 : decode cX3_fallsTo 46 = .ok (.if_icmp .gt 26, 3) := lw_dr lw_d_cX3_fallsTo_0 33 rfl
theorem dX3_fallsTo_49 : decode cX3_fallsTo 49 = .ok (.aload_n 0, 1) := lw_dr lw_d_cX3_fallsTo_0 34 rfl
theorem dX3_fallsTo_50 : decode cX3_fallsTo 50 = .ok (.getfield 35, 3) := lw_dr lw_d_cX3_fallsTo_0 35 rfl
theorem dX3_fallsTo_53 : decode cX3_fallsTo 53 = .ok (.lload_n 1, 1) := lw_dr lw_d_cX3_fallsTo_0 36 rfl
theorem dX3_fallsTo_54 : decode cX3_fallsTo 54 = .ok (.lcmp, 1) := lw_dr lw_d_cX3_fallsTo_0 37 rfl
theorem dX3_fallsTo_55 : decode cX3_fallsTo 55 = .ok (.ifCond .le 17, 3) := lw_dr lw_d_cX3_fallsTo_0 38 rfl
theorem dX3_fallsTo_72 : decode cX3_fallsTo 72 = .ok (.aload_n 0, 1) := lw_dr lw_d_cX3_fallsTo_0 39 rfl
theorem lw_d_cX3_fallsTo_73 : lw_dl cX3_fallsTo [(73, .getfield 35, 3), (76, .lload 6, 2), (78, .lcmp, 1), (79, .ifCond .ne 5, 3), (82, .iconst 0, 1), (83, .ireturn, 1), (58, .aload_n 0, 1), (59, .iload 8, 2), (61, .iload 4, 2), (63, .invokevirtual 180, 3)] = true := by decide +kernel
theorem dX3_fallsTo_73 : decode cX3_fallsTo 73 = .ok (.getfield 35, 3) := lw_dr lw_d_cX3_fallsTo_73 0 rfl
theorem dX3_fallsTo_76 : decode cX3_fallsTo 76 = .ok (.lload 6, 2) := lw_dr lw_d_cX3_fallsTo_73 1 rfl
theorem dX3_fallsTo_78 : decode cX3_fallsTo 78 = .ok (.lcmp, 1) := lw_dr lw_d_cX3_fallsTo_73 2 rfl
theorem dX3_fallsTo_79 : decode cX3_fallsTo 79 = .ok (.ifCond .ne 5, 3) := lw_dr lw_d_cX3_fallsTo_73 3 rfl
theorem dX3_fallsTo_82 : decode cX3_fallsTo 82 = .ok (.iconst 0, 1) := lw_dr lw_d_cX3_fallsTo_73 4 rfl
theorem dX3_fallsTo_83 : decode cX3_fallsTo 83 = .ok (.ireturn, 1) := lw_dr lw_d_cX3_fallsTo_73 5 rfl
theorem dX3_fallsTo_58 : decode cX3_fallsTo 58 = .ok (.aload_n 0, 1) := lw_dr lw_d_cX3_fallsTo_73 6 rfl
theorem dX3_fallsTo_59 : decode cX3_fallsTo 59 = .ok (.iload 8, 2) := lw_dr lw_d_cX3_fallsTo_73 7 rfl
theorem dX3_fallsTo_61 : decode cX3_fallsTo 61 = .ok (.iload 4, 2) := lw_dr lw_d_cX3_fallsTo_73 8 rfl
theorem dX3_fallsTo_63 : decode cX3_fallsTo 63 = .ok (.invokevirtual 180, 3) := lw_dr lw_d_cX3_fallsTo_73 9 rfl
theorem lw_d_cX3_better_0 : lw_dl cX3_better [(0, .aload_n 0, 1), (1, .getfield 31, 3), (4, .iload_n 1, 1), (5, .laload, 1), (6, .lconst 0, 1), (7, .lcmp, 1), (8, .ifCond .le 7, 3), (15, .iconst 1, 1), (16, .istore_n 3, 1), (17, .aload_n 0, 1), (18, .getfield 28, 3), (21, .iload_n 1, 1), (22, .iaload, 1), (23, .iload_n 3, 1), (24, .iadd, 1), (25, .iconst (-1), 1), (26, .if_icmp .lt 15, 3), (41, .return_, 1), (29, .aload_n 0, 1), (30, .getfield 28, 3), (33, .iload_n 1, 1), (34, .iaload, 1), (35, .iload_n 3, 1)] = true := by decide +kernel
theorem dX3_better_0 : decode cX3_better 0 = .ok (.aload_n 0, 1) := lw_dr lw_d_cX3_better_0 0 rfl
theorem dX3_better_1 : decode cX3_better 1 = .ok (.getfield 31, 3) := lw_dr lw_d_cX3_better_0 1 rfl
theorem dX3_better_4 : decode cX3_better 4 = .ok (.iload_n 1, 1) := lw_dr lw_d_cX3_better_0 2 rfl
theorem dX3_better_5 : decode cX3_better 5 = .ok (.laload, 1) := lw_dr lw_d_cX3_better_0 3 rfl
theorem dX3_better_6 : decode cX3_better 6 = .ok (.lconst 0, 1) := lw_dr lw_d_cX3_better_0 4 rfl
theorem dX3_better_7 : decode cX3_better 7 = .ok (.lcmp, 1) := lw_dr lw_d_cX3_better_0 5 rfl
theorem dX3_better_8 : decode cX3_better 8 = .ok (.ifCond .le 7, 3) := lw_dr lw_d_cX3_better_0 6 rfl
theorem dX3_better_15 : decode cX3_better 15 = .ok (.iconst 1, 1) := lw_dr lw_d_cX3_better_0 7 rfl
theorem dX3_better_16 : decode cX3_better 16 = .ok (.istore_n 3, 1) := lw_dr lw_d_cX3_better_0 8 rfl
theorem dX3_better_17 : decode cX3_better 17 = .ok (.aload_n 0, 1) := lw_dr lw_d_cX3_better_0 9 rfl
theorem dX3_better_18 : decode cX3_better 18 = .ok (.getfield 28, 3) := lw_dr lw_d_cX3_better_0 10 rfl
theorem dX3_better_21 : decode cX3_better 21 = .ok (.iload_n 1, 1) := lw_dr lw_d_cX3_better_0 11 rfl
theorem dX3_better_22 : decode cX3_better 22 = .ok (.iaload, 1) := lw_dr lw_d_cX3_better_0 12 rfl
theorem dX3_better_23 : decode cX3_better 23 = .ok (.iload_n 3, 1) := lw_dr lw_d_cX3_better_0 13 rfl
theorem dX3_better_24 : decode cX3_better 24 = .ok (.iadd, 1) := lw_dr lw_d_cX3_better_0 14 rfl
theorem dX3_better_25 : decode cX3_better 25 = .ok (.iconst (-1), 1) := lw_dr lw_d_cX3_better_0 15 rfl
theorem dX3_better_26 : decode cX3_better 26 = .ok (.if_icmp .lt 15, 3) := lw_dr lw_d_cX3_better_0 16 rfl
theorem dX3_better_41 : decode cX3_better 41 = .ok (.return_, 1) := lw_dr lw_d_cX3_better_0 17 rfl
theorem dX3_better_29 : decode cX3_better 29 = .ok (.aload_n 0, 1) := lw_dr lw_d_cX3_better_0 18 rfl
theorem dX3_better_30 : decode cX3_better 30 = .ok (.getfield 28, 3) := lw_dr lw_d_cX3_better_0 19 rfl
theorem dX3_better_33 : decode cX3_better 33 = .ok (.iload_n 1, 1) := lw_dr lw_d_cX3_better_0 20 rfl
theorem dX3_better_34 : decode cX3_better 34 = .ok (.iaload, 1) := lw_dr lw_d_cX3_better_0 21 rfl
theorem dX3_better_35 : decode cX3_better 35 = .ok (.iload_n 3, 1) := lw_dr lw_d_cX3_better_0 22 rfl
theorem lw_d_cX3_better_36 : lw_dl cX3_better [(36, .iadd, 1), (37, .iconst 1, 1), (38, .if_icmp .le 4, 3), (42, .iload_n 3, 1), (43, .i2l, 1), (44, .iload_n 2, 1), (45, .i2l, 1), (46, .lmul, 1), (47, .lstore 4, 2), (49, .lload 4, 2), (51, .ldc2_w 175, 3), (54, .aload_n 0, 1), (55, .getfield 31, 3), (58, .iload_n 1, 1), (59, .laload, 1), (60, .lmul, 1), (61, .lload 4, 2), (63, .aload_n 0, 1), (64, .getfield 12, 3), (67, .getfield 177, 3), (70, .iload_n 1, 1), (71, .iconst 5, 1), (72, .imul, 1), (73, .iload_n 1, 1), (74, .iadd, 1), (75, .laload, 1), (76, .lmul, 1), (77, .ladd, 1), (78, .lmul, 1), (79, .lconst 0, 1), (80, .lcmp, 1), (81, .ifCond .ge 20, 3), (101, .return_, 1), (84, .aload_n 0, 1), (85, .getfield 28, 3), (88, .iload_n 1, 1), (89, .dup2, 1), (90, .iaload, 1), (91, .iload_n 3, 1), (92, .iadd, 1)] = true := by decide +kernel
theorem dX3_better_36 : decode cX3_better 36 = .ok (.iadd, 1) := lw_dr lw_d_cX3_better_36 0 rfl
theorem dX3_better_37 : decode cX3_better 37 = .ok (.iconst 1, 1) := lw_dr lw_d_cX3_better_36 1 rfl
theorem dX3_better_38 : decode cX3_better 38 = .ok (.if_icmp .le 4, 3) := lw_dr lw_d_cX3_better_36 2 rfl
theorem dX3_better_42 : decode cX3_better 42 = .ok (.iload_n 3, 1) := lw_dr lw_d_cX3_better_36 3 rfl
theorem dX3_better_43 : decode cX3_better 43 = .ok (.i2l, 1) := lw_dr lw_d_cX3_better_36 4 rfl
theorem dX3_better_44 : decode cX3_better 44 = .ok (.iload_n 2, 1) := lw_dr lw_d_cX3_better_36 5 rfl
theorem dX3_better_45 : decode cX3_better 45 = .ok (.i2l, 1) := lw_dr lw_d_cX3_better_36 6 rfl
theorem dX3_better_46 : decode cX3_better 46 = .ok (.lmul, 1) := lw_dr lw_d_cX3_better_36 7 rfl
theorem dX3_better_47 : decode cX3_better 47 = .ok (.lstore 4, 2) := lw_dr lw_d_cX3_better_36 8 rfl
theorem dX3_better_49 : decode cX3_better 49 = .ok (.lload 4, 2) := lw_dr lw_d_cX3_better_36 9 rfl
theorem dX3_better_51 : decode cX3_better 51 = .ok (.ldc2_w 175, 3) := lw_dr lw_d_cX3_better_36 10 rfl
theorem dX3_better_54 : decode cX3_better 54 = .ok (.aload_n 0, 1) := lw_dr lw_d_cX3_better_36 11 rfl
theorem dX3_better_55 : decode cX3_better 55 = .ok (.getfield 31, 3) := lw_dr lw_d_cX3_better_36 12 rfl
theorem dX3_better_58 : decode cX3_better 58 = .ok (.iload_n 1, 1) := lw_dr lw_d_cX3_better_36 13 rfl
theorem dX3_better_59 : decode cX3_better 59 = .ok (.laload, 1) := lw_dr lw_d_cX3_better_36 14 rfl
theorem dX3_better_60 : decode cX3_better 60 = .ok (.lmul, 1) := lw_dr lw_d_cX3_better_36 15 rfl
theorem dX3_better_61 : decode cX3_better 61 = .ok (.lload 4, 2) := lw_dr lw_d_cX3_better_36 16 rfl
theorem dX3_better_63 : decode cX3_better 63 = .ok (.aload_n 0, 1) := lw_dr lw_d_cX3_better_36 17 rfl
theorem dX3_better_64 : decode cX3_better 64 = .ok (.getfield 12, 3) := lw_dr lw_d_cX3_better_36 18 rfl
theorem dX3_better_67 : decode cX3_better 67 = .ok (.getfield 177, 3) := lw_dr lw_d_cX3_better_36 19 rfl
theorem dX3_better_70 : decode cX3_better 70 = .ok (.iload_n 1, 1) := lw_dr lw_d_cX3_better_36 20 rfl
theorem dX3_better_71 : decode cX3_better 71 = .ok (.iconst 5, 1) := lw_dr lw_d_cX3_better_36 21 rfl
theorem dX3_better_72 : decode cX3_better 72 = .ok (.imul, 1) := lw_dr lw_d_cX3_better_36 22 rfl
theorem dX3_better_73 : decode cX3_better 73 = .ok (.iload_n 1, 1) := lw_dr lw_d_cX3_better_36 23 rfl
theorem dX3_better_74 : decode cX3_better 74 = .ok (.iadd, 1) := lw_dr lw_d_cX3_better_36 24 rfl
theorem dX3_better_75 : decode cX3_better 75 = .ok (.laload, 1) := lw_dr lw_d_cX3_better_36 25 rfl
theorem dX3_better_76 : decode cX3_better 76 = .ok (.lmul, 1) := lw_dr lw_d_cX3_better_36 26 rfl
theorem dX3_better_77 : decode cX3_better 77 = .ok (.ladd, 1) := lw_dr lw_d_cX3_better_36 27 rfl
theorem dX3_better_78 : decode cX3_better 78 = .ok (.lmul, 1) := lw_dr lw_d_cX3_better_36 28 rfl
theorem dX3_better_79 : decode cX3_better 79 = .ok (.lconst 0, 1) := lw_dr lw_d_cX3_better_36 29 rfl
theorem dX3_better_80 : decode cX3_better 80 = .ok (.lcmp, 1) := lw_dr lw_d_cX3_better_36 30 rfl
theorem dX3_better_81 : decode cX3_better 81 = .ok (.ifCond .ge 20, 3) := lw_dr lw_d_cX3_better_36 31 rfl
theorem dX3_better_101 : decode cX3_better 101 = .ok (.return_, 1) := lw_dr lw_d_cX3_better_36 32 rfl
theorem dX3_better_84 : decode cX3_better 84 = .ok (.aload_n 0, 1) := lw_dr lw_d_cX3_better_36 33 rfl
theorem dX3_better_85 : decode cX3_better 85 = .ok (.getfield 28, 3) := lw_dr lw_d_cX3_better_36 34 rfl
theorem dX3_better_88 : decode cX3_better 88 = .ok (.iload_n 1, 1) := lw_dr lw_d_cX3_better_36 35 rfl
theorem dX3_better_89 : decode cX3_better 89 = .ok (.dup2, 1) := lw_dr lw_d_cX3_better_36 36 rfl
theorem dX3_better_90 : decode cX3_better 90 = .ok (.iaload, 1) := lw_dr lw_d_cX3_better_36 37 rfl
theorem dX3_better_91 : decode cX3_better 91 = .ok (.iload_n 3, 1) := lw_dr lw_d_cX3_better_36 38 rfl
theorem dX3_better_92 : decode cX3_better 92 = .ok (.iadd, 1) := lw_dr lw_d_cX3_better_36 39 rfl
theorem lw_d_cX3_better_93 : lw_dl cX3_better [(93, .iastore, 1), (94, .aload_n 0, 1), (95, .iload_n 1, 1), (96, .lload 4, 2), (98, .invokevirtual 171, 3), (11, .iconst (-1), 1), (12, .goto 4, 3)] = true := by decide +kernel
theorem dX3_better_93 : decode cX3_better 93 = .ok (.iastore, 1) := lw_dr lw_d_cX3_better_93 0 rfl
theorem dX3_better_94 : decode cX3_better 94 = .ok (.aload_n 0, 1) := lw_dr lw_d_cX3_better_93 1 rfl
theorem dX3_better_95 : decode cX3_better 95 = .ok (.iload_n 1, 1) := lw_dr lw_d_cX3_better_93 2 rfl
theorem dX3_better_96 : decode cX3_better 96 = .ok (.lload 4, 2) := lw_dr lw_d_cX3_better_93 3 rfl
theorem dX3_better_98 : decode cX3_better 98 = .ok (.invokevirtual 171, 3) := lw_dr lw_d_cX3_better_93 4 rfl
theorem dX3_better_11 : decode cX3_better 11 = .ok (.iconst (-1), 1) := lw_dr lw_d_cX3_better_93 5 rfl
theorem dX3_better_12 : decode cX3_better 12 = .ok (.goto 4, 3) := lw_dr lw_d_cX3_better_93 6 rfl
theorem lw_d_cX3_fallsTo_66 : lw_dl cX3_fallsTo [(66, .iinc 8 1, 3), (69, .goto (-32), 3), (84, .iinc 5 1, 3), (87, .goto (-76), 3)] = true := by decide +kernel
theorem dX3_fallsTo_66 : decode cX3_fallsTo 66 = .ok (.iinc 8 1, 3) := lw_dr lw_d_cX3_fallsTo_66 0 rfl
theorem dX3_fallsTo_69 : decode cX3_fallsTo 69 = .ok (.goto (-32), 3) := lw_dr lw_d_cX3_fallsTo_66 1 rfl
theorem dX3_fallsTo_84 : decode cX3_fallsTo 84 = .ok (.iinc 5 1, 3) := lw_dr lw_d_cX3_fallsTo_66 2 rfl
theorem dX3_fallsTo_87 : decode cX3_fallsTo 87 = .ok (.goto (-76), 3) := lw_dr lw_d_cX3_fallsTo_66 3 rfl
theorem lw_d_cX3_mostOfAll_57 : lw_dl cX3_mostOfAll [(57, .ifCond .ne 23, 3), (80, .aload_n 0, 1), (81, .aload_n 1, 1), (82, .invokevirtual 159, 3), (85, .iinc 5 1, 3), (88, .goto (-44), 3), (60, .lload_n 2, 1), (61, .aload_n 0, 1), (62, .aload_n 1, 1), (63, .aload_n 0, 1), (64, .getfield 25, 3), (67, .lload_n 2, 1), (68, .invokevirtual 55, 3), (71, .invokestatic 153, 3), (74, .lstore_n 2, 1), (75, .aload_n 0, 1), (76, .aload_n 1, 1), (77, .invokevirtual 156, 3), (9, .aload_n 0, 1), (10, .getfield 48, 3), (13, .lreturn, 1)] = true := by decide +kernel
theorem dX3_mostOfAll_57 : decode cX3_mostOfAll 57 = .ok (.ifCond .ne 23, 3) := lw_dr lw_d_cX3_mostOfAll_57 0 rfl
theorem dX3_mostOfAll_80 : decode cX3_mostOfAll 80 = .ok (.aload_n 0, 1) := lw_dr lw_d_cX3_mostOfAll_57 1 rfl
theorem dX3_mostOfAll_81 : decode cX3_mostOfAll 81 = .ok (.aload_n 1, 1) := lw_dr lw_d_cX3_mostOfAll_57 2 rfl
theorem dX3_mostOfAll_82 : decode cX3_mostOfAll 82 = .ok (.invokevirtual 159, 3) := lw_dr lw_d_cX3_mostOfAll_57 3 rfl
theorem dX3_mostOfAll_85 : decode cX3_mostOfAll 85 = .ok (.iinc 5 1, 3) := lw_dr lw_d_cX3_mostOfAll_57 4 rfl
theorem dX3_mostOfAll_88 : decode cX3_mostOfAll 88 = .ok (.goto (-44), 3) := lw_dr lw_d_cX3_mostOfAll_57 5 rfl
theorem dX3_mostOfAll_60 : decode cX3_mostOfAll 60 = .ok (.lload_n 2, 1) := lw_dr lw_d_cX3_mostOfAll_57 6 rfl
theorem dX3_mostOfAll_61 : decode cX3_mostOfAll 61 = .ok (.aload_n 0, 1) := lw_dr lw_d_cX3_mostOfAll_57 7 rfl
theorem dX3_mostOfAll_62 : decode cX3_mostOfAll 62 = .ok (.aload_n 1, 1) := lw_dr lw_d_cX3_mostOfAll_57 8 rfl
theorem dX3_mostOfAll_63 : decode cX3_mostOfAll 63 = .ok (.aload_n 0, 1) := lw_dr lw_d_cX3_mostOfAll_57 9 rfl
theorem dX3_mostOfAll_64 : decode cX3_mostOfAll 64 = .ok (.getfield 25, 3) := lw_dr lw_d_cX3_mostOfAll_57 10 rfl
theorem dX3_mostOfAll_67 : decode cX3_mostOfAll 67 = .ok (.lload_n 2, 1) := lw_dr lw_d_cX3_mostOfAll_57 11 rfl
theorem dX3_mostOfAll_68 : decode cX3_mostOfAll 68 = .ok (.invokevirtual 55, 3) := lw_dr lw_d_cX3_mostOfAll_57 12 rfl
theorem dX3_mostOfAll_71 : decode cX3_mostOfAll 71 = .ok (.invokestatic 153, 3) := lw_dr lw_d_cX3_mostOfAll_57 13 rfl
theorem dX3_mostOfAll_74 : decode cX3_mostOfAll 74 = .ok (.lstore_n 2, 1) := lw_dr lw_d_cX3_mostOfAll_57 14 rfl
theorem dX3_mostOfAll_75 : decode cX3_mostOfAll 75 = .ok (.aload_n 0, 1) := lw_dr lw_d_cX3_mostOfAll_57 15 rfl
theorem dX3_mostOfAll_76 : decode cX3_mostOfAll 76 = .ok (.aload_n 1, 1) := lw_dr lw_d_cX3_mostOfAll_57 16 rfl
theorem dX3_mostOfAll_77 : decode cX3_mostOfAll 77 = .ok (.invokevirtual 156, 3) := lw_dr lw_d_cX3_mostOfAll_57 17 rfl
theorem dX3_mostOfAll_9 : decode cX3_mostOfAll 9 = .ok (.aload_n 0, 1) := lw_dr lw_d_cX3_mostOfAll_57 18 rfl
theorem dX3_mostOfAll_10 : decode cX3_mostOfAll 10 = .ok (.getfield 48, 3) := lw_dr lw_d_cX3_mostOfAll_57 19 rfl
theorem dX3_mostOfAll_13 : decode cX3_mostOfAll 13 = .ok (.lreturn, 1) := lw_dr lw_d_cX3_mostOfAll_57 20 rfl
theorem lw_d_cX3_nextLetters_0 : lw_dl cX3_nextLetters [(0, .aload_n 0, 1), (1, .getfield 12, 3), (4, .getfield 110, 3), (7, .istore_n 2, 1), (8, .iload_n 2, 1), (9, .ifCond .le 50, 3), (59, .aload_n 0, 1), (60, .getfield 25, 3), (63, .iload_n 2, 1), (64, .dup2, 1), (65, .iaload, 1), (66, .iconst 2, 1), (67, .iadd, 1), (68, .iastore, 1), (69, .aload_n 0, 1), (70, .iload_n 2, 1), (71, .ldc2_w 175, 3), (74, .invokevirtual 171, 3), (77, .return_, 1), (12, .aload_n 0, 1), (13, .getfield 25, 3), (16, .iload_n 2, 1), (17, .iaload, 1), (18, .aload_n 1, 1), (19, .getfield 77, 3), (22, .iconst 1, 1), (23, .isub, 1), (24, .if_icmp .ne 35, 3), (27, .aload_n 0, 1), (28, .getfield 25, 3), (31, .iload_n 2, 1), (32, .iconst 1, 1), (33, .aload_n 1, 1), (34, .getfield 77, 3), (37, .isub, 1), (38, .iastore, 1), (39, .aload_n 0, 1), (40, .iload_n 2, 1), (41, .iconst 2, 1), (42, .aload_n 0, 1)] = true := by decide +kernel
theorem dX3_nextLetters_0 : decode cX3_nextLetters 0 = .ok (.aload_n 0, 1) := lw_dr lw_d_cX3_nextLetters_0 0 rfl
theorem dX3_nextLetters_1 : decode cX3_nextLetters 1 = .ok (.getfield 12, 3) := lw_dr lw_d_cX3_nextLetters_0 1 rfl
theorem dX3_nextLetters_4 : decode cX3_nextLetters 4 = .ok (.getfield 110, 3) := lw_dr lw_d_cX3_nextLetters_0 2 rfl
theorem dX3_nextLetters_7 : decode cX3_nextLetters 7 = .ok (.istore_n 2, 1) := lw_dr lw_d_cX3_nextLetters_0 3 rfl
theorem dX3_nextLetters_8 : decode cX3_nextLetters 8 = .ok (.iload_n 2, 1) := lw_dr lw_d_cX3_nextLetters_0 4 rfl
theorem dX3_nextLetters_9 : decode cX3_nextLetters 9 = .ok (.ifCond .le 50, 3) := lw_dr lw_d_cX3_nextLetters_0 5 rfl
theorem dX3_nextLetters_59 : decode cX3_nextLetters 59 = .ok (.aload_n 0, 1) := lw_dr lw_d_cX3_nextLetters_0 6 rfl
theorem dX3_nextLetters_60 : decode cX3_nextLetters 60 = .ok (.getfield 25, 3) := lw_dr lw_d_cX3_nextLetters_0 7 rfl
theorem dX3_nextLetters_63 : decode cX3_nextLetters 63 = .ok (.iload_n 2, 1) := lw_dr lw_d_cX3_nextLetters_0 8 rfl
theorem dX3_nextLetters_64 : decode cX3_nextLetters 64 = .ok (.dup2, 1) := lw_dr lw_d_cX3_nextLetters_0 9 rfl
theorem dX3_nextLetters_65 : decode cX3_nextLetters 65 = .ok (.iaload, 1) := lw_dr lw_d_cX3_nextLetters_0 10 rfl
theorem dX3_nextLetters_66 : decode cX3_nextLetters 66 = .ok (.iconst 2, 1) := lw_dr lw_d_cX3_nextLetters_0 11 rfl
theorem dX3_nextLetters_67 : decode cX3_nextLetters 67 = .ok (.iadd, 1) := lw_dr lw_d_cX3_nextLetters_0 12 rfl
theorem dX3_nextLetters_68 : decode cX3_nextLetters 68 = .ok (.iastore, 1) := lw_dr lw_d_cX3_nextLetters_0 13 rfl
theorem dX3_nextLetters_69 : decode cX3_nextLetters 69 = .ok (.aload_n 0, 1) := lw_dr lw_d_cX3_nextLetters_0 14 rfl
theorem dX3_nextLetters_70 : decode cX3_nextLetters 70 = .ok (.iload_n 2, 1) := lw_dr lw_d_cX3_nextLetters_0 15 rfl
theorem dX3_nextLetters_71 : decode cX3_nextLetters 71 = .ok (.ldc2_w 175, 3) := lw_dr lw_d_cX3_nextLetters_0 16 rfl
theorem dX3_nextLetters_74 : decode cX3_nextLetters 74 = .ok (.invokevirtual 171, 3) := lw_dr lw_d_cX3_nextLetters_0 17 rfl
theorem dX3_nextLetters_77 : decode cX3_nextLetters 77 = .ok (.return_, 1) := lw_dr lw_d_cX3_nextLetters_0 18 rfl
theorem dX3_nextLetters_12 : decode cX3_nextLetters 12 = .ok (.aload_n 0, 1) := lw_dr lw_d_cX3_nextLetters_0 19 rfl
theorem dX3_nextLetters_13 : decode cX3_nextLetters 13 = .ok (.getfield 25, 3) := lw_dr lw_d_cX3_nextLetters_0 20 rfl
theorem dX3_nextLetters_16 : decode cX3_nextLetters 16 = .ok (.iload_n 2, 1) := lw_dr lw_d_cX3_nextLetters_0 21 rfl
theorem dX3_nextLetters_17 : decode cX3_nextLetters 17 = .ok (.iaload, 1) := lw_dr lw_d_cX3_nextLetters_0 22 rfl
theorem dX3_nextLetters_18 : decode cX3_nextLetters 18 = .ok (.aload_n 1, 1) := lw_dr lw_d_cX3_nextLetters_0 23 rfl
theorem dX3_nextLetters_19 : decode cX3_nextLetters 19 = .ok (.getfield 77, 3) := lw_dr lw_d_cX3_nextLetters_0 24 rfl
theorem dX3_nextLetters_22 : decode cX3_nextLetters 22 = .ok (.iconst 1, 1) := lw_dr lw_d_cX3_nextLetters_0 25 rfl
theorem dX3_nextLetters_23 : decode cX3_nextLetters 23 = .ok (.isub, 1) := lw_dr lw_d_cX3_nextLetters_0 26 rfl
theorem dX3_nextLetters_24 : decode cX3_nextLetters 24 = .ok (.if_icmp .ne 35, 3) := lw_dr lw_d_cX3_nextLetters_0 27 rfl
theorem dX3_nextLetters_27 : decode cX3_nextLetters 27 = .ok (.aload_n 0, 1) := lw_dr lw_d_cX3_nextLetters_0 28 rfl
theorem dX3_nextLetters_28 : decode cX3_nextLetters 28 = .ok (.getfield 25, 3) := lw_dr lw_d_cX3_nextLetters_0 29 rfl
theorem dX3_nextLetters_31 : decode cX3_nextLetters 31 = .ok (.iload_n 2, 1) := lw_dr lw_d_cX3_nextLetters_0 30 rfl
theorem dX3_nextLetters_32 : decode cX3_nextLetters 32 = .ok (.iconst 1, 1) := lw_dr lw_d_cX3_nextLetters_0 31 rfl
theorem dX3_nextLetters_33 : decode cX3_nextLetters 33 = .ok (.aload_n 1, 1) := lw_dr lw_d_cX3_nextLetters_0 32 rfl
theorem dX3_nextLetters_34 : decode cX3_nextLetters 34 = .ok (.getfield 77, 3) := lw_dr lw_d_cX3_nextLetters_0 33 rfl
theorem dX3_nextLetters_37 : decode cX3_nextLetters 37 = .ok (.isub, 1) := lw_dr lw_d_cX3_nextLetters_0 34 rfl
theorem dX3_nextLetters_38 : decode cX3_nextLetters 38 = .ok (.iastore, 1) := lw_dr lw_d_cX3_nextLetters_0 35 rfl
theorem dX3_nextLetters_39 : decode cX3_nextLetters 39 = .ok (.aload_n 0, 1) := lw_dr lw_d_cX3_nextLetters_0 36 rfl
theorem dX3_nextLetters_40 : decode cX3_nextLetters 40 = .ok (.iload_n 2, 1) := lw_dr lw_d_cX3_nextLetters_0 37 rfl
theorem dX3_nextLetters_41 : decode cX3_nextLetters 41 = .ok (.iconst 2, 1) := lw_dr lw_d_cX3_nextLetters_0 38 rfl
theorem dX3_nextLetters_42 : decode cX3_nextLetters 42 = .ok (.aload_n 0, 1) := lw_dr lw_d_cX3_nextLetters_0 39 rfl
theorem lw_d_cX3_nextLetters_43 : lw_dl cX3_nextLetters [(43, .getfield 25, 3), (46, .iload_n 2, 1), (47, .iaload, 1), (48, .imul, 1), (49, .i2l, 1), (50, .invokevirtual 171, 3), (53, .iinc 2 (-1), 3), (56, .goto (-48), 3)] = true := by decide +kernel
theorem dX3_nextLetters_43 : decode cX3_nextLetters 43 = .ok (.getfield 25, 3) := lw_dr lw_d_cX3_nextLetters_43 0 rfl
theorem dX3_nextLetters_46 : decode cX3_nextLetters 46 = .ok (.iload_n 2, 1) := lw_dr lw_d_cX3_nextLetters_43 1 rfl
theorem dX3_nextLetters_47 : decode cX3_nextLetters 47 = .ok (.iaload, 1) := lw_dr lw_d_cX3_nextLetters_43 2 rfl
theorem dX3_nextLetters_48 : decode cX3_nextLetters 48 = .ok (.imul, 1) := lw_dr lw_d_cX3_nextLetters_43 3 rfl
theorem dX3_nextLetters_49 : decode cX3_nextLetters 49 = .ok (.i2l, 1) := lw_dr lw_d_cX3_nextLetters_43 4 rfl
theorem dX3_nextLetters_50 : decode cX3_nextLetters 50 = .ok (.invokevirtual 171, 3) := lw_dr lw_d_cX3_nextLetters_43 5 rfl
theorem dX3_nextLetters_53 : decode cX3_nextLetters 53 = .ok (.iinc 2 (-1), 3) := lw_dr lw_d_cX3_nextLetters_43 6 rfl
theorem dX3_nextLetters_56 : decode cX3_nextLetters 56 = .ok (.goto (-48), 3) := lw_dr lw_d_cX3_nextLetters_43 7 rfl
theorem lw_d_cX3_leastFor_0 : lw_dl cX3_leastFor [(0, .iconst 2, 1), (1, .aload_n 1, 1), (2, .getfield 77, 3), (5, .imul, 1), (6, .istore 5, 2), (8, .iconst 0, 1), (9, .istore 6, 2), (11, .iload 6, 2), (13, .aload_n 1, 1), (14, .getfield 79, 3), (17, .if_icmp .ge 28, 3), (45, .aload_n 0, 1), (46, .getfield 12, 3), (49, .invokevirtual 86, 3), (52, .ldc2_w 89, 3), (55, .lstore 6, 2), (57, .aload_n 0, 1), (58, .getfield 12, 3), (61, .invokevirtual 91, 3), (64, .istore 8, 2), (66, .iconst 0, 1), (67, .istore 9, 2), (69, .iload 9, 2), (71, .iload 8, 2), (73, .if_icmp .ge 62, 3), (135, .lload 6, 2), (137, .lreturn, 1), (76, .lload 6, 2), (78, .lload_n 3, 1), (79, .lcmp, 1), (80, .ifCond .le 55, 3), (83, .aload_n 0, 1), (84, .getfield 12, 3), (87, .iconst 3, 1), (88, .invokevirtual 95, 3), (91, .istore 10, 2), (93, .aload_n 0, 1), (94, .getfield 12, 3), (97, .iload 10, 2), (99, .invokevirtual 99, 3)] = true := by decide +kernel
theorem dX3_leastFor_0 : decode cX3_leastFor 0 = .ok (.iconst 2, 1) := lw_dr lw_d_cX3_leastFor_0 0 rfl
theorem dX3_leastFor_1 : decode cX3_leastFor 1 = .ok (.aload_n 1, 1) := lw_dr lw_d_cX3_leastFor_0 1 rfl
theorem dX3_leastFor_2 : decode cX3_leastFor 2 = .ok (.getfield 77, 3) := lw_dr lw_d_cX3_leastFor_0 2 rfl
theorem dX3_leastFor_5 : decode cX3_leastFor 5 = .ok (.imul, 1) := lw_dr lw_d_cX3_leastFor_0 3 rfl
theorem dX3_leastFor_6 : decode cX3_leastFor 6 = .ok (.istore 5, 2) := lw_dr lw_d_cX3_leastFor_0 4 rfl
theorem dX3_leastFor_8 : decode cX3_leastFor 8 = .ok (.iconst 0, 1) := lw_dr lw_d_cX3_leastFor_0 5 rfl
theorem dX3_leastFor_9 : decode cX3_leastFor 9 = .ok (.istore 6, 2) := lw_dr lw_d_cX3_leastFor_0 6 rfl
theorem dX3_leastFor_11 : decode cX3_leastFor 11 = .ok (.iload 6, 2) := lw_dr lw_d_cX3_leastFor_0 7 rfl
theorem dX3_leastFor_13 : decode cX3_leastFor 13 = .ok (.aload_n 1, 1) := lw_dr lw_d_cX3_leastFor_0 8 rfl
theorem dX3_leastFor_14 : decode cX3_leastFor 14 = .ok (.getfield 79, 3) := lw_dr lw_d_cX3_leastFor_0 9 rfl
theorem dX3_leastFor_17 : decode cX3_leastFor 17 = .ok (.if_icmp .ge 28, 3) := lw_dr lw_d_cX3_leastFor_0 10 rfl
theorem dX3_leastFor_45 : decode cX3_leastFor 45 = .ok (.aload_n 0, 1) := lw_dr lw_d_cX3_leastFor_0 11 rfl
theorem dX3_leastFor_46 : decode cX3_leastFor 46 = .ok (.getfield 12, 3) := lw_dr lw_d_cX3_leastFor_0 12 rfl
theorem dX3_leastFor_49 : decode cX3_leastFor 49 = .ok (.invokevirtual 86, 3) := lw_dr lw_d_cX3_leastFor_0 13 rfl
theorem dX3_leastFor_52 : decode cX3_leastFor 52 = .ok (.ldc2_w 89, 3) := lw_dr lw_d_cX3_leastFor_0 14 rfl
theorem dX3_leastFor_55 : decode cX3_leastFor 55 = .ok (.lstore 6, 2) := lw_dr lw_d_cX3_leastFor_0 15 rfl
theorem dX3_leastFor_57 : decode cX3_leastFor 57 = .ok (.aload_n 0, 1) := lw_dr lw_d_cX3_leastFor_0 16 rfl
theorem dX3_leastFor_58 : decode cX3_leastFor 58 = .ok (.getfield 12, 3) := lw_dr lw_d_cX3_leastFor_0 17 rfl
theorem dX3_leastFor_61 : decode cX3_leastFor 61 = .ok (.invokevirtual 91, 3) := lw_dr lw_d_cX3_leastFor_0 18 rfl
theorem dX3_leastFor_64 : decode cX3_leastFor 64 = .ok (.istore 8, 2) := lw_dr lw_d_cX3_leastFor_0 19 rfl
theorem dX3_leastFor_66 : decode cX3_leastFor 66 = .ok (.iconst 0, 1) := lw_dr lw_d_cX3_leastFor_0 20 rfl
theorem dX3_leastFor_67 : decode cX3_leastFor 67 = .ok (.istore 9, 2) := lw_dr lw_d_cX3_leastFor_0 21 rfl
theorem dX3_leastFor_69 : decode cX3_leastFor 69 = .ok (.iload 9, 2) := lw_dr lw_d_cX3_leastFor_0 22 rfl
theorem dX3_leastFor_71 : decode cX3_leastFor 71 = .ok (.iload 8, 2) := lw_dr lw_d_cX3_leastFor_0 23 rfl
theorem dX3_leastFor_73 : decode cX3_leastFor 73 = .ok (.if_icmp .ge 62, 3) := lw_dr lw_d_cX3_leastFor_0 24 rfl
theorem dX3_leastFor_135 : decode cX3_leastFor 135 = .ok (.lload 6, 2) := lw_dr lw_d_cX3_leastFor_0 25 rfl
theorem dX3_leastFor_137 : decode cX3_leastFor 137 = .ok (.lreturn, 1) := lw_dr lw_d_cX3_leastFor_0 26 rfl
theorem dX3_leastFor_76 : decode cX3_leastFor 76 = .ok (.lload 6, 2) := lw_dr lw_d_cX3_leastFor_0 27 rfl
theorem dX3_leastFor_78 : decode cX3_leastFor 78 = .ok (.lload_n 3, 1) := lw_dr lw_d_cX3_leastFor_0 28 rfl
theorem dX3_leastFor_79 : decode cX3_leastFor 79 = .ok (.lcmp, 1) := lw_dr lw_d_cX3_leastFor_0 29 rfl
theorem dX3_leastFor_80 : decode cX3_leastFor 80 = .ok (.ifCond .le 55, 3) := lw_dr lw_d_cX3_leastFor_0 30 rfl
theorem dX3_leastFor_83 : decode cX3_leastFor 83 = .ok (.aload_n 0, 1) := lw_dr lw_d_cX3_leastFor_0 31 rfl
theorem dX3_leastFor_84 : decode cX3_leastFor 84 = .ok (.getfield 12, 3) := lw_dr lw_d_cX3_leastFor_0 32 rfl
theorem dX3_leastFor_87 : decode cX3_leastFor 87 = .ok (.iconst 3, 1) := lw_dr lw_d_cX3_leastFor_0 33 rfl
theorem dX3_leastFor_88 : decode cX3_leastFor 88 = .ok (.invokevirtual 95, 3) := lw_dr lw_d_cX3_leastFor_0 34 rfl
theorem dX3_leastFor_91 : decode cX3_leastFor 91 = .ok (.istore 10, 2) := lw_dr lw_d_cX3_leastFor_0 35 rfl
theorem dX3_leastFor_93 : decode cX3_leastFor 93 = .ok (.aload_n 0, 1) := lw_dr lw_d_cX3_leastFor_0 36 rfl
theorem dX3_leastFor_94 : decode cX3_leastFor 94 = .ok (.getfield 12, 3) := lw_dr lw_d_cX3_leastFor_0 37 rfl
theorem dX3_leastFor_97 : decode cX3_leastFor 97 = .ok (.iload 10, 2) := lw_dr lw_d_cX3_leastFor_0 38 rfl
theorem dX3_leastFor_99 : decode cX3_leastFor 99 = .ok (.invokevirtual 99, 3) := lw_dr lw_d_cX3_leastFor_0 39 rfl
theorem lw_d_cX3_leastFor_102 : lw_dl cX3_leastFor [(102, .lstore 11, 2), (104, .lload 11, 2), (106, .lload 6, 2), (108, .lcmp, 1), (109, .ifCond .ge 13, 3), (122, .aload_n 0, 1), (123, .getfield 12, 3), (126, .invokevirtual 107, 3), (129, .iinc 9 1, 3), (132, .goto (-63), 3), (112, .lload 11, 2), (114, .lstore 6, 2), (116, .aload_n 0, 1), (117, .iload 10, 2), (119, .invokevirtual 103, 3), (20, .aload_n 0, 1), (21, .getfield 12, 3), (24, .iload 6, 2), (26, .aload_n 2, 1), (27, .iload 6, 2), (29, .iaload, 1), (30, .iload 5, 2), (32, .isub, 1), (33, .iload 5, 2), (35, .iconst 3, 1), (36, .invokevirtual 82, 3), (39, .iinc 6 1, 3), (42, .goto (-31), 3)] = true := by decide +kernel
theorem dX3_leastFor_102 : decode cX3_leastFor 102 = .ok (.lstore 11, 2) := lw_dr lw_d_cX3_leastFor_102 0 rfl
theorem dX3_leastFor_104 : decode cX3_leastFor 104 = .ok (.lload 11, 2) := lw_dr lw_d_cX3_leastFor_102 1 rfl
theorem dX3_leastFor_106 : decode cX3_leastFor 106 = .ok (.lload 6, 2) := lw_dr lw_d_cX3_leastFor_102 2 rfl
theorem dX3_leastFor_108 : decode cX3_leastFor 108 = .ok (.lcmp, 1) := lw_dr lw_d_cX3_leastFor_102 3 rfl
theorem dX3_leastFor_109 : decode cX3_leastFor 109 = .ok (.ifCond .ge 13, 3) := lw_dr lw_d_cX3_leastFor_102 4 rfl
theorem dX3_leastFor_122 : decode cX3_leastFor 122 = .ok (.aload_n 0, 1) := lw_dr lw_d_cX3_leastFor_102 5 rfl
theorem dX3_leastFor_123 : decode cX3_leastFor 123 = .ok (.getfield 12, 3) := lw_dr lw_d_cX3_leastFor_102 6 rfl
theorem dX3_leastFor_126 : decode cX3_leastFor 126 = .ok (.invokevirtual 107, 3) := lw_dr lw_d_cX3_leastFor_102 7 rfl
theorem dX3_leastFor_129 : decode cX3_leastFor 129 = .ok (.iinc 9 1, 3) := lw_dr lw_d_cX3_leastFor_102 8 rfl
theorem dX3_leastFor_132 : decode cX3_leastFor 132 = .ok (.goto (-63), 3) := lw_dr lw_d_cX3_leastFor_102 9 rfl
theorem dX3_leastFor_112 : decode cX3_leastFor 112 = .ok (.lload 11, 2) := lw_dr lw_d_cX3_leastFor_102 10 rfl
theorem dX3_leastFor_114 : decode cX3_leastFor 114 = .ok (.lstore 6, 2) := lw_dr lw_d_cX3_leastFor_102 11 rfl
theorem dX3_leastFor_116 : decode cX3_leastFor 116 = .ok (.aload_n 0, 1) := lw_dr lw_d_cX3_leastFor_102 12 rfl
theorem dX3_leastFor_117 : decode cX3_leastFor 117 = .ok (.iload 10, 2) := lw_dr lw_d_cX3_leastFor_102 13 rfl
theorem dX3_leastFor_119 : decode cX3_leastFor 119 = .ok (.invokevirtual 103, 3) := lw_dr lw_d_cX3_leastFor_102 14 rfl
theorem dX3_leastFor_20 : decode cX3_leastFor 20 = .ok (.aload_n 0, 1) := lw_dr lw_d_cX3_leastFor_102 15 rfl
theorem dX3_leastFor_21 : decode cX3_leastFor 21 = .ok (.getfield 12, 3) := lw_dr lw_d_cX3_leastFor_102 16 rfl
theorem dX3_leastFor_24 : decode cX3_leastFor 24 = .ok (.iload 6, 2) := lw_dr lw_d_cX3_leastFor_102 17 rfl
theorem dX3_leastFor_26 : decode cX3_leastFor 26 = .ok (.aload_n 2, 1) := lw_dr lw_d_cX3_leastFor_102 18 rfl
theorem dX3_leastFor_27 : decode cX3_leastFor 27 = .ok (.iload 6, 2) := lw_dr lw_d_cX3_leastFor_102 19 rfl
theorem dX3_leastFor_29 : decode cX3_leastFor 29 = .ok (.iaload, 1) := lw_dr lw_d_cX3_leastFor_102 20 rfl
theorem dX3_leastFor_30 : decode cX3_leastFor 30 = .ok (.iload 5, 2) := lw_dr lw_d_cX3_leastFor_102 21 rfl
theorem dX3_leastFor_32 : decode cX3_leastFor 32 = .ok (.isub, 1) := lw_dr lw_d_cX3_leastFor_102 22 rfl
theorem dX3_leastFor_33 : decode cX3_leastFor 33 = .ok (.iload 5, 2) := lw_dr lw_d_cX3_leastFor_102 23 rfl
theorem dX3_leastFor_35 : decode cX3_leastFor 35 = .ok (.iconst 3, 1) := lw_dr lw_d_cX3_leastFor_102 24 rfl
theorem dX3_leastFor_36 : decode cX3_leastFor 36 = .ok (.invokevirtual 82, 3) := lw_dr lw_d_cX3_leastFor_102 25 rfl
theorem dX3_leastFor_39 : decode cX3_leastFor 39 = .ok (.iinc 6 1, 3) := lw_dr lw_d_cX3_leastFor_102 26 rfl
theorem dX3_leastFor_42 : decode cX3_leastFor 42 = .ok (.goto (-31), 3) := lw_dr lw_d_cX3_leastFor_102 27 rfl
theorem lw_d_cX3_keepFound_0 : lw_dl cX3_keepFound [(0, .iconst 0, 1), (1, .istore_n 2, 1), (2, .iload_n 2, 1), (3, .aload_n 0, 1), (4, .getfield 12, 3), (7, .getfield 110, 3), (10, .if_icmp .ge 26, 3), (36, .aload_n 0, 1), (37, .getfield 22, 3), (40, .aload_n 0, 1), (41, .getfield 12, 3), (44, .getfield 110, 3), (47, .iload_n 1, 1), (48, .iconst 1, 1), (49, .isub, 1), (50, .iastore, 1), (51, .return_, 1), (13, .aload_n 0, 1), (14, .getfield 22, 3), (17, .iload_n 2, 1), (18, .aload_n 0, 1), (19, .getfield 12, 3), (22, .getfield 113, 3), (25, .iload_n 2, 1), (26, .iaload, 1), (27, .iconst 1, 1), (28, .isub, 1), (29, .iastore, 1), (30, .iinc 2 1, 3), (33, .goto (-31), 3)] = true := by decide +kernel
theorem dX3_keepFound_0 : decode cX3_keepFound 0 = .ok (.iconst 0, 1) := lw_dr lw_d_cX3_keepFound_0 0 rfl
theorem dX3_keepFound_1 : decode cX3_keepFound 1 = .ok (.istore_n 2, 1) := lw_dr lw_d_cX3_keepFound_0 1 rfl
theorem dX3_keepFound_2 : decode cX3_keepFound 2 = .ok (.iload_n 2, 1) := lw_dr lw_d_cX3_keepFound_0 2 rfl
theorem dX3_keepFound_3 : decode cX3_keepFound 3 = .ok (.aload_n 0, 1) := lw_dr lw_d_cX3_keepFound_0 3 rfl
theorem dX3_keepFound_4 : decode cX3_keepFound 4 = .ok (.getfield 12, 3) := lw_dr lw_d_cX3_keepFound_0 4 rfl
theorem dX3_keepFound_7 : decode cX3_keepFound 7 = .ok (.getfield 110, 3) := lw_dr lw_d_cX3_keepFound_0 5 rfl
theorem dX3_keepFound_10 : decode cX3_keepFound 10 = .ok (.if_icmp .ge 26, 3) := lw_dr lw_d_cX3_keepFound_0 6 rfl
theorem dX3_keepFound_36 : decode cX3_keepFound 36 = .ok (.aload_n 0, 1) := lw_dr lw_d_cX3_keepFound_0 7 rfl
theorem dX3_keepFound_37 : decode cX3_keepFound 37 = .ok (.getfield 22, 3) := lw_dr lw_d_cX3_keepFound_0 8 rfl
theorem dX3_keepFound_40 : decode cX3_keepFound 40 = .ok (.aload_n 0, 1) := lw_dr lw_d_cX3_keepFound_0 9 rfl
theorem dX3_keepFound_41 : decode cX3_keepFound 41 = .ok (.getfield 12, 3) := lw_dr lw_d_cX3_keepFound_0 10 rfl
theorem dX3_keepFound_44 : decode cX3_keepFound 44 = .ok (.getfield 110, 3) := lw_dr lw_d_cX3_keepFound_0 11 rfl
theorem dX3_keepFound_47 : decode cX3_keepFound 47 = .ok (.iload_n 1, 1) := lw_dr lw_d_cX3_keepFound_0 12 rfl
theorem dX3_keepFound_48 : decode cX3_keepFound 48 = .ok (.iconst 1, 1) := lw_dr lw_d_cX3_keepFound_0 13 rfl
theorem dX3_keepFound_49 : decode cX3_keepFound 49 = .ok (.isub, 1) := lw_dr lw_d_cX3_keepFound_0 14 rfl
theorem dX3_keepFound_50 : decode cX3_keepFound 50 = .ok (.iastore, 1) := lw_dr lw_d_cX3_keepFound_0 15 rfl
theorem dX3_keepFound_51 : decode cX3_keepFound 51 = .ok (.return_, 1) := lw_dr lw_d_cX3_keepFound_0 16 rfl
theorem dX3_keepFound_13 : decode cX3_keepFound 13 = .ok (.aload_n 0, 1) := lw_dr lw_d_cX3_keepFound_0 17 rfl
theorem dX3_keepFound_14 : decode cX3_keepFound 14 = .ok (.getfield 22, 3) := lw_dr lw_d_cX3_keepFound_0 18 rfl
theorem dX3_keepFound_17 : decode cX3_keepFound 17 = .ok (.iload_n 2, 1) := lw_dr lw_d_cX3_keepFound_0 19 rfl
theorem dX3_keepFound_18 : decode cX3_keepFound 18 = .ok (.aload_n 0, 1) := lw_dr lw_d_cX3_keepFound_0 20 rfl
theorem dX3_keepFound_19 : decode cX3_keepFound 19 = .ok (.getfield 12, 3) := lw_dr lw_d_cX3_keepFound_0 21 rfl
theorem dX3_keepFound_22 : decode cX3_keepFound 22 = .ok (.getfield 113, 3) := lw_dr lw_d_cX3_keepFound_0 22 rfl
theorem dX3_keepFound_25 : decode cX3_keepFound 25 = .ok (.iload_n 2, 1) := lw_dr lw_d_cX3_keepFound_0 23 rfl
theorem dX3_keepFound_26 : decode cX3_keepFound 26 = .ok (.iaload, 1) := lw_dr lw_d_cX3_keepFound_0 24 rfl
theorem dX3_keepFound_27 : decode cX3_keepFound 27 = .ok (.iconst 1, 1) := lw_dr lw_d_cX3_keepFound_0 25 rfl
theorem dX3_keepFound_28 : decode cX3_keepFound 28 = .ok (.isub, 1) := lw_dr lw_d_cX3_keepFound_0 26 rfl
theorem dX3_keepFound_29 : decode cX3_keepFound 29 = .ok (.iastore, 1) := lw_dr lw_d_cX3_keepFound_0 27 rfl
theorem dX3_keepFound_30 : decode cX3_keepFound 30 = .ok (.iinc 2 1, 3) := lw_dr lw_d_cX3_keepFound_0 28 rfl
theorem dX3_keepFound_33 : decode cX3_keepFound 33 = .ok (.goto (-31), 3) := lw_dr lw_d_cX3_keepFound_0 29 rfl
theorem lw_d_cX3_tryFound_0 : lw_dl cX3_tryFound [(0, .iconst 0, 1), (1, .istore_n 2, 1), (2, .iload_n 2, 1), (3, .aload_n 1, 1), (4, .getfield 79, 3), (7, .if_icmp .ge 65, 3), (72, .return_, 1), (10, .aload_n 0, 1), (11, .getfield 28, 3), (14, .iload_n 2, 1), (15, .iaload, 1), (16, .aload_n 0, 1), (17, .getfield 22, 3), (20, .iload_n 2, 1), (21, .iaload, 1), (22, .if_icmp .eq 44, 3), (66, .iinc 2 1, 3), (69, .goto (-67), 3), (25, .aload_n 0, 1), (26, .iload_n 2, 1), (27, .ldc2_w 175, 3), (30, .aload_n 1, 1), (31, .getfield 77, 3), (34, .i2l, 1), (35, .lmul, 1), (36, .aload_n 0, 1), (37, .getfield 22, 3), (40, .iload_n 2, 1), (41, .iaload, 1), (42, .aload_n 0, 1), (43, .getfield 28, 3), (46, .iload_n 2, 1), (47, .iaload, 1), (48, .isub, 1), (49, .i2l, 1), (50, .lmul, 1), (51, .invokevirtual 171, 3), (54, .aload_n 0, 1), (55, .getfield 28, 3), (58, .iload_n 2, 1)] = true := by decide +kernel
theorem dX3_tryFound_0 : decode cX3_tryFound 0 = .ok (.iconst 0, 1) := lw_dr lw_d_cX3_tryFound_0 0 rfl
theorem dX3_tryFound_1 : decode cX3_tryFound 1 = .ok (.istore_n 2, 1) := lw_dr lw_d_cX3_tryFound_0 1 rfl
theorem dX3_tryFound_2 : decode cX3_tryFound 2 = .ok (.iload_n 2, 1) := lw_dr lw_d_cX3_tryFound_0 2 rfl
theorem dX3_tryFound_3 : decode cX3_tryFound 3 = .ok (.aload_n 1, 1) := lw_dr lw_d_cX3_tryFound_0 3 rfl
theorem dX3_tryFound_4 : decode cX3_tryFound 4 = .ok (.getfield 79, 3) := lw_dr lw_d_cX3_tryFound_0 4 rfl
theorem dX3_tryFound_7 : decode cX3_tryFound 7 = .ok (.if_icmp .ge 65, 3) := lw_dr lw_d_cX3_tryFound_0 5 rfl
theorem dX3_tryFound_72 : decode cX3_tryFound 72 = .ok (.return_, 1) := lw_dr lw_d_cX3_tryFound_0 6 rfl
theorem dX3_tryFound_10 : decode cX3_tryFound 10 = .ok (.aload_n 0, 1) := lw_dr lw_d_cX3_tryFound_0 7 rfl
theorem dX3_tryFound_11 : decode cX3_tryFound 11 = .ok (.getfield 28, 3) := lw_dr lw_d_cX3_tryFound_0 8 rfl
theorem dX3_tryFound_14 : decode cX3_tryFound 14 = .ok (.iload_n 2, 1) := lw_dr lw_d_cX3_tryFound_0 9 rfl
theorem dX3_tryFound_15 : decode cX3_tryFound 15 = .ok (.iaload, 1) := lw_dr lw_d_cX3_tryFound_0 10 rfl
theorem dX3_tryFound_16 : decode cX3_tryFound 16 = .ok (.aload_n 0, 1) := lw_dr lw_d_cX3_tryFound_0 11 rfl
theorem dX3_tryFound_17 : decode cX3_tryFound 17 = .ok (.getfield 22, 3) := lw_dr lw_d_cX3_tryFound_0 12 rfl
theorem dX3_tryFound_20 : decode cX3_tryFound 20 = .ok (.iload_n 2, 1) := lw_dr lw_d_cX3_tryFound_0 13 rfl
theorem dX3_tryFound_21 : decode cX3_tryFound 21 = .ok (.iaload, 1) := lw_dr lw_d_cX3_tryFound_0 14 rfl
theorem dX3_tryFound_22 : decode cX3_tryFound 22 = .ok (.if_icmp .eq 44, 3) := lw_dr lw_d_cX3_tryFound_0 15 rfl
theorem dX3_tryFound_66 : decode cX3_tryFound 66 = .ok (.iinc 2 1, 3) := lw_dr lw_d_cX3_tryFound_0 16 rfl
theorem dX3_tryFound_69 : decode cX3_tryFound 69 = .ok (.goto (-67), 3) := lw_dr lw_d_cX3_tryFound_0 17 rfl
theorem dX3_tryFound_25 : decode cX3_tryFound 25 = .ok (.aload_n 0, 1) := lw_dr lw_d_cX3_tryFound_0 18 rfl
theorem dX3_tryFound_26 : decode cX3_tryFound 26 = .ok (.iload_n 2, 1) := lw_dr lw_d_cX3_tryFound_0 19 rfl
theorem dX3_tryFound_27 : decode cX3_tryFound 27 = .ok (.ldc2_w 175, 3) := lw_dr lw_d_cX3_tryFound_0 20 rfl
theorem dX3_tryFound_30 : decode cX3_tryFound 30 = .ok (.aload_n 1, 1) := lw_dr lw_d_cX3_tryFound_0 21 rfl
theorem dX3_tryFound_31 : decode cX3_tryFound 31 = .ok (.getfield 77, 3) := lw_dr lw_d_cX3_tryFound_0 22 rfl
theorem dX3_tryFound_34 : decode cX3_tryFound 34 = .ok (.i2l, 1) := lw_dr lw_d_cX3_tryFound_0 23 rfl
theorem dX3_tryFound_35 : decode cX3_tryFound 35 = .ok (.lmul, 1) := lw_dr lw_d_cX3_tryFound_0 24 rfl
theorem dX3_tryFound_36 : decode cX3_tryFound 36 = .ok (.aload_n 0, 1) := lw_dr lw_d_cX3_tryFound_0 25 rfl
theorem dX3_tryFound_37 : decode cX3_tryFound 37 = .ok (.getfield 22, 3) := lw_dr lw_d_cX3_tryFound_0 26 rfl
theorem dX3_tryFound_40 : decode cX3_tryFound 40 = .ok (.iload_n 2, 1) := lw_dr lw_d_cX3_tryFound_0 27 rfl
theorem dX3_tryFound_41 : decode cX3_tryFound 41 = .ok (.iaload, 1) := lw_dr lw_d_cX3_tryFound_0 28 rfl
theorem dX3_tryFound_42 : decode cX3_tryFound 42 = .ok (.aload_n 0, 1) := lw_dr lw_d_cX3_tryFound_0 29 rfl
theorem dX3_tryFound_43 : decode cX3_tryFound 43 = .ok (.getfield 28, 3) := lw_dr lw_d_cX3_tryFound_0 30 rfl
theorem dX3_tryFound_46 : decode cX3_tryFound 46 = .ok (.iload_n 2, 1) := lw_dr lw_d_cX3_tryFound_0 31 rfl
theorem dX3_tryFound_47 : decode cX3_tryFound 47 = .ok (.iaload, 1) := lw_dr lw_d_cX3_tryFound_0 32 rfl
theorem dX3_tryFound_48 : decode cX3_tryFound 48 = .ok (.isub, 1) := lw_dr lw_d_cX3_tryFound_0 33 rfl
theorem dX3_tryFound_49 : decode cX3_tryFound 49 = .ok (.i2l, 1) := lw_dr lw_d_cX3_tryFound_0 34 rfl
theorem dX3_tryFound_50 : decode cX3_tryFound 50 = .ok (.lmul, 1) := lw_dr lw_d_cX3_tryFound_0 35 rfl
theorem dX3_tryFound_51 : decode cX3_tryFound 51 = .ok (.invokevirtual 171, 3) := lw_dr lw_d_cX3_tryFound_0 36 rfl
theorem dX3_tryFound_54 : decode cX3_tryFound 54 = .ok (.aload_n 0, 1) := lw_dr lw_d_cX3_tryFound_0 37 rfl
theorem dX3_tryFound_55 : decode cX3_tryFound 55 = .ok (.getfield 28, 3) := lw_dr lw_d_cX3_tryFound_0 38 rfl
theorem dX3_tryFound_58 : decode cX3_tryFound 58 = .ok (.iload_n 2, 1) := lw_dr lw_d_cX3_tryFound_0 39 rfl
theorem lw_d_cX3_tryFound_59 : lw_dl cX3_tryFound [(59, .aload_n 0, 1), (60, .getfield 22, 3), (63, .iload_n 2, 1), (64, .iaload, 1), (65, .iastore, 1)] = true := by decide +kernel
theorem dX3_tryFound_59 : decode cX3_tryFound 59 = .ok (.aload_n 0, 1) := lw_dr lw_d_cX3_tryFound_59 0 rfl
theorem dX3_tryFound_60 : decode cX3_tryFound 60 = .ok (.getfield 22, 3) := lw_dr lw_d_cX3_tryFound_59 1 rfl
theorem dX3_tryFound_63 : decode cX3_tryFound 63 = .ok (.iload_n 2, 1) := lw_dr lw_d_cX3_tryFound_59 2 rfl
theorem dX3_tryFound_64 : decode cX3_tryFound 64 = .ok (.iaload, 1) := lw_dr lw_d_cX3_tryFound_59 3 rfl
theorem dX3_tryFound_65 : decode cX3_tryFound 65 = .ok (.iastore, 1) := lw_dr lw_d_cX3_tryFound_59 4 rfl
theorem lw_d_cX3_leastOfAll_0 : lw_dl cX3_leastOfAll [(0, .aload_n 0, 1), (1, .getfield 45, 3), (4, .lconst 0, 1), (5, .lcmp, 1), (6, .ifCond .lt 8, 3), (14, .iconst 3, 1), (15, .aload_n 1, 1), (16, .getfield 77, 3), (19, .imul, 1), (20, .istore_n 2, 1), (21, .aload_n 0, 1), (22, .getfield 12, 3), (25, .aload_n 1, 1), (26, .invokevirtual 51, 3), (29, .aload_n 0, 1), (30, .getfield 12, 3), (33, .iconst 1, 1), (34, .iload_n 2, 1), (35, .isub, 1), (36, .iconst 2, 1), (37, .iload_n 2, 1), (38, .invokevirtual 116, 3), (41, .aload_n 0, 1), (42, .getfield 12, 3), (45, .invokevirtual 86, 3), (48, .aload_n 1, 1), (49, .invokestatic 120, 3), (52, .lstore_n 3, 1), (53, .aload_n 1, 1), (54, .getfield 77, 3), (57, .iconst 2, 1), (58, .irem, 1), (59, .iconst 1, 1), (60, .if_icmp .ne 7, 3), (67, .ldc2_w 89, 3), (70, .lstore 5, 2), (72, .aload_n 0, 1), (73, .getfield 12, 3), (76, .invokevirtual 91, 3), (79, .iconst 1, 1)] = true := by decide +kernel
theorem dX3_leastOfAll_0 : decode cX3_leastOfAll 0 = .ok (.aload_n 0, 1) := lw_dr lw_d_cX3_leastOfAll_0 0 rfl
theorem dX3_leastOfAll_1 : decode cX3_leastOfAll 1 = .ok (.getfield 45, 3) := lw_dr lw_d_cX3_leastOfAll_0 1 rfl
theorem dX3_leastOfAll_4 : decode cX3_leastOfAll 4 = .ok (.lconst 0, 1) := lw_dr lw_d_cX3_leastOfAll_0 2 rfl
theorem dX3_leastOfAll_5 : decode cX3_leastOfAll 5 = .ok (.lcmp, 1) := lw_dr lw_d_cX3_leastOfAll_0 3 rfl
theorem dX3_leastOfAll_6 : decode cX3_leastOfAll 6 = .ok (.ifCond .lt 8, 3) := lw_dr lw_d_cX3_leastOfAll_0 4 rfl
theorem dX3_leastOfAll_14 : decode cX3_leastOfAll 14 = .ok (.iconst 3, 1) := lw_dr lw_d_cX3_leastOfAll_0 5 rfl
theorem dX3_leastOfAll_15 : decode cX3_leastOfAll 15 = .ok (.aload_n 1, 1) := lw_dr lw_d_cX3_leastOfAll_0 6 rfl
theorem dX3_leastOfAll_16 : decode cX3_leastOfAll 16 = .ok (.getfield 77, 3) := lw_dr lw_d_cX3_leastOfAll_0 7 rfl
theorem dX3_leastOfAll_19 : decode cX3_leastOfAll 19 = .ok (.imul, 1) := lw_dr lw_d_cX3_leastOfAll_0 8 rfl
theorem dX3_leastOfAll_20 : decode cX3_leastOfAll 20 = .ok (.istore_n 2, 1) := lw_dr lw_d_cX3_leastOfAll_0 9 rfl
theorem dX3_leastOfAll_21 : decode cX3_leastOfAll 21 = .ok (.aload_n 0, 1) := lw_dr lw_d_cX3_leastOfAll_0 10 rfl
theorem dX3_leastOfAll_22 : decode cX3_leastOfAll 22 = .ok (.getfield 12, 3) := lw_dr lw_d_cX3_leastOfAll_0 11 rfl
theorem dX3_leastOfAll_25 : decode cX3_leastOfAll 25 = .ok (.aload_n 1, 1) := lw_dr lw_d_cX3_leastOfAll_0 12 rfl
theorem dX3_leastOfAll_26 : decode cX3_leastOfAll 26 = .ok (.invokevirtual 51, 3) := lw_dr lw_d_cX3_leastOfAll_0 13 rfl
theorem dX3_leastOfAll_29 : decode cX3_leastOfAll 29 = .ok (.aload_n 0, 1) := lw_dr lw_d_cX3_leastOfAll_0 14 rfl
theorem dX3_leastOfAll_30 : decode cX3_leastOfAll 30 = .ok (.getfield 12, 3) := lw_dr lw_d_cX3_leastOfAll_0 15 rfl
theorem dX3_leastOfAll_33 : decode cX3_leastOfAll 33 = .ok (.iconst 1, 1) := lw_dr lw_d_cX3_leastOfAll_0 16 rfl
theorem dX3_leastOfAll_34 : decode cX3_leastOfAll 34 = .ok (.iload_n 2, 1) := lw_dr lw_d_cX3_leastOfAll_0 17 rfl
theorem dX3_leastOfAll_35 : decode cX3_leastOfAll 35 = .ok (.isub, 1) := lw_dr lw_d_cX3_leastOfAll_0 18 rfl
theorem dX3_leastOfAll_36 : decode cX3_leastOfAll 36 = .ok (.iconst 2, 1) := lw_dr lw_d_cX3_leastOfAll_0 19 rfl
theorem dX3_leastOfAll_37 : decode cX3_leastOfAll 37 = .ok (.iload_n 2, 1) := lw_dr lw_d_cX3_leastOfAll_0 20 rfl
theorem dX3_leastOfAll_38 : decode cX3_leastOfAll 38 = .ok (.invokevirtual 116, 3) := lw_dr lw_d_cX3_leastOfAll_0 21 rfl
theorem dX3_leastOfAll_41 : decode cX3_leastOfAll 41 = .ok (.aload_n 0, 1) := lw_dr lw_d_cX3_leastOfAll_0 22 rfl
theorem dX3_leastOfAll_42 : decode cX3_leastOfAll 42 = .ok (.getfield 12, 3) := lw_dr lw_d_cX3_leastOfAll_0 23 rfl
theorem dX3_leastOfAll_45 : decode cX3_leastOfAll 45 = .ok (.invokevirtual 86, 3) := lw_dr lw_d_cX3_leastOfAll_0 24 rfl
theorem dX3_leastOfAll_48 : decode cX3_leastOfAll 48 = .ok (.aload_n 1, 1) := lw_dr lw_d_cX3_leastOfAll_0 25 rfl
theorem dX3_leastOfAll_49 : decode cX3_leastOfAll 49 = .ok (.invokestatic 120, 3) := lw_dr lw_d_cX3_leastOfAll_0 26 rfl
theorem dX3_leastOfAll_52 : decode cX3_leastOfAll 52 = .ok (.lstore_n 3, 1) := lw_dr lw_d_cX3_leastOfAll_0 27 rfl
theorem dX3_leastOfAll_53 : decode cX3_leastOfAll 53 = .ok (.aload_n 1, 1) := lw_dr lw_d_cX3_leastOfAll_0 28 rfl
theorem dX3_leastOfAll_54 : decode cX3_leastOfAll 54 = .ok (.getfield 77, 3) := lw_dr lw_d_cX3_leastOfAll_0 29 rfl
theorem dX3_leastOfAll_57 : decode cX3_leastOfAll 57 = .ok (.iconst 2, 1) := lw_dr lw_d_cX3_leastOfAll_0 30 rfl
theorem dX3_leastOfAll_58 : decode cX3_leastOfAll 58 = .ok (.irem, 1) := lw_dr lw_d_cX3_leastOfAll_0 31 rfl
theorem dX3_leastOfAll_59 : decode cX3_leastOfAll 59 = .ok (.iconst 1, 1) := lw_dr lw_d_cX3_leastOfAll_0 32 rfl
theorem dX3_leastOfAll_60 : decode cX3_leastOfAll 60 = .ok (.if_icmp .ne 7, 3) := lw_dr lw_d_cX3_leastOfAll_0 33 rfl
theorem dX3_leastOfAll_67 : decode cX3_leastOfAll 67 = .ok (.ldc2_w 89, 3) := lw_dr lw_d_cX3_leastOfAll_0 34 rfl
theorem dX3_leastOfAll_70 : decode cX3_leastOfAll 70 = .ok (.lstore 5, 2) := lw_dr lw_d_cX3_leastOfAll_0 35 rfl
theorem dX3_leastOfAll_72 : decode cX3_leastOfAll 72 = .ok (.aload_n 0, 1) := lw_dr lw_d_cX3_leastOfAll_0 36 rfl
theorem dX3_leastOfAll_73 : decode cX3_leastOfAll 73 = .ok (.getfield 12, 3) := lw_dr lw_d_cX3_leastOfAll_0 37 rfl
theorem dX3_leastOfAll_76 : decode cX3_leastOfAll 76 = .ok (.invokevirtual 91, 3) := lw_dr lw_d_cX3_leastOfAll_0 38 rfl
theorem dX3_leastOfAll_79 : decode cX3_leastOfAll 79 = .ok (.iconst 1, 1) := lw_dr lw_d_cX3_leastOfAll_0 39 rfl
theorem lw_d_cX3_leastOfAll_80 : lw_dl cX3_leastOfAll [(80, .iadd, 1), (81, .iconst 2, 1), (82, .idiv, 1), (83, .istore 7, 2), (85, .iconst 0, 1), (86, .istore 8, 2), (88, .iload 8, 2), (90, .iload 7, 2), (92, .if_icmp .ge 45, 3), (137, .aload_n 0, 1), (138, .lload 5, 2), (140, .putfield 45, 3), (143, .lload 5, 2), (145, .lreturn, 1), (95, .lload 5, 2), (97, .lload_n 3, 1), (98, .lcmp, 1), (99, .ifCond .le 38, 3), (102, .lload 5, 2), (104, .aload_n 0, 1), (105, .getfield 12, 3), (108, .aload_n 0, 1), (109, .getfield 12, 3), (112, .iload_n 2, 1), (113, .invokevirtual 95, 3), (116, .invokevirtual 99, 3), (119, .invokestatic 124, 3), (122, .lstore 5, 2), (124, .aload_n 0, 1), (125, .getfield 12, 3), (128, .invokevirtual 107, 3), (131, .iinc 8 1, 3), (134, .goto (-46), 3), (63, .lconst 0, 1), (64, .goto 6, 3), (9, .aload_n 0, 1), (10, .getfield 45, 3), (13, .lreturn, 1)] = true := by decide +kernel
theorem dX3_leastOfAll_80 : decode cX3_leastOfAll 80 = .ok (.iadd, 1) := lw_dr lw_d_cX3_leastOfAll_80 0 rfl
theorem dX3_leastOfAll_81 : decode cX3_leastOfAll 81 = .ok (.iconst 2, 1) := lw_dr lw_d_cX3_leastOfAll_80 1 rfl
theorem dX3_leastOfAll_82 : decode cX3_leastOfAll 82 = .ok (.idiv, 1) := lw_dr lw_d_cX3_leastOfAll_80 2 rfl
theorem dX3_leastOfAll_83 : decode cX3_leastOfAll 83 = .ok (.istore 7, 2) := lw_dr lw_d_cX3_leastOfAll_80 3 rfl
theorem dX3_leastOfAll_85 : decode cX3_leastOfAll 85 = .ok (.iconst 0, 1) := lw_dr lw_d_cX3_leastOfAll_80 4 rfl
theorem dX3_leastOfAll_86 : decode cX3_leastOfAll 86 = .ok (.istore 8, 2) := lw_dr lw_d_cX3_leastOfAll_80 5 rfl
theorem dX3_leastOfAll_88 : decode cX3_leastOfAll 88 = .ok (.iload 8, 2) := lw_dr lw_d_cX3_leastOfAll_80 6 rfl
theorem dX3_leastOfAll_90 : decode cX3_leastOfAll 90 = .ok (.iload 7, 2) := lw_dr lw_d_cX3_leastOfAll_80 7 rfl
theorem dX3_leastOfAll_92 : decode cX3_leastOfAll 92 = .ok (.if_icmp .ge 45, 3) := lw_dr lw_d_cX3_leastOfAll_80 8 rfl
theorem dX3_leastOfAll_137 : decode cX3_leastOfAll 137 = .ok (.aload_n 0, 1) := lw_dr lw_d_cX3_leastOfAll_80 9 rfl
theorem dX3_leastOfAll_138 : decode cX3_leastOfAll 138 = .ok (.lload 5, 2) := lw_dr lw_d_cX3_leastOfAll_80 10 rfl
theorem dX3_leastOfAll_140 : decode cX3_leastOfAll 140 = .ok (.putfield 45, 3) := lw_dr lw_d_cX3_leastOfAll_80 11 rfl
theorem dX3_leastOfAll_143 : decode cX3_leastOfAll 143 = .ok (.lload 5, 2) := lw_dr lw_d_cX3_leastOfAll_80 12 rfl
theorem dX3_leastOfAll_145 : decode cX3_leastOfAll 145 = .ok (.lreturn, 1) := lw_dr lw_d_cX3_leastOfAll_80 13 rfl
theorem dX3_leastOfAll_95 : decode cX3_leastOfAll 95 = .ok (.lload 5, 2) := lw_dr lw_d_cX3_leastOfAll_80 14 rfl
theorem dX3_leastOfAll_97 : decode cX3_leastOfAll 97 = .ok (.lload_n 3, 1) := lw_dr lw_d_cX3_leastOfAll_80 15 rfl
theorem dX3_leastOfAll_98 : decode cX3_leastOfAll 98 = .ok (.lcmp, 1) := lw_dr lw_d_cX3_leastOfAll_80 16 rfl
theorem dX3_leastOfAll_99 : decode cX3_leastOfAll 99 = .ok (.ifCond .le 38, 3) := lw_dr lw_d_cX3_leastOfAll_80 17 rfl
theorem dX3_leastOfAll_102 : decode cX3_leastOfAll 102 = .ok (.lload 5, 2) := lw_dr lw_d_cX3_leastOfAll_80 18 rfl
theorem dX3_leastOfAll_104 : decode cX3_leastOfAll 104 = .ok (.aload_n 0, 1) := lw_dr lw_d_cX3_leastOfAll_80 19 rfl
theorem dX3_leastOfAll_105 : decode cX3_leastOfAll 105 = .ok (.getfield 12, 3) := lw_dr lw_d_cX3_leastOfAll_80 20 rfl
theorem dX3_leastOfAll_108 : decode cX3_leastOfAll 108 = .ok (.aload_n 0, 1) := lw_dr lw_d_cX3_leastOfAll_80 21 rfl
theorem dX3_leastOfAll_109 : decode cX3_leastOfAll 109 = .ok (.getfield 12, 3) := lw_dr lw_d_cX3_leastOfAll_80 22 rfl
theorem dX3_leastOfAll_112 : decode cX3_leastOfAll 112 = .ok (.iload_n 2, 1) := lw_dr lw_d_cX3_leastOfAll_80 23 rfl
theorem dX3_leastOfAll_113 : decode cX3_leastOfAll 113 = .ok (.invokevirtual 95, 3) := lw_dr lw_d_cX3_leastOfAll_80 24 rfl
theorem dX3_leastOfAll_116 : decode cX3_leastOfAll 116 = .ok (.invokevirtual 99, 3) := lw_dr lw_d_cX3_leastOfAll_80 25 rfl
theorem dX3_leastOfAll_119 : decode cX3_leastOfAll 119 = .ok (.invokestatic 124, 3) := lw_dr lw_d_cX3_leastOfAll_80 26 rfl
theorem dX3_leastOfAll_122 : decode cX3_leastOfAll 122 = .ok (.lstore 5, 2) := lw_dr lw_d_cX3_leastOfAll_80 27 rfl
theorem dX3_leastOfAll_124 : decode cX3_leastOfAll 124 = .ok (.aload_n 0, 1) := lw_dr lw_d_cX3_leastOfAll_80 28 rfl
theorem dX3_leastOfAll_125 : decode cX3_leastOfAll 125 = .ok (.getfield 12, 3) := lw_dr lw_d_cX3_leastOfAll_80 29 rfl
theorem dX3_leastOfAll_128 : decode cX3_leastOfAll 128 = .ok (.invokevirtual 107, 3) := lw_dr lw_d_cX3_leastOfAll_80 30 rfl
theorem dX3_leastOfAll_131 : decode cX3_leastOfAll 131 = .ok (.iinc 8 1, 3) := lw_dr lw_d_cX3_leastOfAll_80 31 rfl
theorem dX3_leastOfAll_134 : decode cX3_leastOfAll 134 = .ok (.goto (-46), 3) := lw_dr lw_d_cX3_leastOfAll_80 32 rfl
theorem dX3_leastOfAll_63 : decode cX3_leastOfAll 63 = .ok (.lconst 0, 1) := lw_dr lw_d_cX3_leastOfAll_80 33 rfl
theorem dX3_leastOfAll_64 : decode cX3_leastOfAll 64 = .ok (.goto 6, 3) := lw_dr lw_d_cX3_leastOfAll_80 34 rfl
theorem dX3_leastOfAll_9 : decode cX3_leastOfAll 9 = .ok (.aload_n 0, 1) := lw_dr lw_d_cX3_leastOfAll_80 35 rfl
theorem dX3_leastOfAll_10 : decode cX3_leastOfAll 10 = .ok (.getfield 45, 3) := lw_dr lw_d_cX3_leastOfAll_80 36 rfl
theorem dX3_leastOfAll_13 : decode cX3_leastOfAll 13 = .ok (.lreturn, 1) := lw_dr lw_d_cX3_leastOfAll_80 37 rfl
theorem lw_d_cX3_leastThinkable_0 : lw_dl cX3_leastThinkable [(0, .iconst 0, 1), (1, .istore_n 1, 1), (2, .iconst 0, 1), (3, .istore_n 2, 1), (4, .iload_n 2, 1), (5, .aload_n 0, 1), (6, .getfield 130, 3), (9, .if_icmp .ge 57, 3), (66, .iload_n 1, 1), (67, .i2l, 1), (68, .lreturn, 1), (12, .aload_n 0, 1), (13, .getfield 77, 3), (16, .iconst 2, 1), (17, .irem, 1), (18, .ifCond .ne 48, 3), (21, .iconst 0, 1), (22, .istore_n 3, 1), (23, .iconst 0, 1), (24, .istore 4, 2), (26, .iload 4, 2), (28, .aload_n 0, 1), (29, .getfield 79, 3), (32, .if_icmp .ge 22, 3), (54, .iload_n 1, 1), (55, .iload_n 3, 1), (56, .iconst 1, 1), (57, .iand, 1), (58, .iadd, 1), (59, .istore_n 1, 1), (60, .iinc 2 1, 3), (63, .goto (-59), 3), (35, .iload_n 3, 1), (36, .aload_n 0, 1), (37, .getfield 133, 3), (40, .iload_n 2, 1), (41, .iload 4, 2), (43, .invokevirtual 137, 3), (46, .iadd, 1), (47, .istore_n 3, 1)] = true := by decide +kernel
theorem dX3_leastThinkable_0 : decode cX3_leastThinkable 0 = .ok (.iconst 0, 1) := lw_dr lw_d_cX3_leastThinkable_0 0 rfl
theorem dX3_leastThinkable_1 : decode cX3_leastThinkable 1 = .ok (.istore_n 1, 1) := lw_dr lw_d_cX3_leastThinkable_0 1 rfl
theorem dX3_leastThinkable_2 : decode cX3_leastThinkable 2 = .ok (.iconst 0, 1) := lw_dr lw_d_cX3_leastThinkable_0 2 rfl
theorem dX3_leastThinkable_3 : decode cX3_leastThinkable 3 = .ok (.istore_n 2, 1) := lw_dr lw_d_cX3_leastThinkable_0 3 rfl
theorem dX3_leastThinkable_4 : decode cX3_leastThinkable 4 = .ok (.iload_n 2, 1) := lw_dr lw_d_cX3_leastThinkable_0 4 rfl
theorem dX3_leastThinkable_5 : decode cX3_leastThinkable 5 = .ok (.aload_n 0, 1) := lw_dr lw_d_cX3_leastThinkable_0 5 rfl
theorem dX3_leastThinkable_6 : decode cX3_leastThinkable 6 = .ok (.getfield 130, 3) := lw_dr lw_d_cX3_leastThinkable_0 6 rfl
theorem dX3_leastThinkable_9 : decode cX3_leastThinkable 9 = .ok (.if_icmp .ge 57, 3) := lw_dr lw_d_cX3_leastThinkable_0 7 rfl
theorem dX3_leastThinkable_66 : decode cX3_leastThinkable 66 = .ok (.iload_n 1, 1) := lw_dr lw_d_cX3_leastThinkable_0 8 rfl
theorem dX3_leastThinkable_67 : decode cX3_leastThinkable 67 = .ok (.i2l, 1) := lw_dr lw_d_cX3_leastThinkable_0 9 rfl
theorem dX3_leastThinkable_68 : decode cX3_leastThinkable 68 = .ok (.lreturn, 1) := lw_dr lw_d_cX3_leastThinkable_0 10 rfl
theorem dX3_leastThinkable_12 : decode cX3_leastThinkable 12 = .ok (.aload_n 0, 1) := lw_dr lw_d_cX3_leastThinkable_0 11 rfl
theorem dX3_leastThinkable_13 : decode cX3_leastThinkable 13 = .ok (.getfield 77, 3) := lw_dr lw_d_cX3_leastThinkable_0 12 rfl
theorem dX3_leastThinkable_16 : decode cX3_leastThinkable 16 = .ok (.iconst 2, 1) := lw_dr lw_d_cX3_leastThinkable_0 13 rfl
theorem dX3_leastThinkable_17 : decode cX3_leastThinkable 17 = .ok (.irem, 1) := lw_dr lw_d_cX3_leastThinkable_0 14 rfl
theorem dX3_leastThinkable_18 : decode cX3_leastThinkable 18 = .ok (.ifCond .ne 48, 3) := lw_dr lw_d_cX3_leastThinkable_0 15 rfl
theorem dX3_leastThinkable_21 : decode cX3_leastThinkable 21 = .ok (.iconst 0, 1) := lw_dr lw_d_cX3_leastThinkable_0 16 rfl
theorem dX3_leastThinkable_22 : decode cX3_leastThinkable 22 = .ok (.istore_n 3, 1) := lw_dr lw_d_cX3_leastThinkable_0 17 rfl
theorem dX3_leastThinkable_23 : decode cX3_leastThinkable 23 = .ok (.iconst 0, 1) := lw_dr lw_d_cX3_leastThinkable_0 18 rfl
theorem dX3_leastThinkable_24 : decode cX3_leastThinkable 24 = .ok (.istore 4, 2) := lw_dr lw_d_cX3_leastThinkable_0 19 rfl
theorem dX3_leastThinkable_26 : decode cX3_leastThinkable 26 = .ok (.iload 4, 2) := lw_dr lw_d_cX3_leastThinkable_0 20 rfl
theorem dX3_leastThinkable_28 : decode cX3_leastThinkable 28 = .ok (.aload_n 0, 1) := lw_dr lw_d_cX3_leastThinkable_0 21 rfl
theorem dX3_leastThinkable_29 : decode cX3_leastThinkable 29 = .ok (.getfield 79, 3) := lw_dr lw_d_cX3_leastThinkable_0 22 rfl
theorem dX3_leastThinkable_32 : decode cX3_leastThinkable 32 = .ok (.if_icmp .ge 22, 3) := lw_dr lw_d_cX3_leastThinkable_0 23 rfl
theorem dX3_leastThinkable_54 : decode cX3_leastThinkable 54 = .ok (.iload_n 1, 1) := lw_dr lw_d_cX3_leastThinkable_0 24 rfl
theorem dX3_leastThinkable_55 : decode cX3_leastThinkable 55 = .ok (.iload_n 3, 1) := lw_dr lw_d_cX3_leastThinkable_0 25 rfl
theorem dX3_leastThinkable_56 : decode cX3_leastThinkable 56 = .ok (.iconst 1, 1) := lw_dr lw_d_cX3_leastThinkable_0 26 rfl
theorem dX3_leastThinkable_57 : decode cX3_leastThinkable 57 = .ok (.iand, 1) := lw_dr lw_d_cX3_leastThinkable_0 27 rfl
theorem dX3_leastThinkable_58 : decode cX3_leastThinkable 58 = .ok (.iadd, 1) := lw_dr lw_d_cX3_leastThinkable_0 28 rfl
theorem dX3_leastThinkable_59 : decode cX3_leastThinkable 59 = .ok (.istore_n 1, 1) := lw_dr lw_d_cX3_leastThinkable_0 29 rfl
theorem dX3_leastThinkable_60 : decode cX3_leastThinkable 60 = .ok (.iinc 2 1, 3) := lw_dr lw_d_cX3_leastThinkable_0 30 rfl
theorem dX3_leastThinkable_63 : decode cX3_leastThinkable 63 = .ok (.goto (-59), 3) := lw_dr lw_d_cX3_leastThinkable_0 31 rfl
theorem dX3_leastThinkable_35 : decode cX3_leastThinkable 35 = .ok (.iload_n 3, 1) := lw_dr lw_d_cX3_leastThinkable_0 32 rfl
theorem dX3_leastThinkable_36 : decode cX3_leastThinkable 36 = .ok (.aload_n 0, 1) := lw_dr lw_d_cX3_leastThinkable_0 33 rfl
theorem dX3_leastThinkable_37 : decode cX3_leastThinkable 37 = .ok (.getfield 133, 3) := lw_dr lw_d_cX3_leastThinkable_0 34 rfl
theorem dX3_leastThinkable_40 : decode cX3_leastThinkable 40 = .ok (.iload_n 2, 1) := lw_dr lw_d_cX3_leastThinkable_0 35 rfl
theorem dX3_leastThinkable_41 : decode cX3_leastThinkable 41 = .ok (.iload 4, 2) := lw_dr lw_d_cX3_leastThinkable_0 36 rfl
theorem dX3_leastThinkable_43 : decode cX3_leastThinkable 43 = .ok (.invokevirtual 137, 3) := lw_dr lw_d_cX3_leastThinkable_0 37 rfl
theorem dX3_leastThinkable_46 : decode cX3_leastThinkable 46 = .ok (.iadd, 1) := lw_dr lw_d_cX3_leastThinkable_0 38 rfl
theorem dX3_leastThinkable_47 : decode cX3_leastThinkable 47 = .ok (.istore_n 3, 1) := lw_dr lw_d_cX3_leastThinkable_0 39 rfl
theorem lw_d_cX3_leastThinkable_48 : lw_dl cX3_leastThinkable [(48, .iinc 4 1, 3), (51, .goto (-25), 3)] = true := by decide +kernel
theorem dX3_leastThinkable_48 : decode cX3_leastThinkable 48 = .ok (.iinc 4 1, 3) := lw_dr lw_d_cX3_leastThinkable_48 0 rfl
theorem dX3_leastThinkable_51 : decode cX3_leastThinkable 51 = .ok (.goto (-25), 3) := lw_dr lw_d_cX3_leastThinkable_48 1 rfl
theorem lw_d_cX3_putAhead_0 : lw_dl cX3_putAhead [(0, .aload_n 0, 1), (1, .getfield 12, 3), (4, .aload_n 1, 1), (5, .invokevirtual 51, 3), (8, .aload_n 0, 1), (9, .aload_n 1, 1), (10, .aload_n 2, 1), (11, .ldc2_w 43, 3), (14, .invokevirtual 55, 3), (17, .lstore_n 3, 1), (18, .lload_n 3, 1), (19, .ldc2_w 59, 3), (22, .aload_n 1, 1), (23, .getfield 61, 3), (26, .i2l, 1), (27, .lmul, 1), (28, .lcmp, 1)] = true := by decide +kernel
theorem dX3_putAhead_0 : decode cX3_putAhead 0 = .ok (.aload_n 0, 1) := lw_dr lw_d_cX3_putAhead_0 0 rfl
theorem dX3_putAhead_1 : decode cX3_putAhead 1 = .ok (.getfield 12, 3) := lw_dr lw_d_cX3_putAhead_0 1 rfl
theorem dX3_putAhead_4 : decode cX3_putAhead 4 = .ok (.aload_n 1, 1) := lw_dr lw_d_cX3_putAhead_0 2 rfl
theorem dX3_putAhead_5 : decode cX3_putAhead 5 = .ok (.invokevirtual 51, 3) := lw_dr lw_d_cX3_putAhead_0 3 rfl
theorem dX3_putAhead_8 : decode cX3_putAhead 8 = .ok (.aload_n 0, 1) := lw_dr lw_d_cX3_putAhead_0 4 rfl
theorem dX3_putAhead_9 : decode cX3_putAhead 9 = .ok (.aload_n 1, 1) := lw_dr lw_d_cX3_putAhead_0 5 rfl
theorem dX3_putAhead_10 : decode cX3_putAhead 10 = .ok (.aload_n 2, 1) := lw_dr lw_d_cX3_putAhead_0 6 rfl
theorem dX3_putAhead_11 : decode cX3_putAhead 11 = .ok (.ldc2_w 43, 3) := lw_dr lw_d_cX3_putAhead_0 7 rfl
theorem dX3_putAhead_14 : decode cX3_putAhead 14 = .ok (.invokevirtual 55, 3) := lw_dr lw_d_cX3_putAhead_0 8 rfl
theorem dX3_putAhead_17 : decode cX3_putAhead 17 = .ok (.lstore_n 3, 1) := lw_dr lw_d_cX3_putAhead_0 9 rfl
theorem dX3_putAhead_18 : decode cX3_putAhead 18 = .ok (.lload_n 3, 1) := lw_dr lw_d_cX3_putAhead_0 10 rfl
theorem dX3_putAhead_19 : decode cX3_putAhead 19 = .ok (.ldc2_w 59, 3) := lw_dr lw_d_cX3_putAhead_0 11 rfl
theorem dX3_putAhead_22 : decode cX3_putAhead 22 = .ok (.aload_n 1, 1) := lw_dr lw_d_cX3_putAhead_0 12 rfl
theorem dX3_putAhead_23 : decode cX3_putAhead 23 = .ok (.getfield 61, 3) := lw_dr lw_d_cX3_putAhead_0 13 rfl
theorem dX3_putAhead_26 : decode cX3_putAhead 26 = .ok (.i2l, 1) := lw_dr lw_d_cX3_putAhead_0 14 rfl
theorem dX3_putAhead_27 : decode cX3_putAhead 27 = .ok (.lmul, 1) := lw_dr lw_d_cX3_putAhead_0 15 rfl
theorem dX3_putAhead_28 : decode cX3_putAhead 28 = .ok (.lcmp, 1) := lw_dr lw_d_cX3_putAhead_0 16 rfl
