def lw_dl (c : ByteArray) (l : List (Nat × Instr × Nat)) : Bool := l.all (fun q => decide (decode c q.1 = .ok (q.2.1, q.2.2)))
theorem lw_dr {c : ByteArray} {l : List (Nat × Instr × Nat)} (h : lw_dl c l = true) (k : Nat) {pc : Nat} {i : Instr} {n : Nat} (hk : l[k]? = some (pc, i, n)) : decode c pc = .ok (i, n) := by
  simp only [lw_dl, List.all_eq_true, decide_eq_true_eq] at h
  exact h (pc, i, n) (List.mem_of_getElem? hk)
theorem dX9_hasRoom_0 : decode cX9_hasRoom 0 = .ok (.aload_n 0, 1) := dq_42 (by decide +kernel)
theorem dX9_hasRoom_1 : decode cX9_hasRoom 1 = .ok (.getfield 15, 3) := dq_180 (a := 0) (b := 15) (by decide +kernel) rfl
theorem dX9_hasRoom_4 : decode cX9_hasRoom 4 = .ok (.iload_n 1, 1) := dq_27 (by decide +kernel)
theorem dX9_hasRoom_5 : decode cX9_hasRoom 5 = .ok (.iadd, 1) := dq_96 (by decide +kernel)
theorem dX9_hasRoom_6 : decode cX9_hasRoom 6 = .ok (.sipush 1600, 3) := dq_17 (a := 6) (b := 64) (by decide +kernel) (by decide +kernel)
theorem dX9_hasRoom_9 : decode cX9_hasRoom 9 = .ok (.if_icmp .gt 7, 3) := dq_163 (a := 0) (b := 7) (by decide +kernel) (by decide +kernel)
theorem dX9_hasRoom_16 : decode cX9_hasRoom 16 = .ok (.iconst 0, 1) := dq_3 (by decide +kernel)
theorem dX9_hasRoom_17 : decode cX9_hasRoom 17 = .ok (.ireturn, 1) := dq_172 (by decide +kernel)
theorem dX9_hasRoom_12 : decode cX9_hasRoom 12 = .ok (.iconst 1, 1) := dq_4 (by decide +kernel)
theorem dX9_hasRoom_13 : decode cX9_hasRoom 13 = .ok (.goto 4, 3) := dq_167 (a := 0) (b := 4) (by decide +kernel) (by decide +kernel)
theorem dX9_addNumber_0 : decode cX9_addNumber 0 = .ok (.bipush 24, 2) := dq_16 (a := 24) (by decide +kernel) (by decide +kernel)
theorem dX9_addNumber_2 : decode cX9_addNumber 2 = .ok (.istore_n 2, 1) := dq_61 (by decide +kernel)
theorem dX9_addNumber_3 : decode cX9_addNumber 3 = .ok (.iload_n 2, 1) := dq_28 (by decide +kernel)
theorem dX9_addNumber_4 : decode cX9_addNumber 4 = .ok (.ifCond .lt 42, 3) := dq_155 (a := 0) (b := 42) (by decide +kernel) (by decide +kernel)
theorem dX9_addNumber_7 : decode cX9_addNumber 7 = .ok (.aload_n 0, 1) := dq_42 (by decide +kernel)
theorem dX9_addNumber_8 : decode cX9_addNumber 8 = .ok (.getfield 15, 3) := dq_180 (a := 0) (b := 15) (by decide +kernel) rfl
theorem dX9_addNumber_11 : decode cX9_addNumber 11 = .ok (.sipush 1600, 3) := dq_17 (a := 6) (b := 64) (by decide +kernel) (by decide +kernel)
theorem dX9_addNumber_14 : decode cX9_addNumber 14 = .ok (.if_icmp .ge 32, 3) := dq_162 (a := 0) (b := 32) (by decide +kernel) (by decide +kernel)
theorem dX9_addNumber_46 : decode cX9_addNumber 46 = .ok (.return_, 1) := dq_177 (by decide +kernel)
theorem dX9_addNumber_17 : decode cX9_addNumber 17 = .ok (.aload_n 0, 1) := dq_42 (by decide +kernel)
theorem dX9_addNumber_18 : decode cX9_addNumber 18 = .ok (.getfield 9, 3) := dq_180 (a := 0) (b := 9) (by decide +kernel) rfl
theorem dX9_addNumber_21 : decode cX9_addNumber 21 = .ok (.aload_n 0, 1) := dq_42 (by decide +kernel)
theorem dX9_addNumber_22 : decode cX9_addNumber 22 = .ok (.getfield 15, 3) := dq_180 (a := 0) (b := 15) (by decide +kernel) rfl
theorem dX9_addNumber_25 : decode cX9_addNumber 25 = .ok (.iload_n 1, 1) := dq_27 (by decide +kernel)
theorem dX9_addNumber_26 : decode cX9_addNumber 26 = .ok (.iload_n 2, 1) := dq_28 (by decide +kernel)
theorem dX9_addNumber_27 : decode cX9_addNumber 27 = .ok (.ishr, 1) := dq_122 (by decide +kernel)
theorem dX9_addNumber_28 : decode cX9_addNumber 28 = .ok (.i2b, 1) := dq_145 (by decide +kernel)
theorem dX9_addNumber_29 : decode cX9_addNumber 29 = .ok (.bastore, 1) := dq_84 (by decide +kernel)
theorem dX9_addNumber_30 : decode cX9_addNumber 30 = .ok (.aload_n 0, 1) := dq_42 (by decide +kernel)
theorem dX9_addNumber_31 : decode cX9_addNumber 31 = .ok (.dup, 1) := dq_89 (by decide +kernel)
theorem dX9_addNumber_32 : decode cX9_addNumber 32 = .ok (.getfield 15, 3) := dq_180 (a := 0) (b := 15) (by decide +kernel) rfl
theorem dX9_addNumber_35 : decode cX9_addNumber 35 = .ok (.iconst 1, 1) := dq_4 (by decide +kernel)
theorem dX9_addNumber_36 : decode cX9_addNumber 36 = .ok (.iadd, 1) := dq_96 (by decide +kernel)
theorem dX9_addNumber_37 : decode cX9_addNumber 37 = .ok (.putfield 15, 3) := dq_181 (a := 0) (b := 15) (by decide +kernel) rfl
theorem dX9_addNumber_40 : decode cX9_addNumber 40 = .ok (.iinc 2 (-8), 3) := dq_132 (a := 2) (b := 248) (by decide +kernel) rfl (by decide +kernel)
theorem dX9_addNumber_43 : decode cX9_addNumber 43 = .ok (.goto (-40), 3) := dq_167 (a := 255) (b := 216) (by decide +kernel) (by decide +kernel)
theorem dX9_length_0 : decode cX9_length 0 = .ok (.aload_n 0, 1) := dq_42 (by decide +kernel)
theorem dX9_length_1 : decode cX9_length 1 = .ok (.getfield 15, 3) := dq_180 (a := 0) (b := 15) (by decide +kernel) rfl
theorem dX9_length_4 : decode cX9_length 4 = .ok (.ireturn, 1) := dq_172 (by decide +kernel)
theorem dX9_cutTo_0 : decode cX9_cutTo 0 = .ok (.aload_n 0, 1) := dq_42 (by decide +kernel)
theorem dX9_cutTo_1 : decode cX9_cutTo 1 = .ok (.iload_n 1, 1) := dq_27 (by decide +kernel)
theorem dX9_cutTo_2 : decode cX9_cutTo 2 = .ok (.putfield 15, 3) := dq_181 (a := 0) (b := 15) (by decide +kernel) rfl
theorem dX9_cutTo_5 : decode cX9_cutTo 5 = .ok (.return_, 1) := dq_177 (by decide +kernel)
theorem dX9_at_0 : decode cX9_at 0 = .ok (.iload_n 1, 1) := dq_27 (by decide +kernel)
theorem dX9_at_1 : decode cX9_at 1 = .ok (.ifCond .lt 24, 3) := dq_155 (a := 0) (b := 24) (by decide +kernel) (by decide +kernel)
theorem dX9_at_25 : decode cX9_at 25 = .ok (.iconst (-1), 1) := dq_2 (by decide +kernel)
theorem dX9_at_26 : decode cX9_at 26 = .ok (.ireturn, 1) := dq_172 (by decide +kernel)
theorem dX9_at_4 : decode cX9_at 4 = .ok (.iload_n 1, 1) := dq_27 (by decide +kernel)
theorem dX9_at_5 : decode cX9_at 5 = .ok (.aload_n 0, 1) := dq_42 (by decide +kernel)
theorem dX9_at_6 : decode cX9_at 6 = .ok (.getfield 15, 3) := dq_180 (a := 0) (b := 15) (by decide +kernel) rfl
theorem dX9_at_9 : decode cX9_at 9 = .ok (.if_icmp .ge 16, 3) := dq_162 (a := 0) (b := 16) (by decide +kernel) (by decide +kernel)
theorem dX9_at_12 : decode cX9_at 12 = .ok (.aload_n 0, 1) := dq_42 (by decide +kernel)
theorem dX9_at_13 : decode cX9_at 13 = .ok (.getfield 9, 3) := dq_180 (a := 0) (b := 9) (by decide +kernel) rfl
theorem dX9_at_16 : decode cX9_at 16 = .ok (.iload_n 1, 1) := dq_27 (by decide +kernel)
theorem dX9_at_17 : decode cX9_at 17 = .ok (.baload, 1) := dq_51 (by decide +kernel)
theorem dX9_at_18 : decode cX9_at 18 = .ok (.sipush 255, 3) := dq_17 (a := 0) (b := 255) (by decide +kernel) (by decide +kernel)
theorem dX9_at_21 : decode cX9_at 21 = .ok (.iand, 1) := dq_126 (by decide +kernel)
theorem dX9_at_22 : decode cX9_at 22 = .ok (.goto 4, 3) := dq_167 (a := 0) (b := 4) (by decide +kernel) (by decide +kernel)
theorem dX9_shortAt_0 : decode cX9_shortAt 0 = .ok (.aload_n 0, 1) := dq_42 (by decide +kernel)
theorem dX9_shortAt_1 : decode cX9_shortAt 1 = .ok (.iload_n 1, 1) := dq_27 (by decide +kernel)
theorem dX9_shortAt_2 : decode cX9_shortAt 2 = .ok (.invokevirtual 19, 3) := dq_182 (a := 0) (b := 19) (by decide +kernel) rfl
theorem dX9_shortAt_5 : decode cX9_shortAt 5 = .ok (.bipush 8, 2) := dq_16 (a := 8) (by decide +kernel) (by decide +kernel)
theorem dX9_shortAt_7 : decode cX9_shortAt 7 = .ok (.ishl, 1) := dq_120 (by decide +kernel)
theorem dX9_shortAt_8 : decode cX9_shortAt 8 = .ok (.aload_n 0, 1) := dq_42 (by decide +kernel)
theorem dX9_shortAt_9 : decode cX9_shortAt 9 = .ok (.iload_n 1, 1) := dq_27 (by decide +kernel)
theorem dX9_shortAt_10 : decode cX9_shortAt 10 = .ok (.iconst 1, 1) := dq_4 (by decide +kernel)
theorem dX9_shortAt_11 : decode cX9_shortAt 11 = .ok (.iadd, 1) := dq_96 (by decide +kernel)
theorem dX9_shortAt_12 : decode cX9_shortAt 12 = .ok (.invokevirtual 19, 3) := dq_182 (a := 0) (b := 19) (by decide +kernel) rfl
theorem dX9_shortAt_15 : decode cX9_shortAt 15 = .ok (.ior, 1) := dq_128 (by decide +kernel)
theorem dX9_shortAt_16 : decode cX9_shortAt 16 = .ok (.i2s, 1) := dq_147 (by decide +kernel)
theorem dX9_shortAt_17 : decode cX9_shortAt 17 = .ok (.ireturn, 1) := dq_172 (by decide +kernel)
theorem dX9_signedAt_0 : decode cX9_signedAt 0 = .ok (.aload_n 0, 1) := dq_42 (by decide +kernel)
theorem dX9_signedAt_1 : decode cX9_signedAt 1 = .ok (.iload_n 1, 1) := dq_27 (by decide +kernel)
theorem dX9_signedAt_2 : decode cX9_signedAt 2 = .ok (.invokevirtual 19, 3) := dq_182 (a := 0) (b := 19) (by decide +kernel) rfl
theorem dX9_signedAt_5 : decode cX9_signedAt 5 = .ok (.i2b, 1) := dq_145 (by decide +kernel)
theorem dX9_signedAt_6 : decode cX9_signedAt 6 = .ok (.ireturn, 1) := dq_172 (by decide +kernel)
theorem dX8_clear_0 : decode cX8_clear 0 = .ok (.aload_n 0, 1) := dq_42 (by decide +kernel)
theorem dX8_clear_1 : decode cX8_clear 1 = .ok (.getfield 9, 3) := dq_180 (a := 0) (b := 9) (by decide +kernel) rfl
theorem dX8_clear_4 : decode cX8_clear 4 = .ok (.iconst 0, 1) := dq_3 (by decide +kernel)
theorem dX8_clear_5 : decode cX8_clear 5 = .ok (.invokestatic 15, 3) := dq_184 (a := 0) (b := 15) (by decide +kernel) rfl
theorem dJ7_fill_53178_0 : decode cJ7_fill_53178 0 = .ok (.iconst 0, 1) := dq_3 (by decide +kernel)
theorem dJ7_fill_53178_1 : decode cJ7_fill_53178 1 = .ok (.istore_n 2, 1) := dq_61 (by decide +kernel)
theorem dJ7_fill_53178_2 : decode cJ7_fill_53178 2 = .ok (.aload_n 0, 1) := dq_42 (by decide +kernel)
theorem dJ7_fill_53178_3 : decode cJ7_fill_53178 3 = .ok (.arraylength, 1) := dq_190 (by decide +kernel)
theorem dJ7_fill_53178_4 : decode cJ7_fill_53178 4 = .ok (.istore_n 3, 1) := dq_62 (by decide +kernel)
theorem dJ7_fill_53178_5 : decode cJ7_fill_53178 5 = .ok (.iload_n 2, 1) := dq_28 (by decide +kernel)
theorem dJ7_fill_53178_6 : decode cJ7_fill_53178 6 = .ok (.iload_n 3, 1) := dq_29 (by decide +kernel)
theorem dJ7_fill_53178_7 : decode cJ7_fill_53178 7 = .ok (.if_icmp .ge 13, 3) := dq_162 (a := 0) (b := 13) (by decide +kernel) (by decide +kernel)
theorem dJ7_fill_53178_10 : decode cJ7_fill_53178 10 = .ok (.aload_n 0, 1) := dq_42 (by decide +kernel)
theorem dJ7_fill_53178_11 : decode cJ7_fill_53178 11 = .ok (.iload_n 2, 1) := dq_28 (by decide +kernel)
theorem dJ7_fill_53178_12 : decode cJ7_fill_53178 12 = .ok (.iload_n 1, 1) := dq_27 (by decide +kernel)
theorem dJ7_fill_53178_13 : decode cJ7_fill_53178 13 = .ok (.iastore, 1) := dq_79 (by decide +kernel)
theorem dJ7_fill_53178_14 : decode cJ7_fill_53178 14 = .ok (.iinc 2 1, 3) := dq_132 (a := 2) (b := 1) (by decide +kernel) rfl (by decide +kernel)
theorem dJ7_fill_53178_17 : decode cJ7_fill_53178 17 = .ok (.goto (-12), 3) := dq_167 (a := 255) (b := 244) (by decide +kernel) (by decide +kernel)
theorem dJ7_fill_53178_20 : decode cJ7_fill_53178 20 = .ok (.return_, 1) := dq_177 (by decide +kernel)
theorem dX8_clear_8 : decode cX8_clear 8 = .ok (.return_, 1) := dq_177 (by decide +kernel)
theorem dX8_setAt_0 : decode cX8_setAt 0 = .ok (.aload_n 0, 1) := dq_42 (by decide +kernel)
theorem dX8_setAt_1 : decode cX8_setAt 1 = .ok (.getfield 9, 3) := dq_180 (a := 0) (b := 9) (by decide +kernel) rfl
theorem dX8_setAt_4 : decode cX8_setAt 4 = .ok (.iload_n 2, 1) := dq_28 (by decide +kernel)
theorem dX8_setAt_5 : decode cX8_setAt 5 = .ok (.bipush 6, 2) := dq_16 (a := 6) (by decide +kernel) (by decide +kernel)
theorem dX8_setAt_7 : decode cX8_setAt 7 = .ok (.imul, 1) := dq_104 (by decide +kernel)
theorem dX8_setAt_8 : decode cX8_setAt 8 = .ok (.iload_n 1, 1) := dq_27 (by decide +kernel)
theorem dX8_setAt_9 : decode cX8_setAt 9 = .ok (.iadd, 1) := dq_96 (by decide +kernel)
theorem dX8_setAt_10 : decode cX8_setAt 10 = .ok (.iload_n 3, 1) := dq_29 (by decide +kernel)
theorem dX8_setAt_11 : decode cX8_setAt 11 = .ok (.iastore, 1) := dq_79 (by decide +kernel)
theorem dX8_setAt_12 : decode cX8_setAt 12 = .ok (.return_, 1) := dq_177 (by decide +kernel)
theorem dX8_copyFrom_0 : decode cX8_copyFrom 0 = .ok (.aload_n 1, 1) := dq_43 (by decide +kernel)
theorem dX8_copyFrom_1 : decode cX8_copyFrom 1 = .ok (.getfield 9, 3) := dq_180 (a := 0) (b := 9) (by decide +kernel) rfl
theorem dX8_copyFrom_4 : decode cX8_copyFrom 4 = .ok (.iconst 0, 1) := dq_3 (by decide +kernel)
theorem dX8_copyFrom_5 : decode cX8_copyFrom 5 = .ok (.aload_n 0, 1) := dq_42 (by decide +kernel)
theorem dX8_copyFrom_6 : decode cX8_copyFrom 6 = .ok (.getfield 9, 3) := dq_180 (a := 0) (b := 9) (by decide +kernel) rfl
theorem dX8_copyFrom_9 : decode cX8_copyFrom 9 = .ok (.iconst 0, 1) := dq_3 (by decide +kernel)
theorem dX8_copyFrom_10 : decode cX8_copyFrom 10 = .ok (.aload_n 0, 1) := dq_42 (by decide +kernel)
theorem dX8_copyFrom_11 : decode cX8_copyFrom 11 = .ok (.getfield 9, 3) := dq_180 (a := 0) (b := 9) (by decide +kernel) rfl
theorem dX8_copyFrom_14 : decode cX8_copyFrom 14 = .ok (.arraylength, 1) := dq_190 (by decide +kernel)
theorem dX8_copyFrom_15 : decode cX8_copyFrom 15 = .ok (.invokestatic 21, 3) := dq_184 (a := 0) (b := 21) (by decide +kernel) rfl
theorem dX8_copyFrom_18 : decode cX8_copyFrom 18 = .ok (.return_, 1) := dq_177 (by decide +kernel)
theorem dX8_at_0 : decode cX8_at 0 = .ok (.aload_n 0, 1) := dq_42 (by decide +kernel)
theorem dX8_at_1 : decode cX8_at 1 = .ok (.getfield 9, 3) := dq_180 (a := 0) (b := 9) (by decide +kernel) rfl
theorem dX8_at_4 : decode cX8_at 4 = .ok (.iload_n 2, 1) := dq_28 (by decide +kernel)
theorem dX8_at_5 : decode cX8_at 5 = .ok (.bipush 6, 2) := dq_16 (a := 6) (by decide +kernel) (by decide +kernel)
theorem dX8_at_7 : decode cX8_at 7 = .ok (.imul, 1) := dq_104 (by decide +kernel)
theorem dX8_at_8 : decode cX8_at 8 = .ok (.iload_n 1, 1) := dq_27 (by decide +kernel)
theorem dX8_at_9 : decode cX8_at 9 = .ok (.iadd, 1) := dq_96 (by decide +kernel)
theorem dX8_at_10 : decode cX8_at 10 = .ok (.iaload, 1) := dq_46 (by decide +kernel)
theorem dX8_at_11 : decode cX8_at 11 = .ok (.ireturn, 1) := dq_172 (by decide +kernel)
theorem dX8_productOf_0 : decode cX8_productOf 0 = .ok (.iconst 0, 1) := dq_3 (by decide +kernel)
theorem dX8_productOf_1 : decode cX8_productOf 1 = .ok (.istore_n 3, 1) := dq_62 (by decide +kernel)
theorem dX8_productOf_2 : decode cX8_productOf 2 = .ok (.iconst 0, 1) := dq_3 (by decide +kernel)
theorem dX8_productOf_3 : decode cX8_productOf 3 = .ok (.istore 4, 2) := dq_54 (a := 4) (by decide +kernel) rfl
theorem dX8_productOf_5 : decode cX8_productOf 5 = .ok (.iload 4, 2) := dq_21 (a := 4) (by decide +kernel) rfl
theorem dX8_productOf_7 : decode cX8_productOf 7 = .ok (.bipush 6, 2) := dq_16 (a := 6) (by decide +kernel) (by decide +kernel)
theorem dX8_productOf_9 : decode cX8_productOf 9 = .ok (.if_icmp .ge 27, 3) := dq_162 (a := 0) (b := 27) (by decide +kernel) (by decide +kernel)
theorem dX8_productOf_12 : decode cX8_productOf 12 = .ok (.iload_n 3, 1) := dq_29 (by decide +kernel)
theorem dX8_productOf_13 : decode cX8_productOf 13 = .ok (.aload_n 0, 1) := dq_42 (by decide +kernel)
theorem dX8_productOf_14 : decode cX8_productOf 14 = .ok (.iload 4, 2) := dq_21 (a := 4) (by decide +kernel) rfl
theorem dX8_productOf_16 : decode cX8_productOf 16 = .ok (.iload_n 1, 1) := dq_27 (by decide +kernel)
theorem dX8_productOf_17 : decode cX8_productOf 17 = .ok (.invokevirtual 27, 3) := dq_182 (a := 0) (b := 27) (by decide +kernel) rfl
theorem dX8_productOf_20 : decode cX8_productOf 20 = .ok (.aload_n 0, 1) := dq_42 (by decide +kernel)
theorem dX8_productOf_21 : decode cX8_productOf 21 = .ok (.iload 4, 2) := dq_21 (a := 4) (by decide +kernel) rfl
theorem dX8_productOf_23 : decode cX8_productOf 23 = .ok (.iload_n 2, 1) := dq_28 (by decide +kernel)
theorem dX8_productOf_24 : decode cX8_productOf 24 = .ok (.invokevirtual 27, 3) := dq_182 (a := 0) (b := 27) (by decide +kernel) rfl
theorem dX8_productOf_27 : decode cX8_productOf 27 = .ok (.imul, 1) := dq_104 (by decide +kernel)
theorem dX8_productOf_28 : decode cX8_productOf 28 = .ok (.iadd, 1) := dq_96 (by decide +kernel)
theorem dX8_productOf_29 : decode cX8_productOf 29 = .ok (.istore_n 3, 1) := dq_62 (by decide +kernel)
theorem dX8_productOf_30 : decode cX8_productOf 30 = .ok (.iinc 4 1, 3) := dq_132 (a := 4) (b := 1) (by decide +kernel) rfl (by decide +kernel)
theorem dX8_productOf_33 : decode cX8_productOf 33 = .ok (.goto (-28), 3) := dq_167 (a := 255) (b := 228) (by decide +kernel) (by decide +kernel)
theorem dX8_productOf_36 : decode cX8_productOf 36 = .ok (.iload_n 3, 1) := dq_29 (by decide +kernel)
theorem dX8_productOf_37 : decode cX8_productOf 37 = .ok (.ireturn, 1) := dq_172 (by decide +kernel)
theorem dX8_sentTo_0 : decode cX8_sentTo 0 = .ok (.iconst 0, 1) := dq_3 (by decide +kernel)
theorem dX8_sentTo_1 : decode cX8_sentTo 1 = .ok (.istore 4, 2) := dq_54 (a := 4) (by decide +kernel) rfl
theorem dX8_sentTo_3 : decode cX8_sentTo 3 = .ok (.iconst 0, 1) := dq_3 (by decide +kernel)
theorem dX8_sentTo_4 : decode cX8_sentTo 4 = .ok (.istore 5, 2) := dq_54 (a := 5) (by decide +kernel) rfl
theorem dX8_sentTo_6 : decode cX8_sentTo 6 = .ok (.iload 5, 2) := dq_21 (a := 5) (by decide +kernel) rfl
theorem dX8_sentTo_8 : decode cX8_sentTo 8 = .ok (.iload_n 3, 1) := dq_29 (by decide +kernel)
theorem dX8_sentTo_9 : decode cX8_sentTo 9 = .ok (.if_icmp .ge 26, 3) := dq_162 (a := 0) (b := 26) (by decide +kernel) (by decide +kernel)
theorem dX8_sentTo_35 : decode cX8_sentTo 35 = .ok (.iload 4, 2) := dq_21 (a := 4) (by decide +kernel) rfl
theorem dX8_sentTo_37 : decode cX8_sentTo 37 = .ok (.ireturn, 1) := dq_172 (by decide +kernel)
theorem dX8_sentTo_12 : decode cX8_sentTo 12 = .ok (.iload 4, 2) := dq_21 (a := 4) (by decide +kernel) rfl
theorem dX8_sentTo_14 : decode cX8_sentTo 14 = .ok (.aload_n 0, 1) := dq_42 (by decide +kernel)
theorem dX8_sentTo_15 : decode cX8_sentTo 15 = .ok (.iload_n 1, 1) := dq_27 (by decide +kernel)
theorem dX8_sentTo_16 : decode cX8_sentTo 16 = .ok (.iload 5, 2) := dq_21 (a := 5) (by decide +kernel) rfl
theorem dX8_sentTo_18 : decode cX8_sentTo 18 = .ok (.invokevirtual 27, 3) := dq_182 (a := 0) (b := 27) (by decide +kernel) rfl
theorem dX8_sentTo_21 : decode cX8_sentTo 21 = .ok (.aload_n 2, 1) := dq_44 (by decide +kernel)
theorem dX8_sentTo_22 : decode cX8_sentTo 22 = .ok (.iload 5, 2) := dq_21 (a := 5) (by decide +kernel) rfl
theorem dX8_sentTo_24 : decode cX8_sentTo 24 = .ok (.iaload, 1) := dq_46 (by decide +kernel)
theorem dX8_sentTo_25 : decode cX8_sentTo 25 = .ok (.imul, 1) := dq_104 (by decide +kernel)
theorem dX8_sentTo_26 : decode cX8_sentTo 26 = .ok (.iadd, 1) := dq_96 (by decide +kernel)
theorem dX8_sentTo_27 : decode cX8_sentTo 27 = .ok (.istore 4, 2) := dq_54 (a := 4) (by decide +kernel) rfl
theorem dX8_sentTo_29 : decode cX8_sentTo 29 = .ok (.iinc 5 1, 3) := dq_132 (a := 5) (b := 1) (by decide +kernel) rfl (by decide +kernel)
theorem dX8_sentTo_32 : decode cX8_sentTo 32 = .ok (.goto (-26), 3) := dq_167 (a := 255) (b := 230) (by decide +kernel) (by decide +kernel)
theorem dX8_takeAway_0 : decode cX8_takeAway 0 = .ok (.iconst 0, 1) := dq_3 (by decide +kernel)
theorem dX8_takeAway_1 : decode cX8_takeAway 1 = .ok (.istore 4, 2) := dq_54 (a := 4) (by decide +kernel) rfl
theorem dX8_takeAway_3 : decode cX8_takeAway 3 = .ok (.iload 4, 2) := dq_21 (a := 4) (by decide +kernel) rfl
theorem dX8_takeAway_5 : decode cX8_takeAway 5 = .ok (.bipush 6, 2) := dq_16 (a := 6) (by decide +kernel) (by decide +kernel)
theorem dX8_takeAway_7 : decode cX8_takeAway 7 = .ok (.if_icmp .ge 33, 3) := dq_162 (a := 0) (b := 33) (by decide +kernel) (by decide +kernel)
theorem dX8_takeAway_10 : decode cX8_takeAway 10 = .ok (.aload_n 0, 1) := dq_42 (by decide +kernel)
theorem dX8_takeAway_11 : decode cX8_takeAway 11 = .ok (.iload 4, 2) := dq_21 (a := 4) (by decide +kernel) rfl
theorem dX8_takeAway_13 : decode cX8_takeAway 13 = .ok (.iload_n 1, 1) := dq_27 (by decide +kernel)
theorem dX8_takeAway_14 : decode cX8_takeAway 14 = .ok (.aload_n 0, 1) := dq_42 (by decide +kernel)
theorem dX8_takeAway_15 : decode cX8_takeAway 15 = .ok (.iload 4, 2) := dq_21 (a := 4) (by decide +kernel) rfl
theorem dX8_takeAway_17 : decode cX8_takeAway 17 = .ok (.iload_n 1, 1) := dq_27 (by decide +kernel)
theorem dX8_takeAway_18 : decode cX8_takeAway 18 = .ok (.invokevirtual 27, 3) := dq_182 (a := 0) (b := 27) (by decide +kernel) rfl
theorem dX8_takeAway_21 : decode cX8_takeAway 21 = .ok (.iload_n 3, 1) := dq_29 (by decide +kernel)
theorem dX8_takeAway_22 : decode cX8_takeAway 22 = .ok (.aload_n 0, 1) := dq_42 (by decide +kernel)
theorem dX8_takeAway_23 : decode cX8_takeAway 23 = .ok (.iload 4, 2) := dq_21 (a := 4) (by decide +kernel) rfl
theorem dX8_takeAway_25 : decode cX8_takeAway 25 = .ok (.iload_n 2, 1) := dq_28 (by decide +kernel)
theorem dX8_takeAway_26 : decode cX8_takeAway 26 = .ok (.invokevirtual 27, 3) := dq_182 (a := 0) (b := 27) (by decide +kernel) rfl
theorem dX8_takeAway_29 : decode cX8_takeAway 29 = .ok (.imul, 1) := dq_104 (by decide +kernel)
theorem dX8_takeAway_30 : decode cX8_takeAway 30 = .ok (.isub, 1) := dq_100 (by decide +kernel)
theorem dX8_takeAway_31 : decode cX8_takeAway 31 = .ok (.invokevirtual 43, 3) := dq_182 (a := 0) (b := 43) (by decide +kernel) rfl
theorem dX8_takeAway_34 : decode cX8_takeAway 34 = .ok (.iinc 4 1, 3) := dq_132 (a := 4) (b := 1) (by decide +kernel) rfl (by decide +kernel)
theorem dX8_takeAway_37 : decode cX8_takeAway 37 = .ok (.goto (-34), 3) := dq_167 (a := 255) (b := 222) (by decide +kernel) (by decide +kernel)
theorem dX8_takeAway_40 : decode cX8_takeAway 40 = .ok (.return_, 1) := dq_177 (by decide +kernel)
theorem dX8_clashOf_0 : decode cX8_clashOf 0 = .ok (.aload_n 0, 1) := dq_42 (by decide +kernel)
theorem dX8_clashOf_1 : decode cX8_clashOf 1 = .ok (.iload_n 1, 1) := dq_27 (by decide +kernel)
theorem dX8_clashOf_2 : decode cX8_clashOf 2 = .ok (.iload_n 2, 1) := dq_28 (by decide +kernel)
theorem dX8_clashOf_3 : decode cX8_clashOf 3 = .ok (.invokevirtual 40, 3) := dq_182 (a := 0) (b := 40) (by decide +kernel) rfl
theorem dX8_clashOf_6 : decode cX8_clashOf 6 = .ok (.i2l, 1) := dq_133 (by decide +kernel)
theorem dX8_clashOf_7 : decode cX8_clashOf 7 = .ok (.lstore_n 3, 1) := dq_66 (by decide +kernel)
theorem dX8_clashOf_8 : decode cX8_clashOf 8 = .ok (.aload_n 0, 1) := dq_42 (by decide +kernel)
theorem dX8_clashOf_9 : decode cX8_clashOf 9 = .ok (.iload_n 1, 1) := dq_27 (by decide +kernel)
theorem dX8_clashOf_10 : decode cX8_clashOf 10 = .ok (.iload_n 1, 1) := dq_27 (by decide +kernel)
theorem dX8_clashOf_11 : decode cX8_clashOf 11 = .ok (.invokevirtual 40, 3) := dq_182 (a := 0) (b := 40) (by decide +kernel) rfl
theorem dX8_clashOf_14 : decode cX8_clashOf 14 = .ok (.i2l, 1) := dq_133 (by decide +kernel)
theorem dX8_clashOf_15 : decode cX8_clashOf 15 = .ok (.aload_n 0, 1) := dq_42 (by decide +kernel)
theorem dX8_clashOf_16 : decode cX8_clashOf 16 = .ok (.iload_n 2, 1) := dq_28 (by decide +kernel)
theorem dX8_clashOf_17 : decode cX8_clashOf 17 = .ok (.iload_n 2, 1) := dq_28 (by decide +kernel)
theorem dX8_clashOf_18 : decode cX8_clashOf 18 = .ok (.invokevirtual 40, 3) := dq_182 (a := 0) (b := 40) (by decide +kernel) rfl
theorem dX8_clashOf_21 : decode cX8_clashOf 21 = .ok (.i2l, 1) := dq_133 (by decide +kernel)
theorem dX8_clashOf_22 : decode cX8_clashOf 22 = .ok (.lmul, 1) := dq_105 (by decide +kernel)
theorem dX8_clashOf_23 : decode cX8_clashOf 23 = .ok (.lstore 5, 2) := dq_55 (a := 5) (by decide +kernel) rfl
theorem dX8_clashOf_25 : decode cX8_clashOf 25 = .ok (.lload 5, 2) := dq_22 (a := 5) (by decide +kernel) rfl
theorem dX8_clashOf_27 : decode cX8_clashOf 27 = .ok (.lconst 0, 1) := dq_9 (by decide +kernel)
theorem dX8_clashOf_28 : decode cX8_clashOf 28 = .ok (.lcmp, 1) := dq_148 (by decide +kernel)
theorem dX8_clashOf_29 : decode cX8_clashOf 29 = .ok (.ifCond .ne 7, 3) := dq_154 (a := 0) (b := 7) (by decide +kernel) (by decide +kernel)
theorem dX8_clashOf_36 : decode cX8_clashOf 36 = .ok (.ldc2_w 47, 3) := dq_20 (a := 0) (b := 47) (by decide +kernel) rfl
theorem dX8_clashOf_39 : decode cX8_clashOf 39 = .ok (.lload_n 3, 1) := dq_33 (by decide +kernel)
theorem dX8_clashOf_40 : decode cX8_clashOf 40 = .ok (.lmul, 1) := dq_105 (by decide +kernel)
theorem dX8_clashOf_41 : decode cX8_clashOf 41 = .ok (.lload_n 3, 1) := dq_33 (by decide +kernel)
theorem dX8_clashOf_42 : decode cX8_clashOf 42 = .ok (.lmul, 1) := dq_105 (by decide +kernel)
theorem dX8_clashOf_43 : decode cX8_clashOf 43 = .ok (.lload 5, 2) := dq_22 (a := 5) (by decide +kernel) rfl
theorem dX8_clashOf_45 : decode cX8_clashOf 45 = .ok (.ldiv, 1) := dq_109 (by decide +kernel)
theorem dX8_clashOf_46 : decode cX8_clashOf 46 = .ok (.l2i, 1) := dq_136 (by decide +kernel)
theorem dX8_clashOf_47 : decode cX8_clashOf 47 = .ok (.ireturn, 1) := dq_172 (by decide +kernel)
theorem dX8_clashOf_32 : decode cX8_clashOf 32 = .ok (.iconst 0, 1) := dq_3 (by decide +kernel)
theorem dX8_clashOf_33 : decode cX8_clashOf 33 = .ok (.goto 14, 3) := dq_167 (a := 0) (b := 14) (by decide +kernel) (by decide +kernel)
theorem dX8_worstPair_0 : decode cX8_worstPair 0 = .ok (.iconst (-1), 1) := dq_2 (by decide +kernel)
theorem dX8_worstPair_1 : decode cX8_worstPair 1 = .ok (.istore_n 2, 1) := dq_61 (by decide +kernel)
theorem dX8_worstPair_2 : decode cX8_worstPair 2 = .ok (.iconst (-1), 1) := dq_2 (by decide +kernel)
theorem dX8_worstPair_3 : decode cX8_worstPair 3 = .ok (.istore_n 3, 1) := dq_62 (by decide +kernel)
theorem dX8_worstPair_4 : decode cX8_worstPair 4 = .ok (.iconst 0, 1) := dq_3 (by decide +kernel)
theorem dX8_worstPair_5 : decode cX8_worstPair 5 = .ok (.istore 4, 2) := dq_54 (a := 4) (by decide +kernel) rfl
theorem dX8_worstPair_7 : decode cX8_worstPair 7 = .ok (.iload 4, 2) := dq_21 (a := 4) (by decide +kernel) rfl
theorem dX8_worstPair_9 : decode cX8_worstPair 9 = .ok (.iload_n 1, 1) := dq_27 (by decide +kernel)
theorem dX8_worstPair_10 : decode cX8_worstPair 10 = .ok (.if_icmp .ge 55, 3) := dq_162 (a := 0) (b := 55) (by decide +kernel) (by decide +kernel)
theorem dX8_worstPair_65 : decode cX8_worstPair 65 = .ok (.iload_n 2, 1) := dq_28 (by decide +kernel)
theorem dX8_worstPair_66 : decode cX8_worstPair 66 = .ok (.ireturn, 1) := dq_172 (by decide +kernel)
theorem dX8_worstPair_13 : decode cX8_worstPair 13 = .ok (.iload 4, 2) := dq_21 (a := 4) (by decide +kernel) rfl
theorem dX8_worstPair_15 : decode cX8_worstPair 15 = .ok (.iconst 1, 1) := dq_4 (by decide +kernel)
theorem dX8_worstPair_16 : decode cX8_worstPair 16 = .ok (.iadd, 1) := dq_96 (by decide +kernel)
theorem dX8_worstPair_17 : decode cX8_worstPair 17 = .ok (.istore 5, 2) := dq_54 (a := 5) (by decide +kernel) rfl
theorem dX8_worstPair_19 : decode cX8_worstPair 19 = .ok (.iload 5, 2) := dq_21 (a := 5) (by decide +kernel) rfl
theorem dX8_worstPair_21 : decode cX8_worstPair 21 = .ok (.iload_n 1, 1) := dq_27 (by decide +kernel)
theorem dX8_worstPair_22 : decode cX8_worstPair 22 = .ok (.if_icmp .ge 37, 3) := dq_162 (a := 0) (b := 37) (by decide +kernel) (by decide +kernel)
theorem dX8_worstPair_59 : decode cX8_worstPair 59 = .ok (.iinc 4 1, 3) := dq_132 (a := 4) (b := 1) (by decide +kernel) rfl (by decide +kernel)
theorem dX8_worstPair_62 : decode cX8_worstPair 62 = .ok (.goto (-55), 3) := dq_167 (a := 255) (b := 201) (by decide +kernel) (by decide +kernel)
theorem dX8_worstPair_25 : decode cX8_worstPair 25 = .ok (.aload_n 0, 1) := dq_42 (by decide +kernel)
theorem dX8_worstPair_26 : decode cX8_worstPair 26 = .ok (.iload 4, 2) := dq_21 (a := 4) (by decide +kernel) rfl
theorem dX8_worstPair_28 : decode cX8_worstPair 28 = .ok (.iload 5, 2) := dq_21 (a := 5) (by decide +kernel) rfl
theorem dX8_worstPair_30 : decode cX8_worstPair 30 = .ok (.invokevirtual 49, 3) := dq_182 (a := 0) (b := 49) (by decide +kernel) rfl
theorem dX8_worstPair_33 : decode cX8_worstPair 33 = .ok (.istore 6, 2) := dq_54 (a := 6) (by decide +kernel) rfl
theorem dX8_worstPair_35 : decode cX8_worstPair 35 = .ok (.iload 6, 2) := dq_21 (a := 6) (by decide +kernel) rfl
theorem dX8_worstPair_37 : decode cX8_worstPair 37 = .ok (.iload_n 3, 1) := dq_29 (by decide +kernel)
theorem dX8_worstPair_38 : decode cX8_worstPair 38 = .ok (.if_icmp .le 15, 3) := dq_164 (a := 0) (b := 15) (by decide +kernel) (by decide +kernel)
theorem dX8_worstPair_53 : decode cX8_worstPair 53 = .ok (.iinc 5 1, 3) := dq_132 (a := 5) (b := 1) (by decide +kernel) rfl (by decide +kernel)
theorem dX8_worstPair_56 : decode cX8_worstPair 56 = .ok (.goto (-37), 3) := dq_167 (a := 255) (b := 219) (by decide +kernel) (by decide +kernel)
theorem dX8_worstPair_41 : decode cX8_worstPair 41 = .ok (.iload 6, 2) := dq_21 (a := 6) (by decide +kernel) rfl
theorem dX8_worstPair_43 : decode cX8_worstPair 43 = .ok (.istore_n 3, 1) := dq_62 (by decide +kernel)
theorem dX8_worstPair_44 : decode cX8_worstPair 44 = .ok (.bipush 100, 2) := dq_16 (a := 100) (by decide +kernel) (by decide +kernel)
theorem dX8_worstPair_46 : decode cX8_worstPair 46 = .ok (.iload 4, 2) := dq_21 (a := 4) (by decide +kernel) rfl
theorem dX8_worstPair_48 : decode cX8_worstPair 48 = .ok (.imul, 1) := dq_104 (by decide +kernel)
theorem dX8_worstPair_49 : decode cX8_worstPair 49 = .ok (.iload 5, 2) := dq_21 (a := 5) (by decide +kernel) rfl
theorem dX8_worstPair_51 : decode cX8_worstPair 51 = .ok (.iadd, 1) := dq_96 (by decide +kernel)
theorem dX8_worstPair_52 : decode cX8_worstPair 52 = .ok (.istore_n 2, 1) := dq_61 (by decide +kernel)
theorem dX8_allSquares_0 : decode cX8_allSquares 0 = .ok (.lconst 0, 1) := dq_9 (by decide +kernel)
theorem dX8_allSquares_1 : decode cX8_allSquares 1 = .ok (.lstore_n 1, 1) := dq_64 (by decide +kernel)
theorem dX8_allSquares_2 : decode cX8_allSquares 2 = .ok (.iconst 0, 1) := dq_3 (by decide +kernel)
theorem dX8_allSquares_3 : decode cX8_allSquares 3 = .ok (.istore_n 3, 1) := dq_62 (by decide +kernel)
theorem dX8_allSquares_4 : decode cX8_allSquares 4 = .ok (.iload_n 3, 1) := dq_29 (by decide +kernel)
theorem dX8_allSquares_5 : decode cX8_allSquares 5 = .ok (.iconst 5, 1) := dq_8 (by decide +kernel)
theorem dX8_allSquares_6 : decode cX8_allSquares 6 = .ok (.if_icmp .ge 19, 3) := dq_162 (a := 0) (b := 19) (by decide +kernel) (by decide +kernel)
theorem dX8_allSquares_9 : decode cX8_allSquares 9 = .ok (.lload_n 1, 1) := dq_31 (by decide +kernel)
theorem dX8_allSquares_10 : decode cX8_allSquares 10 = .ok (.aload_n 0, 1) := dq_42 (by decide +kernel)
theorem dX8_allSquares_11 : decode cX8_allSquares 11 = .ok (.iload_n 3, 1) := dq_29 (by decide +kernel)
theorem dX8_allSquares_12 : decode cX8_allSquares 12 = .ok (.iload_n 3, 1) := dq_29 (by decide +kernel)
theorem dX8_allSquares_13 : decode cX8_allSquares 13 = .ok (.invokevirtual 40, 3) := dq_182 (a := 0) (b := 40) (by decide +kernel) rfl
theorem dX8_allSquares_16 : decode cX8_allSquares 16 = .ok (.i2l, 1) := dq_133 (by decide +kernel)
theorem dX8_allSquares_17 : decode cX8_allSquares 17 = .ok (.ladd, 1) := dq_97 (by decide +kernel)
theorem dX8_allSquares_18 : decode cX8_allSquares 18 = .ok (.lstore_n 1, 1) := dq_64 (by decide +kernel)
theorem dX8_allSquares_19 : decode cX8_allSquares 19 = .ok (.iinc 3 1, 3) := dq_132 (a := 3) (b := 1) (by decide +kernel) rfl (by decide +kernel)
theorem dX8_allSquares_22 : decode cX8_allSquares 22 = .ok (.goto (-18), 3) := dq_167 (a := 255) (b := 238) (by decide +kernel) (by decide +kernel)
theorem dX8_allSquares_25 : decode cX8_allSquares 25 = .ok (.lload_n 1, 1) := dq_31 (by decide +kernel)
theorem dX8_allSquares_26 : decode cX8_allSquares 26 = .ok (.lreturn, 1) := dq_173 (by decide +kernel)
theorem dX8_peakOf_0 : decode cX8_peakOf 0 = .ok (.iconst 0, 1) := dq_3 (by decide +kernel)
theorem dX8_peakOf_1 : decode cX8_peakOf 1 = .ok (.istore_n 2, 1) := dq_61 (by decide +kernel)
theorem dX8_peakOf_2 : decode cX8_peakOf 2 = .ok (.iconst 0, 1) := dq_3 (by decide +kernel)
theorem dX8_peakOf_3 : decode cX8_peakOf 3 = .ok (.istore_n 3, 1) := dq_62 (by decide +kernel)
theorem dX8_peakOf_4 : decode cX8_peakOf 4 = .ok (.iload_n 3, 1) := dq_29 (by decide +kernel)
theorem dX8_peakOf_5 : decode cX8_peakOf 5 = .ok (.bipush 6, 2) := dq_16 (a := 6) (by decide +kernel) (by decide +kernel)
theorem dX8_peakOf_7 : decode cX8_peakOf 7 = .ok (.if_icmp .ge 23, 3) := dq_162 (a := 0) (b := 23) (by decide +kernel) (by decide +kernel)
theorem dX8_peakOf_10 : decode cX8_peakOf 10 = .ok (.iload_n 2, 1) := dq_28 (by decide +kernel)
theorem dX8_peakOf_11 : decode cX8_peakOf 11 = .ok (.aload_n 0, 1) := dq_42 (by decide +kernel)
theorem dX8_peakOf_12 : decode cX8_peakOf 12 = .ok (.iload_n 3, 1) := dq_29 (by decide +kernel)
theorem dX8_peakOf_13 : decode cX8_peakOf 13 = .ok (.iload_n 1, 1) := dq_27 (by decide +kernel)
theorem dX8_peakOf_14 : decode cX8_peakOf 14 = .ok (.invokevirtual 27, 3) := dq_182 (a := 0) (b := 27) (by decide +kernel) rfl
theorem dX8_peakOf_17 : decode cX8_peakOf 17 = .ok (.invokestatic 31, 3) := dq_184 (a := 0) (b := 31) (by decide +kernel) rfl
theorem dX8_peakOf_20 : decode cX8_peakOf 20 = .ok (.invokestatic 37, 3) := dq_184 (a := 0) (b := 37) (by decide +kernel) rfl
theorem dX8_peakOf_23 : decode cX8_peakOf 23 = .ok (.istore_n 2, 1) := dq_61 (by decide +kernel)
theorem dX8_peakOf_24 : decode cX8_peakOf 24 = .ok (.iinc 3 1, 3) := dq_132 (a := 3) (b := 1) (by decide +kernel) rfl (by decide +kernel)
theorem dX8_peakOf_27 : decode cX8_peakOf 27 = .ok (.goto (-23), 3) := dq_167 (a := 255) (b := 233) (by decide +kernel) (by decide +kernel)
theorem dX8_peakOf_30 : decode cX8_peakOf 30 = .ok (.iload_n 2, 1) := dq_28 (by decide +kernel)
theorem dX8_peakOf_31 : decode cX8_peakOf 31 = .ok (.ireturn, 1) := dq_172 (by decide +kernel)
theorem dX5_clear_0 : decode cX5_clear 0 = .ok (.aload_n 0, 1) := dq_42 (by decide +kernel)
theorem dX5_clear_1 : decode cX5_clear 1 = .ok (.iconst 0, 1) := dq_3 (by decide +kernel)
theorem dX5_clear_2 : decode cX5_clear 2 = .ok (.putfield 27, 3) := dq_181 (a := 0) (b := 27) (by decide +kernel) rfl
theorem dX5_clear_5 : decode cX5_clear 5 = .ok (.aload_n 0, 1) := dq_42 (by decide +kernel)
theorem dX5_clear_6 : decode cX5_clear 6 = .ok (.iconst 0, 1) := dq_3 (by decide +kernel)
theorem dX5_clear_7 : decode cX5_clear 7 = .ok (.putfield 31, 3) := dq_181 (a := 0) (b := 31) (by decide +kernel) rfl
theorem dX5_clear_10 : decode cX5_clear 10 = .ok (.return_, 1) := dq_177 (by decide +kernel)
theorem dX5_beginRule_0 : decode cX5_beginRule 0 = .ok (.aload_n 0, 1) := dq_42 (by decide +kernel)
theorem dX5_beginRule_1 : decode cX5_beginRule 1 = .ok (.getfield 31, 3) := dq_180 (a := 0) (b := 31) (by decide +kernel) rfl
theorem dX5_beginRule_4 : decode cX5_beginRule 4 = .ok (.bipush 8, 2) := dq_16 (a := 8) (by decide +kernel) (by decide +kernel)
theorem dX5_beginRule_6 : decode cX5_beginRule 6 = .ok (.if_icmp .ge 16, 3) := dq_162 (a := 0) (b := 16) (by decide +kernel) (by decide +kernel)
theorem dX5_beginRule_22 : decode cX5_beginRule 22 = .ok (.return_, 1) := dq_177 (by decide +kernel)
theorem dX5_beginRule_9 : decode cX5_beginRule 9 = .ok (.aload_n 0, 1) := dq_42 (by decide +kernel)
theorem dX5_beginRule_10 : decode cX5_beginRule 10 = .ok (.getfield 15, 3) := dq_180 (a := 0) (b := 15) (by decide +kernel) rfl
theorem dX5_beginRule_13 : decode cX5_beginRule 13 = .ok (.aload_n 0, 1) := dq_42 (by decide +kernel)
theorem dX5_beginRule_14 : decode cX5_beginRule 14 = .ok (.getfield 31, 3) := dq_180 (a := 0) (b := 31) (by decide +kernel) rfl
theorem dX5_beginRule_17 : decode cX5_beginRule 17 = .ok (.aload_n 0, 1) := dq_42 (by decide +kernel)
theorem dX5_beginRule_18 : decode cX5_beginRule 18 = .ok (.getfield 27, 3) := dq_180 (a := 0) (b := 27) (by decide +kernel) rfl
theorem dX5_beginRule_21 : decode cX5_beginRule 21 = .ok (.iastore, 1) := dq_79 (by decide +kernel)
theorem dX5_add_0 : decode cX5_add 0 = .ok (.aload_n 0, 1) := dq_42 (by decide +kernel)
theorem dX5_add_1 : decode cX5_add 1 = .ok (.getfield 27, 3) := dq_180 (a := 0) (b := 27) (by decide +kernel) rfl
theorem dX5_add_4 : decode cX5_add 4 = .ok (.aload_n 0, 1) := dq_42 (by decide +kernel)
theorem dX5_add_5 : decode cX5_add 5 = .ok (.getfield 9, 3) := dq_180 (a := 0) (b := 9) (by decide +kernel) rfl
theorem dX5_add_8 : decode cX5_add 8 = .ok (.arraylength, 1) := dq_190 (by decide +kernel)
theorem dX5_add_9 : decode cX5_add 9 = .ok (.if_icmp .ge 23, 3) := dq_162 (a := 0) (b := 23) (by decide +kernel) (by decide +kernel)
theorem dX5_add_32 : decode cX5_add 32 = .ok (.return_, 1) := dq_177 (by decide +kernel)
theorem dX5_add_12 : decode cX5_add 12 = .ok (.aload_n 0, 1) := dq_42 (by decide +kernel)
theorem dX5_add_13 : decode cX5_add 13 = .ok (.getfield 9, 3) := dq_180 (a := 0) (b := 9) (by decide +kernel) rfl
theorem dX5_add_16 : decode cX5_add 16 = .ok (.aload_n 0, 1) := dq_42 (by decide +kernel)
theorem dX5_add_17 : decode cX5_add 17 = .ok (.getfield 27, 3) := dq_180 (a := 0) (b := 27) (by decide +kernel) rfl
theorem dX5_add_20 : decode cX5_add 20 = .ok (.iload_n 1, 1) := dq_27 (by decide +kernel)
theorem dX5_add_21 : decode cX5_add 21 = .ok (.iastore, 1) := dq_79 (by decide +kernel)
theorem dX5_add_22 : decode cX5_add 22 = .ok (.aload_n 0, 1) := dq_42 (by decide +kernel)
theorem dX5_add_23 : decode cX5_add 23 = .ok (.dup, 1) := dq_89 (by decide +kernel)
theorem dX5_add_24 : decode cX5_add 24 = .ok (.getfield 27, 3) := dq_180 (a := 0) (b := 27) (by decide +kernel) rfl
theorem dX5_add_27 : decode cX5_add 27 = .ok (.iconst 1, 1) := dq_4 (by decide +kernel)
theorem dX5_add_28 : decode cX5_add 28 = .ok (.iadd, 1) := dq_96 (by decide +kernel)
theorem dX5_add_29 : decode cX5_add 29 = .ok (.putfield 27, 3) := dq_181 (a := 0) (b := 27) (by decide +kernel) rfl
theorem dX5_beginTest_0 : decode cX5_beginTest 0 = .ok (.aload_n 0, 1) := dq_42 (by decide +kernel)
theorem dX5_beginTest_1 : decode cX5_beginTest 1 = .ok (.getfield 31, 3) := dq_180 (a := 0) (b := 31) (by decide +kernel) rfl
theorem dX5_beginTest_4 : decode cX5_beginTest 4 = .ok (.bipush 8, 2) := dq_16 (a := 8) (by decide +kernel) (by decide +kernel)
theorem dX5_beginTest_6 : decode cX5_beginTest 6 = .ok (.if_icmp .ge 16, 3) := dq_162 (a := 0) (b := 16) (by decide +kernel) (by decide +kernel)
theorem dX5_beginTest_22 : decode cX5_beginTest 22 = .ok (.return_, 1) := dq_177 (by decide +kernel)
theorem dX5_beginTest_9 : decode cX5_beginTest 9 = .ok (.aload_n 0, 1) := dq_42 (by decide +kernel)
theorem dX5_beginTest_10 : decode cX5_beginTest 10 = .ok (.getfield 18, 3) := dq_180 (a := 0) (b := 18) (by decide +kernel) rfl
theorem dX5_beginTest_13 : decode cX5_beginTest 13 = .ok (.aload_n 0, 1) := dq_42 (by decide +kernel)
theorem dX5_beginTest_14 : decode cX5_beginTest 14 = .ok (.getfield 31, 3) := dq_180 (a := 0) (b := 31) (by decide +kernel) rfl
theorem dX5_beginTest_17 : decode cX5_beginTest 17 = .ok (.aload_n 0, 1) := dq_42 (by decide +kernel)
theorem dX5_beginTest_18 : decode cX5_beginTest 18 = .ok (.getfield 27, 3) := dq_180 (a := 0) (b := 27) (by decide +kernel) rfl
theorem dX5_beginTest_21 : decode cX5_beginTest 21 = .ok (.iastore, 1) := dq_79 (by decide +kernel)
theorem dX5_endRule_0 : decode cX5_endRule 0 = .ok (.aload_n 0, 1) := dq_42 (by decide +kernel)
theorem dX5_endRule_1 : decode cX5_endRule 1 = .ok (.getfield 31, 3) := dq_180 (a := 0) (b := 31) (by decide +kernel) rfl
theorem dX5_endRule_4 : decode cX5_endRule 4 = .ok (.bipush 8, 2) := dq_16 (a := 8) (by decide +kernel) (by decide +kernel)
theorem dX5_endRule_6 : decode cX5_endRule 6 = .ok (.if_icmp .ge 26, 3) := dq_162 (a := 0) (b := 26) (by decide +kernel) (by decide +kernel)
theorem dX5_endRule_32 : decode cX5_endRule 32 = .ok (.return_, 1) := dq_177 (by decide +kernel)
theorem dX5_endRule_9 : decode cX5_endRule 9 = .ok (.aload_n 0, 1) := dq_42 (by decide +kernel)
theorem dX5_endRule_10 : decode cX5_endRule 10 = .ok (.getfield 21, 3) := dq_180 (a := 0) (b := 21) (by decide +kernel) rfl
theorem dX5_endRule_13 : decode cX5_endRule 13 = .ok (.aload_n 0, 1) := dq_42 (by decide +kernel)
theorem dX5_endRule_14 : decode cX5_endRule 14 = .ok (.getfield 31, 3) := dq_180 (a := 0) (b := 31) (by decide +kernel) rfl
theorem dX5_endRule_17 : decode cX5_endRule 17 = .ok (.aload_n 0, 1) := dq_42 (by decide +kernel)
theorem dX5_endRule_18 : decode cX5_endRule 18 = .ok (.getfield 27, 3) := dq_180 (a := 0) (b := 27) (by decide +kernel) rfl
theorem dX5_endRule_21 : decode cX5_endRule 21 = .ok (.iastore, 1) := dq_79 (by decide +kernel)
theorem dX5_endRule_22 : decode cX5_endRule 22 = .ok (.aload_n 0, 1) := dq_42 (by decide +kernel)
theorem dX5_endRule_23 : decode cX5_endRule 23 = .ok (.dup, 1) := dq_89 (by decide +kernel)
theorem dX5_endRule_24 : decode cX5_endRule 24 = .ok (.getfield 31, 3) := dq_180 (a := 0) (b := 31) (by decide +kernel) rfl
theorem dX5_endRule_27 : decode cX5_endRule 27 = .ok (.iconst 1, 1) := dq_4 (by decide +kernel)
theorem dX5_endRule_28 : decode cX5_endRule 28 = .ok (.iadd, 1) := dq_96 (by decide +kernel)
theorem dX5_endRule_29 : decode cX5_endRule 29 = .ok (.putfield 31, 3) := dq_181 (a := 0) (b := 31) (by decide +kernel) rfl
theorem dX5_worthBy_0 : decode cX5_worthBy 0 = .ok (.iconst 0, 1) := dq_3 (by decide +kernel)
theorem dX5_worthBy_1 : decode cX5_worthBy 1 = .ok (.istore 4, 2) := dq_54 (a := 4) (by decide +kernel) rfl
theorem dX5_worthBy_3 : decode cX5_worthBy 3 = .ok (.iload 4, 2) := dq_21 (a := 4) (by decide +kernel) rfl
theorem dX5_worthBy_5 : decode cX5_worthBy 5 = .ok (.aload_n 0, 1) := dq_42 (by decide +kernel)
theorem dX5_worthBy_6 : decode cX5_worthBy 6 = .ok (.getfield 31, 3) := dq_180 (a := 0) (b := 31) (by decide +kernel) rfl
theorem dX5_worthBy_9 : decode cX5_worthBy 9 = .ok (.if_icmp .ge 55, 3) := dq_162 (a := 0) (b := 55) (by decide +kernel) (by decide +kernel)
theorem dX5_worthBy_64 : decode cX5_worthBy 64 = .ok (.iconst 0, 1) := dq_3 (by decide +kernel)
theorem dX5_worthBy_65 : decode cX5_worthBy 65 = .ok (.ireturn, 1) := dq_172 (by decide +kernel)
theorem dX5_worthBy_12 : decode cX5_worthBy 12 = .ok (.aload_n 0, 1) := dq_42 (by decide +kernel)
theorem dX5_worthBy_13 : decode cX5_worthBy 13 = .ok (.aload_n 0, 1) := dq_42 (by decide +kernel)
theorem dX5_worthBy_14 : decode cX5_worthBy 14 = .ok (.getfield 18, 3) := dq_180 (a := 0) (b := 18) (by decide +kernel) rfl
theorem dX5_worthBy_17 : decode cX5_worthBy 17 = .ok (.iload 4, 2) := dq_21 (a := 4) (by decide +kernel) rfl
theorem dX5_worthBy_19 : decode cX5_worthBy 19 = .ok (.iaload, 1) := dq_46 (by decide +kernel)
theorem dX5_worthBy_20 : decode cX5_worthBy 20 = .ok (.aload_n 0, 1) := dq_42 (by decide +kernel)
theorem dX5_worthBy_21 : decode cX5_worthBy 21 = .ok (.getfield 21, 3) := dq_180 (a := 0) (b := 21) (by decide +kernel) rfl
theorem dX5_worthBy_24 : decode cX5_worthBy 24 = .ok (.iload 4, 2) := dq_21 (a := 4) (by decide +kernel) rfl
theorem dX5_worthBy_26 : decode cX5_worthBy 26 = .ok (.iaload, 1) := dq_46 (by decide +kernel)
theorem dX5_worthBy_27 : decode cX5_worthBy 27 = .ok (.iload_n 1, 1) := dq_27 (by decide +kernel)
theorem dX5_worthBy_28 : decode cX5_worthBy 28 = .ok (.iload_n 2, 1) := dq_28 (by decide +kernel)
theorem dX5_worthBy_29 : decode cX5_worthBy 29 = .ok (.iload_n 3, 1) := dq_29 (by decide +kernel)
theorem dX5_worthBy_30 : decode cX5_worthBy 30 = .ok (.invokevirtual 34, 3) := dq_182 (a := 0) (b := 34) (by decide +kernel) rfl
theorem dX5_valueOf_0 : decode cX5_valueOf 0 = .ok (.iconst 0, 1) := dq_3 (by decide +kernel)
theorem dX5_valueOf_1 : decode cX5_valueOf 1 = .ok (.istore 6, 2) := dq_54 (a := 6) (by decide +kernel) rfl
theorem dX5_valueOf_3 : decode cX5_valueOf 3 = .ok (.iload_n 1, 1) := dq_27 (by decide +kernel)
theorem dX5_valueOf_4 : decode cX5_valueOf 4 = .ok (.istore 7, 2) := dq_54 (a := 7) (by decide +kernel) rfl
theorem dX5_valueOf_6 : decode cX5_valueOf 6 = .ok (.iload 7, 2) := dq_21 (a := 7) (by decide +kernel) rfl
theorem dX5_valueOf_8 : decode cX5_valueOf 8 = .ok (.iload_n 2, 1) := dq_28 (by decide +kernel)
theorem dX5_valueOf_9 : decode cX5_valueOf 9 = .ok (.if_icmp .ge 132, 3) := dq_162 (a := 0) (b := 132) (by decide +kernel) (by decide +kernel)
theorem dX5_valueOf_141 : decode cX5_valueOf 141 = .ok (.aload_n 0, 1) := dq_42 (by decide +kernel)
theorem lw_d_cX5_partBy_1 : lw_dl cX5_partBy [(1, .tableswitch 33 (-3) (-1) #[31, 29, 27], 27)] = true := by decide +kernel
theorem dX5_partBy_1 : decode cX5_partBy 1 = .ok (.tableswitch 33 (-3) (-1) #[31, 29, 27], 27) := lw_dr lw_d_cX5_partBy_1 0 rfl
theorem lw_d_cX5_joined_1 : lw_dl cX5_joined [(1, .tableswitch 153 (-15) (-5) #[149, 145, 134, 123, 112, 106, 100, 86, 77, 68, 59], 59)] = true := by decide +kernel
theorem dX5_joined_1 : decode cX5_joined 1 = .ok (.tableswitch 153 (-15) (-5) #[149, 145, 134, 123, 112, 106, 100, 86, 77, 68, 59], 59) := lw_dr lw_d_cX5_joined_1 0 rfl
theorem dX5_valueOf_142 : decode cX5_valueOf 142 = .ok (.getfield 24, 3) := dq_180 (a := 0) (b := 24) (by decide +kernel) rfl
theorem dX5_valueOf_145 : decode cX5_valueOf 145 = .ok (.iconst 0, 1) := dq_3 (by decide +kernel)
theorem dX5_valueOf_146 : decode cX5_valueOf 146 = .ok (.iaload, 1) := dq_46 (by decide +kernel)
theorem dX5_valueOf_147 : decode cX5_valueOf 147 = .ok (.ireturn, 1) := dq_172 (by decide +kernel)
theorem dX5_valueOf_12 : decode cX5_valueOf 12 = .ok (.aload_n 0, 1) := dq_42 (by decide +kernel)
theorem dX5_valueOf_13 : decode cX5_valueOf 13 = .ok (.getfield 9, 3) := dq_180 (a := 0) (b := 9) (by decide +kernel) rfl
theorem dX5_valueOf_16 : decode cX5_valueOf 16 = .ok (.iload 7, 2) := dq_21 (a := 7) (by decide +kernel) rfl
theorem dX5_valueOf_18 : decode cX5_valueOf 18 = .ok (.iaload, 1) := dq_46 (by decide +kernel)
theorem dX5_valueOf_19 : decode cX5_valueOf 19 = .ok (.istore 8, 2) := dq_54 (a := 8) (by decide +kernel) rfl
theorem dX5_valueOf_21 : decode cX5_valueOf 21 = .ok (.iload 8, 2) := dq_21 (a := 8) (by decide +kernel) rfl
theorem dX5_valueOf_23 : decode cX5_valueOf 23 = .ok (.bipush (-4), 2) := dq_16 (a := 252) (by decide +kernel) (by decide +kernel)
theorem dX5_valueOf_25 : decode cX5_valueOf 25 = .ok (.if_icmp .le 36, 3) := dq_164 (a := 0) (b := 36) (by decide +kernel) (by decide +kernel)
theorem dX5_valueOf_61 : decode cX5_valueOf 61 = .ok (.iload 8, 2) := dq_21 (a := 8) (by decide +kernel) rfl
theorem dX5_valueOf_63 : decode cX5_valueOf 63 = .ok (.bipush (-4), 2) := dq_16 (a := 252) (by decide +kernel) (by decide +kernel)
theorem dX5_valueOf_65 : decode cX5_valueOf 65 = .ok (.if_icmp .ne 31, 3) := dq_160 (a := 0) (b := 31) (by decide +kernel) (by decide +kernel)
theorem dX5_valueOf_96 : decode cX5_valueOf 96 = .ok (.iload 6, 2) := dq_21 (a := 6) (by decide +kernel) rfl
theorem dX5_valueOf_98 : decode cX5_valueOf 98 = .ok (.iconst 1, 1) := dq_4 (by decide +kernel)
theorem dX5_valueOf_99 : decode cX5_valueOf 99 = .ok (.if_icmp .le 36, 3) := dq_164 (a := 0) (b := 36) (by decide +kernel) (by decide +kernel)
theorem dX5_valueOf_135 : decode cX5_valueOf 135 = .ok (.iinc 7 1, 3) := dq_132 (a := 7) (b := 1) (by decide +kernel) rfl (by decide +kernel)
theorem dX5_valueOf_138 : decode cX5_valueOf 138 = .ok (.goto (-132), 3) := dq_167 (a := 255) (b := 124) (by decide +kernel) (by decide +kernel)
theorem dX5_valueOf_68 : decode cX5_valueOf 68 = .ok (.iload 6, 2) := dq_21 (a := 6) (by decide +kernel) rfl
theorem dX5_valueOf_70 : decode cX5_valueOf 70 = .ok (.ifCond .le 65, 3) := dq_158 (a := 0) (b := 65) (by decide +kernel) (by decide +kernel)
theorem dX5_valueOf_28 : decode cX5_valueOf 28 = .ok (.iload 6, 2) := dq_21 (a := 6) (by decide +kernel) rfl
theorem dX5_valueOf_30 : decode cX5_valueOf 30 = .ok (.aload_n 0, 1) := dq_42 (by decide +kernel)
theorem dX5_valueOf_31 : decode cX5_valueOf 31 = .ok (.getfield 24, 3) := dq_180 (a := 0) (b := 24) (by decide +kernel) rfl
theorem dX5_valueOf_34 : decode cX5_valueOf 34 = .ok (.arraylength, 1) := dq_190 (by decide +kernel)
theorem dX5_valueOf_35 : decode cX5_valueOf 35 = .ok (.if_icmp .ge 100, 3) := dq_162 (a := 0) (b := 100) (by decide +kernel) (by decide +kernel)
theorem dX5_valueOf_38 : decode cX5_valueOf 38 = .ok (.aload_n 0, 1) := dq_42 (by decide +kernel)
theorem dX5_valueOf_39 : decode cX5_valueOf 39 = .ok (.getfield 24, 3) := dq_180 (a := 0) (b := 24) (by decide +kernel) rfl
theorem dX5_valueOf_42 : decode cX5_valueOf 42 = .ok (.iload 6, 2) := dq_21 (a := 6) (by decide +kernel) rfl
theorem dX5_valueOf_44 : decode cX5_valueOf 44 = .ok (.iload 8, 2) := dq_21 (a := 8) (by decide +kernel) rfl
theorem dX5_valueOf_46 : decode cX5_valueOf 46 = .ok (.iload_n 3, 1) := dq_29 (by decide +kernel)
theorem dX5_valueOf_47 : decode cX5_valueOf 47 = .ok (.iload 4, 2) := dq_21 (a := 4) (by decide +kernel) rfl
theorem dX5_valueOf_49 : decode cX5_valueOf 49 = .ok (.iload 5, 2) := dq_21 (a := 5) (by decide +kernel) rfl
theorem dX5_valueOf_51 : decode cX5_valueOf 51 = .ok (.invokestatic 38, 3) := dq_184 (a := 0) (b := 38) (by decide +kernel) rfl
theorem dX5_partBy_0 : decode cX5_partBy 0 = .ok (.iload_n 0, 1) := dq_26 (by decide +kernel)
theorem dX5_partBy_32 : decode cX5_partBy 32 = .ok (.iload_n 3, 1) := dq_29 (by decide +kernel)
theorem dX5_partBy_33 : decode cX5_partBy 33 = .ok (.ireturn, 1) := dq_172 (by decide +kernel)
theorem dX5_partBy_30 : decode cX5_partBy 30 = .ok (.iload_n 2, 1) := dq_28 (by decide +kernel)
theorem dX5_partBy_31 : decode cX5_partBy 31 = .ok (.ireturn, 1) := dq_172 (by decide +kernel)
theorem dX5_partBy_28 : decode cX5_partBy 28 = .ok (.iload_n 1, 1) := dq_27 (by decide +kernel)
theorem dX5_partBy_29 : decode cX5_partBy 29 = .ok (.ireturn, 1) := dq_172 (by decide +kernel)
theorem dX5_partBy_34 : decode cX5_partBy 34 = .ok (.iload_n 0, 1) := dq_26 (by decide +kernel)
theorem dX5_partBy_35 : decode cX5_partBy 35 = .ok (.ireturn, 1) := dq_172 (by decide +kernel)
theorem dX5_valueOf_54 : decode cX5_valueOf 54 = .ok (.iastore, 1) := dq_79 (by decide +kernel)
theorem dX5_valueOf_55 : decode cX5_valueOf 55 = .ok (.iinc 6 1, 3) := dq_132 (a := 6) (b := 1) (by decide +kernel) rfl (by decide +kernel)
theorem dX5_valueOf_58 : decode cX5_valueOf 58 = .ok (.goto 77, 3) := dq_167 (a := 0) (b := 77) (by decide +kernel) (by decide +kernel)
theorem dX5_valueOf_102 : decode cX5_valueOf 102 = .ok (.iinc 6 (-1), 3) := dq_132 (a := 6) (b := 255) (by decide +kernel) rfl (by decide +kernel)
theorem dX5_valueOf_105 : decode cX5_valueOf 105 = .ok (.aload_n 0, 1) := dq_42 (by decide +kernel)
theorem dX5_valueOf_106 : decode cX5_valueOf 106 = .ok (.getfield 24, 3) := dq_180 (a := 0) (b := 24) (by decide +kernel) rfl
theorem dX5_valueOf_109 : decode cX5_valueOf 109 = .ok (.iload 6, 2) := dq_21 (a := 6) (by decide +kernel) rfl
theorem dX5_valueOf_111 : decode cX5_valueOf 111 = .ok (.iconst 1, 1) := dq_4 (by decide +kernel)
theorem dX5_valueOf_112 : decode cX5_valueOf 112 = .ok (.isub, 1) := dq_100 (by decide +kernel)
theorem dX5_valueOf_113 : decode cX5_valueOf 113 = .ok (.iload 8, 2) := dq_21 (a := 8) (by decide +kernel) rfl
theorem dX5_valueOf_115 : decode cX5_valueOf 115 = .ok (.aload_n 0, 1) := dq_42 (by decide +kernel)
theorem dX5_valueOf_116 : decode cX5_valueOf 116 = .ok (.getfield 24, 3) := dq_180 (a := 0) (b := 24) (by decide +kernel) rfl
theorem dX5_valueOf_119 : decode cX5_valueOf 119 = .ok (.iload 6, 2) := dq_21 (a := 6) (by decide +kernel) rfl
theorem dX5_valueOf_121 : decode cX5_valueOf 121 = .ok (.iconst 1, 1) := dq_4 (by decide +kernel)
theorem dX5_valueOf_122 : decode cX5_valueOf 122 = .ok (.isub, 1) := dq_100 (by decide +kernel)
theorem dX5_valueOf_123 : decode cX5_valueOf 123 = .ok (.iaload, 1) := dq_46 (by decide +kernel)
theorem dX5_valueOf_124 : decode cX5_valueOf 124 = .ok (.aload_n 0, 1) := dq_42 (by decide +kernel)
theorem dX5_valueOf_125 : decode cX5_valueOf 125 = .ok (.getfield 24, 3) := dq_180 (a := 0) (b := 24) (by decide +kernel) rfl
theorem dX5_valueOf_128 : decode cX5_valueOf 128 = .ok (.iload 6, 2) := dq_21 (a := 6) (by decide +kernel) rfl
theorem dX5_valueOf_130 : decode cX5_valueOf 130 = .ok (.iaload, 1) := dq_46 (by decide +kernel)
theorem dX5_valueOf_131 : decode cX5_valueOf 131 = .ok (.invokestatic 42, 3) := dq_184 (a := 0) (b := 42) (by decide +kernel) rfl
theorem dX5_joined_0 : decode cX5_joined 0 = .ok (.iload_n 0, 1) := dq_26 (by decide +kernel)
theorem dX5_joined_150 : decode cX5_joined 150 = .ok (.iload_n 1, 1) := dq_27 (by decide +kernel)
theorem dX5_joined_151 : decode cX5_joined 151 = .ok (.iload_n 2, 1) := dq_28 (by decide +kernel)
theorem dX5_joined_152 : decode cX5_joined 152 = .ok (.ior, 1) := dq_128 (by decide +kernel)
theorem dX5_joined_153 : decode cX5_joined 153 = .ok (.ireturn, 1) := dq_172 (by decide +kernel)
theorem dX5_joined_146 : decode cX5_joined 146 = .ok (.iload_n 1, 1) := dq_27 (by decide +kernel)
theorem dX5_joined_147 : decode cX5_joined 147 = .ok (.iload_n 2, 1) := dq_28 (by decide +kernel)
theorem dX5_joined_148 : decode cX5_joined 148 = .ok (.iand, 1) := dq_126 (by decide +kernel)
theorem dX5_joined_149 : decode cX5_joined 149 = .ok (.ireturn, 1) := dq_172 (by decide +kernel)
theorem dX5_joined_135 : decode cX5_joined 135 = .ok (.iload_n 1, 1) := dq_27 (by decide +kernel)
theorem dX5_joined_136 : decode cX5_joined 136 = .ok (.iload_n 2, 1) := dq_28 (by decide +kernel)
theorem dX5_joined_137 : decode cX5_joined 137 = .ok (.if_icmp .ne 7, 3) := dq_160 (a := 0) (b := 7) (by decide +kernel) (by decide +kernel)
theorem dX5_joined_144 : decode cX5_joined 144 = .ok (.iconst 0, 1) := dq_3 (by decide +kernel)
theorem dX5_joined_145 : decode cX5_joined 145 = .ok (.ireturn, 1) := dq_172 (by decide +kernel)
theorem dX5_joined_140 : decode cX5_joined 140 = .ok (.iconst 1, 1) := dq_4 (by decide +kernel)
theorem dX5_joined_141 : decode cX5_joined 141 = .ok (.goto 4, 3) := dq_167 (a := 0) (b := 4) (by decide +kernel) (by decide +kernel)
theorem dX5_joined_124 : decode cX5_joined 124 = .ok (.iload_n 1, 1) := dq_27 (by decide +kernel)
theorem dX5_joined_125 : decode cX5_joined 125 = .ok (.iload_n 2, 1) := dq_28 (by decide +kernel)
theorem dX5_joined_126 : decode cX5_joined 126 = .ok (.if_icmp .le 7, 3) := dq_164 (a := 0) (b := 7) (by decide +kernel) (by decide +kernel)
theorem dX5_joined_133 : decode cX5_joined 133 = .ok (.iconst 0, 1) := dq_3 (by decide +kernel)
theorem dX5_joined_134 : decode cX5_joined 134 = .ok (.ireturn, 1) := dq_172 (by decide +kernel)
theorem dX5_joined_129 : decode cX5_joined 129 = .ok (.iconst 1, 1) := dq_4 (by decide +kernel)
theorem dX5_joined_130 : decode cX5_joined 130 = .ok (.goto 4, 3) := dq_167 (a := 0) (b := 4) (by decide +kernel) (by decide +kernel)
theorem dX5_joined_113 : decode cX5_joined 113 = .ok (.iload_n 1, 1) := dq_27 (by decide +kernel)
theorem dX5_joined_114 : decode cX5_joined 114 = .ok (.iload_n 2, 1) := dq_28 (by decide +kernel)
theorem dX5_joined_115 : decode cX5_joined 115 = .ok (.if_icmp .ge 7, 3) := dq_162 (a := 0) (b := 7) (by decide +kernel) (by decide +kernel)
theorem dX5_joined_122 : decode cX5_joined 122 = .ok (.iconst 0, 1) := dq_3 (by decide +kernel)
theorem dX5_joined_123 : decode cX5_joined 123 = .ok (.ireturn, 1) := dq_172 (by decide +kernel)
theorem dX5_joined_118 : decode cX5_joined 118 = .ok (.iconst 1, 1) := dq_4 (by decide +kernel)
theorem dX5_joined_119 : decode cX5_joined 119 = .ok (.goto 4, 3) := dq_167 (a := 0) (b := 4) (by decide +kernel) (by decide +kernel)
theorem dX5_joined_107 : decode cX5_joined 107 = .ok (.iload_n 1, 1) := dq_27 (by decide +kernel)
theorem dX5_joined_108 : decode cX5_joined 108 = .ok (.iload_n 2, 1) := dq_28 (by decide +kernel)
theorem dX5_joined_109 : decode cX5_joined 109 = .ok (.invokestatic 59, 3) := dq_184 (a := 0) (b := 59) (by decide +kernel) rfl
theorem dX5_joined_112 : decode cX5_joined 112 = .ok (.ireturn, 1) := dq_172 (by decide +kernel)
theorem dX5_joined_101 : decode cX5_joined 101 = .ok (.iload_n 1, 1) := dq_27 (by decide +kernel)
theorem dX5_joined_102 : decode cX5_joined 102 = .ok (.iload_n 2, 1) := dq_28 (by decide +kernel)
theorem dX5_joined_103 : decode cX5_joined 103 = .ok (.invokestatic 56, 3) := dq_184 (a := 0) (b := 56) (by decide +kernel) rfl
theorem dX5_joined_106 : decode cX5_joined 106 = .ok (.ireturn, 1) := dq_172 (by decide +kernel)
theorem dX5_joined_87 : decode cX5_joined 87 = .ok (.iload_n 2, 1) := dq_28 (by decide +kernel)
theorem dX5_joined_88 : decode cX5_joined 88 = .ok (.ifCond .ne 7, 3) := dq_154 (a := 0) (b := 7) (by decide +kernel) (by decide +kernel)
theorem dX5_joined_95 : decode cX5_joined 95 = .ok (.iload_n 1, 1) := dq_27 (by decide +kernel)
theorem dX5_joined_96 : decode cX5_joined 96 = .ok (.iload_n 2, 1) := dq_28 (by decide +kernel)
theorem dX5_joined_97 : decode cX5_joined 97 = .ok (.invokestatic 50, 3) := dq_184 (a := 0) (b := 50) (by decide +kernel) rfl
theorem dX5_joined_100 : decode cX5_joined 100 = .ok (.ireturn, 1) := dq_172 (by decide +kernel)
theorem dX5_joined_91 : decode cX5_joined 91 = .ok (.iconst 0, 1) := dq_3 (by decide +kernel)
theorem dX5_joined_92 : decode cX5_joined 92 = .ok (.goto 8, 3) := dq_167 (a := 0) (b := 8) (by decide +kernel) (by decide +kernel)
theorem dX5_joined_78 : decode cX5_joined 78 = .ok (.iload_n 1, 1) := dq_27 (by decide +kernel)
theorem dX5_joined_79 : decode cX5_joined 79 = .ok (.i2l, 1) := dq_133 (by decide +kernel)
theorem dX5_joined_80 : decode cX5_joined 80 = .ok (.iload_n 2, 1) := dq_28 (by decide +kernel)
theorem dX5_joined_81 : decode cX5_joined 81 = .ok (.i2l, 1) := dq_133 (by decide +kernel)
theorem dX5_joined_82 : decode cX5_joined 82 = .ok (.lmul, 1) := dq_105 (by decide +kernel)
theorem dX5_joined_83 : decode cX5_joined 83 = .ok (.invokestatic 46, 3) := dq_184 (a := 0) (b := 46) (by decide +kernel) rfl
theorem dX5_bounded_0 : decode cX5_bounded 0 = .ok (.ldc2_w 62, 3) := dq_20 (a := 0) (b := 62) (by decide +kernel) rfl
theorem dX5_bounded_3 : decode cX5_bounded 3 = .ok (.ldc2_w 64, 3) := dq_20 (a := 0) (b := 64) (by decide +kernel) rfl
theorem dX5_bounded_6 : decode cX5_bounded 6 = .ok (.lload_n 0, 1) := dq_30 (by decide +kernel)
theorem dX5_bounded_7 : decode cX5_bounded 7 = .ok (.invokestatic 66, 3) := dq_184 (a := 0) (b := 66) (by decide +kernel) rfl
theorem dX5_bounded_10 : decode cX5_bounded 10 = .ok (.invokestatic 69, 3) := dq_184 (a := 0) (b := 69) (by decide +kernel) rfl
theorem dX5_bounded_13 : decode cX5_bounded 13 = .ok (.l2i, 1) := dq_136 (by decide +kernel)
theorem dX5_bounded_14 : decode cX5_bounded 14 = .ok (.ireturn, 1) := dq_172 (by decide +kernel)
theorem dX5_joined_86 : decode cX5_joined 86 = .ok (.ireturn, 1) := dq_172 (by decide +kernel)
theorem dX5_joined_69 : decode cX5_joined 69 = .ok (.iload_n 1, 1) := dq_27 (by decide +kernel)
theorem dX5_joined_70 : decode cX5_joined 70 = .ok (.i2l, 1) := dq_133 (by decide +kernel)
theorem dX5_joined_71 : decode cX5_joined 71 = .ok (.iload_n 2, 1) := dq_28 (by decide +kernel)
theorem dX5_joined_72 : decode cX5_joined 72 = .ok (.i2l, 1) := dq_133 (by decide +kernel)
theorem dX5_joined_73 : decode cX5_joined 73 = .ok (.lsub, 1) := dq_101 (by decide +kernel)
theorem dX5_joined_74 : decode cX5_joined 74 = .ok (.invokestatic 46, 3) := dq_184 (a := 0) (b := 46) (by decide +kernel) rfl
theorem dX5_joined_77 : decode cX5_joined 77 = .ok (.ireturn, 1) := dq_172 (by decide +kernel)
theorem dX5_joined_60 : decode cX5_joined 60 = .ok (.iload_n 1, 1) := dq_27 (by decide +kernel)
theorem dX5_joined_61 : decode cX5_joined 61 = .ok (.i2l, 1) := dq_133 (by decide +kernel)
theorem dX5_joined_62 : decode cX5_joined 62 = .ok (.iload_n 2, 1) := dq_28 (by decide +kernel)
theorem dX5_joined_63 : decode cX5_joined 63 = .ok (.i2l, 1) := dq_133 (by decide +kernel)
theorem dX5_joined_64 : decode cX5_joined 64 = .ok (.ladd, 1) := dq_97 (by decide +kernel)
theorem dX5_joined_65 : decode cX5_joined 65 = .ok (.invokestatic 46, 3) := dq_184 (a := 0) (b := 46) (by decide +kernel) rfl
theorem dX5_joined_68 : decode cX5_joined 68 = .ok (.ireturn, 1) := dq_172 (by decide +kernel)
theorem dX5_joined_154 : decode cX5_joined 154 = .ok (.iconst 0, 1) := dq_3 (by decide +kernel)
theorem dX5_joined_155 : decode cX5_joined 155 = .ok (.ireturn, 1) := dq_172 (by decide +kernel)
theorem dX5_valueOf_134 : decode cX5_valueOf 134 = .ok (.iastore, 1) := dq_79 (by decide +kernel)
theorem dX5_valueOf_73 : decode cX5_valueOf 73 = .ok (.aload_n 0, 1) := dq_42 (by decide +kernel)
theorem dX5_valueOf_74 : decode cX5_valueOf 74 = .ok (.getfield 24, 3) := dq_180 (a := 0) (b := 24) (by decide +kernel) rfl
theorem dX5_valueOf_77 : decode cX5_valueOf 77 = .ok (.iload 6, 2) := dq_21 (a := 6) (by decide +kernel) rfl
theorem dX5_valueOf_79 : decode cX5_valueOf 79 = .ok (.iconst 1, 1) := dq_4 (by decide +kernel)
theorem dX5_valueOf_80 : decode cX5_valueOf 80 = .ok (.isub, 1) := dq_100 (by decide +kernel)
theorem dX5_valueOf_81 : decode cX5_valueOf 81 = .ok (.iconst 1, 1) := dq_4 (by decide +kernel)
theorem dX5_valueOf_82 : decode cX5_valueOf 82 = .ok (.aload_n 0, 1) := dq_42 (by decide +kernel)
theorem dX5_valueOf_83 : decode cX5_valueOf 83 = .ok (.getfield 24, 3) := dq_180 (a := 0) (b := 24) (by decide +kernel) rfl
theorem dX5_valueOf_86 : decode cX5_valueOf 86 = .ok (.iload 6, 2) := dq_21 (a := 6) (by decide +kernel) rfl
theorem dX5_valueOf_88 : decode cX5_valueOf 88 = .ok (.iconst 1, 1) := dq_4 (by decide +kernel)
theorem dX5_valueOf_89 : decode cX5_valueOf 89 = .ok (.isub, 1) := dq_100 (by decide +kernel)
theorem dX5_valueOf_90 : decode cX5_valueOf 90 = .ok (.iaload, 1) := dq_46 (by decide +kernel)
theorem dX5_valueOf_91 : decode cX5_valueOf 91 = .ok (.isub, 1) := dq_100 (by decide +kernel)
theorem dX5_valueOf_92 : decode cX5_valueOf 92 = .ok (.iastore, 1) := dq_79 (by decide +kernel)
theorem dX5_valueOf_93 : decode cX5_valueOf 93 = .ok (.goto 42, 3) := dq_167 (a := 0) (b := 42) (by decide +kernel) (by decide +kernel)
theorem dX5_worthBy_33 : decode cX5_worthBy 33 = .ok (.ifCond .eq 25, 3) := dq_153 (a := 0) (b := 25) (by decide +kernel) (by decide +kernel)
theorem dX5_worthBy_58 : decode cX5_worthBy 58 = .ok (.iinc 4 1, 3) := dq_132 (a := 4) (b := 1) (by decide +kernel) rfl (by decide +kernel)
theorem dX5_worthBy_61 : decode cX5_worthBy 61 = .ok (.goto (-58), 3) := dq_167 (a := 255) (b := 198) (by decide +kernel) (by decide +kernel)
theorem dX5_worthBy_36 : decode cX5_worthBy 36 = .ok (.aload_n 0, 1) := dq_42 (by decide +kernel)
theorem dX5_worthBy_37 : decode cX5_worthBy 37 = .ok (.aload_n 0, 1) := dq_42 (by decide +kernel)
theorem dX5_worthBy_38 : decode cX5_worthBy 38 = .ok (.getfield 15, 3) := dq_180 (a := 0) (b := 15) (by decide +kernel) rfl
theorem dX5_worthBy_41 : decode cX5_worthBy 41 = .ok (.iload 4, 2) := dq_21 (a := 4) (by decide +kernel) rfl
theorem dX5_worthBy_43 : decode cX5_worthBy 43 = .ok (.iaload, 1) := dq_46 (by decide +kernel)
theorem dX5_worthBy_44 : decode cX5_worthBy 44 = .ok (.aload_n 0, 1) := dq_42 (by decide +kernel)
theorem dX5_worthBy_45 : decode cX5_worthBy 45 = .ok (.getfield 18, 3) := dq_180 (a := 0) (b := 18) (by decide +kernel) rfl
theorem dX5_worthBy_48 : decode cX5_worthBy 48 = .ok (.iload 4, 2) := dq_21 (a := 4) (by decide +kernel) rfl
theorem dX5_worthBy_50 : decode cX5_worthBy 50 = .ok (.iaload, 1) := dq_46 (by decide +kernel)
theorem dX5_worthBy_51 : decode cX5_worthBy 51 = .ok (.iload_n 1, 1) := dq_27 (by decide +kernel)
theorem dX5_worthBy_52 : decode cX5_worthBy 52 = .ok (.iload_n 2, 1) := dq_28 (by decide +kernel)
theorem dX5_worthBy_53 : decode cX5_worthBy 53 = .ok (.iload_n 3, 1) := dq_29 (by decide +kernel)
theorem dX5_worthBy_54 : decode cX5_worthBy 54 = .ok (.invokevirtual 34, 3) := dq_182 (a := 0) (b := 34) (by decide +kernel) rfl
theorem dX5_worthBy_57 : decode cX5_worthBy 57 = .ok (.ireturn, 1) := dq_172 (by decide +kernel)
theorem dX1_clear_0 : decode cX1_clear 0 = .ok (.aload_n 0, 1) := dq_42 (by decide +kernel)
theorem dX1_clear_1 : decode cX1_clear 1 = .ok (.getfield 12, 3) := dq_180 (a := 0) (b := 12) (by decide +kernel) rfl
theorem dX1_clear_4 : decode cX1_clear 4 = .ok (.invokevirtual 51, 3) := dq_182 (a := 0) (b := 51) (by decide +kernel) rfl
theorem dX1_clear_7 : decode cX1_clear 7 = .ok (.aload_n 0, 1) := dq_42 (by decide +kernel)
theorem dX1_clear_8 : decode cX1_clear 8 = .ok (.getfield 21, 3) := dq_180 (a := 0) (b := 21) (by decide +kernel) rfl
theorem dX1_clear_11 : decode cX1_clear 11 = .ok (.invokevirtual 54, 3) := dq_182 (a := 0) (b := 54) (by decide +kernel) rfl
theorem dX1_clear_14 : decode cX1_clear 14 = .ok (.aload_n 0, 1) := dq_42 (by decide +kernel)
theorem dX1_clear_15 : decode cX1_clear 15 = .ok (.iconst 0, 1) := dq_3 (by decide +kernel)
theorem dX1_clear_16 : decode cX1_clear 16 = .ok (.putfield 29, 3) := dq_181 (a := 0) (b := 29) (by decide +kernel) rfl
theorem dX1_clear_19 : decode cX1_clear 19 = .ok (.aload_n 0, 1) := dq_42 (by decide +kernel)
theorem dX1_clear_20 : decode cX1_clear 20 = .ok (.iconst 0, 1) := dq_3 (by decide +kernel)
theorem dX1_clear_21 : decode cX1_clear 21 = .ok (.putfield 33, 3) := dq_181 (a := 0) (b := 33) (by decide +kernel) rfl
theorem dX1_clear_24 : decode cX1_clear 24 = .ok (.aload_n 0, 1) := dq_42 (by decide +kernel)
theorem dX1_clear_25 : decode cX1_clear 25 = .ok (.iconst 0, 1) := dq_3 (by decide +kernel)
theorem dX1_clear_26 : decode cX1_clear 26 = .ok (.putfield 36, 3) := dq_181 (a := 0) (b := 36) (by decide +kernel) rfl
theorem dX1_clear_29 : decode cX1_clear 29 = .ok (.aload_n 0, 1) := dq_42 (by decide +kernel)
theorem dX1_clear_30 : decode cX1_clear 30 = .ok (.iconst 0, 1) := dq_3 (by decide +kernel)
theorem dX1_clear_31 : decode cX1_clear 31 = .ok (.putfield 39, 3) := dq_181 (a := 0) (b := 39) (by decide +kernel) rfl
theorem dX1_clear_34 : decode cX1_clear 34 = .ok (.aload_n 0, 1) := dq_42 (by decide +kernel)
theorem dX1_clear_35 : decode cX1_clear 35 = .ok (.iconst 0, 1) := dq_3 (by decide +kernel)
theorem dX1_clear_36 : decode cX1_clear 36 = .ok (.putfield 42, 3) := dq_181 (a := 0) (b := 42) (by decide +kernel) rfl
theorem dX1_clear_39 : decode cX1_clear 39 = .ok (.aload_n 0, 1) := dq_42 (by decide +kernel)
theorem dX1_clear_40 : decode cX1_clear 40 = .ok (.sipush 9999, 3) := dq_17 (a := 39) (b := 15) (by decide +kernel) (by decide +kernel)
theorem dX1_clear_43 : decode cX1_clear 43 = .ok (.putfield 45, 3) := dq_181 (a := 0) (b := 45) (by decide +kernel) rfl
theorem dX1_clear_46 : decode cX1_clear 46 = .ok (.aload_n 0, 1) := dq_42 (by decide +kernel)
theorem dX1_clear_47 : decode cX1_clear 47 = .ok (.iconst 0, 1) := dq_3 (by decide +kernel)
theorem dX1_clear_48 : decode cX1_clear 48 = .ok (.putfield 48, 3) := dq_181 (a := 0) (b := 48) (by decide +kernel) rfl
theorem dX1_clear_51 : decode cX1_clear 51 = .ok (.return_, 1) := dq_177 (by decide +kernel)
theorem dX1_isLetter_0 : decode cX1_isLetter 0 = .ok (.iload_n 1, 1) := dq_27 (by decide +kernel)
theorem dX1_isLetter_1 : decode cX1_isLetter 1 = .ok (.aload_n 0, 1) := dq_42 (by decide +kernel)
theorem dX1_isLetter_2 : decode cX1_isLetter 2 = .ok (.getfield 29, 3) := dq_180 (a := 0) (b := 29) (by decide +kernel) rfl
theorem dX1_isLetter_5 : decode cX1_isLetter 5 = .ok (.ineg, 1) := dq_116 (by decide +kernel)
theorem dX1_isLetter_6 : decode cX1_isLetter 6 = .ok (.if_icmp .le 27, 3) := dq_164 (a := 0) (b := 27) (by decide +kernel) (by decide +kernel)
theorem dX1_isLetter_33 : decode cX1_isLetter 33 = .ok (.iconst 0, 1) := dq_3 (by decide +kernel)
theorem dX1_isLetter_34 : decode cX1_isLetter 34 = .ok (.ireturn, 1) := dq_172 (by decide +kernel)
theorem dX1_isLetter_9 : decode cX1_isLetter 9 = .ok (.iload_n 1, 1) := dq_27 (by decide +kernel)
theorem dX1_isLetter_10 : decode cX1_isLetter 10 = .ok (.aload_n 0, 1) := dq_42 (by decide +kernel)
theorem dX1_isLetter_11 : decode cX1_isLetter 11 = .ok (.getfield 29, 3) := dq_180 (a := 0) (b := 29) (by decide +kernel) rfl
theorem dX1_isLetter_14 : decode cX1_isLetter 14 = .ok (.if_icmp .ge 19, 3) := dq_162 (a := 0) (b := 19) (by decide +kernel) (by decide +kernel)
theorem dX1_isLetter_17 : decode cX1_isLetter 17 = .ok (.iload_n 1, 1) := dq_27 (by decide +kernel)
theorem dX1_isLetter_18 : decode cX1_isLetter 18 = .ok (.aload_n 0, 1) := dq_42 (by decide +kernel)
theorem dX1_isLetter_19 : decode cX1_isLetter 19 = .ok (.getfield 29, 3) := dq_180 (a := 0) (b := 29) (by decide +kernel) rfl
theorem dX1_isLetter_22 : decode cX1_isLetter 22 = .ok (.iadd, 1) := dq_96 (by decide +kernel)
theorem dX1_isLetter_23 : decode cX1_isLetter 23 = .ok (.iconst 1, 1) := dq_4 (by decide +kernel)
theorem dX1_isLetter_24 : decode cX1_isLetter 24 = .ok (.iand, 1) := dq_126 (by decide +kernel)
theorem dX1_isLetter_25 : decode cX1_isLetter 25 = .ok (.iconst 1, 1) := dq_4 (by decide +kernel)
theorem dX1_isLetter_26 : decode cX1_isLetter 26 = .ok (.if_icmp .ne 7, 3) := dq_160 (a := 0) (b := 7) (by decide +kernel) (by decide +kernel)
theorem dX1_isLetter_29 : decode cX1_isLetter 29 = .ok (.iconst 1, 1) := dq_4 (by decide +kernel)
theorem dX1_isLetter_30 : decode cX1_isLetter 30 = .ok (.goto 4, 3) := dq_167 (a := 0) (b := 4) (by decide +kernel) (by decide +kernel)
theorem dX1_isReceiver_0 : decode cX1_isReceiver 0 = .ok (.iload_n 1, 1) := dq_27 (by decide +kernel)
theorem dX1_isReceiver_1 : decode cX1_isReceiver 1 = .ok (.ifCond .lt 15, 3) := dq_155 (a := 0) (b := 15) (by decide +kernel) (by decide +kernel)
theorem dX1_isReceiver_16 : decode cX1_isReceiver 16 = .ok (.iconst 0, 1) := dq_3 (by decide +kernel)
theorem dX1_isReceiver_17 : decode cX1_isReceiver 17 = .ok (.ireturn, 1) := dq_172 (by decide +kernel)
theorem dX1_isReceiver_4 : decode cX1_isReceiver 4 = .ok (.iload_n 1, 1) := dq_27 (by decide +kernel)
theorem dX1_isReceiver_5 : decode cX1_isReceiver 5 = .ok (.aload_n 0, 1) := dq_42 (by decide +kernel)
theorem dX1_isReceiver_6 : decode cX1_isReceiver 6 = .ok (.getfield 36, 3) := dq_180 (a := 0) (b := 36) (by decide +kernel) rfl
theorem dX1_isReceiver_9 : decode cX1_isReceiver 9 = .ok (.if_icmp .ge 7, 3) := dq_162 (a := 0) (b := 7) (by decide +kernel) (by decide +kernel)
theorem dX1_isReceiver_12 : decode cX1_isReceiver 12 = .ok (.iconst 1, 1) := dq_4 (by decide +kernel)
theorem dX1_isReceiver_13 : decode cX1_isReceiver 13 = .ok (.goto 4, 3) := dq_167 (a := 0) (b := 4) (by decide +kernel) (by decide +kernel)
theorem dX1_isSender_0 : decode cX1_isSender 0 = .ok (.iload_n 1, 1) := dq_27 (by decide +kernel)
theorem dX1_isSender_1 : decode cX1_isSender 1 = .ok (.ifCond .lt 15, 3) := dq_155 (a := 0) (b := 15) (by decide +kernel) (by decide +kernel)
theorem dX1_isSender_16 : decode cX1_isSender 16 = .ok (.iconst 0, 1) := dq_3 (by decide +kernel)
theorem dX1_isSender_17 : decode cX1_isSender 17 = .ok (.ireturn, 1) := dq_172 (by decide +kernel)
theorem dX1_isSender_4 : decode cX1_isSender 4 = .ok (.iload_n 1, 1) := dq_27 (by decide +kernel)
theorem dX1_isSender_5 : decode cX1_isSender 5 = .ok (.aload_n 0, 1) := dq_42 (by decide +kernel)
theorem dX1_isSender_6 : decode cX1_isSender 6 = .ok (.getfield 33, 3) := dq_180 (a := 0) (b := 33) (by decide +kernel) rfl
theorem dX1_isSender_9 : decode cX1_isSender 9 = .ok (.if_icmp .ge 7, 3) := dq_162 (a := 0) (b := 7) (by decide +kernel) (by decide +kernel)
theorem dX1_isSender_12 : decode cX1_isSender 12 = .ok (.iconst 1, 1) := dq_4 (by decide +kernel)
theorem dX1_isSender_13 : decode cX1_isSender 13 = .ok (.goto 4, 3) := dq_167 (a := 0) (b := 4) (by decide +kernel) (by decide +kernel)
theorem dX1_distanceOf_0 : decode cX1_distanceOf 0 = .ok (.lconst 0, 1) := dq_9 (by decide +kernel)
theorem dX1_distanceOf_1 : decode cX1_distanceOf 1 = .ok (.lstore_n 3, 1) := dq_66 (by decide +kernel)
theorem dX1_distanceOf_2 : decode cX1_distanceOf 2 = .ok (.iconst 0, 1) := dq_3 (by decide +kernel)
theorem dX1_distanceOf_3 : decode cX1_distanceOf 3 = .ok (.istore 5, 2) := dq_54 (a := 5) (by decide +kernel) rfl
theorem dX1_distanceOf_5 : decode cX1_distanceOf 5 = .ok (.iload 5, 2) := dq_21 (a := 5) (by decide +kernel) rfl
theorem dX1_distanceOf_7 : decode cX1_distanceOf 7 = .ok (.aload_n 0, 1) := dq_42 (by decide +kernel)
theorem dX1_distanceOf_8 : decode cX1_distanceOf 8 = .ok (.getfield 36, 3) := dq_180 (a := 0) (b := 36) (by decide +kernel) rfl
theorem dX1_distanceOf_11 : decode cX1_distanceOf 11 = .ok (.if_icmp .ge 39, 3) := dq_162 (a := 0) (b := 39) (by decide +kernel) (by decide +kernel)
theorem dX1_distanceOf_50 : decode cX1_distanceOf 50 = .ok (.lload_n 3, 1) := dq_33 (by decide +kernel)
theorem dX1_distanceOf_51 : decode cX1_distanceOf 51 = .ok (.lreturn, 1) := dq_173 (by decide +kernel)
theorem dX1_distanceOf_14 : decode cX1_distanceOf 14 = .ok (.aload_n 2, 1) := dq_44 (by decide +kernel)
theorem dX1_distanceOf_15 : decode cX1_distanceOf 15 = .ok (.iload 5, 2) := dq_21 (a := 5) (by decide +kernel) rfl
theorem dX1_distanceOf_17 : decode cX1_distanceOf 17 = .ok (.iaload, 1) := dq_46 (by decide +kernel)
theorem dX1_distanceOf_18 : decode cX1_distanceOf 18 = .ok (.aload_n 0, 1) := dq_42 (by decide +kernel)
theorem dX1_distanceOf_19 : decode cX1_distanceOf 19 = .ok (.getfield 12, 3) := dq_180 (a := 0) (b := 12) (by decide +kernel) rfl
theorem dX1_distanceOf_22 : decode cX1_distanceOf 22 = .ok (.iload 5, 2) := dq_21 (a := 5) (by decide +kernel) rfl
theorem dX1_distanceOf_24 : decode cX1_distanceOf 24 = .ok (.aload_n 1, 1) := dq_43 (by decide +kernel)
theorem dX1_distanceOf_25 : decode cX1_distanceOf 25 = .ok (.aload_n 0, 1) := dq_42 (by decide +kernel)
theorem dX1_distanceOf_26 : decode cX1_distanceOf 26 = .ok (.getfield 33, 3) := dq_180 (a := 0) (b := 33) (by decide +kernel) rfl
theorem dX1_distanceOf_29 : decode cX1_distanceOf 29 = .ok (.invokevirtual 72, 3) := dq_182 (a := 0) (b := 72) (by decide +kernel) rfl
theorem dX1_distanceOf_32 : decode cX1_distanceOf 32 = .ok (.isub, 1) := dq_100 (by decide +kernel)
theorem dX1_distanceOf_33 : decode cX1_distanceOf 33 = .ok (.i2l, 1) := dq_133 (by decide +kernel)
theorem dX1_distanceOf_34 : decode cX1_distanceOf 34 = .ok (.lstore 6, 2) := dq_55 (a := 6) (by decide +kernel) rfl
theorem dX1_distanceOf_36 : decode cX1_distanceOf 36 = .ok (.lload_n 3, 1) := dq_33 (by decide +kernel)
theorem dX1_distanceOf_37 : decode cX1_distanceOf 37 = .ok (.lload 6, 2) := dq_22 (a := 6) (by decide +kernel) rfl
theorem dX1_distanceOf_39 : decode cX1_distanceOf 39 = .ok (.lload 6, 2) := dq_22 (a := 6) (by decide +kernel) rfl
theorem dX1_distanceOf_41 : decode cX1_distanceOf 41 = .ok (.lmul, 1) := dq_105 (by decide +kernel)
theorem dX1_distanceOf_42 : decode cX1_distanceOf 42 = .ok (.ladd, 1) := dq_97 (by decide +kernel)
theorem dX1_distanceOf_43 : decode cX1_distanceOf 43 = .ok (.lstore_n 3, 1) := dq_66 (by decide +kernel)
theorem dX1_distanceOf_44 : decode cX1_distanceOf 44 = .ok (.iinc 5 1, 3) := dq_132 (a := 5) (b := 1) (by decide +kernel) rfl (by decide +kernel)
theorem dX1_distanceOf_47 : decode cX1_distanceOf 47 = .ok (.goto (-42), 3) := dq_167 (a := 255) (b := 214) (by decide +kernel) (by decide +kernel)
theorem dX1_letterInRow_0 : decode cX1_letterInRow 0 = .ok (.aload_n 0, 1) := dq_42 (by decide +kernel)
theorem dX1_letterInRow_1 : decode cX1_letterInRow 1 = .ok (.aload_n 0, 1) := dq_42 (by decide +kernel)
theorem dX1_letterInRow_2 : decode cX1_letterInRow 2 = .ok (.iload_n 1, 1) := dq_27 (by decide +kernel)
theorem dX1_letterInRow_3 : decode cX1_letterInRow 3 = .ok (.iload_n 2, 1) := dq_28 (by decide +kernel)
theorem dX1_letterInRow_4 : decode cX1_letterInRow 4 = .ok (.invokevirtual 59, 3) := dq_182 (a := 0) (b := 59) (by decide +kernel) rfl
theorem dX1_digitInRow_0 : decode cX1_digitInRow 0 = .ok (.aload_n 0, 1) := dq_42 (by decide +kernel)
theorem dX1_digitInRow_1 : decode cX1_digitInRow 1 = .ok (.aload_n 0, 1) := dq_42 (by decide +kernel)
theorem dX1_digitInRow_2 : decode cX1_digitInRow 2 = .ok (.getfield 33, 3) := dq_180 (a := 0) (b := 33) (by decide +kernel) rfl
theorem dX1_digitInRow_5 : decode cX1_digitInRow 5 = .ok (.iconst 1, 1) := dq_4 (by decide +kernel)
theorem dX1_digitInRow_6 : decode cX1_digitInRow 6 = .ok (.isub, 1) := dq_100 (by decide +kernel)
theorem dX1_digitInRow_7 : decode cX1_digitInRow 7 = .ok (.iload_n 2, 1) := dq_28 (by decide +kernel)
theorem dX1_digitInRow_8 : decode cX1_digitInRow 8 = .ok (.isub, 1) := dq_100 (by decide +kernel)
theorem dX1_digitInRow_9 : decode cX1_digitInRow 9 = .ok (.invokevirtual 55, 3) := dq_182 (a := 0) (b := 55) (by decide +kernel) rfl
theorem dX1_rowsOf_0 : decode cX1_rowsOf 0 = .ok (.iconst 1, 1) := dq_4 (by decide +kernel)
theorem dX1_rowsOf_1 : decode cX1_rowsOf 1 = .ok (.istore_n 2, 1) := dq_61 (by decide +kernel)
theorem dX1_rowsOf_2 : decode cX1_rowsOf 2 = .ok (.iconst 0, 1) := dq_3 (by decide +kernel)
theorem dX1_rowsOf_3 : decode cX1_rowsOf 3 = .ok (.istore_n 3, 1) := dq_62 (by decide +kernel)
theorem dX1_rowsOf_4 : decode cX1_rowsOf 4 = .ok (.iload_n 3, 1) := dq_29 (by decide +kernel)
theorem dX1_rowsOf_5 : decode cX1_rowsOf 5 = .ok (.iload_n 1, 1) := dq_27 (by decide +kernel)
theorem dX1_rowsOf_6 : decode cX1_rowsOf 6 = .ok (.if_icmp .ge 16, 3) := dq_162 (a := 0) (b := 16) (by decide +kernel) (by decide +kernel)
theorem dX1_rowsOf_22 : decode cX1_rowsOf 22 = .ok (.iload_n 2, 1) := dq_28 (by decide +kernel)
theorem dX1_rowsOf_23 : decode cX1_rowsOf 23 = .ok (.ireturn, 1) := dq_172 (by decide +kernel)
theorem dX1_rowsOf_9 : decode cX1_rowsOf 9 = .ok (.iload_n 2, 1) := dq_28 (by decide +kernel)
theorem dX1_rowsOf_10 : decode cX1_rowsOf 10 = .ok (.aload_n 0, 1) := dq_42 (by decide +kernel)
theorem dX1_rowsOf_11 : decode cX1_rowsOf 11 = .ok (.getfield 29, 3) := dq_180 (a := 0) (b := 29) (by decide +kernel) rfl
theorem dX1_rowsOf_14 : decode cX1_rowsOf 14 = .ok (.imul, 1) := dq_104 (by decide +kernel)
theorem dX1_rowsOf_15 : decode cX1_rowsOf 15 = .ok (.istore_n 2, 1) := dq_61 (by decide +kernel)
theorem dX1_rowsOf_16 : decode cX1_rowsOf 16 = .ok (.iinc 3 1, 3) := dq_132 (a := 3) (b := 1) (by decide +kernel) rfl (by decide +kernel)
theorem dX1_rowsOf_19 : decode cX1_rowsOf 19 = .ok (.goto (-15), 3) := dq_167 (a := 255) (b := 241) (by decide +kernel) (by decide +kernel)
theorem dX1_digitInRow_12 : decode cX1_digitInRow 12 = .ok (.istore_n 3, 1) := dq_62 (by decide +kernel)
theorem dX1_digitInRow_13 : decode cX1_digitInRow 13 = .ok (.iload_n 3, 1) := dq_29 (by decide +kernel)
theorem dX1_digitInRow_14 : decode cX1_digitInRow 14 = .ok (.ifCond .eq 10, 3) := dq_153 (a := 0) (b := 10) (by decide +kernel) (by decide +kernel)
theorem dX1_digitInRow_24 : decode cX1_digitInRow 24 = .ok (.iconst 0, 1) := dq_3 (by decide +kernel)
theorem dX1_digitInRow_25 : decode cX1_digitInRow 25 = .ok (.goto 11, 3) := dq_167 (a := 0) (b := 11) (by decide +kernel) (by decide +kernel)
theorem dX1_digitInRow_36 : decode cX1_digitInRow 36 = .ok (.ireturn, 1) := dq_172 (by decide +kernel)
theorem dX1_digitInRow_17 : decode cX1_digitInRow 17 = .ok (.aload_n 0, 1) := dq_42 (by decide +kernel)
theorem dX1_digitInRow_18 : decode cX1_digitInRow 18 = .ok (.getfield 29, 3) := dq_180 (a := 0) (b := 29) (by decide +kernel) rfl
theorem dX1_digitInRow_21 : decode cX1_digitInRow 21 = .ok (.ifCond .ne 7, 3) := dq_154 (a := 0) (b := 7) (by decide +kernel) (by decide +kernel)
theorem dX1_digitInRow_28 : decode cX1_digitInRow 28 = .ok (.iload_n 1, 1) := dq_27 (by decide +kernel)
theorem dX1_digitInRow_29 : decode cX1_digitInRow 29 = .ok (.iload_n 3, 1) := dq_29 (by decide +kernel)
theorem dX1_digitInRow_30 : decode cX1_digitInRow 30 = .ok (.idiv, 1) := dq_108 (by decide +kernel)
theorem dX1_digitInRow_31 : decode cX1_digitInRow 31 = .ok (.aload_n 0, 1) := dq_42 (by decide +kernel)
theorem dX1_digitInRow_32 : decode cX1_digitInRow 32 = .ok (.getfield 29, 3) := dq_180 (a := 0) (b := 29) (by decide +kernel) rfl
theorem dX1_digitInRow_35 : decode cX1_digitInRow 35 = .ok (.irem, 1) := dq_112 (by decide +kernel)
theorem dX1_letterInRow_7 : decode cX1_letterInRow 7 = .ok (.invokevirtual 63, 3) := dq_182 (a := 0) (b := 63) (by decide +kernel) rfl
theorem dX1_letterOfDigit_0 : decode cX1_letterOfDigit 0 = .ok (.iconst 2, 1) := dq_5 (by decide +kernel)
theorem dX1_letterOfDigit_1 : decode cX1_letterOfDigit 1 = .ok (.iload_n 1, 1) := dq_27 (by decide +kernel)
theorem dX1_letterOfDigit_2 : decode cX1_letterOfDigit 2 = .ok (.imul, 1) := dq_104 (by decide +kernel)
theorem dX1_letterOfDigit_3 : decode cX1_letterOfDigit 3 = .ok (.aload_n 0, 1) := dq_42 (by decide +kernel)
theorem dX1_letterOfDigit_4 : decode cX1_letterOfDigit 4 = .ok (.getfield 29, 3) := dq_180 (a := 0) (b := 29) (by decide +kernel) rfl
theorem dX1_letterOfDigit_7 : decode cX1_letterOfDigit 7 = .ok (.iconst 1, 1) := dq_4 (by decide +kernel)
theorem dX1_letterOfDigit_8 : decode cX1_letterOfDigit 8 = .ok (.isub, 1) := dq_100 (by decide +kernel)
theorem dX1_letterOfDigit_9 : decode cX1_letterOfDigit 9 = .ok (.isub, 1) := dq_100 (by decide +kernel)
theorem dX1_letterOfDigit_10 : decode cX1_letterOfDigit 10 = .ok (.ireturn, 1) := dq_172 (by decide +kernel)
theorem dX1_letterInRow_10 : decode cX1_letterInRow 10 = .ok (.ireturn, 1) := dq_172 (by decide +kernel)
theorem dX1_rowCount_0 : decode cX1_rowCount 0 = .ok (.aload_n 0, 1) := dq_42 (by decide +kernel)
theorem dX1_rowCount_1 : decode cX1_rowCount 1 = .ok (.getfield 33, 3) := dq_180 (a := 0) (b := 33) (by decide +kernel) rfl
theorem dX1_rowCount_4 : decode cX1_rowCount 4 = .ok (.ifCond .ne 7, 3) := dq_154 (a := 0) (b := 7) (by decide +kernel) (by decide +kernel)
theorem dX1_rowCount_11 : decode cX1_rowCount 11 = .ok (.aload_n 0, 1) := dq_42 (by decide +kernel)
theorem dX1_rowCount_12 : decode cX1_rowCount 12 = .ok (.aload_n 0, 1) := dq_42 (by decide +kernel)
theorem dX1_rowCount_13 : decode cX1_rowCount 13 = .ok (.getfield 33, 3) := dq_180 (a := 0) (b := 33) (by decide +kernel) rfl
theorem dX1_rowCount_16 : decode cX1_rowCount 16 = .ok (.invokevirtual 55, 3) := dq_182 (a := 0) (b := 55) (by decide +kernel) rfl
theorem dX1_rowCount_19 : decode cX1_rowCount 19 = .ok (.ireturn, 1) := dq_172 (by decide +kernel)
theorem dX1_rowCount_7 : decode cX1_rowCount 7 = .ok (.iconst 0, 1) := dq_3 (by decide +kernel)
theorem dX1_rowCount_8 : decode cX1_rowCount 8 = .ok (.goto 11, 3) := dq_167 (a := 0) (b := 11) (by decide +kernel) (by decide +kernel)
theorem dX1_digitOfLetter_0 : decode cX1_digitOfLetter 0 = .ok (.iload_n 1, 1) := dq_27 (by decide +kernel)
theorem dX1_digitOfLetter_1 : decode cX1_digitOfLetter 1 = .ok (.aload_n 0, 1) := dq_42 (by decide +kernel)
theorem dX1_digitOfLetter_2 : decode cX1_digitOfLetter 2 = .ok (.getfield 29, 3) := dq_180 (a := 0) (b := 29) (by decide +kernel) rfl
theorem dX1_digitOfLetter_5 : decode cX1_digitOfLetter 5 = .ok (.iadd, 1) := dq_96 (by decide +kernel)
theorem dX1_digitOfLetter_6 : decode cX1_digitOfLetter 6 = .ok (.iconst 1, 1) := dq_4 (by decide +kernel)
theorem dX1_digitOfLetter_7 : decode cX1_digitOfLetter 7 = .ok (.isub, 1) := dq_100 (by decide +kernel)
theorem dX1_digitOfLetter_8 : decode cX1_digitOfLetter 8 = .ok (.iconst 2, 1) := dq_5 (by decide +kernel)
theorem dX1_digitOfLetter_9 : decode cX1_digitOfLetter 9 = .ok (.idiv, 1) := dq_108 (by decide +kernel)
theorem dX1_digitOfLetter_10 : decode cX1_digitOfLetter 10 = .ok (.ireturn, 1) := dq_172 (by decide +kernel)
theorem dX1_isSenderSet_0 : decode cX1_isSenderSet 0 = .ok (.iload_n 1, 1) := dq_27 (by decide +kernel)
theorem dX1_isSenderSet_1 : decode cX1_isSenderSet 1 = .ok (.ifCond .le 17, 3) := dq_158 (a := 0) (b := 17) (by decide +kernel) (by decide +kernel)
theorem dX1_isSenderSet_18 : decode cX1_isSenderSet 18 = .ok (.iconst 0, 1) := dq_3 (by decide +kernel)
theorem dX1_isSenderSet_19 : decode cX1_isSenderSet 19 = .ok (.ireturn, 1) := dq_172 (by decide +kernel)
theorem dX1_isSenderSet_4 : decode cX1_isSenderSet 4 = .ok (.iload_n 1, 1) := dq_27 (by decide +kernel)
theorem dX1_isSenderSet_5 : decode cX1_isSenderSet 5 = .ok (.iconst 1, 1) := dq_4 (by decide +kernel)
theorem dX1_isSenderSet_6 : decode cX1_isSenderSet 6 = .ok (.aload_n 0, 1) := dq_42 (by decide +kernel)
theorem dX1_isSenderSet_7 : decode cX1_isSenderSet 7 = .ok (.getfield 33, 3) := dq_180 (a := 0) (b := 33) (by decide +kernel) rfl
theorem dX1_isSenderSet_10 : decode cX1_isSenderSet 10 = .ok (.ishl, 1) := dq_120 (by decide +kernel)
theorem dX1_isSenderSet_11 : decode cX1_isSenderSet 11 = .ok (.if_icmp .ge 7, 3) := dq_162 (a := 0) (b := 7) (by decide +kernel) (by decide +kernel)
theorem dX1_isSenderSet_14 : decode cX1_isSenderSet 14 = .ok (.iconst 1, 1) := dq_4 (by decide +kernel)
theorem dX1_isSenderSet_15 : decode cX1_isSenderSet 15 = .ok (.goto 4, 3) := dq_167 (a := 0) (b := 4) (by decide +kernel) (by decide +kernel)
theorem dX1_isWord_0 : decode cX1_isWord 0 = .ok (.iload_n 1, 1) := dq_27 (by decide +kernel)
theorem dX1_isWord_1 : decode cX1_isWord 1 = .ok (.ifCond .lt 15, 3) := dq_155 (a := 0) (b := 15) (by decide +kernel) (by decide +kernel)
theorem dX1_isWord_16 : decode cX1_isWord 16 = .ok (.iconst 0, 1) := dq_3 (by decide +kernel)
theorem dX1_isWord_17 : decode cX1_isWord 17 = .ok (.ireturn, 1) := dq_172 (by decide +kernel)
theorem dX1_isWord_4 : decode cX1_isWord 4 = .ok (.iload_n 1, 1) := dq_27 (by decide +kernel)
theorem dX1_isWord_5 : decode cX1_isWord 5 = .ok (.aload_n 0, 1) := dq_42 (by decide +kernel)
theorem dX1_isWord_6 : decode cX1_isWord 6 = .ok (.getfield 42, 3) := dq_180 (a := 0) (b := 42) (by decide +kernel) rfl
theorem dX1_isWord_9 : decode cX1_isWord 9 = .ok (.if_icmp .ge 7, 3) := dq_162 (a := 0) (b := 7) (by decide +kernel) (by decide +kernel)
theorem dX1_isWord_12 : decode cX1_isWord 12 = .ok (.iconst 1, 1) := dq_4 (by decide +kernel)
theorem dX1_isWord_13 : decode cX1_isWord 13 = .ok (.goto 4, 3) := dq_167 (a := 0) (b := 4) (by decide +kernel) (by decide +kernel)
theorem dX1_letterOfWord_0 : decode cX1_letterOfWord 0 = .ok (.aload_n 0, 1) := dq_42 (by decide +kernel)
theorem dX1_letterOfWord_1 : decode cX1_letterOfWord 1 = .ok (.getfield 25, 3) := dq_180 (a := 0) (b := 25) (by decide +kernel) rfl
theorem dX1_letterOfWord_4 : decode cX1_letterOfWord 4 = .ok (.iload_n 1, 1) := dq_27 (by decide +kernel)
theorem dX1_letterOfWord_5 : decode cX1_letterOfWord 5 = .ok (.iconst 5, 1) := dq_8 (by decide +kernel)
theorem dX1_letterOfWord_6 : decode cX1_letterOfWord 6 = .ok (.imul, 1) := dq_104 (by decide +kernel)
theorem dX1_letterOfWord_7 : decode cX1_letterOfWord 7 = .ok (.iload_n 2, 1) := dq_28 (by decide +kernel)
theorem dX1_letterOfWord_8 : decode cX1_letterOfWord 8 = .ok (.iadd, 1) := dq_96 (by decide +kernel)
theorem dX1_letterOfWord_9 : decode cX1_letterOfWord 9 = .ok (.iaload, 1) := dq_46 (by decide +kernel)
theorem dX1_letterOfWord_10 : decode cX1_letterOfWord 10 = .ok (.ireturn, 1) := dq_172 (by decide +kernel)
theorem dX1_mostPower_0 : decode cX1_mostPower 0 = .ok (.iconst 0, 1) := dq_3 (by decide +kernel)
theorem dX1_mostPower_1 : decode cX1_mostPower 1 = .ok (.istore_n 1, 1) := dq_60 (by decide +kernel)
theorem dX1_mostPower_2 : decode cX1_mostPower 2 = .ok (.iconst 0, 1) := dq_3 (by decide +kernel)
theorem dX1_mostPower_3 : decode cX1_mostPower 3 = .ok (.istore_n 2, 1) := dq_61 (by decide +kernel)
theorem dX1_mostPower_4 : decode cX1_mostPower 4 = .ok (.iload_n 2, 1) := dq_28 (by decide +kernel)
theorem dX1_mostPower_5 : decode cX1_mostPower 5 = .ok (.aload_n 0, 1) := dq_42 (by decide +kernel)
theorem dX1_mostPower_6 : decode cX1_mostPower 6 = .ok (.getfield 42, 3) := dq_180 (a := 0) (b := 42) (by decide +kernel) rfl
theorem dX1_mostPower_9 : decode cX1_mostPower 9 = .ok (.if_icmp .ge 53, 3) := dq_162 (a := 0) (b := 53) (by decide +kernel) (by decide +kernel)
theorem dX1_mostPower_62 : decode cX1_mostPower 62 = .ok (.iload_n 1, 1) := dq_27 (by decide +kernel)
theorem dX1_mostPower_63 : decode cX1_mostPower 63 = .ok (.ireturn, 1) := dq_172 (by decide +kernel)
theorem dX1_mostPower_12 : decode cX1_mostPower 12 = .ok (.iconst 0, 1) := dq_3 (by decide +kernel)
theorem dX1_mostPower_13 : decode cX1_mostPower 13 = .ok (.istore_n 3, 1) := dq_62 (by decide +kernel)
theorem dX1_mostPower_14 : decode cX1_mostPower 14 = .ok (.iconst 0, 1) := dq_3 (by decide +kernel)
theorem dX1_mostPower_15 : decode cX1_mostPower 15 = .ok (.istore 4, 2) := dq_54 (a := 4) (by decide +kernel) rfl
theorem dX1_mostPower_17 : decode cX1_mostPower 17 = .ok (.iload 4, 2) := dq_21 (a := 4) (by decide +kernel) rfl
theorem dX1_mostPower_19 : decode cX1_mostPower 19 = .ok (.aload_n 0, 1) := dq_42 (by decide +kernel)
theorem dX1_mostPower_20 : decode cX1_mostPower 20 = .ok (.getfield 33, 3) := dq_180 (a := 0) (b := 33) (by decide +kernel) rfl
theorem dX1_mostPower_23 : decode cX1_mostPower 23 = .ok (.if_icmp .ge 27, 3) := dq_162 (a := 0) (b := 27) (by decide +kernel) (by decide +kernel)
theorem dX1_mostPower_50 : decode cX1_mostPower 50 = .ok (.iload_n 1, 1) := dq_27 (by decide +kernel)
theorem dX1_mostPower_51 : decode cX1_mostPower 51 = .ok (.iload_n 3, 1) := dq_29 (by decide +kernel)
theorem dX1_mostPower_52 : decode cX1_mostPower 52 = .ok (.invokestatic 76, 3) := dq_184 (a := 0) (b := 76) (by decide +kernel) rfl
theorem dX1_mostPower_55 : decode cX1_mostPower 55 = .ok (.istore_n 1, 1) := dq_60 (by decide +kernel)
theorem dX1_mostPower_56 : decode cX1_mostPower 56 = .ok (.iinc 2 1, 3) := dq_132 (a := 2) (b := 1) (by decide +kernel) rfl (by decide +kernel)
theorem dX1_mostPower_59 : decode cX1_mostPower 59 = .ok (.goto (-55), 3) := dq_167 (a := 255) (b := 201) (by decide +kernel) (by decide +kernel)
theorem dX1_mostPower_26 : decode cX1_mostPower 26 = .ok (.iload_n 3, 1) := dq_29 (by decide +kernel)
theorem dX1_mostPower_27 : decode cX1_mostPower 27 = .ok (.aload_n 0, 1) := dq_42 (by decide +kernel)
theorem dX1_mostPower_28 : decode cX1_mostPower 28 = .ok (.iload_n 2, 1) := dq_28 (by decide +kernel)
theorem dX1_mostPower_29 : decode cX1_mostPower 29 = .ok (.iload 4, 2) := dq_21 (a := 4) (by decide +kernel) rfl
theorem dX1_mostPower_31 : decode cX1_mostPower 31 = .ok (.invokevirtual 69, 3) := dq_182 (a := 0) (b := 69) (by decide +kernel) rfl
theorem dX1_mostPower_34 : decode cX1_mostPower 34 = .ok (.aload_n 0, 1) := dq_42 (by decide +kernel)
theorem dX1_mostPower_35 : decode cX1_mostPower 35 = .ok (.iload_n 2, 1) := dq_28 (by decide +kernel)
theorem dX1_mostPower_36 : decode cX1_mostPower 36 = .ok (.iload 4, 2) := dq_21 (a := 4) (by decide +kernel) rfl
theorem dX1_mostPower_38 : decode cX1_mostPower 38 = .ok (.invokevirtual 69, 3) := dq_182 (a := 0) (b := 69) (by decide +kernel) rfl
theorem dX1_mostPower_41 : decode cX1_mostPower 41 = .ok (.imul, 1) := dq_104 (by decide +kernel)
theorem dX1_mostPower_42 : decode cX1_mostPower 42 = .ok (.iadd, 1) := dq_96 (by decide +kernel)
theorem dX1_mostPower_43 : decode cX1_mostPower 43 = .ok (.istore_n 3, 1) := dq_62 (by decide +kernel)
theorem dX1_mostPower_44 : decode cX1_mostPower 44 = .ok (.iinc 4 1, 3) := dq_132 (a := 4) (b := 1) (by decide +kernel) rfl (by decide +kernel)
theorem dX1_mostPower_47 : decode cX1_mostPower 47 = .ok (.goto (-30), 3) := dq_167 (a := 255) (b := 226) (by decide +kernel) (by decide +kernel)
theorem dX1_copyWord_0 : decode cX1_copyWord 0 = .ok (.iconst 0, 1) := dq_3 (by decide +kernel)
theorem dX1_copyWord_1 : decode cX1_copyWord 1 = .ok (.istore_n 3, 1) := dq_62 (by decide +kernel)
theorem dX1_copyWord_2 : decode cX1_copyWord 2 = .ok (.iload_n 3, 1) := dq_29 (by decide +kernel)
theorem dX1_copyWord_3 : decode cX1_copyWord 3 = .ok (.aload_n 0, 1) := dq_42 (by decide +kernel)
theorem dX1_copyWord_4 : decode cX1_copyWord 4 = .ok (.getfield 33, 3) := dq_180 (a := 0) (b := 33) (by decide +kernel) rfl
theorem dX1_copyWord_7 : decode cX1_copyWord 7 = .ok (.if_icmp .ge 18, 3) := dq_162 (a := 0) (b := 18) (by decide +kernel) (by decide +kernel)
theorem dX1_copyWord_25 : decode cX1_copyWord 25 = .ok (.return_, 1) := dq_177 (by decide +kernel)
theorem dX1_copyWord_10 : decode cX1_copyWord 10 = .ok (.aload_n 2, 1) := dq_44 (by decide +kernel)
theorem dX1_copyWord_11 : decode cX1_copyWord 11 = .ok (.iload_n 3, 1) := dq_29 (by decide +kernel)
theorem dX1_copyWord_12 : decode cX1_copyWord 12 = .ok (.aload_n 0, 1) := dq_42 (by decide +kernel)
theorem dX1_copyWord_13 : decode cX1_copyWord 13 = .ok (.iload_n 1, 1) := dq_27 (by decide +kernel)
theorem dX1_copyWord_14 : decode cX1_copyWord 14 = .ok (.iload_n 3, 1) := dq_29 (by decide +kernel)
theorem dX1_copyWord_15 : decode cX1_copyWord 15 = .ok (.invokevirtual 69, 3) := dq_182 (a := 0) (b := 69) (by decide +kernel) rfl
theorem dX1_copyWord_18 : decode cX1_copyWord 18 = .ok (.iastore, 1) := dq_79 (by decide +kernel)
theorem dX1_copyWord_19 : decode cX1_copyWord 19 = .ok (.iinc 3 1, 3) := dq_132 (a := 3) (b := 1) (by decide +kernel) rfl (by decide +kernel)
theorem dX1_copyWord_22 : decode cX1_copyWord 22 = .ok (.goto (-20), 3) := dq_167 (a := 255) (b := 236) (by decide +kernel) (by decide +kernel)
theorem dX1_rowOfLetters_0 : decode cX1_rowOfLetters 0 = .ok (.iconst 0, 1) := dq_3 (by decide +kernel)
theorem dX1_rowOfLetters_1 : decode cX1_rowOfLetters 1 = .ok (.istore_n 2, 1) := dq_61 (by decide +kernel)
theorem dX1_rowOfLetters_2 : decode cX1_rowOfLetters 2 = .ok (.iconst 0, 1) := dq_3 (by decide +kernel)
theorem dX1_rowOfLetters_3 : decode cX1_rowOfLetters 3 = .ok (.istore_n 3, 1) := dq_62 (by decide +kernel)
theorem dX1_rowOfLetters_4 : decode cX1_rowOfLetters 4 = .ok (.iload_n 3, 1) := dq_29 (by decide +kernel)
theorem dX1_rowOfLetters_5 : decode cX1_rowOfLetters 5 = .ok (.aload_n 0, 1) := dq_42 (by decide +kernel)
theorem dX1_rowOfLetters_6 : decode cX1_rowOfLetters 6 = .ok (.getfield 33, 3) := dq_180 (a := 0) (b := 33) (by decide +kernel) rfl
theorem dX1_rowOfLetters_9 : decode cX1_rowOfLetters 9 = .ok (.if_icmp .ge 24, 3) := dq_162 (a := 0) (b := 24) (by decide +kernel) (by decide +kernel)
theorem dX1_rowOfLetters_33 : decode cX1_rowOfLetters 33 = .ok (.iload_n 2, 1) := dq_28 (by decide +kernel)
theorem dX1_rowOfLetters_34 : decode cX1_rowOfLetters 34 = .ok (.ireturn, 1) := dq_172 (by decide +kernel)
theorem dX1_rowOfLetters_12 : decode cX1_rowOfLetters 12 = .ok (.iload_n 2, 1) := dq_28 (by decide +kernel)
theorem dX1_rowOfLetters_13 : decode cX1_rowOfLetters 13 = .ok (.aload_n 0, 1) := dq_42 (by decide +kernel)
theorem dX1_rowOfLetters_14 : decode cX1_rowOfLetters 14 = .ok (.getfield 29, 3) := dq_180 (a := 0) (b := 29) (by decide +kernel) rfl
theorem dX1_rowOfLetters_17 : decode cX1_rowOfLetters 17 = .ok (.imul, 1) := dq_104 (by decide +kernel)
theorem dX1_rowOfLetters_18 : decode cX1_rowOfLetters 18 = .ok (.aload_n 0, 1) := dq_42 (by decide +kernel)
theorem dX1_rowOfLetters_19 : decode cX1_rowOfLetters 19 = .ok (.aload_n 1, 1) := dq_43 (by decide +kernel)
theorem dX1_rowOfLetters_20 : decode cX1_rowOfLetters 20 = .ok (.iload_n 3, 1) := dq_29 (by decide +kernel)
theorem dX1_rowOfLetters_21 : decode cX1_rowOfLetters 21 = .ok (.iaload, 1) := dq_46 (by decide +kernel)
theorem dX1_rowOfLetters_22 : decode cX1_rowOfLetters 22 = .ok (.invokevirtual 66, 3) := dq_182 (a := 0) (b := 66) (by decide +kernel) rfl
theorem dX1_rowOfLetters_25 : decode cX1_rowOfLetters 25 = .ok (.iadd, 1) := dq_96 (by decide +kernel)
theorem dX1_rowOfLetters_26 : decode cX1_rowOfLetters 26 = .ok (.istore_n 2, 1) := dq_61 (by decide +kernel)
theorem dX1_rowOfLetters_27 : decode cX1_rowOfLetters 27 = .ok (.iinc 3 1, 3) := dq_132 (a := 3) (b := 1) (by decide +kernel) rfl (by decide +kernel)
theorem dX1_rowOfLetters_30 : decode cX1_rowOfLetters 30 = .ok (.goto (-26), 3) := dq_167 (a := 255) (b := 230) (by decide +kernel) (by decide +kernel)
theorem dX1_worthOf_0 : decode cX1_worthOf 0 = .ok (.aload_n 0, 1) := dq_42 (by decide +kernel)
theorem dX1_worthOf_1 : decode cX1_worthOf 1 = .ok (.getfield 21, 3) := dq_180 (a := 0) (b := 21) (by decide +kernel) rfl
theorem dX1_worthOf_4 : decode cX1_worthOf 4 = .ok (.iload_n 1, 1) := dq_27 (by decide +kernel)
theorem dX1_worthOf_5 : decode cX1_worthOf 5 = .ok (.aload_n 0, 1) := dq_42 (by decide +kernel)
theorem dX1_worthOf_6 : decode cX1_worthOf 6 = .ok (.getfield 12, 3) := dq_180 (a := 0) (b := 12) (by decide +kernel) rfl
theorem dX1_worthOf_9 : decode cX1_worthOf 9 = .ok (.iload_n 1, 1) := dq_27 (by decide +kernel)
theorem dX1_worthOf_10 : decode cX1_worthOf 10 = .ok (.iload_n 1, 1) := dq_27 (by decide +kernel)
theorem dX1_worthOf_11 : decode cX1_worthOf 11 = .ok (.invokevirtual 81, 3) := dq_182 (a := 0) (b := 81) (by decide +kernel) rfl
theorem dX1_worthOf_14 : decode cX1_worthOf 14 = .ok (.aload_n 0, 1) := dq_42 (by decide +kernel)
theorem dX1_worthOf_15 : decode cX1_worthOf 15 = .ok (.getfield 12, 3) := dq_180 (a := 0) (b := 12) (by decide +kernel) rfl
theorem dX1_worthOf_18 : decode cX1_worthOf 18 = .ok (.iload_n 1, 1) := dq_27 (by decide +kernel)
theorem dX1_worthOf_19 : decode cX1_worthOf 19 = .ok (.invokevirtual 84, 3) := dq_182 (a := 0) (b := 84) (by decide +kernel) rfl
theorem dX1_worthOf_22 : decode cX1_worthOf 22 = .ok (.invokevirtual 87, 3) := dq_182 (a := 0) (b := 87) (by decide +kernel) rfl
theorem dX1_worthOf_25 : decode cX1_worthOf 25 = .ok (.ireturn, 1) := dq_172 (by decide +kernel)
theorem dX10_start_0 : decode cX10_start 0 = .ok (.aload_n 0, 1) := dq_42 (by decide +kernel)
theorem dX10_start_1 : decode cX10_start 1 = .ok (.iconst 0, 1) := dq_3 (by decide +kernel)
theorem dX10_start_2 : decode cX10_start 2 = .ok (.aload_n 1, 1) := dq_43 (by decide +kernel)
theorem dX10_start_3 : decode cX10_start 3 = .ok (.getfield 38, 3) := dq_180 (a := 0) (b := 38) (by decide +kernel) rfl
theorem dX10_start_6 : decode cX10_start 6 = .ok (.iconst 1, 1) := dq_4 (by decide +kernel)
theorem dX10_start_7 : decode cX10_start 7 = .ok (.isub, 1) := dq_100 (by decide +kernel)
theorem dX10_start_8 : decode cX10_start 8 = .ok (.invokestatic 43, 3) := dq_184 (a := 0) (b := 43) (by decide +kernel) rfl
theorem dX10_start_11 : decode cX10_start 11 = .ok (.putfield 34, 3) := dq_181 (a := 0) (b := 34) (by decide +kernel) rfl
theorem dX10_start_14 : decode cX10_start 14 = .ok (.iconst 0, 1) := dq_3 (by decide +kernel)
theorem dX10_start_15 : decode cX10_start 15 = .ok (.istore_n 2, 1) := dq_61 (by decide +kernel)
theorem dX10_start_16 : decode cX10_start 16 = .ok (.iload_n 2, 1) := dq_28 (by decide +kernel)
theorem dX10_start_17 : decode cX10_start 17 = .ok (.aload_n 0, 1) := dq_42 (by decide +kernel)
theorem dX10_start_18 : decode cX10_start 18 = .ok (.getfield 34, 3) := dq_180 (a := 0) (b := 34) (by decide +kernel) rfl
theorem dX10_start_21 : decode cX10_start 21 = .ok (.if_icmp .gt 52, 3) := dq_163 (a := 0) (b := 52) (by decide +kernel) (by decide +kernel)
theorem dX10_start_24 : decode cX10_start 24 = .ok (.iconst 0, 1) := dq_3 (by decide +kernel)
theorem dX10_start_25 : decode cX10_start 25 = .ok (.istore_n 3, 1) := dq_62 (by decide +kernel)
theorem dX10_start_26 : decode cX10_start 26 = .ok (.iload_n 3, 1) := dq_29 (by decide +kernel)
theorem dX10_start_27 : decode cX10_start 27 = .ok (.aload_n 0, 1) := dq_42 (by decide +kernel)
theorem dX10_start_28 : decode cX10_start 28 = .ok (.getfield 34, 3) := dq_180 (a := 0) (b := 34) (by decide +kernel) rfl
theorem dX10_start_31 : decode cX10_start 31 = .ok (.if_icmp .gt 29, 3) := dq_163 (a := 0) (b := 29) (by decide +kernel) (by decide +kernel)
theorem dX10_start_34 : decode cX10_start 34 = .ok (.aload_n 0, 1) := dq_42 (by decide +kernel)
theorem dX10_start_35 : decode cX10_start 35 = .ok (.getfield 9, 3) := dq_180 (a := 0) (b := 9) (by decide +kernel) rfl
theorem dX10_start_38 : decode cX10_start 38 = .ok (.iload_n 2, 1) := dq_28 (by decide +kernel)
theorem dX10_start_39 : decode cX10_start 39 = .ok (.iconst 5, 1) := dq_8 (by decide +kernel)
theorem dX10_start_40 : decode cX10_start 40 = .ok (.imul, 1) := dq_104 (by decide +kernel)
theorem dX10_start_41 : decode cX10_start 41 = .ok (.iload_n 3, 1) := dq_29 (by decide +kernel)
theorem dX10_start_42 : decode cX10_start 42 = .ok (.iadd, 1) := dq_96 (by decide +kernel)
theorem dX10_start_43 : decode cX10_start 43 = .ok (.aload_n 1, 1) := dq_43 (by decide +kernel)
theorem dX10_start_44 : decode cX10_start 44 = .ok (.getfield 49, 3) := dq_180 (a := 0) (b := 49) (by decide +kernel) rfl
theorem dX10_start_47 : decode cX10_start 47 = .ok (.iload_n 2, 1) := dq_28 (by decide +kernel)
theorem dX10_start_48 : decode cX10_start 48 = .ok (.iload_n 3, 1) := dq_29 (by decide +kernel)
theorem dX10_start_49 : decode cX10_start 49 = .ok (.invokevirtual 53, 3) := dq_182 (a := 0) (b := 53) (by decide +kernel) rfl
theorem dX10_start_52 : decode cX10_start 52 = .ok (.i2l, 1) := dq_133 (by decide +kernel)
theorem dX10_start_53 : decode cX10_start 53 = .ok (.lastore, 1) := dq_80 (by decide +kernel)
theorem dX10_start_54 : decode cX10_start 54 = .ok (.iinc 3 1, 3) := dq_132 (a := 3) (b := 1) (by decide +kernel) rfl (by decide +kernel)
theorem dX10_start_57 : decode cX10_start 57 = .ok (.goto (-31), 3) := dq_167 (a := 255) (b := 225) (by decide +kernel) (by decide +kernel)
theorem dX10_start_60 : decode cX10_start 60 = .ok (.aload_n 0, 1) := dq_42 (by decide +kernel)
theorem dX10_start_61 : decode cX10_start 61 = .ok (.getfield 18, 3) := dq_180 (a := 0) (b := 18) (by decide +kernel) rfl
theorem dX10_start_64 : decode cX10_start 64 = .ok (.iload_n 2, 1) := dq_28 (by decide +kernel)
theorem dX10_start_65 : decode cX10_start 65 = .ok (.lconst 0, 1) := dq_9 (by decide +kernel)
theorem dX10_start_66 : decode cX10_start 66 = .ok (.lastore, 1) := dq_80 (by decide +kernel)
theorem dX10_start_67 : decode cX10_start 67 = .ok (.iinc 2 1, 3) := dq_132 (a := 2) (b := 1) (by decide +kernel) rfl (by decide +kernel)
theorem dX10_start_70 : decode cX10_start 70 = .ok (.goto (-54), 3) := dq_167 (a := 255) (b := 202) (by decide +kernel) (by decide +kernel)
theorem dX10_start_73 : decode cX10_start 73 = .ok (.aload_n 0, 1) := dq_42 (by decide +kernel)
theorem dX10_start_74 : decode cX10_start 74 = .ok (.getfield 15, 3) := dq_180 (a := 0) (b := 15) (by decide +kernel) rfl
theorem dX10_start_77 : decode cX10_start 77 = .ok (.iconst 0, 1) := dq_3 (by decide +kernel)
theorem dX10_start_78 : decode cX10_start 78 = .ok (.lconst 0, 1) := dq_9 (by decide +kernel)
theorem dX10_start_79 : decode cX10_start 79 = .ok (.lastore, 1) := dq_80 (by decide +kernel)
theorem dX10_start_80 : decode cX10_start 80 = .ok (.return_, 1) := dq_177 (by decide +kernel)
theorem dX10_aimAt_0 : decode cX10_aimAt 0 = .ok (.lconst 0, 1) := dq_9 (by decide +kernel)
theorem dX10_aimAt_1 : decode cX10_aimAt 1 = .ok (.lstore_n 3, 1) := dq_66 (by decide +kernel)
theorem dX10_aimAt_2 : decode cX10_aimAt 2 = .ok (.iconst 0, 1) := dq_3 (by decide +kernel)
theorem dX10_aimAt_3 : decode cX10_aimAt 3 = .ok (.istore 5, 2) := dq_54 (a := 5) (by decide +kernel) rfl
theorem dX10_aimAt_5 : decode cX10_aimAt 5 = .ok (.iload 5, 2) := dq_21 (a := 5) (by decide +kernel) rfl
theorem dX10_aimAt_7 : decode cX10_aimAt 7 = .ok (.aload_n 1, 1) := dq_43 (by decide +kernel)
theorem dX10_aimAt_8 : decode cX10_aimAt 8 = .ok (.getfield 58, 3) := dq_180 (a := 0) (b := 58) (by decide +kernel) rfl
theorem dX10_aimAt_11 : decode cX10_aimAt 11 = .ok (.if_icmp .ge 23, 3) := dq_162 (a := 0) (b := 23) (by decide +kernel) (by decide +kernel)
theorem dX10_aimAt_34 : decode cX10_aimAt 34 = .ok (.aload_n 0, 1) := dq_42 (by decide +kernel)
theorem dX10_aimAt_35 : decode cX10_aimAt 35 = .ok (.getfield 15, 3) := dq_180 (a := 0) (b := 15) (by decide +kernel) rfl
theorem dX10_aimAt_38 : decode cX10_aimAt 38 = .ok (.iconst 0, 1) := dq_3 (by decide +kernel)
theorem dX10_aimAt_39 : decode cX10_aimAt 39 = .ok (.lload_n 3, 1) := dq_33 (by decide +kernel)
theorem dX10_aimAt_40 : decode cX10_aimAt 40 = .ok (.lastore, 1) := dq_80 (by decide +kernel)
theorem dX10_aimAt_41 : decode cX10_aimAt 41 = .ok (.iconst 0, 1) := dq_3 (by decide +kernel)
theorem dX10_aimAt_42 : decode cX10_aimAt 42 = .ok (.istore 5, 2) := dq_54 (a := 5) (by decide +kernel) rfl
theorem dX10_aimAt_44 : decode cX10_aimAt 44 = .ok (.iload 5, 2) := dq_21 (a := 5) (by decide +kernel) rfl
theorem dX10_aimAt_46 : decode cX10_aimAt 46 = .ok (.aload_n 0, 1) := dq_42 (by decide +kernel)
theorem dX10_aimAt_47 : decode cX10_aimAt 47 = .ok (.getfield 34, 3) := dq_180 (a := 0) (b := 34) (by decide +kernel) rfl
theorem dX10_aimAt_50 : decode cX10_aimAt 50 = .ok (.if_icmp .gt 62, 3) := dq_163 (a := 0) (b := 62) (by decide +kernel) (by decide +kernel)
theorem dX10_aimAt_53 : decode cX10_aimAt 53 = .ok (.lconst 0, 1) := dq_9 (by decide +kernel)
theorem dX10_aimAt_54 : decode cX10_aimAt 54 = .ok (.lstore 6, 2) := dq_55 (a := 6) (by decide +kernel) rfl
theorem dX10_aimAt_56 : decode cX10_aimAt 56 = .ok (.iconst 0, 1) := dq_3 (by decide +kernel)
theorem dX10_aimAt_57 : decode cX10_aimAt 57 = .ok (.istore 8, 2) := dq_54 (a := 8) (by decide +kernel) rfl
theorem dX10_aimAt_59 : decode cX10_aimAt 59 = .ok (.iload 8, 2) := dq_21 (a := 8) (by decide +kernel) rfl
theorem dX10_aimAt_61 : decode cX10_aimAt 61 = .ok (.aload_n 1, 1) := dq_43 (by decide +kernel)
theorem dX10_aimAt_62 : decode cX10_aimAt 62 = .ok (.getfield 58, 3) := dq_180 (a := 0) (b := 58) (by decide +kernel) rfl
theorem dX10_aimAt_65 : decode cX10_aimAt 65 = .ok (.if_icmp .ge 32, 3) := dq_162 (a := 0) (b := 32) (by decide +kernel) (by decide +kernel)
theorem dX10_aimAt_97 : decode cX10_aimAt 97 = .ok (.aload_n 0, 1) := dq_42 (by decide +kernel)
theorem dX10_aimAt_98 : decode cX10_aimAt 98 = .ok (.getfield 18, 3) := dq_180 (a := 0) (b := 18) (by decide +kernel) rfl
theorem dX10_aimAt_101 : decode cX10_aimAt 101 = .ok (.iload 5, 2) := dq_21 (a := 5) (by decide +kernel) rfl
theorem dX10_aimAt_103 : decode cX10_aimAt 103 = .ok (.lload 6, 2) := dq_22 (a := 6) (by decide +kernel) rfl
theorem dX10_aimAt_105 : decode cX10_aimAt 105 = .ok (.lastore, 1) := dq_80 (by decide +kernel)
theorem dX10_aimAt_106 : decode cX10_aimAt 106 = .ok (.iinc 5 1, 3) := dq_132 (a := 5) (b := 1) (by decide +kernel) rfl (by decide +kernel)
theorem dX10_aimAt_109 : decode cX10_aimAt 109 = .ok (.goto (-65), 3) := dq_167 (a := 255) (b := 191) (by decide +kernel) (by decide +kernel)
theorem dX10_aimAt_112 : decode cX10_aimAt 112 = .ok (.return_, 1) := dq_177 (by decide +kernel)
theorem dX10_aimAt_14 : decode cX10_aimAt 14 = .ok (.lload_n 3, 1) := dq_33 (by decide +kernel)
theorem dX10_aimAt_15 : decode cX10_aimAt 15 = .ok (.aload_n 2, 1) := dq_44 (by decide +kernel)
theorem dX10_aimAt_16 : decode cX10_aimAt 16 = .ok (.iload 5, 2) := dq_21 (a := 5) (by decide +kernel) rfl
theorem dX10_aimAt_18 : decode cX10_aimAt 18 = .ok (.iaload, 1) := dq_46 (by decide +kernel)
theorem dX10_aimAt_19 : decode cX10_aimAt 19 = .ok (.i2l, 1) := dq_133 (by decide +kernel)
theorem dX10_aimAt_20 : decode cX10_aimAt 20 = .ok (.aload_n 2, 1) := dq_44 (by decide +kernel)
theorem dX10_aimAt_21 : decode cX10_aimAt 21 = .ok (.iload 5, 2) := dq_21 (a := 5) (by decide +kernel) rfl
theorem dX10_aimAt_23 : decode cX10_aimAt 23 = .ok (.iaload, 1) := dq_46 (by decide +kernel)
theorem dX10_aimAt_24 : decode cX10_aimAt 24 = .ok (.i2l, 1) := dq_133 (by decide +kernel)
theorem dX10_aimAt_25 : decode cX10_aimAt 25 = .ok (.lmul, 1) := dq_105 (by decide +kernel)
theorem dX10_aimAt_26 : decode cX10_aimAt 26 = .ok (.ladd, 1) := dq_97 (by decide +kernel)
theorem dX10_aimAt_27 : decode cX10_aimAt 27 = .ok (.lstore_n 3, 1) := dq_66 (by decide +kernel)
theorem dX10_aimAt_28 : decode cX10_aimAt 28 = .ok (.iinc 5 1, 3) := dq_132 (a := 5) (b := 1) (by decide +kernel) rfl (by decide +kernel)
theorem dX10_aimAt_31 : decode cX10_aimAt 31 = .ok (.goto (-26), 3) := dq_167 (a := 255) (b := 230) (by decide +kernel) (by decide +kernel)
theorem dX10_aimAt_68 : decode cX10_aimAt 68 = .ok (.lload 6, 2) := dq_22 (a := 6) (by decide +kernel) rfl
theorem dX10_aimAt_70 : decode cX10_aimAt 70 = .ok (.aload_n 2, 1) := dq_44 (by decide +kernel)
theorem dX10_aimAt_71 : decode cX10_aimAt 71 = .ok (.iload 8, 2) := dq_21 (a := 8) (by decide +kernel) rfl
theorem dX10_aimAt_73 : decode cX10_aimAt 73 = .ok (.iaload, 1) := dq_46 (by decide +kernel)
theorem dX10_aimAt_74 : decode cX10_aimAt 74 = .ok (.i2l, 1) := dq_133 (by decide +kernel)
theorem dX10_aimAt_75 : decode cX10_aimAt 75 = .ok (.aload_n 1, 1) := dq_43 (by decide +kernel)
theorem dX10_aimAt_76 : decode cX10_aimAt 76 = .ok (.getfield 49, 3) := dq_180 (a := 0) (b := 49) (by decide +kernel) rfl
theorem dX10_aimAt_79 : decode cX10_aimAt 79 = .ok (.iload 8, 2) := dq_21 (a := 8) (by decide +kernel) rfl
theorem dX10_aimAt_81 : decode cX10_aimAt 81 = .ok (.iload 5, 2) := dq_21 (a := 5) (by decide +kernel) rfl
theorem dX10_aimAt_83 : decode cX10_aimAt 83 = .ok (.invokevirtual 61, 3) := dq_182 (a := 0) (b := 61) (by decide +kernel) rfl
theorem dX10_aimAt_86 : decode cX10_aimAt 86 = .ok (.i2l, 1) := dq_133 (by decide +kernel)
theorem dX10_aimAt_87 : decode cX10_aimAt 87 = .ok (.lmul, 1) := dq_105 (by decide +kernel)
theorem dX10_aimAt_88 : decode cX10_aimAt 88 = .ok (.ladd, 1) := dq_97 (by decide +kernel)
theorem dX10_aimAt_89 : decode cX10_aimAt 89 = .ok (.lstore 6, 2) := dq_55 (a := 6) (by decide +kernel) rfl
theorem dX10_aimAt_91 : decode cX10_aimAt 91 = .ok (.iinc 8 1, 3) := dq_132 (a := 8) (b := 1) (by decide +kernel) rfl (by decide +kernel)
theorem dX10_aimAt_94 : decode cX10_aimAt 94 = .ok (.goto (-35), 3) := dq_167 (a := 255) (b := 221) (by decide +kernel) (by decide +kernel)
theorem dX10_setAllNumbers_0 : decode cX10_setAllNumbers 0 = .ok (.iconst 0, 1) := dq_3 (by decide +kernel)
theorem dX10_setAllNumbers_1 : decode cX10_setAllNumbers 1 = .ok (.istore 4, 2) := dq_54 (a := 4) (by decide +kernel) rfl
theorem dX10_setAllNumbers_3 : decode cX10_setAllNumbers 3 = .ok (.iload 4, 2) := dq_21 (a := 4) (by decide +kernel) rfl
theorem dX10_setAllNumbers_5 : decode cX10_setAllNumbers 5 = .ok (.aload_n 0, 1) := dq_42 (by decide +kernel)
theorem dX10_setAllNumbers_6 : decode cX10_setAllNumbers 6 = .ok (.getfield 34, 3) := dq_180 (a := 0) (b := 34) (by decide +kernel) rfl
theorem dX10_setAllNumbers_9 : decode cX10_setAllNumbers 9 = .ok (.if_icmp .gt 18, 3) := dq_163 (a := 0) (b := 18) (by decide +kernel) (by decide +kernel)
theorem dX10_setAllNumbers_12 : decode cX10_setAllNumbers 12 = .ok (.aload_n 0, 1) := dq_42 (by decide +kernel)
theorem dX10_setAllNumbers_13 : decode cX10_setAllNumbers 13 = .ok (.iload 4, 2) := dq_21 (a := 4) (by decide +kernel) rfl
theorem dX10_setAllNumbers_15 : decode cX10_setAllNumbers 15 = .ok (.iload_n 1, 1) := dq_27 (by decide +kernel)
theorem dX10_setAllNumbers_16 : decode cX10_setAllNumbers 16 = .ok (.iload_n 2, 1) := dq_28 (by decide +kernel)
theorem dX10_setAllNumbers_17 : decode cX10_setAllNumbers 17 = .ok (.iload_n 3, 1) := dq_29 (by decide +kernel)
theorem dX10_setAllNumbers_18 : decode cX10_setAllNumbers 18 = .ok (.invokevirtual 64, 3) := dq_182 (a := 0) (b := 64) (by decide +kernel) rfl
theorem dX10_setNumbers_0 : decode cX10_setNumbers 0 = .ok (.aload_n 0, 1) := dq_42 (by decide +kernel)
theorem dX10_setNumbers_1 : decode cX10_setNumbers 1 = .ok (.getfield 21, 3) := dq_180 (a := 0) (b := 21) (by decide +kernel) rfl
theorem dX10_setNumbers_4 : decode cX10_setNumbers 4 = .ok (.iload_n 1, 1) := dq_27 (by decide +kernel)
theorem dX10_setNumbers_5 : decode cX10_setNumbers 5 = .ok (.iload_n 2, 1) := dq_28 (by decide +kernel)
theorem dX10_setNumbers_6 : decode cX10_setNumbers 6 = .ok (.iastore, 1) := dq_79 (by decide +kernel)
theorem dX10_setNumbers_7 : decode cX10_setNumbers 7 = .ok (.aload_n 0, 1) := dq_42 (by decide +kernel)
theorem dX10_setNumbers_8 : decode cX10_setNumbers 8 = .ok (.getfield 25, 3) := dq_180 (a := 0) (b := 25) (by decide +kernel) rfl
theorem dX10_setNumbers_11 : decode cX10_setNumbers 11 = .ok (.iload_n 1, 1) := dq_27 (by decide +kernel)
theorem dX10_setNumbers_12 : decode cX10_setNumbers 12 = .ok (.iload_n 3, 1) := dq_29 (by decide +kernel)
theorem dX10_setNumbers_13 : decode cX10_setNumbers 13 = .ok (.iastore, 1) := dq_79 (by decide +kernel)
theorem dX10_setNumbers_14 : decode cX10_setNumbers 14 = .ok (.aload_n 0, 1) := dq_42 (by decide +kernel)
theorem dX10_setNumbers_15 : decode cX10_setNumbers 15 = .ok (.getfield 28, 3) := dq_180 (a := 0) (b := 28) (by decide +kernel) rfl
theorem dX10_setNumbers_18 : decode cX10_setNumbers 18 = .ok (.iload_n 1, 1) := dq_27 (by decide +kernel)
theorem dX10_setNumbers_19 : decode cX10_setNumbers 19 = .ok (.iload 4, 2) := dq_21 (a := 4) (by decide +kernel) rfl
theorem dX10_setNumbers_21 : decode cX10_setNumbers 21 = .ok (.iastore, 1) := dq_79 (by decide +kernel)
theorem dX10_setNumbers_22 : decode cX10_setNumbers 22 = .ok (.return_, 1) := dq_177 (by decide +kernel)
theorem dX10_setAllNumbers_21 : decode cX10_setAllNumbers 21 = .ok (.iinc 4 1, 3) := dq_132 (a := 4) (b := 1) (by decide +kernel) rfl (by decide +kernel)
theorem dX10_setAllNumbers_24 : decode cX10_setAllNumbers 24 = .ok (.goto (-21), 3) := dq_167 (a := 255) (b := 235) (by decide +kernel) (by decide +kernel)
theorem dX10_setAllNumbers_27 : decode cX10_setAllNumbers 27 = .ok (.return_, 1) := dq_177 (by decide +kernel)
theorem dX10_firstLine_0 : decode cX10_firstLine 0 = .ok (.aload_n 0, 1) := dq_42 (by decide +kernel)
theorem dX10_firstLine_1 : decode cX10_firstLine 1 = .ok (.getfield 31, 3) := dq_180 (a := 0) (b := 31) (by decide +kernel) rfl
theorem dX10_firstLine_4 : decode cX10_firstLine 4 = .ok (.iconst 0, 1) := dq_3 (by decide +kernel)
theorem dX10_firstLine_5 : decode cX10_firstLine 5 = .ok (.invokestatic 68, 3) := dq_184 (a := 0) (b := 68) (by decide +kernel) rfl
theorem dX10_firstLine_8 : decode cX10_firstLine 8 = .ok (.aload_n 0, 1) := dq_42 (by decide +kernel)
theorem dX10_firstLine_9 : decode cX10_firstLine 9 = .ok (.iconst 0, 1) := dq_3 (by decide +kernel)
theorem dX10_firstLine_10 : decode cX10_firstLine 10 = .ok (.invokevirtual 74, 3) := dq_182 (a := 0) (b := 74) (by decide +kernel) rfl
theorem dX10_settle_0 : decode cX10_settle 0 = .ok (.iload_n 1, 1) := dq_27 (by decide +kernel)
theorem dX10_settle_1 : decode cX10_settle 1 = .ok (.istore_n 2, 1) := dq_61 (by decide +kernel)
theorem dX10_settle_2 : decode cX10_settle 2 = .ok (.iload_n 2, 1) := dq_28 (by decide +kernel)
theorem dX10_settle_3 : decode cX10_settle 3 = .ok (.aload_n 0, 1) := dq_42 (by decide +kernel)
theorem dX10_settle_4 : decode cX10_settle 4 = .ok (.getfield 34, 3) := dq_180 (a := 0) (b := 34) (by decide +kernel) rfl
theorem dX10_settle_7 : decode cX10_settle 7 = .ok (.if_icmp .ge 131, 3) := dq_162 (a := 0) (b := 131) (by decide +kernel) (by decide +kernel)
theorem dX10_settle_138 : decode cX10_settle 138 = .ok (.return_, 1) := dq_177 (by decide +kernel)
theorem dX10_settle_10 : decode cX10_settle 10 = .ok (.iload_n 2, 1) := dq_28 (by decide +kernel)
theorem dX10_settle_11 : decode cX10_settle 11 = .ok (.iconst 5, 1) := dq_8 (by decide +kernel)
theorem dX10_settle_12 : decode cX10_settle 12 = .ok (.imul, 1) := dq_104 (by decide +kernel)
theorem dX10_settle_13 : decode cX10_settle 13 = .ok (.istore_n 3, 1) := dq_62 (by decide +kernel)
theorem dX10_settle_14 : decode cX10_settle 14 = .ok (.aload_n 0, 1) := dq_42 (by decide +kernel)
theorem dX10_settle_15 : decode cX10_settle 15 = .ok (.getfield 21, 3) := dq_180 (a := 0) (b := 21) (by decide +kernel) rfl
theorem dX10_settle_18 : decode cX10_settle 18 = .ok (.iload_n 2, 1) := dq_28 (by decide +kernel)
theorem dX10_settle_19 : decode cX10_settle 19 = .ok (.iaload, 1) := dq_46 (by decide +kernel)
theorem dX10_settle_20 : decode cX10_settle 20 = .ok (.aload_n 0, 1) := dq_42 (by decide +kernel)
theorem dX10_settle_21 : decode cX10_settle 21 = .ok (.getfield 25, 3) := dq_180 (a := 0) (b := 25) (by decide +kernel) rfl
theorem dX10_settle_24 : decode cX10_settle 24 = .ok (.iload_n 2, 1) := dq_28 (by decide +kernel)
theorem dX10_settle_25 : decode cX10_settle 25 = .ok (.iaload, 1) := dq_46 (by decide +kernel)
theorem dX10_settle_26 : decode cX10_settle 26 = .ok (.aload_n 0, 1) := dq_42 (by decide +kernel)
theorem dX10_settle_27 : decode cX10_settle 27 = .ok (.getfield 31, 3) := dq_180 (a := 0) (b := 31) (by decide +kernel) rfl
theorem dX10_settle_30 : decode cX10_settle 30 = .ok (.iload_n 2, 1) := dq_28 (by decide +kernel)
theorem dX10_settle_31 : decode cX10_settle 31 = .ok (.iaload, 1) := dq_46 (by decide +kernel)
theorem dX10_settle_32 : decode cX10_settle 32 = .ok (.imul, 1) := dq_104 (by decide +kernel)
theorem dX10_settle_33 : decode cX10_settle 33 = .ok (.iadd, 1) := dq_96 (by decide +kernel)
theorem dX10_settle_34 : decode cX10_settle 34 = .ok (.i2l, 1) := dq_133 (by decide +kernel)
theorem dX10_settle_35 : decode cX10_settle 35 = .ok (.lstore 4, 2) := dq_55 (a := 4) (by decide +kernel) rfl
theorem dX10_settle_37 : decode cX10_settle 37 = .ok (.aload_n 0, 1) := dq_42 (by decide +kernel)
theorem dX10_settle_38 : decode cX10_settle 38 = .ok (.getfield 15, 3) := dq_180 (a := 0) (b := 15) (by decide +kernel) rfl
theorem dX10_settle_41 : decode cX10_settle 41 = .ok (.iload_n 2, 1) := dq_28 (by decide +kernel)
theorem dX10_settle_42 : decode cX10_settle 42 = .ok (.iconst 1, 1) := dq_4 (by decide +kernel)
theorem dX10_settle_43 : decode cX10_settle 43 = .ok (.iadd, 1) := dq_96 (by decide +kernel)
theorem dX10_settle_44 : decode cX10_settle 44 = .ok (.aload_n 0, 1) := dq_42 (by decide +kernel)
theorem dX10_settle_45 : decode cX10_settle 45 = .ok (.getfield 15, 3) := dq_180 (a := 0) (b := 15) (by decide +kernel) rfl
theorem dX10_settle_48 : decode cX10_settle 48 = .ok (.iload_n 2, 1) := dq_28 (by decide +kernel)
theorem dX10_settle_49 : decode cX10_settle 49 = .ok (.laload, 1) := dq_47 (by decide +kernel)
theorem dX10_settle_50 : decode cX10_settle 50 = .ok (.lload 4, 2) := dq_22 (a := 4) (by decide +kernel) rfl
theorem dX10_settle_52 : decode cX10_settle 52 = .ok (.lload 4, 2) := dq_22 (a := 4) (by decide +kernel) rfl
theorem dX10_settle_54 : decode cX10_settle 54 = .ok (.aload_n 0, 1) := dq_42 (by decide +kernel)
theorem dX10_settle_55 : decode cX10_settle 55 = .ok (.getfield 9, 3) := dq_180 (a := 0) (b := 9) (by decide +kernel) rfl
theorem dX10_settle_58 : decode cX10_settle 58 = .ok (.iload_n 3, 1) := dq_29 (by decide +kernel)
theorem dX10_settle_59 : decode cX10_settle 59 = .ok (.iload_n 2, 1) := dq_28 (by decide +kernel)
theorem dX10_settle_60 : decode cX10_settle 60 = .ok (.iadd, 1) := dq_96 (by decide +kernel)
theorem dX10_settle_61 : decode cX10_settle 61 = .ok (.laload, 1) := dq_47 (by decide +kernel)
theorem dX10_settle_62 : decode cX10_settle 62 = .ok (.lmul, 1) := dq_105 (by decide +kernel)
theorem dX10_settle_63 : decode cX10_settle 63 = .ok (.ldc2_w 78, 3) := dq_20 (a := 0) (b := 78) (by decide +kernel) rfl
theorem dX10_settle_66 : decode cX10_settle 66 = .ok (.aload_n 0, 1) := dq_42 (by decide +kernel)
theorem dX10_settle_67 : decode cX10_settle 67 = .ok (.getfield 18, 3) := dq_180 (a := 0) (b := 18) (by decide +kernel) rfl
theorem dX10_settle_70 : decode cX10_settle 70 = .ok (.iload_n 3, 1) := dq_29 (by decide +kernel)
theorem dX10_settle_71 : decode cX10_settle 71 = .ok (.iload_n 2, 1) := dq_28 (by decide +kernel)
theorem dX10_settle_72 : decode cX10_settle 72 = .ok (.iadd, 1) := dq_96 (by decide +kernel)
theorem dX10_settle_73 : decode cX10_settle 73 = .ok (.laload, 1) := dq_47 (by decide +kernel)
theorem dX10_settle_74 : decode cX10_settle 74 = .ok (.lmul, 1) := dq_105 (by decide +kernel)
theorem dX10_settle_75 : decode cX10_settle 75 = .ok (.lsub, 1) := dq_101 (by decide +kernel)
theorem dX10_settle_76 : decode cX10_settle 76 = .ok (.lmul, 1) := dq_105 (by decide +kernel)
theorem dX10_settle_77 : decode cX10_settle 77 = .ok (.ladd, 1) := dq_97 (by decide +kernel)
theorem dX10_settle_78 : decode cX10_settle 78 = .ok (.lastore, 1) := dq_80 (by decide +kernel)
theorem dX10_settle_79 : decode cX10_settle 79 = .ok (.iload_n 2, 1) := dq_28 (by decide +kernel)
theorem dX10_settle_80 : decode cX10_settle 80 = .ok (.iconst 1, 1) := dq_4 (by decide +kernel)
theorem dX10_settle_81 : decode cX10_settle 81 = .ok (.iadd, 1) := dq_96 (by decide +kernel)
theorem dX10_settle_82 : decode cX10_settle 82 = .ok (.istore 6, 2) := dq_54 (a := 6) (by decide +kernel) rfl
theorem dX10_settle_84 : decode cX10_settle 84 = .ok (.iload 6, 2) := dq_21 (a := 6) (by decide +kernel) rfl
theorem dX10_settle_86 : decode cX10_settle 86 = .ok (.aload_n 0, 1) := dq_42 (by decide +kernel)
theorem dX10_settle_87 : decode cX10_settle 87 = .ok (.getfield 34, 3) := dq_180 (a := 0) (b := 34) (by decide +kernel) rfl
theorem dX10_settle_90 : decode cX10_settle 90 = .ok (.if_icmp .gt 42, 3) := dq_163 (a := 0) (b := 42) (by decide +kernel) (by decide +kernel)
theorem dX10_settle_132 : decode cX10_settle 132 = .ok (.iinc 2 1, 3) := dq_132 (a := 2) (b := 1) (by decide +kernel) rfl (by decide +kernel)
theorem dX10_settle_135 : decode cX10_settle 135 = .ok (.goto (-133), 3) := dq_167 (a := 255) (b := 123) (by decide +kernel) (by decide +kernel)
theorem dX10_settle_93 : decode cX10_settle 93 = .ok (.aload_n 0, 1) := dq_42 (by decide +kernel)
theorem dX10_settle_94 : decode cX10_settle 94 = .ok (.getfield 18, 3) := dq_180 (a := 0) (b := 18) (by decide +kernel) rfl
theorem dX10_settle_97 : decode cX10_settle 97 = .ok (.iload_n 3, 1) := dq_29 (by decide +kernel)
theorem dX10_settle_98 : decode cX10_settle 98 = .ok (.iconst 5, 1) := dq_8 (by decide +kernel)
theorem dX10_settle_99 : decode cX10_settle 99 = .ok (.iadd, 1) := dq_96 (by decide +kernel)
theorem dX10_settle_100 : decode cX10_settle 100 = .ok (.iload 6, 2) := dq_21 (a := 6) (by decide +kernel) rfl
theorem dX10_settle_102 : decode cX10_settle 102 = .ok (.iadd, 1) := dq_96 (by decide +kernel)
theorem dX10_settle_103 : decode cX10_settle 103 = .ok (.aload_n 0, 1) := dq_42 (by decide +kernel)
theorem dX10_settle_104 : decode cX10_settle 104 = .ok (.getfield 18, 3) := dq_180 (a := 0) (b := 18) (by decide +kernel) rfl
theorem dX10_settle_107 : decode cX10_settle 107 = .ok (.iload_n 3, 1) := dq_29 (by decide +kernel)
theorem dX10_settle_108 : decode cX10_settle 108 = .ok (.iload 6, 2) := dq_21 (a := 6) (by decide +kernel) rfl
theorem dX10_settle_110 : decode cX10_settle 110 = .ok (.iadd, 1) := dq_96 (by decide +kernel)
theorem dX10_settle_111 : decode cX10_settle 111 = .ok (.laload, 1) := dq_47 (by decide +kernel)
theorem dX10_settle_112 : decode cX10_settle 112 = .ok (.lload 4, 2) := dq_22 (a := 4) (by decide +kernel) rfl
theorem dX10_settle_114 : decode cX10_settle 114 = .ok (.aload_n 0, 1) := dq_42 (by decide +kernel)
theorem dX10_settle_115 : decode cX10_settle 115 = .ok (.getfield 9, 3) := dq_180 (a := 0) (b := 9) (by decide +kernel) rfl
theorem dX10_settle_118 : decode cX10_settle 118 = .ok (.iload_n 3, 1) := dq_29 (by decide +kernel)
theorem dX10_settle_119 : decode cX10_settle 119 = .ok (.iload 6, 2) := dq_21 (a := 6) (by decide +kernel) rfl
theorem dX10_settle_121 : decode cX10_settle 121 = .ok (.iadd, 1) := dq_96 (by decide +kernel)
theorem dX10_settle_122 : decode cX10_settle 122 = .ok (.laload, 1) := dq_47 (by decide +kernel)
theorem dX10_settle_123 : decode cX10_settle 123 = .ok (.lmul, 1) := dq_105 (by decide +kernel)
theorem dX10_settle_124 : decode cX10_settle 124 = .ok (.lsub, 1) := dq_101 (by decide +kernel)
theorem dX10_settle_125 : decode cX10_settle 125 = .ok (.lastore, 1) := dq_80 (by decide +kernel)
theorem dX10_settle_126 : decode cX10_settle 126 = .ok (.iinc 6 1, 3) := dq_132 (a := 6) (b := 1) (by decide +kernel) rfl (by decide +kernel)
theorem dX10_settle_129 : decode cX10_settle 129 = .ok (.goto (-45), 3) := dq_167 (a := 255) (b := 211) (by decide +kernel) (by decide +kernel)
theorem dX10_firstLine_13 : decode cX10_firstLine 13 = .ok (.return_, 1) := dq_177 (by decide +kernel)
theorem dX10_lineCount_0 : decode cX10_lineCount 0 = .ok (.iconst 1, 1) := dq_4 (by decide +kernel)
theorem dX10_lineCount_1 : decode cX10_lineCount 1 = .ok (.istore_n 1, 1) := dq_60 (by decide +kernel)
theorem dX10_lineCount_2 : decode cX10_lineCount 2 = .ok (.iconst 0, 1) := dq_3 (by decide +kernel)
theorem dX10_lineCount_3 : decode cX10_lineCount 3 = .ok (.istore_n 2, 1) := dq_61 (by decide +kernel)
theorem dX10_lineCount_4 : decode cX10_lineCount 4 = .ok (.iload_n 2, 1) := dq_28 (by decide +kernel)
theorem dX10_lineCount_5 : decode cX10_lineCount 5 = .ok (.aload_n 0, 1) := dq_42 (by decide +kernel)
theorem dX10_lineCount_6 : decode cX10_lineCount 6 = .ok (.getfield 34, 3) := dq_180 (a := 0) (b := 34) (by decide +kernel) rfl
theorem dX10_lineCount_9 : decode cX10_lineCount 9 = .ok (.if_icmp .ge 18, 3) := dq_162 (a := 0) (b := 18) (by decide +kernel) (by decide +kernel)
theorem dX10_lineCount_27 : decode cX10_lineCount 27 = .ok (.iload_n 1, 1) := dq_27 (by decide +kernel)
theorem dX10_lineCount_28 : decode cX10_lineCount 28 = .ok (.ireturn, 1) := dq_172 (by decide +kernel)
theorem dX10_lineCount_12 : decode cX10_lineCount 12 = .ok (.iload_n 1, 1) := dq_27 (by decide +kernel)
theorem dX10_lineCount_13 : decode cX10_lineCount 13 = .ok (.aload_n 0, 1) := dq_42 (by decide +kernel)
theorem dX10_lineCount_14 : decode cX10_lineCount 14 = .ok (.getfield 28, 3) := dq_180 (a := 0) (b := 28) (by decide +kernel) rfl
theorem dX10_lineCount_17 : decode cX10_lineCount 17 = .ok (.iload_n 2, 1) := dq_28 (by decide +kernel)
theorem dX10_lineCount_18 : decode cX10_lineCount 18 = .ok (.iaload, 1) := dq_46 (by decide +kernel)
theorem dX10_lineCount_19 : decode cX10_lineCount 19 = .ok (.imul, 1) := dq_104 (by decide +kernel)
theorem dX10_lineCount_20 : decode cX10_lineCount 20 = .ok (.istore_n 1, 1) := dq_60 (by decide +kernel)
theorem dX10_lineCount_21 : decode cX10_lineCount 21 = .ok (.iinc 2 1, 3) := dq_132 (a := 2) (b := 1) (by decide +kernel) rfl (by decide +kernel)
theorem dX10_lineCount_24 : decode cX10_lineCount 24 = .ok (.goto (-20), 3) := dq_167 (a := 255) (b := 236) (by decide +kernel) (by decide +kernel)
theorem dX10_squaresAt_0 : decode cX10_squaresAt 0 = .ok (.aload_n 0, 1) := dq_42 (by decide +kernel)
theorem dX10_squaresAt_1 : decode cX10_squaresAt 1 = .ok (.getfield 34, 3) := dq_180 (a := 0) (b := 34) (by decide +kernel) rfl
theorem dX10_squaresAt_4 : decode cX10_squaresAt 4 = .ok (.iconst 5, 1) := dq_8 (by decide +kernel)
theorem dX10_squaresAt_5 : decode cX10_squaresAt 5 = .ok (.imul, 1) := dq_104 (by decide +kernel)
theorem dX10_squaresAt_6 : decode cX10_squaresAt 6 = .ok (.aload_n 0, 1) := dq_42 (by decide +kernel)
theorem dX10_squaresAt_7 : decode cX10_squaresAt 7 = .ok (.getfield 34, 3) := dq_180 (a := 0) (b := 34) (by decide +kernel) rfl
theorem dX10_squaresAt_10 : decode cX10_squaresAt 10 = .ok (.iadd, 1) := dq_96 (by decide +kernel)
theorem dX10_squaresAt_11 : decode cX10_squaresAt 11 = .ok (.istore_n 2, 1) := dq_61 (by decide +kernel)
theorem dX10_squaresAt_12 : decode cX10_squaresAt 12 = .ok (.aload_n 0, 1) := dq_42 (by decide +kernel)
theorem dX10_squaresAt_13 : decode cX10_squaresAt 13 = .ok (.getfield 21, 3) := dq_180 (a := 0) (b := 21) (by decide +kernel) rfl
theorem dX10_squaresAt_16 : decode cX10_squaresAt 16 = .ok (.aload_n 0, 1) := dq_42 (by decide +kernel)
theorem dX10_squaresAt_17 : decode cX10_squaresAt 17 = .ok (.getfield 34, 3) := dq_180 (a := 0) (b := 34) (by decide +kernel) rfl
theorem dX10_squaresAt_20 : decode cX10_squaresAt 20 = .ok (.iaload, 1) := dq_46 (by decide +kernel)
theorem dX10_squaresAt_21 : decode cX10_squaresAt 21 = .ok (.aload_n 0, 1) := dq_42 (by decide +kernel)
theorem dX10_squaresAt_22 : decode cX10_squaresAt 22 = .ok (.getfield 25, 3) := dq_180 (a := 0) (b := 25) (by decide +kernel) rfl
theorem dX10_squaresAt_25 : decode cX10_squaresAt 25 = .ok (.aload_n 0, 1) := dq_42 (by decide +kernel)
theorem dX10_squaresAt_26 : decode cX10_squaresAt 26 = .ok (.getfield 34, 3) := dq_180 (a := 0) (b := 34) (by decide +kernel) rfl
theorem dX10_squaresAt_29 : decode cX10_squaresAt 29 = .ok (.iaload, 1) := dq_46 (by decide +kernel)
theorem dX10_squaresAt_30 : decode cX10_squaresAt 30 = .ok (.iload_n 1, 1) := dq_27 (by decide +kernel)
theorem dX10_squaresAt_31 : decode cX10_squaresAt 31 = .ok (.imul, 1) := dq_104 (by decide +kernel)
theorem dX10_squaresAt_32 : decode cX10_squaresAt 32 = .ok (.iadd, 1) := dq_96 (by decide +kernel)
theorem dX10_squaresAt_33 : decode cX10_squaresAt 33 = .ok (.i2l, 1) := dq_133 (by decide +kernel)
theorem dX10_squaresAt_34 : decode cX10_squaresAt 34 = .ok (.lstore_n 3, 1) := dq_66 (by decide +kernel)
theorem dX10_squaresAt_35 : decode cX10_squaresAt 35 = .ok (.aload_n 0, 1) := dq_42 (by decide +kernel)
theorem dX10_squaresAt_36 : decode cX10_squaresAt 36 = .ok (.getfield 15, 3) := dq_180 (a := 0) (b := 15) (by decide +kernel) rfl
theorem dX10_squaresAt_39 : decode cX10_squaresAt 39 = .ok (.aload_n 0, 1) := dq_42 (by decide +kernel)
theorem dX10_squaresAt_40 : decode cX10_squaresAt 40 = .ok (.getfield 34, 3) := dq_180 (a := 0) (b := 34) (by decide +kernel) rfl
theorem dX10_squaresAt_43 : decode cX10_squaresAt 43 = .ok (.laload, 1) := dq_47 (by decide +kernel)
theorem dX10_squaresAt_44 : decode cX10_squaresAt 44 = .ok (.lload_n 3, 1) := dq_33 (by decide +kernel)
theorem dX10_squaresAt_45 : decode cX10_squaresAt 45 = .ok (.lload_n 3, 1) := dq_33 (by decide +kernel)
theorem dX10_squaresAt_46 : decode cX10_squaresAt 46 = .ok (.aload_n 0, 1) := dq_42 (by decide +kernel)
theorem dX10_squaresAt_47 : decode cX10_squaresAt 47 = .ok (.getfield 9, 3) := dq_180 (a := 0) (b := 9) (by decide +kernel) rfl
theorem dX10_squaresAt_50 : decode cX10_squaresAt 50 = .ok (.iload_n 2, 1) := dq_28 (by decide +kernel)
theorem dX10_squaresAt_51 : decode cX10_squaresAt 51 = .ok (.laload, 1) := dq_47 (by decide +kernel)
theorem dX10_squaresAt_52 : decode cX10_squaresAt 52 = .ok (.lmul, 1) := dq_105 (by decide +kernel)
theorem dX10_squaresAt_53 : decode cX10_squaresAt 53 = .ok (.ldc2_w 78, 3) := dq_20 (a := 0) (b := 78) (by decide +kernel) rfl
theorem dX10_squaresAt_56 : decode cX10_squaresAt 56 = .ok (.aload_n 0, 1) := dq_42 (by decide +kernel)
theorem dX10_squaresAt_57 : decode cX10_squaresAt 57 = .ok (.getfield 18, 3) := dq_180 (a := 0) (b := 18) (by decide +kernel) rfl
theorem dX10_squaresAt_60 : decode cX10_squaresAt 60 = .ok (.iload_n 2, 1) := dq_28 (by decide +kernel)
theorem dX10_squaresAt_61 : decode cX10_squaresAt 61 = .ok (.laload, 1) := dq_47 (by decide +kernel)
theorem dX10_squaresAt_62 : decode cX10_squaresAt 62 = .ok (.lmul, 1) := dq_105 (by decide +kernel)
theorem dX10_squaresAt_63 : decode cX10_squaresAt 63 = .ok (.lsub, 1) := dq_101 (by decide +kernel)
theorem dX10_squaresAt_64 : decode cX10_squaresAt 64 = .ok (.lmul, 1) := dq_105 (by decide +kernel)
theorem dX10_squaresAt_65 : decode cX10_squaresAt 65 = .ok (.ladd, 1) := dq_97 (by decide +kernel)
theorem dX10_squaresAt_66 : decode cX10_squaresAt 66 = .ok (.lreturn, 1) := dq_173 (by decide +kernel)
theorem dX10_nextLine_0 : decode cX10_nextLine 0 = .ok (.aload_n 0, 1) := dq_42 (by decide +kernel)
theorem dX10_nextLine_1 : decode cX10_nextLine 1 = .ok (.getfield 34, 3) := dq_180 (a := 0) (b := 34) (by decide +kernel) rfl
theorem dX10_nextLine_4 : decode cX10_nextLine 4 = .ok (.iconst 1, 1) := dq_4 (by decide +kernel)
theorem dX10_nextLine_5 : decode cX10_nextLine 5 = .ok (.isub, 1) := dq_100 (by decide +kernel)
theorem dX10_nextLine_6 : decode cX10_nextLine 6 = .ok (.istore_n 1, 1) := dq_60 (by decide +kernel)
theorem dX10_nextLine_7 : decode cX10_nextLine 7 = .ok (.iload_n 1, 1) := dq_27 (by decide +kernel)
theorem dX10_nextLine_8 : decode cX10_nextLine 8 = .ok (.ifCond .lt 33, 3) := dq_155 (a := 0) (b := 33) (by decide +kernel) (by decide +kernel)
theorem dX10_nextLine_41 : decode cX10_nextLine 41 = .ok (.iload_n 1, 1) := dq_27 (by decide +kernel)
theorem dX10_nextLine_42 : decode cX10_nextLine 42 = .ok (.ifCond .lt 18, 3) := dq_155 (a := 0) (b := 18) (by decide +kernel) (by decide +kernel)
theorem dX10_nextLine_60 : decode cX10_nextLine 60 = .ok (.return_, 1) := dq_177 (by decide +kernel)
theorem dX10_nextLine_11 : decode cX10_nextLine 11 = .ok (.aload_n 0, 1) := dq_42 (by decide +kernel)
theorem dX10_nextLine_12 : decode cX10_nextLine 12 = .ok (.getfield 31, 3) := dq_180 (a := 0) (b := 31) (by decide +kernel) rfl
theorem dX10_nextLine_15 : decode cX10_nextLine 15 = .ok (.iload_n 1, 1) := dq_27 (by decide +kernel)
theorem dX10_nextLine_16 : decode cX10_nextLine 16 = .ok (.iaload, 1) := dq_46 (by decide +kernel)
theorem dX10_nextLine_17 : decode cX10_nextLine 17 = .ok (.iconst 1, 1) := dq_4 (by decide +kernel)
theorem dX10_nextLine_18 : decode cX10_nextLine 18 = .ok (.iadd, 1) := dq_96 (by decide +kernel)
theorem dX10_nextLine_19 : decode cX10_nextLine 19 = .ok (.aload_n 0, 1) := dq_42 (by decide +kernel)
theorem dX10_nextLine_20 : decode cX10_nextLine 20 = .ok (.getfield 28, 3) := dq_180 (a := 0) (b := 28) (by decide +kernel) rfl
theorem dX10_nextLine_23 : decode cX10_nextLine 23 = .ok (.iload_n 1, 1) := dq_27 (by decide +kernel)
theorem dX10_nextLine_24 : decode cX10_nextLine 24 = .ok (.iaload, 1) := dq_46 (by decide +kernel)
theorem dX10_nextLine_25 : decode cX10_nextLine 25 = .ok (.if_icmp .lt 16, 3) := dq_161 (a := 0) (b := 16) (by decide +kernel) (by decide +kernel)
theorem dX10_nextLine_45 : decode cX10_nextLine 45 = .ok (.aload_n 0, 1) := dq_42 (by decide +kernel)
theorem dX10_nextLine_46 : decode cX10_nextLine 46 = .ok (.getfield 31, 3) := dq_180 (a := 0) (b := 31) (by decide +kernel) rfl
theorem dX10_nextLine_49 : decode cX10_nextLine 49 = .ok (.iload_n 1, 1) := dq_27 (by decide +kernel)
theorem dX10_nextLine_50 : decode cX10_nextLine 50 = .ok (.dup2, 1) := dq_92 (by decide +kernel)
theorem dX10_nextLine_51 : decode cX10_nextLine 51 = .ok (.iaload, 1) := dq_46 (by decide +kernel)
theorem dX10_nextLine_52 : decode cX10_nextLine 52 = .ok (.iconst 1, 1) := dq_4 (by decide +kernel)
theorem dX10_nextLine_53 : decode cX10_nextLine 53 = .ok (.iadd, 1) := dq_96 (by decide +kernel)
theorem dX10_nextLine_54 : decode cX10_nextLine 54 = .ok (.iastore, 1) := dq_79 (by decide +kernel)
theorem dX10_nextLine_55 : decode cX10_nextLine 55 = .ok (.aload_n 0, 1) := dq_42 (by decide +kernel)
theorem dX10_nextLine_56 : decode cX10_nextLine 56 = .ok (.iload_n 1, 1) := dq_27 (by decide +kernel)
theorem dX10_nextLine_57 : decode cX10_nextLine 57 = .ok (.invokevirtual 74, 3) := dq_182 (a := 0) (b := 74) (by decide +kernel) rfl
theorem dX10_nextLine_28 : decode cX10_nextLine 28 = .ok (.aload_n 0, 1) := dq_42 (by decide +kernel)
theorem dX10_nextLine_29 : decode cX10_nextLine 29 = .ok (.getfield 31, 3) := dq_180 (a := 0) (b := 31) (by decide +kernel) rfl
theorem dX10_nextLine_32 : decode cX10_nextLine 32 = .ok (.iload_n 1, 1) := dq_27 (by decide +kernel)
theorem dX10_nextLine_33 : decode cX10_nextLine 33 = .ok (.iconst 0, 1) := dq_3 (by decide +kernel)
theorem dX10_nextLine_34 : decode cX10_nextLine 34 = .ok (.iastore, 1) := dq_79 (by decide +kernel)
theorem dX10_nextLine_35 : decode cX10_nextLine 35 = .ok (.iinc 1 (-1), 3) := dq_132 (a := 1) (b := 255) (by decide +kernel) rfl (by decide +kernel)
theorem dX10_nextLine_38 : decode cX10_nextLine 38 = .ok (.goto (-31), 3) := dq_167 (a := 255) (b := 225) (by decide +kernel) (by decide +kernel)
theorem dX10_bestDigit_0 : decode cX10_bestDigit 0 = .ok (.aload_n 0, 1) := dq_42 (by decide +kernel)
theorem dX10_bestDigit_1 : decode cX10_bestDigit 1 = .ok (.getfield 34, 3) := dq_180 (a := 0) (b := 34) (by decide +kernel) rfl
theorem dX10_bestDigit_4 : decode cX10_bestDigit 4 = .ok (.iconst 5, 1) := dq_8 (by decide +kernel)
theorem dX10_bestDigit_5 : decode cX10_bestDigit 5 = .ok (.imul, 1) := dq_104 (by decide +kernel)
theorem dX10_bestDigit_6 : decode cX10_bestDigit 6 = .ok (.aload_n 0, 1) := dq_42 (by decide +kernel)
theorem dX10_bestDigit_7 : decode cX10_bestDigit 7 = .ok (.getfield 34, 3) := dq_180 (a := 0) (b := 34) (by decide +kernel) rfl
theorem dX10_bestDigit_10 : decode cX10_bestDigit 10 = .ok (.iadd, 1) := dq_96 (by decide +kernel)
theorem dX10_bestDigit_11 : decode cX10_bestDigit 11 = .ok (.istore_n 2, 1) := dq_61 (by decide +kernel)
theorem dX10_bestDigit_12 : decode cX10_bestDigit 12 = .ok (.aload_n 0, 1) := dq_42 (by decide +kernel)
theorem dX10_bestDigit_13 : decode cX10_bestDigit 13 = .ok (.getfield 9, 3) := dq_180 (a := 0) (b := 9) (by decide +kernel) rfl
theorem dX10_bestDigit_16 : decode cX10_bestDigit 16 = .ok (.iload_n 2, 1) := dq_28 (by decide +kernel)
theorem dX10_bestDigit_17 : decode cX10_bestDigit 17 = .ok (.laload, 1) := dq_47 (by decide +kernel)
theorem dX10_bestDigit_18 : decode cX10_bestDigit 18 = .ok (.aload_n 0, 1) := dq_42 (by decide +kernel)
theorem dX10_bestDigit_19 : decode cX10_bestDigit 19 = .ok (.getfield 25, 3) := dq_180 (a := 0) (b := 25) (by decide +kernel) rfl
theorem dX10_bestDigit_22 : decode cX10_bestDigit 22 = .ok (.aload_n 0, 1) := dq_42 (by decide +kernel)
theorem dX10_bestDigit_23 : decode cX10_bestDigit 23 = .ok (.getfield 34, 3) := dq_180 (a := 0) (b := 34) (by decide +kernel) rfl
theorem dX10_bestDigit_26 : decode cX10_bestDigit 26 = .ok (.iaload, 1) := dq_46 (by decide +kernel)
theorem dX10_bestDigit_27 : decode cX10_bestDigit 27 = .ok (.i2l, 1) := dq_133 (by decide +kernel)
theorem dX10_bestDigit_28 : decode cX10_bestDigit 28 = .ok (.lmul, 1) := dq_105 (by decide +kernel)
theorem dX10_bestDigit_29 : decode cX10_bestDigit 29 = .ok (.lstore_n 3, 1) := dq_66 (by decide +kernel)
theorem dX10_bestDigit_30 : decode cX10_bestDigit 30 = .ok (.lload_n 3, 1) := dq_33 (by decide +kernel)
theorem dX10_bestDigit_31 : decode cX10_bestDigit 31 = .ok (.lconst 0, 1) := dq_9 (by decide +kernel)
theorem dX10_bestDigit_32 : decode cX10_bestDigit 32 = .ok (.lcmp, 1) := dq_148 (by decide +kernel)
theorem dX10_bestDigit_33 : decode cX10_bestDigit 33 = .ok (.ifCond .gt 5, 3) := dq_157 (a := 0) (b := 5) (by decide +kernel) (by decide +kernel)
theorem dX10_bestDigit_38 : decode cX10_bestDigit 38 = .ok (.aload_n 0, 1) := dq_42 (by decide +kernel)
theorem dX10_bestDigit_39 : decode cX10_bestDigit 39 = .ok (.getfield 18, 3) := dq_180 (a := 0) (b := 18) (by decide +kernel) rfl
theorem dX10_bestDigit_42 : decode cX10_bestDigit 42 = .ok (.iload_n 2, 1) := dq_28 (by decide +kernel)
theorem dX10_bestDigit_43 : decode cX10_bestDigit 43 = .ok (.laload, 1) := dq_47 (by decide +kernel)
theorem dX10_bestDigit_44 : decode cX10_bestDigit 44 = .ok (.aload_n 0, 1) := dq_42 (by decide +kernel)
theorem dX10_bestDigit_45 : decode cX10_bestDigit 45 = .ok (.getfield 21, 3) := dq_180 (a := 0) (b := 21) (by decide +kernel) rfl
theorem dX10_bestDigit_48 : decode cX10_bestDigit 48 = .ok (.aload_n 0, 1) := dq_42 (by decide +kernel)
theorem dX10_bestDigit_49 : decode cX10_bestDigit 49 = .ok (.getfield 34, 3) := dq_180 (a := 0) (b := 34) (by decide +kernel) rfl
theorem dX10_bestDigit_52 : decode cX10_bestDigit 52 = .ok (.iaload, 1) := dq_46 (by decide +kernel)
theorem dX10_bestDigit_53 : decode cX10_bestDigit 53 = .ok (.i2l, 1) := dq_133 (by decide +kernel)
theorem dX10_bestDigit_54 : decode cX10_bestDigit 54 = .ok (.aload_n 0, 1) := dq_42 (by decide +kernel)
theorem dX10_bestDigit_55 : decode cX10_bestDigit 55 = .ok (.getfield 9, 3) := dq_180 (a := 0) (b := 9) (by decide +kernel) rfl
theorem dX10_bestDigit_58 : decode cX10_bestDigit 58 = .ok (.iload_n 2, 1) := dq_28 (by decide +kernel)
theorem dX10_bestDigit_59 : decode cX10_bestDigit 59 = .ok (.laload, 1) := dq_47 (by decide +kernel)
theorem dX10_bestDigit_60 : decode cX10_bestDigit 60 = .ok (.lmul, 1) := dq_105 (by decide +kernel)
theorem dX10_bestDigit_61 : decode cX10_bestDigit 61 = .ok (.lsub, 1) := dq_101 (by decide +kernel)
theorem dX10_bestDigit_62 : decode cX10_bestDigit 62 = .ok (.lload_n 3, 1) := dq_33 (by decide +kernel)
theorem dX10_bestDigit_63 : decode cX10_bestDigit 63 = .ok (.invokestatic 80, 3) := dq_184 (a := 0) (b := 80) (by decide +kernel) rfl
theorem dX10_bestDigit_66 : decode cX10_bestDigit 66 = .ok (.lstore 5, 2) := dq_55 (a := 5) (by decide +kernel) rfl
theorem dX10_bestDigit_68 : decode cX10_bestDigit 68 = .ok (.lconst 0, 1) := dq_9 (by decide +kernel)
theorem dX10_bestDigit_69 : decode cX10_bestDigit 69 = .ok (.iload_n 1, 1) := dq_27 (by decide +kernel)
theorem dX10_bestDigit_70 : decode cX10_bestDigit 70 = .ok (.iconst 1, 1) := dq_4 (by decide +kernel)
theorem dX10_bestDigit_71 : decode cX10_bestDigit 71 = .ok (.isub, 1) := dq_100 (by decide +kernel)
theorem dX10_bestDigit_72 : decode cX10_bestDigit 72 = .ok (.i2l, 1) := dq_133 (by decide +kernel)
theorem dX10_bestDigit_73 : decode cX10_bestDigit 73 = .ok (.lload 5, 2) := dq_22 (a := 5) (by decide +kernel) rfl
theorem dX10_bestDigit_75 : decode cX10_bestDigit 75 = .ok (.invokestatic 84, 3) := dq_184 (a := 0) (b := 84) (by decide +kernel) rfl
theorem dX10_bestDigit_78 : decode cX10_bestDigit 78 = .ok (.invokestatic 87, 3) := dq_184 (a := 0) (b := 87) (by decide +kernel) rfl
theorem dX10_bestDigit_81 : decode cX10_bestDigit 81 = .ok (.l2i, 1) := dq_136 (by decide +kernel)
theorem dX10_bestDigit_82 : decode cX10_bestDigit 82 = .ok (.istore 7, 2) := dq_54 (a := 7) (by decide +kernel) rfl
theorem dX10_bestDigit_84 : decode cX10_bestDigit 84 = .ok (.iload 7, 2) := dq_21 (a := 7) (by decide +kernel) rfl
theorem dX10_bestDigit_86 : decode cX10_bestDigit 86 = .ok (.iconst 1, 1) := dq_4 (by decide +kernel)
theorem dX10_bestDigit_87 : decode cX10_bestDigit 87 = .ok (.iadd, 1) := dq_96 (by decide +kernel)
theorem dX10_bestDigit_88 : decode cX10_bestDigit 88 = .ok (.iload_n 1, 1) := dq_27 (by decide +kernel)
theorem dX10_bestDigit_89 : decode cX10_bestDigit 89 = .ok (.if_icmp .ge 28, 3) := dq_162 (a := 0) (b := 28) (by decide +kernel) (by decide +kernel)
theorem dX10_bestDigit_117 : decode cX10_bestDigit 117 = .ok (.iload 7, 2) := dq_21 (a := 7) (by decide +kernel) rfl
theorem dX10_bestDigit_119 : decode cX10_bestDigit 119 = .ok (.ireturn, 1) := dq_172 (by decide +kernel)
theorem dX10_bestDigit_92 : decode cX10_bestDigit 92 = .ok (.aload_n 0, 1) := dq_42 (by decide +kernel)
theorem dX10_bestDigit_93 : decode cX10_bestDigit 93 = .ok (.iload 7, 2) := dq_21 (a := 7) (by decide +kernel) rfl
theorem dX10_bestDigit_95 : decode cX10_bestDigit 95 = .ok (.iconst 1, 1) := dq_4 (by decide +kernel)
theorem dX10_bestDigit_96 : decode cX10_bestDigit 96 = .ok (.iadd, 1) := dq_96 (by decide +kernel)
theorem dX10_bestDigit_97 : decode cX10_bestDigit 97 = .ok (.invokevirtual 89, 3) := dq_182 (a := 0) (b := 89) (by decide +kernel) rfl
theorem dX10_bestDigit_100 : decode cX10_bestDigit 100 = .ok (.aload_n 0, 1) := dq_42 (by decide +kernel)
theorem dX10_bestDigit_101 : decode cX10_bestDigit 101 = .ok (.iload 7, 2) := dq_21 (a := 7) (by decide +kernel) rfl
theorem dX10_bestDigit_103 : decode cX10_bestDigit 103 = .ok (.invokevirtual 89, 3) := dq_182 (a := 0) (b := 89) (by decide +kernel) rfl
theorem dX10_bestDigit_106 : decode cX10_bestDigit 106 = .ok (.lcmp, 1) := dq_148 (by decide +kernel)
theorem dX10_bestDigit_107 : decode cX10_bestDigit 107 = .ok (.ifCond .ge 10, 3) := dq_156 (a := 0) (b := 10) (by decide +kernel) (by decide +kernel)
theorem dX10_bestDigit_110 : decode cX10_bestDigit 110 = .ok (.iload 7, 2) := dq_21 (a := 7) (by decide +kernel) rfl
theorem dX10_bestDigit_112 : decode cX10_bestDigit 112 = .ok (.iconst 1, 1) := dq_4 (by decide +kernel)
theorem dX10_bestDigit_113 : decode cX10_bestDigit 113 = .ok (.iadd, 1) := dq_96 (by decide +kernel)
theorem dX10_bestDigit_114 : decode cX10_bestDigit 114 = .ok (.goto 5, 3) := dq_167 (a := 0) (b := 5) (by decide +kernel) (by decide +kernel)
theorem dX10_bestDigit_36 : decode cX10_bestDigit 36 = .ok (.iconst 0, 1) := dq_3 (by decide +kernel)
theorem dX10_bestDigit_37 : decode cX10_bestDigit 37 = .ok (.ireturn, 1) := dq_172 (by decide +kernel)
theorem dX0_forget_0 : decode cX0_forget 0 = .ok (.aload_n 0, 1) := dq_42 (by decide +kernel)
theorem dX0_forget_1 : decode cX0_forget 1 = .ok (.iconst 0, 1) := dq_3 (by decide +kernel)
theorem dX0_forget_2 : decode cX0_forget 2 = .ok (.putfield 23, 3) := dq_181 (a := 0) (b := 23) (by decide +kernel) rfl
theorem dX0_forget_5 : decode cX0_forget 5 = .ok (.return_, 1) := dq_177 (by decide +kernel)
theorem dX0_learn_0 : decode cX0_learn 0 = .ok (.aload_n 0, 1) := dq_42 (by decide +kernel)
theorem dX0_learn_1 : decode cX0_learn 1 = .ok (.getfield 23, 3) := dq_180 (a := 0) (b := 23) (by decide +kernel) rfl
theorem dX0_learn_4 : decode cX0_learn 4 = .ok (.ifCond .eq 4, 3) := dq_153 (a := 0) (b := 4) (by decide +kernel) (by decide +kernel)
theorem dX0_learn_8 : decode cX0_learn 8 = .ok (.aload_n 0, 1) := dq_42 (by decide +kernel)
theorem dX0_learn_9 : decode cX0_learn 9 = .ok (.iconst 1, 1) := dq_4 (by decide +kernel)
theorem dX0_learn_10 : decode cX0_learn 10 = .ok (.putfield 23, 3) := dq_181 (a := 0) (b := 23) (by decide +kernel) rfl
theorem dX0_learn_13 : decode cX0_learn 13 = .ok (.aload_n 0, 1) := dq_42 (by decide +kernel)
theorem dX0_learn_14 : decode cX0_learn 14 = .ok (.aload_n 1, 1) := dq_43 (by decide +kernel)
theorem dX0_learn_15 : decode cX0_learn 15 = .ok (.getfield 37, 3) := dq_180 (a := 0) (b := 37) (by decide +kernel) rfl
theorem dX0_learn_18 : decode cX0_learn 18 = .ok (.putfield 19, 3) := dq_181 (a := 0) (b := 19) (by decide +kernel) rfl
theorem dX0_learn_21 : decode cX0_learn 21 = .ok (.iconst 0, 1) := dq_3 (by decide +kernel)
theorem dX0_learn_22 : decode cX0_learn 22 = .ok (.istore_n 2, 1) := dq_61 (by decide +kernel)
theorem dX0_learn_23 : decode cX0_learn 23 = .ok (.iload_n 2, 1) := dq_28 (by decide +kernel)
theorem dX0_learn_24 : decode cX0_learn 24 = .ok (.aload_n 0, 1) := dq_42 (by decide +kernel)
theorem dX0_learn_25 : decode cX0_learn 25 = .ok (.getfield 19, 3) := dq_180 (a := 0) (b := 19) (by decide +kernel) rfl
theorem dX0_learn_28 : decode cX0_learn 28 = .ok (.if_icmp .ge 45, 3) := dq_162 (a := 0) (b := 45) (by decide +kernel) (by decide +kernel)
theorem dX0_learn_73 : decode cX0_learn 73 = .ok (.return_, 1) := dq_177 (by decide +kernel)
theorem dX0_learn_31 : decode cX0_learn 31 = .ok (.iload_n 2, 1) := dq_28 (by decide +kernel)
theorem dX0_learn_32 : decode cX0_learn 32 = .ok (.iconst 1, 1) := dq_4 (by decide +kernel)
theorem dX0_learn_33 : decode cX0_learn 33 = .ok (.iadd, 1) := dq_96 (by decide +kernel)
theorem dX0_learn_34 : decode cX0_learn 34 = .ok (.istore_n 3, 1) := dq_62 (by decide +kernel)
theorem dX0_learn_35 : decode cX0_learn 35 = .ok (.iload_n 3, 1) := dq_29 (by decide +kernel)
theorem dX0_learn_36 : decode cX0_learn 36 = .ok (.aload_n 0, 1) := dq_42 (by decide +kernel)
theorem dX0_learn_37 : decode cX0_learn 37 = .ok (.getfield 19, 3) := dq_180 (a := 0) (b := 19) (by decide +kernel) rfl
theorem dX0_learn_40 : decode cX0_learn 40 = .ok (.if_icmp .ge 27, 3) := dq_162 (a := 0) (b := 27) (by decide +kernel) (by decide +kernel)
theorem dX0_learn_67 : decode cX0_learn 67 = .ok (.iinc 2 1, 3) := dq_132 (a := 2) (b := 1) (by decide +kernel) rfl (by decide +kernel)
theorem dX0_learn_70 : decode cX0_learn 70 = .ok (.goto (-47), 3) := dq_167 (a := 255) (b := 209) (by decide +kernel) (by decide +kernel)
theorem dX0_learn_43 : decode cX0_learn 43 = .ok (.aload_n 0, 1) := dq_42 (by decide +kernel)
theorem dX0_learn_44 : decode cX0_learn 44 = .ok (.getfield 9, 3) := dq_180 (a := 0) (b := 9) (by decide +kernel) rfl
theorem dX0_learn_47 : decode cX0_learn 47 = .ok (.iload_n 2, 1) := dq_28 (by decide +kernel)
theorem dX0_learn_48 : decode cX0_learn 48 = .ok (.bipush 16, 2) := dq_16 (a := 16) (by decide +kernel) (by decide +kernel)
theorem dX0_learn_50 : decode cX0_learn 50 = .ok (.imul, 1) := dq_104 (by decide +kernel)
theorem dX0_learn_51 : decode cX0_learn 51 = .ok (.iload_n 3, 1) := dq_29 (by decide +kernel)
theorem dX0_learn_52 : decode cX0_learn 52 = .ok (.iadd, 1) := dq_96 (by decide +kernel)
theorem dX0_learn_53 : decode cX0_learn 53 = .ok (.aload_n 0, 1) := dq_42 (by decide +kernel)
theorem dX0_learn_54 : decode cX0_learn 54 = .ok (.aload_n 1, 1) := dq_43 (by decide +kernel)
theorem dX0_learn_55 : decode cX0_learn 55 = .ok (.iload_n 2, 1) := dq_28 (by decide +kernel)
theorem dX0_learn_56 : decode cX0_learn 56 = .ok (.iload_n 3, 1) := dq_29 (by decide +kernel)
theorem dX0_learn_57 : decode cX0_learn 57 = .ok (.invokevirtual 42, 3) := dq_182 (a := 0) (b := 42) (by decide +kernel) rfl
theorem dX0_worthOfPair_0 : decode cX0_worthOfPair 0 = .ok (.iconst 0, 1) := dq_3 (by decide +kernel)
theorem dX0_worthOfPair_1 : decode cX0_worthOfPair 1 = .ok (.istore 4, 2) := dq_54 (a := 4) (by decide +kernel) rfl
theorem dX0_worthOfPair_3 : decode cX0_worthOfPair 3 = .ok (.iload 4, 2) := dq_21 (a := 4) (by decide +kernel) rfl
theorem dX0_worthOfPair_5 : decode cX0_worthOfPair 5 = .ok (.aload_n 1, 1) := dq_43 (by decide +kernel)
theorem dX0_worthOfPair_6 : decode cX0_worthOfPair 6 = .ok (.getfield 46, 3) := dq_180 (a := 0) (b := 46) (by decide +kernel) rfl
theorem dX0_worthOfPair_9 : decode cX0_worthOfPair 9 = .ok (.if_icmp .ge 31, 3) := dq_162 (a := 0) (b := 31) (by decide +kernel) (by decide +kernel)
theorem dX0_worthOfPair_40 : decode cX0_worthOfPair 40 = .ok (.lconst 0, 1) := dq_9 (by decide +kernel)
theorem dX0_worthOfPair_41 : decode cX0_worthOfPair 41 = .ok (.lstore 4, 2) := dq_55 (a := 4) (by decide +kernel) rfl
theorem dX0_worthOfPair_43 : decode cX0_worthOfPair 43 = .ok (.iconst 0, 1) := dq_3 (by decide +kernel)
theorem dX0_worthOfPair_44 : decode cX0_worthOfPair 44 = .ok (.istore 6, 2) := dq_54 (a := 6) (by decide +kernel) rfl
theorem dX0_worthOfPair_46 : decode cX0_worthOfPair 46 = .ok (.iload 6, 2) := dq_21 (a := 6) (by decide +kernel) rfl
theorem dX0_worthOfPair_48 : decode cX0_worthOfPair 48 = .ok (.aload_n 1, 1) := dq_43 (by decide +kernel)
theorem dX0_worthOfPair_49 : decode cX0_worthOfPair 49 = .ok (.getfield 53, 3) := dq_180 (a := 0) (b := 53) (by decide +kernel) rfl
theorem dX0_worthOfPair_52 : decode cX0_worthOfPair 52 = .ok (.if_icmp .ge 39, 3) := dq_162 (a := 0) (b := 39) (by decide +kernel) (by decide +kernel)
theorem dX0_worthOfPair_91 : decode cX0_worthOfPair 91 = .ok (.lload 4, 2) := dq_22 (a := 4) (by decide +kernel) rfl
theorem dX0_worthOfPair_93 : decode cX0_worthOfPair 93 = .ok (.lreturn, 1) := dq_173 (by decide +kernel)
theorem dX0_worthOfPair_55 : decode cX0_worthOfPair 55 = .ok (.aload_n 1, 1) := dq_43 (by decide +kernel)
theorem dX0_worthOfPair_56 : decode cX0_worthOfPair 56 = .ok (.getfield 56, 3) := dq_180 (a := 0) (b := 56) (by decide +kernel) rfl
theorem dX0_worthOfPair_59 : decode cX0_worthOfPair 59 = .ok (.iload 6, 2) := dq_21 (a := 6) (by decide +kernel) rfl
theorem dX0_worthOfPair_61 : decode cX0_worthOfPair 61 = .ok (.aload_n 0, 1) := dq_42 (by decide +kernel)
theorem dX0_worthOfPair_62 : decode cX0_worthOfPair 62 = .ok (.getfield 15, 3) := dq_180 (a := 0) (b := 15) (by decide +kernel) rfl
theorem dX0_worthOfPair_65 : decode cX0_worthOfPair 65 = .ok (.aload_n 1, 1) := dq_43 (by decide +kernel)
theorem dX0_worthOfPair_66 : decode cX0_worthOfPair 66 = .ok (.getfield 46, 3) := dq_180 (a := 0) (b := 46) (by decide +kernel) rfl
theorem dX0_worthOfPair_69 : decode cX0_worthOfPair 69 = .ok (.invokevirtual 60, 3) := dq_182 (a := 0) (b := 60) (by decide +kernel) rfl
theorem dX0_worthOfPair_72 : decode cX0_worthOfPair 72 = .ok (.i2l, 1) := dq_133 (by decide +kernel)
theorem dX0_worthOfPair_73 : decode cX0_worthOfPair 73 = .ok (.lstore 7, 2) := dq_55 (a := 7) (by decide +kernel) rfl
theorem dX0_worthOfPair_75 : decode cX0_worthOfPair 75 = .ok (.lload 4, 2) := dq_22 (a := 4) (by decide +kernel) rfl
theorem dX0_worthOfPair_77 : decode cX0_worthOfPair 77 = .ok (.lload 7, 2) := dq_22 (a := 7) (by decide +kernel) rfl
theorem dX0_worthOfPair_79 : decode cX0_worthOfPair 79 = .ok (.lload 7, 2) := dq_22 (a := 7) (by decide +kernel) rfl
theorem dX0_worthOfPair_81 : decode cX0_worthOfPair 81 = .ok (.lmul, 1) := dq_105 (by decide +kernel)
theorem dX0_worthOfPair_82 : decode cX0_worthOfPair 82 = .ok (.ladd, 1) := dq_97 (by decide +kernel)
theorem dX0_worthOfPair_83 : decode cX0_worthOfPair 83 = .ok (.lstore 4, 2) := dq_55 (a := 4) (by decide +kernel) rfl
theorem dX0_worthOfPair_85 : decode cX0_worthOfPair 85 = .ok (.iinc 6 1, 3) := dq_132 (a := 6) (b := 1) (by decide +kernel) rfl (by decide +kernel)
theorem dX0_worthOfPair_88 : decode cX0_worthOfPair 88 = .ok (.goto (-42), 3) := dq_167 (a := 255) (b := 214) (by decide +kernel) (by decide +kernel)
theorem dX0_worthOfPair_12 : decode cX0_worthOfPair 12 = .ok (.aload_n 0, 1) := dq_42 (by decide +kernel)
theorem dX0_worthOfPair_13 : decode cX0_worthOfPair 13 = .ok (.getfield 15, 3) := dq_180 (a := 0) (b := 15) (by decide +kernel) rfl
theorem dX0_worthOfPair_16 : decode cX0_worthOfPair 16 = .ok (.iload 4, 2) := dq_21 (a := 4) (by decide +kernel) rfl
theorem dX0_worthOfPair_18 : decode cX0_worthOfPair 18 = .ok (.aload_n 1, 1) := dq_43 (by decide +kernel)
theorem dX0_worthOfPair_19 : decode cX0_worthOfPair 19 = .ok (.iload_n 2, 1) := dq_28 (by decide +kernel)
theorem dX0_worthOfPair_20 : decode cX0_worthOfPair 20 = .ok (.iload 4, 2) := dq_21 (a := 4) (by decide +kernel) rfl
theorem dX0_worthOfPair_22 : decode cX0_worthOfPair 22 = .ok (.invokevirtual 49, 3) := dq_182 (a := 0) (b := 49) (by decide +kernel) rfl
theorem dX0_worthOfPair_25 : decode cX0_worthOfPair 25 = .ok (.aload_n 1, 1) := dq_43 (by decide +kernel)
theorem dX0_worthOfPair_26 : decode cX0_worthOfPair 26 = .ok (.iload_n 3, 1) := dq_29 (by decide +kernel)
theorem dX0_worthOfPair_27 : decode cX0_worthOfPair 27 = .ok (.iload 4, 2) := dq_21 (a := 4) (by decide +kernel) rfl
theorem dX0_worthOfPair_29 : decode cX0_worthOfPair 29 = .ok (.invokevirtual 49, 3) := dq_182 (a := 0) (b := 49) (by decide +kernel) rfl
theorem dX0_worthOfPair_32 : decode cX0_worthOfPair 32 = .ok (.isub, 1) := dq_100 (by decide +kernel)
theorem dX0_worthOfPair_33 : decode cX0_worthOfPair 33 = .ok (.iastore, 1) := dq_79 (by decide +kernel)
theorem dX0_worthOfPair_34 : decode cX0_worthOfPair 34 = .ok (.iinc 4 1, 3) := dq_132 (a := 4) (b := 1) (by decide +kernel) rfl (by decide +kernel)
theorem dX0_worthOfPair_37 : decode cX0_worthOfPair 37 = .ok (.goto (-34), 3) := dq_167 (a := 255) (b := 222) (by decide +kernel) (by decide +kernel)
theorem dX0_learn_60 : decode cX0_learn 60 = .ok (.lastore, 1) := dq_80 (by decide +kernel)
theorem dX0_learn_61 : decode cX0_learn 61 = .ok (.iinc 3 1, 3) := dq_132 (a := 3) (b := 1) (by decide +kernel) rfl (by decide +kernel)
theorem dX0_learn_64 : decode cX0_learn 64 = .ok (.goto (-29), 3) := dq_167 (a := 255) (b := 227) (by decide +kernel) (by decide +kernel)
theorem dX0_learn_7 : decode cX0_learn 7 = .ok (.return_, 1) := dq_177 (by decide +kernel)
theorem dX0_findLeast_0 : decode cX0_findLeast 0 = .ok (.aload_n 0, 1) := dq_42 (by decide +kernel)
theorem dX0_findLeast_1 : decode cX0_findLeast 1 = .ok (.ldc2_w 66, 3) := dq_20 (a := 0) (b := 66) (by decide +kernel) rfl
theorem dX0_findLeast_4 : decode cX0_findLeast 4 = .ok (.putfield 27, 3) := dq_181 (a := 0) (b := 27) (by decide +kernel) rfl
theorem dX0_findLeast_7 : decode cX0_findLeast 7 = .ok (.aload_n 0, 1) := dq_42 (by decide +kernel)
theorem dX0_findLeast_8 : decode cX0_findLeast 8 = .ok (.iconst 0, 1) := dq_3 (by decide +kernel)
theorem dX0_findLeast_9 : decode cX0_findLeast 9 = .ok (.putfield 31, 3) := dq_181 (a := 0) (b := 31) (by decide +kernel) rfl
theorem dX0_findLeast_12 : decode cX0_findLeast 12 = .ok (.iconst 0, 1) := dq_3 (by decide +kernel)
theorem dX0_findLeast_13 : decode cX0_findLeast 13 = .ok (.istore_n 2, 1) := dq_61 (by decide +kernel)
theorem dX0_findLeast_14 : decode cX0_findLeast 14 = .ok (.iload_n 2, 1) := dq_28 (by decide +kernel)
theorem dX0_findLeast_15 : decode cX0_findLeast 15 = .ok (.aload_n 0, 1) := dq_42 (by decide +kernel)
theorem dX0_findLeast_16 : decode cX0_findLeast 16 = .ok (.getfield 19, 3) := dq_180 (a := 0) (b := 19) (by decide +kernel) rfl
theorem dX0_findLeast_19 : decode cX0_findLeast 19 = .ok (.if_icmp .ge 43, 3) := dq_162 (a := 0) (b := 43) (by decide +kernel) (by decide +kernel)
theorem dX0_findLeast_62 : decode cX0_findLeast 62 = .ok (.return_, 1) := dq_177 (by decide +kernel)
theorem dX0_findLeast_22 : decode cX0_findLeast 22 = .ok (.iload_n 2, 1) := dq_28 (by decide +kernel)
theorem dX0_findLeast_23 : decode cX0_findLeast 23 = .ok (.iconst 1, 1) := dq_4 (by decide +kernel)
theorem dX0_findLeast_24 : decode cX0_findLeast 24 = .ok (.iadd, 1) := dq_96 (by decide +kernel)
theorem dX0_findLeast_25 : decode cX0_findLeast 25 = .ok (.istore_n 3, 1) := dq_62 (by decide +kernel)
theorem dX0_findLeast_26 : decode cX0_findLeast 26 = .ok (.iload_n 3, 1) := dq_29 (by decide +kernel)
theorem dX0_findLeast_27 : decode cX0_findLeast 27 = .ok (.aload_n 0, 1) := dq_42 (by decide +kernel)
theorem dX0_findLeast_28 : decode cX0_findLeast 28 = .ok (.getfield 19, 3) := dq_180 (a := 0) (b := 19) (by decide +kernel) rfl
theorem dX0_findLeast_31 : decode cX0_findLeast 31 = .ok (.if_icmp .ge 25, 3) := dq_162 (a := 0) (b := 25) (by decide +kernel) (by decide +kernel)
theorem dX0_findLeast_56 : decode cX0_findLeast 56 = .ok (.iinc 2 1, 3) := dq_132 (a := 2) (b := 1) (by decide +kernel) rfl (by decide +kernel)
theorem dX0_findLeast_59 : decode cX0_findLeast 59 = .ok (.goto (-45), 3) := dq_167 (a := 255) (b := 211) (by decide +kernel) (by decide +kernel)
theorem dX0_findLeast_34 : decode cX0_findLeast 34 = .ok (.iload_n 2, 1) := dq_28 (by decide +kernel)
theorem dX0_findLeast_35 : decode cX0_findLeast 35 = .ok (.iload_n 1, 1) := dq_27 (by decide +kernel)
theorem dX0_findLeast_36 : decode cX0_findLeast 36 = .ok (.if_icmp .eq 14, 3) := dq_159 (a := 0) (b := 14) (by decide +kernel) (by decide +kernel)
theorem dX0_findLeast_50 : decode cX0_findLeast 50 = .ok (.iinc 3 1, 3) := dq_132 (a := 3) (b := 1) (by decide +kernel) rfl (by decide +kernel)
theorem dX0_findLeast_53 : decode cX0_findLeast 53 = .ok (.goto (-27), 3) := dq_167 (a := 255) (b := 229) (by decide +kernel) (by decide +kernel)
theorem dX0_findLeast_39 : decode cX0_findLeast 39 = .ok (.iload_n 3, 1) := dq_29 (by decide +kernel)
theorem dX0_findLeast_40 : decode cX0_findLeast 40 = .ok (.iload_n 1, 1) := dq_27 (by decide +kernel)
theorem dX0_findLeast_41 : decode cX0_findLeast 41 = .ok (.if_icmp .eq 9, 3) := dq_159 (a := 0) (b := 9) (by decide +kernel) (by decide +kernel)
theorem dX0_findLeast_44 : decode cX0_findLeast 44 = .ok (.aload_n 0, 1) := dq_42 (by decide +kernel)
theorem dX0_findLeast_45 : decode cX0_findLeast 45 = .ok (.iload_n 2, 1) := dq_28 (by decide +kernel)
theorem dX0_findLeast_46 : decode cX0_findLeast 46 = .ok (.iload_n 3, 1) := dq_29 (by decide +kernel)
theorem dX0_findLeast_47 : decode cX0_findLeast 47 = .ok (.invokevirtual 68, 3) := dq_182 (a := 0) (b := 68) (by decide +kernel) rfl
theorem dX0_weighPair_0 : decode cX0_weighPair 0 = .ok (.aload_n 0, 1) := dq_42 (by decide +kernel)
theorem dX0_weighPair_1 : decode cX0_weighPair 1 = .ok (.getfield 9, 3) := dq_180 (a := 0) (b := 9) (by decide +kernel) rfl
theorem dX0_weighPair_4 : decode cX0_weighPair 4 = .ok (.iload_n 1, 1) := dq_27 (by decide +kernel)
theorem dX0_weighPair_5 : decode cX0_weighPair 5 = .ok (.bipush 16, 2) := dq_16 (a := 16) (by decide +kernel) (by decide +kernel)
theorem dX0_weighPair_7 : decode cX0_weighPair 7 = .ok (.imul, 1) := dq_104 (by decide +kernel)
theorem dX0_weighPair_8 : decode cX0_weighPair 8 = .ok (.iload_n 2, 1) := dq_28 (by decide +kernel)
theorem dX0_weighPair_9 : decode cX0_weighPair 9 = .ok (.iadd, 1) := dq_96 (by decide +kernel)
theorem dX0_weighPair_10 : decode cX0_weighPair 10 = .ok (.laload, 1) := dq_47 (by decide +kernel)
theorem dX0_weighPair_11 : decode cX0_weighPair 11 = .ok (.lstore_n 3, 1) := dq_66 (by decide +kernel)
theorem dX0_weighPair_12 : decode cX0_weighPair 12 = .ok (.lload_n 3, 1) := dq_33 (by decide +kernel)
theorem dX0_weighPair_13 : decode cX0_weighPair 13 = .ok (.aload_n 0, 1) := dq_42 (by decide +kernel)
theorem dX0_weighPair_14 : decode cX0_weighPair 14 = .ok (.getfield 27, 3) := dq_180 (a := 0) (b := 27) (by decide +kernel) rfl
theorem dX0_weighPair_17 : decode cX0_weighPair 17 = .ok (.lcmp, 1) := dq_148 (by decide +kernel)
theorem dX0_weighPair_18 : decode cX0_weighPair 18 = .ok (.ifCond .ge 23, 3) := dq_156 (a := 0) (b := 23) (by decide +kernel) (by decide +kernel)
theorem dX0_weighPair_41 : decode cX0_weighPair 41 = .ok (.lload_n 3, 1) := dq_33 (by decide +kernel)
theorem dX0_weighPair_42 : decode cX0_weighPair 42 = .ok (.aload_n 0, 1) := dq_42 (by decide +kernel)
theorem dX0_weighPair_43 : decode cX0_weighPair 43 = .ok (.getfield 27, 3) := dq_180 (a := 0) (b := 27) (by decide +kernel) rfl
theorem dX0_weighPair_46 : decode cX0_weighPair 46 = .ok (.lcmp, 1) := dq_148 (by decide +kernel)
theorem dX0_weighPair_47 : decode cX0_weighPair 47 = .ok (.ifCond .ne 13, 3) := dq_154 (a := 0) (b := 13) (by decide +kernel) (by decide +kernel)
theorem dX0_weighPair_60 : decode cX0_weighPair 60 = .ok (.return_, 1) := dq_177 (by decide +kernel)
theorem dX0_weighPair_50 : decode cX0_weighPair 50 = .ok (.aload_n 0, 1) := dq_42 (by decide +kernel)
theorem dX0_weighPair_51 : decode cX0_weighPair 51 = .ok (.dup, 1) := dq_89 (by decide +kernel)
theorem dX0_weighPair_52 : decode cX0_weighPair 52 = .ok (.getfield 31, 3) := dq_180 (a := 0) (b := 31) (by decide +kernel) rfl
theorem dX0_weighPair_55 : decode cX0_weighPair 55 = .ok (.iconst 1, 1) := dq_4 (by decide +kernel)
theorem dX0_weighPair_56 : decode cX0_weighPair 56 = .ok (.iadd, 1) := dq_96 (by decide +kernel)
theorem dX0_weighPair_57 : decode cX0_weighPair 57 = .ok (.putfield 31, 3) := dq_181 (a := 0) (b := 31) (by decide +kernel) rfl
theorem dX0_weighPair_21 : decode cX0_weighPair 21 = .ok (.aload_n 0, 1) := dq_42 (by decide +kernel)
theorem dX0_weighPair_22 : decode cX0_weighPair 22 = .ok (.lload_n 3, 1) := dq_33 (by decide +kernel)
theorem dX0_weighPair_23 : decode cX0_weighPair 23 = .ok (.putfield 27, 3) := dq_181 (a := 0) (b := 27) (by decide +kernel) rfl
theorem dX0_weighPair_26 : decode cX0_weighPair 26 = .ok (.aload_n 0, 1) := dq_42 (by decide +kernel)
theorem dX0_weighPair_27 : decode cX0_weighPair 27 = .ok (.iconst 0, 1) := dq_3 (by decide +kernel)
theorem dX0_weighPair_28 : decode cX0_weighPair 28 = .ok (.putfield 31, 3) := dq_181 (a := 0) (b := 31) (by decide +kernel) rfl
theorem dX0_weighPair_31 : decode cX0_weighPair 31 = .ok (.aload_n 0, 1) := dq_42 (by decide +kernel)
theorem dX0_weighPair_32 : decode cX0_weighPair 32 = .ok (.bipush 100, 2) := dq_16 (a := 100) (by decide +kernel) (by decide +kernel)
theorem dX0_weighPair_34 : decode cX0_weighPair 34 = .ok (.iload_n 1, 1) := dq_27 (by decide +kernel)
theorem dX0_weighPair_35 : decode cX0_weighPair 35 = .ok (.imul, 1) := dq_104 (by decide +kernel)
theorem dX0_weighPair_36 : decode cX0_weighPair 36 = .ok (.iload_n 2, 1) := dq_28 (by decide +kernel)
theorem dX0_weighPair_37 : decode cX0_weighPair 37 = .ok (.iadd, 1) := dq_96 (by decide +kernel)
theorem dX0_weighPair_38 : decode cX0_weighPair 38 = .ok (.putfield 34, 3) := dq_181 (a := 0) (b := 34) (by decide +kernel) rfl
theorem dX6_forget_0 : decode cX6_forget 0 = .ok (.aload_n 0, 1) := dq_42 (by decide +kernel)
theorem dX6_forget_1 : decode cX6_forget 1 = .ok (.getfield 22, 3) := dq_180 (a := 0) (b := 22) (by decide +kernel) rfl
theorem dX6_forget_4 : decode cX6_forget 4 = .ok (.ldc2_w 30, 3) := dq_20 (a := 0) (b := 30) (by decide +kernel) rfl
theorem dX6_forget_7 : decode cX6_forget 7 = .ok (.invokestatic 32, 3) := dq_184 (a := 0) (b := 32) (by decide +kernel) rfl
theorem dJ7_fill_d0a16_0 : decode cJ7_fill_d0a16 0 = .ok (.iconst 0, 1) := dq_3 (by decide +kernel)
theorem dJ7_fill_d0a16_1 : decode cJ7_fill_d0a16 1 = .ok (.istore_n 3, 1) := dq_62 (by decide +kernel)
theorem dJ7_fill_d0a16_2 : decode cJ7_fill_d0a16 2 = .ok (.aload_n 0, 1) := dq_42 (by decide +kernel)
theorem dJ7_fill_d0a16_3 : decode cJ7_fill_d0a16 3 = .ok (.arraylength, 1) := dq_190 (by decide +kernel)
theorem dJ7_fill_d0a16_4 : decode cJ7_fill_d0a16 4 = .ok (.istore 4, 2) := dq_54 (a := 4) (by decide +kernel) rfl
theorem dJ7_fill_d0a16_6 : decode cJ7_fill_d0a16 6 = .ok (.iload_n 3, 1) := dq_29 (by decide +kernel)
theorem dJ7_fill_d0a16_7 : decode cJ7_fill_d0a16 7 = .ok (.iload 4, 2) := dq_21 (a := 4) (by decide +kernel) rfl
theorem dJ7_fill_d0a16_9 : decode cJ7_fill_d0a16 9 = .ok (.if_icmp .ge 13, 3) := dq_162 (a := 0) (b := 13) (by decide +kernel) (by decide +kernel)
theorem dJ7_fill_d0a16_12 : decode cJ7_fill_d0a16 12 = .ok (.aload_n 0, 1) := dq_42 (by decide +kernel)
theorem dJ7_fill_d0a16_13 : decode cJ7_fill_d0a16 13 = .ok (.iload_n 3, 1) := dq_29 (by decide +kernel)
theorem dJ7_fill_d0a16_14 : decode cJ7_fill_d0a16 14 = .ok (.lload_n 1, 1) := dq_31 (by decide +kernel)
theorem dJ7_fill_d0a16_15 : decode cJ7_fill_d0a16 15 = .ok (.lastore, 1) := dq_80 (by decide +kernel)
theorem dJ7_fill_d0a16_16 : decode cJ7_fill_d0a16 16 = .ok (.iinc 3 1, 3) := dq_132 (a := 3) (b := 1) (by decide +kernel) rfl (by decide +kernel)
theorem dJ7_fill_d0a16_19 : decode cJ7_fill_d0a16 19 = .ok (.goto (-13), 3) := dq_167 (a := 255) (b := 243) (by decide +kernel) (by decide +kernel)
theorem dJ7_fill_d0a16_22 : decode cJ7_fill_d0a16 22 = .ok (.return_, 1) := dq_177 (by decide +kernel)
theorem dX6_forget_10 : decode cX6_forget 10 = .ok (.return_, 1) := dq_177 (by decide +kernel)
theorem dX6_findShortest_0 : decode cX6_findShortest 0 = .ok (.aload_n 0, 1) := dq_42 (by decide +kernel)
theorem dX6_findShortest_1 : decode cX6_findShortest 1 = .ok (.getfield 12, 3) := dq_180 (a := 0) (b := 12) (by decide +kernel) rfl
theorem dX6_findShortest_4 : decode cX6_findShortest 4 = .ok (.aload_n 1, 1) := dq_43 (by decide +kernel)
theorem dX6_findShortest_5 : decode cX6_findShortest 5 = .ok (.invokevirtual 50, 3) := dq_182 (a := 0) (b := 50) (by decide +kernel) rfl
theorem dX6_findShortest_8 : decode cX6_findShortest 8 = .ok (.iconst 0, 1) := dq_3 (by decide +kernel)
theorem dX6_findShortest_9 : decode cX6_findShortest 9 = .ok (.istore 4, 2) := dq_54 (a := 4) (by decide +kernel) rfl
theorem dX6_findShortest_11 : decode cX6_findShortest 11 = .ok (.iload 4, 2) := dq_21 (a := 4) (by decide +kernel) rfl
theorem dX6_findShortest_13 : decode cX6_findShortest 13 = .ok (.aload_n 1, 1) := dq_43 (by decide +kernel)
theorem dX6_findShortest_14 : decode cX6_findShortest 14 = .ok (.getfield 54, 3) := dq_180 (a := 0) (b := 54) (by decide +kernel) rfl
theorem dX6_findShortest_17 : decode cX6_findShortest 17 = .ok (.if_icmp .ge 61, 3) := dq_162 (a := 0) (b := 61) (by decide +kernel) (by decide +kernel)
theorem dX6_findShortest_78 : decode cX6_findShortest 78 = .ok (.aload_n 0, 1) := dq_42 (by decide +kernel)
theorem dX6_findShortest_79 : decode cX6_findShortest 79 = .ok (.ldc2_w 61, 3) := dq_20 (a := 0) (b := 61) (by decide +kernel) rfl
theorem dX6_findShortest_82 : decode cX6_findShortest 82 = .ok (.putfield 26, 3) := dq_181 (a := 0) (b := 26) (by decide +kernel) rfl
theorem dX6_findShortest_85 : decode cX6_findShortest 85 = .ok (.aload_n 0, 1) := dq_42 (by decide +kernel)
theorem dX6_findShortest_86 : decode cX6_findShortest 86 = .ok (.getfield 12, 3) := dq_180 (a := 0) (b := 12) (by decide +kernel) rfl
theorem dX6_findShortest_89 : decode cX6_findShortest 89 = .ok (.getfield 63, 3) := dq_180 (a := 0) (b := 63) (by decide +kernel) rfl
theorem dX6_findShortest_92 : decode cX6_findShortest 92 = .ok (.aload_n 0, 1) := dq_42 (by decide +kernel)
theorem dX6_findShortest_93 : decode cX6_findShortest 93 = .ok (.getfield 12, 3) := dq_180 (a := 0) (b := 12) (by decide +kernel) rfl
theorem dX6_findShortest_96 : decode cX6_findShortest 96 = .ok (.getfield 66, 3) := dq_180 (a := 0) (b := 66) (by decide +kernel) rfl
theorem dX6_findShortest_99 : decode cX6_findShortest 99 = .ok (.iaload, 1) := dq_46 (by decide +kernel)
theorem dX6_findShortest_100 : decode cX6_findShortest 100 = .ok (.istore 4, 2) := dq_54 (a := 4) (by decide +kernel) rfl
theorem dX6_findShortest_102 : decode cX6_findShortest 102 = .ok (.iload 4, 2) := dq_21 (a := 4) (by decide +kernel) rfl
theorem dX6_findShortest_104 : decode cX6_findShortest 104 = .ok (.iconst 1, 1) := dq_4 (by decide +kernel)
theorem dX6_findShortest_105 : decode cX6_findShortest 105 = .ok (.isub, 1) := dq_100 (by decide +kernel)
theorem dX6_findShortest_106 : decode cX6_findShortest 106 = .ok (.iconst 2, 1) := dq_5 (by decide +kernel)
theorem dX6_findShortest_107 : decode cX6_findShortest 107 = .ok (.idiv, 1) := dq_108 (by decide +kernel)
theorem dX6_findShortest_108 : decode cX6_findShortest 108 = .ok (.istore 5, 2) := dq_54 (a := 5) (by decide +kernel) rfl
theorem dX6_findShortest_110 : decode cX6_findShortest 110 = .ok (.aload_n 0, 1) := dq_42 (by decide +kernel)
theorem dX6_findShortest_111 : decode cX6_findShortest 111 = .ok (.getfield 12, 3) := dq_180 (a := 0) (b := 12) (by decide +kernel) rfl
theorem dX6_findShortest_114 : decode cX6_findShortest 114 = .ok (.invokevirtual 69, 3) := dq_182 (a := 0) (b := 69) (by decide +kernel) rfl
theorem dX6_findShortest_117 : decode cX6_findShortest 117 = .ok (.iconst 1, 1) := dq_4 (by decide +kernel)
theorem dX6_findShortest_118 : decode cX6_findShortest 118 = .ok (.isub, 1) := dq_100 (by decide +kernel)
theorem dX6_findShortest_119 : decode cX6_findShortest 119 = .ok (.iconst 2, 1) := dq_5 (by decide +kernel)
theorem dX6_findShortest_120 : decode cX6_findShortest 120 = .ok (.idiv, 1) := dq_108 (by decide +kernel)
theorem dX6_findShortest_121 : decode cX6_findShortest 121 = .ok (.istore 6, 2) := dq_54 (a := 6) (by decide +kernel) rfl
theorem dX6_findShortest_123 : decode cX6_findShortest 123 = .ok (.aload_n 0, 1) := dq_42 (by decide +kernel)
theorem dX6_findShortest_124 : decode cX6_findShortest 124 = .ok (.getfield 12, 3) := dq_180 (a := 0) (b := 12) (by decide +kernel) rfl
theorem dX6_findShortest_127 : decode cX6_findShortest 127 = .ok (.invokevirtual 73, 3) := dq_182 (a := 0) (b := 73) (by decide +kernel) rfl
theorem dX6_findShortest_130 : decode cX6_findShortest 130 = .ok (.iconst 0, 1) := dq_3 (by decide +kernel)
theorem dX6_findShortest_131 : decode cX6_findShortest 131 = .ok (.istore 7, 2) := dq_54 (a := 7) (by decide +kernel) rfl
theorem dX6_findShortest_133 : decode cX6_findShortest 133 = .ok (.iload 7, 2) := dq_21 (a := 7) (by decide +kernel) rfl
theorem dX6_findShortest_135 : decode cX6_findShortest 135 = .ok (.iload 6, 2) := dq_21 (a := 6) (by decide +kernel) rfl
theorem dX6_findShortest_137 : decode cX6_findShortest 137 = .ok (.if_icmp .ge 22, 3) := dq_162 (a := 0) (b := 22) (by decide +kernel) (by decide +kernel)
theorem dX6_findShortest_159 : decode cX6_findShortest 159 = .ok (.iload 5, 2) := dq_21 (a := 5) (by decide +kernel) rfl
theorem dX6_findShortest_161 : decode cX6_findShortest 161 = .ok (.ifCond .le 9, 3) := dq_158 (a := 0) (b := 9) (by decide +kernel) (by decide +kernel)
theorem dX6_findShortest_170 : decode cX6_findShortest 170 = .ok (.return_, 1) := dq_177 (by decide +kernel)
theorem dX6_findShortest_164 : decode cX6_findShortest 164 = .ok (.aload_n 0, 1) := dq_42 (by decide +kernel)
theorem dX6_findShortest_165 : decode cX6_findShortest 165 = .ok (.iload 5, 2) := dq_21 (a := 5) (by decide +kernel) rfl
theorem dX6_findShortest_167 : decode cX6_findShortest 167 = .ok (.invokevirtual 76, 3) := dq_182 (a := 0) (b := 76) (by decide +kernel) rfl
theorem dX6_lookAtLine_0 : decode cX6_lookAtLine 0 = .ok (.aload_n 0, 1) := dq_42 (by decide +kernel)
theorem dX6_lookAtLine_1 : decode cX6_lookAtLine 1 = .ok (.getfield 12, 3) := dq_180 (a := 0) (b := 12) (by decide +kernel) rfl
theorem dX6_lookAtLine_4 : decode cX6_lookAtLine 4 = .ok (.iload_n 1, 1) := dq_27 (by decide +kernel)
theorem dX6_lookAtLine_5 : decode cX6_lookAtLine 5 = .ok (.invokevirtual 83, 3) := dq_182 (a := 0) (b := 83) (by decide +kernel) rfl
theorem dX6_lookAtLine_8 : decode cX6_lookAtLine 8 = .ok (.istore_n 2, 1) := dq_61 (by decide +kernel)
theorem dX6_lookAtLine_9 : decode cX6_lookAtLine 9 = .ok (.aload_n 0, 1) := dq_42 (by decide +kernel)
theorem dX6_lookAtLine_10 : decode cX6_lookAtLine 10 = .ok (.getfield 12, 3) := dq_180 (a := 0) (b := 12) (by decide +kernel) rfl
theorem dX6_lookAtLine_13 : decode cX6_lookAtLine 13 = .ok (.iload_n 2, 1) := dq_28 (by decide +kernel)
theorem dX6_lookAtLine_14 : decode cX6_lookAtLine 14 = .ok (.invokevirtual 87, 3) := dq_182 (a := 0) (b := 87) (by decide +kernel) rfl
theorem dX6_lookAtLine_17 : decode cX6_lookAtLine 17 = .ok (.lstore_n 3, 1) := dq_66 (by decide +kernel)
theorem dX6_lookAtLine_18 : decode cX6_lookAtLine 18 = .ok (.lload_n 3, 1) := dq_33 (by decide +kernel)
theorem dX6_lookAtLine_19 : decode cX6_lookAtLine 19 = .ok (.aload_n 0, 1) := dq_42 (by decide +kernel)
theorem dX6_lookAtLine_20 : decode cX6_lookAtLine 20 = .ok (.getfield 26, 3) := dq_180 (a := 0) (b := 26) (by decide +kernel) rfl
theorem dX6_lookAtLine_23 : decode cX6_lookAtLine 23 = .ok (.lcmp, 1) := dq_148 (by decide +kernel)
theorem dX6_lookAtLine_24 : decode cX6_lookAtLine 24 = .ok (.ifCond .ge 86, 3) := dq_156 (a := 0) (b := 86) (by decide +kernel) (by decide +kernel)
theorem dX6_lookAtLine_110 : decode cX6_lookAtLine 110 = .ok (.return_, 1) := dq_177 (by decide +kernel)
theorem dX6_lookAtLine_27 : decode cX6_lookAtLine 27 = .ok (.aload_n 0, 1) := dq_42 (by decide +kernel)
theorem dX6_lookAtLine_28 : decode cX6_lookAtLine 28 = .ok (.lload_n 3, 1) := dq_33 (by decide +kernel)
theorem dX6_lookAtLine_29 : decode cX6_lookAtLine 29 = .ok (.putfield 26, 3) := dq_181 (a := 0) (b := 26) (by decide +kernel) rfl
theorem dX6_lookAtLine_32 : decode cX6_lookAtLine 32 = .ok (.iconst 0, 1) := dq_3 (by decide +kernel)
theorem dX6_lookAtLine_33 : decode cX6_lookAtLine 33 = .ok (.istore 5, 2) := dq_54 (a := 5) (by decide +kernel) rfl
theorem dX6_lookAtLine_35 : decode cX6_lookAtLine 35 = .ok (.iload 5, 2) := dq_21 (a := 5) (by decide +kernel) rfl
theorem dX6_lookAtLine_37 : decode cX6_lookAtLine 37 = .ok (.aload_n 0, 1) := dq_42 (by decide +kernel)
theorem dX6_lookAtLine_38 : decode cX6_lookAtLine 38 = .ok (.getfield 12, 3) := dq_180 (a := 0) (b := 12) (by decide +kernel) rfl
theorem dX6_lookAtLine_41 : decode cX6_lookAtLine 41 = .ok (.getfield 66, 3) := dq_180 (a := 0) (b := 66) (by decide +kernel) rfl
theorem dX6_lookAtLine_44 : decode cX6_lookAtLine 44 = .ok (.if_icmp .ge 37, 3) := dq_162 (a := 0) (b := 37) (by decide +kernel) (by decide +kernel)
theorem dX6_lookAtLine_81 : decode cX6_lookAtLine 81 = .ok (.aload_n 0, 1) := dq_42 (by decide +kernel)
theorem dX6_lookAtLine_82 : decode cX6_lookAtLine 82 = .ok (.getfield 18, 3) := dq_180 (a := 0) (b := 18) (by decide +kernel) rfl
theorem dX6_lookAtLine_85 : decode cX6_lookAtLine 85 = .ok (.aload_n 0, 1) := dq_42 (by decide +kernel)
theorem dX6_lookAtLine_86 : decode cX6_lookAtLine 86 = .ok (.getfield 12, 3) := dq_180 (a := 0) (b := 12) (by decide +kernel) rfl
theorem dX6_lookAtLine_89 : decode cX6_lookAtLine 89 = .ok (.getfield 66, 3) := dq_180 (a := 0) (b := 66) (by decide +kernel) rfl
theorem dX6_lookAtLine_92 : decode cX6_lookAtLine 92 = .ok (.aload_n 0, 1) := dq_42 (by decide +kernel)
theorem dX6_lookAtLine_93 : decode cX6_lookAtLine 93 = .ok (.getfield 12, 3) := dq_180 (a := 0) (b := 12) (by decide +kernel) rfl
theorem dX6_lookAtLine_96 : decode cX6_lookAtLine 96 = .ok (.getfield 91, 3) := dq_180 (a := 0) (b := 91) (by decide +kernel) rfl
theorem dX6_lookAtLine_99 : decode cX6_lookAtLine 99 = .ok (.aload_n 0, 1) := dq_42 (by decide +kernel)
theorem dX6_lookAtLine_100 : decode cX6_lookAtLine 100 = .ok (.getfield 12, 3) := dq_180 (a := 0) (b := 12) (by decide +kernel) rfl
theorem dX6_lookAtLine_103 : decode cX6_lookAtLine 103 = .ok (.getfield 66, 3) := dq_180 (a := 0) (b := 66) (by decide +kernel) rfl
theorem dX6_lookAtLine_106 : decode cX6_lookAtLine 106 = .ok (.iaload, 1) := dq_46 (by decide +kernel)
theorem dX6_lookAtLine_107 : decode cX6_lookAtLine 107 = .ok (.iload_n 2, 1) := dq_28 (by decide +kernel)
theorem dX6_lookAtLine_108 : decode cX6_lookAtLine 108 = .ok (.iadd, 1) := dq_96 (by decide +kernel)
theorem dX6_lookAtLine_109 : decode cX6_lookAtLine 109 = .ok (.iastore, 1) := dq_79 (by decide +kernel)
theorem dX6_lookAtLine_47 : decode cX6_lookAtLine 47 = .ok (.aload_n 0, 1) := dq_42 (by decide +kernel)
theorem dX6_lookAtLine_48 : decode cX6_lookAtLine 48 = .ok (.getfield 18, 3) := dq_180 (a := 0) (b := 18) (by decide +kernel) rfl
theorem dX6_lookAtLine_51 : decode cX6_lookAtLine 51 = .ok (.iload 5, 2) := dq_21 (a := 5) (by decide +kernel) rfl
theorem dX6_lookAtLine_53 : decode cX6_lookAtLine 53 = .ok (.aload_n 0, 1) := dq_42 (by decide +kernel)
theorem dX6_lookAtLine_54 : decode cX6_lookAtLine 54 = .ok (.getfield 12, 3) := dq_180 (a := 0) (b := 12) (by decide +kernel) rfl
theorem dX6_lookAtLine_57 : decode cX6_lookAtLine 57 = .ok (.getfield 91, 3) := dq_180 (a := 0) (b := 91) (by decide +kernel) rfl
theorem dX6_lookAtLine_60 : decode cX6_lookAtLine 60 = .ok (.iload 5, 2) := dq_21 (a := 5) (by decide +kernel) rfl
theorem dX6_lookAtLine_62 : decode cX6_lookAtLine 62 = .ok (.iaload, 1) := dq_46 (by decide +kernel)
theorem dX6_lookAtLine_63 : decode cX6_lookAtLine 63 = .ok (.aload_n 0, 1) := dq_42 (by decide +kernel)
theorem dX6_lookAtLine_64 : decode cX6_lookAtLine 64 = .ok (.getfield 12, 3) := dq_180 (a := 0) (b := 12) (by decide +kernel) rfl
theorem dX6_lookAtLine_67 : decode cX6_lookAtLine 67 = .ok (.getfield 94, 3) := dq_180 (a := 0) (b := 94) (by decide +kernel) rfl
theorem dX6_lookAtLine_70 : decode cX6_lookAtLine 70 = .ok (.iload 5, 2) := dq_21 (a := 5) (by decide +kernel) rfl
theorem dX6_lookAtLine_72 : decode cX6_lookAtLine 72 = .ok (.iaload, 1) := dq_46 (by decide +kernel)
theorem dX6_lookAtLine_73 : decode cX6_lookAtLine 73 = .ok (.iadd, 1) := dq_96 (by decide +kernel)
theorem dX6_lookAtLine_74 : decode cX6_lookAtLine 74 = .ok (.iastore, 1) := dq_79 (by decide +kernel)
theorem dX6_lookAtLine_75 : decode cX6_lookAtLine 75 = .ok (.iinc 5 1, 3) := dq_132 (a := 5) (b := 1) (by decide +kernel) rfl (by decide +kernel)
theorem dX6_lookAtLine_78 : decode cX6_lookAtLine 78 = .ok (.goto (-43), 3) := dq_167 (a := 255) (b := 213) (by decide +kernel) (by decide +kernel)
theorem dX6_findShortest_140 : decode cX6_findShortest 140 = .ok (.aload_n 0, 1) := dq_42 (by decide +kernel)
theorem dX6_findShortest_141 : decode cX6_findShortest 141 = .ok (.iload 4, 2) := dq_21 (a := 4) (by decide +kernel) rfl
theorem dX6_findShortest_143 : decode cX6_findShortest 143 = .ok (.invokevirtual 76, 3) := dq_182 (a := 0) (b := 76) (by decide +kernel) rfl
theorem dX6_findShortest_146 : decode cX6_findShortest 146 = .ok (.aload_n 0, 1) := dq_42 (by decide +kernel)
theorem dX6_findShortest_147 : decode cX6_findShortest 147 = .ok (.getfield 12, 3) := dq_180 (a := 0) (b := 12) (by decide +kernel) rfl
theorem dX6_findShortest_150 : decode cX6_findShortest 150 = .ok (.invokevirtual 80, 3) := dq_182 (a := 0) (b := 80) (by decide +kernel) rfl
theorem dX6_findShortest_153 : decode cX6_findShortest 153 = .ok (.iinc 7 1, 3) := dq_132 (a := 7) (b := 1) (by decide +kernel) rfl (by decide +kernel)
theorem dX6_findShortest_156 : decode cX6_findShortest 156 = .ok (.goto (-23), 3) := dq_167 (a := 255) (b := 233) (by decide +kernel) (by decide +kernel)
theorem dX6_findShortest_20 : decode cX6_findShortest 20 = .ok (.iload_n 2, 1) := dq_28 (by decide +kernel)
theorem dX6_findShortest_21 : decode cX6_findShortest 21 = .ok (.iload 4, 2) := dq_21 (a := 4) (by decide +kernel) rfl
theorem dX6_findShortest_23 : decode cX6_findShortest 23 = .ok (.ishr, 1) := dq_122 (by decide +kernel)
theorem dX6_findShortest_24 : decode cX6_findShortest 24 = .ok (.iconst 1, 1) := dq_4 (by decide +kernel)
theorem dX6_findShortest_25 : decode cX6_findShortest 25 = .ok (.iand, 1) := dq_126 (by decide +kernel)
theorem dX6_findShortest_26 : decode cX6_findShortest 26 = .ok (.iconst 1, 1) := dq_4 (by decide +kernel)
theorem dX6_findShortest_27 : decode cX6_findShortest 27 = .ok (.if_icmp .ne 7, 3) := dq_160 (a := 0) (b := 7) (by decide +kernel) (by decide +kernel)
theorem dX6_findShortest_34 : decode cX6_findShortest 34 = .ok (.iconst 0, 1) := dq_3 (by decide +kernel)
theorem dX6_findShortest_35 : decode cX6_findShortest 35 = .ok (.istore 5, 2) := dq_54 (a := 5) (by decide +kernel) rfl
theorem dX6_findShortest_37 : decode cX6_findShortest 37 = .ok (.aload_n 0, 1) := dq_42 (by decide +kernel)
theorem dX6_findShortest_38 : decode cX6_findShortest 38 = .ok (.getfield 12, 3) := dq_180 (a := 0) (b := 12) (by decide +kernel) rfl
theorem dX6_findShortest_41 : decode cX6_findShortest 41 = .ok (.iload 4, 2) := dq_21 (a := 4) (by decide +kernel) rfl
theorem dX6_findShortest_43 : decode cX6_findShortest 43 = .ok (.iload 5, 2) := dq_21 (a := 5) (by decide +kernel) rfl
theorem dX6_findShortest_45 : decode cX6_findShortest 45 = .ok (.ifCond .eq 8, 3) := dq_153 (a := 0) (b := 8) (by decide +kernel) (by decide +kernel)
theorem dX6_findShortest_53 : decode cX6_findShortest 53 = .ok (.iconst 0, 1) := dq_3 (by decide +kernel)
theorem dX6_findShortest_54 : decode cX6_findShortest 54 = .ok (.iconst 1, 1) := dq_4 (by decide +kernel)
theorem dX6_findShortest_55 : decode cX6_findShortest 55 = .ok (.iload 5, 2) := dq_21 (a := 5) (by decide +kernel) rfl
theorem dX6_findShortest_57 : decode cX6_findShortest 57 = .ok (.ifCond .eq 11, 3) := dq_153 (a := 0) (b := 11) (by decide +kernel) (by decide +kernel)
theorem dX6_findShortest_68 : decode cX6_findShortest 68 = .ok (.iconst 1, 1) := dq_4 (by decide +kernel)
theorem dX6_findShortest_69 : decode cX6_findShortest 69 = .ok (.invokevirtual 57, 3) := dq_182 (a := 0) (b := 57) (by decide +kernel) rfl
theorem dX6_findShortest_72 : decode cX6_findShortest 72 = .ok (.iinc 4 1, 3) := dq_132 (a := 4) (b := 1) (by decide +kernel) rfl (by decide +kernel)
theorem dX6_findShortest_75 : decode cX6_findShortest 75 = .ok (.goto (-64), 3) := dq_167 (a := 255) (b := 192) (by decide +kernel) (by decide +kernel)
theorem dX6_findShortest_30 : decode cX6_findShortest 30 = .ok (.iconst 1, 1) := dq_4 (by decide +kernel)
theorem dX6_findShortest_31 : decode cX6_findShortest 31 = .ok (.goto 4, 3) := dq_167 (a := 0) (b := 4) (by decide +kernel) (by decide +kernel)
theorem dX6_findShortest_48 : decode cX6_findShortest 48 = .ok (.iload_n 3, 1) := dq_29 (by decide +kernel)
theorem dX6_findShortest_49 : decode cX6_findShortest 49 = .ok (.ineg, 1) := dq_116 (by decide +kernel)
theorem dX6_findShortest_50 : decode cX6_findShortest 50 = .ok (.goto 4, 3) := dq_167 (a := 0) (b := 4) (by decide +kernel) (by decide +kernel)
theorem dX6_findShortest_60 : decode cX6_findShortest 60 = .ok (.iconst 2, 1) := dq_5 (by decide +kernel)
theorem dX6_findShortest_61 : decode cX6_findShortest 61 = .ok (.iload_n 3, 1) := dq_29 (by decide +kernel)
theorem dX6_findShortest_62 : decode cX6_findShortest 62 = .ok (.imul, 1) := dq_104 (by decide +kernel)
theorem dX6_findShortest_63 : decode cX6_findShortest 63 = .ok (.iconst 1, 1) := dq_4 (by decide +kernel)
theorem dX6_findShortest_64 : decode cX6_findShortest 64 = .ok (.iadd, 1) := dq_96 (by decide +kernel)
theorem dX6_findShortest_65 : decode cX6_findShortest 65 = .ok (.goto 4, 3) := dq_167 (a := 0) (b := 4) (by decide +kernel) (by decide +kernel)
theorem dX6_apartOf_0 : decode cX6_apartOf 0 = .ok (.aload_n 0, 1) := dq_42 (by decide +kernel)
theorem dX6_apartOf_1 : decode cX6_apartOf 1 = .ok (.getfield 22, 3) := dq_180 (a := 0) (b := 22) (by decide +kernel) rfl
theorem dX6_apartOf_4 : decode cX6_apartOf 4 = .ok (.iload_n 2, 1) := dq_28 (by decide +kernel)
theorem dX6_apartOf_5 : decode cX6_apartOf 5 = .ok (.laload, 1) := dq_47 (by decide +kernel)
theorem dX6_apartOf_6 : decode cX6_apartOf 6 = .ok (.lconst 0, 1) := dq_9 (by decide +kernel)
theorem dX6_apartOf_7 : decode cX6_apartOf 7 = .ok (.lcmp, 1) := dq_148 (by decide +kernel)
theorem dX6_apartOf_8 : decode cX6_apartOf 8 = .ok (.ifCond .ge 29, 3) := dq_156 (a := 0) (b := 29) (by decide +kernel) (by decide +kernel)
theorem dX6_apartOf_37 : decode cX6_apartOf 37 = .ok (.aload_n 0, 1) := dq_42 (by decide +kernel)
theorem dX6_apartOf_38 : decode cX6_apartOf 38 = .ok (.getfield 22, 3) := dq_180 (a := 0) (b := 22) (by decide +kernel) rfl
theorem dX6_apartOf_41 : decode cX6_apartOf 41 = .ok (.iload_n 2, 1) := dq_28 (by decide +kernel)
theorem dX6_apartOf_42 : decode cX6_apartOf 42 = .ok (.laload, 1) := dq_47 (by decide +kernel)
theorem dX6_apartOf_43 : decode cX6_apartOf 43 = .ok (.lreturn, 1) := dq_173 (by decide +kernel)
theorem dX6_apartOf_11 : decode cX6_apartOf 11 = .ok (.aload_n 0, 1) := dq_42 (by decide +kernel)
theorem dX6_apartOf_12 : decode cX6_apartOf 12 = .ok (.aload_n 1, 1) := dq_43 (by decide +kernel)
theorem dX6_apartOf_13 : decode cX6_apartOf 13 = .ok (.iload_n 2, 1) := dq_28 (by decide +kernel)
theorem dX6_apartOf_14 : decode cX6_apartOf 14 = .ok (.aload_n 1, 1) := dq_43 (by decide +kernel)
theorem dX6_apartOf_15 : decode cX6_apartOf 15 = .ok (.getfield 38, 3) := dq_180 (a := 0) (b := 38) (by decide +kernel) rfl
theorem dX6_apartOf_18 : decode cX6_apartOf 18 = .ok (.iconst 1, 1) := dq_4 (by decide +kernel)
theorem dX6_apartOf_19 : decode cX6_apartOf 19 = .ok (.isub, 1) := dq_100 (by decide +kernel)
theorem dX6_apartOf_20 : decode cX6_apartOf 20 = .ok (.invokevirtual 44, 3) := dq_182 (a := 0) (b := 44) (by decide +kernel) rfl
theorem dX6_apartOf_23 : decode cX6_apartOf 23 = .ok (.aload_n 0, 1) := dq_42 (by decide +kernel)
theorem dX6_apartOf_24 : decode cX6_apartOf 24 = .ok (.getfield 22, 3) := dq_180 (a := 0) (b := 22) (by decide +kernel) rfl
theorem dX6_apartOf_27 : decode cX6_apartOf 27 = .ok (.iload_n 2, 1) := dq_28 (by decide +kernel)
theorem dX6_apartOf_28 : decode cX6_apartOf 28 = .ok (.ldc2_w 48, 3) := dq_20 (a := 0) (b := 48) (by decide +kernel) rfl
theorem dX6_apartOf_31 : decode cX6_apartOf 31 = .ok (.aload_n 0, 1) := dq_42 (by decide +kernel)
theorem dX6_apartOf_32 : decode cX6_apartOf 32 = .ok (.getfield 26, 3) := dq_180 (a := 0) (b := 26) (by decide +kernel) rfl
theorem dX6_apartOf_35 : decode cX6_apartOf 35 = .ok (.lmul, 1) := dq_105 (by decide +kernel)
theorem dX6_apartOf_36 : decode cX6_apartOf 36 = .ok (.lastore, 1) := dq_80 (by decide +kernel)
theorem dX7_forget_0 : decode cX7_forget 0 = .ok (.aload_n 0, 1) := dq_42 (by decide +kernel)
theorem dX7_forget_1 : decode cX7_forget 1 = .ok (.iconst 0, 1) := dq_3 (by decide +kernel)
theorem dX7_forget_2 : decode cX7_forget 2 = .ok (.putfield 49, 3) := dq_181 (a := 0) (b := 49) (by decide +kernel) rfl
theorem dX7_forget_5 : decode cX7_forget 5 = .ok (.return_, 1) := dq_177 (by decide +kernel)
theorem dX7_learn_0 : decode cX7_learn 0 = .ok (.aload_n 0, 1) := dq_42 (by decide +kernel)
theorem dX7_learn_1 : decode cX7_learn 1 = .ok (.getfield 49, 3) := dq_180 (a := 0) (b := 49) (by decide +kernel) rfl
theorem dX7_learn_4 : decode cX7_learn 4 = .ok (.ifCond .ne 10, 3) := dq_154 (a := 0) (b := 10) (by decide +kernel) (by decide +kernel)
theorem dX7_learn_14 : decode cX7_learn 14 = .ok (.return_, 1) := dq_177 (by decide +kernel)
theorem dX7_learn_7 : decode cX7_learn 7 = .ok (.aload_n 1, 1) := dq_43 (by decide +kernel)
theorem dX7_learn_8 : decode cX7_learn 8 = .ok (.getfield 73, 3) := dq_180 (a := 0) (b := 73) (by decide +kernel) rfl
theorem dX7_learn_11 : decode cX7_learn 11 = .ok (.ifCond .ne 4, 3) := dq_154 (a := 0) (b := 4) (by decide +kernel) (by decide +kernel)
theorem dX7_learn_15 : decode cX7_learn 15 = .ok (.aload_n 0, 1) := dq_42 (by decide +kernel)
theorem dX7_learn_16 : decode cX7_learn 16 = .ok (.iconst 1, 1) := dq_4 (by decide +kernel)
theorem dX7_learn_17 : decode cX7_learn 17 = .ok (.putfield 49, 3) := dq_181 (a := 0) (b := 49) (by decide +kernel) rfl
theorem dX7_learn_20 : decode cX7_learn 20 = .ok (.aload_n 0, 1) := dq_42 (by decide +kernel)
theorem dX7_learn_21 : decode cX7_learn 21 = .ok (.iconst 0, 1) := dq_3 (by decide +kernel)
theorem dX7_learn_22 : decode cX7_learn 22 = .ok (.putfield 41, 3) := dq_181 (a := 0) (b := 41) (by decide +kernel) rfl
theorem dX7_learn_25 : decode cX7_learn 25 = .ok (.aload_n 0, 1) := dq_42 (by decide +kernel)
theorem dX7_learn_26 : decode cX7_learn 26 = .ok (.lconst 0, 1) := dq_9 (by decide +kernel)
theorem dX7_learn_27 : decode cX7_learn 27 = .ok (.putfield 45, 3) := dq_181 (a := 0) (b := 45) (by decide +kernel) rfl
theorem dX7_learn_30 : decode cX7_learn 30 = .ok (.aload_n 0, 1) := dq_42 (by decide +kernel)
theorem dX7_learn_31 : decode cX7_learn 31 = .ok (.getfield 26, 3) := dq_180 (a := 0) (b := 26) (by decide +kernel) rfl
theorem dX7_learn_34 : decode cX7_learn 34 = .ok (.ldc2_w 76, 3) := dq_20 (a := 0) (b := 76) (by decide +kernel) rfl
theorem dX7_learn_37 : decode cX7_learn 37 = .ok (.invokestatic 78, 3) := dq_184 (a := 0) (b := 78) (by decide +kernel) rfl
theorem dX7_learn_40 : decode cX7_learn 40 = .ok (.aload_n 0, 1) := dq_42 (by decide +kernel)
theorem dX7_learn_41 : decode cX7_learn 41 = .ok (.getfield 29, 3) := dq_180 (a := 0) (b := 29) (by decide +kernel) rfl
theorem dX7_learn_44 : decode cX7_learn 44 = .ok (.lconst 0, 1) := dq_9 (by decide +kernel)
theorem dX7_learn_45 : decode cX7_learn 45 = .ok (.invokestatic 78, 3) := dq_184 (a := 0) (b := 78) (by decide +kernel) rfl
theorem dX7_learn_48 : decode cX7_learn 48 = .ok (.aload_n 0, 1) := dq_42 (by decide +kernel)
theorem dX7_learn_49 : decode cX7_learn 49 = .ok (.aload_n 1, 1) := dq_43 (by decide +kernel)
theorem dX7_learn_50 : decode cX7_learn 50 = .ok (.aload_n 2, 1) := dq_44 (by decide +kernel)
theorem dX7_learn_51 : decode cX7_learn 51 = .ok (.invokevirtual 84, 3) := dq_182 (a := 0) (b := 84) (by decide +kernel) rfl
theorem dX7_startWalk_0 : decode cX7_startWalk 0 = .ok (.aload_n 0, 1) := dq_42 (by decide +kernel)
theorem dX7_startWalk_1 : decode cX7_startWalk 1 = .ok (.getfield 12, 3) := dq_180 (a := 0) (b := 12) (by decide +kernel) rfl
theorem dX7_startWalk_4 : decode cX7_startWalk 4 = .ok (.aload_n 1, 1) := dq_43 (by decide +kernel)
theorem dX7_startWalk_5 : decode cX7_startWalk 5 = .ok (.invokevirtual 53, 3) := dq_182 (a := 0) (b := 53) (by decide +kernel) rfl
theorem dX7_startWalk_8 : decode cX7_startWalk 8 = .ok (.aload_n 0, 1) := dq_42 (by decide +kernel)
theorem dX7_startWalk_9 : decode cX7_startWalk 9 = .ok (.getfield 12, 3) := dq_180 (a := 0) (b := 12) (by decide +kernel) rfl
theorem dX7_startWalk_12 : decode cX7_startWalk 12 = .ok (.aload_n 1, 1) := dq_43 (by decide +kernel)
theorem dX7_startWalk_13 : decode cX7_startWalk 13 = .ok (.aload_n 2, 1) := dq_44 (by decide +kernel)
theorem dX7_startWalk_14 : decode cX7_startWalk 14 = .ok (.invokevirtual 57, 3) := dq_182 (a := 0) (b := 57) (by decide +kernel) rfl
theorem dX7_startWalk_17 : decode cX7_startWalk 17 = .ok (.aload_n 0, 1) := dq_42 (by decide +kernel)
theorem dX7_startWalk_18 : decode cX7_startWalk 18 = .ok (.getfield 12, 3) := dq_180 (a := 0) (b := 12) (by decide +kernel) rfl
theorem dX7_startWalk_21 : decode cX7_startWalk 21 = .ok (.iconst 1, 1) := dq_4 (by decide +kernel)
theorem dX7_startWalk_22 : decode cX7_startWalk 22 = .ok (.aload_n 1, 1) := dq_43 (by decide +kernel)
theorem dX7_startWalk_23 : decode cX7_startWalk 23 = .ok (.getfield 61, 3) := dq_180 (a := 0) (b := 61) (by decide +kernel) rfl
theorem dX7_startWalk_26 : decode cX7_startWalk 26 = .ok (.isub, 1) := dq_100 (by decide +kernel)
theorem dX7_startWalk_27 : decode cX7_startWalk 27 = .ok (.iconst 2, 1) := dq_5 (by decide +kernel)
theorem dX7_startWalk_28 : decode cX7_startWalk 28 = .ok (.aload_n 1, 1) := dq_43 (by decide +kernel)
theorem dX7_startWalk_29 : decode cX7_startWalk 29 = .ok (.getfield 61, 3) := dq_180 (a := 0) (b := 61) (by decide +kernel) rfl
theorem dX7_startWalk_32 : decode cX7_startWalk 32 = .ok (.invokevirtual 66, 3) := dq_182 (a := 0) (b := 66) (by decide +kernel) rfl
theorem dX7_startWalk_35 : decode cX7_startWalk 35 = .ok (.aload_n 0, 1) := dq_42 (by decide +kernel)
theorem dX7_startWalk_36 : decode cX7_startWalk 36 = .ok (.getfield 12, 3) := dq_180 (a := 0) (b := 12) (by decide +kernel) rfl
theorem dX7_startWalk_39 : decode cX7_startWalk 39 = .ok (.invokevirtual 70, 3) := dq_182 (a := 0) (b := 70) (by decide +kernel) rfl
theorem dX7_startWalk_42 : decode cX7_startWalk 42 = .ok (.return_, 1) := dq_177 (by decide +kernel)
theorem dX7_learn_54 : decode cX7_learn 54 = .ok (.aload_n 0, 1) := dq_42 (by decide +kernel)
theorem dX7_learn_55 : decode cX7_learn 55 = .ok (.getfield 12, 3) := dq_180 (a := 0) (b := 12) (by decide +kernel) rfl
theorem dX7_learn_58 : decode cX7_learn 58 = .ok (.invokevirtual 87, 3) := dq_182 (a := 0) (b := 87) (by decide +kernel) rfl
theorem dX7_learn_61 : decode cX7_learn 61 = .ok (.istore_n 3, 1) := dq_62 (by decide +kernel)
theorem dX7_learn_62 : decode cX7_learn 62 = .ok (.iconst 0, 1) := dq_3 (by decide +kernel)
theorem dX7_learn_63 : decode cX7_learn 63 = .ok (.istore 4, 2) := dq_54 (a := 4) (by decide +kernel) rfl
theorem dX7_learn_65 : decode cX7_learn 65 = .ok (.iload 4, 2) := dq_21 (a := 4) (by decide +kernel) rfl
theorem dX7_learn_67 : decode cX7_learn 67 = .ok (.iload_n 3, 1) := dq_29 (by decide +kernel)
theorem dX7_learn_68 : decode cX7_learn 68 = .ok (.if_icmp .ge 31, 3) := dq_162 (a := 0) (b := 31) (by decide +kernel) (by decide +kernel)
theorem dX7_learn_99 : decode cX7_learn 99 = .ok (.return_, 1) := dq_177 (by decide +kernel)
theorem dX7_learn_71 : decode cX7_learn 71 = .ok (.aload_n 0, 1) := dq_42 (by decide +kernel)
theorem dX7_learn_72 : decode cX7_learn 72 = .ok (.iload 4, 2) := dq_21 (a := 4) (by decide +kernel) rfl
theorem dX7_learn_74 : decode cX7_learn 74 = .ok (.aload_n 1, 1) := dq_43 (by decide +kernel)
theorem dX7_learn_75 : decode cX7_learn 75 = .ok (.getfield 61, 3) := dq_180 (a := 0) (b := 61) (by decide +kernel) rfl
theorem dX7_learn_78 : decode cX7_learn 78 = .ok (.imul, 1) := dq_104 (by decide +kernel)
theorem dX7_learn_79 : decode cX7_learn 79 = .ok (.aload_n 1, 1) := dq_43 (by decide +kernel)
theorem dX7_learn_80 : decode cX7_learn 80 = .ok (.getfield 61, 3) := dq_180 (a := 0) (b := 61) (by decide +kernel) rfl
theorem dX7_learn_83 : decode cX7_learn 83 = .ok (.invokevirtual 91, 3) := dq_182 (a := 0) (b := 91) (by decide +kernel) rfl
theorem dX7_learnLine_0 : decode cX7_learnLine 0 = .ok (.ldc2_w 76, 3) := dq_20 (a := 0) (b := 76) (by decide +kernel) rfl
theorem dX7_learnLine_3 : decode cX7_learnLine 3 = .ok (.lstore_n 3, 1) := dq_66 (by decide +kernel)
theorem dX7_learnLine_4 : decode cX7_learnLine 4 = .ok (.lconst 0, 1) := dq_9 (by decide +kernel)
theorem dX7_learnLine_5 : decode cX7_learnLine 5 = .ok (.lstore 5, 2) := dq_55 (a := 5) (by decide +kernel) rfl
theorem dX7_learnLine_7 : decode cX7_learnLine 7 = .ok (.iconst 0, 1) := dq_3 (by decide +kernel)
theorem dX7_learnLine_8 : decode cX7_learnLine 8 = .ok (.istore 7, 2) := dq_54 (a := 7) (by decide +kernel) rfl
theorem dX7_learnLine_10 : decode cX7_learnLine 10 = .ok (.iload 7, 2) := dq_21 (a := 7) (by decide +kernel) rfl
theorem dX7_learnLine_12 : decode cX7_learnLine 12 = .ok (.iload_n 2, 1) := dq_28 (by decide +kernel)
theorem dX7_learnLine_13 : decode cX7_learnLine 13 = .ok (.if_icmp .ge 82, 3) := dq_162 (a := 0) (b := 82) (by decide +kernel) (by decide +kernel)
theorem dX7_learnLine_95 : decode cX7_learnLine 95 = .ok (.iconst 0, 1) := dq_3 (by decide +kernel)
theorem dX7_learnLine_96 : decode cX7_learnLine 96 = .ok (.istore 7, 2) := dq_54 (a := 7) (by decide +kernel) rfl
theorem dX7_learnLine_98 : decode cX7_learnLine 98 = .ok (.iload 7, 2) := dq_21 (a := 7) (by decide +kernel) rfl
theorem dX7_learnLine_100 : decode cX7_learnLine 100 = .ok (.aload_n 0, 1) := dq_42 (by decide +kernel)
theorem dX7_learnLine_101 : decode cX7_learnLine 101 = .ok (.getfield 12, 3) := dq_180 (a := 0) (b := 12) (by decide +kernel) rfl
theorem dX7_learnLine_104 : decode cX7_learnLine 104 = .ok (.getfield 104, 3) := dq_180 (a := 0) (b := 104) (by decide +kernel) rfl
theorem dX7_learnLine_107 : decode cX7_learnLine 107 = .ok (.if_icmp .ge 28, 3) := dq_162 (a := 0) (b := 28) (by decide +kernel) (by decide +kernel)
theorem dX7_learnLine_135 : decode cX7_learnLine 135 = .ok (.aload_n 0, 1) := dq_42 (by decide +kernel)
theorem dX7_learnLine_136 : decode cX7_learnLine 136 = .ok (.dup, 1) := dq_89 (by decide +kernel)
theorem dX7_learnLine_137 : decode cX7_learnLine 137 = .ok (.getfield 45, 3) := dq_180 (a := 0) (b := 45) (by decide +kernel) rfl
theorem dX7_learnLine_140 : decode cX7_learnLine 140 = .ok (.lload 5, 2) := dq_22 (a := 5) (by decide +kernel) rfl
theorem dX7_learnLine_142 : decode cX7_learnLine 142 = .ok (.ladd, 1) := dq_97 (by decide +kernel)
theorem dX7_learnLine_143 : decode cX7_learnLine 143 = .ok (.putfield 45, 3) := dq_181 (a := 0) (b := 45) (by decide +kernel) rfl
theorem dX7_learnLine_146 : decode cX7_learnLine 146 = .ok (.return_, 1) := dq_177 (by decide +kernel)
theorem dX7_learnLine_110 : decode cX7_learnLine 110 = .ok (.aload_n 0, 1) := dq_42 (by decide +kernel)
theorem dX7_learnLine_111 : decode cX7_learnLine 111 = .ok (.iload 7, 2) := dq_21 (a := 7) (by decide +kernel) rfl
theorem dX7_learnLine_113 : decode cX7_learnLine 113 = .ok (.aload_n 0, 1) := dq_42 (by decide +kernel)
theorem dX7_learnLine_114 : decode cX7_learnLine 114 = .ok (.getfield 12, 3) := dq_180 (a := 0) (b := 12) (by decide +kernel) rfl
theorem dX7_learnLine_117 : decode cX7_learnLine 117 = .ok (.getfield 121, 3) := dq_180 (a := 0) (b := 121) (by decide +kernel) rfl
theorem dX7_learnLine_120 : decode cX7_learnLine 120 = .ok (.iload 7, 2) := dq_21 (a := 7) (by decide +kernel) rfl
theorem dX7_learnLine_122 : decode cX7_learnLine 122 = .ok (.iaload, 1) := dq_46 (by decide +kernel)
theorem dX7_learnLine_123 : decode cX7_learnLine 123 = .ok (.lload_n 3, 1) := dq_33 (by decide +kernel)
theorem dX7_learnLine_124 : decode cX7_learnLine 124 = .ok (.lload 5, 2) := dq_22 (a := 5) (by decide +kernel) rfl
theorem dX7_learnLine_126 : decode cX7_learnLine 126 = .ok (.invokevirtual 107, 3) := dq_182 (a := 0) (b := 107) (by decide +kernel) rfl
theorem dX7_note_0 : decode cX7_note 0 = .ok (.iload_n 1, 1) := dq_27 (by decide +kernel)
theorem dX7_note_1 : decode cX7_note 1 = .ok (.bipush 8, 2) := dq_16 (a := 8) (by decide +kernel) (by decide +kernel)
theorem dX7_note_3 : decode cX7_note 3 = .ok (.imul, 1) := dq_104 (by decide +kernel)
theorem dX7_note_4 : decode cX7_note 4 = .ok (.iload_n 2, 1) := dq_28 (by decide +kernel)
theorem dX7_note_5 : decode cX7_note 5 = .ok (.iadd, 1) := dq_96 (by decide +kernel)
theorem dX7_note_6 : decode cX7_note 6 = .ok (.istore 7, 2) := dq_54 (a := 7) (by decide +kernel) rfl
theorem dX7_note_8 : decode cX7_note 8 = .ok (.aload_n 0, 1) := dq_42 (by decide +kernel)
theorem dX7_note_9 : decode cX7_note 9 = .ok (.getfield 26, 3) := dq_180 (a := 0) (b := 26) (by decide +kernel) rfl
theorem dX7_note_12 : decode cX7_note 12 = .ok (.iload 7, 2) := dq_21 (a := 7) (by decide +kernel) rfl
theorem dX7_note_14 : decode cX7_note 14 = .ok (.aload_n 0, 1) := dq_42 (by decide +kernel)
theorem dX7_note_15 : decode cX7_note 15 = .ok (.getfield 26, 3) := dq_180 (a := 0) (b := 26) (by decide +kernel) rfl
theorem dX7_note_18 : decode cX7_note 18 = .ok (.iload 7, 2) := dq_21 (a := 7) (by decide +kernel) rfl
theorem dX7_note_20 : decode cX7_note 20 = .ok (.laload, 1) := dq_47 (by decide +kernel)
theorem dX7_note_21 : decode cX7_note 21 = .ok (.lload_n 3, 1) := dq_33 (by decide +kernel)
theorem dX7_note_22 : decode cX7_note 22 = .ok (.invokestatic 115, 3) := dq_184 (a := 0) (b := 115) (by decide +kernel) rfl
theorem dX7_note_25 : decode cX7_note 25 = .ok (.lastore, 1) := dq_80 (by decide +kernel)
theorem dX7_note_26 : decode cX7_note 26 = .ok (.aload_n 0, 1) := dq_42 (by decide +kernel)
theorem dX7_note_27 : decode cX7_note 27 = .ok (.getfield 29, 3) := dq_180 (a := 0) (b := 29) (by decide +kernel) rfl
theorem dX7_note_30 : decode cX7_note 30 = .ok (.iload 7, 2) := dq_21 (a := 7) (by decide +kernel) rfl
theorem dX7_note_32 : decode cX7_note 32 = .ok (.dup2, 1) := dq_92 (by decide +kernel)
theorem dX7_note_33 : decode cX7_note 33 = .ok (.laload, 1) := dq_47 (by decide +kernel)
theorem dX7_note_34 : decode cX7_note 34 = .ok (.lload 5, 2) := dq_22 (a := 5) (by decide +kernel) rfl
theorem dX7_note_36 : decode cX7_note 36 = .ok (.ladd, 1) := dq_97 (by decide +kernel)
theorem dX7_note_37 : decode cX7_note 37 = .ok (.lastore, 1) := dq_80 (by decide +kernel)
theorem dX7_note_38 : decode cX7_note 38 = .ok (.return_, 1) := dq_177 (by decide +kernel)
theorem dX7_learnLine_129 : decode cX7_learnLine 129 = .ok (.iinc 7 1, 3) := dq_132 (a := 7) (b := 1) (by decide +kernel) rfl (by decide +kernel)
theorem dX7_learnLine_132 : decode cX7_learnLine 132 = .ok (.goto (-34), 3) := dq_167 (a := 255) (b := 222) (by decide +kernel) (by decide +kernel)
theorem dX7_learnLine_16 : decode cX7_learnLine 16 = .ok (.aload_n 0, 1) := dq_42 (by decide +kernel)
theorem dX7_learnLine_17 : decode cX7_learnLine 17 = .ok (.getfield 12, 3) := dq_180 (a := 0) (b := 12) (by decide +kernel) rfl
theorem dX7_learnLine_20 : decode cX7_learnLine 20 = .ok (.iload 7, 2) := dq_21 (a := 7) (by decide +kernel) rfl
theorem dX7_learnLine_22 : decode cX7_learnLine 22 = .ok (.invokevirtual 98, 3) := dq_182 (a := 0) (b := 98) (by decide +kernel) rfl
theorem dX7_learnLine_25 : decode cX7_learnLine 25 = .ok (.lstore 8, 2) := dq_55 (a := 8) (by decide +kernel) rfl
theorem dX7_learnLine_27 : decode cX7_learnLine 27 = .ok (.lload 8, 2) := dq_22 (a := 8) (by decide +kernel) rfl
theorem dX7_learnLine_29 : decode cX7_learnLine 29 = .ok (.lconst 0, 1) := dq_9 (by decide +kernel)
theorem dX7_learnLine_30 : decode cX7_learnLine 30 = .ok (.lcmp, 1) := dq_148 (by decide +kernel)
theorem dX7_learnLine_31 : decode cX7_learnLine 31 = .ok (.ifCond .ge 7, 3) := dq_156 (a := 0) (b := 7) (by decide +kernel) (by decide +kernel)
theorem dX7_learnLine_38 : decode cX7_learnLine 38 = .ok (.ldc2_w 102, 3) := dq_20 (a := 0) (b := 102) (by decide +kernel) rfl
theorem dX7_learnLine_41 : decode cX7_learnLine 41 = .ok (.lconst 1, 1) := dq_10 (by decide +kernel)
theorem dX7_learnLine_42 : decode cX7_learnLine 42 = .ok (.lload 8, 2) := dq_22 (a := 8) (by decide +kernel) rfl
theorem dX7_learnLine_44 : decode cX7_learnLine 44 = .ok (.ladd, 1) := dq_97 (by decide +kernel)
theorem dX7_learnLine_45 : decode cX7_learnLine 45 = .ok (.ldiv, 1) := dq_109 (by decide +kernel)
theorem dX7_learnLine_46 : decode cX7_learnLine 46 = .ok (.lstore 10, 2) := dq_55 (a := 10) (by decide +kernel) rfl
theorem dX7_learnLine_48 : decode cX7_learnLine 48 = .ok (.aload_n 0, 1) := dq_42 (by decide +kernel)
theorem dX7_learnLine_49 : decode cX7_learnLine 49 = .ok (.aload_n 0, 1) := dq_42 (by decide +kernel)
theorem dX7_learnLine_50 : decode cX7_learnLine 50 = .ok (.getfield 12, 3) := dq_180 (a := 0) (b := 12) (by decide +kernel) rfl
theorem dX7_learnLine_53 : decode cX7_learnLine 53 = .ok (.getfield 104, 3) := dq_180 (a := 0) (b := 104) (by decide +kernel) rfl
theorem dX7_learnLine_56 : decode cX7_learnLine 56 = .ok (.iload 7, 2) := dq_21 (a := 7) (by decide +kernel) rfl
theorem dX7_learnLine_58 : decode cX7_learnLine 58 = .ok (.lload 8, 2) := dq_22 (a := 8) (by decide +kernel) rfl
theorem dX7_learnLine_60 : decode cX7_learnLine 60 = .ok (.lload 10, 2) := dq_22 (a := 10) (by decide +kernel) rfl
theorem dX7_learnLine_62 : decode cX7_learnLine 62 = .ok (.invokevirtual 107, 3) := dq_182 (a := 0) (b := 107) (by decide +kernel) rfl
theorem dX7_learnLine_65 : decode cX7_learnLine 65 = .ok (.aload_n 0, 1) := dq_42 (by decide +kernel)
theorem dX7_learnLine_66 : decode cX7_learnLine 66 = .ok (.iload_n 1, 1) := dq_27 (by decide +kernel)
theorem dX7_learnLine_67 : decode cX7_learnLine 67 = .ok (.iload 7, 2) := dq_21 (a := 7) (by decide +kernel) rfl
theorem dX7_learnLine_69 : decode cX7_learnLine 69 = .ok (.iadd, 1) := dq_96 (by decide +kernel)
theorem dX7_learnLine_70 : decode cX7_learnLine 70 = .ok (.lload 8, 2) := dq_22 (a := 8) (by decide +kernel) rfl
theorem dX7_learnLine_72 : decode cX7_learnLine 72 = .ok (.invokevirtual 111, 3) := dq_182 (a := 0) (b := 111) (by decide +kernel) rfl
theorem dX7_admit_0 : decode cX7_admit 0 = .ok (.aload_n 0, 1) := dq_42 (by decide +kernel)
theorem dX7_admit_1 : decode cX7_admit 1 = .ok (.getfield 41, 3) := dq_180 (a := 0) (b := 41) (by decide +kernel) rfl
theorem dX7_admit_4 : decode cX7_admit 4 = .ok (.bipush 10, 2) := dq_16 (a := 10) (by decide +kernel) (by decide +kernel)
theorem dX7_admit_6 : decode cX7_admit 6 = .ok (.if_icmp .ne 26, 3) := dq_160 (a := 0) (b := 26) (by decide +kernel) (by decide +kernel)
theorem dX7_admit_32 : decode cX7_admit 32 = .ok (.aload_n 0, 1) := dq_42 (by decide +kernel)
theorem dX7_admit_33 : decode cX7_admit 33 = .ok (.getfield 41, 3) := dq_180 (a := 0) (b := 41) (by decide +kernel) rfl
theorem dX7_admit_36 : decode cX7_admit 36 = .ok (.istore 4, 2) := dq_54 (a := 4) (by decide +kernel) rfl
theorem dX7_admit_38 : decode cX7_admit 38 = .ok (.iload 4, 2) := dq_21 (a := 4) (by decide +kernel) rfl
theorem dX7_admit_40 : decode cX7_admit 40 = .ok (.ifCond .le 55, 3) := dq_158 (a := 0) (b := 55) (by decide +kernel) (by decide +kernel)
theorem dX7_admit_95 : decode cX7_admit 95 = .ok (.aload_n 0, 1) := dq_42 (by decide +kernel)
theorem dX7_admit_96 : decode cX7_admit 96 = .ok (.getfield 18, 3) := dq_180 (a := 0) (b := 18) (by decide +kernel) rfl
theorem dX7_admit_99 : decode cX7_admit 99 = .ok (.iload 4, 2) := dq_21 (a := 4) (by decide +kernel) rfl
theorem dX7_admit_101 : decode cX7_admit 101 = .ok (.lload_n 2, 1) := dq_32 (by decide +kernel)
theorem dX7_admit_102 : decode cX7_admit 102 = .ok (.lastore, 1) := dq_80 (by decide +kernel)
theorem dX7_admit_103 : decode cX7_admit 103 = .ok (.aload_n 0, 1) := dq_42 (by decide +kernel)
theorem dX7_admit_104 : decode cX7_admit 104 = .ok (.getfield 22, 3) := dq_180 (a := 0) (b := 22) (by decide +kernel) rfl
theorem dX7_admit_107 : decode cX7_admit 107 = .ok (.iload 4, 2) := dq_21 (a := 4) (by decide +kernel) rfl
theorem dX7_admit_109 : decode cX7_admit 109 = .ok (.iload_n 1, 1) := dq_27 (by decide +kernel)
theorem dX7_admit_110 : decode cX7_admit 110 = .ok (.iastore, 1) := dq_79 (by decide +kernel)
theorem dX7_admit_111 : decode cX7_admit 111 = .ok (.aload_n 0, 1) := dq_42 (by decide +kernel)
theorem dX7_admit_112 : decode cX7_admit 112 = .ok (.dup, 1) := dq_89 (by decide +kernel)
theorem dX7_admit_113 : decode cX7_admit 113 = .ok (.getfield 41, 3) := dq_180 (a := 0) (b := 41) (by decide +kernel) rfl
theorem dX7_admit_116 : decode cX7_admit 116 = .ok (.iconst 1, 1) := dq_4 (by decide +kernel)
theorem dX7_admit_117 : decode cX7_admit 117 = .ok (.iadd, 1) := dq_96 (by decide +kernel)
theorem dX7_admit_118 : decode cX7_admit 118 = .ok (.putfield 41, 3) := dq_181 (a := 0) (b := 41) (by decide +kernel) rfl
theorem dX7_admit_121 : decode cX7_admit 121 = .ok (.return_, 1) := dq_177 (by decide +kernel)
theorem dX7_admit_43 : decode cX7_admit 43 = .ok (.aload_n 0, 1) := dq_42 (by decide +kernel)
theorem dX7_admit_44 : decode cX7_admit 44 = .ok (.getfield 18, 3) := dq_180 (a := 0) (b := 18) (by decide +kernel) rfl
theorem dX7_admit_47 : decode cX7_admit 47 = .ok (.iload 4, 2) := dq_21 (a := 4) (by decide +kernel) rfl
theorem dX7_admit_49 : decode cX7_admit 49 = .ok (.iconst 1, 1) := dq_4 (by decide +kernel)
theorem dX7_admit_50 : decode cX7_admit 50 = .ok (.isub, 1) := dq_100 (by decide +kernel)
theorem dX7_admit_51 : decode cX7_admit 51 = .ok (.laload, 1) := dq_47 (by decide +kernel)
theorem dX7_admit_52 : decode cX7_admit 52 = .ok (.lload_n 2, 1) := dq_32 (by decide +kernel)
theorem dX7_admit_53 : decode cX7_admit 53 = .ok (.lcmp, 1) := dq_148 (by decide +kernel)
theorem dX7_admit_54 : decode cX7_admit 54 = .ok (.ifCond .le 41, 3) := dq_158 (a := 0) (b := 41) (by decide +kernel) (by decide +kernel)
theorem dX7_admit_57 : decode cX7_admit 57 = .ok (.aload_n 0, 1) := dq_42 (by decide +kernel)
theorem dX7_admit_58 : decode cX7_admit 58 = .ok (.getfield 18, 3) := dq_180 (a := 0) (b := 18) (by decide +kernel) rfl
theorem dX7_admit_61 : decode cX7_admit 61 = .ok (.iload 4, 2) := dq_21 (a := 4) (by decide +kernel) rfl
theorem dX7_admit_63 : decode cX7_admit 63 = .ok (.aload_n 0, 1) := dq_42 (by decide +kernel)
theorem dX7_admit_64 : decode cX7_admit 64 = .ok (.getfield 18, 3) := dq_180 (a := 0) (b := 18) (by decide +kernel) rfl
theorem dX7_admit_67 : decode cX7_admit 67 = .ok (.iload 4, 2) := dq_21 (a := 4) (by decide +kernel) rfl
theorem dX7_admit_69 : decode cX7_admit 69 = .ok (.iconst 1, 1) := dq_4 (by decide +kernel)
theorem dX7_admit_70 : decode cX7_admit 70 = .ok (.isub, 1) := dq_100 (by decide +kernel)
theorem dX7_admit_71 : decode cX7_admit 71 = .ok (.laload, 1) := dq_47 (by decide +kernel)
theorem dX7_admit_72 : decode cX7_admit 72 = .ok (.lastore, 1) := dq_80 (by decide +kernel)
theorem dX7_admit_73 : decode cX7_admit 73 = .ok (.aload_n 0, 1) := dq_42 (by decide +kernel)
theorem dX7_admit_74 : decode cX7_admit 74 = .ok (.getfield 22, 3) := dq_180 (a := 0) (b := 22) (by decide +kernel) rfl
theorem dX7_admit_77 : decode cX7_admit 77 = .ok (.iload 4, 2) := dq_21 (a := 4) (by decide +kernel) rfl
theorem dX7_admit_79 : decode cX7_admit 79 = .ok (.aload_n 0, 1) := dq_42 (by decide +kernel)
theorem dX7_admit_80 : decode cX7_admit 80 = .ok (.getfield 22, 3) := dq_180 (a := 0) (b := 22) (by decide +kernel) rfl
theorem dX7_admit_83 : decode cX7_admit 83 = .ok (.iload 4, 2) := dq_21 (a := 4) (by decide +kernel) rfl
theorem dX7_admit_85 : decode cX7_admit 85 = .ok (.iconst 1, 1) := dq_4 (by decide +kernel)
theorem dX7_admit_86 : decode cX7_admit 86 = .ok (.isub, 1) := dq_100 (by decide +kernel)
theorem dX7_admit_87 : decode cX7_admit 87 = .ok (.iaload, 1) := dq_46 (by decide +kernel)
theorem dX7_admit_88 : decode cX7_admit 88 = .ok (.iastore, 1) := dq_79 (by decide +kernel)
theorem dX7_admit_89 : decode cX7_admit 89 = .ok (.iinc 4 (-1), 3) := dq_132 (a := 4) (b := 255) (by decide +kernel) rfl (by decide +kernel)
theorem dX7_admit_92 : decode cX7_admit 92 = .ok (.goto (-54), 3) := dq_167 (a := 255) (b := 202) (by decide +kernel) (by decide +kernel)
theorem dX7_admit_9 : decode cX7_admit 9 = .ok (.lload_n 2, 1) := dq_32 (by decide +kernel)
theorem dX7_admit_10 : decode cX7_admit 10 = .ok (.aload_n 0, 1) := dq_42 (by decide +kernel)
theorem dX7_admit_11 : decode cX7_admit 11 = .ok (.getfield 18, 3) := dq_180 (a := 0) (b := 18) (by decide +kernel) rfl
theorem dX7_admit_14 : decode cX7_admit 14 = .ok (.bipush 9, 2) := dq_16 (a := 9) (by decide +kernel) (by decide +kernel)
theorem dX7_admit_16 : decode cX7_admit 16 = .ok (.laload, 1) := dq_47 (by decide +kernel)
theorem dX7_admit_17 : decode cX7_admit 17 = .ok (.lcmp, 1) := dq_148 (by decide +kernel)
theorem dX7_admit_18 : decode cX7_admit 18 = .ok (.ifCond .lt 4, 3) := dq_155 (a := 0) (b := 4) (by decide +kernel) (by decide +kernel)
theorem dX7_admit_22 : decode cX7_admit 22 = .ok (.aload_n 0, 1) := dq_42 (by decide +kernel)
theorem dX7_admit_23 : decode cX7_admit 23 = .ok (.dup, 1) := dq_89 (by decide +kernel)
theorem dX7_admit_24 : decode cX7_admit 24 = .ok (.getfield 41, 3) := dq_180 (a := 0) (b := 41) (by decide +kernel) rfl
theorem dX7_admit_27 : decode cX7_admit 27 = .ok (.iconst 1, 1) := dq_4 (by decide +kernel)
theorem dX7_admit_28 : decode cX7_admit 28 = .ok (.isub, 1) := dq_100 (by decide +kernel)
theorem dX7_admit_29 : decode cX7_admit 29 = .ok (.putfield 41, 3) := dq_181 (a := 0) (b := 41) (by decide +kernel) rfl
theorem dX7_admit_21 : decode cX7_admit 21 = .ok (.return_, 1) := dq_177 (by decide +kernel)
theorem dX7_learnLine_75 : decode cX7_learnLine 75 = .ok (.lload_n 3, 1) := dq_33 (by decide +kernel)
theorem dX7_learnLine_76 : decode cX7_learnLine 76 = .ok (.lload 8, 2) := dq_22 (a := 8) (by decide +kernel) rfl
theorem dX7_learnLine_78 : decode cX7_learnLine 78 = .ok (.invokestatic 115, 3) := dq_184 (a := 0) (b := 115) (by decide +kernel) rfl
theorem dX7_learnLine_81 : decode cX7_learnLine 81 = .ok (.lstore_n 3, 1) := dq_66 (by decide +kernel)
theorem dX7_learnLine_82 : decode cX7_learnLine 82 = .ok (.lload 5, 2) := dq_22 (a := 5) (by decide +kernel) rfl
theorem dX7_learnLine_84 : decode cX7_learnLine 84 = .ok (.lload 10, 2) := dq_22 (a := 10) (by decide +kernel) rfl
theorem dX7_learnLine_86 : decode cX7_learnLine 86 = .ok (.ladd, 1) := dq_97 (by decide +kernel)
theorem dX7_learnLine_87 : decode cX7_learnLine 87 = .ok (.lstore 5, 2) := dq_55 (a := 5) (by decide +kernel) rfl
theorem dX7_learnLine_89 : decode cX7_learnLine 89 = .ok (.iinc 7 1, 3) := dq_132 (a := 7) (b := 1) (by decide +kernel) rfl (by decide +kernel)
theorem dX7_learnLine_92 : decode cX7_learnLine 92 = .ok (.goto (-82), 3) := dq_167 (a := 255) (b := 174) (by decide +kernel) (by decide +kernel)
theorem dX7_learnLine_34 : decode cX7_learnLine 34 = .ok (.lconst 0, 1) := dq_9 (by decide +kernel)
theorem dX7_learnLine_35 : decode cX7_learnLine 35 = .ok (.goto 11, 3) := dq_167 (a := 0) (b := 11) (by decide +kernel) (by decide +kernel)
theorem dX7_learn_86 : decode cX7_learn 86 = .ok (.aload_n 0, 1) := dq_42 (by decide +kernel)
theorem dX7_learn_87 : decode cX7_learn 87 = .ok (.getfield 12, 3) := dq_180 (a := 0) (b := 12) (by decide +kernel) rfl
theorem dX7_learn_90 : decode cX7_learn 90 = .ok (.invokevirtual 95, 3) := dq_182 (a := 0) (b := 95) (by decide +kernel) rfl
theorem dX7_learn_93 : decode cX7_learn 93 = .ok (.iinc 4 1, 3) := dq_132 (a := 4) (b := 1) (by decide +kernel) rfl (by decide +kernel)
theorem dX7_learn_96 : decode cX7_learn 96 = .ok (.goto (-31), 3) := dq_167 (a := 255) (b := 225) (by decide +kernel) (by decide +kernel)
theorem dX7_countAhead_0 : decode cX7_countAhead 0 = .ok (.aload_n 1, 1) := dq_43 (by decide +kernel)
theorem dX7_countAhead_1 : decode cX7_countAhead 1 = .ok (.getfield 73, 3) := dq_180 (a := 0) (b := 73) (by decide +kernel) rfl
theorem dX7_countAhead_4 : decode cX7_countAhead 4 = .ok (.ifCond .ne 5, 3) := dq_154 (a := 0) (b := 5) (by decide +kernel) (by decide +kernel)
theorem dX7_countAhead_9 : decode cX7_countAhead 9 = .ok (.aload_n 0, 1) := dq_42 (by decide +kernel)
theorem dX7_countAhead_10 : decode cX7_countAhead 10 = .ok (.aload_n 1, 1) := dq_43 (by decide +kernel)
theorem dX7_countAhead_11 : decode cX7_countAhead 11 = .ok (.aload_n 2, 1) := dq_44 (by decide +kernel)
theorem dX7_countAhead_12 : decode cX7_countAhead 12 = .ok (.invokevirtual 84, 3) := dq_182 (a := 0) (b := 84) (by decide +kernel) rfl
theorem dX7_countAhead_15 : decode cX7_countAhead 15 = .ok (.iconst 0, 1) := dq_3 (by decide +kernel)
theorem dX7_countAhead_16 : decode cX7_countAhead 16 = .ok (.istore 6, 2) := dq_54 (a := 6) (by decide +kernel) rfl
theorem dX7_countAhead_18 : decode cX7_countAhead 18 = .ok (.aload_n 0, 1) := dq_42 (by decide +kernel)
theorem dX7_countAhead_19 : decode cX7_countAhead 19 = .ok (.getfield 12, 3) := dq_180 (a := 0) (b := 12) (by decide +kernel) rfl
theorem dX7_countAhead_22 : decode cX7_countAhead 22 = .ok (.invokevirtual 87, 3) := dq_182 (a := 0) (b := 87) (by decide +kernel) rfl
theorem dX7_countAhead_25 : decode cX7_countAhead 25 = .ok (.istore 7, 2) := dq_54 (a := 7) (by decide +kernel) rfl
theorem dX7_countAhead_27 : decode cX7_countAhead 27 = .ok (.iconst 0, 1) := dq_3 (by decide +kernel)
theorem dX7_countAhead_28 : decode cX7_countAhead 28 = .ok (.istore 8, 2) := dq_54 (a := 8) (by decide +kernel) rfl
theorem dX7_countAhead_30 : decode cX7_countAhead 30 = .ok (.iconst 0, 1) := dq_3 (by decide +kernel)
theorem dX7_countAhead_31 : decode cX7_countAhead 31 = .ok (.istore 9, 2) := dq_54 (a := 9) (by decide +kernel) rfl
theorem dX7_countAhead_33 : decode cX7_countAhead 33 = .ok (.iload 9, 2) := dq_21 (a := 9) (by decide +kernel) rfl
theorem dX7_countAhead_35 : decode cX7_countAhead 35 = .ok (.iload 7, 2) := dq_21 (a := 7) (by decide +kernel) rfl
theorem dX7_countAhead_37 : decode cX7_countAhead 37 = .ok (.if_icmp .ge 72, 3) := dq_162 (a := 0) (b := 72) (by decide +kernel) (by decide +kernel)
theorem dX7_countAhead_109 : decode cX7_countAhead 109 = .ok (.iload 6, 2) := dq_21 (a := 6) (by decide +kernel) rfl
theorem dX7_countAhead_111 : decode cX7_countAhead 111 = .ok (.ireturn, 1) := dq_172 (by decide +kernel)
theorem dX7_countAhead_40 : decode cX7_countAhead 40 = .ok (.iconst 0, 1) := dq_3 (by decide +kernel)
theorem dX7_countAhead_41 : decode cX7_countAhead 41 = .ok (.istore 10, 2) := dq_54 (a := 10) (by decide +kernel) rfl
theorem dX7_countAhead_43 : decode cX7_countAhead 43 = .ok (.iload 10, 2) := dq_21 (a := 10) (by decide +kernel) rfl
theorem dX7_countAhead_45 : decode cX7_countAhead 45 = .ok (.aload_n 1, 1) := dq_43 (by decide +kernel)
theorem dX7_countAhead_46 : decode cX7_countAhead 46 = .ok (.getfield 61, 3) := dq_180 (a := 0) (b := 61) (by decide +kernel) rfl
theorem dX7_countAhead_49 : decode cX7_countAhead 49 = .ok (.if_icmp .ge 47, 3) := dq_162 (a := 0) (b := 47) (by decide +kernel) (by decide +kernel)
theorem dX7_countAhead_96 : decode cX7_countAhead 96 = .ok (.aload_n 0, 1) := dq_42 (by decide +kernel)
theorem dX7_countAhead_97 : decode cX7_countAhead 97 = .ok (.getfield 12, 3) := dq_180 (a := 0) (b := 12) (by decide +kernel) rfl
theorem dX7_countAhead_100 : decode cX7_countAhead 100 = .ok (.invokevirtual 95, 3) := dq_182 (a := 0) (b := 95) (by decide +kernel) rfl
theorem dX7_countAhead_103 : decode cX7_countAhead 103 = .ok (.iinc 9 1, 3) := dq_132 (a := 9) (b := 1) (by decide +kernel) rfl (by decide +kernel)
theorem dX7_countAhead_106 : decode cX7_countAhead 106 = .ok (.goto (-73), 3) := dq_167 (a := 255) (b := 183) (by decide +kernel) (by decide +kernel)
theorem dX7_countAhead_52 : decode cX7_countAhead 52 = .ok (.aload_n 0, 1) := dq_42 (by decide +kernel)
theorem dX7_countAhead_53 : decode cX7_countAhead 53 = .ok (.getfield 12, 3) := dq_180 (a := 0) (b := 12) (by decide +kernel) rfl
theorem dX7_countAhead_56 : decode cX7_countAhead 56 = .ok (.iload 10, 2) := dq_21 (a := 10) (by decide +kernel) rfl
theorem dX7_countAhead_58 : decode cX7_countAhead 58 = .ok (.invokevirtual 98, 3) := dq_182 (a := 0) (b := 98) (by decide +kernel) rfl
theorem dX7_countAhead_61 : decode cX7_countAhead 61 = .ok (.lstore 11, 2) := dq_55 (a := 11) (by decide +kernel) rfl
theorem dX7_countAhead_63 : decode cX7_countAhead 63 = .ok (.lload 11, 2) := dq_22 (a := 11) (by decide +kernel) rfl
theorem dX7_countAhead_65 : decode cX7_countAhead 65 = .ok (.lload_n 3, 1) := dq_33 (by decide +kernel)
theorem dX7_countAhead_66 : decode cX7_countAhead 66 = .ok (.lcmp, 1) := dq_148 (by decide +kernel)
theorem dX7_countAhead_67 : decode cX7_countAhead 67 = .ok (.ifCond .lt 17, 3) := dq_155 (a := 0) (b := 17) (by decide +kernel) (by decide +kernel)
theorem dX7_countAhead_84 : decode cX7_countAhead 84 = .ok (.iinc 6 1, 3) := dq_132 (a := 6) (b := 1) (by decide +kernel) rfl (by decide +kernel)
theorem dX7_countAhead_87 : decode cX7_countAhead 87 = .ok (.iinc 8 1, 3) := dq_132 (a := 8) (b := 1) (by decide +kernel) rfl (by decide +kernel)
theorem dX7_countAhead_90 : decode cX7_countAhead 90 = .ok (.iinc 10 1, 3) := dq_132 (a := 10) (b := 1) (by decide +kernel) rfl (by decide +kernel)
theorem dX7_countAhead_93 : decode cX7_countAhead 93 = .ok (.goto (-50), 3) := dq_167 (a := 255) (b := 206) (by decide +kernel) (by decide +kernel)
theorem dX7_countAhead_70 : decode cX7_countAhead 70 = .ok (.lload 11, 2) := dq_22 (a := 11) (by decide +kernel) rfl
theorem dX7_countAhead_72 : decode cX7_countAhead 72 = .ok (.lload_n 3, 1) := dq_33 (by decide +kernel)
theorem dX7_countAhead_73 : decode cX7_countAhead 73 = .ok (.lcmp, 1) := dq_148 (by decide +kernel)
theorem dX7_countAhead_74 : decode cX7_countAhead 74 = .ok (.ifCond .ne 13, 3) := dq_154 (a := 0) (b := 13) (by decide +kernel) (by decide +kernel)
theorem dX7_countAhead_77 : decode cX7_countAhead 77 = .ok (.iload 8, 2) := dq_21 (a := 8) (by decide +kernel) rfl
theorem dX7_countAhead_79 : decode cX7_countAhead 79 = .ok (.iload 5, 2) := dq_21 (a := 5) (by decide +kernel) rfl
theorem dX7_countAhead_81 : decode cX7_countAhead 81 = .ok (.if_icmp .ge 6, 3) := dq_162 (a := 0) (b := 6) (by decide +kernel) (by decide +kernel)
theorem dX7_countAhead_7 : decode cX7_countAhead 7 = .ok (.iconst 0, 1) := dq_3 (by decide +kernel)
theorem dX7_countAhead_8 : decode cX7_countAhead 8 = .ok (.ireturn, 1) := dq_172 (by decide +kernel)
theorem dX7_cancelAll_0 : decode cX7_cancelAll 0 = .ok (.aload_n 0, 1) := dq_42 (by decide +kernel)
theorem dX7_cancelAll_1 : decode cX7_cancelAll 1 = .ok (.aload_n 1, 1) := dq_43 (by decide +kernel)
theorem dX7_cancelAll_2 : decode cX7_cancelAll 2 = .ok (.invokevirtual 130, 3) := dq_182 (a := 0) (b := 130) (by decide +kernel) rfl
theorem dX7_findTurns_0 : decode cX7_findTurns 0 = .ok (.iconst 0, 1) := dq_3 (by decide +kernel)
theorem dX7_findTurns_1 : decode cX7_findTurns 1 = .ok (.istore_n 2, 1) := dq_61 (by decide +kernel)
theorem dX7_findTurns_2 : decode cX7_findTurns 2 = .ok (.iload_n 2, 1) := dq_28 (by decide +kernel)
theorem dX7_findTurns_3 : decode cX7_findTurns 3 = .ok (.aload_n 1, 1) := dq_43 (by decide +kernel)
theorem dX7_findTurns_4 : decode cX7_findTurns 4 = .ok (.getfield 73, 3) := dq_180 (a := 0) (b := 73) (by decide +kernel) rfl
theorem dX7_findTurns_7 : decode cX7_findTurns 7 = .ok (.if_icmp .ge 86, 3) := dq_162 (a := 0) (b := 86) (by decide +kernel) (by decide +kernel)
theorem dX7_findTurns_93 : decode cX7_findTurns 93 = .ok (.return_, 1) := dq_177 (by decide +kernel)
theorem dX7_findTurns_10 : decode cX7_findTurns 10 = .ok (.aload_n 1, 1) := dq_43 (by decide +kernel)
theorem dX7_findTurns_11 : decode cX7_findTurns 11 = .ok (.getfield 146, 3) := dq_180 (a := 0) (b := 146) (by decide +kernel) rfl
theorem dX7_findTurns_14 : decode cX7_findTurns 14 = .ok (.iload_n 2, 1) := dq_28 (by decide +kernel)
theorem dX7_findTurns_15 : decode cX7_findTurns 15 = .ok (.iload_n 2, 1) := dq_28 (by decide +kernel)
theorem dX7_findTurns_16 : decode cX7_findTurns 16 = .ok (.invokevirtual 156, 3) := dq_182 (a := 0) (b := 156) (by decide +kernel) rfl
theorem dX7_findTurns_19 : decode cX7_findTurns 19 = .ok (.istore_n 3, 1) := dq_62 (by decide +kernel)
theorem dX7_findTurns_20 : decode cX7_findTurns 20 = .ok (.iload_n 2, 1) := dq_28 (by decide +kernel)
theorem dX7_findTurns_21 : decode cX7_findTurns 21 = .ok (.istore 4, 2) := dq_54 (a := 4) (by decide +kernel) rfl
theorem dX7_findTurns_23 : decode cX7_findTurns 23 = .ok (.iload 4, 2) := dq_21 (a := 4) (by decide +kernel) rfl
theorem dX7_findTurns_25 : decode cX7_findTurns 25 = .ok (.ifCond .le 54, 3) := dq_158 (a := 0) (b := 54) (by decide +kernel) (by decide +kernel)
theorem dX7_findTurns_79 : decode cX7_findTurns 79 = .ok (.aload_n 0, 1) := dq_42 (by decide +kernel)
theorem dX7_findTurns_80 : decode cX7_findTurns 80 = .ok (.getfield 32, 3) := dq_180 (a := 0) (b := 32) (by decide +kernel) rfl
theorem dX7_findTurns_83 : decode cX7_findTurns 83 = .ok (.iload 4, 2) := dq_21 (a := 4) (by decide +kernel) rfl
theorem dX7_findTurns_85 : decode cX7_findTurns 85 = .ok (.iload_n 2, 1) := dq_28 (by decide +kernel)
theorem dX7_findTurns_86 : decode cX7_findTurns 86 = .ok (.iastore, 1) := dq_79 (by decide +kernel)
theorem dX7_findTurns_87 : decode cX7_findTurns 87 = .ok (.iinc 2 1, 3) := dq_132 (a := 2) (b := 1) (by decide +kernel) rfl (by decide +kernel)
theorem dX7_findTurns_90 : decode cX7_findTurns 90 = .ok (.goto (-88), 3) := dq_167 (a := 255) (b := 168) (by decide +kernel) (by decide +kernel)
theorem dX7_findTurns_28 : decode cX7_findTurns 28 = .ok (.aload_n 1, 1) := dq_43 (by decide +kernel)
theorem dX7_findTurns_29 : decode cX7_findTurns 29 = .ok (.getfield 146, 3) := dq_180 (a := 0) (b := 146) (by decide +kernel) rfl
theorem dX7_findTurns_32 : decode cX7_findTurns 32 = .ok (.aload_n 0, 1) := dq_42 (by decide +kernel)
theorem dX7_findTurns_33 : decode cX7_findTurns 33 = .ok (.getfield 32, 3) := dq_180 (a := 0) (b := 32) (by decide +kernel) rfl
theorem dX7_findTurns_36 : decode cX7_findTurns 36 = .ok (.iload 4, 2) := dq_21 (a := 4) (by decide +kernel) rfl
theorem dX7_findTurns_38 : decode cX7_findTurns 38 = .ok (.iconst 1, 1) := dq_4 (by decide +kernel)
theorem dX7_findTurns_39 : decode cX7_findTurns 39 = .ok (.isub, 1) := dq_100 (by decide +kernel)
theorem dX7_findTurns_40 : decode cX7_findTurns 40 = .ok (.iaload, 1) := dq_46 (by decide +kernel)
theorem dX7_findTurns_41 : decode cX7_findTurns 41 = .ok (.aload_n 0, 1) := dq_42 (by decide +kernel)
theorem dX7_findTurns_42 : decode cX7_findTurns 42 = .ok (.getfield 32, 3) := dq_180 (a := 0) (b := 32) (by decide +kernel) rfl
theorem dX7_findTurns_45 : decode cX7_findTurns 45 = .ok (.iload 4, 2) := dq_21 (a := 4) (by decide +kernel) rfl
theorem dX7_findTurns_47 : decode cX7_findTurns 47 = .ok (.iconst 1, 1) := dq_4 (by decide +kernel)
theorem dX7_findTurns_48 : decode cX7_findTurns 48 = .ok (.isub, 1) := dq_100 (by decide +kernel)
theorem dX7_findTurns_49 : decode cX7_findTurns 49 = .ok (.iaload, 1) := dq_46 (by decide +kernel)
theorem dX7_findTurns_50 : decode cX7_findTurns 50 = .ok (.invokevirtual 156, 3) := dq_182 (a := 0) (b := 156) (by decide +kernel) rfl
theorem dX7_findTurns_53 : decode cX7_findTurns 53 = .ok (.iload_n 3, 1) := dq_29 (by decide +kernel)
theorem dX7_findTurns_54 : decode cX7_findTurns 54 = .ok (.if_icmp .ge 25, 3) := dq_162 (a := 0) (b := 25) (by decide +kernel) (by decide +kernel)
theorem dX7_findTurns_57 : decode cX7_findTurns 57 = .ok (.aload_n 0, 1) := dq_42 (by decide +kernel)
theorem dX7_findTurns_58 : decode cX7_findTurns 58 = .ok (.getfield 32, 3) := dq_180 (a := 0) (b := 32) (by decide +kernel) rfl
theorem dX7_findTurns_61 : decode cX7_findTurns 61 = .ok (.iload 4, 2) := dq_21 (a := 4) (by decide +kernel) rfl
theorem dX7_findTurns_63 : decode cX7_findTurns 63 = .ok (.aload_n 0, 1) := dq_42 (by decide +kernel)
theorem dX7_findTurns_64 : decode cX7_findTurns 64 = .ok (.getfield 32, 3) := dq_180 (a := 0) (b := 32) (by decide +kernel) rfl
theorem dX7_findTurns_67 : decode cX7_findTurns 67 = .ok (.iload 4, 2) := dq_21 (a := 4) (by decide +kernel) rfl
theorem dX7_findTurns_69 : decode cX7_findTurns 69 = .ok (.iconst 1, 1) := dq_4 (by decide +kernel)
theorem dX7_findTurns_70 : decode cX7_findTurns 70 = .ok (.isub, 1) := dq_100 (by decide +kernel)
theorem dX7_findTurns_71 : decode cX7_findTurns 71 = .ok (.iaload, 1) := dq_46 (by decide +kernel)
theorem dX7_findTurns_72 : decode cX7_findTurns 72 = .ok (.iastore, 1) := dq_79 (by decide +kernel)
theorem dX7_findTurns_73 : decode cX7_findTurns 73 = .ok (.iinc 4 (-1), 3) := dq_132 (a := 4) (b := 255) (by decide +kernel) rfl (by decide +kernel)
theorem dX7_findTurns_76 : decode cX7_findTurns 76 = .ok (.goto (-53), 3) := dq_167 (a := 255) (b := 203) (by decide +kernel) (by decide +kernel)
theorem dX7_cancelAll_5 : decode cX7_cancelAll 5 = .ok (.aload_n 2, 1) := dq_44 (by decide +kernel)
theorem dX7_cancelAll_6 : decode cX7_cancelAll 6 = .ok (.iconst 0, 1) := dq_3 (by decide +kernel)
theorem dX7_cancelAll_7 : decode cX7_cancelAll 7 = .ok (.aload_n 0, 1) := dq_42 (by decide +kernel)
theorem dX7_cancelAll_8 : decode cX7_cancelAll 8 = .ok (.getfield 38, 3) := dq_180 (a := 0) (b := 38) (by decide +kernel) rfl
theorem dX7_cancelAll_11 : decode cX7_cancelAll 11 = .ok (.iconst 0, 1) := dq_3 (by decide +kernel)
theorem dX7_cancelAll_12 : decode cX7_cancelAll 12 = .ok (.bipush 6, 2) := dq_16 (a := 6) (by decide +kernel) (by decide +kernel)
theorem dX7_cancelAll_14 : decode cX7_cancelAll 14 = .ok (.invokestatic 133, 3) := dq_184 (a := 0) (b := 133) (by decide +kernel) rfl
theorem dX7_cancelAll_17 : decode cX7_cancelAll 17 = .ok (.iconst 0, 1) := dq_3 (by decide +kernel)
theorem dX7_cancelAll_18 : decode cX7_cancelAll 18 = .ok (.istore_n 3, 1) := dq_62 (by decide +kernel)
theorem dX7_cancelAll_19 : decode cX7_cancelAll 19 = .ok (.iload_n 3, 1) := dq_29 (by decide +kernel)
theorem dX7_cancelAll_20 : decode cX7_cancelAll 20 = .ok (.aload_n 1, 1) := dq_43 (by decide +kernel)
theorem dX7_cancelAll_21 : decode cX7_cancelAll 21 = .ok (.getfield 73, 3) := dq_180 (a := 0) (b := 73) (by decide +kernel) rfl
theorem dX7_cancelAll_24 : decode cX7_cancelAll 24 = .ok (.if_icmp .ge 78, 3) := dq_162 (a := 0) (b := 78) (by decide +kernel) (by decide +kernel)
theorem dX7_cancelAll_102 : decode cX7_cancelAll 102 = .ok (.return_, 1) := dq_177 (by decide +kernel)
theorem dX7_cancelAll_27 : decode cX7_cancelAll 27 = .ok (.aload_n 0, 1) := dq_42 (by decide +kernel)
theorem dX7_cancelAll_28 : decode cX7_cancelAll 28 = .ok (.getfield 32, 3) := dq_180 (a := 0) (b := 32) (by decide +kernel) rfl
theorem dX7_cancelAll_31 : decode cX7_cancelAll 31 = .ok (.iload_n 3, 1) := dq_29 (by decide +kernel)
theorem dX7_cancelAll_32 : decode cX7_cancelAll 32 = .ok (.iaload, 1) := dq_46 (by decide +kernel)
theorem dX7_cancelAll_33 : decode cX7_cancelAll 33 = .ok (.istore 4, 2) := dq_54 (a := 4) (by decide +kernel) rfl
theorem dX7_cancelAll_35 : decode cX7_cancelAll 35 = .ok (.aload_n 0, 1) := dq_42 (by decide +kernel)
theorem dX7_cancelAll_36 : decode cX7_cancelAll 36 = .ok (.getfield 35, 3) := dq_180 (a := 0) (b := 35) (by decide +kernel) rfl
theorem dX7_cancelAll_39 : decode cX7_cancelAll 39 = .ok (.iload 4, 2) := dq_21 (a := 4) (by decide +kernel) rfl
theorem dX7_cancelAll_41 : decode cX7_cancelAll 41 = .ok (.aload_n 0, 1) := dq_42 (by decide +kernel)
theorem dX7_cancelAll_42 : decode cX7_cancelAll 42 = .ok (.aload_n 1, 1) := dq_43 (by decide +kernel)
theorem dX7_cancelAll_43 : decode cX7_cancelAll 43 = .ok (.iload 4, 2) := dq_21 (a := 4) (by decide +kernel) rfl
theorem dX7_cancelAll_45 : decode cX7_cancelAll 45 = .ok (.invokevirtual 139, 3) := dq_182 (a := 0) (b := 139) (by decide +kernel) rfl
theorem dX7_bestLetter_0 : decode cX7_bestLetter 0 = .ok (.iconst 0, 1) := dq_3 (by decide +kernel)
theorem dX7_bestLetter_1 : decode cX7_bestLetter 1 = .ok (.istore_n 3, 1) := dq_62 (by decide +kernel)
theorem dX7_bestLetter_2 : decode cX7_bestLetter 2 = .ok (.ldc2_w 76, 3) := dq_20 (a := 0) (b := 76) (by decide +kernel) rfl
theorem dX7_bestLetter_5 : decode cX7_bestLetter 5 = .ok (.lstore 4, 2) := dq_55 (a := 4) (by decide +kernel) rfl
theorem dX7_bestLetter_7 : decode cX7_bestLetter 7 = .ok (.iconst 0, 1) := dq_3 (by decide +kernel)
theorem dX7_bestLetter_8 : decode cX7_bestLetter 8 = .ok (.istore 6, 2) := dq_54 (a := 6) (by decide +kernel) rfl
theorem dX7_bestLetter_10 : decode cX7_bestLetter 10 = .ok (.iload 6, 2) := dq_21 (a := 6) (by decide +kernel) rfl
theorem dX7_bestLetter_12 : decode cX7_bestLetter 12 = .ok (.aload_n 1, 1) := dq_43 (by decide +kernel)
theorem dX7_bestLetter_13 : decode cX7_bestLetter 13 = .ok (.getfield 61, 3) := dq_180 (a := 0) (b := 61) (by decide +kernel) rfl
theorem dX7_bestLetter_16 : decode cX7_bestLetter 16 = .ok (.if_icmp .ge 42, 3) := dq_162 (a := 0) (b := 42) (by decide +kernel) (by decide +kernel)
theorem dX7_bestLetter_58 : decode cX7_bestLetter 58 = .ok (.iload_n 3, 1) := dq_29 (by decide +kernel)
theorem dX7_bestLetter_59 : decode cX7_bestLetter 59 = .ok (.ireturn, 1) := dq_172 (by decide +kernel)
theorem dX7_bestLetter_19 : decode cX7_bestLetter 19 = .ok (.aload_n 1, 1) := dq_43 (by decide +kernel)
theorem dX7_bestLetter_20 : decode cX7_bestLetter 20 = .ok (.iload 6, 2) := dq_21 (a := 6) (by decide +kernel) rfl
theorem dX7_bestLetter_22 : decode cX7_bestLetter 22 = .ok (.invokevirtual 159, 3) := dq_182 (a := 0) (b := 159) (by decide +kernel) rfl
theorem dX7_bestLetter_25 : decode cX7_bestLetter 25 = .ok (.istore 7, 2) := dq_54 (a := 7) (by decide +kernel) rfl
theorem dX7_bestLetter_27 : decode cX7_bestLetter 27 = .ok (.aload_n 0, 1) := dq_42 (by decide +kernel)
theorem dX7_bestLetter_28 : decode cX7_bestLetter 28 = .ok (.aload_n 1, 1) := dq_43 (by decide +kernel)
theorem dX7_bestLetter_29 : decode cX7_bestLetter 29 = .ok (.iload_n 2, 1) := dq_28 (by decide +kernel)
theorem dX7_bestLetter_30 : decode cX7_bestLetter 30 = .ok (.iload 7, 2) := dq_21 (a := 7) (by decide +kernel) rfl
theorem dX7_bestLetter_32 : decode cX7_bestLetter 32 = .ok (.invokevirtual 163, 3) := dq_182 (a := 0) (b := 163) (by decide +kernel) rfl
theorem dX7_squaresWith_0 : decode cX7_squaresWith 0 = .ok (.lconst 0, 1) := dq_9 (by decide +kernel)
theorem dX7_squaresWith_1 : decode cX7_squaresWith 1 = .ok (.lstore 4, 2) := dq_55 (a := 4) (by decide +kernel) rfl
theorem dX7_squaresWith_3 : decode cX7_squaresWith 3 = .ok (.iconst 0, 1) := dq_3 (by decide +kernel)
theorem dX7_squaresWith_4 : decode cX7_squaresWith 4 = .ok (.istore 6, 2) := dq_54 (a := 6) (by decide +kernel) rfl
theorem dX7_squaresWith_6 : decode cX7_squaresWith 6 = .ok (.iload 6, 2) := dq_21 (a := 6) (by decide +kernel) rfl
theorem dX7_squaresWith_8 : decode cX7_squaresWith 8 = .ok (.aload_n 1, 1) := dq_43 (by decide +kernel)
theorem dX7_squaresWith_9 : decode cX7_squaresWith 9 = .ok (.getfield 143, 3) := dq_180 (a := 0) (b := 143) (by decide +kernel) rfl
theorem dX7_squaresWith_12 : decode cX7_squaresWith 12 = .ok (.if_icmp .ge 42, 3) := dq_162 (a := 0) (b := 42) (by decide +kernel) (by decide +kernel)
theorem dX7_squaresWith_54 : decode cX7_squaresWith 54 = .ok (.lload 4, 2) := dq_22 (a := 4) (by decide +kernel) rfl
theorem dX7_squaresWith_56 : decode cX7_squaresWith 56 = .ok (.lreturn, 1) := dq_173 (by decide +kernel)
theorem dX7_squaresWith_15 : decode cX7_squaresWith 15 = .ok (.aload_n 0, 1) := dq_42 (by decide +kernel)
theorem dX7_squaresWith_16 : decode cX7_squaresWith 16 = .ok (.getfield 38, 3) := dq_180 (a := 0) (b := 38) (by decide +kernel) rfl
theorem dX7_squaresWith_19 : decode cX7_squaresWith 19 = .ok (.iload 6, 2) := dq_21 (a := 6) (by decide +kernel) rfl
theorem dX7_squaresWith_21 : decode cX7_squaresWith 21 = .ok (.iaload, 1) := dq_46 (by decide +kernel)
theorem dX7_squaresWith_22 : decode cX7_squaresWith 22 = .ok (.aload_n 1, 1) := dq_43 (by decide +kernel)
theorem dX7_squaresWith_23 : decode cX7_squaresWith 23 = .ok (.getfield 146, 3) := dq_180 (a := 0) (b := 146) (by decide +kernel) rfl
theorem dX7_squaresWith_26 : decode cX7_squaresWith 26 = .ok (.iload 6, 2) := dq_21 (a := 6) (by decide +kernel) rfl
theorem dX7_squaresWith_28 : decode cX7_squaresWith 28 = .ok (.iload_n 2, 1) := dq_28 (by decide +kernel)
theorem dX7_squaresWith_29 : decode cX7_squaresWith 29 = .ok (.invokevirtual 150, 3) := dq_182 (a := 0) (b := 150) (by decide +kernel) rfl
theorem dX7_squaresWith_32 : decode cX7_squaresWith 32 = .ok (.iload_n 3, 1) := dq_29 (by decide +kernel)
theorem dX7_squaresWith_33 : decode cX7_squaresWith 33 = .ok (.imul, 1) := dq_104 (by decide +kernel)
theorem dX7_squaresWith_34 : decode cX7_squaresWith 34 = .ok (.isub, 1) := dq_100 (by decide +kernel)
theorem dX7_squaresWith_35 : decode cX7_squaresWith 35 = .ok (.i2l, 1) := dq_133 (by decide +kernel)
theorem dX7_squaresWith_36 : decode cX7_squaresWith 36 = .ok (.lstore 7, 2) := dq_55 (a := 7) (by decide +kernel) rfl
theorem dX7_squaresWith_38 : decode cX7_squaresWith 38 = .ok (.lload 4, 2) := dq_22 (a := 4) (by decide +kernel) rfl
theorem dX7_squaresWith_40 : decode cX7_squaresWith 40 = .ok (.lload 7, 2) := dq_22 (a := 7) (by decide +kernel) rfl
theorem dX7_squaresWith_42 : decode cX7_squaresWith 42 = .ok (.lload 7, 2) := dq_22 (a := 7) (by decide +kernel) rfl
theorem dX7_squaresWith_44 : decode cX7_squaresWith 44 = .ok (.lmul, 1) := dq_105 (by decide +kernel)
theorem dX7_squaresWith_45 : decode cX7_squaresWith 45 = .ok (.ladd, 1) := dq_97 (by decide +kernel)
theorem dX7_squaresWith_46 : decode cX7_squaresWith 46 = .ok (.lstore 4, 2) := dq_55 (a := 4) (by decide +kernel) rfl
theorem dX7_squaresWith_48 : decode cX7_squaresWith 48 = .ok (.iinc 6 1, 3) := dq_132 (a := 6) (b := 1) (by decide +kernel) rfl (by decide +kernel)
theorem dX7_squaresWith_51 : decode cX7_squaresWith 51 = .ok (.goto (-45), 3) := dq_167 (a := 255) (b := 211) (by decide +kernel) (by decide +kernel)
theorem dX7_bestLetter_35 : decode cX7_bestLetter 35 = .ok (.lstore 8, 2) := dq_55 (a := 8) (by decide +kernel) rfl
theorem dX7_bestLetter_37 : decode cX7_bestLetter 37 = .ok (.lload 8, 2) := dq_22 (a := 8) (by decide +kernel) rfl
theorem dX7_bestLetter_39 : decode cX7_bestLetter 39 = .ok (.lload 4, 2) := dq_22 (a := 4) (by decide +kernel) rfl
theorem dX7_bestLetter_41 : decode cX7_bestLetter 41 = .ok (.lcmp, 1) := dq_148 (by decide +kernel)
theorem dX7_bestLetter_42 : decode cX7_bestLetter 42 = .ok (.ifCond .ge 10, 3) := dq_156 (a := 0) (b := 10) (by decide +kernel) (by decide +kernel)
theorem dX7_bestLetter_52 : decode cX7_bestLetter 52 = .ok (.iinc 6 1, 3) := dq_132 (a := 6) (b := 1) (by decide +kernel) rfl (by decide +kernel)
theorem dX7_bestLetter_55 : decode cX7_bestLetter 55 = .ok (.goto (-45), 3) := dq_167 (a := 255) (b := 211) (by decide +kernel) (by decide +kernel)
theorem dX7_bestLetter_45 : decode cX7_bestLetter 45 = .ok (.lload 8, 2) := dq_22 (a := 8) (by decide +kernel) rfl
theorem dX7_bestLetter_47 : decode cX7_bestLetter 47 = .ok (.lstore 4, 2) := dq_55 (a := 4) (by decide +kernel) rfl
theorem dX7_bestLetter_49 : decode cX7_bestLetter 49 = .ok (.iload 7, 2) := dq_21 (a := 7) (by decide +kernel) rfl
theorem dX7_bestLetter_51 : decode cX7_bestLetter 51 = .ok (.istore_n 3, 1) := dq_62 (by decide +kernel)
theorem dX7_cancelAll_48 : decode cX7_cancelAll 48 = .ok (.iastore, 1) := dq_79 (by decide +kernel)
theorem dX7_cancelAll_49 : decode cX7_cancelAll 49 = .ok (.iconst 0, 1) := dq_3 (by decide +kernel)
theorem dX7_cancelAll_50 : decode cX7_cancelAll 50 = .ok (.istore 5, 2) := dq_54 (a := 5) (by decide +kernel) rfl
theorem dX7_cancelAll_52 : decode cX7_cancelAll 52 = .ok (.iload 5, 2) := dq_21 (a := 5) (by decide +kernel) rfl
theorem dX7_cancelAll_54 : decode cX7_cancelAll 54 = .ok (.aload_n 1, 1) := dq_43 (by decide +kernel)
theorem dX7_cancelAll_55 : decode cX7_cancelAll 55 = .ok (.getfield 143, 3) := dq_180 (a := 0) (b := 143) (by decide +kernel) rfl
theorem dX7_cancelAll_58 : decode cX7_cancelAll 58 = .ok (.if_icmp .ge 38, 3) := dq_162 (a := 0) (b := 38) (by decide +kernel) (by decide +kernel)
theorem dX7_cancelAll_96 : decode cX7_cancelAll 96 = .ok (.iinc 3 1, 3) := dq_132 (a := 3) (b := 1) (by decide +kernel) rfl (by decide +kernel)
theorem dX7_cancelAll_99 : decode cX7_cancelAll 99 = .ok (.goto (-80), 3) := dq_167 (a := 255) (b := 176) (by decide +kernel) (by decide +kernel)
theorem dX7_cancelAll_61 : decode cX7_cancelAll 61 = .ok (.aload_n 0, 1) := dq_42 (by decide +kernel)
theorem dX7_cancelAll_62 : decode cX7_cancelAll 62 = .ok (.getfield 38, 3) := dq_180 (a := 0) (b := 38) (by decide +kernel) rfl
theorem dX7_cancelAll_65 : decode cX7_cancelAll 65 = .ok (.iload 5, 2) := dq_21 (a := 5) (by decide +kernel) rfl
theorem dX7_cancelAll_67 : decode cX7_cancelAll 67 = .ok (.dup2, 1) := dq_92 (by decide +kernel)
theorem dX7_cancelAll_68 : decode cX7_cancelAll 68 = .ok (.iaload, 1) := dq_46 (by decide +kernel)
theorem dX7_cancelAll_69 : decode cX7_cancelAll 69 = .ok (.aload_n 1, 1) := dq_43 (by decide +kernel)
theorem dX7_cancelAll_70 : decode cX7_cancelAll 70 = .ok (.getfield 146, 3) := dq_180 (a := 0) (b := 146) (by decide +kernel) rfl
theorem dX7_cancelAll_73 : decode cX7_cancelAll 73 = .ok (.iload 5, 2) := dq_21 (a := 5) (by decide +kernel) rfl
theorem dX7_cancelAll_75 : decode cX7_cancelAll 75 = .ok (.iload 4, 2) := dq_21 (a := 4) (by decide +kernel) rfl
theorem dX7_cancelAll_77 : decode cX7_cancelAll 77 = .ok (.invokevirtual 150, 3) := dq_182 (a := 0) (b := 150) (by decide +kernel) rfl
theorem dX7_cancelAll_80 : decode cX7_cancelAll 80 = .ok (.aload_n 0, 1) := dq_42 (by decide +kernel)
theorem dX7_cancelAll_81 : decode cX7_cancelAll 81 = .ok (.getfield 35, 3) := dq_180 (a := 0) (b := 35) (by decide +kernel) rfl
theorem dX7_cancelAll_84 : decode cX7_cancelAll 84 = .ok (.iload 4, 2) := dq_21 (a := 4) (by decide +kernel) rfl
theorem dX7_cancelAll_86 : decode cX7_cancelAll 86 = .ok (.iaload, 1) := dq_46 (by decide +kernel)
theorem dX7_cancelAll_87 : decode cX7_cancelAll 87 = .ok (.imul, 1) := dq_104 (by decide +kernel)
theorem dX7_cancelAll_88 : decode cX7_cancelAll 88 = .ok (.isub, 1) := dq_100 (by decide +kernel)
theorem dX7_cancelAll_89 : decode cX7_cancelAll 89 = .ok (.iastore, 1) := dq_79 (by decide +kernel)
theorem dX7_cancelAll_90 : decode cX7_cancelAll 90 = .ok (.iinc 5 1, 3) := dq_132 (a := 5) (b := 1) (by decide +kernel) rfl (by decide +kernel)
theorem dX7_cancelAll_93 : decode cX7_cancelAll 93 = .ok (.goto (-41), 3) := dq_167 (a := 255) (b := 215) (by decide +kernel) (by decide +kernel)
theorem dX7_leastWith_0 : decode cX7_leastWith 0 = .ok (.aload_n 0, 1) := dq_42 (by decide +kernel)
theorem dX7_leastWith_1 : decode cX7_leastWith 1 = .ok (.getfield 26, 3) := dq_180 (a := 0) (b := 26) (by decide +kernel) rfl
theorem dX7_leastWith_4 : decode cX7_leastWith 4 = .ok (.iload_n 1, 1) := dq_27 (by decide +kernel)
theorem dX7_leastWith_5 : decode cX7_leastWith 5 = .ok (.bipush 8, 2) := dq_16 (a := 8) (by decide +kernel) (by decide +kernel)
theorem dX7_leastWith_7 : decode cX7_leastWith 7 = .ok (.imul, 1) := dq_104 (by decide +kernel)
theorem dX7_leastWith_8 : decode cX7_leastWith 8 = .ok (.iload_n 2, 1) := dq_28 (by decide +kernel)
theorem dX7_leastWith_9 : decode cX7_leastWith 9 = .ok (.iadd, 1) := dq_96 (by decide +kernel)
theorem dX7_leastWith_10 : decode cX7_leastWith 10 = .ok (.laload, 1) := dq_47 (by decide +kernel)
theorem dX7_leastWith_11 : decode cX7_leastWith 11 = .ok (.lreturn, 1) := dq_173 (by decide +kernel)
theorem dX7_shareOf_0 : decode cX7_shareOf 0 = .ok (.aload_n 0, 1) := dq_42 (by decide +kernel)
theorem dX7_shareOf_1 : decode cX7_shareOf 1 = .ok (.getfield 45, 3) := dq_180 (a := 0) (b := 45) (by decide +kernel) rfl
theorem dX7_shareOf_4 : decode cX7_shareOf 4 = .ok (.lconst 0, 1) := dq_9 (by decide +kernel)
theorem dX7_shareOf_5 : decode cX7_shareOf 5 = .ok (.lcmp, 1) := dq_148 (by decide +kernel)
theorem dX7_shareOf_6 : decode cX7_shareOf 6 = .ok (.ifCond .gt 5, 3) := dq_157 (a := 0) (b := 5) (by decide +kernel) (by decide +kernel)
theorem dX7_shareOf_11 : decode cX7_shareOf 11 = .ok (.ldc2_w 128, 3) := dq_20 (a := 0) (b := 128) (by decide +kernel) rfl
theorem dX7_shareOf_14 : decode cX7_shareOf 14 = .ok (.aload_n 0, 1) := dq_42 (by decide +kernel)
theorem dX7_shareOf_15 : decode cX7_shareOf 15 = .ok (.getfield 29, 3) := dq_180 (a := 0) (b := 29) (by decide +kernel) rfl
theorem dX7_shareOf_18 : decode cX7_shareOf 18 = .ok (.iload_n 1, 1) := dq_27 (by decide +kernel)
theorem dX7_shareOf_19 : decode cX7_shareOf 19 = .ok (.bipush 8, 2) := dq_16 (a := 8) (by decide +kernel) (by decide +kernel)
theorem dX7_shareOf_21 : decode cX7_shareOf 21 = .ok (.imul, 1) := dq_104 (by decide +kernel)
theorem dX7_shareOf_22 : decode cX7_shareOf 22 = .ok (.iload_n 2, 1) := dq_28 (by decide +kernel)
theorem dX7_shareOf_23 : decode cX7_shareOf 23 = .ok (.iadd, 1) := dq_96 (by decide +kernel)
theorem dX7_shareOf_24 : decode cX7_shareOf 24 = .ok (.laload, 1) := dq_47 (by decide +kernel)
theorem dX7_shareOf_25 : decode cX7_shareOf 25 = .ok (.lmul, 1) := dq_105 (by decide +kernel)
theorem dX7_shareOf_26 : decode cX7_shareOf 26 = .ok (.aload_n 0, 1) := dq_42 (by decide +kernel)
theorem dX7_shareOf_27 : decode cX7_shareOf 27 = .ok (.getfield 45, 3) := dq_180 (a := 0) (b := 45) (by decide +kernel) rfl
theorem dX7_shareOf_30 : decode cX7_shareOf 30 = .ok (.ldiv, 1) := dq_109 (by decide +kernel)
theorem dX7_shareOf_31 : decode cX7_shareOf 31 = .ok (.l2i, 1) := dq_136 (by decide +kernel)
theorem dX7_shareOf_32 : decode cX7_shareOf 32 = .ok (.ireturn, 1) := dq_172 (by decide +kernel)
theorem dX7_shareOf_9 : decode cX7_shareOf 9 = .ok (.iconst 0, 1) := dq_3 (by decide +kernel)
theorem dX7_shareOf_10 : decode cX7_shareOf 10 = .ok (.ireturn, 1) := dq_172 (by decide +kernel)
theorem dX7_leastWithout_0 : decode cX7_leastWithout 0 = .ok (.ldc2_w 76, 3) := dq_20 (a := 0) (b := 76) (by decide +kernel) rfl
theorem dX7_leastWithout_3 : decode cX7_leastWithout 3 = .ok (.lstore 4, 2) := dq_55 (a := 4) (by decide +kernel) rfl
theorem dX7_leastWithout_5 : decode cX7_leastWithout 5 = .ok (.iconst 0, 1) := dq_3 (by decide +kernel)
theorem dX7_leastWithout_6 : decode cX7_leastWithout 6 = .ok (.istore 6, 2) := dq_54 (a := 6) (by decide +kernel) rfl
theorem dX7_leastWithout_8 : decode cX7_leastWithout 8 = .ok (.iload 6, 2) := dq_21 (a := 6) (by decide +kernel) rfl
theorem dX7_leastWithout_10 : decode cX7_leastWithout 10 = .ok (.iload_n 3, 1) := dq_29 (by decide +kernel)
theorem dX7_leastWithout_11 : decode cX7_leastWithout 11 = .ok (.if_icmp .ge 29, 3) := dq_162 (a := 0) (b := 29) (by decide +kernel) (by decide +kernel)
theorem dX7_leastWithout_40 : decode cX7_leastWithout 40 = .ok (.lload 4, 2) := dq_22 (a := 4) (by decide +kernel) rfl
theorem dX7_leastWithout_42 : decode cX7_leastWithout 42 = .ok (.lreturn, 1) := dq_173 (by decide +kernel)
theorem dX7_leastWithout_14 : decode cX7_leastWithout 14 = .ok (.iload 6, 2) := dq_21 (a := 6) (by decide +kernel) rfl
theorem dX7_leastWithout_16 : decode cX7_leastWithout 16 = .ok (.iload_n 2, 1) := dq_28 (by decide +kernel)
theorem dX7_leastWithout_17 : decode cX7_leastWithout 17 = .ok (.if_icmp .eq 17, 3) := dq_159 (a := 0) (b := 17) (by decide +kernel) (by decide +kernel)
theorem dX7_leastWithout_34 : decode cX7_leastWithout 34 = .ok (.iinc 6 1, 3) := dq_132 (a := 6) (b := 1) (by decide +kernel) rfl (by decide +kernel)
theorem dX7_leastWithout_37 : decode cX7_leastWithout 37 = .ok (.goto (-29), 3) := dq_167 (a := 255) (b := 227) (by decide +kernel) (by decide +kernel)
theorem dX7_leastWithout_20 : decode cX7_leastWithout 20 = .ok (.lload 4, 2) := dq_22 (a := 4) (by decide +kernel) rfl
theorem dX7_leastWithout_22 : decode cX7_leastWithout 22 = .ok (.aload_n 0, 1) := dq_42 (by decide +kernel)
theorem dX7_leastWithout_23 : decode cX7_leastWithout 23 = .ok (.iload_n 1, 1) := dq_27 (by decide +kernel)
theorem dX7_leastWithout_24 : decode cX7_leastWithout 24 = .ok (.iload 6, 2) := dq_21 (a := 6) (by decide +kernel) rfl
theorem dX7_leastWithout_26 : decode cX7_leastWithout 26 = .ok (.invokevirtual 124, 3) := dq_182 (a := 0) (b := 124) (by decide +kernel) rfl
theorem dX7_leastWithout_29 : decode cX7_leastWithout 29 = .ok (.invokestatic 115, 3) := dq_184 (a := 0) (b := 115) (by decide +kernel) rfl
theorem dX7_leastWithout_32 : decode cX7_leastWithout 32 = .ok (.lstore 4, 2) := dq_55 (a := 4) (by decide +kernel) rfl
theorem dX3_forget_0 : decode cX3_forget 0 = .ok (.aload_n 0, 1) := dq_42 (by decide +kernel)
theorem dX3_forget_1 : decode cX3_forget 1 = .ok (.iconst 0, 1) := dq_3 (by decide +kernel)
theorem dX3_forget_2 : decode cX3_forget 2 = .ok (.putfield 39, 3) := dq_181 (a := 0) (b := 39) (by decide +kernel) rfl
theorem dX3_forget_5 : decode cX3_forget 5 = .ok (.aload_n 0, 1) := dq_42 (by decide +kernel)
theorem dX3_forget_6 : decode cX3_forget 6 = .ok (.ldc2_w 43, 3) := dq_20 (a := 0) (b := 43) (by decide +kernel) rfl
theorem dX3_forget_9 : decode cX3_forget 9 = .ok (.putfield 45, 3) := dq_181 (a := 0) (b := 45) (by decide +kernel) rfl
theorem dX3_forget_12 : decode cX3_forget 12 = .ok (.aload_n 0, 1) := dq_42 (by decide +kernel)
theorem dX3_forget_13 : decode cX3_forget 13 = .ok (.ldc2_w 43, 3) := dq_20 (a := 0) (b := 43) (by decide +kernel) rfl
theorem dX3_forget_16 : decode cX3_forget 16 = .ok (.putfield 48, 3) := dq_181 (a := 0) (b := 48) (by decide +kernel) rfl
theorem dX3_forget_19 : decode cX3_forget 19 = .ok (.return_, 1) := dq_177 (by decide +kernel)
theorem dX3_mostOfAll_0 : decode cX3_mostOfAll 0 = .ok (.aload_n 0, 1) := dq_42 (by decide +kernel)
theorem dX3_mostOfAll_1 : decode cX3_mostOfAll 1 = .ok (.getfield 48, 3) := dq_180 (a := 0) (b := 48) (by decide +kernel) rfl
theorem dX3_mostOfAll_4 : decode cX3_mostOfAll 4 = .ok (.lconst 0, 1) := dq_9 (by decide +kernel)
theorem dX3_mostOfAll_5 : decode cX3_mostOfAll 5 = .ok (.lcmp, 1) := dq_148 (by decide +kernel)
theorem dX3_mostOfAll_6 : decode cX3_mostOfAll 6 = .ok (.ifCond .lt 8, 3) := dq_155 (a := 0) (b := 8) (by decide +kernel) (by decide +kernel)
theorem dX3_mostOfAll_14 : decode cX3_mostOfAll 14 = .ok (.aload_n 0, 1) := dq_42 (by decide +kernel)
theorem dX3_mostOfAll_15 : decode cX3_mostOfAll 15 = .ok (.getfield 12, 3) := dq_180 (a := 0) (b := 12) (by decide +kernel) rfl
theorem dX3_mostOfAll_18 : decode cX3_mostOfAll 18 = .ok (.aload_n 1, 1) := dq_43 (by decide +kernel)
theorem dX3_mostOfAll_19 : decode cX3_mostOfAll 19 = .ok (.invokevirtual 51, 3) := dq_182 (a := 0) (b := 51) (by decide +kernel) rfl
theorem dX3_mostOfAll_22 : decode cX3_mostOfAll 22 = .ok (.aload_n 0, 1) := dq_42 (by decide +kernel)
theorem dX3_mostOfAll_23 : decode cX3_mostOfAll 23 = .ok (.aload_n 1, 1) := dq_43 (by decide +kernel)
theorem dX3_mostOfAll_24 : decode cX3_mostOfAll 24 = .ok (.invokevirtual 143, 3) := dq_182 (a := 0) (b := 143) (by decide +kernel) rfl
theorem dX3_startTrying_0 : decode cX3_startTrying 0 = .ok (.aload_n 0, 1) := dq_42 (by decide +kernel)
theorem dX3_startTrying_1 : decode cX3_startTrying 1 = .ok (.getfield 28, 3) := dq_180 (a := 0) (b := 28) (by decide +kernel) rfl
theorem dX3_startTrying_4 : decode cX3_startTrying 4 = .ok (.iconst 0, 1) := dq_3 (by decide +kernel)
theorem dX3_startTrying_5 : decode cX3_startTrying 5 = .ok (.invokestatic 162, 3) := dq_184 (a := 0) (b := 162) (by decide +kernel) rfl
theorem dX3_startTrying_8 : decode cX3_startTrying 8 = .ok (.aload_n 0, 1) := dq_42 (by decide +kernel)
theorem dX3_startTrying_9 : decode cX3_startTrying 9 = .ok (.getfield 31, 3) := dq_180 (a := 0) (b := 31) (by decide +kernel) rfl
theorem dX3_startTrying_12 : decode cX3_startTrying 12 = .ok (.lconst 0, 1) := dq_9 (by decide +kernel)
theorem dX3_startTrying_13 : decode cX3_startTrying 13 = .ok (.invokestatic 168, 3) := dq_184 (a := 0) (b := 168) (by decide +kernel) rfl
theorem dX3_startTrying_16 : decode cX3_startTrying 16 = .ok (.aload_n 0, 1) := dq_42 (by decide +kernel)
theorem dX3_startTrying_17 : decode cX3_startTrying 17 = .ok (.lconst 0, 1) := dq_9 (by decide +kernel)
theorem dX3_startTrying_18 : decode cX3_startTrying 18 = .ok (.putfield 35, 3) := dq_181 (a := 0) (b := 35) (by decide +kernel) rfl
theorem dX3_startTrying_21 : decode cX3_startTrying 21 = .ok (.iconst 0, 1) := dq_3 (by decide +kernel)
theorem dX3_startTrying_22 : decode cX3_startTrying 22 = .ok (.istore_n 2, 1) := dq_61 (by decide +kernel)
theorem dX3_startTrying_23 : decode cX3_startTrying 23 = .ok (.iload_n 2, 1) := dq_28 (by decide +kernel)
theorem dX3_startTrying_24 : decode cX3_startTrying 24 = .ok (.aload_n 1, 1) := dq_43 (by decide +kernel)
theorem dX3_startTrying_25 : decode cX3_startTrying 25 = .ok (.getfield 79, 3) := dq_180 (a := 0) (b := 79) (by decide +kernel) rfl
theorem dX3_startTrying_28 : decode cX3_startTrying 28 = .ok (.if_icmp .ge 33, 3) := dq_162 (a := 0) (b := 33) (by decide +kernel) (by decide +kernel)
theorem dX3_startTrying_61 : decode cX3_startTrying 61 = .ok (.return_, 1) := dq_177 (by decide +kernel)
theorem dX3_startTrying_31 : decode cX3_startTrying 31 = .ok (.aload_n 0, 1) := dq_42 (by decide +kernel)
theorem dX3_startTrying_32 : decode cX3_startTrying 32 = .ok (.getfield 25, 3) := dq_180 (a := 0) (b := 25) (by decide +kernel) rfl
theorem dX3_startTrying_35 : decode cX3_startTrying 35 = .ok (.iload_n 2, 1) := dq_28 (by decide +kernel)
theorem dX3_startTrying_36 : decode cX3_startTrying 36 = .ok (.iconst 1, 1) := dq_4 (by decide +kernel)
theorem dX3_startTrying_37 : decode cX3_startTrying 37 = .ok (.aload_n 1, 1) := dq_43 (by decide +kernel)
theorem dX3_startTrying_38 : decode cX3_startTrying 38 = .ok (.getfield 77, 3) := dq_180 (a := 0) (b := 77) (by decide +kernel) rfl
theorem dX3_startTrying_41 : decode cX3_startTrying 41 = .ok (.isub, 1) := dq_100 (by decide +kernel)
theorem dX3_startTrying_42 : decode cX3_startTrying 42 = .ok (.iastore, 1) := dq_79 (by decide +kernel)
theorem dX3_startTrying_43 : decode cX3_startTrying 43 = .ok (.aload_n 0, 1) := dq_42 (by decide +kernel)
theorem dX3_startTrying_44 : decode cX3_startTrying 44 = .ok (.iload_n 2, 1) := dq_28 (by decide +kernel)
theorem dX3_startTrying_45 : decode cX3_startTrying 45 = .ok (.aload_n 0, 1) := dq_42 (by decide +kernel)
theorem dX3_startTrying_46 : decode cX3_startTrying 46 = .ok (.getfield 25, 3) := dq_180 (a := 0) (b := 25) (by decide +kernel) rfl
theorem dX3_startTrying_49 : decode cX3_startTrying 49 = .ok (.iload_n 2, 1) := dq_28 (by decide +kernel)
theorem dX3_startTrying_50 : decode cX3_startTrying 50 = .ok (.iaload, 1) := dq_46 (by decide +kernel)
theorem dX3_startTrying_51 : decode cX3_startTrying 51 = .ok (.i2l, 1) := dq_133 (by decide +kernel)
theorem dX3_startTrying_52 : decode cX3_startTrying 52 = .ok (.invokevirtual 171, 3) := dq_182 (a := 0) (b := 171) (by decide +kernel) rfl
theorem dX3_move_0 : decode cX3_move 0 = .ok (.iload_n 1, 1) := dq_27 (by decide +kernel)
theorem dX3_move_1 : decode cX3_move 1 = .ok (.iconst 5, 1) := dq_8 (by decide +kernel)
theorem dX3_move_2 : decode cX3_move 2 = .ok (.imul, 1) := dq_104 (by decide +kernel)
theorem dX3_move_3 : decode cX3_move 3 = .ok (.istore 4, 2) := dq_54 (a := 4) (by decide +kernel) rfl
theorem dX3_move_5 : decode cX3_move 5 = .ok (.aload_n 0, 1) := dq_42 (by decide +kernel)
theorem dX3_move_6 : decode cX3_move 6 = .ok (.dup, 1) := dq_89 (by decide +kernel)
theorem dX3_move_7 : decode cX3_move 7 = .ok (.getfield 35, 3) := dq_180 (a := 0) (b := 35) (by decide +kernel) rfl
theorem dX3_move_10 : decode cX3_move 10 = .ok (.lload_n 2, 1) := dq_32 (by decide +kernel)
theorem dX3_move_11 : decode cX3_move 11 = .ok (.ldc2_w 175, 3) := dq_20 (a := 0) (b := 175) (by decide +kernel) rfl
theorem dX3_move_14 : decode cX3_move 14 = .ok (.aload_n 0, 1) := dq_42 (by decide +kernel)
theorem dX3_move_15 : decode cX3_move 15 = .ok (.getfield 31, 3) := dq_180 (a := 0) (b := 31) (by decide +kernel) rfl
theorem dX3_move_18 : decode cX3_move 18 = .ok (.iload_n 1, 1) := dq_27 (by decide +kernel)
theorem dX3_move_19 : decode cX3_move 19 = .ok (.laload, 1) := dq_47 (by decide +kernel)
theorem dX3_move_20 : decode cX3_move 20 = .ok (.lmul, 1) := dq_105 (by decide +kernel)
theorem dX3_move_21 : decode cX3_move 21 = .ok (.lload_n 2, 1) := dq_32 (by decide +kernel)
theorem dX3_move_22 : decode cX3_move 22 = .ok (.aload_n 0, 1) := dq_42 (by decide +kernel)
theorem dX3_move_23 : decode cX3_move 23 = .ok (.getfield 12, 3) := dq_180 (a := 0) (b := 12) (by decide +kernel) rfl
theorem dX3_move_26 : decode cX3_move 26 = .ok (.getfield 177, 3) := dq_180 (a := 0) (b := 177) (by decide +kernel) rfl
theorem dX3_move_29 : decode cX3_move 29 = .ok (.iload 4, 2) := dq_21 (a := 4) (by decide +kernel) rfl
theorem dX3_move_31 : decode cX3_move 31 = .ok (.iload_n 1, 1) := dq_27 (by decide +kernel)
theorem dX3_move_32 : decode cX3_move 32 = .ok (.iadd, 1) := dq_96 (by decide +kernel)
theorem dX3_move_33 : decode cX3_move 33 = .ok (.laload, 1) := dq_47 (by decide +kernel)
theorem dX3_move_34 : decode cX3_move 34 = .ok (.lmul, 1) := dq_105 (by decide +kernel)
theorem dX3_move_35 : decode cX3_move 35 = .ok (.ladd, 1) := dq_97 (by decide +kernel)
theorem dX3_move_36 : decode cX3_move 36 = .ok (.lmul, 1) := dq_105 (by decide +kernel)
theorem dX3_move_37 : decode cX3_move 37 = .ok (.ladd, 1) := dq_97 (by decide +kernel)
theorem dX3_move_38 : decode cX3_move 38 = .ok (.putfield 35, 3) := dq_181 (a := 0) (b := 35) (by decide +kernel) rfl
theorem dX3_move_41 : decode cX3_move 41 = .ok (.iconst 0, 1) := dq_3 (by decide +kernel)
theorem dX3_move_42 : decode cX3_move 42 = .ok (.istore 5, 2) := dq_54 (a := 5) (by decide +kernel) rfl
theorem dX3_move_44 : decode cX3_move 44 = .ok (.iload 5, 2) := dq_21 (a := 5) (by decide +kernel) rfl
theorem dX3_move_46 : decode cX3_move 46 = .ok (.aload_n 0, 1) := dq_42 (by decide +kernel)
theorem dX3_move_47 : decode cX3_move 47 = .ok (.getfield 12, 3) := dq_180 (a := 0) (b := 12) (by decide +kernel) rfl
theorem dX3_move_50 : decode cX3_move 50 = .ok (.getfield 110, 3) := dq_180 (a := 0) (b := 110) (by decide +kernel) rfl
theorem dX3_move_53 : decode cX3_move 53 = .ok (.if_icmp .gt 34, 3) := dq_163 (a := 0) (b := 34) (by decide +kernel) (by decide +kernel)
theorem dX3_move_56 : decode cX3_move 56 = .ok (.aload_n 0, 1) := dq_42 (by decide +kernel)
theorem dX3_move_57 : decode cX3_move 57 = .ok (.getfield 31, 3) := dq_180 (a := 0) (b := 31) (by decide +kernel) rfl
theorem dX3_move_60 : decode cX3_move 60 = .ok (.iload 5, 2) := dq_21 (a := 5) (by decide +kernel) rfl
theorem dX3_move_62 : decode cX3_move 62 = .ok (.dup2, 1) := dq_92 (by decide +kernel)
theorem dX3_move_63 : decode cX3_move 63 = .ok (.laload, 1) := dq_47 (by decide +kernel)
theorem dX3_move_64 : decode cX3_move 64 = .ok (.lload_n 2, 1) := dq_32 (by decide +kernel)
theorem dX3_move_65 : decode cX3_move 65 = .ok (.aload_n 0, 1) := dq_42 (by decide +kernel)
theorem dX3_move_66 : decode cX3_move 66 = .ok (.getfield 12, 3) := dq_180 (a := 0) (b := 12) (by decide +kernel) rfl
theorem dX3_move_69 : decode cX3_move 69 = .ok (.getfield 177, 3) := dq_180 (a := 0) (b := 177) (by decide +kernel) rfl
theorem dX3_move_72 : decode cX3_move 72 = .ok (.iload 4, 2) := dq_21 (a := 4) (by decide +kernel) rfl
theorem dX3_move_74 : decode cX3_move 74 = .ok (.iload 5, 2) := dq_21 (a := 5) (by decide +kernel) rfl
theorem dX3_move_76 : decode cX3_move 76 = .ok (.iadd, 1) := dq_96 (by decide +kernel)
theorem dX3_move_77 : decode cX3_move 77 = .ok (.laload, 1) := dq_47 (by decide +kernel)
theorem dX3_move_78 : decode cX3_move 78 = .ok (.lmul, 1) := dq_105 (by decide +kernel)
theorem dX3_move_79 : decode cX3_move 79 = .ok (.ladd, 1) := dq_97 (by decide +kernel)
theorem dX3_move_80 : decode cX3_move 80 = .ok (.lastore, 1) := dq_80 (by decide +kernel)
theorem dX3_move_81 : decode cX3_move 81 = .ok (.iinc 5 1, 3) := dq_132 (a := 5) (b := 1) (by decide +kernel) rfl (by decide +kernel)
theorem dX3_move_84 : decode cX3_move 84 = .ok (.goto (-40), 3) := dq_167 (a := 255) (b := 216) (by decide +kernel) (by decide +kernel)
theorem dX3_move_87 : decode cX3_move 87 = .ok (.return_, 1) := dq_177 (by decide +kernel)
theorem dX3_startTrying_55 : decode cX3_startTrying 55 = .ok (.iinc 2 1, 3) := dq_132 (a := 2) (b := 1) (by decide +kernel) rfl (by decide +kernel)
theorem dX3_startTrying_58 : decode cX3_startTrying 58 = .ok (.goto (-35), 3) := dq_167 (a := 255) (b := 221) (by decide +kernel) (by decide +kernel)
theorem dX3_mostOfAll_27 : decode cX3_mostOfAll 27 = .ok (.ldc2_w 43, 3) := dq_20 (a := 0) (b := 43) (by decide +kernel) rfl
theorem dX3_mostOfAll_30 : decode cX3_mostOfAll 30 = .ok (.lstore_n 2, 1) := dq_65 (by decide +kernel)
theorem dX3_mostOfAll_31 : decode cX3_mostOfAll 31 = .ok (.aload_n 1, 1) := dq_43 (by decide +kernel)
theorem dX3_mostOfAll_32 : decode cX3_mostOfAll 32 = .ok (.invokevirtual 146, 3) := dq_182 (a := 0) (b := 146) (by decide +kernel) rfl
theorem dX3_mostOfAll_35 : decode cX3_mostOfAll 35 = .ok (.iconst 1, 1) := dq_4 (by decide +kernel)
theorem dX3_mostOfAll_36 : decode cX3_mostOfAll 36 = .ok (.iadd, 1) := dq_96 (by decide +kernel)
theorem dX3_mostOfAll_37 : decode cX3_mostOfAll 37 = .ok (.iconst 2, 1) := dq_5 (by decide +kernel)
theorem dX3_mostOfAll_38 : decode cX3_mostOfAll 38 = .ok (.idiv, 1) := dq_108 (by decide +kernel)
theorem dX3_mostOfAll_39 : decode cX3_mostOfAll 39 = .ok (.istore 4, 2) := dq_54 (a := 4) (by decide +kernel) rfl
theorem dX3_mostOfAll_41 : decode cX3_mostOfAll 41 = .ok (.iconst 0, 1) := dq_3 (by decide +kernel)
theorem dX3_mostOfAll_42 : decode cX3_mostOfAll 42 = .ok (.istore 5, 2) := dq_54 (a := 5) (by decide +kernel) rfl
theorem dX3_mostOfAll_44 : decode cX3_mostOfAll 44 = .ok (.iload 5, 2) := dq_21 (a := 5) (by decide +kernel) rfl
theorem dX3_mostOfAll_46 : decode cX3_mostOfAll 46 = .ok (.iload 4, 2) := dq_21 (a := 4) (by decide +kernel) rfl
theorem dX3_mostOfAll_48 : decode cX3_mostOfAll 48 = .ok (.if_icmp .ge 43, 3) := dq_162 (a := 0) (b := 43) (by decide +kernel) (by decide +kernel)
theorem dX3_mostOfAll_91 : decode cX3_mostOfAll 91 = .ok (.aload_n 0, 1) := dq_42 (by decide +kernel)
theorem dX3_mostOfAll_92 : decode cX3_mostOfAll 92 = .ok (.lload_n 2, 1) := dq_32 (by decide +kernel)
theorem dX3_mostOfAll_93 : decode cX3_mostOfAll 93 = .ok (.putfield 48, 3) := dq_181 (a := 0) (b := 48) (by decide +kernel) rfl
theorem dX3_mostOfAll_96 : decode cX3_mostOfAll 96 = .ok (.lload_n 2, 1) := dq_32 (by decide +kernel)
theorem dX3_mostOfAll_97 : decode cX3_mostOfAll 97 = .ok (.lreturn, 1) := dq_173 (by decide +kernel)
theorem dX3_mostOfAll_51 : decode cX3_mostOfAll 51 = .ok (.aload_n 0, 1) := dq_42 (by decide +kernel)
theorem dX3_mostOfAll_52 : decode cX3_mostOfAll 52 = .ok (.lload_n 2, 1) := dq_32 (by decide +kernel)
theorem dX3_mostOfAll_53 : decode cX3_mostOfAll 53 = .ok (.aload_n 1, 1) := dq_43 (by decide +kernel)
theorem dX3_mostOfAll_54 : decode cX3_mostOfAll 54 = .ok (.invokevirtual 149, 3) := dq_182 (a := 0) (b := 149) (by decide +kernel) rfl
theorem dX3_fallsTo_0 : decode cX3_fallsTo 0 = .ok (.iconst 2, 1) := dq_5 (by decide +kernel)
theorem dX3_fallsTo_1 : decode cX3_fallsTo 1 = .ok (.aload_n 3, 1) := dq_45 (by decide +kernel)
theorem dX3_fallsTo_2 : decode cX3_fallsTo 2 = .ok (.getfield 77, 3) := dq_180 (a := 0) (b := 77) (by decide +kernel) rfl
theorem dX3_fallsTo_5 : decode cX3_fallsTo 5 = .ok (.imul, 1) := dq_104 (by decide +kernel)
theorem dX3_fallsTo_6 : decode cX3_fallsTo 6 = .ok (.istore 4, 2) := dq_54 (a := 4) (by decide +kernel) rfl
theorem dX3_fallsTo_8 : decode cX3_fallsTo 8 = .ok (.iconst 0, 1) := dq_3 (by decide +kernel)
theorem dX3_fallsTo_9 : decode cX3_fallsTo 9 = .ok (.istore 5, 2) := dq_54 (a := 5) (by decide +kernel) rfl
theorem dX3_fallsTo_11 : decode cX3_fallsTo 11 = .ok (.iload 5, 2) := dq_21 (a := 5) (by decide +kernel) rfl
theorem dX3_fallsTo_13 : decode cX3_fallsTo 13 = .ok (.sipush 243, 3) := dq_17 (a := 0) (b := 243) (by decide +kernel) (by decide +kernel)
theorem dX3_fallsTo_16 : decode cX3_fallsTo 16 = .ok (.if_icmp .ge 74, 3) := dq_162 (a := 0) (b := 74) (by decide +kernel) (by decide +kernel)
theorem dX3_fallsTo_19 : decode cX3_fallsTo 19 = .ok (.aload_n 0, 1) := dq_42 (by decide +kernel)
theorem dX3_fallsTo_20 : decode cX3_fallsTo 20 = .ok (.getfield 35, 3) := dq_180 (a := 0) (b := 35) (by decide +kernel) rfl
theorem dX3_fallsTo_23 : decode cX3_fallsTo 23 = .ok (.lload_n 1, 1) := dq_31 (by decide +kernel)
theorem dX3_fallsTo_24 : decode cX3_fallsTo 24 = .ok (.lcmp, 1) := dq_148 (by decide +kernel)
theorem dX3_fallsTo_25 : decode cX3_fallsTo 25 = .ok (.ifCond .le 65, 3) := dq_158 (a := 0) (b := 65) (by decide +kernel) (by decide +kernel)
theorem dX3_fallsTo_90 : decode cX3_fallsTo 90 = .ok (.aload_n 0, 1) := dq_42 (by decide +kernel)
theorem dX3_fallsTo_91 : decode cX3_fallsTo 91 = .ok (.getfield 35, 3) := dq_180 (a := 0) (b := 35) (by decide +kernel) rfl
theorem dX3_fallsTo_94 : decode cX3_fallsTo 94 = .ok (.lload_n 1, 1) := dq_31 (by decide +kernel)
theorem dX3_fallsTo_95 : decode cX3_fallsTo 95 = .ok (.lcmp, 1) := dq_148 (by decide +kernel)
theorem dX3_fallsTo_96 : decode cX3_fallsTo 96 = .ok (.ifCond .gt 7, 3) := dq_157 (a := 0) (b := 7) (by decide +kernel) (by decide +kernel)
theorem dX3_fallsTo_103 : decode cX3_fallsTo 103 = .ok (.iconst 0, 1) := dq_3 (by decide +kernel)
theorem dX3_fallsTo_104 : decode cX3_fallsTo 104 = .ok (.ireturn, 1) := dq_172 (by decide +kernel)
theorem dX3_fallsTo_99 : decode cX3_fallsTo 99 = .ok (.iconst 1, 1) := dq_4 (by decide +kernel)
theorem dX3_fallsTo_100 : decode cX3_fallsTo 100 = .ok (.goto 4, 3) := dq_167 (a := 0) (b := 4) (by decide +kernel) (by decide +kernel)
theorem dX3_fallsTo_28 : decode cX3_fallsTo 28 = .ok (.aload_n 0, 1) := dq_42 (by decide +kernel)
theorem dX3_fallsTo_29 : decode cX3_fallsTo 29 = .ok (.getfield 35, 3) := dq_180 (a := 0) (b := 35) (by decide +kernel) rfl
theorem dX3_fallsTo_32 : decode cX3_fallsTo 32 = .ok (.lstore 6, 2) := dq_55 (a := 6) (by decide +kernel) rfl
theorem dX3_fallsTo_34 : decode cX3_fallsTo 34 = .ok (.iconst 0, 1) := dq_3 (by decide +kernel)
theorem dX3_fallsTo_35 : decode cX3_fallsTo 35 = .ok (.istore 8, 2) := dq_54 (a := 8) (by decide +kernel) rfl
theorem dX3_fallsTo_37 : decode cX3_fallsTo 37 = .ok (.iload 8, 2) := dq_21 (a := 8) (by decide +kernel) rfl
theorem dX3_fallsTo_39 : decode cX3_fallsTo 39 = .ok (.aload_n 0, 1) := dq_42 (by decide +kernel)
theorem dX3_fallsTo_40 : decode cX3_fallsTo 40 = .ok (.getfield 12, 3) := dq_180 (a := 0) (b := 12) (by decide +kernel) rfl
theorem dX3_fallsTo_43 : decode cX3_fallsTo 43 = .ok (.getfield 110, 3) := dq_180 (a := 0) (b := 110) (by decide +kernel) rfl
theorem dX3_fallsTo_46 : decode cX3_fallsTo 46 = .ok (.if_icmp .gt 26, 3) := dq_163 (a := 0) (b := 26) (by decide +kernel) (by decide +kernel)
theorem dX3_fallsTo_49 : decode cX3_fallsTo 49 = .ok (.aload_n 0, 1) := dq_42 (by decide +kernel)
theorem dX3_fallsTo_50 : decode cX3_fallsTo 50 = .ok (.getfield 35, 3) := dq_180 (a := 0) (b := 35) (by decide +kernel) rfl
theorem dX3_fallsTo_53 : decode cX3_fallsTo 53 = .ok (.lload_n 1, 1) := dq_31 (by decide +kernel)
theorem dX3_fallsTo_54 : decode cX3_fallsTo 54 = .ok (.lcmp, 1) := dq_148 (by decide +kernel)
theorem dX3_fallsTo_55 : decode cX3_fallsTo 55 = .ok (.ifCond .le 17, 3) := dq_158 (a := 0) (b := 17) (by decide +kernel) (by decide +kernel)
theorem dX3_fallsTo_72 : decode cX3_fallsTo 72 = .ok (.aload_n 0, 1) := dq_42 (by decide +kernel)
theorem dX3_fallsTo_73 : decode cX3_fallsTo 73 = .ok (.getfield 35, 3) := dq_180 (a := 0) (b := 35) (by decide +kernel) rfl
theorem dX3_fallsTo_76 : decode cX3_fallsTo 76 = .ok (.lload 6, 2) := dq_22 (a := 6) (by decide +kernel) rfl
theorem dX3_fallsTo_78 : decode cX3_fallsTo 78 = .ok (.lcmp, 1) := dq_148 (by decide +kernel)
theorem dX3_fallsTo_79 : decode cX3_fallsTo 79 = .ok (.ifCond .ne 5, 3) := dq_154 (a := 0) (b := 5) (by decide +kernel) (by decide +kernel)
theorem dX3_fallsTo_82 : decode cX3_fallsTo 82 = .ok (.iconst 0, 1) := dq_3 (by decide +kernel)
theorem dX3_fallsTo_83 : decode cX3_fallsTo 83 = .ok (.ireturn, 1) := dq_172 (by decide +kernel)
theorem dX3_fallsTo_58 : decode cX3_fallsTo 58 = .ok (.aload_n 0, 1) := dq_42 (by decide +kernel)
theorem dX3_fallsTo_59 : decode cX3_fallsTo 59 = .ok (.iload 8, 2) := dq_21 (a := 8) (by decide +kernel) rfl
theorem dX3_fallsTo_61 : decode cX3_fallsTo 61 = .ok (.iload 4, 2) := dq_21 (a := 4) (by decide +kernel) rfl
theorem dX3_fallsTo_63 : decode cX3_fallsTo 63 = .ok (.invokevirtual 180, 3) := dq_182 (a := 0) (b := 180) (by decide +kernel) rfl
theorem dX3_better_0 : decode cX3_better 0 = .ok (.aload_n 0, 1) := dq_42 (by decide +kernel)
theorem dX3_better_1 : decode cX3_better 1 = .ok (.getfield 31, 3) := dq_180 (a := 0) (b := 31) (by decide +kernel) rfl
theorem dX3_better_4 : decode cX3_better 4 = .ok (.iload_n 1, 1) := dq_27 (by decide +kernel)
theorem dX3_better_5 : decode cX3_better 5 = .ok (.laload, 1) := dq_47 (by decide +kernel)
theorem dX3_better_6 : decode cX3_better 6 = .ok (.lconst 0, 1) := dq_9 (by decide +kernel)
theorem dX3_better_7 : decode cX3_better 7 = .ok (.lcmp, 1) := dq_148 (by decide +kernel)
theorem dX3_better_8 : decode cX3_better 8 = .ok (.ifCond .le 7, 3) := dq_158 (a := 0) (b := 7) (by decide +kernel) (by decide +kernel)
theorem dX3_better_15 : decode cX3_better 15 = .ok (.iconst 1, 1) := dq_4 (by decide +kernel)
theorem dX3_better_16 : decode cX3_better 16 = .ok (.istore_n 3, 1) := dq_62 (by decide +kernel)
theorem dX3_better_17 : decode cX3_better 17 = .ok (.aload_n 0, 1) := dq_42 (by decide +kernel)
theorem dX3_better_18 : decode cX3_better 18 = .ok (.getfield 28, 3) := dq_180 (a := 0) (b := 28) (by decide +kernel) rfl
theorem dX3_better_21 : decode cX3_better 21 = .ok (.iload_n 1, 1) := dq_27 (by decide +kernel)
theorem dX3_better_22 : decode cX3_better 22 = .ok (.iaload, 1) := dq_46 (by decide +kernel)
theorem dX3_better_23 : decode cX3_better 23 = .ok (.iload_n 3, 1) := dq_29 (by decide +kernel)
theorem dX3_better_24 : decode cX3_better 24 = .ok (.iadd, 1) := dq_96 (by decide +kernel)
theorem dX3_better_25 : decode cX3_better 25 = .ok (.iconst (-1), 1) := dq_2 (by decide +kernel)
theorem dX3_better_26 : decode cX3_better 26 = .ok (.if_icmp .lt 15, 3) := dq_161 (a := 0) (b := 15) (by decide +kernel) (by decide +kernel)
theorem dX3_better_41 : decode cX3_better 41 = .ok (.return_, 1) := dq_177 (by decide +kernel)
theorem dX3_better_29 : decode cX3_better 29 = .ok (.aload_n 0, 1) := dq_42 (by decide +kernel)
theorem dX3_better_30 : decode cX3_better 30 = .ok (.getfield 28, 3) := dq_180 (a := 0) (b := 28) (by decide +kernel) rfl
theorem dX3_better_33 : decode cX3_better 33 = .ok (.iload_n 1, 1) := dq_27 (by decide +kernel)
theorem dX3_better_34 : decode cX3_better 34 = .ok (.iaload, 1) := dq_46 (by decide +kernel)
theorem dX3_better_35 : decode cX3_better 35 = .ok (.iload_n 3, 1) := dq_29 (by decide +kernel)
theorem dX3_better_36 : decode cX3_better 36 = .ok (.iadd, 1) := dq_96 (by decide +kernel)
theorem dX3_better_37 : decode cX3_better 37 = .ok (.iconst 1, 1) := dq_4 (by decide +kernel)
theorem dX3_better_38 : decode cX3_better 38 = .ok (.if_icmp .le 4, 3) := dq_164 (a := 0) (b := 4) (by decide +kernel) (by decide +kernel)
theorem dX3_better_42 : decode cX3_better 42 = .ok (.iload_n 3, 1) := dq_29 (by decide +kernel)
theorem dX3_better_43 : decode cX3_better 43 = .ok (.i2l, 1) := dq_133 (by decide +kernel)
theorem dX3_better_44 : decode cX3_better 44 = .ok (.iload_n 2, 1) := dq_28 (by decide +kernel)
theorem dX3_better_45 : decode cX3_better 45 = .ok (.i2l, 1) := dq_133 (by decide +kernel)
theorem dX3_better_46 : decode cX3_better 46 = .ok (.lmul, 1) := dq_105 (by decide +kernel)
theorem dX3_better_47 : decode cX3_better 47 = .ok (.lstore 4, 2) := dq_55 (a := 4) (by decide +kernel) rfl
theorem dX3_better_49 : decode cX3_better 49 = .ok (.lload 4, 2) := dq_22 (a := 4) (by decide +kernel) rfl
theorem dX3_better_51 : decode cX3_better 51 = .ok (.ldc2_w 175, 3) := dq_20 (a := 0) (b := 175) (by decide +kernel) rfl
theorem dX3_better_54 : decode cX3_better 54 = .ok (.aload_n 0, 1) := dq_42 (by decide +kernel)
theorem dX3_better_55 : decode cX3_better 55 = .ok (.getfield 31, 3) := dq_180 (a := 0) (b := 31) (by decide +kernel) rfl
theorem dX3_better_58 : decode cX3_better 58 = .ok (.iload_n 1, 1) := dq_27 (by decide +kernel)
theorem dX3_better_59 : decode cX3_better 59 = .ok (.laload, 1) := dq_47 (by decide +kernel)
theorem dX3_better_60 : decode cX3_better 60 = .ok (.lmul, 1) := dq_105 (by decide +kernel)
theorem dX3_better_61 : decode cX3_better 61 = .ok (.lload 4, 2) := dq_22 (a := 4) (by decide +kernel) rfl
theorem dX3_better_63 : decode cX3_better 63 = .ok (.aload_n 0, 1) := dq_42 (by decide +kernel)
theorem dX3_better_64 : decode cX3_better 64 = .ok (.getfield 12, 3) := dq_180 (a := 0) (b := 12) (by decide +kernel) rfl
theorem dX3_better_67 : decode cX3_better 67 = .ok (.getfield 177, 3) := dq_180 (a := 0) (b := 177) (by decide +kernel) rfl
theorem dX3_better_70 : decode cX3_better 70 = .ok (.iload_n 1, 1) := dq_27 (by decide +kernel)
theorem dX3_better_71 : decode cX3_better 71 = .ok (.iconst 5, 1) := dq_8 (by decide +kernel)
theorem dX3_better_72 : decode cX3_better 72 = .ok (.imul, 1) := dq_104 (by decide +kernel)
theorem dX3_better_73 : decode cX3_better 73 = .ok (.iload_n 1, 1) := dq_27 (by decide +kernel)
theorem dX3_better_74 : decode cX3_better 74 = .ok (.iadd, 1) := dq_96 (by decide +kernel)
theorem dX3_better_75 : decode cX3_better 75 = .ok (.laload, 1) := dq_47 (by decide +kernel)
theorem dX3_better_76 : decode cX3_better 76 = .ok (.lmul, 1) := dq_105 (by decide +kernel)
theorem dX3_better_77 : decode cX3_better 77 = .ok (.ladd, 1) := dq_97 (by decide +kernel)
theorem dX3_better_78 : decode cX3_better 78 = .ok (.lmul, 1) := dq_105 (by decide +kernel)
theorem dX3_better_79 : decode cX3_better 79 = .ok (.lconst 0, 1) := dq_9 (by decide +kernel)
theorem dX3_better_80 : decode cX3_better 80 = .ok (.lcmp, 1) := dq_148 (by decide +kernel)
theorem dX3_better_81 : decode cX3_better 81 = .ok (.ifCond .ge 20, 3) := dq_156 (a := 0) (b := 20) (by decide +kernel) (by decide +kernel)
theorem dX3_better_101 : decode cX3_better 101 = .ok (.return_, 1) := dq_177 (by decide +kernel)
theorem dX3_better_84 : decode cX3_better 84 = .ok (.aload_n 0, 1) := dq_42 (by decide +kernel)
theorem dX3_better_85 : decode cX3_better 85 = .ok (.getfield 28, 3) := dq_180 (a := 0) (b := 28) (by decide +kernel) rfl
theorem dX3_better_88 : decode cX3_better 88 = .ok (.iload_n 1, 1) := dq_27 (by decide +kernel)
theorem dX3_better_89 : decode cX3_better 89 = .ok (.dup2, 1) := dq_92 (by decide +kernel)
theorem dX3_better_90 : decode cX3_better 90 = .ok (.iaload, 1) := dq_46 (by decide +kernel)
theorem dX3_better_91 : decode cX3_better 91 = .ok (.iload_n 3, 1) := dq_29 (by decide +kernel)
theorem dX3_better_92 : decode cX3_better 92 = .ok (.iadd, 1) := dq_96 (by decide +kernel)
theorem dX3_better_93 : decode cX3_better 93 = .ok (.iastore, 1) := dq_79 (by decide +kernel)
theorem dX3_better_94 : decode cX3_better 94 = .ok (.aload_n 0, 1) := dq_42 (by decide +kernel)
theorem dX3_better_95 : decode cX3_better 95 = .ok (.iload_n 1, 1) := dq_27 (by decide +kernel)
theorem dX3_better_96 : decode cX3_better 96 = .ok (.lload 4, 2) := dq_22 (a := 4) (by decide +kernel) rfl
theorem dX3_better_98 : decode cX3_better 98 = .ok (.invokevirtual 171, 3) := dq_182 (a := 0) (b := 171) (by decide +kernel) rfl
theorem dX3_better_11 : decode cX3_better 11 = .ok (.iconst (-1), 1) := dq_2 (by decide +kernel)
theorem dX3_better_12 : decode cX3_better 12 = .ok (.goto 4, 3) := dq_167 (a := 0) (b := 4) (by decide +kernel) (by decide +kernel)
theorem dX3_fallsTo_66 : decode cX3_fallsTo 66 = .ok (.iinc 8 1, 3) := dq_132 (a := 8) (b := 1) (by decide +kernel) rfl (by decide +kernel)
theorem dX3_fallsTo_69 : decode cX3_fallsTo 69 = .ok (.goto (-32), 3) := dq_167 (a := 255) (b := 224) (by decide +kernel) (by decide +kernel)
theorem dX3_fallsTo_84 : decode cX3_fallsTo 84 = .ok (.iinc 5 1, 3) := dq_132 (a := 5) (b := 1) (by decide +kernel) rfl (by decide +kernel)
theorem dX3_fallsTo_87 : decode cX3_fallsTo 87 = .ok (.goto (-76), 3) := dq_167 (a := 255) (b := 180) (by decide +kernel) (by decide +kernel)
theorem dX3_mostOfAll_57 : decode cX3_mostOfAll 57 = .ok (.ifCond .ne 23, 3) := dq_154 (a := 0) (b := 23) (by decide +kernel) (by decide +kernel)
theorem dX3_mostOfAll_80 : decode cX3_mostOfAll 80 = .ok (.aload_n 0, 1) := dq_42 (by decide +kernel)
theorem dX3_mostOfAll_81 : decode cX3_mostOfAll 81 = .ok (.aload_n 1, 1) := dq_43 (by decide +kernel)
theorem dX3_mostOfAll_82 : decode cX3_mostOfAll 82 = .ok (.invokevirtual 159, 3) := dq_182 (a := 0) (b := 159) (by decide +kernel) rfl
theorem dX3_nextLetters_0 : decode cX3_nextLetters 0 = .ok (.aload_n 0, 1) := dq_42 (by decide +kernel)
theorem dX3_nextLetters_1 : decode cX3_nextLetters 1 = .ok (.getfield 12, 3) := dq_180 (a := 0) (b := 12) (by decide +kernel) rfl
theorem dX3_nextLetters_4 : decode cX3_nextLetters 4 = .ok (.getfield 110, 3) := dq_180 (a := 0) (b := 110) (by decide +kernel) rfl
theorem dX3_nextLetters_7 : decode cX3_nextLetters 7 = .ok (.istore_n 2, 1) := dq_61 (by decide +kernel)
theorem dX3_nextLetters_8 : decode cX3_nextLetters 8 = .ok (.iload_n 2, 1) := dq_28 (by decide +kernel)
theorem dX3_nextLetters_9 : decode cX3_nextLetters 9 = .ok (.ifCond .le 50, 3) := dq_158 (a := 0) (b := 50) (by decide +kernel) (by decide +kernel)
theorem dX3_nextLetters_59 : decode cX3_nextLetters 59 = .ok (.aload_n 0, 1) := dq_42 (by decide +kernel)
theorem dX3_nextLetters_60 : decode cX3_nextLetters 60 = .ok (.getfield 25, 3) := dq_180 (a := 0) (b := 25) (by decide +kernel) rfl
theorem dX3_nextLetters_63 : decode cX3_nextLetters 63 = .ok (.iload_n 2, 1) := dq_28 (by decide +kernel)
theorem dX3_nextLetters_64 : decode cX3_nextLetters 64 = .ok (.dup2, 1) := dq_92 (by decide +kernel)
theorem dX3_nextLetters_65 : decode cX3_nextLetters 65 = .ok (.iaload, 1) := dq_46 (by decide +kernel)
theorem dX3_nextLetters_66 : decode cX3_nextLetters 66 = .ok (.iconst 2, 1) := dq_5 (by decide +kernel)
theorem dX3_nextLetters_67 : decode cX3_nextLetters 67 = .ok (.iadd, 1) := dq_96 (by decide +kernel)
theorem dX3_nextLetters_68 : decode cX3_nextLetters 68 = .ok (.iastore, 1) := dq_79 (by decide +kernel)
theorem dX3_nextLetters_69 : decode cX3_nextLetters 69 = .ok (.aload_n 0, 1) := dq_42 (by decide +kernel)
theorem dX3_nextLetters_70 : decode cX3_nextLetters 70 = .ok (.iload_n 2, 1) := dq_28 (by decide +kernel)
theorem dX3_nextLetters_71 : decode cX3_nextLetters 71 = .ok (.ldc2_w 175, 3) := dq_20 (a := 0) (b := 175) (by decide +kernel) rfl
theorem dX3_nextLetters_74 : decode cX3_nextLetters 74 = .ok (.invokevirtual 171, 3) := dq_182 (a := 0) (b := 171) (by decide +kernel) rfl
theorem dX3_nextLetters_77 : decode cX3_nextLetters 77 = .ok (.return_, 1) := dq_177 (by decide +kernel)
theorem dX3_nextLetters_12 : decode cX3_nextLetters 12 = .ok (.aload_n 0, 1) := dq_42 (by decide +kernel)
theorem dX3_nextLetters_13 : decode cX3_nextLetters 13 = .ok (.getfield 25, 3) := dq_180 (a := 0) (b := 25) (by decide +kernel) rfl
theorem dX3_nextLetters_16 : decode cX3_nextLetters 16 = .ok (.iload_n 2, 1) := dq_28 (by decide +kernel)
theorem dX3_nextLetters_17 : decode cX3_nextLetters 17 = .ok (.iaload, 1) := dq_46 (by decide +kernel)
theorem dX3_nextLetters_18 : decode cX3_nextLetters 18 = .ok (.aload_n 1, 1) := dq_43 (by decide +kernel)
theorem dX3_nextLetters_19 : decode cX3_nextLetters 19 = .ok (.getfield 77, 3) := dq_180 (a := 0) (b := 77) (by decide +kernel) rfl
theorem dX3_nextLetters_22 : decode cX3_nextLetters 22 = .ok (.iconst 1, 1) := dq_4 (by decide +kernel)
theorem dX3_nextLetters_23 : decode cX3_nextLetters 23 = .ok (.isub, 1) := dq_100 (by decide +kernel)
theorem dX3_nextLetters_24 : decode cX3_nextLetters 24 = .ok (.if_icmp .ne 35, 3) := dq_160 (a := 0) (b := 35) (by decide +kernel) (by decide +kernel)
theorem dX3_nextLetters_27 : decode cX3_nextLetters 27 = .ok (.aload_n 0, 1) := dq_42 (by decide +kernel)
theorem dX3_nextLetters_28 : decode cX3_nextLetters 28 = .ok (.getfield 25, 3) := dq_180 (a := 0) (b := 25) (by decide +kernel) rfl
theorem dX3_nextLetters_31 : decode cX3_nextLetters 31 = .ok (.iload_n 2, 1) := dq_28 (by decide +kernel)
theorem dX3_nextLetters_32 : decode cX3_nextLetters 32 = .ok (.iconst 1, 1) := dq_4 (by decide +kernel)
theorem dX3_nextLetters_33 : decode cX3_nextLetters 33 = .ok (.aload_n 1, 1) := dq_43 (by decide +kernel)
theorem dX3_nextLetters_34 : decode cX3_nextLetters 34 = .ok (.getfield 77, 3) := dq_180 (a := 0) (b := 77) (by decide +kernel) rfl
theorem dX3_nextLetters_37 : decode cX3_nextLetters 37 = .ok (.isub, 1) := dq_100 (by decide +kernel)
theorem dX3_nextLetters_38 : decode cX3_nextLetters 38 = .ok (.iastore, 1) := dq_79 (by decide +kernel)
theorem dX3_nextLetters_39 : decode cX3_nextLetters 39 = .ok (.aload_n 0, 1) := dq_42 (by decide +kernel)
theorem dX3_nextLetters_40 : decode cX3_nextLetters 40 = .ok (.iload_n 2, 1) := dq_28 (by decide +kernel)
theorem dX3_nextLetters_41 : decode cX3_nextLetters 41 = .ok (.iconst 2, 1) := dq_5 (by decide +kernel)
theorem dX3_nextLetters_42 : decode cX3_nextLetters 42 = .ok (.aload_n 0, 1) := dq_42 (by decide +kernel)
theorem dX3_nextLetters_43 : decode cX3_nextLetters 43 = .ok (.getfield 25, 3) := dq_180 (a := 0) (b := 25) (by decide +kernel) rfl
theorem dX3_nextLetters_46 : decode cX3_nextLetters 46 = .ok (.iload_n 2, 1) := dq_28 (by decide +kernel)
theorem dX3_nextLetters_47 : decode cX3_nextLetters 47 = .ok (.iaload, 1) := dq_46 (by decide +kernel)
theorem dX3_nextLetters_48 : decode cX3_nextLetters 48 = .ok (.imul, 1) := dq_104 (by decide +kernel)
theorem dX3_nextLetters_49 : decode cX3_nextLetters 49 = .ok (.i2l, 1) := dq_133 (by decide +kernel)
theorem dX3_nextLetters_50 : decode cX3_nextLetters 50 = .ok (.invokevirtual 171, 3) := dq_182 (a := 0) (b := 171) (by decide +kernel) rfl
theorem dX3_nextLetters_53 : decode cX3_nextLetters 53 = .ok (.iinc 2 (-1), 3) := dq_132 (a := 2) (b := 255) (by decide +kernel) rfl (by decide +kernel)
theorem dX3_nextLetters_56 : decode cX3_nextLetters 56 = .ok (.goto (-48), 3) := dq_167 (a := 255) (b := 208) (by decide +kernel) (by decide +kernel)
theorem dX3_mostOfAll_85 : decode cX3_mostOfAll 85 = .ok (.iinc 5 1, 3) := dq_132 (a := 5) (b := 1) (by decide +kernel) rfl (by decide +kernel)
theorem dX3_mostOfAll_88 : decode cX3_mostOfAll 88 = .ok (.goto (-44), 3) := dq_167 (a := 255) (b := 212) (by decide +kernel) (by decide +kernel)
theorem dX3_mostOfAll_60 : decode cX3_mostOfAll 60 = .ok (.lload_n 2, 1) := dq_32 (by decide +kernel)
theorem dX3_mostOfAll_61 : decode cX3_mostOfAll 61 = .ok (.aload_n 0, 1) := dq_42 (by decide +kernel)
theorem dX3_mostOfAll_62 : decode cX3_mostOfAll 62 = .ok (.aload_n 1, 1) := dq_43 (by decide +kernel)
theorem dX3_mostOfAll_63 : decode cX3_mostOfAll 63 = .ok (.aload_n 0, 1) := dq_42 (by decide +kernel)
theorem dX3_mostOfAll_64 : decode cX3_mostOfAll 64 = .ok (.getfield 25, 3) := dq_180 (a := 0) (b := 25) (by decide +kernel) rfl
theorem dX3_mostOfAll_67 : decode cX3_mostOfAll 67 = .ok (.lload_n 2, 1) := dq_32 (by decide +kernel)
theorem dX3_mostOfAll_68 : decode cX3_mostOfAll 68 = .ok (.invokevirtual 55, 3) := dq_182 (a := 0) (b := 55) (by decide +kernel) rfl
theorem dX3_leastFor_0 : decode cX3_leastFor 0 = .ok (.iconst 2, 1) := dq_5 (by decide +kernel)
theorem dX3_leastFor_1 : decode cX3_leastFor 1 = .ok (.aload_n 1, 1) := dq_43 (by decide +kernel)
theorem dX3_leastFor_2 : decode cX3_leastFor 2 = .ok (.getfield 77, 3) := dq_180 (a := 0) (b := 77) (by decide +kernel) rfl
theorem dX3_leastFor_5 : decode cX3_leastFor 5 = .ok (.imul, 1) := dq_104 (by decide +kernel)
theorem dX3_leastFor_6 : decode cX3_leastFor 6 = .ok (.istore 5, 2) := dq_54 (a := 5) (by decide +kernel) rfl
theorem dX3_leastFor_8 : decode cX3_leastFor 8 = .ok (.iconst 0, 1) := dq_3 (by decide +kernel)
theorem dX3_leastFor_9 : decode cX3_leastFor 9 = .ok (.istore 6, 2) := dq_54 (a := 6) (by decide +kernel) rfl
theorem dX3_leastFor_11 : decode cX3_leastFor 11 = .ok (.iload 6, 2) := dq_21 (a := 6) (by decide +kernel) rfl
theorem dX3_leastFor_13 : decode cX3_leastFor 13 = .ok (.aload_n 1, 1) := dq_43 (by decide +kernel)
theorem dX3_leastFor_14 : decode cX3_leastFor 14 = .ok (.getfield 79, 3) := dq_180 (a := 0) (b := 79) (by decide +kernel) rfl
theorem dX3_leastFor_17 : decode cX3_leastFor 17 = .ok (.if_icmp .ge 28, 3) := dq_162 (a := 0) (b := 28) (by decide +kernel) (by decide +kernel)
theorem dX3_leastFor_45 : decode cX3_leastFor 45 = .ok (.aload_n 0, 1) := dq_42 (by decide +kernel)
theorem dX3_leastFor_46 : decode cX3_leastFor 46 = .ok (.getfield 12, 3) := dq_180 (a := 0) (b := 12) (by decide +kernel) rfl
theorem dX3_leastFor_49 : decode cX3_leastFor 49 = .ok (.invokevirtual 86, 3) := dq_182 (a := 0) (b := 86) (by decide +kernel) rfl
theorem dX3_leastFor_52 : decode cX3_leastFor 52 = .ok (.ldc2_w 89, 3) := dq_20 (a := 0) (b := 89) (by decide +kernel) rfl
theorem dX3_leastFor_55 : decode cX3_leastFor 55 = .ok (.lstore 6, 2) := dq_55 (a := 6) (by decide +kernel) rfl
theorem dX3_leastFor_57 : decode cX3_leastFor 57 = .ok (.aload_n 0, 1) := dq_42 (by decide +kernel)
theorem dX3_leastFor_58 : decode cX3_leastFor 58 = .ok (.getfield 12, 3) := dq_180 (a := 0) (b := 12) (by decide +kernel) rfl
theorem dX3_leastFor_61 : decode cX3_leastFor 61 = .ok (.invokevirtual 91, 3) := dq_182 (a := 0) (b := 91) (by decide +kernel) rfl
theorem dX3_leastFor_64 : decode cX3_leastFor 64 = .ok (.istore 8, 2) := dq_54 (a := 8) (by decide +kernel) rfl
theorem dX3_leastFor_66 : decode cX3_leastFor 66 = .ok (.iconst 0, 1) := dq_3 (by decide +kernel)
theorem dX3_leastFor_67 : decode cX3_leastFor 67 = .ok (.istore 9, 2) := dq_54 (a := 9) (by decide +kernel) rfl
theorem dX3_leastFor_69 : decode cX3_leastFor 69 = .ok (.iload 9, 2) := dq_21 (a := 9) (by decide +kernel) rfl
theorem dX3_leastFor_71 : decode cX3_leastFor 71 = .ok (.iload 8, 2) := dq_21 (a := 8) (by decide +kernel) rfl
theorem dX3_leastFor_73 : decode cX3_leastFor 73 = .ok (.if_icmp .ge 62, 3) := dq_162 (a := 0) (b := 62) (by decide +kernel) (by decide +kernel)
theorem dX3_leastFor_135 : decode cX3_leastFor 135 = .ok (.lload 6, 2) := dq_22 (a := 6) (by decide +kernel) rfl
theorem dX3_leastFor_137 : decode cX3_leastFor 137 = .ok (.lreturn, 1) := dq_173 (by decide +kernel)
theorem dX3_leastFor_76 : decode cX3_leastFor 76 = .ok (.lload 6, 2) := dq_22 (a := 6) (by decide +kernel) rfl
theorem dX3_leastFor_78 : decode cX3_leastFor 78 = .ok (.lload_n 3, 1) := dq_33 (by decide +kernel)
theorem dX3_leastFor_79 : decode cX3_leastFor 79 = .ok (.lcmp, 1) := dq_148 (by decide +kernel)
theorem dX3_leastFor_80 : decode cX3_leastFor 80 = .ok (.ifCond .le 55, 3) := dq_158 (a := 0) (b := 55) (by decide +kernel) (by decide +kernel)
theorem dX3_leastFor_83 : decode cX3_leastFor 83 = .ok (.aload_n 0, 1) := dq_42 (by decide +kernel)
theorem dX3_leastFor_84 : decode cX3_leastFor 84 = .ok (.getfield 12, 3) := dq_180 (a := 0) (b := 12) (by decide +kernel) rfl
theorem dX3_leastFor_87 : decode cX3_leastFor 87 = .ok (.iconst 3, 1) := dq_6 (by decide +kernel)
theorem dX3_leastFor_88 : decode cX3_leastFor 88 = .ok (.invokevirtual 95, 3) := dq_182 (a := 0) (b := 95) (by decide +kernel) rfl
theorem dX3_leastFor_91 : decode cX3_leastFor 91 = .ok (.istore 10, 2) := dq_54 (a := 10) (by decide +kernel) rfl
theorem dX3_leastFor_93 : decode cX3_leastFor 93 = .ok (.aload_n 0, 1) := dq_42 (by decide +kernel)
theorem dX3_leastFor_94 : decode cX3_leastFor 94 = .ok (.getfield 12, 3) := dq_180 (a := 0) (b := 12) (by decide +kernel) rfl
theorem dX3_leastFor_97 : decode cX3_leastFor 97 = .ok (.iload 10, 2) := dq_21 (a := 10) (by decide +kernel) rfl
theorem dX3_leastFor_99 : decode cX3_leastFor 99 = .ok (.invokevirtual 99, 3) := dq_182 (a := 0) (b := 99) (by decide +kernel) rfl
theorem dX3_leastFor_102 : decode cX3_leastFor 102 = .ok (.lstore 11, 2) := dq_55 (a := 11) (by decide +kernel) rfl
theorem dX3_leastFor_104 : decode cX3_leastFor 104 = .ok (.lload 11, 2) := dq_22 (a := 11) (by decide +kernel) rfl
theorem dX3_leastFor_106 : decode cX3_leastFor 106 = .ok (.lload 6, 2) := dq_22 (a := 6) (by decide +kernel) rfl
theorem dX3_leastFor_108 : decode cX3_leastFor 108 = .ok (.lcmp, 1) := dq_148 (by decide +kernel)
theorem dX3_leastFor_109 : decode cX3_leastFor 109 = .ok (.ifCond .ge 13, 3) := dq_156 (a := 0) (b := 13) (by decide +kernel) (by decide +kernel)
theorem dX3_leastFor_122 : decode cX3_leastFor 122 = .ok (.aload_n 0, 1) := dq_42 (by decide +kernel)
theorem dX3_leastFor_123 : decode cX3_leastFor 123 = .ok (.getfield 12, 3) := dq_180 (a := 0) (b := 12) (by decide +kernel) rfl
theorem dX3_leastFor_126 : decode cX3_leastFor 126 = .ok (.invokevirtual 107, 3) := dq_182 (a := 0) (b := 107) (by decide +kernel) rfl
theorem dX3_leastFor_129 : decode cX3_leastFor 129 = .ok (.iinc 9 1, 3) := dq_132 (a := 9) (b := 1) (by decide +kernel) rfl (by decide +kernel)
theorem dX3_leastFor_132 : decode cX3_leastFor 132 = .ok (.goto (-63), 3) := dq_167 (a := 255) (b := 193) (by decide +kernel) (by decide +kernel)
theorem dX3_leastFor_112 : decode cX3_leastFor 112 = .ok (.lload 11, 2) := dq_22 (a := 11) (by decide +kernel) rfl
theorem dX3_leastFor_114 : decode cX3_leastFor 114 = .ok (.lstore 6, 2) := dq_55 (a := 6) (by decide +kernel) rfl
theorem dX3_leastFor_116 : decode cX3_leastFor 116 = .ok (.aload_n 0, 1) := dq_42 (by decide +kernel)
theorem dX3_leastFor_117 : decode cX3_leastFor 117 = .ok (.iload 10, 2) := dq_21 (a := 10) (by decide +kernel) rfl
theorem dX3_leastFor_119 : decode cX3_leastFor 119 = .ok (.invokevirtual 103, 3) := dq_182 (a := 0) (b := 103) (by decide +kernel) rfl
theorem dX3_keepFound_0 : decode cX3_keepFound 0 = .ok (.iconst 0, 1) := dq_3 (by decide +kernel)
theorem dX3_keepFound_1 : decode cX3_keepFound 1 = .ok (.istore_n 2, 1) := dq_61 (by decide +kernel)
theorem dX3_keepFound_2 : decode cX3_keepFound 2 = .ok (.iload_n 2, 1) := dq_28 (by decide +kernel)
theorem dX3_keepFound_3 : decode cX3_keepFound 3 = .ok (.aload_n 0, 1) := dq_42 (by decide +kernel)
theorem dX3_keepFound_4 : decode cX3_keepFound 4 = .ok (.getfield 12, 3) := dq_180 (a := 0) (b := 12) (by decide +kernel) rfl
theorem dX3_keepFound_7 : decode cX3_keepFound 7 = .ok (.getfield 110, 3) := dq_180 (a := 0) (b := 110) (by decide +kernel) rfl
theorem dX3_keepFound_10 : decode cX3_keepFound 10 = .ok (.if_icmp .ge 26, 3) := dq_162 (a := 0) (b := 26) (by decide +kernel) (by decide +kernel)
theorem dX3_keepFound_36 : decode cX3_keepFound 36 = .ok (.aload_n 0, 1) := dq_42 (by decide +kernel)
theorem dX3_keepFound_37 : decode cX3_keepFound 37 = .ok (.getfield 22, 3) := dq_180 (a := 0) (b := 22) (by decide +kernel) rfl
theorem dX3_keepFound_40 : decode cX3_keepFound 40 = .ok (.aload_n 0, 1) := dq_42 (by decide +kernel)
theorem dX3_keepFound_41 : decode cX3_keepFound 41 = .ok (.getfield 12, 3) := dq_180 (a := 0) (b := 12) (by decide +kernel) rfl
theorem dX3_keepFound_44 : decode cX3_keepFound 44 = .ok (.getfield 110, 3) := dq_180 (a := 0) (b := 110) (by decide +kernel) rfl
theorem dX3_keepFound_47 : decode cX3_keepFound 47 = .ok (.iload_n 1, 1) := dq_27 (by decide +kernel)
theorem dX3_keepFound_48 : decode cX3_keepFound 48 = .ok (.iconst 1, 1) := dq_4 (by decide +kernel)
theorem dX3_keepFound_49 : decode cX3_keepFound 49 = .ok (.isub, 1) := dq_100 (by decide +kernel)
theorem dX3_keepFound_50 : decode cX3_keepFound 50 = .ok (.iastore, 1) := dq_79 (by decide +kernel)
theorem dX3_keepFound_51 : decode cX3_keepFound 51 = .ok (.return_, 1) := dq_177 (by decide +kernel)
theorem dX3_keepFound_13 : decode cX3_keepFound 13 = .ok (.aload_n 0, 1) := dq_42 (by decide +kernel)
theorem dX3_keepFound_14 : decode cX3_keepFound 14 = .ok (.getfield 22, 3) := dq_180 (a := 0) (b := 22) (by decide +kernel) rfl
theorem dX3_keepFound_17 : decode cX3_keepFound 17 = .ok (.iload_n 2, 1) := dq_28 (by decide +kernel)
theorem dX3_keepFound_18 : decode cX3_keepFound 18 = .ok (.aload_n 0, 1) := dq_42 (by decide +kernel)
theorem dX3_keepFound_19 : decode cX3_keepFound 19 = .ok (.getfield 12, 3) := dq_180 (a := 0) (b := 12) (by decide +kernel) rfl
theorem dX3_keepFound_22 : decode cX3_keepFound 22 = .ok (.getfield 113, 3) := dq_180 (a := 0) (b := 113) (by decide +kernel) rfl
theorem dX3_keepFound_25 : decode cX3_keepFound 25 = .ok (.iload_n 2, 1) := dq_28 (by decide +kernel)
theorem dX3_keepFound_26 : decode cX3_keepFound 26 = .ok (.iaload, 1) := dq_46 (by decide +kernel)
theorem dX3_keepFound_27 : decode cX3_keepFound 27 = .ok (.iconst 1, 1) := dq_4 (by decide +kernel)
theorem dX3_keepFound_28 : decode cX3_keepFound 28 = .ok (.isub, 1) := dq_100 (by decide +kernel)
theorem dX3_keepFound_29 : decode cX3_keepFound 29 = .ok (.iastore, 1) := dq_79 (by decide +kernel)
theorem dX3_keepFound_30 : decode cX3_keepFound 30 = .ok (.iinc 2 1, 3) := dq_132 (a := 2) (b := 1) (by decide +kernel) rfl (by decide +kernel)
theorem dX3_keepFound_33 : decode cX3_keepFound 33 = .ok (.goto (-31), 3) := dq_167 (a := 255) (b := 225) (by decide +kernel) (by decide +kernel)
theorem dX3_leastFor_20 : decode cX3_leastFor 20 = .ok (.aload_n 0, 1) := dq_42 (by decide +kernel)
theorem dX3_leastFor_21 : decode cX3_leastFor 21 = .ok (.getfield 12, 3) := dq_180 (a := 0) (b := 12) (by decide +kernel) rfl
theorem dX3_leastFor_24 : decode cX3_leastFor 24 = .ok (.iload 6, 2) := dq_21 (a := 6) (by decide +kernel) rfl
theorem dX3_leastFor_26 : decode cX3_leastFor 26 = .ok (.aload_n 2, 1) := dq_44 (by decide +kernel)
theorem dX3_leastFor_27 : decode cX3_leastFor 27 = .ok (.iload 6, 2) := dq_21 (a := 6) (by decide +kernel) rfl
theorem dX3_leastFor_29 : decode cX3_leastFor 29 = .ok (.iaload, 1) := dq_46 (by decide +kernel)
theorem dX3_leastFor_30 : decode cX3_leastFor 30 = .ok (.iload 5, 2) := dq_21 (a := 5) (by decide +kernel) rfl
theorem dX3_leastFor_32 : decode cX3_leastFor 32 = .ok (.isub, 1) := dq_100 (by decide +kernel)
theorem dX3_leastFor_33 : decode cX3_leastFor 33 = .ok (.iload 5, 2) := dq_21 (a := 5) (by decide +kernel) rfl
theorem dX3_leastFor_35 : decode cX3_leastFor 35 = .ok (.iconst 3, 1) := dq_6 (by decide +kernel)
theorem dX3_leastFor_36 : decode cX3_leastFor 36 = .ok (.invokevirtual 82, 3) := dq_182 (a := 0) (b := 82) (by decide +kernel) rfl
theorem dX3_leastFor_39 : decode cX3_leastFor 39 = .ok (.iinc 6 1, 3) := dq_132 (a := 6) (b := 1) (by decide +kernel) rfl (by decide +kernel)
theorem dX3_leastFor_42 : decode cX3_leastFor 42 = .ok (.goto (-31), 3) := dq_167 (a := 255) (b := 225) (by decide +kernel) (by decide +kernel)
theorem dX3_mostOfAll_71 : decode cX3_mostOfAll 71 = .ok (.invokestatic 153, 3) := dq_184 (a := 0) (b := 153) (by decide +kernel) rfl
theorem dX3_mostOfAll_74 : decode cX3_mostOfAll 74 = .ok (.lstore_n 2, 1) := dq_65 (by decide +kernel)
theorem dX3_mostOfAll_75 : decode cX3_mostOfAll 75 = .ok (.aload_n 0, 1) := dq_42 (by decide +kernel)
theorem dX3_mostOfAll_76 : decode cX3_mostOfAll 76 = .ok (.aload_n 1, 1) := dq_43 (by decide +kernel)
theorem dX3_mostOfAll_77 : decode cX3_mostOfAll 77 = .ok (.invokevirtual 156, 3) := dq_182 (a := 0) (b := 156) (by decide +kernel) rfl
theorem dX3_tryFound_0 : decode cX3_tryFound 0 = .ok (.iconst 0, 1) := dq_3 (by decide +kernel)
theorem dX3_tryFound_1 : decode cX3_tryFound 1 = .ok (.istore_n 2, 1) := dq_61 (by decide +kernel)
theorem dX3_tryFound_2 : decode cX3_tryFound 2 = .ok (.iload_n 2, 1) := dq_28 (by decide +kernel)
theorem dX3_tryFound_3 : decode cX3_tryFound 3 = .ok (.aload_n 1, 1) := dq_43 (by decide +kernel)
theorem dX3_tryFound_4 : decode cX3_tryFound 4 = .ok (.getfield 79, 3) := dq_180 (a := 0) (b := 79) (by decide +kernel) rfl
theorem dX3_tryFound_7 : decode cX3_tryFound 7 = .ok (.if_icmp .ge 65, 3) := dq_162 (a := 0) (b := 65) (by decide +kernel) (by decide +kernel)
theorem dX3_tryFound_72 : decode cX3_tryFound 72 = .ok (.return_, 1) := dq_177 (by decide +kernel)
theorem dX3_tryFound_10 : decode cX3_tryFound 10 = .ok (.aload_n 0, 1) := dq_42 (by decide +kernel)
theorem dX3_tryFound_11 : decode cX3_tryFound 11 = .ok (.getfield 28, 3) := dq_180 (a := 0) (b := 28) (by decide +kernel) rfl
theorem dX3_tryFound_14 : decode cX3_tryFound 14 = .ok (.iload_n 2, 1) := dq_28 (by decide +kernel)
theorem dX3_tryFound_15 : decode cX3_tryFound 15 = .ok (.iaload, 1) := dq_46 (by decide +kernel)
theorem dX3_tryFound_16 : decode cX3_tryFound 16 = .ok (.aload_n 0, 1) := dq_42 (by decide +kernel)
theorem dX3_tryFound_17 : decode cX3_tryFound 17 = .ok (.getfield 22, 3) := dq_180 (a := 0) (b := 22) (by decide +kernel) rfl
theorem dX3_tryFound_20 : decode cX3_tryFound 20 = .ok (.iload_n 2, 1) := dq_28 (by decide +kernel)
theorem dX3_tryFound_21 : decode cX3_tryFound 21 = .ok (.iaload, 1) := dq_46 (by decide +kernel)
theorem dX3_tryFound_22 : decode cX3_tryFound 22 = .ok (.if_icmp .eq 44, 3) := dq_159 (a := 0) (b := 44) (by decide +kernel) (by decide +kernel)
theorem dX3_tryFound_66 : decode cX3_tryFound 66 = .ok (.iinc 2 1, 3) := dq_132 (a := 2) (b := 1) (by decide +kernel) rfl (by decide +kernel)
theorem dX3_tryFound_69 : decode cX3_tryFound 69 = .ok (.goto (-67), 3) := dq_167 (a := 255) (b := 189) (by decide +kernel) (by decide +kernel)
theorem dX3_tryFound_25 : decode cX3_tryFound 25 = .ok (.aload_n 0, 1) := dq_42 (by decide +kernel)
theorem dX3_tryFound_26 : decode cX3_tryFound 26 = .ok (.iload_n 2, 1) := dq_28 (by decide +kernel)
theorem dX3_tryFound_27 : decode cX3_tryFound 27 = .ok (.ldc2_w 175, 3) := dq_20 (a := 0) (b := 175) (by decide +kernel) rfl
theorem dX3_tryFound_30 : decode cX3_tryFound 30 = .ok (.aload_n 1, 1) := dq_43 (by decide +kernel)
theorem dX3_tryFound_31 : decode cX3_tryFound 31 = .ok (.getfield 77, 3) := dq_180 (a := 0) (b := 77) (by decide +kernel) rfl
theorem dX3_tryFound_34 : decode cX3_tryFound 34 = .ok (.i2l, 1) := dq_133 (by decide +kernel)
theorem dX3_tryFound_35 : decode cX3_tryFound 35 = .ok (.lmul, 1) := dq_105 (by decide +kernel)
theorem dX3_tryFound_36 : decode cX3_tryFound 36 = .ok (.aload_n 0, 1) := dq_42 (by decide +kernel)
theorem dX3_tryFound_37 : decode cX3_tryFound 37 = .ok (.getfield 22, 3) := dq_180 (a := 0) (b := 22) (by decide +kernel) rfl
theorem dX3_tryFound_40 : decode cX3_tryFound 40 = .ok (.iload_n 2, 1) := dq_28 (by decide +kernel)
theorem dX3_tryFound_41 : decode cX3_tryFound 41 = .ok (.iaload, 1) := dq_46 (by decide +kernel)
theorem dX3_tryFound_42 : decode cX3_tryFound 42 = .ok (.aload_n 0, 1) := dq_42 (by decide +kernel)
theorem dX3_tryFound_43 : decode cX3_tryFound 43 = .ok (.getfield 28, 3) := dq_180 (a := 0) (b := 28) (by decide +kernel) rfl
theorem dX3_tryFound_46 : decode cX3_tryFound 46 = .ok (.iload_n 2, 1) := dq_28 (by decide +kernel)
theorem dX3_tryFound_47 : decode cX3_tryFound 47 = .ok (.iaload, 1) := dq_46 (by decide +kernel)
theorem dX3_tryFound_48 : decode cX3_tryFound 48 = .ok (.isub, 1) := dq_100 (by decide +kernel)
theorem dX3_tryFound_49 : decode cX3_tryFound 49 = .ok (.i2l, 1) := dq_133 (by decide +kernel)
theorem dX3_tryFound_50 : decode cX3_tryFound 50 = .ok (.lmul, 1) := dq_105 (by decide +kernel)
theorem dX3_tryFound_51 : decode cX3_tryFound 51 = .ok (.invokevirtual 171, 3) := dq_182 (a := 0) (b := 171) (by decide +kernel) rfl
theorem dX3_tryFound_54 : decode cX3_tryFound 54 = .ok (.aload_n 0, 1) := dq_42 (by decide +kernel)
theorem dX3_tryFound_55 : decode cX3_tryFound 55 = .ok (.getfield 28, 3) := dq_180 (a := 0) (b := 28) (by decide +kernel) rfl
theorem dX3_tryFound_58 : decode cX3_tryFound 58 = .ok (.iload_n 2, 1) := dq_28 (by decide +kernel)
theorem dX3_tryFound_59 : decode cX3_tryFound 59 = .ok (.aload_n 0, 1) := dq_42 (by decide +kernel)
theorem dX3_tryFound_60 : decode cX3_tryFound 60 = .ok (.getfield 22, 3) := dq_180 (a := 0) (b := 22) (by decide +kernel) rfl
theorem dX3_tryFound_63 : decode cX3_tryFound 63 = .ok (.iload_n 2, 1) := dq_28 (by decide +kernel)
theorem dX3_tryFound_64 : decode cX3_tryFound 64 = .ok (.iaload, 1) := dq_46 (by decide +kernel)
theorem dX3_tryFound_65 : decode cX3_tryFound 65 = .ok (.iastore, 1) := dq_79 (by decide +kernel)
theorem dX3_mostOfAll_9 : decode cX3_mostOfAll 9 = .ok (.aload_n 0, 1) := dq_42 (by decide +kernel)
theorem dX3_mostOfAll_10 : decode cX3_mostOfAll 10 = .ok (.getfield 48, 3) := dq_180 (a := 0) (b := 48) (by decide +kernel) rfl
theorem dX3_mostOfAll_13 : decode cX3_mostOfAll 13 = .ok (.lreturn, 1) := dq_173 (by decide +kernel)
theorem dX3_leastOfAll_0 : decode cX3_leastOfAll 0 = .ok (.aload_n 0, 1) := dq_42 (by decide +kernel)
theorem dX3_leastOfAll_1 : decode cX3_leastOfAll 1 = .ok (.getfield 45, 3) := dq_180 (a := 0) (b := 45) (by decide +kernel) rfl
theorem dX3_leastOfAll_4 : decode cX3_leastOfAll 4 = .ok (.lconst 0, 1) := dq_9 (by decide +kernel)
theorem dX3_leastOfAll_5 : decode cX3_leastOfAll 5 = .ok (.lcmp, 1) := dq_148 (by decide +kernel)
theorem dX3_leastOfAll_6 : decode cX3_leastOfAll 6 = .ok (.ifCond .lt 8, 3) := dq_155 (a := 0) (b := 8) (by decide +kernel) (by decide +kernel)
theorem dX3_leastOfAll_14 : decode cX3_leastOfAll 14 = .ok (.iconst 3, 1) := dq_6 (by decide +kernel)
theorem dX3_leastOfAll_15 : decode cX3_leastOfAll 15 = .ok (.aload_n 1, 1) := dq_43 (by decide +kernel)
theorem dX3_leastOfAll_16 : decode cX3_leastOfAll 16 = .ok (.getfield 77, 3) := dq_180 (a := 0) (b := 77) (by decide +kernel) rfl
theorem dX3_leastOfAll_19 : decode cX3_leastOfAll 19 = .ok (.imul, 1) := dq_104 (by decide +kernel)
theorem dX3_leastOfAll_20 : decode cX3_leastOfAll 20 = .ok (.istore_n 2, 1) := dq_61 (by decide +kernel)
theorem dX3_leastOfAll_21 : decode cX3_leastOfAll 21 = .ok (.aload_n 0, 1) := dq_42 (by decide +kernel)
theorem dX3_leastOfAll_22 : decode cX3_leastOfAll 22 = .ok (.getfield 12, 3) := dq_180 (a := 0) (b := 12) (by decide +kernel) rfl
theorem dX3_leastOfAll_25 : decode cX3_leastOfAll 25 = .ok (.aload_n 1, 1) := dq_43 (by decide +kernel)
theorem dX3_leastOfAll_26 : decode cX3_leastOfAll 26 = .ok (.invokevirtual 51, 3) := dq_182 (a := 0) (b := 51) (by decide +kernel) rfl
theorem dX3_leastOfAll_29 : decode cX3_leastOfAll 29 = .ok (.aload_n 0, 1) := dq_42 (by decide +kernel)
theorem dX3_leastOfAll_30 : decode cX3_leastOfAll 30 = .ok (.getfield 12, 3) := dq_180 (a := 0) (b := 12) (by decide +kernel) rfl
theorem dX3_leastOfAll_33 : decode cX3_leastOfAll 33 = .ok (.iconst 1, 1) := dq_4 (by decide +kernel)
theorem dX3_leastOfAll_34 : decode cX3_leastOfAll 34 = .ok (.iload_n 2, 1) := dq_28 (by decide +kernel)
theorem dX3_leastOfAll_35 : decode cX3_leastOfAll 35 = .ok (.isub, 1) := dq_100 (by decide +kernel)
theorem dX3_leastOfAll_36 : decode cX3_leastOfAll 36 = .ok (.iconst 2, 1) := dq_5 (by decide +kernel)
theorem dX3_leastOfAll_37 : decode cX3_leastOfAll 37 = .ok (.iload_n 2, 1) := dq_28 (by decide +kernel)
theorem dX3_leastOfAll_38 : decode cX3_leastOfAll 38 = .ok (.invokevirtual 116, 3) := dq_182 (a := 0) (b := 116) (by decide +kernel) rfl
theorem dX3_leastOfAll_41 : decode cX3_leastOfAll 41 = .ok (.aload_n 0, 1) := dq_42 (by decide +kernel)
theorem dX3_leastOfAll_42 : decode cX3_leastOfAll 42 = .ok (.getfield 12, 3) := dq_180 (a := 0) (b := 12) (by decide +kernel) rfl
theorem dX3_leastOfAll_45 : decode cX3_leastOfAll 45 = .ok (.invokevirtual 86, 3) := dq_182 (a := 0) (b := 86) (by decide +kernel) rfl
theorem dX3_leastOfAll_48 : decode cX3_leastOfAll 48 = .ok (.aload_n 1, 1) := dq_43 (by decide +kernel)
theorem dX3_leastOfAll_49 : decode cX3_leastOfAll 49 = .ok (.invokestatic 120, 3) := dq_184 (a := 0) (b := 120) (by decide +kernel) rfl
theorem dX3_leastThinkable_0 : decode cX3_leastThinkable 0 = .ok (.iconst 0, 1) := dq_3 (by decide +kernel)
theorem dX3_leastThinkable_1 : decode cX3_leastThinkable 1 = .ok (.istore_n 1, 1) := dq_60 (by decide +kernel)
theorem dX3_leastThinkable_2 : decode cX3_leastThinkable 2 = .ok (.iconst 0, 1) := dq_3 (by decide +kernel)
theorem dX3_leastThinkable_3 : decode cX3_leastThinkable 3 = .ok (.istore_n 2, 1) := dq_61 (by decide +kernel)
theorem dX3_leastThinkable_4 : decode cX3_leastThinkable 4 = .ok (.iload_n 2, 1) := dq_28 (by decide +kernel)
theorem dX3_leastThinkable_5 : decode cX3_leastThinkable 5 = .ok (.aload_n 0, 1) := dq_42 (by decide +kernel)
theorem dX3_leastThinkable_6 : decode cX3_leastThinkable 6 = .ok (.getfield 130, 3) := dq_180 (a := 0) (b := 130) (by decide +kernel) rfl
theorem dX3_leastThinkable_9 : decode cX3_leastThinkable 9 = .ok (.if_icmp .ge 57, 3) := dq_162 (a := 0) (b := 57) (by decide +kernel) (by decide +kernel)
theorem dX3_leastThinkable_66 : decode cX3_leastThinkable 66 = .ok (.iload_n 1, 1) := dq_27 (by decide +kernel)
theorem dX3_leastThinkable_67 : decode cX3_leastThinkable 67 = .ok (.i2l, 1) := dq_133 (by decide +kernel)
theorem dX3_leastThinkable_68 : decode cX3_leastThinkable 68 = .ok (.lreturn, 1) := dq_173 (by decide +kernel)
theorem dX3_leastThinkable_12 : decode cX3_leastThinkable 12 = .ok (.aload_n 0, 1) := dq_42 (by decide +kernel)
theorem dX3_leastThinkable_13 : decode cX3_leastThinkable 13 = .ok (.getfield 77, 3) := dq_180 (a := 0) (b := 77) (by decide +kernel) rfl
theorem dX3_leastThinkable_16 : decode cX3_leastThinkable 16 = .ok (.iconst 2, 1) := dq_5 (by decide +kernel)
theorem dX3_leastThinkable_17 : decode cX3_leastThinkable 17 = .ok (.irem, 1) := dq_112 (by decide +kernel)
theorem dX3_leastThinkable_18 : decode cX3_leastThinkable 18 = .ok (.ifCond .ne 48, 3) := dq_154 (a := 0) (b := 48) (by decide +kernel) (by decide +kernel)
theorem dX3_leastThinkable_21 : decode cX3_leastThinkable 21 = .ok (.iconst 0, 1) := dq_3 (by decide +kernel)
theorem dX3_leastThinkable_22 : decode cX3_leastThinkable 22 = .ok (.istore_n 3, 1) := dq_62 (by decide +kernel)
theorem dX3_leastThinkable_23 : decode cX3_leastThinkable 23 = .ok (.iconst 0, 1) := dq_3 (by decide +kernel)
theorem dX3_leastThinkable_24 : decode cX3_leastThinkable 24 = .ok (.istore 4, 2) := dq_54 (a := 4) (by decide +kernel) rfl
theorem dX3_leastThinkable_26 : decode cX3_leastThinkable 26 = .ok (.iload 4, 2) := dq_21 (a := 4) (by decide +kernel) rfl
theorem dX3_leastThinkable_28 : decode cX3_leastThinkable 28 = .ok (.aload_n 0, 1) := dq_42 (by decide +kernel)
theorem dX3_leastThinkable_29 : decode cX3_leastThinkable 29 = .ok (.getfield 79, 3) := dq_180 (a := 0) (b := 79) (by decide +kernel) rfl
theorem dX3_leastThinkable_32 : decode cX3_leastThinkable 32 = .ok (.if_icmp .ge 22, 3) := dq_162 (a := 0) (b := 22) (by decide +kernel) (by decide +kernel)
theorem dX3_leastThinkable_54 : decode cX3_leastThinkable 54 = .ok (.iload_n 1, 1) := dq_27 (by decide +kernel)
theorem dX3_leastThinkable_55 : decode cX3_leastThinkable 55 = .ok (.iload_n 3, 1) := dq_29 (by decide +kernel)
theorem dX3_leastThinkable_56 : decode cX3_leastThinkable 56 = .ok (.iconst 1, 1) := dq_4 (by decide +kernel)
theorem dX3_leastThinkable_57 : decode cX3_leastThinkable 57 = .ok (.iand, 1) := dq_126 (by decide +kernel)
theorem dX3_leastThinkable_58 : decode cX3_leastThinkable 58 = .ok (.iadd, 1) := dq_96 (by decide +kernel)
theorem dX3_leastThinkable_59 : decode cX3_leastThinkable 59 = .ok (.istore_n 1, 1) := dq_60 (by decide +kernel)
theorem dX3_leastThinkable_60 : decode cX3_leastThinkable 60 = .ok (.iinc 2 1, 3) := dq_132 (a := 2) (b := 1) (by decide +kernel) rfl (by decide +kernel)
theorem dX3_leastThinkable_63 : decode cX3_leastThinkable 63 = .ok (.goto (-59), 3) := dq_167 (a := 255) (b := 197) (by decide +kernel) (by decide +kernel)
theorem dX3_leastThinkable_35 : decode cX3_leastThinkable 35 = .ok (.iload_n 3, 1) := dq_29 (by decide +kernel)
theorem dX3_leastThinkable_36 : decode cX3_leastThinkable 36 = .ok (.aload_n 0, 1) := dq_42 (by decide +kernel)
theorem dX3_leastThinkable_37 : decode cX3_leastThinkable 37 = .ok (.getfield 133, 3) := dq_180 (a := 0) (b := 133) (by decide +kernel) rfl
theorem dX3_leastThinkable_40 : decode cX3_leastThinkable 40 = .ok (.iload_n 2, 1) := dq_28 (by decide +kernel)
theorem dX3_leastThinkable_41 : decode cX3_leastThinkable 41 = .ok (.iload 4, 2) := dq_21 (a := 4) (by decide +kernel) rfl
theorem dX3_leastThinkable_43 : decode cX3_leastThinkable 43 = .ok (.invokevirtual 137, 3) := dq_182 (a := 0) (b := 137) (by decide +kernel) rfl
theorem dX3_leastThinkable_46 : decode cX3_leastThinkable 46 = .ok (.iadd, 1) := dq_96 (by decide +kernel)
theorem dX3_leastThinkable_47 : decode cX3_leastThinkable 47 = .ok (.istore_n 3, 1) := dq_62 (by decide +kernel)
theorem dX3_leastThinkable_48 : decode cX3_leastThinkable 48 = .ok (.iinc 4 1, 3) := dq_132 (a := 4) (b := 1) (by decide +kernel) rfl (by decide +kernel)
theorem dX3_leastThinkable_51 : decode cX3_leastThinkable 51 = .ok (.goto (-25), 3) := dq_167 (a := 255) (b := 231) (by decide +kernel) (by decide +kernel)
theorem dX3_leastOfAll_52 : decode cX3_leastOfAll 52 = .ok (.lstore_n 3, 1) := dq_66 (by decide +kernel)
theorem dX3_leastOfAll_53 : decode cX3_leastOfAll 53 = .ok (.aload_n 1, 1) := dq_43 (by decide +kernel)
theorem dX3_leastOfAll_54 : decode cX3_leastOfAll 54 = .ok (.getfield 77, 3) := dq_180 (a := 0) (b := 77) (by decide +kernel) rfl
theorem dX3_leastOfAll_57 : decode cX3_leastOfAll 57 = .ok (.iconst 2, 1) := dq_5 (by decide +kernel)
theorem dX3_leastOfAll_58 : decode cX3_leastOfAll 58 = .ok (.irem, 1) := dq_112 (by decide +kernel)
theorem dX3_leastOfAll_59 : decode cX3_leastOfAll 59 = .ok (.iconst 1, 1) := dq_4 (by decide +kernel)
theorem dX3_leastOfAll_60 : decode cX3_leastOfAll 60 = .ok (.if_icmp .ne 7, 3) := dq_160 (a := 0) (b := 7) (by decide +kernel) (by decide +kernel)
theorem dX3_leastOfAll_67 : decode cX3_leastOfAll 67 = .ok (.ldc2_w 89, 3) := dq_20 (a := 0) (b := 89) (by decide +kernel) rfl
theorem dX3_leastOfAll_70 : decode cX3_leastOfAll 70 = .ok (.lstore 5, 2) := dq_55 (a := 5) (by decide +kernel) rfl
theorem dX3_leastOfAll_72 : decode cX3_leastOfAll 72 = .ok (.aload_n 0, 1) := dq_42 (by decide +kernel)
theorem dX3_leastOfAll_73 : decode cX3_leastOfAll 73 = .ok (.getfield 12, 3) := dq_180 (a := 0) (b := 12) (by decide +kernel) rfl
theorem dX3_leastOfAll_76 : decode cX3_leastOfAll 76 = .ok (.invokevirtual 91, 3) := dq_182 (a := 0) (b := 91) (by decide +kernel) rfl
theorem dX3_leastOfAll_79 : decode cX3_leastOfAll 79 = .ok (.iconst 1, 1) := dq_4 (by decide +kernel)
theorem dX3_leastOfAll_80 : decode cX3_leastOfAll 80 = .ok (.iadd, 1) := dq_96 (by decide +kernel)
theorem dX3_leastOfAll_81 : decode cX3_leastOfAll 81 = .ok (.iconst 2, 1) := dq_5 (by decide +kernel)
theorem dX3_leastOfAll_82 : decode cX3_leastOfAll 82 = .ok (.idiv, 1) := dq_108 (by decide +kernel)
theorem dX3_leastOfAll_83 : decode cX3_leastOfAll 83 = .ok (.istore 7, 2) := dq_54 (a := 7) (by decide +kernel) rfl
theorem dX3_leastOfAll_85 : decode cX3_leastOfAll 85 = .ok (.iconst 0, 1) := dq_3 (by decide +kernel)
theorem dX3_leastOfAll_86 : decode cX3_leastOfAll 86 = .ok (.istore 8, 2) := dq_54 (a := 8) (by decide +kernel) rfl
theorem dX3_leastOfAll_88 : decode cX3_leastOfAll 88 = .ok (.iload 8, 2) := dq_21 (a := 8) (by decide +kernel) rfl
theorem dX3_leastOfAll_90 : decode cX3_leastOfAll 90 = .ok (.iload 7, 2) := dq_21 (a := 7) (by decide +kernel) rfl
theorem dX3_leastOfAll_92 : decode cX3_leastOfAll 92 = .ok (.if_icmp .ge 45, 3) := dq_162 (a := 0) (b := 45) (by decide +kernel) (by decide +kernel)
theorem dX3_leastOfAll_137 : decode cX3_leastOfAll 137 = .ok (.aload_n 0, 1) := dq_42 (by decide +kernel)
theorem dX3_leastOfAll_138 : decode cX3_leastOfAll 138 = .ok (.lload 5, 2) := dq_22 (a := 5) (by decide +kernel) rfl
theorem dX3_leastOfAll_140 : decode cX3_leastOfAll 140 = .ok (.putfield 45, 3) := dq_181 (a := 0) (b := 45) (by decide +kernel) rfl
theorem dX3_leastOfAll_143 : decode cX3_leastOfAll 143 = .ok (.lload 5, 2) := dq_22 (a := 5) (by decide +kernel) rfl
theorem dX3_leastOfAll_145 : decode cX3_leastOfAll 145 = .ok (.lreturn, 1) := dq_173 (by decide +kernel)
theorem dX3_leastOfAll_95 : decode cX3_leastOfAll 95 = .ok (.lload 5, 2) := dq_22 (a := 5) (by decide +kernel) rfl
theorem dX3_leastOfAll_97 : decode cX3_leastOfAll 97 = .ok (.lload_n 3, 1) := dq_33 (by decide +kernel)
theorem dX3_leastOfAll_98 : decode cX3_leastOfAll 98 = .ok (.lcmp, 1) := dq_148 (by decide +kernel)
theorem dX3_leastOfAll_99 : decode cX3_leastOfAll 99 = .ok (.ifCond .le 38, 3) := dq_158 (a := 0) (b := 38) (by decide +kernel) (by decide +kernel)
theorem dX3_leastOfAll_102 : decode cX3_leastOfAll 102 = .ok (.lload 5, 2) := dq_22 (a := 5) (by decide +kernel) rfl
theorem dX3_leastOfAll_104 : decode cX3_leastOfAll 104 = .ok (.aload_n 0, 1) := dq_42 (by decide +kernel)
theorem dX3_leastOfAll_105 : decode cX3_leastOfAll 105 = .ok (.getfield 12, 3) := dq_180 (a := 0) (b := 12) (by decide +kernel) rfl
theorem dX3_leastOfAll_108 : decode cX3_leastOfAll 108 = .ok (.aload_n 0, 1) := dq_42 (by decide +kernel)
theorem dX3_leastOfAll_109 : decode cX3_leastOfAll 109 = .ok (.getfield 12, 3) := dq_180 (a := 0) (b := 12) (by decide +kernel) rfl
theorem dX3_leastOfAll_112 : decode cX3_leastOfAll 112 = .ok (.iload_n 2, 1) := dq_28 (by decide +kernel)
theorem dX3_leastOfAll_113 : decode cX3_leastOfAll 113 = .ok (.invokevirtual 95, 3) := dq_182 (a := 0) (b := 95) (by decide +kernel) rfl
theorem dX3_leastOfAll_116 : decode cX3_leastOfAll 116 = .ok (.invokevirtual 99, 3) := dq_182 (a := 0) (b := 99) (by decide +kernel) rfl
theorem dX3_leastOfAll_119 : decode cX3_leastOfAll 119 = .ok (.invokestatic 124, 3) := dq_184 (a := 0) (b := 124) (by decide +kernel) rfl
theorem dX3_leastOfAll_122 : decode cX3_leastOfAll 122 = .ok (.lstore 5, 2) := dq_55 (a := 5) (by decide +kernel) rfl
theorem dX3_leastOfAll_124 : decode cX3_leastOfAll 124 = .ok (.aload_n 0, 1) := dq_42 (by decide +kernel)
theorem dX3_leastOfAll_125 : decode cX3_leastOfAll 125 = .ok (.getfield 12, 3) := dq_180 (a := 0) (b := 12) (by decide +kernel) rfl
theorem dX3_leastOfAll_128 : decode cX3_leastOfAll 128 = .ok (.invokevirtual 107, 3) := dq_182 (a := 0) (b := 107) (by decide +kernel) rfl
theorem dX3_leastOfAll_131 : decode cX3_leastOfAll 131 = .ok (.iinc 8 1, 3) := dq_132 (a := 8) (b := 1) (by decide +kernel) rfl (by decide +kernel)
theorem dX3_leastOfAll_134 : decode cX3_leastOfAll 134 = .ok (.goto (-46), 3) := dq_167 (a := 255) (b := 210) (by decide +kernel) (by decide +kernel)
theorem dX3_leastOfAll_63 : decode cX3_leastOfAll 63 = .ok (.lconst 0, 1) := dq_9 (by decide +kernel)
theorem dX3_leastOfAll_64 : decode cX3_leastOfAll 64 = .ok (.goto 6, 3) := dq_167 (a := 0) (b := 6) (by decide +kernel) (by decide +kernel)
theorem dX3_leastOfAll_9 : decode cX3_leastOfAll 9 = .ok (.aload_n 0, 1) := dq_42 (by decide +kernel)
theorem dX3_leastOfAll_10 : decode cX3_leastOfAll 10 = .ok (.getfield 45, 3) := dq_180 (a := 0) (b := 45) (by decide +kernel) rfl
theorem dX3_leastOfAll_13 : decode cX3_leastOfAll 13 = .ok (.lreturn, 1) := dq_173 (by decide +kernel)
theorem dX3_putAhead_0 : decode cX3_putAhead 0 = .ok (.aload_n 0, 1) := dq_42 (by decide +kernel)
theorem dX3_putAhead_1 : decode cX3_putAhead 1 = .ok (.getfield 12, 3) := dq_180 (a := 0) (b := 12) (by decide +kernel) rfl
theorem dX3_putAhead_4 : decode cX3_putAhead 4 = .ok (.aload_n 1, 1) := dq_43 (by decide +kernel)
theorem dX3_putAhead_5 : decode cX3_putAhead 5 = .ok (.invokevirtual 51, 3) := dq_182 (a := 0) (b := 51) (by decide +kernel) rfl
theorem dX3_putAhead_8 : decode cX3_putAhead 8 = .ok (.aload_n 0, 1) := dq_42 (by decide +kernel)
theorem dX3_putAhead_9 : decode cX3_putAhead 9 = .ok (.aload_n 1, 1) := dq_43 (by decide +kernel)
theorem dX3_putAhead_10 : decode cX3_putAhead 10 = .ok (.aload_n 2, 1) := dq_44 (by decide +kernel)
theorem dX3_putAhead_11 : decode cX3_putAhead 11 = .ok (.ldc2_w 43, 3) := dq_20 (a := 0) (b := 43) (by decide +kernel) rfl
theorem dX3_putAhead_14 : decode cX3_putAhead 14 = .ok (.invokevirtual 55, 3) := dq_182 (a := 0) (b := 55) (by decide +kernel) rfl
theorem dX3_putAhead_17 : decode cX3_putAhead 17 = .ok (.lstore_n 3, 1) := dq_66 (by decide +kernel)
theorem dX3_putAhead_18 : decode cX3_putAhead 18 = .ok (.lload_n 3, 1) := dq_33 (by decide +kernel)
theorem dX3_putAhead_19 : decode cX3_putAhead 19 = .ok (.ldc2_w 59, 3) := dq_20 (a := 0) (b := 59) (by decide +kernel) rfl
theorem dX3_putAhead_22 : decode cX3_putAhead 22 = .ok (.aload_n 1, 1) := dq_43 (by decide +kernel)
theorem dX3_putAhead_23 : decode cX3_putAhead 23 = .ok (.getfield 61, 3) := dq_180 (a := 0) (b := 61) (by decide +kernel) rfl
theorem dX3_putAhead_26 : decode cX3_putAhead 26 = .ok (.i2l, 1) := dq_133 (by decide +kernel)
theorem dX3_putAhead_27 : decode cX3_putAhead 27 = .ok (.lmul, 1) := dq_105 (by decide +kernel)
theorem dX3_putAhead_28 : decode cX3_putAhead 28 = .ok (.lcmp, 1) := dq_148 (by decide +kernel)
theorem lw_d_cX11_has_1 : lw_dl cX11_has [(1, .tableswitch 138 0 9 #[55, 63, 71, 79, 87, 95, 106, 114, 122, 130], 55)] = true := by decide +kernel
theorem dX11_has_1 : decode cX11_has 1 = .ok (.tableswitch 138 0 9 #[55, 63, 71, 79, 87, 95, 106, 114, 122, 130], 55) := lw_dr lw_d_cX11_has_1 0 rfl
theorem dX3_putAhead_29 : decode cX3_putAhead 29 = .ok (.ifCond .le 8, 3) := dq_158 (a := 0) (b := 8) (by decide +kernel) (by decide +kernel)
theorem dX3_putAhead_37 : decode cX3_putAhead 37 = .ok (.aload_n 0, 1) := dq_42 (by decide +kernel)
theorem dX3_putAhead_38 : decode cX3_putAhead 38 = .ok (.getfield 22, 3) := dq_180 (a := 0) (b := 22) (by decide +kernel) rfl
theorem dX3_putAhead_41 : decode cX3_putAhead 41 = .ok (.iconst 0, 1) := dq_3 (by decide +kernel)
theorem dX3_putAhead_42 : decode cX3_putAhead 42 = .ok (.aload_n 0, 1) := dq_42 (by decide +kernel)
theorem dX3_putAhead_43 : decode cX3_putAhead 43 = .ok (.getfield 18, 3) := dq_180 (a := 0) (b := 18) (by decide +kernel) rfl
theorem dX3_putAhead_46 : decode cX3_putAhead 46 = .ok (.iconst 0, 1) := dq_3 (by decide +kernel)
theorem dX3_putAhead_47 : decode cX3_putAhead 47 = .ok (.iconst 5, 1) := dq_8 (by decide +kernel)
theorem dX3_putAhead_48 : decode cX3_putAhead 48 = .ok (.invokestatic 71, 3) := dq_184 (a := 0) (b := 71) (by decide +kernel) rfl
theorem dX3_putAhead_51 : decode cX3_putAhead 51 = .ok (.aload_n 0, 1) := dq_42 (by decide +kernel)
theorem dX3_putAhead_52 : decode cX3_putAhead 52 = .ok (.iconst 1, 1) := dq_4 (by decide +kernel)
theorem dX3_putAhead_53 : decode cX3_putAhead 53 = .ok (.putfield 39, 3) := dq_181 (a := 0) (b := 39) (by decide +kernel) rfl
theorem dX3_putAhead_56 : decode cX3_putAhead 56 = .ok (.lload_n 3, 1) := dq_33 (by decide +kernel)
theorem dX3_putAhead_57 : decode cX3_putAhead 57 = .ok (.lreturn, 1) := dq_173 (by decide +kernel)
theorem dX3_putAhead_32 : decode cX3_putAhead 32 = .ok (.aload_n 0, 1) := dq_42 (by decide +kernel)
theorem dX3_putAhead_33 : decode cX3_putAhead 33 = .ok (.invokevirtual 67, 3) := dq_182 (a := 0) (b := 67) (by decide +kernel) rfl
theorem dX3_refuse_0 : decode cX3_refuse 0 = .ok (.aload_n 0, 1) := dq_42 (by decide +kernel)
theorem dX3_refuse_1 : decode cX3_refuse 1 = .ok (.iconst 0, 1) := dq_3 (by decide +kernel)
theorem dX3_refuse_2 : decode cX3_refuse 2 = .ok (.putfield 39, 3) := dq_181 (a := 0) (b := 39) (by decide +kernel) rfl
theorem dX3_refuse_5 : decode cX3_refuse 5 = .ok (.ldc2_w 43, 3) := dq_20 (a := 0) (b := 43) (by decide +kernel) rfl
theorem dX3_refuse_8 : decode cX3_refuse 8 = .ok (.lreturn, 1) := dq_173 (by decide +kernel)
theorem dX3_putAhead_36 : decode cX3_putAhead 36 = .ok (.lreturn, 1) := dq_173 (by decide +kernel)
theorem dX11_feed_0 : decode cX11_feed 0 = .ok (.aload_n 0, 1) := dq_42 (by decide +kernel)
theorem dX11_feed_1 : decode cX11_feed 1 = .ok (.getfield 20, 3) := dq_180 (a := 0) (b := 20) (by decide +kernel) rfl
theorem dX11_feed_4 : decode cX11_feed 4 = .ok (.bipush 20, 2) := dq_16 (a := 20) (by decide +kernel) (by decide +kernel)
theorem dX11_feed_6 : decode cX11_feed 6 = .ok (.invokevirtual 83, 3) := dq_182 (a := 0) (b := 83) (by decide +kernel) rfl
theorem dX11_feed_9 : decode cX11_feed 9 = .ok (.ifCond .ne 5, 3) := dq_154 (a := 0) (b := 5) (by decide +kernel) (by decide +kernel)
theorem dX11_feed_14 : decode cX11_feed 14 = .ok (.aload_n 0, 1) := dq_42 (by decide +kernel)
theorem dX11_feed_15 : decode cX11_feed 15 = .ok (.getfield 20, 3) := dq_180 (a := 0) (b := 20) (by decide +kernel) rfl
theorem dX11_feed_18 : decode cX11_feed 18 = .ok (.iload_n 1, 1) := dq_27 (by decide +kernel)
theorem dX11_feed_19 : decode cX11_feed 19 = .ok (.invokevirtual 89, 3) := dq_182 (a := 0) (b := 89) (by decide +kernel) rfl
theorem dX11_feed_22 : decode cX11_feed 22 = .ok (.aload_n 0, 1) := dq_42 (by decide +kernel)
theorem dX11_feed_23 : decode cX11_feed 23 = .ok (.getfield 20, 3) := dq_180 (a := 0) (b := 20) (by decide +kernel) rfl
theorem dX11_feed_26 : decode cX11_feed 26 = .ok (.iload_n 2, 1) := dq_28 (by decide +kernel)
theorem dX11_feed_27 : decode cX11_feed 27 = .ok (.invokevirtual 89, 3) := dq_182 (a := 0) (b := 89) (by decide +kernel) rfl
theorem dX11_feed_30 : decode cX11_feed 30 = .ok (.aload_n 0, 1) := dq_42 (by decide +kernel)
theorem dX11_feed_31 : decode cX11_feed 31 = .ok (.getfield 20, 3) := dq_180 (a := 0) (b := 20) (by decide +kernel) rfl
theorem dX11_feed_34 : decode cX11_feed 34 = .ok (.iload_n 3, 1) := dq_29 (by decide +kernel)
theorem dX11_feed_35 : decode cX11_feed 35 = .ok (.invokevirtual 89, 3) := dq_182 (a := 0) (b := 89) (by decide +kernel) rfl
theorem dX11_feed_38 : decode cX11_feed 38 = .ok (.aload_n 0, 1) := dq_42 (by decide +kernel)
theorem dX11_feed_39 : decode cX11_feed 39 = .ok (.getfield 20, 3) := dq_180 (a := 0) (b := 20) (by decide +kernel) rfl
theorem dX11_feed_42 : decode cX11_feed 42 = .ok (.iload 4, 2) := dq_21 (a := 4) (by decide +kernel) rfl
theorem dX11_feed_44 : decode cX11_feed 44 = .ok (.invokevirtual 89, 3) := dq_182 (a := 0) (b := 89) (by decide +kernel) rfl
theorem dX11_feed_47 : decode cX11_feed 47 = .ok (.aload_n 0, 1) := dq_42 (by decide +kernel)
theorem dX11_feed_48 : decode cX11_feed 48 = .ok (.getfield 20, 3) := dq_180 (a := 0) (b := 20) (by decide +kernel) rfl
theorem dX11_feed_51 : decode cX11_feed 51 = .ok (.iload 5, 2) := dq_21 (a := 5) (by decide +kernel) rfl
theorem dX11_feed_53 : decode cX11_feed 53 = .ok (.invokevirtual 89, 3) := dq_182 (a := 0) (b := 89) (by decide +kernel) rfl
theorem dX11_feed_56 : decode cX11_feed 56 = .ok (.aload_n 0, 1) := dq_42 (by decide +kernel)
theorem dX11_feed_57 : decode cX11_feed 57 = .ok (.getfield 20, 3) := dq_180 (a := 0) (b := 20) (by decide +kernel) rfl
theorem dX11_feed_60 : decode cX11_feed 60 = .ok (.invokevirtual 93, 3) := dq_182 (a := 0) (b := 93) (by decide +kernel) rfl
theorem dX11_feed_63 : decode cX11_feed 63 = .ok (.ireturn, 1) := dq_172 (by decide +kernel)
theorem dX11_feed_12 : decode cX11_feed 12 = .ok (.iconst (-1), 1) := dq_2 (by decide +kernel)
theorem dX11_feed_13 : decode cX11_feed 13 = .ok (.ireturn, 1) := dq_172 (by decide +kernel)
theorem dX11_end_0 : decode cX11_end 0 = .ok (.iload_n 1, 1) := dq_27 (by decide +kernel)
theorem dX11_end_1 : decode cX11_end 1 = .ok (.ifCond .lt 14, 3) := dq_155 (a := 0) (b := 14) (by decide +kernel) (by decide +kernel)
theorem dX11_end_15 : decode cX11_end 15 = .ok (.iconst 0, 1) := dq_3 (by decide +kernel)
theorem dX11_end_16 : decode cX11_end 16 = .ok (.ireturn, 1) := dq_172 (by decide +kernel)
theorem dX11_end_4 : decode cX11_end 4 = .ok (.iload_n 1, 1) := dq_27 (by decide +kernel)
theorem dX11_end_5 : decode cX11_end 5 = .ok (.aload_n 0, 1) := dq_42 (by decide +kernel)
theorem dX11_end_6 : decode cX11_end 6 = .ok (.getfield 20, 3) := dq_180 (a := 0) (b := 20) (by decide +kernel) rfl
theorem dX11_end_9 : decode cX11_end 9 = .ok (.invokevirtual 93, 3) := dq_182 (a := 0) (b := 93) (by decide +kernel) rfl
theorem dX11_end_12 : decode cX11_end 12 = .ok (.if_icmp .le 5, 3) := dq_164 (a := 0) (b := 5) (by decide +kernel) (by decide +kernel)
theorem dX11_end_17 : decode cX11_end 17 = .ok (.aload_n 0, 1) := dq_42 (by decide +kernel)
theorem dX11_end_18 : decode cX11_end 18 = .ok (.getfield 20, 3) := dq_180 (a := 0) (b := 20) (by decide +kernel) rfl
theorem dX11_end_21 : decode cX11_end 21 = .ok (.iload_n 1, 1) := dq_27 (by decide +kernel)
theorem dX11_end_22 : decode cX11_end 22 = .ok (.invokevirtual 97, 3) := dq_182 (a := 0) (b := 97) (by decide +kernel) rfl
theorem dX11_end_25 : decode cX11_end 25 = .ok (.iconst 1, 1) := dq_4 (by decide +kernel)
theorem dX11_end_26 : decode cX11_end 26 = .ok (.ireturn, 1) := dq_172 (by decide +kernel)
theorem dX11_fault_0 : decode cX11_fault 0 = .ok (.iload_n 1, 1) := dq_27 (by decide +kernel)
theorem dX11_fault_1 : decode cX11_fault 1 = .ok (.ifCond .ne 11, 3) := dq_154 (a := 0) (b := 11) (by decide +kernel) (by decide +kernel)
theorem dX11_fault_12 : decode cX11_fault 12 = .ok (.iload_n 1, 1) := dq_27 (by decide +kernel)
theorem dX11_fault_13 : decode cX11_fault 13 = .ok (.iconst 1, 1) := dq_4 (by decide +kernel)
theorem dX11_fault_14 : decode cX11_fault 14 = .ok (.if_icmp .ne 13, 3) := dq_160 (a := 0) (b := 13) (by decide +kernel) (by decide +kernel)
theorem dX11_fault_27 : decode cX11_fault 27 = .ok (.iconst (-1), 1) := dq_2 (by decide +kernel)
theorem dX11_fault_28 : decode cX11_fault 28 = .ok (.ireturn, 1) := dq_172 (by decide +kernel)
theorem dX11_fault_17 : decode cX11_fault 17 = .ok (.aload_n 0, 1) := dq_42 (by decide +kernel)
theorem dX11_fault_18 : decode cX11_fault 18 = .ok (.getfield 10, 3) := dq_180 (a := 0) (b := 10) (by decide +kernel) rfl
theorem dX11_fault_21 : decode cX11_fault 21 = .ok (.getfield 130, 3) := dq_180 (a := 0) (b := 130) (by decide +kernel) rfl
theorem dX11_fault_24 : decode cX11_fault 24 = .ok (.goto 4, 3) := dq_167 (a := 0) (b := 4) (by decide +kernel) (by decide +kernel)
theorem dX11_fault_4 : decode cX11_fault 4 = .ok (.aload_n 0, 1) := dq_42 (by decide +kernel)
theorem dX11_fault_5 : decode cX11_fault 5 = .ok (.getfield 10, 3) := dq_180 (a := 0) (b := 10) (by decide +kernel) rfl
theorem dX11_fault_8 : decode cX11_fault 8 = .ok (.getfield 127, 3) := dq_180 (a := 0) (b := 127) (by decide +kernel) rfl
theorem dX11_fault_11 : decode cX11_fault 11 = .ok (.ireturn, 1) := dq_172 (by decide +kernel)
theorem dX11_has_0 : decode cX11_has 0 = .ok (.iload_n 1, 1) := dq_27 (by decide +kernel)
theorem dX11_has_56 : decode cX11_has 56 = .ok (.aload_n 0, 1) := dq_42 (by decide +kernel)
theorem dX11_has_57 : decode cX11_has 57 = .ok (.getfield 69, 3) := dq_180 (a := 0) (b := 69) (by decide +kernel) rfl
theorem dX11_has_60 : decode cX11_has 60 = .ok (.getfield 133, 3) := dq_180 (a := 0) (b := 133) (by decide +kernel) rfl
theorem dX11_has_63 : decode cX11_has 63 = .ok (.ireturn, 1) := dq_172 (by decide +kernel)
theorem dX11_has_64 : decode cX11_has 64 = .ok (.aload_n 0, 1) := dq_42 (by decide +kernel)
theorem dX11_has_65 : decode cX11_has 65 = .ok (.getfield 69, 3) := dq_180 (a := 0) (b := 69) (by decide +kernel) rfl
theorem dX11_has_68 : decode cX11_has 68 = .ok (.getfield 136, 3) := dq_180 (a := 0) (b := 136) (by decide +kernel) rfl
theorem dX11_has_71 : decode cX11_has 71 = .ok (.ireturn, 1) := dq_172 (by decide +kernel)
theorem dX11_has_72 : decode cX11_has 72 = .ok (.aload_n 0, 1) := dq_42 (by decide +kernel)
theorem dX11_has_73 : decode cX11_has 73 = .ok (.getfield 69, 3) := dq_180 (a := 0) (b := 69) (by decide +kernel) rfl
theorem dX11_has_76 : decode cX11_has 76 = .ok (.getfield 139, 3) := dq_180 (a := 0) (b := 139) (by decide +kernel) rfl
theorem dX11_has_79 : decode cX11_has 79 = .ok (.ireturn, 1) := dq_172 (by decide +kernel)
theorem dX11_has_80 : decode cX11_has 80 = .ok (.aload_n 0, 1) := dq_42 (by decide +kernel)
theorem dX11_has_81 : decode cX11_has 81 = .ok (.getfield 69, 3) := dq_180 (a := 0) (b := 69) (by decide +kernel) rfl
theorem dX11_has_84 : decode cX11_has 84 = .ok (.getfield 142, 3) := dq_180 (a := 0) (b := 142) (by decide +kernel) rfl
theorem dX11_has_87 : decode cX11_has 87 = .ok (.ireturn, 1) := dq_172 (by decide +kernel)
theorem dX11_has_88 : decode cX11_has 88 = .ok (.aload_n 0, 1) := dq_42 (by decide +kernel)
theorem dX11_has_89 : decode cX11_has 89 = .ok (.getfield 69, 3) := dq_180 (a := 0) (b := 69) (by decide +kernel) rfl
theorem dX11_has_92 : decode cX11_has 92 = .ok (.getfield 145, 3) := dq_180 (a := 0) (b := 145) (by decide +kernel) rfl
theorem dX11_has_95 : decode cX11_has 95 = .ok (.ireturn, 1) := dq_172 (by decide +kernel)
theorem dX11_has_96 : decode cX11_has 96 = .ok (.aload_n 0, 1) := dq_42 (by decide +kernel)
theorem dX11_has_97 : decode cX11_has 97 = .ok (.getfield 69, 3) := dq_180 (a := 0) (b := 69) (by decide +kernel) rfl
theorem dX11_has_100 : decode cX11_has 100 = .ok (.getfield 148, 3) := dq_180 (a := 0) (b := 148) (by decide +kernel) rfl
theorem dX11_has_103 : decode cX11_has 103 = .ok (.getfield 152, 3) := dq_180 (a := 0) (b := 152) (by decide +kernel) rfl
theorem dX11_has_106 : decode cX11_has 106 = .ok (.ireturn, 1) := dq_172 (by decide +kernel)
theorem dX11_has_107 : decode cX11_has 107 = .ok (.aload_n 0, 1) := dq_42 (by decide +kernel)
theorem dX11_has_108 : decode cX11_has 108 = .ok (.getfield 69, 3) := dq_180 (a := 0) (b := 69) (by decide +kernel) rfl
theorem dX11_has_111 : decode cX11_has 111 = .ok (.getfield 157, 3) := dq_180 (a := 0) (b := 157) (by decide +kernel) rfl
theorem dX11_has_114 : decode cX11_has 114 = .ok (.ireturn, 1) := dq_172 (by decide +kernel)
theorem dX11_has_115 : decode cX11_has 115 = .ok (.aload_n 0, 1) := dq_42 (by decide +kernel)
theorem dX11_has_116 : decode cX11_has 116 = .ok (.getfield 76, 3) := dq_180 (a := 0) (b := 76) (by decide +kernel) rfl
theorem dX11_has_119 : decode cX11_has 119 = .ok (.getfield 160, 3) := dq_180 (a := 0) (b := 160) (by decide +kernel) rfl
theorem dX11_has_122 : decode cX11_has 122 = .ok (.ireturn, 1) := dq_172 (by decide +kernel)
theorem dX11_has_123 : decode cX11_has 123 = .ok (.aload_n 0, 1) := dq_42 (by decide +kernel)
theorem dX11_has_124 : decode cX11_has 124 = .ok (.getfield 76, 3) := dq_180 (a := 0) (b := 76) (by decide +kernel) rfl
theorem dX11_has_127 : decode cX11_has 127 = .ok (.getfield 163, 3) := dq_180 (a := 0) (b := 163) (by decide +kernel) rfl
theorem dX11_has_130 : decode cX11_has 130 = .ok (.ireturn, 1) := dq_172 (by decide +kernel)
theorem dX11_has_131 : decode cX11_has 131 = .ok (.aload_n 0, 1) := dq_42 (by decide +kernel)
theorem dX11_has_132 : decode cX11_has 132 = .ok (.getfield 76, 3) := dq_180 (a := 0) (b := 76) (by decide +kernel) rfl
theorem dX11_has_135 : decode cX11_has 135 = .ok (.getfield 166, 3) := dq_180 (a := 0) (b := 166) (by decide +kernel) rfl
theorem dX11_has_138 : decode cX11_has 138 = .ok (.ireturn, 1) := dq_172 (by decide +kernel)
theorem dX11_has_139 : decode cX11_has 139 = .ok (.iconst (-1), 1) := dq_2 (by decide +kernel)
theorem dX11_has_140 : decode cX11_has 140 = .ok (.ireturn, 1) := dq_172 (by decide +kernel)
theorem dX11_table_0 : decode cX11_table 0 = .ok (.aload_n 0, 1) := dq_42 (by decide +kernel)
theorem dX11_table_1 : decode cX11_table 1 = .ok (.getfield 69, 3) := dq_180 (a := 0) (b := 69) (by decide +kernel) rfl
theorem dX11_table_4 : decode cX11_table 4 = .ok (.iload_n 1, 1) := dq_27 (by decide +kernel)
theorem dX11_table_5 : decode cX11_table 5 = .ok (.invokevirtual 169, 3) := dq_182 (a := 0) (b := 169) (by decide +kernel) rfl
theorem dX11_table_8 : decode cX11_table 8 = .ok (.ifCond .eq 14, 3) := dq_153 (a := 0) (b := 14) (by decide +kernel) (by decide +kernel)
theorem dX11_table_22 : decode cX11_table 22 = .ok (.ldc 175, 2) := dq_18 (a := 175) (by decide +kernel) rfl
theorem dX11_table_24 : decode cX11_table 24 = .ok (.ireturn, 1) := dq_172 (by decide +kernel)
theorem dX11_table_11 : decode cX11_table 11 = .ok (.aload_n 0, 1) := dq_42 (by decide +kernel)
theorem dX11_table_12 : decode cX11_table 12 = .ok (.getfield 69, 3) := dq_180 (a := 0) (b := 69) (by decide +kernel) rfl
theorem dX11_table_15 : decode cX11_table 15 = .ok (.iload_n 2, 1) := dq_28 (by decide +kernel)
theorem dX11_table_16 : decode cX11_table 16 = .ok (.invokevirtual 172, 3) := dq_182 (a := 0) (b := 172) (by decide +kernel) rfl
theorem dX11_table_19 : decode cX11_table 19 = .ok (.ifCond .ne 6, 3) := dq_154 (a := 0) (b := 6) (by decide +kernel) (by decide +kernel)
theorem dX11_table_25 : decode cX11_table 25 = .ok (.aload_n 0, 1) := dq_42 (by decide +kernel)
theorem dX11_table_26 : decode cX11_table 26 = .ok (.iload_n 3, 1) := dq_29 (by decide +kernel)
theorem dX11_table_27 : decode cX11_table 27 = .ok (.invokevirtual 176, 3) := dq_182 (a := 0) (b := 176) (by decide +kernel) rfl
theorem dX11_tableBy_0 : decode cX11_tableBy 0 = .ok (.iload_n 1, 1) := dq_27 (by decide +kernel)
theorem dX11_tableBy_1 : decode cX11_tableBy 1 = .ok (.ifCond .eq 13, 3) := dq_153 (a := 0) (b := 13) (by decide +kernel) (by decide +kernel)
theorem dX11_tableBy_14 : decode cX11_tableBy 14 = .ok (.aload_n 0, 1) := dq_42 (by decide +kernel)
theorem dX11_tableBy_15 : decode cX11_tableBy 15 = .ok (.getfield 69, 3) := dq_180 (a := 0) (b := 69) (by decide +kernel) rfl
theorem dX11_tableBy_18 : decode cX11_tableBy 18 = .ok (.getfield 193, 3) := dq_180 (a := 0) (b := 193) (by decide +kernel) rfl
theorem dX11_tableBy_21 : decode cX11_tableBy 21 = .ok (.areturn, 1) := dq_176 (by decide +kernel)
theorem dX11_table_30 : decode cX11_table 30 = .ok (.iload_n 1, 1) := dq_27 (by decide +kernel)
theorem dX11_table_31 : decode cX11_table 31 = .ok (.iload_n 2, 1) := dq_28 (by decide +kernel)
theorem dX11_table_32 : decode cX11_table 32 = .ok (.invokevirtual 180, 3) := dq_182 (a := 0) (b := 180) (by decide +kernel) rfl
theorem dX11_table_35 : decode cX11_table 35 = .ok (.ireturn, 1) := dq_172 (by decide +kernel)
theorem dX11_tableBy_4 : decode cX11_tableBy 4 = .ok (.aload_n 0, 1) := dq_42 (by decide +kernel)
theorem dX11_tableBy_5 : decode cX11_tableBy 5 = .ok (.getfield 76, 3) := dq_180 (a := 0) (b := 76) (by decide +kernel) rfl
theorem dX11_tableBy_8 : decode cX11_tableBy 8 = .ok (.getfield 189, 3) := dq_180 (a := 0) (b := 189) (by decide +kernel) rfl
theorem dX11_tableBy_11 : decode cX11_tableBy 11 = .ok (.goto 10, 3) := dq_167 (a := 0) (b := 10) (by decide +kernel) (by decide +kernel)
theorem dX11_product_0 : decode cX11_product 0 = .ok (.aload_n 0, 1) := dq_42 (by decide +kernel)
theorem dX11_product_1 : decode cX11_product 1 = .ok (.getfield 69, 3) := dq_180 (a := 0) (b := 69) (by decide +kernel) rfl
theorem dX11_product_4 : decode cX11_product 4 = .ok (.iload_n 1, 1) := dq_27 (by decide +kernel)
theorem dX11_product_5 : decode cX11_product 5 = .ok (.invokevirtual 172, 3) := dq_182 (a := 0) (b := 172) (by decide +kernel) rfl
theorem dX11_product_8 : decode cX11_product 8 = .ok (.ifCond .eq 14, 3) := dq_153 (a := 0) (b := 14) (by decide +kernel) (by decide +kernel)
theorem dX11_product_22 : decode cX11_product 22 = .ok (.ldc 175, 2) := dq_18 (a := 175) (by decide +kernel) rfl
theorem dX11_product_24 : decode cX11_product 24 = .ok (.ireturn, 1) := dq_172 (by decide +kernel)
theorem dX11_product_11 : decode cX11_product 11 = .ok (.aload_n 0, 1) := dq_42 (by decide +kernel)
theorem dX11_product_12 : decode cX11_product 12 = .ok (.getfield 69, 3) := dq_180 (a := 0) (b := 69) (by decide +kernel) rfl
theorem dX11_product_15 : decode cX11_product 15 = .ok (.iload_n 2, 1) := dq_28 (by decide +kernel)
theorem dX11_product_16 : decode cX11_product 16 = .ok (.invokevirtual 172, 3) := dq_182 (a := 0) (b := 172) (by decide +kernel) rfl
theorem dX11_product_19 : decode cX11_product 19 = .ok (.ifCond .ne 6, 3) := dq_154 (a := 0) (b := 6) (by decide +kernel) (by decide +kernel)
theorem dX11_product_25 : decode cX11_product 25 = .ok (.aload_n 0, 1) := dq_42 (by decide +kernel)
theorem dX11_product_26 : decode cX11_product 26 = .ok (.iload_n 3, 1) := dq_29 (by decide +kernel)
theorem dX11_product_27 : decode cX11_product 27 = .ok (.invokevirtual 176, 3) := dq_182 (a := 0) (b := 176) (by decide +kernel) rfl
theorem dX11_product_30 : decode cX11_product 30 = .ok (.iload_n 1, 1) := dq_27 (by decide +kernel)
theorem dX11_product_31 : decode cX11_product 31 = .ok (.iload_n 2, 1) := dq_28 (by decide +kernel)
theorem dX11_product_32 : decode cX11_product 32 = .ok (.invokevirtual 186, 3) := dq_182 (a := 0) (b := 186) (by decide +kernel) rfl
theorem dX11_product_35 : decode cX11_product 35 = .ok (.ireturn, 1) := dq_172 (by decide +kernel)
theorem dX11_hear_0 : decode cX11_hear 0 = .ok (.aload_n 0, 1) := dq_42 (by decide +kernel)
theorem dX11_hear_1 : decode cX11_hear 1 = .ok (.getfield 20, 3) := dq_180 (a := 0) (b := 20) (by decide +kernel) rfl
theorem dX11_hear_4 : decode cX11_hear 4 = .ok (.invokevirtual 93, 3) := dq_182 (a := 0) (b := 93) (by decide +kernel) rfl
theorem dX11_hear_7 : decode cX11_hear 7 = .ok (.iconst 2, 1) := dq_5 (by decide +kernel)
theorem dX11_hear_8 : decode cX11_hear 8 = .ok (.aload_n 0, 1) := dq_42 (by decide +kernel)
theorem dX11_hear_9 : decode cX11_hear 9 = .ok (.getfield 69, 3) := dq_180 (a := 0) (b := 69) (by decide +kernel) rfl
theorem dX11_hear_12 : decode cX11_hear 12 = .ok (.getfield 139, 3) := dq_180 (a := 0) (b := 139) (by decide +kernel) rfl
theorem dX11_hear_15 : decode cX11_hear 15 = .ok (.imul, 1) := dq_104 (by decide +kernel)
theorem dX11_hear_16 : decode cX11_hear 16 = .ok (.if_icmp .ne 7, 3) := dq_160 (a := 0) (b := 7) (by decide +kernel) (by decide +kernel)
theorem dX11_hear_23 : decode cX11_hear 23 = .ok (.iconst 0, 1) := dq_3 (by decide +kernel)
theorem dX11_hear_24 : decode cX11_hear 24 = .ok (.istore_n 1, 1) := dq_60 (by decide +kernel)
theorem dX11_hear_25 : decode cX11_hear 25 = .ok (.iload_n 1, 1) := dq_27 (by decide +kernel)
theorem dX11_hear_26 : decode cX11_hear 26 = .ok (.ifCond .eq 7, 3) := dq_153 (a := 0) (b := 7) (by decide +kernel) (by decide +kernel)
theorem dX11_hear_33 : decode cX11_hear 33 = .ok (.aload_n 0, 1) := dq_42 (by decide +kernel)
theorem dX11_hear_34 : decode cX11_hear 34 = .ok (.getfield 20, 3) := dq_180 (a := 0) (b := 20) (by decide +kernel) rfl
theorem dX11_hear_37 : decode cX11_hear 37 = .ok (.iconst 0, 1) := dq_3 (by decide +kernel)
theorem dX11_hear_38 : decode cX11_hear 38 = .ok (.invokevirtual 97, 3) := dq_182 (a := 0) (b := 97) (by decide +kernel) rfl
theorem dX11_hear_41 : decode cX11_hear 41 = .ok (.iload_n 1, 1) := dq_27 (by decide +kernel)
theorem dX11_hear_42 : decode cX11_hear 42 = .ok (.ireturn, 1) := dq_172 (by decide +kernel)
theorem dX11_hear_19 : decode cX11_hear 19 = .ok (.iconst 1, 1) := dq_4 (by decide +kernel)
theorem dX11_hear_20 : decode cX11_hear 20 = .ok (.goto 4, 3) := dq_167 (a := 0) (b := 4) (by decide +kernel) (by decide +kernel)
theorem dX11_hear_29 : decode cX11_hear 29 = .ok (.aload_n 0, 1) := dq_42 (by decide +kernel)
theorem dX11_hear_30 : decode cX11_hear 30 = .ok (.invokevirtual 194, 3) := dq_182 (a := 0) (b := 194) (by decide +kernel) rfl
theorem dX11_takeHeard_0 : decode cX11_takeHeard 0 = .ok (.iconst 0, 1) := dq_3 (by decide +kernel)
theorem dX11_takeHeard_1 : decode cX11_takeHeard 1 = .ok (.istore_n 1, 1) := dq_60 (by decide +kernel)
theorem dX11_takeHeard_2 : decode cX11_takeHeard 2 = .ok (.iload_n 1, 1) := dq_27 (by decide +kernel)
theorem dX11_takeHeard_3 : decode cX11_takeHeard 3 = .ok (.aload_n 0, 1) := dq_42 (by decide +kernel)
theorem dX11_takeHeard_4 : decode cX11_takeHeard 4 = .ok (.getfield 69, 3) := dq_180 (a := 0) (b := 69) (by decide +kernel) rfl
theorem dX11_takeHeard_7 : decode cX11_takeHeard 7 = .ok (.getfield 139, 3) := dq_180 (a := 0) (b := 139) (by decide +kernel) rfl
theorem dX11_takeHeard_10 : decode cX11_takeHeard 10 = .ok (.if_icmp .ge 25, 3) := dq_162 (a := 0) (b := 25) (by decide +kernel) (by decide +kernel)
theorem dX11_takeHeard_35 : decode cX11_takeHeard 35 = .ok (.aload_n 0, 1) := dq_42 (by decide +kernel)
theorem dX11_takeHeard_36 : decode cX11_takeHeard 36 = .ok (.getfield 24, 3) := dq_180 (a := 0) (b := 24) (by decide +kernel) rfl
theorem dX11_takeHeard_39 : decode cX11_takeHeard 39 = .ok (.invokevirtual 118, 3) := dq_182 (a := 0) (b := 118) (by decide +kernel) rfl
theorem dX11_takeHeard_42 : decode cX11_takeHeard 42 = .ok (.return_, 1) := dq_177 (by decide +kernel)
theorem dX11_takeHeard_13 : decode cX11_takeHeard 13 = .ok (.aload_n 0, 1) := dq_42 (by decide +kernel)
theorem dX11_takeHeard_14 : decode cX11_takeHeard 14 = .ok (.getfield 49, 3) := dq_180 (a := 0) (b := 49) (by decide +kernel) rfl
theorem dX11_takeHeard_17 : decode cX11_takeHeard 17 = .ok (.iload_n 1, 1) := dq_27 (by decide +kernel)
theorem dX11_takeHeard_18 : decode cX11_takeHeard 18 = .ok (.aload_n 0, 1) := dq_42 (by decide +kernel)
theorem dX11_takeHeard_19 : decode cX11_takeHeard 19 = .ok (.getfield 20, 3) := dq_180 (a := 0) (b := 20) (by decide +kernel) rfl
theorem dX11_takeHeard_22 : decode cX11_takeHeard 22 = .ok (.iconst 2, 1) := dq_5 (by decide +kernel)
theorem dX11_takeHeard_23 : decode cX11_takeHeard 23 = .ok (.iload_n 1, 1) := dq_27 (by decide +kernel)
theorem dX11_takeHeard_24 : decode cX11_takeHeard 24 = .ok (.imul, 1) := dq_104 (by decide +kernel)
theorem dX11_takeHeard_25 : decode cX11_takeHeard 25 = .ok (.invokevirtual 197, 3) := dq_182 (a := 0) (b := 197) (by decide +kernel) rfl
theorem dX11_takeHeard_28 : decode cX11_takeHeard 28 = .ok (.iastore, 1) := dq_79 (by decide +kernel)
theorem dX11_takeHeard_29 : decode cX11_takeHeard 29 = .ok (.iinc 1 1, 3) := dq_132 (a := 1) (b := 1) (by decide +kernel) rfl (by decide +kernel)
theorem dX11_takeHeard_32 : decode cX11_takeHeard 32 = .ok (.goto (-30), 3) := dq_167 (a := 255) (b := 226) (by decide +kernel) (by decide +kernel)
theorem dX11_heard_0 : decode cX11_heard 0 = .ok (.aload_n 0, 1) := dq_42 (by decide +kernel)
theorem dX11_heard_1 : decode cX11_heard 1 = .ok (.getfield 69, 3) := dq_180 (a := 0) (b := 69) (by decide +kernel) rfl
theorem dX11_heard_4 : decode cX11_heard 4 = .ok (.iload_n 1, 1) := dq_27 (by decide +kernel)
theorem dX11_heard_5 : decode cX11_heard 5 = .ok (.invokevirtual 169, 3) := dq_182 (a := 0) (b := 169) (by decide +kernel) rfl
theorem dX11_heard_8 : decode cX11_heard 8 = .ok (.ifCond .eq 12, 3) := dq_153 (a := 0) (b := 12) (by decide +kernel) (by decide +kernel)
theorem dX11_heard_20 : decode cX11_heard 20 = .ok (.ldc 175, 2) := dq_18 (a := 175) (by decide +kernel) rfl
theorem dX11_heard_22 : decode cX11_heard 22 = .ok (.ireturn, 1) := dq_172 (by decide +kernel)
theorem dX11_heard_11 : decode cX11_heard 11 = .ok (.aload_n 0, 1) := dq_42 (by decide +kernel)
theorem dX11_heard_12 : decode cX11_heard 12 = .ok (.getfield 49, 3) := dq_180 (a := 0) (b := 49) (by decide +kernel) rfl
theorem dX11_heard_15 : decode cX11_heard 15 = .ok (.iload_n 1, 1) := dq_27 (by decide +kernel)
theorem dX11_heard_16 : decode cX11_heard 16 = .ok (.iaload, 1) := dq_46 (by decide +kernel)
theorem dX11_heard_17 : decode cX11_heard 17 = .ok (.goto 5, 3) := dq_167 (a := 0) (b := 5) (by decide +kernel) (by decide +kernel)
theorem dX11_send_0 : decode cX11_send 0 = .ok (.aload_n 0, 1) := dq_42 (by decide +kernel)
theorem dX11_send_1 : decode cX11_send 1 = .ok (.invokevirtual 201, 3) := dq_182 (a := 0) (b := 201) (by decide +kernel) rfl
theorem dX11_takeRow_0 : decode cX11_takeRow 0 = .ok (.aload_n 0, 1) := dq_42 (by decide +kernel)
theorem dX11_takeRow_1 : decode cX11_takeRow 1 = .ok (.getfield 69, 3) := dq_180 (a := 0) (b := 69) (by decide +kernel) rfl
theorem dX11_takeRow_4 : decode cX11_takeRow 4 = .ok (.getfield 136, 3) := dq_180 (a := 0) (b := 136) (by decide +kernel) rfl
theorem dX11_takeRow_7 : decode cX11_takeRow 7 = .ok (.ifCond .le 24, 3) := dq_158 (a := 0) (b := 24) (by decide +kernel) (by decide +kernel)
theorem dX11_takeRow_31 : decode cX11_takeRow 31 = .ok (.iconst 0, 1) := dq_3 (by decide +kernel)
theorem dX11_takeRow_32 : decode cX11_takeRow 32 = .ok (.istore_n 1, 1) := dq_60 (by decide +kernel)
theorem dX11_takeRow_33 : decode cX11_takeRow 33 = .ok (.iconst 0, 1) := dq_3 (by decide +kernel)
theorem dX11_takeRow_34 : decode cX11_takeRow 34 = .ok (.istore_n 2, 1) := dq_61 (by decide +kernel)
theorem dX11_takeRow_35 : decode cX11_takeRow 35 = .ok (.iload_n 1, 1) := dq_27 (by decide +kernel)
theorem dX11_takeRow_36 : decode cX11_takeRow 36 = .ok (.ifCond .eq 48, 3) := dq_153 (a := 0) (b := 48) (by decide +kernel) (by decide +kernel)
theorem dX11_takeRow_84 : decode cX11_takeRow 84 = .ok (.aload_n 0, 1) := dq_42 (by decide +kernel)
theorem dX11_takeRow_85 : decode cX11_takeRow 85 = .ok (.getfield 20, 3) := dq_180 (a := 0) (b := 20) (by decide +kernel) rfl
theorem dX11_takeRow_88 : decode cX11_takeRow 88 = .ok (.iconst 0, 1) := dq_3 (by decide +kernel)
theorem dX11_takeRow_89 : decode cX11_takeRow 89 = .ok (.invokevirtual 97, 3) := dq_182 (a := 0) (b := 97) (by decide +kernel) rfl
theorem dX11_takeRow_92 : decode cX11_takeRow 92 = .ok (.iload_n 1, 1) := dq_27 (by decide +kernel)
theorem dX11_takeRow_93 : decode cX11_takeRow 93 = .ok (.ireturn, 1) := dq_172 (by decide +kernel)
theorem dX11_takeRow_10 : decode cX11_takeRow 10 = .ok (.aload_n 0, 1) := dq_42 (by decide +kernel)
theorem dX11_takeRow_11 : decode cX11_takeRow 11 = .ok (.getfield 20, 3) := dq_180 (a := 0) (b := 20) (by decide +kernel) rfl
theorem dX11_takeRow_14 : decode cX11_takeRow 14 = .ok (.invokevirtual 93, 3) := dq_182 (a := 0) (b := 93) (by decide +kernel) rfl
theorem dX11_takeRow_17 : decode cX11_takeRow 17 = .ok (.aload_n 0, 1) := dq_42 (by decide +kernel)
theorem dX11_takeRow_18 : decode cX11_takeRow 18 = .ok (.getfield 69, 3) := dq_180 (a := 0) (b := 69) (by decide +kernel) rfl
theorem dX11_takeRow_21 : decode cX11_takeRow 21 = .ok (.getfield 136, 3) := dq_180 (a := 0) (b := 136) (by decide +kernel) rfl
theorem dX11_takeRow_24 : decode cX11_takeRow 24 = .ok (.if_icmp .ne 7, 3) := dq_160 (a := 0) (b := 7) (by decide +kernel) (by decide +kernel)
theorem dX11_takeRow_27 : decode cX11_takeRow 27 = .ok (.iconst 1, 1) := dq_4 (by decide +kernel)
theorem dX11_takeRow_28 : decode cX11_takeRow 28 = .ok (.goto 4, 3) := dq_167 (a := 0) (b := 4) (by decide +kernel) (by decide +kernel)
theorem dX11_takeRow_39 : decode cX11_takeRow 39 = .ok (.iload_n 2, 1) := dq_28 (by decide +kernel)
theorem dX11_takeRow_40 : decode cX11_takeRow 40 = .ok (.aload_n 0, 1) := dq_42 (by decide +kernel)
theorem dX11_takeRow_41 : decode cX11_takeRow 41 = .ok (.getfield 69, 3) := dq_180 (a := 0) (b := 69) (by decide +kernel) rfl
theorem dX11_takeRow_44 : decode cX11_takeRow 44 = .ok (.getfield 136, 3) := dq_180 (a := 0) (b := 136) (by decide +kernel) rfl
theorem dX11_takeRow_47 : decode cX11_takeRow 47 = .ok (.if_icmp .ge 37, 3) := dq_162 (a := 0) (b := 37) (by decide +kernel) (by decide +kernel)
theorem dX11_takeRow_50 : decode cX11_takeRow 50 = .ok (.aload_n 0, 1) := dq_42 (by decide +kernel)
theorem dX11_takeRow_51 : decode cX11_takeRow 51 = .ok (.getfield 53, 3) := dq_180 (a := 0) (b := 53) (by decide +kernel) rfl
theorem dX11_takeRow_54 : decode cX11_takeRow 54 = .ok (.iload_n 2, 1) := dq_28 (by decide +kernel)
theorem dX11_takeRow_55 : decode cX11_takeRow 55 = .ok (.aload_n 0, 1) := dq_42 (by decide +kernel)
theorem dX11_takeRow_56 : decode cX11_takeRow 56 = .ok (.getfield 20, 3) := dq_180 (a := 0) (b := 20) (by decide +kernel) rfl
theorem dX11_takeRow_59 : decode cX11_takeRow 59 = .ok (.iload_n 2, 1) := dq_28 (by decide +kernel)
theorem dX11_takeRow_60 : decode cX11_takeRow 60 = .ok (.invokevirtual 214, 3) := dq_182 (a := 0) (b := 214) (by decide +kernel) rfl
theorem dX11_takeRow_63 : decode cX11_takeRow 63 = .ok (.iastore, 1) := dq_79 (by decide +kernel)
theorem dX11_takeRow_64 : decode cX11_takeRow 64 = .ok (.aload_n 0, 1) := dq_42 (by decide +kernel)
theorem dX11_takeRow_65 : decode cX11_takeRow 65 = .ok (.getfield 69, 3) := dq_180 (a := 0) (b := 69) (by decide +kernel) rfl
theorem dX11_takeRow_68 : decode cX11_takeRow 68 = .ok (.aload_n 0, 1) := dq_42 (by decide +kernel)
theorem dX11_takeRow_69 : decode cX11_takeRow 69 = .ok (.getfield 53, 3) := dq_180 (a := 0) (b := 53) (by decide +kernel) rfl
theorem dX11_takeRow_72 : decode cX11_takeRow 72 = .ok (.iload_n 2, 1) := dq_28 (by decide +kernel)
theorem dX11_takeRow_73 : decode cX11_takeRow 73 = .ok (.iaload, 1) := dq_46 (by decide +kernel)
theorem dX11_takeRow_74 : decode cX11_takeRow 74 = .ok (.invokevirtual 217, 3) := dq_182 (a := 0) (b := 217) (by decide +kernel) rfl
theorem dX11_takeRow_77 : decode cX11_takeRow 77 = .ok (.istore_n 1, 1) := dq_60 (by decide +kernel)
theorem dX11_takeRow_78 : decode cX11_takeRow 78 = .ok (.iinc 2 1, 3) := dq_132 (a := 2) (b := 1) (by decide +kernel) rfl (by decide +kernel)
theorem dX11_takeRow_81 : decode cX11_takeRow 81 = .ok (.goto (-46), 3) := dq_167 (a := 255) (b := 210) (by decide +kernel) (by decide +kernel)
theorem dX11_send_4 : decode cX11_send 4 = .ok (.ifCond .ne 5, 3) := dq_154 (a := 0) (b := 5) (by decide +kernel) (by decide +kernel)
theorem dX11_send_9 : decode cX11_send 9 = .ok (.iconst 0, 1) := dq_3 (by decide +kernel)
theorem dX11_send_10 : decode cX11_send 10 = .ok (.istore_n 1, 1) := dq_60 (by decide +kernel)
theorem dX11_send_11 : decode cX11_send 11 = .ok (.iload_n 1, 1) := dq_27 (by decide +kernel)
theorem dX11_send_12 : decode cX11_send 12 = .ok (.aload_n 0, 1) := dq_42 (by decide +kernel)
theorem dX11_send_13 : decode cX11_send 13 = .ok (.getfield 69, 3) := dq_180 (a := 0) (b := 69) (by decide +kernel) rfl
theorem dX11_send_16 : decode cX11_send 16 = .ok (.getfield 139, 3) := dq_180 (a := 0) (b := 139) (by decide +kernel) rfl
theorem dX11_send_19 : decode cX11_send 19 = .ok (.if_icmp .ge 37, 3) := dq_162 (a := 0) (b := 37) (by decide +kernel) (by decide +kernel)
theorem dX11_send_56 : decode cX11_send 56 = .ok (.aload_n 0, 1) := dq_42 (by decide +kernel)
theorem dX11_send_57 : decode cX11_send 57 = .ok (.getfield 24, 3) := dq_180 (a := 0) (b := 24) (by decide +kernel) rfl
theorem dX11_send_60 : decode cX11_send 60 = .ok (.invokevirtual 118, 3) := dq_182 (a := 0) (b := 118) (by decide +kernel) rfl
theorem dX11_send_63 : decode cX11_send 63 = .ok (.iconst 1, 1) := dq_4 (by decide +kernel)
theorem dX11_send_64 : decode cX11_send 64 = .ok (.ireturn, 1) := dq_172 (by decide +kernel)
theorem dX11_send_22 : decode cX11_send 22 = .ok (.aload_n 0, 1) := dq_42 (by decide +kernel)
theorem dX11_send_23 : decode cX11_send 23 = .ok (.getfield 49, 3) := dq_180 (a := 0) (b := 49) (by decide +kernel) rfl
theorem dX11_send_26 : decode cX11_send 26 = .ok (.iload_n 1, 1) := dq_27 (by decide +kernel)
theorem dX11_send_27 : decode cX11_send 27 = .ok (.aload_n 0, 1) := dq_42 (by decide +kernel)
theorem dX11_send_28 : decode cX11_send 28 = .ok (.getfield 69, 3) := dq_180 (a := 0) (b := 69) (by decide +kernel) rfl
theorem dX11_send_31 : decode cX11_send 31 = .ok (.getfield 193, 3) := dq_180 (a := 0) (b := 193) (by decide +kernel) rfl
theorem dX11_send_34 : decode cX11_send 34 = .ok (.iload_n 1, 1) := dq_27 (by decide +kernel)
theorem dX11_send_35 : decode cX11_send 35 = .ok (.aload_n 0, 1) := dq_42 (by decide +kernel)
theorem dX11_send_36 : decode cX11_send 36 = .ok (.getfield 53, 3) := dq_180 (a := 0) (b := 53) (by decide +kernel) rfl
theorem dX11_send_39 : decode cX11_send 39 = .ok (.aload_n 0, 1) := dq_42 (by decide +kernel)
theorem dX11_send_40 : decode cX11_send 40 = .ok (.getfield 69, 3) := dq_180 (a := 0) (b := 69) (by decide +kernel) rfl
theorem dX11_send_43 : decode cX11_send 43 = .ok (.getfield 136, 3) := dq_180 (a := 0) (b := 136) (by decide +kernel) rfl
theorem dX11_send_46 : decode cX11_send 46 = .ok (.invokevirtual 204, 3) := dq_182 (a := 0) (b := 204) (by decide +kernel) rfl
theorem dX11_send_49 : decode cX11_send 49 = .ok (.iastore, 1) := dq_79 (by decide +kernel)
theorem dX11_send_50 : decode cX11_send 50 = .ok (.iinc 1 1, 3) := dq_132 (a := 1) (b := 1) (by decide +kernel) rfl (by decide +kernel)
theorem dX11_send_53 : decode cX11_send 53 = .ok (.goto (-42), 3) := dq_167 (a := 255) (b := 214) (by decide +kernel) (by decide +kernel)
theorem dX11_send_7 : decode cX11_send 7 = .ok (.iconst 0, 1) := dq_3 (by decide +kernel)
theorem dX11_send_8 : decode cX11_send 8 = .ok (.ireturn, 1) := dq_172 (by decide +kernel)
theorem dX11_distance_0 : decode cX11_distance 0 = .ok (.aload_n 0, 1) := dq_42 (by decide +kernel)
theorem dX11_distance_1 : decode cX11_distance 1 = .ok (.invokevirtual 201, 3) := dq_182 (a := 0) (b := 201) (by decide +kernel) rfl
theorem dX11_distance_4 : decode cX11_distance 4 = .ok (.ifCond .eq 21, 3) := dq_153 (a := 0) (b := 21) (by decide +kernel) (by decide +kernel)
theorem dX11_distance_25 : decode cX11_distance 25 = .ok (.ldc2_w 212, 3) := dq_20 (a := 0) (b := 212) (by decide +kernel) rfl
theorem dX11_distance_28 : decode cX11_distance 28 = .ok (.lreturn, 1) := dq_173 (by decide +kernel)
theorem dX11_distance_7 : decode cX11_distance 7 = .ok (.aload_n 0, 1) := dq_42 (by decide +kernel)
theorem dX11_distance_8 : decode cX11_distance 8 = .ok (.getfield 69, 3) := dq_180 (a := 0) (b := 69) (by decide +kernel) rfl
theorem dX11_distance_11 : decode cX11_distance 11 = .ok (.aload_n 0, 1) := dq_42 (by decide +kernel)
theorem dX11_distance_12 : decode cX11_distance 12 = .ok (.getfield 53, 3) := dq_180 (a := 0) (b := 53) (by decide +kernel) rfl
theorem dX11_distance_15 : decode cX11_distance 15 = .ok (.aload_n 0, 1) := dq_42 (by decide +kernel)
theorem dX11_distance_16 : decode cX11_distance 16 = .ok (.getfield 49, 3) := dq_180 (a := 0) (b := 49) (by decide +kernel) rfl
theorem dX11_distance_19 : decode cX11_distance 19 = .ok (.invokevirtual 208, 3) := dq_182 (a := 0) (b := 208) (by decide +kernel) rfl
theorem dX11_distance_22 : decode cX11_distance 22 = .ok (.goto 6, 3) := dq_167 (a := 0) (b := 6) (by decide +kernel) (by decide +kernel)
theorem dX11_slips_0 : decode cX11_slips 0 = .ok (.iload_n 1, 1) := dq_27 (by decide +kernel)
theorem dX11_slips_1 : decode cX11_slips 1 = .ok (.ifCond .lt 20, 3) := dq_155 (a := 0) (b := 20) (by decide +kernel) (by decide +kernel)
theorem dX11_slips_21 : decode cX11_slips 21 = .ok (.iconst (-1), 1) := dq_2 (by decide +kernel)
theorem dX11_slips_22 : decode cX11_slips 22 = .ok (.ireturn, 1) := dq_172 (by decide +kernel)
theorem dX11_slips_4 : decode cX11_slips 4 = .ok (.iload_n 1, 1) := dq_27 (by decide +kernel)
theorem dX11_slips_5 : decode cX11_slips 5 = .ok (.sipush 9999, 3) := dq_17 (a := 39) (b := 15) (by decide +kernel) (by decide +kernel)
theorem dX11_slips_8 : decode cX11_slips 8 = .ok (.if_icmp .gt 13, 3) := dq_163 (a := 0) (b := 13) (by decide +kernel) (by decide +kernel)
theorem dX11_slips_11 : decode cX11_slips 11 = .ok (.aload_n 0, 1) := dq_42 (by decide +kernel)
theorem dX11_slips_12 : decode cX11_slips 12 = .ok (.getfield 69, 3) := dq_180 (a := 0) (b := 69) (by decide +kernel) rfl
theorem dX11_slips_15 : decode cX11_slips 15 = .ok (.getfield 139, 3) := dq_180 (a := 0) (b := 139) (by decide +kernel) rfl
theorem dX11_slips_18 : decode cX11_slips 18 = .ok (.ifCond .ne 5, 3) := dq_154 (a := 0) (b := 5) (by decide +kernel) (by decide +kernel)
theorem dX11_slips_23 : decode cX11_slips 23 = .ok (.iload_n 2, 1) := dq_28 (by decide +kernel)
theorem dX11_slips_24 : decode cX11_slips 24 = .ok (.i2l, 1) := dq_133 (by decide +kernel)
theorem dX11_slips_25 : decode cX11_slips 25 = .ok (.lstore_n 3, 1) := dq_66 (by decide +kernel)
theorem dX11_slips_26 : decode cX11_slips 26 = .ok (.iconst 0, 1) := dq_3 (by decide +kernel)
theorem dX11_slips_27 : decode cX11_slips 27 = .ok (.istore 5, 2) := dq_54 (a := 5) (by decide +kernel) rfl
theorem dX11_slips_29 : decode cX11_slips 29 = .ok (.iload 5, 2) := dq_21 (a := 5) (by decide +kernel) rfl
theorem dX11_slips_31 : decode cX11_slips 31 = .ok (.aload_n 0, 1) := dq_42 (by decide +kernel)
theorem dX11_slips_32 : decode cX11_slips 32 = .ok (.getfield 69, 3) := dq_180 (a := 0) (b := 69) (by decide +kernel) rfl
theorem dX11_slips_35 : decode cX11_slips 35 = .ok (.getfield 139, 3) := dq_180 (a := 0) (b := 139) (by decide +kernel) rfl
theorem dX11_slips_38 : decode cX11_slips 38 = .ok (.if_icmp .ge 77, 3) := dq_162 (a := 0) (b := 77) (by decide +kernel) (by decide +kernel)
theorem dX11_slips_115 : decode cX11_slips 115 = .ok (.aload_n 0, 1) := dq_42 (by decide +kernel)
theorem dX11_slips_116 : decode cX11_slips 116 = .ok (.getfield 24, 3) := dq_180 (a := 0) (b := 24) (by decide +kernel) rfl
theorem dX11_slips_119 : decode cX11_slips 119 = .ok (.invokevirtual 118, 3) := dq_182 (a := 0) (b := 118) (by decide +kernel) rfl
theorem dX11_slips_122 : decode cX11_slips 122 = .ok (.aload_n 0, 1) := dq_42 (by decide +kernel)
theorem dX11_slips_123 : decode cX11_slips 123 = .ok (.getfield 69, 3) := dq_180 (a := 0) (b := 69) (by decide +kernel) rfl
theorem dX11_slips_126 : decode cX11_slips 126 = .ok (.getfield 139, 3) := dq_180 (a := 0) (b := 139) (by decide +kernel) rfl
theorem dX11_slips_129 : decode cX11_slips 129 = .ok (.ireturn, 1) := dq_172 (by decide +kernel)
theorem dX11_slips_41 : decode cX11_slips 41 = .ok (.ldc2_w 220, 3) := dq_20 (a := 0) (b := 220) (by decide +kernel) rfl
theorem dX11_slips_44 : decode cX11_slips 44 = .ok (.lload_n 3, 1) := dq_33 (by decide +kernel)
theorem dX11_slips_45 : decode cX11_slips 45 = .ok (.lmul, 1) := dq_105 (by decide +kernel)
theorem dX11_slips_46 : decode cX11_slips 46 = .ok (.ldc2_w 222, 3) := dq_20 (a := 0) (b := 222) (by decide +kernel) rfl
theorem dX11_slips_49 : decode cX11_slips 49 = .ok (.ladd, 1) := dq_97 (by decide +kernel)
theorem dX11_slips_50 : decode cX11_slips 50 = .ok (.ldc2_w 224, 3) := dq_20 (a := 0) (b := 224) (by decide +kernel) rfl
theorem dX11_slips_53 : decode cX11_slips 53 = .ok (.land, 1) := dq_127 (by decide +kernel)
theorem dX11_slips_54 : decode cX11_slips 54 = .ok (.lstore_n 3, 1) := dq_66 (by decide +kernel)
theorem dX11_slips_55 : decode cX11_slips 55 = .ok (.lload_n 3, 1) := dq_33 (by decide +kernel)
theorem dX11_slips_56 : decode cX11_slips 56 = .ok (.ldc2_w 226, 3) := dq_20 (a := 0) (b := 226) (by decide +kernel) rfl
theorem dX11_slips_59 : decode cX11_slips 59 = .ok (.ldiv, 1) := dq_109 (by decide +kernel)
theorem dX11_slips_60 : decode cX11_slips 60 = .ok (.ldc2_w 228, 3) := dq_20 (a := 0) (b := 228) (by decide +kernel) rfl
theorem dX11_slips_63 : decode cX11_slips 63 = .ok (.iload_n 1, 1) := dq_27 (by decide +kernel)
theorem dX11_slips_64 : decode cX11_slips 64 = .ok (.i2l, 1) := dq_133 (by decide +kernel)
theorem dX11_slips_65 : decode cX11_slips 65 = .ok (.lmul, 1) := dq_105 (by decide +kernel)
theorem dX11_slips_66 : decode cX11_slips 66 = .ok (.lconst 1, 1) := dq_10 (by decide +kernel)
theorem dX11_slips_67 : decode cX11_slips 67 = .ok (.ladd, 1) := dq_97 (by decide +kernel)
theorem dX11_slips_68 : decode cX11_slips 68 = .ok (.lrem, 1) := dq_113 (by decide +kernel)
theorem dX11_slips_69 : decode cX11_slips 69 = .ok (.iload_n 1, 1) := dq_27 (by decide +kernel)
theorem dX11_slips_70 : decode cX11_slips 70 = .ok (.i2l, 1) := dq_133 (by decide +kernel)
theorem dX11_slips_71 : decode cX11_slips 71 = .ok (.lsub, 1) := dq_101 (by decide +kernel)
theorem dX11_slips_72 : decode cX11_slips 72 = .ok (.lstore 6, 2) := dq_55 (a := 6) (by decide +kernel) rfl
theorem dX11_slips_74 : decode cX11_slips 74 = .ok (.aload_n 0, 1) := dq_42 (by decide +kernel)
theorem dX11_slips_75 : decode cX11_slips 75 = .ok (.getfield 49, 3) := dq_180 (a := 0) (b := 49) (by decide +kernel) rfl
theorem dX11_slips_78 : decode cX11_slips 78 = .ok (.iload 5, 2) := dq_21 (a := 5) (by decide +kernel) rfl
theorem dX11_slips_80 : decode cX11_slips 80 = .ok (.iaload, 1) := dq_46 (by decide +kernel)
theorem dX11_slips_81 : decode cX11_slips 81 = .ok (.i2l, 1) := dq_133 (by decide +kernel)
theorem dX11_slips_82 : decode cX11_slips 82 = .ok (.lload 6, 2) := dq_22 (a := 6) (by decide +kernel) rfl
theorem dX11_slips_84 : decode cX11_slips 84 = .ok (.ladd, 1) := dq_97 (by decide +kernel)
theorem dX11_slips_85 : decode cX11_slips 85 = .ok (.lstore 8, 2) := dq_55 (a := 8) (by decide +kernel) rfl
theorem dX11_slips_87 : decode cX11_slips 87 = .ok (.aload_n 0, 1) := dq_42 (by decide +kernel)
theorem dX11_slips_88 : decode cX11_slips 88 = .ok (.getfield 49, 3) := dq_180 (a := 0) (b := 49) (by decide +kernel) rfl
theorem dX11_slips_91 : decode cX11_slips 91 = .ok (.iload 5, 2) := dq_21 (a := 5) (by decide +kernel) rfl
theorem dX11_slips_93 : decode cX11_slips 93 = .ok (.ldc2_w 230, 3) := dq_20 (a := 0) (b := 230) (by decide +kernel) rfl
theorem dX11_slips_96 : decode cX11_slips 96 = .ok (.ldc2_w 232, 3) := dq_20 (a := 0) (b := 232) (by decide +kernel) rfl
theorem dX11_slips_99 : decode cX11_slips 99 = .ok (.lload 8, 2) := dq_22 (a := 8) (by decide +kernel) rfl
theorem dX11_slips_101 : decode cX11_slips 101 = .ok (.invokestatic 234, 3) := dq_184 (a := 0) (b := 234) (by decide +kernel) rfl
theorem dX11_slips_104 : decode cX11_slips 104 = .ok (.invokestatic 240, 3) := dq_184 (a := 0) (b := 240) (by decide +kernel) rfl
theorem dX11_slips_107 : decode cX11_slips 107 = .ok (.l2i, 1) := dq_136 (by decide +kernel)
theorem dX11_slips_108 : decode cX11_slips 108 = .ok (.iastore, 1) := dq_79 (by decide +kernel)
theorem dX11_slips_109 : decode cX11_slips 109 = .ok (.iinc 5 1, 3) := dq_132 (a := 5) (b := 1) (by decide +kernel) rfl (by decide +kernel)
theorem dX11_slips_112 : decode cX11_slips 112 = .ok (.goto (-83), 3) := dq_167 (a := 255) (b := 173) (by decide +kernel) (by decide +kernel)
theorem dX11_nearest_0 : decode cX11_nearest 0 = .ok (.aload_n 0, 1) := dq_42 (by decide +kernel)
theorem dX11_nearest_1 : decode cX11_nearest 1 = .ok (.getfield 69, 3) := dq_180 (a := 0) (b := 69) (by decide +kernel) rfl
theorem dX11_nearest_4 : decode cX11_nearest 4 = .ok (.iload_n 2, 1) := dq_28 (by decide +kernel)
theorem dX11_nearest_5 : decode cX11_nearest 5 = .ok (.invokevirtual 172, 3) := dq_182 (a := 0) (b := 172) (by decide +kernel) rfl
theorem dX11_nearest_8 : decode cX11_nearest 8 = .ok (.ifCond .eq 11, 3) := dq_153 (a := 0) (b := 11) (by decide +kernel) (by decide +kernel)
theorem dX11_nearest_19 : decode cX11_nearest 19 = .ok (.ldc 175, 2) := dq_18 (a := 175) (by decide +kernel) rfl
theorem dX11_nearest_21 : decode cX11_nearest 21 = .ok (.ireturn, 1) := dq_172 (by decide +kernel)
theorem dX11_nearest_11 : decode cX11_nearest 11 = .ok (.aload_n 0, 1) := dq_42 (by decide +kernel)
theorem dX11_nearest_12 : decode cX11_nearest 12 = .ok (.iload_n 1, 1) := dq_27 (by decide +kernel)
theorem dX11_nearest_13 : decode cX11_nearest 13 = .ok (.invokevirtual 243, 3) := dq_182 (a := 0) (b := 243) (by decide +kernel) rfl
theorem dX11_isNear_0 : decode cX11_isNear 0 = .ok (.aload_n 0, 1) := dq_42 (by decide +kernel)
theorem dX11_isNear_1 : decode cX11_isNear 1 = .ok (.getfield 24, 3) := dq_180 (a := 0) (b := 24) (by decide +kernel) rfl
theorem dX11_isNear_4 : decode cX11_isNear 4 = .ok (.aload_n 0, 1) := dq_42 (by decide +kernel)
theorem dX11_isNear_5 : decode cX11_isNear 5 = .ok (.getfield 69, 3) := dq_180 (a := 0) (b := 69) (by decide +kernel) rfl
theorem dX11_isNear_8 : decode cX11_isNear 8 = .ok (.aload_n 0, 1) := dq_42 (by decide +kernel)
theorem dX11_isNear_9 : decode cX11_isNear 9 = .ok (.getfield 49, 3) := dq_180 (a := 0) (b := 49) (by decide +kernel) rfl
theorem dX11_isNear_12 : decode cX11_isNear 12 = .ok (.invokevirtual 256, 3) := dq_182 (a := 1) (b := 0) (by decide +kernel) rfl
theorem dX11_isNear_15 : decode cX11_isNear 15 = .ok (.iload_n 1, 1) := dq_27 (by decide +kernel)
theorem dX11_isNear_16 : decode cX11_isNear 16 = .ok (.ifCond .lt 18, 3) := dq_155 (a := 0) (b := 18) (by decide +kernel) (by decide +kernel)
theorem dX11_isNear_34 : decode cX11_isNear 34 = .ok (.iconst 0, 1) := dq_3 (by decide +kernel)
theorem dX11_isNear_35 : decode cX11_isNear 35 = .ok (.ireturn, 1) := dq_172 (by decide +kernel)
theorem dX11_isNear_19 : decode cX11_isNear 19 = .ok (.iload_n 1, 1) := dq_27 (by decide +kernel)
theorem dX11_isNear_20 : decode cX11_isNear 20 = .ok (.aload_n 0, 1) := dq_42 (by decide +kernel)
theorem dX11_isNear_21 : decode cX11_isNear 21 = .ok (.getfield 24, 3) := dq_180 (a := 0) (b := 24) (by decide +kernel) rfl
theorem dX11_isNear_24 : decode cX11_isNear 24 = .ok (.getfield 260, 3) := dq_180 (a := 1) (b := 4) (by decide +kernel) rfl
theorem dX11_isNear_27 : decode cX11_isNear 27 = .ok (.if_icmp .ge 7, 3) := dq_162 (a := 0) (b := 7) (by decide +kernel) (by decide +kernel)
theorem dX11_isNear_30 : decode cX11_isNear 30 = .ok (.iconst 1, 1) := dq_4 (by decide +kernel)
theorem dX11_isNear_31 : decode cX11_isNear 31 = .ok (.goto 4, 3) := dq_167 (a := 0) (b := 4) (by decide +kernel) (by decide +kernel)
theorem dX11_nearest_16 : decode cX11_nearest 16 = .ok (.ifCond .ne 6, 3) := dq_154 (a := 0) (b := 6) (by decide +kernel) (by decide +kernel)
theorem dX11_nearest_22 : decode cX11_nearest 22 = .ok (.aload_n 0, 1) := dq_42 (by decide +kernel)
theorem dX11_nearest_23 : decode cX11_nearest 23 = .ok (.getfield 69, 3) := dq_180 (a := 0) (b := 69) (by decide +kernel) rfl
theorem dX11_nearest_26 : decode cX11_nearest 26 = .ok (.aload_n 0, 1) := dq_42 (by decide +kernel)
theorem dX11_nearest_27 : decode cX11_nearest 27 = .ok (.getfield 24, 3) := dq_180 (a := 0) (b := 24) (by decide +kernel) rfl
theorem dX11_nearest_30 : decode cX11_nearest 30 = .ok (.getfield 246, 3) := dq_180 (a := 0) (b := 246) (by decide +kernel) rfl
theorem dX11_nearest_33 : decode cX11_nearest 33 = .ok (.iload_n 1, 1) := dq_27 (by decide +kernel)
theorem dX11_nearest_34 : decode cX11_nearest 34 = .ok (.iaload, 1) := dq_46 (by decide +kernel)
theorem dX11_nearest_35 : decode cX11_nearest 35 = .ok (.iload_n 2, 1) := dq_28 (by decide +kernel)
theorem dX11_nearest_36 : decode cX11_nearest 36 = .ok (.invokevirtual 249, 3) := dq_182 (a := 0) (b := 249) (by decide +kernel) rfl
theorem dX11_nearest_39 : decode cX11_nearest 39 = .ok (.ireturn, 1) := dq_172 (by decide +kernel)
theorem dX11_near_0 : decode cX11_near 0 = .ok (.aload_n 0, 1) := dq_42 (by decide +kernel)
theorem dX11_near_1 : decode cX11_near 1 = .ok (.iload_n 1, 1) := dq_27 (by decide +kernel)
theorem dX11_near_2 : decode cX11_near 2 = .ok (.invokevirtual 243, 3) := dq_182 (a := 0) (b := 243) (by decide +kernel) rfl
theorem dX11_near_5 : decode cX11_near 5 = .ok (.ifCond .eq 15, 3) := dq_153 (a := 0) (b := 15) (by decide +kernel) (by decide +kernel)
theorem dX11_near_20 : decode cX11_near 20 = .ok (.ldc2_w 212, 3) := dq_20 (a := 0) (b := 212) (by decide +kernel) rfl
theorem dX11_near_23 : decode cX11_near 23 = .ok (.lreturn, 1) := dq_173 (by decide +kernel)
theorem dX11_near_8 : decode cX11_near 8 = .ok (.aload_n 0, 1) := dq_42 (by decide +kernel)
theorem dX11_near_9 : decode cX11_near 9 = .ok (.getfield 24, 3) := dq_180 (a := 0) (b := 24) (by decide +kernel) rfl
theorem dX11_near_12 : decode cX11_near 12 = .ok (.getfield 252, 3) := dq_180 (a := 0) (b := 252) (by decide +kernel) rfl
theorem dX11_near_15 : decode cX11_near 15 = .ok (.iload_n 1, 1) := dq_27 (by decide +kernel)
theorem dX11_near_16 : decode cX11_near 16 = .ok (.laload, 1) := dq_47 (by decide +kernel)
theorem dX11_near_17 : decode cX11_near 17 = .ok (.goto 6, 3) := dq_167 (a := 0) (b := 6) (by decide +kernel) (by decide +kernel)
theorem dX11_within_0 : decode cX11_within 0 = .ok (.lload_n 1, 1) := dq_31 (by decide +kernel)
theorem dX11_within_1 : decode cX11_within 1 = .ok (.lconst 0, 1) := dq_9 (by decide +kernel)
theorem dX11_within_2 : decode cX11_within 2 = .ok (.lcmp, 1) := dq_148 (by decide +kernel)
theorem dX11_within_3 : decode cX11_within 3 = .ok (.ifCond .ge 7, 3) := dq_156 (a := 0) (b := 7) (by decide +kernel) (by decide +kernel)
theorem dX11_within_10 : decode cX11_within 10 = .ok (.aload_n 0, 1) := dq_42 (by decide +kernel)
theorem dX11_within_11 : decode cX11_within 11 = .ok (.getfield 24, 3) := dq_180 (a := 0) (b := 24) (by decide +kernel) rfl
theorem dX11_within_14 : decode cX11_within 14 = .ok (.aload_n 0, 1) := dq_42 (by decide +kernel)
theorem dX11_within_15 : decode cX11_within 15 = .ok (.getfield 69, 3) := dq_180 (a := 0) (b := 69) (by decide +kernel) rfl
theorem dX11_within_18 : decode cX11_within 18 = .ok (.aload_n 0, 1) := dq_42 (by decide +kernel)
theorem dX11_within_19 : decode cX11_within 19 = .ok (.getfield 49, 3) := dq_180 (a := 0) (b := 49) (by decide +kernel) rfl
theorem dX11_within_22 : decode cX11_within 22 = .ok (.lload_n 1, 1) := dq_31 (by decide +kernel)
theorem dX11_within_23 : decode cX11_within 23 = .ok (.aload_n 0, 1) := dq_42 (by decide +kernel)
theorem dX11_within_24 : decode cX11_within 24 = .ok (.getfield 69, 3) := dq_180 (a := 0) (b := 69) (by decide +kernel) rfl
theorem dX11_within_27 : decode cX11_within 27 = .ok (.invokevirtual 263, 3) := dq_182 (a := 1) (b := 7) (by decide +kernel) rfl
theorem dX11_within_30 : decode cX11_within 30 = .ok (.invokevirtual 266, 3) := dq_182 (a := 1) (b := 10) (by decide +kernel) rfl
theorem dX11_within_33 : decode cX11_within 33 = .ok (.ireturn, 1) := dq_172 (by decide +kernel)
theorem dX11_within_6 : decode cX11_within 6 = .ok (.iconst (-1), 1) := dq_2 (by decide +kernel)
theorem dX11_within_7 : decode cX11_within 7 = .ok (.goto 26, 3) := dq_167 (a := 0) (b := 26) (by decide +kernel) (by decide +kernel)
theorem dX11_cancel_0 : decode cX11_cancel 0 = .ok (.aload_n 0, 1) := dq_42 (by decide +kernel)
theorem dX11_cancel_1 : decode cX11_cancel 1 = .ok (.getfield 69, 3) := dq_180 (a := 0) (b := 69) (by decide +kernel) rfl
theorem dX11_cancel_4 : decode cX11_cancel 4 = .ok (.iload_n 1, 1) := dq_27 (by decide +kernel)
theorem dX11_cancel_5 : decode cX11_cancel 5 = .ok (.invokevirtual 172, 3) := dq_182 (a := 0) (b := 172) (by decide +kernel) rfl
theorem dX11_cancel_8 : decode cX11_cancel 8 = .ok (.ifCond .ne 6, 3) := dq_154 (a := 0) (b := 6) (by decide +kernel) (by decide +kernel)
theorem dX11_cancel_14 : decode cX11_cancel 14 = .ok (.aload_n 0, 1) := dq_42 (by decide +kernel)
theorem dX11_cancel_15 : decode cX11_cancel 15 = .ok (.getfield 24, 3) := dq_180 (a := 0) (b := 24) (by decide +kernel) rfl
theorem dX11_cancel_18 : decode cX11_cancel 18 = .ok (.aload_n 0, 1) := dq_42 (by decide +kernel)
theorem dX11_cancel_19 : decode cX11_cancel 19 = .ok (.getfield 69, 3) := dq_180 (a := 0) (b := 69) (by decide +kernel) rfl
theorem dX11_cancel_22 : decode cX11_cancel 22 = .ok (.aload_n 0, 1) := dq_42 (by decide +kernel)
theorem dX11_cancel_23 : decode cX11_cancel 23 = .ok (.getfield 49, 3) := dq_180 (a := 0) (b := 49) (by decide +kernel) rfl
theorem dX11_cancel_26 : decode cX11_cancel 26 = .ok (.invokevirtual 270, 3) := dq_182 (a := 1) (b := 14) (by decide +kernel) rfl
theorem dX11_cancel_29 : decode cX11_cancel 29 = .ok (.aload_n 0, 1) := dq_42 (by decide +kernel)
theorem dX11_cancel_30 : decode cX11_cancel 30 = .ok (.getfield 24, 3) := dq_180 (a := 0) (b := 24) (by decide +kernel) rfl
theorem dX11_cancel_33 : decode cX11_cancel 33 = .ok (.getfield 273, 3) := dq_180 (a := 1) (b := 17) (by decide +kernel) rfl
theorem dX11_cancel_36 : decode cX11_cancel 36 = .ok (.iload_n 1, 1) := dq_27 (by decide +kernel)
theorem dX11_cancel_37 : decode cX11_cancel 37 = .ok (.iaload, 1) := dq_46 (by decide +kernel)
theorem dX11_cancel_38 : decode cX11_cancel 38 = .ok (.ireturn, 1) := dq_172 (by decide +kernel)
theorem dX11_cancel_11 : decode cX11_cancel 11 = .ok (.ldc 175, 2) := dq_18 (a := 175) (by decide +kernel) rfl
theorem dX11_cancel_13 : decode cX11_cancel 13 = .ok (.ireturn, 1) := dq_172 (by decide +kernel)
theorem dX11_order_0 : decode cX11_order 0 = .ok (.aload_n 0, 1) := dq_42 (by decide +kernel)
theorem dX11_order_1 : decode cX11_order 1 = .ok (.getfield 69, 3) := dq_180 (a := 0) (b := 69) (by decide +kernel) rfl
theorem dX11_order_4 : decode cX11_order 4 = .ok (.iload_n 1, 1) := dq_27 (by decide +kernel)
theorem dX11_order_5 : decode cX11_order 5 = .ok (.invokevirtual 172, 3) := dq_182 (a := 0) (b := 172) (by decide +kernel) rfl
theorem dX11_order_8 : decode cX11_order 8 = .ok (.ifCond .ne 5, 3) := dq_154 (a := 0) (b := 5) (by decide +kernel) (by decide +kernel)
theorem dX11_order_13 : decode cX11_order 13 = .ok (.aload_n 0, 1) := dq_42 (by decide +kernel)
theorem dX11_order_14 : decode cX11_order 14 = .ok (.getfield 24, 3) := dq_180 (a := 0) (b := 24) (by decide +kernel) rfl
theorem dX11_order_17 : decode cX11_order 17 = .ok (.aload_n 0, 1) := dq_42 (by decide +kernel)
theorem dX11_order_18 : decode cX11_order 18 = .ok (.getfield 69, 3) := dq_180 (a := 0) (b := 69) (by decide +kernel) rfl
theorem dX11_order_21 : decode cX11_order 21 = .ok (.aload_n 0, 1) := dq_42 (by decide +kernel)
theorem dX11_order_22 : decode cX11_order 22 = .ok (.getfield 49, 3) := dq_180 (a := 0) (b := 49) (by decide +kernel) rfl
theorem dX11_order_25 : decode cX11_order 25 = .ok (.invokevirtual 270, 3) := dq_182 (a := 1) (b := 14) (by decide +kernel) rfl
theorem dX11_order_28 : decode cX11_order 28 = .ok (.aload_n 0, 1) := dq_42 (by decide +kernel)
theorem dX11_order_29 : decode cX11_order 29 = .ok (.getfield 24, 3) := dq_180 (a := 0) (b := 24) (by decide +kernel) rfl
theorem dX11_order_32 : decode cX11_order 32 = .ok (.getfield 276, 3) := dq_180 (a := 1) (b := 20) (by decide +kernel) rfl
theorem dX11_order_35 : decode cX11_order 35 = .ok (.iload_n 1, 1) := dq_27 (by decide +kernel)
theorem dX11_order_36 : decode cX11_order 36 = .ok (.iaload, 1) := dq_46 (by decide +kernel)
theorem dX11_order_37 : decode cX11_order 37 = .ok (.ireturn, 1) := dq_172 (by decide +kernel)
theorem dX11_order_11 : decode cX11_order 11 = .ok (.iconst (-1), 1) := dq_2 (by decide +kernel)
theorem dX11_order_12 : decode cX11_order 12 = .ok (.ireturn, 1) := dq_172 (by decide +kernel)
theorem dX11_left_0 : decode cX11_left 0 = .ok (.aload_n 0, 1) := dq_42 (by decide +kernel)
theorem dX11_left_1 : decode cX11_left 1 = .ok (.getfield 69, 3) := dq_180 (a := 0) (b := 69) (by decide +kernel) rfl
theorem dX11_left_4 : decode cX11_left 4 = .ok (.getfield 136, 3) := dq_180 (a := 0) (b := 136) (by decide +kernel) rfl
theorem dX11_left_7 : decode cX11_left 7 = .ok (.ifCond .ne 7, 3) := dq_154 (a := 0) (b := 7) (by decide +kernel) (by decide +kernel)
theorem dX11_left_14 : decode cX11_left 14 = .ok (.aload_n 0, 1) := dq_42 (by decide +kernel)
theorem dX11_left_15 : decode cX11_left 15 = .ok (.getfield 24, 3) := dq_180 (a := 0) (b := 24) (by decide +kernel) rfl
theorem dX11_left_18 : decode cX11_left 18 = .ok (.aload_n 0, 1) := dq_42 (by decide +kernel)
theorem dX11_left_19 : decode cX11_left 19 = .ok (.getfield 69, 3) := dq_180 (a := 0) (b := 69) (by decide +kernel) rfl
theorem dX11_left_22 : decode cX11_left 22 = .ok (.aload_n 0, 1) := dq_42 (by decide +kernel)
theorem dX11_left_23 : decode cX11_left 23 = .ok (.getfield 49, 3) := dq_180 (a := 0) (b := 49) (by decide +kernel) rfl
theorem dX11_left_26 : decode cX11_left 26 = .ok (.invokevirtual 270, 3) := dq_182 (a := 1) (b := 14) (by decide +kernel) rfl
theorem dX11_left_29 : decode cX11_left 29 = .ok (.aload_n 0, 1) := dq_42 (by decide +kernel)
theorem dX11_left_30 : decode cX11_left 30 = .ok (.getfield 69, 3) := dq_180 (a := 0) (b := 69) (by decide +kernel) rfl
theorem dX11_left_33 : decode cX11_left 33 = .ok (.aload_n 0, 1) := dq_42 (by decide +kernel)
theorem dX11_left_34 : decode cX11_left 34 = .ok (.getfield 24, 3) := dq_180 (a := 0) (b := 24) (by decide +kernel) rfl
theorem dX11_left_37 : decode cX11_left 37 = .ok (.getfield 273, 3) := dq_180 (a := 1) (b := 17) (by decide +kernel) rfl
theorem dX11_left_40 : decode cX11_left 40 = .ok (.aload_n 0, 1) := dq_42 (by decide +kernel)
theorem dX11_left_41 : decode cX11_left 41 = .ok (.getfield 49, 3) := dq_180 (a := 0) (b := 49) (by decide +kernel) rfl
theorem dX11_left_44 : decode cX11_left 44 = .ok (.invokevirtual 208, 3) := dq_182 (a := 0) (b := 208) (by decide +kernel) rfl
theorem dX11_left_47 : decode cX11_left 47 = .ok (.lreturn, 1) := dq_173 (by decide +kernel)
theorem dX11_left_10 : decode cX11_left 10 = .ok (.ldc2_w 212, 3) := dq_20 (a := 0) (b := 212) (by decide +kernel) rfl
theorem dX11_left_13 : decode cX11_left 13 = .ok (.lreturn, 1) := dq_173 (by decide +kernel)
theorem dX11_least_0 : decode cX11_least 0 = .ok (.aload_n 0, 1) := dq_42 (by decide +kernel)
theorem dX11_least_1 : decode cX11_least 1 = .ok (.getfield 69, 3) := dq_180 (a := 0) (b := 69) (by decide +kernel) rfl
theorem dX11_least_4 : decode cX11_least 4 = .ok (.iload_n 1, 1) := dq_27 (by decide +kernel)
theorem dX11_least_5 : decode cX11_least 5 = .ok (.invokevirtual 172, 3) := dq_182 (a := 0) (b := 172) (by decide +kernel) rfl
theorem dX11_least_8 : decode cX11_least 8 = .ok (.ifCond .eq 14, 3) := dq_153 (a := 0) (b := 14) (by decide +kernel) (by decide +kernel)
theorem dX11_least_22 : decode cX11_least 22 = .ok (.ldc2_w 212, 3) := dq_20 (a := 0) (b := 212) (by decide +kernel) rfl
theorem dX11_least_25 : decode cX11_least 25 = .ok (.lreturn, 1) := dq_173 (by decide +kernel)
theorem dX11_least_11 : decode cX11_least 11 = .ok (.aload_n 0, 1) := dq_42 (by decide +kernel)
theorem dX11_least_12 : decode cX11_least 12 = .ok (.getfield 69, 3) := dq_180 (a := 0) (b := 69) (by decide +kernel) rfl
theorem dX11_least_15 : decode cX11_least 15 = .ok (.iload_n 2, 1) := dq_28 (by decide +kernel)
theorem dX11_least_16 : decode cX11_least 16 = .ok (.invokevirtual 217, 3) := dq_182 (a := 0) (b := 217) (by decide +kernel) rfl
theorem dX11_least_19 : decode cX11_least 19 = .ok (.ifCond .ne 7, 3) := dq_154 (a := 0) (b := 7) (by decide +kernel) (by decide +kernel)
theorem dX11_least_26 : decode cX11_least 26 = .ok (.aload_n 0, 1) := dq_42 (by decide +kernel)
theorem dX11_least_27 : decode cX11_least 27 = .ok (.getfield 24, 3) := dq_180 (a := 0) (b := 24) (by decide +kernel) rfl
theorem dX11_least_30 : decode cX11_least 30 = .ok (.aload_n 0, 1) := dq_42 (by decide +kernel)
theorem dX11_least_31 : decode cX11_least 31 = .ok (.getfield 69, 3) := dq_180 (a := 0) (b := 69) (by decide +kernel) rfl
theorem dX11_least_34 : decode cX11_least 34 = .ok (.aload_n 0, 1) := dq_42 (by decide +kernel)
theorem dX11_least_35 : decode cX11_least 35 = .ok (.getfield 49, 3) := dq_180 (a := 0) (b := 49) (by decide +kernel) rfl
theorem dX11_least_38 : decode cX11_least 38 = .ok (.invokevirtual 256, 3) := dq_182 (a := 1) (b := 0) (by decide +kernel) rfl
theorem dX11_least_41 : decode cX11_least 41 = .ok (.aload_n 0, 1) := dq_42 (by decide +kernel)
theorem dX11_least_42 : decode cX11_least 42 = .ok (.getfield 24, 3) := dq_180 (a := 0) (b := 24) (by decide +kernel) rfl
theorem dX11_least_45 : decode cX11_least 45 = .ok (.iload_n 1, 1) := dq_27 (by decide +kernel)
theorem dX11_least_46 : decode cX11_least 46 = .ok (.aload_n 0, 1) := dq_42 (by decide +kernel)
theorem dX11_least_47 : decode cX11_least 47 = .ok (.getfield 69, 3) := dq_180 (a := 0) (b := 69) (by decide +kernel) rfl
theorem dX11_least_50 : decode cX11_least 50 = .ok (.iload_n 2, 1) := dq_28 (by decide +kernel)
theorem dX11_least_51 : decode cX11_least 51 = .ok (.invokevirtual 279, 3) := dq_182 (a := 1) (b := 23) (by decide +kernel) rfl
theorem dX11_least_54 : decode cX11_least 54 = .ok (.invokevirtual 282, 3) := dq_182 (a := 1) (b := 26) (by decide +kernel) rfl
theorem dX11_least_57 : decode cX11_least 57 = .ok (.lreturn, 1) := dq_173 (by decide +kernel)
theorem dX11_share_0 : decode cX11_share 0 = .ok (.aload_n 0, 1) := dq_42 (by decide +kernel)
theorem dX11_share_1 : decode cX11_share 1 = .ok (.getfield 69, 3) := dq_180 (a := 0) (b := 69) (by decide +kernel) rfl
theorem dX11_share_4 : decode cX11_share 4 = .ok (.iload_n 1, 1) := dq_27 (by decide +kernel)
theorem dX11_share_5 : decode cX11_share 5 = .ok (.invokevirtual 172, 3) := dq_182 (a := 0) (b := 172) (by decide +kernel) rfl
theorem dX11_share_8 : decode cX11_share 8 = .ok (.ifCond .eq 14, 3) := dq_153 (a := 0) (b := 14) (by decide +kernel) (by decide +kernel)
theorem dX11_share_22 : decode cX11_share 22 = .ok (.iconst (-1), 1) := dq_2 (by decide +kernel)
theorem dX11_share_23 : decode cX11_share 23 = .ok (.ireturn, 1) := dq_172 (by decide +kernel)
theorem dX11_share_11 : decode cX11_share 11 = .ok (.aload_n 0, 1) := dq_42 (by decide +kernel)
theorem dX11_share_12 : decode cX11_share 12 = .ok (.getfield 69, 3) := dq_180 (a := 0) (b := 69) (by decide +kernel) rfl
theorem dX11_share_15 : decode cX11_share 15 = .ok (.iload_n 2, 1) := dq_28 (by decide +kernel)
theorem dX11_share_16 : decode cX11_share 16 = .ok (.invokevirtual 217, 3) := dq_182 (a := 0) (b := 217) (by decide +kernel) rfl
theorem dX11_share_19 : decode cX11_share 19 = .ok (.ifCond .ne 5, 3) := dq_154 (a := 0) (b := 5) (by decide +kernel) (by decide +kernel)
theorem dX11_share_24 : decode cX11_share 24 = .ok (.aload_n 0, 1) := dq_42 (by decide +kernel)
theorem dX11_share_25 : decode cX11_share 25 = .ok (.getfield 24, 3) := dq_180 (a := 0) (b := 24) (by decide +kernel) rfl
theorem dX11_share_28 : decode cX11_share 28 = .ok (.aload_n 0, 1) := dq_42 (by decide +kernel)
theorem dX11_share_29 : decode cX11_share 29 = .ok (.getfield 69, 3) := dq_180 (a := 0) (b := 69) (by decide +kernel) rfl
theorem dX11_share_32 : decode cX11_share 32 = .ok (.aload_n 0, 1) := dq_42 (by decide +kernel)
theorem dX11_share_33 : decode cX11_share 33 = .ok (.getfield 49, 3) := dq_180 (a := 0) (b := 49) (by decide +kernel) rfl
theorem dX11_share_36 : decode cX11_share 36 = .ok (.invokevirtual 256, 3) := dq_182 (a := 1) (b := 0) (by decide +kernel) rfl
theorem dX11_share_39 : decode cX11_share 39 = .ok (.aload_n 0, 1) := dq_42 (by decide +kernel)
theorem dX11_share_40 : decode cX11_share 40 = .ok (.getfield 24, 3) := dq_180 (a := 0) (b := 24) (by decide +kernel) rfl
theorem dX11_share_43 : decode cX11_share 43 = .ok (.iload_n 1, 1) := dq_27 (by decide +kernel)
theorem dX11_share_44 : decode cX11_share 44 = .ok (.aload_n 0, 1) := dq_42 (by decide +kernel)
theorem dX11_share_45 : decode cX11_share 45 = .ok (.getfield 69, 3) := dq_180 (a := 0) (b := 69) (by decide +kernel) rfl
theorem dX11_share_48 : decode cX11_share 48 = .ok (.iload_n 2, 1) := dq_28 (by decide +kernel)
theorem dX11_share_49 : decode cX11_share 49 = .ok (.invokevirtual 279, 3) := dq_182 (a := 1) (b := 23) (by decide +kernel) rfl
theorem dX11_share_52 : decode cX11_share 52 = .ok (.invokevirtual 286, 3) := dq_182 (a := 1) (b := 30) (by decide +kernel) rfl
theorem dX11_share_55 : decode cX11_share 55 = .ok (.ireturn, 1) := dq_172 (by decide +kernel)
theorem dX11_sure_0 : decode cX11_sure 0 = .ok (.aload_n 0, 1) := dq_42 (by decide +kernel)
theorem dX11_sure_1 : decode cX11_sure 1 = .ok (.getfield 69, 3) := dq_180 (a := 0) (b := 69) (by decide +kernel) rfl
theorem dX11_sure_4 : decode cX11_sure 4 = .ok (.iload_n 1, 1) := dq_27 (by decide +kernel)
theorem dX11_sure_5 : decode cX11_sure 5 = .ok (.invokevirtual 172, 3) := dq_182 (a := 0) (b := 172) (by decide +kernel) rfl
theorem dX11_sure_8 : decode cX11_sure 8 = .ok (.ifCond .eq 11, 3) := dq_153 (a := 0) (b := 11) (by decide +kernel) (by decide +kernel)
theorem dX11_sure_19 : decode cX11_sure 19 = .ok (.ldc2_w 212, 3) := dq_20 (a := 0) (b := 212) (by decide +kernel) rfl
theorem dX11_sure_22 : decode cX11_sure 22 = .ok (.lreturn, 1) := dq_173 (by decide +kernel)
theorem dX11_sure_11 : decode cX11_sure 11 = .ok (.aload_n 0, 1) := dq_42 (by decide +kernel)
theorem dX11_sure_12 : decode cX11_sure 12 = .ok (.iconst 0, 1) := dq_3 (by decide +kernel)
theorem dX11_sure_13 : decode cX11_sure 13 = .ok (.invokevirtual 243, 3) := dq_182 (a := 0) (b := 243) (by decide +kernel) rfl
theorem dX11_sure_16 : decode cX11_sure 16 = .ok (.ifCond .ne 7, 3) := dq_154 (a := 0) (b := 7) (by decide +kernel) (by decide +kernel)
theorem dX11_sure_23 : decode cX11_sure 23 = .ok (.aload_n 0, 1) := dq_42 (by decide +kernel)
theorem dX11_sure_24 : decode cX11_sure 24 = .ok (.getfield 69, 3) := dq_180 (a := 0) (b := 69) (by decide +kernel) rfl
theorem dX11_sure_27 : decode cX11_sure 27 = .ok (.aload_n 0, 1) := dq_42 (by decide +kernel)
theorem dX11_sure_28 : decode cX11_sure 28 = .ok (.getfield 24, 3) := dq_180 (a := 0) (b := 24) (by decide +kernel) rfl
theorem dX11_sure_31 : decode cX11_sure 31 = .ok (.getfield 246, 3) := dq_180 (a := 0) (b := 246) (by decide +kernel) rfl
theorem dX11_sure_34 : decode cX11_sure 34 = .ok (.iconst 0, 1) := dq_3 (by decide +kernel)
theorem dX11_sure_35 : decode cX11_sure 35 = .ok (.iaload, 1) := dq_46 (by decide +kernel)
theorem dX11_sure_36 : decode cX11_sure 36 = .ok (.iload_n 1, 1) := dq_27 (by decide +kernel)
theorem dX11_sure_37 : decode cX11_sure 37 = .ok (.invokevirtual 289, 3) := dq_182 (a := 1) (b := 33) (by decide +kernel) rfl
theorem dX11_sure_40 : decode cX11_sure 40 = .ok (.istore_n 2, 1) := dq_61 (by decide +kernel)
theorem dX11_sure_41 : decode cX11_sure 41 = .ok (.aload_n 0, 1) := dq_42 (by decide +kernel)
theorem dX11_sure_42 : decode cX11_sure 42 = .ok (.getfield 24, 3) := dq_180 (a := 0) (b := 24) (by decide +kernel) rfl
theorem dX11_sure_45 : decode cX11_sure 45 = .ok (.iload_n 1, 1) := dq_27 (by decide +kernel)
theorem dX11_sure_46 : decode cX11_sure 46 = .ok (.iload_n 2, 1) := dq_28 (by decide +kernel)
theorem dX11_sure_47 : decode cX11_sure 47 = .ok (.aload_n 0, 1) := dq_42 (by decide +kernel)
theorem dX11_sure_48 : decode cX11_sure 48 = .ok (.getfield 69, 3) := dq_180 (a := 0) (b := 69) (by decide +kernel) rfl
theorem dX11_sure_51 : decode cX11_sure 51 = .ok (.getfield 133, 3) := dq_180 (a := 0) (b := 133) (by decide +kernel) rfl
theorem dX11_sure_54 : decode cX11_sure 54 = .ok (.invokevirtual 292, 3) := dq_182 (a := 1) (b := 36) (by decide +kernel) rfl
theorem dX11_sure_57 : decode cX11_sure 57 = .ok (.aload_n 0, 1) := dq_42 (by decide +kernel)
theorem dX11_sure_58 : decode cX11_sure 58 = .ok (.getfield 24, 3) := dq_180 (a := 0) (b := 24) (by decide +kernel) rfl
theorem dX11_sure_61 : decode cX11_sure 61 = .ok (.getfield 252, 3) := dq_180 (a := 0) (b := 252) (by decide +kernel) rfl
theorem dX11_sure_64 : decode cX11_sure 64 = .ok (.iconst 0, 1) := dq_3 (by decide +kernel)
theorem dX11_sure_65 : decode cX11_sure 65 = .ok (.laload, 1) := dq_47 (by decide +kernel)
theorem dX11_sure_66 : decode cX11_sure 66 = .ok (.lsub, 1) := dq_101 (by decide +kernel)
theorem dX11_sure_67 : decode cX11_sure 67 = .ok (.lreturn, 1) := dq_173 (by decide +kernel)
theorem dX11_leader_0 : decode cX11_leader 0 = .ok (.aload_n 0, 1) := dq_42 (by decide +kernel)
theorem dX11_leader_1 : decode cX11_leader 1 = .ok (.getfield 69, 3) := dq_180 (a := 0) (b := 69) (by decide +kernel) rfl
theorem dX11_leader_4 : decode cX11_leader 4 = .ok (.iload_n 1, 1) := dq_27 (by decide +kernel)
theorem dX11_leader_5 : decode cX11_leader 5 = .ok (.invokevirtual 172, 3) := dq_182 (a := 0) (b := 172) (by decide +kernel) rfl
theorem dX11_leader_8 : decode cX11_leader 8 = .ok (.ifCond .eq 26, 3) := dq_153 (a := 0) (b := 26) (by decide +kernel) (by decide +kernel)
theorem dX11_leader_34 : decode cX11_leader 34 = .ok (.ldc2_w 308, 3) := dq_20 (a := 1) (b := 52) (by decide +kernel) rfl
theorem dX11_leader_37 : decode cX11_leader 37 = .ok (.lreturn, 1) := dq_173 (by decide +kernel)
theorem dX11_leader_11 : decode cX11_leader 11 = .ok (.aload_n 0, 1) := dq_42 (by decide +kernel)
theorem dX11_leader_12 : decode cX11_leader 12 = .ok (.getfield 69, 3) := dq_180 (a := 0) (b := 69) (by decide +kernel) rfl
theorem dX11_leader_15 : decode cX11_leader 15 = .ok (.iload_n 2, 1) := dq_28 (by decide +kernel)
theorem dX11_leader_16 : decode cX11_leader 16 = .ok (.invokevirtual 172, 3) := dq_182 (a := 0) (b := 172) (by decide +kernel) rfl
theorem dX11_leader_19 : decode cX11_leader 19 = .ok (.ifCond .eq 15, 3) := dq_153 (a := 0) (b := 15) (by decide +kernel) (by decide +kernel)
theorem dX11_leader_22 : decode cX11_leader 22 = .ok (.aload_n 0, 1) := dq_42 (by decide +kernel)
theorem dX11_leader_23 : decode cX11_leader 23 = .ok (.getfield 76, 3) := dq_180 (a := 0) (b := 76) (by decide +kernel) rfl
theorem dX11_leader_26 : decode cX11_leader 26 = .ok (.iload_n 1, 1) := dq_27 (by decide +kernel)
theorem dX11_leader_27 : decode cX11_leader 27 = .ok (.iload_n 2, 1) := dq_28 (by decide +kernel)
theorem dX11_leader_28 : decode cX11_leader 28 = .ok (.invokevirtual 305, 3) := dq_182 (a := 1) (b := 49) (by decide +kernel) rfl
theorem dX2_leaderAt_0 : decode cX2_leaderAt 0 = .ok (.aload_n 0, 1) := dq_42 (by decide +kernel)
theorem dX2_leaderAt_1 : decode cX2_leaderAt 1 = .ok (.getfield 18, 3) := dq_180 (a := 0) (b := 18) (by decide +kernel) rfl
theorem dX2_leaderAt_4 : decode cX2_leaderAt 4 = .ok (.iload_n 2, 1) := dq_28 (by decide +kernel)
theorem dX2_leaderAt_5 : decode cX2_leaderAt 5 = .ok (.iconst 5, 1) := dq_8 (by decide +kernel)
theorem dX2_leaderAt_6 : decode cX2_leaderAt 6 = .ok (.imul, 1) := dq_104 (by decide +kernel)
theorem dX2_leaderAt_7 : decode cX2_leaderAt 7 = .ok (.iload_n 1, 1) := dq_27 (by decide +kernel)
theorem dX2_leaderAt_8 : decode cX2_leaderAt 8 = .ok (.iadd, 1) := dq_96 (by decide +kernel)
theorem dX2_leaderAt_9 : decode cX2_leaderAt 9 = .ok (.laload, 1) := dq_47 (by decide +kernel)
theorem dX2_leaderAt_10 : decode cX2_leaderAt 10 = .ok (.lreturn, 1) := dq_173 (by decide +kernel)
theorem dX11_leader_31 : decode cX11_leader 31 = .ok (.goto 6, 3) := dq_167 (a := 0) (b := 6) (by decide +kernel) (by decide +kernel)
theorem dX11_step_0 : decode cX11_step 0 = .ok (.iload_n 1, 1) := dq_27 (by decide +kernel)
theorem dX11_step_1 : decode cX11_step 1 = .ok (.ifCond .lt 23, 3) := dq_155 (a := 0) (b := 23) (by decide +kernel) (by decide +kernel)
theorem dX11_step_24 : decode cX11_step 24 = .ok (.ldc 175, 2) := dq_18 (a := 175) (by decide +kernel) rfl
theorem dX11_step_26 : decode cX11_step 26 = .ok (.ireturn, 1) := dq_172 (by decide +kernel)
theorem dX11_step_4 : decode cX11_step 4 = .ok (.iload_n 1, 1) := dq_27 (by decide +kernel)
theorem dX11_step_5 : decode cX11_step 5 = .ok (.aload_n 0, 1) := dq_42 (by decide +kernel)
theorem dX11_step_6 : decode cX11_step 6 = .ok (.getfield 76, 3) := dq_180 (a := 0) (b := 76) (by decide +kernel) rfl
theorem dX11_step_9 : decode cX11_step 9 = .ok (.getfield 163, 3) := dq_180 (a := 0) (b := 163) (by decide +kernel) rfl
theorem dX11_step_12 : decode cX11_step 12 = .ok (.if_icmp .ge 12, 3) := dq_162 (a := 0) (b := 12) (by decide +kernel) (by decide +kernel)
theorem dX11_step_15 : decode cX11_step 15 = .ok (.iload_n 2, 1) := dq_28 (by decide +kernel)
theorem dX11_step_16 : decode cX11_step 16 = .ok (.ifCond .lt 8, 3) := dq_155 (a := 0) (b := 8) (by decide +kernel) (by decide +kernel)
theorem dX11_step_19 : decode cX11_step 19 = .ok (.iload_n 2, 1) := dq_28 (by decide +kernel)
theorem dX11_step_20 : decode cX11_step 20 = .ok (.iconst 2, 1) := dq_5 (by decide +kernel)
theorem dX11_step_21 : decode cX11_step 21 = .ok (.if_icmp .le 6, 3) := dq_164 (a := 0) (b := 6) (by decide +kernel) (by decide +kernel)
theorem dX11_step_27 : decode cX11_step 27 = .ok (.aload_n 0, 1) := dq_42 (by decide +kernel)
theorem dX11_step_28 : decode cX11_step 28 = .ok (.getfield 76, 3) := dq_180 (a := 0) (b := 76) (by decide +kernel) rfl
theorem dX11_step_31 : decode cX11_step 31 = .ok (.iload_n 1, 1) := dq_27 (by decide +kernel)
theorem dX11_step_32 : decode cX11_step 32 = .ok (.iload_n 2, 1) := dq_28 (by decide +kernel)
theorem dX11_step_33 : decode cX11_step 33 = .ok (.invokevirtual 310, 3) := dq_182 (a := 1) (b := 54) (by decide +kernel) rfl
theorem dX2_stepAt_0 : decode cX2_stepAt 0 = .ok (.aload_n 0, 1) := dq_42 (by decide +kernel)
theorem dX2_stepAt_1 : decode cX2_stepAt 1 = .ok (.getfield 22, 3) := dq_180 (a := 0) (b := 22) (by decide +kernel) rfl
theorem dX2_stepAt_4 : decode cX2_stepAt 4 = .ok (.aload_n 0, 1) := dq_42 (by decide +kernel)
theorem dX2_stepAt_5 : decode cX2_stepAt 5 = .ok (.iload_n 1, 1) := dq_27 (by decide +kernel)
theorem dX2_stepAt_6 : decode cX2_stepAt 6 = .ok (.invokevirtual 56, 3) := dq_182 (a := 0) (b := 56) (by decide +kernel) rfl
theorem dX2_slot_0 : decode cX2_slot 0 = .ok (.aload_n 0, 1) := dq_42 (by decide +kernel)
theorem dX2_slot_1 : decode cX2_slot 1 = .ok (.getfield 30, 3) := dq_180 (a := 0) (b := 30) (by decide +kernel) rfl
theorem dX2_slot_4 : decode cX2_slot 4 = .ok (.iload_n 1, 1) := dq_27 (by decide +kernel)
theorem dX2_slot_5 : decode cX2_slot 5 = .ok (.iadd, 1) := dq_96 (by decide +kernel)
theorem dX2_slot_6 : decode cX2_slot 6 = .ok (.bipush 40, 2) := dq_16 (a := 40) (by decide +kernel) (by decide +kernel)
theorem dX2_slot_8 : decode cX2_slot 8 = .ok (.irem, 1) := dq_112 (by decide +kernel)
theorem dX2_slot_9 : decode cX2_slot 9 = .ok (.iconst 3, 1) := dq_6 (by decide +kernel)
theorem dX2_slot_10 : decode cX2_slot 10 = .ok (.imul, 1) := dq_104 (by decide +kernel)
theorem dX2_slot_11 : decode cX2_slot 11 = .ok (.ireturn, 1) := dq_172 (by decide +kernel)
theorem dX2_stepAt_9 : decode cX2_stepAt 9 = .ok (.iload_n 2, 1) := dq_28 (by decide +kernel)
theorem dX2_stepAt_10 : decode cX2_stepAt 10 = .ok (.iadd, 1) := dq_96 (by decide +kernel)
theorem dX2_stepAt_11 : decode cX2_stepAt 11 = .ok (.iaload, 1) := dq_46 (by decide +kernel)
theorem dX2_stepAt_12 : decode cX2_stepAt 12 = .ok (.ireturn, 1) := dq_172 (by decide +kernel)
theorem dX11_step_36 : decode cX11_step 36 = .ok (.ireturn, 1) := dq_172 (by decide +kernel)
theorem dX11_clash_0 : decode cX11_clash 0 = .ok (.aload_n 0, 1) := dq_42 (by decide +kernel)
theorem dX11_clash_1 : decode cX11_clash 1 = .ok (.getfield 69, 3) := dq_180 (a := 0) (b := 69) (by decide +kernel) rfl
theorem dX11_clash_4 : decode cX11_clash 4 = .ok (.iload_n 1, 1) := dq_27 (by decide +kernel)
theorem dX11_clash_5 : decode cX11_clash 5 = .ok (.invokevirtual 172, 3) := dq_182 (a := 0) (b := 172) (by decide +kernel) rfl
theorem dX11_clash_8 : decode cX11_clash 8 = .ok (.ifCond .eq 19, 3) := dq_153 (a := 0) (b := 19) (by decide +kernel) (by decide +kernel)
theorem dX11_clash_27 : decode cX11_clash 27 = .ok (.iconst (-1), 1) := dq_2 (by decide +kernel)
theorem dX11_clash_28 : decode cX11_clash 28 = .ok (.ireturn, 1) := dq_172 (by decide +kernel)
theorem dX11_clash_11 : decode cX11_clash 11 = .ok (.aload_n 0, 1) := dq_42 (by decide +kernel)
theorem dX11_clash_12 : decode cX11_clash 12 = .ok (.getfield 69, 3) := dq_180 (a := 0) (b := 69) (by decide +kernel) rfl
theorem dX11_clash_15 : decode cX11_clash 15 = .ok (.iload_n 2, 1) := dq_28 (by decide +kernel)
theorem dX11_clash_16 : decode cX11_clash 16 = .ok (.invokevirtual 172, 3) := dq_182 (a := 0) (b := 172) (by decide +kernel) rfl
theorem dX11_clash_19 : decode cX11_clash 19 = .ok (.ifCond .eq 8, 3) := dq_153 (a := 0) (b := 8) (by decide +kernel) (by decide +kernel)
theorem dX11_clash_22 : decode cX11_clash 22 = .ok (.iload_n 1, 1) := dq_27 (by decide +kernel)
theorem dX11_clash_23 : decode cX11_clash 23 = .ok (.iload_n 2, 1) := dq_28 (by decide +kernel)
theorem dX11_clash_24 : decode cX11_clash 24 = .ok (.if_icmp .ne 5, 3) := dq_160 (a := 0) (b := 5) (by decide +kernel) (by decide +kernel)
theorem dX11_clash_29 : decode cX11_clash 29 = .ok (.aload_n 0, 1) := dq_42 (by decide +kernel)
theorem dX11_clash_30 : decode cX11_clash 30 = .ok (.iload_n 3, 1) := dq_29 (by decide +kernel)
theorem dX11_clash_31 : decode cX11_clash 31 = .ok (.invokevirtual 176, 3) := dq_182 (a := 0) (b := 176) (by decide +kernel) rfl
theorem dX11_clash_34 : decode cX11_clash 34 = .ok (.iload_n 1, 1) := dq_27 (by decide +kernel)
theorem dX11_clash_35 : decode cX11_clash 35 = .ok (.iload_n 2, 1) := dq_28 (by decide +kernel)
theorem dX11_clash_36 : decode cX11_clash 36 = .ok (.invokevirtual 313, 3) := dq_182 (a := 1) (b := 57) (by decide +kernel) rfl
theorem dX11_clash_39 : decode cX11_clash 39 = .ok (.ireturn, 1) := dq_172 (by decide +kernel)
theorem dX11_worst_0 : decode cX11_worst 0 = .ok (.aload_n 0, 1) := dq_42 (by decide +kernel)
theorem dX11_worst_1 : decode cX11_worst 1 = .ok (.iload_n 1, 1) := dq_27 (by decide +kernel)
theorem dX11_worst_2 : decode cX11_worst 2 = .ok (.invokevirtual 176, 3) := dq_182 (a := 0) (b := 176) (by decide +kernel) rfl
theorem dX11_worst_5 : decode cX11_worst 5 = .ok (.aload_n 0, 1) := dq_42 (by decide +kernel)
theorem dX11_worst_6 : decode cX11_worst 6 = .ok (.getfield 69, 3) := dq_180 (a := 0) (b := 69) (by decide +kernel) rfl
theorem dX11_worst_9 : decode cX11_worst 9 = .ok (.getfield 136, 3) := dq_180 (a := 0) (b := 136) (by decide +kernel) rfl
theorem dX11_worst_12 : decode cX11_worst 12 = .ok (.invokevirtual 316, 3) := dq_182 (a := 1) (b := 60) (by decide +kernel) rfl
theorem dX11_worst_15 : decode cX11_worst 15 = .ok (.ireturn, 1) := dq_172 (by decide +kernel)
theorem dX11_squares_0 : decode cX11_squares 0 = .ok (.aload_n 0, 1) := dq_42 (by decide +kernel)
theorem dX11_squares_1 : decode cX11_squares 1 = .ok (.iload_n 1, 1) := dq_27 (by decide +kernel)
theorem dX11_squares_2 : decode cX11_squares 2 = .ok (.invokevirtual 176, 3) := dq_182 (a := 0) (b := 176) (by decide +kernel) rfl
theorem dX11_squares_5 : decode cX11_squares 5 = .ok (.invokevirtual 319, 3) := dq_182 (a := 1) (b := 63) (by decide +kernel) rfl
theorem dX11_squares_8 : decode cX11_squares 8 = .ok (.lreturn, 1) := dq_173 (by decide +kernel)
theorem dX11_sums_0 : decode cX11_sums 0 = .ok (.aload_n 0, 1) := dq_42 (by decide +kernel)
theorem dX11_sums_1 : decode cX11_sums 1 = .ok (.getfield 69, 3) := dq_180 (a := 0) (b := 69) (by decide +kernel) rfl
theorem dX11_sums_4 : decode cX11_sums 4 = .ok (.iload_n 1, 1) := dq_27 (by decide +kernel)
theorem dX11_sums_5 : decode cX11_sums 5 = .ok (.invokevirtual 323, 3) := dq_182 (a := 1) (b := 67) (by decide +kernel) rfl
theorem dX11_sums_8 : decode cX11_sums 8 = .ok (.ifCond .eq 29, 3) := dq_153 (a := 0) (b := 29) (by decide +kernel) (by decide +kernel)
theorem dX11_sums_37 : decode cX11_sums 37 = .ok (.ldc2_w 308, 3) := dq_20 (a := 1) (b := 52) (by decide +kernel) rfl
theorem dX11_sums_40 : decode cX11_sums 40 = .ok (.lreturn, 1) := dq_173 (by decide +kernel)
theorem dX11_sums_11 : decode cX11_sums 11 = .ok (.iload_n 2, 1) := dq_28 (by decide +kernel)
theorem dX11_sums_12 : decode cX11_sums 12 = .ok (.iconst 1, 1) := dq_4 (by decide +kernel)
theorem dX11_sums_13 : decode cX11_sums 13 = .ok (.if_icmp .lt 24, 3) := dq_161 (a := 0) (b := 24) (by decide +kernel) (by decide +kernel)
theorem dX11_sums_16 : decode cX11_sums 16 = .ok (.iload_n 2, 1) := dq_28 (by decide +kernel)
theorem dX11_sums_17 : decode cX11_sums 17 = .ok (.iconst 2, 1) := dq_5 (by decide +kernel)
theorem dX11_sums_18 : decode cX11_sums 18 = .ok (.if_icmp .gt 19, 3) := dq_163 (a := 0) (b := 19) (by decide +kernel) (by decide +kernel)
theorem dX11_sums_21 : decode cX11_sums 21 = .ok (.iload_n 3, 1) := dq_29 (by decide +kernel)
theorem dX11_sums_22 : decode cX11_sums 22 = .ok (.iconst (-1), 1) := dq_2 (by decide +kernel)
theorem dX11_sums_23 : decode cX11_sums 23 = .ok (.if_icmp .eq 18, 3) := dq_159 (a := 0) (b := 18) (by decide +kernel) (by decide +kernel)
theorem dX11_sums_41 : decode cX11_sums 41 = .ok (.aload_n 0, 1) := dq_42 (by decide +kernel)
theorem dX11_sums_42 : decode cX11_sums 42 = .ok (.getfield 31, 3) := dq_180 (a := 0) (b := 31) (by decide +kernel) rfl
theorem dX11_sums_45 : decode cX11_sums 45 = .ok (.aload_n 0, 1) := dq_42 (by decide +kernel)
theorem dX11_sums_46 : decode cX11_sums 46 = .ok (.getfield 69, 3) := dq_180 (a := 0) (b := 69) (by decide +kernel) rfl
theorem dX11_sums_49 : decode cX11_sums 49 = .ok (.iload_n 1, 1) := dq_27 (by decide +kernel)
theorem dX11_sums_50 : decode cX11_sums 50 = .ok (.iload_n 2, 1) := dq_28 (by decide +kernel)
theorem dX11_sums_51 : decode cX11_sums 51 = .ok (.invokevirtual 326, 3) := dq_182 (a := 1) (b := 70) (by decide +kernel) rfl
theorem dX11_sums_54 : decode cX11_sums 54 = .ok (.iload_n 3, 1) := dq_29 (by decide +kernel)
theorem dX11_sums_55 : decode cX11_sums 55 = .ok (.iconst (-1), 1) := dq_2 (by decide +kernel)
theorem dX11_sums_56 : decode cX11_sums 56 = .ok (.if_icmp .ne 13, 3) := dq_160 (a := 0) (b := 13) (by decide +kernel) (by decide +kernel)
theorem dX11_sums_59 : decode cX11_sums 59 = .ok (.aload_n 0, 1) := dq_42 (by decide +kernel)
theorem dX11_sums_60 : decode cX11_sums 60 = .ok (.getfield 31, 3) := dq_180 (a := 0) (b := 31) (by decide +kernel) rfl
theorem dX11_sums_63 : decode cX11_sums 63 = .ok (.getfield 330, 3) := dq_180 (a := 1) (b := 74) (by decide +kernel) rfl
theorem dX11_sums_66 : decode cX11_sums 66 = .ok (.goto 13, 3) := dq_167 (a := 0) (b := 13) (by decide +kernel) (by decide +kernel)
theorem dX11_sums_79 : decode cX11_sums 79 = .ok (.lreturn, 1) := dq_173 (by decide +kernel)
theorem dX11_sums_26 : decode cX11_sums 26 = .ok (.aload_n 0, 1) := dq_42 (by decide +kernel)
theorem dX11_sums_27 : decode cX11_sums 27 = .ok (.getfield 69, 3) := dq_180 (a := 0) (b := 69) (by decide +kernel) rfl
theorem dX11_sums_30 : decode cX11_sums 30 = .ok (.iload_n 3, 1) := dq_29 (by decide +kernel)
theorem dX11_sums_31 : decode cX11_sums 31 = .ok (.invokevirtual 172, 3) := dq_182 (a := 0) (b := 172) (by decide +kernel) rfl
theorem dX11_sums_34 : decode cX11_sums 34 = .ok (.ifCond .ne 7, 3) := dq_154 (a := 0) (b := 7) (by decide +kernel) (by decide +kernel)
theorem dX11_sums_69 : decode cX11_sums 69 = .ok (.aload_n 0, 1) := dq_42 (by decide +kernel)
theorem dX11_sums_70 : decode cX11_sums 70 = .ok (.getfield 31, 3) := dq_180 (a := 0) (b := 31) (by decide +kernel) rfl
theorem dX11_sums_73 : decode cX11_sums 73 = .ok (.getfield 334, 3) := dq_180 (a := 1) (b := 78) (by decide +kernel) rfl
theorem dX11_sums_76 : decode cX11_sums 76 = .ok (.iload_n 3, 1) := dq_29 (by decide +kernel)
theorem dX11_sums_77 : decode cX11_sums 77 = .ok (.iaload, 1) := dq_46 (by decide +kernel)
theorem dX11_sums_78 : decode cX11_sums 78 = .ok (.i2l, 1) := dq_133 (by decide +kernel)
theorem dX11_apart_0 : decode cX11_apart 0 = .ok (.aload_n 0, 1) := dq_42 (by decide +kernel)
theorem dX11_apart_1 : decode cX11_apart 1 = .ok (.getfield 69, 3) := dq_180 (a := 0) (b := 69) (by decide +kernel) rfl
theorem dX11_apart_4 : decode cX11_apart 4 = .ok (.iload_n 1, 1) := dq_27 (by decide +kernel)
theorem dX11_apart_5 : decode cX11_apart 5 = .ok (.invokevirtual 323, 3) := dq_182 (a := 1) (b := 67) (by decide +kernel) rfl
theorem dX11_apart_8 : decode cX11_apart 8 = .ok (.ifCond .eq 18, 3) := dq_153 (a := 0) (b := 18) (by decide +kernel) (by decide +kernel)
theorem dX11_apart_26 : decode cX11_apart 26 = .ok (.ldc2_w 212, 3) := dq_20 (a := 0) (b := 212) (by decide +kernel) rfl
theorem dX11_apart_29 : decode cX11_apart 29 = .ok (.lreturn, 1) := dq_173 (by decide +kernel)
theorem dX11_apart_11 : decode cX11_apart 11 = .ok (.aload_n 0, 1) := dq_42 (by decide +kernel)
theorem dX11_apart_12 : decode cX11_apart 12 = .ok (.getfield 31, 3) := dq_180 (a := 0) (b := 31) (by decide +kernel) rfl
theorem dX11_apart_15 : decode cX11_apart 15 = .ok (.aload_n 0, 1) := dq_42 (by decide +kernel)
theorem dX11_apart_16 : decode cX11_apart 16 = .ok (.getfield 69, 3) := dq_180 (a := 0) (b := 69) (by decide +kernel) rfl
theorem dX11_apart_19 : decode cX11_apart 19 = .ok (.iload_n 1, 1) := dq_27 (by decide +kernel)
theorem dX11_apart_20 : decode cX11_apart 20 = .ok (.invokevirtual 337, 3) := dq_182 (a := 1) (b := 81) (by decide +kernel) rfl
theorem dX11_apart_23 : decode cX11_apart 23 = .ok (.goto 6, 3) := dq_167 (a := 0) (b := 6) (by decide +kernel) (by decide +kernel)
theorem dX11_word_0 : decode cX11_word 0 = .ok (.aload_n 0, 1) := dq_42 (by decide +kernel)
theorem dX11_word_1 : decode cX11_word 1 = .ok (.getfield 69, 3) := dq_180 (a := 0) (b := 69) (by decide +kernel) rfl
theorem dX11_word_4 : decode cX11_word 4 = .ok (.iload_n 1, 1) := dq_27 (by decide +kernel)
theorem dX11_word_5 : decode cX11_word 5 = .ok (.invokevirtual 341, 3) := dq_182 (a := 1) (b := 85) (by decide +kernel) rfl
theorem dX11_word_8 : decode cX11_word 8 = .ok (.ifCond .eq 26, 3) := dq_153 (a := 0) (b := 26) (by decide +kernel) (by decide +kernel)
theorem dX11_word_34 : decode cX11_word 34 = .ok (.ldc 175, 2) := dq_18 (a := 175) (by decide +kernel) rfl
theorem dX11_word_36 : decode cX11_word 36 = .ok (.ireturn, 1) := dq_172 (by decide +kernel)
theorem dX11_word_11 : decode cX11_word 11 = .ok (.aload_n 0, 1) := dq_42 (by decide +kernel)
theorem dX11_word_12 : decode cX11_word 12 = .ok (.getfield 69, 3) := dq_180 (a := 0) (b := 69) (by decide +kernel) rfl
theorem dX11_word_15 : decode cX11_word 15 = .ok (.iload_n 2, 1) := dq_28 (by decide +kernel)
theorem dX11_word_16 : decode cX11_word 16 = .ok (.invokevirtual 172, 3) := dq_182 (a := 0) (b := 172) (by decide +kernel) rfl
theorem dX11_word_19 : decode cX11_word 19 = .ok (.ifCond .eq 15, 3) := dq_153 (a := 0) (b := 15) (by decide +kernel) (by decide +kernel)
theorem dX11_word_22 : decode cX11_word 22 = .ok (.aload_n 0, 1) := dq_42 (by decide +kernel)
theorem dX11_word_23 : decode cX11_word 23 = .ok (.getfield 69, 3) := dq_180 (a := 0) (b := 69) (by decide +kernel) rfl
theorem dX11_word_26 : decode cX11_word 26 = .ok (.iload_n 1, 1) := dq_27 (by decide +kernel)
theorem dX11_word_27 : decode cX11_word 27 = .ok (.iload_n 2, 1) := dq_28 (by decide +kernel)
theorem dX11_word_28 : decode cX11_word 28 = .ok (.invokevirtual 344, 3) := dq_182 (a := 1) (b := 88) (by decide +kernel) rfl
theorem dX11_word_31 : decode cX11_word 31 = .ok (.goto 5, 3) := dq_167 (a := 0) (b := 5) (by decide +kernel) (by decide +kernel)
theorem dX11_code_0 : decode cX11_code 0 = .ok (.iload_n 1, 1) := dq_27 (by decide +kernel)
theorem dX11_code_1 : decode cX11_code 1 = .ok (.iconst 3, 1) := dq_6 (by decide +kernel)
theorem dX11_code_2 : decode cX11_code 2 = .ok (.if_icmp .ne 28, 3) := dq_160 (a := 0) (b := 28) (by decide +kernel) (by decide +kernel)
theorem dX11_code_30 : decode cX11_code 30 = .ok (.iload_n 1, 1) := dq_27 (by decide +kernel)
theorem dX11_code_31 : decode cX11_code 31 = .ok (.ifCond .lt 19, 3) := dq_155 (a := 0) (b := 19) (by decide +kernel) (by decide +kernel)
