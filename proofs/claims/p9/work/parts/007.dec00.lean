theorem dX9_hasRoom_0 : decode cX9_hasRoom 0 = .ok (.aload_n 0, 1) := by decide +kernel
theorem dX9_hasRoom_1 : decode cX9_hasRoom 1 = .ok (.getfield 15, 3) := by decide +kernel
theorem dX9_hasRoom_4 : decode cX9_hasRoom 4 = .ok (.iload_n 1, 1) := by decide +kernel
theorem dX9_hasRoom_5 : decode cX9_hasRoom 5 = .ok (.iadd, 1) := by decide +kernel
theorem dX9_hasRoom_6 : decode cX9_hasRoom 6 = .ok (.sipush 1600, 3) := by decide +kernel
theorem dX9_hasRoom_9 : decode cX9_hasRoom 9 = .ok (.if_icmp .gt 7, 3) := by decide +kernel
theorem dX9_hasRoom_16 : decode cX9_hasRoom 16 = .ok (.iconst 0, 1) := by decide +kernel
theorem dX9_hasRoom_17 : decode cX9_hasRoom 17 = .ok (.ireturn, 1) := by decide +kernel
theorem dX9_hasRoom_12 : decode cX9_hasRoom 12 = .ok (.iconst 1, 1) := by decide +kernel
theorem dX9_hasRoom_13 : decode cX9_hasRoom 13 = .ok (.goto 4, 3) := by decide +kernel
theorem dX9_addNumber_0 : decode cX9_addNumber 0 = .ok (.bipush 24, 2) := by decide +kernel
theorem dX9_addNumber_2 : decode cX9_addNumber 2 = .ok (.istore_n 2, 1) := by decide +kernel
theorem dX9_addNumber_3 : decode cX9_addNumber 3 = .ok (.iload_n 2, 1) := by decide +kernel
theorem dX9_addNumber_4 : decode cX9_addNumber 4 = .ok (.ifCond .lt 42, 3) := by decide +kernel
theorem dX9_addNumber_7 : decode cX9_addNumber 7 = .ok (.aload_n 0, 1) := by decide +kernel
theorem dX9_addNumber_8 : decode cX9_addNumber 8 = .ok (.getfield 15, 3) := by decide +kernel
theorem dX9_addNumber_11 : decode cX9_addNumber 11 = .ok (.sipush 1600, 3) := by decide +kernel
theorem dX9_addNumber_14 : decode cX9_addNumber 14 = .ok (.if_icmp .ge 32, 3) := by decide +kernel
theorem dX9_addNumber_46 : decode cX9_addNumber 46 = .ok (.return_, 1) := by decide +kernel
theorem dX9_addNumber_17 : decode cX9_addNumber 17 = .ok (.aload_n 0, 1) := by decide +kernel
theorem dX9_addNumber_18 : decode cX9_addNumber 18 = .ok (.getfield 9, 3) := by decide +kernel
theorem dX9_addNumber_21 : decode cX9_addNumber 21 = .ok (.aload_n 0, 1) := by decide +kernel
theorem dX9_addNumber_22 : decode cX9_addNumber 22 = .ok (.getfield 15, 3) := by decide +kernel
theorem dX9_addNumber_25 : decode cX9_addNumber 25 = .ok (.iload_n 1, 1) := by decide +kernel
theorem dX9_addNumber_26 : decode cX9_addNumber 26 = .ok (.iload_n 2, 1) := by decide +kernel
theorem dX9_addNumber_27 : decode cX9_addNumber 27 = .ok (.ishr, 1) := by decide +kernel
theorem dX9_addNumber_28 : decode cX9_addNumber 28 = .ok (.i2b, 1) := by decide +kernel
theorem dX9_addNumber_29 : decode cX9_addNumber 29 = .ok (.bastore, 1) := by decide +kernel
theorem dX9_addNumber_30 : decode cX9_addNumber 30 = .ok (.aload_n 0, 1) := by decide +kernel
theorem dX9_addNumber_31 : decode cX9_addNumber 31 = .ok (.dup, 1) := by decide +kernel
theorem dX9_addNumber_32 : decode cX9_addNumber 32 = .ok (.getfield 15, 3) := by decide +kernel
theorem dX9_addNumber_35 : decode cX9_addNumber 35 = .ok (.iconst 1, 1) := by decide +kernel
theorem dX9_addNumber_36 : decode cX9_addNumber 36 = .ok (.iadd, 1) := by decide +kernel
theorem dX9_addNumber_37 : decode cX9_addNumber 37 = .ok (.putfield 15, 3) := by decide +kernel
theorem dX9_addNumber_40 : decode cX9_addNumber 40 = .ok (.iinc 2 (-8), 3) := by decide +kernel
theorem dX9_addNumber_43 : decode cX9_addNumber 43 = .ok (.goto (-40), 3) := by decide +kernel
theorem dX9_length_0 : decode cX9_length 0 = .ok (.aload_n 0, 1) := by decide +kernel
theorem dX9_length_1 : decode cX9_length 1 = .ok (.getfield 15, 3) := by decide +kernel
theorem dX9_length_4 : decode cX9_length 4 = .ok (.ireturn, 1) := by decide +kernel
theorem dX9_cutTo_0 : decode cX9_cutTo 0 = .ok (.aload_n 0, 1) := by decide +kernel
theorem dX9_cutTo_1 : decode cX9_cutTo 1 = .ok (.iload_n 1, 1) := by decide +kernel
theorem dX9_cutTo_2 : decode cX9_cutTo 2 = .ok (.putfield 15, 3) := by decide +kernel
theorem dX9_cutTo_5 : decode cX9_cutTo 5 = .ok (.return_, 1) := by decide +kernel
theorem dX9_at_0 : decode cX9_at 0 = .ok (.iload_n 1, 1) := by decide +kernel
theorem dX9_at_1 : decode cX9_at 1 = .ok (.ifCond .lt 24, 3) := by decide +kernel
theorem dX9_at_25 : decode cX9_at 25 = .ok (.iconst (-1), 1) := by decide +kernel
theorem dX9_at_26 : decode cX9_at 26 = .ok (.ireturn, 1) := by decide +kernel
theorem dX9_at_4 : decode cX9_at 4 = .ok (.iload_n 1, 1) := by decide +kernel
theorem dX9_at_5 : decode cX9_at 5 = .ok (.aload_n 0, 1) := by decide +kernel
theorem dX9_at_6 : decode cX9_at 6 = .ok (.getfield 15, 3) := by decide +kernel
theorem dX9_at_9 : decode cX9_at 9 = .ok (.if_icmp .ge 16, 3) := by decide +kernel
theorem dX9_at_12 : decode cX9_at 12 = .ok (.aload_n 0, 1) := by decide +kernel
theorem dX9_at_13 : decode cX9_at 13 = .ok (.getfield 9, 3) := by decide +kernel
theorem dX9_at_16 : decode cX9_at 16 = .ok (.iload_n 1, 1) := by decide +kernel
theorem dX9_at_17 : decode cX9_at 17 = .ok (.baload, 1) := by decide +kernel
theorem dX9_at_18 : decode cX9_at 18 = .ok (.sipush 255, 3) := by decide +kernel
theorem dX9_at_21 : decode cX9_at 21 = .ok (.iand, 1) := by decide +kernel
theorem dX9_at_22 : decode cX9_at 22 = .ok (.goto 4, 3) := by decide +kernel
theorem dX9_shortAt_0 : decode cX9_shortAt 0 = .ok (.aload_n 0, 1) := by decide +kernel
theorem dX9_shortAt_1 : decode cX9_shortAt 1 = .ok (.iload_n 1, 1) := by decide +kernel
theorem dX9_shortAt_2 : decode cX9_shortAt 2 = .ok (.invokevirtual 19, 3) := by decide +kernel
theorem dX9_shortAt_5 : decode cX9_shortAt 5 = .ok (.bipush 8, 2) := by decide +kernel
theorem dX9_shortAt_7 : decode cX9_shortAt 7 = .ok (.ishl, 1) := by decide +kernel
theorem dX9_shortAt_8 : decode cX9_shortAt 8 = .ok (.aload_n 0, 1) := by decide +kernel
theorem dX9_shortAt_9 : decode cX9_shortAt 9 = .ok (.iload_n 1, 1) := by decide +kernel
theorem dX9_shortAt_10 : decode cX9_shortAt 10 = .ok (.iconst 1, 1) := by decide +kernel
theorem dX9_shortAt_11 : decode cX9_shortAt 11 = .ok (.iadd, 1) := by decide +kernel
theorem dX9_shortAt_12 : decode cX9_shortAt 12 = .ok (.invokevirtual 19, 3) := by decide +kernel
theorem dX9_shortAt_15 : decode cX9_shortAt 15 = .ok (.ior, 1) := by decide +kernel
theorem dX9_shortAt_16 : decode cX9_shortAt 16 = .ok (.i2s, 1) := by decide +kernel
theorem dX9_shortAt_17 : decode cX9_shortAt 17 = .ok (.ireturn, 1) := by decide +kernel
theorem dX9_signedAt_0 : decode cX9_signedAt 0 = .ok (.aload_n 0, 1) := by decide +kernel
theorem dX9_signedAt_1 : decode cX9_signedAt 1 = .ok (.iload_n 1, 1) := by decide +kernel
theorem dX9_signedAt_2 : decode cX9_signedAt 2 = .ok (.invokevirtual 19, 3) := by decide +kernel
theorem dX9_signedAt_5 : decode cX9_signedAt 5 = .ok (.i2b, 1) := by decide +kernel
theorem dX9_signedAt_6 : decode cX9_signedAt 6 = .ok (.ireturn, 1) := by decide +kernel
theorem dX8_clear_0 : decode cX8_clear 0 = .ok (.aload_n 0, 1) := by decide +kernel
theorem dX8_clear_1 : decode cX8_clear 1 = .ok (.getfield 9, 3) := by decide +kernel
theorem dX8_clear_4 : decode cX8_clear 4 = .ok (.iconst 0, 1) := by decide +kernel
theorem dX8_clear_5 : decode cX8_clear 5 = .ok (.invokestatic 15, 3) := by decide +kernel
theorem dJ7_fill_53178_0 : decode cJ7_fill_53178 0 = .ok (.iconst 0, 1) := by decide +kernel
theorem dJ7_fill_53178_1 : decode cJ7_fill_53178 1 = .ok (.istore_n 2, 1) := by decide +kernel
theorem dJ7_fill_53178_2 : decode cJ7_fill_53178 2 = .ok (.aload_n 0, 1) := by decide +kernel
theorem dJ7_fill_53178_3 : decode cJ7_fill_53178 3 = .ok (.arraylength, 1) := by decide +kernel
theorem dJ7_fill_53178_4 : decode cJ7_fill_53178 4 = .ok (.istore_n 3, 1) := by decide +kernel
theorem dJ7_fill_53178_5 : decode cJ7_fill_53178 5 = .ok (.iload_n 2, 1) := by decide +kernel
theorem dJ7_fill_53178_6 : decode cJ7_fill_53178 6 = .ok (.iload_n 3, 1) := by decide +kernel
theorem dJ7_fill_53178_7 : decode cJ7_fill_53178 7 = .ok (.if_icmp .ge 13, 3) := by decide +kernel
theorem dJ7_fill_53178_10 : decode cJ7_fill_53178 10 = .ok (.aload_n 0, 1) := by decide +kernel
theorem dJ7_fill_53178_11 : decode cJ7_fill_53178 11 = .ok (.iload_n 2, 1) := by decide +kernel
theorem dJ7_fill_53178_12 : decode cJ7_fill_53178 12 = .ok (.iload_n 1, 1) := by decide +kernel
theorem dJ7_fill_53178_13 : decode cJ7_fill_53178 13 = .ok (.iastore, 1) := by decide +kernel
theorem dJ7_fill_53178_14 : decode cJ7_fill_53178 14 = .ok (.iinc 2 1, 3) := by decide +kernel
theorem dJ7_fill_53178_17 : decode cJ7_fill_53178 17 = .ok (.goto (-12), 3) := by decide +kernel
theorem dJ7_fill_53178_20 : decode cJ7_fill_53178 20 = .ok (.return_, 1) := by decide +kernel
theorem dX8_clear_8 : decode cX8_clear 8 = .ok (.return_, 1) := by decide +kernel
theorem dX8_setAt_0 : decode cX8_setAt 0 = .ok (.aload_n 0, 1) := by decide +kernel
theorem dX8_setAt_1 : decode cX8_setAt 1 = .ok (.getfield 9, 3) := by decide +kernel
theorem dX8_setAt_4 : decode cX8_setAt 4 = .ok (.iload_n 2, 1) := by decide +kernel
theorem dX8_setAt_5 : decode cX8_setAt 5 = .ok (.bipush 6, 2) := by decide +kernel
theorem dX8_setAt_7 : decode cX8_setAt 7 = .ok (.imul, 1) := by decide +kernel
theorem dX8_setAt_8 : decode cX8_setAt 8 = .ok (.iload_n 1, 1) := by decide +kernel
theorem dX8_setAt_9 : decode cX8_setAt 9 = .ok (.iadd, 1) := by decide +kernel
theorem dX8_setAt_10 : decode cX8_setAt 10 = .ok (.iload_n 3, 1) := by decide +kernel
theorem dX8_setAt_11 : decode cX8_setAt 11 = .ok (.iastore, 1) := by decide +kernel
theorem dX8_setAt_12 : decode cX8_setAt 12 = .ok (.return_, 1) := by decide +kernel
theorem dX8_copyFrom_0 : decode cX8_copyFrom 0 = .ok (.aload_n 1, 1) := by decide +kernel
theorem dX8_copyFrom_1 : decode cX8_copyFrom 1 = .ok (.getfield 9, 3) := by decide +kernel
theorem dX8_copyFrom_4 : decode cX8_copyFrom 4 = .ok (.iconst 0, 1) := by decide +kernel
theorem dX8_copyFrom_5 : decode cX8_copyFrom 5 = .ok (.aload_n 0, 1) := by decide +kernel
theorem dX8_copyFrom_6 : decode cX8_copyFrom 6 = .ok (.getfield 9, 3) := by decide +kernel
theorem dX8_copyFrom_9 : decode cX8_copyFrom 9 = .ok (.iconst 0, 1) := by decide +kernel
theorem dX8_copyFrom_10 : decode cX8_copyFrom 10 = .ok (.aload_n 0, 1) := by decide +kernel
theorem dX8_copyFrom_11 : decode cX8_copyFrom 11 = .ok (.getfield 9, 3) := by decide +kernel
theorem dX8_copyFrom_14 : decode cX8_copyFrom 14 = .ok (.arraylength, 1) := by decide +kernel
theorem dX8_copyFrom_15 : decode cX8_copyFrom 15 = .ok (.invokestatic 21, 3) := by decide +kernel
theorem dX8_copyFrom_18 : decode cX8_copyFrom 18 = .ok (.return_, 1) := by decide +kernel
theorem dX8_at_0 : decode cX8_at 0 = .ok (.aload_n 0, 1) := by decide +kernel
theorem dX8_at_1 : decode cX8_at 1 = .ok (.getfield 9, 3) := by decide +kernel
theorem dX8_at_4 : decode cX8_at 4 = .ok (.iload_n 2, 1) := by decide +kernel
theorem dX8_at_5 : decode cX8_at 5 = .ok (.bipush 6, 2) := by decide +kernel
theorem dX8_at_7 : decode cX8_at 7 = .ok (.imul, 1) := by decide +kernel
theorem dX8_at_8 : decode cX8_at 8 = .ok (.iload_n 1, 1) := by decide +kernel
theorem dX8_at_9 : decode cX8_at 9 = .ok (.iadd, 1) := by decide +kernel
theorem dX8_at_10 : decode cX8_at 10 = .ok (.iaload, 1) := by decide +kernel
theorem dX8_at_11 : decode cX8_at 11 = .ok (.ireturn, 1) := by decide +kernel
theorem dX8_productOf_0 : decode cX8_productOf 0 = .ok (.iconst 0, 1) := by decide +kernel
theorem dX8_productOf_1 : decode cX8_productOf 1 = .ok (.istore_n 3, 1) := by decide +kernel
theorem dX8_productOf_2 : decode cX8_productOf 2 = .ok (.iconst 0, 1) := by decide +kernel
theorem dX8_productOf_3 : decode cX8_productOf 3 = .ok (.istore 4, 2) := by decide +kernel
theorem dX8_productOf_5 : decode cX8_productOf 5 = .ok (.iload 4, 2) := by decide +kernel
theorem dX8_productOf_7 : decode cX8_productOf 7 = .ok (.bipush 6, 2) := by decide +kernel
theorem dX8_productOf_9 : decode cX8_productOf 9 = .ok (.if_icmp .ge 27, 3) := by decide +kernel
theorem dX8_productOf_12 : decode cX8_productOf 12 = .ok (.iload_n 3, 1) := by decide +kernel
theorem dX8_productOf_13 : decode cX8_productOf 13 = .ok (.aload_n 0, 1) := by decide +kernel
theorem dX8_productOf_14 : decode cX8_productOf 14 = .ok (.iload 4, 2) := by decide +kernel
theorem dX8_productOf_16 : decode cX8_productOf 16 = .ok (.iload_n 1, 1) := by decide +kernel
theorem dX8_productOf_17 : decode cX8_productOf 17 = .ok (.invokevirtual 27, 3) := by decide +kernel
theorem dX8_productOf_20 : decode cX8_productOf 20 = .ok (.aload_n 0, 1) := by decide +kernel
theorem dX8_productOf_21 : decode cX8_productOf 21 = .ok (.iload 4, 2) := by decide +kernel
theorem dX8_productOf_23 : decode cX8_productOf 23 = .ok (.iload_n 2, 1) := by decide +kernel
theorem dX8_productOf_24 : decode cX8_productOf 24 = .ok (.invokevirtual 27, 3) := by decide +kernel
theorem dX8_productOf_27 : decode cX8_productOf 27 = .ok (.imul, 1) := by decide +kernel
theorem dX8_productOf_28 : decode cX8_productOf 28 = .ok (.iadd, 1) := by decide +kernel
theorem dX8_productOf_29 : decode cX8_productOf 29 = .ok (.istore_n 3, 1) := by decide +kernel
theorem dX8_productOf_30 : decode cX8_productOf 30 = .ok (.iinc 4 1, 3) := by decide +kernel
theorem dX8_productOf_33 : decode cX8_productOf 33 = .ok (.goto (-28), 3) := by decide +kernel
theorem dX8_productOf_36 : decode cX8_productOf 36 = .ok (.iload_n 3, 1) := by decide +kernel
theorem dX8_productOf_37 : decode cX8_productOf 37 = .ok (.ireturn, 1) := by decide +kernel
theorem dX8_sentTo_0 : decode cX8_sentTo 0 = .ok (.iconst 0, 1) := by decide +kernel
theorem dX8_sentTo_1 : decode cX8_sentTo 1 = .ok (.istore 4, 2) := by decide +kernel
theorem dX8_sentTo_3 : decode cX8_sentTo 3 = .ok (.iconst 0, 1) := by decide +kernel
theorem dX8_sentTo_4 : decode cX8_sentTo 4 = .ok (.istore 5, 2) := by decide +kernel
theorem dX8_sentTo_6 : decode cX8_sentTo 6 = .ok (.iload 5, 2) := by decide +kernel
theorem dX8_sentTo_8 : decode cX8_sentTo 8 = .ok (.iload_n 3, 1) := by decide +kernel
theorem dX8_sentTo_9 : decode cX8_sentTo 9 = .ok (.if_icmp .ge 26, 3) := by decide +kernel
theorem dX8_sentTo_35 : decode cX8_sentTo 35 = .ok (.iload 4, 2) := by decide +kernel
theorem dX8_sentTo_37 : decode cX8_sentTo 37 = .ok (.ireturn, 1) := by decide +kernel
theorem dX8_sentTo_12 : decode cX8_sentTo 12 = .ok (.iload 4, 2) := by decide +kernel
theorem dX8_sentTo_14 : decode cX8_sentTo 14 = .ok (.aload_n 0, 1) := by decide +kernel
theorem dX8_sentTo_15 : decode cX8_sentTo 15 = .ok (.iload_n 1, 1) := by decide +kernel
theorem dX8_sentTo_16 : decode cX8_sentTo 16 = .ok (.iload 5, 2) := by decide +kernel
theorem dX8_sentTo_18 : decode cX8_sentTo 18 = .ok (.invokevirtual 27, 3) := by decide +kernel
theorem dX8_sentTo_21 : decode cX8_sentTo 21 = .ok (.aload_n 2, 1) := by decide +kernel
theorem dX8_sentTo_22 : decode cX8_sentTo 22 = .ok (.iload 5, 2) := by decide +kernel
theorem dX8_sentTo_24 : decode cX8_sentTo 24 = .ok (.iaload, 1) := by decide +kernel
theorem dX8_sentTo_25 : decode cX8_sentTo 25 = .ok (.imul, 1) := by decide +kernel
theorem dX8_sentTo_26 : decode cX8_sentTo 26 = .ok (.iadd, 1) := by decide +kernel
theorem dX8_sentTo_27 : decode cX8_sentTo 27 = .ok (.istore 4, 2) := by decide +kernel
theorem dX8_sentTo_29 : decode cX8_sentTo 29 = .ok (.iinc 5 1, 3) := by decide +kernel
theorem dX8_sentTo_32 : decode cX8_sentTo 32 = .ok (.goto (-26), 3) := by decide +kernel
theorem dX8_takeAway_0 : decode cX8_takeAway 0 = .ok (.iconst 0, 1) := by decide +kernel
theorem dX8_takeAway_1 : decode cX8_takeAway 1 = .ok (.istore 4, 2) := by decide +kernel
theorem dX8_takeAway_3 : decode cX8_takeAway 3 = .ok (.iload 4, 2) := by decide +kernel
theorem dX8_takeAway_5 : decode cX8_takeAway 5 = .ok (.bipush 6, 2) := by decide +kernel
theorem dX8_takeAway_7 : decode cX8_takeAway 7 = .ok (.if_icmp .ge 33, 3) := by decide +kernel
theorem dX8_takeAway_10 : decode cX8_takeAway 10 = .ok (.aload_n 0, 1) := by decide +kernel
theorem dX8_takeAway_11 : decode cX8_takeAway 11 = .ok (.iload 4, 2) := by decide +kernel
theorem dX8_takeAway_13 : decode cX8_takeAway 13 = .ok (.iload_n 1, 1) := by decide +kernel
theorem dX8_takeAway_14 : decode cX8_takeAway 14 = .ok (.aload_n 0, 1) := by decide +kernel
theorem dX8_takeAway_15 : decode cX8_takeAway 15 = .ok (.iload 4, 2) := by decide +kernel
theorem dX8_takeAway_17 : decode cX8_takeAway 17 = .ok (.iload_n 1, 1) := by decide +kernel
theorem dX8_takeAway_18 : decode cX8_takeAway 18 = .ok (.invokevirtual 27, 3) := by decide +kernel
theorem dX8_takeAway_21 : decode cX8_takeAway 21 = .ok (.iload_n 3, 1) := by decide +kernel
theorem dX8_takeAway_22 : decode cX8_takeAway 22 = .ok (.aload_n 0, 1) := by decide +kernel
theorem dX8_takeAway_23 : decode cX8_takeAway 23 = .ok (.iload 4, 2) := by decide +kernel
theorem dX8_takeAway_25 : decode cX8_takeAway 25 = .ok (.iload_n 2, 1) := by decide +kernel
theorem dX8_takeAway_26 : decode cX8_takeAway 26 = .ok (.invokevirtual 27, 3) := by decide +kernel
theorem dX8_takeAway_29 : decode cX8_takeAway 29 = .ok (.imul, 1) := by decide +kernel
theorem dX8_takeAway_30 : decode cX8_takeAway 30 = .ok (.isub, 1) := by decide +kernel
theorem dX8_takeAway_31 : decode cX8_takeAway 31 = .ok (.invokevirtual 43, 3) := by decide +kernel
theorem dX8_takeAway_34 : decode cX8_takeAway 34 = .ok (.iinc 4 1, 3) := by decide +kernel
theorem dX8_takeAway_37 : decode cX8_takeAway 37 = .ok (.goto (-34), 3) := by decide +kernel
theorem dX8_takeAway_40 : decode cX8_takeAway 40 = .ok (.return_, 1) := by decide +kernel
theorem dX8_clashOf_0 : decode cX8_clashOf 0 = .ok (.aload_n 0, 1) := by decide +kernel
theorem dX8_clashOf_1 : decode cX8_clashOf 1 = .ok (.iload_n 1, 1) := by decide +kernel
theorem dX8_clashOf_2 : decode cX8_clashOf 2 = .ok (.iload_n 2, 1) := by decide +kernel
theorem dX8_clashOf_3 : decode cX8_clashOf 3 = .ok (.invokevirtual 40, 3) := by decide +kernel
theorem dX8_clashOf_6 : decode cX8_clashOf 6 = .ok (.i2l, 1) := by decide +kernel
theorem dX8_clashOf_7 : decode cX8_clashOf 7 = .ok (.lstore_n 3, 1) := by decide +kernel
theorem dX8_clashOf_8 : decode cX8_clashOf 8 = .ok (.aload_n 0, 1) := by decide +kernel
theorem dX8_clashOf_9 : decode cX8_clashOf 9 = .ok (.iload_n 1, 1) := by decide +kernel
theorem dX8_clashOf_10 : decode cX8_clashOf 10 = .ok (.iload_n 1, 1) := by decide +kernel
theorem dX8_clashOf_11 : decode cX8_clashOf 11 = .ok (.invokevirtual 40, 3) := by decide +kernel
theorem dX8_clashOf_14 : decode cX8_clashOf 14 = .ok (.i2l, 1) := by decide +kernel
theorem dX8_clashOf_15 : decode cX8_clashOf 15 = .ok (.aload_n 0, 1) := by decide +kernel
theorem dX8_clashOf_16 : decode cX8_clashOf 16 = .ok (.iload_n 2, 1) := by decide +kernel
theorem dX8_clashOf_17 : decode cX8_clashOf 17 = .ok (.iload_n 2, 1) := by decide +kernel
theorem dX8_clashOf_18 : decode cX8_clashOf 18 = .ok (.invokevirtual 40, 3) := by decide +kernel
theorem dX8_clashOf_21 : decode cX8_clashOf 21 = .ok (.i2l, 1) := by decide +kernel
theorem dX8_clashOf_22 : decode cX8_clashOf 22 = .ok (.lmul, 1) := by decide +kernel
theorem dX8_clashOf_23 : decode cX8_clashOf 23 = .ok (.lstore 5, 2) := by decide +kernel
theorem dX8_clashOf_25 : decode cX8_clashOf 25 = .ok (.lload 5, 2) := by decide +kernel
theorem dX8_clashOf_27 : decode cX8_clashOf 27 = .ok (.lconst 0, 1) := by decide +kernel
theorem dX8_clashOf_28 : decode cX8_clashOf 28 = .ok (.lcmp, 1) := by decide +kernel
theorem dX8_clashOf_29 : decode cX8_clashOf 29 = .ok (.ifCond .ne 7, 3) := by decide +kernel
theorem dX8_clashOf_36 : decode cX8_clashOf 36 = .ok (.ldc2_w 47, 3) := by decide +kernel
theorem dX8_clashOf_39 : decode cX8_clashOf 39 = .ok (.lload_n 3, 1) := by decide +kernel
theorem dX8_clashOf_40 : decode cX8_clashOf 40 = .ok (.lmul, 1) := by decide +kernel
theorem dX8_clashOf_41 : decode cX8_clashOf 41 = .ok (.lload_n 3, 1) := by decide +kernel
theorem dX8_clashOf_42 : decode cX8_clashOf 42 = .ok (.lmul, 1) := by decide +kernel
theorem dX8_clashOf_43 : decode cX8_clashOf 43 = .ok (.lload 5, 2) := by decide +kernel
theorem dX8_clashOf_45 : decode cX8_clashOf 45 = .ok (.ldiv, 1) := by decide +kernel
theorem dX8_clashOf_46 : decode cX8_clashOf 46 = .ok (.l2i, 1) := by decide +kernel
theorem dX8_clashOf_47 : decode cX8_clashOf 47 = .ok (.ireturn, 1) := by decide +kernel
theorem dX8_clashOf_32 : decode cX8_clashOf 32 = .ok (.iconst 0, 1) := by decide +kernel
theorem dX8_clashOf_33 : decode cX8_clashOf 33 = .ok (.goto 14, 3) := by decide +kernel
theorem dX8_worstPair_0 : decode cX8_worstPair 0 = .ok (.iconst (-1), 1) := by decide +kernel
theorem dX8_worstPair_1 : decode cX8_worstPair 1 = .ok (.istore_n 2, 1) := by decide +kernel
theorem dX8_worstPair_2 : decode cX8_worstPair 2 = .ok (.iconst (-1), 1) := by decide +kernel
theorem dX8_worstPair_3 : decode cX8_worstPair 3 = .ok (.istore_n 3, 1) := by decide +kernel
theorem dX8_worstPair_4 : decode cX8_worstPair 4 = .ok (.iconst 0, 1) := by decide +kernel
theorem dX8_worstPair_5 : decode cX8_worstPair 5 = .ok (.istore 4, 2) := by decide +kernel
theorem dX8_worstPair_7 : decode cX8_worstPair 7 = .ok (.iload 4, 2) := by decide +kernel
theorem dX8_worstPair_9 : decode cX8_worstPair 9 = .ok (.iload_n 1, 1) := by decide +kernel
theorem dX8_worstPair_10 : decode cX8_worstPair 10 = .ok (.if_icmp .ge 55, 3) := by decide +kernel
theorem dX8_worstPair_65 : decode cX8_worstPair 65 = .ok (.iload_n 2, 1) := by decide +kernel
theorem dX8_worstPair_66 : decode cX8_worstPair 66 = .ok (.ireturn, 1) := by decide +kernel
theorem dX8_worstPair_13 : decode cX8_worstPair 13 = .ok (.iload 4, 2) := by decide +kernel
theorem dX8_worstPair_15 : decode cX8_worstPair 15 = .ok (.iconst 1, 1) := by decide +kernel
theorem dX8_worstPair_16 : decode cX8_worstPair 16 = .ok (.iadd, 1) := by decide +kernel
theorem dX8_worstPair_17 : decode cX8_worstPair 17 = .ok (.istore 5, 2) := by decide +kernel
theorem dX8_worstPair_19 : decode cX8_worstPair 19 = .ok (.iload 5, 2) := by decide +kernel
theorem dX8_worstPair_21 : decode cX8_worstPair 21 = .ok (.iload_n 1, 1) := by decide +kernel
theorem dX8_worstPair_22 : decode cX8_worstPair 22 = .ok (.if_icmp .ge 37, 3) := by decide +kernel
theorem dX8_worstPair_59 : decode cX8_worstPair 59 = .ok (.iinc 4 1, 3) := by decide +kernel
theorem dX8_worstPair_62 : decode cX8_worstPair 62 = .ok (.goto (-55), 3) := by decide +kernel
theorem dX8_worstPair_25 : decode cX8_worstPair 25 = .ok (.aload_n 0, 1) := by decide +kernel
theorem dX8_worstPair_26 : decode cX8_worstPair 26 = .ok (.iload 4, 2) := by decide +kernel
theorem dX8_worstPair_28 : decode cX8_worstPair 28 = .ok (.iload 5, 2) := by decide +kernel
theorem dX8_worstPair_30 : decode cX8_worstPair 30 = .ok (.invokevirtual 49, 3) := by decide +kernel
theorem dX8_worstPair_33 : decode cX8_worstPair 33 = .ok (.istore 6, 2) := by decide +kernel
theorem dX8_worstPair_35 : decode cX8_worstPair 35 = .ok (.iload 6, 2) := by decide +kernel
theorem dX8_worstPair_37 : decode cX8_worstPair 37 = .ok (.iload_n 3, 1) := by decide +kernel
theorem dX8_worstPair_38 : decode cX8_worstPair 38 = .ok (.if_icmp .le 15, 3) := by decide +kernel
theorem dX8_worstPair_53 : decode cX8_worstPair 53 = .ok (.iinc 5 1, 3) := by decide +kernel
theorem dX8_worstPair_56 : decode cX8_worstPair 56 = .ok (.goto (-37), 3) := by decide +kernel
theorem dX8_worstPair_41 : decode cX8_worstPair 41 = .ok (.iload 6, 2) := by decide +kernel
theorem dX8_worstPair_43 : decode cX8_worstPair 43 = .ok (.istore_n 3, 1) := by decide +kernel
theorem dX8_worstPair_44 : decode cX8_worstPair 44 = .ok (.bipush 100, 2) := by decide +kernel
theorem dX8_worstPair_46 : decode cX8_worstPair 46 = .ok (.iload 4, 2) := by decide +kernel
theorem dX8_worstPair_48 : decode cX8_worstPair 48 = .ok (.imul, 1) := by decide +kernel
theorem dX8_worstPair_49 : decode cX8_worstPair 49 = .ok (.iload 5, 2) := by decide +kernel
theorem dX8_worstPair_51 : decode cX8_worstPair 51 = .ok (.iadd, 1) := by decide +kernel
theorem dX8_worstPair_52 : decode cX8_worstPair 52 = .ok (.istore_n 2, 1) := by decide +kernel
theorem dX8_allSquares_0 : decode cX8_allSquares 0 = .ok (.lconst 0, 1) := by decide +kernel
theorem dX8_allSquares_1 : decode cX8_allSquares 1 = .ok (.lstore_n 1, 1) := by decide +kernel
theorem dX8_allSquares_2 : decode cX8_allSquares 2 = .ok (.iconst 0, 1) := by decide +kernel
theorem dX8_allSquares_3 : decode cX8_allSquares 3 = .ok (.istore_n 3, 1) := by decide +kernel
theorem dX8_allSquares_4 : decode cX8_allSquares 4 = .ok (.iload_n 3, 1) := by decide +kernel
theorem dX8_allSquares_5 : decode cX8_allSquares 5 = .ok (.iconst 5, 1) := by decide +kernel
theorem dX8_allSquares_6 : decode cX8_allSquares 6 = .ok (.if_icmp .ge 19, 3) := by decide +kernel
theorem dX8_allSquares_9 : decode cX8_allSquares 9 = .ok (.lload_n 1, 1) := by decide +kernel
theorem dX8_allSquares_10 : decode cX8_allSquares 10 = .ok (.aload_n 0, 1) := by decide +kernel
theorem dX8_allSquares_11 : decode cX8_allSquares 11 = .ok (.iload_n 3, 1) := by decide +kernel
theorem dX8_allSquares_12 : decode cX8_allSquares 12 = .ok (.iload_n 3, 1) := by decide +kernel
theorem dX8_allSquares_13 : decode cX8_allSquares 13 = .ok (.invokevirtual 40, 3) := by decide +kernel
theorem dX8_allSquares_16 : decode cX8_allSquares 16 = .ok (.i2l, 1) := by decide +kernel
theorem dX8_allSquares_17 : decode cX8_allSquares 17 = .ok (.ladd, 1) := by decide +kernel
theorem dX8_allSquares_18 : decode cX8_allSquares 18 = .ok (.lstore_n 1, 1) := by decide +kernel
theorem dX8_allSquares_19 : decode cX8_allSquares 19 = .ok (.iinc 3 1, 3) := by decide +kernel
theorem dX8_allSquares_22 : decode cX8_allSquares 22 = .ok (.goto (-18), 3) := by decide +kernel
theorem dX8_allSquares_25 : decode cX8_allSquares 25 = .ok (.lload_n 1, 1) := by decide +kernel
theorem dX8_allSquares_26 : decode cX8_allSquares 26 = .ok (.lreturn, 1) := by decide +kernel
theorem dX8_peakOf_0 : decode cX8_peakOf 0 = .ok (.iconst 0, 1) := by decide +kernel
theorem dX8_peakOf_1 : decode cX8_peakOf 1 = .ok (.istore_n 2, 1) := by decide +kernel
theorem dX8_peakOf_2 : decode cX8_peakOf 2 = .ok (.iconst 0, 1) := by decide +kernel
theorem dX8_peakOf_3 : decode cX8_peakOf 3 = .ok (.istore_n 3, 1) := by decide +kernel
theorem dX8_peakOf_4 : decode cX8_peakOf 4 = .ok (.iload_n 3, 1) := by decide +kernel
theorem dX8_peakOf_5 : decode cX8_peakOf 5 = .ok (.bipush 6, 2) := by decide +kernel
theorem dX8_peakOf_7 : decode cX8_peakOf 7 = .ok (.if_icmp .ge 23, 3) := by decide +kernel
theorem dX8_peakOf_10 : decode cX8_peakOf 10 = .ok (.iload_n 2, 1) := by decide +kernel
theorem dX8_peakOf_11 : decode cX8_peakOf 11 = .ok (.aload_n 0, 1) := by decide +kernel
theorem dX8_peakOf_12 : decode cX8_peakOf 12 = .ok (.iload_n 3, 1) := by decide +kernel
theorem dX8_peakOf_13 : decode cX8_peakOf 13 = .ok (.iload_n 1, 1) := by decide +kernel
theorem dX8_peakOf_14 : decode cX8_peakOf 14 = .ok (.invokevirtual 27, 3) := by decide +kernel
theorem dX8_peakOf_17 : decode cX8_peakOf 17 = .ok (.invokestatic 31, 3) := by decide +kernel
theorem dX8_peakOf_20 : decode cX8_peakOf 20 = .ok (.invokestatic 37, 3) := by decide +kernel
theorem dX8_peakOf_23 : decode cX8_peakOf 23 = .ok (.istore_n 2, 1) := by decide +kernel
theorem dX8_peakOf_24 : decode cX8_peakOf 24 = .ok (.iinc 3 1, 3) := by decide +kernel
theorem dX8_peakOf_27 : decode cX8_peakOf 27 = .ok (.goto (-23), 3) := by decide +kernel
theorem dX8_peakOf_30 : decode cX8_peakOf 30 = .ok (.iload_n 2, 1) := by decide +kernel
theorem dX8_peakOf_31 : decode cX8_peakOf 31 = .ok (.ireturn, 1) := by decide +kernel
theorem dX5_clear_0 : decode cX5_clear 0 = .ok (.aload_n 0, 1) := by decide +kernel
theorem dX5_clear_1 : decode cX5_clear 1 = .ok (.iconst 0, 1) := by decide +kernel
theorem dX5_clear_2 : decode cX5_clear 2 = .ok (.putfield 27, 3) := by decide +kernel
theorem dX5_clear_5 : decode cX5_clear 5 = .ok (.aload_n 0, 1) := by decide +kernel
theorem dX5_clear_6 : decode cX5_clear 6 = .ok (.iconst 0, 1) := by decide +kernel
theorem dX5_clear_7 : decode cX5_clear 7 = .ok (.putfield 31, 3) := by decide +kernel
theorem dX5_clear_10 : decode cX5_clear 10 = .ok (.return_, 1) := by decide +kernel
theorem dX5_beginRule_0 : decode cX5_beginRule 0 = .ok (.aload_n 0, 1) := by decide +kernel
theorem dX5_beginRule_1 : decode cX5_beginRule 1 = .ok (.getfield 31, 3) := by decide +kernel
theorem dX5_beginRule_4 : decode cX5_beginRule 4 = .ok (.bipush 8, 2) := by decide +kernel
theorem dX5_beginRule_6 : decode cX5_beginRule 6 = .ok (.if_icmp .ge 16, 3) := by decide +kernel
theorem dX5_beginRule_22 : decode cX5_beginRule 22 = .ok (.return_, 1) := by decide +kernel
theorem dX5_beginRule_9 : decode cX5_beginRule 9 = .ok (.aload_n 0, 1) := by decide +kernel
theorem dX5_beginRule_10 : decode cX5_beginRule 10 = .ok (.getfield 15, 3) := by decide +kernel
theorem dX5_beginRule_13 : decode cX5_beginRule 13 = .ok (.aload_n 0, 1) := by decide +kernel
theorem dX5_beginRule_14 : decode cX5_beginRule 14 = .ok (.getfield 31, 3) := by decide +kernel
theorem dX5_beginRule_17 : decode cX5_beginRule 17 = .ok (.aload_n 0, 1) := by decide +kernel
theorem dX5_beginRule_18 : decode cX5_beginRule 18 = .ok (.getfield 27, 3) := by decide +kernel
theorem dX5_beginRule_21 : decode cX5_beginRule 21 = .ok (.iastore, 1) := by decide +kernel
theorem dX5_add_0 : decode cX5_add 0 = .ok (.aload_n 0, 1) := by decide +kernel
theorem dX5_add_1 : decode cX5_add 1 = .ok (.getfield 27, 3) := by decide +kernel
theorem dX5_add_4 : decode cX5_add 4 = .ok (.aload_n 0, 1) := by decide +kernel
theorem dX5_add_5 : decode cX5_add 5 = .ok (.getfield 9, 3) := by decide +kernel
theorem dX5_add_8 : decode cX5_add 8 = .ok (.arraylength, 1) := by decide +kernel
theorem dX5_add_9 : decode cX5_add 9 = .ok (.if_icmp .ge 23, 3) := by decide +kernel
theorem dX5_add_32 : decode cX5_add 32 = .ok (.return_, 1) := by decide +kernel
theorem dX5_add_12 : decode cX5_add 12 = .ok (.aload_n 0, 1) := by decide +kernel
theorem dX5_add_13 : decode cX5_add 13 = .ok (.getfield 9, 3) := by decide +kernel
theorem dX5_add_16 : decode cX5_add 16 = .ok (.aload_n 0, 1) := by decide +kernel
theorem dX5_add_17 : decode cX5_add 17 = .ok (.getfield 27, 3) := by decide +kernel
theorem dX5_add_20 : decode cX5_add 20 = .ok (.iload_n 1, 1) := by decide +kernel
theorem dX5_add_21 : decode cX5_add 21 = .ok (.iastore, 1) := by decide +kernel
theorem dX5_add_22 : decode cX5_add 22 = .ok (.aload_n 0, 1) := by decide +kernel
theorem dX5_add_23 : decode cX5_add 23 = .ok (.dup, 1) := by decide +kernel
theorem dX5_add_24 : decode cX5_add 24 = .ok (.getfield 27, 3) := by decide +kernel
theorem dX5_add_27 : decode cX5_add 27 = .ok (.iconst 1, 1) := by decide +kernel
theorem dX5_add_28 : decode cX5_add 28 = .ok (.iadd, 1) := by decide +kernel
theorem dX5_add_29 : decode cX5_add 29 = .ok (.putfield 27, 3) := by decide +kernel
theorem dX5_beginTest_0 : decode cX5_beginTest 0 = .ok (.aload_n 0, 1) := by decide +kernel
theorem dX5_beginTest_1 : decode cX5_beginTest 1 = .ok (.getfield 31, 3) := by decide +kernel
theorem dX5_beginTest_4 : decode cX5_beginTest 4 = .ok (.bipush 8, 2) := by decide +kernel
theorem dX5_beginTest_6 : decode cX5_beginTest 6 = .ok (.if_icmp .ge 16, 3) := by decide +kernel
theorem dX5_beginTest_22 : decode cX5_beginTest 22 = .ok (.return_, 1) := by decide +kernel
theorem dX5_beginTest_9 : decode cX5_beginTest 9 = .ok (.aload_n 0, 1) := by decide +kernel
theorem dX5_beginTest_10 : decode cX5_beginTest 10 = .ok (.getfield 18, 3) := by decide +kernel
theorem dX5_beginTest_13 : decode cX5_beginTest 13 = .ok (.aload_n 0, 1) := by decide +kernel
theorem dX5_beginTest_14 : decode cX5_beginTest 14 = .ok (.getfield 31, 3) := by decide +kernel
theorem dX5_beginTest_17 : decode cX5_beginTest 17 = .ok (.aload_n 0, 1) := by decide +kernel
theorem dX5_beginTest_18 : decode cX5_beginTest 18 = .ok (.getfield 27, 3) := by decide +kernel
theorem dX5_beginTest_21 : decode cX5_beginTest 21 = .ok (.iastore, 1) := by decide +kernel
theorem dX5_endRule_0 : decode cX5_endRule 0 = .ok (.aload_n 0, 1) := by decide +kernel
theorem dX5_endRule_1 : decode cX5_endRule 1 = .ok (.getfield 31, 3) := by decide +kernel
theorem dX5_endRule_4 : decode cX5_endRule 4 = .ok (.bipush 8, 2) := by decide +kernel
theorem dX5_endRule_6 : decode cX5_endRule 6 = .ok (.if_icmp .ge 26, 3) := by decide +kernel
theorem dX5_endRule_32 : decode cX5_endRule 32 = .ok (.return_, 1) := by decide +kernel
theorem dX5_endRule_9 : decode cX5_endRule 9 = .ok (.aload_n 0, 1) := by decide +kernel
theorem dX5_endRule_10 : decode cX5_endRule 10 = .ok (.getfield 21, 3) := by decide +kernel
theorem dX5_endRule_13 : decode cX5_endRule 13 = .ok (.aload_n 0, 1) := by decide +kernel
theorem dX5_endRule_14 : decode cX5_endRule 14 = .ok (.getfield 31, 3) := by decide +kernel
theorem dX5_endRule_17 : decode cX5_endRule 17 = .ok (.aload_n 0, 1) := by decide +kernel
theorem dX5_endRule_18 : decode cX5_endRule 18 = .ok (.getfield 27, 3) := by decide +kernel
theorem dX5_endRule_21 : decode cX5_endRule 21 = .ok (.iastore, 1) := by decide +kernel
theorem dX5_endRule_22 : decode cX5_endRule 22 = .ok (.aload_n 0, 1) := by decide +kernel
theorem dX5_endRule_23 : decode cX5_endRule 23 = .ok (.dup, 1) := by decide +kernel
theorem dX5_endRule_24 : decode cX5_endRule 24 = .ok (.getfield 31, 3) := by decide +kernel
theorem dX5_endRule_27 : decode cX5_endRule 27 = .ok (.iconst 1, 1) := by decide +kernel
theorem dX5_endRule_28 : decode cX5_endRule 28 = .ok (.iadd, 1) := by decide +kernel
theorem dX5_endRule_29 : decode cX5_endRule 29 = .ok (.putfield 31, 3) := by decide +kernel
theorem dX5_worthBy_0 : decode cX5_worthBy 0 = .ok (.iconst 0, 1) := by decide +kernel
theorem dX5_worthBy_1 : decode cX5_worthBy 1 = .ok (.istore 4, 2) := by decide +kernel
theorem dX5_worthBy_3 : decode cX5_worthBy 3 = .ok (.iload 4, 2) := by decide +kernel
theorem dX5_worthBy_5 : decode cX5_worthBy 5 = .ok (.aload_n 0, 1) := by decide +kernel
theorem dX5_worthBy_6 : decode cX5_worthBy 6 = .ok (.getfield 31, 3) := by decide +kernel
theorem dX5_worthBy_9 : decode cX5_worthBy 9 = .ok (.if_icmp .ge 55, 3) := by decide +kernel
theorem dX5_worthBy_64 : decode cX5_worthBy 64 = .ok (.iconst 0, 1) := by decide +kernel
theorem dX5_worthBy_65 : decode cX5_worthBy 65 = .ok (.ireturn, 1) := by decide +kernel
theorem dX5_worthBy_12 : decode cX5_worthBy 12 = .ok (.aload_n 0, 1) := by decide +kernel
theorem dX5_worthBy_13 : decode cX5_worthBy 13 = .ok (.aload_n 0, 1) := by decide +kernel
theorem dX5_worthBy_14 : decode cX5_worthBy 14 = .ok (.getfield 18, 3) := by decide +kernel
theorem dX5_worthBy_17 : decode cX5_worthBy 17 = .ok (.iload 4, 2) := by decide +kernel
theorem dX5_worthBy_19 : decode cX5_worthBy 19 = .ok (.iaload, 1) := by decide +kernel
theorem dX5_worthBy_20 : decode cX5_worthBy 20 = .ok (.aload_n 0, 1) := by decide +kernel
theorem dX5_worthBy_21 : decode cX5_worthBy 21 = .ok (.getfield 21, 3) := by decide +kernel
theorem dX5_worthBy_24 : decode cX5_worthBy 24 = .ok (.iload 4, 2) := by decide +kernel
theorem dX5_worthBy_26 : decode cX5_worthBy 26 = .ok (.iaload, 1) := by decide +kernel
theorem dX5_worthBy_27 : decode cX5_worthBy 27 = .ok (.iload_n 1, 1) := by decide +kernel
theorem dX5_worthBy_28 : decode cX5_worthBy 28 = .ok (.iload_n 2, 1) := by decide +kernel
theorem dX5_worthBy_29 : decode cX5_worthBy 29 = .ok (.iload_n 3, 1) := by decide +kernel
theorem dX5_worthBy_30 : decode cX5_worthBy 30 = .ok (.invokevirtual 34, 3) := by decide +kernel
theorem dX5_valueOf_0 : decode cX5_valueOf 0 = .ok (.iconst 0, 1) := by decide +kernel
theorem dX5_valueOf_1 : decode cX5_valueOf 1 = .ok (.istore 6, 2) := by decide +kernel
theorem dX5_valueOf_3 : decode cX5_valueOf 3 = .ok (.iload_n 1, 1) := by decide +kernel
theorem dX5_valueOf_4 : decode cX5_valueOf 4 = .ok (.istore 7, 2) := by decide +kernel
theorem dX5_valueOf_6 : decode cX5_valueOf 6 = .ok (.iload 7, 2) := by decide +kernel
theorem dX5_valueOf_8 : decode cX5_valueOf 8 = .ok (.iload_n 2, 1) := by decide +kernel
theorem dX5_valueOf_9 : decode cX5_valueOf 9 = .ok (.if_icmp .ge 132, 3) := by decide +kernel
theorem dX5_valueOf_141 : decode cX5_valueOf 141 = .ok (.aload_n 0, 1) := by decide +kernel
