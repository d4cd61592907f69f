theorem tw_43 : (.fieldLink RX9 15 "ManyOut$Tape" "length" "I" : Cond) ∈ lw_gd := g_mem (List.mem_append_right _ (g_k1 (List.mem_of_getElem? (i := 43) rfl))) rfl
theorem tw_42 : (.fieldLink RX9 9 "ManyOut$Tape" "bytes" "[B" : Cond) ∈ lw_gd := g_mem (List.mem_append_right _ (g_k1 (List.mem_of_getElem? (i := 42) rfl))) rfl
theorem tw_813 : (.methodLink RX9 19 yX9_at : Cond) ∈ lw_gd := g_mem (List.mem_append_right _ (g_k4 (List.mem_of_getElem? (i := 93) rfl))) rfl
theorem tw_518 : (.code yX9_at cX9_at 2 (some .int) : Cond) ∈ lw_gd := g_mem (List.mem_append_right _ (g_k3 (List.mem_of_getElem? (i := 38) rfl))) rfl
theorem tw_3 : (.initialized RX9 : Cond) ∈ lw_gd := g_mem (List.mem_append_right _ (g_k1 (List.mem_of_getElem? (i := 3) rfl))) rfl
theorem tw_517 : (.selects RX9 yX9_at yX9_at : Cond) ∈ lw_gd := g_mem (List.mem_append_right _ (g_k3 (List.mem_of_getElem? (i := 37) rfl))) rfl
theorem tw_516 : (.instanceMethod yX9_at : Cond) ∈ lw_gd := g_mem (List.mem_append_right _ (g_k3 (List.mem_of_getElem? (i := 36) rfl))) rfl
theorem tw_62 : (.fieldLink RX8 9 "ManyOut$Table" "numbers" "[I" : Cond) ∈ lw_gd := g_mem (List.mem_append_right _ (g_k1 (List.mem_of_getElem? (i := 62) rfl))) rfl
theorem tw_503 : (.methodLink RX8 15 yJ7_fill_53178 : Cond) ∈ lw_gd := g_mem (List.mem_append_right _ (g_k3 (List.mem_of_getElem? (i := 23) rfl))) rfl
theorem tw_505 : (.code yJ7_fill_53178 cJ7_fill_53178 4 none : Cond) ∈ lw_gd := g_mem (List.mem_append_right _ (g_k3 (List.mem_of_getElem? (i := 25) rfl))) rfl
theorem tw_10 : (.initialized RJ7 : Cond) ∈ lw_gd := g_mem (List.mem_append_right _ (g_k1 (List.mem_of_getElem? (i := 10) rfl))) rfl
theorem tw_504 : (.static yJ7_fill_53178 : Cond) ∈ lw_gd := g_mem (List.mem_append_right _ (g_k3 (List.mem_of_getElem? (i := 24) rfl))) rfl
theorem tw_743 : (.methodLink RX8 21 arraycopyName : Cond) ∈ lw_gd := g_mem (List.mem_append_right _ (g_k4 (List.mem_of_getElem? (i := 23) rfl))) rfl
theorem tw_745 : (.native arraycopyName : Cond) ∈ lw_gd := g_mem (List.mem_append_right _ (g_k4 (List.mem_of_getElem? (i := 25) rfl))) rfl
theorem tw_744 : (.static arraycopyName : Cond) ∈ lw_gd := g_mem (List.mem_append_right _ (g_k4 (List.mem_of_getElem? (i := 24) rfl))) rfl
theorem tw_20 : (.initialized RJ10 : Cond) ∈ lw_gd := g_mem (List.mem_append_right _ (g_k1 (List.mem_of_getElem? (i := 20) rfl))) rfl
theorem tw_800 : (.methodLink RX8 27 yX8_at : Cond) ∈ lw_gd := g_mem (List.mem_append_right _ (g_k4 (List.mem_of_getElem? (i := 80) rfl))) rfl
theorem tw_791 : (.code yX8_at cX8_at 3 (some .int) : Cond) ∈ lw_gd := g_mem (List.mem_append_right _ (g_k4 (List.mem_of_getElem? (i := 71) rfl))) rfl
theorem tw_5 : (.initialized RX8 : Cond) ∈ lw_gd := g_mem (List.mem_append_right _ (g_k1 (List.mem_of_getElem? (i := 5) rfl))) rfl
theorem tw_790 : (.selects RX8 yX8_at yX8_at : Cond) ∈ lw_gd := g_mem (List.mem_append_right _ (g_k4 (List.mem_of_getElem? (i := 70) rfl))) rfl
theorem tw_789 : (.instanceMethod yX8_at : Cond) ∈ lw_gd := g_mem (List.mem_append_right _ (g_k4 (List.mem_of_getElem? (i := 69) rfl))) rfl
theorem tw_1066 : (.methodLink RX8 43 yX8_setAt : Cond) ∈ lw_gd := g_mem (List.mem_append_right _ (g_k5 (List.mem_of_getElem? (i := 106) rfl))) rfl
theorem tw_637 : (.code yX8_setAt cX8_setAt 4 none : Cond) ∈ lw_gd := g_mem (List.mem_append_right _ (g_k3 (List.mem_of_getElem? (i := 157) rfl))) rfl
theorem tw_636 : (.selects RX8 yX8_setAt yX8_setAt : Cond) ∈ lw_gd := g_mem (List.mem_append_right _ (g_k3 (List.mem_of_getElem? (i := 156) rfl))) rfl
theorem tw_635 : (.instanceMethod yX8_setAt : Cond) ∈ lw_gd := g_mem (List.mem_append_right _ (g_k3 (List.mem_of_getElem? (i := 155) rfl))) rfl
theorem tw_1108 : (.methodLink RX8 40 yX8_productOf : Cond) ∈ lw_gd := g_mem (List.mem_append_right _ (g_k5 (List.mem_of_getElem? (i := 148) rfl))) rfl
theorem tw_799 : (.code yX8_productOf cX8_productOf 5 (some .int) : Cond) ∈ lw_gd := g_mem (List.mem_append_right _ (g_k4 (List.mem_of_getElem? (i := 79) rfl))) rfl
theorem tw_798 : (.selects RX8 yX8_productOf yX8_productOf : Cond) ∈ lw_gd := g_mem (List.mem_append_right _ (g_k4 (List.mem_of_getElem? (i := 78) rfl))) rfl
theorem tw_797 : (.instanceMethod yX8_productOf : Cond) ∈ lw_gd := g_mem (List.mem_append_right _ (g_k4 (List.mem_of_getElem? (i := 77) rfl))) rfl
theorem tw_1109 : (.constantLong RX8 47 (1000) : Cond) ∈ lw_gd := g_mem (List.mem_append_right _ (g_k5 (List.mem_of_getElem? (i := 149) rfl))) rfl
theorem tw_1118 : (.methodLink RX8 49 yX8_clashOf : Cond) ∈ lw_gd := g_mem (List.mem_append_right _ (g_k5 (List.mem_of_getElem? (i := 158) rfl))) rfl
theorem tw_1107 : (.code yX8_clashOf cX8_clashOf 7 (some .int) : Cond) ∈ lw_gd := g_mem (List.mem_append_right _ (g_k5 (List.mem_of_getElem? (i := 147) rfl))) rfl
theorem tw_1106 : (.selects RX8 yX8_clashOf yX8_clashOf : Cond) ∈ lw_gd := g_mem (List.mem_append_right _ (g_k5 (List.mem_of_getElem? (i := 146) rfl))) rfl
theorem tw_1105 : (.instanceMethod yX8_clashOf : Cond) ∈ lw_gd := g_mem (List.mem_append_right _ (g_k5 (List.mem_of_getElem? (i := 145) rfl))) rfl
theorem tw_1331 : (.methodLink RX8 31 Lib.Math.abs.name : Cond) ∈ lw_gd := g_mem (List.mem_append_right _ (g_k6 (List.mem_of_getElem? (i := 131) rfl))) rfl
theorem tw_632 : (.static Lib.Math.abs.name : Cond) ∈ lw_gd := g_mem (List.mem_append_right _ (g_k3 (List.mem_of_getElem? (i := 152) rfl))) rfl
theorem tw_19 : (.initialized RJ9 : Cond) ∈ lw_gd := g_mem (List.mem_append_right _ (g_k1 (List.mem_of_getElem? (i := 19) rfl))) rfl
theorem tw_633 : (.code Lib.Math.abs.name Lib.Math.abs.code 1 (some .int) : Cond) ∈ lw_gd := g_mem (List.mem_append_right _ (g_k3 (List.mem_of_getElem? (i := 153) rfl))) rfl
theorem tw_1332 : (.methodLink RX8 37 Lib.Math.max.name : Cond) ∈ lw_gd := g_mem (List.mem_append_right _ (g_k6 (List.mem_of_getElem? (i := 132) rfl))) rfl
theorem tw_885 : (.static Lib.Math.max.name : Cond) ∈ lw_gd := g_mem (List.mem_append_right _ (g_k4 (List.mem_of_getElem? (i := 165) rfl))) rfl
theorem tw_886 : (.code Lib.Math.max.name Lib.Math.max.code 2 (some .int) : Cond) ∈ lw_gd := g_mem (List.mem_append_right _ (g_k4 (List.mem_of_getElem? (i := 166) rfl))) rfl
theorem tw_78 : (.fieldLink RX5 27 "ManyOut$Rules" "length" "I" : Cond) ∈ lw_gd := g_mem (List.mem_append_right _ (g_k1 (List.mem_of_getElem? (i := 78) rfl))) rfl
theorem tw_79 : (.fieldLink RX5 31 "ManyOut$Rules" "count" "I" : Cond) ∈ lw_gd := g_mem (List.mem_append_right _ (g_k1 (List.mem_of_getElem? (i := 79) rfl))) rfl
theorem tw_74 : (.fieldLink RX5 15 "ManyOut$Rules" "sumAt" "[I" : Cond) ∈ lw_gd := g_mem (List.mem_append_right _ (g_k1 (List.mem_of_getElem? (i := 74) rfl))) rfl
theorem tw_73 : (.fieldLink RX5 9 "ManyOut$Rules" "code" "[I" : Cond) ∈ lw_gd := g_mem (List.mem_append_right _ (g_k1 (List.mem_of_getElem? (i := 73) rfl))) rfl
theorem tw_75 : (.fieldLink RX5 18 "ManyOut$Rules" "testAt" "[I" : Cond) ∈ lw_gd := g_mem (List.mem_append_right _ (g_k1 (List.mem_of_getElem? (i := 75) rfl))) rfl
theorem tw_76 : (.fieldLink RX5 21 "ManyOut$Rules" "endAt" "[I" : Cond) ∈ lw_gd := g_mem (List.mem_append_right _ (g_k1 (List.mem_of_getElem? (i := 76) rfl))) rfl
theorem tw_1337 : (.methodLink RX5 34 yX5_valueOf : Cond) ∈ lw_gd := g_mem (List.mem_append_right _ (g_k6 (List.mem_of_getElem? (i := 137) rfl))) rfl
theorem tw_77 : (.fieldLink RX5 24 "ManyOut$Rules" "stack" "[I" : Cond) ∈ lw_gd := g_mem (List.mem_append_right _ (g_k1 (List.mem_of_getElem? (i := 77) rfl))) rfl
theorem tw_1341 : (.methodLink RX5 38 yX5_partBy : Cond) ∈ lw_gd := g_mem (List.mem_append_right _ (g_k6 (List.mem_of_getElem? (i := 141) rfl))) rfl
theorem tw_1343 : (.code yX5_partBy cX5_partBy 4 (some .int) : Cond) ∈ lw_gd := g_mem (List.mem_append_right _ (g_k6 (List.mem_of_getElem? (i := 143) rfl))) rfl
theorem tw_6 : (.initialized RX5 : Cond) ∈ lw_gd := g_mem (List.mem_append_right _ (g_k1 (List.mem_of_getElem? (i := 6) rfl))) rfl
theorem tw_1342 : (.static yX5_partBy : Cond) ∈ lw_gd := g_mem (List.mem_append_right _ (g_k6 (List.mem_of_getElem? (i := 142) rfl))) rfl
theorem tw_1344 : (.methodLink RX5 42 yX5_joined : Cond) ∈ lw_gd := g_mem (List.mem_append_right _ (g_k6 (List.mem_of_getElem? (i := 144) rfl))) rfl
theorem tw_1360 : (.methodLink RX5 59 Lib.Math.max.name : Cond) ∈ lw_gd := g_mem (List.mem_append_right _ (g_k6 (List.mem_of_getElem? (i := 160) rfl))) rfl
theorem tw_1357 : (.methodLink RX5 56 Lib.Math.min.name : Cond) ∈ lw_gd := g_mem (List.mem_append_right _ (g_k6 (List.mem_of_getElem? (i := 157) rfl))) rfl
theorem tw_1358 : (.static Lib.Math.min.name : Cond) ∈ lw_gd := g_mem (List.mem_append_right _ (g_k6 (List.mem_of_getElem? (i := 158) rfl))) rfl
theorem tw_1359 : (.code Lib.Math.min.name Lib.Math.min.code 2 (some .int) : Cond) ∈ lw_gd := g_mem (List.mem_append_right _ (g_k6 (List.mem_of_getElem? (i := 159) rfl))) rfl
theorem tw_1354 : (.methodLink RX5 50 yJ9_floorDiv_7cf53 : Cond) ∈ lw_gd := g_mem (List.mem_append_right _ (g_k6 (List.mem_of_getElem? (i := 154) rfl))) rfl
theorem tw_1355 : (.static yJ9_floorDiv_7cf53 : Cond) ∈ lw_gd := g_mem (List.mem_append_right _ (g_k6 (List.mem_of_getElem? (i := 155) rfl))) rfl
theorem tw_1356 : (.code yJ9_floorDiv_7cf53 cJ9_floorDiv_7cf53 3 (some .int) : Cond) ∈ lw_gd := g_mem (List.mem_append_right _ (g_k6 (List.mem_of_getElem? (i := 156) rfl))) rfl
theorem tw_1347 : (.methodLink RX5 46 yX5_bounded : Cond) ∈ lw_gd := g_mem (List.mem_append_right _ (g_k6 (List.mem_of_getElem? (i := 147) rfl))) rfl
theorem tw_1350 : (.constantLong RX5 62 (-1000000) : Cond) ∈ lw_gd := g_mem (List.mem_append_right _ (g_k6 (List.mem_of_getElem? (i := 150) rfl))) rfl
theorem tw_1351 : (.constantLong RX5 64 (1000000) : Cond) ∈ lw_gd := g_mem (List.mem_append_right _ (g_k6 (List.mem_of_getElem? (i := 151) rfl))) rfl
theorem tw_1352 : (.methodLink RX5 66 Lib.MathLoose.min_long.x : Cond) ∈ lw_gd := g_mem (List.mem_append_right _ (g_k6 (List.mem_of_getElem? (i := 152) rfl))) rfl
theorem tw_857 : (.static Lib.MathLoose.min_long.x : Cond) ∈ lw_gd := g_mem (List.mem_append_right _ (g_k4 (List.mem_of_getElem? (i := 137) rfl))) rfl
theorem tw_858 : (.code Lib.MathLoose.min_long.x Lib.MathLoose.min_long.code 4 (some .long) : Cond) ∈ lw_gd := g_mem (List.mem_append_right _ (g_k4 (List.mem_of_getElem? (i := 138) rfl))) rfl
theorem tw_1353 : (.methodLink RX5 69 Lib.MathLoose.max_long.x : Cond) ∈ lw_gd := g_mem (List.mem_append_right _ (g_k6 (List.mem_of_getElem? (i := 153) rfl))) rfl
theorem tw_860 : (.static Lib.MathLoose.max_long.x : Cond) ∈ lw_gd := g_mem (List.mem_append_right _ (g_k4 (List.mem_of_getElem? (i := 140) rfl))) rfl
theorem tw_861 : (.code Lib.MathLoose.max_long.x Lib.MathLoose.max_long.code 4 (some .long) : Cond) ∈ lw_gd := g_mem (List.mem_append_right _ (g_k4 (List.mem_of_getElem? (i := 141) rfl))) rfl
theorem tw_1349 : (.code yX5_bounded cX5_bounded 2 (some .int) : Cond) ∈ lw_gd := g_mem (List.mem_append_right _ (g_k6 (List.mem_of_getElem? (i := 149) rfl))) rfl
theorem tw_1348 : (.static yX5_bounded : Cond) ∈ lw_gd := g_mem (List.mem_append_right _ (g_k6 (List.mem_of_getElem? (i := 148) rfl))) rfl
theorem tw_1346 : (.code yX5_joined cX5_joined 3 (some .int) : Cond) ∈ lw_gd := g_mem (List.mem_append_right _ (g_k6 (List.mem_of_getElem? (i := 146) rfl))) rfl
theorem tw_1345 : (.static yX5_joined : Cond) ∈ lw_gd := g_mem (List.mem_append_right _ (g_k6 (List.mem_of_getElem? (i := 145) rfl))) rfl
theorem tw_1340 : (.code yX5_valueOf cX5_valueOf 9 (some .int) : Cond) ∈ lw_gd := g_mem (List.mem_append_right _ (g_k6 (List.mem_of_getElem? (i := 140) rfl))) rfl
theorem tp_56 : (.selects RX5 yX5_valueOf yX5_valueOf : Cond) ∈ lw_gd := g_mem (List.mem_append_left _ (List.mem_of_getElem? (i := 56) (by decide +kernel))) rfl
theorem tw_1339 : (.instanceMethod yX5_valueOf : Cond) ∈ lw_gd := g_mem (List.mem_append_right _ (g_k6 (List.mem_of_getElem? (i := 139) rfl))) rfl
theorem tw_97 : (.fieldLink RX1 12 "ManyOut$House" "table" "LManyOut$Table;" : Cond) ∈ lw_gd := g_mem (List.mem_append_right _ (g_k1 (List.mem_of_getElem? (i := 97) rfl))) rfl
theorem tw_499 : (.methodLink RX1 51 yX8_clear : Cond) ∈ lw_gd := g_mem (List.mem_append_right _ (g_k3 (List.mem_of_getElem? (i := 19) rfl))) rfl
theorem tw_502 : (.code yX8_clear cX8_clear 1 none : Cond) ∈ lw_gd := g_mem (List.mem_append_right _ (g_k3 (List.mem_of_getElem? (i := 22) rfl))) rfl
theorem tw_501 : (.selects RX8 yX8_clear yX8_clear : Cond) ∈ lw_gd := g_mem (List.mem_append_right _ (g_k3 (List.mem_of_getElem? (i := 21) rfl))) rfl
theorem tw_500 : (.instanceMethod yX8_clear : Cond) ∈ lw_gd := g_mem (List.mem_append_right _ (g_k3 (List.mem_of_getElem? (i := 20) rfl))) rfl
theorem tw_105 : (.fieldLink RX1 21 "ManyOut$House" "rules" "LManyOut$Rules;" : Cond) ∈ lw_gd := g_mem (List.mem_append_right _ (g_k1 (List.mem_of_getElem? (i := 105) rfl))) rfl
theorem tw_506 : (.methodLink RX1 54 yX5_clear : Cond) ∈ lw_gd := g_mem (List.mem_append_right _ (g_k3 (List.mem_of_getElem? (i := 26) rfl))) rfl
theorem tw_509 : (.code yX5_clear cX5_clear 1 none : Cond) ∈ lw_gd := g_mem (List.mem_append_right _ (g_k3 (List.mem_of_getElem? (i := 29) rfl))) rfl
theorem tw_508 : (.selects RX5 yX5_clear yX5_clear : Cond) ∈ lw_gd := g_mem (List.mem_append_right _ (g_k3 (List.mem_of_getElem? (i := 28) rfl))) rfl
theorem tw_507 : (.instanceMethod yX5_clear : Cond) ∈ lw_gd := g_mem (List.mem_append_right _ (g_k3 (List.mem_of_getElem? (i := 27) rfl))) rfl
theorem tw_110 : (.fieldLink RX1 29 "ManyOut$House" "letters" "I" : Cond) ∈ lw_gd := g_mem (List.mem_append_right _ (g_k1 (List.mem_of_getElem? (i := 110) rfl))) rfl
theorem tw_116 : (.fieldLink RX1 33 "ManyOut$House" "senders" "I" : Cond) ∈ lw_gd := g_mem (List.mem_append_right _ (g_k1 (List.mem_of_getElem? (i := 116) rfl))) rfl
theorem tw_125 : (.fieldLink RX1 36 "ManyOut$House" "receivers" "I" : Cond) ∈ lw_gd := g_mem (List.mem_append_right _ (g_k1 (List.mem_of_getElem? (i := 125) rfl))) rfl
theorem tw_132 : (.fieldLink RX1 39 "ManyOut$House" "rowsTold" "I" : Cond) ∈ lw_gd := g_mem (List.mem_append_right _ (g_k1 (List.mem_of_getElem? (i := 132) rfl))) rfl
theorem tw_135 : (.fieldLink RX1 42 "ManyOut$House" "wordsTold" "I" : Cond) ∈ lw_gd := g_mem (List.mem_append_right _ (g_k1 (List.mem_of_getElem? (i := 135) rfl))) rfl
theorem tw_139 : (.fieldLink RX1 45 "ManyOut$House" "limit" "I" : Cond) ∈ lw_gd := g_mem (List.mem_append_right _ (g_k1 (List.mem_of_getElem? (i := 139) rfl))) rfl
theorem tw_143 : (.fieldLink RX1 48 "ManyOut$House" "statements" "I" : Cond) ∈ lw_gd := g_mem (List.mem_append_right _ (g_k1 (List.mem_of_getElem? (i := 143) rfl))) rfl
theorem tw_843 : (.methodLink RX1 72 yX8_sentTo : Cond) ∈ lw_gd := g_mem (List.mem_append_right _ (g_k4 (List.mem_of_getElem? (i := 123) rfl))) rfl
theorem tw_834 : (.code yX8_sentTo cX8_sentTo 6 (some .int) : Cond) ∈ lw_gd := g_mem (List.mem_append_right _ (g_k4 (List.mem_of_getElem? (i := 114) rfl))) rfl
theorem tw_833 : (.selects RX8 yX8_sentTo yX8_sentTo : Cond) ∈ lw_gd := g_mem (List.mem_append_right _ (g_k4 (List.mem_of_getElem? (i := 113) rfl))) rfl
theorem tw_832 : (.instanceMethod yX8_sentTo : Cond) ∈ lw_gd := g_mem (List.mem_append_right _ (g_k4 (List.mem_of_getElem? (i := 112) rfl))) rfl
theorem tw_941 : (.methodLink RX1 59 yX1_digitInRow : Cond) ∈ lw_gd := g_mem (List.mem_append_right _ (g_k4 (List.mem_of_getElem? (i := 221) rfl))) rfl
theorem tw_945 : (.methodLink RX1 55 yX1_rowsOf : Cond) ∈ lw_gd := g_mem (List.mem_append_right _ (g_k4 (List.mem_of_getElem? (i := 225) rfl))) rfl
theorem tw_948 : (.code yX1_rowsOf cX1_rowsOf 4 (some .int) : Cond) ∈ lw_gd := g_mem (List.mem_append_right _ (g_k4 (List.mem_of_getElem? (i := 228) rfl))) rfl
theorem tw_4 : (.initialized RX1 : Cond) ∈ lw_gd := g_mem (List.mem_append_right _ (g_k1 (List.mem_of_getElem? (i := 4) rfl))) rfl
theorem tw_947 : (.selects RX1 yX1_rowsOf yX1_rowsOf : Cond) ∈ lw_gd := g_mem (List.mem_append_right _ (g_k4 (List.mem_of_getElem? (i := 227) rfl))) rfl
theorem tw_946 : (.instanceMethod yX1_rowsOf : Cond) ∈ lw_gd := g_mem (List.mem_append_right _ (g_k4 (List.mem_of_getElem? (i := 226) rfl))) rfl
theorem tw_944 : (.code yX1_digitInRow cX1_digitInRow 4 (some .int) : Cond) ∈ lw_gd := g_mem (List.mem_append_right _ (g_k4 (List.mem_of_getElem? (i := 224) rfl))) rfl
theorem tw_943 : (.selects RX1 yX1_digitInRow yX1_digitInRow : Cond) ∈ lw_gd := g_mem (List.mem_append_right _ (g_k4 (List.mem_of_getElem? (i := 223) rfl))) rfl
theorem tw_942 : (.instanceMethod yX1_digitInRow : Cond) ∈ lw_gd := g_mem (List.mem_append_right _ (g_k4 (List.mem_of_getElem? (i := 222) rfl))) rfl
theorem tw_949 : (.methodLink RX1 63 yX1_letterOfDigit : Cond) ∈ lw_gd := g_mem (List.mem_append_right _ (g_k4 (List.mem_of_getElem? (i := 229) rfl))) rfl
theorem tw_952 : (.code yX1_letterOfDigit cX1_letterOfDigit 2 (some .int) : Cond) ∈ lw_gd := g_mem (List.mem_append_right _ (g_k4 (List.mem_of_getElem? (i := 232) rfl))) rfl
theorem tw_951 : (.selects RX1 yX1_letterOfDigit yX1_letterOfDigit : Cond) ∈ lw_gd := g_mem (List.mem_append_right _ (g_k4 (List.mem_of_getElem? (i := 231) rfl))) rfl
theorem tw_950 : (.instanceMethod yX1_letterOfDigit : Cond) ∈ lw_gd := g_mem (List.mem_append_right _ (g_k4 (List.mem_of_getElem? (i := 230) rfl))) rfl
theorem tw_108 : (.fieldLink RX1 25 "ManyOut$House" "words" "[I" : Cond) ∈ lw_gd := g_mem (List.mem_append_right _ (g_k1 (List.mem_of_getElem? (i := 108) rfl))) rfl
theorem tw_1191 : (.methodLink RX1 76 Lib.Math.max.name : Cond) ∈ lw_gd := g_mem (List.mem_append_right _ (g_k5 (List.mem_of_getElem? (i := 231) rfl))) rfl
theorem tw_1190 : (.methodLink RX1 69 yX1_letterOfWord : Cond) ∈ lw_gd := g_mem (List.mem_append_right _ (g_k5 (List.mem_of_getElem? (i := 230) rfl))) rfl
theorem tw_1181 : (.code yX1_letterOfWord cX1_letterOfWord 3 (some .int) : Cond) ∈ lw_gd := g_mem (List.mem_append_right _ (g_k5 (List.mem_of_getElem? (i := 221) rfl))) rfl
theorem tw_1180 : (.selects RX1 yX1_letterOfWord yX1_letterOfWord : Cond) ∈ lw_gd := g_mem (List.mem_append_right _ (g_k5 (List.mem_of_getElem? (i := 220) rfl))) rfl
theorem tw_1179 : (.instanceMethod yX1_letterOfWord : Cond) ∈ lw_gd := g_mem (List.mem_append_right _ (g_k5 (List.mem_of_getElem? (i := 219) rfl))) rfl
theorem tw_1231 : (.methodLink RX1 66 yX1_digitOfLetter : Cond) ∈ lw_gd := g_mem (List.mem_append_right _ (g_k6 (List.mem_of_getElem? (i := 31) rfl))) rfl
theorem tw_1008 : (.code yX1_digitOfLetter cX1_digitOfLetter 2 (some .int) : Cond) ∈ lw_gd := g_mem (List.mem_append_right _ (g_k5 (List.mem_of_getElem? (i := 48) rfl))) rfl
theorem tw_1007 : (.selects RX1 yX1_digitOfLetter yX1_digitOfLetter : Cond) ∈ lw_gd := g_mem (List.mem_append_right _ (g_k5 (List.mem_of_getElem? (i := 47) rfl))) rfl
theorem tw_1006 : (.instanceMethod yX1_digitOfLetter : Cond) ∈ lw_gd := g_mem (List.mem_append_right _ (g_k5 (List.mem_of_getElem? (i := 46) rfl))) rfl
theorem tw_1326 : (.methodLink RX1 81 yX8_productOf : Cond) ∈ lw_gd := g_mem (List.mem_append_right _ (g_k6 (List.mem_of_getElem? (i := 126) rfl))) rfl
theorem tw_1327 : (.methodLink RX1 84 yX8_peakOf : Cond) ∈ lw_gd := g_mem (List.mem_append_right _ (g_k6 (List.mem_of_getElem? (i := 127) rfl))) rfl
theorem tw_1330 : (.code yX8_peakOf cX8_peakOf 4 (some .int) : Cond) ∈ lw_gd := g_mem (List.mem_append_right _ (g_k6 (List.mem_of_getElem? (i := 130) rfl))) rfl
theorem tw_1329 : (.selects RX8 yX8_peakOf yX8_peakOf : Cond) ∈ lw_gd := g_mem (List.mem_append_right _ (g_k6 (List.mem_of_getElem? (i := 129) rfl))) rfl
theorem tw_1328 : (.instanceMethod yX8_peakOf : Cond) ∈ lw_gd := g_mem (List.mem_append_right _ (g_k6 (List.mem_of_getElem? (i := 128) rfl))) rfl
theorem tw_1333 : (.methodLink RX1 87 yX5_worthBy : Cond) ∈ lw_gd := g_mem (List.mem_append_right _ (g_k6 (List.mem_of_getElem? (i := 133) rfl))) rfl
theorem tw_1336 : (.code yX5_worthBy cX5_worthBy 5 (some .int) : Cond) ∈ lw_gd := g_mem (List.mem_append_right _ (g_k6 (List.mem_of_getElem? (i := 136) rfl))) rfl
theorem tw_1335 : (.selects RX5 yX5_worthBy yX5_worthBy : Cond) ∈ lw_gd := g_mem (List.mem_append_right _ (g_k6 (List.mem_of_getElem? (i := 135) rfl))) rfl
theorem tw_1334 : (.instanceMethod yX5_worthBy : Cond) ∈ lw_gd := g_mem (List.mem_append_right _ (g_k6 (List.mem_of_getElem? (i := 134) rfl))) rfl
theorem tn_117 : (.fieldLinkNest RX10 38 "ManyOut$House" "senders" "I" "ManyOut" : Cond) ∈ lw_nw := g_nmem (g_k1 (List.mem_of_getElem? (i := 117) (by decide +kernel))) rfl
theorem tw_884 : (.methodLink RX10 43 Lib.Math.max.name : Cond) ∈ lw_gd := g_mem (List.mem_append_right _ (g_k4 (List.mem_of_getElem? (i := 164) rfl))) rfl
theorem tw_220 : (.fieldLink RX10 34 "ManyOut$Walk" "last" "I" : Cond) ∈ lw_gd := g_mem (List.mem_append_right _ (g_k1 (List.mem_of_getElem? (i := 220) rfl))) rfl
theorem tw_207 : (.fieldLink RX10 9 "ManyOut$Walk" "products" "[J" : Cond) ∈ lw_gd := g_mem (List.mem_append_right _ (g_k1 (List.mem_of_getElem? (i := 207) rfl))) rfl
theorem tn_99 : (.fieldLinkNest RX10 49 "ManyOut$House" "table" "LManyOut$Table;" "ManyOut" : Cond) ∈ lw_nw := g_nmem (g_k1 (List.mem_of_getElem? (i := 99) (by decide +kernel))) rfl
theorem tw_887 : (.methodLink RX10 53 yX8_productOf : Cond) ∈ lw_gd := g_mem (List.mem_append_right _ (g_k4 (List.mem_of_getElem? (i := 167) rfl))) rfl
theorem tw_210 : (.fieldLink RX10 18 "ManyOut$Walk" "cross" "[J" : Cond) ∈ lw_gd := g_mem (List.mem_append_right _ (g_k1 (List.mem_of_getElem? (i := 210) rfl))) rfl
theorem tw_209 : (.fieldLink RX10 15 "ManyOut$Walk" "base" "[J" : Cond) ∈ lw_gd := g_mem (List.mem_append_right _ (g_k1 (List.mem_of_getElem? (i := 209) rfl))) rfl
theorem tn_126 : (.fieldLinkNest RX10 58 "ManyOut$House" "receivers" "I" "ManyOut" : Cond) ∈ lw_nw := g_nmem (g_k1 (List.mem_of_getElem? (i := 126) (by decide +kernel))) rfl
theorem tw_892 : (.methodLink RX10 61 yX8_at : Cond) ∈ lw_gd := g_mem (List.mem_append_right _ (g_k4 (List.mem_of_getElem? (i := 172) rfl))) rfl
theorem tw_897 : (.methodLink RX10 64 yX10_setNumbers : Cond) ∈ lw_gd := g_mem (List.mem_append_right _ (g_k4 (List.mem_of_getElem? (i := 177) rfl))) rfl
theorem tw_211 : (.fieldLink RX10 21 "ManyOut$Walk" "low" "[I" : Cond) ∈ lw_gd := g_mem (List.mem_append_right _ (g_k1 (List.mem_of_getElem? (i := 211) rfl))) rfl
theorem tw_213 : (.fieldLink RX10 25 "ManyOut$Walk" "gap" "[I" : Cond) ∈ lw_gd := g_mem (List.mem_append_right _ (g_k1 (List.mem_of_getElem? (i := 213) rfl))) rfl
theorem tw_214 : (.fieldLink RX10 28 "ManyOut$Walk" "count" "[I" : Cond) ∈ lw_gd := g_mem (List.mem_append_right _ (g_k1 (List.mem_of_getElem? (i := 214) rfl))) rfl
theorem tw_900 : (.code yX10_setNumbers cX10_setNumbers 5 none : Cond) ∈ lw_gd := g_mem (List.mem_append_right _ (g_k4 (List.mem_of_getElem? (i := 180) rfl))) rfl
theorem tw_8 : (.initialized RX10 : Cond) ∈ lw_gd := g_mem (List.mem_append_right _ (g_k1 (List.mem_of_getElem? (i := 8) rfl))) rfl
theorem tw_899 : (.selects RX10 yX10_setNumbers yX10_setNumbers : Cond) ∈ lw_gd := g_mem (List.mem_append_right _ (g_k4 (List.mem_of_getElem? (i := 179) rfl))) rfl
theorem tw_898 : (.instanceMethod yX10_setNumbers : Cond) ∈ lw_gd := g_mem (List.mem_append_right _ (g_k4 (List.mem_of_getElem? (i := 178) rfl))) rfl
theorem tw_216 : (.fieldLink RX10 31 "ManyOut$Walk" "digit" "[I" : Cond) ∈ lw_gd := g_mem (List.mem_append_right _ (g_k1 (List.mem_of_getElem? (i := 216) rfl))) rfl
theorem tw_905 : (.methodLink RX10 68 yJ7_fill_53178 : Cond) ∈ lw_gd := g_mem (List.mem_append_right _ (g_k4 (List.mem_of_getElem? (i := 185) rfl))) rfl
theorem tw_906 : (.methodLink RX10 74 yX10_settle : Cond) ∈ lw_gd := g_mem (List.mem_append_right _ (g_k4 (List.mem_of_getElem? (i := 186) rfl))) rfl
theorem tw_910 : (.constantLong RX10 78 (2) : Cond) ∈ lw_gd := g_mem (List.mem_append_right _ (g_k4 (List.mem_of_getElem? (i := 190) rfl))) rfl
theorem tw_909 : (.code yX10_settle cX10_settle 7 none : Cond) ∈ lw_gd := g_mem (List.mem_append_right _ (g_k4 (List.mem_of_getElem? (i := 189) rfl))) rfl
theorem tp_33 : (.selects RX10 yX10_settle yX10_settle : Cond) ∈ lw_gd := g_mem (List.mem_append_left _ (List.mem_of_getElem? (i := 33) (by decide +kernel))) rfl
theorem tw_908 : (.instanceMethod yX10_settle : Cond) ∈ lw_gd := g_mem (List.mem_append_right _ (g_k4 (List.mem_of_getElem? (i := 188) rfl))) rfl
theorem tw_1152 : (.methodLink RX10 80 yJ9_floorDiv_f86c9 : Cond) ∈ lw_gd := g_mem (List.mem_append_right _ (g_k5 (List.mem_of_getElem? (i := 192) rfl))) rfl
theorem tw_1153 : (.static yJ9_floorDiv_f86c9 : Cond) ∈ lw_gd := g_mem (List.mem_append_right _ (g_k5 (List.mem_of_getElem? (i := 193) rfl))) rfl
theorem tw_1154 : (.code yJ9_floorDiv_f86c9 cJ9_floorDiv_f86c9 6 (some .long) : Cond) ∈ lw_gd := g_mem (List.mem_append_right _ (g_k5 (List.mem_of_getElem? (i := 194) rfl))) rfl
theorem tw_1155 : (.methodLink RX10 84 Lib.MathLoose.min_long.x : Cond) ∈ lw_gd := g_mem (List.mem_append_right _ (g_k5 (List.mem_of_getElem? (i := 195) rfl))) rfl
theorem tw_1156 : (.methodLink RX10 87 Lib.MathLoose.max_long.x : Cond) ∈ lw_gd := g_mem (List.mem_append_right _ (g_k5 (List.mem_of_getElem? (i := 196) rfl))) rfl
theorem tw_1157 : (.methodLink RX10 89 yX10_squaresAt : Cond) ∈ lw_gd := g_mem (List.mem_append_right _ (g_k5 (List.mem_of_getElem? (i := 197) rfl))) rfl
theorem tw_922 : (.code yX10_squaresAt cX10_squaresAt 5 (some .long) : Cond) ∈ lw_gd := g_mem (List.mem_append_right _ (g_k4 (List.mem_of_getElem? (i := 202) rfl))) rfl
theorem tw_921 : (.selects RX10 yX10_squaresAt yX10_squaresAt : Cond) ∈ lw_gd := g_mem (List.mem_append_right _ (g_k4 (List.mem_of_getElem? (i := 201) rfl))) rfl
theorem tw_920 : (.instanceMethod yX10_squaresAt : Cond) ∈ lw_gd := g_mem (List.mem_append_right _ (g_k4 (List.mem_of_getElem? (i := 200) rfl))) rfl
theorem tw_317 : (.fieldLink RX0 23 "ManyOut$Code" "known" "Z" : Cond) ∈ lw_gd := g_mem (List.mem_append_right _ (g_k2 (List.mem_of_getElem? (i := 77) rfl))) rfl
theorem tn_136 : (.fieldLinkNest RX0 37 "ManyOut$House" "wordsTold" "I" "ManyOut" : Cond) ∈ lw_nw := g_nmem (g_k1 (List.mem_of_getElem? (i := 136) (by decide +kernel))) rfl
theorem tw_316 : (.fieldLink RX0 19 "ManyOut$Code" "words" "I" : Cond) ∈ lw_gd := g_mem (List.mem_append_right _ (g_k2 (List.mem_of_getElem? (i := 76) rfl))) rfl
theorem tw_314 : (.fieldLink RX0 9 "ManyOut$Code" "worth" "[J" : Cond) ∈ lw_gd := g_mem (List.mem_append_right _ (g_k2 (List.mem_of_getElem? (i := 74) rfl))) rfl
theorem tw_1196 : (.methodLink RX0 42 yX0_worthOfPair : Cond) ∈ lw_gd := g_mem (List.mem_append_right _ (g_k5 (List.mem_of_getElem? (i := 236) rfl))) rfl
theorem tn_119 : (.fieldLinkNest RX0 46 "ManyOut$House" "senders" "I" "ManyOut" : Cond) ∈ lw_nw := g_nmem (g_k1 (List.mem_of_getElem? (i := 119) (by decide +kernel))) rfl
theorem tn_127 : (.fieldLinkNest RX0 53 "ManyOut$House" "receivers" "I" "ManyOut" : Cond) ∈ lw_nw := g_nmem (g_k1 (List.mem_of_getElem? (i := 127) (by decide +kernel))) rfl
theorem tn_100 : (.fieldLinkNest RX0 56 "ManyOut$House" "table" "LManyOut$Table;" "ManyOut" : Cond) ∈ lw_nw := g_nmem (g_k1 (List.mem_of_getElem? (i := 100) (by decide +kernel))) rfl
theorem tw_315 : (.fieldLink RX0 15 "ManyOut$Code" "difference" "[I" : Cond) ∈ lw_gd := g_mem (List.mem_append_right _ (g_k2 (List.mem_of_getElem? (i := 75) rfl))) rfl
theorem tw_1201 : (.methodLink RX0 60 yX8_sentTo : Cond) ∈ lw_gd := g_mem (List.mem_append_right _ (g_k6 (List.mem_of_getElem? (i := 1) rfl))) rfl
theorem tw_1200 : (.methodLink RX0 49 yX1_letterOfWord : Cond) ∈ lw_gd := g_mem (List.mem_append_right _ (g_k6 (List.mem_of_getElem? (i := 0) rfl))) rfl
theorem tw_1199 : (.code yX0_worthOfPair cX0_worthOfPair 9 (some .long) : Cond) ∈ lw_gd := g_mem (List.mem_append_right _ (g_k5 (List.mem_of_getElem? (i := 239) rfl))) rfl
theorem tw_11 : (.initialized RX0 : Cond) ∈ lw_gd := g_mem (List.mem_append_right _ (g_k1 (List.mem_of_getElem? (i := 11) rfl))) rfl
theorem tp_46 : (.selects RX0 yX0_worthOfPair yX0_worthOfPair : Cond) ∈ lw_gd := g_mem (List.mem_append_left _ (List.mem_of_getElem? (i := 46) (by decide +kernel))) rfl
theorem tw_1198 : (.instanceMethod yX0_worthOfPair : Cond) ∈ lw_gd := g_mem (List.mem_append_right _ (g_k5 (List.mem_of_getElem? (i := 238) rfl))) rfl
theorem tw_1206 : (.constantLong RX0 66 (1000000000000000) : Cond) ∈ lw_gd := g_mem (List.mem_append_right _ (g_k6 (List.mem_of_getElem? (i := 6) rfl))) rfl
theorem tw_318 : (.fieldLink RX0 27 "ManyOut$Code" "leastWorth" "J" : Cond) ∈ lw_gd := g_mem (List.mem_append_right _ (g_k2 (List.mem_of_getElem? (i := 78) rfl))) rfl
theorem tw_320 : (.fieldLink RX0 31 "ManyOut$Code" "leastPairs" "I" : Cond) ∈ lw_gd := g_mem (List.mem_append_right _ (g_k2 (List.mem_of_getElem? (i := 80) rfl))) rfl
theorem tw_1207 : (.methodLink RX0 68 yX0_weighPair : Cond) ∈ lw_gd := g_mem (List.mem_append_right _ (g_k6 (List.mem_of_getElem? (i := 7) rfl))) rfl
theorem tw_322 : (.fieldLink RX0 34 "ManyOut$Code" "firstPair" "I" : Cond) ∈ lw_gd := g_mem (List.mem_append_right _ (g_k2 (List.mem_of_getElem? (i := 82) rfl))) rfl
theorem tw_1210 : (.code yX0_weighPair cX0_weighPair 5 none : Cond) ∈ lw_gd := g_mem (List.mem_append_right _ (g_k6 (List.mem_of_getElem? (i := 10) rfl))) rfl
theorem tp_47 : (.selects RX0 yX0_weighPair yX0_weighPair : Cond) ∈ lw_gd := g_mem (List.mem_append_left _ (List.mem_of_getElem? (i := 47) (by decide +kernel))) rfl
theorem tw_1209 : (.instanceMethod yX0_weighPair : Cond) ∈ lw_gd := g_mem (List.mem_append_right _ (g_k6 (List.mem_of_getElem? (i := 9) rfl))) rfl
theorem tw_296 : (.fieldLink RX6 22 "ManyOut$Sums" "apartKnown" "[J" : Cond) ∈ lw_gd := g_mem (List.mem_append_right _ (g_k2 (List.mem_of_getElem? (i := 56) rfl))) rfl
theorem tw_289 : (.constantLong RX6 30 (-1) : Cond) ∈ lw_gd := g_mem (List.mem_append_right _ (g_k2 (List.mem_of_getElem? (i := 49) rfl))) rfl
theorem tw_290 : (.methodLink RX6 32 yJ7_fill_d0a16 : Cond) ∈ lw_gd := g_mem (List.mem_append_right _ (g_k2 (List.mem_of_getElem? (i := 50) rfl))) rfl
theorem tw_292 : (.code yJ7_fill_d0a16 cJ7_fill_d0a16 5 none : Cond) ∈ lw_gd := g_mem (List.mem_append_right _ (g_k2 (List.mem_of_getElem? (i := 52) rfl))) rfl
theorem tw_291 : (.static yJ7_fill_d0a16 : Cond) ∈ lw_gd := g_mem (List.mem_append_right _ (g_k2 (List.mem_of_getElem? (i := 51) rfl))) rfl
theorem tw_293 : (.fieldLink RX6 12 "ManyOut$Sums" "walk" "LManyOut$Walk;" : Cond) ∈ lw_gd := g_mem (List.mem_append_right _ (g_k2 (List.mem_of_getElem? (i := 53) rfl))) rfl
theorem tw_1139 : (.methodLink RX6 50 yX10_start : Cond) ∈ lw_gd := g_mem (List.mem_append_right _ (g_k5 (List.mem_of_getElem? (i := 179) rfl))) rfl
theorem tw_883 : (.code yX10_start cX10_start 4 none : Cond) ∈ lw_gd := g_mem (List.mem_append_right _ (g_k4 (List.mem_of_getElem? (i := 163) rfl))) rfl
theorem tw_882 : (.selects RX10 yX10_start yX10_start : Cond) ∈ lw_gd := g_mem (List.mem_append_right _ (g_k4 (List.mem_of_getElem? (i := 162) rfl))) rfl
theorem tw_881 : (.instanceMethod yX10_start : Cond) ∈ lw_gd := g_mem (List.mem_append_right _ (g_k4 (List.mem_of_getElem? (i := 161) rfl))) rfl
theorem tn_121 : (.fieldLinkNest RX6 54 "ManyOut$House" "senders" "I" "ManyOut" : Cond) ∈ lw_nw := g_nmem (g_k1 (List.mem_of_getElem? (i := 121) (by decide +kernel))) rfl
theorem tw_1141 : (.constantLong RX6 61 (1000000000000000) : Cond) ∈ lw_gd := g_mem (List.mem_append_right _ (g_k5 (List.mem_of_getElem? (i := 181) rfl))) rfl
theorem tw_297 : (.fieldLink RX6 26 "ManyOut$Sums" "leastSquares" "J" : Cond) ∈ lw_gd := g_mem (List.mem_append_right _ (g_k2 (List.mem_of_getElem? (i := 57) rfl))) rfl
theorem tn_215 : (.fieldLinkNest RX6 63 "ManyOut$Walk" "count" "[I" "ManyOut" : Cond) ∈ lw_nw := g_nmem (g_k1 (List.mem_of_getElem? (i := 215) (by decide +kernel))) rfl
theorem tn_221 : (.fieldLinkNest RX6 66 "ManyOut$Walk" "last" "I" "ManyOut" : Cond) ∈ lw_nw := g_nmem (g_k1 (List.mem_of_getElem? (i := 221) (by decide +kernel))) rfl
theorem tw_1142 : (.methodLink RX6 69 yX10_lineCount : Cond) ∈ lw_gd := g_mem (List.mem_append_right _ (g_k5 (List.mem_of_getElem? (i := 182) rfl))) rfl
theorem tw_914 : (.code yX10_lineCount cX10_lineCount 3 (some .int) : Cond) ∈ lw_gd := g_mem (List.mem_append_right _ (g_k4 (List.mem_of_getElem? (i := 194) rfl))) rfl
theorem tw_913 : (.selects RX10 yX10_lineCount yX10_lineCount : Cond) ∈ lw_gd := g_mem (List.mem_append_right _ (g_k4 (List.mem_of_getElem? (i := 193) rfl))) rfl
theorem tw_912 : (.instanceMethod yX10_lineCount : Cond) ∈ lw_gd := g_mem (List.mem_append_right _ (g_k4 (List.mem_of_getElem? (i := 192) rfl))) rfl
theorem tw_1143 : (.methodLink RX6 73 yX10_firstLine : Cond) ∈ lw_gd := g_mem (List.mem_append_right _ (g_k5 (List.mem_of_getElem? (i := 183) rfl))) rfl
theorem tw_904 : (.code yX10_firstLine cX10_firstLine 1 none : Cond) ∈ lw_gd := g_mem (List.mem_append_right _ (g_k4 (List.mem_of_getElem? (i := 184) rfl))) rfl
theorem tw_903 : (.selects RX10 yX10_firstLine yX10_firstLine : Cond) ∈ lw_gd := g_mem (List.mem_append_right _ (g_k4 (List.mem_of_getElem? (i := 183) rfl))) rfl
theorem tw_902 : (.instanceMethod yX10_firstLine : Cond) ∈ lw_gd := g_mem (List.mem_append_right _ (g_k4 (List.mem_of_getElem? (i := 182) rfl))) rfl
theorem tw_1144 : (.methodLink RX6 76 yX6_lookAtLine : Cond) ∈ lw_gd := g_mem (List.mem_append_right _ (g_k5 (List.mem_of_getElem? (i := 184) rfl))) rfl
theorem tw_1148 : (.methodLink RX6 83 yX10_bestDigit : Cond) ∈ lw_gd := g_mem (List.mem_append_right _ (g_k5 (List.mem_of_getElem? (i := 188) rfl))) rfl
theorem tw_1151 : (.code yX10_bestDigit cX10_bestDigit 8 (some .int) : Cond) ∈ lw_gd := g_mem (List.mem_append_right _ (g_k5 (List.mem_of_getElem? (i := 191) rfl))) rfl
theorem tw_1150 : (.selects RX10 yX10_bestDigit yX10_bestDigit : Cond) ∈ lw_gd := g_mem (List.mem_append_right _ (g_k5 (List.mem_of_getElem? (i := 190) rfl))) rfl
theorem tw_1149 : (.instanceMethod yX10_bestDigit : Cond) ∈ lw_gd := g_mem (List.mem_append_right _ (g_k5 (List.mem_of_getElem? (i := 189) rfl))) rfl
theorem tw_1158 : (.methodLink RX6 87 yX10_squaresAt : Cond) ∈ lw_gd := g_mem (List.mem_append_right _ (g_k5 (List.mem_of_getElem? (i := 198) rfl))) rfl
theorem tw_294 : (.fieldLink RX6 18 "ManyOut$Sums" "numbers" "[I" : Cond) ∈ lw_gd := g_mem (List.mem_append_right _ (g_k2 (List.mem_of_getElem? (i := 54) rfl))) rfl
theorem tn_212 : (.fieldLinkNest RX6 91 "ManyOut$Walk" "low" "[I" "ManyOut" : Cond) ∈ lw_nw := g_nmem (g_k1 (List.mem_of_getElem? (i := 212) (by decide +kernel))) rfl
theorem tn_217 : (.fieldLinkNest RX6 94 "ManyOut$Walk" "digit" "[I" "ManyOut" : Cond) ∈ lw_nw := g_nmem (g_k1 (List.mem_of_getElem? (i := 217) (by decide +kernel))) rfl
theorem tw_1147 : (.code yX6_lookAtLine cX6_lookAtLine 6 none : Cond) ∈ lw_gd := g_mem (List.mem_append_right _ (g_k5 (List.mem_of_getElem? (i := 187) rfl))) rfl
theorem tw_9 : (.initialized RX6 : Cond) ∈ lw_gd := g_mem (List.mem_append_right _ (g_k1 (List.mem_of_getElem? (i := 9) rfl))) rfl
theorem tp_45 : (.selects RX6 yX6_lookAtLine yX6_lookAtLine : Cond) ∈ lw_gd := g_mem (List.mem_append_left _ (List.mem_of_getElem? (i := 45) (by decide +kernel))) rfl
theorem tw_1146 : (.instanceMethod yX6_lookAtLine : Cond) ∈ lw_gd := g_mem (List.mem_append_right _ (g_k5 (List.mem_of_getElem? (i := 186) rfl))) rfl
theorem tw_1159 : (.methodLink RX6 80 yX10_nextLine : Cond) ∈ lw_gd := g_mem (List.mem_append_right _ (g_k5 (List.mem_of_getElem? (i := 199) rfl))) rfl
theorem tw_936 : (.code yX10_nextLine cX10_nextLine 2 none : Cond) ∈ lw_gd := g_mem (List.mem_append_right _ (g_k4 (List.mem_of_getElem? (i := 216) rfl))) rfl
theorem tw_935 : (.selects RX10 yX10_nextLine yX10_nextLine : Cond) ∈ lw_gd := g_mem (List.mem_append_right _ (g_k4 (List.mem_of_getElem? (i := 215) rfl))) rfl
theorem tw_934 : (.instanceMethod yX10_nextLine : Cond) ∈ lw_gd := g_mem (List.mem_append_right _ (g_k4 (List.mem_of_getElem? (i := 214) rfl))) rfl
theorem tw_1140 : (.methodLink RX6 57 yX10_setNumbers : Cond) ∈ lw_gd := g_mem (List.mem_append_right _ (g_k5 (List.mem_of_getElem? (i := 180) rfl))) rfl
theorem tn_111 : (.fieldLinkNest RX6 38 "ManyOut$House" "letters" "I" "ManyOut" : Cond) ∈ lw_nw := g_nmem (g_k1 (List.mem_of_getElem? (i := 111) (by decide +kernel))) rfl
theorem tw_1168 : (.methodLink RX6 44 yX6_findShortest : Cond) ∈ lw_gd := g_mem (List.mem_append_right _ (g_k5 (List.mem_of_getElem? (i := 208) rfl))) rfl
theorem tw_1138 : (.code yX6_findShortest cX6_findShortest 8 none : Cond) ∈ lw_gd := g_mem (List.mem_append_right _ (g_k5 (List.mem_of_getElem? (i := 178) rfl))) rfl
theorem tw_1137 : (.selects RX6 yX6_findShortest yX6_findShortest : Cond) ∈ lw_gd := g_mem (List.mem_append_right _ (g_k5 (List.mem_of_getElem? (i := 177) rfl))) rfl
theorem tw_1136 : (.instanceMethod yX6_findShortest : Cond) ∈ lw_gd := g_mem (List.mem_append_right _ (g_k5 (List.mem_of_getElem? (i := 176) rfl))) rfl
theorem tw_1169 : (.constantLong RX6 48 (4) : Cond) ∈ lw_gd := g_mem (List.mem_append_right _ (g_k5 (List.mem_of_getElem? (i := 209) rfl))) rfl
theorem tw_257 : (.fieldLink RX7 49 "ManyOut$Survey" "known" "Z" : Cond) ∈ lw_gd := g_mem (List.mem_append_right _ (g_k2 (List.mem_of_getElem? (i := 17) rfl))) rfl
theorem tn_120 : (.fieldLinkNest RX7 73 "ManyOut$House" "senders" "I" "ManyOut" : Cond) ∈ lw_nw := g_nmem (g_k1 (List.mem_of_getElem? (i := 120) (by decide +kernel))) rfl
theorem tw_254 : (.fieldLink RX7 41 "ManyOut$Survey" "nearCount" "I" : Cond) ∈ lw_gd := g_mem (List.mem_append_right _ (g_k2 (List.mem_of_getElem? (i := 14) rfl))) rfl
theorem tw_256 : (.fieldLink RX7 45 "ManyOut$Survey" "allWeight" "J" : Cond) ∈ lw_gd := g_mem (List.mem_append_right _ (g_k2 (List.mem_of_getElem? (i := 16) rfl))) rfl
theorem tw_247 : (.fieldLink RX7 26 "ManyOut$Survey" "least" "[J" : Cond) ∈ lw_gd := g_mem (List.mem_append_right _ (g_k2 (List.mem_of_getElem? (i := 7) rfl))) rfl
theorem tw_874 : (.constantLong RX7 76 (1000000000000000) : Cond) ∈ lw_gd := g_mem (List.mem_append_right _ (g_k4 (List.mem_of_getElem? (i := 154) rfl))) rfl
theorem tw_875 : (.methodLink RX7 78 yJ7_fill_d0a16 : Cond) ∈ lw_gd := g_mem (List.mem_append_right _ (g_k4 (List.mem_of_getElem? (i := 155) rfl))) rfl
theorem tw_248 : (.fieldLink RX7 29 "ManyOut$Survey" "weight" "[J" : Cond) ∈ lw_gd := g_mem (List.mem_append_right _ (g_k2 (List.mem_of_getElem? (i := 8) rfl))) rfl
theorem tw_876 : (.methodLink RX7 84 yX7_startWalk : Cond) ∈ lw_gd := g_mem (List.mem_append_right _ (g_k4 (List.mem_of_getElem? (i := 156) rfl))) rfl
theorem tw_242 : (.fieldLink RX7 12 "ManyOut$Survey" "walk" "LManyOut$Walk;" : Cond) ∈ lw_gd := g_mem (List.mem_append_right _ (g_k2 (List.mem_of_getElem? (i := 2) rfl))) rfl
theorem tw_880 : (.methodLink RX7 53 yX10_start : Cond) ∈ lw_gd := g_mem (List.mem_append_right _ (g_k4 (List.mem_of_getElem? (i := 160) rfl))) rfl
theorem tw_888 : (.methodLink RX7 57 yX10_aimAt : Cond) ∈ lw_gd := g_mem (List.mem_append_right _ (g_k4 (List.mem_of_getElem? (i := 168) rfl))) rfl
theorem tw_891 : (.code yX10_aimAt cX10_aimAt 9 none : Cond) ∈ lw_gd := g_mem (List.mem_append_right _ (g_k4 (List.mem_of_getElem? (i := 171) rfl))) rfl
theorem tw_890 : (.selects RX10 yX10_aimAt yX10_aimAt : Cond) ∈ lw_gd := g_mem (List.mem_append_right _ (g_k4 (List.mem_of_getElem? (i := 170) rfl))) rfl
theorem tw_889 : (.instanceMethod yX10_aimAt : Cond) ∈ lw_gd := g_mem (List.mem_append_right _ (g_k4 (List.mem_of_getElem? (i := 169) rfl))) rfl
theorem tn_112 : (.fieldLinkNest RX7 61 "ManyOut$House" "letters" "I" "ManyOut" : Cond) ∈ lw_nw := g_nmem (g_k1 (List.mem_of_getElem? (i := 112) (by decide +kernel))) rfl
theorem tw_893 : (.methodLink RX7 66 yX10_setAllNumbers : Cond) ∈ lw_gd := g_mem (List.mem_append_right _ (g_k4 (List.mem_of_getElem? (i := 173) rfl))) rfl
theorem tw_896 : (.code yX10_setAllNumbers cX10_setAllNumbers 5 none : Cond) ∈ lw_gd := g_mem (List.mem_append_right _ (g_k4 (List.mem_of_getElem? (i := 176) rfl))) rfl
theorem tw_895 : (.selects RX10 yX10_setAllNumbers yX10_setAllNumbers : Cond) ∈ lw_gd := g_mem (List.mem_append_right _ (g_k4 (List.mem_of_getElem? (i := 175) rfl))) rfl
theorem tw_894 : (.instanceMethod yX10_setAllNumbers : Cond) ∈ lw_gd := g_mem (List.mem_append_right _ (g_k4 (List.mem_of_getElem? (i := 174) rfl))) rfl
theorem tw_901 : (.methodLink RX7 70 yX10_firstLine : Cond) ∈ lw_gd := g_mem (List.mem_append_right _ (g_k4 (List.mem_of_getElem? (i := 181) rfl))) rfl
theorem tw_879 : (.code yX7_startWalk cX7_startWalk 3 none : Cond) ∈ lw_gd := g_mem (List.mem_append_right _ (g_k4 (List.mem_of_getElem? (i := 159) rfl))) rfl
theorem tw_7 : (.initialized RX7 : Cond) ∈ lw_gd := g_mem (List.mem_append_right _ (g_k1 (List.mem_of_getElem? (i := 7) rfl))) rfl
theorem tp_32 : (.selects RX7 yX7_startWalk yX7_startWalk : Cond) ∈ lw_gd := g_mem (List.mem_append_left _ (List.mem_of_getElem? (i := 32) (by decide +kernel))) rfl
theorem tw_878 : (.instanceMethod yX7_startWalk : Cond) ∈ lw_gd := g_mem (List.mem_append_right _ (g_k4 (List.mem_of_getElem? (i := 158) rfl))) rfl
theorem tw_911 : (.methodLink RX7 87 yX10_lineCount : Cond) ∈ lw_gd := g_mem (List.mem_append_right _ (g_k4 (List.mem_of_getElem? (i := 191) rfl))) rfl
theorem tw_915 : (.methodLink RX7 91 yX7_learnLine : Cond) ∈ lw_gd := g_mem (List.mem_append_right _ (g_k4 (List.mem_of_getElem? (i := 195) rfl))) rfl
theorem tn_222 : (.fieldLinkNest RX7 104 "ManyOut$Walk" "last" "I" "ManyOut" : Cond) ∈ lw_nw := g_nmem (g_k1 (List.mem_of_getElem? (i := 222) (by decide +kernel))) rfl
theorem tn_218 : (.fieldLinkNest RX7 121 "ManyOut$Walk" "digit" "[I" "ManyOut" : Cond) ∈ lw_nw := g_nmem (g_k1 (List.mem_of_getElem? (i := 218) (by decide +kernel))) rfl
theorem tw_924 : (.methodLink RX7 107 yX7_note : Cond) ∈ lw_gd := g_mem (List.mem_append_right _ (g_k4 (List.mem_of_getElem? (i := 204) rfl))) rfl
theorem tw_928 : (.methodLink RX7 115 Lib.MathLoose.min_long.x : Cond) ∈ lw_gd := g_mem (List.mem_append_right _ (g_k4 (List.mem_of_getElem? (i := 208) rfl))) rfl
theorem tw_927 : (.code yX7_note cX7_note 8 none : Cond) ∈ lw_gd := g_mem (List.mem_append_right _ (g_k4 (List.mem_of_getElem? (i := 207) rfl))) rfl
theorem tp_35 : (.selects RX7 yX7_note yX7_note : Cond) ∈ lw_gd := g_mem (List.mem_append_left _ (List.mem_of_getElem? (i := 35) (by decide +kernel))) rfl
theorem tw_926 : (.instanceMethod yX7_note : Cond) ∈ lw_gd := g_mem (List.mem_append_right _ (g_k4 (List.mem_of_getElem? (i := 206) rfl))) rfl
theorem tw_919 : (.methodLink RX7 98 yX10_squaresAt : Cond) ∈ lw_gd := g_mem (List.mem_append_right _ (g_k4 (List.mem_of_getElem? (i := 199) rfl))) rfl
theorem tw_923 : (.constantLong RX7 102 (1000000000) : Cond) ∈ lw_gd := g_mem (List.mem_append_right _ (g_k4 (List.mem_of_getElem? (i := 203) rfl))) rfl
theorem tw_929 : (.methodLink RX7 111 yX7_admit : Cond) ∈ lw_gd := g_mem (List.mem_append_right _ (g_k4 (List.mem_of_getElem? (i := 209) rfl))) rfl
theorem tw_243 : (.fieldLink RX7 18 "ManyOut$Survey" "nearDistance" "[J" : Cond) ∈ lw_gd := g_mem (List.mem_append_right _ (g_k2 (List.mem_of_getElem? (i := 3) rfl))) rfl
theorem tw_245 : (.fieldLink RX7 22 "ManyOut$Survey" "nearRow" "[I" : Cond) ∈ lw_gd := g_mem (List.mem_append_right _ (g_k2 (List.mem_of_getElem? (i := 5) rfl))) rfl
theorem tw_932 : (.code yX7_admit cX7_admit 5 none : Cond) ∈ lw_gd := g_mem (List.mem_append_right _ (g_k4 (List.mem_of_getElem? (i := 212) rfl))) rfl
theorem tp_36 : (.selects RX7 yX7_admit yX7_admit : Cond) ∈ lw_gd := g_mem (List.mem_append_left _ (List.mem_of_getElem? (i := 36) (by decide +kernel))) rfl
theorem tw_931 : (.instanceMethod yX7_admit : Cond) ∈ lw_gd := g_mem (List.mem_append_right _ (g_k4 (List.mem_of_getElem? (i := 211) rfl))) rfl
theorem tw_918 : (.code yX7_learnLine cX7_learnLine 12 none : Cond) ∈ lw_gd := g_mem (List.mem_append_right _ (g_k4 (List.mem_of_getElem? (i := 198) rfl))) rfl
theorem tp_34 : (.selects RX7 yX7_learnLine yX7_learnLine : Cond) ∈ lw_gd := g_mem (List.mem_append_left _ (List.mem_of_getElem? (i := 34) (by decide +kernel))) rfl
theorem tw_917 : (.instanceMethod yX7_learnLine : Cond) ∈ lw_gd := g_mem (List.mem_append_right _ (g_k4 (List.mem_of_getElem? (i := 197) rfl))) rfl
theorem tw_933 : (.methodLink RX7 95 yX10_nextLine : Cond) ∈ lw_gd := g_mem (List.mem_append_right _ (g_k4 (List.mem_of_getElem? (i := 213) rfl))) rfl
theorem tw_977 : (.methodLink RX7 130 yX7_findTurns : Cond) ∈ lw_gd := g_mem (List.mem_append_right _ (g_k5 (List.mem_of_getElem? (i := 17) rfl))) rfl
theorem tn_103 : (.fieldLinkNest RX7 146 "ManyOut$House" "table" "LManyOut$Table;" "ManyOut" : Cond) ∈ lw_nw := g_nmem (g_k1 (List.mem_of_getElem? (i := 103) (by decide +kernel))) rfl
theorem tw_981 : (.methodLink RX7 156 yX8_productOf : Cond) ∈ lw_gd := g_mem (List.mem_append_right _ (g_k5 (List.mem_of_getElem? (i := 21) rfl))) rfl
theorem tw_249 : (.fieldLink RX7 32 "ManyOut$Survey" "turns" "[I" : Cond) ∈ lw_gd := g_mem (List.mem_append_right _ (g_k2 (List.mem_of_getElem? (i := 9) rfl))) rfl
theorem tw_980 : (.code yX7_findTurns cX7_findTurns 5 none : Cond) ∈ lw_gd := g_mem (List.mem_append_right _ (g_k5 (List.mem_of_getElem? (i := 20) rfl))) rfl
theorem tp_37 : (.selects RX7 yX7_findTurns yX7_findTurns : Cond) ∈ lw_gd := g_mem (List.mem_append_left _ (List.mem_of_getElem? (i := 37) (by decide +kernel))) rfl
theorem tw_979 : (.instanceMethod yX7_findTurns : Cond) ∈ lw_gd := g_mem (List.mem_append_right _ (g_k5 (List.mem_of_getElem? (i := 19) rfl))) rfl
theorem tw_253 : (.fieldLink RX7 38 "ManyOut$Survey" "left" "[I" : Cond) ∈ lw_gd := g_mem (List.mem_append_right _ (g_k2 (List.mem_of_getElem? (i := 13) rfl))) rfl
theorem tw_982 : (.methodLink RX7 133 arraycopyName : Cond) ∈ lw_gd := g_mem (List.mem_append_right _ (g_k5 (List.mem_of_getElem? (i := 22) rfl))) rfl
theorem tw_251 : (.fieldLink RX7 35 "ManyOut$Survey" "cancelled" "[I" : Cond) ∈ lw_gd := g_mem (List.mem_append_right _ (g_k2 (List.mem_of_getElem? (i := 11) rfl))) rfl
theorem tw_983 : (.methodLink RX7 139 yX7_bestLetter : Cond) ∈ lw_gd := g_mem (List.mem_append_right _ (g_k5 (List.mem_of_getElem? (i := 23) rfl))) rfl
theorem tw_987 : (.methodLink RX7 159 yX1_letterOfDigit : Cond) ∈ lw_gd := g_mem (List.mem_append_right _ (g_k5 (List.mem_of_getElem? (i := 27) rfl))) rfl
theorem tw_988 : (.methodLink RX7 163 yX7_squaresWith : Cond) ∈ lw_gd := g_mem (List.mem_append_right _ (g_k5 (List.mem_of_getElem? (i := 28) rfl))) rfl
theorem tn_130 : (.fieldLinkNest RX7 143 "ManyOut$House" "receivers" "I" "ManyOut" : Cond) ∈ lw_nw := g_nmem (g_k1 (List.mem_of_getElem? (i := 130) (by decide +kernel))) rfl
theorem tw_992 : (.methodLink RX7 150 yX8_at : Cond) ∈ lw_gd := g_mem (List.mem_append_right _ (g_k5 (List.mem_of_getElem? (i := 32) rfl))) rfl
theorem tw_991 : (.code yX7_squaresWith cX7_squaresWith 9 (some .long) : Cond) ∈ lw_gd := g_mem (List.mem_append_right _ (g_k5 (List.mem_of_getElem? (i := 31) rfl))) rfl
theorem tp_39 : (.selects RX7 yX7_squaresWith yX7_squaresWith : Cond) ∈ lw_gd := g_mem (List.mem_append_left _ (List.mem_of_getElem? (i := 39) (by decide +kernel))) rfl
theorem tw_990 : (.instanceMethod yX7_squaresWith : Cond) ∈ lw_gd := g_mem (List.mem_append_right _ (g_k5 (List.mem_of_getElem? (i := 30) rfl))) rfl
theorem tw_986 : (.code yX7_bestLetter cX7_bestLetter 10 (some .int) : Cond) ∈ lw_gd := g_mem (List.mem_append_right _ (g_k5 (List.mem_of_getElem? (i := 26) rfl))) rfl
theorem tp_38 : (.selects RX7 yX7_bestLetter yX7_bestLetter : Cond) ∈ lw_gd := g_mem (List.mem_append_left _ (List.mem_of_getElem? (i := 38) (by decide +kernel))) rfl
theorem tw_985 : (.instanceMethod yX7_bestLetter : Cond) ∈ lw_gd := g_mem (List.mem_append_right _ (g_k5 (List.mem_of_getElem? (i := 25) rfl))) rfl
theorem tw_1021 : (.constantLong RX7 128 (1000) : Cond) ∈ lw_gd := g_mem (List.mem_append_right _ (g_k5 (List.mem_of_getElem? (i := 61) rfl))) rfl
theorem tw_1031 : (.methodLink RX7 124 yX7_leastWith : Cond) ∈ lw_gd := g_mem (List.mem_append_right _ (g_k5 (List.mem_of_getElem? (i := 71) rfl))) rfl
theorem tw_1012 : (.code yX7_leastWith cX7_leastWith 3 (some .long) : Cond) ∈ lw_gd := g_mem (List.mem_append_right _ (g_k5 (List.mem_of_getElem? (i := 52) rfl))) rfl
theorem tw_1011 : (.selects RX7 yX7_leastWith yX7_leastWith : Cond) ∈ lw_gd := g_mem (List.mem_append_right _ (g_k5 (List.mem_of_getElem? (i := 51) rfl))) rfl
theorem tw_1010 : (.instanceMethod yX7_leastWith : Cond) ∈ lw_gd := g_mem (List.mem_append_right _ (g_k5 (List.mem_of_getElem? (i := 50) rfl))) rfl
theorem tw_356 : (.fieldLink RX3 39 "ManyOut$Power" "isPut" "Z" : Cond) ∈ lw_gd := g_mem (List.mem_append_right _ (g_k2 (List.mem_of_getElem? (i := 116) rfl))) rfl
theorem tw_347 : (.constantLong RX3 43 (-1) : Cond) ∈ lw_gd := g_mem (List.mem_append_right _ (g_k2 (List.mem_of_getElem? (i := 107) rfl))) rfl
theorem tw_358 : (.fieldLink RX3 45 "ManyOut$Power" "spanLeast" "J" : Cond) ∈ lw_gd := g_mem (List.mem_append_right _ (g_k2 (List.mem_of_getElem? (i := 118) rfl))) rfl
theorem tw_359 : (.fieldLink RX3 48 "ManyOut$Power" "spanMost" "J" : Cond) ∈ lw_gd := g_mem (List.mem_append_right _ (g_k2 (List.mem_of_getElem? (i := 119) rfl))) rfl
theorem tw_348 : (.fieldLink RX3 12 "ManyOut$Power" "walk" "LManyOut$Walk;" : Cond) ∈ lw_gd := g_mem (List.mem_append_right _ (g_k2 (List.mem_of_getElem? (i := 108) rfl))) rfl
theorem tw_1244 : (.methodLink RX3 51 yX10_start : Cond) ∈ lw_gd := g_mem (List.mem_append_right _ (g_k6 (List.mem_of_getElem? (i := 44) rfl))) rfl
theorem tw_1245 : (.methodLink RX3 143 yX3_startTrying : Cond) ∈ lw_gd := g_mem (List.mem_append_right _ (g_k6 (List.mem_of_getElem? (i := 45) rfl))) rfl
theorem tw_353 : (.fieldLink RX3 28 "ManyOut$Power" "tried" "[I" : Cond) ∈ lw_gd := g_mem (List.mem_append_right _ (g_k2 (List.mem_of_getElem? (i := 113) rfl))) rfl
theorem tw_1249 : (.methodLink RX3 162 yJ7_fill_53178 : Cond) ∈ lw_gd := g_mem (List.mem_append_right _ (g_k6 (List.mem_of_getElem? (i := 49) rfl))) rfl
theorem tw_354 : (.fieldLink RX3 31 "ManyOut$Power" "pull" "[J" : Cond) ∈ lw_gd := g_mem (List.mem_append_right _ (g_k2 (List.mem_of_getElem? (i := 114) rfl))) rfl
theorem tw_1250 : (.methodLink RX3 168 yJ7_fill_d0a16 : Cond) ∈ lw_gd := g_mem (List.mem_append_right _ (g_k6 (List.mem_of_getElem? (i := 50) rfl))) rfl
theorem tw_355 : (.fieldLink RX3 35 "ManyOut$Power" "squares" "J" : Cond) ∈ lw_gd := g_mem (List.mem_append_right _ (g_k2 (List.mem_of_getElem? (i := 115) rfl))) rfl
theorem tn_122 : (.fieldLinkNest RX3 79 "ManyOut$House" "senders" "I" "ManyOut" : Cond) ∈ lw_nw := g_nmem (g_k1 (List.mem_of_getElem? (i := 122) (by decide +kernel))) rfl
theorem tw_352 : (.fieldLink RX3 25 "ManyOut$Power" "letters" "[I" : Cond) ∈ lw_gd := g_mem (List.mem_append_right _ (g_k2 (List.mem_of_getElem? (i := 112) rfl))) rfl
theorem tn_113 : (.fieldLinkNest RX3 77 "ManyOut$House" "letters" "I" "ManyOut" : Cond) ∈ lw_nw := g_nmem (g_k1 (List.mem_of_getElem? (i := 113) (by decide +kernel))) rfl
theorem tw_1251 : (.methodLink RX3 171 yX3_move : Cond) ∈ lw_gd := g_mem (List.mem_append_right _ (g_k6 (List.mem_of_getElem? (i := 51) rfl))) rfl
theorem tw_1255 : (.constantLong RX3 175 (2) : Cond) ∈ lw_gd := g_mem (List.mem_append_right _ (g_k6 (List.mem_of_getElem? (i := 55) rfl))) rfl
theorem tn_208 : (.fieldLinkNest RX3 177 "ManyOut$Walk" "products" "[J" "ManyOut" : Cond) ∈ lw_nw := g_nmem (g_k1 (List.mem_of_getElem? (i := 208) (by decide +kernel))) rfl
theorem tn_223 : (.fieldLinkNest RX3 110 "ManyOut$Walk" "last" "I" "ManyOut" : Cond) ∈ lw_nw := g_nmem (g_k1 (List.mem_of_getElem? (i := 223) (by decide +kernel))) rfl
theorem tw_1254 : (.code yX3_move cX3_move 6 none : Cond) ∈ lw_gd := g_mem (List.mem_append_right _ (g_k6 (List.mem_of_getElem? (i := 54) rfl))) rfl
theorem tw_12 : (.initialized RX3 : Cond) ∈ lw_gd := g_mem (List.mem_append_right _ (g_k1 (List.mem_of_getElem? (i := 12) rfl))) rfl
theorem tp_49 : (.selects RX3 yX3_move yX3_move : Cond) ∈ lw_gd := g_mem (List.mem_append_left _ (List.mem_of_getElem? (i := 49) (by decide +kernel))) rfl
theorem tw_1253 : (.instanceMethod yX3_move : Cond) ∈ lw_gd := g_mem (List.mem_append_right _ (g_k6 (List.mem_of_getElem? (i := 53) rfl))) rfl
theorem tw_1248 : (.code yX3_startTrying cX3_startTrying 3 none : Cond) ∈ lw_gd := g_mem (List.mem_append_right _ (g_k6 (List.mem_of_getElem? (i := 48) rfl))) rfl
theorem tp_48 : (.selects RX3 yX3_startTrying yX3_startTrying : Cond) ∈ lw_gd := g_mem (List.mem_append_left _ (List.mem_of_getElem? (i := 48) (by decide +kernel))) rfl
theorem tw_1247 : (.instanceMethod yX3_startTrying : Cond) ∈ lw_gd := g_mem (List.mem_append_right _ (g_k6 (List.mem_of_getElem? (i := 47) rfl))) rfl
theorem tw_1256 : (.methodLink RX3 146 yX1_rowCount : Cond) ∈ lw_gd := g_mem (List.mem_append_right _ (g_k6 (List.mem_of_getElem? (i := 56) rfl))) rfl
theorem tw_964 : (.code yX1_rowCount cX1_rowCount 1 (some .int) : Cond) ∈ lw_gd := g_mem (List.mem_append_right _ (g_k5 (List.mem_of_getElem? (i := 4) rfl))) rfl
theorem tw_963 : (.selects RX1 yX1_rowCount yX1_rowCount : Cond) ∈ lw_gd := g_mem (List.mem_append_right _ (g_k5 (List.mem_of_getElem? (i := 3) rfl))) rfl
theorem tw_962 : (.instanceMethod yX1_rowCount : Cond) ∈ lw_gd := g_mem (List.mem_append_right _ (g_k5 (List.mem_of_getElem? (i := 2) rfl))) rfl
theorem tw_1257 : (.methodLink RX3 149 yX3_fallsTo : Cond) ∈ lw_gd := g_mem (List.mem_append_right _ (g_k6 (List.mem_of_getElem? (i := 57) rfl))) rfl
theorem tw_1261 : (.methodLink RX3 180 yX3_better : Cond) ∈ lw_gd := g_mem (List.mem_append_right _ (g_k6 (List.mem_of_getElem? (i := 61) rfl))) rfl
theorem tw_1264 : (.code yX3_better cX3_better 6 none : Cond) ∈ lw_gd := g_mem (List.mem_append_right _ (g_k6 (List.mem_of_getElem? (i := 64) rfl))) rfl
theorem tp_51 : (.selects RX3 yX3_better yX3_better : Cond) ∈ lw_gd := g_mem (List.mem_append_left _ (List.mem_of_getElem? (i := 51) (by decide +kernel))) rfl
theorem tw_1263 : (.instanceMethod yX3_better : Cond) ∈ lw_gd := g_mem (List.mem_append_right _ (g_k6 (List.mem_of_getElem? (i := 63) rfl))) rfl
theorem tw_1260 : (.code yX3_fallsTo cX3_fallsTo 9 (some .boolean) : Cond) ∈ lw_gd := g_mem (List.mem_append_right _ (g_k6 (List.mem_of_getElem? (i := 60) rfl))) rfl
theorem tp_50 : (.selects RX3 yX3_fallsTo yX3_fallsTo : Cond) ∈ lw_gd := g_mem (List.mem_append_left _ (List.mem_of_getElem? (i := 50) (by decide +kernel))) rfl
theorem tw_1259 : (.instanceMethod yX3_fallsTo : Cond) ∈ lw_gd := g_mem (List.mem_append_right _ (g_k6 (List.mem_of_getElem? (i := 59) rfl))) rfl
theorem tw_1285 : (.methodLink RX3 159 yX3_nextLetters : Cond) ∈ lw_gd := g_mem (List.mem_append_right _ (g_k6 (List.mem_of_getElem? (i := 85) rfl))) rfl
theorem tw_1288 : (.code yX3_nextLetters cX3_nextLetters 3 none : Cond) ∈ lw_gd := g_mem (List.mem_append_right _ (g_k6 (List.mem_of_getElem? (i := 88) rfl))) rfl
theorem tp_55 : (.selects RX3 yX3_nextLetters yX3_nextLetters : Cond) ∈ lw_gd := g_mem (List.mem_append_left _ (List.mem_of_getElem? (i := 55) (by decide +kernel))) rfl
theorem tw_1287 : (.instanceMethod yX3_nextLetters : Cond) ∈ lw_gd := g_mem (List.mem_append_right _ (g_k6 (List.mem_of_getElem? (i := 87) rfl))) rfl
theorem tw_1265 : (.methodLink RX3 55 yX3_leastFor : Cond) ∈ lw_gd := g_mem (List.mem_append_right _ (g_k6 (List.mem_of_getElem? (i := 65) rfl))) rfl
theorem tw_1270 : (.methodLink RX3 86 yX10_firstLine : Cond) ∈ lw_gd := g_mem (List.mem_append_right _ (g_k6 (List.mem_of_getElem? (i := 70) rfl))) rfl
theorem tw_1271 : (.constantLong RX3 89 (1000000000000000) : Cond) ∈ lw_gd := g_mem (List.mem_append_right _ (g_k6 (List.mem_of_getElem? (i := 71) rfl))) rfl
theorem tw_1272 : (.methodLink RX3 91 yX10_lineCount : Cond) ∈ lw_gd := g_mem (List.mem_append_right _ (g_k6 (List.mem_of_getElem? (i := 72) rfl))) rfl
theorem tw_1273 : (.methodLink RX3 95 yX10_bestDigit : Cond) ∈ lw_gd := g_mem (List.mem_append_right _ (g_k6 (List.mem_of_getElem? (i := 73) rfl))) rfl
theorem tw_1274 : (.methodLink RX3 99 yX10_squaresAt : Cond) ∈ lw_gd := g_mem (List.mem_append_right _ (g_k6 (List.mem_of_getElem? (i := 74) rfl))) rfl
theorem tw_1279 : (.methodLink RX3 107 yX10_nextLine : Cond) ∈ lw_gd := g_mem (List.mem_append_right _ (g_k6 (List.mem_of_getElem? (i := 79) rfl))) rfl
theorem tw_1275 : (.methodLink RX3 103 yX3_keepFound : Cond) ∈ lw_gd := g_mem (List.mem_append_right _ (g_k6 (List.mem_of_getElem? (i := 75) rfl))) rfl
theorem tw_351 : (.fieldLink RX3 22 "ManyOut$Power" "found" "[I" : Cond) ∈ lw_gd := g_mem (List.mem_append_right _ (g_k2 (List.mem_of_getElem? (i := 111) rfl))) rfl
theorem tn_219 : (.fieldLinkNest RX3 113 "ManyOut$Walk" "digit" "[I" "ManyOut" : Cond) ∈ lw_nw := g_nmem (g_k1 (List.mem_of_getElem? (i := 219) (by decide +kernel))) rfl
theorem tw_1278 : (.code yX3_keepFound cX3_keepFound 3 none : Cond) ∈ lw_gd := g_mem (List.mem_append_right _ (g_k6 (List.mem_of_getElem? (i := 78) rfl))) rfl
theorem tp_53 : (.selects RX3 yX3_keepFound yX3_keepFound : Cond) ∈ lw_gd := g_mem (List.mem_append_left _ (List.mem_of_getElem? (i := 53) (by decide +kernel))) rfl
theorem tw_1277 : (.instanceMethod yX3_keepFound : Cond) ∈ lw_gd := g_mem (List.mem_append_right _ (g_k6 (List.mem_of_getElem? (i := 77) rfl))) rfl
theorem tw_1269 : (.methodLink RX3 82 yX10_setNumbers : Cond) ∈ lw_gd := g_mem (List.mem_append_right _ (g_k6 (List.mem_of_getElem? (i := 69) rfl))) rfl
theorem tw_1268 : (.code yX3_leastFor cX3_leastFor 13 (some .long) : Cond) ∈ lw_gd := g_mem (List.mem_append_right _ (g_k6 (List.mem_of_getElem? (i := 68) rfl))) rfl
theorem tp_52 : (.selects RX3 yX3_leastFor yX3_leastFor : Cond) ∈ lw_gd := g_mem (List.mem_append_left _ (List.mem_of_getElem? (i := 52) (by decide +kernel))) rfl
theorem tw_1267 : (.instanceMethod yX3_leastFor : Cond) ∈ lw_gd := g_mem (List.mem_append_right _ (g_k6 (List.mem_of_getElem? (i := 67) rfl))) rfl
theorem tw_1280 : (.methodLink RX3 153 Lib.MathLoose.max_long.x : Cond) ∈ lw_gd := g_mem (List.mem_append_right _ (g_k6 (List.mem_of_getElem? (i := 80) rfl))) rfl
theorem tw_1281 : (.methodLink RX3 156 yX3_tryFound : Cond) ∈ lw_gd := g_mem (List.mem_append_right _ (g_k6 (List.mem_of_getElem? (i := 81) rfl))) rfl
theorem tw_1284 : (.code yX3_tryFound cX3_tryFound 3 none : Cond) ∈ lw_gd := g_mem (List.mem_append_right _ (g_k6 (List.mem_of_getElem? (i := 84) rfl))) rfl
theorem tp_54 : (.selects RX3 yX3_tryFound yX3_tryFound : Cond) ∈ lw_gd := g_mem (List.mem_append_left _ (List.mem_of_getElem? (i := 54) (by decide +kernel))) rfl
theorem tw_1283 : (.instanceMethod yX3_tryFound : Cond) ∈ lw_gd := g_mem (List.mem_append_right _ (g_k6 (List.mem_of_getElem? (i := 83) rfl))) rfl
theorem tw_1293 : (.methodLink RX3 116 yX10_setAllNumbers : Cond) ∈ lw_gd := g_mem (List.mem_append_right _ (g_k6 (List.mem_of_getElem? (i := 93) rfl))) rfl
theorem tw_1294 : (.methodLink RX3 120 yX3_leastThinkable : Cond) ∈ lw_gd := g_mem (List.mem_append_right _ (g_k6 (List.mem_of_getElem? (i := 94) rfl))) rfl
theorem tn_129 : (.fieldLinkNest RX3 130 "ManyOut$House" "receivers" "I" "ManyOut" : Cond) ∈ lw_nw := g_nmem (g_k1 (List.mem_of_getElem? (i := 129) (by decide +kernel))) rfl
theorem tn_101 : (.fieldLinkNest RX3 133 "ManyOut$House" "table" "LManyOut$Table;" "ManyOut" : Cond) ∈ lw_nw := g_nmem (g_k1 (List.mem_of_getElem? (i := 101) (by decide +kernel))) rfl
theorem tw_1297 : (.methodLink RX3 137 yX8_at : Cond) ∈ lw_gd := g_mem (List.mem_append_right _ (g_k6 (List.mem_of_getElem? (i := 97) rfl))) rfl
theorem tw_1296 : (.code yX3_leastThinkable cX3_leastThinkable 5 (some .long) : Cond) ∈ lw_gd := g_mem (List.mem_append_right _ (g_k6 (List.mem_of_getElem? (i := 96) rfl))) rfl
theorem tw_1295 : (.static yX3_leastThinkable : Cond) ∈ lw_gd := g_mem (List.mem_append_right _ (g_k6 (List.mem_of_getElem? (i := 95) rfl))) rfl
theorem tw_1298 : (.methodLink RX3 124 Lib.MathLoose.min_long.x : Cond) ∈ lw_gd := g_mem (List.mem_append_right _ (g_k6 (List.mem_of_getElem? (i := 98) rfl))) rfl
theorem tw_1307 : (.constantLong RX3 59 (1000) : Cond) ∈ lw_gd := g_mem (List.mem_append_right _ (g_k6 (List.mem_of_getElem? (i := 107) rfl))) rfl
theorem tn_140 : (.fieldLinkNest RX3 61 "ManyOut$House" "limit" "I" "ManyOut" : Cond) ∈ lw_nw := g_nmem (g_k1 (List.mem_of_getElem? (i := 140) (by decide +kernel))) rfl
theorem tw_349 : (.fieldLink RX3 18 "ManyOut$Power" "put" "[I" : Cond) ∈ lw_gd := g_mem (List.mem_append_right _ (g_k2 (List.mem_of_getElem? (i := 109) rfl))) rfl
theorem tw_1312 : (.methodLink RX3 71 arraycopyName : Cond) ∈ lw_gd := g_mem (List.mem_append_right _ (g_k6 (List.mem_of_getElem? (i := 112) rfl))) rfl
theorem tw_1308 : (.methodLink RX3 67 yX3_refuse : Cond) ∈ lw_gd := g_mem (List.mem_append_right _ (g_k6 (List.mem_of_getElem? (i := 108) rfl))) rfl
theorem tw_1311 : (.code yX3_refuse cX3_refuse 1 (some .long) : Cond) ∈ lw_gd := g_mem (List.mem_append_right _ (g_k6 (List.mem_of_getElem? (i := 111) rfl))) rfl
theorem tw_1310 : (.selects RX3 yX3_refuse yX3_refuse : Cond) ∈ lw_gd := g_mem (List.mem_append_right _ (g_k6 (List.mem_of_getElem? (i := 110) rfl))) rfl
theorem tw_1309 : (.instanceMethod yX3_refuse : Cond) ∈ lw_gd := g_mem (List.mem_append_right _ (g_k6 (List.mem_of_getElem? (i := 109) rfl))) rfl
theorem tw_421 : (.fieldLink RX11 20 "ManyOut" "tape" "LManyOut$Tape;" : Cond) ∈ lw_gd := g_mem (List.mem_append_right _ (g_k2 (List.mem_of_getElem? (i := 181) rfl))) rfl
theorem tw_467 : (.methodLink RX11 83 yX9_hasRoom : Cond) ∈ lw_gd := g_mem (List.mem_append_right _ (g_k2 (List.mem_of_getElem? (i := 227) rfl))) rfl
theorem tw_470 : (.code yX9_hasRoom cX9_hasRoom 2 (some .boolean) : Cond) ∈ lw_gd := g_mem (List.mem_append_right _ (g_k2 (List.mem_of_getElem? (i := 230) rfl))) rfl
theorem tw_469 : (.selects RX9 yX9_hasRoom yX9_hasRoom : Cond) ∈ lw_gd := g_mem (List.mem_append_right _ (g_k2 (List.mem_of_getElem? (i := 229) rfl))) rfl
theorem tw_468 : (.instanceMethod yX9_hasRoom : Cond) ∈ lw_gd := g_mem (List.mem_append_right _ (g_k2 (List.mem_of_getElem? (i := 228) rfl))) rfl
theorem tw_471 : (.methodLink RX11 89 yX9_addNumber : Cond) ∈ lw_gd := g_mem (List.mem_append_right _ (g_k2 (List.mem_of_getElem? (i := 231) rfl))) rfl
theorem tw_474 : (.code yX9_addNumber cX9_addNumber 3 none : Cond) ∈ lw_gd := g_mem (List.mem_append_right _ (g_k2 (List.mem_of_getElem? (i := 234) rfl))) rfl
theorem tw_473 : (.selects RX9 yX9_addNumber yX9_addNumber : Cond) ∈ lw_gd := g_mem (List.mem_append_right _ (g_k2 (List.mem_of_getElem? (i := 233) rfl))) rfl
theorem tw_472 : (.instanceMethod yX9_addNumber : Cond) ∈ lw_gd := g_mem (List.mem_append_right _ (g_k2 (List.mem_of_getElem? (i := 232) rfl))) rfl
theorem tw_475 : (.methodLink RX11 93 yX9_length : Cond) ∈ lw_gd := g_mem (List.mem_append_right _ (g_k2 (List.mem_of_getElem? (i := 235) rfl))) rfl
theorem tw_478 : (.code yX9_length cX9_length 1 (some .int) : Cond) ∈ lw_gd := g_mem (List.mem_append_right _ (g_k2 (List.mem_of_getElem? (i := 238) rfl))) rfl
theorem tw_477 : (.selects RX9 yX9_length yX9_length : Cond) ∈ lw_gd := g_mem (List.mem_append_right _ (g_k2 (List.mem_of_getElem? (i := 237) rfl))) rfl
theorem tw_476 : (.instanceMethod yX9_length : Cond) ∈ lw_gd := g_mem (List.mem_append_right _ (g_k2 (List.mem_of_getElem? (i := 236) rfl))) rfl
theorem tw_483 : (.methodLink RX11 97 yX9_cutTo : Cond) ∈ lw_gd := g_mem (List.mem_append_right _ (g_k3 (List.mem_of_getElem? (i := 3) rfl))) rfl
theorem tw_486 : (.code yX9_cutTo cX9_cutTo 2 none : Cond) ∈ lw_gd := g_mem (List.mem_append_right _ (g_k3 (List.mem_of_getElem? (i := 6) rfl))) rfl
theorem tw_485 : (.selects RX9 yX9_cutTo yX9_cutTo : Cond) ∈ lw_gd := g_mem (List.mem_append_right _ (g_k3 (List.mem_of_getElem? (i := 5) rfl))) rfl
theorem tw_484 : (.instanceMethod yX9_cutTo : Cond) ∈ lw_gd := g_mem (List.mem_append_right _ (g_k3 (List.mem_of_getElem? (i := 4) rfl))) rfl
theorem tw_420 : (.fieldLink RX11 10 "ManyOut" "reader" "LManyOut$Reader;" : Cond) ∈ lw_gd := g_mem (List.mem_append_right _ (g_k2 (List.mem_of_getElem? (i := 180) rfl))) rfl
theorem tn_177 : (.fieldLinkNest RX11 130 "ManyOut$Reader" "place" "I" "ManyOut" : Cond) ∈ lw_nw := g_nmem (g_k1 (List.mem_of_getElem? (i := 177) (by decide +kernel))) rfl
theorem tn_175 : (.fieldLinkNest RX11 127 "ManyOut$Reader" "fault" "I" "ManyOut" : Cond) ∈ lw_nw := g_nmem (g_k1 (List.mem_of_getElem? (i := 175) (by decide +kernel))) rfl
theorem tw_431 : (.fieldLink RX11 69 "ManyOut" "home" "LManyOut$House;" : Cond) ∈ lw_gd := g_mem (List.mem_append_right _ (g_k2 (List.mem_of_getElem? (i := 191) rfl))) rfl
theorem tn_114 : (.fieldLinkNest RX11 133 "ManyOut$House" "letters" "I" "ManyOut" : Cond) ∈ lw_nw := g_nmem (g_k1 (List.mem_of_getElem? (i := 114) (by decide +kernel))) rfl
theorem tn_123 : (.fieldLinkNest RX11 136 "ManyOut$House" "senders" "I" "ManyOut" : Cond) ∈ lw_nw := g_nmem (g_k1 (List.mem_of_getElem? (i := 123) (by decide +kernel))) rfl
theorem tn_128 : (.fieldLinkNest RX11 139 "ManyOut$House" "receivers" "I" "ManyOut" : Cond) ∈ lw_nw := g_nmem (g_k1 (List.mem_of_getElem? (i := 128) (by decide +kernel))) rfl
theorem tn_133 : (.fieldLinkNest RX11 142 "ManyOut$House" "rowsTold" "I" "ManyOut" : Cond) ∈ lw_nw := g_nmem (g_k1 (List.mem_of_getElem? (i := 133) (by decide +kernel))) rfl
theorem tn_137 : (.fieldLinkNest RX11 145 "ManyOut$House" "wordsTold" "I" "ManyOut" : Cond) ∈ lw_nw := g_nmem (g_k1 (List.mem_of_getElem? (i := 137) (by decide +kernel))) rfl
theorem tn_106 : (.fieldLinkNest RX11 148 "ManyOut$House" "rules" "LManyOut$Rules;" "ManyOut" : Cond) ∈ lw_nw := g_nmem (g_k1 (List.mem_of_getElem? (i := 106) (by decide +kernel))) rfl
theorem tn_80 : (.fieldLinkNest RX11 152 "ManyOut$Rules" "count" "I" "ManyOut" : Cond) ∈ lw_nw := g_nmem (g_k1 (List.mem_of_getElem? (i := 80) (by decide +kernel))) rfl
theorem tn_141 : (.fieldLinkNest RX11 157 "ManyOut$House" "limit" "I" "ManyOut" : Cond) ∈ lw_nw := g_nmem (g_k1 (List.mem_of_getElem? (i := 141) (by decide +kernel))) rfl
theorem tw_432 : (.fieldLink RX11 76 "ManyOut" "led" "LManyOut$Led;" : Cond) ∈ lw_gd := g_mem (List.mem_append_right _ (g_k2 (List.mem_of_getElem? (i := 192) rfl))) rfl
theorem tn_402 : (.fieldLinkNest RX11 160 "ManyOut$Led" "done" "I" "ManyOut" : Cond) ∈ lw_nw := g_nmem (g_k2 (List.mem_of_getElem? (i := 162) (by decide +kernel))) rfl
theorem tn_398 : (.fieldLinkNest RX11 163 "ManyOut$Led" "undoable" "I" "ManyOut" : Cond) ∈ lw_nw := g_nmem (g_k2 (List.mem_of_getElem? (i := 158) (by decide +kernel))) rfl
theorem tn_400 : (.fieldLinkNest RX11 166 "ManyOut$Led" "redoable" "I" "ManyOut" : Cond) ∈ lw_nw := g_nmem (g_k2 (List.mem_of_getElem? (i := 160) (by decide +kernel))) rfl
theorem tw_775 : (.methodLink RX11 169 yX1_isReceiver : Cond) ∈ lw_gd := g_mem (List.mem_append_right _ (g_k4 (List.mem_of_getElem? (i := 55) rfl))) rfl
theorem tw_778 : (.code yX1_isReceiver cX1_isReceiver 2 (some .boolean) : Cond) ∈ lw_gd := g_mem (List.mem_append_right _ (g_k4 (List.mem_of_getElem? (i := 58) rfl))) rfl
theorem tw_777 : (.selects RX1 yX1_isReceiver yX1_isReceiver : Cond) ∈ lw_gd := g_mem (List.mem_append_right _ (g_k4 (List.mem_of_getElem? (i := 57) rfl))) rfl
theorem tw_776 : (.instanceMethod yX1_isReceiver : Cond) ∈ lw_gd := g_mem (List.mem_append_right _ (g_k4 (List.mem_of_getElem? (i := 56) rfl))) rfl
theorem tw_783 : (.constant RX11 175 (-1000000000) : Cond) ∈ lw_gd := g_mem (List.mem_append_right _ (g_k4 (List.mem_of_getElem? (i := 63) rfl))) rfl
theorem tw_779 : (.methodLink RX11 172 yX1_isSender : Cond) ∈ lw_gd := g_mem (List.mem_append_right _ (g_k4 (List.mem_of_getElem? (i := 59) rfl))) rfl
theorem tw_782 : (.code yX1_isSender cX1_isSender 2 (some .boolean) : Cond) ∈ lw_gd := g_mem (List.mem_append_right _ (g_k4 (List.mem_of_getElem? (i := 62) rfl))) rfl
theorem tw_781 : (.selects RX1 yX1_isSender yX1_isSender : Cond) ∈ lw_gd := g_mem (List.mem_append_right _ (g_k4 (List.mem_of_getElem? (i := 61) rfl))) rfl
theorem tw_780 : (.instanceMethod yX1_isSender : Cond) ∈ lw_gd := g_mem (List.mem_append_right _ (g_k4 (List.mem_of_getElem? (i := 60) rfl))) rfl
theorem tw_784 : (.methodLink RX11 176 yX11_tableBy : Cond) ∈ lw_gd := g_mem (List.mem_append_right _ (g_k4 (List.mem_of_getElem? (i := 64) rfl))) rfl
theorem tn_102 : (.fieldLinkNest RX11 193 "ManyOut$House" "table" "LManyOut$Table;" "ManyOut" : Cond) ∈ lw_nw := g_nmem (g_k1 (List.mem_of_getElem? (i := 102) (by decide +kernel))) rfl
theorem tw_787 : (.code yX11_tableBy cX11_tableBy 2 (some (.object "ManyOut$Table")) : Cond) ∈ lw_gd := g_mem (List.mem_append_right _ (g_k4 (List.mem_of_getElem? (i := 67) rfl))) rfl
theorem tw_1 : (.initialized RX11 : Cond) ∈ lw_gd := g_mem (List.mem_append_right _ (g_k1 (List.mem_of_getElem? (i := 1) rfl))) rfl
theorem tp_28 : (.selects RX11 yX11_tableBy yX11_tableBy : Cond) ∈ lw_gd := g_mem (List.mem_append_left _ (List.mem_of_getElem? (i := 28) (by decide +kernel))) rfl
theorem tw_786 : (.instanceMethod yX11_tableBy : Cond) ∈ lw_gd := g_mem (List.mem_append_right _ (g_k4 (List.mem_of_getElem? (i := 66) rfl))) rfl
theorem tw_788 : (.methodLink RX11 180 yX8_at : Cond) ∈ lw_gd := g_mem (List.mem_append_right _ (g_k4 (List.mem_of_getElem? (i := 68) rfl))) rfl
theorem tn_392 : (.fieldLinkNest RX11 189 "ManyOut$Led" "table" "LManyOut$Table;" "ManyOut" : Cond) ∈ lw_nw := g_nmem (g_k2 (List.mem_of_getElem? (i := 152) (by decide +kernel))) rfl
theorem tw_796 : (.methodLink RX11 186 yX8_productOf : Cond) ∈ lw_gd := g_mem (List.mem_append_right _ (g_k4 (List.mem_of_getElem? (i := 76) rfl))) rfl
theorem tw_805 : (.methodLink RX11 194 yX11_takeHeard : Cond) ∈ lw_gd := g_mem (List.mem_append_right _ (g_k4 (List.mem_of_getElem? (i := 85) rfl))) rfl
theorem tw_422 : (.fieldLink RX11 24 "ManyOut" "survey" "LManyOut$Survey;" : Cond) ∈ lw_gd := g_mem (List.mem_append_right _ (g_k2 (List.mem_of_getElem? (i := 182) rfl))) rfl
theorem tw_747 : (.methodLink RX11 118 yX7_forget : Cond) ∈ lw_gd := g_mem (List.mem_append_right _ (g_k4 (List.mem_of_getElem? (i := 27) rfl))) rfl
theorem tw_750 : (.code yX7_forget cX7_forget 1 none : Cond) ∈ lw_gd := g_mem (List.mem_append_right _ (g_k4 (List.mem_of_getElem? (i := 30) rfl))) rfl
theorem tw_749 : (.selects RX7 yX7_forget yX7_forget : Cond) ∈ lw_gd := g_mem (List.mem_append_right _ (g_k4 (List.mem_of_getElem? (i := 29) rfl))) rfl
theorem tw_748 : (.instanceMethod yX7_forget : Cond) ∈ lw_gd := g_mem (List.mem_append_right _ (g_k4 (List.mem_of_getElem? (i := 28) rfl))) rfl
theorem tw_426 : (.fieldLink RX11 49 "ManyOut" "heardNumbers" "[I" : Cond) ∈ lw_gd := g_mem (List.mem_append_right _ (g_k2 (List.mem_of_getElem? (i := 186) rfl))) rfl
theorem tw_809 : (.methodLink RX11 197 yX9_shortAt : Cond) ∈ lw_gd := g_mem (List.mem_append_right _ (g_k4 (List.mem_of_getElem? (i := 89) rfl))) rfl
theorem tw_812 : (.code yX9_shortAt cX9_shortAt 2 (some .int) : Cond) ∈ lw_gd := g_mem (List.mem_append_right _ (g_k4 (List.mem_of_getElem? (i := 92) rfl))) rfl
theorem tw_811 : (.selects RX9 yX9_shortAt yX9_shortAt : Cond) ∈ lw_gd := g_mem (List.mem_append_right _ (g_k4 (List.mem_of_getElem? (i := 91) rfl))) rfl
theorem tw_810 : (.instanceMethod yX9_shortAt : Cond) ∈ lw_gd := g_mem (List.mem_append_right _ (g_k4 (List.mem_of_getElem? (i := 90) rfl))) rfl
theorem tw_808 : (.code yX11_takeHeard cX11_takeHeard 2 none : Cond) ∈ lw_gd := g_mem (List.mem_append_right _ (g_k4 (List.mem_of_getElem? (i := 88) rfl))) rfl
theorem tp_29 : (.selects RX11 yX11_takeHeard yX11_takeHeard : Cond) ∈ lw_gd := g_mem (List.mem_append_left _ (List.mem_of_getElem? (i := 29) (by decide +kernel))) rfl
theorem tw_807 : (.instanceMethod yX11_takeHeard : Cond) ∈ lw_gd := g_mem (List.mem_append_right _ (g_k4 (List.mem_of_getElem? (i := 87) rfl))) rfl
theorem tw_822 : (.methodLink RX11 201 yX11_takeRow : Cond) ∈ lw_gd := g_mem (List.mem_append_right _ (g_k4 (List.mem_of_getElem? (i := 102) rfl))) rfl
theorem tw_427 : (.fieldLink RX11 53 "ManyOut" "rowLetters" "[I" : Cond) ∈ lw_gd := g_mem (List.mem_append_right _ (g_k2 (List.mem_of_getElem? (i := 187) rfl))) rfl
theorem tw_826 : (.methodLink RX11 214 yX9_signedAt : Cond) ∈ lw_gd := g_mem (List.mem_append_right _ (g_k4 (List.mem_of_getElem? (i := 106) rfl))) rfl
theorem tw_829 : (.code yX9_signedAt cX9_signedAt 2 (some .int) : Cond) ∈ lw_gd := g_mem (List.mem_append_right _ (g_k4 (List.mem_of_getElem? (i := 109) rfl))) rfl
theorem tw_828 : (.selects RX9 yX9_signedAt yX9_signedAt : Cond) ∈ lw_gd := g_mem (List.mem_append_right _ (g_k4 (List.mem_of_getElem? (i := 108) rfl))) rfl
theorem tw_827 : (.instanceMethod yX9_signedAt : Cond) ∈ lw_gd := g_mem (List.mem_append_right _ (g_k4 (List.mem_of_getElem? (i := 107) rfl))) rfl
theorem tw_830 : (.methodLink RX11 217 yX1_isLetter : Cond) ∈ lw_gd := g_mem (List.mem_append_right _ (g_k4 (List.mem_of_getElem? (i := 110) rfl))) rfl
theorem tw_646 : (.code yX1_isLetter cX1_isLetter 2 (some .boolean) : Cond) ∈ lw_gd := g_mem (List.mem_append_right _ (g_k3 (List.mem_of_getElem? (i := 166) rfl))) rfl
theorem tw_645 : (.selects RX1 yX1_isLetter yX1_isLetter : Cond) ∈ lw_gd := g_mem (List.mem_append_right _ (g_k3 (List.mem_of_getElem? (i := 165) rfl))) rfl
theorem tw_644 : (.instanceMethod yX1_isLetter : Cond) ∈ lw_gd := g_mem (List.mem_append_right _ (g_k3 (List.mem_of_getElem? (i := 164) rfl))) rfl
theorem tw_825 : (.code yX11_takeRow cX11_takeRow 3 (some .boolean) : Cond) ∈ lw_gd := g_mem (List.mem_append_right _ (g_k4 (List.mem_of_getElem? (i := 105) rfl))) rfl
theorem tp_30 : (.selects RX11 yX11_takeRow yX11_takeRow : Cond) ∈ lw_gd := g_mem (List.mem_append_left _ (List.mem_of_getElem? (i := 30) (by decide +kernel))) rfl
theorem tw_824 : (.instanceMethod yX11_takeRow : Cond) ∈ lw_gd := g_mem (List.mem_append_right _ (g_k4 (List.mem_of_getElem? (i := 104) rfl))) rfl
theorem tw_831 : (.methodLink RX11 204 yX8_sentTo : Cond) ∈ lw_gd := g_mem (List.mem_append_right _ (g_k4 (List.mem_of_getElem? (i := 111) rfl))) rfl
theorem tw_844 : (.constantLong RX11 212 (-1) : Cond) ∈ lw_gd := g_mem (List.mem_append_right _ (g_k4 (List.mem_of_getElem? (i := 124) rfl))) rfl
theorem tw_839 : (.methodLink RX11 208 yX1_distanceOf : Cond) ∈ lw_gd := g_mem (List.mem_append_right _ (g_k4 (List.mem_of_getElem? (i := 119) rfl))) rfl
theorem tw_842 : (.code yX1_distanceOf cX1_distanceOf 8 (some .long) : Cond) ∈ lw_gd := g_mem (List.mem_append_right _ (g_k4 (List.mem_of_getElem? (i := 122) rfl))) rfl
theorem tw_841 : (.selects RX1 yX1_distanceOf yX1_distanceOf : Cond) ∈ lw_gd := g_mem (List.mem_append_right _ (g_k4 (List.mem_of_getElem? (i := 121) rfl))) rfl
theorem tw_840 : (.instanceMethod yX1_distanceOf : Cond) ∈ lw_gd := g_mem (List.mem_append_right _ (g_k4 (List.mem_of_getElem? (i := 120) rfl))) rfl
theorem tw_849 : (.constantLong RX11 220 (1103515245) : Cond) ∈ lw_gd := g_mem (List.mem_append_right _ (g_k4 (List.mem_of_getElem? (i := 129) rfl))) rfl
theorem tw_850 : (.constantLong RX11 222 (12345) : Cond) ∈ lw_gd := g_mem (List.mem_append_right _ (g_k4 (List.mem_of_getElem? (i := 130) rfl))) rfl
theorem tw_851 : (.constantLong RX11 224 (2147483647) : Cond) ∈ lw_gd := g_mem (List.mem_append_right _ (g_k4 (List.mem_of_getElem? (i := 131) rfl))) rfl
theorem tw_852 : (.constantLong RX11 226 (64) : Cond) ∈ lw_gd := g_mem (List.mem_append_right _ (g_k4 (List.mem_of_getElem? (i := 132) rfl))) rfl
theorem tw_853 : (.constantLong RX11 228 (2) : Cond) ∈ lw_gd := g_mem (List.mem_append_right _ (g_k4 (List.mem_of_getElem? (i := 133) rfl))) rfl
theorem tw_854 : (.constantLong RX11 230 (-32768) : Cond) ∈ lw_gd := g_mem (List.mem_append_right _ (g_k4 (List.mem_of_getElem? (i := 134) rfl))) rfl
theorem tw_855 : (.constantLong RX11 232 (32767) : Cond) ∈ lw_gd := g_mem (List.mem_append_right _ (g_k4 (List.mem_of_getElem? (i := 135) rfl))) rfl
theorem tw_856 : (.methodLink RX11 234 Lib.MathLoose.min_long.x : Cond) ∈ lw_gd := g_mem (List.mem_append_right _ (g_k4 (List.mem_of_getElem? (i := 136) rfl))) rfl
theorem tw_859 : (.methodLink RX11 240 Lib.MathLoose.max_long.x : Cond) ∈ lw_gd := g_mem (List.mem_append_right _ (g_k4 (List.mem_of_getElem? (i := 139) rfl))) rfl
theorem tw_866 : (.methodLink RX11 243 yX11_isNear : Cond) ∈ lw_gd := g_mem (List.mem_append_right _ (g_k4 (List.mem_of_getElem? (i := 146) rfl))) rfl
theorem tw_870 : (.methodLink RX11 256 yX7_learn : Cond) ∈ lw_gd := g_mem (List.mem_append_right _ (g_k4 (List.mem_of_getElem? (i := 150) rfl))) rfl
theorem tw_873 : (.code yX7_learn cX7_learn 5 none : Cond) ∈ lw_gd := g_mem (List.mem_append_right _ (g_k4 (List.mem_of_getElem? (i := 153) rfl))) rfl
theorem tw_872 : (.selects RX7 yX7_learn yX7_learn : Cond) ∈ lw_gd := g_mem (List.mem_append_right _ (g_k4 (List.mem_of_getElem? (i := 152) rfl))) rfl
theorem tw_871 : (.instanceMethod yX7_learn : Cond) ∈ lw_gd := g_mem (List.mem_append_right _ (g_k4 (List.mem_of_getElem? (i := 151) rfl))) rfl
theorem tn_255 : (.fieldLinkNest RX11 260 "ManyOut$Survey" "nearCount" "I" "ManyOut" : Cond) ∈ lw_nw := g_nmem (g_k2 (List.mem_of_getElem? (i := 15) (by decide +kernel))) rfl
theorem tw_869 : (.code yX11_isNear cX11_isNear 2 (some .boolean) : Cond) ∈ lw_gd := g_mem (List.mem_append_right _ (g_k4 (List.mem_of_getElem? (i := 149) rfl))) rfl
theorem tp_31 : (.selects RX11 yX11_isNear yX11_isNear : Cond) ∈ lw_gd := g_mem (List.mem_append_left _ (List.mem_of_getElem? (i := 31) (by decide +kernel))) rfl
theorem tw_868 : (.instanceMethod yX11_isNear : Cond) ∈ lw_gd := g_mem (List.mem_append_right _ (g_k4 (List.mem_of_getElem? (i := 148) rfl))) rfl
theorem tn_246 : (.fieldLinkNest RX11 246 "ManyOut$Survey" "nearRow" "[I" "ManyOut" : Cond) ∈ lw_nw := g_nmem (g_k2 (List.mem_of_getElem? (i := 6) (by decide +kernel))) rfl
theorem tw_937 : (.methodLink RX11 249 yX1_letterInRow : Cond) ∈ lw_gd := g_mem (List.mem_append_right _ (g_k4 (List.mem_of_getElem? (i := 217) rfl))) rfl
theorem tw_940 : (.code yX1_letterInRow cX1_letterInRow 3 (some .int) : Cond) ∈ lw_gd := g_mem (List.mem_append_right _ (g_k4 (List.mem_of_getElem? (i := 220) rfl))) rfl
theorem tw_939 : (.selects RX1 yX1_letterInRow yX1_letterInRow : Cond) ∈ lw_gd := g_mem (List.mem_append_right _ (g_k4 (List.mem_of_getElem? (i := 219) rfl))) rfl
theorem tw_938 : (.instanceMethod yX1_letterInRow : Cond) ∈ lw_gd := g_mem (List.mem_append_right _ (g_k4 (List.mem_of_getElem? (i := 218) rfl))) rfl
theorem tn_244 : (.fieldLinkNest RX11 252 "ManyOut$Survey" "nearDistance" "[J" "ManyOut" : Cond) ∈ lw_nw := g_nmem (g_k2 (List.mem_of_getElem? (i := 4) (by decide +kernel))) rfl
theorem tw_961 : (.methodLink RX11 263 yX1_rowCount : Cond) ∈ lw_gd := g_mem (List.mem_append_right _ (g_k5 (List.mem_of_getElem? (i := 1) rfl))) rfl
theorem tw_965 : (.methodLink RX11 266 yX7_countAhead : Cond) ∈ lw_gd := g_mem (List.mem_append_right _ (g_k5 (List.mem_of_getElem? (i := 5) rfl))) rfl
theorem tw_968 : (.code yX7_countAhead cX7_countAhead 13 (some .int) : Cond) ∈ lw_gd := g_mem (List.mem_append_right _ (g_k5 (List.mem_of_getElem? (i := 8) rfl))) rfl
theorem tw_967 : (.selects RX7 yX7_countAhead yX7_countAhead : Cond) ∈ lw_gd := g_mem (List.mem_append_right _ (g_k5 (List.mem_of_getElem? (i := 7) rfl))) rfl
theorem tw_966 : (.instanceMethod yX7_countAhead : Cond) ∈ lw_gd := g_mem (List.mem_append_right _ (g_k5 (List.mem_of_getElem? (i := 6) rfl))) rfl
theorem tw_973 : (.methodLink RX11 270 yX7_cancelAll : Cond) ∈ lw_gd := g_mem (List.mem_append_right _ (g_k5 (List.mem_of_getElem? (i := 13) rfl))) rfl
theorem tw_976 : (.code yX7_cancelAll cX7_cancelAll 6 none : Cond) ∈ lw_gd := g_mem (List.mem_append_right _ (g_k5 (List.mem_of_getElem? (i := 16) rfl))) rfl
theorem tw_975 : (.selects RX7 yX7_cancelAll yX7_cancelAll : Cond) ∈ lw_gd := g_mem (List.mem_append_right _ (g_k5 (List.mem_of_getElem? (i := 15) rfl))) rfl
theorem tw_974 : (.instanceMethod yX7_cancelAll : Cond) ∈ lw_gd := g_mem (List.mem_append_right _ (g_k5 (List.mem_of_getElem? (i := 14) rfl))) rfl
theorem tn_252 : (.fieldLinkNest RX11 273 "ManyOut$Survey" "cancelled" "[I" "ManyOut" : Cond) ∈ lw_nw := g_nmem (g_k2 (List.mem_of_getElem? (i := 12) (by decide +kernel))) rfl
theorem tn_250 : (.fieldLinkNest RX11 276 "ManyOut$Survey" "turns" "[I" "ManyOut" : Cond) ∈ lw_nw := g_nmem (g_k2 (List.mem_of_getElem? (i := 10) (by decide +kernel))) rfl
theorem tw_1005 : (.methodLink RX11 279 yX1_digitOfLetter : Cond) ∈ lw_gd := g_mem (List.mem_append_right _ (g_k5 (List.mem_of_getElem? (i := 45) rfl))) rfl
theorem tw_1009 : (.methodLink RX11 282 yX7_leastWith : Cond) ∈ lw_gd := g_mem (List.mem_append_right _ (g_k5 (List.mem_of_getElem? (i := 49) rfl))) rfl
theorem tw_1017 : (.methodLink RX11 286 yX7_shareOf : Cond) ∈ lw_gd := g_mem (List.mem_append_right _ (g_k5 (List.mem_of_getElem? (i := 57) rfl))) rfl
theorem tw_1020 : (.code yX7_shareOf cX7_shareOf 3 (some .int) : Cond) ∈ lw_gd := g_mem (List.mem_append_right _ (g_k5 (List.mem_of_getElem? (i := 60) rfl))) rfl
theorem tw_1019 : (.selects RX7 yX7_shareOf yX7_shareOf : Cond) ∈ lw_gd := g_mem (List.mem_append_right _ (g_k5 (List.mem_of_getElem? (i := 59) rfl))) rfl
theorem tw_1018 : (.instanceMethod yX7_shareOf : Cond) ∈ lw_gd := g_mem (List.mem_append_right _ (g_k5 (List.mem_of_getElem? (i := 58) rfl))) rfl
theorem tw_1026 : (.methodLink RX11 289 yX1_digitInRow : Cond) ∈ lw_gd := g_mem (List.mem_append_right _ (g_k5 (List.mem_of_getElem? (i := 66) rfl))) rfl
theorem tw_1027 : (.methodLink RX11 292 yX7_leastWithout : Cond) ∈ lw_gd := g_mem (List.mem_append_right _ (g_k5 (List.mem_of_getElem? (i := 67) rfl))) rfl
theorem tw_1030 : (.code yX7_leastWithout cX7_leastWithout 7 (some .long) : Cond) ∈ lw_gd := g_mem (List.mem_append_right _ (g_k5 (List.mem_of_getElem? (i := 70) rfl))) rfl
theorem tw_1029 : (.selects RX7 yX7_leastWithout yX7_leastWithout : Cond) ∈ lw_gd := g_mem (List.mem_append_right _ (g_k5 (List.mem_of_getElem? (i := 69) rfl))) rfl
theorem tw_1028 : (.instanceMethod yX7_leastWithout : Cond) ∈ lw_gd := g_mem (List.mem_append_right _ (g_k5 (List.mem_of_getElem? (i := 68) rfl))) rfl
theorem tw_1091 : (.constantLong RX11 308 (-1000000000) : Cond) ∈ lw_gd := g_mem (List.mem_append_right _ (g_k5 (List.mem_of_getElem? (i := 131) rfl))) rfl
theorem tw_1087 : (.methodLink RX11 305 yX2_leaderAt : Cond) ∈ lw_gd := g_mem (List.mem_append_right _ (g_k5 (List.mem_of_getElem? (i := 127) rfl))) rfl
theorem tw_393 : (.fieldLink RX2 18 "ManyOut$Led" "leader" "[J" : Cond) ∈ lw_gd := g_mem (List.mem_append_right _ (g_k2 (List.mem_of_getElem? (i := 153) rfl))) rfl
theorem tw_1090 : (.code yX2_leaderAt cX2_leaderAt 3 (some .long) : Cond) ∈ lw_gd := g_mem (List.mem_append_right _ (g_k5 (List.mem_of_getElem? (i := 130) rfl))) rfl
theorem tw_13 : (.initialized RX2 : Cond) ∈ lw_gd := g_mem (List.mem_append_right _ (g_k1 (List.mem_of_getElem? (i := 13) rfl))) rfl
theorem tw_1089 : (.selects RX2 yX2_leaderAt yX2_leaderAt : Cond) ∈ lw_gd := g_mem (List.mem_append_right _ (g_k5 (List.mem_of_getElem? (i := 129) rfl))) rfl
theorem tw_1088 : (.instanceMethod yX2_leaderAt : Cond) ∈ lw_gd := g_mem (List.mem_append_right _ (g_k5 (List.mem_of_getElem? (i := 128) rfl))) rfl
theorem tw_1096 : (.methodLink RX11 310 yX2_stepAt : Cond) ∈ lw_gd := g_mem (List.mem_append_right _ (g_k5 (List.mem_of_getElem? (i := 136) rfl))) rfl
theorem tw_394 : (.fieldLink RX2 22 "ManyOut$Led" "steps" "[I" : Cond) ∈ lw_gd := g_mem (List.mem_append_right _ (g_k2 (List.mem_of_getElem? (i := 154) rfl))) rfl
theorem tw_1054 : (.methodLink RX2 56 yX2_slot : Cond) ∈ lw_gd := g_mem (List.mem_append_right _ (g_k5 (List.mem_of_getElem? (i := 94) rfl))) rfl
theorem tw_396 : (.fieldLink RX2 30 "ManyOut$Led" "oldest" "I" : Cond) ∈ lw_gd := g_mem (List.mem_append_right _ (g_k2 (List.mem_of_getElem? (i := 156) rfl))) rfl
theorem tw_1057 : (.code yX2_slot cX2_slot 2 (some .int) : Cond) ∈ lw_gd := g_mem (List.mem_append_right _ (g_k5 (List.mem_of_getElem? (i := 97) rfl))) rfl
theorem tp_43 : (.selects RX2 yX2_slot yX2_slot : Cond) ∈ lw_gd := g_mem (List.mem_append_left _ (List.mem_of_getElem? (i := 43) (by decide +kernel))) rfl
theorem tw_1056 : (.instanceMethod yX2_slot : Cond) ∈ lw_gd := g_mem (List.mem_append_right _ (g_k5 (List.mem_of_getElem? (i := 96) rfl))) rfl
theorem tw_1099 : (.code yX2_stepAt cX2_stepAt 3 (some .int) : Cond) ∈ lw_gd := g_mem (List.mem_append_right _ (g_k5 (List.mem_of_getElem? (i := 139) rfl))) rfl
theorem tw_1098 : (.selects RX2 yX2_stepAt yX2_stepAt : Cond) ∈ lw_gd := g_mem (List.mem_append_right _ (g_k5 (List.mem_of_getElem? (i := 138) rfl))) rfl
theorem tw_1097 : (.instanceMethod yX2_stepAt : Cond) ∈ lw_gd := g_mem (List.mem_append_right _ (g_k5 (List.mem_of_getElem? (i := 137) rfl))) rfl
theorem tw_1104 : (.methodLink RX11 313 yX8_clashOf : Cond) ∈ lw_gd := g_mem (List.mem_append_right _ (g_k5 (List.mem_of_getElem? (i := 144) rfl))) rfl
theorem tw_1114 : (.methodLink RX11 316 yX8_worstPair : Cond) ∈ lw_gd := g_mem (List.mem_append_right _ (g_k5 (List.mem_of_getElem? (i := 154) rfl))) rfl
theorem tw_1117 : (.code yX8_worstPair cX8_worstPair 7 (some .int) : Cond) ∈ lw_gd := g_mem (List.mem_append_right _ (g_k5 (List.mem_of_getElem? (i := 157) rfl))) rfl
theorem tw_1116 : (.selects RX8 yX8_worstPair yX8_worstPair : Cond) ∈ lw_gd := g_mem (List.mem_append_right _ (g_k5 (List.mem_of_getElem? (i := 156) rfl))) rfl
theorem tw_1115 : (.instanceMethod yX8_worstPair : Cond) ∈ lw_gd := g_mem (List.mem_append_right _ (g_k5 (List.mem_of_getElem? (i := 155) rfl))) rfl
theorem tw_1123 : (.methodLink RX11 319 yX8_allSquares : Cond) ∈ lw_gd := g_mem (List.mem_append_right _ (g_k5 (List.mem_of_getElem? (i := 163) rfl))) rfl
theorem tw_1126 : (.code yX8_allSquares cX8_allSquares 4 (some .long) : Cond) ∈ lw_gd := g_mem (List.mem_append_right _ (g_k5 (List.mem_of_getElem? (i := 166) rfl))) rfl
theorem tw_1125 : (.selects RX8 yX8_allSquares yX8_allSquares : Cond) ∈ lw_gd := g_mem (List.mem_append_right _ (g_k5 (List.mem_of_getElem? (i := 165) rfl))) rfl
theorem tw_1124 : (.instanceMethod yX8_allSquares : Cond) ∈ lw_gd := g_mem (List.mem_append_right _ (g_k5 (List.mem_of_getElem? (i := 164) rfl))) rfl
theorem tw_1131 : (.methodLink RX11 323 yX1_isSenderSet : Cond) ∈ lw_gd := g_mem (List.mem_append_right _ (g_k5 (List.mem_of_getElem? (i := 171) rfl))) rfl
theorem tw_1134 : (.code yX1_isSenderSet cX1_isSenderSet 2 (some .boolean) : Cond) ∈ lw_gd := g_mem (List.mem_append_right _ (g_k5 (List.mem_of_getElem? (i := 174) rfl))) rfl
theorem tw_1133 : (.selects RX1 yX1_isSenderSet yX1_isSenderSet : Cond) ∈ lw_gd := g_mem (List.mem_append_right _ (g_k5 (List.mem_of_getElem? (i := 173) rfl))) rfl
theorem tw_1132 : (.instanceMethod yX1_isSenderSet : Cond) ∈ lw_gd := g_mem (List.mem_append_right _ (g_k5 (List.mem_of_getElem? (i := 172) rfl))) rfl
theorem tw_423 : (.fieldLink RX11 31 "ManyOut" "shortest" "LManyOut$Sums;" : Cond) ∈ lw_gd := g_mem (List.mem_append_right _ (g_k2 (List.mem_of_getElem? (i := 183) rfl))) rfl
theorem tw_1135 : (.methodLink RX11 326 yX6_findShortest : Cond) ∈ lw_gd := g_mem (List.mem_append_right _ (g_k5 (List.mem_of_getElem? (i := 175) rfl))) rfl
theorem tn_298 : (.fieldLinkNest RX11 330 "ManyOut$Sums" "leastSquares" "J" "ManyOut" : Cond) ∈ lw_nw := g_nmem (g_k2 (List.mem_of_getElem? (i := 58) (by decide +kernel))) rfl
theorem tn_295 : (.fieldLinkNest RX11 334 "ManyOut$Sums" "numbers" "[I" "ManyOut" : Cond) ∈ lw_nw := g_nmem (g_k2 (List.mem_of_getElem? (i := 55) (by decide +kernel))) rfl
theorem tw_1164 : (.methodLink RX11 337 yX6_apartOf : Cond) ∈ lw_gd := g_mem (List.mem_append_right _ (g_k5 (List.mem_of_getElem? (i := 204) rfl))) rfl
theorem tw_1167 : (.code yX6_apartOf cX6_apartOf 3 (some .long) : Cond) ∈ lw_gd := g_mem (List.mem_append_right _ (g_k5 (List.mem_of_getElem? (i := 207) rfl))) rfl
theorem tw_1166 : (.selects RX6 yX6_apartOf yX6_apartOf : Cond) ∈ lw_gd := g_mem (List.mem_append_right _ (g_k5 (List.mem_of_getElem? (i := 206) rfl))) rfl
theorem tw_1165 : (.instanceMethod yX6_apartOf : Cond) ∈ lw_gd := g_mem (List.mem_append_right _ (g_k5 (List.mem_of_getElem? (i := 205) rfl))) rfl
theorem tw_1174 : (.methodLink RX11 341 yX1_isWord : Cond) ∈ lw_gd := g_mem (List.mem_append_right _ (g_k5 (List.mem_of_getElem? (i := 214) rfl))) rfl
theorem tw_1177 : (.code yX1_isWord cX1_isWord 2 (some .boolean) : Cond) ∈ lw_gd := g_mem (List.mem_append_right _ (g_k5 (List.mem_of_getElem? (i := 217) rfl))) rfl
theorem tw_1176 : (.selects RX1 yX1_isWord yX1_isWord : Cond) ∈ lw_gd := g_mem (List.mem_append_right _ (g_k5 (List.mem_of_getElem? (i := 216) rfl))) rfl
theorem tw_1175 : (.instanceMethod yX1_isWord : Cond) ∈ lw_gd := g_mem (List.mem_append_right _ (g_k5 (List.mem_of_getElem? (i := 215) rfl))) rfl
theorem tw_1178 : (.methodLink RX11 344 yX1_letterOfWord : Cond) ∈ lw_gd := g_mem (List.mem_append_right _ (g_k5 (List.mem_of_getElem? (i := 218) rfl))) rfl
theorem tw_424 : (.fieldLink RX11 38 "ManyOut" "wordCode" "LManyOut$Code;" : Cond) ∈ lw_gd := g_mem (List.mem_append_right _ (g_k2 (List.mem_of_getElem? (i := 184) rfl))) rfl
theorem tw_1192 : (.methodLink RX11 350 yX0_learn : Cond) ∈ lw_gd := g_mem (List.mem_append_right _ (g_k5 (List.mem_of_getElem? (i := 232) rfl))) rfl
theorem tw_1195 : (.code yX0_learn cX0_learn 4 none : Cond) ∈ lw_gd := g_mem (List.mem_append_right _ (g_k5 (List.mem_of_getElem? (i := 235) rfl))) rfl
theorem tw_1194 : (.selects RX0 yX0_learn yX0_learn : Cond) ∈ lw_gd := g_mem (List.mem_append_right _ (g_k5 (List.mem_of_getElem? (i := 234) rfl))) rfl
theorem tw_1193 : (.instanceMethod yX0_learn : Cond) ∈ lw_gd := g_mem (List.mem_append_right _ (g_k5 (List.mem_of_getElem? (i := 233) rfl))) rfl
theorem tw_1202 : (.methodLink RX11 352 yX0_findLeast : Cond) ∈ lw_gd := g_mem (List.mem_append_right _ (g_k6 (List.mem_of_getElem? (i := 2) rfl))) rfl
theorem tw_1205 : (.code yX0_findLeast cX0_findLeast 4 none : Cond) ∈ lw_gd := g_mem (List.mem_append_right _ (g_k6 (List.mem_of_getElem? (i := 5) rfl))) rfl
theorem tw_1204 : (.selects RX0 yX0_findLeast yX0_findLeast : Cond) ∈ lw_gd := g_mem (List.mem_append_right _ (g_k6 (List.mem_of_getElem? (i := 4) rfl))) rfl
theorem tw_1203 : (.instanceMethod yX0_findLeast : Cond) ∈ lw_gd := g_mem (List.mem_append_right _ (g_k6 (List.mem_of_getElem? (i := 3) rfl))) rfl
theorem tn_323 : (.fieldLinkNest RX11 361 "ManyOut$Code" "firstPair" "I" "ManyOut" : Cond) ∈ lw_nw := g_nmem (g_k2 (List.mem_of_getElem? (i := 83) (by decide +kernel))) rfl
theorem tn_321 : (.fieldLinkNest RX11 358 "ManyOut$Code" "leastPairs" "I" "ManyOut" : Cond) ∈ lw_nw := g_nmem (g_k2 (List.mem_of_getElem? (i := 81) (by decide +kernel))) rfl
theorem tn_319 : (.fieldLinkNest RX11 355 "ManyOut$Code" "leastWorth" "J" "ManyOut" : Cond) ∈ lw_nw := g_nmem (g_k2 (List.mem_of_getElem? (i := 79) (by decide +kernel))) rfl
theorem tw_1186 : (.methodLink RX11 347 yX1_mostPower : Cond) ∈ lw_gd := g_mem (List.mem_append_right _ (g_k5 (List.mem_of_getElem? (i := 226) rfl))) rfl
theorem tw_1189 : (.code yX1_mostPower cX1_mostPower 5 (some .int) : Cond) ∈ lw_gd := g_mem (List.mem_append_right _ (g_k5 (List.mem_of_getElem? (i := 229) rfl))) rfl
theorem tw_1188 : (.selects RX1 yX1_mostPower yX1_mostPower : Cond) ∈ lw_gd := g_mem (List.mem_append_right _ (g_k5 (List.mem_of_getElem? (i := 228) rfl))) rfl
theorem tw_1187 : (.instanceMethod yX1_mostPower : Cond) ∈ lw_gd := g_mem (List.mem_append_right _ (g_k5 (List.mem_of_getElem? (i := 227) rfl))) rfl
theorem tw_1215 : (.methodLink RX11 364 yX1_copyWord : Cond) ∈ lw_gd := g_mem (List.mem_append_right _ (g_k6 (List.mem_of_getElem? (i := 15) rfl))) rfl
theorem tw_1218 : (.code yX1_copyWord cX1_copyWord 4 none : Cond) ∈ lw_gd := g_mem (List.mem_append_right _ (g_k6 (List.mem_of_getElem? (i := 18) rfl))) rfl
theorem tw_1217 : (.selects RX1 yX1_copyWord yX1_copyWord : Cond) ∈ lw_gd := g_mem (List.mem_append_right _ (g_k6 (List.mem_of_getElem? (i := 17) rfl))) rfl
theorem tw_1216 : (.instanceMethod yX1_copyWord : Cond) ∈ lw_gd := g_mem (List.mem_append_right _ (g_k6 (List.mem_of_getElem? (i := 16) rfl))) rfl
theorem tw_1227 : (.methodLink RX11 368 yX1_rowOfLetters : Cond) ∈ lw_gd := g_mem (List.mem_append_right _ (g_k6 (List.mem_of_getElem? (i := 27) rfl))) rfl
theorem tw_1230 : (.code yX1_rowOfLetters cX1_rowOfLetters 4 (some .int) : Cond) ∈ lw_gd := g_mem (List.mem_append_right _ (g_k6 (List.mem_of_getElem? (i := 30) rfl))) rfl
theorem tw_1229 : (.selects RX1 yX1_rowOfLetters yX1_rowOfLetters : Cond) ∈ lw_gd := g_mem (List.mem_append_right _ (g_k6 (List.mem_of_getElem? (i := 29) rfl))) rfl
theorem tw_1228 : (.instanceMethod yX1_rowOfLetters : Cond) ∈ lw_gd := g_mem (List.mem_append_right _ (g_k6 (List.mem_of_getElem? (i := 28) rfl))) rfl
theorem tw_425 : (.fieldLink RX11 45 "ManyOut" "power" "LManyOut$Power;" : Cond) ∈ lw_gd := g_mem (List.mem_append_right _ (g_k2 (List.mem_of_getElem? (i := 185) rfl))) rfl
theorem tw_1289 : (.methodLink RX11 376 yX3_leastOfAll : Cond) ∈ lw_gd := g_mem (List.mem_append_right _ (g_k6 (List.mem_of_getElem? (i := 89) rfl))) rfl
theorem tw_1292 : (.code yX3_leastOfAll cX3_leastOfAll 9 (some .long) : Cond) ∈ lw_gd := g_mem (List.mem_append_right _ (g_k6 (List.mem_of_getElem? (i := 92) rfl))) rfl
theorem tw_1291 : (.selects RX3 yX3_leastOfAll yX3_leastOfAll : Cond) ∈ lw_gd := g_mem (List.mem_append_right _ (g_k6 (List.mem_of_getElem? (i := 91) rfl))) rfl
theorem tw_1290 : (.instanceMethod yX3_leastOfAll : Cond) ∈ lw_gd := g_mem (List.mem_append_right _ (g_k6 (List.mem_of_getElem? (i := 90) rfl))) rfl
theorem tw_1240 : (.methodLink RX11 372 yX3_mostOfAll : Cond) ∈ lw_gd := g_mem (List.mem_append_right _ (g_k6 (List.mem_of_getElem? (i := 40) rfl))) rfl
theorem tw_1243 : (.code yX3_mostOfAll cX3_mostOfAll 6 (some .long) : Cond) ∈ lw_gd := g_mem (List.mem_append_right _ (g_k6 (List.mem_of_getElem? (i := 43) rfl))) rfl
theorem tw_1242 : (.selects RX3 yX3_mostOfAll yX3_mostOfAll : Cond) ∈ lw_gd := g_mem (List.mem_append_right _ (g_k6 (List.mem_of_getElem? (i := 42) rfl))) rfl
theorem tw_1241 : (.instanceMethod yX3_mostOfAll : Cond) ∈ lw_gd := g_mem (List.mem_append_right _ (g_k6 (List.mem_of_getElem? (i := 41) rfl))) rfl
theorem tw_1313 : (.methodLink RX11 383 yX3_refuse : Cond) ∈ lw_gd := g_mem (List.mem_append_right _ (g_k6 (List.mem_of_getElem? (i := 113) rfl))) rfl
theorem tw_1303 : (.methodLink RX11 379 yX3_putAhead : Cond) ∈ lw_gd := g_mem (List.mem_append_right _ (g_k6 (List.mem_of_getElem? (i := 103) rfl))) rfl
theorem tw_1306 : (.code yX3_putAhead cX3_putAhead 5 (some .long) : Cond) ∈ lw_gd := g_mem (List.mem_append_right _ (g_k6 (List.mem_of_getElem? (i := 106) rfl))) rfl
theorem tw_1305 : (.selects RX3 yX3_putAhead yX3_putAhead : Cond) ∈ lw_gd := g_mem (List.mem_append_right _ (g_k6 (List.mem_of_getElem? (i := 105) rfl))) rfl
theorem tw_1304 : (.instanceMethod yX3_putAhead : Cond) ∈ lw_gd := g_mem (List.mem_append_right _ (g_k6 (List.mem_of_getElem? (i := 104) rfl))) rfl
theorem tn_357 : (.fieldLinkNest RX11 386 "ManyOut$Power" "isPut" "Z" "ManyOut" : Cond) ∈ lw_nw := g_nmem (g_k2 (List.mem_of_getElem? (i := 117) (by decide +kernel))) rfl
theorem tn_350 : (.fieldLinkNest RX11 390 "ManyOut$Power" "put" "[I" "ManyOut" : Cond) ∈ lw_nw := g_nmem (g_k2 (List.mem_of_getElem? (i := 110) (by decide +kernel))) rfl
theorem tw_1322 : (.methodLink RX11 393 yX1_worthOf : Cond) ∈ lw_gd := g_mem (List.mem_append_right _ (g_k6 (List.mem_of_getElem? (i := 122) rfl))) rfl
theorem tw_1325 : (.code yX1_worthOf cX1_worthOf 2 (some .int) : Cond) ∈ lw_gd := g_mem (List.mem_append_right _ (g_k6 (List.mem_of_getElem? (i := 125) rfl))) rfl
theorem tw_1324 : (.selects RX1 yX1_worthOf yX1_worthOf : Cond) ∈ lw_gd := g_mem (List.mem_append_right _ (g_k6 (List.mem_of_getElem? (i := 124) rfl))) rfl
theorem tw_1323 : (.instanceMethod yX1_worthOf : Cond) ∈ lw_gd := g_mem (List.mem_append_right _ (g_k6 (List.mem_of_getElem? (i := 123) rfl))) rfl
theorem tw_428 : (.fieldLink RX11 56 "ManyOut" "worths" "[I" : Cond) ∈ lw_gd := g_mem (List.mem_append_right _ (g_k2 (List.mem_of_getElem? (i := 188) rfl))) rfl
theorem tw_1365 : (.methodLink RX11 396 yX11_worthTogether : Cond) ∈ lw_gd := g_mem (List.mem_append_right _ (g_k6 (List.mem_of_getElem? (i := 165) rfl))) rfl
theorem tw_1368 : (.code yX11_worthTogether cX11_worthTogether 4 (some .int) : Cond) ∈ lw_gd := g_mem (List.mem_append_right _ (g_k6 (List.mem_of_getElem? (i := 168) rfl))) rfl
theorem tp_57 : (.selects RX11 yX11_worthTogether yX11_worthTogether : Cond) ∈ lw_gd := g_mem (List.mem_append_left _ (List.mem_of_getElem? (i := 57) (by decide +kernel))) rfl
theorem tw_1367 : (.instanceMethod yX11_worthTogether : Cond) ∈ lw_gd := g_mem (List.mem_append_right _ (g_k6 (List.mem_of_getElem? (i := 167) rfl))) rfl
theorem tw_1369 : (.methodLink RX11 399 yJ6_bitCount_0f7a4 : Cond) ∈ lw_gd := g_mem (List.mem_append_right _ (g_k6 (List.mem_of_getElem? (i := 169) rfl))) rfl
theorem tw_1372 : (.constant RJ6 265 (1431655765) : Cond) ∈ lw_gd := g_mem (List.mem_append_right _ (g_k6 (List.mem_of_getElem? (i := 172) rfl))) rfl
theorem tw_1373 : (.constant RJ6 266 (858993459) : Cond) ∈ lw_gd := g_mem (List.mem_append_right _ (g_k6 (List.mem_of_getElem? (i := 173) rfl))) rfl
theorem tw_1374 : (.constant RJ6 267 (252645135) : Cond) ∈ lw_gd := g_mem (List.mem_append_right _ (g_k6 (List.mem_of_getElem? (i := 174) rfl))) rfl
theorem tw_1371 : (.code yJ6_bitCount_0f7a4 cJ6_bitCount_0f7a4 1 (some .int) : Cond) ∈ lw_gd := g_mem (List.mem_append_right _ (g_k6 (List.mem_of_getElem? (i := 171) rfl))) rfl
theorem tw_21 : (.initialized RJ6 : Cond) ∈ lw_gd := g_mem (List.mem_append_right _ (g_k1 (List.mem_of_getElem? (i := 21) rfl))) rfl
theorem tw_1370 : (.static yJ6_bitCount_0f7a4 : Cond) ∈ lw_gd := g_mem (List.mem_append_right _ (g_k6 (List.mem_of_getElem? (i := 170) rfl))) rfl
theorem tw_429 : (.fieldLink RX11 59 "ManyOut" "imageBytes" "[I" : Cond) ∈ lw_gd := g_mem (List.mem_append_right _ (g_k2 (List.mem_of_getElem? (i := 189) rfl))) rfl
theorem tw_1379 : (.methodLink RX11 404 yX11_checkWith : Cond) ∈ lw_gd := g_mem (List.mem_append_right _ (g_k6 (List.mem_of_getElem? (i := 179) rfl))) rfl
theorem tw_1381 : (.code yX11_checkWith cX11_checkWith 2 (some .int) : Cond) ∈ lw_gd := g_mem (List.mem_append_right _ (g_k6 (List.mem_of_getElem? (i := 181) rfl))) rfl
theorem tw_1380 : (.static yX11_checkWith : Cond) ∈ lw_gd := g_mem (List.mem_append_right _ (g_k6 (List.mem_of_getElem? (i := 180) rfl))) rfl
theorem tw_430 : (.fieldLink RX11 62 "ManyOut" "imageLength" "I" : Cond) ∈ lw_gd := g_mem (List.mem_append_right _ (g_k2 (List.mem_of_getElem? (i := 190) rfl))) rfl
theorem tw_1394 : (.methodLink RX11 410 yX9_at : Cond) ∈ lw_gd := g_mem (List.mem_append_right _ (g_k6 (List.mem_of_getElem? (i := 194) rfl))) rfl
theorem tw_1402 : (.fieldLink RX12 148 "ManyOutModel" "taped" "I" : Cond) ∈ lw_gd := g_mem (List.mem_append_right _ (g_k6 (List.mem_of_getElem? (i := 202) rfl))) rfl
theorem tw_1401 : (.fieldLink RX12 7 "ManyOutModel" "tape" "[I" : Cond) ∈ lw_gd := g_mem (List.mem_append_right _ (g_k6 (List.mem_of_getElem? (i := 201) rfl))) rfl
theorem tw_1404 : (.fieldLink RX12 160 "ManyOutModel" "end" "I" : Cond) ∈ lw_gd := g_mem (List.mem_append_right _ (g_k6 (List.mem_of_getElem? (i := 204) rfl))) rfl
theorem tw_1403 : (.fieldLink RX12 157 "ManyOutModel" "at" "I" : Cond) ∈ lw_gd := g_mem (List.mem_append_right _ (g_k6 (List.mem_of_getElem? (i := 203) rfl))) rfl
theorem tw_1405 : (.fieldLink RX12 171 "ManyOutModel" "ended" "I" : Cond) ∈ lw_gd := g_mem (List.mem_append_right _ (g_k6 (List.mem_of_getElem? (i := 205) rfl))) rfl
theorem tw_1406 : (.fieldLink RX12 151 "ManyOutModel" "bad" "I" : Cond) ∈ lw_gd := g_mem (List.mem_append_right _ (g_k6 (List.mem_of_getElem? (i := 206) rfl))) rfl
theorem tw_1407 : (.fieldLink RX12 154 "ManyOutModel" "badPlace" "I" : Cond) ∈ lw_gd := g_mem (List.mem_append_right _ (g_k6 (List.mem_of_getElem? (i := 207) rfl))) rfl
theorem tw_1436 : (.fieldLink RX12 222 "ManyOutModel" "coded" "I" : Cond) ∈ lw_gd := g_mem (List.mem_append_right _ (g_k6 (List.mem_of_getElem? (i := 236) rfl))) rfl
theorem tw_1440 : (.fieldLink RX12 81 "ManyOutModel" "rules" "[I" : Cond) ∈ lw_gd := g_mem (List.mem_append_right _ (g_k7 (List.mem_of_getElem? (i := 0) rfl))) rfl
theorem tw_1410 : (.fieldLink RX12 17 "ManyOutModel" "houseWord" "[C" : Cond) ∈ lw_gd := g_mem (List.mem_append_right _ (g_k6 (List.mem_of_getElem? (i := 210) rfl))) rfl
theorem tw_1634 : (.methodLink RX12 212 yX12_asks : Cond) ∈ lw_gd := g_mem (List.mem_append_right _ (g_k7 (List.mem_of_getElem? (i := 194) rfl))) rfl
theorem tw_1638 : (.methodLink RX12 178 yX12_takes : Cond) ∈ lw_gd := g_mem (List.mem_append_right _ (g_k7 (List.mem_of_getElem? (i := 198) rfl))) rfl
theorem tw_1642 : (.methodLink RX12 174 yX12_isHere : Cond) ∈ lw_gd := g_mem (List.mem_append_right _ (g_k7 (List.mem_of_getElem? (i := 202) rfl))) rfl
theorem tw_1646 : (.methodLink RX12 163 yX12_look : Cond) ∈ lw_gd := g_mem (List.mem_append_right _ (g_k7 (List.mem_of_getElem? (i := 206) rfl))) rfl
theorem tw_1649 : (.code yX12_look cX12_look 1 (some .int) : Cond) ∈ lw_gd := g_mem (List.mem_append_right _ (g_k7 (List.mem_of_getElem? (i := 209) rfl))) rfl
theorem tw_14 : (.initialized RX12 : Cond) ∈ lw_gd := g_mem (List.mem_append_right _ (g_k1 (List.mem_of_getElem? (i := 14) rfl))) rfl
theorem tp_62 : (.selects RX12 yX12_look yX12_look : Cond) ∈ lw_gd := g_mem (List.mem_append_left _ (List.mem_of_getElem? (i := 62) (by decide +kernel))) rfl
theorem tw_1648 : (.instanceMethod yX12_look : Cond) ∈ lw_gd := g_mem (List.mem_append_right _ (g_k7 (List.mem_of_getElem? (i := 208) rfl))) rfl
theorem tw_1650 : (.methodLink RX12 167 yX12_isLetter : Cond) ∈ lw_gd := g_mem (List.mem_append_right _ (g_k7 (List.mem_of_getElem? (i := 210) rfl))) rfl
theorem tw_1652 : (.code yX12_isLetter cX12_isLetter 1 (some .boolean) : Cond) ∈ lw_gd := g_mem (List.mem_append_right _ (g_k7 (List.mem_of_getElem? (i := 212) rfl))) rfl
theorem tw_1651 : (.static yX12_isLetter : Cond) ∈ lw_gd := g_mem (List.mem_append_right _ (g_k7 (List.mem_of_getElem? (i := 211) rfl))) rfl
theorem tw_1645 : (.code yX12_isHere cX12_isHere 4 (some .boolean) : Cond) ∈ lw_gd := g_mem (List.mem_append_right _ (g_k7 (List.mem_of_getElem? (i := 205) rfl))) rfl
theorem tp_61 : (.selects RX12 yX12_isHere yX12_isHere : Cond) ∈ lw_gd := g_mem (List.mem_append_left _ (List.mem_of_getElem? (i := 61) (by decide +kernel))) rfl
theorem tw_1644 : (.instanceMethod yX12_isHere : Cond) ∈ lw_gd := g_mem (List.mem_append_right _ (g_k7 (List.mem_of_getElem? (i := 204) rfl))) rfl
theorem tw_1641 : (.code yX12_takes cX12_takes 2 (some .boolean) : Cond) ∈ lw_gd := g_mem (List.mem_append_right _ (g_k7 (List.mem_of_getElem? (i := 201) rfl))) rfl
theorem tp_60 : (.selects RX12 yX12_takes yX12_takes : Cond) ∈ lw_gd := g_mem (List.mem_append_left _ (List.mem_of_getElem? (i := 60) (by decide +kernel))) rfl
theorem tw_1640 : (.instanceMethod yX12_takes : Cond) ∈ lw_gd := g_mem (List.mem_append_right _ (g_k7 (List.mem_of_getElem? (i := 200) rfl))) rfl
theorem tw_1653 : (.methodLink RX12 181 yX12_fail : Cond) ∈ lw_gd := g_mem (List.mem_append_right _ (g_k7 (List.mem_of_getElem? (i := 213) rfl))) rfl
theorem tw_1656 : (.code yX12_fail cX12_fail 3 none : Cond) ∈ lw_gd := g_mem (List.mem_append_right _ (g_k7 (List.mem_of_getElem? (i := 216) rfl))) rfl
theorem tp_63 : (.selects RX12 yX12_fail yX12_fail : Cond) ∈ lw_gd := g_mem (List.mem_append_left _ (List.mem_of_getElem? (i := 63) (by decide +kernel))) rfl
theorem tw_1655 : (.instanceMethod yX12_fail : Cond) ∈ lw_gd := g_mem (List.mem_append_right _ (g_k7 (List.mem_of_getElem? (i := 215) rfl))) rfl
theorem tw_1637 : (.code yX12_asks cX12_asks 2 none : Cond) ∈ lw_gd := g_mem (List.mem_append_right _ (g_k7 (List.mem_of_getElem? (i := 197) rfl))) rfl
theorem tp_59 : (.selects RX12 yX12_asks yX12_asks : Cond) ∈ lw_gd := g_mem (List.mem_append_left _ (List.mem_of_getElem? (i := 59) (by decide +kernel))) rfl
theorem tw_1636 : (.instanceMethod yX12_asks : Cond) ∈ lw_gd := g_mem (List.mem_append_right _ (g_k7 (List.mem_of_getElem? (i := 196) rfl))) rfl
theorem tw_1431 : (.fieldLink RX12 66 "ManyOutModel" "read" "[I" : Cond) ∈ lw_gd := g_mem (List.mem_append_right _ (g_k6 (List.mem_of_getElem? (i := 231) rfl))) rfl
theorem tw_1657 : (.methodLink RX12 195 yX12_number : Cond) ∈ lw_gd := g_mem (List.mem_append_right _ (g_k7 (List.mem_of_getElem? (i := 217) rfl))) rfl
theorem tw_1661 : (.methodLink RX12 188 yX12_isDigit : Cond) ∈ lw_gd := g_mem (List.mem_append_right _ (g_k7 (List.mem_of_getElem? (i := 221) rfl))) rfl
theorem tw_1663 : (.code yX12_isDigit cX12_isDigit 1 (some .boolean) : Cond) ∈ lw_gd := g_mem (List.mem_append_right _ (g_k7 (List.mem_of_getElem? (i := 223) rfl))) rfl
theorem tw_1662 : (.static yX12_isDigit : Cond) ∈ lw_gd := g_mem (List.mem_append_right _ (g_k7 (List.mem_of_getElem? (i := 222) rfl))) rfl
theorem tw_1664 : (.methodLink RX12 191 yX12_isIn : Cond) ∈ lw_gd := g_mem (List.mem_append_right _ (g_k7 (List.mem_of_getElem? (i := 224) rfl))) rfl
theorem tw_1666 : (.code yX12_isIn cX12_isIn 6 (some .boolean) : Cond) ∈ lw_gd := g_mem (List.mem_append_right _ (g_k7 (List.mem_of_getElem? (i := 226) rfl))) rfl
theorem tw_1665 : (.static yX12_isIn : Cond) ∈ lw_gd := g_mem (List.mem_append_right _ (g_k7 (List.mem_of_getElem? (i := 225) rfl))) rfl
theorem tw_1660 : (.code yX12_number cX12_number 5 (some .int) : Cond) ∈ lw_gd := g_mem (List.mem_append_right _ (g_k7 (List.mem_of_getElem? (i := 220) rfl))) rfl
theorem tp_64 : (.selects RX12 yX12_number yX12_number : Cond) ∈ lw_gd := g_mem (List.mem_append_left _ (List.mem_of_getElem? (i := 64) (by decide +kernel))) rfl
theorem tw_1659 : (.instanceMethod yX12_number : Cond) ∈ lw_gd := g_mem (List.mem_append_right _ (g_k7 (List.mem_of_getElem? (i := 219) rfl))) rfl
theorem tw_1432 : (.fieldLink RX12 69 "ManyOutModel" "table" "[I" : Cond) ∈ lw_gd := g_mem (List.mem_append_right _ (g_k6 (List.mem_of_getElem? (i := 232) rfl))) rfl
theorem tw_1667 : (.methodLink RX12 219 yX12_asksSign : Cond) ∈ lw_gd := g_mem (List.mem_append_right _ (g_k7 (List.mem_of_getElem? (i := 227) rfl))) rfl
theorem tw_1671 : (.methodLink RX12 185 yX12_takesSign : Cond) ∈ lw_gd := g_mem (List.mem_append_right _ (g_k7 (List.mem_of_getElem? (i := 231) rfl))) rfl
theorem tw_1674 : (.code yX12_takesSign cX12_takesSign 2 (some .boolean) : Cond) ∈ lw_gd := g_mem (List.mem_append_right _ (g_k7 (List.mem_of_getElem? (i := 234) rfl))) rfl
theorem tp_66 : (.selects RX12 yX12_takesSign yX12_takesSign : Cond) ∈ lw_gd := g_mem (List.mem_append_left _ (List.mem_of_getElem? (i := 66) (by decide +kernel))) rfl
theorem tw_1673 : (.instanceMethod yX12_takesSign : Cond) ∈ lw_gd := g_mem (List.mem_append_right _ (g_k7 (List.mem_of_getElem? (i := 233) rfl))) rfl
theorem tw_1670 : (.code yX12_asksSign cX12_asksSign 2 none : Cond) ∈ lw_gd := g_mem (List.mem_append_right _ (g_k7 (List.mem_of_getElem? (i := 230) rfl))) rfl
theorem tp_65 : (.selects RX12 yX12_asksSign yX12_asksSign : Cond) ∈ lw_gd := g_mem (List.mem_append_left _ (List.mem_of_getElem? (i := 65) (by decide +kernel))) rfl
theorem tw_1669 : (.instanceMethod yX12_asksSign : Cond) ∈ lw_gd := g_mem (List.mem_append_right _ (g_k7 (List.mem_of_getElem? (i := 229) rfl))) rfl
theorem tw_1434 : (.fieldLink RX12 202 "ManyOutModel" "statements" "I" : Cond) ∈ lw_gd := g_mem (List.mem_append_right _ (g_k6 (List.mem_of_getElem? (i := 234) rfl))) rfl
theorem tw_1408 : (.fieldLink RX12 228 "ManyOutModel" "fault" "I" : Cond) ∈ lw_gd := g_mem (List.mem_append_right _ (g_k6 (List.mem_of_getElem? (i := 208) rfl))) rfl
theorem tw_1409 : (.fieldLink RX12 13 "ManyOutModel" "faultPlace" "I" : Cond) ∈ lw_gd := g_mem (List.mem_append_right _ (g_k6 (List.mem_of_getElem? (i := 209) rfl))) rfl
theorem tw_1755 : (.methodLink RX12 231 yX12_stands : Cond) ∈ lw_gd := g_mem (List.mem_append_right _ (g_k8 (List.mem_of_getElem? (i := 75) rfl))) rfl
theorem tw_1425 : (.fieldLink RX12 234 "ManyOutModel" "letters" "I" : Cond) ∈ lw_gd := g_mem (List.mem_append_right _ (g_k6 (List.mem_of_getElem? (i := 225) rfl))) rfl
theorem tw_1426 : (.fieldLink RX12 237 "ManyOutModel" "senders" "I" : Cond) ∈ lw_gd := g_mem (List.mem_append_right _ (g_k6 (List.mem_of_getElem? (i := 226) rfl))) rfl
theorem tw_1427 : (.fieldLink RX12 240 "ManyOutModel" "receivers" "I" : Cond) ∈ lw_gd := g_mem (List.mem_append_right _ (g_k6 (List.mem_of_getElem? (i := 227) rfl))) rfl
theorem tw_1428 : (.fieldLink RX12 243 "ManyOutModel" "rowsTold" "I" : Cond) ∈ lw_gd := g_mem (List.mem_append_right _ (g_k6 (List.mem_of_getElem? (i := 228) rfl))) rfl
theorem tw_1429 : (.fieldLink RX12 246 "ManyOutModel" "wordsTold" "I" : Cond) ∈ lw_gd := g_mem (List.mem_append_right _ (g_k6 (List.mem_of_getElem? (i := 229) rfl))) rfl
theorem tw_1430 : (.fieldLink RX12 63 "ManyOutModel" "limit" "I" : Cond) ∈ lw_gd := g_mem (List.mem_append_right _ (g_k6 (List.mem_of_getElem? (i := 230) rfl))) rfl
theorem tw_1433 : (.fieldLink RX12 72 "ManyOutModel" "word" "[I" : Cond) ∈ lw_gd := g_mem (List.mem_append_right _ (g_k6 (List.mem_of_getElem? (i := 233) rfl))) rfl
theorem tw_1441 : (.fieldLink RX12 84 "ManyOutModel" "sumFrom" "[I" : Cond) ∈ lw_gd := g_mem (List.mem_append_right _ (g_k7 (List.mem_of_getElem? (i := 1) rfl))) rfl
theorem tw_1442 : (.fieldLink RX12 87 "ManyOutModel" "sumEnd" "[I" : Cond) ∈ lw_gd := g_mem (List.mem_append_right _ (g_k7 (List.mem_of_getElem? (i := 2) rfl))) rfl
theorem tw_1443 : (.fieldLink RX12 90 "ManyOutModel" "testEnd" "[I" : Cond) ∈ lw_gd := g_mem (List.mem_append_right _ (g_k7 (List.mem_of_getElem? (i := 3) rfl))) rfl
theorem tw_1448 : (.fieldLink RX12 100 "ManyOutModel" "heard" "[I" : Cond) ∈ lw_gd := g_mem (List.mem_append_right _ (g_k7 (List.mem_of_getElem? (i := 8) rfl))) rfl
theorem tw_1759 : (.methodLink RX12 249 yX12_leadsAnew : Cond) ∈ lw_gd := g_mem (List.mem_append_right _ (g_k8 (List.mem_of_getElem? (i := 79) rfl))) rfl
theorem tw_1447 : (.fieldLink RX12 97 "ManyOutModel" "led" "[I" : Cond) ∈ lw_gd := g_mem (List.mem_append_right _ (g_k7 (List.mem_of_getElem? (i := 7) rfl))) rfl
theorem tw_1456 : (.fieldLink RX12 121 "ManyOutModel" "leader" "[J" : Cond) ∈ lw_gd := g_mem (List.mem_append_right _ (g_k7 (List.mem_of_getElem? (i := 16) rfl))) rfl
theorem tw_1460 : (.fieldLink RX12 349 "ManyOutModel" "steps" "I" : Cond) ∈ lw_gd := g_mem (List.mem_append_right _ (g_k7 (List.mem_of_getElem? (i := 20) rfl))) rfl
theorem tw_1461 : (.fieldLink RX12 352 "ManyOutModel" "undoable" "I" : Cond) ∈ lw_gd := g_mem (List.mem_append_right _ (g_k7 (List.mem_of_getElem? (i := 21) rfl))) rfl
theorem tw_1462 : (.fieldLink RX12 355 "ManyOutModel" "redoable" "I" : Cond) ∈ lw_gd := g_mem (List.mem_append_right _ (g_k7 (List.mem_of_getElem? (i := 22) rfl))) rfl
theorem tw_1762 : (.code yX12_leadsAnew cX12_leadsAnew 2 none : Cond) ∈ lw_gd := g_mem (List.mem_append_right _ (g_k8 (List.mem_of_getElem? (i := 82) rfl))) rfl
theorem tp_88 : (.selects RX12 yX12_leadsAnew yX12_leadsAnew : Cond) ∈ lw_gd := g_mem (List.mem_append_left _ (List.mem_of_getElem? (i := 88) (by decide +kernel))) rfl
theorem tw_1761 : (.instanceMethod yX12_leadsAnew : Cond) ∈ lw_gd := g_mem (List.mem_append_right _ (g_k8 (List.mem_of_getElem? (i := 81) rfl))) rfl
theorem tw_1465 : (.fieldLink RX12 252 "ManyOutModel" "isPut" "Z" : Cond) ∈ lw_gd := g_mem (List.mem_append_right _ (g_k7 (List.mem_of_getElem? (i := 25) rfl))) rfl
theorem tw_1435 : (.fieldLink RX12 75 "ManyOutModel" "codes" "[I" : Cond) ∈ lw_gd := g_mem (List.mem_append_right _ (g_k6 (List.mem_of_getElem? (i := 235) rfl))) rfl
theorem tw_1758 : (.code yX12_stands cX12_stands 2 none : Cond) ∈ lw_gd := g_mem (List.mem_append_right _ (g_k8 (List.mem_of_getElem? (i := 78) rfl))) rfl
theorem tp_87 : (.selects RX12 yX12_stands yX12_stands : Cond) ∈ lw_gd := g_mem (List.mem_append_left _ (List.mem_of_getElem? (i := 87) (by decide +kernel))) rfl
theorem tw_1757 : (.instanceMethod yX12_stands : Cond) ∈ lw_gd := g_mem (List.mem_append_right _ (g_k8 (List.mem_of_getElem? (i := 77) rfl))) rfl
theorem tw_1675 : (.methodLink RX12 225 yX12_houseTold : Cond) ∈ lw_gd := g_mem (List.mem_append_right _ (g_k7 (List.mem_of_getElem? (i := 235) rfl))) rfl
theorem tw_1411 : (.fieldLink RX12 21 "ManyOutModel" "rowWord" "[C" : Cond) ∈ lw_gd := g_mem (List.mem_append_right _ (g_k6 (List.mem_of_getElem? (i := 211) rfl))) rfl
theorem tw_1412 : (.fieldLink RX12 24 "ManyOutModel" "wordWord" "[C" : Cond) ∈ lw_gd := g_mem (List.mem_append_right _ (g_k6 (List.mem_of_getElem? (i := 212) rfl))) rfl
theorem tw_1414 : (.fieldLink RX12 30 "ManyOutModel" "limitWord" "[C" : Cond) ∈ lw_gd := g_mem (List.mem_append_right _ (g_k6 (List.mem_of_getElem? (i := 214) rfl))) rfl
theorem tw_1413 : (.fieldLink RX12 27 "ManyOutModel" "worthWord" "[C" : Cond) ∈ lw_gd := g_mem (List.mem_append_right _ (g_k6 (List.mem_of_getElem? (i := 213) rfl))) rfl
theorem tw_1691 : (.methodLink RX12 216 yX12_worthTold : Cond) ∈ lw_gd := g_mem (List.mem_append_right _ (g_k8 (List.mem_of_getElem? (i := 11) rfl))) rfl
theorem tw_1438 : (.fieldLink RX12 259 "ManyOutModel" "waits" "I" : Cond) ∈ lw_gd := g_mem (List.mem_append_right _ (g_k6 (List.mem_of_getElem? (i := 238) rfl))) rfl
theorem tw_1439 : (.fieldLink RX12 256 "ManyOutModel" "open" "I" : Cond) ∈ lw_gd := g_mem (List.mem_append_right _ (g_k6 (List.mem_of_getElem? (i := 239) rfl))) rfl
theorem tw_1444 : (.fieldLink RX12 265 "ManyOutModel" "base" "I" : Cond) ∈ lw_gd := g_mem (List.mem_append_right _ (g_k7 (List.mem_of_getElem? (i := 4) rfl))) rfl
theorem tw_1695 : (.methodLink RX12 293 yX12_sumsTold : Cond) ∈ lw_gd := g_mem (List.mem_append_right _ (g_k8 (List.mem_of_getElem? (i := 15) rfl))) rfl
theorem tw_1699 : (.methodLink RX12 286 yX12_onePart : Cond) ∈ lw_gd := g_mem (List.mem_append_right _ (g_k8 (List.mem_of_getElem? (i := 19) rfl))) rfl
theorem tw_1420 : (.fieldLink RX12 48 "ManyOutModel" "senderWord" "[C" : Cond) ∈ lw_gd := g_mem (List.mem_append_right _ (g_k6 (List.mem_of_getElem? (i := 220) rfl))) rfl
theorem tw_1421 : (.fieldLink RX12 51 "ManyOutModel" "squareWord" "[C" : Cond) ∈ lw_gd := g_mem (List.mem_append_right _ (g_k6 (List.mem_of_getElem? (i := 221) rfl))) rfl
theorem tw_1422 : (.fieldLink RX12 54 "ManyOutModel" "peakWord" "[C" : Cond) ∈ lw_gd := g_mem (List.mem_append_right _ (g_k6 (List.mem_of_getElem? (i := 222) rfl))) rfl
theorem tw_1707 : (.methodLink RX12 262 yX12_lay : Cond) ∈ lw_gd := g_mem (List.mem_append_right _ (g_k8 (List.mem_of_getElem? (i := 27) rfl))) rfl
theorem tw_1710 : (.code yX12_lay cX12_lay 2 none : Cond) ∈ lw_gd := g_mem (List.mem_append_right _ (g_k8 (List.mem_of_getElem? (i := 30) rfl))) rfl
theorem tp_75 : (.selects RX12 yX12_lay yX12_lay : Cond) ∈ lw_gd := g_mem (List.mem_append_left _ (List.mem_of_getElem? (i := 75) (by decide +kernel))) rfl
theorem tw_1709 : (.instanceMethod yX12_lay : Cond) ∈ lw_gd := g_mem (List.mem_append_right _ (g_k8 (List.mem_of_getElem? (i := 29) rfl))) rfl
theorem tw_1423 : (.fieldLink RX12 57 "ManyOutModel" "minWord" "[C" : Cond) ∈ lw_gd := g_mem (List.mem_append_right _ (g_k6 (List.mem_of_getElem? (i := 223) rfl))) rfl
theorem tw_1703 : (.methodLink RX12 274 yX12_opens : Cond) ∈ lw_gd := g_mem (List.mem_append_right _ (g_k8 (List.mem_of_getElem? (i := 23) rfl))) rfl
theorem tw_1437 : (.fieldLink RX12 78 "ManyOutModel" "wait" "[I" : Cond) ∈ lw_gd := g_mem (List.mem_append_right _ (g_k6 (List.mem_of_getElem? (i := 237) rfl))) rfl
theorem tw_1706 : (.code yX12_opens cX12_opens 3 none : Cond) ∈ lw_gd := g_mem (List.mem_append_right _ (g_k8 (List.mem_of_getElem? (i := 26) rfl))) rfl
theorem tp_74 : (.selects RX12 yX12_opens yX12_opens : Cond) ∈ lw_gd := g_mem (List.mem_append_left _ (List.mem_of_getElem? (i := 74) (by decide +kernel))) rfl
theorem tw_1705 : (.instanceMethod yX12_opens : Cond) ∈ lw_gd := g_mem (List.mem_append_right _ (g_k8 (List.mem_of_getElem? (i := 25) rfl))) rfl
theorem tw_1424 : (.fieldLink RX12 60 "ManyOutModel" "maxWord" "[C" : Cond) ∈ lw_gd := g_mem (List.mem_append_right _ (g_k6 (List.mem_of_getElem? (i := 224) rfl))) rfl
theorem tw_1683 : (.methodLink RX12 199 yX12_signed : Cond) ∈ lw_gd := g_mem (List.mem_append_right _ (g_k8 (List.mem_of_getElem? (i := 3) rfl))) rfl
theorem tw_1686 : (.code yX12_signed cX12_signed 6 (some .int) : Cond) ∈ lw_gd := g_mem (List.mem_append_right _ (g_k8 (List.mem_of_getElem? (i := 6) rfl))) rfl
theorem tp_69 : (.selects RX12 yX12_signed yX12_signed : Cond) ∈ lw_gd := g_mem (List.mem_append_left _ (List.mem_of_getElem? (i := 69) (by decide +kernel))) rfl
theorem tw_1685 : (.instanceMethod yX12_signed : Cond) ∈ lw_gd := g_mem (List.mem_append_right _ (g_k8 (List.mem_of_getElem? (i := 5) rfl))) rfl
theorem tw_1731 : (.methodLink RX12 283 yX12_isOn : Cond) ∈ lw_gd := g_mem (List.mem_append_right _ (g_k8 (List.mem_of_getElem? (i := 51) rfl))) rfl
theorem tw_1734 : (.code yX12_isOn cX12_isOn 2 (some .boolean) : Cond) ∈ lw_gd := g_mem (List.mem_append_right _ (g_k8 (List.mem_of_getElem? (i := 54) rfl))) rfl
theorem tp_81 : (.selects RX12 yX12_isOn yX12_isOn : Cond) ∈ lw_gd := g_mem (List.mem_append_left _ (List.mem_of_getElem? (i := 81) (by decide +kernel))) rfl
theorem tw_1733 : (.instanceMethod yX12_isOn : Cond) ∈ lw_gd := g_mem (List.mem_append_right _ (g_k8 (List.mem_of_getElem? (i := 53) rfl))) rfl
theorem tw_1727 : (.methodLink RX12 271 yX12_drops : Cond) ∈ lw_gd := g_mem (List.mem_append_right _ (g_k8 (List.mem_of_getElem? (i := 47) rfl))) rfl
theorem tw_1730 : (.code yX12_drops cX12_drops 1 none : Cond) ∈ lw_gd := g_mem (List.mem_append_right _ (g_k8 (List.mem_of_getElem? (i := 50) rfl))) rfl
theorem tp_80 : (.selects RX12 yX12_drops yX12_drops : Cond) ∈ lw_gd := g_mem (List.mem_append_left _ (List.mem_of_getElem? (i := 80) (by decide +kernel))) rfl
theorem tw_1729 : (.instanceMethod yX12_drops : Cond) ∈ lw_gd := g_mem (List.mem_append_right _ (g_k8 (List.mem_of_getElem? (i := 49) rfl))) rfl
theorem tw_1719 : (.methodLink RX12 268 yX12_isMark : Cond) ∈ lw_gd := g_mem (List.mem_append_right _ (g_k8 (List.mem_of_getElem? (i := 39) rfl))) rfl
theorem tw_1722 : (.code yX12_isMark cX12_isMark 2 (some .boolean) : Cond) ∈ lw_gd := g_mem (List.mem_append_right _ (g_k8 (List.mem_of_getElem? (i := 42) rfl))) rfl
theorem tp_78 : (.selects RX12 yX12_isMark yX12_isMark : Cond) ∈ lw_gd := g_mem (List.mem_append_left _ (List.mem_of_getElem? (i := 78) (by decide +kernel))) rfl
theorem tw_1721 : (.instanceMethod yX12_isMark : Cond) ∈ lw_gd := g_mem (List.mem_append_right _ (g_k8 (List.mem_of_getElem? (i := 41) rfl))) rfl
theorem tw_1419 : (.fieldLink RX12 45 "ManyOutModel" "allWord" "[C" : Cond) ∈ lw_gd := g_mem (List.mem_append_right _ (g_k6 (List.mem_of_getElem? (i := 219) rfl))) rfl
theorem tw_1417 : (.fieldLink RX12 39 "ManyOutModel" "andWord" "[C" : Cond) ∈ lw_gd := g_mem (List.mem_append_right _ (g_k6 (List.mem_of_getElem? (i := 217) rfl))) rfl
theorem tw_1416 : (.fieldLink RX12 36 "ManyOutModel" "orWord" "[C" : Cond) ∈ lw_gd := g_mem (List.mem_append_right _ (g_k6 (List.mem_of_getElem? (i := 216) rfl))) rfl
theorem tw_1751 : (.methodLink RX12 305 yX12_hasSquare : Cond) ∈ lw_gd := g_mem (List.mem_append_right _ (g_k8 (List.mem_of_getElem? (i := 71) rfl))) rfl
theorem tw_1754 : (.code yX12_hasSquare cX12_hasSquare 2 (some .boolean) : Cond) ∈ lw_gd := g_mem (List.mem_append_right _ (g_k8 (List.mem_of_getElem? (i := 74) rfl))) rfl
theorem tp_86 : (.selects RX12 yX12_hasSquare yX12_hasSquare : Cond) ∈ lw_gd := g_mem (List.mem_append_left _ (List.mem_of_getElem? (i := 86) (by decide +kernel))) rfl
theorem tw_1753 : (.instanceMethod yX12_hasSquare : Cond) ∈ lw_gd := g_mem (List.mem_append_right _ (g_k8 (List.mem_of_getElem? (i := 73) rfl))) rfl
theorem tw_1775 : (.methodLink RX12 358 yX12_isReceiver : Cond) ∈ lw_gd := g_mem (List.mem_append_right _ (g_k8 (List.mem_of_getElem? (i := 95) rfl))) rfl
theorem tw_1778 : (.code yX12_isReceiver cX12_isReceiver 2 (some .boolean) : Cond) ∈ lw_gd := g_mem (List.mem_append_right _ (g_k8 (List.mem_of_getElem? (i := 98) rfl))) rfl
theorem tp_89 : (.selects RX12 yX12_isReceiver yX12_isReceiver : Cond) ∈ lw_gd := g_mem (List.mem_append_left _ (List.mem_of_getElem? (i := 89) (by decide +kernel))) rfl
theorem tw_1777 : (.instanceMethod yX12_isReceiver : Cond) ∈ lw_gd := g_mem (List.mem_append_right _ (g_k8 (List.mem_of_getElem? (i := 97) rfl))) rfl
theorem tw_1783 : (.constant RX12 364 (-1000000000) : Cond) ∈ lw_gd := g_mem (List.mem_append_right _ (g_k8 (List.mem_of_getElem? (i := 103) rfl))) rfl
theorem tw_1779 : (.methodLink RX12 361 yX12_isSender : Cond) ∈ lw_gd := g_mem (List.mem_append_right _ (g_k8 (List.mem_of_getElem? (i := 99) rfl))) rfl
theorem tw_1782 : (.code yX12_isSender cX12_isSender 2 (some .boolean) : Cond) ∈ lw_gd := g_mem (List.mem_append_right _ (g_k8 (List.mem_of_getElem? (i := 102) rfl))) rfl
theorem tp_90 : (.selects RX12 yX12_isSender yX12_isSender : Cond) ∈ lw_gd := g_mem (List.mem_append_left _ (List.mem_of_getElem? (i := 90) (by decide +kernel))) rfl
theorem tw_1781 : (.instanceMethod yX12_isSender : Cond) ∈ lw_gd := g_mem (List.mem_append_right _ (g_k8 (List.mem_of_getElem? (i := 101) rfl))) rfl
theorem tw_1788 : (.methodLink RX12 334 yX12_productOf : Cond) ∈ lw_gd := g_mem (List.mem_append_right _ (g_k8 (List.mem_of_getElem? (i := 108) rfl))) rfl
theorem tw_1791 : (.code yX12_productOf cX12_productOf 6 (some .int) : Cond) ∈ lw_gd := g_mem (List.mem_append_right _ (g_k8 (List.mem_of_getElem? (i := 111) rfl))) rfl
theorem tp_91 : (.selects RX12 yX12_productOf yX12_productOf : Cond) ∈ lw_gd := g_mem (List.mem_append_left _ (List.mem_of_getElem? (i := 91) (by decide +kernel))) rfl
theorem tw_1790 : (.instanceMethod yX12_productOf : Cond) ∈ lw_gd := g_mem (List.mem_append_right _ (g_k8 (List.mem_of_getElem? (i := 110) rfl))) rfl
theorem tw_1796 : (.methodLink RX12 367 yX12_clashOf : Cond) ∈ lw_gd := g_mem (List.mem_append_right _ (g_k8 (List.mem_of_getElem? (i := 116) rfl))) rfl
theorem tw_1800 : (.constantLong RX12 365 (1000) : Cond) ∈ lw_gd := g_mem (List.mem_append_right _ (g_k8 (List.mem_of_getElem? (i := 120) rfl))) rfl
theorem tw_1799 : (.code yX12_clashOf cX12_clashOf 10 (some .int) : Cond) ∈ lw_gd := g_mem (List.mem_append_right _ (g_k8 (List.mem_of_getElem? (i := 119) rfl))) rfl
theorem tp_92 : (.selects RX12 yX12_clashOf yX12_clashOf : Cond) ∈ lw_gd := g_mem (List.mem_append_left _ (List.mem_of_getElem? (i := 92) (by decide +kernel))) rfl
theorem tw_1798 : (.instanceMethod yX12_clashOf : Cond) ∈ lw_gd := g_mem (List.mem_append_right _ (g_k8 (List.mem_of_getElem? (i := 118) rfl))) rfl
theorem tw_1809 : (.constant RX12 370 (65536) : Cond) ∈ lw_gd := g_mem (List.mem_append_right _ (g_k8 (List.mem_of_getElem? (i := 129) rfl))) rfl
theorem tw_1818 : (.methodLink RX12 377 yX12_isRowTold : Cond) ∈ lw_gd := g_mem (List.mem_append_right _ (g_k8 (List.mem_of_getElem? (i := 138) rfl))) rfl
theorem tw_1449 : (.fieldLink RX12 103 "ManyOutModel" "row" "[I" : Cond) ∈ lw_gd := g_mem (List.mem_append_right _ (g_k7 (List.mem_of_getElem? (i := 9) rfl))) rfl
theorem tw_1822 : (.methodLink RX12 371 yX12_isLetterOf : Cond) ∈ lw_gd := g_mem (List.mem_append_right _ (g_k8 (List.mem_of_getElem? (i := 142) rfl))) rfl
theorem tw_1825 : (.code yX12_isLetterOf cX12_isLetterOf 2 (some .boolean) : Cond) ∈ lw_gd := g_mem (List.mem_append_right _ (g_k8 (List.mem_of_getElem? (i := 145) rfl))) rfl
theorem tp_94 : (.selects RX12 yX12_isLetterOf yX12_isLetterOf : Cond) ∈ lw_gd := g_mem (List.mem_append_left _ (List.mem_of_getElem? (i := 94) (by decide +kernel))) rfl
theorem tw_1824 : (.instanceMethod yX12_isLetterOf : Cond) ∈ lw_gd := g_mem (List.mem_append_right _ (g_k8 (List.mem_of_getElem? (i := 144) rfl))) rfl
theorem tw_1821 : (.code yX12_isRowTold cX12_isRowTold 3 (some .boolean) : Cond) ∈ lw_gd := g_mem (List.mem_append_right _ (g_k8 (List.mem_of_getElem? (i := 141) rfl))) rfl
theorem tp_93 : (.selects RX12 yX12_isRowTold yX12_isRowTold : Cond) ∈ lw_gd := g_mem (List.mem_append_left _ (List.mem_of_getElem? (i := 93) (by decide +kernel))) rfl
theorem tw_1820 : (.instanceMethod yX12_isRowTold : Cond) ∈ lw_gd := g_mem (List.mem_append_right _ (g_k8 (List.mem_of_getElem? (i := 140) rfl))) rfl
theorem tw_1826 : (.methodLink RX12 374 yX12_sentTo : Cond) ∈ lw_gd := g_mem (List.mem_append_right _ (g_k8 (List.mem_of_getElem? (i := 146) rfl))) rfl
theorem tw_1829 : (.code yX12_sentTo cX12_sentTo 4 (some .int) : Cond) ∈ lw_gd := g_mem (List.mem_append_right _ (g_k8 (List.mem_of_getElem? (i := 149) rfl))) rfl
theorem tp_95 : (.selects RX12 yX12_sentTo yX12_sentTo : Cond) ∈ lw_gd := g_mem (List.mem_append_left _ (List.mem_of_getElem? (i := 95) (by decide +kernel))) rfl
theorem tw_1828 : (.instanceMethod yX12_sentTo : Cond) ∈ lw_gd := g_mem (List.mem_append_right _ (g_k8 (List.mem_of_getElem? (i := 148) rfl))) rfl
theorem tw_1838 : (.constantLong RX12 384 (-1) : Cond) ∈ lw_gd := g_mem (List.mem_append_right _ (g_k8 (List.mem_of_getElem? (i := 158) rfl))) rfl
theorem tw_1834 : (.methodLink RX12 380 yX12_squaresLess : Cond) ∈ lw_gd := g_mem (List.mem_append_right _ (g_k8 (List.mem_of_getElem? (i := 154) rfl))) rfl
theorem tw_1837 : (.code yX12_squaresLess cX12_squaresLess 7 (some .long) : Cond) ∈ lw_gd := g_mem (List.mem_append_right _ (g_k8 (List.mem_of_getElem? (i := 157) rfl))) rfl
theorem tp_96 : (.selects RX12 yX12_squaresLess yX12_squaresLess : Cond) ∈ lw_gd := g_mem (List.mem_append_left _ (List.mem_of_getElem? (i := 96) (by decide +kernel))) rfl
theorem tw_1836 : (.instanceMethod yX12_squaresLess : Cond) ∈ lw_gd := g_mem (List.mem_append_right _ (g_k8 (List.mem_of_getElem? (i := 156) rfl))) rfl
theorem tw_1843 : (.constantLong RX12 398 (9999) : Cond) ∈ lw_gd := g_mem (List.mem_append_right _ (g_k8 (List.mem_of_getElem? (i := 163) rfl))) rfl
theorem tw_1450 : (.fieldLink RX12 388 "ManyOutModel" "seeded" "J" : Cond) ∈ lw_gd := g_mem (List.mem_append_right _ (g_k7 (List.mem_of_getElem? (i := 10) rfl))) rfl
theorem tw_1844 : (.methodLink RX12 400 yX12_drawOf : Cond) ∈ lw_gd := g_mem (List.mem_append_right _ (g_k8 (List.mem_of_getElem? (i := 164) rfl))) rfl
theorem tw_1848 : (.constantLong RX12 386 (1103515245) : Cond) ∈ lw_gd := g_mem (List.mem_append_right _ (g_k8 (List.mem_of_getElem? (i := 168) rfl))) rfl
theorem tw_1849 : (.constantLong RX12 392 (12345) : Cond) ∈ lw_gd := g_mem (List.mem_append_right _ (g_k8 (List.mem_of_getElem? (i := 169) rfl))) rfl
theorem tw_1850 : (.constantLong RX12 394 (2147483648) : Cond) ∈ lw_gd := g_mem (List.mem_append_right _ (g_k8 (List.mem_of_getElem? (i := 170) rfl))) rfl
theorem tw_1851 : (.constantLong RX12 396 (64) : Cond) ∈ lw_gd := g_mem (List.mem_append_right _ (g_k8 (List.mem_of_getElem? (i := 171) rfl))) rfl
theorem tw_1847 : (.code yX12_drawOf cX12_drawOf 2 (some .int) : Cond) ∈ lw_gd := g_mem (List.mem_append_right _ (g_k8 (List.mem_of_getElem? (i := 167) rfl))) rfl
theorem tp_97 : (.selects RX12 yX12_drawOf yX12_drawOf : Cond) ∈ lw_gd := g_mem (List.mem_append_left _ (List.mem_of_getElem? (i := 97) (by decide +kernel))) rfl
theorem tw_1846 : (.instanceMethod yX12_drawOf : Cond) ∈ lw_gd := g_mem (List.mem_append_right _ (g_k8 (List.mem_of_getElem? (i := 166) rfl))) rfl
theorem tw_1856 : (.methodLink RX12 416 yX12_isNear : Cond) ∈ lw_gd := g_mem (List.mem_append_right _ (g_k8 (List.mem_of_getElem? (i := 176) rfl))) rfl
theorem tw_1860 : (.constantLong RX12 332 (9) : Cond) ∈ lw_gd := g_mem (List.mem_append_right _ (g_k8 (List.mem_of_getElem? (i := 180) rfl))) rfl
theorem tw_1861 : (.methodLink RX12 413 yX12_nears : Cond) ∈ lw_gd := g_mem (List.mem_append_right _ (g_k8 (List.mem_of_getElem? (i := 181) rfl))) rfl
theorem tw_1865 : (.methodLink RX12 406 yX12_rowMany : Cond) ∈ lw_gd := g_mem (List.mem_append_right _ (g_k8 (List.mem_of_getElem? (i := 185) rfl))) rfl
theorem tw_1868 : (.code yX12_rowMany cX12_rowMany 3 (some .int) : Cond) ∈ lw_gd := g_mem (List.mem_append_right _ (g_k8 (List.mem_of_getElem? (i := 188) rfl))) rfl
theorem tp_100 : (.selects RX12 yX12_rowMany yX12_rowMany : Cond) ∈ lw_gd := g_mem (List.mem_append_left _ (List.mem_of_getElem? (i := 100) (by decide +kernel))) rfl
theorem tw_1867 : (.instanceMethod yX12_rowMany : Cond) ∈ lw_gd := g_mem (List.mem_append_right _ (g_k8 (List.mem_of_getElem? (i := 187) rfl))) rfl
theorem tw_1869 : (.methodLink RX12 409 yX12_distanceOf : Cond) ∈ lw_gd := g_mem (List.mem_append_right _ (g_k8 (List.mem_of_getElem? (i := 189) rfl))) rfl
theorem tw_1873 : (.methodLink RX12 403 yX12_rowIs : Cond) ∈ lw_gd := g_mem (List.mem_append_right _ (g_k8 (List.mem_of_getElem? (i := 193) rfl))) rfl
theorem tw_1876 : (.code yX12_rowIs cX12_rowIs 4 none : Cond) ∈ lw_gd := g_mem (List.mem_append_right _ (g_k8 (List.mem_of_getElem? (i := 196) rfl))) rfl
theorem tp_102 : (.selects RX12 yX12_rowIs yX12_rowIs : Cond) ∈ lw_gd := g_mem (List.mem_append_left _ (List.mem_of_getElem? (i := 102) (by decide +kernel))) rfl
theorem tw_1875 : (.instanceMethod yX12_rowIs : Cond) ∈ lw_gd := g_mem (List.mem_append_right _ (g_k8 (List.mem_of_getElem? (i := 195) rfl))) rfl
theorem tw_1872 : (.code yX12_distanceOf cX12_distanceOf 2 (some .long) : Cond) ∈ lw_gd := g_mem (List.mem_append_right _ (g_k8 (List.mem_of_getElem? (i := 192) rfl))) rfl
theorem tp_101 : (.selects RX12 yX12_distanceOf yX12_distanceOf : Cond) ∈ lw_gd := g_mem (List.mem_append_left _ (List.mem_of_getElem? (i := 101) (by decide +kernel))) rfl
theorem tw_1871 : (.instanceMethod yX12_distanceOf : Cond) ∈ lw_gd := g_mem (List.mem_append_right _ (g_k8 (List.mem_of_getElem? (i := 191) rfl))) rfl
theorem tw_1451 : (.fieldLink RX12 106 "ManyOutModel" "bestFar" "[J" : Cond) ∈ lw_gd := g_mem (List.mem_append_right _ (g_k7 (List.mem_of_getElem? (i := 11) rfl))) rfl
theorem tw_1452 : (.fieldLink RX12 109 "ManyOutModel" "bestRow" "[I" : Cond) ∈ lw_gd := g_mem (List.mem_append_right _ (g_k7 (List.mem_of_getElem? (i := 12) rfl))) rfl
theorem tw_1864 : (.code yX12_nears cX12_nears 7 (some .int) : Cond) ∈ lw_gd := g_mem (List.mem_append_right _ (g_k8 (List.mem_of_getElem? (i := 184) rfl))) rfl
theorem tp_99 : (.selects RX12 yX12_nears yX12_nears : Cond) ∈ lw_gd := g_mem (List.mem_append_left _ (List.mem_of_getElem? (i := 99) (by decide +kernel))) rfl
theorem tw_1863 : (.instanceMethod yX12_nears : Cond) ∈ lw_gd := g_mem (List.mem_append_right _ (g_k8 (List.mem_of_getElem? (i := 183) rfl))) rfl
theorem tw_1859 : (.code yX12_isNear cX12_isNear 2 (some .boolean) : Cond) ∈ lw_gd := g_mem (List.mem_append_right _ (g_k8 (List.mem_of_getElem? (i := 179) rfl))) rfl
theorem tp_98 : (.selects RX12 yX12_isNear yX12_isNear : Cond) ∈ lw_gd := g_mem (List.mem_append_left _ (List.mem_of_getElem? (i := 98) (by decide +kernel))) rfl
theorem tw_1858 : (.instanceMethod yX12_isNear : Cond) ∈ lw_gd := g_mem (List.mem_append_right _ (g_k8 (List.mem_of_getElem? (i := 178) rfl))) rfl
theorem tw_1889 : (.methodLink RX12 426 yX12_cancels : Cond) ∈ lw_gd := g_mem (List.mem_append_right _ (g_k8 (List.mem_of_getElem? (i := 209) rfl))) rfl
theorem tw_1893 : (.methodLink RX12 419 yX12_orders : Cond) ∈ lw_gd := g_mem (List.mem_append_right _ (g_k8 (List.mem_of_getElem? (i := 213) rfl))) rfl
theorem tw_1453 : (.fieldLink RX12 112 "ManyOutModel" "turnOf" "[I" : Cond) ∈ lw_gd := g_mem (List.mem_append_right _ (g_k7 (List.mem_of_getElem? (i := 13) rfl))) rfl
theorem tw_1896 : (.code yX12_orders cX12_orders 6 none : Cond) ∈ lw_gd := g_mem (List.mem_append_right _ (g_k8 (List.mem_of_getElem? (i := 216) rfl))) rfl
theorem tp_104 : (.selects RX12 yX12_orders yX12_orders : Cond) ∈ lw_gd := g_mem (List.mem_append_left _ (List.mem_of_getElem? (i := 104) (by decide +kernel))) rfl
theorem tw_1895 : (.instanceMethod yX12_orders : Cond) ∈ lw_gd := g_mem (List.mem_append_right _ (g_k8 (List.mem_of_getElem? (i := 215) rfl))) rfl
theorem tw_1454 : (.fieldLink RX12 115 "ManyOutModel" "found" "[I" : Cond) ∈ lw_gd := g_mem (List.mem_append_right _ (g_k7 (List.mem_of_getElem? (i := 14) rfl))) rfl
theorem tw_1897 : (.methodLink RX12 422 yX12_restBy : Cond) ∈ lw_gd := g_mem (List.mem_append_right _ (g_k8 (List.mem_of_getElem? (i := 217) rfl))) rfl
theorem tw_1455 : (.fieldLink RX12 118 "ManyOutModel" "rest" "[J" : Cond) ∈ lw_gd := g_mem (List.mem_append_right _ (g_k7 (List.mem_of_getElem? (i := 15) rfl))) rfl
theorem tw_1900 : (.code yX12_restBy cX12_restBy 8 (some .long) : Cond) ∈ lw_gd := g_mem (List.mem_append_right _ (g_k8 (List.mem_of_getElem? (i := 220) rfl))) rfl
theorem tp_105 : (.selects RX12 yX12_restBy yX12_restBy : Cond) ∈ lw_gd := g_mem (List.mem_append_left _ (List.mem_of_getElem? (i := 105) (by decide +kernel))) rfl
theorem tw_1899 : (.instanceMethod yX12_restBy : Cond) ∈ lw_gd := g_mem (List.mem_append_right _ (g_k8 (List.mem_of_getElem? (i := 219) rfl))) rfl
theorem tw_1892 : (.code yX12_cancels cX12_cancels 5 none : Cond) ∈ lw_gd := g_mem (List.mem_append_right _ (g_k8 (List.mem_of_getElem? (i := 212) rfl))) rfl
theorem tp_103 : (.selects RX12 yX12_cancels yX12_cancels : Cond) ∈ lw_gd := g_mem (List.mem_append_left _ (List.mem_of_getElem? (i := 103) (by decide +kernel))) rfl
theorem tw_1891 : (.instanceMethod yX12_cancels : Cond) ∈ lw_gd := g_mem (List.mem_append_right _ (g_k8 (List.mem_of_getElem? (i := 211) rfl))) rfl
theorem tw_1917 : (.constantLong RX12 429 (1000000000) : Cond) ∈ lw_gd := g_mem (List.mem_append_right _ (g_k8 (List.mem_of_getElem? (i := 237) rfl))) rfl
theorem tw_1926 : (.constantLong RX12 440 (100) : Cond) ∈ lw_gd := g_mem (List.mem_append_right _ (g_k9 (List.mem_of_getElem? (i := 6) rfl))) rfl
theorem tw_1927 : (.methodLink RX12 442 yX12_isStep : Cond) ∈ lw_gd := g_mem (List.mem_append_right _ (g_k9 (List.mem_of_getElem? (i := 7) rfl))) rfl
theorem tw_1931 : (.methodLink RX12 433 yX12_nearestTo : Cond) ∈ lw_gd := g_mem (List.mem_append_right _ (g_k9 (List.mem_of_getElem? (i := 11) rfl))) rfl
theorem tw_1934 : (.constantLong RX12 431 (2) : Cond) ∈ lw_gd := g_mem (List.mem_append_right _ (g_k9 (List.mem_of_getElem? (i := 14) rfl))) rfl
theorem tw_1933 : (.code yX12_nearestTo cX12_nearestTo 4 (some .int) : Cond) ∈ lw_gd := g_mem (List.mem_append_right _ (g_k9 (List.mem_of_getElem? (i := 13) rfl))) rfl
theorem tw_1932 : (.static yX12_nearestTo : Cond) ∈ lw_gd := g_mem (List.mem_append_right _ (g_k9 (List.mem_of_getElem? (i := 12) rfl))) rfl
theorem tw_1935 : (.methodLink RX12 436 yX12_goes : Cond) ∈ lw_gd := g_mem (List.mem_append_right _ (g_k9 (List.mem_of_getElem? (i := 15) rfl))) rfl
theorem tw_1938 : (.code yX12_goes cX12_goes 5 none : Cond) ∈ lw_gd := g_mem (List.mem_append_right _ (g_k9 (List.mem_of_getElem? (i := 18) rfl))) rfl
theorem tp_107 : (.selects RX12 yX12_goes yX12_goes : Cond) ∈ lw_gd := g_mem (List.mem_append_left _ (List.mem_of_getElem? (i := 107) (by decide +kernel))) rfl
theorem tw_1937 : (.instanceMethod yX12_goes : Cond) ∈ lw_gd := g_mem (List.mem_append_right _ (g_k9 (List.mem_of_getElem? (i := 17) rfl))) rfl
theorem tw_1457 : (.fieldLink RX12 124 "ManyOutModel" "stepTo" "[I" : Cond) ∈ lw_gd := g_mem (List.mem_append_right _ (g_k7 (List.mem_of_getElem? (i := 17) rfl))) rfl
theorem tw_1458 : (.fieldLink RX12 127 "ManyOutModel" "stepBy" "[I" : Cond) ∈ lw_gd := g_mem (List.mem_append_right _ (g_k7 (List.mem_of_getElem? (i := 18) rfl))) rfl
theorem tw_1459 : (.fieldLink RX12 130 "ManyOutModel" "stepTimes" "[I" : Cond) ∈ lw_gd := g_mem (List.mem_append_right _ (g_k7 (List.mem_of_getElem? (i := 19) rfl))) rfl
theorem tw_1930 : (.code yX12_isStep cX12_isStep 5 (some .boolean) : Cond) ∈ lw_gd := g_mem (List.mem_append_right _ (g_k9 (List.mem_of_getElem? (i := 10) rfl))) rfl
theorem tp_106 : (.selects RX12 yX12_isStep yX12_isStep : Cond) ∈ lw_gd := g_mem (List.mem_append_left _ (List.mem_of_getElem? (i := 106) (by decide +kernel))) rfl
theorem tw_1929 : (.instanceMethod yX12_isStep : Cond) ∈ lw_gd := g_mem (List.mem_append_right _ (g_k9 (List.mem_of_getElem? (i := 9) rfl))) rfl
theorem tw_1955 : (.constantLong RX12 445 (-1000000000) : Cond) ∈ lw_gd := g_mem (List.mem_append_right _ (g_k9 (List.mem_of_getElem? (i := 35) rfl))) rfl
theorem tw_1964 : (.methodLink RX12 454 yX12_areSenders : Cond) ∈ lw_gd := g_mem (List.mem_append_right _ (g_k9 (List.mem_of_getElem? (i := 44) rfl))) rfl
theorem tw_1967 : (.code yX12_areSenders cX12_areSenders 2 (some .boolean) : Cond) ∈ lw_gd := g_mem (List.mem_append_right _ (g_k9 (List.mem_of_getElem? (i := 47) rfl))) rfl
theorem tp_108 : (.selects RX12 yX12_areSenders yX12_areSenders : Cond) ∈ lw_gd := g_mem (List.mem_append_left _ (List.mem_of_getElem? (i := 108) (by decide +kernel))) rfl
theorem tw_1966 : (.instanceMethod yX12_areSenders : Cond) ∈ lw_gd := g_mem (List.mem_append_right _ (g_k9 (List.mem_of_getElem? (i := 46) rfl))) rfl
theorem tw_1968 : (.methodLink RX12 457 yX12_isLeast : Cond) ∈ lw_gd := g_mem (List.mem_append_right _ (g_k9 (List.mem_of_getElem? (i := 48) rfl))) rfl
theorem tw_1463 : (.fieldLink RX12 447 "ManyOutModel" "bestSum" "J" : Cond) ∈ lw_gd := g_mem (List.mem_append_right _ (g_k7 (List.mem_of_getElem? (i := 23) rfl))) rfl
theorem tw_1972 : (.methodLink RX12 450 yX12_isNext : Cond) ∈ lw_gd := g_mem (List.mem_append_right _ (g_k9 (List.mem_of_getElem? (i := 52) rfl))) rfl
theorem tw_1975 : (.code yX12_isNext cX12_isNext 5 (some .boolean) : Cond) ∈ lw_gd := g_mem (List.mem_append_right _ (g_k9 (List.mem_of_getElem? (i := 55) rfl))) rfl
theorem tp_110 : (.selects RX12 yX12_isNext yX12_isNext : Cond) ∈ lw_gd := g_mem (List.mem_append_left _ (List.mem_of_getElem? (i := 110) (by decide +kernel))) rfl
theorem tw_1974 : (.instanceMethod yX12_isNext : Cond) ∈ lw_gd := g_mem (List.mem_append_right _ (g_k9 (List.mem_of_getElem? (i := 54) rfl))) rfl
theorem tw_1988 : (.constantLong RX12 460 (3) : Cond) ∈ lw_gd := g_mem (List.mem_append_right _ (g_k9 (List.mem_of_getElem? (i := 68) rfl))) rfl
theorem tw_1989 : (.methodLink RX12 462 yX12_power : Cond) ∈ lw_gd := g_mem (List.mem_append_right _ (g_k9 (List.mem_of_getElem? (i := 69) rfl))) rfl
theorem tw_1992 : (.code yX12_power cX12_power 4 (some .int) : Cond) ∈ lw_gd := g_mem (List.mem_append_right _ (g_k9 (List.mem_of_getElem? (i := 72) rfl))) rfl
theorem tp_111 : (.selects RX12 yX12_power yX12_power : Cond) ∈ lw_gd := g_mem (List.mem_append_left _ (List.mem_of_getElem? (i := 111) (by decide +kernel))) rfl
theorem tw_1991 : (.instanceMethod yX12_power : Cond) ∈ lw_gd := g_mem (List.mem_append_right _ (g_k9 (List.mem_of_getElem? (i := 71) rfl))) rfl
theorem tw_1993 : (.methodLink RX12 465 yX12_apartOf : Cond) ∈ lw_gd := g_mem (List.mem_append_right _ (g_k9 (List.mem_of_getElem? (i := 73) rfl))) rfl
theorem tw_1996 : (.code yX12_apartOf cX12_apartOf 4 (some .long) : Cond) ∈ lw_gd := g_mem (List.mem_append_right _ (g_k9 (List.mem_of_getElem? (i := 76) rfl))) rfl
theorem tp_112 : (.selects RX12 yX12_apartOf yX12_apartOf : Cond) ∈ lw_gd := g_mem (List.mem_append_left _ (List.mem_of_getElem? (i := 112) (by decide +kernel))) rfl
theorem tw_1995 : (.instanceMethod yX12_apartOf : Cond) ∈ lw_gd := g_mem (List.mem_append_right _ (g_k9 (List.mem_of_getElem? (i := 75) rfl))) rfl
theorem tw_2001 : (.methodLink RX12 468 yX12_leastWithout : Cond) ∈ lw_gd := g_mem (List.mem_append_right _ (g_k9 (List.mem_of_getElem? (i := 81) rfl))) rfl
theorem tw_2004 : (.code yX12_leastWithout cX12_leastWithout 8 (some .long) : Cond) ∈ lw_gd := g_mem (List.mem_append_right _ (g_k9 (List.mem_of_getElem? (i := 84) rfl))) rfl
theorem tp_113 : (.selects RX12 yX12_leastWithout yX12_leastWithout : Cond) ∈ lw_gd := g_mem (List.mem_append_left _ (List.mem_of_getElem? (i := 113) (by decide +kernel))) rfl
theorem tw_2003 : (.instanceMethod yX12_leastWithout : Cond) ∈ lw_gd := g_mem (List.mem_append_right _ (g_k9 (List.mem_of_getElem? (i := 83) rfl))) rfl
theorem tw_2009 : (.methodLink RX12 471 yX12_isWord : Cond) ∈ lw_gd := g_mem (List.mem_append_right _ (g_k9 (List.mem_of_getElem? (i := 89) rfl))) rfl
theorem tw_2012 : (.code yX12_isWord cX12_isWord 2 (some .boolean) : Cond) ∈ lw_gd := g_mem (List.mem_append_right _ (g_k9 (List.mem_of_getElem? (i := 92) rfl))) rfl
theorem tp_114 : (.selects RX12 yX12_isWord yX12_isWord : Cond) ∈ lw_gd := g_mem (List.mem_append_left _ (List.mem_of_getElem? (i := 114) (by decide +kernel))) rfl
theorem tw_2011 : (.instanceMethod yX12_isWord : Cond) ∈ lw_gd := g_mem (List.mem_append_right _ (g_k9 (List.mem_of_getElem? (i := 91) rfl))) rfl
theorem tw_2013 : (.methodLink RX12 474 yX12_numberOf : Cond) ∈ lw_gd := g_mem (List.mem_append_right _ (g_k9 (List.mem_of_getElem? (i := 93) rfl))) rfl
theorem tw_2016 : (.code yX12_numberOf cX12_numberOf 4 (some .int) : Cond) ∈ lw_gd := g_mem (List.mem_append_right _ (g_k9 (List.mem_of_getElem? (i := 96) rfl))) rfl
theorem tp_115 : (.selects RX12 yX12_numberOf yX12_numberOf : Cond) ∈ lw_gd := g_mem (List.mem_append_left _ (List.mem_of_getElem? (i := 115) (by decide +kernel))) rfl
theorem tw_2015 : (.instanceMethod yX12_numberOf : Cond) ∈ lw_gd := g_mem (List.mem_append_right _ (g_k9 (List.mem_of_getElem? (i := 95) rfl))) rfl
theorem tw_2029 : (.methodLink RX12 477 yX12_aheadOf : Cond) ∈ lw_gd := g_mem (List.mem_append_right _ (g_k9 (List.mem_of_getElem? (i := 109) rfl))) rfl
theorem tw_1467 : (.fieldLink RX12 139 "ManyOutModel" "asked" "[I" : Cond) ∈ lw_gd := g_mem (List.mem_append_right _ (g_k7 (List.mem_of_getElem? (i := 27) rfl))) rfl
theorem tw_1466 : (.fieldLink RX12 136 "ManyOutModel" "put" "[I" : Cond) ∈ lw_gd := g_mem (List.mem_append_right _ (g_k7 (List.mem_of_getElem? (i := 26) rfl))) rfl
theorem tw_2032 : (.code yX12_aheadOf cX12_aheadOf 9 (some .long) : Cond) ∈ lw_gd := g_mem (List.mem_append_right _ (g_k9 (List.mem_of_getElem? (i := 112) rfl))) rfl
theorem tp_116 : (.selects RX12 yX12_aheadOf yX12_aheadOf : Cond) ∈ lw_gd := g_mem (List.mem_append_left _ (List.mem_of_getElem? (i := 116) (by decide +kernel))) rfl
theorem tw_2031 : (.instanceMethod yX12_aheadOf : Cond) ∈ lw_gd := g_mem (List.mem_append_right _ (g_k9 (List.mem_of_getElem? (i := 111) rfl))) rfl
theorem tw_1468 : (.fieldLink RX12 142 "ManyOutModel" "putAside" "[I" : Cond) ∈ lw_gd := g_mem (List.mem_append_right _ (g_k7 (List.mem_of_getElem? (i := 28) rfl))) rfl
theorem tw_2045 : (.methodLink RX12 481 yX12_worthOf : Cond) ∈ lw_gd := g_mem (List.mem_append_right _ (g_k9 (List.mem_of_getElem? (i := 125) rfl))) rfl
theorem tw_2049 : (.methodLink RX12 345 yX12_told : Cond) ∈ lw_gd := g_mem (List.mem_append_right _ (g_k9 (List.mem_of_getElem? (i := 129) rfl))) rfl
theorem tw_1446 : (.fieldLink RX12 315 "ManyOutModel" "piled" "I" : Cond) ∈ lw_gd := g_mem (List.mem_append_right _ (g_k7 (List.mem_of_getElem? (i := 6) rfl))) rfl
theorem tw_1445 : (.fieldLink RX12 93 "ManyOutModel" "pile" "[J" : Cond) ∈ lw_gd := g_mem (List.mem_append_right _ (g_k7 (List.mem_of_getElem? (i := 5) rfl))) rfl
theorem tw_2057 : (.constantLong RX12 330 (7) : Cond) ∈ lw_gd := g_mem (List.mem_append_right _ (g_k9 (List.mem_of_getElem? (i := 137) rfl))) rfl
theorem tw_2062 : (.methodLink RX12 342 yX12_joins : Cond) ∈ lw_gd := g_mem (List.mem_append_right _ (g_k9 (List.mem_of_getElem? (i := 142) rfl))) rfl
theorem tw_2066 : (.methodLink RX12 318 yX12_clip : Cond) ∈ lw_gd := g_mem (List.mem_append_right _ (g_k9 (List.mem_of_getElem? (i := 146) rfl))) rfl
theorem tw_2069 : (.constantLong RX12 311 (1000000) : Cond) ∈ lw_gd := g_mem (List.mem_append_right _ (g_k9 (List.mem_of_getElem? (i := 149) rfl))) rfl
theorem tw_2070 : (.constantLong RX12 313 (-1000000) : Cond) ∈ lw_gd := g_mem (List.mem_append_right _ (g_k9 (List.mem_of_getElem? (i := 150) rfl))) rfl
theorem tw_2068 : (.code yX12_clip cX12_clip 2 (some .long) : Cond) ∈ lw_gd := g_mem (List.mem_append_right _ (g_k9 (List.mem_of_getElem? (i := 148) rfl))) rfl
theorem tw_2067 : (.static yX12_clip : Cond) ∈ lw_gd := g_mem (List.mem_append_right _ (g_k9 (List.mem_of_getElem? (i := 147) rfl))) rfl
theorem tw_2053 : (.methodLink RX12 322 yX12_puts : Cond) ∈ lw_gd := g_mem (List.mem_append_right _ (g_k9 (List.mem_of_getElem? (i := 133) rfl))) rfl
theorem tw_2056 : (.code yX12_puts cX12_puts 3 none : Cond) ∈ lw_gd := g_mem (List.mem_append_right _ (g_k9 (List.mem_of_getElem? (i := 136) rfl))) rfl
theorem tp_119 : (.selects RX12 yX12_puts yX12_puts : Cond) ∈ lw_gd := g_mem (List.mem_append_left _ (List.mem_of_getElem? (i := 119) (by decide +kernel))) rfl
theorem tw_2055 : (.instanceMethod yX12_puts : Cond) ∈ lw_gd := g_mem (List.mem_append_right _ (g_k9 (List.mem_of_getElem? (i := 135) rfl))) rfl
theorem tw_2071 : (.methodLink RX12 326 yX12_floor : Cond) ∈ lw_gd := g_mem (List.mem_append_right _ (g_k9 (List.mem_of_getElem? (i := 151) rfl))) rfl
theorem tw_2073 : (.code yX12_floor cX12_floor 6 (some .long) : Cond) ∈ lw_gd := g_mem (List.mem_append_right _ (g_k9 (List.mem_of_getElem? (i := 153) rfl))) rfl
theorem tw_2072 : (.static yX12_floor : Cond) ∈ lw_gd := g_mem (List.mem_append_right _ (g_k9 (List.mem_of_getElem? (i := 152) rfl))) rfl
theorem tw_2065 : (.code yX12_joins cX12_joins 6 none : Cond) ∈ lw_gd := g_mem (List.mem_append_right _ (g_k9 (List.mem_of_getElem? (i := 145) rfl))) rfl
theorem tp_121 : (.selects RX12 yX12_joins yX12_joins : Cond) ∈ lw_gd := g_mem (List.mem_append_left _ (List.mem_of_getElem? (i := 121) (by decide +kernel))) rfl
theorem tw_2064 : (.instanceMethod yX12_joins : Cond) ∈ lw_gd := g_mem (List.mem_append_right _ (g_k9 (List.mem_of_getElem? (i := 144) rfl))) rfl
theorem tw_2058 : (.methodLink RX12 338 yX12_peak : Cond) ∈ lw_gd := g_mem (List.mem_append_right _ (g_k9 (List.mem_of_getElem? (i := 138) rfl))) rfl
theorem tw_2061 : (.code yX12_peak cX12_peak 5 (some .int) : Cond) ∈ lw_gd := g_mem (List.mem_append_right _ (g_k9 (List.mem_of_getElem? (i := 141) rfl))) rfl
theorem tp_120 : (.selects RX12 yX12_peak yX12_peak : Cond) ∈ lw_gd := g_mem (List.mem_append_left _ (List.mem_of_getElem? (i := 120) (by decide +kernel))) rfl
theorem tw_2060 : (.instanceMethod yX12_peak : Cond) ∈ lw_gd := g_mem (List.mem_append_right _ (g_k9 (List.mem_of_getElem? (i := 140) rfl))) rfl
theorem tw_2052 : (.code yX12_told cX12_told 6 (some .long) : Cond) ∈ lw_gd := g_mem (List.mem_append_right _ (g_k9 (List.mem_of_getElem? (i := 132) rfl))) rfl
theorem tp_118 : (.selects RX12 yX12_told yX12_told : Cond) ∈ lw_gd := g_mem (List.mem_append_left _ (List.mem_of_getElem? (i := 118) (by decide +kernel))) rfl
theorem tw_2051 : (.instanceMethod yX12_told : Cond) ∈ lw_gd := g_mem (List.mem_append_right _ (g_k9 (List.mem_of_getElem? (i := 131) rfl))) rfl
theorem tw_2048 : (.code yX12_worthOf cX12_worthOf 3 (some .int) : Cond) ∈ lw_gd := g_mem (List.mem_append_right _ (g_k9 (List.mem_of_getElem? (i := 128) rfl))) rfl
theorem tp_117 : (.selects RX12 yX12_worthOf yX12_worthOf : Cond) ∈ lw_gd := g_mem (List.mem_append_left _ (List.mem_of_getElem? (i := 117) (by decide +kernel))) rfl
theorem tw_2047 : (.instanceMethod yX12_worthOf : Cond) ∈ lw_gd := g_mem (List.mem_append_right _ (g_k9 (List.mem_of_getElem? (i := 127) rfl))) rfl
theorem tw_2078 : (.constantLong RX12 484 (5) : Cond) ∈ lw_gd := g_mem (List.mem_append_right _ (g_k9 (List.mem_of_getElem? (i := 158) rfl))) rfl
theorem tw_2079 : (.methodLink RX12 486 yX12_bits : Cond) ∈ lw_gd := g_mem (List.mem_append_right _ (g_k9 (List.mem_of_getElem? (i := 159) rfl))) rfl
theorem tw_2081 : (.code yX12_bits cX12_bits 3 (some .int) : Cond) ∈ lw_gd := g_mem (List.mem_append_right _ (g_k9 (List.mem_of_getElem? (i := 161) rfl))) rfl
theorem tw_2080 : (.static yX12_bits : Cond) ∈ lw_gd := g_mem (List.mem_append_right _ (g_k9 (List.mem_of_getElem? (i := 160) rfl))) rfl
theorem tw_1470 : (.fieldLink RX12 489 "ManyOutModel" "octets" "I" : Cond) ∈ lw_gd := g_mem (List.mem_append_right _ (g_k7 (List.mem_of_getElem? (i := 30) rfl))) rfl
theorem tw_2086 : (.methodLink RX12 492 yX12_writes : Cond) ∈ lw_gd := g_mem (List.mem_append_right _ (g_k9 (List.mem_of_getElem? (i := 166) rfl))) rfl
theorem tw_1469 : (.fieldLink RX12 145 "ManyOutModel" "octet" "[I" : Cond) ∈ lw_gd := g_mem (List.mem_append_right _ (g_k7 (List.mem_of_getElem? (i := 29) rfl))) rfl
theorem tw_2089 : (.code yX12_writes cX12_writes 2 none : Cond) ∈ lw_gd := g_mem (List.mem_append_right _ (g_k9 (List.mem_of_getElem? (i := 169) rfl))) rfl
theorem tp_122 : (.selects RX12 yX12_writes yX12_writes : Cond) ∈ lw_gd := g_mem (List.mem_append_left _ (List.mem_of_getElem? (i := 122) (by decide +kernel))) rfl
theorem tw_2088 : (.instanceMethod yX12_writes : Cond) ∈ lw_gd := g_mem (List.mem_append_right _ (g_k9 (List.mem_of_getElem? (i := 168) rfl))) rfl
theorem tw_2090 : (.methodLink RX12 495 yX12_checked : Cond) ∈ lw_gd := g_mem (List.mem_append_right _ (g_k9 (List.mem_of_getElem? (i := 170) rfl))) rfl
theorem tw_2092 : (.code yX12_checked cX12_checked 4 (some .int) : Cond) ∈ lw_gd := g_mem (List.mem_append_right _ (g_k9 (List.mem_of_getElem? (i := 172) rfl))) rfl
theorem tw_2091 : (.static yX12_checked : Cond) ∈ lw_gd := g_mem (List.mem_append_right _ (g_k9 (List.mem_of_getElem? (i := 171) rfl))) rfl
theorem tw_1471 : (.fieldLink RX12 499 "ManyOutModel" "stepsWas" "I" : Cond) ∈ lw_gd := g_mem (List.mem_append_right _ (g_k7 (List.mem_of_getElem? (i := 31) rfl))) rfl
theorem tw_1472 : (.fieldLink RX12 502 "ManyOutModel" "undoableWas" "I" : Cond) ∈ lw_gd := g_mem (List.mem_append_right _ (g_k7 (List.mem_of_getElem? (i := 32) rfl))) rfl
theorem tw_1473 : (.fieldLink RX12 505 "ManyOutModel" "redoableWas" "I" : Cond) ∈ lw_gd := g_mem (List.mem_append_right _ (g_k7 (List.mem_of_getElem? (i := 33) rfl))) rfl
theorem tw_2101 : (.methodLink RX12 508 yX12_canLead : Cond) ∈ lw_gd := g_mem (List.mem_append_right _ (g_k9 (List.mem_of_getElem? (i := 181) rfl))) rfl
theorem tw_2104 : (.code yX12_canLead cX12_canLead 2 (some .boolean) : Cond) ∈ lw_gd := g_mem (List.mem_append_right _ (g_k9 (List.mem_of_getElem? (i := 184) rfl))) rfl
theorem tp_123 : (.selects RX12 yX12_canLead yX12_canLead : Cond) ∈ lw_gd := g_mem (List.mem_append_left _ (List.mem_of_getElem? (i := 123) (by decide +kernel))) rfl
theorem tw_2103 : (.instanceMethod yX12_canLead : Cond) ∈ lw_gd := g_mem (List.mem_append_right _ (g_k9 (List.mem_of_getElem? (i := 183) rfl))) rfl
theorem tw_2105 : (.methodLink RX12 511 yX12_takesBack : Cond) ∈ lw_gd := g_mem (List.mem_append_right _ (g_k9 (List.mem_of_getElem? (i := 185) rfl))) rfl
theorem tw_2108 : (.code yX12_takesBack cX12_takesBack 3 none : Cond) ∈ lw_gd := g_mem (List.mem_append_right _ (g_k9 (List.mem_of_getElem? (i := 188) rfl))) rfl
theorem tp_124 : (.selects RX12 yX12_takesBack yX12_takesBack : Cond) ∈ lw_gd := g_mem (List.mem_append_left _ (List.mem_of_getElem? (i := 124) (by decide +kernel))) rfl
theorem tw_2107 : (.instanceMethod yX12_takesBack : Cond) ∈ lw_gd := g_mem (List.mem_append_right _ (g_k9 (List.mem_of_getElem? (i := 187) rfl))) rfl
theorem hd_yX9_at : yX9_at.cls ≠ "java/lang/invoke/MethodHandle" ∧ yX9_at.cls ≠ "java/lang/invoke/VarHandle" ∧ (parseMethodDescriptor yX9_at.desc).map (fun d => d.parameters.length) = some 1 := by decide +kernel
theorem hd_yJ7_fill_53178 : yJ7_fill_53178.cls ≠ "java/lang/invoke/MethodHandle" ∧ yJ7_fill_53178.cls ≠ "java/lang/invoke/VarHandle" ∧ (parseMethodDescriptor yJ7_fill_53178.desc).map (fun d => d.parameters.length) = some 2 := by decide +kernel
theorem hd_yX8_at : yX8_at.cls ≠ "java/lang/invoke/MethodHandle" ∧ yX8_at.cls ≠ "java/lang/invoke/VarHandle" ∧ (parseMethodDescriptor yX8_at.desc).map (fun d => d.parameters.length) = some 2 := by decide +kernel
theorem hd_yX8_setAt : yX8_setAt.cls ≠ "java/lang/invoke/MethodHandle" ∧ yX8_setAt.cls ≠ "java/lang/invoke/VarHandle" ∧ (parseMethodDescriptor yX8_setAt.desc).map (fun d => d.parameters.length) = some 3 := by decide +kernel
theorem hd_yX8_productOf : yX8_productOf.cls ≠ "java/lang/invoke/MethodHandle" ∧ yX8_productOf.cls ≠ "java/lang/invoke/VarHandle" ∧ (parseMethodDescriptor yX8_productOf.desc).map (fun d => d.parameters.length) = some 2 := by decide +kernel
theorem hd_yX8_clashOf : yX8_clashOf.cls ≠ "java/lang/invoke/MethodHandle" ∧ yX8_clashOf.cls ≠ "java/lang/invoke/VarHandle" ∧ (parseMethodDescriptor yX8_clashOf.desc).map (fun d => d.parameters.length) = some 2 := by decide +kernel
theorem hd_yX5_partBy : yX5_partBy.cls ≠ "java/lang/invoke/MethodHandle" ∧ yX5_partBy.cls ≠ "java/lang/invoke/VarHandle" ∧ (parseMethodDescriptor yX5_partBy.desc).map (fun d => d.parameters.length) = some 4 := by decide +kernel
theorem hd_yX5_bounded : yX5_bounded.cls ≠ "java/lang/invoke/MethodHandle" ∧ yX5_bounded.cls ≠ "java/lang/invoke/VarHandle" ∧ (parseMethodDescriptor yX5_bounded.desc).map (fun d => d.parameters.length) = some 1 := by decide +kernel
theorem hd_yX5_joined : yX5_joined.cls ≠ "java/lang/invoke/MethodHandle" ∧ yX5_joined.cls ≠ "java/lang/invoke/VarHandle" ∧ (parseMethodDescriptor yX5_joined.desc).map (fun d => d.parameters.length) = some 3 := by decide +kernel
theorem hd_yX5_valueOf : yX5_valueOf.cls ≠ "java/lang/invoke/MethodHandle" ∧ yX5_valueOf.cls ≠ "java/lang/invoke/VarHandle" ∧ (parseMethodDescriptor yX5_valueOf.desc).map (fun d => d.parameters.length) = some 5 := by decide +kernel
theorem hd_yX8_clear : yX8_clear.cls ≠ "java/lang/invoke/MethodHandle" ∧ yX8_clear.cls ≠ "java/lang/invoke/VarHandle" ∧ (parseMethodDescriptor yX8_clear.desc).map (fun d => d.parameters.length) = some 0 := by decide +kernel
theorem hd_yX5_clear : yX5_clear.cls ≠ "java/lang/invoke/MethodHandle" ∧ yX5_clear.cls ≠ "java/lang/invoke/VarHandle" ∧ (parseMethodDescriptor yX5_clear.desc).map (fun d => d.parameters.length) = some 0 := by decide +kernel
theorem hd_yX8_sentTo : yX8_sentTo.cls ≠ "java/lang/invoke/MethodHandle" ∧ yX8_sentTo.cls ≠ "java/lang/invoke/VarHandle" ∧ (parseMethodDescriptor yX8_sentTo.desc).map (fun d => d.parameters.length) = some 3 := by decide +kernel
theorem hd_yX1_rowsOf : yX1_rowsOf.cls ≠ "java/lang/invoke/MethodHandle" ∧ yX1_rowsOf.cls ≠ "java/lang/invoke/VarHandle" ∧ (parseMethodDescriptor yX1_rowsOf.desc).map (fun d => d.parameters.length) = some 1 := by decide +kernel
theorem hd_yX1_digitInRow : yX1_digitInRow.cls ≠ "java/lang/invoke/MethodHandle" ∧ yX1_digitInRow.cls ≠ "java/lang/invoke/VarHandle" ∧ (parseMethodDescriptor yX1_digitInRow.desc).map (fun d => d.parameters.length) = some 2 := by decide +kernel
theorem hd_yX1_letterOfDigit : yX1_letterOfDigit.cls ≠ "java/lang/invoke/MethodHandle" ∧ yX1_letterOfDigit.cls ≠ "java/lang/invoke/VarHandle" ∧ (parseMethodDescriptor yX1_letterOfDigit.desc).map (fun d => d.parameters.length) = some 1 := by decide +kernel
theorem hd_yX1_letterOfWord : yX1_letterOfWord.cls ≠ "java/lang/invoke/MethodHandle" ∧ yX1_letterOfWord.cls ≠ "java/lang/invoke/VarHandle" ∧ (parseMethodDescriptor yX1_letterOfWord.desc).map (fun d => d.parameters.length) = some 2 := by decide +kernel
theorem hd_yX1_digitOfLetter : yX1_digitOfLetter.cls ≠ "java/lang/invoke/MethodHandle" ∧ yX1_digitOfLetter.cls ≠ "java/lang/invoke/VarHandle" ∧ (parseMethodDescriptor yX1_digitOfLetter.desc).map (fun d => d.parameters.length) = some 1 := by decide +kernel
theorem hd_yX8_peakOf : yX8_peakOf.cls ≠ "java/lang/invoke/MethodHandle" ∧ yX8_peakOf.cls ≠ "java/lang/invoke/VarHandle" ∧ (parseMethodDescriptor yX8_peakOf.desc).map (fun d => d.parameters.length) = some 1 := by decide +kernel
theorem hd_yX5_worthBy : yX5_worthBy.cls ≠ "java/lang/invoke/MethodHandle" ∧ yX5_worthBy.cls ≠ "java/lang/invoke/VarHandle" ∧ (parseMethodDescriptor yX5_worthBy.desc).map (fun d => d.parameters.length) = some 3 := by decide +kernel
theorem hd_yX10_setNumbers : yX10_setNumbers.cls ≠ "java/lang/invoke/MethodHandle" ∧ yX10_setNumbers.cls ≠ "java/lang/invoke/VarHandle" ∧ (parseMethodDescriptor yX10_setNumbers.desc).map (fun d => d.parameters.length) = some 4 := by decide +kernel
theorem hd_yX10_settle : yX10_settle.cls ≠ "java/lang/invoke/MethodHandle" ∧ yX10_settle.cls ≠ "java/lang/invoke/VarHandle" ∧ (parseMethodDescriptor yX10_settle.desc).map (fun d => d.parameters.length) = some 1 := by decide +kernel
theorem hd_yX10_squaresAt : yX10_squaresAt.cls ≠ "java/lang/invoke/MethodHandle" ∧ yX10_squaresAt.cls ≠ "java/lang/invoke/VarHandle" ∧ (parseMethodDescriptor yX10_squaresAt.desc).map (fun d => d.parameters.length) = some 1 := by decide +kernel
theorem hd_yX0_worthOfPair : yX0_worthOfPair.cls ≠ "java/lang/invoke/MethodHandle" ∧ yX0_worthOfPair.cls ≠ "java/lang/invoke/VarHandle" ∧ (parseMethodDescriptor yX0_worthOfPair.desc).map (fun d => d.parameters.length) = some 3 := by decide +kernel
theorem hd_yX0_weighPair : yX0_weighPair.cls ≠ "java/lang/invoke/MethodHandle" ∧ yX0_weighPair.cls ≠ "java/lang/invoke/VarHandle" ∧ (parseMethodDescriptor yX0_weighPair.desc).map (fun d => d.parameters.length) = some 2 := by decide +kernel
theorem hd_yJ7_fill_d0a16 : yJ7_fill_d0a16.cls ≠ "java/lang/invoke/MethodHandle" ∧ yJ7_fill_d0a16.cls ≠ "java/lang/invoke/VarHandle" ∧ (parseMethodDescriptor yJ7_fill_d0a16.desc).map (fun d => d.parameters.length) = some 2 := by decide +kernel
theorem hd_yX10_start : yX10_start.cls ≠ "java/lang/invoke/MethodHandle" ∧ yX10_start.cls ≠ "java/lang/invoke/VarHandle" ∧ (parseMethodDescriptor yX10_start.desc).map (fun d => d.parameters.length) = some 1 := by decide +kernel
theorem hd_yX10_lineCount : yX10_lineCount.cls ≠ "java/lang/invoke/MethodHandle" ∧ yX10_lineCount.cls ≠ "java/lang/invoke/VarHandle" ∧ (parseMethodDescriptor yX10_lineCount.desc).map (fun d => d.parameters.length) = some 0 := by decide +kernel
theorem hd_yX10_firstLine : yX10_firstLine.cls ≠ "java/lang/invoke/MethodHandle" ∧ yX10_firstLine.cls ≠ "java/lang/invoke/VarHandle" ∧ (parseMethodDescriptor yX10_firstLine.desc).map (fun d => d.parameters.length) = some 0 := by decide +kernel
theorem hd_yX10_bestDigit : yX10_bestDigit.cls ≠ "java/lang/invoke/MethodHandle" ∧ yX10_bestDigit.cls ≠ "java/lang/invoke/VarHandle" ∧ (parseMethodDescriptor yX10_bestDigit.desc).map (fun d => d.parameters.length) = some 1 := by decide +kernel
theorem hd_yX6_lookAtLine : yX6_lookAtLine.cls ≠ "java/lang/invoke/MethodHandle" ∧ yX6_lookAtLine.cls ≠ "java/lang/invoke/VarHandle" ∧ (parseMethodDescriptor yX6_lookAtLine.desc).map (fun d => d.parameters.length) = some 1 := by decide +kernel
theorem hd_yX10_nextLine : yX10_nextLine.cls ≠ "java/lang/invoke/MethodHandle" ∧ yX10_nextLine.cls ≠ "java/lang/invoke/VarHandle" ∧ (parseMethodDescriptor yX10_nextLine.desc).map (fun d => d.parameters.length) = some 0 := by decide +kernel
theorem hd_yX6_findShortest : yX6_findShortest.cls ≠ "java/lang/invoke/MethodHandle" ∧ yX6_findShortest.cls ≠ "java/lang/invoke/VarHandle" ∧ (parseMethodDescriptor yX6_findShortest.desc).map (fun d => d.parameters.length) = some 3 := by decide +kernel
theorem hd_yX10_aimAt : yX10_aimAt.cls ≠ "java/lang/invoke/MethodHandle" ∧ yX10_aimAt.cls ≠ "java/lang/invoke/VarHandle" ∧ (parseMethodDescriptor yX10_aimAt.desc).map (fun d => d.parameters.length) = some 2 := by decide +kernel
theorem hd_yX10_setAllNumbers : yX10_setAllNumbers.cls ≠ "java/lang/invoke/MethodHandle" ∧ yX10_setAllNumbers.cls ≠ "java/lang/invoke/VarHandle" ∧ (parseMethodDescriptor yX10_setAllNumbers.desc).map (fun d => d.parameters.length) = some 3 := by decide +kernel
theorem hd_yX7_startWalk : yX7_startWalk.cls ≠ "java/lang/invoke/MethodHandle" ∧ yX7_startWalk.cls ≠ "java/lang/invoke/VarHandle" ∧ (parseMethodDescriptor yX7_startWalk.desc).map (fun d => d.parameters.length) = some 2 := by decide +kernel
theorem hd_yX7_note : yX7_note.cls ≠ "java/lang/invoke/MethodHandle" ∧ yX7_note.cls ≠ "java/lang/invoke/VarHandle" ∧ (parseMethodDescriptor yX7_note.desc).map (fun d => d.parameters.length) = some 4 := by decide +kernel
theorem hd_yX7_admit : yX7_admit.cls ≠ "java/lang/invoke/MethodHandle" ∧ yX7_admit.cls ≠ "java/lang/invoke/VarHandle" ∧ (parseMethodDescriptor yX7_admit.desc).map (fun d => d.parameters.length) = some 2 := by decide +kernel
theorem hd_yX7_learnLine : yX7_learnLine.cls ≠ "java/lang/invoke/MethodHandle" ∧ yX7_learnLine.cls ≠ "java/lang/invoke/VarHandle" ∧ (parseMethodDescriptor yX7_learnLine.desc).map (fun d => d.parameters.length) = some 2 := by decide +kernel
theorem hd_yX7_findTurns : yX7_findTurns.cls ≠ "java/lang/invoke/MethodHandle" ∧ yX7_findTurns.cls ≠ "java/lang/invoke/VarHandle" ∧ (parseMethodDescriptor yX7_findTurns.desc).map (fun d => d.parameters.length) = some 1 := by decide +kernel
theorem hd_yX7_squaresWith : yX7_squaresWith.cls ≠ "java/lang/invoke/MethodHandle" ∧ yX7_squaresWith.cls ≠ "java/lang/invoke/VarHandle" ∧ (parseMethodDescriptor yX7_squaresWith.desc).map (fun d => d.parameters.length) = some 3 := by decide +kernel
theorem hd_yX7_bestLetter : yX7_bestLetter.cls ≠ "java/lang/invoke/MethodHandle" ∧ yX7_bestLetter.cls ≠ "java/lang/invoke/VarHandle" ∧ (parseMethodDescriptor yX7_bestLetter.desc).map (fun d => d.parameters.length) = some 2 := by decide +kernel
theorem hd_yX7_leastWith : yX7_leastWith.cls ≠ "java/lang/invoke/MethodHandle" ∧ yX7_leastWith.cls ≠ "java/lang/invoke/VarHandle" ∧ (parseMethodDescriptor yX7_leastWith.desc).map (fun d => d.parameters.length) = some 2 := by decide +kernel
theorem hd_yX3_move : yX3_move.cls ≠ "java/lang/invoke/MethodHandle" ∧ yX3_move.cls ≠ "java/lang/invoke/VarHandle" ∧ (parseMethodDescriptor yX3_move.desc).map (fun d => d.parameters.length) = some 2 := by decide +kernel
theorem hd_yX3_startTrying : yX3_startTrying.cls ≠ "java/lang/invoke/MethodHandle" ∧ yX3_startTrying.cls ≠ "java/lang/invoke/VarHandle" ∧ (parseMethodDescriptor yX3_startTrying.desc).map (fun d => d.parameters.length) = some 1 := by decide +kernel
theorem hd_yX1_rowCount : yX1_rowCount.cls ≠ "java/lang/invoke/MethodHandle" ∧ yX1_rowCount.cls ≠ "java/lang/invoke/VarHandle" ∧ (parseMethodDescriptor yX1_rowCount.desc).map (fun d => d.parameters.length) = some 0 := by decide +kernel
theorem hd_yX3_better : yX3_better.cls ≠ "java/lang/invoke/MethodHandle" ∧ yX3_better.cls ≠ "java/lang/invoke/VarHandle" ∧ (parseMethodDescriptor yX3_better.desc).map (fun d => d.parameters.length) = some 2 := by decide +kernel
theorem hd_yX3_fallsTo : yX3_fallsTo.cls ≠ "java/lang/invoke/MethodHandle" ∧ yX3_fallsTo.cls ≠ "java/lang/invoke/VarHandle" ∧ (parseMethodDescriptor yX3_fallsTo.desc).map (fun d => d.parameters.length) = some 2 := by decide +kernel
theorem hd_yX3_nextLetters : yX3_nextLetters.cls ≠ "java/lang/invoke/MethodHandle" ∧ yX3_nextLetters.cls ≠ "java/lang/invoke/VarHandle" ∧ (parseMethodDescriptor yX3_nextLetters.desc).map (fun d => d.parameters.length) = some 1 := by decide +kernel
theorem hd_yX3_keepFound : yX3_keepFound.cls ≠ "java/lang/invoke/MethodHandle" ∧ yX3_keepFound.cls ≠ "java/lang/invoke/VarHandle" ∧ (parseMethodDescriptor yX3_keepFound.desc).map (fun d => d.parameters.length) = some 1 := by decide +kernel
theorem hd_yX3_leastFor : yX3_leastFor.cls ≠ "java/lang/invoke/MethodHandle" ∧ yX3_leastFor.cls ≠ "java/lang/invoke/VarHandle" ∧ (parseMethodDescriptor yX3_leastFor.desc).map (fun d => d.parameters.length) = some 3 := by decide +kernel
theorem hd_yX3_tryFound : yX3_tryFound.cls ≠ "java/lang/invoke/MethodHandle" ∧ yX3_tryFound.cls ≠ "java/lang/invoke/VarHandle" ∧ (parseMethodDescriptor yX3_tryFound.desc).map (fun d => d.parameters.length) = some 1 := by decide +kernel
theorem hd_yX3_leastThinkable : yX3_leastThinkable.cls ≠ "java/lang/invoke/MethodHandle" ∧ yX3_leastThinkable.cls ≠ "java/lang/invoke/VarHandle" ∧ (parseMethodDescriptor yX3_leastThinkable.desc).map (fun d => d.parameters.length) = some 1 := by decide +kernel
theorem hd_yX3_refuse : yX3_refuse.cls ≠ "java/lang/invoke/MethodHandle" ∧ yX3_refuse.cls ≠ "java/lang/invoke/VarHandle" ∧ (parseMethodDescriptor yX3_refuse.desc).map (fun d => d.parameters.length) = some 0 := by decide +kernel
theorem hd_yX9_hasRoom : yX9_hasRoom.cls ≠ "java/lang/invoke/MethodHandle" ∧ yX9_hasRoom.cls ≠ "java/lang/invoke/VarHandle" ∧ (parseMethodDescriptor yX9_hasRoom.desc).map (fun d => d.parameters.length) = some 1 := by decide +kernel
theorem hd_yX9_addNumber : yX9_addNumber.cls ≠ "java/lang/invoke/MethodHandle" ∧ yX9_addNumber.cls ≠ "java/lang/invoke/VarHandle" ∧ (parseMethodDescriptor yX9_addNumber.desc).map (fun d => d.parameters.length) = some 1 := by decide +kernel
theorem hd_yX9_length : yX9_length.cls ≠ "java/lang/invoke/MethodHandle" ∧ yX9_length.cls ≠ "java/lang/invoke/VarHandle" ∧ (parseMethodDescriptor yX9_length.desc).map (fun d => d.parameters.length) = some 0 := by decide +kernel
theorem hd_yX9_cutTo : yX9_cutTo.cls ≠ "java/lang/invoke/MethodHandle" ∧ yX9_cutTo.cls ≠ "java/lang/invoke/VarHandle" ∧ (parseMethodDescriptor yX9_cutTo.desc).map (fun d => d.parameters.length) = some 1 := by decide +kernel
theorem hd_yX1_isReceiver : yX1_isReceiver.cls ≠ "java/lang/invoke/MethodHandle" ∧ yX1_isReceiver.cls ≠ "java/lang/invoke/VarHandle" ∧ (parseMethodDescriptor yX1_isReceiver.desc).map (fun d => d.parameters.length) = some 1 := by decide +kernel
theorem hd_yX1_isSender : yX1_isSender.cls ≠ "java/lang/invoke/MethodHandle" ∧ yX1_isSender.cls ≠ "java/lang/invoke/VarHandle" ∧ (parseMethodDescriptor yX1_isSender.desc).map (fun d => d.parameters.length) = some 1 := by decide +kernel
theorem hd_yX11_tableBy : yX11_tableBy.cls ≠ "java/lang/invoke/MethodHandle" ∧ yX11_tableBy.cls ≠ "java/lang/invoke/VarHandle" ∧ (parseMethodDescriptor yX11_tableBy.desc).map (fun d => d.parameters.length) = some 1 := by decide +kernel
theorem hd_yX7_forget : yX7_forget.cls ≠ "java/lang/invoke/MethodHandle" ∧ yX7_forget.cls ≠ "java/lang/invoke/VarHandle" ∧ (parseMethodDescriptor yX7_forget.desc).map (fun d => d.parameters.length) = some 0 := by decide +kernel
theorem hd_yX9_shortAt : yX9_shortAt.cls ≠ "java/lang/invoke/MethodHandle" ∧ yX9_shortAt.cls ≠ "java/lang/invoke/VarHandle" ∧ (parseMethodDescriptor yX9_shortAt.desc).map (fun d => d.parameters.length) = some 1 := by decide +kernel
theorem hd_yX11_takeHeard : yX11_takeHeard.cls ≠ "java/lang/invoke/MethodHandle" ∧ yX11_takeHeard.cls ≠ "java/lang/invoke/VarHandle" ∧ (parseMethodDescriptor yX11_takeHeard.desc).map (fun d => d.parameters.length) = some 0 := by decide +kernel
theorem hd_yX9_signedAt : yX9_signedAt.cls ≠ "java/lang/invoke/MethodHandle" ∧ yX9_signedAt.cls ≠ "java/lang/invoke/VarHandle" ∧ (parseMethodDescriptor yX9_signedAt.desc).map (fun d => d.parameters.length) = some 1 := by decide +kernel
theorem hd_yX1_isLetter : yX1_isLetter.cls ≠ "java/lang/invoke/MethodHandle" ∧ yX1_isLetter.cls ≠ "java/lang/invoke/VarHandle" ∧ (parseMethodDescriptor yX1_isLetter.desc).map (fun d => d.parameters.length) = some 1 := by decide +kernel
theorem hd_yX11_takeRow : yX11_takeRow.cls ≠ "java/lang/invoke/MethodHandle" ∧ yX11_takeRow.cls ≠ "java/lang/invoke/VarHandle" ∧ (parseMethodDescriptor yX11_takeRow.desc).map (fun d => d.parameters.length) = some 0 := by decide +kernel
theorem hd_yX1_distanceOf : yX1_distanceOf.cls ≠ "java/lang/invoke/MethodHandle" ∧ yX1_distanceOf.cls ≠ "java/lang/invoke/VarHandle" ∧ (parseMethodDescriptor yX1_distanceOf.desc).map (fun d => d.parameters.length) = some 2 := by decide +kernel
theorem hd_yX7_learn : yX7_learn.cls ≠ "java/lang/invoke/MethodHandle" ∧ yX7_learn.cls ≠ "java/lang/invoke/VarHandle" ∧ (parseMethodDescriptor yX7_learn.desc).map (fun d => d.parameters.length) = some 2 := by decide +kernel
theorem hd_yX11_isNear : yX11_isNear.cls ≠ "java/lang/invoke/MethodHandle" ∧ yX11_isNear.cls ≠ "java/lang/invoke/VarHandle" ∧ (parseMethodDescriptor yX11_isNear.desc).map (fun d => d.parameters.length) = some 1 := by decide +kernel
theorem hd_yX1_letterInRow : yX1_letterInRow.cls ≠ "java/lang/invoke/MethodHandle" ∧ yX1_letterInRow.cls ≠ "java/lang/invoke/VarHandle" ∧ (parseMethodDescriptor yX1_letterInRow.desc).map (fun d => d.parameters.length) = some 2 := by decide +kernel
theorem hd_yX7_countAhead : yX7_countAhead.cls ≠ "java/lang/invoke/MethodHandle" ∧ yX7_countAhead.cls ≠ "java/lang/invoke/VarHandle" ∧ (parseMethodDescriptor yX7_countAhead.desc).map (fun d => d.parameters.length) = some 4 := by decide +kernel
theorem hd_yX7_cancelAll : yX7_cancelAll.cls ≠ "java/lang/invoke/MethodHandle" ∧ yX7_cancelAll.cls ≠ "java/lang/invoke/VarHandle" ∧ (parseMethodDescriptor yX7_cancelAll.desc).map (fun d => d.parameters.length) = some 2 := by decide +kernel
theorem hd_yX7_shareOf : yX7_shareOf.cls ≠ "java/lang/invoke/MethodHandle" ∧ yX7_shareOf.cls ≠ "java/lang/invoke/VarHandle" ∧ (parseMethodDescriptor yX7_shareOf.desc).map (fun d => d.parameters.length) = some 2 := by decide +kernel
theorem hd_yX7_leastWithout : yX7_leastWithout.cls ≠ "java/lang/invoke/MethodHandle" ∧ yX7_leastWithout.cls ≠ "java/lang/invoke/VarHandle" ∧ (parseMethodDescriptor yX7_leastWithout.desc).map (fun d => d.parameters.length) = some 3 := by decide +kernel
theorem hd_yX2_leaderAt : yX2_leaderAt.cls ≠ "java/lang/invoke/MethodHandle" ∧ yX2_leaderAt.cls ≠ "java/lang/invoke/VarHandle" ∧ (parseMethodDescriptor yX2_leaderAt.desc).map (fun d => d.parameters.length) = some 2 := by decide +kernel
theorem hd_yX2_slot : yX2_slot.cls ≠ "java/lang/invoke/MethodHandle" ∧ yX2_slot.cls ≠ "java/lang/invoke/VarHandle" ∧ (parseMethodDescriptor yX2_slot.desc).map (fun d => d.parameters.length) = some 1 := by decide +kernel
theorem hd_yX2_stepAt : yX2_stepAt.cls ≠ "java/lang/invoke/MethodHandle" ∧ yX2_stepAt.cls ≠ "java/lang/invoke/VarHandle" ∧ (parseMethodDescriptor yX2_stepAt.desc).map (fun d => d.parameters.length) = some 2 := by decide +kernel
theorem hd_yX8_worstPair : yX8_worstPair.cls ≠ "java/lang/invoke/MethodHandle" ∧ yX8_worstPair.cls ≠ "java/lang/invoke/VarHandle" ∧ (parseMethodDescriptor yX8_worstPair.desc).map (fun d => d.parameters.length) = some 1 := by decide +kernel
theorem hd_yX8_allSquares : yX8_allSquares.cls ≠ "java/lang/invoke/MethodHandle" ∧ yX8_allSquares.cls ≠ "java/lang/invoke/VarHandle" ∧ (parseMethodDescriptor yX8_allSquares.desc).map (fun d => d.parameters.length) = some 0 := by decide +kernel
theorem hd_yX1_isSenderSet : yX1_isSenderSet.cls ≠ "java/lang/invoke/MethodHandle" ∧ yX1_isSenderSet.cls ≠ "java/lang/invoke/VarHandle" ∧ (parseMethodDescriptor yX1_isSenderSet.desc).map (fun d => d.parameters.length) = some 1 := by decide +kernel
theorem hd_yX6_apartOf : yX6_apartOf.cls ≠ "java/lang/invoke/MethodHandle" ∧ yX6_apartOf.cls ≠ "java/lang/invoke/VarHandle" ∧ (parseMethodDescriptor yX6_apartOf.desc).map (fun d => d.parameters.length) = some 2 := by decide +kernel
theorem hd_yX1_isWord : yX1_isWord.cls ≠ "java/lang/invoke/MethodHandle" ∧ yX1_isWord.cls ≠ "java/lang/invoke/VarHandle" ∧ (parseMethodDescriptor yX1_isWord.desc).map (fun d => d.parameters.length) = some 1 := by decide +kernel
theorem hd_yX0_learn : yX0_learn.cls ≠ "java/lang/invoke/MethodHandle" ∧ yX0_learn.cls ≠ "java/lang/invoke/VarHandle" ∧ (parseMethodDescriptor yX0_learn.desc).map (fun d => d.parameters.length) = some 1 := by decide +kernel
theorem hd_yX0_findLeast : yX0_findLeast.cls ≠ "java/lang/invoke/MethodHandle" ∧ yX0_findLeast.cls ≠ "java/lang/invoke/VarHandle" ∧ (parseMethodDescriptor yX0_findLeast.desc).map (fun d => d.parameters.length) = some 1 := by decide +kernel
theorem hd_yX1_mostPower : yX1_mostPower.cls ≠ "java/lang/invoke/MethodHandle" ∧ yX1_mostPower.cls ≠ "java/lang/invoke/VarHandle" ∧ (parseMethodDescriptor yX1_mostPower.desc).map (fun d => d.parameters.length) = some 0 := by decide +kernel
theorem hd_yX1_copyWord : yX1_copyWord.cls ≠ "java/lang/invoke/MethodHandle" ∧ yX1_copyWord.cls ≠ "java/lang/invoke/VarHandle" ∧ (parseMethodDescriptor yX1_copyWord.desc).map (fun d => d.parameters.length) = some 2 := by decide +kernel
theorem hd_yX1_rowOfLetters : yX1_rowOfLetters.cls ≠ "java/lang/invoke/MethodHandle" ∧ yX1_rowOfLetters.cls ≠ "java/lang/invoke/VarHandle" ∧ (parseMethodDescriptor yX1_rowOfLetters.desc).map (fun d => d.parameters.length) = some 1 := by decide +kernel
theorem hd_yX3_leastOfAll : yX3_leastOfAll.cls ≠ "java/lang/invoke/MethodHandle" ∧ yX3_leastOfAll.cls ≠ "java/lang/invoke/VarHandle" ∧ (parseMethodDescriptor yX3_leastOfAll.desc).map (fun d => d.parameters.length) = some 1 := by decide +kernel
theorem hd_yX3_mostOfAll : yX3_mostOfAll.cls ≠ "java/lang/invoke/MethodHandle" ∧ yX3_mostOfAll.cls ≠ "java/lang/invoke/VarHandle" ∧ (parseMethodDescriptor yX3_mostOfAll.desc).map (fun d => d.parameters.length) = some 1 := by decide +kernel
theorem hd_yX3_putAhead : yX3_putAhead.cls ≠ "java/lang/invoke/MethodHandle" ∧ yX3_putAhead.cls ≠ "java/lang/invoke/VarHandle" ∧ (parseMethodDescriptor yX3_putAhead.desc).map (fun d => d.parameters.length) = some 2 := by decide +kernel
theorem hd_yX1_worthOf : yX1_worthOf.cls ≠ "java/lang/invoke/MethodHandle" ∧ yX1_worthOf.cls ≠ "java/lang/invoke/VarHandle" ∧ (parseMethodDescriptor yX1_worthOf.desc).map (fun d => d.parameters.length) = some 1 := by decide +kernel
theorem hd_yX11_worthTogether : yX11_worthTogether.cls ≠ "java/lang/invoke/MethodHandle" ∧ yX11_worthTogether.cls ≠ "java/lang/invoke/VarHandle" ∧ (parseMethodDescriptor yX11_worthTogether.desc).map (fun d => d.parameters.length) = some 1 := by decide +kernel
theorem hd_yJ6_bitCount_0f7a4 : yJ6_bitCount_0f7a4.cls ≠ "java/lang/invoke/MethodHandle" ∧ yJ6_bitCount_0f7a4.cls ≠ "java/lang/invoke/VarHandle" ∧ (parseMethodDescriptor yJ6_bitCount_0f7a4.desc).map (fun d => d.parameters.length) = some 1 := by decide +kernel
theorem hd_yX11_checkWith : yX11_checkWith.cls ≠ "java/lang/invoke/MethodHandle" ∧ yX11_checkWith.cls ≠ "java/lang/invoke/VarHandle" ∧ (parseMethodDescriptor yX11_checkWith.desc).map (fun d => d.parameters.length) = some 2 := by decide +kernel
theorem hd_yX12_look : yX12_look.cls ≠ "java/lang/invoke/MethodHandle" ∧ yX12_look.cls ≠ "java/lang/invoke/VarHandle" ∧ (parseMethodDescriptor yX12_look.desc).map (fun d => d.parameters.length) = some 0 := by decide +kernel
theorem hd_yX12_isLetter : yX12_isLetter.cls ≠ "java/lang/invoke/MethodHandle" ∧ yX12_isLetter.cls ≠ "java/lang/invoke/VarHandle" ∧ (parseMethodDescriptor yX12_isLetter.desc).map (fun d => d.parameters.length) = some 1 := by decide +kernel
theorem hd_yX12_isHere : yX12_isHere.cls ≠ "java/lang/invoke/MethodHandle" ∧ yX12_isHere.cls ≠ "java/lang/invoke/VarHandle" ∧ (parseMethodDescriptor yX12_isHere.desc).map (fun d => d.parameters.length) = some 1 := by decide +kernel
theorem hd_yX12_takes : yX12_takes.cls ≠ "java/lang/invoke/MethodHandle" ∧ yX12_takes.cls ≠ "java/lang/invoke/VarHandle" ∧ (parseMethodDescriptor yX12_takes.desc).map (fun d => d.parameters.length) = some 1 := by decide +kernel
theorem hd_yX12_fail : yX12_fail.cls ≠ "java/lang/invoke/MethodHandle" ∧ yX12_fail.cls ≠ "java/lang/invoke/VarHandle" ∧ (parseMethodDescriptor yX12_fail.desc).map (fun d => d.parameters.length) = some 2 := by decide +kernel
theorem hd_yX12_asks : yX12_asks.cls ≠ "java/lang/invoke/MethodHandle" ∧ yX12_asks.cls ≠ "java/lang/invoke/VarHandle" ∧ (parseMethodDescriptor yX12_asks.desc).map (fun d => d.parameters.length) = some 1 := by decide +kernel
theorem hd_yX12_isDigit : yX12_isDigit.cls ≠ "java/lang/invoke/MethodHandle" ∧ yX12_isDigit.cls ≠ "java/lang/invoke/VarHandle" ∧ (parseMethodDescriptor yX12_isDigit.desc).map (fun d => d.parameters.length) = some 1 := by decide +kernel
theorem hd_yX12_isIn : yX12_isIn.cls ≠ "java/lang/invoke/MethodHandle" ∧ yX12_isIn.cls ≠ "java/lang/invoke/VarHandle" ∧ (parseMethodDescriptor yX12_isIn.desc).map (fun d => d.parameters.length) = some 3 := by decide +kernel
theorem hd_yX12_number : yX12_number.cls ≠ "java/lang/invoke/MethodHandle" ∧ yX12_number.cls ≠ "java/lang/invoke/VarHandle" ∧ (parseMethodDescriptor yX12_number.desc).map (fun d => d.parameters.length) = some 2 := by decide +kernel
theorem hd_yX12_takesSign : yX12_takesSign.cls ≠ "java/lang/invoke/MethodHandle" ∧ yX12_takesSign.cls ≠ "java/lang/invoke/VarHandle" ∧ (parseMethodDescriptor yX12_takesSign.desc).map (fun d => d.parameters.length) = some 1 := by decide +kernel
theorem hd_yX12_asksSign : yX12_asksSign.cls ≠ "java/lang/invoke/MethodHandle" ∧ yX12_asksSign.cls ≠ "java/lang/invoke/VarHandle" ∧ (parseMethodDescriptor yX12_asksSign.desc).map (fun d => d.parameters.length) = some 1 := by decide +kernel
theorem hd_yX12_leadsAnew : yX12_leadsAnew.cls ≠ "java/lang/invoke/MethodHandle" ∧ yX12_leadsAnew.cls ≠ "java/lang/invoke/VarHandle" ∧ (parseMethodDescriptor yX12_leadsAnew.desc).map (fun d => d.parameters.length) = some 0 := by decide +kernel
theorem hd_yX12_stands : yX12_stands.cls ≠ "java/lang/invoke/MethodHandle" ∧ yX12_stands.cls ≠ "java/lang/invoke/VarHandle" ∧ (parseMethodDescriptor yX12_stands.desc).map (fun d => d.parameters.length) = some 0 := by decide +kernel
theorem hd_yX12_lay : yX12_lay.cls ≠ "java/lang/invoke/MethodHandle" ∧ yX12_lay.cls ≠ "java/lang/invoke/VarHandle" ∧ (parseMethodDescriptor yX12_lay.desc).map (fun d => d.parameters.length) = some 1 := by decide +kernel
theorem hd_yX12_opens : yX12_opens.cls ≠ "java/lang/invoke/MethodHandle" ∧ yX12_opens.cls ≠ "java/lang/invoke/VarHandle" ∧ (parseMethodDescriptor yX12_opens.desc).map (fun d => d.parameters.length) = some 2 := by decide +kernel
theorem hd_yX12_signed : yX12_signed.cls ≠ "java/lang/invoke/MethodHandle" ∧ yX12_signed.cls ≠ "java/lang/invoke/VarHandle" ∧ (parseMethodDescriptor yX12_signed.desc).map (fun d => d.parameters.length) = some 2 := by decide +kernel
theorem hd_yX12_isOn : yX12_isOn.cls ≠ "java/lang/invoke/MethodHandle" ∧ yX12_isOn.cls ≠ "java/lang/invoke/VarHandle" ∧ (parseMethodDescriptor yX12_isOn.desc).map (fun d => d.parameters.length) = some 1 := by decide +kernel
theorem hd_yX12_drops : yX12_drops.cls ≠ "java/lang/invoke/MethodHandle" ∧ yX12_drops.cls ≠ "java/lang/invoke/VarHandle" ∧ (parseMethodDescriptor yX12_drops.desc).map (fun d => d.parameters.length) = some 0 := by decide +kernel
theorem hd_yX12_isMark : yX12_isMark.cls ≠ "java/lang/invoke/MethodHandle" ∧ yX12_isMark.cls ≠ "java/lang/invoke/VarHandle" ∧ (parseMethodDescriptor yX12_isMark.desc).map (fun d => d.parameters.length) = some 1 := by decide +kernel
theorem hd_yX12_hasSquare : yX12_hasSquare.cls ≠ "java/lang/invoke/MethodHandle" ∧ yX12_hasSquare.cls ≠ "java/lang/invoke/VarHandle" ∧ (parseMethodDescriptor yX12_hasSquare.desc).map (fun d => d.parameters.length) = some 0 := by decide +kernel
theorem hd_yX12_isReceiver : yX12_isReceiver.cls ≠ "java/lang/invoke/MethodHandle" ∧ yX12_isReceiver.cls ≠ "java/lang/invoke/VarHandle" ∧ (parseMethodDescriptor yX12_isReceiver.desc).map (fun d => d.parameters.length) = some 1 := by decide +kernel
theorem hd_yX12_isSender : yX12_isSender.cls ≠ "java/lang/invoke/MethodHandle" ∧ yX12_isSender.cls ≠ "java/lang/invoke/VarHandle" ∧ (parseMethodDescriptor yX12_isSender.desc).map (fun d => d.parameters.length) = some 1 := by decide +kernel
theorem hd_yX12_productOf : yX12_productOf.cls ≠ "java/lang/invoke/MethodHandle" ∧ yX12_productOf.cls ≠ "java/lang/invoke/VarHandle" ∧ (parseMethodDescriptor yX12_productOf.desc).map (fun d => d.parameters.length) = some 3 := by decide +kernel
theorem hd_yX12_clashOf : yX12_clashOf.cls ≠ "java/lang/invoke/MethodHandle" ∧ yX12_clashOf.cls ≠ "java/lang/invoke/VarHandle" ∧ (parseMethodDescriptor yX12_clashOf.desc).map (fun d => d.parameters.length) = some 3 := by decide +kernel
theorem hd_yX12_isLetterOf : yX12_isLetterOf.cls ≠ "java/lang/invoke/MethodHandle" ∧ yX12_isLetterOf.cls ≠ "java/lang/invoke/VarHandle" ∧ (parseMethodDescriptor yX12_isLetterOf.desc).map (fun d => d.parameters.length) = some 1 := by decide +kernel
theorem hd_yX12_isRowTold : yX12_isRowTold.cls ≠ "java/lang/invoke/MethodHandle" ∧ yX12_isRowTold.cls ≠ "java/lang/invoke/VarHandle" ∧ (parseMethodDescriptor yX12_isRowTold.desc).map (fun d => d.parameters.length) = some 0 := by decide +kernel
theorem hd_yX12_sentTo : yX12_sentTo.cls ≠ "java/lang/invoke/MethodHandle" ∧ yX12_sentTo.cls ≠ "java/lang/invoke/VarHandle" ∧ (parseMethodDescriptor yX12_sentTo.desc).map (fun d => d.parameters.length) = some 1 := by decide +kernel
theorem hd_yX12_squaresLess : yX12_squaresLess.cls ≠ "java/lang/invoke/MethodHandle" ∧ yX12_squaresLess.cls ≠ "java/lang/invoke/VarHandle" ∧ (parseMethodDescriptor yX12_squaresLess.desc).map (fun d => d.parameters.length) = some 1 := by decide +kernel
theorem hd_yX12_drawOf : yX12_drawOf.cls ≠ "java/lang/invoke/MethodHandle" ∧ yX12_drawOf.cls ≠ "java/lang/invoke/VarHandle" ∧ (parseMethodDescriptor yX12_drawOf.desc).map (fun d => d.parameters.length) = some 1 := by decide +kernel
theorem hd_yX12_rowMany : yX12_rowMany.cls ≠ "java/lang/invoke/MethodHandle" ∧ yX12_rowMany.cls ≠ "java/lang/invoke/VarHandle" ∧ (parseMethodDescriptor yX12_rowMany.desc).map (fun d => d.parameters.length) = some 0 := by decide +kernel
theorem hd_yX12_rowIs : yX12_rowIs.cls ≠ "java/lang/invoke/MethodHandle" ∧ yX12_rowIs.cls ≠ "java/lang/invoke/VarHandle" ∧ (parseMethodDescriptor yX12_rowIs.desc).map (fun d => d.parameters.length) = some 1 := by decide +kernel
theorem hd_yX12_distanceOf : yX12_distanceOf.cls ≠ "java/lang/invoke/MethodHandle" ∧ yX12_distanceOf.cls ≠ "java/lang/invoke/VarHandle" ∧ (parseMethodDescriptor yX12_distanceOf.desc).map (fun d => d.parameters.length) = some 1 := by decide +kernel
theorem hd_yX12_nears : yX12_nears.cls ≠ "java/lang/invoke/MethodHandle" ∧ yX12_nears.cls ≠ "java/lang/invoke/VarHandle" ∧ (parseMethodDescriptor yX12_nears.desc).map (fun d => d.parameters.length) = some 1 := by decide +kernel
theorem hd_yX12_isNear : yX12_isNear.cls ≠ "java/lang/invoke/MethodHandle" ∧ yX12_isNear.cls ≠ "java/lang/invoke/VarHandle" ∧ (parseMethodDescriptor yX12_isNear.desc).map (fun d => d.parameters.length) = some 1 := by decide +kernel
theorem hd_yX12_orders : yX12_orders.cls ≠ "java/lang/invoke/MethodHandle" ∧ yX12_orders.cls ≠ "java/lang/invoke/VarHandle" ∧ (parseMethodDescriptor yX12_orders.desc).map (fun d => d.parameters.length) = some 0 := by decide +kernel
theorem hd_yX12_restBy : yX12_restBy.cls ≠ "java/lang/invoke/MethodHandle" ∧ yX12_restBy.cls ≠ "java/lang/invoke/VarHandle" ∧ (parseMethodDescriptor yX12_restBy.desc).map (fun d => d.parameters.length) = some 2 := by decide +kernel
theorem hd_yX12_cancels : yX12_cancels.cls ≠ "java/lang/invoke/MethodHandle" ∧ yX12_cancels.cls ≠ "java/lang/invoke/VarHandle" ∧ (parseMethodDescriptor yX12_cancels.desc).map (fun d => d.parameters.length) = some 0 := by decide +kernel
theorem hd_yX12_nearestTo : yX12_nearestTo.cls ≠ "java/lang/invoke/MethodHandle" ∧ yX12_nearestTo.cls ≠ "java/lang/invoke/VarHandle" ∧ (parseMethodDescriptor yX12_nearestTo.desc).map (fun d => d.parameters.length) = some 2 := by decide +kernel
theorem hd_yX12_goes : yX12_goes.cls ≠ "java/lang/invoke/MethodHandle" ∧ yX12_goes.cls ≠ "java/lang/invoke/VarHandle" ∧ (parseMethodDescriptor yX12_goes.desc).map (fun d => d.parameters.length) = some 3 := by decide +kernel
theorem hd_yX12_isStep : yX12_isStep.cls ≠ "java/lang/invoke/MethodHandle" ∧ yX12_isStep.cls ≠ "java/lang/invoke/VarHandle" ∧ (parseMethodDescriptor yX12_isStep.desc).map (fun d => d.parameters.length) = some 0 := by decide +kernel
theorem hd_yX12_areSenders : yX12_areSenders.cls ≠ "java/lang/invoke/MethodHandle" ∧ yX12_areSenders.cls ≠ "java/lang/invoke/VarHandle" ∧ (parseMethodDescriptor yX12_areSenders.desc).map (fun d => d.parameters.length) = some 1 := by decide +kernel
theorem hd_yX12_isNext : yX12_isNext.cls ≠ "java/lang/invoke/MethodHandle" ∧ yX12_isNext.cls ≠ "java/lang/invoke/VarHandle" ∧ (parseMethodDescriptor yX12_isNext.desc).map (fun d => d.parameters.length) = some 3 := by decide +kernel
theorem hd_yX12_power : yX12_power.cls ≠ "java/lang/invoke/MethodHandle" ∧ yX12_power.cls ≠ "java/lang/invoke/VarHandle" ∧ (parseMethodDescriptor yX12_power.desc).map (fun d => d.parameters.length) = some 1 := by decide +kernel
theorem hd_yX12_apartOf : yX12_apartOf.cls ≠ "java/lang/invoke/MethodHandle" ∧ yX12_apartOf.cls ≠ "java/lang/invoke/VarHandle" ∧ (parseMethodDescriptor yX12_apartOf.desc).map (fun d => d.parameters.length) = some 2 := by decide +kernel
theorem hd_yX12_leastWithout : yX12_leastWithout.cls ≠ "java/lang/invoke/MethodHandle" ∧ yX12_leastWithout.cls ≠ "java/lang/invoke/VarHandle" ∧ (parseMethodDescriptor yX12_leastWithout.desc).map (fun d => d.parameters.length) = some 1 := by decide +kernel
theorem hd_yX12_isWord : yX12_isWord.cls ≠ "java/lang/invoke/MethodHandle" ∧ yX12_isWord.cls ≠ "java/lang/invoke/VarHandle" ∧ (parseMethodDescriptor yX12_isWord.desc).map (fun d => d.parameters.length) = some 1 := by decide +kernel
theorem hd_yX12_numberOf : yX12_numberOf.cls ≠ "java/lang/invoke/MethodHandle" ∧ yX12_numberOf.cls ≠ "java/lang/invoke/VarHandle" ∧ (parseMethodDescriptor yX12_numberOf.desc).map (fun d => d.parameters.length) = some 1 := by decide +kernel
theorem hd_yX12_aheadOf : yX12_aheadOf.cls ≠ "java/lang/invoke/MethodHandle" ∧ yX12_aheadOf.cls ≠ "java/lang/invoke/VarHandle" ∧ (parseMethodDescriptor yX12_aheadOf.desc).map (fun d => d.parameters.length) = some 0 := by decide +kernel
theorem hd_yX12_clip : yX12_clip.cls ≠ "java/lang/invoke/MethodHandle" ∧ yX12_clip.cls ≠ "java/lang/invoke/VarHandle" ∧ (parseMethodDescriptor yX12_clip.desc).map (fun d => d.parameters.length) = some 1 := by decide +kernel
theorem hd_yX12_puts : yX12_puts.cls ≠ "java/lang/invoke/MethodHandle" ∧ yX12_puts.cls ≠ "java/lang/invoke/VarHandle" ∧ (parseMethodDescriptor yX12_puts.desc).map (fun d => d.parameters.length) = some 1 := by decide +kernel
theorem hd_yX12_floor : yX12_floor.cls ≠ "java/lang/invoke/MethodHandle" ∧ yX12_floor.cls ≠ "java/lang/invoke/VarHandle" ∧ (parseMethodDescriptor yX12_floor.desc).map (fun d => d.parameters.length) = some 2 := by decide +kernel
theorem hd_yX12_joins : yX12_joins.cls ≠ "java/lang/invoke/MethodHandle" ∧ yX12_joins.cls ≠ "java/lang/invoke/VarHandle" ∧ (parseMethodDescriptor yX12_joins.desc).map (fun d => d.parameters.length) = some 1 := by decide +kernel
theorem hd_yX12_peak : yX12_peak.cls ≠ "java/lang/invoke/MethodHandle" ∧ yX12_peak.cls ≠ "java/lang/invoke/VarHandle" ∧ (parseMethodDescriptor yX12_peak.desc).map (fun d => d.parameters.length) = some 1 := by decide +kernel
theorem hd_yX12_told : yX12_told.cls ≠ "java/lang/invoke/MethodHandle" ∧ yX12_told.cls ≠ "java/lang/invoke/VarHandle" ∧ (parseMethodDescriptor yX12_told.desc).map (fun d => d.parameters.length) = some 3 := by decide +kernel
theorem hd_yX12_worthOf : yX12_worthOf.cls ≠ "java/lang/invoke/MethodHandle" ∧ yX12_worthOf.cls ≠ "java/lang/invoke/VarHandle" ∧ (parseMethodDescriptor yX12_worthOf.desc).map (fun d => d.parameters.length) = some 1 := by decide +kernel
theorem hd_yX12_bits : yX12_bits.cls ≠ "java/lang/invoke/MethodHandle" ∧ yX12_bits.cls ≠ "java/lang/invoke/VarHandle" ∧ (parseMethodDescriptor yX12_bits.desc).map (fun d => d.parameters.length) = some 1 := by decide +kernel
theorem hd_yX12_writes : yX12_writes.cls ≠ "java/lang/invoke/MethodHandle" ∧ yX12_writes.cls ≠ "java/lang/invoke/VarHandle" ∧ (parseMethodDescriptor yX12_writes.desc).map (fun d => d.parameters.length) = some 1 := by decide +kernel
theorem hd_yX12_checked : yX12_checked.cls ≠ "java/lang/invoke/MethodHandle" ∧ yX12_checked.cls ≠ "java/lang/invoke/VarHandle" ∧ (parseMethodDescriptor yX12_checked.desc).map (fun d => d.parameters.length) = some 2 := by decide +kernel
theorem hd_yX12_canLead : yX12_canLead.cls ≠ "java/lang/invoke/MethodHandle" ∧ yX12_canLead.cls ≠ "java/lang/invoke/VarHandle" ∧ (parseMethodDescriptor yX12_canLead.desc).map (fun d => d.parameters.length) = some 1 := by decide +kernel
theorem hd_yX12_takesBack : yX12_takesBack.cls ≠ "java/lang/invoke/MethodHandle" ∧ yX12_takesBack.cls ≠ "java/lang/invoke/VarHandle" ∧ (parseMethodDescriptor yX12_takesBack.desc).map (fun d => d.parameters.length) = some 0 := by decide +kernel
theorem tI_m1000000000 : ((-1000000000) : Int32).toInt = (-1000000000) := by decide +kernel
theorem tI_m32768 : ((-32768) : Int32).toInt = (-32768) := by decide +kernel
theorem tI_m8 : ((-8) : Int32).toInt = (-8) := by decide +kernel
theorem tI_m4 : ((-4) : Int32).toInt = (-4) := by decide +kernel
theorem tI_m1 : ((-1) : Int32).toInt = (-1) := by decide +kernel
theorem tI_0 : (0 : Int32).toInt = 0 := by decide +kernel
theorem tI_1 : (1 : Int32).toInt = 1 := by decide +kernel
theorem tI_2 : (2 : Int32).toInt = 2 := by decide +kernel
theorem tI_3 : (3 : Int32).toInt = 3 := by decide +kernel
theorem tI_4 : (4 : Int32).toInt = 4 := by decide +kernel
theorem tI_5 : (5 : Int32).toInt = 5 := by decide +kernel
theorem tI_6 : (6 : Int32).toInt = 6 := by decide +kernel
theorem tI_7 : (7 : Int32).toInt = 7 := by decide +kernel
theorem tI_8 : (8 : Int32).toInt = 8 := by decide +kernel
theorem tI_9 : (9 : Int32).toInt = 9 := by decide +kernel
theorem tI_10 : (10 : Int32).toInt = 10 := by decide +kernel
theorem tI_12 : (12 : Int32).toInt = 12 := by decide +kernel
theorem tI_14 : (14 : Int32).toInt = 14 := by decide +kernel
theorem tI_15 : (15 : Int32).toInt = 15 := by decide +kernel
theorem tI_16 : (16 : Int32).toInt = 16 := by decide +kernel
theorem tI_17 : (17 : Int32).toInt = 17 := by decide +kernel
theorem tI_20 : (20 : Int32).toInt = 20 := by decide +kernel
theorem tI_21 : (21 : Int32).toInt = 21 := by decide +kernel
theorem tI_22 : (22 : Int32).toInt = 22 := by decide +kernel
theorem tI_24 : (24 : Int32).toInt = 24 := by decide +kernel
theorem tI_25 : (25 : Int32).toInt = 25 := by decide +kernel
theorem tI_30 : (30 : Int32).toInt = 30 := by decide +kernel
theorem tI_32 : (32 : Int32).toInt = 32 := by decide +kernel
theorem tI_40 : (40 : Int32).toInt = 40 := by decide +kernel
theorem tI_42 : (42 : Int32).toInt = 42 := by decide +kernel
theorem tI_45 : (45 : Int32).toInt = 45 := by decide +kernel
theorem tI_48 : (48 : Int32).toInt = 48 := by decide +kernel
theorem tI_51 : (51 : Int32).toInt = 51 := by decide +kernel
theorem tI_57 : (57 : Int32).toInt = 57 := by decide +kernel
theorem tI_59 : (59 : Int32).toInt = 59 := by decide +kernel
theorem tI_60 : (60 : Int32).toInt = 60 := by decide +kernel
theorem tI_64 : (64 : Int32).toInt = 64 := by decide +kernel
theorem tI_80 : (80 : Int32).toInt = 80 := by decide +kernel
theorem tI_97 : (97 : Int32).toInt = 97 := by decide +kernel
theorem tI_99 : (99 : Int32).toInt = 99 := by decide +kernel
theorem tI_100 : (100 : Int32).toInt = 100 := by decide +kernel
theorem tI_122 : (122 : Int32).toInt = 122 := by decide +kernel
theorem tI_127 : (127 : Int32).toInt = 127 := by decide +kernel
theorem tI_200 : (200 : Int32).toInt = 200 := by decide +kernel
theorem tI_243 : (243 : Int32).toInt = 243 := by decide +kernel
theorem tI_253 : (253 : Int32).toInt = 253 := by decide +kernel
theorem tI_256 : (256 : Int32).toInt = 256 := by decide +kernel
theorem tI_1000 : (1000 : Int32).toInt = 1000 := by decide +kernel
theorem tI_1600 : (1600 : Int32).toInt = 1600 := by decide +kernel
theorem tI_9999 : (9999 : Int32).toInt = 9999 := by decide +kernel
theorem tI_32767 : (32767 : Int32).toInt = 32767 := by decide +kernel
theorem tI_65536 : (65536 : Int32).toInt = 65536 := by decide +kernel
theorem tL_m1000000000 : ((-1000000000) : Int64).toInt = (-1000000000) := by decide +kernel
theorem tL_m1000000 : ((-1000000) : Int64).toInt = (-1000000) := by decide +kernel
theorem tL_m32768 : ((-32768) : Int64).toInt = (-32768) := by decide +kernel
theorem tL_m1 : ((-1) : Int64).toInt = (-1) := by decide +kernel
theorem tL_0 : (0 : Int64).toInt = 0 := by decide +kernel
theorem tL_1 : (1 : Int64).toInt = 1 := by decide +kernel
theorem tL_2 : (2 : Int64).toInt = 2 := by decide +kernel
theorem tL_3 : (3 : Int64).toInt = 3 := by decide +kernel
theorem tL_5 : (5 : Int64).toInt = 5 := by decide +kernel
theorem tL_7 : (7 : Int64).toInt = 7 := by decide +kernel
theorem tL_9 : (9 : Int64).toInt = 9 := by decide +kernel
theorem tL_64 : (64 : Int64).toInt = 64 := by decide +kernel
theorem tL_100 : (100 : Int64).toInt = 100 := by decide +kernel
theorem tL_1000 : (1000 : Int64).toInt = 1000 := by decide +kernel
theorem tL_9999 : (9999 : Int64).toInt = 9999 := by decide +kernel
theorem tL_32767 : (32767 : Int64).toInt = 32767 := by decide +kernel
theorem tL_1000000 : (1000000 : Int64).toInt = 1000000 := by decide +kernel
theorem tL_2147483648 : (2147483648 : Int64).toInt = 2147483648 := by decide +kernel
theorem tL_1000000000000000 : (1000000000000000 : Int64).toInt = 1000000000000000 := by decide +kernel
