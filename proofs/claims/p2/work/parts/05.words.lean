theorem tw_43 : (.fieldLink RX9 15 "ManyOut$Tape" "length" "I" : Cond) ∈ lw_gd := g_mem (List.mem_append_right _ (g_k1 (List.mem_of_getElem? (i := 43) (by decide +kernel)))) rfl
theorem tw_42 : (.fieldLink RX9 9 "ManyOut$Tape" "bytes" "[B" : Cond) ∈ lw_gd := g_mem (List.mem_append_right _ (g_k1 (List.mem_of_getElem? (i := 42) (by decide +kernel)))) rfl
theorem tw_813 : (.methodLink RX9 19 yX9_at : Cond) ∈ lw_gd := g_mem (List.mem_append_right _ (g_k4 (List.mem_of_getElem? (i := 93) (by decide +kernel)))) rfl
theorem tw_518 : (.code yX9_at cX9_at 2 (some .int) : Cond) ∈ lw_gd := g_mem (List.mem_append_right _ (g_k3 (List.mem_of_getElem? (i := 38) rfl))) rfl
theorem tw_3 : (.initialized RX9 : Cond) ∈ lw_gd := g_mem (List.mem_append_right _ (g_k1 (List.mem_of_getElem? (i := 3) (by decide +kernel)))) rfl
theorem tw_517 : (.selects RX9 yX9_at yX9_at : Cond) ∈ lw_gd := g_mem (List.mem_append_right _ (g_k3 (List.mem_of_getElem? (i := 37) (by decide +kernel)))) rfl
theorem tw_516 : (.instanceMethod yX9_at : Cond) ∈ lw_gd := g_mem (List.mem_append_right _ (g_k3 (List.mem_of_getElem? (i := 36) (by decide +kernel)))) rfl
theorem tw_62 : (.fieldLink RX8 9 "ManyOut$Table" "numbers" "[I" : Cond) ∈ lw_gd := g_mem (List.mem_append_right _ (g_k1 (List.mem_of_getElem? (i := 62) (by decide +kernel)))) rfl
theorem tw_503 : (.methodLink RX8 15 yJ7_fill_53178 : Cond) ∈ lw_gd := g_mem (List.mem_append_right _ (g_k3 (List.mem_of_getElem? (i := 23) (by decide +kernel)))) rfl
theorem tw_505 : (.code yJ7_fill_53178 cJ7_fill_53178 4 none : Cond) ∈ lw_gd := g_mem (List.mem_append_right _ (g_k3 (List.mem_of_getElem? (i := 25) rfl))) rfl
theorem tw_10 : (.initialized RJ7 : Cond) ∈ lw_gd := g_mem (List.mem_append_right _ (g_k1 (List.mem_of_getElem? (i := 10) (by decide +kernel)))) rfl
theorem tw_504 : (.static yJ7_fill_53178 : Cond) ∈ lw_gd := g_mem (List.mem_append_right _ (g_k3 (List.mem_of_getElem? (i := 24) (by decide +kernel)))) rfl
theorem tw_743 : (.methodLink RX8 21 arraycopyName : Cond) ∈ lw_gd := g_mem (List.mem_append_right _ (g_k4 (List.mem_of_getElem? (i := 23) (by decide +kernel)))) rfl
theorem tw_745 : (.native arraycopyName : Cond) ∈ lw_gd := g_mem (List.mem_append_right _ (g_k4 (List.mem_of_getElem? (i := 25) (by decide +kernel)))) rfl
theorem tw_744 : (.static arraycopyName : Cond) ∈ lw_gd := g_mem (List.mem_append_right _ (g_k4 (List.mem_of_getElem? (i := 24) (by decide +kernel)))) rfl
theorem tw_20 : (.initialized RJ10 : Cond) ∈ lw_gd := g_mem (List.mem_append_right _ (g_k1 (List.mem_of_getElem? (i := 20) (by decide +kernel)))) rfl
theorem tw_800 : (.methodLink RX8 27 yX8_at : Cond) ∈ lw_gd := g_mem (List.mem_append_right _ (g_k4 (List.mem_of_getElem? (i := 80) (by decide +kernel)))) rfl
theorem tw_791 : (.code yX8_at cX8_at 3 (some .int) : Cond) ∈ lw_gd := g_mem (List.mem_append_right _ (g_k4 (List.mem_of_getElem? (i := 71) rfl))) rfl
theorem tw_5 : (.initialized RX8 : Cond) ∈ lw_gd := g_mem (List.mem_append_right _ (g_k1 (List.mem_of_getElem? (i := 5) (by decide +kernel)))) rfl
theorem tw_790 : (.selects RX8 yX8_at yX8_at : Cond) ∈ lw_gd := g_mem (List.mem_append_right _ (g_k4 (List.mem_of_getElem? (i := 70) (by decide +kernel)))) rfl
theorem tw_789 : (.instanceMethod yX8_at : Cond) ∈ lw_gd := g_mem (List.mem_append_right _ (g_k4 (List.mem_of_getElem? (i := 69) (by decide +kernel)))) rfl
theorem tw_1066 : (.methodLink RX8 43 yX8_setAt : Cond) ∈ lw_gd := g_mem (List.mem_append_right _ (g_k5 (List.mem_of_getElem? (i := 106) (by decide +kernel)))) rfl
theorem tw_637 : (.code yX8_setAt cX8_setAt 4 none : Cond) ∈ lw_gd := g_mem (List.mem_append_right _ (g_k3 (List.mem_of_getElem? (i := 157) rfl))) rfl
theorem tw_636 : (.selects RX8 yX8_setAt yX8_setAt : Cond) ∈ lw_gd := g_mem (List.mem_append_right _ (g_k3 (List.mem_of_getElem? (i := 156) (by decide +kernel)))) rfl
theorem tw_635 : (.instanceMethod yX8_setAt : Cond) ∈ lw_gd := g_mem (List.mem_append_right _ (g_k3 (List.mem_of_getElem? (i := 155) (by decide +kernel)))) rfl
theorem tw_1108 : (.methodLink RX8 40 yX8_productOf : Cond) ∈ lw_gd := g_mem (List.mem_append_right _ (g_k5 (List.mem_of_getElem? (i := 148) (by decide +kernel)))) rfl
theorem tw_799 : (.code yX8_productOf cX8_productOf 5 (some .int) : Cond) ∈ lw_gd := g_mem (List.mem_append_right _ (g_k4 (List.mem_of_getElem? (i := 79) rfl))) rfl
theorem tw_798 : (.selects RX8 yX8_productOf yX8_productOf : Cond) ∈ lw_gd := g_mem (List.mem_append_right _ (g_k4 (List.mem_of_getElem? (i := 78) (by decide +kernel)))) rfl
theorem tw_797 : (.instanceMethod yX8_productOf : Cond) ∈ lw_gd := g_mem (List.mem_append_right _ (g_k4 (List.mem_of_getElem? (i := 77) (by decide +kernel)))) rfl
theorem tw_1109 : (.constantLong RX8 47 (1000) : Cond) ∈ lw_gd := g_mem (List.mem_append_right _ (g_k5 (List.mem_of_getElem? (i := 149) (by decide +kernel)))) rfl
theorem tw_1118 : (.methodLink RX8 49 yX8_clashOf : Cond) ∈ lw_gd := g_mem (List.mem_append_right _ (g_k5 (List.mem_of_getElem? (i := 158) (by decide +kernel)))) rfl
theorem tw_1107 : (.code yX8_clashOf cX8_clashOf 7 (some .int) : Cond) ∈ lw_gd := g_mem (List.mem_append_right _ (g_k5 (List.mem_of_getElem? (i := 147) rfl))) rfl
theorem tw_1106 : (.selects RX8 yX8_clashOf yX8_clashOf : Cond) ∈ lw_gd := g_mem (List.mem_append_right _ (g_k5 (List.mem_of_getElem? (i := 146) (by decide +kernel)))) rfl
theorem tw_1105 : (.instanceMethod yX8_clashOf : Cond) ∈ lw_gd := g_mem (List.mem_append_right _ (g_k5 (List.mem_of_getElem? (i := 145) (by decide +kernel)))) rfl
theorem tw_1331 : (.methodLink RX8 31 Lib.Math.abs.name : Cond) ∈ lw_gd := g_mem (List.mem_append_right _ (g_k6 (List.mem_of_getElem? (i := 131) (by decide +kernel)))) rfl
theorem tw_632 : (.static Lib.Math.abs.name : Cond) ∈ lw_gd := g_mem (List.mem_append_right _ (g_k3 (List.mem_of_getElem? (i := 152) (by decide +kernel)))) rfl
theorem tw_19 : (.initialized RJ9 : Cond) ∈ lw_gd := g_mem (List.mem_append_right _ (g_k1 (List.mem_of_getElem? (i := 19) (by decide +kernel)))) rfl
theorem tw_633 : (.code Lib.Math.abs.name Lib.Math.abs.code 1 (some .int) : Cond) ∈ lw_gd := g_mem (List.mem_append_right _ (g_k3 (List.mem_of_getElem? (i := 153) rfl))) rfl
theorem tw_1332 : (.methodLink RX8 37 Lib.Math.max.name : Cond) ∈ lw_gd := g_mem (List.mem_append_right _ (g_k6 (List.mem_of_getElem? (i := 132) (by decide +kernel)))) rfl
theorem tw_885 : (.static Lib.Math.max.name : Cond) ∈ lw_gd := g_mem (List.mem_append_right _ (g_k4 (List.mem_of_getElem? (i := 165) (by decide +kernel)))) rfl
theorem tw_886 : (.code Lib.Math.max.name Lib.Math.max.code 2 (some .int) : Cond) ∈ lw_gd := g_mem (List.mem_append_right _ (g_k4 (List.mem_of_getElem? (i := 166) rfl))) rfl
theorem tw_78 : (.fieldLink RX5 27 "ManyOut$Rules" "length" "I" : Cond) ∈ lw_gd := g_mem (List.mem_append_right _ (g_k1 (List.mem_of_getElem? (i := 78) (by decide +kernel)))) rfl
theorem tw_79 : (.fieldLink RX5 31 "ManyOut$Rules" "count" "I" : Cond) ∈ lw_gd := g_mem (List.mem_append_right _ (g_k1 (List.mem_of_getElem? (i := 79) (by decide +kernel)))) rfl
theorem tw_74 : (.fieldLink RX5 15 "ManyOut$Rules" "sumAt" "[I" : Cond) ∈ lw_gd := g_mem (List.mem_append_right _ (g_k1 (List.mem_of_getElem? (i := 74) (by decide +kernel)))) rfl
theorem tw_73 : (.fieldLink RX5 9 "ManyOut$Rules" "code" "[I" : Cond) ∈ lw_gd := g_mem (List.mem_append_right _ (g_k1 (List.mem_of_getElem? (i := 73) (by decide +kernel)))) rfl
theorem tw_75 : (.fieldLink RX5 18 "ManyOut$Rules" "testAt" "[I" : Cond) ∈ lw_gd := g_mem (List.mem_append_right _ (g_k1 (List.mem_of_getElem? (i := 75) (by decide +kernel)))) rfl
theorem tw_76 : (.fieldLink RX5 21 "ManyOut$Rules" "endAt" "[I" : Cond) ∈ lw_gd := g_mem (List.mem_append_right _ (g_k1 (List.mem_of_getElem? (i := 76) (by decide +kernel)))) rfl
theorem tw_1337 : (.methodLink RX5 34 yX5_valueOf : Cond) ∈ lw_gd := g_mem (List.mem_append_right _ (g_k6 (List.mem_of_getElem? (i := 137) (by decide +kernel)))) rfl
theorem tw_77 : (.fieldLink RX5 24 "ManyOut$Rules" "stack" "[I" : Cond) ∈ lw_gd := g_mem (List.mem_append_right _ (g_k1 (List.mem_of_getElem? (i := 77) (by decide +kernel)))) rfl
theorem tw_1341 : (.methodLink RX5 38 yX5_partBy : Cond) ∈ lw_gd := g_mem (List.mem_append_right _ (g_k6 (List.mem_of_getElem? (i := 141) (by decide +kernel)))) rfl
theorem tw_1343 : (.code yX5_partBy cX5_partBy 4 (some .int) : Cond) ∈ lw_gd := g_mem (List.mem_append_right _ (g_k6 (List.mem_of_getElem? (i := 143) rfl))) rfl
theorem tw_6 : (.initialized RX5 : Cond) ∈ lw_gd := g_mem (List.mem_append_right _ (g_k1 (List.mem_of_getElem? (i := 6) (by decide +kernel)))) rfl
theorem tw_1342 : (.static yX5_partBy : Cond) ∈ lw_gd := g_mem (List.mem_append_right _ (g_k6 (List.mem_of_getElem? (i := 142) (by decide +kernel)))) rfl
theorem tw_1344 : (.methodLink RX5 42 yX5_joined : Cond) ∈ lw_gd := g_mem (List.mem_append_right _ (g_k6 (List.mem_of_getElem? (i := 144) (by decide +kernel)))) rfl
theorem tw_1360 : (.methodLink RX5 59 Lib.Math.max.name : Cond) ∈ lw_gd := g_mem (List.mem_append_right _ (g_k6 (List.mem_of_getElem? (i := 160) (by decide +kernel)))) rfl
theorem tw_1357 : (.methodLink RX5 56 Lib.Math.min.name : Cond) ∈ lw_gd := g_mem (List.mem_append_right _ (g_k6 (List.mem_of_getElem? (i := 157) (by decide +kernel)))) rfl
theorem tw_1358 : (.static Lib.Math.min.name : Cond) ∈ lw_gd := g_mem (List.mem_append_right _ (g_k6 (List.mem_of_getElem? (i := 158) (by decide +kernel)))) rfl
theorem tw_1359 : (.code Lib.Math.min.name Lib.Math.min.code 2 (some .int) : Cond) ∈ lw_gd := g_mem (List.mem_append_right _ (g_k6 (List.mem_of_getElem? (i := 159) rfl))) rfl
theorem tw_1354 : (.methodLink RX5 50 yJ9_floorDiv_7cf53 : Cond) ∈ lw_gd := g_mem (List.mem_append_right _ (g_k6 (List.mem_of_getElem? (i := 154) (by decide +kernel)))) rfl
theorem tw_1350 : (.constantLong RX5 62 (-1000000) : Cond) ∈ lw_gd := g_mem (List.mem_append_right _ (g_k6 (List.mem_of_getElem? (i := 150) (by decide +kernel)))) rfl
theorem tw_1351 : (.constantLong RX5 64 (1000000) : Cond) ∈ lw_gd := g_mem (List.mem_append_right _ (g_k6 (List.mem_of_getElem? (i := 151) (by decide +kernel)))) rfl
theorem tw_1352 : (.methodLink RX5 66 Lib.MathLoose.min_long.x : Cond) ∈ lw_gd := g_mem (List.mem_append_right _ (g_k6 (List.mem_of_getElem? (i := 152) (by decide +kernel)))) rfl
theorem tw_857 : (.static Lib.MathLoose.min_long.x : Cond) ∈ lw_gd := g_mem (List.mem_append_right _ (g_k4 (List.mem_of_getElem? (i := 137) (by decide +kernel)))) rfl
theorem tw_858 : (.code Lib.MathLoose.min_long.x Lib.MathLoose.min_long.code 4 (some .long) : Cond) ∈ lw_gd := g_mem (List.mem_append_right _ (g_k4 (List.mem_of_getElem? (i := 138) rfl))) rfl
theorem tw_1353 : (.methodLink RX5 69 Lib.MathLoose.max_long.x : Cond) ∈ lw_gd := g_mem (List.mem_append_right _ (g_k6 (List.mem_of_getElem? (i := 153) (by decide +kernel)))) rfl
theorem tw_860 : (.static Lib.MathLoose.max_long.x : Cond) ∈ lw_gd := g_mem (List.mem_append_right _ (g_k4 (List.mem_of_getElem? (i := 140) (by decide +kernel)))) rfl
theorem tw_861 : (.code Lib.MathLoose.max_long.x Lib.MathLoose.max_long.code 4 (some .long) : Cond) ∈ lw_gd := g_mem (List.mem_append_right _ (g_k4 (List.mem_of_getElem? (i := 141) rfl))) rfl
theorem tw_97 : (.fieldLink RX1 12 "ManyOut$House" "table" "LManyOut$Table;" : Cond) ∈ lw_gd := g_mem (List.mem_append_right _ (g_k1 (List.mem_of_getElem? (i := 97) (by decide +kernel)))) rfl
theorem tw_499 : (.methodLink RX1 51 yX8_clear : Cond) ∈ lw_gd := g_mem (List.mem_append_right _ (g_k3 (List.mem_of_getElem? (i := 19) (by decide +kernel)))) rfl
theorem tw_502 : (.code yX8_clear cX8_clear 1 none : Cond) ∈ lw_gd := g_mem (List.mem_append_right _ (g_k3 (List.mem_of_getElem? (i := 22) rfl))) rfl
theorem tw_501 : (.selects RX8 yX8_clear yX8_clear : Cond) ∈ lw_gd := g_mem (List.mem_append_right _ (g_k3 (List.mem_of_getElem? (i := 21) (by decide +kernel)))) rfl
theorem tw_500 : (.instanceMethod yX8_clear : Cond) ∈ lw_gd := g_mem (List.mem_append_right _ (g_k3 (List.mem_of_getElem? (i := 20) (by decide +kernel)))) rfl
theorem tw_105 : (.fieldLink RX1 21 "ManyOut$House" "rules" "LManyOut$Rules;" : Cond) ∈ lw_gd := g_mem (List.mem_append_right _ (g_k1 (List.mem_of_getElem? (i := 105) (by decide +kernel)))) rfl
theorem tw_506 : (.methodLink RX1 54 yX5_clear : Cond) ∈ lw_gd := g_mem (List.mem_append_right _ (g_k3 (List.mem_of_getElem? (i := 26) (by decide +kernel)))) rfl
theorem tw_509 : (.code yX5_clear cX5_clear 1 none : Cond) ∈ lw_gd := g_mem (List.mem_append_right _ (g_k3 (List.mem_of_getElem? (i := 29) rfl))) rfl
theorem tw_508 : (.selects RX5 yX5_clear yX5_clear : Cond) ∈ lw_gd := g_mem (List.mem_append_right _ (g_k3 (List.mem_of_getElem? (i := 28) (by decide +kernel)))) rfl
theorem tw_507 : (.instanceMethod yX5_clear : Cond) ∈ lw_gd := g_mem (List.mem_append_right _ (g_k3 (List.mem_of_getElem? (i := 27) (by decide +kernel)))) rfl
theorem tw_110 : (.fieldLink RX1 29 "ManyOut$House" "letters" "I" : Cond) ∈ lw_gd := g_mem (List.mem_append_right _ (g_k1 (List.mem_of_getElem? (i := 110) (by decide +kernel)))) rfl
theorem tw_116 : (.fieldLink RX1 33 "ManyOut$House" "senders" "I" : Cond) ∈ lw_gd := g_mem (List.mem_append_right _ (g_k1 (List.mem_of_getElem? (i := 116) (by decide +kernel)))) rfl
theorem tw_125 : (.fieldLink RX1 36 "ManyOut$House" "receivers" "I" : Cond) ∈ lw_gd := g_mem (List.mem_append_right _ (g_k1 (List.mem_of_getElem? (i := 125) (by decide +kernel)))) rfl
theorem tw_132 : (.fieldLink RX1 39 "ManyOut$House" "rowsTold" "I" : Cond) ∈ lw_gd := g_mem (List.mem_append_right _ (g_k1 (List.mem_of_getElem? (i := 132) (by decide +kernel)))) rfl
theorem tw_135 : (.fieldLink RX1 42 "ManyOut$House" "wordsTold" "I" : Cond) ∈ lw_gd := g_mem (List.mem_append_right _ (g_k1 (List.mem_of_getElem? (i := 135) (by decide +kernel)))) rfl
theorem tw_139 : (.fieldLink RX1 45 "ManyOut$House" "limit" "I" : Cond) ∈ lw_gd := g_mem (List.mem_append_right _ (g_k1 (List.mem_of_getElem? (i := 139) (by decide +kernel)))) rfl
theorem tw_143 : (.fieldLink RX1 48 "ManyOut$House" "statements" "I" : Cond) ∈ lw_gd := g_mem (List.mem_append_right _ (g_k1 (List.mem_of_getElem? (i := 143) (by decide +kernel)))) rfl
theorem tw_843 : (.methodLink RX1 72 yX8_sentTo : Cond) ∈ lw_gd := g_mem (List.mem_append_right _ (g_k4 (List.mem_of_getElem? (i := 123) (by decide +kernel)))) rfl
theorem tw_834 : (.code yX8_sentTo cX8_sentTo 6 (some .int) : Cond) ∈ lw_gd := g_mem (List.mem_append_right _ (g_k4 (List.mem_of_getElem? (i := 114) rfl))) rfl
theorem tw_833 : (.selects RX8 yX8_sentTo yX8_sentTo : Cond) ∈ lw_gd := g_mem (List.mem_append_right _ (g_k4 (List.mem_of_getElem? (i := 113) (by decide +kernel)))) rfl
theorem tw_832 : (.instanceMethod yX8_sentTo : Cond) ∈ lw_gd := g_mem (List.mem_append_right _ (g_k4 (List.mem_of_getElem? (i := 112) (by decide +kernel)))) rfl
theorem tw_941 : (.methodLink RX1 59 yX1_digitInRow : Cond) ∈ lw_gd := g_mem (List.mem_append_right _ (g_k4 (List.mem_of_getElem? (i := 221) (by decide +kernel)))) rfl
theorem tw_945 : (.methodLink RX1 55 yX1_rowsOf : Cond) ∈ lw_gd := g_mem (List.mem_append_right _ (g_k4 (List.mem_of_getElem? (i := 225) (by decide +kernel)))) rfl
theorem tw_948 : (.code yX1_rowsOf cX1_rowsOf 4 (some .int) : Cond) ∈ lw_gd := g_mem (List.mem_append_right _ (g_k4 (List.mem_of_getElem? (i := 228) rfl))) rfl
theorem tw_4 : (.initialized RX1 : Cond) ∈ lw_gd := g_mem (List.mem_append_right _ (g_k1 (List.mem_of_getElem? (i := 4) (by decide +kernel)))) rfl
theorem tw_947 : (.selects RX1 yX1_rowsOf yX1_rowsOf : Cond) ∈ lw_gd := g_mem (List.mem_append_right _ (g_k4 (List.mem_of_getElem? (i := 227) (by decide +kernel)))) rfl
theorem tw_946 : (.instanceMethod yX1_rowsOf : Cond) ∈ lw_gd := g_mem (List.mem_append_right _ (g_k4 (List.mem_of_getElem? (i := 226) (by decide +kernel)))) rfl
theorem tw_944 : (.code yX1_digitInRow cX1_digitInRow 4 (some .int) : Cond) ∈ lw_gd := g_mem (List.mem_append_right _ (g_k4 (List.mem_of_getElem? (i := 224) rfl))) rfl
theorem tw_943 : (.selects RX1 yX1_digitInRow yX1_digitInRow : Cond) ∈ lw_gd := g_mem (List.mem_append_right _ (g_k4 (List.mem_of_getElem? (i := 223) (by decide +kernel)))) rfl
theorem tw_942 : (.instanceMethod yX1_digitInRow : Cond) ∈ lw_gd := g_mem (List.mem_append_right _ (g_k4 (List.mem_of_getElem? (i := 222) (by decide +kernel)))) rfl
theorem tw_949 : (.methodLink RX1 63 yX1_letterOfDigit : Cond) ∈ lw_gd := g_mem (List.mem_append_right _ (g_k4 (List.mem_of_getElem? (i := 229) (by decide +kernel)))) rfl
theorem tw_952 : (.code yX1_letterOfDigit cX1_letterOfDigit 2 (some .int) : Cond) ∈ lw_gd := g_mem (List.mem_append_right _ (g_k4 (List.mem_of_getElem? (i := 232) rfl))) rfl
theorem tw_951 : (.selects RX1 yX1_letterOfDigit yX1_letterOfDigit : Cond) ∈ lw_gd := g_mem (List.mem_append_right _ (g_k4 (List.mem_of_getElem? (i := 231) (by decide +kernel)))) rfl
theorem tw_950 : (.instanceMethod yX1_letterOfDigit : Cond) ∈ lw_gd := g_mem (List.mem_append_right _ (g_k4 (List.mem_of_getElem? (i := 230) (by decide +kernel)))) rfl
theorem tw_108 : (.fieldLink RX1 25 "ManyOut$House" "words" "[I" : Cond) ∈ lw_gd := g_mem (List.mem_append_right _ (g_k1 (List.mem_of_getElem? (i := 108) (by decide +kernel)))) rfl
theorem tw_1191 : (.methodLink RX1 76 Lib.Math.max.name : Cond) ∈ lw_gd := g_mem (List.mem_append_right _ (g_k5 (List.mem_of_getElem? (i := 231) (by decide +kernel)))) rfl
theorem tw_1190 : (.methodLink RX1 69 yX1_letterOfWord : Cond) ∈ lw_gd := g_mem (List.mem_append_right _ (g_k5 (List.mem_of_getElem? (i := 230) (by decide +kernel)))) rfl
theorem tw_1181 : (.code yX1_letterOfWord cX1_letterOfWord 3 (some .int) : Cond) ∈ lw_gd := g_mem (List.mem_append_right _ (g_k5 (List.mem_of_getElem? (i := 221) rfl))) rfl
theorem tw_1180 : (.selects RX1 yX1_letterOfWord yX1_letterOfWord : Cond) ∈ lw_gd := g_mem (List.mem_append_right _ (g_k5 (List.mem_of_getElem? (i := 220) (by decide +kernel)))) rfl
theorem tw_1179 : (.instanceMethod yX1_letterOfWord : Cond) ∈ lw_gd := g_mem (List.mem_append_right _ (g_k5 (List.mem_of_getElem? (i := 219) (by decide +kernel)))) rfl
theorem tw_1231 : (.methodLink RX1 66 yX1_digitOfLetter : Cond) ∈ lw_gd := g_mem (List.mem_append_right _ (g_k6 (List.mem_of_getElem? (i := 31) (by decide +kernel)))) rfl
theorem tw_1008 : (.code yX1_digitOfLetter cX1_digitOfLetter 2 (some .int) : Cond) ∈ lw_gd := g_mem (List.mem_append_right _ (g_k5 (List.mem_of_getElem? (i := 48) rfl))) rfl
theorem tw_1007 : (.selects RX1 yX1_digitOfLetter yX1_digitOfLetter : Cond) ∈ lw_gd := g_mem (List.mem_append_right _ (g_k5 (List.mem_of_getElem? (i := 47) (by decide +kernel)))) rfl
theorem tw_1006 : (.instanceMethod yX1_digitOfLetter : Cond) ∈ lw_gd := g_mem (List.mem_append_right _ (g_k5 (List.mem_of_getElem? (i := 46) (by decide +kernel)))) rfl
theorem tw_1326 : (.methodLink RX1 81 yX8_productOf : Cond) ∈ lw_gd := g_mem (List.mem_append_right _ (g_k6 (List.mem_of_getElem? (i := 126) (by decide +kernel)))) rfl
theorem tw_1327 : (.methodLink RX1 84 yX8_peakOf : Cond) ∈ lw_gd := g_mem (List.mem_append_right _ (g_k6 (List.mem_of_getElem? (i := 127) (by decide +kernel)))) rfl
theorem tw_1330 : (.code yX8_peakOf cX8_peakOf 4 (some .int) : Cond) ∈ lw_gd := g_mem (List.mem_append_right _ (g_k6 (List.mem_of_getElem? (i := 130) rfl))) rfl
theorem tw_1329 : (.selects RX8 yX8_peakOf yX8_peakOf : Cond) ∈ lw_gd := g_mem (List.mem_append_right _ (g_k6 (List.mem_of_getElem? (i := 129) (by decide +kernel)))) rfl
theorem tw_1328 : (.instanceMethod yX8_peakOf : Cond) ∈ lw_gd := g_mem (List.mem_append_right _ (g_k6 (List.mem_of_getElem? (i := 128) (by decide +kernel)))) rfl
theorem tw_1333 : (.methodLink RX1 87 yX5_worthBy : Cond) ∈ lw_gd := g_mem (List.mem_append_right _ (g_k6 (List.mem_of_getElem? (i := 133) (by decide +kernel)))) rfl
theorem tn_117 : (.fieldLinkNest RX10 38 "ManyOut$House" "senders" "I" "ManyOut" : Cond) ∈ lw_nw := g_nmem (g_k1 (List.mem_of_getElem? (i := 117) (by decide +kernel))) rfl
theorem tw_884 : (.methodLink RX10 43 Lib.Math.max.name : Cond) ∈ lw_gd := g_mem (List.mem_append_right _ (g_k4 (List.mem_of_getElem? (i := 164) (by decide +kernel)))) rfl
theorem tw_220 : (.fieldLink RX10 34 "ManyOut$Walk" "last" "I" : Cond) ∈ lw_gd := g_mem (List.mem_append_right _ (g_k1 (List.mem_of_getElem? (i := 220) (by decide +kernel)))) rfl
theorem tw_207 : (.fieldLink RX10 9 "ManyOut$Walk" "products" "[J" : Cond) ∈ lw_gd := g_mem (List.mem_append_right _ (g_k1 (List.mem_of_getElem? (i := 207) (by decide +kernel)))) rfl
theorem tn_99 : (.fieldLinkNest RX10 49 "ManyOut$House" "table" "LManyOut$Table;" "ManyOut" : Cond) ∈ lw_nw := g_nmem (g_k1 (List.mem_of_getElem? (i := 99) (by decide +kernel))) rfl
theorem tw_887 : (.methodLink RX10 53 yX8_productOf : Cond) ∈ lw_gd := g_mem (List.mem_append_right _ (g_k4 (List.mem_of_getElem? (i := 167) (by decide +kernel)))) rfl
theorem tw_210 : (.fieldLink RX10 18 "ManyOut$Walk" "cross" "[J" : Cond) ∈ lw_gd := g_mem (List.mem_append_right _ (g_k1 (List.mem_of_getElem? (i := 210) (by decide +kernel)))) rfl
theorem tw_209 : (.fieldLink RX10 15 "ManyOut$Walk" "base" "[J" : Cond) ∈ lw_gd := g_mem (List.mem_append_right _ (g_k1 (List.mem_of_getElem? (i := 209) (by decide +kernel)))) rfl
theorem tn_126 : (.fieldLinkNest RX10 58 "ManyOut$House" "receivers" "I" "ManyOut" : Cond) ∈ lw_nw := g_nmem (g_k1 (List.mem_of_getElem? (i := 126) (by decide +kernel))) rfl
theorem tw_892 : (.methodLink RX10 61 yX8_at : Cond) ∈ lw_gd := g_mem (List.mem_append_right _ (g_k4 (List.mem_of_getElem? (i := 172) (by decide +kernel)))) rfl
theorem tw_897 : (.methodLink RX10 64 yX10_setNumbers : Cond) ∈ lw_gd := g_mem (List.mem_append_right _ (g_k4 (List.mem_of_getElem? (i := 177) (by decide +kernel)))) rfl
theorem tw_211 : (.fieldLink RX10 21 "ManyOut$Walk" "low" "[I" : Cond) ∈ lw_gd := g_mem (List.mem_append_right _ (g_k1 (List.mem_of_getElem? (i := 211) (by decide +kernel)))) rfl
theorem tw_213 : (.fieldLink RX10 25 "ManyOut$Walk" "gap" "[I" : Cond) ∈ lw_gd := g_mem (List.mem_append_right _ (g_k1 (List.mem_of_getElem? (i := 213) (by decide +kernel)))) rfl
theorem tw_214 : (.fieldLink RX10 28 "ManyOut$Walk" "count" "[I" : Cond) ∈ lw_gd := g_mem (List.mem_append_right _ (g_k1 (List.mem_of_getElem? (i := 214) (by decide +kernel)))) rfl
theorem tw_900 : (.code yX10_setNumbers cX10_setNumbers 5 none : Cond) ∈ lw_gd := g_mem (List.mem_append_right _ (g_k4 (List.mem_of_getElem? (i := 180) rfl))) rfl
theorem tw_8 : (.initialized RX10 : Cond) ∈ lw_gd := g_mem (List.mem_append_right _ (g_k1 (List.mem_of_getElem? (i := 8) (by decide +kernel)))) rfl
theorem tw_899 : (.selects RX10 yX10_setNumbers yX10_setNumbers : Cond) ∈ lw_gd := g_mem (List.mem_append_right _ (g_k4 (List.mem_of_getElem? (i := 179) (by decide +kernel)))) rfl
theorem tw_898 : (.instanceMethod yX10_setNumbers : Cond) ∈ lw_gd := g_mem (List.mem_append_right _ (g_k4 (List.mem_of_getElem? (i := 178) (by decide +kernel)))) rfl
theorem tw_216 : (.fieldLink RX10 31 "ManyOut$Walk" "digit" "[I" : Cond) ∈ lw_gd := g_mem (List.mem_append_right _ (g_k1 (List.mem_of_getElem? (i := 216) (by decide +kernel)))) rfl
theorem tw_905 : (.methodLink RX10 68 yJ7_fill_53178 : Cond) ∈ lw_gd := g_mem (List.mem_append_right _ (g_k4 (List.mem_of_getElem? (i := 185) (by decide +kernel)))) rfl
theorem tw_906 : (.methodLink RX10 74 yX10_settle : Cond) ∈ lw_gd := g_mem (List.mem_append_right _ (g_k4 (List.mem_of_getElem? (i := 186) (by decide +kernel)))) rfl
theorem tw_910 : (.constantLong RX10 78 (2) : Cond) ∈ lw_gd := g_mem (List.mem_append_right _ (g_k4 (List.mem_of_getElem? (i := 190) (by decide +kernel)))) rfl
theorem tw_909 : (.code yX10_settle cX10_settle 7 none : Cond) ∈ lw_gd := g_mem (List.mem_append_right _ (g_k4 (List.mem_of_getElem? (i := 189) rfl))) rfl
theorem tp_33 : (.selects RX10 yX10_settle yX10_settle : Cond) ∈ lw_gd := g_mem (List.mem_append_left _ (List.mem_of_getElem? (i := 33) (by decide +kernel))) rfl
theorem tw_908 : (.instanceMethod yX10_settle : Cond) ∈ lw_gd := g_mem (List.mem_append_right _ (g_k4 (List.mem_of_getElem? (i := 188) (by decide +kernel)))) rfl
theorem tw_1152 : (.methodLink RX10 80 yJ9_floorDiv_f86c9 : Cond) ∈ lw_gd := g_mem (List.mem_append_right _ (g_k5 (List.mem_of_getElem? (i := 192) (by decide +kernel)))) rfl
theorem tw_317 : (.fieldLink RX0 23 "ManyOut$Code" "known" "Z" : Cond) ∈ lw_gd := g_mem (List.mem_append_right _ (g_k2 (List.mem_of_getElem? (i := 77) (by decide +kernel)))) rfl
theorem tn_136 : (.fieldLinkNest RX0 37 "ManyOut$House" "wordsTold" "I" "ManyOut" : Cond) ∈ lw_nw := g_nmem (g_k1 (List.mem_of_getElem? (i := 136) (by decide +kernel))) rfl
theorem tw_316 : (.fieldLink RX0 19 "ManyOut$Code" "words" "I" : Cond) ∈ lw_gd := g_mem (List.mem_append_right _ (g_k2 (List.mem_of_getElem? (i := 76) (by decide +kernel)))) rfl
theorem tw_314 : (.fieldLink RX0 9 "ManyOut$Code" "worth" "[J" : Cond) ∈ lw_gd := g_mem (List.mem_append_right _ (g_k2 (List.mem_of_getElem? (i := 74) (by decide +kernel)))) rfl
theorem tw_1196 : (.methodLink RX0 42 yX0_worthOfPair : Cond) ∈ lw_gd := g_mem (List.mem_append_right _ (g_k5 (List.mem_of_getElem? (i := 236) (by decide +kernel)))) rfl
theorem tn_119 : (.fieldLinkNest RX0 46 "ManyOut$House" "senders" "I" "ManyOut" : Cond) ∈ lw_nw := g_nmem (g_k1 (List.mem_of_getElem? (i := 119) (by decide +kernel))) rfl
theorem tn_127 : (.fieldLinkNest RX0 53 "ManyOut$House" "receivers" "I" "ManyOut" : Cond) ∈ lw_nw := g_nmem (g_k1 (List.mem_of_getElem? (i := 127) (by decide +kernel))) rfl
theorem tn_100 : (.fieldLinkNest RX0 56 "ManyOut$House" "table" "LManyOut$Table;" "ManyOut" : Cond) ∈ lw_nw := g_nmem (g_k1 (List.mem_of_getElem? (i := 100) (by decide +kernel))) rfl
theorem tw_315 : (.fieldLink RX0 15 "ManyOut$Code" "difference" "[I" : Cond) ∈ lw_gd := g_mem (List.mem_append_right _ (g_k2 (List.mem_of_getElem? (i := 75) (by decide +kernel)))) rfl
theorem tw_1201 : (.methodLink RX0 60 yX8_sentTo : Cond) ∈ lw_gd := g_mem (List.mem_append_right _ (g_k6 (List.mem_of_getElem? (i := 1) (by decide +kernel)))) rfl
theorem tw_1200 : (.methodLink RX0 49 yX1_letterOfWord : Cond) ∈ lw_gd := g_mem (List.mem_append_right _ (g_k6 (List.mem_of_getElem? (i := 0) (by decide +kernel)))) rfl
theorem tw_1199 : (.code yX0_worthOfPair cX0_worthOfPair 9 (some .long) : Cond) ∈ lw_gd := g_mem (List.mem_append_right _ (g_k5 (List.mem_of_getElem? (i := 239) rfl))) rfl
theorem tw_11 : (.initialized RX0 : Cond) ∈ lw_gd := g_mem (List.mem_append_right _ (g_k1 (List.mem_of_getElem? (i := 11) (by decide +kernel)))) rfl
theorem tp_46 : (.selects RX0 yX0_worthOfPair yX0_worthOfPair : Cond) ∈ lw_gd := g_mem (List.mem_append_left _ (List.mem_of_getElem? (i := 46) (by decide +kernel))) rfl
theorem tw_1198 : (.instanceMethod yX0_worthOfPair : Cond) ∈ lw_gd := g_mem (List.mem_append_right _ (g_k5 (List.mem_of_getElem? (i := 238) (by decide +kernel)))) rfl
theorem tw_1206 : (.constantLong RX0 66 (1000000000000000) : Cond) ∈ lw_gd := g_mem (List.mem_append_right _ (g_k6 (List.mem_of_getElem? (i := 6) (by decide +kernel)))) rfl
theorem tw_318 : (.fieldLink RX0 27 "ManyOut$Code" "leastWorth" "J" : Cond) ∈ lw_gd := g_mem (List.mem_append_right _ (g_k2 (List.mem_of_getElem? (i := 78) (by decide +kernel)))) rfl
theorem tw_320 : (.fieldLink RX0 31 "ManyOut$Code" "leastPairs" "I" : Cond) ∈ lw_gd := g_mem (List.mem_append_right _ (g_k2 (List.mem_of_getElem? (i := 80) (by decide +kernel)))) rfl
theorem tw_1207 : (.methodLink RX0 68 yX0_weighPair : Cond) ∈ lw_gd := g_mem (List.mem_append_right _ (g_k6 (List.mem_of_getElem? (i := 7) (by decide +kernel)))) rfl
theorem tw_322 : (.fieldLink RX0 34 "ManyOut$Code" "firstPair" "I" : Cond) ∈ lw_gd := g_mem (List.mem_append_right _ (g_k2 (List.mem_of_getElem? (i := 82) (by decide +kernel)))) rfl
theorem tw_1210 : (.code yX0_weighPair cX0_weighPair 5 none : Cond) ∈ lw_gd := g_mem (List.mem_append_right _ (g_k6 (List.mem_of_getElem? (i := 10) rfl))) rfl
theorem tp_47 : (.selects RX0 yX0_weighPair yX0_weighPair : Cond) ∈ lw_gd := g_mem (List.mem_append_left _ (List.mem_of_getElem? (i := 47) (by decide +kernel))) rfl
theorem tw_1209 : (.instanceMethod yX0_weighPair : Cond) ∈ lw_gd := g_mem (List.mem_append_right _ (g_k6 (List.mem_of_getElem? (i := 9) (by decide +kernel)))) rfl
theorem tw_296 : (.fieldLink RX6 22 "ManyOut$Sums" "apartKnown" "[J" : Cond) ∈ lw_gd := g_mem (List.mem_append_right _ (g_k2 (List.mem_of_getElem? (i := 56) (by decide +kernel)))) rfl
theorem tw_289 : (.constantLong RX6 30 (-1) : Cond) ∈ lw_gd := g_mem (List.mem_append_right _ (g_k2 (List.mem_of_getElem? (i := 49) (by decide +kernel)))) rfl
theorem tw_290 : (.methodLink RX6 32 yJ7_fill_d0a16 : Cond) ∈ lw_gd := g_mem (List.mem_append_right _ (g_k2 (List.mem_of_getElem? (i := 50) (by decide +kernel)))) rfl
theorem tw_292 : (.code yJ7_fill_d0a16 cJ7_fill_d0a16 5 none : Cond) ∈ lw_gd := g_mem (List.mem_append_right _ (g_k2 (List.mem_of_getElem? (i := 52) rfl))) rfl
theorem tw_291 : (.static yJ7_fill_d0a16 : Cond) ∈ lw_gd := g_mem (List.mem_append_right _ (g_k2 (List.mem_of_getElem? (i := 51) (by decide +kernel)))) rfl
theorem tw_293 : (.fieldLink RX6 12 "ManyOut$Sums" "walk" "LManyOut$Walk;" : Cond) ∈ lw_gd := g_mem (List.mem_append_right _ (g_k2 (List.mem_of_getElem? (i := 53) (by decide +kernel)))) rfl
theorem tw_1139 : (.methodLink RX6 50 yX10_start : Cond) ∈ lw_gd := g_mem (List.mem_append_right _ (g_k5 (List.mem_of_getElem? (i := 179) (by decide +kernel)))) rfl
theorem tw_883 : (.code yX10_start cX10_start 4 none : Cond) ∈ lw_gd := g_mem (List.mem_append_right _ (g_k4 (List.mem_of_getElem? (i := 163) rfl))) rfl
theorem tw_882 : (.selects RX10 yX10_start yX10_start : Cond) ∈ lw_gd := g_mem (List.mem_append_right _ (g_k4 (List.mem_of_getElem? (i := 162) (by decide +kernel)))) rfl
theorem tw_881 : (.instanceMethod yX10_start : Cond) ∈ lw_gd := g_mem (List.mem_append_right _ (g_k4 (List.mem_of_getElem? (i := 161) (by decide +kernel)))) rfl
theorem tn_121 : (.fieldLinkNest RX6 54 "ManyOut$House" "senders" "I" "ManyOut" : Cond) ∈ lw_nw := g_nmem (g_k1 (List.mem_of_getElem? (i := 121) (by decide +kernel))) rfl
theorem tw_1141 : (.constantLong RX6 61 (1000000000000000) : Cond) ∈ lw_gd := g_mem (List.mem_append_right _ (g_k5 (List.mem_of_getElem? (i := 181) (by decide +kernel)))) rfl
theorem tw_297 : (.fieldLink RX6 26 "ManyOut$Sums" "leastSquares" "J" : Cond) ∈ lw_gd := g_mem (List.mem_append_right _ (g_k2 (List.mem_of_getElem? (i := 57) (by decide +kernel)))) rfl
theorem tn_215 : (.fieldLinkNest RX6 63 "ManyOut$Walk" "count" "[I" "ManyOut" : Cond) ∈ lw_nw := g_nmem (g_k1 (List.mem_of_getElem? (i := 215) (by decide +kernel))) rfl
theorem tn_221 : (.fieldLinkNest RX6 66 "ManyOut$Walk" "last" "I" "ManyOut" : Cond) ∈ lw_nw := g_nmem (g_k1 (List.mem_of_getElem? (i := 221) (by decide +kernel))) rfl
theorem tw_1142 : (.methodLink RX6 69 yX10_lineCount : Cond) ∈ lw_gd := g_mem (List.mem_append_right _ (g_k5 (List.mem_of_getElem? (i := 182) (by decide +kernel)))) rfl
theorem tw_914 : (.code yX10_lineCount cX10_lineCount 3 (some .int) : Cond) ∈ lw_gd := g_mem (List.mem_append_right _ (g_k4 (List.mem_of_getElem? (i := 194) rfl))) rfl
theorem tw_913 : (.selects RX10 yX10_lineCount yX10_lineCount : Cond) ∈ lw_gd := g_mem (List.mem_append_right _ (g_k4 (List.mem_of_getElem? (i := 193) (by decide +kernel)))) rfl
theorem tw_912 : (.instanceMethod yX10_lineCount : Cond) ∈ lw_gd := g_mem (List.mem_append_right _ (g_k4 (List.mem_of_getElem? (i := 192) (by decide +kernel)))) rfl
theorem tw_1143 : (.methodLink RX6 73 yX10_firstLine : Cond) ∈ lw_gd := g_mem (List.mem_append_right _ (g_k5 (List.mem_of_getElem? (i := 183) (by decide +kernel)))) rfl
theorem tw_904 : (.code yX10_firstLine cX10_firstLine 1 none : Cond) ∈ lw_gd := g_mem (List.mem_append_right _ (g_k4 (List.mem_of_getElem? (i := 184) rfl))) rfl
theorem tw_903 : (.selects RX10 yX10_firstLine yX10_firstLine : Cond) ∈ lw_gd := g_mem (List.mem_append_right _ (g_k4 (List.mem_of_getElem? (i := 183) (by decide +kernel)))) rfl
theorem tw_902 : (.instanceMethod yX10_firstLine : Cond) ∈ lw_gd := g_mem (List.mem_append_right _ (g_k4 (List.mem_of_getElem? (i := 182) (by decide +kernel)))) rfl
theorem tw_1144 : (.methodLink RX6 76 yX6_lookAtLine : Cond) ∈ lw_gd := g_mem (List.mem_append_right _ (g_k5 (List.mem_of_getElem? (i := 184) (by decide +kernel)))) rfl
theorem tw_1148 : (.methodLink RX6 83 yX10_bestDigit : Cond) ∈ lw_gd := g_mem (List.mem_append_right _ (g_k5 (List.mem_of_getElem? (i := 188) (by decide +kernel)))) rfl
theorem tn_111 : (.fieldLinkNest RX6 38 "ManyOut$House" "letters" "I" "ManyOut" : Cond) ∈ lw_nw := g_nmem (g_k1 (List.mem_of_getElem? (i := 111) (by decide +kernel))) rfl
theorem tw_1168 : (.methodLink RX6 44 yX6_findShortest : Cond) ∈ lw_gd := g_mem (List.mem_append_right _ (g_k5 (List.mem_of_getElem? (i := 208) (by decide +kernel)))) rfl
theorem tw_257 : (.fieldLink RX7 49 "ManyOut$Survey" "known" "Z" : Cond) ∈ lw_gd := g_mem (List.mem_append_right _ (g_k2 (List.mem_of_getElem? (i := 17) (by decide +kernel)))) rfl
theorem tn_120 : (.fieldLinkNest RX7 73 "ManyOut$House" "senders" "I" "ManyOut" : Cond) ∈ lw_nw := g_nmem (g_k1 (List.mem_of_getElem? (i := 120) (by decide +kernel))) rfl
theorem tw_254 : (.fieldLink RX7 41 "ManyOut$Survey" "nearCount" "I" : Cond) ∈ lw_gd := g_mem (List.mem_append_right _ (g_k2 (List.mem_of_getElem? (i := 14) (by decide +kernel)))) rfl
theorem tw_256 : (.fieldLink RX7 45 "ManyOut$Survey" "allWeight" "J" : Cond) ∈ lw_gd := g_mem (List.mem_append_right _ (g_k2 (List.mem_of_getElem? (i := 16) (by decide +kernel)))) rfl
theorem tw_247 : (.fieldLink RX7 26 "ManyOut$Survey" "least" "[J" : Cond) ∈ lw_gd := g_mem (List.mem_append_right _ (g_k2 (List.mem_of_getElem? (i := 7) (by decide +kernel)))) rfl
theorem tw_874 : (.constantLong RX7 76 (1000000000000000) : Cond) ∈ lw_gd := g_mem (List.mem_append_right _ (g_k4 (List.mem_of_getElem? (i := 154) (by decide +kernel)))) rfl
theorem tw_875 : (.methodLink RX7 78 yJ7_fill_d0a16 : Cond) ∈ lw_gd := g_mem (List.mem_append_right _ (g_k4 (List.mem_of_getElem? (i := 155) (by decide +kernel)))) rfl
theorem tw_248 : (.fieldLink RX7 29 "ManyOut$Survey" "weight" "[J" : Cond) ∈ lw_gd := g_mem (List.mem_append_right _ (g_k2 (List.mem_of_getElem? (i := 8) (by decide +kernel)))) rfl
theorem tw_876 : (.methodLink RX7 84 yX7_startWalk : Cond) ∈ lw_gd := g_mem (List.mem_append_right _ (g_k4 (List.mem_of_getElem? (i := 156) (by decide +kernel)))) rfl
theorem tw_242 : (.fieldLink RX7 12 "ManyOut$Survey" "walk" "LManyOut$Walk;" : Cond) ∈ lw_gd := g_mem (List.mem_append_right _ (g_k2 (List.mem_of_getElem? (i := 2) (by decide +kernel)))) rfl
theorem tw_880 : (.methodLink RX7 53 yX10_start : Cond) ∈ lw_gd := g_mem (List.mem_append_right _ (g_k4 (List.mem_of_getElem? (i := 160) (by decide +kernel)))) rfl
theorem tw_888 : (.methodLink RX7 57 yX10_aimAt : Cond) ∈ lw_gd := g_mem (List.mem_append_right _ (g_k4 (List.mem_of_getElem? (i := 168) (by decide +kernel)))) rfl
theorem tw_891 : (.code yX10_aimAt cX10_aimAt 9 none : Cond) ∈ lw_gd := g_mem (List.mem_append_right _ (g_k4 (List.mem_of_getElem? (i := 171) rfl))) rfl
theorem tw_890 : (.selects RX10 yX10_aimAt yX10_aimAt : Cond) ∈ lw_gd := g_mem (List.mem_append_right _ (g_k4 (List.mem_of_getElem? (i := 170) (by decide +kernel)))) rfl
theorem tw_889 : (.instanceMethod yX10_aimAt : Cond) ∈ lw_gd := g_mem (List.mem_append_right _ (g_k4 (List.mem_of_getElem? (i := 169) (by decide +kernel)))) rfl
theorem tn_112 : (.fieldLinkNest RX7 61 "ManyOut$House" "letters" "I" "ManyOut" : Cond) ∈ lw_nw := g_nmem (g_k1 (List.mem_of_getElem? (i := 112) (by decide +kernel))) rfl
theorem tw_893 : (.methodLink RX7 66 yX10_setAllNumbers : Cond) ∈ lw_gd := g_mem (List.mem_append_right _ (g_k4 (List.mem_of_getElem? (i := 173) (by decide +kernel)))) rfl
theorem tw_896 : (.code yX10_setAllNumbers cX10_setAllNumbers 5 none : Cond) ∈ lw_gd := g_mem (List.mem_append_right _ (g_k4 (List.mem_of_getElem? (i := 176) rfl))) rfl
theorem tw_895 : (.selects RX10 yX10_setAllNumbers yX10_setAllNumbers : Cond) ∈ lw_gd := g_mem (List.mem_append_right _ (g_k4 (List.mem_of_getElem? (i := 175) (by decide +kernel)))) rfl
theorem tw_894 : (.instanceMethod yX10_setAllNumbers : Cond) ∈ lw_gd := g_mem (List.mem_append_right _ (g_k4 (List.mem_of_getElem? (i := 174) (by decide +kernel)))) rfl
theorem tw_901 : (.methodLink RX7 70 yX10_firstLine : Cond) ∈ lw_gd := g_mem (List.mem_append_right _ (g_k4 (List.mem_of_getElem? (i := 181) (by decide +kernel)))) rfl
theorem tw_879 : (.code yX7_startWalk cX7_startWalk 3 none : Cond) ∈ lw_gd := g_mem (List.mem_append_right _ (g_k4 (List.mem_of_getElem? (i := 159) rfl))) rfl
theorem tw_7 : (.initialized RX7 : Cond) ∈ lw_gd := g_mem (List.mem_append_right _ (g_k1 (List.mem_of_getElem? (i := 7) (by decide +kernel)))) rfl
theorem tp_32 : (.selects RX7 yX7_startWalk yX7_startWalk : Cond) ∈ lw_gd := g_mem (List.mem_append_left _ (List.mem_of_getElem? (i := 32) (by decide +kernel))) rfl
theorem tw_878 : (.instanceMethod yX7_startWalk : Cond) ∈ lw_gd := g_mem (List.mem_append_right _ (g_k4 (List.mem_of_getElem? (i := 158) (by decide +kernel)))) rfl
theorem tw_911 : (.methodLink RX7 87 yX10_lineCount : Cond) ∈ lw_gd := g_mem (List.mem_append_right _ (g_k4 (List.mem_of_getElem? (i := 191) (by decide +kernel)))) rfl
theorem tw_915 : (.methodLink RX7 91 yX7_learnLine : Cond) ∈ lw_gd := g_mem (List.mem_append_right _ (g_k4 (List.mem_of_getElem? (i := 195) (by decide +kernel)))) rfl
theorem tn_222 : (.fieldLinkNest RX7 104 "ManyOut$Walk" "last" "I" "ManyOut" : Cond) ∈ lw_nw := g_nmem (g_k1 (List.mem_of_getElem? (i := 222) (by decide +kernel))) rfl
theorem tn_218 : (.fieldLinkNest RX7 121 "ManyOut$Walk" "digit" "[I" "ManyOut" : Cond) ∈ lw_nw := g_nmem (g_k1 (List.mem_of_getElem? (i := 218) (by decide +kernel))) rfl
theorem tw_924 : (.methodLink RX7 107 yX7_note : Cond) ∈ lw_gd := g_mem (List.mem_append_right _ (g_k4 (List.mem_of_getElem? (i := 204) (by decide +kernel)))) rfl
theorem tw_928 : (.methodLink RX7 115 Lib.MathLoose.min_long.x : Cond) ∈ lw_gd := g_mem (List.mem_append_right _ (g_k4 (List.mem_of_getElem? (i := 208) (by decide +kernel)))) rfl
theorem tw_927 : (.code yX7_note cX7_note 8 none : Cond) ∈ lw_gd := g_mem (List.mem_append_right _ (g_k4 (List.mem_of_getElem? (i := 207) rfl))) rfl
theorem tp_35 : (.selects RX7 yX7_note yX7_note : Cond) ∈ lw_gd := g_mem (List.mem_append_left _ (List.mem_of_getElem? (i := 35) (by decide +kernel))) rfl
theorem tw_926 : (.instanceMethod yX7_note : Cond) ∈ lw_gd := g_mem (List.mem_append_right _ (g_k4 (List.mem_of_getElem? (i := 206) (by decide +kernel)))) rfl
theorem tw_919 : (.methodLink RX7 98 yX10_squaresAt : Cond) ∈ lw_gd := g_mem (List.mem_append_right _ (g_k4 (List.mem_of_getElem? (i := 199) (by decide +kernel)))) rfl
theorem tw_922 : (.code yX10_squaresAt cX10_squaresAt 5 (some .long) : Cond) ∈ lw_gd := g_mem (List.mem_append_right _ (g_k4 (List.mem_of_getElem? (i := 202) rfl))) rfl
theorem tw_921 : (.selects RX10 yX10_squaresAt yX10_squaresAt : Cond) ∈ lw_gd := g_mem (List.mem_append_right _ (g_k4 (List.mem_of_getElem? (i := 201) (by decide +kernel)))) rfl
theorem tw_920 : (.instanceMethod yX10_squaresAt : Cond) ∈ lw_gd := g_mem (List.mem_append_right _ (g_k4 (List.mem_of_getElem? (i := 200) (by decide +kernel)))) rfl
theorem tw_923 : (.constantLong RX7 102 (1000000000) : Cond) ∈ lw_gd := g_mem (List.mem_append_right _ (g_k4 (List.mem_of_getElem? (i := 203) (by decide +kernel)))) rfl
theorem tw_929 : (.methodLink RX7 111 yX7_admit : Cond) ∈ lw_gd := g_mem (List.mem_append_right _ (g_k4 (List.mem_of_getElem? (i := 209) (by decide +kernel)))) rfl
theorem tw_243 : (.fieldLink RX7 18 "ManyOut$Survey" "nearDistance" "[J" : Cond) ∈ lw_gd := g_mem (List.mem_append_right _ (g_k2 (List.mem_of_getElem? (i := 3) (by decide +kernel)))) rfl
theorem tw_245 : (.fieldLink RX7 22 "ManyOut$Survey" "nearRow" "[I" : Cond) ∈ lw_gd := g_mem (List.mem_append_right _ (g_k2 (List.mem_of_getElem? (i := 5) (by decide +kernel)))) rfl
theorem tw_932 : (.code yX7_admit cX7_admit 5 none : Cond) ∈ lw_gd := g_mem (List.mem_append_right _ (g_k4 (List.mem_of_getElem? (i := 212) rfl))) rfl
theorem tp_36 : (.selects RX7 yX7_admit yX7_admit : Cond) ∈ lw_gd := g_mem (List.mem_append_left _ (List.mem_of_getElem? (i := 36) (by decide +kernel))) rfl
theorem tw_931 : (.instanceMethod yX7_admit : Cond) ∈ lw_gd := g_mem (List.mem_append_right _ (g_k4 (List.mem_of_getElem? (i := 211) (by decide +kernel)))) rfl
theorem tw_918 : (.code yX7_learnLine cX7_learnLine 12 none : Cond) ∈ lw_gd := g_mem (List.mem_append_right _ (g_k4 (List.mem_of_getElem? (i := 198) rfl))) rfl
theorem tp_34 : (.selects RX7 yX7_learnLine yX7_learnLine : Cond) ∈ lw_gd := g_mem (List.mem_append_left _ (List.mem_of_getElem? (i := 34) (by decide +kernel))) rfl
theorem tw_917 : (.instanceMethod yX7_learnLine : Cond) ∈ lw_gd := g_mem (List.mem_append_right _ (g_k4 (List.mem_of_getElem? (i := 197) (by decide +kernel)))) rfl
theorem tw_933 : (.methodLink RX7 95 yX10_nextLine : Cond) ∈ lw_gd := g_mem (List.mem_append_right _ (g_k4 (List.mem_of_getElem? (i := 213) (by decide +kernel)))) rfl
theorem tw_936 : (.code yX10_nextLine cX10_nextLine 2 none : Cond) ∈ lw_gd := g_mem (List.mem_append_right _ (g_k4 (List.mem_of_getElem? (i := 216) rfl))) rfl
theorem tw_935 : (.selects RX10 yX10_nextLine yX10_nextLine : Cond) ∈ lw_gd := g_mem (List.mem_append_right _ (g_k4 (List.mem_of_getElem? (i := 215) (by decide +kernel)))) rfl
theorem tw_934 : (.instanceMethod yX10_nextLine : Cond) ∈ lw_gd := g_mem (List.mem_append_right _ (g_k4 (List.mem_of_getElem? (i := 214) (by decide +kernel)))) rfl
theorem tw_977 : (.methodLink RX7 130 yX7_findTurns : Cond) ∈ lw_gd := g_mem (List.mem_append_right _ (g_k5 (List.mem_of_getElem? (i := 17) (by decide +kernel)))) rfl
theorem tn_103 : (.fieldLinkNest RX7 146 "ManyOut$House" "table" "LManyOut$Table;" "ManyOut" : Cond) ∈ lw_nw := g_nmem (g_k1 (List.mem_of_getElem? (i := 103) (by decide +kernel))) rfl
theorem tw_981 : (.methodLink RX7 156 yX8_productOf : Cond) ∈ lw_gd := g_mem (List.mem_append_right _ (g_k5 (List.mem_of_getElem? (i := 21) (by decide +kernel)))) rfl
theorem tw_249 : (.fieldLink RX7 32 "ManyOut$Survey" "turns" "[I" : Cond) ∈ lw_gd := g_mem (List.mem_append_right _ (g_k2 (List.mem_of_getElem? (i := 9) (by decide +kernel)))) rfl
theorem tw_980 : (.code yX7_findTurns cX7_findTurns 5 none : Cond) ∈ lw_gd := g_mem (List.mem_append_right _ (g_k5 (List.mem_of_getElem? (i := 20) rfl))) rfl
theorem tp_37 : (.selects RX7 yX7_findTurns yX7_findTurns : Cond) ∈ lw_gd := g_mem (List.mem_append_left _ (List.mem_of_getElem? (i := 37) (by decide +kernel))) rfl
theorem tw_979 : (.instanceMethod yX7_findTurns : Cond) ∈ lw_gd := g_mem (List.mem_append_right _ (g_k5 (List.mem_of_getElem? (i := 19) (by decide +kernel)))) rfl
theorem tw_253 : (.fieldLink RX7 38 "ManyOut$Survey" "left" "[I" : Cond) ∈ lw_gd := g_mem (List.mem_append_right _ (g_k2 (List.mem_of_getElem? (i := 13) (by decide +kernel)))) rfl
theorem tw_982 : (.methodLink RX7 133 arraycopyName : Cond) ∈ lw_gd := g_mem (List.mem_append_right _ (g_k5 (List.mem_of_getElem? (i := 22) (by decide +kernel)))) rfl
theorem tw_251 : (.fieldLink RX7 35 "ManyOut$Survey" "cancelled" "[I" : Cond) ∈ lw_gd := g_mem (List.mem_append_right _ (g_k2 (List.mem_of_getElem? (i := 11) (by decide +kernel)))) rfl
theorem tw_983 : (.methodLink RX7 139 yX7_bestLetter : Cond) ∈ lw_gd := g_mem (List.mem_append_right _ (g_k5 (List.mem_of_getElem? (i := 23) (by decide +kernel)))) rfl
theorem tw_987 : (.methodLink RX7 159 yX1_letterOfDigit : Cond) ∈ lw_gd := g_mem (List.mem_append_right _ (g_k5 (List.mem_of_getElem? (i := 27) (by decide +kernel)))) rfl
theorem tw_988 : (.methodLink RX7 163 yX7_squaresWith : Cond) ∈ lw_gd := g_mem (List.mem_append_right _ (g_k5 (List.mem_of_getElem? (i := 28) (by decide +kernel)))) rfl
theorem tn_130 : (.fieldLinkNest RX7 143 "ManyOut$House" "receivers" "I" "ManyOut" : Cond) ∈ lw_nw := g_nmem (g_k1 (List.mem_of_getElem? (i := 130) (by decide +kernel))) rfl
theorem tw_992 : (.methodLink RX7 150 yX8_at : Cond) ∈ lw_gd := g_mem (List.mem_append_right _ (g_k5 (List.mem_of_getElem? (i := 32) (by decide +kernel)))) rfl
theorem tw_991 : (.code yX7_squaresWith cX7_squaresWith 9 (some .long) : Cond) ∈ lw_gd := g_mem (List.mem_append_right _ (g_k5 (List.mem_of_getElem? (i := 31) rfl))) rfl
theorem tp_39 : (.selects RX7 yX7_squaresWith yX7_squaresWith : Cond) ∈ lw_gd := g_mem (List.mem_append_left _ (List.mem_of_getElem? (i := 39) (by decide +kernel))) rfl
theorem tw_990 : (.instanceMethod yX7_squaresWith : Cond) ∈ lw_gd := g_mem (List.mem_append_right _ (g_k5 (List.mem_of_getElem? (i := 30) (by decide +kernel)))) rfl
theorem tw_986 : (.code yX7_bestLetter cX7_bestLetter 10 (some .int) : Cond) ∈ lw_gd := g_mem (List.mem_append_right _ (g_k5 (List.mem_of_getElem? (i := 26) rfl))) rfl
theorem tp_38 : (.selects RX7 yX7_bestLetter yX7_bestLetter : Cond) ∈ lw_gd := g_mem (List.mem_append_left _ (List.mem_of_getElem? (i := 38) (by decide +kernel))) rfl
theorem tw_985 : (.instanceMethod yX7_bestLetter : Cond) ∈ lw_gd := g_mem (List.mem_append_right _ (g_k5 (List.mem_of_getElem? (i := 25) (by decide +kernel)))) rfl
theorem tw_1021 : (.constantLong RX7 128 (1000) : Cond) ∈ lw_gd := g_mem (List.mem_append_right _ (g_k5 (List.mem_of_getElem? (i := 61) (by decide +kernel)))) rfl
theorem tw_1031 : (.methodLink RX7 124 yX7_leastWith : Cond) ∈ lw_gd := g_mem (List.mem_append_right _ (g_k5 (List.mem_of_getElem? (i := 71) (by decide +kernel)))) rfl
theorem tw_1012 : (.code yX7_leastWith cX7_leastWith 3 (some .long) : Cond) ∈ lw_gd := g_mem (List.mem_append_right _ (g_k5 (List.mem_of_getElem? (i := 52) rfl))) rfl
theorem tw_1011 : (.selects RX7 yX7_leastWith yX7_leastWith : Cond) ∈ lw_gd := g_mem (List.mem_append_right _ (g_k5 (List.mem_of_getElem? (i := 51) (by decide +kernel)))) rfl
theorem tw_1010 : (.instanceMethod yX7_leastWith : Cond) ∈ lw_gd := g_mem (List.mem_append_right _ (g_k5 (List.mem_of_getElem? (i := 50) (by decide +kernel)))) rfl
theorem tw_356 : (.fieldLink RX3 39 "ManyOut$Power" "isPut" "Z" : Cond) ∈ lw_gd := g_mem (List.mem_append_right _ (g_k2 (List.mem_of_getElem? (i := 116) (by decide +kernel)))) rfl
theorem tw_347 : (.constantLong RX3 43 (-1) : Cond) ∈ lw_gd := g_mem (List.mem_append_right _ (g_k2 (List.mem_of_getElem? (i := 107) (by decide +kernel)))) rfl
theorem tw_358 : (.fieldLink RX3 45 "ManyOut$Power" "spanLeast" "J" : Cond) ∈ lw_gd := g_mem (List.mem_append_right _ (g_k2 (List.mem_of_getElem? (i := 118) (by decide +kernel)))) rfl
theorem tw_359 : (.fieldLink RX3 48 "ManyOut$Power" "spanMost" "J" : Cond) ∈ lw_gd := g_mem (List.mem_append_right _ (g_k2 (List.mem_of_getElem? (i := 119) (by decide +kernel)))) rfl
theorem tw_348 : (.fieldLink RX3 12 "ManyOut$Power" "walk" "LManyOut$Walk;" : Cond) ∈ lw_gd := g_mem (List.mem_append_right _ (g_k2 (List.mem_of_getElem? (i := 108) (by decide +kernel)))) rfl
theorem tw_1244 : (.methodLink RX3 51 yX10_start : Cond) ∈ lw_gd := g_mem (List.mem_append_right _ (g_k6 (List.mem_of_getElem? (i := 44) (by decide +kernel)))) rfl
theorem tw_1245 : (.methodLink RX3 143 yX3_startTrying : Cond) ∈ lw_gd := g_mem (List.mem_append_right _ (g_k6 (List.mem_of_getElem? (i := 45) (by decide +kernel)))) rfl
theorem tw_353 : (.fieldLink RX3 28 "ManyOut$Power" "tried" "[I" : Cond) ∈ lw_gd := g_mem (List.mem_append_right _ (g_k2 (List.mem_of_getElem? (i := 113) (by decide +kernel)))) rfl
theorem tw_1249 : (.methodLink RX3 162 yJ7_fill_53178 : Cond) ∈ lw_gd := g_mem (List.mem_append_right _ (g_k6 (List.mem_of_getElem? (i := 49) (by decide +kernel)))) rfl
theorem tw_354 : (.fieldLink RX3 31 "ManyOut$Power" "pull" "[J" : Cond) ∈ lw_gd := g_mem (List.mem_append_right _ (g_k2 (List.mem_of_getElem? (i := 114) (by decide +kernel)))) rfl
theorem tw_1250 : (.methodLink RX3 168 yJ7_fill_d0a16 : Cond) ∈ lw_gd := g_mem (List.mem_append_right _ (g_k6 (List.mem_of_getElem? (i := 50) (by decide +kernel)))) rfl
theorem tw_355 : (.fieldLink RX3 35 "ManyOut$Power" "squares" "J" : Cond) ∈ lw_gd := g_mem (List.mem_append_right _ (g_k2 (List.mem_of_getElem? (i := 115) (by decide +kernel)))) rfl
theorem tn_122 : (.fieldLinkNest RX3 79 "ManyOut$House" "senders" "I" "ManyOut" : Cond) ∈ lw_nw := g_nmem (g_k1 (List.mem_of_getElem? (i := 122) (by decide +kernel))) rfl
theorem tw_352 : (.fieldLink RX3 25 "ManyOut$Power" "letters" "[I" : Cond) ∈ lw_gd := g_mem (List.mem_append_right _ (g_k2 (List.mem_of_getElem? (i := 112) (by decide +kernel)))) rfl
theorem tn_113 : (.fieldLinkNest RX3 77 "ManyOut$House" "letters" "I" "ManyOut" : Cond) ∈ lw_nw := g_nmem (g_k1 (List.mem_of_getElem? (i := 113) (by decide +kernel))) rfl
theorem tw_1251 : (.methodLink RX3 171 yX3_move : Cond) ∈ lw_gd := g_mem (List.mem_append_right _ (g_k6 (List.mem_of_getElem? (i := 51) (by decide +kernel)))) rfl
theorem tw_1255 : (.constantLong RX3 175 (2) : Cond) ∈ lw_gd := g_mem (List.mem_append_right _ (g_k6 (List.mem_of_getElem? (i := 55) (by decide +kernel)))) rfl
theorem tn_208 : (.fieldLinkNest RX3 177 "ManyOut$Walk" "products" "[J" "ManyOut" : Cond) ∈ lw_nw := g_nmem (g_k1 (List.mem_of_getElem? (i := 208) (by decide +kernel))) rfl
theorem tn_223 : (.fieldLinkNest RX3 110 "ManyOut$Walk" "last" "I" "ManyOut" : Cond) ∈ lw_nw := g_nmem (g_k1 (List.mem_of_getElem? (i := 223) (by decide +kernel))) rfl
theorem tw_1254 : (.code yX3_move cX3_move 6 none : Cond) ∈ lw_gd := g_mem (List.mem_append_right _ (g_k6 (List.mem_of_getElem? (i := 54) rfl))) rfl
theorem tw_12 : (.initialized RX3 : Cond) ∈ lw_gd := g_mem (List.mem_append_right _ (g_k1 (List.mem_of_getElem? (i := 12) (by decide +kernel)))) rfl
theorem tp_49 : (.selects RX3 yX3_move yX3_move : Cond) ∈ lw_gd := g_mem (List.mem_append_left _ (List.mem_of_getElem? (i := 49) (by decide +kernel))) rfl
theorem tw_1253 : (.instanceMethod yX3_move : Cond) ∈ lw_gd := g_mem (List.mem_append_right _ (g_k6 (List.mem_of_getElem? (i := 53) (by decide +kernel)))) rfl
theorem tw_1248 : (.code yX3_startTrying cX3_startTrying 3 none : Cond) ∈ lw_gd := g_mem (List.mem_append_right _ (g_k6 (List.mem_of_getElem? (i := 48) rfl))) rfl
theorem tp_48 : (.selects RX3 yX3_startTrying yX3_startTrying : Cond) ∈ lw_gd := g_mem (List.mem_append_left _ (List.mem_of_getElem? (i := 48) (by decide +kernel))) rfl
theorem tw_1247 : (.instanceMethod yX3_startTrying : Cond) ∈ lw_gd := g_mem (List.mem_append_right _ (g_k6 (List.mem_of_getElem? (i := 47) (by decide +kernel)))) rfl
theorem tw_1256 : (.methodLink RX3 146 yX1_rowCount : Cond) ∈ lw_gd := g_mem (List.mem_append_right _ (g_k6 (List.mem_of_getElem? (i := 56) (by decide +kernel)))) rfl
theorem tw_964 : (.code yX1_rowCount cX1_rowCount 1 (some .int) : Cond) ∈ lw_gd := g_mem (List.mem_append_right _ (g_k5 (List.mem_of_getElem? (i := 4) rfl))) rfl
theorem tw_963 : (.selects RX1 yX1_rowCount yX1_rowCount : Cond) ∈ lw_gd := g_mem (List.mem_append_right _ (g_k5 (List.mem_of_getElem? (i := 3) (by decide +kernel)))) rfl
theorem tw_962 : (.instanceMethod yX1_rowCount : Cond) ∈ lw_gd := g_mem (List.mem_append_right _ (g_k5 (List.mem_of_getElem? (i := 2) (by decide +kernel)))) rfl
theorem tw_1257 : (.methodLink RX3 149 yX3_fallsTo : Cond) ∈ lw_gd := g_mem (List.mem_append_right _ (g_k6 (List.mem_of_getElem? (i := 57) (by decide +kernel)))) rfl
theorem tw_1261 : (.methodLink RX3 180 yX3_better : Cond) ∈ lw_gd := g_mem (List.mem_append_right _ (g_k6 (List.mem_of_getElem? (i := 61) (by decide +kernel)))) rfl
theorem tw_1264 : (.code yX3_better cX3_better 6 none : Cond) ∈ lw_gd := g_mem (List.mem_append_right _ (g_k6 (List.mem_of_getElem? (i := 64) rfl))) rfl
theorem tp_51 : (.selects RX3 yX3_better yX3_better : Cond) ∈ lw_gd := g_mem (List.mem_append_left _ (List.mem_of_getElem? (i := 51) (by decide +kernel))) rfl
theorem tw_1263 : (.instanceMethod yX3_better : Cond) ∈ lw_gd := g_mem (List.mem_append_right _ (g_k6 (List.mem_of_getElem? (i := 63) (by decide +kernel)))) rfl
theorem tw_1260 : (.code yX3_fallsTo cX3_fallsTo 9 (some .boolean) : Cond) ∈ lw_gd := g_mem (List.mem_append_right _ (g_k6 (List.mem_of_getElem? (i := 60) rfl))) rfl
theorem tp_50 : (.selects RX3 yX3_fallsTo yX3_fallsTo : Cond) ∈ lw_gd := g_mem (List.mem_append_left _ (List.mem_of_getElem? (i := 50) (by decide +kernel))) rfl
theorem tw_1259 : (.instanceMethod yX3_fallsTo : Cond) ∈ lw_gd := g_mem (List.mem_append_right _ (g_k6 (List.mem_of_getElem? (i := 59) (by decide +kernel)))) rfl
theorem tw_1285 : (.methodLink RX3 159 yX3_nextLetters : Cond) ∈ lw_gd := g_mem (List.mem_append_right _ (g_k6 (List.mem_of_getElem? (i := 85) (by decide +kernel)))) rfl
theorem tw_1288 : (.code yX3_nextLetters cX3_nextLetters 3 none : Cond) ∈ lw_gd := g_mem (List.mem_append_right _ (g_k6 (List.mem_of_getElem? (i := 88) rfl))) rfl
theorem tp_55 : (.selects RX3 yX3_nextLetters yX3_nextLetters : Cond) ∈ lw_gd := g_mem (List.mem_append_left _ (List.mem_of_getElem? (i := 55) (by decide +kernel))) rfl
theorem tw_1287 : (.instanceMethod yX3_nextLetters : Cond) ∈ lw_gd := g_mem (List.mem_append_right _ (g_k6 (List.mem_of_getElem? (i := 87) (by decide +kernel)))) rfl
theorem tw_1265 : (.methodLink RX3 55 yX3_leastFor : Cond) ∈ lw_gd := g_mem (List.mem_append_right _ (g_k6 (List.mem_of_getElem? (i := 65) (by decide +kernel)))) rfl
theorem tw_1270 : (.methodLink RX3 86 yX10_firstLine : Cond) ∈ lw_gd := g_mem (List.mem_append_right _ (g_k6 (List.mem_of_getElem? (i := 70) (by decide +kernel)))) rfl
theorem tw_1271 : (.constantLong RX3 89 (1000000000000000) : Cond) ∈ lw_gd := g_mem (List.mem_append_right _ (g_k6 (List.mem_of_getElem? (i := 71) (by decide +kernel)))) rfl
theorem tw_1272 : (.methodLink RX3 91 yX10_lineCount : Cond) ∈ lw_gd := g_mem (List.mem_append_right _ (g_k6 (List.mem_of_getElem? (i := 72) (by decide +kernel)))) rfl
theorem tw_1273 : (.methodLink RX3 95 yX10_bestDigit : Cond) ∈ lw_gd := g_mem (List.mem_append_right _ (g_k6 (List.mem_of_getElem? (i := 73) (by decide +kernel)))) rfl
theorem tw_351 : (.fieldLink RX3 22 "ManyOut$Power" "found" "[I" : Cond) ∈ lw_gd := g_mem (List.mem_append_right _ (g_k2 (List.mem_of_getElem? (i := 111) (by decide +kernel)))) rfl
theorem tn_219 : (.fieldLinkNest RX3 113 "ManyOut$Walk" "digit" "[I" "ManyOut" : Cond) ∈ lw_nw := g_nmem (g_k1 (List.mem_of_getElem? (i := 219) (by decide +kernel))) rfl
theorem tw_1293 : (.methodLink RX3 116 yX10_setAllNumbers : Cond) ∈ lw_gd := g_mem (List.mem_append_right _ (g_k6 (List.mem_of_getElem? (i := 93) (by decide +kernel)))) rfl
theorem tw_1294 : (.methodLink RX3 120 yX3_leastThinkable : Cond) ∈ lw_gd := g_mem (List.mem_append_right _ (g_k6 (List.mem_of_getElem? (i := 94) (by decide +kernel)))) rfl
theorem tn_129 : (.fieldLinkNest RX3 130 "ManyOut$House" "receivers" "I" "ManyOut" : Cond) ∈ lw_nw := g_nmem (g_k1 (List.mem_of_getElem? (i := 129) (by decide +kernel))) rfl
theorem tn_101 : (.fieldLinkNest RX3 133 "ManyOut$House" "table" "LManyOut$Table;" "ManyOut" : Cond) ∈ lw_nw := g_nmem (g_k1 (List.mem_of_getElem? (i := 101) (by decide +kernel))) rfl
theorem tw_1297 : (.methodLink RX3 137 yX8_at : Cond) ∈ lw_gd := g_mem (List.mem_append_right _ (g_k6 (List.mem_of_getElem? (i := 97) (by decide +kernel)))) rfl
theorem tw_1296 : (.code yX3_leastThinkable cX3_leastThinkable 5 (some .long) : Cond) ∈ lw_gd := g_mem (List.mem_append_right _ (g_k6 (List.mem_of_getElem? (i := 96) rfl))) rfl
theorem tw_1295 : (.static yX3_leastThinkable : Cond) ∈ lw_gd := g_mem (List.mem_append_right _ (g_k6 (List.mem_of_getElem? (i := 95) (by decide +kernel)))) rfl
theorem hd_yX9_at : yX9_at.cls ≠ "java/lang/invoke/MethodHandle" ∧ yX9_at.cls ≠ "java/lang/invoke/VarHandle" ∧ (parseMethodDescriptor yX9_at.desc).map (fun d => d.parameters.length) = some 1 := by decide +kernel
theorem hd_yJ7_fill_53178 : yJ7_fill_53178.cls ≠ "java/lang/invoke/MethodHandle" ∧ yJ7_fill_53178.cls ≠ "java/lang/invoke/VarHandle" ∧ (parseMethodDescriptor yJ7_fill_53178.desc).map (fun d => d.parameters.length) = some 2 := by decide +kernel
theorem hd_yX8_at : yX8_at.cls ≠ "java/lang/invoke/MethodHandle" ∧ yX8_at.cls ≠ "java/lang/invoke/VarHandle" ∧ (parseMethodDescriptor yX8_at.desc).map (fun d => d.parameters.length) = some 2 := by decide +kernel
theorem hd_yX8_setAt : yX8_setAt.cls ≠ "java/lang/invoke/MethodHandle" ∧ yX8_setAt.cls ≠ "java/lang/invoke/VarHandle" ∧ (parseMethodDescriptor yX8_setAt.desc).map (fun d => d.parameters.length) = some 3 := by decide +kernel
theorem hd_yX8_productOf : yX8_productOf.cls ≠ "java/lang/invoke/MethodHandle" ∧ yX8_productOf.cls ≠ "java/lang/invoke/VarHandle" ∧ (parseMethodDescriptor yX8_productOf.desc).map (fun d => d.parameters.length) = some 2 := by decide +kernel
theorem hd_yX8_clashOf : yX8_clashOf.cls ≠ "java/lang/invoke/MethodHandle" ∧ yX8_clashOf.cls ≠ "java/lang/invoke/VarHandle" ∧ (parseMethodDescriptor yX8_clashOf.desc).map (fun d => d.parameters.length) = some 2 := by decide +kernel
theorem hd_yX5_partBy : yX5_partBy.cls ≠ "java/lang/invoke/MethodHandle" ∧ yX5_partBy.cls ≠ "java/lang/invoke/VarHandle" ∧ (parseMethodDescriptor yX5_partBy.desc).map (fun d => d.parameters.length) = some 4 := by decide +kernel
theorem hd_yX8_clear : yX8_clear.cls ≠ "java/lang/invoke/MethodHandle" ∧ yX8_clear.cls ≠ "java/lang/invoke/VarHandle" ∧ (parseMethodDescriptor yX8_clear.desc).map (fun d => d.parameters.length) = some 0 := by decide +kernel
theorem hd_yX5_clear : yX5_clear.cls ≠ "java/lang/invoke/MethodHandle" ∧ yX5_clear.cls ≠ "java/lang/invoke/VarHandle" ∧ (parseMethodDescriptor yX5_clear.desc).map (fun d => d.parameters.length) = some 0 := by decide +kernel
theorem hd_yX8_sentTo : yX8_sentTo.cls ≠ "java/lang/invoke/MethodHandle" ∧ yX8_sentTo.cls ≠ "java/lang/invoke/VarHandle" ∧ (parseMethodDescriptor yX8_sentTo.desc).map (fun d => d.parameters.length) = some 3 := by decide +kernel
theorem hd_yX1_rowsOf : yX1_rowsOf.cls ≠ "java/lang/invoke/MethodHandle" ∧ yX1_rowsOf.cls ≠ "java/lang/invoke/VarHandle" ∧ (parseMethodDescriptor yX1_rowsOf.desc).map (fun d => d.parameters.length) = some 1 := by decide +kernel
theorem hd_yX1_digitInRow : yX1_digitInRow.cls ≠ "java/lang/invoke/MethodHandle" ∧ yX1_digitInRow.cls ≠ "java/lang/invoke/VarHandle" ∧ (parseMethodDescriptor yX1_digitInRow.desc).map (fun d => d.parameters.length) = some 2 := by decide +kernel
theorem hd_yX1_letterOfDigit : yX1_letterOfDigit.cls ≠ "java/lang/invoke/MethodHandle" ∧ yX1_letterOfDigit.cls ≠ "java/lang/invoke/VarHandle" ∧ (parseMethodDescriptor yX1_letterOfDigit.desc).map (fun d => d.parameters.length) = some 1 := by decide +kernel
theorem hd_yX1_letterOfWord : yX1_letterOfWord.cls ≠ "java/lang/invoke/MethodHandle" ∧ yX1_letterOfWord.cls ≠ "java/lang/invoke/VarHandle" ∧ (parseMethodDescriptor yX1_letterOfWord.desc).map (fun d => d.parameters.length) = some 2 := by decide +kernel
theorem hd_yX1_digitOfLetter : yX1_digitOfLetter.cls ≠ "java/lang/invoke/MethodHandle" ∧ yX1_digitOfLetter.cls ≠ "java/lang/invoke/VarHandle" ∧ (parseMethodDescriptor yX1_digitOfLetter.desc).map (fun d => d.parameters.length) = some 1 := by decide +kernel
theorem hd_yX8_peakOf : yX8_peakOf.cls ≠ "java/lang/invoke/MethodHandle" ∧ yX8_peakOf.cls ≠ "java/lang/invoke/VarHandle" ∧ (parseMethodDescriptor yX8_peakOf.desc).map (fun d => d.parameters.length) = some 1 := by decide +kernel
theorem hd_yX10_setNumbers : yX10_setNumbers.cls ≠ "java/lang/invoke/MethodHandle" ∧ yX10_setNumbers.cls ≠ "java/lang/invoke/VarHandle" ∧ (parseMethodDescriptor yX10_setNumbers.desc).map (fun d => d.parameters.length) = some 4 := by decide +kernel
theorem hd_yX10_settle : yX10_settle.cls ≠ "java/lang/invoke/MethodHandle" ∧ yX10_settle.cls ≠ "java/lang/invoke/VarHandle" ∧ (parseMethodDescriptor yX10_settle.desc).map (fun d => d.parameters.length) = some 1 := by decide +kernel
theorem hd_yX0_worthOfPair : yX0_worthOfPair.cls ≠ "java/lang/invoke/MethodHandle" ∧ yX0_worthOfPair.cls ≠ "java/lang/invoke/VarHandle" ∧ (parseMethodDescriptor yX0_worthOfPair.desc).map (fun d => d.parameters.length) = some 3 := by decide +kernel
theorem hd_yX0_weighPair : yX0_weighPair.cls ≠ "java/lang/invoke/MethodHandle" ∧ yX0_weighPair.cls ≠ "java/lang/invoke/VarHandle" ∧ (parseMethodDescriptor yX0_weighPair.desc).map (fun d => d.parameters.length) = some 2 := by decide +kernel
theorem hd_yJ7_fill_d0a16 : yJ7_fill_d0a16.cls ≠ "java/lang/invoke/MethodHandle" ∧ yJ7_fill_d0a16.cls ≠ "java/lang/invoke/VarHandle" ∧ (parseMethodDescriptor yJ7_fill_d0a16.desc).map (fun d => d.parameters.length) = some 2 := by decide +kernel
theorem hd_yX10_start : yX10_start.cls ≠ "java/lang/invoke/MethodHandle" ∧ yX10_start.cls ≠ "java/lang/invoke/VarHandle" ∧ (parseMethodDescriptor yX10_start.desc).map (fun d => d.parameters.length) = some 1 := by decide +kernel
theorem hd_yX10_lineCount : yX10_lineCount.cls ≠ "java/lang/invoke/MethodHandle" ∧ yX10_lineCount.cls ≠ "java/lang/invoke/VarHandle" ∧ (parseMethodDescriptor yX10_lineCount.desc).map (fun d => d.parameters.length) = some 0 := by decide +kernel
theorem hd_yX10_firstLine : yX10_firstLine.cls ≠ "java/lang/invoke/MethodHandle" ∧ yX10_firstLine.cls ≠ "java/lang/invoke/VarHandle" ∧ (parseMethodDescriptor yX10_firstLine.desc).map (fun d => d.parameters.length) = some 0 := by decide +kernel
theorem hd_yX10_aimAt : yX10_aimAt.cls ≠ "java/lang/invoke/MethodHandle" ∧ yX10_aimAt.cls ≠ "java/lang/invoke/VarHandle" ∧ (parseMethodDescriptor yX10_aimAt.desc).map (fun d => d.parameters.length) = some 2 := by decide +kernel
theorem hd_yX10_setAllNumbers : yX10_setAllNumbers.cls ≠ "java/lang/invoke/MethodHandle" ∧ yX10_setAllNumbers.cls ≠ "java/lang/invoke/VarHandle" ∧ (parseMethodDescriptor yX10_setAllNumbers.desc).map (fun d => d.parameters.length) = some 3 := by decide +kernel
theorem hd_yX7_startWalk : yX7_startWalk.cls ≠ "java/lang/invoke/MethodHandle" ∧ yX7_startWalk.cls ≠ "java/lang/invoke/VarHandle" ∧ (parseMethodDescriptor yX7_startWalk.desc).map (fun d => d.parameters.length) = some 2 := by decide +kernel
theorem hd_yX7_note : yX7_note.cls ≠ "java/lang/invoke/MethodHandle" ∧ yX7_note.cls ≠ "java/lang/invoke/VarHandle" ∧ (parseMethodDescriptor yX7_note.desc).map (fun d => d.parameters.length) = some 4 := by decide +kernel
theorem hd_yX10_squaresAt : yX10_squaresAt.cls ≠ "java/lang/invoke/MethodHandle" ∧ yX10_squaresAt.cls ≠ "java/lang/invoke/VarHandle" ∧ (parseMethodDescriptor yX10_squaresAt.desc).map (fun d => d.parameters.length) = some 1 := by decide +kernel
theorem hd_yX7_admit : yX7_admit.cls ≠ "java/lang/invoke/MethodHandle" ∧ yX7_admit.cls ≠ "java/lang/invoke/VarHandle" ∧ (parseMethodDescriptor yX7_admit.desc).map (fun d => d.parameters.length) = some 2 := by decide +kernel
theorem hd_yX7_learnLine : yX7_learnLine.cls ≠ "java/lang/invoke/MethodHandle" ∧ yX7_learnLine.cls ≠ "java/lang/invoke/VarHandle" ∧ (parseMethodDescriptor yX7_learnLine.desc).map (fun d => d.parameters.length) = some 2 := by decide +kernel
theorem hd_yX10_nextLine : yX10_nextLine.cls ≠ "java/lang/invoke/MethodHandle" ∧ yX10_nextLine.cls ≠ "java/lang/invoke/VarHandle" ∧ (parseMethodDescriptor yX10_nextLine.desc).map (fun d => d.parameters.length) = some 0 := by decide +kernel
theorem hd_yX7_findTurns : yX7_findTurns.cls ≠ "java/lang/invoke/MethodHandle" ∧ yX7_findTurns.cls ≠ "java/lang/invoke/VarHandle" ∧ (parseMethodDescriptor yX7_findTurns.desc).map (fun d => d.parameters.length) = some 1 := by decide +kernel
theorem hd_yX7_squaresWith : yX7_squaresWith.cls ≠ "java/lang/invoke/MethodHandle" ∧ yX7_squaresWith.cls ≠ "java/lang/invoke/VarHandle" ∧ (parseMethodDescriptor yX7_squaresWith.desc).map (fun d => d.parameters.length) = some 3 := by decide +kernel
theorem hd_yX7_bestLetter : yX7_bestLetter.cls ≠ "java/lang/invoke/MethodHandle" ∧ yX7_bestLetter.cls ≠ "java/lang/invoke/VarHandle" ∧ (parseMethodDescriptor yX7_bestLetter.desc).map (fun d => d.parameters.length) = some 2 := by decide +kernel
theorem hd_yX7_leastWith : yX7_leastWith.cls ≠ "java/lang/invoke/MethodHandle" ∧ yX7_leastWith.cls ≠ "java/lang/invoke/VarHandle" ∧ (parseMethodDescriptor yX7_leastWith.desc).map (fun d => d.parameters.length) = some 2 := by decide +kernel
theorem hd_yX3_move : yX3_move.cls ≠ "java/lang/invoke/MethodHandle" ∧ yX3_move.cls ≠ "java/lang/invoke/VarHandle" ∧ (parseMethodDescriptor yX3_move.desc).map (fun d => d.parameters.length) = some 2 := by decide +kernel
theorem hd_yX3_startTrying : yX3_startTrying.cls ≠ "java/lang/invoke/MethodHandle" ∧ yX3_startTrying.cls ≠ "java/lang/invoke/VarHandle" ∧ (parseMethodDescriptor yX3_startTrying.desc).map (fun d => d.parameters.length) = some 1 := by decide +kernel
theorem hd_yX1_rowCount : yX1_rowCount.cls ≠ "java/lang/invoke/MethodHandle" ∧ yX1_rowCount.cls ≠ "java/lang/invoke/VarHandle" ∧ (parseMethodDescriptor yX1_rowCount.desc).map (fun d => d.parameters.length) = some 0 := by decide +kernel
theorem hd_yX3_better : yX3_better.cls ≠ "java/lang/invoke/MethodHandle" ∧ yX3_better.cls ≠ "java/lang/invoke/VarHandle" ∧ (parseMethodDescriptor yX3_better.desc).map (fun d => d.parameters.length) = some 2 := by decide +kernel
theorem hd_yX3_fallsTo : yX3_fallsTo.cls ≠ "java/lang/invoke/MethodHandle" ∧ yX3_fallsTo.cls ≠ "java/lang/invoke/VarHandle" ∧ (parseMethodDescriptor yX3_fallsTo.desc).map (fun d => d.parameters.length) = some 2 := by decide +kernel
theorem hd_yX3_nextLetters : yX3_nextLetters.cls ≠ "java/lang/invoke/MethodHandle" ∧ yX3_nextLetters.cls ≠ "java/lang/invoke/VarHandle" ∧ (parseMethodDescriptor yX3_nextLetters.desc).map (fun d => d.parameters.length) = some 1 := by decide +kernel
theorem hd_yX3_leastThinkable : yX3_leastThinkable.cls ≠ "java/lang/invoke/MethodHandle" ∧ yX3_leastThinkable.cls ≠ "java/lang/invoke/VarHandle" ∧ (parseMethodDescriptor yX3_leastThinkable.desc).map (fun d => d.parameters.length) = some 1 := by decide +kernel
theorem tI_m8 : ((-8) : Int32).toInt = (-8) := by decide +kernel
theorem tI_m4 : ((-4) : Int32).toInt = (-4) := by decide +kernel
theorem tI_m1 : ((-1) : Int32).toInt = (-1) := by decide +kernel
theorem tI_0 : (0 : Int32).toInt = 0 := by decide +kernel
theorem tI_1 : (1 : Int32).toInt = 1 := by decide +kernel
theorem tI_2 : (2 : Int32).toInt = 2 := by decide +kernel
theorem tI_3 : (3 : Int32).toInt = 3 := by decide +kernel
theorem tI_5 : (5 : Int32).toInt = 5 := by decide +kernel
theorem tI_6 : (6 : Int32).toInt = 6 := by decide +kernel
theorem tI_8 : (8 : Int32).toInt = 8 := by decide +kernel
theorem tI_10 : (10 : Int32).toInt = 10 := by decide +kernel
theorem tI_16 : (16 : Int32).toInt = 16 := by decide +kernel
theorem tI_24 : (24 : Int32).toInt = 24 := by decide +kernel
theorem tI_30 : (30 : Int32).toInt = 30 := by decide +kernel
theorem tI_32 : (32 : Int32).toInt = 32 := by decide +kernel
theorem tI_40 : (40 : Int32).toInt = 40 := by decide +kernel
theorem tI_64 : (64 : Int32).toInt = 64 := by decide +kernel
theorem tI_100 : (100 : Int32).toInt = 100 := by decide +kernel
theorem tI_243 : (243 : Int32).toInt = 243 := by decide +kernel
theorem tI_1600 : (1600 : Int32).toInt = 1600 := by decide +kernel
theorem tL_m1000000 : ((-1000000) : Int64).toInt = (-1000000) := by decide +kernel
theorem tL_m1 : ((-1) : Int64).toInt = (-1) := by decide +kernel
theorem tL_0 : (0 : Int64).toInt = 0 := by decide +kernel
theorem tL_2 : (2 : Int64).toInt = 2 := by decide +kernel
theorem tL_1000000 : (1000000 : Int64).toInt = 1000000 := by decide +kernel
theorem tL_1000000000000000 : (1000000000000000 : Int64).toInt = 1000000000000000 := by decide +kernel
