theorem tw_62 : (.fieldLink RX8 9 "ManyOut$Table" "numbers" "[I" : Cond) ∈ lw_gd := g_mem (List.mem_append_right _ (g_k1 (List.mem_of_getElem? (i := 62) rfl))) rfl
theorem tw_505 : (.code yJ7_fill_53178 cJ7_fill_53178 4 none : Cond) ∈ lw_gd := g_mem (List.mem_append_right _ (g_k3 (List.mem_of_getElem? (i := 25) rfl))) rfl
theorem tw_10 : (.initialized RJ7 : Cond) ∈ lw_gd := g_mem (List.mem_append_right _ (g_k1 (List.mem_of_getElem? (i := 10) rfl))) rfl
theorem tw_504 : (.static yJ7_fill_53178 : Cond) ∈ lw_gd := g_mem (List.mem_append_right _ (g_k3 (List.mem_of_getElem? (i := 24) rfl))) rfl
theorem tw_800 : (.methodLink RX8 27 yX8_at : Cond) ∈ lw_gd := g_mem (List.mem_append_right _ (g_k4 (List.mem_of_getElem? (i := 80) rfl))) rfl
theorem tw_791 : (.code yX8_at cX8_at 3 (some .int) : Cond) ∈ lw_gd := g_mem (List.mem_append_right _ (g_k4 (List.mem_of_getElem? (i := 71) rfl))) rfl
theorem tw_5 : (.initialized RX8 : Cond) ∈ lw_gd := g_mem (List.mem_append_right _ (g_k1 (List.mem_of_getElem? (i := 5) rfl))) rfl
theorem tw_790 : (.selects RX8 yX8_at yX8_at : Cond) ∈ lw_gd := g_mem (List.mem_append_right _ (g_k4 (List.mem_of_getElem? (i := 70) rfl))) rfl
theorem tw_789 : (.instanceMethod yX8_at : Cond) ∈ lw_gd := g_mem (List.mem_append_right _ (g_k4 (List.mem_of_getElem? (i := 69) rfl))) rfl
theorem tw_799 : (.code yX8_productOf cX8_productOf 5 (some .int) : Cond) ∈ lw_gd := g_mem (List.mem_append_right _ (g_k4 (List.mem_of_getElem? (i := 79) rfl))) rfl
theorem tw_798 : (.selects RX8 yX8_productOf yX8_productOf : Cond) ∈ lw_gd := g_mem (List.mem_append_right _ (g_k4 (List.mem_of_getElem? (i := 78) rfl))) rfl
theorem tw_797 : (.instanceMethod yX8_productOf : Cond) ∈ lw_gd := g_mem (List.mem_append_right _ (g_k4 (List.mem_of_getElem? (i := 77) rfl))) rfl
theorem tw_19 : (.initialized RJ9 : Cond) ∈ lw_gd := g_mem (List.mem_append_right _ (g_k1 (List.mem_of_getElem? (i := 19) rfl))) rfl
theorem tw_885 : (.static Lib.Math.max.name : Cond) ∈ lw_gd := g_mem (List.mem_append_right _ (g_k4 (List.mem_of_getElem? (i := 165) rfl))) rfl
theorem tw_886 : (.code Lib.Math.max.name Lib.Math.max.code 2 (some .int) : Cond) ∈ lw_gd := g_mem (List.mem_append_right _ (g_k4 (List.mem_of_getElem? (i := 166) rfl))) rfl
theorem tw_857 : (.static Lib.MathLoose.min_long.x : Cond) ∈ lw_gd := g_mem (List.mem_append_right _ (g_k4 (List.mem_of_getElem? (i := 137) rfl))) rfl
theorem tw_858 : (.code Lib.MathLoose.min_long.x Lib.MathLoose.min_long.code 4 (some .long) : Cond) ∈ lw_gd := g_mem (List.mem_append_right _ (g_k4 (List.mem_of_getElem? (i := 138) rfl))) rfl
theorem tw_860 : (.static Lib.MathLoose.max_long.x : Cond) ∈ lw_gd := g_mem (List.mem_append_right _ (g_k4 (List.mem_of_getElem? (i := 140) rfl))) rfl
theorem tw_861 : (.code Lib.MathLoose.max_long.x Lib.MathLoose.max_long.code 4 (some .long) : Cond) ∈ lw_gd := g_mem (List.mem_append_right _ (g_k4 (List.mem_of_getElem? (i := 141) rfl))) rfl
theorem tn_117 : (.fieldLinkNest RX10 38 "ManyOut$House" "senders" "I" "ManyOut" : Cond) ∈ lw_nw := g_nmem (g_k1 (List.mem_of_getElem? (i := 117) (by decide +kernel))) rfl
theorem tw_884 : (.methodLink RX10 43 Lib.Math.max.name : Cond) ∈ lw_gd := g_mem (List.mem_append_right _ (g_k4 (List.mem_of_getElem? (i := 164) rfl))) rfl
theorem tw_220 : (.fieldLink RX10 34 "ManyOut$Walk" "last" "I" : Cond) ∈ lw_gd := g_mem (List.mem_append_right _ (g_k1 (List.mem_of_getElem? (i := 220) rfl))) rfl
theorem tw_207 : (.fieldLink RX10 9 "ManyOut$Walk" "products" "[J" : Cond) ∈ lw_gd := g_mem (List.mem_append_right _ (g_k1 (List.mem_of_getElem? (i := 207) rfl))) rfl
theorem tn_99 : (.fieldLinkNest RX10 49 "ManyOut$House" "table" "LManyOut$Table;" "ManyOut" : Cond) ∈ lw_nw := g_nmem (g_k1 (List.mem_of_getElem? (i := 99) (by decide +kernel))) rfl
theorem tw_887 : (.methodLink RX10 53 yX8_productOf : Cond) ∈ lw_gd := g_mem (List.mem_append_right _ (g_k4 (List.mem_of_getElem? (i := 167) rfl))) rfl
theorem tw_210 : (.fieldLink RX10 18 "ManyOut$Walk" "cross" "[J" : Cond) ∈ lw_gd := g_mem (List.mem_append_right _ (g_k1 (List.mem_of_getElem? (i := 210) rfl))) rfl
theorem tw_209 : (.fieldLink RX10 15 "ManyOut$Walk" "base" "[J" : Cond) ∈ lw_gd := g_mem (List.mem_append_right _ (g_k1 (List.mem_of_getElem? (i := 209) rfl))) rfl
theorem tw_211 : (.fieldLink RX10 21 "ManyOut$Walk" "low" "[I" : Cond) ∈ lw_gd := g_mem (List.mem_append_right _ (g_k1 (List.mem_of_getElem? (i := 211) rfl))) rfl
theorem tw_213 : (.fieldLink RX10 25 "ManyOut$Walk" "gap" "[I" : Cond) ∈ lw_gd := g_mem (List.mem_append_right _ (g_k1 (List.mem_of_getElem? (i := 213) rfl))) rfl
theorem tw_214 : (.fieldLink RX10 28 "ManyOut$Walk" "count" "[I" : Cond) ∈ lw_gd := g_mem (List.mem_append_right _ (g_k1 (List.mem_of_getElem? (i := 214) rfl))) rfl
theorem tw_900 : (.code yX10_setNumbers cX10_setNumbers 5 none : Cond) ∈ lw_gd := g_mem (List.mem_append_right _ (g_k4 (List.mem_of_getElem? (i := 180) rfl))) rfl
theorem tw_8 : (.initialized RX10 : Cond) ∈ lw_gd := g_mem (List.mem_append_right _ (g_k1 (List.mem_of_getElem? (i := 8) rfl))) rfl
theorem tw_899 : (.selects RX10 yX10_setNumbers yX10_setNumbers : Cond) ∈ lw_gd := g_mem (List.mem_append_right _ (g_k4 (List.mem_of_getElem? (i := 179) rfl))) rfl
theorem tw_898 : (.instanceMethod yX10_setNumbers : Cond) ∈ lw_gd := g_mem (List.mem_append_right _ (g_k4 (List.mem_of_getElem? (i := 178) rfl))) rfl
theorem tw_216 : (.fieldLink RX10 31 "ManyOut$Walk" "digit" "[I" : Cond) ∈ lw_gd := g_mem (List.mem_append_right _ (g_k1 (List.mem_of_getElem? (i := 216) rfl))) rfl
theorem tw_905 : (.methodLink RX10 68 yJ7_fill_53178 : Cond) ∈ lw_gd := g_mem (List.mem_append_right _ (g_k4 (List.mem_of_getElem? (i := 185) rfl))) rfl
theorem tw_906 : (.methodLink RX10 74 yX10_settle : Cond) ∈ lw_gd := g_mem (List.mem_append_right _ (g_k4 (List.mem_of_getElem? (i := 186) rfl))) rfl
theorem tw_910 : (.constantLong RX10 78 (2) : Cond) ∈ lw_gd := g_mem (List.mem_append_right _ (g_k4 (List.mem_of_getElem? (i := 190) rfl))) rfl
theorem tw_909 : (.code yX10_settle cX10_settle 7 none : Cond) ∈ lw_gd := g_mem (List.mem_append_right _ (g_k4 (List.mem_of_getElem? (i := 189) rfl))) rfl
theorem tp_33 : (.selects RX10 yX10_settle yX10_settle : Cond) ∈ lw_gd := g_mem (List.mem_append_left _ (List.mem_of_getElem? (i := 33) (by decide +kernel))) rfl
theorem tw_908 : (.instanceMethod yX10_settle : Cond) ∈ lw_gd := g_mem (List.mem_append_right _ (g_k4 (List.mem_of_getElem? (i := 188) rfl))) rfl
theorem tw_1152 : (.methodLink RX10 80 yJ9_floorDiv_f86c9 : Cond) ∈ lw_gd := g_mem (List.mem_append_right _ (g_k5 (List.mem_of_getElem? (i := 192) rfl))) rfl
theorem tw_1153 : (.static yJ9_floorDiv_f86c9 : Cond) ∈ lw_gd := g_mem (List.mem_append_right _ (g_k5 (List.mem_of_getElem? (i := 193) rfl))) rfl
theorem tw_1154 : (.code yJ9_floorDiv_f86c9 cJ9_floorDiv_f86c9 6 (some .long) : Cond) ∈ lw_gd := g_mem (List.mem_append_right _ (g_k5 (List.mem_of_getElem? (i := 194) rfl))) rfl
theorem tw_1155 : (.methodLink RX10 84 Lib.MathLoose.min_long.x : Cond) ∈ lw_gd := g_mem (List.mem_append_right _ (g_k5 (List.mem_of_getElem? (i := 195) rfl))) rfl
theorem tw_1156 : (.methodLink RX10 87 Lib.MathLoose.max_long.x : Cond) ∈ lw_gd := g_mem (List.mem_append_right _ (g_k5 (List.mem_of_getElem? (i := 196) rfl))) rfl
theorem tw_1157 : (.methodLink RX10 89 yX10_squaresAt : Cond) ∈ lw_gd := g_mem (List.mem_append_right _ (g_k5 (List.mem_of_getElem? (i := 197) rfl))) rfl
theorem tw_922 : (.code yX10_squaresAt cX10_squaresAt 5 (some .long) : Cond) ∈ lw_gd := g_mem (List.mem_append_right _ (g_k4 (List.mem_of_getElem? (i := 202) rfl))) rfl
theorem tw_921 : (.selects RX10 yX10_squaresAt yX10_squaresAt : Cond) ∈ lw_gd := g_mem (List.mem_append_right _ (g_k4 (List.mem_of_getElem? (i := 201) rfl))) rfl
theorem tw_920 : (.instanceMethod yX10_squaresAt : Cond) ∈ lw_gd := g_mem (List.mem_append_right _ (g_k4 (List.mem_of_getElem? (i := 200) rfl))) rfl
theorem tw_914 : (.code yX10_lineCount cX10_lineCount 3 (some .int) : Cond) ∈ lw_gd := g_mem (List.mem_append_right _ (g_k4 (List.mem_of_getElem? (i := 194) rfl))) rfl
theorem tw_913 : (.selects RX10 yX10_lineCount yX10_lineCount : Cond) ∈ lw_gd := g_mem (List.mem_append_right _ (g_k4 (List.mem_of_getElem? (i := 193) rfl))) rfl
theorem tw_912 : (.instanceMethod yX10_lineCount : Cond) ∈ lw_gd := g_mem (List.mem_append_right _ (g_k4 (List.mem_of_getElem? (i := 192) rfl))) rfl
theorem tw_904 : (.code yX10_firstLine cX10_firstLine 1 none : Cond) ∈ lw_gd := g_mem (List.mem_append_right _ (g_k4 (List.mem_of_getElem? (i := 184) rfl))) rfl
theorem tw_903 : (.selects RX10 yX10_firstLine yX10_firstLine : Cond) ∈ lw_gd := g_mem (List.mem_append_right _ (g_k4 (List.mem_of_getElem? (i := 183) rfl))) rfl
theorem tw_902 : (.instanceMethod yX10_firstLine : Cond) ∈ lw_gd := g_mem (List.mem_append_right _ (g_k4 (List.mem_of_getElem? (i := 182) rfl))) rfl
theorem tw_1151 : (.code yX10_bestDigit cX10_bestDigit 8 (some .int) : Cond) ∈ lw_gd := g_mem (List.mem_append_right _ (g_k5 (List.mem_of_getElem? (i := 191) rfl))) rfl
theorem tw_1150 : (.selects RX10 yX10_bestDigit yX10_bestDigit : Cond) ∈ lw_gd := g_mem (List.mem_append_right _ (g_k5 (List.mem_of_getElem? (i := 190) rfl))) rfl
theorem tw_1149 : (.instanceMethod yX10_bestDigit : Cond) ∈ lw_gd := g_mem (List.mem_append_right _ (g_k5 (List.mem_of_getElem? (i := 189) rfl))) rfl
theorem tw_936 : (.code yX10_nextLine cX10_nextLine 2 none : Cond) ∈ lw_gd := g_mem (List.mem_append_right _ (g_k4 (List.mem_of_getElem? (i := 216) rfl))) rfl
theorem tw_935 : (.selects RX10 yX10_nextLine yX10_nextLine : Cond) ∈ lw_gd := g_mem (List.mem_append_right _ (g_k4 (List.mem_of_getElem? (i := 215) rfl))) rfl
theorem tw_934 : (.instanceMethod yX10_nextLine : Cond) ∈ lw_gd := g_mem (List.mem_append_right _ (g_k4 (List.mem_of_getElem? (i := 214) rfl))) rfl
theorem tw_348 : (.fieldLink RX3 12 "ManyOut$Power" "walk" "LManyOut$Walk;" : Cond) ∈ lw_gd := g_mem (List.mem_append_right _ (g_k2 (List.mem_of_getElem? (i := 108) rfl))) rfl
theorem tn_122 : (.fieldLinkNest RX3 79 "ManyOut$House" "senders" "I" "ManyOut" : Cond) ∈ lw_nw := g_nmem (g_k1 (List.mem_of_getElem? (i := 122) (by decide +kernel))) rfl
theorem tn_113 : (.fieldLinkNest RX3 77 "ManyOut$House" "letters" "I" "ManyOut" : Cond) ∈ lw_nw := g_nmem (g_k1 (List.mem_of_getElem? (i := 113) (by decide +kernel))) rfl
theorem tn_223 : (.fieldLinkNest RX3 110 "ManyOut$Walk" "last" "I" "ManyOut" : Cond) ∈ lw_nw := g_nmem (g_k1 (List.mem_of_getElem? (i := 223) (by decide +kernel))) rfl
theorem tw_12 : (.initialized RX3 : Cond) ∈ lw_gd := g_mem (List.mem_append_right _ (g_k1 (List.mem_of_getElem? (i := 12) rfl))) rfl
theorem tw_1270 : (.methodLink RX3 86 yX10_firstLine : Cond) ∈ lw_gd := g_mem (List.mem_append_right _ (g_k6 (List.mem_of_getElem? (i := 70) rfl))) rfl
theorem tw_1271 : (.constantLong RX3 89 (1000000000000000) : Cond) ∈ lw_gd := g_mem (List.mem_append_right _ (g_k6 (List.mem_of_getElem? (i := 71) rfl))) rfl
theorem tw_1272 : (.methodLink RX3 91 yX10_lineCount : Cond) ∈ lw_gd := g_mem (List.mem_append_right _ (g_k6 (List.mem_of_getElem? (i := 72) rfl))) rfl
theorem tw_1273 : (.methodLink RX3 95 yX10_bestDigit : Cond) ∈ lw_gd := g_mem (List.mem_append_right _ (g_k6 (List.mem_of_getElem? (i := 73) rfl))) rfl
theorem tw_1274 : (.methodLink RX3 99 yX10_squaresAt : Cond) ∈ lw_gd := g_mem (List.mem_append_right _ (g_k6 (List.mem_of_getElem? (i := 74) rfl))) rfl
theorem tw_1279 : (.methodLink RX3 107 yX10_nextLine : Cond) ∈ lw_gd := g_mem (List.mem_append_right _ (g_k6 (List.mem_of_getElem? (i := 79) rfl))) rfl
theorem tw_1275 : (.methodLink RX3 103 yX3_keepFound : Cond) ∈ lw_gd := g_mem (List.mem_append_right _ (g_k6 (List.mem_of_getElem? (i := 75) rfl))) rfl
theorem tw_351 : (.fieldLink RX3 22 "ManyOut$Power" "found" "[I" : Cond) ∈ lw_gd := g_mem (List.mem_append_right _ (g_k2 (List.mem_of_getElem? (i := 111) rfl))) rfl
theorem tn_219 : (.fieldLinkNest RX3 113 "ManyOut$Walk" "digit" "[I" "ManyOut" : Cond) ∈ lw_nw := g_nmem (g_k1 (List.mem_of_getElem? (i := 219) (by decide +kernel))) rfl
theorem tw_1278 : (.code yX3_keepFound cX3_keepFound 3 none : Cond) ∈ lw_gd := g_mem (List.mem_append_right _ (g_k6 (List.mem_of_getElem? (i := 78) rfl))) rfl
theorem tp_53 : (.selects RX3 yX3_keepFound yX3_keepFound : Cond) ∈ lw_gd := g_mem (List.mem_append_left _ (List.mem_of_getElem? (i := 53) (by decide +kernel))) rfl
theorem tw_1277 : (.instanceMethod yX3_keepFound : Cond) ∈ lw_gd := g_mem (List.mem_append_right _ (g_k6 (List.mem_of_getElem? (i := 77) rfl))) rfl
theorem tw_1269 : (.methodLink RX3 82 yX10_setNumbers : Cond) ∈ lw_gd := g_mem (List.mem_append_right _ (g_k6 (List.mem_of_getElem? (i := 69) rfl))) rfl
theorem hd_yJ7_fill_53178 : yJ7_fill_53178.cls ≠ "java/lang/invoke/MethodHandle" ∧ yJ7_fill_53178.cls ≠ "java/lang/invoke/VarHandle" ∧ (parseMethodDescriptor yJ7_fill_53178.desc).map (fun d => d.parameters.length) = some 2 := by decide +kernel
theorem hd_yX8_at : yX8_at.cls ≠ "java/lang/invoke/MethodHandle" ∧ yX8_at.cls ≠ "java/lang/invoke/VarHandle" ∧ (parseMethodDescriptor yX8_at.desc).map (fun d => d.parameters.length) = some 2 := by decide +kernel
theorem hd_yX8_productOf : yX8_productOf.cls ≠ "java/lang/invoke/MethodHandle" ∧ yX8_productOf.cls ≠ "java/lang/invoke/VarHandle" ∧ (parseMethodDescriptor yX8_productOf.desc).map (fun d => d.parameters.length) = some 2 := by decide +kernel
theorem hd_yX10_setNumbers : yX10_setNumbers.cls ≠ "java/lang/invoke/MethodHandle" ∧ yX10_setNumbers.cls ≠ "java/lang/invoke/VarHandle" ∧ (parseMethodDescriptor yX10_setNumbers.desc).map (fun d => d.parameters.length) = some 4 := by decide +kernel
theorem hd_yX10_settle : yX10_settle.cls ≠ "java/lang/invoke/MethodHandle" ∧ yX10_settle.cls ≠ "java/lang/invoke/VarHandle" ∧ (parseMethodDescriptor yX10_settle.desc).map (fun d => d.parameters.length) = some 1 := by decide +kernel
theorem hd_yX10_squaresAt : yX10_squaresAt.cls ≠ "java/lang/invoke/MethodHandle" ∧ yX10_squaresAt.cls ≠ "java/lang/invoke/VarHandle" ∧ (parseMethodDescriptor yX10_squaresAt.desc).map (fun d => d.parameters.length) = some 1 := by decide +kernel
theorem hd_yX10_lineCount : yX10_lineCount.cls ≠ "java/lang/invoke/MethodHandle" ∧ yX10_lineCount.cls ≠ "java/lang/invoke/VarHandle" ∧ (parseMethodDescriptor yX10_lineCount.desc).map (fun d => d.parameters.length) = some 0 := by decide +kernel
theorem hd_yX10_firstLine : yX10_firstLine.cls ≠ "java/lang/invoke/MethodHandle" ∧ yX10_firstLine.cls ≠ "java/lang/invoke/VarHandle" ∧ (parseMethodDescriptor yX10_firstLine.desc).map (fun d => d.parameters.length) = some 0 := by decide +kernel
theorem hd_yX10_bestDigit : yX10_bestDigit.cls ≠ "java/lang/invoke/MethodHandle" ∧ yX10_bestDigit.cls ≠ "java/lang/invoke/VarHandle" ∧ (parseMethodDescriptor yX10_bestDigit.desc).map (fun d => d.parameters.length) = some 1 := by decide +kernel
theorem hd_yX10_nextLine : yX10_nextLine.cls ≠ "java/lang/invoke/MethodHandle" ∧ yX10_nextLine.cls ≠ "java/lang/invoke/VarHandle" ∧ (parseMethodDescriptor yX10_nextLine.desc).map (fun d => d.parameters.length) = some 0 := by decide +kernel
theorem hd_yX3_keepFound : yX3_keepFound.cls ≠ "java/lang/invoke/MethodHandle" ∧ yX3_keepFound.cls ≠ "java/lang/invoke/VarHandle" ∧ (parseMethodDescriptor yX3_keepFound.desc).map (fun d => d.parameters.length) = some 1 := by decide +kernel
theorem tI_m1 : ((-1) : Int32).toInt = (-1) := by decide +kernel
theorem tI_0 : (0 : Int32).toInt = 0 := by decide +kernel
theorem tI_1 : (1 : Int32).toInt = 1 := by decide +kernel
theorem tI_2 : (2 : Int32).toInt = 2 := by decide +kernel
theorem tI_3 : (3 : Int32).toInt = 3 := by decide +kernel
theorem tI_5 : (5 : Int32).toInt = 5 := by decide +kernel
theorem tI_6 : (6 : Int32).toInt = 6 := by decide +kernel
theorem tL_0 : (0 : Int64).toInt = 0 := by decide +kernel
theorem tL_1000000000000000 : (1000000000000000 : Int64).toInt = 1000000000000000 := by decide +kernel
