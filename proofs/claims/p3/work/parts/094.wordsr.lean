theorem tw_1036 : (.methodLink RX11 296 yX2_makeSteps : Cond) ∈ lw_gd := g_mem (List.mem_append_right _ (g_k5 (List.mem_of_getElem? (i := 76) (by decide +kernel)))) rfl
theorem tw_1040 : (.methodLink RX2 60 yX2_makeStep : Cond) ∈ lw_gd := g_mem (List.mem_append_right _ (g_k5 (List.mem_of_getElem? (i := 80) (by decide +kernel)))) rfl
theorem tw_401 : (.fieldLink RX2 39 "ManyOut$Led" "done" "I" : Cond) ∈ lw_gd := g_mem (List.mem_append_right _ (g_k2 (List.mem_of_getElem? (i := 161) (by decide +kernel)))) rfl
theorem tw_395 : (.fieldLink RX2 26 "ManyOut$Led" "senders" "I" : Cond) ∈ lw_gd := g_mem (List.mem_append_right _ (g_k2 (List.mem_of_getElem? (i := 155) (by decide +kernel)))) rfl
theorem tw_1044 : (.methodLink RX2 64 yX2_timesIn : Cond) ∈ lw_gd := g_mem (List.mem_append_right _ (g_k5 (List.mem_of_getElem? (i := 84) (by decide +kernel)))) rfl
theorem tw_391 : (.fieldLink RX2 12 "ManyOut$Led" "table" "LManyOut$Table;" : Cond) ∈ lw_gd := g_mem (List.mem_append_right _ (g_k2 (List.mem_of_getElem? (i := 151) (by decide +kernel)))) rfl
theorem tw_1048 : (.methodLink RX2 75 yX8_productOf : Cond) ∈ lw_gd := g_mem (List.mem_append_right _ (g_k5 (List.mem_of_getElem? (i := 88) (by decide +kernel)))) rfl
theorem tw_1049 : (.methodLink RX2 78 Lib.Math.abs.name : Cond) ∈ lw_gd := g_mem (List.mem_append_right _ (g_k5 (List.mem_of_getElem? (i := 89) (by decide +kernel)))) rfl
theorem tw_1047 : (.code yX2_timesIn cX2_timesIn 6 (some .int) : Cond) ∈ lw_gd := g_mem (List.mem_append_right _ (g_k5 (List.mem_of_getElem? (i := 87) rfl))) rfl
theorem tp_41 : (.selects RX2 yX2_timesIn yX2_timesIn : Cond) ∈ lw_gd := g_mem (List.mem_append_left _ (List.mem_of_getElem? (i := 41) (by decide +kernel))) rfl
theorem tw_1046 : (.instanceMethod yX2_timesIn : Cond) ∈ lw_gd := g_mem (List.mem_append_right _ (g_k5 (List.mem_of_getElem? (i := 86) (by decide +kernel)))) rfl
theorem tw_1050 : (.methodLink RX2 68 yX2_remember : Cond) ∈ lw_gd := g_mem (List.mem_append_right _ (g_k5 (List.mem_of_getElem? (i := 90) (by decide +kernel)))) rfl
theorem tw_399 : (.fieldLink RX2 36 "ManyOut$Led" "redoable" "I" : Cond) ∈ lw_gd := g_mem (List.mem_append_right _ (g_k2 (List.mem_of_getElem? (i := 159) (by decide +kernel)))) rfl
theorem tw_397 : (.fieldLink RX2 33 "ManyOut$Led" "undoable" "I" : Cond) ∈ lw_gd := g_mem (List.mem_append_right _ (g_k2 (List.mem_of_getElem? (i := 157) (by decide +kernel)))) rfl
theorem tw_1053 : (.code yX2_remember cX2_remember 5 none : Cond) ∈ lw_gd := g_mem (List.mem_append_right _ (g_k5 (List.mem_of_getElem? (i := 93) rfl))) rfl
theorem tp_42 : (.selects RX2 yX2_remember yX2_remember : Cond) ∈ lw_gd := g_mem (List.mem_append_left _ (List.mem_of_getElem? (i := 42) (by decide +kernel))) rfl
theorem tw_1052 : (.instanceMethod yX2_remember : Cond) ∈ lw_gd := g_mem (List.mem_append_right _ (g_k5 (List.mem_of_getElem? (i := 92) (by decide +kernel)))) rfl
theorem tw_1058 : (.methodLink RX2 72 yX2_takeAway : Cond) ∈ lw_gd := g_mem (List.mem_append_right _ (g_k5 (List.mem_of_getElem? (i := 98) (by decide +kernel)))) rfl
theorem tw_1062 : (.methodLink RX2 83 yX8_takeAway : Cond) ∈ lw_gd := g_mem (List.mem_append_right _ (g_k5 (List.mem_of_getElem? (i := 102) (by decide +kernel)))) rfl
theorem tw_1065 : (.code yX8_takeAway cX8_takeAway 5 none : Cond) ∈ lw_gd := g_mem (List.mem_append_right _ (g_k5 (List.mem_of_getElem? (i := 105) rfl))) rfl
theorem tw_1064 : (.selects RX8 yX8_takeAway yX8_takeAway : Cond) ∈ lw_gd := g_mem (List.mem_append_right _ (g_k5 (List.mem_of_getElem? (i := 104) (by decide +kernel)))) rfl
theorem tw_1063 : (.instanceMethod yX8_takeAway : Cond) ∈ lw_gd := g_mem (List.mem_append_right _ (g_k5 (List.mem_of_getElem? (i := 103) (by decide +kernel)))) rfl
theorem tw_1061 : (.code yX2_takeAway cX2_takeAway 5 none : Cond) ∈ lw_gd := g_mem (List.mem_append_right _ (g_k5 (List.mem_of_getElem? (i := 101) rfl))) rfl
theorem tp_44 : (.selects RX2 yX2_takeAway yX2_takeAway : Cond) ∈ lw_gd := g_mem (List.mem_append_left _ (List.mem_of_getElem? (i := 44) (by decide +kernel))) rfl
theorem tw_1060 : (.instanceMethod yX2_takeAway : Cond) ∈ lw_gd := g_mem (List.mem_append_right _ (g_k5 (List.mem_of_getElem? (i := 100) (by decide +kernel)))) rfl
theorem tw_1043 : (.code yX2_makeStep cX2_makeStep 4 (some .boolean) : Cond) ∈ lw_gd := g_mem (List.mem_append_right _ (g_k5 (List.mem_of_getElem? (i := 83) rfl))) rfl
theorem tp_40 : (.selects RX2 yX2_makeStep yX2_makeStep : Cond) ∈ lw_gd := g_mem (List.mem_append_left _ (List.mem_of_getElem? (i := 40) (by decide +kernel))) rfl
theorem tw_1042 : (.instanceMethod yX2_makeStep : Cond) ∈ lw_gd := g_mem (List.mem_append_right _ (g_k5 (List.mem_of_getElem? (i := 82) (by decide +kernel)))) rfl
theorem tw_1039 : (.code yX2_makeSteps cX2_makeSteps 3 (some .int) : Cond) ∈ lw_gd := g_mem (List.mem_append_right _ (g_k5 (List.mem_of_getElem? (i := 79) rfl))) rfl
theorem tw_1038 : (.selects RX2 yX2_makeSteps yX2_makeSteps : Cond) ∈ lw_gd := g_mem (List.mem_append_right _ (g_k5 (List.mem_of_getElem? (i := 78) (by decide +kernel)))) rfl
theorem tw_1037 : (.instanceMethod yX2_makeSteps : Cond) ∈ lw_gd := g_mem (List.mem_append_right _ (g_k5 (List.mem_of_getElem? (i := 77) (by decide +kernel)))) rfl
theorem tw_1071 : (.methodLink RX11 299 yX2_undoStep : Cond) ∈ lw_gd := g_mem (List.mem_append_right _ (g_k5 (List.mem_of_getElem? (i := 111) (by decide +kernel)))) rfl
theorem tw_1074 : (.code yX2_undoStep cX2_undoStep 2 (some .boolean) : Cond) ∈ lw_gd := g_mem (List.mem_append_right _ (g_k5 (List.mem_of_getElem? (i := 114) rfl))) rfl
theorem tw_1073 : (.selects RX2 yX2_undoStep yX2_undoStep : Cond) ∈ lw_gd := g_mem (List.mem_append_right _ (g_k5 (List.mem_of_getElem? (i := 113) (by decide +kernel)))) rfl
theorem tw_1072 : (.instanceMethod yX2_undoStep : Cond) ∈ lw_gd := g_mem (List.mem_append_right _ (g_k5 (List.mem_of_getElem? (i := 112) (by decide +kernel)))) rfl
theorem tw_1079 : (.methodLink RX11 302 yX2_redoStep : Cond) ∈ lw_gd := g_mem (List.mem_append_right _ (g_k5 (List.mem_of_getElem? (i := 119) (by decide +kernel)))) rfl
theorem tw_1082 : (.code yX2_redoStep cX2_redoStep 2 (some .boolean) : Cond) ∈ lw_gd := g_mem (List.mem_append_right _ (g_k5 (List.mem_of_getElem? (i := 122) rfl))) rfl
theorem tw_1081 : (.selects RX2 yX2_redoStep yX2_redoStep : Cond) ∈ lw_gd := g_mem (List.mem_append_right _ (g_k5 (List.mem_of_getElem? (i := 121) (by decide +kernel)))) rfl
theorem tw_1080 : (.instanceMethod yX2_redoStep : Cond) ∈ lw_gd := g_mem (List.mem_append_right _ (g_k5 (List.mem_of_getElem? (i := 120) (by decide +kernel)))) rfl
theorem tw_1390 : (.methodLink RX11 407 yX11_isImage : Cond) ∈ lw_gd := g_mem (List.mem_append_right _ (g_k6 (List.mem_of_getElem? (i := 190) (by decide +kernel)))) rfl
theorem tw_1393 : (.code yX11_isImage cX11_isImage 4 (some .boolean) : Cond) ∈ lw_gd := g_mem (List.mem_append_right _ (g_k6 (List.mem_of_getElem? (i := 193) rfl))) rfl
theorem tp_58 : (.selects RX11 yX11_isImage yX11_isImage : Cond) ∈ lw_gd := g_mem (List.mem_append_left _ (List.mem_of_getElem? (i := 58) (by decide +kernel))) rfl
theorem tw_1392 : (.instanceMethod yX11_isImage : Cond) ∈ lw_gd := g_mem (List.mem_append_right _ (g_k6 (List.mem_of_getElem? (i := 192) (by decide +kernel)))) rfl
theorem tw_433 : (.fieldLink RX11 80 "ManyOut" "spareLed" "LManyOut$Led;" : Cond) ∈ lw_gd := g_mem (List.mem_append_right _ (g_k2 (List.mem_of_getElem? (i := 193) (by decide +kernel)))) rfl
theorem tw_735 : (.methodLink RX11 114 yX2_start : Cond) ∈ lw_gd := g_mem (List.mem_append_right _ (g_k4 (List.mem_of_getElem? (i := 15) (by decide +kernel)))) rfl
theorem tn_98 : (.fieldLinkNest RX2 42 "ManyOut$House" "table" "LManyOut$Table;" "ManyOut" : Cond) ∈ lw_nw := g_nmem (g_k1 (List.mem_of_getElem? (i := 98) (by decide +kernel))) rfl
theorem tw_739 : (.methodLink RX2 45 yX8_copyFrom : Cond) ∈ lw_gd := g_mem (List.mem_append_right _ (g_k4 (List.mem_of_getElem? (i := 19) (by decide +kernel)))) rfl
theorem tw_742 : (.code yX8_copyFrom cX8_copyFrom 2 none : Cond) ∈ lw_gd := g_mem (List.mem_append_right _ (g_k4 (List.mem_of_getElem? (i := 22) rfl))) rfl
theorem tw_741 : (.selects RX8 yX8_copyFrom yX8_copyFrom : Cond) ∈ lw_gd := g_mem (List.mem_append_right _ (g_k4 (List.mem_of_getElem? (i := 21) (by decide +kernel)))) rfl
theorem tw_740 : (.instanceMethod yX8_copyFrom : Cond) ∈ lw_gd := g_mem (List.mem_append_right _ (g_k4 (List.mem_of_getElem? (i := 20) (by decide +kernel)))) rfl
theorem tn_118 : (.fieldLinkNest RX2 49 "ManyOut$House" "senders" "I" "ManyOut" : Cond) ∈ lw_nw := g_nmem (g_k1 (List.mem_of_getElem? (i := 118) (by decide +kernel))) rfl
theorem tw_746 : (.methodLink RX2 50 yJ7_fill_d0a16 : Cond) ∈ lw_gd := g_mem (List.mem_append_right _ (g_k4 (List.mem_of_getElem? (i := 26) (by decide +kernel)))) rfl
theorem tw_738 : (.code yX2_start cX2_start 3 none : Cond) ∈ lw_gd := g_mem (List.mem_append_right _ (g_k4 (List.mem_of_getElem? (i := 18) rfl))) rfl
theorem tw_737 : (.selects RX2 yX2_start yX2_start : Cond) ∈ lw_gd := g_mem (List.mem_append_right _ (g_k4 (List.mem_of_getElem? (i := 17) (by decide +kernel)))) rfl
theorem tw_736 : (.instanceMethod yX2_start : Cond) ∈ lw_gd := g_mem (List.mem_append_right _ (g_k4 (List.mem_of_getElem? (i := 16) (by decide +kernel)))) rfl
theorem tw_491 : (.methodLink RX11 100 yX4_readHouse : Cond) ∈ lw_gd := g_mem (List.mem_append_right _ (g_k3 (List.mem_of_getElem? (i := 11) (by decide +kernel)))) rfl
theorem tw_169 : (.fieldLink RX4 21 "ManyOut$Reader" "into" "LManyOut$House;" : Cond) ∈ lw_gd := g_mem (List.mem_append_right _ (g_k1 (List.mem_of_getElem? (i := 169) (by decide +kernel)))) rfl
theorem tw_495 : (.methodLink RX4 44 yX1_clear : Cond) ∈ lw_gd := g_mem (List.mem_append_right _ (g_k3 (List.mem_of_getElem? (i := 15) (by decide +kernel)))) rfl
theorem tw_498 : (.code yX1_clear cX1_clear 1 none : Cond) ∈ lw_gd := g_mem (List.mem_append_right _ (g_k3 (List.mem_of_getElem? (i := 18) rfl))) rfl
theorem tw_497 : (.selects RX1 yX1_clear yX1_clear : Cond) ∈ lw_gd := g_mem (List.mem_append_right _ (g_k3 (List.mem_of_getElem? (i := 17) (by decide +kernel)))) rfl
theorem tw_496 : (.instanceMethod yX1_clear : Cond) ∈ lw_gd := g_mem (List.mem_append_right _ (g_k3 (List.mem_of_getElem? (i := 16) (by decide +kernel)))) rfl
theorem tw_173 : (.fieldLink RX4 35 "ManyOut$Reader" "open" "I" : Cond) ∈ lw_gd := g_mem (List.mem_append_right _ (g_k1 (List.mem_of_getElem? (i := 173) (by decide +kernel)))) rfl
theorem tw_174 : (.fieldLink RX4 38 "ManyOut$Reader" "fault" "I" : Cond) ∈ lw_gd := g_mem (List.mem_append_right _ (g_k1 (List.mem_of_getElem? (i := 174) (by decide +kernel)))) rfl
theorem tw_176 : (.fieldLink RX4 41 "ManyOut$Reader" "place" "I" : Cond) ∈ lw_gd := g_mem (List.mem_append_right _ (g_k1 (List.mem_of_getElem? (i := 176) (by decide +kernel)))) rfl
theorem tw_510 : (.methodLink RX4 47 yX4_goOn : Cond) ∈ lw_gd := g_mem (List.mem_append_right _ (g_k3 (List.mem_of_getElem? (i := 30) (by decide +kernel)))) rfl
theorem tw_170 : (.fieldLink RX4 25 "ManyOut$Reader" "at" "I" : Cond) ∈ lw_gd := g_mem (List.mem_append_right _ (g_k1 (List.mem_of_getElem? (i := 170) (by decide +kernel)))) rfl
theorem tw_167 : (.fieldLink RX4 12 "ManyOut$Reader" "tape" "LManyOut$Tape;" : Cond) ∈ lw_gd := g_mem (List.mem_append_right _ (g_k1 (List.mem_of_getElem? (i := 167) (by decide +kernel)))) rfl
theorem tw_514 : (.methodLink RX4 70 yX9_length : Cond) ∈ lw_gd := g_mem (List.mem_append_right _ (g_k3 (List.mem_of_getElem? (i := 34) (by decide +kernel)))) rfl
theorem tw_515 : (.methodLink RX4 74 yX9_at : Cond) ∈ lw_gd := g_mem (List.mem_append_right _ (g_k3 (List.mem_of_getElem? (i := 35) (by decide +kernel)))) rfl
theorem tw_171 : (.fieldLink RX4 29 "ManyOut$Reader" "sign" "I" : Cond) ∈ lw_gd := g_mem (List.mem_append_right _ (g_k1 (List.mem_of_getElem? (i := 171) (by decide +kernel)))) rfl
theorem tw_522 : (.methodLink RX4 80 yX4_isSmall : Cond) ∈ lw_gd := g_mem (List.mem_append_right _ (g_k3 (List.mem_of_getElem? (i := 42) (by decide +kernel)))) rfl
theorem tw_524 : (.code yX4_isSmall cX4_isSmall 1 (some .boolean) : Cond) ∈ lw_gd := g_mem (List.mem_append_right _ (g_k3 (List.mem_of_getElem? (i := 44) rfl))) rfl
theorem tw_2 : (.initialized RX4 : Cond) ∈ lw_gd := g_mem (List.mem_append_right _ (g_k1 (List.mem_of_getElem? (i := 2) (by decide +kernel)))) rfl
theorem tw_523 : (.static yX4_isSmall : Cond) ∈ lw_gd := g_mem (List.mem_append_right _ (g_k3 (List.mem_of_getElem? (i := 43) (by decide +kernel)))) rfl
theorem tw_525 : (.methodLink RX4 83 yX4_isDigit : Cond) ∈ lw_gd := g_mem (List.mem_append_right _ (g_k3 (List.mem_of_getElem? (i := 45) (by decide +kernel)))) rfl
theorem tw_527 : (.code yX4_isDigit cX4_isDigit 1 (some .boolean) : Cond) ∈ lw_gd := g_mem (List.mem_append_right _ (g_k3 (List.mem_of_getElem? (i := 47) rfl))) rfl
theorem tw_526 : (.static yX4_isDigit : Cond) ∈ lw_gd := g_mem (List.mem_append_right _ (g_k3 (List.mem_of_getElem? (i := 46) (by decide +kernel)))) rfl
theorem tw_519 : (.methodLink RX4 77 yX4_isBlank : Cond) ∈ lw_gd := g_mem (List.mem_append_right _ (g_k3 (List.mem_of_getElem? (i := 39) (by decide +kernel)))) rfl
theorem tw_521 : (.code yX4_isBlank cX4_isBlank 1 (some .boolean) : Cond) ∈ lw_gd := g_mem (List.mem_append_right _ (g_k3 (List.mem_of_getElem? (i := 41) rfl))) rfl
theorem tw_520 : (.static yX4_isBlank : Cond) ∈ lw_gd := g_mem (List.mem_append_right _ (g_k3 (List.mem_of_getElem? (i := 40) (by decide +kernel)))) rfl
theorem tw_513 : (.code yX4_goOn cX4_goOn 3 none : Cond) ∈ lw_gd := g_mem (List.mem_append_right _ (g_k3 (List.mem_of_getElem? (i := 33) rfl))) rfl
theorem tp_0 : (.selects RX4 yX4_goOn yX4_goOn : Cond) ∈ lw_gd := g_mem (List.mem_append_left _ (List.mem_of_getElem? (i := 0) (by decide +kernel))) rfl
theorem tw_512 : (.instanceMethod yX4_goOn : Cond) ∈ lw_gd := g_mem (List.mem_append_right _ (g_k3 (List.mem_of_getElem? (i := 32) (by decide +kernel)))) rfl
theorem tw_536 : (.methodLink RX4 59 yX4_readStatement : Cond) ∈ lw_gd := g_mem (List.mem_append_right _ (g_k3 (List.mem_of_getElem? (i := 56) (by decide +kernel)))) rfl
theorem tw_549 : (.methodLink RX4 93 yX4_isWordAhead : Cond) ∈ lw_gd := g_mem (List.mem_append_right _ (g_k3 (List.mem_of_getElem? (i := 69) (by decide +kernel)))) rfl
theorem tw_553 : (.methodLink RX4 86 yJ0_length_8abf5 : Cond) ∈ lw_gd := g_mem (List.mem_append_right _ (g_k3 (List.mem_of_getElem? (i := 73) (by decide +kernel)))) rfl
theorem tw_2110 : (.fieldLink RJ0 9 "java/lang/String" "value" "[B" : Cond) ∈ lw_gd := g_mem (List.mem_append_right _ (g_k9 (List.mem_of_getElem? (i := 190) (by decide +kernel)))) rfl
theorem tw_557 : (.methodLink RJ0 335 yJ0_coder_7d493 : Cond) ∈ lw_gd := g_mem (List.mem_append_right _ (g_k3 (List.mem_of_getElem? (i := 77) (by decide +kernel)))) rfl
theorem tw_561 : (.fieldLink RJ0 38 "java/lang/String" "COMPACT_STRINGS" "Z" : Cond) ∈ lw_gd := g_mem (List.mem_append_right _ (g_k3 (List.mem_of_getElem? (i := 81) (by decide +kernel)))) rfl
theorem tw_2111 : (.fieldLink RJ0 15 "java/lang/String" "coder" "B" : Cond) ∈ lw_gd := g_mem (List.mem_append_right _ (g_k9 (List.mem_of_getElem? (i := 191) (by decide +kernel)))) rfl
theorem tw_560 : (.code yJ0_coder_7d493 cJ0_coder_7d493 1 (some .byte) : Cond) ∈ lw_gd := g_mem (List.mem_append_right _ (g_k3 (List.mem_of_getElem? (i := 80) rfl))) rfl
theorem tw_15 : (.initialized RJ0 : Cond) ∈ lw_gd := g_mem (List.mem_append_right _ (g_k1 (List.mem_of_getElem? (i := 15) (by decide +kernel)))) rfl
theorem tw_559 : (.selects RJ0 yJ0_coder_7d493 yJ0_coder_7d493 : Cond) ∈ lw_gd := g_mem (List.mem_append_right _ (g_k3 (List.mem_of_getElem? (i := 79) (by decide +kernel)))) rfl
theorem tw_558 : (.instanceMethod yJ0_coder_7d493 : Cond) ∈ lw_gd := g_mem (List.mem_append_right _ (g_k3 (List.mem_of_getElem? (i := 78) (by decide +kernel)))) rfl
theorem tw_556 : (.code yJ0_length_8abf5 cJ0_length_8abf5 1 (some .int) : Cond) ∈ lw_gd := g_mem (List.mem_append_right _ (g_k3 (List.mem_of_getElem? (i := 76) rfl))) rfl
theorem tw_555 : (.selects RJ0 yJ0_length_8abf5 yJ0_length_8abf5 : Cond) ∈ lw_gd := g_mem (List.mem_append_right _ (g_k3 (List.mem_of_getElem? (i := 75) (by decide +kernel)))) rfl
theorem tw_554 : (.instanceMethod yJ0_length_8abf5 : Cond) ∈ lw_gd := g_mem (List.mem_append_right _ (g_k3 (List.mem_of_getElem? (i := 74) (by decide +kernel)))) rfl
theorem tw_563 : (.methodLink RX4 89 yJ0_charAt_5068e : Cond) ∈ lw_gd := g_mem (List.mem_append_right _ (g_k3 (List.mem_of_getElem? (i := 83) (by decide +kernel)))) rfl
theorem tw_567 : (.methodLink RJ0 492 yJ0_isLatin1_aae02 : Cond) ∈ lw_gd := g_mem (List.mem_append_right _ (g_k3 (List.mem_of_getElem? (i := 87) (by decide +kernel)))) rfl
theorem tw_570 : (.code yJ0_isLatin1_aae02 cJ0_isLatin1_aae02 1 (some .boolean) : Cond) ∈ lw_gd := g_mem (List.mem_append_right _ (g_k3 (List.mem_of_getElem? (i := 90) rfl))) rfl
theorem tw_569 : (.selects RJ0 yJ0_isLatin1_aae02 yJ0_isLatin1_aae02 : Cond) ∈ lw_gd := g_mem (List.mem_append_right _ (g_k3 (List.mem_of_getElem? (i := 89) (by decide +kernel)))) rfl
theorem tw_568 : (.instanceMethod yJ0_isLatin1_aae02 : Cond) ∈ lw_gd := g_mem (List.mem_append_right _ (g_k3 (List.mem_of_getElem? (i := 88) (by decide +kernel)))) rfl
theorem tw_571 : (.methodLink RJ0 495 yJ1_charAt_3b067 : Cond) ∈ lw_gd := g_mem (List.mem_append_right _ (g_k3 (List.mem_of_getElem? (i := 91) (by decide +kernel)))) rfl
theorem tw_574 : (.methodLink RJ1 9 yJ0_checkIndex_df160 : Cond) ∈ lw_gd := g_mem (List.mem_append_right _ (g_k3 (List.mem_of_getElem? (i := 94) (by decide +kernel)))) rfl
theorem tw_577 : (.fieldLink RJ0 1053 "jdk/internal/util/Preconditions" "SIOOBE_FORMATTER" "Ljava/util/function/BiFunction;" : Cond) ∈ lw_gd := g_mem (List.mem_append_right _ (g_k3 (List.mem_of_getElem? (i := 97) (by decide +kernel)))) rfl
theorem tw_579 : (.methodLink RJ0 1059 yJ3_checkIndex_8e157 : Cond) ∈ lw_gd := g_mem (List.mem_append_right _ (g_k3 (List.mem_of_getElem? (i := 99) (by decide +kernel)))) rfl
theorem tw_581 : (.code yJ3_checkIndex_8e157 cJ3_checkIndex_8e157 3 (some .int) : Cond) ∈ lw_gd := g_mem (List.mem_append_right _ (g_k3 (List.mem_of_getElem? (i := 101) rfl))) rfl
theorem tw_17 : (.initialized RJ3 : Cond) ∈ lw_gd := g_mem (List.mem_append_right _ (g_k1 (List.mem_of_getElem? (i := 17) (by decide +kernel)))) rfl
theorem tw_580 : (.static yJ3_checkIndex_8e157 : Cond) ∈ lw_gd := g_mem (List.mem_append_right _ (g_k3 (List.mem_of_getElem? (i := 100) (by decide +kernel)))) rfl
theorem tw_576 : (.code yJ0_checkIndex_df160 cJ0_checkIndex_df160 2 none : Cond) ∈ lw_gd := g_mem (List.mem_append_right _ (g_k3 (List.mem_of_getElem? (i := 96) rfl))) rfl
theorem tw_575 : (.static yJ0_checkIndex_df160 : Cond) ∈ lw_gd := g_mem (List.mem_append_right _ (g_k3 (List.mem_of_getElem? (i := 95) (by decide +kernel)))) rfl
theorem tw_573 : (.code yJ1_charAt_3b067 cJ1_charAt_3b067 2 (some .char) : Cond) ∈ lw_gd := g_mem (List.mem_append_right _ (g_k3 (List.mem_of_getElem? (i := 93) rfl))) rfl
theorem tw_16 : (.initialized RJ1 : Cond) ∈ lw_gd := g_mem (List.mem_append_right _ (g_k1 (List.mem_of_getElem? (i := 16) (by decide +kernel)))) rfl
theorem tw_572 : (.static yJ1_charAt_3b067 : Cond) ∈ lw_gd := g_mem (List.mem_append_right _ (g_k3 (List.mem_of_getElem? (i := 92) (by decide +kernel)))) rfl
theorem tw_566 : (.code yJ0_charAt_5068e cJ0_charAt_5068e 2 (some .char) : Cond) ∈ lw_gd := g_mem (List.mem_append_right _ (g_k3 (List.mem_of_getElem? (i := 86) rfl))) rfl
theorem tw_565 : (.selects RJ0 yJ0_charAt_5068e yJ0_charAt_5068e : Cond) ∈ lw_gd := g_mem (List.mem_append_right _ (g_k3 (List.mem_of_getElem? (i := 85) (by decide +kernel)))) rfl
theorem tw_564 : (.instanceMethod yJ0_charAt_5068e : Cond) ∈ lw_gd := g_mem (List.mem_append_right _ (g_k3 (List.mem_of_getElem? (i := 84) (by decide +kernel)))) rfl
theorem tw_552 : (.code yX4_isWordAhead cX4_isWordAhead 4 (some .boolean) : Cond) ∈ lw_gd := g_mem (List.mem_append_right _ (g_k3 (List.mem_of_getElem? (i := 72) rfl))) rfl
theorem tp_6 : (.selects RX4 yX4_isWordAhead yX4_isWordAhead : Cond) ∈ lw_gd := g_mem (List.mem_append_left _ (List.mem_of_getElem? (i := 6) (by decide +kernel))) rfl
theorem tw_551 : (.instanceMethod yX4_isWordAhead : Cond) ∈ lw_gd := g_mem (List.mem_append_right _ (g_k3 (List.mem_of_getElem? (i := 71) (by decide +kernel)))) rfl
theorem tw_541 : (.methodLink RX4 109 yX4_readWord : Cond) ∈ lw_gd := g_mem (List.mem_append_right _ (g_k3 (List.mem_of_getElem? (i := 61) (by decide +kernel)))) rfl
theorem tw_545 : (.methodLink RX4 97 yX4_takesWord : Cond) ∈ lw_gd := g_mem (List.mem_append_right _ (g_k3 (List.mem_of_getElem? (i := 65) (by decide +kernel)))) rfl
theorem tw_548 : (.code yX4_takesWord cX4_takesWord 3 (some .boolean) : Cond) ∈ lw_gd := g_mem (List.mem_append_right _ (g_k3 (List.mem_of_getElem? (i := 68) rfl))) rfl
theorem tp_5 : (.selects RX4 yX4_takesWord yX4_takesWord : Cond) ∈ lw_gd := g_mem (List.mem_append_left _ (List.mem_of_getElem? (i := 5) (by decide +kernel))) rfl
theorem tw_547 : (.instanceMethod yX4_takesWord : Cond) ∈ lw_gd := g_mem (List.mem_append_right _ (g_k3 (List.mem_of_getElem? (i := 67) (by decide +kernel)))) rfl
theorem tw_528 : (.methodLink RX4 51 yX4_failHere : Cond) ∈ lw_gd := g_mem (List.mem_append_right _ (g_k3 (List.mem_of_getElem? (i := 48) (by decide +kernel)))) rfl
theorem tw_532 : (.methodLink RX4 55 yX4_fail : Cond) ∈ lw_gd := g_mem (List.mem_append_right _ (g_k3 (List.mem_of_getElem? (i := 52) (by decide +kernel)))) rfl
theorem tw_535 : (.code yX4_fail cX4_fail 3 (some .boolean) : Cond) ∈ lw_gd := g_mem (List.mem_append_right _ (g_k3 (List.mem_of_getElem? (i := 55) rfl))) rfl
theorem tp_2 : (.selects RX4 yX4_fail yX4_fail : Cond) ∈ lw_gd := g_mem (List.mem_append_left _ (List.mem_of_getElem? (i := 2) (by decide +kernel))) rfl
theorem tw_534 : (.instanceMethod yX4_fail : Cond) ∈ lw_gd := g_mem (List.mem_append_right _ (g_k3 (List.mem_of_getElem? (i := 54) (by decide +kernel)))) rfl
theorem tw_531 : (.code yX4_failHere cX4_failHere 1 (some .boolean) : Cond) ∈ lw_gd := g_mem (List.mem_append_right _ (g_k3 (List.mem_of_getElem? (i := 51) rfl))) rfl
theorem tp_1 : (.selects RX4 yX4_failHere yX4_failHere : Cond) ∈ lw_gd := g_mem (List.mem_append_left _ (List.mem_of_getElem? (i := 1) (by decide +kernel))) rfl
theorem tw_530 : (.instanceMethod yX4_failHere : Cond) ∈ lw_gd := g_mem (List.mem_append_right _ (g_k3 (List.mem_of_getElem? (i := 50) (by decide +kernel)))) rfl
theorem tw_544 : (.code yX4_readWord cX4_readWord 2 (some .boolean) : Cond) ∈ lw_gd := g_mem (List.mem_append_right _ (g_k3 (List.mem_of_getElem? (i := 64) rfl))) rfl
theorem tp_4 : (.selects RX4 yX4_readWord yX4_readWord : Cond) ∈ lw_gd := g_mem (List.mem_append_left _ (List.mem_of_getElem? (i := 4) (by decide +kernel))) rfl
theorem tw_543 : (.instanceMethod yX4_readWord : Cond) ∈ lw_gd := g_mem (List.mem_append_right _ (g_k3 (List.mem_of_getElem? (i := 63) (by decide +kernel)))) rfl
theorem tw_726 : (.methodLink RX4 153 yX4_readLimit : Cond) ∈ lw_gd := g_mem (List.mem_append_right _ (g_k4 (List.mem_of_getElem? (i := 6) (by decide +kernel)))) rfl
theorem tw_605 : (.methodLink RX4 156 yX4_readBetween : Cond) ∈ lw_gd := g_mem (List.mem_append_right _ (g_k3 (List.mem_of_getElem? (i := 125) (by decide +kernel)))) rfl
theorem tw_609 : (.methodLink RX4 103 yX4_readNumber : Cond) ∈ lw_gd := g_mem (List.mem_append_right _ (g_k3 (List.mem_of_getElem? (i := 129) (by decide +kernel)))) rfl
theorem tw_172 : (.fieldLink RX4 32 "ManyOut$Reader" "numberAt" "I" : Cond) ∈ lw_gd := g_mem (List.mem_append_right _ (g_k1 (List.mem_of_getElem? (i := 172) (by decide +kernel)))) rfl
theorem tw_612 : (.code yX4_readNumber cX4_readNumber 3 (some .int) : Cond) ∈ lw_gd := g_mem (List.mem_append_right _ (g_k3 (List.mem_of_getElem? (i := 132) rfl))) rfl
theorem tp_9 : (.selects RX4 yX4_readNumber yX4_readNumber : Cond) ∈ lw_gd := g_mem (List.mem_append_left _ (List.mem_of_getElem? (i := 9) (by decide +kernel))) rfl
theorem tw_611 : (.instanceMethod yX4_readNumber : Cond) ∈ lw_gd := g_mem (List.mem_append_right _ (g_k3 (List.mem_of_getElem? (i := 131) (by decide +kernel)))) rfl
theorem tw_608 : (.code yX4_readBetween cX4_readBetween 4 (some .int) : Cond) ∈ lw_gd := g_mem (List.mem_append_right _ (g_k3 (List.mem_of_getElem? (i := 128) rfl))) rfl
theorem tp_8 : (.selects RX4 yX4_readBetween yX4_readBetween : Cond) ∈ lw_gd := g_mem (List.mem_append_left _ (List.mem_of_getElem? (i := 8) (by decide +kernel))) rfl
theorem tw_607 : (.instanceMethod yX4_readBetween : Cond) ∈ lw_gd := g_mem (List.mem_append_right _ (g_k3 (List.mem_of_getElem? (i := 127) (by decide +kernel)))) rfl
theorem tn_142 : (.fieldLinkNest RX4 191 "ManyOut$House" "limit" "I" "ManyOut" : Cond) ∈ lw_nw := g_nmem (g_k1 (List.mem_of_getElem? (i := 142) (by decide +kernel))) rfl
theorem tw_729 : (.code yX4_readLimit cX4_readLimit 1 (some .boolean) : Cond) ∈ lw_gd := g_mem (List.mem_append_right _ (g_k4 (List.mem_of_getElem? (i := 9) rfl))) rfl
theorem tp_27 : (.selects RX4 yX4_readLimit yX4_readLimit : Cond) ∈ lw_gd := g_mem (List.mem_append_left _ (List.mem_of_getElem? (i := 27) (by decide +kernel))) rfl
theorem tw_728 : (.instanceMethod yX4_readLimit : Cond) ∈ lw_gd := g_mem (List.mem_append_right _ (g_k4 (List.mem_of_getElem? (i := 8) (by decide +kernel)))) rfl
theorem tn_107 : (.fieldLinkNest RX4 139 "ManyOut$House" "rules" "LManyOut$Rules;" "ManyOut" : Cond) ∈ lw_nw := g_nmem (g_k1 (List.mem_of_getElem? (i := 107) (by decide +kernel))) rfl
theorem tn_81 : (.fieldLinkNest RX4 143 "ManyOut$Rules" "count" "I" "ManyOut" : Cond) ∈ lw_nw := g_nmem (g_k1 (List.mem_of_getElem? (i := 81) (by decide +kernel))) rfl
theorem tw_614 : (.methodLink RX4 123 yX4_hasRoom : Cond) ∈ lw_gd := g_mem (List.mem_append_right _ (g_k3 (List.mem_of_getElem? (i := 134) (by decide +kernel)))) rfl
theorem tw_617 : (.code yX4_hasRoom cX4_hasRoom 3 (some .boolean) : Cond) ∈ lw_gd := g_mem (List.mem_append_right _ (g_k3 (List.mem_of_getElem? (i := 137) rfl))) rfl
theorem tp_10 : (.selects RX4 yX4_hasRoom yX4_hasRoom : Cond) ∈ lw_gd := g_mem (List.mem_append_left _ (List.mem_of_getElem? (i := 10) (by decide +kernel))) rfl
theorem tw_616 : (.instanceMethod yX4_hasRoom : Cond) ∈ lw_gd := g_mem (List.mem_append_right _ (g_k3 (List.mem_of_getElem? (i := 136) (by decide +kernel)))) rfl
theorem tw_648 : (.methodLink RX4 148 yX4_readRule : Cond) ∈ lw_gd := g_mem (List.mem_append_right _ (g_k3 (List.mem_of_getElem? (i := 168) (by decide +kernel)))) rfl
theorem tw_652 : (.methodLink RX4 193 yX5_beginRule : Cond) ∈ lw_gd := g_mem (List.mem_append_right _ (g_k3 (List.mem_of_getElem? (i := 172) (by decide +kernel)))) rfl
theorem tw_655 : (.code yX5_beginRule cX5_beginRule 1 none : Cond) ∈ lw_gd := g_mem (List.mem_append_right _ (g_k3 (List.mem_of_getElem? (i := 175) rfl))) rfl
theorem tw_654 : (.selects RX5 yX5_beginRule yX5_beginRule : Cond) ∈ lw_gd := g_mem (List.mem_append_right _ (g_k3 (List.mem_of_getElem? (i := 174) (by decide +kernel)))) rfl
theorem tw_653 : (.instanceMethod yX5_beginRule : Cond) ∈ lw_gd := g_mem (List.mem_append_right _ (g_k3 (List.mem_of_getElem? (i := 173) (by decide +kernel)))) rfl
theorem tw_656 : (.methodLink RX4 196 yX4_readSum : Cond) ∈ lw_gd := g_mem (List.mem_append_right _ (g_k3 (List.mem_of_getElem? (i := 176) (by decide +kernel)))) rfl
theorem tw_660 : (.methodLink RX4 240 yX4_readProduct : Cond) ∈ lw_gd := g_mem (List.mem_append_right _ (g_k3 (List.mem_of_getElem? (i := 180) (by decide +kernel)))) rfl
theorem tw_664 : (.methodLink RX4 243 yX4_readPart : Cond) ∈ lw_gd := g_mem (List.mem_append_right _ (g_k3 (List.mem_of_getElem? (i := 184) (by decide +kernel)))) rfl
theorem tw_681 : (.methodLink RX4 219 yX4_adds : Cond) ∈ lw_gd := g_mem (List.mem_append_right _ (g_k3 (List.mem_of_getElem? (i := 201) (by decide +kernel)))) rfl
theorem tw_685 : (.methodLink RX4 210 yX5_add : Cond) ∈ lw_gd := g_mem (List.mem_append_right _ (g_k3 (List.mem_of_getElem? (i := 205) (by decide +kernel)))) rfl
theorem tw_688 : (.code yX5_add cX5_add 2 none : Cond) ∈ lw_gd := g_mem (List.mem_append_right _ (g_k3 (List.mem_of_getElem? (i := 208) rfl))) rfl
theorem tw_687 : (.selects RX5 yX5_add yX5_add : Cond) ∈ lw_gd := g_mem (List.mem_append_right _ (g_k3 (List.mem_of_getElem? (i := 207) (by decide +kernel)))) rfl
theorem tw_686 : (.instanceMethod yX5_add : Cond) ∈ lw_gd := g_mem (List.mem_append_right _ (g_k3 (List.mem_of_getElem? (i := 206) (by decide +kernel)))) rfl
theorem tw_684 : (.code yX4_adds cX4_adds 2 (some .boolean) : Cond) ∈ lw_gd := g_mem (List.mem_append_right _ (g_k3 (List.mem_of_getElem? (i := 204) rfl))) rfl
theorem tp_22 : (.selects RX4 yX4_adds yX4_adds : Cond) ∈ lw_gd := g_mem (List.mem_append_left _ (List.mem_of_getElem? (i := 22) (by decide +kernel))) rfl
theorem tw_683 : (.instanceMethod yX4_adds : Cond) ∈ lw_gd := g_mem (List.mem_append_right _ (g_k3 (List.mem_of_getElem? (i := 203) (by decide +kernel)))) rfl
theorem tw_692 : (.methodLink RX4 254 yX4_readPair : Cond) ∈ lw_gd := g_mem (List.mem_append_right _ (g_k3 (List.mem_of_getElem? (i := 212) (by decide +kernel)))) rfl
theorem tw_668 : (.methodLink RX4 229 yX4_opens : Cond) ∈ lw_gd := g_mem (List.mem_append_right _ (g_k3 (List.mem_of_getElem? (i := 188) (by decide +kernel)))) rfl
theorem tw_671 : (.code yX4_opens cX4_opens 1 (some .boolean) : Cond) ∈ lw_gd := g_mem (List.mem_append_right _ (g_k3 (List.mem_of_getElem? (i := 191) rfl))) rfl
theorem tp_19 : (.selects RX4 yX4_opens yX4_opens : Cond) ∈ lw_gd := g_mem (List.mem_append_left _ (List.mem_of_getElem? (i := 19) (by decide +kernel))) rfl
theorem tw_670 : (.instanceMethod yX4_opens : Cond) ∈ lw_gd := g_mem (List.mem_append_right _ (g_k3 (List.mem_of_getElem? (i := 190) (by decide +kernel)))) rfl
theorem tw_672 : (.methodLink RX4 63 yX4_readSign : Cond) ∈ lw_gd := g_mem (List.mem_append_right _ (g_k3 (List.mem_of_getElem? (i := 192) (by decide +kernel)))) rfl
theorem tw_675 : (.code yX4_readSign cX4_readSign 2 (some .boolean) : Cond) ∈ lw_gd := g_mem (List.mem_append_right _ (g_k3 (List.mem_of_getElem? (i := 195) rfl))) rfl
theorem tp_20 : (.selects RX4 yX4_readSign yX4_readSign : Cond) ∈ lw_gd := g_mem (List.mem_append_left _ (List.mem_of_getElem? (i := 20) (by decide +kernel))) rfl
theorem tw_674 : (.instanceMethod yX4_readSign : Cond) ∈ lw_gd := g_mem (List.mem_append_right _ (g_k3 (List.mem_of_getElem? (i := 194) (by decide +kernel)))) rfl
theorem tw_695 : (.code yX4_readPair cX4_readPair 1 (some .boolean) : Cond) ∈ lw_gd := g_mem (List.mem_append_right _ (g_k3 (List.mem_of_getElem? (i := 215) rfl))) rfl
theorem tp_23 : (.selects RX4 yX4_readPair yX4_readPair : Cond) ∈ lw_gd := g_mem (List.mem_append_left _ (List.mem_of_getElem? (i := 23) (by decide +kernel))) rfl
theorem tw_694 : (.instanceMethod yX4_readPair : Cond) ∈ lw_gd := g_mem (List.mem_append_right _ (g_k3 (List.mem_of_getElem? (i := 214) (by decide +kernel)))) rfl
theorem tw_667 : (.code yX4_readPart cX4_readPart 2 (some .boolean) : Cond) ∈ lw_gd := g_mem (List.mem_append_right _ (g_k3 (List.mem_of_getElem? (i := 187) rfl))) rfl
theorem tp_18 : (.selects RX4 yX4_readPart yX4_readPart : Cond) ∈ lw_gd := g_mem (List.mem_append_left _ (List.mem_of_getElem? (i := 18) (by decide +kernel))) rfl
theorem tw_666 : (.instanceMethod yX4_readPart : Cond) ∈ lw_gd := g_mem (List.mem_append_right _ (g_k3 (List.mem_of_getElem? (i := 186) (by decide +kernel)))) rfl
theorem tw_626 : (.methodLink RX4 100 yX4_takesSign : Cond) ∈ lw_gd := g_mem (List.mem_append_right _ (g_k3 (List.mem_of_getElem? (i := 146) (by decide +kernel)))) rfl
theorem tw_629 : (.code yX4_takesSign cX4_takesSign 3 (some .boolean) : Cond) ∈ lw_gd := g_mem (List.mem_append_right _ (g_k3 (List.mem_of_getElem? (i := 149) rfl))) rfl
theorem tp_13 : (.selects RX4 yX4_takesSign yX4_takesSign : Cond) ∈ lw_gd := g_mem (List.mem_append_left _ (List.mem_of_getElem? (i := 13) (by decide +kernel))) rfl
theorem tw_628 : (.instanceMethod yX4_takesSign : Cond) ∈ lw_gd := g_mem (List.mem_append_right _ (g_k3 (List.mem_of_getElem? (i := 148) (by decide +kernel)))) rfl
theorem tw_663 : (.code yX4_readProduct cX4_readProduct 3 (some .boolean) : Cond) ∈ lw_gd := g_mem (List.mem_append_right _ (g_k3 (List.mem_of_getElem? (i := 183) rfl))) rfl
theorem tp_17 : (.selects RX4 yX4_readProduct yX4_readProduct : Cond) ∈ lw_gd := g_mem (List.mem_append_left _ (List.mem_of_getElem? (i := 17) (by decide +kernel))) rfl
theorem tw_662 : (.instanceMethod yX4_readProduct : Cond) ∈ lw_gd := g_mem (List.mem_append_right _ (g_k3 (List.mem_of_getElem? (i := 182) (by decide +kernel)))) rfl
theorem tw_659 : (.code yX4_readSum cX4_readSum 3 (some .boolean) : Cond) ∈ lw_gd := g_mem (List.mem_append_right _ (g_k3 (List.mem_of_getElem? (i := 179) rfl))) rfl
theorem tp_16 : (.selects RX4 yX4_readSum yX4_readSum : Cond) ∈ lw_gd := g_mem (List.mem_append_left _ (List.mem_of_getElem? (i := 16) (by decide +kernel))) rfl
theorem tw_658 : (.instanceMethod yX4_readSum : Cond) ∈ lw_gd := g_mem (List.mem_append_right _ (g_k3 (List.mem_of_getElem? (i := 178) (by decide +kernel)))) rfl
theorem tw_676 : (.methodLink RX4 232 yX4_closes : Cond) ∈ lw_gd := g_mem (List.mem_append_right _ (g_k3 (List.mem_of_getElem? (i := 196) (by decide +kernel)))) rfl
theorem tw_679 : (.code yX4_closes cX4_closes 1 (some .boolean) : Cond) ∈ lw_gd := g_mem (List.mem_append_right _ (g_k3 (List.mem_of_getElem? (i := 199) rfl))) rfl
theorem tp_21 : (.selects RX4 yX4_closes yX4_closes : Cond) ∈ lw_gd := g_mem (List.mem_append_left _ (List.mem_of_getElem? (i := 21) (by decide +kernel))) rfl
theorem tw_678 : (.instanceMethod yX4_closes : Cond) ∈ lw_gd := g_mem (List.mem_append_right _ (g_k3 (List.mem_of_getElem? (i := 198) (by decide +kernel)))) rfl
theorem tw_698 : (.methodLink RX4 201 yX5_beginTest : Cond) ∈ lw_gd := g_mem (List.mem_append_right _ (g_k3 (List.mem_of_getElem? (i := 218) (by decide +kernel)))) rfl
theorem tw_701 : (.code yX5_beginTest cX5_beginTest 1 none : Cond) ∈ lw_gd := g_mem (List.mem_append_right _ (g_k3 (List.mem_of_getElem? (i := 221) rfl))) rfl
theorem tw_700 : (.selects RX5 yX5_beginTest yX5_beginTest : Cond) ∈ lw_gd := g_mem (List.mem_append_right _ (g_k3 (List.mem_of_getElem? (i := 220) (by decide +kernel)))) rfl
theorem tw_699 : (.instanceMethod yX5_beginTest : Cond) ∈ lw_gd := g_mem (List.mem_append_right _ (g_k3 (List.mem_of_getElem? (i := 219) (by decide +kernel)))) rfl
theorem tw_702 : (.methodLink RX4 204 yX4_readTest : Cond) ∈ lw_gd := g_mem (List.mem_append_right _ (g_k3 (List.mem_of_getElem? (i := 222) (by decide +kernel)))) rfl
theorem tw_706 : (.methodLink RX4 214 yX4_readBoth : Cond) ∈ lw_gd := g_mem (List.mem_append_right _ (g_k3 (List.mem_of_getElem? (i := 226) (by decide +kernel)))) rfl
theorem tw_710 : (.methodLink RX4 222 yX4_readFact : Cond) ∈ lw_gd := g_mem (List.mem_append_right _ (g_k3 (List.mem_of_getElem? (i := 230) (by decide +kernel)))) rfl
theorem tw_716 : (.methodLink RX4 237 yX4_comparisonBy : Cond) ∈ lw_gd := g_mem (List.mem_append_right _ (g_k3 (List.mem_of_getElem? (i := 236) (by decide +kernel)))) rfl
theorem tw_718 : (.code yX4_comparisonBy cX4_comparisonBy 1 (some .int) : Cond) ∈ lw_gd := g_mem (List.mem_append_right _ (g_k3 (List.mem_of_getElem? (i := 238) rfl))) rfl
theorem tw_717 : (.static yX4_comparisonBy : Cond) ∈ lw_gd := g_mem (List.mem_append_right _ (g_k3 (List.mem_of_getElem? (i := 237) (by decide +kernel)))) rfl
theorem tw_713 : (.code yX4_readFact cX4_readFact 2 (some .boolean) : Cond) ∈ lw_gd := g_mem (List.mem_append_right _ (g_k3 (List.mem_of_getElem? (i := 233) rfl))) rfl
theorem tp_26 : (.selects RX4 yX4_readFact yX4_readFact : Cond) ∈ lw_gd := g_mem (List.mem_append_left _ (List.mem_of_getElem? (i := 26) (by decide +kernel))) rfl
theorem tw_712 : (.instanceMethod yX4_readFact : Cond) ∈ lw_gd := g_mem (List.mem_append_right _ (g_k3 (List.mem_of_getElem? (i := 232) (by decide +kernel)))) rfl
theorem tw_709 : (.code yX4_readBoth cX4_readBoth 3 (some .boolean) : Cond) ∈ lw_gd := g_mem (List.mem_append_right _ (g_k3 (List.mem_of_getElem? (i := 229) rfl))) rfl
theorem tp_25 : (.selects RX4 yX4_readBoth yX4_readBoth : Cond) ∈ lw_gd := g_mem (List.mem_append_left _ (List.mem_of_getElem? (i := 25) (by decide +kernel))) rfl
theorem tw_708 : (.instanceMethod yX4_readBoth : Cond) ∈ lw_gd := g_mem (List.mem_append_right _ (g_k3 (List.mem_of_getElem? (i := 228) (by decide +kernel)))) rfl
theorem tw_705 : (.code yX4_readTest cX4_readTest 3 (some .boolean) : Cond) ∈ lw_gd := g_mem (List.mem_append_right _ (g_k3 (List.mem_of_getElem? (i := 225) rfl))) rfl
theorem tp_24 : (.selects RX4 yX4_readTest yX4_readTest : Cond) ∈ lw_gd := g_mem (List.mem_append_left _ (List.mem_of_getElem? (i := 24) (by decide +kernel))) rfl
theorem tw_704 : (.instanceMethod yX4_readTest : Cond) ∈ lw_gd := g_mem (List.mem_append_right _ (g_k3 (List.mem_of_getElem? (i := 224) (by decide +kernel)))) rfl
theorem tw_721 : (.methodLink RX4 207 yX5_endRule : Cond) ∈ lw_gd := g_mem (List.mem_append_right _ (g_k4 (List.mem_of_getElem? (i := 1) (by decide +kernel)))) rfl
theorem tw_724 : (.code yX5_endRule cX5_endRule 1 none : Cond) ∈ lw_gd := g_mem (List.mem_append_right _ (g_k4 (List.mem_of_getElem? (i := 4) rfl))) rfl
theorem tw_723 : (.selects RX5 yX5_endRule yX5_endRule : Cond) ∈ lw_gd := g_mem (List.mem_append_right _ (g_k4 (List.mem_of_getElem? (i := 3) (by decide +kernel)))) rfl
theorem tw_722 : (.instanceMethod yX5_endRule : Cond) ∈ lw_gd := g_mem (List.mem_append_right _ (g_k4 (List.mem_of_getElem? (i := 2) (by decide +kernel)))) rfl
theorem tw_651 : (.code yX4_readRule cX4_readRule 1 (some .boolean) : Cond) ∈ lw_gd := g_mem (List.mem_append_right _ (g_k3 (List.mem_of_getElem? (i := 171) rfl))) rfl
theorem tp_15 : (.selects RX4 yX4_readRule yX4_readRule : Cond) ∈ lw_gd := g_mem (List.mem_append_left _ (List.mem_of_getElem? (i := 15) (by decide +kernel))) rfl
theorem tw_650 : (.instanceMethod yX4_readRule : Cond) ∈ lw_gd := g_mem (List.mem_append_right _ (g_k3 (List.mem_of_getElem? (i := 170) (by decide +kernel)))) rfl
theorem tn_138 : (.fieldLinkNest RX4 131 "ManyOut$House" "wordsTold" "I" "ManyOut" : Cond) ∈ lw_nw := g_nmem (g_k1 (List.mem_of_getElem? (i := 138) (by decide +kernel))) rfl
theorem tw_639 : (.methodLink RX4 134 yX4_readLetters : Cond) ∈ lw_gd := g_mem (List.mem_append_right _ (g_k3 (List.mem_of_getElem? (i := 159) (by decide +kernel)))) rfl
theorem tn_124 : (.fieldLinkNest RX4 163 "ManyOut$House" "senders" "I" "ManyOut" : Cond) ∈ lw_nw := g_nmem (g_k1 (List.mem_of_getElem? (i := 124) (by decide +kernel))) rfl
theorem tw_622 : (.methodLink RX4 166 yX4_readSigned : Cond) ∈ lw_gd := g_mem (List.mem_append_right _ (g_k3 (List.mem_of_getElem? (i := 142) (by decide +kernel)))) rfl
theorem tw_630 : (.constant RX4 106 (-1000000000) : Cond) ∈ lw_gd := g_mem (List.mem_append_right _ (g_k3 (List.mem_of_getElem? (i := 150) (by decide +kernel)))) rfl
theorem tw_625 : (.code yX4_readSigned cX4_readSigned 4 (some .int) : Cond) ∈ lw_gd := g_mem (List.mem_append_right _ (g_k3 (List.mem_of_getElem? (i := 145) rfl))) rfl
theorem tp_12 : (.selects RX4 yX4_readSigned yX4_readSigned : Cond) ∈ lw_gd := g_mem (List.mem_append_left _ (List.mem_of_getElem? (i := 12) (by decide +kernel))) rfl
theorem tw_624 : (.instanceMethod yX4_readSigned : Cond) ∈ lw_gd := g_mem (List.mem_append_right _ (g_k3 (List.mem_of_getElem? (i := 144) (by decide +kernel)))) rfl
theorem tw_643 : (.methodLink RX4 184 yX1_isLetter : Cond) ∈ lw_gd := g_mem (List.mem_append_right _ (g_k3 (List.mem_of_getElem? (i := 163) (by decide +kernel)))) rfl
theorem tn_109 : (.fieldLinkNest RX4 187 "ManyOut$House" "words" "[I" "ManyOut" : Cond) ∈ lw_nw := g_nmem (g_k1 (List.mem_of_getElem? (i := 109) (by decide +kernel))) rfl
theorem tw_642 : (.code yX4_readLetters cX4_readLetters 3 (some .boolean) : Cond) ∈ lw_gd := g_mem (List.mem_append_right _ (g_k3 (List.mem_of_getElem? (i := 162) rfl))) rfl
theorem tp_14 : (.selects RX4 yX4_readLetters yX4_readLetters : Cond) ∈ lw_gd := g_mem (List.mem_append_left _ (List.mem_of_getElem? (i := 14) (by decide +kernel))) rfl
theorem tw_641 : (.instanceMethod yX4_readLetters : Cond) ∈ lw_gd := g_mem (List.mem_append_right _ (g_k3 (List.mem_of_getElem? (i := 161) (by decide +kernel)))) rfl
theorem tn_134 : (.fieldLinkNest RX4 117 "ManyOut$House" "rowsTold" "I" "ManyOut" : Cond) ∈ lw_nw := g_nmem (g_k1 (List.mem_of_getElem? (i := 134) (by decide +kernel))) rfl
theorem tn_131 : (.fieldLinkNest RX4 120 "ManyOut$House" "receivers" "I" "ManyOut" : Cond) ∈ lw_nw := g_nmem (g_k1 (List.mem_of_getElem? (i := 131) (by decide +kernel))) rfl
theorem tw_618 : (.methodLink RX4 126 yX4_readRow : Cond) ∈ lw_gd := g_mem (List.mem_append_right _ (g_k3 (List.mem_of_getElem? (i := 138) (by decide +kernel)))) rfl
theorem tw_631 : (.methodLink RX4 169 Lib.Math.abs.name : Cond) ∈ lw_gd := g_mem (List.mem_append_right _ (g_k3 (List.mem_of_getElem? (i := 151) (by decide +kernel)))) rfl
theorem tn_104 : (.fieldLinkNest RX4 174 "ManyOut$House" "table" "LManyOut$Table;" "ManyOut" : Cond) ∈ lw_nw := g_nmem (g_k1 (List.mem_of_getElem? (i := 104) (by decide +kernel))) rfl
theorem tw_634 : (.methodLink RX4 178 yX8_setAt : Cond) ∈ lw_gd := g_mem (List.mem_append_right _ (g_k3 (List.mem_of_getElem? (i := 154) (by decide +kernel)))) rfl
theorem tw_621 : (.code yX4_readRow cX4_readRow 3 (some .boolean) : Cond) ∈ lw_gd := g_mem (List.mem_append_right _ (g_k3 (List.mem_of_getElem? (i := 141) rfl))) rfl
theorem tp_11 : (.selects RX4 yX4_readRow yX4_readRow : Cond) ∈ lw_gd := g_mem (List.mem_append_left _ (List.mem_of_getElem? (i := 11) (by decide +kernel))) rfl
theorem tw_620 : (.instanceMethod yX4_readRow : Cond) ∈ lw_gd := g_mem (List.mem_append_right _ (g_k3 (List.mem_of_getElem? (i := 140) (by decide +kernel)))) rfl
theorem tw_601 : (.methodLink RX4 112 yX4_readSizes : Cond) ∈ lw_gd := g_mem (List.mem_append_right _ (g_k3 (List.mem_of_getElem? (i := 121) (by decide +kernel)))) rfl
theorem tn_115 : (.fieldLinkNest RX4 160 "ManyOut$House" "letters" "I" "ManyOut" : Cond) ∈ lw_nw := g_nmem (g_k1 (List.mem_of_getElem? (i := 115) (by decide +kernel))) rfl
theorem tw_604 : (.code yX4_readSizes cX4_readSizes 1 (some .boolean) : Cond) ∈ lw_gd := g_mem (List.mem_append_right _ (g_k3 (List.mem_of_getElem? (i := 124) rfl))) rfl
theorem tp_7 : (.selects RX4 yX4_readSizes yX4_readSizes : Cond) ∈ lw_gd := g_mem (List.mem_append_left _ (List.mem_of_getElem? (i := 7) (by decide +kernel))) rfl
theorem tw_603 : (.instanceMethod yX4_readSizes : Cond) ∈ lw_gd := g_mem (List.mem_append_right _ (g_k3 (List.mem_of_getElem? (i := 123) (by decide +kernel)))) rfl
theorem tw_539 : (.code yX4_readStatement cX4_readStatement 2 (some .boolean) : Cond) ∈ lw_gd := g_mem (List.mem_append_right _ (g_k3 (List.mem_of_getElem? (i := 59) rfl))) rfl
theorem tp_3 : (.selects RX4 yX4_readStatement yX4_readStatement : Cond) ∈ lw_gd := g_mem (List.mem_append_left _ (List.mem_of_getElem? (i := 3) (by decide +kernel))) rfl
theorem tw_538 : (.instanceMethod yX4_readStatement : Cond) ∈ lw_gd := g_mem (List.mem_append_right _ (g_k3 (List.mem_of_getElem? (i := 58) (by decide +kernel)))) rfl
theorem tn_144 : (.fieldLinkNest RX4 67 "ManyOut$House" "statements" "I" "ManyOut" : Cond) ∈ lw_nw := g_nmem (g_k1 (List.mem_of_getElem? (i := 144) (by decide +kernel))) rfl
theorem tw_494 : (.code yX4_readHouse cX4_readHouse 2 (some .boolean) : Cond) ∈ lw_gd := g_mem (List.mem_append_right _ (g_k3 (List.mem_of_getElem? (i := 14) rfl))) rfl
theorem tw_493 : (.selects RX4 yX4_readHouse yX4_readHouse : Cond) ∈ lw_gd := g_mem (List.mem_append_right _ (g_k3 (List.mem_of_getElem? (i := 13) (by decide +kernel)))) rfl
theorem tw_492 : (.instanceMethod yX4_readHouse : Cond) ∈ lw_gd := g_mem (List.mem_append_right _ (g_k3 (List.mem_of_getElem? (i := 12) (by decide +kernel)))) rfl
theorem tw_730 : (.methodLink RX11 104 yX4_exchange : Cond) ∈ lw_gd := g_mem (List.mem_append_right _ (g_k4 (List.mem_of_getElem? (i := 10) (by decide +kernel)))) rfl
theorem tw_733 : (.code yX4_exchange cX4_exchange 3 (some (.object "ManyOut$House")) : Cond) ∈ lw_gd := g_mem (List.mem_append_right _ (g_k4 (List.mem_of_getElem? (i := 13) rfl))) rfl
theorem tw_732 : (.selects RX4 yX4_exchange yX4_exchange : Cond) ∈ lw_gd := g_mem (List.mem_append_right _ (g_k4 (List.mem_of_getElem? (i := 12) (by decide +kernel)))) rfl
theorem tw_731 : (.instanceMethod yX4_exchange : Cond) ∈ lw_gd := g_mem (List.mem_append_right _ (g_k4 (List.mem_of_getElem? (i := 11) (by decide +kernel)))) rfl
theorem tw_734 : (.methodLink RX11 108 yJ7_fill_53178 : Cond) ∈ lw_gd := g_mem (List.mem_append_right _ (g_k4 (List.mem_of_getElem? (i := 14) (by decide +kernel)))) rfl
theorem tw_751 : (.methodLink RX11 121 yX6_forget : Cond) ∈ lw_gd := g_mem (List.mem_append_right _ (g_k4 (List.mem_of_getElem? (i := 31) (by decide +kernel)))) rfl
theorem tw_754 : (.code yX6_forget cX6_forget 1 none : Cond) ∈ lw_gd := g_mem (List.mem_append_right _ (g_k4 (List.mem_of_getElem? (i := 34) rfl))) rfl
theorem tw_753 : (.selects RX6 yX6_forget yX6_forget : Cond) ∈ lw_gd := g_mem (List.mem_append_right _ (g_k4 (List.mem_of_getElem? (i := 33) (by decide +kernel)))) rfl
theorem tw_752 : (.instanceMethod yX6_forget : Cond) ∈ lw_gd := g_mem (List.mem_append_right _ (g_k4 (List.mem_of_getElem? (i := 32) (by decide +kernel)))) rfl
theorem tw_755 : (.methodLink RX11 122 yX0_forget : Cond) ∈ lw_gd := g_mem (List.mem_append_right _ (g_k4 (List.mem_of_getElem? (i := 35) (by decide +kernel)))) rfl
theorem tw_758 : (.code yX0_forget cX0_forget 1 none : Cond) ∈ lw_gd := g_mem (List.mem_append_right _ (g_k4 (List.mem_of_getElem? (i := 38) rfl))) rfl
theorem tw_757 : (.selects RX0 yX0_forget yX0_forget : Cond) ∈ lw_gd := g_mem (List.mem_append_right _ (g_k4 (List.mem_of_getElem? (i := 37) (by decide +kernel)))) rfl
theorem tw_756 : (.instanceMethod yX0_forget : Cond) ∈ lw_gd := g_mem (List.mem_append_right _ (g_k4 (List.mem_of_getElem? (i := 36) (by decide +kernel)))) rfl
theorem tw_759 : (.methodLink RX11 123 yX3_forget : Cond) ∈ lw_gd := g_mem (List.mem_append_right _ (g_k4 (List.mem_of_getElem? (i := 39) (by decide +kernel)))) rfl
theorem tw_762 : (.code yX3_forget cX3_forget 1 none : Cond) ∈ lw_gd := g_mem (List.mem_append_right _ (g_k4 (List.mem_of_getElem? (i := 42) rfl))) rfl
theorem tw_761 : (.selects RX3 yX3_forget yX3_forget : Cond) ∈ lw_gd := g_mem (List.mem_append_right _ (g_k4 (List.mem_of_getElem? (i := 41) (by decide +kernel)))) rfl
theorem tw_760 : (.instanceMethod yX3_forget : Cond) ∈ lw_gd := g_mem (List.mem_append_right _ (g_k4 (List.mem_of_getElem? (i := 40) (by decide +kernel)))) rfl
theorem tn_145 : (.fieldLinkNest RX11 124 "ManyOut$House" "statements" "I" "ManyOut" : Cond) ∈ lw_nw := g_nmem (g_k1 (List.mem_of_getElem? (i := 145) (by decide +kernel))) rfl
theorem hd_yX2_timesIn : yX2_timesIn.cls ≠ "java/lang/invoke/MethodHandle" ∧ yX2_timesIn.cls ≠ "java/lang/invoke/VarHandle" ∧ (parseMethodDescriptor yX2_timesIn.desc).map (fun d => d.parameters.length) = some 2 := by decide +kernel
theorem hd_yX2_remember : yX2_remember.cls ≠ "java/lang/invoke/MethodHandle" ∧ yX2_remember.cls ≠ "java/lang/invoke/VarHandle" ∧ (parseMethodDescriptor yX2_remember.desc).map (fun d => d.parameters.length) = some 3 := by decide +kernel
theorem hd_yX8_takeAway : yX8_takeAway.cls ≠ "java/lang/invoke/MethodHandle" ∧ yX8_takeAway.cls ≠ "java/lang/invoke/VarHandle" ∧ (parseMethodDescriptor yX8_takeAway.desc).map (fun d => d.parameters.length) = some 3 := by decide +kernel
theorem hd_yX2_takeAway : yX2_takeAway.cls ≠ "java/lang/invoke/MethodHandle" ∧ yX2_takeAway.cls ≠ "java/lang/invoke/VarHandle" ∧ (parseMethodDescriptor yX2_takeAway.desc).map (fun d => d.parameters.length) = some 3 := by decide +kernel
theorem hd_yX2_makeStep : yX2_makeStep.cls ≠ "java/lang/invoke/MethodHandle" ∧ yX2_makeStep.cls ≠ "java/lang/invoke/VarHandle" ∧ (parseMethodDescriptor yX2_makeStep.desc).map (fun d => d.parameters.length) = some 0 := by decide +kernel
theorem hd_yX2_makeSteps : yX2_makeSteps.cls ≠ "java/lang/invoke/MethodHandle" ∧ yX2_makeSteps.cls ≠ "java/lang/invoke/VarHandle" ∧ (parseMethodDescriptor yX2_makeSteps.desc).map (fun d => d.parameters.length) = some 1 := by decide +kernel
theorem hd_yX2_undoStep : yX2_undoStep.cls ≠ "java/lang/invoke/MethodHandle" ∧ yX2_undoStep.cls ≠ "java/lang/invoke/VarHandle" ∧ (parseMethodDescriptor yX2_undoStep.desc).map (fun d => d.parameters.length) = some 0 := by decide +kernel
theorem hd_yX2_redoStep : yX2_redoStep.cls ≠ "java/lang/invoke/MethodHandle" ∧ yX2_redoStep.cls ≠ "java/lang/invoke/VarHandle" ∧ (parseMethodDescriptor yX2_redoStep.desc).map (fun d => d.parameters.length) = some 0 := by decide +kernel
theorem hd_yX11_isImage : yX11_isImage.cls ≠ "java/lang/invoke/MethodHandle" ∧ yX11_isImage.cls ≠ "java/lang/invoke/VarHandle" ∧ (parseMethodDescriptor yX11_isImage.desc).map (fun d => d.parameters.length) = some 0 := by decide +kernel
theorem hd_yX8_copyFrom : yX8_copyFrom.cls ≠ "java/lang/invoke/MethodHandle" ∧ yX8_copyFrom.cls ≠ "java/lang/invoke/VarHandle" ∧ (parseMethodDescriptor yX8_copyFrom.desc).map (fun d => d.parameters.length) = some 1 := by decide +kernel
theorem hd_yX2_start : yX2_start.cls ≠ "java/lang/invoke/MethodHandle" ∧ yX2_start.cls ≠ "java/lang/invoke/VarHandle" ∧ (parseMethodDescriptor yX2_start.desc).map (fun d => d.parameters.length) = some 1 := by decide +kernel
theorem hd_yX1_clear : yX1_clear.cls ≠ "java/lang/invoke/MethodHandle" ∧ yX1_clear.cls ≠ "java/lang/invoke/VarHandle" ∧ (parseMethodDescriptor yX1_clear.desc).map (fun d => d.parameters.length) = some 0 := by decide +kernel
theorem hd_yX4_isSmall : yX4_isSmall.cls ≠ "java/lang/invoke/MethodHandle" ∧ yX4_isSmall.cls ≠ "java/lang/invoke/VarHandle" ∧ (parseMethodDescriptor yX4_isSmall.desc).map (fun d => d.parameters.length) = some 1 := by decide +kernel
theorem hd_yX4_isDigit : yX4_isDigit.cls ≠ "java/lang/invoke/MethodHandle" ∧ yX4_isDigit.cls ≠ "java/lang/invoke/VarHandle" ∧ (parseMethodDescriptor yX4_isDigit.desc).map (fun d => d.parameters.length) = some 1 := by decide +kernel
theorem hd_yX4_isBlank : yX4_isBlank.cls ≠ "java/lang/invoke/MethodHandle" ∧ yX4_isBlank.cls ≠ "java/lang/invoke/VarHandle" ∧ (parseMethodDescriptor yX4_isBlank.desc).map (fun d => d.parameters.length) = some 1 := by decide +kernel
theorem hd_yX4_goOn : yX4_goOn.cls ≠ "java/lang/invoke/MethodHandle" ∧ yX4_goOn.cls ≠ "java/lang/invoke/VarHandle" ∧ (parseMethodDescriptor yX4_goOn.desc).map (fun d => d.parameters.length) = some 2 := by decide +kernel
theorem hd_yJ0_coder_7d493 : yJ0_coder_7d493.cls ≠ "java/lang/invoke/MethodHandle" ∧ yJ0_coder_7d493.cls ≠ "java/lang/invoke/VarHandle" ∧ (parseMethodDescriptor yJ0_coder_7d493.desc).map (fun d => d.parameters.length) = some 0 := by decide +kernel
theorem hd_yJ0_length_8abf5 : yJ0_length_8abf5.cls ≠ "java/lang/invoke/MethodHandle" ∧ yJ0_length_8abf5.cls ≠ "java/lang/invoke/VarHandle" ∧ (parseMethodDescriptor yJ0_length_8abf5.desc).map (fun d => d.parameters.length) = some 0 := by decide +kernel
theorem hd_yJ0_isLatin1_aae02 : yJ0_isLatin1_aae02.cls ≠ "java/lang/invoke/MethodHandle" ∧ yJ0_isLatin1_aae02.cls ≠ "java/lang/invoke/VarHandle" ∧ (parseMethodDescriptor yJ0_isLatin1_aae02.desc).map (fun d => d.parameters.length) = some 0 := by decide +kernel
theorem hd_yJ3_checkIndex_8e157 : yJ3_checkIndex_8e157.cls ≠ "java/lang/invoke/MethodHandle" ∧ yJ3_checkIndex_8e157.cls ≠ "java/lang/invoke/VarHandle" ∧ (parseMethodDescriptor yJ3_checkIndex_8e157.desc).map (fun d => d.parameters.length) = some 3 := by decide +kernel
theorem hd_yJ0_checkIndex_df160 : yJ0_checkIndex_df160.cls ≠ "java/lang/invoke/MethodHandle" ∧ yJ0_checkIndex_df160.cls ≠ "java/lang/invoke/VarHandle" ∧ (parseMethodDescriptor yJ0_checkIndex_df160.desc).map (fun d => d.parameters.length) = some 2 := by decide +kernel
theorem hd_yJ1_charAt_3b067 : yJ1_charAt_3b067.cls ≠ "java/lang/invoke/MethodHandle" ∧ yJ1_charAt_3b067.cls ≠ "java/lang/invoke/VarHandle" ∧ (parseMethodDescriptor yJ1_charAt_3b067.desc).map (fun d => d.parameters.length) = some 2 := by decide +kernel
theorem hd_yJ0_charAt_5068e : yJ0_charAt_5068e.cls ≠ "java/lang/invoke/MethodHandle" ∧ yJ0_charAt_5068e.cls ≠ "java/lang/invoke/VarHandle" ∧ (parseMethodDescriptor yJ0_charAt_5068e.desc).map (fun d => d.parameters.length) = some 1 := by decide +kernel
theorem hd_yX4_isWordAhead : yX4_isWordAhead.cls ≠ "java/lang/invoke/MethodHandle" ∧ yX4_isWordAhead.cls ≠ "java/lang/invoke/VarHandle" ∧ (parseMethodDescriptor yX4_isWordAhead.desc).map (fun d => d.parameters.length) = some 1 := by decide +kernel
theorem hd_yX4_takesWord : yX4_takesWord.cls ≠ "java/lang/invoke/MethodHandle" ∧ yX4_takesWord.cls ≠ "java/lang/invoke/VarHandle" ∧ (parseMethodDescriptor yX4_takesWord.desc).map (fun d => d.parameters.length) = some 1 := by decide +kernel
theorem hd_yX4_fail : yX4_fail.cls ≠ "java/lang/invoke/MethodHandle" ∧ yX4_fail.cls ≠ "java/lang/invoke/VarHandle" ∧ (parseMethodDescriptor yX4_fail.desc).map (fun d => d.parameters.length) = some 2 := by decide +kernel
theorem hd_yX4_failHere : yX4_failHere.cls ≠ "java/lang/invoke/MethodHandle" ∧ yX4_failHere.cls ≠ "java/lang/invoke/VarHandle" ∧ (parseMethodDescriptor yX4_failHere.desc).map (fun d => d.parameters.length) = some 0 := by decide +kernel
theorem hd_yX4_readWord : yX4_readWord.cls ≠ "java/lang/invoke/MethodHandle" ∧ yX4_readWord.cls ≠ "java/lang/invoke/VarHandle" ∧ (parseMethodDescriptor yX4_readWord.desc).map (fun d => d.parameters.length) = some 1 := by decide +kernel
theorem hd_yX4_readNumber : yX4_readNumber.cls ≠ "java/lang/invoke/MethodHandle" ∧ yX4_readNumber.cls ≠ "java/lang/invoke/VarHandle" ∧ (parseMethodDescriptor yX4_readNumber.desc).map (fun d => d.parameters.length) = some 0 := by decide +kernel
theorem hd_yX4_readBetween : yX4_readBetween.cls ≠ "java/lang/invoke/MethodHandle" ∧ yX4_readBetween.cls ≠ "java/lang/invoke/VarHandle" ∧ (parseMethodDescriptor yX4_readBetween.desc).map (fun d => d.parameters.length) = some 2 := by decide +kernel
theorem hd_yX4_readLimit : yX4_readLimit.cls ≠ "java/lang/invoke/MethodHandle" ∧ yX4_readLimit.cls ≠ "java/lang/invoke/VarHandle" ∧ (parseMethodDescriptor yX4_readLimit.desc).map (fun d => d.parameters.length) = some 0 := by decide +kernel
theorem hd_yX4_hasRoom : yX4_hasRoom.cls ≠ "java/lang/invoke/MethodHandle" ∧ yX4_hasRoom.cls ≠ "java/lang/invoke/VarHandle" ∧ (parseMethodDescriptor yX4_hasRoom.desc).map (fun d => d.parameters.length) = some 2 := by decide +kernel
theorem hd_yX5_beginRule : yX5_beginRule.cls ≠ "java/lang/invoke/MethodHandle" ∧ yX5_beginRule.cls ≠ "java/lang/invoke/VarHandle" ∧ (parseMethodDescriptor yX5_beginRule.desc).map (fun d => d.parameters.length) = some 0 := by decide +kernel
theorem hd_yX5_add : yX5_add.cls ≠ "java/lang/invoke/MethodHandle" ∧ yX5_add.cls ≠ "java/lang/invoke/VarHandle" ∧ (parseMethodDescriptor yX5_add.desc).map (fun d => d.parameters.length) = some 1 := by decide +kernel
theorem hd_yX4_adds : yX4_adds.cls ≠ "java/lang/invoke/MethodHandle" ∧ yX4_adds.cls ≠ "java/lang/invoke/VarHandle" ∧ (parseMethodDescriptor yX4_adds.desc).map (fun d => d.parameters.length) = some 1 := by decide +kernel
theorem hd_yX4_opens : yX4_opens.cls ≠ "java/lang/invoke/MethodHandle" ∧ yX4_opens.cls ≠ "java/lang/invoke/VarHandle" ∧ (parseMethodDescriptor yX4_opens.desc).map (fun d => d.parameters.length) = some 0 := by decide +kernel
theorem hd_yX4_readSign : yX4_readSign.cls ≠ "java/lang/invoke/MethodHandle" ∧ yX4_readSign.cls ≠ "java/lang/invoke/VarHandle" ∧ (parseMethodDescriptor yX4_readSign.desc).map (fun d => d.parameters.length) = some 1 := by decide +kernel
theorem hd_yX4_readPair : yX4_readPair.cls ≠ "java/lang/invoke/MethodHandle" ∧ yX4_readPair.cls ≠ "java/lang/invoke/VarHandle" ∧ (parseMethodDescriptor yX4_readPair.desc).map (fun d => d.parameters.length) = some 0 := by decide +kernel
theorem hd_yX4_readPart : yX4_readPart.cls ≠ "java/lang/invoke/MethodHandle" ∧ yX4_readPart.cls ≠ "java/lang/invoke/VarHandle" ∧ (parseMethodDescriptor yX4_readPart.desc).map (fun d => d.parameters.length) = some 0 := by decide +kernel
theorem hd_yX4_takesSign : yX4_takesSign.cls ≠ "java/lang/invoke/MethodHandle" ∧ yX4_takesSign.cls ≠ "java/lang/invoke/VarHandle" ∧ (parseMethodDescriptor yX4_takesSign.desc).map (fun d => d.parameters.length) = some 1 := by decide +kernel
theorem hd_yX4_readProduct : yX4_readProduct.cls ≠ "java/lang/invoke/MethodHandle" ∧ yX4_readProduct.cls ≠ "java/lang/invoke/VarHandle" ∧ (parseMethodDescriptor yX4_readProduct.desc).map (fun d => d.parameters.length) = some 0 := by decide +kernel
theorem hd_yX4_readSum : yX4_readSum.cls ≠ "java/lang/invoke/MethodHandle" ∧ yX4_readSum.cls ≠ "java/lang/invoke/VarHandle" ∧ (parseMethodDescriptor yX4_readSum.desc).map (fun d => d.parameters.length) = some 0 := by decide +kernel
theorem hd_yX4_closes : yX4_closes.cls ≠ "java/lang/invoke/MethodHandle" ∧ yX4_closes.cls ≠ "java/lang/invoke/VarHandle" ∧ (parseMethodDescriptor yX4_closes.desc).map (fun d => d.parameters.length) = some 0 := by decide +kernel
theorem hd_yX5_beginTest : yX5_beginTest.cls ≠ "java/lang/invoke/MethodHandle" ∧ yX5_beginTest.cls ≠ "java/lang/invoke/VarHandle" ∧ (parseMethodDescriptor yX5_beginTest.desc).map (fun d => d.parameters.length) = some 0 := by decide +kernel
theorem hd_yX4_comparisonBy : yX4_comparisonBy.cls ≠ "java/lang/invoke/MethodHandle" ∧ yX4_comparisonBy.cls ≠ "java/lang/invoke/VarHandle" ∧ (parseMethodDescriptor yX4_comparisonBy.desc).map (fun d => d.parameters.length) = some 1 := by decide +kernel
theorem hd_yX4_readFact : yX4_readFact.cls ≠ "java/lang/invoke/MethodHandle" ∧ yX4_readFact.cls ≠ "java/lang/invoke/VarHandle" ∧ (parseMethodDescriptor yX4_readFact.desc).map (fun d => d.parameters.length) = some 0 := by decide +kernel
theorem hd_yX4_readBoth : yX4_readBoth.cls ≠ "java/lang/invoke/MethodHandle" ∧ yX4_readBoth.cls ≠ "java/lang/invoke/VarHandle" ∧ (parseMethodDescriptor yX4_readBoth.desc).map (fun d => d.parameters.length) = some 0 := by decide +kernel
theorem hd_yX4_readTest : yX4_readTest.cls ≠ "java/lang/invoke/MethodHandle" ∧ yX4_readTest.cls ≠ "java/lang/invoke/VarHandle" ∧ (parseMethodDescriptor yX4_readTest.desc).map (fun d => d.parameters.length) = some 0 := by decide +kernel
theorem hd_yX5_endRule : yX5_endRule.cls ≠ "java/lang/invoke/MethodHandle" ∧ yX5_endRule.cls ≠ "java/lang/invoke/VarHandle" ∧ (parseMethodDescriptor yX5_endRule.desc).map (fun d => d.parameters.length) = some 0 := by decide +kernel
theorem hd_yX4_readRule : yX4_readRule.cls ≠ "java/lang/invoke/MethodHandle" ∧ yX4_readRule.cls ≠ "java/lang/invoke/VarHandle" ∧ (parseMethodDescriptor yX4_readRule.desc).map (fun d => d.parameters.length) = some 0 := by decide +kernel
theorem hd_yX4_readSigned : yX4_readSigned.cls ≠ "java/lang/invoke/MethodHandle" ∧ yX4_readSigned.cls ≠ "java/lang/invoke/VarHandle" ∧ (parseMethodDescriptor yX4_readSigned.desc).map (fun d => d.parameters.length) = some 0 := by decide +kernel
theorem hd_yX4_readLetters : yX4_readLetters.cls ≠ "java/lang/invoke/MethodHandle" ∧ yX4_readLetters.cls ≠ "java/lang/invoke/VarHandle" ∧ (parseMethodDescriptor yX4_readLetters.desc).map (fun d => d.parameters.length) = some 0 := by decide +kernel
theorem hd_yX4_readRow : yX4_readRow.cls ≠ "java/lang/invoke/MethodHandle" ∧ yX4_readRow.cls ≠ "java/lang/invoke/VarHandle" ∧ (parseMethodDescriptor yX4_readRow.desc).map (fun d => d.parameters.length) = some 0 := by decide +kernel
theorem hd_yX4_readSizes : yX4_readSizes.cls ≠ "java/lang/invoke/MethodHandle" ∧ yX4_readSizes.cls ≠ "java/lang/invoke/VarHandle" ∧ (parseMethodDescriptor yX4_readSizes.desc).map (fun d => d.parameters.length) = some 0 := by decide +kernel
theorem hd_yX4_readStatement : yX4_readStatement.cls ≠ "java/lang/invoke/MethodHandle" ∧ yX4_readStatement.cls ≠ "java/lang/invoke/VarHandle" ∧ (parseMethodDescriptor yX4_readStatement.desc).map (fun d => d.parameters.length) = some 1 := by decide +kernel
theorem hd_yX4_readHouse : yX4_readHouse.cls ≠ "java/lang/invoke/MethodHandle" ∧ yX4_readHouse.cls ≠ "java/lang/invoke/VarHandle" ∧ (parseMethodDescriptor yX4_readHouse.desc).map (fun d => d.parameters.length) = some 0 := by decide +kernel
theorem hd_yX4_exchange : yX4_exchange.cls ≠ "java/lang/invoke/MethodHandle" ∧ yX4_exchange.cls ≠ "java/lang/invoke/VarHandle" ∧ (parseMethodDescriptor yX4_exchange.desc).map (fun d => d.parameters.length) = some 1 := by decide +kernel
theorem hd_yX6_forget : yX6_forget.cls ≠ "java/lang/invoke/MethodHandle" ∧ yX6_forget.cls ≠ "java/lang/invoke/VarHandle" ∧ (parseMethodDescriptor yX6_forget.desc).map (fun d => d.parameters.length) = some 0 := by decide +kernel
theorem hd_yX0_forget : yX0_forget.cls ≠ "java/lang/invoke/MethodHandle" ∧ yX0_forget.cls ≠ "java/lang/invoke/VarHandle" ∧ (parseMethodDescriptor yX0_forget.desc).map (fun d => d.parameters.length) = some 0 := by decide +kernel
theorem hd_yX3_forget : yX3_forget.cls ≠ "java/lang/invoke/MethodHandle" ∧ yX3_forget.cls ≠ "java/lang/invoke/VarHandle" ∧ (parseMethodDescriptor yX3_forget.desc).map (fun d => d.parameters.length) = some 0 := by decide +kernel
theorem tI_m15 : ((-15) : Int32).toInt = (-15) := by decide +kernel
theorem tI_m14 : ((-14) : Int32).toInt = (-14) := by decide +kernel
theorem tI_m13 : ((-13) : Int32).toInt = (-13) := by decide +kernel
theorem tI_m12 : ((-12) : Int32).toInt = (-12) := by decide +kernel
theorem tI_m11 : ((-11) : Int32).toInt = (-11) := by decide +kernel
theorem tI_m10 : ((-10) : Int32).toInt = (-10) := by decide +kernel
theorem tI_m9 : ((-9) : Int32).toInt = (-9) := by decide +kernel
theorem tI_m7 : ((-7) : Int32).toInt = (-7) := by decide +kernel
theorem tI_m6 : ((-6) : Int32).toInt = (-6) := by decide +kernel
theorem tI_m5 : ((-5) : Int32).toInt = (-5) := by decide +kernel
theorem tI_m3 : ((-3) : Int32).toInt = (-3) := by decide +kernel
theorem tI_m2 : ((-2) : Int32).toInt = (-2) := by decide +kernel
theorem dX11_lead_0 : decode cX11_lead 0 = .ok (.iload_n 1, 1) := by decide +kernel
theorem dX11_lead_1 : decode cX11_lead 1 = .ok (.iconst 1, 1) := by decide +kernel
theorem dX11_lead_2 : decode cX11_lead 2 = .ok (.if_icmp .lt 9, 3) := by decide +kernel
theorem dX11_lead_11 : decode cX11_lead 11 = .ok (.iconst (-1), 1) := by decide +kernel
theorem dX11_lead_12 : decode cX11_lead 12 = .ok (.goto 11, 3) := by decide +kernel
theorem dX11_lead_23 : decode cX11_lead 23 = .ok (.ireturn, 1) := by decide +kernel
theorem dX11_lead_5 : decode cX11_lead 5 = .ok (.iload_n 1, 1) := by decide +kernel
theorem dX11_lead_6 : decode cX11_lead 6 = .ok (.bipush 100, 2) := by decide +kernel
theorem dX11_lead_8 : decode cX11_lead 8 = .ok (.if_icmp .le 7, 3) := by decide +kernel
theorem dX11_lead_15 : decode cX11_lead 15 = .ok (.aload_n 0, 1) := by decide +kernel
theorem dX11_lead_16 : decode cX11_lead 16 = .ok (.getfield 76, 3) := by decide +kernel
theorem dX11_lead_19 : decode cX11_lead 19 = .ok (.iload_n 1, 1) := by decide +kernel
theorem dX11_lead_20 : decode cX11_lead 20 = .ok (.invokevirtual 296, 3) := by decide +kernel
theorem dX2_makeSteps_0 : decode cX2_makeSteps 0 = .ok (.iconst 0, 1) := by decide +kernel
theorem dX2_makeSteps_1 : decode cX2_makeSteps 1 = .ok (.istore_n 2, 1) := by decide +kernel
theorem dX2_makeSteps_2 : decode cX2_makeSteps 2 = .ok (.iload_n 2, 1) := by decide +kernel
theorem dX2_makeSteps_3 : decode cX2_makeSteps 3 = .ok (.iload_n 1, 1) := by decide +kernel
theorem dX2_makeSteps_4 : decode cX2_makeSteps 4 = .ok (.if_icmp .ge 16, 3) := by decide +kernel
theorem dX2_makeSteps_20 : decode cX2_makeSteps 20 = .ok (.iload_n 2, 1) := by decide +kernel
theorem dX2_makeSteps_21 : decode cX2_makeSteps 21 = .ok (.ireturn, 1) := by decide +kernel
theorem dX2_makeSteps_7 : decode cX2_makeSteps 7 = .ok (.aload_n 0, 1) := by decide +kernel
theorem dX2_makeSteps_8 : decode cX2_makeSteps 8 = .ok (.invokevirtual 60, 3) := by decide +kernel
theorem dX2_makeStep_0 : decode cX2_makeStep 0 = .ok (.aload_n 0, 1) := by decide +kernel
theorem dX2_makeStep_1 : decode cX2_makeStep 1 = .ok (.getfield 39, 3) := by decide +kernel
theorem dX2_makeStep_4 : decode cX2_makeStep 4 = .ok (.sipush 200, 3) := by decide +kernel
theorem dX2_makeStep_7 : decode cX2_makeStep 7 = .ok (.if_icmp .lt 5, 3) := by decide +kernel
theorem dX2_makeStep_12 : decode cX2_makeStep 12 = .ok (.iconst 0, 1) := by decide +kernel
theorem dX2_makeStep_13 : decode cX2_makeStep 13 = .ok (.istore_n 1, 1) := by decide +kernel
theorem dX2_makeStep_14 : decode cX2_makeStep 14 = .ok (.iload_n 1, 1) := by decide +kernel
theorem dX2_makeStep_15 : decode cX2_makeStep 15 = .ok (.aload_n 0, 1) := by decide +kernel
theorem dX2_makeStep_16 : decode cX2_makeStep 16 = .ok (.getfield 26, 3) := by decide +kernel
theorem dX2_makeStep_19 : decode cX2_makeStep 19 = .ok (.if_icmp .ge 71, 3) := by decide +kernel
theorem dX2_makeStep_90 : decode cX2_makeStep 90 = .ok (.iconst 0, 1) := by decide +kernel
theorem dX2_makeStep_91 : decode cX2_makeStep 91 = .ok (.ireturn, 1) := by decide +kernel
theorem dX2_makeStep_22 : decode cX2_makeStep 22 = .ok (.iconst 0, 1) := by decide +kernel
theorem dX2_makeStep_23 : decode cX2_makeStep 23 = .ok (.istore_n 2, 1) := by decide +kernel
theorem dX2_makeStep_24 : decode cX2_makeStep 24 = .ok (.iload_n 2, 1) := by decide +kernel
theorem dX2_makeStep_25 : decode cX2_makeStep 25 = .ok (.aload_n 0, 1) := by decide +kernel
theorem dX2_makeStep_26 : decode cX2_makeStep 26 = .ok (.getfield 26, 3) := by decide +kernel
theorem dX2_makeStep_29 : decode cX2_makeStep 29 = .ok (.if_icmp .ge 55, 3) := by decide +kernel
theorem dX2_makeStep_32 : decode cX2_makeStep 32 = .ok (.iload_n 1, 1) := by decide +kernel
theorem dX2_makeStep_33 : decode cX2_makeStep 33 = .ok (.iload_n 2, 1) := by decide +kernel
theorem dX2_makeStep_34 : decode cX2_makeStep 34 = .ok (.if_icmp .ne 7, 3) := by decide +kernel
theorem dX2_makeStep_37 : decode cX2_makeStep 37 = .ok (.iconst 0, 1) := by decide +kernel
theorem dX2_makeStep_38 : decode cX2_makeStep 38 = .ok (.goto 9, 3) := by decide +kernel
theorem dX2_makeStep_47 : decode cX2_makeStep 47 = .ok (.istore_n 3, 1) := by decide +kernel
theorem dX2_makeStep_48 : decode cX2_makeStep 48 = .ok (.iload_n 3, 1) := by decide +kernel
theorem dX2_makeStep_49 : decode cX2_makeStep 49 = .ok (.ifCond .eq 29, 3) := by decide +kernel
theorem dX2_makeStep_78 : decode cX2_makeStep 78 = .ok (.iinc 2 1, 3) := by decide +kernel
theorem dX2_makeStep_81 : decode cX2_makeStep 81 = .ok (.goto (-57), 3) := by decide +kernel
theorem dX2_makeStep_84 : decode cX2_makeStep 84 = .ok (.iinc 1 1, 3) := by decide +kernel
theorem dX2_makeStep_87 : decode cX2_makeStep 87 = .ok (.goto (-73), 3) := by decide +kernel
theorem dX2_makeStep_41 : decode cX2_makeStep 41 = .ok (.aload_n 0, 1) := by decide +kernel
theorem dX2_makeStep_42 : decode cX2_makeStep 42 = .ok (.iload_n 1, 1) := by decide +kernel
theorem dX2_makeStep_43 : decode cX2_makeStep 43 = .ok (.iload_n 2, 1) := by decide +kernel
theorem dX2_makeStep_44 : decode cX2_makeStep 44 = .ok (.invokevirtual 64, 3) := by decide +kernel
theorem dX2_timesIn_0 : decode cX2_timesIn 0 = .ok (.aload_n 0, 1) := by decide +kernel
theorem dX2_timesIn_1 : decode cX2_timesIn 1 = .ok (.getfield 12, 3) := by decide +kernel
theorem dX2_timesIn_4 : decode cX2_timesIn 4 = .ok (.iload_n 2, 1) := by decide +kernel
theorem dX2_timesIn_5 : decode cX2_timesIn 5 = .ok (.iload_n 2, 1) := by decide +kernel
theorem dX2_timesIn_6 : decode cX2_timesIn 6 = .ok (.invokevirtual 75, 3) := by decide +kernel
theorem dX2_timesIn_9 : decode cX2_timesIn 9 = .ok (.istore_n 3, 1) := by decide +kernel
theorem dX2_timesIn_10 : decode cX2_timesIn 10 = .ok (.iload_n 3, 1) := by decide +kernel
theorem dX2_timesIn_11 : decode cX2_timesIn 11 = .ok (.ifCond .ne 5, 3) := by decide +kernel
theorem dX2_timesIn_16 : decode cX2_timesIn 16 = .ok (.aload_n 0, 1) := by decide +kernel
theorem dX2_timesIn_17 : decode cX2_timesIn 17 = .ok (.getfield 12, 3) := by decide +kernel
theorem dX2_timesIn_20 : decode cX2_timesIn 20 = .ok (.iload_n 1, 1) := by decide +kernel
theorem dX2_timesIn_21 : decode cX2_timesIn 21 = .ok (.iload_n 2, 1) := by decide +kernel
theorem dX2_timesIn_22 : decode cX2_timesIn 22 = .ok (.invokevirtual 75, 3) := by decide +kernel
theorem dX2_timesIn_25 : decode cX2_timesIn 25 = .ok (.istore 4, 2) := by decide +kernel
theorem dX2_timesIn_27 : decode cX2_timesIn 27 = .ok (.iconst 2, 1) := by decide +kernel
theorem dX2_timesIn_28 : decode cX2_timesIn 28 = .ok (.iload 4, 2) := by decide +kernel
theorem dX2_timesIn_30 : decode cX2_timesIn 30 = .ok (.invokestatic 78, 3) := by decide +kernel
theorem dX2_timesIn_33 : decode cX2_timesIn 33 = .ok (.imul, 1) := by decide +kernel
theorem dX2_timesIn_34 : decode cX2_timesIn 34 = .ok (.iload_n 3, 1) := by decide +kernel
theorem dX2_timesIn_35 : decode cX2_timesIn 35 = .ok (.iadd, 1) := by decide +kernel
theorem dX2_timesIn_36 : decode cX2_timesIn 36 = .ok (.iconst 1, 1) := by decide +kernel
theorem dX2_timesIn_37 : decode cX2_timesIn 37 = .ok (.isub, 1) := by decide +kernel
theorem dX2_timesIn_38 : decode cX2_timesIn 38 = .ok (.iconst 2, 1) := by decide +kernel
theorem dX2_timesIn_39 : decode cX2_timesIn 39 = .ok (.iload_n 3, 1) := by decide +kernel
theorem dX2_timesIn_40 : decode cX2_timesIn 40 = .ok (.imul, 1) := by decide +kernel
theorem dX2_timesIn_41 : decode cX2_timesIn 41 = .ok (.idiv, 1) := by decide +kernel
theorem dX2_timesIn_42 : decode cX2_timesIn 42 = .ok (.istore 5, 2) := by decide +kernel
theorem dX2_timesIn_44 : decode cX2_timesIn 44 = .ok (.iload 4, 2) := by decide +kernel
theorem dX2_timesIn_46 : decode cX2_timesIn 46 = .ok (.ifCond .ge 9, 3) := by decide +kernel
theorem dX2_timesIn_55 : decode cX2_timesIn 55 = .ok (.iload 5, 2) := by decide +kernel
theorem dX2_timesIn_57 : decode cX2_timesIn 57 = .ok (.ireturn, 1) := by decide +kernel
theorem dX2_timesIn_49 : decode cX2_timesIn 49 = .ok (.iload 5, 2) := by decide +kernel
theorem dX2_timesIn_51 : decode cX2_timesIn 51 = .ok (.ineg, 1) := by decide +kernel
theorem dX2_timesIn_52 : decode cX2_timesIn 52 = .ok (.goto 5, 3) := by decide +kernel
theorem dX2_timesIn_14 : decode cX2_timesIn 14 = .ok (.iconst 0, 1) := by decide +kernel
theorem dX2_timesIn_15 : decode cX2_timesIn 15 = .ok (.ireturn, 1) := by decide +kernel
theorem dX2_makeStep_52 : decode cX2_makeStep 52 = .ok (.aload_n 0, 1) := by decide +kernel
theorem dX2_makeStep_53 : decode cX2_makeStep 53 = .ok (.iload_n 1, 1) := by decide +kernel
theorem dX2_makeStep_54 : decode cX2_makeStep 54 = .ok (.iload_n 2, 1) := by decide +kernel
theorem dX2_makeStep_55 : decode cX2_makeStep 55 = .ok (.iload_n 3, 1) := by decide +kernel
theorem dX2_makeStep_56 : decode cX2_makeStep 56 = .ok (.invokevirtual 68, 3) := by decide +kernel
theorem dX2_remember_0 : decode cX2_remember 0 = .ok (.aload_n 0, 1) := by decide +kernel
theorem dX2_remember_1 : decode cX2_remember 1 = .ok (.iconst 0, 1) := by decide +kernel
theorem dX2_remember_2 : decode cX2_remember 2 = .ok (.putfield 36, 3) := by decide +kernel
theorem dX2_remember_5 : decode cX2_remember 5 = .ok (.aload_n 0, 1) := by decide +kernel
theorem dX2_remember_6 : decode cX2_remember 6 = .ok (.getfield 33, 3) := by decide +kernel
theorem dX2_remember_9 : decode cX2_remember 9 = .ok (.bipush 40, 2) := by decide +kernel
theorem dX2_remember_11 : decode cX2_remember 11 = .ok (.if_icmp .ne 26, 3) := by decide +kernel
theorem dX2_remember_37 : decode cX2_remember 37 = .ok (.aload_n 0, 1) := by decide +kernel
theorem dX2_remember_38 : decode cX2_remember 38 = .ok (.aload_n 0, 1) := by decide +kernel
theorem dX2_remember_39 : decode cX2_remember 39 = .ok (.getfield 33, 3) := by decide +kernel
theorem dX2_remember_42 : decode cX2_remember 42 = .ok (.invokevirtual 56, 3) := by decide +kernel
theorem dX2_remember_45 : decode cX2_remember 45 = .ok (.istore 4, 2) := by decide +kernel
theorem dX2_remember_47 : decode cX2_remember 47 = .ok (.aload_n 0, 1) := by decide +kernel
theorem dX2_remember_48 : decode cX2_remember 48 = .ok (.getfield 22, 3) := by decide +kernel
theorem dX2_remember_51 : decode cX2_remember 51 = .ok (.iload 4, 2) := by decide +kernel
theorem dX2_remember_53 : decode cX2_remember 53 = .ok (.iload_n 1, 1) := by decide +kernel
theorem dX2_remember_54 : decode cX2_remember 54 = .ok (.iastore, 1) := by decide +kernel
theorem dX2_remember_55 : decode cX2_remember 55 = .ok (.aload_n 0, 1) := by decide +kernel
theorem dX2_remember_56 : decode cX2_remember 56 = .ok (.getfield 22, 3) := by decide +kernel
theorem dX2_remember_59 : decode cX2_remember 59 = .ok (.iload 4, 2) := by decide +kernel
theorem dX2_remember_61 : decode cX2_remember 61 = .ok (.iconst 1, 1) := by decide +kernel
theorem dX2_remember_62 : decode cX2_remember 62 = .ok (.iadd, 1) := by decide +kernel
theorem dX2_remember_63 : decode cX2_remember 63 = .ok (.iload_n 2, 1) := by decide +kernel
theorem dX2_remember_64 : decode cX2_remember 64 = .ok (.iastore, 1) := by decide +kernel
theorem dX2_remember_65 : decode cX2_remember 65 = .ok (.aload_n 0, 1) := by decide +kernel
theorem dX2_remember_66 : decode cX2_remember 66 = .ok (.getfield 22, 3) := by decide +kernel
theorem dX2_remember_69 : decode cX2_remember 69 = .ok (.iload 4, 2) := by decide +kernel
theorem dX2_remember_71 : decode cX2_remember 71 = .ok (.iconst 2, 1) := by decide +kernel
theorem dX2_remember_72 : decode cX2_remember 72 = .ok (.iadd, 1) := by decide +kernel
theorem dX2_remember_73 : decode cX2_remember 73 = .ok (.iload_n 3, 1) := by decide +kernel
theorem dX2_remember_74 : decode cX2_remember 74 = .ok (.iastore, 1) := by decide +kernel
theorem dX2_remember_75 : decode cX2_remember 75 = .ok (.aload_n 0, 1) := by decide +kernel
theorem dX2_remember_76 : decode cX2_remember 76 = .ok (.dup, 1) := by decide +kernel
theorem dX2_remember_77 : decode cX2_remember 77 = .ok (.getfield 33, 3) := by decide +kernel
theorem dX2_remember_80 : decode cX2_remember 80 = .ok (.iconst 1, 1) := by decide +kernel
theorem dX2_remember_81 : decode cX2_remember 81 = .ok (.iadd, 1) := by decide +kernel
theorem dX2_remember_82 : decode cX2_remember 82 = .ok (.putfield 33, 3) := by decide +kernel
theorem dX2_remember_85 : decode cX2_remember 85 = .ok (.return_, 1) := by decide +kernel
theorem dX2_remember_14 : decode cX2_remember 14 = .ok (.aload_n 0, 1) := by decide +kernel
theorem dX2_remember_15 : decode cX2_remember 15 = .ok (.aload_n 0, 1) := by decide +kernel
theorem dX2_remember_16 : decode cX2_remember 16 = .ok (.getfield 30, 3) := by decide +kernel
theorem dX2_remember_19 : decode cX2_remember 19 = .ok (.iconst 1, 1) := by decide +kernel
theorem dX2_remember_20 : decode cX2_remember 20 = .ok (.iadd, 1) := by decide +kernel
theorem dX2_remember_21 : decode cX2_remember 21 = .ok (.bipush 40, 2) := by decide +kernel
theorem dX2_remember_23 : decode cX2_remember 23 = .ok (.irem, 1) := by decide +kernel
theorem dX2_remember_24 : decode cX2_remember 24 = .ok (.putfield 30, 3) := by decide +kernel
theorem dX2_remember_27 : decode cX2_remember 27 = .ok (.aload_n 0, 1) := by decide +kernel
theorem dX2_remember_28 : decode cX2_remember 28 = .ok (.dup, 1) := by decide +kernel
theorem dX2_remember_29 : decode cX2_remember 29 = .ok (.getfield 33, 3) := by decide +kernel
theorem dX2_remember_32 : decode cX2_remember 32 = .ok (.iconst 1, 1) := by decide +kernel
theorem dX2_remember_33 : decode cX2_remember 33 = .ok (.isub, 1) := by decide +kernel
theorem dX2_remember_34 : decode cX2_remember 34 = .ok (.putfield 33, 3) := by decide +kernel
theorem dX2_makeStep_59 : decode cX2_makeStep 59 = .ok (.aload_n 0, 1) := by decide +kernel
theorem dX2_makeStep_60 : decode cX2_makeStep 60 = .ok (.iload_n 1, 1) := by decide +kernel
theorem dX2_makeStep_61 : decode cX2_makeStep 61 = .ok (.iload_n 2, 1) := by decide +kernel
theorem dX2_makeStep_62 : decode cX2_makeStep 62 = .ok (.iload_n 3, 1) := by decide +kernel
theorem dX2_makeStep_63 : decode cX2_makeStep 63 = .ok (.invokevirtual 72, 3) := by decide +kernel
theorem dX2_takeAway_0 : decode cX2_takeAway 0 = .ok (.aload_n 0, 1) := by decide +kernel
theorem dX2_takeAway_1 : decode cX2_takeAway 1 = .ok (.getfield 12, 3) := by decide +kernel
theorem dX2_takeAway_4 : decode cX2_takeAway 4 = .ok (.iload_n 1, 1) := by decide +kernel
theorem dX2_takeAway_5 : decode cX2_takeAway 5 = .ok (.iload_n 2, 1) := by decide +kernel
theorem dX2_takeAway_6 : decode cX2_takeAway 6 = .ok (.iload_n 3, 1) := by decide +kernel
theorem dX2_takeAway_7 : decode cX2_takeAway 7 = .ok (.invokevirtual 83, 3) := by decide +kernel
theorem dX2_takeAway_10 : decode cX2_takeAway 10 = .ok (.iconst 0, 1) := by decide +kernel
theorem dX2_takeAway_11 : decode cX2_takeAway 11 = .ok (.istore 4, 2) := by decide +kernel
theorem dX2_takeAway_13 : decode cX2_takeAway 13 = .ok (.iload 4, 2) := by decide +kernel
theorem dX2_takeAway_15 : decode cX2_takeAway 15 = .ok (.iconst 5, 1) := by decide +kernel
theorem dX2_takeAway_16 : decode cX2_takeAway 16 = .ok (.if_icmp .ge 37, 3) := by decide +kernel
theorem dX2_takeAway_19 : decode cX2_takeAway 19 = .ok (.aload_n 0, 1) := by decide +kernel
theorem dX2_takeAway_20 : decode cX2_takeAway 20 = .ok (.getfield 18, 3) := by decide +kernel
theorem dX2_takeAway_23 : decode cX2_takeAway 23 = .ok (.iload_n 1, 1) := by decide +kernel
theorem dX2_takeAway_24 : decode cX2_takeAway 24 = .ok (.iconst 5, 1) := by decide +kernel
theorem dX2_takeAway_25 : decode cX2_takeAway 25 = .ok (.imul, 1) := by decide +kernel
theorem dX2_takeAway_26 : decode cX2_takeAway 26 = .ok (.iload 4, 2) := by decide +kernel
theorem dX2_takeAway_28 : decode cX2_takeAway 28 = .ok (.iadd, 1) := by decide +kernel
theorem dX2_takeAway_29 : decode cX2_takeAway 29 = .ok (.dup2, 1) := by decide +kernel
theorem dX2_takeAway_30 : decode cX2_takeAway 30 = .ok (.laload, 1) := by decide +kernel
theorem dX2_takeAway_31 : decode cX2_takeAway 31 = .ok (.iload_n 3, 1) := by decide +kernel
theorem dX2_takeAway_32 : decode cX2_takeAway 32 = .ok (.i2l, 1) := by decide +kernel
theorem dX2_takeAway_33 : decode cX2_takeAway 33 = .ok (.aload_n 0, 1) := by decide +kernel
theorem dX2_takeAway_34 : decode cX2_takeAway 34 = .ok (.getfield 18, 3) := by decide +kernel
theorem dX2_takeAway_37 : decode cX2_takeAway 37 = .ok (.iload_n 2, 1) := by decide +kernel
theorem dX2_takeAway_38 : decode cX2_takeAway 38 = .ok (.iconst 5, 1) := by decide +kernel
theorem dX2_takeAway_39 : decode cX2_takeAway 39 = .ok (.imul, 1) := by decide +kernel
theorem dX2_takeAway_40 : decode cX2_takeAway 40 = .ok (.iload 4, 2) := by decide +kernel
theorem dX2_takeAway_42 : decode cX2_takeAway 42 = .ok (.iadd, 1) := by decide +kernel
theorem dX2_takeAway_43 : decode cX2_takeAway 43 = .ok (.laload, 1) := by decide +kernel
theorem dX2_takeAway_44 : decode cX2_takeAway 44 = .ok (.lmul, 1) := by decide +kernel
theorem dX2_takeAway_45 : decode cX2_takeAway 45 = .ok (.lsub, 1) := by decide +kernel
theorem dX2_takeAway_46 : decode cX2_takeAway 46 = .ok (.lastore, 1) := by decide +kernel
theorem dX2_takeAway_47 : decode cX2_takeAway 47 = .ok (.iinc 4 1, 3) := by decide +kernel
theorem dX2_takeAway_50 : decode cX2_takeAway 50 = .ok (.goto (-37), 3) := by decide +kernel
theorem dX2_takeAway_53 : decode cX2_takeAway 53 = .ok (.return_, 1) := by decide +kernel
theorem dX2_makeStep_66 : decode cX2_makeStep 66 = .ok (.aload_n 0, 1) := by decide +kernel
theorem dX2_makeStep_67 : decode cX2_makeStep 67 = .ok (.dup, 1) := by decide +kernel
theorem dX2_makeStep_68 : decode cX2_makeStep 68 = .ok (.getfield 39, 3) := by decide +kernel
theorem dX2_makeStep_71 : decode cX2_makeStep 71 = .ok (.iconst 1, 1) := by decide +kernel
theorem dX2_makeStep_72 : decode cX2_makeStep 72 = .ok (.iadd, 1) := by decide +kernel
theorem dX2_makeStep_73 : decode cX2_makeStep 73 = .ok (.putfield 39, 3) := by decide +kernel
theorem dX2_makeStep_76 : decode cX2_makeStep 76 = .ok (.iconst 1, 1) := by decide +kernel
theorem dX2_makeStep_77 : decode cX2_makeStep 77 = .ok (.ireturn, 1) := by decide +kernel
theorem dX2_makeStep_10 : decode cX2_makeStep 10 = .ok (.iconst 0, 1) := by decide +kernel
theorem dX2_makeStep_11 : decode cX2_makeStep 11 = .ok (.ireturn, 1) := by decide +kernel
theorem dX2_makeSteps_11 : decode cX2_makeSteps 11 = .ok (.ifCond .eq 9, 3) := by decide +kernel
theorem dX2_makeSteps_14 : decode cX2_makeSteps 14 = .ok (.iinc 2 1, 3) := by decide +kernel
theorem dX2_makeSteps_17 : decode cX2_makeSteps 17 = .ok (.goto (-15), 3) := by decide +kernel
theorem dX11_undo_0 : decode cX11_undo 0 = .ok (.aload_n 0, 1) := by decide +kernel
theorem dX11_undo_1 : decode cX11_undo 1 = .ok (.getfield 76, 3) := by decide +kernel
theorem dX11_undo_4 : decode cX11_undo 4 = .ok (.invokevirtual 299, 3) := by decide +kernel
theorem dX2_undoStep_0 : decode cX2_undoStep 0 = .ok (.aload_n 0, 1) := by decide +kernel
theorem dX2_undoStep_1 : decode cX2_undoStep 1 = .ok (.getfield 33, 3) := by decide +kernel
theorem dX2_undoStep_4 : decode cX2_undoStep 4 = .ok (.ifCond .ne 5, 3) := by decide +kernel
theorem dX2_undoStep_9 : decode cX2_undoStep 9 = .ok (.aload_n 0, 1) := by decide +kernel
theorem dX2_undoStep_10 : decode cX2_undoStep 10 = .ok (.dup, 1) := by decide +kernel
theorem dX2_undoStep_11 : decode cX2_undoStep 11 = .ok (.getfield 33, 3) := by decide +kernel
theorem dX2_undoStep_14 : decode cX2_undoStep 14 = .ok (.iconst 1, 1) := by decide +kernel
theorem dX2_undoStep_15 : decode cX2_undoStep 15 = .ok (.isub, 1) := by decide +kernel
theorem dX2_undoStep_16 : decode cX2_undoStep 16 = .ok (.putfield 33, 3) := by decide +kernel
theorem dX2_undoStep_19 : decode cX2_undoStep 19 = .ok (.aload_n 0, 1) := by decide +kernel
theorem dX2_undoStep_20 : decode cX2_undoStep 20 = .ok (.dup, 1) := by decide +kernel
theorem dX2_undoStep_21 : decode cX2_undoStep 21 = .ok (.getfield 36, 3) := by decide +kernel
theorem dX2_undoStep_24 : decode cX2_undoStep 24 = .ok (.iconst 1, 1) := by decide +kernel
theorem dX2_undoStep_25 : decode cX2_undoStep 25 = .ok (.iadd, 1) := by decide +kernel
theorem dX2_undoStep_26 : decode cX2_undoStep 26 = .ok (.putfield 36, 3) := by decide +kernel
theorem dX2_undoStep_29 : decode cX2_undoStep 29 = .ok (.aload_n 0, 1) := by decide +kernel
theorem dX2_undoStep_30 : decode cX2_undoStep 30 = .ok (.dup, 1) := by decide +kernel
theorem dX2_undoStep_31 : decode cX2_undoStep 31 = .ok (.getfield 39, 3) := by decide +kernel
theorem dX2_undoStep_34 : decode cX2_undoStep 34 = .ok (.iconst 1, 1) := by decide +kernel
theorem dX2_undoStep_35 : decode cX2_undoStep 35 = .ok (.isub, 1) := by decide +kernel
theorem dX2_undoStep_36 : decode cX2_undoStep 36 = .ok (.putfield 39, 3) := by decide +kernel
theorem dX2_undoStep_39 : decode cX2_undoStep 39 = .ok (.aload_n 0, 1) := by decide +kernel
theorem dX2_undoStep_40 : decode cX2_undoStep 40 = .ok (.aload_n 0, 1) := by decide +kernel
theorem dX2_undoStep_41 : decode cX2_undoStep 41 = .ok (.getfield 33, 3) := by decide +kernel
theorem dX2_undoStep_44 : decode cX2_undoStep 44 = .ok (.invokevirtual 56, 3) := by decide +kernel
theorem dX2_undoStep_47 : decode cX2_undoStep 47 = .ok (.istore_n 1, 1) := by decide +kernel
theorem dX2_undoStep_48 : decode cX2_undoStep 48 = .ok (.aload_n 0, 1) := by decide +kernel
theorem dX2_undoStep_49 : decode cX2_undoStep 49 = .ok (.aload_n 0, 1) := by decide +kernel
theorem dX2_undoStep_50 : decode cX2_undoStep 50 = .ok (.getfield 22, 3) := by decide +kernel
theorem dX2_undoStep_53 : decode cX2_undoStep 53 = .ok (.iload_n 1, 1) := by decide +kernel
theorem dX2_undoStep_54 : decode cX2_undoStep 54 = .ok (.iaload, 1) := by decide +kernel
theorem dX2_undoStep_55 : decode cX2_undoStep 55 = .ok (.aload_n 0, 1) := by decide +kernel
theorem dX2_undoStep_56 : decode cX2_undoStep 56 = .ok (.getfield 22, 3) := by decide +kernel
theorem dX2_undoStep_59 : decode cX2_undoStep 59 = .ok (.iload_n 1, 1) := by decide +kernel
theorem dX2_undoStep_60 : decode cX2_undoStep 60 = .ok (.iconst 1, 1) := by decide +kernel
theorem dX2_undoStep_61 : decode cX2_undoStep 61 = .ok (.iadd, 1) := by decide +kernel
theorem dX2_undoStep_62 : decode cX2_undoStep 62 = .ok (.iaload, 1) := by decide +kernel
theorem dX2_undoStep_63 : decode cX2_undoStep 63 = .ok (.aload_n 0, 1) := by decide +kernel
theorem dX2_undoStep_64 : decode cX2_undoStep 64 = .ok (.getfield 22, 3) := by decide +kernel
theorem dX2_undoStep_67 : decode cX2_undoStep 67 = .ok (.iload_n 1, 1) := by decide +kernel
theorem dX2_undoStep_68 : decode cX2_undoStep 68 = .ok (.iconst 2, 1) := by decide +kernel
theorem dX2_undoStep_69 : decode cX2_undoStep 69 = .ok (.iadd, 1) := by decide +kernel
theorem dX2_undoStep_70 : decode cX2_undoStep 70 = .ok (.iaload, 1) := by decide +kernel
theorem dX2_undoStep_71 : decode cX2_undoStep 71 = .ok (.ineg, 1) := by decide +kernel
theorem dX2_undoStep_72 : decode cX2_undoStep 72 = .ok (.invokevirtual 72, 3) := by decide +kernel
theorem dX2_undoStep_75 : decode cX2_undoStep 75 = .ok (.iconst 1, 1) := by decide +kernel
theorem dX2_undoStep_76 : decode cX2_undoStep 76 = .ok (.ireturn, 1) := by decide +kernel
theorem dX2_undoStep_7 : decode cX2_undoStep 7 = .ok (.iconst 0, 1) := by decide +kernel
theorem dX2_undoStep_8 : decode cX2_undoStep 8 = .ok (.ireturn, 1) := by decide +kernel
theorem dX11_undo_7 : decode cX11_undo 7 = .ok (.ireturn, 1) := by decide +kernel
theorem dX11_redo_0 : decode cX11_redo 0 = .ok (.aload_n 0, 1) := by decide +kernel
theorem dX11_redo_1 : decode cX11_redo 1 = .ok (.getfield 76, 3) := by decide +kernel
theorem dX11_redo_4 : decode cX11_redo 4 = .ok (.invokevirtual 302, 3) := by decide +kernel
theorem dX2_redoStep_0 : decode cX2_redoStep 0 = .ok (.aload_n 0, 1) := by decide +kernel
theorem dX2_redoStep_1 : decode cX2_redoStep 1 = .ok (.getfield 36, 3) := by decide +kernel
theorem dX2_redoStep_4 : decode cX2_redoStep 4 = .ok (.ifCond .ne 5, 3) := by decide +kernel
theorem dX2_redoStep_9 : decode cX2_redoStep 9 = .ok (.aload_n 0, 1) := by decide +kernel
theorem dX2_redoStep_10 : decode cX2_redoStep 10 = .ok (.aload_n 0, 1) := by decide +kernel
theorem dX2_redoStep_11 : decode cX2_redoStep 11 = .ok (.getfield 33, 3) := by decide +kernel
theorem dX2_redoStep_14 : decode cX2_redoStep 14 = .ok (.invokevirtual 56, 3) := by decide +kernel
theorem dX2_redoStep_17 : decode cX2_redoStep 17 = .ok (.istore_n 1, 1) := by decide +kernel
theorem dX2_redoStep_18 : decode cX2_redoStep 18 = .ok (.aload_n 0, 1) := by decide +kernel
theorem dX2_redoStep_19 : decode cX2_redoStep 19 = .ok (.aload_n 0, 1) := by decide +kernel
theorem dX2_redoStep_20 : decode cX2_redoStep 20 = .ok (.getfield 22, 3) := by decide +kernel
theorem dX2_redoStep_23 : decode cX2_redoStep 23 = .ok (.iload_n 1, 1) := by decide +kernel
theorem dX2_redoStep_24 : decode cX2_redoStep 24 = .ok (.iaload, 1) := by decide +kernel
theorem dX2_redoStep_25 : decode cX2_redoStep 25 = .ok (.aload_n 0, 1) := by decide +kernel
theorem dX2_redoStep_26 : decode cX2_redoStep 26 = .ok (.getfield 22, 3) := by decide +kernel
theorem dX2_redoStep_29 : decode cX2_redoStep 29 = .ok (.iload_n 1, 1) := by decide +kernel
theorem dX2_redoStep_30 : decode cX2_redoStep 30 = .ok (.iconst 1, 1) := by decide +kernel
theorem dX2_redoStep_31 : decode cX2_redoStep 31 = .ok (.iadd, 1) := by decide +kernel
theorem dX2_redoStep_32 : decode cX2_redoStep 32 = .ok (.iaload, 1) := by decide +kernel
theorem dX2_redoStep_33 : decode cX2_redoStep 33 = .ok (.aload_n 0, 1) := by decide +kernel
theorem dX2_redoStep_34 : decode cX2_redoStep 34 = .ok (.getfield 22, 3) := by decide +kernel
theorem dX2_redoStep_37 : decode cX2_redoStep 37 = .ok (.iload_n 1, 1) := by decide +kernel
theorem dX2_redoStep_38 : decode cX2_redoStep 38 = .ok (.iconst 2, 1) := by decide +kernel
theorem dX2_redoStep_39 : decode cX2_redoStep 39 = .ok (.iadd, 1) := by decide +kernel
theorem dX2_redoStep_40 : decode cX2_redoStep 40 = .ok (.iaload, 1) := by decide +kernel
theorem dX2_redoStep_41 : decode cX2_redoStep 41 = .ok (.invokevirtual 72, 3) := by decide +kernel
theorem dX2_redoStep_44 : decode cX2_redoStep 44 = .ok (.aload_n 0, 1) := by decide +kernel
theorem dX2_redoStep_45 : decode cX2_redoStep 45 = .ok (.dup, 1) := by decide +kernel
theorem dX2_redoStep_46 : decode cX2_redoStep 46 = .ok (.getfield 33, 3) := by decide +kernel
theorem dX2_redoStep_49 : decode cX2_redoStep 49 = .ok (.iconst 1, 1) := by decide +kernel
theorem dX2_redoStep_50 : decode cX2_redoStep 50 = .ok (.iadd, 1) := by decide +kernel
theorem dX2_redoStep_51 : decode cX2_redoStep 51 = .ok (.putfield 33, 3) := by decide +kernel
theorem dX2_redoStep_54 : decode cX2_redoStep 54 = .ok (.aload_n 0, 1) := by decide +kernel
theorem dX2_redoStep_55 : decode cX2_redoStep 55 = .ok (.dup, 1) := by decide +kernel
theorem dX2_redoStep_56 : decode cX2_redoStep 56 = .ok (.getfield 36, 3) := by decide +kernel
theorem dX2_redoStep_59 : decode cX2_redoStep 59 = .ok (.iconst 1, 1) := by decide +kernel
theorem dX2_redoStep_60 : decode cX2_redoStep 60 = .ok (.isub, 1) := by decide +kernel
theorem dX2_redoStep_61 : decode cX2_redoStep 61 = .ok (.putfield 36, 3) := by decide +kernel
theorem dX2_redoStep_64 : decode cX2_redoStep 64 = .ok (.aload_n 0, 1) := by decide +kernel
theorem dX2_redoStep_65 : decode cX2_redoStep 65 = .ok (.dup, 1) := by decide +kernel
theorem dX2_redoStep_66 : decode cX2_redoStep 66 = .ok (.getfield 39, 3) := by decide +kernel
