theorem tw_491 : (.methodLink RX11 100 yX4_readHouse : Cond) ∈ lw_gd := g_mem (List.mem_append_right _ (g_k3 (List.mem_of_getElem? (i := 11) rfl))) rfl
theorem tw_169 : (.fieldLink RX4 21 "ManyOut$Reader" "into" "LManyOut$House;" : Cond) ∈ lw_gd := g_mem (List.mem_append_right _ (g_k1 (List.mem_of_getElem? (i := 169) rfl))) rfl
theorem tw_495 : (.methodLink RX4 44 yX1_clear : Cond) ∈ lw_gd := g_mem (List.mem_append_right _ (g_k3 (List.mem_of_getElem? (i := 15) rfl))) rfl
theorem tw_498 : (.code yX1_clear cX1_clear 1 none : Cond) ∈ lw_gd := g_mem (List.mem_append_right _ (g_k3 (List.mem_of_getElem? (i := 18) rfl))) rfl
theorem tw_497 : (.selects RX1 yX1_clear yX1_clear : Cond) ∈ lw_gd := g_mem (List.mem_append_right _ (g_k3 (List.mem_of_getElem? (i := 17) rfl))) rfl
theorem tw_496 : (.instanceMethod yX1_clear : Cond) ∈ lw_gd := g_mem (List.mem_append_right _ (g_k3 (List.mem_of_getElem? (i := 16) rfl))) rfl
theorem tw_173 : (.fieldLink RX4 35 "ManyOut$Reader" "open" "I" : Cond) ∈ lw_gd := g_mem (List.mem_append_right _ (g_k1 (List.mem_of_getElem? (i := 173) rfl))) rfl
theorem tw_174 : (.fieldLink RX4 38 "ManyOut$Reader" "fault" "I" : Cond) ∈ lw_gd := g_mem (List.mem_append_right _ (g_k1 (List.mem_of_getElem? (i := 174) rfl))) rfl
theorem tw_176 : (.fieldLink RX4 41 "ManyOut$Reader" "place" "I" : Cond) ∈ lw_gd := g_mem (List.mem_append_right _ (g_k1 (List.mem_of_getElem? (i := 176) rfl))) rfl
theorem tw_510 : (.methodLink RX4 47 yX4_goOn : Cond) ∈ lw_gd := g_mem (List.mem_append_right _ (g_k3 (List.mem_of_getElem? (i := 30) rfl))) rfl
theorem tw_170 : (.fieldLink RX4 25 "ManyOut$Reader" "at" "I" : Cond) ∈ lw_gd := g_mem (List.mem_append_right _ (g_k1 (List.mem_of_getElem? (i := 170) rfl))) rfl
theorem tw_167 : (.fieldLink RX4 12 "ManyOut$Reader" "tape" "LManyOut$Tape;" : Cond) ∈ lw_gd := g_mem (List.mem_append_right _ (g_k1 (List.mem_of_getElem? (i := 167) rfl))) rfl
theorem tw_514 : (.methodLink RX4 70 yX9_length : Cond) ∈ lw_gd := g_mem (List.mem_append_right _ (g_k3 (List.mem_of_getElem? (i := 34) rfl))) rfl
theorem tw_515 : (.methodLink RX4 74 yX9_at : Cond) ∈ lw_gd := g_mem (List.mem_append_right _ (g_k3 (List.mem_of_getElem? (i := 35) rfl))) rfl
theorem tw_171 : (.fieldLink RX4 29 "ManyOut$Reader" "sign" "I" : Cond) ∈ lw_gd := g_mem (List.mem_append_right _ (g_k1 (List.mem_of_getElem? (i := 171) rfl))) rfl
theorem tw_522 : (.methodLink RX4 80 yX4_isSmall : Cond) ∈ lw_gd := g_mem (List.mem_append_right _ (g_k3 (List.mem_of_getElem? (i := 42) rfl))) rfl
theorem tw_524 : (.code yX4_isSmall cX4_isSmall 1 (some .boolean) : Cond) ∈ lw_gd := g_mem (List.mem_append_right _ (g_k3 (List.mem_of_getElem? (i := 44) rfl))) rfl
theorem tw_2 : (.initialized RX4 : Cond) ∈ lw_gd := g_mem (List.mem_append_right _ (g_k1 (List.mem_of_getElem? (i := 2) rfl))) rfl
theorem tw_523 : (.static yX4_isSmall : Cond) ∈ lw_gd := g_mem (List.mem_append_right _ (g_k3 (List.mem_of_getElem? (i := 43) rfl))) rfl
theorem tw_525 : (.methodLink RX4 83 yX4_isDigit : Cond) ∈ lw_gd := g_mem (List.mem_append_right _ (g_k3 (List.mem_of_getElem? (i := 45) rfl))) rfl
theorem tw_527 : (.code yX4_isDigit cX4_isDigit 1 (some .boolean) : Cond) ∈ lw_gd := g_mem (List.mem_append_right _ (g_k3 (List.mem_of_getElem? (i := 47) rfl))) rfl
theorem tw_526 : (.static yX4_isDigit : Cond) ∈ lw_gd := g_mem (List.mem_append_right _ (g_k3 (List.mem_of_getElem? (i := 46) rfl))) rfl
theorem tw_519 : (.methodLink RX4 77 yX4_isBlank : Cond) ∈ lw_gd := g_mem (List.mem_append_right _ (g_k3 (List.mem_of_getElem? (i := 39) rfl))) rfl
theorem tw_521 : (.code yX4_isBlank cX4_isBlank 1 (some .boolean) : Cond) ∈ lw_gd := g_mem (List.mem_append_right _ (g_k3 (List.mem_of_getElem? (i := 41) rfl))) rfl
theorem tw_520 : (.static yX4_isBlank : Cond) ∈ lw_gd := g_mem (List.mem_append_right _ (g_k3 (List.mem_of_getElem? (i := 40) rfl))) rfl
theorem tw_513 : (.code yX4_goOn cX4_goOn 3 none : Cond) ∈ lw_gd := g_mem (List.mem_append_right _ (g_k3 (List.mem_of_getElem? (i := 33) rfl))) rfl
theorem tp_0 : (.selects RX4 yX4_goOn yX4_goOn : Cond) ∈ lw_gd := g_mem (List.mem_append_left _ (List.mem_of_getElem? (i := 0) (by decide +kernel))) rfl
theorem tw_512 : (.instanceMethod yX4_goOn : Cond) ∈ lw_gd := g_mem (List.mem_append_right _ (g_k3 (List.mem_of_getElem? (i := 32) rfl))) rfl
theorem tw_536 : (.methodLink RX4 59 yX4_readStatement : Cond) ∈ lw_gd := g_mem (List.mem_append_right _ (g_k3 (List.mem_of_getElem? (i := 56) rfl))) rfl
theorem tw_541 : (.methodLink RX4 109 yX4_readWord : Cond) ∈ lw_gd := g_mem (List.mem_append_right _ (g_k3 (List.mem_of_getElem? (i := 61) rfl))) rfl
theorem tw_545 : (.methodLink RX4 97 yX4_takesWord : Cond) ∈ lw_gd := g_mem (List.mem_append_right _ (g_k3 (List.mem_of_getElem? (i := 65) rfl))) rfl
theorem tw_549 : (.methodLink RX4 93 yX4_isWordAhead : Cond) ∈ lw_gd := g_mem (List.mem_append_right _ (g_k3 (List.mem_of_getElem? (i := 69) rfl))) rfl
theorem tw_553 : (.methodLink RX4 86 yJ0_length_8abf5 : Cond) ∈ lw_gd := g_mem (List.mem_append_right _ (g_k3 (List.mem_of_getElem? (i := 73) rfl))) rfl
theorem tw_2110 : (.fieldLink RJ0 9 "java/lang/String" "value" "[B" : Cond) ∈ lw_gd := g_mem (List.mem_append_right _ (g_k9 (List.mem_of_getElem? (i := 190) rfl))) rfl
theorem tw_557 : (.methodLink RJ0 335 yJ0_coder_7d493 : Cond) ∈ lw_gd := g_mem (List.mem_append_right _ (g_k3 (List.mem_of_getElem? (i := 77) rfl))) rfl
theorem tw_561 : (.fieldLink RJ0 38 "java/lang/String" "COMPACT_STRINGS" "Z" : Cond) ∈ lw_gd := g_mem (List.mem_append_right _ (g_k3 (List.mem_of_getElem? (i := 81) rfl))) rfl
theorem tw_2111 : (.fieldLink RJ0 15 "java/lang/String" "coder" "B" : Cond) ∈ lw_gd := g_mem (List.mem_append_right _ (g_k9 (List.mem_of_getElem? (i := 191) rfl))) rfl
theorem tw_560 : (.code yJ0_coder_7d493 cJ0_coder_7d493 1 (some .byte) : Cond) ∈ lw_gd := g_mem (List.mem_append_right _ (g_k3 (List.mem_of_getElem? (i := 80) rfl))) rfl
theorem tw_15 : (.initialized RJ0 : Cond) ∈ lw_gd := g_mem (List.mem_append_right _ (g_k1 (List.mem_of_getElem? (i := 15) rfl))) rfl
theorem tw_559 : (.selects RJ0 yJ0_coder_7d493 yJ0_coder_7d493 : Cond) ∈ lw_gd := g_mem (List.mem_append_right _ (g_k3 (List.mem_of_getElem? (i := 79) rfl))) rfl
theorem tw_558 : (.instanceMethod yJ0_coder_7d493 : Cond) ∈ lw_gd := g_mem (List.mem_append_right _ (g_k3 (List.mem_of_getElem? (i := 78) rfl))) rfl
theorem tw_556 : (.code yJ0_length_8abf5 cJ0_length_8abf5 1 (some .int) : Cond) ∈ lw_gd := g_mem (List.mem_append_right _ (g_k3 (List.mem_of_getElem? (i := 76) rfl))) rfl
theorem tw_555 : (.selects RJ0 yJ0_length_8abf5 yJ0_length_8abf5 : Cond) ∈ lw_gd := g_mem (List.mem_append_right _ (g_k3 (List.mem_of_getElem? (i := 75) rfl))) rfl
theorem tw_554 : (.instanceMethod yJ0_length_8abf5 : Cond) ∈ lw_gd := g_mem (List.mem_append_right _ (g_k3 (List.mem_of_getElem? (i := 74) rfl))) rfl
theorem tw_563 : (.methodLink RX4 89 yJ0_charAt_5068e : Cond) ∈ lw_gd := g_mem (List.mem_append_right _ (g_k3 (List.mem_of_getElem? (i := 83) rfl))) rfl
theorem tw_567 : (.methodLink RJ0 492 yJ0_isLatin1_aae02 : Cond) ∈ lw_gd := g_mem (List.mem_append_right _ (g_k3 (List.mem_of_getElem? (i := 87) rfl))) rfl
theorem tw_570 : (.code yJ0_isLatin1_aae02 cJ0_isLatin1_aae02 1 (some .boolean) : Cond) ∈ lw_gd := g_mem (List.mem_append_right _ (g_k3 (List.mem_of_getElem? (i := 90) rfl))) rfl
theorem tw_569 : (.selects RJ0 yJ0_isLatin1_aae02 yJ0_isLatin1_aae02 : Cond) ∈ lw_gd := g_mem (List.mem_append_right _ (g_k3 (List.mem_of_getElem? (i := 89) rfl))) rfl
theorem tw_568 : (.instanceMethod yJ0_isLatin1_aae02 : Cond) ∈ lw_gd := g_mem (List.mem_append_right _ (g_k3 (List.mem_of_getElem? (i := 88) rfl))) rfl
theorem tw_571 : (.methodLink RJ0 495 yJ1_charAt_3b067 : Cond) ∈ lw_gd := g_mem (List.mem_append_right _ (g_k3 (List.mem_of_getElem? (i := 91) rfl))) rfl
theorem tw_574 : (.methodLink RJ1 9 yJ0_checkIndex_df160 : Cond) ∈ lw_gd := g_mem (List.mem_append_right _ (g_k3 (List.mem_of_getElem? (i := 94) rfl))) rfl
theorem tw_577 : (.fieldLink RJ0 1053 "jdk/internal/util/Preconditions" "SIOOBE_FORMATTER" "Ljava/util/function/BiFunction;" : Cond) ∈ lw_gd := g_mem (List.mem_append_right _ (g_k3 (List.mem_of_getElem? (i := 97) rfl))) rfl
theorem tw_579 : (.methodLink RJ0 1059 yJ3_checkIndex_8e157 : Cond) ∈ lw_gd := g_mem (List.mem_append_right _ (g_k3 (List.mem_of_getElem? (i := 99) rfl))) rfl
theorem tw_581 : (.code yJ3_checkIndex_8e157 cJ3_checkIndex_8e157 3 (some .int) : Cond) ∈ lw_gd := g_mem (List.mem_append_right _ (g_k3 (List.mem_of_getElem? (i := 101) rfl))) rfl
theorem tw_17 : (.initialized RJ3 : Cond) ∈ lw_gd := g_mem (List.mem_append_right _ (g_k1 (List.mem_of_getElem? (i := 17) rfl))) rfl
theorem tw_580 : (.static yJ3_checkIndex_8e157 : Cond) ∈ lw_gd := g_mem (List.mem_append_right _ (g_k3 (List.mem_of_getElem? (i := 100) rfl))) rfl
theorem tw_576 : (.code yJ0_checkIndex_df160 cJ0_checkIndex_df160 2 none : Cond) ∈ lw_gd := g_mem (List.mem_append_right _ (g_k3 (List.mem_of_getElem? (i := 96) rfl))) rfl
theorem tw_575 : (.static yJ0_checkIndex_df160 : Cond) ∈ lw_gd := g_mem (List.mem_append_right _ (g_k3 (List.mem_of_getElem? (i := 95) rfl))) rfl
theorem tw_573 : (.code yJ1_charAt_3b067 cJ1_charAt_3b067 2 (some .char) : Cond) ∈ lw_gd := g_mem (List.mem_append_right _ (g_k3 (List.mem_of_getElem? (i := 93) rfl))) rfl
theorem tw_16 : (.initialized RJ1 : Cond) ∈ lw_gd := g_mem (List.mem_append_right _ (g_k1 (List.mem_of_getElem? (i := 16) rfl))) rfl
theorem tw_572 : (.static yJ1_charAt_3b067 : Cond) ∈ lw_gd := g_mem (List.mem_append_right _ (g_k3 (List.mem_of_getElem? (i := 92) rfl))) rfl
theorem tw_566 : (.code yJ0_charAt_5068e cJ0_charAt_5068e 2 (some .char) : Cond) ∈ lw_gd := g_mem (List.mem_append_right _ (g_k3 (List.mem_of_getElem? (i := 86) rfl))) rfl
theorem tw_565 : (.selects RJ0 yJ0_charAt_5068e yJ0_charAt_5068e : Cond) ∈ lw_gd := g_mem (List.mem_append_right _ (g_k3 (List.mem_of_getElem? (i := 85) rfl))) rfl
theorem tw_564 : (.instanceMethod yJ0_charAt_5068e : Cond) ∈ lw_gd := g_mem (List.mem_append_right _ (g_k3 (List.mem_of_getElem? (i := 84) rfl))) rfl
theorem tw_552 : (.code yX4_isWordAhead cX4_isWordAhead 4 (some .boolean) : Cond) ∈ lw_gd := g_mem (List.mem_append_right _ (g_k3 (List.mem_of_getElem? (i := 72) rfl))) rfl
theorem tp_6 : (.selects RX4 yX4_isWordAhead yX4_isWordAhead : Cond) ∈ lw_gd := g_mem (List.mem_append_left _ (List.mem_of_getElem? (i := 6) (by decide +kernel))) rfl
theorem tw_551 : (.instanceMethod yX4_isWordAhead : Cond) ∈ lw_gd := g_mem (List.mem_append_right _ (g_k3 (List.mem_of_getElem? (i := 71) rfl))) rfl
theorem tw_548 : (.code yX4_takesWord cX4_takesWord 3 (some .boolean) : Cond) ∈ lw_gd := g_mem (List.mem_append_right _ (g_k3 (List.mem_of_getElem? (i := 68) rfl))) rfl
theorem tp_5 : (.selects RX4 yX4_takesWord yX4_takesWord : Cond) ∈ lw_gd := g_mem (List.mem_append_left _ (List.mem_of_getElem? (i := 5) (by decide +kernel))) rfl
theorem tw_547 : (.instanceMethod yX4_takesWord : Cond) ∈ lw_gd := g_mem (List.mem_append_right _ (g_k3 (List.mem_of_getElem? (i := 67) rfl))) rfl
theorem tw_528 : (.methodLink RX4 51 yX4_failHere : Cond) ∈ lw_gd := g_mem (List.mem_append_right _ (g_k3 (List.mem_of_getElem? (i := 48) rfl))) rfl
theorem tw_532 : (.methodLink RX4 55 yX4_fail : Cond) ∈ lw_gd := g_mem (List.mem_append_right _ (g_k3 (List.mem_of_getElem? (i := 52) rfl))) rfl
theorem tw_535 : (.code yX4_fail cX4_fail 3 (some .boolean) : Cond) ∈ lw_gd := g_mem (List.mem_append_right _ (g_k3 (List.mem_of_getElem? (i := 55) rfl))) rfl
theorem tp_2 : (.selects RX4 yX4_fail yX4_fail : Cond) ∈ lw_gd := g_mem (List.mem_append_left _ (List.mem_of_getElem? (i := 2) (by decide +kernel))) rfl
theorem tw_534 : (.instanceMethod yX4_fail : Cond) ∈ lw_gd := g_mem (List.mem_append_right _ (g_k3 (List.mem_of_getElem? (i := 54) rfl))) rfl
theorem tw_531 : (.code yX4_failHere cX4_failHere 1 (some .boolean) : Cond) ∈ lw_gd := g_mem (List.mem_append_right _ (g_k3 (List.mem_of_getElem? (i := 51) rfl))) rfl
theorem tp_1 : (.selects RX4 yX4_failHere yX4_failHere : Cond) ∈ lw_gd := g_mem (List.mem_append_left _ (List.mem_of_getElem? (i := 1) (by decide +kernel))) rfl
theorem tw_530 : (.instanceMethod yX4_failHere : Cond) ∈ lw_gd := g_mem (List.mem_append_right _ (g_k3 (List.mem_of_getElem? (i := 50) rfl))) rfl
theorem tw_544 : (.code yX4_readWord cX4_readWord 2 (some .boolean) : Cond) ∈ lw_gd := g_mem (List.mem_append_right _ (g_k3 (List.mem_of_getElem? (i := 64) rfl))) rfl
theorem tp_4 : (.selects RX4 yX4_readWord yX4_readWord : Cond) ∈ lw_gd := g_mem (List.mem_append_left _ (List.mem_of_getElem? (i := 4) (by decide +kernel))) rfl
theorem tw_543 : (.instanceMethod yX4_readWord : Cond) ∈ lw_gd := g_mem (List.mem_append_right _ (g_k3 (List.mem_of_getElem? (i := 63) rfl))) rfl
theorem tw_601 : (.methodLink RX4 112 yX4_readSizes : Cond) ∈ lw_gd := g_mem (List.mem_append_right _ (g_k3 (List.mem_of_getElem? (i := 121) rfl))) rfl
theorem tw_605 : (.methodLink RX4 156 yX4_readBetween : Cond) ∈ lw_gd := g_mem (List.mem_append_right _ (g_k3 (List.mem_of_getElem? (i := 125) rfl))) rfl
theorem tw_609 : (.methodLink RX4 103 yX4_readNumber : Cond) ∈ lw_gd := g_mem (List.mem_append_right _ (g_k3 (List.mem_of_getElem? (i := 129) rfl))) rfl
theorem tw_172 : (.fieldLink RX4 32 "ManyOut$Reader" "numberAt" "I" : Cond) ∈ lw_gd := g_mem (List.mem_append_right _ (g_k1 (List.mem_of_getElem? (i := 172) rfl))) rfl
theorem tw_612 : (.code yX4_readNumber cX4_readNumber 3 (some .int) : Cond) ∈ lw_gd := g_mem (List.mem_append_right _ (g_k3 (List.mem_of_getElem? (i := 132) rfl))) rfl
theorem tp_9 : (.selects RX4 yX4_readNumber yX4_readNumber : Cond) ∈ lw_gd := g_mem (List.mem_append_left _ (List.mem_of_getElem? (i := 9) (by decide +kernel))) rfl
theorem tw_611 : (.instanceMethod yX4_readNumber : Cond) ∈ lw_gd := g_mem (List.mem_append_right _ (g_k3 (List.mem_of_getElem? (i := 131) rfl))) rfl
theorem tw_608 : (.code yX4_readBetween cX4_readBetween 4 (some .int) : Cond) ∈ lw_gd := g_mem (List.mem_append_right _ (g_k3 (List.mem_of_getElem? (i := 128) rfl))) rfl
theorem tp_8 : (.selects RX4 yX4_readBetween yX4_readBetween : Cond) ∈ lw_gd := g_mem (List.mem_append_left _ (List.mem_of_getElem? (i := 8) (by decide +kernel))) rfl
theorem tw_607 : (.instanceMethod yX4_readBetween : Cond) ∈ lw_gd := g_mem (List.mem_append_right _ (g_k3 (List.mem_of_getElem? (i := 127) rfl))) rfl
theorem tn_115 : (.fieldLinkNest RX4 160 "ManyOut$House" "letters" "I" "ManyOut" : Cond) ∈ lw_nw := g_nmem (g_k1 (List.mem_of_getElem? (i := 115) (by decide +kernel))) rfl
theorem tn_124 : (.fieldLinkNest RX4 163 "ManyOut$House" "senders" "I" "ManyOut" : Cond) ∈ lw_nw := g_nmem (g_k1 (List.mem_of_getElem? (i := 124) (by decide +kernel))) rfl
theorem tn_131 : (.fieldLinkNest RX4 120 "ManyOut$House" "receivers" "I" "ManyOut" : Cond) ∈ lw_nw := g_nmem (g_k1 (List.mem_of_getElem? (i := 131) (by decide +kernel))) rfl
theorem tw_604 : (.code yX4_readSizes cX4_readSizes 1 (some .boolean) : Cond) ∈ lw_gd := g_mem (List.mem_append_right _ (g_k3 (List.mem_of_getElem? (i := 124) rfl))) rfl
theorem tp_7 : (.selects RX4 yX4_readSizes yX4_readSizes : Cond) ∈ lw_gd := g_mem (List.mem_append_left _ (List.mem_of_getElem? (i := 7) (by decide +kernel))) rfl
theorem tw_603 : (.instanceMethod yX4_readSizes : Cond) ∈ lw_gd := g_mem (List.mem_append_right _ (g_k3 (List.mem_of_getElem? (i := 123) rfl))) rfl
theorem tw_539 : (.code yX4_readStatement cX4_readStatement 2 (some .boolean) : Cond) ∈ lw_gd := g_mem (List.mem_append_right _ (g_k3 (List.mem_of_getElem? (i := 59) rfl))) rfl
theorem tp_3 : (.selects RX4 yX4_readStatement yX4_readStatement : Cond) ∈ lw_gd := g_mem (List.mem_append_left _ (List.mem_of_getElem? (i := 3) (by decide +kernel))) rfl
theorem tw_538 : (.instanceMethod yX4_readStatement : Cond) ∈ lw_gd := g_mem (List.mem_append_right _ (g_k3 (List.mem_of_getElem? (i := 58) rfl))) rfl
theorem tw_672 : (.methodLink RX4 63 yX4_readSign : Cond) ∈ lw_gd := g_mem (List.mem_append_right _ (g_k3 (List.mem_of_getElem? (i := 192) rfl))) rfl
theorem tw_675 : (.code yX4_readSign cX4_readSign 2 (some .boolean) : Cond) ∈ lw_gd := g_mem (List.mem_append_right _ (g_k3 (List.mem_of_getElem? (i := 195) rfl))) rfl
theorem tp_20 : (.selects RX4 yX4_readSign yX4_readSign : Cond) ∈ lw_gd := g_mem (List.mem_append_left _ (List.mem_of_getElem? (i := 20) (by decide +kernel))) rfl
theorem tw_674 : (.instanceMethod yX4_readSign : Cond) ∈ lw_gd := g_mem (List.mem_append_right _ (g_k3 (List.mem_of_getElem? (i := 194) rfl))) rfl
theorem tn_144 : (.fieldLinkNest RX4 67 "ManyOut$House" "statements" "I" "ManyOut" : Cond) ∈ lw_nw := g_nmem (g_k1 (List.mem_of_getElem? (i := 144) (by decide +kernel))) rfl
theorem tw_726 : (.methodLink RX4 153 yX4_readLimit : Cond) ∈ lw_gd := g_mem (List.mem_append_right _ (g_k4 (List.mem_of_getElem? (i := 6) rfl))) rfl
theorem tn_142 : (.fieldLinkNest RX4 191 "ManyOut$House" "limit" "I" "ManyOut" : Cond) ∈ lw_nw := g_nmem (g_k1 (List.mem_of_getElem? (i := 142) (by decide +kernel))) rfl
theorem tw_729 : (.code yX4_readLimit cX4_readLimit 1 (some .boolean) : Cond) ∈ lw_gd := g_mem (List.mem_append_right _ (g_k4 (List.mem_of_getElem? (i := 9) rfl))) rfl
theorem tp_27 : (.selects RX4 yX4_readLimit yX4_readLimit : Cond) ∈ lw_gd := g_mem (List.mem_append_left _ (List.mem_of_getElem? (i := 27) (by decide +kernel))) rfl
theorem tw_728 : (.instanceMethod yX4_readLimit : Cond) ∈ lw_gd := g_mem (List.mem_append_right _ (g_k4 (List.mem_of_getElem? (i := 8) rfl))) rfl
theorem tn_107 : (.fieldLinkNest RX4 139 "ManyOut$House" "rules" "LManyOut$Rules;" "ManyOut" : Cond) ∈ lw_nw := g_nmem (g_k1 (List.mem_of_getElem? (i := 107) (by decide +kernel))) rfl
theorem tn_81 : (.fieldLinkNest RX4 143 "ManyOut$Rules" "count" "I" "ManyOut" : Cond) ∈ lw_nw := g_nmem (g_k1 (List.mem_of_getElem? (i := 81) (by decide +kernel))) rfl
theorem tw_614 : (.methodLink RX4 123 yX4_hasRoom : Cond) ∈ lw_gd := g_mem (List.mem_append_right _ (g_k3 (List.mem_of_getElem? (i := 134) rfl))) rfl
theorem tw_617 : (.code yX4_hasRoom cX4_hasRoom 3 (some .boolean) : Cond) ∈ lw_gd := g_mem (List.mem_append_right _ (g_k3 (List.mem_of_getElem? (i := 137) rfl))) rfl
theorem tp_10 : (.selects RX4 yX4_hasRoom yX4_hasRoom : Cond) ∈ lw_gd := g_mem (List.mem_append_left _ (List.mem_of_getElem? (i := 10) (by decide +kernel))) rfl
theorem tw_616 : (.instanceMethod yX4_hasRoom : Cond) ∈ lw_gd := g_mem (List.mem_append_right _ (g_k3 (List.mem_of_getElem? (i := 136) rfl))) rfl
theorem tw_648 : (.methodLink RX4 148 yX4_readRule : Cond) ∈ lw_gd := g_mem (List.mem_append_right _ (g_k3 (List.mem_of_getElem? (i := 168) rfl))) rfl
theorem tw_652 : (.methodLink RX4 193 yX5_beginRule : Cond) ∈ lw_gd := g_mem (List.mem_append_right _ (g_k3 (List.mem_of_getElem? (i := 172) rfl))) rfl
theorem tw_655 : (.code yX5_beginRule cX5_beginRule 1 none : Cond) ∈ lw_gd := g_mem (List.mem_append_right _ (g_k3 (List.mem_of_getElem? (i := 175) rfl))) rfl
theorem tw_654 : (.selects RX5 yX5_beginRule yX5_beginRule : Cond) ∈ lw_gd := g_mem (List.mem_append_right _ (g_k3 (List.mem_of_getElem? (i := 174) rfl))) rfl
theorem tw_653 : (.instanceMethod yX5_beginRule : Cond) ∈ lw_gd := g_mem (List.mem_append_right _ (g_k3 (List.mem_of_getElem? (i := 173) rfl))) rfl
theorem tw_656 : (.methodLink RX4 196 yX4_readSum : Cond) ∈ lw_gd := g_mem (List.mem_append_right _ (g_k3 (List.mem_of_getElem? (i := 176) rfl))) rfl
theorem tw_660 : (.methodLink RX4 240 yX4_readProduct : Cond) ∈ lw_gd := g_mem (List.mem_append_right _ (g_k3 (List.mem_of_getElem? (i := 180) rfl))) rfl
theorem tw_664 : (.methodLink RX4 243 yX4_readPart : Cond) ∈ lw_gd := g_mem (List.mem_append_right _ (g_k3 (List.mem_of_getElem? (i := 184) rfl))) rfl
theorem tw_681 : (.methodLink RX4 219 yX4_adds : Cond) ∈ lw_gd := g_mem (List.mem_append_right _ (g_k3 (List.mem_of_getElem? (i := 201) rfl))) rfl
theorem tw_685 : (.methodLink RX4 210 yX5_add : Cond) ∈ lw_gd := g_mem (List.mem_append_right _ (g_k3 (List.mem_of_getElem? (i := 205) rfl))) rfl
theorem tw_688 : (.code yX5_add cX5_add 2 none : Cond) ∈ lw_gd := g_mem (List.mem_append_right _ (g_k3 (List.mem_of_getElem? (i := 208) rfl))) rfl
theorem tw_687 : (.selects RX5 yX5_add yX5_add : Cond) ∈ lw_gd := g_mem (List.mem_append_right _ (g_k3 (List.mem_of_getElem? (i := 207) rfl))) rfl
theorem tw_686 : (.instanceMethod yX5_add : Cond) ∈ lw_gd := g_mem (List.mem_append_right _ (g_k3 (List.mem_of_getElem? (i := 206) rfl))) rfl
theorem tw_684 : (.code yX4_adds cX4_adds 2 (some .boolean) : Cond) ∈ lw_gd := g_mem (List.mem_append_right _ (g_k3 (List.mem_of_getElem? (i := 204) rfl))) rfl
theorem tp_22 : (.selects RX4 yX4_adds yX4_adds : Cond) ∈ lw_gd := g_mem (List.mem_append_left _ (List.mem_of_getElem? (i := 22) (by decide +kernel))) rfl
theorem tw_683 : (.instanceMethod yX4_adds : Cond) ∈ lw_gd := g_mem (List.mem_append_right _ (g_k3 (List.mem_of_getElem? (i := 203) rfl))) rfl
theorem tw_692 : (.methodLink RX4 254 yX4_readPair : Cond) ∈ lw_gd := g_mem (List.mem_append_right _ (g_k3 (List.mem_of_getElem? (i := 212) rfl))) rfl
theorem tw_668 : (.methodLink RX4 229 yX4_opens : Cond) ∈ lw_gd := g_mem (List.mem_append_right _ (g_k3 (List.mem_of_getElem? (i := 188) rfl))) rfl
theorem tw_671 : (.code yX4_opens cX4_opens 1 (some .boolean) : Cond) ∈ lw_gd := g_mem (List.mem_append_right _ (g_k3 (List.mem_of_getElem? (i := 191) rfl))) rfl
theorem tp_19 : (.selects RX4 yX4_opens yX4_opens : Cond) ∈ lw_gd := g_mem (List.mem_append_left _ (List.mem_of_getElem? (i := 19) (by decide +kernel))) rfl
theorem tw_670 : (.instanceMethod yX4_opens : Cond) ∈ lw_gd := g_mem (List.mem_append_right _ (g_k3 (List.mem_of_getElem? (i := 190) rfl))) rfl
theorem tw_695 : (.code yX4_readPair cX4_readPair 1 (some .boolean) : Cond) ∈ lw_gd := g_mem (List.mem_append_right _ (g_k3 (List.mem_of_getElem? (i := 215) rfl))) rfl
theorem tp_23 : (.selects RX4 yX4_readPair yX4_readPair : Cond) ∈ lw_gd := g_mem (List.mem_append_left _ (List.mem_of_getElem? (i := 23) (by decide +kernel))) rfl
theorem tw_694 : (.instanceMethod yX4_readPair : Cond) ∈ lw_gd := g_mem (List.mem_append_right _ (g_k3 (List.mem_of_getElem? (i := 214) rfl))) rfl
theorem tw_667 : (.code yX4_readPart cX4_readPart 2 (some .boolean) : Cond) ∈ lw_gd := g_mem (List.mem_append_right _ (g_k3 (List.mem_of_getElem? (i := 187) rfl))) rfl
theorem tp_18 : (.selects RX4 yX4_readPart yX4_readPart : Cond) ∈ lw_gd := g_mem (List.mem_append_left _ (List.mem_of_getElem? (i := 18) (by decide +kernel))) rfl
theorem tw_666 : (.instanceMethod yX4_readPart : Cond) ∈ lw_gd := g_mem (List.mem_append_right _ (g_k3 (List.mem_of_getElem? (i := 186) rfl))) rfl
theorem tw_626 : (.methodLink RX4 100 yX4_takesSign : Cond) ∈ lw_gd := g_mem (List.mem_append_right _ (g_k3 (List.mem_of_getElem? (i := 146) rfl))) rfl
theorem tw_629 : (.code yX4_takesSign cX4_takesSign 3 (some .boolean) : Cond) ∈ lw_gd := g_mem (List.mem_append_right _ (g_k3 (List.mem_of_getElem? (i := 149) rfl))) rfl
theorem tp_13 : (.selects RX4 yX4_takesSign yX4_takesSign : Cond) ∈ lw_gd := g_mem (List.mem_append_left _ (List.mem_of_getElem? (i := 13) (by decide +kernel))) rfl
theorem tw_628 : (.instanceMethod yX4_takesSign : Cond) ∈ lw_gd := g_mem (List.mem_append_right _ (g_k3 (List.mem_of_getElem? (i := 148) rfl))) rfl
theorem tw_663 : (.code yX4_readProduct cX4_readProduct 3 (some .boolean) : Cond) ∈ lw_gd := g_mem (List.mem_append_right _ (g_k3 (List.mem_of_getElem? (i := 183) rfl))) rfl
theorem tp_17 : (.selects RX4 yX4_readProduct yX4_readProduct : Cond) ∈ lw_gd := g_mem (List.mem_append_left _ (List.mem_of_getElem? (i := 17) (by decide +kernel))) rfl
theorem tw_662 : (.instanceMethod yX4_readProduct : Cond) ∈ lw_gd := g_mem (List.mem_append_right _ (g_k3 (List.mem_of_getElem? (i := 182) rfl))) rfl
theorem tw_659 : (.code yX4_readSum cX4_readSum 3 (some .boolean) : Cond) ∈ lw_gd := g_mem (List.mem_append_right _ (g_k3 (List.mem_of_getElem? (i := 179) rfl))) rfl
theorem tp_16 : (.selects RX4 yX4_readSum yX4_readSum : Cond) ∈ lw_gd := g_mem (List.mem_append_left _ (List.mem_of_getElem? (i := 16) (by decide +kernel))) rfl
theorem tw_658 : (.instanceMethod yX4_readSum : Cond) ∈ lw_gd := g_mem (List.mem_append_right _ (g_k3 (List.mem_of_getElem? (i := 178) rfl))) rfl
theorem tw_676 : (.methodLink RX4 232 yX4_closes : Cond) ∈ lw_gd := g_mem (List.mem_append_right _ (g_k3 (List.mem_of_getElem? (i := 196) rfl))) rfl
theorem tw_679 : (.code yX4_closes cX4_closes 1 (some .boolean) : Cond) ∈ lw_gd := g_mem (List.mem_append_right _ (g_k3 (List.mem_of_getElem? (i := 199) rfl))) rfl
theorem tp_21 : (.selects RX4 yX4_closes yX4_closes : Cond) ∈ lw_gd := g_mem (List.mem_append_left _ (List.mem_of_getElem? (i := 21) (by decide +kernel))) rfl
theorem tw_678 : (.instanceMethod yX4_closes : Cond) ∈ lw_gd := g_mem (List.mem_append_right _ (g_k3 (List.mem_of_getElem? (i := 198) rfl))) rfl
theorem tw_698 : (.methodLink RX4 201 yX5_beginTest : Cond) ∈ lw_gd := g_mem (List.mem_append_right _ (g_k3 (List.mem_of_getElem? (i := 218) rfl))) rfl
theorem tw_701 : (.code yX5_beginTest cX5_beginTest 1 none : Cond) ∈ lw_gd := g_mem (List.mem_append_right _ (g_k3 (List.mem_of_getElem? (i := 221) rfl))) rfl
theorem tw_700 : (.selects RX5 yX5_beginTest yX5_beginTest : Cond) ∈ lw_gd := g_mem (List.mem_append_right _ (g_k3 (List.mem_of_getElem? (i := 220) rfl))) rfl
theorem tw_699 : (.instanceMethod yX5_beginTest : Cond) ∈ lw_gd := g_mem (List.mem_append_right _ (g_k3 (List.mem_of_getElem? (i := 219) rfl))) rfl
theorem tw_702 : (.methodLink RX4 204 yX4_readTest : Cond) ∈ lw_gd := g_mem (List.mem_append_right _ (g_k3 (List.mem_of_getElem? (i := 222) rfl))) rfl
theorem tw_706 : (.methodLink RX4 214 yX4_readBoth : Cond) ∈ lw_gd := g_mem (List.mem_append_right _ (g_k3 (List.mem_of_getElem? (i := 226) rfl))) rfl
theorem tw_710 : (.methodLink RX4 222 yX4_readFact : Cond) ∈ lw_gd := g_mem (List.mem_append_right _ (g_k3 (List.mem_of_getElem? (i := 230) rfl))) rfl
theorem tw_716 : (.methodLink RX4 237 yX4_comparisonBy : Cond) ∈ lw_gd := g_mem (List.mem_append_right _ (g_k3 (List.mem_of_getElem? (i := 236) rfl))) rfl
theorem tw_718 : (.code yX4_comparisonBy cX4_comparisonBy 1 (some .int) : Cond) ∈ lw_gd := g_mem (List.mem_append_right _ (g_k3 (List.mem_of_getElem? (i := 238) rfl))) rfl
theorem tw_717 : (.static yX4_comparisonBy : Cond) ∈ lw_gd := g_mem (List.mem_append_right _ (g_k3 (List.mem_of_getElem? (i := 237) rfl))) rfl
theorem tw_713 : (.code yX4_readFact cX4_readFact 2 (some .boolean) : Cond) ∈ lw_gd := g_mem (List.mem_append_right _ (g_k3 (List.mem_of_getElem? (i := 233) rfl))) rfl
theorem tp_26 : (.selects RX4 yX4_readFact yX4_readFact : Cond) ∈ lw_gd := g_mem (List.mem_append_left _ (List.mem_of_getElem? (i := 26) (by decide +kernel))) rfl
theorem tw_712 : (.instanceMethod yX4_readFact : Cond) ∈ lw_gd := g_mem (List.mem_append_right _ (g_k3 (List.mem_of_getElem? (i := 232) rfl))) rfl
theorem tw_709 : (.code yX4_readBoth cX4_readBoth 3 (some .boolean) : Cond) ∈ lw_gd := g_mem (List.mem_append_right _ (g_k3 (List.mem_of_getElem? (i := 229) rfl))) rfl
theorem tp_25 : (.selects RX4 yX4_readBoth yX4_readBoth : Cond) ∈ lw_gd := g_mem (List.mem_append_left _ (List.mem_of_getElem? (i := 25) (by decide +kernel))) rfl
theorem tw_708 : (.instanceMethod yX4_readBoth : Cond) ∈ lw_gd := g_mem (List.mem_append_right _ (g_k3 (List.mem_of_getElem? (i := 228) rfl))) rfl
theorem tw_705 : (.code yX4_readTest cX4_readTest 3 (some .boolean) : Cond) ∈ lw_gd := g_mem (List.mem_append_right _ (g_k3 (List.mem_of_getElem? (i := 225) rfl))) rfl
theorem tp_24 : (.selects RX4 yX4_readTest yX4_readTest : Cond) ∈ lw_gd := g_mem (List.mem_append_left _ (List.mem_of_getElem? (i := 24) (by decide +kernel))) rfl
theorem tw_704 : (.instanceMethod yX4_readTest : Cond) ∈ lw_gd := g_mem (List.mem_append_right _ (g_k3 (List.mem_of_getElem? (i := 224) rfl))) rfl
theorem tw_721 : (.methodLink RX4 207 yX5_endRule : Cond) ∈ lw_gd := g_mem (List.mem_append_right _ (g_k4 (List.mem_of_getElem? (i := 1) rfl))) rfl
theorem tw_724 : (.code yX5_endRule cX5_endRule 1 none : Cond) ∈ lw_gd := g_mem (List.mem_append_right _ (g_k4 (List.mem_of_getElem? (i := 4) rfl))) rfl
theorem tw_723 : (.selects RX5 yX5_endRule yX5_endRule : Cond) ∈ lw_gd := g_mem (List.mem_append_right _ (g_k4 (List.mem_of_getElem? (i := 3) rfl))) rfl
theorem tw_722 : (.instanceMethod yX5_endRule : Cond) ∈ lw_gd := g_mem (List.mem_append_right _ (g_k4 (List.mem_of_getElem? (i := 2) rfl))) rfl
theorem tw_651 : (.code yX4_readRule cX4_readRule 1 (some .boolean) : Cond) ∈ lw_gd := g_mem (List.mem_append_right _ (g_k3 (List.mem_of_getElem? (i := 171) rfl))) rfl
theorem tp_15 : (.selects RX4 yX4_readRule yX4_readRule : Cond) ∈ lw_gd := g_mem (List.mem_append_left _ (List.mem_of_getElem? (i := 15) (by decide +kernel))) rfl
theorem tw_650 : (.instanceMethod yX4_readRule : Cond) ∈ lw_gd := g_mem (List.mem_append_right _ (g_k3 (List.mem_of_getElem? (i := 170) rfl))) rfl
theorem tn_138 : (.fieldLinkNest RX4 131 "ManyOut$House" "wordsTold" "I" "ManyOut" : Cond) ∈ lw_nw := g_nmem (g_k1 (List.mem_of_getElem? (i := 138) (by decide +kernel))) rfl
theorem tw_639 : (.methodLink RX4 134 yX4_readLetters : Cond) ∈ lw_gd := g_mem (List.mem_append_right _ (g_k3 (List.mem_of_getElem? (i := 159) rfl))) rfl
theorem tw_622 : (.methodLink RX4 166 yX4_readSigned : Cond) ∈ lw_gd := g_mem (List.mem_append_right _ (g_k3 (List.mem_of_getElem? (i := 142) rfl))) rfl
theorem tw_630 : (.constant RX4 106 (-1000000000) : Cond) ∈ lw_gd := g_mem (List.mem_append_right _ (g_k3 (List.mem_of_getElem? (i := 150) rfl))) rfl
theorem tw_625 : (.code yX4_readSigned cX4_readSigned 4 (some .int) : Cond) ∈ lw_gd := g_mem (List.mem_append_right _ (g_k3 (List.mem_of_getElem? (i := 145) rfl))) rfl
theorem tp_12 : (.selects RX4 yX4_readSigned yX4_readSigned : Cond) ∈ lw_gd := g_mem (List.mem_append_left _ (List.mem_of_getElem? (i := 12) (by decide +kernel))) rfl
theorem tw_624 : (.instanceMethod yX4_readSigned : Cond) ∈ lw_gd := g_mem (List.mem_append_right _ (g_k3 (List.mem_of_getElem? (i := 144) rfl))) rfl
theorem tw_643 : (.methodLink RX4 184 yX1_isLetter : Cond) ∈ lw_gd := g_mem (List.mem_append_right _ (g_k3 (List.mem_of_getElem? (i := 163) rfl))) rfl
theorem tn_109 : (.fieldLinkNest RX4 187 "ManyOut$House" "words" "[I" "ManyOut" : Cond) ∈ lw_nw := g_nmem (g_k1 (List.mem_of_getElem? (i := 109) (by decide +kernel))) rfl
theorem tw_642 : (.code yX4_readLetters cX4_readLetters 3 (some .boolean) : Cond) ∈ lw_gd := g_mem (List.mem_append_right _ (g_k3 (List.mem_of_getElem? (i := 162) rfl))) rfl
theorem tp_14 : (.selects RX4 yX4_readLetters yX4_readLetters : Cond) ∈ lw_gd := g_mem (List.mem_append_left _ (List.mem_of_getElem? (i := 14) (by decide +kernel))) rfl
theorem tw_641 : (.instanceMethod yX4_readLetters : Cond) ∈ lw_gd := g_mem (List.mem_append_right _ (g_k3 (List.mem_of_getElem? (i := 161) rfl))) rfl
theorem tn_134 : (.fieldLinkNest RX4 117 "ManyOut$House" "rowsTold" "I" "ManyOut" : Cond) ∈ lw_nw := g_nmem (g_k1 (List.mem_of_getElem? (i := 134) (by decide +kernel))) rfl
theorem tw_618 : (.methodLink RX4 126 yX4_readRow : Cond) ∈ lw_gd := g_mem (List.mem_append_right _ (g_k3 (List.mem_of_getElem? (i := 138) rfl))) rfl
theorem tw_631 : (.methodLink RX4 169 Lib.Math.abs.name : Cond) ∈ lw_gd := g_mem (List.mem_append_right _ (g_k3 (List.mem_of_getElem? (i := 151) rfl))) rfl
theorem tn_104 : (.fieldLinkNest RX4 174 "ManyOut$House" "table" "LManyOut$Table;" "ManyOut" : Cond) ∈ lw_nw := g_nmem (g_k1 (List.mem_of_getElem? (i := 104) (by decide +kernel))) rfl
theorem tw_634 : (.methodLink RX4 178 yX8_setAt : Cond) ∈ lw_gd := g_mem (List.mem_append_right _ (g_k3 (List.mem_of_getElem? (i := 154) rfl))) rfl
theorem tw_621 : (.code yX4_readRow cX4_readRow 3 (some .boolean) : Cond) ∈ lw_gd := g_mem (List.mem_append_right _ (g_k3 (List.mem_of_getElem? (i := 141) rfl))) rfl
theorem tp_11 : (.selects RX4 yX4_readRow yX4_readRow : Cond) ∈ lw_gd := g_mem (List.mem_append_left _ (List.mem_of_getElem? (i := 11) (by decide +kernel))) rfl
theorem tw_620 : (.instanceMethod yX4_readRow : Cond) ∈ lw_gd := g_mem (List.mem_append_right _ (g_k3 (List.mem_of_getElem? (i := 140) rfl))) rfl
theorem tw_494 : (.code yX4_readHouse cX4_readHouse 2 (some .boolean) : Cond) ∈ lw_gd := g_mem (List.mem_append_right _ (g_k3 (List.mem_of_getElem? (i := 14) rfl))) rfl
theorem tw_493 : (.selects RX4 yX4_readHouse yX4_readHouse : Cond) ∈ lw_gd := g_mem (List.mem_append_right _ (g_k3 (List.mem_of_getElem? (i := 13) rfl))) rfl
theorem tw_492 : (.instanceMethod yX4_readHouse : Cond) ∈ lw_gd := g_mem (List.mem_append_right _ (g_k3 (List.mem_of_getElem? (i := 12) rfl))) rfl
theorem tw_730 : (.methodLink RX11 104 yX4_exchange : Cond) ∈ lw_gd := g_mem (List.mem_append_right _ (g_k4 (List.mem_of_getElem? (i := 10) rfl))) rfl
theorem tw_733 : (.code yX4_exchange cX4_exchange 3 (some (.object "ManyOut$House")) : Cond) ∈ lw_gd := g_mem (List.mem_append_right _ (g_k4 (List.mem_of_getElem? (i := 13) rfl))) rfl
theorem tw_732 : (.selects RX4 yX4_exchange yX4_exchange : Cond) ∈ lw_gd := g_mem (List.mem_append_right _ (g_k4 (List.mem_of_getElem? (i := 12) rfl))) rfl
theorem tw_731 : (.instanceMethod yX4_exchange : Cond) ∈ lw_gd := g_mem (List.mem_append_right _ (g_k4 (List.mem_of_getElem? (i := 11) rfl))) rfl
theorem tw_734 : (.methodLink RX11 108 yJ7_fill_53178 : Cond) ∈ lw_gd := g_mem (List.mem_append_right _ (g_k4 (List.mem_of_getElem? (i := 14) rfl))) rfl
theorem tw_735 : (.methodLink RX11 114 yX2_start : Cond) ∈ lw_gd := g_mem (List.mem_append_right _ (g_k4 (List.mem_of_getElem? (i := 15) rfl))) rfl
theorem tw_391 : (.fieldLink RX2 12 "ManyOut$Led" "table" "LManyOut$Table;" : Cond) ∈ lw_gd := g_mem (List.mem_append_right _ (g_k2 (List.mem_of_getElem? (i := 151) rfl))) rfl
theorem tn_98 : (.fieldLinkNest RX2 42 "ManyOut$House" "table" "LManyOut$Table;" "ManyOut" : Cond) ∈ lw_nw := g_nmem (g_k1 (List.mem_of_getElem? (i := 98) (by decide +kernel))) rfl
theorem tw_739 : (.methodLink RX2 45 yX8_copyFrom : Cond) ∈ lw_gd := g_mem (List.mem_append_right _ (g_k4 (List.mem_of_getElem? (i := 19) rfl))) rfl
theorem tw_742 : (.code yX8_copyFrom cX8_copyFrom 2 none : Cond) ∈ lw_gd := g_mem (List.mem_append_right _ (g_k4 (List.mem_of_getElem? (i := 22) rfl))) rfl
theorem tw_741 : (.selects RX8 yX8_copyFrom yX8_copyFrom : Cond) ∈ lw_gd := g_mem (List.mem_append_right _ (g_k4 (List.mem_of_getElem? (i := 21) rfl))) rfl
theorem tw_740 : (.instanceMethod yX8_copyFrom : Cond) ∈ lw_gd := g_mem (List.mem_append_right _ (g_k4 (List.mem_of_getElem? (i := 20) rfl))) rfl
theorem tn_118 : (.fieldLinkNest RX2 49 "ManyOut$House" "senders" "I" "ManyOut" : Cond) ∈ lw_nw := g_nmem (g_k1 (List.mem_of_getElem? (i := 118) (by decide +kernel))) rfl
theorem tw_395 : (.fieldLink RX2 26 "ManyOut$Led" "senders" "I" : Cond) ∈ lw_gd := g_mem (List.mem_append_right _ (g_k2 (List.mem_of_getElem? (i := 155) rfl))) rfl
theorem tw_746 : (.methodLink RX2 50 yJ7_fill_d0a16 : Cond) ∈ lw_gd := g_mem (List.mem_append_right _ (g_k4 (List.mem_of_getElem? (i := 26) rfl))) rfl
theorem tw_397 : (.fieldLink RX2 33 "ManyOut$Led" "undoable" "I" : Cond) ∈ lw_gd := g_mem (List.mem_append_right _ (g_k2 (List.mem_of_getElem? (i := 157) rfl))) rfl
theorem tw_399 : (.fieldLink RX2 36 "ManyOut$Led" "redoable" "I" : Cond) ∈ lw_gd := g_mem (List.mem_append_right _ (g_k2 (List.mem_of_getElem? (i := 159) rfl))) rfl
theorem tw_401 : (.fieldLink RX2 39 "ManyOut$Led" "done" "I" : Cond) ∈ lw_gd := g_mem (List.mem_append_right _ (g_k2 (List.mem_of_getElem? (i := 161) rfl))) rfl
theorem tw_738 : (.code yX2_start cX2_start 3 none : Cond) ∈ lw_gd := g_mem (List.mem_append_right _ (g_k4 (List.mem_of_getElem? (i := 18) rfl))) rfl
theorem tw_737 : (.selects RX2 yX2_start yX2_start : Cond) ∈ lw_gd := g_mem (List.mem_append_right _ (g_k4 (List.mem_of_getElem? (i := 17) rfl))) rfl
theorem tw_736 : (.instanceMethod yX2_start : Cond) ∈ lw_gd := g_mem (List.mem_append_right _ (g_k4 (List.mem_of_getElem? (i := 16) rfl))) rfl
theorem tw_751 : (.methodLink RX11 121 yX6_forget : Cond) ∈ lw_gd := g_mem (List.mem_append_right _ (g_k4 (List.mem_of_getElem? (i := 31) rfl))) rfl
theorem tw_754 : (.code yX6_forget cX6_forget 1 none : Cond) ∈ lw_gd := g_mem (List.mem_append_right _ (g_k4 (List.mem_of_getElem? (i := 34) rfl))) rfl
theorem tw_753 : (.selects RX6 yX6_forget yX6_forget : Cond) ∈ lw_gd := g_mem (List.mem_append_right _ (g_k4 (List.mem_of_getElem? (i := 33) rfl))) rfl
theorem tw_752 : (.instanceMethod yX6_forget : Cond) ∈ lw_gd := g_mem (List.mem_append_right _ (g_k4 (List.mem_of_getElem? (i := 32) rfl))) rfl
theorem tw_755 : (.methodLink RX11 122 yX0_forget : Cond) ∈ lw_gd := g_mem (List.mem_append_right _ (g_k4 (List.mem_of_getElem? (i := 35) rfl))) rfl
theorem tw_758 : (.code yX0_forget cX0_forget 1 none : Cond) ∈ lw_gd := g_mem (List.mem_append_right _ (g_k4 (List.mem_of_getElem? (i := 38) rfl))) rfl
theorem tw_757 : (.selects RX0 yX0_forget yX0_forget : Cond) ∈ lw_gd := g_mem (List.mem_append_right _ (g_k4 (List.mem_of_getElem? (i := 37) rfl))) rfl
theorem tw_756 : (.instanceMethod yX0_forget : Cond) ∈ lw_gd := g_mem (List.mem_append_right _ (g_k4 (List.mem_of_getElem? (i := 36) rfl))) rfl
theorem tw_759 : (.methodLink RX11 123 yX3_forget : Cond) ∈ lw_gd := g_mem (List.mem_append_right _ (g_k4 (List.mem_of_getElem? (i := 39) rfl))) rfl
theorem tw_762 : (.code yX3_forget cX3_forget 1 none : Cond) ∈ lw_gd := g_mem (List.mem_append_right _ (g_k4 (List.mem_of_getElem? (i := 42) rfl))) rfl
theorem tw_761 : (.selects RX3 yX3_forget yX3_forget : Cond) ∈ lw_gd := g_mem (List.mem_append_right _ (g_k4 (List.mem_of_getElem? (i := 41) rfl))) rfl
theorem tw_760 : (.instanceMethod yX3_forget : Cond) ∈ lw_gd := g_mem (List.mem_append_right _ (g_k4 (List.mem_of_getElem? (i := 40) rfl))) rfl
theorem tn_145 : (.fieldLinkNest RX11 124 "ManyOut$House" "statements" "I" "ManyOut" : Cond) ∈ lw_nw := g_nmem (g_k1 (List.mem_of_getElem? (i := 145) (by decide +kernel))) rfl
theorem tw_1702 : (.code yX12_onePart cX12_onePart 5 none : Cond) ∈ lw_gd := g_mem (List.mem_append_right _ (g_k8 (List.mem_of_getElem? (i := 22) rfl))) rfl
theorem tp_73 : (.selects RX12 yX12_onePart yX12_onePart : Cond) ∈ lw_gd := g_mem (List.mem_append_left _ (List.mem_of_getElem? (i := 73) (by decide +kernel))) rfl
theorem tw_1701 : (.instanceMethod yX12_onePart : Cond) ∈ lw_gd := g_mem (List.mem_append_right _ (g_k8 (List.mem_of_getElem? (i := 21) rfl))) rfl
theorem tw_1711 : (.methodLink RX12 289 yX12_goesOn : Cond) ∈ lw_gd := g_mem (List.mem_append_right _ (g_k8 (List.mem_of_getElem? (i := 31) rfl))) rfl
theorem tw_1715 : (.methodLink RX12 277 yX12_mark : Cond) ∈ lw_gd := g_mem (List.mem_append_right _ (g_k8 (List.mem_of_getElem? (i := 35) rfl))) rfl
theorem tw_1718 : (.code yX12_mark cX12_mark 2 (some .int) : Cond) ∈ lw_gd := g_mem (List.mem_append_right _ (g_k8 (List.mem_of_getElem? (i := 38) rfl))) rfl
theorem tp_77 : (.selects RX12 yX12_mark yX12_mark : Cond) ∈ lw_gd := g_mem (List.mem_append_left _ (List.mem_of_getElem? (i := 77) (by decide +kernel))) rfl
theorem tw_1717 : (.instanceMethod yX12_mark : Cond) ∈ lw_gd := g_mem (List.mem_append_right _ (g_k8 (List.mem_of_getElem? (i := 37) rfl))) rfl
theorem tw_1723 : (.methodLink RX12 280 yX12_dropsToMark : Cond) ∈ lw_gd := g_mem (List.mem_append_right _ (g_k8 (List.mem_of_getElem? (i := 43) rfl))) rfl
theorem tw_1726 : (.code yX12_dropsToMark cX12_dropsToMark 1 none : Cond) ∈ lw_gd := g_mem (List.mem_append_right _ (g_k8 (List.mem_of_getElem? (i := 46) rfl))) rfl
theorem tp_79 : (.selects RX12 yX12_dropsToMark yX12_dropsToMark : Cond) ∈ lw_gd := g_mem (List.mem_append_left _ (List.mem_of_getElem? (i := 79) (by decide +kernel))) rfl
theorem tw_1725 : (.instanceMethod yX12_dropsToMark : Cond) ∈ lw_gd := g_mem (List.mem_append_right _ (g_k8 (List.mem_of_getElem? (i := 45) rfl))) rfl
theorem tw_1714 : (.code yX12_goesOn cX12_goesOn 2 (some .boolean) : Cond) ∈ lw_gd := g_mem (List.mem_append_right _ (g_k8 (List.mem_of_getElem? (i := 34) rfl))) rfl
theorem tp_76 : (.selects RX12 yX12_goesOn yX12_goesOn : Cond) ∈ lw_gd := g_mem (List.mem_append_left _ (List.mem_of_getElem? (i := 76) (by decide +kernel))) rfl
theorem tw_1713 : (.instanceMethod yX12_goesOn : Cond) ∈ lw_gd := g_mem (List.mem_append_right _ (g_k8 (List.mem_of_getElem? (i := 33) rfl))) rfl
theorem tw_1698 : (.code yX12_sumsTold cX12_sumsTold 3 none : Cond) ∈ lw_gd := g_mem (List.mem_append_right _ (g_k8 (List.mem_of_getElem? (i := 18) rfl))) rfl
theorem tp_72 : (.selects RX12 yX12_sumsTold yX12_sumsTold : Cond) ∈ lw_gd := g_mem (List.mem_append_left _ (List.mem_of_getElem? (i := 72) (by decide +kernel))) rfl
theorem tw_1697 : (.instanceMethod yX12_sumsTold : Cond) ∈ lw_gd := g_mem (List.mem_append_right _ (g_k8 (List.mem_of_getElem? (i := 17) rfl))) rfl
theorem tw_1415 : (.fieldLink RX12 33 "ManyOutModel" "whenWord" "[C" : Cond) ∈ lw_gd := g_mem (List.mem_append_right _ (g_k6 (List.mem_of_getElem? (i := 215) rfl))) rfl
theorem tw_1735 : (.methodLink RX12 308 yX12_test : Cond) ∈ lw_gd := g_mem (List.mem_append_right _ (g_k8 (List.mem_of_getElem? (i := 55) rfl))) rfl
theorem tw_1418 : (.fieldLink RX12 42 "ManyOutModel" "notWord" "[C" : Cond) ∈ lw_gd := g_mem (List.mem_append_right _ (g_k6 (List.mem_of_getElem? (i := 218) rfl))) rfl
theorem tw_1739 : (.methodLink RX12 296 yX12_fact : Cond) ∈ lw_gd := g_mem (List.mem_append_right _ (g_k8 (List.mem_of_getElem? (i := 59) rfl))) rfl
theorem tw_1742 : (.code yX12_fact cX12_fact 2 none : Cond) ∈ lw_gd := g_mem (List.mem_append_right _ (g_k8 (List.mem_of_getElem? (i := 62) rfl))) rfl
theorem tp_83 : (.selects RX12 yX12_fact yX12_fact : Cond) ∈ lw_gd := g_mem (List.mem_append_left _ (List.mem_of_getElem? (i := 83) (by decide +kernel))) rfl
theorem tw_1741 : (.instanceMethod yX12_fact : Cond) ∈ lw_gd := g_mem (List.mem_append_right _ (g_k8 (List.mem_of_getElem? (i := 61) rfl))) rfl
theorem tw_1743 : (.methodLink RX12 299 yX12_dropsNots : Cond) ∈ lw_gd := g_mem (List.mem_append_right _ (g_k8 (List.mem_of_getElem? (i := 63) rfl))) rfl
theorem tw_1746 : (.code yX12_dropsNots cX12_dropsNots 1 none : Cond) ∈ lw_gd := g_mem (List.mem_append_right _ (g_k8 (List.mem_of_getElem? (i := 66) rfl))) rfl
theorem tp_84 : (.selects RX12 yX12_dropsNots yX12_dropsNots : Cond) ∈ lw_gd := g_mem (List.mem_append_left _ (List.mem_of_getElem? (i := 84) (by decide +kernel))) rfl
theorem tw_1745 : (.instanceMethod yX12_dropsNots : Cond) ∈ lw_gd := g_mem (List.mem_append_right _ (g_k8 (List.mem_of_getElem? (i := 65) rfl))) rfl
theorem tw_1747 : (.methodLink RX12 302 yX12_goesOnTest : Cond) ∈ lw_gd := g_mem (List.mem_append_right _ (g_k8 (List.mem_of_getElem? (i := 67) rfl))) rfl
theorem tw_1750 : (.code yX12_goesOnTest cX12_goesOnTest 1 (some .boolean) : Cond) ∈ lw_gd := g_mem (List.mem_append_right _ (g_k8 (List.mem_of_getElem? (i := 70) rfl))) rfl
theorem tp_85 : (.selects RX12 yX12_goesOnTest yX12_goesOnTest : Cond) ∈ lw_gd := g_mem (List.mem_append_left _ (List.mem_of_getElem? (i := 85) (by decide +kernel))) rfl
theorem tw_1749 : (.instanceMethod yX12_goesOnTest : Cond) ∈ lw_gd := g_mem (List.mem_append_right _ (g_k8 (List.mem_of_getElem? (i := 69) rfl))) rfl
theorem tw_1738 : (.code yX12_test cX12_test 3 none : Cond) ∈ lw_gd := g_mem (List.mem_append_right _ (g_k8 (List.mem_of_getElem? (i := 58) rfl))) rfl
theorem tp_82 : (.selects RX12 yX12_test yX12_test : Cond) ∈ lw_gd := g_mem (List.mem_append_left _ (List.mem_of_getElem? (i := 82) (by decide +kernel))) rfl
theorem tw_1737 : (.instanceMethod yX12_test : Cond) ∈ lw_gd := g_mem (List.mem_append_right _ (g_k8 (List.mem_of_getElem? (i := 57) rfl))) rfl
theorem tw_1694 : (.code yX12_worthTold cX12_worthTold 3 none : Cond) ∈ lw_gd := g_mem (List.mem_append_right _ (g_k8 (List.mem_of_getElem? (i := 14) rfl))) rfl
theorem tp_71 : (.selects RX12 yX12_worthTold yX12_worthTold : Cond) ∈ lw_gd := g_mem (List.mem_append_left _ (List.mem_of_getElem? (i := 71) (by decide +kernel))) rfl
theorem tw_1693 : (.instanceMethod yX12_worthTold : Cond) ∈ lw_gd := g_mem (List.mem_append_right _ (g_k8 (List.mem_of_getElem? (i := 13) rfl))) rfl
theorem tw_1687 : (.methodLink RX12 209 yX12_wordTold : Cond) ∈ lw_gd := g_mem (List.mem_append_right _ (g_k8 (List.mem_of_getElem? (i := 7) rfl))) rfl
theorem tw_1690 : (.code yX12_wordTold cX12_wordTold 3 none : Cond) ∈ lw_gd := g_mem (List.mem_append_right _ (g_k8 (List.mem_of_getElem? (i := 10) rfl))) rfl
theorem tp_70 : (.selects RX12 yX12_wordTold yX12_wordTold : Cond) ∈ lw_gd := g_mem (List.mem_append_left _ (List.mem_of_getElem? (i := 70) (by decide +kernel))) rfl
theorem tw_1689 : (.instanceMethod yX12_wordTold : Cond) ∈ lw_gd := g_mem (List.mem_append_right _ (g_k8 (List.mem_of_getElem? (i := 9) rfl))) rfl
theorem tw_1679 : (.methodLink RX12 205 yX12_rowTold : Cond) ∈ lw_gd := g_mem (List.mem_append_right _ (g_k7 (List.mem_of_getElem? (i := 239) rfl))) rfl
theorem tw_1682 : (.code yX12_rowTold cX12_rowTold 3 none : Cond) ∈ lw_gd := g_mem (List.mem_append_right _ (g_k8 (List.mem_of_getElem? (i := 2) rfl))) rfl
theorem tp_68 : (.selects RX12 yX12_rowTold yX12_rowTold : Cond) ∈ lw_gd := g_mem (List.mem_append_left _ (List.mem_of_getElem? (i := 68) (by decide +kernel))) rfl
theorem tw_1681 : (.instanceMethod yX12_rowTold : Cond) ∈ lw_gd := g_mem (List.mem_append_right _ (g_k8 (List.mem_of_getElem? (i := 1) rfl))) rfl
theorem tw_1678 : (.code yX12_houseTold cX12_houseTold 2 none : Cond) ∈ lw_gd := g_mem (List.mem_append_right _ (g_k7 (List.mem_of_getElem? (i := 238) rfl))) rfl
theorem tp_67 : (.selects RX12 yX12_houseTold yX12_houseTold : Cond) ∈ lw_gd := g_mem (List.mem_append_left _ (List.mem_of_getElem? (i := 67) (by decide +kernel))) rfl
theorem tw_1677 : (.instanceMethod yX12_houseTold : Cond) ∈ lw_gd := g_mem (List.mem_append_right _ (g_k7 (List.mem_of_getElem? (i := 237) rfl))) rfl
theorem hd_yX1_clear : yX1_clear.cls ≠ "java/lang/invoke/MethodHandle" ∧ yX1_clear.cls ≠ "java/lang/invoke/VarHandle" ∧ (parseMethodDescriptor yX1_clear.desc).map (fun d => d.parameters.length) = some 0 := by decide +kernel
theorem hd_yX4_isSmall : yX4_isSmall.cls ≠ "java/lang/invoke/MethodHandle" ∧ yX4_isSmall.cls ≠ "java/lang/invoke/VarHandle" ∧ (parseMethodDescriptor yX4_isSmall.desc).map (fun d => d.parameters.length) = some 1 := by decide +kernel
theorem hd_yX4_isDigit : yX4_isDigit.cls ≠ "java/lang/invoke/MethodHandle" ∧ yX4_isDigit.cls ≠ "java/lang/invoke/VarHandle" ∧ (parseMethodDescriptor yX4_isDigit.desc).map (fun d => d.parameters.length) = some 1 := by decide +kernel
theorem hd_yX4_isBlank : yX4_isBlank.cls ≠ "java/lang/invoke/MethodHandle" ∧ yX4_isBlank.cls ≠ "java/lang/invoke/VarHandle" ∧ (parseMethodDescriptor yX4_isBlank.desc).map (fun d => d.parameters.length) = some 1 := by decide +kernel
theorem hd_yX4_goOn : yX4_goOn.cls ≠ "java/lang/invoke/MethodHandle" ∧ yX4_goOn.cls ≠ "java/lang/invoke/VarHandle" ∧ (parseMethodDescriptor yX4_goOn.desc).map (fun d => d.parameters.length) = some 2 := by decide +kernel
theorem hd_yJ0_coder_7d493 : yJ0_coder_7d493.cls ≠ "java/lang/invoke/MethodHandle" ∧ yJ0_coder_7d493.cls ≠ "java/lang/invoke/VarHandle" ∧ (parseMethodDescriptor yJ0_coder_7d493.desc).map (fun d => d.parameters.length) = some 0 := by decide +kernel
theorem hd_yJ0_length_8abf5 : yJ0_length_8abf5.cls ≠ "java/lang/invoke/MethodHandle" ∧ yJ0_length_8abf5.cls ≠ "java/lang/invoke/VarHandle" ∧ (parseMethodDescriptor yJ0_length_8abf5.desc).map (fun d => d.parameters.length) = some 0 := by decide +kernel
theorem hd_yJ0_isLatin1_aae02 : yJ0_isLatin1_aae02.cls ≠ "java/lang/invoke/MethodHandle" ∧ yJ0_isLatin1_aae02.cls ≠ "java/lang/invoke/VarHandle" ∧ (parseMethodDescriptor yJ0_isLatin1_aae02.desc).map (fun d => d.parameters.length) = some 0 := by decide +kernel
theorem hd_yJ3_checkIndex_8e157 : yJ3_checkIndex_8e157.cls ≠ "java/lang/invoke/MethodHandle" ∧ yJ3_checkIndex_8e157.cls ≠ "java/lang/invoke/VarHandle" ∧ (parseMethodDescriptor yJ3_checkIndex_8e157.desc).map (fun d => d.parameters.length) = some 3 := by decide +kernel
theorem hd_yJ0_checkIndex_df160 : yJ0_checkIndex_df160.cls ≠ "java/lang/invoke/MethodHandle" ∧ yJ0_checkIndex_df160.cls ≠ "java/lang/invoke/VarHandle" ∧ (parseMethodDescriptor yJ0_checkIndex_df160.desc).map (fun d => d.parameters.length) = some 2 := by decide +kernel
theorem hd_yJ1_charAt_3b067 : yJ1_charAt_3b067.cls ≠ "java/lang/invoke/MethodHandle" ∧ yJ1_charAt_3b067.cls ≠ "java/lang/invoke/VarHandle" ∧ (parseMethodDescriptor yJ1_charAt_3b067.desc).map (fun d => d.parameters.length) = some 2 := by decide +kernel
theorem hd_yJ0_charAt_5068e : yJ0_charAt_5068e.cls ≠ "java/lang/invoke/MethodHandle" ∧ yJ0_charAt_5068e.cls ≠ "java/lang/invoke/VarHandle" ∧ (parseMethodDescriptor yJ0_charAt_5068e.desc).map (fun d => d.parameters.length) = some 1 := by decide +kernel
theorem hd_yX4_isWordAhead : yX4_isWordAhead.cls ≠ "java/lang/invoke/MethodHandle" ∧ yX4_isWordAhead.cls ≠ "java/lang/invoke/VarHandle" ∧ (parseMethodDescriptor yX4_isWordAhead.desc).map (fun d => d.parameters.length) = some 1 := by decide +kernel
theorem hd_yX4_takesWord : yX4_takesWord.cls ≠ "java/lang/invoke/MethodHandle" ∧ yX4_takesWord.cls ≠ "java/lang/invoke/VarHandle" ∧ (parseMethodDescriptor yX4_takesWord.desc).map (fun d => d.parameters.length) = some 1 := by decide +kernel
theorem hd_yX4_fail : yX4_fail.cls ≠ "java/lang/invoke/MethodHandle" ∧ yX4_fail.cls ≠ "java/lang/invoke/VarHandle" ∧ (parseMethodDescriptor yX4_fail.desc).map (fun d => d.parameters.length) = some 2 := by decide +kernel
theorem hd_yX4_failHere : yX4_failHere.cls ≠ "java/lang/invoke/MethodHandle" ∧ yX4_failHere.cls ≠ "java/lang/invoke/VarHandle" ∧ (parseMethodDescriptor yX4_failHere.desc).map (fun d => d.parameters.length) = some 0 := by decide +kernel
theorem hd_yX4_readWord : yX4_readWord.cls ≠ "java/lang/invoke/MethodHandle" ∧ yX4_readWord.cls ≠ "java/lang/invoke/VarHandle" ∧ (parseMethodDescriptor yX4_readWord.desc).map (fun d => d.parameters.length) = some 1 := by decide +kernel
theorem hd_yX4_readNumber : yX4_readNumber.cls ≠ "java/lang/invoke/MethodHandle" ∧ yX4_readNumber.cls ≠ "java/lang/invoke/VarHandle" ∧ (parseMethodDescriptor yX4_readNumber.desc).map (fun d => d.parameters.length) = some 0 := by decide +kernel
theorem hd_yX4_readBetween : yX4_readBetween.cls ≠ "java/lang/invoke/MethodHandle" ∧ yX4_readBetween.cls ≠ "java/lang/invoke/VarHandle" ∧ (parseMethodDescriptor yX4_readBetween.desc).map (fun d => d.parameters.length) = some 2 := by decide +kernel
theorem hd_yX4_readSizes : yX4_readSizes.cls ≠ "java/lang/invoke/MethodHandle" ∧ yX4_readSizes.cls ≠ "java/lang/invoke/VarHandle" ∧ (parseMethodDescriptor yX4_readSizes.desc).map (fun d => d.parameters.length) = some 0 := by decide +kernel
theorem hd_yX4_readStatement : yX4_readStatement.cls ≠ "java/lang/invoke/MethodHandle" ∧ yX4_readStatement.cls ≠ "java/lang/invoke/VarHandle" ∧ (parseMethodDescriptor yX4_readStatement.desc).map (fun d => d.parameters.length) = some 1 := by decide +kernel
theorem hd_yX4_readSign : yX4_readSign.cls ≠ "java/lang/invoke/MethodHandle" ∧ yX4_readSign.cls ≠ "java/lang/invoke/VarHandle" ∧ (parseMethodDescriptor yX4_readSign.desc).map (fun d => d.parameters.length) = some 1 := by decide +kernel
theorem hd_yX4_readLimit : yX4_readLimit.cls ≠ "java/lang/invoke/MethodHandle" ∧ yX4_readLimit.cls ≠ "java/lang/invoke/VarHandle" ∧ (parseMethodDescriptor yX4_readLimit.desc).map (fun d => d.parameters.length) = some 0 := by decide +kernel
theorem hd_yX4_hasRoom : yX4_hasRoom.cls ≠ "java/lang/invoke/MethodHandle" ∧ yX4_hasRoom.cls ≠ "java/lang/invoke/VarHandle" ∧ (parseMethodDescriptor yX4_hasRoom.desc).map (fun d => d.parameters.length) = some 2 := by decide +kernel
theorem hd_yX5_beginRule : yX5_beginRule.cls ≠ "java/lang/invoke/MethodHandle" ∧ yX5_beginRule.cls ≠ "java/lang/invoke/VarHandle" ∧ (parseMethodDescriptor yX5_beginRule.desc).map (fun d => d.parameters.length) = some 0 := by decide +kernel
theorem hd_yX5_add : yX5_add.cls ≠ "java/lang/invoke/MethodHandle" ∧ yX5_add.cls ≠ "java/lang/invoke/VarHandle" ∧ (parseMethodDescriptor yX5_add.desc).map (fun d => d.parameters.length) = some 1 := by decide +kernel
theorem hd_yX4_adds : yX4_adds.cls ≠ "java/lang/invoke/MethodHandle" ∧ yX4_adds.cls ≠ "java/lang/invoke/VarHandle" ∧ (parseMethodDescriptor yX4_adds.desc).map (fun d => d.parameters.length) = some 1 := by decide +kernel
theorem hd_yX4_opens : yX4_opens.cls ≠ "java/lang/invoke/MethodHandle" ∧ yX4_opens.cls ≠ "java/lang/invoke/VarHandle" ∧ (parseMethodDescriptor yX4_opens.desc).map (fun d => d.parameters.length) = some 0 := by decide +kernel
theorem hd_yX4_readPair : yX4_readPair.cls ≠ "java/lang/invoke/MethodHandle" ∧ yX4_readPair.cls ≠ "java/lang/invoke/VarHandle" ∧ (parseMethodDescriptor yX4_readPair.desc).map (fun d => d.parameters.length) = some 0 := by decide +kernel
theorem hd_yX4_readPart : yX4_readPart.cls ≠ "java/lang/invoke/MethodHandle" ∧ yX4_readPart.cls ≠ "java/lang/invoke/VarHandle" ∧ (parseMethodDescriptor yX4_readPart.desc).map (fun d => d.parameters.length) = some 0 := by decide +kernel
theorem hd_yX4_takesSign : yX4_takesSign.cls ≠ "java/lang/invoke/MethodHandle" ∧ yX4_takesSign.cls ≠ "java/lang/invoke/VarHandle" ∧ (parseMethodDescriptor yX4_takesSign.desc).map (fun d => d.parameters.length) = some 1 := by decide +kernel
theorem hd_yX4_readProduct : yX4_readProduct.cls ≠ "java/lang/invoke/MethodHandle" ∧ yX4_readProduct.cls ≠ "java/lang/invoke/VarHandle" ∧ (parseMethodDescriptor yX4_readProduct.desc).map (fun d => d.parameters.length) = some 0 := by decide +kernel
theorem hd_yX4_readSum : yX4_readSum.cls ≠ "java/lang/invoke/MethodHandle" ∧ yX4_readSum.cls ≠ "java/lang/invoke/VarHandle" ∧ (parseMethodDescriptor yX4_readSum.desc).map (fun d => d.parameters.length) = some 0 := by decide +kernel
theorem hd_yX4_closes : yX4_closes.cls ≠ "java/lang/invoke/MethodHandle" ∧ yX4_closes.cls ≠ "java/lang/invoke/VarHandle" ∧ (parseMethodDescriptor yX4_closes.desc).map (fun d => d.parameters.length) = some 0 := by decide +kernel
theorem hd_yX5_beginTest : yX5_beginTest.cls ≠ "java/lang/invoke/MethodHandle" ∧ yX5_beginTest.cls ≠ "java/lang/invoke/VarHandle" ∧ (parseMethodDescriptor yX5_beginTest.desc).map (fun d => d.parameters.length) = some 0 := by decide +kernel
theorem hd_yX4_comparisonBy : yX4_comparisonBy.cls ≠ "java/lang/invoke/MethodHandle" ∧ yX4_comparisonBy.cls ≠ "java/lang/invoke/VarHandle" ∧ (parseMethodDescriptor yX4_comparisonBy.desc).map (fun d => d.parameters.length) = some 1 := by decide +kernel
theorem hd_yX4_readFact : yX4_readFact.cls ≠ "java/lang/invoke/MethodHandle" ∧ yX4_readFact.cls ≠ "java/lang/invoke/VarHandle" ∧ (parseMethodDescriptor yX4_readFact.desc).map (fun d => d.parameters.length) = some 0 := by decide +kernel
theorem hd_yX4_readBoth : yX4_readBoth.cls ≠ "java/lang/invoke/MethodHandle" ∧ yX4_readBoth.cls ≠ "java/lang/invoke/VarHandle" ∧ (parseMethodDescriptor yX4_readBoth.desc).map (fun d => d.parameters.length) = some 0 := by decide +kernel
theorem hd_yX4_readTest : yX4_readTest.cls ≠ "java/lang/invoke/MethodHandle" ∧ yX4_readTest.cls ≠ "java/lang/invoke/VarHandle" ∧ (parseMethodDescriptor yX4_readTest.desc).map (fun d => d.parameters.length) = some 0 := by decide +kernel
theorem hd_yX5_endRule : yX5_endRule.cls ≠ "java/lang/invoke/MethodHandle" ∧ yX5_endRule.cls ≠ "java/lang/invoke/VarHandle" ∧ (parseMethodDescriptor yX5_endRule.desc).map (fun d => d.parameters.length) = some 0 := by decide +kernel
theorem hd_yX4_readRule : yX4_readRule.cls ≠ "java/lang/invoke/MethodHandle" ∧ yX4_readRule.cls ≠ "java/lang/invoke/VarHandle" ∧ (parseMethodDescriptor yX4_readRule.desc).map (fun d => d.parameters.length) = some 0 := by decide +kernel
theorem hd_yX4_readSigned : yX4_readSigned.cls ≠ "java/lang/invoke/MethodHandle" ∧ yX4_readSigned.cls ≠ "java/lang/invoke/VarHandle" ∧ (parseMethodDescriptor yX4_readSigned.desc).map (fun d => d.parameters.length) = some 0 := by decide +kernel
theorem hd_yX4_readLetters : yX4_readLetters.cls ≠ "java/lang/invoke/MethodHandle" ∧ yX4_readLetters.cls ≠ "java/lang/invoke/VarHandle" ∧ (parseMethodDescriptor yX4_readLetters.desc).map (fun d => d.parameters.length) = some 0 := by decide +kernel
theorem hd_yX4_readRow : yX4_readRow.cls ≠ "java/lang/invoke/MethodHandle" ∧ yX4_readRow.cls ≠ "java/lang/invoke/VarHandle" ∧ (parseMethodDescriptor yX4_readRow.desc).map (fun d => d.parameters.length) = some 0 := by decide +kernel
theorem hd_yX4_readHouse : yX4_readHouse.cls ≠ "java/lang/invoke/MethodHandle" ∧ yX4_readHouse.cls ≠ "java/lang/invoke/VarHandle" ∧ (parseMethodDescriptor yX4_readHouse.desc).map (fun d => d.parameters.length) = some 0 := by decide +kernel
theorem hd_yX4_exchange : yX4_exchange.cls ≠ "java/lang/invoke/MethodHandle" ∧ yX4_exchange.cls ≠ "java/lang/invoke/VarHandle" ∧ (parseMethodDescriptor yX4_exchange.desc).map (fun d => d.parameters.length) = some 1 := by decide +kernel
theorem hd_yX8_copyFrom : yX8_copyFrom.cls ≠ "java/lang/invoke/MethodHandle" ∧ yX8_copyFrom.cls ≠ "java/lang/invoke/VarHandle" ∧ (parseMethodDescriptor yX8_copyFrom.desc).map (fun d => d.parameters.length) = some 1 := by decide +kernel
theorem hd_yX2_start : yX2_start.cls ≠ "java/lang/invoke/MethodHandle" ∧ yX2_start.cls ≠ "java/lang/invoke/VarHandle" ∧ (parseMethodDescriptor yX2_start.desc).map (fun d => d.parameters.length) = some 1 := by decide +kernel
theorem hd_yX6_forget : yX6_forget.cls ≠ "java/lang/invoke/MethodHandle" ∧ yX6_forget.cls ≠ "java/lang/invoke/VarHandle" ∧ (parseMethodDescriptor yX6_forget.desc).map (fun d => d.parameters.length) = some 0 := by decide +kernel
theorem hd_yX0_forget : yX0_forget.cls ≠ "java/lang/invoke/MethodHandle" ∧ yX0_forget.cls ≠ "java/lang/invoke/VarHandle" ∧ (parseMethodDescriptor yX0_forget.desc).map (fun d => d.parameters.length) = some 0 := by decide +kernel
theorem hd_yX3_forget : yX3_forget.cls ≠ "java/lang/invoke/MethodHandle" ∧ yX3_forget.cls ≠ "java/lang/invoke/VarHandle" ∧ (parseMethodDescriptor yX3_forget.desc).map (fun d => d.parameters.length) = some 0 := by decide +kernel
theorem hd_yX12_onePart : yX12_onePart.cls ≠ "java/lang/invoke/MethodHandle" ∧ yX12_onePart.cls ≠ "java/lang/invoke/VarHandle" ∧ (parseMethodDescriptor yX12_onePart.desc).map (fun d => d.parameters.length) = some 0 := by decide +kernel
theorem hd_yX12_mark : yX12_mark.cls ≠ "java/lang/invoke/MethodHandle" ∧ yX12_mark.cls ≠ "java/lang/invoke/VarHandle" ∧ (parseMethodDescriptor yX12_mark.desc).map (fun d => d.parameters.length) = some 0 := by decide +kernel
theorem hd_yX12_dropsToMark : yX12_dropsToMark.cls ≠ "java/lang/invoke/MethodHandle" ∧ yX12_dropsToMark.cls ≠ "java/lang/invoke/VarHandle" ∧ (parseMethodDescriptor yX12_dropsToMark.desc).map (fun d => d.parameters.length) = some 0 := by decide +kernel
theorem hd_yX12_goesOn : yX12_goesOn.cls ≠ "java/lang/invoke/MethodHandle" ∧ yX12_goesOn.cls ≠ "java/lang/invoke/VarHandle" ∧ (parseMethodDescriptor yX12_goesOn.desc).map (fun d => d.parameters.length) = some 0 := by decide +kernel
theorem hd_yX12_sumsTold : yX12_sumsTold.cls ≠ "java/lang/invoke/MethodHandle" ∧ yX12_sumsTold.cls ≠ "java/lang/invoke/VarHandle" ∧ (parseMethodDescriptor yX12_sumsTold.desc).map (fun d => d.parameters.length) = some 0 := by decide +kernel
theorem hd_yX12_fact : yX12_fact.cls ≠ "java/lang/invoke/MethodHandle" ∧ yX12_fact.cls ≠ "java/lang/invoke/VarHandle" ∧ (parseMethodDescriptor yX12_fact.desc).map (fun d => d.parameters.length) = some 0 := by decide +kernel
theorem hd_yX12_dropsNots : yX12_dropsNots.cls ≠ "java/lang/invoke/MethodHandle" ∧ yX12_dropsNots.cls ≠ "java/lang/invoke/VarHandle" ∧ (parseMethodDescriptor yX12_dropsNots.desc).map (fun d => d.parameters.length) = some 0 := by decide +kernel
theorem hd_yX12_goesOnTest : yX12_goesOnTest.cls ≠ "java/lang/invoke/MethodHandle" ∧ yX12_goesOnTest.cls ≠ "java/lang/invoke/VarHandle" ∧ (parseMethodDescriptor yX12_goesOnTest.desc).map (fun d => d.parameters.length) = some 0 := by decide +kernel
theorem hd_yX12_test : yX12_test.cls ≠ "java/lang/invoke/MethodHandle" ∧ yX12_test.cls ≠ "java/lang/invoke/VarHandle" ∧ (parseMethodDescriptor yX12_test.desc).map (fun d => d.parameters.length) = some 0 := by decide +kernel
theorem hd_yX12_worthTold : yX12_worthTold.cls ≠ "java/lang/invoke/MethodHandle" ∧ yX12_worthTold.cls ≠ "java/lang/invoke/VarHandle" ∧ (parseMethodDescriptor yX12_worthTold.desc).map (fun d => d.parameters.length) = some 1 := by decide +kernel
theorem hd_yX12_wordTold : yX12_wordTold.cls ≠ "java/lang/invoke/MethodHandle" ∧ yX12_wordTold.cls ≠ "java/lang/invoke/VarHandle" ∧ (parseMethodDescriptor yX12_wordTold.desc).map (fun d => d.parameters.length) = some 1 := by decide +kernel
theorem hd_yX12_rowTold : yX12_rowTold.cls ≠ "java/lang/invoke/MethodHandle" ∧ yX12_rowTold.cls ≠ "java/lang/invoke/VarHandle" ∧ (parseMethodDescriptor yX12_rowTold.desc).map (fun d => d.parameters.length) = some 1 := by decide +kernel
theorem hd_yX12_houseTold : yX12_houseTold.cls ≠ "java/lang/invoke/MethodHandle" ∧ yX12_houseTold.cls ≠ "java/lang/invoke/VarHandle" ∧ (parseMethodDescriptor yX12_houseTold.desc).map (fun d => d.parameters.length) = some 0 := by decide +kernel
theorem tI_m15 : ((-15) : Int32).toInt = (-15) := by decide +kernel
theorem tI_m14 : ((-14) : Int32).toInt = (-14) := by decide +kernel
theorem tI_m13 : ((-13) : Int32).toInt = (-13) := by decide +kernel
theorem tI_m12 : ((-12) : Int32).toInt = (-12) := by decide +kernel
theorem tI_m11 : ((-11) : Int32).toInt = (-11) := by decide +kernel
theorem tI_m10 : ((-10) : Int32).toInt = (-10) := by decide +kernel
theorem tI_m9 : ((-9) : Int32).toInt = (-9) := by decide +kernel
theorem tI_m7 : ((-7) : Int32).toInt = (-7) := by decide +kernel
theorem tI_m6 : ((-6) : Int32).toInt = (-6) := by decide +kernel
theorem tI_m5 : ((-5) : Int32).toInt = (-5) := by decide +kernel
theorem tI_m3 : ((-3) : Int32).toInt = (-3) := by decide +kernel
theorem tI_m2 : ((-2) : Int32).toInt = (-2) := by decide +kernel
theorem tI_11 : (11 : Int32).toInt = 11 := by decide +kernel
theorem tI_13 : (13 : Int32).toInt = 13 := by decide +kernel
theorem tI_23 : (23 : Int32).toInt = 23 := by decide +kernel
theorem tI_41 : (41 : Int32).toInt = 41 := by decide +kernel
theorem tI_43 : (43 : Int32).toInt = 43 := by decide +kernel
theorem tI_44 : (44 : Int32).toInt = 44 := by decide +kernel
theorem tI_47 : (47 : Int32).toInt = 47 := by decide +kernel
theorem tI_61 : (61 : Int32).toInt = 61 := by decide +kernel
theorem tI_62 : (62 : Int32).toInt = 62 := by decide +kernel
theorem tI_91 : (91 : Int32).toInt = 91 := by decide +kernel
theorem tI_93 : (93 : Int32).toInt = 93 := by decide +kernel
