theorem tw_27 : (.methodLink RX11 1 objectInit : Cond) ∈ lw_gd := g_mem (List.mem_append_right _ (g_k1 (List.mem_of_getElem? (i := 27) (by decide +kernel)))) rfl
theorem tw_28 : (.instanceMethod objectInit : Cond) ∈ lw_gd := g_mem (List.mem_append_right _ (g_k1 (List.mem_of_getElem? (i := 28) (by decide +kernel)))) rfl
theorem tw_29 : (.code objectInit ⟨#[0xb1]⟩ 1 none : Cond) ∈ lw_gd := g_mem (List.mem_append_right _ (g_k1 (List.mem_of_getElem? (i := 29) rfl))) rfl
theorem tw_30 : (.classLink RX11 7 RX4 : Cond) ∈ lw_gd := g_mem (List.mem_append_right _ (g_k1 (List.mem_of_getElem? (i := 30) (by decide +kernel)))) rfl
theorem tw_31 : (.instantiable RX4 8 : Cond) ∈ lw_gd := g_mem (List.mem_append_right _ (g_k1 (List.mem_of_getElem? (i := 31) (by decide +kernel)))) rfl
theorem tw_2 : (.initialized RX4 : Cond) ∈ lw_gd := g_mem (List.mem_append_right _ (g_k1 (List.mem_of_getElem? (i := 2) (by decide +kernel)))) rfl
theorem tn_32 : (.methodLinkNest RX11 9 yX4_init "ManyOut" : Cond) ∈ lw_nw := g_nmem (g_k1 (List.mem_of_getElem? (i := 32) (by decide +kernel))) rfl
theorem tw_35 : (.methodLink RX4 3 objectInit : Cond) ∈ lw_gd := g_mem (List.mem_append_right _ (g_k1 (List.mem_of_getElem? (i := 35) (by decide +kernel)))) rfl
theorem tw_36 : (.classLink RX4 9 RX9 : Cond) ∈ lw_gd := g_mem (List.mem_append_right _ (g_k1 (List.mem_of_getElem? (i := 36) (by decide +kernel)))) rfl
theorem tw_37 : (.instantiable RX9 2 : Cond) ∈ lw_gd := g_mem (List.mem_append_right _ (g_k1 (List.mem_of_getElem? (i := 37) (by decide +kernel)))) rfl
theorem tw_3 : (.initialized RX9 : Cond) ∈ lw_gd := g_mem (List.mem_append_right _ (g_k1 (List.mem_of_getElem? (i := 3) (by decide +kernel)))) rfl
theorem tn_38 : (.methodLinkNest RX4 11 yX9_init "ManyOut" : Cond) ∈ lw_nw := g_nmem (g_k1 (List.mem_of_getElem? (i := 38) (by decide +kernel))) rfl
theorem tw_41 : (.methodLink RX9 3 objectInit : Cond) ∈ lw_gd := g_mem (List.mem_append_right _ (g_k1 (List.mem_of_getElem? (i := 41) (by decide +kernel)))) rfl
theorem tw_49 : (.arrayClass .byte : Cond) ∈ lw_gd := g_mem (List.mem_append_right _ (g_k1 (List.mem_of_getElem? (i := 49) (by decide +kernel)))) rfl
theorem tw_42 : (.fieldLink RX9 9 "ManyOut$Tape" "bytes" "[B" : Cond) ∈ lw_gd := g_mem (List.mem_append_right _ (g_k1 (List.mem_of_getElem? (i := 42) (by decide +kernel)))) rfl
theorem tw_43 : (.fieldLink RX9 15 "ManyOut$Tape" "length" "I" : Cond) ∈ lw_gd := g_mem (List.mem_append_right _ (g_k1 (List.mem_of_getElem? (i := 43) (by decide +kernel)))) rfl
theorem tw_40 : (.code yX9_init cX9_init 1 none : Cond) ∈ lw_gd := g_mem (List.mem_append_right _ (g_k1 (List.mem_of_getElem? (i := 40) rfl))) rfl
theorem tw_39 : (.instanceMethod yX9_init : Cond) ∈ lw_gd := g_mem (List.mem_append_right _ (g_k1 (List.mem_of_getElem? (i := 39) (by decide +kernel)))) rfl
theorem tw_167 : (.fieldLink RX4 12 "ManyOut$Reader" "tape" "LManyOut$Tape;" : Cond) ∈ lw_gd := g_mem (List.mem_append_right _ (g_k1 (List.mem_of_getElem? (i := 167) (by decide +kernel)))) rfl
theorem tw_50 : (.classLink RX4 18 RX1 : Cond) ∈ lw_gd := g_mem (List.mem_append_right _ (g_k1 (List.mem_of_getElem? (i := 50) (by decide +kernel)))) rfl
theorem tw_51 : (.instantiable RX1 10 : Cond) ∈ lw_gd := g_mem (List.mem_append_right _ (g_k1 (List.mem_of_getElem? (i := 51) (by decide +kernel)))) rfl
theorem tw_4 : (.initialized RX1 : Cond) ∈ lw_gd := g_mem (List.mem_append_right _ (g_k1 (List.mem_of_getElem? (i := 4) (by decide +kernel)))) rfl
theorem tn_52 : (.methodLinkNest RX4 20 yX1_init "ManyOut" : Cond) ∈ lw_nw := g_nmem (g_k1 (List.mem_of_getElem? (i := 52) (by decide +kernel))) rfl
theorem tw_55 : (.methodLink RX1 3 objectInit : Cond) ∈ lw_gd := g_mem (List.mem_append_right _ (g_k1 (List.mem_of_getElem? (i := 55) (by decide +kernel)))) rfl
theorem tw_56 : (.classLink RX1 9 RX8 : Cond) ∈ lw_gd := g_mem (List.mem_append_right _ (g_k1 (List.mem_of_getElem? (i := 56) (by decide +kernel)))) rfl
theorem tw_57 : (.instantiable RX8 1 : Cond) ∈ lw_gd := g_mem (List.mem_append_right _ (g_k1 (List.mem_of_getElem? (i := 57) (by decide +kernel)))) rfl
theorem tw_5 : (.initialized RX8 : Cond) ∈ lw_gd := g_mem (List.mem_append_right _ (g_k1 (List.mem_of_getElem? (i := 5) (by decide +kernel)))) rfl
theorem tn_58 : (.methodLinkNest RX1 11 yX8_init "ManyOut" : Cond) ∈ lw_nw := g_nmem (g_k1 (List.mem_of_getElem? (i := 58) (by decide +kernel))) rfl
theorem tw_61 : (.methodLink RX8 3 objectInit : Cond) ∈ lw_gd := g_mem (List.mem_append_right _ (g_k1 (List.mem_of_getElem? (i := 61) (by decide +kernel)))) rfl
theorem tw_66 : (.arrayClass .int : Cond) ∈ lw_gd := g_mem (List.mem_append_right _ (g_k1 (List.mem_of_getElem? (i := 66) (by decide +kernel)))) rfl
theorem tw_62 : (.fieldLink RX8 9 "ManyOut$Table" "numbers" "[I" : Cond) ∈ lw_gd := g_mem (List.mem_append_right _ (g_k1 (List.mem_of_getElem? (i := 62) (by decide +kernel)))) rfl
theorem tw_60 : (.code yX8_init cX8_init 1 none : Cond) ∈ lw_gd := g_mem (List.mem_append_right _ (g_k1 (List.mem_of_getElem? (i := 60) rfl))) rfl
theorem tw_59 : (.instanceMethod yX8_init : Cond) ∈ lw_gd := g_mem (List.mem_append_right _ (g_k1 (List.mem_of_getElem? (i := 59) (by decide +kernel)))) rfl
theorem tw_97 : (.fieldLink RX1 12 "ManyOut$House" "table" "LManyOut$Table;" : Cond) ∈ lw_gd := g_mem (List.mem_append_right _ (g_k1 (List.mem_of_getElem? (i := 97) (by decide +kernel)))) rfl
theorem tw_67 : (.classLink RX1 18 RX5 : Cond) ∈ lw_gd := g_mem (List.mem_append_right _ (g_k1 (List.mem_of_getElem? (i := 67) (by decide +kernel)))) rfl
theorem tw_68 : (.instantiable RX5 7 : Cond) ∈ lw_gd := g_mem (List.mem_append_right _ (g_k1 (List.mem_of_getElem? (i := 68) (by decide +kernel)))) rfl
theorem tw_6 : (.initialized RX5 : Cond) ∈ lw_gd := g_mem (List.mem_append_right _ (g_k1 (List.mem_of_getElem? (i := 6) (by decide +kernel)))) rfl
theorem tn_69 : (.methodLinkNest RX1 20 yX5_init "ManyOut" : Cond) ∈ lw_nw := g_nmem (g_k1 (List.mem_of_getElem? (i := 69) (by decide +kernel))) rfl
theorem tw_72 : (.methodLink RX5 3 objectInit : Cond) ∈ lw_gd := g_mem (List.mem_append_right _ (g_k1 (List.mem_of_getElem? (i := 72) (by decide +kernel)))) rfl
theorem tw_73 : (.fieldLink RX5 9 "ManyOut$Rules" "code" "[I" : Cond) ∈ lw_gd := g_mem (List.mem_append_right _ (g_k1 (List.mem_of_getElem? (i := 73) (by decide +kernel)))) rfl
theorem tw_74 : (.fieldLink RX5 15 "ManyOut$Rules" "sumAt" "[I" : Cond) ∈ lw_gd := g_mem (List.mem_append_right _ (g_k1 (List.mem_of_getElem? (i := 74) (by decide +kernel)))) rfl
theorem tw_75 : (.fieldLink RX5 18 "ManyOut$Rules" "testAt" "[I" : Cond) ∈ lw_gd := g_mem (List.mem_append_right _ (g_k1 (List.mem_of_getElem? (i := 75) (by decide +kernel)))) rfl
theorem tw_76 : (.fieldLink RX5 21 "ManyOut$Rules" "endAt" "[I" : Cond) ∈ lw_gd := g_mem (List.mem_append_right _ (g_k1 (List.mem_of_getElem? (i := 76) (by decide +kernel)))) rfl
theorem tw_77 : (.fieldLink RX5 24 "ManyOut$Rules" "stack" "[I" : Cond) ∈ lw_gd := g_mem (List.mem_append_right _ (g_k1 (List.mem_of_getElem? (i := 77) (by decide +kernel)))) rfl
theorem tw_78 : (.fieldLink RX5 27 "ManyOut$Rules" "length" "I" : Cond) ∈ lw_gd := g_mem (List.mem_append_right _ (g_k1 (List.mem_of_getElem? (i := 78) (by decide +kernel)))) rfl
theorem tw_79 : (.fieldLink RX5 31 "ManyOut$Rules" "count" "I" : Cond) ∈ lw_gd := g_mem (List.mem_append_right _ (g_k1 (List.mem_of_getElem? (i := 79) (by decide +kernel)))) rfl
theorem tw_71 : (.code yX5_init cX5_init 1 none : Cond) ∈ lw_gd := g_mem (List.mem_append_right _ (g_k1 (List.mem_of_getElem? (i := 71) rfl))) rfl
theorem tw_70 : (.instanceMethod yX5_init : Cond) ∈ lw_gd := g_mem (List.mem_append_right _ (g_k1 (List.mem_of_getElem? (i := 70) (by decide +kernel)))) rfl
theorem tw_105 : (.fieldLink RX1 21 "ManyOut$House" "rules" "LManyOut$Rules;" : Cond) ∈ lw_gd := g_mem (List.mem_append_right _ (g_k1 (List.mem_of_getElem? (i := 105) (by decide +kernel)))) rfl
theorem tw_108 : (.fieldLink RX1 25 "ManyOut$House" "words" "[I" : Cond) ∈ lw_gd := g_mem (List.mem_append_right _ (g_k1 (List.mem_of_getElem? (i := 108) (by decide +kernel)))) rfl
theorem tw_110 : (.fieldLink RX1 29 "ManyOut$House" "letters" "I" : Cond) ∈ lw_gd := g_mem (List.mem_append_right _ (g_k1 (List.mem_of_getElem? (i := 110) (by decide +kernel)))) rfl
theorem tw_116 : (.fieldLink RX1 33 "ManyOut$House" "senders" "I" : Cond) ∈ lw_gd := g_mem (List.mem_append_right _ (g_k1 (List.mem_of_getElem? (i := 116) (by decide +kernel)))) rfl
theorem tw_125 : (.fieldLink RX1 36 "ManyOut$House" "receivers" "I" : Cond) ∈ lw_gd := g_mem (List.mem_append_right _ (g_k1 (List.mem_of_getElem? (i := 125) (by decide +kernel)))) rfl
theorem tw_132 : (.fieldLink RX1 39 "ManyOut$House" "rowsTold" "I" : Cond) ∈ lw_gd := g_mem (List.mem_append_right _ (g_k1 (List.mem_of_getElem? (i := 132) (by decide +kernel)))) rfl
theorem tw_135 : (.fieldLink RX1 42 "ManyOut$House" "wordsTold" "I" : Cond) ∈ lw_gd := g_mem (List.mem_append_right _ (g_k1 (List.mem_of_getElem? (i := 135) (by decide +kernel)))) rfl
theorem tw_139 : (.fieldLink RX1 45 "ManyOut$House" "limit" "I" : Cond) ∈ lw_gd := g_mem (List.mem_append_right _ (g_k1 (List.mem_of_getElem? (i := 139) (by decide +kernel)))) rfl
theorem tw_143 : (.fieldLink RX1 48 "ManyOut$House" "statements" "I" : Cond) ∈ lw_gd := g_mem (List.mem_append_right _ (g_k1 (List.mem_of_getElem? (i := 143) (by decide +kernel)))) rfl
theorem tw_54 : (.code yX1_init cX1_init 1 none : Cond) ∈ lw_gd := g_mem (List.mem_append_right _ (g_k1 (List.mem_of_getElem? (i := 54) rfl))) rfl
theorem tw_53 : (.instanceMethod yX1_init : Cond) ∈ lw_gd := g_mem (List.mem_append_right _ (g_k1 (List.mem_of_getElem? (i := 53) (by decide +kernel)))) rfl
theorem tw_169 : (.fieldLink RX4 21 "ManyOut$Reader" "into" "LManyOut$House;" : Cond) ∈ lw_gd := g_mem (List.mem_append_right _ (g_k1 (List.mem_of_getElem? (i := 169) (by decide +kernel)))) rfl
theorem tw_170 : (.fieldLink RX4 25 "ManyOut$Reader" "at" "I" : Cond) ∈ lw_gd := g_mem (List.mem_append_right _ (g_k1 (List.mem_of_getElem? (i := 170) (by decide +kernel)))) rfl
theorem tw_171 : (.fieldLink RX4 29 "ManyOut$Reader" "sign" "I" : Cond) ∈ lw_gd := g_mem (List.mem_append_right _ (g_k1 (List.mem_of_getElem? (i := 171) (by decide +kernel)))) rfl
theorem tw_172 : (.fieldLink RX4 32 "ManyOut$Reader" "numberAt" "I" : Cond) ∈ lw_gd := g_mem (List.mem_append_right _ (g_k1 (List.mem_of_getElem? (i := 172) (by decide +kernel)))) rfl
theorem tw_173 : (.fieldLink RX4 35 "ManyOut$Reader" "open" "I" : Cond) ∈ lw_gd := g_mem (List.mem_append_right _ (g_k1 (List.mem_of_getElem? (i := 173) (by decide +kernel)))) rfl
theorem tw_174 : (.fieldLink RX4 38 "ManyOut$Reader" "fault" "I" : Cond) ∈ lw_gd := g_mem (List.mem_append_right _ (g_k1 (List.mem_of_getElem? (i := 174) (by decide +kernel)))) rfl
theorem tw_176 : (.fieldLink RX4 41 "ManyOut$Reader" "place" "I" : Cond) ∈ lw_gd := g_mem (List.mem_append_right _ (g_k1 (List.mem_of_getElem? (i := 176) (by decide +kernel)))) rfl
theorem tw_34 : (.code yX4_init cX4_init 1 none : Cond) ∈ lw_gd := g_mem (List.mem_append_right _ (g_k1 (List.mem_of_getElem? (i := 34) rfl))) rfl
theorem tw_33 : (.instanceMethod yX4_init : Cond) ∈ lw_gd := g_mem (List.mem_append_right _ (g_k1 (List.mem_of_getElem? (i := 33) (by decide +kernel)))) rfl
theorem tw_420 : (.fieldLink RX11 10 "ManyOut" "reader" "LManyOut$Reader;" : Cond) ∈ lw_gd := g_mem (List.mem_append_right _ (g_k2 (List.mem_of_getElem? (i := 180) (by decide +kernel)))) rfl
theorem tn_168 : (.fieldLinkNest RX11 16 "ManyOut$Reader" "tape" "LManyOut$Tape;" "ManyOut" : Cond) ∈ lw_nw := g_nmem (g_k1 (List.mem_of_getElem? (i := 168) (by decide +kernel))) rfl
theorem tw_421 : (.fieldLink RX11 20 "ManyOut" "tape" "LManyOut$Tape;" : Cond) ∈ lw_gd := g_mem (List.mem_append_right _ (g_k2 (List.mem_of_getElem? (i := 181) (by decide +kernel)))) rfl
theorem tw_195 : (.classLink RX11 21 RX7 : Cond) ∈ lw_gd := g_mem (List.mem_append_right _ (g_k1 (List.mem_of_getElem? (i := 195) (by decide +kernel)))) rfl
theorem tw_196 : (.instantiable RX7 11 : Cond) ∈ lw_gd := g_mem (List.mem_append_right _ (g_k1 (List.mem_of_getElem? (i := 196) (by decide +kernel)))) rfl
theorem tw_7 : (.initialized RX7 : Cond) ∈ lw_gd := g_mem (List.mem_append_right _ (g_k1 (List.mem_of_getElem? (i := 7) (by decide +kernel)))) rfl
theorem tn_197 : (.methodLinkNest RX11 23 yX7_init "ManyOut" : Cond) ∈ lw_nw := g_nmem (g_k1 (List.mem_of_getElem? (i := 197) (by decide +kernel))) rfl
theorem tw_200 : (.methodLink RX7 3 objectInit : Cond) ∈ lw_gd := g_mem (List.mem_append_right _ (g_k1 (List.mem_of_getElem? (i := 200) (by decide +kernel)))) rfl
theorem tw_201 : (.classLink RX7 9 RX10 : Cond) ∈ lw_gd := g_mem (List.mem_append_right _ (g_k1 (List.mem_of_getElem? (i := 201) (by decide +kernel)))) rfl
theorem tw_202 : (.instantiable RX10 8 : Cond) ∈ lw_gd := g_mem (List.mem_append_right _ (g_k1 (List.mem_of_getElem? (i := 202) (by decide +kernel)))) rfl
theorem tw_8 : (.initialized RX10 : Cond) ∈ lw_gd := g_mem (List.mem_append_right _ (g_k1 (List.mem_of_getElem? (i := 8) (by decide +kernel)))) rfl
theorem tn_203 : (.methodLinkNest RX7 11 yX10_init "ManyOut" : Cond) ∈ lw_nw := g_nmem (g_k1 (List.mem_of_getElem? (i := 203) (by decide +kernel))) rfl
theorem tw_206 : (.methodLink RX10 3 objectInit : Cond) ∈ lw_gd := g_mem (List.mem_append_right _ (g_k1 (List.mem_of_getElem? (i := 206) (by decide +kernel)))) rfl
theorem tw_241 : (.arrayClass .long : Cond) ∈ lw_gd := g_mem (List.mem_append_right _ (g_k2 (List.mem_of_getElem? (i := 1) (by decide +kernel)))) rfl
theorem tw_207 : (.fieldLink RX10 9 "ManyOut$Walk" "products" "[J" : Cond) ∈ lw_gd := g_mem (List.mem_append_right _ (g_k1 (List.mem_of_getElem? (i := 207) (by decide +kernel)))) rfl
theorem tw_209 : (.fieldLink RX10 15 "ManyOut$Walk" "base" "[J" : Cond) ∈ lw_gd := g_mem (List.mem_append_right _ (g_k1 (List.mem_of_getElem? (i := 209) (by decide +kernel)))) rfl
theorem tw_210 : (.fieldLink RX10 18 "ManyOut$Walk" "cross" "[J" : Cond) ∈ lw_gd := g_mem (List.mem_append_right _ (g_k1 (List.mem_of_getElem? (i := 210) (by decide +kernel)))) rfl
theorem tw_211 : (.fieldLink RX10 21 "ManyOut$Walk" "low" "[I" : Cond) ∈ lw_gd := g_mem (List.mem_append_right _ (g_k1 (List.mem_of_getElem? (i := 211) (by decide +kernel)))) rfl
theorem tw_213 : (.fieldLink RX10 25 "ManyOut$Walk" "gap" "[I" : Cond) ∈ lw_gd := g_mem (List.mem_append_right _ (g_k1 (List.mem_of_getElem? (i := 213) (by decide +kernel)))) rfl
theorem tw_214 : (.fieldLink RX10 28 "ManyOut$Walk" "count" "[I" : Cond) ∈ lw_gd := g_mem (List.mem_append_right _ (g_k1 (List.mem_of_getElem? (i := 214) (by decide +kernel)))) rfl
theorem tw_216 : (.fieldLink RX10 31 "ManyOut$Walk" "digit" "[I" : Cond) ∈ lw_gd := g_mem (List.mem_append_right _ (g_k1 (List.mem_of_getElem? (i := 216) (by decide +kernel)))) rfl
theorem tw_220 : (.fieldLink RX10 34 "ManyOut$Walk" "last" "I" : Cond) ∈ lw_gd := g_mem (List.mem_append_right _ (g_k1 (List.mem_of_getElem? (i := 220) (by decide +kernel)))) rfl
theorem tw_205 : (.code yX10_init cX10_init 1 none : Cond) ∈ lw_gd := g_mem (List.mem_append_right _ (g_k1 (List.mem_of_getElem? (i := 205) rfl))) rfl
theorem tw_204 : (.instanceMethod yX10_init : Cond) ∈ lw_gd := g_mem (List.mem_append_right _ (g_k1 (List.mem_of_getElem? (i := 204) (by decide +kernel)))) rfl
theorem tw_242 : (.fieldLink RX7 12 "ManyOut$Survey" "walk" "LManyOut$Walk;" : Cond) ∈ lw_gd := g_mem (List.mem_append_right _ (g_k2 (List.mem_of_getElem? (i := 2) (by decide +kernel)))) rfl
theorem tw_243 : (.fieldLink RX7 18 "ManyOut$Survey" "nearDistance" "[J" : Cond) ∈ lw_gd := g_mem (List.mem_append_right _ (g_k2 (List.mem_of_getElem? (i := 3) (by decide +kernel)))) rfl
theorem tw_245 : (.fieldLink RX7 22 "ManyOut$Survey" "nearRow" "[I" : Cond) ∈ lw_gd := g_mem (List.mem_append_right _ (g_k2 (List.mem_of_getElem? (i := 5) (by decide +kernel)))) rfl
theorem tw_247 : (.fieldLink RX7 26 "ManyOut$Survey" "least" "[J" : Cond) ∈ lw_gd := g_mem (List.mem_append_right _ (g_k2 (List.mem_of_getElem? (i := 7) (by decide +kernel)))) rfl
theorem tw_248 : (.fieldLink RX7 29 "ManyOut$Survey" "weight" "[J" : Cond) ∈ lw_gd := g_mem (List.mem_append_right _ (g_k2 (List.mem_of_getElem? (i := 8) (by decide +kernel)))) rfl
theorem tw_249 : (.fieldLink RX7 32 "ManyOut$Survey" "turns" "[I" : Cond) ∈ lw_gd := g_mem (List.mem_append_right _ (g_k2 (List.mem_of_getElem? (i := 9) (by decide +kernel)))) rfl
theorem tw_251 : (.fieldLink RX7 35 "ManyOut$Survey" "cancelled" "[I" : Cond) ∈ lw_gd := g_mem (List.mem_append_right _ (g_k2 (List.mem_of_getElem? (i := 11) (by decide +kernel)))) rfl
theorem tw_253 : (.fieldLink RX7 38 "ManyOut$Survey" "left" "[I" : Cond) ∈ lw_gd := g_mem (List.mem_append_right _ (g_k2 (List.mem_of_getElem? (i := 13) (by decide +kernel)))) rfl
theorem tw_254 : (.fieldLink RX7 41 "ManyOut$Survey" "nearCount" "I" : Cond) ∈ lw_gd := g_mem (List.mem_append_right _ (g_k2 (List.mem_of_getElem? (i := 14) (by decide +kernel)))) rfl
theorem tw_256 : (.fieldLink RX7 45 "ManyOut$Survey" "allWeight" "J" : Cond) ∈ lw_gd := g_mem (List.mem_append_right _ (g_k2 (List.mem_of_getElem? (i := 16) (by decide +kernel)))) rfl
theorem tw_257 : (.fieldLink RX7 49 "ManyOut$Survey" "known" "Z" : Cond) ∈ lw_gd := g_mem (List.mem_append_right _ (g_k2 (List.mem_of_getElem? (i := 17) (by decide +kernel)))) rfl
theorem tw_199 : (.code yX7_init cX7_init 1 none : Cond) ∈ lw_gd := g_mem (List.mem_append_right _ (g_k1 (List.mem_of_getElem? (i := 199) rfl))) rfl
theorem tw_198 : (.instanceMethod yX7_init : Cond) ∈ lw_gd := g_mem (List.mem_append_right _ (g_k1 (List.mem_of_getElem? (i := 198) (by decide +kernel)))) rfl
theorem tw_422 : (.fieldLink RX11 24 "ManyOut" "survey" "LManyOut$Survey;" : Cond) ∈ lw_gd := g_mem (List.mem_append_right _ (g_k2 (List.mem_of_getElem? (i := 182) (by decide +kernel)))) rfl
theorem tw_281 : (.classLink RX11 28 RX6 : Cond) ∈ lw_gd := g_mem (List.mem_append_right _ (g_k2 (List.mem_of_getElem? (i := 41) (by decide +kernel)))) rfl
theorem tw_282 : (.instantiable RX6 4 : Cond) ∈ lw_gd := g_mem (List.mem_append_right _ (g_k2 (List.mem_of_getElem? (i := 42) (by decide +kernel)))) rfl
theorem tw_9 : (.initialized RX6 : Cond) ∈ lw_gd := g_mem (List.mem_append_right _ (g_k1 (List.mem_of_getElem? (i := 9) (by decide +kernel)))) rfl
theorem tw_283 : (.methodLink RX11 30 yX6_init : Cond) ∈ lw_gd := g_mem (List.mem_append_right _ (g_k2 (List.mem_of_getElem? (i := 43) (by decide +kernel)))) rfl
theorem tw_286 : (.methodLink RX6 3 objectInit : Cond) ∈ lw_gd := g_mem (List.mem_append_right _ (g_k2 (List.mem_of_getElem? (i := 46) (by decide +kernel)))) rfl
theorem tw_287 : (.classLink RX6 9 RX10 : Cond) ∈ lw_gd := g_mem (List.mem_append_right _ (g_k2 (List.mem_of_getElem? (i := 47) (by decide +kernel)))) rfl
theorem tn_288 : (.methodLinkNest RX6 11 yX10_init "ManyOut" : Cond) ∈ lw_nw := g_nmem (g_k2 (List.mem_of_getElem? (i := 48) (by decide +kernel))) rfl
theorem tw_293 : (.fieldLink RX6 12 "ManyOut$Sums" "walk" "LManyOut$Walk;" : Cond) ∈ lw_gd := g_mem (List.mem_append_right _ (g_k2 (List.mem_of_getElem? (i := 53) (by decide +kernel)))) rfl
theorem tw_294 : (.fieldLink RX6 18 "ManyOut$Sums" "numbers" "[I" : Cond) ∈ lw_gd := g_mem (List.mem_append_right _ (g_k2 (List.mem_of_getElem? (i := 54) (by decide +kernel)))) rfl
theorem tw_296 : (.fieldLink RX6 22 "ManyOut$Sums" "apartKnown" "[J" : Cond) ∈ lw_gd := g_mem (List.mem_append_right _ (g_k2 (List.mem_of_getElem? (i := 56) (by decide +kernel)))) rfl
theorem tw_297 : (.fieldLink RX6 26 "ManyOut$Sums" "leastSquares" "J" : Cond) ∈ lw_gd := g_mem (List.mem_append_right _ (g_k2 (List.mem_of_getElem? (i := 57) (by decide +kernel)))) rfl
theorem tw_289 : (.constantLong RX6 30 (-1) : Cond) ∈ lw_gd := g_mem (List.mem_append_right _ (g_k2 (List.mem_of_getElem? (i := 49) (by decide +kernel)))) rfl
theorem tw_290 : (.methodLink RX6 32 yJ7_fill_d0a16 : Cond) ∈ lw_gd := g_mem (List.mem_append_right _ (g_k2 (List.mem_of_getElem? (i := 50) (by decide +kernel)))) rfl
theorem tw_292 : (.code yJ7_fill_d0a16 cJ7_fill_d0a16 5 none : Cond) ∈ lw_gd := g_mem (List.mem_append_right _ (g_k2 (List.mem_of_getElem? (i := 52) rfl))) rfl
theorem tw_10 : (.initialized RJ7 : Cond) ∈ lw_gd := g_mem (List.mem_append_right _ (g_k1 (List.mem_of_getElem? (i := 10) (by decide +kernel)))) rfl
theorem tw_291 : (.static yJ7_fill_d0a16 : Cond) ∈ lw_gd := g_mem (List.mem_append_right _ (g_k2 (List.mem_of_getElem? (i := 51) (by decide +kernel)))) rfl
theorem tw_285 : (.code yX6_init cX6_init 1 none : Cond) ∈ lw_gd := g_mem (List.mem_append_right _ (g_k2 (List.mem_of_getElem? (i := 45) rfl))) rfl
theorem tw_284 : (.instanceMethod yX6_init : Cond) ∈ lw_gd := g_mem (List.mem_append_right _ (g_k2 (List.mem_of_getElem? (i := 44) (by decide +kernel)))) rfl
theorem tw_423 : (.fieldLink RX11 31 "ManyOut" "shortest" "LManyOut$Sums;" : Cond) ∈ lw_gd := g_mem (List.mem_append_right _ (g_k2 (List.mem_of_getElem? (i := 183) (by decide +kernel)))) rfl
theorem tw_308 : (.classLink RX11 35 RX0 : Cond) ∈ lw_gd := g_mem (List.mem_append_right _ (g_k2 (List.mem_of_getElem? (i := 68) (by decide +kernel)))) rfl
theorem tw_309 : (.instantiable RX0 7 : Cond) ∈ lw_gd := g_mem (List.mem_append_right _ (g_k2 (List.mem_of_getElem? (i := 69) (by decide +kernel)))) rfl
theorem tw_11 : (.initialized RX0 : Cond) ∈ lw_gd := g_mem (List.mem_append_right _ (g_k1 (List.mem_of_getElem? (i := 11) (by decide +kernel)))) rfl
theorem tn_310 : (.methodLinkNest RX11 37 yX0_init "ManyOut" : Cond) ∈ lw_nw := g_nmem (g_k2 (List.mem_of_getElem? (i := 70) (by decide +kernel))) rfl
theorem tw_313 : (.methodLink RX0 3 objectInit : Cond) ∈ lw_gd := g_mem (List.mem_append_right _ (g_k2 (List.mem_of_getElem? (i := 73) (by decide +kernel)))) rfl
theorem tw_314 : (.fieldLink RX0 9 "ManyOut$Code" "worth" "[J" : Cond) ∈ lw_gd := g_mem (List.mem_append_right _ (g_k2 (List.mem_of_getElem? (i := 74) (by decide +kernel)))) rfl
theorem tw_315 : (.fieldLink RX0 15 "ManyOut$Code" "difference" "[I" : Cond) ∈ lw_gd := g_mem (List.mem_append_right _ (g_k2 (List.mem_of_getElem? (i := 75) (by decide +kernel)))) rfl
theorem tw_316 : (.fieldLink RX0 19 "ManyOut$Code" "words" "I" : Cond) ∈ lw_gd := g_mem (List.mem_append_right _ (g_k2 (List.mem_of_getElem? (i := 76) (by decide +kernel)))) rfl
theorem tw_317 : (.fieldLink RX0 23 "ManyOut$Code" "known" "Z" : Cond) ∈ lw_gd := g_mem (List.mem_append_right _ (g_k2 (List.mem_of_getElem? (i := 77) (by decide +kernel)))) rfl
theorem tw_318 : (.fieldLink RX0 27 "ManyOut$Code" "leastWorth" "J" : Cond) ∈ lw_gd := g_mem (List.mem_append_right _ (g_k2 (List.mem_of_getElem? (i := 78) (by decide +kernel)))) rfl
theorem tw_320 : (.fieldLink RX0 31 "ManyOut$Code" "leastPairs" "I" : Cond) ∈ lw_gd := g_mem (List.mem_append_right _ (g_k2 (List.mem_of_getElem? (i := 80) (by decide +kernel)))) rfl
theorem tw_322 : (.fieldLink RX0 34 "ManyOut$Code" "firstPair" "I" : Cond) ∈ lw_gd := g_mem (List.mem_append_right _ (g_k2 (List.mem_of_getElem? (i := 82) (by decide +kernel)))) rfl
theorem tw_312 : (.code yX0_init cX0_init 1 none : Cond) ∈ lw_gd := g_mem (List.mem_append_right _ (g_k2 (List.mem_of_getElem? (i := 72) rfl))) rfl
theorem tw_311 : (.instanceMethod yX0_init : Cond) ∈ lw_gd := g_mem (List.mem_append_right _ (g_k2 (List.mem_of_getElem? (i := 71) (by decide +kernel)))) rfl
theorem tw_424 : (.fieldLink RX11 38 "ManyOut" "wordCode" "LManyOut$Code;" : Cond) ∈ lw_gd := g_mem (List.mem_append_right _ (g_k2 (List.mem_of_getElem? (i := 184) (by decide +kernel)))) rfl
theorem tw_339 : (.classLink RX11 42 RX3 : Cond) ∈ lw_gd := g_mem (List.mem_append_right _ (g_k2 (List.mem_of_getElem? (i := 99) (by decide +kernel)))) rfl
theorem tw_340 : (.instantiable RX3 10 : Cond) ∈ lw_gd := g_mem (List.mem_append_right _ (g_k2 (List.mem_of_getElem? (i := 100) (by decide +kernel)))) rfl
theorem tw_12 : (.initialized RX3 : Cond) ∈ lw_gd := g_mem (List.mem_append_right _ (g_k1 (List.mem_of_getElem? (i := 12) (by decide +kernel)))) rfl
theorem tn_341 : (.methodLinkNest RX11 44 yX3_init "ManyOut" : Cond) ∈ lw_nw := g_nmem (g_k2 (List.mem_of_getElem? (i := 101) (by decide +kernel))) rfl
theorem tw_344 : (.methodLink RX3 3 objectInit : Cond) ∈ lw_gd := g_mem (List.mem_append_right _ (g_k2 (List.mem_of_getElem? (i := 104) (by decide +kernel)))) rfl
theorem tw_345 : (.classLink RX3 9 RX10 : Cond) ∈ lw_gd := g_mem (List.mem_append_right _ (g_k2 (List.mem_of_getElem? (i := 105) (by decide +kernel)))) rfl
theorem tn_346 : (.methodLinkNest RX3 11 yX10_init "ManyOut" : Cond) ∈ lw_nw := g_nmem (g_k2 (List.mem_of_getElem? (i := 106) (by decide +kernel))) rfl
theorem tw_348 : (.fieldLink RX3 12 "ManyOut$Power" "walk" "LManyOut$Walk;" : Cond) ∈ lw_gd := g_mem (List.mem_append_right _ (g_k2 (List.mem_of_getElem? (i := 108) (by decide +kernel)))) rfl
theorem tw_349 : (.fieldLink RX3 18 "ManyOut$Power" "put" "[I" : Cond) ∈ lw_gd := g_mem (List.mem_append_right _ (g_k2 (List.mem_of_getElem? (i := 109) (by decide +kernel)))) rfl
theorem tw_351 : (.fieldLink RX3 22 "ManyOut$Power" "found" "[I" : Cond) ∈ lw_gd := g_mem (List.mem_append_right _ (g_k2 (List.mem_of_getElem? (i := 111) (by decide +kernel)))) rfl
theorem tw_352 : (.fieldLink RX3 25 "ManyOut$Power" "letters" "[I" : Cond) ∈ lw_gd := g_mem (List.mem_append_right _ (g_k2 (List.mem_of_getElem? (i := 112) (by decide +kernel)))) rfl
theorem tw_353 : (.fieldLink RX3 28 "ManyOut$Power" "tried" "[I" : Cond) ∈ lw_gd := g_mem (List.mem_append_right _ (g_k2 (List.mem_of_getElem? (i := 113) (by decide +kernel)))) rfl
theorem tw_354 : (.fieldLink RX3 31 "ManyOut$Power" "pull" "[J" : Cond) ∈ lw_gd := g_mem (List.mem_append_right _ (g_k2 (List.mem_of_getElem? (i := 114) (by decide +kernel)))) rfl
theorem tw_355 : (.fieldLink RX3 35 "ManyOut$Power" "squares" "J" : Cond) ∈ lw_gd := g_mem (List.mem_append_right _ (g_k2 (List.mem_of_getElem? (i := 115) (by decide +kernel)))) rfl
theorem tw_356 : (.fieldLink RX3 39 "ManyOut$Power" "isPut" "Z" : Cond) ∈ lw_gd := g_mem (List.mem_append_right _ (g_k2 (List.mem_of_getElem? (i := 116) (by decide +kernel)))) rfl
theorem tw_347 : (.constantLong RX3 43 (-1) : Cond) ∈ lw_gd := g_mem (List.mem_append_right _ (g_k2 (List.mem_of_getElem? (i := 107) (by decide +kernel)))) rfl
theorem tw_358 : (.fieldLink RX3 45 "ManyOut$Power" "spanLeast" "J" : Cond) ∈ lw_gd := g_mem (List.mem_append_right _ (g_k2 (List.mem_of_getElem? (i := 118) (by decide +kernel)))) rfl
theorem tw_359 : (.fieldLink RX3 48 "ManyOut$Power" "spanMost" "J" : Cond) ∈ lw_gd := g_mem (List.mem_append_right _ (g_k2 (List.mem_of_getElem? (i := 119) (by decide +kernel)))) rfl
theorem tw_343 : (.code yX3_init cX3_init 1 none : Cond) ∈ lw_gd := g_mem (List.mem_append_right _ (g_k2 (List.mem_of_getElem? (i := 103) rfl))) rfl
theorem tw_342 : (.instanceMethod yX3_init : Cond) ∈ lw_gd := g_mem (List.mem_append_right _ (g_k2 (List.mem_of_getElem? (i := 102) (by decide +kernel)))) rfl
theorem tw_425 : (.fieldLink RX11 45 "ManyOut" "power" "LManyOut$Power;" : Cond) ∈ lw_gd := g_mem (List.mem_append_right _ (g_k2 (List.mem_of_getElem? (i := 185) (by decide +kernel)))) rfl
theorem tw_426 : (.fieldLink RX11 49 "ManyOut" "heardNumbers" "[I" : Cond) ∈ lw_gd := g_mem (List.mem_append_right _ (g_k2 (List.mem_of_getElem? (i := 186) (by decide +kernel)))) rfl
theorem tw_427 : (.fieldLink RX11 53 "ManyOut" "rowLetters" "[I" : Cond) ∈ lw_gd := g_mem (List.mem_append_right _ (g_k2 (List.mem_of_getElem? (i := 187) (by decide +kernel)))) rfl
theorem tw_428 : (.fieldLink RX11 56 "ManyOut" "worths" "[I" : Cond) ∈ lw_gd := g_mem (List.mem_append_right _ (g_k2 (List.mem_of_getElem? (i := 188) (by decide +kernel)))) rfl
theorem tw_429 : (.fieldLink RX11 59 "ManyOut" "imageBytes" "[I" : Cond) ∈ lw_gd := g_mem (List.mem_append_right _ (g_k2 (List.mem_of_getElem? (i := 189) (by decide +kernel)))) rfl
theorem tw_430 : (.fieldLink RX11 62 "ManyOut" "imageLength" "I" : Cond) ∈ lw_gd := g_mem (List.mem_append_right _ (g_k2 (List.mem_of_getElem? (i := 190) (by decide +kernel)))) rfl
theorem tw_381 : (.classLink RX11 66 RX1 : Cond) ∈ lw_gd := g_mem (List.mem_append_right _ (g_k2 (List.mem_of_getElem? (i := 141) (by decide +kernel)))) rfl
theorem tn_382 : (.methodLinkNest RX11 68 yX1_init "ManyOut" : Cond) ∈ lw_nw := g_nmem (g_k2 (List.mem_of_getElem? (i := 142) (by decide +kernel))) rfl
theorem tw_431 : (.fieldLink RX11 69 "ManyOut" "home" "LManyOut$House;" : Cond) ∈ lw_gd := g_mem (List.mem_append_right _ (g_k2 (List.mem_of_getElem? (i := 191) (by decide +kernel)))) rfl
theorem tw_383 : (.classLink RX11 73 RX2 : Cond) ∈ lw_gd := g_mem (List.mem_append_right _ (g_k2 (List.mem_of_getElem? (i := 143) (by decide +kernel)))) rfl
theorem tw_384 : (.instantiable RX2 8 : Cond) ∈ lw_gd := g_mem (List.mem_append_right _ (g_k2 (List.mem_of_getElem? (i := 144) (by decide +kernel)))) rfl
theorem tw_13 : (.initialized RX2 : Cond) ∈ lw_gd := g_mem (List.mem_append_right _ (g_k1 (List.mem_of_getElem? (i := 13) (by decide +kernel)))) rfl
theorem tn_385 : (.methodLinkNest RX11 75 yX2_init "ManyOut" : Cond) ∈ lw_nw := g_nmem (g_k2 (List.mem_of_getElem? (i := 145) (by decide +kernel))) rfl
theorem tw_388 : (.methodLink RX2 3 objectInit : Cond) ∈ lw_gd := g_mem (List.mem_append_right _ (g_k2 (List.mem_of_getElem? (i := 148) (by decide +kernel)))) rfl
theorem tw_389 : (.classLink RX2 9 RX8 : Cond) ∈ lw_gd := g_mem (List.mem_append_right _ (g_k2 (List.mem_of_getElem? (i := 149) (by decide +kernel)))) rfl
theorem tn_390 : (.methodLinkNest RX2 11 yX8_init "ManyOut" : Cond) ∈ lw_nw := g_nmem (g_k2 (List.mem_of_getElem? (i := 150) (by decide +kernel))) rfl
theorem tw_391 : (.fieldLink RX2 12 "ManyOut$Led" "table" "LManyOut$Table;" : Cond) ∈ lw_gd := g_mem (List.mem_append_right _ (g_k2 (List.mem_of_getElem? (i := 151) (by decide +kernel)))) rfl
theorem tw_393 : (.fieldLink RX2 18 "ManyOut$Led" "leader" "[J" : Cond) ∈ lw_gd := g_mem (List.mem_append_right _ (g_k2 (List.mem_of_getElem? (i := 153) (by decide +kernel)))) rfl
theorem tw_394 : (.fieldLink RX2 22 "ManyOut$Led" "steps" "[I" : Cond) ∈ lw_gd := g_mem (List.mem_append_right _ (g_k2 (List.mem_of_getElem? (i := 154) (by decide +kernel)))) rfl
theorem tw_395 : (.fieldLink RX2 26 "ManyOut$Led" "senders" "I" : Cond) ∈ lw_gd := g_mem (List.mem_append_right _ (g_k2 (List.mem_of_getElem? (i := 155) (by decide +kernel)))) rfl
theorem tw_396 : (.fieldLink RX2 30 "ManyOut$Led" "oldest" "I" : Cond) ∈ lw_gd := g_mem (List.mem_append_right _ (g_k2 (List.mem_of_getElem? (i := 156) (by decide +kernel)))) rfl
theorem tw_397 : (.fieldLink RX2 33 "ManyOut$Led" "undoable" "I" : Cond) ∈ lw_gd := g_mem (List.mem_append_right _ (g_k2 (List.mem_of_getElem? (i := 157) (by decide +kernel)))) rfl
theorem tw_399 : (.fieldLink RX2 36 "ManyOut$Led" "redoable" "I" : Cond) ∈ lw_gd := g_mem (List.mem_append_right _ (g_k2 (List.mem_of_getElem? (i := 159) (by decide +kernel)))) rfl
theorem tw_401 : (.fieldLink RX2 39 "ManyOut$Led" "done" "I" : Cond) ∈ lw_gd := g_mem (List.mem_append_right _ (g_k2 (List.mem_of_getElem? (i := 161) (by decide +kernel)))) rfl
theorem tw_387 : (.code yX2_init cX2_init 1 none : Cond) ∈ lw_gd := g_mem (List.mem_append_right _ (g_k2 (List.mem_of_getElem? (i := 147) rfl))) rfl
theorem tw_386 : (.instanceMethod yX2_init : Cond) ∈ lw_gd := g_mem (List.mem_append_right _ (g_k2 (List.mem_of_getElem? (i := 146) (by decide +kernel)))) rfl
theorem tw_432 : (.fieldLink RX11 76 "ManyOut" "led" "LManyOut$Led;" : Cond) ∈ lw_gd := g_mem (List.mem_append_right _ (g_k2 (List.mem_of_getElem? (i := 192) (by decide +kernel)))) rfl
theorem tw_433 : (.fieldLink RX11 80 "ManyOut" "spareLed" "LManyOut$Led;" : Cond) ∈ lw_gd := g_mem (List.mem_append_right _ (g_k2 (List.mem_of_getElem? (i := 193) (by decide +kernel)))) rfl
theorem tw_1400 : (.methodLink RX12 1 objectInit : Cond) ∈ lw_gd := g_mem (List.mem_append_right _ (g_k6 (List.mem_of_getElem? (i := 200) (by decide +kernel)))) rfl
theorem tw_1401 : (.fieldLink RX12 7 "ManyOutModel" "tape" "[I" : Cond) ∈ lw_gd := g_mem (List.mem_append_right _ (g_k6 (List.mem_of_getElem? (i := 201) (by decide +kernel)))) rfl
theorem tw_1409 : (.fieldLink RX12 13 "ManyOutModel" "faultPlace" "I" : Cond) ∈ lw_gd := g_mem (List.mem_append_right _ (g_k6 (List.mem_of_getElem? (i := 209) (by decide +kernel)))) rfl
theorem tw_1621 : (.arrayClass .char : Cond) ∈ lw_gd := g_mem (List.mem_append_right _ (g_k7 (List.mem_of_getElem? (i := 181) (by decide +kernel)))) rfl
theorem tw_1410 : (.fieldLink RX12 17 "ManyOutModel" "houseWord" "[C" : Cond) ∈ lw_gd := g_mem (List.mem_append_right _ (g_k6 (List.mem_of_getElem? (i := 210) (by decide +kernel)))) rfl
theorem tw_1411 : (.fieldLink RX12 21 "ManyOutModel" "rowWord" "[C" : Cond) ∈ lw_gd := g_mem (List.mem_append_right _ (g_k6 (List.mem_of_getElem? (i := 211) (by decide +kernel)))) rfl
theorem tw_1412 : (.fieldLink RX12 24 "ManyOutModel" "wordWord" "[C" : Cond) ∈ lw_gd := g_mem (List.mem_append_right _ (g_k6 (List.mem_of_getElem? (i := 212) (by decide +kernel)))) rfl
theorem tw_1413 : (.fieldLink RX12 27 "ManyOutModel" "worthWord" "[C" : Cond) ∈ lw_gd := g_mem (List.mem_append_right _ (g_k6 (List.mem_of_getElem? (i := 213) (by decide +kernel)))) rfl
theorem tw_1414 : (.fieldLink RX12 30 "ManyOutModel" "limitWord" "[C" : Cond) ∈ lw_gd := g_mem (List.mem_append_right _ (g_k6 (List.mem_of_getElem? (i := 214) (by decide +kernel)))) rfl
theorem tw_1415 : (.fieldLink RX12 33 "ManyOutModel" "whenWord" "[C" : Cond) ∈ lw_gd := g_mem (List.mem_append_right _ (g_k6 (List.mem_of_getElem? (i := 215) (by decide +kernel)))) rfl
theorem tw_1416 : (.fieldLink RX12 36 "ManyOutModel" "orWord" "[C" : Cond) ∈ lw_gd := g_mem (List.mem_append_right _ (g_k6 (List.mem_of_getElem? (i := 216) (by decide +kernel)))) rfl
theorem tw_1417 : (.fieldLink RX12 39 "ManyOutModel" "andWord" "[C" : Cond) ∈ lw_gd := g_mem (List.mem_append_right _ (g_k6 (List.mem_of_getElem? (i := 217) (by decide +kernel)))) rfl
theorem tw_1418 : (.fieldLink RX12 42 "ManyOutModel" "notWord" "[C" : Cond) ∈ lw_gd := g_mem (List.mem_append_right _ (g_k6 (List.mem_of_getElem? (i := 218) (by decide +kernel)))) rfl
theorem tw_1419 : (.fieldLink RX12 45 "ManyOutModel" "allWord" "[C" : Cond) ∈ lw_gd := g_mem (List.mem_append_right _ (g_k6 (List.mem_of_getElem? (i := 219) (by decide +kernel)))) rfl
theorem tw_1420 : (.fieldLink RX12 48 "ManyOutModel" "senderWord" "[C" : Cond) ∈ lw_gd := g_mem (List.mem_append_right _ (g_k6 (List.mem_of_getElem? (i := 220) (by decide +kernel)))) rfl
theorem tw_1421 : (.fieldLink RX12 51 "ManyOutModel" "squareWord" "[C" : Cond) ∈ lw_gd := g_mem (List.mem_append_right _ (g_k6 (List.mem_of_getElem? (i := 221) (by decide +kernel)))) rfl
theorem tw_1422 : (.fieldLink RX12 54 "ManyOutModel" "peakWord" "[C" : Cond) ∈ lw_gd := g_mem (List.mem_append_right _ (g_k6 (List.mem_of_getElem? (i := 222) (by decide +kernel)))) rfl
theorem tw_1423 : (.fieldLink RX12 57 "ManyOutModel" "minWord" "[C" : Cond) ∈ lw_gd := g_mem (List.mem_append_right _ (g_k6 (List.mem_of_getElem? (i := 223) (by decide +kernel)))) rfl
theorem tw_1424 : (.fieldLink RX12 60 "ManyOutModel" "maxWord" "[C" : Cond) ∈ lw_gd := g_mem (List.mem_append_right _ (g_k6 (List.mem_of_getElem? (i := 224) (by decide +kernel)))) rfl
theorem tw_1430 : (.fieldLink RX12 63 "ManyOutModel" "limit" "I" : Cond) ∈ lw_gd := g_mem (List.mem_append_right _ (g_k6 (List.mem_of_getElem? (i := 230) (by decide +kernel)))) rfl
theorem tw_1431 : (.fieldLink RX12 66 "ManyOutModel" "read" "[I" : Cond) ∈ lw_gd := g_mem (List.mem_append_right _ (g_k6 (List.mem_of_getElem? (i := 231) (by decide +kernel)))) rfl
theorem tw_1432 : (.fieldLink RX12 69 "ManyOutModel" "table" "[I" : Cond) ∈ lw_gd := g_mem (List.mem_append_right _ (g_k6 (List.mem_of_getElem? (i := 232) (by decide +kernel)))) rfl
theorem tw_1433 : (.fieldLink RX12 72 "ManyOutModel" "word" "[I" : Cond) ∈ lw_gd := g_mem (List.mem_append_right _ (g_k6 (List.mem_of_getElem? (i := 233) (by decide +kernel)))) rfl
theorem tw_1435 : (.fieldLink RX12 75 "ManyOutModel" "codes" "[I" : Cond) ∈ lw_gd := g_mem (List.mem_append_right _ (g_k6 (List.mem_of_getElem? (i := 235) (by decide +kernel)))) rfl
theorem tw_1437 : (.fieldLink RX12 78 "ManyOutModel" "wait" "[I" : Cond) ∈ lw_gd := g_mem (List.mem_append_right _ (g_k6 (List.mem_of_getElem? (i := 237) (by decide +kernel)))) rfl
theorem tw_1440 : (.fieldLink RX12 81 "ManyOutModel" "rules" "[I" : Cond) ∈ lw_gd := g_mem (List.mem_append_right _ (g_k7 (List.mem_of_getElem? (i := 0) (by decide +kernel)))) rfl
theorem tw_1441 : (.fieldLink RX12 84 "ManyOutModel" "sumFrom" "[I" : Cond) ∈ lw_gd := g_mem (List.mem_append_right _ (g_k7 (List.mem_of_getElem? (i := 1) (by decide +kernel)))) rfl
theorem tw_1442 : (.fieldLink RX12 87 "ManyOutModel" "sumEnd" "[I" : Cond) ∈ lw_gd := g_mem (List.mem_append_right _ (g_k7 (List.mem_of_getElem? (i := 2) (by decide +kernel)))) rfl
theorem tw_1443 : (.fieldLink RX12 90 "ManyOutModel" "testEnd" "[I" : Cond) ∈ lw_gd := g_mem (List.mem_append_right _ (g_k7 (List.mem_of_getElem? (i := 3) (by decide +kernel)))) rfl
theorem tw_1445 : (.fieldLink RX12 93 "ManyOutModel" "pile" "[J" : Cond) ∈ lw_gd := g_mem (List.mem_append_right _ (g_k7 (List.mem_of_getElem? (i := 5) (by decide +kernel)))) rfl
theorem tw_1447 : (.fieldLink RX12 97 "ManyOutModel" "led" "[I" : Cond) ∈ lw_gd := g_mem (List.mem_append_right _ (g_k7 (List.mem_of_getElem? (i := 7) (by decide +kernel)))) rfl
theorem tw_1448 : (.fieldLink RX12 100 "ManyOutModel" "heard" "[I" : Cond) ∈ lw_gd := g_mem (List.mem_append_right _ (g_k7 (List.mem_of_getElem? (i := 8) (by decide +kernel)))) rfl
theorem tw_1449 : (.fieldLink RX12 103 "ManyOutModel" "row" "[I" : Cond) ∈ lw_gd := g_mem (List.mem_append_right _ (g_k7 (List.mem_of_getElem? (i := 9) (by decide +kernel)))) rfl
theorem tw_1451 : (.fieldLink RX12 106 "ManyOutModel" "bestFar" "[J" : Cond) ∈ lw_gd := g_mem (List.mem_append_right _ (g_k7 (List.mem_of_getElem? (i := 11) (by decide +kernel)))) rfl
theorem tw_1452 : (.fieldLink RX12 109 "ManyOutModel" "bestRow" "[I" : Cond) ∈ lw_gd := g_mem (List.mem_append_right _ (g_k7 (List.mem_of_getElem? (i := 12) (by decide +kernel)))) rfl
theorem tw_1453 : (.fieldLink RX12 112 "ManyOutModel" "turnOf" "[I" : Cond) ∈ lw_gd := g_mem (List.mem_append_right _ (g_k7 (List.mem_of_getElem? (i := 13) (by decide +kernel)))) rfl
theorem tw_1454 : (.fieldLink RX12 115 "ManyOutModel" "found" "[I" : Cond) ∈ lw_gd := g_mem (List.mem_append_right _ (g_k7 (List.mem_of_getElem? (i := 14) (by decide +kernel)))) rfl
theorem tw_1455 : (.fieldLink RX12 118 "ManyOutModel" "rest" "[J" : Cond) ∈ lw_gd := g_mem (List.mem_append_right _ (g_k7 (List.mem_of_getElem? (i := 15) (by decide +kernel)))) rfl
theorem tw_1456 : (.fieldLink RX12 121 "ManyOutModel" "leader" "[J" : Cond) ∈ lw_gd := g_mem (List.mem_append_right _ (g_k7 (List.mem_of_getElem? (i := 16) (by decide +kernel)))) rfl
theorem tw_1457 : (.fieldLink RX12 124 "ManyOutModel" "stepTo" "[I" : Cond) ∈ lw_gd := g_mem (List.mem_append_right _ (g_k7 (List.mem_of_getElem? (i := 17) (by decide +kernel)))) rfl
theorem tw_1458 : (.fieldLink RX12 127 "ManyOutModel" "stepBy" "[I" : Cond) ∈ lw_gd := g_mem (List.mem_append_right _ (g_k7 (List.mem_of_getElem? (i := 18) (by decide +kernel)))) rfl
theorem tw_1459 : (.fieldLink RX12 130 "ManyOutModel" "stepTimes" "[I" : Cond) ∈ lw_gd := g_mem (List.mem_append_right _ (g_k7 (List.mem_of_getElem? (i := 19) (by decide +kernel)))) rfl
theorem tw_1464 : (.fieldLink RX12 133 "ManyOutModel" "bestNumbers" "[I" : Cond) ∈ lw_gd := g_mem (List.mem_append_right _ (g_k7 (List.mem_of_getElem? (i := 24) (by decide +kernel)))) rfl
theorem tw_1466 : (.fieldLink RX12 136 "ManyOutModel" "put" "[I" : Cond) ∈ lw_gd := g_mem (List.mem_append_right _ (g_k7 (List.mem_of_getElem? (i := 26) (by decide +kernel)))) rfl
theorem tw_1467 : (.fieldLink RX12 139 "ManyOutModel" "asked" "[I" : Cond) ∈ lw_gd := g_mem (List.mem_append_right _ (g_k7 (List.mem_of_getElem? (i := 27) (by decide +kernel)))) rfl
theorem tw_1468 : (.fieldLink RX12 142 "ManyOutModel" "putAside" "[I" : Cond) ∈ lw_gd := g_mem (List.mem_append_right _ (g_k7 (List.mem_of_getElem? (i := 28) (by decide +kernel)))) rfl
theorem tw_1469 : (.fieldLink RX12 145 "ManyOutModel" "octet" "[I" : Cond) ∈ lw_gd := g_mem (List.mem_append_right _ (g_k7 (List.mem_of_getElem? (i := 29) (by decide +kernel)))) rfl
theorem tw_463 : (.methodLink RL 13 yX11_feed : Cond) ∈ lw_gd := g_mem (List.mem_append_right _ (g_k2 (List.mem_of_getElem? (i := 223) (by decide +kernel)))) rfl
theorem tw_467 : (.methodLink RX11 83 yX9_hasRoom : Cond) ∈ lw_gd := g_mem (List.mem_append_right _ (g_k2 (List.mem_of_getElem? (i := 227) (by decide +kernel)))) rfl
theorem tw_470 : (.code yX9_hasRoom cX9_hasRoom 2 (some .boolean) : Cond) ∈ lw_gd := g_mem (List.mem_append_right _ (g_k2 (List.mem_of_getElem? (i := 230) rfl))) rfl
theorem tw_469 : (.selects RX9 yX9_hasRoom yX9_hasRoom : Cond) ∈ lw_gd := g_mem (List.mem_append_right _ (g_k2 (List.mem_of_getElem? (i := 229) (by decide +kernel)))) rfl
theorem tw_468 : (.instanceMethod yX9_hasRoom : Cond) ∈ lw_gd := g_mem (List.mem_append_right _ (g_k2 (List.mem_of_getElem? (i := 228) (by decide +kernel)))) rfl
theorem tw_471 : (.methodLink RX11 89 yX9_addNumber : Cond) ∈ lw_gd := g_mem (List.mem_append_right _ (g_k2 (List.mem_of_getElem? (i := 231) (by decide +kernel)))) rfl
theorem tw_474 : (.code yX9_addNumber cX9_addNumber 3 none : Cond) ∈ lw_gd := g_mem (List.mem_append_right _ (g_k2 (List.mem_of_getElem? (i := 234) rfl))) rfl
theorem tw_473 : (.selects RX9 yX9_addNumber yX9_addNumber : Cond) ∈ lw_gd := g_mem (List.mem_append_right _ (g_k2 (List.mem_of_getElem? (i := 233) (by decide +kernel)))) rfl
theorem tw_472 : (.instanceMethod yX9_addNumber : Cond) ∈ lw_gd := g_mem (List.mem_append_right _ (g_k2 (List.mem_of_getElem? (i := 232) (by decide +kernel)))) rfl
theorem tw_475 : (.methodLink RX11 93 yX9_length : Cond) ∈ lw_gd := g_mem (List.mem_append_right _ (g_k2 (List.mem_of_getElem? (i := 235) (by decide +kernel)))) rfl
theorem tw_478 : (.code yX9_length cX9_length 1 (some .int) : Cond) ∈ lw_gd := g_mem (List.mem_append_right _ (g_k2 (List.mem_of_getElem? (i := 238) rfl))) rfl
theorem tw_477 : (.selects RX9 yX9_length yX9_length : Cond) ∈ lw_gd := g_mem (List.mem_append_right _ (g_k2 (List.mem_of_getElem? (i := 237) (by decide +kernel)))) rfl
theorem tw_476 : (.instanceMethod yX9_length : Cond) ∈ lw_gd := g_mem (List.mem_append_right _ (g_k2 (List.mem_of_getElem? (i := 236) (by decide +kernel)))) rfl
theorem tw_466 : (.code yX11_feed cX11_feed 6 (some .int) : Cond) ∈ lw_gd := g_mem (List.mem_append_right _ (g_k2 (List.mem_of_getElem? (i := 226) rfl))) rfl
theorem tw_1 : (.initialized RX11 : Cond) ∈ lw_gd := g_mem (List.mem_append_right _ (g_k1 (List.mem_of_getElem? (i := 1) (by decide +kernel)))) rfl
theorem tw_465 : (.selects RX11 yX11_feed yX11_feed : Cond) ∈ lw_gd := g_mem (List.mem_append_right _ (g_k2 (List.mem_of_getElem? (i := 225) (by decide +kernel)))) rfl
theorem tw_464 : (.instanceMethod yX11_feed : Cond) ∈ lw_gd := g_mem (List.mem_append_right _ (g_k2 (List.mem_of_getElem? (i := 224) (by decide +kernel)))) rfl
theorem tw_1622 : (.methodLink RL 17 yX12_feed : Cond) ∈ lw_gd := g_mem (List.mem_append_right _ (g_k7 (List.mem_of_getElem? (i := 182) (by decide +kernel)))) rfl
theorem tw_1402 : (.fieldLink RX12 148 "ManyOutModel" "taped" "I" : Cond) ∈ lw_gd := g_mem (List.mem_append_right _ (g_k6 (List.mem_of_getElem? (i := 202) (by decide +kernel)))) rfl
theorem tw_1625 : (.code yX12_feed cX12_feed 8 (some .int) : Cond) ∈ lw_gd := g_mem (List.mem_append_right _ (g_k7 (List.mem_of_getElem? (i := 185) rfl))) rfl
theorem tw_14 : (.initialized RX12 : Cond) ∈ lw_gd := g_mem (List.mem_append_right _ (g_k1 (List.mem_of_getElem? (i := 14) (by decide +kernel)))) rfl
theorem tw_1624 : (.selects RX12 yX12_feed yX12_feed : Cond) ∈ lw_gd := g_mem (List.mem_append_right _ (g_k7 (List.mem_of_getElem? (i := 184) (by decide +kernel)))) rfl
theorem tw_1623 : (.instanceMethod yX12_feed : Cond) ∈ lw_gd := g_mem (List.mem_append_right _ (g_k7 (List.mem_of_getElem? (i := 183) (by decide +kernel)))) rfl
theorem tw_479 : (.methodLink RL 18 yX11_end : Cond) ∈ lw_gd := g_mem (List.mem_append_right _ (g_k2 (List.mem_of_getElem? (i := 239) (by decide +kernel)))) rfl
theorem tw_483 : (.methodLink RX11 97 yX9_cutTo : Cond) ∈ lw_gd := g_mem (List.mem_append_right _ (g_k3 (List.mem_of_getElem? (i := 3) (by decide +kernel)))) rfl
theorem tw_486 : (.code yX9_cutTo cX9_cutTo 2 none : Cond) ∈ lw_gd := g_mem (List.mem_append_right _ (g_k3 (List.mem_of_getElem? (i := 6) rfl))) rfl
theorem tw_485 : (.selects RX9 yX9_cutTo yX9_cutTo : Cond) ∈ lw_gd := g_mem (List.mem_append_right _ (g_k3 (List.mem_of_getElem? (i := 5) (by decide +kernel)))) rfl
theorem tw_484 : (.instanceMethod yX9_cutTo : Cond) ∈ lw_gd := g_mem (List.mem_append_right _ (g_k3 (List.mem_of_getElem? (i := 4) (by decide +kernel)))) rfl
theorem tw_482 : (.code yX11_end cX11_end 2 (some .boolean) : Cond) ∈ lw_gd := g_mem (List.mem_append_right _ (g_k3 (List.mem_of_getElem? (i := 2) rfl))) rfl
theorem tw_481 : (.selects RX11 yX11_end yX11_end : Cond) ∈ lw_gd := g_mem (List.mem_append_right _ (g_k3 (List.mem_of_getElem? (i := 1) (by decide +kernel)))) rfl
theorem tw_480 : (.instanceMethod yX11_end : Cond) ∈ lw_gd := g_mem (List.mem_append_right _ (g_k3 (List.mem_of_getElem? (i := 0) (by decide +kernel)))) rfl
theorem tw_1626 : (.methodLink RL 22 yX12_end : Cond) ∈ lw_gd := g_mem (List.mem_append_right _ (g_k7 (List.mem_of_getElem? (i := 186) (by decide +kernel)))) rfl
theorem tw_1629 : (.code yX12_end cX12_end 2 (some .boolean) : Cond) ∈ lw_gd := g_mem (List.mem_append_right _ (g_k7 (List.mem_of_getElem? (i := 189) rfl))) rfl
theorem tw_1628 : (.selects RX12 yX12_end yX12_end : Cond) ∈ lw_gd := g_mem (List.mem_append_right _ (g_k7 (List.mem_of_getElem? (i := 188) (by decide +kernel)))) rfl
theorem tw_1627 : (.instanceMethod yX12_end : Cond) ∈ lw_gd := g_mem (List.mem_append_right _ (g_k7 (List.mem_of_getElem? (i := 187) (by decide +kernel)))) rfl
theorem tw_487 : (.methodLink RL 23 yX11_house : Cond) ∈ lw_gd := g_mem (List.mem_append_right _ (g_k3 (List.mem_of_getElem? (i := 7) (by decide +kernel)))) rfl
theorem tw_491 : (.methodLink RX11 100 yX4_readHouse : Cond) ∈ lw_gd := g_mem (List.mem_append_right _ (g_k3 (List.mem_of_getElem? (i := 11) (by decide +kernel)))) rfl
theorem tw_495 : (.methodLink RX4 44 yX1_clear : Cond) ∈ lw_gd := g_mem (List.mem_append_right _ (g_k3 (List.mem_of_getElem? (i := 15) (by decide +kernel)))) rfl
theorem tw_499 : (.methodLink RX1 51 yX8_clear : Cond) ∈ lw_gd := g_mem (List.mem_append_right _ (g_k3 (List.mem_of_getElem? (i := 19) (by decide +kernel)))) rfl
theorem tw_503 : (.methodLink RX8 15 yJ7_fill_53178 : Cond) ∈ lw_gd := g_mem (List.mem_append_right _ (g_k3 (List.mem_of_getElem? (i := 23) (by decide +kernel)))) rfl
theorem tw_505 : (.code yJ7_fill_53178 cJ7_fill_53178 4 none : Cond) ∈ lw_gd := g_mem (List.mem_append_right _ (g_k3 (List.mem_of_getElem? (i := 25) rfl))) rfl
theorem tw_504 : (.static yJ7_fill_53178 : Cond) ∈ lw_gd := g_mem (List.mem_append_right _ (g_k3 (List.mem_of_getElem? (i := 24) (by decide +kernel)))) rfl
theorem tw_502 : (.code yX8_clear cX8_clear 1 none : Cond) ∈ lw_gd := g_mem (List.mem_append_right _ (g_k3 (List.mem_of_getElem? (i := 22) rfl))) rfl
theorem tw_501 : (.selects RX8 yX8_clear yX8_clear : Cond) ∈ lw_gd := g_mem (List.mem_append_right _ (g_k3 (List.mem_of_getElem? (i := 21) (by decide +kernel)))) rfl
theorem tw_500 : (.instanceMethod yX8_clear : Cond) ∈ lw_gd := g_mem (List.mem_append_right _ (g_k3 (List.mem_of_getElem? (i := 20) (by decide +kernel)))) rfl
theorem tw_506 : (.methodLink RX1 54 yX5_clear : Cond) ∈ lw_gd := g_mem (List.mem_append_right _ (g_k3 (List.mem_of_getElem? (i := 26) (by decide +kernel)))) rfl
theorem tw_509 : (.code yX5_clear cX5_clear 1 none : Cond) ∈ lw_gd := g_mem (List.mem_append_right _ (g_k3 (List.mem_of_getElem? (i := 29) rfl))) rfl
theorem tw_508 : (.selects RX5 yX5_clear yX5_clear : Cond) ∈ lw_gd := g_mem (List.mem_append_right _ (g_k3 (List.mem_of_getElem? (i := 28) (by decide +kernel)))) rfl
theorem tw_507 : (.instanceMethod yX5_clear : Cond) ∈ lw_gd := g_mem (List.mem_append_right _ (g_k3 (List.mem_of_getElem? (i := 27) (by decide +kernel)))) rfl
theorem tw_498 : (.code yX1_clear cX1_clear 1 none : Cond) ∈ lw_gd := g_mem (List.mem_append_right _ (g_k3 (List.mem_of_getElem? (i := 18) rfl))) rfl
theorem tw_497 : (.selects RX1 yX1_clear yX1_clear : Cond) ∈ lw_gd := g_mem (List.mem_append_right _ (g_k3 (List.mem_of_getElem? (i := 17) (by decide +kernel)))) rfl
theorem tw_496 : (.instanceMethod yX1_clear : Cond) ∈ lw_gd := g_mem (List.mem_append_right _ (g_k3 (List.mem_of_getElem? (i := 16) (by decide +kernel)))) rfl
theorem tw_510 : (.methodLink RX4 47 yX4_goOn : Cond) ∈ lw_gd := g_mem (List.mem_append_right _ (g_k3 (List.mem_of_getElem? (i := 30) (by decide +kernel)))) rfl
theorem tw_514 : (.methodLink RX4 70 yX9_length : Cond) ∈ lw_gd := g_mem (List.mem_append_right _ (g_k3 (List.mem_of_getElem? (i := 34) (by decide +kernel)))) rfl
theorem tw_515 : (.methodLink RX4 74 yX9_at : Cond) ∈ lw_gd := g_mem (List.mem_append_right _ (g_k3 (List.mem_of_getElem? (i := 35) (by decide +kernel)))) rfl
theorem tw_518 : (.code yX9_at cX9_at 2 (some .int) : Cond) ∈ lw_gd := g_mem (List.mem_append_right _ (g_k3 (List.mem_of_getElem? (i := 38) rfl))) rfl
theorem tw_517 : (.selects RX9 yX9_at yX9_at : Cond) ∈ lw_gd := g_mem (List.mem_append_right _ (g_k3 (List.mem_of_getElem? (i := 37) (by decide +kernel)))) rfl
theorem tw_516 : (.instanceMethod yX9_at : Cond) ∈ lw_gd := g_mem (List.mem_append_right _ (g_k3 (List.mem_of_getElem? (i := 36) (by decide +kernel)))) rfl
theorem tw_513 : (.code yX4_goOn cX4_goOn 3 none : Cond) ∈ lw_gd := g_mem (List.mem_append_right _ (g_k3 (List.mem_of_getElem? (i := 33) rfl))) rfl
theorem tp_0 : (.selects RX4 yX4_goOn yX4_goOn : Cond) ∈ lw_gd := g_mem (List.mem_append_left _ (List.mem_of_getElem? (i := 0) (by decide +kernel))) rfl
theorem tw_512 : (.instanceMethod yX4_goOn : Cond) ∈ lw_gd := g_mem (List.mem_append_right _ (g_k3 (List.mem_of_getElem? (i := 32) (by decide +kernel)))) rfl
theorem tw_528 : (.methodLink RX4 51 yX4_failHere : Cond) ∈ lw_gd := g_mem (List.mem_append_right _ (g_k3 (List.mem_of_getElem? (i := 48) (by decide +kernel)))) rfl
theorem tw_532 : (.methodLink RX4 55 yX4_fail : Cond) ∈ lw_gd := g_mem (List.mem_append_right _ (g_k3 (List.mem_of_getElem? (i := 52) (by decide +kernel)))) rfl
theorem tw_535 : (.code yX4_fail cX4_fail 3 (some .boolean) : Cond) ∈ lw_gd := g_mem (List.mem_append_right _ (g_k3 (List.mem_of_getElem? (i := 55) rfl))) rfl
theorem tp_2 : (.selects RX4 yX4_fail yX4_fail : Cond) ∈ lw_gd := g_mem (List.mem_append_left _ (List.mem_of_getElem? (i := 2) (by decide +kernel))) rfl
theorem tw_534 : (.instanceMethod yX4_fail : Cond) ∈ lw_gd := g_mem (List.mem_append_right _ (g_k3 (List.mem_of_getElem? (i := 54) (by decide +kernel)))) rfl
theorem tw_531 : (.code yX4_failHere cX4_failHere 1 (some .boolean) : Cond) ∈ lw_gd := g_mem (List.mem_append_right _ (g_k3 (List.mem_of_getElem? (i := 51) rfl))) rfl
theorem tp_1 : (.selects RX4 yX4_failHere yX4_failHere : Cond) ∈ lw_gd := g_mem (List.mem_append_left _ (List.mem_of_getElem? (i := 1) (by decide +kernel))) rfl
theorem tw_530 : (.instanceMethod yX4_failHere : Cond) ∈ lw_gd := g_mem (List.mem_append_right _ (g_k3 (List.mem_of_getElem? (i := 50) (by decide +kernel)))) rfl
theorem tw_494 : (.code yX4_readHouse cX4_readHouse 2 (some .boolean) : Cond) ∈ lw_gd := g_mem (List.mem_append_right _ (g_k3 (List.mem_of_getElem? (i := 14) rfl))) rfl
theorem tw_493 : (.selects RX4 yX4_readHouse yX4_readHouse : Cond) ∈ lw_gd := g_mem (List.mem_append_right _ (g_k3 (List.mem_of_getElem? (i := 13) (by decide +kernel)))) rfl
theorem tw_492 : (.instanceMethod yX4_readHouse : Cond) ∈ lw_gd := g_mem (List.mem_append_right _ (g_k3 (List.mem_of_getElem? (i := 12) (by decide +kernel)))) rfl
theorem tw_490 : (.code yX11_house cX11_house 2 (some .int) : Cond) ∈ lw_gd := g_mem (List.mem_append_right _ (g_k3 (List.mem_of_getElem? (i := 10) rfl))) rfl
theorem tw_489 : (.selects RX11 yX11_house yX11_house : Cond) ∈ lw_gd := g_mem (List.mem_append_right _ (g_k3 (List.mem_of_getElem? (i := 9) (by decide +kernel)))) rfl
theorem tw_488 : (.instanceMethod yX11_house : Cond) ∈ lw_gd := g_mem (List.mem_append_right _ (g_k3 (List.mem_of_getElem? (i := 8) (by decide +kernel)))) rfl
theorem tw_1630 : (.methodLink RL 27 yX12_house : Cond) ∈ lw_gd := g_mem (List.mem_append_right _ (g_k7 (List.mem_of_getElem? (i := 190) (by decide +kernel)))) rfl
theorem tw_1404 : (.fieldLink RX12 160 "ManyOutModel" "end" "I" : Cond) ∈ lw_gd := g_mem (List.mem_append_right _ (g_k6 (List.mem_of_getElem? (i := 204) (by decide +kernel)))) rfl
theorem tw_1403 : (.fieldLink RX12 157 "ManyOutModel" "at" "I" : Cond) ∈ lw_gd := g_mem (List.mem_append_right _ (g_k6 (List.mem_of_getElem? (i := 203) (by decide +kernel)))) rfl
theorem tw_1405 : (.fieldLink RX12 171 "ManyOutModel" "ended" "I" : Cond) ∈ lw_gd := g_mem (List.mem_append_right _ (g_k6 (List.mem_of_getElem? (i := 205) (by decide +kernel)))) rfl
theorem tw_1406 : (.fieldLink RX12 151 "ManyOutModel" "bad" "I" : Cond) ∈ lw_gd := g_mem (List.mem_append_right _ (g_k6 (List.mem_of_getElem? (i := 206) (by decide +kernel)))) rfl
theorem tw_1407 : (.fieldLink RX12 154 "ManyOutModel" "badPlace" "I" : Cond) ∈ lw_gd := g_mem (List.mem_append_right _ (g_k6 (List.mem_of_getElem? (i := 207) (by decide +kernel)))) rfl
theorem tw_1436 : (.fieldLink RX12 222 "ManyOutModel" "coded" "I" : Cond) ∈ lw_gd := g_mem (List.mem_append_right _ (g_k6 (List.mem_of_getElem? (i := 236) (by decide +kernel)))) rfl
theorem tw_1634 : (.methodLink RX12 212 yX12_asks : Cond) ∈ lw_gd := g_mem (List.mem_append_right _ (g_k7 (List.mem_of_getElem? (i := 194) (by decide +kernel)))) rfl
theorem tw_1638 : (.methodLink RX12 178 yX12_takes : Cond) ∈ lw_gd := g_mem (List.mem_append_right _ (g_k7 (List.mem_of_getElem? (i := 198) (by decide +kernel)))) rfl
theorem tw_1642 : (.methodLink RX12 174 yX12_isHere : Cond) ∈ lw_gd := g_mem (List.mem_append_right _ (g_k7 (List.mem_of_getElem? (i := 202) (by decide +kernel)))) rfl
theorem tw_1646 : (.methodLink RX12 163 yX12_look : Cond) ∈ lw_gd := g_mem (List.mem_append_right _ (g_k7 (List.mem_of_getElem? (i := 206) (by decide +kernel)))) rfl
theorem tw_1649 : (.code yX12_look cX12_look 1 (some .int) : Cond) ∈ lw_gd := g_mem (List.mem_append_right _ (g_k7 (List.mem_of_getElem? (i := 209) rfl))) rfl
theorem tp_61 : (.selects RX12 yX12_look yX12_look : Cond) ∈ lw_gd := g_mem (List.mem_append_left _ (List.mem_of_getElem? (i := 61) (by decide +kernel))) rfl
theorem tw_1648 : (.instanceMethod yX12_look : Cond) ∈ lw_gd := g_mem (List.mem_append_right _ (g_k7 (List.mem_of_getElem? (i := 208) (by decide +kernel)))) rfl
theorem tw_1650 : (.methodLink RX12 167 yX12_isLetter : Cond) ∈ lw_gd := g_mem (List.mem_append_right _ (g_k7 (List.mem_of_getElem? (i := 210) (by decide +kernel)))) rfl
theorem tw_1652 : (.code yX12_isLetter cX12_isLetter 1 (some .boolean) : Cond) ∈ lw_gd := g_mem (List.mem_append_right _ (g_k7 (List.mem_of_getElem? (i := 212) rfl))) rfl
theorem tw_1651 : (.static yX12_isLetter : Cond) ∈ lw_gd := g_mem (List.mem_append_right _ (g_k7 (List.mem_of_getElem? (i := 211) (by decide +kernel)))) rfl
theorem tw_1645 : (.code yX12_isHere cX12_isHere 4 (some .boolean) : Cond) ∈ lw_gd := g_mem (List.mem_append_right _ (g_k7 (List.mem_of_getElem? (i := 205) rfl))) rfl
theorem tp_60 : (.selects RX12 yX12_isHere yX12_isHere : Cond) ∈ lw_gd := g_mem (List.mem_append_left _ (List.mem_of_getElem? (i := 60) (by decide +kernel))) rfl
theorem tw_1644 : (.instanceMethod yX12_isHere : Cond) ∈ lw_gd := g_mem (List.mem_append_right _ (g_k7 (List.mem_of_getElem? (i := 204) (by decide +kernel)))) rfl
theorem tw_1641 : (.code yX12_takes cX12_takes 2 (some .boolean) : Cond) ∈ lw_gd := g_mem (List.mem_append_right _ (g_k7 (List.mem_of_getElem? (i := 201) rfl))) rfl
theorem tp_59 : (.selects RX12 yX12_takes yX12_takes : Cond) ∈ lw_gd := g_mem (List.mem_append_left _ (List.mem_of_getElem? (i := 59) (by decide +kernel))) rfl
theorem tw_1640 : (.instanceMethod yX12_takes : Cond) ∈ lw_gd := g_mem (List.mem_append_right _ (g_k7 (List.mem_of_getElem? (i := 200) (by decide +kernel)))) rfl
theorem tw_1653 : (.methodLink RX12 181 yX12_fail : Cond) ∈ lw_gd := g_mem (List.mem_append_right _ (g_k7 (List.mem_of_getElem? (i := 213) (by decide +kernel)))) rfl
theorem tw_1656 : (.code yX12_fail cX12_fail 3 none : Cond) ∈ lw_gd := g_mem (List.mem_append_right _ (g_k7 (List.mem_of_getElem? (i := 216) rfl))) rfl
theorem tp_62 : (.selects RX12 yX12_fail yX12_fail : Cond) ∈ lw_gd := g_mem (List.mem_append_left _ (List.mem_of_getElem? (i := 62) (by decide +kernel))) rfl
theorem tw_1655 : (.instanceMethod yX12_fail : Cond) ∈ lw_gd := g_mem (List.mem_append_right _ (g_k7 (List.mem_of_getElem? (i := 215) (by decide +kernel)))) rfl
theorem tw_1637 : (.code yX12_asks cX12_asks 2 none : Cond) ∈ lw_gd := g_mem (List.mem_append_right _ (g_k7 (List.mem_of_getElem? (i := 197) rfl))) rfl
theorem tp_58 : (.selects RX12 yX12_asks yX12_asks : Cond) ∈ lw_gd := g_mem (List.mem_append_left _ (List.mem_of_getElem? (i := 58) (by decide +kernel))) rfl
theorem tw_1636 : (.instanceMethod yX12_asks : Cond) ∈ lw_gd := g_mem (List.mem_append_right _ (g_k7 (List.mem_of_getElem? (i := 196) (by decide +kernel)))) rfl
theorem tw_1657 : (.methodLink RX12 195 yX12_number : Cond) ∈ lw_gd := g_mem (List.mem_append_right _ (g_k7 (List.mem_of_getElem? (i := 217) (by decide +kernel)))) rfl
theorem tw_1660 : (.code yX12_number cX12_number 5 (some .int) : Cond) ∈ lw_gd := g_mem (List.mem_append_right _ (g_k7 (List.mem_of_getElem? (i := 220) rfl))) rfl
theorem tp_63 : (.selects RX12 yX12_number yX12_number : Cond) ∈ lw_gd := g_mem (List.mem_append_left _ (List.mem_of_getElem? (i := 63) (by decide +kernel))) rfl
theorem tw_1659 : (.instanceMethod yX12_number : Cond) ∈ lw_gd := g_mem (List.mem_append_right _ (g_k7 (List.mem_of_getElem? (i := 219) (by decide +kernel)))) rfl
theorem tw_1667 : (.methodLink RX12 219 yX12_asksSign : Cond) ∈ lw_gd := g_mem (List.mem_append_right _ (g_k7 (List.mem_of_getElem? (i := 227) (by decide +kernel)))) rfl
theorem tw_1670 : (.code yX12_asksSign cX12_asksSign 2 none : Cond) ∈ lw_gd := g_mem (List.mem_append_right _ (g_k7 (List.mem_of_getElem? (i := 230) rfl))) rfl
theorem tp_64 : (.selects RX12 yX12_asksSign yX12_asksSign : Cond) ∈ lw_gd := g_mem (List.mem_append_left _ (List.mem_of_getElem? (i := 64) (by decide +kernel))) rfl
theorem tw_1669 : (.instanceMethod yX12_asksSign : Cond) ∈ lw_gd := g_mem (List.mem_append_right _ (g_k7 (List.mem_of_getElem? (i := 229) (by decide +kernel)))) rfl
theorem tw_1434 : (.fieldLink RX12 202 "ManyOutModel" "statements" "I" : Cond) ∈ lw_gd := g_mem (List.mem_append_right _ (g_k6 (List.mem_of_getElem? (i := 234) (by decide +kernel)))) rfl
theorem tw_1408 : (.fieldLink RX12 228 "ManyOutModel" "fault" "I" : Cond) ∈ lw_gd := g_mem (List.mem_append_right _ (g_k6 (List.mem_of_getElem? (i := 208) (by decide +kernel)))) rfl
theorem tw_1633 : (.code yX12_house cX12_house 2 (some .int) : Cond) ∈ lw_gd := g_mem (List.mem_append_right _ (g_k7 (List.mem_of_getElem? (i := 193) rfl))) rfl
theorem tw_1632 : (.selects RX12 yX12_house yX12_house : Cond) ∈ lw_gd := g_mem (List.mem_append_right _ (g_k7 (List.mem_of_getElem? (i := 192) (by decide +kernel)))) rfl
theorem tw_1631 : (.instanceMethod yX12_house : Cond) ∈ lw_gd := g_mem (List.mem_append_right _ (g_k7 (List.mem_of_getElem? (i := 191) (by decide +kernel)))) rfl
theorem tw_763 : (.methodLink RL 28 yX11_fault : Cond) ∈ lw_gd := g_mem (List.mem_append_right _ (g_k4 (List.mem_of_getElem? (i := 43) (by decide +kernel)))) rfl
theorem tn_177 : (.fieldLinkNest RX11 130 "ManyOut$Reader" "place" "I" "ManyOut" : Cond) ∈ lw_nw := g_nmem (g_k1 (List.mem_of_getElem? (i := 177) (by decide +kernel))) rfl
theorem tn_175 : (.fieldLinkNest RX11 127 "ManyOut$Reader" "fault" "I" "ManyOut" : Cond) ∈ lw_nw := g_nmem (g_k1 (List.mem_of_getElem? (i := 175) (by decide +kernel))) rfl
theorem tw_766 : (.code yX11_fault cX11_fault 2 (some .int) : Cond) ∈ lw_gd := g_mem (List.mem_append_right _ (g_k4 (List.mem_of_getElem? (i := 46) rfl))) rfl
theorem tw_765 : (.selects RX11 yX11_fault yX11_fault : Cond) ∈ lw_gd := g_mem (List.mem_append_right _ (g_k4 (List.mem_of_getElem? (i := 45) (by decide +kernel)))) rfl
theorem tw_764 : (.instanceMethod yX11_fault : Cond) ∈ lw_gd := g_mem (List.mem_append_right _ (g_k4 (List.mem_of_getElem? (i := 44) (by decide +kernel)))) rfl
theorem tw_1763 : (.methodLink RL 32 yX12_fault : Cond) ∈ lw_gd := g_mem (List.mem_append_right _ (g_k8 (List.mem_of_getElem? (i := 83) (by decide +kernel)))) rfl
theorem tw_1766 : (.code yX12_fault cX12_fault 2 (some .int) : Cond) ∈ lw_gd := g_mem (List.mem_append_right _ (g_k8 (List.mem_of_getElem? (i := 86) rfl))) rfl
theorem tw_1765 : (.selects RX12 yX12_fault yX12_fault : Cond) ∈ lw_gd := g_mem (List.mem_append_right _ (g_k8 (List.mem_of_getElem? (i := 85) (by decide +kernel)))) rfl
theorem tw_1764 : (.instanceMethod yX12_fault : Cond) ∈ lw_gd := g_mem (List.mem_append_right _ (g_k8 (List.mem_of_getElem? (i := 84) (by decide +kernel)))) rfl
theorem tw_767 : (.methodLink RL 33 yX11_has : Cond) ∈ lw_gd := g_mem (List.mem_append_right _ (g_k4 (List.mem_of_getElem? (i := 47) (by decide +kernel)))) rfl
theorem tn_114 : (.fieldLinkNest RX11 133 "ManyOut$House" "letters" "I" "ManyOut" : Cond) ∈ lw_nw := g_nmem (g_k1 (List.mem_of_getElem? (i := 114) (by decide +kernel))) rfl
theorem tn_123 : (.fieldLinkNest RX11 136 "ManyOut$House" "senders" "I" "ManyOut" : Cond) ∈ lw_nw := g_nmem (g_k1 (List.mem_of_getElem? (i := 123) (by decide +kernel))) rfl
theorem tn_128 : (.fieldLinkNest RX11 139 "ManyOut$House" "receivers" "I" "ManyOut" : Cond) ∈ lw_nw := g_nmem (g_k1 (List.mem_of_getElem? (i := 128) (by decide +kernel))) rfl
theorem tn_133 : (.fieldLinkNest RX11 142 "ManyOut$House" "rowsTold" "I" "ManyOut" : Cond) ∈ lw_nw := g_nmem (g_k1 (List.mem_of_getElem? (i := 133) (by decide +kernel))) rfl
theorem tn_137 : (.fieldLinkNest RX11 145 "ManyOut$House" "wordsTold" "I" "ManyOut" : Cond) ∈ lw_nw := g_nmem (g_k1 (List.mem_of_getElem? (i := 137) (by decide +kernel))) rfl
theorem tn_106 : (.fieldLinkNest RX11 148 "ManyOut$House" "rules" "LManyOut$Rules;" "ManyOut" : Cond) ∈ lw_nw := g_nmem (g_k1 (List.mem_of_getElem? (i := 106) (by decide +kernel))) rfl
theorem tn_80 : (.fieldLinkNest RX11 152 "ManyOut$Rules" "count" "I" "ManyOut" : Cond) ∈ lw_nw := g_nmem (g_k1 (List.mem_of_getElem? (i := 80) (by decide +kernel))) rfl
theorem tn_141 : (.fieldLinkNest RX11 157 "ManyOut$House" "limit" "I" "ManyOut" : Cond) ∈ lw_nw := g_nmem (g_k1 (List.mem_of_getElem? (i := 141) (by decide +kernel))) rfl
theorem tn_402 : (.fieldLinkNest RX11 160 "ManyOut$Led" "done" "I" "ManyOut" : Cond) ∈ lw_nw := g_nmem (g_k2 (List.mem_of_getElem? (i := 162) (by decide +kernel))) rfl
theorem tn_398 : (.fieldLinkNest RX11 163 "ManyOut$Led" "undoable" "I" "ManyOut" : Cond) ∈ lw_nw := g_nmem (g_k2 (List.mem_of_getElem? (i := 158) (by decide +kernel))) rfl
theorem tn_400 : (.fieldLinkNest RX11 166 "ManyOut$Led" "redoable" "I" "ManyOut" : Cond) ∈ lw_nw := g_nmem (g_k2 (List.mem_of_getElem? (i := 160) (by decide +kernel))) rfl
theorem tw_770 : (.code yX11_has cX11_has 2 (some .int) : Cond) ∈ lw_gd := g_mem (List.mem_append_right _ (g_k4 (List.mem_of_getElem? (i := 50) rfl))) rfl
theorem tw_769 : (.selects RX11 yX11_has yX11_has : Cond) ∈ lw_gd := g_mem (List.mem_append_right _ (g_k4 (List.mem_of_getElem? (i := 49) (by decide +kernel)))) rfl
theorem tw_768 : (.instanceMethod yX11_has : Cond) ∈ lw_gd := g_mem (List.mem_append_right _ (g_k4 (List.mem_of_getElem? (i := 48) (by decide +kernel)))) rfl
theorem tw_1767 : (.methodLink RL 36 yX12_has : Cond) ∈ lw_gd := g_mem (List.mem_append_right _ (g_k8 (List.mem_of_getElem? (i := 87) (by decide +kernel)))) rfl
theorem tw_1425 : (.fieldLink RX12 234 "ManyOutModel" "letters" "I" : Cond) ∈ lw_gd := g_mem (List.mem_append_right _ (g_k6 (List.mem_of_getElem? (i := 225) (by decide +kernel)))) rfl
theorem tw_1426 : (.fieldLink RX12 237 "ManyOutModel" "senders" "I" : Cond) ∈ lw_gd := g_mem (List.mem_append_right _ (g_k6 (List.mem_of_getElem? (i := 226) (by decide +kernel)))) rfl
theorem tw_1427 : (.fieldLink RX12 240 "ManyOutModel" "receivers" "I" : Cond) ∈ lw_gd := g_mem (List.mem_append_right _ (g_k6 (List.mem_of_getElem? (i := 227) (by decide +kernel)))) rfl
theorem tw_1428 : (.fieldLink RX12 243 "ManyOutModel" "rowsTold" "I" : Cond) ∈ lw_gd := g_mem (List.mem_append_right _ (g_k6 (List.mem_of_getElem? (i := 228) (by decide +kernel)))) rfl
theorem tw_1429 : (.fieldLink RX12 246 "ManyOutModel" "wordsTold" "I" : Cond) ∈ lw_gd := g_mem (List.mem_append_right _ (g_k6 (List.mem_of_getElem? (i := 229) (by decide +kernel)))) rfl
theorem tw_1460 : (.fieldLink RX12 349 "ManyOutModel" "steps" "I" : Cond) ∈ lw_gd := g_mem (List.mem_append_right _ (g_k7 (List.mem_of_getElem? (i := 20) (by decide +kernel)))) rfl
theorem tw_1461 : (.fieldLink RX12 352 "ManyOutModel" "undoable" "I" : Cond) ∈ lw_gd := g_mem (List.mem_append_right _ (g_k7 (List.mem_of_getElem? (i := 21) (by decide +kernel)))) rfl
theorem tw_1462 : (.fieldLink RX12 355 "ManyOutModel" "redoable" "I" : Cond) ∈ lw_gd := g_mem (List.mem_append_right _ (g_k7 (List.mem_of_getElem? (i := 22) (by decide +kernel)))) rfl
theorem tw_1770 : (.code yX12_has cX12_has 2 (some .int) : Cond) ∈ lw_gd := g_mem (List.mem_append_right _ (g_k8 (List.mem_of_getElem? (i := 90) rfl))) rfl
theorem tw_1769 : (.selects RX12 yX12_has yX12_has : Cond) ∈ lw_gd := g_mem (List.mem_append_right _ (g_k8 (List.mem_of_getElem? (i := 89) (by decide +kernel)))) rfl
theorem tw_1768 : (.instanceMethod yX12_has : Cond) ∈ lw_gd := g_mem (List.mem_append_right _ (g_k8 (List.mem_of_getElem? (i := 88) (by decide +kernel)))) rfl
theorem tw_771 : (.methodLink RL 37 yX11_table : Cond) ∈ lw_gd := g_mem (List.mem_append_right _ (g_k4 (List.mem_of_getElem? (i := 51) (by decide +kernel)))) rfl
theorem tw_775 : (.methodLink RX11 169 yX1_isReceiver : Cond) ∈ lw_gd := g_mem (List.mem_append_right _ (g_k4 (List.mem_of_getElem? (i := 55) (by decide +kernel)))) rfl
theorem tw_778 : (.code yX1_isReceiver cX1_isReceiver 2 (some .boolean) : Cond) ∈ lw_gd := g_mem (List.mem_append_right _ (g_k4 (List.mem_of_getElem? (i := 58) rfl))) rfl
theorem tw_777 : (.selects RX1 yX1_isReceiver yX1_isReceiver : Cond) ∈ lw_gd := g_mem (List.mem_append_right _ (g_k4 (List.mem_of_getElem? (i := 57) (by decide +kernel)))) rfl
theorem tw_776 : (.instanceMethod yX1_isReceiver : Cond) ∈ lw_gd := g_mem (List.mem_append_right _ (g_k4 (List.mem_of_getElem? (i := 56) (by decide +kernel)))) rfl
theorem tw_783 : (.constant RX11 175 (-1000000000) : Cond) ∈ lw_gd := g_mem (List.mem_append_right _ (g_k4 (List.mem_of_getElem? (i := 63) (by decide +kernel)))) rfl
theorem tw_774 : (.code yX11_table cX11_table 4 (some .int) : Cond) ∈ lw_gd := g_mem (List.mem_append_right _ (g_k4 (List.mem_of_getElem? (i := 54) rfl))) rfl
theorem tw_773 : (.selects RX11 yX11_table yX11_table : Cond) ∈ lw_gd := g_mem (List.mem_append_right _ (g_k4 (List.mem_of_getElem? (i := 53) (by decide +kernel)))) rfl
theorem tw_772 : (.instanceMethod yX11_table : Cond) ∈ lw_gd := g_mem (List.mem_append_right _ (g_k4 (List.mem_of_getElem? (i := 52) (by decide +kernel)))) rfl
theorem tw_1771 : (.methodLink RL 41 yX12_table : Cond) ∈ lw_gd := g_mem (List.mem_append_right _ (g_k8 (List.mem_of_getElem? (i := 91) (by decide +kernel)))) rfl
theorem tw_1775 : (.methodLink RX12 358 yX12_isReceiver : Cond) ∈ lw_gd := g_mem (List.mem_append_right _ (g_k8 (List.mem_of_getElem? (i := 95) (by decide +kernel)))) rfl
theorem tw_1664 : (.methodLink RX12 191 yX12_isIn : Cond) ∈ lw_gd := g_mem (List.mem_append_right _ (g_k7 (List.mem_of_getElem? (i := 224) (by decide +kernel)))) rfl
theorem tw_1666 : (.code yX12_isIn cX12_isIn 6 (some .boolean) : Cond) ∈ lw_gd := g_mem (List.mem_append_right _ (g_k7 (List.mem_of_getElem? (i := 226) rfl))) rfl
theorem tw_1665 : (.static yX12_isIn : Cond) ∈ lw_gd := g_mem (List.mem_append_right _ (g_k7 (List.mem_of_getElem? (i := 225) (by decide +kernel)))) rfl
theorem tw_1778 : (.code yX12_isReceiver cX12_isReceiver 2 (some .boolean) : Cond) ∈ lw_gd := g_mem (List.mem_append_right _ (g_k8 (List.mem_of_getElem? (i := 98) rfl))) rfl
theorem tp_88 : (.selects RX12 yX12_isReceiver yX12_isReceiver : Cond) ∈ lw_gd := g_mem (List.mem_append_left _ (List.mem_of_getElem? (i := 88) (by decide +kernel))) rfl
theorem tw_1777 : (.instanceMethod yX12_isReceiver : Cond) ∈ lw_gd := g_mem (List.mem_append_right _ (g_k8 (List.mem_of_getElem? (i := 97) (by decide +kernel)))) rfl
theorem tw_1783 : (.constant RX12 364 (-1000000000) : Cond) ∈ lw_gd := g_mem (List.mem_append_right _ (g_k8 (List.mem_of_getElem? (i := 103) (by decide +kernel)))) rfl
theorem tw_1774 : (.code yX12_table cX12_table 4 (some .int) : Cond) ∈ lw_gd := g_mem (List.mem_append_right _ (g_k8 (List.mem_of_getElem? (i := 94) rfl))) rfl
theorem tw_1773 : (.selects RX12 yX12_table yX12_table : Cond) ∈ lw_gd := g_mem (List.mem_append_right _ (g_k8 (List.mem_of_getElem? (i := 93) (by decide +kernel)))) rfl
theorem tw_1772 : (.instanceMethod yX12_table : Cond) ∈ lw_gd := g_mem (List.mem_append_right _ (g_k8 (List.mem_of_getElem? (i := 92) (by decide +kernel)))) rfl
theorem tw_792 : (.methodLink RL 42 yX11_product : Cond) ∈ lw_gd := g_mem (List.mem_append_right _ (g_k4 (List.mem_of_getElem? (i := 72) (by decide +kernel)))) rfl
theorem tw_779 : (.methodLink RX11 172 yX1_isSender : Cond) ∈ lw_gd := g_mem (List.mem_append_right _ (g_k4 (List.mem_of_getElem? (i := 59) (by decide +kernel)))) rfl
theorem tw_782 : (.code yX1_isSender cX1_isSender 2 (some .boolean) : Cond) ∈ lw_gd := g_mem (List.mem_append_right _ (g_k4 (List.mem_of_getElem? (i := 62) rfl))) rfl
theorem tw_781 : (.selects RX1 yX1_isSender yX1_isSender : Cond) ∈ lw_gd := g_mem (List.mem_append_right _ (g_k4 (List.mem_of_getElem? (i := 61) (by decide +kernel)))) rfl
theorem tw_780 : (.instanceMethod yX1_isSender : Cond) ∈ lw_gd := g_mem (List.mem_append_right _ (g_k4 (List.mem_of_getElem? (i := 60) (by decide +kernel)))) rfl
theorem tw_795 : (.code yX11_product cX11_product 4 (some .int) : Cond) ∈ lw_gd := g_mem (List.mem_append_right _ (g_k4 (List.mem_of_getElem? (i := 75) rfl))) rfl
theorem tw_794 : (.selects RX11 yX11_product yX11_product : Cond) ∈ lw_gd := g_mem (List.mem_append_right _ (g_k4 (List.mem_of_getElem? (i := 74) (by decide +kernel)))) rfl
theorem tw_793 : (.instanceMethod yX11_product : Cond) ∈ lw_gd := g_mem (List.mem_append_right _ (g_k4 (List.mem_of_getElem? (i := 73) (by decide +kernel)))) rfl
theorem tw_1784 : (.methodLink RL 45 yX12_product : Cond) ∈ lw_gd := g_mem (List.mem_append_right _ (g_k8 (List.mem_of_getElem? (i := 104) (by decide +kernel)))) rfl
theorem tw_1779 : (.methodLink RX12 361 yX12_isSender : Cond) ∈ lw_gd := g_mem (List.mem_append_right _ (g_k8 (List.mem_of_getElem? (i := 99) (by decide +kernel)))) rfl
theorem tw_1782 : (.code yX12_isSender cX12_isSender 2 (some .boolean) : Cond) ∈ lw_gd := g_mem (List.mem_append_right _ (g_k8 (List.mem_of_getElem? (i := 102) rfl))) rfl
theorem tp_89 : (.selects RX12 yX12_isSender yX12_isSender : Cond) ∈ lw_gd := g_mem (List.mem_append_left _ (List.mem_of_getElem? (i := 89) (by decide +kernel))) rfl
theorem tw_1781 : (.instanceMethod yX12_isSender : Cond) ∈ lw_gd := g_mem (List.mem_append_right _ (g_k8 (List.mem_of_getElem? (i := 101) (by decide +kernel)))) rfl
theorem tw_1787 : (.code yX12_product cX12_product 4 (some .int) : Cond) ∈ lw_gd := g_mem (List.mem_append_right _ (g_k8 (List.mem_of_getElem? (i := 107) rfl))) rfl
theorem tw_1786 : (.selects RX12 yX12_product yX12_product : Cond) ∈ lw_gd := g_mem (List.mem_append_right _ (g_k8 (List.mem_of_getElem? (i := 106) (by decide +kernel)))) rfl
theorem tw_1785 : (.instanceMethod yX12_product : Cond) ∈ lw_gd := g_mem (List.mem_append_right _ (g_k8 (List.mem_of_getElem? (i := 105) (by decide +kernel)))) rfl
theorem tw_801 : (.methodLink RL 46 yX11_hear : Cond) ∈ lw_gd := g_mem (List.mem_append_right _ (g_k4 (List.mem_of_getElem? (i := 81) (by decide +kernel)))) rfl
theorem tw_805 : (.methodLink RX11 194 yX11_takeHeard : Cond) ∈ lw_gd := g_mem (List.mem_append_right _ (g_k4 (List.mem_of_getElem? (i := 85) (by decide +kernel)))) rfl
theorem tw_747 : (.methodLink RX11 118 yX7_forget : Cond) ∈ lw_gd := g_mem (List.mem_append_right _ (g_k4 (List.mem_of_getElem? (i := 27) (by decide +kernel)))) rfl
theorem tw_750 : (.code yX7_forget cX7_forget 1 none : Cond) ∈ lw_gd := g_mem (List.mem_append_right _ (g_k4 (List.mem_of_getElem? (i := 30) rfl))) rfl
theorem tw_749 : (.selects RX7 yX7_forget yX7_forget : Cond) ∈ lw_gd := g_mem (List.mem_append_right _ (g_k4 (List.mem_of_getElem? (i := 29) (by decide +kernel)))) rfl
theorem tw_748 : (.instanceMethod yX7_forget : Cond) ∈ lw_gd := g_mem (List.mem_append_right _ (g_k4 (List.mem_of_getElem? (i := 28) (by decide +kernel)))) rfl
theorem tw_808 : (.code yX11_takeHeard cX11_takeHeard 2 none : Cond) ∈ lw_gd := g_mem (List.mem_append_right _ (g_k4 (List.mem_of_getElem? (i := 88) rfl))) rfl
theorem tp_29 : (.selects RX11 yX11_takeHeard yX11_takeHeard : Cond) ∈ lw_gd := g_mem (List.mem_append_left _ (List.mem_of_getElem? (i := 29) (by decide +kernel))) rfl
theorem tw_807 : (.instanceMethod yX11_takeHeard : Cond) ∈ lw_gd := g_mem (List.mem_append_right _ (g_k4 (List.mem_of_getElem? (i := 87) (by decide +kernel)))) rfl
theorem tw_804 : (.code yX11_hear cX11_hear 2 (some .boolean) : Cond) ∈ lw_gd := g_mem (List.mem_append_right _ (g_k4 (List.mem_of_getElem? (i := 84) rfl))) rfl
theorem tw_803 : (.selects RX11 yX11_hear yX11_hear : Cond) ∈ lw_gd := g_mem (List.mem_append_right _ (g_k4 (List.mem_of_getElem? (i := 83) (by decide +kernel)))) rfl
theorem tw_802 : (.instanceMethod yX11_hear : Cond) ∈ lw_gd := g_mem (List.mem_append_right _ (g_k4 (List.mem_of_getElem? (i := 82) (by decide +kernel)))) rfl
theorem tw_1805 : (.methodLink RL 50 yX12_hear : Cond) ∈ lw_gd := g_mem (List.mem_append_right _ (g_k8 (List.mem_of_getElem? (i := 125) (by decide +kernel)))) rfl
theorem tw_1808 : (.code yX12_hear cX12_hear 4 (some .boolean) : Cond) ∈ lw_gd := g_mem (List.mem_append_right _ (g_k8 (List.mem_of_getElem? (i := 128) rfl))) rfl
theorem tw_1807 : (.selects RX12 yX12_hear yX12_hear : Cond) ∈ lw_gd := g_mem (List.mem_append_right _ (g_k8 (List.mem_of_getElem? (i := 127) (by decide +kernel)))) rfl
theorem tw_1806 : (.instanceMethod yX12_hear : Cond) ∈ lw_gd := g_mem (List.mem_append_right _ (g_k8 (List.mem_of_getElem? (i := 126) (by decide +kernel)))) rfl
theorem tw_814 : (.methodLink RL 51 yX11_heard : Cond) ∈ lw_gd := g_mem (List.mem_append_right _ (g_k4 (List.mem_of_getElem? (i := 94) (by decide +kernel)))) rfl
theorem tw_817 : (.code yX11_heard cX11_heard 2 (some .int) : Cond) ∈ lw_gd := g_mem (List.mem_append_right _ (g_k4 (List.mem_of_getElem? (i := 97) rfl))) rfl
theorem tw_816 : (.selects RX11 yX11_heard yX11_heard : Cond) ∈ lw_gd := g_mem (List.mem_append_right _ (g_k4 (List.mem_of_getElem? (i := 96) (by decide +kernel)))) rfl
theorem tw_815 : (.instanceMethod yX11_heard : Cond) ∈ lw_gd := g_mem (List.mem_append_right _ (g_k4 (List.mem_of_getElem? (i := 95) (by decide +kernel)))) rfl
theorem tw_1810 : (.methodLink RL 54 yX12_heard : Cond) ∈ lw_gd := g_mem (List.mem_append_right _ (g_k8 (List.mem_of_getElem? (i := 130) (by decide +kernel)))) rfl
theorem tw_1813 : (.code yX12_heard cX12_heard 2 (some .int) : Cond) ∈ lw_gd := g_mem (List.mem_append_right _ (g_k8 (List.mem_of_getElem? (i := 133) rfl))) rfl
theorem tw_1812 : (.selects RX12 yX12_heard yX12_heard : Cond) ∈ lw_gd := g_mem (List.mem_append_right _ (g_k8 (List.mem_of_getElem? (i := 132) (by decide +kernel)))) rfl
theorem tw_1811 : (.instanceMethod yX12_heard : Cond) ∈ lw_gd := g_mem (List.mem_append_right _ (g_k8 (List.mem_of_getElem? (i := 131) (by decide +kernel)))) rfl
theorem tw_818 : (.methodLink RL 55 yX11_send : Cond) ∈ lw_gd := g_mem (List.mem_append_right _ (g_k4 (List.mem_of_getElem? (i := 98) (by decide +kernel)))) rfl
theorem tw_822 : (.methodLink RX11 201 yX11_takeRow : Cond) ∈ lw_gd := g_mem (List.mem_append_right _ (g_k4 (List.mem_of_getElem? (i := 102) (by decide +kernel)))) rfl
theorem tw_825 : (.code yX11_takeRow cX11_takeRow 3 (some .boolean) : Cond) ∈ lw_gd := g_mem (List.mem_append_right _ (g_k4 (List.mem_of_getElem? (i := 105) rfl))) rfl
theorem tp_30 : (.selects RX11 yX11_takeRow yX11_takeRow : Cond) ∈ lw_gd := g_mem (List.mem_append_left _ (List.mem_of_getElem? (i := 30) (by decide +kernel))) rfl
theorem tw_824 : (.instanceMethod yX11_takeRow : Cond) ∈ lw_gd := g_mem (List.mem_append_right _ (g_k4 (List.mem_of_getElem? (i := 104) (by decide +kernel)))) rfl
theorem tw_821 : (.code yX11_send cX11_send 2 (some .boolean) : Cond) ∈ lw_gd := g_mem (List.mem_append_right _ (g_k4 (List.mem_of_getElem? (i := 101) rfl))) rfl
theorem tw_820 : (.selects RX11 yX11_send yX11_send : Cond) ∈ lw_gd := g_mem (List.mem_append_right _ (g_k4 (List.mem_of_getElem? (i := 100) (by decide +kernel)))) rfl
theorem tw_819 : (.instanceMethod yX11_send : Cond) ∈ lw_gd := g_mem (List.mem_append_right _ (g_k4 (List.mem_of_getElem? (i := 99) (by decide +kernel)))) rfl
theorem tw_1814 : (.methodLink RL 58 yX12_send : Cond) ∈ lw_gd := g_mem (List.mem_append_right _ (g_k8 (List.mem_of_getElem? (i := 134) (by decide +kernel)))) rfl
theorem tw_1818 : (.methodLink RX12 377 yX12_isRowTold : Cond) ∈ lw_gd := g_mem (List.mem_append_right _ (g_k8 (List.mem_of_getElem? (i := 138) (by decide +kernel)))) rfl
theorem tw_1821 : (.code yX12_isRowTold cX12_isRowTold 3 (some .boolean) : Cond) ∈ lw_gd := g_mem (List.mem_append_right _ (g_k8 (List.mem_of_getElem? (i := 141) rfl))) rfl
theorem tp_92 : (.selects RX12 yX12_isRowTold yX12_isRowTold : Cond) ∈ lw_gd := g_mem (List.mem_append_left _ (List.mem_of_getElem? (i := 92) (by decide +kernel))) rfl
theorem tw_1820 : (.instanceMethod yX12_isRowTold : Cond) ∈ lw_gd := g_mem (List.mem_append_right _ (g_k8 (List.mem_of_getElem? (i := 140) (by decide +kernel)))) rfl
theorem tw_1817 : (.code yX12_send cX12_send 2 (some .boolean) : Cond) ∈ lw_gd := g_mem (List.mem_append_right _ (g_k8 (List.mem_of_getElem? (i := 137) rfl))) rfl
theorem tw_1816 : (.selects RX12 yX12_send yX12_send : Cond) ∈ lw_gd := g_mem (List.mem_append_right _ (g_k8 (List.mem_of_getElem? (i := 136) (by decide +kernel)))) rfl
theorem tw_1815 : (.instanceMethod yX12_send : Cond) ∈ lw_gd := g_mem (List.mem_append_right _ (g_k8 (List.mem_of_getElem? (i := 135) (by decide +kernel)))) rfl
theorem tw_835 : (.methodLink RL 59 yX11_distance : Cond) ∈ lw_gd := g_mem (List.mem_append_right _ (g_k4 (List.mem_of_getElem? (i := 115) (by decide +kernel)))) rfl
theorem tw_844 : (.constantLong RX11 212 (-1) : Cond) ∈ lw_gd := g_mem (List.mem_append_right _ (g_k4 (List.mem_of_getElem? (i := 124) (by decide +kernel)))) rfl
theorem tw_838 : (.code yX11_distance cX11_distance 1 (some .long) : Cond) ∈ lw_gd := g_mem (List.mem_append_right _ (g_k4 (List.mem_of_getElem? (i := 118) rfl))) rfl
theorem tw_837 : (.selects RX11 yX11_distance yX11_distance : Cond) ∈ lw_gd := g_mem (List.mem_append_right _ (g_k4 (List.mem_of_getElem? (i := 117) (by decide +kernel)))) rfl
theorem tw_836 : (.instanceMethod yX11_distance : Cond) ∈ lw_gd := g_mem (List.mem_append_right _ (g_k4 (List.mem_of_getElem? (i := 116) (by decide +kernel)))) rfl
theorem tw_1830 : (.methodLink RL 63 yX12_distance : Cond) ∈ lw_gd := g_mem (List.mem_append_right _ (g_k8 (List.mem_of_getElem? (i := 150) (by decide +kernel)))) rfl
theorem tw_1838 : (.constantLong RX12 384 (-1) : Cond) ∈ lw_gd := g_mem (List.mem_append_right _ (g_k8 (List.mem_of_getElem? (i := 158) (by decide +kernel)))) rfl
theorem tw_1833 : (.code yX12_distance cX12_distance 1 (some .long) : Cond) ∈ lw_gd := g_mem (List.mem_append_right _ (g_k8 (List.mem_of_getElem? (i := 153) rfl))) rfl
theorem tw_1832 : (.selects RX12 yX12_distance yX12_distance : Cond) ∈ lw_gd := g_mem (List.mem_append_right _ (g_k8 (List.mem_of_getElem? (i := 152) (by decide +kernel)))) rfl
theorem tw_1831 : (.instanceMethod yX12_distance : Cond) ∈ lw_gd := g_mem (List.mem_append_right _ (g_k8 (List.mem_of_getElem? (i := 151) (by decide +kernel)))) rfl
theorem tw_845 : (.methodLink RL 64 yX11_slips : Cond) ∈ lw_gd := g_mem (List.mem_append_right _ (g_k4 (List.mem_of_getElem? (i := 125) (by decide +kernel)))) rfl
theorem tw_848 : (.code yX11_slips cX11_slips 10 (some .int) : Cond) ∈ lw_gd := g_mem (List.mem_append_right _ (g_k4 (List.mem_of_getElem? (i := 128) rfl))) rfl
theorem tw_847 : (.selects RX11 yX11_slips yX11_slips : Cond) ∈ lw_gd := g_mem (List.mem_append_right _ (g_k4 (List.mem_of_getElem? (i := 127) (by decide +kernel)))) rfl
theorem tw_846 : (.instanceMethod yX11_slips : Cond) ∈ lw_gd := g_mem (List.mem_append_right _ (g_k4 (List.mem_of_getElem? (i := 126) (by decide +kernel)))) rfl
theorem tw_1839 : (.methodLink RL 68 yX12_slips : Cond) ∈ lw_gd := g_mem (List.mem_append_right _ (g_k8 (List.mem_of_getElem? (i := 159) (by decide +kernel)))) rfl
theorem tw_1843 : (.constantLong RX12 398 (9999) : Cond) ∈ lw_gd := g_mem (List.mem_append_right _ (g_k8 (List.mem_of_getElem? (i := 163) (by decide +kernel)))) rfl
theorem tw_1842 : (.code yX12_slips cX12_slips 5 (some .int) : Cond) ∈ lw_gd := g_mem (List.mem_append_right _ (g_k8 (List.mem_of_getElem? (i := 162) rfl))) rfl
theorem tw_1841 : (.selects RX12 yX12_slips yX12_slips : Cond) ∈ lw_gd := g_mem (List.mem_append_right _ (g_k8 (List.mem_of_getElem? (i := 161) (by decide +kernel)))) rfl
theorem tw_1840 : (.instanceMethod yX12_slips : Cond) ∈ lw_gd := g_mem (List.mem_append_right _ (g_k8 (List.mem_of_getElem? (i := 160) (by decide +kernel)))) rfl
theorem tw_862 : (.methodLink RL 69 yX11_nearest : Cond) ∈ lw_gd := g_mem (List.mem_append_right _ (g_k4 (List.mem_of_getElem? (i := 142) (by decide +kernel)))) rfl
theorem tw_865 : (.code yX11_nearest cX11_nearest 3 (some .int) : Cond) ∈ lw_gd := g_mem (List.mem_append_right _ (g_k4 (List.mem_of_getElem? (i := 145) rfl))) rfl
theorem tw_864 : (.selects RX11 yX11_nearest yX11_nearest : Cond) ∈ lw_gd := g_mem (List.mem_append_right _ (g_k4 (List.mem_of_getElem? (i := 144) (by decide +kernel)))) rfl
theorem tw_863 : (.instanceMethod yX11_nearest : Cond) ∈ lw_gd := g_mem (List.mem_append_right _ (g_k4 (List.mem_of_getElem? (i := 143) (by decide +kernel)))) rfl
theorem tw_1852 : (.methodLink RL 72 yX12_nearest : Cond) ∈ lw_gd := g_mem (List.mem_append_right _ (g_k8 (List.mem_of_getElem? (i := 172) (by decide +kernel)))) rfl
theorem tw_1855 : (.code yX12_nearest cX12_nearest 3 (some .int) : Cond) ∈ lw_gd := g_mem (List.mem_append_right _ (g_k8 (List.mem_of_getElem? (i := 175) rfl))) rfl
theorem tw_1854 : (.selects RX12 yX12_nearest yX12_nearest : Cond) ∈ lw_gd := g_mem (List.mem_append_right _ (g_k8 (List.mem_of_getElem? (i := 174) (by decide +kernel)))) rfl
theorem tw_1853 : (.instanceMethod yX12_nearest : Cond) ∈ lw_gd := g_mem (List.mem_append_right _ (g_k8 (List.mem_of_getElem? (i := 173) (by decide +kernel)))) rfl
theorem tw_953 : (.methodLink RL 73 yX11_near : Cond) ∈ lw_gd := g_mem (List.mem_append_right _ (g_k4 (List.mem_of_getElem? (i := 233) (by decide +kernel)))) rfl
theorem tw_866 : (.methodLink RX11 243 yX11_isNear : Cond) ∈ lw_gd := g_mem (List.mem_append_right _ (g_k4 (List.mem_of_getElem? (i := 146) (by decide +kernel)))) rfl
theorem tw_870 : (.methodLink RX11 256 yX7_learn : Cond) ∈ lw_gd := g_mem (List.mem_append_right _ (g_k4 (List.mem_of_getElem? (i := 150) (by decide +kernel)))) rfl
theorem tn_120 : (.fieldLinkNest RX7 73 "ManyOut$House" "senders" "I" "ManyOut" : Cond) ∈ lw_nw := g_nmem (g_k1 (List.mem_of_getElem? (i := 120) (by decide +kernel))) rfl
theorem tw_873 : (.code yX7_learn cX7_learn 5 none : Cond) ∈ lw_gd := g_mem (List.mem_append_right _ (g_k4 (List.mem_of_getElem? (i := 153) rfl))) rfl
theorem tw_872 : (.selects RX7 yX7_learn yX7_learn : Cond) ∈ lw_gd := g_mem (List.mem_append_right _ (g_k4 (List.mem_of_getElem? (i := 152) (by decide +kernel)))) rfl
theorem tw_871 : (.instanceMethod yX7_learn : Cond) ∈ lw_gd := g_mem (List.mem_append_right _ (g_k4 (List.mem_of_getElem? (i := 151) (by decide +kernel)))) rfl
theorem tn_255 : (.fieldLinkNest RX11 260 "ManyOut$Survey" "nearCount" "I" "ManyOut" : Cond) ∈ lw_nw := g_nmem (g_k2 (List.mem_of_getElem? (i := 15) (by decide +kernel))) rfl
theorem tw_869 : (.code yX11_isNear cX11_isNear 2 (some .boolean) : Cond) ∈ lw_gd := g_mem (List.mem_append_right _ (g_k4 (List.mem_of_getElem? (i := 149) rfl))) rfl
theorem tp_31 : (.selects RX11 yX11_isNear yX11_isNear : Cond) ∈ lw_gd := g_mem (List.mem_append_left _ (List.mem_of_getElem? (i := 31) (by decide +kernel))) rfl
theorem tw_868 : (.instanceMethod yX11_isNear : Cond) ∈ lw_gd := g_mem (List.mem_append_right _ (g_k4 (List.mem_of_getElem? (i := 148) (by decide +kernel)))) rfl
theorem tw_956 : (.code yX11_near cX11_near 2 (some .long) : Cond) ∈ lw_gd := g_mem (List.mem_append_right _ (g_k4 (List.mem_of_getElem? (i := 236) rfl))) rfl
theorem tw_955 : (.selects RX11 yX11_near yX11_near : Cond) ∈ lw_gd := g_mem (List.mem_append_right _ (g_k4 (List.mem_of_getElem? (i := 235) (by decide +kernel)))) rfl
theorem tw_954 : (.instanceMethod yX11_near : Cond) ∈ lw_gd := g_mem (List.mem_append_right _ (g_k4 (List.mem_of_getElem? (i := 234) (by decide +kernel)))) rfl
theorem tw_1877 : (.methodLink RL 77 yX12_near : Cond) ∈ lw_gd := g_mem (List.mem_append_right _ (g_k8 (List.mem_of_getElem? (i := 197) (by decide +kernel)))) rfl
theorem tw_1856 : (.methodLink RX12 416 yX12_isNear : Cond) ∈ lw_gd := g_mem (List.mem_append_right _ (g_k8 (List.mem_of_getElem? (i := 176) (by decide +kernel)))) rfl
theorem tw_1860 : (.constantLong RX12 332 (9) : Cond) ∈ lw_gd := g_mem (List.mem_append_right _ (g_k8 (List.mem_of_getElem? (i := 180) (by decide +kernel)))) rfl
theorem tw_1861 : (.methodLink RX12 413 yX12_nears : Cond) ∈ lw_gd := g_mem (List.mem_append_right _ (g_k8 (List.mem_of_getElem? (i := 181) (by decide +kernel)))) rfl
theorem tw_1865 : (.methodLink RX12 406 yX12_rowMany : Cond) ∈ lw_gd := g_mem (List.mem_append_right _ (g_k8 (List.mem_of_getElem? (i := 185) (by decide +kernel)))) rfl
theorem tw_1868 : (.code yX12_rowMany cX12_rowMany 3 (some .int) : Cond) ∈ lw_gd := g_mem (List.mem_append_right _ (g_k8 (List.mem_of_getElem? (i := 188) rfl))) rfl
theorem tp_99 : (.selects RX12 yX12_rowMany yX12_rowMany : Cond) ∈ lw_gd := g_mem (List.mem_append_left _ (List.mem_of_getElem? (i := 99) (by decide +kernel))) rfl
theorem tw_1867 : (.instanceMethod yX12_rowMany : Cond) ∈ lw_gd := g_mem (List.mem_append_right _ (g_k8 (List.mem_of_getElem? (i := 187) (by decide +kernel)))) rfl
theorem tw_1864 : (.code yX12_nears cX12_nears 7 (some .int) : Cond) ∈ lw_gd := g_mem (List.mem_append_right _ (g_k8 (List.mem_of_getElem? (i := 184) rfl))) rfl
theorem tp_98 : (.selects RX12 yX12_nears yX12_nears : Cond) ∈ lw_gd := g_mem (List.mem_append_left _ (List.mem_of_getElem? (i := 98) (by decide +kernel))) rfl
theorem tw_1863 : (.instanceMethod yX12_nears : Cond) ∈ lw_gd := g_mem (List.mem_append_right _ (g_k8 (List.mem_of_getElem? (i := 183) (by decide +kernel)))) rfl
theorem tw_1859 : (.code yX12_isNear cX12_isNear 2 (some .boolean) : Cond) ∈ lw_gd := g_mem (List.mem_append_right _ (g_k8 (List.mem_of_getElem? (i := 179) rfl))) rfl
theorem tp_97 : (.selects RX12 yX12_isNear yX12_isNear : Cond) ∈ lw_gd := g_mem (List.mem_append_left _ (List.mem_of_getElem? (i := 97) (by decide +kernel))) rfl
theorem tw_1858 : (.instanceMethod yX12_isNear : Cond) ∈ lw_gd := g_mem (List.mem_append_right _ (g_k8 (List.mem_of_getElem? (i := 178) (by decide +kernel)))) rfl
theorem tw_1880 : (.code yX12_near cX12_near 2 (some .long) : Cond) ∈ lw_gd := g_mem (List.mem_append_right _ (g_k8 (List.mem_of_getElem? (i := 200) rfl))) rfl
theorem tw_1879 : (.selects RX12 yX12_near yX12_near : Cond) ∈ lw_gd := g_mem (List.mem_append_right _ (g_k8 (List.mem_of_getElem? (i := 199) (by decide +kernel)))) rfl
theorem tw_1878 : (.instanceMethod yX12_near : Cond) ∈ lw_gd := g_mem (List.mem_append_right _ (g_k8 (List.mem_of_getElem? (i := 198) (by decide +kernel)))) rfl
theorem tw_2109 : (.constantLong RL 78 (4294967295) : Cond) ∈ lw_gd := g_mem (List.mem_append_right _ (g_k9 (List.mem_of_getElem? (i := 189) (by decide +kernel)))) rfl
theorem tw_957 : (.methodLink RL 80 yX11_within : Cond) ∈ lw_gd := g_mem (List.mem_append_right _ (g_k4 (List.mem_of_getElem? (i := 237) (by decide +kernel)))) rfl
theorem tw_961 : (.methodLink RX11 263 yX1_rowCount : Cond) ∈ lw_gd := g_mem (List.mem_append_right _ (g_k5 (List.mem_of_getElem? (i := 1) (by decide +kernel)))) rfl
theorem tw_964 : (.code yX1_rowCount cX1_rowCount 1 (some .int) : Cond) ∈ lw_gd := g_mem (List.mem_append_right _ (g_k5 (List.mem_of_getElem? (i := 4) rfl))) rfl
theorem tw_963 : (.selects RX1 yX1_rowCount yX1_rowCount : Cond) ∈ lw_gd := g_mem (List.mem_append_right _ (g_k5 (List.mem_of_getElem? (i := 3) (by decide +kernel)))) rfl
theorem tw_962 : (.instanceMethod yX1_rowCount : Cond) ∈ lw_gd := g_mem (List.mem_append_right _ (g_k5 (List.mem_of_getElem? (i := 2) (by decide +kernel)))) rfl
theorem tw_965 : (.methodLink RX11 266 yX7_countAhead : Cond) ∈ lw_gd := g_mem (List.mem_append_right _ (g_k5 (List.mem_of_getElem? (i := 5) (by decide +kernel)))) rfl
theorem tw_968 : (.code yX7_countAhead cX7_countAhead 13 (some .int) : Cond) ∈ lw_gd := g_mem (List.mem_append_right _ (g_k5 (List.mem_of_getElem? (i := 8) rfl))) rfl
theorem tw_967 : (.selects RX7 yX7_countAhead yX7_countAhead : Cond) ∈ lw_gd := g_mem (List.mem_append_right _ (g_k5 (List.mem_of_getElem? (i := 7) (by decide +kernel)))) rfl
theorem tw_966 : (.instanceMethod yX7_countAhead : Cond) ∈ lw_gd := g_mem (List.mem_append_right _ (g_k5 (List.mem_of_getElem? (i := 6) (by decide +kernel)))) rfl
theorem tw_960 : (.code yX11_within cX11_within 3 (some .int) : Cond) ∈ lw_gd := g_mem (List.mem_append_right _ (g_k5 (List.mem_of_getElem? (i := 0) rfl))) rfl
theorem tw_959 : (.selects RX11 yX11_within yX11_within : Cond) ∈ lw_gd := g_mem (List.mem_append_right _ (g_k4 (List.mem_of_getElem? (i := 239) (by decide +kernel)))) rfl
theorem tw_958 : (.instanceMethod yX11_within : Cond) ∈ lw_gd := g_mem (List.mem_append_right _ (g_k4 (List.mem_of_getElem? (i := 238) (by decide +kernel)))) rfl
theorem tw_1881 : (.methodLink RL 84 yX12_within : Cond) ∈ lw_gd := g_mem (List.mem_append_right _ (g_k8 (List.mem_of_getElem? (i := 201) (by decide +kernel)))) rfl
theorem tw_1884 : (.code yX12_within cX12_within 5 (some .int) : Cond) ∈ lw_gd := g_mem (List.mem_append_right _ (g_k8 (List.mem_of_getElem? (i := 204) rfl))) rfl
theorem tw_1883 : (.selects RX12 yX12_within yX12_within : Cond) ∈ lw_gd := g_mem (List.mem_append_right _ (g_k8 (List.mem_of_getElem? (i := 203) (by decide +kernel)))) rfl
theorem tw_1882 : (.instanceMethod yX12_within : Cond) ∈ lw_gd := g_mem (List.mem_append_right _ (g_k8 (List.mem_of_getElem? (i := 202) (by decide +kernel)))) rfl
theorem tw_969 : (.methodLink RL 85 yX11_cancel : Cond) ∈ lw_gd := g_mem (List.mem_append_right _ (g_k5 (List.mem_of_getElem? (i := 9) (by decide +kernel)))) rfl
theorem tw_972 : (.code yX11_cancel cX11_cancel 2 (some .int) : Cond) ∈ lw_gd := g_mem (List.mem_append_right _ (g_k5 (List.mem_of_getElem? (i := 12) rfl))) rfl
theorem tw_971 : (.selects RX11 yX11_cancel yX11_cancel : Cond) ∈ lw_gd := g_mem (List.mem_append_right _ (g_k5 (List.mem_of_getElem? (i := 11) (by decide +kernel)))) rfl
theorem tw_970 : (.instanceMethod yX11_cancel : Cond) ∈ lw_gd := g_mem (List.mem_append_right _ (g_k5 (List.mem_of_getElem? (i := 10) (by decide +kernel)))) rfl
theorem tw_1885 : (.methodLink RL 88 yX12_cancel : Cond) ∈ lw_gd := g_mem (List.mem_append_right _ (g_k8 (List.mem_of_getElem? (i := 205) (by decide +kernel)))) rfl
theorem tw_1888 : (.code yX12_cancel cX12_cancel 2 (some .int) : Cond) ∈ lw_gd := g_mem (List.mem_append_right _ (g_k8 (List.mem_of_getElem? (i := 208) rfl))) rfl
theorem tw_1887 : (.selects RX12 yX12_cancel yX12_cancel : Cond) ∈ lw_gd := g_mem (List.mem_append_right _ (g_k8 (List.mem_of_getElem? (i := 207) (by decide +kernel)))) rfl
theorem tw_1886 : (.instanceMethod yX12_cancel : Cond) ∈ lw_gd := g_mem (List.mem_append_right _ (g_k8 (List.mem_of_getElem? (i := 206) (by decide +kernel)))) rfl
theorem tw_993 : (.methodLink RL 89 yX11_order : Cond) ∈ lw_gd := g_mem (List.mem_append_right _ (g_k5 (List.mem_of_getElem? (i := 33) (by decide +kernel)))) rfl
theorem tw_996 : (.code yX11_order cX11_order 2 (some .int) : Cond) ∈ lw_gd := g_mem (List.mem_append_right _ (g_k5 (List.mem_of_getElem? (i := 36) rfl))) rfl
theorem tw_995 : (.selects RX11 yX11_order yX11_order : Cond) ∈ lw_gd := g_mem (List.mem_append_right _ (g_k5 (List.mem_of_getElem? (i := 35) (by decide +kernel)))) rfl
theorem tw_994 : (.instanceMethod yX11_order : Cond) ∈ lw_gd := g_mem (List.mem_append_right _ (g_k5 (List.mem_of_getElem? (i := 34) (by decide +kernel)))) rfl
theorem tw_1901 : (.methodLink RL 92 yX12_order : Cond) ∈ lw_gd := g_mem (List.mem_append_right _ (g_k8 (List.mem_of_getElem? (i := 221) (by decide +kernel)))) rfl
theorem tw_1904 : (.code yX12_order cX12_order 2 (some .int) : Cond) ∈ lw_gd := g_mem (List.mem_append_right _ (g_k8 (List.mem_of_getElem? (i := 224) rfl))) rfl
theorem tw_1903 : (.selects RX12 yX12_order yX12_order : Cond) ∈ lw_gd := g_mem (List.mem_append_right _ (g_k8 (List.mem_of_getElem? (i := 223) (by decide +kernel)))) rfl
theorem tw_1902 : (.instanceMethod yX12_order : Cond) ∈ lw_gd := g_mem (List.mem_append_right _ (g_k8 (List.mem_of_getElem? (i := 222) (by decide +kernel)))) rfl
theorem tw_997 : (.methodLink RL 93 yX11_left : Cond) ∈ lw_gd := g_mem (List.mem_append_right _ (g_k5 (List.mem_of_getElem? (i := 37) (by decide +kernel)))) rfl
theorem tw_1000 : (.code yX11_left cX11_left 1 (some .long) : Cond) ∈ lw_gd := g_mem (List.mem_append_right _ (g_k5 (List.mem_of_getElem? (i := 40) rfl))) rfl
theorem tw_999 : (.selects RX11 yX11_left yX11_left : Cond) ∈ lw_gd := g_mem (List.mem_append_right _ (g_k5 (List.mem_of_getElem? (i := 39) (by decide +kernel)))) rfl
theorem tw_998 : (.instanceMethod yX11_left : Cond) ∈ lw_gd := g_mem (List.mem_append_right _ (g_k5 (List.mem_of_getElem? (i := 38) (by decide +kernel)))) rfl
theorem tw_1905 : (.methodLink RL 96 yX12_left : Cond) ∈ lw_gd := g_mem (List.mem_append_right _ (g_k8 (List.mem_of_getElem? (i := 225) (by decide +kernel)))) rfl
theorem tw_1908 : (.code yX12_left cX12_left 4 (some .long) : Cond) ∈ lw_gd := g_mem (List.mem_append_right _ (g_k8 (List.mem_of_getElem? (i := 228) rfl))) rfl
theorem tw_1907 : (.selects RX12 yX12_left yX12_left : Cond) ∈ lw_gd := g_mem (List.mem_append_right _ (g_k8 (List.mem_of_getElem? (i := 227) (by decide +kernel)))) rfl
theorem tw_1906 : (.instanceMethod yX12_left : Cond) ∈ lw_gd := g_mem (List.mem_append_right _ (g_k8 (List.mem_of_getElem? (i := 226) (by decide +kernel)))) rfl
theorem tw_1001 : (.methodLink RL 97 yX11_least : Cond) ∈ lw_gd := g_mem (List.mem_append_right _ (g_k5 (List.mem_of_getElem? (i := 41) (by decide +kernel)))) rfl
theorem tw_1004 : (.code yX11_least cX11_least 3 (some .long) : Cond) ∈ lw_gd := g_mem (List.mem_append_right _ (g_k5 (List.mem_of_getElem? (i := 44) rfl))) rfl
theorem tw_1003 : (.selects RX11 yX11_least yX11_least : Cond) ∈ lw_gd := g_mem (List.mem_append_right _ (g_k5 (List.mem_of_getElem? (i := 43) (by decide +kernel)))) rfl
theorem tw_1002 : (.instanceMethod yX11_least : Cond) ∈ lw_gd := g_mem (List.mem_append_right _ (g_k5 (List.mem_of_getElem? (i := 42) (by decide +kernel)))) rfl
theorem tw_1909 : (.methodLink RL 101 yX12_least : Cond) ∈ lw_gd := g_mem (List.mem_append_right _ (g_k8 (List.mem_of_getElem? (i := 229) (by decide +kernel)))) rfl
theorem tw_1912 : (.code yX12_least cX12_least 8 (some .long) : Cond) ∈ lw_gd := g_mem (List.mem_append_right _ (g_k8 (List.mem_of_getElem? (i := 232) rfl))) rfl
theorem tw_1911 : (.selects RX12 yX12_least yX12_least : Cond) ∈ lw_gd := g_mem (List.mem_append_right _ (g_k8 (List.mem_of_getElem? (i := 231) (by decide +kernel)))) rfl
theorem tw_1910 : (.instanceMethod yX12_least : Cond) ∈ lw_gd := g_mem (List.mem_append_right _ (g_k8 (List.mem_of_getElem? (i := 230) (by decide +kernel)))) rfl
theorem tw_1013 : (.methodLink RL 102 yX11_share : Cond) ∈ lw_gd := g_mem (List.mem_append_right _ (g_k5 (List.mem_of_getElem? (i := 53) (by decide +kernel)))) rfl
theorem tw_1016 : (.code yX11_share cX11_share 3 (some .int) : Cond) ∈ lw_gd := g_mem (List.mem_append_right _ (g_k5 (List.mem_of_getElem? (i := 56) rfl))) rfl
theorem tw_1015 : (.selects RX11 yX11_share yX11_share : Cond) ∈ lw_gd := g_mem (List.mem_append_right _ (g_k5 (List.mem_of_getElem? (i := 55) (by decide +kernel)))) rfl
theorem tw_1014 : (.instanceMethod yX11_share : Cond) ∈ lw_gd := g_mem (List.mem_append_right _ (g_k5 (List.mem_of_getElem? (i := 54) (by decide +kernel)))) rfl
theorem tw_1913 : (.methodLink RL 105 yX12_share : Cond) ∈ lw_gd := g_mem (List.mem_append_right _ (g_k8 (List.mem_of_getElem? (i := 233) (by decide +kernel)))) rfl
theorem tw_1916 : (.code yX12_share cX12_share 10 (some .int) : Cond) ∈ lw_gd := g_mem (List.mem_append_right _ (g_k8 (List.mem_of_getElem? (i := 236) rfl))) rfl
theorem tw_1915 : (.selects RX12 yX12_share yX12_share : Cond) ∈ lw_gd := g_mem (List.mem_append_right _ (g_k8 (List.mem_of_getElem? (i := 235) (by decide +kernel)))) rfl
theorem tw_1914 : (.instanceMethod yX12_share : Cond) ∈ lw_gd := g_mem (List.mem_append_right _ (g_k8 (List.mem_of_getElem? (i := 234) (by decide +kernel)))) rfl
theorem tw_1022 : (.methodLink RL 106 yX11_sure : Cond) ∈ lw_gd := g_mem (List.mem_append_right _ (g_k5 (List.mem_of_getElem? (i := 62) (by decide +kernel)))) rfl
theorem tw_1025 : (.code yX11_sure cX11_sure 3 (some .long) : Cond) ∈ lw_gd := g_mem (List.mem_append_right _ (g_k5 (List.mem_of_getElem? (i := 65) rfl))) rfl
theorem tw_1024 : (.selects RX11 yX11_sure yX11_sure : Cond) ∈ lw_gd := g_mem (List.mem_append_right _ (g_k5 (List.mem_of_getElem? (i := 64) (by decide +kernel)))) rfl
theorem tw_1023 : (.instanceMethod yX11_sure : Cond) ∈ lw_gd := g_mem (List.mem_append_right _ (g_k5 (List.mem_of_getElem? (i := 63) (by decide +kernel)))) rfl
theorem tw_1918 : (.methodLink RL 109 yX12_sure : Cond) ∈ lw_gd := g_mem (List.mem_append_right _ (g_k8 (List.mem_of_getElem? (i := 238) (by decide +kernel)))) rfl
theorem tw_1921 : (.code yX12_sure cX12_sure 11 (some .long) : Cond) ∈ lw_gd := g_mem (List.mem_append_right _ (g_k9 (List.mem_of_getElem? (i := 1) rfl))) rfl
theorem tw_1920 : (.selects RX12 yX12_sure yX12_sure : Cond) ∈ lw_gd := g_mem (List.mem_append_right _ (g_k9 (List.mem_of_getElem? (i := 0) (by decide +kernel)))) rfl
theorem tw_1919 : (.instanceMethod yX12_sure : Cond) ∈ lw_gd := g_mem (List.mem_append_right _ (g_k8 (List.mem_of_getElem? (i := 239) (by decide +kernel)))) rfl
theorem tw_1032 : (.methodLink RL 110 yX11_lead : Cond) ∈ lw_gd := g_mem (List.mem_append_right _ (g_k5 (List.mem_of_getElem? (i := 72) (by decide +kernel)))) rfl
theorem tw_1036 : (.methodLink RX11 296 yX2_makeSteps : Cond) ∈ lw_gd := g_mem (List.mem_append_right _ (g_k5 (List.mem_of_getElem? (i := 76) (by decide +kernel)))) rfl
theorem tw_1040 : (.methodLink RX2 60 yX2_makeStep : Cond) ∈ lw_gd := g_mem (List.mem_append_right _ (g_k5 (List.mem_of_getElem? (i := 80) (by decide +kernel)))) rfl
theorem tw_1043 : (.code yX2_makeStep cX2_makeStep 4 (some .boolean) : Cond) ∈ lw_gd := g_mem (List.mem_append_right _ (g_k5 (List.mem_of_getElem? (i := 83) rfl))) rfl
theorem tp_39 : (.selects RX2 yX2_makeStep yX2_makeStep : Cond) ∈ lw_gd := g_mem (List.mem_append_left _ (List.mem_of_getElem? (i := 39) (by decide +kernel))) rfl
theorem tw_1042 : (.instanceMethod yX2_makeStep : Cond) ∈ lw_gd := g_mem (List.mem_append_right _ (g_k5 (List.mem_of_getElem? (i := 82) (by decide +kernel)))) rfl
theorem tw_1039 : (.code yX2_makeSteps cX2_makeSteps 3 (some .int) : Cond) ∈ lw_gd := g_mem (List.mem_append_right _ (g_k5 (List.mem_of_getElem? (i := 79) rfl))) rfl
theorem tw_1038 : (.selects RX2 yX2_makeSteps yX2_makeSteps : Cond) ∈ lw_gd := g_mem (List.mem_append_right _ (g_k5 (List.mem_of_getElem? (i := 78) (by decide +kernel)))) rfl
theorem tw_1037 : (.instanceMethod yX2_makeSteps : Cond) ∈ lw_gd := g_mem (List.mem_append_right _ (g_k5 (List.mem_of_getElem? (i := 77) (by decide +kernel)))) rfl
theorem tw_1035 : (.code yX11_lead cX11_lead 2 (some .int) : Cond) ∈ lw_gd := g_mem (List.mem_append_right _ (g_k5 (List.mem_of_getElem? (i := 75) rfl))) rfl
theorem tw_1034 : (.selects RX11 yX11_lead yX11_lead : Cond) ∈ lw_gd := g_mem (List.mem_append_right _ (g_k5 (List.mem_of_getElem? (i := 74) (by decide +kernel)))) rfl
theorem tw_1033 : (.instanceMethod yX11_lead : Cond) ∈ lw_gd := g_mem (List.mem_append_right _ (g_k5 (List.mem_of_getElem? (i := 73) (by decide +kernel)))) rfl
theorem tw_1922 : (.methodLink RL 113 yX12_lead : Cond) ∈ lw_gd := g_mem (List.mem_append_right _ (g_k9 (List.mem_of_getElem? (i := 2) (by decide +kernel)))) rfl
theorem tw_1926 : (.constantLong RX12 440 (100) : Cond) ∈ lw_gd := g_mem (List.mem_append_right _ (g_k9 (List.mem_of_getElem? (i := 6) (by decide +kernel)))) rfl
theorem tw_1927 : (.methodLink RX12 442 yX12_isStep : Cond) ∈ lw_gd := g_mem (List.mem_append_right _ (g_k9 (List.mem_of_getElem? (i := 7) (by decide +kernel)))) rfl
theorem tw_1930 : (.code yX12_isStep cX12_isStep 5 (some .boolean) : Cond) ∈ lw_gd := g_mem (List.mem_append_right _ (g_k9 (List.mem_of_getElem? (i := 10) rfl))) rfl
theorem tp_105 : (.selects RX12 yX12_isStep yX12_isStep : Cond) ∈ lw_gd := g_mem (List.mem_append_left _ (List.mem_of_getElem? (i := 105) (by decide +kernel))) rfl
theorem tw_1929 : (.instanceMethod yX12_isStep : Cond) ∈ lw_gd := g_mem (List.mem_append_right _ (g_k9 (List.mem_of_getElem? (i := 9) (by decide +kernel)))) rfl
theorem tw_1925 : (.code yX12_lead cX12_lead 3 (some .int) : Cond) ∈ lw_gd := g_mem (List.mem_append_right _ (g_k9 (List.mem_of_getElem? (i := 5) rfl))) rfl
theorem tw_1924 : (.selects RX12 yX12_lead yX12_lead : Cond) ∈ lw_gd := g_mem (List.mem_append_right _ (g_k9 (List.mem_of_getElem? (i := 4) (by decide +kernel)))) rfl
theorem tw_1923 : (.instanceMethod yX12_lead : Cond) ∈ lw_gd := g_mem (List.mem_append_right _ (g_k9 (List.mem_of_getElem? (i := 3) (by decide +kernel)))) rfl
theorem tw_1067 : (.methodLink RL 114 yX11_undo : Cond) ∈ lw_gd := g_mem (List.mem_append_right _ (g_k5 (List.mem_of_getElem? (i := 107) (by decide +kernel)))) rfl
theorem tw_1071 : (.methodLink RX11 299 yX2_undoStep : Cond) ∈ lw_gd := g_mem (List.mem_append_right _ (g_k5 (List.mem_of_getElem? (i := 111) (by decide +kernel)))) rfl
theorem tw_1074 : (.code yX2_undoStep cX2_undoStep 2 (some .boolean) : Cond) ∈ lw_gd := g_mem (List.mem_append_right _ (g_k5 (List.mem_of_getElem? (i := 114) rfl))) rfl
theorem tw_1073 : (.selects RX2 yX2_undoStep yX2_undoStep : Cond) ∈ lw_gd := g_mem (List.mem_append_right _ (g_k5 (List.mem_of_getElem? (i := 113) (by decide +kernel)))) rfl
theorem tw_1072 : (.instanceMethod yX2_undoStep : Cond) ∈ lw_gd := g_mem (List.mem_append_right _ (g_k5 (List.mem_of_getElem? (i := 112) (by decide +kernel)))) rfl
theorem tw_1070 : (.code yX11_undo cX11_undo 1 (some .boolean) : Cond) ∈ lw_gd := g_mem (List.mem_append_right _ (g_k5 (List.mem_of_getElem? (i := 110) rfl))) rfl
theorem tw_1069 : (.selects RX11 yX11_undo yX11_undo : Cond) ∈ lw_gd := g_mem (List.mem_append_right _ (g_k5 (List.mem_of_getElem? (i := 109) (by decide +kernel)))) rfl
theorem tw_1068 : (.instanceMethod yX11_undo : Cond) ∈ lw_gd := g_mem (List.mem_append_right _ (g_k5 (List.mem_of_getElem? (i := 108) (by decide +kernel)))) rfl
theorem tw_1939 : (.methodLink RL 117 yX12_undo : Cond) ∈ lw_gd := g_mem (List.mem_append_right _ (g_k9 (List.mem_of_getElem? (i := 19) (by decide +kernel)))) rfl
theorem tw_1942 : (.code yX12_undo cX12_undo 1 (some .boolean) : Cond) ∈ lw_gd := g_mem (List.mem_append_right _ (g_k9 (List.mem_of_getElem? (i := 22) rfl))) rfl
theorem tw_1941 : (.selects RX12 yX12_undo yX12_undo : Cond) ∈ lw_gd := g_mem (List.mem_append_right _ (g_k9 (List.mem_of_getElem? (i := 21) (by decide +kernel)))) rfl
theorem tw_1940 : (.instanceMethod yX12_undo : Cond) ∈ lw_gd := g_mem (List.mem_append_right _ (g_k9 (List.mem_of_getElem? (i := 20) (by decide +kernel)))) rfl
theorem tw_1075 : (.methodLink RL 118 yX11_redo : Cond) ∈ lw_gd := g_mem (List.mem_append_right _ (g_k5 (List.mem_of_getElem? (i := 115) (by decide +kernel)))) rfl
theorem tw_1079 : (.methodLink RX11 302 yX2_redoStep : Cond) ∈ lw_gd := g_mem (List.mem_append_right _ (g_k5 (List.mem_of_getElem? (i := 119) (by decide +kernel)))) rfl
theorem tw_1082 : (.code yX2_redoStep cX2_redoStep 2 (some .boolean) : Cond) ∈ lw_gd := g_mem (List.mem_append_right _ (g_k5 (List.mem_of_getElem? (i := 122) rfl))) rfl
theorem tw_1081 : (.selects RX2 yX2_redoStep yX2_redoStep : Cond) ∈ lw_gd := g_mem (List.mem_append_right _ (g_k5 (List.mem_of_getElem? (i := 121) (by decide +kernel)))) rfl
theorem tw_1080 : (.instanceMethod yX2_redoStep : Cond) ∈ lw_gd := g_mem (List.mem_append_right _ (g_k5 (List.mem_of_getElem? (i := 120) (by decide +kernel)))) rfl
theorem tw_1078 : (.code yX11_redo cX11_redo 1 (some .boolean) : Cond) ∈ lw_gd := g_mem (List.mem_append_right _ (g_k5 (List.mem_of_getElem? (i := 118) rfl))) rfl
theorem tw_1077 : (.selects RX11 yX11_redo yX11_redo : Cond) ∈ lw_gd := g_mem (List.mem_append_right _ (g_k5 (List.mem_of_getElem? (i := 117) (by decide +kernel)))) rfl
theorem tw_1076 : (.instanceMethod yX11_redo : Cond) ∈ lw_gd := g_mem (List.mem_append_right _ (g_k5 (List.mem_of_getElem? (i := 116) (by decide +kernel)))) rfl
theorem tw_1943 : (.methodLink RL 121 yX12_redo : Cond) ∈ lw_gd := g_mem (List.mem_append_right _ (g_k9 (List.mem_of_getElem? (i := 23) (by decide +kernel)))) rfl
theorem tw_1946 : (.code yX12_redo cX12_redo 1 (some .boolean) : Cond) ∈ lw_gd := g_mem (List.mem_append_right _ (g_k9 (List.mem_of_getElem? (i := 26) rfl))) rfl
theorem tw_1945 : (.selects RX12 yX12_redo yX12_redo : Cond) ∈ lw_gd := g_mem (List.mem_append_right _ (g_k9 (List.mem_of_getElem? (i := 25) (by decide +kernel)))) rfl
theorem tw_1944 : (.instanceMethod yX12_redo : Cond) ∈ lw_gd := g_mem (List.mem_append_right _ (g_k9 (List.mem_of_getElem? (i := 24) (by decide +kernel)))) rfl
theorem tw_1083 : (.methodLink RL 122 yX11_leader : Cond) ∈ lw_gd := g_mem (List.mem_append_right _ (g_k5 (List.mem_of_getElem? (i := 123) (by decide +kernel)))) rfl
theorem tw_1091 : (.constantLong RX11 308 (-1000000000) : Cond) ∈ lw_gd := g_mem (List.mem_append_right _ (g_k5 (List.mem_of_getElem? (i := 131) (by decide +kernel)))) rfl
theorem tw_1086 : (.code yX11_leader cX11_leader 3 (some .long) : Cond) ∈ lw_gd := g_mem (List.mem_append_right _ (g_k5 (List.mem_of_getElem? (i := 126) rfl))) rfl
theorem tw_1085 : (.selects RX11 yX11_leader yX11_leader : Cond) ∈ lw_gd := g_mem (List.mem_append_right _ (g_k5 (List.mem_of_getElem? (i := 125) (by decide +kernel)))) rfl
theorem tw_1084 : (.instanceMethod yX11_leader : Cond) ∈ lw_gd := g_mem (List.mem_append_right _ (g_k5 (List.mem_of_getElem? (i := 124) (by decide +kernel)))) rfl
theorem tw_1951 : (.methodLink RL 125 yX12_leader : Cond) ∈ lw_gd := g_mem (List.mem_append_right _ (g_k9 (List.mem_of_getElem? (i := 31) (by decide +kernel)))) rfl
theorem tw_1955 : (.constantLong RX12 445 (-1000000000) : Cond) ∈ lw_gd := g_mem (List.mem_append_right _ (g_k9 (List.mem_of_getElem? (i := 35) (by decide +kernel)))) rfl
theorem tw_1954 : (.code yX12_leader cX12_leader 3 (some .long) : Cond) ∈ lw_gd := g_mem (List.mem_append_right _ (g_k9 (List.mem_of_getElem? (i := 34) rfl))) rfl
theorem tw_1953 : (.selects RX12 yX12_leader yX12_leader : Cond) ∈ lw_gd := g_mem (List.mem_append_right _ (g_k9 (List.mem_of_getElem? (i := 33) (by decide +kernel)))) rfl
theorem tw_1952 : (.instanceMethod yX12_leader : Cond) ∈ lw_gd := g_mem (List.mem_append_right _ (g_k9 (List.mem_of_getElem? (i := 32) (by decide +kernel)))) rfl
theorem tw_1092 : (.methodLink RL 126 yX11_step : Cond) ∈ lw_gd := g_mem (List.mem_append_right _ (g_k5 (List.mem_of_getElem? (i := 132) (by decide +kernel)))) rfl
theorem tw_1095 : (.code yX11_step cX11_step 3 (some .int) : Cond) ∈ lw_gd := g_mem (List.mem_append_right _ (g_k5 (List.mem_of_getElem? (i := 135) rfl))) rfl
theorem tw_1094 : (.selects RX11 yX11_step yX11_step : Cond) ∈ lw_gd := g_mem (List.mem_append_right _ (g_k5 (List.mem_of_getElem? (i := 134) (by decide +kernel)))) rfl
theorem tw_1093 : (.instanceMethod yX11_step : Cond) ∈ lw_gd := g_mem (List.mem_append_right _ (g_k5 (List.mem_of_getElem? (i := 133) (by decide +kernel)))) rfl
theorem tw_1947 : (.methodLink RL 129 yX12_step : Cond) ∈ lw_gd := g_mem (List.mem_append_right _ (g_k9 (List.mem_of_getElem? (i := 27) (by decide +kernel)))) rfl
theorem tw_1950 : (.code yX12_step cX12_step 4 (some .int) : Cond) ∈ lw_gd := g_mem (List.mem_append_right _ (g_k9 (List.mem_of_getElem? (i := 30) rfl))) rfl
theorem tw_1949 : (.selects RX12 yX12_step yX12_step : Cond) ∈ lw_gd := g_mem (List.mem_append_right _ (g_k9 (List.mem_of_getElem? (i := 29) (by decide +kernel)))) rfl
theorem tw_1948 : (.instanceMethod yX12_step : Cond) ∈ lw_gd := g_mem (List.mem_append_right _ (g_k9 (List.mem_of_getElem? (i := 28) (by decide +kernel)))) rfl
theorem tw_1100 : (.methodLink RL 130 yX11_clash : Cond) ∈ lw_gd := g_mem (List.mem_append_right _ (g_k5 (List.mem_of_getElem? (i := 140) (by decide +kernel)))) rfl
theorem tw_1103 : (.code yX11_clash cX11_clash 4 (some .int) : Cond) ∈ lw_gd := g_mem (List.mem_append_right _ (g_k5 (List.mem_of_getElem? (i := 143) rfl))) rfl
theorem tw_1102 : (.selects RX11 yX11_clash yX11_clash : Cond) ∈ lw_gd := g_mem (List.mem_append_right _ (g_k5 (List.mem_of_getElem? (i := 142) (by decide +kernel)))) rfl
theorem tw_1101 : (.instanceMethod yX11_clash : Cond) ∈ lw_gd := g_mem (List.mem_append_right _ (g_k5 (List.mem_of_getElem? (i := 141) (by decide +kernel)))) rfl
theorem tw_1792 : (.methodLink RL 133 yX12_clash : Cond) ∈ lw_gd := g_mem (List.mem_append_right _ (g_k8 (List.mem_of_getElem? (i := 112) (by decide +kernel)))) rfl
theorem tw_1795 : (.code yX12_clash cX12_clash 4 (some .int) : Cond) ∈ lw_gd := g_mem (List.mem_append_right _ (g_k8 (List.mem_of_getElem? (i := 115) rfl))) rfl
theorem tw_1794 : (.selects RX12 yX12_clash yX12_clash : Cond) ∈ lw_gd := g_mem (List.mem_append_right _ (g_k8 (List.mem_of_getElem? (i := 114) (by decide +kernel)))) rfl
theorem tw_1793 : (.instanceMethod yX12_clash : Cond) ∈ lw_gd := g_mem (List.mem_append_right _ (g_k8 (List.mem_of_getElem? (i := 113) (by decide +kernel)))) rfl
theorem tw_1110 : (.methodLink RL 134 yX11_worst : Cond) ∈ lw_gd := g_mem (List.mem_append_right _ (g_k5 (List.mem_of_getElem? (i := 150) (by decide +kernel)))) rfl
theorem tw_784 : (.methodLink RX11 176 yX11_tableBy : Cond) ∈ lw_gd := g_mem (List.mem_append_right _ (g_k4 (List.mem_of_getElem? (i := 64) (by decide +kernel)))) rfl
theorem tn_102 : (.fieldLinkNest RX11 193 "ManyOut$House" "table" "LManyOut$Table;" "ManyOut" : Cond) ∈ lw_nw := g_nmem (g_k1 (List.mem_of_getElem? (i := 102) (by decide +kernel))) rfl
theorem tw_787 : (.code yX11_tableBy cX11_tableBy 2 (some (.object "ManyOut$Table")) : Cond) ∈ lw_gd := g_mem (List.mem_append_right _ (g_k4 (List.mem_of_getElem? (i := 67) rfl))) rfl
theorem tp_28 : (.selects RX11 yX11_tableBy yX11_tableBy : Cond) ∈ lw_gd := g_mem (List.mem_append_left _ (List.mem_of_getElem? (i := 28) (by decide +kernel))) rfl
theorem tw_786 : (.instanceMethod yX11_tableBy : Cond) ∈ lw_gd := g_mem (List.mem_append_right _ (g_k4 (List.mem_of_getElem? (i := 66) (by decide +kernel)))) rfl
theorem tw_1114 : (.methodLink RX11 316 yX8_worstPair : Cond) ∈ lw_gd := g_mem (List.mem_append_right _ (g_k5 (List.mem_of_getElem? (i := 154) (by decide +kernel)))) rfl
theorem tw_1117 : (.code yX8_worstPair cX8_worstPair 7 (some .int) : Cond) ∈ lw_gd := g_mem (List.mem_append_right _ (g_k5 (List.mem_of_getElem? (i := 157) rfl))) rfl
theorem tw_1116 : (.selects RX8 yX8_worstPair yX8_worstPair : Cond) ∈ lw_gd := g_mem (List.mem_append_right _ (g_k5 (List.mem_of_getElem? (i := 156) (by decide +kernel)))) rfl
theorem tw_1115 : (.instanceMethod yX8_worstPair : Cond) ∈ lw_gd := g_mem (List.mem_append_right _ (g_k5 (List.mem_of_getElem? (i := 155) (by decide +kernel)))) rfl
theorem tw_1113 : (.code yX11_worst cX11_worst 2 (some .int) : Cond) ∈ lw_gd := g_mem (List.mem_append_right _ (g_k5 (List.mem_of_getElem? (i := 153) rfl))) rfl
theorem tw_1112 : (.selects RX11 yX11_worst yX11_worst : Cond) ∈ lw_gd := g_mem (List.mem_append_right _ (g_k5 (List.mem_of_getElem? (i := 152) (by decide +kernel)))) rfl
theorem tw_1111 : (.instanceMethod yX11_worst : Cond) ∈ lw_gd := g_mem (List.mem_append_right _ (g_k5 (List.mem_of_getElem? (i := 151) (by decide +kernel)))) rfl
theorem tw_1801 : (.methodLink RL 138 yX12_worst : Cond) ∈ lw_gd := g_mem (List.mem_append_right _ (g_k8 (List.mem_of_getElem? (i := 121) (by decide +kernel)))) rfl
theorem tw_1804 : (.code yX12_worst cX12_worst 7 (some .int) : Cond) ∈ lw_gd := g_mem (List.mem_append_right _ (g_k8 (List.mem_of_getElem? (i := 124) rfl))) rfl
theorem tw_1803 : (.selects RX12 yX12_worst yX12_worst : Cond) ∈ lw_gd := g_mem (List.mem_append_right _ (g_k8 (List.mem_of_getElem? (i := 123) (by decide +kernel)))) rfl
theorem tw_1802 : (.instanceMethod yX12_worst : Cond) ∈ lw_gd := g_mem (List.mem_append_right _ (g_k8 (List.mem_of_getElem? (i := 122) (by decide +kernel)))) rfl
theorem tn_392 : (.fieldLinkNest RX11 189 "ManyOut$Led" "table" "LManyOut$Table;" "ManyOut" : Cond) ∈ lw_nw := g_nmem (g_k2 (List.mem_of_getElem? (i := 152) (by decide +kernel))) rfl
theorem tw_1119 : (.methodLink RL 139 yX11_squares : Cond) ∈ lw_gd := g_mem (List.mem_append_right _ (g_k5 (List.mem_of_getElem? (i := 159) (by decide +kernel)))) rfl
theorem tw_1123 : (.methodLink RX11 319 yX8_allSquares : Cond) ∈ lw_gd := g_mem (List.mem_append_right _ (g_k5 (List.mem_of_getElem? (i := 163) (by decide +kernel)))) rfl
theorem tw_1108 : (.methodLink RX8 40 yX8_productOf : Cond) ∈ lw_gd := g_mem (List.mem_append_right _ (g_k5 (List.mem_of_getElem? (i := 148) (by decide +kernel)))) rfl
theorem tw_800 : (.methodLink RX8 27 yX8_at : Cond) ∈ lw_gd := g_mem (List.mem_append_right _ (g_k4 (List.mem_of_getElem? (i := 80) (by decide +kernel)))) rfl
theorem tw_791 : (.code yX8_at cX8_at 3 (some .int) : Cond) ∈ lw_gd := g_mem (List.mem_append_right _ (g_k4 (List.mem_of_getElem? (i := 71) rfl))) rfl
theorem tw_790 : (.selects RX8 yX8_at yX8_at : Cond) ∈ lw_gd := g_mem (List.mem_append_right _ (g_k4 (List.mem_of_getElem? (i := 70) (by decide +kernel)))) rfl
theorem tw_789 : (.instanceMethod yX8_at : Cond) ∈ lw_gd := g_mem (List.mem_append_right _ (g_k4 (List.mem_of_getElem? (i := 69) (by decide +kernel)))) rfl
theorem tw_799 : (.code yX8_productOf cX8_productOf 5 (some .int) : Cond) ∈ lw_gd := g_mem (List.mem_append_right _ (g_k4 (List.mem_of_getElem? (i := 79) rfl))) rfl
theorem tw_798 : (.selects RX8 yX8_productOf yX8_productOf : Cond) ∈ lw_gd := g_mem (List.mem_append_right _ (g_k4 (List.mem_of_getElem? (i := 78) (by decide +kernel)))) rfl
theorem tw_797 : (.instanceMethod yX8_productOf : Cond) ∈ lw_gd := g_mem (List.mem_append_right _ (g_k4 (List.mem_of_getElem? (i := 77) (by decide +kernel)))) rfl
theorem tw_1126 : (.code yX8_allSquares cX8_allSquares 4 (some .long) : Cond) ∈ lw_gd := g_mem (List.mem_append_right _ (g_k5 (List.mem_of_getElem? (i := 166) rfl))) rfl
theorem tw_1125 : (.selects RX8 yX8_allSquares yX8_allSquares : Cond) ∈ lw_gd := g_mem (List.mem_append_right _ (g_k5 (List.mem_of_getElem? (i := 165) (by decide +kernel)))) rfl
theorem tw_1124 : (.instanceMethod yX8_allSquares : Cond) ∈ lw_gd := g_mem (List.mem_append_right _ (g_k5 (List.mem_of_getElem? (i := 164) (by decide +kernel)))) rfl
theorem tw_1122 : (.code yX11_squares cX11_squares 2 (some .long) : Cond) ∈ lw_gd := g_mem (List.mem_append_right _ (g_k5 (List.mem_of_getElem? (i := 162) rfl))) rfl
theorem tw_1121 : (.selects RX11 yX11_squares yX11_squares : Cond) ∈ lw_gd := g_mem (List.mem_append_right _ (g_k5 (List.mem_of_getElem? (i := 161) (by decide +kernel)))) rfl
theorem tw_1120 : (.instanceMethod yX11_squares : Cond) ∈ lw_gd := g_mem (List.mem_append_right _ (g_k5 (List.mem_of_getElem? (i := 160) (by decide +kernel)))) rfl
theorem tw_1956 : (.methodLink RL 143 yX12_squares : Cond) ∈ lw_gd := g_mem (List.mem_append_right _ (g_k9 (List.mem_of_getElem? (i := 36) (by decide +kernel)))) rfl
theorem tw_1959 : (.code yX12_squares cX12_squares 5 (some .long) : Cond) ∈ lw_gd := g_mem (List.mem_append_right _ (g_k9 (List.mem_of_getElem? (i := 39) rfl))) rfl
theorem tw_1958 : (.selects RX12 yX12_squares yX12_squares : Cond) ∈ lw_gd := g_mem (List.mem_append_right _ (g_k9 (List.mem_of_getElem? (i := 38) (by decide +kernel)))) rfl
theorem tw_1957 : (.instanceMethod yX12_squares : Cond) ∈ lw_gd := g_mem (List.mem_append_right _ (g_k9 (List.mem_of_getElem? (i := 37) (by decide +kernel)))) rfl
theorem tw_1127 : (.methodLink RL 144 yX11_sums : Cond) ∈ lw_gd := g_mem (List.mem_append_right _ (g_k5 (List.mem_of_getElem? (i := 167) (by decide +kernel)))) rfl
theorem tw_1131 : (.methodLink RX11 323 yX1_isSenderSet : Cond) ∈ lw_gd := g_mem (List.mem_append_right _ (g_k5 (List.mem_of_getElem? (i := 171) (by decide +kernel)))) rfl
theorem tw_1134 : (.code yX1_isSenderSet cX1_isSenderSet 2 (some .boolean) : Cond) ∈ lw_gd := g_mem (List.mem_append_right _ (g_k5 (List.mem_of_getElem? (i := 174) rfl))) rfl
theorem tw_1133 : (.selects RX1 yX1_isSenderSet yX1_isSenderSet : Cond) ∈ lw_gd := g_mem (List.mem_append_right _ (g_k5 (List.mem_of_getElem? (i := 173) (by decide +kernel)))) rfl
theorem tw_1132 : (.instanceMethod yX1_isSenderSet : Cond) ∈ lw_gd := g_mem (List.mem_append_right _ (g_k5 (List.mem_of_getElem? (i := 172) (by decide +kernel)))) rfl
theorem tw_1130 : (.code yX11_sums cX11_sums 4 (some .long) : Cond) ∈ lw_gd := g_mem (List.mem_append_right _ (g_k5 (List.mem_of_getElem? (i := 170) rfl))) rfl
theorem tw_1129 : (.selects RX11 yX11_sums yX11_sums : Cond) ∈ lw_gd := g_mem (List.mem_append_right _ (g_k5 (List.mem_of_getElem? (i := 169) (by decide +kernel)))) rfl
theorem tw_1128 : (.instanceMethod yX11_sums : Cond) ∈ lw_gd := g_mem (List.mem_append_right _ (g_k5 (List.mem_of_getElem? (i := 168) (by decide +kernel)))) rfl
theorem tw_1960 : (.methodLink RL 148 yX12_sums : Cond) ∈ lw_gd := g_mem (List.mem_append_right _ (g_k9 (List.mem_of_getElem? (i := 40) (by decide +kernel)))) rfl
theorem tw_1964 : (.methodLink RX12 454 yX12_areSenders : Cond) ∈ lw_gd := g_mem (List.mem_append_right _ (g_k9 (List.mem_of_getElem? (i := 44) (by decide +kernel)))) rfl
theorem tw_1967 : (.code yX12_areSenders cX12_areSenders 2 (some .boolean) : Cond) ∈ lw_gd := g_mem (List.mem_append_right _ (g_k9 (List.mem_of_getElem? (i := 47) rfl))) rfl
theorem tp_107 : (.selects RX12 yX12_areSenders yX12_areSenders : Cond) ∈ lw_gd := g_mem (List.mem_append_left _ (List.mem_of_getElem? (i := 107) (by decide +kernel))) rfl
theorem tw_1966 : (.instanceMethod yX12_areSenders : Cond) ∈ lw_gd := g_mem (List.mem_append_right _ (g_k9 (List.mem_of_getElem? (i := 46) (by decide +kernel)))) rfl
theorem tw_1934 : (.constantLong RX12 431 (2) : Cond) ∈ lw_gd := g_mem (List.mem_append_right _ (g_k9 (List.mem_of_getElem? (i := 14) (by decide +kernel)))) rfl
theorem tw_1968 : (.methodLink RX12 457 yX12_isLeast : Cond) ∈ lw_gd := g_mem (List.mem_append_right _ (g_k9 (List.mem_of_getElem? (i := 48) (by decide +kernel)))) rfl
theorem tw_1463 : (.fieldLink RX12 447 "ManyOutModel" "bestSum" "J" : Cond) ∈ lw_gd := g_mem (List.mem_append_right _ (g_k7 (List.mem_of_getElem? (i := 23) (by decide +kernel)))) rfl
theorem tw_1972 : (.methodLink RX12 450 yX12_isNext : Cond) ∈ lw_gd := g_mem (List.mem_append_right _ (g_k9 (List.mem_of_getElem? (i := 52) (by decide +kernel)))) rfl
theorem tw_1975 : (.code yX12_isNext cX12_isNext 5 (some .boolean) : Cond) ∈ lw_gd := g_mem (List.mem_append_right _ (g_k9 (List.mem_of_getElem? (i := 55) rfl))) rfl
theorem tp_109 : (.selects RX12 yX12_isNext yX12_isNext : Cond) ∈ lw_gd := g_mem (List.mem_append_left _ (List.mem_of_getElem? (i := 109) (by decide +kernel))) rfl
theorem tw_1974 : (.instanceMethod yX12_isNext : Cond) ∈ lw_gd := g_mem (List.mem_append_right _ (g_k9 (List.mem_of_getElem? (i := 54) (by decide +kernel)))) rfl
theorem tw_1971 : (.code yX12_isLeast cX12_isLeast 9 (some .boolean) : Cond) ∈ lw_gd := g_mem (List.mem_append_right _ (g_k9 (List.mem_of_getElem? (i := 51) rfl))) rfl
theorem tp_108 : (.selects RX12 yX12_isLeast yX12_isLeast : Cond) ∈ lw_gd := g_mem (List.mem_append_left _ (List.mem_of_getElem? (i := 108) (by decide +kernel))) rfl
theorem tw_1970 : (.instanceMethod yX12_isLeast : Cond) ∈ lw_gd := g_mem (List.mem_append_right _ (g_k9 (List.mem_of_getElem? (i := 50) (by decide +kernel)))) rfl
theorem tw_1963 : (.code yX12_sums cX12_sums 4 (some .long) : Cond) ∈ lw_gd := g_mem (List.mem_append_right _ (g_k9 (List.mem_of_getElem? (i := 43) rfl))) rfl
theorem tw_1962 : (.selects RX12 yX12_sums yX12_sums : Cond) ∈ lw_gd := g_mem (List.mem_append_right _ (g_k9 (List.mem_of_getElem? (i := 42) (by decide +kernel)))) rfl
theorem tw_1961 : (.instanceMethod yX12_sums : Cond) ∈ lw_gd := g_mem (List.mem_append_right _ (g_k9 (List.mem_of_getElem? (i := 41) (by decide +kernel)))) rfl
theorem tw_1160 : (.methodLink RL 149 yX11_apart : Cond) ∈ lw_gd := g_mem (List.mem_append_right _ (g_k5 (List.mem_of_getElem? (i := 200) (by decide +kernel)))) rfl
theorem tw_1163 : (.code yX11_apart cX11_apart 2 (some .long) : Cond) ∈ lw_gd := g_mem (List.mem_append_right _ (g_k5 (List.mem_of_getElem? (i := 203) rfl))) rfl
theorem tw_1162 : (.selects RX11 yX11_apart yX11_apart : Cond) ∈ lw_gd := g_mem (List.mem_append_right _ (g_k5 (List.mem_of_getElem? (i := 202) (by decide +kernel)))) rfl
theorem tw_1161 : (.instanceMethod yX11_apart : Cond) ∈ lw_gd := g_mem (List.mem_append_right _ (g_k5 (List.mem_of_getElem? (i := 201) (by decide +kernel)))) rfl
theorem tw_1976 : (.methodLink RL 152 yX12_apart : Cond) ∈ lw_gd := g_mem (List.mem_append_right _ (g_k9 (List.mem_of_getElem? (i := 56) (by decide +kernel)))) rfl
theorem tw_1979 : (.code yX12_apart cX12_apart 2 (some .long) : Cond) ∈ lw_gd := g_mem (List.mem_append_right _ (g_k9 (List.mem_of_getElem? (i := 59) rfl))) rfl
theorem tw_1978 : (.selects RX12 yX12_apart yX12_apart : Cond) ∈ lw_gd := g_mem (List.mem_append_right _ (g_k9 (List.mem_of_getElem? (i := 58) (by decide +kernel)))) rfl
theorem tw_1977 : (.instanceMethod yX12_apart : Cond) ∈ lw_gd := g_mem (List.mem_append_right _ (g_k9 (List.mem_of_getElem? (i := 57) (by decide +kernel)))) rfl
theorem tw_1170 : (.methodLink RL 153 yX11_word : Cond) ∈ lw_gd := g_mem (List.mem_append_right _ (g_k5 (List.mem_of_getElem? (i := 210) (by decide +kernel)))) rfl
theorem tw_1174 : (.methodLink RX11 341 yX1_isWord : Cond) ∈ lw_gd := g_mem (List.mem_append_right _ (g_k5 (List.mem_of_getElem? (i := 214) (by decide +kernel)))) rfl
theorem tw_1177 : (.code yX1_isWord cX1_isWord 2 (some .boolean) : Cond) ∈ lw_gd := g_mem (List.mem_append_right _ (g_k5 (List.mem_of_getElem? (i := 217) rfl))) rfl
theorem tw_1176 : (.selects RX1 yX1_isWord yX1_isWord : Cond) ∈ lw_gd := g_mem (List.mem_append_right _ (g_k5 (List.mem_of_getElem? (i := 216) (by decide +kernel)))) rfl
theorem tw_1175 : (.instanceMethod yX1_isWord : Cond) ∈ lw_gd := g_mem (List.mem_append_right _ (g_k5 (List.mem_of_getElem? (i := 215) (by decide +kernel)))) rfl
theorem tw_1173 : (.code yX11_word cX11_word 3 (some .int) : Cond) ∈ lw_gd := g_mem (List.mem_append_right _ (g_k5 (List.mem_of_getElem? (i := 213) rfl))) rfl
theorem tw_1172 : (.selects RX11 yX11_word yX11_word : Cond) ∈ lw_gd := g_mem (List.mem_append_right _ (g_k5 (List.mem_of_getElem? (i := 212) (by decide +kernel)))) rfl
theorem tw_1171 : (.instanceMethod yX11_word : Cond) ∈ lw_gd := g_mem (List.mem_append_right _ (g_k5 (List.mem_of_getElem? (i := 211) (by decide +kernel)))) rfl
theorem tw_1980 : (.methodLink RL 156 yX12_word : Cond) ∈ lw_gd := g_mem (List.mem_append_right _ (g_k9 (List.mem_of_getElem? (i := 60) (by decide +kernel)))) rfl
theorem tw_1983 : (.code yX12_word cX12_word 3 (some .int) : Cond) ∈ lw_gd := g_mem (List.mem_append_right _ (g_k9 (List.mem_of_getElem? (i := 63) rfl))) rfl
theorem tw_1982 : (.selects RX12 yX12_word yX12_word : Cond) ∈ lw_gd := g_mem (List.mem_append_right _ (g_k9 (List.mem_of_getElem? (i := 62) (by decide +kernel)))) rfl
theorem tw_1981 : (.instanceMethod yX12_word : Cond) ∈ lw_gd := g_mem (List.mem_append_right _ (g_k9 (List.mem_of_getElem? (i := 61) (by decide +kernel)))) rfl
theorem tw_1182 : (.methodLink RL 157 yX11_code : Cond) ∈ lw_gd := g_mem (List.mem_append_right _ (g_k5 (List.mem_of_getElem? (i := 222) (by decide +kernel)))) rfl
theorem tw_1185 : (.code yX11_code cX11_code 2 (some .long) : Cond) ∈ lw_gd := g_mem (List.mem_append_right _ (g_k5 (List.mem_of_getElem? (i := 225) rfl))) rfl
theorem tw_1184 : (.selects RX11 yX11_code yX11_code : Cond) ∈ lw_gd := g_mem (List.mem_append_right _ (g_k5 (List.mem_of_getElem? (i := 224) (by decide +kernel)))) rfl
theorem tw_1183 : (.instanceMethod yX11_code : Cond) ∈ lw_gd := g_mem (List.mem_append_right _ (g_k5 (List.mem_of_getElem? (i := 223) (by decide +kernel)))) rfl
theorem tw_1984 : (.methodLink RL 160 yX12_code : Cond) ∈ lw_gd := g_mem (List.mem_append_right _ (g_k9 (List.mem_of_getElem? (i := 64) (by decide +kernel)))) rfl
theorem tw_1988 : (.constantLong RX12 460 (3) : Cond) ∈ lw_gd := g_mem (List.mem_append_right _ (g_k9 (List.mem_of_getElem? (i := 68) (by decide +kernel)))) rfl
theorem tw_1987 : (.code yX12_code cX12_code 12 (some .long) : Cond) ∈ lw_gd := g_mem (List.mem_append_right _ (g_k9 (List.mem_of_getElem? (i := 67) rfl))) rfl
theorem tw_1986 : (.selects RX12 yX12_code yX12_code : Cond) ∈ lw_gd := g_mem (List.mem_append_right _ (g_k9 (List.mem_of_getElem? (i := 66) (by decide +kernel)))) rfl
theorem tw_1985 : (.instanceMethod yX12_code : Cond) ∈ lw_gd := g_mem (List.mem_append_right _ (g_k9 (List.mem_of_getElem? (i := 65) (by decide +kernel)))) rfl
theorem tw_1211 : (.methodLink RL 161 yX11_decode : Cond) ∈ lw_gd := g_mem (List.mem_append_right _ (g_k6 (List.mem_of_getElem? (i := 11) (by decide +kernel)))) rfl
theorem tw_1214 : (.code yX11_decode cX11_decode 7 (some .int) : Cond) ∈ lw_gd := g_mem (List.mem_append_right _ (g_k6 (List.mem_of_getElem? (i := 14) rfl))) rfl
theorem tw_1213 : (.selects RX11 yX11_decode yX11_decode : Cond) ∈ lw_gd := g_mem (List.mem_append_right _ (g_k6 (List.mem_of_getElem? (i := 13) (by decide +kernel)))) rfl
theorem tw_1212 : (.instanceMethod yX11_decode : Cond) ∈ lw_gd := g_mem (List.mem_append_right _ (g_k6 (List.mem_of_getElem? (i := 12) (by decide +kernel)))) rfl
theorem tw_2021 : (.methodLink RL 164 yX12_decode : Cond) ∈ lw_gd := g_mem (List.mem_append_right _ (g_k9 (List.mem_of_getElem? (i := 101) (by decide +kernel)))) rfl
theorem tw_2024 : (.code yX12_decode cX12_decode 7 (some .int) : Cond) ∈ lw_gd := g_mem (List.mem_append_right _ (g_k9 (List.mem_of_getElem? (i := 104) rfl))) rfl
theorem tw_2023 : (.selects RX12 yX12_decode yX12_decode : Cond) ∈ lw_gd := g_mem (List.mem_append_right _ (g_k9 (List.mem_of_getElem? (i := 103) (by decide +kernel)))) rfl
theorem tw_2022 : (.instanceMethod yX12_decode : Cond) ∈ lw_gd := g_mem (List.mem_append_right _ (g_k9 (List.mem_of_getElem? (i := 102) (by decide +kernel)))) rfl
theorem tw_1219 : (.methodLink RL 165 yX11_leave : Cond) ∈ lw_gd := g_mem (List.mem_append_right _ (g_k6 (List.mem_of_getElem? (i := 19) (by decide +kernel)))) rfl
theorem tw_1222 : (.code yX11_leave cX11_leave 6 (some .long) : Cond) ∈ lw_gd := g_mem (List.mem_append_right _ (g_k6 (List.mem_of_getElem? (i := 22) rfl))) rfl
theorem tw_1221 : (.selects RX11 yX11_leave yX11_leave : Cond) ∈ lw_gd := g_mem (List.mem_append_right _ (g_k6 (List.mem_of_getElem? (i := 21) (by decide +kernel)))) rfl
theorem tw_1220 : (.instanceMethod yX11_leave : Cond) ∈ lw_gd := g_mem (List.mem_append_right _ (g_k6 (List.mem_of_getElem? (i := 20) (by decide +kernel)))) rfl
theorem tw_1997 : (.methodLink RL 168 yX12_leave : Cond) ∈ lw_gd := g_mem (List.mem_append_right _ (g_k9 (List.mem_of_getElem? (i := 77) (by decide +kernel)))) rfl
theorem tw_2000 : (.code yX12_leave cX12_leave 4 (some .long) : Cond) ∈ lw_gd := g_mem (List.mem_append_right _ (g_k9 (List.mem_of_getElem? (i := 80) rfl))) rfl
theorem tw_1999 : (.selects RX12 yX12_leave yX12_leave : Cond) ∈ lw_gd := g_mem (List.mem_append_right _ (g_k9 (List.mem_of_getElem? (i := 79) (by decide +kernel)))) rfl
theorem tw_1998 : (.instanceMethod yX12_leave : Cond) ∈ lw_gd := g_mem (List.mem_append_right _ (g_k9 (List.mem_of_getElem? (i := 78) (by decide +kernel)))) rfl
theorem tw_1223 : (.methodLink RL 169 yX11_behind : Cond) ∈ lw_gd := g_mem (List.mem_append_right _ (g_k6 (List.mem_of_getElem? (i := 23) (by decide +kernel)))) rfl
theorem tw_1226 : (.code yX11_behind cX11_behind 4 (some .int) : Cond) ∈ lw_gd := g_mem (List.mem_append_right _ (g_k6 (List.mem_of_getElem? (i := 26) rfl))) rfl
theorem tw_1225 : (.selects RX11 yX11_behind yX11_behind : Cond) ∈ lw_gd := g_mem (List.mem_append_right _ (g_k6 (List.mem_of_getElem? (i := 25) (by decide +kernel)))) rfl
theorem tw_1224 : (.instanceMethod yX11_behind : Cond) ∈ lw_gd := g_mem (List.mem_append_right _ (g_k6 (List.mem_of_getElem? (i := 24) (by decide +kernel)))) rfl
theorem tw_2005 : (.methodLink RL 172 yX12_behind : Cond) ∈ lw_gd := g_mem (List.mem_append_right _ (g_k9 (List.mem_of_getElem? (i := 85) (by decide +kernel)))) rfl
theorem tw_2009 : (.methodLink RX12 471 yX12_isWord : Cond) ∈ lw_gd := g_mem (List.mem_append_right _ (g_k9 (List.mem_of_getElem? (i := 89) (by decide +kernel)))) rfl
theorem tw_2012 : (.code yX12_isWord cX12_isWord 2 (some .boolean) : Cond) ∈ lw_gd := g_mem (List.mem_append_right _ (g_k9 (List.mem_of_getElem? (i := 92) rfl))) rfl
theorem tp_113 : (.selects RX12 yX12_isWord yX12_isWord : Cond) ∈ lw_gd := g_mem (List.mem_append_left _ (List.mem_of_getElem? (i := 113) (by decide +kernel))) rfl
theorem tw_2011 : (.instanceMethod yX12_isWord : Cond) ∈ lw_gd := g_mem (List.mem_append_right _ (g_k9 (List.mem_of_getElem? (i := 91) (by decide +kernel)))) rfl
theorem tw_2008 : (.code yX12_behind cX12_behind 9 (some .int) : Cond) ∈ lw_gd := g_mem (List.mem_append_right _ (g_k9 (List.mem_of_getElem? (i := 88) rfl))) rfl
theorem tw_2007 : (.selects RX12 yX12_behind yX12_behind : Cond) ∈ lw_gd := g_mem (List.mem_append_right _ (g_k9 (List.mem_of_getElem? (i := 87) (by decide +kernel)))) rfl
theorem tw_2006 : (.instanceMethod yX12_behind : Cond) ∈ lw_gd := g_mem (List.mem_append_right _ (g_k9 (List.mem_of_getElem? (i := 86) (by decide +kernel)))) rfl
theorem tw_1232 : (.methodLink RL 173 yX11_unlike : Cond) ∈ lw_gd := g_mem (List.mem_append_right _ (g_k6 (List.mem_of_getElem? (i := 32) (by decide +kernel)))) rfl
theorem tw_1235 : (.code yX11_unlike cX11_unlike 5 (some .int) : Cond) ∈ lw_gd := g_mem (List.mem_append_right _ (g_k6 (List.mem_of_getElem? (i := 35) rfl))) rfl
theorem tw_1234 : (.selects RX11 yX11_unlike yX11_unlike : Cond) ∈ lw_gd := g_mem (List.mem_append_right _ (g_k6 (List.mem_of_getElem? (i := 34) (by decide +kernel)))) rfl
theorem tw_1233 : (.instanceMethod yX11_unlike : Cond) ∈ lw_gd := g_mem (List.mem_append_right _ (g_k6 (List.mem_of_getElem? (i := 33) (by decide +kernel)))) rfl
theorem tw_2017 : (.methodLink RL 176 yX12_unlike : Cond) ∈ lw_gd := g_mem (List.mem_append_right _ (g_k9 (List.mem_of_getElem? (i := 97) (by decide +kernel)))) rfl
theorem tw_2020 : (.code yX12_unlike cX12_unlike 5 (some .int) : Cond) ∈ lw_gd := g_mem (List.mem_append_right _ (g_k9 (List.mem_of_getElem? (i := 100) rfl))) rfl
theorem tw_2019 : (.selects RX12 yX12_unlike yX12_unlike : Cond) ∈ lw_gd := g_mem (List.mem_append_right _ (g_k9 (List.mem_of_getElem? (i := 99) (by decide +kernel)))) rfl
theorem tw_2018 : (.instanceMethod yX12_unlike : Cond) ∈ lw_gd := g_mem (List.mem_append_right _ (g_k9 (List.mem_of_getElem? (i := 98) (by decide +kernel)))) rfl
theorem tw_1236 : (.methodLink RL 177 yX11_span : Cond) ∈ lw_gd := g_mem (List.mem_append_right _ (g_k6 (List.mem_of_getElem? (i := 36) (by decide +kernel)))) rfl
theorem tw_1239 : (.code yX11_span cX11_span 2 (some .long) : Cond) ∈ lw_gd := g_mem (List.mem_append_right _ (g_k6 (List.mem_of_getElem? (i := 39) rfl))) rfl
theorem tw_1238 : (.selects RX11 yX11_span yX11_span : Cond) ∈ lw_gd := g_mem (List.mem_append_right _ (g_k6 (List.mem_of_getElem? (i := 38) (by decide +kernel)))) rfl
theorem tw_1237 : (.instanceMethod yX11_span : Cond) ∈ lw_gd := g_mem (List.mem_append_right _ (g_k6 (List.mem_of_getElem? (i := 37) (by decide +kernel)))) rfl
theorem tw_2033 : (.methodLink RL 180 yX12_span : Cond) ∈ lw_gd := g_mem (List.mem_append_right _ (g_k9 (List.mem_of_getElem? (i := 113) (by decide +kernel)))) rfl
theorem tw_2036 : (.code yX12_span cX12_span 7 (some .long) : Cond) ∈ lw_gd := g_mem (List.mem_append_right _ (g_k9 (List.mem_of_getElem? (i := 116) rfl))) rfl
theorem tw_2035 : (.selects RX12 yX12_span yX12_span : Cond) ∈ lw_gd := g_mem (List.mem_append_right _ (g_k9 (List.mem_of_getElem? (i := 115) (by decide +kernel)))) rfl
theorem tw_2034 : (.instanceMethod yX12_span : Cond) ∈ lw_gd := g_mem (List.mem_append_right _ (g_k9 (List.mem_of_getElem? (i := 114) (by decide +kernel)))) rfl
theorem tw_1299 : (.methodLink RL 181 yX11_ahead : Cond) ∈ lw_gd := g_mem (List.mem_append_right _ (g_k6 (List.mem_of_getElem? (i := 99) (by decide +kernel)))) rfl
theorem tw_1313 : (.methodLink RX11 383 yX3_refuse : Cond) ∈ lw_gd := g_mem (List.mem_append_right _ (g_k6 (List.mem_of_getElem? (i := 113) (by decide +kernel)))) rfl
theorem tw_1311 : (.code yX3_refuse cX3_refuse 1 (some .long) : Cond) ∈ lw_gd := g_mem (List.mem_append_right _ (g_k6 (List.mem_of_getElem? (i := 111) rfl))) rfl
theorem tw_1310 : (.selects RX3 yX3_refuse yX3_refuse : Cond) ∈ lw_gd := g_mem (List.mem_append_right _ (g_k6 (List.mem_of_getElem? (i := 110) (by decide +kernel)))) rfl
theorem tw_1309 : (.instanceMethod yX3_refuse : Cond) ∈ lw_gd := g_mem (List.mem_append_right _ (g_k6 (List.mem_of_getElem? (i := 109) (by decide +kernel)))) rfl
theorem tw_1302 : (.code yX11_ahead cX11_ahead 1 (some .long) : Cond) ∈ lw_gd := g_mem (List.mem_append_right _ (g_k6 (List.mem_of_getElem? (i := 102) rfl))) rfl
theorem tw_1301 : (.selects RX11 yX11_ahead yX11_ahead : Cond) ∈ lw_gd := g_mem (List.mem_append_right _ (g_k6 (List.mem_of_getElem? (i := 101) (by decide +kernel)))) rfl
theorem tw_1300 : (.instanceMethod yX11_ahead : Cond) ∈ lw_gd := g_mem (List.mem_append_right _ (g_k6 (List.mem_of_getElem? (i := 100) (by decide +kernel)))) rfl
theorem tw_2025 : (.methodLink RL 184 yX12_ahead : Cond) ∈ lw_gd := g_mem (List.mem_append_right _ (g_k9 (List.mem_of_getElem? (i := 105) (by decide +kernel)))) rfl
theorem tw_1465 : (.fieldLink RX12 252 "ManyOutModel" "isPut" "Z" : Cond) ∈ lw_gd := g_mem (List.mem_append_right _ (g_k7 (List.mem_of_getElem? (i := 25) (by decide +kernel)))) rfl
theorem tw_2028 : (.code yX12_ahead cX12_ahead 3 (some .long) : Cond) ∈ lw_gd := g_mem (List.mem_append_right _ (g_k9 (List.mem_of_getElem? (i := 108) rfl))) rfl
theorem tw_2027 : (.selects RX12 yX12_ahead yX12_ahead : Cond) ∈ lw_gd := g_mem (List.mem_append_right _ (g_k9 (List.mem_of_getElem? (i := 107) (by decide +kernel)))) rfl
theorem tw_2026 : (.instanceMethod yX12_ahead : Cond) ∈ lw_gd := g_mem (List.mem_append_right _ (g_k9 (List.mem_of_getElem? (i := 106) (by decide +kernel)))) rfl
theorem tw_1314 : (.methodLink RL 185 yX11_put : Cond) ∈ lw_gd := g_mem (List.mem_append_right _ (g_k6 (List.mem_of_getElem? (i := 114) (by decide +kernel)))) rfl
theorem tw_1317 : (.code yX11_put cX11_put 2 (some .int) : Cond) ∈ lw_gd := g_mem (List.mem_append_right _ (g_k6 (List.mem_of_getElem? (i := 117) rfl))) rfl
theorem tw_1316 : (.selects RX11 yX11_put yX11_put : Cond) ∈ lw_gd := g_mem (List.mem_append_right _ (g_k6 (List.mem_of_getElem? (i := 116) (by decide +kernel)))) rfl
theorem tw_1315 : (.instanceMethod yX11_put : Cond) ∈ lw_gd := g_mem (List.mem_append_right _ (g_k6 (List.mem_of_getElem? (i := 115) (by decide +kernel)))) rfl
theorem tw_2037 : (.methodLink RL 188 yX12_put : Cond) ∈ lw_gd := g_mem (List.mem_append_right _ (g_k9 (List.mem_of_getElem? (i := 117) (by decide +kernel)))) rfl
theorem tw_2040 : (.code yX12_put cX12_put 2 (some .int) : Cond) ∈ lw_gd := g_mem (List.mem_append_right _ (g_k9 (List.mem_of_getElem? (i := 120) rfl))) rfl
theorem tw_2039 : (.selects RX12 yX12_put yX12_put : Cond) ∈ lw_gd := g_mem (List.mem_append_right _ (g_k9 (List.mem_of_getElem? (i := 119) (by decide +kernel)))) rfl
theorem tw_2038 : (.instanceMethod yX12_put : Cond) ∈ lw_gd := g_mem (List.mem_append_right _ (g_k9 (List.mem_of_getElem? (i := 118) (by decide +kernel)))) rfl
theorem tw_1318 : (.methodLink RL 189 yX11_worth : Cond) ∈ lw_gd := g_mem (List.mem_append_right _ (g_k6 (List.mem_of_getElem? (i := 118) (by decide +kernel)))) rfl
theorem tw_1321 : (.code yX11_worth cX11_worth 2 (some .int) : Cond) ∈ lw_gd := g_mem (List.mem_append_right _ (g_k6 (List.mem_of_getElem? (i := 121) rfl))) rfl
theorem tw_1320 : (.selects RX11 yX11_worth yX11_worth : Cond) ∈ lw_gd := g_mem (List.mem_append_right _ (g_k6 (List.mem_of_getElem? (i := 120) (by decide +kernel)))) rfl
theorem tw_1319 : (.instanceMethod yX11_worth : Cond) ∈ lw_gd := g_mem (List.mem_append_right _ (g_k6 (List.mem_of_getElem? (i := 119) (by decide +kernel)))) rfl
theorem tw_2041 : (.methodLink RL 192 yX12_worth : Cond) ∈ lw_gd := g_mem (List.mem_append_right _ (g_k9 (List.mem_of_getElem? (i := 121) (by decide +kernel)))) rfl
theorem tw_2044 : (.code yX12_worth cX12_worth 2 (some .int) : Cond) ∈ lw_gd := g_mem (List.mem_append_right _ (g_k9 (List.mem_of_getElem? (i := 124) rfl))) rfl
theorem tw_2043 : (.selects RX12 yX12_worth yX12_worth : Cond) ∈ lw_gd := g_mem (List.mem_append_right _ (g_k9 (List.mem_of_getElem? (i := 123) (by decide +kernel)))) rfl
theorem tw_2042 : (.instanceMethod yX12_worth : Cond) ∈ lw_gd := g_mem (List.mem_append_right _ (g_k9 (List.mem_of_getElem? (i := 122) (by decide +kernel)))) rfl
theorem tw_1361 : (.methodLink RL 193 yX11_chosen : Cond) ∈ lw_gd := g_mem (List.mem_append_right _ (g_k6 (List.mem_of_getElem? (i := 161) (by decide +kernel)))) rfl
theorem tw_1364 : (.code yX11_chosen cX11_chosen 9 (some .int) : Cond) ∈ lw_gd := g_mem (List.mem_append_right _ (g_k6 (List.mem_of_getElem? (i := 164) rfl))) rfl
theorem tw_1363 : (.selects RX11 yX11_chosen yX11_chosen : Cond) ∈ lw_gd := g_mem (List.mem_append_right _ (g_k6 (List.mem_of_getElem? (i := 163) (by decide +kernel)))) rfl
theorem tw_1362 : (.instanceMethod yX11_chosen : Cond) ∈ lw_gd := g_mem (List.mem_append_right _ (g_k6 (List.mem_of_getElem? (i := 162) (by decide +kernel)))) rfl
theorem tw_2074 : (.methodLink RL 197 yX12_chosen : Cond) ∈ lw_gd := g_mem (List.mem_append_right _ (g_k9 (List.mem_of_getElem? (i := 154) (by decide +kernel)))) rfl
theorem tw_2078 : (.constantLong RX12 484 (5) : Cond) ∈ lw_gd := g_mem (List.mem_append_right _ (g_k9 (List.mem_of_getElem? (i := 158) (by decide +kernel)))) rfl
theorem tw_2077 : (.code yX12_chosen cX12_chosen 11 (some .int) : Cond) ∈ lw_gd := g_mem (List.mem_append_right _ (g_k9 (List.mem_of_getElem? (i := 157) rfl))) rfl
theorem tw_2076 : (.selects RX12 yX12_chosen yX12_chosen : Cond) ∈ lw_gd := g_mem (List.mem_append_right _ (g_k9 (List.mem_of_getElem? (i := 156) (by decide +kernel)))) rfl
theorem tw_2075 : (.instanceMethod yX12_chosen : Cond) ∈ lw_gd := g_mem (List.mem_append_right _ (g_k9 (List.mem_of_getElem? (i := 155) (by decide +kernel)))) rfl
theorem tw_1375 : (.methodLink RL 198 yX11_image : Cond) ∈ lw_gd := g_mem (List.mem_append_right _ (g_k6 (List.mem_of_getElem? (i := 175) (by decide +kernel)))) rfl
theorem tw_1379 : (.methodLink RX11 404 yX11_checkWith : Cond) ∈ lw_gd := g_mem (List.mem_append_right _ (g_k6 (List.mem_of_getElem? (i := 179) (by decide +kernel)))) rfl
theorem tw_1381 : (.code yX11_checkWith cX11_checkWith 2 (some .int) : Cond) ∈ lw_gd := g_mem (List.mem_append_right _ (g_k6 (List.mem_of_getElem? (i := 181) rfl))) rfl
theorem tw_1380 : (.static yX11_checkWith : Cond) ∈ lw_gd := g_mem (List.mem_append_right _ (g_k6 (List.mem_of_getElem? (i := 180) (by decide +kernel)))) rfl
theorem tw_1378 : (.code yX11_image cX11_image 4 (some .int) : Cond) ∈ lw_gd := g_mem (List.mem_append_right _ (g_k6 (List.mem_of_getElem? (i := 178) rfl))) rfl
theorem tw_1377 : (.selects RX11 yX11_image yX11_image : Cond) ∈ lw_gd := g_mem (List.mem_append_right _ (g_k6 (List.mem_of_getElem? (i := 177) (by decide +kernel)))) rfl
theorem tw_1376 : (.instanceMethod yX11_image : Cond) ∈ lw_gd := g_mem (List.mem_append_right _ (g_k6 (List.mem_of_getElem? (i := 176) (by decide +kernel)))) rfl
theorem tw_2082 : (.methodLink RL 201 yX12_image : Cond) ∈ lw_gd := g_mem (List.mem_append_right _ (g_k9 (List.mem_of_getElem? (i := 162) (by decide +kernel)))) rfl
theorem tw_1470 : (.fieldLink RX12 489 "ManyOutModel" "octets" "I" : Cond) ∈ lw_gd := g_mem (List.mem_append_right _ (g_k7 (List.mem_of_getElem? (i := 30) (by decide +kernel)))) rfl
theorem tw_2086 : (.methodLink RX12 492 yX12_writes : Cond) ∈ lw_gd := g_mem (List.mem_append_right _ (g_k9 (List.mem_of_getElem? (i := 166) (by decide +kernel)))) rfl
theorem tw_2089 : (.code yX12_writes cX12_writes 2 none : Cond) ∈ lw_gd := g_mem (List.mem_append_right _ (g_k9 (List.mem_of_getElem? (i := 169) rfl))) rfl
theorem tp_121 : (.selects RX12 yX12_writes yX12_writes : Cond) ∈ lw_gd := g_mem (List.mem_append_left _ (List.mem_of_getElem? (i := 121) (by decide +kernel))) rfl
theorem tw_2088 : (.instanceMethod yX12_writes : Cond) ∈ lw_gd := g_mem (List.mem_append_right _ (g_k9 (List.mem_of_getElem? (i := 168) (by decide +kernel)))) rfl
theorem tw_2090 : (.methodLink RX12 495 yX12_checked : Cond) ∈ lw_gd := g_mem (List.mem_append_right _ (g_k9 (List.mem_of_getElem? (i := 170) (by decide +kernel)))) rfl
theorem tw_2092 : (.code yX12_checked cX12_checked 4 (some .int) : Cond) ∈ lw_gd := g_mem (List.mem_append_right _ (g_k9 (List.mem_of_getElem? (i := 172) rfl))) rfl
theorem tw_2091 : (.static yX12_checked : Cond) ∈ lw_gd := g_mem (List.mem_append_right _ (g_k9 (List.mem_of_getElem? (i := 171) (by decide +kernel)))) rfl
theorem tw_2085 : (.code yX12_image cX12_image 2 (some .int) : Cond) ∈ lw_gd := g_mem (List.mem_append_right _ (g_k9 (List.mem_of_getElem? (i := 165) rfl))) rfl
theorem tw_2084 : (.selects RX12 yX12_image yX12_image : Cond) ∈ lw_gd := g_mem (List.mem_append_right _ (g_k9 (List.mem_of_getElem? (i := 164) (by decide +kernel)))) rfl
theorem tw_2083 : (.instanceMethod yX12_image : Cond) ∈ lw_gd := g_mem (List.mem_append_right _ (g_k9 (List.mem_of_getElem? (i := 163) (by decide +kernel)))) rfl
theorem tw_1382 : (.methodLink RL 202 yX11_octet : Cond) ∈ lw_gd := g_mem (List.mem_append_right _ (g_k6 (List.mem_of_getElem? (i := 182) (by decide +kernel)))) rfl
theorem tw_1385 : (.code yX11_octet cX11_octet 2 (some .int) : Cond) ∈ lw_gd := g_mem (List.mem_append_right _ (g_k6 (List.mem_of_getElem? (i := 185) rfl))) rfl
theorem tw_1384 : (.selects RX11 yX11_octet yX11_octet : Cond) ∈ lw_gd := g_mem (List.mem_append_right _ (g_k6 (List.mem_of_getElem? (i := 184) (by decide +kernel)))) rfl
theorem tw_1383 : (.instanceMethod yX11_octet : Cond) ∈ lw_gd := g_mem (List.mem_append_right _ (g_k6 (List.mem_of_getElem? (i := 183) (by decide +kernel)))) rfl
theorem tw_2093 : (.methodLink RL 205 yX12_octet : Cond) ∈ lw_gd := g_mem (List.mem_append_right _ (g_k9 (List.mem_of_getElem? (i := 173) (by decide +kernel)))) rfl
theorem tw_2096 : (.code yX12_octet cX12_octet 2 (some .int) : Cond) ∈ lw_gd := g_mem (List.mem_append_right _ (g_k9 (List.mem_of_getElem? (i := 176) rfl))) rfl
theorem tw_2095 : (.selects RX12 yX12_octet yX12_octet : Cond) ∈ lw_gd := g_mem (List.mem_append_right _ (g_k9 (List.mem_of_getElem? (i := 175) (by decide +kernel)))) rfl
theorem tw_2094 : (.instanceMethod yX12_octet : Cond) ∈ lw_gd := g_mem (List.mem_append_right _ (g_k9 (List.mem_of_getElem? (i := 174) (by decide +kernel)))) rfl
theorem tw_1386 : (.methodLink RL 206 yX11_on : Cond) ∈ lw_gd := g_mem (List.mem_append_right _ (g_k6 (List.mem_of_getElem? (i := 186) (by decide +kernel)))) rfl
theorem tw_1390 : (.methodLink RX11 407 yX11_isImage : Cond) ∈ lw_gd := g_mem (List.mem_append_right _ (g_k6 (List.mem_of_getElem? (i := 190) (by decide +kernel)))) rfl
theorem tw_1393 : (.code yX11_isImage cX11_isImage 4 (some .boolean) : Cond) ∈ lw_gd := g_mem (List.mem_append_right _ (g_k6 (List.mem_of_getElem? (i := 193) rfl))) rfl
theorem tp_57 : (.selects RX11 yX11_isImage yX11_isImage : Cond) ∈ lw_gd := g_mem (List.mem_append_left _ (List.mem_of_getElem? (i := 57) (by decide +kernel))) rfl
theorem tw_1392 : (.instanceMethod yX11_isImage : Cond) ∈ lw_gd := g_mem (List.mem_append_right _ (g_k6 (List.mem_of_getElem? (i := 192) (by decide +kernel)))) rfl
theorem tw_1389 : (.code yX11_on cX11_on 3 (some .boolean) : Cond) ∈ lw_gd := g_mem (List.mem_append_right _ (g_k6 (List.mem_of_getElem? (i := 189) rfl))) rfl
theorem tw_1388 : (.selects RX11 yX11_on yX11_on : Cond) ∈ lw_gd := g_mem (List.mem_append_right _ (g_k6 (List.mem_of_getElem? (i := 188) (by decide +kernel)))) rfl
theorem tw_1387 : (.instanceMethod yX11_on : Cond) ∈ lw_gd := g_mem (List.mem_append_right _ (g_k6 (List.mem_of_getElem? (i := 187) (by decide +kernel)))) rfl
theorem tw_2097 : (.methodLink RL 209 yX12_on : Cond) ∈ lw_gd := g_mem (List.mem_append_right _ (g_k9 (List.mem_of_getElem? (i := 177) (by decide +kernel)))) rfl
theorem tw_2100 : (.code yX12_on cX12_on 4 (some .boolean) : Cond) ∈ lw_gd := g_mem (List.mem_append_right _ (g_k9 (List.mem_of_getElem? (i := 180) rfl))) rfl
theorem tw_2099 : (.selects RX12 yX12_on yX12_on : Cond) ∈ lw_gd := g_mem (List.mem_append_right _ (g_k9 (List.mem_of_getElem? (i := 179) (by decide +kernel)))) rfl
theorem tw_2098 : (.instanceMethod yX12_on : Cond) ∈ lw_gd := g_mem (List.mem_append_right _ (g_k9 (List.mem_of_getElem? (i := 178) (by decide +kernel)))) rfl
theorem tw_22 : (.classLink RL 7 RX11 : Cond) ∈ lw_gd := g_mem (List.mem_append_right _ (g_k1 (List.mem_of_getElem? (i := 22) (by decide +kernel)))) rfl
theorem tw_23 : (.instantiable RX11 14 : Cond) ∈ lw_gd := g_mem (List.mem_append_right _ (g_k1 (List.mem_of_getElem? (i := 23) (by decide +kernel)))) rfl
theorem tw_26 : (.code yX11_init cX11_init 1 none : Cond) ∈ lw_gd := g_mem (List.mem_append_right _ (g_k1 (List.mem_of_getElem? (i := 26) rfl))) rfl
theorem tw_24 : (.methodLink RL 9 yX11_init : Cond) ∈ lw_gd := g_mem (List.mem_append_right _ (g_k1 (List.mem_of_getElem? (i := 24) (by decide +kernel)))) rfl
theorem tw_25 : (.instanceMethod yX11_init : Cond) ∈ lw_gd := g_mem (List.mem_append_right _ (g_k1 (List.mem_of_getElem? (i := 25) (by decide +kernel)))) rfl
theorem tw_1395 : (.classLink RL 10 RX12 : Cond) ∈ lw_gd := g_mem (List.mem_append_right _ (g_k6 (List.mem_of_getElem? (i := 195) (by decide +kernel)))) rfl
theorem tw_1396 : (.instantiable RX12 73 : Cond) ∈ lw_gd := g_mem (List.mem_append_right _ (g_k6 (List.mem_of_getElem? (i := 196) (by decide +kernel)))) rfl
theorem tw_1399 : (.code yX12_init cX12_init 1 none : Cond) ∈ lw_gd := g_mem (List.mem_append_right _ (g_k6 (List.mem_of_getElem? (i := 199) rfl))) rfl
theorem tw_1397 : (.methodLink RL 12 yX12_init : Cond) ∈ lw_gd := g_mem (List.mem_append_right _ (g_k6 (List.mem_of_getElem? (i := 197) (by decide +kernel)))) rfl
theorem tw_1398 : (.instanceMethod yX12_init : Cond) ∈ lw_gd := g_mem (List.mem_append_right _ (g_k6 (List.mem_of_getElem? (i := 198) (by decide +kernel)))) rfl
theorem hd_yX9_init : yX9_init.cls ≠ "java/lang/invoke/MethodHandle" ∧ yX9_init.cls ≠ "java/lang/invoke/VarHandle" ∧ (parseMethodDescriptor yX9_init.desc).map (fun d => d.parameters.length) = some 0 := by decide +kernel
theorem hd_yX8_init : yX8_init.cls ≠ "java/lang/invoke/MethodHandle" ∧ yX8_init.cls ≠ "java/lang/invoke/VarHandle" ∧ (parseMethodDescriptor yX8_init.desc).map (fun d => d.parameters.length) = some 0 := by decide +kernel
theorem hd_yX5_init : yX5_init.cls ≠ "java/lang/invoke/MethodHandle" ∧ yX5_init.cls ≠ "java/lang/invoke/VarHandle" ∧ (parseMethodDescriptor yX5_init.desc).map (fun d => d.parameters.length) = some 0 := by decide +kernel
theorem hd_yX1_init : yX1_init.cls ≠ "java/lang/invoke/MethodHandle" ∧ yX1_init.cls ≠ "java/lang/invoke/VarHandle" ∧ (parseMethodDescriptor yX1_init.desc).map (fun d => d.parameters.length) = some 0 := by decide +kernel
theorem hd_yX4_init : yX4_init.cls ≠ "java/lang/invoke/MethodHandle" ∧ yX4_init.cls ≠ "java/lang/invoke/VarHandle" ∧ (parseMethodDescriptor yX4_init.desc).map (fun d => d.parameters.length) = some 0 := by decide +kernel
theorem hd_yX10_init : yX10_init.cls ≠ "java/lang/invoke/MethodHandle" ∧ yX10_init.cls ≠ "java/lang/invoke/VarHandle" ∧ (parseMethodDescriptor yX10_init.desc).map (fun d => d.parameters.length) = some 0 := by decide +kernel
theorem hd_yX7_init : yX7_init.cls ≠ "java/lang/invoke/MethodHandle" ∧ yX7_init.cls ≠ "java/lang/invoke/VarHandle" ∧ (parseMethodDescriptor yX7_init.desc).map (fun d => d.parameters.length) = some 0 := by decide +kernel
theorem hd_yJ7_fill_d0a16 : yJ7_fill_d0a16.cls ≠ "java/lang/invoke/MethodHandle" ∧ yJ7_fill_d0a16.cls ≠ "java/lang/invoke/VarHandle" ∧ (parseMethodDescriptor yJ7_fill_d0a16.desc).map (fun d => d.parameters.length) = some 2 := by decide +kernel
theorem hd_yX6_init : yX6_init.cls ≠ "java/lang/invoke/MethodHandle" ∧ yX6_init.cls ≠ "java/lang/invoke/VarHandle" ∧ (parseMethodDescriptor yX6_init.desc).map (fun d => d.parameters.length) = some 0 := by decide +kernel
theorem hd_yX0_init : yX0_init.cls ≠ "java/lang/invoke/MethodHandle" ∧ yX0_init.cls ≠ "java/lang/invoke/VarHandle" ∧ (parseMethodDescriptor yX0_init.desc).map (fun d => d.parameters.length) = some 0 := by decide +kernel
theorem hd_yX3_init : yX3_init.cls ≠ "java/lang/invoke/MethodHandle" ∧ yX3_init.cls ≠ "java/lang/invoke/VarHandle" ∧ (parseMethodDescriptor yX3_init.desc).map (fun d => d.parameters.length) = some 0 := by decide +kernel
theorem hd_yX2_init : yX2_init.cls ≠ "java/lang/invoke/MethodHandle" ∧ yX2_init.cls ≠ "java/lang/invoke/VarHandle" ∧ (parseMethodDescriptor yX2_init.desc).map (fun d => d.parameters.length) = some 0 := by decide +kernel
theorem hd_yX9_hasRoom : yX9_hasRoom.cls ≠ "java/lang/invoke/MethodHandle" ∧ yX9_hasRoom.cls ≠ "java/lang/invoke/VarHandle" ∧ (parseMethodDescriptor yX9_hasRoom.desc).map (fun d => d.parameters.length) = some 1 := by decide +kernel
theorem hd_yX9_addNumber : yX9_addNumber.cls ≠ "java/lang/invoke/MethodHandle" ∧ yX9_addNumber.cls ≠ "java/lang/invoke/VarHandle" ∧ (parseMethodDescriptor yX9_addNumber.desc).map (fun d => d.parameters.length) = some 1 := by decide +kernel
theorem hd_yX9_length : yX9_length.cls ≠ "java/lang/invoke/MethodHandle" ∧ yX9_length.cls ≠ "java/lang/invoke/VarHandle" ∧ (parseMethodDescriptor yX9_length.desc).map (fun d => d.parameters.length) = some 0 := by decide +kernel
theorem hd_yX11_feed : yX11_feed.cls ≠ "java/lang/invoke/MethodHandle" ∧ yX11_feed.cls ≠ "java/lang/invoke/VarHandle" ∧ (parseMethodDescriptor yX11_feed.desc).map (fun d => d.parameters.length) = some 5 := by decide +kernel
theorem hd_yX12_feed : yX12_feed.cls ≠ "java/lang/invoke/MethodHandle" ∧ yX12_feed.cls ≠ "java/lang/invoke/VarHandle" ∧ (parseMethodDescriptor yX12_feed.desc).map (fun d => d.parameters.length) = some 5 := by decide +kernel
theorem hd_yX9_cutTo : yX9_cutTo.cls ≠ "java/lang/invoke/MethodHandle" ∧ yX9_cutTo.cls ≠ "java/lang/invoke/VarHandle" ∧ (parseMethodDescriptor yX9_cutTo.desc).map (fun d => d.parameters.length) = some 1 := by decide +kernel
theorem hd_yX11_end : yX11_end.cls ≠ "java/lang/invoke/MethodHandle" ∧ yX11_end.cls ≠ "java/lang/invoke/VarHandle" ∧ (parseMethodDescriptor yX11_end.desc).map (fun d => d.parameters.length) = some 1 := by decide +kernel
theorem hd_yX12_end : yX12_end.cls ≠ "java/lang/invoke/MethodHandle" ∧ yX12_end.cls ≠ "java/lang/invoke/VarHandle" ∧ (parseMethodDescriptor yX12_end.desc).map (fun d => d.parameters.length) = some 1 := by decide +kernel
theorem hd_yJ7_fill_53178 : yJ7_fill_53178.cls ≠ "java/lang/invoke/MethodHandle" ∧ yJ7_fill_53178.cls ≠ "java/lang/invoke/VarHandle" ∧ (parseMethodDescriptor yJ7_fill_53178.desc).map (fun d => d.parameters.length) = some 2 := by decide +kernel
theorem hd_yX8_clear : yX8_clear.cls ≠ "java/lang/invoke/MethodHandle" ∧ yX8_clear.cls ≠ "java/lang/invoke/VarHandle" ∧ (parseMethodDescriptor yX8_clear.desc).map (fun d => d.parameters.length) = some 0 := by decide +kernel
theorem hd_yX5_clear : yX5_clear.cls ≠ "java/lang/invoke/MethodHandle" ∧ yX5_clear.cls ≠ "java/lang/invoke/VarHandle" ∧ (parseMethodDescriptor yX5_clear.desc).map (fun d => d.parameters.length) = some 0 := by decide +kernel
theorem hd_yX1_clear : yX1_clear.cls ≠ "java/lang/invoke/MethodHandle" ∧ yX1_clear.cls ≠ "java/lang/invoke/VarHandle" ∧ (parseMethodDescriptor yX1_clear.desc).map (fun d => d.parameters.length) = some 0 := by decide +kernel
theorem hd_yX9_at : yX9_at.cls ≠ "java/lang/invoke/MethodHandle" ∧ yX9_at.cls ≠ "java/lang/invoke/VarHandle" ∧ (parseMethodDescriptor yX9_at.desc).map (fun d => d.parameters.length) = some 1 := by decide +kernel
theorem hd_yX4_goOn : yX4_goOn.cls ≠ "java/lang/invoke/MethodHandle" ∧ yX4_goOn.cls ≠ "java/lang/invoke/VarHandle" ∧ (parseMethodDescriptor yX4_goOn.desc).map (fun d => d.parameters.length) = some 2 := by decide +kernel
theorem hd_yX4_fail : yX4_fail.cls ≠ "java/lang/invoke/MethodHandle" ∧ yX4_fail.cls ≠ "java/lang/invoke/VarHandle" ∧ (parseMethodDescriptor yX4_fail.desc).map (fun d => d.parameters.length) = some 2 := by decide +kernel
theorem hd_yX4_failHere : yX4_failHere.cls ≠ "java/lang/invoke/MethodHandle" ∧ yX4_failHere.cls ≠ "java/lang/invoke/VarHandle" ∧ (parseMethodDescriptor yX4_failHere.desc).map (fun d => d.parameters.length) = some 0 := by decide +kernel
theorem hd_yX4_readHouse : yX4_readHouse.cls ≠ "java/lang/invoke/MethodHandle" ∧ yX4_readHouse.cls ≠ "java/lang/invoke/VarHandle" ∧ (parseMethodDescriptor yX4_readHouse.desc).map (fun d => d.parameters.length) = some 0 := by decide +kernel
theorem hd_yX11_house : yX11_house.cls ≠ "java/lang/invoke/MethodHandle" ∧ yX11_house.cls ≠ "java/lang/invoke/VarHandle" ∧ (parseMethodDescriptor yX11_house.desc).map (fun d => d.parameters.length) = some 0 := by decide +kernel
theorem hd_yX12_look : yX12_look.cls ≠ "java/lang/invoke/MethodHandle" ∧ yX12_look.cls ≠ "java/lang/invoke/VarHandle" ∧ (parseMethodDescriptor yX12_look.desc).map (fun d => d.parameters.length) = some 0 := by decide +kernel
theorem hd_yX12_isLetter : yX12_isLetter.cls ≠ "java/lang/invoke/MethodHandle" ∧ yX12_isLetter.cls ≠ "java/lang/invoke/VarHandle" ∧ (parseMethodDescriptor yX12_isLetter.desc).map (fun d => d.parameters.length) = some 1 := by decide +kernel
theorem hd_yX12_isHere : yX12_isHere.cls ≠ "java/lang/invoke/MethodHandle" ∧ yX12_isHere.cls ≠ "java/lang/invoke/VarHandle" ∧ (parseMethodDescriptor yX12_isHere.desc).map (fun d => d.parameters.length) = some 1 := by decide +kernel
theorem hd_yX12_takes : yX12_takes.cls ≠ "java/lang/invoke/MethodHandle" ∧ yX12_takes.cls ≠ "java/lang/invoke/VarHandle" ∧ (parseMethodDescriptor yX12_takes.desc).map (fun d => d.parameters.length) = some 1 := by decide +kernel
theorem hd_yX12_fail : yX12_fail.cls ≠ "java/lang/invoke/MethodHandle" ∧ yX12_fail.cls ≠ "java/lang/invoke/VarHandle" ∧ (parseMethodDescriptor yX12_fail.desc).map (fun d => d.parameters.length) = some 2 := by decide +kernel
theorem hd_yX12_asks : yX12_asks.cls ≠ "java/lang/invoke/MethodHandle" ∧ yX12_asks.cls ≠ "java/lang/invoke/VarHandle" ∧ (parseMethodDescriptor yX12_asks.desc).map (fun d => d.parameters.length) = some 1 := by decide +kernel
theorem hd_yX12_number : yX12_number.cls ≠ "java/lang/invoke/MethodHandle" ∧ yX12_number.cls ≠ "java/lang/invoke/VarHandle" ∧ (parseMethodDescriptor yX12_number.desc).map (fun d => d.parameters.length) = some 2 := by decide +kernel
theorem hd_yX12_asksSign : yX12_asksSign.cls ≠ "java/lang/invoke/MethodHandle" ∧ yX12_asksSign.cls ≠ "java/lang/invoke/VarHandle" ∧ (parseMethodDescriptor yX12_asksSign.desc).map (fun d => d.parameters.length) = some 1 := by decide +kernel
theorem hd_yX12_house : yX12_house.cls ≠ "java/lang/invoke/MethodHandle" ∧ yX12_house.cls ≠ "java/lang/invoke/VarHandle" ∧ (parseMethodDescriptor yX12_house.desc).map (fun d => d.parameters.length) = some 0 := by decide +kernel
theorem hd_yX11_fault : yX11_fault.cls ≠ "java/lang/invoke/MethodHandle" ∧ yX11_fault.cls ≠ "java/lang/invoke/VarHandle" ∧ (parseMethodDescriptor yX11_fault.desc).map (fun d => d.parameters.length) = some 1 := by decide +kernel
theorem hd_yX12_fault : yX12_fault.cls ≠ "java/lang/invoke/MethodHandle" ∧ yX12_fault.cls ≠ "java/lang/invoke/VarHandle" ∧ (parseMethodDescriptor yX12_fault.desc).map (fun d => d.parameters.length) = some 1 := by decide +kernel
theorem hd_yX11_has : yX11_has.cls ≠ "java/lang/invoke/MethodHandle" ∧ yX11_has.cls ≠ "java/lang/invoke/VarHandle" ∧ (parseMethodDescriptor yX11_has.desc).map (fun d => d.parameters.length) = some 1 := by decide +kernel
theorem hd_yX12_has : yX12_has.cls ≠ "java/lang/invoke/MethodHandle" ∧ yX12_has.cls ≠ "java/lang/invoke/VarHandle" ∧ (parseMethodDescriptor yX12_has.desc).map (fun d => d.parameters.length) = some 1 := by decide +kernel
theorem hd_yX1_isReceiver : yX1_isReceiver.cls ≠ "java/lang/invoke/MethodHandle" ∧ yX1_isReceiver.cls ≠ "java/lang/invoke/VarHandle" ∧ (parseMethodDescriptor yX1_isReceiver.desc).map (fun d => d.parameters.length) = some 1 := by decide +kernel
theorem hd_yX11_table : yX11_table.cls ≠ "java/lang/invoke/MethodHandle" ∧ yX11_table.cls ≠ "java/lang/invoke/VarHandle" ∧ (parseMethodDescriptor yX11_table.desc).map (fun d => d.parameters.length) = some 3 := by decide +kernel
theorem hd_yX12_isIn : yX12_isIn.cls ≠ "java/lang/invoke/MethodHandle" ∧ yX12_isIn.cls ≠ "java/lang/invoke/VarHandle" ∧ (parseMethodDescriptor yX12_isIn.desc).map (fun d => d.parameters.length) = some 3 := by decide +kernel
theorem hd_yX12_isReceiver : yX12_isReceiver.cls ≠ "java/lang/invoke/MethodHandle" ∧ yX12_isReceiver.cls ≠ "java/lang/invoke/VarHandle" ∧ (parseMethodDescriptor yX12_isReceiver.desc).map (fun d => d.parameters.length) = some 1 := by decide +kernel
theorem hd_yX12_table : yX12_table.cls ≠ "java/lang/invoke/MethodHandle" ∧ yX12_table.cls ≠ "java/lang/invoke/VarHandle" ∧ (parseMethodDescriptor yX12_table.desc).map (fun d => d.parameters.length) = some 3 := by decide +kernel
theorem hd_yX1_isSender : yX1_isSender.cls ≠ "java/lang/invoke/MethodHandle" ∧ yX1_isSender.cls ≠ "java/lang/invoke/VarHandle" ∧ (parseMethodDescriptor yX1_isSender.desc).map (fun d => d.parameters.length) = some 1 := by decide +kernel
theorem hd_yX11_product : yX11_product.cls ≠ "java/lang/invoke/MethodHandle" ∧ yX11_product.cls ≠ "java/lang/invoke/VarHandle" ∧ (parseMethodDescriptor yX11_product.desc).map (fun d => d.parameters.length) = some 3 := by decide +kernel
theorem hd_yX12_isSender : yX12_isSender.cls ≠ "java/lang/invoke/MethodHandle" ∧ yX12_isSender.cls ≠ "java/lang/invoke/VarHandle" ∧ (parseMethodDescriptor yX12_isSender.desc).map (fun d => d.parameters.length) = some 1 := by decide +kernel
theorem hd_yX12_product : yX12_product.cls ≠ "java/lang/invoke/MethodHandle" ∧ yX12_product.cls ≠ "java/lang/invoke/VarHandle" ∧ (parseMethodDescriptor yX12_product.desc).map (fun d => d.parameters.length) = some 3 := by decide +kernel
theorem hd_yX7_forget : yX7_forget.cls ≠ "java/lang/invoke/MethodHandle" ∧ yX7_forget.cls ≠ "java/lang/invoke/VarHandle" ∧ (parseMethodDescriptor yX7_forget.desc).map (fun d => d.parameters.length) = some 0 := by decide +kernel
theorem hd_yX11_takeHeard : yX11_takeHeard.cls ≠ "java/lang/invoke/MethodHandle" ∧ yX11_takeHeard.cls ≠ "java/lang/invoke/VarHandle" ∧ (parseMethodDescriptor yX11_takeHeard.desc).map (fun d => d.parameters.length) = some 0 := by decide +kernel
theorem hd_yX11_hear : yX11_hear.cls ≠ "java/lang/invoke/MethodHandle" ∧ yX11_hear.cls ≠ "java/lang/invoke/VarHandle" ∧ (parseMethodDescriptor yX11_hear.desc).map (fun d => d.parameters.length) = some 0 := by decide +kernel
theorem hd_yX12_hear : yX12_hear.cls ≠ "java/lang/invoke/MethodHandle" ∧ yX12_hear.cls ≠ "java/lang/invoke/VarHandle" ∧ (parseMethodDescriptor yX12_hear.desc).map (fun d => d.parameters.length) = some 0 := by decide +kernel
theorem hd_yX11_heard : yX11_heard.cls ≠ "java/lang/invoke/MethodHandle" ∧ yX11_heard.cls ≠ "java/lang/invoke/VarHandle" ∧ (parseMethodDescriptor yX11_heard.desc).map (fun d => d.parameters.length) = some 1 := by decide +kernel
theorem hd_yX12_heard : yX12_heard.cls ≠ "java/lang/invoke/MethodHandle" ∧ yX12_heard.cls ≠ "java/lang/invoke/VarHandle" ∧ (parseMethodDescriptor yX12_heard.desc).map (fun d => d.parameters.length) = some 1 := by decide +kernel
theorem hd_yX11_takeRow : yX11_takeRow.cls ≠ "java/lang/invoke/MethodHandle" ∧ yX11_takeRow.cls ≠ "java/lang/invoke/VarHandle" ∧ (parseMethodDescriptor yX11_takeRow.desc).map (fun d => d.parameters.length) = some 0 := by decide +kernel
theorem hd_yX11_send : yX11_send.cls ≠ "java/lang/invoke/MethodHandle" ∧ yX11_send.cls ≠ "java/lang/invoke/VarHandle" ∧ (parseMethodDescriptor yX11_send.desc).map (fun d => d.parameters.length) = some 0 := by decide +kernel
theorem hd_yX12_isRowTold : yX12_isRowTold.cls ≠ "java/lang/invoke/MethodHandle" ∧ yX12_isRowTold.cls ≠ "java/lang/invoke/VarHandle" ∧ (parseMethodDescriptor yX12_isRowTold.desc).map (fun d => d.parameters.length) = some 0 := by decide +kernel
theorem hd_yX12_send : yX12_send.cls ≠ "java/lang/invoke/MethodHandle" ∧ yX12_send.cls ≠ "java/lang/invoke/VarHandle" ∧ (parseMethodDescriptor yX12_send.desc).map (fun d => d.parameters.length) = some 0 := by decide +kernel
theorem hd_yX11_distance : yX11_distance.cls ≠ "java/lang/invoke/MethodHandle" ∧ yX11_distance.cls ≠ "java/lang/invoke/VarHandle" ∧ (parseMethodDescriptor yX11_distance.desc).map (fun d => d.parameters.length) = some 0 := by decide +kernel
theorem hd_yX12_distance : yX12_distance.cls ≠ "java/lang/invoke/MethodHandle" ∧ yX12_distance.cls ≠ "java/lang/invoke/VarHandle" ∧ (parseMethodDescriptor yX12_distance.desc).map (fun d => d.parameters.length) = some 0 := by decide +kernel
theorem hd_yX11_slips : yX11_slips.cls ≠ "java/lang/invoke/MethodHandle" ∧ yX11_slips.cls ≠ "java/lang/invoke/VarHandle" ∧ (parseMethodDescriptor yX11_slips.desc).map (fun d => d.parameters.length) = some 2 := by decide +kernel
theorem hd_yX12_slips : yX12_slips.cls ≠ "java/lang/invoke/MethodHandle" ∧ yX12_slips.cls ≠ "java/lang/invoke/VarHandle" ∧ (parseMethodDescriptor yX12_slips.desc).map (fun d => d.parameters.length) = some 2 := by decide +kernel
theorem hd_yX11_nearest : yX11_nearest.cls ≠ "java/lang/invoke/MethodHandle" ∧ yX11_nearest.cls ≠ "java/lang/invoke/VarHandle" ∧ (parseMethodDescriptor yX11_nearest.desc).map (fun d => d.parameters.length) = some 2 := by decide +kernel
theorem hd_yX12_nearest : yX12_nearest.cls ≠ "java/lang/invoke/MethodHandle" ∧ yX12_nearest.cls ≠ "java/lang/invoke/VarHandle" ∧ (parseMethodDescriptor yX12_nearest.desc).map (fun d => d.parameters.length) = some 2 := by decide +kernel
theorem hd_yX7_learn : yX7_learn.cls ≠ "java/lang/invoke/MethodHandle" ∧ yX7_learn.cls ≠ "java/lang/invoke/VarHandle" ∧ (parseMethodDescriptor yX7_learn.desc).map (fun d => d.parameters.length) = some 2 := by decide +kernel
theorem hd_yX11_isNear : yX11_isNear.cls ≠ "java/lang/invoke/MethodHandle" ∧ yX11_isNear.cls ≠ "java/lang/invoke/VarHandle" ∧ (parseMethodDescriptor yX11_isNear.desc).map (fun d => d.parameters.length) = some 1 := by decide +kernel
theorem hd_yX11_near : yX11_near.cls ≠ "java/lang/invoke/MethodHandle" ∧ yX11_near.cls ≠ "java/lang/invoke/VarHandle" ∧ (parseMethodDescriptor yX11_near.desc).map (fun d => d.parameters.length) = some 1 := by decide +kernel
theorem hd_yX12_rowMany : yX12_rowMany.cls ≠ "java/lang/invoke/MethodHandle" ∧ yX12_rowMany.cls ≠ "java/lang/invoke/VarHandle" ∧ (parseMethodDescriptor yX12_rowMany.desc).map (fun d => d.parameters.length) = some 0 := by decide +kernel
theorem hd_yX12_nears : yX12_nears.cls ≠ "java/lang/invoke/MethodHandle" ∧ yX12_nears.cls ≠ "java/lang/invoke/VarHandle" ∧ (parseMethodDescriptor yX12_nears.desc).map (fun d => d.parameters.length) = some 1 := by decide +kernel
theorem hd_yX12_isNear : yX12_isNear.cls ≠ "java/lang/invoke/MethodHandle" ∧ yX12_isNear.cls ≠ "java/lang/invoke/VarHandle" ∧ (parseMethodDescriptor yX12_isNear.desc).map (fun d => d.parameters.length) = some 1 := by decide +kernel
theorem hd_yX12_near : yX12_near.cls ≠ "java/lang/invoke/MethodHandle" ∧ yX12_near.cls ≠ "java/lang/invoke/VarHandle" ∧ (parseMethodDescriptor yX12_near.desc).map (fun d => d.parameters.length) = some 1 := by decide +kernel
theorem hd_yX1_rowCount : yX1_rowCount.cls ≠ "java/lang/invoke/MethodHandle" ∧ yX1_rowCount.cls ≠ "java/lang/invoke/VarHandle" ∧ (parseMethodDescriptor yX1_rowCount.desc).map (fun d => d.parameters.length) = some 0 := by decide +kernel
theorem hd_yX7_countAhead : yX7_countAhead.cls ≠ "java/lang/invoke/MethodHandle" ∧ yX7_countAhead.cls ≠ "java/lang/invoke/VarHandle" ∧ (parseMethodDescriptor yX7_countAhead.desc).map (fun d => d.parameters.length) = some 4 := by decide +kernel
theorem hd_yX11_within : yX11_within.cls ≠ "java/lang/invoke/MethodHandle" ∧ yX11_within.cls ≠ "java/lang/invoke/VarHandle" ∧ (parseMethodDescriptor yX11_within.desc).map (fun d => d.parameters.length) = some 1 := by decide +kernel
theorem hd_yX12_within : yX12_within.cls ≠ "java/lang/invoke/MethodHandle" ∧ yX12_within.cls ≠ "java/lang/invoke/VarHandle" ∧ (parseMethodDescriptor yX12_within.desc).map (fun d => d.parameters.length) = some 1 := by decide +kernel
theorem hd_yX11_cancel : yX11_cancel.cls ≠ "java/lang/invoke/MethodHandle" ∧ yX11_cancel.cls ≠ "java/lang/invoke/VarHandle" ∧ (parseMethodDescriptor yX11_cancel.desc).map (fun d => d.parameters.length) = some 1 := by decide +kernel
theorem hd_yX12_cancel : yX12_cancel.cls ≠ "java/lang/invoke/MethodHandle" ∧ yX12_cancel.cls ≠ "java/lang/invoke/VarHandle" ∧ (parseMethodDescriptor yX12_cancel.desc).map (fun d => d.parameters.length) = some 1 := by decide +kernel
theorem hd_yX11_order : yX11_order.cls ≠ "java/lang/invoke/MethodHandle" ∧ yX11_order.cls ≠ "java/lang/invoke/VarHandle" ∧ (parseMethodDescriptor yX11_order.desc).map (fun d => d.parameters.length) = some 1 := by decide +kernel
theorem hd_yX12_order : yX12_order.cls ≠ "java/lang/invoke/MethodHandle" ∧ yX12_order.cls ≠ "java/lang/invoke/VarHandle" ∧ (parseMethodDescriptor yX12_order.desc).map (fun d => d.parameters.length) = some 1 := by decide +kernel
theorem hd_yX11_left : yX11_left.cls ≠ "java/lang/invoke/MethodHandle" ∧ yX11_left.cls ≠ "java/lang/invoke/VarHandle" ∧ (parseMethodDescriptor yX11_left.desc).map (fun d => d.parameters.length) = some 0 := by decide +kernel
theorem hd_yX12_left : yX12_left.cls ≠ "java/lang/invoke/MethodHandle" ∧ yX12_left.cls ≠ "java/lang/invoke/VarHandle" ∧ (parseMethodDescriptor yX12_left.desc).map (fun d => d.parameters.length) = some 0 := by decide +kernel
theorem hd_yX11_least : yX11_least.cls ≠ "java/lang/invoke/MethodHandle" ∧ yX11_least.cls ≠ "java/lang/invoke/VarHandle" ∧ (parseMethodDescriptor yX11_least.desc).map (fun d => d.parameters.length) = some 2 := by decide +kernel
theorem hd_yX12_least : yX12_least.cls ≠ "java/lang/invoke/MethodHandle" ∧ yX12_least.cls ≠ "java/lang/invoke/VarHandle" ∧ (parseMethodDescriptor yX12_least.desc).map (fun d => d.parameters.length) = some 2 := by decide +kernel
theorem hd_yX11_share : yX11_share.cls ≠ "java/lang/invoke/MethodHandle" ∧ yX11_share.cls ≠ "java/lang/invoke/VarHandle" ∧ (parseMethodDescriptor yX11_share.desc).map (fun d => d.parameters.length) = some 2 := by decide +kernel
theorem hd_yX12_share : yX12_share.cls ≠ "java/lang/invoke/MethodHandle" ∧ yX12_share.cls ≠ "java/lang/invoke/VarHandle" ∧ (parseMethodDescriptor yX12_share.desc).map (fun d => d.parameters.length) = some 2 := by decide +kernel
theorem hd_yX11_sure : yX11_sure.cls ≠ "java/lang/invoke/MethodHandle" ∧ yX11_sure.cls ≠ "java/lang/invoke/VarHandle" ∧ (parseMethodDescriptor yX11_sure.desc).map (fun d => d.parameters.length) = some 1 := by decide +kernel
theorem hd_yX12_sure : yX12_sure.cls ≠ "java/lang/invoke/MethodHandle" ∧ yX12_sure.cls ≠ "java/lang/invoke/VarHandle" ∧ (parseMethodDescriptor yX12_sure.desc).map (fun d => d.parameters.length) = some 1 := by decide +kernel
theorem hd_yX2_makeStep : yX2_makeStep.cls ≠ "java/lang/invoke/MethodHandle" ∧ yX2_makeStep.cls ≠ "java/lang/invoke/VarHandle" ∧ (parseMethodDescriptor yX2_makeStep.desc).map (fun d => d.parameters.length) = some 0 := by decide +kernel
theorem hd_yX2_makeSteps : yX2_makeSteps.cls ≠ "java/lang/invoke/MethodHandle" ∧ yX2_makeSteps.cls ≠ "java/lang/invoke/VarHandle" ∧ (parseMethodDescriptor yX2_makeSteps.desc).map (fun d => d.parameters.length) = some 1 := by decide +kernel
theorem hd_yX11_lead : yX11_lead.cls ≠ "java/lang/invoke/MethodHandle" ∧ yX11_lead.cls ≠ "java/lang/invoke/VarHandle" ∧ (parseMethodDescriptor yX11_lead.desc).map (fun d => d.parameters.length) = some 1 := by decide +kernel
theorem hd_yX12_isStep : yX12_isStep.cls ≠ "java/lang/invoke/MethodHandle" ∧ yX12_isStep.cls ≠ "java/lang/invoke/VarHandle" ∧ (parseMethodDescriptor yX12_isStep.desc).map (fun d => d.parameters.length) = some 0 := by decide +kernel
theorem hd_yX12_lead : yX12_lead.cls ≠ "java/lang/invoke/MethodHandle" ∧ yX12_lead.cls ≠ "java/lang/invoke/VarHandle" ∧ (parseMethodDescriptor yX12_lead.desc).map (fun d => d.parameters.length) = some 1 := by decide +kernel
theorem hd_yX2_undoStep : yX2_undoStep.cls ≠ "java/lang/invoke/MethodHandle" ∧ yX2_undoStep.cls ≠ "java/lang/invoke/VarHandle" ∧ (parseMethodDescriptor yX2_undoStep.desc).map (fun d => d.parameters.length) = some 0 := by decide +kernel
theorem hd_yX11_undo : yX11_undo.cls ≠ "java/lang/invoke/MethodHandle" ∧ yX11_undo.cls ≠ "java/lang/invoke/VarHandle" ∧ (parseMethodDescriptor yX11_undo.desc).map (fun d => d.parameters.length) = some 0 := by decide +kernel
theorem hd_yX12_undo : yX12_undo.cls ≠ "java/lang/invoke/MethodHandle" ∧ yX12_undo.cls ≠ "java/lang/invoke/VarHandle" ∧ (parseMethodDescriptor yX12_undo.desc).map (fun d => d.parameters.length) = some 0 := by decide +kernel
theorem hd_yX2_redoStep : yX2_redoStep.cls ≠ "java/lang/invoke/MethodHandle" ∧ yX2_redoStep.cls ≠ "java/lang/invoke/VarHandle" ∧ (parseMethodDescriptor yX2_redoStep.desc).map (fun d => d.parameters.length) = some 0 := by decide +kernel
theorem hd_yX11_redo : yX11_redo.cls ≠ "java/lang/invoke/MethodHandle" ∧ yX11_redo.cls ≠ "java/lang/invoke/VarHandle" ∧ (parseMethodDescriptor yX11_redo.desc).map (fun d => d.parameters.length) = some 0 := by decide +kernel
theorem hd_yX12_redo : yX12_redo.cls ≠ "java/lang/invoke/MethodHandle" ∧ yX12_redo.cls ≠ "java/lang/invoke/VarHandle" ∧ (parseMethodDescriptor yX12_redo.desc).map (fun d => d.parameters.length) = some 0 := by decide +kernel
theorem hd_yX11_leader : yX11_leader.cls ≠ "java/lang/invoke/MethodHandle" ∧ yX11_leader.cls ≠ "java/lang/invoke/VarHandle" ∧ (parseMethodDescriptor yX11_leader.desc).map (fun d => d.parameters.length) = some 2 := by decide +kernel
theorem hd_yX12_leader : yX12_leader.cls ≠ "java/lang/invoke/MethodHandle" ∧ yX12_leader.cls ≠ "java/lang/invoke/VarHandle" ∧ (parseMethodDescriptor yX12_leader.desc).map (fun d => d.parameters.length) = some 2 := by decide +kernel
theorem hd_yX11_step : yX11_step.cls ≠ "java/lang/invoke/MethodHandle" ∧ yX11_step.cls ≠ "java/lang/invoke/VarHandle" ∧ (parseMethodDescriptor yX11_step.desc).map (fun d => d.parameters.length) = some 2 := by decide +kernel
theorem hd_yX12_step : yX12_step.cls ≠ "java/lang/invoke/MethodHandle" ∧ yX12_step.cls ≠ "java/lang/invoke/VarHandle" ∧ (parseMethodDescriptor yX12_step.desc).map (fun d => d.parameters.length) = some 2 := by decide +kernel
theorem hd_yX11_clash : yX11_clash.cls ≠ "java/lang/invoke/MethodHandle" ∧ yX11_clash.cls ≠ "java/lang/invoke/VarHandle" ∧ (parseMethodDescriptor yX11_clash.desc).map (fun d => d.parameters.length) = some 3 := by decide +kernel
theorem hd_yX12_clash : yX12_clash.cls ≠ "java/lang/invoke/MethodHandle" ∧ yX12_clash.cls ≠ "java/lang/invoke/VarHandle" ∧ (parseMethodDescriptor yX12_clash.desc).map (fun d => d.parameters.length) = some 3 := by decide +kernel
theorem hd_yX11_tableBy : yX11_tableBy.cls ≠ "java/lang/invoke/MethodHandle" ∧ yX11_tableBy.cls ≠ "java/lang/invoke/VarHandle" ∧ (parseMethodDescriptor yX11_tableBy.desc).map (fun d => d.parameters.length) = some 1 := by decide +kernel
theorem hd_yX8_worstPair : yX8_worstPair.cls ≠ "java/lang/invoke/MethodHandle" ∧ yX8_worstPair.cls ≠ "java/lang/invoke/VarHandle" ∧ (parseMethodDescriptor yX8_worstPair.desc).map (fun d => d.parameters.length) = some 1 := by decide +kernel
theorem hd_yX11_worst : yX11_worst.cls ≠ "java/lang/invoke/MethodHandle" ∧ yX11_worst.cls ≠ "java/lang/invoke/VarHandle" ∧ (parseMethodDescriptor yX11_worst.desc).map (fun d => d.parameters.length) = some 1 := by decide +kernel
theorem hd_yX12_worst : yX12_worst.cls ≠ "java/lang/invoke/MethodHandle" ∧ yX12_worst.cls ≠ "java/lang/invoke/VarHandle" ∧ (parseMethodDescriptor yX12_worst.desc).map (fun d => d.parameters.length) = some 1 := by decide +kernel
theorem hd_yX8_at : yX8_at.cls ≠ "java/lang/invoke/MethodHandle" ∧ yX8_at.cls ≠ "java/lang/invoke/VarHandle" ∧ (parseMethodDescriptor yX8_at.desc).map (fun d => d.parameters.length) = some 2 := by decide +kernel
theorem hd_yX8_productOf : yX8_productOf.cls ≠ "java/lang/invoke/MethodHandle" ∧ yX8_productOf.cls ≠ "java/lang/invoke/VarHandle" ∧ (parseMethodDescriptor yX8_productOf.desc).map (fun d => d.parameters.length) = some 2 := by decide +kernel
theorem hd_yX8_allSquares : yX8_allSquares.cls ≠ "java/lang/invoke/MethodHandle" ∧ yX8_allSquares.cls ≠ "java/lang/invoke/VarHandle" ∧ (parseMethodDescriptor yX8_allSquares.desc).map (fun d => d.parameters.length) = some 0 := by decide +kernel
theorem hd_yX11_squares : yX11_squares.cls ≠ "java/lang/invoke/MethodHandle" ∧ yX11_squares.cls ≠ "java/lang/invoke/VarHandle" ∧ (parseMethodDescriptor yX11_squares.desc).map (fun d => d.parameters.length) = some 1 := by decide +kernel
theorem hd_yX12_squares : yX12_squares.cls ≠ "java/lang/invoke/MethodHandle" ∧ yX12_squares.cls ≠ "java/lang/invoke/VarHandle" ∧ (parseMethodDescriptor yX12_squares.desc).map (fun d => d.parameters.length) = some 1 := by decide +kernel
theorem hd_yX1_isSenderSet : yX1_isSenderSet.cls ≠ "java/lang/invoke/MethodHandle" ∧ yX1_isSenderSet.cls ≠ "java/lang/invoke/VarHandle" ∧ (parseMethodDescriptor yX1_isSenderSet.desc).map (fun d => d.parameters.length) = some 1 := by decide +kernel
theorem hd_yX11_sums : yX11_sums.cls ≠ "java/lang/invoke/MethodHandle" ∧ yX11_sums.cls ≠ "java/lang/invoke/VarHandle" ∧ (parseMethodDescriptor yX11_sums.desc).map (fun d => d.parameters.length) = some 3 := by decide +kernel
theorem hd_yX12_areSenders : yX12_areSenders.cls ≠ "java/lang/invoke/MethodHandle" ∧ yX12_areSenders.cls ≠ "java/lang/invoke/VarHandle" ∧ (parseMethodDescriptor yX12_areSenders.desc).map (fun d => d.parameters.length) = some 1 := by decide +kernel
theorem hd_yX12_isNext : yX12_isNext.cls ≠ "java/lang/invoke/MethodHandle" ∧ yX12_isNext.cls ≠ "java/lang/invoke/VarHandle" ∧ (parseMethodDescriptor yX12_isNext.desc).map (fun d => d.parameters.length) = some 3 := by decide +kernel
theorem hd_yX12_isLeast : yX12_isLeast.cls ≠ "java/lang/invoke/MethodHandle" ∧ yX12_isLeast.cls ≠ "java/lang/invoke/VarHandle" ∧ (parseMethodDescriptor yX12_isLeast.desc).map (fun d => d.parameters.length) = some 3 := by decide +kernel
theorem hd_yX12_sums : yX12_sums.cls ≠ "java/lang/invoke/MethodHandle" ∧ yX12_sums.cls ≠ "java/lang/invoke/VarHandle" ∧ (parseMethodDescriptor yX12_sums.desc).map (fun d => d.parameters.length) = some 3 := by decide +kernel
theorem hd_yX11_apart : yX11_apart.cls ≠ "java/lang/invoke/MethodHandle" ∧ yX11_apart.cls ≠ "java/lang/invoke/VarHandle" ∧ (parseMethodDescriptor yX11_apart.desc).map (fun d => d.parameters.length) = some 1 := by decide +kernel
theorem hd_yX12_apart : yX12_apart.cls ≠ "java/lang/invoke/MethodHandle" ∧ yX12_apart.cls ≠ "java/lang/invoke/VarHandle" ∧ (parseMethodDescriptor yX12_apart.desc).map (fun d => d.parameters.length) = some 1 := by decide +kernel
theorem hd_yX1_isWord : yX1_isWord.cls ≠ "java/lang/invoke/MethodHandle" ∧ yX1_isWord.cls ≠ "java/lang/invoke/VarHandle" ∧ (parseMethodDescriptor yX1_isWord.desc).map (fun d => d.parameters.length) = some 1 := by decide +kernel
theorem hd_yX11_word : yX11_word.cls ≠ "java/lang/invoke/MethodHandle" ∧ yX11_word.cls ≠ "java/lang/invoke/VarHandle" ∧ (parseMethodDescriptor yX11_word.desc).map (fun d => d.parameters.length) = some 2 := by decide +kernel
theorem hd_yX12_word : yX12_word.cls ≠ "java/lang/invoke/MethodHandle" ∧ yX12_word.cls ≠ "java/lang/invoke/VarHandle" ∧ (parseMethodDescriptor yX12_word.desc).map (fun d => d.parameters.length) = some 2 := by decide +kernel
theorem hd_yX11_code : yX11_code.cls ≠ "java/lang/invoke/MethodHandle" ∧ yX11_code.cls ≠ "java/lang/invoke/VarHandle" ∧ (parseMethodDescriptor yX11_code.desc).map (fun d => d.parameters.length) = some 1 := by decide +kernel
theorem hd_yX12_code : yX12_code.cls ≠ "java/lang/invoke/MethodHandle" ∧ yX12_code.cls ≠ "java/lang/invoke/VarHandle" ∧ (parseMethodDescriptor yX12_code.desc).map (fun d => d.parameters.length) = some 1 := by decide +kernel
theorem hd_yX11_decode : yX11_decode.cls ≠ "java/lang/invoke/MethodHandle" ∧ yX11_decode.cls ≠ "java/lang/invoke/VarHandle" ∧ (parseMethodDescriptor yX11_decode.desc).map (fun d => d.parameters.length) = some 0 := by decide +kernel
theorem hd_yX12_decode : yX12_decode.cls ≠ "java/lang/invoke/MethodHandle" ∧ yX12_decode.cls ≠ "java/lang/invoke/VarHandle" ∧ (parseMethodDescriptor yX12_decode.desc).map (fun d => d.parameters.length) = some 0 := by decide +kernel
theorem hd_yX11_leave : yX11_leave.cls ≠ "java/lang/invoke/MethodHandle" ∧ yX11_leave.cls ≠ "java/lang/invoke/VarHandle" ∧ (parseMethodDescriptor yX11_leave.desc).map (fun d => d.parameters.length) = some 1 := by decide +kernel
theorem hd_yX12_leave : yX12_leave.cls ≠ "java/lang/invoke/MethodHandle" ∧ yX12_leave.cls ≠ "java/lang/invoke/VarHandle" ∧ (parseMethodDescriptor yX12_leave.desc).map (fun d => d.parameters.length) = some 1 := by decide +kernel
theorem hd_yX11_behind : yX11_behind.cls ≠ "java/lang/invoke/MethodHandle" ∧ yX11_behind.cls ≠ "java/lang/invoke/VarHandle" ∧ (parseMethodDescriptor yX11_behind.desc).map (fun d => d.parameters.length) = some 1 := by decide +kernel
theorem hd_yX12_isWord : yX12_isWord.cls ≠ "java/lang/invoke/MethodHandle" ∧ yX12_isWord.cls ≠ "java/lang/invoke/VarHandle" ∧ (parseMethodDescriptor yX12_isWord.desc).map (fun d => d.parameters.length) = some 1 := by decide +kernel
theorem hd_yX12_behind : yX12_behind.cls ≠ "java/lang/invoke/MethodHandle" ∧ yX12_behind.cls ≠ "java/lang/invoke/VarHandle" ∧ (parseMethodDescriptor yX12_behind.desc).map (fun d => d.parameters.length) = some 1 := by decide +kernel
theorem hd_yX11_unlike : yX11_unlike.cls ≠ "java/lang/invoke/MethodHandle" ∧ yX11_unlike.cls ≠ "java/lang/invoke/VarHandle" ∧ (parseMethodDescriptor yX11_unlike.desc).map (fun d => d.parameters.length) = some 2 := by decide +kernel
theorem hd_yX12_unlike : yX12_unlike.cls ≠ "java/lang/invoke/MethodHandle" ∧ yX12_unlike.cls ≠ "java/lang/invoke/VarHandle" ∧ (parseMethodDescriptor yX12_unlike.desc).map (fun d => d.parameters.length) = some 2 := by decide +kernel
theorem hd_yX11_span : yX11_span.cls ≠ "java/lang/invoke/MethodHandle" ∧ yX11_span.cls ≠ "java/lang/invoke/VarHandle" ∧ (parseMethodDescriptor yX11_span.desc).map (fun d => d.parameters.length) = some 1 := by decide +kernel
theorem hd_yX12_span : yX12_span.cls ≠ "java/lang/invoke/MethodHandle" ∧ yX12_span.cls ≠ "java/lang/invoke/VarHandle" ∧ (parseMethodDescriptor yX12_span.desc).map (fun d => d.parameters.length) = some 1 := by decide +kernel
theorem hd_yX3_refuse : yX3_refuse.cls ≠ "java/lang/invoke/MethodHandle" ∧ yX3_refuse.cls ≠ "java/lang/invoke/VarHandle" ∧ (parseMethodDescriptor yX3_refuse.desc).map (fun d => d.parameters.length) = some 0 := by decide +kernel
theorem hd_yX11_ahead : yX11_ahead.cls ≠ "java/lang/invoke/MethodHandle" ∧ yX11_ahead.cls ≠ "java/lang/invoke/VarHandle" ∧ (parseMethodDescriptor yX11_ahead.desc).map (fun d => d.parameters.length) = some 0 := by decide +kernel
theorem hd_yX12_ahead : yX12_ahead.cls ≠ "java/lang/invoke/MethodHandle" ∧ yX12_ahead.cls ≠ "java/lang/invoke/VarHandle" ∧ (parseMethodDescriptor yX12_ahead.desc).map (fun d => d.parameters.length) = some 0 := by decide +kernel
theorem hd_yX11_put : yX11_put.cls ≠ "java/lang/invoke/MethodHandle" ∧ yX11_put.cls ≠ "java/lang/invoke/VarHandle" ∧ (parseMethodDescriptor yX11_put.desc).map (fun d => d.parameters.length) = some 1 := by decide +kernel
theorem hd_yX12_put : yX12_put.cls ≠ "java/lang/invoke/MethodHandle" ∧ yX12_put.cls ≠ "java/lang/invoke/VarHandle" ∧ (parseMethodDescriptor yX12_put.desc).map (fun d => d.parameters.length) = some 1 := by decide +kernel
theorem hd_yX11_worth : yX11_worth.cls ≠ "java/lang/invoke/MethodHandle" ∧ yX11_worth.cls ≠ "java/lang/invoke/VarHandle" ∧ (parseMethodDescriptor yX11_worth.desc).map (fun d => d.parameters.length) = some 1 := by decide +kernel
theorem hd_yX12_worth : yX12_worth.cls ≠ "java/lang/invoke/MethodHandle" ∧ yX12_worth.cls ≠ "java/lang/invoke/VarHandle" ∧ (parseMethodDescriptor yX12_worth.desc).map (fun d => d.parameters.length) = some 1 := by decide +kernel
theorem hd_yX11_chosen : yX11_chosen.cls ≠ "java/lang/invoke/MethodHandle" ∧ yX11_chosen.cls ≠ "java/lang/invoke/VarHandle" ∧ (parseMethodDescriptor yX11_chosen.desc).map (fun d => d.parameters.length) = some 2 := by decide +kernel
theorem hd_yX12_chosen : yX12_chosen.cls ≠ "java/lang/invoke/MethodHandle" ∧ yX12_chosen.cls ≠ "java/lang/invoke/VarHandle" ∧ (parseMethodDescriptor yX12_chosen.desc).map (fun d => d.parameters.length) = some 2 := by decide +kernel
theorem hd_yX11_checkWith : yX11_checkWith.cls ≠ "java/lang/invoke/MethodHandle" ∧ yX11_checkWith.cls ≠ "java/lang/invoke/VarHandle" ∧ (parseMethodDescriptor yX11_checkWith.desc).map (fun d => d.parameters.length) = some 2 := by decide +kernel
theorem hd_yX11_image : yX11_image.cls ≠ "java/lang/invoke/MethodHandle" ∧ yX11_image.cls ≠ "java/lang/invoke/VarHandle" ∧ (parseMethodDescriptor yX11_image.desc).map (fun d => d.parameters.length) = some 0 := by decide +kernel
theorem hd_yX12_writes : yX12_writes.cls ≠ "java/lang/invoke/MethodHandle" ∧ yX12_writes.cls ≠ "java/lang/invoke/VarHandle" ∧ (parseMethodDescriptor yX12_writes.desc).map (fun d => d.parameters.length) = some 1 := by decide +kernel
theorem hd_yX12_checked : yX12_checked.cls ≠ "java/lang/invoke/MethodHandle" ∧ yX12_checked.cls ≠ "java/lang/invoke/VarHandle" ∧ (parseMethodDescriptor yX12_checked.desc).map (fun d => d.parameters.length) = some 2 := by decide +kernel
theorem hd_yX12_image : yX12_image.cls ≠ "java/lang/invoke/MethodHandle" ∧ yX12_image.cls ≠ "java/lang/invoke/VarHandle" ∧ (parseMethodDescriptor yX12_image.desc).map (fun d => d.parameters.length) = some 0 := by decide +kernel
theorem hd_yX11_octet : yX11_octet.cls ≠ "java/lang/invoke/MethodHandle" ∧ yX11_octet.cls ≠ "java/lang/invoke/VarHandle" ∧ (parseMethodDescriptor yX11_octet.desc).map (fun d => d.parameters.length) = some 1 := by decide +kernel
theorem hd_yX12_octet : yX12_octet.cls ≠ "java/lang/invoke/MethodHandle" ∧ yX12_octet.cls ≠ "java/lang/invoke/VarHandle" ∧ (parseMethodDescriptor yX12_octet.desc).map (fun d => d.parameters.length) = some 1 := by decide +kernel
theorem hd_yX11_isImage : yX11_isImage.cls ≠ "java/lang/invoke/MethodHandle" ∧ yX11_isImage.cls ≠ "java/lang/invoke/VarHandle" ∧ (parseMethodDescriptor yX11_isImage.desc).map (fun d => d.parameters.length) = some 0 := by decide +kernel
theorem hd_yX11_on : yX11_on.cls ≠ "java/lang/invoke/MethodHandle" ∧ yX11_on.cls ≠ "java/lang/invoke/VarHandle" ∧ (parseMethodDescriptor yX11_on.desc).map (fun d => d.parameters.length) = some 0 := by decide +kernel
theorem hd_yX12_on : yX12_on.cls ≠ "java/lang/invoke/MethodHandle" ∧ yX12_on.cls ≠ "java/lang/invoke/VarHandle" ∧ (parseMethodDescriptor yX12_on.desc).map (fun d => d.parameters.length) = some 0 := by decide +kernel
theorem hd_yX11_init : yX11_init.cls ≠ "java/lang/invoke/MethodHandle" ∧ yX11_init.cls ≠ "java/lang/invoke/VarHandle" ∧ (parseMethodDescriptor yX11_init.desc).map (fun d => d.parameters.length) = some 0 := by decide +kernel
theorem hd_yX12_init : yX12_init.cls ≠ "java/lang/invoke/MethodHandle" ∧ yX12_init.cls ≠ "java/lang/invoke/VarHandle" ∧ (parseMethodDescriptor yX12_init.desc).map (fun d => d.parameters.length) = some 0 := by decide +kernel
