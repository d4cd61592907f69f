theorem tw_27 : (.methodLink RX11 1 objectInit : Cond) ∈ lw_gd := g_mem (List.mem_append_right _ (g_k1 (List.mem_of_getElem? (i := 27) rfl))) rfl
theorem tw_28 : (.instanceMethod objectInit : Cond) ∈ lw_gd := g_mem (List.mem_append_right _ (g_k1 (List.mem_of_getElem? (i := 28) rfl))) rfl
theorem tw_29 : (.code objectInit ⟨#[0xb1]⟩ 1 none : Cond) ∈ lw_gd := g_mem (List.mem_append_right _ (g_k1 (List.mem_of_getElem? (i := 29) rfl))) rfl
theorem tw_30 : (.classLink RX11 7 RX4 : Cond) ∈ lw_gd := g_mem (List.mem_append_right _ (g_k1 (List.mem_of_getElem? (i := 30) rfl))) rfl
theorem tw_31 : (.instantiable RX4 8 : Cond) ∈ lw_gd := g_mem (List.mem_append_right _ (g_k1 (List.mem_of_getElem? (i := 31) rfl))) rfl
theorem tn_32 : (.methodLinkNest RX11 9 yX4_init "ManyOut" : Cond) ∈ lw_nw := g_nmem (g_k1 (List.mem_of_getElem? (i := 32) (by decide +kernel))) rfl
theorem tw_35 : (.methodLink RX4 3 objectInit : Cond) ∈ lw_gd := g_mem (List.mem_append_right _ (g_k1 (List.mem_of_getElem? (i := 35) rfl))) rfl
theorem tw_36 : (.classLink RX4 9 RX9 : Cond) ∈ lw_gd := g_mem (List.mem_append_right _ (g_k1 (List.mem_of_getElem? (i := 36) rfl))) rfl
theorem tw_37 : (.instantiable RX9 2 : Cond) ∈ lw_gd := g_mem (List.mem_append_right _ (g_k1 (List.mem_of_getElem? (i := 37) rfl))) rfl
theorem tn_38 : (.methodLinkNest RX4 11 yX9_init "ManyOut" : Cond) ∈ lw_nw := g_nmem (g_k1 (List.mem_of_getElem? (i := 38) (by decide +kernel))) rfl
theorem tw_41 : (.methodLink RX9 3 objectInit : Cond) ∈ lw_gd := g_mem (List.mem_append_right _ (g_k1 (List.mem_of_getElem? (i := 41) rfl))) rfl
theorem tw_49 : (.arrayClass .byte : Cond) ∈ lw_gd := g_mem (List.mem_append_right _ (g_k1 (List.mem_of_getElem? (i := 49) rfl))) rfl
theorem tw_40 : (.code yX9_init cX9_init 1 none : Cond) ∈ lw_gd := g_mem (List.mem_append_right _ (g_k1 (List.mem_of_getElem? (i := 40) rfl))) rfl
theorem tw_39 : (.instanceMethod yX9_init : Cond) ∈ lw_gd := g_mem (List.mem_append_right _ (g_k1 (List.mem_of_getElem? (i := 39) rfl))) rfl
theorem tw_50 : (.classLink RX4 18 RX1 : Cond) ∈ lw_gd := g_mem (List.mem_append_right _ (g_k1 (List.mem_of_getElem? (i := 50) rfl))) rfl
theorem tw_51 : (.instantiable RX1 10 : Cond) ∈ lw_gd := g_mem (List.mem_append_right _ (g_k1 (List.mem_of_getElem? (i := 51) rfl))) rfl
theorem tn_52 : (.methodLinkNest RX4 20 yX1_init "ManyOut" : Cond) ∈ lw_nw := g_nmem (g_k1 (List.mem_of_getElem? (i := 52) (by decide +kernel))) rfl
theorem tw_55 : (.methodLink RX1 3 objectInit : Cond) ∈ lw_gd := g_mem (List.mem_append_right _ (g_k1 (List.mem_of_getElem? (i := 55) rfl))) rfl
theorem tw_56 : (.classLink RX1 9 RX8 : Cond) ∈ lw_gd := g_mem (List.mem_append_right _ (g_k1 (List.mem_of_getElem? (i := 56) rfl))) rfl
theorem tw_57 : (.instantiable RX8 1 : Cond) ∈ lw_gd := g_mem (List.mem_append_right _ (g_k1 (List.mem_of_getElem? (i := 57) rfl))) rfl
theorem tn_58 : (.methodLinkNest RX1 11 yX8_init "ManyOut" : Cond) ∈ lw_nw := g_nmem (g_k1 (List.mem_of_getElem? (i := 58) (by decide +kernel))) rfl
theorem tw_61 : (.methodLink RX8 3 objectInit : Cond) ∈ lw_gd := g_mem (List.mem_append_right _ (g_k1 (List.mem_of_getElem? (i := 61) rfl))) rfl
theorem tw_66 : (.arrayClass .int : Cond) ∈ lw_gd := g_mem (List.mem_append_right _ (g_k1 (List.mem_of_getElem? (i := 66) rfl))) rfl
theorem tw_60 : (.code yX8_init cX8_init 1 none : Cond) ∈ lw_gd := g_mem (List.mem_append_right _ (g_k1 (List.mem_of_getElem? (i := 60) rfl))) rfl
theorem tw_59 : (.instanceMethod yX8_init : Cond) ∈ lw_gd := g_mem (List.mem_append_right _ (g_k1 (List.mem_of_getElem? (i := 59) rfl))) rfl
theorem tw_67 : (.classLink RX1 18 RX5 : Cond) ∈ lw_gd := g_mem (List.mem_append_right _ (g_k1 (List.mem_of_getElem? (i := 67) rfl))) rfl
theorem tw_68 : (.instantiable RX5 7 : Cond) ∈ lw_gd := g_mem (List.mem_append_right _ (g_k1 (List.mem_of_getElem? (i := 68) rfl))) rfl
theorem tn_69 : (.methodLinkNest RX1 20 yX5_init "ManyOut" : Cond) ∈ lw_nw := g_nmem (g_k1 (List.mem_of_getElem? (i := 69) (by decide +kernel))) rfl
theorem tw_72 : (.methodLink RX5 3 objectInit : Cond) ∈ lw_gd := g_mem (List.mem_append_right _ (g_k1 (List.mem_of_getElem? (i := 72) rfl))) rfl
theorem tw_71 : (.code yX5_init cX5_init 1 none : Cond) ∈ lw_gd := g_mem (List.mem_append_right _ (g_k1 (List.mem_of_getElem? (i := 71) rfl))) rfl
theorem tw_70 : (.instanceMethod yX5_init : Cond) ∈ lw_gd := g_mem (List.mem_append_right _ (g_k1 (List.mem_of_getElem? (i := 70) rfl))) rfl
theorem tw_54 : (.code yX1_init cX1_init 1 none : Cond) ∈ lw_gd := g_mem (List.mem_append_right _ (g_k1 (List.mem_of_getElem? (i := 54) rfl))) rfl
theorem tw_53 : (.instanceMethod yX1_init : Cond) ∈ lw_gd := g_mem (List.mem_append_right _ (g_k1 (List.mem_of_getElem? (i := 53) rfl))) rfl
theorem tw_34 : (.code yX4_init cX4_init 1 none : Cond) ∈ lw_gd := g_mem (List.mem_append_right _ (g_k1 (List.mem_of_getElem? (i := 34) rfl))) rfl
theorem tw_33 : (.instanceMethod yX4_init : Cond) ∈ lw_gd := g_mem (List.mem_append_right _ (g_k1 (List.mem_of_getElem? (i := 33) rfl))) rfl
theorem tn_168 : (.fieldLinkNest RX11 16 "ManyOut$Reader" "tape" "LManyOut$Tape;" "ManyOut" : Cond) ∈ lw_nw := g_nmem (g_k1 (List.mem_of_getElem? (i := 168) (by decide +kernel))) rfl
theorem tw_195 : (.classLink RX11 21 RX7 : Cond) ∈ lw_gd := g_mem (List.mem_append_right _ (g_k1 (List.mem_of_getElem? (i := 195) rfl))) rfl
theorem tw_196 : (.instantiable RX7 11 : Cond) ∈ lw_gd := g_mem (List.mem_append_right _ (g_k1 (List.mem_of_getElem? (i := 196) rfl))) rfl
theorem tn_197 : (.methodLinkNest RX11 23 yX7_init "ManyOut" : Cond) ∈ lw_nw := g_nmem (g_k1 (List.mem_of_getElem? (i := 197) (by decide +kernel))) rfl
theorem tw_200 : (.methodLink RX7 3 objectInit : Cond) ∈ lw_gd := g_mem (List.mem_append_right _ (g_k1 (List.mem_of_getElem? (i := 200) rfl))) rfl
theorem tw_201 : (.classLink RX7 9 RX10 : Cond) ∈ lw_gd := g_mem (List.mem_append_right _ (g_k1 (List.mem_of_getElem? (i := 201) rfl))) rfl
theorem tw_202 : (.instantiable RX10 8 : Cond) ∈ lw_gd := g_mem (List.mem_append_right _ (g_k1 (List.mem_of_getElem? (i := 202) rfl))) rfl
theorem tn_203 : (.methodLinkNest RX7 11 yX10_init "ManyOut" : Cond) ∈ lw_nw := g_nmem (g_k1 (List.mem_of_getElem? (i := 203) (by decide +kernel))) rfl
theorem tw_206 : (.methodLink RX10 3 objectInit : Cond) ∈ lw_gd := g_mem (List.mem_append_right _ (g_k1 (List.mem_of_getElem? (i := 206) rfl))) rfl
theorem tw_241 : (.arrayClass .long : Cond) ∈ lw_gd := g_mem (List.mem_append_right _ (g_k2 (List.mem_of_getElem? (i := 1) rfl))) rfl
theorem tw_205 : (.code yX10_init cX10_init 1 none : Cond) ∈ lw_gd := g_mem (List.mem_append_right _ (g_k1 (List.mem_of_getElem? (i := 205) rfl))) rfl
theorem tw_204 : (.instanceMethod yX10_init : Cond) ∈ lw_gd := g_mem (List.mem_append_right _ (g_k1 (List.mem_of_getElem? (i := 204) rfl))) rfl
theorem tw_199 : (.code yX7_init cX7_init 1 none : Cond) ∈ lw_gd := g_mem (List.mem_append_right _ (g_k1 (List.mem_of_getElem? (i := 199) rfl))) rfl
theorem tw_198 : (.instanceMethod yX7_init : Cond) ∈ lw_gd := g_mem (List.mem_append_right _ (g_k1 (List.mem_of_getElem? (i := 198) rfl))) rfl
theorem tw_281 : (.classLink RX11 28 RX6 : Cond) ∈ lw_gd := g_mem (List.mem_append_right _ (g_k2 (List.mem_of_getElem? (i := 41) rfl))) rfl
theorem tw_282 : (.instantiable RX6 4 : Cond) ∈ lw_gd := g_mem (List.mem_append_right _ (g_k2 (List.mem_of_getElem? (i := 42) rfl))) rfl
theorem tw_283 : (.methodLink RX11 30 yX6_init : Cond) ∈ lw_gd := g_mem (List.mem_append_right _ (g_k2 (List.mem_of_getElem? (i := 43) rfl))) rfl
theorem tw_286 : (.methodLink RX6 3 objectInit : Cond) ∈ lw_gd := g_mem (List.mem_append_right _ (g_k2 (List.mem_of_getElem? (i := 46) rfl))) rfl
theorem tw_287 : (.classLink RX6 9 RX10 : Cond) ∈ lw_gd := g_mem (List.mem_append_right _ (g_k2 (List.mem_of_getElem? (i := 47) rfl))) rfl
theorem tn_288 : (.methodLinkNest RX6 11 yX10_init "ManyOut" : Cond) ∈ lw_nw := g_nmem (g_k2 (List.mem_of_getElem? (i := 48) (by decide +kernel))) rfl
theorem tw_285 : (.code yX6_init cX6_init 1 none : Cond) ∈ lw_gd := g_mem (List.mem_append_right _ (g_k2 (List.mem_of_getElem? (i := 45) rfl))) rfl
theorem tw_284 : (.instanceMethod yX6_init : Cond) ∈ lw_gd := g_mem (List.mem_append_right _ (g_k2 (List.mem_of_getElem? (i := 44) rfl))) rfl
theorem tw_308 : (.classLink RX11 35 RX0 : Cond) ∈ lw_gd := g_mem (List.mem_append_right _ (g_k2 (List.mem_of_getElem? (i := 68) rfl))) rfl
theorem tw_309 : (.instantiable RX0 7 : Cond) ∈ lw_gd := g_mem (List.mem_append_right _ (g_k2 (List.mem_of_getElem? (i := 69) rfl))) rfl
theorem tn_310 : (.methodLinkNest RX11 37 yX0_init "ManyOut" : Cond) ∈ lw_nw := g_nmem (g_k2 (List.mem_of_getElem? (i := 70) (by decide +kernel))) rfl
theorem tw_313 : (.methodLink RX0 3 objectInit : Cond) ∈ lw_gd := g_mem (List.mem_append_right _ (g_k2 (List.mem_of_getElem? (i := 73) rfl))) rfl
theorem tw_312 : (.code yX0_init cX0_init 1 none : Cond) ∈ lw_gd := g_mem (List.mem_append_right _ (g_k2 (List.mem_of_getElem? (i := 72) rfl))) rfl
theorem tw_311 : (.instanceMethod yX0_init : Cond) ∈ lw_gd := g_mem (List.mem_append_right _ (g_k2 (List.mem_of_getElem? (i := 71) rfl))) rfl
theorem tw_339 : (.classLink RX11 42 RX3 : Cond) ∈ lw_gd := g_mem (List.mem_append_right _ (g_k2 (List.mem_of_getElem? (i := 99) rfl))) rfl
theorem tw_340 : (.instantiable RX3 10 : Cond) ∈ lw_gd := g_mem (List.mem_append_right _ (g_k2 (List.mem_of_getElem? (i := 100) rfl))) rfl
theorem tn_341 : (.methodLinkNest RX11 44 yX3_init "ManyOut" : Cond) ∈ lw_nw := g_nmem (g_k2 (List.mem_of_getElem? (i := 101) (by decide +kernel))) rfl
theorem tw_344 : (.methodLink RX3 3 objectInit : Cond) ∈ lw_gd := g_mem (List.mem_append_right _ (g_k2 (List.mem_of_getElem? (i := 104) rfl))) rfl
theorem tw_345 : (.classLink RX3 9 RX10 : Cond) ∈ lw_gd := g_mem (List.mem_append_right _ (g_k2 (List.mem_of_getElem? (i := 105) rfl))) rfl
theorem tn_346 : (.methodLinkNest RX3 11 yX10_init "ManyOut" : Cond) ∈ lw_nw := g_nmem (g_k2 (List.mem_of_getElem? (i := 106) (by decide +kernel))) rfl
theorem tw_343 : (.code yX3_init cX3_init 1 none : Cond) ∈ lw_gd := g_mem (List.mem_append_right _ (g_k2 (List.mem_of_getElem? (i := 103) rfl))) rfl
theorem tw_342 : (.instanceMethod yX3_init : Cond) ∈ lw_gd := g_mem (List.mem_append_right _ (g_k2 (List.mem_of_getElem? (i := 102) rfl))) rfl
theorem tw_381 : (.classLink RX11 66 RX1 : Cond) ∈ lw_gd := g_mem (List.mem_append_right _ (g_k2 (List.mem_of_getElem? (i := 141) rfl))) rfl
theorem tn_382 : (.methodLinkNest RX11 68 yX1_init "ManyOut" : Cond) ∈ lw_nw := g_nmem (g_k2 (List.mem_of_getElem? (i := 142) (by decide +kernel))) rfl
theorem tw_383 : (.classLink RX11 73 RX2 : Cond) ∈ lw_gd := g_mem (List.mem_append_right _ (g_k2 (List.mem_of_getElem? (i := 143) rfl))) rfl
theorem tw_384 : (.instantiable RX2 8 : Cond) ∈ lw_gd := g_mem (List.mem_append_right _ (g_k2 (List.mem_of_getElem? (i := 144) rfl))) rfl
theorem tn_385 : (.methodLinkNest RX11 75 yX2_init "ManyOut" : Cond) ∈ lw_nw := g_nmem (g_k2 (List.mem_of_getElem? (i := 145) (by decide +kernel))) rfl
theorem tw_388 : (.methodLink RX2 3 objectInit : Cond) ∈ lw_gd := g_mem (List.mem_append_right _ (g_k2 (List.mem_of_getElem? (i := 148) rfl))) rfl
theorem tw_389 : (.classLink RX2 9 RX8 : Cond) ∈ lw_gd := g_mem (List.mem_append_right _ (g_k2 (List.mem_of_getElem? (i := 149) rfl))) rfl
theorem tn_390 : (.methodLinkNest RX2 11 yX8_init "ManyOut" : Cond) ∈ lw_nw := g_nmem (g_k2 (List.mem_of_getElem? (i := 150) (by decide +kernel))) rfl
theorem tw_387 : (.code yX2_init cX2_init 1 none : Cond) ∈ lw_gd := g_mem (List.mem_append_right _ (g_k2 (List.mem_of_getElem? (i := 147) rfl))) rfl
theorem tw_386 : (.instanceMethod yX2_init : Cond) ∈ lw_gd := g_mem (List.mem_append_right _ (g_k2 (List.mem_of_getElem? (i := 146) rfl))) rfl
theorem tw_1400 : (.methodLink RX12 1 objectInit : Cond) ∈ lw_gd := g_mem (List.mem_append_right _ (g_k6 (List.mem_of_getElem? (i := 200) rfl))) rfl
theorem tw_1621 : (.arrayClass .char : Cond) ∈ lw_gd := g_mem (List.mem_append_right _ (g_k7 (List.mem_of_getElem? (i := 181) rfl))) rfl
theorem tw_463 : (.methodLink RL 13 yX11_feed : Cond) ∈ lw_gd := g_mem (List.mem_append_right _ (g_k2 (List.mem_of_getElem? (i := 223) rfl))) rfl
theorem tw_466 : (.code yX11_feed cX11_feed 6 (some .int) : Cond) ∈ lw_gd := g_mem (List.mem_append_right _ (g_k2 (List.mem_of_getElem? (i := 226) rfl))) rfl
theorem tw_464 : (.instanceMethod yX11_feed : Cond) ∈ lw_gd := g_mem (List.mem_append_right _ (g_k2 (List.mem_of_getElem? (i := 224) rfl))) rfl
theorem tw_465 : (.selects RX11 yX11_feed yX11_feed : Cond) ∈ lw_gd := g_mem (List.mem_append_right _ (g_k2 (List.mem_of_getElem? (i := 225) rfl))) rfl
theorem tw_1622 : (.methodLink RL 17 yX12_feed : Cond) ∈ lw_gd := g_mem (List.mem_append_right _ (g_k7 (List.mem_of_getElem? (i := 182) rfl))) rfl
theorem tw_1625 : (.code yX12_feed cX12_feed 8 (some .int) : Cond) ∈ lw_gd := g_mem (List.mem_append_right _ (g_k7 (List.mem_of_getElem? (i := 185) rfl))) rfl
theorem tw_1623 : (.instanceMethod yX12_feed : Cond) ∈ lw_gd := g_mem (List.mem_append_right _ (g_k7 (List.mem_of_getElem? (i := 183) rfl))) rfl
theorem tw_1624 : (.selects RX12 yX12_feed yX12_feed : Cond) ∈ lw_gd := g_mem (List.mem_append_right _ (g_k7 (List.mem_of_getElem? (i := 184) rfl))) rfl
theorem tw_479 : (.methodLink RL 18 yX11_end : Cond) ∈ lw_gd := g_mem (List.mem_append_right _ (g_k2 (List.mem_of_getElem? (i := 239) rfl))) rfl
theorem tw_482 : (.code yX11_end cX11_end 2 (some .boolean) : Cond) ∈ lw_gd := g_mem (List.mem_append_right _ (g_k3 (List.mem_of_getElem? (i := 2) rfl))) rfl
theorem tw_480 : (.instanceMethod yX11_end : Cond) ∈ lw_gd := g_mem (List.mem_append_right _ (g_k3 (List.mem_of_getElem? (i := 0) rfl))) rfl
theorem tw_481 : (.selects RX11 yX11_end yX11_end : Cond) ∈ lw_gd := g_mem (List.mem_append_right _ (g_k3 (List.mem_of_getElem? (i := 1) rfl))) rfl
theorem tw_1626 : (.methodLink RL 22 yX12_end : Cond) ∈ lw_gd := g_mem (List.mem_append_right _ (g_k7 (List.mem_of_getElem? (i := 186) rfl))) rfl
theorem tw_1629 : (.code yX12_end cX12_end 2 (some .boolean) : Cond) ∈ lw_gd := g_mem (List.mem_append_right _ (g_k7 (List.mem_of_getElem? (i := 189) rfl))) rfl
theorem tw_1627 : (.instanceMethod yX12_end : Cond) ∈ lw_gd := g_mem (List.mem_append_right _ (g_k7 (List.mem_of_getElem? (i := 187) rfl))) rfl
theorem tw_1628 : (.selects RX12 yX12_end yX12_end : Cond) ∈ lw_gd := g_mem (List.mem_append_right _ (g_k7 (List.mem_of_getElem? (i := 188) rfl))) rfl
theorem tw_487 : (.methodLink RL 23 yX11_house : Cond) ∈ lw_gd := g_mem (List.mem_append_right _ (g_k3 (List.mem_of_getElem? (i := 7) rfl))) rfl
theorem tw_490 : (.code yX11_house cX11_house 2 (some .int) : Cond) ∈ lw_gd := g_mem (List.mem_append_right _ (g_k3 (List.mem_of_getElem? (i := 10) rfl))) rfl
theorem tw_488 : (.instanceMethod yX11_house : Cond) ∈ lw_gd := g_mem (List.mem_append_right _ (g_k3 (List.mem_of_getElem? (i := 8) rfl))) rfl
theorem tw_489 : (.selects RX11 yX11_house yX11_house : Cond) ∈ lw_gd := g_mem (List.mem_append_right _ (g_k3 (List.mem_of_getElem? (i := 9) rfl))) rfl
theorem tw_1630 : (.methodLink RL 27 yX12_house : Cond) ∈ lw_gd := g_mem (List.mem_append_right _ (g_k7 (List.mem_of_getElem? (i := 190) rfl))) rfl
theorem tw_1633 : (.code yX12_house cX12_house 2 (some .int) : Cond) ∈ lw_gd := g_mem (List.mem_append_right _ (g_k7 (List.mem_of_getElem? (i := 193) rfl))) rfl
theorem tw_1631 : (.instanceMethod yX12_house : Cond) ∈ lw_gd := g_mem (List.mem_append_right _ (g_k7 (List.mem_of_getElem? (i := 191) rfl))) rfl
theorem tw_1632 : (.selects RX12 yX12_house yX12_house : Cond) ∈ lw_gd := g_mem (List.mem_append_right _ (g_k7 (List.mem_of_getElem? (i := 192) rfl))) rfl
theorem tw_763 : (.methodLink RL 28 yX11_fault : Cond) ∈ lw_gd := g_mem (List.mem_append_right _ (g_k4 (List.mem_of_getElem? (i := 43) rfl))) rfl
theorem tw_766 : (.code yX11_fault cX11_fault 2 (some .int) : Cond) ∈ lw_gd := g_mem (List.mem_append_right _ (g_k4 (List.mem_of_getElem? (i := 46) rfl))) rfl
theorem tw_764 : (.instanceMethod yX11_fault : Cond) ∈ lw_gd := g_mem (List.mem_append_right _ (g_k4 (List.mem_of_getElem? (i := 44) rfl))) rfl
theorem tw_765 : (.selects RX11 yX11_fault yX11_fault : Cond) ∈ lw_gd := g_mem (List.mem_append_right _ (g_k4 (List.mem_of_getElem? (i := 45) rfl))) rfl
theorem tw_1763 : (.methodLink RL 32 yX12_fault : Cond) ∈ lw_gd := g_mem (List.mem_append_right _ (g_k8 (List.mem_of_getElem? (i := 83) rfl))) rfl
theorem tw_1766 : (.code yX12_fault cX12_fault 2 (some .int) : Cond) ∈ lw_gd := g_mem (List.mem_append_right _ (g_k8 (List.mem_of_getElem? (i := 86) rfl))) rfl
theorem tw_1764 : (.instanceMethod yX12_fault : Cond) ∈ lw_gd := g_mem (List.mem_append_right _ (g_k8 (List.mem_of_getElem? (i := 84) rfl))) rfl
theorem tw_1765 : (.selects RX12 yX12_fault yX12_fault : Cond) ∈ lw_gd := g_mem (List.mem_append_right _ (g_k8 (List.mem_of_getElem? (i := 85) rfl))) rfl
theorem tw_767 : (.methodLink RL 33 yX11_has : Cond) ∈ lw_gd := g_mem (List.mem_append_right _ (g_k4 (List.mem_of_getElem? (i := 47) rfl))) rfl
theorem tw_770 : (.code yX11_has cX11_has 2 (some .int) : Cond) ∈ lw_gd := g_mem (List.mem_append_right _ (g_k4 (List.mem_of_getElem? (i := 50) rfl))) rfl
theorem tw_768 : (.instanceMethod yX11_has : Cond) ∈ lw_gd := g_mem (List.mem_append_right _ (g_k4 (List.mem_of_getElem? (i := 48) rfl))) rfl
theorem tw_769 : (.selects RX11 yX11_has yX11_has : Cond) ∈ lw_gd := g_mem (List.mem_append_right _ (g_k4 (List.mem_of_getElem? (i := 49) rfl))) rfl
theorem tw_1767 : (.methodLink RL 36 yX12_has : Cond) ∈ lw_gd := g_mem (List.mem_append_right _ (g_k8 (List.mem_of_getElem? (i := 87) rfl))) rfl
theorem tw_1770 : (.code yX12_has cX12_has 2 (some .int) : Cond) ∈ lw_gd := g_mem (List.mem_append_right _ (g_k8 (List.mem_of_getElem? (i := 90) rfl))) rfl
theorem tw_1768 : (.instanceMethod yX12_has : Cond) ∈ lw_gd := g_mem (List.mem_append_right _ (g_k8 (List.mem_of_getElem? (i := 88) rfl))) rfl
theorem tw_1769 : (.selects RX12 yX12_has yX12_has : Cond) ∈ lw_gd := g_mem (List.mem_append_right _ (g_k8 (List.mem_of_getElem? (i := 89) rfl))) rfl
theorem tw_771 : (.methodLink RL 37 yX11_table : Cond) ∈ lw_gd := g_mem (List.mem_append_right _ (g_k4 (List.mem_of_getElem? (i := 51) rfl))) rfl
theorem tw_774 : (.code yX11_table cX11_table 4 (some .int) : Cond) ∈ lw_gd := g_mem (List.mem_append_right _ (g_k4 (List.mem_of_getElem? (i := 54) rfl))) rfl
theorem tw_772 : (.instanceMethod yX11_table : Cond) ∈ lw_gd := g_mem (List.mem_append_right _ (g_k4 (List.mem_of_getElem? (i := 52) rfl))) rfl
theorem tw_773 : (.selects RX11 yX11_table yX11_table : Cond) ∈ lw_gd := g_mem (List.mem_append_right _ (g_k4 (List.mem_of_getElem? (i := 53) rfl))) rfl
theorem tw_1771 : (.methodLink RL 41 yX12_table : Cond) ∈ lw_gd := g_mem (List.mem_append_right _ (g_k8 (List.mem_of_getElem? (i := 91) rfl))) rfl
theorem tw_1774 : (.code yX12_table cX12_table 4 (some .int) : Cond) ∈ lw_gd := g_mem (List.mem_append_right _ (g_k8 (List.mem_of_getElem? (i := 94) rfl))) rfl
theorem tw_1772 : (.instanceMethod yX12_table : Cond) ∈ lw_gd := g_mem (List.mem_append_right _ (g_k8 (List.mem_of_getElem? (i := 92) rfl))) rfl
theorem tw_1773 : (.selects RX12 yX12_table yX12_table : Cond) ∈ lw_gd := g_mem (List.mem_append_right _ (g_k8 (List.mem_of_getElem? (i := 93) rfl))) rfl
theorem tw_792 : (.methodLink RL 42 yX11_product : Cond) ∈ lw_gd := g_mem (List.mem_append_right _ (g_k4 (List.mem_of_getElem? (i := 72) rfl))) rfl
theorem tw_795 : (.code yX11_product cX11_product 4 (some .int) : Cond) ∈ lw_gd := g_mem (List.mem_append_right _ (g_k4 (List.mem_of_getElem? (i := 75) rfl))) rfl
theorem tw_793 : (.instanceMethod yX11_product : Cond) ∈ lw_gd := g_mem (List.mem_append_right _ (g_k4 (List.mem_of_getElem? (i := 73) rfl))) rfl
theorem tw_794 : (.selects RX11 yX11_product yX11_product : Cond) ∈ lw_gd := g_mem (List.mem_append_right _ (g_k4 (List.mem_of_getElem? (i := 74) rfl))) rfl
theorem tw_1784 : (.methodLink RL 45 yX12_product : Cond) ∈ lw_gd := g_mem (List.mem_append_right _ (g_k8 (List.mem_of_getElem? (i := 104) rfl))) rfl
theorem tw_1787 : (.code yX12_product cX12_product 4 (some .int) : Cond) ∈ lw_gd := g_mem (List.mem_append_right _ (g_k8 (List.mem_of_getElem? (i := 107) rfl))) rfl
theorem tw_1785 : (.instanceMethod yX12_product : Cond) ∈ lw_gd := g_mem (List.mem_append_right _ (g_k8 (List.mem_of_getElem? (i := 105) rfl))) rfl
theorem tw_1786 : (.selects RX12 yX12_product yX12_product : Cond) ∈ lw_gd := g_mem (List.mem_append_right _ (g_k8 (List.mem_of_getElem? (i := 106) rfl))) rfl
theorem tw_801 : (.methodLink RL 46 yX11_hear : Cond) ∈ lw_gd := g_mem (List.mem_append_right _ (g_k4 (List.mem_of_getElem? (i := 81) rfl))) rfl
theorem tw_804 : (.code yX11_hear cX11_hear 2 (some .boolean) : Cond) ∈ lw_gd := g_mem (List.mem_append_right _ (g_k4 (List.mem_of_getElem? (i := 84) rfl))) rfl
theorem tw_802 : (.instanceMethod yX11_hear : Cond) ∈ lw_gd := g_mem (List.mem_append_right _ (g_k4 (List.mem_of_getElem? (i := 82) rfl))) rfl
theorem tw_803 : (.selects RX11 yX11_hear yX11_hear : Cond) ∈ lw_gd := g_mem (List.mem_append_right _ (g_k4 (List.mem_of_getElem? (i := 83) rfl))) rfl
theorem tw_1805 : (.methodLink RL 50 yX12_hear : Cond) ∈ lw_gd := g_mem (List.mem_append_right _ (g_k8 (List.mem_of_getElem? (i := 125) rfl))) rfl
theorem tw_1808 : (.code yX12_hear cX12_hear 4 (some .boolean) : Cond) ∈ lw_gd := g_mem (List.mem_append_right _ (g_k8 (List.mem_of_getElem? (i := 128) rfl))) rfl
theorem tw_1806 : (.instanceMethod yX12_hear : Cond) ∈ lw_gd := g_mem (List.mem_append_right _ (g_k8 (List.mem_of_getElem? (i := 126) rfl))) rfl
theorem tw_1807 : (.selects RX12 yX12_hear yX12_hear : Cond) ∈ lw_gd := g_mem (List.mem_append_right _ (g_k8 (List.mem_of_getElem? (i := 127) rfl))) rfl
theorem tw_814 : (.methodLink RL 51 yX11_heard : Cond) ∈ lw_gd := g_mem (List.mem_append_right _ (g_k4 (List.mem_of_getElem? (i := 94) rfl))) rfl
theorem tw_817 : (.code yX11_heard cX11_heard 2 (some .int) : Cond) ∈ lw_gd := g_mem (List.mem_append_right _ (g_k4 (List.mem_of_getElem? (i := 97) rfl))) rfl
theorem tw_815 : (.instanceMethod yX11_heard : Cond) ∈ lw_gd := g_mem (List.mem_append_right _ (g_k4 (List.mem_of_getElem? (i := 95) rfl))) rfl
theorem tw_816 : (.selects RX11 yX11_heard yX11_heard : Cond) ∈ lw_gd := g_mem (List.mem_append_right _ (g_k4 (List.mem_of_getElem? (i := 96) rfl))) rfl
theorem tw_1810 : (.methodLink RL 54 yX12_heard : Cond) ∈ lw_gd := g_mem (List.mem_append_right _ (g_k8 (List.mem_of_getElem? (i := 130) rfl))) rfl
theorem tw_1813 : (.code yX12_heard cX12_heard 2 (some .int) : Cond) ∈ lw_gd := g_mem (List.mem_append_right _ (g_k8 (List.mem_of_getElem? (i := 133) rfl))) rfl
theorem tw_1811 : (.instanceMethod yX12_heard : Cond) ∈ lw_gd := g_mem (List.mem_append_right _ (g_k8 (List.mem_of_getElem? (i := 131) rfl))) rfl
theorem tw_1812 : (.selects RX12 yX12_heard yX12_heard : Cond) ∈ lw_gd := g_mem (List.mem_append_right _ (g_k8 (List.mem_of_getElem? (i := 132) rfl))) rfl
theorem tw_818 : (.methodLink RL 55 yX11_send : Cond) ∈ lw_gd := g_mem (List.mem_append_right _ (g_k4 (List.mem_of_getElem? (i := 98) rfl))) rfl
theorem tw_821 : (.code yX11_send cX11_send 2 (some .boolean) : Cond) ∈ lw_gd := g_mem (List.mem_append_right _ (g_k4 (List.mem_of_getElem? (i := 101) rfl))) rfl
theorem tw_819 : (.instanceMethod yX11_send : Cond) ∈ lw_gd := g_mem (List.mem_append_right _ (g_k4 (List.mem_of_getElem? (i := 99) rfl))) rfl
theorem tw_820 : (.selects RX11 yX11_send yX11_send : Cond) ∈ lw_gd := g_mem (List.mem_append_right _ (g_k4 (List.mem_of_getElem? (i := 100) rfl))) rfl
theorem tw_1814 : (.methodLink RL 58 yX12_send : Cond) ∈ lw_gd := g_mem (List.mem_append_right _ (g_k8 (List.mem_of_getElem? (i := 134) rfl))) rfl
theorem tw_1817 : (.code yX12_send cX12_send 2 (some .boolean) : Cond) ∈ lw_gd := g_mem (List.mem_append_right _ (g_k8 (List.mem_of_getElem? (i := 137) rfl))) rfl
theorem tw_1815 : (.instanceMethod yX12_send : Cond) ∈ lw_gd := g_mem (List.mem_append_right _ (g_k8 (List.mem_of_getElem? (i := 135) rfl))) rfl
theorem tw_1816 : (.selects RX12 yX12_send yX12_send : Cond) ∈ lw_gd := g_mem (List.mem_append_right _ (g_k8 (List.mem_of_getElem? (i := 136) rfl))) rfl
theorem tw_835 : (.methodLink RL 59 yX11_distance : Cond) ∈ lw_gd := g_mem (List.mem_append_right _ (g_k4 (List.mem_of_getElem? (i := 115) rfl))) rfl
theorem tw_838 : (.code yX11_distance cX11_distance 1 (some .long) : Cond) ∈ lw_gd := g_mem (List.mem_append_right _ (g_k4 (List.mem_of_getElem? (i := 118) rfl))) rfl
theorem tw_836 : (.instanceMethod yX11_distance : Cond) ∈ lw_gd := g_mem (List.mem_append_right _ (g_k4 (List.mem_of_getElem? (i := 116) rfl))) rfl
theorem tw_837 : (.selects RX11 yX11_distance yX11_distance : Cond) ∈ lw_gd := g_mem (List.mem_append_right _ (g_k4 (List.mem_of_getElem? (i := 117) rfl))) rfl
theorem tw_1830 : (.methodLink RL 63 yX12_distance : Cond) ∈ lw_gd := g_mem (List.mem_append_right _ (g_k8 (List.mem_of_getElem? (i := 150) rfl))) rfl
theorem tw_1833 : (.code yX12_distance cX12_distance 1 (some .long) : Cond) ∈ lw_gd := g_mem (List.mem_append_right _ (g_k8 (List.mem_of_getElem? (i := 153) rfl))) rfl
theorem tw_1831 : (.instanceMethod yX12_distance : Cond) ∈ lw_gd := g_mem (List.mem_append_right _ (g_k8 (List.mem_of_getElem? (i := 151) rfl))) rfl
theorem tw_1832 : (.selects RX12 yX12_distance yX12_distance : Cond) ∈ lw_gd := g_mem (List.mem_append_right _ (g_k8 (List.mem_of_getElem? (i := 152) rfl))) rfl
theorem tw_845 : (.methodLink RL 64 yX11_slips : Cond) ∈ lw_gd := g_mem (List.mem_append_right _ (g_k4 (List.mem_of_getElem? (i := 125) rfl))) rfl
theorem tw_848 : (.code yX11_slips cX11_slips 10 (some .int) : Cond) ∈ lw_gd := g_mem (List.mem_append_right _ (g_k4 (List.mem_of_getElem? (i := 128) rfl))) rfl
theorem tw_846 : (.instanceMethod yX11_slips : Cond) ∈ lw_gd := g_mem (List.mem_append_right _ (g_k4 (List.mem_of_getElem? (i := 126) rfl))) rfl
theorem tw_847 : (.selects RX11 yX11_slips yX11_slips : Cond) ∈ lw_gd := g_mem (List.mem_append_right _ (g_k4 (List.mem_of_getElem? (i := 127) rfl))) rfl
theorem tw_1839 : (.methodLink RL 68 yX12_slips : Cond) ∈ lw_gd := g_mem (List.mem_append_right _ (g_k8 (List.mem_of_getElem? (i := 159) rfl))) rfl
theorem tw_1842 : (.code yX12_slips cX12_slips 5 (some .int) : Cond) ∈ lw_gd := g_mem (List.mem_append_right _ (g_k8 (List.mem_of_getElem? (i := 162) rfl))) rfl
theorem tw_1840 : (.instanceMethod yX12_slips : Cond) ∈ lw_gd := g_mem (List.mem_append_right _ (g_k8 (List.mem_of_getElem? (i := 160) rfl))) rfl
theorem tw_1841 : (.selects RX12 yX12_slips yX12_slips : Cond) ∈ lw_gd := g_mem (List.mem_append_right _ (g_k8 (List.mem_of_getElem? (i := 161) rfl))) rfl
theorem tw_862 : (.methodLink RL 69 yX11_nearest : Cond) ∈ lw_gd := g_mem (List.mem_append_right _ (g_k4 (List.mem_of_getElem? (i := 142) rfl))) rfl
theorem tw_865 : (.code yX11_nearest cX11_nearest 3 (some .int) : Cond) ∈ lw_gd := g_mem (List.mem_append_right _ (g_k4 (List.mem_of_getElem? (i := 145) rfl))) rfl
theorem tw_863 : (.instanceMethod yX11_nearest : Cond) ∈ lw_gd := g_mem (List.mem_append_right _ (g_k4 (List.mem_of_getElem? (i := 143) rfl))) rfl
theorem tw_864 : (.selects RX11 yX11_nearest yX11_nearest : Cond) ∈ lw_gd := g_mem (List.mem_append_right _ (g_k4 (List.mem_of_getElem? (i := 144) rfl))) rfl
theorem tw_1852 : (.methodLink RL 72 yX12_nearest : Cond) ∈ lw_gd := g_mem (List.mem_append_right _ (g_k8 (List.mem_of_getElem? (i := 172) rfl))) rfl
theorem tw_1855 : (.code yX12_nearest cX12_nearest 3 (some .int) : Cond) ∈ lw_gd := g_mem (List.mem_append_right _ (g_k8 (List.mem_of_getElem? (i := 175) rfl))) rfl
theorem tw_1853 : (.instanceMethod yX12_nearest : Cond) ∈ lw_gd := g_mem (List.mem_append_right _ (g_k8 (List.mem_of_getElem? (i := 173) rfl))) rfl
theorem tw_1854 : (.selects RX12 yX12_nearest yX12_nearest : Cond) ∈ lw_gd := g_mem (List.mem_append_right _ (g_k8 (List.mem_of_getElem? (i := 174) rfl))) rfl
theorem tw_953 : (.methodLink RL 73 yX11_near : Cond) ∈ lw_gd := g_mem (List.mem_append_right _ (g_k4 (List.mem_of_getElem? (i := 233) rfl))) rfl
theorem tw_956 : (.code yX11_near cX11_near 2 (some .long) : Cond) ∈ lw_gd := g_mem (List.mem_append_right _ (g_k4 (List.mem_of_getElem? (i := 236) rfl))) rfl
theorem tw_954 : (.instanceMethod yX11_near : Cond) ∈ lw_gd := g_mem (List.mem_append_right _ (g_k4 (List.mem_of_getElem? (i := 234) rfl))) rfl
theorem tw_955 : (.selects RX11 yX11_near yX11_near : Cond) ∈ lw_gd := g_mem (List.mem_append_right _ (g_k4 (List.mem_of_getElem? (i := 235) rfl))) rfl
theorem tw_1877 : (.methodLink RL 77 yX12_near : Cond) ∈ lw_gd := g_mem (List.mem_append_right _ (g_k8 (List.mem_of_getElem? (i := 197) rfl))) rfl
theorem tw_1880 : (.code yX12_near cX12_near 2 (some .long) : Cond) ∈ lw_gd := g_mem (List.mem_append_right _ (g_k8 (List.mem_of_getElem? (i := 200) rfl))) rfl
theorem tw_1878 : (.instanceMethod yX12_near : Cond) ∈ lw_gd := g_mem (List.mem_append_right _ (g_k8 (List.mem_of_getElem? (i := 198) rfl))) rfl
theorem tw_1879 : (.selects RX12 yX12_near yX12_near : Cond) ∈ lw_gd := g_mem (List.mem_append_right _ (g_k8 (List.mem_of_getElem? (i := 199) rfl))) rfl
theorem tw_2109 : (.constantLong RL 78 (4294967295) : Cond) ∈ lw_gd := g_mem (List.mem_append_right _ (g_k9 (List.mem_of_getElem? (i := 189) rfl))) rfl
theorem tw_957 : (.methodLink RL 80 yX11_within : Cond) ∈ lw_gd := g_mem (List.mem_append_right _ (g_k4 (List.mem_of_getElem? (i := 237) rfl))) rfl
theorem tw_960 : (.code yX11_within cX11_within 3 (some .int) : Cond) ∈ lw_gd := g_mem (List.mem_append_right _ (g_k5 (List.mem_of_getElem? (i := 0) rfl))) rfl
theorem tw_958 : (.instanceMethod yX11_within : Cond) ∈ lw_gd := g_mem (List.mem_append_right _ (g_k4 (List.mem_of_getElem? (i := 238) rfl))) rfl
theorem tw_959 : (.selects RX11 yX11_within yX11_within : Cond) ∈ lw_gd := g_mem (List.mem_append_right _ (g_k4 (List.mem_of_getElem? (i := 239) rfl))) rfl
theorem tw_1881 : (.methodLink RL 84 yX12_within : Cond) ∈ lw_gd := g_mem (List.mem_append_right _ (g_k8 (List.mem_of_getElem? (i := 201) rfl))) rfl
theorem tw_1884 : (.code yX12_within cX12_within 5 (some .int) : Cond) ∈ lw_gd := g_mem (List.mem_append_right _ (g_k8 (List.mem_of_getElem? (i := 204) rfl))) rfl
theorem tw_1882 : (.instanceMethod yX12_within : Cond) ∈ lw_gd := g_mem (List.mem_append_right _ (g_k8 (List.mem_of_getElem? (i := 202) rfl))) rfl
theorem tw_1883 : (.selects RX12 yX12_within yX12_within : Cond) ∈ lw_gd := g_mem (List.mem_append_right _ (g_k8 (List.mem_of_getElem? (i := 203) rfl))) rfl
theorem tw_969 : (.methodLink RL 85 yX11_cancel : Cond) ∈ lw_gd := g_mem (List.mem_append_right _ (g_k5 (List.mem_of_getElem? (i := 9) rfl))) rfl
theorem tw_972 : (.code yX11_cancel cX11_cancel 2 (some .int) : Cond) ∈ lw_gd := g_mem (List.mem_append_right _ (g_k5 (List.mem_of_getElem? (i := 12) rfl))) rfl
theorem tw_970 : (.instanceMethod yX11_cancel : Cond) ∈ lw_gd := g_mem (List.mem_append_right _ (g_k5 (List.mem_of_getElem? (i := 10) rfl))) rfl
theorem tw_971 : (.selects RX11 yX11_cancel yX11_cancel : Cond) ∈ lw_gd := g_mem (List.mem_append_right _ (g_k5 (List.mem_of_getElem? (i := 11) rfl))) rfl
theorem tw_1885 : (.methodLink RL 88 yX12_cancel : Cond) ∈ lw_gd := g_mem (List.mem_append_right _ (g_k8 (List.mem_of_getElem? (i := 205) rfl))) rfl
theorem tw_1888 : (.code yX12_cancel cX12_cancel 2 (some .int) : Cond) ∈ lw_gd := g_mem (List.mem_append_right _ (g_k8 (List.mem_of_getElem? (i := 208) rfl))) rfl
theorem tw_1886 : (.instanceMethod yX12_cancel : Cond) ∈ lw_gd := g_mem (List.mem_append_right _ (g_k8 (List.mem_of_getElem? (i := 206) rfl))) rfl
theorem tw_1887 : (.selects RX12 yX12_cancel yX12_cancel : Cond) ∈ lw_gd := g_mem (List.mem_append_right _ (g_k8 (List.mem_of_getElem? (i := 207) rfl))) rfl
theorem tw_993 : (.methodLink RL 89 yX11_order : Cond) ∈ lw_gd := g_mem (List.mem_append_right _ (g_k5 (List.mem_of_getElem? (i := 33) rfl))) rfl
theorem tw_996 : (.code yX11_order cX11_order 2 (some .int) : Cond) ∈ lw_gd := g_mem (List.mem_append_right _ (g_k5 (List.mem_of_getElem? (i := 36) rfl))) rfl
theorem tw_994 : (.instanceMethod yX11_order : Cond) ∈ lw_gd := g_mem (List.mem_append_right _ (g_k5 (List.mem_of_getElem? (i := 34) rfl))) rfl
theorem tw_995 : (.selects RX11 yX11_order yX11_order : Cond) ∈ lw_gd := g_mem (List.mem_append_right _ (g_k5 (List.mem_of_getElem? (i := 35) rfl))) rfl
theorem tw_1901 : (.methodLink RL 92 yX12_order : Cond) ∈ lw_gd := g_mem (List.mem_append_right _ (g_k8 (List.mem_of_getElem? (i := 221) rfl))) rfl
theorem tw_1904 : (.code yX12_order cX12_order 2 (some .int) : Cond) ∈ lw_gd := g_mem (List.mem_append_right _ (g_k8 (List.mem_of_getElem? (i := 224) rfl))) rfl
theorem tw_1902 : (.instanceMethod yX12_order : Cond) ∈ lw_gd := g_mem (List.mem_append_right _ (g_k8 (List.mem_of_getElem? (i := 222) rfl))) rfl
theorem tw_1903 : (.selects RX12 yX12_order yX12_order : Cond) ∈ lw_gd := g_mem (List.mem_append_right _ (g_k8 (List.mem_of_getElem? (i := 223) rfl))) rfl
theorem tw_997 : (.methodLink RL 93 yX11_left : Cond) ∈ lw_gd := g_mem (List.mem_append_right _ (g_k5 (List.mem_of_getElem? (i := 37) rfl))) rfl
theorem tw_1000 : (.code yX11_left cX11_left 1 (some .long) : Cond) ∈ lw_gd := g_mem (List.mem_append_right _ (g_k5 (List.mem_of_getElem? (i := 40) rfl))) rfl
theorem tw_998 : (.instanceMethod yX11_left : Cond) ∈ lw_gd := g_mem (List.mem_append_right _ (g_k5 (List.mem_of_getElem? (i := 38) rfl))) rfl
theorem tw_999 : (.selects RX11 yX11_left yX11_left : Cond) ∈ lw_gd := g_mem (List.mem_append_right _ (g_k5 (List.mem_of_getElem? (i := 39) rfl))) rfl
theorem tw_1905 : (.methodLink RL 96 yX12_left : Cond) ∈ lw_gd := g_mem (List.mem_append_right _ (g_k8 (List.mem_of_getElem? (i := 225) rfl))) rfl
theorem tw_1908 : (.code yX12_left cX12_left 4 (some .long) : Cond) ∈ lw_gd := g_mem (List.mem_append_right _ (g_k8 (List.mem_of_getElem? (i := 228) rfl))) rfl
theorem tw_1906 : (.instanceMethod yX12_left : Cond) ∈ lw_gd := g_mem (List.mem_append_right _ (g_k8 (List.mem_of_getElem? (i := 226) rfl))) rfl
theorem tw_1907 : (.selects RX12 yX12_left yX12_left : Cond) ∈ lw_gd := g_mem (List.mem_append_right _ (g_k8 (List.mem_of_getElem? (i := 227) rfl))) rfl
theorem tw_1001 : (.methodLink RL 97 yX11_least : Cond) ∈ lw_gd := g_mem (List.mem_append_right _ (g_k5 (List.mem_of_getElem? (i := 41) rfl))) rfl
theorem tw_1004 : (.code yX11_least cX11_least 3 (some .long) : Cond) ∈ lw_gd := g_mem (List.mem_append_right _ (g_k5 (List.mem_of_getElem? (i := 44) rfl))) rfl
theorem tw_1002 : (.instanceMethod yX11_least : Cond) ∈ lw_gd := g_mem (List.mem_append_right _ (g_k5 (List.mem_of_getElem? (i := 42) rfl))) rfl
theorem tw_1003 : (.selects RX11 yX11_least yX11_least : Cond) ∈ lw_gd := g_mem (List.mem_append_right _ (g_k5 (List.mem_of_getElem? (i := 43) rfl))) rfl
theorem tw_1909 : (.methodLink RL 101 yX12_least : Cond) ∈ lw_gd := g_mem (List.mem_append_right _ (g_k8 (List.mem_of_getElem? (i := 229) rfl))) rfl
theorem tw_1912 : (.code yX12_least cX12_least 8 (some .long) : Cond) ∈ lw_gd := g_mem (List.mem_append_right _ (g_k8 (List.mem_of_getElem? (i := 232) rfl))) rfl
theorem tw_1910 : (.instanceMethod yX12_least : Cond) ∈ lw_gd := g_mem (List.mem_append_right _ (g_k8 (List.mem_of_getElem? (i := 230) rfl))) rfl
theorem tw_1911 : (.selects RX12 yX12_least yX12_least : Cond) ∈ lw_gd := g_mem (List.mem_append_right _ (g_k8 (List.mem_of_getElem? (i := 231) rfl))) rfl
theorem tw_1013 : (.methodLink RL 102 yX11_share : Cond) ∈ lw_gd := g_mem (List.mem_append_right _ (g_k5 (List.mem_of_getElem? (i := 53) rfl))) rfl
theorem tw_1016 : (.code yX11_share cX11_share 3 (some .int) : Cond) ∈ lw_gd := g_mem (List.mem_append_right _ (g_k5 (List.mem_of_getElem? (i := 56) rfl))) rfl
theorem tw_1014 : (.instanceMethod yX11_share : Cond) ∈ lw_gd := g_mem (List.mem_append_right _ (g_k5 (List.mem_of_getElem? (i := 54) rfl))) rfl
theorem tw_1015 : (.selects RX11 yX11_share yX11_share : Cond) ∈ lw_gd := g_mem (List.mem_append_right _ (g_k5 (List.mem_of_getElem? (i := 55) rfl))) rfl
theorem tw_1913 : (.methodLink RL 105 yX12_share : Cond) ∈ lw_gd := g_mem (List.mem_append_right _ (g_k8 (List.mem_of_getElem? (i := 233) rfl))) rfl
theorem tw_1916 : (.code yX12_share cX12_share 10 (some .int) : Cond) ∈ lw_gd := g_mem (List.mem_append_right _ (g_k8 (List.mem_of_getElem? (i := 236) rfl))) rfl
theorem tw_1914 : (.instanceMethod yX12_share : Cond) ∈ lw_gd := g_mem (List.mem_append_right _ (g_k8 (List.mem_of_getElem? (i := 234) rfl))) rfl
theorem tw_1915 : (.selects RX12 yX12_share yX12_share : Cond) ∈ lw_gd := g_mem (List.mem_append_right _ (g_k8 (List.mem_of_getElem? (i := 235) rfl))) rfl
theorem tw_1022 : (.methodLink RL 106 yX11_sure : Cond) ∈ lw_gd := g_mem (List.mem_append_right _ (g_k5 (List.mem_of_getElem? (i := 62) rfl))) rfl
theorem tw_1025 : (.code yX11_sure cX11_sure 3 (some .long) : Cond) ∈ lw_gd := g_mem (List.mem_append_right _ (g_k5 (List.mem_of_getElem? (i := 65) rfl))) rfl
theorem tw_1023 : (.instanceMethod yX11_sure : Cond) ∈ lw_gd := g_mem (List.mem_append_right _ (g_k5 (List.mem_of_getElem? (i := 63) rfl))) rfl
theorem tw_1024 : (.selects RX11 yX11_sure yX11_sure : Cond) ∈ lw_gd := g_mem (List.mem_append_right _ (g_k5 (List.mem_of_getElem? (i := 64) rfl))) rfl
theorem tw_1918 : (.methodLink RL 109 yX12_sure : Cond) ∈ lw_gd := g_mem (List.mem_append_right _ (g_k8 (List.mem_of_getElem? (i := 238) rfl))) rfl
theorem tw_1921 : (.code yX12_sure cX12_sure 11 (some .long) : Cond) ∈ lw_gd := g_mem (List.mem_append_right _ (g_k9 (List.mem_of_getElem? (i := 1) rfl))) rfl
theorem tw_1919 : (.instanceMethod yX12_sure : Cond) ∈ lw_gd := g_mem (List.mem_append_right _ (g_k8 (List.mem_of_getElem? (i := 239) rfl))) rfl
theorem tw_1920 : (.selects RX12 yX12_sure yX12_sure : Cond) ∈ lw_gd := g_mem (List.mem_append_right _ (g_k9 (List.mem_of_getElem? (i := 0) rfl))) rfl
theorem tw_1032 : (.methodLink RL 110 yX11_lead : Cond) ∈ lw_gd := g_mem (List.mem_append_right _ (g_k5 (List.mem_of_getElem? (i := 72) rfl))) rfl
theorem tw_1035 : (.code yX11_lead cX11_lead 2 (some .int) : Cond) ∈ lw_gd := g_mem (List.mem_append_right _ (g_k5 (List.mem_of_getElem? (i := 75) rfl))) rfl
theorem tw_1033 : (.instanceMethod yX11_lead : Cond) ∈ lw_gd := g_mem (List.mem_append_right _ (g_k5 (List.mem_of_getElem? (i := 73) rfl))) rfl
theorem tw_1034 : (.selects RX11 yX11_lead yX11_lead : Cond) ∈ lw_gd := g_mem (List.mem_append_right _ (g_k5 (List.mem_of_getElem? (i := 74) rfl))) rfl
theorem tw_1922 : (.methodLink RL 113 yX12_lead : Cond) ∈ lw_gd := g_mem (List.mem_append_right _ (g_k9 (List.mem_of_getElem? (i := 2) rfl))) rfl
theorem tw_1925 : (.code yX12_lead cX12_lead 3 (some .int) : Cond) ∈ lw_gd := g_mem (List.mem_append_right _ (g_k9 (List.mem_of_getElem? (i := 5) rfl))) rfl
theorem tw_1923 : (.instanceMethod yX12_lead : Cond) ∈ lw_gd := g_mem (List.mem_append_right _ (g_k9 (List.mem_of_getElem? (i := 3) rfl))) rfl
theorem tw_1924 : (.selects RX12 yX12_lead yX12_lead : Cond) ∈ lw_gd := g_mem (List.mem_append_right _ (g_k9 (List.mem_of_getElem? (i := 4) rfl))) rfl
theorem tw_1067 : (.methodLink RL 114 yX11_undo : Cond) ∈ lw_gd := g_mem (List.mem_append_right _ (g_k5 (List.mem_of_getElem? (i := 107) rfl))) rfl
theorem tw_1070 : (.code yX11_undo cX11_undo 1 (some .boolean) : Cond) ∈ lw_gd := g_mem (List.mem_append_right _ (g_k5 (List.mem_of_getElem? (i := 110) rfl))) rfl
theorem tw_1068 : (.instanceMethod yX11_undo : Cond) ∈ lw_gd := g_mem (List.mem_append_right _ (g_k5 (List.mem_of_getElem? (i := 108) rfl))) rfl
theorem tw_1069 : (.selects RX11 yX11_undo yX11_undo : Cond) ∈ lw_gd := g_mem (List.mem_append_right _ (g_k5 (List.mem_of_getElem? (i := 109) rfl))) rfl
theorem tw_1939 : (.methodLink RL 117 yX12_undo : Cond) ∈ lw_gd := g_mem (List.mem_append_right _ (g_k9 (List.mem_of_getElem? (i := 19) rfl))) rfl
theorem tw_1942 : (.code yX12_undo cX12_undo 1 (some .boolean) : Cond) ∈ lw_gd := g_mem (List.mem_append_right _ (g_k9 (List.mem_of_getElem? (i := 22) rfl))) rfl
theorem tw_1940 : (.instanceMethod yX12_undo : Cond) ∈ lw_gd := g_mem (List.mem_append_right _ (g_k9 (List.mem_of_getElem? (i := 20) rfl))) rfl
theorem tw_1941 : (.selects RX12 yX12_undo yX12_undo : Cond) ∈ lw_gd := g_mem (List.mem_append_right _ (g_k9 (List.mem_of_getElem? (i := 21) rfl))) rfl
theorem tw_1075 : (.methodLink RL 118 yX11_redo : Cond) ∈ lw_gd := g_mem (List.mem_append_right _ (g_k5 (List.mem_of_getElem? (i := 115) rfl))) rfl
theorem tw_1078 : (.code yX11_redo cX11_redo 1 (some .boolean) : Cond) ∈ lw_gd := g_mem (List.mem_append_right _ (g_k5 (List.mem_of_getElem? (i := 118) rfl))) rfl
theorem tw_1076 : (.instanceMethod yX11_redo : Cond) ∈ lw_gd := g_mem (List.mem_append_right _ (g_k5 (List.mem_of_getElem? (i := 116) rfl))) rfl
theorem tw_1077 : (.selects RX11 yX11_redo yX11_redo : Cond) ∈ lw_gd := g_mem (List.mem_append_right _ (g_k5 (List.mem_of_getElem? (i := 117) rfl))) rfl
theorem tw_1943 : (.methodLink RL 121 yX12_redo : Cond) ∈ lw_gd := g_mem (List.mem_append_right _ (g_k9 (List.mem_of_getElem? (i := 23) rfl))) rfl
theorem tw_1946 : (.code yX12_redo cX12_redo 1 (some .boolean) : Cond) ∈ lw_gd := g_mem (List.mem_append_right _ (g_k9 (List.mem_of_getElem? (i := 26) rfl))) rfl
theorem tw_1944 : (.instanceMethod yX12_redo : Cond) ∈ lw_gd := g_mem (List.mem_append_right _ (g_k9 (List.mem_of_getElem? (i := 24) rfl))) rfl
theorem tw_1945 : (.selects RX12 yX12_redo yX12_redo : Cond) ∈ lw_gd := g_mem (List.mem_append_right _ (g_k9 (List.mem_of_getElem? (i := 25) rfl))) rfl
theorem tw_1083 : (.methodLink RL 122 yX11_leader : Cond) ∈ lw_gd := g_mem (List.mem_append_right _ (g_k5 (List.mem_of_getElem? (i := 123) rfl))) rfl
theorem tw_1086 : (.code yX11_leader cX11_leader 3 (some .long) : Cond) ∈ lw_gd := g_mem (List.mem_append_right _ (g_k5 (List.mem_of_getElem? (i := 126) rfl))) rfl
theorem tw_1084 : (.instanceMethod yX11_leader : Cond) ∈ lw_gd := g_mem (List.mem_append_right _ (g_k5 (List.mem_of_getElem? (i := 124) rfl))) rfl
theorem tw_1085 : (.selects RX11 yX11_leader yX11_leader : Cond) ∈ lw_gd := g_mem (List.mem_append_right _ (g_k5 (List.mem_of_getElem? (i := 125) rfl))) rfl
theorem tw_1951 : (.methodLink RL 125 yX12_leader : Cond) ∈ lw_gd := g_mem (List.mem_append_right _ (g_k9 (List.mem_of_getElem? (i := 31) rfl))) rfl
theorem tw_1954 : (.code yX12_leader cX12_leader 3 (some .long) : Cond) ∈ lw_gd := g_mem (List.mem_append_right _ (g_k9 (List.mem_of_getElem? (i := 34) rfl))) rfl
theorem tw_1952 : (.instanceMethod yX12_leader : Cond) ∈ lw_gd := g_mem (List.mem_append_right _ (g_k9 (List.mem_of_getElem? (i := 32) rfl))) rfl
theorem tw_1953 : (.selects RX12 yX12_leader yX12_leader : Cond) ∈ lw_gd := g_mem (List.mem_append_right _ (g_k9 (List.mem_of_getElem? (i := 33) rfl))) rfl
theorem tw_1092 : (.methodLink RL 126 yX11_step : Cond) ∈ lw_gd := g_mem (List.mem_append_right _ (g_k5 (List.mem_of_getElem? (i := 132) rfl))) rfl
theorem tw_1095 : (.code yX11_step cX11_step 3 (some .int) : Cond) ∈ lw_gd := g_mem (List.mem_append_right _ (g_k5 (List.mem_of_getElem? (i := 135) rfl))) rfl
theorem tw_1093 : (.instanceMethod yX11_step : Cond) ∈ lw_gd := g_mem (List.mem_append_right _ (g_k5 (List.mem_of_getElem? (i := 133) rfl))) rfl
theorem tw_1094 : (.selects RX11 yX11_step yX11_step : Cond) ∈ lw_gd := g_mem (List.mem_append_right _ (g_k5 (List.mem_of_getElem? (i := 134) rfl))) rfl
theorem tw_1947 : (.methodLink RL 129 yX12_step : Cond) ∈ lw_gd := g_mem (List.mem_append_right _ (g_k9 (List.mem_of_getElem? (i := 27) rfl))) rfl
theorem tw_1950 : (.code yX12_step cX12_step 4 (some .int) : Cond) ∈ lw_gd := g_mem (List.mem_append_right _ (g_k9 (List.mem_of_getElem? (i := 30) rfl))) rfl
theorem tw_1948 : (.instanceMethod yX12_step : Cond) ∈ lw_gd := g_mem (List.mem_append_right _ (g_k9 (List.mem_of_getElem? (i := 28) rfl))) rfl
theorem tw_1949 : (.selects RX12 yX12_step yX12_step : Cond) ∈ lw_gd := g_mem (List.mem_append_right _ (g_k9 (List.mem_of_getElem? (i := 29) rfl))) rfl
theorem tw_1100 : (.methodLink RL 130 yX11_clash : Cond) ∈ lw_gd := g_mem (List.mem_append_right _ (g_k5 (List.mem_of_getElem? (i := 140) rfl))) rfl
theorem tw_1103 : (.code yX11_clash cX11_clash 4 (some .int) : Cond) ∈ lw_gd := g_mem (List.mem_append_right _ (g_k5 (List.mem_of_getElem? (i := 143) rfl))) rfl
theorem tw_1101 : (.instanceMethod yX11_clash : Cond) ∈ lw_gd := g_mem (List.mem_append_right _ (g_k5 (List.mem_of_getElem? (i := 141) rfl))) rfl
theorem tw_1102 : (.selects RX11 yX11_clash yX11_clash : Cond) ∈ lw_gd := g_mem (List.mem_append_right _ (g_k5 (List.mem_of_getElem? (i := 142) rfl))) rfl
theorem tw_1792 : (.methodLink RL 133 yX12_clash : Cond) ∈ lw_gd := g_mem (List.mem_append_right _ (g_k8 (List.mem_of_getElem? (i := 112) rfl))) rfl
theorem tw_1795 : (.code yX12_clash cX12_clash 4 (some .int) : Cond) ∈ lw_gd := g_mem (List.mem_append_right _ (g_k8 (List.mem_of_getElem? (i := 115) rfl))) rfl
theorem tw_1793 : (.instanceMethod yX12_clash : Cond) ∈ lw_gd := g_mem (List.mem_append_right _ (g_k8 (List.mem_of_getElem? (i := 113) rfl))) rfl
theorem tw_1794 : (.selects RX12 yX12_clash yX12_clash : Cond) ∈ lw_gd := g_mem (List.mem_append_right _ (g_k8 (List.mem_of_getElem? (i := 114) rfl))) rfl
theorem tw_1110 : (.methodLink RL 134 yX11_worst : Cond) ∈ lw_gd := g_mem (List.mem_append_right _ (g_k5 (List.mem_of_getElem? (i := 150) rfl))) rfl
theorem tw_1113 : (.code yX11_worst cX11_worst 2 (some .int) : Cond) ∈ lw_gd := g_mem (List.mem_append_right _ (g_k5 (List.mem_of_getElem? (i := 153) rfl))) rfl
theorem tw_1111 : (.instanceMethod yX11_worst : Cond) ∈ lw_gd := g_mem (List.mem_append_right _ (g_k5 (List.mem_of_getElem? (i := 151) rfl))) rfl
theorem tw_1112 : (.selects RX11 yX11_worst yX11_worst : Cond) ∈ lw_gd := g_mem (List.mem_append_right _ (g_k5 (List.mem_of_getElem? (i := 152) rfl))) rfl
theorem tw_1801 : (.methodLink RL 138 yX12_worst : Cond) ∈ lw_gd := g_mem (List.mem_append_right _ (g_k8 (List.mem_of_getElem? (i := 121) rfl))) rfl
theorem tw_1804 : (.code yX12_worst cX12_worst 7 (some .int) : Cond) ∈ lw_gd := g_mem (List.mem_append_right _ (g_k8 (List.mem_of_getElem? (i := 124) rfl))) rfl
theorem tw_1802 : (.instanceMethod yX12_worst : Cond) ∈ lw_gd := g_mem (List.mem_append_right _ (g_k8 (List.mem_of_getElem? (i := 122) rfl))) rfl
theorem tw_1803 : (.selects RX12 yX12_worst yX12_worst : Cond) ∈ lw_gd := g_mem (List.mem_append_right _ (g_k8 (List.mem_of_getElem? (i := 123) rfl))) rfl
theorem tw_1119 : (.methodLink RL 139 yX11_squares : Cond) ∈ lw_gd := g_mem (List.mem_append_right _ (g_k5 (List.mem_of_getElem? (i := 159) rfl))) rfl
theorem tw_1122 : (.code yX11_squares cX11_squares 2 (some .long) : Cond) ∈ lw_gd := g_mem (List.mem_append_right _ (g_k5 (List.mem_of_getElem? (i := 162) rfl))) rfl
theorem tw_1120 : (.instanceMethod yX11_squares : Cond) ∈ lw_gd := g_mem (List.mem_append_right _ (g_k5 (List.mem_of_getElem? (i := 160) rfl))) rfl
theorem tw_1121 : (.selects RX11 yX11_squares yX11_squares : Cond) ∈ lw_gd := g_mem (List.mem_append_right _ (g_k5 (List.mem_of_getElem? (i := 161) rfl))) rfl
theorem tw_1956 : (.methodLink RL 143 yX12_squares : Cond) ∈ lw_gd := g_mem (List.mem_append_right _ (g_k9 (List.mem_of_getElem? (i := 36) rfl))) rfl
theorem tw_1959 : (.code yX12_squares cX12_squares 5 (some .long) : Cond) ∈ lw_gd := g_mem (List.mem_append_right _ (g_k9 (List.mem_of_getElem? (i := 39) rfl))) rfl
theorem tw_1957 : (.instanceMethod yX12_squares : Cond) ∈ lw_gd := g_mem (List.mem_append_right _ (g_k9 (List.mem_of_getElem? (i := 37) rfl))) rfl
theorem tw_1958 : (.selects RX12 yX12_squares yX12_squares : Cond) ∈ lw_gd := g_mem (List.mem_append_right _ (g_k9 (List.mem_of_getElem? (i := 38) rfl))) rfl
theorem tw_1127 : (.methodLink RL 144 yX11_sums : Cond) ∈ lw_gd := g_mem (List.mem_append_right _ (g_k5 (List.mem_of_getElem? (i := 167) rfl))) rfl
theorem tw_1130 : (.code yX11_sums cX11_sums 4 (some .long) : Cond) ∈ lw_gd := g_mem (List.mem_append_right _ (g_k5 (List.mem_of_getElem? (i := 170) rfl))) rfl
theorem tw_1128 : (.instanceMethod yX11_sums : Cond) ∈ lw_gd := g_mem (List.mem_append_right _ (g_k5 (List.mem_of_getElem? (i := 168) rfl))) rfl
theorem tw_1129 : (.selects RX11 yX11_sums yX11_sums : Cond) ∈ lw_gd := g_mem (List.mem_append_right _ (g_k5 (List.mem_of_getElem? (i := 169) rfl))) rfl
theorem tw_1960 : (.methodLink RL 148 yX12_sums : Cond) ∈ lw_gd := g_mem (List.mem_append_right _ (g_k9 (List.mem_of_getElem? (i := 40) rfl))) rfl
theorem tw_1963 : (.code yX12_sums cX12_sums 4 (some .long) : Cond) ∈ lw_gd := g_mem (List.mem_append_right _ (g_k9 (List.mem_of_getElem? (i := 43) rfl))) rfl
theorem tw_1961 : (.instanceMethod yX12_sums : Cond) ∈ lw_gd := g_mem (List.mem_append_right _ (g_k9 (List.mem_of_getElem? (i := 41) rfl))) rfl
theorem tw_1962 : (.selects RX12 yX12_sums yX12_sums : Cond) ∈ lw_gd := g_mem (List.mem_append_right _ (g_k9 (List.mem_of_getElem? (i := 42) rfl))) rfl
theorem tw_1160 : (.methodLink RL 149 yX11_apart : Cond) ∈ lw_gd := g_mem (List.mem_append_right _ (g_k5 (List.mem_of_getElem? (i := 200) rfl))) rfl
theorem tw_1163 : (.code yX11_apart cX11_apart 2 (some .long) : Cond) ∈ lw_gd := g_mem (List.mem_append_right _ (g_k5 (List.mem_of_getElem? (i := 203) rfl))) rfl
theorem tw_1161 : (.instanceMethod yX11_apart : Cond) ∈ lw_gd := g_mem (List.mem_append_right _ (g_k5 (List.mem_of_getElem? (i := 201) rfl))) rfl
theorem tw_1162 : (.selects RX11 yX11_apart yX11_apart : Cond) ∈ lw_gd := g_mem (List.mem_append_right _ (g_k5 (List.mem_of_getElem? (i := 202) rfl))) rfl
theorem tw_1976 : (.methodLink RL 152 yX12_apart : Cond) ∈ lw_gd := g_mem (List.mem_append_right _ (g_k9 (List.mem_of_getElem? (i := 56) rfl))) rfl
theorem tw_1979 : (.code yX12_apart cX12_apart 2 (some .long) : Cond) ∈ lw_gd := g_mem (List.mem_append_right _ (g_k9 (List.mem_of_getElem? (i := 59) rfl))) rfl
theorem tw_1977 : (.instanceMethod yX12_apart : Cond) ∈ lw_gd := g_mem (List.mem_append_right _ (g_k9 (List.mem_of_getElem? (i := 57) rfl))) rfl
theorem tw_1978 : (.selects RX12 yX12_apart yX12_apart : Cond) ∈ lw_gd := g_mem (List.mem_append_right _ (g_k9 (List.mem_of_getElem? (i := 58) rfl))) rfl
theorem tw_1170 : (.methodLink RL 153 yX11_word : Cond) ∈ lw_gd := g_mem (List.mem_append_right _ (g_k5 (List.mem_of_getElem? (i := 210) rfl))) rfl
theorem tw_1173 : (.code yX11_word cX11_word 3 (some .int) : Cond) ∈ lw_gd := g_mem (List.mem_append_right _ (g_k5 (List.mem_of_getElem? (i := 213) rfl))) rfl
theorem tw_1171 : (.instanceMethod yX11_word : Cond) ∈ lw_gd := g_mem (List.mem_append_right _ (g_k5 (List.mem_of_getElem? (i := 211) rfl))) rfl
theorem tw_1172 : (.selects RX11 yX11_word yX11_word : Cond) ∈ lw_gd := g_mem (List.mem_append_right _ (g_k5 (List.mem_of_getElem? (i := 212) rfl))) rfl
theorem tw_1980 : (.methodLink RL 156 yX12_word : Cond) ∈ lw_gd := g_mem (List.mem_append_right _ (g_k9 (List.mem_of_getElem? (i := 60) rfl))) rfl
theorem tw_1983 : (.code yX12_word cX12_word 3 (some .int) : Cond) ∈ lw_gd := g_mem (List.mem_append_right _ (g_k9 (List.mem_of_getElem? (i := 63) rfl))) rfl
theorem tw_1981 : (.instanceMethod yX12_word : Cond) ∈ lw_gd := g_mem (List.mem_append_right _ (g_k9 (List.mem_of_getElem? (i := 61) rfl))) rfl
theorem tw_1982 : (.selects RX12 yX12_word yX12_word : Cond) ∈ lw_gd := g_mem (List.mem_append_right _ (g_k9 (List.mem_of_getElem? (i := 62) rfl))) rfl
theorem tw_1182 : (.methodLink RL 157 yX11_code : Cond) ∈ lw_gd := g_mem (List.mem_append_right _ (g_k5 (List.mem_of_getElem? (i := 222) rfl))) rfl
theorem tw_1185 : (.code yX11_code cX11_code 2 (some .long) : Cond) ∈ lw_gd := g_mem (List.mem_append_right _ (g_k5 (List.mem_of_getElem? (i := 225) rfl))) rfl
theorem tw_1183 : (.instanceMethod yX11_code : Cond) ∈ lw_gd := g_mem (List.mem_append_right _ (g_k5 (List.mem_of_getElem? (i := 223) rfl))) rfl
theorem tw_1184 : (.selects RX11 yX11_code yX11_code : Cond) ∈ lw_gd := g_mem (List.mem_append_right _ (g_k5 (List.mem_of_getElem? (i := 224) rfl))) rfl
theorem tw_1984 : (.methodLink RL 160 yX12_code : Cond) ∈ lw_gd := g_mem (List.mem_append_right _ (g_k9 (List.mem_of_getElem? (i := 64) rfl))) rfl
theorem tw_1987 : (.code yX12_code cX12_code 12 (some .long) : Cond) ∈ lw_gd := g_mem (List.mem_append_right _ (g_k9 (List.mem_of_getElem? (i := 67) rfl))) rfl
theorem tw_1985 : (.instanceMethod yX12_code : Cond) ∈ lw_gd := g_mem (List.mem_append_right _ (g_k9 (List.mem_of_getElem? (i := 65) rfl))) rfl
theorem tw_1986 : (.selects RX12 yX12_code yX12_code : Cond) ∈ lw_gd := g_mem (List.mem_append_right _ (g_k9 (List.mem_of_getElem? (i := 66) rfl))) rfl
theorem tw_1211 : (.methodLink RL 161 yX11_decode : Cond) ∈ lw_gd := g_mem (List.mem_append_right _ (g_k6 (List.mem_of_getElem? (i := 11) rfl))) rfl
theorem tw_1214 : (.code yX11_decode cX11_decode 7 (some .int) : Cond) ∈ lw_gd := g_mem (List.mem_append_right _ (g_k6 (List.mem_of_getElem? (i := 14) rfl))) rfl
theorem tw_1212 : (.instanceMethod yX11_decode : Cond) ∈ lw_gd := g_mem (List.mem_append_right _ (g_k6 (List.mem_of_getElem? (i := 12) rfl))) rfl
theorem tw_1213 : (.selects RX11 yX11_decode yX11_decode : Cond) ∈ lw_gd := g_mem (List.mem_append_right _ (g_k6 (List.mem_of_getElem? (i := 13) rfl))) rfl
theorem tw_2021 : (.methodLink RL 164 yX12_decode : Cond) ∈ lw_gd := g_mem (List.mem_append_right _ (g_k9 (List.mem_of_getElem? (i := 101) rfl))) rfl
theorem tw_2024 : (.code yX12_decode cX12_decode 7 (some .int) : Cond) ∈ lw_gd := g_mem (List.mem_append_right _ (g_k9 (List.mem_of_getElem? (i := 104) rfl))) rfl
theorem tw_2022 : (.instanceMethod yX12_decode : Cond) ∈ lw_gd := g_mem (List.mem_append_right _ (g_k9 (List.mem_of_getElem? (i := 102) rfl))) rfl
theorem tw_2023 : (.selects RX12 yX12_decode yX12_decode : Cond) ∈ lw_gd := g_mem (List.mem_append_right _ (g_k9 (List.mem_of_getElem? (i := 103) rfl))) rfl
theorem tw_1219 : (.methodLink RL 165 yX11_leave : Cond) ∈ lw_gd := g_mem (List.mem_append_right _ (g_k6 (List.mem_of_getElem? (i := 19) rfl))) rfl
theorem tw_1222 : (.code yX11_leave cX11_leave 6 (some .long) : Cond) ∈ lw_gd := g_mem (List.mem_append_right _ (g_k6 (List.mem_of_getElem? (i := 22) rfl))) rfl
theorem tw_1220 : (.instanceMethod yX11_leave : Cond) ∈ lw_gd := g_mem (List.mem_append_right _ (g_k6 (List.mem_of_getElem? (i := 20) rfl))) rfl
theorem tw_1221 : (.selects RX11 yX11_leave yX11_leave : Cond) ∈ lw_gd := g_mem (List.mem_append_right _ (g_k6 (List.mem_of_getElem? (i := 21) rfl))) rfl
theorem tw_1997 : (.methodLink RL 168 yX12_leave : Cond) ∈ lw_gd := g_mem (List.mem_append_right _ (g_k9 (List.mem_of_getElem? (i := 77) rfl))) rfl
theorem tw_2000 : (.code yX12_leave cX12_leave 4 (some .long) : Cond) ∈ lw_gd := g_mem (List.mem_append_right _ (g_k9 (List.mem_of_getElem? (i := 80) rfl))) rfl
theorem tw_1998 : (.instanceMethod yX12_leave : Cond) ∈ lw_gd := g_mem (List.mem_append_right _ (g_k9 (List.mem_of_getElem? (i := 78) rfl))) rfl
theorem tw_1999 : (.selects RX12 yX12_leave yX12_leave : Cond) ∈ lw_gd := g_mem (List.mem_append_right _ (g_k9 (List.mem_of_getElem? (i := 79) rfl))) rfl
theorem tw_1223 : (.methodLink RL 169 yX11_behind : Cond) ∈ lw_gd := g_mem (List.mem_append_right _ (g_k6 (List.mem_of_getElem? (i := 23) rfl))) rfl
theorem tw_1226 : (.code yX11_behind cX11_behind 4 (some .int) : Cond) ∈ lw_gd := g_mem (List.mem_append_right _ (g_k6 (List.mem_of_getElem? (i := 26) rfl))) rfl
theorem tw_1224 : (.instanceMethod yX11_behind : Cond) ∈ lw_gd := g_mem (List.mem_append_right _ (g_k6 (List.mem_of_getElem? (i := 24) rfl))) rfl
theorem tw_1225 : (.selects RX11 yX11_behind yX11_behind : Cond) ∈ lw_gd := g_mem (List.mem_append_right _ (g_k6 (List.mem_of_getElem? (i := 25) rfl))) rfl
theorem tw_2005 : (.methodLink RL 172 yX12_behind : Cond) ∈ lw_gd := g_mem (List.mem_append_right _ (g_k9 (List.mem_of_getElem? (i := 85) rfl))) rfl
theorem tw_2008 : (.code yX12_behind cX12_behind 9 (some .int) : Cond) ∈ lw_gd := g_mem (List.mem_append_right _ (g_k9 (List.mem_of_getElem? (i := 88) rfl))) rfl
theorem tw_2006 : (.instanceMethod yX12_behind : Cond) ∈ lw_gd := g_mem (List.mem_append_right _ (g_k9 (List.mem_of_getElem? (i := 86) rfl))) rfl
theorem tw_2007 : (.selects RX12 yX12_behind yX12_behind : Cond) ∈ lw_gd := g_mem (List.mem_append_right _ (g_k9 (List.mem_of_getElem? (i := 87) rfl))) rfl
theorem tw_1232 : (.methodLink RL 173 yX11_unlike : Cond) ∈ lw_gd := g_mem (List.mem_append_right _ (g_k6 (List.mem_of_getElem? (i := 32) rfl))) rfl
theorem tw_1235 : (.code yX11_unlike cX11_unlike 5 (some .int) : Cond) ∈ lw_gd := g_mem (List.mem_append_right _ (g_k6 (List.mem_of_getElem? (i := 35) rfl))) rfl
theorem tw_1233 : (.instanceMethod yX11_unlike : Cond) ∈ lw_gd := g_mem (List.mem_append_right _ (g_k6 (List.mem_of_getElem? (i := 33) rfl))) rfl
theorem tw_1234 : (.selects RX11 yX11_unlike yX11_unlike : Cond) ∈ lw_gd := g_mem (List.mem_append_right _ (g_k6 (List.mem_of_getElem? (i := 34) rfl))) rfl
theorem tw_2017 : (.methodLink RL 176 yX12_unlike : Cond) ∈ lw_gd := g_mem (List.mem_append_right _ (g_k9 (List.mem_of_getElem? (i := 97) rfl))) rfl
theorem tw_2020 : (.code yX12_unlike cX12_unlike 5 (some .int) : Cond) ∈ lw_gd := g_mem (List.mem_append_right _ (g_k9 (List.mem_of_getElem? (i := 100) rfl))) rfl
theorem tw_2018 : (.instanceMethod yX12_unlike : Cond) ∈ lw_gd := g_mem (List.mem_append_right _ (g_k9 (List.mem_of_getElem? (i := 98) rfl))) rfl
theorem tw_2019 : (.selects RX12 yX12_unlike yX12_unlike : Cond) ∈ lw_gd := g_mem (List.mem_append_right _ (g_k9 (List.mem_of_getElem? (i := 99) rfl))) rfl
theorem tw_1236 : (.methodLink RL 177 yX11_span : Cond) ∈ lw_gd := g_mem (List.mem_append_right _ (g_k6 (List.mem_of_getElem? (i := 36) rfl))) rfl
theorem tw_1239 : (.code yX11_span cX11_span 2 (some .long) : Cond) ∈ lw_gd := g_mem (List.mem_append_right _ (g_k6 (List.mem_of_getElem? (i := 39) rfl))) rfl
theorem tw_1237 : (.instanceMethod yX11_span : Cond) ∈ lw_gd := g_mem (List.mem_append_right _ (g_k6 (List.mem_of_getElem? (i := 37) rfl))) rfl
theorem tw_1238 : (.selects RX11 yX11_span yX11_span : Cond) ∈ lw_gd := g_mem (List.mem_append_right _ (g_k6 (List.mem_of_getElem? (i := 38) rfl))) rfl
theorem tw_2033 : (.methodLink RL 180 yX12_span : Cond) ∈ lw_gd := g_mem (List.mem_append_right _ (g_k9 (List.mem_of_getElem? (i := 113) rfl))) rfl
theorem tw_2036 : (.code yX12_span cX12_span 7 (some .long) : Cond) ∈ lw_gd := g_mem (List.mem_append_right _ (g_k9 (List.mem_of_getElem? (i := 116) rfl))) rfl
theorem tw_2034 : (.instanceMethod yX12_span : Cond) ∈ lw_gd := g_mem (List.mem_append_right _ (g_k9 (List.mem_of_getElem? (i := 114) rfl))) rfl
theorem tw_2035 : (.selects RX12 yX12_span yX12_span : Cond) ∈ lw_gd := g_mem (List.mem_append_right _ (g_k9 (List.mem_of_getElem? (i := 115) rfl))) rfl
theorem tw_1299 : (.methodLink RL 181 yX11_ahead : Cond) ∈ lw_gd := g_mem (List.mem_append_right _ (g_k6 (List.mem_of_getElem? (i := 99) rfl))) rfl
theorem tw_1302 : (.code yX11_ahead cX11_ahead 1 (some .long) : Cond) ∈ lw_gd := g_mem (List.mem_append_right _ (g_k6 (List.mem_of_getElem? (i := 102) rfl))) rfl
theorem tw_1300 : (.instanceMethod yX11_ahead : Cond) ∈ lw_gd := g_mem (List.mem_append_right _ (g_k6 (List.mem_of_getElem? (i := 100) rfl))) rfl
theorem tw_1301 : (.selects RX11 yX11_ahead yX11_ahead : Cond) ∈ lw_gd := g_mem (List.mem_append_right _ (g_k6 (List.mem_of_getElem? (i := 101) rfl))) rfl
theorem tw_2025 : (.methodLink RL 184 yX12_ahead : Cond) ∈ lw_gd := g_mem (List.mem_append_right _ (g_k9 (List.mem_of_getElem? (i := 105) rfl))) rfl
theorem tw_2028 : (.code yX12_ahead cX12_ahead 3 (some .long) : Cond) ∈ lw_gd := g_mem (List.mem_append_right _ (g_k9 (List.mem_of_getElem? (i := 108) rfl))) rfl
theorem tw_2026 : (.instanceMethod yX12_ahead : Cond) ∈ lw_gd := g_mem (List.mem_append_right _ (g_k9 (List.mem_of_getElem? (i := 106) rfl))) rfl
theorem tw_2027 : (.selects RX12 yX12_ahead yX12_ahead : Cond) ∈ lw_gd := g_mem (List.mem_append_right _ (g_k9 (List.mem_of_getElem? (i := 107) rfl))) rfl
theorem tw_1314 : (.methodLink RL 185 yX11_put : Cond) ∈ lw_gd := g_mem (List.mem_append_right _ (g_k6 (List.mem_of_getElem? (i := 114) rfl))) rfl
theorem tw_1317 : (.code yX11_put cX11_put 2 (some .int) : Cond) ∈ lw_gd := g_mem (List.mem_append_right _ (g_k6 (List.mem_of_getElem? (i := 117) rfl))) rfl
theorem tw_1315 : (.instanceMethod yX11_put : Cond) ∈ lw_gd := g_mem (List.mem_append_right _ (g_k6 (List.mem_of_getElem? (i := 115) rfl))) rfl
theorem tw_1316 : (.selects RX11 yX11_put yX11_put : Cond) ∈ lw_gd := g_mem (List.mem_append_right _ (g_k6 (List.mem_of_getElem? (i := 116) rfl))) rfl
theorem tw_2037 : (.methodLink RL 188 yX12_put : Cond) ∈ lw_gd := g_mem (List.mem_append_right _ (g_k9 (List.mem_of_getElem? (i := 117) rfl))) rfl
theorem tw_2040 : (.code yX12_put cX12_put 2 (some .int) : Cond) ∈ lw_gd := g_mem (List.mem_append_right _ (g_k9 (List.mem_of_getElem? (i := 120) rfl))) rfl
theorem tw_2038 : (.instanceMethod yX12_put : Cond) ∈ lw_gd := g_mem (List.mem_append_right _ (g_k9 (List.mem_of_getElem? (i := 118) rfl))) rfl
theorem tw_2039 : (.selects RX12 yX12_put yX12_put : Cond) ∈ lw_gd := g_mem (List.mem_append_right _ (g_k9 (List.mem_of_getElem? (i := 119) rfl))) rfl
theorem tw_1318 : (.methodLink RL 189 yX11_worth : Cond) ∈ lw_gd := g_mem (List.mem_append_right _ (g_k6 (List.mem_of_getElem? (i := 118) rfl))) rfl
theorem tw_1321 : (.code yX11_worth cX11_worth 2 (some .int) : Cond) ∈ lw_gd := g_mem (List.mem_append_right _ (g_k6 (List.mem_of_getElem? (i := 121) rfl))) rfl
theorem tw_1319 : (.instanceMethod yX11_worth : Cond) ∈ lw_gd := g_mem (List.mem_append_right _ (g_k6 (List.mem_of_getElem? (i := 119) rfl))) rfl
theorem tw_1320 : (.selects RX11 yX11_worth yX11_worth : Cond) ∈ lw_gd := g_mem (List.mem_append_right _ (g_k6 (List.mem_of_getElem? (i := 120) rfl))) rfl
theorem tw_2041 : (.methodLink RL 192 yX12_worth : Cond) ∈ lw_gd := g_mem (List.mem_append_right _ (g_k9 (List.mem_of_getElem? (i := 121) rfl))) rfl
theorem tw_2044 : (.code yX12_worth cX12_worth 2 (some .int) : Cond) ∈ lw_gd := g_mem (List.mem_append_right _ (g_k9 (List.mem_of_getElem? (i := 124) rfl))) rfl
theorem tw_2042 : (.instanceMethod yX12_worth : Cond) ∈ lw_gd := g_mem (List.mem_append_right _ (g_k9 (List.mem_of_getElem? (i := 122) rfl))) rfl
theorem tw_2043 : (.selects RX12 yX12_worth yX12_worth : Cond) ∈ lw_gd := g_mem (List.mem_append_right _ (g_k9 (List.mem_of_getElem? (i := 123) rfl))) rfl
theorem tw_1361 : (.methodLink RL 193 yX11_chosen : Cond) ∈ lw_gd := g_mem (List.mem_append_right _ (g_k6 (List.mem_of_getElem? (i := 161) rfl))) rfl
theorem tw_1364 : (.code yX11_chosen cX11_chosen 9 (some .int) : Cond) ∈ lw_gd := g_mem (List.mem_append_right _ (g_k6 (List.mem_of_getElem? (i := 164) rfl))) rfl
theorem tw_1362 : (.instanceMethod yX11_chosen : Cond) ∈ lw_gd := g_mem (List.mem_append_right _ (g_k6 (List.mem_of_getElem? (i := 162) rfl))) rfl
theorem tw_1363 : (.selects RX11 yX11_chosen yX11_chosen : Cond) ∈ lw_gd := g_mem (List.mem_append_right _ (g_k6 (List.mem_of_getElem? (i := 163) rfl))) rfl
theorem tw_2074 : (.methodLink RL 197 yX12_chosen : Cond) ∈ lw_gd := g_mem (List.mem_append_right _ (g_k9 (List.mem_of_getElem? (i := 154) rfl))) rfl
theorem tw_2077 : (.code yX12_chosen cX12_chosen 11 (some .int) : Cond) ∈ lw_gd := g_mem (List.mem_append_right _ (g_k9 (List.mem_of_getElem? (i := 157) rfl))) rfl
theorem tw_2075 : (.instanceMethod yX12_chosen : Cond) ∈ lw_gd := g_mem (List.mem_append_right _ (g_k9 (List.mem_of_getElem? (i := 155) rfl))) rfl
theorem tw_2076 : (.selects RX12 yX12_chosen yX12_chosen : Cond) ∈ lw_gd := g_mem (List.mem_append_right _ (g_k9 (List.mem_of_getElem? (i := 156) rfl))) rfl
theorem tw_1375 : (.methodLink RL 198 yX11_image : Cond) ∈ lw_gd := g_mem (List.mem_append_right _ (g_k6 (List.mem_of_getElem? (i := 175) rfl))) rfl
theorem tw_1378 : (.code yX11_image cX11_image 4 (some .int) : Cond) ∈ lw_gd := g_mem (List.mem_append_right _ (g_k6 (List.mem_of_getElem? (i := 178) rfl))) rfl
theorem tw_1376 : (.instanceMethod yX11_image : Cond) ∈ lw_gd := g_mem (List.mem_append_right _ (g_k6 (List.mem_of_getElem? (i := 176) rfl))) rfl
theorem tw_1377 : (.selects RX11 yX11_image yX11_image : Cond) ∈ lw_gd := g_mem (List.mem_append_right _ (g_k6 (List.mem_of_getElem? (i := 177) rfl))) rfl
theorem tw_2082 : (.methodLink RL 201 yX12_image : Cond) ∈ lw_gd := g_mem (List.mem_append_right _ (g_k9 (List.mem_of_getElem? (i := 162) rfl))) rfl
theorem tw_2085 : (.code yX12_image cX12_image 2 (some .int) : Cond) ∈ lw_gd := g_mem (List.mem_append_right _ (g_k9 (List.mem_of_getElem? (i := 165) rfl))) rfl
theorem tw_2083 : (.instanceMethod yX12_image : Cond) ∈ lw_gd := g_mem (List.mem_append_right _ (g_k9 (List.mem_of_getElem? (i := 163) rfl))) rfl
theorem tw_2084 : (.selects RX12 yX12_image yX12_image : Cond) ∈ lw_gd := g_mem (List.mem_append_right _ (g_k9 (List.mem_of_getElem? (i := 164) rfl))) rfl
theorem tw_1382 : (.methodLink RL 202 yX11_octet : Cond) ∈ lw_gd := g_mem (List.mem_append_right _ (g_k6 (List.mem_of_getElem? (i := 182) rfl))) rfl
theorem tw_1385 : (.code yX11_octet cX11_octet 2 (some .int) : Cond) ∈ lw_gd := g_mem (List.mem_append_right _ (g_k6 (List.mem_of_getElem? (i := 185) rfl))) rfl
theorem tw_1383 : (.instanceMethod yX11_octet : Cond) ∈ lw_gd := g_mem (List.mem_append_right _ (g_k6 (List.mem_of_getElem? (i := 183) rfl))) rfl
theorem tw_1384 : (.selects RX11 yX11_octet yX11_octet : Cond) ∈ lw_gd := g_mem (List.mem_append_right _ (g_k6 (List.mem_of_getElem? (i := 184) rfl))) rfl
theorem tw_2093 : (.methodLink RL 205 yX12_octet : Cond) ∈ lw_gd := g_mem (List.mem_append_right _ (g_k9 (List.mem_of_getElem? (i := 173) rfl))) rfl
theorem tw_2096 : (.code yX12_octet cX12_octet 2 (some .int) : Cond) ∈ lw_gd := g_mem (List.mem_append_right _ (g_k9 (List.mem_of_getElem? (i := 176) rfl))) rfl
theorem tw_2094 : (.instanceMethod yX12_octet : Cond) ∈ lw_gd := g_mem (List.mem_append_right _ (g_k9 (List.mem_of_getElem? (i := 174) rfl))) rfl
theorem tw_2095 : (.selects RX12 yX12_octet yX12_octet : Cond) ∈ lw_gd := g_mem (List.mem_append_right _ (g_k9 (List.mem_of_getElem? (i := 175) rfl))) rfl
theorem tw_1386 : (.methodLink RL 206 yX11_on : Cond) ∈ lw_gd := g_mem (List.mem_append_right _ (g_k6 (List.mem_of_getElem? (i := 186) rfl))) rfl
theorem tw_1389 : (.code yX11_on cX11_on 3 (some .boolean) : Cond) ∈ lw_gd := g_mem (List.mem_append_right _ (g_k6 (List.mem_of_getElem? (i := 189) rfl))) rfl
theorem tw_1387 : (.instanceMethod yX11_on : Cond) ∈ lw_gd := g_mem (List.mem_append_right _ (g_k6 (List.mem_of_getElem? (i := 187) rfl))) rfl
theorem tw_1388 : (.selects RX11 yX11_on yX11_on : Cond) ∈ lw_gd := g_mem (List.mem_append_right _ (g_k6 (List.mem_of_getElem? (i := 188) rfl))) rfl
theorem tw_2097 : (.methodLink RL 209 yX12_on : Cond) ∈ lw_gd := g_mem (List.mem_append_right _ (g_k9 (List.mem_of_getElem? (i := 177) rfl))) rfl
theorem tw_2100 : (.code yX12_on cX12_on 4 (some .boolean) : Cond) ∈ lw_gd := g_mem (List.mem_append_right _ (g_k9 (List.mem_of_getElem? (i := 180) rfl))) rfl
theorem tw_2098 : (.instanceMethod yX12_on : Cond) ∈ lw_gd := g_mem (List.mem_append_right _ (g_k9 (List.mem_of_getElem? (i := 178) rfl))) rfl
theorem tw_2099 : (.selects RX12 yX12_on yX12_on : Cond) ∈ lw_gd := g_mem (List.mem_append_right _ (g_k9 (List.mem_of_getElem? (i := 179) rfl))) rfl
theorem tw_22 : (.classLink RL 7 RX11 : Cond) ∈ lw_gd := g_mem (List.mem_append_right _ (g_k1 (List.mem_of_getElem? (i := 22) rfl))) rfl
theorem tw_23 : (.instantiable RX11 14 : Cond) ∈ lw_gd := g_mem (List.mem_append_right _ (g_k1 (List.mem_of_getElem? (i := 23) rfl))) rfl
theorem tw_26 : (.code yX11_init cX11_init 1 none : Cond) ∈ lw_gd := g_mem (List.mem_append_right _ (g_k1 (List.mem_of_getElem? (i := 26) rfl))) rfl
theorem tw_24 : (.methodLink RL 9 yX11_init : Cond) ∈ lw_gd := g_mem (List.mem_append_right _ (g_k1 (List.mem_of_getElem? (i := 24) rfl))) rfl
theorem tw_25 : (.instanceMethod yX11_init : Cond) ∈ lw_gd := g_mem (List.mem_append_right _ (g_k1 (List.mem_of_getElem? (i := 25) rfl))) rfl
theorem tw_1395 : (.classLink RL 10 RX12 : Cond) ∈ lw_gd := g_mem (List.mem_append_right _ (g_k6 (List.mem_of_getElem? (i := 195) rfl))) rfl
theorem tw_1396 : (.instantiable RX12 73 : Cond) ∈ lw_gd := g_mem (List.mem_append_right _ (g_k6 (List.mem_of_getElem? (i := 196) rfl))) rfl
theorem tw_1399 : (.code yX12_init cX12_init 1 none : Cond) ∈ lw_gd := g_mem (List.mem_append_right _ (g_k6 (List.mem_of_getElem? (i := 199) rfl))) rfl
theorem tw_1397 : (.methodLink RL 12 yX12_init : Cond) ∈ lw_gd := g_mem (List.mem_append_right _ (g_k6 (List.mem_of_getElem? (i := 197) rfl))) rfl
theorem tw_1398 : (.instanceMethod yX12_init : Cond) ∈ lw_gd := g_mem (List.mem_append_right _ (g_k6 (List.mem_of_getElem? (i := 198) rfl))) rfl
theorem hd_yX9_init : yX9_init.cls ≠ "java/lang/invoke/MethodHandle" ∧ yX9_init.cls ≠ "java/lang/invoke/VarHandle" ∧ (parseMethodDescriptor yX9_init.desc).map (fun d => d.parameters.length) = some 0 := by decide +kernel
theorem hd_yX8_init : yX8_init.cls ≠ "java/lang/invoke/MethodHandle" ∧ yX8_init.cls ≠ "java/lang/invoke/VarHandle" ∧ (parseMethodDescriptor yX8_init.desc).map (fun d => d.parameters.length) = some 0 := by decide +kernel
theorem hd_yX5_init : yX5_init.cls ≠ "java/lang/invoke/MethodHandle" ∧ yX5_init.cls ≠ "java/lang/invoke/VarHandle" ∧ (parseMethodDescriptor yX5_init.desc).map (fun d => d.parameters.length) = some 0 := by decide +kernel
theorem hd_yX1_init : yX1_init.cls ≠ "java/lang/invoke/MethodHandle" ∧ yX1_init.cls ≠ "java/lang/invoke/VarHandle" ∧ (parseMethodDescriptor yX1_init.desc).map (fun d => d.parameters.length) = some 0 := by decide +kernel
theorem hd_yX4_init : yX4_init.cls ≠ "java/lang/invoke/MethodHandle" ∧ yX4_init.cls ≠ "java/lang/invoke/VarHandle" ∧ (parseMethodDescriptor yX4_init.desc).map (fun d => d.parameters.length) = some 0 := by decide +kernel
theorem hd_yX10_init : yX10_init.cls ≠ "java/lang/invoke/MethodHandle" ∧ yX10_init.cls ≠ "java/lang/invoke/VarHandle" ∧ (parseMethodDescriptor yX10_init.desc).map (fun d => d.parameters.length) = some 0 := by decide +kernel
theorem hd_yX7_init : yX7_init.cls ≠ "java/lang/invoke/MethodHandle" ∧ yX7_init.cls ≠ "java/lang/invoke/VarHandle" ∧ (parseMethodDescriptor yX7_init.desc).map (fun d => d.parameters.length) = some 0 := by decide +kernel
theorem hd_yX6_init : yX6_init.cls ≠ "java/lang/invoke/MethodHandle" ∧ yX6_init.cls ≠ "java/lang/invoke/VarHandle" ∧ (parseMethodDescriptor yX6_init.desc).map (fun d => d.parameters.length) = some 0 := by decide +kernel
theorem hd_yX0_init : yX0_init.cls ≠ "java/lang/invoke/MethodHandle" ∧ yX0_init.cls ≠ "java/lang/invoke/VarHandle" ∧ (parseMethodDescriptor yX0_init.desc).map (fun d => d.parameters.length) = some 0 := by decide +kernel
theorem hd_yX3_init : yX3_init.cls ≠ "java/lang/invoke/MethodHandle" ∧ yX3_init.cls ≠ "java/lang/invoke/VarHandle" ∧ (parseMethodDescriptor yX3_init.desc).map (fun d => d.parameters.length) = some 0 := by decide +kernel
theorem hd_yX2_init : yX2_init.cls ≠ "java/lang/invoke/MethodHandle" ∧ yX2_init.cls ≠ "java/lang/invoke/VarHandle" ∧ (parseMethodDescriptor yX2_init.desc).map (fun d => d.parameters.length) = some 0 := by decide +kernel
theorem hd_yX11_feed : yX11_feed.cls ≠ "java/lang/invoke/MethodHandle" ∧ yX11_feed.cls ≠ "java/lang/invoke/VarHandle" ∧ (parseMethodDescriptor yX11_feed.desc).map (fun d => d.parameters.length) = some 5 := by decide +kernel
theorem hd_yX12_feed : yX12_feed.cls ≠ "java/lang/invoke/MethodHandle" ∧ yX12_feed.cls ≠ "java/lang/invoke/VarHandle" ∧ (parseMethodDescriptor yX12_feed.desc).map (fun d => d.parameters.length) = some 5 := by decide +kernel
theorem hd_yX11_end : yX11_end.cls ≠ "java/lang/invoke/MethodHandle" ∧ yX11_end.cls ≠ "java/lang/invoke/VarHandle" ∧ (parseMethodDescriptor yX11_end.desc).map (fun d => d.parameters.length) = some 1 := by decide +kernel
theorem hd_yX12_end : yX12_end.cls ≠ "java/lang/invoke/MethodHandle" ∧ yX12_end.cls ≠ "java/lang/invoke/VarHandle" ∧ (parseMethodDescriptor yX12_end.desc).map (fun d => d.parameters.length) = some 1 := by decide +kernel
theorem hd_yX11_house : yX11_house.cls ≠ "java/lang/invoke/MethodHandle" ∧ yX11_house.cls ≠ "java/lang/invoke/VarHandle" ∧ (parseMethodDescriptor yX11_house.desc).map (fun d => d.parameters.length) = some 0 := by decide +kernel
theorem hd_yX12_house : yX12_house.cls ≠ "java/lang/invoke/MethodHandle" ∧ yX12_house.cls ≠ "java/lang/invoke/VarHandle" ∧ (parseMethodDescriptor yX12_house.desc).map (fun d => d.parameters.length) = some 0 := by decide +kernel
theorem hd_yX11_fault : yX11_fault.cls ≠ "java/lang/invoke/MethodHandle" ∧ yX11_fault.cls ≠ "java/lang/invoke/VarHandle" ∧ (parseMethodDescriptor yX11_fault.desc).map (fun d => d.parameters.length) = some 1 := by decide +kernel
theorem hd_yX12_fault : yX12_fault.cls ≠ "java/lang/invoke/MethodHandle" ∧ yX12_fault.cls ≠ "java/lang/invoke/VarHandle" ∧ (parseMethodDescriptor yX12_fault.desc).map (fun d => d.parameters.length) = some 1 := by decide +kernel
theorem hd_yX11_has : yX11_has.cls ≠ "java/lang/invoke/MethodHandle" ∧ yX11_has.cls ≠ "java/lang/invoke/VarHandle" ∧ (parseMethodDescriptor yX11_has.desc).map (fun d => d.parameters.length) = some 1 := by decide +kernel
theorem hd_yX12_has : yX12_has.cls ≠ "java/lang/invoke/MethodHandle" ∧ yX12_has.cls ≠ "java/lang/invoke/VarHandle" ∧ (parseMethodDescriptor yX12_has.desc).map (fun d => d.parameters.length) = some 1 := by decide +kernel
theorem hd_yX11_table : yX11_table.cls ≠ "java/lang/invoke/MethodHandle" ∧ yX11_table.cls ≠ "java/lang/invoke/VarHandle" ∧ (parseMethodDescriptor yX11_table.desc).map (fun d => d.parameters.length) = some 3 := by decide +kernel
theorem hd_yX12_table : yX12_table.cls ≠ "java/lang/invoke/MethodHandle" ∧ yX12_table.cls ≠ "java/lang/invoke/VarHandle" ∧ (parseMethodDescriptor yX12_table.desc).map (fun d => d.parameters.length) = some 3 := by decide +kernel
theorem hd_yX11_product : yX11_product.cls ≠ "java/lang/invoke/MethodHandle" ∧ yX11_product.cls ≠ "java/lang/invoke/VarHandle" ∧ (parseMethodDescriptor yX11_product.desc).map (fun d => d.parameters.length) = some 3 := by decide +kernel
theorem hd_yX12_product : yX12_product.cls ≠ "java/lang/invoke/MethodHandle" ∧ yX12_product.cls ≠ "java/lang/invoke/VarHandle" ∧ (parseMethodDescriptor yX12_product.desc).map (fun d => d.parameters.length) = some 3 := by decide +kernel
theorem hd_yX11_hear : yX11_hear.cls ≠ "java/lang/invoke/MethodHandle" ∧ yX11_hear.cls ≠ "java/lang/invoke/VarHandle" ∧ (parseMethodDescriptor yX11_hear.desc).map (fun d => d.parameters.length) = some 0 := by decide +kernel
theorem hd_yX12_hear : yX12_hear.cls ≠ "java/lang/invoke/MethodHandle" ∧ yX12_hear.cls ≠ "java/lang/invoke/VarHandle" ∧ (parseMethodDescriptor yX12_hear.desc).map (fun d => d.parameters.length) = some 0 := by decide +kernel
theorem hd_yX11_heard : yX11_heard.cls ≠ "java/lang/invoke/MethodHandle" ∧ yX11_heard.cls ≠ "java/lang/invoke/VarHandle" ∧ (parseMethodDescriptor yX11_heard.desc).map (fun d => d.parameters.length) = some 1 := by decide +kernel
theorem hd_yX12_heard : yX12_heard.cls ≠ "java/lang/invoke/MethodHandle" ∧ yX12_heard.cls ≠ "java/lang/invoke/VarHandle" ∧ (parseMethodDescriptor yX12_heard.desc).map (fun d => d.parameters.length) = some 1 := by decide +kernel
theorem hd_yX11_send : yX11_send.cls ≠ "java/lang/invoke/MethodHandle" ∧ yX11_send.cls ≠ "java/lang/invoke/VarHandle" ∧ (parseMethodDescriptor yX11_send.desc).map (fun d => d.parameters.length) = some 0 := by decide +kernel
theorem hd_yX12_send : yX12_send.cls ≠ "java/lang/invoke/MethodHandle" ∧ yX12_send.cls ≠ "java/lang/invoke/VarHandle" ∧ (parseMethodDescriptor yX12_send.desc).map (fun d => d.parameters.length) = some 0 := by decide +kernel
theorem hd_yX11_distance : yX11_distance.cls ≠ "java/lang/invoke/MethodHandle" ∧ yX11_distance.cls ≠ "java/lang/invoke/VarHandle" ∧ (parseMethodDescriptor yX11_distance.desc).map (fun d => d.parameters.length) = some 0 := by decide +kernel
theorem hd_yX12_distance : yX12_distance.cls ≠ "java/lang/invoke/MethodHandle" ∧ yX12_distance.cls ≠ "java/lang/invoke/VarHandle" ∧ (parseMethodDescriptor yX12_distance.desc).map (fun d => d.parameters.length) = some 0 := by decide +kernel
theorem hd_yX11_slips : yX11_slips.cls ≠ "java/lang/invoke/MethodHandle" ∧ yX11_slips.cls ≠ "java/lang/invoke/VarHandle" ∧ (parseMethodDescriptor yX11_slips.desc).map (fun d => d.parameters.length) = some 2 := by decide +kernel
theorem hd_yX12_slips : yX12_slips.cls ≠ "java/lang/invoke/MethodHandle" ∧ yX12_slips.cls ≠ "java/lang/invoke/VarHandle" ∧ (parseMethodDescriptor yX12_slips.desc).map (fun d => d.parameters.length) = some 2 := by decide +kernel
theorem hd_yX11_nearest : yX11_nearest.cls ≠ "java/lang/invoke/MethodHandle" ∧ yX11_nearest.cls ≠ "java/lang/invoke/VarHandle" ∧ (parseMethodDescriptor yX11_nearest.desc).map (fun d => d.parameters.length) = some 2 := by decide +kernel
theorem hd_yX12_nearest : yX12_nearest.cls ≠ "java/lang/invoke/MethodHandle" ∧ yX12_nearest.cls ≠ "java/lang/invoke/VarHandle" ∧ (parseMethodDescriptor yX12_nearest.desc).map (fun d => d.parameters.length) = some 2 := by decide +kernel
theorem hd_yX11_near : yX11_near.cls ≠ "java/lang/invoke/MethodHandle" ∧ yX11_near.cls ≠ "java/lang/invoke/VarHandle" ∧ (parseMethodDescriptor yX11_near.desc).map (fun d => d.parameters.length) = some 1 := by decide +kernel
theorem hd_yX12_near : yX12_near.cls ≠ "java/lang/invoke/MethodHandle" ∧ yX12_near.cls ≠ "java/lang/invoke/VarHandle" ∧ (parseMethodDescriptor yX12_near.desc).map (fun d => d.parameters.length) = some 1 := by decide +kernel
theorem hd_yX11_within : yX11_within.cls ≠ "java/lang/invoke/MethodHandle" ∧ yX11_within.cls ≠ "java/lang/invoke/VarHandle" ∧ (parseMethodDescriptor yX11_within.desc).map (fun d => d.parameters.length) = some 1 := by decide +kernel
theorem hd_yX12_within : yX12_within.cls ≠ "java/lang/invoke/MethodHandle" ∧ yX12_within.cls ≠ "java/lang/invoke/VarHandle" ∧ (parseMethodDescriptor yX12_within.desc).map (fun d => d.parameters.length) = some 1 := by decide +kernel
theorem hd_yX11_cancel : yX11_cancel.cls ≠ "java/lang/invoke/MethodHandle" ∧ yX11_cancel.cls ≠ "java/lang/invoke/VarHandle" ∧ (parseMethodDescriptor yX11_cancel.desc).map (fun d => d.parameters.length) = some 1 := by decide +kernel
theorem hd_yX12_cancel : yX12_cancel.cls ≠ "java/lang/invoke/MethodHandle" ∧ yX12_cancel.cls ≠ "java/lang/invoke/VarHandle" ∧ (parseMethodDescriptor yX12_cancel.desc).map (fun d => d.parameters.length) = some 1 := by decide +kernel
theorem hd_yX11_order : yX11_order.cls ≠ "java/lang/invoke/MethodHandle" ∧ yX11_order.cls ≠ "java/lang/invoke/VarHandle" ∧ (parseMethodDescriptor yX11_order.desc).map (fun d => d.parameters.length) = some 1 := by decide +kernel
theorem hd_yX12_order : yX12_order.cls ≠ "java/lang/invoke/MethodHandle" ∧ yX12_order.cls ≠ "java/lang/invoke/VarHandle" ∧ (parseMethodDescriptor yX12_order.desc).map (fun d => d.parameters.length) = some 1 := by decide +kernel
theorem hd_yX11_left : yX11_left.cls ≠ "java/lang/invoke/MethodHandle" ∧ yX11_left.cls ≠ "java/lang/invoke/VarHandle" ∧ (parseMethodDescriptor yX11_left.desc).map (fun d => d.parameters.length) = some 0 := by decide +kernel
theorem hd_yX12_left : yX12_left.cls ≠ "java/lang/invoke/MethodHandle" ∧ yX12_left.cls ≠ "java/lang/invoke/VarHandle" ∧ (parseMethodDescriptor yX12_left.desc).map (fun d => d.parameters.length) = some 0 := by decide +kernel
theorem hd_yX11_least : yX11_least.cls ≠ "java/lang/invoke/MethodHandle" ∧ yX11_least.cls ≠ "java/lang/invoke/VarHandle" ∧ (parseMethodDescriptor yX11_least.desc).map (fun d => d.parameters.length) = some 2 := by decide +kernel
theorem hd_yX12_least : yX12_least.cls ≠ "java/lang/invoke/MethodHandle" ∧ yX12_least.cls ≠ "java/lang/invoke/VarHandle" ∧ (parseMethodDescriptor yX12_least.desc).map (fun d => d.parameters.length) = some 2 := by decide +kernel
theorem hd_yX11_share : yX11_share.cls ≠ "java/lang/invoke/MethodHandle" ∧ yX11_share.cls ≠ "java/lang/invoke/VarHandle" ∧ (parseMethodDescriptor yX11_share.desc).map (fun d => d.parameters.length) = some 2 := by decide +kernel
theorem hd_yX12_share : yX12_share.cls ≠ "java/lang/invoke/MethodHandle" ∧ yX12_share.cls ≠ "java/lang/invoke/VarHandle" ∧ (parseMethodDescriptor yX12_share.desc).map (fun d => d.parameters.length) = some 2 := by decide +kernel
theorem hd_yX11_sure : yX11_sure.cls ≠ "java/lang/invoke/MethodHandle" ∧ yX11_sure.cls ≠ "java/lang/invoke/VarHandle" ∧ (parseMethodDescriptor yX11_sure.desc).map (fun d => d.parameters.length) = some 1 := by decide +kernel
theorem hd_yX12_sure : yX12_sure.cls ≠ "java/lang/invoke/MethodHandle" ∧ yX12_sure.cls ≠ "java/lang/invoke/VarHandle" ∧ (parseMethodDescriptor yX12_sure.desc).map (fun d => d.parameters.length) = some 1 := by decide +kernel
theorem hd_yX11_lead : yX11_lead.cls ≠ "java/lang/invoke/MethodHandle" ∧ yX11_lead.cls ≠ "java/lang/invoke/VarHandle" ∧ (parseMethodDescriptor yX11_lead.desc).map (fun d => d.parameters.length) = some 1 := by decide +kernel
theorem hd_yX12_lead : yX12_lead.cls ≠ "java/lang/invoke/MethodHandle" ∧ yX12_lead.cls ≠ "java/lang/invoke/VarHandle" ∧ (parseMethodDescriptor yX12_lead.desc).map (fun d => d.parameters.length) = some 1 := by decide +kernel
theorem hd_yX11_undo : yX11_undo.cls ≠ "java/lang/invoke/MethodHandle" ∧ yX11_undo.cls ≠ "java/lang/invoke/VarHandle" ∧ (parseMethodDescriptor yX11_undo.desc).map (fun d => d.parameters.length) = some 0 := by decide +kernel
theorem hd_yX12_undo : yX12_undo.cls ≠ "java/lang/invoke/MethodHandle" ∧ yX12_undo.cls ≠ "java/lang/invoke/VarHandle" ∧ (parseMethodDescriptor yX12_undo.desc).map (fun d => d.parameters.length) = some 0 := by decide +kernel
theorem hd_yX11_redo : yX11_redo.cls ≠ "java/lang/invoke/MethodHandle" ∧ yX11_redo.cls ≠ "java/lang/invoke/VarHandle" ∧ (parseMethodDescriptor yX11_redo.desc).map (fun d => d.parameters.length) = some 0 := by decide +kernel
theorem hd_yX12_redo : yX12_redo.cls ≠ "java/lang/invoke/MethodHandle" ∧ yX12_redo.cls ≠ "java/lang/invoke/VarHandle" ∧ (parseMethodDescriptor yX12_redo.desc).map (fun d => d.parameters.length) = some 0 := by decide +kernel
theorem hd_yX11_leader : yX11_leader.cls ≠ "java/lang/invoke/MethodHandle" ∧ yX11_leader.cls ≠ "java/lang/invoke/VarHandle" ∧ (parseMethodDescriptor yX11_leader.desc).map (fun d => d.parameters.length) = some 2 := by decide +kernel
theorem hd_yX12_leader : yX12_leader.cls ≠ "java/lang/invoke/MethodHandle" ∧ yX12_leader.cls ≠ "java/lang/invoke/VarHandle" ∧ (parseMethodDescriptor yX12_leader.desc).map (fun d => d.parameters.length) = some 2 := by decide +kernel
theorem hd_yX11_step : yX11_step.cls ≠ "java/lang/invoke/MethodHandle" ∧ yX11_step.cls ≠ "java/lang/invoke/VarHandle" ∧ (parseMethodDescriptor yX11_step.desc).map (fun d => d.parameters.length) = some 2 := by decide +kernel
theorem hd_yX12_step : yX12_step.cls ≠ "java/lang/invoke/MethodHandle" ∧ yX12_step.cls ≠ "java/lang/invoke/VarHandle" ∧ (parseMethodDescriptor yX12_step.desc).map (fun d => d.parameters.length) = some 2 := by decide +kernel
theorem hd_yX11_clash : yX11_clash.cls ≠ "java/lang/invoke/MethodHandle" ∧ yX11_clash.cls ≠ "java/lang/invoke/VarHandle" ∧ (parseMethodDescriptor yX11_clash.desc).map (fun d => d.parameters.length) = some 3 := by decide +kernel
theorem hd_yX12_clash : yX12_clash.cls ≠ "java/lang/invoke/MethodHandle" ∧ yX12_clash.cls ≠ "java/lang/invoke/VarHandle" ∧ (parseMethodDescriptor yX12_clash.desc).map (fun d => d.parameters.length) = some 3 := by decide +kernel
theorem hd_yX11_worst : yX11_worst.cls ≠ "java/lang/invoke/MethodHandle" ∧ yX11_worst.cls ≠ "java/lang/invoke/VarHandle" ∧ (parseMethodDescriptor yX11_worst.desc).map (fun d => d.parameters.length) = some 1 := by decide +kernel
theorem hd_yX12_worst : yX12_worst.cls ≠ "java/lang/invoke/MethodHandle" ∧ yX12_worst.cls ≠ "java/lang/invoke/VarHandle" ∧ (parseMethodDescriptor yX12_worst.desc).map (fun d => d.parameters.length) = some 1 := by decide +kernel
theorem hd_yX11_squares : yX11_squares.cls ≠ "java/lang/invoke/MethodHandle" ∧ yX11_squares.cls ≠ "java/lang/invoke/VarHandle" ∧ (parseMethodDescriptor yX11_squares.desc).map (fun d => d.parameters.length) = some 1 := by decide +kernel
theorem hd_yX12_squares : yX12_squares.cls ≠ "java/lang/invoke/MethodHandle" ∧ yX12_squares.cls ≠ "java/lang/invoke/VarHandle" ∧ (parseMethodDescriptor yX12_squares.desc).map (fun d => d.parameters.length) = some 1 := by decide +kernel
theorem hd_yX11_sums : yX11_sums.cls ≠ "java/lang/invoke/MethodHandle" ∧ yX11_sums.cls ≠ "java/lang/invoke/VarHandle" ∧ (parseMethodDescriptor yX11_sums.desc).map (fun d => d.parameters.length) = some 3 := by decide +kernel
theorem hd_yX12_sums : yX12_sums.cls ≠ "java/lang/invoke/MethodHandle" ∧ yX12_sums.cls ≠ "java/lang/invoke/VarHandle" ∧ (parseMethodDescriptor yX12_sums.desc).map (fun d => d.parameters.length) = some 3 := by decide +kernel
theorem hd_yX11_apart : yX11_apart.cls ≠ "java/lang/invoke/MethodHandle" ∧ yX11_apart.cls ≠ "java/lang/invoke/VarHandle" ∧ (parseMethodDescriptor yX11_apart.desc).map (fun d => d.parameters.length) = some 1 := by decide +kernel
theorem hd_yX12_apart : yX12_apart.cls ≠ "java/lang/invoke/MethodHandle" ∧ yX12_apart.cls ≠ "java/lang/invoke/VarHandle" ∧ (parseMethodDescriptor yX12_apart.desc).map (fun d => d.parameters.length) = some 1 := by decide +kernel
theorem hd_yX11_word : yX11_word.cls ≠ "java/lang/invoke/MethodHandle" ∧ yX11_word.cls ≠ "java/lang/invoke/VarHandle" ∧ (parseMethodDescriptor yX11_word.desc).map (fun d => d.parameters.length) = some 2 := by decide +kernel
theorem hd_yX12_word : yX12_word.cls ≠ "java/lang/invoke/MethodHandle" ∧ yX12_word.cls ≠ "java/lang/invoke/VarHandle" ∧ (parseMethodDescriptor yX12_word.desc).map (fun d => d.parameters.length) = some 2 := by decide +kernel
theorem hd_yX11_code : yX11_code.cls ≠ "java/lang/invoke/MethodHandle" ∧ yX11_code.cls ≠ "java/lang/invoke/VarHandle" ∧ (parseMethodDescriptor yX11_code.desc).map (fun d => d.parameters.length) = some 1 := by decide +kernel
theorem hd_yX12_code : yX12_code.cls ≠ "java/lang/invoke/MethodHandle" ∧ yX12_code.cls ≠ "java/lang/invoke/VarHandle" ∧ (parseMethodDescriptor yX12_code.desc).map (fun d => d.parameters.length) = some 1 := by decide +kernel
theorem hd_yX11_decode : yX11_decode.cls ≠ "java/lang/invoke/MethodHandle" ∧ yX11_decode.cls ≠ "java/lang/invoke/VarHandle" ∧ (parseMethodDescriptor yX11_decode.desc).map (fun d => d.parameters.length) = some 0 := by decide +kernel
theorem hd_yX12_decode : yX12_decode.cls ≠ "java/lang/invoke/MethodHandle" ∧ yX12_decode.cls ≠ "java/lang/invoke/VarHandle" ∧ (parseMethodDescriptor yX12_decode.desc).map (fun d => d.parameters.length) = some 0 := by decide +kernel
theorem hd_yX11_leave : yX11_leave.cls ≠ "java/lang/invoke/MethodHandle" ∧ yX11_leave.cls ≠ "java/lang/invoke/VarHandle" ∧ (parseMethodDescriptor yX11_leave.desc).map (fun d => d.parameters.length) = some 1 := by decide +kernel
theorem hd_yX12_leave : yX12_leave.cls ≠ "java/lang/invoke/MethodHandle" ∧ yX12_leave.cls ≠ "java/lang/invoke/VarHandle" ∧ (parseMethodDescriptor yX12_leave.desc).map (fun d => d.parameters.length) = some 1 := by decide +kernel
theorem hd_yX11_behind : yX11_behind.cls ≠ "java/lang/invoke/MethodHandle" ∧ yX11_behind.cls ≠ "java/lang/invoke/VarHandle" ∧ (parseMethodDescriptor yX11_behind.desc).map (fun d => d.parameters.length) = some 1 := by decide +kernel
theorem hd_yX12_behind : yX12_behind.cls ≠ "java/lang/invoke/MethodHandle" ∧ yX12_behind.cls ≠ "java/lang/invoke/VarHandle" ∧ (parseMethodDescriptor yX12_behind.desc).map (fun d => d.parameters.length) = some 1 := by decide +kernel
theorem hd_yX11_unlike : yX11_unlike.cls ≠ "java/lang/invoke/MethodHandle" ∧ yX11_unlike.cls ≠ "java/lang/invoke/VarHandle" ∧ (parseMethodDescriptor yX11_unlike.desc).map (fun d => d.parameters.length) = some 2 := by decide +kernel
theorem hd_yX12_unlike : yX12_unlike.cls ≠ "java/lang/invoke/MethodHandle" ∧ yX12_unlike.cls ≠ "java/lang/invoke/VarHandle" ∧ (parseMethodDescriptor yX12_unlike.desc).map (fun d => d.parameters.length) = some 2 := by decide +kernel
theorem hd_yX11_span : yX11_span.cls ≠ "java/lang/invoke/MethodHandle" ∧ yX11_span.cls ≠ "java/lang/invoke/VarHandle" ∧ (parseMethodDescriptor yX11_span.desc).map (fun d => d.parameters.length) = some 1 := by decide +kernel
theorem hd_yX12_span : yX12_span.cls ≠ "java/lang/invoke/MethodHandle" ∧ yX12_span.cls ≠ "java/lang/invoke/VarHandle" ∧ (parseMethodDescriptor yX12_span.desc).map (fun d => d.parameters.length) = some 1 := by decide +kernel
theorem hd_yX11_ahead : yX11_ahead.cls ≠ "java/lang/invoke/MethodHandle" ∧ yX11_ahead.cls ≠ "java/lang/invoke/VarHandle" ∧ (parseMethodDescriptor yX11_ahead.desc).map (fun d => d.parameters.length) = some 0 := by decide +kernel
theorem hd_yX12_ahead : yX12_ahead.cls ≠ "java/lang/invoke/MethodHandle" ∧ yX12_ahead.cls ≠ "java/lang/invoke/VarHandle" ∧ (parseMethodDescriptor yX12_ahead.desc).map (fun d => d.parameters.length) = some 0 := by decide +kernel
theorem hd_yX11_put : yX11_put.cls ≠ "java/lang/invoke/MethodHandle" ∧ yX11_put.cls ≠ "java/lang/invoke/VarHandle" ∧ (parseMethodDescriptor yX11_put.desc).map (fun d => d.parameters.length) = some 1 := by decide +kernel
theorem hd_yX12_put : yX12_put.cls ≠ "java/lang/invoke/MethodHandle" ∧ yX12_put.cls ≠ "java/lang/invoke/VarHandle" ∧ (parseMethodDescriptor yX12_put.desc).map (fun d => d.parameters.length) = some 1 := by decide +kernel
theorem hd_yX11_worth : yX11_worth.cls ≠ "java/lang/invoke/MethodHandle" ∧ yX11_worth.cls ≠ "java/lang/invoke/VarHandle" ∧ (parseMethodDescriptor yX11_worth.desc).map (fun d => d.parameters.length) = some 1 := by decide +kernel
theorem hd_yX12_worth : yX12_worth.cls ≠ "java/lang/invoke/MethodHandle" ∧ yX12_worth.cls ≠ "java/lang/invoke/VarHandle" ∧ (parseMethodDescriptor yX12_worth.desc).map (fun d => d.parameters.length) = some 1 := by decide +kernel
theorem hd_yX11_chosen : yX11_chosen.cls ≠ "java/lang/invoke/MethodHandle" ∧ yX11_chosen.cls ≠ "java/lang/invoke/VarHandle" ∧ (parseMethodDescriptor yX11_chosen.desc).map (fun d => d.parameters.length) = some 2 := by decide +kernel
theorem hd_yX12_chosen : yX12_chosen.cls ≠ "java/lang/invoke/MethodHandle" ∧ yX12_chosen.cls ≠ "java/lang/invoke/VarHandle" ∧ (parseMethodDescriptor yX12_chosen.desc).map (fun d => d.parameters.length) = some 2 := by decide +kernel
theorem hd_yX11_image : yX11_image.cls ≠ "java/lang/invoke/MethodHandle" ∧ yX11_image.cls ≠ "java/lang/invoke/VarHandle" ∧ (parseMethodDescriptor yX11_image.desc).map (fun d => d.parameters.length) = some 0 := by decide +kernel
theorem hd_yX12_image : yX12_image.cls ≠ "java/lang/invoke/MethodHandle" ∧ yX12_image.cls ≠ "java/lang/invoke/VarHandle" ∧ (parseMethodDescriptor yX12_image.desc).map (fun d => d.parameters.length) = some 0 := by decide +kernel
theorem hd_yX11_octet : yX11_octet.cls ≠ "java/lang/invoke/MethodHandle" ∧ yX11_octet.cls ≠ "java/lang/invoke/VarHandle" ∧ (parseMethodDescriptor yX11_octet.desc).map (fun d => d.parameters.length) = some 1 := by decide +kernel
theorem hd_yX12_octet : yX12_octet.cls ≠ "java/lang/invoke/MethodHandle" ∧ yX12_octet.cls ≠ "java/lang/invoke/VarHandle" ∧ (parseMethodDescriptor yX12_octet.desc).map (fun d => d.parameters.length) = some 1 := by decide +kernel
theorem hd_yX11_on : yX11_on.cls ≠ "java/lang/invoke/MethodHandle" ∧ yX11_on.cls ≠ "java/lang/invoke/VarHandle" ∧ (parseMethodDescriptor yX11_on.desc).map (fun d => d.parameters.length) = some 0 := by decide +kernel
theorem hd_yX12_on : yX12_on.cls ≠ "java/lang/invoke/MethodHandle" ∧ yX12_on.cls ≠ "java/lang/invoke/VarHandle" ∧ (parseMethodDescriptor yX12_on.desc).map (fun d => d.parameters.length) = some 0 := by decide +kernel
theorem hd_yX11_init : yX11_init.cls ≠ "java/lang/invoke/MethodHandle" ∧ yX11_init.cls ≠ "java/lang/invoke/VarHandle" ∧ (parseMethodDescriptor yX11_init.desc).map (fun d => d.parameters.length) = some 0 := by decide +kernel
theorem hd_yX12_init : yX12_init.cls ≠ "java/lang/invoke/MethodHandle" ∧ yX12_init.cls ≠ "java/lang/invoke/VarHandle" ∧ (parseMethodDescriptor yX12_init.desc).map (fun d => d.parameters.length) = some 0 := by decide +kernel
