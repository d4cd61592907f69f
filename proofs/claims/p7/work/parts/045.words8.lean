theorem tw_1464 : (.fieldLink RX12 133 "ManyOutModel" "bestNumbers" "[I" : Cond) ∈ lw_gd := g_mem (List.mem_append_right _ (g_k7 (List.mem_of_getElem? (i := 24) rfl))) rfl
theorem tw_1971 : (.code yX12_isLeast cX12_isLeast 9 (some .boolean) : Cond) ∈ lw_gd := g_mem (List.mem_append_right _ (g_k9 (List.mem_of_getElem? (i := 51) rfl))) rfl
theorem tp_109 : (.selects RX12 yX12_isLeast yX12_isLeast : Cond) ∈ lw_gd := g_mem (List.mem_append_left _ (List.mem_of_getElem? (i := 109) (by decide +kernel))) rfl
theorem tw_1970 : (.instanceMethod yX12_isLeast : Cond) ∈ lw_gd := g_mem (List.mem_append_right _ (g_k9 (List.mem_of_getElem? (i := 50) rfl))) rfl
theorem tw_1036 : (.methodLink RX11 296 yX2_makeSteps : Cond) ∈ lw_gd := g_mem (List.mem_append_right _ (g_k5 (List.mem_of_getElem? (i := 76) rfl))) rfl
theorem tw_1040 : (.methodLink RX2 60 yX2_makeStep : Cond) ∈ lw_gd := g_mem (List.mem_append_right _ (g_k5 (List.mem_of_getElem? (i := 80) rfl))) rfl
theorem tw_1044 : (.methodLink RX2 64 yX2_timesIn : Cond) ∈ lw_gd := g_mem (List.mem_append_right _ (g_k5 (List.mem_of_getElem? (i := 84) rfl))) rfl
theorem tw_1048 : (.methodLink RX2 75 yX8_productOf : Cond) ∈ lw_gd := g_mem (List.mem_append_right _ (g_k5 (List.mem_of_getElem? (i := 88) rfl))) rfl
theorem tw_1049 : (.methodLink RX2 78 Lib.Math.abs.name : Cond) ∈ lw_gd := g_mem (List.mem_append_right _ (g_k5 (List.mem_of_getElem? (i := 89) rfl))) rfl
theorem tw_1047 : (.code yX2_timesIn cX2_timesIn 6 (some .int) : Cond) ∈ lw_gd := g_mem (List.mem_append_right _ (g_k5 (List.mem_of_getElem? (i := 87) rfl))) rfl
theorem tp_41 : (.selects RX2 yX2_timesIn yX2_timesIn : Cond) ∈ lw_gd := g_mem (List.mem_append_left _ (List.mem_of_getElem? (i := 41) (by decide +kernel))) rfl
theorem tw_1046 : (.instanceMethod yX2_timesIn : Cond) ∈ lw_gd := g_mem (List.mem_append_right _ (g_k5 (List.mem_of_getElem? (i := 86) rfl))) rfl
theorem tw_1050 : (.methodLink RX2 68 yX2_remember : Cond) ∈ lw_gd := g_mem (List.mem_append_right _ (g_k5 (List.mem_of_getElem? (i := 90) rfl))) rfl
theorem tw_1053 : (.code yX2_remember cX2_remember 5 none : Cond) ∈ lw_gd := g_mem (List.mem_append_right _ (g_k5 (List.mem_of_getElem? (i := 93) rfl))) rfl
theorem tp_42 : (.selects RX2 yX2_remember yX2_remember : Cond) ∈ lw_gd := g_mem (List.mem_append_left _ (List.mem_of_getElem? (i := 42) (by decide +kernel))) rfl
theorem tw_1052 : (.instanceMethod yX2_remember : Cond) ∈ lw_gd := g_mem (List.mem_append_right _ (g_k5 (List.mem_of_getElem? (i := 92) rfl))) rfl
theorem tw_1058 : (.methodLink RX2 72 yX2_takeAway : Cond) ∈ lw_gd := g_mem (List.mem_append_right _ (g_k5 (List.mem_of_getElem? (i := 98) rfl))) rfl
theorem tw_1062 : (.methodLink RX2 83 yX8_takeAway : Cond) ∈ lw_gd := g_mem (List.mem_append_right _ (g_k5 (List.mem_of_getElem? (i := 102) rfl))) rfl
theorem tw_1065 : (.code yX8_takeAway cX8_takeAway 5 none : Cond) ∈ lw_gd := g_mem (List.mem_append_right _ (g_k5 (List.mem_of_getElem? (i := 105) rfl))) rfl
theorem tw_1064 : (.selects RX8 yX8_takeAway yX8_takeAway : Cond) ∈ lw_gd := g_mem (List.mem_append_right _ (g_k5 (List.mem_of_getElem? (i := 104) rfl))) rfl
theorem tw_1063 : (.instanceMethod yX8_takeAway : Cond) ∈ lw_gd := g_mem (List.mem_append_right _ (g_k5 (List.mem_of_getElem? (i := 103) rfl))) rfl
theorem tw_1061 : (.code yX2_takeAway cX2_takeAway 5 none : Cond) ∈ lw_gd := g_mem (List.mem_append_right _ (g_k5 (List.mem_of_getElem? (i := 101) rfl))) rfl
theorem tp_44 : (.selects RX2 yX2_takeAway yX2_takeAway : Cond) ∈ lw_gd := g_mem (List.mem_append_left _ (List.mem_of_getElem? (i := 44) (by decide +kernel))) rfl
theorem tw_1060 : (.instanceMethod yX2_takeAway : Cond) ∈ lw_gd := g_mem (List.mem_append_right _ (g_k5 (List.mem_of_getElem? (i := 100) rfl))) rfl
theorem tw_1043 : (.code yX2_makeStep cX2_makeStep 4 (some .boolean) : Cond) ∈ lw_gd := g_mem (List.mem_append_right _ (g_k5 (List.mem_of_getElem? (i := 83) rfl))) rfl
theorem tp_40 : (.selects RX2 yX2_makeStep yX2_makeStep : Cond) ∈ lw_gd := g_mem (List.mem_append_left _ (List.mem_of_getElem? (i := 40) (by decide +kernel))) rfl
theorem tw_1042 : (.instanceMethod yX2_makeStep : Cond) ∈ lw_gd := g_mem (List.mem_append_right _ (g_k5 (List.mem_of_getElem? (i := 82) rfl))) rfl
theorem tw_1039 : (.code yX2_makeSteps cX2_makeSteps 3 (some .int) : Cond) ∈ lw_gd := g_mem (List.mem_append_right _ (g_k5 (List.mem_of_getElem? (i := 79) rfl))) rfl
theorem tw_1038 : (.selects RX2 yX2_makeSteps yX2_makeSteps : Cond) ∈ lw_gd := g_mem (List.mem_append_right _ (g_k5 (List.mem_of_getElem? (i := 78) rfl))) rfl
theorem tw_1037 : (.instanceMethod yX2_makeSteps : Cond) ∈ lw_gd := g_mem (List.mem_append_right _ (g_k5 (List.mem_of_getElem? (i := 77) rfl))) rfl
theorem tw_1071 : (.methodLink RX11 299 yX2_undoStep : Cond) ∈ lw_gd := g_mem (List.mem_append_right _ (g_k5 (List.mem_of_getElem? (i := 111) rfl))) rfl
theorem tw_1074 : (.code yX2_undoStep cX2_undoStep 2 (some .boolean) : Cond) ∈ lw_gd := g_mem (List.mem_append_right _ (g_k5 (List.mem_of_getElem? (i := 114) rfl))) rfl
theorem tw_1073 : (.selects RX2 yX2_undoStep yX2_undoStep : Cond) ∈ lw_gd := g_mem (List.mem_append_right _ (g_k5 (List.mem_of_getElem? (i := 113) rfl))) rfl
theorem tw_1072 : (.instanceMethod yX2_undoStep : Cond) ∈ lw_gd := g_mem (List.mem_append_right _ (g_k5 (List.mem_of_getElem? (i := 112) rfl))) rfl
theorem tw_1079 : (.methodLink RX11 302 yX2_redoStep : Cond) ∈ lw_gd := g_mem (List.mem_append_right _ (g_k5 (List.mem_of_getElem? (i := 119) rfl))) rfl
theorem tw_1082 : (.code yX2_redoStep cX2_redoStep 2 (some .boolean) : Cond) ∈ lw_gd := g_mem (List.mem_append_right _ (g_k5 (List.mem_of_getElem? (i := 122) rfl))) rfl
theorem tw_1081 : (.selects RX2 yX2_redoStep yX2_redoStep : Cond) ∈ lw_gd := g_mem (List.mem_append_right _ (g_k5 (List.mem_of_getElem? (i := 121) rfl))) rfl
theorem tw_1080 : (.instanceMethod yX2_redoStep : Cond) ∈ lw_gd := g_mem (List.mem_append_right _ (g_k5 (List.mem_of_getElem? (i := 120) rfl))) rfl
theorem tw_1390 : (.methodLink RX11 407 yX11_isImage : Cond) ∈ lw_gd := g_mem (List.mem_append_right _ (g_k6 (List.mem_of_getElem? (i := 190) rfl))) rfl
theorem tw_1393 : (.code yX11_isImage cX11_isImage 4 (some .boolean) : Cond) ∈ lw_gd := g_mem (List.mem_append_right _ (g_k6 (List.mem_of_getElem? (i := 193) rfl))) rfl
theorem tp_58 : (.selects RX11 yX11_isImage yX11_isImage : Cond) ∈ lw_gd := g_mem (List.mem_append_left _ (List.mem_of_getElem? (i := 58) (by decide +kernel))) rfl
theorem tw_1392 : (.instanceMethod yX11_isImage : Cond) ∈ lw_gd := g_mem (List.mem_append_right _ (g_k6 (List.mem_of_getElem? (i := 192) rfl))) rfl
theorem tw_433 : (.fieldLink RX11 80 "ManyOut" "spareLed" "LManyOut$Led;" : Cond) ∈ lw_gd := g_mem (List.mem_append_right _ (g_k2 (List.mem_of_getElem? (i := 193) rfl))) rfl
theorem hd_yX12_isLeast : yX12_isLeast.cls ≠ "java/lang/invoke/MethodHandle" ∧ yX12_isLeast.cls ≠ "java/lang/invoke/VarHandle" ∧ (parseMethodDescriptor yX12_isLeast.desc).map (fun d => d.parameters.length) = some 3 := by decide +kernel
theorem hd_yX2_timesIn : yX2_timesIn.cls ≠ "java/lang/invoke/MethodHandle" ∧ yX2_timesIn.cls ≠ "java/lang/invoke/VarHandle" ∧ (parseMethodDescriptor yX2_timesIn.desc).map (fun d => d.parameters.length) = some 2 := by decide +kernel
theorem hd_yX2_remember : yX2_remember.cls ≠ "java/lang/invoke/MethodHandle" ∧ yX2_remember.cls ≠ "java/lang/invoke/VarHandle" ∧ (parseMethodDescriptor yX2_remember.desc).map (fun d => d.parameters.length) = some 3 := by decide +kernel
theorem hd_yX8_takeAway : yX8_takeAway.cls ≠ "java/lang/invoke/MethodHandle" ∧ yX8_takeAway.cls ≠ "java/lang/invoke/VarHandle" ∧ (parseMethodDescriptor yX8_takeAway.desc).map (fun d => d.parameters.length) = some 3 := by decide +kernel
theorem hd_yX2_takeAway : yX2_takeAway.cls ≠ "java/lang/invoke/MethodHandle" ∧ yX2_takeAway.cls ≠ "java/lang/invoke/VarHandle" ∧ (parseMethodDescriptor yX2_takeAway.desc).map (fun d => d.parameters.length) = some 3 := by decide +kernel
theorem hd_yX2_makeStep : yX2_makeStep.cls ≠ "java/lang/invoke/MethodHandle" ∧ yX2_makeStep.cls ≠ "java/lang/invoke/VarHandle" ∧ (parseMethodDescriptor yX2_makeStep.desc).map (fun d => d.parameters.length) = some 0 := by decide +kernel
theorem hd_yX2_makeSteps : yX2_makeSteps.cls ≠ "java/lang/invoke/MethodHandle" ∧ yX2_makeSteps.cls ≠ "java/lang/invoke/VarHandle" ∧ (parseMethodDescriptor yX2_makeSteps.desc).map (fun d => d.parameters.length) = some 1 := by decide +kernel
theorem hd_yX2_undoStep : yX2_undoStep.cls ≠ "java/lang/invoke/MethodHandle" ∧ yX2_undoStep.cls ≠ "java/lang/invoke/VarHandle" ∧ (parseMethodDescriptor yX2_undoStep.desc).map (fun d => d.parameters.length) = some 0 := by decide +kernel
theorem hd_yX2_redoStep : yX2_redoStep.cls ≠ "java/lang/invoke/MethodHandle" ∧ yX2_redoStep.cls ≠ "java/lang/invoke/VarHandle" ∧ (parseMethodDescriptor yX2_redoStep.desc).map (fun d => d.parameters.length) = some 0 := by decide +kernel
theorem hd_yX11_isImage : yX11_isImage.cls ≠ "java/lang/invoke/MethodHandle" ∧ yX11_isImage.cls ≠ "java/lang/invoke/VarHandle" ∧ (parseMethodDescriptor yX11_isImage.desc).map (fun d => d.parameters.length) = some 0 := by decide +kernel
