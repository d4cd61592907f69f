set_option maxHeartbeats 4000000 in
set_option maxRecDepth 100000 in
theorem k_X5_partBy (l : Launch) (D : va_G) (cB cC cI cJ : ClassId) (sz : Nat) (x0 x1 x2 x3 : Int32) : Met l yX5_partBy (.code yX5_partBy cX5_partBy 4 (some .int) :: lw_gd) ({ frames := 0, cells := 0, slots := 0, locals := 0 }) (gPre D [(cB, .byte), (cC, .char), (cI, .int), (cJ, .long)] [.int x0, .int x1, .int x2, .int x3] [] sz) (va_Qi (fun r u => ((r.toInt = x3.toInt ∧ x0.toInt = (-3)) ∨ (r.toInt = x2.toInt ∧ x0.toInt = (-2)) ∨ (r.toInt = x1.toInt ∧ x0.toInt = (-1)) ∨ (r.toInt = x0.toInt ∧ (x0.toInt < (-3) ∨ (-1) < x0.toInt)))) (gB D (va_A [] sz) (fun u : gEx => [])) (va_A [] sz)) 0 0 (va_A [] sz) := by
  refine gOf_i (by decide +kernel) (Nat.le_of_ble_eq_true rfl) ?_
  intro p e s m args below meth c ls A Q hx hb hts hown hml hN hK hP hD hA hl hret
  replace hown : s.vm.findClass RX5 = some m.cls := hown
  have hS : va_S A s.heap s.heap [] := va_S.rf
  replace hP : va_P D gcl [] s.heap := hP
  replace hl : lv_has ls 4 [(0, .int x0), (1, .int x1), (2, .int x2), (3, .int x3)] := hl
  have rx0 : zBd x0.toInt (-2147483648) 2147483647 := n_rng x0
  have rx1 : zBd x1.toInt (-2147483648) 2147483647 := n_rng x1
  have rx2 : zBd x2.toInt (-2147483648) 2147483647 := n_rng x2
  have rx3 : zBd x3.toInt (-2147483648) 2147483647 := n_rng x3
  refine lv_iload_n (pc := 0) hx hb dX5_partBy_0 rfl (lv_at hl 0 rfl) ?_
  by_cases h_1 : x0.toInt = (-3)
  ·
    refine lv_tableIn (pc := 1) (off := 31) (tgt := 32) hx hb dX5_partBy_1 (by rw [h_1]; decide) (by rw [h_1]; decide) (by rw [h_1]; decide +kernel) (by decide) ?_
    refine lv_iload_n (pc := 32) hx hb dX5_partBy_32 rfl (lv_at hl 3 rfl) ?_
    exact hret x3 ((fun _ => 0), (fun _ => (fun _ => 0)), (fun _ => (fun _ => 0)), (fun _ => 0), (fun _ => 0)) dX5_partBy_33 (show ((x3.toInt = x3.toInt ∧ x0.toInt = (-3)) ∨ (x3.toInt = x2.toInt ∧ x0.toInt = (-2)) ∨ (x3.toInt = x1.toInt ∧ x0.toInt = (-1)) ∨ (x3.toInt = x0.toInt ∧ (x0.toInt < (-3) ∨ (-1) < x0.toInt))) by (first | omega | (unfold zBd at *; omega))) (g_psub (wc := []) hP [] rfl) (hD.sub (ws' := []) [] (by decide) rfl) hS
  by_cases h_2 : x0.toInt = (-2)
  ·
    refine lv_tableIn (pc := 1) (off := 29) (tgt := 30) hx hb dX5_partBy_1 (by rw [h_2]; decide) (by rw [h_2]; decide) (by rw [h_2]; decide +kernel) (by decide) ?_
    refine lv_iload_n (pc := 30) hx hb dX5_partBy_30 rfl (lv_at hl 2 rfl) ?_
    exact hret x2 ((fun _ => 0), (fun _ => (fun _ => 0)), (fun _ => (fun _ => 0)), (fun _ => 0), (fun _ => 0)) dX5_partBy_31 (show ((x2.toInt = x3.toInt ∧ x0.toInt = (-3)) ∨ (x2.toInt = x2.toInt ∧ x0.toInt = (-2)) ∨ (x2.toInt = x1.toInt ∧ x0.toInt = (-1)) ∨ (x2.toInt = x0.toInt ∧ (x0.toInt < (-3) ∨ (-1) < x0.toInt))) by (first | omega | (unfold zBd at *; omega))) (g_psub (wc := []) hP [] rfl) (hD.sub (ws' := []) [] (by decide) rfl) hS
  by_cases h_3 : x0.toInt = (-1)
  ·
    refine lv_tableIn (pc := 1) (off := 27) (tgt := 28) hx hb dX5_partBy_1 (by rw [h_3]; decide) (by rw [h_3]; decide) (by rw [h_3]; decide +kernel) (by decide) ?_
    refine lv_iload_n (pc := 28) hx hb dX5_partBy_28 rfl (lv_at hl 1 rfl) ?_
    exact hret x1 ((fun _ => 0), (fun _ => (fun _ => 0)), (fun _ => (fun _ => 0)), (fun _ => 0), (fun _ => 0)) dX5_partBy_29 (show ((x1.toInt = x3.toInt ∧ x0.toInt = (-3)) ∨ (x1.toInt = x2.toInt ∧ x0.toInt = (-2)) ∨ (x1.toInt = x1.toInt ∧ x0.toInt = (-1)) ∨ (x1.toInt = x0.toInt ∧ (x0.toInt < (-3) ∨ (-1) < x0.toInt))) by (first | omega | (unfold zBd at *; omega))) (g_psub (wc := []) hP [] rfl) (hD.sub (ws' := []) [] (by decide) rfl) hS
  refine lv_tableOut (pc := 1) (tgt := 34) hx hb dX5_partBy_1 (by (first | omega | (unfold zBd at *; omega))) (by decide) ?_
  refine lv_iload_n (pc := 34) hx hb dX5_partBy_34 rfl (lv_at hl 0 rfl) ?_
  exact hret x0 ((fun _ => 0), (fun _ => (fun _ => 0)), (fun _ => (fun _ => 0)), (fun _ => 0), (fun _ => 0)) dX5_partBy_35 (show ((x0.toInt = x3.toInt ∧ x0.toInt = (-3)) ∨ (x0.toInt = x2.toInt ∧ x0.toInt = (-2)) ∨ (x0.toInt = x1.toInt ∧ x0.toInt = (-1)) ∨ (x0.toInt = x0.toInt ∧ (x0.toInt < (-3) ∨ (-1) < x0.toInt))) by (first | omega | (unfold zBd at *; omega))) (g_psub (wc := []) hP [] rfl) (hD.sub (ws' := []) [] (by decide) rfl) hS
set_option maxHeartbeats 4000000 in
set_option maxRecDepth 100000 in
theorem k_X5_bounded (l : Launch) (D : va_G) (cB cC cI cJ : ClassId) (sz : Nat) (y0 : Int64) : Met l yX5_bounded (.code yX5_bounded cX5_bounded 2 (some .int) :: lw_gd) ({ frames := 1, cells := 0, slots := 0, locals := 22 }) (gPre D [(cB, .byte), (cC, .char), (cI, .int), (cJ, .long)] [.long y0] [] sz) (va_Qi (fun r u => ((((-2147483648) ≤ r.toInt ∧ r.toInt ≤ 2147483647)))) (gB D (va_A [] sz) (fun u : gEx => [])) (va_A [] sz)) 0 0 (va_A [] sz) := by
  refine gOf_i (by decide +kernel) (Nat.le_of_ble_eq_true rfl) ?_
  intro p e s m args below meth c ls A Q hx hb hts hown hml hN hK hP hD hA hl hret
  replace hown : s.vm.findClass RX5 = some m.cls := hown
  have hS : va_S A s.heap s.heap [] := va_S.rf
  replace hP : va_P D gcl [] s.heap := hP
  replace hl : lv_has ls 2 [(0, .long y0)] := hl
  have ry0 := n_rngL y0
  refine lv_ldc2 (pc := 0) hx hb hown (hts _ tw_1350) dX5_bounded_0 ?_
  refine lv_ldc2 (pc := 3) hx hb hown (hts _ tw_1351) dX5_bounded_3 ?_
  refine lv_lload_n (pc := 6) hx hb dX5_bounded_6 rfl (lv_at hl 0 rfl) ?_
  refine va_mmin_long (pc := 7) hx hb (hml.trans hl.1.symm) hown (hts _ tw_1352) (hts _ tw_857) (hts _ tw_19) (hts _ tw_858) (Nat.le_of_ble_eq_true rfl) (Nat.le_of_ble_eq_true rfl) (Nat.le_of_ble_eq_true rfl) (Nat.le_of_ble_eq_true rfl) dX5_bounded_7 ?_
  refine lv_topl (fun y_1 ey_1 => ?_)
  have ey_1 := n_minL tL_1000000 rfl ey_1
  have ry_1 := n_rngL y_1
  refine va_mmax_long (pc := 10) hx hb (hml.trans hl.1.symm) hown (hts _ tw_1353) (hts _ tw_860) (hts _ tw_19) (hts _ tw_861) (Nat.le_of_ble_eq_true rfl) (Nat.le_of_ble_eq_true rfl) (Nat.le_of_ble_eq_true rfl) (Nat.le_of_ble_eq_true rfl) dX5_bounded_10 ?_
  refine lv_topl (fun y_2 ey_2 => ?_)
  have ey_2 := n_maxL tL_m1000000 rfl ey_2
  have ry_2 := n_rngL y_2
  refine lv_l2i (pc := 13) hx hb dX5_bounded_13 rfl ?_
  refine lv_topi (fun x_3 _ => ?_)
  have rx_3 : zBd x_3.toInt (-2147483648) 2147483647 := n_rng x_3
  exact hret x_3 ((fun _ => 0), (fun _ => (fun _ => 0)), (fun _ => (fun _ => 0)), (fun _ => 0), (fun _ => 0)) dX5_bounded_14 (show ((((-2147483648) ≤ x_3.toInt ∧ x_3.toInt ≤ 2147483647))) by (first | omega | (unfold zBd at *; omega))) (g_psub (wc := []) hP [] rfl) (hD.sub (ws' := []) [] (by decide) rfl) hS
set_option maxHeartbeats 4000000 in
set_option maxRecDepth 100000 in
theorem k_X5_joined (l : Launch) (D : va_G) (cB cC cI cJ : ClassId) (sz : Nat) (x0 x1 x2 : Int32) : Met l yX5_joined (.code yX5_joined cX5_joined 3 (some .int) :: lw_gd) ({ frames := 2, cells := 0, slots := 0, locals := 43 }) (gPre D [(cB, .byte), (cC, .char), (cI, .int), (cJ, .long)] [.int x0, .int x1, .int x2] [] sz) (va_Qi (fun r u => True) (gB D (va_A [] sz) (fun u : gEx => [])) (va_A [] sz)) 0 0 (va_A [] sz) := by
  refine gOf_i (by decide +kernel) (Nat.le_of_ble_eq_true rfl) ?_
  intro p e s m args below meth c ls A Q hx hb hts hown hml hN hK hP hD hA hl hret
  replace hown : s.vm.findClass RX5 = some m.cls := hown
  have hS : va_S A s.heap s.heap [] := va_S.rf
  replace hP : va_P D gcl [] s.heap := hP
  replace hl : lv_has ls 3 [(0, .int x0), (1, .int x1), (2, .int x2)] := hl
  have rx0 : zBd x0.toInt (-2147483648) 2147483647 := n_rng x0
  have rx1 : zBd x1.toInt (-2147483648) 2147483647 := n_rng x1
  have rx2 : zBd x2.toInt (-2147483648) 2147483647 := n_rng x2
  refine lv_iload_n (pc := 0) hx hb dX5_joined_0 rfl (lv_at hl 0 rfl) ?_
  by_cases h_1 : x0.toInt = (-15)
  ·
    refine lv_tableIn (pc := 1) (off := 149) (tgt := 150) hx hb dX5_joined_1 (by rw [h_1]; decide) (by rw [h_1]; decide) (by rw [h_1]; decide +kernel) (by decide) ?_
    refine lv_iload_n (pc := 150) hx hb dX5_joined_150 rfl (lv_at hl 1 rfl) ?_
    refine lv_iload_n (pc := 151) hx hb dX5_joined_151 rfl (lv_at hl 2 rfl) ?_
    refine lv_ior (pc := 152) hx hb dX5_joined_152 ?_
    refine lv_topi (fun x_2 _ => ?_)
    have rx_2 : zBd x_2.toInt (-2147483648) 2147483647 := n_rng x_2
    exact hret x_2 ((fun _ => 0), (fun _ => (fun _ => 0)), (fun _ => (fun _ => 0)), (fun _ => 0), (fun _ => 0)) dX5_joined_153 trivial (g_psub (wc := []) hP [] rfl) (hD.sub (ws' := []) [] (by decide) rfl) hS
  by_cases h_3 : x0.toInt = (-14)
  ·
    refine lv_tableIn (pc := 1) (off := 145) (tgt := 146) hx hb dX5_joined_1 (by rw [h_3]; decide) (by rw [h_3]; decide) (by rw [h_3]; decide +kernel) (by decide) ?_
    refine lv_iload_n (pc := 146) hx hb dX5_joined_146 rfl (lv_at hl 1 rfl) ?_
    refine lv_iload_n (pc := 147) hx hb dX5_joined_147 rfl (lv_at hl 2 rfl) ?_
    refine lv_iand (pc := 148) hx hb dX5_joined_148 ?_
    refine lv_topi (fun x_4 _ => ?_)
    have rx_4 : zBd x_4.toInt (-2147483648) 2147483647 := n_rng x_4
    exact hret x_4 ((fun _ => 0), (fun _ => (fun _ => 0)), (fun _ => (fun _ => 0)), (fun _ => 0), (fun _ => 0)) dX5_joined_149 trivial (g_psub (wc := []) hP [] rfl) (hD.sub (ws' := []) [] (by decide) rfl) hS
  by_cases h_5 : x0.toInt = (-13)
  ·
    refine lv_tableIn (pc := 1) (off := 134) (tgt := 135) hx hb dX5_joined_1 (by rw [h_5]; decide) (by rw [h_5]; decide) (by rw [h_5]; decide +kernel) (by decide) ?_
    refine lv_iload_n (pc := 135) hx hb dX5_joined_135 rfl (lv_at hl 1 rfl) ?_
    refine lv_iload_n (pc := 136) hx hb dX5_joined_136 rfl (lv_at hl 2 rfl) ?_
    refine b_icmp_ne (pc := 137) (tgt := 144) hx hb rfl rfl  dX5_joined_137 (by decide) (fun c_6 => ?_) (fun c_6 => ?_)
    ·
      refine lv_iconst (pc := 144) (v := 0) hx hb dX5_joined_144 (by decide) ?_
      exact hret 0 ((fun _ => 0), (fun _ => (fun _ => 0)), (fun _ => (fun _ => 0)), (fun _ => 0), (fun _ => 0)) dX5_joined_145 trivial (g_psub (wc := []) hP [] rfl) (hD.sub (ws' := []) [] (by decide) rfl) hS
    ·
      refine lv_iconst (pc := 140) (v := 1) hx hb dX5_joined_140 (by decide) ?_
      refine lv_goto (pc := 141) (tgt := 145) hx hb dX5_joined_141 (by decide) ?_
      exact hret 1 ((fun _ => 0), (fun _ => (fun _ => 0)), (fun _ => (fun _ => 0)), (fun _ => 0), (fun _ => 0)) dX5_joined_145 trivial (g_psub (wc := []) hP [] rfl) (hD.sub (ws' := []) [] (by decide) rfl) hS
  by_cases h_7 : x0.toInt = (-12)
  ·
    refine lv_tableIn (pc := 1) (off := 123) (tgt := 124) hx hb dX5_joined_1 (by rw [h_7]; decide) (by rw [h_7]; decide) (by rw [h_7]; decide +kernel) (by decide) ?_
    refine lv_iload_n (pc := 124) hx hb dX5_joined_124 rfl (lv_at hl 1 rfl) ?_
    refine lv_iload_n (pc := 125) hx hb dX5_joined_125 rfl (lv_at hl 2 rfl) ?_
    refine b_icmp_le (pc := 126) (tgt := 133) hx hb rfl rfl  dX5_joined_126 (by decide) (fun c_8 => ?_) (fun c_8 => ?_)
    ·
      refine lv_iconst (pc := 133) (v := 0) hx hb dX5_joined_133 (by decide) ?_
      exact hret 0 ((fun _ => 0), (fun _ => (fun _ => 0)), (fun _ => (fun _ => 0)), (fun _ => 0), (fun _ => 0)) dX5_joined_134 trivial (g_psub (wc := []) hP [] rfl) (hD.sub (ws' := []) [] (by decide) rfl) hS
    ·
      refine lv_iconst (pc := 129) (v := 1) hx hb dX5_joined_129 (by decide) ?_
      refine lv_goto (pc := 130) (tgt := 134) hx hb dX5_joined_130 (by decide) ?_
      exact hret 1 ((fun _ => 0), (fun _ => (fun _ => 0)), (fun _ => (fun _ => 0)), (fun _ => 0), (fun _ => 0)) dX5_joined_134 trivial (g_psub (wc := []) hP [] rfl) (hD.sub (ws' := []) [] (by decide) rfl) hS
  by_cases h_9 : x0.toInt = (-11)
  ·
    refine lv_tableIn (pc := 1) (off := 112) (tgt := 113) hx hb dX5_joined_1 (by rw [h_9]; decide) (by rw [h_9]; decide) (by rw [h_9]; decide +kernel) (by decide) ?_
    refine lv_iload_n (pc := 113) hx hb dX5_joined_113 rfl (lv_at hl 1 rfl) ?_
    refine lv_iload_n (pc := 114) hx hb dX5_joined_114 rfl (lv_at hl 2 rfl) ?_
    refine b_icmp_ge (pc := 115) (tgt := 122) hx hb rfl rfl  dX5_joined_115 (by decide) (fun c_10 => ?_) (fun c_10 => ?_)
    ·
      refine lv_iconst (pc := 122) (v := 0) hx hb dX5_joined_122 (by decide) ?_
      exact hret 0 ((fun _ => 0), (fun _ => (fun _ => 0)), (fun _ => (fun _ => 0)), (fun _ => 0), (fun _ => 0)) dX5_joined_123 trivial (g_psub (wc := []) hP [] rfl) (hD.sub (ws' := []) [] (by decide) rfl) hS
    ·
      refine lv_iconst (pc := 118) (v := 1) hx hb dX5_joined_118 (by decide) ?_
      refine lv_goto (pc := 119) (tgt := 123) hx hb dX5_joined_119 (by decide) ?_
      exact hret 1 ((fun _ => 0), (fun _ => (fun _ => 0)), (fun _ => (fun _ => 0)), (fun _ => 0), (fun _ => 0)) dX5_joined_123 trivial (g_psub (wc := []) hP [] rfl) (hD.sub (ws' := []) [] (by decide) rfl) hS
  by_cases h_11 : x0.toInt = (-10)
  ·
    refine lv_tableIn (pc := 1) (off := 106) (tgt := 107) hx hb dX5_joined_1 (by rw [h_11]; decide) (by rw [h_11]; decide) (by rw [h_11]; decide +kernel) (by decide) ?_
    refine lv_iload_n (pc := 107) hx hb dX5_joined_107 rfl (lv_at hl 1 rfl) ?_
    refine lv_iload_n (pc := 108) hx hb dX5_joined_108 rfl (lv_at hl 2 rfl) ?_
    refine va_mmax (pc := 109) hx hb (hml.trans hl.1.symm) hown (hts _ tw_1360) (hts _ tw_885) (hts _ tw_19) (hts _ tw_886) (Nat.le_of_ble_eq_true rfl) (Nat.le_of_ble_eq_true rfl) (Nat.le_of_ble_eq_true rfl) (Nat.le_of_ble_eq_true rfl) dX5_joined_109 ?_
    refine lv_topi (fun x_12 ex_12 => ?_)
    have ex_12 := n_max rfl rfl ex_12
    have rx_12 : zBd x_12.toInt (-2147483648) 2147483647 := n_rng x_12
    exact hret x_12 ((fun _ => 0), (fun _ => (fun _ => 0)), (fun _ => (fun _ => 0)), (fun _ => 0), (fun _ => 0)) dX5_joined_112 trivial (g_psub (wc := []) hP [] rfl) (hD.sub (ws' := []) [] (by decide) rfl) hS
  by_cases h_13 : x0.toInt = (-9)
  ·
    refine lv_tableIn (pc := 1) (off := 100) (tgt := 101) hx hb dX5_joined_1 (by rw [h_13]; decide) (by rw [h_13]; decide) (by rw [h_13]; decide +kernel) (by decide) ?_
    refine lv_iload_n (pc := 101) hx hb dX5_joined_101 rfl (lv_at hl 1 rfl) ?_
    refine lv_iload_n (pc := 102) hx hb dX5_joined_102 rfl (lv_at hl 2 rfl) ?_
    refine va_mmin (pc := 103) hx hb (hml.trans hl.1.symm) hown (hts _ tw_1357) (hts _ tw_1358) (hts _ tw_19) (hts _ tw_1359) (Nat.le_of_ble_eq_true rfl) (Nat.le_of_ble_eq_true rfl) (Nat.le_of_ble_eq_true rfl) (Nat.le_of_ble_eq_true rfl) dX5_joined_103 ?_
    refine lv_topi (fun x_14 ex_14 => ?_)
    have ex_14 := n_min rfl rfl ex_14
    have rx_14 : zBd x_14.toInt (-2147483648) 2147483647 := n_rng x_14
    exact hret x_14 ((fun _ => 0), (fun _ => (fun _ => 0)), (fun _ => (fun _ => 0)), (fun _ => 0), (fun _ => 0)) dX5_joined_106 trivial (g_psub (wc := []) hP [] rfl) (hD.sub (ws' := []) [] (by decide) rfl) hS
  by_cases h_15 : x0.toInt = (-8)
  ·
    refine lv_tableIn (pc := 1) (off := 86) (tgt := 87) hx hb dX5_joined_1 (by rw [h_15]; decide) (by rw [h_15]; decide) (by rw [h_15]; decide +kernel) (by decide) ?_
    refine lv_iload_n (pc := 87) hx hb dX5_joined_87 rfl (lv_at hl 2 rfl) ?_
    refine b_if_ne (pc := 88) (tgt := 95) hx hb rfl  dX5_joined_88 (by decide) (fun c_16 => ?_) (fun c_16 => ?_)
    ·
      refine lv_iload_n (pc := 95) hx hb dX5_joined_95 rfl (lv_at hl 1 rfl) ?_
      refine lv_iload_n (pc := 96) hx hb dX5_joined_96 rfl (lv_at hl 2 rfl) ?_
      refine va_fdi (pc := 97) hx hb (hml.trans hl.1.symm) hown (hts _ tw_1354) (hts _ tw_1355) (hts _ tw_19) (hts _ tw_1356) (Nat.le_of_ble_eq_true rfl) (Nat.le_of_ble_eq_true rfl) (Nat.le_of_ble_eq_true rfl) (Nat.le_of_ble_eq_true rfl) (fun h => by have q := congrArg Int32.toInt h; have k := tI_0; (first | omega | (unfold zBd at *; omega))) dX5_joined_97 (fun x_17 => ?_)
      have rx_17 : zBd x_17.toInt (-2147483648) 2147483647 := n_rng x_17
      exact hret x_17 ((fun _ => 0), (fun _ => (fun _ => 0)), (fun _ => (fun _ => 0)), (fun _ => 0), (fun _ => 0)) dX5_joined_100 trivial (g_psub (wc := []) hP [] rfl) (hD.sub (ws' := []) [] (by decide) rfl) hS
    ·
      refine lv_iconst (pc := 91) (v := 0) hx hb dX5_joined_91 (by decide) ?_
      refine lv_goto (pc := 92) (tgt := 100) hx hb dX5_joined_92 (by decide) ?_
      exact hret 0 ((fun _ => 0), (fun _ => (fun _ => 0)), (fun _ => (fun _ => 0)), (fun _ => 0), (fun _ => 0)) dX5_joined_100 trivial (g_psub (wc := []) hP [] rfl) (hD.sub (ws' := []) [] (by decide) rfl) hS
  by_cases h_18 : x0.toInt = (-7)
  ·
    refine lv_tableIn (pc := 1) (off := 77) (tgt := 78) hx hb dX5_joined_1 (by rw [h_18]; decide) (by rw [h_18]; decide) (by rw [h_18]; decide +kernel) (by decide) ?_
    refine lv_iload_n (pc := 78) hx hb dX5_joined_78 rfl (lv_at hl 1 rfl) ?_
    refine b_i2l (pc := 79) hx hb rfl dX5_joined_79 (fun y_19 ey_19 => ?_)
    have ry_19 : zBd x1.toInt (-2147483648) 2147483647 := n_rng x1
    refine lv_iload_n (pc := 80) hx hb dX5_joined_80 rfl (lv_at hl 2 rfl) ?_
    refine b_i2l (pc := 81) hx hb rfl dX5_joined_81 (fun y_20 ey_20 => ?_)
    have ry_20 : zBd x2.toInt (-2147483648) 2147483647 := n_rng x2
    refine lv_lmul (pc := 82) hx hb dX5_joined_82 ?_
    refine lv_topl (fun y_21 _ => ?_)
    have ry_21 := n_rngL y_21
    refine gc_i (pc := 83) (wc := []) (wr := []) hP hD hS hA [] [] rfl rfl (by decide) (by decide) (by decide) (fun hPc hDc => va_runS (As := [.long y_21]) (rest := []) ⟨hx, hb, hml, hown, hts⟩ (k_X5_bounded l D cB cC cI cJ _ y_21) ⟨gcwB hts tw_1349 tw_6 tw_1347 hd_yX5_bounded ⟨Nat.le_of_ble_eq_true rfl, Nat.le_of_ble_eq_true rfl⟩, hts _ tw_1348⟩ (gpreS hPc hK hDc hN) rfl rfl hl.1 rfl (lv_room (Nat.le_of_ble_eq_true rfl)) dX5_joined_83 ⟨Nat.le_of_ble_eq_true rfl, Nat.le_of_ble_eq_true rfl⟩) (fun r_23 u_22 H locs hw_24 hP hD hS => ?_)
    replace hP : va_P D gcl [] H := hP
    replace hD : va_D A [] := hD
    have hw_25 : ((((-2147483648) ≤ r_23.toInt ∧ r_23.toInt ≤ 2147483647))) := hw_24
    have rr_23 : zBd r_23.toInt (-2147483648) 2147483647 := n_rng r_23
    exact hret r_23 ((fun _ => 0), (fun _ => (fun _ => 0)), (fun _ => (fun _ => 0)), (fun _ => 0), (fun _ => 0)) dX5_joined_86 trivial (g_psub (wc := []) hP [] rfl) (hD.sub (ws' := []) [] (by decide) rfl) hS
  by_cases h_26 : x0.toInt = (-6)
  ·
    refine lv_tableIn (pc := 1) (off := 68) (tgt := 69) hx hb dX5_joined_1 (by rw [h_26]; decide) (by rw [h_26]; decide) (by rw [h_26]; decide +kernel) (by decide) ?_
    refine lv_iload_n (pc := 69) hx hb dX5_joined_69 rfl (lv_at hl 1 rfl) ?_
    refine b_i2l (pc := 70) hx hb rfl dX5_joined_70 (fun y_27 ey_27 => ?_)
    have ry_27 : zBd x1.toInt (-2147483648) 2147483647 := n_rng x1
    refine lv_iload_n (pc := 71) hx hb dX5_joined_71 rfl (lv_at hl 2 rfl) ?_
    refine b_i2l (pc := 72) hx hb rfl dX5_joined_72 (fun y_28 ey_28 => ?_)
    have ry_28 : zBd x2.toInt (-2147483648) 2147483647 := n_rng x2
    refine b_lsub (pc := 73) hx hb rfl rfl (by (first | omega | (unfold zBd at *; omega))) (by (first | omega | (unfold zBd at *; omega))) dX5_joined_73 (fun y_29 ey_29 => ?_)
    refine gc_i (pc := 74) (wc := []) (wr := []) hP hD hS hA [] [] rfl rfl (by decide) (by decide) (by decide) (fun hPc hDc => va_runS (As := [.long y_29]) (rest := []) ⟨hx, hb, hml, hown, hts⟩ (k_X5_bounded l D cB cC cI cJ _ y_29) ⟨gcwB hts tw_1349 tw_6 tw_1347 hd_yX5_bounded ⟨Nat.le_of_ble_eq_true rfl, Nat.le_of_ble_eq_true rfl⟩, hts _ tw_1348⟩ (gpreS hPc hK hDc hN) rfl rfl hl.1 rfl (lv_room (Nat.le_of_ble_eq_true rfl)) dX5_joined_74 ⟨Nat.le_of_ble_eq_true rfl, Nat.le_of_ble_eq_true rfl⟩) (fun r_31 u_30 H locs hw_32 hP hD hS => ?_)
    replace hP : va_P D gcl [] H := hP
    replace hD : va_D A [] := hD
    have hw_33 : ((((-2147483648) ≤ r_31.toInt ∧ r_31.toInt ≤ 2147483647))) := hw_32
    have rr_31 : zBd r_31.toInt (-2147483648) 2147483647 := n_rng r_31
    exact hret r_31 ((fun _ => 0), (fun _ => (fun _ => 0)), (fun _ => (fun _ => 0)), (fun _ => 0), (fun _ => 0)) dX5_joined_77 trivial (g_psub (wc := []) hP [] rfl) (hD.sub (ws' := []) [] (by decide) rfl) hS
  by_cases h_34 : x0.toInt = (-5)
  ·
    refine lv_tableIn (pc := 1) (off := 59) (tgt := 60) hx hb dX5_joined_1 (by rw [h_34]; decide) (by rw [h_34]; decide) (by rw [h_34]; decide +kernel) (by decide) ?_
    refine lv_iload_n (pc := 60) hx hb dX5_joined_60 rfl (lv_at hl 1 rfl) ?_
    refine b_i2l (pc := 61) hx hb rfl dX5_joined_61 (fun y_35 ey_35 => ?_)
    have ry_35 : zBd x1.toInt (-2147483648) 2147483647 := n_rng x1
    refine lv_iload_n (pc := 62) hx hb dX5_joined_62 rfl (lv_at hl 2 rfl) ?_
    refine b_i2l (pc := 63) hx hb rfl dX5_joined_63 (fun y_36 ey_36 => ?_)
    have ry_36 : zBd x2.toInt (-2147483648) 2147483647 := n_rng x2
    refine b_ladd (pc := 64) hx hb rfl rfl (by (first | omega | (unfold zBd at *; omega))) (by (first | omega | (unfold zBd at *; omega))) dX5_joined_64 (fun y_37 ey_37 => ?_)
    refine gc_i (pc := 65) (wc := []) (wr := []) hP hD hS hA [] [] rfl rfl (by decide) (by decide) (by decide) (fun hPc hDc => va_runS (As := [.long y_37]) (rest := []) ⟨hx, hb, hml, hown, hts⟩ (k_X5_bounded l D cB cC cI cJ _ y_37) ⟨gcwB hts tw_1349 tw_6 tw_1347 hd_yX5_bounded ⟨Nat.le_of_ble_eq_true rfl, Nat.le_of_ble_eq_true rfl⟩, hts _ tw_1348⟩ (gpreS hPc hK hDc hN) rfl rfl hl.1 rfl (lv_room (Nat.le_of_ble_eq_true rfl)) dX5_joined_65 ⟨Nat.le_of_ble_eq_true rfl, Nat.le_of_ble_eq_true rfl⟩) (fun r_39 u_38 H locs hw_40 hP hD hS => ?_)
    replace hP : va_P D gcl [] H := hP
    replace hD : va_D A [] := hD
    have hw_41 : ((((-2147483648) ≤ r_39.toInt ∧ r_39.toInt ≤ 2147483647))) := hw_40
    have rr_39 : zBd r_39.toInt (-2147483648) 2147483647 := n_rng r_39
    exact hret r_39 ((fun _ => 0), (fun _ => (fun _ => 0)), (fun _ => (fun _ => 0)), (fun _ => 0), (fun _ => 0)) dX5_joined_68 trivial (g_psub (wc := []) hP [] rfl) (hD.sub (ws' := []) [] (by decide) rfl) hS
  refine lv_tableOut (pc := 1) (tgt := 154) hx hb dX5_joined_1 (by (first | omega | (unfold zBd at *; omega))) (by decide) ?_
  refine lv_iconst (pc := 154) (v := 0) hx hb dX5_joined_154 (by decide) ?_
  exact hret 0 ((fun _ => 0), (fun _ => (fun _ => 0)), (fun _ => (fun _ => 0)), (fun _ => 0), (fun _ => 0)) dX5_joined_155 trivial (g_psub (wc := []) hP [] rfl) (hD.sub (ws' := []) [] (by decide) rfl) hS
set_option maxHeartbeats 4000000 in
set_option maxRecDepth 100000 in
theorem k_X5_valueOf (l : Launch) (D : va_G) (cB cC cI cJ : ClassId) (sz : Nat) (a0 a1 a2 a3 a4 a5 : Nat) (x0 x1 x2 x3 x4 x5 x6 : Int32) (f0 f1 : Nat → Int32) (hp1 : (0 ≤ x0.toInt ∧ x0.toInt ≤ 1600)) (hp2 : (0 ≤ x1.toInt ∧ x1.toInt ≤ 1600)) (h_x5 : zBd x5.toInt 0 1600) (h_x6 : zBd x6.toInt 0 8) : Met l yX5_valueOf (.code yX5_valueOf cX5_valueOf 9 (some .int) :: lw_gd) ({ frames := 3, cells := 0, slots := 0, locals := 65 }) (gPre D [(cB, .byte), (cC, .char), (cI, .int), (cJ, .long)] [.ref a0, .int x0, .int x1, .int x2, .int x3, .int x4] [(a0, .inr (5, [.ref a1, .ref a2, .ref a3, .ref a4, .ref a5, .int x5, .int x6])), (a5, .inl (cI, 64, .inl f0)), (a1, .inl (cI, 1600, .inl f1))] sz) (va_Qi (fun r u => ((((-2147483648) ≤ r.toInt ∧ r.toInt ≤ 2147483647) ∧ (0 ≤ x1.toInt ∧ x1.toInt ≤ 1600)))) (gB D (va_A [(a0, .inr (5, [.ref a1, .ref a2, .ref a3, .ref a4, .ref a5, .int x5, .int x6])), (a5, .inl (cI, 64, .inl f0)), (a1, .inl (cI, 1600, .inl f1))] sz) (fun u : gEx => [(a0, .inr (5, [.ref a1, .ref a2, .ref a3, .ref a4, .ref a5, .int x5, .int x6])), (a5, .inl (cI, 64, .inl (u.2.1 0))), (a1, .inl (cI, 1600, .inl f1))])) (va_A [(a0, .inr (5, [.ref a1, .ref a2, .ref a3, .ref a4, .ref a5, .int x5, .int x6])), (a5, .inl (cI, 64, .inl f0)), (a1, .inl (cI, 1600, .inl f1))] sz)) 0 0 (va_A [(a0, .inr (5, [.ref a1, .ref a2, .ref a3, .ref a4, .ref a5, .int x5, .int x6])), (a5, .inl (cI, 64, .inl f0)), (a1, .inl (cI, 1600, .inl f1))] sz) := by
  refine gOf_i (by decide +kernel) (Nat.le_of_ble_eq_true rfl) ?_
  intro p e s m args below meth c ls A Q hx hb hts hown hml hN hK hP hD hA hl hret
  replace hown : s.vm.findClass RX5 = some m.cls := hown
  have hS : va_S A s.heap s.heap [] := va_S.rf
  replace hP : va_P D gcl [(a0, .inr (5, [.ref a1, .ref a2, .ref a3, .ref a4, .ref a5, .int x5, .int x6])), (a5, .inl (cI, 64, .inl f0)), (a1, .inl (cI, 1600, .inl f1))] s.heap := hP
  replace hl : lv_has ls 9 [(0, .ref a0), (1, .int x0), (2, .int x1), (3, .int x2), (4, .int x3), (5, .int x4)] := hl
  have rx2 : zBd x2.toInt (-2147483648) 2147483647 := n_rng x2
  have rx3 : zBd x3.toInt (-2147483648) 2147483647 := n_rng x3
  have rx4 : zBd x4.toInt (-2147483648) 2147483647 := n_rng x4
  refine lv_iconst (pc := 0) (v := 0) hx hb dX5_valueOf_0 (by decide) ?_
  refine lv_istore (pc := 1) (lv' := [(6, .int 0), (0, .ref a0), (1, .int x0), (2, .int x1), (3, .int x2), (4, .int x3), (5, .int x4)]) hx hb dX5_valueOf_1 hl (by decide) rfl (fun ls hl => ?_)
  refine lv_iload_n (pc := 3) hx hb dX5_valueOf_3 rfl (lv_at hl 2 rfl) ?_
  refine lv_istore (pc := 4) (lv' := [(7, .int x0), (6, .int 0), (0, .ref a0), (1, .int x0), (2, .int x1), (3, .int x2), (4, .int x3), (5, .int x4)]) hx hb dX5_valueOf_4 hl (by decide) rfl (fun ls hl => ?_)
  have lp_6 : ∀ (n : Nat) (x_1 x_3 : Int32) (f_5 : Nat → Int32) (H : Heap) (locs : List Loc) (ls : Array Slot), (0 ≤ x_1.toInt ∧ x_1.toInt ≤ 2147483647) → (0 ≤ x_3.toInt ∧ x_3.toInt ≤ 64) → (2147483647 - x_1.toInt).toNat < n → va_P D gcl [(a0, .inr (5, [.ref a1, .ref a2, .ref a3, .ref a4, .ref a5, .int x5, .int x6])), (a5, .inl (cI, 64, .inl f_5)), (a1, .inl (cI, 1600, .inl f1))] H → va_D A [(a0, .inr (5, [.ref a1, .ref a2, .ref a3, .ref a4, .ref a5, .int x5, .int x6])), (a5, .inl (cI, 64, .inl f_5)), (a1, .inl (cI, 1600, .inl f1))] → va_S A s.heap H locs → lv_has ls 9 [(7, .int x_1), (6, .int x_3), (0, .ref a0), (1, .int x0), (2, .int x1), (3, .int x2), (4, .int x3), (5, .int x4)] → W p l e ({ frames := 3, cells := 0, slots := 0, locals := 65 }) s m args below meth c H locs 0 0 Q (F0 m 6 ls []) := by
    intro n
    induction n with
    | zero => intro x_1 x_3 f_5 H locs ls hi_2 hi_4 hmu; exact absurd hmu (Nat.not_lt_zero _)
    | succ n ih_lp_6 =>
      intro x_1 x_3 f_5 H locs ls hi_2 hi_4 hmu_lp_6 hP hD hS hl
      refine lv_iload (pc := 6) hx hb dX5_valueOf_6 (lv_at hl 0 rfl) ?_
      refine lv_iload_n (pc := 8) hx hb dX5_valueOf_8 rfl (lv_at hl 4 rfl) ?_
      refine b_icmp_ge (pc := 9) (tgt := 141) hx hb rfl rfl  dX5_valueOf_9 (by decide) (fun c_7 => ?_) (fun c_7 => ?_)
      ·
        refine lv_aload_n (pc := 141) hx hb dX5_valueOf_141 rfl (lv_at hl 2 rfl) ?_
        refine va_get (pc := 142) (ci := 5) (v := .ref a5) (C := RX5) (T := TX5) (N := 7) hx hb hts iX5 hown hK hP 0 rfl rfl 4 (by decide) (hts _ tw_77) (fun _ h9 => h9) rfl dX5_valueOf_142 ?_
        refine lv_iconst (pc := 145) (v := 0) hx hb dX5_valueOf_145 (by decide) ?_
        refine va_iald (pc := 146) hx hb hK hP 1 2 rfl rfl (gin rfl) dX5_valueOf_146 ?_
        refine lv_topi (fun x_8 ex_8 => ?_)
        have rx_8 : zBd x_8.toInt (-2147483648) 2147483647 := n_rng x_8
        exact hret x_8 ((fun _ => 0), (fun k => [f_5].getD k (fun _ => 0)), (fun _ => (fun _ => 0)), (fun _ => 0), (fun _ => 0)) dX5_valueOf_147 (show ((((-2147483648) ≤ x_8.toInt ∧ x_8.toInt ≤ 2147483647) ∧ (0 ≤ x1.toInt ∧ x1.toInt ≤ 1600))) by (first | omega | (unfold zBd at *; omega))) (g_psub (wc := [(a0, .inr (5, [.ref a1, .ref a2, .ref a3, .ref a4, .ref a5, .int x5, .int x6])), (a5, .inl (cI, 64, .inl f_5)), (a1, .inl (cI, 1600, .inl f1))]) hP [0, 1, 2] rfl) (hD.sub (ws' := [(a0, .inr (5, [.ref a1, .ref a2, .ref a3, .ref a4, .ref a5, .int x5, .int x6])), (a5, .inl (cI, 64, .inl f_5)), (a1, .inl (cI, 1600, .inl f1))]) [0, 1, 2] (by decide) rfl) hS
      ·
        refine lv_aload_n (pc := 12) hx hb dX5_valueOf_12 rfl (lv_at hl 2 rfl) ?_
        refine va_get (pc := 13) (ci := 5) (v := .ref a1) (C := RX5) (T := TX5) (N := 7) hx hb hts iX5 hown hK hP 0 rfl rfl 0 (by decide) (hts _ tw_73) (fun _ h9 => h9) rfl dX5_valueOf_13 ?_
        refine lv_iload (pc := 16) hx hb dX5_valueOf_16 (lv_at hl 0 rfl) ?_
        refine va_iald (pc := 18) hx hb hK hP 2 2 rfl rfl (n_in rfl (by (first | omega | (unfold zBd at *; omega))) (by (first | omega | (unfold zBd at *; omega)))) dX5_valueOf_18 ?_
        refine lv_topi (fun x_9 ex_9 => ?_)
        have rx_9 : zBd x_9.toInt (-2147483648) 2147483647 := n_rng x_9
        refine lv_istore (pc := 19) (lv' := [(8, .int x_9), (7, .int x_1), (6, .int x_3), (0, .ref a0), (1, .int x0), (2, .int x1), (3, .int x2), (4, .int x3), (5, .int x4)]) hx hb dX5_valueOf_19 hl (by decide) rfl (fun ls hl => ?_)
        refine lv_iload (pc := 21) hx hb dX5_valueOf_21 (lv_at hl 0 rfl) ?_
        refine lv_bipush (pc := 23) (v := (-4)) hx hb dX5_valueOf_23 (by decide) ?_
        refine b_icmp_le (pc := 25) (tgt := 61) hx hb rfl tI_m4  dX5_valueOf_25 (by decide) (fun c_10 => ?_) (fun c_10 => ?_)
        ·
          refine lv_iload (pc := 61) hx hb dX5_valueOf_61 (lv_at hl 0 rfl) ?_
          refine lv_bipush (pc := 63) (v := (-4)) hx hb dX5_valueOf_63 (by decide) ?_
          refine b_icmp_ne (pc := 65) (tgt := 96) hx hb rfl tI_m4  dX5_valueOf_65 (by decide) (fun c_11 => ?_) (fun c_11 => ?_)
          ·
            refine lv_iload (pc := 96) hx hb dX5_valueOf_96 (lv_at hl 2 rfl) ?_
            refine lv_iconst (pc := 98) (v := 1) hx hb dX5_valueOf_98 (by decide) ?_
            refine b_icmp_le (pc := 99) (tgt := 135) hx hb rfl tI_1  dX5_valueOf_99 (by decide) (fun c_12 => ?_) (fun c_12 => ?_)
            ·
              refine b_iinc (pc := 135) hx hb dX5_valueOf_135 hl (k := 1) rfl rfl tI_1 (by (first | omega | (unfold zBd at *; omega))) (by (first | omega | (unfold zBd at *; omega))) (by decide) (fun x_13 ex_13 ls hl => ?_)
              replace hl : lv_has ls 9 [(7, .int x_13), (8, .int x_9), (6, .int x_3), (0, .ref a0), (1, .int x0), (2, .int x1), (3, .int x2), (4, .int x3), (5, .int x4)] := hl
              refine lv_goto (pc := 138) (tgt := 6) hx hb dX5_valueOf_138 (by decide) ?_
              exact ih_lp_6 x_13 x_3 f_5 _ _ ls (by (first | omega | (unfold zBd at *; omega))) hi_4 (by (first | omega | (unfold zBd at *; omega))) hP hD hS (lv_sub hl [0, 2, 3, 4, 5, 6, 7, 8] rfl)
            ·
              refine b_iinc (pc := 102) hx hb dX5_valueOf_102 hl (k := 2) rfl rfl tI_m1 (by (first | omega | (unfold zBd at *; omega))) (by (first | omega | (unfold zBd at *; omega))) (by decide) (fun x_14 ex_14 ls hl => ?_)
              replace hl : lv_has ls 9 [(6, .int x_14), (8, .int x_9), (7, .int x_1), (0, .ref a0), (1, .int x0), (2, .int x1), (3, .int x2), (4, .int x3), (5, .int x4)] := hl
              refine lv_aload_n (pc := 105) hx hb dX5_valueOf_105 rfl (lv_at hl 3 rfl) ?_
              refine va_get (pc := 106) (ci := 5) (v := .ref a5) (C := RX5) (T := TX5) (N := 7) hx hb hts iX5 hown hK hP 0 rfl rfl 4 (by decide) (hts _ tw_77) (fun _ h9 => h9) rfl dX5_valueOf_106 ?_
              refine lv_iload (pc := 109) hx hb dX5_valueOf_109 (lv_at hl 0 rfl) ?_
              refine lv_iconst (pc := 111) (v := 1) hx hb dX5_valueOf_111 (by decide) ?_
              refine b_isub (pc := 112) hx hb rfl tI_1 (by (first | omega | (unfold zBd at *; omega))) (by (first | omega | (unfold zBd at *; omega))) dX5_valueOf_112 (fun x_15 ex_15 => ?_)
              refine lv_iload (pc := 113) hx hb dX5_valueOf_113 (lv_at hl 1 rfl) ?_
              refine lv_aload_n (pc := 115) hx hb dX5_valueOf_115 rfl (lv_at hl 3 rfl) ?_
              refine va_get (pc := 116) (ci := 5) (v := .ref a5) (C := RX5) (T := TX5) (N := 7) hx hb hts iX5 hown hK hP 0 rfl rfl 4 (by decide) (hts _ tw_77) (fun _ h9 => h9) rfl dX5_valueOf_116 ?_
              refine lv_iload (pc := 119) hx hb dX5_valueOf_119 (lv_at hl 0 rfl) ?_
              refine lv_iconst (pc := 121) (v := 1) hx hb dX5_valueOf_121 (by decide) ?_
              refine b_isub (pc := 122) hx hb rfl tI_1 (by (first | omega | (unfold zBd at *; omega))) (by (first | omega | (unfold zBd at *; omega))) dX5_valueOf_122 (fun x_16 ex_16 => ?_)
              refine va_iald (pc := 123) hx hb hK hP 1 2 rfl rfl (n_in rfl (by (first | omega | (unfold zBd at *; omega))) (by (first | omega | (unfold zBd at *; omega)))) dX5_valueOf_123 ?_
              refine lv_topi (fun x_17 ex_17 => ?_)
              have rx_17 : zBd x_17.toInt (-2147483648) 2147483647 := n_rng x_17
              refine lv_aload_n (pc := 124) hx hb dX5_valueOf_124 rfl (lv_at hl 3 rfl) ?_
              refine va_get (pc := 125) (ci := 5) (v := .ref a5) (C := RX5) (T := TX5) (N := 7) hx hb hts iX5 hown hK hP 0 rfl rfl 4 (by decide) (hts _ tw_77) (fun _ h9 => h9) rfl dX5_valueOf_125 ?_
              refine lv_iload (pc := 128) hx hb dX5_valueOf_128 (lv_at hl 0 rfl) ?_
              refine va_iald (pc := 130) hx hb hK hP 1 2 rfl rfl (n_in rfl (by (first | omega | (unfold zBd at *; omega))) (by (first | omega | (unfold zBd at *; omega)))) dX5_valueOf_130 ?_
              refine lv_topi (fun x_18 ex_18 => ?_)
              have rx_18 : zBd x_18.toInt (-2147483648) 2147483647 := n_rng x_18
              refine gc_i (pc := 131) (wc := []) (wr := [(a0, .inr (5, [.ref a1, .ref a2, .ref a3, .ref a4, .ref a5, .int x5, .int x6])), (a5, .inl (cI, 64, .inl f_5)), (a1, .inl (cI, 1600, .inl f1))]) hP hD hS hA [] [0, 1, 2] rfl rfl (by decide) (by decide) (by decide) (fun hPc hDc => va_runS (As := [.int x_9, .int x_17, .int x_18]) (rest := [.int x_15, .ref a5]) ⟨hx, hb, hml, hown, hts⟩ (k_X5_joined l D cB cC cI cJ _ x_9 x_17 x_18) ⟨gcwB hts tw_1346 tw_6 tw_1344 hd_yX5_joined ⟨Nat.le_of_ble_eq_true rfl, Nat.le_of_ble_eq_true rfl⟩, hts _ tw_1345⟩ (gpreS hPc hK hDc hN) rfl rfl hl.1 rfl (lv_room (Nat.le_of_ble_eq_true rfl)) dX5_valueOf_131 ⟨Nat.le_of_ble_eq_true rfl, Nat.le_of_ble_eq_true rfl⟩) (fun r_20 u_19 H locs hw_21 hP hD hS => ?_)
              replace hP : va_P D gcl [(a0, .inr (5, [.ref a1, .ref a2, .ref a3, .ref a4, .ref a5, .int x5, .int x6])), (a5, .inl (cI, 64, .inl f_5)), (a1, .inl (cI, 1600, .inl f1))] H := hP
              replace hD : va_D A [(a0, .inr (5, [.ref a1, .ref a2, .ref a3, .ref a4, .ref a5, .int x5, .int x6])), (a5, .inl (cI, 64, .inl f_5)), (a1, .inl (cI, 1600, .inl f1))] := hD
              have rr_20 : zBd r_20.toInt (-2147483648) 2147483647 := n_rng r_20
              refine g_iastore (pc := 134) hx hb hK hP hD hS 1 2 rfl rfl (n_in rfl (by (first | omega | (unfold zBd at *; omega))) (by (first | omega | (unfold zBd at *; omega)))) dX5_valueOf_134 (fun f_22 H locs hP hD hS => ?_)
              replace hP : va_P D gcl [(a0, .inr (5, [.ref a1, .ref a2, .ref a3, .ref a4, .ref a5, .int x5, .int x6])), (a5, .inl (cI, 64, .inl f_22)), (a1, .inl (cI, 1600, .inl f1))] H := hP
              replace hD : va_D A [(a0, .inr (5, [.ref a1, .ref a2, .ref a3, .ref a4, .ref a5, .int x5, .int x6])), (a5, .inl (cI, 64, .inl f_22)), (a1, .inl (cI, 1600, .inl f1))] := hD
              refine b_iinc (pc := 135) hx hb dX5_valueOf_135 hl (k := 2) rfl rfl tI_1 (by (first | omega | (unfold zBd at *; omega))) (by (first | omega | (unfold zBd at *; omega))) (by decide) (fun x_23 ex_23 ls hl => ?_)
              replace hl : lv_has ls 9 [(7, .int x_23), (6, .int x_14), (8, .int x_9), (0, .ref a0), (1, .int x0), (2, .int x1), (3, .int x2), (4, .int x3), (5, .int x4)] := hl
              refine lv_goto (pc := 138) (tgt := 6) hx hb dX5_valueOf_138 (by decide) ?_
              exact ih_lp_6 x_23 x_14 f_22 _ _ ls (by (first | omega | (unfold zBd at *; omega))) (by (first | omega | (unfold zBd at *; omega))) (by (first | omega | (unfold zBd at *; omega))) hP hD hS (lv_sub hl [0, 1, 3, 4, 5, 6, 7, 8] rfl)
          ·
            refine lv_iload (pc := 68) hx hb dX5_valueOf_68 (lv_at hl 2 rfl) ?_
            refine b_if_le (pc := 70) (tgt := 135) hx hb rfl  dX5_valueOf_70 (by decide) (fun c_24 => ?_) (fun c_24 => ?_)
            ·
              refine b_iinc (pc := 135) hx hb dX5_valueOf_135 hl (k := 1) rfl rfl tI_1 (by (first | omega | (unfold zBd at *; omega))) (by (first | omega | (unfold zBd at *; omega))) (by decide) (fun x_25 ex_25 ls hl => ?_)
              replace hl : lv_has ls 9 [(7, .int x_25), (8, .int x_9), (6, .int x_3), (0, .ref a0), (1, .int x0), (2, .int x1), (3, .int x2), (4, .int x3), (5, .int x4)] := hl
              refine lv_goto (pc := 138) (tgt := 6) hx hb dX5_valueOf_138 (by decide) ?_
              exact ih_lp_6 x_25 x_3 f_5 _ _ ls (by (first | omega | (unfold zBd at *; omega))) hi_4 (by (first | omega | (unfold zBd at *; omega))) hP hD hS (lv_sub hl [0, 2, 3, 4, 5, 6, 7, 8] rfl)
            ·
              refine lv_aload_n (pc := 73) hx hb dX5_valueOf_73 rfl (lv_at hl 3 rfl) ?_
              refine va_get (pc := 74) (ci := 5) (v := .ref a5) (C := RX5) (T := TX5) (N := 7) hx hb hts iX5 hown hK hP 0 rfl rfl 4 (by decide) (hts _ tw_77) (fun _ h9 => h9) rfl dX5_valueOf_74 ?_
              refine lv_iload (pc := 77) hx hb dX5_valueOf_77 (lv_at hl 2 rfl) ?_
              refine lv_iconst (pc := 79) (v := 1) hx hb dX5_valueOf_79 (by decide) ?_
              refine b_isub (pc := 80) hx hb rfl tI_1 (by (first | omega | (unfold zBd at *; omega))) (by (first | omega | (unfold zBd at *; omega))) dX5_valueOf_80 (fun x_26 ex_26 => ?_)
              refine lv_iconst (pc := 81) (v := 1) hx hb dX5_valueOf_81 (by decide) ?_
              refine lv_aload_n (pc := 82) hx hb dX5_valueOf_82 rfl (lv_at hl 3 rfl) ?_
              refine va_get (pc := 83) (ci := 5) (v := .ref a5) (C := RX5) (T := TX5) (N := 7) hx hb hts iX5 hown hK hP 0 rfl rfl 4 (by decide) (hts _ tw_77) (fun _ h9 => h9) rfl dX5_valueOf_83 ?_
              refine lv_iload (pc := 86) hx hb dX5_valueOf_86 (lv_at hl 2 rfl) ?_
              refine lv_iconst (pc := 88) (v := 1) hx hb dX5_valueOf_88 (by decide) ?_
              refine b_isub (pc := 89) hx hb rfl tI_1 (by (first | omega | (unfold zBd at *; omega))) (by (first | omega | (unfold zBd at *; omega))) dX5_valueOf_89 (fun x_27 ex_27 => ?_)
              refine va_iald (pc := 90) hx hb hK hP 1 2 rfl rfl (n_in rfl (by (first | omega | (unfold zBd at *; omega))) (by (first | omega | (unfold zBd at *; omega)))) dX5_valueOf_90 ?_
              refine lv_topi (fun x_28 ex_28 => ?_)
              have rx_28 : zBd x_28.toInt (-2147483648) 2147483647 := n_rng x_28
              refine lv_isub (pc := 91) hx hb dX5_valueOf_91 ?_
              refine lv_topi (fun x_29 _ => ?_)
              have rx_29 : zBd x_29.toInt (-2147483648) 2147483647 := n_rng x_29
              refine g_iastore (pc := 92) hx hb hK hP hD hS 1 2 rfl rfl (n_in rfl (by (first | omega | (unfold zBd at *; omega))) (by (first | omega | (unfold zBd at *; omega)))) dX5_valueOf_92 (fun f_30 H locs hP hD hS => ?_)
              replace hP : va_P D gcl [(a0, .inr (5, [.ref a1, .ref a2, .ref a3, .ref a4, .ref a5, .int x5, .int x6])), (a5, .inl (cI, 64, .inl f_30)), (a1, .inl (cI, 1600, .inl f1))] H := hP
              replace hD : va_D A [(a0, .inr (5, [.ref a1, .ref a2, .ref a3, .ref a4, .ref a5, .int x5, .int x6])), (a5, .inl (cI, 64, .inl f_30)), (a1, .inl (cI, 1600, .inl f1))] := hD
              refine lv_goto (pc := 93) (tgt := 135) hx hb dX5_valueOf_93 (by decide) ?_
              refine b_iinc (pc := 135) hx hb dX5_valueOf_135 hl (k := 1) rfl rfl tI_1 (by (first | omega | (unfold zBd at *; omega))) (by (first | omega | (unfold zBd at *; omega))) (by decide) (fun x_31 ex_31 ls hl => ?_)
              replace hl : lv_has ls 9 [(7, .int x_31), (8, .int x_9), (6, .int x_3), (0, .ref a0), (1, .int x0), (2, .int x1), (3, .int x2), (4, .int x3), (5, .int x4)] := hl
              refine lv_goto (pc := 138) (tgt := 6) hx hb dX5_valueOf_138 (by decide) ?_
              exact ih_lp_6 x_31 x_3 f_30 _ _ ls (by (first | omega | (unfold zBd at *; omega))) hi_4 (by (first | omega | (unfold zBd at *; omega))) hP hD hS (lv_sub hl [0, 2, 3, 4, 5, 6, 7, 8] rfl)
        ·
          refine lv_iload (pc := 28) hx hb dX5_valueOf_28 (lv_at hl 2 rfl) ?_
          refine lv_aload_n (pc := 30) hx hb dX5_valueOf_30 rfl (lv_at hl 3 rfl) ?_
          refine va_get (pc := 31) (ci := 5) (v := .ref a5) (C := RX5) (T := TX5) (N := 7) hx hb hts iX5 hown hK hP 0 rfl rfl 4 (by decide) (hts _ tw_77) (fun _ h9 => h9) rfl dX5_valueOf_31 ?_
          refine va_alen (pc := 34) (v := 64) hx hb hK hP 1 2 rfl rfl rfl dX5_valueOf_34 ?_
          refine b_icmp_ge (pc := 35) (tgt := 135) hx hb rfl tI_64  dX5_valueOf_35 (by decide) (fun c_32 => ?_) (fun c_32 => ?_)
          ·
            refine b_iinc (pc := 135) hx hb dX5_valueOf_135 hl (k := 1) rfl rfl tI_1 (by (first | omega | (unfold zBd at *; omega))) (by (first | omega | (unfold zBd at *; omega))) (by decide) (fun x_33 ex_33 ls hl => ?_)
            replace hl : lv_has ls 9 [(7, .int x_33), (8, .int x_9), (6, .int x_3), (0, .ref a0), (1, .int x0), (2, .int x1), (3, .int x2), (4, .int x3), (5, .int x4)] := hl
            refine lv_goto (pc := 138) (tgt := 6) hx hb dX5_valueOf_138 (by decide) ?_
            exact ih_lp_6 x_33 x_3 f_5 _ _ ls (by (first | omega | (unfold zBd at *; omega))) hi_4 (by (first | omega | (unfold zBd at *; omega))) hP hD hS (lv_sub hl [0, 2, 3, 4, 5, 6, 7, 8] rfl)
          ·
            refine lv_aload_n (pc := 38) hx hb dX5_valueOf_38 rfl (lv_at hl 3 rfl) ?_
            refine va_get (pc := 39) (ci := 5) (v := .ref a5) (C := RX5) (T := TX5) (N := 7) hx hb hts iX5 hown hK hP 0 rfl rfl 4 (by decide) (hts _ tw_77) (fun _ h9 => h9) rfl dX5_valueOf_39 ?_
            refine lv_iload (pc := 42) hx hb dX5_valueOf_42 (lv_at hl 2 rfl) ?_
            refine lv_iload (pc := 44) hx hb dX5_valueOf_44 (lv_at hl 0 rfl) ?_
            refine lv_iload_n (pc := 46) hx hb dX5_valueOf_46 rfl (lv_at hl 6 rfl) ?_
            refine lv_iload (pc := 47) hx hb dX5_valueOf_47 (lv_at hl 7 rfl) ?_
            refine lv_iload (pc := 49) hx hb dX5_valueOf_49 (lv_at hl 8 rfl) ?_
            refine gc_i (pc := 51) (wc := []) (wr := [(a0, .inr (5, [.ref a1, .ref a2, .ref a3, .ref a4, .ref a5, .int x5, .int x6])), (a5, .inl (cI, 64, .inl f_5)), (a1, .inl (cI, 1600, .inl f1))]) hP hD hS hA [] [0, 1, 2] rfl rfl (by decide) (by decide) (by decide) (fun hPc hDc => va_runS (As := [.int x_9, .int x2, .int x3, .int x4]) (rest := [.int x_3, .ref a5]) ⟨hx, hb, hml, hown, hts⟩ (k_X5_partBy l D cB cC cI cJ _ x_9 x2 x3 x4) ⟨gcwB hts tw_1343 tw_6 tw_1341 hd_yX5_partBy ⟨Nat.le_of_ble_eq_true rfl, Nat.le_of_ble_eq_true rfl⟩, hts _ tw_1342⟩ (gpreS hPc hK hDc hN) rfl rfl hl.1 rfl (lv_room (Nat.le_of_ble_eq_true rfl)) dX5_valueOf_51 ⟨Nat.le_of_ble_eq_true rfl, Nat.le_of_ble_eq_true rfl⟩) (fun r_35 u_34 H locs hw_36 hP hD hS => ?_)
            replace hP : va_P D gcl [(a0, .inr (5, [.ref a1, .ref a2, .ref a3, .ref a4, .ref a5, .int x5, .int x6])), (a5, .inl (cI, 64, .inl f_5)), (a1, .inl (cI, 1600, .inl f1))] H := hP
            replace hD : va_D A [(a0, .inr (5, [.ref a1, .ref a2, .ref a3, .ref a4, .ref a5, .int x5, .int x6])), (a5, .inl (cI, 64, .inl f_5)), (a1, .inl (cI, 1600, .inl f1))] := hD
            have hw_37 : ((r_35.toInt = x4.toInt ∧ x_9.toInt = (-3)) ∨ (r_35.toInt = x3.toInt ∧ x_9.toInt = (-2)) ∨ (r_35.toInt = x2.toInt ∧ x_9.toInt = (-1)) ∨ (r_35.toInt = x_9.toInt ∧ (x_9.toInt < (-3) ∨ (-1) < x_9.toInt))) := hw_36
            have rr_35 : zBd r_35.toInt (-2147483648) 2147483647 := n_rng r_35
            refine g_iastore (pc := 54) hx hb hK hP hD hS 1 2 rfl rfl (n_in rfl (by (first | omega | (unfold zBd at *; omega))) (by (first | omega | (unfold zBd at *; omega)))) dX5_valueOf_54 (fun f_38 H locs hP hD hS => ?_)
            replace hP : va_P D gcl [(a0, .inr (5, [.ref a1, .ref a2, .ref a3, .ref a4, .ref a5, .int x5, .int x6])), (a5, .inl (cI, 64, .inl f_38)), (a1, .inl (cI, 1600, .inl f1))] H := hP
            replace hD : va_D A [(a0, .inr (5, [.ref a1, .ref a2, .ref a3, .ref a4, .ref a5, .int x5, .int x6])), (a5, .inl (cI, 64, .inl f_38)), (a1, .inl (cI, 1600, .inl f1))] := hD
            refine b_iinc (pc := 55) hx hb dX5_valueOf_55 hl (k := 2) rfl rfl tI_1 (by (first | omega | (unfold zBd at *; omega))) (by (first | omega | (unfold zBd at *; omega))) (by decide) (fun x_39 ex_39 ls hl => ?_)
            replace hl : lv_has ls 9 [(6, .int x_39), (8, .int x_9), (7, .int x_1), (0, .ref a0), (1, .int x0), (2, .int x1), (3, .int x2), (4, .int x3), (5, .int x4)] := hl
            refine lv_goto (pc := 58) (tgt := 135) hx hb dX5_valueOf_58 (by decide) ?_
            refine b_iinc (pc := 135) hx hb dX5_valueOf_135 hl (k := 2) rfl rfl tI_1 (by (first | omega | (unfold zBd at *; omega))) (by (first | omega | (unfold zBd at *; omega))) (by decide) (fun x_40 ex_40 ls hl => ?_)
            replace hl : lv_has ls 9 [(7, .int x_40), (6, .int x_39), (8, .int x_9), (0, .ref a0), (1, .int x0), (2, .int x1), (3, .int x2), (4, .int x3), (5, .int x4)] := hl
            refine lv_goto (pc := 138) (tgt := 6) hx hb dX5_valueOf_138 (by decide) ?_
            exact ih_lp_6 x_40 x_39 f_38 _ _ ls (by (first | omega | (unfold zBd at *; omega))) (by (first | omega | (unfold zBd at *; omega))) (by (first | omega | (unfold zBd at *; omega))) hP hD hS (lv_sub hl [0, 1, 3, 4, 5, 6, 7, 8] rfl)
  exact lp_6 _ x0 0 f0 _ _ ls (by have k0 := tI_0; (first | omega | (unfold zBd at *; omega))) (n_c tI_0 (by decide)) (Nat.lt_succ_self _) hP hD hS (lv_sub hl [0, 1, 2, 3, 4, 5, 6, 7] rfl)
set_option maxHeartbeats 4000000 in
set_option maxRecDepth 100000 in
theorem k_X5_worthBy (l : Launch) (D : va_G) (cB cC cI cJ : ClassId) (sz : Nat) (a0 a1 a2 a3 a4 a5 : Nat) (x0 x1 x2 x3 x4 : Int32) (f0 f1 f2 f3 f4 : Nat → Int32) (h_x3 : zBd x3.toInt 0 1600) (h_x4 : zBd x4.toInt 0 8) (hf_f0 : (∀ j, 0 ≤ (f0 j).toInt ∧ (f0 j).toInt ≤ 1600)) (hf_f1 : (∀ j, 0 ≤ (f1 j).toInt ∧ (f1 j).toInt ≤ 1600)) (hf_f4 : (∀ j, 0 ≤ (f4 j).toInt ∧ (f4 j).toInt ≤ 1600)) : Met l yX5_worthBy (.code yX5_worthBy cX5_worthBy 5 (some .int) :: lw_gd) ({ frames := 4, cells := 0, slots := 0, locals := 93 }) (gPre D [(cB, .byte), (cC, .char), (cI, .int), (cJ, .long)] [.ref a0, .int x0, .int x1, .int x2] [(a0, .inr (5, [.ref a1, .ref a2, .ref a3, .ref a4, .ref a5, .int x3, .int x4])), (a3, .inl (cI, 8, .inl f0)), (a4, .inl (cI, 8, .inl f1)), (a5, .inl (cI, 64, .inl f2)), (a1, .inl (cI, 1600, .inl f3)), (a2, .inl (cI, 8, .inl f4))] sz) (va_Qi (fun r u => ((r.toInt = 0 ∧ (0 ≤ x4.toInt ∧ x4.toInt ≤ 8)) ∨ (((-2147483648) ≤ r.toInt ∧ r.toInt ≤ 2147483647) ∧ (1 ≤ x4.toInt ∧ x4.toInt ≤ 8)))) (gB D (va_A [(a0, .inr (5, [.ref a1, .ref a2, .ref a3, .ref a4, .ref a5, .int x3, .int x4])), (a3, .inl (cI, 8, .inl f0)), (a4, .inl (cI, 8, .inl f1)), (a5, .inl (cI, 64, .inl f2)), (a1, .inl (cI, 1600, .inl f3)), (a2, .inl (cI, 8, .inl f4))] sz) (fun u : gEx => [(a0, .inr (5, [.ref a1, .ref a2, .ref a3, .ref a4, .ref a5, .int x3, .int x4])), (a3, .inl (cI, 8, .inl f0)), (a4, .inl (cI, 8, .inl f1)), (a5, .inl (cI, 64, .inl (u.2.1 0))), (a1, .inl (cI, 1600, .inl f3)), (a2, .inl (cI, 8, .inl f4))])) (va_A [(a0, .inr (5, [.ref a1, .ref a2, .ref a3, .ref a4, .ref a5, .int x3, .int x4])), (a3, .inl (cI, 8, .inl f0)), (a4, .inl (cI, 8, .inl f1)), (a5, .inl (cI, 64, .inl f2)), (a1, .inl (cI, 1600, .inl f3)), (a2, .inl (cI, 8, .inl f4))] sz)) 0 0 (va_A [(a0, .inr (5, [.ref a1, .ref a2, .ref a3, .ref a4, .ref a5, .int x3, .int x4])), (a3, .inl (cI, 8, .inl f0)), (a4, .inl (cI, 8, .inl f1)), (a5, .inl (cI, 64, .inl f2)), (a1, .inl (cI, 1600, .inl f3)), (a2, .inl (cI, 8, .inl f4))] sz) := by
  refine gOf_i (by decide +kernel) (Nat.le_of_ble_eq_true rfl) ?_
  intro p e s m args below meth c ls A Q hx hb hts hown hml hN hK hP hD hA hl hret
  replace hown : s.vm.findClass RX5 = some m.cls := hown
  have hS : va_S A s.heap s.heap [] := va_S.rf
  replace hP : va_P D gcl [(a0, .inr (5, [.ref a1, .ref a2, .ref a3, .ref a4, .ref a5, .int x3, .int x4])), (a3, .inl (cI, 8, .inl f0)), (a4, .inl (cI, 8, .inl f1)), (a5, .inl (cI, 64, .inl f2)), (a1, .inl (cI, 1600, .inl f3)), (a2, .inl (cI, 8, .inl f4))] s.heap := hP
  replace hl : lv_has ls 5 [(0, .ref a0), (1, .int x0), (2, .int x1), (3, .int x2)] := hl
  have rx0 : zBd x0.toInt (-2147483648) 2147483647 := n_rng x0
  have rx1 : zBd x1.toInt (-2147483648) 2147483647 := n_rng x1
  have rx2 : zBd x2.toInt (-2147483648) 2147483647 := n_rng x2
  refine lv_iconst (pc := 0) (v := 0) hx hb dX5_worthBy_0 (by decide) ?_
  refine lv_istore (pc := 1) (lv' := [(4, .int 0), (0, .ref a0), (1, .int x0), (2, .int x1), (3, .int x2)]) hx hb dX5_worthBy_1 hl (by decide) rfl (fun ls hl => ?_)
  have lp_4 : ∀ (n : Nat) (x_1 : Int32) (f_3 : Nat → Int32) (H : Heap) (locs : List Loc) (ls : Array Slot), (0 ≤ x_1.toInt ∧ x_1.toInt ≤ 2147483647) → (2147483647 - x_1.toInt).toNat < n → va_P D gcl [(a0, .inr (5, [.ref a1, .ref a2, .ref a3, .ref a4, .ref a5, .int x3, .int x4])), (a3, .inl (cI, 8, .inl f0)), (a4, .inl (cI, 8, .inl f1)), (a5, .inl (cI, 64, .inl f_3)), (a1, .inl (cI, 1600, .inl f3)), (a2, .inl (cI, 8, .inl f4))] H → va_D A [(a0, .inr (5, [.ref a1, .ref a2, .ref a3, .ref a4, .ref a5, .int x3, .int x4])), (a3, .inl (cI, 8, .inl f0)), (a4, .inl (cI, 8, .inl f1)), (a5, .inl (cI, 64, .inl f_3)), (a1, .inl (cI, 1600, .inl f3)), (a2, .inl (cI, 8, .inl f4))] → va_S A s.heap H locs → lv_has ls 5 [(4, .int x_1), (0, .ref a0), (1, .int x0), (2, .int x1), (3, .int x2)] → W p l e ({ frames := 4, cells := 0, slots := 0, locals := 93 }) s m args below meth c H locs 0 0 Q (F0 m 3 ls []) := by
    intro n
    induction n with
    | zero => intro x_1 f_3 H locs ls hi_2 hmu; exact absurd hmu (Nat.not_lt_zero _)
    | succ n ih_lp_4 =>
      intro x_1 f_3 H locs ls hi_2 hmu_lp_4 hP hD hS hl
      refine lv_iload (pc := 3) hx hb dX5_worthBy_3 (lv_at hl 0 rfl) ?_
      refine lv_aload_n (pc := 5) hx hb dX5_worthBy_5 rfl (lv_at hl 1 rfl) ?_
      refine va_get (pc := 6) (ci := 5) (v := .int x4) (C := RX5) (T := TX5) (N := 7) hx hb hts iX5 hown hK hP 0 rfl rfl 6 (by decide) (hts _ tw_79) (fun _ h9 => h9) rfl dX5_worthBy_6 ?_
      have bd_h_x4 : 0 ≤ x4.toInt ∧ x4.toInt ≤ 8 := h_x4
      refine b_icmp_ge (pc := 9) (tgt := 64) hx hb rfl rfl  dX5_worthBy_9 (by decide) (fun c_5 => ?_) (fun c_5 => ?_)
      ·
        refine lv_iconst (pc := 64) (v := 0) hx hb dX5_worthBy_64 (by decide) ?_
        exact hret 0 ((fun _ => 0), (fun k => [f_3].getD k (fun _ => 0)), (fun _ => (fun _ => 0)), (fun _ => 0), (fun _ => 0)) dX5_worthBy_65 (show (((0 : Int32).toInt = 0 ∧ (0 ≤ x4.toInt ∧ x4.toInt ≤ 8)) ∨ (((-2147483648) ≤ (0 : Int32).toInt ∧ (0 : Int32).toInt ≤ 2147483647) ∧ (1 ≤ x4.toInt ∧ x4.toInt ≤ 8))) by have k9 := tI_0; (first | omega | (unfold zBd at *; omega))) (g_psub (wc := [(a0, .inr (5, [.ref a1, .ref a2, .ref a3, .ref a4, .ref a5, .int x3, .int x4])), (a3, .inl (cI, 8, .inl f0)), (a4, .inl (cI, 8, .inl f1)), (a5, .inl (cI, 64, .inl f_3)), (a1, .inl (cI, 1600, .inl f3)), (a2, .inl (cI, 8, .inl f4))]) hP [0, 1, 2, 3, 4, 5] rfl) (hD.sub (ws' := [(a0, .inr (5, [.ref a1, .ref a2, .ref a3, .ref a4, .ref a5, .int x3, .int x4])), (a3, .inl (cI, 8, .inl f0)), (a4, .inl (cI, 8, .inl f1)), (a5, .inl (cI, 64, .inl f_3)), (a1, .inl (cI, 1600, .inl f3)), (a2, .inl (cI, 8, .inl f4))]) [0, 1, 2, 3, 4, 5] (by decide) rfl) hS
      ·
        refine lv_aload_n (pc := 12) hx hb dX5_worthBy_12 rfl (lv_at hl 1 rfl) ?_
        refine lv_aload_n (pc := 13) hx hb dX5_worthBy_13 rfl (lv_at hl 1 rfl) ?_
        refine va_get (pc := 14) (ci := 5) (v := .ref a3) (C := RX5) (T := TX5) (N := 7) hx hb hts iX5 hown hK hP 0 rfl rfl 2 (by decide) (hts _ tw_75) (fun _ h9 => h9) rfl dX5_worthBy_14 ?_
        refine lv_iload (pc := 17) hx hb dX5_worthBy_17 (lv_at hl 0 rfl) ?_
        refine va_iald (pc := 19) hx hb hK hP 1 2 rfl rfl (n_in rfl (by (first | omega | (unfold zBd at *; omega))) (by (first | omega | (unfold zBd at *; omega)))) dX5_worthBy_19 ?_
        refine lv_topi (fun x_6 ex_6 => ?_)
        have rx_6 : (0 ≤ x_6.toInt ∧ x_6.toInt ≤ 1600) := by rw [ex_6]; exact hf_f0 _
        refine lv_aload_n (pc := 20) hx hb dX5_worthBy_20 rfl (lv_at hl 1 rfl) ?_
        refine va_get (pc := 21) (ci := 5) (v := .ref a4) (C := RX5) (T := TX5) (N := 7) hx hb hts iX5 hown hK hP 0 rfl rfl 3 (by decide) (hts _ tw_76) (fun _ h9 => h9) rfl dX5_worthBy_21 ?_
        refine lv_iload (pc := 24) hx hb dX5_worthBy_24 (lv_at hl 0 rfl) ?_
        refine va_iald (pc := 26) hx hb hK hP 2 2 rfl rfl (n_in rfl (by (first | omega | (unfold zBd at *; omega))) (by (first | omega | (unfold zBd at *; omega)))) dX5_worthBy_26 ?_
        refine lv_topi (fun x_7 ex_7 => ?_)
        have rx_7 : (0 ≤ x_7.toInt ∧ x_7.toInt ≤ 1600) := by rw [ex_7]; exact hf_f1 _
        refine lv_iload_n (pc := 27) hx hb dX5_worthBy_27 rfl (lv_at hl 2 rfl) ?_
        refine lv_iload_n (pc := 28) hx hb dX5_worthBy_28 rfl (lv_at hl 3 rfl) ?_
        refine lv_iload_n (pc := 29) hx hb dX5_worthBy_29 rfl (lv_at hl 4 rfl) ?_
        refine gc_i (pc := 30) (wc := [(a0, .inr (5, [.ref a1, .ref a2, .ref a3, .ref a4, .ref a5, .int x3, .int x4])), (a5, .inl (cI, 64, .inl f_3)), (a1, .inl (cI, 1600, .inl f3))]) (wr := [(a3, .inl (cI, 8, .inl f0)), (a4, .inl (cI, 8, .inl f1)), (a2, .inl (cI, 8, .inl f4))]) hP hD hS hA [0, 3, 4] [1, 2, 5] rfl rfl (by decide) (by decide) (by decide) (fun hPc hDc => va_runV (As := [.int x_6, .int x_7, .int x0, .int x1, .int x2]) (rest := []) ⟨hx, hb, hml, hown, hts⟩ (k_X5_valueOf l D cB cC cI cJ _ a0 a1 a2 a3 a4 a5 x_6 x_7 x0 x1 x2 x3 x4 f_3 f3 rx_6 rx_7 h_x3 h_x4) ⟨gcwB hts tw_1340 tw_6 tw_1337 hd_yX5_valueOf ⟨Nat.le_of_ble_eq_true rfl, Nat.le_of_ble_eq_true rfl⟩, hts _ tw_1339, hts _ tp_56⟩ ⟨gblind, va_recv hK hPc (ci := 5) (q0 := 0) rfl rfl, (gpreS hPc hK hDc hN).2⟩ rfl rfl hl.1 rfl (lv_room (Nat.le_of_ble_eq_true rfl)) dX5_worthBy_30 ⟨Nat.le_of_ble_eq_true rfl, Nat.le_of_ble_eq_true rfl⟩) (fun r_9 u_8 H locs hw_10 hP hD hS => ?_)
        replace hP : va_P D gcl [(a3, .inl (cI, 8, .inl f0)), (a4, .inl (cI, 8, .inl f1)), (a2, .inl (cI, 8, .inl f4)), (a0, .inr (5, [.ref a1, .ref a2, .ref a3, .ref a4, .ref a5, .int x3, .int x4])), (a5, .inl (cI, 64, .inl (u_8.2.1 0))), (a1, .inl (cI, 1600, .inl f3))] H := hP
        replace hD : va_D A [(a3, .inl (cI, 8, .inl f0)), (a4, .inl (cI, 8, .inl f1)), (a2, .inl (cI, 8, .inl f4)), (a0, .inr (5, [.ref a1, .ref a2, .ref a3, .ref a4, .ref a5, .int x3, .int x4])), (a5, .inl (cI, 64, .inl (u_8.2.1 0))), (a1, .inl (cI, 1600, .inl f3))] := hD
        have hw_11 : ((((-2147483648) ≤ r_9.toInt ∧ r_9.toInt ≤ 2147483647) ∧ (0 ≤ x_7.toInt ∧ x_7.toInt ≤ 1600))) := hw_10
        have rr_9 : zBd r_9.toInt (-2147483648) 2147483647 := n_rng r_9
        refine b_if_eq (pc := 33) (tgt := 58) hx hb rfl  dX5_worthBy_33 (by decide) (fun c_12 => ?_) (fun c_12 => ?_)
        ·
          refine b_iinc (pc := 58) hx hb dX5_worthBy_58 hl (k := 0) rfl rfl tI_1 (by (first | omega | (unfold zBd at *; omega))) (by (first | omega | (unfold zBd at *; omega))) (by decide) (fun x_13 ex_13 ls hl => ?_)
          replace hl : lv_has ls 5 [(4, .int x_13), (0, .ref a0), (1, .int x0), (2, .int x1), (3, .int x2)] := hl
          refine lv_goto (pc := 61) (tgt := 3) hx hb dX5_worthBy_61 (by decide) ?_
          exact ih_lp_4 x_13 (u_8.2.1 0) _ _ ls (by (first | omega | (unfold zBd at *; omega))) (by (first | omega | (unfold zBd at *; omega))) (g_psub hP [3, 0, 1, 4, 5, 2] rfl) (hD.sub [3, 0, 1, 4, 5, 2] (by decide) rfl) hS (lv_sub hl [0, 1, 2, 3, 4] rfl)
        ·
          refine lv_aload_n (pc := 36) hx hb dX5_worthBy_36 rfl (lv_at hl 1 rfl) ?_
          refine lv_aload_n (pc := 37) hx hb dX5_worthBy_37 rfl (lv_at hl 1 rfl) ?_
          refine va_get (pc := 38) (ci := 5) (v := .ref a2) (C := RX5) (T := TX5) (N := 7) hx hb hts iX5 hown hK hP 3 rfl rfl 1 (by decide) (hts _ tw_74) (fun _ h9 => h9) rfl dX5_worthBy_38 ?_
          refine lv_iload (pc := 41) hx hb dX5_worthBy_41 (lv_at hl 0 rfl) ?_
          refine va_iald (pc := 43) hx hb hK hP 2 2 rfl rfl (n_in rfl (by (first | omega | (unfold zBd at *; omega))) (by (first | omega | (unfold zBd at *; omega)))) dX5_worthBy_43 ?_
          refine lv_topi (fun x_14 ex_14 => ?_)
          have rx_14 : (0 ≤ x_14.toInt ∧ x_14.toInt ≤ 1600) := by rw [ex_14]; exact hf_f4 _
          refine lv_aload_n (pc := 44) hx hb dX5_worthBy_44 rfl (lv_at hl 1 rfl) ?_
          refine va_get (pc := 45) (ci := 5) (v := .ref a3) (C := RX5) (T := TX5) (N := 7) hx hb hts iX5 hown hK hP 3 rfl rfl 2 (by decide) (hts _ tw_75) (fun _ h9 => h9) rfl dX5_worthBy_45 ?_
          refine lv_iload (pc := 48) hx hb dX5_worthBy_48 (lv_at hl 0 rfl) ?_
          refine va_iald (pc := 50) hx hb hK hP 0 2 rfl rfl (n_in rfl (by (first | omega | (unfold zBd at *; omega))) (by (first | omega | (unfold zBd at *; omega)))) dX5_worthBy_50 ?_
          refine gI (y := x_6) ex_6.symm ?_
          refine lv_iload_n (pc := 51) hx hb dX5_worthBy_51 rfl (lv_at hl 2 rfl) ?_
          refine lv_iload_n (pc := 52) hx hb dX5_worthBy_52 rfl (lv_at hl 3 rfl) ?_
          refine lv_iload_n (pc := 53) hx hb dX5_worthBy_53 rfl (lv_at hl 4 rfl) ?_
          refine gc_i (pc := 54) (wc := [(a0, .inr (5, [.ref a1, .ref a2, .ref a3, .ref a4, .ref a5, .int x3, .int x4])), (a5, .inl (cI, 64, .inl (u_8.2.1 0))), (a1, .inl (cI, 1600, .inl f3))]) (wr := [(a3, .inl (cI, 8, .inl f0)), (a4, .inl (cI, 8, .inl f1)), (a2, .inl (cI, 8, .inl f4))]) hP hD hS hA [3, 4, 5] [0, 1, 2] rfl rfl (by decide) (by decide) (by decide) (fun hPc hDc => va_runV (As := [.int x_14, .int x_6, .int x0, .int x1, .int x2]) (rest := []) ⟨hx, hb, hml, hown, hts⟩ (k_X5_valueOf l D cB cC cI cJ _ a0 a1 a2 a3 a4 a5 x_14 x_6 x0 x1 x2 x3 x4 (u_8.2.1 0) f3 rx_14 rx_6 h_x3 h_x4) ⟨gcwB hts tw_1340 tw_6 tw_1337 hd_yX5_valueOf ⟨Nat.le_of_ble_eq_true rfl, Nat.le_of_ble_eq_true rfl⟩, hts _ tw_1339, hts _ tp_56⟩ ⟨gblind, va_recv hK hPc (ci := 5) (q0 := 0) rfl rfl, (gpreS hPc hK hDc hN).2⟩ rfl rfl hl.1 rfl (lv_room (Nat.le_of_ble_eq_true rfl)) dX5_worthBy_54 ⟨Nat.le_of_ble_eq_true rfl, Nat.le_of_ble_eq_true rfl⟩) (fun r_16 u_15 H locs hw_17 hP hD hS => ?_)
          replace hP : va_P D gcl [(a3, .inl (cI, 8, .inl f0)), (a4, .inl (cI, 8, .inl f1)), (a2, .inl (cI, 8, .inl f4)), (a0, .inr (5, [.ref a1, .ref a2, .ref a3, .ref a4, .ref a5, .int x3, .int x4])), (a5, .inl (cI, 64, .inl (u_15.2.1 0))), (a1, .inl (cI, 1600, .inl f3))] H := hP
          replace hD : va_D A [(a3, .inl (cI, 8, .inl f0)), (a4, .inl (cI, 8, .inl f1)), (a2, .inl (cI, 8, .inl f4)), (a0, .inr (5, [.ref a1, .ref a2, .ref a3, .ref a4, .ref a5, .int x3, .int x4])), (a5, .inl (cI, 64, .inl (u_15.2.1 0))), (a1, .inl (cI, 1600, .inl f3))] := hD
          have hw_18 : ((((-2147483648) ≤ r_16.toInt ∧ r_16.toInt ≤ 2147483647) ∧ (0 ≤ x_6.toInt ∧ x_6.toInt ≤ 1600))) := hw_17
          have rr_16 : zBd r_16.toInt (-2147483648) 2147483647 := n_rng r_16
          exact hret r_16 ((fun _ => 0), (fun k => [(u_15.2.1 0)].getD k (fun _ => 0)), (fun _ => (fun _ => 0)), (fun _ => 0), (fun _ => 0)) dX5_worthBy_57 (show ((r_16.toInt = 0 ∧ (0 ≤ x4.toInt ∧ x4.toInt ≤ 8)) ∨ (((-2147483648) ≤ r_16.toInt ∧ r_16.toInt ≤ 2147483647) ∧ (1 ≤ x4.toInt ∧ x4.toInt ≤ 8))) by (first | omega | (unfold zBd at *; omega))) (g_psub (wc := [(a0, .inr (5, [.ref a1, .ref a2, .ref a3, .ref a4, .ref a5, .int x3, .int x4])), (a3, .inl (cI, 8, .inl f0)), (a4, .inl (cI, 8, .inl f1)), (a5, .inl (cI, 64, .inl (u_15.2.1 0))), (a1, .inl (cI, 1600, .inl f3)), (a2, .inl (cI, 8, .inl f4))]) hP [3, 0, 1, 4, 5, 2] rfl) (hD.sub (ws' := [(a0, .inr (5, [.ref a1, .ref a2, .ref a3, .ref a4, .ref a5, .int x3, .int x4])), (a3, .inl (cI, 8, .inl f0)), (a4, .inl (cI, 8, .inl f1)), (a5, .inl (cI, 64, .inl (u_15.2.1 0))), (a1, .inl (cI, 1600, .inl f3)), (a2, .inl (cI, 8, .inl f4))]) [3, 0, 1, 4, 5, 2] (by decide) rfl) hS
  exact lp_4 _ 0 f2 _ _ ls (n_c tI_0 (by decide)) (Nat.lt_succ_self _) hP hD hS (lv_sub hl [0, 1, 2, 3, 4] rfl)
set_option maxHeartbeats 4000000 in
set_option maxRecDepth 100000 in
theorem k_X1_clear (l : Launch) (D : va_G) (cB cC cI cJ : ClassId) (sz : Nat) (a0 a1 a2 a3 a4 a5 a6 a7 a8 a9 : Nat) (x0 x1 x2 x3 x4 x5 x6 x7 x8 : Int32) (f0 : Nat → Int32) (h_x0 : zBd x0.toInt (-1) 8) (h_x1 : zBd x1.toInt (-1) 5) (h_x2 : zBd x2.toInt (-1) 6) (h_x3 : zBd x3.toInt 0 6) (h_x4 : zBd x4.toInt 0 16) (h_x7 : zBd x7.toInt 0 1600) (h_x8 : zBd x8.toInt 0 8) : Met l yX1_clear (.code yX1_clear cX1_clear 1 none :: lw_gd) ({ frames := 2, cells := 0, slots := 0, locals := 43 }) (gPre D [(cB, .byte), (cC, .char), (cI, .int), (cJ, .long)] [.ref a0] [(a0, .inr (1, [.ref a1, .ref a2, .ref a3, .int x0, .int x1, .int x2, .int x3, .int x4, .int x5, .int x6])), (a1, .inr (8, [.ref a4])), (a4, .inl (cI, 30, .inl f0)), (a2, .inr (5, [.ref a5, .ref a6, .ref a7, .ref a8, .ref a9, .int x7, .int x8]))] sz) (va_Qv (fun u => True) (gB D (va_A [(a0, .inr (1, [.ref a1, .ref a2, .ref a3, .int x0, .int x1, .int x2, .int x3, .int x4, .int x5, .int x6])), (a1, .inr (8, [.ref a4])), (a4, .inl (cI, 30, .inl f0)), (a2, .inr (5, [.ref a5, .ref a6, .ref a7, .ref a8, .ref a9, .int x7, .int x8]))] sz) (fun u : gEx => [(a0, .inr (1, [.ref a1, .ref a2, .ref a3, .int 0, .int 0, .int 0, .int 0, .int 0, .int 9999, .int 0])), (a1, .inr (8, [.ref a4])), (a4, .inl (cI, 30, .inl (u.2.1 0))), (a2, .inr (5, [.ref a5, .ref a6, .ref a7, .ref a8, .ref a9, .int 0, .int 0]))])) (va_A [(a0, .inr (1, [.ref a1, .ref a2, .ref a3, .int x0, .int x1, .int x2, .int x3, .int x4, .int x5, .int x6])), (a1, .inr (8, [.ref a4])), (a4, .inl (cI, 30, .inl f0)), (a2, .inr (5, [.ref a5, .ref a6, .ref a7, .ref a8, .ref a9, .int x7, .int x8]))] sz)) 0 0 (va_A [(a0, .inr (1, [.ref a1, .ref a2, .ref a3, .int x0, .int x1, .int x2, .int x3, .int x4, .int x5, .int x6])), (a1, .inr (8, [.ref a4])), (a4, .inl (cI, 30, .inl f0)), (a2, .inr (5, [.ref a5, .ref a6, .ref a7, .ref a8, .ref a9, .int x7, .int x8]))] sz) := by
  refine gOf_v (by decide +kernel) (Nat.le_of_ble_eq_true rfl) ?_
  intro p e s m args below meth c ls A Q hx hb hts hown hml hN hK hP hD hA hl hret
  replace hown : s.vm.findClass RX1 = some m.cls := hown
  have hS : va_S A s.heap s.heap [] := va_S.rf
  replace hP : va_P D gcl [(a0, .inr (1, [.ref a1, .ref a2, .ref a3, .int x0, .int x1, .int x2, .int x3, .int x4, .int x5, .int x6])), (a1, .inr (8, [.ref a4])), (a4, .inl (cI, 30, .inl f0)), (a2, .inr (5, [.ref a5, .ref a6, .ref a7, .ref a8, .ref a9, .int x7, .int x8]))] s.heap := hP
  replace hl : lv_has ls 1 [(0, .ref a0)] := hl
  have rx5 : zBd x5.toInt (-2147483648) 2147483647 := n_rng x5
  have rx6 : zBd x6.toInt (-2147483648) 2147483647 := n_rng x6
  refine lv_aload_n (pc := 0) hx hb dX1_clear_0 rfl (lv_at hl 0 rfl) ?_
  refine va_get (pc := 1) (ci := 1) (v := .ref a1) (C := RX1) (T := TX1) (N := 10) hx hb hts iX1 hown hK hP 0 rfl rfl 0 (by decide) (hts _ tw_97) (fun _ h9 => h9) rfl dX1_clear_1 ?_
  refine gc_v (pc := 4) (wc := [(a1, .inr (8, [.ref a4])), (a4, .inl (cI, 30, .inl f0))]) (wr := [(a0, .inr (1, [.ref a1, .ref a2, .ref a3, .int x0, .int x1, .int x2, .int x3, .int x4, .int x5, .int x6])), (a2, .inr (5, [.ref a5, .ref a6, .ref a7, .ref a8, .ref a9, .int x7, .int x8]))]) hP hD hS hA [1, 2] [0, 3] rfl rfl (by decide) (by decide) (by decide) (fun hPc hDc => va_runV (As := []) (rest := []) ⟨hx, hb, hml, hown, hts⟩ (k_X8_clear l D cB cC cI cJ _ a1 a4 f0) ⟨gcwB hts tw_502 tw_5 tw_499 hd_yX8_clear ⟨Nat.le_of_ble_eq_true rfl, Nat.le_of_ble_eq_true rfl⟩, hts _ tw_500, hts _ tw_501⟩ ⟨gblind, va_recv hK hPc (ci := 8) (q0 := 0) rfl rfl, (gpreS hPc hK hDc hN).2⟩ rfl rfl hl.1 rfl (lv_room (Nat.le_of_ble_eq_true rfl)) dX1_clear_4 ⟨Nat.le_of_ble_eq_true rfl, Nat.le_of_ble_eq_true rfl⟩) (fun u_1 H locs hw_3 hP hD hS => ?_)
  replace hP : va_P D gcl [(a0, .inr (1, [.ref a1, .ref a2, .ref a3, .int x0, .int x1, .int x2, .int x3, .int x4, .int x5, .int x6])), (a2, .inr (5, [.ref a5, .ref a6, .ref a7, .ref a8, .ref a9, .int x7, .int x8])), (a1, .inr (8, [.ref a4])), (a4, .inl (cI, 30, .inl (u_1.2.1 0)))] H := hP
  replace hD : va_D A [(a0, .inr (1, [.ref a1, .ref a2, .ref a3, .int x0, .int x1, .int x2, .int x3, .int x4, .int x5, .int x6])), (a2, .inr (5, [.ref a5, .ref a6, .ref a7, .ref a8, .ref a9, .int x7, .int x8])), (a1, .inr (8, [.ref a4])), (a4, .inl (cI, 30, .inl (u_1.2.1 0)))] := hD
  refine lv_aload_n (pc := 7) hx hb dX1_clear_7 rfl (lv_at hl 0 rfl) ?_
  refine va_get (pc := 8) (ci := 1) (v := .ref a2) (C := RX1) (T := TX1) (N := 10) hx hb hts iX1 hown hK hP 0 rfl rfl 1 (by decide) (hts _ tw_105) (fun _ h9 => h9) rfl dX1_clear_8 ?_
  refine gc_v (pc := 11) (wc := [(a2, .inr (5, [.ref a5, .ref a6, .ref a7, .ref a8, .ref a9, .int x7, .int x8]))]) (wr := [(a0, .inr (1, [.ref a1, .ref a2, .ref a3, .int x0, .int x1, .int x2, .int x3, .int x4, .int x5, .int x6])), (a1, .inr (8, [.ref a4])), (a4, .inl (cI, 30, .inl (u_1.2.1 0)))]) hP hD hS hA [1] [0, 2, 3] rfl rfl (by decide) (by decide) (by decide) (fun hPc hDc => va_runV (As := []) (rest := []) ⟨hx, hb, hml, hown, hts⟩ (k_X5_clear l D cB cC cI cJ _ a2 a5 a6 a7 a8 a9 x7 x8 h_x7 h_x8) ⟨gcwB hts tw_509 tw_6 tw_506 hd_yX5_clear ⟨Nat.le_of_ble_eq_true rfl, Nat.le_of_ble_eq_true rfl⟩, hts _ tw_507, hts _ tw_508⟩ ⟨gblind, va_recv hK hPc (ci := 5) (q0 := 0) rfl rfl, (gpreS hPc hK hDc hN).2⟩ rfl rfl hl.1 rfl (lv_room (Nat.le_of_ble_eq_true rfl)) dX1_clear_11 ⟨Nat.le_of_ble_eq_true rfl, Nat.le_of_ble_eq_true rfl⟩) (fun u_4 H locs hw_6 hP hD hS => ?_)
  replace hP : va_P D gcl [(a0, .inr (1, [.ref a1, .ref a2, .ref a3, .int x0, .int x1, .int x2, .int x3, .int x4, .int x5, .int x6])), (a1, .inr (8, [.ref a4])), (a4, .inl (cI, 30, .inl (u_1.2.1 0))), (a2, .inr (5, [.ref a5, .ref a6, .ref a7, .ref a8, .ref a9, .int 0, .int 0]))] H := hP
  replace hD : va_D A [(a0, .inr (1, [.ref a1, .ref a2, .ref a3, .int x0, .int x1, .int x2, .int x3, .int x4, .int x5, .int x6])), (a1, .inr (8, [.ref a4])), (a4, .inl (cI, 30, .inl (u_1.2.1 0))), (a2, .inr (5, [.ref a5, .ref a6, .ref a7, .ref a8, .ref a9, .int 0, .int 0]))] := hD
  refine lv_aload_n (pc := 14) hx hb dX1_clear_14 rfl (lv_at hl 0 rfl) ?_
  refine lv_iconst (pc := 15) (v := 0) hx hb dX1_clear_15 (by decide) ?_
  refine va_put (pc := 16) (ci := 1) (v := .int 0) (ty := .int) (C := RX1) (T := TX1) (N := 10) hx hb hts iX1 tyX1 tyX1_ok nmX1 hown hK hP hD hS 0 rfl rfl 3 (by decide) (hts _ tw_110) (fun _ h9 => h9) rfl (by decide +kernel) (by decide +kernel) (by decide +kernel) (Nat.le_of_ble_eq_true rfl) dX1_clear_16 (fun H locs hP hD hS => ?_)
  replace hP : va_P D gcl [(a0, .inr (1, [.ref a1, .ref a2, .ref a3, .int 0, .int x1, .int x2, .int x3, .int x4, .int x5, .int x6])), (a1, .inr (8, [.ref a4])), (a4, .inl (cI, 30, .inl (u_1.2.1 0))), (a2, .inr (5, [.ref a5, .ref a6, .ref a7, .ref a8, .ref a9, .int 0, .int 0]))] H := hP
  replace hD : va_D A [(a0, .inr (1, [.ref a1, .ref a2, .ref a3, .int 0, .int x1, .int x2, .int x3, .int x4, .int x5, .int x6])), (a1, .inr (8, [.ref a4])), (a4, .inl (cI, 30, .inl (u_1.2.1 0))), (a2, .inr (5, [.ref a5, .ref a6, .ref a7, .ref a8, .ref a9, .int 0, .int 0]))] := hD
  refine lv_aload_n (pc := 19) hx hb dX1_clear_19 rfl (lv_at hl 0 rfl) ?_
  refine lv_iconst (pc := 20) (v := 0) hx hb dX1_clear_20 (by decide) ?_
  refine va_put (pc := 21) (ci := 1) (v := .int 0) (ty := .int) (C := RX1) (T := TX1) (N := 10) hx hb hts iX1 tyX1 tyX1_ok nmX1 hown hK hP hD hS 0 rfl rfl 4 (by decide) (hts _ tw_116) (fun _ h9 => h9) rfl (by decide +kernel) (by decide +kernel) (by decide +kernel) (Nat.le_of_ble_eq_true rfl) dX1_clear_21 (fun H locs hP hD hS => ?_)
  replace hP : va_P D gcl [(a0, .inr (1, [.ref a1, .ref a2, .ref a3, .int 0, .int 0, .int x2, .int x3, .int x4, .int x5, .int x6])), (a1, .inr (8, [.ref a4])), (a4, .inl (cI, 30, .inl (u_1.2.1 0))), (a2, .inr (5, [.ref a5, .ref a6, .ref a7, .ref a8, .ref a9, .int 0, .int 0]))] H := hP
  replace hD : va_D A [(a0, .inr (1, [.ref a1, .ref a2, .ref a3, .int 0, .int 0, .int x2, .int x3, .int x4, .int x5, .int x6])), (a1, .inr (8, [.ref a4])), (a4, .inl (cI, 30, .inl (u_1.2.1 0))), (a2, .inr (5, [.ref a5, .ref a6, .ref a7, .ref a8, .ref a9, .int 0, .int 0]))] := hD
  refine lv_aload_n (pc := 24) hx hb dX1_clear_24 rfl (lv_at hl 0 rfl) ?_
  refine lv_iconst (pc := 25) (v := 0) hx hb dX1_clear_25 (by decide) ?_
  refine va_put (pc := 26) (ci := 1) (v := .int 0) (ty := .int) (C := RX1) (T := TX1) (N := 10) hx hb hts iX1 tyX1 tyX1_ok nmX1 hown hK hP hD hS 0 rfl rfl 5 (by decide) (hts _ tw_125) (fun _ h9 => h9) rfl (by decide +kernel) (by decide +kernel) (by decide +kernel) (Nat.le_of_ble_eq_true rfl) dX1_clear_26 (fun H locs hP hD hS => ?_)
  replace hP : va_P D gcl [(a0, .inr (1, [.ref a1, .ref a2, .ref a3, .int 0, .int 0, .int 0, .int x3, .int x4, .int x5, .int x6])), (a1, .inr (8, [.ref a4])), (a4, .inl (cI, 30, .inl (u_1.2.1 0))), (a2, .inr (5, [.ref a5, .ref a6, .ref a7, .ref a8, .ref a9, .int 0, .int 0]))] H := hP
  replace hD : va_D A [(a0, .inr (1, [.ref a1, .ref a2, .ref a3, .int 0, .int 0, .int 0, .int x3, .int x4, .int x5, .int x6])), (a1, .inr (8, [.ref a4])), (a4, .inl (cI, 30, .inl (u_1.2.1 0))), (a2, .inr (5, [.ref a5, .ref a6, .ref a7, .ref a8, .ref a9, .int 0, .int 0]))] := hD
  refine lv_aload_n (pc := 29) hx hb dX1_clear_29 rfl (lv_at hl 0 rfl) ?_
  refine lv_iconst (pc := 30) (v := 0) hx hb dX1_clear_30 (by decide) ?_
  refine va_put (pc := 31) (ci := 1) (v := .int 0) (ty := .int) (C := RX1) (T := TX1) (N := 10) hx hb hts iX1 tyX1 tyX1_ok nmX1 hown hK hP hD hS 0 rfl rfl 6 (by decide) (hts _ tw_132) (fun _ h9 => h9) rfl (by decide +kernel) (by decide +kernel) (by decide +kernel) (Nat.le_of_ble_eq_true rfl) dX1_clear_31 (fun H locs hP hD hS => ?_)
  replace hP : va_P D gcl [(a0, .inr (1, [.ref a1, .ref a2, .ref a3, .int 0, .int 0, .int 0, .int 0, .int x4, .int x5, .int x6])), (a1, .inr (8, [.ref a4])), (a4, .inl (cI, 30, .inl (u_1.2.1 0))), (a2, .inr (5, [.ref a5, .ref a6, .ref a7, .ref a8, .ref a9, .int 0, .int 0]))] H := hP
  replace hD : va_D A [(a0, .inr (1, [.ref a1, .ref a2, .ref a3, .int 0, .int 0, .int 0, .int 0, .int x4, .int x5, .int x6])), (a1, .inr (8, [.ref a4])), (a4, .inl (cI, 30, .inl (u_1.2.1 0))), (a2, .inr (5, [.ref a5, .ref a6, .ref a7, .ref a8, .ref a9, .int 0, .int 0]))] := hD
  refine lv_aload_n (pc := 34) hx hb dX1_clear_34 rfl (lv_at hl 0 rfl) ?_
  refine lv_iconst (pc := 35) (v := 0) hx hb dX1_clear_35 (by decide) ?_
  refine va_put (pc := 36) (ci := 1) (v := .int 0) (ty := .int) (C := RX1) (T := TX1) (N := 10) hx hb hts iX1 tyX1 tyX1_ok nmX1 hown hK hP hD hS 0 rfl rfl 7 (by decide) (hts _ tw_135) (fun _ h9 => h9) rfl (by decide +kernel) (by decide +kernel) (by decide +kernel) (Nat.le_of_ble_eq_true rfl) dX1_clear_36 (fun H locs hP hD hS => ?_)
  replace hP : va_P D gcl [(a0, .inr (1, [.ref a1, .ref a2, .ref a3, .int 0, .int 0, .int 0, .int 0, .int 0, .int x5, .int x6])), (a1, .inr (8, [.ref a4])), (a4, .inl (cI, 30, .inl (u_1.2.1 0))), (a2, .inr (5, [.ref a5, .ref a6, .ref a7, .ref a8, .ref a9, .int 0, .int 0]))] H := hP
  replace hD : va_D A [(a0, .inr (1, [.ref a1, .ref a2, .ref a3, .int 0, .int 0, .int 0, .int 0, .int 0, .int x5, .int x6])), (a1, .inr (8, [.ref a4])), (a4, .inl (cI, 30, .inl (u_1.2.1 0))), (a2, .inr (5, [.ref a5, .ref a6, .ref a7, .ref a8, .ref a9, .int 0, .int 0]))] := hD
  refine lv_aload_n (pc := 39) hx hb dX1_clear_39 rfl (lv_at hl 0 rfl) ?_
  refine lv_sipush (pc := 40) (v := 9999) hx hb dX1_clear_40 (by decide) ?_
  refine va_put (pc := 43) (ci := 1) (v := .int 9999) (ty := .int) (C := RX1) (T := TX1) (N := 10) hx hb hts iX1 tyX1 tyX1_ok nmX1 hown hK hP hD hS 0 rfl rfl 8 (by decide) (hts _ tw_139) (fun _ h9 => h9) rfl (by decide +kernel) (by decide +kernel) (by decide +kernel) (Nat.le_of_ble_eq_true rfl) dX1_clear_43 (fun H locs hP hD hS => ?_)
  replace hP : va_P D gcl [(a0, .inr (1, [.ref a1, .ref a2, .ref a3, .int 0, .int 0, .int 0, .int 0, .int 0, .int 9999, .int x6])), (a1, .inr (8, [.ref a4])), (a4, .inl (cI, 30, .inl (u_1.2.1 0))), (a2, .inr (5, [.ref a5, .ref a6, .ref a7, .ref a8, .ref a9, .int 0, .int 0]))] H := hP
  replace hD : va_D A [(a0, .inr (1, [.ref a1, .ref a2, .ref a3, .int 0, .int 0, .int 0, .int 0, .int 0, .int 9999, .int x6])), (a1, .inr (8, [.ref a4])), (a4, .inl (cI, 30, .inl (u_1.2.1 0))), (a2, .inr (5, [.ref a5, .ref a6, .ref a7, .ref a8, .ref a9, .int 0, .int 0]))] := hD
  refine lv_aload_n (pc := 46) hx hb dX1_clear_46 rfl (lv_at hl 0 rfl) ?_
  refine lv_iconst (pc := 47) (v := 0) hx hb dX1_clear_47 (by decide) ?_
  refine va_put (pc := 48) (ci := 1) (v := .int 0) (ty := .int) (C := RX1) (T := TX1) (N := 10) hx hb hts iX1 tyX1 tyX1_ok nmX1 hown hK hP hD hS 0 rfl rfl 9 (by decide) (hts _ tw_143) (fun _ h9 => h9) rfl (by decide +kernel) (by decide +kernel) (by decide +kernel) (Nat.le_of_ble_eq_true rfl) dX1_clear_48 (fun H locs hP hD hS => ?_)
  replace hP : va_P D gcl [(a0, .inr (1, [.ref a1, .ref a2, .ref a3, .int 0, .int 0, .int 0, .int 0, .int 0, .int 9999, .int 0])), (a1, .inr (8, [.ref a4])), (a4, .inl (cI, 30, .inl (u_1.2.1 0))), (a2, .inr (5, [.ref a5, .ref a6, .ref a7, .ref a8, .ref a9, .int 0, .int 0]))] H := hP
  replace hD : va_D A [(a0, .inr (1, [.ref a1, .ref a2, .ref a3, .int 0, .int 0, .int 0, .int 0, .int 0, .int 9999, .int 0])), (a1, .inr (8, [.ref a4])), (a4, .inl (cI, 30, .inl (u_1.2.1 0))), (a2, .inr (5, [.ref a5, .ref a6, .ref a7, .ref a8, .ref a9, .int 0, .int 0]))] := hD
  exact hret ((fun _ => 0), (fun k => [(u_1.2.1 0)].getD k (fun _ => 0)), (fun _ => (fun _ => 0)), (fun _ => 0), (fun _ => 0)) dX1_clear_51 trivial (g_psub (wc := [(a0, .inr (1, [.ref a1, .ref a2, .ref a3, .int 0, .int 0, .int 0, .int 0, .int 0, .int 9999, .int 0])), (a1, .inr (8, [.ref a4])), (a4, .inl (cI, 30, .inl (u_1.2.1 0))), (a2, .inr (5, [.ref a5, .ref a6, .ref a7, .ref a8, .ref a9, .int 0, .int 0]))]) hP [0, 1, 2, 3] rfl) (hD.sub (ws' := [(a0, .inr (1, [.ref a1, .ref a2, .ref a3, .int 0, .int 0, .int 0, .int 0, .int 0, .int 9999, .int 0])), (a1, .inr (8, [.ref a4])), (a4, .inl (cI, 30, .inl (u_1.2.1 0))), (a2, .inr (5, [.ref a5, .ref a6, .ref a7, .ref a8, .ref a9, .int 0, .int 0]))]) [0, 1, 2, 3] (by decide) rfl) hS
