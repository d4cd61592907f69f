theorem om_1382 {a b c : Int} (h0 : (a = c * 5)) (h1 : (b ≤ 4)) (h2 : (c ≤ 4)) : (a + b ≤ 2147483647) := by omega
theorem om_1383 {a b c d : Int} (h0 : (a = b + c)) (h1 : (b = d * 5)) (h2 : (c ≤ 4)) (h3 : (d ≤ 4)) : (a < (25 : Nat)) := by omega
set_option maxHeartbeats 4000000 in
set_option maxRecDepth 100000 in
theorem k_X2_leaderAt (l : Launch) (D : va_G) (cB cC cI cJ : ClassId) (sz : Nat) (a0 a1 a2 a3 : Nat) (x0 x1 x2 x3 x4 x5 x6 : Int32) (g0 : Nat → Int64) (hp1 : (0 ≤ x0.toInt ∧ x0.toInt ≤ 4)) (hp2 : (0 ≤ x1.toInt ∧ x1.toInt ≤ 4)) (h_x2 : zBd x2.toInt (-1) 5) (h_x3 : zBd x3.toInt 0 39) (h_x4 : zBd x4.toInt 0 40) (h_x5 : zBd x5.toInt 0 40) (hr_a0_0 : (x4.toInt + x5.toInt ≤ 40)) : Met l yX2_leaderAt (.code yX2_leaderAt cX2_leaderAt 3 (some .long) :: lw_gd) ({ frames := 0, cells := 0, slots := 0, locals := 0 }) (gPre D [(cB, .byte), (cC, .char), (cI, .int), (cJ, .long)] [.ref a0, .int x0, .int x1] (zS_178 cB cC cI cJ a0 a1 a2 a3 x2 x3 x4 x5 x6 a2 g0) sz) (va_Ql (fun r u => ((((-9223372036854775808) ≤ r.toInt ∧ r.toInt ≤ 9223372036854775807)))) (gB D (va_A (zS_178 cB cC cI cJ a0 a1 a2 a3 x2 x3 x4 x5 x6 a2 g0) sz) (fun u : gEx => (zS_178 cB cC cI cJ a0 a1 a2 a3 x2 x3 x4 x5 x6 a2 g0))) (va_A (zS_178 cB cC cI cJ a0 a1 a2 a3 x2 x3 x4 x5 x6 a2 g0) sz)) 0 0 (va_A (zS_178 cB cC cI cJ a0 a1 a2 a3 x2 x3 x4 x5 x6 a2 g0) sz) := by
  refine gOf_l (by decide +kernel) (Nat.le_of_ble_eq_true rfl) ?_
  intro p e s m args below meth c ls A Q hx hb hts hown hml hN hK hP hD hA hl hret
  replace hown : s.vm.findClass RX2 = some m.cls := hown
  have hS : va_S A s.heap s.heap [] := va_S.rf
  replace hP : va_P D gcl (zS_178 cB cC cI cJ a0 a1 a2 a3 x2 x3 x4 x5 x6 a2 g0) s.heap := hP
  replace hl : lv_has ls 3 [(0, .ref a0), (1, .int x0), (2, .int x1)] := hl
  have rx6 : zBd x6.toInt (-2147483648) 2147483647 := n_rng x6
  refine lv_aload_n (pc := 0) hx hb dX2_leaderAt_0 rfl (lv_at hl 0 rfl) ?_
  refine va_get (pc := 1) (ci := 2) (v := .ref a2) (C := RX2) (T := TX2) (N := 8) hx hb hts iX2 hown hK hP 0 rfl rfl 1 (by decide) (hts _ tw_393) (fun _ h9 => h9) rfl dX2_leaderAt_1 ?_
  refine lv_iload_n (pc := 4) hx hb dX2_leaderAt_4 rfl (lv_at hl 2 rfl) ?_
  refine lv_iconst (pc := 5) (v := 5) hx hb dX2_leaderAt_5 (by decide) ?_
  refine b_imul (pc := 6) hx hb rfl tI_5 (by first | exact (om_330 hp2.1) | ((first | omega | (unfold zBd at *; omega)))) (by first | exact (om_1161 hp2.2) | ((first | omega | (unfold zBd at *; omega)))) dX2_leaderAt_6 (fun x_1 ex_1 => ?_)
  refine lv_iload_n (pc := 7) hx hb dX2_leaderAt_7 rfl (lv_at hl 1 rfl) ?_
  refine b_iadd (pc := 8) hx hb rfl rfl (by first | exact (om_332 ex_1 hp1.1 hp2.1) | ((first | omega | (unfold zBd at *; omega)))) (by first | exact (om_1382 ex_1 hp1.2 hp2.2) | ((first | omega | (unfold zBd at *; omega)))) dX2_leaderAt_8 (fun x_2 ex_2 => ?_)
  refine va_lald (pc := 9) hx hb hK hP 1 3 rfl rfl (n_in rfl (by first | exact (om_334 ex_2 ex_1 hp1.1 hp2.1) | ((first | omega | (unfold zBd at *; omega)))) (by first | exact (om_1383 ex_2 ex_1 hp1.2 hp2.2) | ((first | omega | (unfold zBd at *; omega))))) dX2_leaderAt_9 ?_
  refine lv_topl (fun y_3 ey_3 => ?_)
  have ry_3 := n_rngL y_3
  exact hret y_3 ((fun _ => 0), (fun _ => (fun _ => 0)), (fun _ => (fun _ => 0)), (fun _ => 0), (fun _ => 0)) dX2_leaderAt_10 (show ((((-9223372036854775808) ≤ y_3.toInt ∧ y_3.toInt ≤ 9223372036854775807))) from (by first | exact (om_1164 ry_3.1 ry_3.2) | ((first | omega | (unfold zBd at *; omega))))) (g_psub (wc := (zS_178 cB cC cI cJ a0 a1 a2 a3 x2 x3 x4 x5 x6 a2 g0)) hP [0, 1] rfl) (hD.sub (ws' := (zS_178 cB cC cI cJ a0 a1 a2 a3 x2 x3 x4 x5 x6 a2 g0)) [0, 1] (by decide) rfl) hS
theorem om_1384 {a : Int} (h0 : (a = (-1000000000))) : (((a = (-1000000000)) ∨ (((-9223372036854775808) ≤ a ∧ a ≤ 9223372036854775807)))) := by omega
theorem om_1385 {a : Int} (h0 : ((-9223372036854775808) ≤ a)) (h1 : (a ≤ 9223372036854775807)) : (((a = (-1000000000)) ∨ (((-9223372036854775808) ≤ a ∧ a ≤ 9223372036854775807)))) := by omega
set_option maxHeartbeats 4000000 in
set_option maxRecDepth 100000 in
theorem k_X11_leader (l : Launch) (D : va_G) (cB cC cI cJ : ClassId) (sz : Nat) (a0 a1 a2 a3 a4 a5 a6 a7 a8 a9 a10 a11 a12 a13 a14 a15 a16 a17 a18 a19 : Nat) (x0 x1 x2 x3 x4 x5 x6 x7 x8 x9 x10 x11 x12 x13 x14 : Int32) (g0 : Nat → Int64) (h_x2 : zBd x2.toInt 0 14) (h_x3 : zBd x3.toInt (-1) 8) (h_x4 : zBd x4.toInt (-1) 5) (h_x5 : zBd x5.toInt (-1) 6) (h_x6 : zBd x6.toInt 0 6) (h_x7 : zBd x7.toInt 0 16) (h_x10 : zBd x10.toInt (-1) 5) (h_x11 : zBd x11.toInt 0 39) (h_x12 : zBd x12.toInt 0 40) (h_x13 : zBd x13.toInt 0 40) (hr_a12_0 : (x12.toInt + x13.toInt ≤ 40)) : Met l yX11_leader (.code yX11_leader cX11_leader 3 (some .long) :: lw_gd) ({ frames := 1, cells := 0, slots := 0, locals := 22 }) (gPre D [(cB, .byte), (cC, .char), (cI, .int), (cJ, .long)] [.ref a0, .int x0, .int x1] (zS_119 cB cC cI cJ a0 a1 a2 a3 a4 a5 a6 a7 a8 a9 a10 x2 a11 a12 a13 a11 a14 a15 a16 x3 x4 x5 x6 x7 x8 x9 a12 a17 a18 a19 x10 x11 x12 x13 x14 a18 g0) sz) (va_Ql (fun r u => ((r.toInt = (-1000000000)) ∨ (((-9223372036854775808) ≤ r.toInt ∧ r.toInt ≤ 9223372036854775807)))) (gB D (va_A (zS_119 cB cC cI cJ a0 a1 a2 a3 a4 a5 a6 a7 a8 a9 a10 x2 a11 a12 a13 a11 a14 a15 a16 x3 x4 x5 x6 x7 x8 x9 a12 a17 a18 a19 x10 x11 x12 x13 x14 a18 g0) sz) (fun u : gEx => (zS_119 cB cC cI cJ a0 a1 a2 a3 a4 a5 a6 a7 a8 a9 a10 x2 a11 a12 a13 a11 a14 a15 a16 x3 x4 x5 x6 x7 x8 x9 a12 a17 a18 a19 x10 x11 x12 x13 x14 a18 g0))) (va_A (zS_119 cB cC cI cJ a0 a1 a2 a3 a4 a5 a6 a7 a8 a9 a10 x2 a11 a12 a13 a11 a14 a15 a16 x3 x4 x5 x6 x7 x8 x9 a12 a17 a18 a19 x10 x11 x12 x13 x14 a18 g0) sz)) 0 0 (va_A (zS_119 cB cC cI cJ a0 a1 a2 a3 a4 a5 a6 a7 a8 a9 a10 x2 a11 a12 a13 a11 a14 a15 a16 x3 x4 x5 x6 x7 x8 x9 a12 a17 a18 a19 x10 x11 x12 x13 x14 a18 g0) sz) := by
  refine gOf_l (by decide +kernel) (Nat.le_of_ble_eq_true rfl) ?_
  intro p e s m args below meth c ls A Q hx hb hts hown hml hN hK hP hD hA hl hret
  replace hown : s.vm.findClass RX11 = some m.cls := hown
  have hS : va_S A s.heap s.heap [] := va_S.rf
  replace hP : va_P D gcl (zS_119 cB cC cI cJ a0 a1 a2 a3 a4 a5 a6 a7 a8 a9 a10 x2 a11 a12 a13 a11 a14 a15 a16 x3 x4 x5 x6 x7 x8 x9 a12 a17 a18 a19 x10 x11 x12 x13 x14 a18 g0) s.heap := hP
  replace hl : lv_has ls 3 [(0, .ref a0), (1, .int x0), (2, .int x1)] := hl
  have rx0 : zBd x0.toInt (-2147483648) 2147483647 := n_rng x0
  have rx1 : zBd x1.toInt (-2147483648) 2147483647 := n_rng x1
  have rx8 : zBd x8.toInt (-2147483648) 2147483647 := n_rng x8
  have rx9 : zBd x9.toInt (-2147483648) 2147483647 := n_rng x9
  have rx14 : zBd x14.toInt (-2147483648) 2147483647 := n_rng x14
  refine lv_aload_n (pc := 0) hx hb dX11_leader_0 rfl (lv_at hl 0 rfl) ?_
  refine va_get (pc := 1) (ci := 11) (v := .ref a11) (C := RX11) (T := TX11) (N := 14) hx hb hts iX11 hown hK hP 0 rfl rfl 11 (by decide) (hts _ tw_431) (fun _ h9 => h9) rfl dX11_leader_1 ?_
  refine lv_iload_n (pc := 4) hx hb dX11_leader_4 rfl (lv_at hl 1 rfl) ?_
  refine gd_i (pc := 5) (wc := (zS_5 cB cC cI cJ a11 a14 a15 a16 x3 x4 x5 x6 x7 x8 x9)) hP hD hS hA [1] rfl (by decide +kernel) (fun _ => by rfl) (fun hPc hDc => va_runV (As := [.int x0]) (rest := []) ⟨hx, hb, hml, hown, hts⟩ (k_X1_isSender l D cB cC cI cJ _ a11 a14 a15 a16 x0 x3 x4 x5 x6 x7 x8 x9 h_x3 h_x4 h_x5 h_x6 h_x7) ⟨gcwB hts tw_782 tw_4 tw_779 hd_yX1_isSender ⟨Nat.le_of_ble_eq_true rfl, Nat.le_of_ble_eq_true rfl⟩, hts _ tw_780, hts _ tw_781⟩ ⟨gblind, va_recv hK hPc (ci := 1) (q0 := 0) rfl rfl, (gpreS hPc hK hDc hN).2⟩ rfl rfl hl.1 rfl (lv_room (Nat.le_of_ble_eq_true rfl)) dX11_leader_5 ⟨Nat.le_of_ble_eq_true rfl, Nat.le_of_ble_eq_true rfl⟩) (fun r_2 u_1 H locs hw_3 hP hD hS => ?_)
  replace hP : va_P D gcl (zS_119 cB cC cI cJ a0 a1 a2 a3 a4 a5 a6 a7 a8 a9 a10 x2 a11 a12 a13 a11 a14 a15 a16 x3 x4 x5 x6 x7 x8 x9 a12 a17 a18 a19 x10 x11 x12 x13 x14 a18 g0) H := hP
  replace hD : va_D A (zS_119 cB cC cI cJ a0 a1 a2 a3 a4 a5 a6 a7 a8 a9 a10 x2 a11 a12 a13 a11 a14 a15 a16 x3 x4 x5 x6 x7 x8 x9 a12 a17 a18 a19 x10 x11 x12 x13 x14 a18 g0) := hD
  have hw_4 : ((r_2.toInt = 0 ∧ x0.toInt < 0) ∨ (r_2.toInt = 0 ∧ x0.toInt ≥ 0 ∧ x0.toInt ≥ x4.toInt) ∨ (r_2.toInt = 1 ∧ x0.toInt ≥ 0 ∧ x0.toInt < x4.toInt)) := hw_3
  have rr_2 : zBd r_2.toInt (-2147483648) 2147483647 := n_rng r_2
  refine b_if_eq (pc := 8) (tgt := 34) hx hb rfl  dX11_leader_8 (by decide) (fun c_5 => ?_) (fun c_5 => ?_)
  ·
    as_aux_lemma =>
      refine lv_ldc2 (pc := 34) hx hb hown (hts _ tw_1091) dX11_leader_34 ?_
      exact hret (-1000000000) ((fun _ => 0), (fun _ => (fun _ => 0)), (fun _ => (fun _ => 0)), (fun _ => 0), (fun _ => 0)) dX11_leader_37 (show ((((-1000000000) : Int64).toInt = (-1000000000)) ∨ (((-9223372036854775808) ≤ ((-1000000000) : Int64).toInt ∧ ((-1000000000) : Int64).toInt ≤ 9223372036854775807))) from (by first | exact (om_1384 tL_m1000000000) | (have k9 := tL_m1000000000; (first | omega | (unfold zBd at *; omega))))) (g_psub (wc := (zS_119 cB cC cI cJ a0 a1 a2 a3 a4 a5 a6 a7 a8 a9 a10 x2 a11 a12 a13 a11 a14 a15 a16 x3 x4 x5 x6 x7 x8 x9 a12 a17 a18 a19 x10 x11 x12 x13 x14 a18 g0)) hP [0, 1, 2, 3] rfl) (hD.sub (ws' := (zS_119 cB cC cI cJ a0 a1 a2 a3 a4 a5 a6 a7 a8 a9 a10 x2 a11 a12 a13 a11 a14 a15 a16 x3 x4 x5 x6 x7 x8 x9 a12 a17 a18 a19 x10 x11 x12 x13 x14 a18 g0)) [0, 1, 2, 3] (by decide) rfl) hS
  ·
    as_aux_lemma =>
      refine lv_aload_n (pc := 11) hx hb dX11_leader_11 rfl (lv_at hl 0 rfl) ?_
      refine va_get (pc := 12) (ci := 11) (v := .ref a11) (C := RX11) (T := TX11) (N := 14) hx hb hts iX11 hown hK hP 0 rfl rfl 11 (by decide) (hts _ tw_431) (fun _ h9 => h9) rfl dX11_leader_12 ?_
      refine lv_iload_n (pc := 15) hx hb dX11_leader_15 rfl (lv_at hl 2 rfl) ?_
      refine gd_i (pc := 16) (wc := (zS_5 cB cC cI cJ a11 a14 a15 a16 x3 x4 x5 x6 x7 x8 x9)) hP hD hS hA [1] rfl (by decide +kernel) (fun _ => by rfl) (fun hPc hDc => va_runV (As := [.int x1]) (rest := []) ⟨hx, hb, hml, hown, hts⟩ (k_X1_isSender l D cB cC cI cJ _ a11 a14 a15 a16 x1 x3 x4 x5 x6 x7 x8 x9 h_x3 h_x4 h_x5 h_x6 h_x7) ⟨gcwB hts tw_782 tw_4 tw_779 hd_yX1_isSender ⟨Nat.le_of_ble_eq_true rfl, Nat.le_of_ble_eq_true rfl⟩, hts _ tw_780, hts _ tw_781⟩ ⟨gblind, va_recv hK hPc (ci := 1) (q0 := 0) rfl rfl, (gpreS hPc hK hDc hN).2⟩ rfl rfl hl.1 rfl (lv_room (Nat.le_of_ble_eq_true rfl)) dX11_leader_16 ⟨Nat.le_of_ble_eq_true rfl, Nat.le_of_ble_eq_true rfl⟩) (fun r_7 u_6 H locs hw_8 hP hD hS => ?_)
      replace hP : va_P D gcl (zS_119 cB cC cI cJ a0 a1 a2 a3 a4 a5 a6 a7 a8 a9 a10 x2 a11 a12 a13 a11 a14 a15 a16 x3 x4 x5 x6 x7 x8 x9 a12 a17 a18 a19 x10 x11 x12 x13 x14 a18 g0) H := hP
      replace hD : va_D A (zS_119 cB cC cI cJ a0 a1 a2 a3 a4 a5 a6 a7 a8 a9 a10 x2 a11 a12 a13 a11 a14 a15 a16 x3 x4 x5 x6 x7 x8 x9 a12 a17 a18 a19 x10 x11 x12 x13 x14 a18 g0) := hD
      have hw_9 : ((r_7.toInt = 0 ∧ x1.toInt < 0) ∨ (r_7.toInt = 0 ∧ x1.toInt ≥ 0 ∧ x1.toInt ≥ x4.toInt) ∨ (r_7.toInt = 1 ∧ x1.toInt ≥ 0 ∧ x1.toInt < x4.toInt)) := hw_8
      have rr_7 : zBd r_7.toInt (-2147483648) 2147483647 := n_rng r_7
      refine b_if_eq (pc := 19) (tgt := 34) hx hb rfl  dX11_leader_19 (by decide) (fun c_10 => ?_) (fun c_10 => ?_)
      ·
        as_aux_lemma =>
          refine lv_ldc2 (pc := 34) hx hb hown (hts _ tw_1091) dX11_leader_34 ?_
          exact hret (-1000000000) ((fun _ => 0), (fun _ => (fun _ => 0)), (fun _ => (fun _ => 0)), (fun _ => 0), (fun _ => 0)) dX11_leader_37 (show ((((-1000000000) : Int64).toInt = (-1000000000)) ∨ (((-9223372036854775808) ≤ ((-1000000000) : Int64).toInt ∧ ((-1000000000) : Int64).toInt ≤ 9223372036854775807))) from (by first | exact (om_1384 tL_m1000000000) | (have k9 := tL_m1000000000; (first | omega | (unfold zBd at *; omega))))) (g_psub (wc := (zS_119 cB cC cI cJ a0 a1 a2 a3 a4 a5 a6 a7 a8 a9 a10 x2 a11 a12 a13 a11 a14 a15 a16 x3 x4 x5 x6 x7 x8 x9 a12 a17 a18 a19 x10 x11 x12 x13 x14 a18 g0)) hP [0, 1, 2, 3] rfl) (hD.sub (ws' := (zS_119 cB cC cI cJ a0 a1 a2 a3 a4 a5 a6 a7 a8 a9 a10 x2 a11 a12 a13 a11 a14 a15 a16 x3 x4 x5 x6 x7 x8 x9 a12 a17 a18 a19 x10 x11 x12 x13 x14 a18 g0)) [0, 1, 2, 3] (by decide) rfl) hS
      ·
        as_aux_lemma =>
          refine lv_aload_n (pc := 22) hx hb dX11_leader_22 rfl (lv_at hl 0 rfl) ?_
          refine va_get (pc := 23) (ci := 11) (v := .ref a12) (C := RX11) (T := TX11) (N := 14) hx hb hts iX11 hown hK hP 0 rfl rfl 12 (by decide) (hts _ tw_432) (fun _ h9 => h9) rfl dX11_leader_23 ?_
          refine lv_iload_n (pc := 26) hx hb dX11_leader_26 rfl (lv_at hl 1 rfl) ?_
          refine lv_iload_n (pc := 27) hx hb dX11_leader_27 rfl (lv_at hl 2 rfl) ?_
          refine gd_l (pc := 28) (wc := (zS_178 cB cC cI cJ a12 a17 a18 a19 x10 x11 x12 x13 x14 a18 g0)) hP hD hS hA [2, 3] rfl (by decide +kernel) (fun _ => by rfl) (fun hPc hDc => va_runV (As := [.int x0, .int x1]) (rest := []) ⟨hx, hb, hml, hown, hts⟩ (k_X2_leaderAt l D cB cC cI cJ _ a12 a17 a18 a19 x0 x1 x10 x11 x12 x13 x14 g0 (by first | exact (om_1336 hw_4 c_5 h_x4.2) | ((first | omega | (unfold zBd at *; omega)))) (by first | exact (om_1336 hw_9 c_10 h_x4.2) | ((first | omega | (unfold zBd at *; omega)))) h_x10 h_x11 h_x12 h_x13 hr_a12_0) ⟨gcwB hts tw_1090 tw_13 tw_1087 hd_yX2_leaderAt ⟨Nat.le_of_ble_eq_true rfl, Nat.le_of_ble_eq_true rfl⟩, hts _ tw_1088, hts _ tw_1089⟩ ⟨gblind, va_recv hK hPc (ci := 2) (q0 := 0) rfl rfl, (gpreS hPc hK hDc hN).2⟩ rfl rfl hl.1 rfl (lv_room (Nat.le_of_ble_eq_true rfl)) dX11_leader_28 ⟨Nat.le_of_ble_eq_true rfl, Nat.le_of_ble_eq_true rfl⟩) (fun r_12 u_11 H locs hw_13 hP hD hS => ?_)
          replace hP : va_P D gcl (zS_119 cB cC cI cJ a0 a1 a2 a3 a4 a5 a6 a7 a8 a9 a10 x2 a11 a12 a13 a11 a14 a15 a16 x3 x4 x5 x6 x7 x8 x9 a12 a17 a18 a19 x10 x11 x12 x13 x14 a18 g0) H := hP
          replace hD : va_D A (zS_119 cB cC cI cJ a0 a1 a2 a3 a4 a5 a6 a7 a8 a9 a10 x2 a11 a12 a13 a11 a14 a15 a16 x3 x4 x5 x6 x7 x8 x9 a12 a17 a18 a19 x10 x11 x12 x13 x14 a18 g0) := hD
          have hw_14 : ((((-9223372036854775808) ≤ r_12.toInt ∧ r_12.toInt ≤ 9223372036854775807))) := hw_13
          have rr_12 := n_rngL r_12
          refine lv_goto (pc := 31) (tgt := 37) hx hb dX11_leader_31 (by decide) ?_
          exact hret r_12 ((fun _ => 0), (fun _ => (fun _ => 0)), (fun _ => (fun _ => 0)), (fun _ => 0), (fun _ => 0)) dX11_leader_37 (show ((r_12.toInt = (-1000000000)) ∨ (((-9223372036854775808) ≤ r_12.toInt ∧ r_12.toInt ≤ 9223372036854775807))) from (by first | exact (om_1385 rr_12.1 rr_12.2) | ((first | omega | (unfold zBd at *; omega))))) (g_psub (wc := (zS_119 cB cC cI cJ a0 a1 a2 a3 a4 a5 a6 a7 a8 a9 a10 x2 a11 a12 a13 a11 a14 a15 a16 x3 x4 x5 x6 x7 x8 x9 a12 a17 a18 a19 x10 x11 x12 x13 x14 a18 g0)) hP [0, 1, 2, 3] rfl) (hD.sub (ws' := (zS_119 cB cC cI cJ a0 a1 a2 a3 a4 a5 a6 a7 a8 a9 a10 x2 a11 a12 a13 a11 a14 a15 a16 x3 x4 x5 x6 x7 x8 x9 a12 a17 a18 a19 x10 x11 x12 x13 x14 a18 g0)) [0, 1, 2, 3] (by decide) rfl) hS
theorem om_1386 {a b : Int} (h0 : (a ≤ 39)) (h1 : (b ≤ 40)) : (a + b ≤ 2147483647) := by omega
theorem om_1387 : (0 < 40) := by omega
theorem om_1388 {a b c : Int} (h0 : (a = b + c)) (h1 : (0 ≤ b)) (h2 : (0 ≤ c)) : (0 ≤ a) := by omega
set_option maxHeartbeats 4000000 in
set_option maxRecDepth 100000 in
theorem k_X2_slot_x (l : Launch) (D : va_G) (cB cC cI cJ : ClassId) (sz : Nat) (a0 a1 a2 a3 : Nat) (x0 x1 x2 x3 x4 x5 : Int32) (hp1 : (0 ≤ x0.toInt ∧ x0.toInt ≤ 40)) (h_x1 : zBd x1.toInt (-1) 5) (h_x2 : zBd x2.toInt 0 39) (h_x3 : zBd x3.toInt 0 40) (h_x4 : zBd x4.toInt 0 40) (hr_a0_0 : (x3.toInt + x4.toInt ≤ 40)) : Met l yX2_slot (.code yX2_slot cX2_slot 2 (some .int) :: lw_gd) ({ frames := 0, cells := 0, slots := 0, locals := 0 }) (gPre D [(cB, .byte), (cC, .char), (cI, .int), (cJ, .long)] [.ref a0, .int x0] (zS_162 cB cC cI cJ a0 a1 a2 a3 x1 x2 x3 x4 x5) sz) (va_Qi (fun r u => (0 ≤ r.toInt ∧ r.toInt ≤ 117) ∧ (r.toInt = ((x2.toInt + x0.toInt) % 40) * 3)) (gB D (va_A (zS_162 cB cC cI cJ a0 a1 a2 a3 x1 x2 x3 x4 x5) sz) (fun u : gEx => (zS_162 cB cC cI cJ a0 a1 a2 a3 x1 x2 x3 x4 x5))) (va_A (zS_162 cB cC cI cJ a0 a1 a2 a3 x1 x2 x3 x4 x5) sz)) 0 0 (va_A (zS_162 cB cC cI cJ a0 a1 a2 a3 x1 x2 x3 x4 x5) sz) := by
  refine gOf_i (by decide +kernel) (Nat.le_of_ble_eq_true rfl) ?_
  intro p e s m args below meth c ls A Q hx hb hts hown hml hN hK hP hD hA hl hret
  replace hown : s.vm.findClass RX2 = some m.cls := hown
  have hS : va_S A s.heap s.heap [] := va_S.rf
  replace hP : va_P D gcl (zS_162 cB cC cI cJ a0 a1 a2 a3 x1 x2 x3 x4 x5) s.heap := hP
  replace hl : lv_has ls 2 [(0, .ref a0), (1, .int x0)] := hl
  have rx5 : zBd x5.toInt (-2147483648) 2147483647 := n_rng x5
  refine lv_aload_n (pc := 0) hx hb dX2_slot_0 rfl (lv_at hl 0 rfl) ?_
  refine va_get (pc := 1) (ci := 2) (v := .int x2) (C := RX2) (T := TX2) (N := 8) hx hb hts iX2 hown hK hP 0 rfl rfl 4 (by decide) (hts _ tw_396) (fun _ h9 => h9) rfl dX2_slot_1 ?_
  have bd_h_x2 : 0 ≤ x2.toInt ∧ x2.toInt ≤ 39 := h_x2
  refine lv_iload_n (pc := 4) hx hb dX2_slot_4 rfl (lv_at hl 1 rfl) ?_
  refine b_iadd (pc := 5) hx hb rfl rfl (by first | exact (om_1000 h_x2.1 hp1.1) | ((first | omega | (unfold zBd at *; omega)))) (by first | exact (om_1386 h_x2.2 hp1.2) | ((first | omega | (unfold zBd at *; omega)))) dX2_slot_5 (fun x_1 ex_1 => ?_)
  refine lv_bipush (pc := 6) (v := 40) hx hb dX2_slot_6 (by decide) ?_
  refine c_irem (pc := 8) hx hb rfl tI_40 (by first | exact (om_1387) | ((first | omega | (unfold zBd at *; omega)))) (by first | exact (om_1388 ex_1 h_x2.1 hp1.1) | ((first | omega | (unfold zBd at *; omega)))) dX2_slot_8 (fun x_2 ex_2 => ?_)
  refine lv_iconst (pc := 9) (v := 3) hx hb dX2_slot_9 (by decide) ?_
  refine b_imul (pc := 10) hx hb rfl tI_3 (by (first | omega | (unfold zBd at *; omega))) (by (first | omega | (unfold zBd at *; omega))) dX2_slot_10 (fun x_3 ex_3 => ?_)
  exact hret x_3 ((fun _ => 0), (fun _ => (fun _ => 0)), (fun _ => (fun _ => 0)), (fun _ => 0), (fun _ => 0)) dX2_slot_11 ⟨(show (0 ≤ x_3.toInt ∧ x_3.toInt ≤ 117) from (by (first | omega | (unfold zBd at *; omega)))), (show x_3.toInt = ((x2.toInt + x0.toInt) % 40) * 3 from (by (first | omega | (unfold zBd at *; omega))))⟩ (g_psub (wc := (zS_162 cB cC cI cJ a0 a1 a2 a3 x1 x2 x3 x4 x5)) hP [0] rfl) (hD.sub (ws' := (zS_162 cB cC cI cJ a0 a1 a2 a3 x1 x2 x3 x4 x5)) [0] (by decide) rfl) hS
theorem om_1389 {a : Int} (h0 : (0 ≤ a)) (h1 : (a ≤ 39)) : ((0 ≤ a ∧ a ≤ 40)) := by omega
theorem om_1390 {a b : Int} (h0 : ((-2147483648) ≤ a)) (h1 : (0 ≤ b)) : (-2147483648 ≤ a + b) := by omega
theorem om_1391 {a b : Int} (h0 : (a ≤ 117)) (h1 : (b ≤ 2)) : (a + b ≤ 2147483647) := by omega
theorem om_1392 {a b c : Int} (h0 : (a = b + c)) (h1 : (b ≤ 117)) (h2 : (c ≤ 2)) : (a < (120 : Nat)) := by omega
set_option maxHeartbeats 4000000 in
set_option maxRecDepth 100000 in
theorem k_X2_stepAt (l : Launch) (D : va_G) (cB cC cI cJ : ClassId) (sz : Nat) (a0 a1 a2 a3 : Nat) (x0 x1 x2 x3 x4 x5 x6 : Int32) (f0 : Nat → Int32) (hp1 : (0 ≤ x0.toInt ∧ x0.toInt ≤ 39)) (hp2 : (0 ≤ x1.toInt ∧ x1.toInt ≤ 2)) (h_x2 : zBd x2.toInt (-1) 5) (h_x3 : zBd x3.toInt 0 39) (h_x4 : zBd x4.toInt 0 40) (h_x5 : zBd x5.toInt 0 40) (hr_a0_0 : (x4.toInt + x5.toInt ≤ 40)) : Met l yX2_stepAt (.code yX2_stepAt cX2_stepAt 3 (some .int) :: lw_gd) ({ frames := 1, cells := 0, slots := 0, locals := 21 }) (gPre D [(cB, .byte), (cC, .char), (cI, .int), (cJ, .long)] [.ref a0, .int x0, .int x1] (zS_43 cB cC cI cJ a0 a1 a2 a3 x2 x3 x4 x5 x6 a3 f0) sz) (va_Qi (fun r u => (r = f0 (sl x3.toInt x0.toInt + (x1.toInt).toNat))) (gB D (va_A (zS_43 cB cC cI cJ a0 a1 a2 a3 x2 x3 x4 x5 x6 a3 f0) sz) (fun u : gEx => (zS_43 cB cC cI cJ a0 a1 a2 a3 x2 x3 x4 x5 x6 a3 f0))) (va_A (zS_43 cB cC cI cJ a0 a1 a2 a3 x2 x3 x4 x5 x6 a3 f0) sz)) 0 0 (va_A (zS_43 cB cC cI cJ a0 a1 a2 a3 x2 x3 x4 x5 x6 a3 f0) sz) := by
  refine gOf_i (by decide +kernel) (Nat.le_of_ble_eq_true rfl) ?_
  intro p e s m args below meth c ls A Q hx hb hts hown hml hN hK hP hD hA hl hret
  replace hown : s.vm.findClass RX2 = some m.cls := hown
  have hS : va_S A s.heap s.heap [] := va_S.rf
  replace hP : va_P D gcl (zS_43 cB cC cI cJ a0 a1 a2 a3 x2 x3 x4 x5 x6 a3 f0) s.heap := hP
  replace hl : lv_has ls 3 [(0, .ref a0), (1, .int x0), (2, .int x1)] := hl
  have rx6 : zBd x6.toInt (-2147483648) 2147483647 := n_rng x6
  refine lv_aload_n (pc := 0) hx hb dX2_stepAt_0 rfl (lv_at hl 0 rfl) ?_
  refine va_get (pc := 1) (ci := 2) (v := .ref a3) (C := RX2) (T := TX2) (N := 8) hx hb hts iX2 hown hK hP 0 rfl rfl 2 (by decide) (hts _ tw_394) (fun _ h9 => h9) rfl dX2_stepAt_1 ?_
  refine lv_aload_n (pc := 4) hx hb dX2_stepAt_4 rfl (lv_at hl 0 rfl) ?_
  refine lv_iload_n (pc := 5) hx hb dX2_stepAt_5 rfl (lv_at hl 1 rfl) ?_
  refine gd_i (pc := 6) (wc := (zS_162 cB cC cI cJ a0 a1 a2 a3 x2 x3 x4 x5 x6)) hP hD hS hA [0] rfl (by decide +kernel) (fun _ => by rfl) (fun hPc hDc => va_runV (As := [.int x0]) (rest := [.ref a3]) ⟨hx, hb, hml, hown, hts⟩ (k_X2_slot_x l D cB cC cI cJ _ a0 a1 a2 a3 x0 x2 x3 x4 x5 x6 (by first | exact (om_1389 hp1.1 hp1.2) | ((first | omega | (unfold zBd at *; omega)))) h_x2 h_x3 h_x4 h_x5 hr_a0_0) ⟨gcwB hts tw_1057 tw_13 tw_1054 hd_yX2_slot ⟨Nat.le_of_ble_eq_true rfl, Nat.le_of_ble_eq_true rfl⟩, hts _ tw_1056, hts _ tp_43⟩ ⟨gblind, va_recv hK hPc (ci := 2) (q0 := 0) rfl rfl, (gpreS hPc hK hDc hN).2⟩ rfl rfl hl.1 rfl (lv_room (Nat.le_of_ble_eq_true rfl)) dX2_stepAt_6 ⟨Nat.le_of_ble_eq_true rfl, Nat.le_of_ble_eq_true rfl⟩) (fun r_2 u_1 H locs hw_3 hP hD hS => ?_)
  replace hP : va_P D gcl (zS_43 cB cC cI cJ a0 a1 a2 a3 x2 x3 x4 x5 x6 a3 f0) H := hP
  replace hD : va_D A (zS_43 cB cC cI cJ a0 a1 a2 a3 x2 x3 x4 x5 x6 a3 f0) := hD
  obtain ⟨hw_4, hw_5⟩ := hw_3
  replace hw_4 : (0 ≤ r_2.toInt ∧ r_2.toInt ≤ 117) := hw_4
  replace hw_5 : (r_2.toInt = ((x3.toInt + x0.toInt) % 40) * 3) := hw_5
  have rr_2 : zBd r_2.toInt (-2147483648) 2147483647 := n_rng r_2
  refine lv_iload_n (pc := 9) hx hb dX2_stepAt_9 rfl (lv_at hl 2 rfl) ?_
  refine b_iadd (pc := 10) hx hb rfl rfl (by first | exact (om_1390 rr_2.1 hp2.1) | ((first | omega | (unfold zBd at *; omega)))) (by first | exact (om_1391 hw_4.2 hp2.2) | ((first | omega | (unfold zBd at *; omega)))) dX2_stepAt_10 (fun x_6 ex_6 => ?_)
  refine va_iald (pc := 11) hx hb hK hP 1 2 rfl rfl (n_in rfl (by first | exact (om_1388 ex_6 hw_4.1 hp2.1) | ((first | omega | (unfold zBd at *; omega)))) (by first | exact (om_1392 ex_6 hw_4.2 hp2.2) | ((first | omega | (unfold zBd at *; omega))))) dX2_stepAt_11 ?_
  refine lv_topi (fun x_7 ex_7 => ?_)
  have rx_7 : zBd x_7.toInt (-2147483648) 2147483647 := n_rng x_7
  replace ex_7 : x_7 = f0 (x_6.toInt).toNat := ex_7
  have tx_7 := congrArg Int32.toInt ex_7
  exact hret x_7 ((fun _ => 0), (fun _ => (fun _ => 0)), (fun _ => (fun _ => 0)), (fun _ => 0), (fun _ => 0)) dX2_stepAt_12 (show x_7 = f0 (sl x3.toInt x0.toInt + (x1.toInt).toNat) from sl_at hw_5 (by first | exact (om_0 hw_4.1) | ((first | omega | (unfold zBd at *; omega)))) (by first | exact (om_0 hp2.1) | ((first | omega | (unfold zBd at *; omega)))) ex_7 (by first | exact (om_63 ex_6) | ((first | omega | (unfold zBd at *; omega))))) (g_psub (wc := (zS_43 cB cC cI cJ a0 a1 a2 a3 x2 x3 x4 x5 x6 a3 f0)) hP [0, 1] rfl) (hD.sub (ws' := (zS_43 cB cC cI cJ a0 a1 a2 a3 x2 x3 x4 x5 x6 a3 f0)) [0, 1] (by decide) rfl) hS
theorem om_1393 {a b c : Int} (h0 : (a < 0)) : (¬ (0 ≤ a ∧ a < b ∧ 0 ≤ c ∧ c ≤ 2)) := by omega
theorem om_1394 {a b c : Int} (h0 : (a ≥ b)) : (¬ (0 ≤ a ∧ a < b ∧ 0 ≤ c ∧ c ≤ 2)) := by omega
theorem om_1395 {a b c : Int} (h0 : (c < 0)) : (¬ (0 ≤ a ∧ a < b ∧ 0 ≤ c ∧ c ≤ 2)) := by omega
theorem om_1396 {a b : Int} (h0 : (a ≥ 0)) (h1 : (a < b)) (h2 : (b ≤ 40)) : ((0 ≤ a ∧ a ≤ 39)) := by omega
theorem om_1397 {a : Int} (h0 : (a ≥ 0)) (h1 : (a ≤ 2)) : ((0 ≤ a ∧ a ≤ 2)) := by omega
theorem om_1398 {a b c : Int} (h0 : (a ≥ 0)) (h1 : (a < b)) (h2 : (c ≥ 0)) (h3 : (c ≤ 2)) : (0 ≤ a ∧ a < b ∧ 0 ≤ c ∧ c ≤ 2) := by omega
theorem om_1399 {a b c : Int} (h0 : (c > 2)) : (¬ (0 ≤ a ∧ a < b ∧ 0 ≤ c ∧ c ≤ 2)) := by omega
set_option maxHeartbeats 4000000 in
set_option maxRecDepth 100000 in
theorem k_X11_step (l : Launch) (D : va_G) (cB cC cI cJ : ClassId) (sz : Nat) (a0 a1 a2 a3 a4 a5 a6 a7 a8 a9 a10 a11 a12 a13 a14 a15 a16 : Nat) (x0 x1 x2 x3 x4 x5 x6 x7 : Int32) (f0 : Nat → Int32) (h_x2 : zBd x2.toInt 0 14) (h_x3 : zBd x3.toInt (-1) 5) (h_x4 : zBd x4.toInt 0 39) (h_x5 : zBd x5.toInt 0 40) (h_x6 : zBd x6.toInt 0 40) (hr_a12_0 : (x5.toInt + x6.toInt ≤ 40)) : Met l yX11_step (.code yX11_step cX11_step 3 (some .int) :: lw_gd) ({ frames := 2, cells := 0, slots := 0, locals := 43 }) (gPre D [(cB, .byte), (cC, .char), (cI, .int), (cJ, .long)] [.ref a0, .int x0, .int x1] (zS_120 cB cC cI cJ a0 a1 a2 a3 a4 a5 a6 a7 a8 a9 a10 x2 a11 a12 a13 a12 a14 a15 a16 x3 x4 x5 x6 x7 a16 f0) sz) (va_Qi (fun r u => (stP9 r.toInt x0.toInt x1.toInt x5.toInt ((f0 (sl x4.toInt x0.toInt)).toInt) ((f0 (sl x4.toInt x0.toInt + 1)).toInt) ((f0 (sl x4.toInt x0.toInt + 2)).toInt))) (gB D (va_A (zS_120 cB cC cI cJ a0 a1 a2 a3 a4 a5 a6 a7 a8 a9 a10 x2 a11 a12 a13 a12 a14 a15 a16 x3 x4 x5 x6 x7 a16 f0) sz) (fun u : gEx => (zS_120 cB cC cI cJ a0 a1 a2 a3 a4 a5 a6 a7 a8 a9 a10 x2 a11 a12 a13 a12 a14 a15 a16 x3 x4 x5 x6 x7 a16 f0))) (va_A (zS_120 cB cC cI cJ a0 a1 a2 a3 a4 a5 a6 a7 a8 a9 a10 x2 a11 a12 a13 a12 a14 a15 a16 x3 x4 x5 x6 x7 a16 f0) sz)) 0 0 (va_A (zS_120 cB cC cI cJ a0 a1 a2 a3 a4 a5 a6 a7 a8 a9 a10 x2 a11 a12 a13 a12 a14 a15 a16 x3 x4 x5 x6 x7 a16 f0) sz) := by
  refine gOf_i (by decide +kernel) (Nat.le_of_ble_eq_true rfl) ?_
  intro p e s m args below meth c ls A Q hx hb hts hown hml hN hK hP hD hA hl hret
  replace hown : s.vm.findClass RX11 = some m.cls := hown
  have hS : va_S A s.heap s.heap [] := va_S.rf
  replace hP : va_P D gcl (zS_120 cB cC cI cJ a0 a1 a2 a3 a4 a5 a6 a7 a8 a9 a10 x2 a11 a12 a13 a12 a14 a15 a16 x3 x4 x5 x6 x7 a16 f0) s.heap := hP
  replace hl : lv_has ls 3 [(0, .ref a0), (1, .int x0), (2, .int x1)] := hl
  have rx0 : zBd x0.toInt (-2147483648) 2147483647 := n_rng x0
  have rx1 : zBd x1.toInt (-2147483648) 2147483647 := n_rng x1
  have rx7 : zBd x7.toInt (-2147483648) 2147483647 := n_rng x7
  refine lv_iload_n (pc := 0) hx hb dX11_step_0 rfl (lv_at hl 1 rfl) ?_
  refine b_if_lt (pc := 1) (tgt := 24) hx hb rfl  dX11_step_1 (by decide) (fun c_1 => ?_) (fun c_1 => ?_)
  ·
    as_aux_lemma =>
      refine lv_ldc (pc := 24) hx hb hown (hts _ tw_783) dX11_step_24 ?_
      have k9 := tI_m1000000000
      exact hret (-1000000000) ((fun _ => 0), (fun _ => (fun _ => 0)), (fun _ => (fun _ => 0)), (fun _ => 0), (fun _ => 0)) dX11_step_26 (show stP9 ((-1000000000) : Int32).toInt x0.toInt x1.toInt x5.toInt ((f0 (sl x4.toInt x0.toInt)).toInt) ((f0 (sl x4.toInt x0.toInt + 1)).toInt) ((f0 (sl x4.toInt x0.toInt + 2)).toInt) from st9_no (by first | exact (om_1393 c_1) | ((first | omega | (unfold zBd at *; omega)))) (by first | exact (om_320 tI_m1000000000) | ((first | omega | (unfold zBd at *; omega))))) (g_psub (wc := (zS_120 cB cC cI cJ a0 a1 a2 a3 a4 a5 a6 a7 a8 a9 a10 x2 a11 a12 a13 a12 a14 a15 a16 x3 x4 x5 x6 x7 a16 f0)) hP [0, 1, 2] rfl) (hD.sub (ws' := (zS_120 cB cC cI cJ a0 a1 a2 a3 a4 a5 a6 a7 a8 a9 a10 x2 a11 a12 a13 a12 a14 a15 a16 x3 x4 x5 x6 x7 a16 f0)) [0, 1, 2] (by decide) rfl) hS
  ·
    as_aux_lemma =>
      refine lv_iload_n (pc := 4) hx hb dX11_step_4 rfl (lv_at hl 1 rfl) ?_
      refine lv_aload_n (pc := 5) hx hb dX11_step_5 rfl (lv_at hl 0 rfl) ?_
      refine va_get (pc := 6) (ci := 11) (v := .ref a12) (C := RX11) (T := TX11) (N := 14) hx hb hts iX11 hown hK hP 0 rfl rfl 12 (by decide) (hts _ tw_432) (fun _ h9 => h9) rfl dX11_step_6 ?_
      refine va_getN (pc := 9) (ci := 2) (v := .int x5) (C := RX2) (T := TX2) (N := 8) hx hb hts iX2 hown hK hP 1 rfl rfl 5 (by decide) (va_Nw.use rfl (hN _ tn_398)) (fun _ h9 => h9) rfl dX11_step_9 ?_
      refine b_icmp_ge (pc := 12) (tgt := 24) hx hb rfl rfl  dX11_step_12 (by decide) (fun c_2 => ?_) (fun c_2 => ?_)
      ·
        as_aux_lemma =>
          refine lv_ldc (pc := 24) hx hb hown (hts _ tw_783) dX11_step_24 ?_
          have k9 := tI_m1000000000
          exact hret (-1000000000) ((fun _ => 0), (fun _ => (fun _ => 0)), (fun _ => (fun _ => 0)), (fun _ => 0), (fun _ => 0)) dX11_step_26 (show stP9 ((-1000000000) : Int32).toInt x0.toInt x1.toInt x5.toInt ((f0 (sl x4.toInt x0.toInt)).toInt) ((f0 (sl x4.toInt x0.toInt + 1)).toInt) ((f0 (sl x4.toInt x0.toInt + 2)).toInt) from st9_no (by first | exact (om_1394 c_2) | ((first | omega | (unfold zBd at *; omega)))) (by first | exact (om_320 tI_m1000000000) | ((first | omega | (unfold zBd at *; omega))))) (g_psub (wc := (zS_120 cB cC cI cJ a0 a1 a2 a3 a4 a5 a6 a7 a8 a9 a10 x2 a11 a12 a13 a12 a14 a15 a16 x3 x4 x5 x6 x7 a16 f0)) hP [0, 1, 2] rfl) (hD.sub (ws' := (zS_120 cB cC cI cJ a0 a1 a2 a3 a4 a5 a6 a7 a8 a9 a10 x2 a11 a12 a13 a12 a14 a15 a16 x3 x4 x5 x6 x7 a16 f0)) [0, 1, 2] (by decide) rfl) hS
      ·
        as_aux_lemma =>
          refine lv_iload_n (pc := 15) hx hb dX11_step_15 rfl (lv_at hl 2 rfl) ?_
          refine b_if_lt (pc := 16) (tgt := 24) hx hb rfl  dX11_step_16 (by decide) (fun c_3 => ?_) (fun c_3 => ?_)
          ·
            as_aux_lemma =>
              refine lv_ldc (pc := 24) hx hb hown (hts _ tw_783) dX11_step_24 ?_
              have k9 := tI_m1000000000
              exact hret (-1000000000) ((fun _ => 0), (fun _ => (fun _ => 0)), (fun _ => (fun _ => 0)), (fun _ => 0), (fun _ => 0)) dX11_step_26 (show stP9 ((-1000000000) : Int32).toInt x0.toInt x1.toInt x5.toInt ((f0 (sl x4.toInt x0.toInt)).toInt) ((f0 (sl x4.toInt x0.toInt + 1)).toInt) ((f0 (sl x4.toInt x0.toInt + 2)).toInt) from st9_no (by first | exact (om_1395 c_3) | ((first | omega | (unfold zBd at *; omega)))) (by first | exact (om_320 tI_m1000000000) | ((first | omega | (unfold zBd at *; omega))))) (g_psub (wc := (zS_120 cB cC cI cJ a0 a1 a2 a3 a4 a5 a6 a7 a8 a9 a10 x2 a11 a12 a13 a12 a14 a15 a16 x3 x4 x5 x6 x7 a16 f0)) hP [0, 1, 2] rfl) (hD.sub (ws' := (zS_120 cB cC cI cJ a0 a1 a2 a3 a4 a5 a6 a7 a8 a9 a10 x2 a11 a12 a13 a12 a14 a15 a16 x3 x4 x5 x6 x7 a16 f0)) [0, 1, 2] (by decide) rfl) hS
          ·
            as_aux_lemma =>
              refine lv_iload_n (pc := 19) hx hb dX11_step_19 rfl (lv_at hl 2 rfl) ?_
              refine lv_iconst (pc := 20) (v := 2) hx hb dX11_step_20 (by decide) ?_
              refine b_icmp_le (pc := 21) (tgt := 27) hx hb rfl tI_2  dX11_step_21 (by decide) (fun c_4 => ?_) (fun c_4 => ?_)
              ·
                as_aux_lemma =>
                  refine lv_aload_n (pc := 27) hx hb dX11_step_27 rfl (lv_at hl 0 rfl) ?_
                  refine va_get (pc := 28) (ci := 11) (v := .ref a12) (C := RX11) (T := TX11) (N := 14) hx hb hts iX11 hown hK hP 0 rfl rfl 12 (by decide) (hts _ tw_432) (fun _ h9 => h9) rfl dX11_step_28 ?_
                  refine lv_iload_n (pc := 31) hx hb dX11_step_31 rfl (lv_at hl 1 rfl) ?_
                  refine lv_iload_n (pc := 32) hx hb dX11_step_32 rfl (lv_at hl 2 rfl) ?_
                  refine gd_i (pc := 33) (wc := (zS_43 cB cC cI cJ a12 a14 a15 a16 x3 x4 x5 x6 x7 a16 f0)) hP hD hS hA [1, 2] rfl (by decide +kernel) (fun _ => by rfl) (fun hPc hDc => va_runV (As := [.int x0, .int x1]) (rest := []) ⟨hx, hb, hml, hown, hts⟩ (k_X2_stepAt l D cB cC cI cJ _ a12 a14 a15 a16 x0 x1 x3 x4 x5 x6 x7 f0 (by first | exact (om_1396 c_1 c_2 h_x5.2) | ((first | omega | (unfold zBd at *; omega)))) (by first | exact (om_1397 c_3 c_4) | ((first | omega | (unfold zBd at *; omega)))) h_x3 h_x4 h_x5 h_x6 hr_a12_0) ⟨gcwB hts tw_1099 tw_13 tw_1096 hd_yX2_stepAt ⟨Nat.le_of_ble_eq_true rfl, Nat.le_of_ble_eq_true rfl⟩, hts _ tw_1097, hts _ tw_1098⟩ ⟨gblind, va_recv hK hPc (ci := 2) (q0 := 0) rfl rfl, (gpreS hPc hK hDc hN).2⟩ rfl rfl hl.1 rfl (lv_room (Nat.le_of_ble_eq_true rfl)) dX11_step_33 ⟨Nat.le_of_ble_eq_true rfl, Nat.le_of_ble_eq_true rfl⟩) (fun r_6 u_5 H locs hw_7 hP hD hS => ?_)
                  replace hP : va_P D gcl (zS_120 cB cC cI cJ a0 a1 a2 a3 a4 a5 a6 a7 a8 a9 a10 x2 a11 a12 a13 a12 a14 a15 a16 x3 x4 x5 x6 x7 a16 f0) H := hP
                  replace hD : va_D A (zS_120 cB cC cI cJ a0 a1 a2 a3 a4 a5 a6 a7 a8 a9 a10 x2 a11 a12 a13 a12 a14 a15 a16 x3 x4 x5 x6 x7 a16 f0) := hD
                  have hw_8 : (r_6 = f0 (sl x4.toInt x0.toInt + (x1.toInt).toNat)) := hw_7
                  have rr_6 : zBd r_6.toInt (-2147483648) 2147483647 := n_rng r_6
                  exact hret r_6 ((fun _ => 0), (fun _ => (fun _ => 0)), (fun _ => (fun _ => 0)), (fun _ => 0), (fun _ => 0)) dX11_step_36 (show stP9 r_6.toInt x0.toInt x1.toInt x5.toInt ((f0 (sl x4.toInt x0.toInt)).toInt) ((f0 (sl x4.toInt x0.toInt + 1)).toInt) ((f0 (sl x4.toInt x0.toInt + 2)).toInt) from st9_yes (by first | exact (om_1398 c_1 c_2 c_3 c_4) | ((first | omega | (unfold zBd at *; omega)))) ⟨fun h => (by rw [hw_8, h]; rfl), fun h => (by rw [hw_8, h]; rfl), fun h => (by rw [hw_8, h]; rfl)⟩) (g_psub (wc := (zS_120 cB cC cI cJ a0 a1 a2 a3 a4 a5 a6 a7 a8 a9 a10 x2 a11 a12 a13 a12 a14 a15 a16 x3 x4 x5 x6 x7 a16 f0)) hP [0, 1, 2] rfl) (hD.sub (ws' := (zS_120 cB cC cI cJ a0 a1 a2 a3 a4 a5 a6 a7 a8 a9 a10 x2 a11 a12 a13 a12 a14 a15 a16 x3 x4 x5 x6 x7 a16 f0)) [0, 1, 2] (by decide) rfl) hS
              ·
                as_aux_lemma =>
                  refine lv_ldc (pc := 24) hx hb hown (hts _ tw_783) dX11_step_24 ?_
                  have k9 := tI_m1000000000
                  exact hret (-1000000000) ((fun _ => 0), (fun _ => (fun _ => 0)), (fun _ => (fun _ => 0)), (fun _ => 0), (fun _ => 0)) dX11_step_26 (show stP9 ((-1000000000) : Int32).toInt x0.toInt x1.toInt x5.toInt ((f0 (sl x4.toInt x0.toInt)).toInt) ((f0 (sl x4.toInt x0.toInt + 1)).toInt) ((f0 (sl x4.toInt x0.toInt + 2)).toInt) from st9_no (by first | exact (om_1399 c_4) | ((first | omega | (unfold zBd at *; omega)))) (by first | exact (om_320 tI_m1000000000) | ((first | omega | (unfold zBd at *; omega))))) (g_psub (wc := (zS_120 cB cC cI cJ a0 a1 a2 a3 a4 a5 a6 a7 a8 a9 a10 x2 a11 a12 a13 a12 a14 a15 a16 x3 x4 x5 x6 x7 a16 f0)) hP [0, 1, 2] rfl) (hD.sub (ws' := (zS_120 cB cC cI cJ a0 a1 a2 a3 a4 a5 a6 a7 a8 a9 a10 x2 a11 a12 a13 a12 a14 a15 a16 x3 x4 x5 x6 x7 a16 f0)) [0, 1, 2] (by decide) rfl) hS
theorem om_1400 {a b c d : Int} (h0 : (¬ a = b)) (h1 : ((c = 0 ∧ a < 0) ∨ (c = 0 ∧ a ≥ 0 ∧ a ≥ d) ∨ (c = 1 ∧ a ≥ 0 ∧ a < d))) (h2 : (¬ c = 0)) (h3 : (d ≤ 5)) : ((0 ≤ a ∧ a ≤ 4)) := by omega
theorem om_1401 {a b c d : Int} (h0 : (¬ b = a)) (h1 : ((c = 0 ∧ a < 0) ∨ (c = 0 ∧ a ≥ 0 ∧ a ≥ d) ∨ (c = 1 ∧ a ≥ 0 ∧ a < d))) (h2 : (¬ c = 0)) (h3 : (d ≤ 5)) : ((0 ≤ a ∧ a ≤ 4)) := by omega
set_option maxHeartbeats 4000000 in
set_option maxRecDepth 100000 in
theorem k_X11_clash (l : Launch) (D : va_G) (cB cC cI cJ : ClassId) (sz : Nat) (a0 a1 a2 a3 a4 a5 a6 a7 a8 a9 a10 a11 a12 a13 a14 a15 a16 a17 a18 a19 a20 a21 : Nat) (x0 x1 x2 x3 x4 x5 x6 x7 x8 x9 x10 x11 x12 x13 x14 x15 : Int32) (f0 f1 : Nat → Int32) (hp3 : (0 ≤ x2.toInt ∧ x2.toInt ≤ 1)) (h_x3 : zBd x3.toInt 0 14) (h_x4 : zBd x4.toInt (-1) 8) (h_x5 : zBd x5.toInt (-1) 5) (h_x6 : zBd x6.toInt (-1) 6) (h_x7 : zBd x7.toInt 0 6) (h_x8 : zBd x8.toInt 0 16) (h_x11 : zBd x11.toInt (-1) 5) (h_x12 : zBd x12.toInt 0 39) (h_x13 : zBd x13.toInt 0 40) (h_x14 : zBd x14.toInt 0 40) (hr_a12_0 : (x13.toInt + x14.toInt ≤ 40)) : Met l yX11_clash (.code yX11_clash cX11_clash 4 (some .int) :: lw_gd) ({ frames := 3, cells := 0, slots := 0, locals := 72 }) (gPre D [(cB, .byte), (cC, .char), (cI, .int), (cJ, .long)] [.ref a0, .int x0, .int x1, .int x2] (zS_9 cB cC cI cJ a0 a1 a2 a3 a4 a5 a6 a7 a8 a9 a10 x3 a11 a12 a13 a11 a14 a15 a16 x4 x5 x6 x7 x8 x9 x10 a14 a17 a17 f0 a12 a18 a19 a20 x11 x12 x13 x14 x15 a18 a21 a21 f1) sz) (va_Qi (fun r u => (cvQ r.toInt (clP x0.toInt x1.toInt x5.toInt) x2.toInt (clT f1 x0.toInt x1.toInt) (clT f0 x0.toInt x1.toInt) (-1))) (gB D (va_A (zS_9 cB cC cI cJ a0 a1 a2 a3 a4 a5 a6 a7 a8 a9 a10 x3 a11 a12 a13 a11 a14 a15 a16 x4 x5 x6 x7 x8 x9 x10 a14 a17 a17 f0 a12 a18 a19 a20 x11 x12 x13 x14 x15 a18 a21 a21 f1) sz) (fun u : gEx => (zS_9 cB cC cI cJ a0 a1 a2 a3 a4 a5 a6 a7 a8 a9 a10 x3 a11 a12 a13 a11 a14 a15 a16 x4 x5 x6 x7 x8 x9 x10 a14 a17 a17 f0 a12 a18 a19 a20 x11 x12 x13 x14 x15 a18 a21 a21 f1))) (va_A (zS_9 cB cC cI cJ a0 a1 a2 a3 a4 a5 a6 a7 a8 a9 a10 x3 a11 a12 a13 a11 a14 a15 a16 x4 x5 x6 x7 x8 x9 x10 a14 a17 a17 f0 a12 a18 a19 a20 x11 x12 x13 x14 x15 a18 a21 a21 f1) sz)) 0 0 (va_A (zS_9 cB cC cI cJ a0 a1 a2 a3 a4 a5 a6 a7 a8 a9 a10 x3 a11 a12 a13 a11 a14 a15 a16 x4 x5 x6 x7 x8 x9 x10 a14 a17 a17 f0 a12 a18 a19 a20 x11 x12 x13 x14 x15 a18 a21 a21 f1) sz) := by
  refine gOf_i (by decide +kernel) (Nat.le_of_ble_eq_true rfl) ?_
  intro p e s m args below meth c ls A Q hx hb hts hown hml hN hK hP hD hA hl hret
  replace hown : s.vm.findClass RX11 = some m.cls := hown
  have hS : va_S A s.heap s.heap [] := va_S.rf
  replace hP : va_P D gcl (zS_9 cB cC cI cJ a0 a1 a2 a3 a4 a5 a6 a7 a8 a9 a10 x3 a11 a12 a13 a11 a14 a15 a16 x4 x5 x6 x7 x8 x9 x10 a14 a17 a17 f0 a12 a18 a19 a20 x11 x12 x13 x14 x15 a18 a21 a21 f1) s.heap := hP
  replace hl : lv_has ls 4 [(0, .ref a0), (1, .int x0), (2, .int x1), (3, .int x2)] := hl
  have rx0 : zBd x0.toInt (-2147483648) 2147483647 := n_rng x0
  have rx1 : zBd x1.toInt (-2147483648) 2147483647 := n_rng x1
  have rx9 : zBd x9.toInt (-2147483648) 2147483647 := n_rng x9
  have rx10 : zBd x10.toInt (-2147483648) 2147483647 := n_rng x10
  have rx15 : zBd x15.toInt (-2147483648) 2147483647 := n_rng x15
  refine lv_aload_n (pc := 0) hx hb dX11_clash_0 rfl (lv_at hl 0 rfl) ?_
  refine va_get (pc := 1) (ci := 11) (v := .ref a11) (C := RX11) (T := TX11) (N := 14) hx hb hts iX11 hown hK hP 0 rfl rfl 11 (by decide) (hts _ tw_431) (fun _ h9 => h9) rfl dX11_clash_1 ?_
  refine lv_iload_n (pc := 4) hx hb dX11_clash_4 rfl (lv_at hl 1 rfl) ?_
  refine gd_i (pc := 5) (wc := (zS_5 cB cC cI cJ a11 a14 a15 a16 x4 x5 x6 x7 x8 x9 x10)) hP hD hS hA [1] rfl (by decide +kernel) (fun _ => by rfl) (fun hPc hDc => va_runV (As := [.int x0]) (rest := []) ⟨hx, hb, hml, hown, hts⟩ (k_X1_isSender l D cB cC cI cJ _ a11 a14 a15 a16 x0 x4 x5 x6 x7 x8 x9 x10 h_x4 h_x5 h_x6 h_x7 h_x8) ⟨gcwB hts tw_782 tw_4 tw_779 hd_yX1_isSender ⟨Nat.le_of_ble_eq_true rfl, Nat.le_of_ble_eq_true rfl⟩, hts _ tw_780, hts _ tw_781⟩ ⟨gblind, va_recv hK hPc (ci := 1) (q0 := 0) rfl rfl, (gpreS hPc hK hDc hN).2⟩ rfl rfl hl.1 rfl (lv_room (Nat.le_of_ble_eq_true rfl)) dX11_clash_5 ⟨Nat.le_of_ble_eq_true rfl, Nat.le_of_ble_eq_true rfl⟩) (fun r_2 u_1 H locs hw_3 hP hD hS => ?_)
  replace hP : va_P D gcl (zS_9 cB cC cI cJ a0 a1 a2 a3 a4 a5 a6 a7 a8 a9 a10 x3 a11 a12 a13 a11 a14 a15 a16 x4 x5 x6 x7 x8 x9 x10 a14 a17 a17 f0 a12 a18 a19 a20 x11 x12 x13 x14 x15 a18 a21 a21 f1) H := hP
  replace hD : va_D A (zS_9 cB cC cI cJ a0 a1 a2 a3 a4 a5 a6 a7 a8 a9 a10 x3 a11 a12 a13 a11 a14 a15 a16 x4 x5 x6 x7 x8 x9 x10 a14 a17 a17 f0 a12 a18 a19 a20 x11 x12 x13 x14 x15 a18 a21 a21 f1) := hD
  have hw_4 : ((r_2.toInt = 0 ∧ x0.toInt < 0) ∨ (r_2.toInt = 0 ∧ x0.toInt ≥ 0 ∧ x0.toInt ≥ x5.toInt) ∨ (r_2.toInt = 1 ∧ x0.toInt ≥ 0 ∧ x0.toInt < x5.toInt)) := hw_3
  have rr_2 : zBd r_2.toInt (-2147483648) 2147483647 := n_rng r_2
  refine b_if_eq (pc := 8) (tgt := 27) hx hb rfl  dX11_clash_8 (by decide) (fun c_5 => ?_) (fun c_5 => ?_)
  ·
    as_aux_lemma =>
      refine lv_iconst (pc := 27) (v := (-1)) hx hb dX11_clash_27 (by decide) ?_
      have k9 := tI_m1
      exact hret (-1) ((fun _ => 0), (fun _ => (fun _ => 0)), (fun _ => (fun _ => 0)), (fun _ => 0), (fun _ => 0)) dX11_clash_28 (show cvQ ((-1) : Int32).toInt (clP x0.toInt x1.toInt x5.toInt) x2.toInt (clT f1 x0.toInt x1.toInt) (clT f0 x0.toInt x1.toInt) (-1) from cv_n (by unfold clP; (first | omega | (unfold zBd at *; omega))) (by first | exact (om_65 tI_m1) | ((first | omega | (unfold zBd at *; omega))))) (g_psub (wc := (zS_9 cB cC cI cJ a0 a1 a2 a3 a4 a5 a6 a7 a8 a9 a10 x3 a11 a12 a13 a11 a14 a15 a16 x4 x5 x6 x7 x8 x9 x10 a14 a17 a17 f0 a12 a18 a19 a20 x11 x12 x13 x14 x15 a18 a21 a21 f1)) hP [0, 1, 2, 3, 4, 5, 6] rfl) (hD.sub (ws' := (zS_9 cB cC cI cJ a0 a1 a2 a3 a4 a5 a6 a7 a8 a9 a10 x3 a11 a12 a13 a11 a14 a15 a16 x4 x5 x6 x7 x8 x9 x10 a14 a17 a17 f0 a12 a18 a19 a20 x11 x12 x13 x14 x15 a18 a21 a21 f1)) [0, 1, 2, 3, 4, 5, 6] (by decide) rfl) hS
  ·
    as_aux_lemma =>
      refine lv_aload_n (pc := 11) hx hb dX11_clash_11 rfl (lv_at hl 0 rfl) ?_
      refine va_get (pc := 12) (ci := 11) (v := .ref a11) (C := RX11) (T := TX11) (N := 14) hx hb hts iX11 hown hK hP 0 rfl rfl 11 (by decide) (hts _ tw_431) (fun _ h9 => h9) rfl dX11_clash_12 ?_
      refine lv_iload_n (pc := 15) hx hb dX11_clash_15 rfl (lv_at hl 2 rfl) ?_
      refine gd_i (pc := 16) (wc := (zS_5 cB cC cI cJ a11 a14 a15 a16 x4 x5 x6 x7 x8 x9 x10)) hP hD hS hA [1] rfl (by decide +kernel) (fun _ => by rfl) (fun hPc hDc => va_runV (As := [.int x1]) (rest := []) ⟨hx, hb, hml, hown, hts⟩ (k_X1_isSender l D cB cC cI cJ _ a11 a14 a15 a16 x1 x4 x5 x6 x7 x8 x9 x10 h_x4 h_x5 h_x6 h_x7 h_x8) ⟨gcwB hts tw_782 tw_4 tw_779 hd_yX1_isSender ⟨Nat.le_of_ble_eq_true rfl, Nat.le_of_ble_eq_true rfl⟩, hts _ tw_780, hts _ tw_781⟩ ⟨gblind, va_recv hK hPc (ci := 1) (q0 := 0) rfl rfl, (gpreS hPc hK hDc hN).2⟩ rfl rfl hl.1 rfl (lv_room (Nat.le_of_ble_eq_true rfl)) dX11_clash_16 ⟨Nat.le_of_ble_eq_true rfl, Nat.le_of_ble_eq_true rfl⟩) (fun r_7 u_6 H locs hw_8 hP hD hS => ?_)
      replace hP : va_P D gcl (zS_9 cB cC cI cJ a0 a1 a2 a3 a4 a5 a6 a7 a8 a9 a10 x3 a11 a12 a13 a11 a14 a15 a16 x4 x5 x6 x7 x8 x9 x10 a14 a17 a17 f0 a12 a18 a19 a20 x11 x12 x13 x14 x15 a18 a21 a21 f1) H := hP
      replace hD : va_D A (zS_9 cB cC cI cJ a0 a1 a2 a3 a4 a5 a6 a7 a8 a9 a10 x3 a11 a12 a13 a11 a14 a15 a16 x4 x5 x6 x7 x8 x9 x10 a14 a17 a17 f0 a12 a18 a19 a20 x11 x12 x13 x14 x15 a18 a21 a21 f1) := hD
      have hw_9 : ((r_7.toInt = 0 ∧ x1.toInt < 0) ∨ (r_7.toInt = 0 ∧ x1.toInt ≥ 0 ∧ x1.toInt ≥ x5.toInt) ∨ (r_7.toInt = 1 ∧ x1.toInt ≥ 0 ∧ x1.toInt < x5.toInt)) := hw_8
      have rr_7 : zBd r_7.toInt (-2147483648) 2147483647 := n_rng r_7
      refine b_if_eq (pc := 19) (tgt := 27) hx hb rfl  dX11_clash_19 (by decide) (fun c_10 => ?_) (fun c_10 => ?_)
      ·
        as_aux_lemma =>
          refine lv_iconst (pc := 27) (v := (-1)) hx hb dX11_clash_27 (by decide) ?_
          have k9 := tI_m1
          exact hret (-1) ((fun _ => 0), (fun _ => (fun _ => 0)), (fun _ => (fun _ => 0)), (fun _ => 0), (fun _ => 0)) dX11_clash_28 (show cvQ ((-1) : Int32).toInt (clP x0.toInt x1.toInt x5.toInt) x2.toInt (clT f1 x0.toInt x1.toInt) (clT f0 x0.toInt x1.toInt) (-1) from cv_n (by unfold clP; (first | omega | (unfold zBd at *; omega))) (by first | exact (om_65 tI_m1) | ((first | omega | (unfold zBd at *; omega))))) (g_psub (wc := (zS_9 cB cC cI cJ a0 a1 a2 a3 a4 a5 a6 a7 a8 a9 a10 x3 a11 a12 a13 a11 a14 a15 a16 x4 x5 x6 x7 x8 x9 x10 a14 a17 a17 f0 a12 a18 a19 a20 x11 x12 x13 x14 x15 a18 a21 a21 f1)) hP [0, 1, 2, 3, 4, 5, 6] rfl) (hD.sub (ws' := (zS_9 cB cC cI cJ a0 a1 a2 a3 a4 a5 a6 a7 a8 a9 a10 x3 a11 a12 a13 a11 a14 a15 a16 x4 x5 x6 x7 x8 x9 x10 a14 a17 a17 f0 a12 a18 a19 a20 x11 x12 x13 x14 x15 a18 a21 a21 f1)) [0, 1, 2, 3, 4, 5, 6] (by decide) rfl) hS
      ·
        as_aux_lemma =>
          refine lv_iload_n (pc := 22) hx hb dX11_clash_22 rfl (lv_at hl 1 rfl) ?_
          refine lv_iload_n (pc := 23) hx hb dX11_clash_23 rfl (lv_at hl 2 rfl) ?_
          refine b_icmp_ne (pc := 24) (tgt := 29) hx hb rfl rfl  dX11_clash_24 (by decide) (fun c_11 => ?_) (fun c_11 => ?_)
          ·
            as_aux_lemma =>
              refine lv_aload_n (pc := 29) hx hb dX11_clash_29 rfl (lv_at hl 0 rfl) ?_
              refine lv_iload_n (pc := 30) hx hb dX11_clash_30 rfl (lv_at hl 3 rfl) ?_
              rcases (show x2.toInt = 0 ∨ x2.toInt = 1 from (by first | exact (om_1334 hp3.1 hp3.2) | ((first | omega | (unfold zBd at *; omega))))) with h_12 | h_12
              ·
                as_aux_lemma =>
                  refine gI (pc := 31) (y := 0) (Int32.toInt_inj.mp (h_12.trans tI_0.symm)) ?_
                  refine gd_r (pc := 31) (wc := (zS_159 cB cC cI cJ a0 a1 a2 a3 a4 a5 a6 a7 a8 a9 a10 x3 a11 a12 a13 a11 a14 a15 a16 x4 x5 x6 x7 x8 x9 x10)) hP hD hS hA [0, 1] rfl (by decide +kernel) (fun _ => by rfl) (fun hPc hDc => va_runV (As := [.int 0]) (rest := []) ⟨hx, hb, hml, hown, hts⟩ (k_X11_tableBy_0 l D cB cC cI cJ _ a0 a1 a2 a3 a4 a5 a6 a7 a8 a9 a10 a11 a12 a13 a14 a15 a16 x3 x4 x5 x6 x7 x8 x9 x10 h_x3 h_x4 h_x5 h_x6 h_x7 h_x8) ⟨gcwB hts tw_787 tw_1 tw_784 hd_yX11_tableBy ⟨Nat.le_of_ble_eq_true rfl, Nat.le_of_ble_eq_true rfl⟩, hts _ tw_786, hts _ tp_28⟩ ⟨gblind, va_recv hK hPc (ci := 11) (q0 := 0) rfl rfl, (gpreS hPc hK hDc hN).2⟩ rfl rfl hl.1 rfl (lv_room (Nat.le_of_ble_eq_true rfl)) dX11_clash_31 ⟨Nat.le_of_ble_eq_true rfl, Nat.le_of_ble_eq_true rfl⟩) (fun u_13 r_14 H locs hw_15 hP hD hS => ?_)
                  replace hP : va_P D gcl (zS_9 cB cC cI cJ a0 a1 a2 a3 a4 a5 a6 a7 a8 a9 a10 x3 a11 a12 a13 a11 a14 a15 a16 x4 x5 x6 x7 x8 x9 x10 a14 a17 a17 f0 a12 a18 a19 a20 x11 x12 x13 x14 x15 a18 a21 a21 f1) H := hP
                  replace hD : va_D A (zS_9 cB cC cI cJ a0 a1 a2 a3 a4 a5 a6 a7 a8 a9 a10 x3 a11 a12 a13 a11 a14 a15 a16 x4 x5 x6 x7 x8 x9 x10 a14 a17 a17 f0 a12 a18 a19 a20 x11 x12 x13 x14 x15 a18 a21 a21 f1) := hD
                  replace hw_15 : r_14 = a14 := hw_15
                  rw [hw_15]
                  refine lv_iload_n (pc := 34) hx hb dX11_clash_34 rfl (lv_at hl 1 rfl) ?_
                  refine lv_iload_n (pc := 35) hx hb dX11_clash_35 rfl (lv_at hl 2 rfl) ?_
                  refine gd_i (pc := 36) (wc := [(a14, .inr (8, [.ref a17])), (a17, .inl (cI, 30, .inl f0))]) hP hD hS hA [2, 3] rfl (by decide +kernel) (fun _ => by rfl) (fun hPc hDc => va_runV (As := [.int x0, .int x1]) (rest := []) ⟨hx, hb, hml, hown, hts⟩ (k_X8_clashOf_E l D cB cC cI cJ _ a14 a17 x0 x1 f0 (by first | exact (om_1400 c_11 hw_4 c_5 h_x5.2) | ((first | omega | (unfold zBd at *; omega)))) (by first | exact (om_1401 c_11 hw_9 c_10 h_x5.2) | ((first | omega | (unfold zBd at *; omega))))) ⟨gcwB hts tw_1107 tw_5 tw_1104 hd_yX8_clashOf ⟨Nat.le_of_ble_eq_true rfl, Nat.le_of_ble_eq_true rfl⟩, hts _ tw_1105, hts _ tw_1106⟩ ⟨gblind, va_recv hK hPc (ci := 8) (q0 := 0) rfl rfl, (gpreS hPc hK hDc hN).2⟩ rfl rfl hl.1 rfl (lv_room (Nat.le_of_ble_eq_true rfl)) dX11_clash_36 ⟨Nat.le_of_ble_eq_true rfl, Nat.le_of_ble_eq_true rfl⟩) (fun r_18 u_17 H locs hw_19 hP hD hS => ?_)
                  replace hP : va_P D gcl (zS_9 cB cC cI cJ a0 a1 a2 a3 a4 a5 a6 a7 a8 a9 a10 x3 a11 a12 a13 a11 a14 a15 a16 x4 x5 x6 x7 x8 x9 x10 a14 a17 a17 f0 a12 a18 a19 a20 x11 x12 x13 x14 x15 a18 a21 a21 f1) H := hP
                  replace hD : va_D A (zS_9 cB cC cI cJ a0 a1 a2 a3 a4 a5 a6 a7 a8 a9 a10 x3 a11 a12 a13 a11 a14 a15 a16 x4 x5 x6 x7 x8 x9 x10 a14 a17 a17 f0 a12 a18 a19 a20 x11 x12 x13 x14 x15 a18 a21 a21 f1) := hD
                  have hw_20 : (r_18 = clF (dw f0 x0.toInt x1.toInt 6) (dw f0 x0.toInt x0.toInt 6) (dw f0 x1.toInt x1.toInt 6)) := hw_19
                  have rr_18 : zBd r_18.toInt (-2147483648) 2147483647 := n_rng r_18
                  exact hret r_18 ((fun _ => 0), (fun _ => (fun _ => 0)), (fun _ => (fun _ => 0)), (fun _ => 0), (fun _ => 0)) dX11_clash_39 (show cvQ r_18.toInt (clP x0.toInt x1.toInt x5.toInt) x2.toInt (clT f1 x0.toInt x1.toInt) (clT f0 x0.toInt x1.toInt) (-1) from cv_0 (by unfold clP; (first | omega | (unfold zBd at *; omega))) (by first | exact (om_31 h_12) | ((first | omega | (unfold zBd at *; omega)))) (congrArg Int32.toInt hw_20)) (g_psub (wc := (zS_9 cB cC cI cJ a0 a1 a2 a3 a4 a5 a6 a7 a8 a9 a10 x3 a11 a12 a13 a11 a14 a15 a16 x4 x5 x6 x7 x8 x9 x10 a14 a17 a17 f0 a12 a18 a19 a20 x11 x12 x13 x14 x15 a18 a21 a21 f1)) hP [0, 1, 2, 3, 4, 5, 6] rfl) (hD.sub (ws' := (zS_9 cB cC cI cJ a0 a1 a2 a3 a4 a5 a6 a7 a8 a9 a10 x3 a11 a12 a13 a11 a14 a15 a16 x4 x5 x6 x7 x8 x9 x10 a14 a17 a17 f0 a12 a18 a19 a20 x11 x12 x13 x14 x15 a18 a21 a21 f1)) [0, 1, 2, 3, 4, 5, 6] (by decide) rfl) hS
              ·
                as_aux_lemma =>
                  refine gI (pc := 31) (y := 1) (Int32.toInt_inj.mp (h_12.trans tI_1.symm)) ?_
                  refine gd_r (pc := 31) (wc := (zS_160 cB cC cI cJ a0 a1 a2 a3 a4 a5 a6 a7 a8 a9 a10 x3 a11 a12 a13 a12 a18 a19 a20 x11 x12 x13 x14 x15)) hP hD hS hA [0, 4] rfl (by decide +kernel) (fun _ => by rfl) (fun hPc hDc => va_runV (As := [.int 1]) (rest := []) ⟨hx, hb, hml, hown, hts⟩ (k_X11_tableBy_1 l D cB cC cI cJ _ a0 a1 a2 a3 a4 a5 a6 a7 a8 a9 a10 a11 a12 a13 a18 a19 a20 x3 x11 x12 x13 x14 x15 h_x3 h_x11 h_x12 h_x13 h_x14 hr_a12_0) ⟨gcwB hts tw_787 tw_1 tw_784 hd_yX11_tableBy ⟨Nat.le_of_ble_eq_true rfl, Nat.le_of_ble_eq_true rfl⟩, hts _ tw_786, hts _ tp_28⟩ ⟨gblind, va_recv hK hPc (ci := 11) (q0 := 0) rfl rfl, (gpreS hPc hK hDc hN).2⟩ rfl rfl hl.1 rfl (lv_room (Nat.le_of_ble_eq_true rfl)) dX11_clash_31 ⟨Nat.le_of_ble_eq_true rfl, Nat.le_of_ble_eq_true rfl⟩) (fun u_21 r_22 H locs hw_23 hP hD hS => ?_)
                  replace hP : va_P D gcl (zS_9 cB cC cI cJ a0 a1 a2 a3 a4 a5 a6 a7 a8 a9 a10 x3 a11 a12 a13 a11 a14 a15 a16 x4 x5 x6 x7 x8 x9 x10 a14 a17 a17 f0 a12 a18 a19 a20 x11 x12 x13 x14 x15 a18 a21 a21 f1) H := hP
                  replace hD : va_D A (zS_9 cB cC cI cJ a0 a1 a2 a3 a4 a5 a6 a7 a8 a9 a10 x3 a11 a12 a13 a11 a14 a15 a16 x4 x5 x6 x7 x8 x9 x10 a14 a17 a17 f0 a12 a18 a19 a20 x11 x12 x13 x14 x15 a18 a21 a21 f1) := hD
                  replace hw_23 : r_22 = a18 := hw_23
                  rw [hw_23]
                  refine lv_iload_n (pc := 34) hx hb dX11_clash_34 rfl (lv_at hl 1 rfl) ?_
                  refine lv_iload_n (pc := 35) hx hb dX11_clash_35 rfl (lv_at hl 2 rfl) ?_
                  refine gd_i (pc := 36) (wc := [(a18, .inr (8, [.ref a21])), (a21, .inl (cI, 30, .inl f1))]) hP hD hS hA [5, 6] rfl (by decide +kernel) (fun _ => by rfl) (fun hPc hDc => va_runV (As := [.int x0, .int x1]) (rest := []) ⟨hx, hb, hml, hown, hts⟩ (k_X8_clashOf_E l D cB cC cI cJ _ a18 a21 x0 x1 f1 (by first | exact (om_1400 c_11 hw_4 c_5 h_x5.2) | ((first | omega | (unfold zBd at *; omega)))) (by first | exact (om_1401 c_11 hw_9 c_10 h_x5.2) | ((first | omega | (unfold zBd at *; omega))))) ⟨gcwB hts tw_1107 tw_5 tw_1104 hd_yX8_clashOf ⟨Nat.le_of_ble_eq_true rfl, Nat.le_of_ble_eq_true rfl⟩, hts _ tw_1105, hts _ tw_1106⟩ ⟨gblind, va_recv hK hPc (ci := 8) (q0 := 0) rfl rfl, (gpreS hPc hK hDc hN).2⟩ rfl rfl hl.1 rfl (lv_room (Nat.le_of_ble_eq_true rfl)) dX11_clash_36 ⟨Nat.le_of_ble_eq_true rfl, Nat.le_of_ble_eq_true rfl⟩) (fun r_26 u_25 H locs hw_27 hP hD hS => ?_)
                  replace hP : va_P D gcl (zS_9 cB cC cI cJ a0 a1 a2 a3 a4 a5 a6 a7 a8 a9 a10 x3 a11 a12 a13 a11 a14 a15 a16 x4 x5 x6 x7 x8 x9 x10 a14 a17 a17 f0 a12 a18 a19 a20 x11 x12 x13 x14 x15 a18 a21 a21 f1) H := hP
                  replace hD : va_D A (zS_9 cB cC cI cJ a0 a1 a2 a3 a4 a5 a6 a7 a8 a9 a10 x3 a11 a12 a13 a11 a14 a15 a16 x4 x5 x6 x7 x8 x9 x10 a14 a17 a17 f0 a12 a18 a19 a20 x11 x12 x13 x14 x15 a18 a21 a21 f1) := hD
                  have hw_28 : (r_26 = clF (dw f1 x0.toInt x1.toInt 6) (dw f1 x0.toInt x0.toInt 6) (dw f1 x1.toInt x1.toInt 6)) := hw_27
                  have rr_26 : zBd r_26.toInt (-2147483648) 2147483647 := n_rng r_26
                  exact hret r_26 ((fun _ => 0), (fun _ => (fun _ => 0)), (fun _ => (fun _ => 0)), (fun _ => 0), (fun _ => 0)) dX11_clash_39 (show cvQ r_26.toInt (clP x0.toInt x1.toInt x5.toInt) x2.toInt (clT f1 x0.toInt x1.toInt) (clT f0 x0.toInt x1.toInt) (-1) from cv_1 (by unfold clP; (first | omega | (unfold zBd at *; omega))) (by first | exact (om_36 h_12) | ((first | omega | (unfold zBd at *; omega)))) (congrArg Int32.toInt hw_28)) (g_psub (wc := (zS_9 cB cC cI cJ a0 a1 a2 a3 a4 a5 a6 a7 a8 a9 a10 x3 a11 a12 a13 a11 a14 a15 a16 x4 x5 x6 x7 x8 x9 x10 a14 a17 a17 f0 a12 a18 a19 a20 x11 x12 x13 x14 x15 a18 a21 a21 f1)) hP [0, 1, 2, 3, 4, 5, 6] rfl) (hD.sub (ws' := (zS_9 cB cC cI cJ a0 a1 a2 a3 a4 a5 a6 a7 a8 a9 a10 x3 a11 a12 a13 a11 a14 a15 a16 x4 x5 x6 x7 x8 x9 x10 a14 a17 a17 f0 a12 a18 a19 a20 x11 x12 x13 x14 x15 a18 a21 a21 f1)) [0, 1, 2, 3, 4, 5, 6] (by decide) rfl) hS
          ·
            as_aux_lemma =>
              refine lv_iconst (pc := 27) (v := (-1)) hx hb dX11_clash_27 (by decide) ?_
              have k9 := tI_m1
              exact hret (-1) ((fun _ => 0), (fun _ => (fun _ => 0)), (fun _ => (fun _ => 0)), (fun _ => 0), (fun _ => 0)) dX11_clash_28 (show cvQ ((-1) : Int32).toInt (clP x0.toInt x1.toInt x5.toInt) x2.toInt (clT f1 x0.toInt x1.toInt) (clT f0 x0.toInt x1.toInt) (-1) from cv_n (by unfold clP; (first | omega | (unfold zBd at *; omega))) (by first | exact (om_65 tI_m1) | ((first | omega | (unfold zBd at *; omega))))) (g_psub (wc := (zS_9 cB cC cI cJ a0 a1 a2 a3 a4 a5 a6 a7 a8 a9 a10 x3 a11 a12 a13 a11 a14 a15 a16 x4 x5 x6 x7 x8 x9 x10 a14 a17 a17 f0 a12 a18 a19 a20 x11 x12 x13 x14 x15 a18 a21 a21 f1)) hP [0, 1, 2, 3, 4, 5, 6] rfl) (hD.sub (ws' := (zS_9 cB cC cI cJ a0 a1 a2 a3 a4 a5 a6 a7 a8 a9 a10 x3 a11 a12 a13 a11 a14 a15 a16 x4 x5 x6 x7 x8 x9 x10 a14 a17 a17 f0 a12 a18 a19 a20 x11 x12 x13 x14 x15 a18 a21 a21 f1)) [0, 1, 2, 3, 4, 5, 6] (by decide) rfl) hS
set_option maxHeartbeats 4000000 in
set_option maxRecDepth 100000 in
theorem k_X11_worst (l : Launch) (D : va_G) (cB cC cI cJ : ClassId) (sz : Nat) (a0 a1 a2 a3 a4 a5 a6 a7 a8 a9 a10 a11 a12 a13 a14 a15 a16 a17 a18 a19 a20 a21 : Nat) (x0 x1 x2 x3 x4 x5 x6 x7 x8 x9 x10 x11 x12 x13 : Int32) (f0 f1 : Nat → Int32) (hp1 : (0 ≤ x0.toInt ∧ x0.toInt ≤ 1)) (h_x1 : zBd x1.toInt 0 14) (h_x2 : zBd x2.toInt (-1) 8) (h_x3 : zBd x3.toInt (-1) 5) (h_x4 : zBd x4.toInt (-1) 6) (h_x5 : zBd x5.toInt 0 6) (h_x6 : zBd x6.toInt 0 16) (h_x9 : zBd x9.toInt (-1) 5) (h_x10 : zBd x10.toInt 0 39) (h_x11 : zBd x11.toInt 0 40) (h_x12 : zBd x12.toInt 0 40) (hr_a12_0 : (x11.toInt + x12.toInt ≤ 40)) : Met l yX11_worst (.code yX11_worst cX11_worst 2 (some .int) :: lw_gd) ({ frames := 4, cells := 0, slots := 0, locals := 98 }) (gPre D [(cB, .byte), (cC, .char), (cI, .int), (cJ, .long)] [.ref a0, .int x0] (zS_9 cB cC cI cJ a0 a1 a2 a3 a4 a5 a6 a7 a8 a9 a10 x1 a11 a12 a13 a11 a14 a15 a16 x2 x3 x4 x5 x6 x7 x8 a14 a17 a17 f0 a12 a18 a19 a20 x9 x10 x11 x12 x13 a18 a21 a21 f1) sz) (va_Qi (fun r u => ((-1) ≤ r.toInt ∧ r.toInt ≤ 500) ∧ (cvQ r.toInt True x0.toInt (wsW (clT f1) x3.toInt) (wsW (clT f0) x3.toInt) 0)) (gB D (va_A (zS_9 cB cC cI cJ a0 a1 a2 a3 a4 a5 a6 a7 a8 a9 a10 x1 a11 a12 a13 a11 a14 a15 a16 x2 x3 x4 x5 x6 x7 x8 a14 a17 a17 f0 a12 a18 a19 a20 x9 x10 x11 x12 x13 a18 a21 a21 f1) sz) (fun u : gEx => (zS_9 cB cC cI cJ a0 a1 a2 a3 a4 a5 a6 a7 a8 a9 a10 x1 a11 a12 a13 a11 a14 a15 a16 x2 x3 x4 x5 x6 x7 x8 a14 a17 a17 f0 a12 a18 a19 a20 x9 x10 x11 x12 x13 a18 a21 a21 f1))) (va_A (zS_9 cB cC cI cJ a0 a1 a2 a3 a4 a5 a6 a7 a8 a9 a10 x1 a11 a12 a13 a11 a14 a15 a16 x2 x3 x4 x5 x6 x7 x8 a14 a17 a17 f0 a12 a18 a19 a20 x9 x10 x11 x12 x13 a18 a21 a21 f1) sz)) 0 0 (va_A (zS_9 cB cC cI cJ a0 a1 a2 a3 a4 a5 a6 a7 a8 a9 a10 x1 a11 a12 a13 a11 a14 a15 a16 x2 x3 x4 x5 x6 x7 x8 a14 a17 a17 f0 a12 a18 a19 a20 x9 x10 x11 x12 x13 a18 a21 a21 f1) sz) := by
  refine gOf_i (by decide +kernel) (Nat.le_of_ble_eq_true rfl) ?_
  intro p e s m args below meth c ls A Q hx hb hts hown hml hN hK hP hD hA hl hret
  replace hown : s.vm.findClass RX11 = some m.cls := hown
  have hS : va_S A s.heap s.heap [] := va_S.rf
  replace hP : va_P D gcl (zS_9 cB cC cI cJ a0 a1 a2 a3 a4 a5 a6 a7 a8 a9 a10 x1 a11 a12 a13 a11 a14 a15 a16 x2 x3 x4 x5 x6 x7 x8 a14 a17 a17 f0 a12 a18 a19 a20 x9 x10 x11 x12 x13 a18 a21 a21 f1) s.heap := hP
  replace hl : lv_has ls 2 [(0, .ref a0), (1, .int x0)] := hl
  have rx7 : zBd x7.toInt (-2147483648) 2147483647 := n_rng x7
  have rx8 : zBd x8.toInt (-2147483648) 2147483647 := n_rng x8
  have rx13 : zBd x13.toInt (-2147483648) 2147483647 := n_rng x13
  refine lv_aload_n (pc := 0) hx hb dX11_worst_0 rfl (lv_at hl 0 rfl) ?_
  refine lv_iload_n (pc := 1) hx hb dX11_worst_1 rfl (lv_at hl 1 rfl) ?_
  rcases (show x0.toInt = 0 ∨ x0.toInt = 1 from (by first | exact (om_1334 hp1.1 hp1.2) | ((first | omega | (unfold zBd at *; omega))))) with h_1 | h_1
  ·
    as_aux_lemma =>
      refine gI (pc := 2) (y := 0) (Int32.toInt_inj.mp (h_1.trans tI_0.symm)) ?_
      refine gd_r (pc := 2) (wc := (zS_159 cB cC cI cJ a0 a1 a2 a3 a4 a5 a6 a7 a8 a9 a10 x1 a11 a12 a13 a11 a14 a15 a16 x2 x3 x4 x5 x6 x7 x8)) hP hD hS hA [0, 1] rfl (by decide +kernel) (fun _ => by rfl) (fun hPc hDc => va_runV (As := [.int 0]) (rest := []) ⟨hx, hb, hml, hown, hts⟩ (k_X11_tableBy_0 l D cB cC cI cJ _ a0 a1 a2 a3 a4 a5 a6 a7 a8 a9 a10 a11 a12 a13 a14 a15 a16 x1 x2 x3 x4 x5 x6 x7 x8 h_x1 h_x2 h_x3 h_x4 h_x5 h_x6) ⟨gcwB hts tw_787 tw_1 tw_784 hd_yX11_tableBy ⟨Nat.le_of_ble_eq_true rfl, Nat.le_of_ble_eq_true rfl⟩, hts _ tw_786, hts _ tp_28⟩ ⟨gblind, va_recv hK hPc (ci := 11) (q0 := 0) rfl rfl, (gpreS hPc hK hDc hN).2⟩ rfl rfl hl.1 rfl (lv_room (Nat.le_of_ble_eq_true rfl)) dX11_worst_2 ⟨Nat.le_of_ble_eq_true rfl, Nat.le_of_ble_eq_true rfl⟩) (fun u_2 r_3 H locs hw_4 hP hD hS => ?_)
      replace hP : va_P D gcl (zS_9 cB cC cI cJ a0 a1 a2 a3 a4 a5 a6 a7 a8 a9 a10 x1 a11 a12 a13 a11 a14 a15 a16 x2 x3 x4 x5 x6 x7 x8 a14 a17 a17 f0 a12 a18 a19 a20 x9 x10 x11 x12 x13 a18 a21 a21 f1) H := hP
      replace hD : va_D A (zS_9 cB cC cI cJ a0 a1 a2 a3 a4 a5 a6 a7 a8 a9 a10 x1 a11 a12 a13 a11 a14 a15 a16 x2 x3 x4 x5 x6 x7 x8 a14 a17 a17 f0 a12 a18 a19 a20 x9 x10 x11 x12 x13 a18 a21 a21 f1) := hD
      replace hw_4 : r_3 = a14 := hw_4
      rw [hw_4]
      refine lv_aload_n (pc := 5) hx hb dX11_worst_5 rfl (lv_at hl 0 rfl) ?_
      refine va_get (pc := 6) (ci := 11) (v := .ref a11) (C := RX11) (T := TX11) (N := 14) hx hb hts iX11 hown hK hP 0 rfl rfl 11 (by decide) (hts _ tw_431) (fun _ h9 => h9) rfl dX11_worst_6 ?_
      refine va_getN (pc := 9) (ci := 1) (v := .int x3) (C := RX1) (T := TX1) (N := 10) hx hb hts iX1 hown hK hP 1 rfl rfl 4 (by decide) (va_Nw.use rfl (hN _ tn_123)) (fun _ h9 => h9) rfl dX11_worst_9 ?_
      refine gd_i (pc := 12) (wc := [(a14, .inr (8, [.ref a17])), (a17, .inl (cI, 30, .inl f0))]) hP hD hS hA [2, 3] rfl (by decide +kernel) (fun _ => by rfl) (fun hPc hDc => va_runV (As := [.int x3]) (rest := []) ⟨hx, hb, hml, hown, hts⟩ (k_X8_worstPair l D cB cC cI cJ _ a14 a17 x3 f0 h_x3) ⟨gcwB hts tw_1117 tw_5 tw_1114 hd_yX8_worstPair ⟨Nat.le_of_ble_eq_true rfl, Nat.le_of_ble_eq_true rfl⟩, hts _ tw_1115, hts _ tw_1116⟩ ⟨gblind, va_recv hK hPc (ci := 8) (q0 := 0) rfl rfl, (gpreS hPc hK hDc hN).2⟩ rfl rfl hl.1 rfl (lv_room (Nat.le_of_ble_eq_true rfl)) dX11_worst_12 ⟨Nat.le_of_ble_eq_true rfl, Nat.le_of_ble_eq_true rfl⟩) (fun r_7 u_6 H locs hw_8 hP hD hS => ?_)
      replace hP : va_P D gcl (zS_9 cB cC cI cJ a0 a1 a2 a3 a4 a5 a6 a7 a8 a9 a10 x1 a11 a12 a13 a11 a14 a15 a16 x2 x3 x4 x5 x6 x7 x8 a14 a17 a17 f0 a12 a18 a19 a20 x9 x10 x11 x12 x13 a18 a21 a21 f1) H := hP
      replace hD : va_D A (zS_9 cB cC cI cJ a0 a1 a2 a3 a4 a5 a6 a7 a8 a9 a10 x1 a11 a12 a13 a11 a14 a15 a16 x2 x3 x4 x5 x6 x7 x8 a14 a17 a17 f0 a12 a18 a19 a20 x9 x10 x11 x12 x13 a18 a21 a21 f1) := hD
      obtain ⟨hw_9, hw_10⟩ := hw_8
      replace hw_9 : ((-1) ≤ r_7.toInt ∧ r_7.toInt ≤ 500) := hw_9
      replace hw_10 : (r_7.toInt = wsW (clT f0) x3.toInt) := hw_10
      have rr_7 : zBd r_7.toInt (-2147483648) 2147483647 := n_rng r_7
      exact hret r_7 ((fun _ => 0), (fun _ => (fun _ => 0)), (fun _ => (fun _ => 0)), (fun _ => 0), (fun _ => 0)) dX11_worst_15 ⟨(show ((-1) ≤ r_7.toInt ∧ r_7.toInt ≤ 500) from hw_9), (show cvQ r_7.toInt True x0.toInt (wsW (clT f1) x3.toInt) (wsW (clT f0) x3.toInt) 0 from cv_0 trivial (by first | exact (om_31 h_1) | ((first | omega | (unfold zBd at *; omega)))) hw_10)⟩ (g_psub (wc := (zS_9 cB cC cI cJ a0 a1 a2 a3 a4 a5 a6 a7 a8 a9 a10 x1 a11 a12 a13 a11 a14 a15 a16 x2 x3 x4 x5 x6 x7 x8 a14 a17 a17 f0 a12 a18 a19 a20 x9 x10 x11 x12 x13 a18 a21 a21 f1)) hP [0, 1, 2, 3, 4, 5, 6] rfl) (hD.sub (ws' := (zS_9 cB cC cI cJ a0 a1 a2 a3 a4 a5 a6 a7 a8 a9 a10 x1 a11 a12 a13 a11 a14 a15 a16 x2 x3 x4 x5 x6 x7 x8 a14 a17 a17 f0 a12 a18 a19 a20 x9 x10 x11 x12 x13 a18 a21 a21 f1)) [0, 1, 2, 3, 4, 5, 6] (by decide) rfl) hS
  ·
    as_aux_lemma =>
      refine gI (pc := 2) (y := 1) (Int32.toInt_inj.mp (h_1.trans tI_1.symm)) ?_
      refine gd_r (pc := 2) (wc := (zS_160 cB cC cI cJ a0 a1 a2 a3 a4 a5 a6 a7 a8 a9 a10 x1 a11 a12 a13 a12 a18 a19 a20 x9 x10 x11 x12 x13)) hP hD hS hA [0, 4] rfl (by decide +kernel) (fun _ => by rfl) (fun hPc hDc => va_runV (As := [.int 1]) (rest := []) ⟨hx, hb, hml, hown, hts⟩ (k_X11_tableBy_1 l D cB cC cI cJ _ a0 a1 a2 a3 a4 a5 a6 a7 a8 a9 a10 a11 a12 a13 a18 a19 a20 x1 x9 x10 x11 x12 x13 h_x1 h_x9 h_x10 h_x11 h_x12 hr_a12_0) ⟨gcwB hts tw_787 tw_1 tw_784 hd_yX11_tableBy ⟨Nat.le_of_ble_eq_true rfl, Nat.le_of_ble_eq_true rfl⟩, hts _ tw_786, hts _ tp_28⟩ ⟨gblind, va_recv hK hPc (ci := 11) (q0 := 0) rfl rfl, (gpreS hPc hK hDc hN).2⟩ rfl rfl hl.1 rfl (lv_room (Nat.le_of_ble_eq_true rfl)) dX11_worst_2 ⟨Nat.le_of_ble_eq_true rfl, Nat.le_of_ble_eq_true rfl⟩) (fun u_11 r_12 H locs hw_13 hP hD hS => ?_)
      replace hP : va_P D gcl (zS_9 cB cC cI cJ a0 a1 a2 a3 a4 a5 a6 a7 a8 a9 a10 x1 a11 a12 a13 a11 a14 a15 a16 x2 x3 x4 x5 x6 x7 x8 a14 a17 a17 f0 a12 a18 a19 a20 x9 x10 x11 x12 x13 a18 a21 a21 f1) H := hP
      replace hD : va_D A (zS_9 cB cC cI cJ a0 a1 a2 a3 a4 a5 a6 a7 a8 a9 a10 x1 a11 a12 a13 a11 a14 a15 a16 x2 x3 x4 x5 x6 x7 x8 a14 a17 a17 f0 a12 a18 a19 a20 x9 x10 x11 x12 x13 a18 a21 a21 f1) := hD
      replace hw_13 : r_12 = a18 := hw_13
      rw [hw_13]
      refine lv_aload_n (pc := 5) hx hb dX11_worst_5 rfl (lv_at hl 0 rfl) ?_
      refine va_get (pc := 6) (ci := 11) (v := .ref a11) (C := RX11) (T := TX11) (N := 14) hx hb hts iX11 hown hK hP 0 rfl rfl 11 (by decide) (hts _ tw_431) (fun _ h9 => h9) rfl dX11_worst_6 ?_
      refine va_getN (pc := 9) (ci := 1) (v := .int x3) (C := RX1) (T := TX1) (N := 10) hx hb hts iX1 hown hK hP 1 rfl rfl 4 (by decide) (va_Nw.use rfl (hN _ tn_123)) (fun _ h9 => h9) rfl dX11_worst_9 ?_
      refine gd_i (pc := 12) (wc := [(a18, .inr (8, [.ref a21])), (a21, .inl (cI, 30, .inl f1))]) hP hD hS hA [5, 6] rfl (by decide +kernel) (fun _ => by rfl) (fun hPc hDc => va_runV (As := [.int x3]) (rest := []) ⟨hx, hb, hml, hown, hts⟩ (k_X8_worstPair l D cB cC cI cJ _ a18 a21 x3 f1 h_x3) ⟨gcwB hts tw_1117 tw_5 tw_1114 hd_yX8_worstPair ⟨Nat.le_of_ble_eq_true rfl, Nat.le_of_ble_eq_true rfl⟩, hts _ tw_1115, hts _ tw_1116⟩ ⟨gblind, va_recv hK hPc (ci := 8) (q0 := 0) rfl rfl, (gpreS hPc hK hDc hN).2⟩ rfl rfl hl.1 rfl (lv_room (Nat.le_of_ble_eq_true rfl)) dX11_worst_12 ⟨Nat.le_of_ble_eq_true rfl, Nat.le_of_ble_eq_true rfl⟩) (fun r_16 u_15 H locs hw_17 hP hD hS => ?_)
      replace hP : va_P D gcl (zS_9 cB cC cI cJ a0 a1 a2 a3 a4 a5 a6 a7 a8 a9 a10 x1 a11 a12 a13 a11 a14 a15 a16 x2 x3 x4 x5 x6 x7 x8 a14 a17 a17 f0 a12 a18 a19 a20 x9 x10 x11 x12 x13 a18 a21 a21 f1) H := hP
      replace hD : va_D A (zS_9 cB cC cI cJ a0 a1 a2 a3 a4 a5 a6 a7 a8 a9 a10 x1 a11 a12 a13 a11 a14 a15 a16 x2 x3 x4 x5 x6 x7 x8 a14 a17 a17 f0 a12 a18 a19 a20 x9 x10 x11 x12 x13 a18 a21 a21 f1) := hD
      obtain ⟨hw_18, hw_19⟩ := hw_17
      replace hw_18 : ((-1) ≤ r_16.toInt ∧ r_16.toInt ≤ 500) := hw_18
      replace hw_19 : (r_16.toInt = wsW (clT f1) x3.toInt) := hw_19
      have rr_16 : zBd r_16.toInt (-2147483648) 2147483647 := n_rng r_16
      exact hret r_16 ((fun _ => 0), (fun _ => (fun _ => 0)), (fun _ => (fun _ => 0)), (fun _ => 0), (fun _ => 0)) dX11_worst_15 ⟨(show ((-1) ≤ r_16.toInt ∧ r_16.toInt ≤ 500) from hw_18), (show cvQ r_16.toInt True x0.toInt (wsW (clT f1) x3.toInt) (wsW (clT f0) x3.toInt) 0 from cv_1 trivial (by first | exact (om_36 h_1) | ((first | omega | (unfold zBd at *; omega)))) hw_19)⟩ (g_psub (wc := (zS_9 cB cC cI cJ a0 a1 a2 a3 a4 a5 a6 a7 a8 a9 a10 x1 a11 a12 a13 a11 a14 a15 a16 x2 x3 x4 x5 x6 x7 x8 a14 a17 a17 f0 a12 a18 a19 a20 x9 x10 x11 x12 x13 a18 a21 a21 f1)) hP [0, 1, 2, 3, 4, 5, 6] rfl) (hD.sub (ws' := (zS_9 cB cC cI cJ a0 a1 a2 a3 a4 a5 a6 a7 a8 a9 a10 x1 a11 a12 a13 a11 a14 a15 a16 x2 x3 x4 x5 x6 x7 x8 a14 a17 a17 f0 a12 a18 a19 a20 x9 x10 x11 x12 x13 a18 a21 a21 f1)) [0, 1, 2, 3, 4, 5, 6] (by decide) rfl) hS
set_option maxHeartbeats 4000000 in
set_option maxRecDepth 100000 in
theorem k_X11_squares (l : Launch) (D : va_G) (cB cC cI cJ : ClassId) (sz : Nat) (a0 a1 a2 a3 a4 a5 a6 a7 a8 a9 a10 a11 a12 a13 a14 a15 a16 a17 a18 a19 a20 a21 : Nat) (x0 x1 x2 x3 x4 x5 x6 x7 x8 x9 x10 x11 x12 x13 : Int32) (f0 f1 : Nat → Int32) (hp1 : (0 ≤ x0.toInt ∧ x0.toInt ≤ 1)) (h_x1 : zBd x1.toInt 0 14) (h_x2 : zBd x2.toInt (-1) 8) (h_x3 : zBd x3.toInt (-1) 5) (h_x4 : zBd x4.toInt (-1) 6) (h_x5 : zBd x5.toInt 0 6) (h_x6 : zBd x6.toInt 0 16) (h_x9 : zBd x9.toInt (-1) 5) (h_x10 : zBd x10.toInt 0 39) (h_x11 : zBd x11.toInt 0 40) (h_x12 : zBd x12.toInt 0 40) (hr_a12_0 : (x11.toInt + x12.toInt ≤ 40)) : Met l yX11_squares (.code yX11_squares cX11_squares 2 (some .long) :: lw_gd) ({ frames := 3, cells := 0, slots := 0, locals := 69 }) (gPre D [(cB, .byte), (cC, .char), (cI, .int), (cJ, .long)] [.ref a0, .int x0] (zS_9 cB cC cI cJ a0 a1 a2 a3 a4 a5 a6 a7 a8 a9 a10 x1 a11 a12 a13 a11 a14 a15 a16 x2 x3 x4 x5 x6 x7 x8 a14 a17 a17 f0 a12 a18 a19 a20 x9 x10 x11 x12 x13 a18 a21 a21 f1) sz) (va_Ql (fun r u => ((-10737418240) ≤ r.toInt ∧ r.toInt ≤ 10737418240) ∧ (cvQ r.toInt True x0.toInt (sqT f1 5) (sqT f0 5) 0)) (gB D (va_A (zS_9 cB cC cI cJ a0 a1 a2 a3 a4 a5 a6 a7 a8 a9 a10 x1 a11 a12 a13 a11 a14 a15 a16 x2 x3 x4 x5 x6 x7 x8 a14 a17 a17 f0 a12 a18 a19 a20 x9 x10 x11 x12 x13 a18 a21 a21 f1) sz) (fun u : gEx => (zS_9 cB cC cI cJ a0 a1 a2 a3 a4 a5 a6 a7 a8 a9 a10 x1 a11 a12 a13 a11 a14 a15 a16 x2 x3 x4 x5 x6 x7 x8 a14 a17 a17 f0 a12 a18 a19 a20 x9 x10 x11 x12 x13 a18 a21 a21 f1))) (va_A (zS_9 cB cC cI cJ a0 a1 a2 a3 a4 a5 a6 a7 a8 a9 a10 x1 a11 a12 a13 a11 a14 a15 a16 x2 x3 x4 x5 x6 x7 x8 a14 a17 a17 f0 a12 a18 a19 a20 x9 x10 x11 x12 x13 a18 a21 a21 f1) sz)) 0 0 (va_A (zS_9 cB cC cI cJ a0 a1 a2 a3 a4 a5 a6 a7 a8 a9 a10 x1 a11 a12 a13 a11 a14 a15 a16 x2 x3 x4 x5 x6 x7 x8 a14 a17 a17 f0 a12 a18 a19 a20 x9 x10 x11 x12 x13 a18 a21 a21 f1) sz) := by
  refine gOf_l (by decide +kernel) (Nat.le_of_ble_eq_true rfl) ?_
  intro p e s m args below meth c ls A Q hx hb hts hown hml hN hK hP hD hA hl hret
  replace hown : s.vm.findClass RX11 = some m.cls := hown
  have hS : va_S A s.heap s.heap [] := va_S.rf
  replace hP : va_P D gcl (zS_9 cB cC cI cJ a0 a1 a2 a3 a4 a5 a6 a7 a8 a9 a10 x1 a11 a12 a13 a11 a14 a15 a16 x2 x3 x4 x5 x6 x7 x8 a14 a17 a17 f0 a12 a18 a19 a20 x9 x10 x11 x12 x13 a18 a21 a21 f1) s.heap := hP
  replace hl : lv_has ls 2 [(0, .ref a0), (1, .int x0)] := hl
  have rx7 : zBd x7.toInt (-2147483648) 2147483647 := n_rng x7
  have rx8 : zBd x8.toInt (-2147483648) 2147483647 := n_rng x8
  have rx13 : zBd x13.toInt (-2147483648) 2147483647 := n_rng x13
  refine lv_aload_n (pc := 0) hx hb dX11_squares_0 rfl (lv_at hl 0 rfl) ?_
  refine lv_iload_n (pc := 1) hx hb dX11_squares_1 rfl (lv_at hl 1 rfl) ?_
  rcases (show x0.toInt = 0 ∨ x0.toInt = 1 from (by first | exact (om_1334 hp1.1 hp1.2) | ((first | omega | (unfold zBd at *; omega))))) with h_1 | h_1
  ·
    as_aux_lemma =>
      refine gI (pc := 2) (y := 0) (Int32.toInt_inj.mp (h_1.trans tI_0.symm)) ?_
      refine gd_r (pc := 2) (wc := (zS_159 cB cC cI cJ a0 a1 a2 a3 a4 a5 a6 a7 a8 a9 a10 x1 a11 a12 a13 a11 a14 a15 a16 x2 x3 x4 x5 x6 x7 x8)) hP hD hS hA [0, 1] rfl (by decide +kernel) (fun _ => by rfl) (fun hPc hDc => va_runV (As := [.int 0]) (rest := []) ⟨hx, hb, hml, hown, hts⟩ (k_X11_tableBy_0 l D cB cC cI cJ _ a0 a1 a2 a3 a4 a5 a6 a7 a8 a9 a10 a11 a12 a13 a14 a15 a16 x1 x2 x3 x4 x5 x6 x7 x8 h_x1 h_x2 h_x3 h_x4 h_x5 h_x6) ⟨gcwB hts tw_787 tw_1 tw_784 hd_yX11_tableBy ⟨Nat.le_of_ble_eq_true rfl, Nat.le_of_ble_eq_true rfl⟩, hts _ tw_786, hts _ tp_28⟩ ⟨gblind, va_recv hK hPc (ci := 11) (q0 := 0) rfl rfl, (gpreS hPc hK hDc hN).2⟩ rfl rfl hl.1 rfl (lv_room (Nat.le_of_ble_eq_true rfl)) dX11_squares_2 ⟨Nat.le_of_ble_eq_true rfl, Nat.le_of_ble_eq_true rfl⟩) (fun u_2 r_3 H locs hw_4 hP hD hS => ?_)
      replace hP : va_P D gcl (zS_9 cB cC cI cJ a0 a1 a2 a3 a4 a5 a6 a7 a8 a9 a10 x1 a11 a12 a13 a11 a14 a15 a16 x2 x3 x4 x5 x6 x7 x8 a14 a17 a17 f0 a12 a18 a19 a20 x9 x10 x11 x12 x13 a18 a21 a21 f1) H := hP
      replace hD : va_D A (zS_9 cB cC cI cJ a0 a1 a2 a3 a4 a5 a6 a7 a8 a9 a10 x1 a11 a12 a13 a11 a14 a15 a16 x2 x3 x4 x5 x6 x7 x8 a14 a17 a17 f0 a12 a18 a19 a20 x9 x10 x11 x12 x13 a18 a21 a21 f1) := hD
      replace hw_4 : r_3 = a14 := hw_4
      rw [hw_4]
      refine gd_l (pc := 5) (wc := [(a14, .inr (8, [.ref a17])), (a17, .inl (cI, 30, .inl f0))]) hP hD hS hA [2, 3] rfl (by decide +kernel) (fun _ => by rfl) (fun hPc hDc => va_runV (As := []) (rest := []) ⟨hx, hb, hml, hown, hts⟩ (k_X8_allSquares l D cB cC cI cJ _ a14 a17 f0) ⟨gcwB hts tw_1126 tw_5 tw_1123 hd_yX8_allSquares ⟨Nat.le_of_ble_eq_true rfl, Nat.le_of_ble_eq_true rfl⟩, hts _ tw_1124, hts _ tw_1125⟩ ⟨gblind, va_recv hK hPc (ci := 8) (q0 := 0) rfl rfl, (gpreS hPc hK hDc hN).2⟩ rfl rfl hl.1 rfl (lv_room (Nat.le_of_ble_eq_true rfl)) dX11_squares_5 ⟨Nat.le_of_ble_eq_true rfl, Nat.le_of_ble_eq_true rfl⟩) (fun r_7 u_6 H locs hw_8 hP hD hS => ?_)
      replace hP : va_P D gcl (zS_9 cB cC cI cJ a0 a1 a2 a3 a4 a5 a6 a7 a8 a9 a10 x1 a11 a12 a13 a11 a14 a15 a16 x2 x3 x4 x5 x6 x7 x8 a14 a17 a17 f0 a12 a18 a19 a20 x9 x10 x11 x12 x13 a18 a21 a21 f1) H := hP
      replace hD : va_D A (zS_9 cB cC cI cJ a0 a1 a2 a3 a4 a5 a6 a7 a8 a9 a10 x1 a11 a12 a13 a11 a14 a15 a16 x2 x3 x4 x5 x6 x7 x8 a14 a17 a17 f0 a12 a18 a19 a20 x9 x10 x11 x12 x13 a18 a21 a21 f1) := hD
      obtain ⟨hw_9, hw_10⟩ := hw_8
      replace hw_9 : ((-10737418240) ≤ r_7.toInt ∧ r_7.toInt ≤ 10737418240) := hw_9
      replace hw_10 : (r_7.toInt = sqT f0 5) := hw_10
      have rr_7 := n_rngL r_7
      exact hret r_7 ((fun _ => 0), (fun _ => (fun _ => 0)), (fun _ => (fun _ => 0)), (fun _ => 0), (fun _ => 0)) dX11_squares_8 ⟨(show ((-10737418240) ≤ r_7.toInt ∧ r_7.toInt ≤ 10737418240) from hw_9), (show cvQ r_7.toInt True x0.toInt (sqT f1 5) (sqT f0 5) 0 from cv_0 trivial (by first | exact (om_31 h_1) | ((first | omega | (unfold zBd at *; omega)))) hw_10)⟩ (g_psub (wc := (zS_9 cB cC cI cJ a0 a1 a2 a3 a4 a5 a6 a7 a8 a9 a10 x1 a11 a12 a13 a11 a14 a15 a16 x2 x3 x4 x5 x6 x7 x8 a14 a17 a17 f0 a12 a18 a19 a20 x9 x10 x11 x12 x13 a18 a21 a21 f1)) hP [0, 1, 2, 3, 4, 5, 6] rfl) (hD.sub (ws' := (zS_9 cB cC cI cJ a0 a1 a2 a3 a4 a5 a6 a7 a8 a9 a10 x1 a11 a12 a13 a11 a14 a15 a16 x2 x3 x4 x5 x6 x7 x8 a14 a17 a17 f0 a12 a18 a19 a20 x9 x10 x11 x12 x13 a18 a21 a21 f1)) [0, 1, 2, 3, 4, 5, 6] (by decide) rfl) hS
  ·
    as_aux_lemma =>
      refine gI (pc := 2) (y := 1) (Int32.toInt_inj.mp (h_1.trans tI_1.symm)) ?_
      refine gd_r (pc := 2) (wc := (zS_160 cB cC cI cJ a0 a1 a2 a3 a4 a5 a6 a7 a8 a9 a10 x1 a11 a12 a13 a12 a18 a19 a20 x9 x10 x11 x12 x13)) hP hD hS hA [0, 4] rfl (by decide +kernel) (fun _ => by rfl) (fun hPc hDc => va_runV (As := [.int 1]) (rest := []) ⟨hx, hb, hml, hown, hts⟩ (k_X11_tableBy_1 l D cB cC cI cJ _ a0 a1 a2 a3 a4 a5 a6 a7 a8 a9 a10 a11 a12 a13 a18 a19 a20 x1 x9 x10 x11 x12 x13 h_x1 h_x9 h_x10 h_x11 h_x12 hr_a12_0) ⟨gcwB hts tw_787 tw_1 tw_784 hd_yX11_tableBy ⟨Nat.le_of_ble_eq_true rfl, Nat.le_of_ble_eq_true rfl⟩, hts _ tw_786, hts _ tp_28⟩ ⟨gblind, va_recv hK hPc (ci := 11) (q0 := 0) rfl rfl, (gpreS hPc hK hDc hN).2⟩ rfl rfl hl.1 rfl (lv_room (Nat.le_of_ble_eq_true rfl)) dX11_squares_2 ⟨Nat.le_of_ble_eq_true rfl, Nat.le_of_ble_eq_true rfl⟩) (fun u_11 r_12 H locs hw_13 hP hD hS => ?_)
      replace hP : va_P D gcl (zS_9 cB cC cI cJ a0 a1 a2 a3 a4 a5 a6 a7 a8 a9 a10 x1 a11 a12 a13 a11 a14 a15 a16 x2 x3 x4 x5 x6 x7 x8 a14 a17 a17 f0 a12 a18 a19 a20 x9 x10 x11 x12 x13 a18 a21 a21 f1) H := hP
      replace hD : va_D A (zS_9 cB cC cI cJ a0 a1 a2 a3 a4 a5 a6 a7 a8 a9 a10 x1 a11 a12 a13 a11 a14 a15 a16 x2 x3 x4 x5 x6 x7 x8 a14 a17 a17 f0 a12 a18 a19 a20 x9 x10 x11 x12 x13 a18 a21 a21 f1) := hD
      replace hw_13 : r_12 = a18 := hw_13
      rw [hw_13]
      refine gd_l (pc := 5) (wc := [(a18, .inr (8, [.ref a21])), (a21, .inl (cI, 30, .inl f1))]) hP hD hS hA [5, 6] rfl (by decide +kernel) (fun _ => by rfl) (fun hPc hDc => va_runV (As := []) (rest := []) ⟨hx, hb, hml, hown, hts⟩ (k_X8_allSquares l D cB cC cI cJ _ a18 a21 f1) ⟨gcwB hts tw_1126 tw_5 tw_1123 hd_yX8_allSquares ⟨Nat.le_of_ble_eq_true rfl, Nat.le_of_ble_eq_true rfl⟩, hts _ tw_1124, hts _ tw_1125⟩ ⟨gblind, va_recv hK hPc (ci := 8) (q0 := 0) rfl rfl, (gpreS hPc hK hDc hN).2⟩ rfl rfl hl.1 rfl (lv_room (Nat.le_of_ble_eq_true rfl)) dX11_squares_5 ⟨Nat.le_of_ble_eq_true rfl, Nat.le_of_ble_eq_true rfl⟩) (fun r_16 u_15 H locs hw_17 hP hD hS => ?_)
      replace hP : va_P D gcl (zS_9 cB cC cI cJ a0 a1 a2 a3 a4 a5 a6 a7 a8 a9 a10 x1 a11 a12 a13 a11 a14 a15 a16 x2 x3 x4 x5 x6 x7 x8 a14 a17 a17 f0 a12 a18 a19 a20 x9 x10 x11 x12 x13 a18 a21 a21 f1) H := hP
      replace hD : va_D A (zS_9 cB cC cI cJ a0 a1 a2 a3 a4 a5 a6 a7 a8 a9 a10 x1 a11 a12 a13 a11 a14 a15 a16 x2 x3 x4 x5 x6 x7 x8 a14 a17 a17 f0 a12 a18 a19 a20 x9 x10 x11 x12 x13 a18 a21 a21 f1) := hD
      obtain ⟨hw_18, hw_19⟩ := hw_17
      replace hw_18 : ((-10737418240) ≤ r_16.toInt ∧ r_16.toInt ≤ 10737418240) := hw_18
      replace hw_19 : (r_16.toInt = sqT f1 5) := hw_19
      have rr_16 := n_rngL r_16
      exact hret r_16 ((fun _ => 0), (fun _ => (fun _ => 0)), (fun _ => (fun _ => 0)), (fun _ => 0), (fun _ => 0)) dX11_squares_8 ⟨(show ((-10737418240) ≤ r_16.toInt ∧ r_16.toInt ≤ 10737418240) from hw_18), (show cvQ r_16.toInt True x0.toInt (sqT f1 5) (sqT f0 5) 0 from cv_1 trivial (by first | exact (om_36 h_1) | ((first | omega | (unfold zBd at *; omega)))) hw_19)⟩ (g_psub (wc := (zS_9 cB cC cI cJ a0 a1 a2 a3 a4 a5 a6 a7 a8 a9 a10 x1 a11 a12 a13 a11 a14 a15 a16 x2 x3 x4 x5 x6 x7 x8 a14 a17 a17 f0 a12 a18 a19 a20 x9 x10 x11 x12 x13 a18 a21 a21 f1)) hP [0, 1, 2, 3, 4, 5, 6] rfl) (hD.sub (ws' := (zS_9 cB cC cI cJ a0 a1 a2 a3 a4 a5 a6 a7 a8 a9 a10 x1 a11 a12 a13 a11 a14 a15 a16 x2 x3 x4 x5 x6 x7 x8 a14 a17 a17 f0 a12 a18 a19 a20 x9 x10 x11 x12 x13 a18 a21 a21 f1)) [0, 1, 2, 3, 4, 5, 6] (by decide) rfl) hS
theorem om_1402 {a : Int} (h0 : (a ≥ 1)) (h1 : (a ≤ 2)) : (((-2) ≤ a ∧ a ≤ 7)) := by omega
theorem om_1403 {a : Int} (h0 : (a = (-1))) : (¬ (¬ a = (-1))) := by omega
set_option maxHeartbeats 4000000 in
set_option maxRecDepth 100000 in
theorem k_X11_sums (l : Launch) (D : va_G) (cB cC cI cJ : ClassId) (sz : Nat) (a0 a1 a2 a3 a4 a5 a6 a7 a8 a9 a10 a11 a12 a13 a14 a15 a16 a17 a18 a19 a20 a21 a22 a23 a24 a25 a26 a27 : Nat) (x0 x1 x2 x3 x4 x5 x6 x7 x8 x9 x10 x11 : Int32) (y0 : Int64) (f0 f1 f2 f3 f4 f5 : Nat → Int32) (g0 g1 g2 : Nat → Int64) (h_x3 : zBd x3.toInt 0 14) (h_x4 : zBd x4.toInt (-1) 8) (h_x5 : zBd x5.toInt (-1) 5) (h_x6 : zBd x6.toInt (-1) 6) (h_x7 : zBd x7.toInt 0 6) (h_x8 : zBd x8.toInt 0 16) (h_x11 : zBd x11.toInt 0 4) (hf_f1 : (∀ j, (-3) ≤ (f1 j).toInt ∧ (f1 j).toInt ≤ 24)) (hf_f2 : (∀ j, 0 ≤ (f2 j).toInt ∧ (f2 j).toInt ≤ 23)) : Met l yX11_sums (.code yX11_sums cX11_sums 4 (some .long) :: lw_gd) ({ frames := 4, cells := 0, slots := 0, locals := 104 }) (gPre D [(cB, .byte), (cC, .char), (cI, .int), (cJ, .long)] [.ref a0, .int x0, .int x1, .int x2] (zS_91 cB cC cI cJ a0 a1 a2 a3 a4 a5 a6 a7 a8 a9 a10 x3 a11 a12 a13 a11 a14 a15 a16 x4 x5 x6 x7 x8 x9 x10 a4 a17 a18 a19 y0 a17 a20 a21 a22 a23 a24 a25 a26 x11 a14 a27 a27 f0 a20 g0 a22 g1 a21 g2 a25 f1 a26 f2 a23 f3 a24 f4 a18 f5) sz) (va_Ql (fun r u => (0 ≤ (u.2.2.2.1 0).toInt ∧ (u.2.2.2.1 0).toInt ≤ 4) ∧ (∀ j, (-3) ≤ ((u.2.1 0) j).toInt ∧ ((u.2.1 0) j).toInt ≤ 24) ∧ (∀ j, 0 ≤ ((u.2.1 1) j).toInt ∧ ((u.2.1 1) j).toInt ≤ 23)) (gB D (va_A (zS_91 cB cC cI cJ a0 a1 a2 a3 a4 a5 a6 a7 a8 a9 a10 x3 a11 a12 a13 a11 a14 a15 a16 x4 x5 x6 x7 x8 x9 x10 a4 a17 a18 a19 y0 a17 a20 a21 a22 a23 a24 a25 a26 x11 a14 a27 a27 f0 a20 g0 a22 g1 a21 g2 a25 f1 a26 f2 a23 f3 a24 f4 a18 f5) sz) (fun u : gEx => (zS_91 cB cC cI cJ a0 a1 a2 a3 a4 a5 a6 a7 a8 a9 a10 x3 a11 a12 a13 a11 a14 a15 a16 x4 x5 x6 x7 x8 x9 x10 a4 a17 a18 a19 (u.2.2.2.2 0) a17 a20 a21 a22 a23 a24 a25 a26 (u.2.2.2.1 0) a14 a27 a27 f0 a20 (u.2.2.1 0) a22 (u.2.2.1 1) a21 (u.2.2.1 2) a25 (u.2.1 0) a26 (u.2.1 1) a23 (u.2.1 2) a24 (u.2.1 3) a18 (u.2.1 4)))) (va_A (zS_91 cB cC cI cJ a0 a1 a2 a3 a4 a5 a6 a7 a8 a9 a10 x3 a11 a12 a13 a11 a14 a15 a16 x4 x5 x6 x7 x8 x9 x10 a4 a17 a18 a19 y0 a17 a20 a21 a22 a23 a24 a25 a26 x11 a14 a27 a27 f0 a20 g0 a22 g1 a21 g2 a25 f1 a26 f2 a23 f3 a24 f4 a18 f5) sz)) 0 0 (va_A (zS_91 cB cC cI cJ a0 a1 a2 a3 a4 a5 a6 a7 a8 a9 a10 x3 a11 a12 a13 a11 a14 a15 a16 x4 x5 x6 x7 x8 x9 x10 a4 a17 a18 a19 y0 a17 a20 a21 a22 a23 a24 a25 a26 x11 a14 a27 a27 f0 a20 g0 a22 g1 a21 g2 a25 f1 a26 f2 a23 f3 a24 f4 a18 f5) sz) := by
  refine gOf_l (by decide +kernel) (Nat.le_of_ble_eq_true rfl) ?_
  intro p e s m args below meth c ls A Q hx hb hts hown hml hN hK hP hD hA hl hret
  replace hown : s.vm.findClass RX11 = some m.cls := hown
  have hS : va_S A s.heap s.heap [] := va_S.rf
  replace hP : va_P D gcl (zS_91 cB cC cI cJ a0 a1 a2 a3 a4 a5 a6 a7 a8 a9 a10 x3 a11 a12 a13 a11 a14 a15 a16 x4 x5 x6 x7 x8 x9 x10 a4 a17 a18 a19 y0 a17 a20 a21 a22 a23 a24 a25 a26 x11 a14 a27 a27 f0 a20 g0 a22 g1 a21 g2 a25 f1 a26 f2 a23 f3 a24 f4 a18 f5) s.heap := hP
  replace hl : lv_has ls 4 [(0, .ref a0), (1, .int x0), (2, .int x1), (3, .int x2)] := hl
  have rx0 : zBd x0.toInt (-2147483648) 2147483647 := n_rng x0
  have rx1 : zBd x1.toInt (-2147483648) 2147483647 := n_rng x1
  have rx2 : zBd x2.toInt (-2147483648) 2147483647 := n_rng x2
  have rx9 : zBd x9.toInt (-2147483648) 2147483647 := n_rng x9
  have rx10 : zBd x10.toInt (-2147483648) 2147483647 := n_rng x10
  have ry0 := n_rngL y0
  refine lv_aload_n (pc := 0) hx hb dX11_sums_0 rfl (lv_at hl 0 rfl) ?_
  refine va_get (pc := 1) (ci := 11) (v := .ref a11) (C := RX11) (T := TX11) (N := 14) hx hb hts iX11 hown hK hP 0 rfl rfl 11 (by decide) (hts _ tw_431) (fun _ h9 => h9) rfl dX11_sums_1 ?_
  refine lv_iload_n (pc := 4) hx hb dX11_sums_4 rfl (lv_at hl 1 rfl) ?_
  refine gd_i (pc := 5) (wc := (zS_5 cB cC cI cJ a11 a14 a15 a16 x4 x5 x6 x7 x8 x9 x10)) hP hD hS hA [1] rfl (by decide +kernel) (fun _ => by rfl) (fun hPc hDc => va_runV (As := [.int x0]) (rest := []) ⟨hx, hb, hml, hown, hts⟩ (k_X1_isSenderSet l D cB cC cI cJ _ a11 a14 a15 a16 x0 x4 x5 x6 x7 x8 x9 x10 h_x4 h_x5 h_x6 h_x7 h_x8) ⟨gcwB hts tw_1134 tw_4 tw_1131 hd_yX1_isSenderSet ⟨Nat.le_of_ble_eq_true rfl, Nat.le_of_ble_eq_true rfl⟩, hts _ tw_1132, hts _ tw_1133⟩ ⟨gblind, va_recv hK hPc (ci := 1) (q0 := 0) rfl rfl, (gpreS hPc hK hDc hN).2⟩ rfl rfl hl.1 rfl (lv_room (Nat.le_of_ble_eq_true rfl)) dX11_sums_5 ⟨Nat.le_of_ble_eq_true rfl, Nat.le_of_ble_eq_true rfl⟩) (fun r_2 u_1 H locs hw_3 hP hD hS => ?_)
  replace hP : va_P D gcl (zS_91 cB cC cI cJ a0 a1 a2 a3 a4 a5 a6 a7 a8 a9 a10 x3 a11 a12 a13 a11 a14 a15 a16 x4 x5 x6 x7 x8 x9 x10 a4 a17 a18 a19 y0 a17 a20 a21 a22 a23 a24 a25 a26 x11 a14 a27 a27 f0 a20 g0 a22 g1 a21 g2 a25 f1 a26 f2 a23 f3 a24 f4 a18 f5) H := hP
  replace hD : va_D A (zS_91 cB cC cI cJ a0 a1 a2 a3 a4 a5 a6 a7 a8 a9 a10 x3 a11 a12 a13 a11 a14 a15 a16 x4 x5 x6 x7 x8 x9 x10 a4 a17 a18 a19 y0 a17 a20 a21 a22 a23 a24 a25 a26 x11 a14 a27 a27 f0 a20 g0 a22 g1 a21 g2 a25 f1 a26 f2 a23 f3 a24 f4 a18 f5) := hD
  have hw_4 : ((r_2.toInt = 0 ∧ x0.toInt ≤ 0) ∨ (r_2.toInt = 0 ∧ x0.toInt > 0 ∧ (1 ≤ x0.toInt ∧ x0.toInt ≤ 2147483647)) ∨ (r_2.toInt = 1 ∧ x0.toInt > 0 ∧ (1 ≤ x0.toInt ∧ x0.toInt ≤ 31))) := hw_3
  have rr_2 : zBd r_2.toInt (-2147483648) 2147483647 := n_rng r_2
  refine b_if_eq (pc := 8) (tgt := 37) hx hb rfl  dX11_sums_8 (by decide) (fun c_5 => ?_) (fun c_5 => ?_)
  ·
    as_aux_lemma =>
      refine lv_ldc2 (pc := 37) hx hb hown (hts _ tw_1091) dX11_sums_37 ?_
      exact hret (-1000000000) ((fun _ => 0), (fun k => [f1, f2, f3, f4, f5].getD k (fun _ => 0)), (fun k => [g0, g1, g2].getD k (fun _ => 0)), (fun k => [x11].getD k 0), (fun k => [y0].getD k 0)) dX11_sums_40 ⟨(show (0 ≤ (x11 : Int32).toInt ∧ (x11 : Int32).toInt ≤ 4) from h_x11), hf_f1, hf_f2⟩ (g_psub (wc := (zS_91 cB cC cI cJ a0 a1 a2 a3 a4 a5 a6 a7 a8 a9 a10 x3 a11 a12 a13 a11 a14 a15 a16 x4 x5 x6 x7 x8 x9 x10 a4 a17 a18 a19 y0 a17 a20 a21 a22 a23 a24 a25 a26 x11 a14 a27 a27 f0 a20 g0 a22 g1 a21 g2 a25 f1 a26 f2 a23 f3 a24 f4 a18 f5)) hP [0, 1, 2, 3, 4, 5, 6, 7, 8, 9, 10, 11, 12, 13] rfl) (hD.sub (ws' := (zS_91 cB cC cI cJ a0 a1 a2 a3 a4 a5 a6 a7 a8 a9 a10 x3 a11 a12 a13 a11 a14 a15 a16 x4 x5 x6 x7 x8 x9 x10 a4 a17 a18 a19 y0 a17 a20 a21 a22 a23 a24 a25 a26 x11 a14 a27 a27 f0 a20 g0 a22 g1 a21 g2 a25 f1 a26 f2 a23 f3 a24 f4 a18 f5)) [0, 1, 2, 3, 4, 5, 6, 7, 8, 9, 10, 11, 12, 13] (by decide) rfl) hS
  ·
    as_aux_lemma =>
      refine lv_iload_n (pc := 11) hx hb dX11_sums_11 rfl (lv_at hl 2 rfl) ?_
      refine lv_iconst (pc := 12) (v := 1) hx hb dX11_sums_12 (by decide) ?_
      refine b_icmp_lt (pc := 13) (tgt := 37) hx hb rfl tI_1  dX11_sums_13 (by decide) (fun c_6 => ?_) (fun c_6 => ?_)
      ·
        as_aux_lemma =>
          refine lv_ldc2 (pc := 37) hx hb hown (hts _ tw_1091) dX11_sums_37 ?_
          exact hret (-1000000000) ((fun _ => 0), (fun k => [f1, f2, f3, f4, f5].getD k (fun _ => 0)), (fun k => [g0, g1, g2].getD k (fun _ => 0)), (fun k => [x11].getD k 0), (fun k => [y0].getD k 0)) dX11_sums_40 ⟨(show (0 ≤ (x11 : Int32).toInt ∧ (x11 : Int32).toInt ≤ 4) from h_x11), hf_f1, hf_f2⟩ (g_psub (wc := (zS_91 cB cC cI cJ a0 a1 a2 a3 a4 a5 a6 a7 a8 a9 a10 x3 a11 a12 a13 a11 a14 a15 a16 x4 x5 x6 x7 x8 x9 x10 a4 a17 a18 a19 y0 a17 a20 a21 a22 a23 a24 a25 a26 x11 a14 a27 a27 f0 a20 g0 a22 g1 a21 g2 a25 f1 a26 f2 a23 f3 a24 f4 a18 f5)) hP [0, 1, 2, 3, 4, 5, 6, 7, 8, 9, 10, 11, 12, 13] rfl) (hD.sub (ws' := (zS_91 cB cC cI cJ a0 a1 a2 a3 a4 a5 a6 a7 a8 a9 a10 x3 a11 a12 a13 a11 a14 a15 a16 x4 x5 x6 x7 x8 x9 x10 a4 a17 a18 a19 y0 a17 a20 a21 a22 a23 a24 a25 a26 x11 a14 a27 a27 f0 a20 g0 a22 g1 a21 g2 a25 f1 a26 f2 a23 f3 a24 f4 a18 f5)) [0, 1, 2, 3, 4, 5, 6, 7, 8, 9, 10, 11, 12, 13] (by decide) rfl) hS
      ·
        as_aux_lemma =>
          refine lv_iload_n (pc := 16) hx hb dX11_sums_16 rfl (lv_at hl 2 rfl) ?_
          refine lv_iconst (pc := 17) (v := 2) hx hb dX11_sums_17 (by decide) ?_
          refine b_icmp_gt (pc := 18) (tgt := 37) hx hb rfl tI_2  dX11_sums_18 (by decide) (fun c_7 => ?_) (fun c_7 => ?_)
          ·
            as_aux_lemma =>
              refine lv_ldc2 (pc := 37) hx hb hown (hts _ tw_1091) dX11_sums_37 ?_
              exact hret (-1000000000) ((fun _ => 0), (fun k => [f1, f2, f3, f4, f5].getD k (fun _ => 0)), (fun k => [g0, g1, g2].getD k (fun _ => 0)), (fun k => [x11].getD k 0), (fun k => [y0].getD k 0)) dX11_sums_40 ⟨(show (0 ≤ (x11 : Int32).toInt ∧ (x11 : Int32).toInt ≤ 4) from h_x11), hf_f1, hf_f2⟩ (g_psub (wc := (zS_91 cB cC cI cJ a0 a1 a2 a3 a4 a5 a6 a7 a8 a9 a10 x3 a11 a12 a13 a11 a14 a15 a16 x4 x5 x6 x7 x8 x9 x10 a4 a17 a18 a19 y0 a17 a20 a21 a22 a23 a24 a25 a26 x11 a14 a27 a27 f0 a20 g0 a22 g1 a21 g2 a25 f1 a26 f2 a23 f3 a24 f4 a18 f5)) hP [0, 1, 2, 3, 4, 5, 6, 7, 8, 9, 10, 11, 12, 13] rfl) (hD.sub (ws' := (zS_91 cB cC cI cJ a0 a1 a2 a3 a4 a5 a6 a7 a8 a9 a10 x3 a11 a12 a13 a11 a14 a15 a16 x4 x5 x6 x7 x8 x9 x10 a4 a17 a18 a19 y0 a17 a20 a21 a22 a23 a24 a25 a26 x11 a14 a27 a27 f0 a20 g0 a22 g1 a21 g2 a25 f1 a26 f2 a23 f3 a24 f4 a18 f5)) [0, 1, 2, 3, 4, 5, 6, 7, 8, 9, 10, 11, 12, 13] (by decide) rfl) hS
          ·
            as_aux_lemma =>
              refine lv_iload_n (pc := 21) hx hb dX11_sums_21 rfl (lv_at hl 3 rfl) ?_
              refine lv_iconst (pc := 22) (v := (-1)) hx hb dX11_sums_22 (by decide) ?_
              refine b_icmp_eq (pc := 23) (tgt := 41) hx hb rfl tI_m1  dX11_sums_23 (by decide) (fun c_8 => ?_) (fun c_8 => ?_)
              ·
                as_aux_lemma =>
                  refine lv_aload_n (pc := 41) hx hb dX11_sums_41 rfl (lv_at hl 0 rfl) ?_
                  refine va_get (pc := 42) (ci := 11) (v := .ref a4) (C := RX11) (T := TX11) (N := 14) hx hb hts iX11 hown hK hP 0 rfl rfl 3 (by decide) (hts _ tw_423) (fun _ h9 => h9) rfl dX11_sums_42 ?_
                  refine lv_aload_n (pc := 45) hx hb dX11_sums_45 rfl (lv_at hl 0 rfl) ?_
                  refine va_get (pc := 46) (ci := 11) (v := .ref a11) (C := RX11) (T := TX11) (N := 14) hx hb hts iX11 hown hK hP 0 rfl rfl 11 (by decide) (hts _ tw_431) (fun _ h9 => h9) rfl dX11_sums_46 ?_
                  refine lv_iload_n (pc := 49) hx hb dX11_sums_49 rfl (lv_at hl 1 rfl) ?_
                  refine lv_iload_n (pc := 50) hx hb dX11_sums_50 rfl (lv_at hl 2 rfl) ?_
                  refine gc_v (pc := 51) (wc := (zS_71 cB cC cI cJ a4 a17 a18 a19 y0 a17 a20 a21 a22 a23 a24 a25 a26 x11 a11 a14 a15 a16 x4 x5 x6 x7 x8 x9 x10 a14 a27 a27 f0 a20 g0 a22 g1 a21 g2 a25 f1 a26 f2 a23 f3 a24 f4 a18 f5)) (wr := (zS_177 cB cC cI cJ a0 a1 a2 a3 a4 a5 a6 a7 a8 a9 a10 x3 a11 a12 a13)) hP hD hS hA [2, 3, 1, 4, 5, 6, 7, 8, 9, 10, 11, 12, 13] [0] rfl rfl (by decide +kernel) (by decide +kernel) (by decide +kernel) (fun hPc hDc => va_runV (As := [.ref a11, .int x0, .int x1]) (rest := []) ⟨hx, hb, hml, hown, hts⟩ (k_X6_findShortest l D cB cC cI cJ _ a4 a11 a17 a18 a19 a20 a21 a22 a23 a24 a25 a26 a14 a15 a16 a27 x0 x1 x11 x4 x5 x6 x7 x8 x9 x10 y0 f0 f1 f2 f3 f4 f5 g0 g1 g2 (by first | exact (om_1402 c_6 c_7) | ((first | omega | (unfold zBd at *; omega)))) h_x11 h_x4 h_x5 h_x6 h_x7 h_x8 hf_f1 hf_f2) ⟨gcwB hts tw_1138 tw_9 tw_1135 hd_yX6_findShortest ⟨Nat.le_of_ble_eq_true rfl, Nat.le_of_ble_eq_true rfl⟩, hts _ tw_1136, hts _ tw_1137⟩ ⟨gblind, va_recv hK hPc (ci := 6) (q0 := 0) rfl rfl, (gpreS hPc hK hDc hN).2⟩ rfl rfl hl.1 rfl (lv_room (Nat.le_of_ble_eq_true rfl)) dX11_sums_51 ⟨Nat.le_of_ble_eq_true rfl, Nat.le_of_ble_eq_true rfl⟩) (fun u_9 H locs hw_11 hP hD hS => ?_)
                  replace hP : va_P D gcl (zS_199 cB cC cI cJ a0 a1 a2 a3 a4 a5 a6 a7 a8 a9 a10 x3 a11 a12 a13 a4 a17 a18 a19 (u_9.2.2.2.2 0) a17 a20 a21 a22 a23 a24 a25 a26 (u_9.2.2.2.1 0) a11 a14 a15 a16 x4 x5 x6 x7 x8 x9 x10 a14 a27 a27 f0 a20 (u_9.2.2.1 0) a22 (u_9.2.2.1 1) a21 (u_9.2.2.1 2) a25 (u_9.2.1 0) a26 (u_9.2.1 1) a23 (u_9.2.1 2) a24 (u_9.2.1 3) a18 (u_9.2.1 4)) H := hP
                  replace hD : va_D A (zS_199 cB cC cI cJ a0 a1 a2 a3 a4 a5 a6 a7 a8 a9 a10 x3 a11 a12 a13 a4 a17 a18 a19 (u_9.2.2.2.2 0) a17 a20 a21 a22 a23 a24 a25 a26 (u_9.2.2.2.1 0) a11 a14 a15 a16 x4 x5 x6 x7 x8 x9 x10 a14 a27 a27 f0 a20 (u_9.2.2.1 0) a22 (u_9.2.2.1 1) a21 (u_9.2.2.1 2) a25 (u_9.2.1 0) a26 (u_9.2.1 1) a23 (u_9.2.1 2) a24 (u_9.2.1 3) a18 (u_9.2.1 4)) := hD
                  have ru_9_0 := n_rngL (u_9.2.2.2.2 0)
                  obtain ⟨hw_12, hw_13, hw_14, hw_15⟩ := hw_11
                  replace hw_12 : ((((-1) ≤ x5.toInt ∧ x5.toInt ≤ 5))) := hw_12
                  replace hw_13 : zBd (u_9.2.2.2.1 0).toInt 0 4 := hw_13
                  replace hw_14 : (∀ j, (-3) ≤ ((u_9.2.1 0) j).toInt ∧ ((u_9.2.1 0) j).toInt ≤ 24) := hw_14
                  replace hw_15 : (∀ j, 0 ≤ ((u_9.2.1 1) j).toInt ∧ ((u_9.2.1 1) j).toInt ≤ 23) := hw_15
                  refine lv_iload_n (pc := 54) hx hb dX11_sums_54 rfl (lv_at hl 3 rfl) ?_
                  refine lv_iconst (pc := 55) (v := (-1)) hx hb dX11_sums_55 (by decide) ?_
                  refine b_icmp_ne (pc := 56) (tgt := 69) hx hb rfl tI_m1  dX11_sums_56 (by decide) (fun c_16 => absurd c_16 (by first | exact (om_1403 c_8) | ((first | omega | (unfold zBd at *; omega))))) (fun c_16 => ?_)
                  as_aux_lemma =>
                    refine lv_aload_n (pc := 59) hx hb dX11_sums_59 rfl (lv_at hl 0 rfl) ?_
                    refine va_get (pc := 60) (ci := 11) (v := .ref a4) (C := RX11) (T := TX11) (N := 14) hx hb hts iX11 hown hK hP 0 rfl rfl 3 (by decide) (hts _ tw_423) (fun _ h9 => h9) rfl dX11_sums_60 ?_
                    refine va_getN (pc := 63) (ci := 6) (v := .long (u_9.2.2.2.2 0)) (C := RX6) (T := TX6) (N := 4) hx hb hts iX6 hown hK hP 1 rfl rfl 3 (by decide) (va_Nw.use rfl (hN _ tn_298)) (fun _ h9 => h9) rfl dX11_sums_63 ?_
                    refine lv_goto (pc := 66) (tgt := 79) hx hb dX11_sums_66 (by decide) ?_
                    exact hret (u_9.2.2.2.2 0) ((fun _ => 0), (fun k => [(u_9.2.1 0), (u_9.2.1 1), (u_9.2.1 2), (u_9.2.1 3), (u_9.2.1 4)].getD k (fun _ => 0)), (fun k => [(u_9.2.2.1 0), (u_9.2.2.1 1), (u_9.2.2.1 2)].getD k (fun _ => 0)), (fun k => [(u_9.2.2.2.1 0)].getD k 0), (fun k => [(u_9.2.2.2.2 0)].getD k 0)) dX11_sums_79 ⟨(show (0 ≤ ((u_9.2.2.2.1 0) : Int32).toInt ∧ ((u_9.2.2.2.1 0) : Int32).toInt ≤ 4) from hw_13), hw_14, hw_15⟩ (g_psub (wc := (zS_91 cB cC cI cJ a0 a1 a2 a3 a4 a5 a6 a7 a8 a9 a10 x3 a11 a12 a13 a11 a14 a15 a16 x4 x5 x6 x7 x8 x9 x10 a4 a17 a18 a19 (u_9.2.2.2.2 0) a17 a20 a21 a22 a23 a24 a25 a26 (u_9.2.2.2.1 0) a14 a27 a27 f0 a20 (u_9.2.2.1 0) a22 (u_9.2.2.1 1) a21 (u_9.2.2.1 2) a25 (u_9.2.1 0) a26 (u_9.2.1 1) a23 (u_9.2.1 2) a24 (u_9.2.1 3) a18 (u_9.2.1 4))) hP [0, 3, 1, 2, 4, 5, 6, 7, 8, 9, 10, 11, 12, 13] rfl) (hD.sub (ws' := (zS_91 cB cC cI cJ a0 a1 a2 a3 a4 a5 a6 a7 a8 a9 a10 x3 a11 a12 a13 a11 a14 a15 a16 x4 x5 x6 x7 x8 x9 x10 a4 a17 a18 a19 (u_9.2.2.2.2 0) a17 a20 a21 a22 a23 a24 a25 a26 (u_9.2.2.2.1 0) a14 a27 a27 f0 a20 (u_9.2.2.1 0) a22 (u_9.2.2.1 1) a21 (u_9.2.2.1 2) a25 (u_9.2.1 0) a26 (u_9.2.1 1) a23 (u_9.2.1 2) a24 (u_9.2.1 3) a18 (u_9.2.1 4))) [0, 3, 1, 2, 4, 5, 6, 7, 8, 9, 10, 11, 12, 13] (by decide) rfl) hS
              ·
                as_aux_lemma =>
                  refine lv_aload_n (pc := 26) hx hb dX11_sums_26 rfl (lv_at hl 0 rfl) ?_
                  refine va_get (pc := 27) (ci := 11) (v := .ref a11) (C := RX11) (T := TX11) (N := 14) hx hb hts iX11 hown hK hP 0 rfl rfl 11 (by decide) (hts _ tw_431) (fun _ h9 => h9) rfl dX11_sums_27 ?_
                  refine lv_iload_n (pc := 30) hx hb dX11_sums_30 rfl (lv_at hl 3 rfl) ?_
                  refine gd_i (pc := 31) (wc := (zS_5 cB cC cI cJ a11 a14 a15 a16 x4 x5 x6 x7 x8 x9 x10)) hP hD hS hA [1] rfl (by decide +kernel) (fun _ => by rfl) (fun hPc hDc => va_runV (As := [.int x2]) (rest := []) ⟨hx, hb, hml, hown, hts⟩ (k_X1_isSender l D cB cC cI cJ _ a11 a14 a15 a16 x2 x4 x5 x6 x7 x8 x9 x10 h_x4 h_x5 h_x6 h_x7 h_x8) ⟨gcwB hts tw_782 tw_4 tw_779 hd_yX1_isSender ⟨Nat.le_of_ble_eq_true rfl, Nat.le_of_ble_eq_true rfl⟩, hts _ tw_780, hts _ tw_781⟩ ⟨gblind, va_recv hK hPc (ci := 1) (q0 := 0) rfl rfl, (gpreS hPc hK hDc hN).2⟩ rfl rfl hl.1 rfl (lv_room (Nat.le_of_ble_eq_true rfl)) dX11_sums_31 ⟨Nat.le_of_ble_eq_true rfl, Nat.le_of_ble_eq_true rfl⟩) (fun r_18 u_17 H locs hw_19 hP hD hS => ?_)
                  replace hP : va_P D gcl (zS_91 cB cC cI cJ a0 a1 a2 a3 a4 a5 a6 a7 a8 a9 a10 x3 a11 a12 a13 a11 a14 a15 a16 x4 x5 x6 x7 x8 x9 x10 a4 a17 a18 a19 y0 a17 a20 a21 a22 a23 a24 a25 a26 x11 a14 a27 a27 f0 a20 g0 a22 g1 a21 g2 a25 f1 a26 f2 a23 f3 a24 f4 a18 f5) H := hP
                  replace hD : va_D A (zS_91 cB cC cI cJ a0 a1 a2 a3 a4 a5 a6 a7 a8 a9 a10 x3 a11 a12 a13 a11 a14 a15 a16 x4 x5 x6 x7 x8 x9 x10 a4 a17 a18 a19 y0 a17 a20 a21 a22 a23 a24 a25 a26 x11 a14 a27 a27 f0 a20 g0 a22 g1 a21 g2 a25 f1 a26 f2 a23 f3 a24 f4 a18 f5) := hD
                  have hw_20 : ((r_18.toInt = 0 ∧ x2.toInt < 0) ∨ (r_18.toInt = 0 ∧ x2.toInt ≥ 0 ∧ x2.toInt ≥ x5.toInt) ∨ (r_18.toInt = 1 ∧ x2.toInt ≥ 0 ∧ x2.toInt < x5.toInt)) := hw_19
                  have rr_18 : zBd r_18.toInt (-2147483648) 2147483647 := n_rng r_18
                  refine b_if_ne (pc := 34) (tgt := 41) hx hb rfl  dX11_sums_34 (by decide) (fun c_21 => ?_) (fun c_21 => ?_)
                  ·
                    as_aux_lemma =>
                      refine lv_aload_n (pc := 41) hx hb dX11_sums_41 rfl (lv_at hl 0 rfl) ?_
                      refine va_get (pc := 42) (ci := 11) (v := .ref a4) (C := RX11) (T := TX11) (N := 14) hx hb hts iX11 hown hK hP 0 rfl rfl 3 (by decide) (hts _ tw_423) (fun _ h9 => h9) rfl dX11_sums_42 ?_
                      refine lv_aload_n (pc := 45) hx hb dX11_sums_45 rfl (lv_at hl 0 rfl) ?_
                      refine va_get (pc := 46) (ci := 11) (v := .ref a11) (C := RX11) (T := TX11) (N := 14) hx hb hts iX11 hown hK hP 0 rfl rfl 11 (by decide) (hts _ tw_431) (fun _ h9 => h9) rfl dX11_sums_46 ?_
                      refine lv_iload_n (pc := 49) hx hb dX11_sums_49 rfl (lv_at hl 1 rfl) ?_
                      refine lv_iload_n (pc := 50) hx hb dX11_sums_50 rfl (lv_at hl 2 rfl) ?_
                      refine gc_v (pc := 51) (wc := (zS_71 cB cC cI cJ a4 a17 a18 a19 y0 a17 a20 a21 a22 a23 a24 a25 a26 x11 a11 a14 a15 a16 x4 x5 x6 x7 x8 x9 x10 a14 a27 a27 f0 a20 g0 a22 g1 a21 g2 a25 f1 a26 f2 a23 f3 a24 f4 a18 f5)) (wr := (zS_177 cB cC cI cJ a0 a1 a2 a3 a4 a5 a6 a7 a8 a9 a10 x3 a11 a12 a13)) hP hD hS hA [2, 3, 1, 4, 5, 6, 7, 8, 9, 10, 11, 12, 13] [0] rfl rfl (by decide +kernel) (by decide +kernel) (by decide +kernel) (fun hPc hDc => va_runV (As := [.ref a11, .int x0, .int x1]) (rest := []) ⟨hx, hb, hml, hown, hts⟩ (k_X6_findShortest l D cB cC cI cJ _ a4 a11 a17 a18 a19 a20 a21 a22 a23 a24 a25 a26 a14 a15 a16 a27 x0 x1 x11 x4 x5 x6 x7 x8 x9 x10 y0 f0 f1 f2 f3 f4 f5 g0 g1 g2 (by first | exact (om_1402 c_6 c_7) | ((first | omega | (unfold zBd at *; omega)))) h_x11 h_x4 h_x5 h_x6 h_x7 h_x8 hf_f1 hf_f2) ⟨gcwB hts tw_1138 tw_9 tw_1135 hd_yX6_findShortest ⟨Nat.le_of_ble_eq_true rfl, Nat.le_of_ble_eq_true rfl⟩, hts _ tw_1136, hts _ tw_1137⟩ ⟨gblind, va_recv hK hPc (ci := 6) (q0 := 0) rfl rfl, (gpreS hPc hK hDc hN).2⟩ rfl rfl hl.1 rfl (lv_room (Nat.le_of_ble_eq_true rfl)) dX11_sums_51 ⟨Nat.le_of_ble_eq_true rfl, Nat.le_of_ble_eq_true rfl⟩) (fun u_22 H locs hw_24 hP hD hS => ?_)
                      replace hP : va_P D gcl (zS_199 cB cC cI cJ a0 a1 a2 a3 a4 a5 a6 a7 a8 a9 a10 x3 a11 a12 a13 a4 a17 a18 a19 (u_22.2.2.2.2 0) a17 a20 a21 a22 a23 a24 a25 a26 (u_22.2.2.2.1 0) a11 a14 a15 a16 x4 x5 x6 x7 x8 x9 x10 a14 a27 a27 f0 a20 (u_22.2.2.1 0) a22 (u_22.2.2.1 1) a21 (u_22.2.2.1 2) a25 (u_22.2.1 0) a26 (u_22.2.1 1) a23 (u_22.2.1 2) a24 (u_22.2.1 3) a18 (u_22.2.1 4)) H := hP
                      replace hD : va_D A (zS_199 cB cC cI cJ a0 a1 a2 a3 a4 a5 a6 a7 a8 a9 a10 x3 a11 a12 a13 a4 a17 a18 a19 (u_22.2.2.2.2 0) a17 a20 a21 a22 a23 a24 a25 a26 (u_22.2.2.2.1 0) a11 a14 a15 a16 x4 x5 x6 x7 x8 x9 x10 a14 a27 a27 f0 a20 (u_22.2.2.1 0) a22 (u_22.2.2.1 1) a21 (u_22.2.2.1 2) a25 (u_22.2.1 0) a26 (u_22.2.1 1) a23 (u_22.2.1 2) a24 (u_22.2.1 3) a18 (u_22.2.1 4)) := hD
                      have ru_22_0 := n_rngL (u_22.2.2.2.2 0)
                      obtain ⟨hw_25, hw_26, hw_27, hw_28⟩ := hw_24
                      replace hw_25 : ((((-1) ≤ x5.toInt ∧ x5.toInt ≤ 5))) := hw_25
                      replace hw_26 : zBd (u_22.2.2.2.1 0).toInt 0 4 := hw_26
                      replace hw_27 : (∀ j, (-3) ≤ ((u_22.2.1 0) j).toInt ∧ ((u_22.2.1 0) j).toInt ≤ 24) := hw_27
                      replace hw_28 : (∀ j, 0 ≤ ((u_22.2.1 1) j).toInt ∧ ((u_22.2.1 1) j).toInt ≤ 23) := hw_28
                      refine lv_iload_n (pc := 54) hx hb dX11_sums_54 rfl (lv_at hl 3 rfl) ?_
                      refine lv_iconst (pc := 55) (v := (-1)) hx hb dX11_sums_55 (by decide) ?_
                      refine b_icmp_ne (pc := 56) (tgt := 69) hx hb rfl tI_m1  dX11_sums_56 (by decide) (fun c_29 => ?_) (fun c_29 => ?_)
                      ·
                        as_aux_lemma =>
                          refine lv_aload_n (pc := 69) hx hb dX11_sums_69 rfl (lv_at hl 0 rfl) ?_
                          refine va_get (pc := 70) (ci := 11) (v := .ref a4) (C := RX11) (T := TX11) (N := 14) hx hb hts iX11 hown hK hP 0 rfl rfl 3 (by decide) (hts _ tw_423) (fun _ h9 => h9) rfl dX11_sums_70 ?_
                          refine va_getN (pc := 73) (ci := 6) (v := .ref a18) (C := RX6) (T := TX6) (N := 4) hx hb hts iX6 hown hK hP 1 rfl rfl 1 (by decide) (va_Nw.use rfl (hN _ tn_295)) (fun _ h9 => h9) rfl dX11_sums_73 ?_
                          refine lv_iload_n (pc := 76) hx hb dX11_sums_76 rfl (lv_at hl 3 rfl) ?_
                          refine va_iald (pc := 77) hx hb hK hP 13 2 rfl rfl (n_in rfl (by (first | omega | (unfold zBd at *; omega))) (by (first | omega | (unfold zBd at *; omega)))) dX11_sums_77 ?_
                          refine lv_topi (fun x_30 ex_30 => ?_)
                          have rx_30 : zBd x_30.toInt (-2147483648) 2147483647 := n_rng x_30
                          refine b_i2l (pc := 78) hx hb rfl dX11_sums_78 (fun y_31 ey_31 => ?_)
                          have ry_31 : zBd x_30.toInt (-2147483648) 2147483647 := n_rng x_30
                          exact hret y_31 ((fun _ => 0), (fun k => [(u_22.2.1 0), (u_22.2.1 1), (u_22.2.1 2), (u_22.2.1 3), (u_22.2.1 4)].getD k (fun _ => 0)), (fun k => [(u_22.2.2.1 0), (u_22.2.2.1 1), (u_22.2.2.1 2)].getD k (fun _ => 0)), (fun k => [(u_22.2.2.2.1 0)].getD k 0), (fun k => [(u_22.2.2.2.2 0)].getD k 0)) dX11_sums_79 ⟨(show (0 ≤ ((u_22.2.2.2.1 0) : Int32).toInt ∧ ((u_22.2.2.2.1 0) : Int32).toInt ≤ 4) from hw_26), hw_27, hw_28⟩ (g_psub (wc := (zS_91 cB cC cI cJ a0 a1 a2 a3 a4 a5 a6 a7 a8 a9 a10 x3 a11 a12 a13 a11 a14 a15 a16 x4 x5 x6 x7 x8 x9 x10 a4 a17 a18 a19 (u_22.2.2.2.2 0) a17 a20 a21 a22 a23 a24 a25 a26 (u_22.2.2.2.1 0) a14 a27 a27 f0 a20 (u_22.2.2.1 0) a22 (u_22.2.2.1 1) a21 (u_22.2.2.1 2) a25 (u_22.2.1 0) a26 (u_22.2.1 1) a23 (u_22.2.1 2) a24 (u_22.2.1 3) a18 (u_22.2.1 4))) hP [0, 3, 1, 2, 4, 5, 6, 7, 8, 9, 10, 11, 12, 13] rfl) (hD.sub (ws' := (zS_91 cB cC cI cJ a0 a1 a2 a3 a4 a5 a6 a7 a8 a9 a10 x3 a11 a12 a13 a11 a14 a15 a16 x4 x5 x6 x7 x8 x9 x10 a4 a17 a18 a19 (u_22.2.2.2.2 0) a17 a20 a21 a22 a23 a24 a25 a26 (u_22.2.2.2.1 0) a14 a27 a27 f0 a20 (u_22.2.2.1 0) a22 (u_22.2.2.1 1) a21 (u_22.2.2.1 2) a25 (u_22.2.1 0) a26 (u_22.2.1 1) a23 (u_22.2.1 2) a24 (u_22.2.1 3) a18 (u_22.2.1 4))) [0, 3, 1, 2, 4, 5, 6, 7, 8, 9, 10, 11, 12, 13] (by decide) rfl) hS
                      ·
                        as_aux_lemma =>
                          refine lv_aload_n (pc := 59) hx hb dX11_sums_59 rfl (lv_at hl 0 rfl) ?_
                          refine va_get (pc := 60) (ci := 11) (v := .ref a4) (C := RX11) (T := TX11) (N := 14) hx hb hts iX11 hown hK hP 0 rfl rfl 3 (by decide) (hts _ tw_423) (fun _ h9 => h9) rfl dX11_sums_60 ?_
                          refine va_getN (pc := 63) (ci := 6) (v := .long (u_22.2.2.2.2 0)) (C := RX6) (T := TX6) (N := 4) hx hb hts iX6 hown hK hP 1 rfl rfl 3 (by decide) (va_Nw.use rfl (hN _ tn_298)) (fun _ h9 => h9) rfl dX11_sums_63 ?_
                          refine lv_goto (pc := 66) (tgt := 79) hx hb dX11_sums_66 (by decide) ?_
                          exact hret (u_22.2.2.2.2 0) ((fun _ => 0), (fun k => [(u_22.2.1 0), (u_22.2.1 1), (u_22.2.1 2), (u_22.2.1 3), (u_22.2.1 4)].getD k (fun _ => 0)), (fun k => [(u_22.2.2.1 0), (u_22.2.2.1 1), (u_22.2.2.1 2)].getD k (fun _ => 0)), (fun k => [(u_22.2.2.2.1 0)].getD k 0), (fun k => [(u_22.2.2.2.2 0)].getD k 0)) dX11_sums_79 ⟨(show (0 ≤ ((u_22.2.2.2.1 0) : Int32).toInt ∧ ((u_22.2.2.2.1 0) : Int32).toInt ≤ 4) from hw_26), hw_27, hw_28⟩ (g_psub (wc := (zS_91 cB cC cI cJ a0 a1 a2 a3 a4 a5 a6 a7 a8 a9 a10 x3 a11 a12 a13 a11 a14 a15 a16 x4 x5 x6 x7 x8 x9 x10 a4 a17 a18 a19 (u_22.2.2.2.2 0) a17 a20 a21 a22 a23 a24 a25 a26 (u_22.2.2.2.1 0) a14 a27 a27 f0 a20 (u_22.2.2.1 0) a22 (u_22.2.2.1 1) a21 (u_22.2.2.1 2) a25 (u_22.2.1 0) a26 (u_22.2.1 1) a23 (u_22.2.1 2) a24 (u_22.2.1 3) a18 (u_22.2.1 4))) hP [0, 3, 1, 2, 4, 5, 6, 7, 8, 9, 10, 11, 12, 13] rfl) (hD.sub (ws' := (zS_91 cB cC cI cJ a0 a1 a2 a3 a4 a5 a6 a7 a8 a9 a10 x3 a11 a12 a13 a11 a14 a15 a16 x4 x5 x6 x7 x8 x9 x10 a4 a17 a18 a19 (u_22.2.2.2.2 0) a17 a20 a21 a22 a23 a24 a25 a26 (u_22.2.2.2.1 0) a14 a27 a27 f0 a20 (u_22.2.2.1 0) a22 (u_22.2.2.1 1) a21 (u_22.2.2.1 2) a25 (u_22.2.1 0) a26 (u_22.2.1 1) a23 (u_22.2.1 2) a24 (u_22.2.1 3) a18 (u_22.2.1 4))) [0, 3, 1, 2, 4, 5, 6, 7, 8, 9, 10, 11, 12, 13] (by decide) rfl) hS
                  ·
                    as_aux_lemma =>
                      refine lv_ldc2 (pc := 37) hx hb hown (hts _ tw_1091) dX11_sums_37 ?_
                      exact hret (-1000000000) ((fun _ => 0), (fun k => [f1, f2, f3, f4, f5].getD k (fun _ => 0)), (fun k => [g0, g1, g2].getD k (fun _ => 0)), (fun k => [x11].getD k 0), (fun k => [y0].getD k 0)) dX11_sums_40 ⟨(show (0 ≤ (x11 : Int32).toInt ∧ (x11 : Int32).toInt ≤ 4) from h_x11), hf_f1, hf_f2⟩ (g_psub (wc := (zS_91 cB cC cI cJ a0 a1 a2 a3 a4 a5 a6 a7 a8 a9 a10 x3 a11 a12 a13 a11 a14 a15 a16 x4 x5 x6 x7 x8 x9 x10 a4 a17 a18 a19 y0 a17 a20 a21 a22 a23 a24 a25 a26 x11 a14 a27 a27 f0 a20 g0 a22 g1 a21 g2 a25 f1 a26 f2 a23 f3 a24 f4 a18 f5)) hP [0, 1, 2, 3, 4, 5, 6, 7, 8, 9, 10, 11, 12, 13] rfl) (hD.sub (ws' := (zS_91 cB cC cI cJ a0 a1 a2 a3 a4 a5 a6 a7 a8 a9 a10 x3 a11 a12 a13 a11 a14 a15 a16 x4 x5 x6 x7 x8 x9 x10 a4 a17 a18 a19 y0 a17 a20 a21 a22 a23 a24 a25 a26 x11 a14 a27 a27 f0 a20 g0 a22 g1 a21 g2 a25 f1 a26 f2 a23 f3 a24 f4 a18 f5)) [0, 1, 2, 3, 4, 5, 6, 7, 8, 9, 10, 11, 12, 13] (by decide) rfl) hS
theorem om_1404 {a b : Int} (h0 : (a = (-1))) : (((a = (-1) ∧ b = b) ∨ (((-9223372036854775808) ≤ a ∧ a ≤ 9223372036854775807)))) := by omega
theorem om_1405 {a b : Int} (h0 : ((b = 0 ∧ a ≤ 0) ∨ (b = 0 ∧ a > 0 ∧ (1 ≤ a ∧ a ≤ 2147483647)) ∨ (b = 1 ∧ a > 0 ∧ (1 ≤ a ∧ a ≤ 31)))) (h1 : (¬ b = 0)) : ((0 ≤ a ∧ a ≤ 31)) := by omega
theorem om_1406 {a b c : Int} (h0 : ((-9223372036854775808) ≤ a)) (h1 : (a ≤ 9223372036854775807)) : (((a = (-1) ∧ b = c) ∨ (((-9223372036854775808) ≤ a ∧ a ≤ 9223372036854775807)))) := by omega
set_option maxHeartbeats 4000000 in
set_option maxRecDepth 100000 in
theorem k_X11_apart (l : Launch) (D : va_G) (cB cC cI cJ : ClassId) (sz : Nat) (a0 a1 a2 a3 a4 a5 a6 a7 a8 a9 a10 a11 a12 a13 a14 a15 a16 a17 a18 a19 a20 a21 a22 a23 a24 a25 a26 a27 : Nat) (x0 x1 x2 x3 x4 x5 x6 x7 x8 x9 : Int32) (y0 : Int64) (f0 f1 f2 f3 f4 f5 : Nat → Int32) (g0 g1 g2 g3 : Nat → Int64) (h_x1 : zBd x1.toInt 0 14) (h_x2 : zBd x2.toInt (-1) 8) (h_x3 : zBd x3.toInt (-1) 5) (h_x4 : zBd x4.toInt (-1) 6) (h_x5 : zBd x5.toInt 0 6) (h_x6 : zBd x6.toInt 0 16) (h_x9 : zBd x9.toInt 0 4) (hf_f1 : (∀ j, (-3) ≤ (f1 j).toInt ∧ (f1 j).toInt ≤ 24)) (hf_f2 : (∀ j, 0 ≤ (f2 j).toInt ∧ (f2 j).toInt ≤ 23)) : Met l yX11_apart (.code yX11_apart cX11_apart 2 (some .long) :: lw_gd) ({ frames := 5, cells := 0, slots := 0, locals := 126 }) (gPre D [(cB, .byte), (cC, .char), (cI, .int), (cJ, .long)] [.ref a0, .int x0] (zS_163 cB cC cI cJ a0 a1 a2 a3 a4 a5 a6 a7 a8 a9 a10 x1 a11 a12 a13 a11 a14 a15 a16 x2 x3 x4 x5 x6 x7 x8 a4 a17 a18 a19 y0 a19 g0 a17 a20 a21 a22 a23 a24 a25 a26 x9 a14 a27 a27 f0 a20 g1 a22 g2 a21 g3 a25 f1 a26 f2 a23 f3 a24 f4 a18 f5) sz) (va_Ql (fun r u => ((r.toInt = (-1) ∧ (u.2.2.2.1 0).toInt = x9.toInt) ∨ (((-9223372036854775808) ≤ r.toInt ∧ r.toInt ≤ 9223372036854775807))) ∧ (0 ≤ (u.2.2.2.1 0).toInt ∧ (u.2.2.2.1 0).toInt ≤ 4) ∧ (∀ j, (-3) ≤ ((u.2.1 0) j).toInt ∧ ((u.2.1 0) j).toInt ≤ 24) ∧ (∀ j, 0 ≤ ((u.2.1 1) j).toInt ∧ ((u.2.1 1) j).toInt ≤ 23)) (gB D (va_A (zS_163 cB cC cI cJ a0 a1 a2 a3 a4 a5 a6 a7 a8 a9 a10 x1 a11 a12 a13 a11 a14 a15 a16 x2 x3 x4 x5 x6 x7 x8 a4 a17 a18 a19 y0 a19 g0 a17 a20 a21 a22 a23 a24 a25 a26 x9 a14 a27 a27 f0 a20 g1 a22 g2 a21 g3 a25 f1 a26 f2 a23 f3 a24 f4 a18 f5) sz) (fun u : gEx => (zS_163 cB cC cI cJ a0 a1 a2 a3 a4 a5 a6 a7 a8 a9 a10 x1 a11 a12 a13 a11 a14 a15 a16 x2 x3 x4 x5 x6 x7 x8 a4 a17 a18 a19 (u.2.2.2.2 0) a19 (u.2.2.1 0) a17 a20 a21 a22 a23 a24 a25 a26 (u.2.2.2.1 0) a14 a27 a27 f0 a20 (u.2.2.1 1) a22 (u.2.2.1 2) a21 (u.2.2.1 3) a25 (u.2.1 0) a26 (u.2.1 1) a23 (u.2.1 2) a24 (u.2.1 3) a18 (u.2.1 4)))) (va_A (zS_163 cB cC cI cJ a0 a1 a2 a3 a4 a5 a6 a7 a8 a9 a10 x1 a11 a12 a13 a11 a14 a15 a16 x2 x3 x4 x5 x6 x7 x8 a4 a17 a18 a19 y0 a19 g0 a17 a20 a21 a22 a23 a24 a25 a26 x9 a14 a27 a27 f0 a20 g1 a22 g2 a21 g3 a25 f1 a26 f2 a23 f3 a24 f4 a18 f5) sz)) 0 0 (va_A (zS_163 cB cC cI cJ a0 a1 a2 a3 a4 a5 a6 a7 a8 a9 a10 x1 a11 a12 a13 a11 a14 a15 a16 x2 x3 x4 x5 x6 x7 x8 a4 a17 a18 a19 y0 a19 g0 a17 a20 a21 a22 a23 a24 a25 a26 x9 a14 a27 a27 f0 a20 g1 a22 g2 a21 g3 a25 f1 a26 f2 a23 f3 a24 f4 a18 f5) sz) := by
  refine gOf_l (by decide +kernel) (Nat.le_of_ble_eq_true rfl) ?_
  intro p e s m args below meth c ls A Q hx hb hts hown hml hN hK hP hD hA hl hret
  replace hown : s.vm.findClass RX11 = some m.cls := hown
  have hS : va_S A s.heap s.heap [] := va_S.rf
  replace hP : va_P D gcl (zS_163 cB cC cI cJ a0 a1 a2 a3 a4 a5 a6 a7 a8 a9 a10 x1 a11 a12 a13 a11 a14 a15 a16 x2 x3 x4 x5 x6 x7 x8 a4 a17 a18 a19 y0 a19 g0 a17 a20 a21 a22 a23 a24 a25 a26 x9 a14 a27 a27 f0 a20 g1 a22 g2 a21 g3 a25 f1 a26 f2 a23 f3 a24 f4 a18 f5) s.heap := hP
  replace hl : lv_has ls 2 [(0, .ref a0), (1, .int x0)] := hl
  have rx0 : zBd x0.toInt (-2147483648) 2147483647 := n_rng x0
  have rx7 : zBd x7.toInt (-2147483648) 2147483647 := n_rng x7
  have rx8 : zBd x8.toInt (-2147483648) 2147483647 := n_rng x8
  have ry0 := n_rngL y0
  refine lv_aload_n (pc := 0) hx hb dX11_apart_0 rfl (lv_at hl 0 rfl) ?_
  refine va_get (pc := 1) (ci := 11) (v := .ref a11) (C := RX11) (T := TX11) (N := 14) hx hb hts iX11 hown hK hP 0 rfl rfl 11 (by decide) (hts _ tw_431) (fun _ h9 => h9) rfl dX11_apart_1 ?_
  refine lv_iload_n (pc := 4) hx hb dX11_apart_4 rfl (lv_at hl 1 rfl) ?_
  refine gd_i (pc := 5) (wc := (zS_5 cB cC cI cJ a11 a14 a15 a16 x2 x3 x4 x5 x6 x7 x8)) hP hD hS hA [1] rfl (by decide +kernel) (fun _ => by rfl) (fun hPc hDc => va_runV (As := [.int x0]) (rest := []) ⟨hx, hb, hml, hown, hts⟩ (k_X1_isSenderSet l D cB cC cI cJ _ a11 a14 a15 a16 x0 x2 x3 x4 x5 x6 x7 x8 h_x2 h_x3 h_x4 h_x5 h_x6) ⟨gcwB hts tw_1134 tw_4 tw_1131 hd_yX1_isSenderSet ⟨Nat.le_of_ble_eq_true rfl, Nat.le_of_ble_eq_true rfl⟩, hts _ tw_1132, hts _ tw_1133⟩ ⟨gblind, va_recv hK hPc (ci := 1) (q0 := 0) rfl rfl, (gpreS hPc hK hDc hN).2⟩ rfl rfl hl.1 rfl (lv_room (Nat.le_of_ble_eq_true rfl)) dX11_apart_5 ⟨Nat.le_of_ble_eq_true rfl, Nat.le_of_ble_eq_true rfl⟩) (fun r_2 u_1 H locs hw_3 hP hD hS => ?_)
  replace hP : va_P D gcl (zS_163 cB cC cI cJ a0 a1 a2 a3 a4 a5 a6 a7 a8 a9 a10 x1 a11 a12 a13 a11 a14 a15 a16 x2 x3 x4 x5 x6 x7 x8 a4 a17 a18 a19 y0 a19 g0 a17 a20 a21 a22 a23 a24 a25 a26 x9 a14 a27 a27 f0 a20 g1 a22 g2 a21 g3 a25 f1 a26 f2 a23 f3 a24 f4 a18 f5) H := hP
  replace hD : va_D A (zS_163 cB cC cI cJ a0 a1 a2 a3 a4 a5 a6 a7 a8 a9 a10 x1 a11 a12 a13 a11 a14 a15 a16 x2 x3 x4 x5 x6 x7 x8 a4 a17 a18 a19 y0 a19 g0 a17 a20 a21 a22 a23 a24 a25 a26 x9 a14 a27 a27 f0 a20 g1 a22 g2 a21 g3 a25 f1 a26 f2 a23 f3 a24 f4 a18 f5) := hD
  have hw_4 : ((r_2.toInt = 0 ∧ x0.toInt ≤ 0) ∨ (r_2.toInt = 0 ∧ x0.toInt > 0 ∧ (1 ≤ x0.toInt ∧ x0.toInt ≤ 2147483647)) ∨ (r_2.toInt = 1 ∧ x0.toInt > 0 ∧ (1 ≤ x0.toInt ∧ x0.toInt ≤ 31))) := hw_3
  have rr_2 : zBd r_2.toInt (-2147483648) 2147483647 := n_rng r_2
  refine b_if_eq (pc := 8) (tgt := 26) hx hb rfl  dX11_apart_8 (by decide) (fun c_5 => ?_) (fun c_5 => ?_)
  ·
    as_aux_lemma =>
      refine lv_ldc2 (pc := 26) hx hb hown (hts _ tw_844) dX11_apart_26 ?_
      exact hret (-1) ((fun _ => 0), (fun k => [f1, f2, f3, f4, f5].getD k (fun _ => 0)), (fun k => [g0, g1, g2, g3].getD k (fun _ => 0)), (fun k => [x9].getD k 0), (fun k => [y0].getD k 0)) dX11_apart_29 ⟨(show ((((-1) : Int64).toInt = (-1) ∧ (x9 : Int32).toInt = x9.toInt) ∨ (((-9223372036854775808) ≤ ((-1) : Int64).toInt ∧ ((-1) : Int64).toInt ≤ 9223372036854775807))) from (by first | exact (om_1404 tL_m1) | (have k9 := tL_m1; (first | omega | (unfold zBd at *; omega))))), (show (0 ≤ (x9 : Int32).toInt ∧ (x9 : Int32).toInt ≤ 4) from h_x9), hf_f1, hf_f2⟩ (g_psub (wc := (zS_163 cB cC cI cJ a0 a1 a2 a3 a4 a5 a6 a7 a8 a9 a10 x1 a11 a12 a13 a11 a14 a15 a16 x2 x3 x4 x5 x6 x7 x8 a4 a17 a18 a19 y0 a19 g0 a17 a20 a21 a22 a23 a24 a25 a26 x9 a14 a27 a27 f0 a20 g1 a22 g2 a21 g3 a25 f1 a26 f2 a23 f3 a24 f4 a18 f5)) hP [0, 1, 2, 3, 4, 5, 6, 7, 8, 9, 10, 11, 12, 13, 14] rfl) (hD.sub (ws' := (zS_163 cB cC cI cJ a0 a1 a2 a3 a4 a5 a6 a7 a8 a9 a10 x1 a11 a12 a13 a11 a14 a15 a16 x2 x3 x4 x5 x6 x7 x8 a4 a17 a18 a19 y0 a19 g0 a17 a20 a21 a22 a23 a24 a25 a26 x9 a14 a27 a27 f0 a20 g1 a22 g2 a21 g3 a25 f1 a26 f2 a23 f3 a24 f4 a18 f5)) [0, 1, 2, 3, 4, 5, 6, 7, 8, 9, 10, 11, 12, 13, 14] (by decide) rfl) hS
  ·
    as_aux_lemma =>
      refine lv_aload_n (pc := 11) hx hb dX11_apart_11 rfl (lv_at hl 0 rfl) ?_
      refine va_get (pc := 12) (ci := 11) (v := .ref a4) (C := RX11) (T := TX11) (N := 14) hx hb hts iX11 hown hK hP 0 rfl rfl 3 (by decide) (hts _ tw_423) (fun _ h9 => h9) rfl dX11_apart_12 ?_
      refine lv_aload_n (pc := 15) hx hb dX11_apart_15 rfl (lv_at hl 0 rfl) ?_
      refine va_get (pc := 16) (ci := 11) (v := .ref a11) (C := RX11) (T := TX11) (N := 14) hx hb hts iX11 hown hK hP 0 rfl rfl 11 (by decide) (hts _ tw_431) (fun _ h9 => h9) rfl dX11_apart_16 ?_
      refine lv_iload_n (pc := 19) hx hb dX11_apart_19 rfl (lv_at hl 1 rfl) ?_
      refine gc_l (pc := 20) (wc := (zS_158 cB cC cI cJ a4 a17 a18 a19 y0 a19 g0 a11 a14 a15 a16 x2 x3 x4 x5 x6 x7 x8 a17 a20 a21 a22 a23 a24 a25 a26 x9 a14 a27 a27 f0 a20 g1 a22 g2 a21 g3 a25 f1 a26 f2 a23 f3 a24 f4 a18 f5)) (wr := (zS_177 cB cC cI cJ a0 a1 a2 a3 a4 a5 a6 a7 a8 a9 a10 x1 a11 a12 a13)) hP hD hS hA [2, 3, 1, 4, 5, 6, 7, 8, 9, 10, 11, 12, 13, 14] [0] rfl rfl (by decide +kernel) (by decide +kernel) (by decide +kernel) (fun hPc hDc => va_runV (As := [.ref a11, .int x0]) (rest := []) ⟨hx, hb, hml, hown, hts⟩ (k_X6_apartOf l D cB cC cI cJ _ a4 a11 a17 a18 a19 a14 a15 a16 a20 a21 a22 a23 a24 a25 a26 a27 x0 x2 x3 x4 x5 x6 x7 x8 x9 y0 f0 f1 f2 f3 f4 f5 g0 g1 g2 g3 (by first | exact (om_1405 hw_4 c_5) | ((first | omega | (unfold zBd at *; omega)))) h_x2 h_x3 h_x4 h_x5 h_x6 h_x9 hf_f1 hf_f2) ⟨gcwB hts tw_1167 tw_9 tw_1164 hd_yX6_apartOf ⟨Nat.le_of_ble_eq_true rfl, Nat.le_of_ble_eq_true rfl⟩, hts _ tw_1165, hts _ tw_1166⟩ ⟨gblind, va_recv hK hPc (ci := 6) (q0 := 0) rfl rfl, (gpreS hPc hK hDc hN).2⟩ rfl rfl hl.1 rfl (lv_room (Nat.le_of_ble_eq_true rfl)) dX11_apart_20 ⟨Nat.le_of_ble_eq_true rfl, Nat.le_of_ble_eq_true rfl⟩) (fun r_7 u_6 H locs hw_8 hP hD hS => ?_)
      replace hP : va_P D gcl [(a0, .inr (11, [.ref a1, .ref a2, .ref a3, .ref a4, .ref a5, .ref a6, .ref a7, .ref a8, .ref a9, .ref a10, .int x1, .ref a11, .ref a12, .ref a13])), (a4, .inr (6, [.ref a17, .ref a18, .ref a19, .long (u_6.2.2.2.2 0)])), (a19, .inl (cJ, 32, .inr (.inl (u_6.2.2.1 0)))), (a11, .inr (1, [.ref a14, .ref a15, .ref a16, .int x2, .int x3, .int x4, .int x5, .int x6, .int x7, .int x8])), (a17, .inr (10, [.ref a20, .ref a21, .ref a22, .ref a23, .ref a24, .ref a25, .ref a26, .int (u_6.2.2.2.1 0)])), (a14, .inr (8, [.ref a27])), (a27, .inl (cI, 30, .inl f0)), (a20, .inl (cJ, 25, .inr (.inl (u_6.2.2.1 1)))), (a22, .inl (cJ, 25, .inr (.inl (u_6.2.2.1 2)))), (a21, .inl (cJ, 5, .inr (.inl (u_6.2.2.1 3)))), (a25, .inl (cI, 5, .inl (u_6.2.1 0))), (a26, .inl (cI, 5, .inl (u_6.2.1 1))), (a23, .inl (cI, 5, .inl (u_6.2.1 2))), (a24, .inl (cI, 5, .inl (u_6.2.1 3))), (a18, .inl (cI, 5, .inl (u_6.2.1 4)))] H := hP
      replace hD : va_D A [(a0, .inr (11, [.ref a1, .ref a2, .ref a3, .ref a4, .ref a5, .ref a6, .ref a7, .ref a8, .ref a9, .ref a10, .int x1, .ref a11, .ref a12, .ref a13])), (a4, .inr (6, [.ref a17, .ref a18, .ref a19, .long (u_6.2.2.2.2 0)])), (a19, .inl (cJ, 32, .inr (.inl (u_6.2.2.1 0)))), (a11, .inr (1, [.ref a14, .ref a15, .ref a16, .int x2, .int x3, .int x4, .int x5, .int x6, .int x7, .int x8])), (a17, .inr (10, [.ref a20, .ref a21, .ref a22, .ref a23, .ref a24, .ref a25, .ref a26, .int (u_6.2.2.2.1 0)])), (a14, .inr (8, [.ref a27])), (a27, .inl (cI, 30, .inl f0)), (a20, .inl (cJ, 25, .inr (.inl (u_6.2.2.1 1)))), (a22, .inl (cJ, 25, .inr (.inl (u_6.2.2.1 2)))), (a21, .inl (cJ, 5, .inr (.inl (u_6.2.2.1 3)))), (a25, .inl (cI, 5, .inl (u_6.2.1 0))), (a26, .inl (cI, 5, .inl (u_6.2.1 1))), (a23, .inl (cI, 5, .inl (u_6.2.1 2))), (a24, .inl (cI, 5, .inl (u_6.2.1 3))), (a18, .inl (cI, 5, .inl (u_6.2.1 4)))] := hD
      have ru_6_0 := n_rngL (u_6.2.2.2.2 0)
      obtain ⟨hw_9, hw_10, hw_11, hw_12⟩ := hw_8
      replace hw_9 : (((0 ≤ r_7.toInt ∧ r_7.toInt ≤ 9223372036854775807) ∧ (u_6.2.2.2.1 0).toInt = x9.toInt) ∨ (((-9223372036854775808) ≤ r_7.toInt ∧ r_7.toInt ≤ 9223372036854775807))) := hw_9
      replace hw_10 : zBd (u_6.2.2.2.1 0).toInt 0 4 := hw_10
      replace hw_11 : (∀ j, (-3) ≤ ((u_6.2.1 0) j).toInt ∧ ((u_6.2.1 0) j).toInt ≤ 24) := hw_11
      replace hw_12 : (∀ j, 0 ≤ ((u_6.2.1 1) j).toInt ∧ ((u_6.2.1 1) j).toInt ≤ 23) := hw_12
      have rr_7 := n_rngL r_7
      refine lv_goto (pc := 23) (tgt := 29) hx hb dX11_apart_23 (by decide) ?_
      exact hret r_7 ((fun _ => 0), (fun k => [(u_6.2.1 0), (u_6.2.1 1), (u_6.2.1 2), (u_6.2.1 3), (u_6.2.1 4)].getD k (fun _ => 0)), (fun k => [(u_6.2.2.1 0), (u_6.2.2.1 1), (u_6.2.2.1 2), (u_6.2.2.1 3)].getD k (fun _ => 0)), (fun k => [(u_6.2.2.2.1 0)].getD k 0), (fun k => [(u_6.2.2.2.2 0)].getD k 0)) dX11_apart_29 ⟨(show ((r_7.toInt = (-1) ∧ ((u_6.2.2.2.1 0) : Int32).toInt = x9.toInt) ∨ (((-9223372036854775808) ≤ r_7.toInt ∧ r_7.toInt ≤ 9223372036854775807))) from (by first | exact (om_1406 rr_7.1 rr_7.2) | ((first | omega | (unfold zBd at *; omega))))), (show (0 ≤ ((u_6.2.2.2.1 0) : Int32).toInt ∧ ((u_6.2.2.2.1 0) : Int32).toInt ≤ 4) from hw_10), hw_11, hw_12⟩ (g_psub (wc := (zS_163 cB cC cI cJ a0 a1 a2 a3 a4 a5 a6 a7 a8 a9 a10 x1 a11 a12 a13 a11 a14 a15 a16 x2 x3 x4 x5 x6 x7 x8 a4 a17 a18 a19 (u_6.2.2.2.2 0) a19 (u_6.2.2.1 0) a17 a20 a21 a22 a23 a24 a25 a26 (u_6.2.2.2.1 0) a14 a27 a27 f0 a20 (u_6.2.2.1 1) a22 (u_6.2.2.1 2) a21 (u_6.2.2.1 3) a25 (u_6.2.1 0) a26 (u_6.2.1 1) a23 (u_6.2.1 2) a24 (u_6.2.1 3) a18 (u_6.2.1 4))) hP [0, 3, 1, 2, 4, 5, 6, 7, 8, 9, 10, 11, 12, 13, 14] rfl) (hD.sub (ws' := (zS_163 cB cC cI cJ a0 a1 a2 a3 a4 a5 a6 a7 a8 a9 a10 x1 a11 a12 a13 a11 a14 a15 a16 x2 x3 x4 x5 x6 x7 x8 a4 a17 a18 a19 (u_6.2.2.2.2 0) a19 (u_6.2.2.1 0) a17 a20 a21 a22 a23 a24 a25 a26 (u_6.2.2.2.1 0) a14 a27 a27 f0 a20 (u_6.2.2.1 1) a22 (u_6.2.2.1 2) a21 (u_6.2.2.1 3) a25 (u_6.2.1 0) a26 (u_6.2.1 1) a23 (u_6.2.1 2) a24 (u_6.2.1 3) a18 (u_6.2.1 4))) [0, 3, 1, 2, 4, 5, 6, 7, 8, 9, 10, 11, 12, 13, 14] (by decide) rfl) hS
theorem om_1407 {a b c d e : Int} (h0 : ((e = 0 ∧ a < 0) ∨ (e = 0 ∧ a ≥ 0 ∧ a ≥ b) ∨ (e = 1 ∧ a ≥ 0 ∧ a < b))) (h1 : (e = 0)) : (¬ (0 ≤ a ∧ a < b ∧ 0 ≤ c ∧ c < d)) := by omega
theorem om_1408 {a b c d e : Int} (h0 : ((e = 0 ∧ c < 0) ∨ (e = 0 ∧ c ≥ 0 ∧ c ≥ d) ∨ (e = 1 ∧ c ≥ 0 ∧ c < d))) (h1 : (e = 0)) : (¬ (0 ≤ a ∧ a < b ∧ 0 ≤ c ∧ c < d)) := by omega
theorem om_1409 {a b c : Int} (h0 : ((b = 0 ∧ a < 0) ∨ (b = 0 ∧ a ≥ 0 ∧ a ≥ c) ∨ (b = 1 ∧ a ≥ 0 ∧ a < c))) (h1 : (¬ b = 0)) (h2 : (c ≤ 16)) : ((0 ≤ a ∧ a ≤ 15)) := by omega
theorem om_1410 {a : Int} (h0 : ((-7) ≤ a)) (h1 : (a ≤ 7)) : (((-1000000000) ≤ a ∧ a ≤ 7)) := by omega
theorem om_1411 {a b c d e f : Int} (h0 : ((e = 0 ∧ a < 0) ∨ (e = 0 ∧ a ≥ 0 ∧ a ≥ b) ∨ (e = 1 ∧ a ≥ 0 ∧ a < b))) (h1 : (¬ e = 0)) (h2 : ((f = 0 ∧ c < 0) ∨ (f = 0 ∧ c ≥ 0 ∧ c ≥ d) ∨ (f = 1 ∧ c ≥ 0 ∧ c < d))) (h3 : (¬ f = 0)) : (0 ≤ a ∧ a < b ∧ 0 ≤ c ∧ c < d) := by omega
set_option maxHeartbeats 4000000 in
set_option maxRecDepth 100000 in
theorem k_X11_word (l : Launch) (D : va_G) (cB cC cI cJ : ClassId) (sz : Nat) (a0 a1 a2 a3 a4 a5 a6 a7 a8 a9 a10 a11 a12 a13 a14 a15 a16 : Nat) (x0 x1 x2 x3 x4 x5 x6 x7 x8 x9 : Int32) (f0 : Nat → Int32) (h_x2 : zBd x2.toInt 0 14) (h_x3 : zBd x3.toInt (-1) 8) (h_x4 : zBd x4.toInt (-1) 5) (h_x5 : zBd x5.toInt (-1) 6) (h_x6 : zBd x6.toInt 0 6) (h_x7 : zBd x7.toInt 0 16) (hf_f0 : (∀ j, (-7) ≤ (f0 j).toInt ∧ (f0 j).toInt ≤ 7)) : Met l yX11_word (.code yX11_word cX11_word 3 (some .int) :: lw_gd) ({ frames := 1, cells := 0, slots := 0, locals := 22 }) (gPre D [(cB, .byte), (cC, .char), (cI, .int), (cJ, .long)] [.ref a0, .int x0, .int x1] (zS_44 cB cC cI cJ a0 a1 a2 a3 a4 a5 a6 a7 a8 a9 a10 x2 a11 a12 a13 a11 a14 a15 a16 x3 x4 x5 x6 x7 x8 x9 a16 f0) sz) (va_Qi (fun r u => ((-1000000000) ≤ r.toInt ∧ r.toInt ≤ 7) ∧ (woQ r.toInt x0.toInt x1.toInt x7.toInt x4.toInt f0)) (gB D (va_A (zS_44 cB cC cI cJ a0 a1 a2 a3 a4 a5 a6 a7 a8 a9 a10 x2 a11 a12 a13 a11 a14 a15 a16 x3 x4 x5 x6 x7 x8 x9 a16 f0) sz) (fun u : gEx => (zS_44 cB cC cI cJ a0 a1 a2 a3 a4 a5 a6 a7 a8 a9 a10 x2 a11 a12 a13 a11 a14 a15 a16 x3 x4 x5 x6 x7 x8 x9 a16 f0))) (va_A (zS_44 cB cC cI cJ a0 a1 a2 a3 a4 a5 a6 a7 a8 a9 a10 x2 a11 a12 a13 a11 a14 a15 a16 x3 x4 x5 x6 x7 x8 x9 a16 f0) sz)) 0 0 (va_A (zS_44 cB cC cI cJ a0 a1 a2 a3 a4 a5 a6 a7 a8 a9 a10 x2 a11 a12 a13 a11 a14 a15 a16 x3 x4 x5 x6 x7 x8 x9 a16 f0) sz) := by
  refine gOf_i (by decide +kernel) (Nat.le_of_ble_eq_true rfl) ?_
  intro p e s m args below meth c ls A Q hx hb hts hown hml hN hK hP hD hA hl hret
  replace hown : s.vm.findClass RX11 = some m.cls := hown
  have hS : va_S A s.heap s.heap [] := va_S.rf
  replace hP : va_P D gcl (zS_44 cB cC cI cJ a0 a1 a2 a3 a4 a5 a6 a7 a8 a9 a10 x2 a11 a12 a13 a11 a14 a15 a16 x3 x4 x5 x6 x7 x8 x9 a16 f0) s.heap := hP
  replace hl : lv_has ls 3 [(0, .ref a0), (1, .int x0), (2, .int x1)] := hl
  have rx0 : zBd x0.toInt (-2147483648) 2147483647 := n_rng x0
  have rx1 : zBd x1.toInt (-2147483648) 2147483647 := n_rng x1
  have rx8 : zBd x8.toInt (-2147483648) 2147483647 := n_rng x8
  have rx9 : zBd x9.toInt (-2147483648) 2147483647 := n_rng x9
  refine lv_aload_n (pc := 0) hx hb dX11_word_0 rfl (lv_at hl 0 rfl) ?_
  refine va_get (pc := 1) (ci := 11) (v := .ref a11) (C := RX11) (T := TX11) (N := 14) hx hb hts iX11 hown hK hP 0 rfl rfl 11 (by decide) (hts _ tw_431) (fun _ h9 => h9) rfl dX11_word_1 ?_
  refine lv_iload_n (pc := 4) hx hb dX11_word_4 rfl (lv_at hl 1 rfl) ?_
  refine gd_i (pc := 5) (wc := (zS_5 cB cC cI cJ a11 a14 a15 a16 x3 x4 x5 x6 x7 x8 x9)) hP hD hS hA [1] rfl (by decide +kernel) (fun _ => by rfl) (fun hPc hDc => va_runV (As := [.int x0]) (rest := []) ⟨hx, hb, hml, hown, hts⟩ (k_X1_isWord l D cB cC cI cJ _ a11 a14 a15 a16 x0 x3 x4 x5 x6 x7 x8 x9 h_x3 h_x4 h_x5 h_x6 h_x7) ⟨gcwB hts tw_1177 tw_4 tw_1174 hd_yX1_isWord ⟨Nat.le_of_ble_eq_true rfl, Nat.le_of_ble_eq_true rfl⟩, hts _ tw_1175, hts _ tw_1176⟩ ⟨gblind, va_recv hK hPc (ci := 1) (q0 := 0) rfl rfl, (gpreS hPc hK hDc hN).2⟩ rfl rfl hl.1 rfl (lv_room (Nat.le_of_ble_eq_true rfl)) dX11_word_5 ⟨Nat.le_of_ble_eq_true rfl, Nat.le_of_ble_eq_true rfl⟩) (fun r_2 u_1 H locs hw_3 hP hD hS => ?_)
  replace hP : va_P D gcl (zS_44 cB cC cI cJ a0 a1 a2 a3 a4 a5 a6 a7 a8 a9 a10 x2 a11 a12 a13 a11 a14 a15 a16 x3 x4 x5 x6 x7 x8 x9 a16 f0) H := hP
  replace hD : va_D A (zS_44 cB cC cI cJ a0 a1 a2 a3 a4 a5 a6 a7 a8 a9 a10 x2 a11 a12 a13 a11 a14 a15 a16 x3 x4 x5 x6 x7 x8 x9 a16 f0) := hD
  have hw_4 : ((r_2.toInt = 0 ∧ x0.toInt < 0) ∨ (r_2.toInt = 0 ∧ x0.toInt ≥ 0 ∧ x0.toInt ≥ x7.toInt) ∨ (r_2.toInt = 1 ∧ x0.toInt ≥ 0 ∧ x0.toInt < x7.toInt)) := hw_3
  have rr_2 : zBd r_2.toInt (-2147483648) 2147483647 := n_rng r_2
  refine b_if_eq (pc := 8) (tgt := 34) hx hb rfl  dX11_word_8 (by decide) (fun c_5 => ?_) (fun c_5 => ?_)
  ·
    as_aux_lemma =>
      refine lv_ldc (pc := 34) hx hb hown (hts _ tw_783) dX11_word_34 ?_
      have k9 := tI_m1000000000
      exact hret (-1000000000) ((fun _ => 0), (fun _ => (fun _ => 0)), (fun _ => (fun _ => 0)), (fun _ => 0), (fun _ => 0)) dX11_word_36 ⟨(show ((-1000000000) ≤ ((-1000000000) : Int32).toInt ∧ ((-1000000000) : Int32).toInt ≤ 7) from (n_c tI_m1000000000 (by decide))), (show woQ ((-1000000000) : Int32).toInt x0.toInt x1.toInt x7.toInt x4.toInt f0 from wo_no (by first | exact (om_1407 hw_4 c_5) | ((first | omega | (unfold zBd at *; omega)))) (by first | exact (om_320 tI_m1000000000) | ((first | omega | (unfold zBd at *; omega)))))⟩ (g_psub (wc := (zS_44 cB cC cI cJ a0 a1 a2 a3 a4 a5 a6 a7 a8 a9 a10 x2 a11 a12 a13 a11 a14 a15 a16 x3 x4 x5 x6 x7 x8 x9 a16 f0)) hP [0, 1, 2] rfl) (hD.sub (ws' := (zS_44 cB cC cI cJ a0 a1 a2 a3 a4 a5 a6 a7 a8 a9 a10 x2 a11 a12 a13 a11 a14 a15 a16 x3 x4 x5 x6 x7 x8 x9 a16 f0)) [0, 1, 2] (by decide) rfl) hS
  ·
    as_aux_lemma =>
      refine lv_aload_n (pc := 11) hx hb dX11_word_11 rfl (lv_at hl 0 rfl) ?_
      refine va_get (pc := 12) (ci := 11) (v := .ref a11) (C := RX11) (T := TX11) (N := 14) hx hb hts iX11 hown hK hP 0 rfl rfl 11 (by decide) (hts _ tw_431) (fun _ h9 => h9) rfl dX11_word_12 ?_
      refine lv_iload_n (pc := 15) hx hb dX11_word_15 rfl (lv_at hl 2 rfl) ?_
      refine gd_i (pc := 16) (wc := (zS_5 cB cC cI cJ a11 a14 a15 a16 x3 x4 x5 x6 x7 x8 x9)) hP hD hS hA [1] rfl (by decide +kernel) (fun _ => by rfl) (fun hPc hDc => va_runV (As := [.int x1]) (rest := []) ⟨hx, hb, hml, hown, hts⟩ (k_X1_isSender l D cB cC cI cJ _ a11 a14 a15 a16 x1 x3 x4 x5 x6 x7 x8 x9 h_x3 h_x4 h_x5 h_x6 h_x7) ⟨gcwB hts tw_782 tw_4 tw_779 hd_yX1_isSender ⟨Nat.le_of_ble_eq_true rfl, Nat.le_of_ble_eq_true rfl⟩, hts _ tw_780, hts _ tw_781⟩ ⟨gblind, va_recv hK hPc (ci := 1) (q0 := 0) rfl rfl, (gpreS hPc hK hDc hN).2⟩ rfl rfl hl.1 rfl (lv_room (Nat.le_of_ble_eq_true rfl)) dX11_word_16 ⟨Nat.le_of_ble_eq_true rfl, Nat.le_of_ble_eq_true rfl⟩) (fun r_7 u_6 H locs hw_8 hP hD hS => ?_)
      replace hP : va_P D gcl (zS_44 cB cC cI cJ a0 a1 a2 a3 a4 a5 a6 a7 a8 a9 a10 x2 a11 a12 a13 a11 a14 a15 a16 x3 x4 x5 x6 x7 x8 x9 a16 f0) H := hP
      replace hD : va_D A (zS_44 cB cC cI cJ a0 a1 a2 a3 a4 a5 a6 a7 a8 a9 a10 x2 a11 a12 a13 a11 a14 a15 a16 x3 x4 x5 x6 x7 x8 x9 a16 f0) := hD
      have hw_9 : ((r_7.toInt = 0 ∧ x1.toInt < 0) ∨ (r_7.toInt = 0 ∧ x1.toInt ≥ 0 ∧ x1.toInt ≥ x4.toInt) ∨ (r_7.toInt = 1 ∧ x1.toInt ≥ 0 ∧ x1.toInt < x4.toInt)) := hw_8
      have rr_7 : zBd r_7.toInt (-2147483648) 2147483647 := n_rng r_7
      refine b_if_eq (pc := 19) (tgt := 34) hx hb rfl  dX11_word_19 (by decide) (fun c_10 => ?_) (fun c_10 => ?_)
      ·
        as_aux_lemma =>
          refine lv_ldc (pc := 34) hx hb hown (hts _ tw_783) dX11_word_34 ?_
          have k9 := tI_m1000000000
          exact hret (-1000000000) ((fun _ => 0), (fun _ => (fun _ => 0)), (fun _ => (fun _ => 0)), (fun _ => 0), (fun _ => 0)) dX11_word_36 ⟨(show ((-1000000000) ≤ ((-1000000000) : Int32).toInt ∧ ((-1000000000) : Int32).toInt ≤ 7) from (n_c tI_m1000000000 (by decide))), (show woQ ((-1000000000) : Int32).toInt x0.toInt x1.toInt x7.toInt x4.toInt f0 from wo_no (by first | exact (om_1408 hw_9 c_10) | ((first | omega | (unfold zBd at *; omega)))) (by first | exact (om_320 tI_m1000000000) | ((first | omega | (unfold zBd at *; omega)))))⟩ (g_psub (wc := (zS_44 cB cC cI cJ a0 a1 a2 a3 a4 a5 a6 a7 a8 a9 a10 x2 a11 a12 a13 a11 a14 a15 a16 x3 x4 x5 x6 x7 x8 x9 a16 f0)) hP [0, 1, 2] rfl) (hD.sub (ws' := (zS_44 cB cC cI cJ a0 a1 a2 a3 a4 a5 a6 a7 a8 a9 a10 x2 a11 a12 a13 a11 a14 a15 a16 x3 x4 x5 x6 x7 x8 x9 a16 f0)) [0, 1, 2] (by decide) rfl) hS
      ·
        as_aux_lemma =>
          refine lv_aload_n (pc := 22) hx hb dX11_word_22 rfl (lv_at hl 0 rfl) ?_
          refine va_get (pc := 23) (ci := 11) (v := .ref a11) (C := RX11) (T := TX11) (N := 14) hx hb hts iX11 hown hK hP 0 rfl rfl 11 (by decide) (hts _ tw_431) (fun _ h9 => h9) rfl dX11_word_23 ?_
          refine lv_iload_n (pc := 26) hx hb dX11_word_26 rfl (lv_at hl 1 rfl) ?_
          refine lv_iload_n (pc := 27) hx hb dX11_word_27 rfl (lv_at hl 2 rfl) ?_
          refine gd_i (pc := 28) (wc := (zS_41 cB cC cI cJ a11 a14 a15 a16 x3 x4 x5 x6 x7 x8 x9 a16 f0)) hP hD hS hA [1, 2] rfl (by decide +kernel) (fun _ => by rfl) (fun hPc hDc => va_runV (As := [.int x0, .int x1]) (rest := []) ⟨hx, hb, hml, hown, hts⟩ (k_X1_letterOfWord_E l D cB cC cI cJ _ a11 a14 a15 a16 x0 x1 x3 x4 x5 x6 x7 x8 x9 f0 (by first | exact (om_1409 hw_4 c_5 h_x7.2) | ((first | omega | (unfold zBd at *; omega)))) (by first | exact (om_1336 hw_9 c_10 h_x4.2) | ((first | omega | (unfold zBd at *; omega)))) h_x3 h_x4 h_x5 h_x6 h_x7 hf_f0) ⟨gcwB hts tw_1181 tw_4 tw_1178 hd_yX1_letterOfWord ⟨Nat.le_of_ble_eq_true rfl, Nat.le_of_ble_eq_true rfl⟩, hts _ tw_1179, hts _ tw_1180⟩ ⟨gblind, va_recv hK hPc (ci := 1) (q0 := 0) rfl rfl, (gpreS hPc hK hDc hN).2⟩ rfl rfl hl.1 rfl (lv_room (Nat.le_of_ble_eq_true rfl)) dX11_word_28 ⟨Nat.le_of_ble_eq_true rfl, Nat.le_of_ble_eq_true rfl⟩) (fun r_12 u_11 H locs hw_13 hP hD hS => ?_)
          replace hP : va_P D gcl (zS_44 cB cC cI cJ a0 a1 a2 a3 a4 a5 a6 a7 a8 a9 a10 x2 a11 a12 a13 a11 a14 a15 a16 x3 x4 x5 x6 x7 x8 x9 a16 f0) H := hP
          replace hD : va_D A (zS_44 cB cC cI cJ a0 a1 a2 a3 a4 a5 a6 a7 a8 a9 a10 x2 a11 a12 a13 a11 a14 a15 a16 x3 x4 x5 x6 x7 x8 x9 a16 f0) := hD
          obtain ⟨hw_14, hw_15⟩ := hw_13
          replace hw_14 : ((((-7) ≤ r_12.toInt ∧ r_12.toInt ≤ 7))) := hw_14
          replace hw_15 : (r_12.toInt = (f0 (ixW x0.toInt x1.toInt).toNat).toInt) := hw_15
          have rr_12 : zBd r_12.toInt (-2147483648) 2147483647 := n_rng r_12
          refine lv_goto (pc := 31) (tgt := 36) hx hb dX11_word_31 (by decide) ?_
          exact hret r_12 ((fun _ => 0), (fun _ => (fun _ => 0)), (fun _ => (fun _ => 0)), (fun _ => 0), (fun _ => 0)) dX11_word_36 ⟨(show ((-1000000000) ≤ r_12.toInt ∧ r_12.toInt ≤ 7) from (by first | exact (om_1410 hw_14.1 hw_14.2) | ((first | omega | (unfold zBd at *; omega))))), (show woQ r_12.toInt x0.toInt x1.toInt x7.toInt x4.toInt f0 from wo_yes (by first | exact (om_1411 hw_4 c_5 hw_9 c_10) | ((first | omega | (unfold zBd at *; omega)))) hw_15)⟩ (g_psub (wc := (zS_44 cB cC cI cJ a0 a1 a2 a3 a4 a5 a6 a7 a8 a9 a10 x2 a11 a12 a13 a11 a14 a15 a16 x3 x4 x5 x6 x7 x8 x9 a16 f0)) hP [0, 1, 2] rfl) (hD.sub (ws' := (zS_44 cB cC cI cJ a0 a1 a2 a3 a4 a5 a6 a7 a8 a9 a10 x2 a11 a12 a13 a11 a14 a15 a16 x3 x4 x5 x6 x7 x8 x9 a16 f0)) [0, 1, 2] (by decide) rfl) hS
set_option maxHeartbeats 4000000 in
set_option maxRecDepth 100000 in
theorem k_X11_code (l : Launch) (D : va_G) (cB cC cI cJ : ClassId) (sz : Nat) (a0 a1 a2 a3 a4 a5 a6 a7 a8 a9 a10 a11 a12 a13 a14 a15 a16 a17 a18 a19 : Nat) (x0 x1 x2 x3 x4 x5 x6 x7 x8 x9 x10 x11 x12 : Int32) (y0 : Int64) (f0 f1 f2 : Nat → Int32) (g0 : Nat → Int64) (h_x1 : zBd x1.toInt 0 14) (h_x2 : zBd x2.toInt (-1) 8) (h_x3 : zBd x3.toInt (-1) 5) (h_x4 : zBd x4.toInt (-1) 6) (h_x5 : zBd x5.toInt 0 6) (h_x6 : zBd x6.toInt 0 16) (hf_f0 : (∀ j, (-7) ≤ (f0 j).toInt ∧ (f0 j).toInt ≤ 7)) (h_x9 : zBd x9.toInt 0 16) (h_x10 : zBd x10.toInt 0 1) (h_x11 : zBd x11.toInt 0 256) (hg_kn : knQ x10.toInt x9.toInt g0 f1 f0 x3.toInt x4.toInt x6.toInt) : Met l yX11_code (.code yX11_code cX11_code 2 (some .long) :: lw_gd) ({ frames := 4, cells := 0, slots := 0, locals := 98 }) (gPre D [(cB, .byte), (cC, .char), (cI, .int), (cJ, .long)] [.ref a0, .int x0] (zS_34 cB cC cI cJ a0 a1 a2 a3 a4 a5 a6 a7 a8 a9 a10 x1 a11 a12 a13 a11 a14 a15 a16 x2 x3 x4 x5 x6 x7 x8 a16 f0 a14 a17 a17 f1 a5 a18 a19 x9 x10 y0 x11 x12 a18 g0 a19 f2) sz) (va_Ql (fun r u => (0 ≤ (u.2.2.2.1 0).toInt ∧ (u.2.2.2.1 0).toInt ≤ 16) ∧ (0 ≤ (u.2.2.2.1 1).toInt ∧ (u.2.2.2.1 1).toInt ≤ 1) ∧ (0 ≤ (u.2.2.2.1 2).toInt ∧ (u.2.2.2.1 2).toInt ≤ 256) ∧ (knQ (u.2.2.2.1 1).toInt (u.2.2.2.1 0).toInt (u.2.2.1 0) f1 f0 x3.toInt x4.toInt x6.toInt) ∧ (cdQ r.toInt x0.toInt x6.toInt (mxP (wP f0 x3.toInt) (x6.toInt).toNat) (flX (fun i j => (pX9 f1 f0 x3.toInt x4.toInt i j).toInt) x6.toInt (-1) (1000000000000000, 0, x12.toInt) (16 * x6.toInt).toNat))) (gB D (va_A (zS_34 cB cC cI cJ a0 a1 a2 a3 a4 a5 a6 a7 a8 a9 a10 x1 a11 a12 a13 a11 a14 a15 a16 x2 x3 x4 x5 x6 x7 x8 a16 f0 a14 a17 a17 f1 a5 a18 a19 x9 x10 y0 x11 x12 a18 g0 a19 f2) sz) (fun u : gEx => (zS_34 cB cC cI cJ a0 a1 a2 a3 a4 a5 a6 a7 a8 a9 a10 x1 a11 a12 a13 a11 a14 a15 a16 x2 x3 x4 x5 x6 x7 x8 a16 f0 a14 a17 a17 f1 a5 a18 a19 (u.2.2.2.1 0) (u.2.2.2.1 1) (u.2.2.2.2 0) (u.2.2.2.1 2) (u.2.2.2.1 3) a18 (u.2.2.1 0) a19 (u.2.1 0)))) (va_A (zS_34 cB cC cI cJ a0 a1 a2 a3 a4 a5 a6 a7 a8 a9 a10 x1 a11 a12 a13 a11 a14 a15 a16 x2 x3 x4 x5 x6 x7 x8 a16 f0 a14 a17 a17 f1 a5 a18 a19 x9 x10 y0 x11 x12 a18 g0 a19 f2) sz)) 0 0 (va_A (zS_34 cB cC cI cJ a0 a1 a2 a3 a4 a5 a6 a7 a8 a9 a10 x1 a11 a12 a13 a11 a14 a15 a16 x2 x3 x4 x5 x6 x7 x8 a16 f0 a14 a17 a17 f1 a5 a18 a19 x9 x10 y0 x11 x12 a18 g0 a19 f2) sz) := by
  refine gOf_l (by decide +kernel) (Nat.le_of_ble_eq_true rfl) ?_
  intro p e s m args below meth c ls A Q hx hb hts hown hml hN hK hP hD hA hl hret
  replace hown : s.vm.findClass RX11 = some m.cls := hown
  have hS : va_S A s.heap s.heap [] := va_S.rf
  replace hP : va_P D gcl (zS_34 cB cC cI cJ a0 a1 a2 a3 a4 a5 a6 a7 a8 a9 a10 x1 a11 a12 a13 a11 a14 a15 a16 x2 x3 x4 x5 x6 x7 x8 a16 f0 a14 a17 a17 f1 a5 a18 a19 x9 x10 y0 x11 x12 a18 g0 a19 f2) s.heap := hP
  replace hl : lv_has ls 2 [(0, .ref a0), (1, .int x0)] := hl
  have rx0 : zBd x0.toInt (-2147483648) 2147483647 := n_rng x0
  have rx7 : zBd x7.toInt (-2147483648) 2147483647 := n_rng x7
  have rx8 : zBd x8.toInt (-2147483648) 2147483647 := n_rng x8
  have ry0 := n_rngL y0
  have rx12 : zBd x12.toInt (-2147483648) 2147483647 := n_rng x12
  refine lv_iload_n (pc := 0) hx hb dX11_code_0 rfl (lv_at hl 1 rfl) ?_
  refine lv_iconst (pc := 1) (v := 3) hx hb dX11_code_1 (by decide) ?_
  refine b_icmp_ne (pc := 2) (tgt := 30) hx hb rfl tI_3  dX11_code_2 (by decide) (fun c_1 => ?_) (fun c_1 => ?_)
  ·
    as_aux_lemma =>
      refine lv_iload_n (pc := 30) hx hb dX11_code_30 rfl (lv_at hl 1 rfl) ?_
      refine b_if_lt (pc := 31) (tgt := 50) hx hb rfl  dX11_code_31 (by decide) (fun c_2 => ?_) (fun c_2 => ?_)
      ·
        as_aux_lemma =>
          refine lv_ldc2 (pc := 50) hx hb hown (hts _ tw_844) dX11_code_50 ?_
          have k9 := tL_m1
          exact hret (-1) ((fun _ => 0), (fun k => [f2].getD k (fun _ => 0)), (fun k => [g0].getD k (fun _ => 0)), (fun k => [x9, x10, x11, x12].getD k 0), (fun k => [y0].getD k 0)) dX11_code_53 ⟨(show (0 ≤ (x9 : Int32).toInt ∧ (x9 : Int32).toInt ≤ 16) from h_x9), (show (0 ≤ (x10 : Int32).toInt ∧ (x10 : Int32).toInt ≤ 1) from h_x10), (show (0 ≤ (x11 : Int32).toInt ∧ (x11 : Int32).toInt ≤ 256) from h_x11), (show knQ x10.toInt x9.toInt g0 f1 f0 x3.toInt x4.toInt x6.toInt from hg_kn), (show cdQ ((-1) : Int64).toInt x0.toInt x6.toInt (mxP (wP f0 x3.toInt) (x6.toInt).toNat) (flX (fun i j => (pX9 f1 f0 x3.toInt x4.toInt i j).toInt) x6.toInt (-1) (1000000000000000, 0, x12.toInt) (16 * x6.toInt).toNat) from (by first | exact cd_no3 (by (first | omega | (unfold zBd at *; omega))) (by (first | omega | (unfold zBd at *; omega))) (by (first | omega | (unfold zBd at *; omega))) | exact cd_no (by (first | omega | (unfold zBd at *; omega))) (by (first | omega | (unfold zBd at *; omega))) (by (first | omega | (unfold zBd at *; omega)))))⟩ (g_psub (wc := (zS_34 cB cC cI cJ a0 a1 a2 a3 a4 a5 a6 a7 a8 a9 a10 x1 a11 a12 a13 a11 a14 a15 a16 x2 x3 x4 x5 x6 x7 x8 a16 f0 a14 a17 a17 f1 a5 a18 a19 x9 x10 y0 x11 x12 a18 g0 a19 f2)) hP [0, 1, 2, 3, 4, 5, 6, 7] rfl) (hD.sub (ws' := (zS_34 cB cC cI cJ a0 a1 a2 a3 a4 a5 a6 a7 a8 a9 a10 x1 a11 a12 a13 a11 a14 a15 a16 x2 x3 x4 x5 x6 x7 x8 a16 f0 a14 a17 a17 f1 a5 a18 a19 x9 x10 y0 x11 x12 a18 g0 a19 f2)) [0, 1, 2, 3, 4, 5, 6, 7] (by decide) rfl) hS
      ·
        as_aux_lemma =>
          refine lv_iload_n (pc := 34) hx hb dX11_code_34 rfl (lv_at hl 1 rfl) ?_
          refine lv_iconst (pc := 35) (v := 2) hx hb dX11_code_35 (by decide) ?_
          refine b_icmp_gt (pc := 36) (tgt := 50) hx hb rfl tI_2  dX11_code_36 (by decide) (fun c_3 => ?_) (fun c_3 => ?_)
          ·
            as_aux_lemma =>
              refine lv_ldc2 (pc := 50) hx hb hown (hts _ tw_844) dX11_code_50 ?_
              have k9 := tL_m1
              exact hret (-1) ((fun _ => 0), (fun k => [f2].getD k (fun _ => 0)), (fun k => [g0].getD k (fun _ => 0)), (fun k => [x9, x10, x11, x12].getD k 0), (fun k => [y0].getD k 0)) dX11_code_53 ⟨(show (0 ≤ (x9 : Int32).toInt ∧ (x9 : Int32).toInt ≤ 16) from h_x9), (show (0 ≤ (x10 : Int32).toInt ∧ (x10 : Int32).toInt ≤ 1) from h_x10), (show (0 ≤ (x11 : Int32).toInt ∧ (x11 : Int32).toInt ≤ 256) from h_x11), (show knQ x10.toInt x9.toInt g0 f1 f0 x3.toInt x4.toInt x6.toInt from hg_kn), (show cdQ ((-1) : Int64).toInt x0.toInt x6.toInt (mxP (wP f0 x3.toInt) (x6.toInt).toNat) (flX (fun i j => (pX9 f1 f0 x3.toInt x4.toInt i j).toInt) x6.toInt (-1) (1000000000000000, 0, x12.toInt) (16 * x6.toInt).toNat) from (by first | exact cd_no3 (by (first | omega | (unfold zBd at *; omega))) (by (first | omega | (unfold zBd at *; omega))) (by (first | omega | (unfold zBd at *; omega))) | exact cd_no (by (first | omega | (unfold zBd at *; omega))) (by (first | omega | (unfold zBd at *; omega))) (by (first | omega | (unfold zBd at *; omega)))))⟩ (g_psub (wc := (zS_34 cB cC cI cJ a0 a1 a2 a3 a4 a5 a6 a7 a8 a9 a10 x1 a11 a12 a13 a11 a14 a15 a16 x2 x3 x4 x5 x6 x7 x8 a16 f0 a14 a17 a17 f1 a5 a18 a19 x9 x10 y0 x11 x12 a18 g0 a19 f2)) hP [0, 1, 2, 3, 4, 5, 6, 7] rfl) (hD.sub (ws' := (zS_34 cB cC cI cJ a0 a1 a2 a3 a4 a5 a6 a7 a8 a9 a10 x1 a11 a12 a13 a11 a14 a15 a16 x2 x3 x4 x5 x6 x7 x8 a16 f0 a14 a17 a17 f1 a5 a18 a19 x9 x10 y0 x11 x12 a18 g0 a19 f2)) [0, 1, 2, 3, 4, 5, 6, 7] (by decide) rfl) hS
          ·
            as_aux_lemma =>
              refine lv_aload_n (pc := 39) hx hb dX11_code_39 rfl (lv_at hl 0 rfl) ?_
              refine va_get (pc := 40) (ci := 11) (v := .ref a11) (C := RX11) (T := TX11) (N := 14) hx hb hts iX11 hown hK hP 0 rfl rfl 11 (by decide) (hts _ tw_431) (fun _ h9 => h9) rfl dX11_code_40 ?_
              refine va_getN (pc := 43) (ci := 1) (v := .int x6) (C := RX1) (T := TX1) (N := 10) hx hb hts iX1 hown hK hP 1 rfl rfl 7 (by decide) (va_Nw.use rfl (hN _ tn_137)) (fun _ h9 => h9) rfl dX11_code_43 ?_
              refine lv_iconst (pc := 46) (v := 2) hx hb dX11_code_46 (by decide) ?_
              refine b_icmp_ge (pc := 47) (tgt := 54) hx hb rfl tI_2  dX11_code_47 (by decide) (fun c_4 => ?_) (fun c_4 => ?_)
              ·
                as_aux_lemma =>
                  refine lv_aload_n (pc := 54) hx hb dX11_code_54 rfl (lv_at hl 0 rfl) ?_
                  refine va_get (pc := 55) (ci := 11) (v := .ref a5) (C := RX11) (T := TX11) (N := 14) hx hb hts iX11 hown hK hP 0 rfl rfl 4 (by decide) (hts _ tw_424) (fun _ h9 => h9) rfl dX11_code_55 ?_
                  refine lv_aload_n (pc := 58) hx hb dX11_code_58 rfl (lv_at hl 0 rfl) ?_
                  refine va_get (pc := 59) (ci := 11) (v := .ref a11) (C := RX11) (T := TX11) (N := 14) hx hb hts iX11 hown hK hP 0 rfl rfl 11 (by decide) (hts _ tw_431) (fun _ h9 => h9) rfl dX11_code_59 ?_
                  refine gd_v (pc := 62) (wc := (zS_95 cB cC cI cJ a5 a18 a19 x9 x10 y0 x11 x12 a18 g0 a11 a14 a15 a16 x2 x3 x4 x5 x6 x7 x8 a16 f0 a14 a17 a17 f1 a19 f2)) hP hD hS hA [5, 6, 1, 2, 3, 4, 7] rfl (by decide +kernel) (fun _ => by rfl) (fun hPc hDc => va_runV (As := [.ref a11]) (rest := []) ⟨hx, hb, hml, hown, hts⟩ (k_X0_learn l D cB cC cI cJ _ a5 a11 a18 a19 a14 a15 a16 a17 x9 x10 x11 x12 x2 x3 x4 x5 x6 x7 x8 y0 f0 f1 f2 g0 h_x9 h_x10 h_x11 h_x2 h_x3 h_x4 h_x5 h_x6 hf_f0 (hg_kn)) ⟨gcwB hts tw_1195 tw_11 tw_1192 hd_yX0_learn ⟨Nat.le_of_ble_eq_true rfl, Nat.le_of_ble_eq_true rfl⟩, hts _ tw_1193, hts _ tw_1194⟩ ⟨gblind, va_recv hK hPc (ci := 0) (q0 := 0) rfl rfl, (gpreS hPc hK hDc hN).2⟩ rfl rfl hl.1 rfl (lv_room (Nat.le_of_ble_eq_true rfl)) dX11_code_62 ⟨Nat.le_of_ble_eq_true rfl, Nat.le_of_ble_eq_true rfl⟩) (fun u_5 H locs hw_7 hP hD hS => ?_)
                  replace hP : va_P D gcl (zS_34 cB cC cI cJ a0 a1 a2 a3 a4 a5 a6 a7 a8 a9 a10 x1 a11 a12 a13 a11 a14 a15 a16 x2 x3 x4 x5 x6 x7 x8 a16 f0 a14 a17 a17 f1 a5 a18 a19 (u_5.2.2.2.1 0) (u_5.2.2.2.1 1) y0 x11 x12 a18 (u_5.2.2.1 0) a19 (u_5.2.1 0)) H := hP
                  replace hD : va_D A (zS_34 cB cC cI cJ a0 a1 a2 a3 a4 a5 a6 a7 a8 a9 a10 x1 a11 a12 a13 a11 a14 a15 a16 x2 x3 x4 x5 x6 x7 x8 a16 f0 a14 a17 a17 f1 a5 a18 a19 (u_5.2.2.2.1 0) (u_5.2.2.2.1 1) y0 x11 x12 a18 (u_5.2.2.1 0) a19 (u_5.2.1 0)) := hD
                  obtain ⟨hw_8, hw_9, hw_10⟩ := hw_7
                  replace hw_8 : zBd (u_5.2.2.2.1 0).toInt 0 16 := hw_8
                  replace hw_9 : zBd (u_5.2.2.2.1 1).toInt 0 1 := hw_9
                  replace hw_10 : ((u_5.2.2.2.1 0).toInt = x6.toInt ∧ wlQ (u_5.2.2.1 0) f1 f0 x3.toInt x4.toInt x6.toInt x6.toInt 0) := hw_10
                  refine lv_aload_n (pc := 65) hx hb dX11_code_65 rfl (lv_at hl 0 rfl) ?_
                  refine va_get (pc := 66) (ci := 11) (v := .ref a5) (C := RX11) (T := TX11) (N := 14) hx hb hts iX11 hown hK hP 0 rfl rfl 4 (by decide) (hts _ tw_424) (fun _ h9 => h9) rfl dX11_code_66 ?_
                  refine lv_iconst (pc := 69) (v := (-1)) hx hb dX11_code_69 (by decide) ?_
                  refine gd_v (pc := 70) (wc := (zS_47 cB cC cI cJ a5 a18 a19 (u_5.2.2.2.1 0) (u_5.2.2.2.1 1) y0 x11 x12 a18 (u_5.2.2.1 0))) hP hD hS hA [5, 6] rfl (by decide +kernel) (fun _ => by rfl) (fun hPc hDc => va_runV (As := [.int (-1)]) (rest := []) ⟨hx, hb, hml, hown, hts⟩ (k_X0_findLeast l D cB cC cI cJ _ a5 a18 a19 (-1) (u_5.2.2.2.1 0) (u_5.2.2.2.1 1) x11 x12 y0 (u_5.2.2.1 0) hw_8 hw_9 h_x11) ⟨gcwB hts tw_1205 tw_11 tw_1202 hd_yX0_findLeast ⟨Nat.le_of_ble_eq_true rfl, Nat.le_of_ble_eq_true rfl⟩, hts _ tw_1203, hts _ tw_1204⟩ ⟨gblind, va_recv hK hPc (ci := 0) (q0 := 0) rfl rfl, (gpreS hPc hK hDc hN).2⟩ rfl rfl hl.1 rfl (lv_room (Nat.le_of_ble_eq_true rfl)) dX11_code_70 ⟨Nat.le_of_ble_eq_true rfl, Nat.le_of_ble_eq_true rfl⟩) (fun u_11 H locs hw_13 hP hD hS => ?_)
                  replace hP : va_P D gcl (zS_34 cB cC cI cJ a0 a1 a2 a3 a4 a5 a6 a7 a8 a9 a10 x1 a11 a12 a13 a11 a14 a15 a16 x2 x3 x4 x5 x6 x7 x8 a16 f0 a14 a17 a17 f1 a5 a18 a19 (u_5.2.2.2.1 0) (u_5.2.2.2.1 1) (u_11.2.2.2.2 0) (u_11.2.2.2.1 0) (u_11.2.2.2.1 1) a18 (u_5.2.2.1 0) a19 (u_5.2.1 0)) H := hP
                  replace hD : va_D A (zS_34 cB cC cI cJ a0 a1 a2 a3 a4 a5 a6 a7 a8 a9 a10 x1 a11 a12 a13 a11 a14 a15 a16 x2 x3 x4 x5 x6 x7 x8 a16 f0 a14 a17 a17 f1 a5 a18 a19 (u_5.2.2.2.1 0) (u_5.2.2.2.1 1) (u_11.2.2.2.2 0) (u_11.2.2.2.1 0) (u_11.2.2.2.1 1) a18 (u_5.2.2.1 0) a19 (u_5.2.1 0)) := hD
                  have ru_11_0 := n_rngL (u_11.2.2.2.2 0)
                  have ru_11_1 : zBd (u_11.2.2.2.1 1).toInt (-2147483648) 2147483647 := n_rng (u_11.2.2.2.1 1)
                  obtain ⟨hw_14, hw_15⟩ := hw_13
                  replace hw_14 : zBd (u_11.2.2.2.1 0).toInt 0 256 := hw_14
                  replace hw_15 : (flE (flX (wrC (u_5.2.2.1 0)) (u_5.2.2.2.1 0).toInt ((-1) : Int32).toInt (1000000000000000, 0, x12.toInt)) (u_11.2.2.2.2 0).toInt (u_11.2.2.2.1 0).toInt (u_11.2.2.2.1 1).toInt (16 * (u_5.2.2.2.1 0).toInt)) := hw_15
                  have kk0_r_12 := tI_m1
                  refine lv_iload_n (pc := 73) hx hb dX11_code_73 rfl (lv_at hl 1 rfl) ?_
                  as_aux_lemma =>
                    refine b_if_ne (pc := 74) (tgt := 85) hx hb rfl  dX11_code_74 (by decide) (fun c_16 => ?_) (fun c_16 => ?_)
                    ·
                      as_aux_lemma =>
                        refine lv_iload_n (pc := 85) hx hb dX11_code_85 rfl (lv_at hl 1 rfl) ?_
                        refine lv_iconst (pc := 86) (v := 1) hx hb dX11_code_86 (by decide) ?_
                        refine b_icmp_ne (pc := 87) (tgt := 101) hx hb rfl tI_1  dX11_code_87 (by decide) (fun c_17 => ?_) (fun c_17 => ?_)
                        ·
                          as_aux_lemma =>
                            refine lv_aload_n (pc := 101) hx hb dX11_code_101 rfl (lv_at hl 0 rfl) ?_
                            refine va_get (pc := 102) (ci := 11) (v := .ref a5) (C := RX11) (T := TX11) (N := 14) hx hb hts iX11 hown hK hP 0 rfl rfl 4 (by decide) (hts _ tw_424) (fun _ h9 => h9) rfl dX11_code_102 ?_
                            refine va_getN (pc := 105) (ci := 0) (v := .int (u_11.2.2.2.1 1)) (C := RX0) (T := TX0) (N := 7) hx hb hts iX0 hown hK hP 5 rfl rfl 6 (by decide) (va_Nw.use rfl (hN _ tn_323)) (fun _ h9 => h9) rfl dX11_code_105 ?_
                            refine b_i2l (pc := 108) hx hb rfl dX11_code_108 (fun y_18 ey_18 => ?_)
                            have ry_18 : zBd (u_11.2.2.2.1 1).toInt (-2147483648) 2147483647 := n_rng (u_11.2.2.2.1 1)
                            exact hret y_18 ((fun _ => 0), (fun k => [(u_5.2.1 0)].getD k (fun _ => 0)), (fun k => [(u_5.2.2.1 0)].getD k (fun _ => 0)), (fun k => [(u_5.2.2.2.1 0), (u_5.2.2.2.1 1), (u_11.2.2.2.1 0), (u_11.2.2.2.1 1)].getD k 0), (fun k => [(u_11.2.2.2.2 0)].getD k 0)) dX11_code_109 ⟨(show (0 ≤ ((u_5.2.2.2.1 0) : Int32).toInt ∧ ((u_5.2.2.2.1 0) : Int32).toInt ≤ 16) from hw_8), (show (0 ≤ ((u_5.2.2.2.1 1) : Int32).toInt ∧ ((u_5.2.2.2.1 1) : Int32).toInt ≤ 1) from hw_9), (show (0 ≤ ((u_11.2.2.2.1 0) : Int32).toInt ∧ ((u_11.2.2.2.1 0) : Int32).toInt ≤ 256) from hw_14), (show knQ (u_5.2.2.2.1 1).toInt (u_5.2.2.2.1 0).toInt (u_5.2.2.1 0) f1 f0 x3.toInt x4.toInt x6.toInt from Or.inr hw_10), (show cdQ y_18.toInt x0.toInt x6.toInt (mxP (wP f0 x3.toInt) (x6.toInt).toNat) (flX (fun i j => (pX9 f1 f0 x3.toInt x4.toInt i j).toInt) x6.toInt (-1) (1000000000000000, 0, x12.toInt) (16 * x6.toInt).toNat) from cd_yes (fl_kn hw_15 hw_10 tI_m1) (by (first | omega | (unfold zBd at *; omega))) (by (first | omega | (unfold zBd at *; omega))))⟩ (g_psub (wc := (zS_34 cB cC cI cJ a0 a1 a2 a3 a4 a5 a6 a7 a8 a9 a10 x1 a11 a12 a13 a11 a14 a15 a16 x2 x3 x4 x5 x6 x7 x8 a16 f0 a14 a17 a17 f1 a5 a18 a19 (u_5.2.2.2.1 0) (u_5.2.2.2.1 1) (u_11.2.2.2.2 0) (u_11.2.2.2.1 0) (u_11.2.2.2.1 1) a18 (u_5.2.2.1 0) a19 (u_5.2.1 0))) hP [0, 1, 2, 3, 4, 5, 6, 7] rfl) (hD.sub (ws' := (zS_34 cB cC cI cJ a0 a1 a2 a3 a4 a5 a6 a7 a8 a9 a10 x1 a11 a12 a13 a11 a14 a15 a16 x2 x3 x4 x5 x6 x7 x8 a16 f0 a14 a17 a17 f1 a5 a18 a19 (u_5.2.2.2.1 0) (u_5.2.2.2.1 1) (u_11.2.2.2.2 0) (u_11.2.2.2.1 0) (u_11.2.2.2.1 1) a18 (u_5.2.2.1 0) a19 (u_5.2.1 0))) [0, 1, 2, 3, 4, 5, 6, 7] (by decide) rfl) hS
                        ·
                          as_aux_lemma =>
                            refine lv_aload_n (pc := 90) hx hb dX11_code_90 rfl (lv_at hl 0 rfl) ?_
                            refine va_get (pc := 91) (ci := 11) (v := .ref a5) (C := RX11) (T := TX11) (N := 14) hx hb hts iX11 hown hK hP 0 rfl rfl 4 (by decide) (hts _ tw_424) (fun _ h9 => h9) rfl dX11_code_91 ?_
                            refine va_getN (pc := 94) (ci := 0) (v := .int (u_11.2.2.2.1 0)) (C := RX0) (T := TX0) (N := 7) hx hb hts iX0 hown hK hP 5 rfl rfl 5 (by decide) (va_Nw.use rfl (hN _ tn_321)) (fun _ h9 => h9) rfl dX11_code_94 ?_
                            refine b_i2l (pc := 97) hx hb rfl dX11_code_97 (fun y_19 ey_19 => ?_)
                            have ry_19 : zBd (u_11.2.2.2.1 0).toInt (-2147483648) 2147483647 := n_rng (u_11.2.2.2.1 0)
                            refine lv_goto (pc := 98) (tgt := 109) hx hb dX11_code_98 (by decide) ?_
                            exact hret y_19 ((fun _ => 0), (fun k => [(u_5.2.1 0)].getD k (fun _ => 0)), (fun k => [(u_5.2.2.1 0)].getD k (fun _ => 0)), (fun k => [(u_5.2.2.2.1 0), (u_5.2.2.2.1 1), (u_11.2.2.2.1 0), (u_11.2.2.2.1 1)].getD k 0), (fun k => [(u_11.2.2.2.2 0)].getD k 0)) dX11_code_109 ⟨(show (0 ≤ ((u_5.2.2.2.1 0) : Int32).toInt ∧ ((u_5.2.2.2.1 0) : Int32).toInt ≤ 16) from hw_8), (show (0 ≤ ((u_5.2.2.2.1 1) : Int32).toInt ∧ ((u_5.2.2.2.1 1) : Int32).toInt ≤ 1) from hw_9), (show (0 ≤ ((u_11.2.2.2.1 0) : Int32).toInt ∧ ((u_11.2.2.2.1 0) : Int32).toInt ≤ 256) from hw_14), (show knQ (u_5.2.2.2.1 1).toInt (u_5.2.2.2.1 0).toInt (u_5.2.2.1 0) f1 f0 x3.toInt x4.toInt x6.toInt from Or.inr hw_10), (show cdQ y_19.toInt x0.toInt x6.toInt (mxP (wP f0 x3.toInt) (x6.toInt).toNat) (flX (fun i j => (pX9 f1 f0 x3.toInt x4.toInt i j).toInt) x6.toInt (-1) (1000000000000000, 0, x12.toInt) (16 * x6.toInt).toNat) from cd_yes (fl_kn hw_15 hw_10 tI_m1) (by (first | omega | (unfold zBd at *; omega))) (by (first | omega | (unfold zBd at *; omega))))⟩ (g_psub (wc := (zS_34 cB cC cI cJ a0 a1 a2 a3 a4 a5 a6 a7 a8 a9 a10 x1 a11 a12 a13 a11 a14 a15 a16 x2 x3 x4 x5 x6 x7 x8 a16 f0 a14 a17 a17 f1 a5 a18 a19 (u_5.2.2.2.1 0) (u_5.2.2.2.1 1) (u_11.2.2.2.2 0) (u_11.2.2.2.1 0) (u_11.2.2.2.1 1) a18 (u_5.2.2.1 0) a19 (u_5.2.1 0))) hP [0, 1, 2, 3, 4, 5, 6, 7] rfl) (hD.sub (ws' := (zS_34 cB cC cI cJ a0 a1 a2 a3 a4 a5 a6 a7 a8 a9 a10 x1 a11 a12 a13 a11 a14 a15 a16 x2 x3 x4 x5 x6 x7 x8 a16 f0 a14 a17 a17 f1 a5 a18 a19 (u_5.2.2.2.1 0) (u_5.2.2.2.1 1) (u_11.2.2.2.2 0) (u_11.2.2.2.1 0) (u_11.2.2.2.1 1) a18 (u_5.2.2.1 0) a19 (u_5.2.1 0))) [0, 1, 2, 3, 4, 5, 6, 7] (by decide) rfl) hS
                    ·
                      as_aux_lemma =>
                        refine lv_aload_n (pc := 77) hx hb dX11_code_77 rfl (lv_at hl 0 rfl) ?_
                        refine va_get (pc := 78) (ci := 11) (v := .ref a5) (C := RX11) (T := TX11) (N := 14) hx hb hts iX11 hown hK hP 0 rfl rfl 4 (by decide) (hts _ tw_424) (fun _ h9 => h9) rfl dX11_code_78 ?_
                        refine va_getN (pc := 81) (ci := 0) (v := .long (u_11.2.2.2.2 0)) (C := RX0) (T := TX0) (N := 7) hx hb hts iX0 hown hK hP 5 rfl rfl 4 (by decide) (va_Nw.use rfl (hN _ tn_319)) (fun _ h9 => h9) rfl dX11_code_81 ?_
                        exact hret (u_11.2.2.2.2 0) ((fun _ => 0), (fun k => [(u_5.2.1 0)].getD k (fun _ => 0)), (fun k => [(u_5.2.2.1 0)].getD k (fun _ => 0)), (fun k => [(u_5.2.2.2.1 0), (u_5.2.2.2.1 1), (u_11.2.2.2.1 0), (u_11.2.2.2.1 1)].getD k 0), (fun k => [(u_11.2.2.2.2 0)].getD k 0)) dX11_code_84 ⟨(show (0 ≤ ((u_5.2.2.2.1 0) : Int32).toInt ∧ ((u_5.2.2.2.1 0) : Int32).toInt ≤ 16) from hw_8), (show (0 ≤ ((u_5.2.2.2.1 1) : Int32).toInt ∧ ((u_5.2.2.2.1 1) : Int32).toInt ≤ 1) from hw_9), (show (0 ≤ ((u_11.2.2.2.1 0) : Int32).toInt ∧ ((u_11.2.2.2.1 0) : Int32).toInt ≤ 256) from hw_14), (show knQ (u_5.2.2.2.1 1).toInt (u_5.2.2.2.1 0).toInt (u_5.2.2.1 0) f1 f0 x3.toInt x4.toInt x6.toInt from Or.inr hw_10), (show cdQ (u_11.2.2.2.2 0).toInt x0.toInt x6.toInt (mxP (wP f0 x3.toInt) (x6.toInt).toNat) (flX (fun i j => (pX9 f1 f0 x3.toInt x4.toInt i j).toInt) x6.toInt (-1) (1000000000000000, 0, x12.toInt) (16 * x6.toInt).toNat) from cd_yes (fl_kn hw_15 hw_10 tI_m1) (by (first | omega | (unfold zBd at *; omega))) (by (first | omega | (unfold zBd at *; omega))))⟩ (g_psub (wc := (zS_34 cB cC cI cJ a0 a1 a2 a3 a4 a5 a6 a7 a8 a9 a10 x1 a11 a12 a13 a11 a14 a15 a16 x2 x3 x4 x5 x6 x7 x8 a16 f0 a14 a17 a17 f1 a5 a18 a19 (u_5.2.2.2.1 0) (u_5.2.2.2.1 1) (u_11.2.2.2.2 0) (u_11.2.2.2.1 0) (u_11.2.2.2.1 1) a18 (u_5.2.2.1 0) a19 (u_5.2.1 0))) hP [0, 1, 2, 3, 4, 5, 6, 7] rfl) (hD.sub (ws' := (zS_34 cB cC cI cJ a0 a1 a2 a3 a4 a5 a6 a7 a8 a9 a10 x1 a11 a12 a13 a11 a14 a15 a16 x2 x3 x4 x5 x6 x7 x8 a16 f0 a14 a17 a17 f1 a5 a18 a19 (u_5.2.2.2.1 0) (u_5.2.2.2.1 1) (u_11.2.2.2.2 0) (u_11.2.2.2.1 0) (u_11.2.2.2.1 1) a18 (u_5.2.2.1 0) a19 (u_5.2.1 0))) [0, 1, 2, 3, 4, 5, 6, 7] (by decide) rfl) hS
              ·
                as_aux_lemma =>
                  refine lv_ldc2 (pc := 50) hx hb hown (hts _ tw_844) dX11_code_50 ?_
                  have k9 := tL_m1
                  exact hret (-1) ((fun _ => 0), (fun k => [f2].getD k (fun _ => 0)), (fun k => [g0].getD k (fun _ => 0)), (fun k => [x9, x10, x11, x12].getD k 0), (fun k => [y0].getD k 0)) dX11_code_53 ⟨(show (0 ≤ (x9 : Int32).toInt ∧ (x9 : Int32).toInt ≤ 16) from h_x9), (show (0 ≤ (x10 : Int32).toInt ∧ (x10 : Int32).toInt ≤ 1) from h_x10), (show (0 ≤ (x11 : Int32).toInt ∧ (x11 : Int32).toInt ≤ 256) from h_x11), (show knQ x10.toInt x9.toInt g0 f1 f0 x3.toInt x4.toInt x6.toInt from hg_kn), (show cdQ ((-1) : Int64).toInt x0.toInt x6.toInt (mxP (wP f0 x3.toInt) (x6.toInt).toNat) (flX (fun i j => (pX9 f1 f0 x3.toInt x4.toInt i j).toInt) x6.toInt (-1) (1000000000000000, 0, x12.toInt) (16 * x6.toInt).toNat) from (by first | exact cd_no3 (by (first | omega | (unfold zBd at *; omega))) (by (first | omega | (unfold zBd at *; omega))) (by (first | omega | (unfold zBd at *; omega))) | exact cd_no (by (first | omega | (unfold zBd at *; omega))) (by (first | omega | (unfold zBd at *; omega))) (by (first | omega | (unfold zBd at *; omega)))))⟩ (g_psub (wc := (zS_34 cB cC cI cJ a0 a1 a2 a3 a4 a5 a6 a7 a8 a9 a10 x1 a11 a12 a13 a11 a14 a15 a16 x2 x3 x4 x5 x6 x7 x8 a16 f0 a14 a17 a17 f1 a5 a18 a19 x9 x10 y0 x11 x12 a18 g0 a19 f2)) hP [0, 1, 2, 3, 4, 5, 6, 7] rfl) (hD.sub (ws' := (zS_34 cB cC cI cJ a0 a1 a2 a3 a4 a5 a6 a7 a8 a9 a10 x1 a11 a12 a13 a11 a14 a15 a16 x2 x3 x4 x5 x6 x7 x8 a16 f0 a14 a17 a17 f1 a5 a18 a19 x9 x10 y0 x11 x12 a18 g0 a19 f2)) [0, 1, 2, 3, 4, 5, 6, 7] (by decide) rfl) hS
  ·
    as_aux_lemma =>
      refine lv_aload_n (pc := 5) hx hb dX11_code_5 rfl (lv_at hl 0 rfl) ?_
      refine va_get (pc := 6) (ci := 11) (v := .ref a11) (C := RX11) (T := TX11) (N := 14) hx hb hts iX11 hown hK hP 0 rfl rfl 11 (by decide) (hts _ tw_431) (fun _ h9 => h9) rfl dX11_code_6 ?_
      refine va_getN (pc := 9) (ci := 1) (v := .int x6) (C := RX1) (T := TX1) (N := 10) hx hb hts iX1 hown hK hP 1 rfl rfl 7 (by decide) (va_Nw.use rfl (hN _ tn_137)) (fun _ h9 => h9) rfl dX11_code_9 ?_
      refine b_if_ne (pc := 12) (tgt := 21) hx hb rfl  dX11_code_12 (by decide) (fun c_20 => ?_) (fun c_20 => ?_)
      ·
        as_aux_lemma =>
          refine lv_aload_n (pc := 21) hx hb dX11_code_21 rfl (lv_at hl 0 rfl) ?_
          refine va_get (pc := 22) (ci := 11) (v := .ref a11) (C := RX11) (T := TX11) (N := 14) hx hb hts iX11 hown hK hP 0 rfl rfl 11 (by decide) (hts _ tw_431) (fun _ h9 => h9) rfl dX11_code_22 ?_
          refine gd_i (pc := 25) (wc := (zS_41 cB cC cI cJ a11 a14 a15 a16 x2 x3 x4 x5 x6 x7 x8 a16 f0)) hP hD hS hA [1, 2] rfl (by decide +kernel) (fun _ => by rfl) (fun hPc hDc => va_runV (As := []) (rest := []) ⟨hx, hb, hml, hown, hts⟩ (k_X1_mostPower l D cB cC cI cJ _ a11 a14 a15 a16 x2 x3 x4 x5 x6 x7 x8 f0 h_x2 h_x3 h_x4 h_x5 h_x6 hf_f0) ⟨gcwB hts tw_1189 tw_4 tw_1186 hd_yX1_mostPower ⟨Nat.le_of_ble_eq_true rfl, Nat.le_of_ble_eq_true rfl⟩, hts _ tw_1187, hts _ tw_1188⟩ ⟨gblind, va_recv hK hPc (ci := 1) (q0 := 0) rfl rfl, (gpreS hPc hK hDc hN).2⟩ rfl rfl hl.1 rfl (lv_room (Nat.le_of_ble_eq_true rfl)) dX11_code_25 ⟨Nat.le_of_ble_eq_true rfl, Nat.le_of_ble_eq_true rfl⟩) (fun r_22 u_21 H locs hw_23 hP hD hS => ?_)
          replace hP : va_P D gcl (zS_34 cB cC cI cJ a0 a1 a2 a3 a4 a5 a6 a7 a8 a9 a10 x1 a11 a12 a13 a11 a14 a15 a16 x2 x3 x4 x5 x6 x7 x8 a16 f0 a14 a17 a17 f1 a5 a18 a19 x9 x10 y0 x11 x12 a18 g0 a19 f2) H := hP
          replace hD : va_D A (zS_34 cB cC cI cJ a0 a1 a2 a3 a4 a5 a6 a7 a8 a9 a10 x1 a11 a12 a13 a11 a14 a15 a16 x2 x3 x4 x5 x6 x7 x8 a16 f0 a14 a17 a17 f1 a5 a18 a19 x9 x10 y0 x11 x12 a18 g0 a19 f2) := hD
          obtain ⟨hw_24, hw_25⟩ := hw_23
          replace hw_24 : (0 ≤ r_22.toInt ∧ r_22.toInt ≤ 245) := hw_24
          replace hw_25 : (r_22.toInt = mxP (wP f0 x3.toInt) (x6.toInt).toNat) := hw_25
          have rr_22 : zBd r_22.toInt (-2147483648) 2147483647 := n_rng r_22
          refine b_i2l (pc := 28) hx hb rfl dX11_code_28 (fun y_26 ey_26 => ?_)
          have ry_26 : zBd r_22.toInt (-2147483648) 2147483647 := n_rng r_22
          exact hret y_26 ((fun _ => 0), (fun k => [f2].getD k (fun _ => 0)), (fun k => [g0].getD k (fun _ => 0)), (fun k => [x9, x10, x11, x12].getD k 0), (fun k => [y0].getD k 0)) dX11_code_29 ⟨(show (0 ≤ (x9 : Int32).toInt ∧ (x9 : Int32).toInt ≤ 16) from h_x9), (show (0 ≤ (x10 : Int32).toInt ∧ (x10 : Int32).toInt ≤ 1) from h_x10), (show (0 ≤ (x11 : Int32).toInt ∧ (x11 : Int32).toInt ≤ 256) from h_x11), (show knQ x10.toInt x9.toInt g0 f1 f0 x3.toInt x4.toInt x6.toInt from hg_kn), (show cdQ y_26.toInt x0.toInt x6.toInt (mxP (wP f0 x3.toInt) (x6.toInt).toNat) (flX (fun i j => (pX9 f1 f0 x3.toInt x4.toInt i j).toInt) x6.toInt (-1) (1000000000000000, 0, x12.toInt) (16 * x6.toInt).toNat) from cd_3 (by (first | omega | (unfold zBd at *; omega))) (by (first | omega | (unfold zBd at *; omega))) (ey_26.trans hw_25))⟩ (g_psub (wc := (zS_34 cB cC cI cJ a0 a1 a2 a3 a4 a5 a6 a7 a8 a9 a10 x1 a11 a12 a13 a11 a14 a15 a16 x2 x3 x4 x5 x6 x7 x8 a16 f0 a14 a17 a17 f1 a5 a18 a19 x9 x10 y0 x11 x12 a18 g0 a19 f2)) hP [0, 1, 2, 3, 4, 5, 6, 7] rfl) (hD.sub (ws' := (zS_34 cB cC cI cJ a0 a1 a2 a3 a4 a5 a6 a7 a8 a9 a10 x1 a11 a12 a13 a11 a14 a15 a16 x2 x3 x4 x5 x6 x7 x8 a16 f0 a14 a17 a17 f1 a5 a18 a19 x9 x10 y0 x11 x12 a18 g0 a19 f2)) [0, 1, 2, 3, 4, 5, 6, 7] (by decide) rfl) hS
      ·
        as_aux_lemma =>
          refine lv_ldc2 (pc := 15) hx hb hown (hts _ tw_844) dX11_code_15 ?_
          refine lv_goto (pc := 18) (tgt := 29) hx hb dX11_code_18 (by decide) ?_
          have k9 := tL_m1
          exact hret (-1) ((fun _ => 0), (fun k => [f2].getD k (fun _ => 0)), (fun k => [g0].getD k (fun _ => 0)), (fun k => [x9, x10, x11, x12].getD k 0), (fun k => [y0].getD k 0)) dX11_code_29 ⟨(show (0 ≤ (x9 : Int32).toInt ∧ (x9 : Int32).toInt ≤ 16) from h_x9), (show (0 ≤ (x10 : Int32).toInt ∧ (x10 : Int32).toInt ≤ 1) from h_x10), (show (0 ≤ (x11 : Int32).toInt ∧ (x11 : Int32).toInt ≤ 256) from h_x11), (show knQ x10.toInt x9.toInt g0 f1 f0 x3.toInt x4.toInt x6.toInt from hg_kn), (show cdQ ((-1) : Int64).toInt x0.toInt x6.toInt (mxP (wP f0 x3.toInt) (x6.toInt).toNat) (flX (fun i j => (pX9 f1 f0 x3.toInt x4.toInt i j).toInt) x6.toInt (-1) (1000000000000000, 0, x12.toInt) (16 * x6.toInt).toNat) from (by first | exact cd_no3 (by (first | omega | (unfold zBd at *; omega))) (by (first | omega | (unfold zBd at *; omega))) (by (first | omega | (unfold zBd at *; omega))) | exact cd_no (by (first | omega | (unfold zBd at *; omega))) (by (first | omega | (unfold zBd at *; omega))) (by (first | omega | (unfold zBd at *; omega)))))⟩ (g_psub (wc := (zS_34 cB cC cI cJ a0 a1 a2 a3 a4 a5 a6 a7 a8 a9 a10 x1 a11 a12 a13 a11 a14 a15 a16 x2 x3 x4 x5 x6 x7 x8 a16 f0 a14 a17 a17 f1 a5 a18 a19 x9 x10 y0 x11 x12 a18 g0 a19 f2)) hP [0, 1, 2, 3, 4, 5, 6, 7] rfl) (hD.sub (ws' := (zS_34 cB cC cI cJ a0 a1 a2 a3 a4 a5 a6 a7 a8 a9 a10 x1 a11 a12 a13 a11 a14 a15 a16 x2 x3 x4 x5 x6 x7 x8 a16 f0 a14 a17 a17 f1 a5 a18 a19 x9 x10 y0 x11 x12 a18 g0 a19 f2)) [0, 1, 2, 3, 4, 5, 6, 7] (by decide) rfl) hS
set_option maxHeartbeats 4000000 in
set_option maxRecDepth 100000 in
theorem k_X1_copyWord_5 (l : Launch) (D : va_G) (cB cC cI cJ : ClassId) (sz : Nat) (a0 a1 a2 a3 a4 : Nat) (x0 x1 x2 x3 x4 x5 x6 x7 : Int32) (f0 f1 : Nat → Int32) (hp1 : (0 ≤ x0.toInt ∧ x0.toInt ≤ 15)) (h_x1 : zBd x1.toInt (-1) 8) (h_x2 : zBd x2.toInt (-1) 5) (h_x3 : zBd x3.toInt (-1) 6) (h_x4 : zBd x4.toInt 0 6) (h_x5 : zBd x5.toInt 0 16) (hf_f0 : (∀ j, (-7) ≤ (f0 j).toInt ∧ (f0 j).toInt ≤ 7)) : Met l yX1_copyWord (.code yX1_copyWord cX1_copyWord 4 none :: lw_gd) ({ frames := 1, cells := 0, slots := 0, locals := 22 }) (gPre D [(cB, .byte), (cC, .char), (cI, .int), (cJ, .long)] [.ref a0, .int x0, .ref a1] (zS_140 cB cC cI cJ a0 a2 a3 a4 x1 x2 x3 x4 x5 x6 x7 a4 f0 a1 f1) sz) (va_Qv (fun u => ((((-1) ≤ x2.toInt ∧ x2.toInt ≤ 5)))) (gB D (va_A (zS_140 cB cC cI cJ a0 a2 a3 a4 x1 x2 x3 x4 x5 x6 x7 a4 f0 a1 f1) sz) (fun u : gEx => (zS_140 cB cC cI cJ a0 a2 a3 a4 x1 x2 x3 x4 x5 x6 x7 a4 f0 a1 (u.2.1 0)))) (va_A (zS_140 cB cC cI cJ a0 a2 a3 a4 x1 x2 x3 x4 x5 x6 x7 a4 f0 a1 f1) sz)) 0 0 (va_A (zS_140 cB cC cI cJ a0 a2 a3 a4 x1 x2 x3 x4 x5 x6 x7 a4 f0 a1 f1) sz) := by
  refine gOf_v (by decide +kernel) (Nat.le_of_ble_eq_true rfl) ?_
  intro p e s m args below meth c ls A Q hx hb hts hown hml hN hK hP hD hA hl hret
  replace hown : s.vm.findClass RX1 = some m.cls := hown
  have hS : va_S A s.heap s.heap [] := va_S.rf
  replace hP : va_P D gcl (zS_140 cB cC cI cJ a0 a2 a3 a4 x1 x2 x3 x4 x5 x6 x7 a4 f0 a1 f1) s.heap := hP
  replace hl : lv_has ls 4 [(0, .ref a0), (1, .int x0), (2, .ref a1)] := hl
  have rx6 : zBd x6.toInt (-2147483648) 2147483647 := n_rng x6
  have rx7 : zBd x7.toInt (-2147483648) 2147483647 := n_rng x7
  refine lv_iconst (pc := 0) (v := 0) hx hb dX1_copyWord_0 (by decide) ?_
  refine lv_istore_n (pc := 1) (lv' := [(3, .int 0), (0, .ref a0), (1, .int x0), (2, .ref a1)]) hx hb dX1_copyWord_1 rfl hl (by decide) rfl (fun ls hl => ?_)
  have lp_4 : ∀ (n : Nat) (x_1 : Int32) (f_3 : Nat → Int32) (H : Heap) (locs : List Loc) (ls : Array Slot), (0 ≤ x_1.toInt ∧ x_1.toInt ≤ 2147483647) → (2147483647 - x_1.toInt).toNat < n → va_P D gcl (zS_140 cB cC cI cJ a0 a2 a3 a4 x1 x2 x3 x4 x5 x6 x7 a4 f0 a1 f_3) H → va_D A (zS_140 cB cC cI cJ a0 a2 a3 a4 x1 x2 x3 x4 x5 x6 x7 a4 f0 a1 f_3) → va_S A s.heap H locs → lv_has ls 4 [(3, .int x_1), (0, .ref a0), (1, .int x0), (2, .ref a1)] → W p l e ({ frames := 1, cells := 0, slots := 0, locals := 22 }) s m args below meth c H locs 0 0 Q (F0 m 2 ls []) := by
    intro n
    induction n with
    | zero => intro x_1 f_3 H locs ls hi_2 hmu; exact absurd hmu (Nat.not_lt_zero _)
    | succ n ih_lp_4 =>
      intro x_1 f_3 H locs ls hi_2 hmu_lp_4 hP hD hS hl
      refine lv_iload_n (pc := 2) hx hb dX1_copyWord_2 rfl (lv_at hl 0 rfl) ?_
      refine lv_aload_n (pc := 3) hx hb dX1_copyWord_3 rfl (lv_at hl 1 rfl) ?_
      refine va_get (pc := 4) (ci := 1) (v := .int x2) (C := RX1) (T := TX1) (N := 10) hx hb hts iX1 hown hK hP 0 rfl rfl 4 (by decide) (hts _ tw_116) (fun _ h9 => h9) rfl dX1_copyWord_4 ?_
      have bd_h_x2 : (-1) ≤ x2.toInt ∧ x2.toInt ≤ 5 := h_x2
      refine b_icmp_ge (pc := 7) (tgt := 25) hx hb rfl rfl  dX1_copyWord_7 (by decide) (fun c_5 => ?_) (fun c_5 => ?_)
      ·
        as_aux_lemma =>
          exact hret ((fun _ => 0), (fun k => [f_3].getD k (fun _ => 0)), (fun _ => (fun _ => 0)), (fun _ => 0), (fun _ => 0)) dX1_copyWord_25 (show ((((-1) ≤ x2.toInt ∧ x2.toInt ≤ 5))) from h_x2) (g_psub (wc := (zS_140 cB cC cI cJ a0 a2 a3 a4 x1 x2 x3 x4 x5 x6 x7 a4 f0 a1 f_3)) hP [0, 1, 2] rfl) (hD.sub (ws' := (zS_140 cB cC cI cJ a0 a2 a3 a4 x1 x2 x3 x4 x5 x6 x7 a4 f0 a1 f_3)) [0, 1, 2] (by decide) rfl) hS
      ·
        as_aux_lemma =>
          refine lv_aload_n (pc := 10) hx hb dX1_copyWord_10 rfl (lv_at hl 3 rfl) ?_
          refine lv_iload_n (pc := 11) hx hb dX1_copyWord_11 rfl (lv_at hl 0 rfl) ?_
          refine lv_aload_n (pc := 12) hx hb dX1_copyWord_12 rfl (lv_at hl 1 rfl) ?_
          refine lv_iload_n (pc := 13) hx hb dX1_copyWord_13 rfl (lv_at hl 2 rfl) ?_
          refine lv_iload_n (pc := 14) hx hb dX1_copyWord_14 rfl (lv_at hl 0 rfl) ?_
          refine gd_i (pc := 15) (wc := (zS_41 cB cC cI cJ a0 a2 a3 a4 x1 x2 x3 x4 x5 x6 x7 a4 f0)) hP hD hS hA [0, 1] rfl (by decide +kernel) (fun _ => by rfl) (fun hPc hDc => va_runV (As := [.int x0, .int x_1]) (rest := [.int x_1, .ref a1]) ⟨hx, hb, hml, hown, hts⟩ (k_X1_letterOfWord l D cB cC cI cJ _ a0 a2 a3 a4 x0 x_1 x1 x2 x3 x4 x5 x6 x7 f0 hp1 (by first | exact (om_360 hi_2.1 c_5 h_x2.2) | ((first | omega | (unfold zBd at *; omega)))) h_x1 h_x2 h_x3 h_x4 h_x5 hf_f0) ⟨gcwB hts tw_1181 tw_4 tw_1190 hd_yX1_letterOfWord ⟨Nat.le_of_ble_eq_true rfl, Nat.le_of_ble_eq_true rfl⟩, hts _ tw_1179, hts _ tw_1180⟩ ⟨gblind, va_recv hK hPc (ci := 1) (q0 := 0) rfl rfl, (gpreS hPc hK hDc hN).2⟩ rfl rfl hl.1 rfl (lv_room (Nat.le_of_ble_eq_true rfl)) dX1_copyWord_15 ⟨Nat.le_of_ble_eq_true rfl, Nat.le_of_ble_eq_true rfl⟩) (fun r_7 u_6 H locs hw_8 hP hD hS => ?_)
          replace hP : va_P D gcl (zS_140 cB cC cI cJ a0 a2 a3 a4 x1 x2 x3 x4 x5 x6 x7 a4 f0 a1 f_3) H := hP
          replace hD : va_D A (zS_140 cB cC cI cJ a0 a2 a3 a4 x1 x2 x3 x4 x5 x6 x7 a4 f0 a1 f_3) := hD
          have hw_9 : ((((-7) ≤ r_7.toInt ∧ r_7.toInt ≤ 7))) := hw_8
          have rr_7 : zBd r_7.toInt (-2147483648) 2147483647 := n_rng r_7
          refine g_iastore (pc := 18) hx hb hK hP hD hS 2 2 rfl rfl (n_in rfl (by first | exact (om_0 hi_2.1) | ((first | omega | (unfold zBd at *; omega)))) (by first | exact (om_1021 c_5 h_x2.2) | ((first | omega | (unfold zBd at *; omega))))) dX1_copyWord_18 (fun f_10 H locs hP hD hS => ?_)
          replace hP : va_P D gcl (zS_140 cB cC cI cJ a0 a2 a3 a4 x1 x2 x3 x4 x5 x6 x7 a4 f0 a1 f_10) H := hP
          replace hD : va_D A (zS_140 cB cC cI cJ a0 a2 a3 a4 x1 x2 x3 x4 x5 x6 x7 a4 f0 a1 f_10) := hD
          refine b_iinc (pc := 19) hx hb dX1_copyWord_19 hl (k := 0) rfl rfl tI_1 (by first | exact (om_2 hi_2.1) | ((first | omega | (unfold zBd at *; omega)))) (by first | exact (om_338 c_5 h_x2.2) | ((first | omega | (unfold zBd at *; omega)))) (by decide) (fun x_11 ex_11 ls hl => ?_)
          replace hl : lv_has ls 4 [(3, .int x_11), (0, .ref a0), (1, .int x0), (2, .ref a1)] := hl
          refine lv_goto (pc := 22) (tgt := 2) hx hb dX1_copyWord_22 (by decide) ?_
          exact ih_lp_4 x_11 f_10 _ _ ls (by first | exact (om_339 ex_11 hi_2.1 c_5 h_x2.2) | ((first | omega | (unfold zBd at *; omega)))) (by (first | omega | (unfold zBd at *; omega))) hP hD hS (lv_sub hl [0, 1, 2, 3] rfl)
  exact lp_4 _ 0 f1 _ _ ls (n_c tI_0 (by decide)) (Nat.lt_succ_self _) hP hD hS (lv_sub hl [0, 1, 2, 3] rfl)
theorem om_1412 {a b : Int} (h0 : ((-2147483648) ≤ a)) (h1 : (a ≤ 2147483647)) (h2 : (0 ≤ b)) (h3 : (b ≤ 16)) : (((((-2147483648) ≤ a ∧ a ≤ 2147483647) ∧ (0 ≤ b ∧ b ≤ 16)))) := by omega
theorem om_1413 {a b : Int} (h0 : (a < b)) (h1 : (b ≤ 16)) : (a + 1 ≤ 2147483647) := by omega
theorem om_1414 {a b c : Int} (h0 : (a = b + 1)) (h1 : (0 ≤ b)) (h2 : (b < c)) (h3 : (c ≤ 16)) : ((0 ≤ a ∧ a ≤ 2147483647)) := by omega
set_option maxHeartbeats 4000000 in
set_option maxRecDepth 100000 in
theorem k_X11_decode (l : Launch) (D : va_G) (cB cC cI cJ : ClassId) (sz : Nat) (a0 a1 a2 a3 a4 a5 a6 a7 a8 a9 a10 a11 a12 a13 a14 a15 a16 a17 : Nat) (x0 x1 x2 x3 x4 x5 x6 x7 : Int32) (f0 f1 f2 f3 : Nat → Int32) (h_x0 : zBd x0.toInt 0 14) (h_x1 : zBd x1.toInt (-1) 8) (h_x2 : zBd x2.toInt (-1) 5) (h_x3 : zBd x3.toInt (-1) 6) (h_x4 : zBd x4.toInt 0 6) (h_x5 : zBd x5.toInt 0 16) (hf_f1 : (∀ j, (-7) ≤ (f1 j).toInt ∧ (f1 j).toInt ≤ 7)) : Met l yX11_decode (.code yX11_decode cX11_decode 7 (some .int) :: lw_gd) ({ frames := 3, cells := 0, slots := 0, locals := 74 }) (gPre D [(cB, .byte), (cC, .char), (cI, .int), (cJ, .long)] [.ref a0] (zS_141 cB cC cI cJ a0 a1 a2 a3 a4 a5 a6 a7 a8 a9 a10 x0 a11 a12 a13 a11 a14 a15 a16 x1 x2 x3 x4 x5 x6 x7 a8 f0 a16 f1 a7 f2 a14 a17 a17 f3) sz) (va_Qi (fun r u => ((((-2147483648) ≤ r.toInt ∧ r.toInt ≤ 2147483647) ∧ (0 ≤ x5.toInt ∧ x5.toInt ≤ 16)))) (gB D (va_A (zS_141 cB cC cI cJ a0 a1 a2 a3 a4 a5 a6 a7 a8 a9 a10 x0 a11 a12 a13 a11 a14 a15 a16 x1 x2 x3 x4 x5 x6 x7 a8 f0 a16 f1 a7 f2 a14 a17 a17 f3) sz) (fun u : gEx => (zS_141 cB cC cI cJ a0 a1 a2 a3 a4 a5 a6 a7 a8 a9 a10 x0 a11 a12 a13 a11 a14 a15 a16 x1 x2 x3 x4 x5 x6 x7 a8 (u.2.1 0) a16 f1 a7 f2 a14 a17 a17 f3))) (va_A (zS_141 cB cC cI cJ a0 a1 a2 a3 a4 a5 a6 a7 a8 a9 a10 x0 a11 a12 a13 a11 a14 a15 a16 x1 x2 x3 x4 x5 x6 x7 a8 f0 a16 f1 a7 f2 a14 a17 a17 f3) sz)) 0 0 (va_A (zS_141 cB cC cI cJ a0 a1 a2 a3 a4 a5 a6 a7 a8 a9 a10 x0 a11 a12 a13 a11 a14 a15 a16 x1 x2 x3 x4 x5 x6 x7 a8 f0 a16 f1 a7 f2 a14 a17 a17 f3) sz) := by
  refine gOf_i (by decide +kernel) (Nat.le_of_ble_eq_true rfl) ?_
  intro p e s m args below meth c ls A Q hx hb hts hown hml hN hK hP hD hA hl hret
  replace hown : s.vm.findClass RX11 = some m.cls := hown
  have hS : va_S A s.heap s.heap [] := va_S.rf
  replace hP : va_P D gcl (zS_141 cB cC cI cJ a0 a1 a2 a3 a4 a5 a6 a7 a8 a9 a10 x0 a11 a12 a13 a11 a14 a15 a16 x1 x2 x3 x4 x5 x6 x7 a8 f0 a16 f1 a7 f2 a14 a17 a17 f3) s.heap := hP
  replace hl : lv_has ls 7 [(0, .ref a0)] := hl
  have rx6 : zBd x6.toInt (-2147483648) 2147483647 := n_rng x6
  have rx7 : zBd x7.toInt (-2147483648) 2147483647 := n_rng x7
  refine lv_iconst (pc := 0) (v := (-1)) hx hb dX11_decode_0 (by decide) ?_
  refine lv_istore_n (pc := 1) (lv' := [(1, .int (-1)), (0, .ref a0)]) hx hb dX11_decode_1 rfl hl (by decide) rfl (fun ls hl => ?_)
  refine lv_lconst (pc := 2) (v := 0) hx hb dX11_decode_2 (by decide) ?_
  refine lv_lstore_n (pc := 3) (lv' := [(2, .long 0), (1, .int (-1)), (0, .ref a0)]) hx hb dX11_decode_3 rfl hl (by decide) rfl (fun ls hl => ?_)
  refine lv_iconst (pc := 4) (v := 0) hx hb dX11_decode_4 (by decide) ?_
  refine lv_istore (pc := 5) (lv' := [(4, .int 0), (2, .long 0), (1, .int (-1)), (0, .ref a0)]) hx hb dX11_decode_5 hl (by decide) rfl (fun ls hl => ?_)
  have lp_8 : ∀ (n : Nat) (x_1 x_5 : Int32) (y_3 : Int64) (f_7 : Nat → Int32) (H : Heap) (locs : List Loc) (ls : Array Slot), (0 ≤ x_1.toInt ∧ x_1.toInt ≤ 2147483647) → (2147483647 - x_1.toInt).toNat < n → va_P D gcl (zS_141 cB cC cI cJ a0 a1 a2 a3 a4 a5 a6 a7 a8 a9 a10 x0 a11 a12 a13 a11 a14 a15 a16 x1 x2 x3 x4 x5 x6 x7 a8 f_7 a16 f1 a7 f2 a14 a17 a17 f3) H → va_D A (zS_141 cB cC cI cJ a0 a1 a2 a3 a4 a5 a6 a7 a8 a9 a10 x0 a11 a12 a13 a11 a14 a15 a16 x1 x2 x3 x4 x5 x6 x7 a8 f_7 a16 f1 a7 f2 a14 a17 a17 f3) → va_S A s.heap H locs → lv_has ls 7 [(4, .int x_1), (2, .long y_3), (1, .int x_5), (0, .ref a0)] → W p l e ({ frames := 3, cells := 0, slots := 0, locals := 74 }) s m args below meth c H locs 0 0 Q (F0 m 7 ls []) := by
    intro n
    induction n with
    | zero => intro x_1 x_5 y_3 f_7 H locs ls hi_2 hmu; exact absurd hmu (Nat.not_lt_zero _)
    | succ n ih_lp_8 =>
      intro x_1 x_5 y_3 f_7 H locs ls hi_2 hmu_lp_8 hP hD hS hl
      have hi_4 := n_rngL y_3
      have hi_6 := n_rng x_5
      refine lv_iload (pc := 7) hx hb dX11_decode_7 (lv_at hl 0 rfl) ?_
      refine lv_aload_n (pc := 9) hx hb dX11_decode_9 rfl (lv_at hl 3 rfl) ?_
      refine va_get (pc := 10) (ci := 11) (v := .ref a11) (C := RX11) (T := TX11) (N := 14) hx hb hts iX11 hown hK hP 0 rfl rfl 11 (by decide) (hts _ tw_431) (fun _ h9 => h9) rfl dX11_decode_10 ?_
      refine va_getN (pc := 13) (ci := 1) (v := .int x5) (C := RX1) (T := TX1) (N := 10) hx hb hts iX1 hown hK hP 1 rfl rfl 7 (by decide) (va_Nw.use rfl (hN _ tn_137)) (fun _ h9 => h9) rfl dX11_decode_13 ?_
      refine b_icmp_ge (pc := 16) (tgt := 73) hx hb rfl rfl  dX11_decode_16 (by decide) (fun c_9 => ?_) (fun c_9 => ?_)
      ·
        as_aux_lemma =>
          refine lv_iload_n (pc := 73) hx hb dX11_decode_73 rfl (lv_at hl 2 rfl) ?_
          exact hret x_5 ((fun _ => 0), (fun k => [f_7].getD k (fun _ => 0)), (fun _ => (fun _ => 0)), (fun _ => 0), (fun _ => 0)) dX11_decode_74 (show ((((-2147483648) ≤ x_5.toInt ∧ x_5.toInt ≤ 2147483647) ∧ (0 ≤ x5.toInt ∧ x5.toInt ≤ 16))) from (by first | exact (om_1412 hi_6.1 hi_6.2 h_x5.1 h_x5.2) | ((first | omega | (unfold zBd at *; omega))))) (g_psub (wc := (zS_141 cB cC cI cJ a0 a1 a2 a3 a4 a5 a6 a7 a8 a9 a10 x0 a11 a12 a13 a11 a14 a15 a16 x1 x2 x3 x4 x5 x6 x7 a8 f_7 a16 f1 a7 f2 a14 a17 a17 f3)) hP [0, 1, 2, 3, 4, 5, 6] rfl) (hD.sub (ws' := (zS_141 cB cC cI cJ a0 a1 a2 a3 a4 a5 a6 a7 a8 a9 a10 x0 a11 a12 a13 a11 a14 a15 a16 x1 x2 x3 x4 x5 x6 x7 a8 f_7 a16 f1 a7 f2 a14 a17 a17 f3)) [0, 1, 2, 3, 4, 5, 6] (by decide) rfl) hS
      ·
        as_aux_lemma =>
          refine lv_aload_n (pc := 19) hx hb dX11_decode_19 rfl (lv_at hl 3 rfl) ?_
          refine va_get (pc := 20) (ci := 11) (v := .ref a11) (C := RX11) (T := TX11) (N := 14) hx hb hts iX11 hown hK hP 0 rfl rfl 11 (by decide) (hts _ tw_431) (fun _ h9 => h9) rfl dX11_decode_20 ?_
          refine lv_iload (pc := 23) hx hb dX11_decode_23 (lv_at hl 0 rfl) ?_
          refine lv_aload_n (pc := 25) hx hb dX11_decode_25 rfl (lv_at hl 3 rfl) ?_
          refine va_get (pc := 26) (ci := 11) (v := .ref a8) (C := RX11) (T := TX11) (N := 14) hx hb hts iX11 hown hK hP 0 rfl rfl 7 (by decide) (hts _ tw_427) (fun _ h9 => h9) rfl dX11_decode_26 ?_
          refine gd_v (pc := 29) (wc := (zS_140 cB cC cI cJ a11 a14 a15 a16 x1 x2 x3 x4 x5 x6 x7 a16 f1 a8 f_7)) hP hD hS hA [1, 3, 2] rfl (by decide +kernel) (fun _ => by rfl) (fun hPc hDc => va_runV (As := [.int x_1, .ref a8]) (rest := []) ⟨hx, hb, hml, hown, hts⟩ (k_X1_copyWord_5 l D cB cC cI cJ _ a11 a8 a14 a15 a16 x_1 x1 x2 x3 x4 x5 x6 x7 f1 f_7 (by first | exact (om_1113 hi_2.1 c_9 h_x5.2) | ((first | omega | (unfold zBd at *; omega)))) h_x1 h_x2 h_x3 h_x4 h_x5 hf_f1) ⟨gcwB hts tw_1218 tw_4 tw_1215 hd_yX1_copyWord ⟨Nat.le_of_ble_eq_true rfl, Nat.le_of_ble_eq_true rfl⟩, hts _ tw_1216, hts _ tw_1217⟩ ⟨gblind, va_recv hK hPc (ci := 1) (q0 := 0) rfl rfl, (gpreS hPc hK hDc hN).2⟩ rfl rfl hl.1 rfl (lv_room (Nat.le_of_ble_eq_true rfl)) dX11_decode_29 ⟨Nat.le_of_ble_eq_true rfl, Nat.le_of_ble_eq_true rfl⟩) (fun u_10 H locs hw_12 hP hD hS => ?_)
          replace hP : va_P D gcl (zS_141 cB cC cI cJ a0 a1 a2 a3 a4 a5 a6 a7 a8 a9 a10 x0 a11 a12 a13 a11 a14 a15 a16 x1 x2 x3 x4 x5 x6 x7 a8 (u_10.2.1 0) a16 f1 a7 f2 a14 a17 a17 f3) H := hP
          replace hD : va_D A (zS_141 cB cC cI cJ a0 a1 a2 a3 a4 a5 a6 a7 a8 a9 a10 x0 a11 a12 a13 a11 a14 a15 a16 x1 x2 x3 x4 x5 x6 x7 a8 (u_10.2.1 0) a16 f1 a7 f2 a14 a17 a17 f3) := hD
          have hw_13 : ((((-1) ≤ x2.toInt ∧ x2.toInt ≤ 5))) := hw_12
          refine lv_aload_n (pc := 32) hx hb dX11_decode_32 rfl (lv_at hl 3 rfl) ?_
          refine va_get (pc := 33) (ci := 11) (v := .ref a11) (C := RX11) (T := TX11) (N := 14) hx hb hts iX11 hown hK hP 0 rfl rfl 11 (by decide) (hts _ tw_431) (fun _ h9 => h9) rfl dX11_decode_33 ?_
          refine lv_aload_n (pc := 36) hx hb dX11_decode_36 rfl (lv_at hl 3 rfl) ?_
          refine va_get (pc := 37) (ci := 11) (v := .ref a8) (C := RX11) (T := TX11) (N := 14) hx hb hts iX11 hown hK hP 0 rfl rfl 7 (by decide) (hts _ tw_427) (fun _ h9 => h9) rfl dX11_decode_37 ?_
          as_aux_lemma =>
            refine lv_aload_n (pc := 40) hx hb dX11_decode_40 rfl (lv_at hl 3 rfl) ?_
            refine va_get (pc := 41) (ci := 11) (v := .ref a7) (C := RX11) (T := TX11) (N := 14) hx hb hts iX11 hown hK hP 0 rfl rfl 6 (by decide) (hts _ tw_426) (fun _ h9 => h9) rfl dX11_decode_41 ?_
            refine gd_l (pc := 44) (wc := (zS_138 cB cC cI cJ a11 a14 a15 a16 x1 x2 x3 x4 x5 x6 x7 a7 f2 a14 a17 a8 (u_10.2.1 0) a17 f3)) hP hD hS hA [1, 4, 5, 2, 6] rfl (by decide +kernel) (fun _ => by rfl) (fun hPc hDc => va_runV (As := [.ref a8, .ref a7]) (rest := []) ⟨hx, hb, hml, hown, hts⟩ (k_X1_distanceOf_5_6 l D cB cC cI cJ _ a11 a8 a7 a14 a15 a16 a17 x1 x2 x3 x4 x5 x6 x7 f2 (u_10.2.1 0) f3 h_x1 hw_13 h_x3 h_x4 h_x5) ⟨gcwB hts tw_842 tw_4 tw_839 hd_yX1_distanceOf ⟨Nat.le_of_ble_eq_true rfl, Nat.le_of_ble_eq_true rfl⟩, hts _ tw_840, hts _ tw_841⟩ ⟨gblind, va_recv hK hPc (ci := 1) (q0 := 0) rfl rfl, (gpreS hPc hK hDc hN).2⟩ rfl rfl hl.1 rfl (lv_room (Nat.le_of_ble_eq_true rfl)) dX11_decode_44 ⟨Nat.le_of_ble_eq_true rfl, Nat.le_of_ble_eq_true rfl⟩) (fun r_15 u_14 H locs hw_16 hP hD hS => ?_)
            replace hP : va_P D gcl (zS_141 cB cC cI cJ a0 a1 a2 a3 a4 a5 a6 a7 a8 a9 a10 x0 a11 a12 a13 a11 a14 a15 a16 x1 x2 x3 x4 x5 x6 x7 a8 (u_10.2.1 0) a16 f1 a7 f2 a14 a17 a17 f3) H := hP
            replace hD : va_D A (zS_141 cB cC cI cJ a0 a1 a2 a3 a4 a5 a6 a7 a8 a9 a10 x0 a11 a12 a13 a11 a14 a15 a16 x1 x2 x3 x4 x5 x6 x7 a8 (u_10.2.1 0) a16 f1 a7 f2 a14 a17 a17 f3) := hD
            have hw_17 : ((((-9223372036854775808) ≤ r_15.toInt ∧ r_15.toInt ≤ 9223372036854775807) ∧ ((-1) ≤ x3.toInt ∧ x3.toInt ≤ 6))) := hw_16
            have rr_15 := n_rngL r_15
            refine lv_lstore (pc := 47) (lv' := [(5, .long r_15), (4, .int x_1), (2, .long y_3), (1, .int x_5), (0, .ref a0)]) hx hb dX11_decode_47 hl (by decide) rfl (fun ls hl => ?_)
            refine lv_iload_n (pc := 49) hx hb dX11_decode_49 rfl (lv_at hl 3 rfl) ?_
            refine lv_iconst (pc := 50) (v := (-1)) hx hb dX11_decode_50 (by decide) ?_
            refine b_icmp_eq (pc := 51) (tgt := 61) hx hb rfl tI_m1  dX11_decode_51 (by decide) (fun c_18 => ?_) (fun c_18 => ?_)
            ·
              as_aux_lemma =>
                refine lv_iload (pc := 61) hx hb dX11_decode_61 (lv_at hl 1 rfl) ?_
                refine lv_istore_n (pc := 63) (lv' := [(1, .int x_1), (5, .long r_15), (4, .int x_1), (2, .long y_3), (0, .ref a0)]) hx hb dX11_decode_63 rfl hl (by decide) rfl (fun ls hl => ?_)
                refine lv_lload (pc := 64) hx hb dX11_decode_64 (lv_at hl 1 rfl) ?_
                refine lv_lstore_n (pc := 66) (lv' := [(2, .long r_15), (1, .int x_1), (5, .long r_15), (4, .int x_1), (0, .ref a0)]) hx hb dX11_decode_66 rfl hl (by decide) rfl (fun ls hl => ?_)
                refine b_iinc (pc := 67) hx hb dX11_decode_67 hl (k := 3) rfl rfl tI_1 (by first | exact (om_2 hi_2.1) | ((first | omega | (unfold zBd at *; omega)))) (by first | exact (om_1413 c_9 h_x5.2) | ((first | omega | (unfold zBd at *; omega)))) (by decide) (fun x_19 ex_19 ls hl => ?_)
                replace hl : lv_has ls 7 [(4, .int x_19), (2, .long r_15), (1, .int x_1), (5, .long r_15), (0, .ref a0)] := hl
                refine lv_goto (pc := 70) (tgt := 7) hx hb dX11_decode_70 (by decide) ?_
                exact ih_lp_8 x_19 x_1 r_15 (u_10.2.1 0) _ _ ls (by first | exact (om_1414 ex_19 hi_2.1 c_9 h_x5.2) | ((first | omega | (unfold zBd at *; omega)))) (by (first | omega | (unfold zBd at *; omega))) hP hD hS (lv_sub hl [0, 1, 2, 4] rfl)
            ·
              as_aux_lemma =>
                refine lv_lload (pc := 54) hx hb dX11_decode_54 (lv_at hl 0 rfl) ?_
                refine lv_lload_n (pc := 56) hx hb dX11_decode_56 rfl (lv_at hl 2 rfl) ?_
                refine b_lcmp_ge (pc := 57) (tgt := 67) hx hb rfl rfl dX11_decode_57 dX11_decode_58 (by decide) (fun c_20 => ?_) (fun c_20 => ?_)
                ·
                  as_aux_lemma =>
                    refine b_iinc (pc := 67) hx hb dX11_decode_67 hl (k := 1) rfl rfl tI_1 (by first | exact (om_2 hi_2.1) | ((first | omega | (unfold zBd at *; omega)))) (by first | exact (om_1413 c_9 h_x5.2) | ((first | omega | (unfold zBd at *; omega)))) (by decide) (fun x_21 ex_21 ls hl => ?_)
                    replace hl : lv_has ls 7 [(4, .int x_21), (5, .long r_15), (2, .long y_3), (1, .int x_5), (0, .ref a0)] := hl
                    refine lv_goto (pc := 70) (tgt := 7) hx hb dX11_decode_70 (by decide) ?_
                    exact ih_lp_8 x_21 x_5 y_3 (u_10.2.1 0) _ _ ls (by first | exact (om_1414 ex_21 hi_2.1 c_9 h_x5.2) | ((first | omega | (unfold zBd at *; omega)))) (by (first | omega | (unfold zBd at *; omega))) hP hD hS (lv_sub hl [0, 2, 3, 4] rfl)
                ·
                  as_aux_lemma =>
                    refine lv_iload (pc := 61) hx hb dX11_decode_61 (lv_at hl 1 rfl) ?_
                    refine lv_istore_n (pc := 63) (lv' := [(1, .int x_1), (5, .long r_15), (4, .int x_1), (2, .long y_3), (0, .ref a0)]) hx hb dX11_decode_63 rfl hl (by decide) rfl (fun ls hl => ?_)
                    refine lv_lload (pc := 64) hx hb dX11_decode_64 (lv_at hl 1 rfl) ?_
                    refine lv_lstore_n (pc := 66) (lv' := [(2, .long r_15), (1, .int x_1), (5, .long r_15), (4, .int x_1), (0, .ref a0)]) hx hb dX11_decode_66 rfl hl (by decide) rfl (fun ls hl => ?_)
                    refine b_iinc (pc := 67) hx hb dX11_decode_67 hl (k := 3) rfl rfl tI_1 (by first | exact (om_2 hi_2.1) | ((first | omega | (unfold zBd at *; omega)))) (by first | exact (om_1413 c_9 h_x5.2) | ((first | omega | (unfold zBd at *; omega)))) (by decide) (fun x_22 ex_22 ls hl => ?_)
                    replace hl : lv_has ls 7 [(4, .int x_22), (2, .long r_15), (1, .int x_1), (5, .long r_15), (0, .ref a0)] := hl
                    refine lv_goto (pc := 70) (tgt := 7) hx hb dX11_decode_70 (by decide) ?_
                    exact ih_lp_8 x_22 x_1 r_15 (u_10.2.1 0) _ _ ls (by first | exact (om_1414 ex_22 hi_2.1 c_9 h_x5.2) | ((first | omega | (unfold zBd at *; omega)))) (by (first | omega | (unfold zBd at *; omega))) hP hD hS (lv_sub hl [0, 1, 2, 4] rfl)
  exact lp_8 _ 0 (-1) 0 f0 _ _ ls (n_c tI_0 (by decide)) (Nat.lt_succ_self _) hP hD hS (lv_sub hl [0, 1, 2, 3] rfl)
theorem om_1415 {a b : Int} (h0 : (a < 0)) : (¬ (0 ≤ a ∧ a ≤ 1 ∧ 3 ≤ b)) := by omega
theorem om_1416 {a b : Int} (h0 : (a > 1)) : (¬ (0 ≤ a ∧ a ≤ 1 ∧ 3 ≤ b)) := by omega
theorem om_1417 {a b : Int} (h0 : (a ≥ b)) (h1 : (a ≤ b)) : (a = b) := by omega
theorem om_1418 {a b : Int} (h0 : (a ≥ 0)) (h1 : (a ≤ 1)) (h2 : (b ≥ 3)) : (0 ≤ a ∧ a ≤ 1 ∧ 3 ≤ b) := by omega
theorem om_1419 {a b c : Int} (h0 : (a ≥ 0)) (h1 : (a ≤ 1)) (h2 : (¬ a = 0)) : (a = 0 ∧ b = c ∨ a = 1 ∧ b = b) := by omega
theorem om_1420 {a b : Int} (h0 : (a = 0)) (h1 : (b ≥ 3)) : (0 ≤ a ∧ a ≤ 1 ∧ 3 ≤ b) := by omega
theorem om_1421 {a b c d : Int} (h0 : (a = 0)) (h1 : (b = c)) : (a = 0 ∧ b = c ∨ a = 1 ∧ b = d) := by omega
theorem om_1422 {a b : Int} (h0 : (0 ≤ a)) (h1 : (a < b)) (h2 : (b ≤ 16)) : (((-1) ≤ a ∧ a ≤ 15)) := by omega
theorem om_1423 {a b : Int} (h0 : (b < 3)) : (¬ (0 ≤ a ∧ a ≤ 1 ∧ 3 ≤ b)) := by omega
set_option maxHeartbeats 4000000 in
set_option maxRecDepth 100000 in
theorem k_X11_leave (l : Launch) (D : va_G) (cB cC cI cJ : ClassId) (sz : Nat) (a0 a1 a2 a3 a4 a5 a6 a7 a8 a9 a10 a11 a12 a13 a14 a15 a16 a17 a18 a19 : Nat) (x0 x1 x2 x3 x4 x5 x6 x7 x8 x9 x10 x11 x12 : Int32) (y0 : Int64) (f0 f1 f2 : Nat → Int32) (g0 : Nat → Int64) (h_x1 : zBd x1.toInt 0 14) (h_x2 : zBd x2.toInt (-1) 8) (h_x3 : zBd x3.toInt (-1) 5) (h_x4 : zBd x4.toInt (-1) 6) (h_x5 : zBd x5.toInt 0 6) (h_x6 : zBd x6.toInt 0 16) (hf_f0 : (∀ j, (-7) ≤ (f0 j).toInt ∧ (f0 j).toInt ≤ 7)) (h_x9 : zBd x9.toInt 0 16) (h_x10 : zBd x10.toInt 0 1) (h_x11 : zBd x11.toInt 0 256) (hg_kn : knQ x10.toInt x9.toInt g0 f1 f0 x3.toInt x4.toInt x6.toInt) : Met l yX11_leave (.code yX11_leave cX11_leave 6 (some .long) :: lw_gd) ({ frames := 4, cells := 0, slots := 0, locals := 98 }) (gPre D [(cB, .byte), (cC, .char), (cI, .int), (cJ, .long)] [.ref a0, .int x0] (zS_34 cB cC cI cJ a0 a1 a2 a3 a4 a5 a6 a7 a8 a9 a10 x1 a11 a12 a13 a11 a14 a15 a16 x2 x3 x4 x5 x6 x7 x8 a16 f0 a14 a17 a17 f1 a5 a18 a19 x9 x10 y0 x11 x12 a18 g0 a19 f2) sz) (va_Ql (fun r u => (0 ≤ (u.2.2.2.1 0).toInt ∧ (u.2.2.2.1 0).toInt ≤ 16) ∧ (0 ≤ (u.2.2.2.1 1).toInt ∧ (u.2.2.2.1 1).toInt ≤ 1) ∧ (0 ≤ (u.2.2.2.1 2).toInt ∧ (u.2.2.2.1 2).toInt ≤ 256) ∧ (knQ (u.2.2.2.1 1).toInt (u.2.2.2.1 0).toInt (u.2.2.1 0) f1 f0 x3.toInt x4.toInt x6.toInt) ∧ (lvQ r.toInt x0.toInt x6.toInt (lvX f1 f0 x3.toInt x4.toInt x6.toInt))) (gB D (va_A (zS_34 cB cC cI cJ a0 a1 a2 a3 a4 a5 a6 a7 a8 a9 a10 x1 a11 a12 a13 a11 a14 a15 a16 x2 x3 x4 x5 x6 x7 x8 a16 f0 a14 a17 a17 f1 a5 a18 a19 x9 x10 y0 x11 x12 a18 g0 a19 f2) sz) (fun u : gEx => (zS_34 cB cC cI cJ a0 a1 a2 a3 a4 a5 a6 a7 a8 a9 a10 x1 a11 a12 a13 a11 a14 a15 a16 x2 x3 x4 x5 x6 x7 x8 a16 f0 a14 a17 a17 f1 a5 a18 a19 (u.2.2.2.1 0) (u.2.2.2.1 1) (u.2.2.2.2 0) (u.2.2.2.1 2) (u.2.2.2.1 3) a18 (u.2.2.1 0) a19 (u.2.1 0)))) (va_A (zS_34 cB cC cI cJ a0 a1 a2 a3 a4 a5 a6 a7 a8 a9 a10 x1 a11 a12 a13 a11 a14 a15 a16 x2 x3 x4 x5 x6 x7 x8 a16 f0 a14 a17 a17 f1 a5 a18 a19 x9 x10 y0 x11 x12 a18 g0 a19 f2) sz)) 0 0 (va_A (zS_34 cB cC cI cJ a0 a1 a2 a3 a4 a5 a6 a7 a8 a9 a10 x1 a11 a12 a13 a11 a14 a15 a16 x2 x3 x4 x5 x6 x7 x8 a16 f0 a14 a17 a17 f1 a5 a18 a19 x9 x10 y0 x11 x12 a18 g0 a19 f2) sz) := by
  refine gOf_l (by decide +kernel) (Nat.le_of_ble_eq_true rfl) ?_
  intro p e s m args below meth c ls A Q hx hb hts hown hml hN hK hP hD hA hl hret
  replace hown : s.vm.findClass RX11 = some m.cls := hown
  have hS : va_S A s.heap s.heap [] := va_S.rf
  replace hP : va_P D gcl (zS_34 cB cC cI cJ a0 a1 a2 a3 a4 a5 a6 a7 a8 a9 a10 x1 a11 a12 a13 a11 a14 a15 a16 x2 x3 x4 x5 x6 x7 x8 a16 f0 a14 a17 a17 f1 a5 a18 a19 x9 x10 y0 x11 x12 a18 g0 a19 f2) s.heap := hP
  replace hl : lv_has ls 6 [(0, .ref a0), (1, .int x0)] := hl
  have rx0 : zBd x0.toInt (-2147483648) 2147483647 := n_rng x0
  have rx7 : zBd x7.toInt (-2147483648) 2147483647 := n_rng x7
  have rx8 : zBd x8.toInt (-2147483648) 2147483647 := n_rng x8
  have ry0 := n_rngL y0
  have rx12 : zBd x12.toInt (-2147483648) 2147483647 := n_rng x12
  refine lv_iload_n (pc := 0) hx hb dX11_leave_0 rfl (lv_at hl 1 rfl) ?_
  refine b_if_lt (pc := 1) (tgt := 20) hx hb rfl  dX11_leave_1 (by decide) (fun c_1 => ?_) (fun c_1 => ?_)
  ·
    as_aux_lemma =>
      refine lv_ldc2 (pc := 20) hx hb hown (hts _ tw_844) dX11_leave_20 ?_
      have k9 := tL_m1
      exact hret (-1) ((fun _ => 0), (fun k => [f2].getD k (fun _ => 0)), (fun k => [g0].getD k (fun _ => 0)), (fun k => [x9, x10, x11, x12].getD k 0), (fun k => [y0].getD k 0)) dX11_leave_23 ⟨(show (0 ≤ (x9 : Int32).toInt ∧ (x9 : Int32).toInt ≤ 16) from h_x9), (show (0 ≤ (x10 : Int32).toInt ∧ (x10 : Int32).toInt ≤ 1) from h_x10), (show (0 ≤ (x11 : Int32).toInt ∧ (x11 : Int32).toInt ≤ 256) from h_x11), (show knQ x10.toInt x9.toInt g0 f1 f0 x3.toInt x4.toInt x6.toInt from hg_kn), (show lvQ ((-1) : Int64).toInt x0.toInt x6.toInt (lvX f1 f0 x3.toInt x4.toInt x6.toInt) from lq_no (by first | exact (om_1415 c_1) | ((first | omega | (unfold zBd at *; omega)))) (by first | exact (om_65 tL_m1) | ((first | omega | (unfold zBd at *; omega)))))⟩ (g_psub (wc := (zS_34 cB cC cI cJ a0 a1 a2 a3 a4 a5 a6 a7 a8 a9 a10 x1 a11 a12 a13 a11 a14 a15 a16 x2 x3 x4 x5 x6 x7 x8 a16 f0 a14 a17 a17 f1 a5 a18 a19 x9 x10 y0 x11 x12 a18 g0 a19 f2)) hP [0, 1, 2, 3, 4, 5, 6, 7] rfl) (hD.sub (ws' := (zS_34 cB cC cI cJ a0 a1 a2 a3 a4 a5 a6 a7 a8 a9 a10 x1 a11 a12 a13 a11 a14 a15 a16 x2 x3 x4 x5 x6 x7 x8 a16 f0 a14 a17 a17 f1 a5 a18 a19 x9 x10 y0 x11 x12 a18 g0 a19 f2)) [0, 1, 2, 3, 4, 5, 6, 7] (by decide) rfl) hS
  ·
    as_aux_lemma =>
      refine lv_iload_n (pc := 4) hx hb dX11_leave_4 rfl (lv_at hl 1 rfl) ?_
      refine lv_iconst (pc := 5) (v := 1) hx hb dX11_leave_5 (by decide) ?_
      refine b_icmp_gt (pc := 6) (tgt := 20) hx hb rfl tI_1  dX11_leave_6 (by decide) (fun c_2 => ?_) (fun c_2 => ?_)
      ·
        as_aux_lemma =>
          refine lv_ldc2 (pc := 20) hx hb hown (hts _ tw_844) dX11_leave_20 ?_
          have k9 := tL_m1
          exact hret (-1) ((fun _ => 0), (fun k => [f2].getD k (fun _ => 0)), (fun k => [g0].getD k (fun _ => 0)), (fun k => [x9, x10, x11, x12].getD k 0), (fun k => [y0].getD k 0)) dX11_leave_23 ⟨(show (0 ≤ (x9 : Int32).toInt ∧ (x9 : Int32).toInt ≤ 16) from h_x9), (show (0 ≤ (x10 : Int32).toInt ∧ (x10 : Int32).toInt ≤ 1) from h_x10), (show (0 ≤ (x11 : Int32).toInt ∧ (x11 : Int32).toInt ≤ 256) from h_x11), (show knQ x10.toInt x9.toInt g0 f1 f0 x3.toInt x4.toInt x6.toInt from hg_kn), (show lvQ ((-1) : Int64).toInt x0.toInt x6.toInt (lvX f1 f0 x3.toInt x4.toInt x6.toInt) from lq_no (by first | exact (om_1416 c_2) | ((first | omega | (unfold zBd at *; omega)))) (by first | exact (om_65 tL_m1) | ((first | omega | (unfold zBd at *; omega)))))⟩ (g_psub (wc := (zS_34 cB cC cI cJ a0 a1 a2 a3 a4 a5 a6 a7 a8 a9 a10 x1 a11 a12 a13 a11 a14 a15 a16 x2 x3 x4 x5 x6 x7 x8 a16 f0 a14 a17 a17 f1 a5 a18 a19 x9 x10 y0 x11 x12 a18 g0 a19 f2)) hP [0, 1, 2, 3, 4, 5, 6, 7] rfl) (hD.sub (ws' := (zS_34 cB cC cI cJ a0 a1 a2 a3 a4 a5 a6 a7 a8 a9 a10 x1 a11 a12 a13 a11 a14 a15 a16 x2 x3 x4 x5 x6 x7 x8 a16 f0 a14 a17 a17 f1 a5 a18 a19 x9 x10 y0 x11 x12 a18 g0 a19 f2)) [0, 1, 2, 3, 4, 5, 6, 7] (by decide) rfl) hS
      ·
        as_aux_lemma =>
          refine lv_aload_n (pc := 9) hx hb dX11_leave_9 rfl (lv_at hl 0 rfl) ?_
          refine va_get (pc := 10) (ci := 11) (v := .ref a11) (C := RX11) (T := TX11) (N := 14) hx hb hts iX11 hown hK hP 0 rfl rfl 11 (by decide) (hts _ tw_431) (fun _ h9 => h9) rfl dX11_leave_10 ?_
          refine va_getN (pc := 13) (ci := 1) (v := .int x6) (C := RX1) (T := TX1) (N := 10) hx hb hts iX1 hown hK hP 1 rfl rfl 7 (by decide) (va_Nw.use rfl (hN _ tn_137)) (fun _ h9 => h9) rfl dX11_leave_13 ?_
          refine lv_iconst (pc := 16) (v := 3) hx hb dX11_leave_16 (by decide) ?_
          refine b_icmp_ge (pc := 17) (tgt := 24) hx hb rfl tI_3  dX11_leave_17 (by decide) (fun c_3 => ?_) (fun c_3 => ?_)
          ·
            as_aux_lemma =>
              refine lv_aload_n (pc := 24) hx hb dX11_leave_24 rfl (lv_at hl 0 rfl) ?_
              refine va_get (pc := 25) (ci := 11) (v := .ref a5) (C := RX11) (T := TX11) (N := 14) hx hb hts iX11 hown hK hP 0 rfl rfl 4 (by decide) (hts _ tw_424) (fun _ h9 => h9) rfl dX11_leave_25 ?_
              refine lv_aload_n (pc := 28) hx hb dX11_leave_28 rfl (lv_at hl 0 rfl) ?_
              refine va_get (pc := 29) (ci := 11) (v := .ref a11) (C := RX11) (T := TX11) (N := 14) hx hb hts iX11 hown hK hP 0 rfl rfl 11 (by decide) (hts _ tw_431) (fun _ h9 => h9) rfl dX11_leave_29 ?_
              refine gd_v (pc := 32) (wc := (zS_95 cB cC cI cJ a5 a18 a19 x9 x10 y0 x11 x12 a18 g0 a11 a14 a15 a16 x2 x3 x4 x5 x6 x7 x8 a16 f0 a14 a17 a17 f1 a19 f2)) hP hD hS hA [5, 6, 1, 2, 3, 4, 7] rfl (by decide +kernel) (fun _ => by rfl) (fun hPc hDc => va_runV (As := [.ref a11]) (rest := []) ⟨hx, hb, hml, hown, hts⟩ (k_X0_learn l D cB cC cI cJ _ a5 a11 a18 a19 a14 a15 a16 a17 x9 x10 x11 x12 x2 x3 x4 x5 x6 x7 x8 y0 f0 f1 f2 g0 h_x9 h_x10 h_x11 h_x2 h_x3 h_x4 h_x5 h_x6 hf_f0 (hg_kn)) ⟨gcwB hts tw_1195 tw_11 tw_1192 hd_yX0_learn ⟨Nat.le_of_ble_eq_true rfl, Nat.le_of_ble_eq_true rfl⟩, hts _ tw_1193, hts _ tw_1194⟩ ⟨gblind, va_recv hK hPc (ci := 0) (q0 := 0) rfl rfl, (gpreS hPc hK hDc hN).2⟩ rfl rfl hl.1 rfl (lv_room (Nat.le_of_ble_eq_true rfl)) dX11_leave_32 ⟨Nat.le_of_ble_eq_true rfl, Nat.le_of_ble_eq_true rfl⟩) (fun u_4 H locs hw_6 hP hD hS => ?_)
              replace hP : va_P D gcl (zS_34 cB cC cI cJ a0 a1 a2 a3 a4 a5 a6 a7 a8 a9 a10 x1 a11 a12 a13 a11 a14 a15 a16 x2 x3 x4 x5 x6 x7 x8 a16 f0 a14 a17 a17 f1 a5 a18 a19 (u_4.2.2.2.1 0) (u_4.2.2.2.1 1) y0 x11 x12 a18 (u_4.2.2.1 0) a19 (u_4.2.1 0)) H := hP
              replace hD : va_D A (zS_34 cB cC cI cJ a0 a1 a2 a3 a4 a5 a6 a7 a8 a9 a10 x1 a11 a12 a13 a11 a14 a15 a16 x2 x3 x4 x5 x6 x7 x8 a16 f0 a14 a17 a17 f1 a5 a18 a19 (u_4.2.2.2.1 0) (u_4.2.2.2.1 1) y0 x11 x12 a18 (u_4.2.2.1 0) a19 (u_4.2.1 0)) := hD
              obtain ⟨hw_7, hw_8, hw_9⟩ := hw_6
              replace hw_7 : zBd (u_4.2.2.2.1 0).toInt 0 16 := hw_7
              replace hw_8 : zBd (u_4.2.2.2.1 1).toInt 0 1 := hw_8
              replace hw_9 : ((u_4.2.2.2.1 0).toInt = x6.toInt ∧ wlQ (u_4.2.2.1 0) f1 f0 x3.toInt x4.toInt x6.toInt x6.toInt 0) := hw_9
              refine lv_iconst (pc := 35) (v := (-1)) hx hb dX11_leave_35 (by decide) ?_
              refine lv_istore_n (pc := 36) (lv' := [(2, .int (-1)), (0, .ref a0), (1, .int x0)]) hx hb dX11_leave_36 rfl hl (by decide) rfl (fun ls hl => ?_)
              refine lv_lconst (pc := 37) (v := 0) hx hb dX11_leave_37 (by decide) ?_
              refine lv_lstore_n (pc := 38) (lv' := [(3, .long 0), (2, .int (-1)), (0, .ref a0), (1, .int x0)]) hx hb dX11_leave_38 rfl hl (by decide) rfl (fun ls hl => ?_)
              refine lv_iconst (pc := 39) (v := 0) hx hb dX11_leave_39 (by decide) ?_
              as_aux_lemma =>
                refine lv_istore (pc := 40) (lv' := [(5, .int 0), (3, .long 0), (2, .int (-1)), (0, .ref a0), (1, .int x0)]) hx hb dX11_leave_40 hl (by decide) rfl (fun ls hl => ?_)
                have lp_24 : ∀ (n : Nat) (x_10 x_14 x_18 x_20 : Int32) (y_12 y_16 : Int64) (H : Heap) (locs : List Loc) (ls : Array Slot), (0 ≤ x_10.toInt ∧ x_10.toInt ≤ 16) → ((-1) ≤ x_14.toInt ∧ x_14.toInt ≤ 15) → (0 ≤ x_18.toInt ∧ x_18.toInt ≤ 256) → (x_10.toInt ≤ x6.toInt) → (lvE (lvX f1 f0 x3.toInt x4.toInt x6.toInt) x_14.toInt y_12.toInt x_10.toInt) → (2147483647 - x_10.toInt).toNat < n → va_P D gcl (zS_34 cB cC cI cJ a0 a1 a2 a3 a4 a5 a6 a7 a8 a9 a10 x1 a11 a12 a13 a11 a14 a15 a16 x2 x3 x4 x5 x6 x7 x8 a16 f0 a14 a17 a17 f1 a5 a18 a19 (u_4.2.2.2.1 0) (u_4.2.2.2.1 1) y_16 x_18 x_20 a18 (u_4.2.2.1 0) a19 (u_4.2.1 0)) H → va_D A (zS_34 cB cC cI cJ a0 a1 a2 a3 a4 a5 a6 a7 a8 a9 a10 x1 a11 a12 a13 a11 a14 a15 a16 x2 x3 x4 x5 x6 x7 x8 a16 f0 a14 a17 a17 f1 a5 a18 a19 (u_4.2.2.2.1 0) (u_4.2.2.2.1 1) y_16 x_18 x_20 a18 (u_4.2.2.1 0) a19 (u_4.2.1 0)) → va_S A s.heap H locs → lv_has ls 6 [(5, .int x_10), (3, .long y_12), (2, .int x_14), (0, .ref a0), (1, .int x0)] → W p l e ({ frames := 4, cells := 0, slots := 0, locals := 98 }) s m args below meth c H locs 0 0 Q (F0 m 42 ls []) := by
                  intro n
                  induction n with
                  | zero => intro x_10 x_14 x_18 x_20 y_12 y_16 H locs ls hi_11 hi_15 hi_19 hi_22 hi_23 hmu; exact absurd hmu (Nat.not_lt_zero _)
                  | succ n ih_lp_24 =>
                    intro x_10 x_14 x_18 x_20 y_12 y_16 H locs ls hi_11 hi_15 hi_19 hi_22 hi_23 hmu_lp_24 hP hD hS hl
                    have hi_13 := n_rngL y_12
                    have hi_17 := n_rngL y_16
                    have hi_21 := n_rng x_20
                    refine lv_iload (pc := 42) hx hb dX11_leave_42 (lv_at hl 0 rfl) ?_
                    refine lv_aload_n (pc := 44) hx hb dX11_leave_44 rfl (lv_at hl 3 rfl) ?_
                    refine va_get (pc := 45) (ci := 11) (v := .ref a11) (C := RX11) (T := TX11) (N := 14) hx hb hts iX11 hown hK hP 0 rfl rfl 11 (by decide) (hts _ tw_431) (fun _ h9 => h9) rfl dX11_leave_45 ?_
                    refine va_getN (pc := 48) (ci := 1) (v := .int x6) (C := RX1) (T := TX1) (N := 10) hx hb hts iX1 hown hK hP 1 rfl rfl 7 (by decide) (va_Nw.use rfl (hN _ tn_137)) (fun _ h9 => h9) rfl dX11_leave_48 ?_
                    refine b_icmp_ge (pc := 51) (tgt := 97) hx hb rfl rfl  dX11_leave_51 (by decide) (fun c_25 => ?_) (fun c_25 => ?_)
                    ·
                      as_aux_lemma =>
                        refine lv_iload_n (pc := 97) hx hb dX11_leave_97 rfl (lv_at hl 4 rfl) ?_
                        refine b_if_ne (pc := 98) (tgt := 106) hx hb rfl  dX11_leave_98 (by decide) (fun c_26 => ?_) (fun c_26 => ?_)
                        ·
                          as_aux_lemma =>
                            refine lv_lload_n (pc := 106) hx hb dX11_leave_106 rfl (lv_at hl 1 rfl) ?_
                            exact hret y_12 ((fun _ => 0), (fun k => [(u_4.2.1 0)].getD k (fun _ => 0)), (fun k => [(u_4.2.2.1 0)].getD k (fun _ => 0)), (fun k => [(u_4.2.2.2.1 0), (u_4.2.2.2.1 1), x_18, x_20].getD k 0), (fun k => [y_16].getD k 0)) dX11_leave_107 ⟨(show (0 ≤ ((u_4.2.2.2.1 0) : Int32).toInt ∧ ((u_4.2.2.2.1 0) : Int32).toInt ≤ 16) from hw_7), (show (0 ≤ ((u_4.2.2.2.1 1) : Int32).toInt ∧ ((u_4.2.2.2.1 1) : Int32).toInt ≤ 1) from hw_8), (show (0 ≤ (x_18 : Int32).toInt ∧ (x_18 : Int32).toInt ≤ 256) from hi_19), (show knQ (u_4.2.2.2.1 1).toInt (u_4.2.2.2.1 0).toInt (u_4.2.2.1 0) f1 f0 x3.toInt x4.toInt x6.toInt from Or.inr hw_9), (show lvQ y_12.toInt x0.toInt x6.toInt (lvX f1 f0 x3.toInt x4.toInt x6.toInt) from lq_yes hi_23 (by first | exact (om_1417 c_25 hi_22) | ((first | omega | (unfold zBd at *; omega)))) (by first | exact (om_1418 c_1 c_2 c_3) | ((first | omega | (unfold zBd at *; omega)))) (by first | exact (om_1419 c_1 c_2 c_26) | ((first | omega | (unfold zBd at *; omega)))))⟩ (g_psub (wc := (zS_34 cB cC cI cJ a0 a1 a2 a3 a4 a5 a6 a7 a8 a9 a10 x1 a11 a12 a13 a11 a14 a15 a16 x2 x3 x4 x5 x6 x7 x8 a16 f0 a14 a17 a17 f1 a5 a18 a19 (u_4.2.2.2.1 0) (u_4.2.2.2.1 1) y_16 x_18 x_20 a18 (u_4.2.2.1 0) a19 (u_4.2.1 0))) hP [0, 1, 2, 3, 4, 5, 6, 7] rfl) (hD.sub (ws' := (zS_34 cB cC cI cJ a0 a1 a2 a3 a4 a5 a6 a7 a8 a9 a10 x1 a11 a12 a13 a11 a14 a15 a16 x2 x3 x4 x5 x6 x7 x8 a16 f0 a14 a17 a17 f1 a5 a18 a19 (u_4.2.2.2.1 0) (u_4.2.2.2.1 1) y_16 x_18 x_20 a18 (u_4.2.2.1 0) a19 (u_4.2.1 0))) [0, 1, 2, 3, 4, 5, 6, 7] (by decide) rfl) hS
                        ·
                          as_aux_lemma =>
                            refine lv_iload_n (pc := 101) hx hb dX11_leave_101 rfl (lv_at hl 2 rfl) ?_
                            refine b_i2l (pc := 102) hx hb rfl dX11_leave_102 (fun y_27 ey_27 => ?_)
                            have ry_27 : zBd x_14.toInt (-2147483648) 2147483647 := n_rng x_14
                            refine lv_goto (pc := 103) (tgt := 107) hx hb dX11_leave_103 (by decide) ?_
                            exact hret y_27 ((fun _ => 0), (fun k => [(u_4.2.1 0)].getD k (fun _ => 0)), (fun k => [(u_4.2.2.1 0)].getD k (fun _ => 0)), (fun k => [(u_4.2.2.2.1 0), (u_4.2.2.2.1 1), x_18, x_20].getD k 0), (fun k => [y_16].getD k 0)) dX11_leave_107 ⟨(show (0 ≤ ((u_4.2.2.2.1 0) : Int32).toInt ∧ ((u_4.2.2.2.1 0) : Int32).toInt ≤ 16) from hw_7), (show (0 ≤ ((u_4.2.2.2.1 1) : Int32).toInt ∧ ((u_4.2.2.2.1 1) : Int32).toInt ≤ 1) from hw_8), (show (0 ≤ (x_18 : Int32).toInt ∧ (x_18 : Int32).toInt ≤ 256) from hi_19), (show knQ (u_4.2.2.2.1 1).toInt (u_4.2.2.2.1 0).toInt (u_4.2.2.1 0) f1 f0 x3.toInt x4.toInt x6.toInt from Or.inr hw_9), (show lvQ y_27.toInt x0.toInt x6.toInt (lvX f1 f0 x3.toInt x4.toInt x6.toInt) from lq_yes hi_23 (by first | exact (om_1417 c_25 hi_22) | ((first | omega | (unfold zBd at *; omega)))) (by first | exact (om_1420 c_26 c_3) | ((first | omega | (unfold zBd at *; omega)))) (by first | exact (om_1421 c_26 ey_27) | ((first | omega | (unfold zBd at *; omega)))))⟩ (g_psub (wc := (zS_34 cB cC cI cJ a0 a1 a2 a3 a4 a5 a6 a7 a8 a9 a10 x1 a11 a12 a13 a11 a14 a15 a16 x2 x3 x4 x5 x6 x7 x8 a16 f0 a14 a17 a17 f1 a5 a18 a19 (u_4.2.2.2.1 0) (u_4.2.2.2.1 1) y_16 x_18 x_20 a18 (u_4.2.2.1 0) a19 (u_4.2.1 0))) hP [0, 1, 2, 3, 4, 5, 6, 7] rfl) (hD.sub (ws' := (zS_34 cB cC cI cJ a0 a1 a2 a3 a4 a5 a6 a7 a8 a9 a10 x1 a11 a12 a13 a11 a14 a15 a16 x2 x3 x4 x5 x6 x7 x8 a16 f0 a14 a17 a17 f1 a5 a18 a19 (u_4.2.2.2.1 0) (u_4.2.2.2.1 1) y_16 x_18 x_20 a18 (u_4.2.2.1 0) a19 (u_4.2.1 0))) [0, 1, 2, 3, 4, 5, 6, 7] (by decide) rfl) hS
                    ·
                      as_aux_lemma =>
                        refine lv_aload_n (pc := 54) hx hb dX11_leave_54 rfl (lv_at hl 3 rfl) ?_
                        refine va_get (pc := 55) (ci := 11) (v := .ref a5) (C := RX11) (T := TX11) (N := 14) hx hb hts iX11 hown hK hP 0 rfl rfl 4 (by decide) (hts _ tw_424) (fun _ h9 => h9) rfl dX11_leave_55 ?_
                        refine lv_iload (pc := 58) hx hb dX11_leave_58 (lv_at hl 0 rfl) ?_
                        refine gd_v (pc := 60) (wc := (zS_47 cB cC cI cJ a5 a18 a19 (u_4.2.2.2.1 0) (u_4.2.2.2.1 1) y_16 x_18 x_20 a18 (u_4.2.2.1 0))) hP hD hS hA [5, 6] rfl (by decide +kernel) (fun _ => by rfl) (fun hPc hDc => va_runV (As := [.int x_10]) (rest := []) ⟨hx, hb, hml, hown, hts⟩ (k_X0_findLeast l D cB cC cI cJ _ a5 a18 a19 x_10 (u_4.2.2.2.1 0) (u_4.2.2.2.1 1) x_18 x_20 y_16 (u_4.2.2.1 0) hw_7 hw_8 hi_19) ⟨gcwB hts tw_1205 tw_11 tw_1202 hd_yX0_findLeast ⟨Nat.le_of_ble_eq_true rfl, Nat.le_of_ble_eq_true rfl⟩, hts _ tw_1203, hts _ tw_1204⟩ ⟨gblind, va_recv hK hPc (ci := 0) (q0 := 0) rfl rfl, (gpreS hPc hK hDc hN).2⟩ rfl rfl hl.1 rfl (lv_room (Nat.le_of_ble_eq_true rfl)) dX11_leave_60 ⟨Nat.le_of_ble_eq_true rfl, Nat.le_of_ble_eq_true rfl⟩) (fun u_28 H locs hw_30 hP hD hS => ?_)
                        replace hP : va_P D gcl (zS_34 cB cC cI cJ a0 a1 a2 a3 a4 a5 a6 a7 a8 a9 a10 x1 a11 a12 a13 a11 a14 a15 a16 x2 x3 x4 x5 x6 x7 x8 a16 f0 a14 a17 a17 f1 a5 a18 a19 (u_4.2.2.2.1 0) (u_4.2.2.2.1 1) (u_28.2.2.2.2 0) (u_28.2.2.2.1 0) (u_28.2.2.2.1 1) a18 (u_4.2.2.1 0) a19 (u_4.2.1 0)) H := hP
                        replace hD : va_D A (zS_34 cB cC cI cJ a0 a1 a2 a3 a4 a5 a6 a7 a8 a9 a10 x1 a11 a12 a13 a11 a14 a15 a16 x2 x3 x4 x5 x6 x7 x8 a16 f0 a14 a17 a17 f1 a5 a18 a19 (u_4.2.2.2.1 0) (u_4.2.2.2.1 1) (u_28.2.2.2.2 0) (u_28.2.2.2.1 0) (u_28.2.2.2.1 1) a18 (u_4.2.2.1 0) a19 (u_4.2.1 0)) := hD
                        have ru_28_0 := n_rngL (u_28.2.2.2.2 0)
                        have ru_28_1 : zBd (u_28.2.2.2.1 1).toInt (-2147483648) 2147483647 := n_rng (u_28.2.2.2.1 1)
                        obtain ⟨hw_31, hw_32⟩ := hw_30
                        replace hw_31 : zBd (u_28.2.2.2.1 0).toInt 0 256 := hw_31
                        replace hw_32 : (flE (flX (wrC (u_4.2.2.1 0)) (u_4.2.2.2.1 0).toInt x_10.toInt (1000000000000000, 0, x_20.toInt)) (u_28.2.2.2.2 0).toInt (u_28.2.2.2.1 0).toInt (u_28.2.2.2.1 1).toInt (16 * (u_4.2.2.2.1 0).toInt)) := hw_32
                        refine lv_iload_n (pc := 63) hx hb dX11_leave_63 rfl (lv_at hl 2 rfl) ?_
                        refine lv_iconst (pc := 64) (v := (-1)) hx hb dX11_leave_64 (by decide) ?_
                        refine b_icmp_eq (pc := 65) (tgt := 80) hx hb rfl tI_m1  dX11_leave_65 (by decide) (fun c_33 => ?_) (fun c_33 => ?_)
                        ·
                          as_aux_lemma =>
                            refine lv_iload (pc := 80) hx hb dX11_leave_80 (lv_at hl 0 rfl) ?_
                            refine lv_istore_n (pc := 82) (lv' := [(2, .int x_10), (5, .int x_10), (3, .long y_12), (0, .ref a0), (1, .int x0)]) hx hb dX11_leave_82 rfl hl (by decide) rfl (fun ls hl => ?_)
                            refine lv_aload_n (pc := 83) hx hb dX11_leave_83 rfl (lv_at hl 3 rfl) ?_
                            refine va_get (pc := 84) (ci := 11) (v := .ref a5) (C := RX11) (T := TX11) (N := 14) hx hb hts iX11 hown hK hP 0 rfl rfl 4 (by decide) (hts _ tw_424) (fun _ h9 => h9) rfl dX11_leave_84 ?_
                            refine va_getN (pc := 87) (ci := 0) (v := .long (u_28.2.2.2.2 0)) (C := RX0) (T := TX0) (N := 7) hx hb hts iX0 hown hK hP 5 rfl rfl 4 (by decide) (va_Nw.use rfl (hN _ tn_319)) (fun _ h9 => h9) rfl dX11_leave_87 ?_
                            refine lv_lstore_n (pc := 90) (lv' := [(3, .long (u_28.2.2.2.2 0)), (2, .int x_10), (5, .int x_10), (0, .ref a0), (1, .int x0)]) hx hb dX11_leave_90 rfl hl (by decide) rfl (fun ls hl => ?_)
                            refine b_iinc (pc := 91) hx hb dX11_leave_91 hl (k := 2) rfl rfl tI_1 (by first | exact (om_2 hi_11.1) | ((first | omega | (unfold zBd at *; omega)))) (by first | exact (om_941 hi_11.2) | ((first | omega | (unfold zBd at *; omega)))) (by decide) (fun x_34 ex_34 ls hl => ?_)
                            replace hl : lv_has ls 6 [(5, .int x_34), (3, .long (u_28.2.2.2.2 0)), (2, .int x_10), (0, .ref a0), (1, .int x0)] := hl
                            refine lv_goto (pc := 94) (tgt := 42) hx hb dX11_leave_94 (by decide) ?_
                            exact ih_lp_24 x_34 x_10 (u_28.2.2.2.1 0) (u_28.2.2.2.1 1) (u_28.2.2.2.2 0) (u_28.2.2.2.2 0) _ _ ls (by first | exact (om_1111 ex_34 hi_11.1 c_25 h_x6.2) | ((first | omega | (unfold zBd at *; omega)))) (by first | exact (om_1422 hi_11.1 c_25 h_x6.2) | ((first | omega | (unfold zBd at *; omega)))) hw_31 (by first | exact (om_40 ex_34 c_25) | ((first | omega | (unfold zBd at *; omega)))) (lv_step (v := (u_28.2.2.2.2 0).toInt) hi_23 (lv_kn hw_32 hw_9) (by (first | omega | (unfold zBd at *; omega))) (by (first | omega | (unfold zBd at *; omega))) (by (first | omega | (unfold zBd at *; omega)))) (by (first | omega | (unfold zBd at *; omega))) hP hD hS (lv_sub hl [0, 1, 2, 3, 4] rfl)
                        ·
                          as_aux_lemma =>
                            refine lv_aload_n (pc := 68) hx hb dX11_leave_68 rfl (lv_at hl 3 rfl) ?_
                            refine va_get (pc := 69) (ci := 11) (v := .ref a5) (C := RX11) (T := TX11) (N := 14) hx hb hts iX11 hown hK hP 0 rfl rfl 4 (by decide) (hts _ tw_424) (fun _ h9 => h9) rfl dX11_leave_69 ?_
                            refine va_getN (pc := 72) (ci := 0) (v := .long (u_28.2.2.2.2 0)) (C := RX0) (T := TX0) (N := 7) hx hb hts iX0 hown hK hP 5 rfl rfl 4 (by decide) (va_Nw.use rfl (hN _ tn_319)) (fun _ h9 => h9) rfl dX11_leave_72 ?_
                            refine lv_lload_n (pc := 75) hx hb dX11_leave_75 rfl (lv_at hl 1 rfl) ?_
                            refine b_lcmp_le (pc := 76) (tgt := 91) hx hb rfl rfl dX11_leave_76 dX11_leave_77 (by decide) (fun c_35 => ?_) (fun c_35 => ?_)
                            ·
                              as_aux_lemma =>
                                refine b_iinc (pc := 91) hx hb dX11_leave_91 hl (k := 0) rfl rfl tI_1 (by first | exact (om_2 hi_11.1) | ((first | omega | (unfold zBd at *; omega)))) (by first | exact (om_941 hi_11.2) | ((first | omega | (unfold zBd at *; omega)))) (by decide) (fun x_36 ex_36 ls hl => ?_)
                                replace hl : lv_has ls 6 [(5, .int x_36), (3, .long y_12), (2, .int x_14), (0, .ref a0), (1, .int x0)] := hl
                                refine lv_goto (pc := 94) (tgt := 42) hx hb dX11_leave_94 (by decide) ?_
                                exact ih_lp_24 x_36 x_14 (u_28.2.2.2.1 0) (u_28.2.2.2.1 1) y_12 (u_28.2.2.2.2 0) _ _ ls (by first | exact (om_1111 ex_36 hi_11.1 c_25 h_x6.2) | ((first | omega | (unfold zBd at *; omega)))) hi_15 hw_31 (by first | exact (om_40 ex_36 c_25) | ((first | omega | (unfold zBd at *; omega)))) (lv_step (v := (u_28.2.2.2.2 0).toInt) hi_23 (lv_kn hw_32 hw_9) (by (first | omega | (unfold zBd at *; omega))) (by (first | omega | (unfold zBd at *; omega))) (by (first | omega | (unfold zBd at *; omega)))) (by (first | omega | (unfold zBd at *; omega))) hP hD hS (lv_sub hl [0, 1, 2, 3, 4] rfl)
                            ·
                              as_aux_lemma =>
                                refine lv_iload (pc := 80) hx hb dX11_leave_80 (lv_at hl 0 rfl) ?_
                                refine lv_istore_n (pc := 82) (lv' := [(2, .int x_10), (5, .int x_10), (3, .long y_12), (0, .ref a0), (1, .int x0)]) hx hb dX11_leave_82 rfl hl (by decide) rfl (fun ls hl => ?_)
                                refine lv_aload_n (pc := 83) hx hb dX11_leave_83 rfl (lv_at hl 3 rfl) ?_
                                refine va_get (pc := 84) (ci := 11) (v := .ref a5) (C := RX11) (T := TX11) (N := 14) hx hb hts iX11 hown hK hP 0 rfl rfl 4 (by decide) (hts _ tw_424) (fun _ h9 => h9) rfl dX11_leave_84 ?_
                                refine va_getN (pc := 87) (ci := 0) (v := .long (u_28.2.2.2.2 0)) (C := RX0) (T := TX0) (N := 7) hx hb hts iX0 hown hK hP 5 rfl rfl 4 (by decide) (va_Nw.use rfl (hN _ tn_319)) (fun _ h9 => h9) rfl dX11_leave_87 ?_
                                refine lv_lstore_n (pc := 90) (lv' := [(3, .long (u_28.2.2.2.2 0)), (2, .int x_10), (5, .int x_10), (0, .ref a0), (1, .int x0)]) hx hb dX11_leave_90 rfl hl (by decide) rfl (fun ls hl => ?_)
                                refine b_iinc (pc := 91) hx hb dX11_leave_91 hl (k := 2) rfl rfl tI_1 (by first | exact (om_2 hi_11.1) | ((first | omega | (unfold zBd at *; omega)))) (by first | exact (om_941 hi_11.2) | ((first | omega | (unfold zBd at *; omega)))) (by decide) (fun x_37 ex_37 ls hl => ?_)
                                replace hl : lv_has ls 6 [(5, .int x_37), (3, .long (u_28.2.2.2.2 0)), (2, .int x_10), (0, .ref a0), (1, .int x0)] := hl
                                refine lv_goto (pc := 94) (tgt := 42) hx hb dX11_leave_94 (by decide) ?_
                                exact ih_lp_24 x_37 x_10 (u_28.2.2.2.1 0) (u_28.2.2.2.1 1) (u_28.2.2.2.2 0) (u_28.2.2.2.2 0) _ _ ls (by first | exact (om_1111 ex_37 hi_11.1 c_25 h_x6.2) | ((first | omega | (unfold zBd at *; omega)))) (by first | exact (om_1422 hi_11.1 c_25 h_x6.2) | ((first | omega | (unfold zBd at *; omega)))) hw_31 (by first | exact (om_40 ex_37 c_25) | ((first | omega | (unfold zBd at *; omega)))) (lv_step (v := (u_28.2.2.2.2 0).toInt) hi_23 (lv_kn hw_32 hw_9) (by (first | omega | (unfold zBd at *; omega))) (by (first | omega | (unfold zBd at *; omega))) (by (first | omega | (unfold zBd at *; omega)))) (by (first | omega | (unfold zBd at *; omega))) hP hD hS (lv_sub hl [0, 1, 2, 3, 4] rfl)
                exact lp_24 _ 0 (-1) x11 x12 0 y0 _ _ ls (n_c tI_0 (by decide)) (n_c tI_m1 (by decide)) h_x11 (by have q := tI_0; (first | omega | (unfold zBd at *; omega))) (lv_0 tI_m1 tL_0 (by first | exact (om_31 tI_0) | (have q := tI_0; (first | omega | (unfold zBd at *; omega))))) (Nat.lt_succ_self _) hP hD hS (lv_sub hl [0, 1, 2, 3, 4] rfl)
          ·
            as_aux_lemma =>
              refine lv_ldc2 (pc := 20) hx hb hown (hts _ tw_844) dX11_leave_20 ?_
              have k9 := tL_m1
              exact hret (-1) ((fun _ => 0), (fun k => [f2].getD k (fun _ => 0)), (fun k => [g0].getD k (fun _ => 0)), (fun k => [x9, x10, x11, x12].getD k 0), (fun k => [y0].getD k 0)) dX11_leave_23 ⟨(show (0 ≤ (x9 : Int32).toInt ∧ (x9 : Int32).toInt ≤ 16) from h_x9), (show (0 ≤ (x10 : Int32).toInt ∧ (x10 : Int32).toInt ≤ 1) from h_x10), (show (0 ≤ (x11 : Int32).toInt ∧ (x11 : Int32).toInt ≤ 256) from h_x11), (show knQ x10.toInt x9.toInt g0 f1 f0 x3.toInt x4.toInt x6.toInt from hg_kn), (show lvQ ((-1) : Int64).toInt x0.toInt x6.toInt (lvX f1 f0 x3.toInt x4.toInt x6.toInt) from lq_no (by first | exact (om_1423 c_3) | ((first | omega | (unfold zBd at *; omega)))) (by first | exact (om_65 tL_m1) | ((first | omega | (unfold zBd at *; omega)))))⟩ (g_psub (wc := (zS_34 cB cC cI cJ a0 a1 a2 a3 a4 a5 a6 a7 a8 a9 a10 x1 a11 a12 a13 a11 a14 a15 a16 x2 x3 x4 x5 x6 x7 x8 a16 f0 a14 a17 a17 f1 a5 a18 a19 x9 x10 y0 x11 x12 a18 g0 a19 f2)) hP [0, 1, 2, 3, 4, 5, 6, 7] rfl) (hD.sub (ws' := (zS_34 cB cC cI cJ a0 a1 a2 a3 a4 a5 a6 a7 a8 a9 a10 x1 a11 a12 a13 a11 a14 a15 a16 x2 x3 x4 x5 x6 x7 x8 a16 f0 a14 a17 a17 f1 a5 a18 a19 x9 x10 y0 x11 x12 a18 g0 a19 f2)) [0, 1, 2, 3, 4, 5, 6, 7] (by decide) rfl) hS
set_option maxHeartbeats 4000000 in
set_option maxRecDepth 100000 in
theorem k_X1_rowOfLetters_5 (l : Launch) (D : va_G) (cB cC cI cJ : ClassId) (sz : Nat) (a0 a1 a2 a3 a4 : Nat) (x0 x1 x2 x3 x4 x5 x6 : Int32) (f0 : Nat → Int32) (h_x0 : zBd x0.toInt (-1) 8) (h_x1 : zBd x1.toInt (-1) 5) (h_x2 : zBd x2.toInt (-1) 6) (h_x3 : zBd x3.toInt 0 6) (h_x4 : zBd x4.toInt 0 16) : Met l yX1_rowOfLetters (.code yX1_rowOfLetters cX1_rowOfLetters 4 (some .int) :: lw_gd) ({ frames := 1, cells := 0, slots := 0, locals := 21 }) (gPre D [(cB, .byte), (cC, .char), (cI, .int), (cJ, .long)] [.ref a0, .ref a1] (zS_164 cB cC cI cJ a0 a2 a3 a4 x0 x1 x2 x3 x4 x5 x6 a1 f0) sz) (va_Qi (fun r u => ((((-2147483648) ≤ r.toInt ∧ r.toInt ≤ 2147483647) ∧ ((-1) ≤ x1.toInt ∧ x1.toInt ≤ 5)))) (gB D (va_A (zS_164 cB cC cI cJ a0 a2 a3 a4 x0 x1 x2 x3 x4 x5 x6 a1 f0) sz) (fun u : gEx => (zS_164 cB cC cI cJ a0 a2 a3 a4 x0 x1 x2 x3 x4 x5 x6 a1 f0))) (va_A (zS_164 cB cC cI cJ a0 a2 a3 a4 x0 x1 x2 x3 x4 x5 x6 a1 f0) sz)) 0 0 (va_A (zS_164 cB cC cI cJ a0 a2 a3 a4 x0 x1 x2 x3 x4 x5 x6 a1 f0) sz) := by
  refine gOf_i (by decide +kernel) (Nat.le_of_ble_eq_true rfl) ?_
  intro p e s m args below meth c ls A Q hx hb hts hown hml hN hK hP hD hA hl hret
  replace hown : s.vm.findClass RX1 = some m.cls := hown
  have hS : va_S A s.heap s.heap [] := va_S.rf
  replace hP : va_P D gcl (zS_164 cB cC cI cJ a0 a2 a3 a4 x0 x1 x2 x3 x4 x5 x6 a1 f0) s.heap := hP
  replace hl : lv_has ls 4 [(0, .ref a0), (1, .ref a1)] := hl
  have rx5 : zBd x5.toInt (-2147483648) 2147483647 := n_rng x5
  have rx6 : zBd x6.toInt (-2147483648) 2147483647 := n_rng x6
  refine lv_iconst (pc := 0) (v := 0) hx hb dX1_rowOfLetters_0 (by decide) ?_
  refine lv_istore_n (pc := 1) (lv' := [(2, .int 0), (0, .ref a0), (1, .ref a1)]) hx hb dX1_rowOfLetters_1 rfl hl (by decide) rfl (fun ls hl => ?_)
  refine lv_iconst (pc := 2) (v := 0) hx hb dX1_rowOfLetters_2 (by decide) ?_
  refine lv_istore_n (pc := 3) (lv' := [(3, .int 0), (2, .int 0), (0, .ref a0), (1, .ref a1)]) hx hb dX1_rowOfLetters_3 rfl hl (by decide) rfl (fun ls hl => ?_)
  have lp_5 : ∀ (n : Nat) (x_1 x_3 : Int32) (H : Heap) (locs : List Loc) (ls : Array Slot), (0 ≤ x_1.toInt ∧ x_1.toInt ≤ 2147483647) → (2147483647 - x_1.toInt).toNat < n → va_P D gcl (zS_164 cB cC cI cJ a0 a2 a3 a4 x0 x1 x2 x3 x4 x5 x6 a1 f0) H → va_D A (zS_164 cB cC cI cJ a0 a2 a3 a4 x0 x1 x2 x3 x4 x5 x6 a1 f0) → va_S A s.heap H locs → lv_has ls 4 [(3, .int x_1), (2, .int x_3), (0, .ref a0), (1, .ref a1)] → W p l e ({ frames := 1, cells := 0, slots := 0, locals := 21 }) s m args below meth c H locs 0 0 Q (F0 m 4 ls []) := by
    intro n
    induction n with
    | zero => intro x_1 x_3 H locs ls hi_2 hmu; exact absurd hmu (Nat.not_lt_zero _)
    | succ n ih_lp_5 =>
      intro x_1 x_3 H locs ls hi_2 hmu_lp_5 hP hD hS hl
      have hi_4 := n_rng x_3
      refine lv_iload_n (pc := 4) hx hb dX1_rowOfLetters_4 rfl (lv_at hl 0 rfl) ?_
      refine lv_aload_n (pc := 5) hx hb dX1_rowOfLetters_5 rfl (lv_at hl 2 rfl) ?_
      refine va_get (pc := 6) (ci := 1) (v := .int x1) (C := RX1) (T := TX1) (N := 10) hx hb hts iX1 hown hK hP 0 rfl rfl 4 (by decide) (hts _ tw_116) (fun _ h9 => h9) rfl dX1_rowOfLetters_6 ?_
      have bd_h_x1 : (-1) ≤ x1.toInt ∧ x1.toInt ≤ 5 := h_x1
      refine b_icmp_ge (pc := 9) (tgt := 33) hx hb rfl rfl  dX1_rowOfLetters_9 (by decide) (fun c_6 => ?_) (fun c_6 => ?_)
      ·
        as_aux_lemma =>
          refine lv_iload_n (pc := 33) hx hb dX1_rowOfLetters_33 rfl (lv_at hl 1 rfl) ?_
          exact hret x_3 ((fun _ => 0), (fun _ => (fun _ => 0)), (fun _ => (fun _ => 0)), (fun _ => 0), (fun _ => 0)) dX1_rowOfLetters_34 (show ((((-2147483648) ≤ x_3.toInt ∧ x_3.toInt ≤ 2147483647) ∧ ((-1) ≤ x1.toInt ∧ x1.toInt ≤ 5))) from (by first | exact (om_1020 hi_4.1 hi_4.2 h_x1.1 h_x1.2) | ((first | omega | (unfold zBd at *; omega))))) (g_psub (wc := (zS_164 cB cC cI cJ a0 a2 a3 a4 x0 x1 x2 x3 x4 x5 x6 a1 f0)) hP [0, 1] rfl) (hD.sub (ws' := (zS_164 cB cC cI cJ a0 a2 a3 a4 x0 x1 x2 x3 x4 x5 x6 a1 f0)) [0, 1] (by decide) rfl) hS
      ·
        as_aux_lemma =>
          refine lv_iload_n (pc := 12) hx hb dX1_rowOfLetters_12 rfl (lv_at hl 1 rfl) ?_
          refine lv_aload_n (pc := 13) hx hb dX1_rowOfLetters_13 rfl (lv_at hl 2 rfl) ?_
          refine va_get (pc := 14) (ci := 1) (v := .int x0) (C := RX1) (T := TX1) (N := 10) hx hb hts iX1 hown hK hP 0 rfl rfl 3 (by decide) (hts _ tw_110) (fun _ h9 => h9) rfl dX1_rowOfLetters_14 ?_
          have bd_h_x0 : (-1) ≤ x0.toInt ∧ x0.toInt ≤ 8 := h_x0
          refine lv_imul (pc := 17) hx hb dX1_rowOfLetters_17 ?_
          refine lv_topi (fun x_7 _ => ?_)
          have rx_7 : zBd x_7.toInt (-2147483648) 2147483647 := n_rng x_7
          refine lv_aload_n (pc := 18) hx hb dX1_rowOfLetters_18 rfl (lv_at hl 2 rfl) ?_
          refine lv_aload_n (pc := 19) hx hb dX1_rowOfLetters_19 rfl (lv_at hl 3 rfl) ?_
          refine lv_iload_n (pc := 20) hx hb dX1_rowOfLetters_20 rfl (lv_at hl 0 rfl) ?_
          refine va_iald (pc := 21) hx hb hK hP 1 2 rfl rfl (n_in rfl (by first | exact (om_0 hi_2.1) | ((first | omega | (unfold zBd at *; omega)))) (by first | exact (om_1021 c_6 h_x1.2) | ((first | omega | (unfold zBd at *; omega))))) dX1_rowOfLetters_21 ?_
          refine lv_topi (fun x_8 ex_8 => ?_)
          have rx_8 : zBd x_8.toInt (-2147483648) 2147483647 := n_rng x_8
          as_aux_lemma =>
            refine gd_i (pc := 22) (wc := (zS_5 cB cC cI cJ a0 a2 a3 a4 x0 x1 x2 x3 x4 x5 x6)) hP hD hS hA [0] rfl (by decide +kernel) (fun _ => by rfl) (fun hPc hDc => va_runV (As := [.int x_8]) (rest := [.int x_7]) ⟨hx, hb, hml, hown, hts⟩ (k_X1_digitOfLetter l D cB cC cI cJ _ a0 a2 a3 a4 x_8 x0 x1 x2 x3 x4 x5 x6 h_x0 h_x1 h_x2 h_x3 h_x4) ⟨gcwB hts tw_1008 tw_4 tw_1231 hd_yX1_digitOfLetter ⟨Nat.le_of_ble_eq_true rfl, Nat.le_of_ble_eq_true rfl⟩, hts _ tw_1006, hts _ tw_1007⟩ ⟨gblind, va_recv hK hPc (ci := 1) (q0 := 0) rfl rfl, (gpreS hPc hK hDc hN).2⟩ rfl rfl hl.1 rfl (lv_room (Nat.le_of_ble_eq_true rfl)) dX1_rowOfLetters_22 ⟨Nat.le_of_ble_eq_true rfl, Nat.le_of_ble_eq_true rfl⟩) (fun r_10 u_9 H locs hw_11 hP hD hS => ?_)
            replace hP : va_P D gcl (zS_164 cB cC cI cJ a0 a2 a3 a4 x0 x1 x2 x3 x4 x5 x6 a1 f0) H := hP
            replace hD : va_D A (zS_164 cB cC cI cJ a0 a2 a3 a4 x0 x1 x2 x3 x4 x5 x6 a1 f0) := hD
            have hw_12 : (((0 ≤ r_10.toInt ∧ r_10.toInt ≤ 7) ∧ (-x0.toInt < x_8.toInt ∧ x_8.toInt < x0.toInt)) ∨ (((-2147483648) ≤ r_10.toInt ∧ r_10.toInt ≤ 2147483647) ∧ ¬ (-x0.toInt < x_8.toInt ∧ x_8.toInt < x0.toInt))) := hw_11
            have rr_10 : zBd r_10.toInt (-2147483648) 2147483647 := n_rng r_10
            refine lv_iadd (pc := 25) hx hb dX1_rowOfLetters_25 ?_
            refine lv_topi (fun x_13 _ => ?_)
            have rx_13 : zBd x_13.toInt (-2147483648) 2147483647 := n_rng x_13
            refine lv_istore_n (pc := 26) (lv' := [(2, .int x_13), (3, .int x_1), (0, .ref a0), (1, .ref a1)]) hx hb dX1_rowOfLetters_26 rfl hl (by decide) rfl (fun ls hl => ?_)
            refine b_iinc (pc := 27) hx hb dX1_rowOfLetters_27 hl (k := 1) rfl rfl tI_1 (by first | exact (om_2 hi_2.1) | ((first | omega | (unfold zBd at *; omega)))) (by first | exact (om_338 c_6 h_x1.2) | ((first | omega | (unfold zBd at *; omega)))) (by decide) (fun x_14 ex_14 ls hl => ?_)
            replace hl : lv_has ls 4 [(3, .int x_14), (2, .int x_13), (0, .ref a0), (1, .ref a1)] := hl
            refine lv_goto (pc := 30) (tgt := 4) hx hb dX1_rowOfLetters_30 (by decide) ?_
            exact ih_lp_5 x_14 x_13 _ _ ls (by first | exact (om_339 ex_14 hi_2.1 c_6 h_x1.2) | ((first | omega | (unfold zBd at *; omega)))) (by (first | omega | (unfold zBd at *; omega))) hP hD hS (lv_sub hl [0, 1, 2, 3] rfl)
  exact lp_5 _ 0 0 _ _ ls (n_c tI_0 (by decide)) (Nat.lt_succ_self _) hP hD hS (lv_sub hl [0, 1, 2, 3] rfl)
theorem om_1424 {a b c : Int} (h0 : ((-2147483648) ≤ a)) (h1 : (a ≤ 2147483647)) : (((((-2147483648) ≤ a ∧ a ≤ 2147483647)) ∨ (a = (-1) ∧ b = c))) := by omega
theorem om_1425 {a b : Int} (h0 : (a = (-1))) : (((((-2147483648) ≤ a ∧ a ≤ 2147483647)) ∨ (a = (-1) ∧ b = b))) := by omega
set_option maxHeartbeats 4000000 in
set_option maxRecDepth 100000 in
theorem k_X11_behind (l : Launch) (D : va_G) (cB cC cI cJ : ClassId) (sz : Nat) (a0 a1 a2 a3 a4 a5 a6 a7 a8 a9 a10 a11 a12 a13 a14 a15 a16 a17 a18 a19 a20 a21 a22 a23 a24 a25 a26 a27 a28 a29 a30 a31 a32 : Nat) (x0 x1 x2 x3 x4 x5 x6 x7 x8 x9 x10 x11 : Int32) (y0 : Int64) (f0 f1 f2 f3 f4 f5 f6 f7 : Nat → Int32) (g0 g1 g2 : Nat → Int64) (h_x1 : zBd x1.toInt 0 14) (h_x2 : zBd x2.toInt (-1) 8) (h_x3 : zBd x3.toInt (-1) 5) (h_x4 : zBd x4.toInt (-1) 6) (h_x5 : zBd x5.toInt 0 6) (h_x6 : zBd x6.toInt 0 16) (hf_f1 : (∀ j, (-7) ≤ (f1 j).toInt ∧ (f1 j).toInt ≤ 7)) (h_x9 : zBd x9.toInt 0 10) (h_x10 : zBd x10.toInt 0 1) (h_x11 : zBd x11.toInt 0 4) (hf_f6 : (∀ j, (-1) ≤ (f6 j).toInt ∧ (f6 j).toInt ≤ 8)) (hf_f7 : (∀ j, 0 ≤ (f7 j).toInt ∧ (f7 j).toInt ≤ 7)) : Met l yX11_behind (.code yX11_behind cX11_behind 4 (some .int) :: lw_gd) ({ frames := 5, cells := 0, slots := 0, locals := 123 }) (gPre D [(cB, .byte), (cC, .char), (cI, .int), (cJ, .long)] [.ref a0, .int x0] (zS_123 cB cC cI cJ a0 a1 a2 a3 a4 a5 a6 a7 a8 a9 a10 x1 a11 a12 a13 a11 a14 a15 a16 x2 x3 x4 x5 x6 x7 x8 a8 f0 a16 f1 a7 f2 a14 a17 a17 f3 a3 a18 a19 a20 a21 a22 a23 a24 a25 x9 y0 x10 a18 a26 a27 a28 a29 a30 a31 a32 x11 a26 g0 a28 g1 a27 g2 a29 f4 a30 f5 a31 f6 a32 f7) sz) (va_Qi (fun r u => ((((-2147483648) ≤ r.toInt ∧ r.toInt ≤ 2147483647)) ∨ (r.toInt = (-1) ∧ (u.2.2.2.1 0).toInt = x11.toInt)) ∧ (0 ≤ (u.2.2.2.1 0).toInt ∧ (u.2.2.2.1 0).toInt ≤ 4) ∧ (∀ j, (-1) ≤ ((u.2.1 3) j).toInt ∧ ((u.2.1 3) j).toInt ≤ 8) ∧ (∀ j, 0 ≤ ((u.2.1 4) j).toInt ∧ ((u.2.1 4) j).toInt ≤ 7)) (gB D (va_A (zS_123 cB cC cI cJ a0 a1 a2 a3 a4 a5 a6 a7 a8 a9 a10 x1 a11 a12 a13 a11 a14 a15 a16 x2 x3 x4 x5 x6 x7 x8 a8 f0 a16 f1 a7 f2 a14 a17 a17 f3 a3 a18 a19 a20 a21 a22 a23 a24 a25 x9 y0 x10 a18 a26 a27 a28 a29 a30 a31 a32 x11 a26 g0 a28 g1 a27 g2 a29 f4 a30 f5 a31 f6 a32 f7) sz) (fun u : gEx => (zS_123 cB cC cI cJ a0 a1 a2 a3 a4 a5 a6 a7 a8 a9 a10 x1 a11 a12 a13 a11 a14 a15 a16 x2 x3 x4 x5 x6 x7 x8 a8 (u.2.1 0) a16 f1 a7 f2 a14 a17 a17 f3 a3 a18 a19 a20 a21 a22 a23 a24 a25 x9 y0 x10 a18 a26 a27 a28 a29 a30 a31 a32 (u.2.2.2.1 0) a26 (u.2.2.1 0) a28 (u.2.2.1 1) a27 (u.2.2.1 2) a29 (u.2.1 1) a30 (u.2.1 2) a31 (u.2.1 3) a32 (u.2.1 4)))) (va_A (zS_123 cB cC cI cJ a0 a1 a2 a3 a4 a5 a6 a7 a8 a9 a10 x1 a11 a12 a13 a11 a14 a15 a16 x2 x3 x4 x5 x6 x7 x8 a8 f0 a16 f1 a7 f2 a14 a17 a17 f3 a3 a18 a19 a20 a21 a22 a23 a24 a25 x9 y0 x10 a18 a26 a27 a28 a29 a30 a31 a32 x11 a26 g0 a28 g1 a27 g2 a29 f4 a30 f5 a31 f6 a32 f7) sz)) 0 0 (va_A (zS_123 cB cC cI cJ a0 a1 a2 a3 a4 a5 a6 a7 a8 a9 a10 x1 a11 a12 a13 a11 a14 a15 a16 x2 x3 x4 x5 x6 x7 x8 a8 f0 a16 f1 a7 f2 a14 a17 a17 f3 a3 a18 a19 a20 a21 a22 a23 a24 a25 x9 y0 x10 a18 a26 a27 a28 a29 a30 a31 a32 x11 a26 g0 a28 g1 a27 g2 a29 f4 a30 f5 a31 f6 a32 f7) sz) := by
  refine gOf_i (by decide +kernel) (Nat.le_of_ble_eq_true rfl) ?_
  intro p e s m args below meth c ls A Q hx hb hts hown hml hN hK hP hD hA hl hret
  replace hown : s.vm.findClass RX11 = some m.cls := hown
  have hS : va_S A s.heap s.heap [] := va_S.rf
  replace hP : va_P D gcl (zS_123 cB cC cI cJ a0 a1 a2 a3 a4 a5 a6 a7 a8 a9 a10 x1 a11 a12 a13 a11 a14 a15 a16 x2 x3 x4 x5 x6 x7 x8 a8 f0 a16 f1 a7 f2 a14 a17 a17 f3 a3 a18 a19 a20 a21 a22 a23 a24 a25 x9 y0 x10 a18 a26 a27 a28 a29 a30 a31 a32 x11 a26 g0 a28 g1 a27 g2 a29 f4 a30 f5 a31 f6 a32 f7) s.heap := hP
  replace hl : lv_has ls 4 [(0, .ref a0), (1, .int x0)] := hl
  have rx0 : zBd x0.toInt (-2147483648) 2147483647 := n_rng x0
  have rx7 : zBd x7.toInt (-2147483648) 2147483647 := n_rng x7
  have rx8 : zBd x8.toInt (-2147483648) 2147483647 := n_rng x8
  have ry0 := n_rngL y0
  refine lv_aload_n (pc := 0) hx hb dX11_behind_0 rfl (lv_at hl 0 rfl) ?_
  refine va_get (pc := 1) (ci := 11) (v := .ref a11) (C := RX11) (T := TX11) (N := 14) hx hb hts iX11 hown hK hP 0 rfl rfl 11 (by decide) (hts _ tw_431) (fun _ h9 => h9) rfl dX11_behind_1 ?_
  refine lv_iload_n (pc := 4) hx hb dX11_behind_4 rfl (lv_at hl 1 rfl) ?_
  refine gd_i (pc := 5) (wc := (zS_5 cB cC cI cJ a11 a14 a15 a16 x2 x3 x4 x5 x6 x7 x8)) hP hD hS hA [1] rfl (by decide +kernel) (fun _ => by rfl) (fun hPc hDc => va_runV (As := [.int x0]) (rest := []) ⟨hx, hb, hml, hown, hts⟩ (k_X1_isWord l D cB cC cI cJ _ a11 a14 a15 a16 x0 x2 x3 x4 x5 x6 x7 x8 h_x2 h_x3 h_x4 h_x5 h_x6) ⟨gcwB hts tw_1177 tw_4 tw_1174 hd_yX1_isWord ⟨Nat.le_of_ble_eq_true rfl, Nat.le_of_ble_eq_true rfl⟩, hts _ tw_1175, hts _ tw_1176⟩ ⟨gblind, va_recv hK hPc (ci := 1) (q0 := 0) rfl rfl, (gpreS hPc hK hDc hN).2⟩ rfl rfl hl.1 rfl (lv_room (Nat.le_of_ble_eq_true rfl)) dX11_behind_5 ⟨Nat.le_of_ble_eq_true rfl, Nat.le_of_ble_eq_true rfl⟩) (fun r_2 u_1 H locs hw_3 hP hD hS => ?_)
  replace hP : va_P D gcl (zS_123 cB cC cI cJ a0 a1 a2 a3 a4 a5 a6 a7 a8 a9 a10 x1 a11 a12 a13 a11 a14 a15 a16 x2 x3 x4 x5 x6 x7 x8 a8 f0 a16 f1 a7 f2 a14 a17 a17 f3 a3 a18 a19 a20 a21 a22 a23 a24 a25 x9 y0 x10 a18 a26 a27 a28 a29 a30 a31 a32 x11 a26 g0 a28 g1 a27 g2 a29 f4 a30 f5 a31 f6 a32 f7) H := hP
  replace hD : va_D A (zS_123 cB cC cI cJ a0 a1 a2 a3 a4 a5 a6 a7 a8 a9 a10 x1 a11 a12 a13 a11 a14 a15 a16 x2 x3 x4 x5 x6 x7 x8 a8 f0 a16 f1 a7 f2 a14 a17 a17 f3 a3 a18 a19 a20 a21 a22 a23 a24 a25 x9 y0 x10 a18 a26 a27 a28 a29 a30 a31 a32 x11 a26 g0 a28 g1 a27 g2 a29 f4 a30 f5 a31 f6 a32 f7) := hD
  have hw_4 : ((r_2.toInt = 0 ∧ x0.toInt < 0) ∨ (r_2.toInt = 0 ∧ x0.toInt ≥ 0 ∧ x0.toInt ≥ x6.toInt) ∨ (r_2.toInt = 1 ∧ x0.toInt ≥ 0 ∧ x0.toInt < x6.toInt)) := hw_3
  have rr_2 : zBd r_2.toInt (-2147483648) 2147483647 := n_rng r_2
  refine b_if_ne (pc := 8) (tgt := 13) hx hb rfl  dX11_behind_8 (by decide) (fun c_5 => ?_) (fun c_5 => ?_)
  ·
    as_aux_lemma =>
      refine lv_aload_n (pc := 13) hx hb dX11_behind_13 rfl (lv_at hl 0 rfl) ?_
      refine va_get (pc := 14) (ci := 11) (v := .ref a11) (C := RX11) (T := TX11) (N := 14) hx hb hts iX11 hown hK hP 0 rfl rfl 11 (by decide) (hts _ tw_431) (fun _ h9 => h9) rfl dX11_behind_14 ?_
      refine lv_iload_n (pc := 17) hx hb dX11_behind_17 rfl (lv_at hl 1 rfl) ?_
      refine lv_aload_n (pc := 18) hx hb dX11_behind_18 rfl (lv_at hl 0 rfl) ?_
      refine va_get (pc := 19) (ci := 11) (v := .ref a8) (C := RX11) (T := TX11) (N := 14) hx hb hts iX11 hown hK hP 0 rfl rfl 7 (by decide) (hts _ tw_427) (fun _ h9 => h9) rfl dX11_behind_19 ?_
      refine gd_v (pc := 22) (wc := (zS_140 cB cC cI cJ a11 a14 a15 a16 x2 x3 x4 x5 x6 x7 x8 a16 f1 a8 f0)) hP hD hS hA [1, 3, 2] rfl (by decide +kernel) (fun _ => by rfl) (fun hPc hDc => va_runV (As := [.int x0, .ref a8]) (rest := []) ⟨hx, hb, hml, hown, hts⟩ (k_X1_copyWord_5 l D cB cC cI cJ _ a11 a8 a14 a15 a16 x0 x2 x3 x4 x5 x6 x7 x8 f1 f0 (by first | exact (om_1409 hw_4 c_5 h_x6.2) | ((first | omega | (unfold zBd at *; omega)))) h_x2 h_x3 h_x4 h_x5 h_x6 hf_f1) ⟨gcwB hts tw_1218 tw_4 tw_1215 hd_yX1_copyWord ⟨Nat.le_of_ble_eq_true rfl, Nat.le_of_ble_eq_true rfl⟩, hts _ tw_1216, hts _ tw_1217⟩ ⟨gblind, va_recv hK hPc (ci := 1) (q0 := 0) rfl rfl, (gpreS hPc hK hDc hN).2⟩ rfl rfl hl.1 rfl (lv_room (Nat.le_of_ble_eq_true rfl)) dX11_behind_22 ⟨Nat.le_of_ble_eq_true rfl, Nat.le_of_ble_eq_true rfl⟩) (fun u_6 H locs hw_8 hP hD hS => ?_)
      replace hP : va_P D gcl (zS_123 cB cC cI cJ a0 a1 a2 a3 a4 a5 a6 a7 a8 a9 a10 x1 a11 a12 a13 a11 a14 a15 a16 x2 x3 x4 x5 x6 x7 x8 a8 (u_6.2.1 0) a16 f1 a7 f2 a14 a17 a17 f3 a3 a18 a19 a20 a21 a22 a23 a24 a25 x9 y0 x10 a18 a26 a27 a28 a29 a30 a31 a32 x11 a26 g0 a28 g1 a27 g2 a29 f4 a30 f5 a31 f6 a32 f7) H := hP
      replace hD : va_D A (zS_123 cB cC cI cJ a0 a1 a2 a3 a4 a5 a6 a7 a8 a9 a10 x1 a11 a12 a13 a11 a14 a15 a16 x2 x3 x4 x5 x6 x7 x8 a8 (u_6.2.1 0) a16 f1 a7 f2 a14 a17 a17 f3 a3 a18 a19 a20 a21 a22 a23 a24 a25 x9 y0 x10 a18 a26 a27 a28 a29 a30 a31 a32 x11 a26 g0 a28 g1 a27 g2 a29 f4 a30 f5 a31 f6 a32 f7) := hD
      have hw_9 : ((((-1) ≤ x3.toInt ∧ x3.toInt ≤ 5))) := hw_8
      refine lv_aload_n (pc := 25) hx hb dX11_behind_25 rfl (lv_at hl 0 rfl) ?_
      refine va_get (pc := 26) (ci := 11) (v := .ref a11) (C := RX11) (T := TX11) (N := 14) hx hb hts iX11 hown hK hP 0 rfl rfl 11 (by decide) (hts _ tw_431) (fun _ h9 => h9) rfl dX11_behind_26 ?_
      refine lv_aload_n (pc := 29) hx hb dX11_behind_29 rfl (lv_at hl 0 rfl) ?_
      refine va_get (pc := 30) (ci := 11) (v := .ref a8) (C := RX11) (T := TX11) (N := 14) hx hb hts iX11 hown hK hP 0 rfl rfl 7 (by decide) (hts _ tw_427) (fun _ h9 => h9) rfl dX11_behind_30 ?_
      as_aux_lemma =>
        refine lv_aload_n (pc := 33) hx hb dX11_behind_33 rfl (lv_at hl 0 rfl) ?_
        refine va_get (pc := 34) (ci := 11) (v := .ref a7) (C := RX11) (T := TX11) (N := 14) hx hb hts iX11 hown hK hP 0 rfl rfl 6 (by decide) (hts _ tw_426) (fun _ h9 => h9) rfl dX11_behind_34 ?_
        refine gd_l (pc := 37) (wc := (zS_138 cB cC cI cJ a11 a14 a15 a16 x2 x3 x4 x5 x6 x7 x8 a7 f2 a14 a17 a8 (u_6.2.1 0) a17 f3)) hP hD hS hA [1, 4, 5, 2, 6] rfl (by decide +kernel) (fun _ => by rfl) (fun hPc hDc => va_runV (As := [.ref a8, .ref a7]) (rest := []) ⟨hx, hb, hml, hown, hts⟩ (k_X1_distanceOf_5_6 l D cB cC cI cJ _ a11 a8 a7 a14 a15 a16 a17 x2 x3 x4 x5 x6 x7 x8 f2 (u_6.2.1 0) f3 h_x2 hw_9 h_x4 h_x5 h_x6) ⟨gcwB hts tw_842 tw_4 tw_839 hd_yX1_distanceOf ⟨Nat.le_of_ble_eq_true rfl, Nat.le_of_ble_eq_true rfl⟩, hts _ tw_840, hts _ tw_841⟩ ⟨gblind, va_recv hK hPc (ci := 1) (q0 := 0) rfl rfl, (gpreS hPc hK hDc hN).2⟩ rfl rfl hl.1 rfl (lv_room (Nat.le_of_ble_eq_true rfl)) dX11_behind_37 ⟨Nat.le_of_ble_eq_true rfl, Nat.le_of_ble_eq_true rfl⟩) (fun r_11 u_10 H locs hw_12 hP hD hS => ?_)
        replace hP : va_P D gcl (zS_123 cB cC cI cJ a0 a1 a2 a3 a4 a5 a6 a7 a8 a9 a10 x1 a11 a12 a13 a11 a14 a15 a16 x2 x3 x4 x5 x6 x7 x8 a8 (u_6.2.1 0) a16 f1 a7 f2 a14 a17 a17 f3 a3 a18 a19 a20 a21 a22 a23 a24 a25 x9 y0 x10 a18 a26 a27 a28 a29 a30 a31 a32 x11 a26 g0 a28 g1 a27 g2 a29 f4 a30 f5 a31 f6 a32 f7) H := hP
        replace hD : va_D A (zS_123 cB cC cI cJ a0 a1 a2 a3 a4 a5 a6 a7 a8 a9 a10 x1 a11 a12 a13 a11 a14 a15 a16 x2 x3 x4 x5 x6 x7 x8 a8 (u_6.2.1 0) a16 f1 a7 f2 a14 a17 a17 f3 a3 a18 a19 a20 a21 a22 a23 a24 a25 x9 y0 x10 a18 a26 a27 a28 a29 a30 a31 a32 x11 a26 g0 a28 g1 a27 g2 a29 f4 a30 f5 a31 f6 a32 f7) := hD
        have hw_13 : ((((-9223372036854775808) ≤ r_11.toInt ∧ r_11.toInt ≤ 9223372036854775807) ∧ ((-1) ≤ x4.toInt ∧ x4.toInt ≤ 6))) := hw_12
        have rr_11 := n_rngL r_11
        refine lv_lstore_n (pc := 40) (lv' := [(2, .long r_11), (0, .ref a0), (1, .int x0)]) hx hb dX11_behind_40 rfl hl (by decide) rfl (fun ls hl => ?_)
        refine lv_aload_n (pc := 41) hx hb dX11_behind_41 rfl (lv_at hl 1 rfl) ?_
        refine va_get (pc := 42) (ci := 11) (v := .ref a3) (C := RX11) (T := TX11) (N := 14) hx hb hts iX11 hown hK hP 0 rfl rfl 2 (by decide) (hts _ tw_422) (fun _ h9 => h9) rfl dX11_behind_42 ?_
        refine lv_aload_n (pc := 45) hx hb dX11_behind_45 rfl (lv_at hl 1 rfl) ?_
        refine va_get (pc := 46) (ci := 11) (v := .ref a11) (C := RX11) (T := TX11) (N := 14) hx hb hts iX11 hown hK hP 0 rfl rfl 11 (by decide) (hts _ tw_431) (fun _ h9 => h9) rfl dX11_behind_46 ?_
        refine lv_aload_n (pc := 49) hx hb dX11_behind_49 rfl (lv_at hl 1 rfl) ?_
        refine va_get (pc := 50) (ci := 11) (v := .ref a7) (C := RX11) (T := TX11) (N := 14) hx hb hts iX11 hown hK hP 0 rfl rfl 6 (by decide) (hts _ tw_426) (fun _ h9 => h9) rfl dX11_behind_50 ?_
        as_aux_lemma =>
          refine lv_lload_n (pc := 53) hx hb dX11_behind_53 rfl (lv_at hl 0 rfl) ?_
          refine lv_aload_n (pc := 54) hx hb dX11_behind_54 rfl (lv_at hl 1 rfl) ?_
          refine va_get (pc := 55) (ci := 11) (v := .ref a11) (C := RX11) (T := TX11) (N := 14) hx hb hts iX11 hown hK hP 0 rfl rfl 11 (by decide) (hts _ tw_431) (fun _ h9 => h9) rfl dX11_behind_55 ?_
          refine lv_aload_n (pc := 58) hx hb dX11_behind_58 rfl (lv_at hl 1 rfl) ?_
          refine va_get (pc := 59) (ci := 11) (v := .ref a8) (C := RX11) (T := TX11) (N := 14) hx hb hts iX11 hown hK hP 0 rfl rfl 7 (by decide) (hts _ tw_427) (fun _ h9 => h9) rfl dX11_behind_59 ?_
          refine gd_i (pc := 62) (wc := (zS_164 cB cC cI cJ a11 a14 a15 a16 x2 x3 x4 x5 x6 x7 x8 a8 (u_6.2.1 0))) hP hD hS hA [1, 2] rfl (by decide +kernel) (fun _ => by rfl) (fun hPc hDc => va_runV (As := [.ref a8]) (rest := [.long r_11, .ref a7, .ref a11, .ref a3]) ⟨hx, hb, hml, hown, hts⟩ (k_X1_rowOfLetters_5 l D cB cC cI cJ _ a11 a8 a14 a15 a16 x2 x3 x4 x5 x6 x7 x8 (u_6.2.1 0) h_x2 hw_9 h_x4 h_x5 h_x6) ⟨gcwB hts tw_1230 tw_4 tw_1227 hd_yX1_rowOfLetters ⟨Nat.le_of_ble_eq_true rfl, Nat.le_of_ble_eq_true rfl⟩, hts _ tw_1228, hts _ tw_1229⟩ ⟨gblind, va_recv hK hPc (ci := 1) (q0 := 0) rfl rfl, (gpreS hPc hK hDc hN).2⟩ rfl rfl hl.1 rfl (lv_room (Nat.le_of_ble_eq_true rfl)) dX11_behind_62 ⟨Nat.le_of_ble_eq_true rfl, Nat.le_of_ble_eq_true rfl⟩) (fun r_15 u_14 H locs hw_16 hP hD hS => ?_)
          replace hP : va_P D gcl (zS_123 cB cC cI cJ a0 a1 a2 a3 a4 a5 a6 a7 a8 a9 a10 x1 a11 a12 a13 a11 a14 a15 a16 x2 x3 x4 x5 x6 x7 x8 a8 (u_6.2.1 0) a16 f1 a7 f2 a14 a17 a17 f3 a3 a18 a19 a20 a21 a22 a23 a24 a25 x9 y0 x10 a18 a26 a27 a28 a29 a30 a31 a32 x11 a26 g0 a28 g1 a27 g2 a29 f4 a30 f5 a31 f6 a32 f7) H := hP
          replace hD : va_D A (zS_123 cB cC cI cJ a0 a1 a2 a3 a4 a5 a6 a7 a8 a9 a10 x1 a11 a12 a13 a11 a14 a15 a16 x2 x3 x4 x5 x6 x7 x8 a8 (u_6.2.1 0) a16 f1 a7 f2 a14 a17 a17 f3 a3 a18 a19 a20 a21 a22 a23 a24 a25 x9 y0 x10 a18 a26 a27 a28 a29 a30 a31 a32 x11 a26 g0 a28 g1 a27 g2 a29 f4 a30 f5 a31 f6 a32 f7) := hD
          have hw_17 : ((((-2147483648) ≤ r_15.toInt ∧ r_15.toInt ≤ 2147483647) ∧ ((-1) ≤ x3.toInt ∧ x3.toInt ≤ 5))) := hw_16
          have rr_15 : zBd r_15.toInt (-2147483648) 2147483647 := n_rng r_15
          refine gc_i (pc := 65) (wc := (zS_170 cB cC cI cJ a3 a18 a19 a20 a21 a22 a23 a24 a25 x9 y0 x10 a11 a14 a15 a16 x2 x3 x4 x5 x6 x7 x8 a7 f2 a18 a26 a27 a28 a29 a30 a31 a32 x11 a14 a17 a17 f3 a26 g0 a28 g1 a27 g2 a29 f4 a30 f5 a31 f6 a32 f7)) (wr := [(a0, .inr (11, [.ref a1, .ref a2, .ref a3, .ref a4, .ref a5, .ref a6, .ref a7, .ref a8, .ref a9, .ref a10, .int x1, .ref a11, .ref a12, .ref a13])), (a8, .inl (cI, 5, .inl (u_6.2.1 0))), (a16, .inl (cI, 80, .inl f1))]) hP hD hS hA [7, 1, 4, 8, 5, 6, 9, 10, 11, 12, 13, 14, 15] [0, 2, 3] rfl rfl (by decide +kernel) (by decide +kernel) (by decide +kernel) (fun hPc hDc => va_runV (As := [.ref a11, .ref a7, .long r_11, .int r_15]) (rest := []) ⟨hx, hb, hml, hown, hts⟩ (k_X7_countAhead_6 l D cB cC cI cJ _ a3 a11 a7 a18 a19 a20 a21 a22 a23 a24 a25 a14 a15 a16 a26 a27 a28 a29 a30 a31 a32 a17 r_15 x9 x10 x2 x3 x4 x5 x6 x7 x8 x11 r_11 y0 f2 f3 f4 f5 f6 f7 g0 g1 g2 h_x9 h_x10 h_x2 hw_9 h_x4 h_x5 h_x6 h_x11 hf_f6 hf_f7) ⟨gcwB hts tw_968 tw_7 tw_965 hd_yX7_countAhead ⟨Nat.le_of_ble_eq_true rfl, Nat.le_of_ble_eq_true rfl⟩, hts _ tw_966, hts _ tw_967⟩ ⟨gblind, va_recv hK hPc (ci := 7) (q0 := 0) rfl rfl, (gpreS hPc hK hDc hN).2⟩ rfl rfl hl.1 rfl (lv_room (Nat.le_of_ble_eq_true rfl)) dX11_behind_65 ⟨Nat.le_of_ble_eq_true rfl, Nat.le_of_ble_eq_true rfl⟩) (fun r_19 u_18 H locs hw_20 hP hD hS => ?_)
          replace hP : va_P D gcl [(a0, .inr (11, [.ref a1, .ref a2, .ref a3, .ref a4, .ref a5, .ref a6, .ref a7, .ref a8, .ref a9, .ref a10, .int x1, .ref a11, .ref a12, .ref a13])), (a8, .inl (cI, 5, .inl (u_6.2.1 0))), (a16, .inl (cI, 80, .inl f1)), (a3, .inr (7, [.ref a18, .ref a19, .ref a20, .ref a21, .ref a22, .ref a23, .ref a24, .ref a25, .int x9, .long y0, .int x10])), (a11, .inr (1, [.ref a14, .ref a15, .ref a16, .int x2, .int x3, .int x4, .int x5, .int x6, .int x7, .int x8])), (a7, .inl (cI, 6, .inl f2)), (a18, .inr (10, [.ref a26, .ref a27, .ref a28, .ref a29, .ref a30, .ref a31, .ref a32, .int (u_18.2.2.2.1 0)])), (a14, .inr (8, [.ref a17])), (a17, .inl (cI, 30, .inl f3)), (a26, .inl (cJ, 25, .inr (.inl (u_18.2.2.1 0)))), (a28, .inl (cJ, 25, .inr (.inl (u_18.2.2.1 1)))), (a27, .inl (cJ, 5, .inr (.inl (u_18.2.2.1 2)))), (a29, .inl (cI, 5, .inl (u_18.2.1 0))), (a30, .inl (cI, 5, .inl (u_18.2.1 1))), (a31, .inl (cI, 5, .inl (u_18.2.1 2))), (a32, .inl (cI, 5, .inl (u_18.2.1 3)))] H := hP
          replace hD : va_D A [(a0, .inr (11, [.ref a1, .ref a2, .ref a3, .ref a4, .ref a5, .ref a6, .ref a7, .ref a8, .ref a9, .ref a10, .int x1, .ref a11, .ref a12, .ref a13])), (a8, .inl (cI, 5, .inl (u_6.2.1 0))), (a16, .inl (cI, 80, .inl f1)), (a3, .inr (7, [.ref a18, .ref a19, .ref a20, .ref a21, .ref a22, .ref a23, .ref a24, .ref a25, .int x9, .long y0, .int x10])), (a11, .inr (1, [.ref a14, .ref a15, .ref a16, .int x2, .int x3, .int x4, .int x5, .int x6, .int x7, .int x8])), (a7, .inl (cI, 6, .inl f2)), (a18, .inr (10, [.ref a26, .ref a27, .ref a28, .ref a29, .ref a30, .ref a31, .ref a32, .int (u_18.2.2.2.1 0)])), (a14, .inr (8, [.ref a17])), (a17, .inl (cI, 30, .inl f3)), (a26, .inl (cJ, 25, .inr (.inl (u_18.2.2.1 0)))), (a28, .inl (cJ, 25, .inr (.inl (u_18.2.2.1 1)))), (a27, .inl (cJ, 5, .inr (.inl (u_18.2.2.1 2)))), (a29, .inl (cI, 5, .inl (u_18.2.1 0))), (a30, .inl (cI, 5, .inl (u_18.2.1 1))), (a31, .inl (cI, 5, .inl (u_18.2.1 2))), (a32, .inl (cI, 5, .inl (u_18.2.1 3)))] := hD
          obtain ⟨hw_21, hw_22, hw_23, hw_24⟩ := hw_20
          replace hw_21 : ((((-2147483648) ≤ r_19.toInt ∧ r_19.toInt ≤ 2147483647) ∧ ¬ x3.toInt = 0) ∨ (r_19.toInt = 0 ∧ x3.toInt = 0 ∧ (u_18.2.2.2.1 0).toInt = x11.toInt)) := hw_21
          replace hw_22 : zBd (u_18.2.2.2.1 0).toInt 0 4 := hw_22
          replace hw_23 : (∀ j, (-1) ≤ ((u_18.2.1 2) j).toInt ∧ ((u_18.2.1 2) j).toInt ≤ 8) := hw_23
          replace hw_24 : (∀ j, 0 ≤ ((u_18.2.1 3) j).toInt ∧ ((u_18.2.1 3) j).toInt ≤ 7) := hw_24
          have rr_19 : zBd r_19.toInt (-2147483648) 2147483647 := n_rng r_19
          exact hret r_19 ((fun _ => 0), (fun k => [(u_6.2.1 0), (u_18.2.1 0), (u_18.2.1 1), (u_18.2.1 2), (u_18.2.1 3)].getD k (fun _ => 0)), (fun k => [(u_18.2.2.1 0), (u_18.2.2.1 1), (u_18.2.2.1 2)].getD k (fun _ => 0)), (fun k => [(u_18.2.2.2.1 0)].getD k 0), (fun _ => 0)) dX11_behind_68 ⟨(show ((((-2147483648) ≤ r_19.toInt ∧ r_19.toInt ≤ 2147483647)) ∨ (r_19.toInt = (-1) ∧ ((u_18.2.2.2.1 0) : Int32).toInt = x11.toInt)) from (by first | exact (om_1424 rr_19.1 rr_19.2) | ((first | omega | (unfold zBd at *; omega))))), (show (0 ≤ ((u_18.2.2.2.1 0) : Int32).toInt ∧ ((u_18.2.2.2.1 0) : Int32).toInt ≤ 4) from hw_22), hw_23, hw_24⟩ (g_psub (wc := (zS_123 cB cC cI cJ a0 a1 a2 a3 a4 a5 a6 a7 a8 a9 a10 x1 a11 a12 a13 a11 a14 a15 a16 x2 x3 x4 x5 x6 x7 x8 a8 (u_6.2.1 0) a16 f1 a7 f2 a14 a17 a17 f3 a3 a18 a19 a20 a21 a22 a23 a24 a25 x9 y0 x10 a18 a26 a27 a28 a29 a30 a31 a32 (u_18.2.2.2.1 0) a26 (u_18.2.2.1 0) a28 (u_18.2.2.1 1) a27 (u_18.2.2.1 2) a29 (u_18.2.1 0) a30 (u_18.2.1 1) a31 (u_18.2.1 2) a32 (u_18.2.1 3))) hP [0, 4, 1, 2, 5, 7, 8, 3, 6, 9, 10, 11, 12, 13, 14, 15] rfl) (hD.sub (ws' := (zS_123 cB cC cI cJ a0 a1 a2 a3 a4 a5 a6 a7 a8 a9 a10 x1 a11 a12 a13 a11 a14 a15 a16 x2 x3 x4 x5 x6 x7 x8 a8 (u_6.2.1 0) a16 f1 a7 f2 a14 a17 a17 f3 a3 a18 a19 a20 a21 a22 a23 a24 a25 x9 y0 x10 a18 a26 a27 a28 a29 a30 a31 a32 (u_18.2.2.2.1 0) a26 (u_18.2.2.1 0) a28 (u_18.2.2.1 1) a27 (u_18.2.2.1 2) a29 (u_18.2.1 0) a30 (u_18.2.1 1) a31 (u_18.2.1 2) a32 (u_18.2.1 3))) [0, 4, 1, 2, 5, 7, 8, 3, 6, 9, 10, 11, 12, 13, 14, 15] (by decide) rfl) hS
  ·
    as_aux_lemma =>
      refine lv_iconst (pc := 11) (v := (-1)) hx hb dX11_behind_11 (by decide) ?_
      exact hret (-1) ((fun _ => 0), (fun k => [f0, f4, f5, f6, f7].getD k (fun _ => 0)), (fun k => [g0, g1, g2].getD k (fun _ => 0)), (fun k => [x11].getD k 0), (fun _ => 0)) dX11_behind_12 ⟨(show ((((-2147483648) ≤ ((-1) : Int32).toInt ∧ ((-1) : Int32).toInt ≤ 2147483647)) ∨ (((-1) : Int32).toInt = (-1) ∧ (x11 : Int32).toInt = x11.toInt)) from (by first | exact (om_1425 tI_m1) | (have k9 := tI_m1; (first | omega | (unfold zBd at *; omega))))), (show (0 ≤ (x11 : Int32).toInt ∧ (x11 : Int32).toInt ≤ 4) from h_x11), hf_f6, hf_f7⟩ (g_psub (wc := (zS_123 cB cC cI cJ a0 a1 a2 a3 a4 a5 a6 a7 a8 a9 a10 x1 a11 a12 a13 a11 a14 a15 a16 x2 x3 x4 x5 x6 x7 x8 a8 f0 a16 f1 a7 f2 a14 a17 a17 f3 a3 a18 a19 a20 a21 a22 a23 a24 a25 x9 y0 x10 a18 a26 a27 a28 a29 a30 a31 a32 x11 a26 g0 a28 g1 a27 g2 a29 f4 a30 f5 a31 f6 a32 f7)) hP [0, 1, 2, 3, 4, 5, 6, 7, 8, 9, 10, 11, 12, 13, 14, 15] rfl) (hD.sub (ws' := (zS_123 cB cC cI cJ a0 a1 a2 a3 a4 a5 a6 a7 a8 a9 a10 x1 a11 a12 a13 a11 a14 a15 a16 x2 x3 x4 x5 x6 x7 x8 a8 f0 a16 f1 a7 f2 a14 a17 a17 f3 a3 a18 a19 a20 a21 a22 a23 a24 a25 x9 y0 x10 a18 a26 a27 a28 a29 a30 a31 a32 x11 a26 g0 a28 g1 a27 g2 a29 f4 a30 f5 a31 f6 a32 f7)) [0, 1, 2, 3, 4, 5, 6, 7, 8, 9, 10, 11, 12, 13, 14, 15] (by decide) rfl) hS
theorem om_1426 {a b c d : Int} (h0 : ((d = 0 ∧ a < 0) ∨ (d = 0 ∧ a ≥ 0 ∧ a ≥ b) ∨ (d = 1 ∧ a ≥ 0 ∧ a < b))) (h1 : (d = 0)) : (¬ (0 ≤ a ∧ a < b ∧ 0 ≤ c ∧ c < b)) := by omega
theorem om_1427 {a : Int} (h0 : (0 ≤ a)) (h1 : (a ≤ 5)) : (((-1) ≤ a ∧ a ≤ 5)) := by omega
theorem om_1428 {a b c : Int} (h0 : (a = b)) : (a = b ∧ c = c ∨ ¬ a = b ∧ c = c + 1) := by omega
theorem om_1429 {a b c d : Int} (h0 : (a = b + 1)) (h1 : (0 ≤ b)) (h2 : (b ≤ c)) (h3 : (c < d)) (h4 : (d ≤ 5)) : ((0 ≤ a ∧ a ≤ 5)) := by omega
theorem om_1430 {a b c d : Int} (h0 : (b = c + 1)) (h1 : (a = d + 1)) (h2 : (d ≤ c)) : ((a ≤ b)) := by omega
theorem om_1431 {a b c d : Int} (h0 : (c = d + 1)) (h1 : (¬ a = b)) : (a = b ∧ c = d ∨ ¬ a = b ∧ c = d + 1) := by omega
theorem om_1432 {a b c d : Int} (h0 : ((d = 0 ∧ c < 0) ∨ (d = 0 ∧ c ≥ 0 ∧ c ≥ b) ∨ (d = 1 ∧ c ≥ 0 ∧ c < b))) (h1 : (d = 0)) : (¬ (0 ≤ a ∧ a < b ∧ 0 ≤ c ∧ c < b)) := by omega
set_option maxHeartbeats 4000000 in
set_option maxRecDepth 100000 in
theorem k_X11_unlike (l : Launch) (D : va_G) (cB cC cI cJ : ClassId) (sz : Nat) (a0 a1 a2 a3 a4 a5 a6 a7 a8 a9 a10 a11 a12 a13 a14 a15 a16 : Nat) (x0 x1 x2 x3 x4 x5 x6 x7 x8 x9 : Int32) (f0 : Nat → Int32) (h_x2 : zBd x2.toInt 0 14) (h_x3 : zBd x3.toInt (-1) 8) (h_x4 : zBd x4.toInt (-1) 5) (h_x5 : zBd x5.toInt (-1) 6) (h_x6 : zBd x6.toInt 0 6) (h_x7 : zBd x7.toInt 0 16) (hf_f0 : (∀ j, (-7) ≤ (f0 j).toInt ∧ (f0 j).toInt ≤ 7)) : Met l yX11_unlike (.code yX11_unlike cX11_unlike 5 (some .int) :: lw_gd) ({ frames := 1, cells := 0, slots := 0, locals := 22 }) (gPre D [(cB, .byte), (cC, .char), (cI, .int), (cJ, .long)] [.ref a0, .int x0, .int x1] (zS_44 cB cC cI cJ a0 a1 a2 a3 a4 a5 a6 a7 a8 a9 a10 x2 a11 a12 a13 a11 a14 a15 a16 x3 x4 x5 x6 x7 x8 x9 a16 f0) sz) (va_Qi (fun r u => ((-1) ≤ r.toInt ∧ r.toInt ≤ 5) ∧ (ulQ r.toInt x0.toInt x1.toInt x7.toInt x4.toInt f0)) (gB D (va_A (zS_44 cB cC cI cJ a0 a1 a2 a3 a4 a5 a6 a7 a8 a9 a10 x2 a11 a12 a13 a11 a14 a15 a16 x3 x4 x5 x6 x7 x8 x9 a16 f0) sz) (fun u : gEx => (zS_44 cB cC cI cJ a0 a1 a2 a3 a4 a5 a6 a7 a8 a9 a10 x2 a11 a12 a13 a11 a14 a15 a16 x3 x4 x5 x6 x7 x8 x9 a16 f0))) (va_A (zS_44 cB cC cI cJ a0 a1 a2 a3 a4 a5 a6 a7 a8 a9 a10 x2 a11 a12 a13 a11 a14 a15 a16 x3 x4 x5 x6 x7 x8 x9 a16 f0) sz)) 0 0 (va_A (zS_44 cB cC cI cJ a0 a1 a2 a3 a4 a5 a6 a7 a8 a9 a10 x2 a11 a12 a13 a11 a14 a15 a16 x3 x4 x5 x6 x7 x8 x9 a16 f0) sz) := by
  refine gOf_i (by decide +kernel) (Nat.le_of_ble_eq_true rfl) ?_
  intro p e s m args below meth c ls A Q hx hb hts hown hml hN hK hP hD hA hl hret
  replace hown : s.vm.findClass RX11 = some m.cls := hown
  have hS : va_S A s.heap s.heap [] := va_S.rf
  replace hP : va_P D gcl (zS_44 cB cC cI cJ a0 a1 a2 a3 a4 a5 a6 a7 a8 a9 a10 x2 a11 a12 a13 a11 a14 a15 a16 x3 x4 x5 x6 x7 x8 x9 a16 f0) s.heap := hP
  replace hl : lv_has ls 5 [(0, .ref a0), (1, .int x0), (2, .int x1)] := hl
  have rx0 : zBd x0.toInt (-2147483648) 2147483647 := n_rng x0
  have rx1 : zBd x1.toInt (-2147483648) 2147483647 := n_rng x1
  have rx8 : zBd x8.toInt (-2147483648) 2147483647 := n_rng x8
  have rx9 : zBd x9.toInt (-2147483648) 2147483647 := n_rng x9
  refine lv_aload_n (pc := 0) hx hb dX11_unlike_0 rfl (lv_at hl 0 rfl) ?_
  refine va_get (pc := 1) (ci := 11) (v := .ref a11) (C := RX11) (T := TX11) (N := 14) hx hb hts iX11 hown hK hP 0 rfl rfl 11 (by decide) (hts _ tw_431) (fun _ h9 => h9) rfl dX11_unlike_1 ?_
  refine lv_iload_n (pc := 4) hx hb dX11_unlike_4 rfl (lv_at hl 1 rfl) ?_
  refine gd_i (pc := 5) (wc := (zS_5 cB cC cI cJ a11 a14 a15 a16 x3 x4 x5 x6 x7 x8 x9)) hP hD hS hA [1] rfl (by decide +kernel) (fun _ => by rfl) (fun hPc hDc => va_runV (As := [.int x0]) (rest := []) ⟨hx, hb, hml, hown, hts⟩ (k_X1_isWord l D cB cC cI cJ _ a11 a14 a15 a16 x0 x3 x4 x5 x6 x7 x8 x9 h_x3 h_x4 h_x5 h_x6 h_x7) ⟨gcwB hts tw_1177 tw_4 tw_1174 hd_yX1_isWord ⟨Nat.le_of_ble_eq_true rfl, Nat.le_of_ble_eq_true rfl⟩, hts _ tw_1175, hts _ tw_1176⟩ ⟨gblind, va_recv hK hPc (ci := 1) (q0 := 0) rfl rfl, (gpreS hPc hK hDc hN).2⟩ rfl rfl hl.1 rfl (lv_room (Nat.le_of_ble_eq_true rfl)) dX11_unlike_5 ⟨Nat.le_of_ble_eq_true rfl, Nat.le_of_ble_eq_true rfl⟩) (fun r_2 u_1 H locs hw_3 hP hD hS => ?_)
  replace hP : va_P D gcl (zS_44 cB cC cI cJ a0 a1 a2 a3 a4 a5 a6 a7 a8 a9 a10 x2 a11 a12 a13 a11 a14 a15 a16 x3 x4 x5 x6 x7 x8 x9 a16 f0) H := hP
  replace hD : va_D A (zS_44 cB cC cI cJ a0 a1 a2 a3 a4 a5 a6 a7 a8 a9 a10 x2 a11 a12 a13 a11 a14 a15 a16 x3 x4 x5 x6 x7 x8 x9 a16 f0) := hD
  have hw_4 : ((r_2.toInt = 0 ∧ x0.toInt < 0) ∨ (r_2.toInt = 0 ∧ x0.toInt ≥ 0 ∧ x0.toInt ≥ x7.toInt) ∨ (r_2.toInt = 1 ∧ x0.toInt ≥ 0 ∧ x0.toInt < x7.toInt)) := hw_3
  have rr_2 : zBd r_2.toInt (-2147483648) 2147483647 := n_rng r_2
  refine b_if_eq (pc := 8) (tgt := 22) hx hb rfl  dX11_unlike_8 (by decide) (fun c_5 => ?_) (fun c_5 => ?_)
  ·
    as_aux_lemma =>
      refine lv_iconst (pc := 22) (v := (-1)) hx hb dX11_unlike_22 (by decide) ?_
      have k9 := tI_m1
      exact hret (-1) ((fun _ => 0), (fun _ => (fun _ => 0)), (fun _ => (fun _ => 0)), (fun _ => 0), (fun _ => 0)) dX11_unlike_23 ⟨(show ((-1) ≤ ((-1) : Int32).toInt ∧ ((-1) : Int32).toInt ≤ 5) from (n_c tI_m1 (by decide))), (show ulQ ((-1) : Int32).toInt x0.toInt x1.toInt x7.toInt x4.toInt f0 from ul_no (by first | exact (om_1426 hw_4 c_5) | ((first | omega | (unfold zBd at *; omega)))) (by first | exact (om_65 tI_m1) | ((first | omega | (unfold zBd at *; omega)))))⟩ (g_psub (wc := (zS_44 cB cC cI cJ a0 a1 a2 a3 a4 a5 a6 a7 a8 a9 a10 x2 a11 a12 a13 a11 a14 a15 a16 x3 x4 x5 x6 x7 x8 x9 a16 f0)) hP [0, 1, 2] rfl) (hD.sub (ws' := (zS_44 cB cC cI cJ a0 a1 a2 a3 a4 a5 a6 a7 a8 a9 a10 x2 a11 a12 a13 a11 a14 a15 a16 x3 x4 x5 x6 x7 x8 x9 a16 f0)) [0, 1, 2] (by decide) rfl) hS
  ·
    as_aux_lemma =>
      refine lv_aload_n (pc := 11) hx hb dX11_unlike_11 rfl (lv_at hl 0 rfl) ?_
      refine va_get (pc := 12) (ci := 11) (v := .ref a11) (C := RX11) (T := TX11) (N := 14) hx hb hts iX11 hown hK hP 0 rfl rfl 11 (by decide) (hts _ tw_431) (fun _ h9 => h9) rfl dX11_unlike_12 ?_
      refine lv_iload_n (pc := 15) hx hb dX11_unlike_15 rfl (lv_at hl 2 rfl) ?_
      refine gd_i (pc := 16) (wc := (zS_5 cB cC cI cJ a11 a14 a15 a16 x3 x4 x5 x6 x7 x8 x9)) hP hD hS hA [1] rfl (by decide +kernel) (fun _ => by rfl) (fun hPc hDc => va_runV (As := [.int x1]) (rest := []) ⟨hx, hb, hml, hown, hts⟩ (k_X1_isWord l D cB cC cI cJ _ a11 a14 a15 a16 x1 x3 x4 x5 x6 x7 x8 x9 h_x3 h_x4 h_x5 h_x6 h_x7) ⟨gcwB hts tw_1177 tw_4 tw_1174 hd_yX1_isWord ⟨Nat.le_of_ble_eq_true rfl, Nat.le_of_ble_eq_true rfl⟩, hts _ tw_1175, hts _ tw_1176⟩ ⟨gblind, va_recv hK hPc (ci := 1) (q0 := 0) rfl rfl, (gpreS hPc hK hDc hN).2⟩ rfl rfl hl.1 rfl (lv_room (Nat.le_of_ble_eq_true rfl)) dX11_unlike_16 ⟨Nat.le_of_ble_eq_true rfl, Nat.le_of_ble_eq_true rfl⟩) (fun r_7 u_6 H locs hw_8 hP hD hS => ?_)
      replace hP : va_P D gcl (zS_44 cB cC cI cJ a0 a1 a2 a3 a4 a5 a6 a7 a8 a9 a10 x2 a11 a12 a13 a11 a14 a15 a16 x3 x4 x5 x6 x7 x8 x9 a16 f0) H := hP
      replace hD : va_D A (zS_44 cB cC cI cJ a0 a1 a2 a3 a4 a5 a6 a7 a8 a9 a10 x2 a11 a12 a13 a11 a14 a15 a16 x3 x4 x5 x6 x7 x8 x9 a16 f0) := hD
      have hw_9 : ((r_7.toInt = 0 ∧ x1.toInt < 0) ∨ (r_7.toInt = 0 ∧ x1.toInt ≥ 0 ∧ x1.toInt ≥ x7.toInt) ∨ (r_7.toInt = 1 ∧ x1.toInt ≥ 0 ∧ x1.toInt < x7.toInt)) := hw_8
      have rr_7 : zBd r_7.toInt (-2147483648) 2147483647 := n_rng r_7
      refine b_if_ne (pc := 19) (tgt := 24) hx hb rfl  dX11_unlike_19 (by decide) (fun c_10 => ?_) (fun c_10 => ?_)
      ·
        as_aux_lemma =>
          refine lv_iconst (pc := 24) (v := 0) hx hb dX11_unlike_24 (by decide) ?_
          refine lv_istore_n (pc := 25) (lv' := [(3, .int 0), (0, .ref a0), (1, .int x0), (2, .int x1)]) hx hb dX11_unlike_25 rfl hl (by decide) rfl (fun ls hl => ?_)
          refine lv_iconst (pc := 26) (v := 0) hx hb dX11_unlike_26 (by decide) ?_
          refine lv_istore (pc := 27) (lv' := [(4, .int 0), (3, .int 0), (0, .ref a0), (1, .int x0), (2, .int x1)]) hx hb dX11_unlike_27 hl (by decide) rfl (fun ls hl => ?_)
          have lp_18 : ∀ (n : Nat) (x_11 x_13 : Int32) (H : Heap) (locs : List Loc) (ls : Array Slot), (0 ≤ x_11.toInt ∧ x_11.toInt ≤ 5) → (0 ≤ x_13.toInt ∧ x_13.toInt ≤ 5) → (x_13.toInt ≤ x_11.toInt) → (x_11.toInt ≤ x4.toInt ∨ x_11.toInt = 0) → (x_13.toInt = unK f0 x0.toInt x1.toInt (x_11.toInt).toNat) → (2147483647 - x_11.toInt).toNat < n → va_P D gcl (zS_44 cB cC cI cJ a0 a1 a2 a3 a4 a5 a6 a7 a8 a9 a10 x2 a11 a12 a13 a11 a14 a15 a16 x3 x4 x5 x6 x7 x8 x9 a16 f0) H → va_D A (zS_44 cB cC cI cJ a0 a1 a2 a3 a4 a5 a6 a7 a8 a9 a10 x2 a11 a12 a13 a11 a14 a15 a16 x3 x4 x5 x6 x7 x8 x9 a16 f0) → va_S A s.heap H locs → lv_has ls 5 [(4, .int x_11), (3, .int x_13), (0, .ref a0), (1, .int x0), (2, .int x1)] → W p l e ({ frames := 1, cells := 0, slots := 0, locals := 22 }) s m args below meth c H locs 0 0 Q (F0 m 29 ls []) := by
            intro n
            induction n with
            | zero => intro x_11 x_13 H locs ls hi_12 hi_14 hi_15 hi_16 hi_17 hmu; exact absurd hmu (Nat.not_lt_zero _)
            | succ n ih_lp_18 =>
              intro x_11 x_13 H locs ls hi_12 hi_14 hi_15 hi_16 hi_17 hmu_lp_18 hP hD hS hl
              refine lv_iload (pc := 29) hx hb dX11_unlike_29 (lv_at hl 0 rfl) ?_
              refine lv_aload_n (pc := 31) hx hb dX11_unlike_31 rfl (lv_at hl 2 rfl) ?_
              refine va_get (pc := 32) (ci := 11) (v := .ref a11) (C := RX11) (T := TX11) (N := 14) hx hb hts iX11 hown hK hP 0 rfl rfl 11 (by decide) (hts _ tw_431) (fun _ h9 => h9) rfl dX11_unlike_32 ?_
              refine va_getN (pc := 35) (ci := 1) (v := .int x4) (C := RX1) (T := TX1) (N := 10) hx hb hts iX1 hown hK hP 1 rfl rfl 4 (by decide) (va_Nw.use rfl (hN _ tn_123)) (fun _ h9 => h9) rfl dX11_unlike_35 ?_
              refine b_icmp_ge (pc := 38) (tgt := 73) hx hb rfl rfl  dX11_unlike_38 (by decide) (fun c_19 => ?_) (fun c_19 => ?_)
              ·
                as_aux_lemma =>
                  refine lv_iload_n (pc := 73) hx hb dX11_unlike_73 rfl (lv_at hl 1 rfl) ?_
                  exact hret x_13 ((fun _ => 0), (fun _ => (fun _ => 0)), (fun _ => (fun _ => 0)), (fun _ => 0), (fun _ => 0)) dX11_unlike_74 ⟨(show ((-1) ≤ x_13.toInt ∧ x_13.toInt ≤ 5) from (by first | exact (om_1427 hi_14.1 hi_14.2) | ((first | omega | (unfold zBd at *; omega))))), (show ulQ x_13.toInt x0.toInt x1.toInt x7.toInt x4.toInt f0 from ul_yes (k := x_11.toInt) (by (first | omega | (unfold zBd at *; omega))) hi_17 rfl (by (first | omega | (unfold zBd at *; omega))))⟩ (g_psub (wc := (zS_44 cB cC cI cJ a0 a1 a2 a3 a4 a5 a6 a7 a8 a9 a10 x2 a11 a12 a13 a11 a14 a15 a16 x3 x4 x5 x6 x7 x8 x9 a16 f0)) hP [0, 1, 2] rfl) (hD.sub (ws' := (zS_44 cB cC cI cJ a0 a1 a2 a3 a4 a5 a6 a7 a8 a9 a10 x2 a11 a12 a13 a11 a14 a15 a16 x3 x4 x5 x6 x7 x8 x9 a16 f0)) [0, 1, 2] (by decide) rfl) hS
              ·
                as_aux_lemma =>
                  refine lv_aload_n (pc := 41) hx hb dX11_unlike_41 rfl (lv_at hl 2 rfl) ?_
                  refine va_get (pc := 42) (ci := 11) (v := .ref a11) (C := RX11) (T := TX11) (N := 14) hx hb hts iX11 hown hK hP 0 rfl rfl 11 (by decide) (hts _ tw_431) (fun _ h9 => h9) rfl dX11_unlike_42 ?_
                  refine lv_iload_n (pc := 45) hx hb dX11_unlike_45 rfl (lv_at hl 3 rfl) ?_
                  refine lv_iload (pc := 46) hx hb dX11_unlike_46 (lv_at hl 0 rfl) ?_
                  refine gd_i (pc := 48) (wc := (zS_41 cB cC cI cJ a11 a14 a15 a16 x3 x4 x5 x6 x7 x8 x9 a16 f0)) hP hD hS hA [1, 2] rfl (by decide +kernel) (fun _ => by rfl) (fun hPc hDc => va_runV (As := [.int x0, .int x_11]) (rest := []) ⟨hx, hb, hml, hown, hts⟩ (k_X1_letterOfWord_E l D cB cC cI cJ _ a11 a14 a15 a16 x0 x_11 x3 x4 x5 x6 x7 x8 x9 f0 (by first | exact (om_1409 hw_4 c_5 h_x7.2) | ((first | omega | (unfold zBd at *; omega)))) (by first | exact (om_360 hi_12.1 c_19 h_x4.2) | ((first | omega | (unfold zBd at *; omega)))) h_x3 h_x4 h_x5 h_x6 h_x7 hf_f0) ⟨gcwB hts tw_1181 tw_4 tw_1178 hd_yX1_letterOfWord ⟨Nat.le_of_ble_eq_true rfl, Nat.le_of_ble_eq_true rfl⟩, hts _ tw_1179, hts _ tw_1180⟩ ⟨gblind, va_recv hK hPc (ci := 1) (q0 := 0) rfl rfl, (gpreS hPc hK hDc hN).2⟩ rfl rfl hl.1 rfl (lv_room (Nat.le_of_ble_eq_true rfl)) dX11_unlike_48 ⟨Nat.le_of_ble_eq_true rfl, Nat.le_of_ble_eq_true rfl⟩) (fun r_21 u_20 H locs hw_22 hP hD hS => ?_)
                  replace hP : va_P D gcl (zS_44 cB cC cI cJ a0 a1 a2 a3 a4 a5 a6 a7 a8 a9 a10 x2 a11 a12 a13 a11 a14 a15 a16 x3 x4 x5 x6 x7 x8 x9 a16 f0) H := hP
                  replace hD : va_D A (zS_44 cB cC cI cJ a0 a1 a2 a3 a4 a5 a6 a7 a8 a9 a10 x2 a11 a12 a13 a11 a14 a15 a16 x3 x4 x5 x6 x7 x8 x9 a16 f0) := hD
                  obtain ⟨hw_23, hw_24⟩ := hw_22
                  replace hw_23 : ((((-7) ≤ r_21.toInt ∧ r_21.toInt ≤ 7))) := hw_23
                  replace hw_24 : (r_21.toInt = (f0 (ixW x0.toInt x_11.toInt).toNat).toInt) := hw_24
                  have rr_21 : zBd r_21.toInt (-2147483648) 2147483647 := n_rng r_21
                  refine lv_aload_n (pc := 51) hx hb dX11_unlike_51 rfl (lv_at hl 2 rfl) ?_
                  refine va_get (pc := 52) (ci := 11) (v := .ref a11) (C := RX11) (T := TX11) (N := 14) hx hb hts iX11 hown hK hP 0 rfl rfl 11 (by decide) (hts _ tw_431) (fun _ h9 => h9) rfl dX11_unlike_52 ?_
                  refine lv_iload_n (pc := 55) hx hb dX11_unlike_55 rfl (lv_at hl 4 rfl) ?_
                  refine lv_iload (pc := 56) hx hb dX11_unlike_56 (lv_at hl 0 rfl) ?_
                  refine gd_i (pc := 58) (wc := (zS_41 cB cC cI cJ a11 a14 a15 a16 x3 x4 x5 x6 x7 x8 x9 a16 f0)) hP hD hS hA [1, 2] rfl (by decide +kernel) (fun _ => by rfl) (fun hPc hDc => va_runV (As := [.int x1, .int x_11]) (rest := [.int r_21]) ⟨hx, hb, hml, hown, hts⟩ (k_X1_letterOfWord_E l D cB cC cI cJ _ a11 a14 a15 a16 x1 x_11 x3 x4 x5 x6 x7 x8 x9 f0 (by first | exact (om_1409 hw_9 c_10 h_x7.2) | ((first | omega | (unfold zBd at *; omega)))) (by first | exact (om_360 hi_12.1 c_19 h_x4.2) | ((first | omega | (unfold zBd at *; omega)))) h_x3 h_x4 h_x5 h_x6 h_x7 hf_f0) ⟨gcwB hts tw_1181 tw_4 tw_1178 hd_yX1_letterOfWord ⟨Nat.le_of_ble_eq_true rfl, Nat.le_of_ble_eq_true rfl⟩, hts _ tw_1179, hts _ tw_1180⟩ ⟨gblind, va_recv hK hPc (ci := 1) (q0 := 0) rfl rfl, (gpreS hPc hK hDc hN).2⟩ rfl rfl hl.1 rfl (lv_room (Nat.le_of_ble_eq_true rfl)) dX11_unlike_58 ⟨Nat.le_of_ble_eq_true rfl, Nat.le_of_ble_eq_true rfl⟩) (fun r_26 u_25 H locs hw_27 hP hD hS => ?_)
                  replace hP : va_P D gcl (zS_44 cB cC cI cJ a0 a1 a2 a3 a4 a5 a6 a7 a8 a9 a10 x2 a11 a12 a13 a11 a14 a15 a16 x3 x4 x5 x6 x7 x8 x9 a16 f0) H := hP
                  replace hD : va_D A (zS_44 cB cC cI cJ a0 a1 a2 a3 a4 a5 a6 a7 a8 a9 a10 x2 a11 a12 a13 a11 a14 a15 a16 x3 x4 x5 x6 x7 x8 x9 a16 f0) := hD
                  obtain ⟨hw_28, hw_29⟩ := hw_27
                  replace hw_28 : ((((-7) ≤ r_26.toInt ∧ r_26.toInt ≤ 7))) := hw_28
                  replace hw_29 : (r_26.toInt = (f0 (ixW x1.toInt x_11.toInt).toNat).toInt) := hw_29
                  have rr_26 : zBd r_26.toInt (-2147483648) 2147483647 := n_rng r_26
                  as_aux_lemma =>
                    refine b_icmp_eq (pc := 61) (tgt := 67) hx hb rfl rfl  dX11_unlike_61 (by decide) (fun c_30 => ?_) (fun c_30 => ?_)
                    ·
                      as_aux_lemma =>
                        refine b_iinc (pc := 67) hx hb dX11_unlike_67 hl (k := 0) rfl rfl tI_1 (by first | exact (om_2 hi_12.1) | ((first | omega | (unfold zBd at *; omega)))) (by first | exact (om_357 hi_12.2) | ((first | omega | (unfold zBd at *; omega)))) (by decide) (fun x_31 ex_31 ls hl => ?_)
                        replace hl : lv_has ls 5 [(4, .int x_31), (3, .int x_13), (0, .ref a0), (1, .int x0), (2, .int x1)] := hl
                        refine lv_goto (pc := 70) (tgt := 29) hx hb dX11_unlike_70 (by decide) ?_
                        exact ih_lp_18 x_31 x_13 _ _ ls (by first | exact (om_1027 ex_31 hi_12.1 c_19 h_x4.2) | ((first | omega | (unfold zBd at *; omega)))) hi_14 (by first | exact (om_483 ex_31 hi_15) | ((first | omega | (unfold zBd at *; omega)))) (by first | exact (om_344 ex_31 c_19) | ((first | omega | (unfold zBd at *; omega)))) (un_step hi_17 hw_24 hw_29 (by first | exact (om_0 hi_12.1) | ((first | omega | (unfold zBd at *; omega)))) (by first | exact (om_1428 c_30) | ((first | omega | (unfold zBd at *; omega)))) (by first | exact (om_5 ex_31) | ((first | omega | (unfold zBd at *; omega))))) (by (first | omega | (unfold zBd at *; omega))) hP hD hS (lv_sub hl [0, 1, 2, 3, 4] rfl)
                    ·
                      as_aux_lemma =>
                        refine b_iinc (pc := 64) hx hb dX11_unlike_64 hl (k := 1) rfl rfl tI_1 (by first | exact (om_2 hi_14.1) | ((first | omega | (unfold zBd at *; omega)))) (by first | exact (om_357 hi_14.2) | ((first | omega | (unfold zBd at *; omega)))) (by decide) (fun x_32 ex_32 ls hl => ?_)
                        replace hl : lv_has ls 5 [(3, .int x_32), (4, .int x_11), (0, .ref a0), (1, .int x0), (2, .int x1)] := hl
                        refine b_iinc (pc := 67) hx hb dX11_unlike_67 hl (k := 1) rfl rfl tI_1 (by first | exact (om_2 hi_12.1) | ((first | omega | (unfold zBd at *; omega)))) (by first | exact (om_357 hi_12.2) | ((first | omega | (unfold zBd at *; omega)))) (by decide) (fun x_33 ex_33 ls hl => ?_)
                        replace hl : lv_has ls 5 [(4, .int x_33), (3, .int x_32), (0, .ref a0), (1, .int x0), (2, .int x1)] := hl
                        refine lv_goto (pc := 70) (tgt := 29) hx hb dX11_unlike_70 (by decide) ?_
                        exact ih_lp_18 x_33 x_32 _ _ ls (by first | exact (om_1027 ex_33 hi_12.1 c_19 h_x4.2) | ((first | omega | (unfold zBd at *; omega)))) (by first | exact (om_1429 ex_32 hi_14.1 hi_15 c_19 h_x4.2) | ((first | omega | (unfold zBd at *; omega)))) (by first | exact (om_1430 ex_33 ex_32 hi_15) | ((first | omega | (unfold zBd at *; omega)))) (by first | exact (om_344 ex_33 c_19) | ((first | omega | (unfold zBd at *; omega)))) (un_step hi_17 hw_24 hw_29 (by first | exact (om_0 hi_12.1) | ((first | omega | (unfold zBd at *; omega)))) (by first | exact (om_1431 ex_32 c_30) | ((first | omega | (unfold zBd at *; omega)))) (by first | exact (om_5 ex_33) | ((first | omega | (unfold zBd at *; omega))))) (by (first | omega | (unfold zBd at *; omega))) hP hD hS (lv_sub hl [0, 1, 2, 3, 4] rfl)
          exact lp_18 _ 0 0 _ _ ls (n_c tI_0 (by decide)) (n_c tI_0 (by decide)) (by have q := tI_0; (first | omega | (unfold zBd at *; omega))) (by have q := tI_0; (first | omega | (unfold zBd at *; omega))) (by rw [tI_0]; rfl) (Nat.lt_succ_self _) hP hD hS (lv_sub hl [0, 1, 2, 3, 4] rfl)
      ·
        as_aux_lemma =>
          refine lv_iconst (pc := 22) (v := (-1)) hx hb dX11_unlike_22 (by decide) ?_
          have k9 := tI_m1
          exact hret (-1) ((fun _ => 0), (fun _ => (fun _ => 0)), (fun _ => (fun _ => 0)), (fun _ => 0), (fun _ => 0)) dX11_unlike_23 ⟨(show ((-1) ≤ ((-1) : Int32).toInt ∧ ((-1) : Int32).toInt ≤ 5) from (n_c tI_m1 (by decide))), (show ulQ ((-1) : Int32).toInt x0.toInt x1.toInt x7.toInt x4.toInt f0 from ul_no (by first | exact (om_1432 hw_9 c_10) | ((first | omega | (unfold zBd at *; omega)))) (by first | exact (om_65 tI_m1) | ((first | omega | (unfold zBd at *; omega)))))⟩ (g_psub (wc := (zS_44 cB cC cI cJ a0 a1 a2 a3 a4 a5 a6 a7 a8 a9 a10 x2 a11 a12 a13 a11 a14 a15 a16 x3 x4 x5 x6 x7 x8 x9 a16 f0)) hP [0, 1, 2] rfl) (hD.sub (ws' := (zS_44 cB cC cI cJ a0 a1 a2 a3 a4 a5 a6 a7 a8 a9 a10 x2 a11 a12 a13 a11 a14 a15 a16 x3 x4 x5 x6 x7 x8 x9 a16 f0)) [0, 1, 2] (by decide) rfl) hS
theorem om_1433 {a b c d e : Int} (h0 : ((-9223372036854775808) ≤ a)) (h1 : (a ≤ 9223372036854775807)) (h2 : (¬ b = 0)) (h3 : (c = 0)) : (((((-9223372036854775808) ≤ a ∧ a ≤ 9223372036854775807) ∧ ¬ b = 0 ∧ c = 0) ∨ (((-9223372036854775808) ≤ a ∧ a ≤ 9223372036854775807) ∧ ¬ b = 0 ∧ ¬ c = 0) ∨ (a = (-1) ∧ b = 0 ∧ d = e))) := by omega
theorem om_1434 {a b c d e : Int} (h0 : ((-9223372036854775808) ≤ a)) (h1 : (a ≤ 9223372036854775807)) (h2 : (¬ b = 0)) (h3 : (¬ c = 0)) (h4 : (0 ≤ c)) : (((((-9223372036854775808) ≤ a ∧ a ≤ 9223372036854775807) ∧ ¬ b = 0 ∧ c = 0) ∨ (((-9223372036854775808) ≤ a ∧ a ≤ 9223372036854775807) ∧ ¬ b = 0 ∧ ¬ c = 0) ∨ (a = (-1) ∧ b = 0 ∧ d = e))) := by omega
theorem om_1435 {a b c d : Int} (h0 : (a = (-1))) : (((((-9223372036854775808) ≤ a ∧ a ≤ 9223372036854775807) ∧ ¬ b = 0 ∧ c = 0) ∨ (((-9223372036854775808) ≤ a ∧ a ≤ 9223372036854775807) ∧ ¬ b = 0 ∧ ¬ c = 0) ∨ (a = (-1) ∧ b = 0 ∧ d = d))) := by omega
set_option maxHeartbeats 4000000 in
set_option maxRecDepth 100000 in
theorem k_X11_span (l : Launch) (D : va_G) (cB cC cI cJ : ClassId) (sz : Nat) (a0 a1 a2 a3 a4 a5 a6 a7 a8 a9 a10 a11 a12 a13 a14 a15 a16 a17 a18 a19 a20 a21 a22 a23 a24 a25 a26 a27 a28 a29 a30 : Nat) (x0 x1 x2 x3 x4 x5 x6 x7 x8 x9 x10 : Int32) (y0 y1 y2 : Int64) (f0 f1 f2 f3 f4 f5 f6 f7 : Nat → Int32) (g0 g1 g2 g3 : Nat → Int64) (hp1 : (0 ≤ x0.toInt ∧ x0.toInt ≤ 1)) (h_x1 : zBd x1.toInt 0 14) (h_x2 : zBd x2.toInt (-1) 8) (h_x3 : zBd x3.toInt (-1) 5) (h_x4 : zBd x4.toInt (-1) 6) (h_x5 : zBd x5.toInt 0 6) (h_x6 : zBd x6.toInt 0 16) (h_x9 : zBd x9.toInt 0 1) (h_x10 : zBd x10.toInt 0 4) (hf_f3 : (∀ j, (-3) ≤ (f3 j).toInt ∧ (f3 j).toInt ≤ 24)) (hf_f4 : (∀ j, 0 ≤ (f4 j).toInt ∧ (f4 j).toInt ≤ 23)) : Met l yX11_span (.code yX11_span cX11_span 2 (some .long) :: lw_gd) ({ frames := 4, cells := 0, slots := 0, locals := 109 }) (gPre D [(cB, .byte), (cC, .char), (cI, .int), (cJ, .long)] [.ref a0, .int x0] (zS_165 cB cC cI cJ a0 a1 a2 a3 a4 a5 a6 a7 a8 a9 a10 x1 a11 a12 a13 a11 a14 a15 a16 x2 x3 x4 x5 x6 x7 x8 a6 a17 a18 a19 a20 a21 a22 y0 x9 y1 y2 a17 a23 a24 a25 a26 a27 a28 a29 x10 a14 a30 a30 f0 a23 g0 a25 g1 a24 g2 a26 f1 a27 f2 a28 f3 a29 f4 a21 f5 a22 g3 a20 f6 a19 f7) sz) (va_Ql (fun r u => ((((-9223372036854775808) ≤ r.toInt ∧ r.toInt ≤ 9223372036854775807) ∧ ¬ x3.toInt = 0 ∧ x0.toInt = 0) ∨ (((-9223372036854775808) ≤ r.toInt ∧ r.toInt ≤ 9223372036854775807) ∧ ¬ x3.toInt = 0 ∧ ¬ x0.toInt = 0) ∨ (r.toInt = (-1) ∧ x3.toInt = 0 ∧ (u.2.2.2.1 0).toInt = x10.toInt)) ∧ (0 ≤ (u.2.2.2.1 0).toInt ∧ (u.2.2.2.1 0).toInt ≤ 4) ∧ (∀ j, (-3) ≤ ((u.2.1 2) j).toInt ∧ ((u.2.1 2) j).toInt ≤ 24) ∧ (∀ j, 0 ≤ ((u.2.1 3) j).toInt ∧ ((u.2.1 3) j).toInt ≤ 23)) (gB D (va_A (zS_165 cB cC cI cJ a0 a1 a2 a3 a4 a5 a6 a7 a8 a9 a10 x1 a11 a12 a13 a11 a14 a15 a16 x2 x3 x4 x5 x6 x7 x8 a6 a17 a18 a19 a20 a21 a22 y0 x9 y1 y2 a17 a23 a24 a25 a26 a27 a28 a29 x10 a14 a30 a30 f0 a23 g0 a25 g1 a24 g2 a26 f1 a27 f2 a28 f3 a29 f4 a21 f5 a22 g3 a20 f6 a19 f7) sz) (fun u : gEx => (zS_165 cB cC cI cJ a0 a1 a2 a3 a4 a5 a6 a7 a8 a9 a10 x1 a11 a12 a13 a11 a14 a15 a16 x2 x3 x4 x5 x6 x7 x8 a6 a17 a18 a19 a20 a21 a22 (u.2.2.2.2 0) x9 (u.2.2.2.2 1) (u.2.2.2.2 2) a17 a23 a24 a25 a26 a27 a28 a29 (u.2.2.2.1 0) a14 a30 a30 f0 a23 (u.2.2.1 0) a25 (u.2.2.1 1) a24 (u.2.2.1 2) a26 (u.2.1 0) a27 (u.2.1 1) a28 (u.2.1 2) a29 (u.2.1 3) a21 (u.2.1 4) a22 (u.2.2.1 3) a20 (u.2.1 5) a19 (u.2.1 6)))) (va_A (zS_165 cB cC cI cJ a0 a1 a2 a3 a4 a5 a6 a7 a8 a9 a10 x1 a11 a12 a13 a11 a14 a15 a16 x2 x3 x4 x5 x6 x7 x8 a6 a17 a18 a19 a20 a21 a22 y0 x9 y1 y2 a17 a23 a24 a25 a26 a27 a28 a29 x10 a14 a30 a30 f0 a23 g0 a25 g1 a24 g2 a26 f1 a27 f2 a28 f3 a29 f4 a21 f5 a22 g3 a20 f6 a19 f7) sz)) 0 0 (va_A (zS_165 cB cC cI cJ a0 a1 a2 a3 a4 a5 a6 a7 a8 a9 a10 x1 a11 a12 a13 a11 a14 a15 a16 x2 x3 x4 x5 x6 x7 x8 a6 a17 a18 a19 a20 a21 a22 y0 x9 y1 y2 a17 a23 a24 a25 a26 a27 a28 a29 x10 a14 a30 a30 f0 a23 g0 a25 g1 a24 g2 a26 f1 a27 f2 a28 f3 a29 f4 a21 f5 a22 g3 a20 f6 a19 f7) sz) := by
  refine gOf_l (by decide +kernel) (Nat.le_of_ble_eq_true rfl) ?_
  intro p e s m args below meth c ls A Q hx hb hts hown hml hN hK hP hD hA hl hret
  replace hown : s.vm.findClass RX11 = some m.cls := hown
  have hS : va_S A s.heap s.heap [] := va_S.rf
  replace hP : va_P D gcl (zS_165 cB cC cI cJ a0 a1 a2 a3 a4 a5 a6 a7 a8 a9 a10 x1 a11 a12 a13 a11 a14 a15 a16 x2 x3 x4 x5 x6 x7 x8 a6 a17 a18 a19 a20 a21 a22 y0 x9 y1 y2 a17 a23 a24 a25 a26 a27 a28 a29 x10 a14 a30 a30 f0 a23 g0 a25 g1 a24 g2 a26 f1 a27 f2 a28 f3 a29 f4 a21 f5 a22 g3 a20 f6 a19 f7) s.heap := hP
  replace hl : lv_has ls 2 [(0, .ref a0), (1, .int x0)] := hl
  have rx7 : zBd x7.toInt (-2147483648) 2147483647 := n_rng x7
  have rx8 : zBd x8.toInt (-2147483648) 2147483647 := n_rng x8
  have ry0 := n_rngL y0
  have ry1 := n_rngL y1
  have ry2 := n_rngL y2
  refine lv_aload_n (pc := 0) hx hb dX11_span_0 rfl (lv_at hl 0 rfl) ?_
  refine va_get (pc := 1) (ci := 11) (v := .ref a11) (C := RX11) (T := TX11) (N := 14) hx hb hts iX11 hown hK hP 0 rfl rfl 11 (by decide) (hts _ tw_431) (fun _ h9 => h9) rfl dX11_span_1 ?_
  refine va_getN (pc := 4) (ci := 1) (v := .int x3) (C := RX1) (T := TX1) (N := 10) hx hb hts iX1 hown hK hP 1 rfl rfl 4 (by decide) (va_Nw.use rfl (hN _ tn_123)) (fun _ h9 => h9) rfl dX11_span_4 ?_
  refine b_if_ne (pc := 7) (tgt := 14) hx hb rfl  dX11_span_7 (by decide) (fun c_1 => ?_) (fun c_1 => ?_)
  ·
    as_aux_lemma =>
      refine lv_iload_n (pc := 14) hx hb dX11_span_14 rfl (lv_at hl 1 rfl) ?_
      refine b_if_eq (pc := 15) (tgt := 32) hx hb rfl  dX11_span_15 (by decide) (fun c_2 => ?_) (fun c_2 => ?_)
      ·
        as_aux_lemma =>
          refine lv_aload_n (pc := 32) hx hb dX11_span_32 rfl (lv_at hl 0 rfl) ?_
          refine va_get (pc := 33) (ci := 11) (v := .ref a6) (C := RX11) (T := TX11) (N := 14) hx hb hts iX11 hown hK hP 0 rfl rfl 5 (by decide) (hts _ tw_425) (fun _ h9 => h9) rfl dX11_span_33 ?_
          refine lv_aload_n (pc := 36) hx hb dX11_span_36 rfl (lv_at hl 0 rfl) ?_
          refine va_get (pc := 37) (ci := 11) (v := .ref a11) (C := RX11) (T := TX11) (N := 14) hx hb hts iX11 hown hK hP 0 rfl rfl 11 (by decide) (hts _ tw_431) (fun _ h9 => h9) rfl dX11_span_37 ?_
          refine gc_l (pc := 40) (wc := (zS_38 cB cC cI cJ a6 a17 a18 a19 a20 a21 a22 y0 x9 y1 y2 a11 a14 a15 a16 x2 x3 x4 x5 x6 x7 x8 a17 a23 a24 a25 a26 a27 a28 a29 x10 a14 a30 a30 f0 a23 g0 a25 g1 a24 g2 a26 f1 a27 f2 a28 f3 a29 f4)) (wr := [(a0, .inr (11, [.ref a1, .ref a2, .ref a3, .ref a4, .ref a5, .ref a6, .ref a7, .ref a8, .ref a9, .ref a10, .int x1, .ref a11, .ref a12, .ref a13])), (a21, .inl (cI, 5, .inl f5)), (a22, .inl (cJ, 5, .inr (.inl g3))), (a20, .inl (cI, 5, .inl f6)), (a19, .inl (cI, 5, .inl f7))]) hP hD hS hA [2, 1, 3, 4, 5, 6, 7, 8, 9, 10, 11, 12] [0, 13, 14, 15, 16] rfl rfl (by decide +kernel) (by decide +kernel) (by decide +kernel) (fun hPc hDc => va_runV (As := [.ref a11]) (rest := []) ⟨hx, hb, hml, hown, hts⟩ (k_X3_leastOfAll l D cB cC cI cJ _ a6 a11 a17 a18 a19 a20 a21 a22 a14 a15 a16 a23 a24 a25 a26 a27 a28 a29 a30 x9 x2 x3 x4 x5 x6 x7 x8 x10 y0 y1 y2 f0 f1 f2 f3 f4 g0 g1 g2 h_x9 h_x2 h_x3 h_x4 h_x5 h_x6 h_x10 hf_f3 hf_f4) ⟨gcwB hts tw_1292 tw_12 tw_1289 hd_yX3_leastOfAll ⟨Nat.le_of_ble_eq_true rfl, Nat.le_of_ble_eq_true rfl⟩, hts _ tw_1290, hts _ tw_1291⟩ ⟨gblind, va_recv hK hPc (ci := 3) (q0 := 0) rfl rfl, (gpreS hPc hK hDc hN).2⟩ rfl rfl hl.1 rfl (lv_room (Nat.le_of_ble_eq_true rfl)) dX11_span_40 ⟨Nat.le_of_ble_eq_true rfl, Nat.le_of_ble_eq_true rfl⟩) (fun r_4 u_3 H locs hw_5 hP hD hS => ?_)
          replace hP : va_P D gcl [(a0, .inr (11, [.ref a1, .ref a2, .ref a3, .ref a4, .ref a5, .ref a6, .ref a7, .ref a8, .ref a9, .ref a10, .int x1, .ref a11, .ref a12, .ref a13])), (a21, .inl (cI, 5, .inl f5)), (a22, .inl (cJ, 5, .inr (.inl g3))), (a20, .inl (cI, 5, .inl f6)), (a19, .inl (cI, 5, .inl f7)), (a6, .inr (3, [.ref a17, .ref a18, .ref a19, .ref a20, .ref a21, .ref a22, .long y0, .int x9, .long (u_3.2.2.2.2 0), .long y2])), (a11, .inr (1, [.ref a14, .ref a15, .ref a16, .int x2, .int x3, .int x4, .int x5, .int x6, .int x7, .int x8])), (a17, .inr (10, [.ref a23, .ref a24, .ref a25, .ref a26, .ref a27, .ref a28, .ref a29, .int (u_3.2.2.2.1 0)])), (a14, .inr (8, [.ref a30])), (a30, .inl (cI, 30, .inl f0)), (a23, .inl (cJ, 25, .inr (.inl (u_3.2.2.1 0)))), (a25, .inl (cJ, 25, .inr (.inl (u_3.2.2.1 1)))), (a24, .inl (cJ, 5, .inr (.inl (u_3.2.2.1 2)))), (a26, .inl (cI, 5, .inl (u_3.2.1 0))), (a27, .inl (cI, 5, .inl (u_3.2.1 1))), (a28, .inl (cI, 5, .inl (u_3.2.1 2))), (a29, .inl (cI, 5, .inl (u_3.2.1 3)))] H := hP
          replace hD : va_D A [(a0, .inr (11, [.ref a1, .ref a2, .ref a3, .ref a4, .ref a5, .ref a6, .ref a7, .ref a8, .ref a9, .ref a10, .int x1, .ref a11, .ref a12, .ref a13])), (a21, .inl (cI, 5, .inl f5)), (a22, .inl (cJ, 5, .inr (.inl g3))), (a20, .inl (cI, 5, .inl f6)), (a19, .inl (cI, 5, .inl f7)), (a6, .inr (3, [.ref a17, .ref a18, .ref a19, .ref a20, .ref a21, .ref a22, .long y0, .int x9, .long (u_3.2.2.2.2 0), .long y2])), (a11, .inr (1, [.ref a14, .ref a15, .ref a16, .int x2, .int x3, .int x4, .int x5, .int x6, .int x7, .int x8])), (a17, .inr (10, [.ref a23, .ref a24, .ref a25, .ref a26, .ref a27, .ref a28, .ref a29, .int (u_3.2.2.2.1 0)])), (a14, .inr (8, [.ref a30])), (a30, .inl (cI, 30, .inl f0)), (a23, .inl (cJ, 25, .inr (.inl (u_3.2.2.1 0)))), (a25, .inl (cJ, 25, .inr (.inl (u_3.2.2.1 1)))), (a24, .inl (cJ, 5, .inr (.inl (u_3.2.2.1 2)))), (a26, .inl (cI, 5, .inl (u_3.2.1 0))), (a27, .inl (cI, 5, .inl (u_3.2.1 1))), (a28, .inl (cI, 5, .inl (u_3.2.1 2))), (a29, .inl (cI, 5, .inl (u_3.2.1 3)))] := hD
          have ru_3_0 := n_rngL (u_3.2.2.2.2 0)
          obtain ⟨hw_6, hw_7, hw_8, hw_9⟩ := hw_5
          replace hw_6 : ((((-9223372036854775808) ≤ r_4.toInt ∧ r_4.toInt ≤ 9223372036854775807) ∧ y1.toInt < 0) ∨ (((-9223372036854775808) ≤ r_4.toInt ∧ r_4.toInt ≤ 2147483647) ∧ y1.toInt < 0) ∨ (r_4.toInt = y1.toInt ∧ y1.toInt ≥ 0)) := hw_6
          replace hw_7 : zBd (u_3.2.2.2.1 0).toInt 0 4 := hw_7
          replace hw_8 : (∀ j, (-3) ≤ ((u_3.2.1 2) j).toInt ∧ ((u_3.2.1 2) j).toInt ≤ 24) := hw_8
          replace hw_9 : (∀ j, 0 ≤ ((u_3.2.1 3) j).toInt ∧ ((u_3.2.1 3) j).toInt ≤ 23) := hw_9
          have rr_4 := n_rngL r_4
          exact hret r_4 ((fun _ => 0), (fun k => [(u_3.2.1 0), (u_3.2.1 1), (u_3.2.1 2), (u_3.2.1 3), f5, f6, f7].getD k (fun _ => 0)), (fun k => [(u_3.2.2.1 0), (u_3.2.2.1 1), (u_3.2.2.1 2), g3].getD k (fun _ => 0)), (fun k => [(u_3.2.2.2.1 0)].getD k 0), (fun k => [y0, (u_3.2.2.2.2 0), y2].getD k 0)) dX11_span_43 ⟨(show ((((-9223372036854775808) ≤ r_4.toInt ∧ r_4.toInt ≤ 9223372036854775807) ∧ ¬ x3.toInt = 0 ∧ x0.toInt = 0) ∨ (((-9223372036854775808) ≤ r_4.toInt ∧ r_4.toInt ≤ 9223372036854775807) ∧ ¬ x3.toInt = 0 ∧ ¬ x0.toInt = 0) ∨ (r_4.toInt = (-1) ∧ x3.toInt = 0 ∧ ((u_3.2.2.2.1 0) : Int32).toInt = x10.toInt)) from (by first | exact (om_1433 rr_4.1 rr_4.2 c_1 c_2) | ((first | omega | (unfold zBd at *; omega))))), (show (0 ≤ ((u_3.2.2.2.1 0) : Int32).toInt ∧ ((u_3.2.2.2.1 0) : Int32).toInt ≤ 4) from hw_7), hw_8, hw_9⟩ (g_psub (wc := (zS_165 cB cC cI cJ a0 a1 a2 a3 a4 a5 a6 a7 a8 a9 a10 x1 a11 a12 a13 a11 a14 a15 a16 x2 x3 x4 x5 x6 x7 x8 a6 a17 a18 a19 a20 a21 a22 y0 x9 (u_3.2.2.2.2 0) y2 a17 a23 a24 a25 a26 a27 a28 a29 (u_3.2.2.2.1 0) a14 a30 a30 f0 a23 (u_3.2.2.1 0) a25 (u_3.2.2.1 1) a24 (u_3.2.2.1 2) a26 (u_3.2.1 0) a27 (u_3.2.1 1) a28 (u_3.2.1 2) a29 (u_3.2.1 3) a21 f5 a22 g3 a20 f6 a19 f7)) hP [0, 6, 5, 7, 8, 9, 10, 11, 12, 13, 14, 15, 16, 1, 2, 3, 4] rfl) (hD.sub (ws' := (zS_165 cB cC cI cJ a0 a1 a2 a3 a4 a5 a6 a7 a8 a9 a10 x1 a11 a12 a13 a11 a14 a15 a16 x2 x3 x4 x5 x6 x7 x8 a6 a17 a18 a19 a20 a21 a22 y0 x9 (u_3.2.2.2.2 0) y2 a17 a23 a24 a25 a26 a27 a28 a29 (u_3.2.2.2.1 0) a14 a30 a30 f0 a23 (u_3.2.2.1 0) a25 (u_3.2.2.1 1) a24 (u_3.2.2.1 2) a26 (u_3.2.1 0) a27 (u_3.2.1 1) a28 (u_3.2.1 2) a29 (u_3.2.1 3) a21 f5 a22 g3 a20 f6 a19 f7)) [0, 6, 5, 7, 8, 9, 10, 11, 12, 13, 14, 15, 16, 1, 2, 3, 4] (by decide) rfl) hS
      ·
        as_aux_lemma =>
          refine lv_aload_n (pc := 18) hx hb dX11_span_18 rfl (lv_at hl 0 rfl) ?_
          refine va_get (pc := 19) (ci := 11) (v := .ref a6) (C := RX11) (T := TX11) (N := 14) hx hb hts iX11 hown hK hP 0 rfl rfl 5 (by decide) (hts _ tw_425) (fun _ h9 => h9) rfl dX11_span_19 ?_
          refine lv_aload_n (pc := 22) hx hb dX11_span_22 rfl (lv_at hl 0 rfl) ?_
          refine va_get (pc := 23) (ci := 11) (v := .ref a11) (C := RX11) (T := TX11) (N := 14) hx hb hts iX11 hown hK hP 0 rfl rfl 11 (by decide) (hts _ tw_431) (fun _ h9 => h9) rfl dX11_span_23 ?_
          refine gc_l (pc := 26) (wc := (zS_89 cB cC cI cJ a6 a17 a18 a19 a20 a21 a22 y0 x9 y1 y2 a17 a23 a24 a25 a26 a27 a28 a29 x10 a11 a14 a15 a16 x2 x3 x4 x5 x6 x7 x8 a14 a30 a30 f0 a23 g0 a25 g1 a24 g2 a21 f5 a22 g3 a20 f6 a29 f4 a26 f1 a27 f2 a28 f3 a19 f7)) (wr := (zS_177 cB cC cI cJ a0 a1 a2 a3 a4 a5 a6 a7 a8 a9 a10 x1 a11 a12 a13)) hP hD hS hA [2, 3, 1, 4, 5, 6, 7, 8, 13, 14, 15, 12, 9, 10, 11, 16] [0] rfl rfl (by decide +kernel) (by decide +kernel) (by decide +kernel) (fun hPc hDc => va_runV (As := [.ref a11]) (rest := []) ⟨hx, hb, hml, hown, hts⟩ (k_X3_mostOfAll l D cB cC cI cJ _ a6 a11 a17 a18 a19 a20 a21 a22 a23 a24 a25 a26 a27 a28 a29 a14 a15 a16 a30 x9 x10 x2 x3 x4 x5 x6 x7 x8 y0 y1 y2 f0 f5 f6 f4 f1 f2 f3 f7 g0 g1 g2 g3 h_x9 h_x10 h_x2 h_x3 h_x4 h_x5 h_x6 hf_f4 hf_f3) ⟨gcwB hts tw_1243 tw_12 tw_1240 hd_yX3_mostOfAll ⟨Nat.le_of_ble_eq_true rfl, Nat.le_of_ble_eq_true rfl⟩, hts _ tw_1241, hts _ tw_1242⟩ ⟨gblind, va_recv hK hPc (ci := 3) (q0 := 0) rfl rfl, (gpreS hPc hK hDc hN).2⟩ rfl rfl hl.1 rfl (lv_room (Nat.le_of_ble_eq_true rfl)) dX11_span_26 ⟨Nat.le_of_ble_eq_true rfl, Nat.le_of_ble_eq_true rfl⟩) (fun r_11 u_10 H locs hw_12 hP hD hS => ?_)
          replace hP : va_P D gcl [(a0, .inr (11, [.ref a1, .ref a2, .ref a3, .ref a4, .ref a5, .ref a6, .ref a7, .ref a8, .ref a9, .ref a10, .int x1, .ref a11, .ref a12, .ref a13])), (a6, .inr (3, [.ref a17, .ref a18, .ref a19, .ref a20, .ref a21, .ref a22, .long (u_10.2.2.2.2 0), .int x9, .long y1, .long (u_10.2.2.2.2 1)])), (a17, .inr (10, [.ref a23, .ref a24, .ref a25, .ref a26, .ref a27, .ref a28, .ref a29, .int (u_10.2.2.2.1 0)])), (a11, .inr (1, [.ref a14, .ref a15, .ref a16, .int x2, .int x3, .int x4, .int x5, .int x6, .int x7, .int x8])), (a14, .inr (8, [.ref a30])), (a30, .inl (cI, 30, .inl f0)), (a23, .inl (cJ, 25, .inr (.inl (u_10.2.2.1 0)))), (a25, .inl (cJ, 25, .inr (.inl (u_10.2.2.1 1)))), (a24, .inl (cJ, 5, .inr (.inl (u_10.2.2.1 2)))), (a21, .inl (cI, 5, .inl (u_10.2.1 0))), (a22, .inl (cJ, 5, .inr (.inl (u_10.2.2.1 3)))), (a20, .inl (cI, 5, .inl (u_10.2.1 1))), (a29, .inl (cI, 5, .inl (u_10.2.1 2))), (a26, .inl (cI, 5, .inl (u_10.2.1 3))), (a27, .inl (cI, 5, .inl (u_10.2.1 4))), (a28, .inl (cI, 5, .inl (u_10.2.1 5))), (a19, .inl (cI, 5, .inl (u_10.2.1 6)))] H := hP
          replace hD : va_D A [(a0, .inr (11, [.ref a1, .ref a2, .ref a3, .ref a4, .ref a5, .ref a6, .ref a7, .ref a8, .ref a9, .ref a10, .int x1, .ref a11, .ref a12, .ref a13])), (a6, .inr (3, [.ref a17, .ref a18, .ref a19, .ref a20, .ref a21, .ref a22, .long (u_10.2.2.2.2 0), .int x9, .long y1, .long (u_10.2.2.2.2 1)])), (a17, .inr (10, [.ref a23, .ref a24, .ref a25, .ref a26, .ref a27, .ref a28, .ref a29, .int (u_10.2.2.2.1 0)])), (a11, .inr (1, [.ref a14, .ref a15, .ref a16, .int x2, .int x3, .int x4, .int x5, .int x6, .int x7, .int x8])), (a14, .inr (8, [.ref a30])), (a30, .inl (cI, 30, .inl f0)), (a23, .inl (cJ, 25, .inr (.inl (u_10.2.2.1 0)))), (a25, .inl (cJ, 25, .inr (.inl (u_10.2.2.1 1)))), (a24, .inl (cJ, 5, .inr (.inl (u_10.2.2.1 2)))), (a21, .inl (cI, 5, .inl (u_10.2.1 0))), (a22, .inl (cJ, 5, .inr (.inl (u_10.2.2.1 3)))), (a20, .inl (cI, 5, .inl (u_10.2.1 1))), (a29, .inl (cI, 5, .inl (u_10.2.1 2))), (a26, .inl (cI, 5, .inl (u_10.2.1 3))), (a27, .inl (cI, 5, .inl (u_10.2.1 4))), (a28, .inl (cI, 5, .inl (u_10.2.1 5))), (a19, .inl (cI, 5, .inl (u_10.2.1 6)))] := hD
          have ru_10_0 := n_rngL (u_10.2.2.2.2 0)
          have ru_10_1 := n_rngL (u_10.2.2.2.2 1)
          obtain ⟨hw_13, hw_14, hw_15, hw_16⟩ := hw_12
          replace hw_13 : ((((-9223372036854775808) ≤ r_11.toInt ∧ r_11.toInt ≤ 9223372036854775807) ∧ y2.toInt < 0) ∨ (r_11.toInt = y2.toInt ∧ y2.toInt ≥ 0 ∧ (u_10.2.2.2.1 0).toInt = x10.toInt)) := hw_13
          replace hw_14 : zBd (u_10.2.2.2.1 0).toInt 0 4 := hw_14
          replace hw_15 : (∀ j, 0 ≤ ((u_10.2.1 2) j).toInt ∧ ((u_10.2.1 2) j).toInt ≤ 23) := hw_15
          replace hw_16 : (∀ j, (-3) ≤ ((u_10.2.1 5) j).toInt ∧ ((u_10.2.1 5) j).toInt ≤ 24) := hw_16
          have rr_11 := n_rngL r_11
          refine lv_goto (pc := 29) (tgt := 43) hx hb dX11_span_29 (by decide) ?_
          exact hret r_11 ((fun _ => 0), (fun k => [(u_10.2.1 3), (u_10.2.1 4), (u_10.2.1 5), (u_10.2.1 2), (u_10.2.1 0), (u_10.2.1 1), (u_10.2.1 6)].getD k (fun _ => 0)), (fun k => [(u_10.2.2.1 0), (u_10.2.2.1 1), (u_10.2.2.1 2), (u_10.2.2.1 3)].getD k (fun _ => 0)), (fun k => [(u_10.2.2.2.1 0)].getD k 0), (fun k => [(u_10.2.2.2.2 0), y1, (u_10.2.2.2.2 1)].getD k 0)) dX11_span_43 ⟨(show ((((-9223372036854775808) ≤ r_11.toInt ∧ r_11.toInt ≤ 9223372036854775807) ∧ ¬ x3.toInt = 0 ∧ x0.toInt = 0) ∨ (((-9223372036854775808) ≤ r_11.toInt ∧ r_11.toInt ≤ 9223372036854775807) ∧ ¬ x3.toInt = 0 ∧ ¬ x0.toInt = 0) ∨ (r_11.toInt = (-1) ∧ x3.toInt = 0 ∧ ((u_10.2.2.2.1 0) : Int32).toInt = x10.toInt)) from (by first | exact (om_1434 rr_11.1 rr_11.2 c_1 c_2 hp1.1) | ((first | omega | (unfold zBd at *; omega))))), (show (0 ≤ ((u_10.2.2.2.1 0) : Int32).toInt ∧ ((u_10.2.2.2.1 0) : Int32).toInt ≤ 4) from hw_14), hw_16, hw_15⟩ (g_psub (wc := (zS_165 cB cC cI cJ a0 a1 a2 a3 a4 a5 a6 a7 a8 a9 a10 x1 a11 a12 a13 a11 a14 a15 a16 x2 x3 x4 x5 x6 x7 x8 a6 a17 a18 a19 a20 a21 a22 (u_10.2.2.2.2 0) x9 y1 (u_10.2.2.2.2 1) a17 a23 a24 a25 a26 a27 a28 a29 (u_10.2.2.2.1 0) a14 a30 a30 f0 a23 (u_10.2.2.1 0) a25 (u_10.2.2.1 1) a24 (u_10.2.2.1 2) a26 (u_10.2.1 3) a27 (u_10.2.1 4) a28 (u_10.2.1 5) a29 (u_10.2.1 2) a21 (u_10.2.1 0) a22 (u_10.2.2.1 3) a20 (u_10.2.1 1) a19 (u_10.2.1 6))) hP [0, 3, 1, 2, 4, 5, 6, 7, 8, 13, 14, 15, 12, 9, 10, 11, 16] rfl) (hD.sub (ws' := (zS_165 cB cC cI cJ a0 a1 a2 a3 a4 a5 a6 a7 a8 a9 a10 x1 a11 a12 a13 a11 a14 a15 a16 x2 x3 x4 x5 x6 x7 x8 a6 a17 a18 a19 a20 a21 a22 (u_10.2.2.2.2 0) x9 y1 (u_10.2.2.2.2 1) a17 a23 a24 a25 a26 a27 a28 a29 (u_10.2.2.2.1 0) a14 a30 a30 f0 a23 (u_10.2.2.1 0) a25 (u_10.2.2.1 1) a24 (u_10.2.2.1 2) a26 (u_10.2.1 3) a27 (u_10.2.1 4) a28 (u_10.2.1 5) a29 (u_10.2.1 2) a21 (u_10.2.1 0) a22 (u_10.2.2.1 3) a20 (u_10.2.1 1) a19 (u_10.2.1 6))) [0, 3, 1, 2, 4, 5, 6, 7, 8, 13, 14, 15, 12, 9, 10, 11, 16] (by decide) rfl) hS
  ·
    as_aux_lemma =>
      refine lv_ldc2 (pc := 10) hx hb hown (hts _ tw_844) dX11_span_10 ?_
      exact hret (-1) ((fun _ => 0), (fun k => [f1, f2, f3, f4, f5, f6, f7].getD k (fun _ => 0)), (fun k => [g0, g1, g2, g3].getD k (fun _ => 0)), (fun k => [x10].getD k 0), (fun k => [y0, y1, y2].getD k 0)) dX11_span_13 ⟨(show ((((-9223372036854775808) ≤ ((-1) : Int64).toInt ∧ ((-1) : Int64).toInt ≤ 9223372036854775807) ∧ ¬ x3.toInt = 0 ∧ x0.toInt = 0) ∨ (((-9223372036854775808) ≤ ((-1) : Int64).toInt ∧ ((-1) : Int64).toInt ≤ 9223372036854775807) ∧ ¬ x3.toInt = 0 ∧ ¬ x0.toInt = 0) ∨ (((-1) : Int64).toInt = (-1) ∧ x3.toInt = 0 ∧ (x10 : Int32).toInt = x10.toInt)) from (by first | exact (om_1435 tL_m1) | (have k9 := tL_m1; (first | omega | (unfold zBd at *; omega))))), (show (0 ≤ (x10 : Int32).toInt ∧ (x10 : Int32).toInt ≤ 4) from h_x10), hf_f3, hf_f4⟩ (g_psub (wc := (zS_165 cB cC cI cJ a0 a1 a2 a3 a4 a5 a6 a7 a8 a9 a10 x1 a11 a12 a13 a11 a14 a15 a16 x2 x3 x4 x5 x6 x7 x8 a6 a17 a18 a19 a20 a21 a22 y0 x9 y1 y2 a17 a23 a24 a25 a26 a27 a28 a29 x10 a14 a30 a30 f0 a23 g0 a25 g1 a24 g2 a26 f1 a27 f2 a28 f3 a29 f4 a21 f5 a22 g3 a20 f6 a19 f7)) hP [0, 1, 2, 3, 4, 5, 6, 7, 8, 9, 10, 11, 12, 13, 14, 15, 16] rfl) (hD.sub (ws' := (zS_165 cB cC cI cJ a0 a1 a2 a3 a4 a5 a6 a7 a8 a9 a10 x1 a11 a12 a13 a11 a14 a15 a16 x2 x3 x4 x5 x6 x7 x8 a6 a17 a18 a19 a20 a21 a22 y0 x9 y1 y2 a17 a23 a24 a25 a26 a27 a28 a29 x10 a14 a30 a30 f0 a23 g0 a25 g1 a24 g2 a26 f1 a27 f2 a28 f3 a29 f4 a21 f5 a22 g3 a20 f6 a19 f7)) [0, 1, 2, 3, 4, 5, 6, 7, 8, 9, 10, 11, 12, 13, 14, 15, 16] (by decide) rfl) hS
set_option maxHeartbeats 4000000 in
set_option maxRecDepth 100000 in
theorem k_X3_putAhead_5 (l : Launch) (D : va_G) (cB cC cI cJ : ClassId) (sz : Nat) (a0 a1 a2 a3 a4 a5 a6 a7 a8 a9 a10 a11 a12 a13 a14 a15 a16 a17 a18 a19 : Nat) (x0 x1 x2 x3 x4 x5 x6 x7 x8 : Int32) (y0 y1 y2 : Int64) (f0 f1 f2 f3 f4 f5 f6 f7 : Nat → Int32) (g0 g1 g2 : Nat → Int64) (h_x0 : zBd x0.toInt 0 1) (h_x1 : zBd x1.toInt 0 4) (h_x2 : zBd x2.toInt (-1) 8) (h_x3 : zBd x3.toInt (-1) 5) (h_x4 : zBd x4.toInt (-1) 6) (h_x5 : zBd x5.toInt 0 6) (h_x6 : zBd x6.toInt 0 16) (hf_f2 : (∀ j, 0 ≤ (f2 j).toInt ∧ (f2 j).toInt ≤ 23)) (hf_f5 : (∀ j, (-3) ≤ (f5 j).toInt ∧ (f5 j).toInt ≤ 24)) : Met l yX3_putAhead (.code yX3_putAhead cX3_putAhead 5 (some .long) :: lw_gd) ({ frames := 3, cells := 0, slots := 0, locals := 84 }) (gPre D [(cB, .byte), (cC, .char), (cI, .int), (cJ, .long)] [.ref a0, .ref a1, .ref a2] (zS_166 cB cC cI cJ a0 a3 a4 a5 a6 a7 a8 y0 x0 y1 y2 a3 a9 a10 a11 a12 a13 a14 a15 x1 a1 a16 a17 a18 x2 x3 x4 x5 x6 x7 x8 a16 a19 a19 f0 a9 g0 a11 g1 a10 g2 a2 f1 a15 f2 a12 f3 a13 f4 a14 f5 a5 f6 a4 f7) sz) (va_Ql (fun r u => ((((-9223372036854775808) ≤ r.toInt ∧ r.toInt ≤ 2147483647000) ∧ (u.2.2.2.1 0).toInt = 1) ∨ (((-1) ≤ r.toInt ∧ r.toInt ≤ (-1)) ∧ (u.2.2.2.1 0).toInt = 0)) ∧ (0 ≤ (u.2.2.2.1 0).toInt ∧ (u.2.2.2.1 0).toInt ≤ 1) ∧ (0 ≤ (u.2.2.2.1 1).toInt ∧ (u.2.2.2.1 1).toInt ≤ 4) ∧ (∀ j, 0 ≤ ((u.2.1 0) j).toInt ∧ ((u.2.1 0) j).toInt ≤ 23) ∧ (∀ j, (-3) ≤ ((u.2.1 3) j).toInt ∧ ((u.2.1 3) j).toInt ≤ 24)) (gB D (va_A (zS_166 cB cC cI cJ a0 a3 a4 a5 a6 a7 a8 y0 x0 y1 y2 a3 a9 a10 a11 a12 a13 a14 a15 x1 a1 a16 a17 a18 x2 x3 x4 x5 x6 x7 x8 a16 a19 a19 f0 a9 g0 a11 g1 a10 g2 a2 f1 a15 f2 a12 f3 a13 f4 a14 f5 a5 f6 a4 f7) sz) (fun u : gEx => (zS_166 cB cC cI cJ a0 a3 a4 a5 a6 a7 a8 y0 (u.2.2.2.1 0) y1 y2 a3 a9 a10 a11 a12 a13 a14 a15 (u.2.2.2.1 1) a1 a16 a17 a18 x2 x3 x4 x5 x6 x7 x8 a16 a19 a19 f0 a9 (u.2.2.1 0) a11 (u.2.2.1 1) a10 (u.2.2.1 2) a2 f1 a15 (u.2.1 0) a12 (u.2.1 1) a13 (u.2.1 2) a14 (u.2.1 3) a5 (u.2.1 4) a4 (u.2.1 5)))) (va_A (zS_166 cB cC cI cJ a0 a3 a4 a5 a6 a7 a8 y0 x0 y1 y2 a3 a9 a10 a11 a12 a13 a14 a15 x1 a1 a16 a17 a18 x2 x3 x4 x5 x6 x7 x8 a16 a19 a19 f0 a9 g0 a11 g1 a10 g2 a2 f1 a15 f2 a12 f3 a13 f4 a14 f5 a5 f6 a4 f7) sz)) 0 0 (va_A (zS_166 cB cC cI cJ a0 a3 a4 a5 a6 a7 a8 y0 x0 y1 y2 a3 a9 a10 a11 a12 a13 a14 a15 x1 a1 a16 a17 a18 x2 x3 x4 x5 x6 x7 x8 a16 a19 a19 f0 a9 g0 a11 g1 a10 g2 a2 f1 a15 f2 a12 f3 a13 f4 a14 f5 a5 f6 a4 f7) sz) := by
  refine gOf_l (by decide +kernel) (Nat.le_of_ble_eq_true rfl) ?_
  intro p e s m args below meth c ls A Q hx hb hts hown hml hN hK hP hD hA hl hret
  replace hown : s.vm.findClass RX3 = some m.cls := hown
  have hS : va_S A s.heap s.heap [] := va_S.rf
  replace hP : va_P D gcl (zS_166 cB cC cI cJ a0 a3 a4 a5 a6 a7 a8 y0 x0 y1 y2 a3 a9 a10 a11 a12 a13 a14 a15 x1 a1 a16 a17 a18 x2 x3 x4 x5 x6 x7 x8 a16 a19 a19 f0 a9 g0 a11 g1 a10 g2 a2 f1 a15 f2 a12 f3 a13 f4 a14 f5 a5 f6 a4 f7) s.heap := hP
  replace hl : lv_has ls 5 [(0, .ref a0), (1, .ref a1), (2, .ref a2)] := hl
  have ry0 := n_rngL y0
  have ry1 := n_rngL y1
  have ry2 := n_rngL y2
  have rx7 : zBd x7.toInt (-2147483648) 2147483647 := n_rng x7
  have rx8 : zBd x8.toInt (-2147483648) 2147483647 := n_rng x8
  refine lv_aload_n (pc := 0) hx hb dX3_putAhead_0 rfl (lv_at hl 0 rfl) ?_
  refine va_get (pc := 1) (ci := 3) (v := .ref a3) (C := RX3) (T := TX3) (N := 10) hx hb hts iX3 hown hK hP 0 rfl rfl 0 (by decide) (hts _ tw_348) (fun _ h9 => h9) rfl dX3_putAhead_1 ?_
  refine lv_aload_n (pc := 4) hx hb dX3_putAhead_4 rfl (lv_at hl 1 rfl) ?_
  refine gd_v (pc := 5) (wc := (zS_42 cB cC cI cJ a3 a9 a10 a11 a12 a13 a14 a15 x1 a1 a16 a17 a18 x2 x3 x4 x5 x6 x7 x8 a16 a19 a19 f0 a9 g0 a11 g1 a10 g2)) hP hD hS hA [1, 2, 3, 4, 5, 6, 7] rfl (by decide +kernel) (fun _ => by rfl) (fun hPc hDc => va_runV (As := [.ref a1]) (rest := []) ⟨hx, hb, hml, hown, hts⟩ (k_X10_start l D cB cC cI cJ _ a3 a1 a9 a10 a11 a12 a13 a14 a15 a16 a17 a18 a19 x1 x2 x3 x4 x5 x6 x7 x8 f0 g0 g1 g2 h_x1 h_x2 h_x3 h_x4 h_x5 h_x6) ⟨gcwB hts tw_883 tw_8 tw_1244 hd_yX10_start ⟨Nat.le_of_ble_eq_true rfl, Nat.le_of_ble_eq_true rfl⟩, hts _ tw_881, hts _ tw_882⟩ ⟨gblind, va_recv hK hPc (ci := 10) (q0 := 0) rfl rfl, (gpreS hPc hK hDc hN).2⟩ rfl rfl hl.1 rfl (lv_room (Nat.le_of_ble_eq_true rfl)) dX3_putAhead_5 ⟨Nat.le_of_ble_eq_true rfl, Nat.le_of_ble_eq_true rfl⟩) (fun u_1 H locs hw_3 hP hD hS => ?_)
  replace hP : va_P D gcl (zS_166 cB cC cI cJ a0 a3 a4 a5 a6 a7 a8 y0 x0 y1 y2 a3 a9 a10 a11 a12 a13 a14 a15 (u_1.2.2.2.1 0) a1 a16 a17 a18 x2 x3 x4 x5 x6 x7 x8 a16 a19 a19 f0 a9 (u_1.2.2.1 0) a11 (u_1.2.2.1 1) a10 (u_1.2.2.1 2) a2 f1 a15 f2 a12 f3 a13 f4 a14 f5 a5 f6 a4 f7) H := hP
  replace hD : va_D A (zS_166 cB cC cI cJ a0 a3 a4 a5 a6 a7 a8 y0 x0 y1 y2 a3 a9 a10 a11 a12 a13 a14 a15 (u_1.2.2.2.1 0) a1 a16 a17 a18 x2 x3 x4 x5 x6 x7 x8 a16 a19 a19 f0 a9 (u_1.2.2.1 0) a11 (u_1.2.2.1 1) a10 (u_1.2.2.1 2) a2 f1 a15 f2 a12 f3 a13 f4 a14 f5 a5 f6 a4 f7) := hD
  have hw_4 : (0 ≤ (u_1.2.2.2.1 0).toInt ∧ (u_1.2.2.2.1 0).toInt ≤ 4) := hw_3
  refine lv_aload_n (pc := 8) hx hb dX3_putAhead_8 rfl (lv_at hl 0 rfl) ?_
  refine lv_aload_n (pc := 9) hx hb dX3_putAhead_9 rfl (lv_at hl 1 rfl) ?_
  refine lv_aload_n (pc := 10) hx hb dX3_putAhead_10 rfl (lv_at hl 2 rfl) ?_
  refine lv_ldc2 (pc := 11) hx hb hown (hts _ tw_347) dX3_putAhead_11 ?_
  refine gc_l (pc := 14) (wc := (zS_62 cB cC cI cJ a0 a3 a4 a5 a6 a7 a8 y0 x0 y1 y2 a1 a16 a17 a18 x2 x3 x4 x5 x6 x7 x8 a3 a9 a10 a11 a12 a13 a14 a15 (u_1.2.2.2.1 0) a15 f2 a12 f3 a13 f4 a10 (u_1.2.2.1 2) a9 (u_1.2.2.1 0) a11 (u_1.2.2.1 1) a14 f5 a5 f6 a2 f1)) (wr := (zS_74 cB cC cI cJ a16 a19 a19 f0 a4 f7)) hP hD hS hA [0, 2, 1, 9, 10, 11, 7, 5, 6, 12, 13, 8] [3, 4, 14] rfl rfl (by decide +kernel) (by decide +kernel) (by decide +kernel) (fun hPc hDc => va_runV (As := [.ref a1, .ref a2, .long (-1)]) (rest := []) ⟨hx, hb, hml, hown, hts⟩ (k_X3_leastFor_5 l D cB cC cI cJ _ a0 a1 a2 a3 a4 a5 a6 a7 a8 a16 a17 a18 a9 a10 a11 a12 a13 a14 a15 x0 x2 x3 x4 x5 x6 x7 x8 (u_1.2.2.2.1 0) (-1) y0 y1 y2 f2 f3 f4 f5 f6 f1 (u_1.2.2.1 2) (u_1.2.2.1 0) (u_1.2.2.1 1) h_x0 h_x2 h_x3 h_x4 h_x5 h_x6 hw_4 hf_f2 hf_f5) ⟨gcwB hts tw_1268 tw_12 tw_1265 hd_yX3_leastFor ⟨Nat.le_of_ble_eq_true rfl, Nat.le_of_ble_eq_true rfl⟩, hts _ tw_1267, hts _ tp_52⟩ ⟨gblind, va_recv hK hPc (ci := 3) (q0 := 0) rfl rfl, (gpreS hPc hK hDc hN).2⟩ rfl rfl hl.1 rfl (lv_room (Nat.le_of_ble_eq_true rfl)) dX3_putAhead_14 ⟨Nat.le_of_ble_eq_true rfl, Nat.le_of_ble_eq_true rfl⟩) (fun r_6 u_5 H locs hw_7 hP hD hS => ?_)
  replace hP : va_P D gcl (zS_183 cB cC cI cJ a16 a19 a19 f0 a4 f7 a0 a3 a4 a5 a6 a7 a8 y0 x0 y1 y2 a1 a16 a17 a18 x2 x3 x4 x5 x6 x7 x8 a3 a9 a10 a11 a12 a13 a14 a15 (u_1.2.2.2.1 0) a15 (u_5.2.1 0) a12 (u_5.2.1 1) a13 (u_5.2.1 2) a10 (u_5.2.2.1 0) a9 (u_1.2.2.1 0) a11 (u_5.2.2.1 1) a14 (u_5.2.1 3) a5 (u_5.2.1 4) a2 f1) H := hP
  replace hD : va_D A (zS_183 cB cC cI cJ a16 a19 a19 f0 a4 f7 a0 a3 a4 a5 a6 a7 a8 y0 x0 y1 y2 a1 a16 a17 a18 x2 x3 x4 x5 x6 x7 x8 a3 a9 a10 a11 a12 a13 a14 a15 (u_1.2.2.2.1 0) a15 (u_5.2.1 0) a12 (u_5.2.1 1) a13 (u_5.2.1 2) a10 (u_5.2.2.1 0) a9 (u_1.2.2.1 0) a11 (u_5.2.2.1 1) a14 (u_5.2.1 3) a5 (u_5.2.1 4) a2 f1) := hD
  obtain ⟨hw_8, hw_9, hw_10⟩ := hw_7
  replace hw_8 : ((((-9223372036854775808) ≤ r_6.toInt ∧ r_6.toInt ≤ 9223372036854775807) ∧ ((-1) ≤ x3.toInt ∧ x3.toInt ≤ 5)) ∨ (((-9223372036854775808) ≤ r_6.toInt ∧ r_6.toInt ≤ 9223372036854775807) ∧ ((-1) ≤ x3.toInt ∧ x3.toInt ≤ 5) ∧ ((-9223372036854775808) ≤ ((-1) : Int64).toInt ∧ ((-1) : Int64).toInt ≤ 9223372036854775807))) := hw_8
  replace hw_9 : (∀ j, 0 ≤ ((u_5.2.1 0) j).toInt ∧ ((u_5.2.1 0) j).toInt ≤ 23) := hw_9
  replace hw_10 : (∀ j, (-3) ≤ ((u_5.2.1 3) j).toInt ∧ ((u_5.2.1 3) j).toInt ≤ 24) := hw_10
  have kk0_r_6 := tL_m1
  have rr_6 := n_rngL r_6
  as_aux_lemma =>
    refine lv_lstore_n (pc := 17) (lv' := [(3, .long r_6), (0, .ref a0), (1, .ref a1), (2, .ref a2)]) hx hb dX3_putAhead_17 rfl hl (by decide) rfl (fun ls hl => ?_)
    refine lv_lload_n (pc := 18) hx hb dX3_putAhead_18 rfl (lv_at hl 0 rfl) ?_
    refine lv_ldc2 (pc := 19) hx hb hown (hts _ tw_1307) dX3_putAhead_19 ?_
    refine lv_aload_n (pc := 22) hx hb dX3_putAhead_22 rfl (lv_at hl 2 rfl) ?_
    refine va_getN (pc := 23) (ci := 1) (v := .int x7) (C := RX1) (T := TX1) (N := 10) hx hb hts iX1 hown hK hP 4 rfl rfl 8 (by decide) (va_Nw.use rfl (hN _ tn_140)) (fun _ h9 => h9) rfl dX3_putAhead_23 ?_
    refine b_i2l (pc := 26) hx hb rfl dX3_putAhead_26 (fun y_11 ey_11 => ?_)
    have ry_11 : zBd x7.toInt (-2147483648) 2147483647 := n_rng x7
    refine b_lmul (pc := 27) hx hb tL_1000 rfl (by first | exact (om_1022 ey_11 ry_11.1) | ((first | omega | (unfold zBd at *; omega)))) (by first | exact (om_1023 ey_11 ry_11.2) | ((first | omega | (unfold zBd at *; omega)))) dX3_putAhead_27 (fun y_12 ey_12 => ?_)
    refine b_lcmp_le (pc := 28) (tgt := 37) hx hb rfl rfl dX3_putAhead_28 dX3_putAhead_29 (by decide) (fun c_13 => ?_) (fun c_13 => ?_)
    ·
      as_aux_lemma =>
        refine lv_aload_n (pc := 37) hx hb dX3_putAhead_37 rfl (lv_at hl 1 rfl) ?_
        refine va_get (pc := 38) (ci := 3) (v := .ref a5) (C := RX3) (T := TX3) (N := 10) hx hb hts iX3 hown hK hP 3 rfl rfl 2 (by decide) (hts _ tw_351) (fun _ h9 => h9) rfl dX3_putAhead_38 ?_
        refine lv_iconst (pc := 41) (v := 0) hx hb dX3_putAhead_41 (by decide) ?_
        refine lv_aload_n (pc := 42) hx hb dX3_putAhead_42 rfl (lv_at hl 1 rfl) ?_
        refine va_get (pc := 43) (ci := 3) (v := .ref a4) (C := RX3) (T := TX3) (N := 10) hx hb hts iX3 hown hK hP 3 rfl rfl 1 (by decide) (hts _ tw_349) (fun _ h9 => h9) rfl dX3_putAhead_43 ?_
        refine lv_iconst (pc := 46) (v := 0) hx hb dX3_putAhead_46 (by decide) ?_
        refine lv_iconst (pc := 47) (v := 5) hx hb dX3_putAhead_47 (by decide) ?_
        refine g_copyi (pc := 48) hx hb (hml.trans hl.1.symm) hown (hts _ tw_1312) (hts _ tw_745) (hts _ tw_744) (hts _ tw_20) hK hP hD hS 13 2 2 2 rfl rfl rfl rfl rfl (by decide +kernel) (by decide +kernel) (by decide +kernel) (by decide +kernel) (by decide +kernel) (fun _ _ => rfl) (Nat.le_of_ble_eq_true rfl) (Nat.le_of_ble_eq_true rfl) dX3_putAhead_48 (fun f_14 H locs hP hD hS => ?_)
        replace hP : va_P D gcl (zS_183 cB cC cI cJ a16 a19 a19 f0 a4 f_14 a0 a3 a4 a5 a6 a7 a8 y0 x0 y1 y2 a1 a16 a17 a18 x2 x3 x4 x5 x6 x7 x8 a3 a9 a10 a11 a12 a13 a14 a15 (u_1.2.2.2.1 0) a15 (u_5.2.1 0) a12 (u_5.2.1 1) a13 (u_5.2.1 2) a10 (u_5.2.2.1 0) a9 (u_1.2.2.1 0) a11 (u_5.2.2.1 1) a14 (u_5.2.1 3) a5 (u_5.2.1 4) a2 f1) H := hP
        replace hD : va_D A (zS_183 cB cC cI cJ a16 a19 a19 f0 a4 f_14 a0 a3 a4 a5 a6 a7 a8 y0 x0 y1 y2 a1 a16 a17 a18 x2 x3 x4 x5 x6 x7 x8 a3 a9 a10 a11 a12 a13 a14 a15 (u_1.2.2.2.1 0) a15 (u_5.2.1 0) a12 (u_5.2.1 1) a13 (u_5.2.1 2) a10 (u_5.2.2.1 0) a9 (u_1.2.2.1 0) a11 (u_5.2.2.1 1) a14 (u_5.2.1 3) a5 (u_5.2.1 4) a2 f1) := hD
        refine lv_aload_n (pc := 51) hx hb dX3_putAhead_51 rfl (lv_at hl 1 rfl) ?_
        refine lv_iconst (pc := 52) (v := 1) hx hb dX3_putAhead_52 (by decide) ?_
        as_aux_lemma =>
          refine va_put (pc := 53) (ci := 3) (v := .int 1) (ty := .boolean) (C := RX3) (T := TX3) (N := 10) hx hb hts iX3 tyX3 tyX3_ok nmX3 hown hK hP hD hS 3 rfl rfl 7 (by decide) (hts _ tw_356) (fun _ h9 => h9) rfl (by decide +kernel) (by decide +kernel) (by decide +kernel) (Nat.le_of_ble_eq_true rfl) dX3_putAhead_53 (fun H locs hP hD hS => ?_)
          replace hP : va_P D gcl (zS_183 cB cC cI cJ a16 a19 a19 f0 a4 f_14 a0 a3 a4 a5 a6 a7 a8 y0 1 y1 y2 a1 a16 a17 a18 x2 x3 x4 x5 x6 x7 x8 a3 a9 a10 a11 a12 a13 a14 a15 (u_1.2.2.2.1 0) a15 (u_5.2.1 0) a12 (u_5.2.1 1) a13 (u_5.2.1 2) a10 (u_5.2.2.1 0) a9 (u_1.2.2.1 0) a11 (u_5.2.2.1 1) a14 (u_5.2.1 3) a5 (u_5.2.1 4) a2 f1) H := hP
          replace hD : va_D A (zS_183 cB cC cI cJ a16 a19 a19 f0 a4 f_14 a0 a3 a4 a5 a6 a7 a8 y0 1 y1 y2 a1 a16 a17 a18 x2 x3 x4 x5 x6 x7 x8 a3 a9 a10 a11 a12 a13 a14 a15 (u_1.2.2.2.1 0) a15 (u_5.2.1 0) a12 (u_5.2.1 1) a13 (u_5.2.1 2) a10 (u_5.2.2.1 0) a9 (u_1.2.2.1 0) a11 (u_5.2.2.1 1) a14 (u_5.2.1 3) a5 (u_5.2.1 4) a2 f1) := hD
          refine lv_lload_n (pc := 56) hx hb dX3_putAhead_56 rfl (lv_at hl 0 rfl) ?_
          exact hret r_6 ((fun _ => 0), (fun k => [(u_5.2.1 0), (u_5.2.1 1), (u_5.2.1 2), (u_5.2.1 3), (u_5.2.1 4), f_14].getD k (fun _ => 0)), (fun k => [(u_1.2.2.1 0), (u_5.2.2.1 1), (u_5.2.2.1 0)].getD k (fun _ => 0)), (fun k => [1, (u_1.2.2.2.1 0)].getD k 0), (fun _ => 0)) dX3_putAhead_57 ⟨(show ((((-9223372036854775808) ≤ r_6.toInt ∧ r_6.toInt ≤ 2147483647000) ∧ (1 : Int32).toInt = 1) ∨ (((-1) ≤ r_6.toInt ∧ r_6.toInt ≤ (-1)) ∧ (1 : Int32).toInt = 0)) from (by first | exact (om_1304 rr_6.1 tI_1 hw_8 c_13 ey_12 ey_11 ry_11.2) | (have k8_0 := tI_1; (first | omega | (unfold zBd at *; omega))))), (show (0 ≤ (1 : Int32).toInt ∧ (1 : Int32).toInt ≤ 1) from (n_c tI_1 (by decide))), (show (0 ≤ ((u_1.2.2.2.1 0) : Int32).toInt ∧ ((u_1.2.2.2.1 0) : Int32).toInt ≤ 4) from hw_4), hw_9, hw_10⟩ (g_psub (wc := (zS_166 cB cC cI cJ a0 a3 a4 a5 a6 a7 a8 y0 1 y1 y2 a3 a9 a10 a11 a12 a13 a14 a15 (u_1.2.2.2.1 0) a1 a16 a17 a18 x2 x3 x4 x5 x6 x7 x8 a16 a19 a19 f0 a9 (u_1.2.2.1 0) a11 (u_5.2.2.1 1) a10 (u_5.2.2.1 0) a2 f1 a15 (u_5.2.1 0) a12 (u_5.2.1 1) a13 (u_5.2.1 2) a14 (u_5.2.1 3) a5 (u_5.2.1 4) a4 f_14)) hP [3, 5, 4, 0, 1, 10, 11, 9, 14, 6, 7, 8, 12, 13, 2] rfl) (hD.sub (ws' := (zS_166 cB cC cI cJ a0 a3 a4 a5 a6 a7 a8 y0 1 y1 y2 a3 a9 a10 a11 a12 a13 a14 a15 (u_1.2.2.2.1 0) a1 a16 a17 a18 x2 x3 x4 x5 x6 x7 x8 a16 a19 a19 f0 a9 (u_1.2.2.1 0) a11 (u_5.2.2.1 1) a10 (u_5.2.2.1 0) a2 f1 a15 (u_5.2.1 0) a12 (u_5.2.1 1) a13 (u_5.2.1 2) a14 (u_5.2.1 3) a5 (u_5.2.1 4) a4 f_14)) [3, 5, 4, 0, 1, 10, 11, 9, 14, 6, 7, 8, 12, 13, 2] (by decide) rfl) hS
    ·
      as_aux_lemma =>
        refine lv_aload_n (pc := 32) hx hb dX3_putAhead_32 rfl (lv_at hl 1 rfl) ?_
        refine gd_l (pc := 33) (wc := (zS_77 cB cC cI cJ a0 a3 a4 a5 a6 a7 a8 y0 x0 y1 y2)) hP hD hS hA [3] rfl (by decide +kernel) (fun _ => by rfl) (fun hPc hDc => va_runV (As := []) (rest := []) ⟨hx, hb, hml, hown, hts⟩ (k_X3_refuse l D cB cC cI cJ _ a0 a3 a4 a5 a6 a7 a8 x0 y0 y1 y2 h_x0) ⟨gcwB hts tw_1311 tw_12 tw_1308 hd_yX3_refuse ⟨Nat.le_of_ble_eq_true rfl, Nat.le_of_ble_eq_true rfl⟩, hts _ tw_1309, hts _ tw_1310⟩ ⟨gblind, va_recv hK hPc (ci := 3) (q0 := 0) rfl rfl, (gpreS hPc hK hDc hN).2⟩ rfl rfl hl.1 rfl (lv_room (Nat.le_of_ble_eq_true rfl)) dX3_putAhead_33 ⟨Nat.le_of_ble_eq_true rfl, Nat.le_of_ble_eq_true rfl⟩) (fun r_16 u_15 H locs hw_17 hP hD hS => ?_)
        replace hP : va_P D gcl (zS_183 cB cC cI cJ a16 a19 a19 f0 a4 f7 a0 a3 a4 a5 a6 a7 a8 y0 0 y1 y2 a1 a16 a17 a18 x2 x3 x4 x5 x6 x7 x8 a3 a9 a10 a11 a12 a13 a14 a15 (u_1.2.2.2.1 0) a15 (u_5.2.1 0) a12 (u_5.2.1 1) a13 (u_5.2.1 2) a10 (u_5.2.2.1 0) a9 (u_1.2.2.1 0) a11 (u_5.2.2.1 1) a14 (u_5.2.1 3) a5 (u_5.2.1 4) a2 f1) H := hP
        replace hD : va_D A (zS_183 cB cC cI cJ a16 a19 a19 f0 a4 f7 a0 a3 a4 a5 a6 a7 a8 y0 0 y1 y2 a1 a16 a17 a18 x2 x3 x4 x5 x6 x7 x8 a3 a9 a10 a11 a12 a13 a14 a15 (u_1.2.2.2.1 0) a15 (u_5.2.1 0) a12 (u_5.2.1 1) a13 (u_5.2.1 2) a10 (u_5.2.2.1 0) a9 (u_1.2.2.1 0) a11 (u_5.2.2.1 1) a14 (u_5.2.1 3) a5 (u_5.2.1 4) a2 f1) := hD
        have hw_18 : ((r_16.toInt = (-1))) := hw_17
        have rr_16 := n_rngL r_16
        exact hret r_16 ((fun _ => 0), (fun k => [(u_5.2.1 0), (u_5.2.1 1), (u_5.2.1 2), (u_5.2.1 3), (u_5.2.1 4), f7].getD k (fun _ => 0)), (fun k => [(u_1.2.2.1 0), (u_5.2.2.1 1), (u_5.2.2.1 0)].getD k (fun _ => 0)), (fun k => [0, (u_1.2.2.2.1 0)].getD k 0), (fun _ => 0)) dX3_putAhead_36 ⟨(show ((((-9223372036854775808) ≤ r_16.toInt ∧ r_16.toInt ≤ 2147483647000) ∧ (0 : Int32).toInt = 1) ∨ (((-1) ≤ r_16.toInt ∧ r_16.toInt ≤ (-1)) ∧ (0 : Int32).toInt = 0)) from (by first | exact (om_1305 hw_18 tI_0) | (have k8_0 := tI_0; (first | omega | (unfold zBd at *; omega))))), (show (0 ≤ (0 : Int32).toInt ∧ (0 : Int32).toInt ≤ 1) from (n_c tI_0 (by decide))), (show (0 ≤ ((u_1.2.2.2.1 0) : Int32).toInt ∧ ((u_1.2.2.2.1 0) : Int32).toInt ≤ 4) from hw_4), hw_9, hw_10⟩ (g_psub (wc := (zS_166 cB cC cI cJ a0 a3 a4 a5 a6 a7 a8 y0 0 y1 y2 a3 a9 a10 a11 a12 a13 a14 a15 (u_1.2.2.2.1 0) a1 a16 a17 a18 x2 x3 x4 x5 x6 x7 x8 a16 a19 a19 f0 a9 (u_1.2.2.1 0) a11 (u_5.2.2.1 1) a10 (u_5.2.2.1 0) a2 f1 a15 (u_5.2.1 0) a12 (u_5.2.1 1) a13 (u_5.2.1 2) a14 (u_5.2.1 3) a5 (u_5.2.1 4) a4 f7)) hP [3, 5, 4, 0, 1, 10, 11, 9, 14, 6, 7, 8, 12, 13, 2] rfl) (hD.sub (ws' := (zS_166 cB cC cI cJ a0 a3 a4 a5 a6 a7 a8 y0 0 y1 y2 a3 a9 a10 a11 a12 a13 a14 a15 (u_1.2.2.2.1 0) a1 a16 a17 a18 x2 x3 x4 x5 x6 x7 x8 a16 a19 a19 f0 a9 (u_1.2.2.1 0) a11 (u_5.2.2.1 1) a10 (u_5.2.2.1 0) a2 f1 a15 (u_5.2.1 0) a12 (u_5.2.1 1) a13 (u_5.2.1 2) a14 (u_5.2.1 3) a5 (u_5.2.1 4) a4 f7)) [3, 5, 4, 0, 1, 10, 11, 9, 14, 6, 7, 8, 12, 13, 2] (by decide) rfl) hS
theorem om_1436 {a b c : Int} (h0 : (a = (-1))) (h1 : (b = 0)) : (((((-1) ≤ a ∧ a ≤ (-1)) ∧ b = 0 ∧ c = c) ∨ (((-9223372036854775808) ≤ a ∧ a ≤ 2147483647000)))) := by omega
theorem om_1437 {a b c d : Int} (h0 : ((-9223372036854775808) ≤ a)) (h1 : ((((-9223372036854775808) ≤ a ∧ a ≤ 2147483647000) ∧ b = 1) ∨ (((-1) ≤ a ∧ a ≤ (-1)) ∧ b = 0))) (h2 : (0 ≤ b)) : (((((-1) ≤ a ∧ a ≤ (-1)) ∧ b = 0 ∧ c = d) ∨ (((-9223372036854775808) ≤ a ∧ a ≤ 2147483647000)))) := by omega
set_option maxHeartbeats 4000000 in
set_option maxRecDepth 100000 in
theorem k_X11_ahead (l : Launch) (D : va_G) (cB cC cI cJ : ClassId) (sz : Nat) (a0 a1 a2 a3 a4 a5 a6 a7 a8 a9 a10 a11 a12 a13 a14 a15 a16 a17 a18 a19 a20 a21 a22 a23 a24 a25 a26 a27 a28 a29 a30 a31 : Nat) (x0 x1 x2 x3 x4 x5 x6 x7 x8 x9 x10 : Int32) (y0 y1 y2 : Int64) (f0 f1 f2 f3 f4 f5 f6 f7 f8 : Nat → Int32) (g0 g1 g2 : Nat → Int64) (h_x0 : zBd x0.toInt 0 14) (h_x1 : zBd x1.toInt 0 1600) (h_x2 : zBd x2.toInt (-1) 8) (h_x3 : zBd x3.toInt (-1) 5) (h_x4 : zBd x4.toInt (-1) 6) (h_x5 : zBd x5.toInt 0 6) (h_x6 : zBd x6.toInt 0 16) (h_x9 : zBd x9.toInt 0 1) (h_x10 : zBd x10.toInt 0 4) (hf_f3 : (∀ j, 0 ≤ (f3 j).toInt ∧ (f3 j).toInt ≤ 23)) (hf_f6 : (∀ j, (-3) ≤ (f6 j).toInt ∧ (f6 j).toInt ≤ 24)) : Met l yX11_ahead (.code yX11_ahead cX11_ahead 1 (some .long) :: lw_gd) ({ frames := 4, cells := 0, slots := 0, locals := 108 }) (gPre D [(cB, .byte), (cC, .char), (cI, .int), (cJ, .long)] [.ref a0] (zS_148 cB cC cI cJ a0 a1 a2 a3 a4 a5 a6 a7 a8 a9 a10 x0 a11 a12 a13 a2 a14 x1 a14 f0 a11 a15 a16 a17 x2 x3 x4 x5 x6 x7 x8 a8 f1 a6 a18 a19 a20 a21 a22 a23 y0 x9 y1 y2 a18 a24 a25 a26 a27 a28 a29 a30 x10 a15 a31 a31 f2 a24 g0 a26 g1 a25 g2 a30 f3 a27 f4 a28 f5 a29 f6 a20 f7 a19 f8) sz) (va_Ql (fun r u => ((((-1) ≤ r.toInt ∧ r.toInt ≤ (-1)) ∧ (u.2.2.2.1 0).toInt = 0 ∧ (u.2.2.2.1 1).toInt = x10.toInt) ∨ (((-9223372036854775808) ≤ r.toInt ∧ r.toInt ≤ 2147483647000))) ∧ (0 ≤ (u.2.2.2.1 0).toInt ∧ (u.2.2.2.1 0).toInt ≤ 1) ∧ (0 ≤ (u.2.2.2.1 1).toInt ∧ (u.2.2.2.1 1).toInt ≤ 4) ∧ (∀ j, 0 ≤ ((u.2.1 1) j).toInt ∧ ((u.2.1 1) j).toInt ≤ 23) ∧ (∀ j, (-3) ≤ ((u.2.1 4) j).toInt ∧ ((u.2.1 4) j).toInt ≤ 24)) (gB D (va_A (zS_148 cB cC cI cJ a0 a1 a2 a3 a4 a5 a6 a7 a8 a9 a10 x0 a11 a12 a13 a2 a14 x1 a14 f0 a11 a15 a16 a17 x2 x3 x4 x5 x6 x7 x8 a8 f1 a6 a18 a19 a20 a21 a22 a23 y0 x9 y1 y2 a18 a24 a25 a26 a27 a28 a29 a30 x10 a15 a31 a31 f2 a24 g0 a26 g1 a25 g2 a30 f3 a27 f4 a28 f5 a29 f6 a20 f7 a19 f8) sz) (fun u : gEx => (zS_148 cB cC cI cJ a0 a1 a2 a3 a4 a5 a6 a7 a8 a9 a10 x0 a11 a12 a13 a2 a14 0 a14 f0 a11 a15 a16 a17 x2 x3 x4 x5 x6 x7 x8 a8 (u.2.1 0) a6 a18 a19 a20 a21 a22 a23 y0 (u.2.2.2.1 0) y1 y2 a18 a24 a25 a26 a27 a28 a29 a30 (u.2.2.2.1 1) a15 a31 a31 f2 a24 (u.2.2.1 0) a26 (u.2.2.1 1) a25 (u.2.2.1 2) a30 (u.2.1 1) a27 (u.2.1 2) a28 (u.2.1 3) a29 (u.2.1 4) a20 (u.2.1 5) a19 (u.2.1 6)))) (va_A (zS_148 cB cC cI cJ a0 a1 a2 a3 a4 a5 a6 a7 a8 a9 a10 x0 a11 a12 a13 a2 a14 x1 a14 f0 a11 a15 a16 a17 x2 x3 x4 x5 x6 x7 x8 a8 f1 a6 a18 a19 a20 a21 a22 a23 y0 x9 y1 y2 a18 a24 a25 a26 a27 a28 a29 a30 x10 a15 a31 a31 f2 a24 g0 a26 g1 a25 g2 a30 f3 a27 f4 a28 f5 a29 f6 a20 f7 a19 f8) sz)) 0 0 (va_A (zS_148 cB cC cI cJ a0 a1 a2 a3 a4 a5 a6 a7 a8 a9 a10 x0 a11 a12 a13 a2 a14 x1 a14 f0 a11 a15 a16 a17 x2 x3 x4 x5 x6 x7 x8 a8 f1 a6 a18 a19 a20 a21 a22 a23 y0 x9 y1 y2 a18 a24 a25 a26 a27 a28 a29 a30 x10 a15 a31 a31 f2 a24 g0 a26 g1 a25 g2 a30 f3 a27 f4 a28 f5 a29 f6 a20 f7 a19 f8) sz) := by
  refine gOf_l (by decide +kernel) (Nat.le_of_ble_eq_true rfl) ?_
  intro p e s m args below meth c ls A Q hx hb hts hown hml hN hK hP hD hA hl hret
  replace hown : s.vm.findClass RX11 = some m.cls := hown
  have hS : va_S A s.heap s.heap [] := va_S.rf
  replace hP : va_P D gcl (zS_148 cB cC cI cJ a0 a1 a2 a3 a4 a5 a6 a7 a8 a9 a10 x0 a11 a12 a13 a2 a14 x1 a14 f0 a11 a15 a16 a17 x2 x3 x4 x5 x6 x7 x8 a8 f1 a6 a18 a19 a20 a21 a22 a23 y0 x9 y1 y2 a18 a24 a25 a26 a27 a28 a29 a30 x10 a15 a31 a31 f2 a24 g0 a26 g1 a25 g2 a30 f3 a27 f4 a28 f5 a29 f6 a20 f7 a19 f8) s.heap := hP
  replace hl : lv_has ls 1 [(0, .ref a0)] := hl
  have rx7 : zBd x7.toInt (-2147483648) 2147483647 := n_rng x7
  have rx8 : zBd x8.toInt (-2147483648) 2147483647 := n_rng x8
  have ry0 := n_rngL y0
  have ry1 := n_rngL y1
  have ry2 := n_rngL y2
  refine lv_aload_n (pc := 0) hx hb dX11_ahead_0 rfl (lv_at hl 0 rfl) ?_
  refine gd_i (pc := 1) (wc := (zS_54 cB cC cI cJ a0 a1 a2 a3 a4 a5 a6 a7 a8 a9 a10 x0 a11 a12 a13 a2 a14 x1 a14 f0 a11 a15 a16 a17 x2 x3 x4 x5 x6 x7 x8 a8 f1)) hP hD hS hA [0, 1, 2, 3, 4] rfl (by decide +kernel) (fun _ => by rfl) (fun hPc hDc => va_runV (As := []) (rest := []) ⟨hx, hb, hml, hown, hts⟩ (k_X11_takeRow l D cB cC cI cJ _ a0 a1 a2 a3 a4 a5 a6 a7 a8 a9 a10 a11 a12 a13 a14 a15 a16 a17 x0 x1 x2 x3 x4 x5 x6 x7 x8 f0 f1 h_x0 h_x1 h_x2 h_x3 h_x4 h_x5 h_x6) ⟨gcwB hts tw_825 tw_1 tw_822 hd_yX11_takeRow ⟨Nat.le_of_ble_eq_true rfl, Nat.le_of_ble_eq_true rfl⟩, hts _ tw_824, hts _ tp_30⟩ ⟨gblind, va_recv hK hPc (ci := 11) (q0 := 0) rfl rfl, (gpreS hPc hK hDc hN).2⟩ rfl rfl hl.1 rfl (lv_room (Nat.le_of_ble_eq_true rfl)) dX11_ahead_1 ⟨Nat.le_of_ble_eq_true rfl, Nat.le_of_ble_eq_true rfl⟩) (fun r_2 u_1 H locs hw_3 hP hD hS => ?_)
  replace hP : va_P D gcl (zS_148 cB cC cI cJ a0 a1 a2 a3 a4 a5 a6 a7 a8 a9 a10 x0 a11 a12 a13 a2 a14 0 a14 f0 a11 a15 a16 a17 x2 x3 x4 x5 x6 x7 x8 a8 (u_1.2.1 0) a6 a18 a19 a20 a21 a22 a23 y0 x9 y1 y2 a18 a24 a25 a26 a27 a28 a29 a30 x10 a15 a31 a31 f2 a24 g0 a26 g1 a25 g2 a30 f3 a27 f4 a28 f5 a29 f6 a20 f7 a19 f8) H := hP
  replace hD : va_D A (zS_148 cB cC cI cJ a0 a1 a2 a3 a4 a5 a6 a7 a8 a9 a10 x0 a11 a12 a13 a2 a14 0 a14 f0 a11 a15 a16 a17 x2 x3 x4 x5 x6 x7 x8 a8 (u_1.2.1 0) a6 a18 a19 a20 a21 a22 a23 y0 x9 y1 y2 a18 a24 a25 a26 a27 a28 a29 a30 x10 a15 a31 a31 f2 a24 g0 a26 g1 a25 g2 a30 f3 a27 f4 a28 f5 a29 f6 a20 f7 a19 f8) := hD
  obtain ⟨hw_4, hw_5, hw_6⟩ := hw_3
  replace hw_4 : (0 ≤ r_2.toInt ∧ r_2.toInt ≤ 1) := hw_4
  replace hw_5 : (swQ r_2.toInt x1.toInt (taub f0 x1.toInt) x2.toInt x3.toInt) := hw_5
  replace hw_6 : ((0 : Int32).toInt = 0) := hw_6
  have rr_2 : zBd r_2.toInt (-2147483648) 2147483647 := n_rng r_2
  refine b_if_eq (pc := 4) (tgt := 25) hx hb rfl  dX11_ahead_4 (by decide) (fun c_7 => ?_) (fun c_7 => ?_)
  ·
    as_aux_lemma =>
      refine lv_aload_n (pc := 25) hx hb dX11_ahead_25 rfl (lv_at hl 0 rfl) ?_
      refine va_get (pc := 26) (ci := 11) (v := .ref a6) (C := RX11) (T := TX11) (N := 14) hx hb hts iX11 hown hK hP 0 rfl rfl 5 (by decide) (hts _ tw_425) (fun _ h9 => h9) rfl dX11_ahead_26 ?_
      refine gd_l (pc := 29) (wc := (zS_77 cB cC cI cJ a6 a18 a19 a20 a21 a22 a23 y0 x9 y1 y2)) hP hD hS hA [5] rfl (by decide +kernel) (fun _ => by rfl) (fun hPc hDc => va_runV (As := []) (rest := []) ⟨hx, hb, hml, hown, hts⟩ (k_X3_refuse l D cB cC cI cJ _ a6 a18 a19 a20 a21 a22 a23 x9 y0 y1 y2 h_x9) ⟨gcwB hts tw_1311 tw_12 tw_1313 hd_yX3_refuse ⟨Nat.le_of_ble_eq_true rfl, Nat.le_of_ble_eq_true rfl⟩, hts _ tw_1309, hts _ tw_1310⟩ ⟨gblind, va_recv hK hPc (ci := 3) (q0 := 0) rfl rfl, (gpreS hPc hK hDc hN).2⟩ rfl rfl hl.1 rfl (lv_room (Nat.le_of_ble_eq_true rfl)) dX11_ahead_29 ⟨Nat.le_of_ble_eq_true rfl, Nat.le_of_ble_eq_true rfl⟩) (fun r_9 u_8 H locs hw_10 hP hD hS => ?_)
      replace hP : va_P D gcl (zS_148 cB cC cI cJ a0 a1 a2 a3 a4 a5 a6 a7 a8 a9 a10 x0 a11 a12 a13 a2 a14 0 a14 f0 a11 a15 a16 a17 x2 x3 x4 x5 x6 x7 x8 a8 (u_1.2.1 0) a6 a18 a19 a20 a21 a22 a23 y0 0 y1 y2 a18 a24 a25 a26 a27 a28 a29 a30 x10 a15 a31 a31 f2 a24 g0 a26 g1 a25 g2 a30 f3 a27 f4 a28 f5 a29 f6 a20 f7 a19 f8) H := hP
      replace hD : va_D A (zS_148 cB cC cI cJ a0 a1 a2 a3 a4 a5 a6 a7 a8 a9 a10 x0 a11 a12 a13 a2 a14 0 a14 f0 a11 a15 a16 a17 x2 x3 x4 x5 x6 x7 x8 a8 (u_1.2.1 0) a6 a18 a19 a20 a21 a22 a23 y0 0 y1 y2 a18 a24 a25 a26 a27 a28 a29 a30 x10 a15 a31 a31 f2 a24 g0 a26 g1 a25 g2 a30 f3 a27 f4 a28 f5 a29 f6 a20 f7 a19 f8) := hD
      have hw_11 : ((r_9.toInt = (-1))) := hw_10
      have rr_9 := n_rngL r_9
      exact hret r_9 ((fun _ => 0), (fun k => [(u_1.2.1 0), f3, f4, f5, f6, f7, f8].getD k (fun _ => 0)), (fun k => [g0, g1, g2].getD k (fun _ => 0)), (fun k => [0, x10].getD k 0), (fun _ => 0)) dX11_ahead_32 ⟨(show ((((-1) ≤ r_9.toInt ∧ r_9.toInt ≤ (-1)) ∧ (0 : Int32).toInt = 0 ∧ (x10 : Int32).toInt = x10.toInt) ∨ (((-9223372036854775808) ≤ r_9.toInt ∧ r_9.toInt ≤ 2147483647000))) from (by first | exact (om_1436 hw_11 hw_6) | (have k8_0 := tI_0; (first | omega | (unfold zBd at *; omega))))), (show (0 ≤ (0 : Int32).toInt ∧ (0 : Int32).toInt ≤ 1) from (n_c tI_0 (by decide))), (show (0 ≤ (x10 : Int32).toInt ∧ (x10 : Int32).toInt ≤ 4) from h_x10), hf_f3, hf_f6⟩ (g_psub (wc := (zS_148 cB cC cI cJ a0 a1 a2 a3 a4 a5 a6 a7 a8 a9 a10 x0 a11 a12 a13 a2 a14 0 a14 f0 a11 a15 a16 a17 x2 x3 x4 x5 x6 x7 x8 a8 (u_1.2.1 0) a6 a18 a19 a20 a21 a22 a23 y0 0 y1 y2 a18 a24 a25 a26 a27 a28 a29 a30 x10 a15 a31 a31 f2 a24 g0 a26 g1 a25 g2 a30 f3 a27 f4 a28 f5 a29 f6 a20 f7 a19 f8)) hP [0, 1, 2, 3, 4, 5, 6, 7, 8, 9, 10, 11, 12, 13, 14, 15, 16, 17] rfl) (hD.sub (ws' := (zS_148 cB cC cI cJ a0 a1 a2 a3 a4 a5 a6 a7 a8 a9 a10 x0 a11 a12 a13 a2 a14 0 a14 f0 a11 a15 a16 a17 x2 x3 x4 x5 x6 x7 x8 a8 (u_1.2.1 0) a6 a18 a19 a20 a21 a22 a23 y0 0 y1 y2 a18 a24 a25 a26 a27 a28 a29 a30 x10 a15 a31 a31 f2 a24 g0 a26 g1 a25 g2 a30 f3 a27 f4 a28 f5 a29 f6 a20 f7 a19 f8)) [0, 1, 2, 3, 4, 5, 6, 7, 8, 9, 10, 11, 12, 13, 14, 15, 16, 17] (by decide) rfl) hS
  ·
    as_aux_lemma =>
      refine lv_aload_n (pc := 7) hx hb dX11_ahead_7 rfl (lv_at hl 0 rfl) ?_
      refine va_get (pc := 8) (ci := 11) (v := .ref a6) (C := RX11) (T := TX11) (N := 14) hx hb hts iX11 hown hK hP 0 rfl rfl 5 (by decide) (hts _ tw_425) (fun _ h9 => h9) rfl dX11_ahead_8 ?_
      refine lv_aload_n (pc := 11) hx hb dX11_ahead_11 rfl (lv_at hl 0 rfl) ?_
      refine va_get (pc := 12) (ci := 11) (v := .ref a11) (C := RX11) (T := TX11) (N := 14) hx hb hts iX11 hown hK hP 0 rfl rfl 11 (by decide) (hts _ tw_431) (fun _ h9 => h9) rfl dX11_ahead_12 ?_
      refine lv_aload_n (pc := 15) hx hb dX11_ahead_15 rfl (lv_at hl 0 rfl) ?_
      refine va_get (pc := 16) (ci := 11) (v := .ref a8) (C := RX11) (T := TX11) (N := 14) hx hb hts iX11 hown hK hP 0 rfl rfl 7 (by decide) (hts _ tw_427) (fun _ h9 => h9) rfl dX11_ahead_16 ?_
      refine gc_l (pc := 19) (wc := (zS_166 cB cC cI cJ a6 a18 a19 a20 a21 a22 a23 y0 x9 y1 y2 a18 a24 a25 a26 a27 a28 a29 a30 x10 a11 a15 a16 a17 x2 x3 x4 x5 x6 x7 x8 a15 a31 a31 f2 a24 g0 a26 g1 a25 g2 a8 (u_1.2.1 0) a30 f3 a27 f4 a28 f5 a29 f6 a20 f7 a19 f8)) (wr := (zS_80 cB cC cI cJ a0 a1 a2 a3 a4 a5 a6 a7 a8 a9 a10 x0 a11 a12 a13 a2 a14 0 a14 f0)) hP hD hS hA [5, 6, 3, 7, 8, 9, 10, 11, 4, 12, 13, 14, 15, 16, 17] [0, 1, 2] rfl rfl (by decide +kernel) (by decide +kernel) (by decide +kernel) (fun hPc hDc => va_runV (As := [.ref a11, .ref a8]) (rest := []) ⟨hx, hb, hml, hown, hts⟩ (k_X3_putAhead_5 l D cB cC cI cJ _ a6 a11 a8 a18 a19 a20 a21 a22 a23 a24 a25 a26 a27 a28 a29 a30 a15 a16 a17 a31 x9 x10 x2 x3 x4 x5 x6 x7 x8 y0 y1 y2 f2 (u_1.2.1 0) f3 f4 f5 f6 f7 f8 g0 g1 g2 h_x9 h_x10 h_x2 h_x3 h_x4 h_x5 h_x6 hf_f3 hf_f6) ⟨gcwB hts tw_1306 tw_12 tw_1303 hd_yX3_putAhead ⟨Nat.le_of_ble_eq_true rfl, Nat.le_of_ble_eq_true rfl⟩, hts _ tw_1304, hts _ tw_1305⟩ ⟨gblind, va_recv hK hPc (ci := 3) (q0 := 0) rfl rfl, (gpreS hPc hK hDc hN).2⟩ rfl rfl hl.1 rfl (lv_room (Nat.le_of_ble_eq_true rfl)) dX11_ahead_19 ⟨Nat.le_of_ble_eq_true rfl, Nat.le_of_ble_eq_true rfl⟩) (fun r_13 u_12 H locs hw_14 hP hD hS => ?_)
      replace hP : va_P D gcl [(a0, .inr (11, [.ref a1, .ref a2, .ref a3, .ref a4, .ref a5, .ref a6, .ref a7, .ref a8, .ref a9, .ref a10, .int x0, .ref a11, .ref a12, .ref a13])), (a2, .inr (9, [.ref a14, .int 0])), (a14, .inl (cB, 1600, .inl f0)), (a6, .inr (3, [.ref a18, .ref a19, .ref a20, .ref a21, .ref a22, .ref a23, .long y0, .int (u_12.2.2.2.1 0), .long y1, .long y2])), (a18, .inr (10, [.ref a24, .ref a25, .ref a26, .ref a27, .ref a28, .ref a29, .ref a30, .int (u_12.2.2.2.1 1)])), (a11, .inr (1, [.ref a15, .ref a16, .ref a17, .int x2, .int x3, .int x4, .int x5, .int x6, .int x7, .int x8])), (a15, .inr (8, [.ref a31])), (a31, .inl (cI, 30, .inl f2)), (a24, .inl (cJ, 25, .inr (.inl (u_12.2.2.1 0)))), (a26, .inl (cJ, 25, .inr (.inl (u_12.2.2.1 1)))), (a25, .inl (cJ, 5, .inr (.inl (u_12.2.2.1 2)))), (a8, .inl (cI, 5, .inl (u_1.2.1 0))), (a30, .inl (cI, 5, .inl (u_12.2.1 0))), (a27, .inl (cI, 5, .inl (u_12.2.1 1))), (a28, .inl (cI, 5, .inl (u_12.2.1 2))), (a29, .inl (cI, 5, .inl (u_12.2.1 3))), (a20, .inl (cI, 5, .inl (u_12.2.1 4))), (a19, .inl (cI, 5, .inl (u_12.2.1 5)))] H := hP
      replace hD : va_D A [(a0, .inr (11, [.ref a1, .ref a2, .ref a3, .ref a4, .ref a5, .ref a6, .ref a7, .ref a8, .ref a9, .ref a10, .int x0, .ref a11, .ref a12, .ref a13])), (a2, .inr (9, [.ref a14, .int 0])), (a14, .inl (cB, 1600, .inl f0)), (a6, .inr (3, [.ref a18, .ref a19, .ref a20, .ref a21, .ref a22, .ref a23, .long y0, .int (u_12.2.2.2.1 0), .long y1, .long y2])), (a18, .inr (10, [.ref a24, .ref a25, .ref a26, .ref a27, .ref a28, .ref a29, .ref a30, .int (u_12.2.2.2.1 1)])), (a11, .inr (1, [.ref a15, .ref a16, .ref a17, .int x2, .int x3, .int x4, .int x5, .int x6, .int x7, .int x8])), (a15, .inr (8, [.ref a31])), (a31, .inl (cI, 30, .inl f2)), (a24, .inl (cJ, 25, .inr (.inl (u_12.2.2.1 0)))), (a26, .inl (cJ, 25, .inr (.inl (u_12.2.2.1 1)))), (a25, .inl (cJ, 5, .inr (.inl (u_12.2.2.1 2)))), (a8, .inl (cI, 5, .inl (u_1.2.1 0))), (a30, .inl (cI, 5, .inl (u_12.2.1 0))), (a27, .inl (cI, 5, .inl (u_12.2.1 1))), (a28, .inl (cI, 5, .inl (u_12.2.1 2))), (a29, .inl (cI, 5, .inl (u_12.2.1 3))), (a20, .inl (cI, 5, .inl (u_12.2.1 4))), (a19, .inl (cI, 5, .inl (u_12.2.1 5)))] := hD
      obtain ⟨hw_15, hw_16, hw_17, hw_18, hw_19⟩ := hw_14
      replace hw_15 : ((((-9223372036854775808) ≤ r_13.toInt ∧ r_13.toInt ≤ 2147483647000) ∧ (u_12.2.2.2.1 0).toInt = 1) ∨ (((-1) ≤ r_13.toInt ∧ r_13.toInt ≤ (-1)) ∧ (u_12.2.2.2.1 0).toInt = 0)) := hw_15
      replace hw_16 : zBd (u_12.2.2.2.1 0).toInt 0 1 := hw_16
      replace hw_17 : zBd (u_12.2.2.2.1 1).toInt 0 4 := hw_17
      replace hw_18 : (∀ j, 0 ≤ ((u_12.2.1 0) j).toInt ∧ ((u_12.2.1 0) j).toInt ≤ 23) := hw_18
      replace hw_19 : (∀ j, (-3) ≤ ((u_12.2.1 3) j).toInt ∧ ((u_12.2.1 3) j).toInt ≤ 24) := hw_19
      have rr_13 := n_rngL r_13
      refine lv_goto (pc := 22) (tgt := 32) hx hb dX11_ahead_22 (by decide) ?_
      exact hret r_13 ((fun _ => 0), (fun k => [(u_1.2.1 0), (u_12.2.1 0), (u_12.2.1 1), (u_12.2.1 2), (u_12.2.1 3), (u_12.2.1 4), (u_12.2.1 5)].getD k (fun _ => 0)), (fun k => [(u_12.2.2.1 0), (u_12.2.2.1 1), (u_12.2.2.1 2)].getD k (fun _ => 0)), (fun k => [(u_12.2.2.2.1 0), (u_12.2.2.2.1 1)].getD k 0), (fun _ => 0)) dX11_ahead_32 ⟨(show ((((-1) ≤ r_13.toInt ∧ r_13.toInt ≤ (-1)) ∧ ((u_12.2.2.2.1 0) : Int32).toInt = 0 ∧ ((u_12.2.2.2.1 1) : Int32).toInt = x10.toInt) ∨ (((-9223372036854775808) ≤ r_13.toInt ∧ r_13.toInt ≤ 2147483647000))) from (by first | exact (om_1437 rr_13.1 hw_15 hw_16.1) | ((first | omega | (unfold zBd at *; omega))))), (show (0 ≤ ((u_12.2.2.2.1 0) : Int32).toInt ∧ ((u_12.2.2.2.1 0) : Int32).toInt ≤ 1) from hw_16), (show (0 ≤ ((u_12.2.2.2.1 1) : Int32).toInt ∧ ((u_12.2.2.2.1 1) : Int32).toInt ≤ 4) from hw_17), hw_18, hw_19⟩ (g_psub (wc := (zS_148 cB cC cI cJ a0 a1 a2 a3 a4 a5 a6 a7 a8 a9 a10 x0 a11 a12 a13 a2 a14 0 a14 f0 a11 a15 a16 a17 x2 x3 x4 x5 x6 x7 x8 a8 (u_1.2.1 0) a6 a18 a19 a20 a21 a22 a23 y0 (u_12.2.2.2.1 0) y1 y2 a18 a24 a25 a26 a27 a28 a29 a30 (u_12.2.2.2.1 1) a15 a31 a31 f2 a24 (u_12.2.2.1 0) a26 (u_12.2.2.1 1) a25 (u_12.2.2.1 2) a30 (u_12.2.1 0) a27 (u_12.2.1 1) a28 (u_12.2.1 2) a29 (u_12.2.1 3) a20 (u_12.2.1 4) a19 (u_12.2.1 5))) hP [0, 1, 2, 5, 11, 3, 4, 6, 7, 8, 9, 10, 12, 13, 14, 15, 16, 17] rfl) (hD.sub (ws' := (zS_148 cB cC cI cJ a0 a1 a2 a3 a4 a5 a6 a7 a8 a9 a10 x0 a11 a12 a13 a2 a14 0 a14 f0 a11 a15 a16 a17 x2 x3 x4 x5 x6 x7 x8 a8 (u_1.2.1 0) a6 a18 a19 a20 a21 a22 a23 y0 (u_12.2.2.2.1 0) y1 y2 a18 a24 a25 a26 a27 a28 a29 a30 (u_12.2.2.2.1 1) a15 a31 a31 f2 a24 (u_12.2.2.1 0) a26 (u_12.2.2.1 1) a25 (u_12.2.2.1 2) a30 (u_12.2.1 0) a27 (u_12.2.1 1) a28 (u_12.2.1 2) a29 (u_12.2.1 3) a20 (u_12.2.1 4) a19 (u_12.2.1 5))) [0, 1, 2, 5, 11, 3, 4, 6, 7, 8, 9, 10, 12, 13, 14, 15, 16, 17] (by decide) rfl) hS
theorem om_1438 {a b : Int} (h0 : (a = (-1000000000))) : (((a = (-1000000000)) ∨ (a = (-1000000000) ∧ b = 0) ∨ (((-2147483648) ≤ a ∧ a ≤ 2147483647) ∧ ¬ b = 0))) := by omega
theorem om_1439 {a b : Int} (h0 : ((-2147483648) ≤ a)) (h1 : (¬ b = 0)) (h2 : (0 ≤ b)) (h3 : (a ≤ 2147483647)) : (((a = (-1000000000)) ∨ (a = (-1000000000) ∧ b = 0) ∨ (((-2147483648) ≤ a ∧ a ≤ 2147483647) ∧ ¬ b = 0))) := by omega
set_option maxHeartbeats 4000000 in
set_option maxRecDepth 100000 in
theorem k_X11_put (l : Launch) (D : va_G) (cB cC cI cJ : ClassId) (sz : Nat) (a0 a1 a2 a3 a4 a5 a6 a7 a8 a9 a10 a11 a12 a13 a14 a15 a16 a17 a18 a19 a20 a21 a22 : Nat) (x0 x1 x2 x3 x4 x5 x6 x7 x8 x9 : Int32) (y0 y1 y2 : Int64) (f0 : Nat → Int32) (h_x1 : zBd x1.toInt 0 14) (h_x2 : zBd x2.toInt (-1) 8) (h_x3 : zBd x3.toInt (-1) 5) (h_x4 : zBd x4.toInt (-1) 6) (h_x5 : zBd x5.toInt 0 6) (h_x6 : zBd x6.toInt 0 16) (h_x9 : zBd x9.toInt 0 1) : Met l yX11_put (.code yX11_put cX11_put 2 (some .int) :: lw_gd) ({ frames := 1, cells := 0, slots := 0, locals := 21 }) (gPre D [(cB, .byte), (cC, .char), (cI, .int), (cJ, .long)] [.ref a0, .int x0] (zS_142 cB cC cI cJ a0 a1 a2 a3 a4 a5 a6 a7 a8 a9 a10 x1 a11 a12 a13 a11 a14 a15 a16 x2 x3 x4 x5 x6 x7 x8 a6 a17 a18 a19 a20 a21 a22 y0 x9 y1 y2 a18 f0) sz) (va_Qi (fun r u => ((r.toInt = (-1000000000)) ∨ (r.toInt = (-1000000000) ∧ x9.toInt = 0) ∨ (((-2147483648) ≤ r.toInt ∧ r.toInt ≤ 2147483647) ∧ ¬ x9.toInt = 0))) (gB D (va_A (zS_142 cB cC cI cJ a0 a1 a2 a3 a4 a5 a6 a7 a8 a9 a10 x1 a11 a12 a13 a11 a14 a15 a16 x2 x3 x4 x5 x6 x7 x8 a6 a17 a18 a19 a20 a21 a22 y0 x9 y1 y2 a18 f0) sz) (fun u : gEx => (zS_142 cB cC cI cJ a0 a1 a2 a3 a4 a5 a6 a7 a8 a9 a10 x1 a11 a12 a13 a11 a14 a15 a16 x2 x3 x4 x5 x6 x7 x8 a6 a17 a18 a19 a20 a21 a22 y0 x9 y1 y2 a18 f0))) (va_A (zS_142 cB cC cI cJ a0 a1 a2 a3 a4 a5 a6 a7 a8 a9 a10 x1 a11 a12 a13 a11 a14 a15 a16 x2 x3 x4 x5 x6 x7 x8 a6 a17 a18 a19 a20 a21 a22 y0 x9 y1 y2 a18 f0) sz)) 0 0 (va_A (zS_142 cB cC cI cJ a0 a1 a2 a3 a4 a5 a6 a7 a8 a9 a10 x1 a11 a12 a13 a11 a14 a15 a16 x2 x3 x4 x5 x6 x7 x8 a6 a17 a18 a19 a20 a21 a22 y0 x9 y1 y2 a18 f0) sz) := by
  refine gOf_i (by decide +kernel) (Nat.le_of_ble_eq_true rfl) ?_
  intro p e s m args below meth c ls A Q hx hb hts hown hml hN hK hP hD hA hl hret
  replace hown : s.vm.findClass RX11 = some m.cls := hown
  have hS : va_S A s.heap s.heap [] := va_S.rf
  replace hP : va_P D gcl (zS_142 cB cC cI cJ a0 a1 a2 a3 a4 a5 a6 a7 a8 a9 a10 x1 a11 a12 a13 a11 a14 a15 a16 x2 x3 x4 x5 x6 x7 x8 a6 a17 a18 a19 a20 a21 a22 y0 x9 y1 y2 a18 f0) s.heap := hP
  replace hl : lv_has ls 2 [(0, .ref a0), (1, .int x0)] := hl
  have rx0 : zBd x0.toInt (-2147483648) 2147483647 := n_rng x0
  have rx7 : zBd x7.toInt (-2147483648) 2147483647 := n_rng x7
  have rx8 : zBd x8.toInt (-2147483648) 2147483647 := n_rng x8
  have ry0 := n_rngL y0
  have ry1 := n_rngL y1
  have ry2 := n_rngL y2
  refine lv_aload_n (pc := 0) hx hb dX11_put_0 rfl (lv_at hl 0 rfl) ?_
  refine va_get (pc := 1) (ci := 11) (v := .ref a11) (C := RX11) (T := TX11) (N := 14) hx hb hts iX11 hown hK hP 0 rfl rfl 11 (by decide) (hts _ tw_431) (fun _ h9 => h9) rfl dX11_put_1 ?_
  refine lv_iload_n (pc := 4) hx hb dX11_put_4 rfl (lv_at hl 1 rfl) ?_
  refine gd_i (pc := 5) (wc := (zS_5 cB cC cI cJ a11 a14 a15 a16 x2 x3 x4 x5 x6 x7 x8)) hP hD hS hA [1] rfl (by decide +kernel) (fun _ => by rfl) (fun hPc hDc => va_runV (As := [.int x0]) (rest := []) ⟨hx, hb, hml, hown, hts⟩ (k_X1_isSender l D cB cC cI cJ _ a11 a14 a15 a16 x0 x2 x3 x4 x5 x6 x7 x8 h_x2 h_x3 h_x4 h_x5 h_x6) ⟨gcwB hts tw_782 tw_4 tw_779 hd_yX1_isSender ⟨Nat.le_of_ble_eq_true rfl, Nat.le_of_ble_eq_true rfl⟩, hts _ tw_780, hts _ tw_781⟩ ⟨gblind, va_recv hK hPc (ci := 1) (q0 := 0) rfl rfl, (gpreS hPc hK hDc hN).2⟩ rfl rfl hl.1 rfl (lv_room (Nat.le_of_ble_eq_true rfl)) dX11_put_5 ⟨Nat.le_of_ble_eq_true rfl, Nat.le_of_ble_eq_true rfl⟩) (fun r_2 u_1 H locs hw_3 hP hD hS => ?_)
  replace hP : va_P D gcl (zS_142 cB cC cI cJ a0 a1 a2 a3 a4 a5 a6 a7 a8 a9 a10 x1 a11 a12 a13 a11 a14 a15 a16 x2 x3 x4 x5 x6 x7 x8 a6 a17 a18 a19 a20 a21 a22 y0 x9 y1 y2 a18 f0) H := hP
  replace hD : va_D A (zS_142 cB cC cI cJ a0 a1 a2 a3 a4 a5 a6 a7 a8 a9 a10 x1 a11 a12 a13 a11 a14 a15 a16 x2 x3 x4 x5 x6 x7 x8 a6 a17 a18 a19 a20 a21 a22 y0 x9 y1 y2 a18 f0) := hD
  have hw_4 : ((r_2.toInt = 0 ∧ x0.toInt < 0) ∨ (r_2.toInt = 0 ∧ x0.toInt ≥ 0 ∧ x0.toInt ≥ x3.toInt) ∨ (r_2.toInt = 1 ∧ x0.toInt ≥ 0 ∧ x0.toInt < x3.toInt)) := hw_3
  have rr_2 : zBd r_2.toInt (-2147483648) 2147483647 := n_rng r_2
  refine b_if_eq (pc := 8) (tgt := 33) hx hb rfl  dX11_put_8 (by decide) (fun c_5 => ?_) (fun c_5 => ?_)
  ·
    as_aux_lemma =>
      refine lv_ldc (pc := 33) hx hb hown (hts _ tw_783) dX11_put_33 ?_
      exact hret (-1000000000) ((fun _ => 0), (fun _ => (fun _ => 0)), (fun _ => (fun _ => 0)), (fun _ => 0), (fun _ => 0)) dX11_put_35 (show ((((-1000000000) : Int32).toInt = (-1000000000)) ∨ (((-1000000000) : Int32).toInt = (-1000000000) ∧ x9.toInt = 0) ∨ (((-2147483648) ≤ ((-1000000000) : Int32).toInt ∧ ((-1000000000) : Int32).toInt ≤ 2147483647) ∧ ¬ x9.toInt = 0)) from (by first | exact (om_1438 tI_m1000000000) | (have k9 := tI_m1000000000; (first | omega | (unfold zBd at *; omega))))) (g_psub (wc := (zS_142 cB cC cI cJ a0 a1 a2 a3 a4 a5 a6 a7 a8 a9 a10 x1 a11 a12 a13 a11 a14 a15 a16 x2 x3 x4 x5 x6 x7 x8 a6 a17 a18 a19 a20 a21 a22 y0 x9 y1 y2 a18 f0)) hP [0, 1, 2, 3] rfl) (hD.sub (ws' := (zS_142 cB cC cI cJ a0 a1 a2 a3 a4 a5 a6 a7 a8 a9 a10 x1 a11 a12 a13 a11 a14 a15 a16 x2 x3 x4 x5 x6 x7 x8 a6 a17 a18 a19 a20 a21 a22 y0 x9 y1 y2 a18 f0)) [0, 1, 2, 3] (by decide) rfl) hS
  ·
    as_aux_lemma =>
      refine lv_aload_n (pc := 11) hx hb dX11_put_11 rfl (lv_at hl 0 rfl) ?_
      refine va_get (pc := 12) (ci := 11) (v := .ref a6) (C := RX11) (T := TX11) (N := 14) hx hb hts iX11 hown hK hP 0 rfl rfl 5 (by decide) (hts _ tw_425) (fun _ h9 => h9) rfl dX11_put_12 ?_
      refine va_getN (pc := 15) (ci := 3) (v := .int x9) (C := RX3) (T := TX3) (N := 10) hx hb hts iX3 hown hK hP 2 rfl rfl 7 (by decide) (va_Nw.use rfl (hN _ tn_357)) (fun _ h9 => h9) rfl dX11_put_15 ?_
      refine b_if_eq (pc := 18) (tgt := 33) hx hb rfl  dX11_put_18 (by decide) (fun c_6 => ?_) (fun c_6 => ?_)
      ·
        as_aux_lemma =>
          refine lv_ldc (pc := 33) hx hb hown (hts _ tw_783) dX11_put_33 ?_
          exact hret (-1000000000) ((fun _ => 0), (fun _ => (fun _ => 0)), (fun _ => (fun _ => 0)), (fun _ => 0), (fun _ => 0)) dX11_put_35 (show ((((-1000000000) : Int32).toInt = (-1000000000)) ∨ (((-1000000000) : Int32).toInt = (-1000000000) ∧ x9.toInt = 0) ∨ (((-2147483648) ≤ ((-1000000000) : Int32).toInt ∧ ((-1000000000) : Int32).toInt ≤ 2147483647) ∧ ¬ x9.toInt = 0)) from (by first | exact (om_1438 tI_m1000000000) | (have k9 := tI_m1000000000; (first | omega | (unfold zBd at *; omega))))) (g_psub (wc := (zS_142 cB cC cI cJ a0 a1 a2 a3 a4 a5 a6 a7 a8 a9 a10 x1 a11 a12 a13 a11 a14 a15 a16 x2 x3 x4 x5 x6 x7 x8 a6 a17 a18 a19 a20 a21 a22 y0 x9 y1 y2 a18 f0)) hP [0, 1, 2, 3] rfl) (hD.sub (ws' := (zS_142 cB cC cI cJ a0 a1 a2 a3 a4 a5 a6 a7 a8 a9 a10 x1 a11 a12 a13 a11 a14 a15 a16 x2 x3 x4 x5 x6 x7 x8 a6 a17 a18 a19 a20 a21 a22 y0 x9 y1 y2 a18 f0)) [0, 1, 2, 3] (by decide) rfl) hS
      ·
        as_aux_lemma =>
          refine lv_aload_n (pc := 21) hx hb dX11_put_21 rfl (lv_at hl 0 rfl) ?_
          refine va_get (pc := 22) (ci := 11) (v := .ref a6) (C := RX11) (T := TX11) (N := 14) hx hb hts iX11 hown hK hP 0 rfl rfl 5 (by decide) (hts _ tw_425) (fun _ h9 => h9) rfl dX11_put_22 ?_
          refine va_getN (pc := 25) (ci := 3) (v := .ref a18) (C := RX3) (T := TX3) (N := 10) hx hb hts iX3 hown hK hP 2 rfl rfl 1 (by decide) (va_Nw.use rfl (hN _ tn_350)) (fun _ h9 => h9) rfl dX11_put_25 ?_
          refine lv_iload_n (pc := 28) hx hb dX11_put_28 rfl (lv_at hl 1 rfl) ?_
          refine va_iald (pc := 29) hx hb hK hP 3 2 rfl rfl (n_in rfl (by first | exact (om_1344 hw_4 c_5) | ((first | omega | (unfold zBd at *; omega)))) (by first | exact (om_1366 hw_4 c_5 h_x3.2) | ((first | omega | (unfold zBd at *; omega))))) dX11_put_29 ?_
          refine lv_topi (fun x_7 ex_7 => ?_)
          have rx_7 : zBd x_7.toInt (-2147483648) 2147483647 := n_rng x_7
          refine lv_goto (pc := 30) (tgt := 35) hx hb dX11_put_30 (by decide) ?_
          exact hret x_7 ((fun _ => 0), (fun _ => (fun _ => 0)), (fun _ => (fun _ => 0)), (fun _ => 0), (fun _ => 0)) dX11_put_35 (show ((x_7.toInt = (-1000000000)) ∨ (x_7.toInt = (-1000000000) ∧ x9.toInt = 0) ∨ (((-2147483648) ≤ x_7.toInt ∧ x_7.toInt ≤ 2147483647) ∧ ¬ x9.toInt = 0)) from (by first | exact (om_1439 rx_7.1 c_6 h_x9.1 rx_7.2) | ((first | omega | (unfold zBd at *; omega))))) (g_psub (wc := (zS_142 cB cC cI cJ a0 a1 a2 a3 a4 a5 a6 a7 a8 a9 a10 x1 a11 a12 a13 a11 a14 a15 a16 x2 x3 x4 x5 x6 x7 x8 a6 a17 a18 a19 a20 a21 a22 y0 x9 y1 y2 a18 f0)) hP [0, 1, 2, 3] rfl) (hD.sub (ws' := (zS_142 cB cC cI cJ a0 a1 a2 a3 a4 a5 a6 a7 a8 a9 a10 x1 a11 a12 a13 a11 a14 a15 a16 x2 x3 x4 x5 x6 x7 x8 a6 a17 a18 a19 a20 a21 a22 y0 x9 y1 y2 a18 f0)) [0, 1, 2, 3] (by decide) rfl) hS
set_option maxHeartbeats 4000000 in
set_option maxRecDepth 100000 in
theorem k_X11_worth (l : Launch) (D : va_G) (cB cC cI cJ : ClassId) (sz : Nat) (a0 a1 a2 a3 a4 a5 a6 a7 a8 a9 a10 a11 a12 a13 a14 a15 a16 a17 a18 a19 a20 a21 a22 : Nat) (x0 x1 x2 x3 x4 x5 x6 x7 x8 x9 x10 : Int32) (f0 f1 f2 f3 f4 f5 : Nat → Int32) (h_x1 : zBd x1.toInt 0 14) (h_x2 : zBd x2.toInt (-1) 8) (h_x3 : zBd x3.toInt (-1) 5) (h_x4 : zBd x4.toInt (-1) 6) (h_x5 : zBd x5.toInt 0 6) (h_x6 : zBd x6.toInt 0 16) (h_x9 : zBd x9.toInt 0 1600) (h_x10 : zBd x10.toInt 0 8) (hf_f1 : (∀ j, 0 ≤ (f1 j).toInt ∧ (f1 j).toInt ≤ 1600)) (hf_f2 : (∀ j, 0 ≤ (f2 j).toInt ∧ (f2 j).toInt ≤ 1600)) (hf_f5 : (∀ j, 0 ≤ (f5 j).toInt ∧ (f5 j).toInt ≤ 1600)) : Met l yX11_worth (.code yX11_worth cX11_worth 2 (some .int) :: lw_gd) ({ frames := 6, cells := 0, slots := 0, locals := 138 }) (gPre D [(cB, .byte), (cC, .char), (cI, .int), (cJ, .long)] [.ref a0, .int x0] (zS_149 cB cC cI cJ a0 a1 a2 a3 a4 a5 a6 a7 a8 a9 a10 x1 a11 a12 a13 a11 a14 a15 a16 x2 x3 x4 x5 x6 x7 x8 a14 a17 a17 f0 a15 a18 a19 a20 a21 a22 x9 x10 a20 f1 a21 f2 a22 f3 a18 f4 a19 f5) sz) (va_Qi (fun r u => ((r.toInt = (-1000000000)) ∨ (((-2147483648) ≤ r.toInt ∧ r.toInt ≤ 2147483647)))) (gB D (va_A (zS_149 cB cC cI cJ a0 a1 a2 a3 a4 a5 a6 a7 a8 a9 a10 x1 a11 a12 a13 a11 a14 a15 a16 x2 x3 x4 x5 x6 x7 x8 a14 a17 a17 f0 a15 a18 a19 a20 a21 a22 x9 x10 a20 f1 a21 f2 a22 f3 a18 f4 a19 f5) sz) (fun u : gEx => (zS_149 cB cC cI cJ a0 a1 a2 a3 a4 a5 a6 a7 a8 a9 a10 x1 a11 a12 a13 a11 a14 a15 a16 x2 x3 x4 x5 x6 x7 x8 a14 a17 a17 f0 a15 a18 a19 a20 a21 a22 x9 x10 a20 f1 a21 f2 a22 (u.2.1 0) a18 f4 a19 f5))) (va_A (zS_149 cB cC cI cJ a0 a1 a2 a3 a4 a5 a6 a7 a8 a9 a10 x1 a11 a12 a13 a11 a14 a15 a16 x2 x3 x4 x5 x6 x7 x8 a14 a17 a17 f0 a15 a18 a19 a20 a21 a22 x9 x10 a20 f1 a21 f2 a22 f3 a18 f4 a19 f5) sz)) 0 0 (va_A (zS_149 cB cC cI cJ a0 a1 a2 a3 a4 a5 a6 a7 a8 a9 a10 x1 a11 a12 a13 a11 a14 a15 a16 x2 x3 x4 x5 x6 x7 x8 a14 a17 a17 f0 a15 a18 a19 a20 a21 a22 x9 x10 a20 f1 a21 f2 a22 f3 a18 f4 a19 f5) sz) := by
  refine gOf_i (by decide +kernel) (Nat.le_of_ble_eq_true rfl) ?_
  intro p e s m args below meth c ls A Q hx hb hts hown hml hN hK hP hD hA hl hret
  replace hown : s.vm.findClass RX11 = some m.cls := hown
  have hS : va_S A s.heap s.heap [] := va_S.rf
  replace hP : va_P D gcl (zS_149 cB cC cI cJ a0 a1 a2 a3 a4 a5 a6 a7 a8 a9 a10 x1 a11 a12 a13 a11 a14 a15 a16 x2 x3 x4 x5 x6 x7 x8 a14 a17 a17 f0 a15 a18 a19 a20 a21 a22 x9 x10 a20 f1 a21 f2 a22 f3 a18 f4 a19 f5) s.heap := hP
  replace hl : lv_has ls 2 [(0, .ref a0), (1, .int x0)] := hl
  have rx0 : zBd x0.toInt (-2147483648) 2147483647 := n_rng x0
  have rx7 : zBd x7.toInt (-2147483648) 2147483647 := n_rng x7
  have rx8 : zBd x8.toInt (-2147483648) 2147483647 := n_rng x8
  refine lv_aload_n (pc := 0) hx hb dX11_worth_0 rfl (lv_at hl 0 rfl) ?_
  refine va_get (pc := 1) (ci := 11) (v := .ref a11) (C := RX11) (T := TX11) (N := 14) hx hb hts iX11 hown hK hP 0 rfl rfl 11 (by decide) (hts _ tw_431) (fun _ h9 => h9) rfl dX11_worth_1 ?_
  refine lv_iload_n (pc := 4) hx hb dX11_worth_4 rfl (lv_at hl 1 rfl) ?_
  refine gd_i (pc := 5) (wc := (zS_5 cB cC cI cJ a11 a14 a15 a16 x2 x3 x4 x5 x6 x7 x8)) hP hD hS hA [1] rfl (by decide +kernel) (fun _ => by rfl) (fun hPc hDc => va_runV (As := [.int x0]) (rest := []) ⟨hx, hb, hml, hown, hts⟩ (k_X1_isSender l D cB cC cI cJ _ a11 a14 a15 a16 x0 x2 x3 x4 x5 x6 x7 x8 h_x2 h_x3 h_x4 h_x5 h_x6) ⟨gcwB hts tw_782 tw_4 tw_779 hd_yX1_isSender ⟨Nat.le_of_ble_eq_true rfl, Nat.le_of_ble_eq_true rfl⟩, hts _ tw_780, hts _ tw_781⟩ ⟨gblind, va_recv hK hPc (ci := 1) (q0 := 0) rfl rfl, (gpreS hPc hK hDc hN).2⟩ rfl rfl hl.1 rfl (lv_room (Nat.le_of_ble_eq_true rfl)) dX11_worth_5 ⟨Nat.le_of_ble_eq_true rfl, Nat.le_of_ble_eq_true rfl⟩) (fun r_2 u_1 H locs hw_3 hP hD hS => ?_)
  replace hP : va_P D gcl (zS_149 cB cC cI cJ a0 a1 a2 a3 a4 a5 a6 a7 a8 a9 a10 x1 a11 a12 a13 a11 a14 a15 a16 x2 x3 x4 x5 x6 x7 x8 a14 a17 a17 f0 a15 a18 a19 a20 a21 a22 x9 x10 a20 f1 a21 f2 a22 f3 a18 f4 a19 f5) H := hP
  replace hD : va_D A (zS_149 cB cC cI cJ a0 a1 a2 a3 a4 a5 a6 a7 a8 a9 a10 x1 a11 a12 a13 a11 a14 a15 a16 x2 x3 x4 x5 x6 x7 x8 a14 a17 a17 f0 a15 a18 a19 a20 a21 a22 x9 x10 a20 f1 a21 f2 a22 f3 a18 f4 a19 f5) := hD
  have hw_4 : ((r_2.toInt = 0 ∧ x0.toInt < 0) ∨ (r_2.toInt = 0 ∧ x0.toInt ≥ 0 ∧ x0.toInt ≥ x3.toInt) ∨ (r_2.toInt = 1 ∧ x0.toInt ≥ 0 ∧ x0.toInt < x3.toInt)) := hw_3
  have rr_2 : zBd r_2.toInt (-2147483648) 2147483647 := n_rng r_2
  refine b_if_eq (pc := 8) (tgt := 22) hx hb rfl  dX11_worth_8 (by decide) (fun c_5 => ?_) (fun c_5 => ?_)
  ·
    refine lv_ldc (pc := 22) hx hb hown (hts _ tw_783) dX11_worth_22 ?_
    exact hret (-1000000000) ((fun _ => 0), (fun k => [f3].getD k (fun _ => 0)), (fun _ => (fun _ => 0)), (fun _ => 0), (fun _ => 0)) dX11_worth_24 (show ((((-1000000000) : Int32).toInt = (-1000000000)) ∨ (((-2147483648) ≤ ((-1000000000) : Int32).toInt ∧ ((-1000000000) : Int32).toInt ≤ 2147483647))) from (by first | exact (om_1343 tI_m1000000000) | (have k9 := tI_m1000000000; (first | omega | (unfold zBd at *; omega))))) (g_psub (wc := (zS_149 cB cC cI cJ a0 a1 a2 a3 a4 a5 a6 a7 a8 a9 a10 x1 a11 a12 a13 a11 a14 a15 a16 x2 x3 x4 x5 x6 x7 x8 a14 a17 a17 f0 a15 a18 a19 a20 a21 a22 x9 x10 a20 f1 a21 f2 a22 f3 a18 f4 a19 f5)) hP [0, 1, 2, 3, 4, 5, 6, 7, 8, 9] rfl) (hD.sub (ws' := (zS_149 cB cC cI cJ a0 a1 a2 a3 a4 a5 a6 a7 a8 a9 a10 x1 a11 a12 a13 a11 a14 a15 a16 x2 x3 x4 x5 x6 x7 x8 a14 a17 a17 f0 a15 a18 a19 a20 a21 a22 x9 x10 a20 f1 a21 f2 a22 f3 a18 f4 a19 f5)) [0, 1, 2, 3, 4, 5, 6, 7, 8, 9] (by decide) rfl) hS
  ·
    refine lv_aload_n (pc := 11) hx hb dX11_worth_11 rfl (lv_at hl 0 rfl) ?_
    refine va_get (pc := 12) (ci := 11) (v := .ref a11) (C := RX11) (T := TX11) (N := 14) hx hb hts iX11 hown hK hP 0 rfl rfl 11 (by decide) (hts _ tw_431) (fun _ h9 => h9) rfl dX11_worth_12 ?_
    refine lv_iload_n (pc := 15) hx hb dX11_worth_15 rfl (lv_at hl 1 rfl) ?_
    refine gc_i (pc := 16) (wc := (zS_137 cB cC cI cJ a11 a14 a15 a16 x2 x3 x4 x5 x6 x7 x8 a14 a17 a17 f0 a15 a18 a19 a20 a21 a22 x9 x10 a20 f1 a21 f2 a22 f3 a18 f4 a19 f5)) (wr := (zS_177 cB cC cI cJ a0 a1 a2 a3 a4 a5 a6 a7 a8 a9 a10 x1 a11 a12 a13)) hP hD hS hA [1, 2, 3, 4, 5, 6, 7, 8, 9] [0] rfl rfl (by decide +kernel) (by decide +kernel) (by decide +kernel) (fun hPc hDc => va_runV (As := [.int x0]) (rest := []) ⟨hx, hb, hml, hown, hts⟩ (k_X1_worthOf l D cB cC cI cJ _ a11 a14 a15 a16 a17 a18 a19 a20 a21 a22 x0 x2 x3 x4 x5 x6 x7 x8 x9 x10 f0 f1 f2 f3 f4 f5 (by first | exact (om_1336 hw_4 c_5 h_x3.2) | ((first | omega | (unfold zBd at *; omega)))) h_x2 h_x3 h_x4 h_x5 h_x6 h_x9 h_x10 hf_f1 hf_f2 hf_f5) ⟨gcwB hts tw_1325 tw_4 tw_1322 hd_yX1_worthOf ⟨Nat.le_of_ble_eq_true rfl, Nat.le_of_ble_eq_true rfl⟩, hts _ tw_1323, hts _ tw_1324⟩ ⟨gblind, va_recv hK hPc (ci := 1) (q0 := 0) rfl rfl, (gpreS hPc hK hDc hN).2⟩ rfl rfl hl.1 rfl (lv_room (Nat.le_of_ble_eq_true rfl)) dX11_worth_16 ⟨Nat.le_of_ble_eq_true rfl, Nat.le_of_ble_eq_true rfl⟩) (fun r_7 u_6 H locs hw_8 hP hD hS => ?_)
    replace hP : va_P D gcl (zS_149 cB cC cI cJ a0 a1 a2 a3 a4 a5 a6 a7 a8 a9 a10 x1 a11 a12 a13 a11 a14 a15 a16 x2 x3 x4 x5 x6 x7 x8 a14 a17 a17 f0 a15 a18 a19 a20 a21 a22 x9 x10 a20 f1 a21 f2 a22 (u_6.2.1 0) a18 f4 a19 f5) H := hP
    replace hD : va_D A (zS_149 cB cC cI cJ a0 a1 a2 a3 a4 a5 a6 a7 a8 a9 a10 x1 a11 a12 a13 a11 a14 a15 a16 x2 x3 x4 x5 x6 x7 x8 a14 a17 a17 f0 a15 a18 a19 a20 a21 a22 x9 x10 a20 f1 a21 f2 a22 (u_6.2.1 0) a18 f4 a19 f5) := hD
    have hw_9 : ((((-2147483648) ≤ r_7.toInt ∧ r_7.toInt ≤ 2147483647))) := hw_8
    have rr_7 : zBd r_7.toInt (-2147483648) 2147483647 := n_rng r_7
    refine lv_goto (pc := 19) (tgt := 24) hx hb dX11_worth_19 (by decide) ?_
    exact hret r_7 ((fun _ => 0), (fun k => [(u_6.2.1 0)].getD k (fun _ => 0)), (fun _ => (fun _ => 0)), (fun _ => 0), (fun _ => 0)) dX11_worth_24 (show ((r_7.toInt = (-1000000000)) ∨ (((-2147483648) ≤ r_7.toInt ∧ r_7.toInt ≤ 2147483647))) from (by first | exact (om_1346 rr_7.1 rr_7.2) | ((first | omega | (unfold zBd at *; omega))))) (g_psub (wc := (zS_149 cB cC cI cJ a0 a1 a2 a3 a4 a5 a6 a7 a8 a9 a10 x1 a11 a12 a13 a11 a14 a15 a16 x2 x3 x4 x5 x6 x7 x8 a14 a17 a17 f0 a15 a18 a19 a20 a21 a22 x9 x10 a20 f1 a21 f2 a22 (u_6.2.1 0) a18 f4 a19 f5)) hP [0, 1, 2, 3, 4, 5, 6, 7, 8, 9] rfl) (hD.sub (ws' := (zS_149 cB cC cI cJ a0 a1 a2 a3 a4 a5 a6 a7 a8 a9 a10 x1 a11 a12 a13 a11 a14 a15 a16 x2 x3 x4 x5 x6 x7 x8 a14 a17 a17 f0 a15 a18 a19 a20 a21 a22 x9 x10 a20 f1 a21 f2 a22 (u_6.2.1 0) a18 f4 a19 f5)) [0, 1, 2, 3, 4, 5, 6, 7, 8, 9] (by decide) rfl) hS
set_option maxHeartbeats 4000000 in
set_option maxRecDepth 100000 in
theorem k_X11_worthTogether (l : Launch) (D : va_G) (cB cC cI cJ : ClassId) (sz : Nat) (a0 a1 a2 a3 a4 a5 a6 a7 a8 a9 a10 a11 a12 a13 a14 a15 a16 : Nat) (x0 x1 x2 x3 x4 x5 x6 x7 x8 : Int32) (f0 : Nat → Int32) (h_x1 : zBd x1.toInt 0 14) (h_x2 : zBd x2.toInt (-1) 8) (h_x3 : zBd x3.toInt (-1) 5) (h_x4 : zBd x4.toInt (-1) 6) (h_x5 : zBd x5.toInt 0 6) (h_x6 : zBd x6.toInt 0 16) : Met l yX11_worthTogether (.code yX11_worthTogether cX11_worthTogether 4 (some .int) :: lw_gd) ({ frames := 0, cells := 0, slots := 0, locals := 0 }) (gPre D [(cB, .byte), (cC, .char), (cI, .int), (cJ, .long)] [.ref a0, .int x0] (zS_175 cB cC cI cJ a0 a1 a2 a3 a4 a5 a6 a7 a8 a9 a10 x1 a11 a12 a13 a11 a14 a15 a16 x2 x3 x4 x5 x6 x7 x8 a9 f0) sz) (va_Qi (fun r u => ((((-2147483648) ≤ r.toInt ∧ r.toInt ≤ 2147483647) ∧ ((-1) ≤ x3.toInt ∧ x3.toInt ≤ 5)))) (gB D (va_A (zS_175 cB cC cI cJ a0 a1 a2 a3 a4 a5 a6 a7 a8 a9 a10 x1 a11 a12 a13 a11 a14 a15 a16 x2 x3 x4 x5 x6 x7 x8 a9 f0) sz) (fun u : gEx => (zS_175 cB cC cI cJ a0 a1 a2 a3 a4 a5 a6 a7 a8 a9 a10 x1 a11 a12 a13 a11 a14 a15 a16 x2 x3 x4 x5 x6 x7 x8 a9 f0))) (va_A (zS_175 cB cC cI cJ a0 a1 a2 a3 a4 a5 a6 a7 a8 a9 a10 x1 a11 a12 a13 a11 a14 a15 a16 x2 x3 x4 x5 x6 x7 x8 a9 f0) sz)) 0 0 (va_A (zS_175 cB cC cI cJ a0 a1 a2 a3 a4 a5 a6 a7 a8 a9 a10 x1 a11 a12 a13 a11 a14 a15 a16 x2 x3 x4 x5 x6 x7 x8 a9 f0) sz) := by
  refine gOf_i (by decide +kernel) (Nat.le_of_ble_eq_true rfl) ?_
  intro p e s m args below meth c ls A Q hx hb hts hown hml hN hK hP hD hA hl hret
  replace hown : s.vm.findClass RX11 = some m.cls := hown
  have hS : va_S A s.heap s.heap [] := va_S.rf
  replace hP : va_P D gcl (zS_175 cB cC cI cJ a0 a1 a2 a3 a4 a5 a6 a7 a8 a9 a10 x1 a11 a12 a13 a11 a14 a15 a16 x2 x3 x4 x5 x6 x7 x8 a9 f0) s.heap := hP
  replace hl : lv_has ls 4 [(0, .ref a0), (1, .int x0)] := hl
  have rx0 : zBd x0.toInt (-2147483648) 2147483647 := n_rng x0
  have rx7 : zBd x7.toInt (-2147483648) 2147483647 := n_rng x7
  have rx8 : zBd x8.toInt (-2147483648) 2147483647 := n_rng x8
  refine lv_iconst (pc := 0) (v := 0) hx hb dX11_worthTogether_0 (by decide) ?_
  refine lv_istore_n (pc := 1) (lv' := [(2, .int 0), (0, .ref a0), (1, .int x0)]) hx hb dX11_worthTogether_1 rfl hl (by decide) rfl (fun ls hl => ?_)
  refine lv_iconst (pc := 2) (v := 0) hx hb dX11_worthTogether_2 (by decide) ?_
  refine lv_istore_n (pc := 3) (lv' := [(3, .int 0), (2, .int 0), (0, .ref a0), (1, .int x0)]) hx hb dX11_worthTogether_3 rfl hl (by decide) rfl (fun ls hl => ?_)
  have lp_5 : ∀ (n : Nat) (x_1 x_3 : Int32) (H : Heap) (locs : List Loc) (ls : Array Slot), (0 ≤ x_1.toInt ∧ x_1.toInt ≤ 2147483647) → (2147483647 - x_1.toInt).toNat < n → va_P D gcl (zS_175 cB cC cI cJ a0 a1 a2 a3 a4 a5 a6 a7 a8 a9 a10 x1 a11 a12 a13 a11 a14 a15 a16 x2 x3 x4 x5 x6 x7 x8 a9 f0) H → va_D A (zS_175 cB cC cI cJ a0 a1 a2 a3 a4 a5 a6 a7 a8 a9 a10 x1 a11 a12 a13 a11 a14 a15 a16 x2 x3 x4 x5 x6 x7 x8 a9 f0) → va_S A s.heap H locs → lv_has ls 4 [(3, .int x_1), (2, .int x_3), (0, .ref a0), (1, .int x0)] → W p l e ({ frames := 0, cells := 0, slots := 0, locals := 0 }) s m args below meth c H locs 0 0 Q (F0 m 4 ls []) := by
    intro n
    induction n with
    | zero => intro x_1 x_3 H locs ls hi_2 hmu; exact absurd hmu (Nat.not_lt_zero _)
    | succ n ih_lp_5 =>
      intro x_1 x_3 H locs ls hi_2 hmu_lp_5 hP hD hS hl
      have hi_4 := n_rng x_3
      refine lv_iload_n (pc := 4) hx hb dX11_worthTogether_4 rfl (lv_at hl 0 rfl) ?_
      refine lv_aload_n (pc := 5) hx hb dX11_worthTogether_5 rfl (lv_at hl 2 rfl) ?_
      refine va_get (pc := 6) (ci := 11) (v := .ref a11) (C := RX11) (T := TX11) (N := 14) hx hb hts iX11 hown hK hP 0 rfl rfl 11 (by decide) (hts _ tw_431) (fun _ h9 => h9) rfl dX11_worthTogether_6 ?_
      refine va_getN (pc := 9) (ci := 1) (v := .int x3) (C := RX1) (T := TX1) (N := 10) hx hb hts iX1 hown hK hP 1 rfl rfl 4 (by decide) (va_Nw.use rfl (hN _ tn_123)) (fun _ h9 => h9) rfl dX11_worthTogether_9 ?_
      refine b_icmp_ge (pc := 12) (tgt := 39) hx hb rfl rfl  dX11_worthTogether_12 (by decide) (fun c_6 => ?_) (fun c_6 => ?_)
      ·
        as_aux_lemma =>
          refine lv_iload_n (pc := 39) hx hb dX11_worthTogether_39 rfl (lv_at hl 1 rfl) ?_
          exact hret x_3 ((fun _ => 0), (fun _ => (fun _ => 0)), (fun _ => (fun _ => 0)), (fun _ => 0), (fun _ => 0)) dX11_worthTogether_40 (show ((((-2147483648) ≤ x_3.toInt ∧ x_3.toInt ≤ 2147483647) ∧ ((-1) ≤ x3.toInt ∧ x3.toInt ≤ 5))) from (by first | exact (om_1020 hi_4.1 hi_4.2 h_x3.1 h_x3.2) | ((first | omega | (unfold zBd at *; omega))))) (g_psub (wc := (zS_175 cB cC cI cJ a0 a1 a2 a3 a4 a5 a6 a7 a8 a9 a10 x1 a11 a12 a13 a11 a14 a15 a16 x2 x3 x4 x5 x6 x7 x8 a9 f0)) hP [0, 1, 2] rfl) (hD.sub (ws' := (zS_175 cB cC cI cJ a0 a1 a2 a3 a4 a5 a6 a7 a8 a9 a10 x1 a11 a12 a13 a11 a14 a15 a16 x2 x3 x4 x5 x6 x7 x8 a9 f0)) [0, 1, 2] (by decide) rfl) hS
      ·
        as_aux_lemma =>
          refine lv_iload_n (pc := 15) hx hb dX11_worthTogether_15 rfl (lv_at hl 3 rfl) ?_
          refine lv_iload_n (pc := 16) hx hb dX11_worthTogether_16 rfl (lv_at hl 0 rfl) ?_
          refine lv_ishr (pc := 17) hx hb dX11_worthTogether_17 ?_
          refine lv_topi (fun x_7 _ => ?_)
          have rx_7 : zBd x_7.toInt (-2147483648) 2147483647 := n_rng x_7
          refine lv_iconst (pc := 18) (v := 1) hx hb dX11_worthTogether_18 (by decide) ?_
          refine b_iand (pc := 19) (M := 1) hx hb 1 (by decide +kernel) (by decide) (by decide) dX11_worthTogether_19 (fun x_8 ex_8 => ?_)
          have rx_8 : (0 ≤ x_8.toInt ∧ x_8.toInt ≤ 1) := ex_8
          refine lv_iconst (pc := 20) (v := 1) hx hb dX11_worthTogether_20 (by decide) ?_
          refine b_icmp_ne (pc := 21) (tgt := 33) hx hb rfl tI_1  dX11_worthTogether_21 (by decide) (fun c_9 => ?_) (fun c_9 => ?_)
          ·
            as_aux_lemma =>
              refine b_iinc (pc := 33) hx hb dX11_worthTogether_33 hl (k := 0) rfl rfl tI_1 (by first | exact (om_2 hi_2.1) | ((first | omega | (unfold zBd at *; omega)))) (by first | exact (om_338 c_6 h_x3.2) | ((first | omega | (unfold zBd at *; omega)))) (by decide) (fun x_10 ex_10 ls hl => ?_)
              replace hl : lv_has ls 4 [(3, .int x_10), (2, .int x_3), (0, .ref a0), (1, .int x0)] := hl
              refine lv_goto (pc := 36) (tgt := 4) hx hb dX11_worthTogether_36 (by decide) ?_
              exact ih_lp_5 x_10 x_3 _ _ ls (by first | exact (om_339 ex_10 hi_2.1 c_6 h_x3.2) | ((first | omega | (unfold zBd at *; omega)))) (by (first | omega | (unfold zBd at *; omega))) hP hD hS (lv_sub hl [0, 1, 2, 3] rfl)
          ·
            as_aux_lemma =>
              refine lv_iload_n (pc := 24) hx hb dX11_worthTogether_24 rfl (lv_at hl 1 rfl) ?_
              refine lv_aload_n (pc := 25) hx hb dX11_worthTogether_25 rfl (lv_at hl 2 rfl) ?_
              refine va_get (pc := 26) (ci := 11) (v := .ref a9) (C := RX11) (T := TX11) (N := 14) hx hb hts iX11 hown hK hP 0 rfl rfl 8 (by decide) (hts _ tw_428) (fun _ h9 => h9) rfl dX11_worthTogether_26 ?_
              refine lv_iload_n (pc := 29) hx hb dX11_worthTogether_29 rfl (lv_at hl 0 rfl) ?_
              refine va_iald (pc := 30) hx hb hK hP 2 2 rfl rfl (n_in rfl (by first | exact (om_0 hi_2.1) | ((first | omega | (unfold zBd at *; omega)))) (by first | exact (om_1021 c_6 h_x3.2) | ((first | omega | (unfold zBd at *; omega))))) dX11_worthTogether_30 ?_
              refine lv_topi (fun x_11 ex_11 => ?_)
              have rx_11 : zBd x_11.toInt (-2147483648) 2147483647 := n_rng x_11
              refine lv_iadd (pc := 31) hx hb dX11_worthTogether_31 ?_
              refine lv_topi (fun x_12 _ => ?_)
              have rx_12 : zBd x_12.toInt (-2147483648) 2147483647 := n_rng x_12
              refine lv_istore_n (pc := 32) (lv' := [(2, .int x_12), (3, .int x_1), (0, .ref a0), (1, .int x0)]) hx hb dX11_worthTogether_32 rfl hl (by decide) rfl (fun ls hl => ?_)
              refine b_iinc (pc := 33) hx hb dX11_worthTogether_33 hl (k := 1) rfl rfl tI_1 (by first | exact (om_2 hi_2.1) | ((first | omega | (unfold zBd at *; omega)))) (by first | exact (om_338 c_6 h_x3.2) | ((first | omega | (unfold zBd at *; omega)))) (by decide) (fun x_13 ex_13 ls hl => ?_)
              replace hl : lv_has ls 4 [(3, .int x_13), (2, .int x_12), (0, .ref a0), (1, .int x0)] := hl
              as_aux_lemma =>
                refine lv_goto (pc := 36) (tgt := 4) hx hb dX11_worthTogether_36 (by decide) ?_
                exact ih_lp_5 x_13 x_12 _ _ ls (by first | exact (om_339 ex_13 hi_2.1 c_6 h_x3.2) | ((first | omega | (unfold zBd at *; omega)))) (by (first | omega | (unfold zBd at *; omega))) hP hD hS (lv_sub hl [0, 1, 2, 3] rfl)
  exact lp_5 _ 0 0 _ _ ls (n_c tI_0 (by decide)) (Nat.lt_succ_self _) hP hD hS (lv_sub hl [0, 1, 2, 3] rfl)
theorem om_1440 {a : Int} (h0 : (0 ≤ a)) (h1 : (a ≤ 63)) : ((((0 ≤ a ∧ a ≤ 63)))) := by omega
set_option maxHeartbeats 4000000 in
set_option maxRecDepth 100000 in
theorem k_J6_bitCount_0f7a4 (l : Launch) (D : va_G) (cB cC cI cJ : ClassId) (sz : Nat) (x0 : Int32) : Met l yJ6_bitCount_0f7a4 (.code yJ6_bitCount_0f7a4 cJ6_bitCount_0f7a4 1 (some .int) :: lw_gd) ({ frames := 0, cells := 0, slots := 0, locals := 0 }) (gPre D [(cB, .byte), (cC, .char), (cI, .int), (cJ, .long)] [.int x0] [] sz) (va_Qi (fun r u => (((0 ≤ r.toInt ∧ r.toInt ≤ 63)))) (gB D (va_A [] sz) (fun u : gEx => [])) (va_A [] sz)) 0 0 (va_A [] sz) := by
  refine gOf_i (by decide +kernel) (Nat.le_of_ble_eq_true rfl) ?_
  intro p e s m args below meth c ls A Q hx hb hts hown hml hN hK hP hD hA hl hret
  replace hown : s.vm.findClass RJ6 = some m.cls := hown
  have hS : va_S A s.heap s.heap [] := va_S.rf
  replace hP : va_P D gcl [] s.heap := hP
  replace hl : lv_has ls 1 [(0, .int x0)] := hl
  have rx0 : zBd x0.toInt (-2147483648) 2147483647 := n_rng x0
  refine lv_iload_n (pc := 0) hx hb dJ6_bitCount_0f7a4_0 rfl (lv_at hl 0 rfl) ?_
  refine lv_iload_n (pc := 1) hx hb dJ6_bitCount_0f7a4_1 rfl (lv_at hl 0 rfl) ?_
  refine lv_iconst (pc := 2) (v := 1) hx hb dJ6_bitCount_0f7a4_2 (by decide) ?_
  refine lv_iushr (pc := 3) hx hb dJ6_bitCount_0f7a4_3 rfl ?_
  refine lv_topi (fun x_1 _ => ?_)
  have rx_1 : zBd x_1.toInt (-2147483648) 2147483647 := n_rng x_1
  refine lv_ldcw (pc := 4) hx hb hown (hts _ tw_1372) dJ6_bitCount_0f7a4_4 ?_
  refine lv_iand (pc := 7) hx hb dJ6_bitCount_0f7a4_7 ?_
  refine lv_topi (fun x_2 _ => ?_)
  have rx_2 : zBd x_2.toInt (-2147483648) 2147483647 := n_rng x_2
  refine lv_isub (pc := 8) hx hb dJ6_bitCount_0f7a4_8 ?_
  as_aux_lemma =>
    refine lv_topi (fun x_3 _ => ?_)
    have rx_3 : zBd x_3.toInt (-2147483648) 2147483647 := n_rng x_3
    refine lv_istore_n (pc := 9) (lv' := [(0, .int x_3)]) hx hb dJ6_bitCount_0f7a4_9 rfl hl (by decide) rfl (fun ls hl => ?_)
    refine lv_iload_n (pc := 10) hx hb dJ6_bitCount_0f7a4_10 rfl (lv_at hl 0 rfl) ?_
    refine lv_ldcw (pc := 11) hx hb hown (hts _ tw_1373) dJ6_bitCount_0f7a4_11 ?_
    refine lv_iand (pc := 14) hx hb dJ6_bitCount_0f7a4_14 ?_
    refine lv_topi (fun x_4 _ => ?_)
    have rx_4 : zBd x_4.toInt (-2147483648) 2147483647 := n_rng x_4
    refine lv_iload_n (pc := 15) hx hb dJ6_bitCount_0f7a4_15 rfl (lv_at hl 0 rfl) ?_
    refine lv_iconst (pc := 16) (v := 2) hx hb dJ6_bitCount_0f7a4_16 (by decide) ?_
    refine lv_iushr (pc := 17) hx hb dJ6_bitCount_0f7a4_17 rfl ?_
    refine lv_topi (fun x_5 _ => ?_)
    have rx_5 : zBd x_5.toInt (-2147483648) 2147483647 := n_rng x_5
    as_aux_lemma =>
      refine lv_ldcw (pc := 18) hx hb hown (hts _ tw_1373) dJ6_bitCount_0f7a4_18 ?_
      refine lv_iand (pc := 21) hx hb dJ6_bitCount_0f7a4_21 ?_
      refine lv_topi (fun x_6 _ => ?_)
      have rx_6 : zBd x_6.toInt (-2147483648) 2147483647 := n_rng x_6
      refine lv_iadd (pc := 22) hx hb dJ6_bitCount_0f7a4_22 ?_
      refine lv_topi (fun x_7 _ => ?_)
      have rx_7 : zBd x_7.toInt (-2147483648) 2147483647 := n_rng x_7
      refine lv_istore_n (pc := 23) (lv' := [(0, .int x_7)]) hx hb dJ6_bitCount_0f7a4_23 rfl hl (by decide) rfl (fun ls hl => ?_)
      refine lv_iload_n (pc := 24) hx hb dJ6_bitCount_0f7a4_24 rfl (lv_at hl 0 rfl) ?_
      refine lv_iload_n (pc := 25) hx hb dJ6_bitCount_0f7a4_25 rfl (lv_at hl 0 rfl) ?_
      refine lv_iconst (pc := 26) (v := 4) hx hb dJ6_bitCount_0f7a4_26 (by decide) ?_
      refine lv_iushr (pc := 27) hx hb dJ6_bitCount_0f7a4_27 rfl ?_
      as_aux_lemma =>
        refine lv_topi (fun x_8 _ => ?_)
        have rx_8 : zBd x_8.toInt (-2147483648) 2147483647 := n_rng x_8
        refine lv_iadd (pc := 28) hx hb dJ6_bitCount_0f7a4_28 ?_
        refine lv_topi (fun x_9 _ => ?_)
        have rx_9 : zBd x_9.toInt (-2147483648) 2147483647 := n_rng x_9
        refine lv_ldcw (pc := 29) hx hb hown (hts _ tw_1374) dJ6_bitCount_0f7a4_29 ?_
        refine lv_iand (pc := 32) hx hb dJ6_bitCount_0f7a4_32 ?_
        refine lv_topi (fun x_10 _ => ?_)
        have rx_10 : zBd x_10.toInt (-2147483648) 2147483647 := n_rng x_10
        refine lv_istore_n (pc := 33) (lv' := [(0, .int x_10)]) hx hb dJ6_bitCount_0f7a4_33 rfl hl (by decide) rfl (fun ls hl => ?_)
        refine lv_iload_n (pc := 34) hx hb dJ6_bitCount_0f7a4_34 rfl (lv_at hl 0 rfl) ?_
        refine lv_iload_n (pc := 35) hx hb dJ6_bitCount_0f7a4_35 rfl (lv_at hl 0 rfl) ?_
        refine lv_bipush (pc := 36) (v := 8) hx hb dJ6_bitCount_0f7a4_36 (by decide) ?_
        as_aux_lemma =>
          refine lv_iushr (pc := 38) hx hb dJ6_bitCount_0f7a4_38 rfl ?_
          refine lv_topi (fun x_11 _ => ?_)
          have rx_11 : zBd x_11.toInt (-2147483648) 2147483647 := n_rng x_11
          refine lv_iadd (pc := 39) hx hb dJ6_bitCount_0f7a4_39 ?_
          refine lv_topi (fun x_12 _ => ?_)
          have rx_12 : zBd x_12.toInt (-2147483648) 2147483647 := n_rng x_12
          refine lv_istore_n (pc := 40) (lv' := [(0, .int x_12)]) hx hb dJ6_bitCount_0f7a4_40 rfl hl (by decide) rfl (fun ls hl => ?_)
          refine lv_iload_n (pc := 41) hx hb dJ6_bitCount_0f7a4_41 rfl (lv_at hl 0 rfl) ?_
          refine lv_iload_n (pc := 42) hx hb dJ6_bitCount_0f7a4_42 rfl (lv_at hl 0 rfl) ?_
          refine lv_bipush (pc := 43) (v := 16) hx hb dJ6_bitCount_0f7a4_43 (by decide) ?_
          refine lv_iushr (pc := 45) hx hb dJ6_bitCount_0f7a4_45 rfl ?_
          refine lv_topi (fun x_13 _ => ?_)
          have rx_13 : zBd x_13.toInt (-2147483648) 2147483647 := n_rng x_13
          as_aux_lemma =>
            refine lv_iadd (pc := 46) hx hb dJ6_bitCount_0f7a4_46 ?_
            refine lv_topi (fun x_14 _ => ?_)
            have rx_14 : zBd x_14.toInt (-2147483648) 2147483647 := n_rng x_14
            refine lv_istore_n (pc := 47) (lv' := [(0, .int x_14)]) hx hb dJ6_bitCount_0f7a4_47 rfl hl (by decide) rfl (fun ls hl => ?_)
            refine lv_iload_n (pc := 48) hx hb dJ6_bitCount_0f7a4_48 rfl (lv_at hl 0 rfl) ?_
            refine lv_bipush (pc := 49) (v := 63) hx hb dJ6_bitCount_0f7a4_49 (by decide) ?_
            refine b_iand (pc := 51) (M := 63) hx hb 6 (by decide +kernel) (by decide) (by decide) dJ6_bitCount_0f7a4_51 (fun x_15 ex_15 => ?_)
            have rx_15 : (0 ≤ x_15.toInt ∧ x_15.toInt ≤ 63) := ex_15
            exact hret x_15 ((fun _ => 0), (fun _ => (fun _ => 0)), (fun _ => (fun _ => 0)), (fun _ => 0), (fun _ => 0)) dJ6_bitCount_0f7a4_52 (show (((0 ≤ x_15.toInt ∧ x_15.toInt ≤ 63))) from (by first | exact (om_1440 rx_15.1 rx_15.2) | ((first | omega | (unfold zBd at *; omega))))) (g_psub (wc := []) hP [] rfl) (hD.sub (ws' := []) [] (by decide) rfl) hS
theorem om_1441 {a b c : Int} (h0 : (a = b + 1)) (h1 : (1 ≤ b)) (h2 : (b < c)) (h3 : (c ≤ 2147483647)) : ((1 ≤ a ∧ a ≤ 2147483647)) := by omega
theorem om_1442 {a b : Int} (h0 : (1 ≤ a)) (h1 : (a < b)) (h2 : (b ≤ 32)) : ((0 ≤ a ∧ a ≤ 31)) := by omega
set_option maxHeartbeats 4000000 in
set_option maxRecDepth 100000 in
theorem k_X11_chosen (l : Launch) (D : va_G) (cB cC cI cJ : ClassId) (sz : Nat) (a0 a1 a2 a3 a4 a5 a6 a7 a8 a9 a10 a11 a12 a13 a14 a15 a16 a17 a18 a19 a20 a21 a22 a23 a24 a25 a26 a27 a28 a29 a30 a31 a32 : Nat) (x0 x1 x2 x3 x4 x5 x6 x7 x8 x9 x10 x11 : Int32) (y0 y1 : Int64) (f0 f1 f2 f3 f4 f5 f6 f7 f8 f9 f10 f11 : Nat → Int32) (g0 g1 g2 g3 : Nat → Int64) (h_x1 : zBd x1.toInt 0 14) (h_x2 : zBd x2.toInt (-1) 8) (h_x3 : zBd x3.toInt (-1) 5) (h_x4 : zBd x4.toInt (-1) 6) (h_x5 : zBd x5.toInt 0 6) (h_x6 : zBd x6.toInt 0 16) (h_x9 : zBd x9.toInt 0 1600) (h_x10 : zBd x10.toInt 0 8) (hf_f1 : (∀ j, 0 ≤ (f1 j).toInt ∧ (f1 j).toInt ≤ 1600)) (hf_f2 : (∀ j, 0 ≤ (f2 j).toInt ∧ (f2 j).toInt ≤ 1600)) (hf_f5 : (∀ j, 0 ≤ (f5 j).toInt ∧ (f5 j).toInt ≤ 1600)) (h_x11 : zBd x11.toInt 0 4) (hf_f7 : (∀ j, (-3) ≤ (f7 j).toInt ∧ (f7 j).toInt ≤ 24)) (hf_f8 : (∀ j, 0 ≤ (f8 j).toInt ∧ (f8 j).toInt ≤ 23)) : Met l yX11_chosen (.code yX11_chosen cX11_chosen 9 (some .int) :: lw_gd) ({ frames := 6, cells := 0, slots := 0, locals := 138 }) (gPre D [(cB, .byte), (cC, .char), (cI, .int), (cJ, .long)] [.ref a0, .int x0, .long y0] (zS_103 cB cC cI cJ a0 a1 a2 a3 a4 a5 a6 a7 a8 a9 a10 x1 a11 a12 a13 a11 a14 a15 a16 x2 x3 x4 x5 x6 x7 x8 a14 a17 a17 f0 a15 a18 a19 a20 a21 a22 x9 x10 a20 f1 a21 f2 a22 f3 a18 f4 a19 f5 a9 f6 a4 a23 a24 a25 y1 a25 g0 a23 a26 a27 a28 a29 a30 a31 a32 x11 a26 g1 a28 g2 a27 g3 a31 f7 a32 f8 a29 f9 a30 f10 a24 f11) sz) (va_Qi (fun r u => ((r.toInt = (-1) ∧ x0.toInt < 1) ∨ (r.toInt = (-1) ∧ x0.toInt ≥ 1 ∧ x0.toInt > x3.toInt) ∨ (((-2147483648) ≤ r.toInt ∧ r.toInt ≤ 2147483647) ∧ x0.toInt ≥ 1 ∧ x0.toInt ≤ x3.toInt ∧ y0.toInt ≥ 0 ∧ (1 ≤ x3.toInt ∧ x3.toInt ≤ 5)) ∨ (r.toInt = (-1) ∧ x0.toInt ≥ 1 ∧ x0.toInt ≤ x3.toInt ∧ y0.toInt < 0)) ∧ (0 ≤ (u.2.2.2.1 0).toInt ∧ (u.2.2.2.1 0).toInt ≤ 4) ∧ (∀ j, (-3) ≤ ((u.2.1 2) j).toInt ∧ ((u.2.1 2) j).toInt ≤ 24) ∧ (∀ j, 0 ≤ ((u.2.1 3) j).toInt ∧ ((u.2.1 3) j).toInt ≤ 23)) (gB D (va_A (zS_103 cB cC cI cJ a0 a1 a2 a3 a4 a5 a6 a7 a8 a9 a10 x1 a11 a12 a13 a11 a14 a15 a16 x2 x3 x4 x5 x6 x7 x8 a14 a17 a17 f0 a15 a18 a19 a20 a21 a22 x9 x10 a20 f1 a21 f2 a22 f3 a18 f4 a19 f5 a9 f6 a4 a23 a24 a25 y1 a25 g0 a23 a26 a27 a28 a29 a30 a31 a32 x11 a26 g1 a28 g2 a27 g3 a31 f7 a32 f8 a29 f9 a30 f10 a24 f11) sz) (fun u : gEx => (zS_103 cB cC cI cJ a0 a1 a2 a3 a4 a5 a6 a7 a8 a9 a10 x1 a11 a12 a13 a11 a14 a15 a16 x2 x3 x4 x5 x6 x7 x8 a14 a17 a17 f0 a15 a18 a19 a20 a21 a22 x9 x10 a20 f1 a21 f2 a22 (u.2.1 0) a18 f4 a19 f5 a9 (u.2.1 1) a4 a23 a24 a25 (u.2.2.2.2 0) a25 (u.2.2.1 0) a23 a26 a27 a28 a29 a30 a31 a32 (u.2.2.2.1 0) a26 (u.2.2.1 1) a28 (u.2.2.1 2) a27 (u.2.2.1 3) a31 (u.2.1 2) a32 (u.2.1 3) a29 (u.2.1 4) a30 (u.2.1 5) a24 (u.2.1 6)))) (va_A (zS_103 cB cC cI cJ a0 a1 a2 a3 a4 a5 a6 a7 a8 a9 a10 x1 a11 a12 a13 a11 a14 a15 a16 x2 x3 x4 x5 x6 x7 x8 a14 a17 a17 f0 a15 a18 a19 a20 a21 a22 x9 x10 a20 f1 a21 f2 a22 f3 a18 f4 a19 f5 a9 f6 a4 a23 a24 a25 y1 a25 g0 a23 a26 a27 a28 a29 a30 a31 a32 x11 a26 g1 a28 g2 a27 g3 a31 f7 a32 f8 a29 f9 a30 f10 a24 f11) sz)) 0 0 (va_A (zS_103 cB cC cI cJ a0 a1 a2 a3 a4 a5 a6 a7 a8 a9 a10 x1 a11 a12 a13 a11 a14 a15 a16 x2 x3 x4 x5 x6 x7 x8 a14 a17 a17 f0 a15 a18 a19 a20 a21 a22 x9 x10 a20 f1 a21 f2 a22 f3 a18 f4 a19 f5 a9 f6 a4 a23 a24 a25 y1 a25 g0 a23 a26 a27 a28 a29 a30 a31 a32 x11 a26 g1 a28 g2 a27 g3 a31 f7 a32 f8 a29 f9 a30 f10 a24 f11) sz) := by
  refine gOf_i (by decide +kernel) (Nat.le_of_ble_eq_true rfl) ?_
  intro p e s m args below meth c ls A Q hx hb hts hown hml hN hK hP hD hA hl hret
  replace hown : s.vm.findClass RX11 = some m.cls := hown
  have hS : va_S A s.heap s.heap [] := va_S.rf
  replace hP : va_P D gcl (zS_103 cB cC cI cJ a0 a1 a2 a3 a4 a5 a6 a7 a8 a9 a10 x1 a11 a12 a13 a11 a14 a15 a16 x2 x3 x4 x5 x6 x7 x8 a14 a17 a17 f0 a15 a18 a19 a20 a21 a22 x9 x10 a20 f1 a21 f2 a22 f3 a18 f4 a19 f5 a9 f6 a4 a23 a24 a25 y1 a25 g0 a23 a26 a27 a28 a29 a30 a31 a32 x11 a26 g1 a28 g2 a27 g3 a31 f7 a32 f8 a29 f9 a30 f10 a24 f11) s.heap := hP
  replace hl : lv_has ls 9 [(0, .ref a0), (1, .int x0), (2, .long y0)] := hl
  have rx0 : zBd x0.toInt (-2147483648) 2147483647 := n_rng x0
  have ry0 := n_rngL y0
  have rx7 : zBd x7.toInt (-2147483648) 2147483647 := n_rng x7
  have rx8 : zBd x8.toInt (-2147483648) 2147483647 := n_rng x8
  have ry1 := n_rngL y1
  refine lv_iload_n (pc := 0) hx hb dX11_chosen_0 rfl (lv_at hl 1 rfl) ?_
  refine lv_iconst (pc := 1) (v := 1) hx hb dX11_chosen_1 (by decide) ?_
  refine b_icmp_lt (pc := 2) (tgt := 22) hx hb rfl tI_1  dX11_chosen_2 (by decide) (fun c_1 => ?_) (fun c_1 => ?_)
  ·
    as_aux_lemma =>
      refine lv_iconst (pc := 22) (v := (-1)) hx hb dX11_chosen_22 (by decide) ?_
      exact hret (-1) ((fun _ => 0), (fun k => [f3, f6, f7, f8, f9, f10, f11].getD k (fun _ => 0)), (fun k => [g0, g1, g2, g3].getD k (fun _ => 0)), (fun k => [x11].getD k 0), (fun k => [y1].getD k 0)) dX11_chosen_23 ⟨(show ((((-1) : Int32).toInt = (-1) ∧ x0.toInt < 1) ∨ (((-1) : Int32).toInt = (-1) ∧ x0.toInt ≥ 1 ∧ x0.toInt > x3.toInt) ∨ (((-2147483648) ≤ ((-1) : Int32).toInt ∧ ((-1) : Int32).toInt ≤ 2147483647) ∧ x0.toInt ≥ 1 ∧ x0.toInt ≤ x3.toInt ∧ y0.toInt ≥ 0 ∧ (1 ≤ x3.toInt ∧ x3.toInt ≤ 5)) ∨ (((-1) : Int32).toInt = (-1) ∧ x0.toInt ≥ 1 ∧ x0.toInt ≤ x3.toInt ∧ y0.toInt < 0)) from (by have k9 := tI_m1; (first | omega | (unfold zBd at *; omega)))), (show (0 ≤ (x11 : Int32).toInt ∧ (x11 : Int32).toInt ≤ 4) from h_x11), hf_f7, hf_f8⟩ (g_psub (wc := (zS_103 cB cC cI cJ a0 a1 a2 a3 a4 a5 a6 a7 a8 a9 a10 x1 a11 a12 a13 a11 a14 a15 a16 x2 x3 x4 x5 x6 x7 x8 a14 a17 a17 f0 a15 a18 a19 a20 a21 a22 x9 x10 a20 f1 a21 f2 a22 f3 a18 f4 a19 f5 a9 f6 a4 a23 a24 a25 y1 a25 g0 a23 a26 a27 a28 a29 a30 a31 a32 x11 a26 g1 a28 g2 a27 g3 a31 f7 a32 f8 a29 f9 a30 f10 a24 f11)) hP [0, 1, 2, 3, 4, 5, 6, 7, 8, 9, 10, 11, 12, 13, 14, 15, 16, 17, 18, 19, 20, 21] rfl) (hD.sub (ws' := (zS_103 cB cC cI cJ a0 a1 a2 a3 a4 a5 a6 a7 a8 a9 a10 x1 a11 a12 a13 a11 a14 a15 a16 x2 x3 x4 x5 x6 x7 x8 a14 a17 a17 f0 a15 a18 a19 a20 a21 a22 x9 x10 a20 f1 a21 f2 a22 f3 a18 f4 a19 f5 a9 f6 a4 a23 a24 a25 y1 a25 g0 a23 a26 a27 a28 a29 a30 a31 a32 x11 a26 g1 a28 g2 a27 g3 a31 f7 a32 f8 a29 f9 a30 f10 a24 f11)) [0, 1, 2, 3, 4, 5, 6, 7, 8, 9, 10, 11, 12, 13, 14, 15, 16, 17, 18, 19, 20, 21] (by decide) rfl) hS
  ·
    as_aux_lemma =>
      refine lv_iload_n (pc := 5) hx hb dX11_chosen_5 rfl (lv_at hl 1 rfl) ?_
      refine lv_aload_n (pc := 6) hx hb dX11_chosen_6 rfl (lv_at hl 0 rfl) ?_
      refine va_get (pc := 7) (ci := 11) (v := .ref a11) (C := RX11) (T := TX11) (N := 14) hx hb hts iX11 hown hK hP 0 rfl rfl 11 (by decide) (hts _ tw_431) (fun _ h9 => h9) rfl dX11_chosen_7 ?_
      refine va_getN (pc := 10) (ci := 1) (v := .int x3) (C := RX1) (T := TX1) (N := 10) hx hb hts iX1 hown hK hP 1 rfl rfl 4 (by decide) (va_Nw.use rfl (hN _ tn_123)) (fun _ h9 => h9) rfl dX11_chosen_10 ?_
      refine b_icmp_gt (pc := 13) (tgt := 22) hx hb rfl rfl  dX11_chosen_13 (by decide) (fun c_2 => ?_) (fun c_2 => ?_)
      ·
        as_aux_lemma =>
          refine lv_iconst (pc := 22) (v := (-1)) hx hb dX11_chosen_22 (by decide) ?_
          exact hret (-1) ((fun _ => 0), (fun k => [f3, f6, f7, f8, f9, f10, f11].getD k (fun _ => 0)), (fun k => [g0, g1, g2, g3].getD k (fun _ => 0)), (fun k => [x11].getD k 0), (fun k => [y1].getD k 0)) dX11_chosen_23 ⟨(show ((((-1) : Int32).toInt = (-1) ∧ x0.toInt < 1) ∨ (((-1) : Int32).toInt = (-1) ∧ x0.toInt ≥ 1 ∧ x0.toInt > x3.toInt) ∨ (((-2147483648) ≤ ((-1) : Int32).toInt ∧ ((-1) : Int32).toInt ≤ 2147483647) ∧ x0.toInt ≥ 1 ∧ x0.toInt ≤ x3.toInt ∧ y0.toInt ≥ 0 ∧ (1 ≤ x3.toInt ∧ x3.toInt ≤ 5)) ∨ (((-1) : Int32).toInt = (-1) ∧ x0.toInt ≥ 1 ∧ x0.toInt ≤ x3.toInt ∧ y0.toInt < 0)) from (by have k9 := tI_m1; (first | omega | (unfold zBd at *; omega)))), (show (0 ≤ (x11 : Int32).toInt ∧ (x11 : Int32).toInt ≤ 4) from h_x11), hf_f7, hf_f8⟩ (g_psub (wc := (zS_103 cB cC cI cJ a0 a1 a2 a3 a4 a5 a6 a7 a8 a9 a10 x1 a11 a12 a13 a11 a14 a15 a16 x2 x3 x4 x5 x6 x7 x8 a14 a17 a17 f0 a15 a18 a19 a20 a21 a22 x9 x10 a20 f1 a21 f2 a22 f3 a18 f4 a19 f5 a9 f6 a4 a23 a24 a25 y1 a25 g0 a23 a26 a27 a28 a29 a30 a31 a32 x11 a26 g1 a28 g2 a27 g3 a31 f7 a32 f8 a29 f9 a30 f10 a24 f11)) hP [0, 1, 2, 3, 4, 5, 6, 7, 8, 9, 10, 11, 12, 13, 14, 15, 16, 17, 18, 19, 20, 21] rfl) (hD.sub (ws' := (zS_103 cB cC cI cJ a0 a1 a2 a3 a4 a5 a6 a7 a8 a9 a10 x1 a11 a12 a13 a11 a14 a15 a16 x2 x3 x4 x5 x6 x7 x8 a14 a17 a17 f0 a15 a18 a19 a20 a21 a22 x9 x10 a20 f1 a21 f2 a22 f3 a18 f4 a19 f5 a9 f6 a4 a23 a24 a25 y1 a25 g0 a23 a26 a27 a28 a29 a30 a31 a32 x11 a26 g1 a28 g2 a27 g3 a31 f7 a32 f8 a29 f9 a30 f10 a24 f11)) [0, 1, 2, 3, 4, 5, 6, 7, 8, 9, 10, 11, 12, 13, 14, 15, 16, 17, 18, 19, 20, 21] (by decide) rfl) hS
      ·
        as_aux_lemma =>
          refine lv_lload_n (pc := 16) hx hb dX11_chosen_16 rfl (lv_at hl 2 rfl) ?_
          refine lv_lconst (pc := 17) (v := 0) hx hb dX11_chosen_17 (by decide) ?_
          refine b_lcmp_ge (pc := 18) (tgt := 24) hx hb rfl tL_0 dX11_chosen_18 dX11_chosen_19 (by decide) (fun c_3 => ?_) (fun c_3 => ?_)
          ·
            as_aux_lemma =>
              refine lv_iconst (pc := 24) (v := 0) hx hb dX11_chosen_24 (by decide) ?_
              refine lv_istore (pc := 25) (lv' := [(4, .int 0), (0, .ref a0), (1, .int x0), (2, .long y0)]) hx hb dX11_chosen_25 hl (by decide) rfl (fun ls hl => ?_)
              have lp_8 : ∀ (n : Nat) (x_4 : Int32) (f_6 f_7 : Nat → Int32) (H : Heap) (locs : List Loc) (ls : Array Slot), (0 ≤ x_4.toInt ∧ x_4.toInt ≤ 2147483647) → (2147483647 - x_4.toInt).toNat < n → va_P D gcl (zS_103 cB cC cI cJ a0 a1 a2 a3 a4 a5 a6 a7 a8 a9 a10 x1 a11 a12 a13 a11 a14 a15 a16 x2 x3 x4 x5 x6 x7 x8 a14 a17 a17 f0 a15 a18 a19 a20 a21 a22 x9 x10 a20 f1 a21 f2 a22 f_6 a18 f4 a19 f5 a9 f_7 a4 a23 a24 a25 y1 a25 g0 a23 a26 a27 a28 a29 a30 a31 a32 x11 a26 g1 a28 g2 a27 g3 a31 f7 a32 f8 a29 f9 a30 f10 a24 f11) H → va_D A (zS_103 cB cC cI cJ a0 a1 a2 a3 a4 a5 a6 a7 a8 a9 a10 x1 a11 a12 a13 a11 a14 a15 a16 x2 x3 x4 x5 x6 x7 x8 a14 a17 a17 f0 a15 a18 a19 a20 a21 a22 x9 x10 a20 f1 a21 f2 a22 f_6 a18 f4 a19 f5 a9 f_7 a4 a23 a24 a25 y1 a25 g0 a23 a26 a27 a28 a29 a30 a31 a32 x11 a26 g1 a28 g2 a27 g3 a31 f7 a32 f8 a29 f9 a30 f10 a24 f11) → va_S A s.heap H locs → lv_has ls 9 [(4, .int x_4), (0, .ref a0), (1, .int x0), (2, .long y0)] → W p l e ({ frames := 6, cells := 0, slots := 0, locals := 138 }) s m args below meth c H locs 0 0 Q (F0 m 27 ls []) := by
                intro n
                induction n with
                | zero => intro x_4 f_6 f_7 H locs ls hi_5 hmu; exact absurd hmu (Nat.not_lt_zero _)
                | succ n ih_lp_8 =>
                  intro x_4 f_6 f_7 H locs ls hi_5 hmu_lp_8 hP hD hS hl
                  refine lv_iload (pc := 27) hx hb dX11_chosen_27 (lv_at hl 0 rfl) ?_
                  refine lv_aload_n (pc := 29) hx hb dX11_chosen_29 rfl (lv_at hl 1 rfl) ?_
                  refine va_get (pc := 30) (ci := 11) (v := .ref a11) (C := RX11) (T := TX11) (N := 14) hx hb hts iX11 hown hK hP 0 rfl rfl 11 (by decide) (hts _ tw_431) (fun _ h9 => h9) rfl dX11_chosen_30 ?_
                  refine va_getN (pc := 33) (ci := 1) (v := .int x3) (C := RX1) (T := TX1) (N := 10) hx hb hts iX1 hown hK hP 1 rfl rfl 4 (by decide) (va_Nw.use rfl (hN _ tn_123)) (fun _ h9 => h9) rfl dX11_chosen_33 ?_
                  refine b_icmp_ge (pc := 36) (tgt := 61) hx hb rfl rfl  dX11_chosen_36 (by decide) (fun c_9 => ?_) (fun c_9 => ?_)
                  ·
                    as_aux_lemma =>
                      refine lv_iconst (pc := 61) (v := (-1)) hx hb dX11_chosen_61 (by decide) ?_
                      refine lv_istore (pc := 62) (lv' := [(4, .int (-1)), (0, .ref a0), (1, .int x0), (2, .long y0)]) hx hb dX11_chosen_62 hl (by decide) rfl (fun ls hl => ?_)
                      refine lv_iconst (pc := 64) (v := 0) hx hb dX11_chosen_64 (by decide) ?_
                      refine lv_istore (pc := 65) (lv' := [(5, .int 0), (4, .int (-1)), (0, .ref a0), (1, .int x0), (2, .long y0)]) hx hb dX11_chosen_65 hl (by decide) rfl (fun ls hl => ?_)
                      refine lv_iconst (pc := 67) (v := 1) hx hb dX11_chosen_67 (by decide) ?_
                      refine lv_istore (pc := 68) (lv' := [(6, .int 1), (5, .int 0), (4, .int (-1)), (0, .ref a0), (1, .int x0), (2, .long y0)]) hx hb dX11_chosen_68 hl (by decide) rfl (fun ls hl => ?_)
                      have lp_31 : ∀ (n : Nat) (x_10 x_12 x_14 x_19 : Int32) (y_16 : Int64) (f_24 f_26 f_28 f_29 f_30 : Nat → Int32) (g_18 g_21 g_22 g_23 : Nat → Int64) (H : Heap) (locs : List Loc) (ls : Array Slot), (1 ≤ x_10.toInt ∧ x_10.toInt ≤ 2147483647) → (0 ≤ x_19.toInt ∧ x_19.toInt ≤ 4) → (∀ j, (-3) ≤ (f_24 j).toInt ∧ (f_24 j).toInt ≤ 24) → (∀ j, 0 ≤ (f_26 j).toInt ∧ (f_26 j).toInt ≤ 23) → (2147483647 - x_10.toInt).toNat < n → va_P D gcl (zS_103 cB cC cI cJ a0 a1 a2 a3 a4 a5 a6 a7 a8 a9 a10 x1 a11 a12 a13 a11 a14 a15 a16 x2 x3 x4 x5 x6 x7 x8 a14 a17 a17 f0 a15 a18 a19 a20 a21 a22 x9 x10 a20 f1 a21 f2 a22 f_6 a18 f4 a19 f5 a9 f_7 a4 a23 a24 a25 y_16 a25 g_18 a23 a26 a27 a28 a29 a30 a31 a32 x_19 a26 g_21 a28 g_22 a27 g_23 a31 f_24 a32 f_26 a29 f_28 a30 f_29 a24 f_30) H → va_D A (zS_103 cB cC cI cJ a0 a1 a2 a3 a4 a5 a6 a7 a8 a9 a10 x1 a11 a12 a13 a11 a14 a15 a16 x2 x3 x4 x5 x6 x7 x8 a14 a17 a17 f0 a15 a18 a19 a20 a21 a22 x9 x10 a20 f1 a21 f2 a22 f_6 a18 f4 a19 f5 a9 f_7 a4 a23 a24 a25 y_16 a25 g_18 a23 a26 a27 a28 a29 a30 a31 a32 x_19 a26 g_21 a28 g_22 a27 g_23 a31 f_24 a32 f_26 a29 f_28 a30 f_29 a24 f_30) → va_S A s.heap H locs → lv_has ls 9 [(6, .int x_10), (5, .int x_12), (4, .int x_14), (0, .ref a0), (1, .int x0), (2, .long y0)] → W p l e ({ frames := 6, cells := 0, slots := 0, locals := 138 }) s m args below meth c H locs 0 0 Q (F0 m 70 ls []) := by
                        intro n
                        induction n with
                        | zero => intro x_10 x_12 x_14 x_19 y_16 f_24 f_26 f_28 f_29 f_30 g_18 g_21 g_22 g_23 H locs ls hi_11 hi_20 hi_25 hi_27 hmu; exact absurd hmu (Nat.not_lt_zero _)
                        | succ n ih_lp_31 =>
                          intro x_10 x_12 x_14 x_19 y_16 f_24 f_26 f_28 f_29 f_30 g_18 g_21 g_22 g_23 H locs ls hi_11 hi_20 hi_25 hi_27 hmu_lp_31 hP hD hS hl
                          have hi_13 := n_rng x_12
                          have hi_15 := n_rng x_14
                          have hi_17 := n_rngL y_16
                          refine lv_iload (pc := 70) hx hb dX11_chosen_70 (lv_at hl 0 rfl) ?_
                          refine lv_iconst (pc := 72) (v := 1) hx hb dX11_chosen_72 (by decide) ?_
                          refine lv_aload_n (pc := 73) hx hb dX11_chosen_73 rfl (lv_at hl 3 rfl) ?_
                          refine va_get (pc := 74) (ci := 11) (v := .ref a11) (C := RX11) (T := TX11) (N := 14) hx hb hts iX11 hown hK hP 0 rfl rfl 11 (by decide) (hts _ tw_431) (fun _ h9 => h9) rfl dX11_chosen_74 ?_
                          refine va_getN (pc := 77) (ci := 1) (v := .int x3) (C := RX1) (T := TX1) (N := 10) hx hb hts iX1 hown hK hP 1 rfl rfl 4 (by decide) (va_Nw.use rfl (hN _ tn_123)) (fun _ h9 => h9) rfl dX11_chosen_77 ?_
                          refine b_shl1 (pc := 80) hx hb rfl (by first | exact (om_1106 h_x3.1) | ((first | omega | (unfold zBd at *; omega)))) (by first | exact (om_372 h_x3.2) | ((first | omega | (unfold zBd at *; omega)))) dX11_chosen_80 (fun x_32 ex_32 => ?_)
                          have rx_32 : zBd x_32.toInt (-2147483648) 2147483647 := n_rng x_32
                          refine b_icmp_ge (pc := 81) (tgt := 158) hx hb rfl rfl  dX11_chosen_81 (by decide) (fun c_33 => ?_) (fun c_33 => ?_)
                          ·
                            as_aux_lemma =>
                              refine lv_iload (pc := 158) hx hb dX11_chosen_158 (lv_at hl 2 rfl) ?_
                              exact hret x_14 ((fun _ => 0), (fun k => [f_6, f_7, f_24, f_26, f_28, f_29, f_30].getD k (fun _ => 0)), (fun k => [g_18, g_21, g_22, g_23].getD k (fun _ => 0)), (fun k => [x_19].getD k 0), (fun k => [y_16].getD k 0)) dX11_chosen_160 ⟨(show ((x_14.toInt = (-1) ∧ x0.toInt < 1) ∨ (x_14.toInt = (-1) ∧ x0.toInt ≥ 1 ∧ x0.toInt > x3.toInt) ∨ (((-2147483648) ≤ x_14.toInt ∧ x_14.toInt ≤ 2147483647) ∧ x0.toInt ≥ 1 ∧ x0.toInt ≤ x3.toInt ∧ y0.toInt ≥ 0 ∧ (1 ≤ x3.toInt ∧ x3.toInt ≤ 5)) ∨ (x_14.toInt = (-1) ∧ x0.toInt ≥ 1 ∧ x0.toInt ≤ x3.toInt ∧ y0.toInt < 0)) from (by (first | omega | (unfold zBd at *; omega)))), (show (0 ≤ (x_19 : Int32).toInt ∧ (x_19 : Int32).toInt ≤ 4) from hi_20), hi_25, hi_27⟩ (g_psub (wc := (zS_103 cB cC cI cJ a0 a1 a2 a3 a4 a5 a6 a7 a8 a9 a10 x1 a11 a12 a13 a11 a14 a15 a16 x2 x3 x4 x5 x6 x7 x8 a14 a17 a17 f0 a15 a18 a19 a20 a21 a22 x9 x10 a20 f1 a21 f2 a22 f_6 a18 f4 a19 f5 a9 f_7 a4 a23 a24 a25 y_16 a25 g_18 a23 a26 a27 a28 a29 a30 a31 a32 x_19 a26 g_21 a28 g_22 a27 g_23 a31 f_24 a32 f_26 a29 f_28 a30 f_29 a24 f_30)) hP [0, 1, 2, 3, 4, 5, 6, 7, 8, 9, 10, 11, 12, 13, 14, 15, 16, 17, 18, 19, 20, 21] rfl) (hD.sub (ws' := (zS_103 cB cC cI cJ a0 a1 a2 a3 a4 a5 a6 a7 a8 a9 a10 x1 a11 a12 a13 a11 a14 a15 a16 x2 x3 x4 x5 x6 x7 x8 a14 a17 a17 f0 a15 a18 a19 a20 a21 a22 x9 x10 a20 f1 a21 f2 a22 f_6 a18 f4 a19 f5 a9 f_7 a4 a23 a24 a25 y_16 a25 g_18 a23 a26 a27 a28 a29 a30 a31 a32 x_19 a26 g_21 a28 g_22 a27 g_23 a31 f_24 a32 f_26 a29 f_28 a30 f_29 a24 f_30)) [0, 1, 2, 3, 4, 5, 6, 7, 8, 9, 10, 11, 12, 13, 14, 15, 16, 17, 18, 19, 20, 21] (by decide) rfl) hS
                          ·
                            as_aux_lemma =>
                              refine lv_aload_n (pc := 84) hx hb dX11_chosen_84 rfl (lv_at hl 3 rfl) ?_
                              refine lv_iload (pc := 85) hx hb dX11_chosen_85 (lv_at hl 0 rfl) ?_
                              refine gd_i (pc := 87) (wc := (zS_175 cB cC cI cJ a0 a1 a2 a3 a4 a5 a6 a7 a8 a9 a10 x1 a11 a12 a13 a11 a14 a15 a16 x2 x3 x4 x5 x6 x7 x8 a9 f_7)) hP hD hS hA [0, 1, 10] rfl (by decide +kernel) (fun _ => by rfl) (fun hPc hDc => va_runV (As := [.int x_10]) (rest := []) ⟨hx, hb, hml, hown, hts⟩ (k_X11_worthTogether l D cB cC cI cJ _ a0 a1 a2 a3 a4 a5 a6 a7 a8 a9 a10 a11 a12 a13 a14 a15 a16 x_10 x1 x2 x3 x4 x5 x6 x7 x8 f_7 h_x1 h_x2 h_x3 h_x4 h_x5 h_x6) ⟨gcwB hts tw_1368 tw_1 tw_1365 hd_yX11_worthTogether ⟨Nat.le_of_ble_eq_true rfl, Nat.le_of_ble_eq_true rfl⟩, hts _ tw_1367, hts _ tp_57⟩ ⟨gblind, va_recv hK hPc (ci := 11) (q0 := 0) rfl rfl, (gpreS hPc hK hDc hN).2⟩ rfl rfl hl.1 rfl (lv_room (Nat.le_of_ble_eq_true rfl)) dX11_chosen_87 ⟨Nat.le_of_ble_eq_true rfl, Nat.le_of_ble_eq_true rfl⟩) (fun r_35 u_34 H locs hw_36 hP hD hS => ?_)
                              replace hP : va_P D gcl (zS_103 cB cC cI cJ a0 a1 a2 a3 a4 a5 a6 a7 a8 a9 a10 x1 a11 a12 a13 a11 a14 a15 a16 x2 x3 x4 x5 x6 x7 x8 a14 a17 a17 f0 a15 a18 a19 a20 a21 a22 x9 x10 a20 f1 a21 f2 a22 f_6 a18 f4 a19 f5 a9 f_7 a4 a23 a24 a25 y_16 a25 g_18 a23 a26 a27 a28 a29 a30 a31 a32 x_19 a26 g_21 a28 g_22 a27 g_23 a31 f_24 a32 f_26 a29 f_28 a30 f_29 a24 f_30) H := hP
                              replace hD : va_D A (zS_103 cB cC cI cJ a0 a1 a2 a3 a4 a5 a6 a7 a8 a9 a10 x1 a11 a12 a13 a11 a14 a15 a16 x2 x3 x4 x5 x6 x7 x8 a14 a17 a17 f0 a15 a18 a19 a20 a21 a22 x9 x10 a20 f1 a21 f2 a22 f_6 a18 f4 a19 f5 a9 f_7 a4 a23 a24 a25 y_16 a25 g_18 a23 a26 a27 a28 a29 a30 a31 a32 x_19 a26 g_21 a28 g_22 a27 g_23 a31 f_24 a32 f_26 a29 f_28 a30 f_29 a24 f_30) := hD
                              have hw_37 : ((((-2147483648) ≤ r_35.toInt ∧ r_35.toInt ≤ 2147483647) ∧ ((-1) ≤ x3.toInt ∧ x3.toInt ≤ 5))) := hw_36
                              have rr_35 : zBd r_35.toInt (-2147483648) 2147483647 := n_rng r_35
                              refine lv_istore (pc := 90) (lv' := [(7, .int r_35), (6, .int x_10), (5, .int x_12), (4, .int x_14), (0, .ref a0), (1, .int x0), (2, .long y0)]) hx hb dX11_chosen_90 hl (by decide) rfl (fun ls hl => ?_)
                              refine lv_iload (pc := 92) hx hb dX11_chosen_92 (lv_at hl 1 rfl) ?_
                              refine gd_i (pc := 94) (wc := []) hP hD hS hA [] rfl (by decide +kernel) (fun _ => by rfl) (fun hPc hDc => va_runS (As := [.int x_10]) (rest := []) ⟨hx, hb, hml, hown, hts⟩ (k_J6_bitCount_0f7a4 l D cB cC cI cJ _ x_10) ⟨gcwB hts tw_1371 tw_21 tw_1369 hd_yJ6_bitCount_0f7a4 ⟨Nat.le_of_ble_eq_true rfl, Nat.le_of_ble_eq_true rfl⟩, hts _ tw_1370⟩ (gpreS hPc hK hDc hN) rfl rfl hl.1 rfl (lv_room (Nat.le_of_ble_eq_true rfl)) dX11_chosen_94 ⟨Nat.le_of_ble_eq_true rfl, Nat.le_of_ble_eq_true rfl⟩) (fun r_39 u_38 H locs hw_40 hP hD hS => ?_)
                              replace hP : va_P D gcl (zS_103 cB cC cI cJ a0 a1 a2 a3 a4 a5 a6 a7 a8 a9 a10 x1 a11 a12 a13 a11 a14 a15 a16 x2 x3 x4 x5 x6 x7 x8 a14 a17 a17 f0 a15 a18 a19 a20 a21 a22 x9 x10 a20 f1 a21 f2 a22 f_6 a18 f4 a19 f5 a9 f_7 a4 a23 a24 a25 y_16 a25 g_18 a23 a26 a27 a28 a29 a30 a31 a32 x_19 a26 g_21 a28 g_22 a27 g_23 a31 f_24 a32 f_26 a29 f_28 a30 f_29 a24 f_30) H := hP
                              replace hD : va_D A (zS_103 cB cC cI cJ a0 a1 a2 a3 a4 a5 a6 a7 a8 a9 a10 x1 a11 a12 a13 a11 a14 a15 a16 x2 x3 x4 x5 x6 x7 x8 a14 a17 a17 f0 a15 a18 a19 a20 a21 a22 x9 x10 a20 f1 a21 f2 a22 f_6 a18 f4 a19 f5 a9 f_7 a4 a23 a24 a25 y_16 a25 g_18 a23 a26 a27 a28 a29 a30 a31 a32 x_19 a26 g_21 a28 g_22 a27 g_23 a31 f_24 a32 f_26 a29 f_28 a30 f_29 a24 f_30) := hD
                              have hw_41 : (((0 ≤ r_39.toInt ∧ r_39.toInt ≤ 63))) := hw_40
                              have rr_39 : zBd r_39.toInt (-2147483648) 2147483647 := n_rng r_39
                              refine lv_iload_n (pc := 97) hx hb dX11_chosen_97 rfl (lv_at hl 5 rfl) ?_
                              refine b_icmp_ne (pc := 98) (tgt := 118) hx hb rfl rfl  dX11_chosen_98 (by decide) (fun c_42 => ?_) (fun c_42 => ?_)
                              ·
                                as_aux_lemma =>
                                  refine lv_iconst (pc := 118) (v := 0) hx hb dX11_chosen_118 (by decide) ?_
                                  refine lv_istore (pc := 119) (lv' := [(8, .int 0), (7, .int r_35), (6, .int x_10), (5, .int x_12), (4, .int x_14), (0, .ref a0), (1, .int x0), (2, .long y0)]) hx hb dX11_chosen_119 hl (by decide) rfl (fun ls hl => ?_)
                                  refine lv_iload (pc := 121) hx hb dX11_chosen_121 (lv_at hl 0 rfl) ?_
                                  refine b_if_eq (pc := 123) (tgt := 152) hx hb tI_0  dX11_chosen_123 (by decide) (fun c_43 => ?_) (fun c_43 => absurd c_43 (by first | exact (om_27) | ((first | omega | (unfold zBd at *; omega)))))
                                  refine b_iinc (pc := 152) hx hb dX11_chosen_152 hl (k := 2) rfl rfl tI_1 (by first | exact (om_139 hi_11.1) | ((first | omega | (unfold zBd at *; omega)))) (by first | exact (om_1088 c_33 rx_32.2) | ((first | omega | (unfold zBd at *; omega)))) (by decide) (fun x_44 ex_44 ls hl => ?_)
                                  replace hl : lv_has ls 9 [(6, .int x_44), (8, .int 0), (7, .int r_35), (5, .int x_12), (4, .int x_14), (0, .ref a0), (1, .int x0), (2, .long y0)] := hl
                                  refine lv_goto (pc := 155) (tgt := 70) hx hb dX11_chosen_155 (by decide) ?_
                                  exact ih_lp_31 x_44 x_12 x_14 x_19 y_16 f_24 f_26 f_28 f_29 f_30 g_18 g_21 g_22 g_23 _ _ ls (by first | exact (om_1441 ex_44 hi_11.1 c_33 rx_32.2) | ((first | omega | (unfold zBd at *; omega)))) hi_20 hi_25 hi_27 (by (first | omega | (unfold zBd at *; omega))) hP hD hS (lv_sub hl [0, 3, 4, 5, 6, 7] rfl)
                              ·
                                as_aux_lemma =>
                                  refine lv_iload (pc := 101) hx hb dX11_chosen_101 (lv_at hl 3 rfl) ?_
                                  refine lv_iconst (pc := 103) (v := (-1)) hx hb dX11_chosen_103 (by decide) ?_
                                  refine b_icmp_eq (pc := 104) (tgt := 114) hx hb rfl tI_m1  dX11_chosen_104 (by decide) (fun c_45 => ?_) (fun c_45 => ?_)
                                  ·
                                    as_aux_lemma =>
                                      refine lv_iconst (pc := 114) (v := 1) hx hb dX11_chosen_114 (by decide) ?_
                                      refine lv_goto (pc := 115) (tgt := 119) hx hb dX11_chosen_115 (by decide) ?_
                                      refine lv_istore (pc := 119) (lv' := [(8, .int 1), (7, .int r_35), (6, .int x_10), (5, .int x_12), (4, .int x_14), (0, .ref a0), (1, .int x0), (2, .long y0)]) hx hb dX11_chosen_119 hl (by decide) rfl (fun ls hl => ?_)
                                      refine lv_iload (pc := 121) hx hb dX11_chosen_121 (lv_at hl 0 rfl) ?_
                                      refine b_if_eq (pc := 123) (tgt := 152) hx hb tI_1  dX11_chosen_123 (by decide) (fun c_46 => absurd c_46 (by first | exact (om_26) | ((first | omega | (unfold zBd at *; omega))))) (fun c_46 => ?_)
                                      refine lv_aload_n (pc := 126) hx hb dX11_chosen_126 rfl (lv_at hl 5 rfl) ?_
                                      refine va_get (pc := 127) (ci := 11) (v := .ref a4) (C := RX11) (T := TX11) (N := 14) hx hb hts iX11 hown hK hP 0 rfl rfl 3 (by decide) (hts _ tw_423) (fun _ h9 => h9) rfl dX11_chosen_127 ?_
                                      refine lv_aload_n (pc := 130) hx hb dX11_chosen_130 rfl (lv_at hl 5 rfl) ?_
                                      refine va_get (pc := 131) (ci := 11) (v := .ref a11) (C := RX11) (T := TX11) (N := 14) hx hb hts iX11 hown hK hP 0 rfl rfl 11 (by decide) (hts _ tw_431) (fun _ h9 => h9) rfl dX11_chosen_131 ?_
                                      refine lv_iload (pc := 134) hx hb dX11_chosen_134 (lv_at hl 2 rfl) ?_
                                      as_aux_lemma =>
                                        refine gc_l (pc := 136) (wc := (zS_158 cB cC cI cJ a4 a23 a24 a25 y_16 a25 g_18 a11 a14 a15 a16 x2 x3 x4 x5 x6 x7 x8 a23 a26 a27 a28 a29 a30 a31 a32 x_19 a14 a17 a17 f0 a26 g_21 a28 g_22 a27 g_23 a31 f_24 a32 f_26 a29 f_28 a30 f_29 a24 f_30)) (wr := [(a0, .inr (11, [.ref a1, .ref a2, .ref a3, .ref a4, .ref a5, .ref a6, .ref a7, .ref a8, .ref a9, .ref a10, .int x1, .ref a11, .ref a12, .ref a13])), (a15, .inr (5, [.ref a18, .ref a19, .ref a20, .ref a21, .ref a22, .int x9, .int x10])), (a20, .inl (cI, 8, .inl f1)), (a21, .inl (cI, 8, .inl f2)), (a22, .inl (cI, 64, .inl f_6)), (a18, .inl (cI, 1600, .inl f4)), (a19, .inl (cI, 8, .inl f5)), (a9, .inl (cI, 5, .inl f_7))]) hP hD hS hA [11, 12, 1, 13, 2, 3, 14, 15, 16, 17, 18, 19, 20, 21] [0, 4, 5, 6, 7, 8, 9, 10] rfl rfl (by decide +kernel) (by decide +kernel) (by decide +kernel) (fun hPc hDc => va_runV (As := [.ref a11, .int x_10]) (rest := []) ⟨hx, hb, hml, hown, hts⟩ (k_X6_apartOf l D cB cC cI cJ _ a4 a11 a23 a24 a25 a14 a15 a16 a26 a27 a28 a29 a30 a31 a32 a17 x_10 x2 x3 x4 x5 x6 x7 x8 x_19 y_16 f0 f_24 f_26 f_28 f_29 f_30 g_18 g_21 g_22 g_23 (by first | exact (om_1442 hi_11.1 c_33 ex_32) | ((first | omega | (unfold zBd at *; omega)))) h_x2 h_x3 h_x4 h_x5 h_x6 hi_20 hi_25 hi_27) ⟨gcwB hts tw_1167 tw_9 tw_1164 hd_yX6_apartOf ⟨Nat.le_of_ble_eq_true rfl, Nat.le_of_ble_eq_true rfl⟩, hts _ tw_1165, hts _ tw_1166⟩ ⟨gblind, va_recv hK hPc (ci := 6) (q0 := 0) rfl rfl, (gpreS hPc hK hDc hN).2⟩ rfl rfl hl.1 rfl (lv_room (Nat.le_of_ble_eq_true rfl)) dX11_chosen_136 ⟨Nat.le_of_ble_eq_true rfl, Nat.le_of_ble_eq_true rfl⟩) (fun r_48 u_47 H locs hw_49 hP hD hS => ?_)
                                        replace hP : va_P D gcl (zS_200 cB cC cI cJ a0 a1 a2 a3 a4 a5 a6 a7 a8 a9 a10 x1 a11 a12 a13 a15 a18 a19 a20 a21 a22 x9 x10 a20 f1 a21 f2 a22 f_6 a18 f4 a19 f5 a9 f_7 a4 a23 a24 a25 (u_47.2.2.2.2 0) a25 (u_47.2.2.1 0) a11 a14 a15 a16 x2 x3 x4 x5 x6 x7 x8 a23 a26 a27 a28 a29 a30 a31 a32 (u_47.2.2.2.1 0) a14 a17 a17 f0 a26 (u_47.2.2.1 1) a28 (u_47.2.2.1 2) a27 (u_47.2.2.1 3) a31 (u_47.2.1 0) a32 (u_47.2.1 1) a29 (u_47.2.1 2) a30 (u_47.2.1 3) a24 (u_47.2.1 4)) H := hP
                                        replace hD : va_D A (zS_200 cB cC cI cJ a0 a1 a2 a3 a4 a5 a6 a7 a8 a9 a10 x1 a11 a12 a13 a15 a18 a19 a20 a21 a22 x9 x10 a20 f1 a21 f2 a22 f_6 a18 f4 a19 f5 a9 f_7 a4 a23 a24 a25 (u_47.2.2.2.2 0) a25 (u_47.2.2.1 0) a11 a14 a15 a16 x2 x3 x4 x5 x6 x7 x8 a23 a26 a27 a28 a29 a30 a31 a32 (u_47.2.2.2.1 0) a14 a17 a17 f0 a26 (u_47.2.2.1 1) a28 (u_47.2.2.1 2) a27 (u_47.2.2.1 3) a31 (u_47.2.1 0) a32 (u_47.2.1 1) a29 (u_47.2.1 2) a30 (u_47.2.1 3) a24 (u_47.2.1 4)) := hD
                                        have ru_47_0 := n_rngL (u_47.2.2.2.2 0)
                                        obtain ⟨hw_50, hw_51, hw_52, hw_53⟩ := hw_49
                                        replace hw_50 : (((0 ≤ r_48.toInt ∧ r_48.toInt ≤ 9223372036854775807) ∧ (u_47.2.2.2.1 0).toInt = x_19.toInt) ∨ (((-9223372036854775808) ≤ r_48.toInt ∧ r_48.toInt ≤ 9223372036854775807))) := hw_50
                                        replace hw_51 : zBd (u_47.2.2.2.1 0).toInt 0 4 := hw_51
                                        replace hw_52 : (∀ j, (-3) ≤ ((u_47.2.1 0) j).toInt ∧ ((u_47.2.1 0) j).toInt ≤ 24) := hw_52
                                        replace hw_53 : (∀ j, 0 ≤ ((u_47.2.1 1) j).toInt ∧ ((u_47.2.1 1) j).toInt ≤ 23) := hw_53
                                        have rr_48 := n_rngL r_48
                                        refine lv_lload_n (pc := 139) hx hb dX11_chosen_139 rfl (lv_at hl 7 rfl) ?_
                                        refine b_lcmp_lt (pc := 140) (tgt := 152) hx hb rfl rfl dX11_chosen_140 dX11_chosen_141 (by decide) (fun c_54 => ?_) (fun c_54 => ?_)
                                        ·
                                          as_aux_lemma =>
                                            refine b_iinc (pc := 152) hx hb dX11_chosen_152 hl (k := 2) rfl rfl tI_1 (by first | exact (om_139 hi_11.1) | ((first | omega | (unfold zBd at *; omega)))) (by first | exact (om_1088 c_33 rx_32.2) | ((first | omega | (unfold zBd at *; omega)))) (by decide) (fun x_55 ex_55 ls hl => ?_)
                                            replace hl : lv_has ls 9 [(6, .int x_55), (8, .int 1), (7, .int r_35), (5, .int x_12), (4, .int x_14), (0, .ref a0), (1, .int x0), (2, .long y0)] := hl
                                            refine lv_goto (pc := 155) (tgt := 70) hx hb dX11_chosen_155 (by decide) ?_
                                            exact ih_lp_31 x_55 x_12 x_14 (u_47.2.2.2.1 0) (u_47.2.2.2.2 0) (u_47.2.1 0) (u_47.2.1 1) (u_47.2.1 2) (u_47.2.1 3) (u_47.2.1 4) (u_47.2.2.1 0) (u_47.2.2.1 1) (u_47.2.2.1 2) (u_47.2.2.1 3) _ _ ls (by first | exact (om_1441 ex_55 hi_11.1 c_33 rx_32.2) | ((first | omega | (unfold zBd at *; omega)))) hw_51 hw_52 hw_53 (by (first | omega | (unfold zBd at *; omega))) (g_psub hP [0, 10, 12, 13, 1, 2, 3, 4, 5, 6, 7, 8, 9, 11, 14, 15, 16, 17, 18, 19, 20, 21] rfl) (hD.sub [0, 10, 12, 13, 1, 2, 3, 4, 5, 6, 7, 8, 9, 11, 14, 15, 16, 17, 18, 19, 20, 21] (by decide) rfl) hS (lv_sub hl [0, 3, 4, 5, 6, 7] rfl)
                                        ·
                                          as_aux_lemma =>
                                            refine lv_iload (pc := 144) hx hb dX11_chosen_144 (lv_at hl 2 rfl) ?_
                                            refine lv_istore (pc := 146) (lv' := [(4, .int x_10), (8, .int 1), (7, .int r_35), (6, .int x_10), (5, .int x_12), (0, .ref a0), (1, .int x0), (2, .long y0)]) hx hb dX11_chosen_146 hl (by decide) rfl (fun ls hl => ?_)
                                            refine lv_iload (pc := 148) hx hb dX11_chosen_148 (lv_at hl 2 rfl) ?_
                                            refine lv_istore (pc := 150) (lv' := [(5, .int r_35), (4, .int x_10), (8, .int 1), (7, .int r_35), (6, .int x_10), (0, .ref a0), (1, .int x0), (2, .long y0)]) hx hb dX11_chosen_150 hl (by decide) rfl (fun ls hl => ?_)
                                            refine b_iinc (pc := 152) hx hb dX11_chosen_152 hl (k := 4) rfl rfl tI_1 (by first | exact (om_139 hi_11.1) | ((first | omega | (unfold zBd at *; omega)))) (by first | exact (om_1088 c_33 rx_32.2) | ((first | omega | (unfold zBd at *; omega)))) (by decide) (fun x_56 ex_56 ls hl => ?_)
                                            replace hl : lv_has ls 9 [(6, .int x_56), (5, .int r_35), (4, .int x_10), (8, .int 1), (7, .int r_35), (0, .ref a0), (1, .int x0), (2, .long y0)] := hl
                                            refine lv_goto (pc := 155) (tgt := 70) hx hb dX11_chosen_155 (by decide) ?_
                                            exact ih_lp_31 x_56 r_35 x_10 (u_47.2.2.2.1 0) (u_47.2.2.2.2 0) (u_47.2.1 0) (u_47.2.1 1) (u_47.2.1 2) (u_47.2.1 3) (u_47.2.1 4) (u_47.2.2.1 0) (u_47.2.2.1 1) (u_47.2.2.1 2) (u_47.2.2.1 3) _ _ ls (by first | exact (om_1441 ex_56 hi_11.1 c_33 rx_32.2) | ((first | omega | (unfold zBd at *; omega)))) hw_51 hw_52 hw_53 (by (first | omega | (unfold zBd at *; omega))) (g_psub hP [0, 10, 12, 13, 1, 2, 3, 4, 5, 6, 7, 8, 9, 11, 14, 15, 16, 17, 18, 19, 20, 21] rfl) (hD.sub [0, 10, 12, 13, 1, 2, 3, 4, 5, 6, 7, 8, 9, 11, 14, 15, 16, 17, 18, 19, 20, 21] (by decide) rfl) hS (lv_sub hl [0, 1, 2, 5, 6, 7] rfl)
                                  ·
                                    as_aux_lemma =>
                                      refine lv_iload (pc := 107) hx hb dX11_chosen_107 (lv_at hl 0 rfl) ?_
                                      refine lv_iload (pc := 109) hx hb dX11_chosen_109 (lv_at hl 2 rfl) ?_
                                      refine b_icmp_le (pc := 111) (tgt := 118) hx hb rfl rfl  dX11_chosen_111 (by decide) (fun c_57 => ?_) (fun c_57 => ?_)
                                      ·
                                        as_aux_lemma =>
                                          refine lv_iconst (pc := 118) (v := 0) hx hb dX11_chosen_118 (by decide) ?_
                                          refine lv_istore (pc := 119) (lv' := [(8, .int 0), (7, .int r_35), (6, .int x_10), (5, .int x_12), (4, .int x_14), (0, .ref a0), (1, .int x0), (2, .long y0)]) hx hb dX11_chosen_119 hl (by decide) rfl (fun ls hl => ?_)
                                          refine lv_iload (pc := 121) hx hb dX11_chosen_121 (lv_at hl 0 rfl) ?_
                                          refine b_if_eq (pc := 123) (tgt := 152) hx hb tI_0  dX11_chosen_123 (by decide) (fun c_58 => ?_) (fun c_58 => absurd c_58 (by first | exact (om_27) | ((first | omega | (unfold zBd at *; omega)))))
                                          refine b_iinc (pc := 152) hx hb dX11_chosen_152 hl (k := 2) rfl rfl tI_1 (by first | exact (om_139 hi_11.1) | ((first | omega | (unfold zBd at *; omega)))) (by first | exact (om_1088 c_33 rx_32.2) | ((first | omega | (unfold zBd at *; omega)))) (by decide) (fun x_59 ex_59 ls hl => ?_)
                                          replace hl : lv_has ls 9 [(6, .int x_59), (8, .int 0), (7, .int r_35), (5, .int x_12), (4, .int x_14), (0, .ref a0), (1, .int x0), (2, .long y0)] := hl
                                          refine lv_goto (pc := 155) (tgt := 70) hx hb dX11_chosen_155 (by decide) ?_
                                          exact ih_lp_31 x_59 x_12 x_14 x_19 y_16 f_24 f_26 f_28 f_29 f_30 g_18 g_21 g_22 g_23 _ _ ls (by first | exact (om_1441 ex_59 hi_11.1 c_33 rx_32.2) | ((first | omega | (unfold zBd at *; omega)))) hi_20 hi_25 hi_27 (by (first | omega | (unfold zBd at *; omega))) hP hD hS (lv_sub hl [0, 3, 4, 5, 6, 7] rfl)
                                      ·
                                        as_aux_lemma =>
                                          refine lv_iconst (pc := 114) (v := 1) hx hb dX11_chosen_114 (by decide) ?_
                                          refine lv_goto (pc := 115) (tgt := 119) hx hb dX11_chosen_115 (by decide) ?_
                                          refine lv_istore (pc := 119) (lv' := [(8, .int 1), (7, .int r_35), (6, .int x_10), (5, .int x_12), (4, .int x_14), (0, .ref a0), (1, .int x0), (2, .long y0)]) hx hb dX11_chosen_119 hl (by decide) rfl (fun ls hl => ?_)
                                          refine lv_iload (pc := 121) hx hb dX11_chosen_121 (lv_at hl 0 rfl) ?_
                                          refine b_if_eq (pc := 123) (tgt := 152) hx hb tI_1  dX11_chosen_123 (by decide) (fun c_60 => absurd c_60 (by first | exact (om_26) | ((first | omega | (unfold zBd at *; omega))))) (fun c_60 => ?_)
                                          refine lv_aload_n (pc := 126) hx hb dX11_chosen_126 rfl (lv_at hl 5 rfl) ?_
                                          refine va_get (pc := 127) (ci := 11) (v := .ref a4) (C := RX11) (T := TX11) (N := 14) hx hb hts iX11 hown hK hP 0 rfl rfl 3 (by decide) (hts _ tw_423) (fun _ h9 => h9) rfl dX11_chosen_127 ?_
                                          refine lv_aload_n (pc := 130) hx hb dX11_chosen_130 rfl (lv_at hl 5 rfl) ?_
                                          refine va_get (pc := 131) (ci := 11) (v := .ref a11) (C := RX11) (T := TX11) (N := 14) hx hb hts iX11 hown hK hP 0 rfl rfl 11 (by decide) (hts _ tw_431) (fun _ h9 => h9) rfl dX11_chosen_131 ?_
                                          refine lv_iload (pc := 134) hx hb dX11_chosen_134 (lv_at hl 2 rfl) ?_
                                          as_aux_lemma =>
                                            refine gc_l (pc := 136) (wc := (zS_158 cB cC cI cJ a4 a23 a24 a25 y_16 a25 g_18 a11 a14 a15 a16 x2 x3 x4 x5 x6 x7 x8 a23 a26 a27 a28 a29 a30 a31 a32 x_19 a14 a17 a17 f0 a26 g_21 a28 g_22 a27 g_23 a31 f_24 a32 f_26 a29 f_28 a30 f_29 a24 f_30)) (wr := [(a0, .inr (11, [.ref a1, .ref a2, .ref a3, .ref a4, .ref a5, .ref a6, .ref a7, .ref a8, .ref a9, .ref a10, .int x1, .ref a11, .ref a12, .ref a13])), (a15, .inr (5, [.ref a18, .ref a19, .ref a20, .ref a21, .ref a22, .int x9, .int x10])), (a20, .inl (cI, 8, .inl f1)), (a21, .inl (cI, 8, .inl f2)), (a22, .inl (cI, 64, .inl f_6)), (a18, .inl (cI, 1600, .inl f4)), (a19, .inl (cI, 8, .inl f5)), (a9, .inl (cI, 5, .inl f_7))]) hP hD hS hA [11, 12, 1, 13, 2, 3, 14, 15, 16, 17, 18, 19, 20, 21] [0, 4, 5, 6, 7, 8, 9, 10] rfl rfl (by decide +kernel) (by decide +kernel) (by decide +kernel) (fun hPc hDc => va_runV (As := [.ref a11, .int x_10]) (rest := []) ⟨hx, hb, hml, hown, hts⟩ (k_X6_apartOf l D cB cC cI cJ _ a4 a11 a23 a24 a25 a14 a15 a16 a26 a27 a28 a29 a30 a31 a32 a17 x_10 x2 x3 x4 x5 x6 x7 x8 x_19 y_16 f0 f_24 f_26 f_28 f_29 f_30 g_18 g_21 g_22 g_23 (by first | exact (om_1442 hi_11.1 c_33 ex_32) | ((first | omega | (unfold zBd at *; omega)))) h_x2 h_x3 h_x4 h_x5 h_x6 hi_20 hi_25 hi_27) ⟨gcwB hts tw_1167 tw_9 tw_1164 hd_yX6_apartOf ⟨Nat.le_of_ble_eq_true rfl, Nat.le_of_ble_eq_true rfl⟩, hts _ tw_1165, hts _ tw_1166⟩ ⟨gblind, va_recv hK hPc (ci := 6) (q0 := 0) rfl rfl, (gpreS hPc hK hDc hN).2⟩ rfl rfl hl.1 rfl (lv_room (Nat.le_of_ble_eq_true rfl)) dX11_chosen_136 ⟨Nat.le_of_ble_eq_true rfl, Nat.le_of_ble_eq_true rfl⟩) (fun r_62 u_61 H locs hw_63 hP hD hS => ?_)
                                            replace hP : va_P D gcl (zS_200 cB cC cI cJ a0 a1 a2 a3 a4 a5 a6 a7 a8 a9 a10 x1 a11 a12 a13 a15 a18 a19 a20 a21 a22 x9 x10 a20 f1 a21 f2 a22 f_6 a18 f4 a19 f5 a9 f_7 a4 a23 a24 a25 (u_61.2.2.2.2 0) a25 (u_61.2.2.1 0) a11 a14 a15 a16 x2 x3 x4 x5 x6 x7 x8 a23 a26 a27 a28 a29 a30 a31 a32 (u_61.2.2.2.1 0) a14 a17 a17 f0 a26 (u_61.2.2.1 1) a28 (u_61.2.2.1 2) a27 (u_61.2.2.1 3) a31 (u_61.2.1 0) a32 (u_61.2.1 1) a29 (u_61.2.1 2) a30 (u_61.2.1 3) a24 (u_61.2.1 4)) H := hP
                                            replace hD : va_D A (zS_200 cB cC cI cJ a0 a1 a2 a3 a4 a5 a6 a7 a8 a9 a10 x1 a11 a12 a13 a15 a18 a19 a20 a21 a22 x9 x10 a20 f1 a21 f2 a22 f_6 a18 f4 a19 f5 a9 f_7 a4 a23 a24 a25 (u_61.2.2.2.2 0) a25 (u_61.2.2.1 0) a11 a14 a15 a16 x2 x3 x4 x5 x6 x7 x8 a23 a26 a27 a28 a29 a30 a31 a32 (u_61.2.2.2.1 0) a14 a17 a17 f0 a26 (u_61.2.2.1 1) a28 (u_61.2.2.1 2) a27 (u_61.2.2.1 3) a31 (u_61.2.1 0) a32 (u_61.2.1 1) a29 (u_61.2.1 2) a30 (u_61.2.1 3) a24 (u_61.2.1 4)) := hD
                                            have ru_61_0 := n_rngL (u_61.2.2.2.2 0)
                                            obtain ⟨hw_64, hw_65, hw_66, hw_67⟩ := hw_63
                                            replace hw_64 : (((0 ≤ r_62.toInt ∧ r_62.toInt ≤ 9223372036854775807) ∧ (u_61.2.2.2.1 0).toInt = x_19.toInt) ∨ (((-9223372036854775808) ≤ r_62.toInt ∧ r_62.toInt ≤ 9223372036854775807))) := hw_64
                                            replace hw_65 : zBd (u_61.2.2.2.1 0).toInt 0 4 := hw_65
                                            replace hw_66 : (∀ j, (-3) ≤ ((u_61.2.1 0) j).toInt ∧ ((u_61.2.1 0) j).toInt ≤ 24) := hw_66
                                            replace hw_67 : (∀ j, 0 ≤ ((u_61.2.1 1) j).toInt ∧ ((u_61.2.1 1) j).toInt ≤ 23) := hw_67
                                            have rr_62 := n_rngL r_62
                                            refine lv_lload_n (pc := 139) hx hb dX11_chosen_139 rfl (lv_at hl 7 rfl) ?_
                                            refine b_lcmp_lt (pc := 140) (tgt := 152) hx hb rfl rfl dX11_chosen_140 dX11_chosen_141 (by decide) (fun c_68 => ?_) (fun c_68 => ?_)
                                            ·
                                              as_aux_lemma =>
                                                refine b_iinc (pc := 152) hx hb dX11_chosen_152 hl (k := 2) rfl rfl tI_1 (by first | exact (om_139 hi_11.1) | ((first | omega | (unfold zBd at *; omega)))) (by first | exact (om_1088 c_33 rx_32.2) | ((first | omega | (unfold zBd at *; omega)))) (by decide) (fun x_69 ex_69 ls hl => ?_)
                                                replace hl : lv_has ls 9 [(6, .int x_69), (8, .int 1), (7, .int r_35), (5, .int x_12), (4, .int x_14), (0, .ref a0), (1, .int x0), (2, .long y0)] := hl
                                                refine lv_goto (pc := 155) (tgt := 70) hx hb dX11_chosen_155 (by decide) ?_
                                                exact ih_lp_31 x_69 x_12 x_14 (u_61.2.2.2.1 0) (u_61.2.2.2.2 0) (u_61.2.1 0) (u_61.2.1 1) (u_61.2.1 2) (u_61.2.1 3) (u_61.2.1 4) (u_61.2.2.1 0) (u_61.2.2.1 1) (u_61.2.2.1 2) (u_61.2.2.1 3) _ _ ls (by first | exact (om_1441 ex_69 hi_11.1 c_33 rx_32.2) | ((first | omega | (unfold zBd at *; omega)))) hw_65 hw_66 hw_67 (by (first | omega | (unfold zBd at *; omega))) (g_psub hP [0, 10, 12, 13, 1, 2, 3, 4, 5, 6, 7, 8, 9, 11, 14, 15, 16, 17, 18, 19, 20, 21] rfl) (hD.sub [0, 10, 12, 13, 1, 2, 3, 4, 5, 6, 7, 8, 9, 11, 14, 15, 16, 17, 18, 19, 20, 21] (by decide) rfl) hS (lv_sub hl [0, 3, 4, 5, 6, 7] rfl)
                                            ·
                                              as_aux_lemma =>
                                                refine lv_iload (pc := 144) hx hb dX11_chosen_144 (lv_at hl 2 rfl) ?_
                                                refine lv_istore (pc := 146) (lv' := [(4, .int x_10), (8, .int 1), (7, .int r_35), (6, .int x_10), (5, .int x_12), (0, .ref a0), (1, .int x0), (2, .long y0)]) hx hb dX11_chosen_146 hl (by decide) rfl (fun ls hl => ?_)
                                                refine lv_iload (pc := 148) hx hb dX11_chosen_148 (lv_at hl 2 rfl) ?_
                                                refine lv_istore (pc := 150) (lv' := [(5, .int r_35), (4, .int x_10), (8, .int 1), (7, .int r_35), (6, .int x_10), (0, .ref a0), (1, .int x0), (2, .long y0)]) hx hb dX11_chosen_150 hl (by decide) rfl (fun ls hl => ?_)
                                                refine b_iinc (pc := 152) hx hb dX11_chosen_152 hl (k := 4) rfl rfl tI_1 (by first | exact (om_139 hi_11.1) | ((first | omega | (unfold zBd at *; omega)))) (by first | exact (om_1088 c_33 rx_32.2) | ((first | omega | (unfold zBd at *; omega)))) (by decide) (fun x_70 ex_70 ls hl => ?_)
                                                replace hl : lv_has ls 9 [(6, .int x_70), (5, .int r_35), (4, .int x_10), (8, .int 1), (7, .int r_35), (0, .ref a0), (1, .int x0), (2, .long y0)] := hl
                                                refine lv_goto (pc := 155) (tgt := 70) hx hb dX11_chosen_155 (by decide) ?_
                                                exact ih_lp_31 x_70 r_35 x_10 (u_61.2.2.2.1 0) (u_61.2.2.2.2 0) (u_61.2.1 0) (u_61.2.1 1) (u_61.2.1 2) (u_61.2.1 3) (u_61.2.1 4) (u_61.2.2.1 0) (u_61.2.2.1 1) (u_61.2.2.1 2) (u_61.2.2.1 3) _ _ ls (by first | exact (om_1441 ex_70 hi_11.1 c_33 rx_32.2) | ((first | omega | (unfold zBd at *; omega)))) hw_65 hw_66 hw_67 (by (first | omega | (unfold zBd at *; omega))) (g_psub hP [0, 10, 12, 13, 1, 2, 3, 4, 5, 6, 7, 8, 9, 11, 14, 15, 16, 17, 18, 19, 20, 21] rfl) (hD.sub [0, 10, 12, 13, 1, 2, 3, 4, 5, 6, 7, 8, 9, 11, 14, 15, 16, 17, 18, 19, 20, 21] (by decide) rfl) hS (lv_sub hl [0, 1, 2, 5, 6, 7] rfl)
                      exact lp_31 _ 1 0 (-1) x11 y1 f7 f8 f9 f10 f11 g0 g1 g2 g3 _ _ ls (n_c tI_1 (by decide)) h_x11 hf_f7 hf_f8 (Nat.lt_succ_self _) hP hD hS (lv_sub hl [0, 1, 2, 3, 4, 5] rfl)
                  ·
                    as_aux_lemma =>
                      refine lv_aload_n (pc := 39) hx hb dX11_chosen_39 rfl (lv_at hl 1 rfl) ?_
                      refine va_get (pc := 40) (ci := 11) (v := .ref a9) (C := RX11) (T := TX11) (N := 14) hx hb hts iX11 hown hK hP 0 rfl rfl 8 (by decide) (hts _ tw_428) (fun _ h9 => h9) rfl dX11_chosen_40 ?_
                      refine lv_iload (pc := 43) hx hb dX11_chosen_43 (lv_at hl 0 rfl) ?_
                      refine lv_aload_n (pc := 45) hx hb dX11_chosen_45 rfl (lv_at hl 1 rfl) ?_
                      refine va_get (pc := 46) (ci := 11) (v := .ref a11) (C := RX11) (T := TX11) (N := 14) hx hb hts iX11 hown hK hP 0 rfl rfl 11 (by decide) (hts _ tw_431) (fun _ h9 => h9) rfl dX11_chosen_46 ?_
                      refine lv_iload (pc := 49) hx hb dX11_chosen_49 (lv_at hl 0 rfl) ?_
                      refine gc_i (pc := 51) (wc := (zS_137 cB cC cI cJ a11 a14 a15 a16 x2 x3 x4 x5 x6 x7 x8 a14 a17 a17 f0 a15 a18 a19 a20 a21 a22 x9 x10 a20 f1 a21 f2 a22 f_6 a18 f4 a19 f5)) (wr := [(a0, .inr (11, [.ref a1, .ref a2, .ref a3, .ref a4, .ref a5, .ref a6, .ref a7, .ref a8, .ref a9, .ref a10, .int x1, .ref a11, .ref a12, .ref a13])), (a9, .inl (cI, 5, .inl f_7)), (a4, .inr (6, [.ref a23, .ref a24, .ref a25, .long y1])), (a25, .inl (cJ, 32, .inr (.inl g0))), (a23, .inr (10, [.ref a26, .ref a27, .ref a28, .ref a29, .ref a30, .ref a31, .ref a32, .int x11])), (a26, .inl (cJ, 25, .inr (.inl g1))), (a28, .inl (cJ, 25, .inr (.inl g2))), (a27, .inl (cJ, 5, .inr (.inl g3))), (a31, .inl (cI, 5, .inl f7)), (a32, .inl (cI, 5, .inl f8)), (a29, .inl (cI, 5, .inl f9)), (a30, .inl (cI, 5, .inl f10)), (a24, .inl (cI, 5, .inl f11))]) hP hD hS hA [1, 2, 3, 4, 5, 6, 7, 8, 9] [0, 10, 11, 12, 13, 14, 15, 16, 17, 18, 19, 20, 21] rfl rfl (by decide +kernel) (by decide +kernel) (by decide +kernel) (fun hPc hDc => va_runV (As := [.int x_4]) (rest := [.int x_4, .ref a9]) ⟨hx, hb, hml, hown, hts⟩ (k_X1_worthOf l D cB cC cI cJ _ a11 a14 a15 a16 a17 a18 a19 a20 a21 a22 x_4 x2 x3 x4 x5 x6 x7 x8 x9 x10 f0 f1 f2 f_6 f4 f5 (by first | exact (om_360 hi_5.1 c_9 h_x3.2) | ((first | omega | (unfold zBd at *; omega)))) h_x2 h_x3 h_x4 h_x5 h_x6 h_x9 h_x10 hf_f1 hf_f2 hf_f5) ⟨gcwB hts tw_1325 tw_4 tw_1322 hd_yX1_worthOf ⟨Nat.le_of_ble_eq_true rfl, Nat.le_of_ble_eq_true rfl⟩, hts _ tw_1323, hts _ tw_1324⟩ ⟨gblind, va_recv hK hPc (ci := 1) (q0 := 0) rfl rfl, (gpreS hPc hK hDc hN).2⟩ rfl rfl hl.1 rfl (lv_room (Nat.le_of_ble_eq_true rfl)) dX11_chosen_51 ⟨Nat.le_of_ble_eq_true rfl, Nat.le_of_ble_eq_true rfl⟩) (fun r_72 u_71 H locs hw_73 hP hD hS => ?_)
                      replace hP : va_P D gcl (zS_201 cB cC cI cJ a0 a1 a2 a3 a4 a5 a6 a7 a8 a9 a10 x1 a11 a12 a13 a9 f_7 a4 a23 a24 a25 y1 a25 g0 a23 a26 a27 a28 a29 a30 a31 a32 x11 a26 g1 a28 g2 a27 g3 a31 f7 a32 f8 a29 f9 a30 f10 a24 f11 a11 a14 a15 a16 x2 x3 x4 x5 x6 x7 x8 a14 a17 a17 f0 a15 a18 a19 a20 a21 a22 x9 x10 a20 f1 a21 f2 a22 (u_71.2.1 0) a18 f4 a19 f5) H := hP
                      replace hD : va_D A (zS_201 cB cC cI cJ a0 a1 a2 a3 a4 a5 a6 a7 a8 a9 a10 x1 a11 a12 a13 a9 f_7 a4 a23 a24 a25 y1 a25 g0 a23 a26 a27 a28 a29 a30 a31 a32 x11 a26 g1 a28 g2 a27 g3 a31 f7 a32 f8 a29 f9 a30 f10 a24 f11 a11 a14 a15 a16 x2 x3 x4 x5 x6 x7 x8 a14 a17 a17 f0 a15 a18 a19 a20 a21 a22 x9 x10 a20 f1 a21 f2 a22 (u_71.2.1 0) a18 f4 a19 f5) := hD
                      have hw_74 : ((((-2147483648) ≤ r_72.toInt ∧ r_72.toInt ≤ 2147483647))) := hw_73
                      have rr_72 : zBd r_72.toInt (-2147483648) 2147483647 := n_rng r_72
                      refine g_iastore (pc := 54) hx hb hK hP hD hS 1 2 rfl rfl (n_in rfl (by first | exact (om_0 hi_5.1) | ((first | omega | (unfold zBd at *; omega)))) (by first | exact (om_1021 c_9 h_x3.2) | ((first | omega | (unfold zBd at *; omega))))) dX11_chosen_54 (fun f_75 H locs hP hD hS => ?_)
                      replace hP : va_P D gcl (zS_201 cB cC cI cJ a0 a1 a2 a3 a4 a5 a6 a7 a8 a9 a10 x1 a11 a12 a13 a9 f_75 a4 a23 a24 a25 y1 a25 g0 a23 a26 a27 a28 a29 a30 a31 a32 x11 a26 g1 a28 g2 a27 g3 a31 f7 a32 f8 a29 f9 a30 f10 a24 f11 a11 a14 a15 a16 x2 x3 x4 x5 x6 x7 x8 a14 a17 a17 f0 a15 a18 a19 a20 a21 a22 x9 x10 a20 f1 a21 f2 a22 (u_71.2.1 0) a18 f4 a19 f5) H := hP
                      replace hD : va_D A (zS_201 cB cC cI cJ a0 a1 a2 a3 a4 a5 a6 a7 a8 a9 a10 x1 a11 a12 a13 a9 f_75 a4 a23 a24 a25 y1 a25 g0 a23 a26 a27 a28 a29 a30 a31 a32 x11 a26 g1 a28 g2 a27 g3 a31 f7 a32 f8 a29 f9 a30 f10 a24 f11 a11 a14 a15 a16 x2 x3 x4 x5 x6 x7 x8 a14 a17 a17 f0 a15 a18 a19 a20 a21 a22 x9 x10 a20 f1 a21 f2 a22 (u_71.2.1 0) a18 f4 a19 f5) := hD
                      refine b_iinc (pc := 55) hx hb dX11_chosen_55 hl (k := 0) rfl rfl tI_1 (by first | exact (om_2 hi_5.1) | ((first | omega | (unfold zBd at *; omega)))) (by first | exact (om_338 c_9 h_x3.2) | ((first | omega | (unfold zBd at *; omega)))) (by decide) (fun x_76 ex_76 ls hl => ?_)
                      replace hl : lv_has ls 9 [(4, .int x_76), (0, .ref a0), (1, .int x0), (2, .long y0)] := hl
                      refine lv_goto (pc := 58) (tgt := 27) hx hb dX11_chosen_58 (by decide) ?_
                      exact ih_lp_8 x_76 (u_71.2.1 0) f_75 _ _ ls (by first | exact (om_339 ex_76 hi_5.1 c_9 h_x3.2) | ((first | omega | (unfold zBd at *; omega)))) (by (first | omega | (unfold zBd at *; omega))) (g_psub hP [0, 13, 14, 15, 16, 17, 18, 19, 20, 21, 1, 2, 3, 4, 5, 6, 7, 8, 9, 10, 11, 12] rfl) (hD.sub [0, 13, 14, 15, 16, 17, 18, 19, 20, 21, 1, 2, 3, 4, 5, 6, 7, 8, 9, 10, 11, 12] (by decide) rfl) hS (lv_sub hl [0, 1, 2, 3] rfl)
              exact lp_8 _ 0 f3 f6 _ _ ls (n_c tI_0 (by decide)) (Nat.lt_succ_self _) hP hD hS (lv_sub hl [0, 1, 2, 3] rfl)
          ·
            as_aux_lemma =>
              refine lv_iconst (pc := 22) (v := (-1)) hx hb dX11_chosen_22 (by decide) ?_
              exact hret (-1) ((fun _ => 0), (fun k => [f3, f6, f7, f8, f9, f10, f11].getD k (fun _ => 0)), (fun k => [g0, g1, g2, g3].getD k (fun _ => 0)), (fun k => [x11].getD k 0), (fun k => [y1].getD k 0)) dX11_chosen_23 ⟨(show ((((-1) : Int32).toInt = (-1) ∧ x0.toInt < 1) ∨ (((-1) : Int32).toInt = (-1) ∧ x0.toInt ≥ 1 ∧ x0.toInt > x3.toInt) ∨ (((-2147483648) ≤ ((-1) : Int32).toInt ∧ ((-1) : Int32).toInt ≤ 2147483647) ∧ x0.toInt ≥ 1 ∧ x0.toInt ≤ x3.toInt ∧ y0.toInt ≥ 0 ∧ (1 ≤ x3.toInt ∧ x3.toInt ≤ 5)) ∨ (((-1) : Int32).toInt = (-1) ∧ x0.toInt ≥ 1 ∧ x0.toInt ≤ x3.toInt ∧ y0.toInt < 0)) from (by have k9 := tI_m1; (first | omega | (unfold zBd at *; omega)))), (show (0 ≤ (x11 : Int32).toInt ∧ (x11 : Int32).toInt ≤ 4) from h_x11), hf_f7, hf_f8⟩ (g_psub (wc := (zS_103 cB cC cI cJ a0 a1 a2 a3 a4 a5 a6 a7 a8 a9 a10 x1 a11 a12 a13 a11 a14 a15 a16 x2 x3 x4 x5 x6 x7 x8 a14 a17 a17 f0 a15 a18 a19 a20 a21 a22 x9 x10 a20 f1 a21 f2 a22 f3 a18 f4 a19 f5 a9 f6 a4 a23 a24 a25 y1 a25 g0 a23 a26 a27 a28 a29 a30 a31 a32 x11 a26 g1 a28 g2 a27 g3 a31 f7 a32 f8 a29 f9 a30 f10 a24 f11)) hP [0, 1, 2, 3, 4, 5, 6, 7, 8, 9, 10, 11, 12, 13, 14, 15, 16, 17, 18, 19, 20, 21] rfl) (hD.sub (ws' := (zS_103 cB cC cI cJ a0 a1 a2 a3 a4 a5 a6 a7 a8 a9 a10 x1 a11 a12 a13 a11 a14 a15 a16 x2 x3 x4 x5 x6 x7 x8 a14 a17 a17 f0 a15 a18 a19 a20 a21 a22 x9 x10 a20 f1 a21 f2 a22 f3 a18 f4 a19 f5 a9 f6 a4 a23 a24 a25 y1 a25 g0 a23 a26 a27 a28 a29 a30 a31 a32 x11 a26 g1 a28 g2 a27 g3 a31 f7 a32 f8 a29 f9 a30 f10 a24 f11)) [0, 1, 2, 3, 4, 5, 6, 7, 8, 9, 10, 11, 12, 13, 14, 15, 16, 17, 18, 19, 20, 21] (by decide) rfl) hS
