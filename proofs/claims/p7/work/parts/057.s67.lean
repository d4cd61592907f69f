set_option maxHeartbeats 4000000 in
set_option maxRecDepth 100000 in
theorem k_X12_put (l : Launch) (D : va_G) (cB cC cI cJ : ClassId) (sz : Nat) (a0 a1 a2 a3 a4 a5 a6 a7 a8 a9 a10 a11 a12 a13 a14 a15 a16 a17 a18 a19 a20 a21 a22 a23 a24 a25 a26 a27 a28 a29 a30 a31 a32 a33 a34 a35 a36 a37 a38 a39 a40 a41 a42 a43 : Nat) (x0 x1 x2 x3 x4 x5 x6 x7 x8 x9 x10 x11 x12 x13 x14 x15 x16 x17 x18 x19 x20 x21 x22 x23 x24 x25 x26 x27 x28 : Int32) (y0 y1 : Int64) (f0 : Nat → Int32) (h_x1 : zBd x1.toInt 0 1600) (h_x2 : zBd x2.toInt 0 1600) (h_x3 : zBd x3.toInt 0 1600) (h_x4 : zBd x4.toInt (-1) 1600) (h_x5 : zBd x5.toInt 0 4) (h_x6 : zBd x6.toInt (-1) 1600) (h_x9 : zBd x9.toInt 0 8) (h_x10 : zBd x10.toInt 0 5) (h_x11 : zBd x11.toInt 0 6) (h_x12 : zBd x12.toInt 0 6) (h_x13 : zBd x13.toInt 0 16) (h_x15 : zBd x15.toInt 0 60) (h_x16 : zBd x16.toInt 0 1600) (h_x17 : zBd x17.toInt 0 1700) (h_x19 : zBd x19.toInt 0 1700) (h_x20 : zBd x20.toInt 0 1700) (h_x21 : zBd x21.toInt 0 200) (h_x22 : zBd x22.toInt 0 40) (h_x23 : zBd x23.toInt 0 40) (h_x24 : zBd x24.toInt 0 1) (h_x25 : zBd x25.toInt 0 14) (h_x26 : zBd x26.toInt 0 200) (h_x27 : zBd x27.toInt 0 40) (h_x28 : zBd x28.toInt 0 40) (hr_a0_0 : (x22.toInt ≤ x21.toInt)) (hr_a0_1 : (x21.toInt + x23.toInt ≤ 200)) (hr_a0_2 : (x10.toInt = 0 ∨ 2 ≤ x9.toInt)) : Met l yX12_put (.code yX12_put cX12_put 2 (some .int) :: lw_gd) ({ frames := 2, cells := 0, slots := 0, locals := 46 }) (gPre D [(cB, .byte), (cC, .char), (cI, .int), (cJ, .long)] [.ref a0, .int x0] (zS_33 cB cC cI cJ a0 a1 x1 x2 x3 x4 x5 x6 x7 x8 a2 a3 a4 a5 a6 a7 a8 a9 a10 a11 a12 a13 a14 a15 a16 x9 x10 x11 x12 x13 x14 a17 a18 a19 x15 a20 x16 a21 x17 x18 a22 a23 a24 a25 x19 a26 x20 a27 a28 a29 y0 a30 a31 a32 a33 a34 a35 a36 a37 a38 x21 x22 x23 y1 a39 x24 a40 a41 a42 a43 x25 x26 x27 x28 a40 f0) sz) (va_Qi (fun r u => ((r.toInt = (-1000000000)) ∨ (r.toInt = (-1000000000) ∧ x24.toInt = 0) ∨ (((-2147483648) ≤ r.toInt ∧ r.toInt ≤ 2147483647) ∧ ¬ x24.toInt = 0))) (gB D (va_A (zS_33 cB cC cI cJ a0 a1 x1 x2 x3 x4 x5 x6 x7 x8 a2 a3 a4 a5 a6 a7 a8 a9 a10 a11 a12 a13 a14 a15 a16 x9 x10 x11 x12 x13 x14 a17 a18 a19 x15 a20 x16 a21 x17 x18 a22 a23 a24 a25 x19 a26 x20 a27 a28 a29 y0 a30 a31 a32 a33 a34 a35 a36 a37 a38 x21 x22 x23 y1 a39 x24 a40 a41 a42 a43 x25 x26 x27 x28 a40 f0) sz) (fun u : gEx => (zS_33 cB cC cI cJ a0 a1 x1 x2 x3 x4 x5 x6 x7 x8 a2 a3 a4 a5 a6 a7 a8 a9 a10 a11 a12 a13 a14 a15 a16 x9 x10 x11 x12 x13 x14 a17 a18 a19 x15 a20 x16 a21 x17 x18 a22 a23 a24 a25 x19 a26 x20 a27 a28 a29 y0 a30 a31 a32 a33 a34 a35 a36 a37 a38 x21 x22 x23 y1 a39 x24 a40 a41 a42 a43 x25 x26 x27 x28 a40 f0))) (va_A (zS_33 cB cC cI cJ a0 a1 x1 x2 x3 x4 x5 x6 x7 x8 a2 a3 a4 a5 a6 a7 a8 a9 a10 a11 a12 a13 a14 a15 a16 x9 x10 x11 x12 x13 x14 a17 a18 a19 x15 a20 x16 a21 x17 x18 a22 a23 a24 a25 x19 a26 x20 a27 a28 a29 y0 a30 a31 a32 a33 a34 a35 a36 a37 a38 x21 x22 x23 y1 a39 x24 a40 a41 a42 a43 x25 x26 x27 x28 a40 f0) sz)) 0 0 (va_A (zS_33 cB cC cI cJ a0 a1 x1 x2 x3 x4 x5 x6 x7 x8 a2 a3 a4 a5 a6 a7 a8 a9 a10 a11 a12 a13 a14 a15 a16 x9 x10 x11 x12 x13 x14 a17 a18 a19 x15 a20 x16 a21 x17 x18 a22 a23 a24 a25 x19 a26 x20 a27 a28 a29 y0 a30 a31 a32 a33 a34 a35 a36 a37 a38 x21 x22 x23 y1 a39 x24 a40 a41 a42 a43 x25 x26 x27 x28 a40 f0) sz) := by
  refine gOf_i (by decide +kernel) (Nat.le_of_ble_eq_true rfl) ?_
  intro p e s m args below meth c ls A Q hx hb hts hown hml hN hK hP hD hA hl hret
  replace hown : s.vm.findClass RX12 = some m.cls := hown
  have hS : va_S A s.heap s.heap [] := va_S.rf
  replace hP : va_P D gcl (zS_33 cB cC cI cJ a0 a1 x1 x2 x3 x4 x5 x6 x7 x8 a2 a3 a4 a5 a6 a7 a8 a9 a10 a11 a12 a13 a14 a15 a16 x9 x10 x11 x12 x13 x14 a17 a18 a19 x15 a20 x16 a21 x17 x18 a22 a23 a24 a25 x19 a26 x20 a27 a28 a29 y0 a30 a31 a32 a33 a34 a35 a36 a37 a38 x21 x22 x23 y1 a39 x24 a40 a41 a42 a43 x25 x26 x27 x28 a40 f0) s.heap := hP
  replace hl : lv_has ls 2 [(0, .ref a0), (1, .int x0)] := hl
  have rx0 : zBd x0.toInt (-2147483648) 2147483647 := n_rng x0
  have rx7 : zBd x7.toInt (-2147483648) 2147483647 := n_rng x7
  have rx8 : zBd x8.toInt (-2147483648) 2147483647 := n_rng x8
  have rx14 : zBd x14.toInt (-2147483648) 2147483647 := n_rng x14
  have rx18 : zBd x18.toInt (-2147483648) 2147483647 := n_rng x18
  have ry0 := n_rngL y0
  have ry1 := n_rngL y1
  refine lv_aload_n (pc := 0) hx hb dX12_put_0 rfl (lv_at hl 0 rfl) ?_
  refine lv_iload_n (pc := 1) hx hb dX12_put_1 rfl (lv_at hl 1 rfl) ?_
  refine gd_i (pc := 2) (wc := (zS_4 cB cC cI cJ a0 a1 x1 x2 x3 x4 x5 x6 x7 x8 a2 a3 a4 a5 a6 a7 a8 a9 a10 a11 a12 a13 a14 a15 a16 x9 x10 x11 x12 x13 x14 a17 a18 a19 x15 a20 x16 a21 x17 x18 a22 a23 a24 a25 x19 a26 x20 a27 a28 a29 y0 a30 a31 a32 a33 a34 a35 a36 a37 a38 x21 x22 x23 y1 a39 x24 a40 a41 a42 a43 x25 x26 x27 x28)) hP hD hS hA [0] rfl (by decide +kernel) (fun _ => by rfl) (fun hPc hDc => va_runV (As := [.int x0]) (rest := []) ⟨hx, hb, hml, hown, hts⟩ (k_X12_isSender l D cB cC cI cJ _ a0 a1 a2 a3 a4 a5 a6 a7 a8 a9 a10 a11 a12 a13 a14 a15 a16 a17 a18 a19 a20 a21 a22 a23 a24 a25 a26 a27 a28 a29 a30 a31 a32 a33 a34 a35 a36 a37 a38 a39 a40 a41 a42 a43 x0 x1 x2 x3 x4 x5 x6 x7 x8 x9 x10 x11 x12 x13 x14 x15 x16 x17 x18 x19 x20 x21 x22 x23 x24 x25 x26 x27 x28 y0 y1 h_x1 h_x2 h_x3 h_x4 h_x5 h_x6 h_x9 h_x10 h_x11 h_x12 h_x13 h_x15 h_x16 h_x17 h_x19 h_x20 h_x21 h_x22 h_x23 h_x24 h_x25 h_x26 h_x27 h_x28 hr_a0_0 hr_a0_1 hr_a0_2) ⟨gcwB hts tw_1782 tw_14 tw_1779 hd_yX12_isSender ⟨Nat.le_of_ble_eq_true rfl, Nat.le_of_ble_eq_true rfl⟩, hts _ tw_1781, hts _ tp_90⟩ ⟨gblind, va_recv hK hPc (ci := 12) (q0 := 0) rfl rfl, (gpreS hPc hK hDc hN).2⟩ rfl rfl hl.1 rfl (lv_room (Nat.le_of_ble_eq_true rfl)) dX12_put_2 ⟨Nat.le_of_ble_eq_true rfl, Nat.le_of_ble_eq_true rfl⟩) (fun r_2 u_1 H locs hw_3 hP hD hS => ?_)
  replace hP : va_P D gcl (zS_33 cB cC cI cJ a0 a1 x1 x2 x3 x4 x5 x6 x7 x8 a2 a3 a4 a5 a6 a7 a8 a9 a10 a11 a12 a13 a14 a15 a16 x9 x10 x11 x12 x13 x14 a17 a18 a19 x15 a20 x16 a21 x17 x18 a22 a23 a24 a25 x19 a26 x20 a27 a28 a29 y0 a30 a31 a32 a33 a34 a35 a36 a37 a38 x21 x22 x23 y1 a39 x24 a40 a41 a42 a43 x25 x26 x27 x28 a40 f0) H := hP
  replace hD : va_D A (zS_33 cB cC cI cJ a0 a1 x1 x2 x3 x4 x5 x6 x7 x8 a2 a3 a4 a5 a6 a7 a8 a9 a10 a11 a12 a13 a14 a15 a16 x9 x10 x11 x12 x13 x14 a17 a18 a19 x15 a20 x16 a21 x17 x18 a22 a23 a24 a25 x19 a26 x20 a27 a28 a29 y0 a30 a31 a32 a33 a34 a35 a36 a37 a38 x21 x22 x23 y1 a39 x24 a40 a41 a42 a43 x25 x26 x27 x28 a40 f0) := hD
  obtain ⟨hw_4, hw_5, hw_6⟩ := hw_3
  replace hw_4 : (0 ≤ r_2.toInt ∧ r_2.toInt ≤ 1) := hw_4
  replace hw_5 : (-x0.toInt ≤ 4294967296 - 4294967296 * r_2.toInt ∧ x0.toInt ≤ x10.toInt - 1 + 4294967296 - 4294967296 * r_2.toInt) := hw_5
  replace hw_6 : (inQ r_2.toInt x0.toInt x10.toInt) := hw_6
  have rr_2 : zBd r_2.toInt (-2147483648) 2147483647 := n_rng r_2
  refine b_if_eq (pc := 5) (tgt := 24) hx hb rfl  dX12_put_5 (by decide) (fun c_7 => ?_) (fun c_7 => ?_)
  ·
    as_aux_lemma =>
      refine lv_ldcw (pc := 24) hx hb hown (hts _ tw_1783) dX12_put_24 ?_
      have hP9 : va_P D gcl (zS_33 cB cC cI cJ a0 a1 x1 x2 x3 x4 x5 x6 x7 x8 a2 a3 a4 a5 a6 a7 a8 a9 a10 a11 a12 a13 a14 a15 a16 x9 x10 x11 x12 x13 x14 a17 a18 a19 x15 a20 x16 a21 x17 x18 a22 a23 a24 a25 x19 a26 x20 a27 a28 a29 y0 a30 a31 a32 a33 a34 a35 a36 a37 a38 x21 x22 x23 y1 a39 x24 a40 a41 a42 a43 x25 x26 x27 x28 a40 f0) H := g_psub hP [0, 1] rfl
      have hD9 : va_D A (zS_33 cB cC cI cJ a0 a1 x1 x2 x3 x4 x5 x6 x7 x8 a2 a3 a4 a5 a6 a7 a8 a9 a10 a11 a12 a13 a14 a15 a16 x9 x10 x11 x12 x13 x14 a17 a18 a19 x15 a20 x16 a21 x17 x18 a22 a23 a24 a25 x19 a26 x20 a27 a28 a29 y0 a30 a31 a32 a33 a34 a35 a36 a37 a38 x21 x22 x23 y1 a39 x24 a40 a41 a42 a43 x25 x26 x27 x28 a40 f0) := hD.sub [0, 1] (by decide) rfl
      exact hret (-1000000000) ((fun _ => 0), (fun _ => (fun _ => 0)), (fun _ => (fun _ => 0)), (fun _ => 0), (fun _ => 0)) dX12_put_27 (show ((((-1000000000) : Int32).toInt = (-1000000000)) ∨ (((-1000000000) : Int32).toInt = (-1000000000) ∧ x24.toInt = 0) ∨ (((-2147483648) ≤ ((-1000000000) : Int32).toInt ∧ ((-1000000000) : Int32).toInt ≤ 2147483647) ∧ ¬ x24.toInt = 0)) from (by first | exact (om_1437 tI_m1000000000) | (have k9 := tI_m1000000000; (first | omega | (unfold zBd at *; omega))))) hP9 hD9 hS
  ·
    as_aux_lemma =>
      refine lv_aload_n (pc := 8) hx hb dX12_put_8 rfl (lv_at hl 0 rfl) ?_
      refine va_get (pc := 9) (ci := 12) (v := .int x24) (C := RX12) (T := TX12) (N := 73) hx hb hts iX12 hown hK hP 0 rfl rfl 64 (by decide) (hts _ tw_1465) (fun _ h9 => h9) rfl dX12_put_9 ?_
      have bd_h_x24 : 0 ≤ x24.toInt ∧ x24.toInt ≤ 1 := h_x24
      refine b_if_eq (pc := 12) (tgt := 24) hx hb rfl  dX12_put_12 (by decide) (fun c_8 => ?_) (fun c_8 => ?_)
      ·
        as_aux_lemma =>
          refine lv_ldcw (pc := 24) hx hb hown (hts _ tw_1783) dX12_put_24 ?_
          have hP9 : va_P D gcl (zS_33 cB cC cI cJ a0 a1 x1 x2 x3 x4 x5 x6 x7 x8 a2 a3 a4 a5 a6 a7 a8 a9 a10 a11 a12 a13 a14 a15 a16 x9 x10 x11 x12 x13 x14 a17 a18 a19 x15 a20 x16 a21 x17 x18 a22 a23 a24 a25 x19 a26 x20 a27 a28 a29 y0 a30 a31 a32 a33 a34 a35 a36 a37 a38 x21 x22 x23 y1 a39 x24 a40 a41 a42 a43 x25 x26 x27 x28 a40 f0) H := g_psub hP [0, 1] rfl
          have hD9 : va_D A (zS_33 cB cC cI cJ a0 a1 x1 x2 x3 x4 x5 x6 x7 x8 a2 a3 a4 a5 a6 a7 a8 a9 a10 a11 a12 a13 a14 a15 a16 x9 x10 x11 x12 x13 x14 a17 a18 a19 x15 a20 x16 a21 x17 x18 a22 a23 a24 a25 x19 a26 x20 a27 a28 a29 y0 a30 a31 a32 a33 a34 a35 a36 a37 a38 x21 x22 x23 y1 a39 x24 a40 a41 a42 a43 x25 x26 x27 x28 a40 f0) := hD.sub [0, 1] (by decide) rfl
          exact hret (-1000000000) ((fun _ => 0), (fun _ => (fun _ => 0)), (fun _ => (fun _ => 0)), (fun _ => 0), (fun _ => 0)) dX12_put_27 (show ((((-1000000000) : Int32).toInt = (-1000000000)) ∨ (((-1000000000) : Int32).toInt = (-1000000000) ∧ x24.toInt = 0) ∨ (((-2147483648) ≤ ((-1000000000) : Int32).toInt ∧ ((-1000000000) : Int32).toInt ≤ 2147483647) ∧ ¬ x24.toInt = 0)) from (by first | exact (om_1437 tI_m1000000000) | (have k9 := tI_m1000000000; (first | omega | (unfold zBd at *; omega))))) hP9 hD9 hS
      ·
        as_aux_lemma =>
          refine lv_aload_n (pc := 15) hx hb dX12_put_15 rfl (lv_at hl 0 rfl) ?_
          refine va_get (pc := 16) (ci := 12) (v := .ref a40) (C := RX12) (T := TX12) (N := 73) hx hb hts iX12 hown hK hP 0 rfl rfl 65 (by decide) (hts _ tw_1466) (fun _ h9 => h9) rfl dX12_put_16 ?_
          refine lv_iload_n (pc := 19) hx hb dX12_put_19 rfl (lv_at hl 1 rfl) ?_
          refine va_iald (pc := 20) hx hb hK hP 1 2 rfl rfl (n_in rfl (by first | exact (om_1557 c_7 hw_4.1 hw_5.1) | ((first | omega | (unfold zBd at *; omega)))) (by first | exact (om_1639 c_7 hw_4.1 hw_5.2 h_x10.2) | ((first | omega | (unfold zBd at *; omega))))) dX12_put_20 ?_
          refine lv_topi (fun x_9 ex_9 => ?_)
          have rx_9 : zBd x_9.toInt (-2147483648) 2147483647 := n_rng x_9
          refine lv_goto (pc := 21) (tgt := 27) hx hb dX12_put_21 (by decide) ?_
          have hP9 : va_P D gcl (zS_33 cB cC cI cJ a0 a1 x1 x2 x3 x4 x5 x6 x7 x8 a2 a3 a4 a5 a6 a7 a8 a9 a10 a11 a12 a13 a14 a15 a16 x9 x10 x11 x12 x13 x14 a17 a18 a19 x15 a20 x16 a21 x17 x18 a22 a23 a24 a25 x19 a26 x20 a27 a28 a29 y0 a30 a31 a32 a33 a34 a35 a36 a37 a38 x21 x22 x23 y1 a39 x24 a40 a41 a42 a43 x25 x26 x27 x28 a40 f0) H := g_psub hP [0, 1] rfl
          have hD9 : va_D A (zS_33 cB cC cI cJ a0 a1 x1 x2 x3 x4 x5 x6 x7 x8 a2 a3 a4 a5 a6 a7 a8 a9 a10 a11 a12 a13 a14 a15 a16 x9 x10 x11 x12 x13 x14 a17 a18 a19 x15 a20 x16 a21 x17 x18 a22 a23 a24 a25 x19 a26 x20 a27 a28 a29 y0 a30 a31 a32 a33 a34 a35 a36 a37 a38 x21 x22 x23 y1 a39 x24 a40 a41 a42 a43 x25 x26 x27 x28 a40 f0) := hD.sub [0, 1] (by decide) rfl
          exact hret x_9 ((fun _ => 0), (fun _ => (fun _ => 0)), (fun _ => (fun _ => 0)), (fun _ => 0), (fun _ => 0)) dX12_put_27 (show ((x_9.toInt = (-1000000000)) ∨ (x_9.toInt = (-1000000000) ∧ x24.toInt = 0) ∨ (((-2147483648) ≤ x_9.toInt ∧ x_9.toInt ≤ 2147483647) ∧ ¬ x24.toInt = 0)) from (by first | exact (om_1438 rx_9.1 c_8 h_x24.1 rx_9.2) | ((first | omega | (unfold zBd at *; omega))))) hP9 hD9 hS
theorem om_1835 {a : Int} (h0 : (a ≤ 1000000)) (h1 : (a ≥ (-1000000))) : (((a = a ∧ a ≤ 1000000 ∧ a ≥ (-1000000)) ∨ (a = (-1000000) ∧ a ≤ 1000000 ∧ a < (-1000000)) ∨ (a = 1000000 ∧ a > 1000000))) := by omega
theorem om_1836 {a b : Int} (h0 : (a = (-1000000))) (h1 : (b < (-1000000))) : (((a = b ∧ b ≤ 1000000 ∧ b ≥ (-1000000)) ∨ (a = (-1000000) ∧ b ≤ 1000000 ∧ b < (-1000000)) ∨ (a = 1000000 ∧ b > 1000000))) := by omega
theorem om_1837 {a b : Int} (h0 : (a = 1000000)) (h1 : (b > 1000000)) : (((a = b ∧ b ≤ 1000000 ∧ b ≥ (-1000000)) ∨ (a = (-1000000) ∧ b ≤ 1000000 ∧ b < (-1000000)) ∨ (a = 1000000 ∧ b > 1000000))) := by omega
set_option maxHeartbeats 4000000 in
set_option maxRecDepth 100000 in
theorem k_X12_clip (l : Launch) (D : va_G) (cB cC cI cJ : ClassId) (sz : Nat) (y0 : Int64) : Met l yX12_clip (.code yX12_clip cX12_clip 2 (some .long) :: lw_gd) ({ frames := 0, cells := 0, slots := 0, locals := 0 }) (gPre D [(cB, .byte), (cC, .char), (cI, .int), (cJ, .long)] [.long y0] [] sz) (va_Ql (fun r u => ((r.toInt = y0.toInt ∧ y0.toInt ≤ 1000000 ∧ y0.toInt ≥ (-1000000)) ∨ (r.toInt = (-1000000) ∧ y0.toInt ≤ 1000000 ∧ y0.toInt < (-1000000)) ∨ (r.toInt = 1000000 ∧ y0.toInt > 1000000))) (gB D (va_A [] sz) (fun u : gEx => [])) (va_A [] sz)) 0 0 (va_A [] sz) := by
  refine gOf_l (by decide +kernel) (Nat.le_of_ble_eq_true rfl) ?_
  intro p e s m args below meth c ls A Q hx hb hts hown hml hN hK hP hD hA hl hret
  replace hown : s.vm.findClass RX12 = some m.cls := hown
  have hS : va_S A s.heap s.heap [] := va_S.rf
  replace hP : va_P D gcl [] s.heap := hP
  replace hl : lv_has ls 2 [(0, .long y0)] := hl
  have ry0 := n_rngL y0
  refine lv_lload_n (pc := 0) hx hb dX12_clip_0 rfl (lv_at hl 0 rfl) ?_
  refine lv_ldc2 (pc := 1) hx hb hown (hts _ tw_2069) dX12_clip_1 ?_
  refine b_lcmp_le (pc := 4) (tgt := 14) hx hb rfl tL_1000000 dX12_clip_4 dX12_clip_5 (by decide) (fun c_1 => ?_) (fun c_1 => ?_)
  ·
    refine lv_lload_n (pc := 14) hx hb dX12_clip_14 rfl (lv_at hl 0 rfl) ?_
    refine lv_ldc2 (pc := 15) hx hb hown (hts _ tw_2070) dX12_clip_15 ?_
    refine b_lcmp_ge (pc := 18) (tgt := 28) hx hb rfl tL_m1000000 dX12_clip_18 dX12_clip_19 (by decide) (fun c_2 => ?_) (fun c_2 => ?_)
    ·
      refine lv_lload_n (pc := 28) hx hb dX12_clip_28 rfl (lv_at hl 0 rfl) ?_
      exact hret y0 ((fun _ => 0), (fun _ => (fun _ => 0)), (fun _ => (fun _ => 0)), (fun _ => 0), (fun _ => 0)) dX12_clip_29 (show ((y0.toInt = y0.toInt ∧ y0.toInt ≤ 1000000 ∧ y0.toInt ≥ (-1000000)) ∨ (y0.toInt = (-1000000) ∧ y0.toInt ≤ 1000000 ∧ y0.toInt < (-1000000)) ∨ (y0.toInt = 1000000 ∧ y0.toInt > 1000000)) from (by first | exact (om_1835 c_1 c_2) | ((first | omega | (unfold zBd at *; omega))))) (g_psub (wc := []) hP [] rfl) (hD.sub (ws' := []) [] (by decide) rfl) hS
    ·
      refine lv_ldc2 (pc := 22) hx hb hown (hts _ tw_2070) dX12_clip_22 ?_
      refine lv_goto (pc := 25) (tgt := 29) hx hb dX12_clip_25 (by decide) ?_
      exact hret (-1000000) ((fun _ => 0), (fun _ => (fun _ => 0)), (fun _ => (fun _ => 0)), (fun _ => 0), (fun _ => 0)) dX12_clip_29 (show ((((-1000000) : Int64).toInt = y0.toInt ∧ y0.toInt ≤ 1000000 ∧ y0.toInt ≥ (-1000000)) ∨ (((-1000000) : Int64).toInt = (-1000000) ∧ y0.toInt ≤ 1000000 ∧ y0.toInt < (-1000000)) ∨ (((-1000000) : Int64).toInt = 1000000 ∧ y0.toInt > 1000000)) from (by first | exact (om_1836 tL_m1000000 c_2) | (have k9 := tL_m1000000; (first | omega | (unfold zBd at *; omega))))) (g_psub (wc := []) hP [] rfl) (hD.sub (ws' := []) [] (by decide) rfl) hS
  ·
    refine lv_ldc2 (pc := 8) hx hb hown (hts _ tw_2069) dX12_clip_8 ?_
    refine lv_goto (pc := 11) (tgt := 29) hx hb dX12_clip_11 (by decide) ?_
    exact hret 1000000 ((fun _ => 0), (fun _ => (fun _ => 0)), (fun _ => (fun _ => 0)), (fun _ => 0), (fun _ => 0)) dX12_clip_29 (show (((1000000 : Int64).toInt = y0.toInt ∧ y0.toInt ≤ 1000000 ∧ y0.toInt ≥ (-1000000)) ∨ ((1000000 : Int64).toInt = (-1000000) ∧ y0.toInt ≤ 1000000 ∧ y0.toInt < (-1000000)) ∨ ((1000000 : Int64).toInt = 1000000 ∧ y0.toInt > 1000000)) from (by first | exact (om_1837 tL_1000000 c_1) | (have k9 := tL_1000000; (first | omega | (unfold zBd at *; omega))))) (g_psub (wc := []) hP [] rfl) (hD.sub (ws' := []) [] (by decide) rfl) hS
theorem om_1838 {a : Int} (h0 : (a ≤ 1699)) : (a + 1 ≤ 2147483647) := by omega
theorem om_1839 {a b : Int} (h0 : (a = b + 1)) (h1 : (0 ≤ b)) (h2 : (b ≤ 1699)) : ((0 ≤ a ∧ a ≤ 1700)) := by omega
set_option maxHeartbeats 4000000 in
set_option maxRecDepth 100000 in
theorem k_X12_puts (l : Launch) (D : va_G) (cB cC cI cJ : ClassId) (sz : Nat) (a0 a1 a2 a3 a4 a5 a6 a7 a8 a9 a10 a11 a12 a13 a14 a15 a16 a17 a18 a19 a20 a21 a22 a23 a24 a25 a26 a27 a28 a29 a30 a31 a32 a33 a34 a35 a36 a37 a38 a39 a40 a41 a42 a43 : Nat) (x0 x1 x2 x3 x4 x5 x6 x7 x8 x9 x10 x11 x12 x13 x14 x15 x16 x17 x18 x19 x20 x21 x22 x23 x24 x25 x26 x27 : Int32) (y0 y1 y2 : Int64) (g0 : Nat → Int64) (h_x0 : zBd x0.toInt 0 1600) (h_x1 : zBd x1.toInt 0 1600) (h_x2 : zBd x2.toInt 0 1600) (h_x3 : zBd x3.toInt (-1) 1600) (h_x4 : zBd x4.toInt 0 4) (h_x5 : zBd x5.toInt (-1) 1600) (h_x8 : zBd x8.toInt 0 8) (h_x9 : zBd x9.toInt 0 5) (h_x10 : zBd x10.toInt 0 6) (h_x11 : zBd x11.toInt 0 6) (h_x12 : zBd x12.toInt 0 16) (h_x14 : zBd x14.toInt 0 60) (h_x15 : zBd x15.toInt 0 1600) (h_x16 : zBd x16.toInt 0 1700) (h_x18 : zBd x18.toInt 0 1700) (h_x19 : zBd x19.toInt 0 1700) (h_x20 : zBd x20.toInt 0 200) (h_x21 : zBd x21.toInt 0 40) (h_x22 : zBd x22.toInt 0 40) (h_x23 : zBd x23.toInt 0 1) (h_x24 : zBd x24.toInt 0 14) (h_x25 : zBd x25.toInt 0 200) (h_x26 : zBd x26.toInt 0 40) (h_x27 : zBd x27.toInt 0 40) (hr_a0_0 : (x21.toInt ≤ x20.toInt)) (hr_a0_1 : (x20.toInt + x22.toInt ≤ 200)) (hr_a0_2 : (x9.toInt = 0 ∨ 2 ≤ x8.toInt)) (hg__N : x19.toInt ≤ 1699) : Met l yX12_puts (.code yX12_puts cX12_puts 3 none :: lw_gd) ({ frames := 0, cells := 0, slots := 0, locals := 0 }) (gPre D [(cB, .byte), (cC, .char), (cI, .int), (cJ, .long)] [.ref a0, .long y0] (zS_7 cB cC cI cJ a0 a1 x0 x1 x2 x3 x4 x5 x6 x7 a2 a3 a4 a5 a6 a7 a8 a9 a10 a11 a12 a13 a14 a15 a16 x8 x9 x10 x11 x12 x13 a17 a18 a19 x14 a20 x15 a21 x16 x17 a22 a23 a24 a25 x18 a26 x19 a27 a28 a29 y1 a30 a31 a32 a33 a34 a35 a36 a37 a38 x20 x21 x22 y2 a39 x23 a40 a41 a42 a43 x24 x25 x26 x27 a26 g0) sz) (va_Qv (fun u => (((u.2.2.2.1 0).toInt = (x19.toInt) + (1))) ∧ (0 ≤ (u.2.2.2.1 0).toInt ∧ (u.2.2.2.1 0).toInt ≤ 1700)) (gB D (va_A (zS_7 cB cC cI cJ a0 a1 x0 x1 x2 x3 x4 x5 x6 x7 a2 a3 a4 a5 a6 a7 a8 a9 a10 a11 a12 a13 a14 a15 a16 x8 x9 x10 x11 x12 x13 a17 a18 a19 x14 a20 x15 a21 x16 x17 a22 a23 a24 a25 x18 a26 x19 a27 a28 a29 y1 a30 a31 a32 a33 a34 a35 a36 a37 a38 x20 x21 x22 y2 a39 x23 a40 a41 a42 a43 x24 x25 x26 x27 a26 g0) sz) (fun u : gEx => (zS_7 cB cC cI cJ a0 a1 x0 x1 x2 x3 x4 x5 x6 x7 a2 a3 a4 a5 a6 a7 a8 a9 a10 a11 a12 a13 a14 a15 a16 x8 x9 x10 x11 x12 x13 a17 a18 a19 x14 a20 x15 a21 x16 x17 a22 a23 a24 a25 x18 a26 (u.2.2.2.1 0) a27 a28 a29 y1 a30 a31 a32 a33 a34 a35 a36 a37 a38 x20 x21 x22 y2 a39 x23 a40 a41 a42 a43 x24 x25 x26 x27 a26 (u.2.2.1 0)))) (va_A (zS_7 cB cC cI cJ a0 a1 x0 x1 x2 x3 x4 x5 x6 x7 a2 a3 a4 a5 a6 a7 a8 a9 a10 a11 a12 a13 a14 a15 a16 x8 x9 x10 x11 x12 x13 a17 a18 a19 x14 a20 x15 a21 x16 x17 a22 a23 a24 a25 x18 a26 x19 a27 a28 a29 y1 a30 a31 a32 a33 a34 a35 a36 a37 a38 x20 x21 x22 y2 a39 x23 a40 a41 a42 a43 x24 x25 x26 x27 a26 g0) sz)) 0 0 (va_A (zS_7 cB cC cI cJ a0 a1 x0 x1 x2 x3 x4 x5 x6 x7 a2 a3 a4 a5 a6 a7 a8 a9 a10 a11 a12 a13 a14 a15 a16 x8 x9 x10 x11 x12 x13 a17 a18 a19 x14 a20 x15 a21 x16 x17 a22 a23 a24 a25 x18 a26 x19 a27 a28 a29 y1 a30 a31 a32 a33 a34 a35 a36 a37 a38 x20 x21 x22 y2 a39 x23 a40 a41 a42 a43 x24 x25 x26 x27 a26 g0) sz) := by
  refine gOf_v (by decide +kernel) (Nat.le_of_ble_eq_true rfl) ?_
  intro p e s m args below meth c ls A Q hx hb hts hown hml hN hK hP hD hA hl hret
  replace hown : s.vm.findClass RX12 = some m.cls := hown
  have hS : va_S A s.heap s.heap [] := va_S.rf
  replace hP : va_P D gcl (zS_7 cB cC cI cJ a0 a1 x0 x1 x2 x3 x4 x5 x6 x7 a2 a3 a4 a5 a6 a7 a8 a9 a10 a11 a12 a13 a14 a15 a16 x8 x9 x10 x11 x12 x13 a17 a18 a19 x14 a20 x15 a21 x16 x17 a22 a23 a24 a25 x18 a26 x19 a27 a28 a29 y1 a30 a31 a32 a33 a34 a35 a36 a37 a38 x20 x21 x22 y2 a39 x23 a40 a41 a42 a43 x24 x25 x26 x27 a26 g0) s.heap := hP
  replace hl : lv_has ls 3 [(0, .ref a0), (1, .long y0)] := hl
  have ry0 := n_rngL y0
  have rx6 : zBd x6.toInt (-2147483648) 2147483647 := n_rng x6
  have rx7 : zBd x7.toInt (-2147483648) 2147483647 := n_rng x7
  have rx13 : zBd x13.toInt (-2147483648) 2147483647 := n_rng x13
  have rx17 : zBd x17.toInt (-2147483648) 2147483647 := n_rng x17
  have ry1 := n_rngL y1
  have ry2 := n_rngL y2
  refine lv_aload_n (pc := 0) hx hb dX12_puts_0 rfl (lv_at hl 0 rfl) ?_
  refine va_get (pc := 1) (ci := 12) (v := .ref a26) (C := RX12) (T := TX12) (N := 73) hx hb hts iX12 hown hK hP 0 rfl rfl 44 (by decide) (hts _ tw_1445) (fun _ h9 => h9) rfl dX12_puts_1 ?_
  refine lv_aload_n (pc := 4) hx hb dX12_puts_4 rfl (lv_at hl 0 rfl) ?_
  refine va_get (pc := 5) (ci := 12) (v := .int x19) (C := RX12) (T := TX12) (N := 73) hx hb hts iX12 hown hK hP 0 rfl rfl 45 (by decide) (hts _ tw_1446) (fun _ h9 => h9) rfl dX12_puts_5 ?_
  have bd_h_x19 : 0 ≤ x19.toInt ∧ x19.toInt ≤ 1700 := h_x19
  refine lv_lload_n (pc := 8) hx hb dX12_puts_8 rfl (lv_at hl 1 rfl) ?_
  refine g_lastore (pc := 9) hx hb hK hP hD hS 1 3 rfl rfl (n_in rfl (by first | exact (om_0 h_x19.1) | ((first | omega | (unfold zBd at *; omega)))) (by first | exact (om_664 hg__N) | ((first | omega | (unfold zBd at *; omega))))) dX12_puts_9 (fun g_1 H locs hP hD hS => ?_)
  replace hP : va_P D gcl (zS_7 cB cC cI cJ a0 a1 x0 x1 x2 x3 x4 x5 x6 x7 a2 a3 a4 a5 a6 a7 a8 a9 a10 a11 a12 a13 a14 a15 a16 x8 x9 x10 x11 x12 x13 a17 a18 a19 x14 a20 x15 a21 x16 x17 a22 a23 a24 a25 x18 a26 x19 a27 a28 a29 y1 a30 a31 a32 a33 a34 a35 a36 a37 a38 x20 x21 x22 y2 a39 x23 a40 a41 a42 a43 x24 x25 x26 x27 a26 g_1) H := hP
  replace hD : va_D A (zS_7 cB cC cI cJ a0 a1 x0 x1 x2 x3 x4 x5 x6 x7 a2 a3 a4 a5 a6 a7 a8 a9 a10 a11 a12 a13 a14 a15 a16 x8 x9 x10 x11 x12 x13 a17 a18 a19 x14 a20 x15 a21 x16 x17 a22 a23 a24 a25 x18 a26 x19 a27 a28 a29 y1 a30 a31 a32 a33 a34 a35 a36 a37 a38 x20 x21 x22 y2 a39 x23 a40 a41 a42 a43 x24 x25 x26 x27 a26 g_1) := hD
  refine lv_aload_n (pc := 10) hx hb dX12_puts_10 rfl (lv_at hl 0 rfl) ?_
  refine lv_dup (pc := 11) hx hb dX12_puts_11 rfl ?_
  refine va_get (pc := 12) (ci := 12) (v := .int x19) (C := RX12) (T := TX12) (N := 73) hx hb hts iX12 hown hK hP 0 rfl rfl 45 (by decide) (hts _ tw_1446) (fun _ h9 => h9) rfl dX12_puts_12 ?_
  refine lv_iconst (pc := 15) (v := 1) hx hb dX12_puts_15 (by decide) ?_
  refine b_iadd (pc := 16) hx hb rfl tI_1 (by first | exact (om_2 h_x19.1) | ((first | omega | (unfold zBd at *; omega)))) (by first | exact (om_1838 hg__N) | ((first | omega | (unfold zBd at *; omega)))) dX12_puts_16 (fun x_2 ex_2 => ?_)
  refine va_put (pc := 17) (ci := 12) (v := .int x_2) (ty := .int) (C := RX12) (T := TX12) (N := 73) hx hb hts iX12 tyX12 tyX12_ok nmX12 hown hK hP hD hS 0 rfl rfl 45 (by decide) (hts _ tw_1446) (fun _ h9 => h9) rfl (by decide +kernel) rfl rfl (Nat.le_of_ble_eq_true rfl) dX12_puts_17 (fun H locs hP hD hS => ?_)
  replace hP : va_P D gcl (zS_7 cB cC cI cJ a0 a1 x0 x1 x2 x3 x4 x5 x6 x7 a2 a3 a4 a5 a6 a7 a8 a9 a10 a11 a12 a13 a14 a15 a16 x8 x9 x10 x11 x12 x13 a17 a18 a19 x14 a20 x15 a21 x16 x17 a22 a23 a24 a25 x18 a26 x_2 a27 a28 a29 y1 a30 a31 a32 a33 a34 a35 a36 a37 a38 x20 x21 x22 y2 a39 x23 a40 a41 a42 a43 x24 x25 x26 x27 a26 g_1) H := hP
  replace hD : va_D A (zS_7 cB cC cI cJ a0 a1 x0 x1 x2 x3 x4 x5 x6 x7 a2 a3 a4 a5 a6 a7 a8 a9 a10 a11 a12 a13 a14 a15 a16 x8 x9 x10 x11 x12 x13 a17 a18 a19 x14 a20 x15 a21 x16 x17 a22 a23 a24 a25 x18 a26 x_2 a27 a28 a29 y1 a30 a31 a32 a33 a34 a35 a36 a37 a38 x20 x21 x22 y2 a39 x23 a40 a41 a42 a43 x24 x25 x26 x27 a26 g_1) := hD
  have hP9 : va_P D gcl (zS_7 cB cC cI cJ a0 a1 x0 x1 x2 x3 x4 x5 x6 x7 a2 a3 a4 a5 a6 a7 a8 a9 a10 a11 a12 a13 a14 a15 a16 x8 x9 x10 x11 x12 x13 a17 a18 a19 x14 a20 x15 a21 x16 x17 a22 a23 a24 a25 x18 a26 x_2 a27 a28 a29 y1 a30 a31 a32 a33 a34 a35 a36 a37 a38 x20 x21 x22 y2 a39 x23 a40 a41 a42 a43 x24 x25 x26 x27 a26 g_1) H := g_psub hP [0, 1] rfl
  have hD9 : va_D A (zS_7 cB cC cI cJ a0 a1 x0 x1 x2 x3 x4 x5 x6 x7 a2 a3 a4 a5 a6 a7 a8 a9 a10 a11 a12 a13 a14 a15 a16 x8 x9 x10 x11 x12 x13 a17 a18 a19 x14 a20 x15 a21 x16 x17 a22 a23 a24 a25 x18 a26 x_2 a27 a28 a29 y1 a30 a31 a32 a33 a34 a35 a36 a37 a38 x20 x21 x22 y2 a39 x23 a40 a41 a42 a43 x24 x25 x26 x27 a26 g_1) := hD.sub [0, 1] (by decide) rfl
  exact hret ((fun _ => 0), (fun _ => (fun _ => 0)), (fun k => [g_1].getD k (fun _ => 0)), (fun k => [x_2].getD k 0), (fun _ => 0)) dX12_puts_20 ⟨(show (((x_2 : Int32).toInt = (x19.toInt) + (1))) from (by first | exact (om_584 ex_2) | ((first | omega | (unfold zBd at *; omega))))), (show (0 ≤ (x_2 : Int32).toInt ∧ (x_2 : Int32).toInt ≤ 1700) from (by first | exact (om_1839 ex_2 h_x19.1 hg__N) | ((first | omega | (unfold zBd at *; omega)))))⟩ hP9 hD9 hS
theorem om_1840 : (¬ (0 = 1)) := by omega
theorem om_1841 : (¬ (¬ 1 = 1)) := by omega
set_option maxHeartbeats 4000000 in
set_option maxRecDepth 100000 in
theorem k_X12_floor (l : Launch) (D : va_G) (cB cC cI cJ : ClassId) (sz : Nat) (y0 y1 : Int64) : Met l yX12_floor (.code yX12_floor cX12_floor 6 (some .long) :: lw_gd) ({ frames := 0, cells := 0, slots := 0, locals := 0 }) (gPre D [(cB, .byte), (cC, .char), (cI, .int), (cJ, .long)] [.long y0, .long y1] [] sz) (va_Ql (fun r u => True) (gB D (va_A [] sz) (fun u : gEx => [])) (va_A [] sz)) 0 0 (va_A [] sz) := by
  refine gOf_l (by decide +kernel) (Nat.le_of_ble_eq_true rfl) ?_
  intro p e s m args below meth c ls A Q hx hb hts hown hml hN hK hP hD hA hl hret
  replace hown : s.vm.findClass RX12 = some m.cls := hown
  have hS : va_S A s.heap s.heap [] := va_S.rf
  replace hP : va_P D gcl [] s.heap := hP
  replace hl : lv_has ls 6 [(0, .long y0), (2, .long y1)] := hl
  have ry0 := n_rngL y0
  have ry1 := n_rngL y1
  refine lv_lload_n (pc := 0) hx hb dX12_floor_0 rfl (lv_at hl 1 rfl) ?_
  refine lv_lconst (pc := 1) (v := 0) hx hb dX12_floor_1 (by decide) ?_
  refine b_lcmp_ne (pc := 2) (tgt := 8) hx hb rfl tL_0 dX12_floor_2 dX12_floor_3 (by decide) (fun c_1 => ?_) (fun c_1 => ?_)
  ·
    as_aux_lemma =>
      refine lv_lload_n (pc := 8) hx hb dX12_floor_8 rfl (lv_at hl 0 rfl) ?_
      refine lv_lload_n (pc := 9) hx hb dX12_floor_9 rfl (lv_at hl 1 rfl) ?_
      refine lv_ldiv (pc := 10) hx hb dX12_floor_10 (fun h => by have q := congrArg Int64.toInt h; have k := tL_0; (first | omega | (unfold zBd at *; omega))) ?_
      refine lv_topl (fun y_2 _ => ?_)
      have ry_2 := n_rngL y_2
      refine lv_lstore (pc := 11) (lv' := [(4, .long y_2), (0, .long y0), (2, .long y1)]) hx hb dX12_floor_11 hl (by decide) rfl (fun ls hl => ?_)
      refine lv_lload_n (pc := 13) hx hb dX12_floor_13 rfl (lv_at hl 1 rfl) ?_
      refine lv_lload_n (pc := 14) hx hb dX12_floor_14 rfl (lv_at hl 2 rfl) ?_
      refine lv_lrem (pc := 15) hx hb dX12_floor_15 (fun h => by have q := congrArg Int64.toInt h; have k := tL_0; (first | omega | (unfold zBd at *; omega))) ?_
      refine lv_topl (fun y_3 _ => ?_)
      have ry_3 := n_rngL y_3
      refine lv_lconst (pc := 16) (v := 0) hx hb dX12_floor_16 (by decide) ?_
      as_aux_lemma =>
        refine b_lcmp_eq (pc := 17) (tgt := 53) hx hb rfl tL_0 dX12_floor_17 dX12_floor_18 (by decide) (fun c_4 => ?_) (fun c_4 => ?_)
        ·
          as_aux_lemma =>
            refine lv_lload (pc := 53) hx hb dX12_floor_53 (lv_at hl 0 rfl) ?_
            exact hret y_2 ((fun _ => 0), (fun _ => (fun _ => 0)), (fun _ => (fun _ => 0)), (fun _ => 0), (fun _ => 0)) dX12_floor_55 trivial (g_psub (wc := []) hP [] rfl) (hD.sub (ws' := []) [] (by decide) rfl) hS
        ·
          as_aux_lemma =>
            refine lv_lload_n (pc := 21) hx hb dX12_floor_21 rfl (lv_at hl 1 rfl) ?_
            refine lv_lconst (pc := 22) (v := 0) hx hb dX12_floor_22 (by decide) ?_
            refine b_lcmp_ge (pc := 23) (tgt := 31) hx hb rfl tL_0 dX12_floor_23 dX12_floor_24 (by decide) (fun c_5 => ?_) (fun c_5 => ?_)
            ·
              as_aux_lemma =>
                refine lv_iconst (pc := 31) (v := 0) hx hb dX12_floor_31 (by decide) ?_
                refine lv_lload_n (pc := 32) hx hb dX12_floor_32 rfl (lv_at hl 2 rfl) ?_
                refine lv_lconst (pc := 33) (v := 0) hx hb dX12_floor_33 (by decide) ?_
                refine b_lcmp_ge (pc := 34) (tgt := 42) hx hb rfl tL_0 dX12_floor_34 dX12_floor_35 (by decide) (fun c_6 => ?_) (fun c_6 => ?_)
                ·
                  as_aux_lemma =>
                    refine lv_iconst (pc := 42) (v := 0) hx hb dX12_floor_42 (by decide) ?_
                    refine b_icmp_eq (pc := 43) (tgt := 53) hx hb tI_0 tI_0  dX12_floor_43 (by decide) (fun c_7 => ?_) (fun c_7 => absurd c_7 (by first | exact (om_27) | ((first | omega | (unfold zBd at *; omega)))))
                    refine lv_lload (pc := 53) hx hb dX12_floor_53 (lv_at hl 0 rfl) ?_
                    exact hret y_2 ((fun _ => 0), (fun _ => (fun _ => 0)), (fun _ => (fun _ => 0)), (fun _ => 0), (fun _ => 0)) dX12_floor_55 trivial (g_psub (wc := []) hP [] rfl) (hD.sub (ws' := []) [] (by decide) rfl) hS
                ·
                  as_aux_lemma =>
                    refine lv_iconst (pc := 38) (v := 1) hx hb dX12_floor_38 (by decide) ?_
                    refine lv_goto (pc := 39) (tgt := 43) hx hb dX12_floor_39 (by decide) ?_
                    refine b_icmp_eq (pc := 43) (tgt := 53) hx hb tI_0 tI_1  dX12_floor_43 (by decide) (fun c_8 => absurd c_8 (by first | exact (om_1840) | ((first | omega | (unfold zBd at *; omega))))) (fun c_8 => ?_)
                    refine lv_lload (pc := 46) hx hb dX12_floor_46 (lv_at hl 0 rfl) ?_
                    refine lv_lconst (pc := 48) (v := 1) hx hb dX12_floor_48 (by decide) ?_
                    refine lv_lsub (pc := 49) hx hb dX12_floor_49 ?_
                    refine lv_topl (fun y_9 _ => ?_)
                    have ry_9 := n_rngL y_9
                    refine lv_goto (pc := 50) (tgt := 55) hx hb dX12_floor_50 (by decide) ?_
                    exact hret y_9 ((fun _ => 0), (fun _ => (fun _ => 0)), (fun _ => (fun _ => 0)), (fun _ => 0), (fun _ => 0)) dX12_floor_55 trivial (g_psub (wc := []) hP [] rfl) (hD.sub (ws' := []) [] (by decide) rfl) hS
            ·
              as_aux_lemma =>
                refine lv_iconst (pc := 27) (v := 1) hx hb dX12_floor_27 (by decide) ?_
                refine lv_goto (pc := 28) (tgt := 32) hx hb dX12_floor_28 (by decide) ?_
                refine lv_lload_n (pc := 32) hx hb dX12_floor_32 rfl (lv_at hl 2 rfl) ?_
                refine lv_lconst (pc := 33) (v := 0) hx hb dX12_floor_33 (by decide) ?_
                refine b_lcmp_ge (pc := 34) (tgt := 42) hx hb rfl tL_0 dX12_floor_34 dX12_floor_35 (by decide) (fun c_10 => ?_) (fun c_10 => ?_)
                ·
                  as_aux_lemma =>
                    refine lv_iconst (pc := 42) (v := 0) hx hb dX12_floor_42 (by decide) ?_
                    refine b_icmp_eq (pc := 43) (tgt := 53) hx hb tI_1 tI_0  dX12_floor_43 (by decide) (fun c_11 => absurd c_11 (by first | exact (om_26) | ((first | omega | (unfold zBd at *; omega))))) (fun c_11 => ?_)
                    refine lv_lload (pc := 46) hx hb dX12_floor_46 (lv_at hl 0 rfl) ?_
                    refine lv_lconst (pc := 48) (v := 1) hx hb dX12_floor_48 (by decide) ?_
                    refine lv_lsub (pc := 49) hx hb dX12_floor_49 ?_
                    refine lv_topl (fun y_12 _ => ?_)
                    have ry_12 := n_rngL y_12
                    refine lv_goto (pc := 50) (tgt := 55) hx hb dX12_floor_50 (by decide) ?_
                    exact hret y_12 ((fun _ => 0), (fun _ => (fun _ => 0)), (fun _ => (fun _ => 0)), (fun _ => 0), (fun _ => 0)) dX12_floor_55 trivial (g_psub (wc := []) hP [] rfl) (hD.sub (ws' := []) [] (by decide) rfl) hS
                ·
                  as_aux_lemma =>
                    refine lv_iconst (pc := 38) (v := 1) hx hb dX12_floor_38 (by decide) ?_
                    refine lv_goto (pc := 39) (tgt := 43) hx hb dX12_floor_39 (by decide) ?_
                    refine b_icmp_eq (pc := 43) (tgt := 53) hx hb tI_1 tI_1  dX12_floor_43 (by decide) (fun c_13 => ?_) (fun c_13 => absurd c_13 (by first | exact (om_1841) | ((first | omega | (unfold zBd at *; omega)))))
                    refine lv_lload (pc := 53) hx hb dX12_floor_53 (lv_at hl 0 rfl) ?_
                    exact hret y_2 ((fun _ => 0), (fun _ => (fun _ => 0)), (fun _ => (fun _ => 0)), (fun _ => 0), (fun _ => 0)) dX12_floor_55 trivial (g_psub (wc := []) hP [] rfl) (hD.sub (ws' := []) [] (by decide) rfl) hS
  ·
    as_aux_lemma =>
      refine lv_lconst (pc := 6) (v := 0) hx hb dX12_floor_6 (by decide) ?_
      exact hret 0 ((fun _ => 0), (fun _ => (fun _ => 0)), (fun _ => (fun _ => 0)), (fun _ => 0), (fun _ => 0)) dX12_floor_7 trivial (g_psub (wc := []) hP [] rfl) (hD.sub (ws' := []) [] (by decide) rfl) hS
theorem om_1842 {a b : Int} (h0 : (a = b - 1)) (h1 : (2 ≤ b)) : (0 ≤ a) := by omega
theorem om_1843 {a : Int} (h0 : (2 ≤ a)) : (-2147483648 ≤ a - 2) := by omega
theorem om_1844 {a : Int} (h0 : (a ≤ 1700)) : (a - 2 ≤ 2147483647) := by omega
theorem om_1845 {a b : Int} (h0 : (a = b - 2)) (h1 : (2 ≤ b)) : (0 ≤ a) := by omega
theorem om_1846 {a b : Int} (h0 : (a = b - 2)) (h1 : (b ≤ 1700)) : (a < (1700 : Nat)) := by omega
theorem om_1847 {a b : Int} (h0 : (a = b - 2)) (h1 : (2 ≤ b)) (h2 : (b ≤ 1700)) : ((0 ≤ a ∧ a ≤ 1700)) := by omega
theorem om_1848 {a b : Int} (h0 : (a = b - 2)) (h1 : (b ≤ 1700)) : (a ≤ 1699) := by omega
theorem om_1849 {a b c : Int} (h0 : (a = (c) + (1))) (h1 : (c = b - 2)) : (a = b - 1) := by omega
set_option maxHeartbeats 4000000 in
set_option maxRecDepth 100000 in
theorem k_X12_joins (l : Launch) (D : va_G) (cB cC cI cJ : ClassId) (sz : Nat) (a0 a1 a2 a3 a4 a5 a6 a7 a8 a9 a10 a11 a12 a13 a14 a15 a16 a17 a18 a19 a20 a21 a22 a23 a24 a25 a26 a27 a28 a29 a30 a31 a32 a33 a34 a35 a36 a37 a38 a39 a40 a41 a42 a43 : Nat) (x0 x1 x2 x3 x4 x5 x6 x7 x8 x9 x10 x11 x12 x13 x14 x15 x16 x17 x18 x19 x20 x21 x22 x23 x24 x25 x26 x27 x28 : Int32) (y0 y1 : Int64) (g0 : Nat → Int64) (h_x1 : zBd x1.toInt 0 1600) (h_x2 : zBd x2.toInt 0 1600) (h_x3 : zBd x3.toInt 0 1600) (h_x4 : zBd x4.toInt (-1) 1600) (h_x5 : zBd x5.toInt 0 4) (h_x6 : zBd x6.toInt (-1) 1600) (h_x9 : zBd x9.toInt 0 8) (h_x10 : zBd x10.toInt 0 5) (h_x11 : zBd x11.toInt 0 6) (h_x12 : zBd x12.toInt 0 6) (h_x13 : zBd x13.toInt 0 16) (h_x15 : zBd x15.toInt 0 60) (h_x16 : zBd x16.toInt 0 1600) (h_x17 : zBd x17.toInt 0 1700) (h_x19 : zBd x19.toInt 0 1700) (h_x20 : zBd x20.toInt 0 1700) (h_x21 : zBd x21.toInt 0 200) (h_x22 : zBd x22.toInt 0 40) (h_x23 : zBd x23.toInt 0 40) (h_x24 : zBd x24.toInt 0 1) (h_x25 : zBd x25.toInt 0 14) (h_x26 : zBd x26.toInt 0 200) (h_x27 : zBd x27.toInt 0 40) (h_x28 : zBd x28.toInt 0 40) (hr_a0_0 : (x22.toInt ≤ x21.toInt)) (hr_a0_1 : (x21.toInt + x23.toInt ≤ 200)) (hr_a0_2 : (x10.toInt = 0 ∨ 2 ≤ x9.toInt)) (hg__P : 2 ≤ x20.toInt) : Met l yX12_joins (.code yX12_joins cX12_joins 6 none :: lw_gd) ({ frames := 1, cells := 0, slots := 0, locals := 25 }) (gPre D [(cB, .byte), (cC, .char), (cI, .int), (cJ, .long)] [.ref a0, .int x0] (zS_7 cB cC cI cJ a0 a1 x1 x2 x3 x4 x5 x6 x7 x8 a2 a3 a4 a5 a6 a7 a8 a9 a10 a11 a12 a13 a14 a15 a16 x9 x10 x11 x12 x13 x14 a17 a18 a19 x15 a20 x16 a21 x17 x18 a22 a23 a24 a25 x19 a26 x20 a27 a28 a29 y0 a30 a31 a32 a33 a34 a35 a36 a37 a38 x21 x22 x23 y1 a39 x24 a40 a41 a42 a43 x25 x26 x27 x28 a26 g0) sz) (va_Qv (fun u => (0 ≤ (u.2.2.2.1 0).toInt ∧ (u.2.2.2.1 0).toInt ≤ 1700) ∧ ((u.2.2.2.1 0).toInt = x20.toInt - 1)) (gB D (va_A (zS_7 cB cC cI cJ a0 a1 x1 x2 x3 x4 x5 x6 x7 x8 a2 a3 a4 a5 a6 a7 a8 a9 a10 a11 a12 a13 a14 a15 a16 x9 x10 x11 x12 x13 x14 a17 a18 a19 x15 a20 x16 a21 x17 x18 a22 a23 a24 a25 x19 a26 x20 a27 a28 a29 y0 a30 a31 a32 a33 a34 a35 a36 a37 a38 x21 x22 x23 y1 a39 x24 a40 a41 a42 a43 x25 x26 x27 x28 a26 g0) sz) (fun u : gEx => (zS_7 cB cC cI cJ a0 a1 x1 x2 x3 x4 x5 x6 x7 x8 a2 a3 a4 a5 a6 a7 a8 a9 a10 a11 a12 a13 a14 a15 a16 x9 x10 x11 x12 x13 x14 a17 a18 a19 x15 a20 x16 a21 x17 x18 a22 a23 a24 a25 x19 a26 (u.2.2.2.1 0) a27 a28 a29 y0 a30 a31 a32 a33 a34 a35 a36 a37 a38 x21 x22 x23 y1 a39 x24 a40 a41 a42 a43 x25 x26 x27 x28 a26 (u.2.2.1 0)))) (va_A (zS_7 cB cC cI cJ a0 a1 x1 x2 x3 x4 x5 x6 x7 x8 a2 a3 a4 a5 a6 a7 a8 a9 a10 a11 a12 a13 a14 a15 a16 x9 x10 x11 x12 x13 x14 a17 a18 a19 x15 a20 x16 a21 x17 x18 a22 a23 a24 a25 x19 a26 x20 a27 a28 a29 y0 a30 a31 a32 a33 a34 a35 a36 a37 a38 x21 x22 x23 y1 a39 x24 a40 a41 a42 a43 x25 x26 x27 x28 a26 g0) sz)) 0 0 (va_A (zS_7 cB cC cI cJ a0 a1 x1 x2 x3 x4 x5 x6 x7 x8 a2 a3 a4 a5 a6 a7 a8 a9 a10 a11 a12 a13 a14 a15 a16 x9 x10 x11 x12 x13 x14 a17 a18 a19 x15 a20 x16 a21 x17 x18 a22 a23 a24 a25 x19 a26 x20 a27 a28 a29 y0 a30 a31 a32 a33 a34 a35 a36 a37 a38 x21 x22 x23 y1 a39 x24 a40 a41 a42 a43 x25 x26 x27 x28 a26 g0) sz) := by
  refine gOf_v (by decide +kernel) (Nat.le_of_ble_eq_true rfl) ?_
  intro p e s m args below meth c ls A Q hx hb hts hown hml hN hK hP hD hA hl hret
  replace hown : s.vm.findClass RX12 = some m.cls := hown
  have hS : va_S A s.heap s.heap [] := va_S.rf
  replace hP : va_P D gcl (zS_7 cB cC cI cJ a0 a1 x1 x2 x3 x4 x5 x6 x7 x8 a2 a3 a4 a5 a6 a7 a8 a9 a10 a11 a12 a13 a14 a15 a16 x9 x10 x11 x12 x13 x14 a17 a18 a19 x15 a20 x16 a21 x17 x18 a22 a23 a24 a25 x19 a26 x20 a27 a28 a29 y0 a30 a31 a32 a33 a34 a35 a36 a37 a38 x21 x22 x23 y1 a39 x24 a40 a41 a42 a43 x25 x26 x27 x28 a26 g0) s.heap := hP
  replace hl : lv_has ls 6 [(0, .ref a0), (1, .int x0)] := hl
  have rx0 : zBd x0.toInt (-2147483648) 2147483647 := n_rng x0
  have rx7 : zBd x7.toInt (-2147483648) 2147483647 := n_rng x7
  have rx8 : zBd x8.toInt (-2147483648) 2147483647 := n_rng x8
  have rx14 : zBd x14.toInt (-2147483648) 2147483647 := n_rng x14
  have rx18 : zBd x18.toInt (-2147483648) 2147483647 := n_rng x18
  have ry0 := n_rngL y0
  have ry1 := n_rngL y1
  refine lv_aload_n (pc := 0) hx hb dX12_joins_0 rfl (lv_at hl 0 rfl) ?_
  refine va_get (pc := 1) (ci := 12) (v := .ref a26) (C := RX12) (T := TX12) (N := 73) hx hb hts iX12 hown hK hP 0 rfl rfl 44 (by decide) (hts _ tw_1445) (fun _ h9 => h9) rfl dX12_joins_1 ?_
  refine lv_aload_n (pc := 4) hx hb dX12_joins_4 rfl (lv_at hl 0 rfl) ?_
  refine va_get (pc := 5) (ci := 12) (v := .int x20) (C := RX12) (T := TX12) (N := 73) hx hb hts iX12 hown hK hP 0 rfl rfl 45 (by decide) (hts _ tw_1446) (fun _ h9 => h9) rfl dX12_joins_5 ?_
  have bd_h_x20 : 0 ≤ x20.toInt ∧ x20.toInt ≤ 1700 := h_x20
  refine lv_iconst (pc := 8) (v := 1) hx hb dX12_joins_8 (by decide) ?_
  refine b_isub (pc := 9) hx hb rfl tI_1 (by first | exact (om_251 hg__P) | ((first | omega | (unfold zBd at *; omega)))) (by first | exact (om_660 h_x20.2) | ((first | omega | (unfold zBd at *; omega)))) dX12_joins_9 (fun x_1 ex_1 => ?_)
  refine va_lald (pc := 10) hx hb hK hP 1 3 rfl rfl (n_in rfl (by first | exact (om_1842 ex_1 hg__P) | ((first | omega | (unfold zBd at *; omega)))) (by first | exact (om_678 ex_1 h_x20.2) | ((first | omega | (unfold zBd at *; omega))))) dX12_joins_10 ?_
  refine lv_topl (fun y_2 ey_2 => ?_)
  have ry_2 := n_rngL y_2
  refine lv_lstore_n (pc := 11) (lv' := [(2, .long y_2), (0, .ref a0), (1, .int x0)]) hx hb dX12_joins_11 rfl hl (by decide) rfl (fun ls hl => ?_)
  as_aux_lemma =>
    refine lv_aload_n (pc := 12) hx hb dX12_joins_12 rfl (lv_at hl 1 rfl) ?_
    refine va_get (pc := 13) (ci := 12) (v := .ref a26) (C := RX12) (T := TX12) (N := 73) hx hb hts iX12 hown hK hP 0 rfl rfl 44 (by decide) (hts _ tw_1445) (fun _ h9 => h9) rfl dX12_joins_13 ?_
    refine lv_aload_n (pc := 16) hx hb dX12_joins_16 rfl (lv_at hl 1 rfl) ?_
    refine va_get (pc := 17) (ci := 12) (v := .int x20) (C := RX12) (T := TX12) (N := 73) hx hb hts iX12 hown hK hP 0 rfl rfl 45 (by decide) (hts _ tw_1446) (fun _ h9 => h9) rfl dX12_joins_17 ?_
    refine lv_iconst (pc := 20) (v := 2) hx hb dX12_joins_20 (by decide) ?_
    refine b_isub (pc := 21) hx hb rfl tI_2 (by first | exact (om_1843 hg__P) | ((first | omega | (unfold zBd at *; omega)))) (by first | exact (om_1844 h_x20.2) | ((first | omega | (unfold zBd at *; omega)))) dX12_joins_21 (fun x_3 ex_3 => ?_)
    refine va_lald (pc := 22) hx hb hK hP 1 3 rfl rfl (n_in rfl (by first | exact (om_1845 ex_3 hg__P) | ((first | omega | (unfold zBd at *; omega)))) (by first | exact (om_1846 ex_3 h_x20.2) | ((first | omega | (unfold zBd at *; omega))))) dX12_joins_22 ?_
    refine lv_topl (fun y_4 ey_4 => ?_)
    have ry_4 := n_rngL y_4
    refine lv_lstore (pc := 23) (lv' := [(4, .long y_4), (2, .long y_2), (0, .ref a0), (1, .int x0)]) hx hb dX12_joins_23 hl (by decide) rfl (fun ls hl => ?_)
    refine lv_aload_n (pc := 25) hx hb dX12_joins_25 rfl (lv_at hl 2 rfl) ?_
    as_aux_lemma =>
      refine lv_dup (pc := 26) hx hb dX12_joins_26 rfl ?_
      refine va_get (pc := 27) (ci := 12) (v := .int x20) (C := RX12) (T := TX12) (N := 73) hx hb hts iX12 hown hK hP 0 rfl rfl 45 (by decide) (hts _ tw_1446) (fun _ h9 => h9) rfl dX12_joins_27 ?_
      refine lv_iconst (pc := 30) (v := 2) hx hb dX12_joins_30 (by decide) ?_
      refine b_isub (pc := 31) hx hb rfl tI_2 (by first | exact (om_1843 hg__P) | ((first | omega | (unfold zBd at *; omega)))) (by first | exact (om_1844 h_x20.2) | ((first | omega | (unfold zBd at *; omega)))) dX12_joins_31 (fun x_5 ex_5 => ?_)
      refine va_put (pc := 32) (ci := 12) (v := .int x_5) (ty := .int) (C := RX12) (T := TX12) (N := 73) hx hb hts iX12 tyX12 tyX12_ok nmX12 hown hK hP hD hS 0 rfl rfl 45 (by decide) (hts _ tw_1446) (fun _ h9 => h9) rfl (by decide +kernel) rfl rfl (Nat.le_of_ble_eq_true rfl) dX12_joins_32 (fun H locs hP hD hS => ?_)
      replace hP : va_P D gcl (zS_7 cB cC cI cJ a0 a1 x1 x2 x3 x4 x5 x6 x7 x8 a2 a3 a4 a5 a6 a7 a8 a9 a10 a11 a12 a13 a14 a15 a16 x9 x10 x11 x12 x13 x14 a17 a18 a19 x15 a20 x16 a21 x17 x18 a22 a23 a24 a25 x19 a26 x_5 a27 a28 a29 y0 a30 a31 a32 a33 a34 a35 a36 a37 a38 x21 x22 x23 y1 a39 x24 a40 a41 a42 a43 x25 x26 x27 x28 a26 g0) H := hP
      replace hD : va_D A (zS_7 cB cC cI cJ a0 a1 x1 x2 x3 x4 x5 x6 x7 x8 a2 a3 a4 a5 a6 a7 a8 a9 a10 a11 a12 a13 a14 a15 a16 x9 x10 x11 x12 x13 x14 a17 a18 a19 x15 a20 x16 a21 x17 x18 a22 a23 a24 a25 x19 a26 x_5 a27 a28 a29 y0 a30 a31 a32 a33 a34 a35 a36 a37 a38 x21 x22 x23 y1 a39 x24 a40 a41 a42 a43 x25 x26 x27 x28 a26 g0) := hD
      refine lv_iload_n (pc := 35) hx hb dX12_joins_35 rfl (lv_at hl 3 rfl) ?_
      by_cases h_6 : x0.toInt = 1
      ·
        as_aux_lemma =>
          refine lv_tableIn (pc := 36) (off := 72) (tgt := 108) hx hb dX12_joins_36 (by rw [h_6]; decide) (by rw [h_6]; decide) (by rw [h_6]; decide +kernel) (by decide) ?_
          refine lv_aload_n (pc := 108) hx hb dX12_joins_108 rfl (lv_at hl 2 rfl) ?_
          refine lv_lload (pc := 109) hx hb dX12_joins_109 (lv_at hl 0 rfl) ?_
          refine lv_lload_n (pc := 111) hx hb dX12_joins_111 rfl (lv_at hl 1 rfl) ?_
          refine lv_ladd (pc := 112) hx hb dX12_joins_112 ?_
          refine lv_topl (fun y_7 _ => ?_)
          have ry_7 := n_rngL y_7
          refine gd_l (pc := 113) (wc := []) hP hD hS hA [] rfl (by decide +kernel) (fun _ => by rfl) (fun hPc hDc => va_runS (As := [.long y_7]) (rest := [.ref a0]) ⟨hx, hb, hml, hown, hts⟩ (k_X12_clip l D cB cC cI cJ _ y_7) ⟨gcwB hts tw_2068 tw_14 tw_2066 hd_yX12_clip ⟨Nat.le_of_ble_eq_true rfl, Nat.le_of_ble_eq_true rfl⟩, hts _ tw_2067⟩ (gpreS hPc hK hDc hN) rfl rfl hl.1 rfl (lv_room (Nat.le_of_ble_eq_true rfl)) dX12_joins_113 ⟨Nat.le_of_ble_eq_true rfl, Nat.le_of_ble_eq_true rfl⟩) (fun r_9 u_8 H locs hw_10 hP hD hS => ?_)
          replace hP : va_P D gcl (zS_7 cB cC cI cJ a0 a1 x1 x2 x3 x4 x5 x6 x7 x8 a2 a3 a4 a5 a6 a7 a8 a9 a10 a11 a12 a13 a14 a15 a16 x9 x10 x11 x12 x13 x14 a17 a18 a19 x15 a20 x16 a21 x17 x18 a22 a23 a24 a25 x19 a26 x_5 a27 a28 a29 y0 a30 a31 a32 a33 a34 a35 a36 a37 a38 x21 x22 x23 y1 a39 x24 a40 a41 a42 a43 x25 x26 x27 x28 a26 g0) H := hP
          replace hD : va_D A (zS_7 cB cC cI cJ a0 a1 x1 x2 x3 x4 x5 x6 x7 x8 a2 a3 a4 a5 a6 a7 a8 a9 a10 a11 a12 a13 a14 a15 a16 x9 x10 x11 x12 x13 x14 a17 a18 a19 x15 a20 x16 a21 x17 x18 a22 a23 a24 a25 x19 a26 x_5 a27 a28 a29 y0 a30 a31 a32 a33 a34 a35 a36 a37 a38 x21 x22 x23 y1 a39 x24 a40 a41 a42 a43 x25 x26 x27 x28 a26 g0) := hD
          have hw_11 : ((r_9.toInt = y_7.toInt ∧ y_7.toInt ≤ 1000000 ∧ y_7.toInt ≥ (-1000000)) ∨ (r_9.toInt = (-1000000) ∧ y_7.toInt ≤ 1000000 ∧ y_7.toInt < (-1000000)) ∨ (r_9.toInt = 1000000 ∧ y_7.toInt > 1000000)) := hw_10
          have rr_9 := n_rngL r_9
          refine gd_v (pc := 116) (wc := (zS_7 cB cC cI cJ a0 a1 x1 x2 x3 x4 x5 x6 x7 x8 a2 a3 a4 a5 a6 a7 a8 a9 a10 a11 a12 a13 a14 a15 a16 x9 x10 x11 x12 x13 x14 a17 a18 a19 x15 a20 x16 a21 x17 x18 a22 a23 a24 a25 x19 a26 x_5 a27 a28 a29 y0 a30 a31 a32 a33 a34 a35 a36 a37 a38 x21 x22 x23 y1 a39 x24 a40 a41 a42 a43 x25 x26 x27 x28 a26 g0)) hP hD hS hA [0, 1] rfl (by decide +kernel) (fun _ => by rfl) (fun hPc hDc => va_runV (As := [.long r_9]) (rest := []) ⟨hx, hb, hml, hown, hts⟩ (k_X12_puts l D cB cC cI cJ _ a0 a1 a2 a3 a4 a5 a6 a7 a8 a9 a10 a11 a12 a13 a14 a15 a16 a17 a18 a19 a20 a21 a22 a23 a24 a25 a26 a27 a28 a29 a30 a31 a32 a33 a34 a35 a36 a37 a38 a39 a40 a41 a42 a43 x1 x2 x3 x4 x5 x6 x7 x8 x9 x10 x11 x12 x13 x14 x15 x16 x17 x18 x19 x_5 x21 x22 x23 x24 x25 x26 x27 x28 r_9 y0 y1 g0 h_x1 h_x2 h_x3 h_x4 h_x5 h_x6 h_x9 h_x10 h_x11 h_x12 h_x13 h_x15 h_x16 h_x17 h_x19 (by first | exact (om_1847 ex_5 hg__P h_x20.2) | ((first | omega | (unfold zBd at *; omega)))) h_x21 h_x22 h_x23 h_x24 h_x25 h_x26 h_x27 h_x28 hr_a0_0 hr_a0_1 hr_a0_2 (by first | exact (om_1848 ex_5 h_x20.2) | ((first | omega | (unfold zBd at *; omega))))) ⟨gcwB hts tw_2056 tw_14 tw_2053 hd_yX12_puts ⟨Nat.le_of_ble_eq_true rfl, Nat.le_of_ble_eq_true rfl⟩, hts _ tw_2055, hts _ tp_119⟩ ⟨gblind, va_recv hK hPc (ci := 12) (q0 := 0) rfl rfl, (gpreS hPc hK hDc hN).2⟩ rfl rfl hl.1 rfl (lv_room (Nat.le_of_ble_eq_true rfl)) dX12_joins_116 ⟨Nat.le_of_ble_eq_true rfl, Nat.le_of_ble_eq_true rfl⟩) (fun u_12 H locs hw_14 hP hD hS => ?_)
          replace hP : va_P D gcl (zS_7 cB cC cI cJ a0 a1 x1 x2 x3 x4 x5 x6 x7 x8 a2 a3 a4 a5 a6 a7 a8 a9 a10 a11 a12 a13 a14 a15 a16 x9 x10 x11 x12 x13 x14 a17 a18 a19 x15 a20 x16 a21 x17 x18 a22 a23 a24 a25 x19 a26 (u_12.2.2.2.1 0) a27 a28 a29 y0 a30 a31 a32 a33 a34 a35 a36 a37 a38 x21 x22 x23 y1 a39 x24 a40 a41 a42 a43 x25 x26 x27 x28 a26 (u_12.2.2.1 0)) H := hP
          replace hD : va_D A (zS_7 cB cC cI cJ a0 a1 x1 x2 x3 x4 x5 x6 x7 x8 a2 a3 a4 a5 a6 a7 a8 a9 a10 a11 a12 a13 a14 a15 a16 x9 x10 x11 x12 x13 x14 a17 a18 a19 x15 a20 x16 a21 x17 x18 a22 a23 a24 a25 x19 a26 (u_12.2.2.2.1 0) a27 a28 a29 y0 a30 a31 a32 a33 a34 a35 a36 a37 a38 x21 x22 x23 y1 a39 x24 a40 a41 a42 a43 x25 x26 x27 x28 a26 (u_12.2.2.1 0)) := hD
          obtain ⟨hw_15, hw_16⟩ := hw_14
          replace hw_15 : (((u_12.2.2.2.1 0).toInt = (x_5.toInt) + (1))) := hw_15
          replace hw_16 : zBd (u_12.2.2.2.1 0).toInt 0 1700 := hw_16
          refine lv_goto (pc := 119) (tgt := 289) hx hb dX12_joins_119 (by decide) ?_
          have hP9 : va_P D gcl (zS_7 cB cC cI cJ a0 a1 x1 x2 x3 x4 x5 x6 x7 x8 a2 a3 a4 a5 a6 a7 a8 a9 a10 a11 a12 a13 a14 a15 a16 x9 x10 x11 x12 x13 x14 a17 a18 a19 x15 a20 x16 a21 x17 x18 a22 a23 a24 a25 x19 a26 (u_12.2.2.2.1 0) a27 a28 a29 y0 a30 a31 a32 a33 a34 a35 a36 a37 a38 x21 x22 x23 y1 a39 x24 a40 a41 a42 a43 x25 x26 x27 x28 a26 (u_12.2.2.1 0)) H := g_psub hP [0, 1] rfl
          have hD9 : va_D A (zS_7 cB cC cI cJ a0 a1 x1 x2 x3 x4 x5 x6 x7 x8 a2 a3 a4 a5 a6 a7 a8 a9 a10 a11 a12 a13 a14 a15 a16 x9 x10 x11 x12 x13 x14 a17 a18 a19 x15 a20 x16 a21 x17 x18 a22 a23 a24 a25 x19 a26 (u_12.2.2.2.1 0) a27 a28 a29 y0 a30 a31 a32 a33 a34 a35 a36 a37 a38 x21 x22 x23 y1 a39 x24 a40 a41 a42 a43 x25 x26 x27 x28 a26 (u_12.2.2.1 0)) := hD.sub [0, 1] (by decide) rfl
          exact hret ((fun _ => 0), (fun _ => (fun _ => 0)), (fun k => [(u_12.2.2.1 0)].getD k (fun _ => 0)), (fun k => [(u_12.2.2.2.1 0)].getD k 0), (fun _ => 0)) dX12_joins_289 ⟨(show (0 ≤ ((u_12.2.2.2.1 0) : Int32).toInt ∧ ((u_12.2.2.2.1 0) : Int32).toInt ≤ 1700) from hw_16), (show (u_12.2.2.2.1 0).toInt = x20.toInt - 1 from (by first | exact (om_1849 hw_15 ex_5) | ((first | omega | (unfold zBd at *; omega)))))⟩ hP9 hD9 hS
      by_cases h_17 : x0.toInt = 2
      ·
        as_aux_lemma =>
          refine lv_tableIn (pc := 36) (off := 86) (tgt := 122) hx hb dX12_joins_36 (by rw [h_17]; decide) (by rw [h_17]; decide) (by rw [h_17]; decide +kernel) (by decide) ?_
          refine lv_aload_n (pc := 122) hx hb dX12_joins_122 rfl (lv_at hl 2 rfl) ?_
          refine lv_lload (pc := 123) hx hb dX12_joins_123 (lv_at hl 0 rfl) ?_
          refine lv_lload_n (pc := 125) hx hb dX12_joins_125 rfl (lv_at hl 1 rfl) ?_
          refine lv_lsub (pc := 126) hx hb dX12_joins_126 ?_
          refine lv_topl (fun y_18 _ => ?_)
          have ry_18 := n_rngL y_18
          refine gd_l (pc := 127) (wc := []) hP hD hS hA [] rfl (by decide +kernel) (fun _ => by rfl) (fun hPc hDc => va_runS (As := [.long y_18]) (rest := [.ref a0]) ⟨hx, hb, hml, hown, hts⟩ (k_X12_clip l D cB cC cI cJ _ y_18) ⟨gcwB hts tw_2068 tw_14 tw_2066 hd_yX12_clip ⟨Nat.le_of_ble_eq_true rfl, Nat.le_of_ble_eq_true rfl⟩, hts _ tw_2067⟩ (gpreS hPc hK hDc hN) rfl rfl hl.1 rfl (lv_room (Nat.le_of_ble_eq_true rfl)) dX12_joins_127 ⟨Nat.le_of_ble_eq_true rfl, Nat.le_of_ble_eq_true rfl⟩) (fun r_20 u_19 H locs hw_21 hP hD hS => ?_)
          replace hP : va_P D gcl (zS_7 cB cC cI cJ a0 a1 x1 x2 x3 x4 x5 x6 x7 x8 a2 a3 a4 a5 a6 a7 a8 a9 a10 a11 a12 a13 a14 a15 a16 x9 x10 x11 x12 x13 x14 a17 a18 a19 x15 a20 x16 a21 x17 x18 a22 a23 a24 a25 x19 a26 x_5 a27 a28 a29 y0 a30 a31 a32 a33 a34 a35 a36 a37 a38 x21 x22 x23 y1 a39 x24 a40 a41 a42 a43 x25 x26 x27 x28 a26 g0) H := hP
          replace hD : va_D A (zS_7 cB cC cI cJ a0 a1 x1 x2 x3 x4 x5 x6 x7 x8 a2 a3 a4 a5 a6 a7 a8 a9 a10 a11 a12 a13 a14 a15 a16 x9 x10 x11 x12 x13 x14 a17 a18 a19 x15 a20 x16 a21 x17 x18 a22 a23 a24 a25 x19 a26 x_5 a27 a28 a29 y0 a30 a31 a32 a33 a34 a35 a36 a37 a38 x21 x22 x23 y1 a39 x24 a40 a41 a42 a43 x25 x26 x27 x28 a26 g0) := hD
          have hw_22 : ((r_20.toInt = y_18.toInt ∧ y_18.toInt ≤ 1000000 ∧ y_18.toInt ≥ (-1000000)) ∨ (r_20.toInt = (-1000000) ∧ y_18.toInt ≤ 1000000 ∧ y_18.toInt < (-1000000)) ∨ (r_20.toInt = 1000000 ∧ y_18.toInt > 1000000)) := hw_21
          have rr_20 := n_rngL r_20
          refine gd_v (pc := 130) (wc := (zS_7 cB cC cI cJ a0 a1 x1 x2 x3 x4 x5 x6 x7 x8 a2 a3 a4 a5 a6 a7 a8 a9 a10 a11 a12 a13 a14 a15 a16 x9 x10 x11 x12 x13 x14 a17 a18 a19 x15 a20 x16 a21 x17 x18 a22 a23 a24 a25 x19 a26 x_5 a27 a28 a29 y0 a30 a31 a32 a33 a34 a35 a36 a37 a38 x21 x22 x23 y1 a39 x24 a40 a41 a42 a43 x25 x26 x27 x28 a26 g0)) hP hD hS hA [0, 1] rfl (by decide +kernel) (fun _ => by rfl) (fun hPc hDc => va_runV (As := [.long r_20]) (rest := []) ⟨hx, hb, hml, hown, hts⟩ (k_X12_puts l D cB cC cI cJ _ a0 a1 a2 a3 a4 a5 a6 a7 a8 a9 a10 a11 a12 a13 a14 a15 a16 a17 a18 a19 a20 a21 a22 a23 a24 a25 a26 a27 a28 a29 a30 a31 a32 a33 a34 a35 a36 a37 a38 a39 a40 a41 a42 a43 x1 x2 x3 x4 x5 x6 x7 x8 x9 x10 x11 x12 x13 x14 x15 x16 x17 x18 x19 x_5 x21 x22 x23 x24 x25 x26 x27 x28 r_20 y0 y1 g0 h_x1 h_x2 h_x3 h_x4 h_x5 h_x6 h_x9 h_x10 h_x11 h_x12 h_x13 h_x15 h_x16 h_x17 h_x19 (by first | exact (om_1847 ex_5 hg__P h_x20.2) | ((first | omega | (unfold zBd at *; omega)))) h_x21 h_x22 h_x23 h_x24 h_x25 h_x26 h_x27 h_x28 hr_a0_0 hr_a0_1 hr_a0_2 (by first | exact (om_1848 ex_5 h_x20.2) | ((first | omega | (unfold zBd at *; omega))))) ⟨gcwB hts tw_2056 tw_14 tw_2053 hd_yX12_puts ⟨Nat.le_of_ble_eq_true rfl, Nat.le_of_ble_eq_true rfl⟩, hts _ tw_2055, hts _ tp_119⟩ ⟨gblind, va_recv hK hPc (ci := 12) (q0 := 0) rfl rfl, (gpreS hPc hK hDc hN).2⟩ rfl rfl hl.1 rfl (lv_room (Nat.le_of_ble_eq_true rfl)) dX12_joins_130 ⟨Nat.le_of_ble_eq_true rfl, Nat.le_of_ble_eq_true rfl⟩) (fun u_23 H locs hw_25 hP hD hS => ?_)
          replace hP : va_P D gcl (zS_7 cB cC cI cJ a0 a1 x1 x2 x3 x4 x5 x6 x7 x8 a2 a3 a4 a5 a6 a7 a8 a9 a10 a11 a12 a13 a14 a15 a16 x9 x10 x11 x12 x13 x14 a17 a18 a19 x15 a20 x16 a21 x17 x18 a22 a23 a24 a25 x19 a26 (u_23.2.2.2.1 0) a27 a28 a29 y0 a30 a31 a32 a33 a34 a35 a36 a37 a38 x21 x22 x23 y1 a39 x24 a40 a41 a42 a43 x25 x26 x27 x28 a26 (u_23.2.2.1 0)) H := hP
          replace hD : va_D A (zS_7 cB cC cI cJ a0 a1 x1 x2 x3 x4 x5 x6 x7 x8 a2 a3 a4 a5 a6 a7 a8 a9 a10 a11 a12 a13 a14 a15 a16 x9 x10 x11 x12 x13 x14 a17 a18 a19 x15 a20 x16 a21 x17 x18 a22 a23 a24 a25 x19 a26 (u_23.2.2.2.1 0) a27 a28 a29 y0 a30 a31 a32 a33 a34 a35 a36 a37 a38 x21 x22 x23 y1 a39 x24 a40 a41 a42 a43 x25 x26 x27 x28 a26 (u_23.2.2.1 0)) := hD
          obtain ⟨hw_26, hw_27⟩ := hw_25
          replace hw_26 : (((u_23.2.2.2.1 0).toInt = (x_5.toInt) + (1))) := hw_26
          replace hw_27 : zBd (u_23.2.2.2.1 0).toInt 0 1700 := hw_27
          refine lv_goto (pc := 133) (tgt := 289) hx hb dX12_joins_133 (by decide) ?_
          have hP9 : va_P D gcl (zS_7 cB cC cI cJ a0 a1 x1 x2 x3 x4 x5 x6 x7 x8 a2 a3 a4 a5 a6 a7 a8 a9 a10 a11 a12 a13 a14 a15 a16 x9 x10 x11 x12 x13 x14 a17 a18 a19 x15 a20 x16 a21 x17 x18 a22 a23 a24 a25 x19 a26 (u_23.2.2.2.1 0) a27 a28 a29 y0 a30 a31 a32 a33 a34 a35 a36 a37 a38 x21 x22 x23 y1 a39 x24 a40 a41 a42 a43 x25 x26 x27 x28 a26 (u_23.2.2.1 0)) H := g_psub hP [0, 1] rfl
          have hD9 : va_D A (zS_7 cB cC cI cJ a0 a1 x1 x2 x3 x4 x5 x6 x7 x8 a2 a3 a4 a5 a6 a7 a8 a9 a10 a11 a12 a13 a14 a15 a16 x9 x10 x11 x12 x13 x14 a17 a18 a19 x15 a20 x16 a21 x17 x18 a22 a23 a24 a25 x19 a26 (u_23.2.2.2.1 0) a27 a28 a29 y0 a30 a31 a32 a33 a34 a35 a36 a37 a38 x21 x22 x23 y1 a39 x24 a40 a41 a42 a43 x25 x26 x27 x28 a26 (u_23.2.2.1 0)) := hD.sub [0, 1] (by decide) rfl
          exact hret ((fun _ => 0), (fun _ => (fun _ => 0)), (fun k => [(u_23.2.2.1 0)].getD k (fun _ => 0)), (fun k => [(u_23.2.2.2.1 0)].getD k 0), (fun _ => 0)) dX12_joins_289 ⟨(show (0 ≤ ((u_23.2.2.2.1 0) : Int32).toInt ∧ ((u_23.2.2.2.1 0) : Int32).toInt ≤ 1700) from hw_27), (show (u_23.2.2.2.1 0).toInt = x20.toInt - 1 from (by first | exact (om_1849 hw_26 ex_5) | ((first | omega | (unfold zBd at *; omega)))))⟩ hP9 hD9 hS
      by_cases h_28 : x0.toInt = 3
      ·
        as_aux_lemma =>
          refine lv_tableIn (pc := 36) (off := 100) (tgt := 136) hx hb dX12_joins_36 (by rw [h_28]; decide) (by rw [h_28]; decide) (by rw [h_28]; decide +kernel) (by decide) ?_
          refine lv_aload_n (pc := 136) hx hb dX12_joins_136 rfl (lv_at hl 2 rfl) ?_
          refine lv_lload (pc := 137) hx hb dX12_joins_137 (lv_at hl 0 rfl) ?_
          refine lv_lload_n (pc := 139) hx hb dX12_joins_139 rfl (lv_at hl 1 rfl) ?_
          refine lv_lmul (pc := 140) hx hb dX12_joins_140 ?_
          refine lv_topl (fun y_29 _ => ?_)
          have ry_29 := n_rngL y_29
          refine gd_l (pc := 141) (wc := []) hP hD hS hA [] rfl (by decide +kernel) (fun _ => by rfl) (fun hPc hDc => va_runS (As := [.long y_29]) (rest := [.ref a0]) ⟨hx, hb, hml, hown, hts⟩ (k_X12_clip l D cB cC cI cJ _ y_29) ⟨gcwB hts tw_2068 tw_14 tw_2066 hd_yX12_clip ⟨Nat.le_of_ble_eq_true rfl, Nat.le_of_ble_eq_true rfl⟩, hts _ tw_2067⟩ (gpreS hPc hK hDc hN) rfl rfl hl.1 rfl (lv_room (Nat.le_of_ble_eq_true rfl)) dX12_joins_141 ⟨Nat.le_of_ble_eq_true rfl, Nat.le_of_ble_eq_true rfl⟩) (fun r_31 u_30 H locs hw_32 hP hD hS => ?_)
          replace hP : va_P D gcl (zS_7 cB cC cI cJ a0 a1 x1 x2 x3 x4 x5 x6 x7 x8 a2 a3 a4 a5 a6 a7 a8 a9 a10 a11 a12 a13 a14 a15 a16 x9 x10 x11 x12 x13 x14 a17 a18 a19 x15 a20 x16 a21 x17 x18 a22 a23 a24 a25 x19 a26 x_5 a27 a28 a29 y0 a30 a31 a32 a33 a34 a35 a36 a37 a38 x21 x22 x23 y1 a39 x24 a40 a41 a42 a43 x25 x26 x27 x28 a26 g0) H := hP
          replace hD : va_D A (zS_7 cB cC cI cJ a0 a1 x1 x2 x3 x4 x5 x6 x7 x8 a2 a3 a4 a5 a6 a7 a8 a9 a10 a11 a12 a13 a14 a15 a16 x9 x10 x11 x12 x13 x14 a17 a18 a19 x15 a20 x16 a21 x17 x18 a22 a23 a24 a25 x19 a26 x_5 a27 a28 a29 y0 a30 a31 a32 a33 a34 a35 a36 a37 a38 x21 x22 x23 y1 a39 x24 a40 a41 a42 a43 x25 x26 x27 x28 a26 g0) := hD
          have hw_33 : ((r_31.toInt = y_29.toInt ∧ y_29.toInt ≤ 1000000 ∧ y_29.toInt ≥ (-1000000)) ∨ (r_31.toInt = (-1000000) ∧ y_29.toInt ≤ 1000000 ∧ y_29.toInt < (-1000000)) ∨ (r_31.toInt = 1000000 ∧ y_29.toInt > 1000000)) := hw_32
          have rr_31 := n_rngL r_31
          refine gd_v (pc := 144) (wc := (zS_7 cB cC cI cJ a0 a1 x1 x2 x3 x4 x5 x6 x7 x8 a2 a3 a4 a5 a6 a7 a8 a9 a10 a11 a12 a13 a14 a15 a16 x9 x10 x11 x12 x13 x14 a17 a18 a19 x15 a20 x16 a21 x17 x18 a22 a23 a24 a25 x19 a26 x_5 a27 a28 a29 y0 a30 a31 a32 a33 a34 a35 a36 a37 a38 x21 x22 x23 y1 a39 x24 a40 a41 a42 a43 x25 x26 x27 x28 a26 g0)) hP hD hS hA [0, 1] rfl (by decide +kernel) (fun _ => by rfl) (fun hPc hDc => va_runV (As := [.long r_31]) (rest := []) ⟨hx, hb, hml, hown, hts⟩ (k_X12_puts l D cB cC cI cJ _ a0 a1 a2 a3 a4 a5 a6 a7 a8 a9 a10 a11 a12 a13 a14 a15 a16 a17 a18 a19 a20 a21 a22 a23 a24 a25 a26 a27 a28 a29 a30 a31 a32 a33 a34 a35 a36 a37 a38 a39 a40 a41 a42 a43 x1 x2 x3 x4 x5 x6 x7 x8 x9 x10 x11 x12 x13 x14 x15 x16 x17 x18 x19 x_5 x21 x22 x23 x24 x25 x26 x27 x28 r_31 y0 y1 g0 h_x1 h_x2 h_x3 h_x4 h_x5 h_x6 h_x9 h_x10 h_x11 h_x12 h_x13 h_x15 h_x16 h_x17 h_x19 (by first | exact (om_1847 ex_5 hg__P h_x20.2) | ((first | omega | (unfold zBd at *; omega)))) h_x21 h_x22 h_x23 h_x24 h_x25 h_x26 h_x27 h_x28 hr_a0_0 hr_a0_1 hr_a0_2 (by first | exact (om_1848 ex_5 h_x20.2) | ((first | omega | (unfold zBd at *; omega))))) ⟨gcwB hts tw_2056 tw_14 tw_2053 hd_yX12_puts ⟨Nat.le_of_ble_eq_true rfl, Nat.le_of_ble_eq_true rfl⟩, hts _ tw_2055, hts _ tp_119⟩ ⟨gblind, va_recv hK hPc (ci := 12) (q0 := 0) rfl rfl, (gpreS hPc hK hDc hN).2⟩ rfl rfl hl.1 rfl (lv_room (Nat.le_of_ble_eq_true rfl)) dX12_joins_144 ⟨Nat.le_of_ble_eq_true rfl, Nat.le_of_ble_eq_true rfl⟩) (fun u_34 H locs hw_36 hP hD hS => ?_)
          replace hP : va_P D gcl (zS_7 cB cC cI cJ a0 a1 x1 x2 x3 x4 x5 x6 x7 x8 a2 a3 a4 a5 a6 a7 a8 a9 a10 a11 a12 a13 a14 a15 a16 x9 x10 x11 x12 x13 x14 a17 a18 a19 x15 a20 x16 a21 x17 x18 a22 a23 a24 a25 x19 a26 (u_34.2.2.2.1 0) a27 a28 a29 y0 a30 a31 a32 a33 a34 a35 a36 a37 a38 x21 x22 x23 y1 a39 x24 a40 a41 a42 a43 x25 x26 x27 x28 a26 (u_34.2.2.1 0)) H := hP
          replace hD : va_D A (zS_7 cB cC cI cJ a0 a1 x1 x2 x3 x4 x5 x6 x7 x8 a2 a3 a4 a5 a6 a7 a8 a9 a10 a11 a12 a13 a14 a15 a16 x9 x10 x11 x12 x13 x14 a17 a18 a19 x15 a20 x16 a21 x17 x18 a22 a23 a24 a25 x19 a26 (u_34.2.2.2.1 0) a27 a28 a29 y0 a30 a31 a32 a33 a34 a35 a36 a37 a38 x21 x22 x23 y1 a39 x24 a40 a41 a42 a43 x25 x26 x27 x28 a26 (u_34.2.2.1 0)) := hD
          obtain ⟨hw_37, hw_38⟩ := hw_36
          replace hw_37 : (((u_34.2.2.2.1 0).toInt = (x_5.toInt) + (1))) := hw_37
          replace hw_38 : zBd (u_34.2.2.2.1 0).toInt 0 1700 := hw_38
          refine lv_goto (pc := 147) (tgt := 289) hx hb dX12_joins_147 (by decide) ?_
          have hP9 : va_P D gcl (zS_7 cB cC cI cJ a0 a1 x1 x2 x3 x4 x5 x6 x7 x8 a2 a3 a4 a5 a6 a7 a8 a9 a10 a11 a12 a13 a14 a15 a16 x9 x10 x11 x12 x13 x14 a17 a18 a19 x15 a20 x16 a21 x17 x18 a22 a23 a24 a25 x19 a26 (u_34.2.2.2.1 0) a27 a28 a29 y0 a30 a31 a32 a33 a34 a35 a36 a37 a38 x21 x22 x23 y1 a39 x24 a40 a41 a42 a43 x25 x26 x27 x28 a26 (u_34.2.2.1 0)) H := g_psub hP [0, 1] rfl
          have hD9 : va_D A (zS_7 cB cC cI cJ a0 a1 x1 x2 x3 x4 x5 x6 x7 x8 a2 a3 a4 a5 a6 a7 a8 a9 a10 a11 a12 a13 a14 a15 a16 x9 x10 x11 x12 x13 x14 a17 a18 a19 x15 a20 x16 a21 x17 x18 a22 a23 a24 a25 x19 a26 (u_34.2.2.2.1 0) a27 a28 a29 y0 a30 a31 a32 a33 a34 a35 a36 a37 a38 x21 x22 x23 y1 a39 x24 a40 a41 a42 a43 x25 x26 x27 x28 a26 (u_34.2.2.1 0)) := hD.sub [0, 1] (by decide) rfl
          exact hret ((fun _ => 0), (fun _ => (fun _ => 0)), (fun k => [(u_34.2.2.1 0)].getD k (fun _ => 0)), (fun k => [(u_34.2.2.2.1 0)].getD k 0), (fun _ => 0)) dX12_joins_289 ⟨(show (0 ≤ ((u_34.2.2.2.1 0) : Int32).toInt ∧ ((u_34.2.2.2.1 0) : Int32).toInt ≤ 1700) from hw_38), (show (u_34.2.2.2.1 0).toInt = x20.toInt - 1 from (by first | exact (om_1849 hw_37 ex_5) | ((first | omega | (unfold zBd at *; omega)))))⟩ hP9 hD9 hS
      by_cases h_39 : x0.toInt = 4
      ·
        as_aux_lemma =>
          refine lv_tableIn (pc := 36) (off := 114) (tgt := 150) hx hb dX12_joins_36 (by rw [h_39]; decide) (by rw [h_39]; decide) (by rw [h_39]; decide +kernel) (by decide) ?_
          refine lv_aload_n (pc := 150) hx hb dX12_joins_150 rfl (lv_at hl 2 rfl) ?_
          refine lv_lload (pc := 151) hx hb dX12_joins_151 (lv_at hl 0 rfl) ?_
          refine lv_lload_n (pc := 153) hx hb dX12_joins_153 rfl (lv_at hl 1 rfl) ?_
          refine gd_l (pc := 154) (wc := []) hP hD hS hA [] rfl (by decide +kernel) (fun _ => by rfl) (fun hPc hDc => va_runS (As := [.long y_4, .long y_2]) (rest := [.ref a0]) ⟨hx, hb, hml, hown, hts⟩ (k_X12_floor l D cB cC cI cJ _ y_4 y_2) ⟨gcwB hts tw_2073 tw_14 tw_2071 hd_yX12_floor ⟨Nat.le_of_ble_eq_true rfl, Nat.le_of_ble_eq_true rfl⟩, hts _ tw_2072⟩ (gpreS hPc hK hDc hN) rfl rfl hl.1 rfl (lv_room (Nat.le_of_ble_eq_true rfl)) dX12_joins_154 ⟨Nat.le_of_ble_eq_true rfl, Nat.le_of_ble_eq_true rfl⟩) (fun r_41 u_40 H locs hw_42 hP hD hS => ?_)
          replace hP : va_P D gcl (zS_7 cB cC cI cJ a0 a1 x1 x2 x3 x4 x5 x6 x7 x8 a2 a3 a4 a5 a6 a7 a8 a9 a10 a11 a12 a13 a14 a15 a16 x9 x10 x11 x12 x13 x14 a17 a18 a19 x15 a20 x16 a21 x17 x18 a22 a23 a24 a25 x19 a26 x_5 a27 a28 a29 y0 a30 a31 a32 a33 a34 a35 a36 a37 a38 x21 x22 x23 y1 a39 x24 a40 a41 a42 a43 x25 x26 x27 x28 a26 g0) H := hP
          replace hD : va_D A (zS_7 cB cC cI cJ a0 a1 x1 x2 x3 x4 x5 x6 x7 x8 a2 a3 a4 a5 a6 a7 a8 a9 a10 a11 a12 a13 a14 a15 a16 x9 x10 x11 x12 x13 x14 a17 a18 a19 x15 a20 x16 a21 x17 x18 a22 a23 a24 a25 x19 a26 x_5 a27 a28 a29 y0 a30 a31 a32 a33 a34 a35 a36 a37 a38 x21 x22 x23 y1 a39 x24 a40 a41 a42 a43 x25 x26 x27 x28 a26 g0) := hD
          have rr_41 := n_rngL r_41
          refine gd_v (pc := 157) (wc := (zS_7 cB cC cI cJ a0 a1 x1 x2 x3 x4 x5 x6 x7 x8 a2 a3 a4 a5 a6 a7 a8 a9 a10 a11 a12 a13 a14 a15 a16 x9 x10 x11 x12 x13 x14 a17 a18 a19 x15 a20 x16 a21 x17 x18 a22 a23 a24 a25 x19 a26 x_5 a27 a28 a29 y0 a30 a31 a32 a33 a34 a35 a36 a37 a38 x21 x22 x23 y1 a39 x24 a40 a41 a42 a43 x25 x26 x27 x28 a26 g0)) hP hD hS hA [0, 1] rfl (by decide +kernel) (fun _ => by rfl) (fun hPc hDc => va_runV (As := [.long r_41]) (rest := []) ⟨hx, hb, hml, hown, hts⟩ (k_X12_puts l D cB cC cI cJ _ a0 a1 a2 a3 a4 a5 a6 a7 a8 a9 a10 a11 a12 a13 a14 a15 a16 a17 a18 a19 a20 a21 a22 a23 a24 a25 a26 a27 a28 a29 a30 a31 a32 a33 a34 a35 a36 a37 a38 a39 a40 a41 a42 a43 x1 x2 x3 x4 x5 x6 x7 x8 x9 x10 x11 x12 x13 x14 x15 x16 x17 x18 x19 x_5 x21 x22 x23 x24 x25 x26 x27 x28 r_41 y0 y1 g0 h_x1 h_x2 h_x3 h_x4 h_x5 h_x6 h_x9 h_x10 h_x11 h_x12 h_x13 h_x15 h_x16 h_x17 h_x19 (by first | exact (om_1847 ex_5 hg__P h_x20.2) | ((first | omega | (unfold zBd at *; omega)))) h_x21 h_x22 h_x23 h_x24 h_x25 h_x26 h_x27 h_x28 hr_a0_0 hr_a0_1 hr_a0_2 (by first | exact (om_1848 ex_5 h_x20.2) | ((first | omega | (unfold zBd at *; omega))))) ⟨gcwB hts tw_2056 tw_14 tw_2053 hd_yX12_puts ⟨Nat.le_of_ble_eq_true rfl, Nat.le_of_ble_eq_true rfl⟩, hts _ tw_2055, hts _ tp_119⟩ ⟨gblind, va_recv hK hPc (ci := 12) (q0 := 0) rfl rfl, (gpreS hPc hK hDc hN).2⟩ rfl rfl hl.1 rfl (lv_room (Nat.le_of_ble_eq_true rfl)) dX12_joins_157 ⟨Nat.le_of_ble_eq_true rfl, Nat.le_of_ble_eq_true rfl⟩) (fun u_43 H locs hw_45 hP hD hS => ?_)
          replace hP : va_P D gcl (zS_7 cB cC cI cJ a0 a1 x1 x2 x3 x4 x5 x6 x7 x8 a2 a3 a4 a5 a6 a7 a8 a9 a10 a11 a12 a13 a14 a15 a16 x9 x10 x11 x12 x13 x14 a17 a18 a19 x15 a20 x16 a21 x17 x18 a22 a23 a24 a25 x19 a26 (u_43.2.2.2.1 0) a27 a28 a29 y0 a30 a31 a32 a33 a34 a35 a36 a37 a38 x21 x22 x23 y1 a39 x24 a40 a41 a42 a43 x25 x26 x27 x28 a26 (u_43.2.2.1 0)) H := hP
          replace hD : va_D A (zS_7 cB cC cI cJ a0 a1 x1 x2 x3 x4 x5 x6 x7 x8 a2 a3 a4 a5 a6 a7 a8 a9 a10 a11 a12 a13 a14 a15 a16 x9 x10 x11 x12 x13 x14 a17 a18 a19 x15 a20 x16 a21 x17 x18 a22 a23 a24 a25 x19 a26 (u_43.2.2.2.1 0) a27 a28 a29 y0 a30 a31 a32 a33 a34 a35 a36 a37 a38 x21 x22 x23 y1 a39 x24 a40 a41 a42 a43 x25 x26 x27 x28 a26 (u_43.2.2.1 0)) := hD
          obtain ⟨hw_46, hw_47⟩ := hw_45
          replace hw_46 : (((u_43.2.2.2.1 0).toInt = (x_5.toInt) + (1))) := hw_46
          replace hw_47 : zBd (u_43.2.2.2.1 0).toInt 0 1700 := hw_47
          refine lv_goto (pc := 160) (tgt := 289) hx hb dX12_joins_160 (by decide) ?_
          have hP9 : va_P D gcl (zS_7 cB cC cI cJ a0 a1 x1 x2 x3 x4 x5 x6 x7 x8 a2 a3 a4 a5 a6 a7 a8 a9 a10 a11 a12 a13 a14 a15 a16 x9 x10 x11 x12 x13 x14 a17 a18 a19 x15 a20 x16 a21 x17 x18 a22 a23 a24 a25 x19 a26 (u_43.2.2.2.1 0) a27 a28 a29 y0 a30 a31 a32 a33 a34 a35 a36 a37 a38 x21 x22 x23 y1 a39 x24 a40 a41 a42 a43 x25 x26 x27 x28 a26 (u_43.2.2.1 0)) H := g_psub hP [0, 1] rfl
          have hD9 : va_D A (zS_7 cB cC cI cJ a0 a1 x1 x2 x3 x4 x5 x6 x7 x8 a2 a3 a4 a5 a6 a7 a8 a9 a10 a11 a12 a13 a14 a15 a16 x9 x10 x11 x12 x13 x14 a17 a18 a19 x15 a20 x16 a21 x17 x18 a22 a23 a24 a25 x19 a26 (u_43.2.2.2.1 0) a27 a28 a29 y0 a30 a31 a32 a33 a34 a35 a36 a37 a38 x21 x22 x23 y1 a39 x24 a40 a41 a42 a43 x25 x26 x27 x28 a26 (u_43.2.2.1 0)) := hD.sub [0, 1] (by decide) rfl
          exact hret ((fun _ => 0), (fun _ => (fun _ => 0)), (fun k => [(u_43.2.2.1 0)].getD k (fun _ => 0)), (fun k => [(u_43.2.2.2.1 0)].getD k 0), (fun _ => 0)) dX12_joins_289 ⟨(show (0 ≤ ((u_43.2.2.2.1 0) : Int32).toInt ∧ ((u_43.2.2.2.1 0) : Int32).toInt ≤ 1700) from hw_47), (show (u_43.2.2.2.1 0).toInt = x20.toInt - 1 from (by first | exact (om_1849 hw_46 ex_5) | ((first | omega | (unfold zBd at *; omega)))))⟩ hP9 hD9 hS
      by_cases h_48 : x0.toInt = 5
      ·
        as_aux_lemma =>
          refine lv_tableIn (pc := 36) (off := 127) (tgt := 163) hx hb dX12_joins_36 (by rw [h_48]; decide) (by rw [h_48]; decide) (by rw [h_48]; decide +kernel) (by decide) ?_
          refine lv_aload_n (pc := 163) hx hb dX12_joins_163 rfl (lv_at hl 2 rfl) ?_
          refine lv_lload (pc := 164) hx hb dX12_joins_164 (lv_at hl 0 rfl) ?_
          refine lv_lload_n (pc := 166) hx hb dX12_joins_166 rfl (lv_at hl 1 rfl) ?_
          refine b_lcmp_ge (pc := 167) (tgt := 176) hx hb rfl rfl dX12_joins_167 dX12_joins_168 (by decide) (fun c_49 => ?_) (fun c_49 => ?_)
          ·
            as_aux_lemma =>
              refine lv_lload_n (pc := 176) hx hb dX12_joins_176 rfl (lv_at hl 1 rfl) ?_
              refine gd_v (pc := 177) (wc := (zS_7 cB cC cI cJ a0 a1 x1 x2 x3 x4 x5 x6 x7 x8 a2 a3 a4 a5 a6 a7 a8 a9 a10 a11 a12 a13 a14 a15 a16 x9 x10 x11 x12 x13 x14 a17 a18 a19 x15 a20 x16 a21 x17 x18 a22 a23 a24 a25 x19 a26 x_5 a27 a28 a29 y0 a30 a31 a32 a33 a34 a35 a36 a37 a38 x21 x22 x23 y1 a39 x24 a40 a41 a42 a43 x25 x26 x27 x28 a26 g0)) hP hD hS hA [0, 1] rfl (by decide +kernel) (fun _ => by rfl) (fun hPc hDc => va_runV (As := [.long y_2]) (rest := []) ⟨hx, hb, hml, hown, hts⟩ (k_X12_puts l D cB cC cI cJ _ a0 a1 a2 a3 a4 a5 a6 a7 a8 a9 a10 a11 a12 a13 a14 a15 a16 a17 a18 a19 a20 a21 a22 a23 a24 a25 a26 a27 a28 a29 a30 a31 a32 a33 a34 a35 a36 a37 a38 a39 a40 a41 a42 a43 x1 x2 x3 x4 x5 x6 x7 x8 x9 x10 x11 x12 x13 x14 x15 x16 x17 x18 x19 x_5 x21 x22 x23 x24 x25 x26 x27 x28 y_2 y0 y1 g0 h_x1 h_x2 h_x3 h_x4 h_x5 h_x6 h_x9 h_x10 h_x11 h_x12 h_x13 h_x15 h_x16 h_x17 h_x19 (by first | exact (om_1847 ex_5 hg__P h_x20.2) | ((first | omega | (unfold zBd at *; omega)))) h_x21 h_x22 h_x23 h_x24 h_x25 h_x26 h_x27 h_x28 hr_a0_0 hr_a0_1 hr_a0_2 (by first | exact (om_1848 ex_5 h_x20.2) | ((first | omega | (unfold zBd at *; omega))))) ⟨gcwB hts tw_2056 tw_14 tw_2053 hd_yX12_puts ⟨Nat.le_of_ble_eq_true rfl, Nat.le_of_ble_eq_true rfl⟩, hts _ tw_2055, hts _ tp_119⟩ ⟨gblind, va_recv hK hPc (ci := 12) (q0 := 0) rfl rfl, (gpreS hPc hK hDc hN).2⟩ rfl rfl hl.1 rfl (lv_room (Nat.le_of_ble_eq_true rfl)) dX12_joins_177 ⟨Nat.le_of_ble_eq_true rfl, Nat.le_of_ble_eq_true rfl⟩) (fun u_50 H locs hw_52 hP hD hS => ?_)
              replace hP : va_P D gcl (zS_7 cB cC cI cJ a0 a1 x1 x2 x3 x4 x5 x6 x7 x8 a2 a3 a4 a5 a6 a7 a8 a9 a10 a11 a12 a13 a14 a15 a16 x9 x10 x11 x12 x13 x14 a17 a18 a19 x15 a20 x16 a21 x17 x18 a22 a23 a24 a25 x19 a26 (u_50.2.2.2.1 0) a27 a28 a29 y0 a30 a31 a32 a33 a34 a35 a36 a37 a38 x21 x22 x23 y1 a39 x24 a40 a41 a42 a43 x25 x26 x27 x28 a26 (u_50.2.2.1 0)) H := hP
              replace hD : va_D A (zS_7 cB cC cI cJ a0 a1 x1 x2 x3 x4 x5 x6 x7 x8 a2 a3 a4 a5 a6 a7 a8 a9 a10 a11 a12 a13 a14 a15 a16 x9 x10 x11 x12 x13 x14 a17 a18 a19 x15 a20 x16 a21 x17 x18 a22 a23 a24 a25 x19 a26 (u_50.2.2.2.1 0) a27 a28 a29 y0 a30 a31 a32 a33 a34 a35 a36 a37 a38 x21 x22 x23 y1 a39 x24 a40 a41 a42 a43 x25 x26 x27 x28 a26 (u_50.2.2.1 0)) := hD
              obtain ⟨hw_53, hw_54⟩ := hw_52
              replace hw_53 : (((u_50.2.2.2.1 0).toInt = (x_5.toInt) + (1))) := hw_53
              replace hw_54 : zBd (u_50.2.2.2.1 0).toInt 0 1700 := hw_54
              refine lv_goto (pc := 180) (tgt := 289) hx hb dX12_joins_180 (by decide) ?_
              have hP9 : va_P D gcl (zS_7 cB cC cI cJ a0 a1 x1 x2 x3 x4 x5 x6 x7 x8 a2 a3 a4 a5 a6 a7 a8 a9 a10 a11 a12 a13 a14 a15 a16 x9 x10 x11 x12 x13 x14 a17 a18 a19 x15 a20 x16 a21 x17 x18 a22 a23 a24 a25 x19 a26 (u_50.2.2.2.1 0) a27 a28 a29 y0 a30 a31 a32 a33 a34 a35 a36 a37 a38 x21 x22 x23 y1 a39 x24 a40 a41 a42 a43 x25 x26 x27 x28 a26 (u_50.2.2.1 0)) H := g_psub hP [0, 1] rfl
              have hD9 : va_D A (zS_7 cB cC cI cJ a0 a1 x1 x2 x3 x4 x5 x6 x7 x8 a2 a3 a4 a5 a6 a7 a8 a9 a10 a11 a12 a13 a14 a15 a16 x9 x10 x11 x12 x13 x14 a17 a18 a19 x15 a20 x16 a21 x17 x18 a22 a23 a24 a25 x19 a26 (u_50.2.2.2.1 0) a27 a28 a29 y0 a30 a31 a32 a33 a34 a35 a36 a37 a38 x21 x22 x23 y1 a39 x24 a40 a41 a42 a43 x25 x26 x27 x28 a26 (u_50.2.2.1 0)) := hD.sub [0, 1] (by decide) rfl
              exact hret ((fun _ => 0), (fun _ => (fun _ => 0)), (fun k => [(u_50.2.2.1 0)].getD k (fun _ => 0)), (fun k => [(u_50.2.2.2.1 0)].getD k 0), (fun _ => 0)) dX12_joins_289 ⟨(show (0 ≤ ((u_50.2.2.2.1 0) : Int32).toInt ∧ ((u_50.2.2.2.1 0) : Int32).toInt ≤ 1700) from hw_54), (show (u_50.2.2.2.1 0).toInt = x20.toInt - 1 from (by first | exact (om_1849 hw_53 ex_5) | ((first | omega | (unfold zBd at *; omega)))))⟩ hP9 hD9 hS
          ·
            as_aux_lemma =>
              refine lv_lload (pc := 171) hx hb dX12_joins_171 (lv_at hl 0 rfl) ?_
              refine lv_goto (pc := 173) (tgt := 177) hx hb dX12_joins_173 (by decide) ?_
              refine gd_v (pc := 177) (wc := (zS_7 cB cC cI cJ a0 a1 x1 x2 x3 x4 x5 x6 x7 x8 a2 a3 a4 a5 a6 a7 a8 a9 a10 a11 a12 a13 a14 a15 a16 x9 x10 x11 x12 x13 x14 a17 a18 a19 x15 a20 x16 a21 x17 x18 a22 a23 a24 a25 x19 a26 x_5 a27 a28 a29 y0 a30 a31 a32 a33 a34 a35 a36 a37 a38 x21 x22 x23 y1 a39 x24 a40 a41 a42 a43 x25 x26 x27 x28 a26 g0)) hP hD hS hA [0, 1] rfl (by decide +kernel) (fun _ => by rfl) (fun hPc hDc => va_runV (As := [.long y_4]) (rest := []) ⟨hx, hb, hml, hown, hts⟩ (k_X12_puts l D cB cC cI cJ _ a0 a1 a2 a3 a4 a5 a6 a7 a8 a9 a10 a11 a12 a13 a14 a15 a16 a17 a18 a19 a20 a21 a22 a23 a24 a25 a26 a27 a28 a29 a30 a31 a32 a33 a34 a35 a36 a37 a38 a39 a40 a41 a42 a43 x1 x2 x3 x4 x5 x6 x7 x8 x9 x10 x11 x12 x13 x14 x15 x16 x17 x18 x19 x_5 x21 x22 x23 x24 x25 x26 x27 x28 y_4 y0 y1 g0 h_x1 h_x2 h_x3 h_x4 h_x5 h_x6 h_x9 h_x10 h_x11 h_x12 h_x13 h_x15 h_x16 h_x17 h_x19 (by first | exact (om_1847 ex_5 hg__P h_x20.2) | ((first | omega | (unfold zBd at *; omega)))) h_x21 h_x22 h_x23 h_x24 h_x25 h_x26 h_x27 h_x28 hr_a0_0 hr_a0_1 hr_a0_2 (by first | exact (om_1848 ex_5 h_x20.2) | ((first | omega | (unfold zBd at *; omega))))) ⟨gcwB hts tw_2056 tw_14 tw_2053 hd_yX12_puts ⟨Nat.le_of_ble_eq_true rfl, Nat.le_of_ble_eq_true rfl⟩, hts _ tw_2055, hts _ tp_119⟩ ⟨gblind, va_recv hK hPc (ci := 12) (q0 := 0) rfl rfl, (gpreS hPc hK hDc hN).2⟩ rfl rfl hl.1 rfl (lv_room (Nat.le_of_ble_eq_true rfl)) dX12_joins_177 ⟨Nat.le_of_ble_eq_true rfl, Nat.le_of_ble_eq_true rfl⟩) (fun u_55 H locs hw_57 hP hD hS => ?_)
              replace hP : va_P D gcl (zS_7 cB cC cI cJ a0 a1 x1 x2 x3 x4 x5 x6 x7 x8 a2 a3 a4 a5 a6 a7 a8 a9 a10 a11 a12 a13 a14 a15 a16 x9 x10 x11 x12 x13 x14 a17 a18 a19 x15 a20 x16 a21 x17 x18 a22 a23 a24 a25 x19 a26 (u_55.2.2.2.1 0) a27 a28 a29 y0 a30 a31 a32 a33 a34 a35 a36 a37 a38 x21 x22 x23 y1 a39 x24 a40 a41 a42 a43 x25 x26 x27 x28 a26 (u_55.2.2.1 0)) H := hP
              replace hD : va_D A (zS_7 cB cC cI cJ a0 a1 x1 x2 x3 x4 x5 x6 x7 x8 a2 a3 a4 a5 a6 a7 a8 a9 a10 a11 a12 a13 a14 a15 a16 x9 x10 x11 x12 x13 x14 a17 a18 a19 x15 a20 x16 a21 x17 x18 a22 a23 a24 a25 x19 a26 (u_55.2.2.2.1 0) a27 a28 a29 y0 a30 a31 a32 a33 a34 a35 a36 a37 a38 x21 x22 x23 y1 a39 x24 a40 a41 a42 a43 x25 x26 x27 x28 a26 (u_55.2.2.1 0)) := hD
              obtain ⟨hw_58, hw_59⟩ := hw_57
              replace hw_58 : (((u_55.2.2.2.1 0).toInt = (x_5.toInt) + (1))) := hw_58
              replace hw_59 : zBd (u_55.2.2.2.1 0).toInt 0 1700 := hw_59
              refine lv_goto (pc := 180) (tgt := 289) hx hb dX12_joins_180 (by decide) ?_
              have hP9 : va_P D gcl (zS_7 cB cC cI cJ a0 a1 x1 x2 x3 x4 x5 x6 x7 x8 a2 a3 a4 a5 a6 a7 a8 a9 a10 a11 a12 a13 a14 a15 a16 x9 x10 x11 x12 x13 x14 a17 a18 a19 x15 a20 x16 a21 x17 x18 a22 a23 a24 a25 x19 a26 (u_55.2.2.2.1 0) a27 a28 a29 y0 a30 a31 a32 a33 a34 a35 a36 a37 a38 x21 x22 x23 y1 a39 x24 a40 a41 a42 a43 x25 x26 x27 x28 a26 (u_55.2.2.1 0)) H := g_psub hP [0, 1] rfl
              have hD9 : va_D A (zS_7 cB cC cI cJ a0 a1 x1 x2 x3 x4 x5 x6 x7 x8 a2 a3 a4 a5 a6 a7 a8 a9 a10 a11 a12 a13 a14 a15 a16 x9 x10 x11 x12 x13 x14 a17 a18 a19 x15 a20 x16 a21 x17 x18 a22 a23 a24 a25 x19 a26 (u_55.2.2.2.1 0) a27 a28 a29 y0 a30 a31 a32 a33 a34 a35 a36 a37 a38 x21 x22 x23 y1 a39 x24 a40 a41 a42 a43 x25 x26 x27 x28 a26 (u_55.2.2.1 0)) := hD.sub [0, 1] (by decide) rfl
              exact hret ((fun _ => 0), (fun _ => (fun _ => 0)), (fun k => [(u_55.2.2.1 0)].getD k (fun _ => 0)), (fun k => [(u_55.2.2.2.1 0)].getD k 0), (fun _ => 0)) dX12_joins_289 ⟨(show (0 ≤ ((u_55.2.2.2.1 0) : Int32).toInt ∧ ((u_55.2.2.2.1 0) : Int32).toInt ≤ 1700) from hw_59), (show (u_55.2.2.2.1 0).toInt = x20.toInt - 1 from (by first | exact (om_1849 hw_58 ex_5) | ((first | omega | (unfold zBd at *; omega)))))⟩ hP9 hD9 hS
      by_cases h_60 : x0.toInt = 6
      ·
        as_aux_lemma =>
          refine lv_tableIn (pc := 36) (off := 147) (tgt := 183) hx hb dX12_joins_36 (by rw [h_60]; decide) (by rw [h_60]; decide) (by rw [h_60]; decide +kernel) (by decide) ?_
          refine lv_aload_n (pc := 183) hx hb dX12_joins_183 rfl (lv_at hl 2 rfl) ?_
          refine lv_lload (pc := 184) hx hb dX12_joins_184 (lv_at hl 0 rfl) ?_
          refine lv_lload_n (pc := 186) hx hb dX12_joins_186 rfl (lv_at hl 1 rfl) ?_
          refine b_lcmp_le (pc := 187) (tgt := 196) hx hb rfl rfl dX12_joins_187 dX12_joins_188 (by decide) (fun c_61 => ?_) (fun c_61 => ?_)
          ·
            as_aux_lemma =>
              refine lv_lload_n (pc := 196) hx hb dX12_joins_196 rfl (lv_at hl 1 rfl) ?_
              refine gd_v (pc := 197) (wc := (zS_7 cB cC cI cJ a0 a1 x1 x2 x3 x4 x5 x6 x7 x8 a2 a3 a4 a5 a6 a7 a8 a9 a10 a11 a12 a13 a14 a15 a16 x9 x10 x11 x12 x13 x14 a17 a18 a19 x15 a20 x16 a21 x17 x18 a22 a23 a24 a25 x19 a26 x_5 a27 a28 a29 y0 a30 a31 a32 a33 a34 a35 a36 a37 a38 x21 x22 x23 y1 a39 x24 a40 a41 a42 a43 x25 x26 x27 x28 a26 g0)) hP hD hS hA [0, 1] rfl (by decide +kernel) (fun _ => by rfl) (fun hPc hDc => va_runV (As := [.long y_2]) (rest := []) ⟨hx, hb, hml, hown, hts⟩ (k_X12_puts l D cB cC cI cJ _ a0 a1 a2 a3 a4 a5 a6 a7 a8 a9 a10 a11 a12 a13 a14 a15 a16 a17 a18 a19 a20 a21 a22 a23 a24 a25 a26 a27 a28 a29 a30 a31 a32 a33 a34 a35 a36 a37 a38 a39 a40 a41 a42 a43 x1 x2 x3 x4 x5 x6 x7 x8 x9 x10 x11 x12 x13 x14 x15 x16 x17 x18 x19 x_5 x21 x22 x23 x24 x25 x26 x27 x28 y_2 y0 y1 g0 h_x1 h_x2 h_x3 h_x4 h_x5 h_x6 h_x9 h_x10 h_x11 h_x12 h_x13 h_x15 h_x16 h_x17 h_x19 (by first | exact (om_1847 ex_5 hg__P h_x20.2) | ((first | omega | (unfold zBd at *; omega)))) h_x21 h_x22 h_x23 h_x24 h_x25 h_x26 h_x27 h_x28 hr_a0_0 hr_a0_1 hr_a0_2 (by first | exact (om_1848 ex_5 h_x20.2) | ((first | omega | (unfold zBd at *; omega))))) ⟨gcwB hts tw_2056 tw_14 tw_2053 hd_yX12_puts ⟨Nat.le_of_ble_eq_true rfl, Nat.le_of_ble_eq_true rfl⟩, hts _ tw_2055, hts _ tp_119⟩ ⟨gblind, va_recv hK hPc (ci := 12) (q0 := 0) rfl rfl, (gpreS hPc hK hDc hN).2⟩ rfl rfl hl.1 rfl (lv_room (Nat.le_of_ble_eq_true rfl)) dX12_joins_197 ⟨Nat.le_of_ble_eq_true rfl, Nat.le_of_ble_eq_true rfl⟩) (fun u_62 H locs hw_64 hP hD hS => ?_)
              replace hP : va_P D gcl (zS_7 cB cC cI cJ a0 a1 x1 x2 x3 x4 x5 x6 x7 x8 a2 a3 a4 a5 a6 a7 a8 a9 a10 a11 a12 a13 a14 a15 a16 x9 x10 x11 x12 x13 x14 a17 a18 a19 x15 a20 x16 a21 x17 x18 a22 a23 a24 a25 x19 a26 (u_62.2.2.2.1 0) a27 a28 a29 y0 a30 a31 a32 a33 a34 a35 a36 a37 a38 x21 x22 x23 y1 a39 x24 a40 a41 a42 a43 x25 x26 x27 x28 a26 (u_62.2.2.1 0)) H := hP
              replace hD : va_D A (zS_7 cB cC cI cJ a0 a1 x1 x2 x3 x4 x5 x6 x7 x8 a2 a3 a4 a5 a6 a7 a8 a9 a10 a11 a12 a13 a14 a15 a16 x9 x10 x11 x12 x13 x14 a17 a18 a19 x15 a20 x16 a21 x17 x18 a22 a23 a24 a25 x19 a26 (u_62.2.2.2.1 0) a27 a28 a29 y0 a30 a31 a32 a33 a34 a35 a36 a37 a38 x21 x22 x23 y1 a39 x24 a40 a41 a42 a43 x25 x26 x27 x28 a26 (u_62.2.2.1 0)) := hD
              obtain ⟨hw_65, hw_66⟩ := hw_64
              replace hw_65 : (((u_62.2.2.2.1 0).toInt = (x_5.toInt) + (1))) := hw_65
              replace hw_66 : zBd (u_62.2.2.2.1 0).toInt 0 1700 := hw_66
              refine lv_goto (pc := 200) (tgt := 289) hx hb dX12_joins_200 (by decide) ?_
              have hP9 : va_P D gcl (zS_7 cB cC cI cJ a0 a1 x1 x2 x3 x4 x5 x6 x7 x8 a2 a3 a4 a5 a6 a7 a8 a9 a10 a11 a12 a13 a14 a15 a16 x9 x10 x11 x12 x13 x14 a17 a18 a19 x15 a20 x16 a21 x17 x18 a22 a23 a24 a25 x19 a26 (u_62.2.2.2.1 0) a27 a28 a29 y0 a30 a31 a32 a33 a34 a35 a36 a37 a38 x21 x22 x23 y1 a39 x24 a40 a41 a42 a43 x25 x26 x27 x28 a26 (u_62.2.2.1 0)) H := g_psub hP [0, 1] rfl
              have hD9 : va_D A (zS_7 cB cC cI cJ a0 a1 x1 x2 x3 x4 x5 x6 x7 x8 a2 a3 a4 a5 a6 a7 a8 a9 a10 a11 a12 a13 a14 a15 a16 x9 x10 x11 x12 x13 x14 a17 a18 a19 x15 a20 x16 a21 x17 x18 a22 a23 a24 a25 x19 a26 (u_62.2.2.2.1 0) a27 a28 a29 y0 a30 a31 a32 a33 a34 a35 a36 a37 a38 x21 x22 x23 y1 a39 x24 a40 a41 a42 a43 x25 x26 x27 x28 a26 (u_62.2.2.1 0)) := hD.sub [0, 1] (by decide) rfl
              exact hret ((fun _ => 0), (fun _ => (fun _ => 0)), (fun k => [(u_62.2.2.1 0)].getD k (fun _ => 0)), (fun k => [(u_62.2.2.2.1 0)].getD k 0), (fun _ => 0)) dX12_joins_289 ⟨(show (0 ≤ ((u_62.2.2.2.1 0) : Int32).toInt ∧ ((u_62.2.2.2.1 0) : Int32).toInt ≤ 1700) from hw_66), (show (u_62.2.2.2.1 0).toInt = x20.toInt - 1 from (by first | exact (om_1849 hw_65 ex_5) | ((first | omega | (unfold zBd at *; omega)))))⟩ hP9 hD9 hS
          ·
            as_aux_lemma =>
              refine lv_lload (pc := 191) hx hb dX12_joins_191 (lv_at hl 0 rfl) ?_
              refine lv_goto (pc := 193) (tgt := 197) hx hb dX12_joins_193 (by decide) ?_
              refine gd_v (pc := 197) (wc := (zS_7 cB cC cI cJ a0 a1 x1 x2 x3 x4 x5 x6 x7 x8 a2 a3 a4 a5 a6 a7 a8 a9 a10 a11 a12 a13 a14 a15 a16 x9 x10 x11 x12 x13 x14 a17 a18 a19 x15 a20 x16 a21 x17 x18 a22 a23 a24 a25 x19 a26 x_5 a27 a28 a29 y0 a30 a31 a32 a33 a34 a35 a36 a37 a38 x21 x22 x23 y1 a39 x24 a40 a41 a42 a43 x25 x26 x27 x28 a26 g0)) hP hD hS hA [0, 1] rfl (by decide +kernel) (fun _ => by rfl) (fun hPc hDc => va_runV (As := [.long y_4]) (rest := []) ⟨hx, hb, hml, hown, hts⟩ (k_X12_puts l D cB cC cI cJ _ a0 a1 a2 a3 a4 a5 a6 a7 a8 a9 a10 a11 a12 a13 a14 a15 a16 a17 a18 a19 a20 a21 a22 a23 a24 a25 a26 a27 a28 a29 a30 a31 a32 a33 a34 a35 a36 a37 a38 a39 a40 a41 a42 a43 x1 x2 x3 x4 x5 x6 x7 x8 x9 x10 x11 x12 x13 x14 x15 x16 x17 x18 x19 x_5 x21 x22 x23 x24 x25 x26 x27 x28 y_4 y0 y1 g0 h_x1 h_x2 h_x3 h_x4 h_x5 h_x6 h_x9 h_x10 h_x11 h_x12 h_x13 h_x15 h_x16 h_x17 h_x19 (by first | exact (om_1847 ex_5 hg__P h_x20.2) | ((first | omega | (unfold zBd at *; omega)))) h_x21 h_x22 h_x23 h_x24 h_x25 h_x26 h_x27 h_x28 hr_a0_0 hr_a0_1 hr_a0_2 (by first | exact (om_1848 ex_5 h_x20.2) | ((first | omega | (unfold zBd at *; omega))))) ⟨gcwB hts tw_2056 tw_14 tw_2053 hd_yX12_puts ⟨Nat.le_of_ble_eq_true rfl, Nat.le_of_ble_eq_true rfl⟩, hts _ tw_2055, hts _ tp_119⟩ ⟨gblind, va_recv hK hPc (ci := 12) (q0 := 0) rfl rfl, (gpreS hPc hK hDc hN).2⟩ rfl rfl hl.1 rfl (lv_room (Nat.le_of_ble_eq_true rfl)) dX12_joins_197 ⟨Nat.le_of_ble_eq_true rfl, Nat.le_of_ble_eq_true rfl⟩) (fun u_67 H locs hw_69 hP hD hS => ?_)
              replace hP : va_P D gcl (zS_7 cB cC cI cJ a0 a1 x1 x2 x3 x4 x5 x6 x7 x8 a2 a3 a4 a5 a6 a7 a8 a9 a10 a11 a12 a13 a14 a15 a16 x9 x10 x11 x12 x13 x14 a17 a18 a19 x15 a20 x16 a21 x17 x18 a22 a23 a24 a25 x19 a26 (u_67.2.2.2.1 0) a27 a28 a29 y0 a30 a31 a32 a33 a34 a35 a36 a37 a38 x21 x22 x23 y1 a39 x24 a40 a41 a42 a43 x25 x26 x27 x28 a26 (u_67.2.2.1 0)) H := hP
              replace hD : va_D A (zS_7 cB cC cI cJ a0 a1 x1 x2 x3 x4 x5 x6 x7 x8 a2 a3 a4 a5 a6 a7 a8 a9 a10 a11 a12 a13 a14 a15 a16 x9 x10 x11 x12 x13 x14 a17 a18 a19 x15 a20 x16 a21 x17 x18 a22 a23 a24 a25 x19 a26 (u_67.2.2.2.1 0) a27 a28 a29 y0 a30 a31 a32 a33 a34 a35 a36 a37 a38 x21 x22 x23 y1 a39 x24 a40 a41 a42 a43 x25 x26 x27 x28 a26 (u_67.2.2.1 0)) := hD
              obtain ⟨hw_70, hw_71⟩ := hw_69
              replace hw_70 : (((u_67.2.2.2.1 0).toInt = (x_5.toInt) + (1))) := hw_70
              replace hw_71 : zBd (u_67.2.2.2.1 0).toInt 0 1700 := hw_71
              refine lv_goto (pc := 200) (tgt := 289) hx hb dX12_joins_200 (by decide) ?_
              have hP9 : va_P D gcl (zS_7 cB cC cI cJ a0 a1 x1 x2 x3 x4 x5 x6 x7 x8 a2 a3 a4 a5 a6 a7 a8 a9 a10 a11 a12 a13 a14 a15 a16 x9 x10 x11 x12 x13 x14 a17 a18 a19 x15 a20 x16 a21 x17 x18 a22 a23 a24 a25 x19 a26 (u_67.2.2.2.1 0) a27 a28 a29 y0 a30 a31 a32 a33 a34 a35 a36 a37 a38 x21 x22 x23 y1 a39 x24 a40 a41 a42 a43 x25 x26 x27 x28 a26 (u_67.2.2.1 0)) H := g_psub hP [0, 1] rfl
              have hD9 : va_D A (zS_7 cB cC cI cJ a0 a1 x1 x2 x3 x4 x5 x6 x7 x8 a2 a3 a4 a5 a6 a7 a8 a9 a10 a11 a12 a13 a14 a15 a16 x9 x10 x11 x12 x13 x14 a17 a18 a19 x15 a20 x16 a21 x17 x18 a22 a23 a24 a25 x19 a26 (u_67.2.2.2.1 0) a27 a28 a29 y0 a30 a31 a32 a33 a34 a35 a36 a37 a38 x21 x22 x23 y1 a39 x24 a40 a41 a42 a43 x25 x26 x27 x28 a26 (u_67.2.2.1 0)) := hD.sub [0, 1] (by decide) rfl
              exact hret ((fun _ => 0), (fun _ => (fun _ => 0)), (fun k => [(u_67.2.2.1 0)].getD k (fun _ => 0)), (fun k => [(u_67.2.2.2.1 0)].getD k 0), (fun _ => 0)) dX12_joins_289 ⟨(show (0 ≤ ((u_67.2.2.2.1 0) : Int32).toInt ∧ ((u_67.2.2.2.1 0) : Int32).toInt ≤ 1700) from hw_71), (show (u_67.2.2.2.1 0).toInt = x20.toInt - 1 from (by first | exact (om_1849 hw_70 ex_5) | ((first | omega | (unfold zBd at *; omega)))))⟩ hP9 hD9 hS
      by_cases h_72 : x0.toInt = 7
      ·
        as_aux_lemma =>
          refine lv_tableIn (pc := 36) (off := 235) (tgt := 271) hx hb dX12_joins_36 (by rw [h_72]; decide) (by rw [h_72]; decide) (by rw [h_72]; decide +kernel) (by decide) ?_
          refine lv_aload_n (pc := 271) hx hb dX12_joins_271 rfl (lv_at hl 2 rfl) ?_
          refine lv_lload (pc := 272) hx hb dX12_joins_272 (lv_at hl 0 rfl) ?_
          refine lv_lload_n (pc := 274) hx hb dX12_joins_274 rfl (lv_at hl 1 rfl) ?_
          refine lv_ladd (pc := 275) hx hb dX12_joins_275 ?_
          refine lv_topl (fun y_73 _ => ?_)
          have ry_73 := n_rngL y_73
          refine lv_lconst (pc := 276) (v := 0) hx hb dX12_joins_276 (by decide) ?_
          refine b_lcmp_le (pc := 277) (tgt := 285) hx hb rfl tL_0 dX12_joins_277 dX12_joins_278 (by decide) (fun c_74 => ?_) (fun c_74 => ?_)
          ·
            as_aux_lemma =>
              refine lv_lconst (pc := 285) (v := 0) hx hb dX12_joins_285 (by decide) ?_
              refine gd_v (pc := 286) (wc := (zS_7 cB cC cI cJ a0 a1 x1 x2 x3 x4 x5 x6 x7 x8 a2 a3 a4 a5 a6 a7 a8 a9 a10 a11 a12 a13 a14 a15 a16 x9 x10 x11 x12 x13 x14 a17 a18 a19 x15 a20 x16 a21 x17 x18 a22 a23 a24 a25 x19 a26 x_5 a27 a28 a29 y0 a30 a31 a32 a33 a34 a35 a36 a37 a38 x21 x22 x23 y1 a39 x24 a40 a41 a42 a43 x25 x26 x27 x28 a26 g0)) hP hD hS hA [0, 1] rfl (by decide +kernel) (fun _ => by rfl) (fun hPc hDc => va_runV (As := [.long 0]) (rest := []) ⟨hx, hb, hml, hown, hts⟩ (k_X12_puts l D cB cC cI cJ _ a0 a1 a2 a3 a4 a5 a6 a7 a8 a9 a10 a11 a12 a13 a14 a15 a16 a17 a18 a19 a20 a21 a22 a23 a24 a25 a26 a27 a28 a29 a30 a31 a32 a33 a34 a35 a36 a37 a38 a39 a40 a41 a42 a43 x1 x2 x3 x4 x5 x6 x7 x8 x9 x10 x11 x12 x13 x14 x15 x16 x17 x18 x19 x_5 x21 x22 x23 x24 x25 x26 x27 x28 0 y0 y1 g0 h_x1 h_x2 h_x3 h_x4 h_x5 h_x6 h_x9 h_x10 h_x11 h_x12 h_x13 h_x15 h_x16 h_x17 h_x19 (by first | exact (om_1847 ex_5 hg__P h_x20.2) | (have k0 := tL_0; (first | omega | (unfold zBd at *; omega)))) h_x21 h_x22 h_x23 h_x24 h_x25 h_x26 h_x27 h_x28 hr_a0_0 hr_a0_1 hr_a0_2 (by first | exact (om_1848 ex_5 h_x20.2) | (have k0 := tL_0; (first | omega | (unfold zBd at *; omega))))) ⟨gcwB hts tw_2056 tw_14 tw_2053 hd_yX12_puts ⟨Nat.le_of_ble_eq_true rfl, Nat.le_of_ble_eq_true rfl⟩, hts _ tw_2055, hts _ tp_119⟩ ⟨gblind, va_recv hK hPc (ci := 12) (q0 := 0) rfl rfl, (gpreS hPc hK hDc hN).2⟩ rfl rfl hl.1 rfl (lv_room (Nat.le_of_ble_eq_true rfl)) dX12_joins_286 ⟨Nat.le_of_ble_eq_true rfl, Nat.le_of_ble_eq_true rfl⟩) (fun u_75 H locs hw_77 hP hD hS => ?_)
              replace hP : va_P D gcl (zS_7 cB cC cI cJ a0 a1 x1 x2 x3 x4 x5 x6 x7 x8 a2 a3 a4 a5 a6 a7 a8 a9 a10 a11 a12 a13 a14 a15 a16 x9 x10 x11 x12 x13 x14 a17 a18 a19 x15 a20 x16 a21 x17 x18 a22 a23 a24 a25 x19 a26 (u_75.2.2.2.1 0) a27 a28 a29 y0 a30 a31 a32 a33 a34 a35 a36 a37 a38 x21 x22 x23 y1 a39 x24 a40 a41 a42 a43 x25 x26 x27 x28 a26 (u_75.2.2.1 0)) H := hP
              replace hD : va_D A (zS_7 cB cC cI cJ a0 a1 x1 x2 x3 x4 x5 x6 x7 x8 a2 a3 a4 a5 a6 a7 a8 a9 a10 a11 a12 a13 a14 a15 a16 x9 x10 x11 x12 x13 x14 a17 a18 a19 x15 a20 x16 a21 x17 x18 a22 a23 a24 a25 x19 a26 (u_75.2.2.2.1 0) a27 a28 a29 y0 a30 a31 a32 a33 a34 a35 a36 a37 a38 x21 x22 x23 y1 a39 x24 a40 a41 a42 a43 x25 x26 x27 x28 a26 (u_75.2.2.1 0)) := hD
              obtain ⟨hw_78, hw_79⟩ := hw_77
              replace hw_78 : (((u_75.2.2.2.1 0).toInt = (x_5.toInt) + (1))) := hw_78
              replace hw_79 : zBd (u_75.2.2.2.1 0).toInt 0 1700 := hw_79
              have kk0_r_76 := tL_0
              have hP9 : va_P D gcl (zS_7 cB cC cI cJ a0 a1 x1 x2 x3 x4 x5 x6 x7 x8 a2 a3 a4 a5 a6 a7 a8 a9 a10 a11 a12 a13 a14 a15 a16 x9 x10 x11 x12 x13 x14 a17 a18 a19 x15 a20 x16 a21 x17 x18 a22 a23 a24 a25 x19 a26 (u_75.2.2.2.1 0) a27 a28 a29 y0 a30 a31 a32 a33 a34 a35 a36 a37 a38 x21 x22 x23 y1 a39 x24 a40 a41 a42 a43 x25 x26 x27 x28 a26 (u_75.2.2.1 0)) H := g_psub hP [0, 1] rfl
              have hD9 : va_D A (zS_7 cB cC cI cJ a0 a1 x1 x2 x3 x4 x5 x6 x7 x8 a2 a3 a4 a5 a6 a7 a8 a9 a10 a11 a12 a13 a14 a15 a16 x9 x10 x11 x12 x13 x14 a17 a18 a19 x15 a20 x16 a21 x17 x18 a22 a23 a24 a25 x19 a26 (u_75.2.2.2.1 0) a27 a28 a29 y0 a30 a31 a32 a33 a34 a35 a36 a37 a38 x21 x22 x23 y1 a39 x24 a40 a41 a42 a43 x25 x26 x27 x28 a26 (u_75.2.2.1 0)) := hD.sub [0, 1] (by decide) rfl
              exact hret ((fun _ => 0), (fun _ => (fun _ => 0)), (fun k => [(u_75.2.2.1 0)].getD k (fun _ => 0)), (fun k => [(u_75.2.2.2.1 0)].getD k 0), (fun _ => 0)) dX12_joins_289 ⟨(show (0 ≤ ((u_75.2.2.2.1 0) : Int32).toInt ∧ ((u_75.2.2.2.1 0) : Int32).toInt ≤ 1700) from hw_79), (show (u_75.2.2.2.1 0).toInt = x20.toInt - 1 from (by first | exact (om_1849 hw_78 ex_5) | ((first | omega | (unfold zBd at *; omega)))))⟩ hP9 hD9 hS
          ·
            as_aux_lemma =>
              refine lv_lconst (pc := 281) (v := 1) hx hb dX12_joins_281 (by decide) ?_
              refine lv_goto (pc := 282) (tgt := 286) hx hb dX12_joins_282 (by decide) ?_
              refine gd_v (pc := 286) (wc := (zS_7 cB cC cI cJ a0 a1 x1 x2 x3 x4 x5 x6 x7 x8 a2 a3 a4 a5 a6 a7 a8 a9 a10 a11 a12 a13 a14 a15 a16 x9 x10 x11 x12 x13 x14 a17 a18 a19 x15 a20 x16 a21 x17 x18 a22 a23 a24 a25 x19 a26 x_5 a27 a28 a29 y0 a30 a31 a32 a33 a34 a35 a36 a37 a38 x21 x22 x23 y1 a39 x24 a40 a41 a42 a43 x25 x26 x27 x28 a26 g0)) hP hD hS hA [0, 1] rfl (by decide +kernel) (fun _ => by rfl) (fun hPc hDc => va_runV (As := [.long 1]) (rest := []) ⟨hx, hb, hml, hown, hts⟩ (k_X12_puts l D cB cC cI cJ _ a0 a1 a2 a3 a4 a5 a6 a7 a8 a9 a10 a11 a12 a13 a14 a15 a16 a17 a18 a19 a20 a21 a22 a23 a24 a25 a26 a27 a28 a29 a30 a31 a32 a33 a34 a35 a36 a37 a38 a39 a40 a41 a42 a43 x1 x2 x3 x4 x5 x6 x7 x8 x9 x10 x11 x12 x13 x14 x15 x16 x17 x18 x19 x_5 x21 x22 x23 x24 x25 x26 x27 x28 1 y0 y1 g0 h_x1 h_x2 h_x3 h_x4 h_x5 h_x6 h_x9 h_x10 h_x11 h_x12 h_x13 h_x15 h_x16 h_x17 h_x19 (by first | exact (om_1847 ex_5 hg__P h_x20.2) | (have k0 := tL_1; (first | omega | (unfold zBd at *; omega)))) h_x21 h_x22 h_x23 h_x24 h_x25 h_x26 h_x27 h_x28 hr_a0_0 hr_a0_1 hr_a0_2 (by first | exact (om_1848 ex_5 h_x20.2) | (have k0 := tL_1; (first | omega | (unfold zBd at *; omega))))) ⟨gcwB hts tw_2056 tw_14 tw_2053 hd_yX12_puts ⟨Nat.le_of_ble_eq_true rfl, Nat.le_of_ble_eq_true rfl⟩, hts _ tw_2055, hts _ tp_119⟩ ⟨gblind, va_recv hK hPc (ci := 12) (q0 := 0) rfl rfl, (gpreS hPc hK hDc hN).2⟩ rfl rfl hl.1 rfl (lv_room (Nat.le_of_ble_eq_true rfl)) dX12_joins_286 ⟨Nat.le_of_ble_eq_true rfl, Nat.le_of_ble_eq_true rfl⟩) (fun u_80 H locs hw_82 hP hD hS => ?_)
              replace hP : va_P D gcl (zS_7 cB cC cI cJ a0 a1 x1 x2 x3 x4 x5 x6 x7 x8 a2 a3 a4 a5 a6 a7 a8 a9 a10 a11 a12 a13 a14 a15 a16 x9 x10 x11 x12 x13 x14 a17 a18 a19 x15 a20 x16 a21 x17 x18 a22 a23 a24 a25 x19 a26 (u_80.2.2.2.1 0) a27 a28 a29 y0 a30 a31 a32 a33 a34 a35 a36 a37 a38 x21 x22 x23 y1 a39 x24 a40 a41 a42 a43 x25 x26 x27 x28 a26 (u_80.2.2.1 0)) H := hP
              replace hD : va_D A (zS_7 cB cC cI cJ a0 a1 x1 x2 x3 x4 x5 x6 x7 x8 a2 a3 a4 a5 a6 a7 a8 a9 a10 a11 a12 a13 a14 a15 a16 x9 x10 x11 x12 x13 x14 a17 a18 a19 x15 a20 x16 a21 x17 x18 a22 a23 a24 a25 x19 a26 (u_80.2.2.2.1 0) a27 a28 a29 y0 a30 a31 a32 a33 a34 a35 a36 a37 a38 x21 x22 x23 y1 a39 x24 a40 a41 a42 a43 x25 x26 x27 x28 a26 (u_80.2.2.1 0)) := hD
              obtain ⟨hw_83, hw_84⟩ := hw_82
              replace hw_83 : (((u_80.2.2.2.1 0).toInt = (x_5.toInt) + (1))) := hw_83
              replace hw_84 : zBd (u_80.2.2.2.1 0).toInt 0 1700 := hw_84
              have kk0_r_81 := tL_1
              have hP9 : va_P D gcl (zS_7 cB cC cI cJ a0 a1 x1 x2 x3 x4 x5 x6 x7 x8 a2 a3 a4 a5 a6 a7 a8 a9 a10 a11 a12 a13 a14 a15 a16 x9 x10 x11 x12 x13 x14 a17 a18 a19 x15 a20 x16 a21 x17 x18 a22 a23 a24 a25 x19 a26 (u_80.2.2.2.1 0) a27 a28 a29 y0 a30 a31 a32 a33 a34 a35 a36 a37 a38 x21 x22 x23 y1 a39 x24 a40 a41 a42 a43 x25 x26 x27 x28 a26 (u_80.2.2.1 0)) H := g_psub hP [0, 1] rfl
              have hD9 : va_D A (zS_7 cB cC cI cJ a0 a1 x1 x2 x3 x4 x5 x6 x7 x8 a2 a3 a4 a5 a6 a7 a8 a9 a10 a11 a12 a13 a14 a15 a16 x9 x10 x11 x12 x13 x14 a17 a18 a19 x15 a20 x16 a21 x17 x18 a22 a23 a24 a25 x19 a26 (u_80.2.2.2.1 0) a27 a28 a29 y0 a30 a31 a32 a33 a34 a35 a36 a37 a38 x21 x22 x23 y1 a39 x24 a40 a41 a42 a43 x25 x26 x27 x28 a26 (u_80.2.2.1 0)) := hD.sub [0, 1] (by decide) rfl
              exact hret ((fun _ => 0), (fun _ => (fun _ => 0)), (fun k => [(u_80.2.2.1 0)].getD k (fun _ => 0)), (fun k => [(u_80.2.2.2.1 0)].getD k 0), (fun _ => 0)) dX12_joins_289 ⟨(show (0 ≤ ((u_80.2.2.2.1 0) : Int32).toInt ∧ ((u_80.2.2.2.1 0) : Int32).toInt ≤ 1700) from hw_84), (show (u_80.2.2.2.1 0).toInt = x20.toInt - 1 from (by first | exact (om_1849 hw_83 ex_5) | ((first | omega | (unfold zBd at *; omega)))))⟩ hP9 hD9 hS
      by_cases h_85 : x0.toInt = 8
      ·
        as_aux_lemma =>
          refine lv_tableIn (pc := 36) (off := 235) (tgt := 271) hx hb dX12_joins_36 (by rw [h_85]; decide) (by rw [h_85]; decide) (by rw [h_85]; decide +kernel) (by decide) ?_
          refine lv_aload_n (pc := 271) hx hb dX12_joins_271 rfl (lv_at hl 2 rfl) ?_
          refine lv_lload (pc := 272) hx hb dX12_joins_272 (lv_at hl 0 rfl) ?_
          refine lv_lload_n (pc := 274) hx hb dX12_joins_274 rfl (lv_at hl 1 rfl) ?_
          refine lv_ladd (pc := 275) hx hb dX12_joins_275 ?_
          refine lv_topl (fun y_86 _ => ?_)
          have ry_86 := n_rngL y_86
          refine lv_lconst (pc := 276) (v := 0) hx hb dX12_joins_276 (by decide) ?_
          refine b_lcmp_le (pc := 277) (tgt := 285) hx hb rfl tL_0 dX12_joins_277 dX12_joins_278 (by decide) (fun c_87 => ?_) (fun c_87 => ?_)
          ·
            as_aux_lemma =>
              refine lv_lconst (pc := 285) (v := 0) hx hb dX12_joins_285 (by decide) ?_
              refine gd_v (pc := 286) (wc := (zS_7 cB cC cI cJ a0 a1 x1 x2 x3 x4 x5 x6 x7 x8 a2 a3 a4 a5 a6 a7 a8 a9 a10 a11 a12 a13 a14 a15 a16 x9 x10 x11 x12 x13 x14 a17 a18 a19 x15 a20 x16 a21 x17 x18 a22 a23 a24 a25 x19 a26 x_5 a27 a28 a29 y0 a30 a31 a32 a33 a34 a35 a36 a37 a38 x21 x22 x23 y1 a39 x24 a40 a41 a42 a43 x25 x26 x27 x28 a26 g0)) hP hD hS hA [0, 1] rfl (by decide +kernel) (fun _ => by rfl) (fun hPc hDc => va_runV (As := [.long 0]) (rest := []) ⟨hx, hb, hml, hown, hts⟩ (k_X12_puts l D cB cC cI cJ _ a0 a1 a2 a3 a4 a5 a6 a7 a8 a9 a10 a11 a12 a13 a14 a15 a16 a17 a18 a19 a20 a21 a22 a23 a24 a25 a26 a27 a28 a29 a30 a31 a32 a33 a34 a35 a36 a37 a38 a39 a40 a41 a42 a43 x1 x2 x3 x4 x5 x6 x7 x8 x9 x10 x11 x12 x13 x14 x15 x16 x17 x18 x19 x_5 x21 x22 x23 x24 x25 x26 x27 x28 0 y0 y1 g0 h_x1 h_x2 h_x3 h_x4 h_x5 h_x6 h_x9 h_x10 h_x11 h_x12 h_x13 h_x15 h_x16 h_x17 h_x19 (by first | exact (om_1847 ex_5 hg__P h_x20.2) | (have k0 := tL_0; (first | omega | (unfold zBd at *; omega)))) h_x21 h_x22 h_x23 h_x24 h_x25 h_x26 h_x27 h_x28 hr_a0_0 hr_a0_1 hr_a0_2 (by first | exact (om_1848 ex_5 h_x20.2) | (have k0 := tL_0; (first | omega | (unfold zBd at *; omega))))) ⟨gcwB hts tw_2056 tw_14 tw_2053 hd_yX12_puts ⟨Nat.le_of_ble_eq_true rfl, Nat.le_of_ble_eq_true rfl⟩, hts _ tw_2055, hts _ tp_119⟩ ⟨gblind, va_recv hK hPc (ci := 12) (q0 := 0) rfl rfl, (gpreS hPc hK hDc hN).2⟩ rfl rfl hl.1 rfl (lv_room (Nat.le_of_ble_eq_true rfl)) dX12_joins_286 ⟨Nat.le_of_ble_eq_true rfl, Nat.le_of_ble_eq_true rfl⟩) (fun u_88 H locs hw_90 hP hD hS => ?_)
              replace hP : va_P D gcl (zS_7 cB cC cI cJ a0 a1 x1 x2 x3 x4 x5 x6 x7 x8 a2 a3 a4 a5 a6 a7 a8 a9 a10 a11 a12 a13 a14 a15 a16 x9 x10 x11 x12 x13 x14 a17 a18 a19 x15 a20 x16 a21 x17 x18 a22 a23 a24 a25 x19 a26 (u_88.2.2.2.1 0) a27 a28 a29 y0 a30 a31 a32 a33 a34 a35 a36 a37 a38 x21 x22 x23 y1 a39 x24 a40 a41 a42 a43 x25 x26 x27 x28 a26 (u_88.2.2.1 0)) H := hP
              replace hD : va_D A (zS_7 cB cC cI cJ a0 a1 x1 x2 x3 x4 x5 x6 x7 x8 a2 a3 a4 a5 a6 a7 a8 a9 a10 a11 a12 a13 a14 a15 a16 x9 x10 x11 x12 x13 x14 a17 a18 a19 x15 a20 x16 a21 x17 x18 a22 a23 a24 a25 x19 a26 (u_88.2.2.2.1 0) a27 a28 a29 y0 a30 a31 a32 a33 a34 a35 a36 a37 a38 x21 x22 x23 y1 a39 x24 a40 a41 a42 a43 x25 x26 x27 x28 a26 (u_88.2.2.1 0)) := hD
              obtain ⟨hw_91, hw_92⟩ := hw_90
              replace hw_91 : (((u_88.2.2.2.1 0).toInt = (x_5.toInt) + (1))) := hw_91
              replace hw_92 : zBd (u_88.2.2.2.1 0).toInt 0 1700 := hw_92
              have kk0_r_89 := tL_0
              have hP9 : va_P D gcl (zS_7 cB cC cI cJ a0 a1 x1 x2 x3 x4 x5 x6 x7 x8 a2 a3 a4 a5 a6 a7 a8 a9 a10 a11 a12 a13 a14 a15 a16 x9 x10 x11 x12 x13 x14 a17 a18 a19 x15 a20 x16 a21 x17 x18 a22 a23 a24 a25 x19 a26 (u_88.2.2.2.1 0) a27 a28 a29 y0 a30 a31 a32 a33 a34 a35 a36 a37 a38 x21 x22 x23 y1 a39 x24 a40 a41 a42 a43 x25 x26 x27 x28 a26 (u_88.2.2.1 0)) H := g_psub hP [0, 1] rfl
              have hD9 : va_D A (zS_7 cB cC cI cJ a0 a1 x1 x2 x3 x4 x5 x6 x7 x8 a2 a3 a4 a5 a6 a7 a8 a9 a10 a11 a12 a13 a14 a15 a16 x9 x10 x11 x12 x13 x14 a17 a18 a19 x15 a20 x16 a21 x17 x18 a22 a23 a24 a25 x19 a26 (u_88.2.2.2.1 0) a27 a28 a29 y0 a30 a31 a32 a33 a34 a35 a36 a37 a38 x21 x22 x23 y1 a39 x24 a40 a41 a42 a43 x25 x26 x27 x28 a26 (u_88.2.2.1 0)) := hD.sub [0, 1] (by decide) rfl
              exact hret ((fun _ => 0), (fun _ => (fun _ => 0)), (fun k => [(u_88.2.2.1 0)].getD k (fun _ => 0)), (fun k => [(u_88.2.2.2.1 0)].getD k 0), (fun _ => 0)) dX12_joins_289 ⟨(show (0 ≤ ((u_88.2.2.2.1 0) : Int32).toInt ∧ ((u_88.2.2.2.1 0) : Int32).toInt ≤ 1700) from hw_92), (show (u_88.2.2.2.1 0).toInt = x20.toInt - 1 from (by first | exact (om_1849 hw_91 ex_5) | ((first | omega | (unfold zBd at *; omega)))))⟩ hP9 hD9 hS
          ·
            as_aux_lemma =>
              refine lv_lconst (pc := 281) (v := 1) hx hb dX12_joins_281 (by decide) ?_
              refine lv_goto (pc := 282) (tgt := 286) hx hb dX12_joins_282 (by decide) ?_
              refine gd_v (pc := 286) (wc := (zS_7 cB cC cI cJ a0 a1 x1 x2 x3 x4 x5 x6 x7 x8 a2 a3 a4 a5 a6 a7 a8 a9 a10 a11 a12 a13 a14 a15 a16 x9 x10 x11 x12 x13 x14 a17 a18 a19 x15 a20 x16 a21 x17 x18 a22 a23 a24 a25 x19 a26 x_5 a27 a28 a29 y0 a30 a31 a32 a33 a34 a35 a36 a37 a38 x21 x22 x23 y1 a39 x24 a40 a41 a42 a43 x25 x26 x27 x28 a26 g0)) hP hD hS hA [0, 1] rfl (by decide +kernel) (fun _ => by rfl) (fun hPc hDc => va_runV (As := [.long 1]) (rest := []) ⟨hx, hb, hml, hown, hts⟩ (k_X12_puts l D cB cC cI cJ _ a0 a1 a2 a3 a4 a5 a6 a7 a8 a9 a10 a11 a12 a13 a14 a15 a16 a17 a18 a19 a20 a21 a22 a23 a24 a25 a26 a27 a28 a29 a30 a31 a32 a33 a34 a35 a36 a37 a38 a39 a40 a41 a42 a43 x1 x2 x3 x4 x5 x6 x7 x8 x9 x10 x11 x12 x13 x14 x15 x16 x17 x18 x19 x_5 x21 x22 x23 x24 x25 x26 x27 x28 1 y0 y1 g0 h_x1 h_x2 h_x3 h_x4 h_x5 h_x6 h_x9 h_x10 h_x11 h_x12 h_x13 h_x15 h_x16 h_x17 h_x19 (by first | exact (om_1847 ex_5 hg__P h_x20.2) | (have k0 := tL_1; (first | omega | (unfold zBd at *; omega)))) h_x21 h_x22 h_x23 h_x24 h_x25 h_x26 h_x27 h_x28 hr_a0_0 hr_a0_1 hr_a0_2 (by first | exact (om_1848 ex_5 h_x20.2) | (have k0 := tL_1; (first | omega | (unfold zBd at *; omega))))) ⟨gcwB hts tw_2056 tw_14 tw_2053 hd_yX12_puts ⟨Nat.le_of_ble_eq_true rfl, Nat.le_of_ble_eq_true rfl⟩, hts _ tw_2055, hts _ tp_119⟩ ⟨gblind, va_recv hK hPc (ci := 12) (q0 := 0) rfl rfl, (gpreS hPc hK hDc hN).2⟩ rfl rfl hl.1 rfl (lv_room (Nat.le_of_ble_eq_true rfl)) dX12_joins_286 ⟨Nat.le_of_ble_eq_true rfl, Nat.le_of_ble_eq_true rfl⟩) (fun u_93 H locs hw_95 hP hD hS => ?_)
              replace hP : va_P D gcl (zS_7 cB cC cI cJ a0 a1 x1 x2 x3 x4 x5 x6 x7 x8 a2 a3 a4 a5 a6 a7 a8 a9 a10 a11 a12 a13 a14 a15 a16 x9 x10 x11 x12 x13 x14 a17 a18 a19 x15 a20 x16 a21 x17 x18 a22 a23 a24 a25 x19 a26 (u_93.2.2.2.1 0) a27 a28 a29 y0 a30 a31 a32 a33 a34 a35 a36 a37 a38 x21 x22 x23 y1 a39 x24 a40 a41 a42 a43 x25 x26 x27 x28 a26 (u_93.2.2.1 0)) H := hP
              replace hD : va_D A (zS_7 cB cC cI cJ a0 a1 x1 x2 x3 x4 x5 x6 x7 x8 a2 a3 a4 a5 a6 a7 a8 a9 a10 a11 a12 a13 a14 a15 a16 x9 x10 x11 x12 x13 x14 a17 a18 a19 x15 a20 x16 a21 x17 x18 a22 a23 a24 a25 x19 a26 (u_93.2.2.2.1 0) a27 a28 a29 y0 a30 a31 a32 a33 a34 a35 a36 a37 a38 x21 x22 x23 y1 a39 x24 a40 a41 a42 a43 x25 x26 x27 x28 a26 (u_93.2.2.1 0)) := hD
              obtain ⟨hw_96, hw_97⟩ := hw_95
              replace hw_96 : (((u_93.2.2.2.1 0).toInt = (x_5.toInt) + (1))) := hw_96
              replace hw_97 : zBd (u_93.2.2.2.1 0).toInt 0 1700 := hw_97
              have kk0_r_94 := tL_1
              have hP9 : va_P D gcl (zS_7 cB cC cI cJ a0 a1 x1 x2 x3 x4 x5 x6 x7 x8 a2 a3 a4 a5 a6 a7 a8 a9 a10 a11 a12 a13 a14 a15 a16 x9 x10 x11 x12 x13 x14 a17 a18 a19 x15 a20 x16 a21 x17 x18 a22 a23 a24 a25 x19 a26 (u_93.2.2.2.1 0) a27 a28 a29 y0 a30 a31 a32 a33 a34 a35 a36 a37 a38 x21 x22 x23 y1 a39 x24 a40 a41 a42 a43 x25 x26 x27 x28 a26 (u_93.2.2.1 0)) H := g_psub hP [0, 1] rfl
              have hD9 : va_D A (zS_7 cB cC cI cJ a0 a1 x1 x2 x3 x4 x5 x6 x7 x8 a2 a3 a4 a5 a6 a7 a8 a9 a10 a11 a12 a13 a14 a15 a16 x9 x10 x11 x12 x13 x14 a17 a18 a19 x15 a20 x16 a21 x17 x18 a22 a23 a24 a25 x19 a26 (u_93.2.2.2.1 0) a27 a28 a29 y0 a30 a31 a32 a33 a34 a35 a36 a37 a38 x21 x22 x23 y1 a39 x24 a40 a41 a42 a43 x25 x26 x27 x28 a26 (u_93.2.2.1 0)) := hD.sub [0, 1] (by decide) rfl
              exact hret ((fun _ => 0), (fun _ => (fun _ => 0)), (fun k => [(u_93.2.2.1 0)].getD k (fun _ => 0)), (fun k => [(u_93.2.2.2.1 0)].getD k 0), (fun _ => 0)) dX12_joins_289 ⟨(show (0 ≤ ((u_93.2.2.2.1 0) : Int32).toInt ∧ ((u_93.2.2.2.1 0) : Int32).toInt ≤ 1700) from hw_97), (show (u_93.2.2.2.1 0).toInt = x20.toInt - 1 from (by first | exact (om_1849 hw_96 ex_5) | ((first | omega | (unfold zBd at *; omega)))))⟩ hP9 hD9 hS
      by_cases h_98 : x0.toInt = 9
      ·
        as_aux_lemma =>
          refine lv_tableIn (pc := 36) (off := 235) (tgt := 271) hx hb dX12_joins_36 (by rw [h_98]; decide) (by rw [h_98]; decide) (by rw [h_98]; decide +kernel) (by decide) ?_
          refine lv_aload_n (pc := 271) hx hb dX12_joins_271 rfl (lv_at hl 2 rfl) ?_
          refine lv_lload (pc := 272) hx hb dX12_joins_272 (lv_at hl 0 rfl) ?_
          refine lv_lload_n (pc := 274) hx hb dX12_joins_274 rfl (lv_at hl 1 rfl) ?_
          refine lv_ladd (pc := 275) hx hb dX12_joins_275 ?_
          refine lv_topl (fun y_99 _ => ?_)
          have ry_99 := n_rngL y_99
          refine lv_lconst (pc := 276) (v := 0) hx hb dX12_joins_276 (by decide) ?_
          refine b_lcmp_le (pc := 277) (tgt := 285) hx hb rfl tL_0 dX12_joins_277 dX12_joins_278 (by decide) (fun c_100 => ?_) (fun c_100 => ?_)
          ·
            as_aux_lemma =>
              refine lv_lconst (pc := 285) (v := 0) hx hb dX12_joins_285 (by decide) ?_
              refine gd_v (pc := 286) (wc := (zS_7 cB cC cI cJ a0 a1 x1 x2 x3 x4 x5 x6 x7 x8 a2 a3 a4 a5 a6 a7 a8 a9 a10 a11 a12 a13 a14 a15 a16 x9 x10 x11 x12 x13 x14 a17 a18 a19 x15 a20 x16 a21 x17 x18 a22 a23 a24 a25 x19 a26 x_5 a27 a28 a29 y0 a30 a31 a32 a33 a34 a35 a36 a37 a38 x21 x22 x23 y1 a39 x24 a40 a41 a42 a43 x25 x26 x27 x28 a26 g0)) hP hD hS hA [0, 1] rfl (by decide +kernel) (fun _ => by rfl) (fun hPc hDc => va_runV (As := [.long 0]) (rest := []) ⟨hx, hb, hml, hown, hts⟩ (k_X12_puts l D cB cC cI cJ _ a0 a1 a2 a3 a4 a5 a6 a7 a8 a9 a10 a11 a12 a13 a14 a15 a16 a17 a18 a19 a20 a21 a22 a23 a24 a25 a26 a27 a28 a29 a30 a31 a32 a33 a34 a35 a36 a37 a38 a39 a40 a41 a42 a43 x1 x2 x3 x4 x5 x6 x7 x8 x9 x10 x11 x12 x13 x14 x15 x16 x17 x18 x19 x_5 x21 x22 x23 x24 x25 x26 x27 x28 0 y0 y1 g0 h_x1 h_x2 h_x3 h_x4 h_x5 h_x6 h_x9 h_x10 h_x11 h_x12 h_x13 h_x15 h_x16 h_x17 h_x19 (by first | exact (om_1847 ex_5 hg__P h_x20.2) | (have k0 := tL_0; (first | omega | (unfold zBd at *; omega)))) h_x21 h_x22 h_x23 h_x24 h_x25 h_x26 h_x27 h_x28 hr_a0_0 hr_a0_1 hr_a0_2 (by first | exact (om_1848 ex_5 h_x20.2) | (have k0 := tL_0; (first | omega | (unfold zBd at *; omega))))) ⟨gcwB hts tw_2056 tw_14 tw_2053 hd_yX12_puts ⟨Nat.le_of_ble_eq_true rfl, Nat.le_of_ble_eq_true rfl⟩, hts _ tw_2055, hts _ tp_119⟩ ⟨gblind, va_recv hK hPc (ci := 12) (q0 := 0) rfl rfl, (gpreS hPc hK hDc hN).2⟩ rfl rfl hl.1 rfl (lv_room (Nat.le_of_ble_eq_true rfl)) dX12_joins_286 ⟨Nat.le_of_ble_eq_true rfl, Nat.le_of_ble_eq_true rfl⟩) (fun u_101 H locs hw_103 hP hD hS => ?_)
              replace hP : va_P D gcl (zS_7 cB cC cI cJ a0 a1 x1 x2 x3 x4 x5 x6 x7 x8 a2 a3 a4 a5 a6 a7 a8 a9 a10 a11 a12 a13 a14 a15 a16 x9 x10 x11 x12 x13 x14 a17 a18 a19 x15 a20 x16 a21 x17 x18 a22 a23 a24 a25 x19 a26 (u_101.2.2.2.1 0) a27 a28 a29 y0 a30 a31 a32 a33 a34 a35 a36 a37 a38 x21 x22 x23 y1 a39 x24 a40 a41 a42 a43 x25 x26 x27 x28 a26 (u_101.2.2.1 0)) H := hP
              replace hD : va_D A (zS_7 cB cC cI cJ a0 a1 x1 x2 x3 x4 x5 x6 x7 x8 a2 a3 a4 a5 a6 a7 a8 a9 a10 a11 a12 a13 a14 a15 a16 x9 x10 x11 x12 x13 x14 a17 a18 a19 x15 a20 x16 a21 x17 x18 a22 a23 a24 a25 x19 a26 (u_101.2.2.2.1 0) a27 a28 a29 y0 a30 a31 a32 a33 a34 a35 a36 a37 a38 x21 x22 x23 y1 a39 x24 a40 a41 a42 a43 x25 x26 x27 x28 a26 (u_101.2.2.1 0)) := hD
              obtain ⟨hw_104, hw_105⟩ := hw_103
              replace hw_104 : (((u_101.2.2.2.1 0).toInt = (x_5.toInt) + (1))) := hw_104
              replace hw_105 : zBd (u_101.2.2.2.1 0).toInt 0 1700 := hw_105
              have kk0_r_102 := tL_0
              have hP9 : va_P D gcl (zS_7 cB cC cI cJ a0 a1 x1 x2 x3 x4 x5 x6 x7 x8 a2 a3 a4 a5 a6 a7 a8 a9 a10 a11 a12 a13 a14 a15 a16 x9 x10 x11 x12 x13 x14 a17 a18 a19 x15 a20 x16 a21 x17 x18 a22 a23 a24 a25 x19 a26 (u_101.2.2.2.1 0) a27 a28 a29 y0 a30 a31 a32 a33 a34 a35 a36 a37 a38 x21 x22 x23 y1 a39 x24 a40 a41 a42 a43 x25 x26 x27 x28 a26 (u_101.2.2.1 0)) H := g_psub hP [0, 1] rfl
              have hD9 : va_D A (zS_7 cB cC cI cJ a0 a1 x1 x2 x3 x4 x5 x6 x7 x8 a2 a3 a4 a5 a6 a7 a8 a9 a10 a11 a12 a13 a14 a15 a16 x9 x10 x11 x12 x13 x14 a17 a18 a19 x15 a20 x16 a21 x17 x18 a22 a23 a24 a25 x19 a26 (u_101.2.2.2.1 0) a27 a28 a29 y0 a30 a31 a32 a33 a34 a35 a36 a37 a38 x21 x22 x23 y1 a39 x24 a40 a41 a42 a43 x25 x26 x27 x28 a26 (u_101.2.2.1 0)) := hD.sub [0, 1] (by decide) rfl
              exact hret ((fun _ => 0), (fun _ => (fun _ => 0)), (fun k => [(u_101.2.2.1 0)].getD k (fun _ => 0)), (fun k => [(u_101.2.2.2.1 0)].getD k 0), (fun _ => 0)) dX12_joins_289 ⟨(show (0 ≤ ((u_101.2.2.2.1 0) : Int32).toInt ∧ ((u_101.2.2.2.1 0) : Int32).toInt ≤ 1700) from hw_105), (show (u_101.2.2.2.1 0).toInt = x20.toInt - 1 from (by first | exact (om_1849 hw_104 ex_5) | ((first | omega | (unfold zBd at *; omega)))))⟩ hP9 hD9 hS
          ·
            as_aux_lemma =>
              refine lv_lconst (pc := 281) (v := 1) hx hb dX12_joins_281 (by decide) ?_
              refine lv_goto (pc := 282) (tgt := 286) hx hb dX12_joins_282 (by decide) ?_
              refine gd_v (pc := 286) (wc := (zS_7 cB cC cI cJ a0 a1 x1 x2 x3 x4 x5 x6 x7 x8 a2 a3 a4 a5 a6 a7 a8 a9 a10 a11 a12 a13 a14 a15 a16 x9 x10 x11 x12 x13 x14 a17 a18 a19 x15 a20 x16 a21 x17 x18 a22 a23 a24 a25 x19 a26 x_5 a27 a28 a29 y0 a30 a31 a32 a33 a34 a35 a36 a37 a38 x21 x22 x23 y1 a39 x24 a40 a41 a42 a43 x25 x26 x27 x28 a26 g0)) hP hD hS hA [0, 1] rfl (by decide +kernel) (fun _ => by rfl) (fun hPc hDc => va_runV (As := [.long 1]) (rest := []) ⟨hx, hb, hml, hown, hts⟩ (k_X12_puts l D cB cC cI cJ _ a0 a1 a2 a3 a4 a5 a6 a7 a8 a9 a10 a11 a12 a13 a14 a15 a16 a17 a18 a19 a20 a21 a22 a23 a24 a25 a26 a27 a28 a29 a30 a31 a32 a33 a34 a35 a36 a37 a38 a39 a40 a41 a42 a43 x1 x2 x3 x4 x5 x6 x7 x8 x9 x10 x11 x12 x13 x14 x15 x16 x17 x18 x19 x_5 x21 x22 x23 x24 x25 x26 x27 x28 1 y0 y1 g0 h_x1 h_x2 h_x3 h_x4 h_x5 h_x6 h_x9 h_x10 h_x11 h_x12 h_x13 h_x15 h_x16 h_x17 h_x19 (by first | exact (om_1847 ex_5 hg__P h_x20.2) | (have k0 := tL_1; (first | omega | (unfold zBd at *; omega)))) h_x21 h_x22 h_x23 h_x24 h_x25 h_x26 h_x27 h_x28 hr_a0_0 hr_a0_1 hr_a0_2 (by first | exact (om_1848 ex_5 h_x20.2) | (have k0 := tL_1; (first | omega | (unfold zBd at *; omega))))) ⟨gcwB hts tw_2056 tw_14 tw_2053 hd_yX12_puts ⟨Nat.le_of_ble_eq_true rfl, Nat.le_of_ble_eq_true rfl⟩, hts _ tw_2055, hts _ tp_119⟩ ⟨gblind, va_recv hK hPc (ci := 12) (q0 := 0) rfl rfl, (gpreS hPc hK hDc hN).2⟩ rfl rfl hl.1 rfl (lv_room (Nat.le_of_ble_eq_true rfl)) dX12_joins_286 ⟨Nat.le_of_ble_eq_true rfl, Nat.le_of_ble_eq_true rfl⟩) (fun u_106 H locs hw_108 hP hD hS => ?_)
              replace hP : va_P D gcl (zS_7 cB cC cI cJ a0 a1 x1 x2 x3 x4 x5 x6 x7 x8 a2 a3 a4 a5 a6 a7 a8 a9 a10 a11 a12 a13 a14 a15 a16 x9 x10 x11 x12 x13 x14 a17 a18 a19 x15 a20 x16 a21 x17 x18 a22 a23 a24 a25 x19 a26 (u_106.2.2.2.1 0) a27 a28 a29 y0 a30 a31 a32 a33 a34 a35 a36 a37 a38 x21 x22 x23 y1 a39 x24 a40 a41 a42 a43 x25 x26 x27 x28 a26 (u_106.2.2.1 0)) H := hP
              replace hD : va_D A (zS_7 cB cC cI cJ a0 a1 x1 x2 x3 x4 x5 x6 x7 x8 a2 a3 a4 a5 a6 a7 a8 a9 a10 a11 a12 a13 a14 a15 a16 x9 x10 x11 x12 x13 x14 a17 a18 a19 x15 a20 x16 a21 x17 x18 a22 a23 a24 a25 x19 a26 (u_106.2.2.2.1 0) a27 a28 a29 y0 a30 a31 a32 a33 a34 a35 a36 a37 a38 x21 x22 x23 y1 a39 x24 a40 a41 a42 a43 x25 x26 x27 x28 a26 (u_106.2.2.1 0)) := hD
              obtain ⟨hw_109, hw_110⟩ := hw_108
              replace hw_109 : (((u_106.2.2.2.1 0).toInt = (x_5.toInt) + (1))) := hw_109
              replace hw_110 : zBd (u_106.2.2.2.1 0).toInt 0 1700 := hw_110
              have kk0_r_107 := tL_1
              have hP9 : va_P D gcl (zS_7 cB cC cI cJ a0 a1 x1 x2 x3 x4 x5 x6 x7 x8 a2 a3 a4 a5 a6 a7 a8 a9 a10 a11 a12 a13 a14 a15 a16 x9 x10 x11 x12 x13 x14 a17 a18 a19 x15 a20 x16 a21 x17 x18 a22 a23 a24 a25 x19 a26 (u_106.2.2.2.1 0) a27 a28 a29 y0 a30 a31 a32 a33 a34 a35 a36 a37 a38 x21 x22 x23 y1 a39 x24 a40 a41 a42 a43 x25 x26 x27 x28 a26 (u_106.2.2.1 0)) H := g_psub hP [0, 1] rfl
              have hD9 : va_D A (zS_7 cB cC cI cJ a0 a1 x1 x2 x3 x4 x5 x6 x7 x8 a2 a3 a4 a5 a6 a7 a8 a9 a10 a11 a12 a13 a14 a15 a16 x9 x10 x11 x12 x13 x14 a17 a18 a19 x15 a20 x16 a21 x17 x18 a22 a23 a24 a25 x19 a26 (u_106.2.2.2.1 0) a27 a28 a29 y0 a30 a31 a32 a33 a34 a35 a36 a37 a38 x21 x22 x23 y1 a39 x24 a40 a41 a42 a43 x25 x26 x27 x28 a26 (u_106.2.2.1 0)) := hD.sub [0, 1] (by decide) rfl
              exact hret ((fun _ => 0), (fun _ => (fun _ => 0)), (fun k => [(u_106.2.2.1 0)].getD k (fun _ => 0)), (fun k => [(u_106.2.2.2.1 0)].getD k 0), (fun _ => 0)) dX12_joins_289 ⟨(show (0 ≤ ((u_106.2.2.2.1 0) : Int32).toInt ∧ ((u_106.2.2.2.1 0) : Int32).toInt ≤ 1700) from hw_110), (show (u_106.2.2.2.1 0).toInt = x20.toInt - 1 from (by first | exact (om_1849 hw_109 ex_5) | ((first | omega | (unfold zBd at *; omega)))))⟩ hP9 hD9 hS
      by_cases h_111 : x0.toInt = 10
      ·
        as_aux_lemma =>
          refine lv_tableIn (pc := 36) (off := 235) (tgt := 271) hx hb dX12_joins_36 (by rw [h_111]; decide) (by rw [h_111]; decide) (by rw [h_111]; decide +kernel) (by decide) ?_
          refine lv_aload_n (pc := 271) hx hb dX12_joins_271 rfl (lv_at hl 2 rfl) ?_
          refine lv_lload (pc := 272) hx hb dX12_joins_272 (lv_at hl 0 rfl) ?_
          refine lv_lload_n (pc := 274) hx hb dX12_joins_274 rfl (lv_at hl 1 rfl) ?_
          refine lv_ladd (pc := 275) hx hb dX12_joins_275 ?_
          refine lv_topl (fun y_112 _ => ?_)
          have ry_112 := n_rngL y_112
          refine lv_lconst (pc := 276) (v := 0) hx hb dX12_joins_276 (by decide) ?_
          refine b_lcmp_le (pc := 277) (tgt := 285) hx hb rfl tL_0 dX12_joins_277 dX12_joins_278 (by decide) (fun c_113 => ?_) (fun c_113 => ?_)
          ·
            as_aux_lemma =>
              refine lv_lconst (pc := 285) (v := 0) hx hb dX12_joins_285 (by decide) ?_
              refine gd_v (pc := 286) (wc := (zS_7 cB cC cI cJ a0 a1 x1 x2 x3 x4 x5 x6 x7 x8 a2 a3 a4 a5 a6 a7 a8 a9 a10 a11 a12 a13 a14 a15 a16 x9 x10 x11 x12 x13 x14 a17 a18 a19 x15 a20 x16 a21 x17 x18 a22 a23 a24 a25 x19 a26 x_5 a27 a28 a29 y0 a30 a31 a32 a33 a34 a35 a36 a37 a38 x21 x22 x23 y1 a39 x24 a40 a41 a42 a43 x25 x26 x27 x28 a26 g0)) hP hD hS hA [0, 1] rfl (by decide +kernel) (fun _ => by rfl) (fun hPc hDc => va_runV (As := [.long 0]) (rest := []) ⟨hx, hb, hml, hown, hts⟩ (k_X12_puts l D cB cC cI cJ _ a0 a1 a2 a3 a4 a5 a6 a7 a8 a9 a10 a11 a12 a13 a14 a15 a16 a17 a18 a19 a20 a21 a22 a23 a24 a25 a26 a27 a28 a29 a30 a31 a32 a33 a34 a35 a36 a37 a38 a39 a40 a41 a42 a43 x1 x2 x3 x4 x5 x6 x7 x8 x9 x10 x11 x12 x13 x14 x15 x16 x17 x18 x19 x_5 x21 x22 x23 x24 x25 x26 x27 x28 0 y0 y1 g0 h_x1 h_x2 h_x3 h_x4 h_x5 h_x6 h_x9 h_x10 h_x11 h_x12 h_x13 h_x15 h_x16 h_x17 h_x19 (by first | exact (om_1847 ex_5 hg__P h_x20.2) | (have k0 := tL_0; (first | omega | (unfold zBd at *; omega)))) h_x21 h_x22 h_x23 h_x24 h_x25 h_x26 h_x27 h_x28 hr_a0_0 hr_a0_1 hr_a0_2 (by first | exact (om_1848 ex_5 h_x20.2) | (have k0 := tL_0; (first | omega | (unfold zBd at *; omega))))) ⟨gcwB hts tw_2056 tw_14 tw_2053 hd_yX12_puts ⟨Nat.le_of_ble_eq_true rfl, Nat.le_of_ble_eq_true rfl⟩, hts _ tw_2055, hts _ tp_119⟩ ⟨gblind, va_recv hK hPc (ci := 12) (q0 := 0) rfl rfl, (gpreS hPc hK hDc hN).2⟩ rfl rfl hl.1 rfl (lv_room (Nat.le_of_ble_eq_true rfl)) dX12_joins_286 ⟨Nat.le_of_ble_eq_true rfl, Nat.le_of_ble_eq_true rfl⟩) (fun u_114 H locs hw_116 hP hD hS => ?_)
              replace hP : va_P D gcl (zS_7 cB cC cI cJ a0 a1 x1 x2 x3 x4 x5 x6 x7 x8 a2 a3 a4 a5 a6 a7 a8 a9 a10 a11 a12 a13 a14 a15 a16 x9 x10 x11 x12 x13 x14 a17 a18 a19 x15 a20 x16 a21 x17 x18 a22 a23 a24 a25 x19 a26 (u_114.2.2.2.1 0) a27 a28 a29 y0 a30 a31 a32 a33 a34 a35 a36 a37 a38 x21 x22 x23 y1 a39 x24 a40 a41 a42 a43 x25 x26 x27 x28 a26 (u_114.2.2.1 0)) H := hP
              replace hD : va_D A (zS_7 cB cC cI cJ a0 a1 x1 x2 x3 x4 x5 x6 x7 x8 a2 a3 a4 a5 a6 a7 a8 a9 a10 a11 a12 a13 a14 a15 a16 x9 x10 x11 x12 x13 x14 a17 a18 a19 x15 a20 x16 a21 x17 x18 a22 a23 a24 a25 x19 a26 (u_114.2.2.2.1 0) a27 a28 a29 y0 a30 a31 a32 a33 a34 a35 a36 a37 a38 x21 x22 x23 y1 a39 x24 a40 a41 a42 a43 x25 x26 x27 x28 a26 (u_114.2.2.1 0)) := hD
              obtain ⟨hw_117, hw_118⟩ := hw_116
              replace hw_117 : (((u_114.2.2.2.1 0).toInt = (x_5.toInt) + (1))) := hw_117
              replace hw_118 : zBd (u_114.2.2.2.1 0).toInt 0 1700 := hw_118
              have kk0_r_115 := tL_0
              have hP9 : va_P D gcl (zS_7 cB cC cI cJ a0 a1 x1 x2 x3 x4 x5 x6 x7 x8 a2 a3 a4 a5 a6 a7 a8 a9 a10 a11 a12 a13 a14 a15 a16 x9 x10 x11 x12 x13 x14 a17 a18 a19 x15 a20 x16 a21 x17 x18 a22 a23 a24 a25 x19 a26 (u_114.2.2.2.1 0) a27 a28 a29 y0 a30 a31 a32 a33 a34 a35 a36 a37 a38 x21 x22 x23 y1 a39 x24 a40 a41 a42 a43 x25 x26 x27 x28 a26 (u_114.2.2.1 0)) H := g_psub hP [0, 1] rfl
              have hD9 : va_D A (zS_7 cB cC cI cJ a0 a1 x1 x2 x3 x4 x5 x6 x7 x8 a2 a3 a4 a5 a6 a7 a8 a9 a10 a11 a12 a13 a14 a15 a16 x9 x10 x11 x12 x13 x14 a17 a18 a19 x15 a20 x16 a21 x17 x18 a22 a23 a24 a25 x19 a26 (u_114.2.2.2.1 0) a27 a28 a29 y0 a30 a31 a32 a33 a34 a35 a36 a37 a38 x21 x22 x23 y1 a39 x24 a40 a41 a42 a43 x25 x26 x27 x28 a26 (u_114.2.2.1 0)) := hD.sub [0, 1] (by decide) rfl
              exact hret ((fun _ => 0), (fun _ => (fun _ => 0)), (fun k => [(u_114.2.2.1 0)].getD k (fun _ => 0)), (fun k => [(u_114.2.2.2.1 0)].getD k 0), (fun _ => 0)) dX12_joins_289 ⟨(show (0 ≤ ((u_114.2.2.2.1 0) : Int32).toInt ∧ ((u_114.2.2.2.1 0) : Int32).toInt ≤ 1700) from hw_118), (show (u_114.2.2.2.1 0).toInt = x20.toInt - 1 from (by first | exact (om_1849 hw_117 ex_5) | ((first | omega | (unfold zBd at *; omega)))))⟩ hP9 hD9 hS
          ·
            as_aux_lemma =>
              refine lv_lconst (pc := 281) (v := 1) hx hb dX12_joins_281 (by decide) ?_
              refine lv_goto (pc := 282) (tgt := 286) hx hb dX12_joins_282 (by decide) ?_
              refine gd_v (pc := 286) (wc := (zS_7 cB cC cI cJ a0 a1 x1 x2 x3 x4 x5 x6 x7 x8 a2 a3 a4 a5 a6 a7 a8 a9 a10 a11 a12 a13 a14 a15 a16 x9 x10 x11 x12 x13 x14 a17 a18 a19 x15 a20 x16 a21 x17 x18 a22 a23 a24 a25 x19 a26 x_5 a27 a28 a29 y0 a30 a31 a32 a33 a34 a35 a36 a37 a38 x21 x22 x23 y1 a39 x24 a40 a41 a42 a43 x25 x26 x27 x28 a26 g0)) hP hD hS hA [0, 1] rfl (by decide +kernel) (fun _ => by rfl) (fun hPc hDc => va_runV (As := [.long 1]) (rest := []) ⟨hx, hb, hml, hown, hts⟩ (k_X12_puts l D cB cC cI cJ _ a0 a1 a2 a3 a4 a5 a6 a7 a8 a9 a10 a11 a12 a13 a14 a15 a16 a17 a18 a19 a20 a21 a22 a23 a24 a25 a26 a27 a28 a29 a30 a31 a32 a33 a34 a35 a36 a37 a38 a39 a40 a41 a42 a43 x1 x2 x3 x4 x5 x6 x7 x8 x9 x10 x11 x12 x13 x14 x15 x16 x17 x18 x19 x_5 x21 x22 x23 x24 x25 x26 x27 x28 1 y0 y1 g0 h_x1 h_x2 h_x3 h_x4 h_x5 h_x6 h_x9 h_x10 h_x11 h_x12 h_x13 h_x15 h_x16 h_x17 h_x19 (by first | exact (om_1847 ex_5 hg__P h_x20.2) | (have k0 := tL_1; (first | omega | (unfold zBd at *; omega)))) h_x21 h_x22 h_x23 h_x24 h_x25 h_x26 h_x27 h_x28 hr_a0_0 hr_a0_1 hr_a0_2 (by first | exact (om_1848 ex_5 h_x20.2) | (have k0 := tL_1; (first | omega | (unfold zBd at *; omega))))) ⟨gcwB hts tw_2056 tw_14 tw_2053 hd_yX12_puts ⟨Nat.le_of_ble_eq_true rfl, Nat.le_of_ble_eq_true rfl⟩, hts _ tw_2055, hts _ tp_119⟩ ⟨gblind, va_recv hK hPc (ci := 12) (q0 := 0) rfl rfl, (gpreS hPc hK hDc hN).2⟩ rfl rfl hl.1 rfl (lv_room (Nat.le_of_ble_eq_true rfl)) dX12_joins_286 ⟨Nat.le_of_ble_eq_true rfl, Nat.le_of_ble_eq_true rfl⟩) (fun u_119 H locs hw_121 hP hD hS => ?_)
              replace hP : va_P D gcl (zS_7 cB cC cI cJ a0 a1 x1 x2 x3 x4 x5 x6 x7 x8 a2 a3 a4 a5 a6 a7 a8 a9 a10 a11 a12 a13 a14 a15 a16 x9 x10 x11 x12 x13 x14 a17 a18 a19 x15 a20 x16 a21 x17 x18 a22 a23 a24 a25 x19 a26 (u_119.2.2.2.1 0) a27 a28 a29 y0 a30 a31 a32 a33 a34 a35 a36 a37 a38 x21 x22 x23 y1 a39 x24 a40 a41 a42 a43 x25 x26 x27 x28 a26 (u_119.2.2.1 0)) H := hP
              replace hD : va_D A (zS_7 cB cC cI cJ a0 a1 x1 x2 x3 x4 x5 x6 x7 x8 a2 a3 a4 a5 a6 a7 a8 a9 a10 a11 a12 a13 a14 a15 a16 x9 x10 x11 x12 x13 x14 a17 a18 a19 x15 a20 x16 a21 x17 x18 a22 a23 a24 a25 x19 a26 (u_119.2.2.2.1 0) a27 a28 a29 y0 a30 a31 a32 a33 a34 a35 a36 a37 a38 x21 x22 x23 y1 a39 x24 a40 a41 a42 a43 x25 x26 x27 x28 a26 (u_119.2.2.1 0)) := hD
              obtain ⟨hw_122, hw_123⟩ := hw_121
              replace hw_122 : (((u_119.2.2.2.1 0).toInt = (x_5.toInt) + (1))) := hw_122
              replace hw_123 : zBd (u_119.2.2.2.1 0).toInt 0 1700 := hw_123
              have kk0_r_120 := tL_1
              have hP9 : va_P D gcl (zS_7 cB cC cI cJ a0 a1 x1 x2 x3 x4 x5 x6 x7 x8 a2 a3 a4 a5 a6 a7 a8 a9 a10 a11 a12 a13 a14 a15 a16 x9 x10 x11 x12 x13 x14 a17 a18 a19 x15 a20 x16 a21 x17 x18 a22 a23 a24 a25 x19 a26 (u_119.2.2.2.1 0) a27 a28 a29 y0 a30 a31 a32 a33 a34 a35 a36 a37 a38 x21 x22 x23 y1 a39 x24 a40 a41 a42 a43 x25 x26 x27 x28 a26 (u_119.2.2.1 0)) H := g_psub hP [0, 1] rfl
              have hD9 : va_D A (zS_7 cB cC cI cJ a0 a1 x1 x2 x3 x4 x5 x6 x7 x8 a2 a3 a4 a5 a6 a7 a8 a9 a10 a11 a12 a13 a14 a15 a16 x9 x10 x11 x12 x13 x14 a17 a18 a19 x15 a20 x16 a21 x17 x18 a22 a23 a24 a25 x19 a26 (u_119.2.2.2.1 0) a27 a28 a29 y0 a30 a31 a32 a33 a34 a35 a36 a37 a38 x21 x22 x23 y1 a39 x24 a40 a41 a42 a43 x25 x26 x27 x28 a26 (u_119.2.2.1 0)) := hD.sub [0, 1] (by decide) rfl
              exact hret ((fun _ => 0), (fun _ => (fun _ => 0)), (fun k => [(u_119.2.2.1 0)].getD k (fun _ => 0)), (fun k => [(u_119.2.2.2.1 0)].getD k 0), (fun _ => 0)) dX12_joins_289 ⟨(show (0 ≤ ((u_119.2.2.2.1 0) : Int32).toInt ∧ ((u_119.2.2.2.1 0) : Int32).toInt ≤ 1700) from hw_123), (show (u_119.2.2.2.1 0).toInt = x20.toInt - 1 from (by first | exact (om_1849 hw_122 ex_5) | ((first | omega | (unfold zBd at *; omega)))))⟩ hP9 hD9 hS
      by_cases h_124 : x0.toInt = 11
      ·
        as_aux_lemma =>
          refine lv_tableIn (pc := 36) (off := 167) (tgt := 203) hx hb dX12_joins_36 (by rw [h_124]; decide) (by rw [h_124]; decide) (by rw [h_124]; decide +kernel) (by decide) ?_
          refine lv_aload_n (pc := 203) hx hb dX12_joins_203 rfl (lv_at hl 2 rfl) ?_
          refine lv_lload (pc := 204) hx hb dX12_joins_204 (lv_at hl 0 rfl) ?_
          refine lv_lload_n (pc := 206) hx hb dX12_joins_206 rfl (lv_at hl 1 rfl) ?_
          refine b_lcmp_ge (pc := 207) (tgt := 215) hx hb rfl rfl dX12_joins_207 dX12_joins_208 (by decide) (fun c_125 => ?_) (fun c_125 => ?_)
          ·
            as_aux_lemma =>
              refine lv_lconst (pc := 215) (v := 0) hx hb dX12_joins_215 (by decide) ?_
              refine gd_v (pc := 216) (wc := (zS_7 cB cC cI cJ a0 a1 x1 x2 x3 x4 x5 x6 x7 x8 a2 a3 a4 a5 a6 a7 a8 a9 a10 a11 a12 a13 a14 a15 a16 x9 x10 x11 x12 x13 x14 a17 a18 a19 x15 a20 x16 a21 x17 x18 a22 a23 a24 a25 x19 a26 x_5 a27 a28 a29 y0 a30 a31 a32 a33 a34 a35 a36 a37 a38 x21 x22 x23 y1 a39 x24 a40 a41 a42 a43 x25 x26 x27 x28 a26 g0)) hP hD hS hA [0, 1] rfl (by decide +kernel) (fun _ => by rfl) (fun hPc hDc => va_runV (As := [.long 0]) (rest := []) ⟨hx, hb, hml, hown, hts⟩ (k_X12_puts l D cB cC cI cJ _ a0 a1 a2 a3 a4 a5 a6 a7 a8 a9 a10 a11 a12 a13 a14 a15 a16 a17 a18 a19 a20 a21 a22 a23 a24 a25 a26 a27 a28 a29 a30 a31 a32 a33 a34 a35 a36 a37 a38 a39 a40 a41 a42 a43 x1 x2 x3 x4 x5 x6 x7 x8 x9 x10 x11 x12 x13 x14 x15 x16 x17 x18 x19 x_5 x21 x22 x23 x24 x25 x26 x27 x28 0 y0 y1 g0 h_x1 h_x2 h_x3 h_x4 h_x5 h_x6 h_x9 h_x10 h_x11 h_x12 h_x13 h_x15 h_x16 h_x17 h_x19 (by first | exact (om_1847 ex_5 hg__P h_x20.2) | (have k0 := tL_0; (first | omega | (unfold zBd at *; omega)))) h_x21 h_x22 h_x23 h_x24 h_x25 h_x26 h_x27 h_x28 hr_a0_0 hr_a0_1 hr_a0_2 (by first | exact (om_1848 ex_5 h_x20.2) | (have k0 := tL_0; (first | omega | (unfold zBd at *; omega))))) ⟨gcwB hts tw_2056 tw_14 tw_2053 hd_yX12_puts ⟨Nat.le_of_ble_eq_true rfl, Nat.le_of_ble_eq_true rfl⟩, hts _ tw_2055, hts _ tp_119⟩ ⟨gblind, va_recv hK hPc (ci := 12) (q0 := 0) rfl rfl, (gpreS hPc hK hDc hN).2⟩ rfl rfl hl.1 rfl (lv_room (Nat.le_of_ble_eq_true rfl)) dX12_joins_216 ⟨Nat.le_of_ble_eq_true rfl, Nat.le_of_ble_eq_true rfl⟩) (fun u_126 H locs hw_128 hP hD hS => ?_)
              replace hP : va_P D gcl (zS_7 cB cC cI cJ a0 a1 x1 x2 x3 x4 x5 x6 x7 x8 a2 a3 a4 a5 a6 a7 a8 a9 a10 a11 a12 a13 a14 a15 a16 x9 x10 x11 x12 x13 x14 a17 a18 a19 x15 a20 x16 a21 x17 x18 a22 a23 a24 a25 x19 a26 (u_126.2.2.2.1 0) a27 a28 a29 y0 a30 a31 a32 a33 a34 a35 a36 a37 a38 x21 x22 x23 y1 a39 x24 a40 a41 a42 a43 x25 x26 x27 x28 a26 (u_126.2.2.1 0)) H := hP
              replace hD : va_D A (zS_7 cB cC cI cJ a0 a1 x1 x2 x3 x4 x5 x6 x7 x8 a2 a3 a4 a5 a6 a7 a8 a9 a10 a11 a12 a13 a14 a15 a16 x9 x10 x11 x12 x13 x14 a17 a18 a19 x15 a20 x16 a21 x17 x18 a22 a23 a24 a25 x19 a26 (u_126.2.2.2.1 0) a27 a28 a29 y0 a30 a31 a32 a33 a34 a35 a36 a37 a38 x21 x22 x23 y1 a39 x24 a40 a41 a42 a43 x25 x26 x27 x28 a26 (u_126.2.2.1 0)) := hD
              obtain ⟨hw_129, hw_130⟩ := hw_128
              replace hw_129 : (((u_126.2.2.2.1 0).toInt = (x_5.toInt) + (1))) := hw_129
              replace hw_130 : zBd (u_126.2.2.2.1 0).toInt 0 1700 := hw_130
              have kk0_r_127 := tL_0
              refine lv_goto (pc := 219) (tgt := 289) hx hb dX12_joins_219 (by decide) ?_
              have hP9 : va_P D gcl (zS_7 cB cC cI cJ a0 a1 x1 x2 x3 x4 x5 x6 x7 x8 a2 a3 a4 a5 a6 a7 a8 a9 a10 a11 a12 a13 a14 a15 a16 x9 x10 x11 x12 x13 x14 a17 a18 a19 x15 a20 x16 a21 x17 x18 a22 a23 a24 a25 x19 a26 (u_126.2.2.2.1 0) a27 a28 a29 y0 a30 a31 a32 a33 a34 a35 a36 a37 a38 x21 x22 x23 y1 a39 x24 a40 a41 a42 a43 x25 x26 x27 x28 a26 (u_126.2.2.1 0)) H := g_psub hP [0, 1] rfl
              have hD9 : va_D A (zS_7 cB cC cI cJ a0 a1 x1 x2 x3 x4 x5 x6 x7 x8 a2 a3 a4 a5 a6 a7 a8 a9 a10 a11 a12 a13 a14 a15 a16 x9 x10 x11 x12 x13 x14 a17 a18 a19 x15 a20 x16 a21 x17 x18 a22 a23 a24 a25 x19 a26 (u_126.2.2.2.1 0) a27 a28 a29 y0 a30 a31 a32 a33 a34 a35 a36 a37 a38 x21 x22 x23 y1 a39 x24 a40 a41 a42 a43 x25 x26 x27 x28 a26 (u_126.2.2.1 0)) := hD.sub [0, 1] (by decide) rfl
              exact hret ((fun _ => 0), (fun _ => (fun _ => 0)), (fun k => [(u_126.2.2.1 0)].getD k (fun _ => 0)), (fun k => [(u_126.2.2.2.1 0)].getD k 0), (fun _ => 0)) dX12_joins_289 ⟨(show (0 ≤ ((u_126.2.2.2.1 0) : Int32).toInt ∧ ((u_126.2.2.2.1 0) : Int32).toInt ≤ 1700) from hw_130), (show (u_126.2.2.2.1 0).toInt = x20.toInt - 1 from (by first | exact (om_1849 hw_129 ex_5) | ((first | omega | (unfold zBd at *; omega)))))⟩ hP9 hD9 hS
          ·
            as_aux_lemma =>
              refine lv_lconst (pc := 211) (v := 1) hx hb dX12_joins_211 (by decide) ?_
              refine lv_goto (pc := 212) (tgt := 216) hx hb dX12_joins_212 (by decide) ?_
              refine gd_v (pc := 216) (wc := (zS_7 cB cC cI cJ a0 a1 x1 x2 x3 x4 x5 x6 x7 x8 a2 a3 a4 a5 a6 a7 a8 a9 a10 a11 a12 a13 a14 a15 a16 x9 x10 x11 x12 x13 x14 a17 a18 a19 x15 a20 x16 a21 x17 x18 a22 a23 a24 a25 x19 a26 x_5 a27 a28 a29 y0 a30 a31 a32 a33 a34 a35 a36 a37 a38 x21 x22 x23 y1 a39 x24 a40 a41 a42 a43 x25 x26 x27 x28 a26 g0)) hP hD hS hA [0, 1] rfl (by decide +kernel) (fun _ => by rfl) (fun hPc hDc => va_runV (As := [.long 1]) (rest := []) ⟨hx, hb, hml, hown, hts⟩ (k_X12_puts l D cB cC cI cJ _ a0 a1 a2 a3 a4 a5 a6 a7 a8 a9 a10 a11 a12 a13 a14 a15 a16 a17 a18 a19 a20 a21 a22 a23 a24 a25 a26 a27 a28 a29 a30 a31 a32 a33 a34 a35 a36 a37 a38 a39 a40 a41 a42 a43 x1 x2 x3 x4 x5 x6 x7 x8 x9 x10 x11 x12 x13 x14 x15 x16 x17 x18 x19 x_5 x21 x22 x23 x24 x25 x26 x27 x28 1 y0 y1 g0 h_x1 h_x2 h_x3 h_x4 h_x5 h_x6 h_x9 h_x10 h_x11 h_x12 h_x13 h_x15 h_x16 h_x17 h_x19 (by first | exact (om_1847 ex_5 hg__P h_x20.2) | (have k0 := tL_1; (first | omega | (unfold zBd at *; omega)))) h_x21 h_x22 h_x23 h_x24 h_x25 h_x26 h_x27 h_x28 hr_a0_0 hr_a0_1 hr_a0_2 (by first | exact (om_1848 ex_5 h_x20.2) | (have k0 := tL_1; (first | omega | (unfold zBd at *; omega))))) ⟨gcwB hts tw_2056 tw_14 tw_2053 hd_yX12_puts ⟨Nat.le_of_ble_eq_true rfl, Nat.le_of_ble_eq_true rfl⟩, hts _ tw_2055, hts _ tp_119⟩ ⟨gblind, va_recv hK hPc (ci := 12) (q0 := 0) rfl rfl, (gpreS hPc hK hDc hN).2⟩ rfl rfl hl.1 rfl (lv_room (Nat.le_of_ble_eq_true rfl)) dX12_joins_216 ⟨Nat.le_of_ble_eq_true rfl, Nat.le_of_ble_eq_true rfl⟩) (fun u_131 H locs hw_133 hP hD hS => ?_)
              replace hP : va_P D gcl (zS_7 cB cC cI cJ a0 a1 x1 x2 x3 x4 x5 x6 x7 x8 a2 a3 a4 a5 a6 a7 a8 a9 a10 a11 a12 a13 a14 a15 a16 x9 x10 x11 x12 x13 x14 a17 a18 a19 x15 a20 x16 a21 x17 x18 a22 a23 a24 a25 x19 a26 (u_131.2.2.2.1 0) a27 a28 a29 y0 a30 a31 a32 a33 a34 a35 a36 a37 a38 x21 x22 x23 y1 a39 x24 a40 a41 a42 a43 x25 x26 x27 x28 a26 (u_131.2.2.1 0)) H := hP
              replace hD : va_D A (zS_7 cB cC cI cJ a0 a1 x1 x2 x3 x4 x5 x6 x7 x8 a2 a3 a4 a5 a6 a7 a8 a9 a10 a11 a12 a13 a14 a15 a16 x9 x10 x11 x12 x13 x14 a17 a18 a19 x15 a20 x16 a21 x17 x18 a22 a23 a24 a25 x19 a26 (u_131.2.2.2.1 0) a27 a28 a29 y0 a30 a31 a32 a33 a34 a35 a36 a37 a38 x21 x22 x23 y1 a39 x24 a40 a41 a42 a43 x25 x26 x27 x28 a26 (u_131.2.2.1 0)) := hD
              obtain ⟨hw_134, hw_135⟩ := hw_133
              replace hw_134 : (((u_131.2.2.2.1 0).toInt = (x_5.toInt) + (1))) := hw_134
              replace hw_135 : zBd (u_131.2.2.2.1 0).toInt 0 1700 := hw_135
              have kk0_r_132 := tL_1
              refine lv_goto (pc := 219) (tgt := 289) hx hb dX12_joins_219 (by decide) ?_
              have hP9 : va_P D gcl (zS_7 cB cC cI cJ a0 a1 x1 x2 x3 x4 x5 x6 x7 x8 a2 a3 a4 a5 a6 a7 a8 a9 a10 a11 a12 a13 a14 a15 a16 x9 x10 x11 x12 x13 x14 a17 a18 a19 x15 a20 x16 a21 x17 x18 a22 a23 a24 a25 x19 a26 (u_131.2.2.2.1 0) a27 a28 a29 y0 a30 a31 a32 a33 a34 a35 a36 a37 a38 x21 x22 x23 y1 a39 x24 a40 a41 a42 a43 x25 x26 x27 x28 a26 (u_131.2.2.1 0)) H := g_psub hP [0, 1] rfl
              have hD9 : va_D A (zS_7 cB cC cI cJ a0 a1 x1 x2 x3 x4 x5 x6 x7 x8 a2 a3 a4 a5 a6 a7 a8 a9 a10 a11 a12 a13 a14 a15 a16 x9 x10 x11 x12 x13 x14 a17 a18 a19 x15 a20 x16 a21 x17 x18 a22 a23 a24 a25 x19 a26 (u_131.2.2.2.1 0) a27 a28 a29 y0 a30 a31 a32 a33 a34 a35 a36 a37 a38 x21 x22 x23 y1 a39 x24 a40 a41 a42 a43 x25 x26 x27 x28 a26 (u_131.2.2.1 0)) := hD.sub [0, 1] (by decide) rfl
              exact hret ((fun _ => 0), (fun _ => (fun _ => 0)), (fun k => [(u_131.2.2.1 0)].getD k (fun _ => 0)), (fun k => [(u_131.2.2.2.1 0)].getD k 0), (fun _ => 0)) dX12_joins_289 ⟨(show (0 ≤ ((u_131.2.2.2.1 0) : Int32).toInt ∧ ((u_131.2.2.2.1 0) : Int32).toInt ≤ 1700) from hw_135), (show (u_131.2.2.2.1 0).toInt = x20.toInt - 1 from (by first | exact (om_1849 hw_134 ex_5) | ((first | omega | (unfold zBd at *; omega)))))⟩ hP9 hD9 hS
      by_cases h_136 : x0.toInt = 12
      ·
        as_aux_lemma =>
          refine lv_tableIn (pc := 36) (off := 186) (tgt := 222) hx hb dX12_joins_36 (by rw [h_136]; decide) (by rw [h_136]; decide) (by rw [h_136]; decide +kernel) (by decide) ?_
          refine lv_aload_n (pc := 222) hx hb dX12_joins_222 rfl (lv_at hl 2 rfl) ?_
          refine lv_lload (pc := 223) hx hb dX12_joins_223 (lv_at hl 0 rfl) ?_
          refine lv_lload_n (pc := 225) hx hb dX12_joins_225 rfl (lv_at hl 1 rfl) ?_
          refine b_lcmp_le (pc := 226) (tgt := 234) hx hb rfl rfl dX12_joins_226 dX12_joins_227 (by decide) (fun c_137 => ?_) (fun c_137 => ?_)
          ·
            as_aux_lemma =>
              refine lv_lconst (pc := 234) (v := 0) hx hb dX12_joins_234 (by decide) ?_
              refine gd_v (pc := 235) (wc := (zS_7 cB cC cI cJ a0 a1 x1 x2 x3 x4 x5 x6 x7 x8 a2 a3 a4 a5 a6 a7 a8 a9 a10 a11 a12 a13 a14 a15 a16 x9 x10 x11 x12 x13 x14 a17 a18 a19 x15 a20 x16 a21 x17 x18 a22 a23 a24 a25 x19 a26 x_5 a27 a28 a29 y0 a30 a31 a32 a33 a34 a35 a36 a37 a38 x21 x22 x23 y1 a39 x24 a40 a41 a42 a43 x25 x26 x27 x28 a26 g0)) hP hD hS hA [0, 1] rfl (by decide +kernel) (fun _ => by rfl) (fun hPc hDc => va_runV (As := [.long 0]) (rest := []) ⟨hx, hb, hml, hown, hts⟩ (k_X12_puts l D cB cC cI cJ _ a0 a1 a2 a3 a4 a5 a6 a7 a8 a9 a10 a11 a12 a13 a14 a15 a16 a17 a18 a19 a20 a21 a22 a23 a24 a25 a26 a27 a28 a29 a30 a31 a32 a33 a34 a35 a36 a37 a38 a39 a40 a41 a42 a43 x1 x2 x3 x4 x5 x6 x7 x8 x9 x10 x11 x12 x13 x14 x15 x16 x17 x18 x19 x_5 x21 x22 x23 x24 x25 x26 x27 x28 0 y0 y1 g0 h_x1 h_x2 h_x3 h_x4 h_x5 h_x6 h_x9 h_x10 h_x11 h_x12 h_x13 h_x15 h_x16 h_x17 h_x19 (by first | exact (om_1847 ex_5 hg__P h_x20.2) | (have k0 := tL_0; (first | omega | (unfold zBd at *; omega)))) h_x21 h_x22 h_x23 h_x24 h_x25 h_x26 h_x27 h_x28 hr_a0_0 hr_a0_1 hr_a0_2 (by first | exact (om_1848 ex_5 h_x20.2) | (have k0 := tL_0; (first | omega | (unfold zBd at *; omega))))) ⟨gcwB hts tw_2056 tw_14 tw_2053 hd_yX12_puts ⟨Nat.le_of_ble_eq_true rfl, Nat.le_of_ble_eq_true rfl⟩, hts _ tw_2055, hts _ tp_119⟩ ⟨gblind, va_recv hK hPc (ci := 12) (q0 := 0) rfl rfl, (gpreS hPc hK hDc hN).2⟩ rfl rfl hl.1 rfl (lv_room (Nat.le_of_ble_eq_true rfl)) dX12_joins_235 ⟨Nat.le_of_ble_eq_true rfl, Nat.le_of_ble_eq_true rfl⟩) (fun u_138 H locs hw_140 hP hD hS => ?_)
              replace hP : va_P D gcl (zS_7 cB cC cI cJ a0 a1 x1 x2 x3 x4 x5 x6 x7 x8 a2 a3 a4 a5 a6 a7 a8 a9 a10 a11 a12 a13 a14 a15 a16 x9 x10 x11 x12 x13 x14 a17 a18 a19 x15 a20 x16 a21 x17 x18 a22 a23 a24 a25 x19 a26 (u_138.2.2.2.1 0) a27 a28 a29 y0 a30 a31 a32 a33 a34 a35 a36 a37 a38 x21 x22 x23 y1 a39 x24 a40 a41 a42 a43 x25 x26 x27 x28 a26 (u_138.2.2.1 0)) H := hP
              replace hD : va_D A (zS_7 cB cC cI cJ a0 a1 x1 x2 x3 x4 x5 x6 x7 x8 a2 a3 a4 a5 a6 a7 a8 a9 a10 a11 a12 a13 a14 a15 a16 x9 x10 x11 x12 x13 x14 a17 a18 a19 x15 a20 x16 a21 x17 x18 a22 a23 a24 a25 x19 a26 (u_138.2.2.2.1 0) a27 a28 a29 y0 a30 a31 a32 a33 a34 a35 a36 a37 a38 x21 x22 x23 y1 a39 x24 a40 a41 a42 a43 x25 x26 x27 x28 a26 (u_138.2.2.1 0)) := hD
              obtain ⟨hw_141, hw_142⟩ := hw_140
              replace hw_141 : (((u_138.2.2.2.1 0).toInt = (x_5.toInt) + (1))) := hw_141
              replace hw_142 : zBd (u_138.2.2.2.1 0).toInt 0 1700 := hw_142
              have kk0_r_139 := tL_0
              refine lv_goto (pc := 238) (tgt := 289) hx hb dX12_joins_238 (by decide) ?_
              have hP9 : va_P D gcl (zS_7 cB cC cI cJ a0 a1 x1 x2 x3 x4 x5 x6 x7 x8 a2 a3 a4 a5 a6 a7 a8 a9 a10 a11 a12 a13 a14 a15 a16 x9 x10 x11 x12 x13 x14 a17 a18 a19 x15 a20 x16 a21 x17 x18 a22 a23 a24 a25 x19 a26 (u_138.2.2.2.1 0) a27 a28 a29 y0 a30 a31 a32 a33 a34 a35 a36 a37 a38 x21 x22 x23 y1 a39 x24 a40 a41 a42 a43 x25 x26 x27 x28 a26 (u_138.2.2.1 0)) H := g_psub hP [0, 1] rfl
              have hD9 : va_D A (zS_7 cB cC cI cJ a0 a1 x1 x2 x3 x4 x5 x6 x7 x8 a2 a3 a4 a5 a6 a7 a8 a9 a10 a11 a12 a13 a14 a15 a16 x9 x10 x11 x12 x13 x14 a17 a18 a19 x15 a20 x16 a21 x17 x18 a22 a23 a24 a25 x19 a26 (u_138.2.2.2.1 0) a27 a28 a29 y0 a30 a31 a32 a33 a34 a35 a36 a37 a38 x21 x22 x23 y1 a39 x24 a40 a41 a42 a43 x25 x26 x27 x28 a26 (u_138.2.2.1 0)) := hD.sub [0, 1] (by decide) rfl
              exact hret ((fun _ => 0), (fun _ => (fun _ => 0)), (fun k => [(u_138.2.2.1 0)].getD k (fun _ => 0)), (fun k => [(u_138.2.2.2.1 0)].getD k 0), (fun _ => 0)) dX12_joins_289 ⟨(show (0 ≤ ((u_138.2.2.2.1 0) : Int32).toInt ∧ ((u_138.2.2.2.1 0) : Int32).toInt ≤ 1700) from hw_142), (show (u_138.2.2.2.1 0).toInt = x20.toInt - 1 from (by first | exact (om_1849 hw_141 ex_5) | ((first | omega | (unfold zBd at *; omega)))))⟩ hP9 hD9 hS
          ·
            as_aux_lemma =>
              refine lv_lconst (pc := 230) (v := 1) hx hb dX12_joins_230 (by decide) ?_
              refine lv_goto (pc := 231) (tgt := 235) hx hb dX12_joins_231 (by decide) ?_
              refine gd_v (pc := 235) (wc := (zS_7 cB cC cI cJ a0 a1 x1 x2 x3 x4 x5 x6 x7 x8 a2 a3 a4 a5 a6 a7 a8 a9 a10 a11 a12 a13 a14 a15 a16 x9 x10 x11 x12 x13 x14 a17 a18 a19 x15 a20 x16 a21 x17 x18 a22 a23 a24 a25 x19 a26 x_5 a27 a28 a29 y0 a30 a31 a32 a33 a34 a35 a36 a37 a38 x21 x22 x23 y1 a39 x24 a40 a41 a42 a43 x25 x26 x27 x28 a26 g0)) hP hD hS hA [0, 1] rfl (by decide +kernel) (fun _ => by rfl) (fun hPc hDc => va_runV (As := [.long 1]) (rest := []) ⟨hx, hb, hml, hown, hts⟩ (k_X12_puts l D cB cC cI cJ _ a0 a1 a2 a3 a4 a5 a6 a7 a8 a9 a10 a11 a12 a13 a14 a15 a16 a17 a18 a19 a20 a21 a22 a23 a24 a25 a26 a27 a28 a29 a30 a31 a32 a33 a34 a35 a36 a37 a38 a39 a40 a41 a42 a43 x1 x2 x3 x4 x5 x6 x7 x8 x9 x10 x11 x12 x13 x14 x15 x16 x17 x18 x19 x_5 x21 x22 x23 x24 x25 x26 x27 x28 1 y0 y1 g0 h_x1 h_x2 h_x3 h_x4 h_x5 h_x6 h_x9 h_x10 h_x11 h_x12 h_x13 h_x15 h_x16 h_x17 h_x19 (by first | exact (om_1847 ex_5 hg__P h_x20.2) | (have k0 := tL_1; (first | omega | (unfold zBd at *; omega)))) h_x21 h_x22 h_x23 h_x24 h_x25 h_x26 h_x27 h_x28 hr_a0_0 hr_a0_1 hr_a0_2 (by first | exact (om_1848 ex_5 h_x20.2) | (have k0 := tL_1; (first | omega | (unfold zBd at *; omega))))) ⟨gcwB hts tw_2056 tw_14 tw_2053 hd_yX12_puts ⟨Nat.le_of_ble_eq_true rfl, Nat.le_of_ble_eq_true rfl⟩, hts _ tw_2055, hts _ tp_119⟩ ⟨gblind, va_recv hK hPc (ci := 12) (q0 := 0) rfl rfl, (gpreS hPc hK hDc hN).2⟩ rfl rfl hl.1 rfl (lv_room (Nat.le_of_ble_eq_true rfl)) dX12_joins_235 ⟨Nat.le_of_ble_eq_true rfl, Nat.le_of_ble_eq_true rfl⟩) (fun u_143 H locs hw_145 hP hD hS => ?_)
              replace hP : va_P D gcl (zS_7 cB cC cI cJ a0 a1 x1 x2 x3 x4 x5 x6 x7 x8 a2 a3 a4 a5 a6 a7 a8 a9 a10 a11 a12 a13 a14 a15 a16 x9 x10 x11 x12 x13 x14 a17 a18 a19 x15 a20 x16 a21 x17 x18 a22 a23 a24 a25 x19 a26 (u_143.2.2.2.1 0) a27 a28 a29 y0 a30 a31 a32 a33 a34 a35 a36 a37 a38 x21 x22 x23 y1 a39 x24 a40 a41 a42 a43 x25 x26 x27 x28 a26 (u_143.2.2.1 0)) H := hP
              replace hD : va_D A (zS_7 cB cC cI cJ a0 a1 x1 x2 x3 x4 x5 x6 x7 x8 a2 a3 a4 a5 a6 a7 a8 a9 a10 a11 a12 a13 a14 a15 a16 x9 x10 x11 x12 x13 x14 a17 a18 a19 x15 a20 x16 a21 x17 x18 a22 a23 a24 a25 x19 a26 (u_143.2.2.2.1 0) a27 a28 a29 y0 a30 a31 a32 a33 a34 a35 a36 a37 a38 x21 x22 x23 y1 a39 x24 a40 a41 a42 a43 x25 x26 x27 x28 a26 (u_143.2.2.1 0)) := hD
              obtain ⟨hw_146, hw_147⟩ := hw_145
              replace hw_146 : (((u_143.2.2.2.1 0).toInt = (x_5.toInt) + (1))) := hw_146
              replace hw_147 : zBd (u_143.2.2.2.1 0).toInt 0 1700 := hw_147
              have kk0_r_144 := tL_1
              refine lv_goto (pc := 238) (tgt := 289) hx hb dX12_joins_238 (by decide) ?_
              have hP9 : va_P D gcl (zS_7 cB cC cI cJ a0 a1 x1 x2 x3 x4 x5 x6 x7 x8 a2 a3 a4 a5 a6 a7 a8 a9 a10 a11 a12 a13 a14 a15 a16 x9 x10 x11 x12 x13 x14 a17 a18 a19 x15 a20 x16 a21 x17 x18 a22 a23 a24 a25 x19 a26 (u_143.2.2.2.1 0) a27 a28 a29 y0 a30 a31 a32 a33 a34 a35 a36 a37 a38 x21 x22 x23 y1 a39 x24 a40 a41 a42 a43 x25 x26 x27 x28 a26 (u_143.2.2.1 0)) H := g_psub hP [0, 1] rfl
              have hD9 : va_D A (zS_7 cB cC cI cJ a0 a1 x1 x2 x3 x4 x5 x6 x7 x8 a2 a3 a4 a5 a6 a7 a8 a9 a10 a11 a12 a13 a14 a15 a16 x9 x10 x11 x12 x13 x14 a17 a18 a19 x15 a20 x16 a21 x17 x18 a22 a23 a24 a25 x19 a26 (u_143.2.2.2.1 0) a27 a28 a29 y0 a30 a31 a32 a33 a34 a35 a36 a37 a38 x21 x22 x23 y1 a39 x24 a40 a41 a42 a43 x25 x26 x27 x28 a26 (u_143.2.2.1 0)) := hD.sub [0, 1] (by decide) rfl
              exact hret ((fun _ => 0), (fun _ => (fun _ => 0)), (fun k => [(u_143.2.2.1 0)].getD k (fun _ => 0)), (fun k => [(u_143.2.2.2.1 0)].getD k 0), (fun _ => 0)) dX12_joins_289 ⟨(show (0 ≤ ((u_143.2.2.2.1 0) : Int32).toInt ∧ ((u_143.2.2.2.1 0) : Int32).toInt ≤ 1700) from hw_147), (show (u_143.2.2.2.1 0).toInt = x20.toInt - 1 from (by first | exact (om_1849 hw_146 ex_5) | ((first | omega | (unfold zBd at *; omega)))))⟩ hP9 hD9 hS
      by_cases h_148 : x0.toInt = 13
      ·
        as_aux_lemma =>
          refine lv_tableIn (pc := 36) (off := 205) (tgt := 241) hx hb dX12_joins_36 (by rw [h_148]; decide) (by rw [h_148]; decide) (by rw [h_148]; decide +kernel) (by decide) ?_
          refine lv_aload_n (pc := 241) hx hb dX12_joins_241 rfl (lv_at hl 2 rfl) ?_
          refine lv_lload (pc := 242) hx hb dX12_joins_242 (lv_at hl 0 rfl) ?_
          refine lv_lload_n (pc := 244) hx hb dX12_joins_244 rfl (lv_at hl 1 rfl) ?_
          refine b_lcmp_ne (pc := 245) (tgt := 253) hx hb rfl rfl dX12_joins_245 dX12_joins_246 (by decide) (fun c_149 => ?_) (fun c_149 => ?_)
          ·
            as_aux_lemma =>
              refine lv_lconst (pc := 253) (v := 0) hx hb dX12_joins_253 (by decide) ?_
              refine gd_v (pc := 254) (wc := (zS_7 cB cC cI cJ a0 a1 x1 x2 x3 x4 x5 x6 x7 x8 a2 a3 a4 a5 a6 a7 a8 a9 a10 a11 a12 a13 a14 a15 a16 x9 x10 x11 x12 x13 x14 a17 a18 a19 x15 a20 x16 a21 x17 x18 a22 a23 a24 a25 x19 a26 x_5 a27 a28 a29 y0 a30 a31 a32 a33 a34 a35 a36 a37 a38 x21 x22 x23 y1 a39 x24 a40 a41 a42 a43 x25 x26 x27 x28 a26 g0)) hP hD hS hA [0, 1] rfl (by decide +kernel) (fun _ => by rfl) (fun hPc hDc => va_runV (As := [.long 0]) (rest := []) ⟨hx, hb, hml, hown, hts⟩ (k_X12_puts l D cB cC cI cJ _ a0 a1 a2 a3 a4 a5 a6 a7 a8 a9 a10 a11 a12 a13 a14 a15 a16 a17 a18 a19 a20 a21 a22 a23 a24 a25 a26 a27 a28 a29 a30 a31 a32 a33 a34 a35 a36 a37 a38 a39 a40 a41 a42 a43 x1 x2 x3 x4 x5 x6 x7 x8 x9 x10 x11 x12 x13 x14 x15 x16 x17 x18 x19 x_5 x21 x22 x23 x24 x25 x26 x27 x28 0 y0 y1 g0 h_x1 h_x2 h_x3 h_x4 h_x5 h_x6 h_x9 h_x10 h_x11 h_x12 h_x13 h_x15 h_x16 h_x17 h_x19 (by first | exact (om_1847 ex_5 hg__P h_x20.2) | (have k0 := tL_0; (first | omega | (unfold zBd at *; omega)))) h_x21 h_x22 h_x23 h_x24 h_x25 h_x26 h_x27 h_x28 hr_a0_0 hr_a0_1 hr_a0_2 (by first | exact (om_1848 ex_5 h_x20.2) | (have k0 := tL_0; (first | omega | (unfold zBd at *; omega))))) ⟨gcwB hts tw_2056 tw_14 tw_2053 hd_yX12_puts ⟨Nat.le_of_ble_eq_true rfl, Nat.le_of_ble_eq_true rfl⟩, hts _ tw_2055, hts _ tp_119⟩ ⟨gblind, va_recv hK hPc (ci := 12) (q0 := 0) rfl rfl, (gpreS hPc hK hDc hN).2⟩ rfl rfl hl.1 rfl (lv_room (Nat.le_of_ble_eq_true rfl)) dX12_joins_254 ⟨Nat.le_of_ble_eq_true rfl, Nat.le_of_ble_eq_true rfl⟩) (fun u_150 H locs hw_152 hP hD hS => ?_)
              replace hP : va_P D gcl (zS_7 cB cC cI cJ a0 a1 x1 x2 x3 x4 x5 x6 x7 x8 a2 a3 a4 a5 a6 a7 a8 a9 a10 a11 a12 a13 a14 a15 a16 x9 x10 x11 x12 x13 x14 a17 a18 a19 x15 a20 x16 a21 x17 x18 a22 a23 a24 a25 x19 a26 (u_150.2.2.2.1 0) a27 a28 a29 y0 a30 a31 a32 a33 a34 a35 a36 a37 a38 x21 x22 x23 y1 a39 x24 a40 a41 a42 a43 x25 x26 x27 x28 a26 (u_150.2.2.1 0)) H := hP
              replace hD : va_D A (zS_7 cB cC cI cJ a0 a1 x1 x2 x3 x4 x5 x6 x7 x8 a2 a3 a4 a5 a6 a7 a8 a9 a10 a11 a12 a13 a14 a15 a16 x9 x10 x11 x12 x13 x14 a17 a18 a19 x15 a20 x16 a21 x17 x18 a22 a23 a24 a25 x19 a26 (u_150.2.2.2.1 0) a27 a28 a29 y0 a30 a31 a32 a33 a34 a35 a36 a37 a38 x21 x22 x23 y1 a39 x24 a40 a41 a42 a43 x25 x26 x27 x28 a26 (u_150.2.2.1 0)) := hD
              obtain ⟨hw_153, hw_154⟩ := hw_152
              replace hw_153 : (((u_150.2.2.2.1 0).toInt = (x_5.toInt) + (1))) := hw_153
              replace hw_154 : zBd (u_150.2.2.2.1 0).toInt 0 1700 := hw_154
              have kk0_r_151 := tL_0
              refine lv_goto (pc := 257) (tgt := 289) hx hb dX12_joins_257 (by decide) ?_
              have hP9 : va_P D gcl (zS_7 cB cC cI cJ a0 a1 x1 x2 x3 x4 x5 x6 x7 x8 a2 a3 a4 a5 a6 a7 a8 a9 a10 a11 a12 a13 a14 a15 a16 x9 x10 x11 x12 x13 x14 a17 a18 a19 x15 a20 x16 a21 x17 x18 a22 a23 a24 a25 x19 a26 (u_150.2.2.2.1 0) a27 a28 a29 y0 a30 a31 a32 a33 a34 a35 a36 a37 a38 x21 x22 x23 y1 a39 x24 a40 a41 a42 a43 x25 x26 x27 x28 a26 (u_150.2.2.1 0)) H := g_psub hP [0, 1] rfl
              have hD9 : va_D A (zS_7 cB cC cI cJ a0 a1 x1 x2 x3 x4 x5 x6 x7 x8 a2 a3 a4 a5 a6 a7 a8 a9 a10 a11 a12 a13 a14 a15 a16 x9 x10 x11 x12 x13 x14 a17 a18 a19 x15 a20 x16 a21 x17 x18 a22 a23 a24 a25 x19 a26 (u_150.2.2.2.1 0) a27 a28 a29 y0 a30 a31 a32 a33 a34 a35 a36 a37 a38 x21 x22 x23 y1 a39 x24 a40 a41 a42 a43 x25 x26 x27 x28 a26 (u_150.2.2.1 0)) := hD.sub [0, 1] (by decide) rfl
              exact hret ((fun _ => 0), (fun _ => (fun _ => 0)), (fun k => [(u_150.2.2.1 0)].getD k (fun _ => 0)), (fun k => [(u_150.2.2.2.1 0)].getD k 0), (fun _ => 0)) dX12_joins_289 ⟨(show (0 ≤ ((u_150.2.2.2.1 0) : Int32).toInt ∧ ((u_150.2.2.2.1 0) : Int32).toInt ≤ 1700) from hw_154), (show (u_150.2.2.2.1 0).toInt = x20.toInt - 1 from (by first | exact (om_1849 hw_153 ex_5) | ((first | omega | (unfold zBd at *; omega)))))⟩ hP9 hD9 hS
          ·
            as_aux_lemma =>
              refine lv_lconst (pc := 249) (v := 1) hx hb dX12_joins_249 (by decide) ?_
              refine lv_goto (pc := 250) (tgt := 254) hx hb dX12_joins_250 (by decide) ?_
              refine gd_v (pc := 254) (wc := (zS_7 cB cC cI cJ a0 a1 x1 x2 x3 x4 x5 x6 x7 x8 a2 a3 a4 a5 a6 a7 a8 a9 a10 a11 a12 a13 a14 a15 a16 x9 x10 x11 x12 x13 x14 a17 a18 a19 x15 a20 x16 a21 x17 x18 a22 a23 a24 a25 x19 a26 x_5 a27 a28 a29 y0 a30 a31 a32 a33 a34 a35 a36 a37 a38 x21 x22 x23 y1 a39 x24 a40 a41 a42 a43 x25 x26 x27 x28 a26 g0)) hP hD hS hA [0, 1] rfl (by decide +kernel) (fun _ => by rfl) (fun hPc hDc => va_runV (As := [.long 1]) (rest := []) ⟨hx, hb, hml, hown, hts⟩ (k_X12_puts l D cB cC cI cJ _ a0 a1 a2 a3 a4 a5 a6 a7 a8 a9 a10 a11 a12 a13 a14 a15 a16 a17 a18 a19 a20 a21 a22 a23 a24 a25 a26 a27 a28 a29 a30 a31 a32 a33 a34 a35 a36 a37 a38 a39 a40 a41 a42 a43 x1 x2 x3 x4 x5 x6 x7 x8 x9 x10 x11 x12 x13 x14 x15 x16 x17 x18 x19 x_5 x21 x22 x23 x24 x25 x26 x27 x28 1 y0 y1 g0 h_x1 h_x2 h_x3 h_x4 h_x5 h_x6 h_x9 h_x10 h_x11 h_x12 h_x13 h_x15 h_x16 h_x17 h_x19 (by first | exact (om_1847 ex_5 hg__P h_x20.2) | (have k0 := tL_1; (first | omega | (unfold zBd at *; omega)))) h_x21 h_x22 h_x23 h_x24 h_x25 h_x26 h_x27 h_x28 hr_a0_0 hr_a0_1 hr_a0_2 (by first | exact (om_1848 ex_5 h_x20.2) | (have k0 := tL_1; (first | omega | (unfold zBd at *; omega))))) ⟨gcwB hts tw_2056 tw_14 tw_2053 hd_yX12_puts ⟨Nat.le_of_ble_eq_true rfl, Nat.le_of_ble_eq_true rfl⟩, hts _ tw_2055, hts _ tp_119⟩ ⟨gblind, va_recv hK hPc (ci := 12) (q0 := 0) rfl rfl, (gpreS hPc hK hDc hN).2⟩ rfl rfl hl.1 rfl (lv_room (Nat.le_of_ble_eq_true rfl)) dX12_joins_254 ⟨Nat.le_of_ble_eq_true rfl, Nat.le_of_ble_eq_true rfl⟩) (fun u_155 H locs hw_157 hP hD hS => ?_)
              replace hP : va_P D gcl (zS_7 cB cC cI cJ a0 a1 x1 x2 x3 x4 x5 x6 x7 x8 a2 a3 a4 a5 a6 a7 a8 a9 a10 a11 a12 a13 a14 a15 a16 x9 x10 x11 x12 x13 x14 a17 a18 a19 x15 a20 x16 a21 x17 x18 a22 a23 a24 a25 x19 a26 (u_155.2.2.2.1 0) a27 a28 a29 y0 a30 a31 a32 a33 a34 a35 a36 a37 a38 x21 x22 x23 y1 a39 x24 a40 a41 a42 a43 x25 x26 x27 x28 a26 (u_155.2.2.1 0)) H := hP
              replace hD : va_D A (zS_7 cB cC cI cJ a0 a1 x1 x2 x3 x4 x5 x6 x7 x8 a2 a3 a4 a5 a6 a7 a8 a9 a10 a11 a12 a13 a14 a15 a16 x9 x10 x11 x12 x13 x14 a17 a18 a19 x15 a20 x16 a21 x17 x18 a22 a23 a24 a25 x19 a26 (u_155.2.2.2.1 0) a27 a28 a29 y0 a30 a31 a32 a33 a34 a35 a36 a37 a38 x21 x22 x23 y1 a39 x24 a40 a41 a42 a43 x25 x26 x27 x28 a26 (u_155.2.2.1 0)) := hD
              obtain ⟨hw_158, hw_159⟩ := hw_157
              replace hw_158 : (((u_155.2.2.2.1 0).toInt = (x_5.toInt) + (1))) := hw_158
              replace hw_159 : zBd (u_155.2.2.2.1 0).toInt 0 1700 := hw_159
              have kk0_r_156 := tL_1
              refine lv_goto (pc := 257) (tgt := 289) hx hb dX12_joins_257 (by decide) ?_
              have hP9 : va_P D gcl (zS_7 cB cC cI cJ a0 a1 x1 x2 x3 x4 x5 x6 x7 x8 a2 a3 a4 a5 a6 a7 a8 a9 a10 a11 a12 a13 a14 a15 a16 x9 x10 x11 x12 x13 x14 a17 a18 a19 x15 a20 x16 a21 x17 x18 a22 a23 a24 a25 x19 a26 (u_155.2.2.2.1 0) a27 a28 a29 y0 a30 a31 a32 a33 a34 a35 a36 a37 a38 x21 x22 x23 y1 a39 x24 a40 a41 a42 a43 x25 x26 x27 x28 a26 (u_155.2.2.1 0)) H := g_psub hP [0, 1] rfl
              have hD9 : va_D A (zS_7 cB cC cI cJ a0 a1 x1 x2 x3 x4 x5 x6 x7 x8 a2 a3 a4 a5 a6 a7 a8 a9 a10 a11 a12 a13 a14 a15 a16 x9 x10 x11 x12 x13 x14 a17 a18 a19 x15 a20 x16 a21 x17 x18 a22 a23 a24 a25 x19 a26 (u_155.2.2.2.1 0) a27 a28 a29 y0 a30 a31 a32 a33 a34 a35 a36 a37 a38 x21 x22 x23 y1 a39 x24 a40 a41 a42 a43 x25 x26 x27 x28 a26 (u_155.2.2.1 0)) := hD.sub [0, 1] (by decide) rfl
              exact hret ((fun _ => 0), (fun _ => (fun _ => 0)), (fun k => [(u_155.2.2.1 0)].getD k (fun _ => 0)), (fun k => [(u_155.2.2.2.1 0)].getD k 0), (fun _ => 0)) dX12_joins_289 ⟨(show (0 ≤ ((u_155.2.2.2.1 0) : Int32).toInt ∧ ((u_155.2.2.2.1 0) : Int32).toInt ≤ 1700) from hw_159), (show (u_155.2.2.2.1 0).toInt = x20.toInt - 1 from (by first | exact (om_1849 hw_158 ex_5) | ((first | omega | (unfold zBd at *; omega)))))⟩ hP9 hD9 hS
      by_cases h_160 : x0.toInt = 14
      ·
        as_aux_lemma =>
          refine lv_tableIn (pc := 36) (off := 224) (tgt := 260) hx hb dX12_joins_36 (by rw [h_160]; decide) (by rw [h_160]; decide) (by rw [h_160]; decide +kernel) (by decide) ?_
          refine lv_aload_n (pc := 260) hx hb dX12_joins_260 rfl (lv_at hl 2 rfl) ?_
          refine lv_lload (pc := 261) hx hb dX12_joins_261 (lv_at hl 0 rfl) ?_
          refine lv_lload_n (pc := 263) hx hb dX12_joins_263 rfl (lv_at hl 1 rfl) ?_
          refine lv_lmul (pc := 264) hx hb dX12_joins_264 ?_
          refine lv_topl (fun y_161 _ => ?_)
          have ry_161 := n_rngL y_161
          refine gd_v (pc := 265) (wc := (zS_7 cB cC cI cJ a0 a1 x1 x2 x3 x4 x5 x6 x7 x8 a2 a3 a4 a5 a6 a7 a8 a9 a10 a11 a12 a13 a14 a15 a16 x9 x10 x11 x12 x13 x14 a17 a18 a19 x15 a20 x16 a21 x17 x18 a22 a23 a24 a25 x19 a26 x_5 a27 a28 a29 y0 a30 a31 a32 a33 a34 a35 a36 a37 a38 x21 x22 x23 y1 a39 x24 a40 a41 a42 a43 x25 x26 x27 x28 a26 g0)) hP hD hS hA [0, 1] rfl (by decide +kernel) (fun _ => by rfl) (fun hPc hDc => va_runV (As := [.long y_161]) (rest := []) ⟨hx, hb, hml, hown, hts⟩ (k_X12_puts l D cB cC cI cJ _ a0 a1 a2 a3 a4 a5 a6 a7 a8 a9 a10 a11 a12 a13 a14 a15 a16 a17 a18 a19 a20 a21 a22 a23 a24 a25 a26 a27 a28 a29 a30 a31 a32 a33 a34 a35 a36 a37 a38 a39 a40 a41 a42 a43 x1 x2 x3 x4 x5 x6 x7 x8 x9 x10 x11 x12 x13 x14 x15 x16 x17 x18 x19 x_5 x21 x22 x23 x24 x25 x26 x27 x28 y_161 y0 y1 g0 h_x1 h_x2 h_x3 h_x4 h_x5 h_x6 h_x9 h_x10 h_x11 h_x12 h_x13 h_x15 h_x16 h_x17 h_x19 (by first | exact (om_1847 ex_5 hg__P h_x20.2) | ((first | omega | (unfold zBd at *; omega)))) h_x21 h_x22 h_x23 h_x24 h_x25 h_x26 h_x27 h_x28 hr_a0_0 hr_a0_1 hr_a0_2 (by first | exact (om_1848 ex_5 h_x20.2) | ((first | omega | (unfold zBd at *; omega))))) ⟨gcwB hts tw_2056 tw_14 tw_2053 hd_yX12_puts ⟨Nat.le_of_ble_eq_true rfl, Nat.le_of_ble_eq_true rfl⟩, hts _ tw_2055, hts _ tp_119⟩ ⟨gblind, va_recv hK hPc (ci := 12) (q0 := 0) rfl rfl, (gpreS hPc hK hDc hN).2⟩ rfl rfl hl.1 rfl (lv_room (Nat.le_of_ble_eq_true rfl)) dX12_joins_265 ⟨Nat.le_of_ble_eq_true rfl, Nat.le_of_ble_eq_true rfl⟩) (fun u_162 H locs hw_164 hP hD hS => ?_)
          replace hP : va_P D gcl (zS_7 cB cC cI cJ a0 a1 x1 x2 x3 x4 x5 x6 x7 x8 a2 a3 a4 a5 a6 a7 a8 a9 a10 a11 a12 a13 a14 a15 a16 x9 x10 x11 x12 x13 x14 a17 a18 a19 x15 a20 x16 a21 x17 x18 a22 a23 a24 a25 x19 a26 (u_162.2.2.2.1 0) a27 a28 a29 y0 a30 a31 a32 a33 a34 a35 a36 a37 a38 x21 x22 x23 y1 a39 x24 a40 a41 a42 a43 x25 x26 x27 x28 a26 (u_162.2.2.1 0)) H := hP
          replace hD : va_D A (zS_7 cB cC cI cJ a0 a1 x1 x2 x3 x4 x5 x6 x7 x8 a2 a3 a4 a5 a6 a7 a8 a9 a10 a11 a12 a13 a14 a15 a16 x9 x10 x11 x12 x13 x14 a17 a18 a19 x15 a20 x16 a21 x17 x18 a22 a23 a24 a25 x19 a26 (u_162.2.2.2.1 0) a27 a28 a29 y0 a30 a31 a32 a33 a34 a35 a36 a37 a38 x21 x22 x23 y1 a39 x24 a40 a41 a42 a43 x25 x26 x27 x28 a26 (u_162.2.2.1 0)) := hD
          obtain ⟨hw_165, hw_166⟩ := hw_164
          replace hw_165 : (((u_162.2.2.2.1 0).toInt = (x_5.toInt) + (1))) := hw_165
          replace hw_166 : zBd (u_162.2.2.2.1 0).toInt 0 1700 := hw_166
          refine lv_goto (pc := 268) (tgt := 289) hx hb dX12_joins_268 (by decide) ?_
          have hP9 : va_P D gcl (zS_7 cB cC cI cJ a0 a1 x1 x2 x3 x4 x5 x6 x7 x8 a2 a3 a4 a5 a6 a7 a8 a9 a10 a11 a12 a13 a14 a15 a16 x9 x10 x11 x12 x13 x14 a17 a18 a19 x15 a20 x16 a21 x17 x18 a22 a23 a24 a25 x19 a26 (u_162.2.2.2.1 0) a27 a28 a29 y0 a30 a31 a32 a33 a34 a35 a36 a37 a38 x21 x22 x23 y1 a39 x24 a40 a41 a42 a43 x25 x26 x27 x28 a26 (u_162.2.2.1 0)) H := g_psub hP [0, 1] rfl
          have hD9 : va_D A (zS_7 cB cC cI cJ a0 a1 x1 x2 x3 x4 x5 x6 x7 x8 a2 a3 a4 a5 a6 a7 a8 a9 a10 a11 a12 a13 a14 a15 a16 x9 x10 x11 x12 x13 x14 a17 a18 a19 x15 a20 x16 a21 x17 x18 a22 a23 a24 a25 x19 a26 (u_162.2.2.2.1 0) a27 a28 a29 y0 a30 a31 a32 a33 a34 a35 a36 a37 a38 x21 x22 x23 y1 a39 x24 a40 a41 a42 a43 x25 x26 x27 x28 a26 (u_162.2.2.1 0)) := hD.sub [0, 1] (by decide) rfl
          exact hret ((fun _ => 0), (fun _ => (fun _ => 0)), (fun k => [(u_162.2.2.1 0)].getD k (fun _ => 0)), (fun k => [(u_162.2.2.2.1 0)].getD k 0), (fun _ => 0)) dX12_joins_289 ⟨(show (0 ≤ ((u_162.2.2.2.1 0) : Int32).toInt ∧ ((u_162.2.2.2.1 0) : Int32).toInt ≤ 1700) from hw_166), (show (u_162.2.2.2.1 0).toInt = x20.toInt - 1 from (by first | exact (om_1849 hw_165 ex_5) | ((first | omega | (unfold zBd at *; omega)))))⟩ hP9 hD9 hS
      refine lv_tableOut (pc := 36) (tgt := 271) hx hb dX12_joins_36 (by (first | omega | (unfold zBd at *; omega))) (by decide) ?_
      refine lv_aload_n (pc := 271) hx hb dX12_joins_271 rfl (lv_at hl 2 rfl) ?_
      refine lv_lload (pc := 272) hx hb dX12_joins_272 (lv_at hl 0 rfl) ?_
      refine lv_lload_n (pc := 274) hx hb dX12_joins_274 rfl (lv_at hl 1 rfl) ?_
      as_aux_lemma =>
        refine lv_ladd (pc := 275) hx hb dX12_joins_275 ?_
        refine lv_topl (fun y_167 _ => ?_)
        have ry_167 := n_rngL y_167
        refine lv_lconst (pc := 276) (v := 0) hx hb dX12_joins_276 (by decide) ?_
        refine b_lcmp_le (pc := 277) (tgt := 285) hx hb rfl tL_0 dX12_joins_277 dX12_joins_278 (by decide) (fun c_168 => ?_) (fun c_168 => ?_)
        ·
          as_aux_lemma =>
            refine lv_lconst (pc := 285) (v := 0) hx hb dX12_joins_285 (by decide) ?_
            refine gd_v (pc := 286) (wc := (zS_7 cB cC cI cJ a0 a1 x1 x2 x3 x4 x5 x6 x7 x8 a2 a3 a4 a5 a6 a7 a8 a9 a10 a11 a12 a13 a14 a15 a16 x9 x10 x11 x12 x13 x14 a17 a18 a19 x15 a20 x16 a21 x17 x18 a22 a23 a24 a25 x19 a26 x_5 a27 a28 a29 y0 a30 a31 a32 a33 a34 a35 a36 a37 a38 x21 x22 x23 y1 a39 x24 a40 a41 a42 a43 x25 x26 x27 x28 a26 g0)) hP hD hS hA [0, 1] rfl (by decide +kernel) (fun _ => by rfl) (fun hPc hDc => va_runV (As := [.long 0]) (rest := []) ⟨hx, hb, hml, hown, hts⟩ (k_X12_puts l D cB cC cI cJ _ a0 a1 a2 a3 a4 a5 a6 a7 a8 a9 a10 a11 a12 a13 a14 a15 a16 a17 a18 a19 a20 a21 a22 a23 a24 a25 a26 a27 a28 a29 a30 a31 a32 a33 a34 a35 a36 a37 a38 a39 a40 a41 a42 a43 x1 x2 x3 x4 x5 x6 x7 x8 x9 x10 x11 x12 x13 x14 x15 x16 x17 x18 x19 x_5 x21 x22 x23 x24 x25 x26 x27 x28 0 y0 y1 g0 h_x1 h_x2 h_x3 h_x4 h_x5 h_x6 h_x9 h_x10 h_x11 h_x12 h_x13 h_x15 h_x16 h_x17 h_x19 (by first | exact (om_1847 ex_5 hg__P h_x20.2) | (have k0 := tL_0; (first | omega | (unfold zBd at *; omega)))) h_x21 h_x22 h_x23 h_x24 h_x25 h_x26 h_x27 h_x28 hr_a0_0 hr_a0_1 hr_a0_2 (by first | exact (om_1848 ex_5 h_x20.2) | (have k0 := tL_0; (first | omega | (unfold zBd at *; omega))))) ⟨gcwB hts tw_2056 tw_14 tw_2053 hd_yX12_puts ⟨Nat.le_of_ble_eq_true rfl, Nat.le_of_ble_eq_true rfl⟩, hts _ tw_2055, hts _ tp_119⟩ ⟨gblind, va_recv hK hPc (ci := 12) (q0 := 0) rfl rfl, (gpreS hPc hK hDc hN).2⟩ rfl rfl hl.1 rfl (lv_room (Nat.le_of_ble_eq_true rfl)) dX12_joins_286 ⟨Nat.le_of_ble_eq_true rfl, Nat.le_of_ble_eq_true rfl⟩) (fun u_169 H locs hw_171 hP hD hS => ?_)
            replace hP : va_P D gcl (zS_7 cB cC cI cJ a0 a1 x1 x2 x3 x4 x5 x6 x7 x8 a2 a3 a4 a5 a6 a7 a8 a9 a10 a11 a12 a13 a14 a15 a16 x9 x10 x11 x12 x13 x14 a17 a18 a19 x15 a20 x16 a21 x17 x18 a22 a23 a24 a25 x19 a26 (u_169.2.2.2.1 0) a27 a28 a29 y0 a30 a31 a32 a33 a34 a35 a36 a37 a38 x21 x22 x23 y1 a39 x24 a40 a41 a42 a43 x25 x26 x27 x28 a26 (u_169.2.2.1 0)) H := hP
            replace hD : va_D A (zS_7 cB cC cI cJ a0 a1 x1 x2 x3 x4 x5 x6 x7 x8 a2 a3 a4 a5 a6 a7 a8 a9 a10 a11 a12 a13 a14 a15 a16 x9 x10 x11 x12 x13 x14 a17 a18 a19 x15 a20 x16 a21 x17 x18 a22 a23 a24 a25 x19 a26 (u_169.2.2.2.1 0) a27 a28 a29 y0 a30 a31 a32 a33 a34 a35 a36 a37 a38 x21 x22 x23 y1 a39 x24 a40 a41 a42 a43 x25 x26 x27 x28 a26 (u_169.2.2.1 0)) := hD
            obtain ⟨hw_172, hw_173⟩ := hw_171
            replace hw_172 : (((u_169.2.2.2.1 0).toInt = (x_5.toInt) + (1))) := hw_172
            replace hw_173 : zBd (u_169.2.2.2.1 0).toInt 0 1700 := hw_173
            have kk0_r_170 := tL_0
            have hP9 : va_P D gcl (zS_7 cB cC cI cJ a0 a1 x1 x2 x3 x4 x5 x6 x7 x8 a2 a3 a4 a5 a6 a7 a8 a9 a10 a11 a12 a13 a14 a15 a16 x9 x10 x11 x12 x13 x14 a17 a18 a19 x15 a20 x16 a21 x17 x18 a22 a23 a24 a25 x19 a26 (u_169.2.2.2.1 0) a27 a28 a29 y0 a30 a31 a32 a33 a34 a35 a36 a37 a38 x21 x22 x23 y1 a39 x24 a40 a41 a42 a43 x25 x26 x27 x28 a26 (u_169.2.2.1 0)) H := g_psub hP [0, 1] rfl
            have hD9 : va_D A (zS_7 cB cC cI cJ a0 a1 x1 x2 x3 x4 x5 x6 x7 x8 a2 a3 a4 a5 a6 a7 a8 a9 a10 a11 a12 a13 a14 a15 a16 x9 x10 x11 x12 x13 x14 a17 a18 a19 x15 a20 x16 a21 x17 x18 a22 a23 a24 a25 x19 a26 (u_169.2.2.2.1 0) a27 a28 a29 y0 a30 a31 a32 a33 a34 a35 a36 a37 a38 x21 x22 x23 y1 a39 x24 a40 a41 a42 a43 x25 x26 x27 x28 a26 (u_169.2.2.1 0)) := hD.sub [0, 1] (by decide) rfl
            exact hret ((fun _ => 0), (fun _ => (fun _ => 0)), (fun k => [(u_169.2.2.1 0)].getD k (fun _ => 0)), (fun k => [(u_169.2.2.2.1 0)].getD k 0), (fun _ => 0)) dX12_joins_289 ⟨(show (0 ≤ ((u_169.2.2.2.1 0) : Int32).toInt ∧ ((u_169.2.2.2.1 0) : Int32).toInt ≤ 1700) from hw_173), (show (u_169.2.2.2.1 0).toInt = x20.toInt - 1 from (by first | exact (om_1849 hw_172 ex_5) | ((first | omega | (unfold zBd at *; omega)))))⟩ hP9 hD9 hS
        ·
          as_aux_lemma =>
            refine lv_lconst (pc := 281) (v := 1) hx hb dX12_joins_281 (by decide) ?_
            refine lv_goto (pc := 282) (tgt := 286) hx hb dX12_joins_282 (by decide) ?_
            refine gd_v (pc := 286) (wc := (zS_7 cB cC cI cJ a0 a1 x1 x2 x3 x4 x5 x6 x7 x8 a2 a3 a4 a5 a6 a7 a8 a9 a10 a11 a12 a13 a14 a15 a16 x9 x10 x11 x12 x13 x14 a17 a18 a19 x15 a20 x16 a21 x17 x18 a22 a23 a24 a25 x19 a26 x_5 a27 a28 a29 y0 a30 a31 a32 a33 a34 a35 a36 a37 a38 x21 x22 x23 y1 a39 x24 a40 a41 a42 a43 x25 x26 x27 x28 a26 g0)) hP hD hS hA [0, 1] rfl (by decide +kernel) (fun _ => by rfl) (fun hPc hDc => va_runV (As := [.long 1]) (rest := []) ⟨hx, hb, hml, hown, hts⟩ (k_X12_puts l D cB cC cI cJ _ a0 a1 a2 a3 a4 a5 a6 a7 a8 a9 a10 a11 a12 a13 a14 a15 a16 a17 a18 a19 a20 a21 a22 a23 a24 a25 a26 a27 a28 a29 a30 a31 a32 a33 a34 a35 a36 a37 a38 a39 a40 a41 a42 a43 x1 x2 x3 x4 x5 x6 x7 x8 x9 x10 x11 x12 x13 x14 x15 x16 x17 x18 x19 x_5 x21 x22 x23 x24 x25 x26 x27 x28 1 y0 y1 g0 h_x1 h_x2 h_x3 h_x4 h_x5 h_x6 h_x9 h_x10 h_x11 h_x12 h_x13 h_x15 h_x16 h_x17 h_x19 (by first | exact (om_1847 ex_5 hg__P h_x20.2) | (have k0 := tL_1; (first | omega | (unfold zBd at *; omega)))) h_x21 h_x22 h_x23 h_x24 h_x25 h_x26 h_x27 h_x28 hr_a0_0 hr_a0_1 hr_a0_2 (by first | exact (om_1848 ex_5 h_x20.2) | (have k0 := tL_1; (first | omega | (unfold zBd at *; omega))))) ⟨gcwB hts tw_2056 tw_14 tw_2053 hd_yX12_puts ⟨Nat.le_of_ble_eq_true rfl, Nat.le_of_ble_eq_true rfl⟩, hts _ tw_2055, hts _ tp_119⟩ ⟨gblind, va_recv hK hPc (ci := 12) (q0 := 0) rfl rfl, (gpreS hPc hK hDc hN).2⟩ rfl rfl hl.1 rfl (lv_room (Nat.le_of_ble_eq_true rfl)) dX12_joins_286 ⟨Nat.le_of_ble_eq_true rfl, Nat.le_of_ble_eq_true rfl⟩) (fun u_174 H locs hw_176 hP hD hS => ?_)
            replace hP : va_P D gcl (zS_7 cB cC cI cJ a0 a1 x1 x2 x3 x4 x5 x6 x7 x8 a2 a3 a4 a5 a6 a7 a8 a9 a10 a11 a12 a13 a14 a15 a16 x9 x10 x11 x12 x13 x14 a17 a18 a19 x15 a20 x16 a21 x17 x18 a22 a23 a24 a25 x19 a26 (u_174.2.2.2.1 0) a27 a28 a29 y0 a30 a31 a32 a33 a34 a35 a36 a37 a38 x21 x22 x23 y1 a39 x24 a40 a41 a42 a43 x25 x26 x27 x28 a26 (u_174.2.2.1 0)) H := hP
            replace hD : va_D A (zS_7 cB cC cI cJ a0 a1 x1 x2 x3 x4 x5 x6 x7 x8 a2 a3 a4 a5 a6 a7 a8 a9 a10 a11 a12 a13 a14 a15 a16 x9 x10 x11 x12 x13 x14 a17 a18 a19 x15 a20 x16 a21 x17 x18 a22 a23 a24 a25 x19 a26 (u_174.2.2.2.1 0) a27 a28 a29 y0 a30 a31 a32 a33 a34 a35 a36 a37 a38 x21 x22 x23 y1 a39 x24 a40 a41 a42 a43 x25 x26 x27 x28 a26 (u_174.2.2.1 0)) := hD
            obtain ⟨hw_177, hw_178⟩ := hw_176
            replace hw_177 : (((u_174.2.2.2.1 0).toInt = (x_5.toInt) + (1))) := hw_177
            replace hw_178 : zBd (u_174.2.2.2.1 0).toInt 0 1700 := hw_178
            have kk0_r_175 := tL_1
            have hP9 : va_P D gcl (zS_7 cB cC cI cJ a0 a1 x1 x2 x3 x4 x5 x6 x7 x8 a2 a3 a4 a5 a6 a7 a8 a9 a10 a11 a12 a13 a14 a15 a16 x9 x10 x11 x12 x13 x14 a17 a18 a19 x15 a20 x16 a21 x17 x18 a22 a23 a24 a25 x19 a26 (u_174.2.2.2.1 0) a27 a28 a29 y0 a30 a31 a32 a33 a34 a35 a36 a37 a38 x21 x22 x23 y1 a39 x24 a40 a41 a42 a43 x25 x26 x27 x28 a26 (u_174.2.2.1 0)) H := g_psub hP [0, 1] rfl
            have hD9 : va_D A (zS_7 cB cC cI cJ a0 a1 x1 x2 x3 x4 x5 x6 x7 x8 a2 a3 a4 a5 a6 a7 a8 a9 a10 a11 a12 a13 a14 a15 a16 x9 x10 x11 x12 x13 x14 a17 a18 a19 x15 a20 x16 a21 x17 x18 a22 a23 a24 a25 x19 a26 (u_174.2.2.2.1 0) a27 a28 a29 y0 a30 a31 a32 a33 a34 a35 a36 a37 a38 x21 x22 x23 y1 a39 x24 a40 a41 a42 a43 x25 x26 x27 x28 a26 (u_174.2.2.1 0)) := hD.sub [0, 1] (by decide) rfl
            exact hret ((fun _ => 0), (fun _ => (fun _ => 0)), (fun k => [(u_174.2.2.1 0)].getD k (fun _ => 0)), (fun k => [(u_174.2.2.2.1 0)].getD k 0), (fun _ => 0)) dX12_joins_289 ⟨(show (0 ≤ ((u_174.2.2.2.1 0) : Int32).toInt ∧ ((u_174.2.2.2.1 0) : Int32).toInt ≤ 1700) from hw_178), (show (u_174.2.2.2.1 0).toInt = x20.toInt - 1 from (by first | exact (om_1849 hw_177 ex_5) | ((first | omega | (unfold zBd at *; omega)))))⟩ hP9 hD9 hS
theorem om_1850 {a b : Int} (h0 : ((-2147483648) ≤ a)) (h1 : (a ≤ 2147483647)) (h2 : (0 ≤ b)) (h3 : (b ≤ 6)) : (((((-2147483648) ≤ a ∧ a ≤ 2147483647) ∧ (0 ≤ b ∧ b ≤ 6)))) := by omega
theorem om_1851 {a : Int} (h0 : ((-9999) ≤ a)) : (a ≠ -2147483648) := by omega
set_option maxHeartbeats 4000000 in
set_option maxRecDepth 100000 in
theorem k_X12_peak (l : Launch) (D : va_G) (cB cC cI cJ : ClassId) (sz : Nat) (a0 a1 a2 a3 a4 a5 a6 a7 a8 a9 a10 a11 a12 a13 a14 a15 a16 a17 a18 a19 a20 a21 a22 a23 a24 a25 a26 a27 a28 a29 a30 a31 a32 a33 a34 a35 a36 a37 a38 a39 a40 a41 a42 a43 : Nat) (x0 x1 x2 x3 x4 x5 x6 x7 x8 x9 x10 x11 x12 x13 x14 x15 x16 x17 x18 x19 x20 x21 x22 x23 x24 x25 x26 x27 x28 : Int32) (y0 y1 : Int64) (f0 : Nat → Int32) (hp1 : (0 ≤ x0.toInt ∧ x0.toInt ≤ 4)) (h_x1 : zBd x1.toInt 0 1600) (h_x2 : zBd x2.toInt 0 1600) (h_x3 : zBd x3.toInt 0 1600) (h_x4 : zBd x4.toInt (-1) 1600) (h_x5 : zBd x5.toInt 0 4) (h_x6 : zBd x6.toInt (-1) 1600) (h_x9 : zBd x9.toInt 0 8) (h_x10 : zBd x10.toInt 0 5) (h_x11 : zBd x11.toInt 0 6) (h_x12 : zBd x12.toInt 0 6) (h_x13 : zBd x13.toInt 0 16) (h_x15 : zBd x15.toInt 0 60) (h_x16 : zBd x16.toInt 0 1600) (h_x17 : zBd x17.toInt 0 1700) (h_x19 : zBd x19.toInt 0 1700) (h_x20 : zBd x20.toInt 0 1700) (h_x21 : zBd x21.toInt 0 200) (h_x22 : zBd x22.toInt 0 40) (h_x23 : zBd x23.toInt 0 40) (h_x24 : zBd x24.toInt 0 1) (h_x25 : zBd x25.toInt 0 14) (h_x26 : zBd x26.toInt 0 200) (h_x27 : zBd x27.toInt 0 40) (h_x28 : zBd x28.toInt 0 40) (hr_a0_0 : (x22.toInt ≤ x21.toInt)) (hr_a0_1 : (x21.toInt + x23.toInt ≤ 200)) (hr_a0_2 : (x10.toInt = 0 ∨ 2 ≤ x9.toInt)) (hf_f0 : (∀ j, (-9999) ≤ (f0 j).toInt ∧ (f0 j).toInt ≤ 9999)) : Met l yX12_peak (.code yX12_peak cX12_peak 5 (some .int) :: lw_gd) ({ frames := 0, cells := 0, slots := 0, locals := 0 }) (gPre D [(cB, .byte), (cC, .char), (cI, .int), (cJ, .long)] [.ref a0, .int x0] (zS_30 cB cC cI cJ a0 a1 x1 x2 x3 x4 x5 x6 x7 x8 a2 a3 a4 a5 a6 a7 a8 a9 a10 a11 a12 a13 a14 a15 a16 x9 x10 x11 x12 x13 x14 a17 a18 a19 x15 a20 x16 a21 x17 x18 a22 a23 a24 a25 x19 a26 x20 a27 a28 a29 y0 a30 a31 a32 a33 a34 a35 a36 a37 a38 x21 x22 x23 y1 a39 x24 a40 a41 a42 a43 x25 x26 x27 x28 a18 f0) sz) (va_Qi (fun r u => ((((-2147483648) ≤ r.toInt ∧ r.toInt ≤ 2147483647) ∧ (0 ≤ x11.toInt ∧ x11.toInt ≤ 6)))) (gB D (va_A (zS_30 cB cC cI cJ a0 a1 x1 x2 x3 x4 x5 x6 x7 x8 a2 a3 a4 a5 a6 a7 a8 a9 a10 a11 a12 a13 a14 a15 a16 x9 x10 x11 x12 x13 x14 a17 a18 a19 x15 a20 x16 a21 x17 x18 a22 a23 a24 a25 x19 a26 x20 a27 a28 a29 y0 a30 a31 a32 a33 a34 a35 a36 a37 a38 x21 x22 x23 y1 a39 x24 a40 a41 a42 a43 x25 x26 x27 x28 a18 f0) sz) (fun u : gEx => (zS_30 cB cC cI cJ a0 a1 x1 x2 x3 x4 x5 x6 x7 x8 a2 a3 a4 a5 a6 a7 a8 a9 a10 a11 a12 a13 a14 a15 a16 x9 x10 x11 x12 x13 x14 a17 a18 a19 x15 a20 x16 a21 x17 x18 a22 a23 a24 a25 x19 a26 x20 a27 a28 a29 y0 a30 a31 a32 a33 a34 a35 a36 a37 a38 x21 x22 x23 y1 a39 x24 a40 a41 a42 a43 x25 x26 x27 x28 a18 f0))) (va_A (zS_30 cB cC cI cJ a0 a1 x1 x2 x3 x4 x5 x6 x7 x8 a2 a3 a4 a5 a6 a7 a8 a9 a10 a11 a12 a13 a14 a15 a16 x9 x10 x11 x12 x13 x14 a17 a18 a19 x15 a20 x16 a21 x17 x18 a22 a23 a24 a25 x19 a26 x20 a27 a28 a29 y0 a30 a31 a32 a33 a34 a35 a36 a37 a38 x21 x22 x23 y1 a39 x24 a40 a41 a42 a43 x25 x26 x27 x28 a18 f0) sz)) 0 0 (va_A (zS_30 cB cC cI cJ a0 a1 x1 x2 x3 x4 x5 x6 x7 x8 a2 a3 a4 a5 a6 a7 a8 a9 a10 a11 a12 a13 a14 a15 a16 x9 x10 x11 x12 x13 x14 a17 a18 a19 x15 a20 x16 a21 x17 x18 a22 a23 a24 a25 x19 a26 x20 a27 a28 a29 y0 a30 a31 a32 a33 a34 a35 a36 a37 a38 x21 x22 x23 y1 a39 x24 a40 a41 a42 a43 x25 x26 x27 x28 a18 f0) sz) := by
  refine gOf_i (by decide +kernel) (Nat.le_of_ble_eq_true rfl) ?_
  intro p e s m args below meth c ls A Q hx hb hts hown hml hN hK hP hD hA hl hret
  replace hown : s.vm.findClass RX12 = some m.cls := hown
  have hS : va_S A s.heap s.heap [] := va_S.rf
  replace hP : va_P D gcl (zS_30 cB cC cI cJ a0 a1 x1 x2 x3 x4 x5 x6 x7 x8 a2 a3 a4 a5 a6 a7 a8 a9 a10 a11 a12 a13 a14 a15 a16 x9 x10 x11 x12 x13 x14 a17 a18 a19 x15 a20 x16 a21 x17 x18 a22 a23 a24 a25 x19 a26 x20 a27 a28 a29 y0 a30 a31 a32 a33 a34 a35 a36 a37 a38 x21 x22 x23 y1 a39 x24 a40 a41 a42 a43 x25 x26 x27 x28 a18 f0) s.heap := hP
  replace hl : lv_has ls 5 [(0, .ref a0), (1, .int x0)] := hl
  have rx7 : zBd x7.toInt (-2147483648) 2147483647 := n_rng x7
  have rx8 : zBd x8.toInt (-2147483648) 2147483647 := n_rng x8
  have rx14 : zBd x14.toInt (-2147483648) 2147483647 := n_rng x14
  have rx18 : zBd x18.toInt (-2147483648) 2147483647 := n_rng x18
  have ry0 := n_rngL y0
  have ry1 := n_rngL y1
  refine lv_iconst (pc := 0) (v := 0) hx hb dX12_peak_0 (by decide) ?_
  refine lv_istore_n (pc := 1) (lv' := [(2, .int 0), (0, .ref a0), (1, .int x0)]) hx hb dX12_peak_1 rfl hl (by decide) rfl (fun ls hl => ?_)
  refine lv_iconst (pc := 2) (v := 0) hx hb dX12_peak_2 (by decide) ?_
  refine lv_istore_n (pc := 3) (lv' := [(3, .int 0), (2, .int 0), (0, .ref a0), (1, .int x0)]) hx hb dX12_peak_3 rfl hl (by decide) rfl (fun ls hl => ?_)
  have lp_5 : ∀ (n : Nat) (x_1 x_3 : Int32) (H : Heap) (locs : List Loc) (ls : Array Slot), (0 ≤ x_1.toInt ∧ x_1.toInt ≤ 2147483647) → (2147483647 - x_1.toInt).toNat < n → va_P D gcl (zS_30 cB cC cI cJ a0 a1 x1 x2 x3 x4 x5 x6 x7 x8 a2 a3 a4 a5 a6 a7 a8 a9 a10 a11 a12 a13 a14 a15 a16 x9 x10 x11 x12 x13 x14 a17 a18 a19 x15 a20 x16 a21 x17 x18 a22 a23 a24 a25 x19 a26 x20 a27 a28 a29 y0 a30 a31 a32 a33 a34 a35 a36 a37 a38 x21 x22 x23 y1 a39 x24 a40 a41 a42 a43 x25 x26 x27 x28 a18 f0) H → va_D A (zS_30 cB cC cI cJ a0 a1 x1 x2 x3 x4 x5 x6 x7 x8 a2 a3 a4 a5 a6 a7 a8 a9 a10 a11 a12 a13 a14 a15 a16 x9 x10 x11 x12 x13 x14 a17 a18 a19 x15 a20 x16 a21 x17 x18 a22 a23 a24 a25 x19 a26 x20 a27 a28 a29 y0 a30 a31 a32 a33 a34 a35 a36 a37 a38 x21 x22 x23 y1 a39 x24 a40 a41 a42 a43 x25 x26 x27 x28 a18 f0) → va_S A s.heap H locs → lv_has ls 5 [(3, .int x_1), (2, .int x_3), (0, .ref a0), (1, .int x0)] → W p l e ({ frames := 0, cells := 0, slots := 0, locals := 0 }) s m args below meth c H locs 0 0 Q (F0 m 4 ls []) := by
    intro n
    induction n with
    | zero => intro x_1 x_3 H locs ls hi_2 hmu; exact absurd hmu (Nat.not_lt_zero _)
    | succ n ih_lp_5 =>
      intro x_1 x_3 H locs ls hi_2 hmu_lp_5 hP hD hS hl
      have hi_4 := n_rng x_3
      refine lv_iload_n (pc := 4) hx hb dX12_peak_4 rfl (lv_at hl 0 rfl) ?_
      refine lv_aload_n (pc := 5) hx hb dX12_peak_5 rfl (lv_at hl 2 rfl) ?_
      refine va_get (pc := 6) (ci := 12) (v := .int x11) (C := RX12) (T := TX12) (N := 73) hx hb hts iX12 hown hK hP 0 rfl rfl 26 (by decide) (hts _ tw_1427) (fun _ h9 => h9) rfl dX12_peak_6 ?_
      have bd_h_x11 : 0 ≤ x11.toInt ∧ x11.toInt ≤ 6 := h_x11
      refine b_icmp_ge (pc := 9) (tgt := 58) hx hb rfl rfl  dX12_peak_9 (by decide) (fun c_6 => ?_) (fun c_6 => ?_)
      ·
        as_aux_lemma =>
          refine lv_iload_n (pc := 58) hx hb dX12_peak_58 rfl (lv_at hl 1 rfl) ?_
          have hP9 : va_P D gcl (zS_30 cB cC cI cJ a0 a1 x1 x2 x3 x4 x5 x6 x7 x8 a2 a3 a4 a5 a6 a7 a8 a9 a10 a11 a12 a13 a14 a15 a16 x9 x10 x11 x12 x13 x14 a17 a18 a19 x15 a20 x16 a21 x17 x18 a22 a23 a24 a25 x19 a26 x20 a27 a28 a29 y0 a30 a31 a32 a33 a34 a35 a36 a37 a38 x21 x22 x23 y1 a39 x24 a40 a41 a42 a43 x25 x26 x27 x28 a18 f0) H := g_psub hP [0, 1] rfl
          have hD9 : va_D A (zS_30 cB cC cI cJ a0 a1 x1 x2 x3 x4 x5 x6 x7 x8 a2 a3 a4 a5 a6 a7 a8 a9 a10 a11 a12 a13 a14 a15 a16 x9 x10 x11 x12 x13 x14 a17 a18 a19 x15 a20 x16 a21 x17 x18 a22 a23 a24 a25 x19 a26 x20 a27 a28 a29 y0 a30 a31 a32 a33 a34 a35 a36 a37 a38 x21 x22 x23 y1 a39 x24 a40 a41 a42 a43 x25 x26 x27 x28 a18 f0) := hD.sub [0, 1] (by decide) rfl
          exact hret x_3 ((fun _ => 0), (fun _ => (fun _ => 0)), (fun _ => (fun _ => 0)), (fun _ => 0), (fun _ => 0)) dX12_peak_59 (show ((((-2147483648) ≤ x_3.toInt ∧ x_3.toInt ≤ 2147483647) ∧ (0 ≤ x11.toInt ∧ x11.toInt ≤ 6))) from (by first | exact (om_1850 hi_4.1 hi_4.2 h_x11.1 h_x11.2) | ((first | omega | (unfold zBd at *; omega))))) hP9 hD9 hS
      ·
        as_aux_lemma =>
          refine lv_aload_n (pc := 12) hx hb dX12_peak_12 rfl (lv_at hl 2 rfl) ?_
          refine va_get (pc := 13) (ci := 12) (v := .ref a18) (C := RX12) (T := TX12) (N := 73) hx hb hts iX12 hown hK hP 0 rfl rfl 31 (by decide) (hts _ tw_1432) (fun _ h9 => h9) rfl dX12_peak_13 ?_
          refine lv_iconst (pc := 16) (v := 5) hx hb dX12_peak_16 (by decide) ?_
          refine lv_iload_n (pc := 17) hx hb dX12_peak_17 rfl (lv_at hl 0 rfl) ?_
          refine b_imul (pc := 18) hx hb tI_5 rfl (by first | exact (om_941 hi_2.1) | ((first | omega | (unfold zBd at *; omega)))) (by first | exact (om_1651 c_6 h_x11.2) | ((first | omega | (unfold zBd at *; omega)))) dX12_peak_18 (fun x_7 ex_7 => ?_)
          refine lv_iload_n (pc := 19) hx hb dX12_peak_19 rfl (lv_at hl 3 rfl) ?_
          refine b_iadd (pc := 20) hx hb rfl rfl (by first | exact (om_1529 ex_7 hp1.1 hi_2.1) | ((first | omega | (unfold zBd at *; omega)))) (by first | exact (om_1652 ex_7 hp1.2 c_6 h_x11.2) | ((first | omega | (unfold zBd at *; omega)))) dX12_peak_20 (fun x_8 ex_8 => ?_)
          refine va_iald (pc := 21) hx hb hK hP 1 2 rfl rfl (n_in rfl (by first | exact (om_1531 ex_8 ex_7 hp1.1 hi_2.1) | ((first | omega | (unfold zBd at *; omega)))) (by first | exact (om_1653 ex_8 ex_7 hp1.2 c_6 h_x11.2) | ((first | omega | (unfold zBd at *; omega))))) dX12_peak_21 ?_
          refine lv_topi (fun x_9 ex_9 => ?_)
          have rx_9 : ((-9999) ≤ x_9.toInt ∧ x_9.toInt ≤ 9999) := by rw [ex_9]; exact hf_f0 _
          refine lv_istore (pc := 22) (lv' := [(4, .int x_9), (3, .int x_1), (2, .int x_3), (0, .ref a0), (1, .int x0)]) hx hb dX12_peak_22 hl (by decide) rfl (fun ls hl => ?_)
          as_aux_lemma =>
            refine lv_iload (pc := 24) hx hb dX12_peak_24 (lv_at hl 0 rfl) ?_
            refine b_if_ge (pc := 26) (tgt := 35) hx hb rfl  dX12_peak_26 (by decide) (fun c_10 => ?_) (fun c_10 => ?_)
            ·
              as_aux_lemma =>
                refine lv_iload (pc := 35) hx hb dX12_peak_35 (lv_at hl 0 rfl) ?_
                refine lv_istore (pc := 37) (lv' := [(4, .int x_9), (3, .int x_1), (2, .int x_3), (0, .ref a0), (1, .int x0)]) hx hb dX12_peak_37 hl (by decide) rfl (fun ls hl => ?_)
                refine lv_iload (pc := 39) hx hb dX12_peak_39 (lv_at hl 0 rfl) ?_
                refine lv_iload_n (pc := 41) hx hb dX12_peak_41 rfl (lv_at hl 2 rfl) ?_
                refine b_icmp_le (pc := 42) (tgt := 50) hx hb rfl rfl  dX12_peak_42 (by decide) (fun c_11 => ?_) (fun c_11 => ?_)
                ·
                  as_aux_lemma =>
                    refine lv_iload_n (pc := 50) hx hb dX12_peak_50 rfl (lv_at hl 2 rfl) ?_
                    refine lv_istore_n (pc := 51) (lv' := [(2, .int x_3), (4, .int x_9), (3, .int x_1), (0, .ref a0), (1, .int x0)]) hx hb dX12_peak_51 rfl hl (by decide) rfl (fun ls hl => ?_)
                    refine b_iinc (pc := 52) hx hb dX12_peak_52 hl (k := 2) rfl rfl tI_1 (by first | exact (om_2 hi_2.1) | ((first | omega | (unfold zBd at *; omega)))) (by first | exact (om_1084 c_6 h_x11.2) | ((first | omega | (unfold zBd at *; omega)))) (by decide) (fun x_12 ex_12 ls hl => ?_)
                    replace hl : lv_has ls 5 [(3, .int x_12), (2, .int x_3), (4, .int x_9), (0, .ref a0), (1, .int x0)] := hl
                    refine lv_goto (pc := 55) (tgt := 4) hx hb dX12_peak_55 (by decide) ?_
                    exact ih_lp_5 x_12 x_3 _ _ ls (by first | exact (om_1085 ex_12 hi_2.1 c_6 h_x11.2) | ((first | omega | (unfold zBd at *; omega)))) (by (first | omega | (unfold zBd at *; omega))) hP hD hS (lv_sub hl [0, 1, 3, 4] rfl)
                ·
                  as_aux_lemma =>
                    refine lv_iload (pc := 45) hx hb dX12_peak_45 (lv_at hl 0 rfl) ?_
                    refine lv_goto (pc := 47) (tgt := 51) hx hb dX12_peak_47 (by decide) ?_
                    refine lv_istore_n (pc := 51) (lv' := [(2, .int x_9), (4, .int x_9), (3, .int x_1), (0, .ref a0), (1, .int x0)]) hx hb dX12_peak_51 rfl hl (by decide) rfl (fun ls hl => ?_)
                    refine b_iinc (pc := 52) hx hb dX12_peak_52 hl (k := 2) rfl rfl tI_1 (by first | exact (om_2 hi_2.1) | ((first | omega | (unfold zBd at *; omega)))) (by first | exact (om_1084 c_6 h_x11.2) | ((first | omega | (unfold zBd at *; omega)))) (by decide) (fun x_13 ex_13 ls hl => ?_)
                    replace hl : lv_has ls 5 [(3, .int x_13), (2, .int x_9), (4, .int x_9), (0, .ref a0), (1, .int x0)] := hl
                    refine lv_goto (pc := 55) (tgt := 4) hx hb dX12_peak_55 (by decide) ?_
                    exact ih_lp_5 x_13 x_9 _ _ ls (by first | exact (om_1085 ex_13 hi_2.1 c_6 h_x11.2) | ((first | omega | (unfold zBd at *; omega)))) (by (first | omega | (unfold zBd at *; omega))) hP hD hS (lv_sub hl [0, 1, 3, 4] rfl)
            ·
              as_aux_lemma =>
                refine lv_iload (pc := 29) hx hb dX12_peak_29 (lv_at hl 0 rfl) ?_
                refine b_ineg (pc := 31) hx hb rfl (by first | exact (om_1851 rx_9.1) | ((first | omega | (unfold zBd at *; omega)))) dX12_peak_31 (fun x_14 ex_14 => ?_)
                refine lv_goto (pc := 32) (tgt := 37) hx hb dX12_peak_32 (by decide) ?_
                refine lv_istore (pc := 37) (lv' := [(4, .int x_14), (3, .int x_1), (2, .int x_3), (0, .ref a0), (1, .int x0)]) hx hb dX12_peak_37 hl (by decide) rfl (fun ls hl => ?_)
                refine lv_iload (pc := 39) hx hb dX12_peak_39 (lv_at hl 0 rfl) ?_
                refine lv_iload_n (pc := 41) hx hb dX12_peak_41 rfl (lv_at hl 2 rfl) ?_
                refine b_icmp_le (pc := 42) (tgt := 50) hx hb rfl rfl  dX12_peak_42 (by decide) (fun c_15 => ?_) (fun c_15 => ?_)
                ·
                  as_aux_lemma =>
                    refine lv_iload_n (pc := 50) hx hb dX12_peak_50 rfl (lv_at hl 2 rfl) ?_
                    refine lv_istore_n (pc := 51) (lv' := [(2, .int x_3), (4, .int x_14), (3, .int x_1), (0, .ref a0), (1, .int x0)]) hx hb dX12_peak_51 rfl hl (by decide) rfl (fun ls hl => ?_)
                    refine b_iinc (pc := 52) hx hb dX12_peak_52 hl (k := 2) rfl rfl tI_1 (by first | exact (om_2 hi_2.1) | ((first | omega | (unfold zBd at *; omega)))) (by first | exact (om_1084 c_6 h_x11.2) | ((first | omega | (unfold zBd at *; omega)))) (by decide) (fun x_16 ex_16 ls hl => ?_)
                    replace hl : lv_has ls 5 [(3, .int x_16), (2, .int x_3), (4, .int x_14), (0, .ref a0), (1, .int x0)] := hl
                    refine lv_goto (pc := 55) (tgt := 4) hx hb dX12_peak_55 (by decide) ?_
                    exact ih_lp_5 x_16 x_3 _ _ ls (by first | exact (om_1085 ex_16 hi_2.1 c_6 h_x11.2) | ((first | omega | (unfold zBd at *; omega)))) (by (first | omega | (unfold zBd at *; omega))) hP hD hS (lv_sub hl [0, 1, 3, 4] rfl)
                ·
                  as_aux_lemma =>
                    refine lv_iload (pc := 45) hx hb dX12_peak_45 (lv_at hl 0 rfl) ?_
                    refine lv_goto (pc := 47) (tgt := 51) hx hb dX12_peak_47 (by decide) ?_
                    refine lv_istore_n (pc := 51) (lv' := [(2, .int x_14), (4, .int x_14), (3, .int x_1), (0, .ref a0), (1, .int x0)]) hx hb dX12_peak_51 rfl hl (by decide) rfl (fun ls hl => ?_)
                    refine b_iinc (pc := 52) hx hb dX12_peak_52 hl (k := 2) rfl rfl tI_1 (by first | exact (om_2 hi_2.1) | ((first | omega | (unfold zBd at *; omega)))) (by first | exact (om_1084 c_6 h_x11.2) | ((first | omega | (unfold zBd at *; omega)))) (by decide) (fun x_17 ex_17 ls hl => ?_)
                    replace hl : lv_has ls 5 [(3, .int x_17), (2, .int x_14), (4, .int x_14), (0, .ref a0), (1, .int x0)] := hl
                    refine lv_goto (pc := 55) (tgt := 4) hx hb dX12_peak_55 (by decide) ?_
                    exact ih_lp_5 x_17 x_14 _ _ ls (by first | exact (om_1085 ex_17 hi_2.1 c_6 h_x11.2) | ((first | omega | (unfold zBd at *; omega)))) (by (first | omega | (unfold zBd at *; omega))) hP hD hS (lv_sub hl [0, 1, 3, 4] rfl)
  exact lp_5 _ 0 0 _ _ ls (n_c tI_0 (by decide)) (Nat.lt_succ_self _) hP hD hS (lv_sub hl [0, 1, 2, 3] rfl)
set_option maxHeartbeats 4000000 in
set_option maxRecDepth 100000 in
theorem k_X12_productOf_60rm9999_9999 (l : Launch) (D : va_G) (cB cC cI cJ : ClassId) (sz : Nat) (a0 a1 a2 a3 a4 a5 a6 a7 a8 a9 a10 a11 a12 a13 a14 a15 a16 a17 a18 a19 a20 a21 a22 a23 a24 a25 a26 a27 a28 a29 a30 a31 a32 a33 a34 a35 a36 a37 a38 a39 a40 a41 a42 a43 a44 : Nat) (x0 x1 x2 x3 x4 x5 x6 x7 x8 x9 x10 x11 x12 x13 x14 x15 x16 x17 x18 x19 x20 x21 x22 x23 x24 x25 x26 x27 x28 x29 : Int32) (y0 y1 : Int64) (f0 : Nat → Int32) (hp1 : (0 ≤ x0.toInt ∧ x0.toInt ≤ 4)) (hp2 : (0 ≤ x1.toInt ∧ x1.toInt ≤ 4)) (h_x2 : zBd x2.toInt 0 1600) (h_x3 : zBd x3.toInt 0 1600) (h_x4 : zBd x4.toInt 0 1600) (h_x5 : zBd x5.toInt (-1) 1600) (h_x6 : zBd x6.toInt 0 4) (h_x7 : zBd x7.toInt (-1) 1600) (h_x10 : zBd x10.toInt 0 8) (h_x11 : zBd x11.toInt 0 5) (h_x12 : zBd x12.toInt 0 6) (h_x13 : zBd x13.toInt 0 6) (h_x14 : zBd x14.toInt 0 16) (h_x16 : zBd x16.toInt 0 60) (h_x17 : zBd x17.toInt 0 1600) (h_x18 : zBd x18.toInt 0 1700) (h_x20 : zBd x20.toInt 0 1700) (h_x21 : zBd x21.toInt 0 1700) (h_x22 : zBd x22.toInt 0 200) (h_x23 : zBd x23.toInt 0 40) (h_x24 : zBd x24.toInt 0 40) (h_x25 : zBd x25.toInt 0 1) (h_x26 : zBd x26.toInt 0 14) (h_x27 : zBd x27.toInt 0 200) (h_x28 : zBd x28.toInt 0 40) (h_x29 : zBd x29.toInt 0 40) (hr_a0_0 : (x23.toInt ≤ x22.toInt)) (hr_a0_1 : (x22.toInt + x24.toInt ≤ 200)) (hr_a0_2 : (x11.toInt = 0 ∨ 2 ≤ x10.toInt)) (hf_f0 : (∀ j, (-9999) ≤ (f0 j).toInt ∧ (f0 j).toInt ≤ 9999)) : Met l yX12_productOf (.code yX12_productOf cX12_productOf 6 (some .int) :: lw_gd) ({ frames := 0, cells := 0, slots := 0, locals := 0 }) (gPre D [(cB, .byte), (cC, .char), (cI, .int), (cJ, .long)] [.ref a0, .int x0, .int x1, .ref a1] (zS_30 cB cC cI cJ a0 a2 x2 x3 x4 x5 x6 x7 x8 x9 a3 a4 a5 a6 a7 a8 a9 a10 a11 a12 a13 a14 a15 a16 a17 x10 x11 x12 x13 x14 x15 a18 a19 a20 x16 a21 x17 a22 x18 x19 a23 a24 a25 a26 x20 a27 x21 a28 a29 a30 y0 a31 a32 a33 a34 a35 a36 a37 a38 a39 x22 x23 x24 y1 a40 x25 a41 a42 a43 a44 x26 x27 x28 x29 a1 f0) sz) (va_Qi (fun r u => ((((-2147483648) ≤ r.toInt ∧ r.toInt ≤ 2147483647) ∧ (0 ≤ x12.toInt ∧ x12.toInt ≤ 6)))) (gB D (va_A (zS_30 cB cC cI cJ a0 a2 x2 x3 x4 x5 x6 x7 x8 x9 a3 a4 a5 a6 a7 a8 a9 a10 a11 a12 a13 a14 a15 a16 a17 x10 x11 x12 x13 x14 x15 a18 a19 a20 x16 a21 x17 a22 x18 x19 a23 a24 a25 a26 x20 a27 x21 a28 a29 a30 y0 a31 a32 a33 a34 a35 a36 a37 a38 a39 x22 x23 x24 y1 a40 x25 a41 a42 a43 a44 x26 x27 x28 x29 a1 f0) sz) (fun u : gEx => (zS_30 cB cC cI cJ a0 a2 x2 x3 x4 x5 x6 x7 x8 x9 a3 a4 a5 a6 a7 a8 a9 a10 a11 a12 a13 a14 a15 a16 a17 x10 x11 x12 x13 x14 x15 a18 a19 a20 x16 a21 x17 a22 x18 x19 a23 a24 a25 a26 x20 a27 x21 a28 a29 a30 y0 a31 a32 a33 a34 a35 a36 a37 a38 a39 x22 x23 x24 y1 a40 x25 a41 a42 a43 a44 x26 x27 x28 x29 a1 f0))) (va_A (zS_30 cB cC cI cJ a0 a2 x2 x3 x4 x5 x6 x7 x8 x9 a3 a4 a5 a6 a7 a8 a9 a10 a11 a12 a13 a14 a15 a16 a17 x10 x11 x12 x13 x14 x15 a18 a19 a20 x16 a21 x17 a22 x18 x19 a23 a24 a25 a26 x20 a27 x21 a28 a29 a30 y0 a31 a32 a33 a34 a35 a36 a37 a38 a39 x22 x23 x24 y1 a40 x25 a41 a42 a43 a44 x26 x27 x28 x29 a1 f0) sz)) 0 0 (va_A (zS_30 cB cC cI cJ a0 a2 x2 x3 x4 x5 x6 x7 x8 x9 a3 a4 a5 a6 a7 a8 a9 a10 a11 a12 a13 a14 a15 a16 a17 x10 x11 x12 x13 x14 x15 a18 a19 a20 x16 a21 x17 a22 x18 x19 a23 a24 a25 a26 x20 a27 x21 a28 a29 a30 y0 a31 a32 a33 a34 a35 a36 a37 a38 a39 x22 x23 x24 y1 a40 x25 a41 a42 a43 a44 x26 x27 x28 x29 a1 f0) sz) := by
  refine gOf_i (by decide +kernel) (Nat.le_of_ble_eq_true rfl) ?_
  intro p e s m args below meth c ls A Q hx hb hts hown hml hN hK hP hD hA hl hret
  replace hown : s.vm.findClass RX12 = some m.cls := hown
  have hS : va_S A s.heap s.heap [] := va_S.rf
  replace hP : va_P D gcl (zS_30 cB cC cI cJ a0 a2 x2 x3 x4 x5 x6 x7 x8 x9 a3 a4 a5 a6 a7 a8 a9 a10 a11 a12 a13 a14 a15 a16 a17 x10 x11 x12 x13 x14 x15 a18 a19 a20 x16 a21 x17 a22 x18 x19 a23 a24 a25 a26 x20 a27 x21 a28 a29 a30 y0 a31 a32 a33 a34 a35 a36 a37 a38 a39 x22 x23 x24 y1 a40 x25 a41 a42 a43 a44 x26 x27 x28 x29 a1 f0) s.heap := hP
  replace hl : lv_has ls 6 [(0, .ref a0), (1, .int x0), (2, .int x1), (3, .ref a1)] := hl
  have rx8 : zBd x8.toInt (-2147483648) 2147483647 := n_rng x8
  have rx9 : zBd x9.toInt (-2147483648) 2147483647 := n_rng x9
  have rx15 : zBd x15.toInt (-2147483648) 2147483647 := n_rng x15
  have rx19 : zBd x19.toInt (-2147483648) 2147483647 := n_rng x19
  have ry0 := n_rngL y0
  have ry1 := n_rngL y1
  refine lv_iconst (pc := 0) (v := 0) hx hb dX12_productOf_0 (by decide) ?_
  refine lv_istore (pc := 1) (lv' := [(4, .int 0), (0, .ref a0), (1, .int x0), (2, .int x1), (3, .ref a1)]) hx hb dX12_productOf_1 hl (by decide) rfl (fun ls hl => ?_)
  refine lv_iconst (pc := 3) (v := 0) hx hb dX12_productOf_3 (by decide) ?_
  refine lv_istore (pc := 4) (lv' := [(5, .int 0), (4, .int 0), (0, .ref a0), (1, .int x0), (2, .int x1), (3, .ref a1)]) hx hb dX12_productOf_4 hl (by decide) rfl (fun ls hl => ?_)
  have lp_5 : ∀ (n : Nat) (x_1 x_3 : Int32) (H : Heap) (locs : List Loc) (ls : Array Slot), (0 ≤ x_1.toInt ∧ x_1.toInt ≤ 2147483647) → (2147483647 - x_1.toInt).toNat < n → va_P D gcl (zS_30 cB cC cI cJ a0 a2 x2 x3 x4 x5 x6 x7 x8 x9 a3 a4 a5 a6 a7 a8 a9 a10 a11 a12 a13 a14 a15 a16 a17 x10 x11 x12 x13 x14 x15 a18 a19 a20 x16 a21 x17 a22 x18 x19 a23 a24 a25 a26 x20 a27 x21 a28 a29 a30 y0 a31 a32 a33 a34 a35 a36 a37 a38 a39 x22 x23 x24 y1 a40 x25 a41 a42 a43 a44 x26 x27 x28 x29 a1 f0) H → va_D A (zS_30 cB cC cI cJ a0 a2 x2 x3 x4 x5 x6 x7 x8 x9 a3 a4 a5 a6 a7 a8 a9 a10 a11 a12 a13 a14 a15 a16 a17 x10 x11 x12 x13 x14 x15 a18 a19 a20 x16 a21 x17 a22 x18 x19 a23 a24 a25 a26 x20 a27 x21 a28 a29 a30 y0 a31 a32 a33 a34 a35 a36 a37 a38 a39 x22 x23 x24 y1 a40 x25 a41 a42 a43 a44 x26 x27 x28 x29 a1 f0) → va_S A s.heap H locs → lv_has ls 6 [(5, .int x_1), (4, .int x_3), (0, .ref a0), (1, .int x0), (2, .int x1), (3, .ref a1)] → W p l e ({ frames := 0, cells := 0, slots := 0, locals := 0 }) s m args below meth c H locs 0 0 Q (F0 m 6 ls []) := by
    intro n
    induction n with
    | zero => intro x_1 x_3 H locs ls hi_2 hmu; exact absurd hmu (Nat.not_lt_zero _)
    | succ n ih_lp_5 =>
      intro x_1 x_3 H locs ls hi_2 hmu_lp_5 hP hD hS hl
      have hi_4 := n_rng x_3
      refine lv_iload (pc := 6) hx hb dX12_productOf_6 (lv_at hl 0 rfl) ?_
      refine lv_aload_n (pc := 8) hx hb dX12_productOf_8 rfl (lv_at hl 2 rfl) ?_
      refine va_get (pc := 9) (ci := 12) (v := .int x12) (C := RX12) (T := TX12) (N := 73) hx hb hts iX12 hown hK hP 0 rfl rfl 26 (by decide) (hts _ tw_1427) (fun _ h9 => h9) rfl dX12_productOf_9 ?_
      have bd_h_x12 : 0 ≤ x12.toInt ∧ x12.toInt ≤ 6 := h_x12
      refine b_icmp_ge (pc := 12) (tgt := 43) hx hb rfl rfl  dX12_productOf_12 (by decide) (fun c_6 => ?_) (fun c_6 => ?_)
      ·
        as_aux_lemma =>
          refine lv_iload (pc := 43) hx hb dX12_productOf_43 (lv_at hl 1 rfl) ?_
          have hP9 : va_P D gcl (zS_30 cB cC cI cJ a0 a2 x2 x3 x4 x5 x6 x7 x8 x9 a3 a4 a5 a6 a7 a8 a9 a10 a11 a12 a13 a14 a15 a16 a17 x10 x11 x12 x13 x14 x15 a18 a19 a20 x16 a21 x17 a22 x18 x19 a23 a24 a25 a26 x20 a27 x21 a28 a29 a30 y0 a31 a32 a33 a34 a35 a36 a37 a38 a39 x22 x23 x24 y1 a40 x25 a41 a42 a43 a44 x26 x27 x28 x29 a1 f0) H := g_psub hP [0, 1] rfl
          have hD9 : va_D A (zS_30 cB cC cI cJ a0 a2 x2 x3 x4 x5 x6 x7 x8 x9 a3 a4 a5 a6 a7 a8 a9 a10 a11 a12 a13 a14 a15 a16 a17 x10 x11 x12 x13 x14 x15 a18 a19 a20 x16 a21 x17 a22 x18 x19 a23 a24 a25 a26 x20 a27 x21 a28 a29 a30 y0 a31 a32 a33 a34 a35 a36 a37 a38 a39 x22 x23 x24 y1 a40 x25 a41 a42 a43 a44 x26 x27 x28 x29 a1 f0) := hD.sub [0, 1] (by decide) rfl
          exact hret x_3 ((fun _ => 0), (fun _ => (fun _ => 0)), (fun _ => (fun _ => 0)), (fun _ => 0), (fun _ => 0)) dX12_productOf_45 (show ((((-2147483648) ≤ x_3.toInt ∧ x_3.toInt ≤ 2147483647) ∧ (0 ≤ x12.toInt ∧ x12.toInt ≤ 6))) from (by first | exact (om_1850 hi_4.1 hi_4.2 h_x12.1 h_x12.2) | ((first | omega | (unfold zBd at *; omega))))) hP9 hD9 hS
      ·
        as_aux_lemma =>
          refine lv_iload (pc := 15) hx hb dX12_productOf_15 (lv_at hl 1 rfl) ?_
          refine lv_aload_n (pc := 17) hx hb dX12_productOf_17 rfl (lv_at hl 5 rfl) ?_
          refine lv_iconst (pc := 18) (v := 5) hx hb dX12_productOf_18 (by decide) ?_
          refine lv_iload (pc := 19) hx hb dX12_productOf_19 (lv_at hl 0 rfl) ?_
          refine b_imul (pc := 21) hx hb tI_5 rfl (by first | exact (om_941 hi_2.1) | ((first | omega | (unfold zBd at *; omega)))) (by first | exact (om_1651 c_6 h_x12.2) | ((first | omega | (unfold zBd at *; omega)))) dX12_productOf_21 (fun x_7 ex_7 => ?_)
          refine lv_iload_n (pc := 22) hx hb dX12_productOf_22 rfl (lv_at hl 3 rfl) ?_
          refine b_iadd (pc := 23) hx hb rfl rfl (by first | exact (om_1529 ex_7 hp1.1 hi_2.1) | ((first | omega | (unfold zBd at *; omega)))) (by first | exact (om_1652 ex_7 hp1.2 c_6 h_x12.2) | ((first | omega | (unfold zBd at *; omega)))) dX12_productOf_23 (fun x_8 ex_8 => ?_)
          refine va_iald (pc := 24) hx hb hK hP 1 2 rfl rfl (n_in rfl (by first | exact (om_1531 ex_8 ex_7 hp1.1 hi_2.1) | ((first | omega | (unfold zBd at *; omega)))) (by first | exact (om_1653 ex_8 ex_7 hp1.2 c_6 h_x12.2) | ((first | omega | (unfold zBd at *; omega))))) dX12_productOf_24 ?_
          refine lv_topi (fun x_9 ex_9 => ?_)
          have rx_9 : ((-9999) ≤ x_9.toInt ∧ x_9.toInt ≤ 9999) := by rw [ex_9]; exact hf_f0 _
          refine lv_aload_n (pc := 25) hx hb dX12_productOf_25 rfl (lv_at hl 5 rfl) ?_
          as_aux_lemma =>
            refine lv_iconst (pc := 26) (v := 5) hx hb dX12_productOf_26 (by decide) ?_
            refine lv_iload (pc := 27) hx hb dX12_productOf_27 (lv_at hl 0 rfl) ?_
            refine b_imul (pc := 29) hx hb tI_5 rfl (by first | exact (om_941 hi_2.1) | ((first | omega | (unfold zBd at *; omega)))) (by first | exact (om_1651 c_6 h_x12.2) | ((first | omega | (unfold zBd at *; omega)))) dX12_productOf_29 (fun x_10 ex_10 => ?_)
            refine lv_iload_n (pc := 30) hx hb dX12_productOf_30 rfl (lv_at hl 4 rfl) ?_
            refine b_iadd (pc := 31) hx hb rfl rfl (by first | exact (om_1529 ex_10 hp2.1 hi_2.1) | ((first | omega | (unfold zBd at *; omega)))) (by first | exact (om_1652 ex_10 hp2.2 c_6 h_x12.2) | ((first | omega | (unfold zBd at *; omega)))) dX12_productOf_31 (fun x_11 ex_11 => ?_)
            refine va_iald (pc := 32) hx hb hK hP 1 2 rfl rfl (n_in rfl (by first | exact (om_1531 ex_11 ex_10 hp2.1 hi_2.1) | ((first | omega | (unfold zBd at *; omega)))) (by first | exact (om_1653 ex_11 ex_10 hp2.2 c_6 h_x12.2) | ((first | omega | (unfold zBd at *; omega))))) dX12_productOf_32 ?_
            refine lv_topi (fun x_12 ex_12 => ?_)
            have rx_12 : ((-9999) ≤ x_12.toInt ∧ x_12.toInt ≤ 9999) := by rw [ex_12]; exact hf_f0 _
            have qx_13 := n_mulb (A := 9999) (B := 9999) (by decide) (by decide) (show -9999 ≤ x_9.toInt ∧ x_9.toInt ≤ 9999 from (by first | exact (om_1577 rx_9.1 rx_9.2) | ((first | omega | (unfold zBd at *; omega))))) (show -9999 ≤ x_12.toInt ∧ x_12.toInt ≤ 9999 from (by first | exact (om_1577 rx_12.1 rx_12.2) | ((first | omega | (unfold zBd at *; omega)))))
            refine b_imul (pc := 33) hx hb rfl rfl (by first | exact (om_1770 qx_13.1) | ((first | omega | (unfold zBd at *; omega)))) (by first | exact (om_1771 qx_13.2) | ((first | omega | (unfold zBd at *; omega)))) dX12_productOf_33 (fun x_13 ex_13 => ?_)
            have rx_13 : ((-99980001) ≤ x_13.toInt ∧ x_13.toInt ≤ 99980001) := (by first | exact (om_1772 ex_13 qx_13.1 qx_13.2) | ((first | omega | (unfold zBd at *; omega))))
            refine lv_iadd (pc := 34) hx hb dX12_productOf_34 ?_
            refine lv_topi (fun x_14 _ => ?_)
            have rx_14 : zBd x_14.toInt (-2147483648) 2147483647 := n_rng x_14
            as_aux_lemma =>
              refine lv_istore (pc := 35) (lv' := [(4, .int x_14), (5, .int x_1), (0, .ref a0), (1, .int x0), (2, .int x1), (3, .ref a1)]) hx hb dX12_productOf_35 hl (by decide) rfl (fun ls hl => ?_)
              refine b_iinc (pc := 37) hx hb dX12_productOf_37 hl (k := 1) rfl rfl tI_1 (by first | exact (om_2 hi_2.1) | ((first | omega | (unfold zBd at *; omega)))) (by first | exact (om_1084 c_6 h_x12.2) | ((first | omega | (unfold zBd at *; omega)))) (by decide) (fun x_15 ex_15 ls hl => ?_)
              replace hl : lv_has ls 6 [(5, .int x_15), (4, .int x_14), (0, .ref a0), (1, .int x0), (2, .int x1), (3, .ref a1)] := hl
              refine lv_goto (pc := 40) (tgt := 6) hx hb dX12_productOf_40 (by decide) ?_
              exact ih_lp_5 x_15 x_14 _ _ ls (by first | exact (om_1085 ex_15 hi_2.1 c_6 h_x12.2) | ((first | omega | (unfold zBd at *; omega)))) (by (first | omega | (unfold zBd at *; omega))) hP hD hS (lv_sub hl [0, 1, 2, 3, 4, 5] rfl)
  exact lp_5 _ 0 0 _ _ ls (n_c tI_0 (by decide)) (Nat.lt_succ_self _) hP hD hS (lv_sub hl [0, 1, 2, 3, 4, 5] rfl)
theorem om_1852 {a : Int} (h0 : (a ≤ 1600)) : (a < (3200 : Nat)) := by omega
theorem om_1853 {a b c d e : Int} (h0 : (a < 1000)) (h1 : (¬ a = 17)) (h2 : ((b = 0 ∧ c < d) ∨ (b = 0 ∧ c ≥ d ∧ c > e) ∨ (b = 1 ∧ c ≥ d ∧ c ≤ e))) (h3 : (c = a)) (h4 : (d = 7)) (h5 : (e = 9)) (h6 : (b = 0)) (h7 : (¬ a = 16)) : (¬ (a ≥ 1000 ∨ a = 17 ∨ 7 ≤ a ∧ a ≤ 9) ∧ ¬ a = 16) := by omega
theorem om_1854 {a b c d e : Int} (h0 : (b = d + 1)) (h1 : (a = e - 1)) (h2 : (e ≤ d - c)) : ((a ≤ b - c)) := by omega
theorem om_1855 {a b c : Int} (h0 : (a ≤ b - c)) (h1 : (b ≤ 1600)) (h2 : (0 ≤ c)) : (a ≤ 1699) := by omega
theorem om_1856 {a b c d e : Int} (h0 : (b = d + 1)) (h1 : (a = (e) + (1))) (h2 : (e ≤ d - c)) : ((a ≤ b - c)) := by omega
theorem om_1857 {a : Int} (h0 : (a = 8)) : (a ≥ 1000 ∨ a = 17 ∨ 7 ≤ a ∧ a ≤ 9) := by omega
theorem om_1858 {a : Int} (h0 : (a = 7)) : (a ≥ 1000 ∨ a = 17 ∨ 7 ≤ a ∧ a ≤ 9) := by omega
theorem om_1859 {a b c d : Int} (h0 : (b = d + 1)) (h1 : (a ≤ d - c)) : ((a ≤ b - c)) := by omega
theorem om_1860 {a : Int} (h0 : (a = 17)) : (a ≥ 1000 ∨ a = 17 ∨ 7 ≤ a ∧ a ≤ 9) := by omega
theorem om_1861 {a : Int} (h0 : (a ≥ 1000)) : (-2147483648 ≤ a - 1000) := by omega
theorem om_1862 {a : Int} (h0 : (a ≤ 2147483647)) : (a - 1000 ≤ 2147483647) := by omega
theorem om_1863 {a : Int} (h0 : (a ≥ 1000)) : (a ≥ 1000 ∨ a = 17 ∨ 7 ≤ a ∧ a ≤ 9) := by omega
set_option maxHeartbeats 4000000 in
set_option maxRecDepth 100000 in
theorem k_X12_told (l : Launch) (D : va_G) (cB cC cI cJ : ClassId) (sz : Nat) (a0 a1 a2 a3 a4 a5 a6 a7 a8 a9 a10 a11 a12 a13 a14 a15 a16 a17 a18 a19 a20 a21 a22 a23 a24 a25 a26 a27 a28 a29 a30 a31 a32 a33 a34 a35 a36 a37 a38 a39 a40 a41 a42 a43 : Nat) (x0 x1 x2 x3 x4 x5 x6 x7 x8 x9 x10 x11 x12 x13 x14 x15 x16 x17 x18 x19 x20 x21 x22 x23 x24 x25 x26 x27 x28 x29 x30 : Int32) (y0 y1 : Int64) (f0 f1 : Nat → Int32) (g0 : Nat → Int64) (hp1 : (0 ≤ x0.toInt ∧ x0.toInt ≤ 1600)) (hp2 : (0 ≤ x1.toInt ∧ x1.toInt ≤ 1600)) (hp3 : (0 ≤ x2.toInt ∧ x2.toInt ≤ 4)) (h_x3 : zBd x3.toInt 0 1600) (h_x4 : zBd x4.toInt 0 1600) (h_x5 : zBd x5.toInt 0 1600) (h_x6 : zBd x6.toInt (-1) 1600) (h_x7 : zBd x7.toInt 0 4) (h_x8 : zBd x8.toInt (-1) 1600) (h_x11 : zBd x11.toInt 0 8) (h_x12 : zBd x12.toInt 0 5) (h_x13 : zBd x13.toInt 0 6) (h_x14 : zBd x14.toInt 0 6) (h_x15 : zBd x15.toInt 0 16) (h_x17 : zBd x17.toInt 0 60) (h_x18 : zBd x18.toInt 0 1600) (h_x19 : zBd x19.toInt 0 1700) (h_x21 : zBd x21.toInt 0 1700) (h_x22 : zBd x22.toInt 0 1700) (h_x23 : zBd x23.toInt 0 200) (h_x24 : zBd x24.toInt 0 40) (h_x25 : zBd x25.toInt 0 40) (h_x26 : zBd x26.toInt 0 1) (h_x27 : zBd x27.toInt 0 14) (h_x28 : zBd x28.toInt 0 200) (h_x29 : zBd x29.toInt 0 40) (h_x30 : zBd x30.toInt 0 40) (hr_a0_0 : (x24.toInt ≤ x23.toInt)) (hr_a0_1 : (x23.toInt + x25.toInt ≤ 200)) (hr_a0_2 : (x12.toInt = 0 ∨ 2 ≤ x11.toInt)) (hg_sg : pD f0 (x0.toInt).toNat (x1.toInt - x0.toInt).toNat ≠ none) (hf_f1 : (∀ j, (-9999) ≤ (f1 j).toInt ∧ (f1 j).toInt ≤ 9999)) : Met l yX12_told (.code yX12_told cX12_told 6 (some .long) :: lw_gd) ({ frames := 2, cells := 0, slots := 0, locals := 50 }) (gPre D [(cB, .byte), (cC, .char), (cI, .int), (cJ, .long)] [.ref a0, .int x0, .int x1, .int x2] (zS_59 cB cC cI cJ a0 a1 x3 x4 x5 x6 x7 x8 x9 x10 a2 a3 a4 a5 a6 a7 a8 a9 a10 a11 a12 a13 a14 a15 a16 x11 x12 x13 x14 x15 x16 a17 a18 a19 x17 a20 x18 a21 x19 x20 a22 a23 a24 a25 x21 a26 x22 a27 a28 a29 y0 a30 a31 a32 a33 a34 a35 a36 a37 a38 x23 x24 x25 y1 a39 x26 a40 a41 a42 a43 x27 x28 x29 x30 a20 f0 a26 g0 a18 f1) sz) (va_Ql (fun r u => (0 ≤ (u.2.2.2.1 0).toInt ∧ (u.2.2.2.1 0).toInt ≤ 1700)) (gB D (va_A (zS_59 cB cC cI cJ a0 a1 x3 x4 x5 x6 x7 x8 x9 x10 a2 a3 a4 a5 a6 a7 a8 a9 a10 a11 a12 a13 a14 a15 a16 x11 x12 x13 x14 x15 x16 a17 a18 a19 x17 a20 x18 a21 x19 x20 a22 a23 a24 a25 x21 a26 x22 a27 a28 a29 y0 a30 a31 a32 a33 a34 a35 a36 a37 a38 x23 x24 x25 y1 a39 x26 a40 a41 a42 a43 x27 x28 x29 x30 a20 f0 a26 g0 a18 f1) sz) (fun u : gEx => (zS_59 cB cC cI cJ a0 a1 x3 x4 x5 x6 x7 x8 x9 x10 a2 a3 a4 a5 a6 a7 a8 a9 a10 a11 a12 a13 a14 a15 a16 x11 x12 x13 x14 x15 x16 a17 a18 a19 x17 a20 x18 a21 x19 x20 a22 a23 a24 a25 x21 a26 (u.2.2.2.1 0) a27 a28 a29 y0 a30 a31 a32 a33 a34 a35 a36 a37 a38 x23 x24 x25 y1 a39 x26 a40 a41 a42 a43 x27 x28 x29 x30 a20 f0 a26 (u.2.2.1 0) a18 f1))) (va_A (zS_59 cB cC cI cJ a0 a1 x3 x4 x5 x6 x7 x8 x9 x10 a2 a3 a4 a5 a6 a7 a8 a9 a10 a11 a12 a13 a14 a15 a16 x11 x12 x13 x14 x15 x16 a17 a18 a19 x17 a20 x18 a21 x19 x20 a22 a23 a24 a25 x21 a26 x22 a27 a28 a29 y0 a30 a31 a32 a33 a34 a35 a36 a37 a38 x23 x24 x25 y1 a39 x26 a40 a41 a42 a43 x27 x28 x29 x30 a20 f0 a26 g0 a18 f1) sz)) 0 0 (va_A (zS_59 cB cC cI cJ a0 a1 x3 x4 x5 x6 x7 x8 x9 x10 a2 a3 a4 a5 a6 a7 a8 a9 a10 a11 a12 a13 a14 a15 a16 x11 x12 x13 x14 x15 x16 a17 a18 a19 x17 a20 x18 a21 x19 x20 a22 a23 a24 a25 x21 a26 x22 a27 a28 a29 y0 a30 a31 a32 a33 a34 a35 a36 a37 a38 x23 x24 x25 y1 a39 x26 a40 a41 a42 a43 x27 x28 x29 x30 a20 f0 a26 g0 a18 f1) sz) := by
  refine gOf_l (by decide +kernel) (Nat.le_of_ble_eq_true rfl) ?_
  intro p e s m args below meth c ls A Q hx hb hts hown hml hN hK hP hD hA hl hret
  replace hown : s.vm.findClass RX12 = some m.cls := hown
  have hS : va_S A s.heap s.heap [] := va_S.rf
  replace hP : va_P D gcl (zS_59 cB cC cI cJ a0 a1 x3 x4 x5 x6 x7 x8 x9 x10 a2 a3 a4 a5 a6 a7 a8 a9 a10 a11 a12 a13 a14 a15 a16 x11 x12 x13 x14 x15 x16 a17 a18 a19 x17 a20 x18 a21 x19 x20 a22 a23 a24 a25 x21 a26 x22 a27 a28 a29 y0 a30 a31 a32 a33 a34 a35 a36 a37 a38 x23 x24 x25 y1 a39 x26 a40 a41 a42 a43 x27 x28 x29 x30 a20 f0 a26 g0 a18 f1) s.heap := hP
  replace hl : lv_has ls 6 [(0, .ref a0), (1, .int x0), (2, .int x1), (3, .int x2)] := hl
  have rx9 : zBd x9.toInt (-2147483648) 2147483647 := n_rng x9
  have rx10 : zBd x10.toInt (-2147483648) 2147483647 := n_rng x10
  have rx16 : zBd x16.toInt (-2147483648) 2147483647 := n_rng x16
  have rx20 : zBd x20.toInt (-2147483648) 2147483647 := n_rng x20
  have ry0 := n_rngL y0
  have ry1 := n_rngL y1
  refine lv_aload_n (pc := 0) hx hb dX12_told_0 rfl (lv_at hl 0 rfl) ?_
  refine lv_iconst (pc := 1) (v := 0) hx hb dX12_told_1 (by decide) ?_
  refine va_put (pc := 2) (ci := 12) (v := .int 0) (ty := .int) (C := RX12) (T := TX12) (N := 73) hx hb hts iX12 tyX12 tyX12_ok nmX12 hown hK hP hD hS 0 rfl rfl 45 (by decide) (hts _ tw_1446) (fun _ h9 => h9) rfl (by decide +kernel) (by decide +kernel) (by decide +kernel) (Nat.le_of_ble_eq_true rfl) dX12_told_2 (fun H locs hP hD hS => ?_)
  replace hP : va_P D gcl (zS_59 cB cC cI cJ a0 a1 x3 x4 x5 x6 x7 x8 x9 x10 a2 a3 a4 a5 a6 a7 a8 a9 a10 a11 a12 a13 a14 a15 a16 x11 x12 x13 x14 x15 x16 a17 a18 a19 x17 a20 x18 a21 x19 x20 a22 a23 a24 a25 x21 a26 0 a27 a28 a29 y0 a30 a31 a32 a33 a34 a35 a36 a37 a38 x23 x24 x25 y1 a39 x26 a40 a41 a42 a43 x27 x28 x29 x30 a20 f0 a26 g0 a18 f1) H := hP
  replace hD : va_D A (zS_59 cB cC cI cJ a0 a1 x3 x4 x5 x6 x7 x8 x9 x10 a2 a3 a4 a5 a6 a7 a8 a9 a10 a11 a12 a13 a14 a15 a16 x11 x12 x13 x14 x15 x16 a17 a18 a19 x17 a20 x18 a21 x19 x20 a22 a23 a24 a25 x21 a26 0 a27 a28 a29 y0 a30 a31 a32 a33 a34 a35 a36 a37 a38 x23 x24 x25 y1 a39 x26 a40 a41 a42 a43 x27 x28 x29 x30 a20 f0 a26 g0 a18 f1) := hD
  refine lv_iload_n (pc := 5) hx hb dX12_told_5 rfl (lv_at hl 1 rfl) ?_
  refine lv_istore (pc := 6) (lv' := [(4, .int x0), (0, .ref a0), (1, .int x0), (2, .int x1), (3, .int x2)]) hx hb dX12_told_6 hl (by decide) rfl (fun ls hl => ?_)
  have lp_9 : ∀ (n : Nat) (x_1 x_3 : Int32) (g_5 : Nat → Int64) (H : Heap) (locs : List Loc) (ls : Array Slot), (0 ≤ x_1.toInt ∧ x_1.toInt ≤ 1600) → (0 ≤ x_3.toInt ∧ x_3.toInt ≤ 1700) → (x0.toInt ≤ x_1.toInt) → (x_3.toInt ≤ x_1.toInt - x0.toInt) → (tdQ f0 x0.toInt x_1.toInt x1.toInt x_3.toInt) → (2147483647 - x_1.toInt).toNat < n → va_P D gcl (zS_59 cB cC cI cJ a0 a1 x3 x4 x5 x6 x7 x8 x9 x10 a2 a3 a4 a5 a6 a7 a8 a9 a10 a11 a12 a13 a14 a15 a16 x11 x12 x13 x14 x15 x16 a17 a18 a19 x17 a20 x18 a21 x19 x20 a22 a23 a24 a25 x21 a26 x_3 a27 a28 a29 y0 a30 a31 a32 a33 a34 a35 a36 a37 a38 x23 x24 x25 y1 a39 x26 a40 a41 a42 a43 x27 x28 x29 x30 a20 f0 a26 g_5 a18 f1) H → va_D A (zS_59 cB cC cI cJ a0 a1 x3 x4 x5 x6 x7 x8 x9 x10 a2 a3 a4 a5 a6 a7 a8 a9 a10 a11 a12 a13 a14 a15 a16 x11 x12 x13 x14 x15 x16 a17 a18 a19 x17 a20 x18 a21 x19 x20 a22 a23 a24 a25 x21 a26 x_3 a27 a28 a29 y0 a30 a31 a32 a33 a34 a35 a36 a37 a38 x23 x24 x25 y1 a39 x26 a40 a41 a42 a43 x27 x28 x29 x30 a20 f0 a26 g_5 a18 f1) → va_S A s.heap H locs → lv_has ls 6 [(4, .int x_1), (0, .ref a0), (1, .int x0), (2, .int x1), (3, .int x2)] → W p l e ({ frames := 2, cells := 0, slots := 0, locals := 50 }) s m args below meth c H locs 0 0 Q (F0 m 8 ls []) := by
    intro n
    induction n with
    | zero => intro x_1 x_3 g_5 H locs ls hi_2 hi_4 hi_6 hi_7 hi_8 hmu; exact absurd hmu (Nat.not_lt_zero _)
    | succ n ih_lp_9 =>
      intro x_1 x_3 g_5 H locs ls hi_2 hi_4 hi_6 hi_7 hi_8 hmu_lp_9 hP hD hS hl
      refine lv_iload (pc := 8) hx hb dX12_told_8 (lv_at hl 0 rfl) ?_
      refine lv_iload_n (pc := 10) hx hb dX12_told_10 rfl (lv_at hl 3 rfl) ?_
      refine b_icmp_ge (pc := 11) (tgt := 167) hx hb rfl rfl  dX12_told_11 (by decide) (fun c_10 => ?_) (fun c_10 => ?_)
      ·
        as_aux_lemma =>
          refine lv_aload_n (pc := 167) hx hb dX12_told_167 rfl (lv_at hl 1 rfl) ?_
          refine va_get (pc := 168) (ci := 12) (v := .ref a26) (C := RX12) (T := TX12) (N := 73) hx hb hts iX12 hown hK hP 0 rfl rfl 44 (by decide) (hts _ tw_1445) (fun _ h9 => h9) rfl dX12_told_168 ?_
          refine lv_iconst (pc := 171) (v := 0) hx hb dX12_told_171 (by decide) ?_
          refine va_lald (pc := 172) hx hb hK hP 2 3 rfl rfl (gin rfl) dX12_told_172 ?_
          refine lv_topl (fun y_11 ey_11 => ?_)
          have ry_11 := n_rngL y_11
          have hP9 : va_P D gcl (zS_59 cB cC cI cJ a0 a1 x3 x4 x5 x6 x7 x8 x9 x10 a2 a3 a4 a5 a6 a7 a8 a9 a10 a11 a12 a13 a14 a15 a16 x11 x12 x13 x14 x15 x16 a17 a18 a19 x17 a20 x18 a21 x19 x20 a22 a23 a24 a25 x21 a26 x_3 a27 a28 a29 y0 a30 a31 a32 a33 a34 a35 a36 a37 a38 x23 x24 x25 y1 a39 x26 a40 a41 a42 a43 x27 x28 x29 x30 a20 f0 a26 g_5 a18 f1) H := g_psub hP [0, 1, 2, 3] rfl
          have hD9 : va_D A (zS_59 cB cC cI cJ a0 a1 x3 x4 x5 x6 x7 x8 x9 x10 a2 a3 a4 a5 a6 a7 a8 a9 a10 a11 a12 a13 a14 a15 a16 x11 x12 x13 x14 x15 x16 a17 a18 a19 x17 a20 x18 a21 x19 x20 a22 a23 a24 a25 x21 a26 x_3 a27 a28 a29 y0 a30 a31 a32 a33 a34 a35 a36 a37 a38 x23 x24 x25 y1 a39 x26 a40 a41 a42 a43 x27 x28 x29 x30 a20 f0 a26 g_5 a18 f1) := hD.sub [0, 1, 2, 3] (by decide) rfl
          exact hret y_11 ((fun _ => 0), (fun _ => (fun _ => 0)), (fun k => [g_5].getD k (fun _ => 0)), (fun k => [x_3].getD k 0), (fun _ => 0)) dX12_told_173 (show (0 ≤ (x_3 : Int32).toInt ∧ (x_3 : Int32).toInt ≤ 1700) from hi_4) hP9 hD9 hS
      ·
        as_aux_lemma =>
          refine lv_aload_n (pc := 14) hx hb dX12_told_14 rfl (lv_at hl 1 rfl) ?_
          refine va_get (pc := 15) (ci := 12) (v := .ref a20) (C := RX12) (T := TX12) (N := 73) hx hb hts iX12 hown hK hP 0 rfl rfl 34 (by decide) (hts _ tw_1435) (fun _ h9 => h9) rfl dX12_told_15 ?_
          refine lv_iload (pc := 18) hx hb dX12_told_18 (lv_at hl 0 rfl) ?_
          refine va_iald (pc := 20) hx hb hK hP 1 2 rfl rfl (n_in rfl (by first | exact (om_0 hi_2.1) | ((first | omega | (unfold zBd at *; omega)))) (by first | exact (om_1852 hi_2.2) | ((first | omega | (unfold zBd at *; omega))))) dX12_told_20 ?_
          refine lv_topi (fun x_12 ex_12 => ?_)
          have rx_12 : zBd x_12.toInt (-2147483648) 2147483647 := n_rng x_12
          replace ex_12 : x_12 = f0 (x_1.toInt).toNat := ex_12
          have tx_12 := congrArg Int32.toInt ex_12
          refine lv_istore (pc := 21) (lv' := [(5, .int x_12), (4, .int x_1), (0, .ref a0), (1, .int x0), (2, .int x1), (3, .int x2)]) hx hb dX12_told_21 hl (by decide) rfl (fun ls hl => ?_)
          refine lv_iload (pc := 23) hx hb dX12_told_23 (lv_at hl 0 rfl) ?_
          refine lv_sipush (pc := 25) (v := 1000) hx hb dX12_told_25 (by decide) ?_
          refine b_icmp_lt (pc := 28) (tgt := 45) hx hb rfl tI_1000  dX12_told_28 (by decide) (fun c_13 => ?_) (fun c_13 => ?_)
          ·
            as_aux_lemma =>
              refine lv_iload (pc := 45) hx hb dX12_told_45 (lv_at hl 0 rfl) ?_
              refine lv_bipush (pc := 47) (v := 17) hx hb dX12_told_47 (by decide) ?_
              refine b_icmp_ne (pc := 49) (tgt := 60) hx hb rfl tI_17  dX12_told_49 (by decide) (fun c_14 => ?_) (fun c_14 => ?_)
              ·
                as_aux_lemma =>
                  refine lv_iload (pc := 60) hx hb dX12_told_60 (lv_at hl 0 rfl) ?_
                  refine lv_bipush (pc := 62) (v := 16) hx hb dX12_told_62 (by decide) ?_
                  refine b_icmp_ne (pc := 64) (tgt := 94) hx hb rfl tI_16  dX12_told_64 (by decide) (fun c_15 => ?_) (fun c_15 => ?_)
                  ·
                    as_aux_lemma =>
                      refine lv_iload (pc := 94) hx hb dX12_told_94 (lv_at hl 0 rfl) ?_
                      refine b_i2l (pc := 96) hx hb rfl dX12_told_96 (fun y_16 ey_16 => ?_)
                      have ry_16 : zBd x_12.toInt (-2147483648) 2147483647 := n_rng x_12
                      refine lv_ldc2 (pc := 97) hx hb hown (hts _ tw_2057) dX12_told_97 ?_
                      refine lv_ldc2 (pc := 100) hx hb hown (hts _ tw_1860) dX12_told_100 ?_
                      refine gd_i (pc := 103) (wc := []) hP hD hS hA [] rfl (by decide +kernel) (fun _ => by rfl) (fun hPc hDc => va_runS (As := [.long y_16, .long 7, .long 9]) (rest := []) ⟨hx, hb, hml, hown, hts⟩ (k_X12_isIn l D cB cC cI cJ _ y_16 7 9) ⟨gcwB hts tw_1666 tw_14 tw_1664 hd_yX12_isIn ⟨Nat.le_of_ble_eq_true rfl, Nat.le_of_ble_eq_true rfl⟩, hts _ tw_1665⟩ (gpreS hPc hK hDc hN) rfl rfl hl.1 rfl (lv_room (Nat.le_of_ble_eq_true rfl)) dX12_told_103 ⟨Nat.le_of_ble_eq_true rfl, Nat.le_of_ble_eq_true rfl⟩) (fun r_18 u_17 H locs hw_19 hP hD hS => ?_)
                      replace hP : va_P D gcl (zS_59 cB cC cI cJ a0 a1 x3 x4 x5 x6 x7 x8 x9 x10 a2 a3 a4 a5 a6 a7 a8 a9 a10 a11 a12 a13 a14 a15 a16 x11 x12 x13 x14 x15 x16 a17 a18 a19 x17 a20 x18 a21 x19 x20 a22 a23 a24 a25 x21 a26 x_3 a27 a28 a29 y0 a30 a31 a32 a33 a34 a35 a36 a37 a38 x23 x24 x25 y1 a39 x26 a40 a41 a42 a43 x27 x28 x29 x30 a20 f0 a26 g_5 a18 f1) H := hP
                      replace hD : va_D A (zS_59 cB cC cI cJ a0 a1 x3 x4 x5 x6 x7 x8 x9 x10 a2 a3 a4 a5 a6 a7 a8 a9 a10 a11 a12 a13 a14 a15 a16 x11 x12 x13 x14 x15 x16 a17 a18 a19 x17 a20 x18 a21 x19 x20 a22 a23 a24 a25 x21 a26 x_3 a27 a28 a29 y0 a30 a31 a32 a33 a34 a35 a36 a37 a38 x23 x24 x25 y1 a39 x26 a40 a41 a42 a43 x27 x28 x29 x30 a20 f0 a26 g_5 a18 f1) := hD
                      have hw_20 : ((r_18.toInt = 0 ∧ y_16.toInt < (7 : Int64).toInt) ∨ (r_18.toInt = 0 ∧ y_16.toInt ≥ (7 : Int64).toInt ∧ y_16.toInt > (9 : Int64).toInt) ∨ (r_18.toInt = 1 ∧ y_16.toInt ≥ (7 : Int64).toInt ∧ y_16.toInt ≤ (9 : Int64).toInt)) := hw_19
                      have kk0_r_18 := tL_7
                      have kk1_r_18 := tL_9
                      have rr_18 : zBd r_18.toInt (-2147483648) 2147483647 := n_rng r_18
                      refine b_if_eq (pc := 106) (tgt := 155) hx hb rfl  dX12_told_106 (by decide) (fun c_21 => ?_) (fun c_21 => ?_)
                      ·
                        as_aux_lemma =>
                          have hh_22 := td_join hi_8 (by first | exact (om_0 hp1.1) | ((first | omega | (unfold zBd at *; omega)))) (by first | exact (om_635 hi_6) | ((first | omega | (unfold zBd at *; omega)))) (by first | exact (om_1029 c_10) | ((first | omega | (unfold zBd at *; omega)))) (e_ld ex_12 rfl) (by first | exact (om_1853 c_13 c_14 hw_20 ey_16 tL_7 tL_9 c_21 c_15) | ((first | omega | (unfold zBd at *; omega)))) rfl
                          refine lv_aload_n (pc := 155) hx hb dX12_told_155 rfl (lv_at hl 2 rfl) ?_
                          refine lv_iload (pc := 156) hx hb dX12_told_156 (lv_at hl 0 rfl) ?_
                          refine gd_v (pc := 158) (wc := (zS_7 cB cC cI cJ a0 a1 x3 x4 x5 x6 x7 x8 x9 x10 a2 a3 a4 a5 a6 a7 a8 a9 a10 a11 a12 a13 a14 a15 a16 x11 x12 x13 x14 x15 x16 a17 a18 a19 x17 a20 x18 a21 x19 x20 a22 a23 a24 a25 x21 a26 x_3 a27 a28 a29 y0 a30 a31 a32 a33 a34 a35 a36 a37 a38 x23 x24 x25 y1 a39 x26 a40 a41 a42 a43 x27 x28 x29 x30 a26 g_5)) hP hD hS hA [0, 2] rfl (by decide +kernel) (fun _ => by rfl) (fun hPc hDc => va_runV (As := [.int x_12]) (rest := []) ⟨hx, hb, hml, hown, hts⟩ (k_X12_joins l D cB cC cI cJ _ a0 a1 a2 a3 a4 a5 a6 a7 a8 a9 a10 a11 a12 a13 a14 a15 a16 a17 a18 a19 a20 a21 a22 a23 a24 a25 a26 a27 a28 a29 a30 a31 a32 a33 a34 a35 a36 a37 a38 a39 a40 a41 a42 a43 x_12 x3 x4 x5 x6 x7 x8 x9 x10 x11 x12 x13 x14 x15 x16 x17 x18 x19 x20 x21 x_3 x23 x24 x25 x26 x27 x28 x29 x30 y0 y1 g_5 h_x3 h_x4 h_x5 h_x6 h_x7 h_x8 h_x11 h_x12 h_x13 h_x14 h_x15 h_x17 h_x18 h_x19 h_x21 hi_4 h_x23 h_x24 h_x25 h_x26 h_x27 h_x28 h_x29 h_x30 hr_a0_0 hr_a0_1 hr_a0_2 (by (first | omega | (unfold zBd at *; omega)))) ⟨gcwB hts tw_2065 tw_14 tw_2062 hd_yX12_joins ⟨Nat.le_of_ble_eq_true rfl, Nat.le_of_ble_eq_true rfl⟩, hts _ tw_2064, hts _ tp_121⟩ ⟨gblind, va_recv hK hPc (ci := 12) (q0 := 0) rfl rfl, (gpreS hPc hK hDc hN).2⟩ rfl rfl hl.1 rfl (lv_room (Nat.le_of_ble_eq_true rfl)) dX12_told_158 ⟨Nat.le_of_ble_eq_true rfl, Nat.le_of_ble_eq_true rfl⟩) (fun u_23 H locs hw_25 hP hD hS => ?_)
                          replace hP : va_P D gcl (zS_59 cB cC cI cJ a0 a1 x3 x4 x5 x6 x7 x8 x9 x10 a2 a3 a4 a5 a6 a7 a8 a9 a10 a11 a12 a13 a14 a15 a16 x11 x12 x13 x14 x15 x16 a17 a18 a19 x17 a20 x18 a21 x19 x20 a22 a23 a24 a25 x21 a26 (u_23.2.2.2.1 0) a27 a28 a29 y0 a30 a31 a32 a33 a34 a35 a36 a37 a38 x23 x24 x25 y1 a39 x26 a40 a41 a42 a43 x27 x28 x29 x30 a20 f0 a26 (u_23.2.2.1 0) a18 f1) H := hP
                          replace hD : va_D A (zS_59 cB cC cI cJ a0 a1 x3 x4 x5 x6 x7 x8 x9 x10 a2 a3 a4 a5 a6 a7 a8 a9 a10 a11 a12 a13 a14 a15 a16 x11 x12 x13 x14 x15 x16 a17 a18 a19 x17 a20 x18 a21 x19 x20 a22 a23 a24 a25 x21 a26 (u_23.2.2.2.1 0) a27 a28 a29 y0 a30 a31 a32 a33 a34 a35 a36 a37 a38 x23 x24 x25 y1 a39 x26 a40 a41 a42 a43 x27 x28 x29 x30 a20 f0 a26 (u_23.2.2.1 0) a18 f1) := hD
                          obtain ⟨hw_26, hw_27⟩ := hw_25
                          replace hw_26 : zBd (u_23.2.2.2.1 0).toInt 0 1700 := hw_26
                          replace hw_27 : ((u_23.2.2.2.1 0).toInt = x_3.toInt - 1) := hw_27
                          refine b_iinc (pc := 161) hx hb dX12_told_161 hl (k := 1) rfl rfl tI_1 (by first | exact (om_2 hi_2.1) | ((first | omega | (unfold zBd at *; omega)))) (by first | exact (om_24 hi_2.2) | ((first | omega | (unfold zBd at *; omega)))) (by decide) (fun x_28 ex_28 ls hl => ?_)
                          replace hl : lv_has ls 6 [(4, .int x_28), (5, .int x_12), (0, .ref a0), (1, .int x0), (2, .int x1), (3, .int x2)] := hl
                          refine lv_goto (pc := 164) (tgt := 8) hx hb dX12_told_164 (by decide) ?_
                          exact ih_lp_9 x_28 (u_23.2.2.2.1 0) (u_23.2.2.1 0) _ _ ls (by first | exact (om_109 ex_28 hi_2.1 c_10 hp2.2) | ((first | omega | (unfold zBd at *; omega)))) hw_26 (by first | exact (om_482 ex_28 hi_6) | ((first | omega | (unfold zBd at *; omega)))) (by first | exact (om_1854 ex_28 hw_27 hi_7) | ((first | omega | (unfold zBd at *; omega)))) (td_to hh_22.2 (by (first | omega | (unfold zBd at *; omega))) (by (first | omega | (unfold zBd at *; omega)))) (by (first | omega | (unfold zBd at *; omega))) hP hD hS (lv_sub hl [0, 2, 3, 4, 5] rfl)
                      ·
                        as_aux_lemma =>
                          refine lv_aload_n (pc := 109) hx hb dX12_told_109 rfl (lv_at hl 2 rfl) ?_
                          refine lv_iload (pc := 110) hx hb dX12_told_110 (lv_at hl 0 rfl) ?_
                          refine lv_bipush (pc := 112) (v := 7) hx hb dX12_told_112 (by decide) ?_
                          refine b_icmp_ne (pc := 114) (tgt := 122) hx hb rfl tI_7  dX12_told_114 (by decide) (fun c_29 => ?_) (fun c_29 => ?_)
                          ·
                            as_aux_lemma =>
                              refine lv_iload (pc := 122) hx hb dX12_told_122 (lv_at hl 0 rfl) ?_
                              refine lv_bipush (pc := 124) (v := 8) hx hb dX12_told_124 (by decide) ?_
                              refine b_icmp_ne (pc := 126) (tgt := 143) hx hb rfl tI_8  dX12_told_126 (by decide) (fun c_30 => ?_) (fun c_30 => ?_)
                              ·
                                as_aux_lemma =>
                                  refine lv_aload_n (pc := 143) hx hb dX12_told_143 rfl (lv_at hl 2 rfl) ?_
                                  refine lv_iload_n (pc := 144) hx hb dX12_told_144 rfl (lv_at hl 5 rfl) ?_
                                  refine gd_i (pc := 145) (wc := (zS_30 cB cC cI cJ a0 a1 x3 x4 x5 x6 x7 x8 x9 x10 a2 a3 a4 a5 a6 a7 a8 a9 a10 a11 a12 a13 a14 a15 a16 x11 x12 x13 x14 x15 x16 a17 a18 a19 x17 a20 x18 a21 x19 x20 a22 a23 a24 a25 x21 a26 x_3 a27 a28 a29 y0 a30 a31 a32 a33 a34 a35 a36 a37 a38 x23 x24 x25 y1 a39 x26 a40 a41 a42 a43 x27 x28 x29 x30 a18 f1)) hP hD hS hA [0, 3] rfl (by decide +kernel) (fun _ => by rfl) (fun hPc hDc => va_runV (As := [.int x2]) (rest := [.ref a0]) ⟨hx, hb, hml, hown, hts⟩ (k_X12_peak l D cB cC cI cJ _ a0 a1 a2 a3 a4 a5 a6 a7 a8 a9 a10 a11 a12 a13 a14 a15 a16 a17 a18 a19 a20 a21 a22 a23 a24 a25 a26 a27 a28 a29 a30 a31 a32 a33 a34 a35 a36 a37 a38 a39 a40 a41 a42 a43 x2 x3 x4 x5 x6 x7 x8 x9 x10 x11 x12 x13 x14 x15 x16 x17 x18 x19 x20 x21 x_3 x23 x24 x25 x26 x27 x28 x29 x30 y0 y1 f1 hp3 h_x3 h_x4 h_x5 h_x6 h_x7 h_x8 h_x11 h_x12 h_x13 h_x14 h_x15 h_x17 h_x18 h_x19 h_x21 hi_4 h_x23 h_x24 h_x25 h_x26 h_x27 h_x28 h_x29 h_x30 hr_a0_0 hr_a0_1 hr_a0_2 hf_f1) ⟨gcwB hts tw_2061 tw_14 tw_2058 hd_yX12_peak ⟨Nat.le_of_ble_eq_true rfl, Nat.le_of_ble_eq_true rfl⟩, hts _ tw_2060, hts _ tp_120⟩ ⟨gblind, va_recv hK hPc (ci := 12) (q0 := 0) rfl rfl, (gpreS hPc hK hDc hN).2⟩ rfl rfl hl.1 rfl (lv_room (Nat.le_of_ble_eq_true rfl)) dX12_told_145 ⟨Nat.le_of_ble_eq_true rfl, Nat.le_of_ble_eq_true rfl⟩) (fun r_32 u_31 H locs hw_33 hP hD hS => ?_)
                                  replace hP : va_P D gcl (zS_59 cB cC cI cJ a0 a1 x3 x4 x5 x6 x7 x8 x9 x10 a2 a3 a4 a5 a6 a7 a8 a9 a10 a11 a12 a13 a14 a15 a16 x11 x12 x13 x14 x15 x16 a17 a18 a19 x17 a20 x18 a21 x19 x20 a22 a23 a24 a25 x21 a26 x_3 a27 a28 a29 y0 a30 a31 a32 a33 a34 a35 a36 a37 a38 x23 x24 x25 y1 a39 x26 a40 a41 a42 a43 x27 x28 x29 x30 a20 f0 a26 g_5 a18 f1) H := hP
                                  replace hD : va_D A (zS_59 cB cC cI cJ a0 a1 x3 x4 x5 x6 x7 x8 x9 x10 a2 a3 a4 a5 a6 a7 a8 a9 a10 a11 a12 a13 a14 a15 a16 x11 x12 x13 x14 x15 x16 a17 a18 a19 x17 a20 x18 a21 x19 x20 a22 a23 a24 a25 x21 a26 x_3 a27 a28 a29 y0 a30 a31 a32 a33 a34 a35 a36 a37 a38 x23 x24 x25 y1 a39 x26 a40 a41 a42 a43 x27 x28 x29 x30 a20 f0 a26 g_5 a18 f1) := hD
                                  have hw_34 : ((((-2147483648) ≤ r_32.toInt ∧ r_32.toInt ≤ 2147483647) ∧ (0 ≤ x13.toInt ∧ x13.toInt ≤ 6))) := hw_33
                                  have rr_32 : zBd r_32.toInt (-2147483648) 2147483647 := n_rng r_32
                                  refine b_i2l (pc := 148) hx hb rfl dX12_told_148 (fun y_35 ey_35 => ?_)
                                  have ry_35 : zBd r_32.toInt (-2147483648) 2147483647 := n_rng r_32
                                  refine gd_v (pc := 149) (wc := (zS_7 cB cC cI cJ a0 a1 x3 x4 x5 x6 x7 x8 x9 x10 a2 a3 a4 a5 a6 a7 a8 a9 a10 a11 a12 a13 a14 a15 a16 x11 x12 x13 x14 x15 x16 a17 a18 a19 x17 a20 x18 a21 x19 x20 a22 a23 a24 a25 x21 a26 x_3 a27 a28 a29 y0 a30 a31 a32 a33 a34 a35 a36 a37 a38 x23 x24 x25 y1 a39 x26 a40 a41 a42 a43 x27 x28 x29 x30 a26 g_5)) hP hD hS hA [0, 2] rfl (by decide +kernel) (fun _ => by rfl) (fun hPc hDc => va_runV (As := [.long y_35]) (rest := []) ⟨hx, hb, hml, hown, hts⟩ (k_X12_puts l D cB cC cI cJ _ a0 a1 a2 a3 a4 a5 a6 a7 a8 a9 a10 a11 a12 a13 a14 a15 a16 a17 a18 a19 a20 a21 a22 a23 a24 a25 a26 a27 a28 a29 a30 a31 a32 a33 a34 a35 a36 a37 a38 a39 a40 a41 a42 a43 x3 x4 x5 x6 x7 x8 x9 x10 x11 x12 x13 x14 x15 x16 x17 x18 x19 x20 x21 x_3 x23 x24 x25 x26 x27 x28 x29 x30 y_35 y0 y1 g_5 h_x3 h_x4 h_x5 h_x6 h_x7 h_x8 h_x11 h_x12 h_x13 h_x14 h_x15 h_x17 h_x18 h_x19 h_x21 hi_4 h_x23 h_x24 h_x25 h_x26 h_x27 h_x28 h_x29 h_x30 hr_a0_0 hr_a0_1 hr_a0_2 (by first | exact (om_1855 hi_7 hi_2.2 hp1.1) | ((first | omega | (unfold zBd at *; omega))))) ⟨gcwB hts tw_2056 tw_14 tw_2053 hd_yX12_puts ⟨Nat.le_of_ble_eq_true rfl, Nat.le_of_ble_eq_true rfl⟩, hts _ tw_2055, hts _ tp_119⟩ ⟨gblind, va_recv hK hPc (ci := 12) (q0 := 0) rfl rfl, (gpreS hPc hK hDc hN).2⟩ rfl rfl hl.1 rfl (lv_room (Nat.le_of_ble_eq_true rfl)) dX12_told_149 ⟨Nat.le_of_ble_eq_true rfl, Nat.le_of_ble_eq_true rfl⟩) (fun u_36 H locs hw_38 hP hD hS => ?_)
                                  replace hP : va_P D gcl (zS_59 cB cC cI cJ a0 a1 x3 x4 x5 x6 x7 x8 x9 x10 a2 a3 a4 a5 a6 a7 a8 a9 a10 a11 a12 a13 a14 a15 a16 x11 x12 x13 x14 x15 x16 a17 a18 a19 x17 a20 x18 a21 x19 x20 a22 a23 a24 a25 x21 a26 (u_36.2.2.2.1 0) a27 a28 a29 y0 a30 a31 a32 a33 a34 a35 a36 a37 a38 x23 x24 x25 y1 a39 x26 a40 a41 a42 a43 x27 x28 x29 x30 a20 f0 a26 (u_36.2.2.1 0) a18 f1) H := hP
                                  replace hD : va_D A (zS_59 cB cC cI cJ a0 a1 x3 x4 x5 x6 x7 x8 x9 x10 a2 a3 a4 a5 a6 a7 a8 a9 a10 a11 a12 a13 a14 a15 a16 x11 x12 x13 x14 x15 x16 a17 a18 a19 x17 a20 x18 a21 x19 x20 a22 a23 a24 a25 x21 a26 (u_36.2.2.2.1 0) a27 a28 a29 y0 a30 a31 a32 a33 a34 a35 a36 a37 a38 x23 x24 x25 y1 a39 x26 a40 a41 a42 a43 x27 x28 x29 x30 a20 f0 a26 (u_36.2.2.1 0) a18 f1) := hD
                                  obtain ⟨hw_39, hw_40⟩ := hw_38
                                  replace hw_39 : (((u_36.2.2.2.1 0).toInt = (x_3.toInt) + (1))) := hw_39
                                  replace hw_40 : zBd (u_36.2.2.2.1 0).toInt 0 1700 := hw_40
                                  refine lv_goto (pc := 152) (tgt := 161) hx hb dX12_told_152 (by decide) ?_
                                  refine b_iinc (pc := 161) hx hb dX12_told_161 hl (k := 1) rfl rfl tI_1 (by first | exact (om_2 hi_2.1) | ((first | omega | (unfold zBd at *; omega)))) (by first | exact (om_24 hi_2.2) | ((first | omega | (unfold zBd at *; omega)))) (by decide) (fun x_41 ex_41 ls hl => ?_)
                                  replace hl : lv_has ls 6 [(4, .int x_41), (5, .int x_12), (0, .ref a0), (1, .int x0), (2, .int x1), (3, .int x2)] := hl
                                  refine lv_goto (pc := 164) (tgt := 8) hx hb dX12_told_164 (by decide) ?_
                                  exact ih_lp_9 x_41 (u_36.2.2.2.1 0) (u_36.2.2.1 0) _ _ ls (by first | exact (om_109 ex_41 hi_2.1 c_10 hp2.2) | ((first | omega | (unfold zBd at *; omega)))) hw_40 (by first | exact (om_482 ex_41 hi_6) | ((first | omega | (unfold zBd at *; omega)))) (by first | exact (om_1856 ex_41 hw_39 hi_7) | ((first | omega | (unfold zBd at *; omega)))) (td_up hi_8 (by first | exact (om_0 hp1.1) | ((first | omega | (unfold zBd at *; omega)))) (by first | exact (om_635 hi_6) | ((first | omega | (unfold zBd at *; omega)))) (by first | exact (om_1029 c_10) | ((first | omega | (unfold zBd at *; omega)))) (e_ld ex_12 rfl) (by first | exact (om_0 hi_4.1) | ((first | omega | (unfold zBd at *; omega)))) (by (first | omega | (unfold zBd at *; omega))) (by first | exact (om_5 ex_41) | ((first | omega | (unfold zBd at *; omega)))) (by first | exact (om_191 hw_39) | ((first | omega | (unfold zBd at *; omega))))) (by (first | omega | (unfold zBd at *; omega))) hP hD hS (lv_sub hl [0, 2, 3, 4, 5] rfl)
                              ·
                                as_aux_lemma =>
                                  refine lv_aload_n (pc := 129) hx hb dX12_told_129 rfl (lv_at hl 2 rfl) ?_
                                  refine lv_iload_n (pc := 130) hx hb dX12_told_130 rfl (lv_at hl 5 rfl) ?_
                                  refine lv_iload_n (pc := 131) hx hb dX12_told_131 rfl (lv_at hl 5 rfl) ?_
                                  refine lv_aload_n (pc := 132) hx hb dX12_told_132 rfl (lv_at hl 2 rfl) ?_
                                  refine va_get (pc := 133) (ci := 12) (v := .ref a18) (C := RX12) (T := TX12) (N := 73) hx hb hts iX12 hown hK hP 0 rfl rfl 31 (by decide) (hts _ tw_1432) (fun _ h9 => h9) rfl dX12_told_133 ?_
                                  refine gd_i (pc := 136) (wc := (zS_30 cB cC cI cJ a0 a1 x3 x4 x5 x6 x7 x8 x9 x10 a2 a3 a4 a5 a6 a7 a8 a9 a10 a11 a12 a13 a14 a15 a16 x11 x12 x13 x14 x15 x16 a17 a18 a19 x17 a20 x18 a21 x19 x20 a22 a23 a24 a25 x21 a26 x_3 a27 a28 a29 y0 a30 a31 a32 a33 a34 a35 a36 a37 a38 x23 x24 x25 y1 a39 x26 a40 a41 a42 a43 x27 x28 x29 x30 a18 f1)) hP hD hS hA [0, 3] rfl (by decide +kernel) (fun _ => by rfl) (fun hPc hDc => va_runV (As := [.int x2, .int x2, .ref a18]) (rest := [.ref a0]) ⟨hx, hb, hml, hown, hts⟩ (k_X12_productOf_60rm9999_9999 l D cB cC cI cJ _ a0 a18 a1 a2 a3 a4 a5 a6 a7 a8 a9 a10 a11 a12 a13 a14 a15 a16 a17 a18 a19 a20 a21 a22 a23 a24 a25 a26 a27 a28 a29 a30 a31 a32 a33 a34 a35 a36 a37 a38 a39 a40 a41 a42 a43 x2 x2 x3 x4 x5 x6 x7 x8 x9 x10 x11 x12 x13 x14 x15 x16 x17 x18 x19 x20 x21 x_3 x23 x24 x25 x26 x27 x28 x29 x30 y0 y1 f1 hp3 hp3 h_x3 h_x4 h_x5 h_x6 h_x7 h_x8 h_x11 h_x12 h_x13 h_x14 h_x15 h_x17 h_x18 h_x19 h_x21 hi_4 h_x23 h_x24 h_x25 h_x26 h_x27 h_x28 h_x29 h_x30 hr_a0_0 hr_a0_1 hr_a0_2 hf_f1) ⟨gcwB hts tw_1791 tw_14 tw_1788 hd_yX12_productOf ⟨Nat.le_of_ble_eq_true rfl, Nat.le_of_ble_eq_true rfl⟩, hts _ tw_1790, hts _ tp_91⟩ ⟨gblind, va_recv hK hPc (ci := 12) (q0 := 0) rfl rfl, (gpreS hPc hK hDc hN).2⟩ rfl rfl hl.1 rfl (lv_room (Nat.le_of_ble_eq_true rfl)) dX12_told_136 ⟨Nat.le_of_ble_eq_true rfl, Nat.le_of_ble_eq_true rfl⟩) (fun r_43 u_42 H locs hw_44 hP hD hS => ?_)
                                  replace hP : va_P D gcl (zS_59 cB cC cI cJ a0 a1 x3 x4 x5 x6 x7 x8 x9 x10 a2 a3 a4 a5 a6 a7 a8 a9 a10 a11 a12 a13 a14 a15 a16 x11 x12 x13 x14 x15 x16 a17 a18 a19 x17 a20 x18 a21 x19 x20 a22 a23 a24 a25 x21 a26 x_3 a27 a28 a29 y0 a30 a31 a32 a33 a34 a35 a36 a37 a38 x23 x24 x25 y1 a39 x26 a40 a41 a42 a43 x27 x28 x29 x30 a20 f0 a26 g_5 a18 f1) H := hP
                                  replace hD : va_D A (zS_59 cB cC cI cJ a0 a1 x3 x4 x5 x6 x7 x8 x9 x10 a2 a3 a4 a5 a6 a7 a8 a9 a10 a11 a12 a13 a14 a15 a16 x11 x12 x13 x14 x15 x16 a17 a18 a19 x17 a20 x18 a21 x19 x20 a22 a23 a24 a25 x21 a26 x_3 a27 a28 a29 y0 a30 a31 a32 a33 a34 a35 a36 a37 a38 x23 x24 x25 y1 a39 x26 a40 a41 a42 a43 x27 x28 x29 x30 a20 f0 a26 g_5 a18 f1) := hD
                                  have hw_45 : ((((-2147483648) ≤ r_43.toInt ∧ r_43.toInt ≤ 2147483647) ∧ (0 ≤ x13.toInt ∧ x13.toInt ≤ 6))) := hw_44
                                  have rr_43 : zBd r_43.toInt (-2147483648) 2147483647 := n_rng r_43
                                  refine b_i2l (pc := 139) hx hb rfl dX12_told_139 (fun y_46 ey_46 => ?_)
                                  have ry_46 : zBd r_43.toInt (-2147483648) 2147483647 := n_rng r_43
                                  refine lv_goto (pc := 140) (tgt := 149) hx hb dX12_told_140 (by decide) ?_
                                  refine gd_v (pc := 149) (wc := (zS_7 cB cC cI cJ a0 a1 x3 x4 x5 x6 x7 x8 x9 x10 a2 a3 a4 a5 a6 a7 a8 a9 a10 a11 a12 a13 a14 a15 a16 x11 x12 x13 x14 x15 x16 a17 a18 a19 x17 a20 x18 a21 x19 x20 a22 a23 a24 a25 x21 a26 x_3 a27 a28 a29 y0 a30 a31 a32 a33 a34 a35 a36 a37 a38 x23 x24 x25 y1 a39 x26 a40 a41 a42 a43 x27 x28 x29 x30 a26 g_5)) hP hD hS hA [0, 2] rfl (by decide +kernel) (fun _ => by rfl) (fun hPc hDc => va_runV (As := [.long y_46]) (rest := []) ⟨hx, hb, hml, hown, hts⟩ (k_X12_puts l D cB cC cI cJ _ a0 a1 a2 a3 a4 a5 a6 a7 a8 a9 a10 a11 a12 a13 a14 a15 a16 a17 a18 a19 a20 a21 a22 a23 a24 a25 a26 a27 a28 a29 a30 a31 a32 a33 a34 a35 a36 a37 a38 a39 a40 a41 a42 a43 x3 x4 x5 x6 x7 x8 x9 x10 x11 x12 x13 x14 x15 x16 x17 x18 x19 x20 x21 x_3 x23 x24 x25 x26 x27 x28 x29 x30 y_46 y0 y1 g_5 h_x3 h_x4 h_x5 h_x6 h_x7 h_x8 h_x11 h_x12 h_x13 h_x14 h_x15 h_x17 h_x18 h_x19 h_x21 hi_4 h_x23 h_x24 h_x25 h_x26 h_x27 h_x28 h_x29 h_x30 hr_a0_0 hr_a0_1 hr_a0_2 (by first | exact (om_1855 hi_7 hi_2.2 hp1.1) | ((first | omega | (unfold zBd at *; omega))))) ⟨gcwB hts tw_2056 tw_14 tw_2053 hd_yX12_puts ⟨Nat.le_of_ble_eq_true rfl, Nat.le_of_ble_eq_true rfl⟩, hts _ tw_2055, hts _ tp_119⟩ ⟨gblind, va_recv hK hPc (ci := 12) (q0 := 0) rfl rfl, (gpreS hPc hK hDc hN).2⟩ rfl rfl hl.1 rfl (lv_room (Nat.le_of_ble_eq_true rfl)) dX12_told_149 ⟨Nat.le_of_ble_eq_true rfl, Nat.le_of_ble_eq_true rfl⟩) (fun u_47 H locs hw_49 hP hD hS => ?_)
                                  replace hP : va_P D gcl (zS_59 cB cC cI cJ a0 a1 x3 x4 x5 x6 x7 x8 x9 x10 a2 a3 a4 a5 a6 a7 a8 a9 a10 a11 a12 a13 a14 a15 a16 x11 x12 x13 x14 x15 x16 a17 a18 a19 x17 a20 x18 a21 x19 x20 a22 a23 a24 a25 x21 a26 (u_47.2.2.2.1 0) a27 a28 a29 y0 a30 a31 a32 a33 a34 a35 a36 a37 a38 x23 x24 x25 y1 a39 x26 a40 a41 a42 a43 x27 x28 x29 x30 a20 f0 a26 (u_47.2.2.1 0) a18 f1) H := hP
                                  replace hD : va_D A (zS_59 cB cC cI cJ a0 a1 x3 x4 x5 x6 x7 x8 x9 x10 a2 a3 a4 a5 a6 a7 a8 a9 a10 a11 a12 a13 a14 a15 a16 x11 x12 x13 x14 x15 x16 a17 a18 a19 x17 a20 x18 a21 x19 x20 a22 a23 a24 a25 x21 a26 (u_47.2.2.2.1 0) a27 a28 a29 y0 a30 a31 a32 a33 a34 a35 a36 a37 a38 x23 x24 x25 y1 a39 x26 a40 a41 a42 a43 x27 x28 x29 x30 a20 f0 a26 (u_47.2.2.1 0) a18 f1) := hD
                                  obtain ⟨hw_50, hw_51⟩ := hw_49
                                  replace hw_50 : (((u_47.2.2.2.1 0).toInt = (x_3.toInt) + (1))) := hw_50
                                  replace hw_51 : zBd (u_47.2.2.2.1 0).toInt 0 1700 := hw_51
                                  refine lv_goto (pc := 152) (tgt := 161) hx hb dX12_told_152 (by decide) ?_
                                  as_aux_lemma =>
                                    refine b_iinc (pc := 161) hx hb dX12_told_161 hl (k := 1) rfl rfl tI_1 (by first | exact (om_2 hi_2.1) | ((first | omega | (unfold zBd at *; omega)))) (by first | exact (om_24 hi_2.2) | ((first | omega | (unfold zBd at *; omega)))) (by decide) (fun x_52 ex_52 ls hl => ?_)
                                    replace hl : lv_has ls 6 [(4, .int x_52), (5, .int x_12), (0, .ref a0), (1, .int x0), (2, .int x1), (3, .int x2)] := hl
                                    refine lv_goto (pc := 164) (tgt := 8) hx hb dX12_told_164 (by decide) ?_
                                    exact ih_lp_9 x_52 (u_47.2.2.2.1 0) (u_47.2.2.1 0) _ _ ls (by first | exact (om_109 ex_52 hi_2.1 c_10 hp2.2) | ((first | omega | (unfold zBd at *; omega)))) hw_51 (by first | exact (om_482 ex_52 hi_6) | ((first | omega | (unfold zBd at *; omega)))) (by first | exact (om_1856 ex_52 hw_50 hi_7) | ((first | omega | (unfold zBd at *; omega)))) (td_up hi_8 (by first | exact (om_0 hp1.1) | ((first | omega | (unfold zBd at *; omega)))) (by first | exact (om_635 hi_6) | ((first | omega | (unfold zBd at *; omega)))) (by first | exact (om_1029 c_10) | ((first | omega | (unfold zBd at *; omega)))) (e_ld ex_12 rfl) (by first | exact (om_0 hi_4.1) | ((first | omega | (unfold zBd at *; omega)))) (by first | exact (om_1857 c_30) | ((first | omega | (unfold zBd at *; omega)))) (by first | exact (om_5 ex_52) | ((first | omega | (unfold zBd at *; omega)))) (by first | exact (om_191 hw_50) | ((first | omega | (unfold zBd at *; omega))))) (by (first | omega | (unfold zBd at *; omega))) hP hD hS (lv_sub hl [0, 2, 3, 4, 5] rfl)
                          ·
                            as_aux_lemma =>
                              refine lv_iload_n (pc := 117) hx hb dX12_told_117 rfl (lv_at hl 5 rfl) ?_
                              refine b_i2l (pc := 118) hx hb rfl dX12_told_118 (fun y_53 ey_53 => ?_)
                              have ry_53 : zBd x2.toInt (-2147483648) 2147483647 := n_rng x2
                              refine lv_goto (pc := 119) (tgt := 149) hx hb dX12_told_119 (by decide) ?_
                              refine gd_v (pc := 149) (wc := (zS_7 cB cC cI cJ a0 a1 x3 x4 x5 x6 x7 x8 x9 x10 a2 a3 a4 a5 a6 a7 a8 a9 a10 a11 a12 a13 a14 a15 a16 x11 x12 x13 x14 x15 x16 a17 a18 a19 x17 a20 x18 a21 x19 x20 a22 a23 a24 a25 x21 a26 x_3 a27 a28 a29 y0 a30 a31 a32 a33 a34 a35 a36 a37 a38 x23 x24 x25 y1 a39 x26 a40 a41 a42 a43 x27 x28 x29 x30 a26 g_5)) hP hD hS hA [0, 2] rfl (by decide +kernel) (fun _ => by rfl) (fun hPc hDc => va_runV (As := [.long y_53]) (rest := []) ⟨hx, hb, hml, hown, hts⟩ (k_X12_puts l D cB cC cI cJ _ a0 a1 a2 a3 a4 a5 a6 a7 a8 a9 a10 a11 a12 a13 a14 a15 a16 a17 a18 a19 a20 a21 a22 a23 a24 a25 a26 a27 a28 a29 a30 a31 a32 a33 a34 a35 a36 a37 a38 a39 a40 a41 a42 a43 x3 x4 x5 x6 x7 x8 x9 x10 x11 x12 x13 x14 x15 x16 x17 x18 x19 x20 x21 x_3 x23 x24 x25 x26 x27 x28 x29 x30 y_53 y0 y1 g_5 h_x3 h_x4 h_x5 h_x6 h_x7 h_x8 h_x11 h_x12 h_x13 h_x14 h_x15 h_x17 h_x18 h_x19 h_x21 hi_4 h_x23 h_x24 h_x25 h_x26 h_x27 h_x28 h_x29 h_x30 hr_a0_0 hr_a0_1 hr_a0_2 (by first | exact (om_1855 hi_7 hi_2.2 hp1.1) | ((first | omega | (unfold zBd at *; omega))))) ⟨gcwB hts tw_2056 tw_14 tw_2053 hd_yX12_puts ⟨Nat.le_of_ble_eq_true rfl, Nat.le_of_ble_eq_true rfl⟩, hts _ tw_2055, hts _ tp_119⟩ ⟨gblind, va_recv hK hPc (ci := 12) (q0 := 0) rfl rfl, (gpreS hPc hK hDc hN).2⟩ rfl rfl hl.1 rfl (lv_room (Nat.le_of_ble_eq_true rfl)) dX12_told_149 ⟨Nat.le_of_ble_eq_true rfl, Nat.le_of_ble_eq_true rfl⟩) (fun u_54 H locs hw_56 hP hD hS => ?_)
                              replace hP : va_P D gcl (zS_59 cB cC cI cJ a0 a1 x3 x4 x5 x6 x7 x8 x9 x10 a2 a3 a4 a5 a6 a7 a8 a9 a10 a11 a12 a13 a14 a15 a16 x11 x12 x13 x14 x15 x16 a17 a18 a19 x17 a20 x18 a21 x19 x20 a22 a23 a24 a25 x21 a26 (u_54.2.2.2.1 0) a27 a28 a29 y0 a30 a31 a32 a33 a34 a35 a36 a37 a38 x23 x24 x25 y1 a39 x26 a40 a41 a42 a43 x27 x28 x29 x30 a20 f0 a26 (u_54.2.2.1 0) a18 f1) H := hP
                              replace hD : va_D A (zS_59 cB cC cI cJ a0 a1 x3 x4 x5 x6 x7 x8 x9 x10 a2 a3 a4 a5 a6 a7 a8 a9 a10 a11 a12 a13 a14 a15 a16 x11 x12 x13 x14 x15 x16 a17 a18 a19 x17 a20 x18 a21 x19 x20 a22 a23 a24 a25 x21 a26 (u_54.2.2.2.1 0) a27 a28 a29 y0 a30 a31 a32 a33 a34 a35 a36 a37 a38 x23 x24 x25 y1 a39 x26 a40 a41 a42 a43 x27 x28 x29 x30 a20 f0 a26 (u_54.2.2.1 0) a18 f1) := hD
                              obtain ⟨hw_57, hw_58⟩ := hw_56
                              replace hw_57 : (((u_54.2.2.2.1 0).toInt = (x_3.toInt) + (1))) := hw_57
                              replace hw_58 : zBd (u_54.2.2.2.1 0).toInt 0 1700 := hw_58
                              refine lv_goto (pc := 152) (tgt := 161) hx hb dX12_told_152 (by decide) ?_
                              refine b_iinc (pc := 161) hx hb dX12_told_161 hl (k := 1) rfl rfl tI_1 (by first | exact (om_2 hi_2.1) | ((first | omega | (unfold zBd at *; omega)))) (by first | exact (om_24 hi_2.2) | ((first | omega | (unfold zBd at *; omega)))) (by decide) (fun x_59 ex_59 ls hl => ?_)
                              replace hl : lv_has ls 6 [(4, .int x_59), (5, .int x_12), (0, .ref a0), (1, .int x0), (2, .int x1), (3, .int x2)] := hl
                              refine lv_goto (pc := 164) (tgt := 8) hx hb dX12_told_164 (by decide) ?_
                              exact ih_lp_9 x_59 (u_54.2.2.2.1 0) (u_54.2.2.1 0) _ _ ls (by first | exact (om_109 ex_59 hi_2.1 c_10 hp2.2) | ((first | omega | (unfold zBd at *; omega)))) hw_58 (by first | exact (om_482 ex_59 hi_6) | ((first | omega | (unfold zBd at *; omega)))) (by first | exact (om_1856 ex_59 hw_57 hi_7) | ((first | omega | (unfold zBd at *; omega)))) (td_up hi_8 (by first | exact (om_0 hp1.1) | ((first | omega | (unfold zBd at *; omega)))) (by first | exact (om_635 hi_6) | ((first | omega | (unfold zBd at *; omega)))) (by first | exact (om_1029 c_10) | ((first | omega | (unfold zBd at *; omega)))) (e_ld ex_12 rfl) (by first | exact (om_0 hi_4.1) | ((first | omega | (unfold zBd at *; omega)))) (by first | exact (om_1858 c_29) | ((first | omega | (unfold zBd at *; omega)))) (by first | exact (om_5 ex_59) | ((first | omega | (unfold zBd at *; omega)))) (by first | exact (om_191 hw_57) | ((first | omega | (unfold zBd at *; omega))))) (by (first | omega | (unfold zBd at *; omega))) hP hD hS (lv_sub hl [0, 2, 3, 4, 5] rfl)
                  ·
                    as_aux_lemma =>
                      have hh_60 := td_not hi_8 (by first | exact (om_0 hp1.1) | ((first | omega | (unfold zBd at *; omega)))) (by first | exact (om_635 hi_6) | ((first | omega | (unfold zBd at *; omega)))) (by first | exact (om_1029 c_10) | ((first | omega | (unfold zBd at *; omega)))) (e_ld ex_12 rfl) (by first | exact (om_905 c_15) | ((first | omega | (unfold zBd at *; omega)))) rfl
                      refine lv_aload_n (pc := 67) hx hb dX12_told_67 rfl (lv_at hl 2 rfl) ?_
                      refine va_get (pc := 68) (ci := 12) (v := .ref a26) (C := RX12) (T := TX12) (N := 73) hx hb hts iX12 hown hK hP 0 rfl rfl 44 (by decide) (hts _ tw_1445) (fun _ h9 => h9) rfl dX12_told_68 ?_
                      refine lv_aload_n (pc := 71) hx hb dX12_told_71 rfl (lv_at hl 2 rfl) ?_
                      refine va_get (pc := 72) (ci := 12) (v := .int x_3) (C := RX12) (T := TX12) (N := 73) hx hb hts iX12 hown hK hP 0 rfl rfl 45 (by decide) (hts _ tw_1446) (fun _ h9 => h9) rfl dX12_told_72 ?_
                      refine lv_iconst (pc := 75) (v := 1) hx hb dX12_told_75 (by decide) ?_
                      refine b_isub (pc := 76) hx hb rfl tI_1 (by first | exact (om_659 hi_4.1) | ((first | omega | (unfold zBd at *; omega)))) (by first | exact (om_660 hi_4.2) | ((first | omega | (unfold zBd at *; omega)))) dX12_told_76 (fun x_61 ex_61 => ?_)
                      refine lv_lconst (pc := 77) (v := 1) hx hb dX12_told_77 (by decide) ?_
                      refine lv_aload_n (pc := 78) hx hb dX12_told_78 rfl (lv_at hl 2 rfl) ?_
                      refine va_get (pc := 79) (ci := 12) (v := .ref a26) (C := RX12) (T := TX12) (N := 73) hx hb hts iX12 hown hK hP 0 rfl rfl 44 (by decide) (hts _ tw_1445) (fun _ h9 => h9) rfl dX12_told_79 ?_
                      refine lv_aload_n (pc := 82) hx hb dX12_told_82 rfl (lv_at hl 2 rfl) ?_
                      as_aux_lemma =>
                        refine va_get (pc := 83) (ci := 12) (v := .int x_3) (C := RX12) (T := TX12) (N := 73) hx hb hts iX12 hown hK hP 0 rfl rfl 45 (by decide) (hts _ tw_1446) (fun _ h9 => h9) rfl dX12_told_83 ?_
                        refine lv_iconst (pc := 86) (v := 1) hx hb dX12_told_86 (by decide) ?_
                        refine b_isub (pc := 87) hx hb rfl tI_1 (by first | exact (om_659 hi_4.1) | ((first | omega | (unfold zBd at *; omega)))) (by first | exact (om_660 hi_4.2) | ((first | omega | (unfold zBd at *; omega)))) dX12_told_87 (fun x_62 ex_62 => ?_)
                        refine va_lald (pc := 88) hx hb hK hP 2 3 rfl rfl (n_in rfl (by (first | omega | (unfold zBd at *; omega))) (by first | exact (om_678 ex_62 hi_4.2) | ((first | omega | (unfold zBd at *; omega))))) dX12_told_88 ?_
                        refine lv_topl (fun y_63 ey_63 => ?_)
                        have ry_63 := n_rngL y_63
                        refine lv_lsub (pc := 89) hx hb dX12_told_89 ?_
                        refine lv_topl (fun y_64 _ => ?_)
                        have ry_64 := n_rngL y_64
                        refine g_lastore (pc := 90) hx hb hK hP hD hS 2 3 rfl rfl (n_in rfl (by (first | omega | (unfold zBd at *; omega))) (by first | exact (om_678 ex_61 hi_4.2) | ((first | omega | (unfold zBd at *; omega))))) dX12_told_90 (fun g_65 H locs hP hD hS => ?_)
                        replace hP : va_P D gcl (zS_59 cB cC cI cJ a0 a1 x3 x4 x5 x6 x7 x8 x9 x10 a2 a3 a4 a5 a6 a7 a8 a9 a10 a11 a12 a13 a14 a15 a16 x11 x12 x13 x14 x15 x16 a17 a18 a19 x17 a20 x18 a21 x19 x20 a22 a23 a24 a25 x21 a26 x_3 a27 a28 a29 y0 a30 a31 a32 a33 a34 a35 a36 a37 a38 x23 x24 x25 y1 a39 x26 a40 a41 a42 a43 x27 x28 x29 x30 a20 f0 a26 g_65 a18 f1) H := hP
                        replace hD : va_D A (zS_59 cB cC cI cJ a0 a1 x3 x4 x5 x6 x7 x8 x9 x10 a2 a3 a4 a5 a6 a7 a8 a9 a10 a11 a12 a13 a14 a15 a16 x11 x12 x13 x14 x15 x16 a17 a18 a19 x17 a20 x18 a21 x19 x20 a22 a23 a24 a25 x21 a26 x_3 a27 a28 a29 y0 a30 a31 a32 a33 a34 a35 a36 a37 a38 x23 x24 x25 y1 a39 x26 a40 a41 a42 a43 x27 x28 x29 x30 a20 f0 a26 g_65 a18 f1) := hD
                        refine lv_goto (pc := 91) (tgt := 161) hx hb dX12_told_91 (by decide) ?_
                        refine b_iinc (pc := 161) hx hb dX12_told_161 hl (k := 1) rfl rfl tI_1 (by first | exact (om_2 hi_2.1) | ((first | omega | (unfold zBd at *; omega)))) (by first | exact (om_24 hi_2.2) | ((first | omega | (unfold zBd at *; omega)))) (by decide) (fun x_66 ex_66 ls hl => ?_)
                        replace hl : lv_has ls 6 [(4, .int x_66), (5, .int x_12), (0, .ref a0), (1, .int x0), (2, .int x1), (3, .int x2)] := hl
                        as_aux_lemma =>
                          refine lv_goto (pc := 164) (tgt := 8) hx hb dX12_told_164 (by decide) ?_
                          exact ih_lp_9 x_66 x_3 g_65 _ _ ls (by first | exact (om_109 ex_66 hi_2.1 c_10 hp2.2) | ((first | omega | (unfold zBd at *; omega)))) hi_4 (by first | exact (om_482 ex_66 hi_6) | ((first | omega | (unfold zBd at *; omega)))) (by first | exact (om_1859 ex_66 hi_7) | ((first | omega | (unfold zBd at *; omega)))) (td_to hh_60.2 (by (first | omega | (unfold zBd at *; omega))) (by (first | omega | (unfold zBd at *; omega)))) (by (first | omega | (unfold zBd at *; omega))) hP hD hS (lv_sub hl [0, 2, 3, 4, 5] rfl)
              ·
                as_aux_lemma =>
                  refine lv_aload_n (pc := 52) hx hb dX12_told_52 rfl (lv_at hl 2 rfl) ?_
                  refine lv_lconst (pc := 53) (v := 1) hx hb dX12_told_53 (by decide) ?_
                  refine gd_v (pc := 54) (wc := (zS_7 cB cC cI cJ a0 a1 x3 x4 x5 x6 x7 x8 x9 x10 a2 a3 a4 a5 a6 a7 a8 a9 a10 a11 a12 a13 a14 a15 a16 x11 x12 x13 x14 x15 x16 a17 a18 a19 x17 a20 x18 a21 x19 x20 a22 a23 a24 a25 x21 a26 x_3 a27 a28 a29 y0 a30 a31 a32 a33 a34 a35 a36 a37 a38 x23 x24 x25 y1 a39 x26 a40 a41 a42 a43 x27 x28 x29 x30 a26 g_5)) hP hD hS hA [0, 2] rfl (by decide +kernel) (fun _ => by rfl) (fun hPc hDc => va_runV (As := [.long 1]) (rest := []) ⟨hx, hb, hml, hown, hts⟩ (k_X12_puts l D cB cC cI cJ _ a0 a1 a2 a3 a4 a5 a6 a7 a8 a9 a10 a11 a12 a13 a14 a15 a16 a17 a18 a19 a20 a21 a22 a23 a24 a25 a26 a27 a28 a29 a30 a31 a32 a33 a34 a35 a36 a37 a38 a39 a40 a41 a42 a43 x3 x4 x5 x6 x7 x8 x9 x10 x11 x12 x13 x14 x15 x16 x17 x18 x19 x20 x21 x_3 x23 x24 x25 x26 x27 x28 x29 x30 1 y0 y1 g_5 h_x3 h_x4 h_x5 h_x6 h_x7 h_x8 h_x11 h_x12 h_x13 h_x14 h_x15 h_x17 h_x18 h_x19 h_x21 hi_4 h_x23 h_x24 h_x25 h_x26 h_x27 h_x28 h_x29 h_x30 hr_a0_0 hr_a0_1 hr_a0_2 (by first | exact (om_1855 hi_7 hi_2.2 hp1.1) | (have k0 := tL_1; (first | omega | (unfold zBd at *; omega))))) ⟨gcwB hts tw_2056 tw_14 tw_2053 hd_yX12_puts ⟨Nat.le_of_ble_eq_true rfl, Nat.le_of_ble_eq_true rfl⟩, hts _ tw_2055, hts _ tp_119⟩ ⟨gblind, va_recv hK hPc (ci := 12) (q0 := 0) rfl rfl, (gpreS hPc hK hDc hN).2⟩ rfl rfl hl.1 rfl (lv_room (Nat.le_of_ble_eq_true rfl)) dX12_told_54 ⟨Nat.le_of_ble_eq_true rfl, Nat.le_of_ble_eq_true rfl⟩) (fun u_67 H locs hw_69 hP hD hS => ?_)
                  replace hP : va_P D gcl (zS_59 cB cC cI cJ a0 a1 x3 x4 x5 x6 x7 x8 x9 x10 a2 a3 a4 a5 a6 a7 a8 a9 a10 a11 a12 a13 a14 a15 a16 x11 x12 x13 x14 x15 x16 a17 a18 a19 x17 a20 x18 a21 x19 x20 a22 a23 a24 a25 x21 a26 (u_67.2.2.2.1 0) a27 a28 a29 y0 a30 a31 a32 a33 a34 a35 a36 a37 a38 x23 x24 x25 y1 a39 x26 a40 a41 a42 a43 x27 x28 x29 x30 a20 f0 a26 (u_67.2.2.1 0) a18 f1) H := hP
                  replace hD : va_D A (zS_59 cB cC cI cJ a0 a1 x3 x4 x5 x6 x7 x8 x9 x10 a2 a3 a4 a5 a6 a7 a8 a9 a10 a11 a12 a13 a14 a15 a16 x11 x12 x13 x14 x15 x16 a17 a18 a19 x17 a20 x18 a21 x19 x20 a22 a23 a24 a25 x21 a26 (u_67.2.2.2.1 0) a27 a28 a29 y0 a30 a31 a32 a33 a34 a35 a36 a37 a38 x23 x24 x25 y1 a39 x26 a40 a41 a42 a43 x27 x28 x29 x30 a20 f0 a26 (u_67.2.2.1 0) a18 f1) := hD
                  obtain ⟨hw_70, hw_71⟩ := hw_69
                  replace hw_70 : (((u_67.2.2.2.1 0).toInt = (x_3.toInt) + (1))) := hw_70
                  replace hw_71 : zBd (u_67.2.2.2.1 0).toInt 0 1700 := hw_71
                  have kk0_r_68 := tL_1
                  refine lv_goto (pc := 57) (tgt := 161) hx hb dX12_told_57 (by decide) ?_
                  refine b_iinc (pc := 161) hx hb dX12_told_161 hl (k := 1) rfl rfl tI_1 (by first | exact (om_2 hi_2.1) | ((first | omega | (unfold zBd at *; omega)))) (by first | exact (om_24 hi_2.2) | ((first | omega | (unfold zBd at *; omega)))) (by decide) (fun x_72 ex_72 ls hl => ?_)
                  replace hl : lv_has ls 6 [(4, .int x_72), (5, .int x_12), (0, .ref a0), (1, .int x0), (2, .int x1), (3, .int x2)] := hl
                  refine lv_goto (pc := 164) (tgt := 8) hx hb dX12_told_164 (by decide) ?_
                  exact ih_lp_9 x_72 (u_67.2.2.2.1 0) (u_67.2.2.1 0) _ _ ls (by first | exact (om_109 ex_72 hi_2.1 c_10 hp2.2) | ((first | omega | (unfold zBd at *; omega)))) hw_71 (by first | exact (om_482 ex_72 hi_6) | ((first | omega | (unfold zBd at *; omega)))) (by first | exact (om_1856 ex_72 hw_70 hi_7) | ((first | omega | (unfold zBd at *; omega)))) (td_up hi_8 (by first | exact (om_0 hp1.1) | ((first | omega | (unfold zBd at *; omega)))) (by first | exact (om_635 hi_6) | ((first | omega | (unfold zBd at *; omega)))) (by first | exact (om_1029 c_10) | ((first | omega | (unfold zBd at *; omega)))) (e_ld ex_12 rfl) (by first | exact (om_0 hi_4.1) | ((first | omega | (unfold zBd at *; omega)))) (by first | exact (om_1860 c_14) | ((first | omega | (unfold zBd at *; omega)))) (by first | exact (om_5 ex_72) | ((first | omega | (unfold zBd at *; omega)))) (by first | exact (om_191 hw_70) | ((first | omega | (unfold zBd at *; omega))))) (by (first | omega | (unfold zBd at *; omega))) hP hD hS (lv_sub hl [0, 2, 3, 4, 5] rfl)
          ·
            as_aux_lemma =>
              refine lv_aload_n (pc := 31) hx hb dX12_told_31 rfl (lv_at hl 2 rfl) ?_
              refine lv_iload (pc := 32) hx hb dX12_told_32 (lv_at hl 0 rfl) ?_
              refine lv_sipush (pc := 34) (v := 1000) hx hb dX12_told_34 (by decide) ?_
              refine b_isub (pc := 37) hx hb rfl tI_1000 (by first | exact (om_1861 c_13) | ((first | omega | (unfold zBd at *; omega)))) (by first | exact (om_1862 rx_12.2) | ((first | omega | (unfold zBd at *; omega)))) dX12_told_37 (fun x_73 ex_73 => ?_)
              refine b_i2l (pc := 38) hx hb rfl dX12_told_38 (fun y_74 ey_74 => ?_)
              have ry_74 : zBd x_73.toInt (-2147483648) 2147483647 := n_rng x_73
              refine gd_v (pc := 39) (wc := (zS_7 cB cC cI cJ a0 a1 x3 x4 x5 x6 x7 x8 x9 x10 a2 a3 a4 a5 a6 a7 a8 a9 a10 a11 a12 a13 a14 a15 a16 x11 x12 x13 x14 x15 x16 a17 a18 a19 x17 a20 x18 a21 x19 x20 a22 a23 a24 a25 x21 a26 x_3 a27 a28 a29 y0 a30 a31 a32 a33 a34 a35 a36 a37 a38 x23 x24 x25 y1 a39 x26 a40 a41 a42 a43 x27 x28 x29 x30 a26 g_5)) hP hD hS hA [0, 2] rfl (by decide +kernel) (fun _ => by rfl) (fun hPc hDc => va_runV (As := [.long y_74]) (rest := []) ⟨hx, hb, hml, hown, hts⟩ (k_X12_puts l D cB cC cI cJ _ a0 a1 a2 a3 a4 a5 a6 a7 a8 a9 a10 a11 a12 a13 a14 a15 a16 a17 a18 a19 a20 a21 a22 a23 a24 a25 a26 a27 a28 a29 a30 a31 a32 a33 a34 a35 a36 a37 a38 a39 a40 a41 a42 a43 x3 x4 x5 x6 x7 x8 x9 x10 x11 x12 x13 x14 x15 x16 x17 x18 x19 x20 x21 x_3 x23 x24 x25 x26 x27 x28 x29 x30 y_74 y0 y1 g_5 h_x3 h_x4 h_x5 h_x6 h_x7 h_x8 h_x11 h_x12 h_x13 h_x14 h_x15 h_x17 h_x18 h_x19 h_x21 hi_4 h_x23 h_x24 h_x25 h_x26 h_x27 h_x28 h_x29 h_x30 hr_a0_0 hr_a0_1 hr_a0_2 (by first | exact (om_1855 hi_7 hi_2.2 hp1.1) | ((first | omega | (unfold zBd at *; omega))))) ⟨gcwB hts tw_2056 tw_14 tw_2053 hd_yX12_puts ⟨Nat.le_of_ble_eq_true rfl, Nat.le_of_ble_eq_true rfl⟩, hts _ tw_2055, hts _ tp_119⟩ ⟨gblind, va_recv hK hPc (ci := 12) (q0 := 0) rfl rfl, (gpreS hPc hK hDc hN).2⟩ rfl rfl hl.1 rfl (lv_room (Nat.le_of_ble_eq_true rfl)) dX12_told_39 ⟨Nat.le_of_ble_eq_true rfl, Nat.le_of_ble_eq_true rfl⟩) (fun u_75 H locs hw_77 hP hD hS => ?_)
              replace hP : va_P D gcl (zS_59 cB cC cI cJ a0 a1 x3 x4 x5 x6 x7 x8 x9 x10 a2 a3 a4 a5 a6 a7 a8 a9 a10 a11 a12 a13 a14 a15 a16 x11 x12 x13 x14 x15 x16 a17 a18 a19 x17 a20 x18 a21 x19 x20 a22 a23 a24 a25 x21 a26 (u_75.2.2.2.1 0) a27 a28 a29 y0 a30 a31 a32 a33 a34 a35 a36 a37 a38 x23 x24 x25 y1 a39 x26 a40 a41 a42 a43 x27 x28 x29 x30 a20 f0 a26 (u_75.2.2.1 0) a18 f1) H := hP
              replace hD : va_D A (zS_59 cB cC cI cJ a0 a1 x3 x4 x5 x6 x7 x8 x9 x10 a2 a3 a4 a5 a6 a7 a8 a9 a10 a11 a12 a13 a14 a15 a16 x11 x12 x13 x14 x15 x16 a17 a18 a19 x17 a20 x18 a21 x19 x20 a22 a23 a24 a25 x21 a26 (u_75.2.2.2.1 0) a27 a28 a29 y0 a30 a31 a32 a33 a34 a35 a36 a37 a38 x23 x24 x25 y1 a39 x26 a40 a41 a42 a43 x27 x28 x29 x30 a20 f0 a26 (u_75.2.2.1 0) a18 f1) := hD
              obtain ⟨hw_78, hw_79⟩ := hw_77
              replace hw_78 : (((u_75.2.2.2.1 0).toInt = (x_3.toInt) + (1))) := hw_78
              replace hw_79 : zBd (u_75.2.2.2.1 0).toInt 0 1700 := hw_79
              refine lv_goto (pc := 42) (tgt := 161) hx hb dX12_told_42 (by decide) ?_
              refine b_iinc (pc := 161) hx hb dX12_told_161 hl (k := 1) rfl rfl tI_1 (by first | exact (om_2 hi_2.1) | ((first | omega | (unfold zBd at *; omega)))) (by first | exact (om_24 hi_2.2) | ((first | omega | (unfold zBd at *; omega)))) (by decide) (fun x_80 ex_80 ls hl => ?_)
              replace hl : lv_has ls 6 [(4, .int x_80), (5, .int x_12), (0, .ref a0), (1, .int x0), (2, .int x1), (3, .int x2)] := hl
              refine lv_goto (pc := 164) (tgt := 8) hx hb dX12_told_164 (by decide) ?_
              exact ih_lp_9 x_80 (u_75.2.2.2.1 0) (u_75.2.2.1 0) _ _ ls (by first | exact (om_109 ex_80 hi_2.1 c_10 hp2.2) | ((first | omega | (unfold zBd at *; omega)))) hw_79 (by first | exact (om_482 ex_80 hi_6) | ((first | omega | (unfold zBd at *; omega)))) (by first | exact (om_1856 ex_80 hw_78 hi_7) | ((first | omega | (unfold zBd at *; omega)))) (td_up hi_8 (by first | exact (om_0 hp1.1) | ((first | omega | (unfold zBd at *; omega)))) (by first | exact (om_635 hi_6) | ((first | omega | (unfold zBd at *; omega)))) (by first | exact (om_1029 c_10) | ((first | omega | (unfold zBd at *; omega)))) (e_ld ex_12 rfl) (by first | exact (om_0 hi_4.1) | ((first | omega | (unfold zBd at *; omega)))) (by first | exact (om_1863 c_13) | ((first | omega | (unfold zBd at *; omega)))) (by first | exact (om_5 ex_80) | ((first | omega | (unfold zBd at *; omega)))) (by first | exact (om_191 hw_78) | ((first | omega | (unfold zBd at *; omega))))) (by (first | omega | (unfold zBd at *; omega))) hP hD hS (lv_sub hl [0, 2, 3, 4, 5] rfl)
  exact lp_9 _ x0 0 g0 _ _ ls hp1 (n_c tI_0 (by decide)) (by first | exact (om_484) | (have k0 := tI_0; (first | omega | (unfold zBd at *; omega)))) (by have q := tI_0; (first | omega | (unfold zBd at *; omega))) (td_to (td_start hg_sg) rfl (by decide)) (Nat.lt_succ_self _) hP hD hS (lv_sub hl [0, 1, 2, 3, 4] rfl)
theorem om_1864 {a b : Int} (h0 : (a < b)) (h1 : (b ≤ 8)) : (a < (16 : Nat)) := by omega
set_option maxHeartbeats 4000000 in
set_option maxRecDepth 100000 in
theorem k_X12_worthOf (l : Launch) (D : va_G) (cB cC cI cJ : ClassId) (sz : Nat) (a0 a1 a2 a3 a4 a5 a6 a7 a8 a9 a10 a11 a12 a13 a14 a15 a16 a17 a18 a19 a20 a21 a22 a23 a24 a25 a26 a27 a28 a29 a30 a31 a32 a33 a34 a35 a36 a37 a38 a39 a40 a41 a42 a43 : Nat) (x0 x1 x2 x3 x4 x5 x6 x7 x8 x9 x10 x11 x12 x13 x14 x15 x16 x17 x18 x19 x20 x21 x22 x23 x24 x25 x26 x27 x28 : Int32) (y0 y1 : Int64) (f0 f1 f2 f3 f4 f5 : Nat → Int32) (g0 : Nat → Int64) (hp1 : (0 ≤ x0.toInt ∧ x0.toInt ≤ 4)) (h_x1 : zBd x1.toInt 0 1600) (h_x2 : zBd x2.toInt 0 1600) (h_x3 : zBd x3.toInt 0 1600) (h_x4 : zBd x4.toInt (-1) 1600) (h_x5 : zBd x5.toInt 0 4) (h_x6 : zBd x6.toInt (-1) 1600) (h_x9 : zBd x9.toInt 0 8) (h_x10 : zBd x10.toInt 0 5) (h_x11 : zBd x11.toInt 0 6) (h_x12 : zBd x12.toInt 0 6) (h_x13 : zBd x13.toInt 0 16) (h_x15 : zBd x15.toInt 0 60) (h_x16 : zBd x16.toInt 0 1600) (h_x17 : zBd x17.toInt 0 1700) (h_x19 : zBd x19.toInt 0 1700) (h_x20 : zBd x20.toInt 0 1700) (h_x21 : zBd x21.toInt 0 200) (h_x22 : zBd x22.toInt 0 40) (h_x23 : zBd x23.toInt 0 40) (h_x24 : zBd x24.toInt 0 1) (h_x25 : zBd x25.toInt 0 14) (h_x26 : zBd x26.toInt 0 200) (h_x27 : zBd x27.toInt 0 40) (h_x28 : zBd x28.toInt 0 40) (hr_a0_0 : (x22.toInt ≤ x21.toInt)) (hr_a0_1 : (x21.toInt + x23.toInt ≤ 200)) (hr_a0_2 : (x10.toInt = 0 ∨ 2 ≤ x9.toInt)) (hf_f0 : (∀ j, 0 ≤ (f0 j).toInt ∧ (f0 j).toInt ≤ 8)) (hf_f2 : (∀ j, 0 ≤ (f2 j).toInt ∧ (f2 j).toInt ≤ 1600)) (hf_f3 : (∀ j, 0 ≤ (f3 j).toInt ∧ (f3 j).toInt ≤ 1600)) (hf_f4 : (∀ j, 0 ≤ (f4 j).toInt ∧ (f4 j).toInt ≤ 1600)) (hg_RI : RI 0 ((f0 0).toInt) f1 f2 f3 f4 1600) (hf_f5 : (∀ j, (-9999) ≤ (f5 j).toInt ∧ (f5 j).toInt ≤ 9999)) : Met l yX12_worthOf (.code yX12_worthOf cX12_worthOf 3 (some .int) :: lw_gd) ({ frames := 3, cells := 0, slots := 0, locals := 75 }) (gPre D [(cB, .byte), (cC, .char), (cI, .int), (cJ, .long)] [.ref a0, .int x0] (zS_60 cB cC cI cJ a0 a1 x1 x2 x3 x4 x5 x6 x7 x8 a2 a3 a4 a5 a6 a7 a8 a9 a10 a11 a12 a13 a14 a15 a16 x9 x10 x11 x12 x13 x14 a17 a18 a19 x15 a20 x16 a21 x17 x18 a22 a23 a24 a25 x19 a26 x20 a27 a28 a29 y0 a30 a31 a32 a33 a34 a35 a36 a37 a38 x21 x22 x23 y1 a39 x24 a40 a41 a42 a43 x25 x26 x27 x28 a22 f0 a20 f1 a23 f2 a24 f3 a25 f4 a26 g0 a18 f5) sz) (va_Qi (fun r u => (0 ≤ (u.2.2.2.1 0).toInt ∧ (u.2.2.2.1 0).toInt ≤ 1700)) (gB D (va_A (zS_60 cB cC cI cJ a0 a1 x1 x2 x3 x4 x5 x6 x7 x8 a2 a3 a4 a5 a6 a7 a8 a9 a10 a11 a12 a13 a14 a15 a16 x9 x10 x11 x12 x13 x14 a17 a18 a19 x15 a20 x16 a21 x17 x18 a22 a23 a24 a25 x19 a26 x20 a27 a28 a29 y0 a30 a31 a32 a33 a34 a35 a36 a37 a38 x21 x22 x23 y1 a39 x24 a40 a41 a42 a43 x25 x26 x27 x28 a22 f0 a20 f1 a23 f2 a24 f3 a25 f4 a26 g0 a18 f5) sz) (fun u : gEx => (zS_60 cB cC cI cJ a0 a1 x1 x2 x3 x4 x5 x6 x7 x8 a2 a3 a4 a5 a6 a7 a8 a9 a10 a11 a12 a13 a14 a15 a16 x9 x10 x11 x12 x13 x14 a17 a18 a19 x15 a20 x16 a21 x17 x18 a22 a23 a24 a25 x19 a26 (u.2.2.2.1 0) a27 a28 a29 y0 a30 a31 a32 a33 a34 a35 a36 a37 a38 x21 x22 x23 y1 a39 x24 a40 a41 a42 a43 x25 x26 x27 x28 a22 f0 a20 f1 a23 f2 a24 f3 a25 f4 a26 (u.2.2.1 0) a18 f5))) (va_A (zS_60 cB cC cI cJ a0 a1 x1 x2 x3 x4 x5 x6 x7 x8 a2 a3 a4 a5 a6 a7 a8 a9 a10 a11 a12 a13 a14 a15 a16 x9 x10 x11 x12 x13 x14 a17 a18 a19 x15 a20 x16 a21 x17 x18 a22 a23 a24 a25 x19 a26 x20 a27 a28 a29 y0 a30 a31 a32 a33 a34 a35 a36 a37 a38 x21 x22 x23 y1 a39 x24 a40 a41 a42 a43 x25 x26 x27 x28 a22 f0 a20 f1 a23 f2 a24 f3 a25 f4 a26 g0 a18 f5) sz)) 0 0 (va_A (zS_60 cB cC cI cJ a0 a1 x1 x2 x3 x4 x5 x6 x7 x8 a2 a3 a4 a5 a6 a7 a8 a9 a10 a11 a12 a13 a14 a15 a16 x9 x10 x11 x12 x13 x14 a17 a18 a19 x15 a20 x16 a21 x17 x18 a22 a23 a24 a25 x19 a26 x20 a27 a28 a29 y0 a30 a31 a32 a33 a34 a35 a36 a37 a38 x21 x22 x23 y1 a39 x24 a40 a41 a42 a43 x25 x26 x27 x28 a22 f0 a20 f1 a23 f2 a24 f3 a25 f4 a26 g0 a18 f5) sz) := by
  refine gOf_i (by decide +kernel) (Nat.le_of_ble_eq_true rfl) ?_
  intro p e s m args below meth c ls A Q hx hb hts hown hml hN hK hP hD hA hl hret
  replace hown : s.vm.findClass RX12 = some m.cls := hown
  have hS : va_S A s.heap s.heap [] := va_S.rf
  replace hP : va_P D gcl (zS_60 cB cC cI cJ a0 a1 x1 x2 x3 x4 x5 x6 x7 x8 a2 a3 a4 a5 a6 a7 a8 a9 a10 a11 a12 a13 a14 a15 a16 x9 x10 x11 x12 x13 x14 a17 a18 a19 x15 a20 x16 a21 x17 x18 a22 a23 a24 a25 x19 a26 x20 a27 a28 a29 y0 a30 a31 a32 a33 a34 a35 a36 a37 a38 x21 x22 x23 y1 a39 x24 a40 a41 a42 a43 x25 x26 x27 x28 a22 f0 a20 f1 a23 f2 a24 f3 a25 f4 a26 g0 a18 f5) s.heap := hP
  replace hl : lv_has ls 3 [(0, .ref a0), (1, .int x0)] := hl
  have rx7 : zBd x7.toInt (-2147483648) 2147483647 := n_rng x7
  have rx8 : zBd x8.toInt (-2147483648) 2147483647 := n_rng x8
  have rx14 : zBd x14.toInt (-2147483648) 2147483647 := n_rng x14
  have rx18 : zBd x18.toInt (-2147483648) 2147483647 := n_rng x18
  have ry0 := n_rngL y0
  have ry1 := n_rngL y1
  refine lv_iconst (pc := 0) (v := 0) hx hb dX12_worthOf_0 (by decide) ?_
  refine lv_istore_n (pc := 1) (lv' := [(2, .int 0), (0, .ref a0), (1, .int x0)]) hx hb dX12_worthOf_1 rfl hl (by decide) rfl (fun ls hl => ?_)
  have lp_6 : ∀ (n : Nat) (x_1 x_3 : Int32) (g_5 : Nat → Int64) (H : Heap) (locs : List Loc) (ls : Array Slot), (0 ≤ x_1.toInt ∧ x_1.toInt ≤ 2147483647) → (0 ≤ x_3.toInt ∧ x_3.toInt ≤ 1700) → (2147483647 - x_1.toInt).toNat < n → va_P D gcl (zS_60 cB cC cI cJ a0 a1 x1 x2 x3 x4 x5 x6 x7 x8 a2 a3 a4 a5 a6 a7 a8 a9 a10 a11 a12 a13 a14 a15 a16 x9 x10 x11 x12 x13 x14 a17 a18 a19 x15 a20 x16 a21 x17 x18 a22 a23 a24 a25 x19 a26 x_3 a27 a28 a29 y0 a30 a31 a32 a33 a34 a35 a36 a37 a38 x21 x22 x23 y1 a39 x24 a40 a41 a42 a43 x25 x26 x27 x28 a22 f0 a20 f1 a23 f2 a24 f3 a25 f4 a26 g_5 a18 f5) H → va_D A (zS_60 cB cC cI cJ a0 a1 x1 x2 x3 x4 x5 x6 x7 x8 a2 a3 a4 a5 a6 a7 a8 a9 a10 a11 a12 a13 a14 a15 a16 x9 x10 x11 x12 x13 x14 a17 a18 a19 x15 a20 x16 a21 x17 x18 a22 a23 a24 a25 x19 a26 x_3 a27 a28 a29 y0 a30 a31 a32 a33 a34 a35 a36 a37 a38 x21 x22 x23 y1 a39 x24 a40 a41 a42 a43 x25 x26 x27 x28 a22 f0 a20 f1 a23 f2 a24 f3 a25 f4 a26 g_5 a18 f5) → va_S A s.heap H locs → lv_has ls 3 [(2, .int x_1), (0, .ref a0), (1, .int x0)] → W p l e ({ frames := 3, cells := 0, slots := 0, locals := 75 }) s m args below meth c H locs 0 0 Q (F0 m 2 ls []) := by
    intro n
    induction n with
    | zero => intro x_1 x_3 g_5 H locs ls hi_2 hi_4 hmu; exact absurd hmu (Nat.not_lt_zero _)
    | succ n ih_lp_6 =>
      intro x_1 x_3 g_5 H locs ls hi_2 hi_4 hmu_lp_6 hP hD hS hl
      refine lv_iload_n (pc := 2) hx hb dX12_worthOf_2 rfl (lv_at hl 0 rfl) ?_
      refine lv_aload_n (pc := 3) hx hb dX12_worthOf_3 rfl (lv_at hl 1 rfl) ?_
      refine va_get (pc := 4) (ci := 12) (v := .ref a22) (C := RX12) (T := TX12) (N := 73) hx hb hts iX12 hown hK hP 0 rfl rfl 39 (by decide) (hts _ tw_1440) (fun _ h9 => h9) rfl dX12_worthOf_4 ?_
      refine lv_iconst (pc := 7) (v := 0) hx hb dX12_worthOf_7 (by decide) ?_
      refine va_iald (pc := 8) hx hb hK hP 1 2 rfl rfl (gin rfl) dX12_worthOf_8 ?_
      refine lv_topi (fun x_7 ex_7 => ?_)
      have rx_7 : (0 ≤ x_7.toInt ∧ x_7.toInt ≤ 8) := by rw [ex_7]; exact hf_f0 _
      replace ex_7 : x_7 = f0 0 := ex_7
      have tx_7 := congrArg Int32.toInt ex_7
      refine b_icmp_ge (pc := 9) (tgt := 59) hx hb rfl rfl  dX12_worthOf_9 (by decide) (fun c_8 => ?_) (fun c_8 => ?_)
      ·
        as_aux_lemma =>
          refine lv_iconst (pc := 59) (v := 0) hx hb dX12_worthOf_59 (by decide) ?_
          have hP9 : va_P D gcl (zS_60 cB cC cI cJ a0 a1 x1 x2 x3 x4 x5 x6 x7 x8 a2 a3 a4 a5 a6 a7 a8 a9 a10 a11 a12 a13 a14 a15 a16 x9 x10 x11 x12 x13 x14 a17 a18 a19 x15 a20 x16 a21 x17 x18 a22 a23 a24 a25 x19 a26 x_3 a27 a28 a29 y0 a30 a31 a32 a33 a34 a35 a36 a37 a38 x21 x22 x23 y1 a39 x24 a40 a41 a42 a43 x25 x26 x27 x28 a22 f0 a20 f1 a23 f2 a24 f3 a25 f4 a26 g_5 a18 f5) H := g_psub hP [0, 1, 2, 3, 4, 5, 6, 7] rfl
          have hD9 : va_D A (zS_60 cB cC cI cJ a0 a1 x1 x2 x3 x4 x5 x6 x7 x8 a2 a3 a4 a5 a6 a7 a8 a9 a10 a11 a12 a13 a14 a15 a16 x9 x10 x11 x12 x13 x14 a17 a18 a19 x15 a20 x16 a21 x17 x18 a22 a23 a24 a25 x19 a26 x_3 a27 a28 a29 y0 a30 a31 a32 a33 a34 a35 a36 a37 a38 x21 x22 x23 y1 a39 x24 a40 a41 a42 a43 x25 x26 x27 x28 a22 f0 a20 f1 a23 f2 a24 f3 a25 f4 a26 g_5 a18 f5) := hD.sub [0, 1, 2, 3, 4, 5, 6, 7] (by decide) rfl
          exact hret 0 ((fun _ => 0), (fun _ => (fun _ => 0)), (fun k => [g_5].getD k (fun _ => 0)), (fun k => [x_3].getD k 0), (fun _ => 0)) dX12_worthOf_60 (show (0 ≤ (x_3 : Int32).toInt ∧ (x_3 : Int32).toInt ≤ 1700) from hi_4) hP9 hD9 hS
      ·
        as_aux_lemma =>
          refine lv_aload_n (pc := 12) hx hb dX12_worthOf_12 rfl (lv_at hl 1 rfl) ?_
          refine lv_aload_n (pc := 13) hx hb dX12_worthOf_13 rfl (lv_at hl 1 rfl) ?_
          refine va_get (pc := 14) (ci := 12) (v := .ref a24) (C := RX12) (T := TX12) (N := 73) hx hb hts iX12 hown hK hP 0 rfl rfl 41 (by decide) (hts _ tw_1442) (fun _ h9 => h9) rfl dX12_worthOf_14 ?_
          refine lv_iload_n (pc := 17) hx hb dX12_worthOf_17 rfl (lv_at hl 0 rfl) ?_
          refine va_iald (pc := 18) hx hb hK hP 4 2 rfl rfl (n_in rfl (by first | exact (om_0 hi_2.1) | ((first | omega | (unfold zBd at *; omega)))) (by first | exact (om_1864 c_8 rx_7.2) | ((first | omega | (unfold zBd at *; omega))))) dX12_worthOf_18 ?_
          refine lv_topi (fun x_9 ex_9 => ?_)
          have rx_9 : (0 ≤ x_9.toInt ∧ x_9.toInt ≤ 1600) := by rw [ex_9]; exact hf_f3 _
          replace ex_9 : x_9 = f3 (x_1.toInt).toNat := ex_9
          have tx_9 := congrArg Int32.toInt ex_9
          refine lv_aload_n (pc := 19) hx hb dX12_worthOf_19 rfl (lv_at hl 1 rfl) ?_
          refine va_get (pc := 20) (ci := 12) (v := .ref a25) (C := RX12) (T := TX12) (N := 73) hx hb hts iX12 hown hK hP 0 rfl rfl 42 (by decide) (hts _ tw_1443) (fun _ h9 => h9) rfl dX12_worthOf_20 ?_
          refine lv_iload_n (pc := 23) hx hb dX12_worthOf_23 rfl (lv_at hl 0 rfl) ?_
          refine va_iald (pc := 24) hx hb hK hP 5 2 rfl rfl (n_in rfl (by first | exact (om_0 hi_2.1) | ((first | omega | (unfold zBd at *; omega)))) (by first | exact (om_1864 c_8 rx_7.2) | ((first | omega | (unfold zBd at *; omega))))) dX12_worthOf_24 ?_
          as_aux_lemma =>
            refine lv_topi (fun x_10 ex_10 => ?_)
            have rx_10 : (0 ≤ x_10.toInt ∧ x_10.toInt ≤ 1600) := by rw [ex_10]; exact hf_f4 _
            replace ex_10 : x_10 = f4 (x_1.toInt).toNat := ex_10
            have tx_10 := congrArg Int32.toInt ex_10
            refine lv_iload_n (pc := 25) hx hb dX12_worthOf_25 rfl (lv_at hl 2 rfl) ?_
            refine gd_l (pc := 26) (wc := (zS_59 cB cC cI cJ a0 a1 x1 x2 x3 x4 x5 x6 x7 x8 a2 a3 a4 a5 a6 a7 a8 a9 a10 a11 a12 a13 a14 a15 a16 x9 x10 x11 x12 x13 x14 a17 a18 a19 x15 a20 x16 a21 x17 x18 a22 a23 a24 a25 x19 a26 x_3 a27 a28 a29 y0 a30 a31 a32 a33 a34 a35 a36 a37 a38 x21 x22 x23 y1 a39 x24 a40 a41 a42 a43 x25 x26 x27 x28 a20 f1 a26 g_5 a18 f5)) hP hD hS hA [0, 2, 6, 7] rfl (by decide +kernel) (fun _ => by rfl) (fun hPc hDc => va_runV (As := [.int x_9, .int x_10, .int x0]) (rest := []) ⟨hx, hb, hml, hown, hts⟩ (k_X12_told l D cB cC cI cJ _ a0 a1 a2 a3 a4 a5 a6 a7 a8 a9 a10 a11 a12 a13 a14 a15 a16 a17 a18 a19 a20 a21 a22 a23 a24 a25 a26 a27 a28 a29 a30 a31 a32 a33 a34 a35 a36 a37 a38 a39 a40 a41 a42 a43 x_9 x_10 x0 x1 x2 x3 x4 x5 x6 x7 x8 x9 x10 x11 x12 x13 x14 x15 x16 x17 x18 x19 x_3 x21 x22 x23 x24 x25 x26 x27 x28 y0 y1 f1 f5 g_5 rx_9 rx_10 hp1 h_x1 h_x2 h_x3 h_x4 h_x5 h_x6 h_x9 h_x10 h_x11 h_x12 h_x13 h_x15 h_x16 h_x17 h_x19 hi_4 h_x21 h_x22 h_x23 h_x24 h_x25 h_x26 h_x27 h_x28 hr_a0_0 hr_a0_1 hr_a0_2 (RI_sg2 hg_RI (by (first | omega | (unfold zBd at *; omega))) (by (first | omega | (unfold zBd at *; omega))) (e_ld ex_9 rfl) (e_ld ex_10 rfl)) hf_f5) ⟨gcwB hts tw_2052 tw_14 tw_2049 hd_yX12_told ⟨Nat.le_of_ble_eq_true rfl, Nat.le_of_ble_eq_true rfl⟩, hts _ tw_2051, hts _ tp_118⟩ ⟨gblind, va_recv hK hPc (ci := 12) (q0 := 0) rfl rfl, (gpreS hPc hK hDc hN).2⟩ rfl rfl hl.1 rfl (lv_room (Nat.le_of_ble_eq_true rfl)) dX12_worthOf_26 ⟨Nat.le_of_ble_eq_true rfl, Nat.le_of_ble_eq_true rfl⟩) (fun r_12 u_11 H locs hw_13 hP hD hS => ?_)
            replace hP : va_P D gcl (zS_60 cB cC cI cJ a0 a1 x1 x2 x3 x4 x5 x6 x7 x8 a2 a3 a4 a5 a6 a7 a8 a9 a10 a11 a12 a13 a14 a15 a16 x9 x10 x11 x12 x13 x14 a17 a18 a19 x15 a20 x16 a21 x17 x18 a22 a23 a24 a25 x19 a26 (u_11.2.2.2.1 0) a27 a28 a29 y0 a30 a31 a32 a33 a34 a35 a36 a37 a38 x21 x22 x23 y1 a39 x24 a40 a41 a42 a43 x25 x26 x27 x28 a22 f0 a20 f1 a23 f2 a24 f3 a25 f4 a26 (u_11.2.2.1 0) a18 f5) H := hP
            replace hD : va_D A (zS_60 cB cC cI cJ a0 a1 x1 x2 x3 x4 x5 x6 x7 x8 a2 a3 a4 a5 a6 a7 a8 a9 a10 a11 a12 a13 a14 a15 a16 x9 x10 x11 x12 x13 x14 a17 a18 a19 x15 a20 x16 a21 x17 x18 a22 a23 a24 a25 x19 a26 (u_11.2.2.2.1 0) a27 a28 a29 y0 a30 a31 a32 a33 a34 a35 a36 a37 a38 x21 x22 x23 y1 a39 x24 a40 a41 a42 a43 x25 x26 x27 x28 a22 f0 a20 f1 a23 f2 a24 f3 a25 f4 a26 (u_11.2.2.1 0) a18 f5) := hD
            have hw_14 : (0 ≤ (u_11.2.2.2.1 0).toInt ∧ (u_11.2.2.2.1 0).toInt ≤ 1700) := hw_13
            have rr_12 := n_rngL r_12
            refine lv_lconst (pc := 29) (v := 1) hx hb dX12_worthOf_29 (by decide) ?_
            refine b_lcmp_ne (pc := 30) (tgt := 53) hx hb rfl tL_1 dX12_worthOf_30 dX12_worthOf_31 (by decide) (fun c_15 => ?_) (fun c_15 => ?_)
            ·
              as_aux_lemma =>
                refine b_iinc (pc := 53) hx hb dX12_worthOf_53 hl (k := 0) rfl rfl tI_1 (by first | exact (om_2 hi_2.1) | ((first | omega | (unfold zBd at *; omega)))) (by first | exact (om_1072 c_8 rx_7.2) | ((first | omega | (unfold zBd at *; omega)))) (by decide) (fun x_16 ex_16 ls hl => ?_)
                replace hl : lv_has ls 3 [(2, .int x_16), (0, .ref a0), (1, .int x0)] := hl
                refine lv_goto (pc := 56) (tgt := 2) hx hb dX12_worthOf_56 (by decide) ?_
                exact ih_lp_6 x_16 (u_11.2.2.2.1 0) (u_11.2.2.1 0) _ _ ls (by first | exact (om_1073 ex_16 hi_2.1 c_8 rx_7.2) | ((first | omega | (unfold zBd at *; omega)))) hw_14 (by (first | omega | (unfold zBd at *; omega))) hP hD hS (lv_sub hl [0, 1, 2] rfl)
            ·
              as_aux_lemma =>
                refine lv_aload_n (pc := 34) hx hb dX12_worthOf_34 rfl (lv_at hl 1 rfl) ?_
                refine lv_aload_n (pc := 35) hx hb dX12_worthOf_35 rfl (lv_at hl 1 rfl) ?_
                refine va_get (pc := 36) (ci := 12) (v := .ref a23) (C := RX12) (T := TX12) (N := 73) hx hb hts iX12 hown hK hP 0 rfl rfl 40 (by decide) (hts _ tw_1441) (fun _ h9 => h9) rfl dX12_worthOf_36 ?_
                refine lv_iload_n (pc := 39) hx hb dX12_worthOf_39 rfl (lv_at hl 0 rfl) ?_
                refine va_iald (pc := 40) hx hb hK hP 3 2 rfl rfl (n_in rfl (by first | exact (om_0 hi_2.1) | ((first | omega | (unfold zBd at *; omega)))) (by first | exact (om_1864 c_8 rx_7.2) | ((first | omega | (unfold zBd at *; omega))))) dX12_worthOf_40 ?_
                refine lv_topi (fun x_17 ex_17 => ?_)
                have rx_17 : (0 ≤ x_17.toInt ∧ x_17.toInt ≤ 1600) := by rw [ex_17]; exact hf_f2 _
                replace ex_17 : x_17 = f2 (x_1.toInt).toNat := ex_17
                have tx_17 := congrArg Int32.toInt ex_17
                refine lv_aload_n (pc := 41) hx hb dX12_worthOf_41 rfl (lv_at hl 1 rfl) ?_
                refine va_get (pc := 42) (ci := 12) (v := .ref a24) (C := RX12) (T := TX12) (N := 73) hx hb hts iX12 hown hK hP 0 rfl rfl 41 (by decide) (hts _ tw_1442) (fun _ h9 => h9) rfl dX12_worthOf_42 ?_
                refine lv_iload_n (pc := 45) hx hb dX12_worthOf_45 rfl (lv_at hl 0 rfl) ?_
                refine va_iald (pc := 46) hx hb hK hP 4 2 rfl rfl (n_in rfl (by first | exact (om_0 hi_2.1) | ((first | omega | (unfold zBd at *; omega)))) (by first | exact (om_1864 c_8 rx_7.2) | ((first | omega | (unfold zBd at *; omega))))) dX12_worthOf_46 ?_
                as_aux_lemma =>
                  refine gI (y := x_9) ex_9.symm ?_
                  refine lv_iload_n (pc := 47) hx hb dX12_worthOf_47 rfl (lv_at hl 2 rfl) ?_
                  refine gd_l (pc := 48) (wc := (zS_59 cB cC cI cJ a0 a1 x1 x2 x3 x4 x5 x6 x7 x8 a2 a3 a4 a5 a6 a7 a8 a9 a10 a11 a12 a13 a14 a15 a16 x9 x10 x11 x12 x13 x14 a17 a18 a19 x15 a20 x16 a21 x17 x18 a22 a23 a24 a25 x19 a26 (u_11.2.2.2.1 0) a27 a28 a29 y0 a30 a31 a32 a33 a34 a35 a36 a37 a38 x21 x22 x23 y1 a39 x24 a40 a41 a42 a43 x25 x26 x27 x28 a20 f1 a26 (u_11.2.2.1 0) a18 f5)) hP hD hS hA [0, 2, 6, 7] rfl (by decide +kernel) (fun _ => by rfl) (fun hPc hDc => va_runV (As := [.int x_17, .int x_9, .int x0]) (rest := []) ⟨hx, hb, hml, hown, hts⟩ (k_X12_told l D cB cC cI cJ _ a0 a1 a2 a3 a4 a5 a6 a7 a8 a9 a10 a11 a12 a13 a14 a15 a16 a17 a18 a19 a20 a21 a22 a23 a24 a25 a26 a27 a28 a29 a30 a31 a32 a33 a34 a35 a36 a37 a38 a39 a40 a41 a42 a43 x_17 x_9 x0 x1 x2 x3 x4 x5 x6 x7 x8 x9 x10 x11 x12 x13 x14 x15 x16 x17 x18 x19 (u_11.2.2.2.1 0) x21 x22 x23 x24 x25 x26 x27 x28 y0 y1 f1 f5 (u_11.2.2.1 0) rx_17 rx_9 hp1 h_x1 h_x2 h_x3 h_x4 h_x5 h_x6 h_x9 h_x10 h_x11 h_x12 h_x13 h_x15 h_x16 h_x17 h_x19 hw_14 h_x21 h_x22 h_x23 h_x24 h_x25 h_x26 h_x27 h_x28 hr_a0_0 hr_a0_1 hr_a0_2 (RI_sg1 hg_RI (by (first | omega | (unfold zBd at *; omega))) (by (first | omega | (unfold zBd at *; omega))) (e_ld ex_17 rfl) (e_ld ex_9 rfl)) hf_f5) ⟨gcwB hts tw_2052 tw_14 tw_2049 hd_yX12_told ⟨Nat.le_of_ble_eq_true rfl, Nat.le_of_ble_eq_true rfl⟩, hts _ tw_2051, hts _ tp_118⟩ ⟨gblind, va_recv hK hPc (ci := 12) (q0 := 0) rfl rfl, (gpreS hPc hK hDc hN).2⟩ rfl rfl hl.1 rfl (lv_room (Nat.le_of_ble_eq_true rfl)) dX12_worthOf_48 ⟨Nat.le_of_ble_eq_true rfl, Nat.le_of_ble_eq_true rfl⟩) (fun r_19 u_18 H locs hw_20 hP hD hS => ?_)
                  replace hP : va_P D gcl (zS_60 cB cC cI cJ a0 a1 x1 x2 x3 x4 x5 x6 x7 x8 a2 a3 a4 a5 a6 a7 a8 a9 a10 a11 a12 a13 a14 a15 a16 x9 x10 x11 x12 x13 x14 a17 a18 a19 x15 a20 x16 a21 x17 x18 a22 a23 a24 a25 x19 a26 (u_18.2.2.2.1 0) a27 a28 a29 y0 a30 a31 a32 a33 a34 a35 a36 a37 a38 x21 x22 x23 y1 a39 x24 a40 a41 a42 a43 x25 x26 x27 x28 a22 f0 a20 f1 a23 f2 a24 f3 a25 f4 a26 (u_18.2.2.1 0) a18 f5) H := hP
                  replace hD : va_D A (zS_60 cB cC cI cJ a0 a1 x1 x2 x3 x4 x5 x6 x7 x8 a2 a3 a4 a5 a6 a7 a8 a9 a10 a11 a12 a13 a14 a15 a16 x9 x10 x11 x12 x13 x14 a17 a18 a19 x15 a20 x16 a21 x17 x18 a22 a23 a24 a25 x19 a26 (u_18.2.2.2.1 0) a27 a28 a29 y0 a30 a31 a32 a33 a34 a35 a36 a37 a38 x21 x22 x23 y1 a39 x24 a40 a41 a42 a43 x25 x26 x27 x28 a22 f0 a20 f1 a23 f2 a24 f3 a25 f4 a26 (u_18.2.2.1 0) a18 f5) := hD
                  have hw_21 : (0 ≤ (u_18.2.2.2.1 0).toInt ∧ (u_18.2.2.2.1 0).toInt ≤ 1700) := hw_20
                  have rr_19 := n_rngL r_19
                  refine lv_l2i (pc := 51) hx hb dX12_worthOf_51 rfl ?_
                  refine lv_topi (fun x_22 _ => ?_)
                  have rx_22 : zBd x_22.toInt (-2147483648) 2147483647 := n_rng x_22
                  have hP9 : va_P D gcl (zS_60 cB cC cI cJ a0 a1 x1 x2 x3 x4 x5 x6 x7 x8 a2 a3 a4 a5 a6 a7 a8 a9 a10 a11 a12 a13 a14 a15 a16 x9 x10 x11 x12 x13 x14 a17 a18 a19 x15 a20 x16 a21 x17 x18 a22 a23 a24 a25 x19 a26 (u_18.2.2.2.1 0) a27 a28 a29 y0 a30 a31 a32 a33 a34 a35 a36 a37 a38 x21 x22 x23 y1 a39 x24 a40 a41 a42 a43 x25 x26 x27 x28 a22 f0 a20 f1 a23 f2 a24 f3 a25 f4 a26 (u_18.2.2.1 0) a18 f5) H := g_psub hP [0, 1, 2, 3, 4, 5, 6, 7] rfl
                  have hD9 : va_D A (zS_60 cB cC cI cJ a0 a1 x1 x2 x3 x4 x5 x6 x7 x8 a2 a3 a4 a5 a6 a7 a8 a9 a10 a11 a12 a13 a14 a15 a16 x9 x10 x11 x12 x13 x14 a17 a18 a19 x15 a20 x16 a21 x17 x18 a22 a23 a24 a25 x19 a26 (u_18.2.2.2.1 0) a27 a28 a29 y0 a30 a31 a32 a33 a34 a35 a36 a37 a38 x21 x22 x23 y1 a39 x24 a40 a41 a42 a43 x25 x26 x27 x28 a22 f0 a20 f1 a23 f2 a24 f3 a25 f4 a26 (u_18.2.2.1 0) a18 f5) := hD.sub [0, 1, 2, 3, 4, 5, 6, 7] (by decide) rfl
                  exact hret x_22 ((fun _ => 0), (fun _ => (fun _ => 0)), (fun k => [(u_18.2.2.1 0)].getD k (fun _ => 0)), (fun k => [(u_18.2.2.2.1 0)].getD k 0), (fun _ => 0)) dX12_worthOf_52 (show (0 ≤ ((u_18.2.2.2.1 0) : Int32).toInt ∧ ((u_18.2.2.2.1 0) : Int32).toInt ≤ 1700) from hw_21) hP9 hD9 hS
  exact lp_6 _ 0 x20 g0 _ _ ls (n_c tI_0 (by decide)) h_x20 (Nat.lt_succ_self _) hP hD hS (lv_sub hl [0, 1, 2] rfl)
theorem om_1865 {a b : Int} (h0 : (a = (-1000000000))) : (((a = (-1000000000) ∧ b = b) ∨ (((-2147483648) ≤ a ∧ a ≤ 2147483647)))) := by omega
theorem om_1866 {a b c : Int} (h0 : ((-2147483648) ≤ a)) (h1 : (a ≤ 2147483647)) : (((a = (-1000000000) ∧ b = c) ∨ (((-2147483648) ≤ a ∧ a ≤ 2147483647)))) := by omega
set_option maxHeartbeats 4000000 in
set_option maxRecDepth 100000 in
theorem k_X12_worth (l : Launch) (D : va_G) (cB cC cI cJ : ClassId) (sz : Nat) (a0 a1 a2 a3 a4 a5 a6 a7 a8 a9 a10 a11 a12 a13 a14 a15 a16 a17 a18 a19 a20 a21 a22 a23 a24 a25 a26 a27 a28 a29 a30 a31 a32 a33 a34 a35 a36 a37 a38 a39 a40 a41 a42 a43 : Nat) (x0 x1 x2 x3 x4 x5 x6 x7 x8 x9 x10 x11 x12 x13 x14 x15 x16 x17 x18 x19 x20 x21 x22 x23 x24 x25 x26 x27 x28 : Int32) (y0 y1 : Int64) (f0 f1 f2 f3 f4 f5 : Nat → Int32) (g0 : Nat → Int64) (h_x1 : zBd x1.toInt 0 1600) (h_x2 : zBd x2.toInt 0 1600) (h_x3 : zBd x3.toInt 0 1600) (h_x4 : zBd x4.toInt (-1) 1600) (h_x5 : zBd x5.toInt 0 4) (h_x6 : zBd x6.toInt (-1) 1600) (h_x9 : zBd x9.toInt 0 8) (h_x10 : zBd x10.toInt 0 5) (h_x11 : zBd x11.toInt 0 6) (h_x12 : zBd x12.toInt 0 6) (h_x13 : zBd x13.toInt 0 16) (h_x15 : zBd x15.toInt 0 60) (h_x16 : zBd x16.toInt 0 1600) (h_x17 : zBd x17.toInt 0 1700) (h_x19 : zBd x19.toInt 0 1700) (h_x20 : zBd x20.toInt 0 1700) (h_x21 : zBd x21.toInt 0 200) (h_x22 : zBd x22.toInt 0 40) (h_x23 : zBd x23.toInt 0 40) (h_x24 : zBd x24.toInt 0 1) (h_x25 : zBd x25.toInt 0 14) (h_x26 : zBd x26.toInt 0 200) (h_x27 : zBd x27.toInt 0 40) (h_x28 : zBd x28.toInt 0 40) (hr_a0_0 : (x22.toInt ≤ x21.toInt)) (hr_a0_1 : (x21.toInt + x23.toInt ≤ 200)) (hr_a0_2 : (x10.toInt = 0 ∨ 2 ≤ x9.toInt)) (hf_f0 : (∀ j, 0 ≤ (f0 j).toInt ∧ (f0 j).toInt ≤ 8)) (hf_f2 : (∀ j, 0 ≤ (f2 j).toInt ∧ (f2 j).toInt ≤ 1600)) (hf_f3 : (∀ j, 0 ≤ (f3 j).toInt ∧ (f3 j).toInt ≤ 1600)) (hf_f4 : (∀ j, 0 ≤ (f4 j).toInt ∧ (f4 j).toInt ≤ 1600)) (hg_RI : RI 0 ((f0 0).toInt) f1 f2 f3 f4 1600) (hf_f5 : (∀ j, (-9999) ≤ (f5 j).toInt ∧ (f5 j).toInt ≤ 9999)) : Met l yX12_worth (.code yX12_worth cX12_worth 2 (some .int) :: lw_gd) ({ frames := 4, cells := 0, slots := 0, locals := 97 }) (gPre D [(cB, .byte), (cC, .char), (cI, .int), (cJ, .long)] [.ref a0, .int x0] (zS_60 cB cC cI cJ a0 a1 x1 x2 x3 x4 x5 x6 x7 x8 a2 a3 a4 a5 a6 a7 a8 a9 a10 a11 a12 a13 a14 a15 a16 x9 x10 x11 x12 x13 x14 a17 a18 a19 x15 a20 x16 a21 x17 x18 a22 a23 a24 a25 x19 a26 x20 a27 a28 a29 y0 a30 a31 a32 a33 a34 a35 a36 a37 a38 x21 x22 x23 y1 a39 x24 a40 a41 a42 a43 x25 x26 x27 x28 a22 f0 a20 f1 a23 f2 a24 f3 a25 f4 a26 g0 a18 f5) sz) (va_Qi (fun r u => ((r.toInt = (-1000000000) ∧ (u.2.2.2.1 0).toInt = x20.toInt) ∨ (((-2147483648) ≤ r.toInt ∧ r.toInt ≤ 2147483647))) ∧ (0 ≤ (u.2.2.2.1 0).toInt ∧ (u.2.2.2.1 0).toInt ≤ 1700)) (gB D (va_A (zS_60 cB cC cI cJ a0 a1 x1 x2 x3 x4 x5 x6 x7 x8 a2 a3 a4 a5 a6 a7 a8 a9 a10 a11 a12 a13 a14 a15 a16 x9 x10 x11 x12 x13 x14 a17 a18 a19 x15 a20 x16 a21 x17 x18 a22 a23 a24 a25 x19 a26 x20 a27 a28 a29 y0 a30 a31 a32 a33 a34 a35 a36 a37 a38 x21 x22 x23 y1 a39 x24 a40 a41 a42 a43 x25 x26 x27 x28 a22 f0 a20 f1 a23 f2 a24 f3 a25 f4 a26 g0 a18 f5) sz) (fun u : gEx => (zS_60 cB cC cI cJ a0 a1 x1 x2 x3 x4 x5 x6 x7 x8 a2 a3 a4 a5 a6 a7 a8 a9 a10 a11 a12 a13 a14 a15 a16 x9 x10 x11 x12 x13 x14 a17 a18 a19 x15 a20 x16 a21 x17 x18 a22 a23 a24 a25 x19 a26 (u.2.2.2.1 0) a27 a28 a29 y0 a30 a31 a32 a33 a34 a35 a36 a37 a38 x21 x22 x23 y1 a39 x24 a40 a41 a42 a43 x25 x26 x27 x28 a22 f0 a20 f1 a23 f2 a24 f3 a25 f4 a26 (u.2.2.1 0) a18 f5))) (va_A (zS_60 cB cC cI cJ a0 a1 x1 x2 x3 x4 x5 x6 x7 x8 a2 a3 a4 a5 a6 a7 a8 a9 a10 a11 a12 a13 a14 a15 a16 x9 x10 x11 x12 x13 x14 a17 a18 a19 x15 a20 x16 a21 x17 x18 a22 a23 a24 a25 x19 a26 x20 a27 a28 a29 y0 a30 a31 a32 a33 a34 a35 a36 a37 a38 x21 x22 x23 y1 a39 x24 a40 a41 a42 a43 x25 x26 x27 x28 a22 f0 a20 f1 a23 f2 a24 f3 a25 f4 a26 g0 a18 f5) sz)) 0 0 (va_A (zS_60 cB cC cI cJ a0 a1 x1 x2 x3 x4 x5 x6 x7 x8 a2 a3 a4 a5 a6 a7 a8 a9 a10 a11 a12 a13 a14 a15 a16 x9 x10 x11 x12 x13 x14 a17 a18 a19 x15 a20 x16 a21 x17 x18 a22 a23 a24 a25 x19 a26 x20 a27 a28 a29 y0 a30 a31 a32 a33 a34 a35 a36 a37 a38 x21 x22 x23 y1 a39 x24 a40 a41 a42 a43 x25 x26 x27 x28 a22 f0 a20 f1 a23 f2 a24 f3 a25 f4 a26 g0 a18 f5) sz) := by
  refine gOf_i (by decide +kernel) (Nat.le_of_ble_eq_true rfl) ?_
  intro p e s m args below meth c ls A Q hx hb hts hown hml hN hK hP hD hA hl hret
  replace hown : s.vm.findClass RX12 = some m.cls := hown
  have hS : va_S A s.heap s.heap [] := va_S.rf
  replace hP : va_P D gcl (zS_60 cB cC cI cJ a0 a1 x1 x2 x3 x4 x5 x6 x7 x8 a2 a3 a4 a5 a6 a7 a8 a9 a10 a11 a12 a13 a14 a15 a16 x9 x10 x11 x12 x13 x14 a17 a18 a19 x15 a20 x16 a21 x17 x18 a22 a23 a24 a25 x19 a26 x20 a27 a28 a29 y0 a30 a31 a32 a33 a34 a35 a36 a37 a38 x21 x22 x23 y1 a39 x24 a40 a41 a42 a43 x25 x26 x27 x28 a22 f0 a20 f1 a23 f2 a24 f3 a25 f4 a26 g0 a18 f5) s.heap := hP
  replace hl : lv_has ls 2 [(0, .ref a0), (1, .int x0)] := hl
  have rx0 : zBd x0.toInt (-2147483648) 2147483647 := n_rng x0
  have rx7 : zBd x7.toInt (-2147483648) 2147483647 := n_rng x7
  have rx8 : zBd x8.toInt (-2147483648) 2147483647 := n_rng x8
  have rx14 : zBd x14.toInt (-2147483648) 2147483647 := n_rng x14
  have rx18 : zBd x18.toInt (-2147483648) 2147483647 := n_rng x18
  have ry0 := n_rngL y0
  have ry1 := n_rngL y1
  refine lv_aload_n (pc := 0) hx hb dX12_worth_0 rfl (lv_at hl 0 rfl) ?_
  refine lv_iload_n (pc := 1) hx hb dX12_worth_1 rfl (lv_at hl 1 rfl) ?_
  refine gd_i (pc := 2) (wc := (zS_4 cB cC cI cJ a0 a1 x1 x2 x3 x4 x5 x6 x7 x8 a2 a3 a4 a5 a6 a7 a8 a9 a10 a11 a12 a13 a14 a15 a16 x9 x10 x11 x12 x13 x14 a17 a18 a19 x15 a20 x16 a21 x17 x18 a22 a23 a24 a25 x19 a26 x20 a27 a28 a29 y0 a30 a31 a32 a33 a34 a35 a36 a37 a38 x21 x22 x23 y1 a39 x24 a40 a41 a42 a43 x25 x26 x27 x28)) hP hD hS hA [0] rfl (by decide +kernel) (fun _ => by rfl) (fun hPc hDc => va_runV (As := [.int x0]) (rest := []) ⟨hx, hb, hml, hown, hts⟩ (k_X12_isSender l D cB cC cI cJ _ a0 a1 a2 a3 a4 a5 a6 a7 a8 a9 a10 a11 a12 a13 a14 a15 a16 a17 a18 a19 a20 a21 a22 a23 a24 a25 a26 a27 a28 a29 a30 a31 a32 a33 a34 a35 a36 a37 a38 a39 a40 a41 a42 a43 x0 x1 x2 x3 x4 x5 x6 x7 x8 x9 x10 x11 x12 x13 x14 x15 x16 x17 x18 x19 x20 x21 x22 x23 x24 x25 x26 x27 x28 y0 y1 h_x1 h_x2 h_x3 h_x4 h_x5 h_x6 h_x9 h_x10 h_x11 h_x12 h_x13 h_x15 h_x16 h_x17 h_x19 h_x20 h_x21 h_x22 h_x23 h_x24 h_x25 h_x26 h_x27 h_x28 hr_a0_0 hr_a0_1 hr_a0_2) ⟨gcwB hts tw_1782 tw_14 tw_1779 hd_yX12_isSender ⟨Nat.le_of_ble_eq_true rfl, Nat.le_of_ble_eq_true rfl⟩, hts _ tw_1781, hts _ tp_90⟩ ⟨gblind, va_recv hK hPc (ci := 12) (q0 := 0) rfl rfl, (gpreS hPc hK hDc hN).2⟩ rfl rfl hl.1 rfl (lv_room (Nat.le_of_ble_eq_true rfl)) dX12_worth_2 ⟨Nat.le_of_ble_eq_true rfl, Nat.le_of_ble_eq_true rfl⟩) (fun r_2 u_1 H locs hw_3 hP hD hS => ?_)
  replace hP : va_P D gcl (zS_60 cB cC cI cJ a0 a1 x1 x2 x3 x4 x5 x6 x7 x8 a2 a3 a4 a5 a6 a7 a8 a9 a10 a11 a12 a13 a14 a15 a16 x9 x10 x11 x12 x13 x14 a17 a18 a19 x15 a20 x16 a21 x17 x18 a22 a23 a24 a25 x19 a26 x20 a27 a28 a29 y0 a30 a31 a32 a33 a34 a35 a36 a37 a38 x21 x22 x23 y1 a39 x24 a40 a41 a42 a43 x25 x26 x27 x28 a22 f0 a20 f1 a23 f2 a24 f3 a25 f4 a26 g0 a18 f5) H := hP
  replace hD : va_D A (zS_60 cB cC cI cJ a0 a1 x1 x2 x3 x4 x5 x6 x7 x8 a2 a3 a4 a5 a6 a7 a8 a9 a10 a11 a12 a13 a14 a15 a16 x9 x10 x11 x12 x13 x14 a17 a18 a19 x15 a20 x16 a21 x17 x18 a22 a23 a24 a25 x19 a26 x20 a27 a28 a29 y0 a30 a31 a32 a33 a34 a35 a36 a37 a38 x21 x22 x23 y1 a39 x24 a40 a41 a42 a43 x25 x26 x27 x28 a22 f0 a20 f1 a23 f2 a24 f3 a25 f4 a26 g0 a18 f5) := hD
  obtain ⟨hw_4, hw_5, hw_6⟩ := hw_3
  replace hw_4 : (0 ≤ r_2.toInt ∧ r_2.toInt ≤ 1) := hw_4
  replace hw_5 : (-x0.toInt ≤ 4294967296 - 4294967296 * r_2.toInt ∧ x0.toInt ≤ x10.toInt - 1 + 4294967296 - 4294967296 * r_2.toInt) := hw_5
  replace hw_6 : (inQ r_2.toInt x0.toInt x10.toInt) := hw_6
  have rr_2 : zBd r_2.toInt (-2147483648) 2147483647 := n_rng r_2
  refine b_if_eq (pc := 5) (tgt := 16) hx hb rfl  dX12_worth_5 (by decide) (fun c_7 => ?_) (fun c_7 => ?_)
  ·
    as_aux_lemma =>
      refine lv_ldcw (pc := 16) hx hb hown (hts _ tw_1783) dX12_worth_16 ?_
      have hP9 : va_P D gcl (zS_60 cB cC cI cJ a0 a1 x1 x2 x3 x4 x5 x6 x7 x8 a2 a3 a4 a5 a6 a7 a8 a9 a10 a11 a12 a13 a14 a15 a16 x9 x10 x11 x12 x13 x14 a17 a18 a19 x15 a20 x16 a21 x17 x18 a22 a23 a24 a25 x19 a26 x20 a27 a28 a29 y0 a30 a31 a32 a33 a34 a35 a36 a37 a38 x21 x22 x23 y1 a39 x24 a40 a41 a42 a43 x25 x26 x27 x28 a22 f0 a20 f1 a23 f2 a24 f3 a25 f4 a26 g0 a18 f5) H := g_psub hP [0, 1, 2, 3, 4, 5, 6, 7] rfl
      have hD9 : va_D A (zS_60 cB cC cI cJ a0 a1 x1 x2 x3 x4 x5 x6 x7 x8 a2 a3 a4 a5 a6 a7 a8 a9 a10 a11 a12 a13 a14 a15 a16 x9 x10 x11 x12 x13 x14 a17 a18 a19 x15 a20 x16 a21 x17 x18 a22 a23 a24 a25 x19 a26 x20 a27 a28 a29 y0 a30 a31 a32 a33 a34 a35 a36 a37 a38 x21 x22 x23 y1 a39 x24 a40 a41 a42 a43 x25 x26 x27 x28 a22 f0 a20 f1 a23 f2 a24 f3 a25 f4 a26 g0 a18 f5) := hD.sub [0, 1, 2, 3, 4, 5, 6, 7] (by decide) rfl
      exact hret (-1000000000) ((fun _ => 0), (fun _ => (fun _ => 0)), (fun k => [g0].getD k (fun _ => 0)), (fun k => [x20].getD k 0), (fun _ => 0)) dX12_worth_19 ⟨(show ((((-1000000000) : Int32).toInt = (-1000000000) ∧ (x20 : Int32).toInt = x20.toInt) ∨ (((-2147483648) ≤ ((-1000000000) : Int32).toInt ∧ ((-1000000000) : Int32).toInt ≤ 2147483647))) from (by first | exact (om_1865 tI_m1000000000) | (have k9 := tI_m1000000000; (first | omega | (unfold zBd at *; omega))))), (show (0 ≤ (x20 : Int32).toInt ∧ (x20 : Int32).toInt ≤ 1700) from h_x20)⟩ hP9 hD9 hS
  ·
    as_aux_lemma =>
      refine lv_aload_n (pc := 8) hx hb dX12_worth_8 rfl (lv_at hl 0 rfl) ?_
      refine lv_iload_n (pc := 9) hx hb dX12_worth_9 rfl (lv_at hl 1 rfl) ?_
      refine gd_i (pc := 10) (wc := (zS_60 cB cC cI cJ a0 a1 x1 x2 x3 x4 x5 x6 x7 x8 a2 a3 a4 a5 a6 a7 a8 a9 a10 a11 a12 a13 a14 a15 a16 x9 x10 x11 x12 x13 x14 a17 a18 a19 x15 a20 x16 a21 x17 x18 a22 a23 a24 a25 x19 a26 x20 a27 a28 a29 y0 a30 a31 a32 a33 a34 a35 a36 a37 a38 x21 x22 x23 y1 a39 x24 a40 a41 a42 a43 x25 x26 x27 x28 a22 f0 a20 f1 a23 f2 a24 f3 a25 f4 a26 g0 a18 f5)) hP hD hS hA [0, 1, 2, 3, 4, 5, 6, 7] rfl (by decide +kernel) (fun _ => by rfl) (fun hPc hDc => va_runV (As := [.int x0]) (rest := []) ⟨hx, hb, hml, hown, hts⟩ (k_X12_worthOf l D cB cC cI cJ _ a0 a1 a2 a3 a4 a5 a6 a7 a8 a9 a10 a11 a12 a13 a14 a15 a16 a17 a18 a19 a20 a21 a22 a23 a24 a25 a26 a27 a28 a29 a30 a31 a32 a33 a34 a35 a36 a37 a38 a39 a40 a41 a42 a43 x0 x1 x2 x3 x4 x5 x6 x7 x8 x9 x10 x11 x12 x13 x14 x15 x16 x17 x18 x19 x20 x21 x22 x23 x24 x25 x26 x27 x28 y0 y1 f0 f1 f2 f3 f4 f5 g0 (by first | exact (om_1534 c_7 hw_4.1 hw_5.1 hw_5.2 h_x10.2) | ((first | omega | (unfold zBd at *; omega)))) h_x1 h_x2 h_x3 h_x4 h_x5 h_x6 h_x9 h_x10 h_x11 h_x12 h_x13 h_x15 h_x16 h_x17 h_x19 h_x20 h_x21 h_x22 h_x23 h_x24 h_x25 h_x26 h_x27 h_x28 hr_a0_0 hr_a0_1 hr_a0_2 hf_f0 hf_f2 hf_f3 hf_f4 (hg_RI) hf_f5) ⟨gcwB hts tw_2048 tw_14 tw_2045 hd_yX12_worthOf ⟨Nat.le_of_ble_eq_true rfl, Nat.le_of_ble_eq_true rfl⟩, hts _ tw_2047, hts _ tp_117⟩ ⟨gblind, va_recv hK hPc (ci := 12) (q0 := 0) rfl rfl, (gpreS hPc hK hDc hN).2⟩ rfl rfl hl.1 rfl (lv_room (Nat.le_of_ble_eq_true rfl)) dX12_worth_10 ⟨Nat.le_of_ble_eq_true rfl, Nat.le_of_ble_eq_true rfl⟩) (fun r_9 u_8 H locs hw_10 hP hD hS => ?_)
      replace hP : va_P D gcl (zS_60 cB cC cI cJ a0 a1 x1 x2 x3 x4 x5 x6 x7 x8 a2 a3 a4 a5 a6 a7 a8 a9 a10 a11 a12 a13 a14 a15 a16 x9 x10 x11 x12 x13 x14 a17 a18 a19 x15 a20 x16 a21 x17 x18 a22 a23 a24 a25 x19 a26 (u_8.2.2.2.1 0) a27 a28 a29 y0 a30 a31 a32 a33 a34 a35 a36 a37 a38 x21 x22 x23 y1 a39 x24 a40 a41 a42 a43 x25 x26 x27 x28 a22 f0 a20 f1 a23 f2 a24 f3 a25 f4 a26 (u_8.2.2.1 0) a18 f5) H := hP
      replace hD : va_D A (zS_60 cB cC cI cJ a0 a1 x1 x2 x3 x4 x5 x6 x7 x8 a2 a3 a4 a5 a6 a7 a8 a9 a10 a11 a12 a13 a14 a15 a16 x9 x10 x11 x12 x13 x14 a17 a18 a19 x15 a20 x16 a21 x17 x18 a22 a23 a24 a25 x19 a26 (u_8.2.2.2.1 0) a27 a28 a29 y0 a30 a31 a32 a33 a34 a35 a36 a37 a38 x21 x22 x23 y1 a39 x24 a40 a41 a42 a43 x25 x26 x27 x28 a22 f0 a20 f1 a23 f2 a24 f3 a25 f4 a26 (u_8.2.2.1 0) a18 f5) := hD
      have hw_11 : (0 ≤ (u_8.2.2.2.1 0).toInt ∧ (u_8.2.2.2.1 0).toInt ≤ 1700) := hw_10
      have rr_9 : zBd r_9.toInt (-2147483648) 2147483647 := n_rng r_9
      refine lv_goto (pc := 13) (tgt := 19) hx hb dX12_worth_13 (by decide) ?_
      have hP9 : va_P D gcl (zS_60 cB cC cI cJ a0 a1 x1 x2 x3 x4 x5 x6 x7 x8 a2 a3 a4 a5 a6 a7 a8 a9 a10 a11 a12 a13 a14 a15 a16 x9 x10 x11 x12 x13 x14 a17 a18 a19 x15 a20 x16 a21 x17 x18 a22 a23 a24 a25 x19 a26 (u_8.2.2.2.1 0) a27 a28 a29 y0 a30 a31 a32 a33 a34 a35 a36 a37 a38 x21 x22 x23 y1 a39 x24 a40 a41 a42 a43 x25 x26 x27 x28 a22 f0 a20 f1 a23 f2 a24 f3 a25 f4 a26 (u_8.2.2.1 0) a18 f5) H := g_psub hP [0, 1, 2, 3, 4, 5, 6, 7] rfl
      have hD9 : va_D A (zS_60 cB cC cI cJ a0 a1 x1 x2 x3 x4 x5 x6 x7 x8 a2 a3 a4 a5 a6 a7 a8 a9 a10 a11 a12 a13 a14 a15 a16 x9 x10 x11 x12 x13 x14 a17 a18 a19 x15 a20 x16 a21 x17 x18 a22 a23 a24 a25 x19 a26 (u_8.2.2.2.1 0) a27 a28 a29 y0 a30 a31 a32 a33 a34 a35 a36 a37 a38 x21 x22 x23 y1 a39 x24 a40 a41 a42 a43 x25 x26 x27 x28 a22 f0 a20 f1 a23 f2 a24 f3 a25 f4 a26 (u_8.2.2.1 0) a18 f5) := hD.sub [0, 1, 2, 3, 4, 5, 6, 7] (by decide) rfl
      exact hret r_9 ((fun _ => 0), (fun _ => (fun _ => 0)), (fun k => [(u_8.2.2.1 0)].getD k (fun _ => 0)), (fun k => [(u_8.2.2.2.1 0)].getD k 0), (fun _ => 0)) dX12_worth_19 ⟨(show ((r_9.toInt = (-1000000000) ∧ ((u_8.2.2.2.1 0) : Int32).toInt = x20.toInt) ∨ (((-2147483648) ≤ r_9.toInt ∧ r_9.toInt ≤ 2147483647))) from (by first | exact (om_1866 rr_9.1 rr_9.2) | ((first | omega | (unfold zBd at *; omega))))), (show (0 ≤ ((u_8.2.2.2.1 0) : Int32).toInt ∧ ((u_8.2.2.2.1 0) : Int32).toInt ≤ 1700) from hw_11)⟩ hP9 hD9 hS
theorem bit_dec {x y z : Int32} (ey : y = x - 1) (ez : z = x &&& y) (hx : ¬ x.toInt = 0) : z.toBitVec.toNat < x.toBitVec.toNat := by
  have h0 : ¬ x.toBitVec.toNat = 0 := by
    intro h
    have h1 : x.toBitVec = 0#32 := BitVec.eq_of_toNat_eq (by rw [h]; rfl)
    apply hx
    show x.toBitVec.toInt = 0
    rw [h1]
    decide
  have h2 : z.toBitVec.toNat ≤ y.toBitVec.toNat := by
    rw [ez, Int32.toBitVec_and, BitVec.toNat_and]
    exact Nat.and_le_right
  have h3 : y.toBitVec.toNat = x.toBitVec.toNat - 1 := by
    rw [ey, Int32.toBitVec_sub, BitVec.toNat_sub]
    have e1 : (1 : Int32).toBitVec.toNat = 1 := by decide
    have e2 := x.toBitVec.isLt
    rw [e1]
    (first | omega | (unfold zBd at *; omega))
  (first | omega | (unfold zBd at *; omega))
set_option maxHeartbeats 4000000 in
set_option maxRecDepth 100000 in
theorem k_X12_bits (l : Launch) (D : va_G) (cB cC cI cJ : ClassId) (sz : Nat) (x0 : Int32) : Met l yX12_bits (.code yX12_bits cX12_bits 3 (some .int) :: lw_gd) ({ frames := 0, cells := 0, slots := 0, locals := 0 }) (gPre D [(cB, .byte), (cC, .char), (cI, .int), (cJ, .long)] [.int x0] [] sz) (va_Qi (fun r u => True) (gB D (va_A [] sz) (fun u : gEx => [])) (va_A [] sz)) 0 0 (va_A [] sz) := by
  refine gOf_i (by decide +kernel) (Nat.le_of_ble_eq_true rfl) ?_
  intro p e s m args below meth c ls A Q hx hb hts hown hml hN hK hP hD hA hl hret
  replace hown : s.vm.findClass RX12 = some m.cls := hown
  have hS : va_S A s.heap s.heap [] := va_S.rf
  replace hP : va_P D gcl [] s.heap := hP
  replace hl : lv_has ls 3 [(0, .int x0)] := hl
  have rx0 : zBd x0.toInt (-2147483648) 2147483647 := n_rng x0
  refine lv_iconst (pc := 0) (v := 0) hx hb dX12_bits_0 (by decide) ?_
  refine lv_istore_n (pc := 1) (lv' := [(1, .int 0), (0, .int x0)]) hx hb dX12_bits_1 rfl hl (by decide) rfl (fun ls hl => ?_)
  refine lv_iload_n (pc := 2) hx hb dX12_bits_2 rfl (lv_at hl 1 rfl) ?_
  refine lv_istore_n (pc := 3) (lv' := [(2, .int x0), (1, .int 0), (0, .int x0)]) hx hb dX12_bits_3 rfl hl (by decide) rfl (fun ls hl => ?_)
  have lp_5 : ∀ (n : Nat) (x_1 x_3 : Int32) (H : Heap) (locs : List Loc) (ls : Array Slot), ((((x_1).toBitVec.toNat : Nat) : Int)).toNat < n → va_P D gcl [] H → va_D A [] → va_S A s.heap H locs → lv_has ls 3 [(2, .int x_1), (1, .int x_3), (0, .int x0)] → W p l e ({ frames := 0, cells := 0, slots := 0, locals := 0 }) s m args below meth c H locs 0 0 Q (F0 m 4 ls []) := by
    intro n
    induction n with
    | zero => intro x_1 x_3 H locs ls  hmu; exact absurd hmu (Nat.not_lt_zero _)
    | succ n ih_lp_5 =>
      intro x_1 x_3 H locs ls  hmu_lp_5 hP hD hS hl
      have hi_2 := n_rng x_1
      have hi_4 := n_rng x_3
      refine lv_iload_n (pc := 4) hx hb dX12_bits_4 rfl (lv_at hl 0 rfl) ?_
      refine b_if_eq (pc := 5) (tgt := 20) hx hb rfl  dX12_bits_5 (by decide) (fun c_6 => ?_) (fun c_6 => ?_)
      ·
        as_aux_lemma =>
          refine lv_iload_n (pc := 20) hx hb dX12_bits_20 rfl (lv_at hl 1 rfl) ?_
          exact hret x_3 ((fun _ => 0), (fun _ => (fun _ => 0)), (fun _ => (fun _ => 0)), (fun _ => 0), (fun _ => 0)) dX12_bits_21 trivial (g_psub (wc := []) hP [] rfl) (hD.sub (ws' := []) [] (by decide) rfl) hS
      ·
        as_aux_lemma =>
          refine b_iincE (pc := 8) hx hb dX12_bits_8 hl (k := 1) rfl (by decide) (fun x_7 ls ex_7 hl => ?_)
          have rx_7 : zBd x_7.toInt (-2147483648) 2147483647 := n_rng x_7
          replace hl : lv_has ls 3 [(1, .int x_7), (2, .int x_1), (0, .int x0)] := hl
          refine lv_iload_n (pc := 11) hx hb dX12_bits_11 rfl (lv_at hl 1 rfl) ?_
          refine lv_iload_n (pc := 12) hx hb dX12_bits_12 rfl (lv_at hl 1 rfl) ?_
          refine lv_iconst (pc := 13) (v := 1) hx hb dX12_bits_13 (by decide) ?_
          refine lv_isub (pc := 14) hx hb dX12_bits_14 ?_
          refine lv_topi (fun x_8 ex_8 => ?_)
          have rx_8 : zBd x_8.toInt (-2147483648) 2147483647 := n_rng x_8
          refine lv_iand (pc := 15) hx hb dX12_bits_15 ?_
          refine lv_topi (fun x_9 ex_9 => ?_)
          have rx_9 : zBd x_9.toInt (-2147483648) 2147483647 := n_rng x_9
          refine lv_istore_n (pc := 16) (lv' := [(2, .int x_9), (1, .int x_7), (0, .int x0)]) hx hb dX12_bits_16 rfl hl (by decide) rfl (fun ls hl => ?_)
          refine lv_goto (pc := 17) (tgt := 4) hx hb dX12_bits_17 (by decide) ?_
          exact ih_lp_5 x_9 x_7 _ _ ls  (by have q := bit_dec ex_8 ex_9 (by (first | omega | (unfold zBd at *; omega))); (first | omega | (unfold zBd at *; omega))) hP hD hS (lv_sub hl [0, 1, 2] rfl)
  exact lp_5 _ x0 0 _ _ ls  (Nat.lt_succ_self _) hP hD hS (lv_sub hl [0, 1, 2] rfl)
theorem om_1867 {a b c : Int} (h0 : (a = (-1))) : (((a = (-1) ∧ b = b) ∨ (((-2147483648) ≤ a ∧ a ≤ 2147483647) ∧ c ≥ 0) ∨ (a = (-1) ∧ c < 0 ∧ b = b))) := by omega
theorem om_1868 {a b c d : Int} (h0 : ((-2147483648) ≤ a)) (h1 : (d ≥ 0)) (h2 : (a ≤ 2147483647)) : (((a = (-1) ∧ b = c) ∨ (((-2147483648) ≤ a ∧ a ≤ 2147483647) ∧ d ≥ 0) ∨ (a = (-1) ∧ d < 0 ∧ b = c))) := by omega
set_option maxHeartbeats 4000000 in
set_option maxRecDepth 100000 in
theorem k_X12_chosen (l : Launch) (D : va_G) (cB cC cI cJ : ClassId) (sz : Nat) (a0 a1 a2 a3 a4 a5 a6 a7 a8 a9 a10 a11 a12 a13 a14 a15 a16 a17 a18 a19 a20 a21 a22 a23 a24 a25 a26 a27 a28 a29 a30 a31 a32 a33 a34 a35 a36 a37 a38 a39 a40 a41 a42 a43 : Nat) (x0 x1 x2 x3 x4 x5 x6 x7 x8 x9 x10 x11 x12 x13 x14 x15 x16 x17 x18 x19 x20 x21 x22 x23 x24 x25 x26 x27 x28 : Int32) (y0 y1 y2 : Int64) (f0 f1 f2 f3 f4 f5 f6 f7 f8 : Nat → Int32) (g0 : Nat → Int64) (h_x1 : zBd x1.toInt 0 1600) (h_x2 : zBd x2.toInt 0 1600) (h_x3 : zBd x3.toInt 0 1600) (h_x4 : zBd x4.toInt (-1) 1600) (h_x5 : zBd x5.toInt 0 4) (h_x6 : zBd x6.toInt (-1) 1600) (h_x9 : zBd x9.toInt 0 8) (h_x10 : zBd x10.toInt 0 5) (h_x11 : zBd x11.toInt 0 6) (h_x12 : zBd x12.toInt 0 6) (h_x13 : zBd x13.toInt 0 16) (h_x15 : zBd x15.toInt 0 60) (h_x16 : zBd x16.toInt 0 1600) (h_x17 : zBd x17.toInt 0 1700) (h_x19 : zBd x19.toInt 0 1700) (h_x20 : zBd x20.toInt 0 1700) (h_x21 : zBd x21.toInt 0 200) (h_x22 : zBd x22.toInt 0 40) (h_x23 : zBd x23.toInt 0 40) (h_x24 : zBd x24.toInt 0 1) (h_x25 : zBd x25.toInt 0 14) (h_x26 : zBd x26.toInt 0 200) (h_x27 : zBd x27.toInt 0 40) (h_x28 : zBd x28.toInt 0 40) (hr_a0_0 : (x22.toInt ≤ x21.toInt)) (hr_a0_1 : (x21.toInt + x23.toInt ≤ 200)) (hr_a0_2 : (x10.toInt = 0 ∨ 2 ≤ x9.toInt)) (hf_f0 : (∀ j, 0 ≤ (f0 j).toInt ∧ (f0 j).toInt ≤ 8)) (hf_f2 : (∀ j, 0 ≤ (f2 j).toInt ∧ (f2 j).toInt ≤ 1600)) (hf_f3 : (∀ j, 0 ≤ (f3 j).toInt ∧ (f3 j).toInt ≤ 1600)) (hf_f4 : (∀ j, 0 ≤ (f4 j).toInt ∧ (f4 j).toInt ≤ 1600)) (hg_RI : RI 0 ((f0 0).toInt) f1 f2 f3 f4 1600) (hf_f6 : (∀ j, (-9999) ≤ (f6 j).toInt ∧ (f6 j).toInt ≤ 9999)) (hf_f7 : (∀ j, (-1100000) ≤ (f7 j).toInt ∧ (f7 j).toInt ≤ 1100000)) : Met l yX12_chosen (.code yX12_chosen cX12_chosen 11 (some .int) :: lw_gd) ({ frames := 4, cells := 0, slots := 0, locals := 97 }) (gPre D [(cB, .byte), (cC, .char), (cI, .int), (cJ, .long)] [.ref a0, .int x0, .long y0] (zS_92 cB cC cI cJ a0 a1 x1 x2 x3 x4 x5 x6 x7 x8 a2 a3 a4 a5 a6 a7 a8 a9 a10 a11 a12 a13 a14 a15 a16 x9 x10 x11 x12 x13 x14 a17 a18 a19 x15 a20 x16 a21 x17 x18 a22 a23 a24 a25 x19 a26 x20 a27 a28 a29 y1 a30 a31 a32 a33 a34 a35 a36 a37 a38 x21 x22 x23 y2 a39 x24 a40 a41 a42 a43 x25 x26 x27 x28 a22 f0 a20 f1 a23 f2 a24 f3 a25 f4 a29 f5 a18 f6 a28 f7 a39 f8 a26 g0) sz) (va_Qi (fun r u => ((r.toInt = (-1) ∧ (u.2.2.2.1 0).toInt = x20.toInt) ∨ (((-2147483648) ≤ r.toInt ∧ r.toInt ≤ 2147483647) ∧ y0.toInt ≥ 0) ∨ (r.toInt = (-1) ∧ y0.toInt < 0 ∧ (u.2.2.2.1 0).toInt = x20.toInt)) ∧ (0 ≤ (u.2.2.2.1 0).toInt ∧ (u.2.2.2.1 0).toInt ≤ 1700)) (gB D (va_A (zS_92 cB cC cI cJ a0 a1 x1 x2 x3 x4 x5 x6 x7 x8 a2 a3 a4 a5 a6 a7 a8 a9 a10 a11 a12 a13 a14 a15 a16 x9 x10 x11 x12 x13 x14 a17 a18 a19 x15 a20 x16 a21 x17 x18 a22 a23 a24 a25 x19 a26 x20 a27 a28 a29 y1 a30 a31 a32 a33 a34 a35 a36 a37 a38 x21 x22 x23 y2 a39 x24 a40 a41 a42 a43 x25 x26 x27 x28 a22 f0 a20 f1 a23 f2 a24 f3 a25 f4 a29 f5 a18 f6 a28 f7 a39 f8 a26 g0) sz) (fun u : gEx => (zS_92 cB cC cI cJ a0 a1 x1 x2 x3 x4 x5 x6 x7 x8 a2 a3 a4 a5 a6 a7 a8 a9 a10 a11 a12 a13 a14 a15 a16 x9 x10 x11 x12 x13 x14 a17 a18 a19 x15 a20 x16 a21 x17 x18 a22 a23 a24 a25 x19 a26 (u.2.2.2.1 0) a27 a28 a29 y1 a30 a31 a32 a33 a34 a35 a36 a37 a38 x21 x22 x23 (u.2.2.2.2 0) a39 x24 a40 a41 a42 a43 x25 x26 x27 x28 a22 f0 a20 f1 a23 f2 a24 f3 a25 f4 a29 (u.2.1 0) a18 f6 a28 f7 a39 (u.2.1 1) a26 (u.2.2.1 0)))) (va_A (zS_92 cB cC cI cJ a0 a1 x1 x2 x3 x4 x5 x6 x7 x8 a2 a3 a4 a5 a6 a7 a8 a9 a10 a11 a12 a13 a14 a15 a16 x9 x10 x11 x12 x13 x14 a17 a18 a19 x15 a20 x16 a21 x17 x18 a22 a23 a24 a25 x19 a26 x20 a27 a28 a29 y1 a30 a31 a32 a33 a34 a35 a36 a37 a38 x21 x22 x23 y2 a39 x24 a40 a41 a42 a43 x25 x26 x27 x28 a22 f0 a20 f1 a23 f2 a24 f3 a25 f4 a29 f5 a18 f6 a28 f7 a39 f8 a26 g0) sz)) 0 0 (va_A (zS_92 cB cC cI cJ a0 a1 x1 x2 x3 x4 x5 x6 x7 x8 a2 a3 a4 a5 a6 a7 a8 a9 a10 a11 a12 a13 a14 a15 a16 x9 x10 x11 x12 x13 x14 a17 a18 a19 x15 a20 x16 a21 x17 x18 a22 a23 a24 a25 x19 a26 x20 a27 a28 a29 y1 a30 a31 a32 a33 a34 a35 a36 a37 a38 x21 x22 x23 y2 a39 x24 a40 a41 a42 a43 x25 x26 x27 x28 a22 f0 a20 f1 a23 f2 a24 f3 a25 f4 a29 f5 a18 f6 a28 f7 a39 f8 a26 g0) sz) := by
  refine gOf_i (by decide +kernel) (Nat.le_of_ble_eq_true rfl) ?_
  intro p e s m args below meth c ls A Q hx hb hts hown hml hN hK hP hD hA hl hret
  replace hown : s.vm.findClass RX12 = some m.cls := hown
  have hS : va_S A s.heap s.heap [] := va_S.rf
  replace hP : va_P D gcl (zS_92 cB cC cI cJ a0 a1 x1 x2 x3 x4 x5 x6 x7 x8 a2 a3 a4 a5 a6 a7 a8 a9 a10 a11 a12 a13 a14 a15 a16 x9 x10 x11 x12 x13 x14 a17 a18 a19 x15 a20 x16 a21 x17 x18 a22 a23 a24 a25 x19 a26 x20 a27 a28 a29 y1 a30 a31 a32 a33 a34 a35 a36 a37 a38 x21 x22 x23 y2 a39 x24 a40 a41 a42 a43 x25 x26 x27 x28 a22 f0 a20 f1 a23 f2 a24 f3 a25 f4 a29 f5 a18 f6 a28 f7 a39 f8 a26 g0) s.heap := hP
  replace hl : lv_has ls 11 [(0, .ref a0), (1, .int x0), (2, .long y0)] := hl
  have rx0 : zBd x0.toInt (-2147483648) 2147483647 := n_rng x0
  have ry0 := n_rngL y0
  have rx7 : zBd x7.toInt (-2147483648) 2147483647 := n_rng x7
  have rx8 : zBd x8.toInt (-2147483648) 2147483647 := n_rng x8
  have rx14 : zBd x14.toInt (-2147483648) 2147483647 := n_rng x14
  have rx18 : zBd x18.toInt (-2147483648) 2147483647 := n_rng x18
  have ry1 := n_rngL y1
  have ry2 := n_rngL y2
  refine lv_iload_n (pc := 0) hx hb dX12_chosen_0 rfl (lv_at hl 1 rfl) ?_
  refine b_i2l (pc := 1) hx hb rfl dX12_chosen_1 (fun y_1 ey_1 => ?_)
  have ry_1 : zBd x0.toInt (-2147483648) 2147483647 := n_rng x0
  refine lv_lconst (pc := 2) (v := 1) hx hb dX12_chosen_2 (by decide) ?_
  refine lv_ldc2 (pc := 3) hx hb hown (hts _ tw_2078) dX12_chosen_3 ?_
  refine gd_i (pc := 6) (wc := []) hP hD hS hA [] rfl (by decide +kernel) (fun _ => by rfl) (fun hPc hDc => va_runS (As := [.long y_1, .long 1, .long 5]) (rest := []) ⟨hx, hb, hml, hown, hts⟩ (k_X12_isIn l D cB cC cI cJ _ y_1 1 5) ⟨gcwB hts tw_1666 tw_14 tw_1664 hd_yX12_isIn ⟨Nat.le_of_ble_eq_true rfl, Nat.le_of_ble_eq_true rfl⟩, hts _ tw_1665⟩ (gpreS hPc hK hDc hN) rfl rfl hl.1 rfl (lv_room (Nat.le_of_ble_eq_true rfl)) dX12_chosen_6 ⟨Nat.le_of_ble_eq_true rfl, Nat.le_of_ble_eq_true rfl⟩) (fun r_3 u_2 H locs hw_4 hP hD hS => ?_)
  replace hP : va_P D gcl (zS_92 cB cC cI cJ a0 a1 x1 x2 x3 x4 x5 x6 x7 x8 a2 a3 a4 a5 a6 a7 a8 a9 a10 a11 a12 a13 a14 a15 a16 x9 x10 x11 x12 x13 x14 a17 a18 a19 x15 a20 x16 a21 x17 x18 a22 a23 a24 a25 x19 a26 x20 a27 a28 a29 y1 a30 a31 a32 a33 a34 a35 a36 a37 a38 x21 x22 x23 y2 a39 x24 a40 a41 a42 a43 x25 x26 x27 x28 a22 f0 a20 f1 a23 f2 a24 f3 a25 f4 a29 f5 a18 f6 a28 f7 a39 f8 a26 g0) H := hP
  replace hD : va_D A (zS_92 cB cC cI cJ a0 a1 x1 x2 x3 x4 x5 x6 x7 x8 a2 a3 a4 a5 a6 a7 a8 a9 a10 a11 a12 a13 a14 a15 a16 x9 x10 x11 x12 x13 x14 a17 a18 a19 x15 a20 x16 a21 x17 x18 a22 a23 a24 a25 x19 a26 x20 a27 a28 a29 y1 a30 a31 a32 a33 a34 a35 a36 a37 a38 x21 x22 x23 y2 a39 x24 a40 a41 a42 a43 x25 x26 x27 x28 a22 f0 a20 f1 a23 f2 a24 f3 a25 f4 a29 f5 a18 f6 a28 f7 a39 f8 a26 g0) := hD
  have hw_5 : ((r_3.toInt = 0 ∧ y_1.toInt < (1 : Int64).toInt) ∨ (r_3.toInt = 0 ∧ y_1.toInt ≥ (1 : Int64).toInt ∧ y_1.toInt > (5 : Int64).toInt) ∨ (r_3.toInt = 1 ∧ y_1.toInt ≥ (1 : Int64).toInt ∧ y_1.toInt ≤ (5 : Int64).toInt)) := hw_4
  have kk0_r_3 := tL_1
  have kk1_r_3 := tL_5
  have rr_3 : zBd r_3.toInt (-2147483648) 2147483647 := n_rng r_3
  refine b_if_eq (pc := 9) (tgt := 18) hx hb rfl  dX12_chosen_9 (by decide) (fun c_6 => ?_) (fun c_6 => ?_)
  ·
    as_aux_lemma =>
      refine lv_iconst (pc := 18) (v := (-1)) hx hb dX12_chosen_18 (by decide) ?_
      have hP9 : va_P D gcl (zS_92 cB cC cI cJ a0 a1 x1 x2 x3 x4 x5 x6 x7 x8 a2 a3 a4 a5 a6 a7 a8 a9 a10 a11 a12 a13 a14 a15 a16 x9 x10 x11 x12 x13 x14 a17 a18 a19 x15 a20 x16 a21 x17 x18 a22 a23 a24 a25 x19 a26 x20 a27 a28 a29 y1 a30 a31 a32 a33 a34 a35 a36 a37 a38 x21 x22 x23 y2 a39 x24 a40 a41 a42 a43 x25 x26 x27 x28 a22 f0 a20 f1 a23 f2 a24 f3 a25 f4 a29 f5 a18 f6 a28 f7 a39 f8 a26 g0) H := g_psub hP [0, 1, 2, 3, 4, 5, 6, 7, 8, 9, 10] rfl
      have hD9 : va_D A (zS_92 cB cC cI cJ a0 a1 x1 x2 x3 x4 x5 x6 x7 x8 a2 a3 a4 a5 a6 a7 a8 a9 a10 a11 a12 a13 a14 a15 a16 x9 x10 x11 x12 x13 x14 a17 a18 a19 x15 a20 x16 a21 x17 x18 a22 a23 a24 a25 x19 a26 x20 a27 a28 a29 y1 a30 a31 a32 a33 a34 a35 a36 a37 a38 x21 x22 x23 y2 a39 x24 a40 a41 a42 a43 x25 x26 x27 x28 a22 f0 a20 f1 a23 f2 a24 f3 a25 f4 a29 f5 a18 f6 a28 f7 a39 f8 a26 g0) := hD.sub [0, 1, 2, 3, 4, 5, 6, 7, 8, 9, 10] (by decide) rfl
      exact hret (-1) ((fun _ => 0), (fun k => [f5, f8].getD k (fun _ => 0)), (fun k => [g0].getD k (fun _ => 0)), (fun k => [x20].getD k 0), (fun k => [y2].getD k 0)) dX12_chosen_19 ⟨(show ((((-1) : Int32).toInt = (-1) ∧ (x20 : Int32).toInt = x20.toInt) ∨ (((-2147483648) ≤ ((-1) : Int32).toInt ∧ ((-1) : Int32).toInt ≤ 2147483647) ∧ y0.toInt ≥ 0) ∨ (((-1) : Int32).toInt = (-1) ∧ y0.toInt < 0 ∧ (x20 : Int32).toInt = x20.toInt)) from (by first | exact (om_1867 tI_m1) | (have k9 := tI_m1; (first | omega | (unfold zBd at *; omega))))), (show (0 ≤ (x20 : Int32).toInt ∧ (x20 : Int32).toInt ≤ 1700) from h_x20)⟩ hP9 hD9 hS
  ·
    as_aux_lemma =>
      refine lv_lload_n (pc := 12) hx hb dX12_chosen_12 rfl (lv_at hl 2 rfl) ?_
      refine lv_lconst (pc := 13) (v := 0) hx hb dX12_chosen_13 (by decide) ?_
      refine b_lcmp_ge (pc := 14) (tgt := 20) hx hb rfl tL_0 dX12_chosen_14 dX12_chosen_15 (by decide) (fun c_7 => ?_) (fun c_7 => ?_)
      ·
        as_aux_lemma =>
          refine lv_iconst (pc := 20) (v := (-1)) hx hb dX12_chosen_20 (by decide) ?_
          refine lv_istore (pc := 21) (lv' := [(4, .int (-1)), (0, .ref a0), (1, .int x0), (2, .long y0)]) hx hb dX12_chosen_21 hl (by decide) rfl (fun ls hl => ?_)
          refine lv_lconst (pc := 23) (v := 0) hx hb dX12_chosen_23 (by decide) ?_
          refine lv_lstore (pc := 24) (lv' := [(5, .long 0), (4, .int (-1)), (0, .ref a0), (1, .int x0), (2, .long y0)]) hx hb dX12_chosen_24 hl (by decide) rfl (fun ls hl => ?_)
          refine lv_iconst (pc := 26) (v := 1) hx hb dX12_chosen_26 (by decide) ?_
          refine lv_istore (pc := 27) (lv' := [(7, .int 1), (5, .long 0), (4, .int (-1)), (0, .ref a0), (1, .int x0), (2, .long y0)]) hx hb dX12_chosen_27 hl (by decide) rfl (fun ls hl => ?_)
          have lp_21 : ∀ (n : Nat) (x_8 x_12 x_14 : Int32) (y_10 y_16 : Int64) (f_18 f_19 : Nat → Int32) (g_20 : Nat → Int64) (H : Heap) (locs : List Loc) (ls : Array Slot), (1 ≤ x_8.toInt ∧ x_8.toInt ≤ 2147483647) → (0 ≤ x_14.toInt ∧ x_14.toInt ≤ 1700) → (2147483647 - x_8.toInt).toNat < n → va_P D gcl (zS_92 cB cC cI cJ a0 a1 x1 x2 x3 x4 x5 x6 x7 x8 a2 a3 a4 a5 a6 a7 a8 a9 a10 a11 a12 a13 a14 a15 a16 x9 x10 x11 x12 x13 x14 a17 a18 a19 x15 a20 x16 a21 x17 x18 a22 a23 a24 a25 x19 a26 x_14 a27 a28 a29 y1 a30 a31 a32 a33 a34 a35 a36 a37 a38 x21 x22 x23 y_16 a39 x24 a40 a41 a42 a43 x25 x26 x27 x28 a22 f0 a20 f1 a23 f2 a24 f3 a25 f4 a29 f_18 a18 f6 a28 f7 a39 f_19 a26 g_20) H → va_D A (zS_92 cB cC cI cJ a0 a1 x1 x2 x3 x4 x5 x6 x7 x8 a2 a3 a4 a5 a6 a7 a8 a9 a10 a11 a12 a13 a14 a15 a16 x9 x10 x11 x12 x13 x14 a17 a18 a19 x15 a20 x16 a21 x17 x18 a22 a23 a24 a25 x19 a26 x_14 a27 a28 a29 y1 a30 a31 a32 a33 a34 a35 a36 a37 a38 x21 x22 x23 y_16 a39 x24 a40 a41 a42 a43 x25 x26 x27 x28 a22 f0 a20 f1 a23 f2 a24 f3 a25 f4 a29 f_18 a18 f6 a28 f7 a39 f_19 a26 g_20) → va_S A s.heap H locs → lv_has ls 11 [(7, .int x_8), (5, .long y_10), (4, .int x_12), (0, .ref a0), (1, .int x0), (2, .long y0)] → W p l e ({ frames := 4, cells := 0, slots := 0, locals := 97 }) s m args below meth c H locs 0 0 Q (F0 m 29 ls []) := by
            intro n
            induction n with
            | zero => intro x_8 x_12 x_14 y_10 y_16 f_18 f_19 g_20 H locs ls hi_9 hi_15 hmu; exact absurd hmu (Nat.not_lt_zero _)
            | succ n ih_lp_21 =>
              intro x_8 x_12 x_14 y_10 y_16 f_18 f_19 g_20 H locs ls hi_9 hi_15 hmu_lp_21 hP hD hS hl
              have hi_11 := n_rngL y_10
              have hi_13 := n_rng x_12
              have hi_17 := n_rngL y_16
              refine lv_iload (pc := 29) hx hb dX12_chosen_29 (lv_at hl 0 rfl) ?_
              refine lv_iconst (pc := 31) (v := 1) hx hb dX12_chosen_31 (by decide) ?_
              refine lv_aload_n (pc := 32) hx hb dX12_chosen_32 rfl (lv_at hl 3 rfl) ?_
              refine va_get (pc := 33) (ci := 12) (v := .int x10) (C := RX12) (T := TX12) (N := 73) hx hb hts iX12 hown hK hP 0 rfl rfl 25 (by decide) (hts _ tw_1426) (fun _ h9 => h9) rfl dX12_chosen_33 ?_
              have bd_h_x10 : 0 ≤ x10.toInt ∧ x10.toInt ≤ 5 := h_x10
              refine b_shl1 (pc := 36) hx hb rfl (by first | exact (om_1750 h_x10.1) | ((first | omega | (unfold zBd at *; omega)))) (by first | exact (om_372 h_x10.2) | ((first | omega | (unfold zBd at *; omega)))) dX12_chosen_36 (fun x_22 ex_22 => ?_)
              have rx_22 : zBd x_22.toInt (-2147483648) 2147483647 := n_rng x_22
              refine b_icmp_ge (pc := 37) (tgt := 154) hx hb rfl rfl  dX12_chosen_37 (by decide) (fun c_23 => ?_) (fun c_23 => ?_)
              ·
                as_aux_lemma =>
                  refine lv_iload (pc := 154) hx hb dX12_chosen_154 (lv_at hl 2 rfl) ?_
                  have hP9 : va_P D gcl (zS_92 cB cC cI cJ a0 a1 x1 x2 x3 x4 x5 x6 x7 x8 a2 a3 a4 a5 a6 a7 a8 a9 a10 a11 a12 a13 a14 a15 a16 x9 x10 x11 x12 x13 x14 a17 a18 a19 x15 a20 x16 a21 x17 x18 a22 a23 a24 a25 x19 a26 x_14 a27 a28 a29 y1 a30 a31 a32 a33 a34 a35 a36 a37 a38 x21 x22 x23 y_16 a39 x24 a40 a41 a42 a43 x25 x26 x27 x28 a22 f0 a20 f1 a23 f2 a24 f3 a25 f4 a29 f_18 a18 f6 a28 f7 a39 f_19 a26 g_20) H := g_psub hP [0, 1, 2, 3, 4, 5, 6, 7, 8, 9, 10] rfl
                  have hD9 : va_D A (zS_92 cB cC cI cJ a0 a1 x1 x2 x3 x4 x5 x6 x7 x8 a2 a3 a4 a5 a6 a7 a8 a9 a10 a11 a12 a13 a14 a15 a16 x9 x10 x11 x12 x13 x14 a17 a18 a19 x15 a20 x16 a21 x17 x18 a22 a23 a24 a25 x19 a26 x_14 a27 a28 a29 y1 a30 a31 a32 a33 a34 a35 a36 a37 a38 x21 x22 x23 y_16 a39 x24 a40 a41 a42 a43 x25 x26 x27 x28 a22 f0 a20 f1 a23 f2 a24 f3 a25 f4 a29 f_18 a18 f6 a28 f7 a39 f_19 a26 g_20) := hD.sub [0, 1, 2, 3, 4, 5, 6, 7, 8, 9, 10] (by decide) rfl
                  exact hret x_12 ((fun _ => 0), (fun k => [f_18, f_19].getD k (fun _ => 0)), (fun k => [g_20].getD k (fun _ => 0)), (fun k => [x_14].getD k 0), (fun k => [y_16].getD k 0)) dX12_chosen_156 ⟨(show ((x_12.toInt = (-1) ∧ (x_14 : Int32).toInt = x20.toInt) ∨ (((-2147483648) ≤ x_12.toInt ∧ x_12.toInt ≤ 2147483647) ∧ y0.toInt ≥ 0) ∨ (x_12.toInt = (-1) ∧ y0.toInt < 0 ∧ (x_14 : Int32).toInt = x20.toInt)) from (by first | exact (om_1868 hi_13.1 c_7 hi_13.2) | ((first | omega | (unfold zBd at *; omega))))), (show (0 ≤ (x_14 : Int32).toInt ∧ (x_14 : Int32).toInt ≤ 1700) from hi_15)⟩ hP9 hD9 hS
              ·
                as_aux_lemma =>
                  refine lv_iload (pc := 40) hx hb dX12_chosen_40 (lv_at hl 0 rfl) ?_
                  refine gd_i (pc := 42) (wc := []) hP hD hS hA [] rfl (by decide +kernel) (fun _ => by rfl) (fun hPc hDc => va_runS (As := [.int x_8]) (rest := []) ⟨hx, hb, hml, hown, hts⟩ (k_X12_bits l D cB cC cI cJ _ x_8) ⟨gcwB hts tw_2081 tw_14 tw_2079 hd_yX12_bits ⟨Nat.le_of_ble_eq_true rfl, Nat.le_of_ble_eq_true rfl⟩, hts _ tw_2080⟩ (gpreS hPc hK hDc hN) rfl rfl hl.1 rfl (lv_room (Nat.le_of_ble_eq_true rfl)) dX12_chosen_42 ⟨Nat.le_of_ble_eq_true rfl, Nat.le_of_ble_eq_true rfl⟩) (fun r_25 u_24 H locs hw_26 hP hD hS => ?_)
                  replace hP : va_P D gcl (zS_92 cB cC cI cJ a0 a1 x1 x2 x3 x4 x5 x6 x7 x8 a2 a3 a4 a5 a6 a7 a8 a9 a10 a11 a12 a13 a14 a15 a16 x9 x10 x11 x12 x13 x14 a17 a18 a19 x15 a20 x16 a21 x17 x18 a22 a23 a24 a25 x19 a26 x_14 a27 a28 a29 y1 a30 a31 a32 a33 a34 a35 a36 a37 a38 x21 x22 x23 y_16 a39 x24 a40 a41 a42 a43 x25 x26 x27 x28 a22 f0 a20 f1 a23 f2 a24 f3 a25 f4 a29 f_18 a18 f6 a28 f7 a39 f_19 a26 g_20) H := hP
                  replace hD : va_D A (zS_92 cB cC cI cJ a0 a1 x1 x2 x3 x4 x5 x6 x7 x8 a2 a3 a4 a5 a6 a7 a8 a9 a10 a11 a12 a13 a14 a15 a16 x9 x10 x11 x12 x13 x14 a17 a18 a19 x15 a20 x16 a21 x17 x18 a22 a23 a24 a25 x19 a26 x_14 a27 a28 a29 y1 a30 a31 a32 a33 a34 a35 a36 a37 a38 x21 x22 x23 y_16 a39 x24 a40 a41 a42 a43 x25 x26 x27 x28 a22 f0 a20 f1 a23 f2 a24 f3 a25 f4 a29 f_18 a18 f6 a28 f7 a39 f_19 a26 g_20) := hD
                  have rr_25 : zBd r_25.toInt (-2147483648) 2147483647 := n_rng r_25
                  refine lv_iload_n (pc := 45) hx hb dX12_chosen_45 rfl (lv_at hl 4 rfl) ?_
                  refine b_icmp_ne (pc := 46) (tgt := 148) hx hb rfl rfl  dX12_chosen_46 (by decide) (fun c_27 => ?_) (fun c_27 => ?_)
                  ·
                    as_aux_lemma =>
                      refine b_iinc (pc := 148) hx hb dX12_chosen_148 hl (k := 0) rfl rfl tI_1 (by first | exact (om_139 hi_9.1) | ((first | omega | (unfold zBd at *; omega)))) (by first | exact (om_1087 c_23 rx_22.2) | ((first | omega | (unfold zBd at *; omega)))) (by decide) (fun x_28 ex_28 ls hl => ?_)
                      replace hl : lv_has ls 11 [(7, .int x_28), (5, .long y_10), (4, .int x_12), (0, .ref a0), (1, .int x0), (2, .long y0)] := hl
                      refine lv_goto (pc := 151) (tgt := 29) hx hb dX12_chosen_151 (by decide) ?_
                      exact ih_lp_21 x_28 x_12 x_14 y_10 y_16 f_18 f_19 g_20 _ _ ls (by first | exact (om_1440 ex_28 hi_9.1 c_23 rx_22.2) | ((first | omega | (unfold zBd at *; omega)))) hi_15 (by (first | omega | (unfold zBd at *; omega))) hP hD hS (lv_sub hl [0, 1, 2, 3, 4, 5] rfl)
                  ·
                    as_aux_lemma =>
                      refine lv_aload_n (pc := 49) hx hb dX12_chosen_49 rfl (lv_at hl 3 rfl) ?_
                      refine lv_iload (pc := 50) hx hb dX12_chosen_50 (lv_at hl 0 rfl) ?_
                      refine lv_iconst (pc := 52) (v := 2) hx hb dX12_chosen_52 (by decide) ?_
                      refine lv_aload_n (pc := 53) hx hb dX12_chosen_53 rfl (lv_at hl 3 rfl) ?_
                      refine va_get (pc := 54) (ci := 12) (v := .int x9) (C := RX12) (T := TX12) (N := 73) hx hb hts iX12 hown hK hP 0 rfl rfl 24 (by decide) (hts _ tw_1425) (fun _ h9 => h9) rfl dX12_chosen_54 ?_
                      have bd_h_x9 : 0 ≤ x9.toInt ∧ x9.toInt ≤ 8 := h_x9
                      refine b_imul (pc := 57) hx hb tI_2 rfl (by first | exact (om_1336 h_x9.1) | ((first | omega | (unfold zBd at *; omega)))) (by first | exact (om_1278 h_x9.2) | ((first | omega | (unfold zBd at *; omega)))) dX12_chosen_57 (fun x_29 ex_29 => ?_)
                      refine lv_iconst (pc := 58) (v := 2) hx hb dX12_chosen_58 (by decide) ?_
                      refine b_isub (pc := 59) hx hb rfl tI_2 (by first | exact (om_1759 ex_29 h_x9.1) | ((first | omega | (unfold zBd at *; omega)))) (by first | exact (om_1760 ex_29 h_x9.2) | ((first | omega | (unfold zBd at *; omega)))) dX12_chosen_59 (fun x_30 ex_30 => ?_)
                      refine lv_iconst (pc := 60) (v := 2) hx hb dX12_chosen_60 (by decide) ?_
                      refine gd_i (pc := 61) (wc := (zS_10 cB cC cI cJ a0 a1 x1 x2 x3 x4 x5 x6 x7 x8 a2 a3 a4 a5 a6 a7 a8 a9 a10 a11 a12 a13 a14 a15 a16 x9 x10 x11 x12 x13 x14 a17 a18 a19 x15 a20 x16 a21 x17 x18 a22 a23 a24 a25 x19 a26 x_14 a27 a28 a29 y1 a30 a31 a32 a33 a34 a35 a36 a37 a38 x21 x22 x23 y_16 a39 x24 a40 a41 a42 a43 x25 x26 x27 x28 a29 f_18 a18 f6 a28 f7 a39 f_19)) hP hD hS hA [0, 6, 7, 8, 9] rfl (by decide +kernel) (fun _ => by rfl) (fun hPc hDc => va_runV (As := [.int x_8, .int x_30, .int 2]) (rest := []) ⟨hx, hb, hml, hown, hts⟩ (k_X12_isLeast l D cB cC cI cJ _ a0 a1 a2 a3 a4 a5 a6 a7 a8 a9 a10 a11 a12 a13 a14 a15 a16 a17 a18 a19 a20 a21 a22 a23 a24 a25 a26 a27 a28 a29 a30 a31 a32 a33 a34 a35 a36 a37 a38 a39 a40 a41 a42 a43 x_8 x_30 2 x1 x2 x3 x4 x5 x6 x7 x8 x9 x10 x11 x12 x13 x14 x15 x16 x17 x18 x19 x_14 x21 x22 x23 x24 x25 x26 x27 x28 y1 y_16 f_18 f6 f7 f_19 (by first | exact (om_1761 ex_30 ex_29 h_x9.1 h_x9.2) | (have k0 := tI_2; (first | omega | (unfold zBd at *; omega)))) (n_c tI_2 (by decide)) h_x1 h_x2 h_x3 h_x4 h_x5 h_x6 h_x9 h_x10 h_x11 h_x12 h_x13 h_x15 h_x16 h_x17 h_x19 hi_15 h_x21 h_x22 h_x23 h_x24 h_x25 h_x26 h_x27 h_x28 hr_a0_0 hr_a0_1 hr_a0_2 (by first | exact (om_1762 h_x10.1 hr_a0_2 ex_30 ex_29) | (have k0 := tI_2; (first | omega | (unfold zBd at *; omega)))) hf_f6 hf_f7) ⟨gcwB hts tw_1971 tw_14 tw_1968 hd_yX12_isLeast ⟨Nat.le_of_ble_eq_true rfl, Nat.le_of_ble_eq_true rfl⟩, hts _ tw_1970, hts _ tp_109⟩ ⟨gblind, va_recv hK hPc (ci := 12) (q0 := 0) rfl rfl, (gpreS hPc hK hDc hN).2⟩ rfl rfl hl.1 rfl (lv_room (Nat.le_of_ble_eq_true rfl)) dX12_chosen_61 ⟨Nat.le_of_ble_eq_true rfl, Nat.le_of_ble_eq_true rfl⟩) (fun r_32 u_31 H locs hw_33 hP hD hS => ?_)
                      replace hP : va_P D gcl (zS_92 cB cC cI cJ a0 a1 x1 x2 x3 x4 x5 x6 x7 x8 a2 a3 a4 a5 a6 a7 a8 a9 a10 a11 a12 a13 a14 a15 a16 x9 x10 x11 x12 x13 x14 a17 a18 a19 x15 a20 x16 a21 x17 x18 a22 a23 a24 a25 x19 a26 x_14 a27 a28 a29 y1 a30 a31 a32 a33 a34 a35 a36 a37 a38 x21 x22 x23 (u_31.2.2.2.2 0) a39 x24 a40 a41 a42 a43 x25 x26 x27 x28 a22 f0 a20 f1 a23 f2 a24 f3 a25 f4 a29 (u_31.2.1 0) a18 f6 a28 f7 a39 (u_31.2.1 1) a26 g_20) H := hP
                      replace hD : va_D A (zS_92 cB cC cI cJ a0 a1 x1 x2 x3 x4 x5 x6 x7 x8 a2 a3 a4 a5 a6 a7 a8 a9 a10 a11 a12 a13 a14 a15 a16 x9 x10 x11 x12 x13 x14 a17 a18 a19 x15 a20 x16 a21 x17 x18 a22 a23 a24 a25 x19 a26 x_14 a27 a28 a29 y1 a30 a31 a32 a33 a34 a35 a36 a37 a38 x21 x22 x23 (u_31.2.2.2.2 0) a39 x24 a40 a41 a42 a43 x25 x26 x27 x28 a22 f0 a20 f1 a23 f2 a24 f3 a25 f4 a29 (u_31.2.1 0) a18 f6 a28 f7 a39 (u_31.2.1 1) a26 g_20) := hD
                      have ru_31_0 := n_rngL (u_31.2.2.2.2 0)
                      have hw_34 : (0 ≤ r_32.toInt ∧ r_32.toInt ≤ 1) := hw_33
                      have kk0_r_32 := tI_2
                      have rr_32 : zBd r_32.toInt (-2147483648) 2147483647 := n_rng r_32
                      as_aux_lemma =>
                        refine b_if_eq (pc := 64) (tgt := 148) hx hb rfl  dX12_chosen_64 (by decide) (fun c_35 => ?_) (fun c_35 => ?_)
                        ·
                          as_aux_lemma =>
                            refine b_iinc (pc := 148) hx hb dX12_chosen_148 hl (k := 0) rfl rfl tI_1 (by first | exact (om_139 hi_9.1) | ((first | omega | (unfold zBd at *; omega)))) (by first | exact (om_1087 c_23 rx_22.2) | ((first | omega | (unfold zBd at *; omega)))) (by decide) (fun x_36 ex_36 ls hl => ?_)
                            replace hl : lv_has ls 11 [(7, .int x_36), (5, .long y_10), (4, .int x_12), (0, .ref a0), (1, .int x0), (2, .long y0)] := hl
                            refine lv_goto (pc := 151) (tgt := 29) hx hb dX12_chosen_151 (by decide) ?_
                            exact ih_lp_21 x_36 x_12 x_14 y_10 (u_31.2.2.2.2 0) (u_31.2.1 0) (u_31.2.1 1) g_20 _ _ ls (by first | exact (om_1440 ex_36 hi_9.1 c_23 rx_22.2) | ((first | omega | (unfold zBd at *; omega)))) hi_15 (by (first | omega | (unfold zBd at *; omega))) hP hD hS (lv_sub hl [0, 1, 2, 3, 4, 5] rfl)
                        ·
                          as_aux_lemma =>
                            refine lv_aload_n (pc := 67) hx hb dX12_chosen_67 rfl (lv_at hl 3 rfl) ?_
                            refine va_get (pc := 68) (ci := 12) (v := .long (u_31.2.2.2.2 0)) (C := RX12) (T := TX12) (N := 73) hx hb hts iX12 hown hK hP 0 rfl rfl 62 (by decide) (hts _ tw_1463) (fun _ h9 => h9) rfl dX12_chosen_68 ?_
                            refine lv_lload_n (pc := 71) hx hb dX12_chosen_71 rfl (lv_at hl 5 rfl) ?_
                            refine b_lcmp_ge (pc := 72) (tgt := 79) hx hb rfl rfl dX12_chosen_72 dX12_chosen_73 (by decide) (fun c_37 => ?_) (fun c_37 => ?_)
                            ·
                              as_aux_lemma =>
                                refine lv_lconst (pc := 79) (v := 0) hx hb dX12_chosen_79 (by decide) ?_
                                refine lv_lstore (pc := 80) (lv' := [(8, .long 0), (7, .int x_8), (5, .long y_10), (4, .int x_12), (0, .ref a0), (1, .int x0), (2, .long y0)]) hx hb dX12_chosen_80 hl (by decide) rfl (fun ls hl => ?_)
                                refine lv_iconst (pc := 82) (v := 0) hx hb dX12_chosen_82 (by decide) ?_
                                refine lv_istore (pc := 83) (lv' := [(10, .int 0), (8, .long 0), (7, .int x_8), (5, .long y_10), (4, .int x_12), (0, .ref a0), (1, .int x0), (2, .long y0)]) hx hb dX12_chosen_83 hl (by decide) rfl (fun ls hl => ?_)
                                have lp_45 : ∀ (n : Nat) (x_38 x_42 : Int32) (y_40 : Int64) (g_44 : Nat → Int64) (H : Heap) (locs : List Loc) (ls : Array Slot), (0 ≤ x_38.toInt ∧ x_38.toInt ≤ 2147483647) → (0 ≤ x_42.toInt ∧ x_42.toInt ≤ 1700) → (2147483647 - x_38.toInt).toNat < n → va_P D gcl (zS_92 cB cC cI cJ a0 a1 x1 x2 x3 x4 x5 x6 x7 x8 a2 a3 a4 a5 a6 a7 a8 a9 a10 a11 a12 a13 a14 a15 a16 x9 x10 x11 x12 x13 x14 a17 a18 a19 x15 a20 x16 a21 x17 x18 a22 a23 a24 a25 x19 a26 x_42 a27 a28 a29 y1 a30 a31 a32 a33 a34 a35 a36 a37 a38 x21 x22 x23 (u_31.2.2.2.2 0) a39 x24 a40 a41 a42 a43 x25 x26 x27 x28 a22 f0 a20 f1 a23 f2 a24 f3 a25 f4 a29 (u_31.2.1 0) a18 f6 a28 f7 a39 (u_31.2.1 1) a26 g_44) H → va_D A (zS_92 cB cC cI cJ a0 a1 x1 x2 x3 x4 x5 x6 x7 x8 a2 a3 a4 a5 a6 a7 a8 a9 a10 a11 a12 a13 a14 a15 a16 x9 x10 x11 x12 x13 x14 a17 a18 a19 x15 a20 x16 a21 x17 x18 a22 a23 a24 a25 x19 a26 x_42 a27 a28 a29 y1 a30 a31 a32 a33 a34 a35 a36 a37 a38 x21 x22 x23 (u_31.2.2.2.2 0) a39 x24 a40 a41 a42 a43 x25 x26 x27 x28 a22 f0 a20 f1 a23 f2 a24 f3 a25 f4 a29 (u_31.2.1 0) a18 f6 a28 f7 a39 (u_31.2.1 1) a26 g_44) → va_S A s.heap H locs → lv_has ls 11 [(10, .int x_38), (8, .long y_40), (7, .int x_8), (5, .long y_10), (4, .int x_12), (0, .ref a0), (1, .int x0), (2, .long y0)] → W p l e ({ frames := 4, cells := 0, slots := 0, locals := 97 }) s m args below meth c H locs 0 0 Q (F0 m 85 ls []) := by
                                  intro n
                                  induction n with
                                  | zero => intro x_38 x_42 y_40 g_44 H locs ls hi_39 hi_43 hmu; exact absurd hmu (Nat.not_lt_zero _)
                                  | succ n ih_lp_45 =>
                                    intro x_38 x_42 y_40 g_44 H locs ls hi_39 hi_43 hmu_lp_45 hP hD hS hl
                                    have hi_41 := n_rngL y_40
                                    refine lv_iload (pc := 85) hx hb dX12_chosen_85 (lv_at hl 0 rfl) ?_
                                    refine lv_aload_n (pc := 87) hx hb dX12_chosen_87 rfl (lv_at hl 5 rfl) ?_
                                    refine va_get (pc := 88) (ci := 12) (v := .int x10) (C := RX12) (T := TX12) (N := 73) hx hb hts iX12 hown hK hP 0 rfl rfl 25 (by decide) (hts _ tw_1426) (fun _ h9 => h9) rfl dX12_chosen_88 ?_
                                    refine b_icmp_ge (pc := 91) (tgt := 123) hx hb rfl rfl  dX12_chosen_91 (by decide) (fun c_46 => ?_) (fun c_46 => ?_)
                                    ·
                                      as_aux_lemma =>
                                        refine lv_iload (pc := 123) hx hb dX12_chosen_123 (lv_at hl 4 rfl) ?_
                                        refine lv_iconst (pc := 125) (v := (-1)) hx hb dX12_chosen_125 (by decide) ?_
                                        refine b_icmp_eq (pc := 126) (tgt := 140) hx hb rfl tI_m1  dX12_chosen_126 (by decide) (fun c_47 => ?_) (fun c_47 => ?_)
                                        ·
                                          as_aux_lemma =>
                                            refine lv_iload (pc := 140) hx hb dX12_chosen_140 (lv_at hl 2 rfl) ?_
                                            refine lv_istore (pc := 142) (lv' := [(4, .int x_8), (10, .int x_38), (8, .long y_40), (7, .int x_8), (5, .long y_10), (0, .ref a0), (1, .int x0), (2, .long y0)]) hx hb dX12_chosen_142 hl (by decide) rfl (fun ls hl => ?_)
                                            refine lv_lload (pc := 144) hx hb dX12_chosen_144 (lv_at hl 2 rfl) ?_
                                            refine lv_lstore (pc := 146) (lv' := [(5, .long y_40), (4, .int x_8), (10, .int x_38), (8, .long y_40), (7, .int x_8), (0, .ref a0), (1, .int x0), (2, .long y0)]) hx hb dX12_chosen_146 hl (by decide) rfl (fun ls hl => ?_)
                                            refine b_iinc (pc := 148) hx hb dX12_chosen_148 hl (k := 4) rfl rfl tI_1 (by first | exact (om_139 hi_9.1) | ((first | omega | (unfold zBd at *; omega)))) (by first | exact (om_1087 c_23 rx_22.2) | ((first | omega | (unfold zBd at *; omega)))) (by decide) (fun x_48 ex_48 ls hl => ?_)
                                            replace hl : lv_has ls 11 [(7, .int x_48), (5, .long y_40), (4, .int x_8), (10, .int x_38), (8, .long y_40), (0, .ref a0), (1, .int x0), (2, .long y0)] := hl
                                            refine lv_goto (pc := 151) (tgt := 29) hx hb dX12_chosen_151 (by decide) ?_
                                            exact ih_lp_21 x_48 x_8 x_42 y_40 (u_31.2.2.2.2 0) (u_31.2.1 0) (u_31.2.1 1) g_44 _ _ ls (by first | exact (om_1440 ex_48 hi_9.1 c_23 rx_22.2) | ((first | omega | (unfold zBd at *; omega)))) hi_43 (by (first | omega | (unfold zBd at *; omega))) hP hD hS (lv_sub hl [0, 1, 2, 5, 6, 7] rfl)
                                        ·
                                          as_aux_lemma =>
                                            refine lv_lload (pc := 129) hx hb dX12_chosen_129 (lv_at hl 1 rfl) ?_
                                            refine lv_lload (pc := 131) hx hb dX12_chosen_131 (lv_at hl 3 rfl) ?_
                                            refine b_lcmp_gt (pc := 133) (tgt := 140) hx hb rfl rfl dX12_chosen_133 dX12_chosen_134 (by decide) (fun c_49 => ?_) (fun c_49 => ?_)
                                            ·
                                              as_aux_lemma =>
                                                refine lv_iload (pc := 140) hx hb dX12_chosen_140 (lv_at hl 2 rfl) ?_
                                                refine lv_istore (pc := 142) (lv' := [(4, .int x_8), (10, .int x_38), (8, .long y_40), (7, .int x_8), (5, .long y_10), (0, .ref a0), (1, .int x0), (2, .long y0)]) hx hb dX12_chosen_142 hl (by decide) rfl (fun ls hl => ?_)
                                                refine lv_lload (pc := 144) hx hb dX12_chosen_144 (lv_at hl 2 rfl) ?_
                                                refine lv_lstore (pc := 146) (lv' := [(5, .long y_40), (4, .int x_8), (10, .int x_38), (8, .long y_40), (7, .int x_8), (0, .ref a0), (1, .int x0), (2, .long y0)]) hx hb dX12_chosen_146 hl (by decide) rfl (fun ls hl => ?_)
                                                refine b_iinc (pc := 148) hx hb dX12_chosen_148 hl (k := 4) rfl rfl tI_1 (by first | exact (om_139 hi_9.1) | ((first | omega | (unfold zBd at *; omega)))) (by first | exact (om_1087 c_23 rx_22.2) | ((first | omega | (unfold zBd at *; omega)))) (by decide) (fun x_50 ex_50 ls hl => ?_)
                                                replace hl : lv_has ls 11 [(7, .int x_50), (5, .long y_40), (4, .int x_8), (10, .int x_38), (8, .long y_40), (0, .ref a0), (1, .int x0), (2, .long y0)] := hl
                                                refine lv_goto (pc := 151) (tgt := 29) hx hb dX12_chosen_151 (by decide) ?_
                                                exact ih_lp_21 x_50 x_8 x_42 y_40 (u_31.2.2.2.2 0) (u_31.2.1 0) (u_31.2.1 1) g_44 _ _ ls (by first | exact (om_1440 ex_50 hi_9.1 c_23 rx_22.2) | ((first | omega | (unfold zBd at *; omega)))) hi_43 (by (first | omega | (unfold zBd at *; omega))) hP hD hS (lv_sub hl [0, 1, 2, 5, 6, 7] rfl)
                                            ·
                                              as_aux_lemma =>
                                                refine lv_goto (pc := 137) (tgt := 148) hx hb dX12_chosen_137 (by decide) ?_
                                                refine b_iinc (pc := 148) hx hb dX12_chosen_148 hl (k := 2) rfl rfl tI_1 (by first | exact (om_139 hi_9.1) | ((first | omega | (unfold zBd at *; omega)))) (by first | exact (om_1087 c_23 rx_22.2) | ((first | omega | (unfold zBd at *; omega)))) (by decide) (fun x_51 ex_51 ls hl => ?_)
                                                replace hl : lv_has ls 11 [(7, .int x_51), (10, .int x_38), (8, .long y_40), (5, .long y_10), (4, .int x_12), (0, .ref a0), (1, .int x0), (2, .long y0)] := hl
                                                refine lv_goto (pc := 151) (tgt := 29) hx hb dX12_chosen_151 (by decide) ?_
                                                exact ih_lp_21 x_51 x_12 x_42 y_10 (u_31.2.2.2.2 0) (u_31.2.1 0) (u_31.2.1 1) g_44 _ _ ls (by first | exact (om_1440 ex_51 hi_9.1 c_23 rx_22.2) | ((first | omega | (unfold zBd at *; omega)))) hi_43 (by (first | omega | (unfold zBd at *; omega))) hP hD hS (lv_sub hl [0, 3, 4, 5, 6, 7] rfl)
                                    ·
                                      as_aux_lemma =>
                                        refine lv_iload (pc := 94) hx hb dX12_chosen_94 (lv_at hl 2 rfl) ?_
                                        refine lv_iload (pc := 96) hx hb dX12_chosen_96 (lv_at hl 0 rfl) ?_
                                        refine lv_ishr (pc := 98) hx hb dX12_chosen_98 ?_
                                        refine lv_topi (fun x_52 _ => ?_)
                                        have rx_52 : zBd x_52.toInt (-2147483648) 2147483647 := n_rng x_52
                                        refine lv_iconst (pc := 99) (v := 1) hx hb dX12_chosen_99 (by decide) ?_
                                        refine b_iand (pc := 100) (M := 1) hx hb 1 (by decide +kernel) (by decide) (by decide) dX12_chosen_100 (fun x_53 ex_53 => ?_)
                                        have rx_53 : (0 ≤ x_53.toInt ∧ x_53.toInt ≤ 1) := ex_53
                                        refine lv_iconst (pc := 101) (v := 1) hx hb dX12_chosen_101 (by decide) ?_
                                        refine b_icmp_ne (pc := 102) (tgt := 117) hx hb rfl tI_1  dX12_chosen_102 (by decide) (fun c_54 => ?_) (fun c_54 => ?_)
                                        ·
                                          as_aux_lemma =>
                                            refine b_iinc (pc := 117) hx hb dX12_chosen_117 hl (k := 0) rfl rfl tI_1 (by first | exact (om_2 hi_39.1) | ((first | omega | (unfold zBd at *; omega)))) (by first | exact (om_338 c_46 h_x10.2) | ((first | omega | (unfold zBd at *; omega)))) (by decide) (fun x_55 ex_55 ls hl => ?_)
                                            replace hl : lv_has ls 11 [(10, .int x_55), (8, .long y_40), (7, .int x_8), (5, .long y_10), (4, .int x_12), (0, .ref a0), (1, .int x0), (2, .long y0)] := hl
                                            refine lv_goto (pc := 120) (tgt := 85) hx hb dX12_chosen_120 (by decide) ?_
                                            exact ih_lp_45 x_55 x_42 y_40 g_44 _ _ ls (by first | exact (om_339 ex_55 hi_39.1 c_46 h_x10.2) | ((first | omega | (unfold zBd at *; omega)))) hi_43 (by (first | omega | (unfold zBd at *; omega))) hP hD hS (lv_sub hl [0, 1, 2, 3, 4, 5, 6, 7] rfl)
                                        ·
                                          as_aux_lemma =>
                                            refine lv_lload (pc := 105) hx hb dX12_chosen_105 (lv_at hl 1 rfl) ?_
                                            refine lv_aload_n (pc := 107) hx hb dX12_chosen_107 rfl (lv_at hl 5 rfl) ?_
                                            refine lv_iload (pc := 108) hx hb dX12_chosen_108 (lv_at hl 0 rfl) ?_
                                            refine gd_i (pc := 110) (wc := (zS_60 cB cC cI cJ a0 a1 x1 x2 x3 x4 x5 x6 x7 x8 a2 a3 a4 a5 a6 a7 a8 a9 a10 a11 a12 a13 a14 a15 a16 x9 x10 x11 x12 x13 x14 a17 a18 a19 x15 a20 x16 a21 x17 x18 a22 a23 a24 a25 x19 a26 x_42 a27 a28 a29 y1 a30 a31 a32 a33 a34 a35 a36 a37 a38 x21 x22 x23 (u_31.2.2.2.2 0) a39 x24 a40 a41 a42 a43 x25 x26 x27 x28 a22 f0 a20 f1 a23 f2 a24 f3 a25 f4 a26 g_44 a18 f6)) hP hD hS hA [0, 1, 2, 3, 4, 5, 10, 7] rfl (by decide +kernel) (fun _ => by rfl) (fun hPc hDc => va_runV (As := [.int x_38]) (rest := [.long y_40]) ⟨hx, hb, hml, hown, hts⟩ (k_X12_worthOf l D cB cC cI cJ _ a0 a1 a2 a3 a4 a5 a6 a7 a8 a9 a10 a11 a12 a13 a14 a15 a16 a17 a18 a19 a20 a21 a22 a23 a24 a25 a26 a27 a28 a29 a30 a31 a32 a33 a34 a35 a36 a37 a38 a39 a40 a41 a42 a43 x_38 x1 x2 x3 x4 x5 x6 x7 x8 x9 x10 x11 x12 x13 x14 x15 x16 x17 x18 x19 x_42 x21 x22 x23 x24 x25 x26 x27 x28 y1 (u_31.2.2.2.2 0) f0 f1 f2 f3 f4 f6 g_44 (by first | exact (om_360 hi_39.1 c_46 h_x10.2) | ((first | omega | (unfold zBd at *; omega)))) h_x1 h_x2 h_x3 h_x4 h_x5 h_x6 h_x9 h_x10 h_x11 h_x12 h_x13 h_x15 h_x16 h_x17 h_x19 hi_43 h_x21 h_x22 h_x23 h_x24 h_x25 h_x26 h_x27 h_x28 hr_a0_0 hr_a0_1 hr_a0_2 hf_f0 hf_f2 hf_f3 hf_f4 (hg_RI) hf_f6) ⟨gcwB hts tw_2048 tw_14 tw_2045 hd_yX12_worthOf ⟨Nat.le_of_ble_eq_true rfl, Nat.le_of_ble_eq_true rfl⟩, hts _ tw_2047, hts _ tp_117⟩ ⟨gblind, va_recv hK hPc (ci := 12) (q0 := 0) rfl rfl, (gpreS hPc hK hDc hN).2⟩ rfl rfl hl.1 rfl (lv_room (Nat.le_of_ble_eq_true rfl)) dX12_chosen_110 ⟨Nat.le_of_ble_eq_true rfl, Nat.le_of_ble_eq_true rfl⟩) (fun r_57 u_56 H locs hw_58 hP hD hS => ?_)
                                            replace hP : va_P D gcl (zS_92 cB cC cI cJ a0 a1 x1 x2 x3 x4 x5 x6 x7 x8 a2 a3 a4 a5 a6 a7 a8 a9 a10 a11 a12 a13 a14 a15 a16 x9 x10 x11 x12 x13 x14 a17 a18 a19 x15 a20 x16 a21 x17 x18 a22 a23 a24 a25 x19 a26 (u_56.2.2.2.1 0) a27 a28 a29 y1 a30 a31 a32 a33 a34 a35 a36 a37 a38 x21 x22 x23 (u_31.2.2.2.2 0) a39 x24 a40 a41 a42 a43 x25 x26 x27 x28 a22 f0 a20 f1 a23 f2 a24 f3 a25 f4 a29 (u_31.2.1 0) a18 f6 a28 f7 a39 (u_31.2.1 1) a26 (u_56.2.2.1 0)) H := hP
                                            replace hD : va_D A (zS_92 cB cC cI cJ a0 a1 x1 x2 x3 x4 x5 x6 x7 x8 a2 a3 a4 a5 a6 a7 a8 a9 a10 a11 a12 a13 a14 a15 a16 x9 x10 x11 x12 x13 x14 a17 a18 a19 x15 a20 x16 a21 x17 x18 a22 a23 a24 a25 x19 a26 (u_56.2.2.2.1 0) a27 a28 a29 y1 a30 a31 a32 a33 a34 a35 a36 a37 a38 x21 x22 x23 (u_31.2.2.2.2 0) a39 x24 a40 a41 a42 a43 x25 x26 x27 x28 a22 f0 a20 f1 a23 f2 a24 f3 a25 f4 a29 (u_31.2.1 0) a18 f6 a28 f7 a39 (u_31.2.1 1) a26 (u_56.2.2.1 0)) := hD
                                            have hw_59 : (0 ≤ (u_56.2.2.2.1 0).toInt ∧ (u_56.2.2.2.1 0).toInt ≤ 1700) := hw_58
                                            have rr_57 : zBd r_57.toInt (-2147483648) 2147483647 := n_rng r_57
                                            refine b_i2l (pc := 113) hx hb rfl dX12_chosen_113 (fun y_60 ey_60 => ?_)
                                            have ry_60 : zBd r_57.toInt (-2147483648) 2147483647 := n_rng r_57
                                            refine lv_ladd (pc := 114) hx hb dX12_chosen_114 ?_
                                            refine lv_topl (fun y_61 _ => ?_)
                                            have ry_61 := n_rngL y_61
                                            refine lv_lstore (pc := 115) (lv' := [(8, .long y_61), (10, .int x_38), (7, .int x_8), (5, .long y_10), (4, .int x_12), (0, .ref a0), (1, .int x0), (2, .long y0)]) hx hb dX12_chosen_115 hl (by decide) rfl (fun ls hl => ?_)
                                            refine b_iinc (pc := 117) hx hb dX12_chosen_117 hl (k := 1) rfl rfl tI_1 (by first | exact (om_2 hi_39.1) | ((first | omega | (unfold zBd at *; omega)))) (by first | exact (om_338 c_46 h_x10.2) | ((first | omega | (unfold zBd at *; omega)))) (by decide) (fun x_62 ex_62 ls hl => ?_)
                                            replace hl : lv_has ls 11 [(10, .int x_62), (8, .long y_61), (7, .int x_8), (5, .long y_10), (4, .int x_12), (0, .ref a0), (1, .int x0), (2, .long y0)] := hl
                                            refine lv_goto (pc := 120) (tgt := 85) hx hb dX12_chosen_120 (by decide) ?_
                                            exact ih_lp_45 x_62 (u_56.2.2.2.1 0) y_61 (u_56.2.2.1 0) _ _ ls (by first | exact (om_339 ex_62 hi_39.1 c_46 h_x10.2) | ((first | omega | (unfold zBd at *; omega)))) hw_59 (by (first | omega | (unfold zBd at *; omega))) hP hD hS (lv_sub hl [0, 1, 2, 3, 4, 5, 6, 7] rfl)
                                exact lp_45 _ 0 x_14 0 g_20 _ _ ls (n_c tI_0 (by decide)) hi_15 (Nat.lt_succ_self _) hP hD hS (lv_sub hl [0, 1, 2, 3, 4, 5, 6, 7] rfl)
                            ·
                              as_aux_lemma =>
                                refine lv_goto (pc := 76) (tgt := 148) hx hb dX12_chosen_76 (by decide) ?_
                                refine b_iinc (pc := 148) hx hb dX12_chosen_148 hl (k := 0) rfl rfl tI_1 (by first | exact (om_139 hi_9.1) | ((first | omega | (unfold zBd at *; omega)))) (by first | exact (om_1087 c_23 rx_22.2) | ((first | omega | (unfold zBd at *; omega)))) (by decide) (fun x_63 ex_63 ls hl => ?_)
                                replace hl : lv_has ls 11 [(7, .int x_63), (5, .long y_10), (4, .int x_12), (0, .ref a0), (1, .int x0), (2, .long y0)] := hl
                                refine lv_goto (pc := 151) (tgt := 29) hx hb dX12_chosen_151 (by decide) ?_
                                exact ih_lp_21 x_63 x_12 x_14 y_10 (u_31.2.2.2.2 0) (u_31.2.1 0) (u_31.2.1 1) g_20 _ _ ls (by first | exact (om_1440 ex_63 hi_9.1 c_23 rx_22.2) | ((first | omega | (unfold zBd at *; omega)))) hi_15 (by (first | omega | (unfold zBd at *; omega))) hP hD hS (lv_sub hl [0, 1, 2, 3, 4, 5] rfl)
          exact lp_21 _ 1 (-1) x20 0 y2 f5 f8 g0 _ _ ls (n_c tI_1 (by decide)) h_x20 (Nat.lt_succ_self _) hP hD hS (lv_sub hl [0, 1, 2, 3, 4, 5] rfl)
      ·
        as_aux_lemma =>
          refine lv_iconst (pc := 18) (v := (-1)) hx hb dX12_chosen_18 (by decide) ?_
          have hP9 : va_P D gcl (zS_92 cB cC cI cJ a0 a1 x1 x2 x3 x4 x5 x6 x7 x8 a2 a3 a4 a5 a6 a7 a8 a9 a10 a11 a12 a13 a14 a15 a16 x9 x10 x11 x12 x13 x14 a17 a18 a19 x15 a20 x16 a21 x17 x18 a22 a23 a24 a25 x19 a26 x20 a27 a28 a29 y1 a30 a31 a32 a33 a34 a35 a36 a37 a38 x21 x22 x23 y2 a39 x24 a40 a41 a42 a43 x25 x26 x27 x28 a22 f0 a20 f1 a23 f2 a24 f3 a25 f4 a29 f5 a18 f6 a28 f7 a39 f8 a26 g0) H := g_psub hP [0, 1, 2, 3, 4, 5, 6, 7, 8, 9, 10] rfl
          have hD9 : va_D A (zS_92 cB cC cI cJ a0 a1 x1 x2 x3 x4 x5 x6 x7 x8 a2 a3 a4 a5 a6 a7 a8 a9 a10 a11 a12 a13 a14 a15 a16 x9 x10 x11 x12 x13 x14 a17 a18 a19 x15 a20 x16 a21 x17 x18 a22 a23 a24 a25 x19 a26 x20 a27 a28 a29 y1 a30 a31 a32 a33 a34 a35 a36 a37 a38 x21 x22 x23 y2 a39 x24 a40 a41 a42 a43 x25 x26 x27 x28 a22 f0 a20 f1 a23 f2 a24 f3 a25 f4 a29 f5 a18 f6 a28 f7 a39 f8 a26 g0) := hD.sub [0, 1, 2, 3, 4, 5, 6, 7, 8, 9, 10] (by decide) rfl
          exact hret (-1) ((fun _ => 0), (fun k => [f5, f8].getD k (fun _ => 0)), (fun k => [g0].getD k (fun _ => 0)), (fun k => [x20].getD k 0), (fun k => [y2].getD k 0)) dX12_chosen_19 ⟨(show ((((-1) : Int32).toInt = (-1) ∧ (x20 : Int32).toInt = x20.toInt) ∨ (((-2147483648) ≤ ((-1) : Int32).toInt ∧ ((-1) : Int32).toInt ≤ 2147483647) ∧ y0.toInt ≥ 0) ∨ (((-1) : Int32).toInt = (-1) ∧ y0.toInt < 0 ∧ (x20 : Int32).toInt = x20.toInt)) from (by first | exact (om_1867 tI_m1) | (have k9 := tI_m1; (first | omega | (unfold zBd at *; omega))))), (show (0 ≤ (x20 : Int32).toInt ∧ (x20 : Int32).toInt ≤ 1700) from h_x20)⟩ hP9 hD9 hS
theorem om_1869 {a : Int} (h0 : (a ≤ 13)) : (a < (20 : Nat)) := by omega
theorem om_1870 {a : Int} (h0 : (a ≤ 13)) : (a + 1 ≤ 2147483647) := by omega
theorem om_1871 {a b : Int} (h0 : (a = b + 1)) (h1 : (0 ≤ b)) (h2 : (b ≤ 13)) : ((0 ≤ a ∧ a ≤ 14)) := by omega
set_option maxHeartbeats 4000000 in
set_option maxRecDepth 100000 in
theorem k_X12_writes (l : Launch) (D : va_G) (cB cC cI cJ : ClassId) (sz : Nat) (a0 a1 a2 a3 a4 a5 a6 a7 a8 a9 a10 a11 a12 a13 a14 a15 a16 a17 a18 a19 a20 a21 a22 a23 a24 a25 a26 a27 a28 a29 a30 a31 a32 a33 a34 a35 a36 a37 a38 a39 a40 a41 a42 a43 : Nat) (x0 x1 x2 x3 x4 x5 x6 x7 x8 x9 x10 x11 x12 x13 x14 x15 x16 x17 x18 x19 x20 x21 x22 x23 x24 x25 x26 x27 x28 : Int32) (y0 y1 : Int64) (f0 : Nat → Int32) (h_x1 : zBd x1.toInt 0 1600) (h_x2 : zBd x2.toInt 0 1600) (h_x3 : zBd x3.toInt 0 1600) (h_x4 : zBd x4.toInt (-1) 1600) (h_x5 : zBd x5.toInt 0 4) (h_x6 : zBd x6.toInt (-1) 1600) (h_x9 : zBd x9.toInt 0 8) (h_x10 : zBd x10.toInt 0 5) (h_x11 : zBd x11.toInt 0 6) (h_x12 : zBd x12.toInt 0 6) (h_x13 : zBd x13.toInt 0 16) (h_x15 : zBd x15.toInt 0 60) (h_x16 : zBd x16.toInt 0 1600) (h_x17 : zBd x17.toInt 0 1700) (h_x19 : zBd x19.toInt 0 1700) (h_x20 : zBd x20.toInt 0 1700) (h_x21 : zBd x21.toInt 0 200) (h_x22 : zBd x22.toInt 0 40) (h_x23 : zBd x23.toInt 0 40) (h_x24 : zBd x24.toInt 0 1) (h_x25 : zBd x25.toInt 0 14) (h_x26 : zBd x26.toInt 0 200) (h_x27 : zBd x27.toInt 0 40) (h_x28 : zBd x28.toInt 0 40) (hr_a0_0 : (x22.toInt ≤ x21.toInt)) (hr_a0_1 : (x21.toInt + x23.toInt ≤ 200)) (hr_a0_2 : (x10.toInt = 0 ∨ 2 ≤ x9.toInt)) (hg__o : x25.toInt ≤ 13) : Met l yX12_writes (.code yX12_writes cX12_writes 2 none :: lw_gd) ({ frames := 0, cells := 0, slots := 0, locals := 0 }) (gPre D [(cB, .byte), (cC, .char), (cI, .int), (cJ, .long)] [.ref a0, .int x0] (zS_70 cB cC cI cJ a0 a1 x1 x2 x3 x4 x5 x6 x7 x8 a2 a3 a4 a5 a6 a7 a8 a9 a10 a11 a12 a13 a14 a15 a16 x9 x10 x11 x12 x13 x14 a17 a18 a19 x15 a20 x16 a21 x17 x18 a22 a23 a24 a25 x19 a26 x20 a27 a28 a29 y0 a30 a31 a32 a33 a34 a35 a36 a37 a38 x21 x22 x23 y1 a39 x24 a40 a41 a42 a43 x25 x26 x27 x28 a43 f0) sz) (va_Qv (fun u => (((u.2.2.2.1 0).toInt = (x25.toInt) + (1))) ∧ (0 ≤ (u.2.2.2.1 0).toInt ∧ (u.2.2.2.1 0).toInt ≤ 14)) (gB D (va_A (zS_70 cB cC cI cJ a0 a1 x1 x2 x3 x4 x5 x6 x7 x8 a2 a3 a4 a5 a6 a7 a8 a9 a10 a11 a12 a13 a14 a15 a16 x9 x10 x11 x12 x13 x14 a17 a18 a19 x15 a20 x16 a21 x17 x18 a22 a23 a24 a25 x19 a26 x20 a27 a28 a29 y0 a30 a31 a32 a33 a34 a35 a36 a37 a38 x21 x22 x23 y1 a39 x24 a40 a41 a42 a43 x25 x26 x27 x28 a43 f0) sz) (fun u : gEx => (zS_70 cB cC cI cJ a0 a1 x1 x2 x3 x4 x5 x6 x7 x8 a2 a3 a4 a5 a6 a7 a8 a9 a10 a11 a12 a13 a14 a15 a16 x9 x10 x11 x12 x13 x14 a17 a18 a19 x15 a20 x16 a21 x17 x18 a22 a23 a24 a25 x19 a26 x20 a27 a28 a29 y0 a30 a31 a32 a33 a34 a35 a36 a37 a38 x21 x22 x23 y1 a39 x24 a40 a41 a42 a43 (u.2.2.2.1 0) x26 x27 x28 a43 (u.2.1 0)))) (va_A (zS_70 cB cC cI cJ a0 a1 x1 x2 x3 x4 x5 x6 x7 x8 a2 a3 a4 a5 a6 a7 a8 a9 a10 a11 a12 a13 a14 a15 a16 x9 x10 x11 x12 x13 x14 a17 a18 a19 x15 a20 x16 a21 x17 x18 a22 a23 a24 a25 x19 a26 x20 a27 a28 a29 y0 a30 a31 a32 a33 a34 a35 a36 a37 a38 x21 x22 x23 y1 a39 x24 a40 a41 a42 a43 x25 x26 x27 x28 a43 f0) sz)) 0 0 (va_A (zS_70 cB cC cI cJ a0 a1 x1 x2 x3 x4 x5 x6 x7 x8 a2 a3 a4 a5 a6 a7 a8 a9 a10 a11 a12 a13 a14 a15 a16 x9 x10 x11 x12 x13 x14 a17 a18 a19 x15 a20 x16 a21 x17 x18 a22 a23 a24 a25 x19 a26 x20 a27 a28 a29 y0 a30 a31 a32 a33 a34 a35 a36 a37 a38 x21 x22 x23 y1 a39 x24 a40 a41 a42 a43 x25 x26 x27 x28 a43 f0) sz) := by
  refine gOf_v (by decide +kernel) (Nat.le_of_ble_eq_true rfl) ?_
  intro p e s m args below meth c ls A Q hx hb hts hown hml hN hK hP hD hA hl hret
  replace hown : s.vm.findClass RX12 = some m.cls := hown
  have hS : va_S A s.heap s.heap [] := va_S.rf
  replace hP : va_P D gcl (zS_70 cB cC cI cJ a0 a1 x1 x2 x3 x4 x5 x6 x7 x8 a2 a3 a4 a5 a6 a7 a8 a9 a10 a11 a12 a13 a14 a15 a16 x9 x10 x11 x12 x13 x14 a17 a18 a19 x15 a20 x16 a21 x17 x18 a22 a23 a24 a25 x19 a26 x20 a27 a28 a29 y0 a30 a31 a32 a33 a34 a35 a36 a37 a38 x21 x22 x23 y1 a39 x24 a40 a41 a42 a43 x25 x26 x27 x28 a43 f0) s.heap := hP
  replace hl : lv_has ls 2 [(0, .ref a0), (1, .int x0)] := hl
  have rx0 : zBd x0.toInt (-2147483648) 2147483647 := n_rng x0
  have rx7 : zBd x7.toInt (-2147483648) 2147483647 := n_rng x7
  have rx8 : zBd x8.toInt (-2147483648) 2147483647 := n_rng x8
  have rx14 : zBd x14.toInt (-2147483648) 2147483647 := n_rng x14
  have rx18 : zBd x18.toInt (-2147483648) 2147483647 := n_rng x18
  have ry0 := n_rngL y0
  have ry1 := n_rngL y1
  refine lv_aload_n (pc := 0) hx hb dX12_writes_0 rfl (lv_at hl 0 rfl) ?_
  refine va_get (pc := 1) (ci := 12) (v := .ref a43) (C := RX12) (T := TX12) (N := 73) hx hb hts iX12 hown hK hP 0 rfl rfl 68 (by decide) (hts _ tw_1469) (fun _ h9 => h9) rfl dX12_writes_1 ?_
  refine lv_aload_n (pc := 4) hx hb dX12_writes_4 rfl (lv_at hl 0 rfl) ?_
  refine va_get (pc := 5) (ci := 12) (v := .int x25) (C := RX12) (T := TX12) (N := 73) hx hb hts iX12 hown hK hP 0 rfl rfl 69 (by decide) (hts _ tw_1470) (fun _ h9 => h9) rfl dX12_writes_5 ?_
  have bd_h_x25 : 0 ≤ x25.toInt ∧ x25.toInt ≤ 14 := h_x25
  refine lv_iload_n (pc := 8) hx hb dX12_writes_8 rfl (lv_at hl 1 rfl) ?_
  refine g_iastore (pc := 9) hx hb hK hP hD hS 1 2 rfl rfl (n_in rfl (by first | exact (om_0 h_x25.1) | ((first | omega | (unfold zBd at *; omega)))) (by first | exact (om_1869 hg__o) | ((first | omega | (unfold zBd at *; omega))))) dX12_writes_9 (fun f_1 H locs hP hD hS => ?_)
  replace hP : va_P D gcl (zS_70 cB cC cI cJ a0 a1 x1 x2 x3 x4 x5 x6 x7 x8 a2 a3 a4 a5 a6 a7 a8 a9 a10 a11 a12 a13 a14 a15 a16 x9 x10 x11 x12 x13 x14 a17 a18 a19 x15 a20 x16 a21 x17 x18 a22 a23 a24 a25 x19 a26 x20 a27 a28 a29 y0 a30 a31 a32 a33 a34 a35 a36 a37 a38 x21 x22 x23 y1 a39 x24 a40 a41 a42 a43 x25 x26 x27 x28 a43 f_1) H := hP
  replace hD : va_D A (zS_70 cB cC cI cJ a0 a1 x1 x2 x3 x4 x5 x6 x7 x8 a2 a3 a4 a5 a6 a7 a8 a9 a10 a11 a12 a13 a14 a15 a16 x9 x10 x11 x12 x13 x14 a17 a18 a19 x15 a20 x16 a21 x17 x18 a22 a23 a24 a25 x19 a26 x20 a27 a28 a29 y0 a30 a31 a32 a33 a34 a35 a36 a37 a38 x21 x22 x23 y1 a39 x24 a40 a41 a42 a43 x25 x26 x27 x28 a43 f_1) := hD
  refine lv_aload_n (pc := 10) hx hb dX12_writes_10 rfl (lv_at hl 0 rfl) ?_
  refine lv_dup (pc := 11) hx hb dX12_writes_11 rfl ?_
  refine va_get (pc := 12) (ci := 12) (v := .int x25) (C := RX12) (T := TX12) (N := 73) hx hb hts iX12 hown hK hP 0 rfl rfl 69 (by decide) (hts _ tw_1470) (fun _ h9 => h9) rfl dX12_writes_12 ?_
  refine lv_iconst (pc := 15) (v := 1) hx hb dX12_writes_15 (by decide) ?_
  refine b_iadd (pc := 16) hx hb rfl tI_1 (by first | exact (om_2 h_x25.1) | ((first | omega | (unfold zBd at *; omega)))) (by first | exact (om_1870 hg__o) | ((first | omega | (unfold zBd at *; omega)))) dX12_writes_16 (fun x_2 ex_2 => ?_)
  refine va_put (pc := 17) (ci := 12) (v := .int x_2) (ty := .int) (C := RX12) (T := TX12) (N := 73) hx hb hts iX12 tyX12 tyX12_ok nmX12 hown hK hP hD hS 0 rfl rfl 69 (by decide) (hts _ tw_1470) (fun _ h9 => h9) rfl (by decide +kernel) rfl rfl (Nat.le_of_ble_eq_true rfl) dX12_writes_17 (fun H locs hP hD hS => ?_)
  replace hP : va_P D gcl (zS_70 cB cC cI cJ a0 a1 x1 x2 x3 x4 x5 x6 x7 x8 a2 a3 a4 a5 a6 a7 a8 a9 a10 a11 a12 a13 a14 a15 a16 x9 x10 x11 x12 x13 x14 a17 a18 a19 x15 a20 x16 a21 x17 x18 a22 a23 a24 a25 x19 a26 x20 a27 a28 a29 y0 a30 a31 a32 a33 a34 a35 a36 a37 a38 x21 x22 x23 y1 a39 x24 a40 a41 a42 a43 x_2 x26 x27 x28 a43 f_1) H := hP
  replace hD : va_D A (zS_70 cB cC cI cJ a0 a1 x1 x2 x3 x4 x5 x6 x7 x8 a2 a3 a4 a5 a6 a7 a8 a9 a10 a11 a12 a13 a14 a15 a16 x9 x10 x11 x12 x13 x14 a17 a18 a19 x15 a20 x16 a21 x17 x18 a22 a23 a24 a25 x19 a26 x20 a27 a28 a29 y0 a30 a31 a32 a33 a34 a35 a36 a37 a38 x21 x22 x23 y1 a39 x24 a40 a41 a42 a43 x_2 x26 x27 x28 a43 f_1) := hD
  have hP9 : va_P D gcl (zS_70 cB cC cI cJ a0 a1 x1 x2 x3 x4 x5 x6 x7 x8 a2 a3 a4 a5 a6 a7 a8 a9 a10 a11 a12 a13 a14 a15 a16 x9 x10 x11 x12 x13 x14 a17 a18 a19 x15 a20 x16 a21 x17 x18 a22 a23 a24 a25 x19 a26 x20 a27 a28 a29 y0 a30 a31 a32 a33 a34 a35 a36 a37 a38 x21 x22 x23 y1 a39 x24 a40 a41 a42 a43 x_2 x26 x27 x28 a43 f_1) H := g_psub hP [0, 1] rfl
  have hD9 : va_D A (zS_70 cB cC cI cJ a0 a1 x1 x2 x3 x4 x5 x6 x7 x8 a2 a3 a4 a5 a6 a7 a8 a9 a10 a11 a12 a13 a14 a15 a16 x9 x10 x11 x12 x13 x14 a17 a18 a19 x15 a20 x16 a21 x17 x18 a22 a23 a24 a25 x19 a26 x20 a27 a28 a29 y0 a30 a31 a32 a33 a34 a35 a36 a37 a38 x21 x22 x23 y1 a39 x24 a40 a41 a42 a43 x_2 x26 x27 x28 a43 f_1) := hD.sub [0, 1] (by decide) rfl
  exact hret ((fun _ => 0), (fun k => [f_1].getD k (fun _ => 0)), (fun _ => (fun _ => 0)), (fun k => [x_2].getD k 0), (fun _ => 0)) dX12_writes_20 ⟨(show (((x_2 : Int32).toInt = (x25.toInt) + (1))) from (by first | exact (om_584 ex_2) | ((first | omega | (unfold zBd at *; omega))))), (show (0 ≤ (x_2 : Int32).toInt ∧ (x_2 : Int32).toInt ≤ 14) from (by first | exact (om_1871 ex_2 h_x25.1 hg__o) | ((first | omega | (unfold zBd at *; omega)))))⟩ hP9 hD9 hS
theorem om_1872 {a b : Int} (h0 : ((-2147483648) ≤ a)) (h1 : (a ≤ 2147483647)) (h2 : (0 ≤ b)) (h3 : (b ≤ 20)) : (((((-2147483648) ≤ a ∧ a ≤ 2147483647) ∧ (0 ≤ b ∧ b ≤ 1600)))) := by omega
theorem om_1873 {a b : Int} (h0 : (a < b)) (h1 : (b ≤ 20)) : (a < (20 : Nat)) := by omega
theorem om_1874 {a b : Int} (h0 : (a < b)) (h1 : (b ≤ 20)) : (a + 1 ≤ 2147483647) := by omega
theorem om_1875 {a b c : Int} (h0 : (a = b + 1)) (h1 : (0 ≤ b)) (h2 : (b < c)) (h3 : (c ≤ 20)) : ((0 ≤ a ∧ a ≤ 2147483647)) := by omega
set_option maxHeartbeats 4000000 in
set_option maxRecDepth 100000 in
theorem k_X12_checked_20 (l : Launch) (D : va_G) (cB cC cI cJ : ClassId) (sz : Nat) (a0 : Nat) (x0 : Int32) (f0 : Nat → Int32) (hp1 : (0 ≤ x0.toInt ∧ x0.toInt ≤ 1600)) (hg__n : x0.toInt ≤ 20) : Met l yX12_checked (.code yX12_checked cX12_checked 4 (some .int) :: lw_gd) ({ frames := 0, cells := 0, slots := 0, locals := 0 }) (gPre D [(cB, .byte), (cC, .char), (cI, .int), (cJ, .long)] [.ref a0, .int x0] [(a0, .inl (cI, 20, .inl f0))] sz) (va_Qi (fun r u => ((((-2147483648) ≤ r.toInt ∧ r.toInt ≤ 2147483647) ∧ (0 ≤ x0.toInt ∧ x0.toInt ≤ 1600)))) (gB D (va_A [(a0, .inl (cI, 20, .inl f0))] sz) (fun u : gEx => [(a0, .inl (cI, 20, .inl f0))])) (va_A [(a0, .inl (cI, 20, .inl f0))] sz)) 0 0 (va_A [(a0, .inl (cI, 20, .inl f0))] sz) := by
  refine gOf_i (by decide +kernel) (Nat.le_of_ble_eq_true rfl) ?_
  intro p e s m args below meth c ls A Q hx hb hts hown hml hN hK hP hD hA hl hret
  replace hown : s.vm.findClass RX12 = some m.cls := hown
  have hS : va_S A s.heap s.heap [] := va_S.rf
  replace hP : va_P D gcl [(a0, .inl (cI, 20, .inl f0))] s.heap := hP
  replace hl : lv_has ls 4 [(0, .ref a0), (1, .int x0)] := hl
  refine lv_bipush (pc := 0) (v := 51) hx hb dX12_checked_0 (by decide) ?_
  refine lv_istore_n (pc := 2) (lv' := [(2, .int 51), (0, .ref a0), (1, .int x0)]) hx hb dX12_checked_2 rfl hl (by decide) rfl (fun ls hl => ?_)
  refine lv_iconst (pc := 3) (v := 0) hx hb dX12_checked_3 (by decide) ?_
  refine lv_istore_n (pc := 4) (lv' := [(3, .int 0), (2, .int 51), (0, .ref a0), (1, .int x0)]) hx hb dX12_checked_4 rfl hl (by decide) rfl (fun ls hl => ?_)
  have lp_5 : ∀ (n : Nat) (x_1 x_3 : Int32) (H : Heap) (locs : List Loc) (ls : Array Slot), (0 ≤ x_1.toInt ∧ x_1.toInt ≤ 2147483647) → (2147483647 - x_1.toInt).toNat < n → va_P D gcl [(a0, .inl (cI, 20, .inl f0))] H → va_D A [(a0, .inl (cI, 20, .inl f0))] → va_S A s.heap H locs → lv_has ls 4 [(3, .int x_1), (2, .int x_3), (0, .ref a0), (1, .int x0)] → W p l e ({ frames := 0, cells := 0, slots := 0, locals := 0 }) s m args below meth c H locs 0 0 Q (F0 m 5 ls []) := by
    intro n
    induction n with
    | zero => intro x_1 x_3 H locs ls hi_2 hmu; exact absurd hmu (Nat.not_lt_zero _)
    | succ n ih_lp_5 =>
      intro x_1 x_3 H locs ls hi_2 hmu_lp_5 hP hD hS hl
      have hi_4 := n_rng x_3
      refine lv_iload_n (pc := 5) hx hb dX12_checked_5 rfl (lv_at hl 0 rfl) ?_
      refine lv_iload_n (pc := 6) hx hb dX12_checked_6 rfl (lv_at hl 3 rfl) ?_
      refine b_icmp_ge (pc := 7) (tgt := 29) hx hb rfl rfl  dX12_checked_7 (by decide) (fun c_6 => ?_) (fun c_6 => ?_)
      ·
        as_aux_lemma =>
          refine lv_iload_n (pc := 29) hx hb dX12_checked_29 rfl (lv_at hl 1 rfl) ?_
          exact hret x_3 ((fun _ => 0), (fun _ => (fun _ => 0)), (fun _ => (fun _ => 0)), (fun _ => 0), (fun _ => 0)) dX12_checked_30 (show ((((-2147483648) ≤ x_3.toInt ∧ x_3.toInt ≤ 2147483647) ∧ (0 ≤ x0.toInt ∧ x0.toInt ≤ 1600))) from (by first | exact (om_1872 hi_4.1 hi_4.2 hp1.1 hg__n) | ((first | omega | (unfold zBd at *; omega))))) (g_psub (wc := [(a0, .inl (cI, 20, .inl f0))]) hP [0] rfl) (hD.sub (ws' := [(a0, .inl (cI, 20, .inl f0))]) [0] (by decide) rfl) hS
      ·
        as_aux_lemma =>
          refine lv_bipush (pc := 10) (v := 7) hx hb dX12_checked_10 (by decide) ?_
          refine lv_iload_n (pc := 12) hx hb dX12_checked_12 rfl (lv_at hl 1 rfl) ?_
          refine lv_imul (pc := 13) hx hb dX12_checked_13 ?_
          refine lv_topi (fun x_7 _ => ?_)
          have rx_7 : zBd x_7.toInt (-2147483648) 2147483647 := n_rng x_7
          refine lv_aload_n (pc := 14) hx hb dX12_checked_14 rfl (lv_at hl 2 rfl) ?_
          refine lv_iload_n (pc := 15) hx hb dX12_checked_15 rfl (lv_at hl 0 rfl) ?_
          refine va_iald (pc := 16) hx hb hK hP 0 2 rfl rfl (n_in rfl (by first | exact (om_0 hi_2.1) | ((first | omega | (unfold zBd at *; omega)))) (by first | exact (om_1873 c_6 hg__n) | ((first | omega | (unfold zBd at *; omega))))) dX12_checked_16 ?_
          refine lv_topi (fun x_8 ex_8 => ?_)
          have rx_8 : zBd x_8.toInt (-2147483648) 2147483647 := n_rng x_8
          refine lv_iadd (pc := 17) hx hb dX12_checked_17 ?_
          refine lv_topi (fun x_9 _ => ?_)
          have rx_9 : zBd x_9.toInt (-2147483648) 2147483647 := n_rng x_9
          as_aux_lemma =>
            refine lv_sipush (pc := 18) (v := 253) hx hb dX12_checked_18 (by decide) ?_
            refine b_irem (pc := 21) hx hb rfl tI_253 (by first | exact (om_1442) | ((first | omega | (unfold zBd at *; omega)))) dX12_checked_21 (fun x_10 ex_10 => ?_)
            have rx_10 : ((-252) ≤ x_10.toInt ∧ x_10.toInt ≤ 252) := (by first | exact (om_1443 ex_10.1 ex_10.2.1) | ((first | omega | (unfold zBd at *; omega))))
            refine lv_istore_n (pc := 22) (lv' := [(2, .int x_10), (3, .int x_1), (0, .ref a0), (1, .int x0)]) hx hb dX12_checked_22 rfl hl (by decide) rfl (fun ls hl => ?_)
            refine b_iinc (pc := 23) hx hb dX12_checked_23 hl (k := 1) rfl rfl tI_1 (by first | exact (om_2 hi_2.1) | ((first | omega | (unfold zBd at *; omega)))) (by first | exact (om_1874 c_6 hg__n) | ((first | omega | (unfold zBd at *; omega)))) (by decide) (fun x_11 ex_11 ls hl => ?_)
            replace hl : lv_has ls 4 [(3, .int x_11), (2, .int x_10), (0, .ref a0), (1, .int x0)] := hl
            refine lv_goto (pc := 26) (tgt := 5) hx hb dX12_checked_26 (by decide) ?_
            exact ih_lp_5 x_11 x_10 _ _ ls (by first | exact (om_1875 ex_11 hi_2.1 c_6 hg__n) | ((first | omega | (unfold zBd at *; omega)))) (by (first | omega | (unfold zBd at *; omega))) hP hD hS (lv_sub hl [0, 1, 2, 3] rfl)
  exact lp_5 _ 0 51 _ _ ls (n_c tI_0 (by decide)) (Nat.lt_succ_self _) hP hD hS (lv_sub hl [0, 1, 2, 3] rfl)
theorem om_1876 {a b c : Int} (h0 : (a = 2 * b)) (h1 : (b ≤ c)) (h2 : (c ≤ 6)) : (a ≤ 13) := by omega
theorem om_1877 {a : Int} (h0 : (0 ≤ a)) (h1 : (a ≤ 14)) : ((0 ≤ a ∧ a ≤ 1600)) := by omega
theorem om_1878 {a : Int} (h0 : (a ≤ 14)) : (a ≤ 20) := by omega
theorem om_1879 {a b c d : Int} (h0 : (a = (b) + (1))) (h1 : (b = 2 * c)) (h2 : (c ≤ d)) (h3 : (d ≤ 6)) : (a ≤ 13) := by omega
theorem om_1880 {a b : Int} (h0 : (a = (b) + (1))) (h1 : (0 ≤ b)) (h2 : (a ≤ 14)) : ((1 ≤ a ∧ a ≤ 15)) := by omega
theorem om_1881 {a b c d e : Int} (h0 : (a = (c) + (1))) (h1 : (d ≥ b)) (h2 : (c = (e) + (1))) (h3 : (e = 2 * d)) (h4 : (d ≤ b)) (h5 : (0 ≤ b)) : (a = 2 * b + 2 ∧ 0 ≤ b) := by omega
theorem om_1882 {a b c : Int} (h0 : (a = 2 * b)) (h1 : (b < c)) (h2 : (c ≤ 6)) : (a ≤ 13) := by omega
theorem om_1883 {a b c d : Int} (h0 : (a = (b) + (1))) (h1 : (b = 2 * c)) (h2 : (c < d)) (h3 : (d ≤ 6)) : (a ≤ 13) := by omega
theorem om_1884 {a b : Int} (h0 : (b = 2 * a)) (h1 : (b ≤ 14)) : (a + 1 ≤ 2147483647) := by omega
theorem om_1885 {a b c : Int} (h0 : (a = b + 1)) (h1 : (0 ≤ b)) (h2 : (c = 2 * b)) (h3 : (c ≤ 14)) : ((0 ≤ a ∧ a ≤ 2147483647)) := by omega
theorem om_1886 {a b c d e : Int} (h0 : (b = c + 1)) (h1 : (a = (d) + (1))) (h2 : (d = (e) + (1))) (h3 : (e = 2 * c)) : ((a = 2 * b)) := by omega
set_option maxHeartbeats 4000000 in
set_option maxRecDepth 100000 in
theorem k_X12_image (l : Launch) (D : va_G) (cB cC cI cJ : ClassId) (sz : Nat) (a0 a1 a2 a3 a4 a5 a6 a7 a8 a9 a10 a11 a12 a13 a14 a15 a16 a17 a18 a19 a20 a21 a22 a23 a24 a25 a26 a27 a28 a29 a30 a31 a32 a33 a34 a35 a36 a37 a38 a39 a40 a41 a42 a43 : Nat) (x0 x1 x2 x3 x4 x5 x6 x7 x8 x9 x10 x11 x12 x13 x14 x15 x16 x17 x18 x19 x20 x21 x22 x23 x24 x25 x26 x27 : Int32) (y0 y1 : Int64) (f0 f1 : Nat → Int32) (h_x0 : zBd x0.toInt 0 1600) (h_x1 : zBd x1.toInt 0 1600) (h_x2 : zBd x2.toInt 0 1600) (h_x3 : zBd x3.toInt (-1) 1600) (h_x4 : zBd x4.toInt 0 4) (h_x5 : zBd x5.toInt (-1) 1600) (h_x8 : zBd x8.toInt 0 8) (h_x9 : zBd x9.toInt 0 5) (h_x10 : zBd x10.toInt 0 6) (h_x11 : zBd x11.toInt 0 6) (h_x12 : zBd x12.toInt 0 16) (h_x14 : zBd x14.toInt 0 60) (h_x15 : zBd x15.toInt 0 1600) (h_x16 : zBd x16.toInt 0 1700) (h_x18 : zBd x18.toInt 0 1700) (h_x19 : zBd x19.toInt 0 1700) (h_x20 : zBd x20.toInt 0 200) (h_x21 : zBd x21.toInt 0 40) (h_x22 : zBd x22.toInt 0 40) (h_x23 : zBd x23.toInt 0 1) (h_x24 : zBd x24.toInt 0 14) (h_x25 : zBd x25.toInt 0 200) (h_x26 : zBd x26.toInt 0 40) (h_x27 : zBd x27.toInt 0 40) (hr_a0_0 : (x21.toInt ≤ x20.toInt)) (hr_a0_1 : (x20.toInt + x22.toInt ≤ 200)) (hr_a0_2 : (x9.toInt = 0 ∨ 2 ≤ x8.toInt)) (hf_f1 : (∀ j, (-1100000) ≤ (f1 j).toInt ∧ (f1 j).toInt ≤ 1100000)) : Met l yX12_image (.code yX12_image cX12_image 2 (some .int) :: lw_gd) ({ frames := 1, cells := 0, slots := 0, locals := 23 }) (gPre D [(cB, .byte), (cC, .char), (cI, .int), (cJ, .long)] [.ref a0] (zS_98 cB cC cI cJ a0 a1 x0 x1 x2 x3 x4 x5 x6 x7 a2 a3 a4 a5 a6 a7 a8 a9 a10 a11 a12 a13 a14 a15 a16 x8 x9 x10 x11 x12 x13 a17 a18 a19 x14 a20 x15 a21 x16 x17 a22 a23 a24 a25 x18 a26 x19 a27 a28 a29 y0 a30 a31 a32 a33 a34 a35 a36 a37 a38 x20 x21 x22 y1 a39 x23 a40 a41 a42 a43 x24 x25 x26 x27 a43 f0 a28 f1) sz) (va_Qi (fun r u => (1 ≤ r.toInt ∧ r.toInt ≤ 15) ∧ (0 ≤ (u.2.2.2.1 0).toInt ∧ (u.2.2.2.1 0).toInt ≤ 14) ∧ (r.toInt = 2 * x10.toInt + 2 ∧ 0 ≤ x10.toInt)) (gB D (va_A (zS_98 cB cC cI cJ a0 a1 x0 x1 x2 x3 x4 x5 x6 x7 a2 a3 a4 a5 a6 a7 a8 a9 a10 a11 a12 a13 a14 a15 a16 x8 x9 x10 x11 x12 x13 a17 a18 a19 x14 a20 x15 a21 x16 x17 a22 a23 a24 a25 x18 a26 x19 a27 a28 a29 y0 a30 a31 a32 a33 a34 a35 a36 a37 a38 x20 x21 x22 y1 a39 x23 a40 a41 a42 a43 x24 x25 x26 x27 a43 f0 a28 f1) sz) (fun u : gEx => (zS_98 cB cC cI cJ a0 a1 x0 x1 x2 x3 x4 x5 x6 x7 a2 a3 a4 a5 a6 a7 a8 a9 a10 a11 a12 a13 a14 a15 a16 x8 x9 x10 x11 x12 x13 a17 a18 a19 x14 a20 x15 a21 x16 x17 a22 a23 a24 a25 x18 a26 x19 a27 a28 a29 y0 a30 a31 a32 a33 a34 a35 a36 a37 a38 x20 x21 x22 y1 a39 x23 a40 a41 a42 a43 (u.2.2.2.1 0) x25 x26 x27 a43 (u.2.1 0) a28 f1))) (va_A (zS_98 cB cC cI cJ a0 a1 x0 x1 x2 x3 x4 x5 x6 x7 a2 a3 a4 a5 a6 a7 a8 a9 a10 a11 a12 a13 a14 a15 a16 x8 x9 x10 x11 x12 x13 a17 a18 a19 x14 a20 x15 a21 x16 x17 a22 a23 a24 a25 x18 a26 x19 a27 a28 a29 y0 a30 a31 a32 a33 a34 a35 a36 a37 a38 x20 x21 x22 y1 a39 x23 a40 a41 a42 a43 x24 x25 x26 x27 a43 f0 a28 f1) sz)) 0 0 (va_A (zS_98 cB cC cI cJ a0 a1 x0 x1 x2 x3 x4 x5 x6 x7 a2 a3 a4 a5 a6 a7 a8 a9 a10 a11 a12 a13 a14 a15 a16 x8 x9 x10 x11 x12 x13 a17 a18 a19 x14 a20 x15 a21 x16 x17 a22 a23 a24 a25 x18 a26 x19 a27 a28 a29 y0 a30 a31 a32 a33 a34 a35 a36 a37 a38 x20 x21 x22 y1 a39 x23 a40 a41 a42 a43 x24 x25 x26 x27 a43 f0 a28 f1) sz) := by
  refine gOf_i (by decide +kernel) (Nat.le_of_ble_eq_true rfl) ?_
  intro p e s m args below meth c ls A Q hx hb hts hown hml hN hK hP hD hA hl hret
  replace hown : s.vm.findClass RX12 = some m.cls := hown
  have hS : va_S A s.heap s.heap [] := va_S.rf
  replace hP : va_P D gcl (zS_98 cB cC cI cJ a0 a1 x0 x1 x2 x3 x4 x5 x6 x7 a2 a3 a4 a5 a6 a7 a8 a9 a10 a11 a12 a13 a14 a15 a16 x8 x9 x10 x11 x12 x13 a17 a18 a19 x14 a20 x15 a21 x16 x17 a22 a23 a24 a25 x18 a26 x19 a27 a28 a29 y0 a30 a31 a32 a33 a34 a35 a36 a37 a38 x20 x21 x22 y1 a39 x23 a40 a41 a42 a43 x24 x25 x26 x27 a43 f0 a28 f1) s.heap := hP
  replace hl : lv_has ls 2 [(0, .ref a0)] := hl
  have rx6 : zBd x6.toInt (-2147483648) 2147483647 := n_rng x6
  have rx7 : zBd x7.toInt (-2147483648) 2147483647 := n_rng x7
  have rx13 : zBd x13.toInt (-2147483648) 2147483647 := n_rng x13
  have rx17 : zBd x17.toInt (-2147483648) 2147483647 := n_rng x17
  have ry0 := n_rngL y0
  have ry1 := n_rngL y1
  refine lv_aload_n (pc := 0) hx hb dX12_image_0 rfl (lv_at hl 0 rfl) ?_
  refine lv_iconst (pc := 1) (v := 0) hx hb dX12_image_1 (by decide) ?_
  refine va_put (pc := 2) (ci := 12) (v := .int 0) (ty := .int) (C := RX12) (T := TX12) (N := 73) hx hb hts iX12 tyX12 tyX12_ok nmX12 hown hK hP hD hS 0 rfl rfl 69 (by decide) (hts _ tw_1470) (fun _ h9 => h9) rfl (by decide +kernel) (by decide +kernel) (by decide +kernel) (Nat.le_of_ble_eq_true rfl) dX12_image_2 (fun H locs hP hD hS => ?_)
  replace hP : va_P D gcl (zS_98 cB cC cI cJ a0 a1 x0 x1 x2 x3 x4 x5 x6 x7 a2 a3 a4 a5 a6 a7 a8 a9 a10 a11 a12 a13 a14 a15 a16 x8 x9 x10 x11 x12 x13 a17 a18 a19 x14 a20 x15 a21 x16 x17 a22 a23 a24 a25 x18 a26 x19 a27 a28 a29 y0 a30 a31 a32 a33 a34 a35 a36 a37 a38 x20 x21 x22 y1 a39 x23 a40 a41 a42 a43 0 x25 x26 x27 a43 f0 a28 f1) H := hP
  replace hD : va_D A (zS_98 cB cC cI cJ a0 a1 x0 x1 x2 x3 x4 x5 x6 x7 a2 a3 a4 a5 a6 a7 a8 a9 a10 a11 a12 a13 a14 a15 a16 x8 x9 x10 x11 x12 x13 a17 a18 a19 x14 a20 x15 a21 x16 x17 a22 a23 a24 a25 x18 a26 x19 a27 a28 a29 y0 a30 a31 a32 a33 a34 a35 a36 a37 a38 x20 x21 x22 y1 a39 x23 a40 a41 a42 a43 0 x25 x26 x27 a43 f0 a28 f1) := hD
  refine lv_iconst (pc := 5) (v := 0) hx hb dX12_image_5 (by decide) ?_
  refine lv_istore_n (pc := 6) (lv' := [(1, .int 0), (0, .ref a0)]) hx hb dX12_image_6 rfl hl (by decide) rfl (fun ls hl => ?_)
  have lp_8 : ∀ (n : Nat) (x_1 x_3 : Int32) (f_5 : Nat → Int32) (H : Heap) (locs : List Loc) (ls : Array Slot), (0 ≤ x_1.toInt ∧ x_1.toInt ≤ 2147483647) → (0 ≤ x_3.toInt ∧ x_3.toInt ≤ 14) → (x_3.toInt = 2 * x_1.toInt) → (x_1.toInt ≤ x10.toInt) → (2147483647 - x_1.toInt).toNat < n → va_P D gcl (zS_98 cB cC cI cJ a0 a1 x0 x1 x2 x3 x4 x5 x6 x7 a2 a3 a4 a5 a6 a7 a8 a9 a10 a11 a12 a13 a14 a15 a16 x8 x9 x10 x11 x12 x13 a17 a18 a19 x14 a20 x15 a21 x16 x17 a22 a23 a24 a25 x18 a26 x19 a27 a28 a29 y0 a30 a31 a32 a33 a34 a35 a36 a37 a38 x20 x21 x22 y1 a39 x23 a40 a41 a42 a43 x_3 x25 x26 x27 a43 f_5 a28 f1) H → va_D A (zS_98 cB cC cI cJ a0 a1 x0 x1 x2 x3 x4 x5 x6 x7 a2 a3 a4 a5 a6 a7 a8 a9 a10 a11 a12 a13 a14 a15 a16 x8 x9 x10 x11 x12 x13 a17 a18 a19 x14 a20 x15 a21 x16 x17 a22 a23 a24 a25 x18 a26 x19 a27 a28 a29 y0 a30 a31 a32 a33 a34 a35 a36 a37 a38 x20 x21 x22 y1 a39 x23 a40 a41 a42 a43 x_3 x25 x26 x27 a43 f_5 a28 f1) → va_S A s.heap H locs → lv_has ls 2 [(1, .int x_1), (0, .ref a0)] → W p l e ({ frames := 1, cells := 0, slots := 0, locals := 23 }) s m args below meth c H locs 0 0 Q (F0 m 7 ls []) := by
    intro n
    induction n with
    | zero => intro x_1 x_3 f_5 H locs ls hi_2 hi_4 hi_6 hi_7 hmu; exact absurd hmu (Nat.not_lt_zero _)
    | succ n ih_lp_8 =>
      intro x_1 x_3 f_5 H locs ls hi_2 hi_4 hi_6 hi_7 hmu_lp_8 hP hD hS hl
      refine lv_iload_n (pc := 7) hx hb dX12_image_7 rfl (lv_at hl 0 rfl) ?_
      refine lv_aload_n (pc := 8) hx hb dX12_image_8 rfl (lv_at hl 1 rfl) ?_
      refine va_get (pc := 9) (ci := 12) (v := .int x10) (C := RX12) (T := TX12) (N := 73) hx hb hts iX12 hown hK hP 0 rfl rfl 26 (by decide) (hts _ tw_1427) (fun _ h9 => h9) rfl dX12_image_9 ?_
      have bd_h_x10 : 0 ≤ x10.toInt ∧ x10.toInt ≤ 6 := h_x10
      refine b_icmp_ge (pc := 12) (tgt := 52) hx hb rfl rfl  dX12_image_12 (by decide) (fun c_9 => ?_) (fun c_9 => ?_)
      ·
        as_aux_lemma =>
          refine lv_aload_n (pc := 52) hx hb dX12_image_52 rfl (lv_at hl 1 rfl) ?_
          refine lv_aload_n (pc := 53) hx hb dX12_image_53 rfl (lv_at hl 1 rfl) ?_
          refine va_get (pc := 54) (ci := 12) (v := .int x20) (C := RX12) (T := TX12) (N := 73) hx hb hts iX12 hown hK hP 0 rfl rfl 59 (by decide) (hts _ tw_1460) (fun _ h9 => h9) rfl dX12_image_54 ?_
          have bd_h_x20 : 0 ≤ x20.toInt ∧ x20.toInt ≤ 200 := h_x20
          refine gd_v (pc := 57) (wc := (zS_70 cB cC cI cJ a0 a1 x0 x1 x2 x3 x4 x5 x6 x7 a2 a3 a4 a5 a6 a7 a8 a9 a10 a11 a12 a13 a14 a15 a16 x8 x9 x10 x11 x12 x13 a17 a18 a19 x14 a20 x15 a21 x16 x17 a22 a23 a24 a25 x18 a26 x19 a27 a28 a29 y0 a30 a31 a32 a33 a34 a35 a36 a37 a38 x20 x21 x22 y1 a39 x23 a40 a41 a42 a43 x_3 x25 x26 x27 a43 f_5)) hP hD hS hA [0, 1] rfl (by decide +kernel) (fun _ => by rfl) (fun hPc hDc => va_runV (As := [.int x20]) (rest := []) ⟨hx, hb, hml, hown, hts⟩ (k_X12_writes l D cB cC cI cJ _ a0 a1 a2 a3 a4 a5 a6 a7 a8 a9 a10 a11 a12 a13 a14 a15 a16 a17 a18 a19 a20 a21 a22 a23 a24 a25 a26 a27 a28 a29 a30 a31 a32 a33 a34 a35 a36 a37 a38 a39 a40 a41 a42 a43 x20 x0 x1 x2 x3 x4 x5 x6 x7 x8 x9 x10 x11 x12 x13 x14 x15 x16 x17 x18 x19 x20 x21 x22 x23 x_3 x25 x26 x27 y0 y1 f_5 h_x0 h_x1 h_x2 h_x3 h_x4 h_x5 h_x8 h_x9 h_x10 h_x11 h_x12 h_x14 h_x15 h_x16 h_x18 h_x19 h_x20 h_x21 h_x22 h_x23 hi_4 h_x25 h_x26 h_x27 hr_a0_0 hr_a0_1 hr_a0_2 (by first | exact (om_1876 hi_6 hi_7 h_x10.2) | ((first | omega | (unfold zBd at *; omega))))) ⟨gcwB hts tw_2089 tw_14 tw_2086 hd_yX12_writes ⟨Nat.le_of_ble_eq_true rfl, Nat.le_of_ble_eq_true rfl⟩, hts _ tw_2088, hts _ tp_122⟩ ⟨gblind, va_recv hK hPc (ci := 12) (q0 := 0) rfl rfl, (gpreS hPc hK hDc hN).2⟩ rfl rfl hl.1 rfl (lv_room (Nat.le_of_ble_eq_true rfl)) dX12_image_57 ⟨Nat.le_of_ble_eq_true rfl, Nat.le_of_ble_eq_true rfl⟩) (fun u_10 H locs hw_12 hP hD hS => ?_)
          replace hP : va_P D gcl (zS_98 cB cC cI cJ a0 a1 x0 x1 x2 x3 x4 x5 x6 x7 a2 a3 a4 a5 a6 a7 a8 a9 a10 a11 a12 a13 a14 a15 a16 x8 x9 x10 x11 x12 x13 a17 a18 a19 x14 a20 x15 a21 x16 x17 a22 a23 a24 a25 x18 a26 x19 a27 a28 a29 y0 a30 a31 a32 a33 a34 a35 a36 a37 a38 x20 x21 x22 y1 a39 x23 a40 a41 a42 a43 (u_10.2.2.2.1 0) x25 x26 x27 a43 (u_10.2.1 0) a28 f1) H := hP
          replace hD : va_D A (zS_98 cB cC cI cJ a0 a1 x0 x1 x2 x3 x4 x5 x6 x7 a2 a3 a4 a5 a6 a7 a8 a9 a10 a11 a12 a13 a14 a15 a16 x8 x9 x10 x11 x12 x13 a17 a18 a19 x14 a20 x15 a21 x16 x17 a22 a23 a24 a25 x18 a26 x19 a27 a28 a29 y0 a30 a31 a32 a33 a34 a35 a36 a37 a38 x20 x21 x22 y1 a39 x23 a40 a41 a42 a43 (u_10.2.2.2.1 0) x25 x26 x27 a43 (u_10.2.1 0) a28 f1) := hD
          obtain ⟨hw_13, hw_14⟩ := hw_12
          replace hw_13 : (((u_10.2.2.2.1 0).toInt = (x_3.toInt) + (1))) := hw_13
          replace hw_14 : zBd (u_10.2.2.2.1 0).toInt 0 14 := hw_14
          refine lv_aload_n (pc := 60) hx hb dX12_image_60 rfl (lv_at hl 1 rfl) ?_
          refine lv_aload_n (pc := 61) hx hb dX12_image_61 rfl (lv_at hl 1 rfl) ?_
          refine va_get (pc := 62) (ci := 12) (v := .ref a43) (C := RX12) (T := TX12) (N := 73) hx hb hts iX12 hown hK hP 0 rfl rfl 68 (by decide) (hts _ tw_1469) (fun _ h9 => h9) rfl dX12_image_62 ?_
          refine lv_aload_n (pc := 65) hx hb dX12_image_65 rfl (lv_at hl 1 rfl) ?_
          refine va_get (pc := 66) (ci := 12) (v := .int (u_10.2.2.2.1 0)) (C := RX12) (T := TX12) (N := 73) hx hb hts iX12 hown hK hP 0 rfl rfl 69 (by decide) (hts _ tw_1470) (fun _ h9 => h9) rfl dX12_image_66 ?_
          have bd_hw_14 : 0 ≤ (u_10.2.2.2.1 0).toInt ∧ (u_10.2.2.2.1 0).toInt ≤ 14 := hw_14
          refine gd_i (pc := 69) (wc := [(a43, .inl (cI, 20, .inl (u_10.2.1 0)))]) hP hD hS hA [1] rfl (by decide +kernel) (fun _ => by rfl) (fun hPc hDc => va_runS (As := [.ref a43, .int (u_10.2.2.2.1 0)]) (rest := [.ref a0]) ⟨hx, hb, hml, hown, hts⟩ (k_X12_checked_20 l D cB cC cI cJ _ a43 (u_10.2.2.2.1 0) (u_10.2.1 0) (by first | exact (om_1877 hw_14.1 hw_14.2) | ((first | omega | (unfold zBd at *; omega)))) (by first | exact (om_1878 hw_14.2) | ((first | omega | (unfold zBd at *; omega))))) ⟨gcwB hts tw_2092 tw_14 tw_2090 hd_yX12_checked ⟨Nat.le_of_ble_eq_true rfl, Nat.le_of_ble_eq_true rfl⟩, hts _ tw_2091⟩ (gpreS hPc hK hDc hN) rfl rfl hl.1 rfl (lv_room (Nat.le_of_ble_eq_true rfl)) dX12_image_69 ⟨Nat.le_of_ble_eq_true rfl, Nat.le_of_ble_eq_true rfl⟩) (fun r_16 u_15 H locs hw_17 hP hD hS => ?_)
          replace hP : va_P D gcl (zS_98 cB cC cI cJ a0 a1 x0 x1 x2 x3 x4 x5 x6 x7 a2 a3 a4 a5 a6 a7 a8 a9 a10 a11 a12 a13 a14 a15 a16 x8 x9 x10 x11 x12 x13 a17 a18 a19 x14 a20 x15 a21 x16 x17 a22 a23 a24 a25 x18 a26 x19 a27 a28 a29 y0 a30 a31 a32 a33 a34 a35 a36 a37 a38 x20 x21 x22 y1 a39 x23 a40 a41 a42 a43 (u_10.2.2.2.1 0) x25 x26 x27 a43 (u_10.2.1 0) a28 f1) H := hP
          replace hD : va_D A (zS_98 cB cC cI cJ a0 a1 x0 x1 x2 x3 x4 x5 x6 x7 a2 a3 a4 a5 a6 a7 a8 a9 a10 a11 a12 a13 a14 a15 a16 x8 x9 x10 x11 x12 x13 a17 a18 a19 x14 a20 x15 a21 x16 x17 a22 a23 a24 a25 x18 a26 x19 a27 a28 a29 y0 a30 a31 a32 a33 a34 a35 a36 a37 a38 x20 x21 x22 y1 a39 x23 a40 a41 a42 a43 (u_10.2.2.2.1 0) x25 x26 x27 a43 (u_10.2.1 0) a28 f1) := hD
          have hw_18 : ((((-2147483648) ≤ r_16.toInt ∧ r_16.toInt ≤ 2147483647) ∧ (0 ≤ (u_10.2.2.2.1 0).toInt ∧ (u_10.2.2.2.1 0).toInt ≤ 1600))) := hw_17
          have rr_16 : zBd r_16.toInt (-2147483648) 2147483647 := n_rng r_16
          as_aux_lemma =>
            refine gd_v (pc := 72) (wc := (zS_70 cB cC cI cJ a0 a1 x0 x1 x2 x3 x4 x5 x6 x7 a2 a3 a4 a5 a6 a7 a8 a9 a10 a11 a12 a13 a14 a15 a16 x8 x9 x10 x11 x12 x13 a17 a18 a19 x14 a20 x15 a21 x16 x17 a22 a23 a24 a25 x18 a26 x19 a27 a28 a29 y0 a30 a31 a32 a33 a34 a35 a36 a37 a38 x20 x21 x22 y1 a39 x23 a40 a41 a42 a43 (u_10.2.2.2.1 0) x25 x26 x27 a43 (u_10.2.1 0))) hP hD hS hA [0, 1] rfl (by decide +kernel) (fun _ => by rfl) (fun hPc hDc => va_runV (As := [.int r_16]) (rest := []) ⟨hx, hb, hml, hown, hts⟩ (k_X12_writes l D cB cC cI cJ _ a0 a1 a2 a3 a4 a5 a6 a7 a8 a9 a10 a11 a12 a13 a14 a15 a16 a17 a18 a19 a20 a21 a22 a23 a24 a25 a26 a27 a28 a29 a30 a31 a32 a33 a34 a35 a36 a37 a38 a39 a40 a41 a42 a43 r_16 x0 x1 x2 x3 x4 x5 x6 x7 x8 x9 x10 x11 x12 x13 x14 x15 x16 x17 x18 x19 x20 x21 x22 x23 (u_10.2.2.2.1 0) x25 x26 x27 y0 y1 (u_10.2.1 0) h_x0 h_x1 h_x2 h_x3 h_x4 h_x5 h_x8 h_x9 h_x10 h_x11 h_x12 h_x14 h_x15 h_x16 h_x18 h_x19 h_x20 h_x21 h_x22 h_x23 hw_14 h_x25 h_x26 h_x27 hr_a0_0 hr_a0_1 hr_a0_2 (by first | exact (om_1879 hw_13 hi_6 hi_7 h_x10.2) | ((first | omega | (unfold zBd at *; omega))))) ⟨gcwB hts tw_2089 tw_14 tw_2086 hd_yX12_writes ⟨Nat.le_of_ble_eq_true rfl, Nat.le_of_ble_eq_true rfl⟩, hts _ tw_2088, hts _ tp_122⟩ ⟨gblind, va_recv hK hPc (ci := 12) (q0 := 0) rfl rfl, (gpreS hPc hK hDc hN).2⟩ rfl rfl hl.1 rfl (lv_room (Nat.le_of_ble_eq_true rfl)) dX12_image_72 ⟨Nat.le_of_ble_eq_true rfl, Nat.le_of_ble_eq_true rfl⟩) (fun u_19 H locs hw_21 hP hD hS => ?_)
            replace hP : va_P D gcl (zS_98 cB cC cI cJ a0 a1 x0 x1 x2 x3 x4 x5 x6 x7 a2 a3 a4 a5 a6 a7 a8 a9 a10 a11 a12 a13 a14 a15 a16 x8 x9 x10 x11 x12 x13 a17 a18 a19 x14 a20 x15 a21 x16 x17 a22 a23 a24 a25 x18 a26 x19 a27 a28 a29 y0 a30 a31 a32 a33 a34 a35 a36 a37 a38 x20 x21 x22 y1 a39 x23 a40 a41 a42 a43 (u_19.2.2.2.1 0) x25 x26 x27 a43 (u_19.2.1 0) a28 f1) H := hP
            replace hD : va_D A (zS_98 cB cC cI cJ a0 a1 x0 x1 x2 x3 x4 x5 x6 x7 a2 a3 a4 a5 a6 a7 a8 a9 a10 a11 a12 a13 a14 a15 a16 x8 x9 x10 x11 x12 x13 a17 a18 a19 x14 a20 x15 a21 x16 x17 a22 a23 a24 a25 x18 a26 x19 a27 a28 a29 y0 a30 a31 a32 a33 a34 a35 a36 a37 a38 x20 x21 x22 y1 a39 x23 a40 a41 a42 a43 (u_19.2.2.2.1 0) x25 x26 x27 a43 (u_19.2.1 0) a28 f1) := hD
            obtain ⟨hw_22, hw_23⟩ := hw_21
            replace hw_22 : (((u_19.2.2.2.1 0).toInt = ((u_10.2.2.2.1 0).toInt) + (1))) := hw_22
            replace hw_23 : zBd (u_19.2.2.2.1 0).toInt 0 14 := hw_23
            refine lv_aload_n (pc := 75) hx hb dX12_image_75 rfl (lv_at hl 1 rfl) ?_
            refine va_get (pc := 76) (ci := 12) (v := .int (u_19.2.2.2.1 0)) (C := RX12) (T := TX12) (N := 73) hx hb hts iX12 hown hK hP 0 rfl rfl 69 (by decide) (hts _ tw_1470) (fun _ h9 => h9) rfl dX12_image_76 ?_
            have bd_hw_23 : 0 ≤ (u_19.2.2.2.1 0).toInt ∧ (u_19.2.2.2.1 0).toInt ≤ 14 := hw_23
            have hP9 : va_P D gcl (zS_98 cB cC cI cJ a0 a1 x0 x1 x2 x3 x4 x5 x6 x7 a2 a3 a4 a5 a6 a7 a8 a9 a10 a11 a12 a13 a14 a15 a16 x8 x9 x10 x11 x12 x13 a17 a18 a19 x14 a20 x15 a21 x16 x17 a22 a23 a24 a25 x18 a26 x19 a27 a28 a29 y0 a30 a31 a32 a33 a34 a35 a36 a37 a38 x20 x21 x22 y1 a39 x23 a40 a41 a42 a43 (u_19.2.2.2.1 0) x25 x26 x27 a43 (u_19.2.1 0) a28 f1) H := g_psub hP [0, 1, 2] rfl
            have hD9 : va_D A (zS_98 cB cC cI cJ a0 a1 x0 x1 x2 x3 x4 x5 x6 x7 a2 a3 a4 a5 a6 a7 a8 a9 a10 a11 a12 a13 a14 a15 a16 x8 x9 x10 x11 x12 x13 a17 a18 a19 x14 a20 x15 a21 x16 x17 a22 a23 a24 a25 x18 a26 x19 a27 a28 a29 y0 a30 a31 a32 a33 a34 a35 a36 a37 a38 x20 x21 x22 y1 a39 x23 a40 a41 a42 a43 (u_19.2.2.2.1 0) x25 x26 x27 a43 (u_19.2.1 0) a28 f1) := hD.sub [0, 1, 2] (by decide) rfl
            exact hret (u_19.2.2.2.1 0) ((fun _ => 0), (fun k => [(u_19.2.1 0)].getD k (fun _ => 0)), (fun _ => (fun _ => 0)), (fun k => [(u_19.2.2.2.1 0)].getD k 0), (fun _ => 0)) dX12_image_79 ⟨(show (1 ≤ (u_19.2.2.2.1 0).toInt ∧ (u_19.2.2.2.1 0).toInt ≤ 15) from (by first | exact (om_1880 hw_22 hw_18.2.1 hw_23.2) | ((first | omega | (unfold zBd at *; omega))))), (show (0 ≤ ((u_19.2.2.2.1 0) : Int32).toInt ∧ ((u_19.2.2.2.1 0) : Int32).toInt ≤ 14) from hw_23), (show (u_19.2.2.2.1 0).toInt = 2 * x10.toInt + 2 ∧ 0 ≤ x10.toInt from (by first | exact (om_1881 hw_22 c_9 hw_13 hi_6 hi_7 h_x10.1) | ((first | omega | (unfold zBd at *; omega)))))⟩ hP9 hD9 hS
      ·
        as_aux_lemma =>
          refine lv_aload_n (pc := 15) hx hb dX12_image_15 rfl (lv_at hl 1 rfl) ?_
          refine lv_aload_n (pc := 16) hx hb dX12_image_16 rfl (lv_at hl 1 rfl) ?_
          refine va_get (pc := 17) (ci := 12) (v := .ref a28) (C := RX12) (T := TX12) (N := 73) hx hb hts iX12 hown hK hP 0 rfl rfl 47 (by decide) (hts _ tw_1448) (fun _ h9 => h9) rfl dX12_image_17 ?_
          refine lv_iload_n (pc := 20) hx hb dX12_image_20 rfl (lv_at hl 0 rfl) ?_
          refine va_iald (pc := 21) hx hb hK hP 2 2 rfl rfl (n_in rfl (by first | exact (om_0 hi_2.1) | ((first | omega | (unfold zBd at *; omega)))) (by first | exact (om_1082 c_9 h_x10.2) | ((first | omega | (unfold zBd at *; omega))))) dX12_image_21 ?_
          refine lv_topi (fun x_24 ex_24 => ?_)
          have rx_24 : ((-1100000) ≤ x_24.toInt ∧ x_24.toInt ≤ 1100000) := by rw [ex_24]; exact hf_f1 _
          refine lv_bipush (pc := 22) (v := 8) hx hb dX12_image_22 (by decide) ?_
          refine lv_ishr (pc := 24) hx hb dX12_image_24 ?_
          refine lv_topi (fun x_25 _ => ?_)
          have rx_25 : zBd x_25.toInt (-2147483648) 2147483647 := n_rng x_25
          refine lv_sipush (pc := 25) (v := 255) hx hb dX12_image_25 (by decide) ?_
          as_aux_lemma =>
            refine b_iand (pc := 28) (M := 255) hx hb 8 (by decide +kernel) (by decide) (by decide) dX12_image_28 (fun x_26 ex_26 => ?_)
            have rx_26 : (0 ≤ x_26.toInt ∧ x_26.toInt ≤ 255) := ex_26
            refine gd_v (pc := 29) (wc := (zS_70 cB cC cI cJ a0 a1 x0 x1 x2 x3 x4 x5 x6 x7 a2 a3 a4 a5 a6 a7 a8 a9 a10 a11 a12 a13 a14 a15 a16 x8 x9 x10 x11 x12 x13 a17 a18 a19 x14 a20 x15 a21 x16 x17 a22 a23 a24 a25 x18 a26 x19 a27 a28 a29 y0 a30 a31 a32 a33 a34 a35 a36 a37 a38 x20 x21 x22 y1 a39 x23 a40 a41 a42 a43 x_3 x25 x26 x27 a43 f_5)) hP hD hS hA [0, 1] rfl (by decide +kernel) (fun _ => by rfl) (fun hPc hDc => va_runV (As := [.int x_26]) (rest := []) ⟨hx, hb, hml, hown, hts⟩ (k_X12_writes l D cB cC cI cJ _ a0 a1 a2 a3 a4 a5 a6 a7 a8 a9 a10 a11 a12 a13 a14 a15 a16 a17 a18 a19 a20 a21 a22 a23 a24 a25 a26 a27 a28 a29 a30 a31 a32 a33 a34 a35 a36 a37 a38 a39 a40 a41 a42 a43 x_26 x0 x1 x2 x3 x4 x5 x6 x7 x8 x9 x10 x11 x12 x13 x14 x15 x16 x17 x18 x19 x20 x21 x22 x23 x_3 x25 x26 x27 y0 y1 f_5 h_x0 h_x1 h_x2 h_x3 h_x4 h_x5 h_x8 h_x9 h_x10 h_x11 h_x12 h_x14 h_x15 h_x16 h_x18 h_x19 h_x20 h_x21 h_x22 h_x23 hi_4 h_x25 h_x26 h_x27 hr_a0_0 hr_a0_1 hr_a0_2 (by first | exact (om_1882 hi_6 c_9 h_x10.2) | ((first | omega | (unfold zBd at *; omega))))) ⟨gcwB hts tw_2089 tw_14 tw_2086 hd_yX12_writes ⟨Nat.le_of_ble_eq_true rfl, Nat.le_of_ble_eq_true rfl⟩, hts _ tw_2088, hts _ tp_122⟩ ⟨gblind, va_recv hK hPc (ci := 12) (q0 := 0) rfl rfl, (gpreS hPc hK hDc hN).2⟩ rfl rfl hl.1 rfl (lv_room (Nat.le_of_ble_eq_true rfl)) dX12_image_29 ⟨Nat.le_of_ble_eq_true rfl, Nat.le_of_ble_eq_true rfl⟩) (fun u_27 H locs hw_29 hP hD hS => ?_)
            replace hP : va_P D gcl (zS_98 cB cC cI cJ a0 a1 x0 x1 x2 x3 x4 x5 x6 x7 a2 a3 a4 a5 a6 a7 a8 a9 a10 a11 a12 a13 a14 a15 a16 x8 x9 x10 x11 x12 x13 a17 a18 a19 x14 a20 x15 a21 x16 x17 a22 a23 a24 a25 x18 a26 x19 a27 a28 a29 y0 a30 a31 a32 a33 a34 a35 a36 a37 a38 x20 x21 x22 y1 a39 x23 a40 a41 a42 a43 (u_27.2.2.2.1 0) x25 x26 x27 a43 (u_27.2.1 0) a28 f1) H := hP
            replace hD : va_D A (zS_98 cB cC cI cJ a0 a1 x0 x1 x2 x3 x4 x5 x6 x7 a2 a3 a4 a5 a6 a7 a8 a9 a10 a11 a12 a13 a14 a15 a16 x8 x9 x10 x11 x12 x13 a17 a18 a19 x14 a20 x15 a21 x16 x17 a22 a23 a24 a25 x18 a26 x19 a27 a28 a29 y0 a30 a31 a32 a33 a34 a35 a36 a37 a38 x20 x21 x22 y1 a39 x23 a40 a41 a42 a43 (u_27.2.2.2.1 0) x25 x26 x27 a43 (u_27.2.1 0) a28 f1) := hD
            obtain ⟨hw_30, hw_31⟩ := hw_29
            replace hw_30 : (((u_27.2.2.2.1 0).toInt = (x_3.toInt) + (1))) := hw_30
            replace hw_31 : zBd (u_27.2.2.2.1 0).toInt 0 14 := hw_31
            refine lv_aload_n (pc := 32) hx hb dX12_image_32 rfl (lv_at hl 1 rfl) ?_
            refine lv_aload_n (pc := 33) hx hb dX12_image_33 rfl (lv_at hl 1 rfl) ?_
            refine va_get (pc := 34) (ci := 12) (v := .ref a28) (C := RX12) (T := TX12) (N := 73) hx hb hts iX12 hown hK hP 0 rfl rfl 47 (by decide) (hts _ tw_1448) (fun _ h9 => h9) rfl dX12_image_34 ?_
            refine lv_iload_n (pc := 37) hx hb dX12_image_37 rfl (lv_at hl 0 rfl) ?_
            refine va_iald (pc := 38) hx hb hK hP 2 2 rfl rfl (n_in rfl (by first | exact (om_0 hi_2.1) | ((first | omega | (unfold zBd at *; omega)))) (by first | exact (om_1082 c_9 h_x10.2) | ((first | omega | (unfold zBd at *; omega))))) dX12_image_38 ?_
            refine gI (y := x_24) ex_24.symm ?_
            refine lv_sipush (pc := 39) (v := 255) hx hb dX12_image_39 (by decide) ?_
            refine b_iand (pc := 42) (M := 255) hx hb 8 (by decide +kernel) (by decide) (by decide) dX12_image_42 (fun x_32 ex_32 => ?_)
            have rx_32 : (0 ≤ x_32.toInt ∧ x_32.toInt ≤ 255) := ex_32
            as_aux_lemma =>
              refine gd_v (pc := 43) (wc := (zS_70 cB cC cI cJ a0 a1 x0 x1 x2 x3 x4 x5 x6 x7 a2 a3 a4 a5 a6 a7 a8 a9 a10 a11 a12 a13 a14 a15 a16 x8 x9 x10 x11 x12 x13 a17 a18 a19 x14 a20 x15 a21 x16 x17 a22 a23 a24 a25 x18 a26 x19 a27 a28 a29 y0 a30 a31 a32 a33 a34 a35 a36 a37 a38 x20 x21 x22 y1 a39 x23 a40 a41 a42 a43 (u_27.2.2.2.1 0) x25 x26 x27 a43 (u_27.2.1 0))) hP hD hS hA [0, 1] rfl (by decide +kernel) (fun _ => by rfl) (fun hPc hDc => va_runV (As := [.int x_32]) (rest := []) ⟨hx, hb, hml, hown, hts⟩ (k_X12_writes l D cB cC cI cJ _ a0 a1 a2 a3 a4 a5 a6 a7 a8 a9 a10 a11 a12 a13 a14 a15 a16 a17 a18 a19 a20 a21 a22 a23 a24 a25 a26 a27 a28 a29 a30 a31 a32 a33 a34 a35 a36 a37 a38 a39 a40 a41 a42 a43 x_32 x0 x1 x2 x3 x4 x5 x6 x7 x8 x9 x10 x11 x12 x13 x14 x15 x16 x17 x18 x19 x20 x21 x22 x23 (u_27.2.2.2.1 0) x25 x26 x27 y0 y1 (u_27.2.1 0) h_x0 h_x1 h_x2 h_x3 h_x4 h_x5 h_x8 h_x9 h_x10 h_x11 h_x12 h_x14 h_x15 h_x16 h_x18 h_x19 h_x20 h_x21 h_x22 h_x23 hw_31 h_x25 h_x26 h_x27 hr_a0_0 hr_a0_1 hr_a0_2 (by first | exact (om_1883 hw_30 hi_6 c_9 h_x10.2) | ((first | omega | (unfold zBd at *; omega))))) ⟨gcwB hts tw_2089 tw_14 tw_2086 hd_yX12_writes ⟨Nat.le_of_ble_eq_true rfl, Nat.le_of_ble_eq_true rfl⟩, hts _ tw_2088, hts _ tp_122⟩ ⟨gblind, va_recv hK hPc (ci := 12) (q0 := 0) rfl rfl, (gpreS hPc hK hDc hN).2⟩ rfl rfl hl.1 rfl (lv_room (Nat.le_of_ble_eq_true rfl)) dX12_image_43 ⟨Nat.le_of_ble_eq_true rfl, Nat.le_of_ble_eq_true rfl⟩) (fun u_33 H locs hw_35 hP hD hS => ?_)
              replace hP : va_P D gcl (zS_98 cB cC cI cJ a0 a1 x0 x1 x2 x3 x4 x5 x6 x7 a2 a3 a4 a5 a6 a7 a8 a9 a10 a11 a12 a13 a14 a15 a16 x8 x9 x10 x11 x12 x13 a17 a18 a19 x14 a20 x15 a21 x16 x17 a22 a23 a24 a25 x18 a26 x19 a27 a28 a29 y0 a30 a31 a32 a33 a34 a35 a36 a37 a38 x20 x21 x22 y1 a39 x23 a40 a41 a42 a43 (u_33.2.2.2.1 0) x25 x26 x27 a43 (u_33.2.1 0) a28 f1) H := hP
              replace hD : va_D A (zS_98 cB cC cI cJ a0 a1 x0 x1 x2 x3 x4 x5 x6 x7 a2 a3 a4 a5 a6 a7 a8 a9 a10 a11 a12 a13 a14 a15 a16 x8 x9 x10 x11 x12 x13 a17 a18 a19 x14 a20 x15 a21 x16 x17 a22 a23 a24 a25 x18 a26 x19 a27 a28 a29 y0 a30 a31 a32 a33 a34 a35 a36 a37 a38 x20 x21 x22 y1 a39 x23 a40 a41 a42 a43 (u_33.2.2.2.1 0) x25 x26 x27 a43 (u_33.2.1 0) a28 f1) := hD
              obtain ⟨hw_36, hw_37⟩ := hw_35
              replace hw_36 : (((u_33.2.2.2.1 0).toInt = ((u_27.2.2.2.1 0).toInt) + (1))) := hw_36
              replace hw_37 : zBd (u_33.2.2.2.1 0).toInt 0 14 := hw_37
              refine b_iinc (pc := 46) hx hb dX12_image_46 hl (k := 0) rfl rfl tI_1 (by first | exact (om_2 hi_2.1) | ((first | omega | (unfold zBd at *; omega)))) (by first | exact (om_1884 hi_6 hi_4.2) | ((first | omega | (unfold zBd at *; omega)))) (by decide) (fun x_38 ex_38 ls hl => ?_)
              replace hl : lv_has ls 2 [(1, .int x_38), (0, .ref a0)] := hl
              refine lv_goto (pc := 49) (tgt := 7) hx hb dX12_image_49 (by decide) ?_
              exact ih_lp_8 x_38 (u_33.2.2.2.1 0) (u_33.2.1 0) _ _ ls (by first | exact (om_1885 ex_38 hi_2.1 hi_6 hi_4.2) | ((first | omega | (unfold zBd at *; omega)))) hw_37 (by first | exact (om_1886 ex_38 hw_36 hw_30 hi_6) | ((first | omega | (unfold zBd at *; omega)))) (by first | exact (om_40 ex_38 c_9) | ((first | omega | (unfold zBd at *; omega)))) (by (first | omega | (unfold zBd at *; omega))) hP hD hS (lv_sub hl [0, 1] rfl)
  exact lp_8 _ 0 0 f0 _ _ ls (n_c tI_0 (by decide)) (n_c tI_0 (by decide)) (by have q := tI_0; (first | omega | (unfold zBd at *; omega))) (by have q := tI_0; (first | omega | (unfold zBd at *; omega))) (Nat.lt_succ_self _) hP hD hS (lv_sub hl [0, 1] rfl)
theorem om_1887 {a b : Int} (h0 : (a < b)) (h1 : (b ≤ 14)) : (a < (20 : Nat)) := by omega
set_option maxHeartbeats 4000000 in
set_option maxRecDepth 100000 in
theorem k_X12_octet (l : Launch) (D : va_G) (cB cC cI cJ : ClassId) (sz : Nat) (a0 a1 a2 a3 a4 a5 a6 a7 a8 a9 a10 a11 a12 a13 a14 a15 a16 a17 a18 a19 a20 a21 a22 a23 a24 a25 a26 a27 a28 a29 a30 a31 a32 a33 a34 a35 a36 a37 a38 a39 a40 a41 a42 a43 : Nat) (x0 x1 x2 x3 x4 x5 x6 x7 x8 x9 x10 x11 x12 x13 x14 x15 x16 x17 x18 x19 x20 x21 x22 x23 x24 x25 x26 x27 x28 : Int32) (y0 y1 : Int64) (f0 : Nat → Int32) (h_x1 : zBd x1.toInt 0 1600) (h_x2 : zBd x2.toInt 0 1600) (h_x3 : zBd x3.toInt 0 1600) (h_x4 : zBd x4.toInt (-1) 1600) (h_x5 : zBd x5.toInt 0 4) (h_x6 : zBd x6.toInt (-1) 1600) (h_x9 : zBd x9.toInt 0 8) (h_x10 : zBd x10.toInt 0 5) (h_x11 : zBd x11.toInt 0 6) (h_x12 : zBd x12.toInt 0 6) (h_x13 : zBd x13.toInt 0 16) (h_x15 : zBd x15.toInt 0 60) (h_x16 : zBd x16.toInt 0 1600) (h_x17 : zBd x17.toInt 0 1700) (h_x19 : zBd x19.toInt 0 1700) (h_x20 : zBd x20.toInt 0 1700) (h_x21 : zBd x21.toInt 0 200) (h_x22 : zBd x22.toInt 0 40) (h_x23 : zBd x23.toInt 0 40) (h_x24 : zBd x24.toInt 0 1) (h_x25 : zBd x25.toInt 0 14) (h_x26 : zBd x26.toInt 0 200) (h_x27 : zBd x27.toInt 0 40) (h_x28 : zBd x28.toInt 0 40) (hr_a0_0 : (x22.toInt ≤ x21.toInt)) (hr_a0_1 : (x21.toInt + x23.toInt ≤ 200)) (hr_a0_2 : (x10.toInt = 0 ∨ 2 ≤ x9.toInt)) : Met l yX12_octet (.code yX12_octet cX12_octet 2 (some .int) :: lw_gd) ({ frames := 0, cells := 0, slots := 0, locals := 0 }) (gPre D [(cB, .byte), (cC, .char), (cI, .int), (cJ, .long)] [.ref a0, .int x0] (zS_70 cB cC cI cJ a0 a1 x1 x2 x3 x4 x5 x6 x7 x8 a2 a3 a4 a5 a6 a7 a8 a9 a10 a11 a12 a13 a14 a15 a16 x9 x10 x11 x12 x13 x14 a17 a18 a19 x15 a20 x16 a21 x17 x18 a22 a23 a24 a25 x19 a26 x20 a27 a28 a29 y0 a30 a31 a32 a33 a34 a35 a36 a37 a38 x21 x22 x23 y1 a39 x24 a40 a41 a42 a43 x25 x26 x27 x28 a43 f0) sz) (va_Qi (fun r u => ((r.toInt = (-1) ∧ x0.toInt < 0) ∨ (r.toInt = (-1) ∧ x0.toInt ≥ 0 ∧ x0.toInt ≥ x25.toInt) ∨ (((-2147483648) ≤ r.toInt ∧ r.toInt ≤ 2147483647) ∧ x0.toInt ≥ 0 ∧ x0.toInt < x25.toInt))) (gB D (va_A (zS_70 cB cC cI cJ a0 a1 x1 x2 x3 x4 x5 x6 x7 x8 a2 a3 a4 a5 a6 a7 a8 a9 a10 a11 a12 a13 a14 a15 a16 x9 x10 x11 x12 x13 x14 a17 a18 a19 x15 a20 x16 a21 x17 x18 a22 a23 a24 a25 x19 a26 x20 a27 a28 a29 y0 a30 a31 a32 a33 a34 a35 a36 a37 a38 x21 x22 x23 y1 a39 x24 a40 a41 a42 a43 x25 x26 x27 x28 a43 f0) sz) (fun u : gEx => (zS_70 cB cC cI cJ a0 a1 x1 x2 x3 x4 x5 x6 x7 x8 a2 a3 a4 a5 a6 a7 a8 a9 a10 a11 a12 a13 a14 a15 a16 x9 x10 x11 x12 x13 x14 a17 a18 a19 x15 a20 x16 a21 x17 x18 a22 a23 a24 a25 x19 a26 x20 a27 a28 a29 y0 a30 a31 a32 a33 a34 a35 a36 a37 a38 x21 x22 x23 y1 a39 x24 a40 a41 a42 a43 x25 x26 x27 x28 a43 f0))) (va_A (zS_70 cB cC cI cJ a0 a1 x1 x2 x3 x4 x5 x6 x7 x8 a2 a3 a4 a5 a6 a7 a8 a9 a10 a11 a12 a13 a14 a15 a16 x9 x10 x11 x12 x13 x14 a17 a18 a19 x15 a20 x16 a21 x17 x18 a22 a23 a24 a25 x19 a26 x20 a27 a28 a29 y0 a30 a31 a32 a33 a34 a35 a36 a37 a38 x21 x22 x23 y1 a39 x24 a40 a41 a42 a43 x25 x26 x27 x28 a43 f0) sz)) 0 0 (va_A (zS_70 cB cC cI cJ a0 a1 x1 x2 x3 x4 x5 x6 x7 x8 a2 a3 a4 a5 a6 a7 a8 a9 a10 a11 a12 a13 a14 a15 a16 x9 x10 x11 x12 x13 x14 a17 a18 a19 x15 a20 x16 a21 x17 x18 a22 a23 a24 a25 x19 a26 x20 a27 a28 a29 y0 a30 a31 a32 a33 a34 a35 a36 a37 a38 x21 x22 x23 y1 a39 x24 a40 a41 a42 a43 x25 x26 x27 x28 a43 f0) sz) := by
  refine gOf_i (by decide +kernel) (Nat.le_of_ble_eq_true rfl) ?_
  intro p e s m args below meth c ls A Q hx hb hts hown hml hN hK hP hD hA hl hret
  replace hown : s.vm.findClass RX12 = some m.cls := hown
  have hS : va_S A s.heap s.heap [] := va_S.rf
  replace hP : va_P D gcl (zS_70 cB cC cI cJ a0 a1 x1 x2 x3 x4 x5 x6 x7 x8 a2 a3 a4 a5 a6 a7 a8 a9 a10 a11 a12 a13 a14 a15 a16 x9 x10 x11 x12 x13 x14 a17 a18 a19 x15 a20 x16 a21 x17 x18 a22 a23 a24 a25 x19 a26 x20 a27 a28 a29 y0 a30 a31 a32 a33 a34 a35 a36 a37 a38 x21 x22 x23 y1 a39 x24 a40 a41 a42 a43 x25 x26 x27 x28 a43 f0) s.heap := hP
  replace hl : lv_has ls 2 [(0, .ref a0), (1, .int x0)] := hl
  have rx0 : zBd x0.toInt (-2147483648) 2147483647 := n_rng x0
  have rx7 : zBd x7.toInt (-2147483648) 2147483647 := n_rng x7
  have rx8 : zBd x8.toInt (-2147483648) 2147483647 := n_rng x8
  have rx14 : zBd x14.toInt (-2147483648) 2147483647 := n_rng x14
  have rx18 : zBd x18.toInt (-2147483648) 2147483647 := n_rng x18
  have ry0 := n_rngL y0
  have ry1 := n_rngL y1
  refine lv_iload_n (pc := 0) hx hb dX12_octet_0 rfl (lv_at hl 1 rfl) ?_
  refine b_if_lt (pc := 1) (tgt := 21) hx hb rfl  dX12_octet_1 (by decide) (fun c_1 => ?_) (fun c_1 => ?_)
  ·
    as_aux_lemma =>
      refine lv_iconst (pc := 21) (v := (-1)) hx hb dX12_octet_21 (by decide) ?_
      have hP9 : va_P D gcl (zS_70 cB cC cI cJ a0 a1 x1 x2 x3 x4 x5 x6 x7 x8 a2 a3 a4 a5 a6 a7 a8 a9 a10 a11 a12 a13 a14 a15 a16 x9 x10 x11 x12 x13 x14 a17 a18 a19 x15 a20 x16 a21 x17 x18 a22 a23 a24 a25 x19 a26 x20 a27 a28 a29 y0 a30 a31 a32 a33 a34 a35 a36 a37 a38 x21 x22 x23 y1 a39 x24 a40 a41 a42 a43 x25 x26 x27 x28 a43 f0) s.heap := g_psub hP [0, 1] rfl
      have hD9 : va_D A (zS_70 cB cC cI cJ a0 a1 x1 x2 x3 x4 x5 x6 x7 x8 a2 a3 a4 a5 a6 a7 a8 a9 a10 a11 a12 a13 a14 a15 a16 x9 x10 x11 x12 x13 x14 a17 a18 a19 x15 a20 x16 a21 x17 x18 a22 a23 a24 a25 x19 a26 x20 a27 a28 a29 y0 a30 a31 a32 a33 a34 a35 a36 a37 a38 x21 x22 x23 y1 a39 x24 a40 a41 a42 a43 x25 x26 x27 x28 a43 f0) := hD.sub [0, 1] (by decide) rfl
      exact hret (-1) ((fun _ => 0), (fun _ => (fun _ => 0)), (fun _ => (fun _ => 0)), (fun _ => 0), (fun _ => 0)) dX12_octet_22 (show ((((-1) : Int32).toInt = (-1) ∧ x0.toInt < 0) ∨ (((-1) : Int32).toInt = (-1) ∧ x0.toInt ≥ 0 ∧ x0.toInt ≥ x25.toInt) ∨ (((-2147483648) ≤ ((-1) : Int32).toInt ∧ ((-1) : Int32).toInt ≤ 2147483647) ∧ x0.toInt ≥ 0 ∧ x0.toInt < x25.toInt)) from (by first | exact (om_1462 tI_m1) | (have k9 := tI_m1; (first | omega | (unfold zBd at *; omega))))) hP9 hD9 hS
  ·
    as_aux_lemma =>
      refine lv_iload_n (pc := 4) hx hb dX12_octet_4 rfl (lv_at hl 1 rfl) ?_
      refine lv_aload_n (pc := 5) hx hb dX12_octet_5 rfl (lv_at hl 0 rfl) ?_
      refine va_get (pc := 6) (ci := 12) (v := .int x25) (C := RX12) (T := TX12) (N := 73) hx hb hts iX12 hown hK hP 0 rfl rfl 69 (by decide) (hts _ tw_1470) (fun _ h9 => h9) rfl dX12_octet_6 ?_
      have bd_h_x25 : 0 ≤ x25.toInt ∧ x25.toInt ≤ 14 := h_x25
      refine b_icmp_ge (pc := 9) (tgt := 21) hx hb rfl rfl  dX12_octet_9 (by decide) (fun c_2 => ?_) (fun c_2 => ?_)
      ·
        as_aux_lemma =>
          refine lv_iconst (pc := 21) (v := (-1)) hx hb dX12_octet_21 (by decide) ?_
          have hP9 : va_P D gcl (zS_70 cB cC cI cJ a0 a1 x1 x2 x3 x4 x5 x6 x7 x8 a2 a3 a4 a5 a6 a7 a8 a9 a10 a11 a12 a13 a14 a15 a16 x9 x10 x11 x12 x13 x14 a17 a18 a19 x15 a20 x16 a21 x17 x18 a22 a23 a24 a25 x19 a26 x20 a27 a28 a29 y0 a30 a31 a32 a33 a34 a35 a36 a37 a38 x21 x22 x23 y1 a39 x24 a40 a41 a42 a43 x25 x26 x27 x28 a43 f0) s.heap := g_psub hP [0, 1] rfl
          have hD9 : va_D A (zS_70 cB cC cI cJ a0 a1 x1 x2 x3 x4 x5 x6 x7 x8 a2 a3 a4 a5 a6 a7 a8 a9 a10 a11 a12 a13 a14 a15 a16 x9 x10 x11 x12 x13 x14 a17 a18 a19 x15 a20 x16 a21 x17 x18 a22 a23 a24 a25 x19 a26 x20 a27 a28 a29 y0 a30 a31 a32 a33 a34 a35 a36 a37 a38 x21 x22 x23 y1 a39 x24 a40 a41 a42 a43 x25 x26 x27 x28 a43 f0) := hD.sub [0, 1] (by decide) rfl
          exact hret (-1) ((fun _ => 0), (fun _ => (fun _ => 0)), (fun _ => (fun _ => 0)), (fun _ => 0), (fun _ => 0)) dX12_octet_22 (show ((((-1) : Int32).toInt = (-1) ∧ x0.toInt < 0) ∨ (((-1) : Int32).toInt = (-1) ∧ x0.toInt ≥ 0 ∧ x0.toInt ≥ x25.toInt) ∨ (((-2147483648) ≤ ((-1) : Int32).toInt ∧ ((-1) : Int32).toInt ≤ 2147483647) ∧ x0.toInt ≥ 0 ∧ x0.toInt < x25.toInt)) from (by first | exact (om_1463 tI_m1 c_2) | (have k9 := tI_m1; (first | omega | (unfold zBd at *; omega))))) hP9 hD9 hS
      ·
        as_aux_lemma =>
          refine lv_aload_n (pc := 12) hx hb dX12_octet_12 rfl (lv_at hl 0 rfl) ?_
          refine va_get (pc := 13) (ci := 12) (v := .ref a43) (C := RX12) (T := TX12) (N := 73) hx hb hts iX12 hown hK hP 0 rfl rfl 68 (by decide) (hts _ tw_1469) (fun _ h9 => h9) rfl dX12_octet_13 ?_
          refine lv_iload_n (pc := 16) hx hb dX12_octet_16 rfl (lv_at hl 1 rfl) ?_
          refine va_iald (pc := 17) hx hb hK hP 1 2 rfl rfl (n_in rfl (by first | exact (om_10 c_1) | ((first | omega | (unfold zBd at *; omega)))) (by first | exact (om_1887 c_2 h_x25.2) | ((first | omega | (unfold zBd at *; omega))))) dX12_octet_17 ?_
          refine lv_topi (fun x_3 ex_3 => ?_)
          have rx_3 : zBd x_3.toInt (-2147483648) 2147483647 := n_rng x_3
          refine lv_goto (pc := 18) (tgt := 22) hx hb dX12_octet_18 (by decide) ?_
          have hP9 : va_P D gcl (zS_70 cB cC cI cJ a0 a1 x1 x2 x3 x4 x5 x6 x7 x8 a2 a3 a4 a5 a6 a7 a8 a9 a10 a11 a12 a13 a14 a15 a16 x9 x10 x11 x12 x13 x14 a17 a18 a19 x15 a20 x16 a21 x17 x18 a22 a23 a24 a25 x19 a26 x20 a27 a28 a29 y0 a30 a31 a32 a33 a34 a35 a36 a37 a38 x21 x22 x23 y1 a39 x24 a40 a41 a42 a43 x25 x26 x27 x28 a43 f0) s.heap := g_psub hP [0, 1] rfl
          have hD9 : va_D A (zS_70 cB cC cI cJ a0 a1 x1 x2 x3 x4 x5 x6 x7 x8 a2 a3 a4 a5 a6 a7 a8 a9 a10 a11 a12 a13 a14 a15 a16 x9 x10 x11 x12 x13 x14 a17 a18 a19 x15 a20 x16 a21 x17 x18 a22 a23 a24 a25 x19 a26 x20 a27 a28 a29 y0 a30 a31 a32 a33 a34 a35 a36 a37 a38 x21 x22 x23 y1 a39 x24 a40 a41 a42 a43 x25 x26 x27 x28 a43 f0) := hD.sub [0, 1] (by decide) rfl
          exact hret x_3 ((fun _ => 0), (fun _ => (fun _ => 0)), (fun _ => (fun _ => 0)), (fun _ => 0), (fun _ => 0)) dX12_octet_22 (show ((x_3.toInt = (-1) ∧ x0.toInt < 0) ∨ (x_3.toInt = (-1) ∧ x0.toInt ≥ 0 ∧ x0.toInt ≥ x25.toInt) ∨ (((-2147483648) ≤ x_3.toInt ∧ x_3.toInt ≤ 2147483647) ∧ x0.toInt ≥ 0 ∧ x0.toInt < x25.toInt)) from (by first | exact (om_1465 rx_3.1 c_1 c_2 rx_3.2) | ((first | omega | (unfold zBd at *; omega))))) hP9 hD9 hS
