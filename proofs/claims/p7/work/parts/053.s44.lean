theorem om_1556 {a : Int} (h0 : (a = (-1000000000))) : (((a = (-1000000000)) ∨ (((-1100000) ≤ a ∧ a ≤ 1100000)))) := by omega
theorem om_1557 {a b : Int} (h0 : (¬ b = 0)) (h1 : (0 ≤ b)) (h2 : (-a ≤ 4294967296 - 4294967296 * b)) : (0 ≤ a) := by omega
theorem om_1558 {a b c : Int} (h0 : (¬ b = 0)) (h1 : (0 ≤ b)) (h2 : (a ≤ c - 1 + 4294967296 - 4294967296 * b)) (h3 : (c ≤ 6)) : (a < (6 : Nat)) := by omega
theorem om_1559 {a : Int} (h0 : ((-1100000) ≤ a)) (h1 : (a ≤ 1100000)) : (((a = (-1000000000)) ∨ (((-1100000) ≤ a ∧ a ≤ 1100000)))) := by omega
set_option maxHeartbeats 4000000 in
set_option maxRecDepth 100000 in
theorem k_X12_heard (l : Launch) (D : va_G) (cB cC cI cJ : ClassId) (sz : Nat) (a0 a1 a2 a3 a4 a5 a6 a7 a8 a9 a10 a11 a12 a13 a14 a15 a16 a17 a18 a19 a20 a21 a22 a23 a24 a25 a26 a27 a28 a29 a30 a31 a32 a33 a34 a35 a36 a37 a38 a39 a40 a41 a42 a43 : Nat) (x0 x1 x2 x3 x4 x5 x6 x7 x8 x9 x10 x11 x12 x13 x14 x15 x16 x17 x18 x19 x20 x21 x22 x23 x24 x25 x26 x27 x28 : Int32) (y0 y1 : Int64) (f0 : Nat → Int32) (h_x1 : zBd x1.toInt 0 1600) (h_x2 : zBd x2.toInt 0 1600) (h_x3 : zBd x3.toInt 0 1600) (h_x4 : zBd x4.toInt (-1) 1600) (h_x5 : zBd x5.toInt 0 4) (h_x6 : zBd x6.toInt (-1) 1600) (h_x9 : zBd x9.toInt 0 8) (h_x10 : zBd x10.toInt 0 5) (h_x11 : zBd x11.toInt 0 6) (h_x12 : zBd x12.toInt 0 6) (h_x13 : zBd x13.toInt 0 16) (h_x15 : zBd x15.toInt 0 60) (h_x16 : zBd x16.toInt 0 1600) (h_x17 : zBd x17.toInt 0 1700) (h_x19 : zBd x19.toInt 0 1700) (h_x20 : zBd x20.toInt 0 1700) (h_x21 : zBd x21.toInt 0 200) (h_x22 : zBd x22.toInt 0 40) (h_x23 : zBd x23.toInt 0 40) (h_x24 : zBd x24.toInt 0 1) (h_x25 : zBd x25.toInt 0 14) (h_x26 : zBd x26.toInt 0 200) (h_x27 : zBd x27.toInt 0 40) (h_x28 : zBd x28.toInt 0 40) (hr_a0_0 : (x22.toInt ≤ x21.toInt)) (hr_a0_1 : (x21.toInt + x23.toInt ≤ 200)) (hr_a0_2 : (x10.toInt = 0 ∨ 2 ≤ x9.toInt)) (hf_f0 : (∀ j, (-1100000) ≤ (f0 j).toInt ∧ (f0 j).toInt ≤ 1100000)) : Met l yX12_heard (.code yX12_heard cX12_heard 2 (some .int) :: lw_gd) ({ frames := 2, cells := 0, slots := 0, locals := 46 }) (gPre D [(cB, .byte), (cC, .char), (cI, .int), (cJ, .long)] [.ref a0, .int x0] (zS_45 cB cC cI cJ a0 a1 x1 x2 x3 x4 x5 x6 x7 x8 a2 a3 a4 a5 a6 a7 a8 a9 a10 a11 a12 a13 a14 a15 a16 x9 x10 x11 x12 x13 x14 a17 a18 a19 x15 a20 x16 a21 x17 x18 a22 a23 a24 a25 x19 a26 x20 a27 a28 a29 y0 a30 a31 a32 a33 a34 a35 a36 a37 a38 x21 x22 x23 y1 a39 x24 a40 a41 a42 a43 x25 x26 x27 x28 a28 f0) sz) (va_Qi (fun r u => ((r.toInt = (-1000000000)) ∨ (((-1100000) ≤ r.toInt ∧ r.toInt ≤ 1100000)))) (gB D (va_A (zS_45 cB cC cI cJ a0 a1 x1 x2 x3 x4 x5 x6 x7 x8 a2 a3 a4 a5 a6 a7 a8 a9 a10 a11 a12 a13 a14 a15 a16 x9 x10 x11 x12 x13 x14 a17 a18 a19 x15 a20 x16 a21 x17 x18 a22 a23 a24 a25 x19 a26 x20 a27 a28 a29 y0 a30 a31 a32 a33 a34 a35 a36 a37 a38 x21 x22 x23 y1 a39 x24 a40 a41 a42 a43 x25 x26 x27 x28 a28 f0) sz) (fun u : gEx => (zS_45 cB cC cI cJ a0 a1 x1 x2 x3 x4 x5 x6 x7 x8 a2 a3 a4 a5 a6 a7 a8 a9 a10 a11 a12 a13 a14 a15 a16 x9 x10 x11 x12 x13 x14 a17 a18 a19 x15 a20 x16 a21 x17 x18 a22 a23 a24 a25 x19 a26 x20 a27 a28 a29 y0 a30 a31 a32 a33 a34 a35 a36 a37 a38 x21 x22 x23 y1 a39 x24 a40 a41 a42 a43 x25 x26 x27 x28 a28 f0))) (va_A (zS_45 cB cC cI cJ a0 a1 x1 x2 x3 x4 x5 x6 x7 x8 a2 a3 a4 a5 a6 a7 a8 a9 a10 a11 a12 a13 a14 a15 a16 x9 x10 x11 x12 x13 x14 a17 a18 a19 x15 a20 x16 a21 x17 x18 a22 a23 a24 a25 x19 a26 x20 a27 a28 a29 y0 a30 a31 a32 a33 a34 a35 a36 a37 a38 x21 x22 x23 y1 a39 x24 a40 a41 a42 a43 x25 x26 x27 x28 a28 f0) sz)) 0 0 (va_A (zS_45 cB cC cI cJ a0 a1 x1 x2 x3 x4 x5 x6 x7 x8 a2 a3 a4 a5 a6 a7 a8 a9 a10 a11 a12 a13 a14 a15 a16 x9 x10 x11 x12 x13 x14 a17 a18 a19 x15 a20 x16 a21 x17 x18 a22 a23 a24 a25 x19 a26 x20 a27 a28 a29 y0 a30 a31 a32 a33 a34 a35 a36 a37 a38 x21 x22 x23 y1 a39 x24 a40 a41 a42 a43 x25 x26 x27 x28 a28 f0) sz) := by
  refine gOf_i (by decide +kernel) (Nat.le_of_ble_eq_true rfl) ?_
  intro p e s m args below meth c ls A Q hx hb hts hown hml hN hK hP hD hA hl hret
  replace hown : s.vm.findClass RX12 = some m.cls := hown
  have hS : va_S A s.heap s.heap [] := va_S.rf
  replace hP : va_P D gcl (zS_45 cB cC cI cJ a0 a1 x1 x2 x3 x4 x5 x6 x7 x8 a2 a3 a4 a5 a6 a7 a8 a9 a10 a11 a12 a13 a14 a15 a16 x9 x10 x11 x12 x13 x14 a17 a18 a19 x15 a20 x16 a21 x17 x18 a22 a23 a24 a25 x19 a26 x20 a27 a28 a29 y0 a30 a31 a32 a33 a34 a35 a36 a37 a38 x21 x22 x23 y1 a39 x24 a40 a41 a42 a43 x25 x26 x27 x28 a28 f0) s.heap := hP
  replace hl : lv_has ls 2 [(0, .ref a0), (1, .int x0)] := hl
  have rx0 : zBd x0.toInt (-2147483648) 2147483647 := n_rng x0
  have rx7 : zBd x7.toInt (-2147483648) 2147483647 := n_rng x7
  have rx8 : zBd x8.toInt (-2147483648) 2147483647 := n_rng x8
  have rx14 : zBd x14.toInt (-2147483648) 2147483647 := n_rng x14
  have rx18 : zBd x18.toInt (-2147483648) 2147483647 := n_rng x18
  have ry0 := n_rngL y0
  have ry1 := n_rngL y1
  refine lv_aload_n (pc := 0) hx hb dX12_heard_0 rfl (lv_at hl 0 rfl) ?_
  refine lv_iload_n (pc := 1) hx hb dX12_heard_1 rfl (lv_at hl 1 rfl) ?_
  refine gd_i (pc := 2) (wc := (zS_4 cB cC cI cJ a0 a1 x1 x2 x3 x4 x5 x6 x7 x8 a2 a3 a4 a5 a6 a7 a8 a9 a10 a11 a12 a13 a14 a15 a16 x9 x10 x11 x12 x13 x14 a17 a18 a19 x15 a20 x16 a21 x17 x18 a22 a23 a24 a25 x19 a26 x20 a27 a28 a29 y0 a30 a31 a32 a33 a34 a35 a36 a37 a38 x21 x22 x23 y1 a39 x24 a40 a41 a42 a43 x25 x26 x27 x28)) hP hD hS hA [0] rfl (by decide +kernel) (fun _ => by rfl) (fun hPc hDc => va_runV (As := [.int x0]) (rest := []) ⟨hx, hb, hml, hown, hts⟩ (k_X12_isReceiver l D cB cC cI cJ _ a0 a1 a2 a3 a4 a5 a6 a7 a8 a9 a10 a11 a12 a13 a14 a15 a16 a17 a18 a19 a20 a21 a22 a23 a24 a25 a26 a27 a28 a29 a30 a31 a32 a33 a34 a35 a36 a37 a38 a39 a40 a41 a42 a43 x0 x1 x2 x3 x4 x5 x6 x7 x8 x9 x10 x11 x12 x13 x14 x15 x16 x17 x18 x19 x20 x21 x22 x23 x24 x25 x26 x27 x28 y0 y1 h_x1 h_x2 h_x3 h_x4 h_x5 h_x6 h_x9 h_x10 h_x11 h_x12 h_x13 h_x15 h_x16 h_x17 h_x19 h_x20 h_x21 h_x22 h_x23 h_x24 h_x25 h_x26 h_x27 h_x28 hr_a0_0 hr_a0_1 hr_a0_2) ⟨gcwB hts tw_1778 tw_14 tw_1775 hd_yX12_isReceiver ⟨Nat.le_of_ble_eq_true rfl, Nat.le_of_ble_eq_true rfl⟩, hts _ tw_1777, hts _ tp_89⟩ ⟨gblind, va_recv hK hPc (ci := 12) (q0 := 0) rfl rfl, (gpreS hPc hK hDc hN).2⟩ rfl rfl hl.1 rfl (lv_room (Nat.le_of_ble_eq_true rfl)) dX12_heard_2 ⟨Nat.le_of_ble_eq_true rfl, Nat.le_of_ble_eq_true rfl⟩) (fun r_2 u_1 H locs hw_3 hP hD hS => ?_)
  replace hP : va_P D gcl (zS_45 cB cC cI cJ a0 a1 x1 x2 x3 x4 x5 x6 x7 x8 a2 a3 a4 a5 a6 a7 a8 a9 a10 a11 a12 a13 a14 a15 a16 x9 x10 x11 x12 x13 x14 a17 a18 a19 x15 a20 x16 a21 x17 x18 a22 a23 a24 a25 x19 a26 x20 a27 a28 a29 y0 a30 a31 a32 a33 a34 a35 a36 a37 a38 x21 x22 x23 y1 a39 x24 a40 a41 a42 a43 x25 x26 x27 x28 a28 f0) H := hP
  replace hD : va_D A (zS_45 cB cC cI cJ a0 a1 x1 x2 x3 x4 x5 x6 x7 x8 a2 a3 a4 a5 a6 a7 a8 a9 a10 a11 a12 a13 a14 a15 a16 x9 x10 x11 x12 x13 x14 a17 a18 a19 x15 a20 x16 a21 x17 x18 a22 a23 a24 a25 x19 a26 x20 a27 a28 a29 y0 a30 a31 a32 a33 a34 a35 a36 a37 a38 x21 x22 x23 y1 a39 x24 a40 a41 a42 a43 x25 x26 x27 x28 a28 f0) := hD
  obtain ⟨hw_4, hw_5, hw_6⟩ := hw_3
  replace hw_4 : (0 ≤ r_2.toInt ∧ r_2.toInt ≤ 1) := hw_4
  replace hw_5 : (-x0.toInt ≤ 4294967296 - 4294967296 * r_2.toInt ∧ x0.toInt ≤ x11.toInt - 1 + 4294967296 - 4294967296 * r_2.toInt) := hw_5
  replace hw_6 : (inQ r_2.toInt x0.toInt x11.toInt) := hw_6
  have rr_2 : zBd r_2.toInt (-2147483648) 2147483647 := n_rng r_2
  refine b_if_eq (pc := 5) (tgt := 17) hx hb rfl  dX12_heard_5 (by decide) (fun c_7 => ?_) (fun c_7 => ?_)
  ·
    as_aux_lemma =>
      refine lv_ldcw (pc := 17) hx hb hown (hts _ tw_1783) dX12_heard_17 ?_
      have hP9 : va_P D gcl (zS_45 cB cC cI cJ a0 a1 x1 x2 x3 x4 x5 x6 x7 x8 a2 a3 a4 a5 a6 a7 a8 a9 a10 a11 a12 a13 a14 a15 a16 x9 x10 x11 x12 x13 x14 a17 a18 a19 x15 a20 x16 a21 x17 x18 a22 a23 a24 a25 x19 a26 x20 a27 a28 a29 y0 a30 a31 a32 a33 a34 a35 a36 a37 a38 x21 x22 x23 y1 a39 x24 a40 a41 a42 a43 x25 x26 x27 x28 a28 f0) H := g_psub hP [0, 1] rfl
      have hD9 : va_D A (zS_45 cB cC cI cJ a0 a1 x1 x2 x3 x4 x5 x6 x7 x8 a2 a3 a4 a5 a6 a7 a8 a9 a10 a11 a12 a13 a14 a15 a16 x9 x10 x11 x12 x13 x14 a17 a18 a19 x15 a20 x16 a21 x17 x18 a22 a23 a24 a25 x19 a26 x20 a27 a28 a29 y0 a30 a31 a32 a33 a34 a35 a36 a37 a38 x21 x22 x23 y1 a39 x24 a40 a41 a42 a43 x25 x26 x27 x28 a28 f0) := hD.sub [0, 1] (by decide) rfl
      exact hret (-1000000000) ((fun _ => 0), (fun _ => (fun _ => 0)), (fun _ => (fun _ => 0)), (fun _ => 0), (fun _ => 0)) dX12_heard_20 (show ((((-1000000000) : Int32).toInt = (-1000000000)) ∨ (((-1100000) ≤ ((-1000000000) : Int32).toInt ∧ ((-1000000000) : Int32).toInt ≤ 1100000))) from (by first | exact (om_1556 tI_m1000000000) | (have k9 := tI_m1000000000; (first | omega | (unfold zBd at *; omega))))) hP9 hD9 hS
  ·
    as_aux_lemma =>
      refine lv_aload_n (pc := 8) hx hb dX12_heard_8 rfl (lv_at hl 0 rfl) ?_
      refine va_get (pc := 9) (ci := 12) (v := .ref a28) (C := RX12) (T := TX12) (N := 73) hx hb hts iX12 hown hK hP 0 rfl rfl 47 (by decide) (hts _ tw_1448) (fun _ h9 => h9) rfl dX12_heard_9 ?_
      refine lv_iload_n (pc := 12) hx hb dX12_heard_12 rfl (lv_at hl 1 rfl) ?_
      refine va_iald (pc := 13) hx hb hK hP 1 2 rfl rfl (n_in rfl (by first | exact (om_1557 c_7 hw_4.1 hw_5.1) | ((first | omega | (unfold zBd at *; omega)))) (by first | exact (om_1558 c_7 hw_4.1 hw_5.2 h_x11.2) | ((first | omega | (unfold zBd at *; omega))))) dX12_heard_13 ?_
      refine lv_topi (fun x_8 ex_8 => ?_)
      have rx_8 : ((-1100000) ≤ x_8.toInt ∧ x_8.toInt ≤ 1100000) := by rw [ex_8]; exact hf_f0 _
      refine lv_goto (pc := 14) (tgt := 20) hx hb dX12_heard_14 (by decide) ?_
      have hP9 : va_P D gcl (zS_45 cB cC cI cJ a0 a1 x1 x2 x3 x4 x5 x6 x7 x8 a2 a3 a4 a5 a6 a7 a8 a9 a10 a11 a12 a13 a14 a15 a16 x9 x10 x11 x12 x13 x14 a17 a18 a19 x15 a20 x16 a21 x17 x18 a22 a23 a24 a25 x19 a26 x20 a27 a28 a29 y0 a30 a31 a32 a33 a34 a35 a36 a37 a38 x21 x22 x23 y1 a39 x24 a40 a41 a42 a43 x25 x26 x27 x28 a28 f0) H := g_psub hP [0, 1] rfl
      have hD9 : va_D A (zS_45 cB cC cI cJ a0 a1 x1 x2 x3 x4 x5 x6 x7 x8 a2 a3 a4 a5 a6 a7 a8 a9 a10 a11 a12 a13 a14 a15 a16 x9 x10 x11 x12 x13 x14 a17 a18 a19 x15 a20 x16 a21 x17 x18 a22 a23 a24 a25 x19 a26 x20 a27 a28 a29 y0 a30 a31 a32 a33 a34 a35 a36 a37 a38 x21 x22 x23 y1 a39 x24 a40 a41 a42 a43 x25 x26 x27 x28 a28 f0) := hD.sub [0, 1] (by decide) rfl
      exact hret x_8 ((fun _ => 0), (fun _ => (fun _ => 0)), (fun _ => (fun _ => 0)), (fun _ => 0), (fun _ => 0)) dX12_heard_20 (show ((x_8.toInt = (-1000000000)) ∨ (((-1100000) ≤ x_8.toInt ∧ x_8.toInt ≤ 1100000))) from (by first | exact (om_1559 rx_8.1 rx_8.2) | ((first | omega | (unfold zBd at *; omega))))) hP9 hD9 hS
theorem om_1560 {a : Int} (h0 : (0 ≤ a)) : (1 - a ≤ 2147483647) := by omega
theorem om_1561 {a b : Int} (h0 : (a = 0)) : (a = 0 ∨ (-7 ≤ b ∧ b ≤ 7)) := by omega
theorem om_1562 {a b c d e f g h : Int} (h0 : (c = 0 ∨ 2 ≤ b)) (h1 : (¬ d = 0)) (h2 : ((d = 0 ∧ e < f) ∨ (d = 0 ∧ e ≥ f ∧ e > g) ∨ (d = 1 ∧ e ≥ f ∧ e ≤ g))) (h3 : (h = b - 1)) (h4 : (e = a)) (h5 : (b ≤ 8)) (h6 : (g = h)) : (a + b ≤ 2147483647) := by omega
theorem om_1563 {a b c d e f g h i : Int} (h0 : (b = 0 ∨ 2 ≤ c)) (h1 : (¬ d = 0)) (h2 : ((d = 0 ∧ e < f) ∨ (d = 0 ∧ e ≥ f ∧ e > g) ∨ (d = 1 ∧ e ≥ f ∧ e ≤ g))) (h3 : (a = h + c)) (h4 : (i = 1 - c)) (h5 : (e = h)) (h6 : (f = i)) : (-2147483648 ≤ a - 1) := by omega
theorem om_1564 {a b c d e f g h i : Int} (h0 : (b = 0 ∨ 2 ≤ c)) (h1 : (¬ d = 0)) (h2 : ((d = 0 ∧ e < f) ∨ (d = 0 ∧ e ≥ f ∧ e > g) ∨ (d = 1 ∧ e ≥ f ∧ e ≤ g))) (h3 : (a = h + c)) (h4 : (i = c - 1)) (h5 : (e = h)) (h6 : (c ≤ 8)) (h7 : (g = i)) : (a - 1 ≤ 2147483647) := by omega
theorem om_1565 {a b c d e f g h i j : Int} (h0 : (b = 0 ∨ 2 ≤ c)) (h1 : (¬ d = 0)) (h2 : ((d = 0 ∧ e < f) ∨ (d = 0 ∧ e ≥ f ∧ e > g) ∨ (d = 1 ∧ e ≥ f ∧ e ≤ g))) (h3 : (a = h - 1)) (h4 : (h = i + c)) (h5 : (j = 1 - c)) (h6 : (e = i)) (h7 : (f = j)) : (0 ≤ a) := by omega
theorem om_1566 {a b c d e f g h i j : Int} (h0 : (a = 1)) (h1 : (c = 0 ∨ 2 ≤ d)) (h2 : (¬ e = 0)) (h3 : ((e = 0 ∧ f < g) ∨ (e = 0 ∧ f ≥ g ∧ f > h) ∨ (e = 1 ∧ f ≥ g ∧ f ≤ h))) (h4 : (f = b)) (h5 : (i = 1 - d)) (h6 : (d ≤ 8)) (h7 : (g = i)) (h8 : (j = d - 1)) (h9 : (h = j)) : (a = 0 ∨ (-7 ≤ b ∧ b ≤ 7)) := by omega
set_option maxHeartbeats 4000000 in
set_option maxRecDepth 100000 in
theorem k_X12_isLetterOf (l : Launch) (D : va_G) (cB cC cI cJ : ClassId) (sz : Nat) (a0 a1 a2 a3 a4 a5 a6 a7 a8 a9 a10 a11 a12 a13 a14 a15 a16 a17 a18 a19 a20 a21 a22 a23 a24 a25 a26 a27 a28 a29 a30 a31 a32 a33 a34 a35 a36 a37 a38 a39 a40 a41 a42 a43 : Nat) (x0 x1 x2 x3 x4 x5 x6 x7 x8 x9 x10 x11 x12 x13 x14 x15 x16 x17 x18 x19 x20 x21 x22 x23 x24 x25 x26 x27 x28 : Int32) (y0 y1 : Int64) (h_x1 : zBd x1.toInt 0 1600) (h_x2 : zBd x2.toInt 0 1600) (h_x3 : zBd x3.toInt 0 1600) (h_x4 : zBd x4.toInt (-1) 1600) (h_x5 : zBd x5.toInt 0 4) (h_x6 : zBd x6.toInt (-1) 1600) (h_x9 : zBd x9.toInt 0 8) (h_x10 : zBd x10.toInt 0 5) (h_x11 : zBd x11.toInt 0 6) (h_x12 : zBd x12.toInt 0 6) (h_x13 : zBd x13.toInt 0 16) (h_x15 : zBd x15.toInt 0 60) (h_x16 : zBd x16.toInt 0 1600) (h_x17 : zBd x17.toInt 0 1700) (h_x19 : zBd x19.toInt 0 1700) (h_x20 : zBd x20.toInt 0 1700) (h_x21 : zBd x21.toInt 0 200) (h_x22 : zBd x22.toInt 0 40) (h_x23 : zBd x23.toInt 0 40) (h_x24 : zBd x24.toInt 0 1) (h_x25 : zBd x25.toInt 0 14) (h_x26 : zBd x26.toInt 0 200) (h_x27 : zBd x27.toInt 0 40) (h_x28 : zBd x28.toInt 0 40) (hr_a0_0 : (x22.toInt ≤ x21.toInt)) (hr_a0_1 : (x21.toInt + x23.toInt ≤ 200)) (hr_a0_2 : (x10.toInt = 0 ∨ 2 ≤ x9.toInt)) : Met l yX12_isLetterOf (.code yX12_isLetterOf cX12_isLetterOf 2 (some .boolean) :: lw_gd) ({ frames := 1, cells := 0, slots := 0, locals := 25 }) (gPre D [(cB, .byte), (cC, .char), (cI, .int), (cJ, .long)] [.ref a0, .int x0] (zS_4 cB cC cI cJ a0 a1 x1 x2 x3 x4 x5 x6 x7 x8 a2 a3 a4 a5 a6 a7 a8 a9 a10 a11 a12 a13 a14 a15 a16 x9 x10 x11 x12 x13 x14 a17 a18 a19 x15 a20 x16 a21 x17 x18 a22 a23 a24 a25 x19 a26 x20 a27 a28 a29 y0 a30 a31 a32 a33 a34 a35 a36 a37 a38 x21 x22 x23 y1 a39 x24 a40 a41 a42 a43 x25 x26 x27 x28) sz) (va_Qi (fun r u => (0 ≤ r.toInt ∧ r.toInt ≤ 1) ∧ (r.toInt = 0 ∨ (-7 ≤ x0.toInt ∧ x0.toInt ≤ 7)) ∧ ((r.toInt = 1 ∧ okL x9.toInt x0.toInt) ∨ (r.toInt = 0 ∧ ¬ okL x9.toInt x0.toInt))) (gB D (va_A (zS_4 cB cC cI cJ a0 a1 x1 x2 x3 x4 x5 x6 x7 x8 a2 a3 a4 a5 a6 a7 a8 a9 a10 a11 a12 a13 a14 a15 a16 x9 x10 x11 x12 x13 x14 a17 a18 a19 x15 a20 x16 a21 x17 x18 a22 a23 a24 a25 x19 a26 x20 a27 a28 a29 y0 a30 a31 a32 a33 a34 a35 a36 a37 a38 x21 x22 x23 y1 a39 x24 a40 a41 a42 a43 x25 x26 x27 x28) sz) (fun u : gEx => (zS_4 cB cC cI cJ a0 a1 x1 x2 x3 x4 x5 x6 x7 x8 a2 a3 a4 a5 a6 a7 a8 a9 a10 a11 a12 a13 a14 a15 a16 x9 x10 x11 x12 x13 x14 a17 a18 a19 x15 a20 x16 a21 x17 x18 a22 a23 a24 a25 x19 a26 x20 a27 a28 a29 y0 a30 a31 a32 a33 a34 a35 a36 a37 a38 x21 x22 x23 y1 a39 x24 a40 a41 a42 a43 x25 x26 x27 x28))) (va_A (zS_4 cB cC cI cJ a0 a1 x1 x2 x3 x4 x5 x6 x7 x8 a2 a3 a4 a5 a6 a7 a8 a9 a10 a11 a12 a13 a14 a15 a16 x9 x10 x11 x12 x13 x14 a17 a18 a19 x15 a20 x16 a21 x17 x18 a22 a23 a24 a25 x19 a26 x20 a27 a28 a29 y0 a30 a31 a32 a33 a34 a35 a36 a37 a38 x21 x22 x23 y1 a39 x24 a40 a41 a42 a43 x25 x26 x27 x28) sz)) 0 0 (va_A (zS_4 cB cC cI cJ a0 a1 x1 x2 x3 x4 x5 x6 x7 x8 a2 a3 a4 a5 a6 a7 a8 a9 a10 a11 a12 a13 a14 a15 a16 x9 x10 x11 x12 x13 x14 a17 a18 a19 x15 a20 x16 a21 x17 x18 a22 a23 a24 a25 x19 a26 x20 a27 a28 a29 y0 a30 a31 a32 a33 a34 a35 a36 a37 a38 x21 x22 x23 y1 a39 x24 a40 a41 a42 a43 x25 x26 x27 x28) sz) := by
  refine gOf_z (by decide +kernel) (Nat.le_of_ble_eq_true rfl) ?_
  intro p e s m args below meth c ls A Q hx hb hts hown hml hN hK hP hD hA hl hret
  replace hown : s.vm.findClass RX12 = some m.cls := hown
  have hS : va_S A s.heap s.heap [] := va_S.rf
  replace hP : va_P D gcl (zS_4 cB cC cI cJ a0 a1 x1 x2 x3 x4 x5 x6 x7 x8 a2 a3 a4 a5 a6 a7 a8 a9 a10 a11 a12 a13 a14 a15 a16 x9 x10 x11 x12 x13 x14 a17 a18 a19 x15 a20 x16 a21 x17 x18 a22 a23 a24 a25 x19 a26 x20 a27 a28 a29 y0 a30 a31 a32 a33 a34 a35 a36 a37 a38 x21 x22 x23 y1 a39 x24 a40 a41 a42 a43 x25 x26 x27 x28) s.heap := hP
  replace hl : lv_has ls 2 [(0, .ref a0), (1, .int x0)] := hl
  have rx0 : zBd x0.toInt (-2147483648) 2147483647 := n_rng x0
  have rx7 : zBd x7.toInt (-2147483648) 2147483647 := n_rng x7
  have rx8 : zBd x8.toInt (-2147483648) 2147483647 := n_rng x8
  have rx14 : zBd x14.toInt (-2147483648) 2147483647 := n_rng x14
  have rx18 : zBd x18.toInt (-2147483648) 2147483647 := n_rng x18
  have ry0 := n_rngL y0
  have ry1 := n_rngL y1
  refine lv_iload_n (pc := 0) hx hb dX12_isLetterOf_0 rfl (lv_at hl 1 rfl) ?_
  refine b_i2l (pc := 1) hx hb rfl dX12_isLetterOf_1 (fun y_1 ey_1 => ?_)
  have ry_1 : zBd x0.toInt (-2147483648) 2147483647 := n_rng x0
  refine lv_iconst (pc := 2) (v := 1) hx hb dX12_isLetterOf_2 (by decide) ?_
  refine lv_aload_n (pc := 3) hx hb dX12_isLetterOf_3 rfl (lv_at hl 0 rfl) ?_
  refine va_get (pc := 4) (ci := 12) (v := .int x9) (C := RX12) (T := TX12) (N := 73) hx hb hts iX12 hown hK hP 0 rfl rfl 24 (by decide) (hts _ tw_1425) (fun _ h9 => h9) rfl dX12_isLetterOf_4 ?_
  have bd_h_x9 : 0 ≤ x9.toInt ∧ x9.toInt ≤ 8 := h_x9
  refine b_isub (pc := 7) hx hb tI_1 rfl (by first | exact (om_1220 h_x9.2) | ((first | omega | (unfold zBd at *; omega)))) (by first | exact (om_1560 h_x9.1) | ((first | omega | (unfold zBd at *; omega)))) dX12_isLetterOf_7 (fun x_2 ex_2 => ?_)
  refine b_i2l (pc := 8) hx hb rfl dX12_isLetterOf_8 (fun y_3 ey_3 => ?_)
  have ry_3 : zBd x_2.toInt (-2147483648) 2147483647 := n_rng x_2
  refine lv_aload_n (pc := 9) hx hb dX12_isLetterOf_9 rfl (lv_at hl 0 rfl) ?_
  refine va_get (pc := 10) (ci := 12) (v := .int x9) (C := RX12) (T := TX12) (N := 73) hx hb hts iX12 hown hK hP 0 rfl rfl 24 (by decide) (hts _ tw_1425) (fun _ h9 => h9) rfl dX12_isLetterOf_10 ?_
  as_aux_lemma =>
    refine lv_iconst (pc := 13) (v := 1) hx hb dX12_isLetterOf_13 (by decide) ?_
    refine b_isub (pc := 14) hx hb rfl tI_1 (by first | exact (om_659 h_x9.1) | ((first | omega | (unfold zBd at *; omega)))) (by first | exact (om_1094 h_x9.2) | ((first | omega | (unfold zBd at *; omega)))) dX12_isLetterOf_14 (fun x_4 ex_4 => ?_)
    refine b_i2l (pc := 15) hx hb rfl dX12_isLetterOf_15 (fun y_5 ey_5 => ?_)
    have ry_5 : zBd x_4.toInt (-2147483648) 2147483647 := n_rng x_4
    refine gd_i (pc := 16) (wc := []) hP hD hS hA [] rfl (by decide +kernel) (fun _ => by rfl) (fun hPc hDc => va_runS (As := [.long y_1, .long y_3, .long y_5]) (rest := []) ⟨hx, hb, hml, hown, hts⟩ (k_X12_isIn l D cB cC cI cJ _ y_1 y_3 y_5) ⟨gcwB hts tw_1666 tw_14 tw_1664 hd_yX12_isIn ⟨Nat.le_of_ble_eq_true rfl, Nat.le_of_ble_eq_true rfl⟩, hts _ tw_1665⟩ (gpreS hPc hK hDc hN) rfl rfl hl.1 rfl (lv_room (Nat.le_of_ble_eq_true rfl)) dX12_isLetterOf_16 ⟨Nat.le_of_ble_eq_true rfl, Nat.le_of_ble_eq_true rfl⟩) (fun r_7 u_6 H locs hw_8 hP hD hS => ?_)
    replace hP : va_P D gcl (zS_4 cB cC cI cJ a0 a1 x1 x2 x3 x4 x5 x6 x7 x8 a2 a3 a4 a5 a6 a7 a8 a9 a10 a11 a12 a13 a14 a15 a16 x9 x10 x11 x12 x13 x14 a17 a18 a19 x15 a20 x16 a21 x17 x18 a22 a23 a24 a25 x19 a26 x20 a27 a28 a29 y0 a30 a31 a32 a33 a34 a35 a36 a37 a38 x21 x22 x23 y1 a39 x24 a40 a41 a42 a43 x25 x26 x27 x28) H := hP
    replace hD : va_D A (zS_4 cB cC cI cJ a0 a1 x1 x2 x3 x4 x5 x6 x7 x8 a2 a3 a4 a5 a6 a7 a8 a9 a10 a11 a12 a13 a14 a15 a16 x9 x10 x11 x12 x13 x14 a17 a18 a19 x15 a20 x16 a21 x17 x18 a22 a23 a24 a25 x19 a26 x20 a27 a28 a29 y0 a30 a31 a32 a33 a34 a35 a36 a37 a38 x21 x22 x23 y1 a39 x24 a40 a41 a42 a43 x25 x26 x27 x28) := hD
    have hw_9 : ((r_7.toInt = 0 ∧ y_1.toInt < y_3.toInt) ∨ (r_7.toInt = 0 ∧ y_1.toInt ≥ y_3.toInt ∧ y_1.toInt > y_5.toInt) ∨ (r_7.toInt = 1 ∧ y_1.toInt ≥ y_3.toInt ∧ y_1.toInt ≤ y_5.toInt)) := hw_8
    have rr_7 : zBd r_7.toInt (-2147483648) 2147483647 := n_rng r_7
    refine b_if_eq (pc := 19) (tgt := 39) hx hb rfl  dX12_isLetterOf_19 (by decide) (fun c_10 => ?_) (fun c_10 => ?_)
    ·
      as_aux_lemma =>
        refine lv_iconst (pc := 39) (v := 0) hx hb dX12_isLetterOf_39 (by decide) ?_
        have hP9 : va_P D gcl (zS_4 cB cC cI cJ a0 a1 x1 x2 x3 x4 x5 x6 x7 x8 a2 a3 a4 a5 a6 a7 a8 a9 a10 a11 a12 a13 a14 a15 a16 x9 x10 x11 x12 x13 x14 a17 a18 a19 x15 a20 x16 a21 x17 x18 a22 a23 a24 a25 x19 a26 x20 a27 a28 a29 y0 a30 a31 a32 a33 a34 a35 a36 a37 a38 x21 x22 x23 y1 a39 x24 a40 a41 a42 a43 x25 x26 x27 x28) H := g_psub hP [0] rfl
        have hD9 : va_D A (zS_4 cB cC cI cJ a0 a1 x1 x2 x3 x4 x5 x6 x7 x8 a2 a3 a4 a5 a6 a7 a8 a9 a10 a11 a12 a13 a14 a15 a16 x9 x10 x11 x12 x13 x14 a17 a18 a19 x15 a20 x16 a21 x17 x18 a22 a23 a24 a25 x19 a26 x20 a27 a28 a29 y0 a30 a31 a32 a33 a34 a35 a36 a37 a38 x21 x22 x23 y1 a39 x24 a40 a41 a42 a43 x25 x26 x27 x28) := hD.sub [0] (by decide) rfl
        have k9 := tI_0
        exact hret 0 ((fun _ => 0), (fun _ => (fun _ => 0)), (fun _ => (fun _ => 0)), (fun _ => 0), (fun _ => 0)) dX12_isLetterOf_40 ⟨(Or.inl tI_0), ⟨(show (0 ≤ (0 : Int32).toInt ∧ (0 : Int32).toInt ≤ 1) from (n_c tI_0 (by decide))), (show (0 : Int32).toInt = 0 ∨ (-7 ≤ x0.toInt ∧ x0.toInt ≤ 7) from (by first | exact (om_1561 tI_0) | (have k9 := tI_0; (first | omega | (unfold zBd at *; omega))))), (show ((0 : Int32).toInt = 1 ∧ okL x9.toInt x0.toInt) ∨ ((0 : Int32).toInt = 0 ∧ ¬ okL x9.toInt x0.toInt) from (by unfold okL; (first | omega | (unfold zBd at *; omega))))⟩⟩ hP9 hD9 hS
    ·
      as_aux_lemma =>
        refine lv_iload_n (pc := 22) hx hb dX12_isLetterOf_22 rfl (lv_at hl 1 rfl) ?_
        refine lv_aload_n (pc := 23) hx hb dX12_isLetterOf_23 rfl (lv_at hl 0 rfl) ?_
        refine va_get (pc := 24) (ci := 12) (v := .int x9) (C := RX12) (T := TX12) (N := 73) hx hb hts iX12 hown hK hP 0 rfl rfl 24 (by decide) (hts _ tw_1425) (fun _ h9 => h9) rfl dX12_isLetterOf_24 ?_
        refine b_iadd (pc := 27) hx hb rfl rfl (by first | exact (om_1389 ry_1.1 h_x9.1) | ((first | omega | (unfold zBd at *; omega)))) (by first | exact (om_1562 hr_a0_2 c_10 hw_9 ex_4 ey_1 h_x9.2 ey_5) | ((first | omega | (unfold zBd at *; omega)))) dX12_isLetterOf_27 (fun x_11 ex_11 => ?_)
        refine lv_iconst (pc := 28) (v := 1) hx hb dX12_isLetterOf_28 (by decide) ?_
        refine b_isub (pc := 29) hx hb rfl tI_1 (by first | exact (om_1563 hr_a0_2 c_10 hw_9 ex_11 ex_2 ey_1 ey_3) | ((first | omega | (unfold zBd at *; omega)))) (by first | exact (om_1564 hr_a0_2 c_10 hw_9 ex_11 ex_4 ey_1 h_x9.2 ey_5) | ((first | omega | (unfold zBd at *; omega)))) dX12_isLetterOf_29 (fun x_12 ex_12 => ?_)
        refine lv_iconst (pc := 30) (v := 2) hx hb dX12_isLetterOf_30 (by decide) ?_
        refine c_irem (pc := 31) hx hb rfl tI_2 (by first | exact (om_930) | ((first | omega | (unfold zBd at *; omega)))) (by first | exact (om_1565 hr_a0_2 c_10 hw_9 ex_12 ex_11 ex_2 ey_1 ey_3) | ((first | omega | (unfold zBd at *; omega)))) dX12_isLetterOf_31 (fun x_13 ex_13 => ?_)
        refine b_if_ne (pc := 32) (tgt := 39) hx hb rfl  dX12_isLetterOf_32 (by decide) (fun c_14 => ?_) (fun c_14 => ?_)
        ·
          as_aux_lemma =>
            refine lv_iconst (pc := 39) (v := 0) hx hb dX12_isLetterOf_39 (by decide) ?_
            have hP9 : va_P D gcl (zS_4 cB cC cI cJ a0 a1 x1 x2 x3 x4 x5 x6 x7 x8 a2 a3 a4 a5 a6 a7 a8 a9 a10 a11 a12 a13 a14 a15 a16 x9 x10 x11 x12 x13 x14 a17 a18 a19 x15 a20 x16 a21 x17 x18 a22 a23 a24 a25 x19 a26 x20 a27 a28 a29 y0 a30 a31 a32 a33 a34 a35 a36 a37 a38 x21 x22 x23 y1 a39 x24 a40 a41 a42 a43 x25 x26 x27 x28) H := g_psub hP [0] rfl
            have hD9 : va_D A (zS_4 cB cC cI cJ a0 a1 x1 x2 x3 x4 x5 x6 x7 x8 a2 a3 a4 a5 a6 a7 a8 a9 a10 a11 a12 a13 a14 a15 a16 x9 x10 x11 x12 x13 x14 a17 a18 a19 x15 a20 x16 a21 x17 x18 a22 a23 a24 a25 x19 a26 x20 a27 a28 a29 y0 a30 a31 a32 a33 a34 a35 a36 a37 a38 x21 x22 x23 y1 a39 x24 a40 a41 a42 a43 x25 x26 x27 x28) := hD.sub [0] (by decide) rfl
            have k9 := tI_0
            exact hret 0 ((fun _ => 0), (fun _ => (fun _ => 0)), (fun _ => (fun _ => 0)), (fun _ => 0), (fun _ => 0)) dX12_isLetterOf_40 ⟨(Or.inl tI_0), ⟨(show (0 ≤ (0 : Int32).toInt ∧ (0 : Int32).toInt ≤ 1) from (n_c tI_0 (by decide))), (show (0 : Int32).toInt = 0 ∨ (-7 ≤ x0.toInt ∧ x0.toInt ≤ 7) from (by first | exact (om_1561 tI_0) | (have k9 := tI_0; (first | omega | (unfold zBd at *; omega))))), (show ((0 : Int32).toInt = 1 ∧ okL x9.toInt x0.toInt) ∨ ((0 : Int32).toInt = 0 ∧ ¬ okL x9.toInt x0.toInt) from (by unfold okL; (first | omega | (unfold zBd at *; omega))))⟩⟩ hP9 hD9 hS
        ·
          as_aux_lemma =>
            refine lv_iconst (pc := 35) (v := 1) hx hb dX12_isLetterOf_35 (by decide) ?_
            refine lv_goto (pc := 36) (tgt := 40) hx hb dX12_isLetterOf_36 (by decide) ?_
            have hP9 : va_P D gcl (zS_4 cB cC cI cJ a0 a1 x1 x2 x3 x4 x5 x6 x7 x8 a2 a3 a4 a5 a6 a7 a8 a9 a10 a11 a12 a13 a14 a15 a16 x9 x10 x11 x12 x13 x14 a17 a18 a19 x15 a20 x16 a21 x17 x18 a22 a23 a24 a25 x19 a26 x20 a27 a28 a29 y0 a30 a31 a32 a33 a34 a35 a36 a37 a38 x21 x22 x23 y1 a39 x24 a40 a41 a42 a43 x25 x26 x27 x28) H := g_psub hP [0] rfl
            have hD9 : va_D A (zS_4 cB cC cI cJ a0 a1 x1 x2 x3 x4 x5 x6 x7 x8 a2 a3 a4 a5 a6 a7 a8 a9 a10 a11 a12 a13 a14 a15 a16 x9 x10 x11 x12 x13 x14 a17 a18 a19 x15 a20 x16 a21 x17 x18 a22 a23 a24 a25 x19 a26 x20 a27 a28 a29 y0 a30 a31 a32 a33 a34 a35 a36 a37 a38 x21 x22 x23 y1 a39 x24 a40 a41 a42 a43 x25 x26 x27 x28) := hD.sub [0] (by decide) rfl
            have k9 := tI_1
            exact hret 1 ((fun _ => 0), (fun _ => (fun _ => 0)), (fun _ => (fun _ => 0)), (fun _ => 0), (fun _ => 0)) dX12_isLetterOf_40 ⟨(Or.inr tI_1), ⟨(show (0 ≤ (1 : Int32).toInt ∧ (1 : Int32).toInt ≤ 1) from (n_c tI_1 (by decide))), (show (1 : Int32).toInt = 0 ∨ (-7 ≤ x0.toInt ∧ x0.toInt ≤ 7) from (by first | exact (om_1566 tI_1 hr_a0_2 c_10 hw_9 ey_1 ex_2 h_x9.2 ey_3 ex_4 ey_5) | (have k9 := tI_1; (first | omega | (unfold zBd at *; omega))))), (show ((1 : Int32).toInt = 1 ∧ okL x9.toInt x0.toInt) ∨ ((1 : Int32).toInt = 0 ∧ ¬ okL x9.toInt x0.toInt) from (by unfold okL; (first | omega | (unfold zBd at *; omega))))⟩⟩ hP9 hD9 hS
theorem om_1567 {a b : Int} (h0 : (b ≥ a)) : (1 = 0 ∨ a ≤ b) := by omega
theorem om_1568 {a : Int} (h0 : (a = 1)) : (a = 0 ↔ 1 = 0) := by omega
theorem om_1569 {a b : Int} (h0 : (a < b)) (h1 : (b ≤ 5)) : (a < (1600 : Nat)) := by omega
theorem om_1570 {a b : Int} (h0 : (b = 0 ∨ (-7 ≤ a ∧ a ≤ 7))) (h1 : (¬ b = 0)) (h2 : (0 ≤ b)) : (-22 ≤ a ∧ a ≤ 22) := by omega
theorem om_1571 {a : Int} (h0 : (a > 127)) : (-2147483648 ≤ a - 256) := by omega
theorem om_1572 {a : Int} (h0 : (a ≤ 255)) : (a - 256 ≤ 2147483647) := by omega
theorem om_1573 {a b : Int} (h0 : (¬ a = 0)) (h1 : (0 ≤ a)) (h2 : (b = a)) : (0 < a ∧ b = a) := by omega
set_option maxHeartbeats 4000000 in
set_option maxRecDepth 100000 in
theorem k_X12_isRowTold (l : Launch) (D : va_G) (cB cC cI cJ : ClassId) (sz : Nat) (a0 a1 a2 a3 a4 a5 a6 a7 a8 a9 a10 a11 a12 a13 a14 a15 a16 a17 a18 a19 a20 a21 a22 a23 a24 a25 a26 a27 a28 a29 a30 a31 a32 a33 a34 a35 a36 a37 a38 a39 a40 a41 a42 a43 : Nat) (x0 x1 x2 x3 x4 x5 x6 x7 x8 x9 x10 x11 x12 x13 x14 x15 x16 x17 x18 x19 x20 x21 x22 x23 x24 x25 x26 x27 : Int32) (y0 y1 : Int64) (f0 f1 : Nat → Int32) (h_x0 : zBd x0.toInt 0 1600) (h_x1 : zBd x1.toInt 0 1600) (h_x2 : zBd x2.toInt 0 1600) (h_x3 : zBd x3.toInt (-1) 1600) (h_x4 : zBd x4.toInt 0 4) (h_x5 : zBd x5.toInt (-1) 1600) (h_x8 : zBd x8.toInt 0 8) (h_x9 : zBd x9.toInt 0 5) (h_x10 : zBd x10.toInt 0 6) (h_x11 : zBd x11.toInt 0 6) (h_x12 : zBd x12.toInt 0 16) (h_x14 : zBd x14.toInt 0 60) (h_x15 : zBd x15.toInt 0 1600) (h_x16 : zBd x16.toInt 0 1700) (h_x18 : zBd x18.toInt 0 1700) (h_x19 : zBd x19.toInt 0 1700) (h_x20 : zBd x20.toInt 0 200) (h_x21 : zBd x21.toInt 0 40) (h_x22 : zBd x22.toInt 0 40) (h_x23 : zBd x23.toInt 0 1) (h_x24 : zBd x24.toInt 0 14) (h_x25 : zBd x25.toInt 0 200) (h_x26 : zBd x26.toInt 0 40) (h_x27 : zBd x27.toInt 0 40) (hr_a0_0 : (x21.toInt ≤ x20.toInt)) (hr_a0_1 : (x20.toInt + x22.toInt ≤ 200)) (hr_a0_2 : (x9.toInt = 0 ∨ 2 ≤ x8.toInt)) (hf_f1 : (∀ j, 0 ≤ (f1 j).toInt ∧ (f1 j).toInt ≤ 255)) : Met l yX12_isRowTold (.code yX12_isRowTold cX12_isRowTold 3 (some .boolean) :: lw_gd) ({ frames := 2, cells := 0, slots := 0, locals := 46 }) (gPre D [(cB, .byte), (cC, .char), (cI, .int), (cJ, .long)] [.ref a0] (zS_65 cB cC cI cJ a0 a1 x0 x1 x2 x3 x4 x5 x6 x7 a2 a3 a4 a5 a6 a7 a8 a9 a10 a11 a12 a13 a14 a15 a16 x8 x9 x10 x11 x12 x13 a17 a18 a19 x14 a20 x15 a21 x16 x17 a22 a23 a24 a25 x18 a26 x19 a27 a28 a29 y0 a30 a31 a32 a33 a34 a35 a36 a37 a38 x20 x21 x22 y1 a39 x23 a40 a41 a42 a43 x24 x25 x26 x27 a29 f0 a1 f1) sz) (va_Qi (fun r u => (0 ≤ r.toInt ∧ r.toInt ≤ 1) ∧ ((0 : Int32).toInt = 0) ∧ (r.toInt = 0 ∨ RB (u.2.1 0) 0 x9.toInt) ∧ (swQ r.toInt x0.toInt (tau f1 x0.toInt) x8.toInt x9.toInt)) (gB D (va_A (zS_65 cB cC cI cJ a0 a1 x0 x1 x2 x3 x4 x5 x6 x7 a2 a3 a4 a5 a6 a7 a8 a9 a10 a11 a12 a13 a14 a15 a16 x8 x9 x10 x11 x12 x13 a17 a18 a19 x14 a20 x15 a21 x16 x17 a22 a23 a24 a25 x18 a26 x19 a27 a28 a29 y0 a30 a31 a32 a33 a34 a35 a36 a37 a38 x20 x21 x22 y1 a39 x23 a40 a41 a42 a43 x24 x25 x26 x27 a29 f0 a1 f1) sz) (fun u : gEx => (zS_65 cB cC cI cJ a0 a1 0 x1 x2 x3 x4 x5 x6 x7 a2 a3 a4 a5 a6 a7 a8 a9 a10 a11 a12 a13 a14 a15 a16 x8 x9 x10 x11 x12 x13 a17 a18 a19 x14 a20 x15 a21 x16 x17 a22 a23 a24 a25 x18 a26 x19 a27 a28 a29 y0 a30 a31 a32 a33 a34 a35 a36 a37 a38 x20 x21 x22 y1 a39 x23 a40 a41 a42 a43 x24 x25 x26 x27 a29 (u.2.1 0) a1 f1))) (va_A (zS_65 cB cC cI cJ a0 a1 x0 x1 x2 x3 x4 x5 x6 x7 a2 a3 a4 a5 a6 a7 a8 a9 a10 a11 a12 a13 a14 a15 a16 x8 x9 x10 x11 x12 x13 a17 a18 a19 x14 a20 x15 a21 x16 x17 a22 a23 a24 a25 x18 a26 x19 a27 a28 a29 y0 a30 a31 a32 a33 a34 a35 a36 a37 a38 x20 x21 x22 y1 a39 x23 a40 a41 a42 a43 x24 x25 x26 x27 a29 f0 a1 f1) sz)) 0 0 (va_A (zS_65 cB cC cI cJ a0 a1 x0 x1 x2 x3 x4 x5 x6 x7 a2 a3 a4 a5 a6 a7 a8 a9 a10 a11 a12 a13 a14 a15 a16 x8 x9 x10 x11 x12 x13 a17 a18 a19 x14 a20 x15 a21 x16 x17 a22 a23 a24 a25 x18 a26 x19 a27 a28 a29 y0 a30 a31 a32 a33 a34 a35 a36 a37 a38 x20 x21 x22 y1 a39 x23 a40 a41 a42 a43 x24 x25 x26 x27 a29 f0 a1 f1) sz) := by
  refine gOf_z (by decide +kernel) (Nat.le_of_ble_eq_true rfl) ?_
  intro p e s m args below meth c ls A Q hx hb hts hown hml hN hK hP hD hA hl hret
  replace hown : s.vm.findClass RX12 = some m.cls := hown
  have hS : va_S A s.heap s.heap [] := va_S.rf
  replace hP : va_P D gcl (zS_65 cB cC cI cJ a0 a1 x0 x1 x2 x3 x4 x5 x6 x7 a2 a3 a4 a5 a6 a7 a8 a9 a10 a11 a12 a13 a14 a15 a16 x8 x9 x10 x11 x12 x13 a17 a18 a19 x14 a20 x15 a21 x16 x17 a22 a23 a24 a25 x18 a26 x19 a27 a28 a29 y0 a30 a31 a32 a33 a34 a35 a36 a37 a38 x20 x21 x22 y1 a39 x23 a40 a41 a42 a43 x24 x25 x26 x27 a29 f0 a1 f1) s.heap := hP
  replace hl : lv_has ls 3 [(0, .ref a0)] := hl
  have rx6 : zBd x6.toInt (-2147483648) 2147483647 := n_rng x6
  have rx7 : zBd x7.toInt (-2147483648) 2147483647 := n_rng x7
  have rx13 : zBd x13.toInt (-2147483648) 2147483647 := n_rng x13
  have rx17 : zBd x17.toInt (-2147483648) 2147483647 := n_rng x17
  have ry0 := n_rngL y0
  have ry1 := n_rngL y1
  refine lv_aload_n (pc := 0) hx hb dX12_isRowTold_0 rfl (lv_at hl 0 rfl) ?_
  refine va_get (pc := 1) (ci := 12) (v := .int x0) (C := RX12) (T := TX12) (N := 73) hx hb hts iX12 hown hK hP 0 rfl rfl 1 (by decide) (hts _ tw_1402) (fun _ h9 => h9) rfl dX12_isRowTold_1 ?_
  have bd_h_x0 : 0 ≤ x0.toInt ∧ x0.toInt ≤ 1600 := h_x0
  refine lv_istore_n (pc := 4) (lv' := [(1, .int x0), (0, .ref a0)]) hx hb dX12_isRowTold_4 rfl hl (by decide) rfl (fun ls hl => ?_)
  refine lv_aload_n (pc := 5) hx hb dX12_isRowTold_5 rfl (lv_at hl 1 rfl) ?_
  refine lv_iconst (pc := 6) (v := 0) hx hb dX12_isRowTold_6 (by decide) ?_
  refine va_put (pc := 7) (ci := 12) (v := .int 0) (ty := .int) (C := RX12) (T := TX12) (N := 73) hx hb hts iX12 tyX12 tyX12_ok nmX12 hown hK hP hD hS 0 rfl rfl 1 (by decide) (hts _ tw_1402) (fun _ h9 => h9) rfl (by decide +kernel) (by decide +kernel) (by decide +kernel) (Nat.le_of_ble_eq_true rfl) dX12_isRowTold_7 (fun H locs hP hD hS => ?_)
  replace hP : va_P D gcl (zS_65 cB cC cI cJ a0 a1 0 x1 x2 x3 x4 x5 x6 x7 a2 a3 a4 a5 a6 a7 a8 a9 a10 a11 a12 a13 a14 a15 a16 x8 x9 x10 x11 x12 x13 a17 a18 a19 x14 a20 x15 a21 x16 x17 a22 a23 a24 a25 x18 a26 x19 a27 a28 a29 y0 a30 a31 a32 a33 a34 a35 a36 a37 a38 x20 x21 x22 y1 a39 x23 a40 a41 a42 a43 x24 x25 x26 x27 a29 f0 a1 f1) H := hP
  replace hD : va_D A (zS_65 cB cC cI cJ a0 a1 0 x1 x2 x3 x4 x5 x6 x7 a2 a3 a4 a5 a6 a7 a8 a9 a10 a11 a12 a13 a14 a15 a16 x8 x9 x10 x11 x12 x13 a17 a18 a19 x14 a20 x15 a21 x16 x17 a22 a23 a24 a25 x18 a26 x19 a27 a28 a29 y0 a30 a31 a32 a33 a34 a35 a36 a37 a38 x20 x21 x22 y1 a39 x23 a40 a41 a42 a43 x24 x25 x26 x27 a29 f0 a1 f1) := hD
  refine lv_aload_n (pc := 10) hx hb dX12_isRowTold_10 rfl (lv_at hl 1 rfl) ?_
  refine va_get (pc := 11) (ci := 12) (v := .int x9) (C := RX12) (T := TX12) (N := 73) hx hb hts iX12 hown hK hP 0 rfl rfl 25 (by decide) (hts _ tw_1426) (fun _ h9 => h9) rfl dX12_isRowTold_11 ?_
  have bd_h_x9 : 0 ≤ x9.toInt ∧ x9.toInt ≤ 5 := h_x9
  refine b_if_eq (pc := 14) (tgt := 25) hx hb rfl  dX12_isRowTold_14 (by decide) (fun c_1 => ?_) (fun c_1 => ?_)
  ·
    as_aux_lemma =>
      refine lv_iconst (pc := 25) (v := 0) hx hb dX12_isRowTold_25 (by decide) ?_
      have hP9 : va_P D gcl (zS_65 cB cC cI cJ a0 a1 0 x1 x2 x3 x4 x5 x6 x7 a2 a3 a4 a5 a6 a7 a8 a9 a10 a11 a12 a13 a14 a15 a16 x8 x9 x10 x11 x12 x13 a17 a18 a19 x14 a20 x15 a21 x16 x17 a22 a23 a24 a25 x18 a26 x19 a27 a28 a29 y0 a30 a31 a32 a33 a34 a35 a36 a37 a38 x20 x21 x22 y1 a39 x23 a40 a41 a42 a43 x24 x25 x26 x27 a29 f0 a1 f1) H := g_psub hP [0, 1, 2] rfl
      have hD9 : va_D A (zS_65 cB cC cI cJ a0 a1 0 x1 x2 x3 x4 x5 x6 x7 a2 a3 a4 a5 a6 a7 a8 a9 a10 a11 a12 a13 a14 a15 a16 x8 x9 x10 x11 x12 x13 a17 a18 a19 x14 a20 x15 a21 x16 x17 a22 a23 a24 a25 x18 a26 x19 a27 a28 a29 y0 a30 a31 a32 a33 a34 a35 a36 a37 a38 x20 x21 x22 y1 a39 x23 a40 a41 a42 a43 x24 x25 x26 x27 a29 f0 a1 f1) := hD.sub [0, 1, 2] (by decide) rfl
      have k9 := tI_0
      have k8_0 := tI_0
      exact hret 0 ((fun _ => 0), (fun k => [f0].getD k (fun _ => 0)), (fun _ => (fun _ => 0)), (fun _ => 0), (fun _ => 0)) dX12_isRowTold_26 ⟨(Or.inl tI_0), ⟨(show (0 ≤ (0 : Int32).toInt ∧ (0 : Int32).toInt ≤ 1) from (n_c tI_0 (by decide))), (show (0 : Int32).toInt = 0 from (by first | exact (om_31 tI_0) | (have k9 := tI_0; have k8_0 := tI_0; (first | omega | (unfold zBd at *; omega))))), (show (0 : Int32).toInt = 0 ∨ RB f0 0 x9.toInt from Or.inl (by first | exact (om_31 tI_0) | ((first | omega | (unfold zBd at *; omega))))), (show swQ (0 : Int32).toInt x0.toInt (tau f1 x0.toInt) x8.toInt x9.toInt from sl9_end (sl9_no (g := 0) (k := 0) rfl (by (first | omega | (unfold zBd at *; omega)))) (by (first | omega | (unfold zBd at *; omega))) (by (first | omega | (unfold zBd at *; omega))))⟩⟩ hP9 hD9 hS
  ·
    as_aux_lemma =>
      refine lv_iload_n (pc := 17) hx hb dX12_isRowTold_17 rfl (lv_at hl 0 rfl) ?_
      refine lv_aload_n (pc := 18) hx hb dX12_isRowTold_18 rfl (lv_at hl 1 rfl) ?_
      refine va_get (pc := 19) (ci := 12) (v := .int x9) (C := RX12) (T := TX12) (N := 73) hx hb hts iX12 hown hK hP 0 rfl rfl 25 (by decide) (hts _ tw_1426) (fun _ h9 => h9) rfl dX12_isRowTold_19 ?_
      refine b_icmp_eq (pc := 22) (tgt := 27) hx hb rfl rfl  dX12_isRowTold_22 (by decide) (fun c_2 => ?_) (fun c_2 => ?_)
      ·
        as_aux_lemma =>
          refine lv_iconst (pc := 27) (v := 0) hx hb dX12_isRowTold_27 (by decide) ?_
          refine lv_istore_n (pc := 28) (lv' := [(2, .int 0), (1, .int x0), (0, .ref a0)]) hx hb dX12_isRowTold_28 rfl hl (by decide) rfl (fun ls hl => ?_)
          have lp_8 : ∀ (n : Nat) (x_3 : Int32) (f_5 : Nat → Int32) (H : Heap) (locs : List Loc) (ls : Array Slot), (0 ≤ x_3.toInt ∧ x_3.toInt ≤ 2147483647) → (RB f_5 0 x_3.toInt) → (slQ9 1 x_3.toInt x0.toInt (tau f1 x0.toInt) x8.toInt x9.toInt) → (2147483647 - x_3.toInt).toNat < n → va_P D gcl (zS_65 cB cC cI cJ a0 a1 0 x1 x2 x3 x4 x5 x6 x7 a2 a3 a4 a5 a6 a7 a8 a9 a10 a11 a12 a13 a14 a15 a16 x8 x9 x10 x11 x12 x13 a17 a18 a19 x14 a20 x15 a21 x16 x17 a22 a23 a24 a25 x18 a26 x19 a27 a28 a29 y0 a30 a31 a32 a33 a34 a35 a36 a37 a38 x20 x21 x22 y1 a39 x23 a40 a41 a42 a43 x24 x25 x26 x27 a29 f_5 a1 f1) H → va_D A (zS_65 cB cC cI cJ a0 a1 0 x1 x2 x3 x4 x5 x6 x7 a2 a3 a4 a5 a6 a7 a8 a9 a10 a11 a12 a13 a14 a15 a16 x8 x9 x10 x11 x12 x13 a17 a18 a19 x14 a20 x15 a21 x16 x17 a22 a23 a24 a25 x18 a26 x19 a27 a28 a29 y0 a30 a31 a32 a33 a34 a35 a36 a37 a38 x20 x21 x22 y1 a39 x23 a40 a41 a42 a43 x24 x25 x26 x27 a29 f_5 a1 f1) → va_S A s.heap H locs → lv_has ls 3 [(2, .int x_3), (1, .int x0), (0, .ref a0)] → W p l e ({ frames := 2, cells := 0, slots := 0, locals := 46 }) s m args below meth c H locs 0 0 Q (F0 m 29 ls []) := by
            intro n
            induction n with
            | zero => intro x_3 f_5 H locs ls hi_4 hi_6 hi_7 hmu; exact absurd hmu (Nat.not_lt_zero _)
            | succ n ih_lp_8 =>
              intro x_3 f_5 H locs ls hi_4 hi_6 hi_7 hmu_lp_8 hP hD hS hl
              refine lv_iload_n (pc := 29) hx hb dX12_isRowTold_29 rfl (lv_at hl 0 rfl) ?_
              refine lv_aload_n (pc := 30) hx hb dX12_isRowTold_30 rfl (lv_at hl 2 rfl) ?_
              refine va_get (pc := 31) (ci := 12) (v := .int x9) (C := RX12) (T := TX12) (N := 73) hx hb hts iX12 hown hK hP 0 rfl rfl 25 (by decide) (hts _ tw_1426) (fun _ h9 => h9) rfl dX12_isRowTold_31 ?_
              refine b_icmp_ge (pc := 34) (tgt := 94) hx hb rfl rfl  dX12_isRowTold_34 (by decide) (fun c_9 => ?_) (fun c_9 => ?_)
              ·
                as_aux_lemma =>
                  refine lv_iconst (pc := 94) (v := 1) hx hb dX12_isRowTold_94 (by decide) ?_
                  have hP9 : va_P D gcl (zS_65 cB cC cI cJ a0 a1 0 x1 x2 x3 x4 x5 x6 x7 a2 a3 a4 a5 a6 a7 a8 a9 a10 a11 a12 a13 a14 a15 a16 x8 x9 x10 x11 x12 x13 a17 a18 a19 x14 a20 x15 a21 x16 x17 a22 a23 a24 a25 x18 a26 x19 a27 a28 a29 y0 a30 a31 a32 a33 a34 a35 a36 a37 a38 x20 x21 x22 y1 a39 x23 a40 a41 a42 a43 x24 x25 x26 x27 a29 f_5 a1 f1) H := g_psub hP [0, 1, 2] rfl
                  have hD9 : va_D A (zS_65 cB cC cI cJ a0 a1 0 x1 x2 x3 x4 x5 x6 x7 a2 a3 a4 a5 a6 a7 a8 a9 a10 a11 a12 a13 a14 a15 a16 x8 x9 x10 x11 x12 x13 a17 a18 a19 x14 a20 x15 a21 x16 x17 a22 a23 a24 a25 x18 a26 x19 a27 a28 a29 y0 a30 a31 a32 a33 a34 a35 a36 a37 a38 x20 x21 x22 y1 a39 x23 a40 a41 a42 a43 x24 x25 x26 x27 a29 f_5 a1 f1) := hD.sub [0, 1, 2] (by decide) rfl
                  have k9 := tI_1
                  have k8_0 := tI_0
                  exact hret 1 ((fun _ => 0), (fun k => [f_5].getD k (fun _ => 0)), (fun _ => (fun _ => 0)), (fun _ => 0), (fun _ => 0)) dX12_isRowTold_95 ⟨(Or.inr tI_1), ⟨(show (0 ≤ (1 : Int32).toInt ∧ (1 : Int32).toInt ≤ 1) from (n_c tI_1 (by decide))), (show (0 : Int32).toInt = 0 from (by first | exact (om_31 tI_0) | (have k9 := tI_1; have k8_0 := tI_0; (first | omega | (unfold zBd at *; omega))))), (show (1 : Int32).toInt = 0 ∨ RB f_5 0 x9.toInt from Or.inr (RB_sub hi_6 (by first | exact (om_1178) | ((first | omega | (unfold zBd at *; omega)))) (by first | exact (om_503 c_9) | ((first | omega | (unfold zBd at *; omega)))))), (show swQ (1 : Int32).toInt x0.toInt (tau f1 x0.toInt) x8.toInt x9.toInt from sl9_end hi_7 (by first | exact (om_1567 c_9) | ((first | omega | (unfold zBd at *; omega)))) (by first | exact (om_1568 tI_1) | ((first | omega | (unfold zBd at *; omega)))))⟩⟩ hP9 hD9 hS
              ·
                as_aux_lemma =>
                  refine lv_aload_n (pc := 37) hx hb dX12_isRowTold_37 rfl (lv_at hl 2 rfl) ?_
                  refine va_get (pc := 38) (ci := 12) (v := .ref a29) (C := RX12) (T := TX12) (N := 73) hx hb hts iX12 hown hK hP 0 rfl rfl 48 (by decide) (hts _ tw_1449) (fun _ h9 => h9) rfl dX12_isRowTold_38 ?_
                  refine lv_iload_n (pc := 41) hx hb dX12_isRowTold_41 rfl (lv_at hl 0 rfl) ?_
                  refine lv_aload_n (pc := 42) hx hb dX12_isRowTold_42 rfl (lv_at hl 2 rfl) ?_
                  refine va_get (pc := 43) (ci := 12) (v := .ref a1) (C := RX12) (T := TX12) (N := 73) hx hb hts iX12 hown hK hP 0 rfl rfl 0 (by decide) (hts _ tw_1401) (fun _ h9 => h9) rfl dX12_isRowTold_43 ?_
                  refine lv_iload_n (pc := 46) hx hb dX12_isRowTold_46 rfl (lv_at hl 0 rfl) ?_
                  refine va_iald (pc := 47) hx hb hK hP 2 2 rfl rfl (n_in rfl (by first | exact (om_0 hi_4.1) | ((first | omega | (unfold zBd at *; omega)))) (by first | exact (om_1569 c_9 h_x9.2) | ((first | omega | (unfold zBd at *; omega))))) dX12_isRowTold_47 ?_
                  refine lv_topi (fun x_10 ex_10 => ?_)
                  have rx_10 : (0 ≤ x_10.toInt ∧ x_10.toInt ≤ 255) := by rw [ex_10]; exact hf_f1 _
                  replace ex_10 : x_10 = f1 (x_3.toInt).toNat := ex_10
                  have tx_10 := congrArg Int32.toInt ex_10
                  refine lv_bipush (pc := 48) (v := 127) hx hb dX12_isRowTold_48 (by decide) ?_
                  refine b_icmp_le (pc := 50) (tgt := 66) hx hb rfl tI_127  dX12_isRowTold_50 (by decide) (fun c_11 => ?_) (fun c_11 => ?_)
                  ·
                    as_aux_lemma =>
                      refine lv_aload_n (pc := 66) hx hb dX12_isRowTold_66 rfl (lv_at hl 2 rfl) ?_
                      refine va_get (pc := 67) (ci := 12) (v := .ref a1) (C := RX12) (T := TX12) (N := 73) hx hb hts iX12 hown hK hP 0 rfl rfl 0 (by decide) (hts _ tw_1401) (fun _ h9 => h9) rfl dX12_isRowTold_67 ?_
                      refine lv_iload_n (pc := 70) hx hb dX12_isRowTold_70 rfl (lv_at hl 0 rfl) ?_
                      refine va_iald (pc := 71) hx hb hK hP 2 2 rfl rfl (n_in rfl (by first | exact (om_0 hi_4.1) | ((first | omega | (unfold zBd at *; omega)))) (by first | exact (om_1569 c_9 h_x9.2) | ((first | omega | (unfold zBd at *; omega))))) dX12_isRowTold_71 ?_
                      refine gI (y := x_10) ex_10.symm ?_
                      refine e_iastore (pc := 72) hx hb hK hP hD hS 1 2 rfl rfl (n_in rfl (by first | exact (om_0 hi_4.1) | ((first | omega | (unfold zBd at *; omega)))) (by first | exact (om_1020 c_9 h_x9.2) | ((first | omega | (unfold zBd at *; omega))))) dX12_isRowTold_72 (fun f_12 ef_12 H locs hP hD hS => ?_)
                      replace hP : va_P D gcl (zS_65 cB cC cI cJ a0 a1 0 x1 x2 x3 x4 x5 x6 x7 a2 a3 a4 a5 a6 a7 a8 a9 a10 a11 a12 a13 a14 a15 a16 x8 x9 x10 x11 x12 x13 a17 a18 a19 x14 a20 x15 a21 x16 x17 a22 a23 a24 a25 x18 a26 x19 a27 a28 a29 y0 a30 a31 a32 a33 a34 a35 a36 a37 a38 x20 x21 x22 y1 a39 x23 a40 a41 a42 a43 x24 x25 x26 x27 a29 f_12 a1 f1) H := hP
                      replace hD : va_D A (zS_65 cB cC cI cJ a0 a1 0 x1 x2 x3 x4 x5 x6 x7 a2 a3 a4 a5 a6 a7 a8 a9 a10 a11 a12 a13 a14 a15 a16 x8 x9 x10 x11 x12 x13 a17 a18 a19 x14 a20 x15 a21 x16 x17 a22 a23 a24 a25 x18 a26 x19 a27 a28 a29 y0 a30 a31 a32 a33 a34 a35 a36 a37 a38 x20 x21 x22 y1 a39 x23 a40 a41 a42 a43 x24 x25 x26 x27 a29 f_12 a1 f1) := hD
                      refine lv_aload_n (pc := 73) hx hb dX12_isRowTold_73 rfl (lv_at hl 2 rfl) ?_
                      refine lv_aload_n (pc := 74) hx hb dX12_isRowTold_74 rfl (lv_at hl 2 rfl) ?_
                      refine va_get (pc := 75) (ci := 12) (v := .ref a29) (C := RX12) (T := TX12) (N := 73) hx hb hts iX12 hown hK hP 0 rfl rfl 48 (by decide) (hts _ tw_1449) (fun _ h9 => h9) rfl dX12_isRowTold_75 ?_
                      refine lv_iload_n (pc := 78) hx hb dX12_isRowTold_78 rfl (lv_at hl 0 rfl) ?_
                      as_aux_lemma =>
                        refine va_iald (pc := 79) hx hb hK hP 1 2 rfl rfl (n_in rfl (by first | exact (om_0 hi_4.1) | ((first | omega | (unfold zBd at *; omega)))) (by first | exact (om_1020 c_9 h_x9.2) | ((first | omega | (unfold zBd at *; omega))))) dX12_isRowTold_79 ?_
                        refine lv_topi (fun x_13 ex_13 => ?_)
                        have rx_13 : zBd x_13.toInt (-2147483648) 2147483647 := n_rng x_13
                        replace ex_13 : x_13 = f_12 (x_3.toInt).toNat := ex_13
                        have tx_13 := congrArg Int32.toInt ex_13
                        have hh_14 : x_13.toInt = sb9 ((tau f1 x0.toInt) x_3.toInt) := (by rw [ex_13, ef_12, u_eq rfl]; have q := tau_in (f := f1) (n := x0.toInt) (i := x_3.toInt) (by (first | omega | (unfold zBd at *; omega))) (by (first | omega | (unfold zBd at *; omega))); unfold sb9; rw [q]; split <;> (first | omega | (unfold zBd at *; omega)))
                        refine gd_i (pc := 80) (wc := (zS_4 cB cC cI cJ a0 a1 0 x1 x2 x3 x4 x5 x6 x7 a2 a3 a4 a5 a6 a7 a8 a9 a10 a11 a12 a13 a14 a15 a16 x8 x9 x10 x11 x12 x13 a17 a18 a19 x14 a20 x15 a21 x16 x17 a22 a23 a24 a25 x18 a26 x19 a27 a28 a29 y0 a30 a31 a32 a33 a34 a35 a36 a37 a38 x20 x21 x22 y1 a39 x23 a40 a41 a42 a43 x24 x25 x26 x27)) hP hD hS hA [0] rfl (by decide +kernel) (fun _ => by rfl) (fun hPc hDc => va_runV (As := [.int x_13]) (rest := []) ⟨hx, hb, hml, hown, hts⟩ (k_X12_isLetterOf l D cB cC cI cJ _ a0 a1 a2 a3 a4 a5 a6 a7 a8 a9 a10 a11 a12 a13 a14 a15 a16 a17 a18 a19 a20 a21 a22 a23 a24 a25 a26 a27 a28 a29 a30 a31 a32 a33 a34 a35 a36 a37 a38 a39 a40 a41 a42 a43 x_13 0 x1 x2 x3 x4 x5 x6 x7 x8 x9 x10 x11 x12 x13 x14 x15 x16 x17 x18 x19 x20 x21 x22 x23 x24 x25 x26 x27 y0 y1 (n_c tI_0 (by decide)) h_x1 h_x2 h_x3 h_x4 h_x5 h_x8 h_x9 h_x10 h_x11 h_x12 h_x14 h_x15 h_x16 h_x18 h_x19 h_x20 h_x21 h_x22 h_x23 h_x24 h_x25 h_x26 h_x27 hr_a0_0 hr_a0_1 hr_a0_2) ⟨gcwB hts tw_1825 tw_14 tw_1822 hd_yX12_isLetterOf ⟨Nat.le_of_ble_eq_true rfl, Nat.le_of_ble_eq_true rfl⟩, hts _ tw_1824, hts _ tp_94⟩ ⟨gblind, va_recv hK hPc (ci := 12) (q0 := 0) rfl rfl, (gpreS hPc hK hDc hN).2⟩ rfl rfl hl.1 rfl (lv_room (Nat.le_of_ble_eq_true rfl)) dX12_isRowTold_80 ⟨Nat.le_of_ble_eq_true rfl, Nat.le_of_ble_eq_true rfl⟩) (fun r_16 u_15 H locs hw_17 hP hD hS => ?_)
                        replace hP : va_P D gcl (zS_65 cB cC cI cJ a0 a1 0 x1 x2 x3 x4 x5 x6 x7 a2 a3 a4 a5 a6 a7 a8 a9 a10 a11 a12 a13 a14 a15 a16 x8 x9 x10 x11 x12 x13 a17 a18 a19 x14 a20 x15 a21 x16 x17 a22 a23 a24 a25 x18 a26 x19 a27 a28 a29 y0 a30 a31 a32 a33 a34 a35 a36 a37 a38 x20 x21 x22 y1 a39 x23 a40 a41 a42 a43 x24 x25 x26 x27 a29 f_12 a1 f1) H := hP
                        replace hD : va_D A (zS_65 cB cC cI cJ a0 a1 0 x1 x2 x3 x4 x5 x6 x7 a2 a3 a4 a5 a6 a7 a8 a9 a10 a11 a12 a13 a14 a15 a16 x8 x9 x10 x11 x12 x13 a17 a18 a19 x14 a20 x15 a21 x16 x17 a22 a23 a24 a25 x18 a26 x19 a27 a28 a29 y0 a30 a31 a32 a33 a34 a35 a36 a37 a38 x20 x21 x22 y1 a39 x23 a40 a41 a42 a43 x24 x25 x26 x27 a29 f_12 a1 f1) := hD
                        obtain ⟨hw_18, hw_19, hw_20⟩ := hw_17
                        replace hw_18 : (0 ≤ r_16.toInt ∧ r_16.toInt ≤ 1) := hw_18
                        replace hw_19 : (r_16.toInt = 0 ∨ (-7 ≤ x_13.toInt ∧ x_13.toInt ≤ 7)) := hw_19
                        replace hw_20 : ((r_16.toInt = 1 ∧ okL x8.toInt x_13.toInt) ∨ (r_16.toInt = 0 ∧ ¬ okL x8.toInt x_13.toInt)) := hw_20
                        have kk0_r_16 := tI_0
                        have rr_16 : zBd r_16.toInt (-2147483648) 2147483647 := n_rng r_16
                        refine b_if_ne (pc := 83) (tgt := 88) hx hb rfl  dX12_isRowTold_83 (by decide) (fun c_21 => ?_) (fun c_21 => ?_)
                        ·
                          as_aux_lemma =>
                            refine b_iinc (pc := 88) hx hb dX12_isRowTold_88 hl (k := 0) rfl rfl tI_1 (by first | exact (om_2 hi_4.1) | ((first | omega | (unfold zBd at *; omega)))) (by first | exact (om_338 c_9 h_x9.2) | ((first | omega | (unfold zBd at *; omega)))) (by decide) (fun x_22 ex_22 ls hl => ?_)
                            replace hl : lv_has ls 3 [(2, .int x_22), (1, .int x0), (0, .ref a0)] := hl
                            refine lv_goto (pc := 91) (tgt := 29) hx hb dX12_isRowTold_91 (by decide) ?_
                            exact ih_lp_8 x_22 f_12 _ _ ls (by first | exact (om_339 ex_22 hi_4.1 c_9 h_x9.2) | ((first | omega | (unfold zBd at *; omega)))) (RB_up hi_6 ef_12 (by first | exact (om_53) | ((first | omega | (unfold zBd at *; omega)))) ex_13 (by first | exact (om_0 hi_4.1) | ((first | omega | (unfold zBd at *; omega)))) (by first | exact (om_1570 hw_19 c_21 hw_18.1) | ((first | omega | (unfold zBd at *; omega)))) (by first | exact (om_5 ex_22) | ((first | omega | (unfold zBd at *; omega))))) (sl9_step hi_7 (by decide) (by first | exact (om_0 hi_4.1) | ((first | omega | (unfold zBd at *; omega)))) (by first | exact (om_1029 c_9) | ((first | omega | (unfold zBd at *; omega)))) hh_14 (by have q := hw_20; rcases q with q | q; exact Or.inl ⟨rfl, q.2⟩; exact absurd q.1 (by (first | omega | (unfold zBd at *; omega)))) (by first | exact (om_5 ex_22) | ((first | omega | (unfold zBd at *; omega))))) (by (first | omega | (unfold zBd at *; omega))) hP hD hS (lv_sub hl [0, 1, 2] rfl)
                        ·
                          as_aux_lemma =>
                            refine lv_iconst (pc := 86) (v := 0) hx hb dX12_isRowTold_86 (by decide) ?_
                            have hP9 : va_P D gcl (zS_65 cB cC cI cJ a0 a1 0 x1 x2 x3 x4 x5 x6 x7 a2 a3 a4 a5 a6 a7 a8 a9 a10 a11 a12 a13 a14 a15 a16 x8 x9 x10 x11 x12 x13 a17 a18 a19 x14 a20 x15 a21 x16 x17 a22 a23 a24 a25 x18 a26 x19 a27 a28 a29 y0 a30 a31 a32 a33 a34 a35 a36 a37 a38 x20 x21 x22 y1 a39 x23 a40 a41 a42 a43 x24 x25 x26 x27 a29 f_12 a1 f1) H := g_psub hP [0, 1, 2] rfl
                            have hD9 : va_D A (zS_65 cB cC cI cJ a0 a1 0 x1 x2 x3 x4 x5 x6 x7 a2 a3 a4 a5 a6 a7 a8 a9 a10 a11 a12 a13 a14 a15 a16 x8 x9 x10 x11 x12 x13 a17 a18 a19 x14 a20 x15 a21 x16 x17 a22 a23 a24 a25 x18 a26 x19 a27 a28 a29 y0 a30 a31 a32 a33 a34 a35 a36 a37 a38 x20 x21 x22 y1 a39 x23 a40 a41 a42 a43 x24 x25 x26 x27 a29 f_12 a1 f1) := hD.sub [0, 1, 2] (by decide) rfl
                            have k9 := tI_0
                            have k8_0 := tI_0
                            exact hret 0 ((fun _ => 0), (fun k => [f_12].getD k (fun _ => 0)), (fun _ => (fun _ => 0)), (fun _ => 0), (fun _ => 0)) dX12_isRowTold_87 ⟨(Or.inl tI_0), ⟨(show (0 ≤ (0 : Int32).toInt ∧ (0 : Int32).toInt ≤ 1) from (n_c tI_0 (by decide))), (show (0 : Int32).toInt = 0 from (by first | exact (om_31 tI_0) | (have k9 := tI_0; have k8_0 := tI_0; (first | omega | (unfold zBd at *; omega))))), (show (0 : Int32).toInt = 0 ∨ RB f_12 0 x9.toInt from Or.inl (by first | exact (om_31 tI_0) | ((first | omega | (unfold zBd at *; omega))))), (show swQ (0 : Int32).toInt x0.toInt (tau f1 x0.toInt) x8.toInt x9.toInt from sl9_end (sl9_step (k2 := x_3.toInt + 1) hi_7 (by decide) (by (first | omega | (unfold zBd at *; omega))) (by (first | omega | (unfold zBd at *; omega))) hh_14 hw_20 rfl) (by (first | omega | (unfold zBd at *; omega))) (by (first | omega | (unfold zBd at *; omega))))⟩⟩ hP9 hD9 hS
                  ·
                    as_aux_lemma =>
                      refine lv_aload_n (pc := 53) hx hb dX12_isRowTold_53 rfl (lv_at hl 2 rfl) ?_
                      refine va_get (pc := 54) (ci := 12) (v := .ref a1) (C := RX12) (T := TX12) (N := 73) hx hb hts iX12 hown hK hP 0 rfl rfl 0 (by decide) (hts _ tw_1401) (fun _ h9 => h9) rfl dX12_isRowTold_54 ?_
                      refine lv_iload_n (pc := 57) hx hb dX12_isRowTold_57 rfl (lv_at hl 0 rfl) ?_
                      refine va_iald (pc := 58) hx hb hK hP 2 2 rfl rfl (n_in rfl (by first | exact (om_0 hi_4.1) | ((first | omega | (unfold zBd at *; omega)))) (by first | exact (om_1569 c_9 h_x9.2) | ((first | omega | (unfold zBd at *; omega))))) dX12_isRowTold_58 ?_
                      refine gI (y := x_10) ex_10.symm ?_
                      refine lv_sipush (pc := 59) (v := 256) hx hb dX12_isRowTold_59 (by decide) ?_
                      refine b_isub (pc := 62) hx hb rfl tI_256 (by first | exact (om_1571 c_11) | ((first | omega | (unfold zBd at *; omega)))) (by first | exact (om_1572 rx_10.2) | ((first | omega | (unfold zBd at *; omega)))) dX12_isRowTold_62 (fun x_23 ex_23 => ?_)
                      refine lv_goto (pc := 63) (tgt := 72) hx hb dX12_isRowTold_63 (by decide) ?_
                      refine e_iastore (pc := 72) hx hb hK hP hD hS 1 2 rfl rfl (n_in rfl (by first | exact (om_0 hi_4.1) | ((first | omega | (unfold zBd at *; omega)))) (by first | exact (om_1020 c_9 h_x9.2) | ((first | omega | (unfold zBd at *; omega))))) dX12_isRowTold_72 (fun f_24 ef_24 H locs hP hD hS => ?_)
                      replace hP : va_P D gcl (zS_65 cB cC cI cJ a0 a1 0 x1 x2 x3 x4 x5 x6 x7 a2 a3 a4 a5 a6 a7 a8 a9 a10 a11 a12 a13 a14 a15 a16 x8 x9 x10 x11 x12 x13 a17 a18 a19 x14 a20 x15 a21 x16 x17 a22 a23 a24 a25 x18 a26 x19 a27 a28 a29 y0 a30 a31 a32 a33 a34 a35 a36 a37 a38 x20 x21 x22 y1 a39 x23 a40 a41 a42 a43 x24 x25 x26 x27 a29 f_24 a1 f1) H := hP
                      replace hD : va_D A (zS_65 cB cC cI cJ a0 a1 0 x1 x2 x3 x4 x5 x6 x7 a2 a3 a4 a5 a6 a7 a8 a9 a10 a11 a12 a13 a14 a15 a16 x8 x9 x10 x11 x12 x13 a17 a18 a19 x14 a20 x15 a21 x16 x17 a22 a23 a24 a25 x18 a26 x19 a27 a28 a29 y0 a30 a31 a32 a33 a34 a35 a36 a37 a38 x20 x21 x22 y1 a39 x23 a40 a41 a42 a43 x24 x25 x26 x27 a29 f_24 a1 f1) := hD
                      refine lv_aload_n (pc := 73) hx hb dX12_isRowTold_73 rfl (lv_at hl 2 rfl) ?_
                      as_aux_lemma =>
                        refine lv_aload_n (pc := 74) hx hb dX12_isRowTold_74 rfl (lv_at hl 2 rfl) ?_
                        refine va_get (pc := 75) (ci := 12) (v := .ref a29) (C := RX12) (T := TX12) (N := 73) hx hb hts iX12 hown hK hP 0 rfl rfl 48 (by decide) (hts _ tw_1449) (fun _ h9 => h9) rfl dX12_isRowTold_75 ?_
                        refine lv_iload_n (pc := 78) hx hb dX12_isRowTold_78 rfl (lv_at hl 0 rfl) ?_
                        refine va_iald (pc := 79) hx hb hK hP 1 2 rfl rfl (n_in rfl (by first | exact (om_0 hi_4.1) | ((first | omega | (unfold zBd at *; omega)))) (by first | exact (om_1020 c_9 h_x9.2) | ((first | omega | (unfold zBd at *; omega))))) dX12_isRowTold_79 ?_
                        refine lv_topi (fun x_25 ex_25 => ?_)
                        have rx_25 : zBd x_25.toInt (-2147483648) 2147483647 := n_rng x_25
                        replace ex_25 : x_25 = f_24 (x_3.toInt).toNat := ex_25
                        have tx_25 := congrArg Int32.toInt ex_25
                        have hh_26 : x_25.toInt = sb9 ((tau f1 x0.toInt) x_3.toInt) := (by rw [ex_25, ef_24, u_eq rfl]; have q := tau_in (f := f1) (n := x0.toInt) (i := x_3.toInt) (by (first | omega | (unfold zBd at *; omega))) (by (first | omega | (unfold zBd at *; omega))); unfold sb9; rw [q]; split <;> (first | omega | (unfold zBd at *; omega)))
                        refine gd_i (pc := 80) (wc := (zS_4 cB cC cI cJ a0 a1 0 x1 x2 x3 x4 x5 x6 x7 a2 a3 a4 a5 a6 a7 a8 a9 a10 a11 a12 a13 a14 a15 a16 x8 x9 x10 x11 x12 x13 a17 a18 a19 x14 a20 x15 a21 x16 x17 a22 a23 a24 a25 x18 a26 x19 a27 a28 a29 y0 a30 a31 a32 a33 a34 a35 a36 a37 a38 x20 x21 x22 y1 a39 x23 a40 a41 a42 a43 x24 x25 x26 x27)) hP hD hS hA [0] rfl (by decide +kernel) (fun _ => by rfl) (fun hPc hDc => va_runV (As := [.int x_25]) (rest := []) ⟨hx, hb, hml, hown, hts⟩ (k_X12_isLetterOf l D cB cC cI cJ _ a0 a1 a2 a3 a4 a5 a6 a7 a8 a9 a10 a11 a12 a13 a14 a15 a16 a17 a18 a19 a20 a21 a22 a23 a24 a25 a26 a27 a28 a29 a30 a31 a32 a33 a34 a35 a36 a37 a38 a39 a40 a41 a42 a43 x_25 0 x1 x2 x3 x4 x5 x6 x7 x8 x9 x10 x11 x12 x13 x14 x15 x16 x17 x18 x19 x20 x21 x22 x23 x24 x25 x26 x27 y0 y1 (n_c tI_0 (by decide)) h_x1 h_x2 h_x3 h_x4 h_x5 h_x8 h_x9 h_x10 h_x11 h_x12 h_x14 h_x15 h_x16 h_x18 h_x19 h_x20 h_x21 h_x22 h_x23 h_x24 h_x25 h_x26 h_x27 hr_a0_0 hr_a0_1 hr_a0_2) ⟨gcwB hts tw_1825 tw_14 tw_1822 hd_yX12_isLetterOf ⟨Nat.le_of_ble_eq_true rfl, Nat.le_of_ble_eq_true rfl⟩, hts _ tw_1824, hts _ tp_94⟩ ⟨gblind, va_recv hK hPc (ci := 12) (q0 := 0) rfl rfl, (gpreS hPc hK hDc hN).2⟩ rfl rfl hl.1 rfl (lv_room (Nat.le_of_ble_eq_true rfl)) dX12_isRowTold_80 ⟨Nat.le_of_ble_eq_true rfl, Nat.le_of_ble_eq_true rfl⟩) (fun r_28 u_27 H locs hw_29 hP hD hS => ?_)
                        replace hP : va_P D gcl (zS_65 cB cC cI cJ a0 a1 0 x1 x2 x3 x4 x5 x6 x7 a2 a3 a4 a5 a6 a7 a8 a9 a10 a11 a12 a13 a14 a15 a16 x8 x9 x10 x11 x12 x13 a17 a18 a19 x14 a20 x15 a21 x16 x17 a22 a23 a24 a25 x18 a26 x19 a27 a28 a29 y0 a30 a31 a32 a33 a34 a35 a36 a37 a38 x20 x21 x22 y1 a39 x23 a40 a41 a42 a43 x24 x25 x26 x27 a29 f_24 a1 f1) H := hP
                        replace hD : va_D A (zS_65 cB cC cI cJ a0 a1 0 x1 x2 x3 x4 x5 x6 x7 a2 a3 a4 a5 a6 a7 a8 a9 a10 a11 a12 a13 a14 a15 a16 x8 x9 x10 x11 x12 x13 a17 a18 a19 x14 a20 x15 a21 x16 x17 a22 a23 a24 a25 x18 a26 x19 a27 a28 a29 y0 a30 a31 a32 a33 a34 a35 a36 a37 a38 x20 x21 x22 y1 a39 x23 a40 a41 a42 a43 x24 x25 x26 x27 a29 f_24 a1 f1) := hD
                        obtain ⟨hw_30, hw_31, hw_32⟩ := hw_29
                        replace hw_30 : (0 ≤ r_28.toInt ∧ r_28.toInt ≤ 1) := hw_30
                        replace hw_31 : (r_28.toInt = 0 ∨ (-7 ≤ x_25.toInt ∧ x_25.toInt ≤ 7)) := hw_31
                        replace hw_32 : ((r_28.toInt = 1 ∧ okL x8.toInt x_25.toInt) ∨ (r_28.toInt = 0 ∧ ¬ okL x8.toInt x_25.toInt)) := hw_32
                        have kk0_r_28 := tI_0
                        have rr_28 : zBd r_28.toInt (-2147483648) 2147483647 := n_rng r_28
                        refine b_if_ne (pc := 83) (tgt := 88) hx hb rfl  dX12_isRowTold_83 (by decide) (fun c_33 => ?_) (fun c_33 => ?_)
                        ·
                          as_aux_lemma =>
                            refine b_iinc (pc := 88) hx hb dX12_isRowTold_88 hl (k := 0) rfl rfl tI_1 (by first | exact (om_2 hi_4.1) | ((first | omega | (unfold zBd at *; omega)))) (by first | exact (om_338 c_9 h_x9.2) | ((first | omega | (unfold zBd at *; omega)))) (by decide) (fun x_34 ex_34 ls hl => ?_)
                            replace hl : lv_has ls 3 [(2, .int x_34), (1, .int x0), (0, .ref a0)] := hl
                            refine lv_goto (pc := 91) (tgt := 29) hx hb dX12_isRowTold_91 (by decide) ?_
                            exact ih_lp_8 x_34 f_24 _ _ ls (by first | exact (om_339 ex_34 hi_4.1 c_9 h_x9.2) | ((first | omega | (unfold zBd at *; omega)))) (RB_up hi_6 ef_24 (by first | exact (om_53) | ((first | omega | (unfold zBd at *; omega)))) ex_25 (by first | exact (om_0 hi_4.1) | ((first | omega | (unfold zBd at *; omega)))) (by first | exact (om_1570 hw_31 c_33 hw_30.1) | ((first | omega | (unfold zBd at *; omega)))) (by first | exact (om_5 ex_34) | ((first | omega | (unfold zBd at *; omega))))) (sl9_step hi_7 (by decide) (by first | exact (om_0 hi_4.1) | ((first | omega | (unfold zBd at *; omega)))) (by first | exact (om_1029 c_9) | ((first | omega | (unfold zBd at *; omega)))) hh_26 (by have q := hw_32; rcases q with q | q; exact Or.inl ⟨rfl, q.2⟩; exact absurd q.1 (by (first | omega | (unfold zBd at *; omega)))) (by first | exact (om_5 ex_34) | ((first | omega | (unfold zBd at *; omega))))) (by (first | omega | (unfold zBd at *; omega))) hP hD hS (lv_sub hl [0, 1, 2] rfl)
                        ·
                          as_aux_lemma =>
                            refine lv_iconst (pc := 86) (v := 0) hx hb dX12_isRowTold_86 (by decide) ?_
                            have hP9 : va_P D gcl (zS_65 cB cC cI cJ a0 a1 0 x1 x2 x3 x4 x5 x6 x7 a2 a3 a4 a5 a6 a7 a8 a9 a10 a11 a12 a13 a14 a15 a16 x8 x9 x10 x11 x12 x13 a17 a18 a19 x14 a20 x15 a21 x16 x17 a22 a23 a24 a25 x18 a26 x19 a27 a28 a29 y0 a30 a31 a32 a33 a34 a35 a36 a37 a38 x20 x21 x22 y1 a39 x23 a40 a41 a42 a43 x24 x25 x26 x27 a29 f_24 a1 f1) H := g_psub hP [0, 1, 2] rfl
                            have hD9 : va_D A (zS_65 cB cC cI cJ a0 a1 0 x1 x2 x3 x4 x5 x6 x7 a2 a3 a4 a5 a6 a7 a8 a9 a10 a11 a12 a13 a14 a15 a16 x8 x9 x10 x11 x12 x13 a17 a18 a19 x14 a20 x15 a21 x16 x17 a22 a23 a24 a25 x18 a26 x19 a27 a28 a29 y0 a30 a31 a32 a33 a34 a35 a36 a37 a38 x20 x21 x22 y1 a39 x23 a40 a41 a42 a43 x24 x25 x26 x27 a29 f_24 a1 f1) := hD.sub [0, 1, 2] (by decide) rfl
                            have k9 := tI_0
                            have k8_0 := tI_0
                            exact hret 0 ((fun _ => 0), (fun k => [f_24].getD k (fun _ => 0)), (fun _ => (fun _ => 0)), (fun _ => 0), (fun _ => 0)) dX12_isRowTold_87 ⟨(Or.inl tI_0), ⟨(show (0 ≤ (0 : Int32).toInt ∧ (0 : Int32).toInt ≤ 1) from (n_c tI_0 (by decide))), (show (0 : Int32).toInt = 0 from (by first | exact (om_31 tI_0) | (have k9 := tI_0; have k8_0 := tI_0; (first | omega | (unfold zBd at *; omega))))), (show (0 : Int32).toInt = 0 ∨ RB f_24 0 x9.toInt from Or.inl (by first | exact (om_31 tI_0) | ((first | omega | (unfold zBd at *; omega))))), (show swQ (0 : Int32).toInt x0.toInt (tau f1 x0.toInt) x8.toInt x9.toInt from sl9_end (sl9_step (k2 := x_3.toInt + 1) hi_7 (by decide) (by (first | omega | (unfold zBd at *; omega))) (by (first | omega | (unfold zBd at *; omega))) hh_26 hw_32 rfl) (by (first | omega | (unfold zBd at *; omega))) (by (first | omega | (unfold zBd at *; omega))))⟩⟩ hP9 hD9 hS
          exact lp_8 _ 0 f0 _ _ ls (n_c tI_0 (by decide)) (RB_nil (by first | exact (om_43 tI_0) | (have q := tI_0; (first | omega | (unfold zBd at *; omega))))) (sl9_yes (by decide) (by first | exact (om_1573 c_1 h_x9.1 c_2) | ((first | omega | (unfold zBd at *; omega)))) (by first | exact (om_43 tI_0) | (have q := tI_0; (first | omega | (unfold zBd at *; omega))))) (Nat.lt_succ_self _) hP hD hS (lv_sub hl [0, 1, 2] rfl)
      ·
        as_aux_lemma =>
          refine lv_iconst (pc := 25) (v := 0) hx hb dX12_isRowTold_25 (by decide) ?_
          have hP9 : va_P D gcl (zS_65 cB cC cI cJ a0 a1 0 x1 x2 x3 x4 x5 x6 x7 a2 a3 a4 a5 a6 a7 a8 a9 a10 a11 a12 a13 a14 a15 a16 x8 x9 x10 x11 x12 x13 a17 a18 a19 x14 a20 x15 a21 x16 x17 a22 a23 a24 a25 x18 a26 x19 a27 a28 a29 y0 a30 a31 a32 a33 a34 a35 a36 a37 a38 x20 x21 x22 y1 a39 x23 a40 a41 a42 a43 x24 x25 x26 x27 a29 f0 a1 f1) H := g_psub hP [0, 1, 2] rfl
          have hD9 : va_D A (zS_65 cB cC cI cJ a0 a1 0 x1 x2 x3 x4 x5 x6 x7 a2 a3 a4 a5 a6 a7 a8 a9 a10 a11 a12 a13 a14 a15 a16 x8 x9 x10 x11 x12 x13 a17 a18 a19 x14 a20 x15 a21 x16 x17 a22 a23 a24 a25 x18 a26 x19 a27 a28 a29 y0 a30 a31 a32 a33 a34 a35 a36 a37 a38 x20 x21 x22 y1 a39 x23 a40 a41 a42 a43 x24 x25 x26 x27 a29 f0 a1 f1) := hD.sub [0, 1, 2] (by decide) rfl
          have k9 := tI_0
          have k8_0 := tI_0
          exact hret 0 ((fun _ => 0), (fun k => [f0].getD k (fun _ => 0)), (fun _ => (fun _ => 0)), (fun _ => 0), (fun _ => 0)) dX12_isRowTold_26 ⟨(Or.inl tI_0), ⟨(show (0 ≤ (0 : Int32).toInt ∧ (0 : Int32).toInt ≤ 1) from (n_c tI_0 (by decide))), (show (0 : Int32).toInt = 0 from (by first | exact (om_31 tI_0) | (have k9 := tI_0; have k8_0 := tI_0; (first | omega | (unfold zBd at *; omega))))), (show (0 : Int32).toInt = 0 ∨ RB f0 0 x9.toInt from Or.inl (by first | exact (om_31 tI_0) | ((first | omega | (unfold zBd at *; omega))))), (show swQ (0 : Int32).toInt x0.toInt (tau f1 x0.toInt) x8.toInt x9.toInt from sl9_end (sl9_no (g := 0) (k := 0) rfl (by (first | omega | (unfold zBd at *; omega)))) (by (first | omega | (unfold zBd at *; omega))) (by (first | omega | (unfold zBd at *; omega))))⟩⟩ hP9 hD9 hS
theorem om_1574 {a : Int} (h0 : (a ≤ 5)) : (5 * a ≤ 2147483647) := by omega
theorem om_1575 {a b c : Int} (h0 : (a = 5 * c)) (h1 : (b ≤ 5)) (h2 : (c ≤ 5)) : (a + b ≤ 2147483647) := by omega
theorem om_1576 {a b c d : Int} (h0 : (a = b + c)) (h1 : (b = 5 * d)) (h2 : (c ≤ 5)) (h3 : (d ≤ 5)) : (a < (60 : Nat)) := by omega
theorem om_1577 {a : Int} (h0 : ((-9999) ≤ a)) (h1 : (a ≤ 9999)) : (-9999 ≤ a ∧ a ≤ 9999) := by omega
theorem om_1578 {a : Int} (h0 : ((-22) ≤ a)) (h1 : (a ≤ 22)) : (-22 ≤ a ∧ a ≤ 22) := by omega
theorem om_1579 {a b : Int} (h0 : (-(9999 * 22) ≤ a * b)) : (-2147483648 ≤ a * b) := by omega
theorem om_1580 {a b : Int} (h0 : (a * b ≤ 9999 * 22)) : (a * b ≤ 2147483647) := by omega
theorem om_1581 {a b c : Int} (h0 : (a = b * c)) (h1 : (-(9999 * 22) ≤ b * c)) (h2 : (b * c ≤ 9999 * 22)) : (((-219978) ≤ a ∧ a ≤ 219978)) := by omega
theorem om_1582 {a b : Int} (h0 : ((-219978) ≤ b)) (h1 : ((-1100000) ≤ a)) : (-2147483648 ≤ a + b) := by omega
theorem om_1583 {a b : Int} (h0 : (b ≤ 219978)) (h1 : (a ≤ 1100000)) : (a + b ≤ 2147483647) := by omega
theorem om_1584 {a b c d e : Int} (h0 : (a = b + c)) (h1 : ((-219978) ≤ c)) (h2 : (-219978 * d ≤ b)) (h3 : (d < e)) (h4 : (e ≤ 5)) (h5 : (c ≤ 219978)) (h6 : (b ≤ 219978 * d)) : (((-1100000) ≤ a ∧ a ≤ 1100000)) := by omega
theorem om_1585 {a b c d e : Int} (h0 : (a = c + 1)) (h1 : (b = d + e)) (h2 : ((-219978) ≤ e)) (h3 : (-219978 * c ≤ d)) (h4 : (e ≤ 219978)) (h5 : (d ≤ 219978 * c)) : ((-219978 * a ≤ b ∧ b ≤ 219978 * a)) := by omega
set_option maxHeartbeats 4000000 in
set_option maxRecDepth 100000 in
theorem k_X12_sentTo_b (l : Launch) (D : va_G) (cB cC cI cJ : ClassId) (sz : Nat) (a0 a1 a2 a3 a4 a5 a6 a7 a8 a9 a10 a11 a12 a13 a14 a15 a16 a17 a18 a19 a20 a21 a22 a23 a24 a25 a26 a27 a28 a29 a30 a31 a32 a33 a34 a35 a36 a37 a38 a39 a40 a41 a42 a43 : Nat) (x0 x1 x2 x3 x4 x5 x6 x7 x8 x9 x10 x11 x12 x13 x14 x15 x16 x17 x18 x19 x20 x21 x22 x23 x24 x25 x26 x27 x28 : Int32) (y0 y1 : Int64) (f0 f1 : Nat → Int32) (hp1 : (0 ≤ x0.toInt ∧ x0.toInt ≤ 5)) (h_x1 : zBd x1.toInt 0 1600) (h_x2 : zBd x2.toInt 0 1600) (h_x3 : zBd x3.toInt 0 1600) (h_x4 : zBd x4.toInt (-1) 1600) (h_x5 : zBd x5.toInt 0 4) (h_x6 : zBd x6.toInt (-1) 1600) (h_x9 : zBd x9.toInt 0 8) (h_x10 : zBd x10.toInt 0 5) (h_x11 : zBd x11.toInt 0 6) (h_x12 : zBd x12.toInt 0 6) (h_x13 : zBd x13.toInt 0 16) (h_x15 : zBd x15.toInt 0 60) (h_x16 : zBd x16.toInt 0 1600) (h_x17 : zBd x17.toInt 0 1700) (h_x19 : zBd x19.toInt 0 1700) (h_x20 : zBd x20.toInt 0 1700) (h_x21 : zBd x21.toInt 0 200) (h_x22 : zBd x22.toInt 0 40) (h_x23 : zBd x23.toInt 0 40) (h_x24 : zBd x24.toInt 0 1) (h_x25 : zBd x25.toInt 0 14) (h_x26 : zBd x26.toInt 0 200) (h_x27 : zBd x27.toInt 0 40) (h_x28 : zBd x28.toInt 0 40) (hr_a0_0 : (x22.toInt ≤ x21.toInt)) (hr_a0_1 : (x21.toInt + x23.toInt ≤ 200)) (hr_a0_2 : (x10.toInt = 0 ∨ 2 ≤ x9.toInt)) (hg_rb : RB f0 0 x10.toInt) (hf_f1 : (∀ j, (-9999) ≤ (f1 j).toInt ∧ (f1 j).toInt ≤ 9999)) : Met l yX12_sentTo (.code yX12_sentTo cX12_sentTo 4 (some .int) :: lw_gd) ({ frames := 0, cells := 0, slots := 0, locals := 0 }) (gPre D [(cB, .byte), (cC, .char), (cI, .int), (cJ, .long)] [.ref a0, .int x0] (zS_167 cB cC cI cJ a0 a1 x1 x2 x3 x4 x5 x6 x7 x8 a2 a3 a4 a5 a6 a7 a8 a9 a10 a11 a12 a13 a14 a15 a16 x9 x10 x11 x12 x13 x14 a17 a18 a19 x15 a20 x16 a21 x17 x18 a22 a23 a24 a25 x19 a26 x20 a27 a28 a29 y0 a30 a31 a32 a33 a34 a35 a36 a37 a38 x21 x22 x23 y1 a39 x24 a40 a41 a42 a43 x25 x26 x27 x28 a29 f0 a18 f1) sz) (va_Qi (fun r u => ((-1100000) ≤ r.toInt ∧ r.toInt ≤ 1100000)) (gB D (va_A (zS_167 cB cC cI cJ a0 a1 x1 x2 x3 x4 x5 x6 x7 x8 a2 a3 a4 a5 a6 a7 a8 a9 a10 a11 a12 a13 a14 a15 a16 x9 x10 x11 x12 x13 x14 a17 a18 a19 x15 a20 x16 a21 x17 x18 a22 a23 a24 a25 x19 a26 x20 a27 a28 a29 y0 a30 a31 a32 a33 a34 a35 a36 a37 a38 x21 x22 x23 y1 a39 x24 a40 a41 a42 a43 x25 x26 x27 x28 a29 f0 a18 f1) sz) (fun u : gEx => (zS_167 cB cC cI cJ a0 a1 x1 x2 x3 x4 x5 x6 x7 x8 a2 a3 a4 a5 a6 a7 a8 a9 a10 a11 a12 a13 a14 a15 a16 x9 x10 x11 x12 x13 x14 a17 a18 a19 x15 a20 x16 a21 x17 x18 a22 a23 a24 a25 x19 a26 x20 a27 a28 a29 y0 a30 a31 a32 a33 a34 a35 a36 a37 a38 x21 x22 x23 y1 a39 x24 a40 a41 a42 a43 x25 x26 x27 x28 a29 f0 a18 f1))) (va_A (zS_167 cB cC cI cJ a0 a1 x1 x2 x3 x4 x5 x6 x7 x8 a2 a3 a4 a5 a6 a7 a8 a9 a10 a11 a12 a13 a14 a15 a16 x9 x10 x11 x12 x13 x14 a17 a18 a19 x15 a20 x16 a21 x17 x18 a22 a23 a24 a25 x19 a26 x20 a27 a28 a29 y0 a30 a31 a32 a33 a34 a35 a36 a37 a38 x21 x22 x23 y1 a39 x24 a40 a41 a42 a43 x25 x26 x27 x28 a29 f0 a18 f1) sz)) 0 0 (va_A (zS_167 cB cC cI cJ a0 a1 x1 x2 x3 x4 x5 x6 x7 x8 a2 a3 a4 a5 a6 a7 a8 a9 a10 a11 a12 a13 a14 a15 a16 x9 x10 x11 x12 x13 x14 a17 a18 a19 x15 a20 x16 a21 x17 x18 a22 a23 a24 a25 x19 a26 x20 a27 a28 a29 y0 a30 a31 a32 a33 a34 a35 a36 a37 a38 x21 x22 x23 y1 a39 x24 a40 a41 a42 a43 x25 x26 x27 x28 a29 f0 a18 f1) sz) := by
  refine gOf_i (by decide +kernel) (Nat.le_of_ble_eq_true rfl) ?_
  intro p e s m args below meth c ls A Q hx hb hts hown hml hN hK hP hD hA hl hret
  replace hown : s.vm.findClass RX12 = some m.cls := hown
  have hS : va_S A s.heap s.heap [] := va_S.rf
  replace hP : va_P D gcl (zS_167 cB cC cI cJ a0 a1 x1 x2 x3 x4 x5 x6 x7 x8 a2 a3 a4 a5 a6 a7 a8 a9 a10 a11 a12 a13 a14 a15 a16 x9 x10 x11 x12 x13 x14 a17 a18 a19 x15 a20 x16 a21 x17 x18 a22 a23 a24 a25 x19 a26 x20 a27 a28 a29 y0 a30 a31 a32 a33 a34 a35 a36 a37 a38 x21 x22 x23 y1 a39 x24 a40 a41 a42 a43 x25 x26 x27 x28 a29 f0 a18 f1) s.heap := hP
  replace hl : lv_has ls 4 [(0, .ref a0), (1, .int x0)] := hl
  have rx7 : zBd x7.toInt (-2147483648) 2147483647 := n_rng x7
  have rx8 : zBd x8.toInt (-2147483648) 2147483647 := n_rng x8
  have rx14 : zBd x14.toInt (-2147483648) 2147483647 := n_rng x14
  have rx18 : zBd x18.toInt (-2147483648) 2147483647 := n_rng x18
  have ry0 := n_rngL y0
  have ry1 := n_rngL y1
  refine lv_iconst (pc := 0) (v := 0) hx hb dX12_sentTo_0 (by decide) ?_
  refine lv_istore_n (pc := 1) (lv' := [(2, .int 0), (0, .ref a0), (1, .int x0)]) hx hb dX12_sentTo_1 rfl hl (by decide) rfl (fun ls hl => ?_)
  refine lv_iconst (pc := 2) (v := 0) hx hb dX12_sentTo_2 (by decide) ?_
  refine lv_istore_n (pc := 3) (lv' := [(3, .int 0), (2, .int 0), (0, .ref a0), (1, .int x0)]) hx hb dX12_sentTo_3 rfl hl (by decide) rfl (fun ls hl => ?_)
  have lp_6 : ∀ (n : Nat) (x_1 x_3 : Int32) (H : Heap) (locs : List Loc) (ls : Array Slot), (0 ≤ x_1.toInt ∧ x_1.toInt ≤ 5) → ((-1100000) ≤ x_3.toInt ∧ x_3.toInt ≤ 1100000) → (-219978 * x_1.toInt ≤ x_3.toInt ∧ x_3.toInt ≤ 219978 * x_1.toInt) → (2147483647 - x_1.toInt).toNat < n → va_P D gcl (zS_167 cB cC cI cJ a0 a1 x1 x2 x3 x4 x5 x6 x7 x8 a2 a3 a4 a5 a6 a7 a8 a9 a10 a11 a12 a13 a14 a15 a16 x9 x10 x11 x12 x13 x14 a17 a18 a19 x15 a20 x16 a21 x17 x18 a22 a23 a24 a25 x19 a26 x20 a27 a28 a29 y0 a30 a31 a32 a33 a34 a35 a36 a37 a38 x21 x22 x23 y1 a39 x24 a40 a41 a42 a43 x25 x26 x27 x28 a29 f0 a18 f1) H → va_D A (zS_167 cB cC cI cJ a0 a1 x1 x2 x3 x4 x5 x6 x7 x8 a2 a3 a4 a5 a6 a7 a8 a9 a10 a11 a12 a13 a14 a15 a16 x9 x10 x11 x12 x13 x14 a17 a18 a19 x15 a20 x16 a21 x17 x18 a22 a23 a24 a25 x19 a26 x20 a27 a28 a29 y0 a30 a31 a32 a33 a34 a35 a36 a37 a38 x21 x22 x23 y1 a39 x24 a40 a41 a42 a43 x25 x26 x27 x28 a29 f0 a18 f1) → va_S A s.heap H locs → lv_has ls 4 [(3, .int x_1), (2, .int x_3), (0, .ref a0), (1, .int x0)] → W p l e ({ frames := 0, cells := 0, slots := 0, locals := 0 }) s m args below meth c H locs 0 0 Q (F0 m 4 ls []) := by
    intro n
    induction n with
    | zero => intro x_1 x_3 H locs ls hi_2 hi_4 hi_5 hmu; exact absurd hmu (Nat.not_lt_zero _)
    | succ n ih_lp_6 =>
      intro x_1 x_3 H locs ls hi_2 hi_4 hi_5 hmu_lp_6 hP hD hS hl
      refine lv_iload_n (pc := 4) hx hb dX12_sentTo_4 rfl (lv_at hl 0 rfl) ?_
      refine lv_aload_n (pc := 5) hx hb dX12_sentTo_5 rfl (lv_at hl 2 rfl) ?_
      refine va_get (pc := 6) (ci := 12) (v := .int x10) (C := RX12) (T := TX12) (N := 73) hx hb hts iX12 hown hK hP 0 rfl rfl 25 (by decide) (hts _ tw_1426) (fun _ h9 => h9) rfl dX12_sentTo_6 ?_
      have bd_h_x10 : 0 ≤ x10.toInt ∧ x10.toInt ≤ 5 := h_x10
      refine b_icmp_ge (pc := 9) (tgt := 38) hx hb rfl rfl  dX12_sentTo_9 (by decide) (fun c_7 => ?_) (fun c_7 => ?_)
      ·
        as_aux_lemma =>
          refine lv_iload_n (pc := 38) hx hb dX12_sentTo_38 rfl (lv_at hl 1 rfl) ?_
          have hP9 : va_P D gcl (zS_167 cB cC cI cJ a0 a1 x1 x2 x3 x4 x5 x6 x7 x8 a2 a3 a4 a5 a6 a7 a8 a9 a10 a11 a12 a13 a14 a15 a16 x9 x10 x11 x12 x13 x14 a17 a18 a19 x15 a20 x16 a21 x17 x18 a22 a23 a24 a25 x19 a26 x20 a27 a28 a29 y0 a30 a31 a32 a33 a34 a35 a36 a37 a38 x21 x22 x23 y1 a39 x24 a40 a41 a42 a43 x25 x26 x27 x28 a29 f0 a18 f1) H := g_psub hP [0, 1, 2] rfl
          have hD9 : va_D A (zS_167 cB cC cI cJ a0 a1 x1 x2 x3 x4 x5 x6 x7 x8 a2 a3 a4 a5 a6 a7 a8 a9 a10 a11 a12 a13 a14 a15 a16 x9 x10 x11 x12 x13 x14 a17 a18 a19 x15 a20 x16 a21 x17 x18 a22 a23 a24 a25 x19 a26 x20 a27 a28 a29 y0 a30 a31 a32 a33 a34 a35 a36 a37 a38 x21 x22 x23 y1 a39 x24 a40 a41 a42 a43 x25 x26 x27 x28 a29 f0 a18 f1) := hD.sub [0, 1, 2] (by decide) rfl
          exact hret x_3 ((fun _ => 0), (fun _ => (fun _ => 0)), (fun _ => (fun _ => 0)), (fun _ => 0), (fun _ => 0)) dX12_sentTo_39 (show ((-1100000) ≤ x_3.toInt ∧ x_3.toInt ≤ 1100000) from hi_4) hP9 hD9 hS
      ·
        as_aux_lemma =>
          refine lv_iload_n (pc := 12) hx hb dX12_sentTo_12 rfl (lv_at hl 1 rfl) ?_
          refine lv_aload_n (pc := 13) hx hb dX12_sentTo_13 rfl (lv_at hl 2 rfl) ?_
          refine va_get (pc := 14) (ci := 12) (v := .ref a18) (C := RX12) (T := TX12) (N := 73) hx hb hts iX12 hown hK hP 0 rfl rfl 31 (by decide) (hts _ tw_1432) (fun _ h9 => h9) rfl dX12_sentTo_14 ?_
          refine lv_iconst (pc := 17) (v := 5) hx hb dX12_sentTo_17 (by decide) ?_
          refine lv_iload_n (pc := 18) hx hb dX12_sentTo_18 rfl (lv_at hl 3 rfl) ?_
          refine b_imul (pc := 19) hx hb tI_5 rfl (by first | exact (om_941 hp1.1) | ((first | omega | (unfold zBd at *; omega)))) (by first | exact (om_1574 hp1.2) | ((first | omega | (unfold zBd at *; omega)))) dX12_sentTo_19 (fun x_8 ex_8 => ?_)
          refine lv_iload_n (pc := 20) hx hb dX12_sentTo_20 rfl (lv_at hl 0 rfl) ?_
          refine b_iadd (pc := 21) hx hb rfl rfl (by first | exact (om_1529 ex_8 hi_2.1 hp1.1) | ((first | omega | (unfold zBd at *; omega)))) (by first | exact (om_1575 ex_8 hi_2.2 hp1.2) | ((first | omega | (unfold zBd at *; omega)))) dX12_sentTo_21 (fun x_9 ex_9 => ?_)
          refine va_iald (pc := 22) hx hb hK hP 2 2 rfl rfl (n_in rfl (by first | exact (om_1531 ex_9 ex_8 hi_2.1 hp1.1) | ((first | omega | (unfold zBd at *; omega)))) (by first | exact (om_1576 ex_9 ex_8 hi_2.2 hp1.2) | ((first | omega | (unfold zBd at *; omega))))) dX12_sentTo_22 ?_
          refine lv_topi (fun x_10 ex_10 => ?_)
          have rx_10 : ((-9999) ≤ x_10.toInt ∧ x_10.toInt ≤ 9999) := by rw [ex_10]; exact hf_f1 _
          as_aux_lemma =>
            refine lv_aload_n (pc := 23) hx hb dX12_sentTo_23 rfl (lv_at hl 2 rfl) ?_
            refine va_get (pc := 24) (ci := 12) (v := .ref a29) (C := RX12) (T := TX12) (N := 73) hx hb hts iX12 hown hK hP 0 rfl rfl 48 (by decide) (hts _ tw_1449) (fun _ h9 => h9) rfl dX12_sentTo_24 ?_
            refine lv_iload_n (pc := 27) hx hb dX12_sentTo_27 rfl (lv_at hl 0 rfl) ?_
            refine va_iald (pc := 28) hx hb hK hP 1 2 rfl rfl (n_in rfl (by first | exact (om_0 hi_2.1) | ((first | omega | (unfold zBd at *; omega)))) (by first | exact (om_1020 c_7 h_x10.2) | ((first | omega | (unfold zBd at *; omega))))) dX12_sentTo_28 ?_
            refine lv_topi (fun x_11 ex_11 => ?_)
            have rx_11 : zBd x_11.toInt (-2147483648) 2147483647 := n_rng x_11
            replace ex_11 : x_11 = f0 (x_1.toInt).toNat := ex_11
            have tx_11 := congrArg Int32.toInt ex_11
            have rrx_11 : ((-22) ≤ x_11.toInt ∧ x_11.toInt ≤ 22) := (by rw [ex_11]; exact hg_rb _ (by (first | omega | (unfold zBd at *; omega))) (by (first | omega | (unfold zBd at *; omega))))
            have qx_12 := n_mulb (A := 9999) (B := 22) (by decide) (by decide) (show -9999 ≤ x_10.toInt ∧ x_10.toInt ≤ 9999 from (by first | exact (om_1577 rx_10.1 rx_10.2) | ((first | omega | (unfold zBd at *; omega))))) (show -22 ≤ x_11.toInt ∧ x_11.toInt ≤ 22 from (by first | exact (om_1578 rrx_11.1 rrx_11.2) | ((first | omega | (unfold zBd at *; omega)))))
            refine b_imul (pc := 29) hx hb rfl rfl (by first | exact (om_1579 qx_12.1) | ((first | omega | (unfold zBd at *; omega)))) (by first | exact (om_1580 qx_12.2) | ((first | omega | (unfold zBd at *; omega)))) dX12_sentTo_29 (fun x_12 ex_12 => ?_)
            have rx_12 : ((-219978) ≤ x_12.toInt ∧ x_12.toInt ≤ 219978) := (by first | exact (om_1581 ex_12 qx_12.1 qx_12.2) | ((first | omega | (unfold zBd at *; omega))))
            refine b_iadd (pc := 30) hx hb rfl rfl (by first | exact (om_1582 rx_12.1 hi_4.1) | ((first | omega | (unfold zBd at *; omega)))) (by first | exact (om_1583 rx_12.2 hi_4.2) | ((first | omega | (unfold zBd at *; omega)))) dX12_sentTo_30 (fun x_13 ex_13 => ?_)
            refine lv_istore_n (pc := 31) (lv' := [(2, .int x_13), (3, .int x_1), (0, .ref a0), (1, .int x0)]) hx hb dX12_sentTo_31 rfl hl (by decide) rfl (fun ls hl => ?_)
            refine b_iinc (pc := 32) hx hb dX12_sentTo_32 hl (k := 1) rfl rfl tI_1 (by first | exact (om_2 hi_2.1) | ((first | omega | (unfold zBd at *; omega)))) (by first | exact (om_357 hi_2.2) | ((first | omega | (unfold zBd at *; omega)))) (by decide) (fun x_14 ex_14 ls hl => ?_)
            replace hl : lv_has ls 4 [(3, .int x_14), (2, .int x_13), (0, .ref a0), (1, .int x0)] := hl
            refine lv_goto (pc := 35) (tgt := 4) hx hb dX12_sentTo_35 (by decide) ?_
            exact ih_lp_6 x_14 x_13 _ _ ls (by first | exact (om_1026 ex_14 hi_2.1 c_7 h_x10.2) | ((first | omega | (unfold zBd at *; omega)))) (by first | exact (om_1584 ex_13 rx_12.1 hi_5.1 c_7 h_x10.2 rx_12.2 hi_5.2) | ((first | omega | (unfold zBd at *; omega)))) (by first | exact (om_1585 ex_14 ex_13 rx_12.1 hi_5.1 rx_12.2 hi_5.2) | ((first | omega | (unfold zBd at *; omega)))) (by (first | omega | (unfold zBd at *; omega))) hP hD hS (lv_sub hl [0, 1, 2, 3] rfl)
  exact lp_6 _ 0 0 _ _ ls (n_c tI_0 (by decide)) (n_c tI_0 (by decide)) (by have q := tI_0; (first | omega | (unfold zBd at *; omega))) (Nat.lt_succ_self _) hP hD hS (lv_sub hl [0, 1, 2, 3] rfl)
theorem om_1586 {a : Int} (h0 : ((-1100000) ≤ a)) : ((-1100000) ≤ a) := by omega
theorem om_1587 {a : Int} (h0 : (a ≤ 1100000)) : (a ≤ 1100000) := by omega
set_option maxHeartbeats 4000000 in
set_option maxRecDepth 100000 in
theorem k_X12_send (l : Launch) (D : va_G) (cB cC cI cJ : ClassId) (sz : Nat) (a0 a1 a2 a3 a4 a5 a6 a7 a8 a9 a10 a11 a12 a13 a14 a15 a16 a17 a18 a19 a20 a21 a22 a23 a24 a25 a26 a27 a28 a29 a30 a31 a32 a33 a34 a35 a36 a37 a38 a39 a40 a41 a42 a43 : Nat) (x0 x1 x2 x3 x4 x5 x6 x7 x8 x9 x10 x11 x12 x13 x14 x15 x16 x17 x18 x19 x20 x21 x22 x23 x24 x25 x26 x27 : Int32) (y0 y1 : Int64) (f0 f1 f2 f3 : Nat → Int32) (h_x0 : zBd x0.toInt 0 1600) (h_x1 : zBd x1.toInt 0 1600) (h_x2 : zBd x2.toInt 0 1600) (h_x3 : zBd x3.toInt (-1) 1600) (h_x4 : zBd x4.toInt 0 4) (h_x5 : zBd x5.toInt (-1) 1600) (h_x8 : zBd x8.toInt 0 8) (h_x9 : zBd x9.toInt 0 5) (h_x10 : zBd x10.toInt 0 6) (h_x11 : zBd x11.toInt 0 6) (h_x12 : zBd x12.toInt 0 16) (h_x14 : zBd x14.toInt 0 60) (h_x15 : zBd x15.toInt 0 1600) (h_x16 : zBd x16.toInt 0 1700) (h_x18 : zBd x18.toInt 0 1700) (h_x19 : zBd x19.toInt 0 1700) (h_x20 : zBd x20.toInt 0 200) (h_x21 : zBd x21.toInt 0 40) (h_x22 : zBd x22.toInt 0 40) (h_x23 : zBd x23.toInt 0 1) (h_x24 : zBd x24.toInt 0 14) (h_x25 : zBd x25.toInt 0 200) (h_x26 : zBd x26.toInt 0 40) (h_x27 : zBd x27.toInt 0 40) (hr_a0_0 : (x21.toInt ≤ x20.toInt)) (hr_a0_1 : (x20.toInt + x22.toInt ≤ 200)) (hr_a0_2 : (x9.toInt = 0 ∨ 2 ≤ x8.toInt)) (hf_f1 : (∀ j, 0 ≤ (f1 j).toInt ∧ (f1 j).toInt ≤ 255)) (hf_f2 : (∀ j, (-9999) ≤ (f2 j).toInt ∧ (f2 j).toInt ≤ 9999)) (hf_f3 : (∀ j, (-1100000) ≤ (f3 j).toInt ∧ (f3 j).toInt ≤ 1100000)) : Met l yX12_send (.code yX12_send cX12_send 2 (some .boolean) :: lw_gd) ({ frames := 3, cells := 0, slots := 0, locals := 68 }) (gPre D [(cB, .byte), (cC, .char), (cI, .int), (cJ, .long)] [.ref a0] (zS_53 cB cC cI cJ a0 a1 x0 x1 x2 x3 x4 x5 x6 x7 a2 a3 a4 a5 a6 a7 a8 a9 a10 a11 a12 a13 a14 a15 a16 x8 x9 x10 x11 x12 x13 a17 a18 a19 x14 a20 x15 a21 x16 x17 a22 a23 a24 a25 x18 a26 x19 a27 a28 a29 y0 a30 a31 a32 a33 a34 a35 a36 a37 a38 x20 x21 x22 y1 a39 x23 a40 a41 a42 a43 x24 x25 x26 x27 a29 f0 a1 f1 a18 f2 a28 f3) sz) (va_Qi (fun r u => (0 ≤ r.toInt ∧ r.toInt ≤ 1) ∧ (∀ j, (-1100000) ≤ ((u.2.1 1) j).toInt ∧ ((u.2.1 1) j).toInt ≤ 1100000) ∧ ((0 : Int32).toInt = 0) ∧ (swQ r.toInt x0.toInt (tau f1 x0.toInt) x8.toInt x9.toInt)) (gB D (va_A (zS_53 cB cC cI cJ a0 a1 x0 x1 x2 x3 x4 x5 x6 x7 a2 a3 a4 a5 a6 a7 a8 a9 a10 a11 a12 a13 a14 a15 a16 x8 x9 x10 x11 x12 x13 a17 a18 a19 x14 a20 x15 a21 x16 x17 a22 a23 a24 a25 x18 a26 x19 a27 a28 a29 y0 a30 a31 a32 a33 a34 a35 a36 a37 a38 x20 x21 x22 y1 a39 x23 a40 a41 a42 a43 x24 x25 x26 x27 a29 f0 a1 f1 a18 f2 a28 f3) sz) (fun u : gEx => (zS_53 cB cC cI cJ a0 a1 0 x1 x2 x3 x4 x5 x6 x7 a2 a3 a4 a5 a6 a7 a8 a9 a10 a11 a12 a13 a14 a15 a16 x8 x9 x10 x11 x12 x13 a17 a18 a19 x14 a20 x15 a21 x16 x17 a22 a23 a24 a25 x18 a26 x19 a27 a28 a29 y0 a30 a31 a32 a33 a34 a35 a36 a37 a38 x20 x21 x22 y1 a39 x23 a40 a41 a42 a43 x24 x25 x26 x27 a29 (u.2.1 0) a1 f1 a18 f2 a28 (u.2.1 1)))) (va_A (zS_53 cB cC cI cJ a0 a1 x0 x1 x2 x3 x4 x5 x6 x7 a2 a3 a4 a5 a6 a7 a8 a9 a10 a11 a12 a13 a14 a15 a16 x8 x9 x10 x11 x12 x13 a17 a18 a19 x14 a20 x15 a21 x16 x17 a22 a23 a24 a25 x18 a26 x19 a27 a28 a29 y0 a30 a31 a32 a33 a34 a35 a36 a37 a38 x20 x21 x22 y1 a39 x23 a40 a41 a42 a43 x24 x25 x26 x27 a29 f0 a1 f1 a18 f2 a28 f3) sz)) 0 0 (va_A (zS_53 cB cC cI cJ a0 a1 x0 x1 x2 x3 x4 x5 x6 x7 a2 a3 a4 a5 a6 a7 a8 a9 a10 a11 a12 a13 a14 a15 a16 x8 x9 x10 x11 x12 x13 a17 a18 a19 x14 a20 x15 a21 x16 x17 a22 a23 a24 a25 x18 a26 x19 a27 a28 a29 y0 a30 a31 a32 a33 a34 a35 a36 a37 a38 x20 x21 x22 y1 a39 x23 a40 a41 a42 a43 x24 x25 x26 x27 a29 f0 a1 f1 a18 f2 a28 f3) sz) := by
  refine gOf_z (by decide +kernel) (Nat.le_of_ble_eq_true rfl) ?_
  intro p e s m args below meth c ls A Q hx hb hts hown hml hN hK hP hD hA hl hret
  replace hown : s.vm.findClass RX12 = some m.cls := hown
  have hS : va_S A s.heap s.heap [] := va_S.rf
  replace hP : va_P D gcl (zS_53 cB cC cI cJ a0 a1 x0 x1 x2 x3 x4 x5 x6 x7 a2 a3 a4 a5 a6 a7 a8 a9 a10 a11 a12 a13 a14 a15 a16 x8 x9 x10 x11 x12 x13 a17 a18 a19 x14 a20 x15 a21 x16 x17 a22 a23 a24 a25 x18 a26 x19 a27 a28 a29 y0 a30 a31 a32 a33 a34 a35 a36 a37 a38 x20 x21 x22 y1 a39 x23 a40 a41 a42 a43 x24 x25 x26 x27 a29 f0 a1 f1 a18 f2 a28 f3) s.heap := hP
  replace hl : lv_has ls 2 [(0, .ref a0)] := hl
  have rx6 : zBd x6.toInt (-2147483648) 2147483647 := n_rng x6
  have rx7 : zBd x7.toInt (-2147483648) 2147483647 := n_rng x7
  have rx13 : zBd x13.toInt (-2147483648) 2147483647 := n_rng x13
  have rx17 : zBd x17.toInt (-2147483648) 2147483647 := n_rng x17
  have ry0 := n_rngL y0
  have ry1 := n_rngL y1
  refine lv_aload_n (pc := 0) hx hb dX12_send_0 rfl (lv_at hl 0 rfl) ?_
  refine gd_i (pc := 1) (wc := (zS_65 cB cC cI cJ a0 a1 x0 x1 x2 x3 x4 x5 x6 x7 a2 a3 a4 a5 a6 a7 a8 a9 a10 a11 a12 a13 a14 a15 a16 x8 x9 x10 x11 x12 x13 a17 a18 a19 x14 a20 x15 a21 x16 x17 a22 a23 a24 a25 x18 a26 x19 a27 a28 a29 y0 a30 a31 a32 a33 a34 a35 a36 a37 a38 x20 x21 x22 y1 a39 x23 a40 a41 a42 a43 x24 x25 x26 x27 a29 f0 a1 f1)) hP hD hS hA [0, 1, 2] rfl (by decide +kernel) (fun _ => by rfl) (fun hPc hDc => va_runV (As := []) (rest := []) ⟨hx, hb, hml, hown, hts⟩ (k_X12_isRowTold l D cB cC cI cJ _ a0 a1 a2 a3 a4 a5 a6 a7 a8 a9 a10 a11 a12 a13 a14 a15 a16 a17 a18 a19 a20 a21 a22 a23 a24 a25 a26 a27 a28 a29 a30 a31 a32 a33 a34 a35 a36 a37 a38 a39 a40 a41 a42 a43 x0 x1 x2 x3 x4 x5 x6 x7 x8 x9 x10 x11 x12 x13 x14 x15 x16 x17 x18 x19 x20 x21 x22 x23 x24 x25 x26 x27 y0 y1 f0 f1 h_x0 h_x1 h_x2 h_x3 h_x4 h_x5 h_x8 h_x9 h_x10 h_x11 h_x12 h_x14 h_x15 h_x16 h_x18 h_x19 h_x20 h_x21 h_x22 h_x23 h_x24 h_x25 h_x26 h_x27 hr_a0_0 hr_a0_1 hr_a0_2 hf_f1) ⟨gcwB hts tw_1821 tw_14 tw_1818 hd_yX12_isRowTold ⟨Nat.le_of_ble_eq_true rfl, Nat.le_of_ble_eq_true rfl⟩, hts _ tw_1820, hts _ tp_93⟩ ⟨gblind, va_recv hK hPc (ci := 12) (q0 := 0) rfl rfl, (gpreS hPc hK hDc hN).2⟩ rfl rfl hl.1 rfl (lv_room (Nat.le_of_ble_eq_true rfl)) dX12_send_1 ⟨Nat.le_of_ble_eq_true rfl, Nat.le_of_ble_eq_true rfl⟩) (fun r_2 u_1 H locs hw_3 hP hD hS => ?_)
  replace hP : va_P D gcl (zS_53 cB cC cI cJ a0 a1 0 x1 x2 x3 x4 x5 x6 x7 a2 a3 a4 a5 a6 a7 a8 a9 a10 a11 a12 a13 a14 a15 a16 x8 x9 x10 x11 x12 x13 a17 a18 a19 x14 a20 x15 a21 x16 x17 a22 a23 a24 a25 x18 a26 x19 a27 a28 a29 y0 a30 a31 a32 a33 a34 a35 a36 a37 a38 x20 x21 x22 y1 a39 x23 a40 a41 a42 a43 x24 x25 x26 x27 a29 (u_1.2.1 0) a1 f1 a18 f2 a28 f3) H := hP
  replace hD : va_D A (zS_53 cB cC cI cJ a0 a1 0 x1 x2 x3 x4 x5 x6 x7 a2 a3 a4 a5 a6 a7 a8 a9 a10 a11 a12 a13 a14 a15 a16 x8 x9 x10 x11 x12 x13 a17 a18 a19 x14 a20 x15 a21 x16 x17 a22 a23 a24 a25 x18 a26 x19 a27 a28 a29 y0 a30 a31 a32 a33 a34 a35 a36 a37 a38 x20 x21 x22 y1 a39 x23 a40 a41 a42 a43 x24 x25 x26 x27 a29 (u_1.2.1 0) a1 f1 a18 f2 a28 f3) := hD
  obtain ⟨hw_4, hw_5, hw_6, hw_7⟩ := hw_3
  replace hw_4 : (0 ≤ r_2.toInt ∧ r_2.toInt ≤ 1) := hw_4
  replace hw_5 : ((0 : Int32).toInt = 0) := hw_5
  replace hw_6 : (r_2.toInt = 0 ∨ RB (u_1.2.1 0) 0 x9.toInt) := hw_6
  replace hw_7 : (swQ r_2.toInt x0.toInt (tau f1 x0.toInt) x8.toInt x9.toInt) := hw_7
  have rr_2 : zBd r_2.toInt (-2147483648) 2147483647 := n_rng r_2
  refine b_if_ne (pc := 4) (tgt := 9) hx hb rfl  dX12_send_4 (by decide) (fun c_8 => ?_) (fun c_8 => ?_)
  ·
    as_aux_lemma =>
      have hh_9 : RB (u_1.2.1 0) 0 x9.toInt := (hw_6).resolve_left (by (first | omega | (unfold zBd at *; omega)))
      refine lv_iconst (pc := 9) (v := 0) hx hb dX12_send_9 (by decide) ?_
      refine lv_istore_n (pc := 10) (lv' := [(1, .int 0), (0, .ref a0)]) hx hb dX12_send_10 rfl hl (by decide) rfl (fun ls hl => ?_)
      have lp_14 : ∀ (n : Nat) (x_10 : Int32) (f_12 : Nat → Int32) (H : Heap) (locs : List Loc) (ls : Array Slot), (0 ≤ x_10.toInt ∧ x_10.toInt ≤ 2147483647) → (∀ j, (-1100000) ≤ (f_12 j).toInt ∧ (f_12 j).toInt ≤ 1100000) → (2147483647 - x_10.toInt).toNat < n → va_P D gcl (zS_53 cB cC cI cJ a0 a1 0 x1 x2 x3 x4 x5 x6 x7 a2 a3 a4 a5 a6 a7 a8 a9 a10 a11 a12 a13 a14 a15 a16 x8 x9 x10 x11 x12 x13 a17 a18 a19 x14 a20 x15 a21 x16 x17 a22 a23 a24 a25 x18 a26 x19 a27 a28 a29 y0 a30 a31 a32 a33 a34 a35 a36 a37 a38 x20 x21 x22 y1 a39 x23 a40 a41 a42 a43 x24 x25 x26 x27 a29 (u_1.2.1 0) a1 f1 a18 f2 a28 f_12) H → va_D A (zS_53 cB cC cI cJ a0 a1 0 x1 x2 x3 x4 x5 x6 x7 a2 a3 a4 a5 a6 a7 a8 a9 a10 a11 a12 a13 a14 a15 a16 x8 x9 x10 x11 x12 x13 a17 a18 a19 x14 a20 x15 a21 x16 x17 a22 a23 a24 a25 x18 a26 x19 a27 a28 a29 y0 a30 a31 a32 a33 a34 a35 a36 a37 a38 x20 x21 x22 y1 a39 x23 a40 a41 a42 a43 x24 x25 x26 x27 a29 (u_1.2.1 0) a1 f1 a18 f2 a28 f_12) → va_S A s.heap H locs → lv_has ls 2 [(1, .int x_10), (0, .ref a0)] → W p l e ({ frames := 3, cells := 0, slots := 0, locals := 68 }) s m args below meth c H locs 0 0 Q (F0 m 11 ls []) := by
        intro n
        induction n with
        | zero => intro x_10 f_12 H locs ls hi_11 hi_13 hmu; exact absurd hmu (Nat.not_lt_zero _)
        | succ n ih_lp_14 =>
          intro x_10 f_12 H locs ls hi_11 hi_13 hmu_lp_14 hP hD hS hl
          refine lv_iload_n (pc := 11) hx hb dX12_send_11 rfl (lv_at hl 0 rfl) ?_
          refine lv_aload_n (pc := 12) hx hb dX12_send_12 rfl (lv_at hl 1 rfl) ?_
          refine va_get (pc := 13) (ci := 12) (v := .int x10) (C := RX12) (T := TX12) (N := 73) hx hb hts iX12 hown hK hP 0 rfl rfl 26 (by decide) (hts _ tw_1427) (fun _ h9 => h9) rfl dX12_send_13 ?_
          have bd_h_x10 : 0 ≤ x10.toInt ∧ x10.toInt ≤ 6 := h_x10
          refine b_icmp_ge (pc := 16) (tgt := 36) hx hb rfl rfl  dX12_send_16 (by decide) (fun c_15 => ?_) (fun c_15 => ?_)
          ·
            as_aux_lemma =>
              refine lv_iconst (pc := 36) (v := 1) hx hb dX12_send_36 (by decide) ?_
              have hP9 : va_P D gcl (zS_53 cB cC cI cJ a0 a1 0 x1 x2 x3 x4 x5 x6 x7 a2 a3 a4 a5 a6 a7 a8 a9 a10 a11 a12 a13 a14 a15 a16 x8 x9 x10 x11 x12 x13 a17 a18 a19 x14 a20 x15 a21 x16 x17 a22 a23 a24 a25 x18 a26 x19 a27 a28 a29 y0 a30 a31 a32 a33 a34 a35 a36 a37 a38 x20 x21 x22 y1 a39 x23 a40 a41 a42 a43 x24 x25 x26 x27 a29 (u_1.2.1 0) a1 f1 a18 f2 a28 f_12) H := g_psub hP [0, 1, 2, 3, 4] rfl
              have hD9 : va_D A (zS_53 cB cC cI cJ a0 a1 0 x1 x2 x3 x4 x5 x6 x7 a2 a3 a4 a5 a6 a7 a8 a9 a10 a11 a12 a13 a14 a15 a16 x8 x9 x10 x11 x12 x13 a17 a18 a19 x14 a20 x15 a21 x16 x17 a22 a23 a24 a25 x18 a26 x19 a27 a28 a29 y0 a30 a31 a32 a33 a34 a35 a36 a37 a38 x20 x21 x22 y1 a39 x23 a40 a41 a42 a43 x24 x25 x26 x27 a29 (u_1.2.1 0) a1 f1 a18 f2 a28 f_12) := hD.sub [0, 1, 2, 3, 4] (by decide) rfl
              have k9 := tI_1
              have k8_0 := tI_0
              exact hret 1 ((fun _ => 0), (fun k => [(u_1.2.1 0), f_12].getD k (fun _ => 0)), (fun _ => (fun _ => 0)), (fun _ => 0), (fun _ => 0)) dX12_send_37 ⟨(Or.inr tI_1), ⟨(show (0 ≤ (1 : Int32).toInt ∧ (1 : Int32).toInt ≤ 1) from (n_c tI_1 (by decide))), hi_13, (show (0 : Int32).toInt = 0 from hw_5), (show swQ (1 : Int32).toInt x0.toInt (tau f1 x0.toInt) x8.toInt x9.toInt from sw_to hw_7 (by first | exact (om_106 tI_1 c_8) | ((first | omega | (unfold zBd at *; omega)))))⟩⟩ hP9 hD9 hS
          ·
            as_aux_lemma =>
              refine lv_aload_n (pc := 19) hx hb dX12_send_19 rfl (lv_at hl 1 rfl) ?_
              refine va_get (pc := 20) (ci := 12) (v := .ref a28) (C := RX12) (T := TX12) (N := 73) hx hb hts iX12 hown hK hP 0 rfl rfl 47 (by decide) (hts _ tw_1448) (fun _ h9 => h9) rfl dX12_send_20 ?_
              refine lv_iload_n (pc := 23) hx hb dX12_send_23 rfl (lv_at hl 0 rfl) ?_
              refine lv_aload_n (pc := 24) hx hb dX12_send_24 rfl (lv_at hl 1 rfl) ?_
              refine lv_iload_n (pc := 25) hx hb dX12_send_25 rfl (lv_at hl 0 rfl) ?_
              refine gd_i (pc := 26) (wc := (zS_167 cB cC cI cJ a0 a1 0 x1 x2 x3 x4 x5 x6 x7 a2 a3 a4 a5 a6 a7 a8 a9 a10 a11 a12 a13 a14 a15 a16 x8 x9 x10 x11 x12 x13 a17 a18 a19 x14 a20 x15 a21 x16 x17 a22 a23 a24 a25 x18 a26 x19 a27 a28 a29 y0 a30 a31 a32 a33 a34 a35 a36 a37 a38 x20 x21 x22 y1 a39 x23 a40 a41 a42 a43 x24 x25 x26 x27 a29 (u_1.2.1 0) a18 f2)) hP hD hS hA [0, 1, 3] rfl (by decide +kernel) (fun _ => by rfl) (fun hPc hDc => va_runV (As := [.int x_10]) (rest := [.int x_10, .ref a28]) ⟨hx, hb, hml, hown, hts⟩ (k_X12_sentTo_b l D cB cC cI cJ _ a0 a1 a2 a3 a4 a5 a6 a7 a8 a9 a10 a11 a12 a13 a14 a15 a16 a17 a18 a19 a20 a21 a22 a23 a24 a25 a26 a27 a28 a29 a30 a31 a32 a33 a34 a35 a36 a37 a38 a39 a40 a41 a42 a43 x_10 0 x1 x2 x3 x4 x5 x6 x7 x8 x9 x10 x11 x12 x13 x14 x15 x16 x17 x18 x19 x20 x21 x22 x23 x24 x25 x26 x27 y0 y1 (u_1.2.1 0) f2 (by first | exact (om_1083 hi_11.1 c_15 h_x10.2) | (have k0 := tI_0; (first | omega | (unfold zBd at *; omega)))) (n_c tI_0 (by decide)) h_x1 h_x2 h_x3 h_x4 h_x5 h_x8 h_x9 h_x10 h_x11 h_x12 h_x14 h_x15 h_x16 h_x18 h_x19 h_x20 h_x21 h_x22 h_x23 h_x24 h_x25 h_x26 h_x27 hr_a0_0 hr_a0_1 hr_a0_2 (hh_9) hf_f2) ⟨gcwB hts tw_1829 tw_14 tw_1826 hd_yX12_sentTo ⟨Nat.le_of_ble_eq_true rfl, Nat.le_of_ble_eq_true rfl⟩, hts _ tw_1828, hts _ tp_95⟩ ⟨gblind, va_recv hK hPc (ci := 12) (q0 := 0) rfl rfl, (gpreS hPc hK hDc hN).2⟩ rfl rfl hl.1 rfl (lv_room (Nat.le_of_ble_eq_true rfl)) dX12_send_26 ⟨Nat.le_of_ble_eq_true rfl, Nat.le_of_ble_eq_true rfl⟩) (fun r_17 u_16 H locs hw_18 hP hD hS => ?_)
              replace hP : va_P D gcl (zS_53 cB cC cI cJ a0 a1 0 x1 x2 x3 x4 x5 x6 x7 a2 a3 a4 a5 a6 a7 a8 a9 a10 a11 a12 a13 a14 a15 a16 x8 x9 x10 x11 x12 x13 a17 a18 a19 x14 a20 x15 a21 x16 x17 a22 a23 a24 a25 x18 a26 x19 a27 a28 a29 y0 a30 a31 a32 a33 a34 a35 a36 a37 a38 x20 x21 x22 y1 a39 x23 a40 a41 a42 a43 x24 x25 x26 x27 a29 (u_1.2.1 0) a1 f1 a18 f2 a28 f_12) H := hP
              replace hD : va_D A (zS_53 cB cC cI cJ a0 a1 0 x1 x2 x3 x4 x5 x6 x7 a2 a3 a4 a5 a6 a7 a8 a9 a10 a11 a12 a13 a14 a15 a16 x8 x9 x10 x11 x12 x13 a17 a18 a19 x14 a20 x15 a21 x16 x17 a22 a23 a24 a25 x18 a26 x19 a27 a28 a29 y0 a30 a31 a32 a33 a34 a35 a36 a37 a38 x20 x21 x22 y1 a39 x23 a40 a41 a42 a43 x24 x25 x26 x27 a29 (u_1.2.1 0) a1 f1 a18 f2 a28 f_12) := hD
              have hw_19 : ((-1100000) ≤ r_17.toInt ∧ r_17.toInt ≤ 1100000) := hw_18
              have kk0_r_17 := tI_0
              have rr_17 : zBd r_17.toInt (-2147483648) 2147483647 := n_rng r_17
              refine h_iastore (pc := 29) hx hb hK hP hD hS 4 2 rfl rfl (n_in rfl (by first | exact (om_0 hi_11.1) | ((first | omega | (unfold zBd at *; omega)))) (by first | exact (om_1082 c_15 h_x10.2) | ((first | omega | (unfold zBd at *; omega))))) dX12_send_29 hi_13 (by first | exact (om_1586 hw_19.1) | ((first | omega | (unfold zBd at *; omega)))) (by first | exact (om_1587 hw_19.2) | ((first | omega | (unfold zBd at *; omega)))) (fun f_20 hf_20 H locs hP hD hS => ?_)
              replace hP : va_P D gcl (zS_53 cB cC cI cJ a0 a1 0 x1 x2 x3 x4 x5 x6 x7 a2 a3 a4 a5 a6 a7 a8 a9 a10 a11 a12 a13 a14 a15 a16 x8 x9 x10 x11 x12 x13 a17 a18 a19 x14 a20 x15 a21 x16 x17 a22 a23 a24 a25 x18 a26 x19 a27 a28 a29 y0 a30 a31 a32 a33 a34 a35 a36 a37 a38 x20 x21 x22 y1 a39 x23 a40 a41 a42 a43 x24 x25 x26 x27 a29 (u_1.2.1 0) a1 f1 a18 f2 a28 f_20) H := hP
              replace hD : va_D A (zS_53 cB cC cI cJ a0 a1 0 x1 x2 x3 x4 x5 x6 x7 a2 a3 a4 a5 a6 a7 a8 a9 a10 a11 a12 a13 a14 a15 a16 x8 x9 x10 x11 x12 x13 a17 a18 a19 x14 a20 x15 a21 x16 x17 a22 a23 a24 a25 x18 a26 x19 a27 a28 a29 y0 a30 a31 a32 a33 a34 a35 a36 a37 a38 x20 x21 x22 y1 a39 x23 a40 a41 a42 a43 x24 x25 x26 x27 a29 (u_1.2.1 0) a1 f1 a18 f2 a28 f_20) := hD
              refine b_iinc (pc := 30) hx hb dX12_send_30 hl (k := 0) rfl rfl tI_1 (by first | exact (om_2 hi_11.1) | ((first | omega | (unfold zBd at *; omega)))) (by first | exact (om_1084 c_15 h_x10.2) | ((first | omega | (unfold zBd at *; omega)))) (by decide) (fun x_21 ex_21 ls hl => ?_)
              replace hl : lv_has ls 2 [(1, .int x_21), (0, .ref a0)] := hl
              refine lv_goto (pc := 33) (tgt := 11) hx hb dX12_send_33 (by decide) ?_
              exact ih_lp_14 x_21 f_20 _ _ ls (by first | exact (om_1085 ex_21 hi_11.1 c_15 h_x10.2) | ((first | omega | (unfold zBd at *; omega)))) hf_20 (by (first | omega | (unfold zBd at *; omega))) hP hD hS (lv_sub hl [0, 1] rfl)
      exact lp_14 _ 0 f3 _ _ ls (n_c tI_0 (by decide)) hf_f3 (Nat.lt_succ_self _) hP hD hS (lv_sub hl [0, 1] rfl)
  ·
    as_aux_lemma =>
      refine lv_iconst (pc := 7) (v := 0) hx hb dX12_send_7 (by decide) ?_
      have hP9 : va_P D gcl (zS_53 cB cC cI cJ a0 a1 0 x1 x2 x3 x4 x5 x6 x7 a2 a3 a4 a5 a6 a7 a8 a9 a10 a11 a12 a13 a14 a15 a16 x8 x9 x10 x11 x12 x13 a17 a18 a19 x14 a20 x15 a21 x16 x17 a22 a23 a24 a25 x18 a26 x19 a27 a28 a29 y0 a30 a31 a32 a33 a34 a35 a36 a37 a38 x20 x21 x22 y1 a39 x23 a40 a41 a42 a43 x24 x25 x26 x27 a29 (u_1.2.1 0) a1 f1 a18 f2 a28 f3) H := g_psub hP [0, 1, 2, 3, 4] rfl
      have hD9 : va_D A (zS_53 cB cC cI cJ a0 a1 0 x1 x2 x3 x4 x5 x6 x7 a2 a3 a4 a5 a6 a7 a8 a9 a10 a11 a12 a13 a14 a15 a16 x8 x9 x10 x11 x12 x13 a17 a18 a19 x14 a20 x15 a21 x16 x17 a22 a23 a24 a25 x18 a26 x19 a27 a28 a29 y0 a30 a31 a32 a33 a34 a35 a36 a37 a38 x20 x21 x22 y1 a39 x23 a40 a41 a42 a43 x24 x25 x26 x27 a29 (u_1.2.1 0) a1 f1 a18 f2 a28 f3) := hD.sub [0, 1, 2, 3, 4] (by decide) rfl
      have k9 := tI_0
      have k8_0 := tI_0
      exact hret 0 ((fun _ => 0), (fun k => [(u_1.2.1 0), f3].getD k (fun _ => 0)), (fun _ => (fun _ => 0)), (fun _ => 0), (fun _ => 0)) dX12_send_8 ⟨(Or.inl tI_0), ⟨(show (0 ≤ (0 : Int32).toInt ∧ (0 : Int32).toInt ≤ 1) from (n_c tI_0 (by decide))), hf_f3, (show (0 : Int32).toInt = 0 from hw_5), (show swQ (0 : Int32).toInt x0.toInt (tau f1 x0.toInt) x8.toInt x9.toInt from sw_to hw_7 (by first | exact (om_104 hw_5 c_8) | ((first | omega | (unfold zBd at *; omega)))))⟩⟩ hP9 hD9 hS
theorem om_1588 {a b : Int} (h0 : ((-2147483648) ≤ a)) (h1 : (a ≤ 2147483647)) (h2 : (0 ≤ b)) (h3 : (b ≤ 5)) : (((((-2147483648) ≤ a ∧ a ≤ 2147483647) ∧ (0 ≤ b ∧ b ≤ 5)))) := by omega
theorem om_1589 {a b c d : Int} (h0 : (a = 5 * c)) (h1 : (b < d)) (h2 : (d ≤ 5)) (h3 : (c ≤ 5)) : (a + b ≤ 2147483647) := by omega
theorem om_1590 {a b c d e : Int} (h0 : (a = b + c)) (h1 : (b = 5 * d)) (h2 : (c < e)) (h3 : (e ≤ 5)) (h4 : (d ≤ 5)) : (a < (60 : Nat)) := by omega
set_option maxHeartbeats 4000000 in
set_option maxRecDepth 100000 in
theorem k_X12_sentTo (l : Launch) (D : va_G) (cB cC cI cJ : ClassId) (sz : Nat) (a0 a1 a2 a3 a4 a5 a6 a7 a8 a9 a10 a11 a12 a13 a14 a15 a16 a17 a18 a19 a20 a21 a22 a23 a24 a25 a26 a27 a28 a29 a30 a31 a32 a33 a34 a35 a36 a37 a38 a39 a40 a41 a42 a43 : Nat) (x0 x1 x2 x3 x4 x5 x6 x7 x8 x9 x10 x11 x12 x13 x14 x15 x16 x17 x18 x19 x20 x21 x22 x23 x24 x25 x26 x27 x28 : Int32) (y0 y1 : Int64) (f0 f1 : Nat → Int32) (hp1 : (0 ≤ x0.toInt ∧ x0.toInt ≤ 5)) (h_x1 : zBd x1.toInt 0 1600) (h_x2 : zBd x2.toInt 0 1600) (h_x3 : zBd x3.toInt 0 1600) (h_x4 : zBd x4.toInt (-1) 1600) (h_x5 : zBd x5.toInt 0 4) (h_x6 : zBd x6.toInt (-1) 1600) (h_x9 : zBd x9.toInt 0 8) (h_x10 : zBd x10.toInt 0 5) (h_x11 : zBd x11.toInt 0 6) (h_x12 : zBd x12.toInt 0 6) (h_x13 : zBd x13.toInt 0 16) (h_x15 : zBd x15.toInt 0 60) (h_x16 : zBd x16.toInt 0 1600) (h_x17 : zBd x17.toInt 0 1700) (h_x19 : zBd x19.toInt 0 1700) (h_x20 : zBd x20.toInt 0 1700) (h_x21 : zBd x21.toInt 0 200) (h_x22 : zBd x22.toInt 0 40) (h_x23 : zBd x23.toInt 0 40) (h_x24 : zBd x24.toInt 0 1) (h_x25 : zBd x25.toInt 0 14) (h_x26 : zBd x26.toInt 0 200) (h_x27 : zBd x27.toInt 0 40) (h_x28 : zBd x28.toInt 0 40) (hr_a0_0 : (x22.toInt ≤ x21.toInt)) (hr_a0_1 : (x21.toInt + x23.toInt ≤ 200)) (hr_a0_2 : (x10.toInt = 0 ∨ 2 ≤ x9.toInt)) (hf_f0 : (∀ j, (-9999) ≤ (f0 j).toInt ∧ (f0 j).toInt ≤ 9999)) : Met l yX12_sentTo (.code yX12_sentTo cX12_sentTo 4 (some .int) :: lw_gd) ({ frames := 0, cells := 0, slots := 0, locals := 0 }) (gPre D [(cB, .byte), (cC, .char), (cI, .int), (cJ, .long)] [.ref a0, .int x0] (zS_21 cB cC cI cJ a0 a1 x1 x2 x3 x4 x5 x6 x7 x8 a2 a3 a4 a5 a6 a7 a8 a9 a10 a11 a12 a13 a14 a15 a16 x9 x10 x11 x12 x13 x14 a17 a18 a19 x15 a20 x16 a21 x17 x18 a22 a23 a24 a25 x19 a26 x20 a27 a28 a29 y0 a30 a31 a32 a33 a34 a35 a36 a37 a38 x21 x22 x23 y1 a39 x24 a40 a41 a42 a43 x25 x26 x27 x28 a18 f0 a29 f1) sz) (va_Qi (fun r u => ((((-2147483648) ≤ r.toInt ∧ r.toInt ≤ 2147483647) ∧ (0 ≤ x10.toInt ∧ x10.toInt ≤ 5)))) (gB D (va_A (zS_21 cB cC cI cJ a0 a1 x1 x2 x3 x4 x5 x6 x7 x8 a2 a3 a4 a5 a6 a7 a8 a9 a10 a11 a12 a13 a14 a15 a16 x9 x10 x11 x12 x13 x14 a17 a18 a19 x15 a20 x16 a21 x17 x18 a22 a23 a24 a25 x19 a26 x20 a27 a28 a29 y0 a30 a31 a32 a33 a34 a35 a36 a37 a38 x21 x22 x23 y1 a39 x24 a40 a41 a42 a43 x25 x26 x27 x28 a18 f0 a29 f1) sz) (fun u : gEx => (zS_21 cB cC cI cJ a0 a1 x1 x2 x3 x4 x5 x6 x7 x8 a2 a3 a4 a5 a6 a7 a8 a9 a10 a11 a12 a13 a14 a15 a16 x9 x10 x11 x12 x13 x14 a17 a18 a19 x15 a20 x16 a21 x17 x18 a22 a23 a24 a25 x19 a26 x20 a27 a28 a29 y0 a30 a31 a32 a33 a34 a35 a36 a37 a38 x21 x22 x23 y1 a39 x24 a40 a41 a42 a43 x25 x26 x27 x28 a18 f0 a29 f1))) (va_A (zS_21 cB cC cI cJ a0 a1 x1 x2 x3 x4 x5 x6 x7 x8 a2 a3 a4 a5 a6 a7 a8 a9 a10 a11 a12 a13 a14 a15 a16 x9 x10 x11 x12 x13 x14 a17 a18 a19 x15 a20 x16 a21 x17 x18 a22 a23 a24 a25 x19 a26 x20 a27 a28 a29 y0 a30 a31 a32 a33 a34 a35 a36 a37 a38 x21 x22 x23 y1 a39 x24 a40 a41 a42 a43 x25 x26 x27 x28 a18 f0 a29 f1) sz)) 0 0 (va_A (zS_21 cB cC cI cJ a0 a1 x1 x2 x3 x4 x5 x6 x7 x8 a2 a3 a4 a5 a6 a7 a8 a9 a10 a11 a12 a13 a14 a15 a16 x9 x10 x11 x12 x13 x14 a17 a18 a19 x15 a20 x16 a21 x17 x18 a22 a23 a24 a25 x19 a26 x20 a27 a28 a29 y0 a30 a31 a32 a33 a34 a35 a36 a37 a38 x21 x22 x23 y1 a39 x24 a40 a41 a42 a43 x25 x26 x27 x28 a18 f0 a29 f1) sz) := by
  refine gOf_i (by decide +kernel) (Nat.le_of_ble_eq_true rfl) ?_
  intro p e s m args below meth c ls A Q hx hb hts hown hml hN hK hP hD hA hl hret
  replace hown : s.vm.findClass RX12 = some m.cls := hown
  have hS : va_S A s.heap s.heap [] := va_S.rf
  replace hP : va_P D gcl (zS_21 cB cC cI cJ a0 a1 x1 x2 x3 x4 x5 x6 x7 x8 a2 a3 a4 a5 a6 a7 a8 a9 a10 a11 a12 a13 a14 a15 a16 x9 x10 x11 x12 x13 x14 a17 a18 a19 x15 a20 x16 a21 x17 x18 a22 a23 a24 a25 x19 a26 x20 a27 a28 a29 y0 a30 a31 a32 a33 a34 a35 a36 a37 a38 x21 x22 x23 y1 a39 x24 a40 a41 a42 a43 x25 x26 x27 x28 a18 f0 a29 f1) s.heap := hP
  replace hl : lv_has ls 4 [(0, .ref a0), (1, .int x0)] := hl
  have rx7 : zBd x7.toInt (-2147483648) 2147483647 := n_rng x7
  have rx8 : zBd x8.toInt (-2147483648) 2147483647 := n_rng x8
  have rx14 : zBd x14.toInt (-2147483648) 2147483647 := n_rng x14
  have rx18 : zBd x18.toInt (-2147483648) 2147483647 := n_rng x18
  have ry0 := n_rngL y0
  have ry1 := n_rngL y1
  refine lv_iconst (pc := 0) (v := 0) hx hb dX12_sentTo_0 (by decide) ?_
  refine lv_istore_n (pc := 1) (lv' := [(2, .int 0), (0, .ref a0), (1, .int x0)]) hx hb dX12_sentTo_1 rfl hl (by decide) rfl (fun ls hl => ?_)
  refine lv_iconst (pc := 2) (v := 0) hx hb dX12_sentTo_2 (by decide) ?_
  refine lv_istore_n (pc := 3) (lv' := [(3, .int 0), (2, .int 0), (0, .ref a0), (1, .int x0)]) hx hb dX12_sentTo_3 rfl hl (by decide) rfl (fun ls hl => ?_)
  have lp_5 : ∀ (n : Nat) (x_1 x_3 : Int32) (H : Heap) (locs : List Loc) (ls : Array Slot), (0 ≤ x_1.toInt ∧ x_1.toInt ≤ 2147483647) → (2147483647 - x_1.toInt).toNat < n → va_P D gcl (zS_21 cB cC cI cJ a0 a1 x1 x2 x3 x4 x5 x6 x7 x8 a2 a3 a4 a5 a6 a7 a8 a9 a10 a11 a12 a13 a14 a15 a16 x9 x10 x11 x12 x13 x14 a17 a18 a19 x15 a20 x16 a21 x17 x18 a22 a23 a24 a25 x19 a26 x20 a27 a28 a29 y0 a30 a31 a32 a33 a34 a35 a36 a37 a38 x21 x22 x23 y1 a39 x24 a40 a41 a42 a43 x25 x26 x27 x28 a18 f0 a29 f1) H → va_D A (zS_21 cB cC cI cJ a0 a1 x1 x2 x3 x4 x5 x6 x7 x8 a2 a3 a4 a5 a6 a7 a8 a9 a10 a11 a12 a13 a14 a15 a16 x9 x10 x11 x12 x13 x14 a17 a18 a19 x15 a20 x16 a21 x17 x18 a22 a23 a24 a25 x19 a26 x20 a27 a28 a29 y0 a30 a31 a32 a33 a34 a35 a36 a37 a38 x21 x22 x23 y1 a39 x24 a40 a41 a42 a43 x25 x26 x27 x28 a18 f0 a29 f1) → va_S A s.heap H locs → lv_has ls 4 [(3, .int x_1), (2, .int x_3), (0, .ref a0), (1, .int x0)] → W p l e ({ frames := 0, cells := 0, slots := 0, locals := 0 }) s m args below meth c H locs 0 0 Q (F0 m 4 ls []) := by
    intro n
    induction n with
    | zero => intro x_1 x_3 H locs ls hi_2 hmu; exact absurd hmu (Nat.not_lt_zero _)
    | succ n ih_lp_5 =>
      intro x_1 x_3 H locs ls hi_2 hmu_lp_5 hP hD hS hl
      have hi_4 := n_rng x_3
      refine lv_iload_n (pc := 4) hx hb dX12_sentTo_4 rfl (lv_at hl 0 rfl) ?_
      refine lv_aload_n (pc := 5) hx hb dX12_sentTo_5 rfl (lv_at hl 2 rfl) ?_
      refine va_get (pc := 6) (ci := 12) (v := .int x10) (C := RX12) (T := TX12) (N := 73) hx hb hts iX12 hown hK hP 0 rfl rfl 25 (by decide) (hts _ tw_1426) (fun _ h9 => h9) rfl dX12_sentTo_6 ?_
      have bd_h_x10 : 0 ≤ x10.toInt ∧ x10.toInt ≤ 5 := h_x10
      refine b_icmp_ge (pc := 9) (tgt := 38) hx hb rfl rfl  dX12_sentTo_9 (by decide) (fun c_6 => ?_) (fun c_6 => ?_)
      ·
        as_aux_lemma =>
          refine lv_iload_n (pc := 38) hx hb dX12_sentTo_38 rfl (lv_at hl 1 rfl) ?_
          have hP9 : va_P D gcl (zS_21 cB cC cI cJ a0 a1 x1 x2 x3 x4 x5 x6 x7 x8 a2 a3 a4 a5 a6 a7 a8 a9 a10 a11 a12 a13 a14 a15 a16 x9 x10 x11 x12 x13 x14 a17 a18 a19 x15 a20 x16 a21 x17 x18 a22 a23 a24 a25 x19 a26 x20 a27 a28 a29 y0 a30 a31 a32 a33 a34 a35 a36 a37 a38 x21 x22 x23 y1 a39 x24 a40 a41 a42 a43 x25 x26 x27 x28 a18 f0 a29 f1) H := g_psub hP [0, 1, 2] rfl
          have hD9 : va_D A (zS_21 cB cC cI cJ a0 a1 x1 x2 x3 x4 x5 x6 x7 x8 a2 a3 a4 a5 a6 a7 a8 a9 a10 a11 a12 a13 a14 a15 a16 x9 x10 x11 x12 x13 x14 a17 a18 a19 x15 a20 x16 a21 x17 x18 a22 a23 a24 a25 x19 a26 x20 a27 a28 a29 y0 a30 a31 a32 a33 a34 a35 a36 a37 a38 x21 x22 x23 y1 a39 x24 a40 a41 a42 a43 x25 x26 x27 x28 a18 f0 a29 f1) := hD.sub [0, 1, 2] (by decide) rfl
          exact hret x_3 ((fun _ => 0), (fun _ => (fun _ => 0)), (fun _ => (fun _ => 0)), (fun _ => 0), (fun _ => 0)) dX12_sentTo_39 (show ((((-2147483648) ≤ x_3.toInt ∧ x_3.toInt ≤ 2147483647) ∧ (0 ≤ x10.toInt ∧ x10.toInt ≤ 5))) from (by first | exact (om_1588 hi_4.1 hi_4.2 h_x10.1 h_x10.2) | ((first | omega | (unfold zBd at *; omega))))) hP9 hD9 hS
      ·
        as_aux_lemma =>
          refine lv_iload_n (pc := 12) hx hb dX12_sentTo_12 rfl (lv_at hl 1 rfl) ?_
          refine lv_aload_n (pc := 13) hx hb dX12_sentTo_13 rfl (lv_at hl 2 rfl) ?_
          refine va_get (pc := 14) (ci := 12) (v := .ref a18) (C := RX12) (T := TX12) (N := 73) hx hb hts iX12 hown hK hP 0 rfl rfl 31 (by decide) (hts _ tw_1432) (fun _ h9 => h9) rfl dX12_sentTo_14 ?_
          refine lv_iconst (pc := 17) (v := 5) hx hb dX12_sentTo_17 (by decide) ?_
          refine lv_iload_n (pc := 18) hx hb dX12_sentTo_18 rfl (lv_at hl 3 rfl) ?_
          refine b_imul (pc := 19) hx hb tI_5 rfl (by first | exact (om_941 hp1.1) | ((first | omega | (unfold zBd at *; omega)))) (by first | exact (om_1574 hp1.2) | ((first | omega | (unfold zBd at *; omega)))) dX12_sentTo_19 (fun x_7 ex_7 => ?_)
          refine lv_iload_n (pc := 20) hx hb dX12_sentTo_20 rfl (lv_at hl 0 rfl) ?_
          refine b_iadd (pc := 21) hx hb rfl rfl (by first | exact (om_1529 ex_7 hi_2.1 hp1.1) | ((first | omega | (unfold zBd at *; omega)))) (by first | exact (om_1589 ex_7 c_6 h_x10.2 hp1.2) | ((first | omega | (unfold zBd at *; omega)))) dX12_sentTo_21 (fun x_8 ex_8 => ?_)
          refine va_iald (pc := 22) hx hb hK hP 1 2 rfl rfl (n_in rfl (by first | exact (om_1531 ex_8 ex_7 hi_2.1 hp1.1) | ((first | omega | (unfold zBd at *; omega)))) (by first | exact (om_1590 ex_8 ex_7 c_6 h_x10.2 hp1.2) | ((first | omega | (unfold zBd at *; omega))))) dX12_sentTo_22 ?_
          refine lv_topi (fun x_9 ex_9 => ?_)
          have rx_9 : ((-9999) ≤ x_9.toInt ∧ x_9.toInt ≤ 9999) := by rw [ex_9]; exact hf_f0 _
          as_aux_lemma =>
            refine lv_aload_n (pc := 23) hx hb dX12_sentTo_23 rfl (lv_at hl 2 rfl) ?_
            refine va_get (pc := 24) (ci := 12) (v := .ref a29) (C := RX12) (T := TX12) (N := 73) hx hb hts iX12 hown hK hP 0 rfl rfl 48 (by decide) (hts _ tw_1449) (fun _ h9 => h9) rfl dX12_sentTo_24 ?_
            refine lv_iload_n (pc := 27) hx hb dX12_sentTo_27 rfl (lv_at hl 0 rfl) ?_
            refine va_iald (pc := 28) hx hb hK hP 2 2 rfl rfl (n_in rfl (by first | exact (om_0 hi_2.1) | ((first | omega | (unfold zBd at *; omega)))) (by first | exact (om_1020 c_6 h_x10.2) | ((first | omega | (unfold zBd at *; omega))))) dX12_sentTo_28 ?_
            refine lv_topi (fun x_10 ex_10 => ?_)
            have rx_10 : zBd x_10.toInt (-2147483648) 2147483647 := n_rng x_10
            refine lv_imul (pc := 29) hx hb dX12_sentTo_29 ?_
            refine lv_topi (fun x_11 _ => ?_)
            have rx_11 : zBd x_11.toInt (-2147483648) 2147483647 := n_rng x_11
            refine lv_iadd (pc := 30) hx hb dX12_sentTo_30 ?_
            refine lv_topi (fun x_12 _ => ?_)
            have rx_12 : zBd x_12.toInt (-2147483648) 2147483647 := n_rng x_12
            refine lv_istore_n (pc := 31) (lv' := [(2, .int x_12), (3, .int x_1), (0, .ref a0), (1, .int x0)]) hx hb dX12_sentTo_31 rfl hl (by decide) rfl (fun ls hl => ?_)
            as_aux_lemma =>
              refine b_iinc (pc := 32) hx hb dX12_sentTo_32 hl (k := 1) rfl rfl tI_1 (by first | exact (om_2 hi_2.1) | ((first | omega | (unfold zBd at *; omega)))) (by first | exact (om_338 c_6 h_x10.2) | ((first | omega | (unfold zBd at *; omega)))) (by decide) (fun x_13 ex_13 ls hl => ?_)
              replace hl : lv_has ls 4 [(3, .int x_13), (2, .int x_12), (0, .ref a0), (1, .int x0)] := hl
              refine lv_goto (pc := 35) (tgt := 4) hx hb dX12_sentTo_35 (by decide) ?_
              exact ih_lp_5 x_13 x_12 _ _ ls (by first | exact (om_339 ex_13 hi_2.1 c_6 h_x10.2) | ((first | omega | (unfold zBd at *; omega)))) (by (first | omega | (unfold zBd at *; omega))) hP hD hS (lv_sub hl [0, 1, 2, 3] rfl)
  exact lp_5 _ 0 0 _ _ ls (n_c tI_0 (by decide)) (Nat.lt_succ_self _) hP hD hS (lv_sub hl [0, 1, 2, 3] rfl)
theorem om_1591 {a b : Int} (h0 : ((-9223372036854775808) ≤ a)) (h1 : (a ≤ 9223372036854775807)) (h2 : (0 ≤ b)) (h3 : (b ≤ 6)) : (((((-9223372036854775808) ≤ a ∧ a ≤ 9223372036854775807) ∧ (0 ≤ b ∧ b ≤ 6)))) := by omega
set_option maxHeartbeats 4000000 in
set_option maxRecDepth 100000 in
theorem k_X12_squaresLess (l : Launch) (D : va_G) (cB cC cI cJ : ClassId) (sz : Nat) (a0 a1 a2 a3 a4 a5 a6 a7 a8 a9 a10 a11 a12 a13 a14 a15 a16 a17 a18 a19 a20 a21 a22 a23 a24 a25 a26 a27 a28 a29 a30 a31 a32 a33 a34 a35 a36 a37 a38 a39 a40 a41 a42 a43 : Nat) (x0 x1 x2 x3 x4 x5 x6 x7 x8 x9 x10 x11 x12 x13 x14 x15 x16 x17 x18 x19 x20 x21 x22 x23 x24 x25 x26 x27 x28 : Int32) (y0 y1 : Int64) (f0 f1 f2 : Nat → Int32) (hp1 : (0 ≤ x0.toInt ∧ x0.toInt ≤ 1)) (h_x1 : zBd x1.toInt 0 1600) (h_x2 : zBd x2.toInt 0 1600) (h_x3 : zBd x3.toInt 0 1600) (h_x4 : zBd x4.toInt (-1) 1600) (h_x5 : zBd x5.toInt 0 4) (h_x6 : zBd x6.toInt (-1) 1600) (h_x9 : zBd x9.toInt 0 8) (h_x10 : zBd x10.toInt 0 5) (h_x11 : zBd x11.toInt 0 6) (h_x12 : zBd x12.toInt 0 6) (h_x13 : zBd x13.toInt 0 16) (h_x15 : zBd x15.toInt 0 60) (h_x16 : zBd x16.toInt 0 1600) (h_x17 : zBd x17.toInt 0 1700) (h_x19 : zBd x19.toInt 0 1700) (h_x20 : zBd x20.toInt 0 1700) (h_x21 : zBd x21.toInt 0 200) (h_x22 : zBd x22.toInt 0 40) (h_x23 : zBd x23.toInt 0 40) (h_x24 : zBd x24.toInt 0 1) (h_x25 : zBd x25.toInt 0 14) (h_x26 : zBd x26.toInt 0 200) (h_x27 : zBd x27.toInt 0 40) (h_x28 : zBd x28.toInt 0 40) (hr_a0_0 : (x22.toInt ≤ x21.toInt)) (hr_a0_1 : (x21.toInt + x23.toInt ≤ 200)) (hr_a0_2 : (x10.toInt = 0 ∨ 2 ≤ x9.toInt)) (hf_f0 : (∀ j, (-9999) ≤ (f0 j).toInt ∧ (f0 j).toInt ≤ 9999)) (hf_f2 : (∀ j, (-1100000) ≤ (f2 j).toInt ∧ (f2 j).toInt ≤ 1100000)) : Met l yX12_squaresLess (.code yX12_squaresLess cX12_squaresLess 7 (some .long) :: lw_gd) ({ frames := 1, cells := 0, slots := 0, locals := 23 }) (gPre D [(cB, .byte), (cC, .char), (cI, .int), (cJ, .long)] [.ref a0, .int x0] (zS_124 cB cC cI cJ a0 a1 x1 x2 x3 x4 x5 x6 x7 x8 a2 a3 a4 a5 a6 a7 a8 a9 a10 a11 a12 a13 a14 a15 a16 x9 x10 x11 x12 x13 x14 a17 a18 a19 x15 a20 x16 a21 x17 x18 a22 a23 a24 a25 x19 a26 x20 a27 a28 a29 y0 a30 a31 a32 a33 a34 a35 a36 a37 a38 x21 x22 x23 y1 a39 x24 a40 a41 a42 a43 x25 x26 x27 x28 a18 f0 a29 f1 a28 f2) sz) (va_Ql (fun r u => ((((-9223372036854775808) ≤ r.toInt ∧ r.toInt ≤ 9223372036854775807) ∧ (0 ≤ x11.toInt ∧ x11.toInt ≤ 6)))) (gB D (va_A (zS_124 cB cC cI cJ a0 a1 x1 x2 x3 x4 x5 x6 x7 x8 a2 a3 a4 a5 a6 a7 a8 a9 a10 a11 a12 a13 a14 a15 a16 x9 x10 x11 x12 x13 x14 a17 a18 a19 x15 a20 x16 a21 x17 x18 a22 a23 a24 a25 x19 a26 x20 a27 a28 a29 y0 a30 a31 a32 a33 a34 a35 a36 a37 a38 x21 x22 x23 y1 a39 x24 a40 a41 a42 a43 x25 x26 x27 x28 a18 f0 a29 f1 a28 f2) sz) (fun u : gEx => (zS_124 cB cC cI cJ a0 a1 x1 x2 x3 x4 x5 x6 x7 x8 a2 a3 a4 a5 a6 a7 a8 a9 a10 a11 a12 a13 a14 a15 a16 x9 x10 x11 x12 x13 x14 a17 a18 a19 x15 a20 x16 a21 x17 x18 a22 a23 a24 a25 x19 a26 x20 a27 a28 a29 y0 a30 a31 a32 a33 a34 a35 a36 a37 a38 x21 x22 x23 y1 a39 x24 a40 a41 a42 a43 x25 x26 x27 x28 a18 f0 a29 f1 a28 f2))) (va_A (zS_124 cB cC cI cJ a0 a1 x1 x2 x3 x4 x5 x6 x7 x8 a2 a3 a4 a5 a6 a7 a8 a9 a10 a11 a12 a13 a14 a15 a16 x9 x10 x11 x12 x13 x14 a17 a18 a19 x15 a20 x16 a21 x17 x18 a22 a23 a24 a25 x19 a26 x20 a27 a28 a29 y0 a30 a31 a32 a33 a34 a35 a36 a37 a38 x21 x22 x23 y1 a39 x24 a40 a41 a42 a43 x25 x26 x27 x28 a18 f0 a29 f1 a28 f2) sz)) 0 0 (va_A (zS_124 cB cC cI cJ a0 a1 x1 x2 x3 x4 x5 x6 x7 x8 a2 a3 a4 a5 a6 a7 a8 a9 a10 a11 a12 a13 a14 a15 a16 x9 x10 x11 x12 x13 x14 a17 a18 a19 x15 a20 x16 a21 x17 x18 a22 a23 a24 a25 x19 a26 x20 a27 a28 a29 y0 a30 a31 a32 a33 a34 a35 a36 a37 a38 x21 x22 x23 y1 a39 x24 a40 a41 a42 a43 x25 x26 x27 x28 a18 f0 a29 f1 a28 f2) sz) := by
  refine gOf_l (by decide +kernel) (Nat.le_of_ble_eq_true rfl) ?_
  intro p e s m args below meth c ls A Q hx hb hts hown hml hN hK hP hD hA hl hret
  replace hown : s.vm.findClass RX12 = some m.cls := hown
  have hS : va_S A s.heap s.heap [] := va_S.rf
  replace hP : va_P D gcl (zS_124 cB cC cI cJ a0 a1 x1 x2 x3 x4 x5 x6 x7 x8 a2 a3 a4 a5 a6 a7 a8 a9 a10 a11 a12 a13 a14 a15 a16 x9 x10 x11 x12 x13 x14 a17 a18 a19 x15 a20 x16 a21 x17 x18 a22 a23 a24 a25 x19 a26 x20 a27 a28 a29 y0 a30 a31 a32 a33 a34 a35 a36 a37 a38 x21 x22 x23 y1 a39 x24 a40 a41 a42 a43 x25 x26 x27 x28 a18 f0 a29 f1 a28 f2) s.heap := hP
  replace hl : lv_has ls 7 [(0, .ref a0), (1, .int x0)] := hl
  have rx7 : zBd x7.toInt (-2147483648) 2147483647 := n_rng x7
  have rx8 : zBd x8.toInt (-2147483648) 2147483647 := n_rng x8
  have rx14 : zBd x14.toInt (-2147483648) 2147483647 := n_rng x14
  have rx18 : zBd x18.toInt (-2147483648) 2147483647 := n_rng x18
  have ry0 := n_rngL y0
  have ry1 := n_rngL y1
  refine lv_lconst (pc := 0) (v := 0) hx hb dX12_squaresLess_0 (by decide) ?_
  refine lv_lstore_n (pc := 1) (lv' := [(2, .long 0), (0, .ref a0), (1, .int x0)]) hx hb dX12_squaresLess_1 rfl hl (by decide) rfl (fun ls hl => ?_)
  refine lv_iconst (pc := 2) (v := 0) hx hb dX12_squaresLess_2 (by decide) ?_
  refine lv_istore (pc := 3) (lv' := [(4, .int 0), (2, .long 0), (0, .ref a0), (1, .int x0)]) hx hb dX12_squaresLess_3 hl (by decide) rfl (fun ls hl => ?_)
  have lp_5 : ∀ (n : Nat) (x_1 : Int32) (y_3 : Int64) (H : Heap) (locs : List Loc) (ls : Array Slot), (0 ≤ x_1.toInt ∧ x_1.toInt ≤ 2147483647) → (2147483647 - x_1.toInt).toNat < n → va_P D gcl (zS_124 cB cC cI cJ a0 a1 x1 x2 x3 x4 x5 x6 x7 x8 a2 a3 a4 a5 a6 a7 a8 a9 a10 a11 a12 a13 a14 a15 a16 x9 x10 x11 x12 x13 x14 a17 a18 a19 x15 a20 x16 a21 x17 x18 a22 a23 a24 a25 x19 a26 x20 a27 a28 a29 y0 a30 a31 a32 a33 a34 a35 a36 a37 a38 x21 x22 x23 y1 a39 x24 a40 a41 a42 a43 x25 x26 x27 x28 a18 f0 a29 f1 a28 f2) H → va_D A (zS_124 cB cC cI cJ a0 a1 x1 x2 x3 x4 x5 x6 x7 x8 a2 a3 a4 a5 a6 a7 a8 a9 a10 a11 a12 a13 a14 a15 a16 x9 x10 x11 x12 x13 x14 a17 a18 a19 x15 a20 x16 a21 x17 x18 a22 a23 a24 a25 x19 a26 x20 a27 a28 a29 y0 a30 a31 a32 a33 a34 a35 a36 a37 a38 x21 x22 x23 y1 a39 x24 a40 a41 a42 a43 x25 x26 x27 x28 a18 f0 a29 f1 a28 f2) → va_S A s.heap H locs → lv_has ls 7 [(4, .int x_1), (2, .long y_3), (0, .ref a0), (1, .int x0)] → W p l e ({ frames := 1, cells := 0, slots := 0, locals := 23 }) s m args below meth c H locs 0 0 Q (F0 m 5 ls []) := by
    intro n
    induction n with
    | zero => intro x_1 y_3 H locs ls hi_2 hmu; exact absurd hmu (Nat.not_lt_zero _)
    | succ n ih_lp_5 =>
      intro x_1 y_3 H locs ls hi_2 hmu_lp_5 hP hD hS hl
      have hi_4 := n_rngL y_3
      refine lv_iload (pc := 5) hx hb dX12_squaresLess_5 (lv_at hl 0 rfl) ?_
      refine lv_aload_n (pc := 7) hx hb dX12_squaresLess_7 rfl (lv_at hl 2 rfl) ?_
      refine va_get (pc := 8) (ci := 12) (v := .int x11) (C := RX12) (T := TX12) (N := 73) hx hb hts iX12 hown hK hP 0 rfl rfl 26 (by decide) (hts _ tw_1427) (fun _ h9 => h9) rfl dX12_squaresLess_8 ?_
      have bd_h_x11 : 0 ≤ x11.toInt ∧ x11.toInt ≤ 6 := h_x11
      refine b_icmp_ge (pc := 11) (tgt := 53) hx hb rfl rfl  dX12_squaresLess_11 (by decide) (fun c_6 => ?_) (fun c_6 => ?_)
      ·
        as_aux_lemma =>
          refine lv_lload_n (pc := 53) hx hb dX12_squaresLess_53 rfl (lv_at hl 1 rfl) ?_
          have hP9 : va_P D gcl (zS_124 cB cC cI cJ a0 a1 x1 x2 x3 x4 x5 x6 x7 x8 a2 a3 a4 a5 a6 a7 a8 a9 a10 a11 a12 a13 a14 a15 a16 x9 x10 x11 x12 x13 x14 a17 a18 a19 x15 a20 x16 a21 x17 x18 a22 a23 a24 a25 x19 a26 x20 a27 a28 a29 y0 a30 a31 a32 a33 a34 a35 a36 a37 a38 x21 x22 x23 y1 a39 x24 a40 a41 a42 a43 x25 x26 x27 x28 a18 f0 a29 f1 a28 f2) H := g_psub hP [0, 1, 2, 3] rfl
          have hD9 : va_D A (zS_124 cB cC cI cJ a0 a1 x1 x2 x3 x4 x5 x6 x7 x8 a2 a3 a4 a5 a6 a7 a8 a9 a10 a11 a12 a13 a14 a15 a16 x9 x10 x11 x12 x13 x14 a17 a18 a19 x15 a20 x16 a21 x17 x18 a22 a23 a24 a25 x19 a26 x20 a27 a28 a29 y0 a30 a31 a32 a33 a34 a35 a36 a37 a38 x21 x22 x23 y1 a39 x24 a40 a41 a42 a43 x25 x26 x27 x28 a18 f0 a29 f1 a28 f2) := hD.sub [0, 1, 2, 3] (by decide) rfl
          exact hret y_3 ((fun _ => 0), (fun _ => (fun _ => 0)), (fun _ => (fun _ => 0)), (fun _ => 0), (fun _ => 0)) dX12_squaresLess_54 (show ((((-9223372036854775808) ≤ y_3.toInt ∧ y_3.toInt ≤ 9223372036854775807) ∧ (0 ≤ x11.toInt ∧ x11.toInt ≤ 6))) from (by first | exact (om_1591 hi_4.1 hi_4.2 h_x11.1 h_x11.2) | ((first | omega | (unfold zBd at *; omega))))) hP9 hD9 hS
      ·
        as_aux_lemma =>
          refine lv_iload_n (pc := 14) hx hb dX12_squaresLess_14 rfl (lv_at hl 3 rfl) ?_
          refine b_if_eq (pc := 15) (tgt := 28) hx hb rfl  dX12_squaresLess_15 (by decide) (fun c_7 => ?_) (fun c_7 => ?_)
          ·
            as_aux_lemma =>
              refine lv_iconst (pc := 28) (v := 0) hx hb dX12_squaresLess_28 (by decide) ?_
              refine lv_aload_n (pc := 29) hx hb dX12_squaresLess_29 rfl (lv_at hl 2 rfl) ?_
              refine lv_iload (pc := 30) hx hb dX12_squaresLess_30 (lv_at hl 0 rfl) ?_
              refine gd_i (pc := 32) (wc := (zS_21 cB cC cI cJ a0 a1 x1 x2 x3 x4 x5 x6 x7 x8 a2 a3 a4 a5 a6 a7 a8 a9 a10 a11 a12 a13 a14 a15 a16 x9 x10 x11 x12 x13 x14 a17 a18 a19 x15 a20 x16 a21 x17 x18 a22 a23 a24 a25 x19 a26 x20 a27 a28 a29 y0 a30 a31 a32 a33 a34 a35 a36 a37 a38 x21 x22 x23 y1 a39 x24 a40 a41 a42 a43 x25 x26 x27 x28 a18 f0 a29 f1)) hP hD hS hA [0, 1, 2] rfl (by decide +kernel) (fun _ => by rfl) (fun hPc hDc => va_runV (As := [.int x_1]) (rest := [.int 0]) ⟨hx, hb, hml, hown, hts⟩ (k_X12_sentTo l D cB cC cI cJ _ a0 a1 a2 a3 a4 a5 a6 a7 a8 a9 a10 a11 a12 a13 a14 a15 a16 a17 a18 a19 a20 a21 a22 a23 a24 a25 a26 a27 a28 a29 a30 a31 a32 a33 a34 a35 a36 a37 a38 a39 a40 a41 a42 a43 x_1 x1 x2 x3 x4 x5 x6 x7 x8 x9 x10 x11 x12 x13 x14 x15 x16 x17 x18 x19 x20 x21 x22 x23 x24 x25 x26 x27 x28 y0 y1 f0 f1 (by first | exact (om_1083 hi_2.1 c_6 h_x11.2) | ((first | omega | (unfold zBd at *; omega)))) h_x1 h_x2 h_x3 h_x4 h_x5 h_x6 h_x9 h_x10 h_x11 h_x12 h_x13 h_x15 h_x16 h_x17 h_x19 h_x20 h_x21 h_x22 h_x23 h_x24 h_x25 h_x26 h_x27 h_x28 hr_a0_0 hr_a0_1 hr_a0_2 hf_f0) ⟨gcwB hts tw_1829 tw_14 tw_1826 hd_yX12_sentTo ⟨Nat.le_of_ble_eq_true rfl, Nat.le_of_ble_eq_true rfl⟩, hts _ tw_1828, hts _ tp_95⟩ ⟨gblind, va_recv hK hPc (ci := 12) (q0 := 0) rfl rfl, (gpreS hPc hK hDc hN).2⟩ rfl rfl hl.1 rfl (lv_room (Nat.le_of_ble_eq_true rfl)) dX12_squaresLess_32 ⟨Nat.le_of_ble_eq_true rfl, Nat.le_of_ble_eq_true rfl⟩) (fun r_9 u_8 H locs hw_10 hP hD hS => ?_)
              replace hP : va_P D gcl (zS_124 cB cC cI cJ a0 a1 x1 x2 x3 x4 x5 x6 x7 x8 a2 a3 a4 a5 a6 a7 a8 a9 a10 a11 a12 a13 a14 a15 a16 x9 x10 x11 x12 x13 x14 a17 a18 a19 x15 a20 x16 a21 x17 x18 a22 a23 a24 a25 x19 a26 x20 a27 a28 a29 y0 a30 a31 a32 a33 a34 a35 a36 a37 a38 x21 x22 x23 y1 a39 x24 a40 a41 a42 a43 x25 x26 x27 x28 a18 f0 a29 f1 a28 f2) H := hP
              replace hD : va_D A (zS_124 cB cC cI cJ a0 a1 x1 x2 x3 x4 x5 x6 x7 x8 a2 a3 a4 a5 a6 a7 a8 a9 a10 a11 a12 a13 a14 a15 a16 x9 x10 x11 x12 x13 x14 a17 a18 a19 x15 a20 x16 a21 x17 x18 a22 a23 a24 a25 x19 a26 x20 a27 a28 a29 y0 a30 a31 a32 a33 a34 a35 a36 a37 a38 x21 x22 x23 y1 a39 x24 a40 a41 a42 a43 x25 x26 x27 x28 a18 f0 a29 f1 a28 f2) := hD
              have hw_11 : ((((-2147483648) ≤ r_9.toInt ∧ r_9.toInt ≤ 2147483647) ∧ (0 ≤ x10.toInt ∧ x10.toInt ≤ 5))) := hw_10
              have rr_9 : zBd r_9.toInt (-2147483648) 2147483647 := n_rng r_9
              refine lv_isub (pc := 35) hx hb dX12_squaresLess_35 ?_
              refine lv_topi (fun x_12 _ => ?_)
              have rx_12 : zBd x_12.toInt (-2147483648) 2147483647 := n_rng x_12
              refine b_i2l (pc := 36) hx hb rfl dX12_squaresLess_36 (fun y_13 ey_13 => ?_)
              have ry_13 : zBd x_12.toInt (-2147483648) 2147483647 := n_rng x_12
              refine lv_lstore (pc := 37) (lv' := [(5, .long y_13), (4, .int x_1), (2, .long y_3), (0, .ref a0), (1, .int x0)]) hx hb dX12_squaresLess_37 hl (by decide) rfl (fun ls hl => ?_)
              refine lv_lload_n (pc := 39) hx hb dX12_squaresLess_39 rfl (lv_at hl 2 rfl) ?_
              refine lv_lload (pc := 40) hx hb dX12_squaresLess_40 (lv_at hl 0 rfl) ?_
              as_aux_lemma =>
                refine lv_lload (pc := 42) hx hb dX12_squaresLess_42 (lv_at hl 0 rfl) ?_
                refine lv_lmul (pc := 44) hx hb dX12_squaresLess_44 ?_
                refine lv_topl (fun y_14 _ => ?_)
                have ry_14 := n_rngL y_14
                refine lv_ladd (pc := 45) hx hb dX12_squaresLess_45 ?_
                refine lv_topl (fun y_15 _ => ?_)
                have ry_15 := n_rngL y_15
                refine lv_lstore_n (pc := 46) (lv' := [(2, .long y_15), (5, .long y_13), (4, .int x_1), (0, .ref a0), (1, .int x0)]) hx hb dX12_squaresLess_46 rfl hl (by decide) rfl (fun ls hl => ?_)
                refine b_iinc (pc := 47) hx hb dX12_squaresLess_47 hl (k := 2) rfl rfl tI_1 (by first | exact (om_2 hi_2.1) | ((first | omega | (unfold zBd at *; omega)))) (by first | exact (om_1084 c_6 h_x11.2) | ((first | omega | (unfold zBd at *; omega)))) (by decide) (fun x_16 ex_16 ls hl => ?_)
                replace hl : lv_has ls 7 [(4, .int x_16), (2, .long y_15), (5, .long y_13), (0, .ref a0), (1, .int x0)] := hl
                refine lv_goto (pc := 50) (tgt := 5) hx hb dX12_squaresLess_50 (by decide) ?_
                exact ih_lp_5 x_16 y_15 _ _ ls (by first | exact (om_1085 ex_16 hi_2.1 c_6 h_x11.2) | ((first | omega | (unfold zBd at *; omega)))) (by (first | omega | (unfold zBd at *; omega))) hP hD hS (lv_sub hl [0, 1, 3, 4] rfl)
          ·
            as_aux_lemma =>
              refine lv_aload_n (pc := 18) hx hb dX12_squaresLess_18 rfl (lv_at hl 2 rfl) ?_
              refine va_get (pc := 19) (ci := 12) (v := .ref a28) (C := RX12) (T := TX12) (N := 73) hx hb hts iX12 hown hK hP 0 rfl rfl 47 (by decide) (hts _ tw_1448) (fun _ h9 => h9) rfl dX12_squaresLess_19 ?_
              refine lv_iload (pc := 22) hx hb dX12_squaresLess_22 (lv_at hl 0 rfl) ?_
              refine va_iald (pc := 24) hx hb hK hP 3 2 rfl rfl (n_in rfl (by first | exact (om_0 hi_2.1) | ((first | omega | (unfold zBd at *; omega)))) (by first | exact (om_1082 c_6 h_x11.2) | ((first | omega | (unfold zBd at *; omega))))) dX12_squaresLess_24 ?_
              refine lv_topi (fun x_17 ex_17 => ?_)
              have rx_17 : ((-1100000) ≤ x_17.toInt ∧ x_17.toInt ≤ 1100000) := by rw [ex_17]; exact hf_f2 _
              refine lv_goto (pc := 25) (tgt := 29) hx hb dX12_squaresLess_25 (by decide) ?_
              refine lv_aload_n (pc := 29) hx hb dX12_squaresLess_29 rfl (lv_at hl 2 rfl) ?_
              refine lv_iload (pc := 30) hx hb dX12_squaresLess_30 (lv_at hl 0 rfl) ?_
              refine gd_i (pc := 32) (wc := (zS_21 cB cC cI cJ a0 a1 x1 x2 x3 x4 x5 x6 x7 x8 a2 a3 a4 a5 a6 a7 a8 a9 a10 a11 a12 a13 a14 a15 a16 x9 x10 x11 x12 x13 x14 a17 a18 a19 x15 a20 x16 a21 x17 x18 a22 a23 a24 a25 x19 a26 x20 a27 a28 a29 y0 a30 a31 a32 a33 a34 a35 a36 a37 a38 x21 x22 x23 y1 a39 x24 a40 a41 a42 a43 x25 x26 x27 x28 a18 f0 a29 f1)) hP hD hS hA [0, 1, 2] rfl (by decide +kernel) (fun _ => by rfl) (fun hPc hDc => va_runV (As := [.int x_1]) (rest := [.int x_17]) ⟨hx, hb, hml, hown, hts⟩ (k_X12_sentTo l D cB cC cI cJ _ a0 a1 a2 a3 a4 a5 a6 a7 a8 a9 a10 a11 a12 a13 a14 a15 a16 a17 a18 a19 a20 a21 a22 a23 a24 a25 a26 a27 a28 a29 a30 a31 a32 a33 a34 a35 a36 a37 a38 a39 a40 a41 a42 a43 x_1 x1 x2 x3 x4 x5 x6 x7 x8 x9 x10 x11 x12 x13 x14 x15 x16 x17 x18 x19 x20 x21 x22 x23 x24 x25 x26 x27 x28 y0 y1 f0 f1 (by first | exact (om_1083 hi_2.1 c_6 h_x11.2) | ((first | omega | (unfold zBd at *; omega)))) h_x1 h_x2 h_x3 h_x4 h_x5 h_x6 h_x9 h_x10 h_x11 h_x12 h_x13 h_x15 h_x16 h_x17 h_x19 h_x20 h_x21 h_x22 h_x23 h_x24 h_x25 h_x26 h_x27 h_x28 hr_a0_0 hr_a0_1 hr_a0_2 hf_f0) ⟨gcwB hts tw_1829 tw_14 tw_1826 hd_yX12_sentTo ⟨Nat.le_of_ble_eq_true rfl, Nat.le_of_ble_eq_true rfl⟩, hts _ tw_1828, hts _ tp_95⟩ ⟨gblind, va_recv hK hPc (ci := 12) (q0 := 0) rfl rfl, (gpreS hPc hK hDc hN).2⟩ rfl rfl hl.1 rfl (lv_room (Nat.le_of_ble_eq_true rfl)) dX12_squaresLess_32 ⟨Nat.le_of_ble_eq_true rfl, Nat.le_of_ble_eq_true rfl⟩) (fun r_19 u_18 H locs hw_20 hP hD hS => ?_)
              replace hP : va_P D gcl (zS_124 cB cC cI cJ a0 a1 x1 x2 x3 x4 x5 x6 x7 x8 a2 a3 a4 a5 a6 a7 a8 a9 a10 a11 a12 a13 a14 a15 a16 x9 x10 x11 x12 x13 x14 a17 a18 a19 x15 a20 x16 a21 x17 x18 a22 a23 a24 a25 x19 a26 x20 a27 a28 a29 y0 a30 a31 a32 a33 a34 a35 a36 a37 a38 x21 x22 x23 y1 a39 x24 a40 a41 a42 a43 x25 x26 x27 x28 a18 f0 a29 f1 a28 f2) H := hP
              replace hD : va_D A (zS_124 cB cC cI cJ a0 a1 x1 x2 x3 x4 x5 x6 x7 x8 a2 a3 a4 a5 a6 a7 a8 a9 a10 a11 a12 a13 a14 a15 a16 x9 x10 x11 x12 x13 x14 a17 a18 a19 x15 a20 x16 a21 x17 x18 a22 a23 a24 a25 x19 a26 x20 a27 a28 a29 y0 a30 a31 a32 a33 a34 a35 a36 a37 a38 x21 x22 x23 y1 a39 x24 a40 a41 a42 a43 x25 x26 x27 x28 a18 f0 a29 f1 a28 f2) := hD
              have hw_21 : ((((-2147483648) ≤ r_19.toInt ∧ r_19.toInt ≤ 2147483647) ∧ (0 ≤ x10.toInt ∧ x10.toInt ≤ 5))) := hw_20
              have rr_19 : zBd r_19.toInt (-2147483648) 2147483647 := n_rng r_19
              refine lv_isub (pc := 35) hx hb dX12_squaresLess_35 ?_
              as_aux_lemma =>
                refine lv_topi (fun x_22 _ => ?_)
                have rx_22 : zBd x_22.toInt (-2147483648) 2147483647 := n_rng x_22
                refine b_i2l (pc := 36) hx hb rfl dX12_squaresLess_36 (fun y_23 ey_23 => ?_)
                have ry_23 : zBd x_22.toInt (-2147483648) 2147483647 := n_rng x_22
                refine lv_lstore (pc := 37) (lv' := [(5, .long y_23), (4, .int x_1), (2, .long y_3), (0, .ref a0), (1, .int x0)]) hx hb dX12_squaresLess_37 hl (by decide) rfl (fun ls hl => ?_)
                refine lv_lload_n (pc := 39) hx hb dX12_squaresLess_39 rfl (lv_at hl 2 rfl) ?_
                refine lv_lload (pc := 40) hx hb dX12_squaresLess_40 (lv_at hl 0 rfl) ?_
                refine lv_lload (pc := 42) hx hb dX12_squaresLess_42 (lv_at hl 0 rfl) ?_
                refine lv_lmul (pc := 44) hx hb dX12_squaresLess_44 ?_
                refine lv_topl (fun y_24 _ => ?_)
                have ry_24 := n_rngL y_24
                refine lv_ladd (pc := 45) hx hb dX12_squaresLess_45 ?_
                refine lv_topl (fun y_25 _ => ?_)
                have ry_25 := n_rngL y_25
                as_aux_lemma =>
                  refine lv_lstore_n (pc := 46) (lv' := [(2, .long y_25), (5, .long y_23), (4, .int x_1), (0, .ref a0), (1, .int x0)]) hx hb dX12_squaresLess_46 rfl hl (by decide) rfl (fun ls hl => ?_)
                  refine b_iinc (pc := 47) hx hb dX12_squaresLess_47 hl (k := 2) rfl rfl tI_1 (by first | exact (om_2 hi_2.1) | ((first | omega | (unfold zBd at *; omega)))) (by first | exact (om_1084 c_6 h_x11.2) | ((first | omega | (unfold zBd at *; omega)))) (by decide) (fun x_26 ex_26 ls hl => ?_)
                  replace hl : lv_has ls 7 [(4, .int x_26), (2, .long y_25), (5, .long y_23), (0, .ref a0), (1, .int x0)] := hl
                  refine lv_goto (pc := 50) (tgt := 5) hx hb dX12_squaresLess_50 (by decide) ?_
                  exact ih_lp_5 x_26 y_25 _ _ ls (by first | exact (om_1085 ex_26 hi_2.1 c_6 h_x11.2) | ((first | omega | (unfold zBd at *; omega)))) (by (first | omega | (unfold zBd at *; omega))) hP hD hS (lv_sub hl [0, 1, 3, 4] rfl)
  exact lp_5 _ 0 0 _ _ ls (n_c tI_0 (by decide)) (Nat.lt_succ_self _) hP hD hS (lv_sub hl [0, 1, 2, 3] rfl)
set_option maxHeartbeats 4000000 in
set_option maxRecDepth 100000 in
theorem k_X12_distance (l : Launch) (D : va_G) (cB cC cI cJ : ClassId) (sz : Nat) (a0 a1 a2 a3 a4 a5 a6 a7 a8 a9 a10 a11 a12 a13 a14 a15 a16 a17 a18 a19 a20 a21 a22 a23 a24 a25 a26 a27 a28 a29 a30 a31 a32 a33 a34 a35 a36 a37 a38 a39 a40 a41 a42 a43 : Nat) (x0 x1 x2 x3 x4 x5 x6 x7 x8 x9 x10 x11 x12 x13 x14 x15 x16 x17 x18 x19 x20 x21 x22 x23 x24 x25 x26 x27 : Int32) (y0 y1 : Int64) (f0 f1 f2 f3 : Nat → Int32) (h_x0 : zBd x0.toInt 0 1600) (h_x1 : zBd x1.toInt 0 1600) (h_x2 : zBd x2.toInt 0 1600) (h_x3 : zBd x3.toInt (-1) 1600) (h_x4 : zBd x4.toInt 0 4) (h_x5 : zBd x5.toInt (-1) 1600) (h_x8 : zBd x8.toInt 0 8) (h_x9 : zBd x9.toInt 0 5) (h_x10 : zBd x10.toInt 0 6) (h_x11 : zBd x11.toInt 0 6) (h_x12 : zBd x12.toInt 0 16) (h_x14 : zBd x14.toInt 0 60) (h_x15 : zBd x15.toInt 0 1600) (h_x16 : zBd x16.toInt 0 1700) (h_x18 : zBd x18.toInt 0 1700) (h_x19 : zBd x19.toInt 0 1700) (h_x20 : zBd x20.toInt 0 200) (h_x21 : zBd x21.toInt 0 40) (h_x22 : zBd x22.toInt 0 40) (h_x23 : zBd x23.toInt 0 1) (h_x24 : zBd x24.toInt 0 14) (h_x25 : zBd x25.toInt 0 200) (h_x26 : zBd x26.toInt 0 40) (h_x27 : zBd x27.toInt 0 40) (hr_a0_0 : (x21.toInt ≤ x20.toInt)) (hr_a0_1 : (x20.toInt + x22.toInt ≤ 200)) (hr_a0_2 : (x9.toInt = 0 ∨ 2 ≤ x8.toInt)) (hf_f1 : (∀ j, 0 ≤ (f1 j).toInt ∧ (f1 j).toInt ≤ 255)) (hf_f2 : (∀ j, (-9999) ≤ (f2 j).toInt ∧ (f2 j).toInt ≤ 9999)) (hf_f3 : (∀ j, (-1100000) ≤ (f3 j).toInt ∧ (f3 j).toInt ≤ 1100000)) : Met l yX12_distance (.code yX12_distance cX12_distance 1 (some .long) :: lw_gd) ({ frames := 3, cells := 0, slots := 0, locals := 68 }) (gPre D [(cB, .byte), (cC, .char), (cI, .int), (cJ, .long)] [.ref a0] (zS_53 cB cC cI cJ a0 a1 x0 x1 x2 x3 x4 x5 x6 x7 a2 a3 a4 a5 a6 a7 a8 a9 a10 a11 a12 a13 a14 a15 a16 x8 x9 x10 x11 x12 x13 a17 a18 a19 x14 a20 x15 a21 x16 x17 a22 a23 a24 a25 x18 a26 x19 a27 a28 a29 y0 a30 a31 a32 a33 a34 a35 a36 a37 a38 x20 x21 x22 y1 a39 x23 a40 a41 a42 a43 x24 x25 x26 x27 a29 f0 a1 f1 a18 f2 a28 f3) sz) (va_Ql (fun r u => ((r.toInt = (-1)) ∨ (((-9223372036854775808) ≤ r.toInt ∧ r.toInt ≤ 9223372036854775807)))) (gB D (va_A (zS_53 cB cC cI cJ a0 a1 x0 x1 x2 x3 x4 x5 x6 x7 a2 a3 a4 a5 a6 a7 a8 a9 a10 a11 a12 a13 a14 a15 a16 x8 x9 x10 x11 x12 x13 a17 a18 a19 x14 a20 x15 a21 x16 x17 a22 a23 a24 a25 x18 a26 x19 a27 a28 a29 y0 a30 a31 a32 a33 a34 a35 a36 a37 a38 x20 x21 x22 y1 a39 x23 a40 a41 a42 a43 x24 x25 x26 x27 a29 f0 a1 f1 a18 f2 a28 f3) sz) (fun u : gEx => (zS_53 cB cC cI cJ a0 a1 0 x1 x2 x3 x4 x5 x6 x7 a2 a3 a4 a5 a6 a7 a8 a9 a10 a11 a12 a13 a14 a15 a16 x8 x9 x10 x11 x12 x13 a17 a18 a19 x14 a20 x15 a21 x16 x17 a22 a23 a24 a25 x18 a26 x19 a27 a28 a29 y0 a30 a31 a32 a33 a34 a35 a36 a37 a38 x20 x21 x22 y1 a39 x23 a40 a41 a42 a43 x24 x25 x26 x27 a29 (u.2.1 0) a1 f1 a18 f2 a28 f3))) (va_A (zS_53 cB cC cI cJ a0 a1 x0 x1 x2 x3 x4 x5 x6 x7 a2 a3 a4 a5 a6 a7 a8 a9 a10 a11 a12 a13 a14 a15 a16 x8 x9 x10 x11 x12 x13 a17 a18 a19 x14 a20 x15 a21 x16 x17 a22 a23 a24 a25 x18 a26 x19 a27 a28 a29 y0 a30 a31 a32 a33 a34 a35 a36 a37 a38 x20 x21 x22 y1 a39 x23 a40 a41 a42 a43 x24 x25 x26 x27 a29 f0 a1 f1 a18 f2 a28 f3) sz)) 0 0 (va_A (zS_53 cB cC cI cJ a0 a1 x0 x1 x2 x3 x4 x5 x6 x7 a2 a3 a4 a5 a6 a7 a8 a9 a10 a11 a12 a13 a14 a15 a16 x8 x9 x10 x11 x12 x13 a17 a18 a19 x14 a20 x15 a21 x16 x17 a22 a23 a24 a25 x18 a26 x19 a27 a28 a29 y0 a30 a31 a32 a33 a34 a35 a36 a37 a38 x20 x21 x22 y1 a39 x23 a40 a41 a42 a43 x24 x25 x26 x27 a29 f0 a1 f1 a18 f2 a28 f3) sz) := by
  refine gOf_l (by decide +kernel) (Nat.le_of_ble_eq_true rfl) ?_
  intro p e s m args below meth c ls A Q hx hb hts hown hml hN hK hP hD hA hl hret
  replace hown : s.vm.findClass RX12 = some m.cls := hown
  have hS : va_S A s.heap s.heap [] := va_S.rf
  replace hP : va_P D gcl (zS_53 cB cC cI cJ a0 a1 x0 x1 x2 x3 x4 x5 x6 x7 a2 a3 a4 a5 a6 a7 a8 a9 a10 a11 a12 a13 a14 a15 a16 x8 x9 x10 x11 x12 x13 a17 a18 a19 x14 a20 x15 a21 x16 x17 a22 a23 a24 a25 x18 a26 x19 a27 a28 a29 y0 a30 a31 a32 a33 a34 a35 a36 a37 a38 x20 x21 x22 y1 a39 x23 a40 a41 a42 a43 x24 x25 x26 x27 a29 f0 a1 f1 a18 f2 a28 f3) s.heap := hP
  replace hl : lv_has ls 1 [(0, .ref a0)] := hl
  have rx6 : zBd x6.toInt (-2147483648) 2147483647 := n_rng x6
  have rx7 : zBd x7.toInt (-2147483648) 2147483647 := n_rng x7
  have rx13 : zBd x13.toInt (-2147483648) 2147483647 := n_rng x13
  have rx17 : zBd x17.toInt (-2147483648) 2147483647 := n_rng x17
  have ry0 := n_rngL y0
  have ry1 := n_rngL y1
  refine lv_aload_n (pc := 0) hx hb dX12_distance_0 rfl (lv_at hl 0 rfl) ?_
  refine gd_i (pc := 1) (wc := (zS_65 cB cC cI cJ a0 a1 x0 x1 x2 x3 x4 x5 x6 x7 a2 a3 a4 a5 a6 a7 a8 a9 a10 a11 a12 a13 a14 a15 a16 x8 x9 x10 x11 x12 x13 a17 a18 a19 x14 a20 x15 a21 x16 x17 a22 a23 a24 a25 x18 a26 x19 a27 a28 a29 y0 a30 a31 a32 a33 a34 a35 a36 a37 a38 x20 x21 x22 y1 a39 x23 a40 a41 a42 a43 x24 x25 x26 x27 a29 f0 a1 f1)) hP hD hS hA [0, 1, 2] rfl (by decide +kernel) (fun _ => by rfl) (fun hPc hDc => va_runV (As := []) (rest := []) ⟨hx, hb, hml, hown, hts⟩ (k_X12_isRowTold l D cB cC cI cJ _ a0 a1 a2 a3 a4 a5 a6 a7 a8 a9 a10 a11 a12 a13 a14 a15 a16 a17 a18 a19 a20 a21 a22 a23 a24 a25 a26 a27 a28 a29 a30 a31 a32 a33 a34 a35 a36 a37 a38 a39 a40 a41 a42 a43 x0 x1 x2 x3 x4 x5 x6 x7 x8 x9 x10 x11 x12 x13 x14 x15 x16 x17 x18 x19 x20 x21 x22 x23 x24 x25 x26 x27 y0 y1 f0 f1 h_x0 h_x1 h_x2 h_x3 h_x4 h_x5 h_x8 h_x9 h_x10 h_x11 h_x12 h_x14 h_x15 h_x16 h_x18 h_x19 h_x20 h_x21 h_x22 h_x23 h_x24 h_x25 h_x26 h_x27 hr_a0_0 hr_a0_1 hr_a0_2 hf_f1) ⟨gcwB hts tw_1821 tw_14 tw_1818 hd_yX12_isRowTold ⟨Nat.le_of_ble_eq_true rfl, Nat.le_of_ble_eq_true rfl⟩, hts _ tw_1820, hts _ tp_93⟩ ⟨gblind, va_recv hK hPc (ci := 12) (q0 := 0) rfl rfl, (gpreS hPc hK hDc hN).2⟩ rfl rfl hl.1 rfl (lv_room (Nat.le_of_ble_eq_true rfl)) dX12_distance_1 ⟨Nat.le_of_ble_eq_true rfl, Nat.le_of_ble_eq_true rfl⟩) (fun r_2 u_1 H locs hw_3 hP hD hS => ?_)
  replace hP : va_P D gcl (zS_53 cB cC cI cJ a0 a1 0 x1 x2 x3 x4 x5 x6 x7 a2 a3 a4 a5 a6 a7 a8 a9 a10 a11 a12 a13 a14 a15 a16 x8 x9 x10 x11 x12 x13 a17 a18 a19 x14 a20 x15 a21 x16 x17 a22 a23 a24 a25 x18 a26 x19 a27 a28 a29 y0 a30 a31 a32 a33 a34 a35 a36 a37 a38 x20 x21 x22 y1 a39 x23 a40 a41 a42 a43 x24 x25 x26 x27 a29 (u_1.2.1 0) a1 f1 a18 f2 a28 f3) H := hP
  replace hD : va_D A (zS_53 cB cC cI cJ a0 a1 0 x1 x2 x3 x4 x5 x6 x7 a2 a3 a4 a5 a6 a7 a8 a9 a10 a11 a12 a13 a14 a15 a16 x8 x9 x10 x11 x12 x13 a17 a18 a19 x14 a20 x15 a21 x16 x17 a22 a23 a24 a25 x18 a26 x19 a27 a28 a29 y0 a30 a31 a32 a33 a34 a35 a36 a37 a38 x20 x21 x22 y1 a39 x23 a40 a41 a42 a43 x24 x25 x26 x27 a29 (u_1.2.1 0) a1 f1 a18 f2 a28 f3) := hD
  obtain ⟨hw_4, hw_5, hw_6, hw_7⟩ := hw_3
  replace hw_4 : (0 ≤ r_2.toInt ∧ r_2.toInt ≤ 1) := hw_4
  replace hw_5 : ((0 : Int32).toInt = 0) := hw_5
  replace hw_6 : (r_2.toInt = 0 ∨ RB (u_1.2.1 0) 0 x9.toInt) := hw_6
  replace hw_7 : (swQ r_2.toInt x0.toInt (tau f1 x0.toInt) x8.toInt x9.toInt) := hw_7
  have rr_2 : zBd r_2.toInt (-2147483648) 2147483647 := n_rng r_2
  refine b_if_eq (pc := 4) (tgt := 15) hx hb rfl  dX12_distance_4 (by decide) (fun c_8 => ?_) (fun c_8 => ?_)
  ·
    as_aux_lemma =>
      refine lv_ldc2 (pc := 15) hx hb hown (hts _ tw_1838) dX12_distance_15 ?_
      have hP9 : va_P D gcl (zS_53 cB cC cI cJ a0 a1 0 x1 x2 x3 x4 x5 x6 x7 a2 a3 a4 a5 a6 a7 a8 a9 a10 a11 a12 a13 a14 a15 a16 x8 x9 x10 x11 x12 x13 a17 a18 a19 x14 a20 x15 a21 x16 x17 a22 a23 a24 a25 x18 a26 x19 a27 a28 a29 y0 a30 a31 a32 a33 a34 a35 a36 a37 a38 x20 x21 x22 y1 a39 x23 a40 a41 a42 a43 x24 x25 x26 x27 a29 (u_1.2.1 0) a1 f1 a18 f2 a28 f3) H := g_psub hP [0, 1, 2, 3, 4] rfl
      have hD9 : va_D A (zS_53 cB cC cI cJ a0 a1 0 x1 x2 x3 x4 x5 x6 x7 a2 a3 a4 a5 a6 a7 a8 a9 a10 a11 a12 a13 a14 a15 a16 x8 x9 x10 x11 x12 x13 a17 a18 a19 x14 a20 x15 a21 x16 x17 a22 a23 a24 a25 x18 a26 x19 a27 a28 a29 y0 a30 a31 a32 a33 a34 a35 a36 a37 a38 x20 x21 x22 y1 a39 x23 a40 a41 a42 a43 x24 x25 x26 x27 a29 (u_1.2.1 0) a1 f1 a18 f2 a28 f3) := hD.sub [0, 1, 2, 3, 4] (by decide) rfl
      exact hret (-1) ((fun _ => 0), (fun k => [(u_1.2.1 0)].getD k (fun _ => 0)), (fun _ => (fun _ => 0)), (fun _ => 0), (fun _ => 0)) dX12_distance_18 (show ((((-1) : Int64).toInt = (-1)) ∨ (((-9223372036854775808) ≤ ((-1) : Int64).toInt ∧ ((-1) : Int64).toInt ≤ 9223372036854775807))) from (by first | exact (om_1351 tL_m1) | (have k9 := tL_m1; (first | omega | (unfold zBd at *; omega))))) hP9 hD9 hS
  ·
    as_aux_lemma =>
      refine lv_aload_n (pc := 7) hx hb dX12_distance_7 rfl (lv_at hl 0 rfl) ?_
      refine lv_iconst (pc := 8) (v := 1) hx hb dX12_distance_8 (by decide) ?_
      refine gd_l (pc := 9) (wc := (zS_124 cB cC cI cJ a0 a1 0 x1 x2 x3 x4 x5 x6 x7 a2 a3 a4 a5 a6 a7 a8 a9 a10 a11 a12 a13 a14 a15 a16 x8 x9 x10 x11 x12 x13 a17 a18 a19 x14 a20 x15 a21 x16 x17 a22 a23 a24 a25 x18 a26 x19 a27 a28 a29 y0 a30 a31 a32 a33 a34 a35 a36 a37 a38 x20 x21 x22 y1 a39 x23 a40 a41 a42 a43 x24 x25 x26 x27 a18 f2 a29 (u_1.2.1 0) a28 f3)) hP hD hS hA [0, 3, 1, 4] rfl (by decide +kernel) (fun _ => by rfl) (fun hPc hDc => va_runV (As := [.int 1]) (rest := []) ⟨hx, hb, hml, hown, hts⟩ (k_X12_squaresLess l D cB cC cI cJ _ a0 a1 a2 a3 a4 a5 a6 a7 a8 a9 a10 a11 a12 a13 a14 a15 a16 a17 a18 a19 a20 a21 a22 a23 a24 a25 a26 a27 a28 a29 a30 a31 a32 a33 a34 a35 a36 a37 a38 a39 a40 a41 a42 a43 1 0 x1 x2 x3 x4 x5 x6 x7 x8 x9 x10 x11 x12 x13 x14 x15 x16 x17 x18 x19 x20 x21 x22 x23 x24 x25 x26 x27 y0 y1 f2 (u_1.2.1 0) f3 (n_c tI_1 (by decide)) (n_c tI_0 (by decide)) h_x1 h_x2 h_x3 h_x4 h_x5 h_x8 h_x9 h_x10 h_x11 h_x12 h_x14 h_x15 h_x16 h_x18 h_x19 h_x20 h_x21 h_x22 h_x23 h_x24 h_x25 h_x26 h_x27 hr_a0_0 hr_a0_1 hr_a0_2 hf_f2 hf_f3) ⟨gcwB hts tw_1837 tw_14 tw_1834 hd_yX12_squaresLess ⟨Nat.le_of_ble_eq_true rfl, Nat.le_of_ble_eq_true rfl⟩, hts _ tw_1836, hts _ tp_96⟩ ⟨gblind, va_recv hK hPc (ci := 12) (q0 := 0) rfl rfl, (gpreS hPc hK hDc hN).2⟩ rfl rfl hl.1 rfl (lv_room (Nat.le_of_ble_eq_true rfl)) dX12_distance_9 ⟨Nat.le_of_ble_eq_true rfl, Nat.le_of_ble_eq_true rfl⟩) (fun r_10 u_9 H locs hw_11 hP hD hS => ?_)
      replace hP : va_P D gcl (zS_53 cB cC cI cJ a0 a1 0 x1 x2 x3 x4 x5 x6 x7 a2 a3 a4 a5 a6 a7 a8 a9 a10 a11 a12 a13 a14 a15 a16 x8 x9 x10 x11 x12 x13 a17 a18 a19 x14 a20 x15 a21 x16 x17 a22 a23 a24 a25 x18 a26 x19 a27 a28 a29 y0 a30 a31 a32 a33 a34 a35 a36 a37 a38 x20 x21 x22 y1 a39 x23 a40 a41 a42 a43 x24 x25 x26 x27 a29 (u_1.2.1 0) a1 f1 a18 f2 a28 f3) H := hP
      replace hD : va_D A (zS_53 cB cC cI cJ a0 a1 0 x1 x2 x3 x4 x5 x6 x7 a2 a3 a4 a5 a6 a7 a8 a9 a10 a11 a12 a13 a14 a15 a16 x8 x9 x10 x11 x12 x13 a17 a18 a19 x14 a20 x15 a21 x16 x17 a22 a23 a24 a25 x18 a26 x19 a27 a28 a29 y0 a30 a31 a32 a33 a34 a35 a36 a37 a38 x20 x21 x22 y1 a39 x23 a40 a41 a42 a43 x24 x25 x26 x27 a29 (u_1.2.1 0) a1 f1 a18 f2 a28 f3) := hD
      have hw_12 : ((((-9223372036854775808) ≤ r_10.toInt ∧ r_10.toInt ≤ 9223372036854775807) ∧ (0 ≤ x10.toInt ∧ x10.toInt ≤ 6))) := hw_11
      have kk0_r_10 := tI_1
      have kk1_r_10 := tI_0
      have rr_10 := n_rngL r_10
      refine lv_goto (pc := 12) (tgt := 18) hx hb dX12_distance_12 (by decide) ?_
      have hP9 : va_P D gcl (zS_53 cB cC cI cJ a0 a1 0 x1 x2 x3 x4 x5 x6 x7 a2 a3 a4 a5 a6 a7 a8 a9 a10 a11 a12 a13 a14 a15 a16 x8 x9 x10 x11 x12 x13 a17 a18 a19 x14 a20 x15 a21 x16 x17 a22 a23 a24 a25 x18 a26 x19 a27 a28 a29 y0 a30 a31 a32 a33 a34 a35 a36 a37 a38 x20 x21 x22 y1 a39 x23 a40 a41 a42 a43 x24 x25 x26 x27 a29 (u_1.2.1 0) a1 f1 a18 f2 a28 f3) H := g_psub hP [0, 1, 2, 3, 4] rfl
      have hD9 : va_D A (zS_53 cB cC cI cJ a0 a1 0 x1 x2 x3 x4 x5 x6 x7 a2 a3 a4 a5 a6 a7 a8 a9 a10 a11 a12 a13 a14 a15 a16 x8 x9 x10 x11 x12 x13 a17 a18 a19 x14 a20 x15 a21 x16 x17 a22 a23 a24 a25 x18 a26 x19 a27 a28 a29 y0 a30 a31 a32 a33 a34 a35 a36 a37 a38 x20 x21 x22 y1 a39 x23 a40 a41 a42 a43 x24 x25 x26 x27 a29 (u_1.2.1 0) a1 f1 a18 f2 a28 f3) := hD.sub [0, 1, 2, 3, 4] (by decide) rfl
      exact hret r_10 ((fun _ => 0), (fun k => [(u_1.2.1 0)].getD k (fun _ => 0)), (fun _ => (fun _ => 0)), (fun _ => 0), (fun _ => 0)) dX12_distance_18 (show ((r_10.toInt = (-1)) ∨ (((-9223372036854775808) ≤ r_10.toInt ∧ r_10.toInt ≤ 9223372036854775807))) from (by first | exact (om_1352 rr_10.1 rr_10.2) | ((first | omega | (unfold zBd at *; omega))))) hP9 hD9 hS
set_option maxHeartbeats 4000000 in
set_option maxRecDepth 100000 in
theorem k_X12_drawOf (l : Launch) (D : va_G) (cB cC cI cJ : ClassId) (sz : Nat) (a0 a1 a2 a3 a4 a5 a6 a7 a8 a9 a10 a11 a12 a13 a14 a15 a16 a17 a18 a19 a20 a21 a22 a23 a24 a25 a26 a27 a28 a29 a30 a31 a32 a33 a34 a35 a36 a37 a38 a39 a40 a41 a42 a43 : Nat) (x0 x1 x2 x3 x4 x5 x6 x7 x8 x9 x10 x11 x12 x13 x14 x15 x16 x17 x18 x19 x20 x21 x22 x23 x24 x25 x26 x27 x28 : Int32) (y0 y1 : Int64) (hp1 : (1 ≤ x0.toInt ∧ x0.toInt ≤ 19999)) (h_x1 : zBd x1.toInt 0 1600) (h_x2 : zBd x2.toInt 0 1600) (h_x3 : zBd x3.toInt 0 1600) (h_x4 : zBd x4.toInt (-1) 1600) (h_x5 : zBd x5.toInt 0 4) (h_x6 : zBd x6.toInt (-1) 1600) (h_x9 : zBd x9.toInt 0 8) (h_x10 : zBd x10.toInt 0 5) (h_x11 : zBd x11.toInt 0 6) (h_x12 : zBd x12.toInt 0 6) (h_x13 : zBd x13.toInt 0 16) (h_x15 : zBd x15.toInt 0 60) (h_x16 : zBd x16.toInt 0 1600) (h_x17 : zBd x17.toInt 0 1700) (h_x19 : zBd x19.toInt 0 1700) (h_x20 : zBd x20.toInt 0 1700) (h_x21 : zBd x21.toInt 0 200) (h_x22 : zBd x22.toInt 0 40) (h_x23 : zBd x23.toInt 0 40) (h_x24 : zBd x24.toInt 0 1) (h_x25 : zBd x25.toInt 0 14) (h_x26 : zBd x26.toInt 0 200) (h_x27 : zBd x27.toInt 0 40) (h_x28 : zBd x28.toInt 0 40) (hr_a0_0 : (x22.toInt ≤ x21.toInt)) (hr_a0_1 : (x21.toInt + x23.toInt ≤ 200)) (hr_a0_2 : (x10.toInt = 0 ∨ 2 ≤ x9.toInt)) : Met l yX12_drawOf (.code yX12_drawOf cX12_drawOf 2 (some .int) :: lw_gd) ({ frames := 0, cells := 0, slots := 0, locals := 0 }) (gPre D [(cB, .byte), (cC, .char), (cI, .int), (cJ, .long)] [.ref a0, .int x0] (zS_4 cB cC cI cJ a0 a1 x1 x2 x3 x4 x5 x6 x7 x8 a2 a3 a4 a5 a6 a7 a8 a9 a10 a11 a12 a13 a14 a15 a16 x9 x10 x11 x12 x13 x14 a17 a18 a19 x15 a20 x16 a21 x17 x18 a22 a23 a24 a25 x19 a26 x20 a27 a28 a29 y0 a30 a31 a32 a33 a34 a35 a36 a37 a38 x21 x22 x23 y1 a39 x24 a40 a41 a42 a43 x25 x26 x27 x28) sz) (va_Qi (fun r u => ((((-2147483648) ≤ r.toInt ∧ r.toInt ≤ 2147483647)))) (gB D (va_A (zS_4 cB cC cI cJ a0 a1 x1 x2 x3 x4 x5 x6 x7 x8 a2 a3 a4 a5 a6 a7 a8 a9 a10 a11 a12 a13 a14 a15 a16 x9 x10 x11 x12 x13 x14 a17 a18 a19 x15 a20 x16 a21 x17 x18 a22 a23 a24 a25 x19 a26 x20 a27 a28 a29 y0 a30 a31 a32 a33 a34 a35 a36 a37 a38 x21 x22 x23 y1 a39 x24 a40 a41 a42 a43 x25 x26 x27 x28) sz) (fun u : gEx => (zS_4 cB cC cI cJ a0 a1 x1 x2 x3 x4 x5 x6 x7 x8 a2 a3 a4 a5 a6 a7 a8 a9 a10 a11 a12 a13 a14 a15 a16 x9 x10 x11 x12 x13 x14 a17 a18 a19 x15 a20 x16 a21 x17 x18 a22 a23 a24 a25 x19 a26 x20 a27 a28 a29 (u.2.2.2.2 0) a30 a31 a32 a33 a34 a35 a36 a37 a38 x21 x22 x23 y1 a39 x24 a40 a41 a42 a43 x25 x26 x27 x28))) (va_A (zS_4 cB cC cI cJ a0 a1 x1 x2 x3 x4 x5 x6 x7 x8 a2 a3 a4 a5 a6 a7 a8 a9 a10 a11 a12 a13 a14 a15 a16 x9 x10 x11 x12 x13 x14 a17 a18 a19 x15 a20 x16 a21 x17 x18 a22 a23 a24 a25 x19 a26 x20 a27 a28 a29 y0 a30 a31 a32 a33 a34 a35 a36 a37 a38 x21 x22 x23 y1 a39 x24 a40 a41 a42 a43 x25 x26 x27 x28) sz)) 0 0 (va_A (zS_4 cB cC cI cJ a0 a1 x1 x2 x3 x4 x5 x6 x7 x8 a2 a3 a4 a5 a6 a7 a8 a9 a10 a11 a12 a13 a14 a15 a16 x9 x10 x11 x12 x13 x14 a17 a18 a19 x15 a20 x16 a21 x17 x18 a22 a23 a24 a25 x19 a26 x20 a27 a28 a29 y0 a30 a31 a32 a33 a34 a35 a36 a37 a38 x21 x22 x23 y1 a39 x24 a40 a41 a42 a43 x25 x26 x27 x28) sz) := by
  refine gOf_i (by decide +kernel) (Nat.le_of_ble_eq_true rfl) ?_
  intro p e s m args below meth c ls A Q hx hb hts hown hml hN hK hP hD hA hl hret
  replace hown : s.vm.findClass RX12 = some m.cls := hown
  have hS : va_S A s.heap s.heap [] := va_S.rf
  replace hP : va_P D gcl (zS_4 cB cC cI cJ a0 a1 x1 x2 x3 x4 x5 x6 x7 x8 a2 a3 a4 a5 a6 a7 a8 a9 a10 a11 a12 a13 a14 a15 a16 x9 x10 x11 x12 x13 x14 a17 a18 a19 x15 a20 x16 a21 x17 x18 a22 a23 a24 a25 x19 a26 x20 a27 a28 a29 y0 a30 a31 a32 a33 a34 a35 a36 a37 a38 x21 x22 x23 y1 a39 x24 a40 a41 a42 a43 x25 x26 x27 x28) s.heap := hP
  replace hl : lv_has ls 2 [(0, .ref a0), (1, .int x0)] := hl
  have rx7 : zBd x7.toInt (-2147483648) 2147483647 := n_rng x7
  have rx8 : zBd x8.toInt (-2147483648) 2147483647 := n_rng x8
  have rx14 : zBd x14.toInt (-2147483648) 2147483647 := n_rng x14
  have rx18 : zBd x18.toInt (-2147483648) 2147483647 := n_rng x18
  have ry0 := n_rngL y0
  have ry1 := n_rngL y1
  refine lv_aload_n (pc := 0) hx hb dX12_drawOf_0 rfl (lv_at hl 0 rfl) ?_
  refine lv_ldc2 (pc := 1) hx hb hown (hts _ tw_1848) dX12_drawOf_1 ?_
  refine lv_aload_n (pc := 4) hx hb dX12_drawOf_4 rfl (lv_at hl 0 rfl) ?_
  refine va_get (pc := 5) (ci := 12) (v := .long y0) (C := RX12) (T := TX12) (N := 73) hx hb hts iX12 hown hK hP 0 rfl rfl 49 (by decide) (hts _ tw_1450) (fun _ h9 => h9) rfl dX12_drawOf_5 ?_
  refine lv_lmul (pc := 8) hx hb dX12_drawOf_8 ?_
  refine lv_topl (fun y_1 _ => ?_)
  have ry_1 := n_rngL y_1
  refine lv_ldc2 (pc := 9) hx hb hown (hts _ tw_1849) dX12_drawOf_9 ?_
  refine lv_ladd (pc := 12) hx hb dX12_drawOf_12 ?_
  refine lv_topl (fun y_2 _ => ?_)
  have ry_2 := n_rngL y_2
  as_aux_lemma =>
    refine lv_ldc2 (pc := 13) hx hb hown (hts _ tw_1850) dX12_drawOf_13 ?_
    refine lv_lrem (pc := 16) hx hb dX12_drawOf_16 (fun h => by have q := congrArg Int64.toInt h; have k := tL_0; have k2 := tL_2147483648; (first | omega | (unfold zBd at *; omega))) ?_
    refine lv_topl (fun y_3 _ => ?_)
    have ry_3 := n_rngL y_3
    refine va_put (pc := 17) (ci := 12) (v := .long y_3) (ty := .long) (C := RX12) (T := TX12) (N := 73) hx hb hts iX12 tyX12 tyX12_ok nmX12 hown hK hP hD hS 0 rfl rfl 49 (by decide) (hts _ tw_1450) (fun _ h9 => h9) rfl (by decide +kernel) rfl rfl (Nat.le_of_ble_eq_true rfl) dX12_drawOf_17 (fun H locs hP hD hS => ?_)
    replace hP : va_P D gcl (zS_4 cB cC cI cJ a0 a1 x1 x2 x3 x4 x5 x6 x7 x8 a2 a3 a4 a5 a6 a7 a8 a9 a10 a11 a12 a13 a14 a15 a16 x9 x10 x11 x12 x13 x14 a17 a18 a19 x15 a20 x16 a21 x17 x18 a22 a23 a24 a25 x19 a26 x20 a27 a28 a29 y_3 a30 a31 a32 a33 a34 a35 a36 a37 a38 x21 x22 x23 y1 a39 x24 a40 a41 a42 a43 x25 x26 x27 x28) H := hP
    replace hD : va_D A (zS_4 cB cC cI cJ a0 a1 x1 x2 x3 x4 x5 x6 x7 x8 a2 a3 a4 a5 a6 a7 a8 a9 a10 a11 a12 a13 a14 a15 a16 x9 x10 x11 x12 x13 x14 a17 a18 a19 x15 a20 x16 a21 x17 x18 a22 a23 a24 a25 x19 a26 x20 a27 a28 a29 y_3 a30 a31 a32 a33 a34 a35 a36 a37 a38 x21 x22 x23 y1 a39 x24 a40 a41 a42 a43 x25 x26 x27 x28) := hD
    refine lv_aload_n (pc := 20) hx hb dX12_drawOf_20 rfl (lv_at hl 0 rfl) ?_
    refine va_get (pc := 21) (ci := 12) (v := .long y_3) (C := RX12) (T := TX12) (N := 73) hx hb hts iX12 hown hK hP 0 rfl rfl 49 (by decide) (hts _ tw_1450) (fun _ h9 => h9) rfl dX12_drawOf_21 ?_
    refine lv_ldc2 (pc := 24) hx hb hown (hts _ tw_1851) dX12_drawOf_24 ?_
    refine lv_ldiv (pc := 27) hx hb dX12_drawOf_27 (fun h => by have q := congrArg Int64.toInt h; have k := tL_0; have k2 := tL_64; (first | omega | (unfold zBd at *; omega))) ?_
    refine lv_topl (fun y_4 _ => ?_)
    have ry_4 := n_rngL y_4
    refine lv_iload_n (pc := 28) hx hb dX12_drawOf_28 rfl (lv_at hl 1 rfl) ?_
    as_aux_lemma =>
      refine b_i2l (pc := 29) hx hb rfl dX12_drawOf_29 (fun y_5 ey_5 => ?_)
      have ry_5 : zBd x0.toInt (-2147483648) 2147483647 := n_rng x0
      refine lv_lrem (pc := 30) hx hb dX12_drawOf_30 (fun h => by have q := congrArg Int64.toInt h; have k := tL_0; (first | omega | (unfold zBd at *; omega))) ?_
      refine lv_topl (fun y_6 _ => ?_)
      have ry_6 := n_rngL y_6
      refine lv_l2i (pc := 31) hx hb dX12_drawOf_31 rfl ?_
      refine lv_topi (fun x_7 _ => ?_)
      have rx_7 : zBd x_7.toInt (-2147483648) 2147483647 := n_rng x_7
      have hP9 : va_P D gcl (zS_4 cB cC cI cJ a0 a1 x1 x2 x3 x4 x5 x6 x7 x8 a2 a3 a4 a5 a6 a7 a8 a9 a10 a11 a12 a13 a14 a15 a16 x9 x10 x11 x12 x13 x14 a17 a18 a19 x15 a20 x16 a21 x17 x18 a22 a23 a24 a25 x19 a26 x20 a27 a28 a29 y_3 a30 a31 a32 a33 a34 a35 a36 a37 a38 x21 x22 x23 y1 a39 x24 a40 a41 a42 a43 x25 x26 x27 x28) H := g_psub hP [0] rfl
      have hD9 : va_D A (zS_4 cB cC cI cJ a0 a1 x1 x2 x3 x4 x5 x6 x7 x8 a2 a3 a4 a5 a6 a7 a8 a9 a10 a11 a12 a13 a14 a15 a16 x9 x10 x11 x12 x13 x14 a17 a18 a19 x15 a20 x16 a21 x17 x18 a22 a23 a24 a25 x19 a26 x20 a27 a28 a29 y_3 a30 a31 a32 a33 a34 a35 a36 a37 a38 x21 x22 x23 y1 a39 x24 a40 a41 a42 a43 x25 x26 x27 x28) := hD.sub [0] (by decide) rfl
      exact hret x_7 ((fun _ => 0), (fun _ => (fun _ => 0)), (fun _ => (fun _ => 0)), (fun _ => 0), (fun k => [y_3].getD k 0)) dX12_drawOf_32 (show ((((-2147483648) ≤ x_7.toInt ∧ x_7.toInt ≤ 2147483647))) from (by first | exact (om_1017 rx_7.1 rx_7.2) | ((first | omega | (unfold zBd at *; omega))))) hP9 hD9 hS
theorem om_1592 {a b c : Int} (h0 : (a = (-1))) : (((a = (-1)) ∨ (a = (-1) ∧ b < 0) ∨ (a = c ∧ b ≥ 0 ∧ ¬ c = 0 ∧ (1 ≤ c ∧ c ≤ 6)) ∨ (a = (-1) ∧ b ≥ 0 ∧ c = 0))) := by omega
theorem om_1593 {a b : Int} (h0 : (0 ≤ a)) (h1 : (b ≥ 0)) (h2 : (¬ a = 0)) (h3 : (a ≤ 6)) : (((a = (-1)) ∨ (a = (-1) ∧ b < 0) ∨ (a = a ∧ b ≥ 0 ∧ ¬ a = 0 ∧ (1 ≤ a ∧ a ≤ 6)) ∨ (a = (-1) ∧ b ≥ 0 ∧ a = 0))) := by omega
theorem om_1594 {a b c d e : Int} (h0 : (¬ b = 0)) (h1 : ((b = 0 ∧ c < d) ∨ (b = 0 ∧ c ≥ d ∧ c > e) ∨ (b = 1 ∧ c ≥ d ∧ c ≤ e))) (h2 : (c = a)) (h3 : (d = 0)) : (-2147483648 ≤ 2 * a) := by omega
theorem om_1595 {a b c d e : Int} (h0 : (¬ b = 0)) (h1 : ((b = 0 ∧ c < d) ∨ (b = 0 ∧ c ≥ d ∧ c > e) ∨ (b = 1 ∧ c ≥ d ∧ c ≤ e))) (h2 : (c = a)) (h3 : (e = 9999)) : (2 * a ≤ 2147483647) := by omega
theorem om_1596 {a b c d e f : Int} (h0 : (¬ b = 0)) (h1 : ((b = 0 ∧ c < d) ∨ (b = 0 ∧ c ≥ d ∧ c > e) ∨ (b = 1 ∧ c ≥ d ∧ c ≤ e))) (h2 : (a = 2 * f)) (h3 : (c = f)) (h4 : (d = 0)) : (-2147483648 ≤ a + 1) := by omega
theorem om_1597 {a b c d e f : Int} (h0 : (¬ b = 0)) (h1 : ((b = 0 ∧ c < d) ∨ (b = 0 ∧ c ≥ d ∧ c > e) ∨ (b = 1 ∧ c ≥ d ∧ c ≤ e))) (h2 : (a = 2 * f)) (h3 : (c = f)) (h4 : (e = 9999)) : (a + 1 ≤ 2147483647) := by omega
theorem om_1598 {a b c d e f g : Int} (h0 : (¬ b = 0)) (h1 : ((b = 0 ∧ c < d) ∨ (b = 0 ∧ c ≥ d ∧ c > e) ∨ (b = 1 ∧ c ≥ d ∧ c ≤ e))) (h2 : (a = f + 1)) (h3 : (f = 2 * g)) (h4 : (c = g)) (h5 : (d = 0)) (h6 : (e = 9999)) : ((1 ≤ a ∧ a ≤ 19999)) := by omega
theorem om_1599 {a : Int} (h0 : (a ≥ (-32768))) : ((-1100000) ≤ a) := by omega
theorem om_1600 {a : Int} (h0 : (a = (-32768))) : ((-1100000) ≤ a) := by omega
theorem om_1601 {a : Int} (h0 : (a = (-32768))) : (a ≤ 1100000) := by omega
theorem om_1602 {a : Int} (h0 : (a = 32767)) : ((-1100000) ≤ a) := by omega
theorem om_1603 {a : Int} (h0 : (a = 32767)) : (a ≤ 1100000) := by omega
set_option maxHeartbeats 4000000 in
set_option maxRecDepth 100000 in
theorem k_X12_slips (l : Launch) (D : va_G) (cB cC cI cJ : ClassId) (sz : Nat) (a0 a1 a2 a3 a4 a5 a6 a7 a8 a9 a10 a11 a12 a13 a14 a15 a16 a17 a18 a19 a20 a21 a22 a23 a24 a25 a26 a27 a28 a29 a30 a31 a32 a33 a34 a35 a36 a37 a38 a39 a40 a41 a42 a43 : Nat) (x0 x1 x2 x3 x4 x5 x6 x7 x8 x9 x10 x11 x12 x13 x14 x15 x16 x17 x18 x19 x20 x21 x22 x23 x24 x25 x26 x27 x28 x29 : Int32) (y0 y1 : Int64) (f0 : Nat → Int32) (h_x2 : zBd x2.toInt 0 1600) (h_x3 : zBd x3.toInt 0 1600) (h_x4 : zBd x4.toInt 0 1600) (h_x5 : zBd x5.toInt (-1) 1600) (h_x6 : zBd x6.toInt 0 4) (h_x7 : zBd x7.toInt (-1) 1600) (h_x10 : zBd x10.toInt 0 8) (h_x11 : zBd x11.toInt 0 5) (h_x12 : zBd x12.toInt 0 6) (h_x13 : zBd x13.toInt 0 6) (h_x14 : zBd x14.toInt 0 16) (h_x16 : zBd x16.toInt 0 60) (h_x17 : zBd x17.toInt 0 1600) (h_x18 : zBd x18.toInt 0 1700) (h_x20 : zBd x20.toInt 0 1700) (h_x21 : zBd x21.toInt 0 1700) (h_x22 : zBd x22.toInt 0 200) (h_x23 : zBd x23.toInt 0 40) (h_x24 : zBd x24.toInt 0 40) (h_x25 : zBd x25.toInt 0 1) (h_x26 : zBd x26.toInt 0 14) (h_x27 : zBd x27.toInt 0 200) (h_x28 : zBd x28.toInt 0 40) (h_x29 : zBd x29.toInt 0 40) (hr_a0_0 : (x23.toInt ≤ x22.toInt)) (hr_a0_1 : (x22.toInt + x24.toInt ≤ 200)) (hr_a0_2 : (x11.toInt = 0 ∨ 2 ≤ x10.toInt)) (hf_f0 : (∀ j, (-1100000) ≤ (f0 j).toInt ∧ (f0 j).toInt ≤ 1100000)) : Met l yX12_slips (.code yX12_slips cX12_slips 5 (some .int) :: lw_gd) ({ frames := 1, cells := 0, slots := 0, locals := 25 }) (gPre D [(cB, .byte), (cC, .char), (cI, .int), (cJ, .long)] [.ref a0, .int x0, .int x1] (zS_45 cB cC cI cJ a0 a1 x2 x3 x4 x5 x6 x7 x8 x9 a2 a3 a4 a5 a6 a7 a8 a9 a10 a11 a12 a13 a14 a15 a16 x10 x11 x12 x13 x14 x15 a17 a18 a19 x16 a20 x17 a21 x18 x19 a22 a23 a24 a25 x20 a26 x21 a27 a28 a29 y0 a30 a31 a32 a33 a34 a35 a36 a37 a38 x22 x23 x24 y1 a39 x25 a40 a41 a42 a43 x26 x27 x28 x29 a28 f0) sz) (va_Qi (fun r u => ((r.toInt = (-1)) ∨ (r.toInt = (-1) ∧ x1.toInt < 0) ∨ (r.toInt = x12.toInt ∧ x1.toInt ≥ 0 ∧ ¬ x12.toInt = 0 ∧ (1 ≤ x12.toInt ∧ x12.toInt ≤ 6)) ∨ (r.toInt = (-1) ∧ x1.toInt ≥ 0 ∧ x12.toInt = 0)) ∧ (∀ j, (-1100000) ≤ ((u.2.1 0) j).toInt ∧ ((u.2.1 0) j).toInt ≤ 1100000)) (gB D (va_A (zS_45 cB cC cI cJ a0 a1 x2 x3 x4 x5 x6 x7 x8 x9 a2 a3 a4 a5 a6 a7 a8 a9 a10 a11 a12 a13 a14 a15 a16 x10 x11 x12 x13 x14 x15 a17 a18 a19 x16 a20 x17 a21 x18 x19 a22 a23 a24 a25 x20 a26 x21 a27 a28 a29 y0 a30 a31 a32 a33 a34 a35 a36 a37 a38 x22 x23 x24 y1 a39 x25 a40 a41 a42 a43 x26 x27 x28 x29 a28 f0) sz) (fun u : gEx => (zS_45 cB cC cI cJ a0 a1 x2 x3 x4 x5 x6 x7 x8 x9 a2 a3 a4 a5 a6 a7 a8 a9 a10 a11 a12 a13 a14 a15 a16 x10 x11 x12 x13 x14 x15 a17 a18 a19 x16 a20 x17 a21 x18 x19 a22 a23 a24 a25 x20 a26 x21 a27 a28 a29 (u.2.2.2.2 0) a30 a31 a32 a33 a34 a35 a36 a37 a38 x22 x23 x24 y1 a39 x25 a40 a41 a42 a43 x26 x27 x28 x29 a28 (u.2.1 0)))) (va_A (zS_45 cB cC cI cJ a0 a1 x2 x3 x4 x5 x6 x7 x8 x9 a2 a3 a4 a5 a6 a7 a8 a9 a10 a11 a12 a13 a14 a15 a16 x10 x11 x12 x13 x14 x15 a17 a18 a19 x16 a20 x17 a21 x18 x19 a22 a23 a24 a25 x20 a26 x21 a27 a28 a29 y0 a30 a31 a32 a33 a34 a35 a36 a37 a38 x22 x23 x24 y1 a39 x25 a40 a41 a42 a43 x26 x27 x28 x29 a28 f0) sz)) 0 0 (va_A (zS_45 cB cC cI cJ a0 a1 x2 x3 x4 x5 x6 x7 x8 x9 a2 a3 a4 a5 a6 a7 a8 a9 a10 a11 a12 a13 a14 a15 a16 x10 x11 x12 x13 x14 x15 a17 a18 a19 x16 a20 x17 a21 x18 x19 a22 a23 a24 a25 x20 a26 x21 a27 a28 a29 y0 a30 a31 a32 a33 a34 a35 a36 a37 a38 x22 x23 x24 y1 a39 x25 a40 a41 a42 a43 x26 x27 x28 x29 a28 f0) sz) := by
  refine gOf_i (by decide +kernel) (Nat.le_of_ble_eq_true rfl) ?_
  intro p e s m args below meth c ls A Q hx hb hts hown hml hN hK hP hD hA hl hret
  replace hown : s.vm.findClass RX12 = some m.cls := hown
  have hS : va_S A s.heap s.heap [] := va_S.rf
  replace hP : va_P D gcl (zS_45 cB cC cI cJ a0 a1 x2 x3 x4 x5 x6 x7 x8 x9 a2 a3 a4 a5 a6 a7 a8 a9 a10 a11 a12 a13 a14 a15 a16 x10 x11 x12 x13 x14 x15 a17 a18 a19 x16 a20 x17 a21 x18 x19 a22 a23 a24 a25 x20 a26 x21 a27 a28 a29 y0 a30 a31 a32 a33 a34 a35 a36 a37 a38 x22 x23 x24 y1 a39 x25 a40 a41 a42 a43 x26 x27 x28 x29 a28 f0) s.heap := hP
  replace hl : lv_has ls 5 [(0, .ref a0), (1, .int x0), (2, .int x1)] := hl
  have rx0 : zBd x0.toInt (-2147483648) 2147483647 := n_rng x0
  have rx1 : zBd x1.toInt (-2147483648) 2147483647 := n_rng x1
  have rx8 : zBd x8.toInt (-2147483648) 2147483647 := n_rng x8
  have rx9 : zBd x9.toInt (-2147483648) 2147483647 := n_rng x9
  have rx15 : zBd x15.toInt (-2147483648) 2147483647 := n_rng x15
  have rx19 : zBd x19.toInt (-2147483648) 2147483647 := n_rng x19
  have ry0 := n_rngL y0
  have ry1 := n_rngL y1
  refine lv_iload_n (pc := 0) hx hb dX12_slips_0 rfl (lv_at hl 1 rfl) ?_
  refine b_i2l (pc := 1) hx hb rfl dX12_slips_1 (fun y_1 ey_1 => ?_)
  have ry_1 : zBd x0.toInt (-2147483648) 2147483647 := n_rng x0
  refine lv_lconst (pc := 2) (v := 0) hx hb dX12_slips_2 (by decide) ?_
  refine lv_ldc2 (pc := 3) hx hb hown (hts _ tw_1843) dX12_slips_3 ?_
  refine gd_i (pc := 6) (wc := []) hP hD hS hA [] rfl (by decide +kernel) (fun _ => by rfl) (fun hPc hDc => va_runS (As := [.long y_1, .long 0, .long 9999]) (rest := []) ⟨hx, hb, hml, hown, hts⟩ (k_X12_isIn l D cB cC cI cJ _ y_1 0 9999) ⟨gcwB hts tw_1666 tw_14 tw_1664 hd_yX12_isIn ⟨Nat.le_of_ble_eq_true rfl, Nat.le_of_ble_eq_true rfl⟩, hts _ tw_1665⟩ (gpreS hPc hK hDc hN) rfl rfl hl.1 rfl (lv_room (Nat.le_of_ble_eq_true rfl)) dX12_slips_6 ⟨Nat.le_of_ble_eq_true rfl, Nat.le_of_ble_eq_true rfl⟩) (fun r_3 u_2 H locs hw_4 hP hD hS => ?_)
  replace hP : va_P D gcl (zS_45 cB cC cI cJ a0 a1 x2 x3 x4 x5 x6 x7 x8 x9 a2 a3 a4 a5 a6 a7 a8 a9 a10 a11 a12 a13 a14 a15 a16 x10 x11 x12 x13 x14 x15 a17 a18 a19 x16 a20 x17 a21 x18 x19 a22 a23 a24 a25 x20 a26 x21 a27 a28 a29 y0 a30 a31 a32 a33 a34 a35 a36 a37 a38 x22 x23 x24 y1 a39 x25 a40 a41 a42 a43 x26 x27 x28 x29 a28 f0) H := hP
  replace hD : va_D A (zS_45 cB cC cI cJ a0 a1 x2 x3 x4 x5 x6 x7 x8 x9 a2 a3 a4 a5 a6 a7 a8 a9 a10 a11 a12 a13 a14 a15 a16 x10 x11 x12 x13 x14 x15 a17 a18 a19 x16 a20 x17 a21 x18 x19 a22 a23 a24 a25 x20 a26 x21 a27 a28 a29 y0 a30 a31 a32 a33 a34 a35 a36 a37 a38 x22 x23 x24 y1 a39 x25 a40 a41 a42 a43 x26 x27 x28 x29 a28 f0) := hD
  have hw_5 : ((r_3.toInt = 0 ∧ y_1.toInt < (0 : Int64).toInt) ∨ (r_3.toInt = 0 ∧ y_1.toInt ≥ (0 : Int64).toInt ∧ y_1.toInt > (9999 : Int64).toInt) ∨ (r_3.toInt = 1 ∧ y_1.toInt ≥ (0 : Int64).toInt ∧ y_1.toInt ≤ (9999 : Int64).toInt)) := hw_4
  have kk0_r_3 := tL_0
  have kk1_r_3 := tL_9999
  have rr_3 : zBd r_3.toInt (-2147483648) 2147483647 := n_rng r_3
  refine b_if_eq (pc := 9) (tgt := 23) hx hb rfl  dX12_slips_9 (by decide) (fun c_6 => ?_) (fun c_6 => ?_)
  ·
    as_aux_lemma =>
      refine lv_iconst (pc := 23) (v := (-1)) hx hb dX12_slips_23 (by decide) ?_
      have hP9 : va_P D gcl (zS_45 cB cC cI cJ a0 a1 x2 x3 x4 x5 x6 x7 x8 x9 a2 a3 a4 a5 a6 a7 a8 a9 a10 a11 a12 a13 a14 a15 a16 x10 x11 x12 x13 x14 x15 a17 a18 a19 x16 a20 x17 a21 x18 x19 a22 a23 a24 a25 x20 a26 x21 a27 a28 a29 y0 a30 a31 a32 a33 a34 a35 a36 a37 a38 x22 x23 x24 y1 a39 x25 a40 a41 a42 a43 x26 x27 x28 x29 a28 f0) H := g_psub hP [0, 1] rfl
      have hD9 : va_D A (zS_45 cB cC cI cJ a0 a1 x2 x3 x4 x5 x6 x7 x8 x9 a2 a3 a4 a5 a6 a7 a8 a9 a10 a11 a12 a13 a14 a15 a16 x10 x11 x12 x13 x14 x15 a17 a18 a19 x16 a20 x17 a21 x18 x19 a22 a23 a24 a25 x20 a26 x21 a27 a28 a29 y0 a30 a31 a32 a33 a34 a35 a36 a37 a38 x22 x23 x24 y1 a39 x25 a40 a41 a42 a43 x26 x27 x28 x29 a28 f0) := hD.sub [0, 1] (by decide) rfl
      exact hret (-1) ((fun _ => 0), (fun k => [f0].getD k (fun _ => 0)), (fun _ => (fun _ => 0)), (fun _ => 0), (fun k => [y0].getD k 0)) dX12_slips_24 ⟨(show ((((-1) : Int32).toInt = (-1)) ∨ (((-1) : Int32).toInt = (-1) ∧ x1.toInt < 0) ∨ (((-1) : Int32).toInt = x12.toInt ∧ x1.toInt ≥ 0 ∧ ¬ x12.toInt = 0 ∧ (1 ≤ x12.toInt ∧ x12.toInt ≤ 6)) ∨ (((-1) : Int32).toInt = (-1) ∧ x1.toInt ≥ 0 ∧ x12.toInt = 0)) from (by first | exact (om_1592 tI_m1) | (have k9 := tI_m1; (first | omega | (unfold zBd at *; omega))))), hf_f0⟩ hP9 hD9 hS
  ·
    as_aux_lemma =>
      refine lv_iload_n (pc := 12) hx hb dX12_slips_12 rfl (lv_at hl 2 rfl) ?_
      refine b_if_lt (pc := 13) (tgt := 23) hx hb rfl  dX12_slips_13 (by decide) (fun c_7 => ?_) (fun c_7 => ?_)
      ·
        as_aux_lemma =>
          refine lv_iconst (pc := 23) (v := (-1)) hx hb dX12_slips_23 (by decide) ?_
          have hP9 : va_P D gcl (zS_45 cB cC cI cJ a0 a1 x2 x3 x4 x5 x6 x7 x8 x9 a2 a3 a4 a5 a6 a7 a8 a9 a10 a11 a12 a13 a14 a15 a16 x10 x11 x12 x13 x14 x15 a17 a18 a19 x16 a20 x17 a21 x18 x19 a22 a23 a24 a25 x20 a26 x21 a27 a28 a29 y0 a30 a31 a32 a33 a34 a35 a36 a37 a38 x22 x23 x24 y1 a39 x25 a40 a41 a42 a43 x26 x27 x28 x29 a28 f0) H := g_psub hP [0, 1] rfl
          have hD9 : va_D A (zS_45 cB cC cI cJ a0 a1 x2 x3 x4 x5 x6 x7 x8 x9 a2 a3 a4 a5 a6 a7 a8 a9 a10 a11 a12 a13 a14 a15 a16 x10 x11 x12 x13 x14 x15 a17 a18 a19 x16 a20 x17 a21 x18 x19 a22 a23 a24 a25 x20 a26 x21 a27 a28 a29 y0 a30 a31 a32 a33 a34 a35 a36 a37 a38 x22 x23 x24 y1 a39 x25 a40 a41 a42 a43 x26 x27 x28 x29 a28 f0) := hD.sub [0, 1] (by decide) rfl
          exact hret (-1) ((fun _ => 0), (fun k => [f0].getD k (fun _ => 0)), (fun _ => (fun _ => 0)), (fun _ => 0), (fun k => [y0].getD k 0)) dX12_slips_24 ⟨(show ((((-1) : Int32).toInt = (-1)) ∨ (((-1) : Int32).toInt = (-1) ∧ x1.toInt < 0) ∨ (((-1) : Int32).toInt = x12.toInt ∧ x1.toInt ≥ 0 ∧ ¬ x12.toInt = 0 ∧ (1 ≤ x12.toInt ∧ x12.toInt ≤ 6)) ∨ (((-1) : Int32).toInt = (-1) ∧ x1.toInt ≥ 0 ∧ x12.toInt = 0)) from (by first | exact (om_1592 tI_m1) | (have k9 := tI_m1; (first | omega | (unfold zBd at *; omega))))), hf_f0⟩ hP9 hD9 hS
      ·
        as_aux_lemma =>
          refine lv_aload_n (pc := 16) hx hb dX12_slips_16 rfl (lv_at hl 0 rfl) ?_
          refine va_get (pc := 17) (ci := 12) (v := .int x12) (C := RX12) (T := TX12) (N := 73) hx hb hts iX12 hown hK hP 0 rfl rfl 26 (by decide) (hts _ tw_1427) (fun _ h9 => h9) rfl dX12_slips_17 ?_
          have bd_h_x12 : 0 ≤ x12.toInt ∧ x12.toInt ≤ 6 := h_x12
          refine b_if_ne (pc := 20) (tgt := 25) hx hb rfl  dX12_slips_20 (by decide) (fun c_8 => ?_) (fun c_8 => ?_)
          ·
            as_aux_lemma =>
              refine lv_aload_n (pc := 25) hx hb dX12_slips_25 rfl (lv_at hl 0 rfl) ?_
              refine lv_iload_n (pc := 26) hx hb dX12_slips_26 rfl (lv_at hl 2 rfl) ?_
              refine b_i2l (pc := 27) hx hb rfl dX12_slips_27 (fun y_9 ey_9 => ?_)
              have ry_9 : zBd x1.toInt (-2147483648) 2147483647 := n_rng x1
              refine va_put (pc := 28) (ci := 12) (v := .long y_9) (ty := .long) (C := RX12) (T := TX12) (N := 73) hx hb hts iX12 tyX12 tyX12_ok nmX12 hown hK hP hD hS 0 rfl rfl 49 (by decide) (hts _ tw_1450) (fun _ h9 => h9) rfl (by decide +kernel) rfl rfl (Nat.le_of_ble_eq_true rfl) dX12_slips_28 (fun H locs hP hD hS => ?_)
              replace hP : va_P D gcl (zS_45 cB cC cI cJ a0 a1 x2 x3 x4 x5 x6 x7 x8 x9 a2 a3 a4 a5 a6 a7 a8 a9 a10 a11 a12 a13 a14 a15 a16 x10 x11 x12 x13 x14 x15 a17 a18 a19 x16 a20 x17 a21 x18 x19 a22 a23 a24 a25 x20 a26 x21 a27 a28 a29 y_9 a30 a31 a32 a33 a34 a35 a36 a37 a38 x22 x23 x24 y1 a39 x25 a40 a41 a42 a43 x26 x27 x28 x29 a28 f0) H := hP
              replace hD : va_D A (zS_45 cB cC cI cJ a0 a1 x2 x3 x4 x5 x6 x7 x8 x9 a2 a3 a4 a5 a6 a7 a8 a9 a10 a11 a12 a13 a14 a15 a16 x10 x11 x12 x13 x14 x15 a17 a18 a19 x16 a20 x17 a21 x18 x19 a22 a23 a24 a25 x20 a26 x21 a27 a28 a29 y_9 a30 a31 a32 a33 a34 a35 a36 a37 a38 x22 x23 x24 y1 a39 x25 a40 a41 a42 a43 x26 x27 x28 x29 a28 f0) := hD
              refine lv_iconst (pc := 31) (v := 0) hx hb dX12_slips_31 (by decide) ?_
              refine lv_istore_n (pc := 32) (lv' := [(3, .int 0), (0, .ref a0), (1, .int x0), (2, .int x1)]) hx hb dX12_slips_32 rfl hl (by decide) rfl (fun ls hl => ?_)
              have lp_16 : ∀ (n : Nat) (x_10 : Int32) (y_12 : Int64) (f_14 : Nat → Int32) (H : Heap) (locs : List Loc) (ls : Array Slot), (0 ≤ x_10.toInt ∧ x_10.toInt ≤ 2147483647) → (∀ j, (-1100000) ≤ (f_14 j).toInt ∧ (f_14 j).toInt ≤ 1100000) → (2147483647 - x_10.toInt).toNat < n → va_P D gcl (zS_45 cB cC cI cJ a0 a1 x2 x3 x4 x5 x6 x7 x8 x9 a2 a3 a4 a5 a6 a7 a8 a9 a10 a11 a12 a13 a14 a15 a16 x10 x11 x12 x13 x14 x15 a17 a18 a19 x16 a20 x17 a21 x18 x19 a22 a23 a24 a25 x20 a26 x21 a27 a28 a29 y_12 a30 a31 a32 a33 a34 a35 a36 a37 a38 x22 x23 x24 y1 a39 x25 a40 a41 a42 a43 x26 x27 x28 x29 a28 f_14) H → va_D A (zS_45 cB cC cI cJ a0 a1 x2 x3 x4 x5 x6 x7 x8 x9 a2 a3 a4 a5 a6 a7 a8 a9 a10 a11 a12 a13 a14 a15 a16 x10 x11 x12 x13 x14 x15 a17 a18 a19 x16 a20 x17 a21 x18 x19 a22 a23 a24 a25 x20 a26 x21 a27 a28 a29 y_12 a30 a31 a32 a33 a34 a35 a36 a37 a38 x22 x23 x24 y1 a39 x25 a40 a41 a42 a43 x26 x27 x28 x29 a28 f_14) → va_S A s.heap H locs → lv_has ls 5 [(3, .int x_10), (0, .ref a0), (1, .int x0), (2, .int x1)] → W p l e ({ frames := 1, cells := 0, slots := 0, locals := 25 }) s m args below meth c H locs 0 0 Q (F0 m 33 ls []) := by
                intro n
                induction n with
                | zero => intro x_10 y_12 f_14 H locs ls hi_11 hi_15 hmu; exact absurd hmu (Nat.not_lt_zero _)
                | succ n ih_lp_16 =>
                  intro x_10 y_12 f_14 H locs ls hi_11 hi_15 hmu_lp_16 hP hD hS hl
                  have hi_13 := n_rngL y_12
                  refine lv_iload_n (pc := 33) hx hb dX12_slips_33 rfl (lv_at hl 0 rfl) ?_
                  refine lv_aload_n (pc := 34) hx hb dX12_slips_34 rfl (lv_at hl 1 rfl) ?_
                  refine va_get (pc := 35) (ci := 12) (v := .int x12) (C := RX12) (T := TX12) (N := 73) hx hb hts iX12 hown hK hP 0 rfl rfl 26 (by decide) (hts _ tw_1427) (fun _ h9 => h9) rfl dX12_slips_35 ?_
                  refine b_icmp_ge (pc := 38) (tgt := 103) hx hb rfl rfl  dX12_slips_38 (by decide) (fun c_17 => ?_) (fun c_17 => ?_)
                  ·
                    as_aux_lemma =>
                      refine lv_aload_n (pc := 103) hx hb dX12_slips_103 rfl (lv_at hl 1 rfl) ?_
                      refine va_get (pc := 104) (ci := 12) (v := .int x12) (C := RX12) (T := TX12) (N := 73) hx hb hts iX12 hown hK hP 0 rfl rfl 26 (by decide) (hts _ tw_1427) (fun _ h9 => h9) rfl dX12_slips_104 ?_
                      have hP9 : va_P D gcl (zS_45 cB cC cI cJ a0 a1 x2 x3 x4 x5 x6 x7 x8 x9 a2 a3 a4 a5 a6 a7 a8 a9 a10 a11 a12 a13 a14 a15 a16 x10 x11 x12 x13 x14 x15 a17 a18 a19 x16 a20 x17 a21 x18 x19 a22 a23 a24 a25 x20 a26 x21 a27 a28 a29 y_12 a30 a31 a32 a33 a34 a35 a36 a37 a38 x22 x23 x24 y1 a39 x25 a40 a41 a42 a43 x26 x27 x28 x29 a28 f_14) H := g_psub hP [0, 1] rfl
                      have hD9 : va_D A (zS_45 cB cC cI cJ a0 a1 x2 x3 x4 x5 x6 x7 x8 x9 a2 a3 a4 a5 a6 a7 a8 a9 a10 a11 a12 a13 a14 a15 a16 x10 x11 x12 x13 x14 x15 a17 a18 a19 x16 a20 x17 a21 x18 x19 a22 a23 a24 a25 x20 a26 x21 a27 a28 a29 y_12 a30 a31 a32 a33 a34 a35 a36 a37 a38 x22 x23 x24 y1 a39 x25 a40 a41 a42 a43 x26 x27 x28 x29 a28 f_14) := hD.sub [0, 1] (by decide) rfl
                      exact hret x12 ((fun _ => 0), (fun k => [f_14].getD k (fun _ => 0)), (fun _ => (fun _ => 0)), (fun _ => 0), (fun k => [y_12].getD k 0)) dX12_slips_107 ⟨(show ((x12.toInt = (-1)) ∨ (x12.toInt = (-1) ∧ x1.toInt < 0) ∨ (x12.toInt = x12.toInt ∧ x1.toInt ≥ 0 ∧ ¬ x12.toInt = 0 ∧ (1 ≤ x12.toInt ∧ x12.toInt ≤ 6)) ∨ (x12.toInt = (-1) ∧ x1.toInt ≥ 0 ∧ x12.toInt = 0)) from (by first | exact (om_1593 h_x12.1 c_7 c_8 h_x12.2) | ((first | omega | (unfold zBd at *; omega))))), hi_15⟩ hP9 hD9 hS
                  ·
                    as_aux_lemma =>
                      refine lv_aload_n (pc := 41) hx hb dX12_slips_41 rfl (lv_at hl 1 rfl) ?_
                      refine va_get (pc := 42) (ci := 12) (v := .ref a28) (C := RX12) (T := TX12) (N := 73) hx hb hts iX12 hown hK hP 0 rfl rfl 47 (by decide) (hts _ tw_1448) (fun _ h9 => h9) rfl dX12_slips_42 ?_
                      refine lv_iload_n (pc := 45) hx hb dX12_slips_45 rfl (lv_at hl 0 rfl) ?_
                      refine va_iald (pc := 46) hx hb hK hP 1 2 rfl rfl (n_in rfl (by first | exact (om_0 hi_11.1) | ((first | omega | (unfold zBd at *; omega)))) (by first | exact (om_1082 c_17 h_x12.2) | ((first | omega | (unfold zBd at *; omega))))) dX12_slips_46 ?_
                      refine lv_topi (fun x_18 ex_18 => ?_)
                      have rx_18 : ((-1100000) ≤ x_18.toInt ∧ x_18.toInt ≤ 1100000) := by rw [ex_18]; exact hi_15 _
                      refine lv_aload_n (pc := 47) hx hb dX12_slips_47 rfl (lv_at hl 1 rfl) ?_
                      refine lv_iconst (pc := 48) (v := 2) hx hb dX12_slips_48 (by decide) ?_
                      refine lv_iload_n (pc := 49) hx hb dX12_slips_49 rfl (lv_at hl 2 rfl) ?_
                      refine b_imul (pc := 50) hx hb tI_2 rfl (by first | exact (om_1594 c_6 hw_5 ey_1 tL_0) | ((first | omega | (unfold zBd at *; omega)))) (by first | exact (om_1595 c_6 hw_5 ey_1 tL_9999) | ((first | omega | (unfold zBd at *; omega)))) dX12_slips_50 (fun x_19 ex_19 => ?_)
                      refine lv_iconst (pc := 51) (v := 1) hx hb dX12_slips_51 (by decide) ?_
                      as_aux_lemma =>
                        refine b_iadd (pc := 52) hx hb rfl tI_1 (by first | exact (om_1596 c_6 hw_5 ex_19 ey_1 tL_0) | ((first | omega | (unfold zBd at *; omega)))) (by first | exact (om_1597 c_6 hw_5 ex_19 ey_1 tL_9999) | ((first | omega | (unfold zBd at *; omega)))) dX12_slips_52 (fun x_20 ex_20 => ?_)
                        refine gd_i (pc := 53) (wc := (zS_4 cB cC cI cJ a0 a1 x2 x3 x4 x5 x6 x7 x8 x9 a2 a3 a4 a5 a6 a7 a8 a9 a10 a11 a12 a13 a14 a15 a16 x10 x11 x12 x13 x14 x15 a17 a18 a19 x16 a20 x17 a21 x18 x19 a22 a23 a24 a25 x20 a26 x21 a27 a28 a29 y_12 a30 a31 a32 a33 a34 a35 a36 a37 a38 x22 x23 x24 y1 a39 x25 a40 a41 a42 a43 x26 x27 x28 x29)) hP hD hS hA [0] rfl (by decide +kernel) (fun _ => by rfl) (fun hPc hDc => va_runV (As := [.int x_20]) (rest := [.int x_18]) ⟨hx, hb, hml, hown, hts⟩ (k_X12_drawOf l D cB cC cI cJ _ a0 a1 a2 a3 a4 a5 a6 a7 a8 a9 a10 a11 a12 a13 a14 a15 a16 a17 a18 a19 a20 a21 a22 a23 a24 a25 a26 a27 a28 a29 a30 a31 a32 a33 a34 a35 a36 a37 a38 a39 a40 a41 a42 a43 x_20 x2 x3 x4 x5 x6 x7 x8 x9 x10 x11 x12 x13 x14 x15 x16 x17 x18 x19 x20 x21 x22 x23 x24 x25 x26 x27 x28 x29 y_12 y1 (by first | exact (om_1598 c_6 hw_5 ex_20 ex_19 ey_1 tL_0 tL_9999) | ((first | omega | (unfold zBd at *; omega)))) h_x2 h_x3 h_x4 h_x5 h_x6 h_x7 h_x10 h_x11 h_x12 h_x13 h_x14 h_x16 h_x17 h_x18 h_x20 h_x21 h_x22 h_x23 h_x24 h_x25 h_x26 h_x27 h_x28 h_x29 hr_a0_0 hr_a0_1 hr_a0_2) ⟨gcwB hts tw_1847 tw_14 tw_1844 hd_yX12_drawOf ⟨Nat.le_of_ble_eq_true rfl, Nat.le_of_ble_eq_true rfl⟩, hts _ tw_1846, hts _ tp_97⟩ ⟨gblind, va_recv hK hPc (ci := 12) (q0 := 0) rfl rfl, (gpreS hPc hK hDc hN).2⟩ rfl rfl hl.1 rfl (lv_room (Nat.le_of_ble_eq_true rfl)) dX12_slips_53 ⟨Nat.le_of_ble_eq_true rfl, Nat.le_of_ble_eq_true rfl⟩) (fun r_22 u_21 H locs hw_23 hP hD hS => ?_)
                        replace hP : va_P D gcl (zS_45 cB cC cI cJ a0 a1 x2 x3 x4 x5 x6 x7 x8 x9 a2 a3 a4 a5 a6 a7 a8 a9 a10 a11 a12 a13 a14 a15 a16 x10 x11 x12 x13 x14 x15 a17 a18 a19 x16 a20 x17 a21 x18 x19 a22 a23 a24 a25 x20 a26 x21 a27 a28 a29 (u_21.2.2.2.2 0) a30 a31 a32 a33 a34 a35 a36 a37 a38 x22 x23 x24 y1 a39 x25 a40 a41 a42 a43 x26 x27 x28 x29 a28 f_14) H := hP
                        replace hD : va_D A (zS_45 cB cC cI cJ a0 a1 x2 x3 x4 x5 x6 x7 x8 x9 a2 a3 a4 a5 a6 a7 a8 a9 a10 a11 a12 a13 a14 a15 a16 x10 x11 x12 x13 x14 x15 a17 a18 a19 x16 a20 x17 a21 x18 x19 a22 a23 a24 a25 x20 a26 x21 a27 a28 a29 (u_21.2.2.2.2 0) a30 a31 a32 a33 a34 a35 a36 a37 a38 x22 x23 x24 y1 a39 x25 a40 a41 a42 a43 x26 x27 x28 x29 a28 f_14) := hD
                        have ru_21_0 := n_rngL (u_21.2.2.2.2 0)
                        have hw_24 : ((((-2147483648) ≤ r_22.toInt ∧ r_22.toInt ≤ 2147483647))) := hw_23
                        have rr_22 : zBd r_22.toInt (-2147483648) 2147483647 := n_rng r_22
                        refine lv_iadd (pc := 56) hx hb dX12_slips_56 ?_
                        refine lv_topi (fun x_25 _ => ?_)
                        have rx_25 : zBd x_25.toInt (-2147483648) 2147483647 := n_rng x_25
                        refine lv_iload_n (pc := 57) hx hb dX12_slips_57 rfl (lv_at hl 2 rfl) ?_
                        refine lv_isub (pc := 58) hx hb dX12_slips_58 ?_
                        refine lv_topi (fun x_26 _ => ?_)
                        have rx_26 : zBd x_26.toInt (-2147483648) 2147483647 := n_rng x_26
                        refine lv_istore (pc := 59) (lv' := [(4, .int x_26), (3, .int x_10), (0, .ref a0), (1, .int x0), (2, .int x1)]) hx hb dX12_slips_59 hl (by decide) rfl (fun ls hl => ?_)
                        refine lv_aload_n (pc := 61) hx hb dX12_slips_61 rfl (lv_at hl 2 rfl) ?_
                        refine va_get (pc := 62) (ci := 12) (v := .ref a28) (C := RX12) (T := TX12) (N := 73) hx hb hts iX12 hown hK hP 0 rfl rfl 47 (by decide) (hts _ tw_1448) (fun _ h9 => h9) rfl dX12_slips_62 ?_
                        as_aux_lemma =>
                          refine lv_iload_n (pc := 65) hx hb dX12_slips_65 rfl (lv_at hl 1 rfl) ?_
                          refine lv_iload (pc := 66) hx hb dX12_slips_66 (lv_at hl 0 rfl) ?_
                          refine lv_sipush (pc := 68) (v := 32767) hx hb dX12_slips_68 (by decide) ?_
                          refine b_icmp_le (pc := 71) (tgt := 80) hx hb rfl tI_32767  dX12_slips_71 (by decide) (fun c_27 => ?_) (fun c_27 => ?_)
                          ·
                            as_aux_lemma =>
                              refine lv_iload (pc := 80) hx hb dX12_slips_80 (lv_at hl 0 rfl) ?_
                              refine lv_sipush (pc := 82) (v := (-32768)) hx hb dX12_slips_82 (by decide) ?_
                              refine b_icmp_ge (pc := 85) (tgt := 94) hx hb rfl tI_m32768  dX12_slips_85 (by decide) (fun c_28 => ?_) (fun c_28 => ?_)
                              ·
                                as_aux_lemma =>
                                  refine lv_iload (pc := 94) hx hb dX12_slips_94 (lv_at hl 0 rfl) ?_
                                  refine h_iastore (pc := 96) hx hb hK hP hD hS 1 2 rfl rfl (n_in rfl (by first | exact (om_0 hi_11.1) | ((first | omega | (unfold zBd at *; omega)))) (by first | exact (om_1082 c_17 h_x12.2) | ((first | omega | (unfold zBd at *; omega))))) dX12_slips_96 hi_15 (by first | exact (om_1599 c_28) | ((first | omega | (unfold zBd at *; omega)))) (by first | exact (om_1550 c_27) | ((first | omega | (unfold zBd at *; omega)))) (fun f_29 hf_29 H locs hP hD hS => ?_)
                                  replace hP : va_P D gcl (zS_45 cB cC cI cJ a0 a1 x2 x3 x4 x5 x6 x7 x8 x9 a2 a3 a4 a5 a6 a7 a8 a9 a10 a11 a12 a13 a14 a15 a16 x10 x11 x12 x13 x14 x15 a17 a18 a19 x16 a20 x17 a21 x18 x19 a22 a23 a24 a25 x20 a26 x21 a27 a28 a29 (u_21.2.2.2.2 0) a30 a31 a32 a33 a34 a35 a36 a37 a38 x22 x23 x24 y1 a39 x25 a40 a41 a42 a43 x26 x27 x28 x29 a28 f_29) H := hP
                                  replace hD : va_D A (zS_45 cB cC cI cJ a0 a1 x2 x3 x4 x5 x6 x7 x8 x9 a2 a3 a4 a5 a6 a7 a8 a9 a10 a11 a12 a13 a14 a15 a16 x10 x11 x12 x13 x14 x15 a17 a18 a19 x16 a20 x17 a21 x18 x19 a22 a23 a24 a25 x20 a26 x21 a27 a28 a29 (u_21.2.2.2.2 0) a30 a31 a32 a33 a34 a35 a36 a37 a38 x22 x23 x24 y1 a39 x25 a40 a41 a42 a43 x26 x27 x28 x29 a28 f_29) := hD
                                  refine b_iinc (pc := 97) hx hb dX12_slips_97 hl (k := 1) rfl rfl tI_1 (by first | exact (om_2 hi_11.1) | ((first | omega | (unfold zBd at *; omega)))) (by first | exact (om_1084 c_17 h_x12.2) | ((first | omega | (unfold zBd at *; omega)))) (by decide) (fun x_30 ex_30 ls hl => ?_)
                                  replace hl : lv_has ls 5 [(3, .int x_30), (4, .int x_26), (0, .ref a0), (1, .int x0), (2, .int x1)] := hl
                                  refine lv_goto (pc := 100) (tgt := 33) hx hb dX12_slips_100 (by decide) ?_
                                  exact ih_lp_16 x_30 (u_21.2.2.2.2 0) f_29 _ _ ls (by first | exact (om_1085 ex_30 hi_11.1 c_17 h_x12.2) | ((first | omega | (unfold zBd at *; omega)))) hf_29 (by (first | omega | (unfold zBd at *; omega))) hP hD hS (lv_sub hl [0, 2, 3, 4] rfl)
                              ·
                                as_aux_lemma =>
                                  refine lv_sipush (pc := 88) (v := (-32768)) hx hb dX12_slips_88 (by decide) ?_
                                  refine lv_goto (pc := 91) (tgt := 96) hx hb dX12_slips_91 (by decide) ?_
                                  refine h_iastore (pc := 96) hx hb hK hP hD hS 1 2 rfl rfl (n_in rfl (by first | exact (om_0 hi_11.1) | ((first | omega | (unfold zBd at *; omega)))) (by first | exact (om_1082 c_17 h_x12.2) | ((first | omega | (unfold zBd at *; omega))))) dX12_slips_96 hi_15 (by first | exact (om_1600 tI_m32768) | (have k_f_31 := tI_m32768; (first | omega | (unfold zBd at *; omega)))) (by first | exact (om_1601 tI_m32768) | (have k_f_31 := tI_m32768; (first | omega | (unfold zBd at *; omega)))) (fun f_31 hf_31 H locs hP hD hS => ?_)
                                  replace hP : va_P D gcl (zS_45 cB cC cI cJ a0 a1 x2 x3 x4 x5 x6 x7 x8 x9 a2 a3 a4 a5 a6 a7 a8 a9 a10 a11 a12 a13 a14 a15 a16 x10 x11 x12 x13 x14 x15 a17 a18 a19 x16 a20 x17 a21 x18 x19 a22 a23 a24 a25 x20 a26 x21 a27 a28 a29 (u_21.2.2.2.2 0) a30 a31 a32 a33 a34 a35 a36 a37 a38 x22 x23 x24 y1 a39 x25 a40 a41 a42 a43 x26 x27 x28 x29 a28 f_31) H := hP
                                  replace hD : va_D A (zS_45 cB cC cI cJ a0 a1 x2 x3 x4 x5 x6 x7 x8 x9 a2 a3 a4 a5 a6 a7 a8 a9 a10 a11 a12 a13 a14 a15 a16 x10 x11 x12 x13 x14 x15 a17 a18 a19 x16 a20 x17 a21 x18 x19 a22 a23 a24 a25 x20 a26 x21 a27 a28 a29 (u_21.2.2.2.2 0) a30 a31 a32 a33 a34 a35 a36 a37 a38 x22 x23 x24 y1 a39 x25 a40 a41 a42 a43 x26 x27 x28 x29 a28 f_31) := hD
                                  refine b_iinc (pc := 97) hx hb dX12_slips_97 hl (k := 1) rfl rfl tI_1 (by first | exact (om_2 hi_11.1) | ((first | omega | (unfold zBd at *; omega)))) (by first | exact (om_1084 c_17 h_x12.2) | ((first | omega | (unfold zBd at *; omega)))) (by decide) (fun x_32 ex_32 ls hl => ?_)
                                  replace hl : lv_has ls 5 [(3, .int x_32), (4, .int x_26), (0, .ref a0), (1, .int x0), (2, .int x1)] := hl
                                  refine lv_goto (pc := 100) (tgt := 33) hx hb dX12_slips_100 (by decide) ?_
                                  exact ih_lp_16 x_32 (u_21.2.2.2.2 0) f_31 _ _ ls (by first | exact (om_1085 ex_32 hi_11.1 c_17 h_x12.2) | ((first | omega | (unfold zBd at *; omega)))) hf_31 (by (first | omega | (unfold zBd at *; omega))) hP hD hS (lv_sub hl [0, 2, 3, 4] rfl)
                          ·
                            as_aux_lemma =>
                              refine lv_sipush (pc := 74) (v := 32767) hx hb dX12_slips_74 (by decide) ?_
                              refine lv_goto (pc := 77) (tgt := 96) hx hb dX12_slips_77 (by decide) ?_
                              refine h_iastore (pc := 96) hx hb hK hP hD hS 1 2 rfl rfl (n_in rfl (by first | exact (om_0 hi_11.1) | ((first | omega | (unfold zBd at *; omega)))) (by first | exact (om_1082 c_17 h_x12.2) | ((first | omega | (unfold zBd at *; omega))))) dX12_slips_96 hi_15 (by first | exact (om_1602 tI_32767) | (have k_f_33 := tI_32767; (first | omega | (unfold zBd at *; omega)))) (by first | exact (om_1603 tI_32767) | (have k_f_33 := tI_32767; (first | omega | (unfold zBd at *; omega)))) (fun f_33 hf_33 H locs hP hD hS => ?_)
                              replace hP : va_P D gcl (zS_45 cB cC cI cJ a0 a1 x2 x3 x4 x5 x6 x7 x8 x9 a2 a3 a4 a5 a6 a7 a8 a9 a10 a11 a12 a13 a14 a15 a16 x10 x11 x12 x13 x14 x15 a17 a18 a19 x16 a20 x17 a21 x18 x19 a22 a23 a24 a25 x20 a26 x21 a27 a28 a29 (u_21.2.2.2.2 0) a30 a31 a32 a33 a34 a35 a36 a37 a38 x22 x23 x24 y1 a39 x25 a40 a41 a42 a43 x26 x27 x28 x29 a28 f_33) H := hP
                              replace hD : va_D A (zS_45 cB cC cI cJ a0 a1 x2 x3 x4 x5 x6 x7 x8 x9 a2 a3 a4 a5 a6 a7 a8 a9 a10 a11 a12 a13 a14 a15 a16 x10 x11 x12 x13 x14 x15 a17 a18 a19 x16 a20 x17 a21 x18 x19 a22 a23 a24 a25 x20 a26 x21 a27 a28 a29 (u_21.2.2.2.2 0) a30 a31 a32 a33 a34 a35 a36 a37 a38 x22 x23 x24 y1 a39 x25 a40 a41 a42 a43 x26 x27 x28 x29 a28 f_33) := hD
                              refine b_iinc (pc := 97) hx hb dX12_slips_97 hl (k := 1) rfl rfl tI_1 (by first | exact (om_2 hi_11.1) | ((first | omega | (unfold zBd at *; omega)))) (by first | exact (om_1084 c_17 h_x12.2) | ((first | omega | (unfold zBd at *; omega)))) (by decide) (fun x_34 ex_34 ls hl => ?_)
                              replace hl : lv_has ls 5 [(3, .int x_34), (4, .int x_26), (0, .ref a0), (1, .int x0), (2, .int x1)] := hl
                              refine lv_goto (pc := 100) (tgt := 33) hx hb dX12_slips_100 (by decide) ?_
                              exact ih_lp_16 x_34 (u_21.2.2.2.2 0) f_33 _ _ ls (by first | exact (om_1085 ex_34 hi_11.1 c_17 h_x12.2) | ((first | omega | (unfold zBd at *; omega)))) hf_33 (by (first | omega | (unfold zBd at *; omega))) hP hD hS (lv_sub hl [0, 2, 3, 4] rfl)
              exact lp_16 _ 0 y_9 f0 _ _ ls (n_c tI_0 (by decide)) hf_f0 (Nat.lt_succ_self _) hP hD hS (lv_sub hl [0, 1, 2, 3] rfl)
          ·
            as_aux_lemma =>
              refine lv_iconst (pc := 23) (v := (-1)) hx hb dX12_slips_23 (by decide) ?_
              have hP9 : va_P D gcl (zS_45 cB cC cI cJ a0 a1 x2 x3 x4 x5 x6 x7 x8 x9 a2 a3 a4 a5 a6 a7 a8 a9 a10 a11 a12 a13 a14 a15 a16 x10 x11 x12 x13 x14 x15 a17 a18 a19 x16 a20 x17 a21 x18 x19 a22 a23 a24 a25 x20 a26 x21 a27 a28 a29 y0 a30 a31 a32 a33 a34 a35 a36 a37 a38 x22 x23 x24 y1 a39 x25 a40 a41 a42 a43 x26 x27 x28 x29 a28 f0) H := g_psub hP [0, 1] rfl
              have hD9 : va_D A (zS_45 cB cC cI cJ a0 a1 x2 x3 x4 x5 x6 x7 x8 x9 a2 a3 a4 a5 a6 a7 a8 a9 a10 a11 a12 a13 a14 a15 a16 x10 x11 x12 x13 x14 x15 a17 a18 a19 x16 a20 x17 a21 x18 x19 a22 a23 a24 a25 x20 a26 x21 a27 a28 a29 y0 a30 a31 a32 a33 a34 a35 a36 a37 a38 x22 x23 x24 y1 a39 x25 a40 a41 a42 a43 x26 x27 x28 x29 a28 f0) := hD.sub [0, 1] (by decide) rfl
              exact hret (-1) ((fun _ => 0), (fun k => [f0].getD k (fun _ => 0)), (fun _ => (fun _ => 0)), (fun _ => 0), (fun k => [y0].getD k 0)) dX12_slips_24 ⟨(show ((((-1) : Int32).toInt = (-1)) ∨ (((-1) : Int32).toInt = (-1) ∧ x1.toInt < 0) ∨ (((-1) : Int32).toInt = x12.toInt ∧ x1.toInt ≥ 0 ∧ ¬ x12.toInt = 0 ∧ (1 ≤ x12.toInt ∧ x12.toInt ≤ 6)) ∨ (((-1) : Int32).toInt = (-1) ∧ x1.toInt ≥ 0 ∧ x12.toInt = 0)) from (by first | exact (om_1592 tI_m1) | (have k9 := tI_m1; (first | omega | (unfold zBd at *; omega))))), hf_f0⟩ hP9 hD9 hS
theorem om_1604 {a b : Int} (h0 : ((-2147483648) ≤ a)) (h1 : (0 ≤ b)) (h2 : (a ≤ 2147483647)) (h3 : (¬ b = 0)) (h4 : (b ≤ 5)) : (((((-2147483648) ≤ a ∧ a ≤ 2147483647) ∧ ¬ b = 0 ∧ (1 ≤ b ∧ b ≤ 5)) ∨ (a = 0 ∧ b = 0))) := by omega
theorem om_1605 {a b : Int} (h0 : (a = 0)) (h1 : (b = 0)) : (((((-2147483648) ≤ a ∧ a ≤ 2147483647) ∧ ¬ b = 0 ∧ (1 ≤ b ∧ b ≤ 5)) ∨ (a = 0 ∧ b = 0))) := by omega
set_option maxHeartbeats 4000000 in
set_option maxRecDepth 100000 in
theorem k_X12_rowMany (l : Launch) (D : va_G) (cB cC cI cJ : ClassId) (sz : Nat) (a0 a1 a2 a3 a4 a5 a6 a7 a8 a9 a10 a11 a12 a13 a14 a15 a16 a17 a18 a19 a20 a21 a22 a23 a24 a25 a26 a27 a28 a29 a30 a31 a32 a33 a34 a35 a36 a37 a38 a39 a40 a41 a42 a43 : Nat) (x0 x1 x2 x3 x4 x5 x6 x7 x8 x9 x10 x11 x12 x13 x14 x15 x16 x17 x18 x19 x20 x21 x22 x23 x24 x25 x26 x27 : Int32) (y0 y1 : Int64) (h_x0 : zBd x0.toInt 0 1600) (h_x1 : zBd x1.toInt 0 1600) (h_x2 : zBd x2.toInt 0 1600) (h_x3 : zBd x3.toInt (-1) 1600) (h_x4 : zBd x4.toInt 0 4) (h_x5 : zBd x5.toInt (-1) 1600) (h_x8 : zBd x8.toInt 0 8) (h_x9 : zBd x9.toInt 0 5) (h_x10 : zBd x10.toInt 0 6) (h_x11 : zBd x11.toInt 0 6) (h_x12 : zBd x12.toInt 0 16) (h_x14 : zBd x14.toInt 0 60) (h_x15 : zBd x15.toInt 0 1600) (h_x16 : zBd x16.toInt 0 1700) (h_x18 : zBd x18.toInt 0 1700) (h_x19 : zBd x19.toInt 0 1700) (h_x20 : zBd x20.toInt 0 200) (h_x21 : zBd x21.toInt 0 40) (h_x22 : zBd x22.toInt 0 40) (h_x23 : zBd x23.toInt 0 1) (h_x24 : zBd x24.toInt 0 14) (h_x25 : zBd x25.toInt 0 200) (h_x26 : zBd x26.toInt 0 40) (h_x27 : zBd x27.toInt 0 40) (hr_a0_0 : (x21.toInt ≤ x20.toInt)) (hr_a0_1 : (x20.toInt + x22.toInt ≤ 200)) (hr_a0_2 : (x9.toInt = 0 ∨ 2 ≤ x8.toInt)) : Met l yX12_rowMany (.code yX12_rowMany cX12_rowMany 3 (some .int) :: lw_gd) ({ frames := 0, cells := 0, slots := 0, locals := 0 }) (gPre D [(cB, .byte), (cC, .char), (cI, .int), (cJ, .long)] [.ref a0] (zS_4 cB cC cI cJ a0 a1 x0 x1 x2 x3 x4 x5 x6 x7 a2 a3 a4 a5 a6 a7 a8 a9 a10 a11 a12 a13 a14 a15 a16 x8 x9 x10 x11 x12 x13 a17 a18 a19 x14 a20 x15 a21 x16 x17 a22 a23 a24 a25 x18 a26 x19 a27 a28 a29 y0 a30 a31 a32 a33 a34 a35 a36 a37 a38 x20 x21 x22 y1 a39 x23 a40 a41 a42 a43 x24 x25 x26 x27) sz) (va_Qi (fun r u => ((((-2147483648) ≤ r.toInt ∧ r.toInt ≤ 2147483647) ∧ ¬ x9.toInt = 0 ∧ (1 ≤ x9.toInt ∧ x9.toInt ≤ 5)) ∨ (r.toInt = 0 ∧ x9.toInt = 0))) (gB D (va_A (zS_4 cB cC cI cJ a0 a1 x0 x1 x2 x3 x4 x5 x6 x7 a2 a3 a4 a5 a6 a7 a8 a9 a10 a11 a12 a13 a14 a15 a16 x8 x9 x10 x11 x12 x13 a17 a18 a19 x14 a20 x15 a21 x16 x17 a22 a23 a24 a25 x18 a26 x19 a27 a28 a29 y0 a30 a31 a32 a33 a34 a35 a36 a37 a38 x20 x21 x22 y1 a39 x23 a40 a41 a42 a43 x24 x25 x26 x27) sz) (fun u : gEx => (zS_4 cB cC cI cJ a0 a1 x0 x1 x2 x3 x4 x5 x6 x7 a2 a3 a4 a5 a6 a7 a8 a9 a10 a11 a12 a13 a14 a15 a16 x8 x9 x10 x11 x12 x13 a17 a18 a19 x14 a20 x15 a21 x16 x17 a22 a23 a24 a25 x18 a26 x19 a27 a28 a29 y0 a30 a31 a32 a33 a34 a35 a36 a37 a38 x20 x21 x22 y1 a39 x23 a40 a41 a42 a43 x24 x25 x26 x27))) (va_A (zS_4 cB cC cI cJ a0 a1 x0 x1 x2 x3 x4 x5 x6 x7 a2 a3 a4 a5 a6 a7 a8 a9 a10 a11 a12 a13 a14 a15 a16 x8 x9 x10 x11 x12 x13 a17 a18 a19 x14 a20 x15 a21 x16 x17 a22 a23 a24 a25 x18 a26 x19 a27 a28 a29 y0 a30 a31 a32 a33 a34 a35 a36 a37 a38 x20 x21 x22 y1 a39 x23 a40 a41 a42 a43 x24 x25 x26 x27) sz)) 0 0 (va_A (zS_4 cB cC cI cJ a0 a1 x0 x1 x2 x3 x4 x5 x6 x7 a2 a3 a4 a5 a6 a7 a8 a9 a10 a11 a12 a13 a14 a15 a16 x8 x9 x10 x11 x12 x13 a17 a18 a19 x14 a20 x15 a21 x16 x17 a22 a23 a24 a25 x18 a26 x19 a27 a28 a29 y0 a30 a31 a32 a33 a34 a35 a36 a37 a38 x20 x21 x22 y1 a39 x23 a40 a41 a42 a43 x24 x25 x26 x27) sz) := by
  refine gOf_i (by decide +kernel) (Nat.le_of_ble_eq_true rfl) ?_
  intro p e s m args below meth c ls A Q hx hb hts hown hml hN hK hP hD hA hl hret
  replace hown : s.vm.findClass RX12 = some m.cls := hown
  have hS : va_S A s.heap s.heap [] := va_S.rf
  replace hP : va_P D gcl (zS_4 cB cC cI cJ a0 a1 x0 x1 x2 x3 x4 x5 x6 x7 a2 a3 a4 a5 a6 a7 a8 a9 a10 a11 a12 a13 a14 a15 a16 x8 x9 x10 x11 x12 x13 a17 a18 a19 x14 a20 x15 a21 x16 x17 a22 a23 a24 a25 x18 a26 x19 a27 a28 a29 y0 a30 a31 a32 a33 a34 a35 a36 a37 a38 x20 x21 x22 y1 a39 x23 a40 a41 a42 a43 x24 x25 x26 x27) s.heap := hP
  replace hl : lv_has ls 3 [(0, .ref a0)] := hl
  have rx6 : zBd x6.toInt (-2147483648) 2147483647 := n_rng x6
  have rx7 : zBd x7.toInt (-2147483648) 2147483647 := n_rng x7
  have rx13 : zBd x13.toInt (-2147483648) 2147483647 := n_rng x13
  have rx17 : zBd x17.toInt (-2147483648) 2147483647 := n_rng x17
  have ry0 := n_rngL y0
  have ry1 := n_rngL y1
  refine lv_aload_n (pc := 0) hx hb dX12_rowMany_0 rfl (lv_at hl 0 rfl) ?_
  refine va_get (pc := 1) (ci := 12) (v := .int x9) (C := RX12) (T := TX12) (N := 73) hx hb hts iX12 hown hK hP 0 rfl rfl 25 (by decide) (hts _ tw_1426) (fun _ h9 => h9) rfl dX12_rowMany_1 ?_
  have bd_h_x9 : 0 ≤ x9.toInt ∧ x9.toInt ≤ 5 := h_x9
  refine b_if_ne (pc := 4) (tgt := 9) hx hb rfl  dX12_rowMany_4 (by decide) (fun c_1 => ?_) (fun c_1 => ?_)
  ·
    as_aux_lemma =>
      refine lv_iconst (pc := 9) (v := 1) hx hb dX12_rowMany_9 (by decide) ?_
      refine lv_istore_n (pc := 10) (lv' := [(1, .int 1), (0, .ref a0)]) hx hb dX12_rowMany_10 rfl hl (by decide) rfl (fun ls hl => ?_)
      refine lv_iconst (pc := 11) (v := 0) hx hb dX12_rowMany_11 (by decide) ?_
      refine lv_istore_n (pc := 12) (lv' := [(2, .int 0), (1, .int 1), (0, .ref a0)]) hx hb dX12_rowMany_12 rfl hl (by decide) rfl (fun ls hl => ?_)
      have lp_6 : ∀ (n : Nat) (x_2 x_4 : Int32) (H : Heap) (locs : List Loc) (ls : Array Slot), (0 ≤ x_2.toInt ∧ x_2.toInt ≤ 2147483647) → (2147483647 - x_2.toInt).toNat < n → va_P D gcl (zS_4 cB cC cI cJ a0 a1 x0 x1 x2 x3 x4 x5 x6 x7 a2 a3 a4 a5 a6 a7 a8 a9 a10 a11 a12 a13 a14 a15 a16 x8 x9 x10 x11 x12 x13 a17 a18 a19 x14 a20 x15 a21 x16 x17 a22 a23 a24 a25 x18 a26 x19 a27 a28 a29 y0 a30 a31 a32 a33 a34 a35 a36 a37 a38 x20 x21 x22 y1 a39 x23 a40 a41 a42 a43 x24 x25 x26 x27) H → va_D A (zS_4 cB cC cI cJ a0 a1 x0 x1 x2 x3 x4 x5 x6 x7 a2 a3 a4 a5 a6 a7 a8 a9 a10 a11 a12 a13 a14 a15 a16 x8 x9 x10 x11 x12 x13 a17 a18 a19 x14 a20 x15 a21 x16 x17 a22 a23 a24 a25 x18 a26 x19 a27 a28 a29 y0 a30 a31 a32 a33 a34 a35 a36 a37 a38 x20 x21 x22 y1 a39 x23 a40 a41 a42 a43 x24 x25 x26 x27) → va_S A s.heap H locs → lv_has ls 3 [(2, .int x_2), (1, .int x_4), (0, .ref a0)] → W p l e ({ frames := 0, cells := 0, slots := 0, locals := 0 }) s m args below meth c H locs 0 0 Q (F0 m 13 ls []) := by
        intro n
        induction n with
        | zero => intro x_2 x_4 H locs ls hi_3 hmu; exact absurd hmu (Nat.not_lt_zero _)
        | succ n ih_lp_6 =>
          intro x_2 x_4 H locs ls hi_3 hmu_lp_6 hP hD hS hl
          have hi_5 := n_rng x_4
          refine lv_iload_n (pc := 13) hx hb dX12_rowMany_13 rfl (lv_at hl 0 rfl) ?_
          refine lv_aload_n (pc := 14) hx hb dX12_rowMany_14 rfl (lv_at hl 2 rfl) ?_
          refine va_get (pc := 15) (ci := 12) (v := .int x9) (C := RX12) (T := TX12) (N := 73) hx hb hts iX12 hown hK hP 0 rfl rfl 25 (by decide) (hts _ tw_1426) (fun _ h9 => h9) rfl dX12_rowMany_15 ?_
          refine b_icmp_ge (pc := 18) (tgt := 34) hx hb rfl rfl  dX12_rowMany_18 (by decide) (fun c_7 => ?_) (fun c_7 => ?_)
          ·
            as_aux_lemma =>
              refine lv_iload_n (pc := 34) hx hb dX12_rowMany_34 rfl (lv_at hl 1 rfl) ?_
              have hP9 : va_P D gcl (zS_4 cB cC cI cJ a0 a1 x0 x1 x2 x3 x4 x5 x6 x7 a2 a3 a4 a5 a6 a7 a8 a9 a10 a11 a12 a13 a14 a15 a16 x8 x9 x10 x11 x12 x13 a17 a18 a19 x14 a20 x15 a21 x16 x17 a22 a23 a24 a25 x18 a26 x19 a27 a28 a29 y0 a30 a31 a32 a33 a34 a35 a36 a37 a38 x20 x21 x22 y1 a39 x23 a40 a41 a42 a43 x24 x25 x26 x27) H := g_psub hP [0] rfl
              have hD9 : va_D A (zS_4 cB cC cI cJ a0 a1 x0 x1 x2 x3 x4 x5 x6 x7 a2 a3 a4 a5 a6 a7 a8 a9 a10 a11 a12 a13 a14 a15 a16 x8 x9 x10 x11 x12 x13 a17 a18 a19 x14 a20 x15 a21 x16 x17 a22 a23 a24 a25 x18 a26 x19 a27 a28 a29 y0 a30 a31 a32 a33 a34 a35 a36 a37 a38 x20 x21 x22 y1 a39 x23 a40 a41 a42 a43 x24 x25 x26 x27) := hD.sub [0] (by decide) rfl
              exact hret x_4 ((fun _ => 0), (fun _ => (fun _ => 0)), (fun _ => (fun _ => 0)), (fun _ => 0), (fun _ => 0)) dX12_rowMany_35 (show ((((-2147483648) ≤ x_4.toInt ∧ x_4.toInt ≤ 2147483647) ∧ ¬ x9.toInt = 0 ∧ (1 ≤ x9.toInt ∧ x9.toInt ≤ 5)) ∨ (x_4.toInt = 0 ∧ x9.toInt = 0)) from (by first | exact (om_1604 hi_5.1 h_x9.1 hi_5.2 c_1 h_x9.2) | ((first | omega | (unfold zBd at *; omega))))) hP9 hD9 hS
          ·
            as_aux_lemma =>
              refine lv_iload_n (pc := 21) hx hb dX12_rowMany_21 rfl (lv_at hl 1 rfl) ?_
              refine lv_aload_n (pc := 22) hx hb dX12_rowMany_22 rfl (lv_at hl 2 rfl) ?_
              refine va_get (pc := 23) (ci := 12) (v := .int x8) (C := RX12) (T := TX12) (N := 73) hx hb hts iX12 hown hK hP 0 rfl rfl 24 (by decide) (hts _ tw_1425) (fun _ h9 => h9) rfl dX12_rowMany_23 ?_
              have bd_h_x8 : 0 ≤ x8.toInt ∧ x8.toInt ≤ 8 := h_x8
              refine lv_imul (pc := 26) hx hb dX12_rowMany_26 ?_
              refine lv_topi (fun x_8 _ => ?_)
              have rx_8 : zBd x_8.toInt (-2147483648) 2147483647 := n_rng x_8
              refine lv_istore_n (pc := 27) (lv' := [(1, .int x_8), (2, .int x_2), (0, .ref a0)]) hx hb dX12_rowMany_27 rfl hl (by decide) rfl (fun ls hl => ?_)
              refine b_iinc (pc := 28) hx hb dX12_rowMany_28 hl (k := 1) rfl rfl tI_1 (by first | exact (om_2 hi_3.1) | ((first | omega | (unfold zBd at *; omega)))) (by first | exact (om_338 c_7 h_x9.2) | ((first | omega | (unfold zBd at *; omega)))) (by decide) (fun x_9 ex_9 ls hl => ?_)
              replace hl : lv_has ls 3 [(2, .int x_9), (1, .int x_8), (0, .ref a0)] := hl
              refine lv_goto (pc := 31) (tgt := 13) hx hb dX12_rowMany_31 (by decide) ?_
              exact ih_lp_6 x_9 x_8 _ _ ls (by first | exact (om_339 ex_9 hi_3.1 c_7 h_x9.2) | ((first | omega | (unfold zBd at *; omega)))) (by (first | omega | (unfold zBd at *; omega))) hP hD hS (lv_sub hl [0, 1, 2] rfl)
      exact lp_6 _ 0 1 _ _ ls (n_c tI_0 (by decide)) (Nat.lt_succ_self _) hP hD hS (lv_sub hl [0, 1, 2] rfl)
  ·
    as_aux_lemma =>
      refine lv_iconst (pc := 7) (v := 0) hx hb dX12_rowMany_7 (by decide) ?_
      have hP9 : va_P D gcl (zS_4 cB cC cI cJ a0 a1 x0 x1 x2 x3 x4 x5 x6 x7 a2 a3 a4 a5 a6 a7 a8 a9 a10 a11 a12 a13 a14 a15 a16 x8 x9 x10 x11 x12 x13 a17 a18 a19 x14 a20 x15 a21 x16 x17 a22 a23 a24 a25 x18 a26 x19 a27 a28 a29 y0 a30 a31 a32 a33 a34 a35 a36 a37 a38 x20 x21 x22 y1 a39 x23 a40 a41 a42 a43 x24 x25 x26 x27) s.heap := g_psub hP [0] rfl
      have hD9 : va_D A (zS_4 cB cC cI cJ a0 a1 x0 x1 x2 x3 x4 x5 x6 x7 a2 a3 a4 a5 a6 a7 a8 a9 a10 a11 a12 a13 a14 a15 a16 x8 x9 x10 x11 x12 x13 a17 a18 a19 x14 a20 x15 a21 x16 x17 a22 a23 a24 a25 x18 a26 x19 a27 a28 a29 y0 a30 a31 a32 a33 a34 a35 a36 a37 a38 x20 x21 x22 y1 a39 x23 a40 a41 a42 a43 x24 x25 x26 x27) := hD.sub [0] (by decide) rfl
      exact hret 0 ((fun _ => 0), (fun _ => (fun _ => 0)), (fun _ => (fun _ => 0)), (fun _ => 0), (fun _ => 0)) dX12_rowMany_8 (show ((((-2147483648) ≤ (0 : Int32).toInt ∧ (0 : Int32).toInt ≤ 2147483647) ∧ ¬ x9.toInt = 0 ∧ (1 ≤ x9.toInt ∧ x9.toInt ≤ 5)) ∨ ((0 : Int32).toInt = 0 ∧ x9.toInt = 0)) from (by first | exact (om_1605 tI_0 c_1) | (have k9 := tI_0; (first | omega | (unfold zBd at *; omega))))) hP9 hD9 hS
theorem om_1606 {a : Int} (h0 : (a < 0)) : (a + 1 ≤ 0) := by omega
theorem om_1607 {a b c : Int} (h0 : (b = 0 ∨ 2 ≤ a)) (h1 : (c + 1 ≤ b)) (h2 : (c ≥ 0)) : (2 ≤ a) := by omega
theorem om_1608 {a : Int} (h0 : (2 ≤ a)) : (0 < a) := by omega
theorem om_1609 {a b : Int} (h0 : (-b < a)) (h1 : (b ≤ 8)) (h2 : (a < b)) : (((-7) ≤ a ∧ a ≤ 7)) := by omega
theorem om_1610 {a : Int} (h0 : ((-7) ≤ a)) : (-2147483648 ≤ 2 * a) := by omega
theorem om_1611 {a b c : Int} (h0 : (a = 2 * c)) (h1 : (-b < c)) (h2 : (b ≤ 8)) : (-2147483648 ≤ a - b) := by omega
theorem om_1612 {a b c : Int} (h0 : (a = 2 * c)) (h1 : (c < b)) (h2 : (b ≤ 8)) : (a - b ≤ 2147483647) := by omega
theorem om_1613 {a b c d : Int} (h0 : (a = b - c)) (h1 : (b = 2 * d)) (h2 : (-c < d)) (h3 : (c ≤ 8)) : (-2147483648 ≤ a + 1) := by omega
theorem om_1614 {a b c d : Int} (h0 : (a = b - c)) (h1 : (b = 2 * d)) (h2 : (d < c)) (h3 : (c ≤ 8)) : (a + 1 ≤ 2147483647) := by omega
theorem om_1615 {a b : Int} (h0 : (a = b + (-1))) (h1 : (b ≥ 0)) (h2 : (b ≤ 4)) : (((-1) ≤ a ∧ a ≤ 4)) := by omega
theorem om_1616 {a b : Int} (h0 : (b = a + (-1))) : (a ≤ b + 1) := by omega
theorem om_1617 {a b : Int} (h0 : (a = b - 1)) (h1 : (0 ≤ b)) (h2 : (b ≤ 5)) : (((-1) ≤ a ∧ a ≤ 4)) := by omega
set_option maxHeartbeats 4000000 in
set_option maxRecDepth 100000 in
theorem k_X12_rowIs (l : Launch) (D : va_G) (cB cC cI cJ : ClassId) (sz : Nat) (a0 a1 a2 a3 a4 a5 a6 a7 a8 a9 a10 a11 a12 a13 a14 a15 a16 a17 a18 a19 a20 a21 a22 a23 a24 a25 a26 a27 a28 a29 a30 a31 a32 a33 a34 a35 a36 a37 a38 a39 a40 a41 a42 a43 : Nat) (x0 x1 x2 x3 x4 x5 x6 x7 x8 x9 x10 x11 x12 x13 x14 x15 x16 x17 x18 x19 x20 x21 x22 x23 x24 x25 x26 x27 x28 : Int32) (y0 y1 : Int64) (f0 : Nat → Int32) (h_x1 : zBd x1.toInt 0 1600) (h_x2 : zBd x2.toInt 0 1600) (h_x3 : zBd x3.toInt 0 1600) (h_x4 : zBd x4.toInt (-1) 1600) (h_x5 : zBd x5.toInt 0 4) (h_x6 : zBd x6.toInt (-1) 1600) (h_x9 : zBd x9.toInt 0 8) (h_x10 : zBd x10.toInt 0 5) (h_x11 : zBd x11.toInt 0 6) (h_x12 : zBd x12.toInt 0 6) (h_x13 : zBd x13.toInt 0 16) (h_x15 : zBd x15.toInt 0 60) (h_x16 : zBd x16.toInt 0 1600) (h_x17 : zBd x17.toInt 0 1700) (h_x19 : zBd x19.toInt 0 1700) (h_x20 : zBd x20.toInt 0 1700) (h_x21 : zBd x21.toInt 0 200) (h_x22 : zBd x22.toInt 0 40) (h_x23 : zBd x23.toInt 0 40) (h_x24 : zBd x24.toInt 0 1) (h_x25 : zBd x25.toInt 0 14) (h_x26 : zBd x26.toInt 0 200) (h_x27 : zBd x27.toInt 0 40) (h_x28 : zBd x28.toInt 0 40) (hr_a0_0 : (x22.toInt ≤ x21.toInt)) (hr_a0_1 : (x21.toInt + x23.toInt ≤ 200)) (hr_a0_2 : (x10.toInt = 0 ∨ 2 ≤ x9.toInt)) : Met l yX12_rowIs (.code yX12_rowIs cX12_rowIs 4 none :: lw_gd) ({ frames := 0, cells := 0, slots := 0, locals := 0 }) (gPre D [(cB, .byte), (cC, .char), (cI, .int), (cJ, .long)] [.ref a0, .int x0] (zS_33 cB cC cI cJ a0 a1 x1 x2 x3 x4 x5 x6 x7 x8 a2 a3 a4 a5 a6 a7 a8 a9 a10 a11 a12 a13 a14 a15 a16 x9 x10 x11 x12 x13 x14 a17 a18 a19 x15 a20 x16 a21 x17 x18 a22 a23 a24 a25 x19 a26 x20 a27 a28 a29 y0 a30 a31 a32 a33 a34 a35 a36 a37 a38 x21 x22 x23 y1 a39 x24 a40 a41 a42 a43 x25 x26 x27 x28 a29 f0) sz) (va_Qv (fun u => (RB (u.2.1 0) 0 x10.toInt)) (gB D (va_A (zS_33 cB cC cI cJ a0 a1 x1 x2 x3 x4 x5 x6 x7 x8 a2 a3 a4 a5 a6 a7 a8 a9 a10 a11 a12 a13 a14 a15 a16 x9 x10 x11 x12 x13 x14 a17 a18 a19 x15 a20 x16 a21 x17 x18 a22 a23 a24 a25 x19 a26 x20 a27 a28 a29 y0 a30 a31 a32 a33 a34 a35 a36 a37 a38 x21 x22 x23 y1 a39 x24 a40 a41 a42 a43 x25 x26 x27 x28 a29 f0) sz) (fun u : gEx => (zS_33 cB cC cI cJ a0 a1 x1 x2 x3 x4 x5 x6 x7 x8 a2 a3 a4 a5 a6 a7 a8 a9 a10 a11 a12 a13 a14 a15 a16 x9 x10 x11 x12 x13 x14 a17 a18 a19 x15 a20 x16 a21 x17 x18 a22 a23 a24 a25 x19 a26 x20 a27 a28 a29 y0 a30 a31 a32 a33 a34 a35 a36 a37 a38 x21 x22 x23 y1 a39 x24 a40 a41 a42 a43 x25 x26 x27 x28 a29 (u.2.1 0)))) (va_A (zS_33 cB cC cI cJ a0 a1 x1 x2 x3 x4 x5 x6 x7 x8 a2 a3 a4 a5 a6 a7 a8 a9 a10 a11 a12 a13 a14 a15 a16 x9 x10 x11 x12 x13 x14 a17 a18 a19 x15 a20 x16 a21 x17 x18 a22 a23 a24 a25 x19 a26 x20 a27 a28 a29 y0 a30 a31 a32 a33 a34 a35 a36 a37 a38 x21 x22 x23 y1 a39 x24 a40 a41 a42 a43 x25 x26 x27 x28 a29 f0) sz)) 0 0 (va_A (zS_33 cB cC cI cJ a0 a1 x1 x2 x3 x4 x5 x6 x7 x8 a2 a3 a4 a5 a6 a7 a8 a9 a10 a11 a12 a13 a14 a15 a16 x9 x10 x11 x12 x13 x14 a17 a18 a19 x15 a20 x16 a21 x17 x18 a22 a23 a24 a25 x19 a26 x20 a27 a28 a29 y0 a30 a31 a32 a33 a34 a35 a36 a37 a38 x21 x22 x23 y1 a39 x24 a40 a41 a42 a43 x25 x26 x27 x28 a29 f0) sz) := by
  refine gOf_v (by decide +kernel) (Nat.le_of_ble_eq_true rfl) ?_
  intro p e s m args below meth c ls A Q hx hb hts hown hml hN hK hP hD hA hl hret
  replace hown : s.vm.findClass RX12 = some m.cls := hown
  have hS : va_S A s.heap s.heap [] := va_S.rf
  replace hP : va_P D gcl (zS_33 cB cC cI cJ a0 a1 x1 x2 x3 x4 x5 x6 x7 x8 a2 a3 a4 a5 a6 a7 a8 a9 a10 a11 a12 a13 a14 a15 a16 x9 x10 x11 x12 x13 x14 a17 a18 a19 x15 a20 x16 a21 x17 x18 a22 a23 a24 a25 x19 a26 x20 a27 a28 a29 y0 a30 a31 a32 a33 a34 a35 a36 a37 a38 x21 x22 x23 y1 a39 x24 a40 a41 a42 a43 x25 x26 x27 x28 a29 f0) s.heap := hP
  replace hl : lv_has ls 4 [(0, .ref a0), (1, .int x0)] := hl
  have rx0 : zBd x0.toInt (-2147483648) 2147483647 := n_rng x0
  have rx7 : zBd x7.toInt (-2147483648) 2147483647 := n_rng x7
  have rx8 : zBd x8.toInt (-2147483648) 2147483647 := n_rng x8
  have rx14 : zBd x14.toInt (-2147483648) 2147483647 := n_rng x14
  have rx18 : zBd x18.toInt (-2147483648) 2147483647 := n_rng x18
  have ry0 := n_rngL y0
  have ry1 := n_rngL y1
  refine lv_iload_n (pc := 0) hx hb dX12_rowIs_0 rfl (lv_at hl 1 rfl) ?_
  refine lv_istore_n (pc := 1) (lv' := [(2, .int x0), (0, .ref a0), (1, .int x0)]) hx hb dX12_rowIs_1 rfl hl (by decide) rfl (fun ls hl => ?_)
  refine lv_aload_n (pc := 2) hx hb dX12_rowIs_2 rfl (lv_at hl 1 rfl) ?_
  refine va_get (pc := 3) (ci := 12) (v := .int x10) (C := RX12) (T := TX12) (N := 73) hx hb hts iX12 hown hK hP 0 rfl rfl 25 (by decide) (hts _ tw_1426) (fun _ h9 => h9) rfl dX12_rowIs_3 ?_
  have bd_h_x10 : 0 ≤ x10.toInt ∧ x10.toInt ≤ 5 := h_x10
  refine lv_iconst (pc := 6) (v := 1) hx hb dX12_rowIs_6 (by decide) ?_
  refine b_isub (pc := 7) hx hb rfl tI_1 (by first | exact (om_659 h_x10.1) | ((first | omega | (unfold zBd at *; omega)))) (by first | exact (om_207 h_x10.2) | ((first | omega | (unfold zBd at *; omega)))) dX12_rowIs_7 (fun x_1 ex_1 => ?_)
  refine lv_istore_n (pc := 8) (lv' := [(3, .int x_1), (2, .int x0), (0, .ref a0), (1, .int x0)]) hx hb dX12_rowIs_8 rfl hl (by decide) rfl (fun ls hl => ?_)
  have lp_9 : ∀ (n : Nat) (x_2 x_4 : Int32) (f_6 : Nat → Int32) (H : Heap) (locs : List Loc) (ls : Array Slot), ((-1) ≤ x_2.toInt ∧ x_2.toInt ≤ 4) → (x_2.toInt + 1 ≤ x10.toInt) → (RB f_6 (x_2.toInt + 1) x10.toInt) → (x_2.toInt + 2147483648).toNat < n → va_P D gcl (zS_33 cB cC cI cJ a0 a1 x1 x2 x3 x4 x5 x6 x7 x8 a2 a3 a4 a5 a6 a7 a8 a9 a10 a11 a12 a13 a14 a15 a16 x9 x10 x11 x12 x13 x14 a17 a18 a19 x15 a20 x16 a21 x17 x18 a22 a23 a24 a25 x19 a26 x20 a27 a28 a29 y0 a30 a31 a32 a33 a34 a35 a36 a37 a38 x21 x22 x23 y1 a39 x24 a40 a41 a42 a43 x25 x26 x27 x28 a29 f_6) H → va_D A (zS_33 cB cC cI cJ a0 a1 x1 x2 x3 x4 x5 x6 x7 x8 a2 a3 a4 a5 a6 a7 a8 a9 a10 a11 a12 a13 a14 a15 a16 x9 x10 x11 x12 x13 x14 a17 a18 a19 x15 a20 x16 a21 x17 x18 a22 a23 a24 a25 x19 a26 x20 a27 a28 a29 y0 a30 a31 a32 a33 a34 a35 a36 a37 a38 x21 x22 x23 y1 a39 x24 a40 a41 a42 a43 x25 x26 x27 x28 a29 f_6) → va_S A s.heap H locs → lv_has ls 4 [(3, .int x_2), (2, .int x_4), (0, .ref a0), (1, .int x0)] → W p l e ({ frames := 0, cells := 0, slots := 0, locals := 0 }) s m args below meth c H locs 0 0 Q (F0 m 9 ls []) := by
    intro n
    induction n with
    | zero => intro x_2 x_4 f_6 H locs ls hi_3 hi_7 hi_8 hmu; exact absurd hmu (Nat.not_lt_zero _)
    | succ n ih_lp_9 =>
      intro x_2 x_4 f_6 H locs ls hi_3 hi_7 hi_8 hmu_lp_9 hP hD hS hl
      have hi_5 := n_rng x_4
      refine lv_iload_n (pc := 9) hx hb dX12_rowIs_9 rfl (lv_at hl 0 rfl) ?_
      refine b_if_lt (pc := 10) (tgt := 47) hx hb rfl  dX12_rowIs_10 (by decide) (fun c_10 => ?_) (fun c_10 => ?_)
      ·
        as_aux_lemma =>
          have hP9 : va_P D gcl (zS_33 cB cC cI cJ a0 a1 x1 x2 x3 x4 x5 x6 x7 x8 a2 a3 a4 a5 a6 a7 a8 a9 a10 a11 a12 a13 a14 a15 a16 x9 x10 x11 x12 x13 x14 a17 a18 a19 x15 a20 x16 a21 x17 x18 a22 a23 a24 a25 x19 a26 x20 a27 a28 a29 y0 a30 a31 a32 a33 a34 a35 a36 a37 a38 x21 x22 x23 y1 a39 x24 a40 a41 a42 a43 x25 x26 x27 x28 a29 f_6) H := g_psub hP [0, 1] rfl
          have hD9 : va_D A (zS_33 cB cC cI cJ a0 a1 x1 x2 x3 x4 x5 x6 x7 x8 a2 a3 a4 a5 a6 a7 a8 a9 a10 a11 a12 a13 a14 a15 a16 x9 x10 x11 x12 x13 x14 a17 a18 a19 x15 a20 x16 a21 x17 x18 a22 a23 a24 a25 x19 a26 x20 a27 a28 a29 y0 a30 a31 a32 a33 a34 a35 a36 a37 a38 x21 x22 x23 y1 a39 x24 a40 a41 a42 a43 x25 x26 x27 x28 a29 f_6) := hD.sub [0, 1] (by decide) rfl
          exact hret ((fun _ => 0), (fun k => [f_6].getD k (fun _ => 0)), (fun _ => (fun _ => 0)), (fun _ => 0), (fun _ => 0)) dX12_rowIs_47 (show RB f_6 0 x10.toInt from RB_sub hi_8 (by first | exact (om_1606 c_10) | ((first | omega | (unfold zBd at *; omega)))) (by first | exact (om_81) | ((first | omega | (unfold zBd at *; omega))))) hP9 hD9 hS
      ·
        as_aux_lemma =>
          have hh_11 : 2 ≤ x9.toInt := (by first | exact (om_1607 hr_a0_2 hi_7 c_10) | ((first | omega | (unfold zBd at *; omega))))
          refine lv_aload_n (pc := 13) hx hb dX12_rowIs_13 rfl (lv_at hl 2 rfl) ?_
          refine va_get (pc := 14) (ci := 12) (v := .ref a29) (C := RX12) (T := TX12) (N := 73) hx hb hts iX12 hown hK hP 0 rfl rfl 48 (by decide) (hts _ tw_1449) (fun _ h9 => h9) rfl dX12_rowIs_14 ?_
          refine lv_iload_n (pc := 17) hx hb dX12_rowIs_17 rfl (lv_at hl 0 rfl) ?_
          refine lv_iconst (pc := 18) (v := 2) hx hb dX12_rowIs_18 (by decide) ?_
          refine lv_iload_n (pc := 19) hx hb dX12_rowIs_19 rfl (lv_at hl 1 rfl) ?_
          refine lv_aload_n (pc := 20) hx hb dX12_rowIs_20 rfl (lv_at hl 2 rfl) ?_
          refine va_get (pc := 21) (ci := 12) (v := .int x9) (C := RX12) (T := TX12) (N := 73) hx hb hts iX12 hown hK hP 0 rfl rfl 24 (by decide) (hts _ tw_1425) (fun _ h9 => h9) rfl dX12_rowIs_21 ?_
          have bd_h_x9 : 0 ≤ x9.toInt ∧ x9.toInt ≤ 8 := h_x9
          refine b_irem (pc := 24) hx hb rfl rfl (by first | exact (om_1608 hh_11) | ((first | omega | (unfold zBd at *; omega)))) dX12_rowIs_24 (fun x_12 ex_12 => ?_)
          have rx_12 : ((-7) ≤ x_12.toInt ∧ x_12.toInt ≤ 7) := (by first | exact (om_1609 ex_12.1 h_x9.2 ex_12.2.1) | ((first | omega | (unfold zBd at *; omega))))
          refine b_imul (pc := 25) hx hb tI_2 rfl (by first | exact (om_1610 rx_12.1) | ((first | omega | (unfold zBd at *; omega)))) (by first | exact (om_1208 rx_12.2) | ((first | omega | (unfold zBd at *; omega)))) dX12_rowIs_25 (fun x_13 ex_13 => ?_)
          refine lv_aload_n (pc := 26) hx hb dX12_rowIs_26 rfl (lv_at hl 2 rfl) ?_
          as_aux_lemma =>
            refine va_get (pc := 27) (ci := 12) (v := .int x9) (C := RX12) (T := TX12) (N := 73) hx hb hts iX12 hown hK hP 0 rfl rfl 24 (by decide) (hts _ tw_1425) (fun _ h9 => h9) rfl dX12_rowIs_27 ?_
            refine b_isub (pc := 30) hx hb rfl rfl (by first | exact (om_1611 ex_13 ex_12.1 h_x9.2) | ((first | omega | (unfold zBd at *; omega)))) (by first | exact (om_1612 ex_13 ex_12.2.1 h_x9.2) | ((first | omega | (unfold zBd at *; omega)))) dX12_rowIs_30 (fun x_14 ex_14 => ?_)
            refine lv_iconst (pc := 31) (v := 1) hx hb dX12_rowIs_31 (by decide) ?_
            refine b_iadd (pc := 32) hx hb rfl tI_1 (by first | exact (om_1613 ex_14 ex_13 ex_12.1 h_x9.2) | ((first | omega | (unfold zBd at *; omega)))) (by first | exact (om_1614 ex_14 ex_13 ex_12.2.1 h_x9.2) | ((first | omega | (unfold zBd at *; omega)))) dX12_rowIs_32 (fun x_15 ex_15 => ?_)
            refine e_iastore (pc := 33) hx hb hK hP hD hS 1 2 rfl rfl (n_in rfl (by first | exact (om_10 c_10) | ((first | omega | (unfold zBd at *; omega)))) (by first | exact (om_1135 hi_3.2) | ((first | omega | (unfold zBd at *; omega))))) dX12_rowIs_33 (fun f_16 ef_16 H locs hP hD hS => ?_)
            replace hP : va_P D gcl (zS_33 cB cC cI cJ a0 a1 x1 x2 x3 x4 x5 x6 x7 x8 a2 a3 a4 a5 a6 a7 a8 a9 a10 a11 a12 a13 a14 a15 a16 x9 x10 x11 x12 x13 x14 a17 a18 a19 x15 a20 x16 a21 x17 x18 a22 a23 a24 a25 x19 a26 x20 a27 a28 a29 y0 a30 a31 a32 a33 a34 a35 a36 a37 a38 x21 x22 x23 y1 a39 x24 a40 a41 a42 a43 x25 x26 x27 x28 a29 f_16) H := hP
            replace hD : va_D A (zS_33 cB cC cI cJ a0 a1 x1 x2 x3 x4 x5 x6 x7 x8 a2 a3 a4 a5 a6 a7 a8 a9 a10 a11 a12 a13 a14 a15 a16 x9 x10 x11 x12 x13 x14 a17 a18 a19 x15 a20 x16 a21 x17 x18 a22 a23 a24 a25 x19 a26 x20 a27 a28 a29 y0 a30 a31 a32 a33 a34 a35 a36 a37 a38 x21 x22 x23 y1 a39 x24 a40 a41 a42 a43 x25 x26 x27 x28 a29 f_16) := hD
            refine lv_iload_n (pc := 34) hx hb dX12_rowIs_34 rfl (lv_at hl 1 rfl) ?_
            refine lv_aload_n (pc := 35) hx hb dX12_rowIs_35 rfl (lv_at hl 2 rfl) ?_
            refine va_get (pc := 36) (ci := 12) (v := .int x9) (C := RX12) (T := TX12) (N := 73) hx hb hts iX12 hown hK hP 0 rfl rfl 24 (by decide) (hts _ tw_1425) (fun _ h9 => h9) rfl dX12_rowIs_36 ?_
            refine lv_idiv (pc := 39) hx hb dX12_rowIs_39 (fun h => by have q := congrArg Int32.toInt h; have k := tI_0; (first | omega | (unfold zBd at *; omega))) ?_
            refine lv_topi (fun x_17 _ => ?_)
            have rx_17 : zBd x_17.toInt (-2147483648) 2147483647 := n_rng x_17
            as_aux_lemma =>
              refine lv_istore_n (pc := 40) (lv' := [(2, .int x_17), (3, .int x_2), (0, .ref a0), (1, .int x0)]) hx hb dX12_rowIs_40 rfl hl (by decide) rfl (fun ls hl => ?_)
              refine b_iinc (pc := 41) hx hb dX12_rowIs_41 hl (k := 1) rfl rfl tI_m1 (by first | exact (om_1171 c_10) | ((first | omega | (unfold zBd at *; omega)))) (by first | exact (om_1260 hi_3.2) | ((first | omega | (unfold zBd at *; omega)))) (by decide) (fun x_18 ex_18 ls hl => ?_)
              replace hl : lv_has ls 4 [(3, .int x_18), (2, .int x_17), (0, .ref a0), (1, .int x0)] := hl
              refine lv_goto (pc := 44) (tgt := 9) hx hb dX12_rowIs_44 (by decide) ?_
              exact ih_lp_9 x_18 x_17 f_16 _ _ ls (by first | exact (om_1615 ex_18 c_10 hi_3.2) | ((first | omega | (unfold zBd at *; omega)))) (by first | exact (om_669 ex_18 hi_7) | ((first | omega | (unfold zBd at *; omega)))) (RB_sub (RB_dn hi_8 ef_16 rfl (by first | exact (om_10 c_10) | ((first | omega | (unfold zBd at *; omega)))) (by (first | omega | (unfold zBd at *; omega))) rfl) (by first | exact (om_1616 ex_18) | ((first | omega | (unfold zBd at *; omega)))) (by first | exact (om_81) | ((first | omega | (unfold zBd at *; omega))))) (by (first | omega | (unfold zBd at *; omega))) hP hD hS (lv_sub hl [0, 1, 2, 3] rfl)
  exact lp_9 _ x_1 x0 f0 _ _ ls (by first | exact (om_1617 ex_1 h_x10.1 h_x10.2) | ((first | omega | (unfold zBd at *; omega)))) (by first | exact (om_675 ex_1) | ((first | omega | (unfold zBd at *; omega)))) (RB_nil (by first | exact (om_676 ex_1) | ((first | omega | (unfold zBd at *; omega))))) (Nat.lt_succ_self _) hP hD hS (lv_sub hl [0, 1, 2, 3] rfl)
set_option maxHeartbeats 4000000 in
set_option maxRecDepth 100000 in
theorem k_X12_distanceOf (l : Launch) (D : va_G) (cB cC cI cJ : ClassId) (sz : Nat) (a0 a1 a2 a3 a4 a5 a6 a7 a8 a9 a10 a11 a12 a13 a14 a15 a16 a17 a18 a19 a20 a21 a22 a23 a24 a25 a26 a27 a28 a29 a30 a31 a32 a33 a34 a35 a36 a37 a38 a39 a40 a41 a42 a43 : Nat) (x0 x1 x2 x3 x4 x5 x6 x7 x8 x9 x10 x11 x12 x13 x14 x15 x16 x17 x18 x19 x20 x21 x22 x23 x24 x25 x26 x27 x28 : Int32) (y0 y1 : Int64) (f0 f1 f2 : Nat → Int32) (h_x1 : zBd x1.toInt 0 1600) (h_x2 : zBd x2.toInt 0 1600) (h_x3 : zBd x3.toInt 0 1600) (h_x4 : zBd x4.toInt (-1) 1600) (h_x5 : zBd x5.toInt 0 4) (h_x6 : zBd x6.toInt (-1) 1600) (h_x9 : zBd x9.toInt 0 8) (h_x10 : zBd x10.toInt 0 5) (h_x11 : zBd x11.toInt 0 6) (h_x12 : zBd x12.toInt 0 6) (h_x13 : zBd x13.toInt 0 16) (h_x15 : zBd x15.toInt 0 60) (h_x16 : zBd x16.toInt 0 1600) (h_x17 : zBd x17.toInt 0 1700) (h_x19 : zBd x19.toInt 0 1700) (h_x20 : zBd x20.toInt 0 1700) (h_x21 : zBd x21.toInt 0 200) (h_x22 : zBd x22.toInt 0 40) (h_x23 : zBd x23.toInt 0 40) (h_x24 : zBd x24.toInt 0 1) (h_x25 : zBd x25.toInt 0 14) (h_x26 : zBd x26.toInt 0 200) (h_x27 : zBd x27.toInt 0 40) (h_x28 : zBd x28.toInt 0 40) (hr_a0_0 : (x22.toInt ≤ x21.toInt)) (hr_a0_1 : (x21.toInt + x23.toInt ≤ 200)) (hr_a0_2 : (x10.toInt = 0 ∨ 2 ≤ x9.toInt)) (hf_f1 : (∀ j, (-9999) ≤ (f1 j).toInt ∧ (f1 j).toInt ≤ 9999)) (hf_f2 : (∀ j, (-1100000) ≤ (f2 j).toInt ∧ (f2 j).toInt ≤ 1100000)) : Met l yX12_distanceOf (.code yX12_distanceOf cX12_distanceOf 2 (some .long) :: lw_gd) ({ frames := 2, cells := 0, slots := 0, locals := 49 }) (gPre D [(cB, .byte), (cC, .char), (cI, .int), (cJ, .long)] [.ref a0, .int x0] (zS_12 cB cC cI cJ a0 a1 x1 x2 x3 x4 x5 x6 x7 x8 a2 a3 a4 a5 a6 a7 a8 a9 a10 a11 a12 a13 a14 a15 a16 x9 x10 x11 x12 x13 x14 a17 a18 a19 x15 a20 x16 a21 x17 x18 a22 a23 a24 a25 x19 a26 x20 a27 a28 a29 y0 a30 a31 a32 a33 a34 a35 a36 a37 a38 x21 x22 x23 y1 a39 x24 a40 a41 a42 a43 x25 x26 x27 x28 a29 f0 a18 f1 a28 f2) sz) (va_Ql (fun r u => ((((-9223372036854775808) ≤ r.toInt ∧ r.toInt ≤ 9223372036854775807)))) (gB D (va_A (zS_12 cB cC cI cJ a0 a1 x1 x2 x3 x4 x5 x6 x7 x8 a2 a3 a4 a5 a6 a7 a8 a9 a10 a11 a12 a13 a14 a15 a16 x9 x10 x11 x12 x13 x14 a17 a18 a19 x15 a20 x16 a21 x17 x18 a22 a23 a24 a25 x19 a26 x20 a27 a28 a29 y0 a30 a31 a32 a33 a34 a35 a36 a37 a38 x21 x22 x23 y1 a39 x24 a40 a41 a42 a43 x25 x26 x27 x28 a29 f0 a18 f1 a28 f2) sz) (fun u : gEx => (zS_12 cB cC cI cJ a0 a1 x1 x2 x3 x4 x5 x6 x7 x8 a2 a3 a4 a5 a6 a7 a8 a9 a10 a11 a12 a13 a14 a15 a16 x9 x10 x11 x12 x13 x14 a17 a18 a19 x15 a20 x16 a21 x17 x18 a22 a23 a24 a25 x19 a26 x20 a27 a28 a29 y0 a30 a31 a32 a33 a34 a35 a36 a37 a38 x21 x22 x23 y1 a39 x24 a40 a41 a42 a43 x25 x26 x27 x28 a29 (u.2.1 0) a18 f1 a28 f2))) (va_A (zS_12 cB cC cI cJ a0 a1 x1 x2 x3 x4 x5 x6 x7 x8 a2 a3 a4 a5 a6 a7 a8 a9 a10 a11 a12 a13 a14 a15 a16 x9 x10 x11 x12 x13 x14 a17 a18 a19 x15 a20 x16 a21 x17 x18 a22 a23 a24 a25 x19 a26 x20 a27 a28 a29 y0 a30 a31 a32 a33 a34 a35 a36 a37 a38 x21 x22 x23 y1 a39 x24 a40 a41 a42 a43 x25 x26 x27 x28 a29 f0 a18 f1 a28 f2) sz)) 0 0 (va_A (zS_12 cB cC cI cJ a0 a1 x1 x2 x3 x4 x5 x6 x7 x8 a2 a3 a4 a5 a6 a7 a8 a9 a10 a11 a12 a13 a14 a15 a16 x9 x10 x11 x12 x13 x14 a17 a18 a19 x15 a20 x16 a21 x17 x18 a22 a23 a24 a25 x19 a26 x20 a27 a28 a29 y0 a30 a31 a32 a33 a34 a35 a36 a37 a38 x21 x22 x23 y1 a39 x24 a40 a41 a42 a43 x25 x26 x27 x28 a29 f0 a18 f1 a28 f2) sz) := by
  refine gOf_l (by decide +kernel) (Nat.le_of_ble_eq_true rfl) ?_
  intro p e s m args below meth c ls A Q hx hb hts hown hml hN hK hP hD hA hl hret
  replace hown : s.vm.findClass RX12 = some m.cls := hown
  have hS : va_S A s.heap s.heap [] := va_S.rf
  replace hP : va_P D gcl (zS_12 cB cC cI cJ a0 a1 x1 x2 x3 x4 x5 x6 x7 x8 a2 a3 a4 a5 a6 a7 a8 a9 a10 a11 a12 a13 a14 a15 a16 x9 x10 x11 x12 x13 x14 a17 a18 a19 x15 a20 x16 a21 x17 x18 a22 a23 a24 a25 x19 a26 x20 a27 a28 a29 y0 a30 a31 a32 a33 a34 a35 a36 a37 a38 x21 x22 x23 y1 a39 x24 a40 a41 a42 a43 x25 x26 x27 x28 a29 f0 a18 f1 a28 f2) s.heap := hP
  replace hl : lv_has ls 2 [(0, .ref a0), (1, .int x0)] := hl
  have rx0 : zBd x0.toInt (-2147483648) 2147483647 := n_rng x0
  have rx7 : zBd x7.toInt (-2147483648) 2147483647 := n_rng x7
  have rx8 : zBd x8.toInt (-2147483648) 2147483647 := n_rng x8
  have rx14 : zBd x14.toInt (-2147483648) 2147483647 := n_rng x14
  have rx18 : zBd x18.toInt (-2147483648) 2147483647 := n_rng x18
  have ry0 := n_rngL y0
  have ry1 := n_rngL y1
  refine lv_aload_n (pc := 0) hx hb dX12_distanceOf_0 rfl (lv_at hl 0 rfl) ?_
  refine lv_iload_n (pc := 1) hx hb dX12_distanceOf_1 rfl (lv_at hl 1 rfl) ?_
  refine gd_v (pc := 2) (wc := (zS_33 cB cC cI cJ a0 a1 x1 x2 x3 x4 x5 x6 x7 x8 a2 a3 a4 a5 a6 a7 a8 a9 a10 a11 a12 a13 a14 a15 a16 x9 x10 x11 x12 x13 x14 a17 a18 a19 x15 a20 x16 a21 x17 x18 a22 a23 a24 a25 x19 a26 x20 a27 a28 a29 y0 a30 a31 a32 a33 a34 a35 a36 a37 a38 x21 x22 x23 y1 a39 x24 a40 a41 a42 a43 x25 x26 x27 x28 a29 f0)) hP hD hS hA [0, 1] rfl (by decide +kernel) (fun _ => by rfl) (fun hPc hDc => va_runV (As := [.int x0]) (rest := []) ⟨hx, hb, hml, hown, hts⟩ (k_X12_rowIs l D cB cC cI cJ _ a0 a1 a2 a3 a4 a5 a6 a7 a8 a9 a10 a11 a12 a13 a14 a15 a16 a17 a18 a19 a20 a21 a22 a23 a24 a25 a26 a27 a28 a29 a30 a31 a32 a33 a34 a35 a36 a37 a38 a39 a40 a41 a42 a43 x0 x1 x2 x3 x4 x5 x6 x7 x8 x9 x10 x11 x12 x13 x14 x15 x16 x17 x18 x19 x20 x21 x22 x23 x24 x25 x26 x27 x28 y0 y1 f0 h_x1 h_x2 h_x3 h_x4 h_x5 h_x6 h_x9 h_x10 h_x11 h_x12 h_x13 h_x15 h_x16 h_x17 h_x19 h_x20 h_x21 h_x22 h_x23 h_x24 h_x25 h_x26 h_x27 h_x28 hr_a0_0 hr_a0_1 hr_a0_2) ⟨gcwB hts tw_1876 tw_14 tw_1873 hd_yX12_rowIs ⟨Nat.le_of_ble_eq_true rfl, Nat.le_of_ble_eq_true rfl⟩, hts _ tw_1875, hts _ tp_102⟩ ⟨gblind, va_recv hK hPc (ci := 12) (q0 := 0) rfl rfl, (gpreS hPc hK hDc hN).2⟩ rfl rfl hl.1 rfl (lv_room (Nat.le_of_ble_eq_true rfl)) dX12_distanceOf_2 ⟨Nat.le_of_ble_eq_true rfl, Nat.le_of_ble_eq_true rfl⟩) (fun u_1 H locs hw_3 hP hD hS => ?_)
  replace hP : va_P D gcl (zS_12 cB cC cI cJ a0 a1 x1 x2 x3 x4 x5 x6 x7 x8 a2 a3 a4 a5 a6 a7 a8 a9 a10 a11 a12 a13 a14 a15 a16 x9 x10 x11 x12 x13 x14 a17 a18 a19 x15 a20 x16 a21 x17 x18 a22 a23 a24 a25 x19 a26 x20 a27 a28 a29 y0 a30 a31 a32 a33 a34 a35 a36 a37 a38 x21 x22 x23 y1 a39 x24 a40 a41 a42 a43 x25 x26 x27 x28 a29 (u_1.2.1 0) a18 f1 a28 f2) H := hP
  replace hD : va_D A (zS_12 cB cC cI cJ a0 a1 x1 x2 x3 x4 x5 x6 x7 x8 a2 a3 a4 a5 a6 a7 a8 a9 a10 a11 a12 a13 a14 a15 a16 x9 x10 x11 x12 x13 x14 a17 a18 a19 x15 a20 x16 a21 x17 x18 a22 a23 a24 a25 x19 a26 x20 a27 a28 a29 y0 a30 a31 a32 a33 a34 a35 a36 a37 a38 x21 x22 x23 y1 a39 x24 a40 a41 a42 a43 x25 x26 x27 x28 a29 (u_1.2.1 0) a18 f1 a28 f2) := hD
  have hw_4 : (RB (u_1.2.1 0) 0 x10.toInt) := hw_3
  refine lv_aload_n (pc := 5) hx hb dX12_distanceOf_5 rfl (lv_at hl 0 rfl) ?_
  refine lv_iconst (pc := 6) (v := 1) hx hb dX12_distanceOf_6 (by decide) ?_
  refine gd_l (pc := 7) (wc := (zS_124 cB cC cI cJ a0 a1 x1 x2 x3 x4 x5 x6 x7 x8 a2 a3 a4 a5 a6 a7 a8 a9 a10 a11 a12 a13 a14 a15 a16 x9 x10 x11 x12 x13 x14 a17 a18 a19 x15 a20 x16 a21 x17 x18 a22 a23 a24 a25 x19 a26 x20 a27 a28 a29 y0 a30 a31 a32 a33 a34 a35 a36 a37 a38 x21 x22 x23 y1 a39 x24 a40 a41 a42 a43 x25 x26 x27 x28 a18 f1 a29 (u_1.2.1 0) a28 f2)) hP hD hS hA [0, 2, 1, 3] rfl (by decide +kernel) (fun _ => by rfl) (fun hPc hDc => va_runV (As := [.int 1]) (rest := []) ⟨hx, hb, hml, hown, hts⟩ (k_X12_squaresLess l D cB cC cI cJ _ a0 a1 a2 a3 a4 a5 a6 a7 a8 a9 a10 a11 a12 a13 a14 a15 a16 a17 a18 a19 a20 a21 a22 a23 a24 a25 a26 a27 a28 a29 a30 a31 a32 a33 a34 a35 a36 a37 a38 a39 a40 a41 a42 a43 1 x1 x2 x3 x4 x5 x6 x7 x8 x9 x10 x11 x12 x13 x14 x15 x16 x17 x18 x19 x20 x21 x22 x23 x24 x25 x26 x27 x28 y0 y1 f1 (u_1.2.1 0) f2 (n_c tI_1 (by decide)) h_x1 h_x2 h_x3 h_x4 h_x5 h_x6 h_x9 h_x10 h_x11 h_x12 h_x13 h_x15 h_x16 h_x17 h_x19 h_x20 h_x21 h_x22 h_x23 h_x24 h_x25 h_x26 h_x27 h_x28 hr_a0_0 hr_a0_1 hr_a0_2 hf_f1 hf_f2) ⟨gcwB hts tw_1837 tw_14 tw_1834 hd_yX12_squaresLess ⟨Nat.le_of_ble_eq_true rfl, Nat.le_of_ble_eq_true rfl⟩, hts _ tw_1836, hts _ tp_96⟩ ⟨gblind, va_recv hK hPc (ci := 12) (q0 := 0) rfl rfl, (gpreS hPc hK hDc hN).2⟩ rfl rfl hl.1 rfl (lv_room (Nat.le_of_ble_eq_true rfl)) dX12_distanceOf_7 ⟨Nat.le_of_ble_eq_true rfl, Nat.le_of_ble_eq_true rfl⟩) (fun r_6 u_5 H locs hw_7 hP hD hS => ?_)
  replace hP : va_P D gcl (zS_12 cB cC cI cJ a0 a1 x1 x2 x3 x4 x5 x6 x7 x8 a2 a3 a4 a5 a6 a7 a8 a9 a10 a11 a12 a13 a14 a15 a16 x9 x10 x11 x12 x13 x14 a17 a18 a19 x15 a20 x16 a21 x17 x18 a22 a23 a24 a25 x19 a26 x20 a27 a28 a29 y0 a30 a31 a32 a33 a34 a35 a36 a37 a38 x21 x22 x23 y1 a39 x24 a40 a41 a42 a43 x25 x26 x27 x28 a29 (u_1.2.1 0) a18 f1 a28 f2) H := hP
  replace hD : va_D A (zS_12 cB cC cI cJ a0 a1 x1 x2 x3 x4 x5 x6 x7 x8 a2 a3 a4 a5 a6 a7 a8 a9 a10 a11 a12 a13 a14 a15 a16 x9 x10 x11 x12 x13 x14 a17 a18 a19 x15 a20 x16 a21 x17 x18 a22 a23 a24 a25 x19 a26 x20 a27 a28 a29 y0 a30 a31 a32 a33 a34 a35 a36 a37 a38 x21 x22 x23 y1 a39 x24 a40 a41 a42 a43 x25 x26 x27 x28 a29 (u_1.2.1 0) a18 f1 a28 f2) := hD
  have hw_8 : ((((-9223372036854775808) ≤ r_6.toInt ∧ r_6.toInt ≤ 9223372036854775807) ∧ (0 ≤ x11.toInt ∧ x11.toInt ≤ 6))) := hw_7
  have kk0_r_6 := tI_1
  have rr_6 := n_rngL r_6
  have hP9 : va_P D gcl (zS_12 cB cC cI cJ a0 a1 x1 x2 x3 x4 x5 x6 x7 x8 a2 a3 a4 a5 a6 a7 a8 a9 a10 a11 a12 a13 a14 a15 a16 x9 x10 x11 x12 x13 x14 a17 a18 a19 x15 a20 x16 a21 x17 x18 a22 a23 a24 a25 x19 a26 x20 a27 a28 a29 y0 a30 a31 a32 a33 a34 a35 a36 a37 a38 x21 x22 x23 y1 a39 x24 a40 a41 a42 a43 x25 x26 x27 x28 a29 (u_1.2.1 0) a18 f1 a28 f2) H := g_psub hP [0, 1, 2, 3] rfl
  have hD9 : va_D A (zS_12 cB cC cI cJ a0 a1 x1 x2 x3 x4 x5 x6 x7 x8 a2 a3 a4 a5 a6 a7 a8 a9 a10 a11 a12 a13 a14 a15 a16 x9 x10 x11 x12 x13 x14 a17 a18 a19 x15 a20 x16 a21 x17 x18 a22 a23 a24 a25 x19 a26 x20 a27 a28 a29 y0 a30 a31 a32 a33 a34 a35 a36 a37 a38 x21 x22 x23 y1 a39 x24 a40 a41 a42 a43 x25 x26 x27 x28 a29 (u_1.2.1 0) a18 f1 a28 f2) := hD.sub [0, 1, 2, 3] (by decide) rfl
  exact hret r_6 ((fun _ => 0), (fun k => [(u_1.2.1 0)].getD k (fun _ => 0)), (fun _ => (fun _ => 0)), (fun _ => 0), (fun _ => 0)) dX12_distanceOf_10 (show ((((-9223372036854775808) ≤ r_6.toInt ∧ r_6.toInt ≤ 9223372036854775807))) from (by first | exact (om_1163 rr_6.1 rr_6.2) | ((first | omega | (unfold zBd at *; omega))))) hP9 hD9 hS
theorem om_1618 {a : Int} (h0 : (a ≤ 10)) : (a - 1 ≤ 2147483647) := by omega
theorem om_1619 {a b c : Int} (h0 : (a = b - 1)) (h1 : (b ≥ c)) (h2 : (1 ≤ c)) (h3 : (b ≤ 10)) : ((0 ≤ a ∧ a ≤ 9)) := by omega
theorem om_1620 {a b : Int} (h0 : (a = b + 1)) (h1 : (0 ≤ b)) : (-2147483648 ≤ a - 1) := by omega
theorem om_1621 {a b : Int} (h0 : (a = b + 1)) (h1 : (b ≤ 10)) : (a - 1 ≤ 2147483647) := by omega
theorem om_1622 {a b c : Int} (h0 : (a = b + 1)) (h1 : (0 ≤ b)) (h2 : (b < c)) (h3 : (c ≤ 10)) : ((0 ≤ a ∧ a ≤ 10)) := by omega
theorem om_1623 {a b c d : Int} (h0 : (a = b - 1)) (h1 : (b = c + 1)) (h2 : (0 ≤ c)) (h3 : (c < d)) (h4 : (d ≤ 10)) : ((0 ≤ a ∧ a ≤ 9)) := by omega
theorem om_1624 {a b c : Int} (h0 : (a = b - 1)) (h1 : (b = c)) (h2 : (1 ≤ c)) : (0 ≤ a) := by omega
theorem om_1625 {a b : Int} (h0 : (a = b - 1)) (h1 : (b ≤ 10)) : (a < (10 : Nat)) := by omega
theorem om_1626 {a b c : Int} (h0 : (a = b - 1)) (h1 : (b = c)) (h2 : (1 ≤ c)) (h3 : (b ≤ 10)) : ((0 ≤ a ∧ a ≤ 9)) := by omega
theorem om_1627 {a b : Int} (h0 : (a < b)) (h1 : (a = b)) : (-2147483648 ≤ a + 1) := by omega
theorem om_1628 {a b : Int} (h0 : (a < b)) (h1 : (a = b)) : (a + 1 ≤ 2147483647) := by omega
theorem om_1629 {a b c : Int} (h0 : (b < c)) (h1 : (b = c)) : (-2147483648 ≤ a - 1) := by omega
theorem om_1630 {a b c : Int} (h0 : (b < c)) (h1 : (b = c)) : (a - 1 ≤ 2147483647) := by omega
theorem om_1631 {a b c : Int} (h0 : (b < c)) (h1 : (b = c)) : ((0 ≤ a ∧ a ≤ 10)) := by omega
theorem om_1632 {a b c : Int} (h0 : (c < b)) (h1 : (c = b)) : ((a ≤ b)) := by omega
theorem om_1633 {a b c : Int} (h0 : (b < c)) (h1 : (b = c)) : ((0 ≤ a ∧ a ≤ 9)) := by omega
set_option maxHeartbeats 4000000 in
set_option maxRecDepth 100000 in
theorem k_X12_nears (l : Launch) (D : va_G) (cB cC cI cJ : ClassId) (sz : Nat) (a0 a1 a2 a3 a4 a5 a6 a7 a8 a9 a10 a11 a12 a13 a14 a15 a16 a17 a18 a19 a20 a21 a22 a23 a24 a25 a26 a27 a28 a29 a30 a31 a32 a33 a34 a35 a36 a37 a38 a39 a40 a41 a42 a43 : Nat) (x0 x1 x2 x3 x4 x5 x6 x7 x8 x9 x10 x11 x12 x13 x14 x15 x16 x17 x18 x19 x20 x21 x22 x23 x24 x25 x26 x27 x28 : Int32) (y0 y1 : Int64) (f0 f1 f2 f3 : Nat → Int32) (g0 : Nat → Int64) (hp1 : (1 ≤ x0.toInt ∧ x0.toInt ≤ 10)) (h_x1 : zBd x1.toInt 0 1600) (h_x2 : zBd x2.toInt 0 1600) (h_x3 : zBd x3.toInt 0 1600) (h_x4 : zBd x4.toInt (-1) 1600) (h_x5 : zBd x5.toInt 0 4) (h_x6 : zBd x6.toInt (-1) 1600) (h_x9 : zBd x9.toInt 0 8) (h_x10 : zBd x10.toInt 0 5) (h_x11 : zBd x11.toInt 0 6) (h_x12 : zBd x12.toInt 0 6) (h_x13 : zBd x13.toInt 0 16) (h_x15 : zBd x15.toInt 0 60) (h_x16 : zBd x16.toInt 0 1600) (h_x17 : zBd x17.toInt 0 1700) (h_x19 : zBd x19.toInt 0 1700) (h_x20 : zBd x20.toInt 0 1700) (h_x21 : zBd x21.toInt 0 200) (h_x22 : zBd x22.toInt 0 40) (h_x23 : zBd x23.toInt 0 40) (h_x24 : zBd x24.toInt 0 1) (h_x25 : zBd x25.toInt 0 14) (h_x26 : zBd x26.toInt 0 200) (h_x27 : zBd x27.toInt 0 40) (h_x28 : zBd x28.toInt 0 40) (hr_a0_0 : (x22.toInt ≤ x21.toInt)) (hr_a0_1 : (x21.toInt + x23.toInt ≤ 200)) (hr_a0_2 : (x10.toInt = 0 ∨ 2 ≤ x9.toInt)) (hf_f1 : (∀ j, (-9999) ≤ (f1 j).toInt ∧ (f1 j).toInt ≤ 9999)) (hf_f2 : (∀ j, (-1100000) ≤ (f2 j).toInt ∧ (f2 j).toInt ≤ 1100000)) : Met l yX12_nears (.code yX12_nears cX12_nears 7 (some .int) :: lw_gd) ({ frames := 3, cells := 0, slots := 0, locals := 70 }) (gPre D [(cB, .byte), (cC, .char), (cI, .int), (cJ, .long)] [.ref a0, .int x0] (zS_8 cB cC cI cJ a0 a1 x1 x2 x3 x4 x5 x6 x7 x8 a2 a3 a4 a5 a6 a7 a8 a9 a10 a11 a12 a13 a14 a15 a16 x9 x10 x11 x12 x13 x14 a17 a18 a19 x15 a20 x16 a21 x17 x18 a22 a23 a24 a25 x19 a26 x20 a27 a28 a29 y0 a30 a31 a32 a33 a34 a35 a36 a37 a38 x21 x22 x23 y1 a39 x24 a40 a41 a42 a43 x25 x26 x27 x28 a29 f0 a18 f1 a28 f2 a30 g0 a31 f3) sz) (va_Qi (fun r u => (((0 ≤ r.toInt ∧ r.toInt ≤ 10)))) (gB D (va_A (zS_8 cB cC cI cJ a0 a1 x1 x2 x3 x4 x5 x6 x7 x8 a2 a3 a4 a5 a6 a7 a8 a9 a10 a11 a12 a13 a14 a15 a16 x9 x10 x11 x12 x13 x14 a17 a18 a19 x15 a20 x16 a21 x17 x18 a22 a23 a24 a25 x19 a26 x20 a27 a28 a29 y0 a30 a31 a32 a33 a34 a35 a36 a37 a38 x21 x22 x23 y1 a39 x24 a40 a41 a42 a43 x25 x26 x27 x28 a29 f0 a18 f1 a28 f2 a30 g0 a31 f3) sz) (fun u : gEx => (zS_8 cB cC cI cJ a0 a1 x1 x2 x3 x4 x5 x6 x7 x8 a2 a3 a4 a5 a6 a7 a8 a9 a10 a11 a12 a13 a14 a15 a16 x9 x10 x11 x12 x13 x14 a17 a18 a19 x15 a20 x16 a21 x17 x18 a22 a23 a24 a25 x19 a26 x20 a27 a28 a29 y0 a30 a31 a32 a33 a34 a35 a36 a37 a38 x21 x22 x23 y1 a39 x24 a40 a41 a42 a43 x25 x26 x27 x28 a29 (u.2.1 0) a18 f1 a28 f2 a30 (u.2.2.1 0) a31 (u.2.1 1)))) (va_A (zS_8 cB cC cI cJ a0 a1 x1 x2 x3 x4 x5 x6 x7 x8 a2 a3 a4 a5 a6 a7 a8 a9 a10 a11 a12 a13 a14 a15 a16 x9 x10 x11 x12 x13 x14 a17 a18 a19 x15 a20 x16 a21 x17 x18 a22 a23 a24 a25 x19 a26 x20 a27 a28 a29 y0 a30 a31 a32 a33 a34 a35 a36 a37 a38 x21 x22 x23 y1 a39 x24 a40 a41 a42 a43 x25 x26 x27 x28 a29 f0 a18 f1 a28 f2 a30 g0 a31 f3) sz)) 0 0 (va_A (zS_8 cB cC cI cJ a0 a1 x1 x2 x3 x4 x5 x6 x7 x8 a2 a3 a4 a5 a6 a7 a8 a9 a10 a11 a12 a13 a14 a15 a16 x9 x10 x11 x12 x13 x14 a17 a18 a19 x15 a20 x16 a21 x17 x18 a22 a23 a24 a25 x19 a26 x20 a27 a28 a29 y0 a30 a31 a32 a33 a34 a35 a36 a37 a38 x21 x22 x23 y1 a39 x24 a40 a41 a42 a43 x25 x26 x27 x28 a29 f0 a18 f1 a28 f2 a30 g0 a31 f3) sz) := by
  refine gOf_i (by decide +kernel) (Nat.le_of_ble_eq_true rfl) ?_
  intro p e s m args below meth c ls A Q hx hb hts hown hml hN hK hP hD hA hl hret
  replace hown : s.vm.findClass RX12 = some m.cls := hown
  have hS : va_S A s.heap s.heap [] := va_S.rf
  replace hP : va_P D gcl (zS_8 cB cC cI cJ a0 a1 x1 x2 x3 x4 x5 x6 x7 x8 a2 a3 a4 a5 a6 a7 a8 a9 a10 a11 a12 a13 a14 a15 a16 x9 x10 x11 x12 x13 x14 a17 a18 a19 x15 a20 x16 a21 x17 x18 a22 a23 a24 a25 x19 a26 x20 a27 a28 a29 y0 a30 a31 a32 a33 a34 a35 a36 a37 a38 x21 x22 x23 y1 a39 x24 a40 a41 a42 a43 x25 x26 x27 x28 a29 f0 a18 f1 a28 f2 a30 g0 a31 f3) s.heap := hP
  replace hl : lv_has ls 7 [(0, .ref a0), (1, .int x0)] := hl
  have rx7 : zBd x7.toInt (-2147483648) 2147483647 := n_rng x7
  have rx8 : zBd x8.toInt (-2147483648) 2147483647 := n_rng x8
  have rx14 : zBd x14.toInt (-2147483648) 2147483647 := n_rng x14
  have rx18 : zBd x18.toInt (-2147483648) 2147483647 := n_rng x18
  have ry0 := n_rngL y0
  have ry1 := n_rngL y1
  refine lv_iconst (pc := 0) (v := 0) hx hb dX12_nears_0 (by decide) ?_
  refine lv_istore_n (pc := 1) (lv' := [(2, .int 0), (0, .ref a0), (1, .int x0)]) hx hb dX12_nears_1 rfl hl (by decide) rfl (fun ls hl => ?_)
  refine lv_iconst (pc := 2) (v := 0) hx hb dX12_nears_2 (by decide) ?_
  refine lv_istore_n (pc := 3) (lv' := [(3, .int 0), (2, .int 0), (0, .ref a0), (1, .int x0)]) hx hb dX12_nears_3 rfl hl (by decide) rfl (fun ls hl => ?_)
  have lp_9 : ∀ (n : Nat) (x_1 x_3 : Int32) (f_5 f_7 : Nat → Int32) (g_6 : Nat → Int64) (H : Heap) (locs : List Loc) (ls : Array Slot), (0 ≤ x_1.toInt ∧ x_1.toInt ≤ 2147483647) → (0 ≤ x_3.toInt ∧ x_3.toInt ≤ 10) → (x_3.toInt ≤ x0.toInt) → (2147483647 - x_1.toInt).toNat < n → va_P D gcl (zS_8 cB cC cI cJ a0 a1 x1 x2 x3 x4 x5 x6 x7 x8 a2 a3 a4 a5 a6 a7 a8 a9 a10 a11 a12 a13 a14 a15 a16 x9 x10 x11 x12 x13 x14 a17 a18 a19 x15 a20 x16 a21 x17 x18 a22 a23 a24 a25 x19 a26 x20 a27 a28 a29 y0 a30 a31 a32 a33 a34 a35 a36 a37 a38 x21 x22 x23 y1 a39 x24 a40 a41 a42 a43 x25 x26 x27 x28 a29 f_5 a18 f1 a28 f2 a30 g_6 a31 f_7) H → va_D A (zS_8 cB cC cI cJ a0 a1 x1 x2 x3 x4 x5 x6 x7 x8 a2 a3 a4 a5 a6 a7 a8 a9 a10 a11 a12 a13 a14 a15 a16 x9 x10 x11 x12 x13 x14 a17 a18 a19 x15 a20 x16 a21 x17 x18 a22 a23 a24 a25 x19 a26 x20 a27 a28 a29 y0 a30 a31 a32 a33 a34 a35 a36 a37 a38 x21 x22 x23 y1 a39 x24 a40 a41 a42 a43 x25 x26 x27 x28 a29 f_5 a18 f1 a28 f2 a30 g_6 a31 f_7) → va_S A s.heap H locs → lv_has ls 7 [(3, .int x_1), (2, .int x_3), (0, .ref a0), (1, .int x0)] → W p l e ({ frames := 3, cells := 0, slots := 0, locals := 70 }) s m args below meth c H locs 0 0 Q (F0 m 4 ls []) := by
    intro n
    induction n with
    | zero => intro x_1 x_3 f_5 f_7 g_6 H locs ls hi_2 hi_4 hi_8 hmu; exact absurd hmu (Nat.not_lt_zero _)
    | succ n ih_lp_9 =>
      intro x_1 x_3 f_5 f_7 g_6 H locs ls hi_2 hi_4 hi_8 hmu_lp_9 hP hD hS hl
      refine lv_iload_n (pc := 4) hx hb dX12_nears_4 rfl (lv_at hl 0 rfl) ?_
      refine lv_aload_n (pc := 5) hx hb dX12_nears_5 rfl (lv_at hl 2 rfl) ?_
      refine gd_i (pc := 6) (wc := (zS_4 cB cC cI cJ a0 a1 x1 x2 x3 x4 x5 x6 x7 x8 a2 a3 a4 a5 a6 a7 a8 a9 a10 a11 a12 a13 a14 a15 a16 x9 x10 x11 x12 x13 x14 a17 a18 a19 x15 a20 x16 a21 x17 x18 a22 a23 a24 a25 x19 a26 x20 a27 a28 a29 y0 a30 a31 a32 a33 a34 a35 a36 a37 a38 x21 x22 x23 y1 a39 x24 a40 a41 a42 a43 x25 x26 x27 x28)) hP hD hS hA [0] rfl (by decide +kernel) (fun _ => by rfl) (fun hPc hDc => va_runV (As := []) (rest := [.int x_1]) ⟨hx, hb, hml, hown, hts⟩ (k_X12_rowMany l D cB cC cI cJ _ a0 a1 a2 a3 a4 a5 a6 a7 a8 a9 a10 a11 a12 a13 a14 a15 a16 a17 a18 a19 a20 a21 a22 a23 a24 a25 a26 a27 a28 a29 a30 a31 a32 a33 a34 a35 a36 a37 a38 a39 a40 a41 a42 a43 x1 x2 x3 x4 x5 x6 x7 x8 x9 x10 x11 x12 x13 x14 x15 x16 x17 x18 x19 x20 x21 x22 x23 x24 x25 x26 x27 x28 y0 y1 h_x1 h_x2 h_x3 h_x4 h_x5 h_x6 h_x9 h_x10 h_x11 h_x12 h_x13 h_x15 h_x16 h_x17 h_x19 h_x20 h_x21 h_x22 h_x23 h_x24 h_x25 h_x26 h_x27 h_x28 hr_a0_0 hr_a0_1 hr_a0_2) ⟨gcwB hts tw_1868 tw_14 tw_1865 hd_yX12_rowMany ⟨Nat.le_of_ble_eq_true rfl, Nat.le_of_ble_eq_true rfl⟩, hts _ tw_1867, hts _ tp_100⟩ ⟨gblind, va_recv hK hPc (ci := 12) (q0 := 0) rfl rfl, (gpreS hPc hK hDc hN).2⟩ rfl rfl hl.1 rfl (lv_room (Nat.le_of_ble_eq_true rfl)) dX12_nears_6 ⟨Nat.le_of_ble_eq_true rfl, Nat.le_of_ble_eq_true rfl⟩) (fun r_11 u_10 H locs hw_12 hP hD hS => ?_)
      replace hP : va_P D gcl (zS_8 cB cC cI cJ a0 a1 x1 x2 x3 x4 x5 x6 x7 x8 a2 a3 a4 a5 a6 a7 a8 a9 a10 a11 a12 a13 a14 a15 a16 x9 x10 x11 x12 x13 x14 a17 a18 a19 x15 a20 x16 a21 x17 x18 a22 a23 a24 a25 x19 a26 x20 a27 a28 a29 y0 a30 a31 a32 a33 a34 a35 a36 a37 a38 x21 x22 x23 y1 a39 x24 a40 a41 a42 a43 x25 x26 x27 x28 a29 f_5 a18 f1 a28 f2 a30 g_6 a31 f_7) H := hP
      replace hD : va_D A (zS_8 cB cC cI cJ a0 a1 x1 x2 x3 x4 x5 x6 x7 x8 a2 a3 a4 a5 a6 a7 a8 a9 a10 a11 a12 a13 a14 a15 a16 x9 x10 x11 x12 x13 x14 a17 a18 a19 x15 a20 x16 a21 x17 x18 a22 a23 a24 a25 x19 a26 x20 a27 a28 a29 y0 a30 a31 a32 a33 a34 a35 a36 a37 a38 x21 x22 x23 y1 a39 x24 a40 a41 a42 a43 x25 x26 x27 x28 a29 f_5 a18 f1 a28 f2 a30 g_6 a31 f_7) := hD
      have hw_13 : ((((-2147483648) ≤ r_11.toInt ∧ r_11.toInt ≤ 2147483647) ∧ ¬ x10.toInt = 0 ∧ (1 ≤ x10.toInt ∧ x10.toInt ≤ 5)) ∨ (r_11.toInt = 0 ∧ x10.toInt = 0)) := hw_12
      have rr_11 : zBd r_11.toInt (-2147483648) 2147483647 := n_rng r_11
      refine b_icmp_ge (pc := 9) (tgt := 135) hx hb rfl rfl  dX12_nears_9 (by decide) (fun c_14 => ?_) (fun c_14 => ?_)
      ·
        as_aux_lemma =>
          refine lv_iload_n (pc := 135) hx hb dX12_nears_135 rfl (lv_at hl 1 rfl) ?_
          have hP9 : va_P D gcl (zS_8 cB cC cI cJ a0 a1 x1 x2 x3 x4 x5 x6 x7 x8 a2 a3 a4 a5 a6 a7 a8 a9 a10 a11 a12 a13 a14 a15 a16 x9 x10 x11 x12 x13 x14 a17 a18 a19 x15 a20 x16 a21 x17 x18 a22 a23 a24 a25 x19 a26 x20 a27 a28 a29 y0 a30 a31 a32 a33 a34 a35 a36 a37 a38 x21 x22 x23 y1 a39 x24 a40 a41 a42 a43 x25 x26 x27 x28 a29 f_5 a18 f1 a28 f2 a30 g_6 a31 f_7) H := g_psub hP [0, 1, 2, 3, 4, 5] rfl
          have hD9 : va_D A (zS_8 cB cC cI cJ a0 a1 x1 x2 x3 x4 x5 x6 x7 x8 a2 a3 a4 a5 a6 a7 a8 a9 a10 a11 a12 a13 a14 a15 a16 x9 x10 x11 x12 x13 x14 a17 a18 a19 x15 a20 x16 a21 x17 x18 a22 a23 a24 a25 x19 a26 x20 a27 a28 a29 y0 a30 a31 a32 a33 a34 a35 a36 a37 a38 x21 x22 x23 y1 a39 x24 a40 a41 a42 a43 x25 x26 x27 x28 a29 f_5 a18 f1 a28 f2 a30 g_6 a31 f_7) := hD.sub [0, 1, 2, 3, 4, 5] (by decide) rfl
          exact hret x_3 ((fun _ => 0), (fun k => [f_5, f_7].getD k (fun _ => 0)), (fun k => [g_6].getD k (fun _ => 0)), (fun _ => 0), (fun _ => 0)) dX12_nears_136 (show (((0 ≤ x_3.toInt ∧ x_3.toInt ≤ 10))) from hi_4) hP9 hD9 hS
      ·
        as_aux_lemma =>
          refine lv_aload_n (pc := 12) hx hb dX12_nears_12 rfl (lv_at hl 2 rfl) ?_
          refine lv_iload_n (pc := 13) hx hb dX12_nears_13 rfl (lv_at hl 0 rfl) ?_
          refine gd_l (pc := 14) (wc := (zS_12 cB cC cI cJ a0 a1 x1 x2 x3 x4 x5 x6 x7 x8 a2 a3 a4 a5 a6 a7 a8 a9 a10 a11 a12 a13 a14 a15 a16 x9 x10 x11 x12 x13 x14 a17 a18 a19 x15 a20 x16 a21 x17 x18 a22 a23 a24 a25 x19 a26 x20 a27 a28 a29 y0 a30 a31 a32 a33 a34 a35 a36 a37 a38 x21 x22 x23 y1 a39 x24 a40 a41 a42 a43 x25 x26 x27 x28 a29 f_5 a18 f1 a28 f2)) hP hD hS hA [0, 1, 2, 3] rfl (by decide +kernel) (fun _ => by rfl) (fun hPc hDc => va_runV (As := [.int x_1]) (rest := []) ⟨hx, hb, hml, hown, hts⟩ (k_X12_distanceOf l D cB cC cI cJ _ a0 a1 a2 a3 a4 a5 a6 a7 a8 a9 a10 a11 a12 a13 a14 a15 a16 a17 a18 a19 a20 a21 a22 a23 a24 a25 a26 a27 a28 a29 a30 a31 a32 a33 a34 a35 a36 a37 a38 a39 a40 a41 a42 a43 x_1 x1 x2 x3 x4 x5 x6 x7 x8 x9 x10 x11 x12 x13 x14 x15 x16 x17 x18 x19 x20 x21 x22 x23 x24 x25 x26 x27 x28 y0 y1 f_5 f1 f2 h_x1 h_x2 h_x3 h_x4 h_x5 h_x6 h_x9 h_x10 h_x11 h_x12 h_x13 h_x15 h_x16 h_x17 h_x19 h_x20 h_x21 h_x22 h_x23 h_x24 h_x25 h_x26 h_x27 h_x28 hr_a0_0 hr_a0_1 hr_a0_2 hf_f1 hf_f2) ⟨gcwB hts tw_1872 tw_14 tw_1869 hd_yX12_distanceOf ⟨Nat.le_of_ble_eq_true rfl, Nat.le_of_ble_eq_true rfl⟩, hts _ tw_1871, hts _ tp_101⟩ ⟨gblind, va_recv hK hPc (ci := 12) (q0 := 0) rfl rfl, (gpreS hPc hK hDc hN).2⟩ rfl rfl hl.1 rfl (lv_room (Nat.le_of_ble_eq_true rfl)) dX12_nears_14 ⟨Nat.le_of_ble_eq_true rfl, Nat.le_of_ble_eq_true rfl⟩) (fun r_16 u_15 H locs hw_17 hP hD hS => ?_)
          replace hP : va_P D gcl (zS_8 cB cC cI cJ a0 a1 x1 x2 x3 x4 x5 x6 x7 x8 a2 a3 a4 a5 a6 a7 a8 a9 a10 a11 a12 a13 a14 a15 a16 x9 x10 x11 x12 x13 x14 a17 a18 a19 x15 a20 x16 a21 x17 x18 a22 a23 a24 a25 x19 a26 x20 a27 a28 a29 y0 a30 a31 a32 a33 a34 a35 a36 a37 a38 x21 x22 x23 y1 a39 x24 a40 a41 a42 a43 x25 x26 x27 x28 a29 (u_15.2.1 0) a18 f1 a28 f2 a30 g_6 a31 f_7) H := hP
          replace hD : va_D A (zS_8 cB cC cI cJ a0 a1 x1 x2 x3 x4 x5 x6 x7 x8 a2 a3 a4 a5 a6 a7 a8 a9 a10 a11 a12 a13 a14 a15 a16 x9 x10 x11 x12 x13 x14 a17 a18 a19 x15 a20 x16 a21 x17 x18 a22 a23 a24 a25 x19 a26 x20 a27 a28 a29 y0 a30 a31 a32 a33 a34 a35 a36 a37 a38 x21 x22 x23 y1 a39 x24 a40 a41 a42 a43 x25 x26 x27 x28 a29 (u_15.2.1 0) a18 f1 a28 f2 a30 g_6 a31 f_7) := hD
          have hw_18 : ((((-9223372036854775808) ≤ r_16.toInt ∧ r_16.toInt ≤ 9223372036854775807))) := hw_17
          have rr_16 := n_rngL r_16
          refine lv_lstore (pc := 17) (lv' := [(4, .long r_16), (3, .int x_1), (2, .int x_3), (0, .ref a0), (1, .int x0)]) hx hb dX12_nears_17 hl (by decide) rfl (fun ls hl => ?_)
          refine lv_iload_n (pc := 19) hx hb dX12_nears_19 rfl (lv_at hl 2 rfl) ?_
          refine lv_iload_n (pc := 20) hx hb dX12_nears_20 rfl (lv_at hl 4 rfl) ?_
          refine b_icmp_ne (pc := 21) (tgt := 41) hx hb rfl rfl  dX12_nears_21 (by decide) (fun c_19 => ?_) (fun c_19 => ?_)
          ·
            as_aux_lemma =>
              refine lv_iload_n (pc := 41) hx hb dX12_nears_41 rfl (lv_at hl 2 rfl) ?_
              refine lv_iload_n (pc := 42) hx hb dX12_nears_42 rfl (lv_at hl 4 rfl) ?_
              refine b_icmp_ge (pc := 43) (tgt := 49) hx hb rfl rfl  dX12_nears_43 (by decide) (fun c_20 => ?_) (fun c_20 => ?_)
              ·
                as_aux_lemma =>
                  refine lv_iload_n (pc := 49) hx hb dX12_nears_49 rfl (lv_at hl 2 rfl) ?_
                  refine lv_iconst (pc := 50) (v := 1) hx hb dX12_nears_50 (by decide) ?_
                  refine b_isub (pc := 51) hx hb rfl tI_1 (by first | exact (om_659 hi_4.1) | ((first | omega | (unfold zBd at *; omega)))) (by first | exact (om_1618 hi_4.2) | ((first | omega | (unfold zBd at *; omega)))) dX12_nears_51 (fun x_21 ex_21 => ?_)
                  refine lv_istore (pc := 52) (lv' := [(6, .int x_21), (4, .long r_16), (3, .int x_1), (2, .int x_3), (0, .ref a0), (1, .int x0)]) hx hb dX12_nears_52 hl (by decide) rfl (fun ls hl => ?_)
                  have lp_26 : ∀ (n : Nat) (x_22 : Int32) (f_25 : Nat → Int32) (g_24 : Nat → Int64) (H : Heap) (locs : List Loc) (ls : Array Slot), (0 ≤ x_22.toInt ∧ x_22.toInt ≤ 9) → (x_22.toInt + 2147483648).toNat < n → va_P D gcl (zS_8 cB cC cI cJ a0 a1 x1 x2 x3 x4 x5 x6 x7 x8 a2 a3 a4 a5 a6 a7 a8 a9 a10 a11 a12 a13 a14 a15 a16 x9 x10 x11 x12 x13 x14 a17 a18 a19 x15 a20 x16 a21 x17 x18 a22 a23 a24 a25 x19 a26 x20 a27 a28 a29 y0 a30 a31 a32 a33 a34 a35 a36 a37 a38 x21 x22 x23 y1 a39 x24 a40 a41 a42 a43 x25 x26 x27 x28 a29 (u_15.2.1 0) a18 f1 a28 f2 a30 g_24 a31 f_25) H → va_D A (zS_8 cB cC cI cJ a0 a1 x1 x2 x3 x4 x5 x6 x7 x8 a2 a3 a4 a5 a6 a7 a8 a9 a10 a11 a12 a13 a14 a15 a16 x9 x10 x11 x12 x13 x14 a17 a18 a19 x15 a20 x16 a21 x17 x18 a22 a23 a24 a25 x19 a26 x20 a27 a28 a29 y0 a30 a31 a32 a33 a34 a35 a36 a37 a38 x21 x22 x23 y1 a39 x24 a40 a41 a42 a43 x25 x26 x27 x28 a29 (u_15.2.1 0) a18 f1 a28 f2 a30 g_24 a31 f_25) → va_S A s.heap H locs → lv_has ls 7 [(6, .int x_22), (4, .long r_16), (3, .int x_1), (2, .int x_3), (0, .ref a0), (1, .int x0)] → W p l e ({ frames := 3, cells := 0, slots := 0, locals := 70 }) s m args below meth c H locs 0 0 Q (F0 m 54 ls []) := by
                    intro n
                    induction n with
                    | zero => intro x_22 f_25 g_24 H locs ls hi_23 hmu; exact absurd hmu (Nat.not_lt_zero _)
                    | succ n ih_lp_26 =>
                      intro x_22 f_25 g_24 H locs ls hi_23 hmu_lp_26 hP hD hS hl
                      refine lv_iload (pc := 54) hx hb dX12_nears_54 (lv_at hl 0 rfl) ?_
                      refine b_if_le (pc := 56) (tgt := 112) hx hb rfl  dX12_nears_56 (by decide) (fun c_27 => ?_) (fun c_27 => ?_)
                      ·
                        as_aux_lemma =>
                          refine lv_aload_n (pc := 112) hx hb dX12_nears_112 rfl (lv_at hl 4 rfl) ?_
                          refine va_get (pc := 113) (ci := 12) (v := .ref a30) (C := RX12) (T := TX12) (N := 73) hx hb hts iX12 hown hK hP 0 rfl rfl 50 (by decide) (hts _ tw_1451) (fun _ h9 => h9) rfl dX12_nears_113 ?_
                          refine lv_iload (pc := 116) hx hb dX12_nears_116 (lv_at hl 0 rfl) ?_
                          refine lv_lload (pc := 118) hx hb dX12_nears_118 (lv_at hl 1 rfl) ?_
                          refine g_lastore (pc := 120) hx hb hK hP hD hS 4 3 rfl rfl (n_in rfl (by first | exact (om_0 hi_23.1) | ((first | omega | (unfold zBd at *; omega)))) (by first | exact (om_1228 c_27) | ((first | omega | (unfold zBd at *; omega))))) dX12_nears_120 (fun g_28 H locs hP hD hS => ?_)
                          replace hP : va_P D gcl (zS_8 cB cC cI cJ a0 a1 x1 x2 x3 x4 x5 x6 x7 x8 a2 a3 a4 a5 a6 a7 a8 a9 a10 a11 a12 a13 a14 a15 a16 x9 x10 x11 x12 x13 x14 a17 a18 a19 x15 a20 x16 a21 x17 x18 a22 a23 a24 a25 x19 a26 x20 a27 a28 a29 y0 a30 a31 a32 a33 a34 a35 a36 a37 a38 x21 x22 x23 y1 a39 x24 a40 a41 a42 a43 x25 x26 x27 x28 a29 (u_15.2.1 0) a18 f1 a28 f2 a30 g_28 a31 f_25) H := hP
                          replace hD : va_D A (zS_8 cB cC cI cJ a0 a1 x1 x2 x3 x4 x5 x6 x7 x8 a2 a3 a4 a5 a6 a7 a8 a9 a10 a11 a12 a13 a14 a15 a16 x9 x10 x11 x12 x13 x14 a17 a18 a19 x15 a20 x16 a21 x17 x18 a22 a23 a24 a25 x19 a26 x20 a27 a28 a29 y0 a30 a31 a32 a33 a34 a35 a36 a37 a38 x21 x22 x23 y1 a39 x24 a40 a41 a42 a43 x25 x26 x27 x28 a29 (u_15.2.1 0) a18 f1 a28 f2 a30 g_28 a31 f_25) := hD
                          refine lv_aload_n (pc := 121) hx hb dX12_nears_121 rfl (lv_at hl 4 rfl) ?_
                          refine va_get (pc := 122) (ci := 12) (v := .ref a31) (C := RX12) (T := TX12) (N := 73) hx hb hts iX12 hown hK hP 0 rfl rfl 51 (by decide) (hts _ tw_1452) (fun _ h9 => h9) rfl dX12_nears_122 ?_
                          refine lv_iload (pc := 125) hx hb dX12_nears_125 (lv_at hl 0 rfl) ?_
                          refine lv_iload_n (pc := 127) hx hb dX12_nears_127 rfl (lv_at hl 2 rfl) ?_
                          refine g_iastore (pc := 128) hx hb hK hP hD hS 5 2 rfl rfl (n_in rfl (by first | exact (om_0 hi_23.1) | ((first | omega | (unfold zBd at *; omega)))) (by first | exact (om_1228 c_27) | ((first | omega | (unfold zBd at *; omega))))) dX12_nears_128 (fun f_29 H locs hP hD hS => ?_)
                          replace hP : va_P D gcl (zS_8 cB cC cI cJ a0 a1 x1 x2 x3 x4 x5 x6 x7 x8 a2 a3 a4 a5 a6 a7 a8 a9 a10 a11 a12 a13 a14 a15 a16 x9 x10 x11 x12 x13 x14 a17 a18 a19 x15 a20 x16 a21 x17 x18 a22 a23 a24 a25 x19 a26 x20 a27 a28 a29 y0 a30 a31 a32 a33 a34 a35 a36 a37 a38 x21 x22 x23 y1 a39 x24 a40 a41 a42 a43 x25 x26 x27 x28 a29 (u_15.2.1 0) a18 f1 a28 f2 a30 g_28 a31 f_29) H := hP
                          replace hD : va_D A (zS_8 cB cC cI cJ a0 a1 x1 x2 x3 x4 x5 x6 x7 x8 a2 a3 a4 a5 a6 a7 a8 a9 a10 a11 a12 a13 a14 a15 a16 x9 x10 x11 x12 x13 x14 a17 a18 a19 x15 a20 x16 a21 x17 x18 a22 a23 a24 a25 x19 a26 x20 a27 a28 a29 y0 a30 a31 a32 a33 a34 a35 a36 a37 a38 x21 x22 x23 y1 a39 x24 a40 a41 a42 a43 x25 x26 x27 x28 a29 (u_15.2.1 0) a18 f1 a28 f2 a30 g_28 a31 f_29) := hD
                          as_aux_lemma =>
                            refine b_iinc (pc := 129) hx hb dX12_nears_129 hl (k := 2) rfl rfl tI_1 (by first | exact (om_2 hi_2.1) | ((first | omega | (unfold zBd at *; omega)))) (by first | exact (om_1087 c_14 rr_11.2) | ((first | omega | (unfold zBd at *; omega)))) (by decide) (fun x_30 ex_30 ls hl => ?_)
                            replace hl : lv_has ls 7 [(3, .int x_30), (6, .int x_22), (4, .long r_16), (2, .int x_3), (0, .ref a0), (1, .int x0)] := hl
                            refine lv_goto (pc := 132) (tgt := 4) hx hb dX12_nears_132 (by decide) ?_
                            exact ih_lp_9 x_30 x_3 (u_15.2.1 0) f_29 g_28 _ _ ls (by first | exact (om_1088 ex_30 hi_2.1 c_14 rr_11.2) | ((first | omega | (unfold zBd at *; omega)))) hi_4 hi_8 (by (first | omega | (unfold zBd at *; omega))) hP hD hS (lv_sub hl [0, 3, 4, 5] rfl)
                      ·
                        as_aux_lemma =>
                          refine lv_aload_n (pc := 59) hx hb dX12_nears_59 rfl (lv_at hl 4 rfl) ?_
                          refine va_get (pc := 60) (ci := 12) (v := .ref a30) (C := RX12) (T := TX12) (N := 73) hx hb hts iX12 hown hK hP 0 rfl rfl 50 (by decide) (hts _ tw_1451) (fun _ h9 => h9) rfl dX12_nears_60 ?_
                          refine lv_iload (pc := 63) hx hb dX12_nears_63 (lv_at hl 0 rfl) ?_
                          refine lv_iconst (pc := 65) (v := 1) hx hb dX12_nears_65 (by decide) ?_
                          refine b_isub (pc := 66) hx hb rfl tI_1 (by first | exact (om_693 c_27) | ((first | omega | (unfold zBd at *; omega)))) (by first | exact (om_1230 hi_23.2) | ((first | omega | (unfold zBd at *; omega)))) dX12_nears_66 (fun x_31 ex_31 => ?_)
                          refine va_lald (pc := 67) hx hb hK hP 4 3 rfl rfl (n_in rfl (by first | exact (om_694 ex_31 c_27) | ((first | omega | (unfold zBd at *; omega)))) (by first | exact (om_1231 ex_31 hi_23.2) | ((first | omega | (unfold zBd at *; omega))))) dX12_nears_67 ?_
                          refine lv_topl (fun y_32 ey_32 => ?_)
                          have ry_32 := n_rngL y_32
                          refine lv_lload (pc := 68) hx hb dX12_nears_68 (lv_at hl 1 rfl) ?_
                          refine b_lcmp_le (pc := 70) (tgt := 112) hx hb rfl rfl dX12_nears_70 dX12_nears_71 (by decide) (fun c_33 => ?_) (fun c_33 => ?_)
                          ·
                            as_aux_lemma =>
                              refine lv_aload_n (pc := 112) hx hb dX12_nears_112 rfl (lv_at hl 4 rfl) ?_
                              refine va_get (pc := 113) (ci := 12) (v := .ref a30) (C := RX12) (T := TX12) (N := 73) hx hb hts iX12 hown hK hP 0 rfl rfl 50 (by decide) (hts _ tw_1451) (fun _ h9 => h9) rfl dX12_nears_113 ?_
                              refine lv_iload (pc := 116) hx hb dX12_nears_116 (lv_at hl 0 rfl) ?_
                              refine lv_lload (pc := 118) hx hb dX12_nears_118 (lv_at hl 1 rfl) ?_
                              refine g_lastore (pc := 120) hx hb hK hP hD hS 4 3 rfl rfl (n_in rfl (by first | exact (om_1232 c_27) | ((first | omega | (unfold zBd at *; omega)))) (by first | exact (om_1233 hi_23.2) | ((first | omega | (unfold zBd at *; omega))))) dX12_nears_120 (fun g_34 H locs hP hD hS => ?_)
                              replace hP : va_P D gcl (zS_8 cB cC cI cJ a0 a1 x1 x2 x3 x4 x5 x6 x7 x8 a2 a3 a4 a5 a6 a7 a8 a9 a10 a11 a12 a13 a14 a15 a16 x9 x10 x11 x12 x13 x14 a17 a18 a19 x15 a20 x16 a21 x17 x18 a22 a23 a24 a25 x19 a26 x20 a27 a28 a29 y0 a30 a31 a32 a33 a34 a35 a36 a37 a38 x21 x22 x23 y1 a39 x24 a40 a41 a42 a43 x25 x26 x27 x28 a29 (u_15.2.1 0) a18 f1 a28 f2 a30 g_34 a31 f_25) H := hP
                              replace hD : va_D A (zS_8 cB cC cI cJ a0 a1 x1 x2 x3 x4 x5 x6 x7 x8 a2 a3 a4 a5 a6 a7 a8 a9 a10 a11 a12 a13 a14 a15 a16 x9 x10 x11 x12 x13 x14 a17 a18 a19 x15 a20 x16 a21 x17 x18 a22 a23 a24 a25 x19 a26 x20 a27 a28 a29 y0 a30 a31 a32 a33 a34 a35 a36 a37 a38 x21 x22 x23 y1 a39 x24 a40 a41 a42 a43 x25 x26 x27 x28 a29 (u_15.2.1 0) a18 f1 a28 f2 a30 g_34 a31 f_25) := hD
                              refine lv_aload_n (pc := 121) hx hb dX12_nears_121 rfl (lv_at hl 4 rfl) ?_
                              refine va_get (pc := 122) (ci := 12) (v := .ref a31) (C := RX12) (T := TX12) (N := 73) hx hb hts iX12 hown hK hP 0 rfl rfl 51 (by decide) (hts _ tw_1452) (fun _ h9 => h9) rfl dX12_nears_122 ?_
                              refine lv_iload (pc := 125) hx hb dX12_nears_125 (lv_at hl 0 rfl) ?_
                              refine lv_iload_n (pc := 127) hx hb dX12_nears_127 rfl (lv_at hl 2 rfl) ?_
                              refine g_iastore (pc := 128) hx hb hK hP hD hS 5 2 rfl rfl (n_in rfl (by first | exact (om_1232 c_27) | ((first | omega | (unfold zBd at *; omega)))) (by first | exact (om_1233 hi_23.2) | ((first | omega | (unfold zBd at *; omega))))) dX12_nears_128 (fun f_35 H locs hP hD hS => ?_)
                              replace hP : va_P D gcl (zS_8 cB cC cI cJ a0 a1 x1 x2 x3 x4 x5 x6 x7 x8 a2 a3 a4 a5 a6 a7 a8 a9 a10 a11 a12 a13 a14 a15 a16 x9 x10 x11 x12 x13 x14 a17 a18 a19 x15 a20 x16 a21 x17 x18 a22 a23 a24 a25 x19 a26 x20 a27 a28 a29 y0 a30 a31 a32 a33 a34 a35 a36 a37 a38 x21 x22 x23 y1 a39 x24 a40 a41 a42 a43 x25 x26 x27 x28 a29 (u_15.2.1 0) a18 f1 a28 f2 a30 g_34 a31 f_35) H := hP
                              replace hD : va_D A (zS_8 cB cC cI cJ a0 a1 x1 x2 x3 x4 x5 x6 x7 x8 a2 a3 a4 a5 a6 a7 a8 a9 a10 a11 a12 a13 a14 a15 a16 x9 x10 x11 x12 x13 x14 a17 a18 a19 x15 a20 x16 a21 x17 x18 a22 a23 a24 a25 x19 a26 x20 a27 a28 a29 y0 a30 a31 a32 a33 a34 a35 a36 a37 a38 x21 x22 x23 y1 a39 x24 a40 a41 a42 a43 x25 x26 x27 x28 a29 (u_15.2.1 0) a18 f1 a28 f2 a30 g_34 a31 f_35) := hD
                              as_aux_lemma =>
                                refine b_iinc (pc := 129) hx hb dX12_nears_129 hl (k := 2) rfl rfl tI_1 (by first | exact (om_2 hi_2.1) | ((first | omega | (unfold zBd at *; omega)))) (by first | exact (om_1087 c_14 rr_11.2) | ((first | omega | (unfold zBd at *; omega)))) (by decide) (fun x_36 ex_36 ls hl => ?_)
                                replace hl : lv_has ls 7 [(3, .int x_36), (6, .int x_22), (4, .long r_16), (2, .int x_3), (0, .ref a0), (1, .int x0)] := hl
                                refine lv_goto (pc := 132) (tgt := 4) hx hb dX12_nears_132 (by decide) ?_
                                exact ih_lp_9 x_36 x_3 (u_15.2.1 0) f_35 g_34 _ _ ls (by first | exact (om_1088 ex_36 hi_2.1 c_14 rr_11.2) | ((first | omega | (unfold zBd at *; omega)))) hi_4 hi_8 (by (first | omega | (unfold zBd at *; omega))) hP hD hS (lv_sub hl [0, 3, 4, 5] rfl)
                          ·
                            as_aux_lemma =>
                              refine lv_aload_n (pc := 74) hx hb dX12_nears_74 rfl (lv_at hl 4 rfl) ?_
                              refine va_get (pc := 75) (ci := 12) (v := .ref a30) (C := RX12) (T := TX12) (N := 73) hx hb hts iX12 hown hK hP 0 rfl rfl 50 (by decide) (hts _ tw_1451) (fun _ h9 => h9) rfl dX12_nears_75 ?_
                              refine lv_iload (pc := 78) hx hb dX12_nears_78 (lv_at hl 0 rfl) ?_
                              refine lv_aload_n (pc := 80) hx hb dX12_nears_80 rfl (lv_at hl 4 rfl) ?_
                              refine va_get (pc := 81) (ci := 12) (v := .ref a30) (C := RX12) (T := TX12) (N := 73) hx hb hts iX12 hown hK hP 0 rfl rfl 50 (by decide) (hts _ tw_1451) (fun _ h9 => h9) rfl dX12_nears_81 ?_
                              refine lv_iload (pc := 84) hx hb dX12_nears_84 (lv_at hl 0 rfl) ?_
                              refine lv_iconst (pc := 86) (v := 1) hx hb dX12_nears_86 (by decide) ?_
                              refine b_isub (pc := 87) hx hb rfl tI_1 (by first | exact (om_693 c_27) | ((first | omega | (unfold zBd at *; omega)))) (by first | exact (om_1230 hi_23.2) | ((first | omega | (unfold zBd at *; omega)))) dX12_nears_87 (fun x_37 ex_37 => ?_)
                              refine va_lald (pc := 88) hx hb hK hP 4 3 rfl rfl (n_in rfl (by first | exact (om_694 ex_37 c_27) | ((first | omega | (unfold zBd at *; omega)))) (by first | exact (om_1231 ex_37 hi_23.2) | ((first | omega | (unfold zBd at *; omega))))) dX12_nears_88 ?_
                              refine lv_topl (fun y_38 ey_38 => ?_)
                              have ry_38 := n_rngL y_38
                              as_aux_lemma =>
                                refine g_lastore (pc := 89) hx hb hK hP hD hS 4 3 rfl rfl (n_in rfl (by first | exact (om_1232 c_27) | ((first | omega | (unfold zBd at *; omega)))) (by first | exact (om_1233 hi_23.2) | ((first | omega | (unfold zBd at *; omega))))) dX12_nears_89 (fun g_39 H locs hP hD hS => ?_)
                                replace hP : va_P D gcl (zS_8 cB cC cI cJ a0 a1 x1 x2 x3 x4 x5 x6 x7 x8 a2 a3 a4 a5 a6 a7 a8 a9 a10 a11 a12 a13 a14 a15 a16 x9 x10 x11 x12 x13 x14 a17 a18 a19 x15 a20 x16 a21 x17 x18 a22 a23 a24 a25 x19 a26 x20 a27 a28 a29 y0 a30 a31 a32 a33 a34 a35 a36 a37 a38 x21 x22 x23 y1 a39 x24 a40 a41 a42 a43 x25 x26 x27 x28 a29 (u_15.2.1 0) a18 f1 a28 f2 a30 g_39 a31 f_25) H := hP
                                replace hD : va_D A (zS_8 cB cC cI cJ a0 a1 x1 x2 x3 x4 x5 x6 x7 x8 a2 a3 a4 a5 a6 a7 a8 a9 a10 a11 a12 a13 a14 a15 a16 x9 x10 x11 x12 x13 x14 a17 a18 a19 x15 a20 x16 a21 x17 x18 a22 a23 a24 a25 x19 a26 x20 a27 a28 a29 y0 a30 a31 a32 a33 a34 a35 a36 a37 a38 x21 x22 x23 y1 a39 x24 a40 a41 a42 a43 x25 x26 x27 x28 a29 (u_15.2.1 0) a18 f1 a28 f2 a30 g_39 a31 f_25) := hD
                                refine lv_aload_n (pc := 90) hx hb dX12_nears_90 rfl (lv_at hl 4 rfl) ?_
                                refine va_get (pc := 91) (ci := 12) (v := .ref a31) (C := RX12) (T := TX12) (N := 73) hx hb hts iX12 hown hK hP 0 rfl rfl 51 (by decide) (hts _ tw_1452) (fun _ h9 => h9) rfl dX12_nears_91 ?_
                                refine lv_iload (pc := 94) hx hb dX12_nears_94 (lv_at hl 0 rfl) ?_
                                refine lv_aload_n (pc := 96) hx hb dX12_nears_96 rfl (lv_at hl 4 rfl) ?_
                                refine va_get (pc := 97) (ci := 12) (v := .ref a31) (C := RX12) (T := TX12) (N := 73) hx hb hts iX12 hown hK hP 0 rfl rfl 51 (by decide) (hts _ tw_1452) (fun _ h9 => h9) rfl dX12_nears_97 ?_
                                refine lv_iload (pc := 100) hx hb dX12_nears_100 (lv_at hl 0 rfl) ?_
                                refine lv_iconst (pc := 102) (v := 1) hx hb dX12_nears_102 (by decide) ?_
                                refine b_isub (pc := 103) hx hb rfl tI_1 (by first | exact (om_693 c_27) | ((first | omega | (unfold zBd at *; omega)))) (by first | exact (om_1230 hi_23.2) | ((first | omega | (unfold zBd at *; omega)))) dX12_nears_103 (fun x_40 ex_40 => ?_)
                                refine va_iald (pc := 104) hx hb hK hP 5 2 rfl rfl (n_in rfl (by first | exact (om_694 ex_40 c_27) | ((first | omega | (unfold zBd at *; omega)))) (by first | exact (om_1231 ex_40 hi_23.2) | ((first | omega | (unfold zBd at *; omega))))) dX12_nears_104 ?_
                                as_aux_lemma =>
                                  refine lv_topi (fun x_41 ex_41 => ?_)
                                  have rx_41 : zBd x_41.toInt (-2147483648) 2147483647 := n_rng x_41
                                  refine g_iastore (pc := 105) hx hb hK hP hD hS 5 2 rfl rfl (n_in rfl (by first | exact (om_1232 c_27) | ((first | omega | (unfold zBd at *; omega)))) (by first | exact (om_1233 hi_23.2) | ((first | omega | (unfold zBd at *; omega))))) dX12_nears_105 (fun f_42 H locs hP hD hS => ?_)
                                  replace hP : va_P D gcl (zS_8 cB cC cI cJ a0 a1 x1 x2 x3 x4 x5 x6 x7 x8 a2 a3 a4 a5 a6 a7 a8 a9 a10 a11 a12 a13 a14 a15 a16 x9 x10 x11 x12 x13 x14 a17 a18 a19 x15 a20 x16 a21 x17 x18 a22 a23 a24 a25 x19 a26 x20 a27 a28 a29 y0 a30 a31 a32 a33 a34 a35 a36 a37 a38 x21 x22 x23 y1 a39 x24 a40 a41 a42 a43 x25 x26 x27 x28 a29 (u_15.2.1 0) a18 f1 a28 f2 a30 g_39 a31 f_42) H := hP
                                  replace hD : va_D A (zS_8 cB cC cI cJ a0 a1 x1 x2 x3 x4 x5 x6 x7 x8 a2 a3 a4 a5 a6 a7 a8 a9 a10 a11 a12 a13 a14 a15 a16 x9 x10 x11 x12 x13 x14 a17 a18 a19 x15 a20 x16 a21 x17 x18 a22 a23 a24 a25 x19 a26 x20 a27 a28 a29 y0 a30 a31 a32 a33 a34 a35 a36 a37 a38 x21 x22 x23 y1 a39 x24 a40 a41 a42 a43 x25 x26 x27 x28 a29 (u_15.2.1 0) a18 f1 a28 f2 a30 g_39 a31 f_42) := hD
                                  refine b_iinc (pc := 106) hx hb dX12_nears_106 hl (k := 0) rfl rfl tI_m1 (by first | exact (om_1234 c_27) | ((first | omega | (unfold zBd at *; omega)))) (by first | exact (om_1235 hi_23.2) | ((first | omega | (unfold zBd at *; omega)))) (by decide) (fun x_43 ex_43 ls hl => ?_)
                                  replace hl : lv_has ls 7 [(6, .int x_43), (4, .long r_16), (3, .int x_1), (2, .int x_3), (0, .ref a0), (1, .int x0)] := hl
                                  refine lv_goto (pc := 109) (tgt := 54) hx hb dX12_nears_109 (by decide) ?_
                                  exact ih_lp_26 x_43 f_42 g_39 _ _ ls (by first | exact (om_1236 ex_43 c_27 hi_23.2) | ((first | omega | (unfold zBd at *; omega)))) (by (first | omega | (unfold zBd at *; omega))) hP hD hS (lv_sub hl [0, 1, 2, 3, 4, 5] rfl)
                  exact lp_26 _ x_21 f_7 g_6 _ _ ls (by first | exact (om_1619 ex_21 c_20 hp1.1 hi_4.2) | ((first | omega | (unfold zBd at *; omega)))) (Nat.lt_succ_self _) hP hD hS (lv_sub hl [0, 1, 2, 3, 4, 5] rfl)
              ·
                as_aux_lemma =>
                  refine b_iinc (pc := 46) hx hb dX12_nears_46 hl (k := 2) rfl rfl tI_1 (by first | exact (om_2 hi_4.1) | ((first | omega | (unfold zBd at *; omega)))) (by first | exact (om_1016 hi_4.2) | ((first | omega | (unfold zBd at *; omega)))) (by decide) (fun x_44 ex_44 ls hl => ?_)
                  replace hl : lv_has ls 7 [(2, .int x_44), (4, .long r_16), (3, .int x_1), (0, .ref a0), (1, .int x0)] := hl
                  refine lv_iload_n (pc := 49) hx hb dX12_nears_49 rfl (lv_at hl 0 rfl) ?_
                  refine lv_iconst (pc := 50) (v := 1) hx hb dX12_nears_50 (by decide) ?_
                  refine b_isub (pc := 51) hx hb rfl tI_1 (by first | exact (om_1620 ex_44 hi_4.1) | ((first | omega | (unfold zBd at *; omega)))) (by first | exact (om_1621 ex_44 hi_4.2) | ((first | omega | (unfold zBd at *; omega)))) dX12_nears_51 (fun x_45 ex_45 => ?_)
                  refine lv_istore (pc := 52) (lv' := [(6, .int x_45), (2, .int x_44), (4, .long r_16), (3, .int x_1), (0, .ref a0), (1, .int x0)]) hx hb dX12_nears_52 hl (by decide) rfl (fun ls hl => ?_)
                  have lp_50 : ∀ (n : Nat) (x_46 : Int32) (f_49 : Nat → Int32) (g_48 : Nat → Int64) (H : Heap) (locs : List Loc) (ls : Array Slot), (0 ≤ x_46.toInt ∧ x_46.toInt ≤ 9) → (x_46.toInt + 2147483648).toNat < n → va_P D gcl (zS_8 cB cC cI cJ a0 a1 x1 x2 x3 x4 x5 x6 x7 x8 a2 a3 a4 a5 a6 a7 a8 a9 a10 a11 a12 a13 a14 a15 a16 x9 x10 x11 x12 x13 x14 a17 a18 a19 x15 a20 x16 a21 x17 x18 a22 a23 a24 a25 x19 a26 x20 a27 a28 a29 y0 a30 a31 a32 a33 a34 a35 a36 a37 a38 x21 x22 x23 y1 a39 x24 a40 a41 a42 a43 x25 x26 x27 x28 a29 (u_15.2.1 0) a18 f1 a28 f2 a30 g_48 a31 f_49) H → va_D A (zS_8 cB cC cI cJ a0 a1 x1 x2 x3 x4 x5 x6 x7 x8 a2 a3 a4 a5 a6 a7 a8 a9 a10 a11 a12 a13 a14 a15 a16 x9 x10 x11 x12 x13 x14 a17 a18 a19 x15 a20 x16 a21 x17 x18 a22 a23 a24 a25 x19 a26 x20 a27 a28 a29 y0 a30 a31 a32 a33 a34 a35 a36 a37 a38 x21 x22 x23 y1 a39 x24 a40 a41 a42 a43 x25 x26 x27 x28 a29 (u_15.2.1 0) a18 f1 a28 f2 a30 g_48 a31 f_49) → va_S A s.heap H locs → lv_has ls 7 [(6, .int x_46), (2, .int x_44), (4, .long r_16), (3, .int x_1), (0, .ref a0), (1, .int x0)] → W p l e ({ frames := 3, cells := 0, slots := 0, locals := 70 }) s m args below meth c H locs 0 0 Q (F0 m 54 ls []) := by
                    intro n
                    induction n with
                    | zero => intro x_46 f_49 g_48 H locs ls hi_47 hmu; exact absurd hmu (Nat.not_lt_zero _)
                    | succ n ih_lp_50 =>
                      intro x_46 f_49 g_48 H locs ls hi_47 hmu_lp_50 hP hD hS hl
                      refine lv_iload (pc := 54) hx hb dX12_nears_54 (lv_at hl 0 rfl) ?_
                      refine b_if_le (pc := 56) (tgt := 112) hx hb rfl  dX12_nears_56 (by decide) (fun c_51 => ?_) (fun c_51 => ?_)
                      ·
                        as_aux_lemma =>
                          refine lv_aload_n (pc := 112) hx hb dX12_nears_112 rfl (lv_at hl 4 rfl) ?_
                          refine va_get (pc := 113) (ci := 12) (v := .ref a30) (C := RX12) (T := TX12) (N := 73) hx hb hts iX12 hown hK hP 0 rfl rfl 50 (by decide) (hts _ tw_1451) (fun _ h9 => h9) rfl dX12_nears_113 ?_
                          refine lv_iload (pc := 116) hx hb dX12_nears_116 (lv_at hl 0 rfl) ?_
                          refine lv_lload (pc := 118) hx hb dX12_nears_118 (lv_at hl 2 rfl) ?_
                          refine g_lastore (pc := 120) hx hb hK hP hD hS 4 3 rfl rfl (n_in rfl (by first | exact (om_0 hi_47.1) | ((first | omega | (unfold zBd at *; omega)))) (by first | exact (om_1228 c_51) | ((first | omega | (unfold zBd at *; omega))))) dX12_nears_120 (fun g_52 H locs hP hD hS => ?_)
                          replace hP : va_P D gcl (zS_8 cB cC cI cJ a0 a1 x1 x2 x3 x4 x5 x6 x7 x8 a2 a3 a4 a5 a6 a7 a8 a9 a10 a11 a12 a13 a14 a15 a16 x9 x10 x11 x12 x13 x14 a17 a18 a19 x15 a20 x16 a21 x17 x18 a22 a23 a24 a25 x19 a26 x20 a27 a28 a29 y0 a30 a31 a32 a33 a34 a35 a36 a37 a38 x21 x22 x23 y1 a39 x24 a40 a41 a42 a43 x25 x26 x27 x28 a29 (u_15.2.1 0) a18 f1 a28 f2 a30 g_52 a31 f_49) H := hP
                          replace hD : va_D A (zS_8 cB cC cI cJ a0 a1 x1 x2 x3 x4 x5 x6 x7 x8 a2 a3 a4 a5 a6 a7 a8 a9 a10 a11 a12 a13 a14 a15 a16 x9 x10 x11 x12 x13 x14 a17 a18 a19 x15 a20 x16 a21 x17 x18 a22 a23 a24 a25 x19 a26 x20 a27 a28 a29 y0 a30 a31 a32 a33 a34 a35 a36 a37 a38 x21 x22 x23 y1 a39 x24 a40 a41 a42 a43 x25 x26 x27 x28 a29 (u_15.2.1 0) a18 f1 a28 f2 a30 g_52 a31 f_49) := hD
                          refine lv_aload_n (pc := 121) hx hb dX12_nears_121 rfl (lv_at hl 4 rfl) ?_
                          refine va_get (pc := 122) (ci := 12) (v := .ref a31) (C := RX12) (T := TX12) (N := 73) hx hb hts iX12 hown hK hP 0 rfl rfl 51 (by decide) (hts _ tw_1452) (fun _ h9 => h9) rfl dX12_nears_122 ?_
                          refine lv_iload (pc := 125) hx hb dX12_nears_125 (lv_at hl 0 rfl) ?_
                          refine lv_iload_n (pc := 127) hx hb dX12_nears_127 rfl (lv_at hl 3 rfl) ?_
                          refine g_iastore (pc := 128) hx hb hK hP hD hS 5 2 rfl rfl (n_in rfl (by first | exact (om_0 hi_47.1) | ((first | omega | (unfold zBd at *; omega)))) (by first | exact (om_1228 c_51) | ((first | omega | (unfold zBd at *; omega))))) dX12_nears_128 (fun f_53 H locs hP hD hS => ?_)
                          replace hP : va_P D gcl (zS_8 cB cC cI cJ a0 a1 x1 x2 x3 x4 x5 x6 x7 x8 a2 a3 a4 a5 a6 a7 a8 a9 a10 a11 a12 a13 a14 a15 a16 x9 x10 x11 x12 x13 x14 a17 a18 a19 x15 a20 x16 a21 x17 x18 a22 a23 a24 a25 x19 a26 x20 a27 a28 a29 y0 a30 a31 a32 a33 a34 a35 a36 a37 a38 x21 x22 x23 y1 a39 x24 a40 a41 a42 a43 x25 x26 x27 x28 a29 (u_15.2.1 0) a18 f1 a28 f2 a30 g_52 a31 f_53) H := hP
                          replace hD : va_D A (zS_8 cB cC cI cJ a0 a1 x1 x2 x3 x4 x5 x6 x7 x8 a2 a3 a4 a5 a6 a7 a8 a9 a10 a11 a12 a13 a14 a15 a16 x9 x10 x11 x12 x13 x14 a17 a18 a19 x15 a20 x16 a21 x17 x18 a22 a23 a24 a25 x19 a26 x20 a27 a28 a29 y0 a30 a31 a32 a33 a34 a35 a36 a37 a38 x21 x22 x23 y1 a39 x24 a40 a41 a42 a43 x25 x26 x27 x28 a29 (u_15.2.1 0) a18 f1 a28 f2 a30 g_52 a31 f_53) := hD
                          as_aux_lemma =>
                            refine b_iinc (pc := 129) hx hb dX12_nears_129 hl (k := 3) rfl rfl tI_1 (by first | exact (om_2 hi_2.1) | ((first | omega | (unfold zBd at *; omega)))) (by first | exact (om_1087 c_14 rr_11.2) | ((first | omega | (unfold zBd at *; omega)))) (by decide) (fun x_54 ex_54 ls hl => ?_)
                            replace hl : lv_has ls 7 [(3, .int x_54), (6, .int x_46), (2, .int x_44), (4, .long r_16), (0, .ref a0), (1, .int x0)] := hl
                            refine lv_goto (pc := 132) (tgt := 4) hx hb dX12_nears_132 (by decide) ?_
                            exact ih_lp_9 x_54 x_44 (u_15.2.1 0) f_53 g_52 _ _ ls (by first | exact (om_1088 ex_54 hi_2.1 c_14 rr_11.2) | ((first | omega | (unfold zBd at *; omega)))) (by first | exact (om_1622 ex_44 hi_4.1 c_20 hp1.2) | ((first | omega | (unfold zBd at *; omega)))) (by first | exact (om_40 ex_44 c_20) | ((first | omega | (unfold zBd at *; omega)))) (by (first | omega | (unfold zBd at *; omega))) hP hD hS (lv_sub hl [0, 2, 4, 5] rfl)
                      ·
                        as_aux_lemma =>
                          refine lv_aload_n (pc := 59) hx hb dX12_nears_59 rfl (lv_at hl 4 rfl) ?_
                          refine va_get (pc := 60) (ci := 12) (v := .ref a30) (C := RX12) (T := TX12) (N := 73) hx hb hts iX12 hown hK hP 0 rfl rfl 50 (by decide) (hts _ tw_1451) (fun _ h9 => h9) rfl dX12_nears_60 ?_
                          refine lv_iload (pc := 63) hx hb dX12_nears_63 (lv_at hl 0 rfl) ?_
                          refine lv_iconst (pc := 65) (v := 1) hx hb dX12_nears_65 (by decide) ?_
                          refine b_isub (pc := 66) hx hb rfl tI_1 (by first | exact (om_693 c_51) | ((first | omega | (unfold zBd at *; omega)))) (by first | exact (om_1230 hi_47.2) | ((first | omega | (unfold zBd at *; omega)))) dX12_nears_66 (fun x_55 ex_55 => ?_)
                          refine va_lald (pc := 67) hx hb hK hP 4 3 rfl rfl (n_in rfl (by first | exact (om_694 ex_55 c_51) | ((first | omega | (unfold zBd at *; omega)))) (by first | exact (om_1231 ex_55 hi_47.2) | ((first | omega | (unfold zBd at *; omega))))) dX12_nears_67 ?_
                          refine lv_topl (fun y_56 ey_56 => ?_)
                          have ry_56 := n_rngL y_56
                          refine lv_lload (pc := 68) hx hb dX12_nears_68 (lv_at hl 2 rfl) ?_
                          refine b_lcmp_le (pc := 70) (tgt := 112) hx hb rfl rfl dX12_nears_70 dX12_nears_71 (by decide) (fun c_57 => ?_) (fun c_57 => ?_)
                          ·
                            as_aux_lemma =>
                              refine lv_aload_n (pc := 112) hx hb dX12_nears_112 rfl (lv_at hl 4 rfl) ?_
                              refine va_get (pc := 113) (ci := 12) (v := .ref a30) (C := RX12) (T := TX12) (N := 73) hx hb hts iX12 hown hK hP 0 rfl rfl 50 (by decide) (hts _ tw_1451) (fun _ h9 => h9) rfl dX12_nears_113 ?_
                              refine lv_iload (pc := 116) hx hb dX12_nears_116 (lv_at hl 0 rfl) ?_
                              refine lv_lload (pc := 118) hx hb dX12_nears_118 (lv_at hl 2 rfl) ?_
                              refine g_lastore (pc := 120) hx hb hK hP hD hS 4 3 rfl rfl (n_in rfl (by first | exact (om_1232 c_51) | ((first | omega | (unfold zBd at *; omega)))) (by first | exact (om_1233 hi_47.2) | ((first | omega | (unfold zBd at *; omega))))) dX12_nears_120 (fun g_58 H locs hP hD hS => ?_)
                              replace hP : va_P D gcl (zS_8 cB cC cI cJ a0 a1 x1 x2 x3 x4 x5 x6 x7 x8 a2 a3 a4 a5 a6 a7 a8 a9 a10 a11 a12 a13 a14 a15 a16 x9 x10 x11 x12 x13 x14 a17 a18 a19 x15 a20 x16 a21 x17 x18 a22 a23 a24 a25 x19 a26 x20 a27 a28 a29 y0 a30 a31 a32 a33 a34 a35 a36 a37 a38 x21 x22 x23 y1 a39 x24 a40 a41 a42 a43 x25 x26 x27 x28 a29 (u_15.2.1 0) a18 f1 a28 f2 a30 g_58 a31 f_49) H := hP
                              replace hD : va_D A (zS_8 cB cC cI cJ a0 a1 x1 x2 x3 x4 x5 x6 x7 x8 a2 a3 a4 a5 a6 a7 a8 a9 a10 a11 a12 a13 a14 a15 a16 x9 x10 x11 x12 x13 x14 a17 a18 a19 x15 a20 x16 a21 x17 x18 a22 a23 a24 a25 x19 a26 x20 a27 a28 a29 y0 a30 a31 a32 a33 a34 a35 a36 a37 a38 x21 x22 x23 y1 a39 x24 a40 a41 a42 a43 x25 x26 x27 x28 a29 (u_15.2.1 0) a18 f1 a28 f2 a30 g_58 a31 f_49) := hD
                              refine lv_aload_n (pc := 121) hx hb dX12_nears_121 rfl (lv_at hl 4 rfl) ?_
                              refine va_get (pc := 122) (ci := 12) (v := .ref a31) (C := RX12) (T := TX12) (N := 73) hx hb hts iX12 hown hK hP 0 rfl rfl 51 (by decide) (hts _ tw_1452) (fun _ h9 => h9) rfl dX12_nears_122 ?_
                              refine lv_iload (pc := 125) hx hb dX12_nears_125 (lv_at hl 0 rfl) ?_
                              refine lv_iload_n (pc := 127) hx hb dX12_nears_127 rfl (lv_at hl 3 rfl) ?_
                              refine g_iastore (pc := 128) hx hb hK hP hD hS 5 2 rfl rfl (n_in rfl (by first | exact (om_1232 c_51) | ((first | omega | (unfold zBd at *; omega)))) (by first | exact (om_1233 hi_47.2) | ((first | omega | (unfold zBd at *; omega))))) dX12_nears_128 (fun f_59 H locs hP hD hS => ?_)
                              replace hP : va_P D gcl (zS_8 cB cC cI cJ a0 a1 x1 x2 x3 x4 x5 x6 x7 x8 a2 a3 a4 a5 a6 a7 a8 a9 a10 a11 a12 a13 a14 a15 a16 x9 x10 x11 x12 x13 x14 a17 a18 a19 x15 a20 x16 a21 x17 x18 a22 a23 a24 a25 x19 a26 x20 a27 a28 a29 y0 a30 a31 a32 a33 a34 a35 a36 a37 a38 x21 x22 x23 y1 a39 x24 a40 a41 a42 a43 x25 x26 x27 x28 a29 (u_15.2.1 0) a18 f1 a28 f2 a30 g_58 a31 f_59) H := hP
                              replace hD : va_D A (zS_8 cB cC cI cJ a0 a1 x1 x2 x3 x4 x5 x6 x7 x8 a2 a3 a4 a5 a6 a7 a8 a9 a10 a11 a12 a13 a14 a15 a16 x9 x10 x11 x12 x13 x14 a17 a18 a19 x15 a20 x16 a21 x17 x18 a22 a23 a24 a25 x19 a26 x20 a27 a28 a29 y0 a30 a31 a32 a33 a34 a35 a36 a37 a38 x21 x22 x23 y1 a39 x24 a40 a41 a42 a43 x25 x26 x27 x28 a29 (u_15.2.1 0) a18 f1 a28 f2 a30 g_58 a31 f_59) := hD
                              as_aux_lemma =>
                                refine b_iinc (pc := 129) hx hb dX12_nears_129 hl (k := 3) rfl rfl tI_1 (by first | exact (om_2 hi_2.1) | ((first | omega | (unfold zBd at *; omega)))) (by first | exact (om_1087 c_14 rr_11.2) | ((first | omega | (unfold zBd at *; omega)))) (by decide) (fun x_60 ex_60 ls hl => ?_)
                                replace hl : lv_has ls 7 [(3, .int x_60), (6, .int x_46), (2, .int x_44), (4, .long r_16), (0, .ref a0), (1, .int x0)] := hl
                                refine lv_goto (pc := 132) (tgt := 4) hx hb dX12_nears_132 (by decide) ?_
                                exact ih_lp_9 x_60 x_44 (u_15.2.1 0) f_59 g_58 _ _ ls (by first | exact (om_1088 ex_60 hi_2.1 c_14 rr_11.2) | ((first | omega | (unfold zBd at *; omega)))) (by first | exact (om_1622 ex_44 hi_4.1 c_20 hp1.2) | ((first | omega | (unfold zBd at *; omega)))) (by first | exact (om_40 ex_44 c_20) | ((first | omega | (unfold zBd at *; omega)))) (by (first | omega | (unfold zBd at *; omega))) hP hD hS (lv_sub hl [0, 2, 4, 5] rfl)
                          ·
                            as_aux_lemma =>
                              refine lv_aload_n (pc := 74) hx hb dX12_nears_74 rfl (lv_at hl 4 rfl) ?_
                              refine va_get (pc := 75) (ci := 12) (v := .ref a30) (C := RX12) (T := TX12) (N := 73) hx hb hts iX12 hown hK hP 0 rfl rfl 50 (by decide) (hts _ tw_1451) (fun _ h9 => h9) rfl dX12_nears_75 ?_
                              refine lv_iload (pc := 78) hx hb dX12_nears_78 (lv_at hl 0 rfl) ?_
                              refine lv_aload_n (pc := 80) hx hb dX12_nears_80 rfl (lv_at hl 4 rfl) ?_
                              refine va_get (pc := 81) (ci := 12) (v := .ref a30) (C := RX12) (T := TX12) (N := 73) hx hb hts iX12 hown hK hP 0 rfl rfl 50 (by decide) (hts _ tw_1451) (fun _ h9 => h9) rfl dX12_nears_81 ?_
                              refine lv_iload (pc := 84) hx hb dX12_nears_84 (lv_at hl 0 rfl) ?_
                              refine lv_iconst (pc := 86) (v := 1) hx hb dX12_nears_86 (by decide) ?_
                              refine b_isub (pc := 87) hx hb rfl tI_1 (by first | exact (om_693 c_51) | ((first | omega | (unfold zBd at *; omega)))) (by first | exact (om_1230 hi_47.2) | ((first | omega | (unfold zBd at *; omega)))) dX12_nears_87 (fun x_61 ex_61 => ?_)
                              refine va_lald (pc := 88) hx hb hK hP 4 3 rfl rfl (n_in rfl (by first | exact (om_694 ex_61 c_51) | ((first | omega | (unfold zBd at *; omega)))) (by first | exact (om_1231 ex_61 hi_47.2) | ((first | omega | (unfold zBd at *; omega))))) dX12_nears_88 ?_
                              refine lv_topl (fun y_62 ey_62 => ?_)
                              have ry_62 := n_rngL y_62
                              as_aux_lemma =>
                                refine g_lastore (pc := 89) hx hb hK hP hD hS 4 3 rfl rfl (n_in rfl (by first | exact (om_1232 c_51) | ((first | omega | (unfold zBd at *; omega)))) (by first | exact (om_1233 hi_47.2) | ((first | omega | (unfold zBd at *; omega))))) dX12_nears_89 (fun g_63 H locs hP hD hS => ?_)
                                replace hP : va_P D gcl (zS_8 cB cC cI cJ a0 a1 x1 x2 x3 x4 x5 x6 x7 x8 a2 a3 a4 a5 a6 a7 a8 a9 a10 a11 a12 a13 a14 a15 a16 x9 x10 x11 x12 x13 x14 a17 a18 a19 x15 a20 x16 a21 x17 x18 a22 a23 a24 a25 x19 a26 x20 a27 a28 a29 y0 a30 a31 a32 a33 a34 a35 a36 a37 a38 x21 x22 x23 y1 a39 x24 a40 a41 a42 a43 x25 x26 x27 x28 a29 (u_15.2.1 0) a18 f1 a28 f2 a30 g_63 a31 f_49) H := hP
                                replace hD : va_D A (zS_8 cB cC cI cJ a0 a1 x1 x2 x3 x4 x5 x6 x7 x8 a2 a3 a4 a5 a6 a7 a8 a9 a10 a11 a12 a13 a14 a15 a16 x9 x10 x11 x12 x13 x14 a17 a18 a19 x15 a20 x16 a21 x17 x18 a22 a23 a24 a25 x19 a26 x20 a27 a28 a29 y0 a30 a31 a32 a33 a34 a35 a36 a37 a38 x21 x22 x23 y1 a39 x24 a40 a41 a42 a43 x25 x26 x27 x28 a29 (u_15.2.1 0) a18 f1 a28 f2 a30 g_63 a31 f_49) := hD
                                refine lv_aload_n (pc := 90) hx hb dX12_nears_90 rfl (lv_at hl 4 rfl) ?_
                                refine va_get (pc := 91) (ci := 12) (v := .ref a31) (C := RX12) (T := TX12) (N := 73) hx hb hts iX12 hown hK hP 0 rfl rfl 51 (by decide) (hts _ tw_1452) (fun _ h9 => h9) rfl dX12_nears_91 ?_
                                refine lv_iload (pc := 94) hx hb dX12_nears_94 (lv_at hl 0 rfl) ?_
                                refine lv_aload_n (pc := 96) hx hb dX12_nears_96 rfl (lv_at hl 4 rfl) ?_
                                refine va_get (pc := 97) (ci := 12) (v := .ref a31) (C := RX12) (T := TX12) (N := 73) hx hb hts iX12 hown hK hP 0 rfl rfl 51 (by decide) (hts _ tw_1452) (fun _ h9 => h9) rfl dX12_nears_97 ?_
                                refine lv_iload (pc := 100) hx hb dX12_nears_100 (lv_at hl 0 rfl) ?_
                                refine lv_iconst (pc := 102) (v := 1) hx hb dX12_nears_102 (by decide) ?_
                                refine b_isub (pc := 103) hx hb rfl tI_1 (by first | exact (om_693 c_51) | ((first | omega | (unfold zBd at *; omega)))) (by first | exact (om_1230 hi_47.2) | ((first | omega | (unfold zBd at *; omega)))) dX12_nears_103 (fun x_64 ex_64 => ?_)
                                refine va_iald (pc := 104) hx hb hK hP 5 2 rfl rfl (n_in rfl (by first | exact (om_694 ex_64 c_51) | ((first | omega | (unfold zBd at *; omega)))) (by first | exact (om_1231 ex_64 hi_47.2) | ((first | omega | (unfold zBd at *; omega))))) dX12_nears_104 ?_
                                as_aux_lemma =>
                                  refine lv_topi (fun x_65 ex_65 => ?_)
                                  have rx_65 : zBd x_65.toInt (-2147483648) 2147483647 := n_rng x_65
                                  refine g_iastore (pc := 105) hx hb hK hP hD hS 5 2 rfl rfl (n_in rfl (by first | exact (om_1232 c_51) | ((first | omega | (unfold zBd at *; omega)))) (by first | exact (om_1233 hi_47.2) | ((first | omega | (unfold zBd at *; omega))))) dX12_nears_105 (fun f_66 H locs hP hD hS => ?_)
                                  replace hP : va_P D gcl (zS_8 cB cC cI cJ a0 a1 x1 x2 x3 x4 x5 x6 x7 x8 a2 a3 a4 a5 a6 a7 a8 a9 a10 a11 a12 a13 a14 a15 a16 x9 x10 x11 x12 x13 x14 a17 a18 a19 x15 a20 x16 a21 x17 x18 a22 a23 a24 a25 x19 a26 x20 a27 a28 a29 y0 a30 a31 a32 a33 a34 a35 a36 a37 a38 x21 x22 x23 y1 a39 x24 a40 a41 a42 a43 x25 x26 x27 x28 a29 (u_15.2.1 0) a18 f1 a28 f2 a30 g_63 a31 f_66) H := hP
                                  replace hD : va_D A (zS_8 cB cC cI cJ a0 a1 x1 x2 x3 x4 x5 x6 x7 x8 a2 a3 a4 a5 a6 a7 a8 a9 a10 a11 a12 a13 a14 a15 a16 x9 x10 x11 x12 x13 x14 a17 a18 a19 x15 a20 x16 a21 x17 x18 a22 a23 a24 a25 x19 a26 x20 a27 a28 a29 y0 a30 a31 a32 a33 a34 a35 a36 a37 a38 x21 x22 x23 y1 a39 x24 a40 a41 a42 a43 x25 x26 x27 x28 a29 (u_15.2.1 0) a18 f1 a28 f2 a30 g_63 a31 f_66) := hD
                                  refine b_iinc (pc := 106) hx hb dX12_nears_106 hl (k := 0) rfl rfl tI_m1 (by first | exact (om_1234 c_51) | ((first | omega | (unfold zBd at *; omega)))) (by first | exact (om_1235 hi_47.2) | ((first | omega | (unfold zBd at *; omega)))) (by decide) (fun x_67 ex_67 ls hl => ?_)
                                  replace hl : lv_has ls 7 [(6, .int x_67), (2, .int x_44), (4, .long r_16), (3, .int x_1), (0, .ref a0), (1, .int x0)] := hl
                                  refine lv_goto (pc := 109) (tgt := 54) hx hb dX12_nears_109 (by decide) ?_
                                  exact ih_lp_50 x_67 f_66 g_63 _ _ ls (by first | exact (om_1236 ex_67 c_51 hi_47.2) | ((first | omega | (unfold zBd at *; omega)))) (by (first | omega | (unfold zBd at *; omega))) hP hD hS (lv_sub hl [0, 1, 2, 3, 4, 5] rfl)
                  exact lp_50 _ x_45 f_7 g_6 _ _ ls (by first | exact (om_1623 ex_45 ex_44 hi_4.1 c_20 hp1.2) | ((first | omega | (unfold zBd at *; omega)))) (Nat.lt_succ_self _) hP hD hS (lv_sub hl [0, 1, 2, 3, 4, 5] rfl)
          ·
            as_aux_lemma =>
              refine lv_lload (pc := 24) hx hb dX12_nears_24 (lv_at hl 0 rfl) ?_
              refine lv_aload_n (pc := 26) hx hb dX12_nears_26 rfl (lv_at hl 3 rfl) ?_
              refine va_get (pc := 27) (ci := 12) (v := .ref a30) (C := RX12) (T := TX12) (N := 73) hx hb hts iX12 hown hK hP 0 rfl rfl 50 (by decide) (hts _ tw_1451) (fun _ h9 => h9) rfl dX12_nears_27 ?_
              refine lv_iload_n (pc := 30) hx hb dX12_nears_30 rfl (lv_at hl 2 rfl) ?_
              refine lv_iconst (pc := 31) (v := 1) hx hb dX12_nears_31 (by decide) ?_
              refine b_isub (pc := 32) hx hb rfl tI_1 (by first | exact (om_659 hi_4.1) | ((first | omega | (unfold zBd at *; omega)))) (by first | exact (om_1618 hi_4.2) | ((first | omega | (unfold zBd at *; omega)))) dX12_nears_32 (fun x_68 ex_68 => ?_)
              refine va_lald (pc := 33) hx hb hK hP 4 3 rfl rfl (n_in rfl (by first | exact (om_1624 ex_68 c_19 hp1.1) | ((first | omega | (unfold zBd at *; omega)))) (by first | exact (om_1625 ex_68 hi_4.2) | ((first | omega | (unfold zBd at *; omega))))) dX12_nears_33 ?_
              refine lv_topl (fun y_69 ey_69 => ?_)
              have ry_69 := n_rngL y_69
              refine b_lcmp_lt (pc := 34) (tgt := 41) hx hb rfl rfl dX12_nears_34 dX12_nears_35 (by decide) (fun c_70 => ?_) (fun c_70 => ?_)
              ·
                as_aux_lemma =>
                  refine lv_iload_n (pc := 41) hx hb dX12_nears_41 rfl (lv_at hl 2 rfl) ?_
                  refine lv_iload_n (pc := 42) hx hb dX12_nears_42 rfl (lv_at hl 4 rfl) ?_
                  refine b_icmp_ge (pc := 43) (tgt := 49) hx hb rfl rfl  dX12_nears_43 (by decide) (fun c_71 => ?_) (fun c_71 => ?_)
                  ·
                    as_aux_lemma =>
                      refine lv_iload_n (pc := 49) hx hb dX12_nears_49 rfl (lv_at hl 2 rfl) ?_
                      refine lv_iconst (pc := 50) (v := 1) hx hb dX12_nears_50 (by decide) ?_
                      refine b_isub (pc := 51) hx hb rfl tI_1 (by first | exact (om_659 hi_4.1) | ((first | omega | (unfold zBd at *; omega)))) (by first | exact (om_1618 hi_4.2) | ((first | omega | (unfold zBd at *; omega)))) dX12_nears_51 (fun x_72 ex_72 => ?_)
                      refine lv_istore (pc := 52) (lv' := [(6, .int x_72), (4, .long r_16), (3, .int x_1), (2, .int x_3), (0, .ref a0), (1, .int x0)]) hx hb dX12_nears_52 hl (by decide) rfl (fun ls hl => ?_)
                      have lp_77 : ∀ (n : Nat) (x_73 : Int32) (f_76 : Nat → Int32) (g_75 : Nat → Int64) (H : Heap) (locs : List Loc) (ls : Array Slot), (0 ≤ x_73.toInt ∧ x_73.toInt ≤ 9) → (x_73.toInt + 2147483648).toNat < n → va_P D gcl (zS_8 cB cC cI cJ a0 a1 x1 x2 x3 x4 x5 x6 x7 x8 a2 a3 a4 a5 a6 a7 a8 a9 a10 a11 a12 a13 a14 a15 a16 x9 x10 x11 x12 x13 x14 a17 a18 a19 x15 a20 x16 a21 x17 x18 a22 a23 a24 a25 x19 a26 x20 a27 a28 a29 y0 a30 a31 a32 a33 a34 a35 a36 a37 a38 x21 x22 x23 y1 a39 x24 a40 a41 a42 a43 x25 x26 x27 x28 a29 (u_15.2.1 0) a18 f1 a28 f2 a30 g_75 a31 f_76) H → va_D A (zS_8 cB cC cI cJ a0 a1 x1 x2 x3 x4 x5 x6 x7 x8 a2 a3 a4 a5 a6 a7 a8 a9 a10 a11 a12 a13 a14 a15 a16 x9 x10 x11 x12 x13 x14 a17 a18 a19 x15 a20 x16 a21 x17 x18 a22 a23 a24 a25 x19 a26 x20 a27 a28 a29 y0 a30 a31 a32 a33 a34 a35 a36 a37 a38 x21 x22 x23 y1 a39 x24 a40 a41 a42 a43 x25 x26 x27 x28 a29 (u_15.2.1 0) a18 f1 a28 f2 a30 g_75 a31 f_76) → va_S A s.heap H locs → lv_has ls 7 [(6, .int x_73), (4, .long r_16), (3, .int x_1), (2, .int x_3), (0, .ref a0), (1, .int x0)] → W p l e ({ frames := 3, cells := 0, slots := 0, locals := 70 }) s m args below meth c H locs 0 0 Q (F0 m 54 ls []) := by
                        intro n
                        induction n with
                        | zero => intro x_73 f_76 g_75 H locs ls hi_74 hmu; exact absurd hmu (Nat.not_lt_zero _)
                        | succ n ih_lp_77 =>
                          intro x_73 f_76 g_75 H locs ls hi_74 hmu_lp_77 hP hD hS hl
                          refine lv_iload (pc := 54) hx hb dX12_nears_54 (lv_at hl 0 rfl) ?_
                          refine b_if_le (pc := 56) (tgt := 112) hx hb rfl  dX12_nears_56 (by decide) (fun c_78 => ?_) (fun c_78 => ?_)
                          ·
                            as_aux_lemma =>
                              refine lv_aload_n (pc := 112) hx hb dX12_nears_112 rfl (lv_at hl 4 rfl) ?_
                              refine va_get (pc := 113) (ci := 12) (v := .ref a30) (C := RX12) (T := TX12) (N := 73) hx hb hts iX12 hown hK hP 0 rfl rfl 50 (by decide) (hts _ tw_1451) (fun _ h9 => h9) rfl dX12_nears_113 ?_
                              refine lv_iload (pc := 116) hx hb dX12_nears_116 (lv_at hl 0 rfl) ?_
                              refine lv_lload (pc := 118) hx hb dX12_nears_118 (lv_at hl 1 rfl) ?_
                              refine g_lastore (pc := 120) hx hb hK hP hD hS 4 3 rfl rfl (n_in rfl (by first | exact (om_0 hi_74.1) | ((first | omega | (unfold zBd at *; omega)))) (by first | exact (om_1228 c_78) | ((first | omega | (unfold zBd at *; omega))))) dX12_nears_120 (fun g_79 H locs hP hD hS => ?_)
                              replace hP : va_P D gcl (zS_8 cB cC cI cJ a0 a1 x1 x2 x3 x4 x5 x6 x7 x8 a2 a3 a4 a5 a6 a7 a8 a9 a10 a11 a12 a13 a14 a15 a16 x9 x10 x11 x12 x13 x14 a17 a18 a19 x15 a20 x16 a21 x17 x18 a22 a23 a24 a25 x19 a26 x20 a27 a28 a29 y0 a30 a31 a32 a33 a34 a35 a36 a37 a38 x21 x22 x23 y1 a39 x24 a40 a41 a42 a43 x25 x26 x27 x28 a29 (u_15.2.1 0) a18 f1 a28 f2 a30 g_79 a31 f_76) H := hP
                              replace hD : va_D A (zS_8 cB cC cI cJ a0 a1 x1 x2 x3 x4 x5 x6 x7 x8 a2 a3 a4 a5 a6 a7 a8 a9 a10 a11 a12 a13 a14 a15 a16 x9 x10 x11 x12 x13 x14 a17 a18 a19 x15 a20 x16 a21 x17 x18 a22 a23 a24 a25 x19 a26 x20 a27 a28 a29 y0 a30 a31 a32 a33 a34 a35 a36 a37 a38 x21 x22 x23 y1 a39 x24 a40 a41 a42 a43 x25 x26 x27 x28 a29 (u_15.2.1 0) a18 f1 a28 f2 a30 g_79 a31 f_76) := hD
                              refine lv_aload_n (pc := 121) hx hb dX12_nears_121 rfl (lv_at hl 4 rfl) ?_
                              refine va_get (pc := 122) (ci := 12) (v := .ref a31) (C := RX12) (T := TX12) (N := 73) hx hb hts iX12 hown hK hP 0 rfl rfl 51 (by decide) (hts _ tw_1452) (fun _ h9 => h9) rfl dX12_nears_122 ?_
                              refine lv_iload (pc := 125) hx hb dX12_nears_125 (lv_at hl 0 rfl) ?_
                              refine lv_iload_n (pc := 127) hx hb dX12_nears_127 rfl (lv_at hl 2 rfl) ?_
                              refine g_iastore (pc := 128) hx hb hK hP hD hS 5 2 rfl rfl (n_in rfl (by first | exact (om_0 hi_74.1) | ((first | omega | (unfold zBd at *; omega)))) (by first | exact (om_1228 c_78) | ((first | omega | (unfold zBd at *; omega))))) dX12_nears_128 (fun f_80 H locs hP hD hS => ?_)
                              replace hP : va_P D gcl (zS_8 cB cC cI cJ a0 a1 x1 x2 x3 x4 x5 x6 x7 x8 a2 a3 a4 a5 a6 a7 a8 a9 a10 a11 a12 a13 a14 a15 a16 x9 x10 x11 x12 x13 x14 a17 a18 a19 x15 a20 x16 a21 x17 x18 a22 a23 a24 a25 x19 a26 x20 a27 a28 a29 y0 a30 a31 a32 a33 a34 a35 a36 a37 a38 x21 x22 x23 y1 a39 x24 a40 a41 a42 a43 x25 x26 x27 x28 a29 (u_15.2.1 0) a18 f1 a28 f2 a30 g_79 a31 f_80) H := hP
                              replace hD : va_D A (zS_8 cB cC cI cJ a0 a1 x1 x2 x3 x4 x5 x6 x7 x8 a2 a3 a4 a5 a6 a7 a8 a9 a10 a11 a12 a13 a14 a15 a16 x9 x10 x11 x12 x13 x14 a17 a18 a19 x15 a20 x16 a21 x17 x18 a22 a23 a24 a25 x19 a26 x20 a27 a28 a29 y0 a30 a31 a32 a33 a34 a35 a36 a37 a38 x21 x22 x23 y1 a39 x24 a40 a41 a42 a43 x25 x26 x27 x28 a29 (u_15.2.1 0) a18 f1 a28 f2 a30 g_79 a31 f_80) := hD
                              as_aux_lemma =>
                                refine b_iinc (pc := 129) hx hb dX12_nears_129 hl (k := 2) rfl rfl tI_1 (by first | exact (om_2 hi_2.1) | ((first | omega | (unfold zBd at *; omega)))) (by first | exact (om_1087 c_14 rr_11.2) | ((first | omega | (unfold zBd at *; omega)))) (by decide) (fun x_81 ex_81 ls hl => ?_)
                                replace hl : lv_has ls 7 [(3, .int x_81), (6, .int x_73), (4, .long r_16), (2, .int x_3), (0, .ref a0), (1, .int x0)] := hl
                                refine lv_goto (pc := 132) (tgt := 4) hx hb dX12_nears_132 (by decide) ?_
                                exact ih_lp_9 x_81 x_3 (u_15.2.1 0) f_80 g_79 _ _ ls (by first | exact (om_1088 ex_81 hi_2.1 c_14 rr_11.2) | ((first | omega | (unfold zBd at *; omega)))) hi_4 hi_8 (by (first | omega | (unfold zBd at *; omega))) hP hD hS (lv_sub hl [0, 3, 4, 5] rfl)
                          ·
                            as_aux_lemma =>
                              refine lv_aload_n (pc := 59) hx hb dX12_nears_59 rfl (lv_at hl 4 rfl) ?_
                              refine va_get (pc := 60) (ci := 12) (v := .ref a30) (C := RX12) (T := TX12) (N := 73) hx hb hts iX12 hown hK hP 0 rfl rfl 50 (by decide) (hts _ tw_1451) (fun _ h9 => h9) rfl dX12_nears_60 ?_
                              refine lv_iload (pc := 63) hx hb dX12_nears_63 (lv_at hl 0 rfl) ?_
                              refine lv_iconst (pc := 65) (v := 1) hx hb dX12_nears_65 (by decide) ?_
                              refine b_isub (pc := 66) hx hb rfl tI_1 (by first | exact (om_693 c_78) | ((first | omega | (unfold zBd at *; omega)))) (by first | exact (om_1230 hi_74.2) | ((first | omega | (unfold zBd at *; omega)))) dX12_nears_66 (fun x_82 ex_82 => ?_)
                              refine va_lald (pc := 67) hx hb hK hP 4 3 rfl rfl (n_in rfl (by first | exact (om_694 ex_82 c_78) | ((first | omega | (unfold zBd at *; omega)))) (by first | exact (om_1231 ex_82 hi_74.2) | ((first | omega | (unfold zBd at *; omega))))) dX12_nears_67 ?_
                              refine lv_topl (fun y_83 ey_83 => ?_)
                              have ry_83 := n_rngL y_83
                              refine lv_lload (pc := 68) hx hb dX12_nears_68 (lv_at hl 1 rfl) ?_
                              refine b_lcmp_le (pc := 70) (tgt := 112) hx hb rfl rfl dX12_nears_70 dX12_nears_71 (by decide) (fun c_84 => ?_) (fun c_84 => ?_)
                              ·
                                as_aux_lemma =>
                                  refine lv_aload_n (pc := 112) hx hb dX12_nears_112 rfl (lv_at hl 4 rfl) ?_
                                  refine va_get (pc := 113) (ci := 12) (v := .ref a30) (C := RX12) (T := TX12) (N := 73) hx hb hts iX12 hown hK hP 0 rfl rfl 50 (by decide) (hts _ tw_1451) (fun _ h9 => h9) rfl dX12_nears_113 ?_
                                  refine lv_iload (pc := 116) hx hb dX12_nears_116 (lv_at hl 0 rfl) ?_
                                  refine lv_lload (pc := 118) hx hb dX12_nears_118 (lv_at hl 1 rfl) ?_
                                  refine g_lastore (pc := 120) hx hb hK hP hD hS 4 3 rfl rfl (n_in rfl (by first | exact (om_1232 c_78) | ((first | omega | (unfold zBd at *; omega)))) (by first | exact (om_1233 hi_74.2) | ((first | omega | (unfold zBd at *; omega))))) dX12_nears_120 (fun g_85 H locs hP hD hS => ?_)
                                  replace hP : va_P D gcl (zS_8 cB cC cI cJ a0 a1 x1 x2 x3 x4 x5 x6 x7 x8 a2 a3 a4 a5 a6 a7 a8 a9 a10 a11 a12 a13 a14 a15 a16 x9 x10 x11 x12 x13 x14 a17 a18 a19 x15 a20 x16 a21 x17 x18 a22 a23 a24 a25 x19 a26 x20 a27 a28 a29 y0 a30 a31 a32 a33 a34 a35 a36 a37 a38 x21 x22 x23 y1 a39 x24 a40 a41 a42 a43 x25 x26 x27 x28 a29 (u_15.2.1 0) a18 f1 a28 f2 a30 g_85 a31 f_76) H := hP
                                  replace hD : va_D A (zS_8 cB cC cI cJ a0 a1 x1 x2 x3 x4 x5 x6 x7 x8 a2 a3 a4 a5 a6 a7 a8 a9 a10 a11 a12 a13 a14 a15 a16 x9 x10 x11 x12 x13 x14 a17 a18 a19 x15 a20 x16 a21 x17 x18 a22 a23 a24 a25 x19 a26 x20 a27 a28 a29 y0 a30 a31 a32 a33 a34 a35 a36 a37 a38 x21 x22 x23 y1 a39 x24 a40 a41 a42 a43 x25 x26 x27 x28 a29 (u_15.2.1 0) a18 f1 a28 f2 a30 g_85 a31 f_76) := hD
                                  refine lv_aload_n (pc := 121) hx hb dX12_nears_121 rfl (lv_at hl 4 rfl) ?_
                                  refine va_get (pc := 122) (ci := 12) (v := .ref a31) (C := RX12) (T := TX12) (N := 73) hx hb hts iX12 hown hK hP 0 rfl rfl 51 (by decide) (hts _ tw_1452) (fun _ h9 => h9) rfl dX12_nears_122 ?_
                                  refine lv_iload (pc := 125) hx hb dX12_nears_125 (lv_at hl 0 rfl) ?_
                                  refine lv_iload_n (pc := 127) hx hb dX12_nears_127 rfl (lv_at hl 2 rfl) ?_
                                  refine g_iastore (pc := 128) hx hb hK hP hD hS 5 2 rfl rfl (n_in rfl (by first | exact (om_1232 c_78) | ((first | omega | (unfold zBd at *; omega)))) (by first | exact (om_1233 hi_74.2) | ((first | omega | (unfold zBd at *; omega))))) dX12_nears_128 (fun f_86 H locs hP hD hS => ?_)
                                  replace hP : va_P D gcl (zS_8 cB cC cI cJ a0 a1 x1 x2 x3 x4 x5 x6 x7 x8 a2 a3 a4 a5 a6 a7 a8 a9 a10 a11 a12 a13 a14 a15 a16 x9 x10 x11 x12 x13 x14 a17 a18 a19 x15 a20 x16 a21 x17 x18 a22 a23 a24 a25 x19 a26 x20 a27 a28 a29 y0 a30 a31 a32 a33 a34 a35 a36 a37 a38 x21 x22 x23 y1 a39 x24 a40 a41 a42 a43 x25 x26 x27 x28 a29 (u_15.2.1 0) a18 f1 a28 f2 a30 g_85 a31 f_86) H := hP
                                  replace hD : va_D A (zS_8 cB cC cI cJ a0 a1 x1 x2 x3 x4 x5 x6 x7 x8 a2 a3 a4 a5 a6 a7 a8 a9 a10 a11 a12 a13 a14 a15 a16 x9 x10 x11 x12 x13 x14 a17 a18 a19 x15 a20 x16 a21 x17 x18 a22 a23 a24 a25 x19 a26 x20 a27 a28 a29 y0 a30 a31 a32 a33 a34 a35 a36 a37 a38 x21 x22 x23 y1 a39 x24 a40 a41 a42 a43 x25 x26 x27 x28 a29 (u_15.2.1 0) a18 f1 a28 f2 a30 g_85 a31 f_86) := hD
                                  as_aux_lemma =>
                                    refine b_iinc (pc := 129) hx hb dX12_nears_129 hl (k := 2) rfl rfl tI_1 (by first | exact (om_2 hi_2.1) | ((first | omega | (unfold zBd at *; omega)))) (by first | exact (om_1087 c_14 rr_11.2) | ((first | omega | (unfold zBd at *; omega)))) (by decide) (fun x_87 ex_87 ls hl => ?_)
                                    replace hl : lv_has ls 7 [(3, .int x_87), (6, .int x_73), (4, .long r_16), (2, .int x_3), (0, .ref a0), (1, .int x0)] := hl
                                    refine lv_goto (pc := 132) (tgt := 4) hx hb dX12_nears_132 (by decide) ?_
                                    exact ih_lp_9 x_87 x_3 (u_15.2.1 0) f_86 g_85 _ _ ls (by first | exact (om_1088 ex_87 hi_2.1 c_14 rr_11.2) | ((first | omega | (unfold zBd at *; omega)))) hi_4 hi_8 (by (first | omega | (unfold zBd at *; omega))) hP hD hS (lv_sub hl [0, 3, 4, 5] rfl)
                              ·
                                as_aux_lemma =>
                                  refine lv_aload_n (pc := 74) hx hb dX12_nears_74 rfl (lv_at hl 4 rfl) ?_
                                  refine va_get (pc := 75) (ci := 12) (v := .ref a30) (C := RX12) (T := TX12) (N := 73) hx hb hts iX12 hown hK hP 0 rfl rfl 50 (by decide) (hts _ tw_1451) (fun _ h9 => h9) rfl dX12_nears_75 ?_
                                  refine lv_iload (pc := 78) hx hb dX12_nears_78 (lv_at hl 0 rfl) ?_
                                  refine lv_aload_n (pc := 80) hx hb dX12_nears_80 rfl (lv_at hl 4 rfl) ?_
                                  refine va_get (pc := 81) (ci := 12) (v := .ref a30) (C := RX12) (T := TX12) (N := 73) hx hb hts iX12 hown hK hP 0 rfl rfl 50 (by decide) (hts _ tw_1451) (fun _ h9 => h9) rfl dX12_nears_81 ?_
                                  refine lv_iload (pc := 84) hx hb dX12_nears_84 (lv_at hl 0 rfl) ?_
                                  refine lv_iconst (pc := 86) (v := 1) hx hb dX12_nears_86 (by decide) ?_
                                  refine b_isub (pc := 87) hx hb rfl tI_1 (by first | exact (om_693 c_78) | ((first | omega | (unfold zBd at *; omega)))) (by first | exact (om_1230 hi_74.2) | ((first | omega | (unfold zBd at *; omega)))) dX12_nears_87 (fun x_88 ex_88 => ?_)
                                  refine va_lald (pc := 88) hx hb hK hP 4 3 rfl rfl (n_in rfl (by first | exact (om_694 ex_88 c_78) | ((first | omega | (unfold zBd at *; omega)))) (by first | exact (om_1231 ex_88 hi_74.2) | ((first | omega | (unfold zBd at *; omega))))) dX12_nears_88 ?_
                                  refine lv_topl (fun y_89 ey_89 => ?_)
                                  have ry_89 := n_rngL y_89
                                  as_aux_lemma =>
                                    refine g_lastore (pc := 89) hx hb hK hP hD hS 4 3 rfl rfl (n_in rfl (by first | exact (om_1232 c_78) | ((first | omega | (unfold zBd at *; omega)))) (by first | exact (om_1233 hi_74.2) | ((first | omega | (unfold zBd at *; omega))))) dX12_nears_89 (fun g_90 H locs hP hD hS => ?_)
                                    replace hP : va_P D gcl (zS_8 cB cC cI cJ a0 a1 x1 x2 x3 x4 x5 x6 x7 x8 a2 a3 a4 a5 a6 a7 a8 a9 a10 a11 a12 a13 a14 a15 a16 x9 x10 x11 x12 x13 x14 a17 a18 a19 x15 a20 x16 a21 x17 x18 a22 a23 a24 a25 x19 a26 x20 a27 a28 a29 y0 a30 a31 a32 a33 a34 a35 a36 a37 a38 x21 x22 x23 y1 a39 x24 a40 a41 a42 a43 x25 x26 x27 x28 a29 (u_15.2.1 0) a18 f1 a28 f2 a30 g_90 a31 f_76) H := hP
                                    replace hD : va_D A (zS_8 cB cC cI cJ a0 a1 x1 x2 x3 x4 x5 x6 x7 x8 a2 a3 a4 a5 a6 a7 a8 a9 a10 a11 a12 a13 a14 a15 a16 x9 x10 x11 x12 x13 x14 a17 a18 a19 x15 a20 x16 a21 x17 x18 a22 a23 a24 a25 x19 a26 x20 a27 a28 a29 y0 a30 a31 a32 a33 a34 a35 a36 a37 a38 x21 x22 x23 y1 a39 x24 a40 a41 a42 a43 x25 x26 x27 x28 a29 (u_15.2.1 0) a18 f1 a28 f2 a30 g_90 a31 f_76) := hD
                                    refine lv_aload_n (pc := 90) hx hb dX12_nears_90 rfl (lv_at hl 4 rfl) ?_
                                    refine va_get (pc := 91) (ci := 12) (v := .ref a31) (C := RX12) (T := TX12) (N := 73) hx hb hts iX12 hown hK hP 0 rfl rfl 51 (by decide) (hts _ tw_1452) (fun _ h9 => h9) rfl dX12_nears_91 ?_
                                    refine lv_iload (pc := 94) hx hb dX12_nears_94 (lv_at hl 0 rfl) ?_
                                    refine lv_aload_n (pc := 96) hx hb dX12_nears_96 rfl (lv_at hl 4 rfl) ?_
                                    refine va_get (pc := 97) (ci := 12) (v := .ref a31) (C := RX12) (T := TX12) (N := 73) hx hb hts iX12 hown hK hP 0 rfl rfl 51 (by decide) (hts _ tw_1452) (fun _ h9 => h9) rfl dX12_nears_97 ?_
                                    refine lv_iload (pc := 100) hx hb dX12_nears_100 (lv_at hl 0 rfl) ?_
                                    refine lv_iconst (pc := 102) (v := 1) hx hb dX12_nears_102 (by decide) ?_
                                    refine b_isub (pc := 103) hx hb rfl tI_1 (by first | exact (om_693 c_78) | ((first | omega | (unfold zBd at *; omega)))) (by first | exact (om_1230 hi_74.2) | ((first | omega | (unfold zBd at *; omega)))) dX12_nears_103 (fun x_91 ex_91 => ?_)
                                    refine va_iald (pc := 104) hx hb hK hP 5 2 rfl rfl (n_in rfl (by first | exact (om_694 ex_91 c_78) | ((first | omega | (unfold zBd at *; omega)))) (by first | exact (om_1231 ex_91 hi_74.2) | ((first | omega | (unfold zBd at *; omega))))) dX12_nears_104 ?_
                                    as_aux_lemma =>
                                      refine lv_topi (fun x_92 ex_92 => ?_)
                                      have rx_92 : zBd x_92.toInt (-2147483648) 2147483647 := n_rng x_92
                                      refine g_iastore (pc := 105) hx hb hK hP hD hS 5 2 rfl rfl (n_in rfl (by first | exact (om_1232 c_78) | ((first | omega | (unfold zBd at *; omega)))) (by first | exact (om_1233 hi_74.2) | ((first | omega | (unfold zBd at *; omega))))) dX12_nears_105 (fun f_93 H locs hP hD hS => ?_)
                                      replace hP : va_P D gcl (zS_8 cB cC cI cJ a0 a1 x1 x2 x3 x4 x5 x6 x7 x8 a2 a3 a4 a5 a6 a7 a8 a9 a10 a11 a12 a13 a14 a15 a16 x9 x10 x11 x12 x13 x14 a17 a18 a19 x15 a20 x16 a21 x17 x18 a22 a23 a24 a25 x19 a26 x20 a27 a28 a29 y0 a30 a31 a32 a33 a34 a35 a36 a37 a38 x21 x22 x23 y1 a39 x24 a40 a41 a42 a43 x25 x26 x27 x28 a29 (u_15.2.1 0) a18 f1 a28 f2 a30 g_90 a31 f_93) H := hP
                                      replace hD : va_D A (zS_8 cB cC cI cJ a0 a1 x1 x2 x3 x4 x5 x6 x7 x8 a2 a3 a4 a5 a6 a7 a8 a9 a10 a11 a12 a13 a14 a15 a16 x9 x10 x11 x12 x13 x14 a17 a18 a19 x15 a20 x16 a21 x17 x18 a22 a23 a24 a25 x19 a26 x20 a27 a28 a29 y0 a30 a31 a32 a33 a34 a35 a36 a37 a38 x21 x22 x23 y1 a39 x24 a40 a41 a42 a43 x25 x26 x27 x28 a29 (u_15.2.1 0) a18 f1 a28 f2 a30 g_90 a31 f_93) := hD
                                      refine b_iinc (pc := 106) hx hb dX12_nears_106 hl (k := 0) rfl rfl tI_m1 (by first | exact (om_1234 c_78) | ((first | omega | (unfold zBd at *; omega)))) (by first | exact (om_1235 hi_74.2) | ((first | omega | (unfold zBd at *; omega)))) (by decide) (fun x_94 ex_94 ls hl => ?_)
                                      replace hl : lv_has ls 7 [(6, .int x_94), (4, .long r_16), (3, .int x_1), (2, .int x_3), (0, .ref a0), (1, .int x0)] := hl
                                      refine lv_goto (pc := 109) (tgt := 54) hx hb dX12_nears_109 (by decide) ?_
                                      exact ih_lp_77 x_94 f_93 g_90 _ _ ls (by first | exact (om_1236 ex_94 c_78 hi_74.2) | ((first | omega | (unfold zBd at *; omega)))) (by (first | omega | (unfold zBd at *; omega))) hP hD hS (lv_sub hl [0, 1, 2, 3, 4, 5] rfl)
                      exact lp_77 _ x_72 f_7 g_6 _ _ ls (by first | exact (om_1626 ex_72 c_19 hp1.1 hi_4.2) | ((first | omega | (unfold zBd at *; omega)))) (Nat.lt_succ_self _) hP hD hS (lv_sub hl [0, 1, 2, 3, 4, 5] rfl)
                  ·
                    as_aux_lemma =>
                      refine b_iinc (pc := 46) hx hb dX12_nears_46 hl (k := 2) rfl rfl tI_1 (by first | exact (om_1627 c_71 c_19) | ((first | omega | (unfold zBd at *; omega)))) (by first | exact (om_1628 c_71 c_19) | ((first | omega | (unfold zBd at *; omega)))) (by decide) (fun x_95 ex_95 ls hl => ?_)
                      replace hl : lv_has ls 7 [(2, .int x_95), (4, .long r_16), (3, .int x_1), (0, .ref a0), (1, .int x0)] := hl
                      refine lv_iload_n (pc := 49) hx hb dX12_nears_49 rfl (lv_at hl 0 rfl) ?_
                      refine lv_iconst (pc := 50) (v := 1) hx hb dX12_nears_50 (by decide) ?_
                      refine b_isub (pc := 51) hx hb rfl tI_1 (by first | exact (om_1629 c_71 c_19) | ((first | omega | (unfold zBd at *; omega)))) (by first | exact (om_1630 c_71 c_19) | ((first | omega | (unfold zBd at *; omega)))) dX12_nears_51 (fun x_96 ex_96 => ?_)
                      refine lv_istore (pc := 52) (lv' := [(6, .int x_96), (2, .int x_95), (4, .long r_16), (3, .int x_1), (0, .ref a0), (1, .int x0)]) hx hb dX12_nears_52 hl (by decide) rfl (fun ls hl => ?_)
                      have lp_101 : ∀ (n : Nat) (x_97 : Int32) (f_100 : Nat → Int32) (g_99 : Nat → Int64) (H : Heap) (locs : List Loc) (ls : Array Slot), (0 ≤ x_97.toInt ∧ x_97.toInt ≤ 9) → (x_97.toInt + 2147483648).toNat < n → va_P D gcl (zS_8 cB cC cI cJ a0 a1 x1 x2 x3 x4 x5 x6 x7 x8 a2 a3 a4 a5 a6 a7 a8 a9 a10 a11 a12 a13 a14 a15 a16 x9 x10 x11 x12 x13 x14 a17 a18 a19 x15 a20 x16 a21 x17 x18 a22 a23 a24 a25 x19 a26 x20 a27 a28 a29 y0 a30 a31 a32 a33 a34 a35 a36 a37 a38 x21 x22 x23 y1 a39 x24 a40 a41 a42 a43 x25 x26 x27 x28 a29 (u_15.2.1 0) a18 f1 a28 f2 a30 g_99 a31 f_100) H → va_D A (zS_8 cB cC cI cJ a0 a1 x1 x2 x3 x4 x5 x6 x7 x8 a2 a3 a4 a5 a6 a7 a8 a9 a10 a11 a12 a13 a14 a15 a16 x9 x10 x11 x12 x13 x14 a17 a18 a19 x15 a20 x16 a21 x17 x18 a22 a23 a24 a25 x19 a26 x20 a27 a28 a29 y0 a30 a31 a32 a33 a34 a35 a36 a37 a38 x21 x22 x23 y1 a39 x24 a40 a41 a42 a43 x25 x26 x27 x28 a29 (u_15.2.1 0) a18 f1 a28 f2 a30 g_99 a31 f_100) → va_S A s.heap H locs → lv_has ls 7 [(6, .int x_97), (2, .int x_95), (4, .long r_16), (3, .int x_1), (0, .ref a0), (1, .int x0)] → W p l e ({ frames := 3, cells := 0, slots := 0, locals := 70 }) s m args below meth c H locs 0 0 Q (F0 m 54 ls []) := by
                        intro n
                        induction n with
                        | zero => intro x_97 f_100 g_99 H locs ls hi_98 hmu; exact absurd hmu (Nat.not_lt_zero _)
                        | succ n ih_lp_101 =>
                          intro x_97 f_100 g_99 H locs ls hi_98 hmu_lp_101 hP hD hS hl
                          refine lv_iload (pc := 54) hx hb dX12_nears_54 (lv_at hl 0 rfl) ?_
                          refine b_if_le (pc := 56) (tgt := 112) hx hb rfl  dX12_nears_56 (by decide) (fun c_102 => ?_) (fun c_102 => ?_)
                          ·
                            as_aux_lemma =>
                              refine lv_aload_n (pc := 112) hx hb dX12_nears_112 rfl (lv_at hl 4 rfl) ?_
                              refine va_get (pc := 113) (ci := 12) (v := .ref a30) (C := RX12) (T := TX12) (N := 73) hx hb hts iX12 hown hK hP 0 rfl rfl 50 (by decide) (hts _ tw_1451) (fun _ h9 => h9) rfl dX12_nears_113 ?_
                              refine lv_iload (pc := 116) hx hb dX12_nears_116 (lv_at hl 0 rfl) ?_
                              refine lv_lload (pc := 118) hx hb dX12_nears_118 (lv_at hl 2 rfl) ?_
                              refine g_lastore (pc := 120) hx hb hK hP hD hS 4 3 rfl rfl (n_in rfl (by first | exact (om_0 hi_98.1) | ((first | omega | (unfold zBd at *; omega)))) (by first | exact (om_1228 c_102) | ((first | omega | (unfold zBd at *; omega))))) dX12_nears_120 (fun g_103 H locs hP hD hS => ?_)
                              replace hP : va_P D gcl (zS_8 cB cC cI cJ a0 a1 x1 x2 x3 x4 x5 x6 x7 x8 a2 a3 a4 a5 a6 a7 a8 a9 a10 a11 a12 a13 a14 a15 a16 x9 x10 x11 x12 x13 x14 a17 a18 a19 x15 a20 x16 a21 x17 x18 a22 a23 a24 a25 x19 a26 x20 a27 a28 a29 y0 a30 a31 a32 a33 a34 a35 a36 a37 a38 x21 x22 x23 y1 a39 x24 a40 a41 a42 a43 x25 x26 x27 x28 a29 (u_15.2.1 0) a18 f1 a28 f2 a30 g_103 a31 f_100) H := hP
                              replace hD : va_D A (zS_8 cB cC cI cJ a0 a1 x1 x2 x3 x4 x5 x6 x7 x8 a2 a3 a4 a5 a6 a7 a8 a9 a10 a11 a12 a13 a14 a15 a16 x9 x10 x11 x12 x13 x14 a17 a18 a19 x15 a20 x16 a21 x17 x18 a22 a23 a24 a25 x19 a26 x20 a27 a28 a29 y0 a30 a31 a32 a33 a34 a35 a36 a37 a38 x21 x22 x23 y1 a39 x24 a40 a41 a42 a43 x25 x26 x27 x28 a29 (u_15.2.1 0) a18 f1 a28 f2 a30 g_103 a31 f_100) := hD
                              refine lv_aload_n (pc := 121) hx hb dX12_nears_121 rfl (lv_at hl 4 rfl) ?_
                              refine va_get (pc := 122) (ci := 12) (v := .ref a31) (C := RX12) (T := TX12) (N := 73) hx hb hts iX12 hown hK hP 0 rfl rfl 51 (by decide) (hts _ tw_1452) (fun _ h9 => h9) rfl dX12_nears_122 ?_
                              refine lv_iload (pc := 125) hx hb dX12_nears_125 (lv_at hl 0 rfl) ?_
                              refine lv_iload_n (pc := 127) hx hb dX12_nears_127 rfl (lv_at hl 3 rfl) ?_
                              refine g_iastore (pc := 128) hx hb hK hP hD hS 5 2 rfl rfl (n_in rfl (by first | exact (om_0 hi_98.1) | ((first | omega | (unfold zBd at *; omega)))) (by first | exact (om_1228 c_102) | ((first | omega | (unfold zBd at *; omega))))) dX12_nears_128 (fun f_104 H locs hP hD hS => ?_)
                              replace hP : va_P D gcl (zS_8 cB cC cI cJ a0 a1 x1 x2 x3 x4 x5 x6 x7 x8 a2 a3 a4 a5 a6 a7 a8 a9 a10 a11 a12 a13 a14 a15 a16 x9 x10 x11 x12 x13 x14 a17 a18 a19 x15 a20 x16 a21 x17 x18 a22 a23 a24 a25 x19 a26 x20 a27 a28 a29 y0 a30 a31 a32 a33 a34 a35 a36 a37 a38 x21 x22 x23 y1 a39 x24 a40 a41 a42 a43 x25 x26 x27 x28 a29 (u_15.2.1 0) a18 f1 a28 f2 a30 g_103 a31 f_104) H := hP
                              replace hD : va_D A (zS_8 cB cC cI cJ a0 a1 x1 x2 x3 x4 x5 x6 x7 x8 a2 a3 a4 a5 a6 a7 a8 a9 a10 a11 a12 a13 a14 a15 a16 x9 x10 x11 x12 x13 x14 a17 a18 a19 x15 a20 x16 a21 x17 x18 a22 a23 a24 a25 x19 a26 x20 a27 a28 a29 y0 a30 a31 a32 a33 a34 a35 a36 a37 a38 x21 x22 x23 y1 a39 x24 a40 a41 a42 a43 x25 x26 x27 x28 a29 (u_15.2.1 0) a18 f1 a28 f2 a30 g_103 a31 f_104) := hD
                              as_aux_lemma =>
                                refine b_iinc (pc := 129) hx hb dX12_nears_129 hl (k := 3) rfl rfl tI_1 (by first | exact (om_2 hi_2.1) | ((first | omega | (unfold zBd at *; omega)))) (by first | exact (om_1087 c_14 rr_11.2) | ((first | omega | (unfold zBd at *; omega)))) (by decide) (fun x_105 ex_105 ls hl => ?_)
                                replace hl : lv_has ls 7 [(3, .int x_105), (6, .int x_97), (2, .int x_95), (4, .long r_16), (0, .ref a0), (1, .int x0)] := hl
                                refine lv_goto (pc := 132) (tgt := 4) hx hb dX12_nears_132 (by decide) ?_
                                exact ih_lp_9 x_105 x_95 (u_15.2.1 0) f_104 g_103 _ _ ls (by first | exact (om_1088 ex_105 hi_2.1 c_14 rr_11.2) | ((first | omega | (unfold zBd at *; omega)))) (by first | exact (om_1631 c_71 c_19) | ((first | omega | (unfold zBd at *; omega)))) (by first | exact (om_1632 c_71 c_19) | ((first | omega | (unfold zBd at *; omega)))) (by (first | omega | (unfold zBd at *; omega))) hP hD hS (lv_sub hl [0, 2, 4, 5] rfl)
                          ·
                            as_aux_lemma =>
                              refine lv_aload_n (pc := 59) hx hb dX12_nears_59 rfl (lv_at hl 4 rfl) ?_
                              refine va_get (pc := 60) (ci := 12) (v := .ref a30) (C := RX12) (T := TX12) (N := 73) hx hb hts iX12 hown hK hP 0 rfl rfl 50 (by decide) (hts _ tw_1451) (fun _ h9 => h9) rfl dX12_nears_60 ?_
                              refine lv_iload (pc := 63) hx hb dX12_nears_63 (lv_at hl 0 rfl) ?_
                              refine lv_iconst (pc := 65) (v := 1) hx hb dX12_nears_65 (by decide) ?_
                              refine b_isub (pc := 66) hx hb rfl tI_1 (by first | exact (om_693 c_102) | ((first | omega | (unfold zBd at *; omega)))) (by first | exact (om_1230 hi_98.2) | ((first | omega | (unfold zBd at *; omega)))) dX12_nears_66 (fun x_106 ex_106 => ?_)
                              refine va_lald (pc := 67) hx hb hK hP 4 3 rfl rfl (n_in rfl (by first | exact (om_694 ex_106 c_102) | ((first | omega | (unfold zBd at *; omega)))) (by first | exact (om_1231 ex_106 hi_98.2) | ((first | omega | (unfold zBd at *; omega))))) dX12_nears_67 ?_
                              refine lv_topl (fun y_107 ey_107 => ?_)
                              have ry_107 := n_rngL y_107
                              refine lv_lload (pc := 68) hx hb dX12_nears_68 (lv_at hl 2 rfl) ?_
                              refine b_lcmp_le (pc := 70) (tgt := 112) hx hb rfl rfl dX12_nears_70 dX12_nears_71 (by decide) (fun c_108 => ?_) (fun c_108 => ?_)
                              ·
                                as_aux_lemma =>
                                  refine lv_aload_n (pc := 112) hx hb dX12_nears_112 rfl (lv_at hl 4 rfl) ?_
                                  refine va_get (pc := 113) (ci := 12) (v := .ref a30) (C := RX12) (T := TX12) (N := 73) hx hb hts iX12 hown hK hP 0 rfl rfl 50 (by decide) (hts _ tw_1451) (fun _ h9 => h9) rfl dX12_nears_113 ?_
                                  refine lv_iload (pc := 116) hx hb dX12_nears_116 (lv_at hl 0 rfl) ?_
                                  refine lv_lload (pc := 118) hx hb dX12_nears_118 (lv_at hl 2 rfl) ?_
                                  refine g_lastore (pc := 120) hx hb hK hP hD hS 4 3 rfl rfl (n_in rfl (by first | exact (om_1232 c_102) | ((first | omega | (unfold zBd at *; omega)))) (by first | exact (om_1233 hi_98.2) | ((first | omega | (unfold zBd at *; omega))))) dX12_nears_120 (fun g_109 H locs hP hD hS => ?_)
                                  replace hP : va_P D gcl (zS_8 cB cC cI cJ a0 a1 x1 x2 x3 x4 x5 x6 x7 x8 a2 a3 a4 a5 a6 a7 a8 a9 a10 a11 a12 a13 a14 a15 a16 x9 x10 x11 x12 x13 x14 a17 a18 a19 x15 a20 x16 a21 x17 x18 a22 a23 a24 a25 x19 a26 x20 a27 a28 a29 y0 a30 a31 a32 a33 a34 a35 a36 a37 a38 x21 x22 x23 y1 a39 x24 a40 a41 a42 a43 x25 x26 x27 x28 a29 (u_15.2.1 0) a18 f1 a28 f2 a30 g_109 a31 f_100) H := hP
                                  replace hD : va_D A (zS_8 cB cC cI cJ a0 a1 x1 x2 x3 x4 x5 x6 x7 x8 a2 a3 a4 a5 a6 a7 a8 a9 a10 a11 a12 a13 a14 a15 a16 x9 x10 x11 x12 x13 x14 a17 a18 a19 x15 a20 x16 a21 x17 x18 a22 a23 a24 a25 x19 a26 x20 a27 a28 a29 y0 a30 a31 a32 a33 a34 a35 a36 a37 a38 x21 x22 x23 y1 a39 x24 a40 a41 a42 a43 x25 x26 x27 x28 a29 (u_15.2.1 0) a18 f1 a28 f2 a30 g_109 a31 f_100) := hD
                                  refine lv_aload_n (pc := 121) hx hb dX12_nears_121 rfl (lv_at hl 4 rfl) ?_
                                  refine va_get (pc := 122) (ci := 12) (v := .ref a31) (C := RX12) (T := TX12) (N := 73) hx hb hts iX12 hown hK hP 0 rfl rfl 51 (by decide) (hts _ tw_1452) (fun _ h9 => h9) rfl dX12_nears_122 ?_
                                  refine lv_iload (pc := 125) hx hb dX12_nears_125 (lv_at hl 0 rfl) ?_
                                  refine lv_iload_n (pc := 127) hx hb dX12_nears_127 rfl (lv_at hl 3 rfl) ?_
                                  refine g_iastore (pc := 128) hx hb hK hP hD hS 5 2 rfl rfl (n_in rfl (by first | exact (om_1232 c_102) | ((first | omega | (unfold zBd at *; omega)))) (by first | exact (om_1233 hi_98.2) | ((first | omega | (unfold zBd at *; omega))))) dX12_nears_128 (fun f_110 H locs hP hD hS => ?_)
                                  replace hP : va_P D gcl (zS_8 cB cC cI cJ a0 a1 x1 x2 x3 x4 x5 x6 x7 x8 a2 a3 a4 a5 a6 a7 a8 a9 a10 a11 a12 a13 a14 a15 a16 x9 x10 x11 x12 x13 x14 a17 a18 a19 x15 a20 x16 a21 x17 x18 a22 a23 a24 a25 x19 a26 x20 a27 a28 a29 y0 a30 a31 a32 a33 a34 a35 a36 a37 a38 x21 x22 x23 y1 a39 x24 a40 a41 a42 a43 x25 x26 x27 x28 a29 (u_15.2.1 0) a18 f1 a28 f2 a30 g_109 a31 f_110) H := hP
                                  replace hD : va_D A (zS_8 cB cC cI cJ a0 a1 x1 x2 x3 x4 x5 x6 x7 x8 a2 a3 a4 a5 a6 a7 a8 a9 a10 a11 a12 a13 a14 a15 a16 x9 x10 x11 x12 x13 x14 a17 a18 a19 x15 a20 x16 a21 x17 x18 a22 a23 a24 a25 x19 a26 x20 a27 a28 a29 y0 a30 a31 a32 a33 a34 a35 a36 a37 a38 x21 x22 x23 y1 a39 x24 a40 a41 a42 a43 x25 x26 x27 x28 a29 (u_15.2.1 0) a18 f1 a28 f2 a30 g_109 a31 f_110) := hD
                                  as_aux_lemma =>
                                    refine b_iinc (pc := 129) hx hb dX12_nears_129 hl (k := 3) rfl rfl tI_1 (by first | exact (om_2 hi_2.1) | ((first | omega | (unfold zBd at *; omega)))) (by first | exact (om_1087 c_14 rr_11.2) | ((first | omega | (unfold zBd at *; omega)))) (by decide) (fun x_111 ex_111 ls hl => ?_)
                                    replace hl : lv_has ls 7 [(3, .int x_111), (6, .int x_97), (2, .int x_95), (4, .long r_16), (0, .ref a0), (1, .int x0)] := hl
                                    refine lv_goto (pc := 132) (tgt := 4) hx hb dX12_nears_132 (by decide) ?_
                                    exact ih_lp_9 x_111 x_95 (u_15.2.1 0) f_110 g_109 _ _ ls (by first | exact (om_1088 ex_111 hi_2.1 c_14 rr_11.2) | ((first | omega | (unfold zBd at *; omega)))) (by first | exact (om_1631 c_71 c_19) | ((first | omega | (unfold zBd at *; omega)))) (by first | exact (om_1632 c_71 c_19) | ((first | omega | (unfold zBd at *; omega)))) (by (first | omega | (unfold zBd at *; omega))) hP hD hS (lv_sub hl [0, 2, 4, 5] rfl)
                              ·
                                as_aux_lemma =>
                                  refine lv_aload_n (pc := 74) hx hb dX12_nears_74 rfl (lv_at hl 4 rfl) ?_
                                  refine va_get (pc := 75) (ci := 12) (v := .ref a30) (C := RX12) (T := TX12) (N := 73) hx hb hts iX12 hown hK hP 0 rfl rfl 50 (by decide) (hts _ tw_1451) (fun _ h9 => h9) rfl dX12_nears_75 ?_
                                  refine lv_iload (pc := 78) hx hb dX12_nears_78 (lv_at hl 0 rfl) ?_
                                  refine lv_aload_n (pc := 80) hx hb dX12_nears_80 rfl (lv_at hl 4 rfl) ?_
                                  refine va_get (pc := 81) (ci := 12) (v := .ref a30) (C := RX12) (T := TX12) (N := 73) hx hb hts iX12 hown hK hP 0 rfl rfl 50 (by decide) (hts _ tw_1451) (fun _ h9 => h9) rfl dX12_nears_81 ?_
                                  refine lv_iload (pc := 84) hx hb dX12_nears_84 (lv_at hl 0 rfl) ?_
                                  refine lv_iconst (pc := 86) (v := 1) hx hb dX12_nears_86 (by decide) ?_
                                  refine b_isub (pc := 87) hx hb rfl tI_1 (by first | exact (om_693 c_102) | ((first | omega | (unfold zBd at *; omega)))) (by first | exact (om_1230 hi_98.2) | ((first | omega | (unfold zBd at *; omega)))) dX12_nears_87 (fun x_112 ex_112 => ?_)
                                  refine va_lald (pc := 88) hx hb hK hP 4 3 rfl rfl (n_in rfl (by first | exact (om_694 ex_112 c_102) | ((first | omega | (unfold zBd at *; omega)))) (by first | exact (om_1231 ex_112 hi_98.2) | ((first | omega | (unfold zBd at *; omega))))) dX12_nears_88 ?_
                                  refine lv_topl (fun y_113 ey_113 => ?_)
                                  have ry_113 := n_rngL y_113
                                  as_aux_lemma =>
                                    refine g_lastore (pc := 89) hx hb hK hP hD hS 4 3 rfl rfl (n_in rfl (by first | exact (om_1232 c_102) | ((first | omega | (unfold zBd at *; omega)))) (by first | exact (om_1233 hi_98.2) | ((first | omega | (unfold zBd at *; omega))))) dX12_nears_89 (fun g_114 H locs hP hD hS => ?_)
                                    replace hP : va_P D gcl (zS_8 cB cC cI cJ a0 a1 x1 x2 x3 x4 x5 x6 x7 x8 a2 a3 a4 a5 a6 a7 a8 a9 a10 a11 a12 a13 a14 a15 a16 x9 x10 x11 x12 x13 x14 a17 a18 a19 x15 a20 x16 a21 x17 x18 a22 a23 a24 a25 x19 a26 x20 a27 a28 a29 y0 a30 a31 a32 a33 a34 a35 a36 a37 a38 x21 x22 x23 y1 a39 x24 a40 a41 a42 a43 x25 x26 x27 x28 a29 (u_15.2.1 0) a18 f1 a28 f2 a30 g_114 a31 f_100) H := hP
                                    replace hD : va_D A (zS_8 cB cC cI cJ a0 a1 x1 x2 x3 x4 x5 x6 x7 x8 a2 a3 a4 a5 a6 a7 a8 a9 a10 a11 a12 a13 a14 a15 a16 x9 x10 x11 x12 x13 x14 a17 a18 a19 x15 a20 x16 a21 x17 x18 a22 a23 a24 a25 x19 a26 x20 a27 a28 a29 y0 a30 a31 a32 a33 a34 a35 a36 a37 a38 x21 x22 x23 y1 a39 x24 a40 a41 a42 a43 x25 x26 x27 x28 a29 (u_15.2.1 0) a18 f1 a28 f2 a30 g_114 a31 f_100) := hD
                                    refine lv_aload_n (pc := 90) hx hb dX12_nears_90 rfl (lv_at hl 4 rfl) ?_
                                    refine va_get (pc := 91) (ci := 12) (v := .ref a31) (C := RX12) (T := TX12) (N := 73) hx hb hts iX12 hown hK hP 0 rfl rfl 51 (by decide) (hts _ tw_1452) (fun _ h9 => h9) rfl dX12_nears_91 ?_
                                    refine lv_iload (pc := 94) hx hb dX12_nears_94 (lv_at hl 0 rfl) ?_
                                    refine lv_aload_n (pc := 96) hx hb dX12_nears_96 rfl (lv_at hl 4 rfl) ?_
                                    refine va_get (pc := 97) (ci := 12) (v := .ref a31) (C := RX12) (T := TX12) (N := 73) hx hb hts iX12 hown hK hP 0 rfl rfl 51 (by decide) (hts _ tw_1452) (fun _ h9 => h9) rfl dX12_nears_97 ?_
                                    refine lv_iload (pc := 100) hx hb dX12_nears_100 (lv_at hl 0 rfl) ?_
                                    refine lv_iconst (pc := 102) (v := 1) hx hb dX12_nears_102 (by decide) ?_
                                    refine b_isub (pc := 103) hx hb rfl tI_1 (by first | exact (om_693 c_102) | ((first | omega | (unfold zBd at *; omega)))) (by first | exact (om_1230 hi_98.2) | ((first | omega | (unfold zBd at *; omega)))) dX12_nears_103 (fun x_115 ex_115 => ?_)
                                    refine va_iald (pc := 104) hx hb hK hP 5 2 rfl rfl (n_in rfl (by first | exact (om_694 ex_115 c_102) | ((first | omega | (unfold zBd at *; omega)))) (by first | exact (om_1231 ex_115 hi_98.2) | ((first | omega | (unfold zBd at *; omega))))) dX12_nears_104 ?_
                                    as_aux_lemma =>
                                      refine lv_topi (fun x_116 ex_116 => ?_)
                                      have rx_116 : zBd x_116.toInt (-2147483648) 2147483647 := n_rng x_116
                                      refine g_iastore (pc := 105) hx hb hK hP hD hS 5 2 rfl rfl (n_in rfl (by first | exact (om_1232 c_102) | ((first | omega | (unfold zBd at *; omega)))) (by first | exact (om_1233 hi_98.2) | ((first | omega | (unfold zBd at *; omega))))) dX12_nears_105 (fun f_117 H locs hP hD hS => ?_)
                                      replace hP : va_P D gcl (zS_8 cB cC cI cJ a0 a1 x1 x2 x3 x4 x5 x6 x7 x8 a2 a3 a4 a5 a6 a7 a8 a9 a10 a11 a12 a13 a14 a15 a16 x9 x10 x11 x12 x13 x14 a17 a18 a19 x15 a20 x16 a21 x17 x18 a22 a23 a24 a25 x19 a26 x20 a27 a28 a29 y0 a30 a31 a32 a33 a34 a35 a36 a37 a38 x21 x22 x23 y1 a39 x24 a40 a41 a42 a43 x25 x26 x27 x28 a29 (u_15.2.1 0) a18 f1 a28 f2 a30 g_114 a31 f_117) H := hP
                                      replace hD : va_D A (zS_8 cB cC cI cJ a0 a1 x1 x2 x3 x4 x5 x6 x7 x8 a2 a3 a4 a5 a6 a7 a8 a9 a10 a11 a12 a13 a14 a15 a16 x9 x10 x11 x12 x13 x14 a17 a18 a19 x15 a20 x16 a21 x17 x18 a22 a23 a24 a25 x19 a26 x20 a27 a28 a29 y0 a30 a31 a32 a33 a34 a35 a36 a37 a38 x21 x22 x23 y1 a39 x24 a40 a41 a42 a43 x25 x26 x27 x28 a29 (u_15.2.1 0) a18 f1 a28 f2 a30 g_114 a31 f_117) := hD
                                      refine b_iinc (pc := 106) hx hb dX12_nears_106 hl (k := 0) rfl rfl tI_m1 (by first | exact (om_1234 c_102) | ((first | omega | (unfold zBd at *; omega)))) (by first | exact (om_1235 hi_98.2) | ((first | omega | (unfold zBd at *; omega)))) (by decide) (fun x_118 ex_118 ls hl => ?_)
                                      replace hl : lv_has ls 7 [(6, .int x_118), (2, .int x_95), (4, .long r_16), (3, .int x_1), (0, .ref a0), (1, .int x0)] := hl
                                      refine lv_goto (pc := 109) (tgt := 54) hx hb dX12_nears_109 (by decide) ?_
                                      exact ih_lp_101 x_118 f_117 g_114 _ _ ls (by first | exact (om_1236 ex_118 c_102 hi_98.2) | ((first | omega | (unfold zBd at *; omega)))) (by (first | omega | (unfold zBd at *; omega))) hP hD hS (lv_sub hl [0, 1, 2, 3, 4, 5] rfl)
                      exact lp_101 _ x_96 f_7 g_6 _ _ ls (by first | exact (om_1633 c_71 c_19) | ((first | omega | (unfold zBd at *; omega)))) (Nat.lt_succ_self _) hP hD hS (lv_sub hl [0, 1, 2, 3, 4, 5] rfl)
              ·
                as_aux_lemma =>
                  refine lv_goto (pc := 38) (tgt := 129) hx hb dX12_nears_38 (by decide) ?_
                  refine b_iinc (pc := 129) hx hb dX12_nears_129 hl (k := 1) rfl rfl tI_1 (by first | exact (om_2 hi_2.1) | ((first | omega | (unfold zBd at *; omega)))) (by first | exact (om_1087 c_14 rr_11.2) | ((first | omega | (unfold zBd at *; omega)))) (by decide) (fun x_119 ex_119 ls hl => ?_)
                  replace hl : lv_has ls 7 [(3, .int x_119), (4, .long r_16), (2, .int x_3), (0, .ref a0), (1, .int x0)] := hl
                  refine lv_goto (pc := 132) (tgt := 4) hx hb dX12_nears_132 (by decide) ?_
                  exact ih_lp_9 x_119 x_3 (u_15.2.1 0) f_7 g_6 _ _ ls (by first | exact (om_1088 ex_119 hi_2.1 c_14 rr_11.2) | ((first | omega | (unfold zBd at *; omega)))) hi_4 hi_8 (by (first | omega | (unfold zBd at *; omega))) hP hD hS (lv_sub hl [0, 2, 3, 4] rfl)
  exact lp_9 _ 0 0 f0 f3 g0 _ _ ls (n_c tI_0 (by decide)) (n_c tI_0 (by decide)) (by have q := tI_0; (first | omega | (unfold zBd at *; omega))) (Nat.lt_succ_self _) hP hD hS (lv_sub hl [0, 1, 2, 3] rfl)
theorem om_1634 {a b : Int} (h0 : ((-2147483648) ≤ a)) (h1 : (b = 0)) (h2 : (a ≤ 2147483647)) : (-a ≤ 4294967296 - 4294967296 * b ∧ a ≤ 9 + 4294967296 - 4294967296 * b) := by omega
theorem om_1635 {a b c d e : Int} (h0 : (¬ b = 0)) (h1 : ((b = 0 ∧ c < d) ∨ (b = 0 ∧ c ≥ d ∧ c > e) ∨ (b = 1 ∧ c ≥ d ∧ c ≤ e))) (h2 : (c = a)) (h3 : (e = 9)) : (a + 1 ≤ 2147483647) := by omega
theorem om_1636 {a b c d e f : Int} (h0 : (¬ b = 0)) (h1 : ((b = 0 ∧ c < d) ∨ (b = 0 ∧ c ≥ d ∧ c > e) ∨ (b = 1 ∧ c ≥ d ∧ c ≤ e))) (h2 : (a = f + 1)) (h3 : (c = f)) (h4 : (d = 0)) (h5 : (e = 9)) : ((1 ≤ a ∧ a ≤ 10)) := by omega
theorem om_1637 {a b c d e f g h : Int} (h0 : (¬ c = 0)) (h1 : ((c = 0 ∧ d < e) ∨ (c = 0 ∧ d ≥ e ∧ d > f) ∨ (c = 1 ∧ d ≥ e ∧ d ≤ f))) (h2 : (d = a)) (h3 : (b = 1)) (h4 : (e = 0)) (h5 : (g = a + 1)) (h6 : (h = g)) (h7 : (h ≤ 10)) : (-a ≤ 4294967296 - 4294967296 * b ∧ a ≤ 9 + 4294967296 - 4294967296 * b) := by omega
set_option maxHeartbeats 4000000 in
set_option maxRecDepth 100000 in
theorem k_X12_isNear (l : Launch) (D : va_G) (cB cC cI cJ : ClassId) (sz : Nat) (a0 a1 a2 a3 a4 a5 a6 a7 a8 a9 a10 a11 a12 a13 a14 a15 a16 a17 a18 a19 a20 a21 a22 a23 a24 a25 a26 a27 a28 a29 a30 a31 a32 a33 a34 a35 a36 a37 a38 a39 a40 a41 a42 a43 : Nat) (x0 x1 x2 x3 x4 x5 x6 x7 x8 x9 x10 x11 x12 x13 x14 x15 x16 x17 x18 x19 x20 x21 x22 x23 x24 x25 x26 x27 x28 : Int32) (y0 y1 : Int64) (f0 f1 f2 f3 : Nat → Int32) (g0 : Nat → Int64) (h_x1 : zBd x1.toInt 0 1600) (h_x2 : zBd x2.toInt 0 1600) (h_x3 : zBd x3.toInt 0 1600) (h_x4 : zBd x4.toInt (-1) 1600) (h_x5 : zBd x5.toInt 0 4) (h_x6 : zBd x6.toInt (-1) 1600) (h_x9 : zBd x9.toInt 0 8) (h_x10 : zBd x10.toInt 0 5) (h_x11 : zBd x11.toInt 0 6) (h_x12 : zBd x12.toInt 0 6) (h_x13 : zBd x13.toInt 0 16) (h_x15 : zBd x15.toInt 0 60) (h_x16 : zBd x16.toInt 0 1600) (h_x17 : zBd x17.toInt 0 1700) (h_x19 : zBd x19.toInt 0 1700) (h_x20 : zBd x20.toInt 0 1700) (h_x21 : zBd x21.toInt 0 200) (h_x22 : zBd x22.toInt 0 40) (h_x23 : zBd x23.toInt 0 40) (h_x24 : zBd x24.toInt 0 1) (h_x25 : zBd x25.toInt 0 14) (h_x26 : zBd x26.toInt 0 200) (h_x27 : zBd x27.toInt 0 40) (h_x28 : zBd x28.toInt 0 40) (hr_a0_0 : (x22.toInt ≤ x21.toInt)) (hr_a0_1 : (x21.toInt + x23.toInt ≤ 200)) (hr_a0_2 : (x10.toInt = 0 ∨ 2 ≤ x9.toInt)) (hf_f1 : (∀ j, (-9999) ≤ (f1 j).toInt ∧ (f1 j).toInt ≤ 9999)) (hf_f2 : (∀ j, (-1100000) ≤ (f2 j).toInt ∧ (f2 j).toInt ≤ 1100000)) : Met l yX12_isNear (.code yX12_isNear cX12_isNear 2 (some .boolean) :: lw_gd) ({ frames := 4, cells := 0, slots := 0, locals := 96 }) (gPre D [(cB, .byte), (cC, .char), (cI, .int), (cJ, .long)] [.ref a0, .int x0] (zS_8 cB cC cI cJ a0 a1 x1 x2 x3 x4 x5 x6 x7 x8 a2 a3 a4 a5 a6 a7 a8 a9 a10 a11 a12 a13 a14 a15 a16 x9 x10 x11 x12 x13 x14 a17 a18 a19 x15 a20 x16 a21 x17 x18 a22 a23 a24 a25 x19 a26 x20 a27 a28 a29 y0 a30 a31 a32 a33 a34 a35 a36 a37 a38 x21 x22 x23 y1 a39 x24 a40 a41 a42 a43 x25 x26 x27 x28 a29 f0 a18 f1 a28 f2 a30 g0 a31 f3) sz) (va_Qi (fun r u => (0 ≤ r.toInt ∧ r.toInt ≤ 1) ∧ (-x0.toInt ≤ 4294967296 - 4294967296 * r.toInt ∧ x0.toInt ≤ 9 + 4294967296 - 4294967296 * r.toInt)) (gB D (va_A (zS_8 cB cC cI cJ a0 a1 x1 x2 x3 x4 x5 x6 x7 x8 a2 a3 a4 a5 a6 a7 a8 a9 a10 a11 a12 a13 a14 a15 a16 x9 x10 x11 x12 x13 x14 a17 a18 a19 x15 a20 x16 a21 x17 x18 a22 a23 a24 a25 x19 a26 x20 a27 a28 a29 y0 a30 a31 a32 a33 a34 a35 a36 a37 a38 x21 x22 x23 y1 a39 x24 a40 a41 a42 a43 x25 x26 x27 x28 a29 f0 a18 f1 a28 f2 a30 g0 a31 f3) sz) (fun u : gEx => (zS_8 cB cC cI cJ a0 a1 x1 x2 x3 x4 x5 x6 x7 x8 a2 a3 a4 a5 a6 a7 a8 a9 a10 a11 a12 a13 a14 a15 a16 x9 x10 x11 x12 x13 x14 a17 a18 a19 x15 a20 x16 a21 x17 x18 a22 a23 a24 a25 x19 a26 x20 a27 a28 a29 y0 a30 a31 a32 a33 a34 a35 a36 a37 a38 x21 x22 x23 y1 a39 x24 a40 a41 a42 a43 x25 x26 x27 x28 a29 (u.2.1 0) a18 f1 a28 f2 a30 (u.2.2.1 0) a31 (u.2.1 1)))) (va_A (zS_8 cB cC cI cJ a0 a1 x1 x2 x3 x4 x5 x6 x7 x8 a2 a3 a4 a5 a6 a7 a8 a9 a10 a11 a12 a13 a14 a15 a16 x9 x10 x11 x12 x13 x14 a17 a18 a19 x15 a20 x16 a21 x17 x18 a22 a23 a24 a25 x19 a26 x20 a27 a28 a29 y0 a30 a31 a32 a33 a34 a35 a36 a37 a38 x21 x22 x23 y1 a39 x24 a40 a41 a42 a43 x25 x26 x27 x28 a29 f0 a18 f1 a28 f2 a30 g0 a31 f3) sz)) 0 0 (va_A (zS_8 cB cC cI cJ a0 a1 x1 x2 x3 x4 x5 x6 x7 x8 a2 a3 a4 a5 a6 a7 a8 a9 a10 a11 a12 a13 a14 a15 a16 x9 x10 x11 x12 x13 x14 a17 a18 a19 x15 a20 x16 a21 x17 x18 a22 a23 a24 a25 x19 a26 x20 a27 a28 a29 y0 a30 a31 a32 a33 a34 a35 a36 a37 a38 x21 x22 x23 y1 a39 x24 a40 a41 a42 a43 x25 x26 x27 x28 a29 f0 a18 f1 a28 f2 a30 g0 a31 f3) sz) := by
  refine gOf_z (by decide +kernel) (Nat.le_of_ble_eq_true rfl) ?_
  intro p e s m args below meth c ls A Q hx hb hts hown hml hN hK hP hD hA hl hret
  replace hown : s.vm.findClass RX12 = some m.cls := hown
  have hS : va_S A s.heap s.heap [] := va_S.rf
  replace hP : va_P D gcl (zS_8 cB cC cI cJ a0 a1 x1 x2 x3 x4 x5 x6 x7 x8 a2 a3 a4 a5 a6 a7 a8 a9 a10 a11 a12 a13 a14 a15 a16 x9 x10 x11 x12 x13 x14 a17 a18 a19 x15 a20 x16 a21 x17 x18 a22 a23 a24 a25 x19 a26 x20 a27 a28 a29 y0 a30 a31 a32 a33 a34 a35 a36 a37 a38 x21 x22 x23 y1 a39 x24 a40 a41 a42 a43 x25 x26 x27 x28 a29 f0 a18 f1 a28 f2 a30 g0 a31 f3) s.heap := hP
  replace hl : lv_has ls 2 [(0, .ref a0), (1, .int x0)] := hl
  have rx0 : zBd x0.toInt (-2147483648) 2147483647 := n_rng x0
  have rx7 : zBd x7.toInt (-2147483648) 2147483647 := n_rng x7
  have rx8 : zBd x8.toInt (-2147483648) 2147483647 := n_rng x8
  have rx14 : zBd x14.toInt (-2147483648) 2147483647 := n_rng x14
  have rx18 : zBd x18.toInt (-2147483648) 2147483647 := n_rng x18
  have ry0 := n_rngL y0
  have ry1 := n_rngL y1
  refine lv_iload_n (pc := 0) hx hb dX12_isNear_0 rfl (lv_at hl 1 rfl) ?_
  refine b_i2l (pc := 1) hx hb rfl dX12_isNear_1 (fun y_1 ey_1 => ?_)
  have ry_1 : zBd x0.toInt (-2147483648) 2147483647 := n_rng x0
  refine lv_lconst (pc := 2) (v := 0) hx hb dX12_isNear_2 (by decide) ?_
  refine lv_ldc2 (pc := 3) hx hb hown (hts _ tw_1860) dX12_isNear_3 ?_
  refine gd_i (pc := 6) (wc := []) hP hD hS hA [] rfl (by decide +kernel) (fun _ => by rfl) (fun hPc hDc => va_runS (As := [.long y_1, .long 0, .long 9]) (rest := []) ⟨hx, hb, hml, hown, hts⟩ (k_X12_isIn l D cB cC cI cJ _ y_1 0 9) ⟨gcwB hts tw_1666 tw_14 tw_1664 hd_yX12_isIn ⟨Nat.le_of_ble_eq_true rfl, Nat.le_of_ble_eq_true rfl⟩, hts _ tw_1665⟩ (gpreS hPc hK hDc hN) rfl rfl hl.1 rfl (lv_room (Nat.le_of_ble_eq_true rfl)) dX12_isNear_6 ⟨Nat.le_of_ble_eq_true rfl, Nat.le_of_ble_eq_true rfl⟩) (fun r_3 u_2 H locs hw_4 hP hD hS => ?_)
  replace hP : va_P D gcl (zS_8 cB cC cI cJ a0 a1 x1 x2 x3 x4 x5 x6 x7 x8 a2 a3 a4 a5 a6 a7 a8 a9 a10 a11 a12 a13 a14 a15 a16 x9 x10 x11 x12 x13 x14 a17 a18 a19 x15 a20 x16 a21 x17 x18 a22 a23 a24 a25 x19 a26 x20 a27 a28 a29 y0 a30 a31 a32 a33 a34 a35 a36 a37 a38 x21 x22 x23 y1 a39 x24 a40 a41 a42 a43 x25 x26 x27 x28 a29 f0 a18 f1 a28 f2 a30 g0 a31 f3) H := hP
  replace hD : va_D A (zS_8 cB cC cI cJ a0 a1 x1 x2 x3 x4 x5 x6 x7 x8 a2 a3 a4 a5 a6 a7 a8 a9 a10 a11 a12 a13 a14 a15 a16 x9 x10 x11 x12 x13 x14 a17 a18 a19 x15 a20 x16 a21 x17 x18 a22 a23 a24 a25 x19 a26 x20 a27 a28 a29 y0 a30 a31 a32 a33 a34 a35 a36 a37 a38 x21 x22 x23 y1 a39 x24 a40 a41 a42 a43 x25 x26 x27 x28 a29 f0 a18 f1 a28 f2 a30 g0 a31 f3) := hD
  have hw_5 : ((r_3.toInt = 0 ∧ y_1.toInt < (0 : Int64).toInt) ∨ (r_3.toInt = 0 ∧ y_1.toInt ≥ (0 : Int64).toInt ∧ y_1.toInt > (9 : Int64).toInt) ∨ (r_3.toInt = 1 ∧ y_1.toInt ≥ (0 : Int64).toInt ∧ y_1.toInt ≤ (9 : Int64).toInt)) := hw_4
  have kk0_r_3 := tL_0
  have kk1_r_3 := tL_9
  have rr_3 : zBd r_3.toInt (-2147483648) 2147483647 := n_rng r_3
  refine b_if_eq (pc := 9) (tgt := 29) hx hb rfl  dX12_isNear_9 (by decide) (fun c_6 => ?_) (fun c_6 => ?_)
  ·
    as_aux_lemma =>
      refine lv_iconst (pc := 29) (v := 0) hx hb dX12_isNear_29 (by decide) ?_
      have hP9 : va_P D gcl (zS_8 cB cC cI cJ a0 a1 x1 x2 x3 x4 x5 x6 x7 x8 a2 a3 a4 a5 a6 a7 a8 a9 a10 a11 a12 a13 a14 a15 a16 x9 x10 x11 x12 x13 x14 a17 a18 a19 x15 a20 x16 a21 x17 x18 a22 a23 a24 a25 x19 a26 x20 a27 a28 a29 y0 a30 a31 a32 a33 a34 a35 a36 a37 a38 x21 x22 x23 y1 a39 x24 a40 a41 a42 a43 x25 x26 x27 x28 a29 f0 a18 f1 a28 f2 a30 g0 a31 f3) H := g_psub hP [0, 1, 2, 3, 4, 5] rfl
      have hD9 : va_D A (zS_8 cB cC cI cJ a0 a1 x1 x2 x3 x4 x5 x6 x7 x8 a2 a3 a4 a5 a6 a7 a8 a9 a10 a11 a12 a13 a14 a15 a16 x9 x10 x11 x12 x13 x14 a17 a18 a19 x15 a20 x16 a21 x17 x18 a22 a23 a24 a25 x19 a26 x20 a27 a28 a29 y0 a30 a31 a32 a33 a34 a35 a36 a37 a38 x21 x22 x23 y1 a39 x24 a40 a41 a42 a43 x25 x26 x27 x28 a29 f0 a18 f1 a28 f2 a30 g0 a31 f3) := hD.sub [0, 1, 2, 3, 4, 5] (by decide) rfl
      have k9 := tI_0
      exact hret 0 ((fun _ => 0), (fun k => [f0, f3].getD k (fun _ => 0)), (fun k => [g0].getD k (fun _ => 0)), (fun _ => 0), (fun _ => 0)) dX12_isNear_30 ⟨(Or.inl tI_0), ⟨(show (0 ≤ (0 : Int32).toInt ∧ (0 : Int32).toInt ≤ 1) from (n_c tI_0 (by decide))), (show -x0.toInt ≤ 4294967296 - 4294967296 * (0 : Int32).toInt ∧ x0.toInt ≤ 9 + 4294967296 - 4294967296 * (0 : Int32).toInt from (by first | exact (om_1634 ry_1.1 tI_0 ry_1.2) | (have k9 := tI_0; (first | omega | (unfold zBd at *; omega)))))⟩⟩ hP9 hD9 hS
  ·
    as_aux_lemma =>
      refine lv_aload_n (pc := 12) hx hb dX12_isNear_12 rfl (lv_at hl 0 rfl) ?_
      refine lv_iload_n (pc := 13) hx hb dX12_isNear_13 rfl (lv_at hl 1 rfl) ?_
      refine lv_iconst (pc := 14) (v := 1) hx hb dX12_isNear_14 (by decide) ?_
      refine b_iadd (pc := 15) hx hb rfl tI_1 (by first | exact (om_561 ry_1.1) | ((first | omega | (unfold zBd at *; omega)))) (by first | exact (om_1635 c_6 hw_5 ey_1 tL_9) | ((first | omega | (unfold zBd at *; omega)))) dX12_isNear_15 (fun x_7 ex_7 => ?_)
      refine gd_i (pc := 16) (wc := (zS_8 cB cC cI cJ a0 a1 x1 x2 x3 x4 x5 x6 x7 x8 a2 a3 a4 a5 a6 a7 a8 a9 a10 a11 a12 a13 a14 a15 a16 x9 x10 x11 x12 x13 x14 a17 a18 a19 x15 a20 x16 a21 x17 x18 a22 a23 a24 a25 x19 a26 x20 a27 a28 a29 y0 a30 a31 a32 a33 a34 a35 a36 a37 a38 x21 x22 x23 y1 a39 x24 a40 a41 a42 a43 x25 x26 x27 x28 a29 f0 a18 f1 a28 f2 a30 g0 a31 f3)) hP hD hS hA [0, 1, 2, 3, 4, 5] rfl (by decide +kernel) (fun _ => by rfl) (fun hPc hDc => va_runV (As := [.int x_7]) (rest := []) ⟨hx, hb, hml, hown, hts⟩ (k_X12_nears l D cB cC cI cJ _ a0 a1 a2 a3 a4 a5 a6 a7 a8 a9 a10 a11 a12 a13 a14 a15 a16 a17 a18 a19 a20 a21 a22 a23 a24 a25 a26 a27 a28 a29 a30 a31 a32 a33 a34 a35 a36 a37 a38 a39 a40 a41 a42 a43 x_7 x1 x2 x3 x4 x5 x6 x7 x8 x9 x10 x11 x12 x13 x14 x15 x16 x17 x18 x19 x20 x21 x22 x23 x24 x25 x26 x27 x28 y0 y1 f0 f1 f2 f3 g0 (by first | exact (om_1636 c_6 hw_5 ex_7 ey_1 tL_0 tL_9) | ((first | omega | (unfold zBd at *; omega)))) h_x1 h_x2 h_x3 h_x4 h_x5 h_x6 h_x9 h_x10 h_x11 h_x12 h_x13 h_x15 h_x16 h_x17 h_x19 h_x20 h_x21 h_x22 h_x23 h_x24 h_x25 h_x26 h_x27 h_x28 hr_a0_0 hr_a0_1 hr_a0_2 hf_f1 hf_f2) ⟨gcwB hts tw_1864 tw_14 tw_1861 hd_yX12_nears ⟨Nat.le_of_ble_eq_true rfl, Nat.le_of_ble_eq_true rfl⟩, hts _ tw_1863, hts _ tp_99⟩ ⟨gblind, va_recv hK hPc (ci := 12) (q0 := 0) rfl rfl, (gpreS hPc hK hDc hN).2⟩ rfl rfl hl.1 rfl (lv_room (Nat.le_of_ble_eq_true rfl)) dX12_isNear_16 ⟨Nat.le_of_ble_eq_true rfl, Nat.le_of_ble_eq_true rfl⟩) (fun r_9 u_8 H locs hw_10 hP hD hS => ?_)
      replace hP : va_P D gcl (zS_8 cB cC cI cJ a0 a1 x1 x2 x3 x4 x5 x6 x7 x8 a2 a3 a4 a5 a6 a7 a8 a9 a10 a11 a12 a13 a14 a15 a16 x9 x10 x11 x12 x13 x14 a17 a18 a19 x15 a20 x16 a21 x17 x18 a22 a23 a24 a25 x19 a26 x20 a27 a28 a29 y0 a30 a31 a32 a33 a34 a35 a36 a37 a38 x21 x22 x23 y1 a39 x24 a40 a41 a42 a43 x25 x26 x27 x28 a29 (u_8.2.1 0) a18 f1 a28 f2 a30 (u_8.2.2.1 0) a31 (u_8.2.1 1)) H := hP
      replace hD : va_D A (zS_8 cB cC cI cJ a0 a1 x1 x2 x3 x4 x5 x6 x7 x8 a2 a3 a4 a5 a6 a7 a8 a9 a10 a11 a12 a13 a14 a15 a16 x9 x10 x11 x12 x13 x14 a17 a18 a19 x15 a20 x16 a21 x17 x18 a22 a23 a24 a25 x19 a26 x20 a27 a28 a29 y0 a30 a31 a32 a33 a34 a35 a36 a37 a38 x21 x22 x23 y1 a39 x24 a40 a41 a42 a43 x25 x26 x27 x28 a29 (u_8.2.1 0) a18 f1 a28 f2 a30 (u_8.2.2.1 0) a31 (u_8.2.1 1)) := hD
      have hw_11 : (((0 ≤ r_9.toInt ∧ r_9.toInt ≤ 10))) := hw_10
      have rr_9 : zBd r_9.toInt (-2147483648) 2147483647 := n_rng r_9
      refine lv_iload_n (pc := 19) hx hb dX12_isNear_19 rfl (lv_at hl 1 rfl) ?_
      refine lv_iconst (pc := 20) (v := 1) hx hb dX12_isNear_20 (by decide) ?_
      refine b_iadd (pc := 21) hx hb rfl tI_1 (by first | exact (om_561 ry_1.1) | ((first | omega | (unfold zBd at *; omega)))) (by first | exact (om_1635 c_6 hw_5 ey_1 tL_9) | ((first | omega | (unfold zBd at *; omega)))) dX12_isNear_21 (fun x_12 ex_12 => ?_)
      refine b_icmp_ne (pc := 22) (tgt := 29) hx hb rfl rfl  dX12_isNear_22 (by decide) (fun c_13 => ?_) (fun c_13 => ?_)
      ·
        as_aux_lemma =>
          refine lv_iconst (pc := 29) (v := 0) hx hb dX12_isNear_29 (by decide) ?_
          have hP9 : va_P D gcl (zS_8 cB cC cI cJ a0 a1 x1 x2 x3 x4 x5 x6 x7 x8 a2 a3 a4 a5 a6 a7 a8 a9 a10 a11 a12 a13 a14 a15 a16 x9 x10 x11 x12 x13 x14 a17 a18 a19 x15 a20 x16 a21 x17 x18 a22 a23 a24 a25 x19 a26 x20 a27 a28 a29 y0 a30 a31 a32 a33 a34 a35 a36 a37 a38 x21 x22 x23 y1 a39 x24 a40 a41 a42 a43 x25 x26 x27 x28 a29 (u_8.2.1 0) a18 f1 a28 f2 a30 (u_8.2.2.1 0) a31 (u_8.2.1 1)) H := g_psub hP [0, 1, 2, 3, 4, 5] rfl
          have hD9 : va_D A (zS_8 cB cC cI cJ a0 a1 x1 x2 x3 x4 x5 x6 x7 x8 a2 a3 a4 a5 a6 a7 a8 a9 a10 a11 a12 a13 a14 a15 a16 x9 x10 x11 x12 x13 x14 a17 a18 a19 x15 a20 x16 a21 x17 x18 a22 a23 a24 a25 x19 a26 x20 a27 a28 a29 y0 a30 a31 a32 a33 a34 a35 a36 a37 a38 x21 x22 x23 y1 a39 x24 a40 a41 a42 a43 x25 x26 x27 x28 a29 (u_8.2.1 0) a18 f1 a28 f2 a30 (u_8.2.2.1 0) a31 (u_8.2.1 1)) := hD.sub [0, 1, 2, 3, 4, 5] (by decide) rfl
          have k9 := tI_0
          exact hret 0 ((fun _ => 0), (fun k => [(u_8.2.1 0), (u_8.2.1 1)].getD k (fun _ => 0)), (fun k => [(u_8.2.2.1 0)].getD k (fun _ => 0)), (fun _ => 0), (fun _ => 0)) dX12_isNear_30 ⟨(Or.inl tI_0), ⟨(show (0 ≤ (0 : Int32).toInt ∧ (0 : Int32).toInt ≤ 1) from (n_c tI_0 (by decide))), (show -x0.toInt ≤ 4294967296 - 4294967296 * (0 : Int32).toInt ∧ x0.toInt ≤ 9 + 4294967296 - 4294967296 * (0 : Int32).toInt from (by first | exact (om_1634 ry_1.1 tI_0 ry_1.2) | (have k9 := tI_0; (first | omega | (unfold zBd at *; omega)))))⟩⟩ hP9 hD9 hS
      ·
        as_aux_lemma =>
          refine lv_iconst (pc := 25) (v := 1) hx hb dX12_isNear_25 (by decide) ?_
          refine lv_goto (pc := 26) (tgt := 30) hx hb dX12_isNear_26 (by decide) ?_
          have hP9 : va_P D gcl (zS_8 cB cC cI cJ a0 a1 x1 x2 x3 x4 x5 x6 x7 x8 a2 a3 a4 a5 a6 a7 a8 a9 a10 a11 a12 a13 a14 a15 a16 x9 x10 x11 x12 x13 x14 a17 a18 a19 x15 a20 x16 a21 x17 x18 a22 a23 a24 a25 x19 a26 x20 a27 a28 a29 y0 a30 a31 a32 a33 a34 a35 a36 a37 a38 x21 x22 x23 y1 a39 x24 a40 a41 a42 a43 x25 x26 x27 x28 a29 (u_8.2.1 0) a18 f1 a28 f2 a30 (u_8.2.2.1 0) a31 (u_8.2.1 1)) H := g_psub hP [0, 1, 2, 3, 4, 5] rfl
          have hD9 : va_D A (zS_8 cB cC cI cJ a0 a1 x1 x2 x3 x4 x5 x6 x7 x8 a2 a3 a4 a5 a6 a7 a8 a9 a10 a11 a12 a13 a14 a15 a16 x9 x10 x11 x12 x13 x14 a17 a18 a19 x15 a20 x16 a21 x17 x18 a22 a23 a24 a25 x19 a26 x20 a27 a28 a29 y0 a30 a31 a32 a33 a34 a35 a36 a37 a38 x21 x22 x23 y1 a39 x24 a40 a41 a42 a43 x25 x26 x27 x28 a29 (u_8.2.1 0) a18 f1 a28 f2 a30 (u_8.2.2.1 0) a31 (u_8.2.1 1)) := hD.sub [0, 1, 2, 3, 4, 5] (by decide) rfl
          have k9 := tI_1
          exact hret 1 ((fun _ => 0), (fun k => [(u_8.2.1 0), (u_8.2.1 1)].getD k (fun _ => 0)), (fun k => [(u_8.2.2.1 0)].getD k (fun _ => 0)), (fun _ => 0), (fun _ => 0)) dX12_isNear_30 ⟨(Or.inr tI_1), ⟨(show (0 ≤ (1 : Int32).toInt ∧ (1 : Int32).toInt ≤ 1) from (n_c tI_1 (by decide))), (show -x0.toInt ≤ 4294967296 - 4294967296 * (1 : Int32).toInt ∧ x0.toInt ≤ 9 + 4294967296 - 4294967296 * (1 : Int32).toInt from (by first | exact (om_1637 c_6 hw_5 ey_1 tI_1 tL_0 ex_12 c_13 hw_11.2) | (have k9 := tI_1; (first | omega | (unfold zBd at *; omega)))))⟩⟩ hP9 hD9 hS
theorem om_1638 {a b : Int} (h0 : (¬ b = 0)) (h1 : (0 ≤ b)) (h2 : (a ≤ 9 + 4294967296 - 4294967296 * b)) : (a < (10 : Nat)) := by omega
theorem om_1639 {a b c : Int} (h0 : (¬ b = 0)) (h1 : (0 ≤ b)) (h2 : (a ≤ c - 1 + 4294967296 - 4294967296 * b)) (h3 : (c ≤ 5)) : (a < (5 : Nat)) := by omega
set_option maxHeartbeats 4000000 in
set_option maxRecDepth 100000 in
theorem k_X12_nearest (l : Launch) (D : va_G) (cB cC cI cJ : ClassId) (sz : Nat) (a0 a1 a2 a3 a4 a5 a6 a7 a8 a9 a10 a11 a12 a13 a14 a15 a16 a17 a18 a19 a20 a21 a22 a23 a24 a25 a26 a27 a28 a29 a30 a31 a32 a33 a34 a35 a36 a37 a38 a39 a40 a41 a42 a43 : Nat) (x0 x1 x2 x3 x4 x5 x6 x7 x8 x9 x10 x11 x12 x13 x14 x15 x16 x17 x18 x19 x20 x21 x22 x23 x24 x25 x26 x27 x28 x29 : Int32) (y0 y1 : Int64) (f0 f1 f2 f3 : Nat → Int32) (g0 : Nat → Int64) (h_x2 : zBd x2.toInt 0 1600) (h_x3 : zBd x3.toInt 0 1600) (h_x4 : zBd x4.toInt 0 1600) (h_x5 : zBd x5.toInt (-1) 1600) (h_x6 : zBd x6.toInt 0 4) (h_x7 : zBd x7.toInt (-1) 1600) (h_x10 : zBd x10.toInt 0 8) (h_x11 : zBd x11.toInt 0 5) (h_x12 : zBd x12.toInt 0 6) (h_x13 : zBd x13.toInt 0 6) (h_x14 : zBd x14.toInt 0 16) (h_x16 : zBd x16.toInt 0 60) (h_x17 : zBd x17.toInt 0 1600) (h_x18 : zBd x18.toInt 0 1700) (h_x20 : zBd x20.toInt 0 1700) (h_x21 : zBd x21.toInt 0 1700) (h_x22 : zBd x22.toInt 0 200) (h_x23 : zBd x23.toInt 0 40) (h_x24 : zBd x24.toInt 0 40) (h_x25 : zBd x25.toInt 0 1) (h_x26 : zBd x26.toInt 0 14) (h_x27 : zBd x27.toInt 0 200) (h_x28 : zBd x28.toInt 0 40) (h_x29 : zBd x29.toInt 0 40) (hr_a0_0 : (x23.toInt ≤ x22.toInt)) (hr_a0_1 : (x22.toInt + x24.toInt ≤ 200)) (hr_a0_2 : (x11.toInt = 0 ∨ 2 ≤ x10.toInt)) (hf_f1 : (∀ j, (-9999) ≤ (f1 j).toInt ∧ (f1 j).toInt ≤ 9999)) (hf_f2 : (∀ j, (-1100000) ≤ (f2 j).toInt ∧ (f2 j).toInt ≤ 1100000)) : Met l yX12_nearest (.code yX12_nearest cX12_nearest 3 (some .int) :: lw_gd) ({ frames := 5, cells := 0, slots := 0, locals := 117 }) (gPre D [(cB, .byte), (cC, .char), (cI, .int), (cJ, .long)] [.ref a0, .int x0, .int x1] (zS_8 cB cC cI cJ a0 a1 x2 x3 x4 x5 x6 x7 x8 x9 a2 a3 a4 a5 a6 a7 a8 a9 a10 a11 a12 a13 a14 a15 a16 x10 x11 x12 x13 x14 x15 a17 a18 a19 x16 a20 x17 a21 x18 x19 a22 a23 a24 a25 x20 a26 x21 a27 a28 a29 y0 a30 a31 a32 a33 a34 a35 a36 a37 a38 x22 x23 x24 y1 a39 x25 a40 a41 a42 a43 x26 x27 x28 x29 a29 f0 a18 f1 a28 f2 a30 g0 a31 f3) sz) (va_Qi (fun r u => ((r.toInt = (-1000000000)) ∨ (((-2147483648) ≤ r.toInt ∧ r.toInt ≤ 2147483647)))) (gB D (va_A (zS_8 cB cC cI cJ a0 a1 x2 x3 x4 x5 x6 x7 x8 x9 a2 a3 a4 a5 a6 a7 a8 a9 a10 a11 a12 a13 a14 a15 a16 x10 x11 x12 x13 x14 x15 a17 a18 a19 x16 a20 x17 a21 x18 x19 a22 a23 a24 a25 x20 a26 x21 a27 a28 a29 y0 a30 a31 a32 a33 a34 a35 a36 a37 a38 x22 x23 x24 y1 a39 x25 a40 a41 a42 a43 x26 x27 x28 x29 a29 f0 a18 f1 a28 f2 a30 g0 a31 f3) sz) (fun u : gEx => (zS_8 cB cC cI cJ a0 a1 x2 x3 x4 x5 x6 x7 x8 x9 a2 a3 a4 a5 a6 a7 a8 a9 a10 a11 a12 a13 a14 a15 a16 x10 x11 x12 x13 x14 x15 a17 a18 a19 x16 a20 x17 a21 x18 x19 a22 a23 a24 a25 x20 a26 x21 a27 a28 a29 y0 a30 a31 a32 a33 a34 a35 a36 a37 a38 x22 x23 x24 y1 a39 x25 a40 a41 a42 a43 x26 x27 x28 x29 a29 (u.2.1 0) a18 f1 a28 f2 a30 (u.2.2.1 0) a31 (u.2.1 1)))) (va_A (zS_8 cB cC cI cJ a0 a1 x2 x3 x4 x5 x6 x7 x8 x9 a2 a3 a4 a5 a6 a7 a8 a9 a10 a11 a12 a13 a14 a15 a16 x10 x11 x12 x13 x14 x15 a17 a18 a19 x16 a20 x17 a21 x18 x19 a22 a23 a24 a25 x20 a26 x21 a27 a28 a29 y0 a30 a31 a32 a33 a34 a35 a36 a37 a38 x22 x23 x24 y1 a39 x25 a40 a41 a42 a43 x26 x27 x28 x29 a29 f0 a18 f1 a28 f2 a30 g0 a31 f3) sz)) 0 0 (va_A (zS_8 cB cC cI cJ a0 a1 x2 x3 x4 x5 x6 x7 x8 x9 a2 a3 a4 a5 a6 a7 a8 a9 a10 a11 a12 a13 a14 a15 a16 x10 x11 x12 x13 x14 x15 a17 a18 a19 x16 a20 x17 a21 x18 x19 a22 a23 a24 a25 x20 a26 x21 a27 a28 a29 y0 a30 a31 a32 a33 a34 a35 a36 a37 a38 x22 x23 x24 y1 a39 x25 a40 a41 a42 a43 x26 x27 x28 x29 a29 f0 a18 f1 a28 f2 a30 g0 a31 f3) sz) := by
  refine gOf_i (by decide +kernel) (Nat.le_of_ble_eq_true rfl) ?_
  intro p e s m args below meth c ls A Q hx hb hts hown hml hN hK hP hD hA hl hret
  replace hown : s.vm.findClass RX12 = some m.cls := hown
  have hS : va_S A s.heap s.heap [] := va_S.rf
  replace hP : va_P D gcl (zS_8 cB cC cI cJ a0 a1 x2 x3 x4 x5 x6 x7 x8 x9 a2 a3 a4 a5 a6 a7 a8 a9 a10 a11 a12 a13 a14 a15 a16 x10 x11 x12 x13 x14 x15 a17 a18 a19 x16 a20 x17 a21 x18 x19 a22 a23 a24 a25 x20 a26 x21 a27 a28 a29 y0 a30 a31 a32 a33 a34 a35 a36 a37 a38 x22 x23 x24 y1 a39 x25 a40 a41 a42 a43 x26 x27 x28 x29 a29 f0 a18 f1 a28 f2 a30 g0 a31 f3) s.heap := hP
  replace hl : lv_has ls 3 [(0, .ref a0), (1, .int x0), (2, .int x1)] := hl
  have rx0 : zBd x0.toInt (-2147483648) 2147483647 := n_rng x0
  have rx1 : zBd x1.toInt (-2147483648) 2147483647 := n_rng x1
  have rx8 : zBd x8.toInt (-2147483648) 2147483647 := n_rng x8
  have rx9 : zBd x9.toInt (-2147483648) 2147483647 := n_rng x9
  have rx15 : zBd x15.toInt (-2147483648) 2147483647 := n_rng x15
  have rx19 : zBd x19.toInt (-2147483648) 2147483647 := n_rng x19
  have ry0 := n_rngL y0
  have ry1 := n_rngL y1
  refine lv_aload_n (pc := 0) hx hb dX12_nearest_0 rfl (lv_at hl 0 rfl) ?_
  refine lv_iload_n (pc := 1) hx hb dX12_nearest_1 rfl (lv_at hl 2 rfl) ?_
  refine gd_i (pc := 2) (wc := (zS_4 cB cC cI cJ a0 a1 x2 x3 x4 x5 x6 x7 x8 x9 a2 a3 a4 a5 a6 a7 a8 a9 a10 a11 a12 a13 a14 a15 a16 x10 x11 x12 x13 x14 x15 a17 a18 a19 x16 a20 x17 a21 x18 x19 a22 a23 a24 a25 x20 a26 x21 a27 a28 a29 y0 a30 a31 a32 a33 a34 a35 a36 a37 a38 x22 x23 x24 y1 a39 x25 a40 a41 a42 a43 x26 x27 x28 x29)) hP hD hS hA [0] rfl (by decide +kernel) (fun _ => by rfl) (fun hPc hDc => va_runV (As := [.int x1]) (rest := []) ⟨hx, hb, hml, hown, hts⟩ (k_X12_isSender l D cB cC cI cJ _ a0 a1 a2 a3 a4 a5 a6 a7 a8 a9 a10 a11 a12 a13 a14 a15 a16 a17 a18 a19 a20 a21 a22 a23 a24 a25 a26 a27 a28 a29 a30 a31 a32 a33 a34 a35 a36 a37 a38 a39 a40 a41 a42 a43 x1 x2 x3 x4 x5 x6 x7 x8 x9 x10 x11 x12 x13 x14 x15 x16 x17 x18 x19 x20 x21 x22 x23 x24 x25 x26 x27 x28 x29 y0 y1 h_x2 h_x3 h_x4 h_x5 h_x6 h_x7 h_x10 h_x11 h_x12 h_x13 h_x14 h_x16 h_x17 h_x18 h_x20 h_x21 h_x22 h_x23 h_x24 h_x25 h_x26 h_x27 h_x28 h_x29 hr_a0_0 hr_a0_1 hr_a0_2) ⟨gcwB hts tw_1782 tw_14 tw_1779 hd_yX12_isSender ⟨Nat.le_of_ble_eq_true rfl, Nat.le_of_ble_eq_true rfl⟩, hts _ tw_1781, hts _ tp_90⟩ ⟨gblind, va_recv hK hPc (ci := 12) (q0 := 0) rfl rfl, (gpreS hPc hK hDc hN).2⟩ rfl rfl hl.1 rfl (lv_room (Nat.le_of_ble_eq_true rfl)) dX12_nearest_2 ⟨Nat.le_of_ble_eq_true rfl, Nat.le_of_ble_eq_true rfl⟩) (fun r_2 u_1 H locs hw_3 hP hD hS => ?_)
  replace hP : va_P D gcl (zS_8 cB cC cI cJ a0 a1 x2 x3 x4 x5 x6 x7 x8 x9 a2 a3 a4 a5 a6 a7 a8 a9 a10 a11 a12 a13 a14 a15 a16 x10 x11 x12 x13 x14 x15 a17 a18 a19 x16 a20 x17 a21 x18 x19 a22 a23 a24 a25 x20 a26 x21 a27 a28 a29 y0 a30 a31 a32 a33 a34 a35 a36 a37 a38 x22 x23 x24 y1 a39 x25 a40 a41 a42 a43 x26 x27 x28 x29 a29 f0 a18 f1 a28 f2 a30 g0 a31 f3) H := hP
  replace hD : va_D A (zS_8 cB cC cI cJ a0 a1 x2 x3 x4 x5 x6 x7 x8 x9 a2 a3 a4 a5 a6 a7 a8 a9 a10 a11 a12 a13 a14 a15 a16 x10 x11 x12 x13 x14 x15 a17 a18 a19 x16 a20 x17 a21 x18 x19 a22 a23 a24 a25 x20 a26 x21 a27 a28 a29 y0 a30 a31 a32 a33 a34 a35 a36 a37 a38 x22 x23 x24 y1 a39 x25 a40 a41 a42 a43 x26 x27 x28 x29 a29 f0 a18 f1 a28 f2 a30 g0 a31 f3) := hD
  obtain ⟨hw_4, hw_5, hw_6⟩ := hw_3
  replace hw_4 : (0 ≤ r_2.toInt ∧ r_2.toInt ≤ 1) := hw_4
  replace hw_5 : (-x1.toInt ≤ 4294967296 - 4294967296 * r_2.toInt ∧ x1.toInt ≤ x11.toInt - 1 + 4294967296 - 4294967296 * r_2.toInt) := hw_5
  replace hw_6 : (inQ r_2.toInt x1.toInt x11.toInt) := hw_6
  have rr_2 : zBd r_2.toInt (-2147483648) 2147483647 := n_rng r_2
  refine b_if_eq (pc := 5) (tgt := 16) hx hb rfl  dX12_nearest_5 (by decide) (fun c_7 => ?_) (fun c_7 => ?_)
  ·
    as_aux_lemma =>
      refine lv_ldcw (pc := 16) hx hb hown (hts _ tw_1783) dX12_nearest_16 ?_
      have hP9 : va_P D gcl (zS_8 cB cC cI cJ a0 a1 x2 x3 x4 x5 x6 x7 x8 x9 a2 a3 a4 a5 a6 a7 a8 a9 a10 a11 a12 a13 a14 a15 a16 x10 x11 x12 x13 x14 x15 a17 a18 a19 x16 a20 x17 a21 x18 x19 a22 a23 a24 a25 x20 a26 x21 a27 a28 a29 y0 a30 a31 a32 a33 a34 a35 a36 a37 a38 x22 x23 x24 y1 a39 x25 a40 a41 a42 a43 x26 x27 x28 x29 a29 f0 a18 f1 a28 f2 a30 g0 a31 f3) H := g_psub hP [0, 1, 2, 3, 4, 5] rfl
      have hD9 : va_D A (zS_8 cB cC cI cJ a0 a1 x2 x3 x4 x5 x6 x7 x8 x9 a2 a3 a4 a5 a6 a7 a8 a9 a10 a11 a12 a13 a14 a15 a16 x10 x11 x12 x13 x14 x15 a17 a18 a19 x16 a20 x17 a21 x18 x19 a22 a23 a24 a25 x20 a26 x21 a27 a28 a29 y0 a30 a31 a32 a33 a34 a35 a36 a37 a38 x22 x23 x24 y1 a39 x25 a40 a41 a42 a43 x26 x27 x28 x29 a29 f0 a18 f1 a28 f2 a30 g0 a31 f3) := hD.sub [0, 1, 2, 3, 4, 5] (by decide) rfl
      exact hret (-1000000000) ((fun _ => 0), (fun k => [f0, f3].getD k (fun _ => 0)), (fun k => [g0].getD k (fun _ => 0)), (fun _ => 0), (fun _ => 0)) dX12_nearest_19 (show ((((-1000000000) : Int32).toInt = (-1000000000)) ∨ (((-2147483648) ≤ ((-1000000000) : Int32).toInt ∧ ((-1000000000) : Int32).toInt ≤ 2147483647))) from (by first | exact (om_1342 tI_m1000000000) | (have k9 := tI_m1000000000; (first | omega | (unfold zBd at *; omega))))) hP9 hD9 hS
  ·
    as_aux_lemma =>
      refine lv_aload_n (pc := 8) hx hb dX12_nearest_8 rfl (lv_at hl 0 rfl) ?_
      refine lv_iload_n (pc := 9) hx hb dX12_nearest_9 rfl (lv_at hl 1 rfl) ?_
      refine gd_i (pc := 10) (wc := (zS_8 cB cC cI cJ a0 a1 x2 x3 x4 x5 x6 x7 x8 x9 a2 a3 a4 a5 a6 a7 a8 a9 a10 a11 a12 a13 a14 a15 a16 x10 x11 x12 x13 x14 x15 a17 a18 a19 x16 a20 x17 a21 x18 x19 a22 a23 a24 a25 x20 a26 x21 a27 a28 a29 y0 a30 a31 a32 a33 a34 a35 a36 a37 a38 x22 x23 x24 y1 a39 x25 a40 a41 a42 a43 x26 x27 x28 x29 a29 f0 a18 f1 a28 f2 a30 g0 a31 f3)) hP hD hS hA [0, 1, 2, 3, 4, 5] rfl (by decide +kernel) (fun _ => by rfl) (fun hPc hDc => va_runV (As := [.int x0]) (rest := []) ⟨hx, hb, hml, hown, hts⟩ (k_X12_isNear l D cB cC cI cJ _ a0 a1 a2 a3 a4 a5 a6 a7 a8 a9 a10 a11 a12 a13 a14 a15 a16 a17 a18 a19 a20 a21 a22 a23 a24 a25 a26 a27 a28 a29 a30 a31 a32 a33 a34 a35 a36 a37 a38 a39 a40 a41 a42 a43 x0 x2 x3 x4 x5 x6 x7 x8 x9 x10 x11 x12 x13 x14 x15 x16 x17 x18 x19 x20 x21 x22 x23 x24 x25 x26 x27 x28 x29 y0 y1 f0 f1 f2 f3 g0 h_x2 h_x3 h_x4 h_x5 h_x6 h_x7 h_x10 h_x11 h_x12 h_x13 h_x14 h_x16 h_x17 h_x18 h_x20 h_x21 h_x22 h_x23 h_x24 h_x25 h_x26 h_x27 h_x28 h_x29 hr_a0_0 hr_a0_1 hr_a0_2 hf_f1 hf_f2) ⟨gcwB hts tw_1859 tw_14 tw_1856 hd_yX12_isNear ⟨Nat.le_of_ble_eq_true rfl, Nat.le_of_ble_eq_true rfl⟩, hts _ tw_1858, hts _ tp_98⟩ ⟨gblind, va_recv hK hPc (ci := 12) (q0 := 0) rfl rfl, (gpreS hPc hK hDc hN).2⟩ rfl rfl hl.1 rfl (lv_room (Nat.le_of_ble_eq_true rfl)) dX12_nearest_10 ⟨Nat.le_of_ble_eq_true rfl, Nat.le_of_ble_eq_true rfl⟩) (fun r_9 u_8 H locs hw_10 hP hD hS => ?_)
      replace hP : va_P D gcl (zS_8 cB cC cI cJ a0 a1 x2 x3 x4 x5 x6 x7 x8 x9 a2 a3 a4 a5 a6 a7 a8 a9 a10 a11 a12 a13 a14 a15 a16 x10 x11 x12 x13 x14 x15 a17 a18 a19 x16 a20 x17 a21 x18 x19 a22 a23 a24 a25 x20 a26 x21 a27 a28 a29 y0 a30 a31 a32 a33 a34 a35 a36 a37 a38 x22 x23 x24 y1 a39 x25 a40 a41 a42 a43 x26 x27 x28 x29 a29 (u_8.2.1 0) a18 f1 a28 f2 a30 (u_8.2.2.1 0) a31 (u_8.2.1 1)) H := hP
      replace hD : va_D A (zS_8 cB cC cI cJ a0 a1 x2 x3 x4 x5 x6 x7 x8 x9 a2 a3 a4 a5 a6 a7 a8 a9 a10 a11 a12 a13 a14 a15 a16 x10 x11 x12 x13 x14 x15 a17 a18 a19 x16 a20 x17 a21 x18 x19 a22 a23 a24 a25 x20 a26 x21 a27 a28 a29 y0 a30 a31 a32 a33 a34 a35 a36 a37 a38 x22 x23 x24 y1 a39 x25 a40 a41 a42 a43 x26 x27 x28 x29 a29 (u_8.2.1 0) a18 f1 a28 f2 a30 (u_8.2.2.1 0) a31 (u_8.2.1 1)) := hD
      obtain ⟨hw_11, hw_12⟩ := hw_10
      replace hw_11 : (0 ≤ r_9.toInt ∧ r_9.toInt ≤ 1) := hw_11
      replace hw_12 : (-x0.toInt ≤ 4294967296 - 4294967296 * r_9.toInt ∧ x0.toInt ≤ 9 + 4294967296 - 4294967296 * r_9.toInt) := hw_12
      have rr_9 : zBd r_9.toInt (-2147483648) 2147483647 := n_rng r_9
      refine b_if_ne (pc := 13) (tgt := 20) hx hb rfl  dX12_nearest_13 (by decide) (fun c_13 => ?_) (fun c_13 => ?_)
      ·
        as_aux_lemma =>
          refine lv_aload_n (pc := 20) hx hb dX12_nearest_20 rfl (lv_at hl 0 rfl) ?_
          refine lv_aload_n (pc := 21) hx hb dX12_nearest_21 rfl (lv_at hl 0 rfl) ?_
          refine va_get (pc := 22) (ci := 12) (v := .ref a31) (C := RX12) (T := TX12) (N := 73) hx hb hts iX12 hown hK hP 0 rfl rfl 51 (by decide) (hts _ tw_1452) (fun _ h9 => h9) rfl dX12_nearest_22 ?_
          refine lv_iload_n (pc := 25) hx hb dX12_nearest_25 rfl (lv_at hl 1 rfl) ?_
          refine va_iald (pc := 26) hx hb hK hP 5 2 rfl rfl (n_in rfl (by first | exact (om_1557 c_13 hw_11.1 hw_12.1) | ((first | omega | (unfold zBd at *; omega)))) (by first | exact (om_1638 c_13 hw_11.1 hw_12.2) | ((first | omega | (unfold zBd at *; omega))))) dX12_nearest_26 ?_
          refine lv_topi (fun x_14 ex_14 => ?_)
          have rx_14 : zBd x_14.toInt (-2147483648) 2147483647 := n_rng x_14
          refine gd_v (pc := 27) (wc := (zS_33 cB cC cI cJ a0 a1 x2 x3 x4 x5 x6 x7 x8 x9 a2 a3 a4 a5 a6 a7 a8 a9 a10 a11 a12 a13 a14 a15 a16 x10 x11 x12 x13 x14 x15 a17 a18 a19 x16 a20 x17 a21 x18 x19 a22 a23 a24 a25 x20 a26 x21 a27 a28 a29 y0 a30 a31 a32 a33 a34 a35 a36 a37 a38 x22 x23 x24 y1 a39 x25 a40 a41 a42 a43 x26 x27 x28 x29 a29 (u_8.2.1 0))) hP hD hS hA [0, 1] rfl (by decide +kernel) (fun _ => by rfl) (fun hPc hDc => va_runV (As := [.int x_14]) (rest := []) ⟨hx, hb, hml, hown, hts⟩ (k_X12_rowIs l D cB cC cI cJ _ a0 a1 a2 a3 a4 a5 a6 a7 a8 a9 a10 a11 a12 a13 a14 a15 a16 a17 a18 a19 a20 a21 a22 a23 a24 a25 a26 a27 a28 a29 a30 a31 a32 a33 a34 a35 a36 a37 a38 a39 a40 a41 a42 a43 x_14 x2 x3 x4 x5 x6 x7 x8 x9 x10 x11 x12 x13 x14 x15 x16 x17 x18 x19 x20 x21 x22 x23 x24 x25 x26 x27 x28 x29 y0 y1 (u_8.2.1 0) h_x2 h_x3 h_x4 h_x5 h_x6 h_x7 h_x10 h_x11 h_x12 h_x13 h_x14 h_x16 h_x17 h_x18 h_x20 h_x21 h_x22 h_x23 h_x24 h_x25 h_x26 h_x27 h_x28 h_x29 hr_a0_0 hr_a0_1 hr_a0_2) ⟨gcwB hts tw_1876 tw_14 tw_1873 hd_yX12_rowIs ⟨Nat.le_of_ble_eq_true rfl, Nat.le_of_ble_eq_true rfl⟩, hts _ tw_1875, hts _ tp_102⟩ ⟨gblind, va_recv hK hPc (ci := 12) (q0 := 0) rfl rfl, (gpreS hPc hK hDc hN).2⟩ rfl rfl hl.1 rfl (lv_room (Nat.le_of_ble_eq_true rfl)) dX12_nearest_27 ⟨Nat.le_of_ble_eq_true rfl, Nat.le_of_ble_eq_true rfl⟩) (fun u_15 H locs hw_17 hP hD hS => ?_)
          replace hP : va_P D gcl (zS_8 cB cC cI cJ a0 a1 x2 x3 x4 x5 x6 x7 x8 x9 a2 a3 a4 a5 a6 a7 a8 a9 a10 a11 a12 a13 a14 a15 a16 x10 x11 x12 x13 x14 x15 a17 a18 a19 x16 a20 x17 a21 x18 x19 a22 a23 a24 a25 x20 a26 x21 a27 a28 a29 y0 a30 a31 a32 a33 a34 a35 a36 a37 a38 x22 x23 x24 y1 a39 x25 a40 a41 a42 a43 x26 x27 x28 x29 a29 (u_15.2.1 0) a18 f1 a28 f2 a30 (u_8.2.2.1 0) a31 (u_8.2.1 1)) H := hP
          replace hD : va_D A (zS_8 cB cC cI cJ a0 a1 x2 x3 x4 x5 x6 x7 x8 x9 a2 a3 a4 a5 a6 a7 a8 a9 a10 a11 a12 a13 a14 a15 a16 x10 x11 x12 x13 x14 x15 a17 a18 a19 x16 a20 x17 a21 x18 x19 a22 a23 a24 a25 x20 a26 x21 a27 a28 a29 y0 a30 a31 a32 a33 a34 a35 a36 a37 a38 x22 x23 x24 y1 a39 x25 a40 a41 a42 a43 x26 x27 x28 x29 a29 (u_15.2.1 0) a18 f1 a28 f2 a30 (u_8.2.2.1 0) a31 (u_8.2.1 1)) := hD
          have hw_18 : (RB (u_15.2.1 0) 0 x11.toInt) := hw_17
          refine lv_aload_n (pc := 30) hx hb dX12_nearest_30 rfl (lv_at hl 0 rfl) ?_
          refine va_get (pc := 31) (ci := 12) (v := .ref a29) (C := RX12) (T := TX12) (N := 73) hx hb hts iX12 hown hK hP 0 rfl rfl 48 (by decide) (hts _ tw_1449) (fun _ h9 => h9) rfl dX12_nearest_31 ?_
          refine lv_iload_n (pc := 34) hx hb dX12_nearest_34 rfl (lv_at hl 2 rfl) ?_
          as_aux_lemma =>
            refine va_iald (pc := 35) hx hb hK hP 1 2 rfl rfl (n_in rfl (by first | exact (om_1557 c_7 hw_4.1 hw_5.1) | ((first | omega | (unfold zBd at *; omega)))) (by first | exact (om_1639 c_7 hw_4.1 hw_5.2 h_x11.2) | ((first | omega | (unfold zBd at *; omega))))) dX12_nearest_35 ?_
            refine lv_topi (fun x_19 ex_19 => ?_)
            have rx_19 : zBd x_19.toInt (-2147483648) 2147483647 := n_rng x_19
            have hP9 : va_P D gcl (zS_8 cB cC cI cJ a0 a1 x2 x3 x4 x5 x6 x7 x8 x9 a2 a3 a4 a5 a6 a7 a8 a9 a10 a11 a12 a13 a14 a15 a16 x10 x11 x12 x13 x14 x15 a17 a18 a19 x16 a20 x17 a21 x18 x19 a22 a23 a24 a25 x20 a26 x21 a27 a28 a29 y0 a30 a31 a32 a33 a34 a35 a36 a37 a38 x22 x23 x24 y1 a39 x25 a40 a41 a42 a43 x26 x27 x28 x29 a29 (u_15.2.1 0) a18 f1 a28 f2 a30 (u_8.2.2.1 0) a31 (u_8.2.1 1)) H := g_psub hP [0, 1, 2, 3, 4, 5] rfl
            have hD9 : va_D A (zS_8 cB cC cI cJ a0 a1 x2 x3 x4 x5 x6 x7 x8 x9 a2 a3 a4 a5 a6 a7 a8 a9 a10 a11 a12 a13 a14 a15 a16 x10 x11 x12 x13 x14 x15 a17 a18 a19 x16 a20 x17 a21 x18 x19 a22 a23 a24 a25 x20 a26 x21 a27 a28 a29 y0 a30 a31 a32 a33 a34 a35 a36 a37 a38 x22 x23 x24 y1 a39 x25 a40 a41 a42 a43 x26 x27 x28 x29 a29 (u_15.2.1 0) a18 f1 a28 f2 a30 (u_8.2.2.1 0) a31 (u_8.2.1 1)) := hD.sub [0, 1, 2, 3, 4, 5] (by decide) rfl
            exact hret x_19 ((fun _ => 0), (fun k => [(u_15.2.1 0), (u_8.2.1 1)].getD k (fun _ => 0)), (fun k => [(u_8.2.2.1 0)].getD k (fun _ => 0)), (fun _ => 0), (fun _ => 0)) dX12_nearest_36 (show ((x_19.toInt = (-1000000000)) ∨ (((-2147483648) ≤ x_19.toInt ∧ x_19.toInt ≤ 2147483647))) from (by first | exact (om_1345 rx_19.1 rx_19.2) | ((first | omega | (unfold zBd at *; omega))))) hP9 hD9 hS
      ·
        as_aux_lemma =>
          refine lv_ldcw (pc := 16) hx hb hown (hts _ tw_1783) dX12_nearest_16 ?_
          have hP9 : va_P D gcl (zS_8 cB cC cI cJ a0 a1 x2 x3 x4 x5 x6 x7 x8 x9 a2 a3 a4 a5 a6 a7 a8 a9 a10 a11 a12 a13 a14 a15 a16 x10 x11 x12 x13 x14 x15 a17 a18 a19 x16 a20 x17 a21 x18 x19 a22 a23 a24 a25 x20 a26 x21 a27 a28 a29 y0 a30 a31 a32 a33 a34 a35 a36 a37 a38 x22 x23 x24 y1 a39 x25 a40 a41 a42 a43 x26 x27 x28 x29 a29 (u_8.2.1 0) a18 f1 a28 f2 a30 (u_8.2.2.1 0) a31 (u_8.2.1 1)) H := g_psub hP [0, 1, 2, 3, 4, 5] rfl
          have hD9 : va_D A (zS_8 cB cC cI cJ a0 a1 x2 x3 x4 x5 x6 x7 x8 x9 a2 a3 a4 a5 a6 a7 a8 a9 a10 a11 a12 a13 a14 a15 a16 x10 x11 x12 x13 x14 x15 a17 a18 a19 x16 a20 x17 a21 x18 x19 a22 a23 a24 a25 x20 a26 x21 a27 a28 a29 y0 a30 a31 a32 a33 a34 a35 a36 a37 a38 x22 x23 x24 y1 a39 x25 a40 a41 a42 a43 x26 x27 x28 x29 a29 (u_8.2.1 0) a18 f1 a28 f2 a30 (u_8.2.2.1 0) a31 (u_8.2.1 1)) := hD.sub [0, 1, 2, 3, 4, 5] (by decide) rfl
          exact hret (-1000000000) ((fun _ => 0), (fun k => [(u_8.2.1 0), (u_8.2.1 1)].getD k (fun _ => 0)), (fun k => [(u_8.2.2.1 0)].getD k (fun _ => 0)), (fun _ => 0), (fun _ => 0)) dX12_nearest_19 (show ((((-1000000000) : Int32).toInt = (-1000000000)) ∨ (((-2147483648) ≤ ((-1000000000) : Int32).toInt ∧ ((-1000000000) : Int32).toInt ≤ 2147483647))) from (by first | exact (om_1342 tI_m1000000000) | (have k9 := tI_m1000000000; (first | omega | (unfold zBd at *; omega))))) hP9 hD9 hS
set_option maxHeartbeats 4000000 in
set_option maxRecDepth 100000 in
theorem k_X12_near (l : Launch) (D : va_G) (cB cC cI cJ : ClassId) (sz : Nat) (a0 a1 a2 a3 a4 a5 a6 a7 a8 a9 a10 a11 a12 a13 a14 a15 a16 a17 a18 a19 a20 a21 a22 a23 a24 a25 a26 a27 a28 a29 a30 a31 a32 a33 a34 a35 a36 a37 a38 a39 a40 a41 a42 a43 : Nat) (x0 x1 x2 x3 x4 x5 x6 x7 x8 x9 x10 x11 x12 x13 x14 x15 x16 x17 x18 x19 x20 x21 x22 x23 x24 x25 x26 x27 x28 : Int32) (y0 y1 : Int64) (f0 f1 f2 f3 : Nat → Int32) (g0 : Nat → Int64) (h_x1 : zBd x1.toInt 0 1600) (h_x2 : zBd x2.toInt 0 1600) (h_x3 : zBd x3.toInt 0 1600) (h_x4 : zBd x4.toInt (-1) 1600) (h_x5 : zBd x5.toInt 0 4) (h_x6 : zBd x6.toInt (-1) 1600) (h_x9 : zBd x9.toInt 0 8) (h_x10 : zBd x10.toInt 0 5) (h_x11 : zBd x11.toInt 0 6) (h_x12 : zBd x12.toInt 0 6) (h_x13 : zBd x13.toInt 0 16) (h_x15 : zBd x15.toInt 0 60) (h_x16 : zBd x16.toInt 0 1600) (h_x17 : zBd x17.toInt 0 1700) (h_x19 : zBd x19.toInt 0 1700) (h_x20 : zBd x20.toInt 0 1700) (h_x21 : zBd x21.toInt 0 200) (h_x22 : zBd x22.toInt 0 40) (h_x23 : zBd x23.toInt 0 40) (h_x24 : zBd x24.toInt 0 1) (h_x25 : zBd x25.toInt 0 14) (h_x26 : zBd x26.toInt 0 200) (h_x27 : zBd x27.toInt 0 40) (h_x28 : zBd x28.toInt 0 40) (hr_a0_0 : (x22.toInt ≤ x21.toInt)) (hr_a0_1 : (x21.toInt + x23.toInt ≤ 200)) (hr_a0_2 : (x10.toInt = 0 ∨ 2 ≤ x9.toInt)) (hf_f1 : (∀ j, (-9999) ≤ (f1 j).toInt ∧ (f1 j).toInt ≤ 9999)) (hf_f2 : (∀ j, (-1100000) ≤ (f2 j).toInt ∧ (f2 j).toInt ≤ 1100000)) : Met l yX12_near (.code yX12_near cX12_near 2 (some .long) :: lw_gd) ({ frames := 5, cells := 0, slots := 0, locals := 117 }) (gPre D [(cB, .byte), (cC, .char), (cI, .int), (cJ, .long)] [.ref a0, .int x0] (zS_8 cB cC cI cJ a0 a1 x1 x2 x3 x4 x5 x6 x7 x8 a2 a3 a4 a5 a6 a7 a8 a9 a10 a11 a12 a13 a14 a15 a16 x9 x10 x11 x12 x13 x14 a17 a18 a19 x15 a20 x16 a21 x17 x18 a22 a23 a24 a25 x19 a26 x20 a27 a28 a29 y0 a30 a31 a32 a33 a34 a35 a36 a37 a38 x21 x22 x23 y1 a39 x24 a40 a41 a42 a43 x25 x26 x27 x28 a29 f0 a18 f1 a28 f2 a30 g0 a31 f3) sz) (va_Ql (fun r u => ((r.toInt = (-1)) ∨ (((-9223372036854775808) ≤ r.toInt ∧ r.toInt ≤ 9223372036854775807)))) (gB D (va_A (zS_8 cB cC cI cJ a0 a1 x1 x2 x3 x4 x5 x6 x7 x8 a2 a3 a4 a5 a6 a7 a8 a9 a10 a11 a12 a13 a14 a15 a16 x9 x10 x11 x12 x13 x14 a17 a18 a19 x15 a20 x16 a21 x17 x18 a22 a23 a24 a25 x19 a26 x20 a27 a28 a29 y0 a30 a31 a32 a33 a34 a35 a36 a37 a38 x21 x22 x23 y1 a39 x24 a40 a41 a42 a43 x25 x26 x27 x28 a29 f0 a18 f1 a28 f2 a30 g0 a31 f3) sz) (fun u : gEx => (zS_8 cB cC cI cJ a0 a1 x1 x2 x3 x4 x5 x6 x7 x8 a2 a3 a4 a5 a6 a7 a8 a9 a10 a11 a12 a13 a14 a15 a16 x9 x10 x11 x12 x13 x14 a17 a18 a19 x15 a20 x16 a21 x17 x18 a22 a23 a24 a25 x19 a26 x20 a27 a28 a29 y0 a30 a31 a32 a33 a34 a35 a36 a37 a38 x21 x22 x23 y1 a39 x24 a40 a41 a42 a43 x25 x26 x27 x28 a29 (u.2.1 0) a18 f1 a28 f2 a30 (u.2.2.1 0) a31 (u.2.1 1)))) (va_A (zS_8 cB cC cI cJ a0 a1 x1 x2 x3 x4 x5 x6 x7 x8 a2 a3 a4 a5 a6 a7 a8 a9 a10 a11 a12 a13 a14 a15 a16 x9 x10 x11 x12 x13 x14 a17 a18 a19 x15 a20 x16 a21 x17 x18 a22 a23 a24 a25 x19 a26 x20 a27 a28 a29 y0 a30 a31 a32 a33 a34 a35 a36 a37 a38 x21 x22 x23 y1 a39 x24 a40 a41 a42 a43 x25 x26 x27 x28 a29 f0 a18 f1 a28 f2 a30 g0 a31 f3) sz)) 0 0 (va_A (zS_8 cB cC cI cJ a0 a1 x1 x2 x3 x4 x5 x6 x7 x8 a2 a3 a4 a5 a6 a7 a8 a9 a10 a11 a12 a13 a14 a15 a16 x9 x10 x11 x12 x13 x14 a17 a18 a19 x15 a20 x16 a21 x17 x18 a22 a23 a24 a25 x19 a26 x20 a27 a28 a29 y0 a30 a31 a32 a33 a34 a35 a36 a37 a38 x21 x22 x23 y1 a39 x24 a40 a41 a42 a43 x25 x26 x27 x28 a29 f0 a18 f1 a28 f2 a30 g0 a31 f3) sz) := by
  refine gOf_l (by decide +kernel) (Nat.le_of_ble_eq_true rfl) ?_
  intro p e s m args below meth c ls A Q hx hb hts hown hml hN hK hP hD hA hl hret
  replace hown : s.vm.findClass RX12 = some m.cls := hown
  have hS : va_S A s.heap s.heap [] := va_S.rf
  replace hP : va_P D gcl (zS_8 cB cC cI cJ a0 a1 x1 x2 x3 x4 x5 x6 x7 x8 a2 a3 a4 a5 a6 a7 a8 a9 a10 a11 a12 a13 a14 a15 a16 x9 x10 x11 x12 x13 x14 a17 a18 a19 x15 a20 x16 a21 x17 x18 a22 a23 a24 a25 x19 a26 x20 a27 a28 a29 y0 a30 a31 a32 a33 a34 a35 a36 a37 a38 x21 x22 x23 y1 a39 x24 a40 a41 a42 a43 x25 x26 x27 x28 a29 f0 a18 f1 a28 f2 a30 g0 a31 f3) s.heap := hP
  replace hl : lv_has ls 2 [(0, .ref a0), (1, .int x0)] := hl
  have rx0 : zBd x0.toInt (-2147483648) 2147483647 := n_rng x0
  have rx7 : zBd x7.toInt (-2147483648) 2147483647 := n_rng x7
  have rx8 : zBd x8.toInt (-2147483648) 2147483647 := n_rng x8
  have rx14 : zBd x14.toInt (-2147483648) 2147483647 := n_rng x14
  have rx18 : zBd x18.toInt (-2147483648) 2147483647 := n_rng x18
  have ry0 := n_rngL y0
  have ry1 := n_rngL y1
  refine lv_aload_n (pc := 0) hx hb dX12_near_0 rfl (lv_at hl 0 rfl) ?_
  refine lv_iload_n (pc := 1) hx hb dX12_near_1 rfl (lv_at hl 1 rfl) ?_
  refine gd_i (pc := 2) (wc := (zS_8 cB cC cI cJ a0 a1 x1 x2 x3 x4 x5 x6 x7 x8 a2 a3 a4 a5 a6 a7 a8 a9 a10 a11 a12 a13 a14 a15 a16 x9 x10 x11 x12 x13 x14 a17 a18 a19 x15 a20 x16 a21 x17 x18 a22 a23 a24 a25 x19 a26 x20 a27 a28 a29 y0 a30 a31 a32 a33 a34 a35 a36 a37 a38 x21 x22 x23 y1 a39 x24 a40 a41 a42 a43 x25 x26 x27 x28 a29 f0 a18 f1 a28 f2 a30 g0 a31 f3)) hP hD hS hA [0, 1, 2, 3, 4, 5] rfl (by decide +kernel) (fun _ => by rfl) (fun hPc hDc => va_runV (As := [.int x0]) (rest := []) ⟨hx, hb, hml, hown, hts⟩ (k_X12_isNear l D cB cC cI cJ _ a0 a1 a2 a3 a4 a5 a6 a7 a8 a9 a10 a11 a12 a13 a14 a15 a16 a17 a18 a19 a20 a21 a22 a23 a24 a25 a26 a27 a28 a29 a30 a31 a32 a33 a34 a35 a36 a37 a38 a39 a40 a41 a42 a43 x0 x1 x2 x3 x4 x5 x6 x7 x8 x9 x10 x11 x12 x13 x14 x15 x16 x17 x18 x19 x20 x21 x22 x23 x24 x25 x26 x27 x28 y0 y1 f0 f1 f2 f3 g0 h_x1 h_x2 h_x3 h_x4 h_x5 h_x6 h_x9 h_x10 h_x11 h_x12 h_x13 h_x15 h_x16 h_x17 h_x19 h_x20 h_x21 h_x22 h_x23 h_x24 h_x25 h_x26 h_x27 h_x28 hr_a0_0 hr_a0_1 hr_a0_2 hf_f1 hf_f2) ⟨gcwB hts tw_1859 tw_14 tw_1856 hd_yX12_isNear ⟨Nat.le_of_ble_eq_true rfl, Nat.le_of_ble_eq_true rfl⟩, hts _ tw_1858, hts _ tp_98⟩ ⟨gblind, va_recv hK hPc (ci := 12) (q0 := 0) rfl rfl, (gpreS hPc hK hDc hN).2⟩ rfl rfl hl.1 rfl (lv_room (Nat.le_of_ble_eq_true rfl)) dX12_near_2 ⟨Nat.le_of_ble_eq_true rfl, Nat.le_of_ble_eq_true rfl⟩) (fun r_2 u_1 H locs hw_3 hP hD hS => ?_)
  replace hP : va_P D gcl (zS_8 cB cC cI cJ a0 a1 x1 x2 x3 x4 x5 x6 x7 x8 a2 a3 a4 a5 a6 a7 a8 a9 a10 a11 a12 a13 a14 a15 a16 x9 x10 x11 x12 x13 x14 a17 a18 a19 x15 a20 x16 a21 x17 x18 a22 a23 a24 a25 x19 a26 x20 a27 a28 a29 y0 a30 a31 a32 a33 a34 a35 a36 a37 a38 x21 x22 x23 y1 a39 x24 a40 a41 a42 a43 x25 x26 x27 x28 a29 (u_1.2.1 0) a18 f1 a28 f2 a30 (u_1.2.2.1 0) a31 (u_1.2.1 1)) H := hP
  replace hD : va_D A (zS_8 cB cC cI cJ a0 a1 x1 x2 x3 x4 x5 x6 x7 x8 a2 a3 a4 a5 a6 a7 a8 a9 a10 a11 a12 a13 a14 a15 a16 x9 x10 x11 x12 x13 x14 a17 a18 a19 x15 a20 x16 a21 x17 x18 a22 a23 a24 a25 x19 a26 x20 a27 a28 a29 y0 a30 a31 a32 a33 a34 a35 a36 a37 a38 x21 x22 x23 y1 a39 x24 a40 a41 a42 a43 x25 x26 x27 x28 a29 (u_1.2.1 0) a18 f1 a28 f2 a30 (u_1.2.2.1 0) a31 (u_1.2.1 1)) := hD
  obtain ⟨hw_4, hw_5⟩ := hw_3
  replace hw_4 : (0 ≤ r_2.toInt ∧ r_2.toInt ≤ 1) := hw_4
  replace hw_5 : (-x0.toInt ≤ 4294967296 - 4294967296 * r_2.toInt ∧ x0.toInt ≤ 9 + 4294967296 - 4294967296 * r_2.toInt) := hw_5
  have rr_2 : zBd r_2.toInt (-2147483648) 2147483647 := n_rng r_2
  refine b_if_eq (pc := 5) (tgt := 17) hx hb rfl  dX12_near_5 (by decide) (fun c_6 => ?_) (fun c_6 => ?_)
  ·
    refine lv_ldc2 (pc := 17) hx hb hown (hts _ tw_1838) dX12_near_17 ?_
    have hP9 : va_P D gcl (zS_8 cB cC cI cJ a0 a1 x1 x2 x3 x4 x5 x6 x7 x8 a2 a3 a4 a5 a6 a7 a8 a9 a10 a11 a12 a13 a14 a15 a16 x9 x10 x11 x12 x13 x14 a17 a18 a19 x15 a20 x16 a21 x17 x18 a22 a23 a24 a25 x19 a26 x20 a27 a28 a29 y0 a30 a31 a32 a33 a34 a35 a36 a37 a38 x21 x22 x23 y1 a39 x24 a40 a41 a42 a43 x25 x26 x27 x28 a29 (u_1.2.1 0) a18 f1 a28 f2 a30 (u_1.2.2.1 0) a31 (u_1.2.1 1)) H := g_psub hP [0, 1, 2, 3, 4, 5] rfl
    have hD9 : va_D A (zS_8 cB cC cI cJ a0 a1 x1 x2 x3 x4 x5 x6 x7 x8 a2 a3 a4 a5 a6 a7 a8 a9 a10 a11 a12 a13 a14 a15 a16 x9 x10 x11 x12 x13 x14 a17 a18 a19 x15 a20 x16 a21 x17 x18 a22 a23 a24 a25 x19 a26 x20 a27 a28 a29 y0 a30 a31 a32 a33 a34 a35 a36 a37 a38 x21 x22 x23 y1 a39 x24 a40 a41 a42 a43 x25 x26 x27 x28 a29 (u_1.2.1 0) a18 f1 a28 f2 a30 (u_1.2.2.1 0) a31 (u_1.2.1 1)) := hD.sub [0, 1, 2, 3, 4, 5] (by decide) rfl
    exact hret (-1) ((fun _ => 0), (fun k => [(u_1.2.1 0), (u_1.2.1 1)].getD k (fun _ => 0)), (fun k => [(u_1.2.2.1 0)].getD k (fun _ => 0)), (fun _ => 0), (fun _ => 0)) dX12_near_20 (show ((((-1) : Int64).toInt = (-1)) ∨ (((-9223372036854775808) ≤ ((-1) : Int64).toInt ∧ ((-1) : Int64).toInt ≤ 9223372036854775807))) from (by first | exact (om_1351 tL_m1) | (have k9 := tL_m1; (first | omega | (unfold zBd at *; omega))))) hP9 hD9 hS
  ·
    refine lv_aload_n (pc := 8) hx hb dX12_near_8 rfl (lv_at hl 0 rfl) ?_
    refine va_get (pc := 9) (ci := 12) (v := .ref a30) (C := RX12) (T := TX12) (N := 73) hx hb hts iX12 hown hK hP 0 rfl rfl 50 (by decide) (hts _ tw_1451) (fun _ h9 => h9) rfl dX12_near_9 ?_
    refine lv_iload_n (pc := 12) hx hb dX12_near_12 rfl (lv_at hl 1 rfl) ?_
    refine va_lald (pc := 13) hx hb hK hP 4 3 rfl rfl (n_in rfl (by first | exact (om_1557 c_6 hw_4.1 hw_5.1) | ((first | omega | (unfold zBd at *; omega)))) (by first | exact (om_1638 c_6 hw_4.1 hw_5.2) | ((first | omega | (unfold zBd at *; omega))))) dX12_near_13 ?_
    refine lv_topl (fun y_7 ey_7 => ?_)
    have ry_7 := n_rngL y_7
    refine lv_goto (pc := 14) (tgt := 20) hx hb dX12_near_14 (by decide) ?_
    have hP9 : va_P D gcl (zS_8 cB cC cI cJ a0 a1 x1 x2 x3 x4 x5 x6 x7 x8 a2 a3 a4 a5 a6 a7 a8 a9 a10 a11 a12 a13 a14 a15 a16 x9 x10 x11 x12 x13 x14 a17 a18 a19 x15 a20 x16 a21 x17 x18 a22 a23 a24 a25 x19 a26 x20 a27 a28 a29 y0 a30 a31 a32 a33 a34 a35 a36 a37 a38 x21 x22 x23 y1 a39 x24 a40 a41 a42 a43 x25 x26 x27 x28 a29 (u_1.2.1 0) a18 f1 a28 f2 a30 (u_1.2.2.1 0) a31 (u_1.2.1 1)) H := g_psub hP [0, 1, 2, 3, 4, 5] rfl
    have hD9 : va_D A (zS_8 cB cC cI cJ a0 a1 x1 x2 x3 x4 x5 x6 x7 x8 a2 a3 a4 a5 a6 a7 a8 a9 a10 a11 a12 a13 a14 a15 a16 x9 x10 x11 x12 x13 x14 a17 a18 a19 x15 a20 x16 a21 x17 x18 a22 a23 a24 a25 x19 a26 x20 a27 a28 a29 y0 a30 a31 a32 a33 a34 a35 a36 a37 a38 x21 x22 x23 y1 a39 x24 a40 a41 a42 a43 x25 x26 x27 x28 a29 (u_1.2.1 0) a18 f1 a28 f2 a30 (u_1.2.2.1 0) a31 (u_1.2.1 1)) := hD.sub [0, 1, 2, 3, 4, 5] (by decide) rfl
    exact hret y_7 ((fun _ => 0), (fun k => [(u_1.2.1 0), (u_1.2.1 1)].getD k (fun _ => 0)), (fun k => [(u_1.2.2.1 0)].getD k (fun _ => 0)), (fun _ => 0), (fun _ => 0)) dX12_near_20 (show ((y_7.toInt = (-1)) ∨ (((-9223372036854775808) ≤ y_7.toInt ∧ y_7.toInt ≤ 9223372036854775807))) from (by first | exact (om_1352 ry_7.1 ry_7.2) | ((first | omega | (unfold zBd at *; omega))))) hP9 hD9 hS
