theorem om_1714 {a : Int} (h0 : (a ≤ 200)) : (a - 1 ≤ 2147483647) := by omega
theorem om_1715 {a b c : Int} (h0 : (¬ b = 0)) (h1 : (0 ≤ b)) (h2 : (a = c - 1)) (h3 : (b ≤ c)) : (0 ≤ a) := by omega
theorem om_1716 {a b : Int} (h0 : (a = b - 1)) (h1 : (b ≤ 200)) : (a < (200 : Nat)) := by omega
theorem om_1717 {a b c : Int} (h0 : (¬ b = 0)) (h1 : (0 ≤ b)) (h2 : (a = c - 1)) (h3 : (b ≤ c)) (h4 : (c ≤ 200)) : ((0 ≤ a ∧ a ≤ 200)) := by omega
theorem om_1718 {a : Int} (h0 : (a ≤ 40)) : (a - 1 ≤ 2147483647) := by omega
theorem om_1719 {a : Int} (h0 : (a ≤ 40)) : (a + 1 ≤ 2147483647) := by omega
theorem om_1720 {a b : Int} (h0 : (¬ b = 0)) (h1 : (0 ≤ b)) (h2 : (a = b - 1)) (h3 : (b ≤ 40)) : ((0 ≤ a ∧ a ≤ 40)) := by omega
theorem om_1721 {a b c : Int} (h0 : (a = b + 1)) (h1 : (0 ≤ b)) (h2 : (¬ c = 0)) (h3 : (0 ≤ c)) (h4 : (c + b ≤ 40)) : ((0 ≤ a ∧ a ≤ 40)) := by omega
theorem om_1722 {a b c d : Int} (h0 : (a = c - 1)) (h1 : (b = d - 1)) (h2 : (c ≤ d)) : ((a ≤ b)) := by omega
theorem om_1723 {a b c d : Int} (h0 : (b = c + 1)) (h1 : (a = d - 1)) (h2 : (d + c ≤ 200)) : ((a + b ≤ 200)) := by omega
theorem om_1724 {a b c d : Int} (h0 : (b = c + 1)) (h1 : (a = d - 1)) (h2 : (d + c ≤ 40)) : (a + b ≤ 40) := by omega
theorem om_1725 {a b : Int} (h0 : (¬ b = 0)) (h1 : (0 ≤ b)) (h2 : (b ≤ a)) : (1 ≤ a) := by omega
theorem om_1726 {a : Int} (h0 : (a ≤ 6)) : (a ≤ 6) := by omega
set_option maxHeartbeats 4000000 in
set_option maxRecDepth 100000 in
theorem k_X12_undo (l : Launch) (D : va_G) (cB cC cI cJ : ClassId) (sz : Nat) (a0 a1 a2 a3 a4 a5 a6 a7 a8 a9 a10 a11 a12 a13 a14 a15 a16 a17 a18 a19 a20 a21 a22 a23 a24 a25 a26 a27 a28 a29 a30 a31 a32 a33 a34 a35 a36 a37 a38 a39 a40 a41 a42 a43 : Nat) (x0 x1 x2 x3 x4 x5 x6 x7 x8 x9 x10 x11 x12 x13 x14 x15 x16 x17 x18 x19 x20 x21 x22 x23 x24 x25 x26 x27 : Int32) (y0 y1 : Int64) (f0 f1 f2 f3 f4 : Nat → Int32) (g0 : Nat → Int64) (h_x0 : zBd x0.toInt 0 1600) (h_x1 : zBd x1.toInt 0 1600) (h_x2 : zBd x2.toInt 0 1600) (h_x3 : zBd x3.toInt (-1) 1600) (h_x4 : zBd x4.toInt 0 4) (h_x5 : zBd x5.toInt (-1) 1600) (h_x8 : zBd x8.toInt 0 8) (h_x9 : zBd x9.toInt 0 5) (h_x10 : zBd x10.toInt 0 6) (h_x11 : zBd x11.toInt 0 6) (h_x12 : zBd x12.toInt 0 16) (h_x14 : zBd x14.toInt 0 60) (h_x15 : zBd x15.toInt 0 1600) (h_x16 : zBd x16.toInt 0 1700) (h_x18 : zBd x18.toInt 0 1700) (h_x19 : zBd x19.toInt 0 1700) (h_x20 : zBd x20.toInt 0 200) (h_x21 : zBd x21.toInt 0 40) (h_x22 : zBd x22.toInt 0 40) (h_x23 : zBd x23.toInt 0 1) (h_x24 : zBd x24.toInt 0 14) (h_x25 : zBd x25.toInt 0 200) (h_x26 : zBd x26.toInt 0 40) (h_x27 : zBd x27.toInt 0 40) (hr_a0_0 : (x21.toInt ≤ x20.toInt)) (hr_a0_1 : (x20.toInt + x22.toInt ≤ 200)) (hr_a0_2 : (x9.toInt = 0 ∨ 2 ≤ x8.toInt)) (hf_f0 : (∀ j, (-9999) ≤ (f0 j).toInt ∧ (f0 j).toInt ≤ 9999)) (hf_f2 : (∀ j, 0 ≤ (f2 j).toInt ∧ (f2 j).toInt ≤ 4)) (hf_f3 : (∀ j, 0 ≤ (f3 j).toInt ∧ (f3 j).toInt ≤ 4)) (hg__ur : x21.toInt + x22.toInt ≤ 40) (hg_mk : MOK f0 f1 f2 f3 f4 x10.toInt x9.toInt x20.toInt x22.toInt) : Met l yX12_undo (.code yX12_undo cX12_undo 1 (some .boolean) :: lw_gd) ({ frames := 1, cells := 0, slots := 0, locals := 24 }) (gPre D [(cB, .byte), (cC, .char), (cI, .int), (cJ, .long)] [.ref a0] (zS_13 cB cC cI cJ a0 a1 x0 x1 x2 x3 x4 x5 x6 x7 a2 a3 a4 a5 a6 a7 a8 a9 a10 a11 a12 a13 a14 a15 a16 x8 x9 x10 x11 x12 x13 a17 a18 a19 x14 a20 x15 a21 x16 x17 a22 a23 a24 a25 x18 a26 x19 a27 a28 a29 y0 a30 a31 a32 a33 a34 a35 a36 a37 a38 x20 x21 x22 y1 a39 x23 a40 a41 a42 a43 x24 x25 x26 x27 a18 f0 a27 f1 a36 f2 a37 f3 a38 f4 a35 g0) sz) (va_Qi (fun r u => (0 ≤ r.toInt ∧ r.toInt ≤ 1) ∧ (0 ≤ (u.2.2.2.1 0).toInt ∧ (u.2.2.2.1 0).toInt ≤ 200) ∧ (0 ≤ (u.2.2.2.1 1).toInt ∧ (u.2.2.2.1 1).toInt ≤ 40) ∧ (0 ≤ (u.2.2.2.1 2).toInt ∧ (u.2.2.2.1 2).toInt ≤ 40) ∧ ((u.2.2.2.1 1).toInt ≤ (u.2.2.2.1 0).toInt) ∧ ((u.2.2.2.1 0).toInt + (u.2.2.2.1 2).toInt ≤ 200) ∧ ((u.2.2.2.1 1).toInt + (u.2.2.2.1 2).toInt ≤ 40) ∧ (MOK f0 (u.2.1 0) f2 f3 f4 x10.toInt x9.toInt (u.2.2.2.1 0).toInt (u.2.2.2.1 2).toInt) ∧ (unQ r.toInt x21.toInt x22.toInt x20.toInt (u.2.2.2.1 1).toInt (u.2.2.2.1 2).toInt (u.2.2.2.1 0).toInt)) (gB D (va_A (zS_13 cB cC cI cJ a0 a1 x0 x1 x2 x3 x4 x5 x6 x7 a2 a3 a4 a5 a6 a7 a8 a9 a10 a11 a12 a13 a14 a15 a16 x8 x9 x10 x11 x12 x13 a17 a18 a19 x14 a20 x15 a21 x16 x17 a22 a23 a24 a25 x18 a26 x19 a27 a28 a29 y0 a30 a31 a32 a33 a34 a35 a36 a37 a38 x20 x21 x22 y1 a39 x23 a40 a41 a42 a43 x24 x25 x26 x27 a18 f0 a27 f1 a36 f2 a37 f3 a38 f4 a35 g0) sz) (fun u : gEx => (zS_13 cB cC cI cJ a0 a1 x0 x1 x2 x3 x4 x5 x6 x7 a2 a3 a4 a5 a6 a7 a8 a9 a10 a11 a12 a13 a14 a15 a16 x8 x9 x10 x11 x12 x13 a17 a18 a19 x14 a20 x15 a21 x16 x17 a22 a23 a24 a25 x18 a26 x19 a27 a28 a29 y0 a30 a31 a32 a33 a34 a35 a36 a37 a38 (u.2.2.2.1 0) (u.2.2.2.1 1) (u.2.2.2.1 2) y1 a39 x23 a40 a41 a42 a43 x24 x25 x26 x27 a18 f0 a27 (u.2.1 0) a36 f2 a37 f3 a38 f4 a35 (u.2.2.1 0)))) (va_A (zS_13 cB cC cI cJ a0 a1 x0 x1 x2 x3 x4 x5 x6 x7 a2 a3 a4 a5 a6 a7 a8 a9 a10 a11 a12 a13 a14 a15 a16 x8 x9 x10 x11 x12 x13 a17 a18 a19 x14 a20 x15 a21 x16 x17 a22 a23 a24 a25 x18 a26 x19 a27 a28 a29 y0 a30 a31 a32 a33 a34 a35 a36 a37 a38 x20 x21 x22 y1 a39 x23 a40 a41 a42 a43 x24 x25 x26 x27 a18 f0 a27 f1 a36 f2 a37 f3 a38 f4 a35 g0) sz)) 0 0 (va_A (zS_13 cB cC cI cJ a0 a1 x0 x1 x2 x3 x4 x5 x6 x7 a2 a3 a4 a5 a6 a7 a8 a9 a10 a11 a12 a13 a14 a15 a16 x8 x9 x10 x11 x12 x13 a17 a18 a19 x14 a20 x15 a21 x16 x17 a22 a23 a24 a25 x18 a26 x19 a27 a28 a29 y0 a30 a31 a32 a33 a34 a35 a36 a37 a38 x20 x21 x22 y1 a39 x23 a40 a41 a42 a43 x24 x25 x26 x27 a18 f0 a27 f1 a36 f2 a37 f3 a38 f4 a35 g0) sz) := by
  refine gOf_z (by decide +kernel) (Nat.le_of_ble_eq_true rfl) ?_
  intro p e s m args below meth c ls A Q hx hb hts hown hml hN hK hP hD hA hl hret
  replace hown : s.vm.findClass RX12 = some m.cls := hown
  have hS : va_S A s.heap s.heap [] := va_S.rf
  replace hP : va_P D gcl (zS_13 cB cC cI cJ a0 a1 x0 x1 x2 x3 x4 x5 x6 x7 a2 a3 a4 a5 a6 a7 a8 a9 a10 a11 a12 a13 a14 a15 a16 x8 x9 x10 x11 x12 x13 a17 a18 a19 x14 a20 x15 a21 x16 x17 a22 a23 a24 a25 x18 a26 x19 a27 a28 a29 y0 a30 a31 a32 a33 a34 a35 a36 a37 a38 x20 x21 x22 y1 a39 x23 a40 a41 a42 a43 x24 x25 x26 x27 a18 f0 a27 f1 a36 f2 a37 f3 a38 f4 a35 g0) s.heap := hP
  replace hl : lv_has ls 1 [(0, .ref a0)] := hl
  have rx6 : zBd x6.toInt (-2147483648) 2147483647 := n_rng x6
  have rx7 : zBd x7.toInt (-2147483648) 2147483647 := n_rng x7
  have rx13 : zBd x13.toInt (-2147483648) 2147483647 := n_rng x13
  have rx17 : zBd x17.toInt (-2147483648) 2147483647 := n_rng x17
  have ry0 := n_rngL y0
  have ry1 := n_rngL y1
  refine lv_aload_n (pc := 0) hx hb dX12_undo_0 rfl (lv_at hl 0 rfl) ?_
  refine va_get (pc := 1) (ci := 12) (v := .int x21) (C := RX12) (T := TX12) (N := 73) hx hb hts iX12 hown hK hP 0 rfl rfl 60 (by decide) (hts _ tw_1461) (fun _ h9 => h9) rfl dX12_undo_1 ?_
  have bd_h_x21 : 0 ≤ x21.toInt ∧ x21.toInt ≤ 40 := h_x21
  refine b_if_ne (pc := 4) (tgt := 9) hx hb rfl  dX12_undo_4 (by decide) (fun c_1 => ?_) (fun c_1 => ?_)
  ·
    as_aux_lemma =>
      refine lv_aload_n (pc := 9) hx hb dX12_undo_9 rfl (lv_at hl 0 rfl) ?_
      refine lv_dup (pc := 10) hx hb dX12_undo_10 rfl ?_
      refine va_get (pc := 11) (ci := 12) (v := .int x20) (C := RX12) (T := TX12) (N := 73) hx hb hts iX12 hown hK hP 0 rfl rfl 59 (by decide) (hts _ tw_1460) (fun _ h9 => h9) rfl dX12_undo_11 ?_
      have bd_h_x20 : 0 ≤ x20.toInt ∧ x20.toInt ≤ 200 := h_x20
      refine lv_iconst (pc := 14) (v := 1) hx hb dX12_undo_14 (by decide) ?_
      refine b_isub (pc := 15) hx hb rfl tI_1 (by first | exact (om_659 h_x20.1) | ((first | omega | (unfold zBd at *; omega)))) (by first | exact (om_1714 h_x20.2) | ((first | omega | (unfold zBd at *; omega)))) dX12_undo_15 (fun x_2 ex_2 => ?_)
      refine va_put (pc := 16) (ci := 12) (v := .int x_2) (ty := .int) (C := RX12) (T := TX12) (N := 73) hx hb hts iX12 tyX12 tyX12_ok nmX12 hown hK hP hD hS 0 rfl rfl 59 (by decide) (hts _ tw_1460) (fun _ h9 => h9) rfl (by decide +kernel) rfl rfl (Nat.le_of_ble_eq_true rfl) dX12_undo_16 (fun H locs hP hD hS => ?_)
      replace hP : va_P D gcl (zS_13 cB cC cI cJ a0 a1 x0 x1 x2 x3 x4 x5 x6 x7 a2 a3 a4 a5 a6 a7 a8 a9 a10 a11 a12 a13 a14 a15 a16 x8 x9 x10 x11 x12 x13 a17 a18 a19 x14 a20 x15 a21 x16 x17 a22 a23 a24 a25 x18 a26 x19 a27 a28 a29 y0 a30 a31 a32 a33 a34 a35 a36 a37 a38 x_2 x21 x22 y1 a39 x23 a40 a41 a42 a43 x24 x25 x26 x27 a18 f0 a27 f1 a36 f2 a37 f3 a38 f4 a35 g0) H := hP
      replace hD : va_D A (zS_13 cB cC cI cJ a0 a1 x0 x1 x2 x3 x4 x5 x6 x7 a2 a3 a4 a5 a6 a7 a8 a9 a10 a11 a12 a13 a14 a15 a16 x8 x9 x10 x11 x12 x13 a17 a18 a19 x14 a20 x15 a21 x16 x17 a22 a23 a24 a25 x18 a26 x19 a27 a28 a29 y0 a30 a31 a32 a33 a34 a35 a36 a37 a38 x_2 x21 x22 y1 a39 x23 a40 a41 a42 a43 x24 x25 x26 x27 a18 f0 a27 f1 a36 f2 a37 f3 a38 f4 a35 g0) := hD
      refine lv_aload_n (pc := 19) hx hb dX12_undo_19 rfl (lv_at hl 0 rfl) ?_
      refine lv_aload_n (pc := 20) hx hb dX12_undo_20 rfl (lv_at hl 0 rfl) ?_
      refine va_get (pc := 21) (ci := 12) (v := .ref a36) (C := RX12) (T := TX12) (N := 73) hx hb hts iX12 hown hK hP 0 rfl rfl 56 (by decide) (hts _ tw_1457) (fun _ h9 => h9) rfl dX12_undo_21 ?_
      refine lv_aload_n (pc := 24) hx hb dX12_undo_24 rfl (lv_at hl 0 rfl) ?_
      as_aux_lemma =>
        refine va_get (pc := 25) (ci := 12) (v := .int x_2) (C := RX12) (T := TX12) (N := 73) hx hb hts iX12 hown hK hP 0 rfl rfl 59 (by decide) (hts _ tw_1460) (fun _ h9 => h9) rfl dX12_undo_25 ?_
        refine va_iald (pc := 28) hx hb hK hP 3 2 rfl rfl (n_in rfl (by first | exact (om_1715 c_1 h_x21.1 ex_2 hr_a0_0) | ((first | omega | (unfold zBd at *; omega)))) (by first | exact (om_1716 ex_2 h_x20.2) | ((first | omega | (unfold zBd at *; omega))))) dX12_undo_28 ?_
        refine lv_topi (fun x_3 ex_3 => ?_)
        have rx_3 : (0 ≤ x_3.toInt ∧ x_3.toInt ≤ 4) := by rw [ex_3]; exact hf_f2 _
        replace ex_3 : x_3 = f2 (x_2.toInt).toNat := ex_3
        have tx_3 := congrArg Int32.toInt ex_3
        refine lv_aload_n (pc := 29) hx hb dX12_undo_29 rfl (lv_at hl 0 rfl) ?_
        refine va_get (pc := 30) (ci := 12) (v := .ref a37) (C := RX12) (T := TX12) (N := 73) hx hb hts iX12 hown hK hP 0 rfl rfl 57 (by decide) (hts _ tw_1458) (fun _ h9 => h9) rfl dX12_undo_30 ?_
        refine lv_aload_n (pc := 33) hx hb dX12_undo_33 rfl (lv_at hl 0 rfl) ?_
        refine va_get (pc := 34) (ci := 12) (v := .int x_2) (C := RX12) (T := TX12) (N := 73) hx hb hts iX12 hown hK hP 0 rfl rfl 59 (by decide) (hts _ tw_1460) (fun _ h9 => h9) rfl dX12_undo_34 ?_
        refine va_iald (pc := 37) hx hb hK hP 4 2 rfl rfl (n_in rfl (by first | exact (om_1715 c_1 h_x21.1 ex_2 hr_a0_0) | ((first | omega | (unfold zBd at *; omega)))) (by first | exact (om_1716 ex_2 h_x20.2) | ((first | omega | (unfold zBd at *; omega))))) dX12_undo_37 ?_
        refine lv_topi (fun x_4 ex_4 => ?_)
        have rx_4 : (0 ≤ x_4.toInt ∧ x_4.toInt ≤ 4) := by rw [ex_4]; exact hf_f3 _
        replace ex_4 : x_4 = f3 (x_2.toInt).toNat := ex_4
        have tx_4 := congrArg Int32.toInt ex_4
        refine lv_aload_n (pc := 38) hx hb dX12_undo_38 rfl (lv_at hl 0 rfl) ?_
        as_aux_lemma =>
          refine va_get (pc := 39) (ci := 12) (v := .ref a38) (C := RX12) (T := TX12) (N := 73) hx hb hts iX12 hown hK hP 0 rfl rfl 58 (by decide) (hts _ tw_1459) (fun _ h9 => h9) rfl dX12_undo_39 ?_
          refine lv_aload_n (pc := 42) hx hb dX12_undo_42 rfl (lv_at hl 0 rfl) ?_
          refine va_get (pc := 43) (ci := 12) (v := .int x_2) (C := RX12) (T := TX12) (N := 73) hx hb hts iX12 hown hK hP 0 rfl rfl 59 (by decide) (hts _ tw_1460) (fun _ h9 => h9) rfl dX12_undo_43 ?_
          refine va_iald (pc := 46) hx hb hK hP 5 2 rfl rfl (n_in rfl (by first | exact (om_1715 c_1 h_x21.1 ex_2 hr_a0_0) | ((first | omega | (unfold zBd at *; omega)))) (by first | exact (om_1716 ex_2 h_x20.2) | ((first | omega | (unfold zBd at *; omega))))) dX12_undo_46 ?_
          refine lv_topi (fun x_5 ex_5 => ?_)
          have rx_5 : zBd x_5.toInt (-2147483648) 2147483647 := n_rng x_5
          replace ex_5 : x_5 = f4 (x_2.toInt).toNat := ex_5
          have tx_5 := congrArg Int32.toInt ex_5
          refine lv_ineg (pc := 47) hx hb dX12_undo_47 ?_
          refine lv_topi (fun x_6 ex_6 => ?_)
          have rx_6 : zBd x_6.toInt (-2147483648) 2147483647 := n_rng x_6
          have hh_7 := M_at (k := x_2.toInt) hg_mk (by (first | omega | (unfold zBd at *; omega))) (by (first | omega | (unfold zBd at *; omega)))
          refine gd_v (pc := 48) (wc := (zS_122 cB cC cI cJ a0 a1 x0 x1 x2 x3 x4 x5 x6 x7 a2 a3 a4 a5 a6 a7 a8 a9 a10 a11 a12 a13 a14 a15 a16 x8 x9 x10 x11 x12 x13 a17 a18 a19 x14 a20 x15 a21 x16 x17 a22 a23 a24 a25 x18 a26 x19 a27 a28 a29 y0 a30 a31 a32 a33 a34 a35 a36 a37 a38 x_2 x21 x22 y1 a39 x23 a40 a41 a42 a43 x24 x25 x26 x27 a27 f1 a35 g0)) hP hD hS hA [0, 2, 6] rfl (by decide +kernel) (fun _ => by rfl) (fun hPc hDc => va_runV (As := [.int x_3, .int x_4, .int x_6]) (rest := []) ⟨hx, hb, hml, hown, hts⟩ (k_X12_goes_x l D cB cC cI cJ _ a0 a1 a2 a3 a4 a5 a6 a7 a8 a9 a10 a11 a12 a13 a14 a15 a16 a17 a18 a19 a20 a21 a22 a23 a24 a25 a26 a27 a28 a29 a30 a31 a32 a33 a34 a35 a36 a37 a38 a39 a40 a41 a42 a43 x_3 x_4 x_6 x0 x1 x2 x3 x4 x5 x6 x7 x8 x9 x10 x11 x12 x13 x14 x15 x16 x17 x18 x19 x_2 x21 x22 x23 x24 x25 x26 x27 y0 y1 f1 g0 rx_3 rx_4 h_x0 h_x1 h_x2 h_x3 h_x4 h_x5 h_x8 h_x9 h_x10 h_x11 h_x12 h_x14 h_x15 h_x16 h_x18 h_x19 (by first | exact (om_1717 c_1 h_x21.1 ex_2 hr_a0_0 h_x20.2) | ((first | omega | (unfold zBd at *; omega)))) h_x21 h_x22 h_x23 h_x24 h_x25 h_x26 h_x27 hr_a0_2 (by (first | omega | (unfold zBd at *; omega)))) ⟨gcwB hts tw_1938 tw_14 tw_1935 hd_yX12_goes ⟨Nat.le_of_ble_eq_true rfl, Nat.le_of_ble_eq_true rfl⟩, hts _ tw_1937, hts _ tp_107⟩ ⟨gblind, va_recv hK hPc (ci := 12) (q0 := 0) rfl rfl, (gpreS hPc hK hDc hN).2⟩ rfl rfl hl.1 rfl (lv_room (Nat.le_of_ble_eq_true rfl)) dX12_undo_48 ⟨Nat.le_of_ble_eq_true rfl, Nat.le_of_ble_eq_true rfl⟩) (fun u_8 H locs hw_10 hP hD hS => ?_)
          replace hP : va_P D gcl (zS_13 cB cC cI cJ a0 a1 x0 x1 x2 x3 x4 x5 x6 x7 a2 a3 a4 a5 a6 a7 a8 a9 a10 a11 a12 a13 a14 a15 a16 x8 x9 x10 x11 x12 x13 a17 a18 a19 x14 a20 x15 a21 x16 x17 a22 a23 a24 a25 x18 a26 x19 a27 a28 a29 y0 a30 a31 a32 a33 a34 a35 a36 a37 a38 x_2 x21 x22 y1 a39 x23 a40 a41 a42 a43 x24 x25 x26 x27 a18 f0 a27 (u_8.2.1 0) a36 f2 a37 f3 a38 f4 a35 (u_8.2.2.1 0)) H := hP
          replace hD : va_D A (zS_13 cB cC cI cJ a0 a1 x0 x1 x2 x3 x4 x5 x6 x7 a2 a3 a4 a5 a6 a7 a8 a9 a10 a11 a12 a13 a14 a15 a16 x8 x9 x10 x11 x12 x13 a17 a18 a19 x14 a20 x15 a21 x16 x17 a22 a23 a24 a25 x18 a26 x19 a27 a28 a29 y0 a30 a31 a32 a33 a34 a35 a36 a37 a38 x_2 x21 x22 y1 a39 x23 a40 a41 a42 a43 x24 x25 x26 x27 a18 f0 a27 (u_8.2.1 0) a36 f2 a37 f3 a38 f4 a35 (u_8.2.2.1 0)) := hD
          have hw_11 : (goQ f1 (u_8.2.1 0) x_3.toInt x_4.toInt x_6 x10.toInt) := hw_10
          refine lv_aload_n (pc := 51) hx hb dX12_undo_51 rfl (lv_at hl 0 rfl) ?_
          refine lv_dup (pc := 52) hx hb dX12_undo_52 rfl ?_
          as_aux_lemma =>
            refine va_get (pc := 53) (ci := 12) (v := .int x21) (C := RX12) (T := TX12) (N := 73) hx hb hts iX12 hown hK hP 0 rfl rfl 60 (by decide) (hts _ tw_1461) (fun _ h9 => h9) rfl dX12_undo_53 ?_
            refine lv_iconst (pc := 56) (v := 1) hx hb dX12_undo_56 (by decide) ?_
            refine b_isub (pc := 57) hx hb rfl tI_1 (by first | exact (om_659 h_x21.1) | ((first | omega | (unfold zBd at *; omega)))) (by first | exact (om_1718 h_x21.2) | ((first | omega | (unfold zBd at *; omega)))) dX12_undo_57 (fun x_12 ex_12 => ?_)
            refine va_put (pc := 58) (ci := 12) (v := .int x_12) (ty := .int) (C := RX12) (T := TX12) (N := 73) hx hb hts iX12 tyX12 tyX12_ok nmX12 hown hK hP hD hS 0 rfl rfl 60 (by decide) (hts _ tw_1461) (fun _ h9 => h9) rfl (by decide +kernel) rfl rfl (Nat.le_of_ble_eq_true rfl) dX12_undo_58 (fun H locs hP hD hS => ?_)
            replace hP : va_P D gcl (zS_13 cB cC cI cJ a0 a1 x0 x1 x2 x3 x4 x5 x6 x7 a2 a3 a4 a5 a6 a7 a8 a9 a10 a11 a12 a13 a14 a15 a16 x8 x9 x10 x11 x12 x13 a17 a18 a19 x14 a20 x15 a21 x16 x17 a22 a23 a24 a25 x18 a26 x19 a27 a28 a29 y0 a30 a31 a32 a33 a34 a35 a36 a37 a38 x_2 x_12 x22 y1 a39 x23 a40 a41 a42 a43 x24 x25 x26 x27 a18 f0 a27 (u_8.2.1 0) a36 f2 a37 f3 a38 f4 a35 (u_8.2.2.1 0)) H := hP
            replace hD : va_D A (zS_13 cB cC cI cJ a0 a1 x0 x1 x2 x3 x4 x5 x6 x7 a2 a3 a4 a5 a6 a7 a8 a9 a10 a11 a12 a13 a14 a15 a16 x8 x9 x10 x11 x12 x13 a17 a18 a19 x14 a20 x15 a21 x16 x17 a22 a23 a24 a25 x18 a26 x19 a27 a28 a29 y0 a30 a31 a32 a33 a34 a35 a36 a37 a38 x_2 x_12 x22 y1 a39 x23 a40 a41 a42 a43 x24 x25 x26 x27 a18 f0 a27 (u_8.2.1 0) a36 f2 a37 f3 a38 f4 a35 (u_8.2.2.1 0)) := hD
            refine lv_aload_n (pc := 61) hx hb dX12_undo_61 rfl (lv_at hl 0 rfl) ?_
            refine lv_dup (pc := 62) hx hb dX12_undo_62 rfl ?_
            refine va_get (pc := 63) (ci := 12) (v := .int x22) (C := RX12) (T := TX12) (N := 73) hx hb hts iX12 hown hK hP 0 rfl rfl 61 (by decide) (hts _ tw_1462) (fun _ h9 => h9) rfl dX12_undo_63 ?_
            have bd_h_x22 : 0 ≤ x22.toInt ∧ x22.toInt ≤ 40 := h_x22
            refine lv_iconst (pc := 66) (v := 1) hx hb dX12_undo_66 (by decide) ?_
            refine b_iadd (pc := 67) hx hb rfl tI_1 (by first | exact (om_2 h_x22.1) | ((first | omega | (unfold zBd at *; omega)))) (by first | exact (om_1719 h_x22.2) | ((first | omega | (unfold zBd at *; omega)))) dX12_undo_67 (fun x_13 ex_13 => ?_)
            refine va_put (pc := 68) (ci := 12) (v := .int x_13) (ty := .int) (C := RX12) (T := TX12) (N := 73) hx hb hts iX12 tyX12 tyX12_ok nmX12 hown hK hP hD hS 0 rfl rfl 61 (by decide) (hts _ tw_1462) (fun _ h9 => h9) rfl (by decide +kernel) rfl rfl (Nat.le_of_ble_eq_true rfl) dX12_undo_68 (fun H locs hP hD hS => ?_)
            replace hP : va_P D gcl (zS_13 cB cC cI cJ a0 a1 x0 x1 x2 x3 x4 x5 x6 x7 a2 a3 a4 a5 a6 a7 a8 a9 a10 a11 a12 a13 a14 a15 a16 x8 x9 x10 x11 x12 x13 a17 a18 a19 x14 a20 x15 a21 x16 x17 a22 a23 a24 a25 x18 a26 x19 a27 a28 a29 y0 a30 a31 a32 a33 a34 a35 a36 a37 a38 x_2 x_12 x_13 y1 a39 x23 a40 a41 a42 a43 x24 x25 x26 x27 a18 f0 a27 (u_8.2.1 0) a36 f2 a37 f3 a38 f4 a35 (u_8.2.2.1 0)) H := hP
            replace hD : va_D A (zS_13 cB cC cI cJ a0 a1 x0 x1 x2 x3 x4 x5 x6 x7 a2 a3 a4 a5 a6 a7 a8 a9 a10 a11 a12 a13 a14 a15 a16 x8 x9 x10 x11 x12 x13 a17 a18 a19 x14 a20 x15 a21 x16 x17 a22 a23 a24 a25 x18 a26 x19 a27 a28 a29 y0 a30 a31 a32 a33 a34 a35 a36 a37 a38 x_2 x_12 x_13 y1 a39 x23 a40 a41 a42 a43 x24 x25 x26 x27 a18 f0 a27 (u_8.2.1 0) a36 f2 a37 f3 a38 f4 a35 (u_8.2.2.1 0)) := hD
            as_aux_lemma =>
              refine lv_iconst (pc := 71) (v := 1) hx hb dX12_undo_71 (by decide) ?_
              have hP9 : va_P D gcl (zS_13 cB cC cI cJ a0 a1 x0 x1 x2 x3 x4 x5 x6 x7 a2 a3 a4 a5 a6 a7 a8 a9 a10 a11 a12 a13 a14 a15 a16 x8 x9 x10 x11 x12 x13 a17 a18 a19 x14 a20 x15 a21 x16 x17 a22 a23 a24 a25 x18 a26 x19 a27 a28 a29 y0 a30 a31 a32 a33 a34 a35 a36 a37 a38 x_2 x_12 x_13 y1 a39 x23 a40 a41 a42 a43 x24 x25 x26 x27 a18 f0 a27 (u_8.2.1 0) a36 f2 a37 f3 a38 f4 a35 (u_8.2.2.1 0)) H := g_psub hP [0, 1, 2, 3, 4, 5, 6] rfl
              have hD9 : va_D A (zS_13 cB cC cI cJ a0 a1 x0 x1 x2 x3 x4 x5 x6 x7 a2 a3 a4 a5 a6 a7 a8 a9 a10 a11 a12 a13 a14 a15 a16 x8 x9 x10 x11 x12 x13 a17 a18 a19 x14 a20 x15 a21 x16 x17 a22 a23 a24 a25 x18 a26 x19 a27 a28 a29 y0 a30 a31 a32 a33 a34 a35 a36 a37 a38 x_2 x_12 x_13 y1 a39 x23 a40 a41 a42 a43 x24 x25 x26 x27 a18 f0 a27 (u_8.2.1 0) a36 f2 a37 f3 a38 f4 a35 (u_8.2.2.1 0)) := hD.sub [0, 1, 2, 3, 4, 5, 6] (by decide) rfl
              have k9 := tI_1
              exact hret 1 ((fun _ => 0), (fun k => [(u_8.2.1 0)].getD k (fun _ => 0)), (fun k => [(u_8.2.2.1 0)].getD k (fun _ => 0)), (fun k => [x_2, x_12, x_13].getD k 0), (fun _ => 0)) dX12_undo_72 ⟨(Or.inr tI_1), ⟨(show (0 ≤ (1 : Int32).toInt ∧ (1 : Int32).toInt ≤ 1) from (n_c tI_1 (by decide))), (show (0 ≤ (x_2 : Int32).toInt ∧ (x_2 : Int32).toInt ≤ 200) from (by first | exact (om_1717 c_1 h_x21.1 ex_2 hr_a0_0 h_x20.2) | (have k9 := tI_1; (first | omega | (unfold zBd at *; omega))))), (show (0 ≤ (x_12 : Int32).toInt ∧ (x_12 : Int32).toInt ≤ 40) from (by first | exact (om_1720 c_1 h_x21.1 ex_12 h_x21.2) | (have k9 := tI_1; (first | omega | (unfold zBd at *; omega))))), (show (0 ≤ (x_13 : Int32).toInt ∧ (x_13 : Int32).toInt ≤ 40) from (by first | exact (om_1721 ex_13 h_x22.1 c_1 h_x21.1 hg__ur) | (have k9 := tI_1; (first | omega | (unfold zBd at *; omega))))), (show ((x_12 : Int32).toInt ≤ (x_2 : Int32).toInt) from (by first | exact (om_1722 ex_12 ex_2 hr_a0_0) | (have k9 := tI_1; (first | omega | (unfold zBd at *; omega))))), (show ((x_2 : Int32).toInt + (x_13 : Int32).toInt ≤ 200) from (by first | exact (om_1723 ex_13 ex_2 hr_a0_1) | (have k9 := tI_1; (first | omega | (unfold zBd at *; omega))))), (show x_12.toInt + x_13.toInt ≤ 40 from (by first | exact (om_1724 ex_13 ex_12 hg__ur) | (have k9 := tI_1; (first | omega | (unfold zBd at *; omega))))), (show MOK f0 (u_8.2.1 0) f2 f3 f4 x10.toInt x9.toInt x_2.toInt x_13.toInt from M_undo hg_mk (by first | exact (om_1725 c_1 h_x21.1 hr_a0_0) | ((first | omega | (unfold zBd at *; omega)))) (by first | exact (om_0 h_x22.1) | ((first | omega | (unfold zBd at *; omega)))) (by first | exact (om_682 ex_2) | ((first | omega | (unfold zBd at *; omega)))) (by first | exact (om_5 ex_13) | ((first | omega | (unfold zBd at *; omega)))) ex_3 ex_4 ex_5 ex_6 hw_11 (by first | exact (om_1726 h_x10.2) | ((first | omega | (unfold zBd at *; omega))))), (show unQ (1 : Int32).toInt x21.toInt x22.toInt x20.toInt x_12.toInt x_13.toInt x_2.toInt from (by unfold unQ; (first | omega | (unfold zBd at *; omega))))⟩⟩ hP9 hD9 hS
  ·
    as_aux_lemma =>
      refine lv_iconst (pc := 7) (v := 0) hx hb dX12_undo_7 (by decide) ?_
      have hP9 : va_P D gcl (zS_13 cB cC cI cJ a0 a1 x0 x1 x2 x3 x4 x5 x6 x7 a2 a3 a4 a5 a6 a7 a8 a9 a10 a11 a12 a13 a14 a15 a16 x8 x9 x10 x11 x12 x13 a17 a18 a19 x14 a20 x15 a21 x16 x17 a22 a23 a24 a25 x18 a26 x19 a27 a28 a29 y0 a30 a31 a32 a33 a34 a35 a36 a37 a38 x20 x21 x22 y1 a39 x23 a40 a41 a42 a43 x24 x25 x26 x27 a18 f0 a27 f1 a36 f2 a37 f3 a38 f4 a35 g0) s.heap := g_psub hP [0, 1, 2, 3, 4, 5, 6] rfl
      have hD9 : va_D A (zS_13 cB cC cI cJ a0 a1 x0 x1 x2 x3 x4 x5 x6 x7 a2 a3 a4 a5 a6 a7 a8 a9 a10 a11 a12 a13 a14 a15 a16 x8 x9 x10 x11 x12 x13 a17 a18 a19 x14 a20 x15 a21 x16 x17 a22 a23 a24 a25 x18 a26 x19 a27 a28 a29 y0 a30 a31 a32 a33 a34 a35 a36 a37 a38 x20 x21 x22 y1 a39 x23 a40 a41 a42 a43 x24 x25 x26 x27 a18 f0 a27 f1 a36 f2 a37 f3 a38 f4 a35 g0) := hD.sub [0, 1, 2, 3, 4, 5, 6] (by decide) rfl
      have k9 := tI_0
      exact hret 0 ((fun _ => 0), (fun k => [f1].getD k (fun _ => 0)), (fun k => [g0].getD k (fun _ => 0)), (fun k => [x20, x21, x22].getD k 0), (fun _ => 0)) dX12_undo_8 ⟨(Or.inl tI_0), ⟨(show (0 ≤ (0 : Int32).toInt ∧ (0 : Int32).toInt ≤ 1) from (n_c tI_0 (by decide))), (show (0 ≤ (x20 : Int32).toInt ∧ (x20 : Int32).toInt ≤ 200) from h_x20), (show (0 ≤ (x21 : Int32).toInt ∧ (x21 : Int32).toInt ≤ 40) from h_x21), (show (0 ≤ (x22 : Int32).toInt ∧ (x22 : Int32).toInt ≤ 40) from h_x22), (show ((x21 : Int32).toInt ≤ (x20 : Int32).toInt) from hr_a0_0), (show ((x20 : Int32).toInt + (x22 : Int32).toInt ≤ 200) from hr_a0_1), (show x21.toInt + x22.toInt ≤ 40 from hg__ur), (show MOK f0 f1 f2 f3 f4 x10.toInt x9.toInt x20.toInt x22.toInt from hg_mk), (show unQ (0 : Int32).toInt x21.toInt x22.toInt x20.toInt x21.toInt x22.toInt x20.toInt from (by unfold unQ; (first | omega | (unfold zBd at *; omega))))⟩⟩ hP9 hD9 hS
theorem om_1727 {a b : Int} (h0 : (¬ b = 0)) (h1 : (0 ≤ b)) (h2 : (a + b ≤ 200)) : (a < (200 : Nat)) := by omega
theorem om_1728 {a b c : Int} (h0 : (a = b + 1)) (h1 : (0 ≤ b)) (h2 : (¬ c = 0)) (h3 : (0 ≤ c)) (h4 : (b + c ≤ 200)) : ((0 ≤ a ∧ a ≤ 200)) := by omega
theorem om_1729 {a b c : Int} (h0 : (a = b + 1)) (h1 : (0 ≤ b)) (h2 : (¬ c = 0)) (h3 : (0 ≤ c)) (h4 : (b + c ≤ 40)) : ((0 ≤ a ∧ a ≤ 40)) := by omega
theorem om_1730 {a b c d : Int} (h0 : (a = c + 1)) (h1 : (b = d + 1)) (h2 : (c ≤ d)) : ((a ≤ b)) := by omega
theorem om_1731 {a b c d : Int} (h0 : (b = c - 1)) (h1 : (a = d + 1)) (h2 : (d + c ≤ 200)) : ((a + b ≤ 200)) := by omega
theorem om_1732 {a b c d : Int} (h0 : (b = c - 1)) (h1 : (a = d + 1)) (h2 : (d + c ≤ 40)) : (a + b ≤ 40) := by omega
set_option maxHeartbeats 4000000 in
set_option maxRecDepth 100000 in
theorem k_X12_redo (l : Launch) (D : va_G) (cB cC cI cJ : ClassId) (sz : Nat) (a0 a1 a2 a3 a4 a5 a6 a7 a8 a9 a10 a11 a12 a13 a14 a15 a16 a17 a18 a19 a20 a21 a22 a23 a24 a25 a26 a27 a28 a29 a30 a31 a32 a33 a34 a35 a36 a37 a38 a39 a40 a41 a42 a43 : Nat) (x0 x1 x2 x3 x4 x5 x6 x7 x8 x9 x10 x11 x12 x13 x14 x15 x16 x17 x18 x19 x20 x21 x22 x23 x24 x25 x26 x27 : Int32) (y0 y1 : Int64) (f0 f1 f2 f3 f4 : Nat → Int32) (g0 : Nat → Int64) (h_x0 : zBd x0.toInt 0 1600) (h_x1 : zBd x1.toInt 0 1600) (h_x2 : zBd x2.toInt 0 1600) (h_x3 : zBd x3.toInt (-1) 1600) (h_x4 : zBd x4.toInt 0 4) (h_x5 : zBd x5.toInt (-1) 1600) (h_x8 : zBd x8.toInt 0 8) (h_x9 : zBd x9.toInt 0 5) (h_x10 : zBd x10.toInt 0 6) (h_x11 : zBd x11.toInt 0 6) (h_x12 : zBd x12.toInt 0 16) (h_x14 : zBd x14.toInt 0 60) (h_x15 : zBd x15.toInt 0 1600) (h_x16 : zBd x16.toInt 0 1700) (h_x18 : zBd x18.toInt 0 1700) (h_x19 : zBd x19.toInt 0 1700) (h_x20 : zBd x20.toInt 0 200) (h_x21 : zBd x21.toInt 0 40) (h_x22 : zBd x22.toInt 0 40) (h_x23 : zBd x23.toInt 0 1) (h_x24 : zBd x24.toInt 0 14) (h_x25 : zBd x25.toInt 0 200) (h_x26 : zBd x26.toInt 0 40) (h_x27 : zBd x27.toInt 0 40) (hr_a0_0 : (x21.toInt ≤ x20.toInt)) (hr_a0_1 : (x20.toInt + x22.toInt ≤ 200)) (hr_a0_2 : (x9.toInt = 0 ∨ 2 ≤ x8.toInt)) (hf_f0 : (∀ j, (-9999) ≤ (f0 j).toInt ∧ (f0 j).toInt ≤ 9999)) (hf_f2 : (∀ j, 0 ≤ (f2 j).toInt ∧ (f2 j).toInt ≤ 4)) (hf_f3 : (∀ j, 0 ≤ (f3 j).toInt ∧ (f3 j).toInt ≤ 4)) (hg__ur : x21.toInt + x22.toInt ≤ 40) (hg_mk : MOK f0 f1 f2 f3 f4 x10.toInt x9.toInt x20.toInt x22.toInt) : Met l yX12_redo (.code yX12_redo cX12_redo 1 (some .boolean) :: lw_gd) ({ frames := 1, cells := 0, slots := 0, locals := 24 }) (gPre D [(cB, .byte), (cC, .char), (cI, .int), (cJ, .long)] [.ref a0] (zS_13 cB cC cI cJ a0 a1 x0 x1 x2 x3 x4 x5 x6 x7 a2 a3 a4 a5 a6 a7 a8 a9 a10 a11 a12 a13 a14 a15 a16 x8 x9 x10 x11 x12 x13 a17 a18 a19 x14 a20 x15 a21 x16 x17 a22 a23 a24 a25 x18 a26 x19 a27 a28 a29 y0 a30 a31 a32 a33 a34 a35 a36 a37 a38 x20 x21 x22 y1 a39 x23 a40 a41 a42 a43 x24 x25 x26 x27 a18 f0 a27 f1 a36 f2 a37 f3 a38 f4 a35 g0) sz) (va_Qi (fun r u => (0 ≤ r.toInt ∧ r.toInt ≤ 1) ∧ (0 ≤ (u.2.2.2.1 0).toInt ∧ (u.2.2.2.1 0).toInt ≤ 200) ∧ (0 ≤ (u.2.2.2.1 1).toInt ∧ (u.2.2.2.1 1).toInt ≤ 40) ∧ (0 ≤ (u.2.2.2.1 2).toInt ∧ (u.2.2.2.1 2).toInt ≤ 40) ∧ ((u.2.2.2.1 1).toInt ≤ (u.2.2.2.1 0).toInt) ∧ ((u.2.2.2.1 0).toInt + (u.2.2.2.1 2).toInt ≤ 200) ∧ ((u.2.2.2.1 1).toInt + (u.2.2.2.1 2).toInt ≤ 40) ∧ (MOK f0 (u.2.1 0) f2 f3 f4 x10.toInt x9.toInt (u.2.2.2.1 0).toInt (u.2.2.2.1 2).toInt) ∧ (reQ r.toInt x21.toInt x22.toInt x20.toInt (u.2.2.2.1 1).toInt (u.2.2.2.1 2).toInt (u.2.2.2.1 0).toInt)) (gB D (va_A (zS_13 cB cC cI cJ a0 a1 x0 x1 x2 x3 x4 x5 x6 x7 a2 a3 a4 a5 a6 a7 a8 a9 a10 a11 a12 a13 a14 a15 a16 x8 x9 x10 x11 x12 x13 a17 a18 a19 x14 a20 x15 a21 x16 x17 a22 a23 a24 a25 x18 a26 x19 a27 a28 a29 y0 a30 a31 a32 a33 a34 a35 a36 a37 a38 x20 x21 x22 y1 a39 x23 a40 a41 a42 a43 x24 x25 x26 x27 a18 f0 a27 f1 a36 f2 a37 f3 a38 f4 a35 g0) sz) (fun u : gEx => (zS_13 cB cC cI cJ a0 a1 x0 x1 x2 x3 x4 x5 x6 x7 a2 a3 a4 a5 a6 a7 a8 a9 a10 a11 a12 a13 a14 a15 a16 x8 x9 x10 x11 x12 x13 a17 a18 a19 x14 a20 x15 a21 x16 x17 a22 a23 a24 a25 x18 a26 x19 a27 a28 a29 y0 a30 a31 a32 a33 a34 a35 a36 a37 a38 (u.2.2.2.1 0) (u.2.2.2.1 1) (u.2.2.2.1 2) y1 a39 x23 a40 a41 a42 a43 x24 x25 x26 x27 a18 f0 a27 (u.2.1 0) a36 f2 a37 f3 a38 f4 a35 (u.2.2.1 0)))) (va_A (zS_13 cB cC cI cJ a0 a1 x0 x1 x2 x3 x4 x5 x6 x7 a2 a3 a4 a5 a6 a7 a8 a9 a10 a11 a12 a13 a14 a15 a16 x8 x9 x10 x11 x12 x13 a17 a18 a19 x14 a20 x15 a21 x16 x17 a22 a23 a24 a25 x18 a26 x19 a27 a28 a29 y0 a30 a31 a32 a33 a34 a35 a36 a37 a38 x20 x21 x22 y1 a39 x23 a40 a41 a42 a43 x24 x25 x26 x27 a18 f0 a27 f1 a36 f2 a37 f3 a38 f4 a35 g0) sz)) 0 0 (va_A (zS_13 cB cC cI cJ a0 a1 x0 x1 x2 x3 x4 x5 x6 x7 a2 a3 a4 a5 a6 a7 a8 a9 a10 a11 a12 a13 a14 a15 a16 x8 x9 x10 x11 x12 x13 a17 a18 a19 x14 a20 x15 a21 x16 x17 a22 a23 a24 a25 x18 a26 x19 a27 a28 a29 y0 a30 a31 a32 a33 a34 a35 a36 a37 a38 x20 x21 x22 y1 a39 x23 a40 a41 a42 a43 x24 x25 x26 x27 a18 f0 a27 f1 a36 f2 a37 f3 a38 f4 a35 g0) sz) := by
  refine gOf_z (by decide +kernel) (Nat.le_of_ble_eq_true rfl) ?_
  intro p e s m args below meth c ls A Q hx hb hts hown hml hN hK hP hD hA hl hret
  replace hown : s.vm.findClass RX12 = some m.cls := hown
  have hS : va_S A s.heap s.heap [] := va_S.rf
  replace hP : va_P D gcl (zS_13 cB cC cI cJ a0 a1 x0 x1 x2 x3 x4 x5 x6 x7 a2 a3 a4 a5 a6 a7 a8 a9 a10 a11 a12 a13 a14 a15 a16 x8 x9 x10 x11 x12 x13 a17 a18 a19 x14 a20 x15 a21 x16 x17 a22 a23 a24 a25 x18 a26 x19 a27 a28 a29 y0 a30 a31 a32 a33 a34 a35 a36 a37 a38 x20 x21 x22 y1 a39 x23 a40 a41 a42 a43 x24 x25 x26 x27 a18 f0 a27 f1 a36 f2 a37 f3 a38 f4 a35 g0) s.heap := hP
  replace hl : lv_has ls 1 [(0, .ref a0)] := hl
  have rx6 : zBd x6.toInt (-2147483648) 2147483647 := n_rng x6
  have rx7 : zBd x7.toInt (-2147483648) 2147483647 := n_rng x7
  have rx13 : zBd x13.toInt (-2147483648) 2147483647 := n_rng x13
  have rx17 : zBd x17.toInt (-2147483648) 2147483647 := n_rng x17
  have ry0 := n_rngL y0
  have ry1 := n_rngL y1
  refine lv_aload_n (pc := 0) hx hb dX12_redo_0 rfl (lv_at hl 0 rfl) ?_
  refine va_get (pc := 1) (ci := 12) (v := .int x22) (C := RX12) (T := TX12) (N := 73) hx hb hts iX12 hown hK hP 0 rfl rfl 61 (by decide) (hts _ tw_1462) (fun _ h9 => h9) rfl dX12_redo_1 ?_
  have bd_h_x22 : 0 ≤ x22.toInt ∧ x22.toInt ≤ 40 := h_x22
  refine b_if_ne (pc := 4) (tgt := 9) hx hb rfl  dX12_redo_4 (by decide) (fun c_1 => ?_) (fun c_1 => ?_)
  ·
    as_aux_lemma =>
      refine lv_aload_n (pc := 9) hx hb dX12_redo_9 rfl (lv_at hl 0 rfl) ?_
      refine lv_aload_n (pc := 10) hx hb dX12_redo_10 rfl (lv_at hl 0 rfl) ?_
      refine va_get (pc := 11) (ci := 12) (v := .ref a36) (C := RX12) (T := TX12) (N := 73) hx hb hts iX12 hown hK hP 0 rfl rfl 56 (by decide) (hts _ tw_1457) (fun _ h9 => h9) rfl dX12_redo_11 ?_
      refine lv_aload_n (pc := 14) hx hb dX12_redo_14 rfl (lv_at hl 0 rfl) ?_
      refine va_get (pc := 15) (ci := 12) (v := .int x20) (C := RX12) (T := TX12) (N := 73) hx hb hts iX12 hown hK hP 0 rfl rfl 59 (by decide) (hts _ tw_1460) (fun _ h9 => h9) rfl dX12_redo_15 ?_
      have bd_h_x20 : 0 ≤ x20.toInt ∧ x20.toInt ≤ 200 := h_x20
      refine va_iald (pc := 18) hx hb hK hP 3 2 rfl rfl (n_in rfl (by first | exact (om_0 h_x20.1) | ((first | omega | (unfold zBd at *; omega)))) (by first | exact (om_1727 c_1 h_x22.1 hr_a0_1) | ((first | omega | (unfold zBd at *; omega))))) dX12_redo_18 ?_
      refine lv_topi (fun x_2 ex_2 => ?_)
      have rx_2 : (0 ≤ x_2.toInt ∧ x_2.toInt ≤ 4) := by rw [ex_2]; exact hf_f2 _
      replace ex_2 : x_2 = f2 (x20.toInt).toNat := ex_2
      have tx_2 := congrArg Int32.toInt ex_2
      refine lv_aload_n (pc := 19) hx hb dX12_redo_19 rfl (lv_at hl 0 rfl) ?_
      refine va_get (pc := 20) (ci := 12) (v := .ref a37) (C := RX12) (T := TX12) (N := 73) hx hb hts iX12 hown hK hP 0 rfl rfl 57 (by decide) (hts _ tw_1458) (fun _ h9 => h9) rfl dX12_redo_20 ?_
      refine lv_aload_n (pc := 23) hx hb dX12_redo_23 rfl (lv_at hl 0 rfl) ?_
      as_aux_lemma =>
        refine va_get (pc := 24) (ci := 12) (v := .int x20) (C := RX12) (T := TX12) (N := 73) hx hb hts iX12 hown hK hP 0 rfl rfl 59 (by decide) (hts _ tw_1460) (fun _ h9 => h9) rfl dX12_redo_24 ?_
        refine va_iald (pc := 27) hx hb hK hP 4 2 rfl rfl (n_in rfl (by first | exact (om_0 h_x20.1) | ((first | omega | (unfold zBd at *; omega)))) (by first | exact (om_1727 c_1 h_x22.1 hr_a0_1) | ((first | omega | (unfold zBd at *; omega))))) dX12_redo_27 ?_
        refine lv_topi (fun x_3 ex_3 => ?_)
        have rx_3 : (0 ≤ x_3.toInt ∧ x_3.toInt ≤ 4) := by rw [ex_3]; exact hf_f3 _
        replace ex_3 : x_3 = f3 (x20.toInt).toNat := ex_3
        have tx_3 := congrArg Int32.toInt ex_3
        refine lv_aload_n (pc := 28) hx hb dX12_redo_28 rfl (lv_at hl 0 rfl) ?_
        refine va_get (pc := 29) (ci := 12) (v := .ref a38) (C := RX12) (T := TX12) (N := 73) hx hb hts iX12 hown hK hP 0 rfl rfl 58 (by decide) (hts _ tw_1459) (fun _ h9 => h9) rfl dX12_redo_29 ?_
        refine lv_aload_n (pc := 32) hx hb dX12_redo_32 rfl (lv_at hl 0 rfl) ?_
        refine va_get (pc := 33) (ci := 12) (v := .int x20) (C := RX12) (T := TX12) (N := 73) hx hb hts iX12 hown hK hP 0 rfl rfl 59 (by decide) (hts _ tw_1460) (fun _ h9 => h9) rfl dX12_redo_33 ?_
        refine va_iald (pc := 36) hx hb hK hP 5 2 rfl rfl (n_in rfl (by first | exact (om_0 h_x20.1) | ((first | omega | (unfold zBd at *; omega)))) (by first | exact (om_1727 c_1 h_x22.1 hr_a0_1) | ((first | omega | (unfold zBd at *; omega))))) dX12_redo_36 ?_
        refine lv_topi (fun x_4 ex_4 => ?_)
        have rx_4 : zBd x_4.toInt (-2147483648) 2147483647 := n_rng x_4
        replace ex_4 : x_4 = f4 (x20.toInt).toNat := ex_4
        have tx_4 := congrArg Int32.toInt ex_4
        have hh_5 := M_at (k := x20.toInt) hg_mk (by (first | omega | (unfold zBd at *; omega))) (by (first | omega | (unfold zBd at *; omega)))
        refine gd_v (pc := 37) (wc := (zS_122 cB cC cI cJ a0 a1 x0 x1 x2 x3 x4 x5 x6 x7 a2 a3 a4 a5 a6 a7 a8 a9 a10 a11 a12 a13 a14 a15 a16 x8 x9 x10 x11 x12 x13 a17 a18 a19 x14 a20 x15 a21 x16 x17 a22 a23 a24 a25 x18 a26 x19 a27 a28 a29 y0 a30 a31 a32 a33 a34 a35 a36 a37 a38 x20 x21 x22 y1 a39 x23 a40 a41 a42 a43 x24 x25 x26 x27 a27 f1 a35 g0)) hP hD hS hA [0, 2, 6] rfl (by decide +kernel) (fun _ => by rfl) (fun hPc hDc => va_runV (As := [.int x_2, .int x_3, .int x_4]) (rest := []) ⟨hx, hb, hml, hown, hts⟩ (k_X12_goes_x l D cB cC cI cJ _ a0 a1 a2 a3 a4 a5 a6 a7 a8 a9 a10 a11 a12 a13 a14 a15 a16 a17 a18 a19 a20 a21 a22 a23 a24 a25 a26 a27 a28 a29 a30 a31 a32 a33 a34 a35 a36 a37 a38 a39 a40 a41 a42 a43 x_2 x_3 x_4 x0 x1 x2 x3 x4 x5 x6 x7 x8 x9 x10 x11 x12 x13 x14 x15 x16 x17 x18 x19 x20 x21 x22 x23 x24 x25 x26 x27 y0 y1 f1 g0 rx_2 rx_3 h_x0 h_x1 h_x2 h_x3 h_x4 h_x5 h_x8 h_x9 h_x10 h_x11 h_x12 h_x14 h_x15 h_x16 h_x18 h_x19 h_x20 h_x21 h_x22 h_x23 h_x24 h_x25 h_x26 h_x27 hr_a0_2 (by (first | omega | (unfold zBd at *; omega)))) ⟨gcwB hts tw_1938 tw_14 tw_1935 hd_yX12_goes ⟨Nat.le_of_ble_eq_true rfl, Nat.le_of_ble_eq_true rfl⟩, hts _ tw_1937, hts _ tp_107⟩ ⟨gblind, va_recv hK hPc (ci := 12) (q0 := 0) rfl rfl, (gpreS hPc hK hDc hN).2⟩ rfl rfl hl.1 rfl (lv_room (Nat.le_of_ble_eq_true rfl)) dX12_redo_37 ⟨Nat.le_of_ble_eq_true rfl, Nat.le_of_ble_eq_true rfl⟩) (fun u_6 H locs hw_8 hP hD hS => ?_)
        replace hP : va_P D gcl (zS_13 cB cC cI cJ a0 a1 x0 x1 x2 x3 x4 x5 x6 x7 a2 a3 a4 a5 a6 a7 a8 a9 a10 a11 a12 a13 a14 a15 a16 x8 x9 x10 x11 x12 x13 a17 a18 a19 x14 a20 x15 a21 x16 x17 a22 a23 a24 a25 x18 a26 x19 a27 a28 a29 y0 a30 a31 a32 a33 a34 a35 a36 a37 a38 x20 x21 x22 y1 a39 x23 a40 a41 a42 a43 x24 x25 x26 x27 a18 f0 a27 (u_6.2.1 0) a36 f2 a37 f3 a38 f4 a35 (u_6.2.2.1 0)) H := hP
        replace hD : va_D A (zS_13 cB cC cI cJ a0 a1 x0 x1 x2 x3 x4 x5 x6 x7 a2 a3 a4 a5 a6 a7 a8 a9 a10 a11 a12 a13 a14 a15 a16 x8 x9 x10 x11 x12 x13 a17 a18 a19 x14 a20 x15 a21 x16 x17 a22 a23 a24 a25 x18 a26 x19 a27 a28 a29 y0 a30 a31 a32 a33 a34 a35 a36 a37 a38 x20 x21 x22 y1 a39 x23 a40 a41 a42 a43 x24 x25 x26 x27 a18 f0 a27 (u_6.2.1 0) a36 f2 a37 f3 a38 f4 a35 (u_6.2.2.1 0)) := hD
        have hw_9 : (goQ f1 (u_6.2.1 0) x_2.toInt x_3.toInt x_4 x10.toInt) := hw_8
        as_aux_lemma =>
          refine lv_aload_n (pc := 40) hx hb dX12_redo_40 rfl (lv_at hl 0 rfl) ?_
          refine lv_dup (pc := 41) hx hb dX12_redo_41 rfl ?_
          refine va_get (pc := 42) (ci := 12) (v := .int x20) (C := RX12) (T := TX12) (N := 73) hx hb hts iX12 hown hK hP 0 rfl rfl 59 (by decide) (hts _ tw_1460) (fun _ h9 => h9) rfl dX12_redo_42 ?_
          refine lv_iconst (pc := 45) (v := 1) hx hb dX12_redo_45 (by decide) ?_
          refine b_iadd (pc := 46) hx hb rfl tI_1 (by first | exact (om_2 h_x20.1) | ((first | omega | (unfold zBd at *; omega)))) (by first | exact (om_1695 h_x20.2) | ((first | omega | (unfold zBd at *; omega)))) dX12_redo_46 (fun x_10 ex_10 => ?_)
          refine va_put (pc := 47) (ci := 12) (v := .int x_10) (ty := .int) (C := RX12) (T := TX12) (N := 73) hx hb hts iX12 tyX12 tyX12_ok nmX12 hown hK hP hD hS 0 rfl rfl 59 (by decide) (hts _ tw_1460) (fun _ h9 => h9) rfl (by decide +kernel) rfl rfl (Nat.le_of_ble_eq_true rfl) dX12_redo_47 (fun H locs hP hD hS => ?_)
          replace hP : va_P D gcl (zS_13 cB cC cI cJ a0 a1 x0 x1 x2 x3 x4 x5 x6 x7 a2 a3 a4 a5 a6 a7 a8 a9 a10 a11 a12 a13 a14 a15 a16 x8 x9 x10 x11 x12 x13 a17 a18 a19 x14 a20 x15 a21 x16 x17 a22 a23 a24 a25 x18 a26 x19 a27 a28 a29 y0 a30 a31 a32 a33 a34 a35 a36 a37 a38 x_10 x21 x22 y1 a39 x23 a40 a41 a42 a43 x24 x25 x26 x27 a18 f0 a27 (u_6.2.1 0) a36 f2 a37 f3 a38 f4 a35 (u_6.2.2.1 0)) H := hP
          replace hD : va_D A (zS_13 cB cC cI cJ a0 a1 x0 x1 x2 x3 x4 x5 x6 x7 a2 a3 a4 a5 a6 a7 a8 a9 a10 a11 a12 a13 a14 a15 a16 x8 x9 x10 x11 x12 x13 a17 a18 a19 x14 a20 x15 a21 x16 x17 a22 a23 a24 a25 x18 a26 x19 a27 a28 a29 y0 a30 a31 a32 a33 a34 a35 a36 a37 a38 x_10 x21 x22 y1 a39 x23 a40 a41 a42 a43 x24 x25 x26 x27 a18 f0 a27 (u_6.2.1 0) a36 f2 a37 f3 a38 f4 a35 (u_6.2.2.1 0)) := hD
          refine lv_aload_n (pc := 50) hx hb dX12_redo_50 rfl (lv_at hl 0 rfl) ?_
          refine lv_dup (pc := 51) hx hb dX12_redo_51 rfl ?_
          refine va_get (pc := 52) (ci := 12) (v := .int x21) (C := RX12) (T := TX12) (N := 73) hx hb hts iX12 hown hK hP 0 rfl rfl 60 (by decide) (hts _ tw_1461) (fun _ h9 => h9) rfl dX12_redo_52 ?_
          have bd_h_x21 : 0 ≤ x21.toInt ∧ x21.toInt ≤ 40 := h_x21
          refine lv_iconst (pc := 55) (v := 1) hx hb dX12_redo_55 (by decide) ?_
          as_aux_lemma =>
            refine b_iadd (pc := 56) hx hb rfl tI_1 (by first | exact (om_2 h_x21.1) | ((first | omega | (unfold zBd at *; omega)))) (by first | exact (om_1719 h_x21.2) | ((first | omega | (unfold zBd at *; omega)))) dX12_redo_56 (fun x_11 ex_11 => ?_)
            refine va_put (pc := 57) (ci := 12) (v := .int x_11) (ty := .int) (C := RX12) (T := TX12) (N := 73) hx hb hts iX12 tyX12 tyX12_ok nmX12 hown hK hP hD hS 0 rfl rfl 60 (by decide) (hts _ tw_1461) (fun _ h9 => h9) rfl (by decide +kernel) rfl rfl (Nat.le_of_ble_eq_true rfl) dX12_redo_57 (fun H locs hP hD hS => ?_)
            replace hP : va_P D gcl (zS_13 cB cC cI cJ a0 a1 x0 x1 x2 x3 x4 x5 x6 x7 a2 a3 a4 a5 a6 a7 a8 a9 a10 a11 a12 a13 a14 a15 a16 x8 x9 x10 x11 x12 x13 a17 a18 a19 x14 a20 x15 a21 x16 x17 a22 a23 a24 a25 x18 a26 x19 a27 a28 a29 y0 a30 a31 a32 a33 a34 a35 a36 a37 a38 x_10 x_11 x22 y1 a39 x23 a40 a41 a42 a43 x24 x25 x26 x27 a18 f0 a27 (u_6.2.1 0) a36 f2 a37 f3 a38 f4 a35 (u_6.2.2.1 0)) H := hP
            replace hD : va_D A (zS_13 cB cC cI cJ a0 a1 x0 x1 x2 x3 x4 x5 x6 x7 a2 a3 a4 a5 a6 a7 a8 a9 a10 a11 a12 a13 a14 a15 a16 x8 x9 x10 x11 x12 x13 a17 a18 a19 x14 a20 x15 a21 x16 x17 a22 a23 a24 a25 x18 a26 x19 a27 a28 a29 y0 a30 a31 a32 a33 a34 a35 a36 a37 a38 x_10 x_11 x22 y1 a39 x23 a40 a41 a42 a43 x24 x25 x26 x27 a18 f0 a27 (u_6.2.1 0) a36 f2 a37 f3 a38 f4 a35 (u_6.2.2.1 0)) := hD
            refine lv_aload_n (pc := 60) hx hb dX12_redo_60 rfl (lv_at hl 0 rfl) ?_
            refine lv_dup (pc := 61) hx hb dX12_redo_61 rfl ?_
            refine va_get (pc := 62) (ci := 12) (v := .int x22) (C := RX12) (T := TX12) (N := 73) hx hb hts iX12 hown hK hP 0 rfl rfl 61 (by decide) (hts _ tw_1462) (fun _ h9 => h9) rfl dX12_redo_62 ?_
            refine lv_iconst (pc := 65) (v := 1) hx hb dX12_redo_65 (by decide) ?_
            refine b_isub (pc := 66) hx hb rfl tI_1 (by first | exact (om_659 h_x22.1) | ((first | omega | (unfold zBd at *; omega)))) (by first | exact (om_1718 h_x22.2) | ((first | omega | (unfold zBd at *; omega)))) dX12_redo_66 (fun x_12 ex_12 => ?_)
            refine va_put (pc := 67) (ci := 12) (v := .int x_12) (ty := .int) (C := RX12) (T := TX12) (N := 73) hx hb hts iX12 tyX12 tyX12_ok nmX12 hown hK hP hD hS 0 rfl rfl 61 (by decide) (hts _ tw_1462) (fun _ h9 => h9) rfl (by decide +kernel) rfl rfl (Nat.le_of_ble_eq_true rfl) dX12_redo_67 (fun H locs hP hD hS => ?_)
            replace hP : va_P D gcl (zS_13 cB cC cI cJ a0 a1 x0 x1 x2 x3 x4 x5 x6 x7 a2 a3 a4 a5 a6 a7 a8 a9 a10 a11 a12 a13 a14 a15 a16 x8 x9 x10 x11 x12 x13 a17 a18 a19 x14 a20 x15 a21 x16 x17 a22 a23 a24 a25 x18 a26 x19 a27 a28 a29 y0 a30 a31 a32 a33 a34 a35 a36 a37 a38 x_10 x_11 x_12 y1 a39 x23 a40 a41 a42 a43 x24 x25 x26 x27 a18 f0 a27 (u_6.2.1 0) a36 f2 a37 f3 a38 f4 a35 (u_6.2.2.1 0)) H := hP
            replace hD : va_D A (zS_13 cB cC cI cJ a0 a1 x0 x1 x2 x3 x4 x5 x6 x7 a2 a3 a4 a5 a6 a7 a8 a9 a10 a11 a12 a13 a14 a15 a16 x8 x9 x10 x11 x12 x13 a17 a18 a19 x14 a20 x15 a21 x16 x17 a22 a23 a24 a25 x18 a26 x19 a27 a28 a29 y0 a30 a31 a32 a33 a34 a35 a36 a37 a38 x_10 x_11 x_12 y1 a39 x23 a40 a41 a42 a43 x24 x25 x26 x27 a18 f0 a27 (u_6.2.1 0) a36 f2 a37 f3 a38 f4 a35 (u_6.2.2.1 0)) := hD
            refine lv_iconst (pc := 70) (v := 1) hx hb dX12_redo_70 (by decide) ?_
            have hP9 : va_P D gcl (zS_13 cB cC cI cJ a0 a1 x0 x1 x2 x3 x4 x5 x6 x7 a2 a3 a4 a5 a6 a7 a8 a9 a10 a11 a12 a13 a14 a15 a16 x8 x9 x10 x11 x12 x13 a17 a18 a19 x14 a20 x15 a21 x16 x17 a22 a23 a24 a25 x18 a26 x19 a27 a28 a29 y0 a30 a31 a32 a33 a34 a35 a36 a37 a38 x_10 x_11 x_12 y1 a39 x23 a40 a41 a42 a43 x24 x25 x26 x27 a18 f0 a27 (u_6.2.1 0) a36 f2 a37 f3 a38 f4 a35 (u_6.2.2.1 0)) H := g_psub hP [0, 1, 2, 3, 4, 5, 6] rfl
            have hD9 : va_D A (zS_13 cB cC cI cJ a0 a1 x0 x1 x2 x3 x4 x5 x6 x7 a2 a3 a4 a5 a6 a7 a8 a9 a10 a11 a12 a13 a14 a15 a16 x8 x9 x10 x11 x12 x13 a17 a18 a19 x14 a20 x15 a21 x16 x17 a22 a23 a24 a25 x18 a26 x19 a27 a28 a29 y0 a30 a31 a32 a33 a34 a35 a36 a37 a38 x_10 x_11 x_12 y1 a39 x23 a40 a41 a42 a43 x24 x25 x26 x27 a18 f0 a27 (u_6.2.1 0) a36 f2 a37 f3 a38 f4 a35 (u_6.2.2.1 0)) := hD.sub [0, 1, 2, 3, 4, 5, 6] (by decide) rfl
            have k9 := tI_1
            exact hret 1 ((fun _ => 0), (fun k => [(u_6.2.1 0)].getD k (fun _ => 0)), (fun k => [(u_6.2.2.1 0)].getD k (fun _ => 0)), (fun k => [x_10, x_11, x_12].getD k 0), (fun _ => 0)) dX12_redo_71 ⟨(Or.inr tI_1), ⟨(show (0 ≤ (1 : Int32).toInt ∧ (1 : Int32).toInt ≤ 1) from (n_c tI_1 (by decide))), (show (0 ≤ (x_10 : Int32).toInt ∧ (x_10 : Int32).toInt ≤ 200) from (by first | exact (om_1728 ex_10 h_x20.1 c_1 h_x22.1 hr_a0_1) | (have k9 := tI_1; (first | omega | (unfold zBd at *; omega))))), (show (0 ≤ (x_11 : Int32).toInt ∧ (x_11 : Int32).toInt ≤ 40) from (by first | exact (om_1729 ex_11 h_x21.1 c_1 h_x22.1 hg__ur) | (have k9 := tI_1; (first | omega | (unfold zBd at *; omega))))), (show (0 ≤ (x_12 : Int32).toInt ∧ (x_12 : Int32).toInt ≤ 40) from (by first | exact (om_1720 c_1 h_x22.1 ex_12 h_x22.2) | (have k9 := tI_1; (first | omega | (unfold zBd at *; omega))))), (show ((x_11 : Int32).toInt ≤ (x_10 : Int32).toInt) from (by first | exact (om_1730 ex_11 ex_10 hr_a0_0) | (have k9 := tI_1; (first | omega | (unfold zBd at *; omega))))), (show ((x_10 : Int32).toInt + (x_12 : Int32).toInt ≤ 200) from (by first | exact (om_1731 ex_12 ex_10 hr_a0_1) | (have k9 := tI_1; (first | omega | (unfold zBd at *; omega))))), (show x_11.toInt + x_12.toInt ≤ 40 from (by first | exact (om_1732 ex_12 ex_11 hg__ur) | (have k9 := tI_1; (first | omega | (unfold zBd at *; omega))))), (show MOK f0 (u_6.2.1 0) f2 f3 f4 x10.toInt x9.toInt x_10.toInt x_12.toInt from M_redo hg_mk (by first | exact (om_0 h_x20.1) | ((first | omega | (unfold zBd at *; omega)))) (by first | exact (om_378 c_1 h_x22.1) | ((first | omega | (unfold zBd at *; omega)))) (by first | exact (om_5 ex_10) | ((first | omega | (unfold zBd at *; omega)))) (by first | exact (om_682 ex_12) | ((first | omega | (unfold zBd at *; omega)))) ex_2 ex_3 ex_4 hw_9 (by first | exact (om_1726 h_x10.2) | ((first | omega | (unfold zBd at *; omega))))), (show reQ (1 : Int32).toInt x21.toInt x22.toInt x20.toInt x_11.toInt x_12.toInt x_10.toInt from (by unfold reQ; (first | omega | (unfold zBd at *; omega))))⟩⟩ hP9 hD9 hS
  ·
    as_aux_lemma =>
      refine lv_iconst (pc := 7) (v := 0) hx hb dX12_redo_7 (by decide) ?_
      have hP9 : va_P D gcl (zS_13 cB cC cI cJ a0 a1 x0 x1 x2 x3 x4 x5 x6 x7 a2 a3 a4 a5 a6 a7 a8 a9 a10 a11 a12 a13 a14 a15 a16 x8 x9 x10 x11 x12 x13 a17 a18 a19 x14 a20 x15 a21 x16 x17 a22 a23 a24 a25 x18 a26 x19 a27 a28 a29 y0 a30 a31 a32 a33 a34 a35 a36 a37 a38 x20 x21 x22 y1 a39 x23 a40 a41 a42 a43 x24 x25 x26 x27 a18 f0 a27 f1 a36 f2 a37 f3 a38 f4 a35 g0) s.heap := g_psub hP [0, 1, 2, 3, 4, 5, 6] rfl
      have hD9 : va_D A (zS_13 cB cC cI cJ a0 a1 x0 x1 x2 x3 x4 x5 x6 x7 a2 a3 a4 a5 a6 a7 a8 a9 a10 a11 a12 a13 a14 a15 a16 x8 x9 x10 x11 x12 x13 a17 a18 a19 x14 a20 x15 a21 x16 x17 a22 a23 a24 a25 x18 a26 x19 a27 a28 a29 y0 a30 a31 a32 a33 a34 a35 a36 a37 a38 x20 x21 x22 y1 a39 x23 a40 a41 a42 a43 x24 x25 x26 x27 a18 f0 a27 f1 a36 f2 a37 f3 a38 f4 a35 g0) := hD.sub [0, 1, 2, 3, 4, 5, 6] (by decide) rfl
      have k9 := tI_0
      exact hret 0 ((fun _ => 0), (fun k => [f1].getD k (fun _ => 0)), (fun k => [g0].getD k (fun _ => 0)), (fun k => [x20, x21, x22].getD k 0), (fun _ => 0)) dX12_redo_8 ⟨(Or.inl tI_0), ⟨(show (0 ≤ (0 : Int32).toInt ∧ (0 : Int32).toInt ≤ 1) from (n_c tI_0 (by decide))), (show (0 ≤ (x20 : Int32).toInt ∧ (x20 : Int32).toInt ≤ 200) from h_x20), (show (0 ≤ (x21 : Int32).toInt ∧ (x21 : Int32).toInt ≤ 40) from h_x21), (show (0 ≤ (x22 : Int32).toInt ∧ (x22 : Int32).toInt ≤ 40) from h_x22), (show ((x21 : Int32).toInt ≤ (x20 : Int32).toInt) from hr_a0_0), (show ((x20 : Int32).toInt + (x22 : Int32).toInt ≤ 200) from hr_a0_1), (show x21.toInt + x22.toInt ≤ 40 from hg__ur), (show MOK f0 f1 f2 f3 f4 x10.toInt x9.toInt x20.toInt x22.toInt from hg_mk), (show reQ (0 : Int32).toInt x21.toInt x22.toInt x20.toInt x21.toInt x22.toInt x20.toInt from (by unfold reQ; (first | omega | (unfold zBd at *; omega))))⟩⟩ hP9 hD9 hS
theorem om_1733 {a b c d e f g h : Int} (h0 : ((d = 0 ∧ e < f) ∨ (d = 0 ∧ e ≥ f ∧ e > g) ∨ (d = 1 ∧ e ≥ f ∧ e ≤ g))) (h1 : (e = a)) (h2 : (f = 0)) (h3 : (h = b - 1)) (h4 : (g = h)) (h5 : (d = 0)) : (¬ (0 ≤ a ∧ a < b ∧ 0 ≤ c ∧ c ≤ 2)) := by omega
theorem om_1734 {a b : Int} (h0 : (0 ≤ b)) (h1 : (a ≤ 200)) : (a - b ≤ 2147483647) := by omega
theorem om_1735 {a b c d : Int} (h0 : (a = c - d)) (h1 : ((-2147483648) ≤ b)) (h2 : (d ≤ c)) : (-2147483648 ≤ a + b) := by omega
theorem om_1736 {a b c d e f g h i j : Int} (h0 : (¬ c = 0)) (h1 : (¬ d = 0)) (h2 : ((c = 0 ∧ e < f) ∨ (c = 0 ∧ e ≥ f ∧ e > g) ∨ (c = 1 ∧ e ≥ f ∧ e ≤ g))) (h3 : (a = h - i)) (h4 : (e = b)) (h5 : (j = i - 1)) (h6 : (h ≤ 200)) (h7 : (g = j)) : (a + b ≤ 2147483647) := by omega
theorem om_1737 {a : Int} (h0 : (¬ a = 1)) : (¬ a = 1) := by omega
theorem om_1738 {a : Int} (h0 : (a = 1)) : (¬ a = 2) := by omega
theorem om_1739 {a b c d e f g h i j : Int} (h0 : (¬ b = 0)) (h1 : (¬ c = 0)) (h2 : ((b = 0 ∧ d < e) ∨ (b = 0 ∧ d ≥ e ∧ d > f) ∨ (b = 1 ∧ d ≥ e ∧ d ≤ f))) (h3 : (a = g + h)) (h4 : (g = i - j)) (h5 : (d = h)) (h6 : (j ≤ i)) (h7 : (e = 0)) : (0 ≤ a) := by omega
theorem om_1740 {a b c d e f g h i j k : Int} (h0 : (¬ b = 0)) (h1 : (¬ c = 0)) (h2 : ((b = 0 ∧ d < e) ∨ (b = 0 ∧ d ≥ e ∧ d > f) ∨ (b = 1 ∧ d ≥ e ∧ d ≤ f))) (h3 : (a = g + h)) (h4 : (g = i - j)) (h5 : (d = h)) (h6 : (k = j - 1)) (h7 : (i ≤ 200)) (h8 : (f = k)) : (a < (200 : Nat)) := by omega
theorem om_1741 {a b c d e f g h i : Int} (h0 : (¬ d = 0)) (h1 : (¬ e = 0)) (h2 : ((d = 0 ∧ f < g) ∨ (d = 0 ∧ f ≥ g ∧ f > h) ∨ (d = 1 ∧ f ≥ g ∧ f ≤ h))) (h3 : (f = a)) (h4 : (g = 0)) (h5 : (i = b - 1)) (h6 : (h = i)) (h7 : (c = 0)) : (0 ≤ a ∧ a < b ∧ 0 ≤ c ∧ c ≤ 2) := by omega
theorem om_1742 {a : Int} (h0 : (a = 0)) : (¬ a = 1) := by omega
theorem om_1743 {a : Int} (h0 : (a = 0)) : (¬ a = 2) := by omega
theorem om_1744 {a b c d e f g : Int} (h0 : ((d = 0 ∧ e < f) ∨ (d = 0 ∧ e ≥ f ∧ e > g) ∨ (d = 1 ∧ e ≥ f ∧ e ≤ g))) (h1 : (e = c)) (h2 : (f = 0)) (h3 : (g = 2)) (h4 : (d = 0)) : (¬ (0 ≤ a ∧ a < b ∧ 0 ≤ c ∧ c ≤ 2)) := by omega
set_option maxHeartbeats 4000000 in
set_option maxRecDepth 100000 in
theorem k_X12_step (l : Launch) (D : va_G) (cB cC cI cJ : ClassId) (sz : Nat) (a0 a1 a2 a3 a4 a5 a6 a7 a8 a9 a10 a11 a12 a13 a14 a15 a16 a17 a18 a19 a20 a21 a22 a23 a24 a25 a26 a27 a28 a29 a30 a31 a32 a33 a34 a35 a36 a37 a38 a39 a40 a41 a42 a43 : Nat) (x0 x1 x2 x3 x4 x5 x6 x7 x8 x9 x10 x11 x12 x13 x14 x15 x16 x17 x18 x19 x20 x21 x22 x23 x24 x25 x26 x27 x28 x29 : Int32) (y0 y1 : Int64) (f0 f1 f2 : Nat → Int32) (h_x2 : zBd x2.toInt 0 1600) (h_x3 : zBd x3.toInt 0 1600) (h_x4 : zBd x4.toInt 0 1600) (h_x5 : zBd x5.toInt (-1) 1600) (h_x6 : zBd x6.toInt 0 4) (h_x7 : zBd x7.toInt (-1) 1600) (h_x10 : zBd x10.toInt 0 8) (h_x11 : zBd x11.toInt 0 5) (h_x12 : zBd x12.toInt 0 6) (h_x13 : zBd x13.toInt 0 6) (h_x14 : zBd x14.toInt 0 16) (h_x16 : zBd x16.toInt 0 60) (h_x17 : zBd x17.toInt 0 1600) (h_x18 : zBd x18.toInt 0 1700) (h_x20 : zBd x20.toInt 0 1700) (h_x21 : zBd x21.toInt 0 1700) (h_x22 : zBd x22.toInt 0 200) (h_x23 : zBd x23.toInt 0 40) (h_x24 : zBd x24.toInt 0 40) (h_x25 : zBd x25.toInt 0 1) (h_x26 : zBd x26.toInt 0 14) (h_x27 : zBd x27.toInt 0 200) (h_x28 : zBd x28.toInt 0 40) (h_x29 : zBd x29.toInt 0 40) (hr_a0_0 : (x23.toInt ≤ x22.toInt)) (hr_a0_1 : (x22.toInt + x24.toInt ≤ 200)) (hr_a0_2 : (x11.toInt = 0 ∨ 2 ≤ x10.toInt)) (hf_f0 : (∀ j, 0 ≤ (f0 j).toInt ∧ (f0 j).toInt ≤ 4)) (hf_f1 : (∀ j, 0 ≤ (f1 j).toInt ∧ (f1 j).toInt ≤ 4)) : Met l yX12_step (.code yX12_step cX12_step 4 (some .int) :: lw_gd) ({ frames := 1, cells := 0, slots := 0, locals := 25 }) (gPre D [(cB, .byte), (cC, .char), (cI, .int), (cJ, .long)] [.ref a0, .int x0, .int x1] (zS_108 cB cC cI cJ a0 a1 x2 x3 x4 x5 x6 x7 x8 x9 a2 a3 a4 a5 a6 a7 a8 a9 a10 a11 a12 a13 a14 a15 a16 x10 x11 x12 x13 x14 x15 a17 a18 a19 x16 a20 x17 a21 x18 x19 a22 a23 a24 a25 x20 a26 x21 a27 a28 a29 y0 a30 a31 a32 a33 a34 a35 a36 a37 a38 x22 x23 x24 y1 a39 x25 a40 a41 a42 a43 x26 x27 x28 x29 a36 f0 a37 f1 a38 f2) sz) (va_Qi (fun r u => (stP9 r.toInt x0.toInt x1.toInt x23.toInt ((f0 (x22.toInt - x23.toInt + x0.toInt).toNat).toInt) ((f1 (x22.toInt - x23.toInt + x0.toInt).toNat).toInt) ((f2 (x22.toInt - x23.toInt + x0.toInt).toNat).toInt))) (gB D (va_A (zS_108 cB cC cI cJ a0 a1 x2 x3 x4 x5 x6 x7 x8 x9 a2 a3 a4 a5 a6 a7 a8 a9 a10 a11 a12 a13 a14 a15 a16 x10 x11 x12 x13 x14 x15 a17 a18 a19 x16 a20 x17 a21 x18 x19 a22 a23 a24 a25 x20 a26 x21 a27 a28 a29 y0 a30 a31 a32 a33 a34 a35 a36 a37 a38 x22 x23 x24 y1 a39 x25 a40 a41 a42 a43 x26 x27 x28 x29 a36 f0 a37 f1 a38 f2) sz) (fun u : gEx => (zS_108 cB cC cI cJ a0 a1 x2 x3 x4 x5 x6 x7 x8 x9 a2 a3 a4 a5 a6 a7 a8 a9 a10 a11 a12 a13 a14 a15 a16 x10 x11 x12 x13 x14 x15 a17 a18 a19 x16 a20 x17 a21 x18 x19 a22 a23 a24 a25 x20 a26 x21 a27 a28 a29 y0 a30 a31 a32 a33 a34 a35 a36 a37 a38 x22 x23 x24 y1 a39 x25 a40 a41 a42 a43 x26 x27 x28 x29 a36 f0 a37 f1 a38 f2))) (va_A (zS_108 cB cC cI cJ a0 a1 x2 x3 x4 x5 x6 x7 x8 x9 a2 a3 a4 a5 a6 a7 a8 a9 a10 a11 a12 a13 a14 a15 a16 x10 x11 x12 x13 x14 x15 a17 a18 a19 x16 a20 x17 a21 x18 x19 a22 a23 a24 a25 x20 a26 x21 a27 a28 a29 y0 a30 a31 a32 a33 a34 a35 a36 a37 a38 x22 x23 x24 y1 a39 x25 a40 a41 a42 a43 x26 x27 x28 x29 a36 f0 a37 f1 a38 f2) sz)) 0 0 (va_A (zS_108 cB cC cI cJ a0 a1 x2 x3 x4 x5 x6 x7 x8 x9 a2 a3 a4 a5 a6 a7 a8 a9 a10 a11 a12 a13 a14 a15 a16 x10 x11 x12 x13 x14 x15 a17 a18 a19 x16 a20 x17 a21 x18 x19 a22 a23 a24 a25 x20 a26 x21 a27 a28 a29 y0 a30 a31 a32 a33 a34 a35 a36 a37 a38 x22 x23 x24 y1 a39 x25 a40 a41 a42 a43 x26 x27 x28 x29 a36 f0 a37 f1 a38 f2) sz) := by
  refine gOf_i (by decide +kernel) (Nat.le_of_ble_eq_true rfl) ?_
  intro p e s m args below meth c ls A Q hx hb hts hown hml hN hK hP hD hA hl hret
  replace hown : s.vm.findClass RX12 = some m.cls := hown
  have hS : va_S A s.heap s.heap [] := va_S.rf
  replace hP : va_P D gcl (zS_108 cB cC cI cJ a0 a1 x2 x3 x4 x5 x6 x7 x8 x9 a2 a3 a4 a5 a6 a7 a8 a9 a10 a11 a12 a13 a14 a15 a16 x10 x11 x12 x13 x14 x15 a17 a18 a19 x16 a20 x17 a21 x18 x19 a22 a23 a24 a25 x20 a26 x21 a27 a28 a29 y0 a30 a31 a32 a33 a34 a35 a36 a37 a38 x22 x23 x24 y1 a39 x25 a40 a41 a42 a43 x26 x27 x28 x29 a36 f0 a37 f1 a38 f2) s.heap := hP
  replace hl : lv_has ls 4 [(0, .ref a0), (1, .int x0), (2, .int x1)] := hl
  have rx0 : zBd x0.toInt (-2147483648) 2147483647 := n_rng x0
  have rx1 : zBd x1.toInt (-2147483648) 2147483647 := n_rng x1
  have rx8 : zBd x8.toInt (-2147483648) 2147483647 := n_rng x8
  have rx9 : zBd x9.toInt (-2147483648) 2147483647 := n_rng x9
  have rx15 : zBd x15.toInt (-2147483648) 2147483647 := n_rng x15
  have rx19 : zBd x19.toInt (-2147483648) 2147483647 := n_rng x19
  have ry0 := n_rngL y0
  have ry1 := n_rngL y1
  refine lv_iload_n (pc := 0) hx hb dX12_step_0 rfl (lv_at hl 1 rfl) ?_
  refine b_i2l (pc := 1) hx hb rfl dX12_step_1 (fun y_1 ey_1 => ?_)
  have ry_1 : zBd x0.toInt (-2147483648) 2147483647 := n_rng x0
  refine lv_lconst (pc := 2) (v := 0) hx hb dX12_step_2 (by decide) ?_
  refine lv_aload_n (pc := 3) hx hb dX12_step_3 rfl (lv_at hl 0 rfl) ?_
  refine va_get (pc := 4) (ci := 12) (v := .int x23) (C := RX12) (T := TX12) (N := 73) hx hb hts iX12 hown hK hP 0 rfl rfl 60 (by decide) (hts _ tw_1461) (fun _ h9 => h9) rfl dX12_step_4 ?_
  have bd_h_x23 : 0 ≤ x23.toInt ∧ x23.toInt ≤ 40 := h_x23
  refine lv_iconst (pc := 7) (v := 1) hx hb dX12_step_7 (by decide) ?_
  refine b_isub (pc := 8) hx hb rfl tI_1 (by first | exact (om_659 h_x23.1) | ((first | omega | (unfold zBd at *; omega)))) (by first | exact (om_1718 h_x23.2) | ((first | omega | (unfold zBd at *; omega)))) dX12_step_8 (fun x_2 ex_2 => ?_)
  refine b_i2l (pc := 9) hx hb rfl dX12_step_9 (fun y_3 ey_3 => ?_)
  have ry_3 : zBd x_2.toInt (-2147483648) 2147483647 := n_rng x_2
  refine gd_i (pc := 10) (wc := []) hP hD hS hA [] rfl (by decide +kernel) (fun _ => by rfl) (fun hPc hDc => va_runS (As := [.long y_1, .long 0, .long y_3]) (rest := []) ⟨hx, hb, hml, hown, hts⟩ (k_X12_isIn l D cB cC cI cJ _ y_1 0 y_3) ⟨gcwB hts tw_1666 tw_14 tw_1664 hd_yX12_isIn ⟨Nat.le_of_ble_eq_true rfl, Nat.le_of_ble_eq_true rfl⟩, hts _ tw_1665⟩ (gpreS hPc hK hDc hN) rfl rfl hl.1 rfl (lv_room (Nat.le_of_ble_eq_true rfl)) dX12_step_10 ⟨Nat.le_of_ble_eq_true rfl, Nat.le_of_ble_eq_true rfl⟩) (fun r_5 u_4 H locs hw_6 hP hD hS => ?_)
  replace hP : va_P D gcl (zS_108 cB cC cI cJ a0 a1 x2 x3 x4 x5 x6 x7 x8 x9 a2 a3 a4 a5 a6 a7 a8 a9 a10 a11 a12 a13 a14 a15 a16 x10 x11 x12 x13 x14 x15 a17 a18 a19 x16 a20 x17 a21 x18 x19 a22 a23 a24 a25 x20 a26 x21 a27 a28 a29 y0 a30 a31 a32 a33 a34 a35 a36 a37 a38 x22 x23 x24 y1 a39 x25 a40 a41 a42 a43 x26 x27 x28 x29 a36 f0 a37 f1 a38 f2) H := hP
  replace hD : va_D A (zS_108 cB cC cI cJ a0 a1 x2 x3 x4 x5 x6 x7 x8 x9 a2 a3 a4 a5 a6 a7 a8 a9 a10 a11 a12 a13 a14 a15 a16 x10 x11 x12 x13 x14 x15 a17 a18 a19 x16 a20 x17 a21 x18 x19 a22 a23 a24 a25 x20 a26 x21 a27 a28 a29 y0 a30 a31 a32 a33 a34 a35 a36 a37 a38 x22 x23 x24 y1 a39 x25 a40 a41 a42 a43 x26 x27 x28 x29 a36 f0 a37 f1 a38 f2) := hD
  have hw_7 : ((r_5.toInt = 0 ∧ y_1.toInt < (0 : Int64).toInt) ∨ (r_5.toInt = 0 ∧ y_1.toInt ≥ (0 : Int64).toInt ∧ y_1.toInt > y_3.toInt) ∨ (r_5.toInt = 1 ∧ y_1.toInt ≥ (0 : Int64).toInt ∧ y_1.toInt ≤ y_3.toInt)) := hw_6
  have kk0_r_5 := tL_0
  have rr_5 : zBd r_5.toInt (-2147483648) 2147483647 := n_rng r_5
  as_aux_lemma =>
    refine b_if_eq (pc := 13) (tgt := 28) hx hb rfl  dX12_step_13 (by decide) (fun c_8 => ?_) (fun c_8 => ?_)
    ·
      as_aux_lemma =>
        refine lv_ldcw (pc := 28) hx hb hown (hts _ tw_1783) dX12_step_28 ?_
        have hP9 : va_P D gcl (zS_108 cB cC cI cJ a0 a1 x2 x3 x4 x5 x6 x7 x8 x9 a2 a3 a4 a5 a6 a7 a8 a9 a10 a11 a12 a13 a14 a15 a16 x10 x11 x12 x13 x14 x15 a17 a18 a19 x16 a20 x17 a21 x18 x19 a22 a23 a24 a25 x20 a26 x21 a27 a28 a29 y0 a30 a31 a32 a33 a34 a35 a36 a37 a38 x22 x23 x24 y1 a39 x25 a40 a41 a42 a43 x26 x27 x28 x29 a36 f0 a37 f1 a38 f2) H := g_psub hP [0, 1, 2, 3] rfl
        have hD9 : va_D A (zS_108 cB cC cI cJ a0 a1 x2 x3 x4 x5 x6 x7 x8 x9 a2 a3 a4 a5 a6 a7 a8 a9 a10 a11 a12 a13 a14 a15 a16 x10 x11 x12 x13 x14 x15 a17 a18 a19 x16 a20 x17 a21 x18 x19 a22 a23 a24 a25 x20 a26 x21 a27 a28 a29 y0 a30 a31 a32 a33 a34 a35 a36 a37 a38 x22 x23 x24 y1 a39 x25 a40 a41 a42 a43 x26 x27 x28 x29 a36 f0 a37 f1 a38 f2) := hD.sub [0, 1, 2, 3] (by decide) rfl
        have k9 := tI_m1000000000
        exact hret (-1000000000) ((fun _ => 0), (fun _ => (fun _ => 0)), (fun _ => (fun _ => 0)), (fun _ => 0), (fun _ => 0)) dX12_step_31 (show stP9 ((-1000000000) : Int32).toInt x0.toInt x1.toInt x23.toInt ((f0 (x22.toInt - x23.toInt + x0.toInt).toNat).toInt) ((f1 (x22.toInt - x23.toInt + x0.toInt).toNat).toInt) ((f2 (x22.toInt - x23.toInt + x0.toInt).toNat).toInt) from st9_no (by first | exact (om_1733 hw_7 ey_1 tL_0 ex_2 ey_3 c_8) | ((first | omega | (unfold zBd at *; omega)))) (by first | exact (om_320 tI_m1000000000) | ((first | omega | (unfold zBd at *; omega))))) hP9 hD9 hS
    ·
      as_aux_lemma =>
        refine lv_iload_n (pc := 16) hx hb dX12_step_16 rfl (lv_at hl 2 rfl) ?_
        refine b_i2l (pc := 17) hx hb rfl dX12_step_17 (fun y_9 ey_9 => ?_)
        have ry_9 : zBd x1.toInt (-2147483648) 2147483647 := n_rng x1
        refine lv_lconst (pc := 18) (v := 0) hx hb dX12_step_18 (by decide) ?_
        refine lv_ldc2 (pc := 19) hx hb hown (hts _ tw_1934) dX12_step_19 ?_
        refine gd_i (pc := 22) (wc := []) hP hD hS hA [] rfl (by decide +kernel) (fun _ => by rfl) (fun hPc hDc => va_runS (As := [.long y_9, .long 0, .long 2]) (rest := []) ⟨hx, hb, hml, hown, hts⟩ (k_X12_isIn l D cB cC cI cJ _ y_9 0 2) ⟨gcwB hts tw_1666 tw_14 tw_1664 hd_yX12_isIn ⟨Nat.le_of_ble_eq_true rfl, Nat.le_of_ble_eq_true rfl⟩, hts _ tw_1665⟩ (gpreS hPc hK hDc hN) rfl rfl hl.1 rfl (lv_room (Nat.le_of_ble_eq_true rfl)) dX12_step_22 ⟨Nat.le_of_ble_eq_true rfl, Nat.le_of_ble_eq_true rfl⟩) (fun r_11 u_10 H locs hw_12 hP hD hS => ?_)
        replace hP : va_P D gcl (zS_108 cB cC cI cJ a0 a1 x2 x3 x4 x5 x6 x7 x8 x9 a2 a3 a4 a5 a6 a7 a8 a9 a10 a11 a12 a13 a14 a15 a16 x10 x11 x12 x13 x14 x15 a17 a18 a19 x16 a20 x17 a21 x18 x19 a22 a23 a24 a25 x20 a26 x21 a27 a28 a29 y0 a30 a31 a32 a33 a34 a35 a36 a37 a38 x22 x23 x24 y1 a39 x25 a40 a41 a42 a43 x26 x27 x28 x29 a36 f0 a37 f1 a38 f2) H := hP
        replace hD : va_D A (zS_108 cB cC cI cJ a0 a1 x2 x3 x4 x5 x6 x7 x8 x9 a2 a3 a4 a5 a6 a7 a8 a9 a10 a11 a12 a13 a14 a15 a16 x10 x11 x12 x13 x14 x15 a17 a18 a19 x16 a20 x17 a21 x18 x19 a22 a23 a24 a25 x20 a26 x21 a27 a28 a29 y0 a30 a31 a32 a33 a34 a35 a36 a37 a38 x22 x23 x24 y1 a39 x25 a40 a41 a42 a43 x26 x27 x28 x29 a36 f0 a37 f1 a38 f2) := hD
        have hw_13 : ((r_11.toInt = 0 ∧ y_9.toInt < (0 : Int64).toInt) ∨ (r_11.toInt = 0 ∧ y_9.toInt ≥ (0 : Int64).toInt ∧ y_9.toInt > (2 : Int64).toInt) ∨ (r_11.toInt = 1 ∧ y_9.toInt ≥ (0 : Int64).toInt ∧ y_9.toInt ≤ (2 : Int64).toInt)) := hw_12
        have kk0_r_11 := tL_0
        have kk1_r_11 := tL_2
        have rr_11 : zBd r_11.toInt (-2147483648) 2147483647 := n_rng r_11
        refine b_if_ne (pc := 25) (tgt := 32) hx hb rfl  dX12_step_25 (by decide) (fun c_14 => ?_) (fun c_14 => ?_)
        ·
          as_aux_lemma =>
            refine lv_aload_n (pc := 32) hx hb dX12_step_32 rfl (lv_at hl 0 rfl) ?_
            refine va_get (pc := 33) (ci := 12) (v := .int x22) (C := RX12) (T := TX12) (N := 73) hx hb hts iX12 hown hK hP 0 rfl rfl 59 (by decide) (hts _ tw_1460) (fun _ h9 => h9) rfl dX12_step_33 ?_
            have bd_h_x22 : 0 ≤ x22.toInt ∧ x22.toInt ≤ 200 := h_x22
            refine lv_aload_n (pc := 36) hx hb dX12_step_36 rfl (lv_at hl 0 rfl) ?_
            refine va_get (pc := 37) (ci := 12) (v := .int x23) (C := RX12) (T := TX12) (N := 73) hx hb hts iX12 hown hK hP 0 rfl rfl 60 (by decide) (hts _ tw_1461) (fun _ h9 => h9) rfl dX12_step_37 ?_
            refine b_isub (pc := 40) hx hb rfl rfl (by first | exact (om_477 hr_a0_0) | ((first | omega | (unfold zBd at *; omega)))) (by first | exact (om_1734 h_x23.1 h_x22.2) | ((first | omega | (unfold zBd at *; omega)))) dX12_step_40 (fun x_15 ex_15 => ?_)
            refine lv_iload_n (pc := 41) hx hb dX12_step_41 rfl (lv_at hl 1 rfl) ?_
            refine b_iadd (pc := 42) hx hb rfl rfl (by first | exact (om_1735 ex_15 ry_1.1 hr_a0_0) | ((first | omega | (unfold zBd at *; omega)))) (by first | exact (om_1736 c_8 c_14 hw_7 ex_15 ey_1 ex_2 h_x22.2 ey_3) | ((first | omega | (unfold zBd at *; omega)))) dX12_step_42 (fun x_16 ex_16 => ?_)
            refine lv_istore_n (pc := 43) (lv' := [(3, .int x_16), (0, .ref a0), (1, .int x0), (2, .int x1)]) hx hb dX12_step_43 rfl hl (by decide) rfl (fun ls hl => ?_)
            refine lv_iload_n (pc := 44) hx hb dX12_step_44 rfl (lv_at hl 3 rfl) ?_
            refine b_if_ne (pc := 45) (tgt := 57) hx hb rfl  dX12_step_45 (by decide) (fun c_17 => ?_) (fun c_17 => ?_)
            ·
              as_aux_lemma =>
                refine lv_iload_n (pc := 57) hx hb dX12_step_57 rfl (lv_at hl 3 rfl) ?_
                refine lv_iconst (pc := 58) (v := 1) hx hb dX12_step_58 (by decide) ?_
                refine b_icmp_ne (pc := 59) (tgt := 71) hx hb rfl tI_1  dX12_step_59 (by decide) (fun c_18 => ?_) (fun c_18 => ?_)
                ·
                  as_aux_lemma =>
                    refine lv_aload_n (pc := 71) hx hb dX12_step_71 rfl (lv_at hl 1 rfl) ?_
                    refine va_get (pc := 72) (ci := 12) (v := .ref a38) (C := RX12) (T := TX12) (N := 73) hx hb hts iX12 hown hK hP 0 rfl rfl 58 (by decide) (hts _ tw_1459) (fun _ h9 => h9) rfl dX12_step_72 ?_
                    refine lv_iload_n (pc := 75) hx hb dX12_step_75 rfl (lv_at hl 0 rfl) ?_
                    refine va_iald (pc := 76) hx hb hK hP 3 2 rfl rfl (n_in rfl (by (first | omega | (unfold zBd at *; omega))) (by (first | omega | (unfold zBd at *; omega)))) dX12_step_76 ?_
                    refine lv_topi (fun x_19 ex_19 => ?_)
                    have rx_19 : zBd x_19.toInt (-2147483648) 2147483647 := n_rng x_19
                    replace ex_19 : x_19 = f2 (x_16.toInt).toNat := ex_19
                    have tx_19 := congrArg Int32.toInt ex_19
                    have hP9 : va_P D gcl (zS_108 cB cC cI cJ a0 a1 x2 x3 x4 x5 x6 x7 x8 x9 a2 a3 a4 a5 a6 a7 a8 a9 a10 a11 a12 a13 a14 a15 a16 x10 x11 x12 x13 x14 x15 a17 a18 a19 x16 a20 x17 a21 x18 x19 a22 a23 a24 a25 x20 a26 x21 a27 a28 a29 y0 a30 a31 a32 a33 a34 a35 a36 a37 a38 x22 x23 x24 y1 a39 x25 a40 a41 a42 a43 x26 x27 x28 x29 a36 f0 a37 f1 a38 f2) H := g_psub hP [0, 1, 2, 3] rfl
                    have hD9 : va_D A (zS_108 cB cC cI cJ a0 a1 x2 x3 x4 x5 x6 x7 x8 x9 a2 a3 a4 a5 a6 a7 a8 a9 a10 a11 a12 a13 a14 a15 a16 x10 x11 x12 x13 x14 x15 a17 a18 a19 x16 a20 x17 a21 x18 x19 a22 a23 a24 a25 x20 a26 x21 a27 a28 a29 y0 a30 a31 a32 a33 a34 a35 a36 a37 a38 x22 x23 x24 y1 a39 x25 a40 a41 a42 a43 x26 x27 x28 x29 a36 f0 a37 f1 a38 f2) := hD.sub [0, 1, 2, 3] (by decide) rfl
                    exact hret x_19 ((fun _ => 0), (fun _ => (fun _ => 0)), (fun _ => (fun _ => 0)), (fun _ => 0), (fun _ => 0)) dX12_step_77 (show stP9 x_19.toInt x0.toInt x1.toInt x23.toInt ((f0 (x22.toInt - x23.toInt + x0.toInt).toNat).toInt) ((f1 (x22.toInt - x23.toInt + x0.toInt).toNat).toInt) ((f2 (x22.toInt - x23.toInt + x0.toInt).toNat).toInt) from st9_yes (by (first | omega | (unfold zBd at *; omega))) ⟨fun h => absurd h (by first | exact (om_34 c_17) | ((first | omega | (unfold zBd at *; omega)))), fun h => absurd h (by first | exact (om_1737 c_18) | ((first | omega | (unfold zBd at *; omega)))), fun _ => congrArg Int32.toInt (e_ld ex_19 (show _ = x22.toInt - x23.toInt + x0.toInt by (first | omega | (unfold zBd at *; omega)))).symm⟩) hP9 hD9 hS
                ·
                  as_aux_lemma =>
                    refine lv_aload_n (pc := 62) hx hb dX12_step_62 rfl (lv_at hl 1 rfl) ?_
                    refine va_get (pc := 63) (ci := 12) (v := .ref a37) (C := RX12) (T := TX12) (N := 73) hx hb hts iX12 hown hK hP 0 rfl rfl 57 (by decide) (hts _ tw_1458) (fun _ h9 => h9) rfl dX12_step_63 ?_
                    refine lv_iload_n (pc := 66) hx hb dX12_step_66 rfl (lv_at hl 0 rfl) ?_
                    refine va_iald (pc := 67) hx hb hK hP 2 2 rfl rfl (n_in rfl (by (first | omega | (unfold zBd at *; omega))) (by (first | omega | (unfold zBd at *; omega)))) dX12_step_67 ?_
                    refine lv_topi (fun x_20 ex_20 => ?_)
                    have rx_20 : (0 ≤ x_20.toInt ∧ x_20.toInt ≤ 4) := by rw [ex_20]; exact hf_f1 _
                    replace ex_20 : x_20 = f1 (x_16.toInt).toNat := ex_20
                    have tx_20 := congrArg Int32.toInt ex_20
                    refine lv_goto (pc := 68) (tgt := 77) hx hb dX12_step_68 (by decide) ?_
                    have hP9 : va_P D gcl (zS_108 cB cC cI cJ a0 a1 x2 x3 x4 x5 x6 x7 x8 x9 a2 a3 a4 a5 a6 a7 a8 a9 a10 a11 a12 a13 a14 a15 a16 x10 x11 x12 x13 x14 x15 a17 a18 a19 x16 a20 x17 a21 x18 x19 a22 a23 a24 a25 x20 a26 x21 a27 a28 a29 y0 a30 a31 a32 a33 a34 a35 a36 a37 a38 x22 x23 x24 y1 a39 x25 a40 a41 a42 a43 x26 x27 x28 x29 a36 f0 a37 f1 a38 f2) H := g_psub hP [0, 1, 2, 3] rfl
                    have hD9 : va_D A (zS_108 cB cC cI cJ a0 a1 x2 x3 x4 x5 x6 x7 x8 x9 a2 a3 a4 a5 a6 a7 a8 a9 a10 a11 a12 a13 a14 a15 a16 x10 x11 x12 x13 x14 x15 a17 a18 a19 x16 a20 x17 a21 x18 x19 a22 a23 a24 a25 x20 a26 x21 a27 a28 a29 y0 a30 a31 a32 a33 a34 a35 a36 a37 a38 x22 x23 x24 y1 a39 x25 a40 a41 a42 a43 x26 x27 x28 x29 a36 f0 a37 f1 a38 f2) := hD.sub [0, 1, 2, 3] (by decide) rfl
                    exact hret x_20 ((fun _ => 0), (fun _ => (fun _ => 0)), (fun _ => (fun _ => 0)), (fun _ => 0), (fun _ => 0)) dX12_step_77 (show stP9 x_20.toInt x0.toInt x1.toInt x23.toInt ((f0 (x22.toInt - x23.toInt + x0.toInt).toNat).toInt) ((f1 (x22.toInt - x23.toInt + x0.toInt).toNat).toInt) ((f2 (x22.toInt - x23.toInt + x0.toInt).toNat).toInt) from st9_yes (by (first | omega | (unfold zBd at *; omega))) ⟨fun h => absurd h (by first | exact (om_36 c_18) | ((first | omega | (unfold zBd at *; omega)))), fun _ => congrArg Int32.toInt (e_ld ex_20 (show _ = x22.toInt - x23.toInt + x0.toInt by (first | omega | (unfold zBd at *; omega)))).symm, fun h => absurd h (by first | exact (om_1738 c_18) | ((first | omega | (unfold zBd at *; omega))))⟩) hP9 hD9 hS
            ·
              as_aux_lemma =>
                refine lv_aload_n (pc := 48) hx hb dX12_step_48 rfl (lv_at hl 1 rfl) ?_
                refine va_get (pc := 49) (ci := 12) (v := .ref a36) (C := RX12) (T := TX12) (N := 73) hx hb hts iX12 hown hK hP 0 rfl rfl 56 (by decide) (hts _ tw_1457) (fun _ h9 => h9) rfl dX12_step_49 ?_
                refine lv_iload_n (pc := 52) hx hb dX12_step_52 rfl (lv_at hl 0 rfl) ?_
                refine va_iald (pc := 53) hx hb hK hP 1 2 rfl rfl (n_in rfl (by first | exact (om_1739 c_8 c_14 hw_7 ex_16 ex_15 ey_1 hr_a0_0 tL_0) | ((first | omega | (unfold zBd at *; omega)))) (by first | exact (om_1740 c_8 c_14 hw_7 ex_16 ex_15 ey_1 ex_2 h_x22.2 ey_3) | ((first | omega | (unfold zBd at *; omega))))) dX12_step_53 ?_
                refine lv_topi (fun x_21 ex_21 => ?_)
                have rx_21 : (0 ≤ x_21.toInt ∧ x_21.toInt ≤ 4) := by rw [ex_21]; exact hf_f0 _
                replace ex_21 : x_21 = f0 (x_16.toInt).toNat := ex_21
                have tx_21 := congrArg Int32.toInt ex_21
                refine lv_goto (pc := 54) (tgt := 77) hx hb dX12_step_54 (by decide) ?_
                have hP9 : va_P D gcl (zS_108 cB cC cI cJ a0 a1 x2 x3 x4 x5 x6 x7 x8 x9 a2 a3 a4 a5 a6 a7 a8 a9 a10 a11 a12 a13 a14 a15 a16 x10 x11 x12 x13 x14 x15 a17 a18 a19 x16 a20 x17 a21 x18 x19 a22 a23 a24 a25 x20 a26 x21 a27 a28 a29 y0 a30 a31 a32 a33 a34 a35 a36 a37 a38 x22 x23 x24 y1 a39 x25 a40 a41 a42 a43 x26 x27 x28 x29 a36 f0 a37 f1 a38 f2) H := g_psub hP [0, 1, 2, 3] rfl
                have hD9 : va_D A (zS_108 cB cC cI cJ a0 a1 x2 x3 x4 x5 x6 x7 x8 x9 a2 a3 a4 a5 a6 a7 a8 a9 a10 a11 a12 a13 a14 a15 a16 x10 x11 x12 x13 x14 x15 a17 a18 a19 x16 a20 x17 a21 x18 x19 a22 a23 a24 a25 x20 a26 x21 a27 a28 a29 y0 a30 a31 a32 a33 a34 a35 a36 a37 a38 x22 x23 x24 y1 a39 x25 a40 a41 a42 a43 x26 x27 x28 x29 a36 f0 a37 f1 a38 f2) := hD.sub [0, 1, 2, 3] (by decide) rfl
                exact hret x_21 ((fun _ => 0), (fun _ => (fun _ => 0)), (fun _ => (fun _ => 0)), (fun _ => 0), (fun _ => 0)) dX12_step_77 (show stP9 x_21.toInt x0.toInt x1.toInt x23.toInt ((f0 (x22.toInt - x23.toInt + x0.toInt).toNat).toInt) ((f1 (x22.toInt - x23.toInt + x0.toInt).toNat).toInt) ((f2 (x22.toInt - x23.toInt + x0.toInt).toNat).toInt) from st9_yes (by first | exact (om_1741 c_8 c_14 hw_7 ey_1 tL_0 ex_2 ey_3 c_17) | ((first | omega | (unfold zBd at *; omega)))) ⟨fun _ => congrArg Int32.toInt (e_ld ex_21 (show _ = x22.toInt - x23.toInt + x0.toInt by (first | omega | (unfold zBd at *; omega)))).symm, fun h => absurd h (by first | exact (om_1742 c_17) | ((first | omega | (unfold zBd at *; omega)))), fun h => absurd h (by first | exact (om_1743 c_17) | ((first | omega | (unfold zBd at *; omega))))⟩) hP9 hD9 hS
        ·
          as_aux_lemma =>
            refine lv_ldcw (pc := 28) hx hb hown (hts _ tw_1783) dX12_step_28 ?_
            have hP9 : va_P D gcl (zS_108 cB cC cI cJ a0 a1 x2 x3 x4 x5 x6 x7 x8 x9 a2 a3 a4 a5 a6 a7 a8 a9 a10 a11 a12 a13 a14 a15 a16 x10 x11 x12 x13 x14 x15 a17 a18 a19 x16 a20 x17 a21 x18 x19 a22 a23 a24 a25 x20 a26 x21 a27 a28 a29 y0 a30 a31 a32 a33 a34 a35 a36 a37 a38 x22 x23 x24 y1 a39 x25 a40 a41 a42 a43 x26 x27 x28 x29 a36 f0 a37 f1 a38 f2) H := g_psub hP [0, 1, 2, 3] rfl
            have hD9 : va_D A (zS_108 cB cC cI cJ a0 a1 x2 x3 x4 x5 x6 x7 x8 x9 a2 a3 a4 a5 a6 a7 a8 a9 a10 a11 a12 a13 a14 a15 a16 x10 x11 x12 x13 x14 x15 a17 a18 a19 x16 a20 x17 a21 x18 x19 a22 a23 a24 a25 x20 a26 x21 a27 a28 a29 y0 a30 a31 a32 a33 a34 a35 a36 a37 a38 x22 x23 x24 y1 a39 x25 a40 a41 a42 a43 x26 x27 x28 x29 a36 f0 a37 f1 a38 f2) := hD.sub [0, 1, 2, 3] (by decide) rfl
            have k9 := tI_m1000000000
            exact hret (-1000000000) ((fun _ => 0), (fun _ => (fun _ => 0)), (fun _ => (fun _ => 0)), (fun _ => 0), (fun _ => 0)) dX12_step_31 (show stP9 ((-1000000000) : Int32).toInt x0.toInt x1.toInt x23.toInt ((f0 (x22.toInt - x23.toInt + x0.toInt).toNat).toInt) ((f1 (x22.toInt - x23.toInt + x0.toInt).toNat).toInt) ((f2 (x22.toInt - x23.toInt + x0.toInt).toNat).toInt) from st9_no (by first | exact (om_1744 hw_13 ey_9 tL_0 tL_2 c_14) | ((first | omega | (unfold zBd at *; omega)))) (by first | exact (om_320 tI_m1000000000) | ((first | omega | (unfold zBd at *; omega))))) hP9 hD9 hS
theorem om_1745 {a b c : Int} (h0 : (¬ b = 0)) (h1 : (0 ≤ b)) (h2 : (a ≤ c - 1 + 4294967296 - 4294967296 * b)) (h3 : (c ≤ 5)) : (5 * a ≤ 2147483647) := by omega
theorem om_1746 {a b c d e f g : Int} (h0 : (¬ c = 0)) (h1 : (d = 0 ∨ 2 ≤ e)) (h2 : (¬ f = 0)) (h3 : (0 ≤ f)) (h4 : (0 ≤ c)) (h5 : (-g ≤ 4294967296 - 4294967296 * f)) (h6 : (g ≤ d - 1 + 4294967296 - 4294967296 * f)) (h7 : (a = 5 * g)) (h8 : (b ≤ d - 1 + 4294967296 - 4294967296 * c)) (h9 : (d ≤ 5)) : (a + b ≤ 2147483647) := by omega
theorem om_1747 {a b c d e f g h : Int} (h0 : (¬ b = 0)) (h1 : (c = 0 ∨ 2 ≤ d)) (h2 : (¬ e = 0)) (h3 : (0 ≤ e)) (h4 : (0 ≤ b)) (h5 : (-f ≤ 4294967296 - 4294967296 * e)) (h6 : (f ≤ c - 1 + 4294967296 - 4294967296 * e)) (h7 : (a = g + h)) (h8 : (g = 5 * f)) (h9 : (-h ≤ 4294967296 - 4294967296 * b)) : (0 ≤ a) := by omega
theorem om_1748 {a b c d e f g h : Int} (h0 : (¬ b = 0)) (h1 : (c = 0 ∨ 2 ≤ d)) (h2 : (¬ e = 0)) (h3 : (0 ≤ e)) (h4 : (0 ≤ b)) (h5 : (-f ≤ 4294967296 - 4294967296 * e)) (h6 : (f ≤ c - 1 + 4294967296 - 4294967296 * e)) (h7 : (a = g + h)) (h8 : (g = 5 * f)) (h9 : (h ≤ c - 1 + 4294967296 - 4294967296 * b)) (h10 : (c ≤ 5)) : (a < (25 : Nat)) := by omega
set_option maxHeartbeats 4000000 in
set_option maxRecDepth 100000 in
theorem k_X12_leader (l : Launch) (D : va_G) (cB cC cI cJ : ClassId) (sz : Nat) (a0 a1 a2 a3 a4 a5 a6 a7 a8 a9 a10 a11 a12 a13 a14 a15 a16 a17 a18 a19 a20 a21 a22 a23 a24 a25 a26 a27 a28 a29 a30 a31 a32 a33 a34 a35 a36 a37 a38 a39 a40 a41 a42 a43 : Nat) (x0 x1 x2 x3 x4 x5 x6 x7 x8 x9 x10 x11 x12 x13 x14 x15 x16 x17 x18 x19 x20 x21 x22 x23 x24 x25 x26 x27 x28 x29 : Int32) (y0 y1 : Int64) (g0 : Nat → Int64) (h_x2 : zBd x2.toInt 0 1600) (h_x3 : zBd x3.toInt 0 1600) (h_x4 : zBd x4.toInt 0 1600) (h_x5 : zBd x5.toInt (-1) 1600) (h_x6 : zBd x6.toInt 0 4) (h_x7 : zBd x7.toInt (-1) 1600) (h_x10 : zBd x10.toInt 0 8) (h_x11 : zBd x11.toInt 0 5) (h_x12 : zBd x12.toInt 0 6) (h_x13 : zBd x13.toInt 0 6) (h_x14 : zBd x14.toInt 0 16) (h_x16 : zBd x16.toInt 0 60) (h_x17 : zBd x17.toInt 0 1600) (h_x18 : zBd x18.toInt 0 1700) (h_x20 : zBd x20.toInt 0 1700) (h_x21 : zBd x21.toInt 0 1700) (h_x22 : zBd x22.toInt 0 200) (h_x23 : zBd x23.toInt 0 40) (h_x24 : zBd x24.toInt 0 40) (h_x25 : zBd x25.toInt 0 1) (h_x26 : zBd x26.toInt 0 14) (h_x27 : zBd x27.toInt 0 200) (h_x28 : zBd x28.toInt 0 40) (h_x29 : zBd x29.toInt 0 40) (hr_a0_0 : (x23.toInt ≤ x22.toInt)) (hr_a0_1 : (x22.toInt + x24.toInt ≤ 200)) (hr_a0_2 : (x11.toInt = 0 ∨ 2 ≤ x10.toInt)) : Met l yX12_leader (.code yX12_leader cX12_leader 3 (some .long) :: lw_gd) ({ frames := 2, cells := 0, slots := 0, locals := 46 }) (gPre D [(cB, .byte), (cC, .char), (cI, .int), (cJ, .long)] [.ref a0, .int x0, .int x1] (zS_128 cB cC cI cJ a0 a1 x2 x3 x4 x5 x6 x7 x8 x9 a2 a3 a4 a5 a6 a7 a8 a9 a10 a11 a12 a13 a14 a15 a16 x10 x11 x12 x13 x14 x15 a17 a18 a19 x16 a20 x17 a21 x18 x19 a22 a23 a24 a25 x20 a26 x21 a27 a28 a29 y0 a30 a31 a32 a33 a34 a35 a36 a37 a38 x22 x23 x24 y1 a39 x25 a40 a41 a42 a43 x26 x27 x28 x29 a35 g0) sz) (va_Ql (fun r u => ((r.toInt = (-1000000000)) ∨ (((-9223372036854775808) ≤ r.toInt ∧ r.toInt ≤ 9223372036854775807)))) (gB D (va_A (zS_128 cB cC cI cJ a0 a1 x2 x3 x4 x5 x6 x7 x8 x9 a2 a3 a4 a5 a6 a7 a8 a9 a10 a11 a12 a13 a14 a15 a16 x10 x11 x12 x13 x14 x15 a17 a18 a19 x16 a20 x17 a21 x18 x19 a22 a23 a24 a25 x20 a26 x21 a27 a28 a29 y0 a30 a31 a32 a33 a34 a35 a36 a37 a38 x22 x23 x24 y1 a39 x25 a40 a41 a42 a43 x26 x27 x28 x29 a35 g0) sz) (fun u : gEx => (zS_128 cB cC cI cJ a0 a1 x2 x3 x4 x5 x6 x7 x8 x9 a2 a3 a4 a5 a6 a7 a8 a9 a10 a11 a12 a13 a14 a15 a16 x10 x11 x12 x13 x14 x15 a17 a18 a19 x16 a20 x17 a21 x18 x19 a22 a23 a24 a25 x20 a26 x21 a27 a28 a29 y0 a30 a31 a32 a33 a34 a35 a36 a37 a38 x22 x23 x24 y1 a39 x25 a40 a41 a42 a43 x26 x27 x28 x29 a35 g0))) (va_A (zS_128 cB cC cI cJ a0 a1 x2 x3 x4 x5 x6 x7 x8 x9 a2 a3 a4 a5 a6 a7 a8 a9 a10 a11 a12 a13 a14 a15 a16 x10 x11 x12 x13 x14 x15 a17 a18 a19 x16 a20 x17 a21 x18 x19 a22 a23 a24 a25 x20 a26 x21 a27 a28 a29 y0 a30 a31 a32 a33 a34 a35 a36 a37 a38 x22 x23 x24 y1 a39 x25 a40 a41 a42 a43 x26 x27 x28 x29 a35 g0) sz)) 0 0 (va_A (zS_128 cB cC cI cJ a0 a1 x2 x3 x4 x5 x6 x7 x8 x9 a2 a3 a4 a5 a6 a7 a8 a9 a10 a11 a12 a13 a14 a15 a16 x10 x11 x12 x13 x14 x15 a17 a18 a19 x16 a20 x17 a21 x18 x19 a22 a23 a24 a25 x20 a26 x21 a27 a28 a29 y0 a30 a31 a32 a33 a34 a35 a36 a37 a38 x22 x23 x24 y1 a39 x25 a40 a41 a42 a43 x26 x27 x28 x29 a35 g0) sz) := by
  refine gOf_l (by decide +kernel) (Nat.le_of_ble_eq_true rfl) ?_
  intro p e s m args below meth c ls A Q hx hb hts hown hml hN hK hP hD hA hl hret
  replace hown : s.vm.findClass RX12 = some m.cls := hown
  have hS : va_S A s.heap s.heap [] := va_S.rf
  replace hP : va_P D gcl (zS_128 cB cC cI cJ a0 a1 x2 x3 x4 x5 x6 x7 x8 x9 a2 a3 a4 a5 a6 a7 a8 a9 a10 a11 a12 a13 a14 a15 a16 x10 x11 x12 x13 x14 x15 a17 a18 a19 x16 a20 x17 a21 x18 x19 a22 a23 a24 a25 x20 a26 x21 a27 a28 a29 y0 a30 a31 a32 a33 a34 a35 a36 a37 a38 x22 x23 x24 y1 a39 x25 a40 a41 a42 a43 x26 x27 x28 x29 a35 g0) s.heap := hP
  replace hl : lv_has ls 3 [(0, .ref a0), (1, .int x0), (2, .int x1)] := hl
  have rx0 : zBd x0.toInt (-2147483648) 2147483647 := n_rng x0
  have rx1 : zBd x1.toInt (-2147483648) 2147483647 := n_rng x1
  have rx8 : zBd x8.toInt (-2147483648) 2147483647 := n_rng x8
  have rx9 : zBd x9.toInt (-2147483648) 2147483647 := n_rng x9
  have rx15 : zBd x15.toInt (-2147483648) 2147483647 := n_rng x15
  have rx19 : zBd x19.toInt (-2147483648) 2147483647 := n_rng x19
  have ry0 := n_rngL y0
  have ry1 := n_rngL y1
  refine lv_aload_n (pc := 0) hx hb dX12_leader_0 rfl (lv_at hl 0 rfl) ?_
  refine lv_iload_n (pc := 1) hx hb dX12_leader_1 rfl (lv_at hl 1 rfl) ?_
  refine gd_i (pc := 2) (wc := (zS_4 cB cC cI cJ a0 a1 x2 x3 x4 x5 x6 x7 x8 x9 a2 a3 a4 a5 a6 a7 a8 a9 a10 a11 a12 a13 a14 a15 a16 x10 x11 x12 x13 x14 x15 a17 a18 a19 x16 a20 x17 a21 x18 x19 a22 a23 a24 a25 x20 a26 x21 a27 a28 a29 y0 a30 a31 a32 a33 a34 a35 a36 a37 a38 x22 x23 x24 y1 a39 x25 a40 a41 a42 a43 x26 x27 x28 x29)) hP hD hS hA [0] rfl (by decide +kernel) (fun _ => by rfl) (fun hPc hDc => va_runV (As := [.int x0]) (rest := []) ⟨hx, hb, hml, hown, hts⟩ (k_X12_isSender l D cB cC cI cJ _ a0 a1 a2 a3 a4 a5 a6 a7 a8 a9 a10 a11 a12 a13 a14 a15 a16 a17 a18 a19 a20 a21 a22 a23 a24 a25 a26 a27 a28 a29 a30 a31 a32 a33 a34 a35 a36 a37 a38 a39 a40 a41 a42 a43 x0 x2 x3 x4 x5 x6 x7 x8 x9 x10 x11 x12 x13 x14 x15 x16 x17 x18 x19 x20 x21 x22 x23 x24 x25 x26 x27 x28 x29 y0 y1 h_x2 h_x3 h_x4 h_x5 h_x6 h_x7 h_x10 h_x11 h_x12 h_x13 h_x14 h_x16 h_x17 h_x18 h_x20 h_x21 h_x22 h_x23 h_x24 h_x25 h_x26 h_x27 h_x28 h_x29 hr_a0_0 hr_a0_1 hr_a0_2) ⟨gcwB hts tw_1782 tw_14 tw_1779 hd_yX12_isSender ⟨Nat.le_of_ble_eq_true rfl, Nat.le_of_ble_eq_true rfl⟩, hts _ tw_1781, hts _ tp_90⟩ ⟨gblind, va_recv hK hPc (ci := 12) (q0 := 0) rfl rfl, (gpreS hPc hK hDc hN).2⟩ rfl rfl hl.1 rfl (lv_room (Nat.le_of_ble_eq_true rfl)) dX12_leader_2 ⟨Nat.le_of_ble_eq_true rfl, Nat.le_of_ble_eq_true rfl⟩) (fun r_2 u_1 H locs hw_3 hP hD hS => ?_)
  replace hP : va_P D gcl (zS_128 cB cC cI cJ a0 a1 x2 x3 x4 x5 x6 x7 x8 x9 a2 a3 a4 a5 a6 a7 a8 a9 a10 a11 a12 a13 a14 a15 a16 x10 x11 x12 x13 x14 x15 a17 a18 a19 x16 a20 x17 a21 x18 x19 a22 a23 a24 a25 x20 a26 x21 a27 a28 a29 y0 a30 a31 a32 a33 a34 a35 a36 a37 a38 x22 x23 x24 y1 a39 x25 a40 a41 a42 a43 x26 x27 x28 x29 a35 g0) H := hP
  replace hD : va_D A (zS_128 cB cC cI cJ a0 a1 x2 x3 x4 x5 x6 x7 x8 x9 a2 a3 a4 a5 a6 a7 a8 a9 a10 a11 a12 a13 a14 a15 a16 x10 x11 x12 x13 x14 x15 a17 a18 a19 x16 a20 x17 a21 x18 x19 a22 a23 a24 a25 x20 a26 x21 a27 a28 a29 y0 a30 a31 a32 a33 a34 a35 a36 a37 a38 x22 x23 x24 y1 a39 x25 a40 a41 a42 a43 x26 x27 x28 x29 a35 g0) := hD
  obtain ⟨hw_4, hw_5, hw_6⟩ := hw_3
  replace hw_4 : (0 ≤ r_2.toInt ∧ r_2.toInt ≤ 1) := hw_4
  replace hw_5 : (-x0.toInt ≤ 4294967296 - 4294967296 * r_2.toInt ∧ x0.toInt ≤ x11.toInt - 1 + 4294967296 - 4294967296 * r_2.toInt) := hw_5
  replace hw_6 : (inQ r_2.toInt x0.toInt x11.toInt) := hw_6
  have rr_2 : zBd r_2.toInt (-2147483648) 2147483647 := n_rng r_2
  refine b_if_eq (pc := 5) (tgt := 29) hx hb rfl  dX12_leader_5 (by decide) (fun c_7 => ?_) (fun c_7 => ?_)
  ·
    as_aux_lemma =>
      refine lv_ldc2 (pc := 29) hx hb hown (hts _ tw_1955) dX12_leader_29 ?_
      have hP9 : va_P D gcl (zS_128 cB cC cI cJ a0 a1 x2 x3 x4 x5 x6 x7 x8 x9 a2 a3 a4 a5 a6 a7 a8 a9 a10 a11 a12 a13 a14 a15 a16 x10 x11 x12 x13 x14 x15 a17 a18 a19 x16 a20 x17 a21 x18 x19 a22 a23 a24 a25 x20 a26 x21 a27 a28 a29 y0 a30 a31 a32 a33 a34 a35 a36 a37 a38 x22 x23 x24 y1 a39 x25 a40 a41 a42 a43 x26 x27 x28 x29 a35 g0) H := g_psub hP [0, 1] rfl
      have hD9 : va_D A (zS_128 cB cC cI cJ a0 a1 x2 x3 x4 x5 x6 x7 x8 x9 a2 a3 a4 a5 a6 a7 a8 a9 a10 a11 a12 a13 a14 a15 a16 x10 x11 x12 x13 x14 x15 a17 a18 a19 x16 a20 x17 a21 x18 x19 a22 a23 a24 a25 x20 a26 x21 a27 a28 a29 y0 a30 a31 a32 a33 a34 a35 a36 a37 a38 x22 x23 x24 y1 a39 x25 a40 a41 a42 a43 x26 x27 x28 x29 a35 g0) := hD.sub [0, 1] (by decide) rfl
      exact hret (-1000000000) ((fun _ => 0), (fun _ => (fun _ => 0)), (fun _ => (fun _ => 0)), (fun _ => 0), (fun _ => 0)) dX12_leader_32 (show ((((-1000000000) : Int64).toInt = (-1000000000)) ∨ (((-9223372036854775808) ≤ ((-1000000000) : Int64).toInt ∧ ((-1000000000) : Int64).toInt ≤ 9223372036854775807))) from (by first | exact (om_1383 tL_m1000000000) | (have k9 := tL_m1000000000; (first | omega | (unfold zBd at *; omega))))) hP9 hD9 hS
  ·
    as_aux_lemma =>
      refine lv_aload_n (pc := 8) hx hb dX12_leader_8 rfl (lv_at hl 0 rfl) ?_
      refine lv_iload_n (pc := 9) hx hb dX12_leader_9 rfl (lv_at hl 2 rfl) ?_
      refine gd_i (pc := 10) (wc := (zS_4 cB cC cI cJ a0 a1 x2 x3 x4 x5 x6 x7 x8 x9 a2 a3 a4 a5 a6 a7 a8 a9 a10 a11 a12 a13 a14 a15 a16 x10 x11 x12 x13 x14 x15 a17 a18 a19 x16 a20 x17 a21 x18 x19 a22 a23 a24 a25 x20 a26 x21 a27 a28 a29 y0 a30 a31 a32 a33 a34 a35 a36 a37 a38 x22 x23 x24 y1 a39 x25 a40 a41 a42 a43 x26 x27 x28 x29)) hP hD hS hA [0] rfl (by decide +kernel) (fun _ => by rfl) (fun hPc hDc => va_runV (As := [.int x1]) (rest := []) ⟨hx, hb, hml, hown, hts⟩ (k_X12_isSender l D cB cC cI cJ _ a0 a1 a2 a3 a4 a5 a6 a7 a8 a9 a10 a11 a12 a13 a14 a15 a16 a17 a18 a19 a20 a21 a22 a23 a24 a25 a26 a27 a28 a29 a30 a31 a32 a33 a34 a35 a36 a37 a38 a39 a40 a41 a42 a43 x1 x2 x3 x4 x5 x6 x7 x8 x9 x10 x11 x12 x13 x14 x15 x16 x17 x18 x19 x20 x21 x22 x23 x24 x25 x26 x27 x28 x29 y0 y1 h_x2 h_x3 h_x4 h_x5 h_x6 h_x7 h_x10 h_x11 h_x12 h_x13 h_x14 h_x16 h_x17 h_x18 h_x20 h_x21 h_x22 h_x23 h_x24 h_x25 h_x26 h_x27 h_x28 h_x29 hr_a0_0 hr_a0_1 hr_a0_2) ⟨gcwB hts tw_1782 tw_14 tw_1779 hd_yX12_isSender ⟨Nat.le_of_ble_eq_true rfl, Nat.le_of_ble_eq_true rfl⟩, hts _ tw_1781, hts _ tp_90⟩ ⟨gblind, va_recv hK hPc (ci := 12) (q0 := 0) rfl rfl, (gpreS hPc hK hDc hN).2⟩ rfl rfl hl.1 rfl (lv_room (Nat.le_of_ble_eq_true rfl)) dX12_leader_10 ⟨Nat.le_of_ble_eq_true rfl, Nat.le_of_ble_eq_true rfl⟩) (fun r_9 u_8 H locs hw_10 hP hD hS => ?_)
      replace hP : va_P D gcl (zS_128 cB cC cI cJ a0 a1 x2 x3 x4 x5 x6 x7 x8 x9 a2 a3 a4 a5 a6 a7 a8 a9 a10 a11 a12 a13 a14 a15 a16 x10 x11 x12 x13 x14 x15 a17 a18 a19 x16 a20 x17 a21 x18 x19 a22 a23 a24 a25 x20 a26 x21 a27 a28 a29 y0 a30 a31 a32 a33 a34 a35 a36 a37 a38 x22 x23 x24 y1 a39 x25 a40 a41 a42 a43 x26 x27 x28 x29 a35 g0) H := hP
      replace hD : va_D A (zS_128 cB cC cI cJ a0 a1 x2 x3 x4 x5 x6 x7 x8 x9 a2 a3 a4 a5 a6 a7 a8 a9 a10 a11 a12 a13 a14 a15 a16 x10 x11 x12 x13 x14 x15 a17 a18 a19 x16 a20 x17 a21 x18 x19 a22 a23 a24 a25 x20 a26 x21 a27 a28 a29 y0 a30 a31 a32 a33 a34 a35 a36 a37 a38 x22 x23 x24 y1 a39 x25 a40 a41 a42 a43 x26 x27 x28 x29 a35 g0) := hD
      obtain ⟨hw_11, hw_12, hw_13⟩ := hw_10
      replace hw_11 : (0 ≤ r_9.toInt ∧ r_9.toInt ≤ 1) := hw_11
      replace hw_12 : (-x1.toInt ≤ 4294967296 - 4294967296 * r_9.toInt ∧ x1.toInt ≤ x11.toInt - 1 + 4294967296 - 4294967296 * r_9.toInt) := hw_12
      replace hw_13 : (inQ r_9.toInt x1.toInt x11.toInt) := hw_13
      have rr_9 : zBd r_9.toInt (-2147483648) 2147483647 := n_rng r_9
      refine b_if_eq (pc := 13) (tgt := 29) hx hb rfl  dX12_leader_13 (by decide) (fun c_14 => ?_) (fun c_14 => ?_)
      ·
        as_aux_lemma =>
          refine lv_ldc2 (pc := 29) hx hb hown (hts _ tw_1955) dX12_leader_29 ?_
          have hP9 : va_P D gcl (zS_128 cB cC cI cJ a0 a1 x2 x3 x4 x5 x6 x7 x8 x9 a2 a3 a4 a5 a6 a7 a8 a9 a10 a11 a12 a13 a14 a15 a16 x10 x11 x12 x13 x14 x15 a17 a18 a19 x16 a20 x17 a21 x18 x19 a22 a23 a24 a25 x20 a26 x21 a27 a28 a29 y0 a30 a31 a32 a33 a34 a35 a36 a37 a38 x22 x23 x24 y1 a39 x25 a40 a41 a42 a43 x26 x27 x28 x29 a35 g0) H := g_psub hP [0, 1] rfl
          have hD9 : va_D A (zS_128 cB cC cI cJ a0 a1 x2 x3 x4 x5 x6 x7 x8 x9 a2 a3 a4 a5 a6 a7 a8 a9 a10 a11 a12 a13 a14 a15 a16 x10 x11 x12 x13 x14 x15 a17 a18 a19 x16 a20 x17 a21 x18 x19 a22 a23 a24 a25 x20 a26 x21 a27 a28 a29 y0 a30 a31 a32 a33 a34 a35 a36 a37 a38 x22 x23 x24 y1 a39 x25 a40 a41 a42 a43 x26 x27 x28 x29 a35 g0) := hD.sub [0, 1] (by decide) rfl
          exact hret (-1000000000) ((fun _ => 0), (fun _ => (fun _ => 0)), (fun _ => (fun _ => 0)), (fun _ => 0), (fun _ => 0)) dX12_leader_32 (show ((((-1000000000) : Int64).toInt = (-1000000000)) ∨ (((-9223372036854775808) ≤ ((-1000000000) : Int64).toInt ∧ ((-1000000000) : Int64).toInt ≤ 9223372036854775807))) from (by first | exact (om_1383 tL_m1000000000) | (have k9 := tL_m1000000000; (first | omega | (unfold zBd at *; omega))))) hP9 hD9 hS
      ·
        as_aux_lemma =>
          refine lv_aload_n (pc := 16) hx hb dX12_leader_16 rfl (lv_at hl 0 rfl) ?_
          refine va_get (pc := 17) (ci := 12) (v := .ref a35) (C := RX12) (T := TX12) (N := 73) hx hb hts iX12 hown hK hP 0 rfl rfl 55 (by decide) (hts _ tw_1456) (fun _ h9 => h9) rfl dX12_leader_17 ?_
          refine lv_iconst (pc := 20) (v := 5) hx hb dX12_leader_20 (by decide) ?_
          refine lv_iload_n (pc := 21) hx hb dX12_leader_21 rfl (lv_at hl 1 rfl) ?_
          refine b_imul (pc := 22) hx hb tI_5 rfl (by first | exact (om_1521 c_7 hw_4.1 hw_5.1) | ((first | omega | (unfold zBd at *; omega)))) (by first | exact (om_1745 c_7 hw_4.1 hw_5.2 h_x11.2) | ((first | omega | (unfold zBd at *; omega)))) dX12_leader_22 (fun x_15 ex_15 => ?_)
          refine lv_iload_n (pc := 23) hx hb dX12_leader_23 rfl (lv_at hl 2 rfl) ?_
          refine b_iadd (pc := 24) hx hb rfl rfl (by first | exact (om_1523 c_7 hw_4.1 ex_15 rx1.1 hw_5.1) | ((first | omega | (unfold zBd at *; omega)))) (by first | exact (om_1746 c_14 hr_a0_2 c_7 hw_4.1 hw_11.1 hw_5.1 hw_5.2 ex_15 hw_12.2 h_x11.2) | ((first | omega | (unfold zBd at *; omega)))) dX12_leader_24 (fun x_16 ex_16 => ?_)
          refine va_lald (pc := 25) hx hb hK hP 1 3 rfl rfl (n_in rfl (by first | exact (om_1747 c_14 hr_a0_2 c_7 hw_4.1 hw_11.1 hw_5.1 hw_5.2 ex_16 ex_15 hw_12.1) | ((first | omega | (unfold zBd at *; omega)))) (by first | exact (om_1748 c_14 hr_a0_2 c_7 hw_4.1 hw_11.1 hw_5.1 hw_5.2 ex_16 ex_15 hw_12.2 h_x11.2) | ((first | omega | (unfold zBd at *; omega))))) dX12_leader_25 ?_
          refine lv_topl (fun y_17 ey_17 => ?_)
          have ry_17 := n_rngL y_17
          refine lv_goto (pc := 26) (tgt := 32) hx hb dX12_leader_26 (by decide) ?_
          have hP9 : va_P D gcl (zS_128 cB cC cI cJ a0 a1 x2 x3 x4 x5 x6 x7 x8 x9 a2 a3 a4 a5 a6 a7 a8 a9 a10 a11 a12 a13 a14 a15 a16 x10 x11 x12 x13 x14 x15 a17 a18 a19 x16 a20 x17 a21 x18 x19 a22 a23 a24 a25 x20 a26 x21 a27 a28 a29 y0 a30 a31 a32 a33 a34 a35 a36 a37 a38 x22 x23 x24 y1 a39 x25 a40 a41 a42 a43 x26 x27 x28 x29 a35 g0) H := g_psub hP [0, 1] rfl
          have hD9 : va_D A (zS_128 cB cC cI cJ a0 a1 x2 x3 x4 x5 x6 x7 x8 x9 a2 a3 a4 a5 a6 a7 a8 a9 a10 a11 a12 a13 a14 a15 a16 x10 x11 x12 x13 x14 x15 a17 a18 a19 x16 a20 x17 a21 x18 x19 a22 a23 a24 a25 x20 a26 x21 a27 a28 a29 y0 a30 a31 a32 a33 a34 a35 a36 a37 a38 x22 x23 x24 y1 a39 x25 a40 a41 a42 a43 x26 x27 x28 x29 a35 g0) := hD.sub [0, 1] (by decide) rfl
          exact hret y_17 ((fun _ => 0), (fun _ => (fun _ => 0)), (fun _ => (fun _ => 0)), (fun _ => 0), (fun _ => 0)) dX12_leader_32 (show ((y_17.toInt = (-1000000000)) ∨ (((-9223372036854775808) ≤ y_17.toInt ∧ y_17.toInt ≤ 9223372036854775807))) from (by first | exact (om_1384 ry_17.1 ry_17.2) | ((first | omega | (unfold zBd at *; omega))))) hP9 hD9 hS
theorem om_1749 {a b c d e f g : Int} (h0 : (b = 0 ∨ 2 ≤ c)) (h1 : (d < b)) (h2 : (0 ≤ d)) (h3 : (a = e + f)) (h4 : (f = g)) (h5 : (-2147483648 * d ≤ e)) (h6 : ((-2147483648) ≤ g)) (h7 : (b ≤ 5)) (h8 : (e ≤ 2147483648 * d)) (h9 : (g ≤ 2147483647)) : (((-10737418240) ≤ a ∧ a ≤ 10737418240)) := by omega
set_option maxHeartbeats 4000000 in
set_option maxRecDepth 100000 in
theorem k_X12_squares (l : Launch) (D : va_G) (cB cC cI cJ : ClassId) (sz : Nat) (a0 a1 a2 a3 a4 a5 a6 a7 a8 a9 a10 a11 a12 a13 a14 a15 a16 a17 a18 a19 a20 a21 a22 a23 a24 a25 a26 a27 a28 a29 a30 a31 a32 a33 a34 a35 a36 a37 a38 a39 a40 a41 a42 a43 : Nat) (x0 x1 x2 x3 x4 x5 x6 x7 x8 x9 x10 x11 x12 x13 x14 x15 x16 x17 x18 x19 x20 x21 x22 x23 x24 x25 x26 x27 x28 : Int32) (y0 y1 : Int64) (f0 f1 : Nat → Int32) (hp1 : (0 ≤ x0.toInt ∧ x0.toInt ≤ 1)) (h_x1 : zBd x1.toInt 0 1600) (h_x2 : zBd x2.toInt 0 1600) (h_x3 : zBd x3.toInt 0 1600) (h_x4 : zBd x4.toInt (-1) 1600) (h_x5 : zBd x5.toInt 0 4) (h_x6 : zBd x6.toInt (-1) 1600) (h_x9 : zBd x9.toInt 0 8) (h_x10 : zBd x10.toInt 0 5) (h_x11 : zBd x11.toInt 0 6) (h_x12 : zBd x12.toInt 0 6) (h_x13 : zBd x13.toInt 0 16) (h_x15 : zBd x15.toInt 0 60) (h_x16 : zBd x16.toInt 0 1600) (h_x17 : zBd x17.toInt 0 1700) (h_x19 : zBd x19.toInt 0 1700) (h_x20 : zBd x20.toInt 0 1700) (h_x21 : zBd x21.toInt 0 200) (h_x22 : zBd x22.toInt 0 40) (h_x23 : zBd x23.toInt 0 40) (h_x24 : zBd x24.toInt 0 1) (h_x25 : zBd x25.toInt 0 14) (h_x26 : zBd x26.toInt 0 200) (h_x27 : zBd x27.toInt 0 40) (h_x28 : zBd x28.toInt 0 40) (hr_a0_0 : (x22.toInt ≤ x21.toInt)) (hr_a0_1 : (x21.toInt + x23.toInt ≤ 200)) (hr_a0_2 : (x10.toInt = 0 ∨ 2 ≤ x9.toInt)) (hf_f1 : (∀ j, (-9999) ≤ (f1 j).toInt ∧ (f1 j).toInt ≤ 9999)) : Met l yX12_squares (.code yX12_squares cX12_squares 5 (some .long) :: lw_gd) ({ frames := 1, cells := 0, slots := 0, locals := 25 }) (gPre D [(cB, .byte), (cC, .char), (cI, .int), (cJ, .long)] [.ref a0, .int x0] (zS_15 cB cC cI cJ a0 a1 x1 x2 x3 x4 x5 x6 x7 x8 a2 a3 a4 a5 a6 a7 a8 a9 a10 a11 a12 a13 a14 a15 a16 x9 x10 x11 x12 x13 x14 a17 a18 a19 x15 a20 x16 a21 x17 x18 a22 a23 a24 a25 x19 a26 x20 a27 a28 a29 y0 a30 a31 a32 a33 a34 a35 a36 a37 a38 x21 x22 x23 y1 a39 x24 a40 a41 a42 a43 x25 x26 x27 x28 a27 f0 a18 f1) sz) (va_Ql (fun r u => ((-10737418240) ≤ r.toInt ∧ r.toInt ≤ 10737418240) ∧ (cvQ r.toInt True x0.toInt (sqM f0 x11.toInt (x10.toInt).toNat) (sqM f1 x11.toInt (x10.toInt).toNat) 0)) (gB D (va_A (zS_15 cB cC cI cJ a0 a1 x1 x2 x3 x4 x5 x6 x7 x8 a2 a3 a4 a5 a6 a7 a8 a9 a10 a11 a12 a13 a14 a15 a16 x9 x10 x11 x12 x13 x14 a17 a18 a19 x15 a20 x16 a21 x17 x18 a22 a23 a24 a25 x19 a26 x20 a27 a28 a29 y0 a30 a31 a32 a33 a34 a35 a36 a37 a38 x21 x22 x23 y1 a39 x24 a40 a41 a42 a43 x25 x26 x27 x28 a27 f0 a18 f1) sz) (fun u : gEx => (zS_15 cB cC cI cJ a0 a1 x1 x2 x3 x4 x5 x6 x7 x8 a2 a3 a4 a5 a6 a7 a8 a9 a10 a11 a12 a13 a14 a15 a16 x9 x10 x11 x12 x13 x14 a17 a18 a19 x15 a20 x16 a21 x17 x18 a22 a23 a24 a25 x19 a26 x20 a27 a28 a29 y0 a30 a31 a32 a33 a34 a35 a36 a37 a38 x21 x22 x23 y1 a39 x24 a40 a41 a42 a43 x25 x26 x27 x28 a27 f0 a18 f1))) (va_A (zS_15 cB cC cI cJ a0 a1 x1 x2 x3 x4 x5 x6 x7 x8 a2 a3 a4 a5 a6 a7 a8 a9 a10 a11 a12 a13 a14 a15 a16 x9 x10 x11 x12 x13 x14 a17 a18 a19 x15 a20 x16 a21 x17 x18 a22 a23 a24 a25 x19 a26 x20 a27 a28 a29 y0 a30 a31 a32 a33 a34 a35 a36 a37 a38 x21 x22 x23 y1 a39 x24 a40 a41 a42 a43 x25 x26 x27 x28 a27 f0 a18 f1) sz)) 0 0 (va_A (zS_15 cB cC cI cJ a0 a1 x1 x2 x3 x4 x5 x6 x7 x8 a2 a3 a4 a5 a6 a7 a8 a9 a10 a11 a12 a13 a14 a15 a16 x9 x10 x11 x12 x13 x14 a17 a18 a19 x15 a20 x16 a21 x17 x18 a22 a23 a24 a25 x19 a26 x20 a27 a28 a29 y0 a30 a31 a32 a33 a34 a35 a36 a37 a38 x21 x22 x23 y1 a39 x24 a40 a41 a42 a43 x25 x26 x27 x28 a27 f0 a18 f1) sz) := by
  refine gOf_l (by decide +kernel) (Nat.le_of_ble_eq_true rfl) ?_
  intro p e s m args below meth c ls A Q hx hb hts hown hml hN hK hP hD hA hl hret
  replace hown : s.vm.findClass RX12 = some m.cls := hown
  have hS : va_S A s.heap s.heap [] := va_S.rf
  replace hP : va_P D gcl (zS_15 cB cC cI cJ a0 a1 x1 x2 x3 x4 x5 x6 x7 x8 a2 a3 a4 a5 a6 a7 a8 a9 a10 a11 a12 a13 a14 a15 a16 x9 x10 x11 x12 x13 x14 a17 a18 a19 x15 a20 x16 a21 x17 x18 a22 a23 a24 a25 x19 a26 x20 a27 a28 a29 y0 a30 a31 a32 a33 a34 a35 a36 a37 a38 x21 x22 x23 y1 a39 x24 a40 a41 a42 a43 x25 x26 x27 x28 a27 f0 a18 f1) s.heap := hP
  replace hl : lv_has ls 5 [(0, .ref a0), (1, .int x0)] := hl
  have rx7 : zBd x7.toInt (-2147483648) 2147483647 := n_rng x7
  have rx8 : zBd x8.toInt (-2147483648) 2147483647 := n_rng x8
  have rx14 : zBd x14.toInt (-2147483648) 2147483647 := n_rng x14
  have rx18 : zBd x18.toInt (-2147483648) 2147483647 := n_rng x18
  have ry0 := n_rngL y0
  have ry1 := n_rngL y1
  refine lv_lconst (pc := 0) (v := 0) hx hb dX12_squares_0 (by decide) ?_
  refine lv_lstore_n (pc := 1) (lv' := [(2, .long 0), (0, .ref a0), (1, .int x0)]) hx hb dX12_squares_1 rfl hl (by decide) rfl (fun ls hl => ?_)
  refine lv_iconst (pc := 2) (v := 0) hx hb dX12_squares_2 (by decide) ?_
  refine lv_istore (pc := 3) (lv' := [(4, .int 0), (2, .long 0), (0, .ref a0), (1, .int x0)]) hx hb dX12_squares_3 hl (by decide) rfl (fun ls hl => ?_)
  have lp_9 : ∀ (n : Nat) (x_1 : Int32) (y_3 : Int64) (H : Heap) (locs : List Loc) (ls : Array Slot), (0 ≤ x_1.toInt ∧ x_1.toInt ≤ 5) → ((-10737418240) ≤ y_3.toInt ∧ y_3.toInt ≤ 10737418240) → (x_1.toInt ≤ x10.toInt) → (-2147483648 * x_1.toInt ≤ y_3.toInt ∧ y_3.toInt ≤ 2147483648 * x_1.toInt) → (¬ x0.toInt = 0 → y_3.toInt = sqM f0 x11.toInt (x_1.toInt).toNat) → (x0.toInt = 0 → y_3.toInt = sqM f1 x11.toInt (x_1.toInt).toNat) → (2147483647 - x_1.toInt).toNat < n → va_P D gcl (zS_15 cB cC cI cJ a0 a1 x1 x2 x3 x4 x5 x6 x7 x8 a2 a3 a4 a5 a6 a7 a8 a9 a10 a11 a12 a13 a14 a15 a16 x9 x10 x11 x12 x13 x14 a17 a18 a19 x15 a20 x16 a21 x17 x18 a22 a23 a24 a25 x19 a26 x20 a27 a28 a29 y0 a30 a31 a32 a33 a34 a35 a36 a37 a38 x21 x22 x23 y1 a39 x24 a40 a41 a42 a43 x25 x26 x27 x28 a27 f0 a18 f1) H → va_D A (zS_15 cB cC cI cJ a0 a1 x1 x2 x3 x4 x5 x6 x7 x8 a2 a3 a4 a5 a6 a7 a8 a9 a10 a11 a12 a13 a14 a15 a16 x9 x10 x11 x12 x13 x14 a17 a18 a19 x15 a20 x16 a21 x17 x18 a22 a23 a24 a25 x19 a26 x20 a27 a28 a29 y0 a30 a31 a32 a33 a34 a35 a36 a37 a38 x21 x22 x23 y1 a39 x24 a40 a41 a42 a43 x25 x26 x27 x28 a27 f0 a18 f1) → va_S A s.heap H locs → lv_has ls 5 [(4, .int x_1), (2, .long y_3), (0, .ref a0), (1, .int x0)] → W p l e ({ frames := 1, cells := 0, slots := 0, locals := 25 }) s m args below meth c H locs 0 0 Q (F0 m 5 ls []) := by
    intro n
    induction n with
    | zero => intro x_1 y_3 H locs ls hi_2 hi_4 hi_5 hi_6 hi_7 hi_8 hmu; exact absurd hmu (Nat.not_lt_zero _)
    | succ n ih_lp_9 =>
      intro x_1 y_3 H locs ls hi_2 hi_4 hi_5 hi_6 hi_7 hi_8 hmu_lp_9 hP hD hS hl
      refine lv_iload (pc := 5) hx hb dX12_squares_5 (lv_at hl 0 rfl) ?_
      refine lv_aload_n (pc := 7) hx hb dX12_squares_7 rfl (lv_at hl 2 rfl) ?_
      refine va_get (pc := 8) (ci := 12) (v := .int x10) (C := RX12) (T := TX12) (N := 73) hx hb hts iX12 hown hK hP 0 rfl rfl 25 (by decide) (hts _ tw_1426) (fun _ h9 => h9) rfl dX12_squares_8 ?_
      have bd_h_x10 : 0 ≤ x10.toInt ∧ x10.toInt ≤ 5 := h_x10
      refine b_icmp_ge (pc := 11) (tgt := 56) hx hb rfl rfl  dX12_squares_11 (by decide) (fun c_10 => ?_) (fun c_10 => ?_)
      ·
        as_aux_lemma =>
          refine lv_lload_n (pc := 56) hx hb dX12_squares_56 rfl (lv_at hl 1 rfl) ?_
          have hP9 : va_P D gcl (zS_15 cB cC cI cJ a0 a1 x1 x2 x3 x4 x5 x6 x7 x8 a2 a3 a4 a5 a6 a7 a8 a9 a10 a11 a12 a13 a14 a15 a16 x9 x10 x11 x12 x13 x14 a17 a18 a19 x15 a20 x16 a21 x17 x18 a22 a23 a24 a25 x19 a26 x20 a27 a28 a29 y0 a30 a31 a32 a33 a34 a35 a36 a37 a38 x21 x22 x23 y1 a39 x24 a40 a41 a42 a43 x25 x26 x27 x28 a27 f0 a18 f1) H := g_psub hP [0, 1, 2] rfl
          have hD9 : va_D A (zS_15 cB cC cI cJ a0 a1 x1 x2 x3 x4 x5 x6 x7 x8 a2 a3 a4 a5 a6 a7 a8 a9 a10 a11 a12 a13 a14 a15 a16 x9 x10 x11 x12 x13 x14 a17 a18 a19 x15 a20 x16 a21 x17 x18 a22 a23 a24 a25 x19 a26 x20 a27 a28 a29 y0 a30 a31 a32 a33 a34 a35 a36 a37 a38 x21 x22 x23 y1 a39 x24 a40 a41 a42 a43 x25 x26 x27 x28 a27 f0 a18 f1) := hD.sub [0, 1, 2] (by decide) rfl
          exact hret y_3 ((fun _ => 0), (fun _ => (fun _ => 0)), (fun _ => (fun _ => 0)), (fun _ => 0), (fun _ => 0)) dX12_squares_57 ⟨(show ((-10737418240) ≤ y_3.toInt ∧ y_3.toInt ≤ 10737418240) from hi_4), (show cvQ y_3.toInt True x0.toInt (sqM f0 x11.toInt (x10.toInt).toNat) (sqM f1 x11.toInt (x10.toInt).toNat) 0 from ⟨fun _ => ⟨fun hl => (by have e9 : x_1.toInt = x10.toInt := (by (first | omega | (unfold zBd at *; omega))); have q9 := hi_7 hl; rw [e9] at q9; exact q9), fun hl => (by have e9 : x_1.toInt = x10.toInt := (by (first | omega | (unfold zBd at *; omega))); have q9 := hi_8 hl; rw [e9] at q9; exact q9)⟩, fun h => absurd trivial h⟩)⟩ hP9 hD9 hS
      ·
        as_aux_lemma =>
          refine lv_lload_n (pc := 14) hx hb dX12_squares_14 rfl (lv_at hl 1 rfl) ?_
          refine lv_iload_n (pc := 15) hx hb dX12_squares_15 rfl (lv_at hl 3 rfl) ?_
          refine b_if_eq (pc := 16) (tgt := 35) hx hb rfl  dX12_squares_16 (by decide) (fun c_11 => ?_) (fun c_11 => ?_)
          ·
            as_aux_lemma =>
              refine lv_aload_n (pc := 35) hx hb dX12_squares_35 rfl (lv_at hl 2 rfl) ?_
              refine lv_iload (pc := 36) hx hb dX12_squares_36 (lv_at hl 0 rfl) ?_
              refine lv_iload (pc := 38) hx hb dX12_squares_38 (lv_at hl 0 rfl) ?_
              refine lv_aload_n (pc := 40) hx hb dX12_squares_40 rfl (lv_at hl 2 rfl) ?_
              refine va_get (pc := 41) (ci := 12) (v := .ref a18) (C := RX12) (T := TX12) (N := 73) hx hb hts iX12 hown hK hP 0 rfl rfl 31 (by decide) (hts _ tw_1432) (fun _ h9 => h9) rfl dX12_squares_41 ?_
              refine gd_i (pc := 44) (wc := (zS_30 cB cC cI cJ a0 a1 x1 x2 x3 x4 x5 x6 x7 x8 a2 a3 a4 a5 a6 a7 a8 a9 a10 a11 a12 a13 a14 a15 a16 x9 x10 x11 x12 x13 x14 a17 a18 a19 x15 a20 x16 a21 x17 x18 a22 a23 a24 a25 x19 a26 x20 a27 a28 a29 y0 a30 a31 a32 a33 a34 a35 a36 a37 a38 x21 x22 x23 y1 a39 x24 a40 a41 a42 a43 x25 x26 x27 x28 a18 f1)) hP hD hS hA [0, 2] rfl (by decide +kernel) (fun _ => by rfl) (fun hPc hDc => va_runV (As := [.int x_1, .int x_1, .ref a18]) (rest := [.long y_3]) ⟨hx, hb, hml, hown, hts⟩ (k_X12_productOf_60rm9999_9999_x l D cB cC cI cJ _ a0 a18 a1 a2 a3 a4 a5 a6 a7 a8 a9 a10 a11 a12 a13 a14 a15 a16 a17 a18 a19 a20 a21 a22 a23 a24 a25 a26 a27 a28 a29 a30 a31 a32 a33 a34 a35 a36 a37 a38 a39 a40 a41 a42 a43 x_1 x_1 x1 x2 x3 x4 x5 x6 x7 x8 x9 x10 x11 x12 x13 x14 x15 x16 x17 x18 x19 x20 x21 x22 x23 x24 x25 x26 x27 x28 y0 y1 f1 (by first | exact (om_360 hi_2.1 c_10 h_x10.2) | ((first | omega | (unfold zBd at *; omega)))) (by first | exact (om_360 hi_2.1 c_10 h_x10.2) | ((first | omega | (unfold zBd at *; omega)))) h_x1 h_x2 h_x3 h_x4 h_x5 h_x6 h_x9 h_x10 h_x11 h_x12 h_x13 h_x15 h_x16 h_x17 h_x19 h_x20 h_x21 h_x22 h_x23 h_x24 h_x25 h_x26 h_x27 h_x28 hr_a0_0 hr_a0_1 hr_a0_2 hf_f1) ⟨gcwB hts tw_1791 tw_14 tw_1788 hd_yX12_productOf ⟨Nat.le_of_ble_eq_true rfl, Nat.le_of_ble_eq_true rfl⟩, hts _ tw_1790, hts _ tp_91⟩ ⟨gblind, va_recv hK hPc (ci := 12) (q0 := 0) rfl rfl, (gpreS hPc hK hDc hN).2⟩ rfl rfl hl.1 rfl (lv_room (Nat.le_of_ble_eq_true rfl)) dX12_squares_44 ⟨Nat.le_of_ble_eq_true rfl, Nat.le_of_ble_eq_true rfl⟩) (fun r_13 u_12 H locs hw_14 hP hD hS => ?_)
              replace hP : va_P D gcl (zS_15 cB cC cI cJ a0 a1 x1 x2 x3 x4 x5 x6 x7 x8 a2 a3 a4 a5 a6 a7 a8 a9 a10 a11 a12 a13 a14 a15 a16 x9 x10 x11 x12 x13 x14 a17 a18 a19 x15 a20 x16 a21 x17 x18 a22 a23 a24 a25 x19 a26 x20 a27 a28 a29 y0 a30 a31 a32 a33 a34 a35 a36 a37 a38 x21 x22 x23 y1 a39 x24 a40 a41 a42 a43 x25 x26 x27 x28 a27 f0 a18 f1) H := hP
              replace hD : va_D A (zS_15 cB cC cI cJ a0 a1 x1 x2 x3 x4 x5 x6 x7 x8 a2 a3 a4 a5 a6 a7 a8 a9 a10 a11 a12 a13 a14 a15 a16 x9 x10 x11 x12 x13 x14 a17 a18 a19 x15 a20 x16 a21 x17 x18 a22 a23 a24 a25 x19 a26 x20 a27 a28 a29 y0 a30 a31 a32 a33 a34 a35 a36 a37 a38 x21 x22 x23 y1 a39 x24 a40 a41 a42 a43 x25 x26 x27 x28 a27 f0 a18 f1) := hD
              have hw_15 : (r_13 = prn f1 x_1.toInt x_1.toInt (x11.toInt).toNat) := hw_14
              have rr_13 : zBd r_13.toInt (-2147483648) 2147483647 := n_rng r_13
              refine b_i2l (pc := 47) hx hb rfl dX12_squares_47 (fun y_16 ey_16 => ?_)
              have ry_16 : zBd r_13.toInt (-2147483648) 2147483647 := n_rng r_13
              refine b_ladd (pc := 48) hx hb rfl rfl (by first | exact (om_1041 ey_16 hi_4.1 ry_16.1) | ((first | omega | (unfold zBd at *; omega)))) (by first | exact (om_1042 ey_16 hi_4.2 ry_16.2) | ((first | omega | (unfold zBd at *; omega)))) dX12_squares_48 (fun y_17 ey_17 => ?_)
              refine lv_lstore_n (pc := 49) (lv' := [(2, .long y_17), (4, .int x_1), (0, .ref a0), (1, .int x0)]) hx hb dX12_squares_49 rfl hl (by decide) rfl (fun ls hl => ?_)
              refine b_iinc (pc := 50) hx hb dX12_squares_50 hl (k := 1) rfl rfl tI_1 (by first | exact (om_2 hi_2.1) | ((first | omega | (unfold zBd at *; omega)))) (by first | exact (om_357 hi_2.2) | ((first | omega | (unfold zBd at *; omega)))) (by decide) (fun x_18 ex_18 ls hl => ?_)
              replace hl : lv_has ls 5 [(4, .int x_18), (2, .long y_17), (0, .ref a0), (1, .int x0)] := hl
              as_aux_lemma =>
                refine lv_goto (pc := 53) (tgt := 5) hx hb dX12_squares_53 (by decide) ?_
                exact ih_lp_9 x_18 y_17 _ _ ls (by first | exact (om_1026 ex_18 hi_2.1 c_10 h_x10.2) | ((first | omega | (unfold zBd at *; omega)))) (by first | exact (om_1749 hr_a0_2 c_10 hi_2.1 ey_17 ey_16 hi_6.1 ry_16.1 h_x10.2 hi_6.2 ry_16.2) | ((first | omega | (unfold zBd at *; omega)))) (by first | exact (om_40 ex_18 c_10) | ((first | omega | (unfold zBd at *; omega)))) (by first | exact (om_1045 ex_18 ey_17 ey_16 hi_6.1 ry_16.1 hi_6.2 ry_16.2) | ((first | omega | (unfold zBd at *; omega)))) (fun hl => absurd hl (by first | exact (om_1537 c_11) | ((first | omega | (unfold zBd at *; omega))))) (fun hl => sqM_step (hi_8 hl) (by rw [← hw_15]; exact ey_16) (by first | exact (om_0 hi_2.1) | ((first | omega | (unfold zBd at *; omega)))) ey_17 (by first | exact (om_5 ex_18) | ((first | omega | (unfold zBd at *; omega))))) (by (first | omega | (unfold zBd at *; omega))) hP hD hS (lv_sub hl [0, 1, 2, 3] rfl)
          ·
            as_aux_lemma =>
              refine lv_aload_n (pc := 19) hx hb dX12_squares_19 rfl (lv_at hl 2 rfl) ?_
              refine lv_iload (pc := 20) hx hb dX12_squares_20 (lv_at hl 0 rfl) ?_
              refine lv_iload (pc := 22) hx hb dX12_squares_22 (lv_at hl 0 rfl) ?_
              refine lv_aload_n (pc := 24) hx hb dX12_squares_24 rfl (lv_at hl 2 rfl) ?_
              refine va_get (pc := 25) (ci := 12) (v := .ref a27) (C := RX12) (T := TX12) (N := 73) hx hb hts iX12 hown hK hP 0 rfl rfl 46 (by decide) (hts _ tw_1447) (fun _ h9 => h9) rfl dX12_squares_25 ?_
              refine gd_i (pc := 28) (wc := (zS_51 cB cC cI cJ a0 a1 x1 x2 x3 x4 x5 x6 x7 x8 a2 a3 a4 a5 a6 a7 a8 a9 a10 a11 a12 a13 a14 a15 a16 x9 x10 x11 x12 x13 x14 a17 a18 a19 x15 a20 x16 a21 x17 x18 a22 a23 a24 a25 x19 a26 x20 a27 a28 a29 y0 a30 a31 a32 a33 a34 a35 a36 a37 a38 x21 x22 x23 y1 a39 x24 a40 a41 a42 a43 x25 x26 x27 x28 a27 f0)) hP hD hS hA [0, 1] rfl (by decide +kernel) (fun _ => by rfl) (fun hPc hDc => va_runV (As := [.int x_1, .int x_1, .ref a27]) (rest := [.long y_3]) ⟨hx, hb, hml, hown, hts⟩ (k_X12_productOf_30_x l D cB cC cI cJ _ a0 a27 a1 a2 a3 a4 a5 a6 a7 a8 a9 a10 a11 a12 a13 a14 a15 a16 a17 a18 a19 a20 a21 a22 a23 a24 a25 a26 a27 a28 a29 a30 a31 a32 a33 a34 a35 a36 a37 a38 a39 a40 a41 a42 a43 x_1 x_1 x1 x2 x3 x4 x5 x6 x7 x8 x9 x10 x11 x12 x13 x14 x15 x16 x17 x18 x19 x20 x21 x22 x23 x24 x25 x26 x27 x28 y0 y1 f0 (by first | exact (om_360 hi_2.1 c_10 h_x10.2) | ((first | omega | (unfold zBd at *; omega)))) (by first | exact (om_360 hi_2.1 c_10 h_x10.2) | ((first | omega | (unfold zBd at *; omega)))) h_x1 h_x2 h_x3 h_x4 h_x5 h_x6 h_x9 h_x10 h_x11 h_x12 h_x13 h_x15 h_x16 h_x17 h_x19 h_x20 h_x21 h_x22 h_x23 h_x24 h_x25 h_x26 h_x27 h_x28 hr_a0_0 hr_a0_1 hr_a0_2) ⟨gcwB hts tw_1791 tw_14 tw_1788 hd_yX12_productOf ⟨Nat.le_of_ble_eq_true rfl, Nat.le_of_ble_eq_true rfl⟩, hts _ tw_1790, hts _ tp_91⟩ ⟨gblind, va_recv hK hPc (ci := 12) (q0 := 0) rfl rfl, (gpreS hPc hK hDc hN).2⟩ rfl rfl hl.1 rfl (lv_room (Nat.le_of_ble_eq_true rfl)) dX12_squares_28 ⟨Nat.le_of_ble_eq_true rfl, Nat.le_of_ble_eq_true rfl⟩) (fun r_20 u_19 H locs hw_21 hP hD hS => ?_)
              replace hP : va_P D gcl (zS_15 cB cC cI cJ a0 a1 x1 x2 x3 x4 x5 x6 x7 x8 a2 a3 a4 a5 a6 a7 a8 a9 a10 a11 a12 a13 a14 a15 a16 x9 x10 x11 x12 x13 x14 a17 a18 a19 x15 a20 x16 a21 x17 x18 a22 a23 a24 a25 x19 a26 x20 a27 a28 a29 y0 a30 a31 a32 a33 a34 a35 a36 a37 a38 x21 x22 x23 y1 a39 x24 a40 a41 a42 a43 x25 x26 x27 x28 a27 f0 a18 f1) H := hP
              replace hD : va_D A (zS_15 cB cC cI cJ a0 a1 x1 x2 x3 x4 x5 x6 x7 x8 a2 a3 a4 a5 a6 a7 a8 a9 a10 a11 a12 a13 a14 a15 a16 x9 x10 x11 x12 x13 x14 a17 a18 a19 x15 a20 x16 a21 x17 x18 a22 a23 a24 a25 x19 a26 x20 a27 a28 a29 y0 a30 a31 a32 a33 a34 a35 a36 a37 a38 x21 x22 x23 y1 a39 x24 a40 a41 a42 a43 x25 x26 x27 x28 a27 f0 a18 f1) := hD
              have hw_22 : (r_20 = prn f0 x_1.toInt x_1.toInt (x11.toInt).toNat) := hw_21
              have rr_20 : zBd r_20.toInt (-2147483648) 2147483647 := n_rng r_20
              refine b_i2l (pc := 31) hx hb rfl dX12_squares_31 (fun y_23 ey_23 => ?_)
              have ry_23 : zBd r_20.toInt (-2147483648) 2147483647 := n_rng r_20
              refine lv_goto (pc := 32) (tgt := 48) hx hb dX12_squares_32 (by decide) ?_
              refine b_ladd (pc := 48) hx hb rfl rfl (by first | exact (om_1041 ey_23 hi_4.1 ry_23.1) | ((first | omega | (unfold zBd at *; omega)))) (by first | exact (om_1042 ey_23 hi_4.2 ry_23.2) | ((first | omega | (unfold zBd at *; omega)))) dX12_squares_48 (fun y_24 ey_24 => ?_)
              refine lv_lstore_n (pc := 49) (lv' := [(2, .long y_24), (4, .int x_1), (0, .ref a0), (1, .int x0)]) hx hb dX12_squares_49 rfl hl (by decide) rfl (fun ls hl => ?_)
              as_aux_lemma =>
                refine b_iinc (pc := 50) hx hb dX12_squares_50 hl (k := 1) rfl rfl tI_1 (by first | exact (om_2 hi_2.1) | ((first | omega | (unfold zBd at *; omega)))) (by first | exact (om_357 hi_2.2) | ((first | omega | (unfold zBd at *; omega)))) (by decide) (fun x_25 ex_25 ls hl => ?_)
                replace hl : lv_has ls 5 [(4, .int x_25), (2, .long y_24), (0, .ref a0), (1, .int x0)] := hl
                refine lv_goto (pc := 53) (tgt := 5) hx hb dX12_squares_53 (by decide) ?_
                exact ih_lp_9 x_25 y_24 _ _ ls (by first | exact (om_1026 ex_25 hi_2.1 c_10 h_x10.2) | ((first | omega | (unfold zBd at *; omega)))) (by first | exact (om_1749 hr_a0_2 c_10 hi_2.1 ey_24 ey_23 hi_6.1 ry_23.1 h_x10.2 hi_6.2 ry_23.2) | ((first | omega | (unfold zBd at *; omega)))) (by first | exact (om_40 ex_25 c_10) | ((first | omega | (unfold zBd at *; omega)))) (by first | exact (om_1045 ex_25 ey_24 ey_23 hi_6.1 ry_23.1 hi_6.2 ry_23.2) | ((first | omega | (unfold zBd at *; omega)))) (fun hl => sqM_step (hi_7 hl) (by rw [← hw_22]; exact ey_23) (by first | exact (om_0 hi_2.1) | ((first | omega | (unfold zBd at *; omega)))) ey_24 (by first | exact (om_5 ex_25) | ((first | omega | (unfold zBd at *; omega))))) (fun hl => absurd hl (by first | exact (om_34 c_11) | ((first | omega | (unfold zBd at *; omega))))) (by (first | omega | (unfold zBd at *; omega))) hP hD hS (lv_sub hl [0, 1, 2, 3] rfl)
  exact lp_9 _ 0 0 _ _ ls (n_c tI_0 (by decide)) (by first | exact (om_1046 tL_0) | (have k0 := tI_0; have k1 := tL_0; (first | omega | (unfold zBd at *; omega)))) (by have q := tI_0; (first | omega | (unfold zBd at *; omega))) (by have q := tI_0; have q2 := tL_0; (first | omega | (unfold zBd at *; omega))) (fun _ => tL_0) (fun _ => tL_0) (Nat.lt_succ_self _) hP hD hS (lv_sub hl [0, 1, 2, 3] rfl)
theorem om_1750 {a : Int} (h0 : (0 ≤ a)) : (-1 ≤ a) := by omega
theorem om_1751 {a b c d : Int} (h0 : ((a = 0 ∧ b < c) ∨ (a = 0 ∧ b ≥ c ∧ b > d) ∨ (a = 1 ∧ b ≥ c ∧ b ≤ d))) : ((((0 ≤ a ∧ a ≤ 1)))) := by omega
set_option maxHeartbeats 4000000 in
set_option maxRecDepth 100000 in
theorem k_X12_areSenders (l : Launch) (D : va_G) (cB cC cI cJ : ClassId) (sz : Nat) (a0 a1 a2 a3 a4 a5 a6 a7 a8 a9 a10 a11 a12 a13 a14 a15 a16 a17 a18 a19 a20 a21 a22 a23 a24 a25 a26 a27 a28 a29 a30 a31 a32 a33 a34 a35 a36 a37 a38 a39 a40 a41 a42 a43 : Nat) (x0 x1 x2 x3 x4 x5 x6 x7 x8 x9 x10 x11 x12 x13 x14 x15 x16 x17 x18 x19 x20 x21 x22 x23 x24 x25 x26 x27 x28 : Int32) (y0 y1 : Int64) (h_x1 : zBd x1.toInt 0 1600) (h_x2 : zBd x2.toInt 0 1600) (h_x3 : zBd x3.toInt 0 1600) (h_x4 : zBd x4.toInt (-1) 1600) (h_x5 : zBd x5.toInt 0 4) (h_x6 : zBd x6.toInt (-1) 1600) (h_x9 : zBd x9.toInt 0 8) (h_x10 : zBd x10.toInt 0 5) (h_x11 : zBd x11.toInt 0 6) (h_x12 : zBd x12.toInt 0 6) (h_x13 : zBd x13.toInt 0 16) (h_x15 : zBd x15.toInt 0 60) (h_x16 : zBd x16.toInt 0 1600) (h_x17 : zBd x17.toInt 0 1700) (h_x19 : zBd x19.toInt 0 1700) (h_x20 : zBd x20.toInt 0 1700) (h_x21 : zBd x21.toInt 0 200) (h_x22 : zBd x22.toInt 0 40) (h_x23 : zBd x23.toInt 0 40) (h_x24 : zBd x24.toInt 0 1) (h_x25 : zBd x25.toInt 0 14) (h_x26 : zBd x26.toInt 0 200) (h_x27 : zBd x27.toInt 0 40) (h_x28 : zBd x28.toInt 0 40) (hr_a0_0 : (x22.toInt ≤ x21.toInt)) (hr_a0_1 : (x21.toInt + x23.toInt ≤ 200)) (hr_a0_2 : (x10.toInt = 0 ∨ 2 ≤ x9.toInt)) : Met l yX12_areSenders (.code yX12_areSenders cX12_areSenders 2 (some .boolean) :: lw_gd) ({ frames := 1, cells := 0, slots := 0, locals := 25 }) (gPre D [(cB, .byte), (cC, .char), (cI, .int), (cJ, .long)] [.ref a0, .int x0] (zS_4 cB cC cI cJ a0 a1 x1 x2 x3 x4 x5 x6 x7 x8 a2 a3 a4 a5 a6 a7 a8 a9 a10 a11 a12 a13 a14 a15 a16 x9 x10 x11 x12 x13 x14 a17 a18 a19 x15 a20 x16 a21 x17 x18 a22 a23 a24 a25 x19 a26 x20 a27 a28 a29 y0 a30 a31 a32 a33 a34 a35 a36 a37 a38 x21 x22 x23 y1 a39 x24 a40 a41 a42 a43 x25 x26 x27 x28) sz) (va_Qi (fun r u => (((0 ≤ r.toInt ∧ r.toInt ≤ 1)))) (gB D (va_A (zS_4 cB cC cI cJ a0 a1 x1 x2 x3 x4 x5 x6 x7 x8 a2 a3 a4 a5 a6 a7 a8 a9 a10 a11 a12 a13 a14 a15 a16 x9 x10 x11 x12 x13 x14 a17 a18 a19 x15 a20 x16 a21 x17 x18 a22 a23 a24 a25 x19 a26 x20 a27 a28 a29 y0 a30 a31 a32 a33 a34 a35 a36 a37 a38 x21 x22 x23 y1 a39 x24 a40 a41 a42 a43 x25 x26 x27 x28) sz) (fun u : gEx => (zS_4 cB cC cI cJ a0 a1 x1 x2 x3 x4 x5 x6 x7 x8 a2 a3 a4 a5 a6 a7 a8 a9 a10 a11 a12 a13 a14 a15 a16 x9 x10 x11 x12 x13 x14 a17 a18 a19 x15 a20 x16 a21 x17 x18 a22 a23 a24 a25 x19 a26 x20 a27 a28 a29 y0 a30 a31 a32 a33 a34 a35 a36 a37 a38 x21 x22 x23 y1 a39 x24 a40 a41 a42 a43 x25 x26 x27 x28))) (va_A (zS_4 cB cC cI cJ a0 a1 x1 x2 x3 x4 x5 x6 x7 x8 a2 a3 a4 a5 a6 a7 a8 a9 a10 a11 a12 a13 a14 a15 a16 x9 x10 x11 x12 x13 x14 a17 a18 a19 x15 a20 x16 a21 x17 x18 a22 a23 a24 a25 x19 a26 x20 a27 a28 a29 y0 a30 a31 a32 a33 a34 a35 a36 a37 a38 x21 x22 x23 y1 a39 x24 a40 a41 a42 a43 x25 x26 x27 x28) sz)) 0 0 (va_A (zS_4 cB cC cI cJ a0 a1 x1 x2 x3 x4 x5 x6 x7 x8 a2 a3 a4 a5 a6 a7 a8 a9 a10 a11 a12 a13 a14 a15 a16 x9 x10 x11 x12 x13 x14 a17 a18 a19 x15 a20 x16 a21 x17 x18 a22 a23 a24 a25 x19 a26 x20 a27 a28 a29 y0 a30 a31 a32 a33 a34 a35 a36 a37 a38 x21 x22 x23 y1 a39 x24 a40 a41 a42 a43 x25 x26 x27 x28) sz) := by
  refine gOf_z (by decide +kernel) (Nat.le_of_ble_eq_true rfl) ?_
  intro p e s m args below meth c ls A Q hx hb hts hown hml hN hK hP hD hA hl hret
  replace hown : s.vm.findClass RX12 = some m.cls := hown
  have hS : va_S A s.heap s.heap [] := va_S.rf
  replace hP : va_P D gcl (zS_4 cB cC cI cJ a0 a1 x1 x2 x3 x4 x5 x6 x7 x8 a2 a3 a4 a5 a6 a7 a8 a9 a10 a11 a12 a13 a14 a15 a16 x9 x10 x11 x12 x13 x14 a17 a18 a19 x15 a20 x16 a21 x17 x18 a22 a23 a24 a25 x19 a26 x20 a27 a28 a29 y0 a30 a31 a32 a33 a34 a35 a36 a37 a38 x21 x22 x23 y1 a39 x24 a40 a41 a42 a43 x25 x26 x27 x28) s.heap := hP
  replace hl : lv_has ls 2 [(0, .ref a0), (1, .int x0)] := hl
  have rx0 : zBd x0.toInt (-2147483648) 2147483647 := n_rng x0
  have rx7 : zBd x7.toInt (-2147483648) 2147483647 := n_rng x7
  have rx8 : zBd x8.toInt (-2147483648) 2147483647 := n_rng x8
  have rx14 : zBd x14.toInt (-2147483648) 2147483647 := n_rng x14
  have rx18 : zBd x18.toInt (-2147483648) 2147483647 := n_rng x18
  have ry0 := n_rngL y0
  have ry1 := n_rngL y1
  refine lv_iload_n (pc := 0) hx hb dX12_areSenders_0 rfl (lv_at hl 1 rfl) ?_
  refine b_i2l (pc := 1) hx hb rfl dX12_areSenders_1 (fun y_1 ey_1 => ?_)
  have ry_1 : zBd x0.toInt (-2147483648) 2147483647 := n_rng x0
  refine lv_lconst (pc := 2) (v := 0) hx hb dX12_areSenders_2 (by decide) ?_
  refine lv_iconst (pc := 3) (v := 1) hx hb dX12_areSenders_3 (by decide) ?_
  refine lv_aload_n (pc := 4) hx hb dX12_areSenders_4 rfl (lv_at hl 0 rfl) ?_
  refine va_get (pc := 5) (ci := 12) (v := .int x10) (C := RX12) (T := TX12) (N := 73) hx hb hts iX12 hown hK hP 0 rfl rfl 25 (by decide) (hts _ tw_1426) (fun _ h9 => h9) rfl dX12_areSenders_5 ?_
  have bd_h_x10 : 0 ≤ x10.toInt ∧ x10.toInt ≤ 5 := h_x10
  refine b_shl1 (pc := 8) hx hb rfl (by first | exact (om_1750 h_x10.1) | ((first | omega | (unfold zBd at *; omega)))) (by first | exact (om_372 h_x10.2) | ((first | omega | (unfold zBd at *; omega)))) dX12_areSenders_8 (fun x_2 ex_2 => ?_)
  have rx_2 : zBd x_2.toInt (-2147483648) 2147483647 := n_rng x_2
  refine lv_iconst (pc := 9) (v := 1) hx hb dX12_areSenders_9 (by decide) ?_
  refine lv_isub (pc := 10) hx hb dX12_areSenders_10 ?_
  refine lv_topi (fun x_3 _ => ?_)
  have rx_3 : zBd x_3.toInt (-2147483648) 2147483647 := n_rng x_3
  refine b_i2l (pc := 11) hx hb rfl dX12_areSenders_11 (fun y_4 ey_4 => ?_)
  have ry_4 : zBd x_3.toInt (-2147483648) 2147483647 := n_rng x_3
  refine gd_i (pc := 12) (wc := []) hP hD hS hA [] rfl (by decide +kernel) (fun _ => by rfl) (fun hPc hDc => va_runS (As := [.long y_1, .long 0, .long y_4]) (rest := []) ⟨hx, hb, hml, hown, hts⟩ (k_X12_isIn l D cB cC cI cJ _ y_1 0 y_4) ⟨gcwB hts tw_1666 tw_14 tw_1664 hd_yX12_isIn ⟨Nat.le_of_ble_eq_true rfl, Nat.le_of_ble_eq_true rfl⟩, hts _ tw_1665⟩ (gpreS hPc hK hDc hN) rfl rfl hl.1 rfl (lv_room (Nat.le_of_ble_eq_true rfl)) dX12_areSenders_12 ⟨Nat.le_of_ble_eq_true rfl, Nat.le_of_ble_eq_true rfl⟩) (fun r_6 u_5 H locs hw_7 hP hD hS => ?_)
  replace hP : va_P D gcl (zS_4 cB cC cI cJ a0 a1 x1 x2 x3 x4 x5 x6 x7 x8 a2 a3 a4 a5 a6 a7 a8 a9 a10 a11 a12 a13 a14 a15 a16 x9 x10 x11 x12 x13 x14 a17 a18 a19 x15 a20 x16 a21 x17 x18 a22 a23 a24 a25 x19 a26 x20 a27 a28 a29 y0 a30 a31 a32 a33 a34 a35 a36 a37 a38 x21 x22 x23 y1 a39 x24 a40 a41 a42 a43 x25 x26 x27 x28) H := hP
  replace hD : va_D A (zS_4 cB cC cI cJ a0 a1 x1 x2 x3 x4 x5 x6 x7 x8 a2 a3 a4 a5 a6 a7 a8 a9 a10 a11 a12 a13 a14 a15 a16 x9 x10 x11 x12 x13 x14 a17 a18 a19 x15 a20 x16 a21 x17 x18 a22 a23 a24 a25 x19 a26 x20 a27 a28 a29 y0 a30 a31 a32 a33 a34 a35 a36 a37 a38 x21 x22 x23 y1 a39 x24 a40 a41 a42 a43 x25 x26 x27 x28) := hD
  have hw_8 : ((r_6.toInt = 0 ∧ y_1.toInt < (0 : Int64).toInt) ∨ (r_6.toInt = 0 ∧ y_1.toInt ≥ (0 : Int64).toInt ∧ y_1.toInt > y_4.toInt) ∨ (r_6.toInt = 1 ∧ y_1.toInt ≥ (0 : Int64).toInt ∧ y_1.toInt ≤ y_4.toInt)) := hw_7
  have kk0_r_6 := tL_0
  have rr_6 : zBd r_6.toInt (-2147483648) 2147483647 := n_rng r_6
  have hP9 : va_P D gcl (zS_4 cB cC cI cJ a0 a1 x1 x2 x3 x4 x5 x6 x7 x8 a2 a3 a4 a5 a6 a7 a8 a9 a10 a11 a12 a13 a14 a15 a16 x9 x10 x11 x12 x13 x14 a17 a18 a19 x15 a20 x16 a21 x17 x18 a22 a23 a24 a25 x19 a26 x20 a27 a28 a29 y0 a30 a31 a32 a33 a34 a35 a36 a37 a38 x21 x22 x23 y1 a39 x24 a40 a41 a42 a43 x25 x26 x27 x28) H := g_psub hP [0] rfl
  have hD9 : va_D A (zS_4 cB cC cI cJ a0 a1 x1 x2 x3 x4 x5 x6 x7 x8 a2 a3 a4 a5 a6 a7 a8 a9 a10 a11 a12 a13 a14 a15 a16 x9 x10 x11 x12 x13 x14 a17 a18 a19 x15 a20 x16 a21 x17 x18 a22 a23 a24 a25 x19 a26 x20 a27 a28 a29 y0 a30 a31 a32 a33 a34 a35 a36 a37 a38 x21 x22 x23 y1 a39 x24 a40 a41 a42 a43 x25 x26 x27 x28) := hD.sub [0] (by decide) rfl
  exact hret r_6 ((fun _ => 0), (fun _ => (fun _ => 0)), (fun _ => (fun _ => 0)), (fun _ => 0), (fun _ => 0)) dX12_areSenders_15 ⟨(by first | exact (om_1520 hw_8) | ((first | omega | (unfold zBd at *; omega)))), (show (((0 ≤ r_6.toInt ∧ r_6.toInt ≤ 1))) from (by first | exact (om_1751 hw_8) | ((first | omega | (unfold zBd at *; omega)))))⟩ hP9 hD9 hS
theorem om_1752 {a b : Int} (h0 : ((-14) ≤ a)) (h1 : (1 ≤ b)) : (-2147483648 ≤ a + b) := by omega
theorem om_1753 {a b : Int} (h0 : (a ≤ 14)) (h1 : (b ≤ 2)) : (a + b ≤ 2147483647) := by omega
theorem om_1754 {a b : Int} (h0 : (a + 1 ≤ b)) : (a < b) := by omega
theorem om_1755 {a b c : Int} (h0 : (b = 0 ∨ 0 ≤ a)) (h1 : (c + 1 ≤ b)) (h2 : (c ≥ 0)) (h3 : (a ≤ 14)) : (0 ≤ a ∧ a ≤ 14) := by omega
set_option maxHeartbeats 4000000 in
set_option maxRecDepth 100000 in
theorem k_X12_isNext (l : Launch) (D : va_G) (cB cC cI cJ : ClassId) (sz : Nat) (a0 a1 a2 a3 a4 a5 a6 a7 a8 a9 a10 a11 a12 a13 a14 a15 a16 a17 a18 a19 a20 a21 a22 a23 a24 a25 a26 a27 a28 a29 a30 a31 a32 a33 a34 a35 a36 a37 a38 a39 a40 a41 a42 a43 : Nat) (x0 x1 x2 x3 x4 x5 x6 x7 x8 x9 x10 x11 x12 x13 x14 x15 x16 x17 x18 x19 x20 x21 x22 x23 x24 x25 x26 x27 x28 x29 x30 : Int32) (y0 y1 : Int64) (f0 : Nat → Int32) (hp2 : ((-2) ≤ x1.toInt ∧ x1.toInt ≤ 14)) (hp3 : (1 ≤ x2.toInt ∧ x2.toInt ≤ 2)) (h_x3 : zBd x3.toInt 0 1600) (h_x4 : zBd x4.toInt 0 1600) (h_x5 : zBd x5.toInt 0 1600) (h_x6 : zBd x6.toInt (-1) 1600) (h_x7 : zBd x7.toInt 0 4) (h_x8 : zBd x8.toInt (-1) 1600) (h_x11 : zBd x11.toInt 0 8) (h_x12 : zBd x12.toInt 0 5) (h_x13 : zBd x13.toInt 0 6) (h_x14 : zBd x14.toInt 0 6) (h_x15 : zBd x15.toInt 0 16) (h_x17 : zBd x17.toInt 0 60) (h_x18 : zBd x18.toInt 0 1600) (h_x19 : zBd x19.toInt 0 1700) (h_x21 : zBd x21.toInt 0 1700) (h_x22 : zBd x22.toInt 0 1700) (h_x23 : zBd x23.toInt 0 200) (h_x24 : zBd x24.toInt 0 40) (h_x25 : zBd x25.toInt 0 40) (h_x26 : zBd x26.toInt 0 1) (h_x27 : zBd x27.toInt 0 14) (h_x28 : zBd x28.toInt 0 200) (h_x29 : zBd x29.toInt 0 40) (h_x30 : zBd x30.toInt 0 40) (hr_a0_0 : (x24.toInt ≤ x23.toInt)) (hr_a0_1 : (x23.toInt + x25.toInt ≤ 200)) (hr_a0_2 : (x12.toInt = 0 ∨ 2 ≤ x11.toInt)) (hg__ms : x12.toInt = 0 ∨ 0 ≤ x1.toInt) (hg_rm : RM f0 0 x12.toInt x1.toInt) : Met l yX12_isNext (.code yX12_isNext cX12_isNext 5 (some .boolean) :: lw_gd) ({ frames := 0, cells := 0, slots := 0, locals := 0 }) (gPre D [(cB, .byte), (cC, .char), (cI, .int), (cJ, .long)] [.ref a0, .int x0, .int x1, .int x2] (zS_33 cB cC cI cJ a0 a1 x3 x4 x5 x6 x7 x8 x9 x10 a2 a3 a4 a5 a6 a7 a8 a9 a10 a11 a12 a13 a14 a15 a16 x11 x12 x13 x14 x15 x16 a17 a18 a19 x17 a20 x18 a21 x19 x20 a22 a23 a24 a25 x21 a26 x22 a27 a28 a29 y0 a30 a31 a32 a33 a34 a35 a36 a37 a38 x23 x24 x25 y1 a39 x26 a40 a41 a42 a43 x27 x28 x29 x30 a29 f0) sz) (va_Qi (fun r u => (0 ≤ r.toInt ∧ r.toInt ≤ 1) ∧ ((r.toInt ≠ 0 → muL (u.2.1 0) (x12.toInt).toNat < muL f0 (x12.toInt).toNat ∧ RM (u.2.1 0) 0 x12.toInt x1.toInt) ∧ True)) (gB D (va_A (zS_33 cB cC cI cJ a0 a1 x3 x4 x5 x6 x7 x8 x9 x10 a2 a3 a4 a5 a6 a7 a8 a9 a10 a11 a12 a13 a14 a15 a16 x11 x12 x13 x14 x15 x16 a17 a18 a19 x17 a20 x18 a21 x19 x20 a22 a23 a24 a25 x21 a26 x22 a27 a28 a29 y0 a30 a31 a32 a33 a34 a35 a36 a37 a38 x23 x24 x25 y1 a39 x26 a40 a41 a42 a43 x27 x28 x29 x30 a29 f0) sz) (fun u : gEx => (zS_33 cB cC cI cJ a0 a1 x3 x4 x5 x6 x7 x8 x9 x10 a2 a3 a4 a5 a6 a7 a8 a9 a10 a11 a12 a13 a14 a15 a16 x11 x12 x13 x14 x15 x16 a17 a18 a19 x17 a20 x18 a21 x19 x20 a22 a23 a24 a25 x21 a26 x22 a27 a28 a29 y0 a30 a31 a32 a33 a34 a35 a36 a37 a38 x23 x24 x25 y1 a39 x26 a40 a41 a42 a43 x27 x28 x29 x30 a29 (u.2.1 0)))) (va_A (zS_33 cB cC cI cJ a0 a1 x3 x4 x5 x6 x7 x8 x9 x10 a2 a3 a4 a5 a6 a7 a8 a9 a10 a11 a12 a13 a14 a15 a16 x11 x12 x13 x14 x15 x16 a17 a18 a19 x17 a20 x18 a21 x19 x20 a22 a23 a24 a25 x21 a26 x22 a27 a28 a29 y0 a30 a31 a32 a33 a34 a35 a36 a37 a38 x23 x24 x25 y1 a39 x26 a40 a41 a42 a43 x27 x28 x29 x30 a29 f0) sz)) 0 0 (va_A (zS_33 cB cC cI cJ a0 a1 x3 x4 x5 x6 x7 x8 x9 x10 a2 a3 a4 a5 a6 a7 a8 a9 a10 a11 a12 a13 a14 a15 a16 x11 x12 x13 x14 x15 x16 a17 a18 a19 x17 a20 x18 a21 x19 x20 a22 a23 a24 a25 x21 a26 x22 a27 a28 a29 y0 a30 a31 a32 a33 a34 a35 a36 a37 a38 x23 x24 x25 y1 a39 x26 a40 a41 a42 a43 x27 x28 x29 x30 a29 f0) sz) := by
  refine gOf_z (by decide +kernel) (Nat.le_of_ble_eq_true rfl) ?_
  intro p e s m args below meth c ls A Q hx hb hts hown hml hN hK hP hD hA hl hret
  replace hown : s.vm.findClass RX12 = some m.cls := hown
  have hS : va_S A s.heap s.heap [] := va_S.rf
  replace hP : va_P D gcl (zS_33 cB cC cI cJ a0 a1 x3 x4 x5 x6 x7 x8 x9 x10 a2 a3 a4 a5 a6 a7 a8 a9 a10 a11 a12 a13 a14 a15 a16 x11 x12 x13 x14 x15 x16 a17 a18 a19 x17 a20 x18 a21 x19 x20 a22 a23 a24 a25 x21 a26 x22 a27 a28 a29 y0 a30 a31 a32 a33 a34 a35 a36 a37 a38 x23 x24 x25 y1 a39 x26 a40 a41 a42 a43 x27 x28 x29 x30 a29 f0) s.heap := hP
  replace hl : lv_has ls 5 [(0, .ref a0), (1, .int x0), (2, .int x1), (3, .int x2)] := hl
  have rx0 : zBd x0.toInt (-2147483648) 2147483647 := n_rng x0
  have rx9 : zBd x9.toInt (-2147483648) 2147483647 := n_rng x9
  have rx10 : zBd x10.toInt (-2147483648) 2147483647 := n_rng x10
  have rx16 : zBd x16.toInt (-2147483648) 2147483647 := n_rng x16
  have rx20 : zBd x20.toInt (-2147483648) 2147483647 := n_rng x20
  have ry0 := n_rngL y0
  have ry1 := n_rngL y1
  refine lv_aload_n (pc := 0) hx hb dX12_isNext_0 rfl (lv_at hl 0 rfl) ?_
  refine va_get (pc := 1) (ci := 12) (v := .int x12) (C := RX12) (T := TX12) (N := 73) hx hb hts iX12 hown hK hP 0 rfl rfl 25 (by decide) (hts _ tw_1426) (fun _ h9 => h9) rfl dX12_isNext_1 ?_
  have bd_h_x12 : 0 ≤ x12.toInt ∧ x12.toInt ≤ 5 := h_x12
  refine lv_iconst (pc := 4) (v := 1) hx hb dX12_isNext_4 (by decide) ?_
  refine b_isub (pc := 5) hx hb rfl tI_1 (by first | exact (om_659 h_x12.1) | ((first | omega | (unfold zBd at *; omega)))) (by first | exact (om_207 h_x12.2) | ((first | omega | (unfold zBd at *; omega)))) dX12_isNext_5 (fun x_1 ex_1 => ?_)
  refine lv_istore (pc := 6) (lv' := [(4, .int x_1), (0, .ref a0), (1, .int x0), (2, .int x1), (3, .int x2)]) hx hb dX12_isNext_6 hl (by decide) rfl (fun ls hl => ?_)
  have lp_7 : ∀ (n : Nat) (x_2 : Int32) (f_4 : Nat → Int32) (H : Heap) (locs : List Loc) (ls : Array Slot), ((-1) ≤ x_2.toInt ∧ x_2.toInt ≤ 4) → (x_2.toInt + 1 ≤ x12.toInt) → (NX f0 f_4 x12.toInt x_2.toInt x1.toInt) → (x_2.toInt + 2147483648).toNat < n → va_P D gcl (zS_33 cB cC cI cJ a0 a1 x3 x4 x5 x6 x7 x8 x9 x10 a2 a3 a4 a5 a6 a7 a8 a9 a10 a11 a12 a13 a14 a15 a16 x11 x12 x13 x14 x15 x16 a17 a18 a19 x17 a20 x18 a21 x19 x20 a22 a23 a24 a25 x21 a26 x22 a27 a28 a29 y0 a30 a31 a32 a33 a34 a35 a36 a37 a38 x23 x24 x25 y1 a39 x26 a40 a41 a42 a43 x27 x28 x29 x30 a29 f_4) H → va_D A (zS_33 cB cC cI cJ a0 a1 x3 x4 x5 x6 x7 x8 x9 x10 a2 a3 a4 a5 a6 a7 a8 a9 a10 a11 a12 a13 a14 a15 a16 x11 x12 x13 x14 x15 x16 a17 a18 a19 x17 a20 x18 a21 x19 x20 a22 a23 a24 a25 x21 a26 x22 a27 a28 a29 y0 a30 a31 a32 a33 a34 a35 a36 a37 a38 x23 x24 x25 y1 a39 x26 a40 a41 a42 a43 x27 x28 x29 x30 a29 f_4) → va_S A s.heap H locs → lv_has ls 5 [(4, .int x_2), (0, .ref a0), (1, .int x0), (2, .int x1), (3, .int x2)] → W p l e ({ frames := 0, cells := 0, slots := 0, locals := 0 }) s m args below meth c H locs 0 0 Q (F0 m 8 ls []) := by
    intro n
    induction n with
    | zero => intro x_2 f_4 H locs ls hi_3 hi_5 hi_6 hmu; exact absurd hmu (Nat.not_lt_zero _)
    | succ n ih_lp_7 =>
      intro x_2 f_4 H locs ls hi_3 hi_5 hi_6 hmu_lp_7 hP hD hS hl
      refine lv_iload (pc := 8) hx hb dX12_isNext_8 (lv_at hl 0 rfl) ?_
      refine b_if_lt (pc := 10) (tgt := 64) hx hb rfl  dX12_isNext_10 (by decide) (fun c_8 => ?_) (fun c_8 => ?_)
      ·
        as_aux_lemma =>
          refine lv_iconst (pc := 64) (v := 0) hx hb dX12_isNext_64 (by decide) ?_
          have hP9 : va_P D gcl (zS_33 cB cC cI cJ a0 a1 x3 x4 x5 x6 x7 x8 x9 x10 a2 a3 a4 a5 a6 a7 a8 a9 a10 a11 a12 a13 a14 a15 a16 x11 x12 x13 x14 x15 x16 a17 a18 a19 x17 a20 x18 a21 x19 x20 a22 a23 a24 a25 x21 a26 x22 a27 a28 a29 y0 a30 a31 a32 a33 a34 a35 a36 a37 a38 x23 x24 x25 y1 a39 x26 a40 a41 a42 a43 x27 x28 x29 x30 a29 f_4) H := g_psub hP [0, 1] rfl
          have hD9 : va_D A (zS_33 cB cC cI cJ a0 a1 x3 x4 x5 x6 x7 x8 x9 x10 a2 a3 a4 a5 a6 a7 a8 a9 a10 a11 a12 a13 a14 a15 a16 x11 x12 x13 x14 x15 x16 a17 a18 a19 x17 a20 x18 a21 x19 x20 a22 a23 a24 a25 x21 a26 x22 a27 a28 a29 y0 a30 a31 a32 a33 a34 a35 a36 a37 a38 x23 x24 x25 y1 a39 x26 a40 a41 a42 a43 x27 x28 x29 x30 a29 f_4) := hD.sub [0, 1] (by decide) rfl
          have k9 := tI_0
          exact hret 0 ((fun _ => 0), (fun k => [f_4].getD k (fun _ => 0)), (fun _ => (fun _ => 0)), (fun _ => 0), (fun _ => 0)) dX12_isNext_65 ⟨(Or.inl tI_0), ⟨(show (0 ≤ (0 : Int32).toInt ∧ (0 : Int32).toInt ≤ 1) from (n_c tI_0 (by decide))), (show ((0 : Int32).toInt ≠ 0 → muL f_4 (x12.toInt).toNat < muL f0 (x12.toInt).toNat ∧ RM f_4 0 x12.toInt x1.toInt) ∧ True from ⟨fun h => absurd h (by first | exact (om_736 tI_0) | ((first | omega | (unfold zBd at *; omega)))), trivial⟩)⟩⟩ hP9 hD9 hS
      ·
        as_aux_lemma =>
          refine lv_iload_n (pc := 13) hx hb dX12_isNext_13 rfl (lv_at hl 2 rfl) ?_
          refine lv_iload (pc := 14) hx hb dX12_isNext_14 (lv_at hl 0 rfl) ?_
          refine lv_ishr (pc := 16) hx hb dX12_isNext_16 ?_
          refine lv_topi (fun x_9 _ => ?_)
          have rx_9 : zBd x_9.toInt (-2147483648) 2147483647 := n_rng x_9
          refine lv_iconst (pc := 17) (v := 1) hx hb dX12_isNext_17 (by decide) ?_
          refine b_iand (pc := 18) (M := 1) hx hb 1 (by decide +kernel) (by decide) (by decide) dX12_isNext_18 (fun x_10 ex_10 => ?_)
          have rx_10 : (0 ≤ x_10.toInt ∧ x_10.toInt ≤ 1) := ex_10
          refine b_if_ne (pc := 19) (tgt := 25) hx hb rfl  dX12_isNext_19 (by decide) (fun c_11 => ?_) (fun c_11 => ?_)
          ·
            as_aux_lemma =>
              refine lv_aload_n (pc := 25) hx hb dX12_isNext_25 rfl (lv_at hl 1 rfl) ?_
              refine va_get (pc := 26) (ci := 12) (v := .ref a29) (C := RX12) (T := TX12) (N := 73) hx hb hts iX12 hown hK hP 0 rfl rfl 48 (by decide) (hts _ tw_1449) (fun _ h9 => h9) rfl dX12_isNext_26 ?_
              refine lv_iload (pc := 29) hx hb dX12_isNext_29 (lv_at hl 0 rfl) ?_
              refine lv_dup2_11 (pc := 31) hx hb dX12_isNext_31 rfl rfl ?_
              refine va_iald (pc := 32) hx hb hK hP 1 2 rfl rfl (n_in rfl (by first | exact (om_10 c_8) | ((first | omega | (unfold zBd at *; omega)))) (by first | exact (om_1135 hi_3.2) | ((first | omega | (unfold zBd at *; omega))))) dX12_isNext_32 ?_
              refine lv_topi (fun x_12 ex_12 => ?_)
              have rx_12 : zBd x_12.toInt (-2147483648) 2147483647 := n_rng x_12
              replace ex_12 : x_12 = f_4 (x_2.toInt).toNat := ex_12
              have tx_12 := congrArg Int32.toInt ex_12
              have rrx_12 : ((-14) ≤ x_12.toInt ∧ x_12.toInt ≤ 14) := (by have q := hi_6.2.1 (x_2.toInt).toNat (by (first | omega | (unfold zBd at *; omega))) (by (first | omega | (unfold zBd at *; omega))); rw [← ex_12] at q; (first | omega | (unfold zBd at *; omega)))
              refine lv_iload_n (pc := 33) hx hb dX12_isNext_33 rfl (lv_at hl 4 rfl) ?_
              refine b_iadd (pc := 34) hx hb rfl rfl (by first | exact (om_1752 rrx_12.1 hp3.1) | ((first | omega | (unfold zBd at *; omega)))) (by first | exact (om_1753 rrx_12.2 hp3.2) | ((first | omega | (unfold zBd at *; omega)))) dX12_isNext_34 (fun x_13 ex_13 => ?_)
              refine e_iastore (pc := 35) hx hb hK hP hD hS 1 2 rfl rfl (n_in rfl (by first | exact (om_10 c_8) | ((first | omega | (unfold zBd at *; omega)))) (by first | exact (om_1135 hi_3.2) | ((first | omega | (unfold zBd at *; omega))))) dX12_isNext_35 (fun f_14 ef_14 H locs hP hD hS => ?_)
              replace hP : va_P D gcl (zS_33 cB cC cI cJ a0 a1 x3 x4 x5 x6 x7 x8 x9 x10 a2 a3 a4 a5 a6 a7 a8 a9 a10 a11 a12 a13 a14 a15 a16 x11 x12 x13 x14 x15 x16 a17 a18 a19 x17 a20 x18 a21 x19 x20 a22 a23 a24 a25 x21 a26 x22 a27 a28 a29 y0 a30 a31 a32 a33 a34 a35 a36 a37 a38 x23 x24 x25 y1 a39 x26 a40 a41 a42 a43 x27 x28 x29 x30 a29 f_14) H := hP
              replace hD : va_D A (zS_33 cB cC cI cJ a0 a1 x3 x4 x5 x6 x7 x8 x9 x10 a2 a3 a4 a5 a6 a7 a8 a9 a10 a11 a12 a13 a14 a15 a16 x11 x12 x13 x14 x15 x16 a17 a18 a19 x17 a20 x18 a21 x19 x20 a22 a23 a24 a25 x21 a26 x22 a27 a28 a29 y0 a30 a31 a32 a33 a34 a35 a36 a37 a38 x23 x24 x25 y1 a39 x26 a40 a41 a42 a43 x27 x28 x29 x30 a29 f_14) := hD
              refine lv_aload_n (pc := 36) hx hb dX12_isNext_36 rfl (lv_at hl 1 rfl) ?_
              as_aux_lemma =>
                refine va_get (pc := 37) (ci := 12) (v := .ref a29) (C := RX12) (T := TX12) (N := 73) hx hb hts iX12 hown hK hP 0 rfl rfl 48 (by decide) (hts _ tw_1449) (fun _ h9 => h9) rfl dX12_isNext_37 ?_
                refine lv_iload (pc := 40) hx hb dX12_isNext_40 (lv_at hl 0 rfl) ?_
                refine va_iald (pc := 42) hx hb hK hP 1 2 rfl rfl (n_in rfl (by first | exact (om_10 c_8) | ((first | omega | (unfold zBd at *; omega)))) (by first | exact (om_1135 hi_3.2) | ((first | omega | (unfold zBd at *; omega))))) dX12_isNext_42 ?_
                refine lv_topi (fun x_15 ex_15 => ?_)
                have rx_15 : zBd x_15.toInt (-2147483648) 2147483647 := n_rng x_15
                replace ex_15 : x_15 = f_14 (x_2.toInt).toNat := ex_15
                have tx_15 := congrArg Int32.toInt ex_15
                have hh_16 : x_15.toInt = x_13.toInt := by rw [ex_15, ef_14, u_eq rfl]
                refine lv_iload_n (pc := 43) hx hb dX12_isNext_43 rfl (lv_at hl 3 rfl) ?_
                refine b_icmp_gt (pc := 44) (tgt := 49) hx hb rfl rfl  dX12_isNext_44 (by decide) (fun c_17 => ?_) (fun c_17 => ?_)
                ·
                  as_aux_lemma =>
                    refine lv_aload_n (pc := 49) hx hb dX12_isNext_49 rfl (lv_at hl 1 rfl) ?_
                    refine va_get (pc := 50) (ci := 12) (v := .ref a29) (C := RX12) (T := TX12) (N := 73) hx hb hts iX12 hown hK hP 0 rfl rfl 48 (by decide) (hts _ tw_1449) (fun _ h9 => h9) rfl dX12_isNext_50 ?_
                    refine lv_iload (pc := 53) hx hb dX12_isNext_53 (lv_at hl 0 rfl) ?_
                    refine lv_iload_n (pc := 55) hx hb dX12_isNext_55 rfl (lv_at hl 3 rfl) ?_
                    refine b_ineg (pc := 56) hx hb rfl (by first | exact (om_1206 hp2.1) | ((first | omega | (unfold zBd at *; omega)))) dX12_isNext_56 (fun x_18 ex_18 => ?_)
                    refine e_iastore (pc := 57) hx hb hK hP hD hS 1 2 rfl rfl (n_in rfl (by first | exact (om_10 c_8) | ((first | omega | (unfold zBd at *; omega)))) (by first | exact (om_1135 hi_3.2) | ((first | omega | (unfold zBd at *; omega))))) dX12_isNext_57 (fun f_19 ef_19 H locs hP hD hS => ?_)
                    replace hP : va_P D gcl (zS_33 cB cC cI cJ a0 a1 x3 x4 x5 x6 x7 x8 x9 x10 a2 a3 a4 a5 a6 a7 a8 a9 a10 a11 a12 a13 a14 a15 a16 x11 x12 x13 x14 x15 x16 a17 a18 a19 x17 a20 x18 a21 x19 x20 a22 a23 a24 a25 x21 a26 x22 a27 a28 a29 y0 a30 a31 a32 a33 a34 a35 a36 a37 a38 x23 x24 x25 y1 a39 x26 a40 a41 a42 a43 x27 x28 x29 x30 a29 f_19) H := hP
                    replace hD : va_D A (zS_33 cB cC cI cJ a0 a1 x3 x4 x5 x6 x7 x8 x9 x10 a2 a3 a4 a5 a6 a7 a8 a9 a10 a11 a12 a13 a14 a15 a16 x11 x12 x13 x14 x15 x16 a17 a18 a19 x17 a20 x18 a21 x19 x20 a22 a23 a24 a25 x21 a26 x22 a27 a28 a29 y0 a30 a31 a32 a33 a34 a35 a36 a37 a38 x23 x24 x25 y1 a39 x26 a40 a41 a42 a43 x27 x28 x29 x30 a29 f_19) := hD
                    refine b_iinc (pc := 58) hx hb dX12_isNext_58 hl (k := 0) rfl rfl tI_m1 (by first | exact (om_1171 c_8) | ((first | omega | (unfold zBd at *; omega)))) (by first | exact (om_1260 hi_3.2) | ((first | omega | (unfold zBd at *; omega)))) (by decide) (fun x_20 ex_20 ls hl => ?_)
                    replace hl : lv_has ls 5 [(4, .int x_20), (0, .ref a0), (1, .int x0), (2, .int x1), (3, .int x2)] := hl
                    refine lv_goto (pc := 61) (tgt := 8) hx hb dX12_isNext_61 (by decide) ?_
                    exact ih_lp_7 x_20 f_19 _ _ ls (by first | exact (om_1615 ex_20 c_8 hi_3.2) | ((first | omega | (unfold zBd at *; omega)))) (by first | exact (om_669 ex_20 hi_5) | ((first | omega | (unfold zBd at *; omega)))) (NX_go hi_6 (by first | exact (om_10 c_8) | ((first | omega | (unfold zBd at *; omega)))) (by first | exact (om_1754 hi_5) | ((first | omega | (unfold zBd at *; omega)))) ex_12 ef_14 (by (first | omega | (unfold zBd at *; omega))) ef_19 (by (first | omega | (unfold zBd at *; omega))) (by (first | omega | (unfold zBd at *; omega))) (by first | exact (om_1755 hg__ms hi_5 c_8 hp2.2) | ((first | omega | (unfold zBd at *; omega)))) (by first | exact (om_1263 ex_20) | ((first | omega | (unfold zBd at *; omega))))) (by (first | omega | (unfold zBd at *; omega))) hP hD hS (lv_sub hl [0, 1, 2, 3, 4] rfl)
                ·
                  as_aux_lemma =>
                    refine lv_iconst (pc := 47) (v := 1) hx hb dX12_isNext_47 (by decide) ?_
                    have hP9 : va_P D gcl (zS_33 cB cC cI cJ a0 a1 x3 x4 x5 x6 x7 x8 x9 x10 a2 a3 a4 a5 a6 a7 a8 a9 a10 a11 a12 a13 a14 a15 a16 x11 x12 x13 x14 x15 x16 a17 a18 a19 x17 a20 x18 a21 x19 x20 a22 a23 a24 a25 x21 a26 x22 a27 a28 a29 y0 a30 a31 a32 a33 a34 a35 a36 a37 a38 x23 x24 x25 y1 a39 x26 a40 a41 a42 a43 x27 x28 x29 x30 a29 f_14) H := g_psub hP [0, 1] rfl
                    have hD9 : va_D A (zS_33 cB cC cI cJ a0 a1 x3 x4 x5 x6 x7 x8 x9 x10 a2 a3 a4 a5 a6 a7 a8 a9 a10 a11 a12 a13 a14 a15 a16 x11 x12 x13 x14 x15 x16 a17 a18 a19 x17 a20 x18 a21 x19 x20 a22 a23 a24 a25 x21 a26 x22 a27 a28 a29 y0 a30 a31 a32 a33 a34 a35 a36 a37 a38 x23 x24 x25 y1 a39 x26 a40 a41 a42 a43 x27 x28 x29 x30 a29 f_14) := hD.sub [0, 1] (by decide) rfl
                    have k9 := tI_1
                    exact hret 1 ((fun _ => 0), (fun k => [f_14].getD k (fun _ => 0)), (fun _ => (fun _ => 0)), (fun _ => 0), (fun _ => 0)) dX12_isNext_48 ⟨(Or.inr tI_1), ⟨(show (0 ≤ (1 : Int32).toInt ∧ (1 : Int32).toInt ≤ 1) from (n_c tI_1 (by decide))), (show ((1 : Int32).toInt ≠ 0 → muL f_14 (x12.toInt).toNat < muL f0 (x12.toInt).toNat ∧ RM f_14 0 x12.toInt x1.toInt) ∧ True from ⟨fun _ => NX_ret hi_6 (by first | exact (om_10 c_8) | ((first | omega | (unfold zBd at *; omega)))) (by first | exact (om_1754 hi_5) | ((first | omega | (unfold zBd at *; omega)))) ex_12 ef_14 (by (first | omega | (unfold zBd at *; omega))) (by (first | omega | (unfold zBd at *; omega))) (by have q := hi_6.2.1 (x_2.toInt).toNat (by (first | omega | (unfold zBd at *; omega))) (by (first | omega | (unfold zBd at *; omega))); rw [← ex_12] at q; (first | omega | (unfold zBd at *; omega))), trivial⟩)⟩⟩ hP9 hD9 hS
          ·
            as_aux_lemma =>
              refine lv_goto (pc := 22) (tgt := 58) hx hb dX12_isNext_22 (by decide) ?_
              refine b_iinc (pc := 58) hx hb dX12_isNext_58 hl (k := 0) rfl rfl tI_m1 (by first | exact (om_1171 c_8) | ((first | omega | (unfold zBd at *; omega)))) (by first | exact (om_1260 hi_3.2) | ((first | omega | (unfold zBd at *; omega)))) (by decide) (fun x_21 ex_21 ls hl => ?_)
              replace hl : lv_has ls 5 [(4, .int x_21), (0, .ref a0), (1, .int x0), (2, .int x1), (3, .int x2)] := hl
              refine lv_goto (pc := 61) (tgt := 8) hx hb dX12_isNext_61 (by decide) ?_
              exact ih_lp_7 x_21 f_4 _ _ ls (by first | exact (om_1615 ex_21 c_8 hi_3.2) | ((first | omega | (unfold zBd at *; omega)))) (by first | exact (om_669 ex_21 hi_5) | ((first | omega | (unfold zBd at *; omega)))) (NX_skip hi_6 (by first | exact (om_10 c_8) | ((first | omega | (unfold zBd at *; omega)))) (by first | exact (om_1754 hi_5) | ((first | omega | (unfold zBd at *; omega)))) (by first | exact (om_1263 ex_21) | ((first | omega | (unfold zBd at *; omega))))) (by (first | omega | (unfold zBd at *; omega))) hP hD hS (lv_sub hl [0, 1, 2, 3, 4] rfl)
  exact lp_7 _ x_1 f0 _ _ ls (by first | exact (om_1617 ex_1 h_x12.1 h_x12.2) | ((first | omega | (unfold zBd at *; omega)))) (by first | exact (om_675 ex_1) | ((first | omega | (unfold zBd at *; omega)))) (NX_start hg_rm (by first | exact (om_682 ex_1) | ((first | omega | (unfold zBd at *; omega))))) (Nat.lt_succ_self _) hP hD hS (lv_sub hl [0, 1, 2, 3, 4] rfl)
set_option maxHeartbeats 4000000 in
set_option maxRecDepth 100000 in
theorem k_X12_isLeast (l : Launch) (D : va_G) (cB cC cI cJ : ClassId) (sz : Nat) (a0 a1 a2 a3 a4 a5 a6 a7 a8 a9 a10 a11 a12 a13 a14 a15 a16 a17 a18 a19 a20 a21 a22 a23 a24 a25 a26 a27 a28 a29 a30 a31 a32 a33 a34 a35 a36 a37 a38 a39 a40 a41 a42 a43 : Nat) (x0 x1 x2 x3 x4 x5 x6 x7 x8 x9 x10 x11 x12 x13 x14 x15 x16 x17 x18 x19 x20 x21 x22 x23 x24 x25 x26 x27 x28 x29 x30 : Int32) (y0 y1 : Int64) (f0 f1 f2 f3 : Nat → Int32) (hp2 : ((-2) ≤ x1.toInt ∧ x1.toInt ≤ 14)) (hp3 : (1 ≤ x2.toInt ∧ x2.toInt ≤ 2)) (h_x3 : zBd x3.toInt 0 1600) (h_x4 : zBd x4.toInt 0 1600) (h_x5 : zBd x5.toInt 0 1600) (h_x6 : zBd x6.toInt (-1) 1600) (h_x7 : zBd x7.toInt 0 4) (h_x8 : zBd x8.toInt (-1) 1600) (h_x11 : zBd x11.toInt 0 8) (h_x12 : zBd x12.toInt 0 5) (h_x13 : zBd x13.toInt 0 6) (h_x14 : zBd x14.toInt 0 6) (h_x15 : zBd x15.toInt 0 16) (h_x17 : zBd x17.toInt 0 60) (h_x18 : zBd x18.toInt 0 1600) (h_x19 : zBd x19.toInt 0 1700) (h_x21 : zBd x21.toInt 0 1700) (h_x22 : zBd x22.toInt 0 1700) (h_x23 : zBd x23.toInt 0 200) (h_x24 : zBd x24.toInt 0 40) (h_x25 : zBd x25.toInt 0 40) (h_x26 : zBd x26.toInt 0 1) (h_x27 : zBd x27.toInt 0 14) (h_x28 : zBd x28.toInt 0 200) (h_x29 : zBd x29.toInt 0 40) (h_x30 : zBd x30.toInt 0 40) (hr_a0_0 : (x24.toInt ≤ x23.toInt)) (hr_a0_1 : (x23.toInt + x25.toInt ≤ 200)) (hr_a0_2 : (x12.toInt = 0 ∨ 2 ≤ x11.toInt)) (hg__ms : x12.toInt = 0 ∨ 0 ≤ x1.toInt) (hf_f1 : (∀ j, (-9999) ≤ (f1 j).toInt ∧ (f1 j).toInt ≤ 9999)) (hf_f2 : (∀ j, (-1100000) ≤ (f2 j).toInt ∧ (f2 j).toInt ≤ 1100000)) : Met l yX12_isLeast (.code yX12_isLeast cX12_isLeast 9 (some .boolean) :: lw_gd) ({ frames := 2, cells := 0, slots := 0, locals := 49 }) (gPre D [(cB, .byte), (cC, .char), (cI, .int), (cJ, .long)] [.ref a0, .int x0, .int x1, .int x2] (zS_10 cB cC cI cJ a0 a1 x3 x4 x5 x6 x7 x8 x9 x10 a2 a3 a4 a5 a6 a7 a8 a9 a10 a11 a12 a13 a14 a15 a16 x11 x12 x13 x14 x15 x16 a17 a18 a19 x17 a20 x18 a21 x19 x20 a22 a23 a24 a25 x21 a26 x22 a27 a28 a29 y0 a30 a31 a32 a33 a34 a35 a36 a37 a38 x23 x24 x25 y1 a39 x26 a40 a41 a42 a43 x27 x28 x29 x30 a29 f0 a18 f1 a28 f2 a39 f3) sz) (va_Qi (fun r u => (0 ≤ r.toInt ∧ r.toInt ≤ 1)) (gB D (va_A (zS_10 cB cC cI cJ a0 a1 x3 x4 x5 x6 x7 x8 x9 x10 a2 a3 a4 a5 a6 a7 a8 a9 a10 a11 a12 a13 a14 a15 a16 x11 x12 x13 x14 x15 x16 a17 a18 a19 x17 a20 x18 a21 x19 x20 a22 a23 a24 a25 x21 a26 x22 a27 a28 a29 y0 a30 a31 a32 a33 a34 a35 a36 a37 a38 x23 x24 x25 y1 a39 x26 a40 a41 a42 a43 x27 x28 x29 x30 a29 f0 a18 f1 a28 f2 a39 f3) sz) (fun u : gEx => (zS_10 cB cC cI cJ a0 a1 x3 x4 x5 x6 x7 x8 x9 x10 a2 a3 a4 a5 a6 a7 a8 a9 a10 a11 a12 a13 a14 a15 a16 x11 x12 x13 x14 x15 x16 a17 a18 a19 x17 a20 x18 a21 x19 x20 a22 a23 a24 a25 x21 a26 x22 a27 a28 a29 y0 a30 a31 a32 a33 a34 a35 a36 a37 a38 x23 x24 x25 (u.2.2.2.2 0) a39 x26 a40 a41 a42 a43 x27 x28 x29 x30 a29 (u.2.1 0) a18 f1 a28 f2 a39 (u.2.1 1)))) (va_A (zS_10 cB cC cI cJ a0 a1 x3 x4 x5 x6 x7 x8 x9 x10 a2 a3 a4 a5 a6 a7 a8 a9 a10 a11 a12 a13 a14 a15 a16 x11 x12 x13 x14 x15 x16 a17 a18 a19 x17 a20 x18 a21 x19 x20 a22 a23 a24 a25 x21 a26 x22 a27 a28 a29 y0 a30 a31 a32 a33 a34 a35 a36 a37 a38 x23 x24 x25 y1 a39 x26 a40 a41 a42 a43 x27 x28 x29 x30 a29 f0 a18 f1 a28 f2 a39 f3) sz)) 0 0 (va_A (zS_10 cB cC cI cJ a0 a1 x3 x4 x5 x6 x7 x8 x9 x10 a2 a3 a4 a5 a6 a7 a8 a9 a10 a11 a12 a13 a14 a15 a16 x11 x12 x13 x14 x15 x16 a17 a18 a19 x17 a20 x18 a21 x19 x20 a22 a23 a24 a25 x21 a26 x22 a27 a28 a29 y0 a30 a31 a32 a33 a34 a35 a36 a37 a38 x23 x24 x25 y1 a39 x26 a40 a41 a42 a43 x27 x28 x29 x30 a29 f0 a18 f1 a28 f2 a39 f3) sz) := by
  refine gOf_z (by decide +kernel) (Nat.le_of_ble_eq_true rfl) ?_
  intro p e s m args below meth c ls A Q hx hb hts hown hml hN hK hP hD hA hl hret
  replace hown : s.vm.findClass RX12 = some m.cls := hown
  have hS : va_S A s.heap s.heap [] := va_S.rf
  replace hP : va_P D gcl (zS_10 cB cC cI cJ a0 a1 x3 x4 x5 x6 x7 x8 x9 x10 a2 a3 a4 a5 a6 a7 a8 a9 a10 a11 a12 a13 a14 a15 a16 x11 x12 x13 x14 x15 x16 a17 a18 a19 x17 a20 x18 a21 x19 x20 a22 a23 a24 a25 x21 a26 x22 a27 a28 a29 y0 a30 a31 a32 a33 a34 a35 a36 a37 a38 x23 x24 x25 y1 a39 x26 a40 a41 a42 a43 x27 x28 x29 x30 a29 f0 a18 f1 a28 f2 a39 f3) s.heap := hP
  replace hl : lv_has ls 9 [(0, .ref a0), (1, .int x0), (2, .int x1), (3, .int x2)] := hl
  have rx0 : zBd x0.toInt (-2147483648) 2147483647 := n_rng x0
  have rx9 : zBd x9.toInt (-2147483648) 2147483647 := n_rng x9
  have rx10 : zBd x10.toInt (-2147483648) 2147483647 := n_rng x10
  have rx16 : zBd x16.toInt (-2147483648) 2147483647 := n_rng x16
  have rx20 : zBd x20.toInt (-2147483648) 2147483647 := n_rng x20
  have ry0 := n_rngL y0
  have ry1 := n_rngL y1
  refine lv_aload_n (pc := 0) hx hb dX12_isLeast_0 rfl (lv_at hl 0 rfl) ?_
  refine lv_ldc2 (pc := 1) hx hb hown (hts _ tw_1838) dX12_isLeast_1 ?_
  refine va_put (pc := 4) (ci := 12) (v := .long (-1)) (ty := .long) (C := RX12) (T := TX12) (N := 73) hx hb hts iX12 tyX12 tyX12_ok nmX12 hown hK hP hD hS 0 rfl rfl 62 (by decide) (hts _ tw_1463) (fun _ h9 => h9) rfl (by decide +kernel) (by decide +kernel) (by decide +kernel) (Nat.le_of_ble_eq_true rfl) dX12_isLeast_4 (fun H locs hP hD hS => ?_)
  replace hP : va_P D gcl (zS_10 cB cC cI cJ a0 a1 x3 x4 x5 x6 x7 x8 x9 x10 a2 a3 a4 a5 a6 a7 a8 a9 a10 a11 a12 a13 a14 a15 a16 x11 x12 x13 x14 x15 x16 a17 a18 a19 x17 a20 x18 a21 x19 x20 a22 a23 a24 a25 x21 a26 x22 a27 a28 a29 y0 a30 a31 a32 a33 a34 a35 a36 a37 a38 x23 x24 x25 (-1) a39 x26 a40 a41 a42 a43 x27 x28 x29 x30 a29 f0 a18 f1 a28 f2 a39 f3) H := hP
  replace hD : va_D A (zS_10 cB cC cI cJ a0 a1 x3 x4 x5 x6 x7 x8 x9 x10 a2 a3 a4 a5 a6 a7 a8 a9 a10 a11 a12 a13 a14 a15 a16 x11 x12 x13 x14 x15 x16 a17 a18 a19 x17 a20 x18 a21 x19 x20 a22 a23 a24 a25 x21 a26 x22 a27 a28 a29 y0 a30 a31 a32 a33 a34 a35 a36 a37 a38 x23 x24 x25 (-1) a39 x26 a40 a41 a42 a43 x27 x28 x29 x30 a29 f0 a18 f1 a28 f2 a39 f3) := hD
  refine lv_iconst (pc := 7) (v := 0) hx hb dX12_isLeast_7 (by decide) ?_
  refine lv_istore (pc := 8) (lv' := [(4, .int 0), (0, .ref a0), (1, .int x0), (2, .int x1), (3, .int x2)]) hx hb dX12_isLeast_8 hl (by decide) rfl (fun ls hl => ?_)
  have lp_5 : ∀ (n : Nat) (x_1 : Int32) (f_3 : Nat → Int32) (H : Heap) (locs : List Loc) (ls : Array Slot), (0 ≤ x_1.toInt ∧ x_1.toInt ≤ 2147483647) → (RM f_3 0 x_1.toInt x1.toInt) → (2147483647 - x_1.toInt).toNat < n → va_P D gcl (zS_10 cB cC cI cJ a0 a1 x3 x4 x5 x6 x7 x8 x9 x10 a2 a3 a4 a5 a6 a7 a8 a9 a10 a11 a12 a13 a14 a15 a16 x11 x12 x13 x14 x15 x16 a17 a18 a19 x17 a20 x18 a21 x19 x20 a22 a23 a24 a25 x21 a26 x22 a27 a28 a29 y0 a30 a31 a32 a33 a34 a35 a36 a37 a38 x23 x24 x25 (-1) a39 x26 a40 a41 a42 a43 x27 x28 x29 x30 a29 f_3 a18 f1 a28 f2 a39 f3) H → va_D A (zS_10 cB cC cI cJ a0 a1 x3 x4 x5 x6 x7 x8 x9 x10 a2 a3 a4 a5 a6 a7 a8 a9 a10 a11 a12 a13 a14 a15 a16 x11 x12 x13 x14 x15 x16 a17 a18 a19 x17 a20 x18 a21 x19 x20 a22 a23 a24 a25 x21 a26 x22 a27 a28 a29 y0 a30 a31 a32 a33 a34 a35 a36 a37 a38 x23 x24 x25 (-1) a39 x26 a40 a41 a42 a43 x27 x28 x29 x30 a29 f_3 a18 f1 a28 f2 a39 f3) → va_S A s.heap H locs → lv_has ls 9 [(4, .int x_1), (0, .ref a0), (1, .int x0), (2, .int x1), (3, .int x2)] → W p l e ({ frames := 2, cells := 0, slots := 0, locals := 49 }) s m args below meth c H locs 0 0 Q (F0 m 10 ls []) := by
    intro n
    induction n with
    | zero => intro x_1 f_3 H locs ls hi_2 hi_4 hmu; exact absurd hmu (Nat.not_lt_zero _)
    | succ n ih_lp_5 =>
      intro x_1 f_3 H locs ls hi_2 hi_4 hmu_lp_5 hP hD hS hl
      refine lv_iload (pc := 10) hx hb dX12_isLeast_10 (lv_at hl 0 rfl) ?_
      refine lv_aload_n (pc := 12) hx hb dX12_isLeast_12 rfl (lv_at hl 1 rfl) ?_
      refine va_get (pc := 13) (ci := 12) (v := .int x12) (C := RX12) (T := TX12) (N := 73) hx hb hts iX12 hown hK hP 0 rfl rfl 25 (by decide) (hts _ tw_1426) (fun _ h9 => h9) rfl dX12_isLeast_13 ?_
      have bd_h_x12 : 0 ≤ x12.toInt ∧ x12.toInt ≤ 5 := h_x12
      refine b_icmp_ge (pc := 16) (tgt := 48) hx hb rfl rfl  dX12_isLeast_16 (by decide) (fun c_6 => ?_) (fun c_6 => ?_)
      ·
        as_aux_lemma =>
          refine lv_iconst (pc := 48) (v := 1) hx hb dX12_isLeast_48 (by decide) ?_
          refine lv_istore (pc := 49) (lv' := [(4, .int 1), (0, .ref a0), (1, .int x0), (2, .int x1), (3, .int x2)]) hx hb dX12_isLeast_49 hl (by decide) rfl (fun ls hl => ?_)
          have lp_14 : ∀ (n : Nat) (x_7 : Int32) (y_9 : Int64) (f_11 f_12 : Nat → Int32) (H : Heap) (locs : List Loc) (ls : Array Slot), (0 ≤ x_7.toInt ∧ x_7.toInt ≤ 1) → (x_7.toInt ≠ 0 → RM f_11 0 x12.toInt x1.toInt) → (muM x_7.toInt (muL f_11 (x12.toInt).toNat)).toNat < n → va_P D gcl (zS_10 cB cC cI cJ a0 a1 x3 x4 x5 x6 x7 x8 x9 x10 a2 a3 a4 a5 a6 a7 a8 a9 a10 a11 a12 a13 a14 a15 a16 x11 x12 x13 x14 x15 x16 a17 a18 a19 x17 a20 x18 a21 x19 x20 a22 a23 a24 a25 x21 a26 x22 a27 a28 a29 y0 a30 a31 a32 a33 a34 a35 a36 a37 a38 x23 x24 x25 y_9 a39 x26 a40 a41 a42 a43 x27 x28 x29 x30 a29 f_11 a18 f1 a28 f2 a39 f_12) H → va_D A (zS_10 cB cC cI cJ a0 a1 x3 x4 x5 x6 x7 x8 x9 x10 a2 a3 a4 a5 a6 a7 a8 a9 a10 a11 a12 a13 a14 a15 a16 x11 x12 x13 x14 x15 x16 a17 a18 a19 x17 a20 x18 a21 x19 x20 a22 a23 a24 a25 x21 a26 x22 a27 a28 a29 y0 a30 a31 a32 a33 a34 a35 a36 a37 a38 x23 x24 x25 y_9 a39 x26 a40 a41 a42 a43 x27 x28 x29 x30 a29 f_11 a18 f1 a28 f2 a39 f_12) → va_S A s.heap H locs → lv_has ls 9 [(4, .int x_7), (0, .ref a0), (1, .int x0), (2, .int x1), (3, .int x2)] → W p l e ({ frames := 2, cells := 0, slots := 0, locals := 49 }) s m args below meth c H locs 0 0 Q (F0 m 51 ls []) := by
            intro n
            induction n with
            | zero => intro x_7 y_9 f_11 f_12 H locs ls hi_8 hi_13 hmu; exact absurd hmu (Nat.not_lt_zero _)
            | succ n ih_lp_14 =>
              intro x_7 y_9 f_11 f_12 H locs ls hi_8 hi_13 hmu_lp_14 hP hD hS hl
              have hi_10 := n_rngL y_9
              refine lv_iload (pc := 51) hx hb dX12_isLeast_51 (lv_at hl 0 rfl) ?_
              refine b_if_eq (pc := 53) (tgt := 189) hx hb rfl  dX12_isLeast_53 (by decide) (fun c_15 => ?_) (fun c_15 => ?_)
              ·
                as_aux_lemma =>
                  refine lv_aload_n (pc := 189) hx hb dX12_isLeast_189 rfl (lv_at hl 1 rfl) ?_
                  refine va_get (pc := 190) (ci := 12) (v := .long y_9) (C := RX12) (T := TX12) (N := 73) hx hb hts iX12 hown hK hP 0 rfl rfl 62 (by decide) (hts _ tw_1463) (fun _ h9 => h9) rfl dX12_isLeast_190 ?_
                  refine lv_lconst (pc := 193) (v := 0) hx hb dX12_isLeast_193 (by decide) ?_
                  refine b_lcmp_lt (pc := 194) (tgt := 202) hx hb rfl tL_0 dX12_isLeast_194 dX12_isLeast_195 (by decide) (fun c_16 => ?_) (fun c_16 => ?_)
                  ·
                    as_aux_lemma =>
                      refine lv_iconst (pc := 202) (v := 0) hx hb dX12_isLeast_202 (by decide) ?_
                      have hP9 : va_P D gcl (zS_10 cB cC cI cJ a0 a1 x3 x4 x5 x6 x7 x8 x9 x10 a2 a3 a4 a5 a6 a7 a8 a9 a10 a11 a12 a13 a14 a15 a16 x11 x12 x13 x14 x15 x16 a17 a18 a19 x17 a20 x18 a21 x19 x20 a22 a23 a24 a25 x21 a26 x22 a27 a28 a29 y0 a30 a31 a32 a33 a34 a35 a36 a37 a38 x23 x24 x25 y_9 a39 x26 a40 a41 a42 a43 x27 x28 x29 x30 a29 f_11 a18 f1 a28 f2 a39 f_12) H := g_psub hP [0, 1, 2, 3, 4] rfl
                      have hD9 : va_D A (zS_10 cB cC cI cJ a0 a1 x3 x4 x5 x6 x7 x8 x9 x10 a2 a3 a4 a5 a6 a7 a8 a9 a10 a11 a12 a13 a14 a15 a16 x11 x12 x13 x14 x15 x16 a17 a18 a19 x17 a20 x18 a21 x19 x20 a22 a23 a24 a25 x21 a26 x22 a27 a28 a29 y0 a30 a31 a32 a33 a34 a35 a36 a37 a38 x23 x24 x25 y_9 a39 x26 a40 a41 a42 a43 x27 x28 x29 x30 a29 f_11 a18 f1 a28 f2 a39 f_12) := hD.sub [0, 1, 2, 3, 4] (by decide) rfl
                      exact hret 0 ((fun _ => 0), (fun k => [f_11, f_12].getD k (fun _ => 0)), (fun _ => (fun _ => 0)), (fun _ => 0), (fun k => [y_9].getD k 0)) dX12_isLeast_203 ⟨(Or.inl tI_0), (show (0 ≤ (0 : Int32).toInt ∧ (0 : Int32).toInt ≤ 1) from (n_c tI_0 (by decide)))⟩ hP9 hD9 hS
                  ·
                    as_aux_lemma =>
                      refine lv_iconst (pc := 198) (v := 1) hx hb dX12_isLeast_198 (by decide) ?_
                      refine lv_goto (pc := 199) (tgt := 203) hx hb dX12_isLeast_199 (by decide) ?_
                      have hP9 : va_P D gcl (zS_10 cB cC cI cJ a0 a1 x3 x4 x5 x6 x7 x8 x9 x10 a2 a3 a4 a5 a6 a7 a8 a9 a10 a11 a12 a13 a14 a15 a16 x11 x12 x13 x14 x15 x16 a17 a18 a19 x17 a20 x18 a21 x19 x20 a22 a23 a24 a25 x21 a26 x22 a27 a28 a29 y0 a30 a31 a32 a33 a34 a35 a36 a37 a38 x23 x24 x25 y_9 a39 x26 a40 a41 a42 a43 x27 x28 x29 x30 a29 f_11 a18 f1 a28 f2 a39 f_12) H := g_psub hP [0, 1, 2, 3, 4] rfl
                      have hD9 : va_D A (zS_10 cB cC cI cJ a0 a1 x3 x4 x5 x6 x7 x8 x9 x10 a2 a3 a4 a5 a6 a7 a8 a9 a10 a11 a12 a13 a14 a15 a16 x11 x12 x13 x14 x15 x16 a17 a18 a19 x17 a20 x18 a21 x19 x20 a22 a23 a24 a25 x21 a26 x22 a27 a28 a29 y0 a30 a31 a32 a33 a34 a35 a36 a37 a38 x23 x24 x25 y_9 a39 x26 a40 a41 a42 a43 x27 x28 x29 x30 a29 f_11 a18 f1 a28 f2 a39 f_12) := hD.sub [0, 1, 2, 3, 4] (by decide) rfl
                      exact hret 1 ((fun _ => 0), (fun k => [f_11, f_12].getD k (fun _ => 0)), (fun _ => (fun _ => 0)), (fun _ => 0), (fun k => [y_9].getD k 0)) dX12_isLeast_203 ⟨(Or.inr tI_1), (show (0 ≤ (1 : Int32).toInt ∧ (1 : Int32).toInt ≤ 1) from (n_c tI_1 (by decide)))⟩ hP9 hD9 hS
              ·
                as_aux_lemma =>
                  refine lv_iconst (pc := 56) (v := 1) hx hb dX12_isLeast_56 (by decide) ?_
                  refine lv_istore (pc := 57) (lv' := [(5, .int 1), (4, .int x_7), (0, .ref a0), (1, .int x0), (2, .int x1), (3, .int x2)]) hx hb dX12_isLeast_57 hl (by decide) rfl (fun ls hl => ?_)
                  refine lv_iconst (pc := 59) (v := 0) hx hb dX12_isLeast_59 (by decide) ?_
                  refine lv_istore (pc := 60) (lv' := [(6, .int 0), (5, .int 1), (4, .int x_7), (0, .ref a0), (1, .int x0), (2, .int x1), (3, .int x2)]) hx hb dX12_isLeast_60 hl (by decide) rfl (fun ls hl => ?_)
                  have lp_21 : ∀ (n : Nat) (x_17 x_19 : Int32) (H : Heap) (locs : List Loc) (ls : Array Slot), (0 ≤ x_17.toInt ∧ x_17.toInt ≤ 2147483647) → (2147483647 - x_17.toInt).toNat < n → va_P D gcl (zS_10 cB cC cI cJ a0 a1 x3 x4 x5 x6 x7 x8 x9 x10 a2 a3 a4 a5 a6 a7 a8 a9 a10 a11 a12 a13 a14 a15 a16 x11 x12 x13 x14 x15 x16 a17 a18 a19 x17 a20 x18 a21 x19 x20 a22 a23 a24 a25 x21 a26 x22 a27 a28 a29 y0 a30 a31 a32 a33 a34 a35 a36 a37 a38 x23 x24 x25 y_9 a39 x26 a40 a41 a42 a43 x27 x28 x29 x30 a29 f_11 a18 f1 a28 f2 a39 f_12) H → va_D A (zS_10 cB cC cI cJ a0 a1 x3 x4 x5 x6 x7 x8 x9 x10 a2 a3 a4 a5 a6 a7 a8 a9 a10 a11 a12 a13 a14 a15 a16 x11 x12 x13 x14 x15 x16 a17 a18 a19 x17 a20 x18 a21 x19 x20 a22 a23 a24 a25 x21 a26 x22 a27 a28 a29 y0 a30 a31 a32 a33 a34 a35 a36 a37 a38 x23 x24 x25 y_9 a39 x26 a40 a41 a42 a43 x27 x28 x29 x30 a29 f_11 a18 f1 a28 f2 a39 f_12) → va_S A s.heap H locs → lv_has ls 9 [(6, .int x_17), (5, .int x_19), (4, .int x_7), (0, .ref a0), (1, .int x0), (2, .int x1), (3, .int x2)] → W p l e ({ frames := 2, cells := 0, slots := 0, locals := 49 }) s m args below meth c H locs 0 0 Q (F0 m 62 ls []) := by
                    intro n
                    induction n with
                    | zero => intro x_17 x_19 H locs ls hi_18 hmu; exact absurd hmu (Nat.not_lt_zero _)
                    | succ n ih_lp_21 =>
                      intro x_17 x_19 H locs ls hi_18 hmu_lp_21 hP hD hS hl
                      have hi_20 := n_rng x_19
                      refine lv_iload (pc := 62) hx hb dX12_isLeast_62 (lv_at hl 0 rfl) ?_
                      refine lv_aload_n (pc := 64) hx hb dX12_isLeast_64 rfl (lv_at hl 3 rfl) ?_
                      refine va_get (pc := 65) (ci := 12) (v := .int x12) (C := RX12) (T := TX12) (N := 73) hx hb hts iX12 hown hK hP 0 rfl rfl 25 (by decide) (hts _ tw_1426) (fun _ h9 => h9) rfl dX12_isLeast_65 ?_
                      refine b_icmp_ge (pc := 68) (tgt := 99) hx hb rfl rfl  dX12_isLeast_68 (by decide) (fun c_22 => ?_) (fun c_22 => ?_)
                      ·
                        as_aux_lemma =>
                          refine lv_iload (pc := 99) hx hb dX12_isLeast_99 (lv_at hl 1 rfl) ?_
                          refine b_if_eq (pc := 101) (tgt := 108) hx hb rfl  dX12_isLeast_101 (by decide) (fun c_23 => ?_) (fun c_23 => ?_)
                          ·
                            as_aux_lemma =>
                              refine lv_aload_n (pc := 108) hx hb dX12_isLeast_108 rfl (lv_at hl 3 rfl) ?_
                              refine lv_iconst (pc := 109) (v := 0) hx hb dX12_isLeast_109 (by decide) ?_
                              refine gd_l (pc := 110) (wc := (zS_124 cB cC cI cJ a0 a1 x3 x4 x5 x6 x7 x8 x9 x10 a2 a3 a4 a5 a6 a7 a8 a9 a10 a11 a12 a13 a14 a15 a16 x11 x12 x13 x14 x15 x16 a17 a18 a19 x17 a20 x18 a21 x19 x20 a22 a23 a24 a25 x21 a26 x22 a27 a28 a29 y0 a30 a31 a32 a33 a34 a35 a36 a37 a38 x23 x24 x25 y_9 a39 x26 a40 a41 a42 a43 x27 x28 x29 x30 a18 f1 a29 f_11 a28 f2)) hP hD hS hA [0, 2, 1, 3] rfl (by decide +kernel) (fun _ => by rfl) (fun hPc hDc => va_runV (As := [.int 0]) (rest := []) ⟨hx, hb, hml, hown, hts⟩ (k_X12_squaresLess l D cB cC cI cJ _ a0 a1 a2 a3 a4 a5 a6 a7 a8 a9 a10 a11 a12 a13 a14 a15 a16 a17 a18 a19 a20 a21 a22 a23 a24 a25 a26 a27 a28 a29 a30 a31 a32 a33 a34 a35 a36 a37 a38 a39 a40 a41 a42 a43 0 x3 x4 x5 x6 x7 x8 x9 x10 x11 x12 x13 x14 x15 x16 x17 x18 x19 x20 x21 x22 x23 x24 x25 x26 x27 x28 x29 x30 y0 y_9 f1 f_11 f2 (n_c tI_0 (by decide)) h_x3 h_x4 h_x5 h_x6 h_x7 h_x8 h_x11 h_x12 h_x13 h_x14 h_x15 h_x17 h_x18 h_x19 h_x21 h_x22 h_x23 h_x24 h_x25 h_x26 h_x27 h_x28 h_x29 h_x30 hr_a0_0 hr_a0_1 hr_a0_2 hf_f1 hf_f2) ⟨gcwB hts tw_1837 tw_14 tw_1834 hd_yX12_squaresLess ⟨Nat.le_of_ble_eq_true rfl, Nat.le_of_ble_eq_true rfl⟩, hts _ tw_1836, hts _ tp_96⟩ ⟨gblind, va_recv hK hPc (ci := 12) (q0 := 0) rfl rfl, (gpreS hPc hK hDc hN).2⟩ rfl rfl hl.1 rfl (lv_room (Nat.le_of_ble_eq_true rfl)) dX12_isLeast_110 ⟨Nat.le_of_ble_eq_true rfl, Nat.le_of_ble_eq_true rfl⟩) (fun r_25 u_24 H locs hw_26 hP hD hS => ?_)
                              replace hP : va_P D gcl (zS_10 cB cC cI cJ a0 a1 x3 x4 x5 x6 x7 x8 x9 x10 a2 a3 a4 a5 a6 a7 a8 a9 a10 a11 a12 a13 a14 a15 a16 x11 x12 x13 x14 x15 x16 a17 a18 a19 x17 a20 x18 a21 x19 x20 a22 a23 a24 a25 x21 a26 x22 a27 a28 a29 y0 a30 a31 a32 a33 a34 a35 a36 a37 a38 x23 x24 x25 y_9 a39 x26 a40 a41 a42 a43 x27 x28 x29 x30 a29 f_11 a18 f1 a28 f2 a39 f_12) H := hP
                              replace hD : va_D A (zS_10 cB cC cI cJ a0 a1 x3 x4 x5 x6 x7 x8 x9 x10 a2 a3 a4 a5 a6 a7 a8 a9 a10 a11 a12 a13 a14 a15 a16 x11 x12 x13 x14 x15 x16 a17 a18 a19 x17 a20 x18 a21 x19 x20 a22 a23 a24 a25 x21 a26 x22 a27 a28 a29 y0 a30 a31 a32 a33 a34 a35 a36 a37 a38 x23 x24 x25 y_9 a39 x26 a40 a41 a42 a43 x27 x28 x29 x30 a29 f_11 a18 f1 a28 f2 a39 f_12) := hD
                              have hw_27 : ((((-9223372036854775808) ≤ r_25.toInt ∧ r_25.toInt ≤ 9223372036854775807) ∧ (0 ≤ x13.toInt ∧ x13.toInt ≤ 6))) := hw_26
                              have kk0_r_25 := tI_0
                              have rr_25 := n_rngL r_25
                              refine lv_lstore (pc := 113) (lv' := [(6, .long r_25), (5, .int x_19), (4, .int x_7), (0, .ref a0), (1, .int x0), (2, .int x1), (3, .int x2)]) hx hb dX12_isLeast_113 hl (by decide) rfl (fun ls hl => ?_)
                              refine lv_iload (pc := 115) hx hb dX12_isLeast_115 (lv_at hl 1 rfl) ?_
                              refine b_if_ne (pc := 117) (tgt := 177) hx hb rfl  dX12_isLeast_117 (by decide) (fun c_28 => absurd c_28 (by first | exact (om_122 c_23) | ((first | omega | (unfold zBd at *; omega))))) (fun c_28 => ?_)
                              refine lv_aload_n (pc := 120) hx hb dX12_isLeast_120 rfl (lv_at hl 3 rfl) ?_
                              refine va_get (pc := 121) (ci := 12) (v := .long y_9) (C := RX12) (T := TX12) (N := 73) hx hb hts iX12 hown hK hP 0 rfl rfl 62 (by decide) (hts _ tw_1463) (fun _ h9 => h9) rfl dX12_isLeast_121 ?_
                              refine lv_lconst (pc := 124) (v := 0) hx hb dX12_isLeast_124 (by decide) ?_
                              refine b_lcmp_lt (pc := 125) (tgt := 139) hx hb rfl tL_0 dX12_isLeast_125 dX12_isLeast_126 (by decide) (fun c_29 => ?_) (fun c_29 => ?_)
                              ·
                                as_aux_lemma =>
                                  refine lv_aload_n (pc := 139) hx hb dX12_isLeast_139 rfl (lv_at hl 3 rfl) ?_
                                  refine lv_lload (pc := 140) hx hb dX12_isLeast_140 (lv_at hl 0 rfl) ?_
                                  refine va_put (pc := 142) (ci := 12) (v := .long r_25) (ty := .long) (C := RX12) (T := TX12) (N := 73) hx hb hts iX12 tyX12 tyX12_ok nmX12 hown hK hP hD hS 0 rfl rfl 62 (by decide) (hts _ tw_1463) (fun _ h9 => h9) rfl (by decide +kernel) rfl rfl (Nat.le_of_ble_eq_true rfl) dX12_isLeast_142 (fun H locs hP hD hS => ?_)
                                  replace hP : va_P D gcl (zS_10 cB cC cI cJ a0 a1 x3 x4 x5 x6 x7 x8 x9 x10 a2 a3 a4 a5 a6 a7 a8 a9 a10 a11 a12 a13 a14 a15 a16 x11 x12 x13 x14 x15 x16 a17 a18 a19 x17 a20 x18 a21 x19 x20 a22 a23 a24 a25 x21 a26 x22 a27 a28 a29 y0 a30 a31 a32 a33 a34 a35 a36 a37 a38 x23 x24 x25 r_25 a39 x26 a40 a41 a42 a43 x27 x28 x29 x30 a29 f_11 a18 f1 a28 f2 a39 f_12) H := hP
                                  replace hD : va_D A (zS_10 cB cC cI cJ a0 a1 x3 x4 x5 x6 x7 x8 x9 x10 a2 a3 a4 a5 a6 a7 a8 a9 a10 a11 a12 a13 a14 a15 a16 x11 x12 x13 x14 x15 x16 a17 a18 a19 x17 a20 x18 a21 x19 x20 a22 a23 a24 a25 x21 a26 x22 a27 a28 a29 y0 a30 a31 a32 a33 a34 a35 a36 a37 a38 x23 x24 x25 r_25 a39 x26 a40 a41 a42 a43 x27 x28 x29 x30 a29 f_11 a18 f1 a28 f2 a39 f_12) := hD
                                  refine lv_iconst (pc := 145) (v := 0) hx hb dX12_isLeast_145 (by decide) ?_
                                  refine lv_istore (pc := 146) (lv' := [(8, .int 0), (6, .long r_25), (5, .int x_19), (4, .int x_7), (0, .ref a0), (1, .int x0), (2, .int x1), (3, .int x2)]) hx hb dX12_isLeast_146 hl (by decide) rfl (fun ls hl => ?_)
                                  have lp_33 : ∀ (n : Nat) (x_30 : Int32) (f_32 : Nat → Int32) (H : Heap) (locs : List Loc) (ls : Array Slot), (0 ≤ x_30.toInt ∧ x_30.toInt ≤ 2147483647) → (2147483647 - x_30.toInt).toNat < n → va_P D gcl (zS_10 cB cC cI cJ a0 a1 x3 x4 x5 x6 x7 x8 x9 x10 a2 a3 a4 a5 a6 a7 a8 a9 a10 a11 a12 a13 a14 a15 a16 x11 x12 x13 x14 x15 x16 a17 a18 a19 x17 a20 x18 a21 x19 x20 a22 a23 a24 a25 x21 a26 x22 a27 a28 a29 y0 a30 a31 a32 a33 a34 a35 a36 a37 a38 x23 x24 x25 r_25 a39 x26 a40 a41 a42 a43 x27 x28 x29 x30 a29 f_11 a18 f1 a28 f2 a39 f_32) H → va_D A (zS_10 cB cC cI cJ a0 a1 x3 x4 x5 x6 x7 x8 x9 x10 a2 a3 a4 a5 a6 a7 a8 a9 a10 a11 a12 a13 a14 a15 a16 x11 x12 x13 x14 x15 x16 a17 a18 a19 x17 a20 x18 a21 x19 x20 a22 a23 a24 a25 x21 a26 x22 a27 a28 a29 y0 a30 a31 a32 a33 a34 a35 a36 a37 a38 x23 x24 x25 r_25 a39 x26 a40 a41 a42 a43 x27 x28 x29 x30 a29 f_11 a18 f1 a28 f2 a39 f_32) → va_S A s.heap H locs → lv_has ls 9 [(8, .int x_30), (6, .long r_25), (5, .int x_19), (4, .int x_7), (0, .ref a0), (1, .int x0), (2, .int x1), (3, .int x2)] → W p l e ({ frames := 2, cells := 0, slots := 0, locals := 49 }) s m args below meth c H locs 0 0 Q (F0 m 148 ls []) := by
                                    intro n
                                    induction n with
                                    | zero => intro x_30 f_32 H locs ls hi_31 hmu; exact absurd hmu (Nat.not_lt_zero _)
                                    | succ n ih_lp_33 =>
                                      intro x_30 f_32 H locs ls hi_31 hmu_lp_33 hP hD hS hl
                                      refine lv_iload (pc := 148) hx hb dX12_isLeast_148 (lv_at hl 0 rfl) ?_
                                      refine lv_aload_n (pc := 150) hx hb dX12_isLeast_150 rfl (lv_at hl 4 rfl) ?_
                                      refine va_get (pc := 151) (ci := 12) (v := .int x12) (C := RX12) (T := TX12) (N := 73) hx hb hts iX12 hown hK hP 0 rfl rfl 25 (by decide) (hts _ tw_1426) (fun _ h9 => h9) rfl dX12_isLeast_151 ?_
                                      refine b_icmp_ge (pc := 154) (tgt := 177) hx hb rfl rfl  dX12_isLeast_154 (by decide) (fun c_34 => ?_) (fun c_34 => ?_)
                                      ·
                                        as_aux_lemma =>
                                          refine lv_aload_n (pc := 177) hx hb dX12_isLeast_177 rfl (lv_at hl 4 rfl) ?_
                                          refine lv_iload_n (pc := 178) hx hb dX12_isLeast_178 rfl (lv_at hl 5 rfl) ?_
                                          refine lv_iload_n (pc := 179) hx hb dX12_isLeast_179 rfl (lv_at hl 6 rfl) ?_
                                          refine lv_iload_n (pc := 180) hx hb dX12_isLeast_180 rfl (lv_at hl 7 rfl) ?_
                                          refine gd_i (pc := 181) (wc := (zS_33 cB cC cI cJ a0 a1 x3 x4 x5 x6 x7 x8 x9 x10 a2 a3 a4 a5 a6 a7 a8 a9 a10 a11 a12 a13 a14 a15 a16 x11 x12 x13 x14 x15 x16 a17 a18 a19 x17 a20 x18 a21 x19 x20 a22 a23 a24 a25 x21 a26 x22 a27 a28 a29 y0 a30 a31 a32 a33 a34 a35 a36 a37 a38 x23 x24 x25 r_25 a39 x26 a40 a41 a42 a43 x27 x28 x29 x30 a29 f_11)) hP hD hS hA [0, 1] rfl (by decide +kernel) (fun _ => by rfl) (fun hPc hDc => va_runV (As := [.int x0, .int x1, .int x2]) (rest := []) ⟨hx, hb, hml, hown, hts⟩ (k_X12_isNext l D cB cC cI cJ _ a0 a1 a2 a3 a4 a5 a6 a7 a8 a9 a10 a11 a12 a13 a14 a15 a16 a17 a18 a19 a20 a21 a22 a23 a24 a25 a26 a27 a28 a29 a30 a31 a32 a33 a34 a35 a36 a37 a38 a39 a40 a41 a42 a43 x0 x1 x2 x3 x4 x5 x6 x7 x8 x9 x10 x11 x12 x13 x14 x15 x16 x17 x18 x19 x20 x21 x22 x23 x24 x25 x26 x27 x28 x29 x30 y0 r_25 f_11 hp2 hp3 h_x3 h_x4 h_x5 h_x6 h_x7 h_x8 h_x11 h_x12 h_x13 h_x14 h_x15 h_x17 h_x18 h_x19 h_x21 h_x22 h_x23 h_x24 h_x25 h_x26 h_x27 h_x28 h_x29 h_x30 hr_a0_0 hr_a0_1 hr_a0_2 hg__ms (hi_13 (by first | exact (om_798 c_15) | ((first | omega | (unfold zBd at *; omega)))))) ⟨gcwB hts tw_1975 tw_14 tw_1972 hd_yX12_isNext ⟨Nat.le_of_ble_eq_true rfl, Nat.le_of_ble_eq_true rfl⟩, hts _ tw_1974, hts _ tp_110⟩ ⟨gblind, va_recv hK hPc (ci := 12) (q0 := 0) rfl rfl, (gpreS hPc hK hDc hN).2⟩ rfl rfl hl.1 rfl (lv_room (Nat.le_of_ble_eq_true rfl)) dX12_isLeast_181 ⟨Nat.le_of_ble_eq_true rfl, Nat.le_of_ble_eq_true rfl⟩) (fun r_36 u_35 H locs hw_37 hP hD hS => ?_)
                                          replace hP : va_P D gcl (zS_10 cB cC cI cJ a0 a1 x3 x4 x5 x6 x7 x8 x9 x10 a2 a3 a4 a5 a6 a7 a8 a9 a10 a11 a12 a13 a14 a15 a16 x11 x12 x13 x14 x15 x16 a17 a18 a19 x17 a20 x18 a21 x19 x20 a22 a23 a24 a25 x21 a26 x22 a27 a28 a29 y0 a30 a31 a32 a33 a34 a35 a36 a37 a38 x23 x24 x25 r_25 a39 x26 a40 a41 a42 a43 x27 x28 x29 x30 a29 (u_35.2.1 0) a18 f1 a28 f2 a39 f_32) H := hP
                                          replace hD : va_D A (zS_10 cB cC cI cJ a0 a1 x3 x4 x5 x6 x7 x8 x9 x10 a2 a3 a4 a5 a6 a7 a8 a9 a10 a11 a12 a13 a14 a15 a16 x11 x12 x13 x14 x15 x16 a17 a18 a19 x17 a20 x18 a21 x19 x20 a22 a23 a24 a25 x21 a26 x22 a27 a28 a29 y0 a30 a31 a32 a33 a34 a35 a36 a37 a38 x23 x24 x25 r_25 a39 x26 a40 a41 a42 a43 x27 x28 x29 x30 a29 (u_35.2.1 0) a18 f1 a28 f2 a39 f_32) := hD
                                          obtain ⟨hw_38, hw_39⟩ := hw_37
                                          replace hw_38 : (0 ≤ r_36.toInt ∧ r_36.toInt ≤ 1) := hw_38
                                          replace hw_39 : ((r_36.toInt ≠ 0 → muL (u_35.2.1 0) (x12.toInt).toNat < muL f_11 (x12.toInt).toNat ∧ RM (u_35.2.1 0) 0 x12.toInt x1.toInt) ∧ True) := hw_39
                                          have rr_36 : zBd r_36.toInt (-2147483648) 2147483647 := n_rng r_36
                                          refine lv_istore (pc := 184) (lv' := [(4, .int r_36), (8, .int x_30), (6, .long r_25), (5, .int x_19), (0, .ref a0), (1, .int x0), (2, .int x1), (3, .int x2)]) hx hb dX12_isLeast_184 hl (by decide) rfl (fun ls hl => ?_)
                                          refine lv_goto (pc := 186) (tgt := 51) hx hb dX12_isLeast_186 (by decide) ?_
                                          exact ih_lp_14 r_36 r_25 (u_35.2.1 0) f_32 _ _ ls hw_38 (fun h => (hw_39.1 h).2) (muM_dec hmu_lp_14 (by (first | omega | (unfold zBd at *; omega))) (fun h => ⟨(hw_39.1 h).1, muL_pos _ (fun j a b => (hw_39.1 h).2 j a (by (first | omega | (unfold zBd at *; omega)))) (by (first | omega | (unfold zBd at *; omega)))⟩) (muL_pos _ (fun j a b => (hi_13 (by (first | omega | (unfold zBd at *; omega)))) j a (by (first | omega | (unfold zBd at *; omega)))) (by (first | omega | (unfold zBd at *; omega))))) hP hD hS (lv_sub hl [0, 4, 5, 6, 7] rfl)
                                      ·
                                        as_aux_lemma =>
                                          refine lv_aload_n (pc := 157) hx hb dX12_isLeast_157 rfl (lv_at hl 4 rfl) ?_
                                          refine va_get (pc := 158) (ci := 12) (v := .ref a39) (C := RX12) (T := TX12) (N := 73) hx hb hts iX12 hown hK hP 0 rfl rfl 63 (by decide) (hts _ tw_1464) (fun _ h9 => h9) rfl dX12_isLeast_158 ?_
                                          refine lv_iload (pc := 161) hx hb dX12_isLeast_161 (lv_at hl 0 rfl) ?_
                                          refine lv_aload_n (pc := 163) hx hb dX12_isLeast_163 rfl (lv_at hl 4 rfl) ?_
                                          refine va_get (pc := 164) (ci := 12) (v := .ref a29) (C := RX12) (T := TX12) (N := 73) hx hb hts iX12 hown hK hP 0 rfl rfl 48 (by decide) (hts _ tw_1449) (fun _ h9 => h9) rfl dX12_isLeast_164 ?_
                                          refine lv_iload (pc := 167) hx hb dX12_isLeast_167 (lv_at hl 0 rfl) ?_
                                          refine va_iald (pc := 169) hx hb hK hP 1 2 rfl rfl (n_in rfl (by first | exact (om_0 hi_31.1) | ((first | omega | (unfold zBd at *; omega)))) (by first | exact (om_1020 c_34 h_x12.2) | ((first | omega | (unfold zBd at *; omega))))) dX12_isLeast_169 ?_
                                          refine lv_topi (fun x_40 ex_40 => ?_)
                                          have rx_40 : zBd x_40.toInt (-2147483648) 2147483647 := n_rng x_40
                                          replace ex_40 : x_40 = f_11 (x_30.toInt).toNat := ex_40
                                          have tx_40 := congrArg Int32.toInt ex_40
                                          refine g_iastore (pc := 170) hx hb hK hP hD hS 4 2 rfl rfl (n_in rfl (by first | exact (om_0 hi_31.1) | ((first | omega | (unfold zBd at *; omega)))) (by first | exact (om_1020 c_34 h_x12.2) | ((first | omega | (unfold zBd at *; omega))))) dX12_isLeast_170 (fun f_41 H locs hP hD hS => ?_)
                                          replace hP : va_P D gcl (zS_10 cB cC cI cJ a0 a1 x3 x4 x5 x6 x7 x8 x9 x10 a2 a3 a4 a5 a6 a7 a8 a9 a10 a11 a12 a13 a14 a15 a16 x11 x12 x13 x14 x15 x16 a17 a18 a19 x17 a20 x18 a21 x19 x20 a22 a23 a24 a25 x21 a26 x22 a27 a28 a29 y0 a30 a31 a32 a33 a34 a35 a36 a37 a38 x23 x24 x25 r_25 a39 x26 a40 a41 a42 a43 x27 x28 x29 x30 a29 f_11 a18 f1 a28 f2 a39 f_41) H := hP
                                          replace hD : va_D A (zS_10 cB cC cI cJ a0 a1 x3 x4 x5 x6 x7 x8 x9 x10 a2 a3 a4 a5 a6 a7 a8 a9 a10 a11 a12 a13 a14 a15 a16 x11 x12 x13 x14 x15 x16 a17 a18 a19 x17 a20 x18 a21 x19 x20 a22 a23 a24 a25 x21 a26 x22 a27 a28 a29 y0 a30 a31 a32 a33 a34 a35 a36 a37 a38 x23 x24 x25 r_25 a39 x26 a40 a41 a42 a43 x27 x28 x29 x30 a29 f_11 a18 f1 a28 f2 a39 f_41) := hD
                                          refine b_iinc (pc := 171) hx hb dX12_isLeast_171 hl (k := 0) rfl rfl tI_1 (by first | exact (om_2 hi_31.1) | ((first | omega | (unfold zBd at *; omega)))) (by first | exact (om_338 c_34 h_x12.2) | ((first | omega | (unfold zBd at *; omega)))) (by decide) (fun x_42 ex_42 ls hl => ?_)
                                          replace hl : lv_has ls 9 [(8, .int x_42), (6, .long r_25), (5, .int x_19), (4, .int x_7), (0, .ref a0), (1, .int x0), (2, .int x1), (3, .int x2)] := hl
                                          as_aux_lemma =>
                                            refine lv_goto (pc := 174) (tgt := 148) hx hb dX12_isLeast_174 (by decide) ?_
                                            exact ih_lp_33 x_42 f_41 _ _ ls (by first | exact (om_339 ex_42 hi_31.1 c_34 h_x12.2) | ((first | omega | (unfold zBd at *; omega)))) (by (first | omega | (unfold zBd at *; omega))) hP hD hS (lv_sub hl [0, 1, 2, 3, 4, 5, 6, 7] rfl)
                                  exact lp_33 _ 0 f_12 _ _ ls (n_c tI_0 (by decide)) (Nat.lt_succ_self _) hP hD hS (lv_sub hl [0, 1, 2, 3, 4, 5, 6, 7] rfl)
                              ·
                                as_aux_lemma =>
                                  refine lv_lload (pc := 129) hx hb dX12_isLeast_129 (lv_at hl 0 rfl) ?_
                                  refine lv_aload_n (pc := 131) hx hb dX12_isLeast_131 rfl (lv_at hl 3 rfl) ?_
                                  refine va_get (pc := 132) (ci := 12) (v := .long y_9) (C := RX12) (T := TX12) (N := 73) hx hb hts iX12 hown hK hP 0 rfl rfl 62 (by decide) (hts _ tw_1463) (fun _ h9 => h9) rfl dX12_isLeast_132 ?_
                                  refine b_lcmp_ge (pc := 135) (tgt := 177) hx hb rfl rfl dX12_isLeast_135 dX12_isLeast_136 (by decide) (fun c_43 => ?_) (fun c_43 => ?_)
                                  ·
                                    as_aux_lemma =>
                                      refine lv_aload_n (pc := 177) hx hb dX12_isLeast_177 rfl (lv_at hl 3 rfl) ?_
                                      refine lv_iload_n (pc := 178) hx hb dX12_isLeast_178 rfl (lv_at hl 4 rfl) ?_
                                      refine lv_iload_n (pc := 179) hx hb dX12_isLeast_179 rfl (lv_at hl 5 rfl) ?_
                                      refine lv_iload_n (pc := 180) hx hb dX12_isLeast_180 rfl (lv_at hl 6 rfl) ?_
                                      refine gd_i (pc := 181) (wc := (zS_33 cB cC cI cJ a0 a1 x3 x4 x5 x6 x7 x8 x9 x10 a2 a3 a4 a5 a6 a7 a8 a9 a10 a11 a12 a13 a14 a15 a16 x11 x12 x13 x14 x15 x16 a17 a18 a19 x17 a20 x18 a21 x19 x20 a22 a23 a24 a25 x21 a26 x22 a27 a28 a29 y0 a30 a31 a32 a33 a34 a35 a36 a37 a38 x23 x24 x25 y_9 a39 x26 a40 a41 a42 a43 x27 x28 x29 x30 a29 f_11)) hP hD hS hA [0, 1] rfl (by decide +kernel) (fun _ => by rfl) (fun hPc hDc => va_runV (As := [.int x0, .int x1, .int x2]) (rest := []) ⟨hx, hb, hml, hown, hts⟩ (k_X12_isNext l D cB cC cI cJ _ a0 a1 a2 a3 a4 a5 a6 a7 a8 a9 a10 a11 a12 a13 a14 a15 a16 a17 a18 a19 a20 a21 a22 a23 a24 a25 a26 a27 a28 a29 a30 a31 a32 a33 a34 a35 a36 a37 a38 a39 a40 a41 a42 a43 x0 x1 x2 x3 x4 x5 x6 x7 x8 x9 x10 x11 x12 x13 x14 x15 x16 x17 x18 x19 x20 x21 x22 x23 x24 x25 x26 x27 x28 x29 x30 y0 y_9 f_11 hp2 hp3 h_x3 h_x4 h_x5 h_x6 h_x7 h_x8 h_x11 h_x12 h_x13 h_x14 h_x15 h_x17 h_x18 h_x19 h_x21 h_x22 h_x23 h_x24 h_x25 h_x26 h_x27 h_x28 h_x29 h_x30 hr_a0_0 hr_a0_1 hr_a0_2 hg__ms (hi_13 (by first | exact (om_798 c_15) | ((first | omega | (unfold zBd at *; omega)))))) ⟨gcwB hts tw_1975 tw_14 tw_1972 hd_yX12_isNext ⟨Nat.le_of_ble_eq_true rfl, Nat.le_of_ble_eq_true rfl⟩, hts _ tw_1974, hts _ tp_110⟩ ⟨gblind, va_recv hK hPc (ci := 12) (q0 := 0) rfl rfl, (gpreS hPc hK hDc hN).2⟩ rfl rfl hl.1 rfl (lv_room (Nat.le_of_ble_eq_true rfl)) dX12_isLeast_181 ⟨Nat.le_of_ble_eq_true rfl, Nat.le_of_ble_eq_true rfl⟩) (fun r_45 u_44 H locs hw_46 hP hD hS => ?_)
                                      replace hP : va_P D gcl (zS_10 cB cC cI cJ a0 a1 x3 x4 x5 x6 x7 x8 x9 x10 a2 a3 a4 a5 a6 a7 a8 a9 a10 a11 a12 a13 a14 a15 a16 x11 x12 x13 x14 x15 x16 a17 a18 a19 x17 a20 x18 a21 x19 x20 a22 a23 a24 a25 x21 a26 x22 a27 a28 a29 y0 a30 a31 a32 a33 a34 a35 a36 a37 a38 x23 x24 x25 y_9 a39 x26 a40 a41 a42 a43 x27 x28 x29 x30 a29 (u_44.2.1 0) a18 f1 a28 f2 a39 f_12) H := hP
                                      replace hD : va_D A (zS_10 cB cC cI cJ a0 a1 x3 x4 x5 x6 x7 x8 x9 x10 a2 a3 a4 a5 a6 a7 a8 a9 a10 a11 a12 a13 a14 a15 a16 x11 x12 x13 x14 x15 x16 a17 a18 a19 x17 a20 x18 a21 x19 x20 a22 a23 a24 a25 x21 a26 x22 a27 a28 a29 y0 a30 a31 a32 a33 a34 a35 a36 a37 a38 x23 x24 x25 y_9 a39 x26 a40 a41 a42 a43 x27 x28 x29 x30 a29 (u_44.2.1 0) a18 f1 a28 f2 a39 f_12) := hD
                                      obtain ⟨hw_47, hw_48⟩ := hw_46
                                      replace hw_47 : (0 ≤ r_45.toInt ∧ r_45.toInt ≤ 1) := hw_47
                                      replace hw_48 : ((r_45.toInt ≠ 0 → muL (u_44.2.1 0) (x12.toInt).toNat < muL f_11 (x12.toInt).toNat ∧ RM (u_44.2.1 0) 0 x12.toInt x1.toInt) ∧ True) := hw_48
                                      have rr_45 : zBd r_45.toInt (-2147483648) 2147483647 := n_rng r_45
                                      refine lv_istore (pc := 184) (lv' := [(4, .int r_45), (6, .long r_25), (5, .int x_19), (0, .ref a0), (1, .int x0), (2, .int x1), (3, .int x2)]) hx hb dX12_isLeast_184 hl (by decide) rfl (fun ls hl => ?_)
                                      refine lv_goto (pc := 186) (tgt := 51) hx hb dX12_isLeast_186 (by decide) ?_
                                      exact ih_lp_14 r_45 y_9 (u_44.2.1 0) f_12 _ _ ls hw_47 (fun h => (hw_48.1 h).2) (muM_dec hmu_lp_14 (by (first | omega | (unfold zBd at *; omega))) (fun h => ⟨(hw_48.1 h).1, muL_pos _ (fun j a b => (hw_48.1 h).2 j a (by (first | omega | (unfold zBd at *; omega)))) (by (first | omega | (unfold zBd at *; omega)))⟩) (muL_pos _ (fun j a b => (hi_13 (by (first | omega | (unfold zBd at *; omega)))) j a (by (first | omega | (unfold zBd at *; omega)))) (by (first | omega | (unfold zBd at *; omega))))) hP hD hS (lv_sub hl [0, 3, 4, 5, 6] rfl)
                                  ·
                                    as_aux_lemma =>
                                      refine lv_aload_n (pc := 139) hx hb dX12_isLeast_139 rfl (lv_at hl 3 rfl) ?_
                                      refine lv_lload (pc := 140) hx hb dX12_isLeast_140 (lv_at hl 0 rfl) ?_
                                      refine va_put (pc := 142) (ci := 12) (v := .long r_25) (ty := .long) (C := RX12) (T := TX12) (N := 73) hx hb hts iX12 tyX12 tyX12_ok nmX12 hown hK hP hD hS 0 rfl rfl 62 (by decide) (hts _ tw_1463) (fun _ h9 => h9) rfl (by decide +kernel) rfl rfl (Nat.le_of_ble_eq_true rfl) dX12_isLeast_142 (fun H locs hP hD hS => ?_)
                                      replace hP : va_P D gcl (zS_10 cB cC cI cJ a0 a1 x3 x4 x5 x6 x7 x8 x9 x10 a2 a3 a4 a5 a6 a7 a8 a9 a10 a11 a12 a13 a14 a15 a16 x11 x12 x13 x14 x15 x16 a17 a18 a19 x17 a20 x18 a21 x19 x20 a22 a23 a24 a25 x21 a26 x22 a27 a28 a29 y0 a30 a31 a32 a33 a34 a35 a36 a37 a38 x23 x24 x25 r_25 a39 x26 a40 a41 a42 a43 x27 x28 x29 x30 a29 f_11 a18 f1 a28 f2 a39 f_12) H := hP
                                      replace hD : va_D A (zS_10 cB cC cI cJ a0 a1 x3 x4 x5 x6 x7 x8 x9 x10 a2 a3 a4 a5 a6 a7 a8 a9 a10 a11 a12 a13 a14 a15 a16 x11 x12 x13 x14 x15 x16 a17 a18 a19 x17 a20 x18 a21 x19 x20 a22 a23 a24 a25 x21 a26 x22 a27 a28 a29 y0 a30 a31 a32 a33 a34 a35 a36 a37 a38 x23 x24 x25 r_25 a39 x26 a40 a41 a42 a43 x27 x28 x29 x30 a29 f_11 a18 f1 a28 f2 a39 f_12) := hD
                                      refine lv_iconst (pc := 145) (v := 0) hx hb dX12_isLeast_145 (by decide) ?_
                                      refine lv_istore (pc := 146) (lv' := [(8, .int 0), (6, .long r_25), (5, .int x_19), (4, .int x_7), (0, .ref a0), (1, .int x0), (2, .int x1), (3, .int x2)]) hx hb dX12_isLeast_146 hl (by decide) rfl (fun ls hl => ?_)
                                      have lp_52 : ∀ (n : Nat) (x_49 : Int32) (f_51 : Nat → Int32) (H : Heap) (locs : List Loc) (ls : Array Slot), (0 ≤ x_49.toInt ∧ x_49.toInt ≤ 2147483647) → (2147483647 - x_49.toInt).toNat < n → va_P D gcl (zS_10 cB cC cI cJ a0 a1 x3 x4 x5 x6 x7 x8 x9 x10 a2 a3 a4 a5 a6 a7 a8 a9 a10 a11 a12 a13 a14 a15 a16 x11 x12 x13 x14 x15 x16 a17 a18 a19 x17 a20 x18 a21 x19 x20 a22 a23 a24 a25 x21 a26 x22 a27 a28 a29 y0 a30 a31 a32 a33 a34 a35 a36 a37 a38 x23 x24 x25 r_25 a39 x26 a40 a41 a42 a43 x27 x28 x29 x30 a29 f_11 a18 f1 a28 f2 a39 f_51) H → va_D A (zS_10 cB cC cI cJ a0 a1 x3 x4 x5 x6 x7 x8 x9 x10 a2 a3 a4 a5 a6 a7 a8 a9 a10 a11 a12 a13 a14 a15 a16 x11 x12 x13 x14 x15 x16 a17 a18 a19 x17 a20 x18 a21 x19 x20 a22 a23 a24 a25 x21 a26 x22 a27 a28 a29 y0 a30 a31 a32 a33 a34 a35 a36 a37 a38 x23 x24 x25 r_25 a39 x26 a40 a41 a42 a43 x27 x28 x29 x30 a29 f_11 a18 f1 a28 f2 a39 f_51) → va_S A s.heap H locs → lv_has ls 9 [(8, .int x_49), (6, .long r_25), (5, .int x_19), (4, .int x_7), (0, .ref a0), (1, .int x0), (2, .int x1), (3, .int x2)] → W p l e ({ frames := 2, cells := 0, slots := 0, locals := 49 }) s m args below meth c H locs 0 0 Q (F0 m 148 ls []) := by
                                        intro n
                                        induction n with
                                        | zero => intro x_49 f_51 H locs ls hi_50 hmu; exact absurd hmu (Nat.not_lt_zero _)
                                        | succ n ih_lp_52 =>
                                          intro x_49 f_51 H locs ls hi_50 hmu_lp_52 hP hD hS hl
                                          refine lv_iload (pc := 148) hx hb dX12_isLeast_148 (lv_at hl 0 rfl) ?_
                                          refine lv_aload_n (pc := 150) hx hb dX12_isLeast_150 rfl (lv_at hl 4 rfl) ?_
                                          refine va_get (pc := 151) (ci := 12) (v := .int x12) (C := RX12) (T := TX12) (N := 73) hx hb hts iX12 hown hK hP 0 rfl rfl 25 (by decide) (hts _ tw_1426) (fun _ h9 => h9) rfl dX12_isLeast_151 ?_
                                          refine b_icmp_ge (pc := 154) (tgt := 177) hx hb rfl rfl  dX12_isLeast_154 (by decide) (fun c_53 => ?_) (fun c_53 => ?_)
                                          ·
                                            as_aux_lemma =>
                                              refine lv_aload_n (pc := 177) hx hb dX12_isLeast_177 rfl (lv_at hl 4 rfl) ?_
                                              refine lv_iload_n (pc := 178) hx hb dX12_isLeast_178 rfl (lv_at hl 5 rfl) ?_
                                              refine lv_iload_n (pc := 179) hx hb dX12_isLeast_179 rfl (lv_at hl 6 rfl) ?_
                                              refine lv_iload_n (pc := 180) hx hb dX12_isLeast_180 rfl (lv_at hl 7 rfl) ?_
                                              refine gd_i (pc := 181) (wc := (zS_33 cB cC cI cJ a0 a1 x3 x4 x5 x6 x7 x8 x9 x10 a2 a3 a4 a5 a6 a7 a8 a9 a10 a11 a12 a13 a14 a15 a16 x11 x12 x13 x14 x15 x16 a17 a18 a19 x17 a20 x18 a21 x19 x20 a22 a23 a24 a25 x21 a26 x22 a27 a28 a29 y0 a30 a31 a32 a33 a34 a35 a36 a37 a38 x23 x24 x25 r_25 a39 x26 a40 a41 a42 a43 x27 x28 x29 x30 a29 f_11)) hP hD hS hA [0, 1] rfl (by decide +kernel) (fun _ => by rfl) (fun hPc hDc => va_runV (As := [.int x0, .int x1, .int x2]) (rest := []) ⟨hx, hb, hml, hown, hts⟩ (k_X12_isNext l D cB cC cI cJ _ a0 a1 a2 a3 a4 a5 a6 a7 a8 a9 a10 a11 a12 a13 a14 a15 a16 a17 a18 a19 a20 a21 a22 a23 a24 a25 a26 a27 a28 a29 a30 a31 a32 a33 a34 a35 a36 a37 a38 a39 a40 a41 a42 a43 x0 x1 x2 x3 x4 x5 x6 x7 x8 x9 x10 x11 x12 x13 x14 x15 x16 x17 x18 x19 x20 x21 x22 x23 x24 x25 x26 x27 x28 x29 x30 y0 r_25 f_11 hp2 hp3 h_x3 h_x4 h_x5 h_x6 h_x7 h_x8 h_x11 h_x12 h_x13 h_x14 h_x15 h_x17 h_x18 h_x19 h_x21 h_x22 h_x23 h_x24 h_x25 h_x26 h_x27 h_x28 h_x29 h_x30 hr_a0_0 hr_a0_1 hr_a0_2 hg__ms (hi_13 (by first | exact (om_798 c_15) | ((first | omega | (unfold zBd at *; omega)))))) ⟨gcwB hts tw_1975 tw_14 tw_1972 hd_yX12_isNext ⟨Nat.le_of_ble_eq_true rfl, Nat.le_of_ble_eq_true rfl⟩, hts _ tw_1974, hts _ tp_110⟩ ⟨gblind, va_recv hK hPc (ci := 12) (q0 := 0) rfl rfl, (gpreS hPc hK hDc hN).2⟩ rfl rfl hl.1 rfl (lv_room (Nat.le_of_ble_eq_true rfl)) dX12_isLeast_181 ⟨Nat.le_of_ble_eq_true rfl, Nat.le_of_ble_eq_true rfl⟩) (fun r_55 u_54 H locs hw_56 hP hD hS => ?_)
                                              replace hP : va_P D gcl (zS_10 cB cC cI cJ a0 a1 x3 x4 x5 x6 x7 x8 x9 x10 a2 a3 a4 a5 a6 a7 a8 a9 a10 a11 a12 a13 a14 a15 a16 x11 x12 x13 x14 x15 x16 a17 a18 a19 x17 a20 x18 a21 x19 x20 a22 a23 a24 a25 x21 a26 x22 a27 a28 a29 y0 a30 a31 a32 a33 a34 a35 a36 a37 a38 x23 x24 x25 r_25 a39 x26 a40 a41 a42 a43 x27 x28 x29 x30 a29 (u_54.2.1 0) a18 f1 a28 f2 a39 f_51) H := hP
                                              replace hD : va_D A (zS_10 cB cC cI cJ a0 a1 x3 x4 x5 x6 x7 x8 x9 x10 a2 a3 a4 a5 a6 a7 a8 a9 a10 a11 a12 a13 a14 a15 a16 x11 x12 x13 x14 x15 x16 a17 a18 a19 x17 a20 x18 a21 x19 x20 a22 a23 a24 a25 x21 a26 x22 a27 a28 a29 y0 a30 a31 a32 a33 a34 a35 a36 a37 a38 x23 x24 x25 r_25 a39 x26 a40 a41 a42 a43 x27 x28 x29 x30 a29 (u_54.2.1 0) a18 f1 a28 f2 a39 f_51) := hD
                                              obtain ⟨hw_57, hw_58⟩ := hw_56
                                              replace hw_57 : (0 ≤ r_55.toInt ∧ r_55.toInt ≤ 1) := hw_57
                                              replace hw_58 : ((r_55.toInt ≠ 0 → muL (u_54.2.1 0) (x12.toInt).toNat < muL f_11 (x12.toInt).toNat ∧ RM (u_54.2.1 0) 0 x12.toInt x1.toInt) ∧ True) := hw_58
                                              have rr_55 : zBd r_55.toInt (-2147483648) 2147483647 := n_rng r_55
                                              refine lv_istore (pc := 184) (lv' := [(4, .int r_55), (8, .int x_49), (6, .long r_25), (5, .int x_19), (0, .ref a0), (1, .int x0), (2, .int x1), (3, .int x2)]) hx hb dX12_isLeast_184 hl (by decide) rfl (fun ls hl => ?_)
                                              refine lv_goto (pc := 186) (tgt := 51) hx hb dX12_isLeast_186 (by decide) ?_
                                              exact ih_lp_14 r_55 r_25 (u_54.2.1 0) f_51 _ _ ls hw_57 (fun h => (hw_58.1 h).2) (muM_dec hmu_lp_14 (by (first | omega | (unfold zBd at *; omega))) (fun h => ⟨(hw_58.1 h).1, muL_pos _ (fun j a b => (hw_58.1 h).2 j a (by (first | omega | (unfold zBd at *; omega)))) (by (first | omega | (unfold zBd at *; omega)))⟩) (muL_pos _ (fun j a b => (hi_13 (by (first | omega | (unfold zBd at *; omega)))) j a (by (first | omega | (unfold zBd at *; omega)))) (by (first | omega | (unfold zBd at *; omega))))) hP hD hS (lv_sub hl [0, 4, 5, 6, 7] rfl)
                                          ·
                                            as_aux_lemma =>
                                              refine lv_aload_n (pc := 157) hx hb dX12_isLeast_157 rfl (lv_at hl 4 rfl) ?_
                                              refine va_get (pc := 158) (ci := 12) (v := .ref a39) (C := RX12) (T := TX12) (N := 73) hx hb hts iX12 hown hK hP 0 rfl rfl 63 (by decide) (hts _ tw_1464) (fun _ h9 => h9) rfl dX12_isLeast_158 ?_
                                              refine lv_iload (pc := 161) hx hb dX12_isLeast_161 (lv_at hl 0 rfl) ?_
                                              refine lv_aload_n (pc := 163) hx hb dX12_isLeast_163 rfl (lv_at hl 4 rfl) ?_
                                              refine va_get (pc := 164) (ci := 12) (v := .ref a29) (C := RX12) (T := TX12) (N := 73) hx hb hts iX12 hown hK hP 0 rfl rfl 48 (by decide) (hts _ tw_1449) (fun _ h9 => h9) rfl dX12_isLeast_164 ?_
                                              refine lv_iload (pc := 167) hx hb dX12_isLeast_167 (lv_at hl 0 rfl) ?_
                                              refine va_iald (pc := 169) hx hb hK hP 1 2 rfl rfl (n_in rfl (by first | exact (om_0 hi_50.1) | ((first | omega | (unfold zBd at *; omega)))) (by first | exact (om_1020 c_53 h_x12.2) | ((first | omega | (unfold zBd at *; omega))))) dX12_isLeast_169 ?_
                                              refine lv_topi (fun x_59 ex_59 => ?_)
                                              have rx_59 : zBd x_59.toInt (-2147483648) 2147483647 := n_rng x_59
                                              replace ex_59 : x_59 = f_11 (x_49.toInt).toNat := ex_59
                                              have tx_59 := congrArg Int32.toInt ex_59
                                              refine g_iastore (pc := 170) hx hb hK hP hD hS 4 2 rfl rfl (n_in rfl (by first | exact (om_0 hi_50.1) | ((first | omega | (unfold zBd at *; omega)))) (by first | exact (om_1020 c_53 h_x12.2) | ((first | omega | (unfold zBd at *; omega))))) dX12_isLeast_170 (fun f_60 H locs hP hD hS => ?_)
                                              replace hP : va_P D gcl (zS_10 cB cC cI cJ a0 a1 x3 x4 x5 x6 x7 x8 x9 x10 a2 a3 a4 a5 a6 a7 a8 a9 a10 a11 a12 a13 a14 a15 a16 x11 x12 x13 x14 x15 x16 a17 a18 a19 x17 a20 x18 a21 x19 x20 a22 a23 a24 a25 x21 a26 x22 a27 a28 a29 y0 a30 a31 a32 a33 a34 a35 a36 a37 a38 x23 x24 x25 r_25 a39 x26 a40 a41 a42 a43 x27 x28 x29 x30 a29 f_11 a18 f1 a28 f2 a39 f_60) H := hP
                                              replace hD : va_D A (zS_10 cB cC cI cJ a0 a1 x3 x4 x5 x6 x7 x8 x9 x10 a2 a3 a4 a5 a6 a7 a8 a9 a10 a11 a12 a13 a14 a15 a16 x11 x12 x13 x14 x15 x16 a17 a18 a19 x17 a20 x18 a21 x19 x20 a22 a23 a24 a25 x21 a26 x22 a27 a28 a29 y0 a30 a31 a32 a33 a34 a35 a36 a37 a38 x23 x24 x25 r_25 a39 x26 a40 a41 a42 a43 x27 x28 x29 x30 a29 f_11 a18 f1 a28 f2 a39 f_60) := hD
                                              refine b_iinc (pc := 171) hx hb dX12_isLeast_171 hl (k := 0) rfl rfl tI_1 (by first | exact (om_2 hi_50.1) | ((first | omega | (unfold zBd at *; omega)))) (by first | exact (om_338 c_53 h_x12.2) | ((first | omega | (unfold zBd at *; omega)))) (by decide) (fun x_61 ex_61 ls hl => ?_)
                                              replace hl : lv_has ls 9 [(8, .int x_61), (6, .long r_25), (5, .int x_19), (4, .int x_7), (0, .ref a0), (1, .int x0), (2, .int x1), (3, .int x2)] := hl
                                              as_aux_lemma =>
                                                refine lv_goto (pc := 174) (tgt := 148) hx hb dX12_isLeast_174 (by decide) ?_
                                                exact ih_lp_52 x_61 f_60 _ _ ls (by first | exact (om_339 ex_61 hi_50.1 c_53 h_x12.2) | ((first | omega | (unfold zBd at *; omega)))) (by (first | omega | (unfold zBd at *; omega))) hP hD hS (lv_sub hl [0, 1, 2, 3, 4, 5, 6, 7] rfl)
                                      exact lp_52 _ 0 f_12 _ _ ls (n_c tI_0 (by decide)) (Nat.lt_succ_self _) hP hD hS (lv_sub hl [0, 1, 2, 3, 4, 5, 6, 7] rfl)
                          ·
                            as_aux_lemma =>
                              refine lv_lconst (pc := 104) (v := 0) hx hb dX12_isLeast_104 (by decide) ?_
                              refine lv_goto (pc := 105) (tgt := 113) hx hb dX12_isLeast_105 (by decide) ?_
                              refine lv_lstore (pc := 113) (lv' := [(6, .long 0), (5, .int x_19), (4, .int x_7), (0, .ref a0), (1, .int x0), (2, .int x1), (3, .int x2)]) hx hb dX12_isLeast_113 hl (by decide) rfl (fun ls hl => ?_)
                              refine lv_iload (pc := 115) hx hb dX12_isLeast_115 (lv_at hl 1 rfl) ?_
                              refine b_if_ne (pc := 117) (tgt := 177) hx hb rfl  dX12_isLeast_117 (by decide) (fun c_62 => ?_) (fun c_62 => ?_)
                              ·
                                as_aux_lemma =>
                                  refine lv_aload_n (pc := 177) hx hb dX12_isLeast_177 rfl (lv_at hl 3 rfl) ?_
                                  refine lv_iload_n (pc := 178) hx hb dX12_isLeast_178 rfl (lv_at hl 4 rfl) ?_
                                  refine lv_iload_n (pc := 179) hx hb dX12_isLeast_179 rfl (lv_at hl 5 rfl) ?_
                                  refine lv_iload_n (pc := 180) hx hb dX12_isLeast_180 rfl (lv_at hl 6 rfl) ?_
                                  refine gd_i (pc := 181) (wc := (zS_33 cB cC cI cJ a0 a1 x3 x4 x5 x6 x7 x8 x9 x10 a2 a3 a4 a5 a6 a7 a8 a9 a10 a11 a12 a13 a14 a15 a16 x11 x12 x13 x14 x15 x16 a17 a18 a19 x17 a20 x18 a21 x19 x20 a22 a23 a24 a25 x21 a26 x22 a27 a28 a29 y0 a30 a31 a32 a33 a34 a35 a36 a37 a38 x23 x24 x25 y_9 a39 x26 a40 a41 a42 a43 x27 x28 x29 x30 a29 f_11)) hP hD hS hA [0, 1] rfl (by decide +kernel) (fun _ => by rfl) (fun hPc hDc => va_runV (As := [.int x0, .int x1, .int x2]) (rest := []) ⟨hx, hb, hml, hown, hts⟩ (k_X12_isNext l D cB cC cI cJ _ a0 a1 a2 a3 a4 a5 a6 a7 a8 a9 a10 a11 a12 a13 a14 a15 a16 a17 a18 a19 a20 a21 a22 a23 a24 a25 a26 a27 a28 a29 a30 a31 a32 a33 a34 a35 a36 a37 a38 a39 a40 a41 a42 a43 x0 x1 x2 x3 x4 x5 x6 x7 x8 x9 x10 x11 x12 x13 x14 x15 x16 x17 x18 x19 x20 x21 x22 x23 x24 x25 x26 x27 x28 x29 x30 y0 y_9 f_11 hp2 hp3 h_x3 h_x4 h_x5 h_x6 h_x7 h_x8 h_x11 h_x12 h_x13 h_x14 h_x15 h_x17 h_x18 h_x19 h_x21 h_x22 h_x23 h_x24 h_x25 h_x26 h_x27 h_x28 h_x29 h_x30 hr_a0_0 hr_a0_1 hr_a0_2 hg__ms (hi_13 (by first | exact (om_798 c_15) | ((first | omega | (unfold zBd at *; omega)))))) ⟨gcwB hts tw_1975 tw_14 tw_1972 hd_yX12_isNext ⟨Nat.le_of_ble_eq_true rfl, Nat.le_of_ble_eq_true rfl⟩, hts _ tw_1974, hts _ tp_110⟩ ⟨gblind, va_recv hK hPc (ci := 12) (q0 := 0) rfl rfl, (gpreS hPc hK hDc hN).2⟩ rfl rfl hl.1 rfl (lv_room (Nat.le_of_ble_eq_true rfl)) dX12_isLeast_181 ⟨Nat.le_of_ble_eq_true rfl, Nat.le_of_ble_eq_true rfl⟩) (fun r_64 u_63 H locs hw_65 hP hD hS => ?_)
                                  replace hP : va_P D gcl (zS_10 cB cC cI cJ a0 a1 x3 x4 x5 x6 x7 x8 x9 x10 a2 a3 a4 a5 a6 a7 a8 a9 a10 a11 a12 a13 a14 a15 a16 x11 x12 x13 x14 x15 x16 a17 a18 a19 x17 a20 x18 a21 x19 x20 a22 a23 a24 a25 x21 a26 x22 a27 a28 a29 y0 a30 a31 a32 a33 a34 a35 a36 a37 a38 x23 x24 x25 y_9 a39 x26 a40 a41 a42 a43 x27 x28 x29 x30 a29 (u_63.2.1 0) a18 f1 a28 f2 a39 f_12) H := hP
                                  replace hD : va_D A (zS_10 cB cC cI cJ a0 a1 x3 x4 x5 x6 x7 x8 x9 x10 a2 a3 a4 a5 a6 a7 a8 a9 a10 a11 a12 a13 a14 a15 a16 x11 x12 x13 x14 x15 x16 a17 a18 a19 x17 a20 x18 a21 x19 x20 a22 a23 a24 a25 x21 a26 x22 a27 a28 a29 y0 a30 a31 a32 a33 a34 a35 a36 a37 a38 x23 x24 x25 y_9 a39 x26 a40 a41 a42 a43 x27 x28 x29 x30 a29 (u_63.2.1 0) a18 f1 a28 f2 a39 f_12) := hD
                                  obtain ⟨hw_66, hw_67⟩ := hw_65
                                  replace hw_66 : (0 ≤ r_64.toInt ∧ r_64.toInt ≤ 1) := hw_66
                                  replace hw_67 : ((r_64.toInt ≠ 0 → muL (u_63.2.1 0) (x12.toInt).toNat < muL f_11 (x12.toInt).toNat ∧ RM (u_63.2.1 0) 0 x12.toInt x1.toInt) ∧ True) := hw_67
                                  have rr_64 : zBd r_64.toInt (-2147483648) 2147483647 := n_rng r_64
                                  refine lv_istore (pc := 184) (lv' := [(4, .int r_64), (6, .long 0), (5, .int x_19), (0, .ref a0), (1, .int x0), (2, .int x1), (3, .int x2)]) hx hb dX12_isLeast_184 hl (by decide) rfl (fun ls hl => ?_)
                                  refine lv_goto (pc := 186) (tgt := 51) hx hb dX12_isLeast_186 (by decide) ?_
                                  exact ih_lp_14 r_64 y_9 (u_63.2.1 0) f_12 _ _ ls hw_66 (fun h => (hw_67.1 h).2) (muM_dec hmu_lp_14 (by (first | omega | (unfold zBd at *; omega))) (fun h => ⟨(hw_67.1 h).1, muL_pos _ (fun j a b => (hw_67.1 h).2 j a (by (first | omega | (unfold zBd at *; omega)))) (by (first | omega | (unfold zBd at *; omega)))⟩) (muL_pos _ (fun j a b => (hi_13 (by (first | omega | (unfold zBd at *; omega)))) j a (by (first | omega | (unfold zBd at *; omega)))) (by (first | omega | (unfold zBd at *; omega))))) hP hD hS (lv_sub hl [0, 3, 4, 5, 6] rfl)
                              ·
                                as_aux_lemma =>
                                  refine lv_aload_n (pc := 120) hx hb dX12_isLeast_120 rfl (lv_at hl 3 rfl) ?_
                                  refine va_get (pc := 121) (ci := 12) (v := .long y_9) (C := RX12) (T := TX12) (N := 73) hx hb hts iX12 hown hK hP 0 rfl rfl 62 (by decide) (hts _ tw_1463) (fun _ h9 => h9) rfl dX12_isLeast_121 ?_
                                  refine lv_lconst (pc := 124) (v := 0) hx hb dX12_isLeast_124 (by decide) ?_
                                  refine b_lcmp_lt (pc := 125) (tgt := 139) hx hb rfl tL_0 dX12_isLeast_125 dX12_isLeast_126 (by decide) (fun c_68 => ?_) (fun c_68 => ?_)
                                  ·
                                    as_aux_lemma =>
                                      refine lv_aload_n (pc := 139) hx hb dX12_isLeast_139 rfl (lv_at hl 3 rfl) ?_
                                      refine lv_lload (pc := 140) hx hb dX12_isLeast_140 (lv_at hl 0 rfl) ?_
                                      refine va_put (pc := 142) (ci := 12) (v := .long 0) (ty := .long) (C := RX12) (T := TX12) (N := 73) hx hb hts iX12 tyX12 tyX12_ok nmX12 hown hK hP hD hS 0 rfl rfl 62 (by decide) (hts _ tw_1463) (fun _ h9 => h9) rfl (by decide +kernel) (by decide +kernel) (by decide +kernel) (Nat.le_of_ble_eq_true rfl) dX12_isLeast_142 (fun H locs hP hD hS => ?_)
                                      replace hP : va_P D gcl (zS_10 cB cC cI cJ a0 a1 x3 x4 x5 x6 x7 x8 x9 x10 a2 a3 a4 a5 a6 a7 a8 a9 a10 a11 a12 a13 a14 a15 a16 x11 x12 x13 x14 x15 x16 a17 a18 a19 x17 a20 x18 a21 x19 x20 a22 a23 a24 a25 x21 a26 x22 a27 a28 a29 y0 a30 a31 a32 a33 a34 a35 a36 a37 a38 x23 x24 x25 0 a39 x26 a40 a41 a42 a43 x27 x28 x29 x30 a29 f_11 a18 f1 a28 f2 a39 f_12) H := hP
                                      replace hD : va_D A (zS_10 cB cC cI cJ a0 a1 x3 x4 x5 x6 x7 x8 x9 x10 a2 a3 a4 a5 a6 a7 a8 a9 a10 a11 a12 a13 a14 a15 a16 x11 x12 x13 x14 x15 x16 a17 a18 a19 x17 a20 x18 a21 x19 x20 a22 a23 a24 a25 x21 a26 x22 a27 a28 a29 y0 a30 a31 a32 a33 a34 a35 a36 a37 a38 x23 x24 x25 0 a39 x26 a40 a41 a42 a43 x27 x28 x29 x30 a29 f_11 a18 f1 a28 f2 a39 f_12) := hD
                                      refine lv_iconst (pc := 145) (v := 0) hx hb dX12_isLeast_145 (by decide) ?_
                                      refine lv_istore (pc := 146) (lv' := [(8, .int 0), (6, .long 0), (5, .int x_19), (4, .int x_7), (0, .ref a0), (1, .int x0), (2, .int x1), (3, .int x2)]) hx hb dX12_isLeast_146 hl (by decide) rfl (fun ls hl => ?_)
                                      have lp_72 : ∀ (n : Nat) (x_69 : Int32) (f_71 : Nat → Int32) (H : Heap) (locs : List Loc) (ls : Array Slot), (0 ≤ x_69.toInt ∧ x_69.toInt ≤ 2147483647) → (2147483647 - x_69.toInt).toNat < n → va_P D gcl (zS_10 cB cC cI cJ a0 a1 x3 x4 x5 x6 x7 x8 x9 x10 a2 a3 a4 a5 a6 a7 a8 a9 a10 a11 a12 a13 a14 a15 a16 x11 x12 x13 x14 x15 x16 a17 a18 a19 x17 a20 x18 a21 x19 x20 a22 a23 a24 a25 x21 a26 x22 a27 a28 a29 y0 a30 a31 a32 a33 a34 a35 a36 a37 a38 x23 x24 x25 0 a39 x26 a40 a41 a42 a43 x27 x28 x29 x30 a29 f_11 a18 f1 a28 f2 a39 f_71) H → va_D A (zS_10 cB cC cI cJ a0 a1 x3 x4 x5 x6 x7 x8 x9 x10 a2 a3 a4 a5 a6 a7 a8 a9 a10 a11 a12 a13 a14 a15 a16 x11 x12 x13 x14 x15 x16 a17 a18 a19 x17 a20 x18 a21 x19 x20 a22 a23 a24 a25 x21 a26 x22 a27 a28 a29 y0 a30 a31 a32 a33 a34 a35 a36 a37 a38 x23 x24 x25 0 a39 x26 a40 a41 a42 a43 x27 x28 x29 x30 a29 f_11 a18 f1 a28 f2 a39 f_71) → va_S A s.heap H locs → lv_has ls 9 [(8, .int x_69), (6, .long 0), (5, .int x_19), (4, .int x_7), (0, .ref a0), (1, .int x0), (2, .int x1), (3, .int x2)] → W p l e ({ frames := 2, cells := 0, slots := 0, locals := 49 }) s m args below meth c H locs 0 0 Q (F0 m 148 ls []) := by
                                        intro n
                                        induction n with
                                        | zero => intro x_69 f_71 H locs ls hi_70 hmu; exact absurd hmu (Nat.not_lt_zero _)
                                        | succ n ih_lp_72 =>
                                          intro x_69 f_71 H locs ls hi_70 hmu_lp_72 hP hD hS hl
                                          refine lv_iload (pc := 148) hx hb dX12_isLeast_148 (lv_at hl 0 rfl) ?_
                                          refine lv_aload_n (pc := 150) hx hb dX12_isLeast_150 rfl (lv_at hl 4 rfl) ?_
                                          refine va_get (pc := 151) (ci := 12) (v := .int x12) (C := RX12) (T := TX12) (N := 73) hx hb hts iX12 hown hK hP 0 rfl rfl 25 (by decide) (hts _ tw_1426) (fun _ h9 => h9) rfl dX12_isLeast_151 ?_
                                          refine b_icmp_ge (pc := 154) (tgt := 177) hx hb rfl rfl  dX12_isLeast_154 (by decide) (fun c_73 => ?_) (fun c_73 => ?_)
                                          ·
                                            as_aux_lemma =>
                                              refine lv_aload_n (pc := 177) hx hb dX12_isLeast_177 rfl (lv_at hl 4 rfl) ?_
                                              refine lv_iload_n (pc := 178) hx hb dX12_isLeast_178 rfl (lv_at hl 5 rfl) ?_
                                              refine lv_iload_n (pc := 179) hx hb dX12_isLeast_179 rfl (lv_at hl 6 rfl) ?_
                                              refine lv_iload_n (pc := 180) hx hb dX12_isLeast_180 rfl (lv_at hl 7 rfl) ?_
                                              refine gd_i (pc := 181) (wc := (zS_33 cB cC cI cJ a0 a1 x3 x4 x5 x6 x7 x8 x9 x10 a2 a3 a4 a5 a6 a7 a8 a9 a10 a11 a12 a13 a14 a15 a16 x11 x12 x13 x14 x15 x16 a17 a18 a19 x17 a20 x18 a21 x19 x20 a22 a23 a24 a25 x21 a26 x22 a27 a28 a29 y0 a30 a31 a32 a33 a34 a35 a36 a37 a38 x23 x24 x25 0 a39 x26 a40 a41 a42 a43 x27 x28 x29 x30 a29 f_11)) hP hD hS hA [0, 1] rfl (by decide +kernel) (fun _ => by rfl) (fun hPc hDc => va_runV (As := [.int x0, .int x1, .int x2]) (rest := []) ⟨hx, hb, hml, hown, hts⟩ (k_X12_isNext l D cB cC cI cJ _ a0 a1 a2 a3 a4 a5 a6 a7 a8 a9 a10 a11 a12 a13 a14 a15 a16 a17 a18 a19 a20 a21 a22 a23 a24 a25 a26 a27 a28 a29 a30 a31 a32 a33 a34 a35 a36 a37 a38 a39 a40 a41 a42 a43 x0 x1 x2 x3 x4 x5 x6 x7 x8 x9 x10 x11 x12 x13 x14 x15 x16 x17 x18 x19 x20 x21 x22 x23 x24 x25 x26 x27 x28 x29 x30 y0 0 f_11 hp2 hp3 h_x3 h_x4 h_x5 h_x6 h_x7 h_x8 h_x11 h_x12 h_x13 h_x14 h_x15 h_x17 h_x18 h_x19 h_x21 h_x22 h_x23 h_x24 h_x25 h_x26 h_x27 h_x28 h_x29 h_x30 hr_a0_0 hr_a0_1 hr_a0_2 hg__ms (hi_13 (by first | exact (om_798 c_15) | ((first | omega | (unfold zBd at *; omega)))))) ⟨gcwB hts tw_1975 tw_14 tw_1972 hd_yX12_isNext ⟨Nat.le_of_ble_eq_true rfl, Nat.le_of_ble_eq_true rfl⟩, hts _ tw_1974, hts _ tp_110⟩ ⟨gblind, va_recv hK hPc (ci := 12) (q0 := 0) rfl rfl, (gpreS hPc hK hDc hN).2⟩ rfl rfl hl.1 rfl (lv_room (Nat.le_of_ble_eq_true rfl)) dX12_isLeast_181 ⟨Nat.le_of_ble_eq_true rfl, Nat.le_of_ble_eq_true rfl⟩) (fun r_75 u_74 H locs hw_76 hP hD hS => ?_)
                                              replace hP : va_P D gcl (zS_10 cB cC cI cJ a0 a1 x3 x4 x5 x6 x7 x8 x9 x10 a2 a3 a4 a5 a6 a7 a8 a9 a10 a11 a12 a13 a14 a15 a16 x11 x12 x13 x14 x15 x16 a17 a18 a19 x17 a20 x18 a21 x19 x20 a22 a23 a24 a25 x21 a26 x22 a27 a28 a29 y0 a30 a31 a32 a33 a34 a35 a36 a37 a38 x23 x24 x25 0 a39 x26 a40 a41 a42 a43 x27 x28 x29 x30 a29 (u_74.2.1 0) a18 f1 a28 f2 a39 f_71) H := hP
                                              replace hD : va_D A (zS_10 cB cC cI cJ a0 a1 x3 x4 x5 x6 x7 x8 x9 x10 a2 a3 a4 a5 a6 a7 a8 a9 a10 a11 a12 a13 a14 a15 a16 x11 x12 x13 x14 x15 x16 a17 a18 a19 x17 a20 x18 a21 x19 x20 a22 a23 a24 a25 x21 a26 x22 a27 a28 a29 y0 a30 a31 a32 a33 a34 a35 a36 a37 a38 x23 x24 x25 0 a39 x26 a40 a41 a42 a43 x27 x28 x29 x30 a29 (u_74.2.1 0) a18 f1 a28 f2 a39 f_71) := hD
                                              obtain ⟨hw_77, hw_78⟩ := hw_76
                                              replace hw_77 : (0 ≤ r_75.toInt ∧ r_75.toInt ≤ 1) := hw_77
                                              replace hw_78 : ((r_75.toInt ≠ 0 → muL (u_74.2.1 0) (x12.toInt).toNat < muL f_11 (x12.toInt).toNat ∧ RM (u_74.2.1 0) 0 x12.toInt x1.toInt) ∧ True) := hw_78
                                              have kk0_r_75 := tL_0
                                              have rr_75 : zBd r_75.toInt (-2147483648) 2147483647 := n_rng r_75
                                              refine lv_istore (pc := 184) (lv' := [(4, .int r_75), (8, .int x_69), (6, .long 0), (5, .int x_19), (0, .ref a0), (1, .int x0), (2, .int x1), (3, .int x2)]) hx hb dX12_isLeast_184 hl (by decide) rfl (fun ls hl => ?_)
                                              refine lv_goto (pc := 186) (tgt := 51) hx hb dX12_isLeast_186 (by decide) ?_
                                              exact ih_lp_14 r_75 0 (u_74.2.1 0) f_71 _ _ ls hw_77 (fun h => (hw_78.1 h).2) (muM_dec hmu_lp_14 (by (first | omega | (unfold zBd at *; omega))) (fun h => ⟨(hw_78.1 h).1, muL_pos _ (fun j a b => (hw_78.1 h).2 j a (by (first | omega | (unfold zBd at *; omega)))) (by (first | omega | (unfold zBd at *; omega)))⟩) (muL_pos _ (fun j a b => (hi_13 (by (first | omega | (unfold zBd at *; omega)))) j a (by (first | omega | (unfold zBd at *; omega)))) (by (first | omega | (unfold zBd at *; omega))))) hP hD hS (lv_sub hl [0, 4, 5, 6, 7] rfl)
                                          ·
                                            as_aux_lemma =>
                                              refine lv_aload_n (pc := 157) hx hb dX12_isLeast_157 rfl (lv_at hl 4 rfl) ?_
                                              refine va_get (pc := 158) (ci := 12) (v := .ref a39) (C := RX12) (T := TX12) (N := 73) hx hb hts iX12 hown hK hP 0 rfl rfl 63 (by decide) (hts _ tw_1464) (fun _ h9 => h9) rfl dX12_isLeast_158 ?_
                                              refine lv_iload (pc := 161) hx hb dX12_isLeast_161 (lv_at hl 0 rfl) ?_
                                              refine lv_aload_n (pc := 163) hx hb dX12_isLeast_163 rfl (lv_at hl 4 rfl) ?_
                                              refine va_get (pc := 164) (ci := 12) (v := .ref a29) (C := RX12) (T := TX12) (N := 73) hx hb hts iX12 hown hK hP 0 rfl rfl 48 (by decide) (hts _ tw_1449) (fun _ h9 => h9) rfl dX12_isLeast_164 ?_
                                              refine lv_iload (pc := 167) hx hb dX12_isLeast_167 (lv_at hl 0 rfl) ?_
                                              refine va_iald (pc := 169) hx hb hK hP 1 2 rfl rfl (n_in rfl (by first | exact (om_0 hi_70.1) | ((first | omega | (unfold zBd at *; omega)))) (by first | exact (om_1020 c_73 h_x12.2) | ((first | omega | (unfold zBd at *; omega))))) dX12_isLeast_169 ?_
                                              refine lv_topi (fun x_79 ex_79 => ?_)
                                              have rx_79 : zBd x_79.toInt (-2147483648) 2147483647 := n_rng x_79
                                              replace ex_79 : x_79 = f_11 (x_69.toInt).toNat := ex_79
                                              have tx_79 := congrArg Int32.toInt ex_79
                                              refine g_iastore (pc := 170) hx hb hK hP hD hS 4 2 rfl rfl (n_in rfl (by first | exact (om_0 hi_70.1) | ((first | omega | (unfold zBd at *; omega)))) (by first | exact (om_1020 c_73 h_x12.2) | ((first | omega | (unfold zBd at *; omega))))) dX12_isLeast_170 (fun f_80 H locs hP hD hS => ?_)
                                              replace hP : va_P D gcl (zS_10 cB cC cI cJ a0 a1 x3 x4 x5 x6 x7 x8 x9 x10 a2 a3 a4 a5 a6 a7 a8 a9 a10 a11 a12 a13 a14 a15 a16 x11 x12 x13 x14 x15 x16 a17 a18 a19 x17 a20 x18 a21 x19 x20 a22 a23 a24 a25 x21 a26 x22 a27 a28 a29 y0 a30 a31 a32 a33 a34 a35 a36 a37 a38 x23 x24 x25 0 a39 x26 a40 a41 a42 a43 x27 x28 x29 x30 a29 f_11 a18 f1 a28 f2 a39 f_80) H := hP
                                              replace hD : va_D A (zS_10 cB cC cI cJ a0 a1 x3 x4 x5 x6 x7 x8 x9 x10 a2 a3 a4 a5 a6 a7 a8 a9 a10 a11 a12 a13 a14 a15 a16 x11 x12 x13 x14 x15 x16 a17 a18 a19 x17 a20 x18 a21 x19 x20 a22 a23 a24 a25 x21 a26 x22 a27 a28 a29 y0 a30 a31 a32 a33 a34 a35 a36 a37 a38 x23 x24 x25 0 a39 x26 a40 a41 a42 a43 x27 x28 x29 x30 a29 f_11 a18 f1 a28 f2 a39 f_80) := hD
                                              refine b_iinc (pc := 171) hx hb dX12_isLeast_171 hl (k := 0) rfl rfl tI_1 (by first | exact (om_2 hi_70.1) | ((first | omega | (unfold zBd at *; omega)))) (by first | exact (om_338 c_73 h_x12.2) | ((first | omega | (unfold zBd at *; omega)))) (by decide) (fun x_81 ex_81 ls hl => ?_)
                                              replace hl : lv_has ls 9 [(8, .int x_81), (6, .long 0), (5, .int x_19), (4, .int x_7), (0, .ref a0), (1, .int x0), (2, .int x1), (3, .int x2)] := hl
                                              as_aux_lemma =>
                                                refine lv_goto (pc := 174) (tgt := 148) hx hb dX12_isLeast_174 (by decide) ?_
                                                exact ih_lp_72 x_81 f_80 _ _ ls (by first | exact (om_339 ex_81 hi_70.1 c_73 h_x12.2) | ((first | omega | (unfold zBd at *; omega)))) (by (first | omega | (unfold zBd at *; omega))) hP hD hS (lv_sub hl [0, 1, 2, 3, 4, 5, 6, 7] rfl)
                                      exact lp_72 _ 0 f_12 _ _ ls (n_c tI_0 (by decide)) (Nat.lt_succ_self _) hP hD hS (lv_sub hl [0, 1, 2, 3, 4, 5, 6, 7] rfl)
                                  ·
                                    as_aux_lemma =>
                                      refine lv_lload (pc := 129) hx hb dX12_isLeast_129 (lv_at hl 0 rfl) ?_
                                      refine lv_aload_n (pc := 131) hx hb dX12_isLeast_131 rfl (lv_at hl 3 rfl) ?_
                                      refine va_get (pc := 132) (ci := 12) (v := .long y_9) (C := RX12) (T := TX12) (N := 73) hx hb hts iX12 hown hK hP 0 rfl rfl 62 (by decide) (hts _ tw_1463) (fun _ h9 => h9) rfl dX12_isLeast_132 ?_
                                      refine b_lcmp_ge (pc := 135) (tgt := 177) hx hb tL_0 rfl dX12_isLeast_135 dX12_isLeast_136 (by decide) (fun c_82 => ?_) (fun c_82 => ?_)
                                      ·
                                        as_aux_lemma =>
                                          refine lv_aload_n (pc := 177) hx hb dX12_isLeast_177 rfl (lv_at hl 3 rfl) ?_
                                          refine lv_iload_n (pc := 178) hx hb dX12_isLeast_178 rfl (lv_at hl 4 rfl) ?_
                                          refine lv_iload_n (pc := 179) hx hb dX12_isLeast_179 rfl (lv_at hl 5 rfl) ?_
                                          refine lv_iload_n (pc := 180) hx hb dX12_isLeast_180 rfl (lv_at hl 6 rfl) ?_
                                          refine gd_i (pc := 181) (wc := (zS_33 cB cC cI cJ a0 a1 x3 x4 x5 x6 x7 x8 x9 x10 a2 a3 a4 a5 a6 a7 a8 a9 a10 a11 a12 a13 a14 a15 a16 x11 x12 x13 x14 x15 x16 a17 a18 a19 x17 a20 x18 a21 x19 x20 a22 a23 a24 a25 x21 a26 x22 a27 a28 a29 y0 a30 a31 a32 a33 a34 a35 a36 a37 a38 x23 x24 x25 y_9 a39 x26 a40 a41 a42 a43 x27 x28 x29 x30 a29 f_11)) hP hD hS hA [0, 1] rfl (by decide +kernel) (fun _ => by rfl) (fun hPc hDc => va_runV (As := [.int x0, .int x1, .int x2]) (rest := []) ⟨hx, hb, hml, hown, hts⟩ (k_X12_isNext l D cB cC cI cJ _ a0 a1 a2 a3 a4 a5 a6 a7 a8 a9 a10 a11 a12 a13 a14 a15 a16 a17 a18 a19 a20 a21 a22 a23 a24 a25 a26 a27 a28 a29 a30 a31 a32 a33 a34 a35 a36 a37 a38 a39 a40 a41 a42 a43 x0 x1 x2 x3 x4 x5 x6 x7 x8 x9 x10 x11 x12 x13 x14 x15 x16 x17 x18 x19 x20 x21 x22 x23 x24 x25 x26 x27 x28 x29 x30 y0 y_9 f_11 hp2 hp3 h_x3 h_x4 h_x5 h_x6 h_x7 h_x8 h_x11 h_x12 h_x13 h_x14 h_x15 h_x17 h_x18 h_x19 h_x21 h_x22 h_x23 h_x24 h_x25 h_x26 h_x27 h_x28 h_x29 h_x30 hr_a0_0 hr_a0_1 hr_a0_2 hg__ms (hi_13 (by first | exact (om_798 c_15) | ((first | omega | (unfold zBd at *; omega)))))) ⟨gcwB hts tw_1975 tw_14 tw_1972 hd_yX12_isNext ⟨Nat.le_of_ble_eq_true rfl, Nat.le_of_ble_eq_true rfl⟩, hts _ tw_1974, hts _ tp_110⟩ ⟨gblind, va_recv hK hPc (ci := 12) (q0 := 0) rfl rfl, (gpreS hPc hK hDc hN).2⟩ rfl rfl hl.1 rfl (lv_room (Nat.le_of_ble_eq_true rfl)) dX12_isLeast_181 ⟨Nat.le_of_ble_eq_true rfl, Nat.le_of_ble_eq_true rfl⟩) (fun r_84 u_83 H locs hw_85 hP hD hS => ?_)
                                          replace hP : va_P D gcl (zS_10 cB cC cI cJ a0 a1 x3 x4 x5 x6 x7 x8 x9 x10 a2 a3 a4 a5 a6 a7 a8 a9 a10 a11 a12 a13 a14 a15 a16 x11 x12 x13 x14 x15 x16 a17 a18 a19 x17 a20 x18 a21 x19 x20 a22 a23 a24 a25 x21 a26 x22 a27 a28 a29 y0 a30 a31 a32 a33 a34 a35 a36 a37 a38 x23 x24 x25 y_9 a39 x26 a40 a41 a42 a43 x27 x28 x29 x30 a29 (u_83.2.1 0) a18 f1 a28 f2 a39 f_12) H := hP
                                          replace hD : va_D A (zS_10 cB cC cI cJ a0 a1 x3 x4 x5 x6 x7 x8 x9 x10 a2 a3 a4 a5 a6 a7 a8 a9 a10 a11 a12 a13 a14 a15 a16 x11 x12 x13 x14 x15 x16 a17 a18 a19 x17 a20 x18 a21 x19 x20 a22 a23 a24 a25 x21 a26 x22 a27 a28 a29 y0 a30 a31 a32 a33 a34 a35 a36 a37 a38 x23 x24 x25 y_9 a39 x26 a40 a41 a42 a43 x27 x28 x29 x30 a29 (u_83.2.1 0) a18 f1 a28 f2 a39 f_12) := hD
                                          obtain ⟨hw_86, hw_87⟩ := hw_85
                                          replace hw_86 : (0 ≤ r_84.toInt ∧ r_84.toInt ≤ 1) := hw_86
                                          replace hw_87 : ((r_84.toInt ≠ 0 → muL (u_83.2.1 0) (x12.toInt).toNat < muL f_11 (x12.toInt).toNat ∧ RM (u_83.2.1 0) 0 x12.toInt x1.toInt) ∧ True) := hw_87
                                          have rr_84 : zBd r_84.toInt (-2147483648) 2147483647 := n_rng r_84
                                          refine lv_istore (pc := 184) (lv' := [(4, .int r_84), (6, .long 0), (5, .int x_19), (0, .ref a0), (1, .int x0), (2, .int x1), (3, .int x2)]) hx hb dX12_isLeast_184 hl (by decide) rfl (fun ls hl => ?_)
                                          refine lv_goto (pc := 186) (tgt := 51) hx hb dX12_isLeast_186 (by decide) ?_
                                          exact ih_lp_14 r_84 y_9 (u_83.2.1 0) f_12 _ _ ls hw_86 (fun h => (hw_87.1 h).2) (muM_dec hmu_lp_14 (by (first | omega | (unfold zBd at *; omega))) (fun h => ⟨(hw_87.1 h).1, muL_pos _ (fun j a b => (hw_87.1 h).2 j a (by (first | omega | (unfold zBd at *; omega)))) (by (first | omega | (unfold zBd at *; omega)))⟩) (muL_pos _ (fun j a b => (hi_13 (by (first | omega | (unfold zBd at *; omega)))) j a (by (first | omega | (unfold zBd at *; omega)))) (by (first | omega | (unfold zBd at *; omega))))) hP hD hS (lv_sub hl [0, 3, 4, 5, 6] rfl)
                                      ·
                                        as_aux_lemma =>
                                          refine lv_aload_n (pc := 139) hx hb dX12_isLeast_139 rfl (lv_at hl 3 rfl) ?_
                                          refine lv_lload (pc := 140) hx hb dX12_isLeast_140 (lv_at hl 0 rfl) ?_
                                          refine va_put (pc := 142) (ci := 12) (v := .long 0) (ty := .long) (C := RX12) (T := TX12) (N := 73) hx hb hts iX12 tyX12 tyX12_ok nmX12 hown hK hP hD hS 0 rfl rfl 62 (by decide) (hts _ tw_1463) (fun _ h9 => h9) rfl (by decide +kernel) (by decide +kernel) (by decide +kernel) (Nat.le_of_ble_eq_true rfl) dX12_isLeast_142 (fun H locs hP hD hS => ?_)
                                          replace hP : va_P D gcl (zS_10 cB cC cI cJ a0 a1 x3 x4 x5 x6 x7 x8 x9 x10 a2 a3 a4 a5 a6 a7 a8 a9 a10 a11 a12 a13 a14 a15 a16 x11 x12 x13 x14 x15 x16 a17 a18 a19 x17 a20 x18 a21 x19 x20 a22 a23 a24 a25 x21 a26 x22 a27 a28 a29 y0 a30 a31 a32 a33 a34 a35 a36 a37 a38 x23 x24 x25 0 a39 x26 a40 a41 a42 a43 x27 x28 x29 x30 a29 f_11 a18 f1 a28 f2 a39 f_12) H := hP
                                          replace hD : va_D A (zS_10 cB cC cI cJ a0 a1 x3 x4 x5 x6 x7 x8 x9 x10 a2 a3 a4 a5 a6 a7 a8 a9 a10 a11 a12 a13 a14 a15 a16 x11 x12 x13 x14 x15 x16 a17 a18 a19 x17 a20 x18 a21 x19 x20 a22 a23 a24 a25 x21 a26 x22 a27 a28 a29 y0 a30 a31 a32 a33 a34 a35 a36 a37 a38 x23 x24 x25 0 a39 x26 a40 a41 a42 a43 x27 x28 x29 x30 a29 f_11 a18 f1 a28 f2 a39 f_12) := hD
                                          refine lv_iconst (pc := 145) (v := 0) hx hb dX12_isLeast_145 (by decide) ?_
                                          refine lv_istore (pc := 146) (lv' := [(8, .int 0), (6, .long 0), (5, .int x_19), (4, .int x_7), (0, .ref a0), (1, .int x0), (2, .int x1), (3, .int x2)]) hx hb dX12_isLeast_146 hl (by decide) rfl (fun ls hl => ?_)
                                          have lp_91 : ∀ (n : Nat) (x_88 : Int32) (f_90 : Nat → Int32) (H : Heap) (locs : List Loc) (ls : Array Slot), (0 ≤ x_88.toInt ∧ x_88.toInt ≤ 2147483647) → (2147483647 - x_88.toInt).toNat < n → va_P D gcl (zS_10 cB cC cI cJ a0 a1 x3 x4 x5 x6 x7 x8 x9 x10 a2 a3 a4 a5 a6 a7 a8 a9 a10 a11 a12 a13 a14 a15 a16 x11 x12 x13 x14 x15 x16 a17 a18 a19 x17 a20 x18 a21 x19 x20 a22 a23 a24 a25 x21 a26 x22 a27 a28 a29 y0 a30 a31 a32 a33 a34 a35 a36 a37 a38 x23 x24 x25 0 a39 x26 a40 a41 a42 a43 x27 x28 x29 x30 a29 f_11 a18 f1 a28 f2 a39 f_90) H → va_D A (zS_10 cB cC cI cJ a0 a1 x3 x4 x5 x6 x7 x8 x9 x10 a2 a3 a4 a5 a6 a7 a8 a9 a10 a11 a12 a13 a14 a15 a16 x11 x12 x13 x14 x15 x16 a17 a18 a19 x17 a20 x18 a21 x19 x20 a22 a23 a24 a25 x21 a26 x22 a27 a28 a29 y0 a30 a31 a32 a33 a34 a35 a36 a37 a38 x23 x24 x25 0 a39 x26 a40 a41 a42 a43 x27 x28 x29 x30 a29 f_11 a18 f1 a28 f2 a39 f_90) → va_S A s.heap H locs → lv_has ls 9 [(8, .int x_88), (6, .long 0), (5, .int x_19), (4, .int x_7), (0, .ref a0), (1, .int x0), (2, .int x1), (3, .int x2)] → W p l e ({ frames := 2, cells := 0, slots := 0, locals := 49 }) s m args below meth c H locs 0 0 Q (F0 m 148 ls []) := by
                                            intro n
                                            induction n with
                                            | zero => intro x_88 f_90 H locs ls hi_89 hmu; exact absurd hmu (Nat.not_lt_zero _)
                                            | succ n ih_lp_91 =>
                                              intro x_88 f_90 H locs ls hi_89 hmu_lp_91 hP hD hS hl
                                              refine lv_iload (pc := 148) hx hb dX12_isLeast_148 (lv_at hl 0 rfl) ?_
                                              refine lv_aload_n (pc := 150) hx hb dX12_isLeast_150 rfl (lv_at hl 4 rfl) ?_
                                              refine va_get (pc := 151) (ci := 12) (v := .int x12) (C := RX12) (T := TX12) (N := 73) hx hb hts iX12 hown hK hP 0 rfl rfl 25 (by decide) (hts _ tw_1426) (fun _ h9 => h9) rfl dX12_isLeast_151 ?_
                                              refine b_icmp_ge (pc := 154) (tgt := 177) hx hb rfl rfl  dX12_isLeast_154 (by decide) (fun c_92 => ?_) (fun c_92 => ?_)
                                              ·
                                                as_aux_lemma =>
                                                  refine lv_aload_n (pc := 177) hx hb dX12_isLeast_177 rfl (lv_at hl 4 rfl) ?_
                                                  refine lv_iload_n (pc := 178) hx hb dX12_isLeast_178 rfl (lv_at hl 5 rfl) ?_
                                                  refine lv_iload_n (pc := 179) hx hb dX12_isLeast_179 rfl (lv_at hl 6 rfl) ?_
                                                  refine lv_iload_n (pc := 180) hx hb dX12_isLeast_180 rfl (lv_at hl 7 rfl) ?_
                                                  refine gd_i (pc := 181) (wc := (zS_33 cB cC cI cJ a0 a1 x3 x4 x5 x6 x7 x8 x9 x10 a2 a3 a4 a5 a6 a7 a8 a9 a10 a11 a12 a13 a14 a15 a16 x11 x12 x13 x14 x15 x16 a17 a18 a19 x17 a20 x18 a21 x19 x20 a22 a23 a24 a25 x21 a26 x22 a27 a28 a29 y0 a30 a31 a32 a33 a34 a35 a36 a37 a38 x23 x24 x25 0 a39 x26 a40 a41 a42 a43 x27 x28 x29 x30 a29 f_11)) hP hD hS hA [0, 1] rfl (by decide +kernel) (fun _ => by rfl) (fun hPc hDc => va_runV (As := [.int x0, .int x1, .int x2]) (rest := []) ⟨hx, hb, hml, hown, hts⟩ (k_X12_isNext l D cB cC cI cJ _ a0 a1 a2 a3 a4 a5 a6 a7 a8 a9 a10 a11 a12 a13 a14 a15 a16 a17 a18 a19 a20 a21 a22 a23 a24 a25 a26 a27 a28 a29 a30 a31 a32 a33 a34 a35 a36 a37 a38 a39 a40 a41 a42 a43 x0 x1 x2 x3 x4 x5 x6 x7 x8 x9 x10 x11 x12 x13 x14 x15 x16 x17 x18 x19 x20 x21 x22 x23 x24 x25 x26 x27 x28 x29 x30 y0 0 f_11 hp2 hp3 h_x3 h_x4 h_x5 h_x6 h_x7 h_x8 h_x11 h_x12 h_x13 h_x14 h_x15 h_x17 h_x18 h_x19 h_x21 h_x22 h_x23 h_x24 h_x25 h_x26 h_x27 h_x28 h_x29 h_x30 hr_a0_0 hr_a0_1 hr_a0_2 hg__ms (hi_13 (by first | exact (om_798 c_15) | ((first | omega | (unfold zBd at *; omega)))))) ⟨gcwB hts tw_1975 tw_14 tw_1972 hd_yX12_isNext ⟨Nat.le_of_ble_eq_true rfl, Nat.le_of_ble_eq_true rfl⟩, hts _ tw_1974, hts _ tp_110⟩ ⟨gblind, va_recv hK hPc (ci := 12) (q0 := 0) rfl rfl, (gpreS hPc hK hDc hN).2⟩ rfl rfl hl.1 rfl (lv_room (Nat.le_of_ble_eq_true rfl)) dX12_isLeast_181 ⟨Nat.le_of_ble_eq_true rfl, Nat.le_of_ble_eq_true rfl⟩) (fun r_94 u_93 H locs hw_95 hP hD hS => ?_)
                                                  replace hP : va_P D gcl (zS_10 cB cC cI cJ a0 a1 x3 x4 x5 x6 x7 x8 x9 x10 a2 a3 a4 a5 a6 a7 a8 a9 a10 a11 a12 a13 a14 a15 a16 x11 x12 x13 x14 x15 x16 a17 a18 a19 x17 a20 x18 a21 x19 x20 a22 a23 a24 a25 x21 a26 x22 a27 a28 a29 y0 a30 a31 a32 a33 a34 a35 a36 a37 a38 x23 x24 x25 0 a39 x26 a40 a41 a42 a43 x27 x28 x29 x30 a29 (u_93.2.1 0) a18 f1 a28 f2 a39 f_90) H := hP
                                                  replace hD : va_D A (zS_10 cB cC cI cJ a0 a1 x3 x4 x5 x6 x7 x8 x9 x10 a2 a3 a4 a5 a6 a7 a8 a9 a10 a11 a12 a13 a14 a15 a16 x11 x12 x13 x14 x15 x16 a17 a18 a19 x17 a20 x18 a21 x19 x20 a22 a23 a24 a25 x21 a26 x22 a27 a28 a29 y0 a30 a31 a32 a33 a34 a35 a36 a37 a38 x23 x24 x25 0 a39 x26 a40 a41 a42 a43 x27 x28 x29 x30 a29 (u_93.2.1 0) a18 f1 a28 f2 a39 f_90) := hD
                                                  obtain ⟨hw_96, hw_97⟩ := hw_95
                                                  replace hw_96 : (0 ≤ r_94.toInt ∧ r_94.toInt ≤ 1) := hw_96
                                                  replace hw_97 : ((r_94.toInt ≠ 0 → muL (u_93.2.1 0) (x12.toInt).toNat < muL f_11 (x12.toInt).toNat ∧ RM (u_93.2.1 0) 0 x12.toInt x1.toInt) ∧ True) := hw_97
                                                  have kk0_r_94 := tL_0
                                                  have rr_94 : zBd r_94.toInt (-2147483648) 2147483647 := n_rng r_94
                                                  refine lv_istore (pc := 184) (lv' := [(4, .int r_94), (8, .int x_88), (6, .long 0), (5, .int x_19), (0, .ref a0), (1, .int x0), (2, .int x1), (3, .int x2)]) hx hb dX12_isLeast_184 hl (by decide) rfl (fun ls hl => ?_)
                                                  refine lv_goto (pc := 186) (tgt := 51) hx hb dX12_isLeast_186 (by decide) ?_
                                                  exact ih_lp_14 r_94 0 (u_93.2.1 0) f_90 _ _ ls hw_96 (fun h => (hw_97.1 h).2) (muM_dec hmu_lp_14 (by (first | omega | (unfold zBd at *; omega))) (fun h => ⟨(hw_97.1 h).1, muL_pos _ (fun j a b => (hw_97.1 h).2 j a (by (first | omega | (unfold zBd at *; omega)))) (by (first | omega | (unfold zBd at *; omega)))⟩) (muL_pos _ (fun j a b => (hi_13 (by (first | omega | (unfold zBd at *; omega)))) j a (by (first | omega | (unfold zBd at *; omega)))) (by (first | omega | (unfold zBd at *; omega))))) hP hD hS (lv_sub hl [0, 4, 5, 6, 7] rfl)
                                              ·
                                                as_aux_lemma =>
                                                  refine lv_aload_n (pc := 157) hx hb dX12_isLeast_157 rfl (lv_at hl 4 rfl) ?_
                                                  refine va_get (pc := 158) (ci := 12) (v := .ref a39) (C := RX12) (T := TX12) (N := 73) hx hb hts iX12 hown hK hP 0 rfl rfl 63 (by decide) (hts _ tw_1464) (fun _ h9 => h9) rfl dX12_isLeast_158 ?_
                                                  refine lv_iload (pc := 161) hx hb dX12_isLeast_161 (lv_at hl 0 rfl) ?_
                                                  refine lv_aload_n (pc := 163) hx hb dX12_isLeast_163 rfl (lv_at hl 4 rfl) ?_
                                                  refine va_get (pc := 164) (ci := 12) (v := .ref a29) (C := RX12) (T := TX12) (N := 73) hx hb hts iX12 hown hK hP 0 rfl rfl 48 (by decide) (hts _ tw_1449) (fun _ h9 => h9) rfl dX12_isLeast_164 ?_
                                                  refine lv_iload (pc := 167) hx hb dX12_isLeast_167 (lv_at hl 0 rfl) ?_
                                                  refine va_iald (pc := 169) hx hb hK hP 1 2 rfl rfl (n_in rfl (by first | exact (om_0 hi_89.1) | ((first | omega | (unfold zBd at *; omega)))) (by first | exact (om_1020 c_92 h_x12.2) | ((first | omega | (unfold zBd at *; omega))))) dX12_isLeast_169 ?_
                                                  refine lv_topi (fun x_98 ex_98 => ?_)
                                                  have rx_98 : zBd x_98.toInt (-2147483648) 2147483647 := n_rng x_98
                                                  replace ex_98 : x_98 = f_11 (x_88.toInt).toNat := ex_98
                                                  have tx_98 := congrArg Int32.toInt ex_98
                                                  refine g_iastore (pc := 170) hx hb hK hP hD hS 4 2 rfl rfl (n_in rfl (by first | exact (om_0 hi_89.1) | ((first | omega | (unfold zBd at *; omega)))) (by first | exact (om_1020 c_92 h_x12.2) | ((first | omega | (unfold zBd at *; omega))))) dX12_isLeast_170 (fun f_99 H locs hP hD hS => ?_)
                                                  replace hP : va_P D gcl (zS_10 cB cC cI cJ a0 a1 x3 x4 x5 x6 x7 x8 x9 x10 a2 a3 a4 a5 a6 a7 a8 a9 a10 a11 a12 a13 a14 a15 a16 x11 x12 x13 x14 x15 x16 a17 a18 a19 x17 a20 x18 a21 x19 x20 a22 a23 a24 a25 x21 a26 x22 a27 a28 a29 y0 a30 a31 a32 a33 a34 a35 a36 a37 a38 x23 x24 x25 0 a39 x26 a40 a41 a42 a43 x27 x28 x29 x30 a29 f_11 a18 f1 a28 f2 a39 f_99) H := hP
                                                  replace hD : va_D A (zS_10 cB cC cI cJ a0 a1 x3 x4 x5 x6 x7 x8 x9 x10 a2 a3 a4 a5 a6 a7 a8 a9 a10 a11 a12 a13 a14 a15 a16 x11 x12 x13 x14 x15 x16 a17 a18 a19 x17 a20 x18 a21 x19 x20 a22 a23 a24 a25 x21 a26 x22 a27 a28 a29 y0 a30 a31 a32 a33 a34 a35 a36 a37 a38 x23 x24 x25 0 a39 x26 a40 a41 a42 a43 x27 x28 x29 x30 a29 f_11 a18 f1 a28 f2 a39 f_99) := hD
                                                  refine b_iinc (pc := 171) hx hb dX12_isLeast_171 hl (k := 0) rfl rfl tI_1 (by first | exact (om_2 hi_89.1) | ((first | omega | (unfold zBd at *; omega)))) (by first | exact (om_338 c_92 h_x12.2) | ((first | omega | (unfold zBd at *; omega)))) (by decide) (fun x_100 ex_100 ls hl => ?_)
                                                  replace hl : lv_has ls 9 [(8, .int x_100), (6, .long 0), (5, .int x_19), (4, .int x_7), (0, .ref a0), (1, .int x0), (2, .int x1), (3, .int x2)] := hl
                                                  as_aux_lemma =>
                                                    refine lv_goto (pc := 174) (tgt := 148) hx hb dX12_isLeast_174 (by decide) ?_
                                                    exact ih_lp_91 x_100 f_99 _ _ ls (by first | exact (om_339 ex_100 hi_89.1 c_92 h_x12.2) | ((first | omega | (unfold zBd at *; omega)))) (by (first | omega | (unfold zBd at *; omega))) hP hD hS (lv_sub hl [0, 1, 2, 3, 4, 5, 6, 7] rfl)
                                          exact lp_91 _ 0 f_12 _ _ ls (n_c tI_0 (by decide)) (Nat.lt_succ_self _) hP hD hS (lv_sub hl [0, 1, 2, 3, 4, 5, 6, 7] rfl)
                      ·
                        as_aux_lemma =>
                          refine lv_iload (pc := 71) hx hb dX12_isLeast_71 (lv_at hl 1 rfl) ?_
                          refine b_if_eq (pc := 73) (tgt := 90) hx hb rfl  dX12_isLeast_73 (by decide) (fun c_101 => ?_) (fun c_101 => ?_)
                          ·
                            as_aux_lemma =>
                              refine lv_iconst (pc := 90) (v := 0) hx hb dX12_isLeast_90 (by decide) ?_
                              refine lv_istore (pc := 91) (lv' := [(5, .int 0), (6, .int x_17), (4, .int x_7), (0, .ref a0), (1, .int x0), (2, .int x1), (3, .int x2)]) hx hb dX12_isLeast_91 hl (by decide) rfl (fun ls hl => ?_)
                              refine b_iinc (pc := 93) hx hb dX12_isLeast_93 hl (k := 1) rfl rfl tI_1 (by first | exact (om_2 hi_18.1) | ((first | omega | (unfold zBd at *; omega)))) (by first | exact (om_338 c_22 h_x12.2) | ((first | omega | (unfold zBd at *; omega)))) (by decide) (fun x_102 ex_102 ls hl => ?_)
                              replace hl : lv_has ls 9 [(6, .int x_102), (5, .int 0), (4, .int x_7), (0, .ref a0), (1, .int x0), (2, .int x1), (3, .int x2)] := hl
                              refine lv_goto (pc := 96) (tgt := 62) hx hb dX12_isLeast_96 (by decide) ?_
                              exact ih_lp_21 x_102 0 _ _ ls (by first | exact (om_339 ex_102 hi_18.1 c_22 h_x12.2) | (have k0 := tI_0; (first | omega | (unfold zBd at *; omega)))) (by have k0 := tI_0; (first | omega | (unfold zBd at *; omega))) hP hD hS (lv_sub hl [0, 1, 2, 3, 4, 5, 6] rfl)
                          ·
                            as_aux_lemma =>
                              refine lv_aload_n (pc := 76) hx hb dX12_isLeast_76 rfl (lv_at hl 3 rfl) ?_
                              refine va_get (pc := 77) (ci := 12) (v := .ref a29) (C := RX12) (T := TX12) (N := 73) hx hb hts iX12 hown hK hP 0 rfl rfl 48 (by decide) (hts _ tw_1449) (fun _ h9 => h9) rfl dX12_isLeast_77 ?_
                              refine lv_iload (pc := 80) hx hb dX12_isLeast_80 (lv_at hl 0 rfl) ?_
                              refine va_iald (pc := 82) hx hb hK hP 1 2 rfl rfl (n_in rfl (by first | exact (om_0 hi_18.1) | ((first | omega | (unfold zBd at *; omega)))) (by first | exact (om_1020 c_22 h_x12.2) | ((first | omega | (unfold zBd at *; omega))))) dX12_isLeast_82 ?_
                              refine lv_topi (fun x_103 ex_103 => ?_)
                              have rx_103 : zBd x_103.toInt (-2147483648) 2147483647 := n_rng x_103
                              replace ex_103 : x_103 = f_11 (x_17.toInt).toNat := ex_103
                              have tx_103 := congrArg Int32.toInt ex_103
                              refine b_if_ne (pc := 83) (tgt := 90) hx hb rfl  dX12_isLeast_83 (by decide) (fun c_104 => ?_) (fun c_104 => ?_)
                              ·
                                as_aux_lemma =>
                                  refine lv_iconst (pc := 90) (v := 0) hx hb dX12_isLeast_90 (by decide) ?_
                                  refine lv_istore (pc := 91) (lv' := [(5, .int 0), (6, .int x_17), (4, .int x_7), (0, .ref a0), (1, .int x0), (2, .int x1), (3, .int x2)]) hx hb dX12_isLeast_91 hl (by decide) rfl (fun ls hl => ?_)
                                  refine b_iinc (pc := 93) hx hb dX12_isLeast_93 hl (k := 1) rfl rfl tI_1 (by first | exact (om_2 hi_18.1) | ((first | omega | (unfold zBd at *; omega)))) (by first | exact (om_338 c_22 h_x12.2) | ((first | omega | (unfold zBd at *; omega)))) (by decide) (fun x_105 ex_105 ls hl => ?_)
                                  replace hl : lv_has ls 9 [(6, .int x_105), (5, .int 0), (4, .int x_7), (0, .ref a0), (1, .int x0), (2, .int x1), (3, .int x2)] := hl
                                  refine lv_goto (pc := 96) (tgt := 62) hx hb dX12_isLeast_96 (by decide) ?_
                                  exact ih_lp_21 x_105 0 _ _ ls (by first | exact (om_339 ex_105 hi_18.1 c_22 h_x12.2) | (have k0 := tI_0; (first | omega | (unfold zBd at *; omega)))) (by have k0 := tI_0; (first | omega | (unfold zBd at *; omega))) hP hD hS (lv_sub hl [0, 1, 2, 3, 4, 5, 6] rfl)
                              ·
                                as_aux_lemma =>
                                  refine lv_iconst (pc := 86) (v := 1) hx hb dX12_isLeast_86 (by decide) ?_
                                  refine lv_goto (pc := 87) (tgt := 91) hx hb dX12_isLeast_87 (by decide) ?_
                                  refine lv_istore (pc := 91) (lv' := [(5, .int 1), (6, .int x_17), (4, .int x_7), (0, .ref a0), (1, .int x0), (2, .int x1), (3, .int x2)]) hx hb dX12_isLeast_91 hl (by decide) rfl (fun ls hl => ?_)
                                  refine b_iinc (pc := 93) hx hb dX12_isLeast_93 hl (k := 1) rfl rfl tI_1 (by first | exact (om_2 hi_18.1) | ((first | omega | (unfold zBd at *; omega)))) (by first | exact (om_338 c_22 h_x12.2) | ((first | omega | (unfold zBd at *; omega)))) (by decide) (fun x_106 ex_106 ls hl => ?_)
                                  replace hl : lv_has ls 9 [(6, .int x_106), (5, .int 1), (4, .int x_7), (0, .ref a0), (1, .int x0), (2, .int x1), (3, .int x2)] := hl
                                  refine lv_goto (pc := 96) (tgt := 62) hx hb dX12_isLeast_96 (by decide) ?_
                                  exact ih_lp_21 x_106 1 _ _ ls (by first | exact (om_339 ex_106 hi_18.1 c_22 h_x12.2) | (have k0 := tI_1; (first | omega | (unfold zBd at *; omega)))) (by have k0 := tI_1; (first | omega | (unfold zBd at *; omega))) hP hD hS (lv_sub hl [0, 1, 2, 3, 4, 5, 6] rfl)
                  exact lp_21 _ 0 1 _ _ ls (n_c tI_0 (by decide)) (Nat.lt_succ_self _) hP hD hS (lv_sub hl [0, 1, 2, 3, 4, 5, 6] rfl)
          exact lp_14 _ 1 (-1) f_3 f3 _ _ ls (n_c tI_1 (by decide)) (fun _ j h1 h2 => hi_4 j h1 (by (first | omega | (unfold zBd at *; omega)))) (Nat.lt_succ_self _) hP hD hS (lv_sub hl [0, 1, 2, 3, 4] rfl)
      ·
        as_aux_lemma =>
          refine lv_aload_n (pc := 19) hx hb dX12_isLeast_19 rfl (lv_at hl 1 rfl) ?_
          refine va_get (pc := 20) (ci := 12) (v := .ref a29) (C := RX12) (T := TX12) (N := 73) hx hb hts iX12 hown hK hP 0 rfl rfl 48 (by decide) (hts _ tw_1449) (fun _ h9 => h9) rfl dX12_isLeast_20 ?_
          refine lv_iload (pc := 23) hx hb dX12_isLeast_23 (lv_at hl 0 rfl) ?_
          refine lv_iload_n (pc := 25) hx hb dX12_isLeast_25 rfl (lv_at hl 2 rfl) ?_
          refine lv_iload (pc := 26) hx hb dX12_isLeast_26 (lv_at hl 0 rfl) ?_
          refine lv_ishr (pc := 28) hx hb dX12_isLeast_28 ?_
          refine lv_topi (fun x_107 _ => ?_)
          have rx_107 : zBd x_107.toInt (-2147483648) 2147483647 := n_rng x_107
          refine lv_iconst (pc := 29) (v := 1) hx hb dX12_isLeast_29 (by decide) ?_
          refine b_iand (pc := 30) (M := 1) hx hb 1 (by decide +kernel) (by decide) (by decide) dX12_isLeast_30 (fun x_108 ex_108 => ?_)
          have rx_108 : (0 ≤ x_108.toInt ∧ x_108.toInt ≤ 1) := ex_108
          refine lv_iconst (pc := 31) (v := 1) hx hb dX12_isLeast_31 (by decide) ?_
          as_aux_lemma =>
            refine b_icmp_ne (pc := 32) (tgt := 40) hx hb rfl tI_1  dX12_isLeast_32 (by decide) (fun c_109 => ?_) (fun c_109 => ?_)
            ·
              as_aux_lemma =>
                refine lv_iconst (pc := 40) (v := 0) hx hb dX12_isLeast_40 (by decide) ?_
                refine e_iastore (pc := 41) hx hb hK hP hD hS 1 2 rfl rfl (n_in rfl (by first | exact (om_0 hi_2.1) | ((first | omega | (unfold zBd at *; omega)))) (by first | exact (om_1020 c_6 h_x12.2) | ((first | omega | (unfold zBd at *; omega))))) dX12_isLeast_41 (fun f_110 ef_110 H locs hP hD hS => ?_)
                replace hP : va_P D gcl (zS_10 cB cC cI cJ a0 a1 x3 x4 x5 x6 x7 x8 x9 x10 a2 a3 a4 a5 a6 a7 a8 a9 a10 a11 a12 a13 a14 a15 a16 x11 x12 x13 x14 x15 x16 a17 a18 a19 x17 a20 x18 a21 x19 x20 a22 a23 a24 a25 x21 a26 x22 a27 a28 a29 y0 a30 a31 a32 a33 a34 a35 a36 a37 a38 x23 x24 x25 (-1) a39 x26 a40 a41 a42 a43 x27 x28 x29 x30 a29 f_110 a18 f1 a28 f2 a39 f3) H := hP
                replace hD : va_D A (zS_10 cB cC cI cJ a0 a1 x3 x4 x5 x6 x7 x8 x9 x10 a2 a3 a4 a5 a6 a7 a8 a9 a10 a11 a12 a13 a14 a15 a16 x11 x12 x13 x14 x15 x16 a17 a18 a19 x17 a20 x18 a21 x19 x20 a22 a23 a24 a25 x21 a26 x22 a27 a28 a29 y0 a30 a31 a32 a33 a34 a35 a36 a37 a38 x23 x24 x25 (-1) a39 x26 a40 a41 a42 a43 x27 x28 x29 x30 a29 f_110 a18 f1 a28 f2 a39 f3) := hD
                refine b_iinc (pc := 42) hx hb dX12_isLeast_42 hl (k := 0) rfl rfl tI_1 (by first | exact (om_2 hi_2.1) | ((first | omega | (unfold zBd at *; omega)))) (by first | exact (om_338 c_6 h_x12.2) | ((first | omega | (unfold zBd at *; omega)))) (by decide) (fun x_111 ex_111 ls hl => ?_)
                replace hl : lv_has ls 9 [(4, .int x_111), (0, .ref a0), (1, .int x0), (2, .int x1), (3, .int x2)] := hl
                refine lv_goto (pc := 45) (tgt := 10) hx hb dX12_isLeast_45 (by decide) ?_
                exact ih_lp_5 x_111 f_110 _ _ ls (by first | exact (om_339 ex_111 hi_2.1 c_6 h_x12.2) | ((first | omega | (unfold zBd at *; omega)))) (RM_up hi_4 ef_110 (by (first | omega | (unfold zBd at *; omega))) (by first | exact (om_0 hi_2.1) | ((first | omega | (unfold zBd at *; omega)))) (by have q := tI_0; (first | omega | (unfold zBd at *; omega))) (by first | exact (om_5 ex_111) | ((first | omega | (unfold zBd at *; omega))))) (by (first | omega | (unfold zBd at *; omega))) hP hD hS (lv_sub hl [0, 1, 2, 3, 4] rfl)
            ·
              as_aux_lemma =>
                refine lv_iload_n (pc := 35) hx hb dX12_isLeast_35 rfl (lv_at hl 3 rfl) ?_
                refine b_ineg (pc := 36) hx hb rfl (by first | exact (om_1206 hp2.1) | ((first | omega | (unfold zBd at *; omega)))) dX12_isLeast_36 (fun x_112 ex_112 => ?_)
                refine lv_goto (pc := 37) (tgt := 41) hx hb dX12_isLeast_37 (by decide) ?_
                refine e_iastore (pc := 41) hx hb hK hP hD hS 1 2 rfl rfl (n_in rfl (by first | exact (om_0 hi_2.1) | ((first | omega | (unfold zBd at *; omega)))) (by first | exact (om_1020 c_6 h_x12.2) | ((first | omega | (unfold zBd at *; omega))))) dX12_isLeast_41 (fun f_113 ef_113 H locs hP hD hS => ?_)
                replace hP : va_P D gcl (zS_10 cB cC cI cJ a0 a1 x3 x4 x5 x6 x7 x8 x9 x10 a2 a3 a4 a5 a6 a7 a8 a9 a10 a11 a12 a13 a14 a15 a16 x11 x12 x13 x14 x15 x16 a17 a18 a19 x17 a20 x18 a21 x19 x20 a22 a23 a24 a25 x21 a26 x22 a27 a28 a29 y0 a30 a31 a32 a33 a34 a35 a36 a37 a38 x23 x24 x25 (-1) a39 x26 a40 a41 a42 a43 x27 x28 x29 x30 a29 f_113 a18 f1 a28 f2 a39 f3) H := hP
                replace hD : va_D A (zS_10 cB cC cI cJ a0 a1 x3 x4 x5 x6 x7 x8 x9 x10 a2 a3 a4 a5 a6 a7 a8 a9 a10 a11 a12 a13 a14 a15 a16 x11 x12 x13 x14 x15 x16 a17 a18 a19 x17 a20 x18 a21 x19 x20 a22 a23 a24 a25 x21 a26 x22 a27 a28 a29 y0 a30 a31 a32 a33 a34 a35 a36 a37 a38 x23 x24 x25 (-1) a39 x26 a40 a41 a42 a43 x27 x28 x29 x30 a29 f_113 a18 f1 a28 f2 a39 f3) := hD
                refine b_iinc (pc := 42) hx hb dX12_isLeast_42 hl (k := 0) rfl rfl tI_1 (by first | exact (om_2 hi_2.1) | ((first | omega | (unfold zBd at *; omega)))) (by first | exact (om_338 c_6 h_x12.2) | ((first | omega | (unfold zBd at *; omega)))) (by decide) (fun x_114 ex_114 ls hl => ?_)
                replace hl : lv_has ls 9 [(4, .int x_114), (0, .ref a0), (1, .int x0), (2, .int x1), (3, .int x2)] := hl
                refine lv_goto (pc := 45) (tgt := 10) hx hb dX12_isLeast_45 (by decide) ?_
                exact ih_lp_5 x_114 f_113 _ _ ls (by first | exact (om_339 ex_114 hi_2.1 c_6 h_x12.2) | ((first | omega | (unfold zBd at *; omega)))) (RM_up hi_4 ef_113 (by (first | omega | (unfold zBd at *; omega))) (by first | exact (om_0 hi_2.1) | ((first | omega | (unfold zBd at *; omega)))) (by have q := tI_0; (first | omega | (unfold zBd at *; omega))) (by first | exact (om_5 ex_114) | ((first | omega | (unfold zBd at *; omega))))) (by (first | omega | (unfold zBd at *; omega))) hP hD hS (lv_sub hl [0, 1, 2, 3, 4] rfl)
  exact lp_5 _ 0 f0 _ _ ls (n_c tI_0 (by decide)) (RM_nil (by first | exact (om_43 tI_0) | (have q := tI_0; (first | omega | (unfold zBd at *; omega))))) (Nat.lt_succ_self _) hP hD hS (lv_sub hl [0, 1, 2, 3, 4] rfl)
theorem om_1756 {a b c d e : Int} (h0 : (¬ b = 0)) (h1 : ((b = 0 ∧ c < d) ∨ (b = 0 ∧ c ≥ d ∧ c > e) ∨ (b = 1 ∧ c ≥ d ∧ c ≤ e))) (h2 : (c = a)) (h3 : (d = 1)) (h4 : (e = 2)) : (((-2) ≤ a ∧ a ≤ 14)) := by omega
theorem om_1757 {a b c d e f g : Int} (h0 : (0 ≤ a)) (h1 : (a = 0 ∨ 2 ≤ c)) (h2 : (¬ d = 0)) (h3 : ((d = 0 ∧ e < f) ∨ (d = 0 ∧ e ≥ f ∧ e > g) ∨ (d = 1 ∧ e ≥ f ∧ e ≤ g))) (h4 : (e = b)) (h5 : (f = 1)) : (a = 0 ∨ 0 ≤ b) := by omega
theorem om_1758 {a : Int} (h0 : (¬ a = (-1))) : (¬ (a = (-1))) := by omega
set_option maxHeartbeats 4000000 in
set_option maxRecDepth 100000 in
theorem k_X12_sums (l : Launch) (D : va_G) (cB cC cI cJ : ClassId) (sz : Nat) (a0 a1 a2 a3 a4 a5 a6 a7 a8 a9 a10 a11 a12 a13 a14 a15 a16 a17 a18 a19 a20 a21 a22 a23 a24 a25 a26 a27 a28 a29 a30 a31 a32 a33 a34 a35 a36 a37 a38 a39 a40 a41 a42 a43 : Nat) (x0 x1 x2 x3 x4 x5 x6 x7 x8 x9 x10 x11 x12 x13 x14 x15 x16 x17 x18 x19 x20 x21 x22 x23 x24 x25 x26 x27 x28 x29 x30 : Int32) (y0 y1 : Int64) (f0 f1 f2 f3 : Nat → Int32) (h_x3 : zBd x3.toInt 0 1600) (h_x4 : zBd x4.toInt 0 1600) (h_x5 : zBd x5.toInt 0 1600) (h_x6 : zBd x6.toInt (-1) 1600) (h_x7 : zBd x7.toInt 0 4) (h_x8 : zBd x8.toInt (-1) 1600) (h_x11 : zBd x11.toInt 0 8) (h_x12 : zBd x12.toInt 0 5) (h_x13 : zBd x13.toInt 0 6) (h_x14 : zBd x14.toInt 0 6) (h_x15 : zBd x15.toInt 0 16) (h_x17 : zBd x17.toInt 0 60) (h_x18 : zBd x18.toInt 0 1600) (h_x19 : zBd x19.toInt 0 1700) (h_x21 : zBd x21.toInt 0 1700) (h_x22 : zBd x22.toInt 0 1700) (h_x23 : zBd x23.toInt 0 200) (h_x24 : zBd x24.toInt 0 40) (h_x25 : zBd x25.toInt 0 40) (h_x26 : zBd x26.toInt 0 1) (h_x27 : zBd x27.toInt 0 14) (h_x28 : zBd x28.toInt 0 200) (h_x29 : zBd x29.toInt 0 40) (h_x30 : zBd x30.toInt 0 40) (hr_a0_0 : (x24.toInt ≤ x23.toInt)) (hr_a0_1 : (x23.toInt + x25.toInt ≤ 200)) (hr_a0_2 : (x12.toInt = 0 ∨ 2 ≤ x11.toInt)) (hf_f1 : (∀ j, (-9999) ≤ (f1 j).toInt ∧ (f1 j).toInt ≤ 9999)) (hf_f2 : (∀ j, (-1100000) ≤ (f2 j).toInt ∧ (f2 j).toInt ≤ 1100000)) : Met l yX12_sums (.code yX12_sums cX12_sums 4 (some .long) :: lw_gd) ({ frames := 3, cells := 0, slots := 0, locals := 77 }) (gPre D [(cB, .byte), (cC, .char), (cI, .int), (cJ, .long)] [.ref a0, .int x0, .int x1, .int x2] (zS_10 cB cC cI cJ a0 a1 x3 x4 x5 x6 x7 x8 x9 x10 a2 a3 a4 a5 a6 a7 a8 a9 a10 a11 a12 a13 a14 a15 a16 x11 x12 x13 x14 x15 x16 a17 a18 a19 x17 a20 x18 a21 x19 x20 a22 a23 a24 a25 x21 a26 x22 a27 a28 a29 y0 a30 a31 a32 a33 a34 a35 a36 a37 a38 x23 x24 x25 y1 a39 x26 a40 a41 a42 a43 x27 x28 x29 x30 a29 f0 a18 f1 a28 f2 a39 f3) sz) (va_Ql (fun r u => True) (gB D (va_A (zS_10 cB cC cI cJ a0 a1 x3 x4 x5 x6 x7 x8 x9 x10 a2 a3 a4 a5 a6 a7 a8 a9 a10 a11 a12 a13 a14 a15 a16 x11 x12 x13 x14 x15 x16 a17 a18 a19 x17 a20 x18 a21 x19 x20 a22 a23 a24 a25 x21 a26 x22 a27 a28 a29 y0 a30 a31 a32 a33 a34 a35 a36 a37 a38 x23 x24 x25 y1 a39 x26 a40 a41 a42 a43 x27 x28 x29 x30 a29 f0 a18 f1 a28 f2 a39 f3) sz) (fun u : gEx => (zS_10 cB cC cI cJ a0 a1 x3 x4 x5 x6 x7 x8 x9 x10 a2 a3 a4 a5 a6 a7 a8 a9 a10 a11 a12 a13 a14 a15 a16 x11 x12 x13 x14 x15 x16 a17 a18 a19 x17 a20 x18 a21 x19 x20 a22 a23 a24 a25 x21 a26 x22 a27 a28 a29 y0 a30 a31 a32 a33 a34 a35 a36 a37 a38 x23 x24 x25 (u.2.2.2.2 0) a39 x26 a40 a41 a42 a43 x27 x28 x29 x30 a29 (u.2.1 0) a18 f1 a28 f2 a39 (u.2.1 1)))) (va_A (zS_10 cB cC cI cJ a0 a1 x3 x4 x5 x6 x7 x8 x9 x10 a2 a3 a4 a5 a6 a7 a8 a9 a10 a11 a12 a13 a14 a15 a16 x11 x12 x13 x14 x15 x16 a17 a18 a19 x17 a20 x18 a21 x19 x20 a22 a23 a24 a25 x21 a26 x22 a27 a28 a29 y0 a30 a31 a32 a33 a34 a35 a36 a37 a38 x23 x24 x25 y1 a39 x26 a40 a41 a42 a43 x27 x28 x29 x30 a29 f0 a18 f1 a28 f2 a39 f3) sz)) 0 0 (va_A (zS_10 cB cC cI cJ a0 a1 x3 x4 x5 x6 x7 x8 x9 x10 a2 a3 a4 a5 a6 a7 a8 a9 a10 a11 a12 a13 a14 a15 a16 x11 x12 x13 x14 x15 x16 a17 a18 a19 x17 a20 x18 a21 x19 x20 a22 a23 a24 a25 x21 a26 x22 a27 a28 a29 y0 a30 a31 a32 a33 a34 a35 a36 a37 a38 x23 x24 x25 y1 a39 x26 a40 a41 a42 a43 x27 x28 x29 x30 a29 f0 a18 f1 a28 f2 a39 f3) sz) := by
  refine gOf_l (by decide +kernel) (Nat.le_of_ble_eq_true rfl) ?_
  intro p e s m args below meth c ls A Q hx hb hts hown hml hN hK hP hD hA hl hret
  replace hown : s.vm.findClass RX12 = some m.cls := hown
  have hS : va_S A s.heap s.heap [] := va_S.rf
  replace hP : va_P D gcl (zS_10 cB cC cI cJ a0 a1 x3 x4 x5 x6 x7 x8 x9 x10 a2 a3 a4 a5 a6 a7 a8 a9 a10 a11 a12 a13 a14 a15 a16 x11 x12 x13 x14 x15 x16 a17 a18 a19 x17 a20 x18 a21 x19 x20 a22 a23 a24 a25 x21 a26 x22 a27 a28 a29 y0 a30 a31 a32 a33 a34 a35 a36 a37 a38 x23 x24 x25 y1 a39 x26 a40 a41 a42 a43 x27 x28 x29 x30 a29 f0 a18 f1 a28 f2 a39 f3) s.heap := hP
  replace hl : lv_has ls 4 [(0, .ref a0), (1, .int x0), (2, .int x1), (3, .int x2)] := hl
  have rx0 : zBd x0.toInt (-2147483648) 2147483647 := n_rng x0
  have rx1 : zBd x1.toInt (-2147483648) 2147483647 := n_rng x1
  have rx2 : zBd x2.toInt (-2147483648) 2147483647 := n_rng x2
  have rx9 : zBd x9.toInt (-2147483648) 2147483647 := n_rng x9
  have rx10 : zBd x10.toInt (-2147483648) 2147483647 := n_rng x10
  have rx16 : zBd x16.toInt (-2147483648) 2147483647 := n_rng x16
  have rx20 : zBd x20.toInt (-2147483648) 2147483647 := n_rng x20
  have ry0 := n_rngL y0
  have ry1 := n_rngL y1
  refine lv_aload_n (pc := 0) hx hb dX12_sums_0 rfl (lv_at hl 0 rfl) ?_
  refine lv_iload_n (pc := 1) hx hb dX12_sums_1 rfl (lv_at hl 1 rfl) ?_
  refine gd_i (pc := 2) (wc := (zS_4 cB cC cI cJ a0 a1 x3 x4 x5 x6 x7 x8 x9 x10 a2 a3 a4 a5 a6 a7 a8 a9 a10 a11 a12 a13 a14 a15 a16 x11 x12 x13 x14 x15 x16 a17 a18 a19 x17 a20 x18 a21 x19 x20 a22 a23 a24 a25 x21 a26 x22 a27 a28 a29 y0 a30 a31 a32 a33 a34 a35 a36 a37 a38 x23 x24 x25 y1 a39 x26 a40 a41 a42 a43 x27 x28 x29 x30)) hP hD hS hA [0] rfl (by decide +kernel) (fun _ => by rfl) (fun hPc hDc => va_runV (As := [.int x0]) (rest := []) ⟨hx, hb, hml, hown, hts⟩ (k_X12_areSenders l D cB cC cI cJ _ a0 a1 a2 a3 a4 a5 a6 a7 a8 a9 a10 a11 a12 a13 a14 a15 a16 a17 a18 a19 a20 a21 a22 a23 a24 a25 a26 a27 a28 a29 a30 a31 a32 a33 a34 a35 a36 a37 a38 a39 a40 a41 a42 a43 x0 x3 x4 x5 x6 x7 x8 x9 x10 x11 x12 x13 x14 x15 x16 x17 x18 x19 x20 x21 x22 x23 x24 x25 x26 x27 x28 x29 x30 y0 y1 h_x3 h_x4 h_x5 h_x6 h_x7 h_x8 h_x11 h_x12 h_x13 h_x14 h_x15 h_x17 h_x18 h_x19 h_x21 h_x22 h_x23 h_x24 h_x25 h_x26 h_x27 h_x28 h_x29 h_x30 hr_a0_0 hr_a0_1 hr_a0_2) ⟨gcwB hts tw_1967 tw_14 tw_1964 hd_yX12_areSenders ⟨Nat.le_of_ble_eq_true rfl, Nat.le_of_ble_eq_true rfl⟩, hts _ tw_1966, hts _ tp_108⟩ ⟨gblind, va_recv hK hPc (ci := 12) (q0 := 0) rfl rfl, (gpreS hPc hK hDc hN).2⟩ rfl rfl hl.1 rfl (lv_room (Nat.le_of_ble_eq_true rfl)) dX12_sums_2 ⟨Nat.le_of_ble_eq_true rfl, Nat.le_of_ble_eq_true rfl⟩) (fun r_2 u_1 H locs hw_3 hP hD hS => ?_)
  replace hP : va_P D gcl (zS_10 cB cC cI cJ a0 a1 x3 x4 x5 x6 x7 x8 x9 x10 a2 a3 a4 a5 a6 a7 a8 a9 a10 a11 a12 a13 a14 a15 a16 x11 x12 x13 x14 x15 x16 a17 a18 a19 x17 a20 x18 a21 x19 x20 a22 a23 a24 a25 x21 a26 x22 a27 a28 a29 y0 a30 a31 a32 a33 a34 a35 a36 a37 a38 x23 x24 x25 y1 a39 x26 a40 a41 a42 a43 x27 x28 x29 x30 a29 f0 a18 f1 a28 f2 a39 f3) H := hP
  replace hD : va_D A (zS_10 cB cC cI cJ a0 a1 x3 x4 x5 x6 x7 x8 x9 x10 a2 a3 a4 a5 a6 a7 a8 a9 a10 a11 a12 a13 a14 a15 a16 x11 x12 x13 x14 x15 x16 a17 a18 a19 x17 a20 x18 a21 x19 x20 a22 a23 a24 a25 x21 a26 x22 a27 a28 a29 y0 a30 a31 a32 a33 a34 a35 a36 a37 a38 x23 x24 x25 y1 a39 x26 a40 a41 a42 a43 x27 x28 x29 x30 a29 f0 a18 f1 a28 f2 a39 f3) := hD
  have hw_4 : (((0 ≤ r_2.toInt ∧ r_2.toInt ≤ 1))) := hw_3
  have rr_2 : zBd r_2.toInt (-2147483648) 2147483647 := n_rng r_2
  refine b_if_eq (pc := 5) (tgt := 43) hx hb rfl  dX12_sums_5 (by decide) (fun c_5 => ?_) (fun c_5 => ?_)
  ·
    as_aux_lemma =>
      refine lv_ldc2 (pc := 43) hx hb hown (hts _ tw_1955) dX12_sums_43 ?_
      have hP9 : va_P D gcl (zS_10 cB cC cI cJ a0 a1 x3 x4 x5 x6 x7 x8 x9 x10 a2 a3 a4 a5 a6 a7 a8 a9 a10 a11 a12 a13 a14 a15 a16 x11 x12 x13 x14 x15 x16 a17 a18 a19 x17 a20 x18 a21 x19 x20 a22 a23 a24 a25 x21 a26 x22 a27 a28 a29 y0 a30 a31 a32 a33 a34 a35 a36 a37 a38 x23 x24 x25 y1 a39 x26 a40 a41 a42 a43 x27 x28 x29 x30 a29 f0 a18 f1 a28 f2 a39 f3) H := g_psub hP [0, 1, 2, 3, 4] rfl
      have hD9 : va_D A (zS_10 cB cC cI cJ a0 a1 x3 x4 x5 x6 x7 x8 x9 x10 a2 a3 a4 a5 a6 a7 a8 a9 a10 a11 a12 a13 a14 a15 a16 x11 x12 x13 x14 x15 x16 a17 a18 a19 x17 a20 x18 a21 x19 x20 a22 a23 a24 a25 x21 a26 x22 a27 a28 a29 y0 a30 a31 a32 a33 a34 a35 a36 a37 a38 x23 x24 x25 y1 a39 x26 a40 a41 a42 a43 x27 x28 x29 x30 a29 f0 a18 f1 a28 f2 a39 f3) := hD.sub [0, 1, 2, 3, 4] (by decide) rfl
      exact hret (-1000000000) ((fun _ => 0), (fun k => [f0, f3].getD k (fun _ => 0)), (fun _ => (fun _ => 0)), (fun _ => 0), (fun k => [y1].getD k 0)) dX12_sums_46 trivial hP9 hD9 hS
  ·
    as_aux_lemma =>
      refine lv_iload_n (pc := 8) hx hb dX12_sums_8 rfl (lv_at hl 2 rfl) ?_
      refine b_i2l (pc := 9) hx hb rfl dX12_sums_9 (fun y_6 ey_6 => ?_)
      have ry_6 : zBd x1.toInt (-2147483648) 2147483647 := n_rng x1
      refine lv_lconst (pc := 10) (v := 1) hx hb dX12_sums_10 (by decide) ?_
      refine lv_ldc2 (pc := 11) hx hb hown (hts _ tw_1934) dX12_sums_11 ?_
      refine gd_i (pc := 14) (wc := []) hP hD hS hA [] rfl (by decide +kernel) (fun _ => by rfl) (fun hPc hDc => va_runS (As := [.long y_6, .long 1, .long 2]) (rest := []) ⟨hx, hb, hml, hown, hts⟩ (k_X12_isIn l D cB cC cI cJ _ y_6 1 2) ⟨gcwB hts tw_1666 tw_14 tw_1664 hd_yX12_isIn ⟨Nat.le_of_ble_eq_true rfl, Nat.le_of_ble_eq_true rfl⟩, hts _ tw_1665⟩ (gpreS hPc hK hDc hN) rfl rfl hl.1 rfl (lv_room (Nat.le_of_ble_eq_true rfl)) dX12_sums_14 ⟨Nat.le_of_ble_eq_true rfl, Nat.le_of_ble_eq_true rfl⟩) (fun r_8 u_7 H locs hw_9 hP hD hS => ?_)
      replace hP : va_P D gcl (zS_10 cB cC cI cJ a0 a1 x3 x4 x5 x6 x7 x8 x9 x10 a2 a3 a4 a5 a6 a7 a8 a9 a10 a11 a12 a13 a14 a15 a16 x11 x12 x13 x14 x15 x16 a17 a18 a19 x17 a20 x18 a21 x19 x20 a22 a23 a24 a25 x21 a26 x22 a27 a28 a29 y0 a30 a31 a32 a33 a34 a35 a36 a37 a38 x23 x24 x25 y1 a39 x26 a40 a41 a42 a43 x27 x28 x29 x30 a29 f0 a18 f1 a28 f2 a39 f3) H := hP
      replace hD : va_D A (zS_10 cB cC cI cJ a0 a1 x3 x4 x5 x6 x7 x8 x9 x10 a2 a3 a4 a5 a6 a7 a8 a9 a10 a11 a12 a13 a14 a15 a16 x11 x12 x13 x14 x15 x16 a17 a18 a19 x17 a20 x18 a21 x19 x20 a22 a23 a24 a25 x21 a26 x22 a27 a28 a29 y0 a30 a31 a32 a33 a34 a35 a36 a37 a38 x23 x24 x25 y1 a39 x26 a40 a41 a42 a43 x27 x28 x29 x30 a29 f0 a18 f1 a28 f2 a39 f3) := hD
      have hw_10 : ((r_8.toInt = 0 ∧ y_6.toInt < (1 : Int64).toInt) ∨ (r_8.toInt = 0 ∧ y_6.toInt ≥ (1 : Int64).toInt ∧ y_6.toInt > (2 : Int64).toInt) ∨ (r_8.toInt = 1 ∧ y_6.toInt ≥ (1 : Int64).toInt ∧ y_6.toInt ≤ (2 : Int64).toInt)) := hw_9
      have kk0_r_8 := tL_1
      have kk1_r_8 := tL_2
      have rr_8 : zBd r_8.toInt (-2147483648) 2147483647 := n_rng r_8
      refine b_if_eq (pc := 17) (tgt := 43) hx hb rfl  dX12_sums_17 (by decide) (fun c_11 => ?_) (fun c_11 => ?_)
      ·
        as_aux_lemma =>
          refine lv_ldc2 (pc := 43) hx hb hown (hts _ tw_1955) dX12_sums_43 ?_
          have hP9 : va_P D gcl (zS_10 cB cC cI cJ a0 a1 x3 x4 x5 x6 x7 x8 x9 x10 a2 a3 a4 a5 a6 a7 a8 a9 a10 a11 a12 a13 a14 a15 a16 x11 x12 x13 x14 x15 x16 a17 a18 a19 x17 a20 x18 a21 x19 x20 a22 a23 a24 a25 x21 a26 x22 a27 a28 a29 y0 a30 a31 a32 a33 a34 a35 a36 a37 a38 x23 x24 x25 y1 a39 x26 a40 a41 a42 a43 x27 x28 x29 x30 a29 f0 a18 f1 a28 f2 a39 f3) H := g_psub hP [0, 1, 2, 3, 4] rfl
          have hD9 : va_D A (zS_10 cB cC cI cJ a0 a1 x3 x4 x5 x6 x7 x8 x9 x10 a2 a3 a4 a5 a6 a7 a8 a9 a10 a11 a12 a13 a14 a15 a16 x11 x12 x13 x14 x15 x16 a17 a18 a19 x17 a20 x18 a21 x19 x20 a22 a23 a24 a25 x21 a26 x22 a27 a28 a29 y0 a30 a31 a32 a33 a34 a35 a36 a37 a38 x23 x24 x25 y1 a39 x26 a40 a41 a42 a43 x27 x28 x29 x30 a29 f0 a18 f1 a28 f2 a39 f3) := hD.sub [0, 1, 2, 3, 4] (by decide) rfl
          exact hret (-1000000000) ((fun _ => 0), (fun k => [f0, f3].getD k (fun _ => 0)), (fun _ => (fun _ => 0)), (fun _ => 0), (fun k => [y1].getD k 0)) dX12_sums_46 trivial hP9 hD9 hS
      ·
        as_aux_lemma =>
          refine lv_iload_n (pc := 20) hx hb dX12_sums_20 rfl (lv_at hl 3 rfl) ?_
          refine lv_iconst (pc := 21) (v := (-1)) hx hb dX12_sums_21 (by decide) ?_
          refine b_icmp_eq (pc := 22) (tgt := 33) hx hb rfl tI_m1  dX12_sums_22 (by decide) (fun c_12 => ?_) (fun c_12 => ?_)
          ·
            as_aux_lemma =>
              refine lv_aload_n (pc := 33) hx hb dX12_sums_33 rfl (lv_at hl 0 rfl) ?_
              refine lv_iload_n (pc := 34) hx hb dX12_sums_34 rfl (lv_at hl 1 rfl) ?_
              refine lv_iload_n (pc := 35) hx hb dX12_sums_35 rfl (lv_at hl 2 rfl) ?_
              refine lv_iconst (pc := 36) (v := 1) hx hb dX12_sums_36 (by decide) ?_
              refine gd_i (pc := 37) (wc := (zS_10 cB cC cI cJ a0 a1 x3 x4 x5 x6 x7 x8 x9 x10 a2 a3 a4 a5 a6 a7 a8 a9 a10 a11 a12 a13 a14 a15 a16 x11 x12 x13 x14 x15 x16 a17 a18 a19 x17 a20 x18 a21 x19 x20 a22 a23 a24 a25 x21 a26 x22 a27 a28 a29 y0 a30 a31 a32 a33 a34 a35 a36 a37 a38 x23 x24 x25 y1 a39 x26 a40 a41 a42 a43 x27 x28 x29 x30 a29 f0 a18 f1 a28 f2 a39 f3)) hP hD hS hA [0, 1, 2, 3, 4] rfl (by decide +kernel) (fun _ => by rfl) (fun hPc hDc => va_runV (As := [.int x0, .int x1, .int 1]) (rest := []) ⟨hx, hb, hml, hown, hts⟩ (k_X12_isLeast l D cB cC cI cJ _ a0 a1 a2 a3 a4 a5 a6 a7 a8 a9 a10 a11 a12 a13 a14 a15 a16 a17 a18 a19 a20 a21 a22 a23 a24 a25 a26 a27 a28 a29 a30 a31 a32 a33 a34 a35 a36 a37 a38 a39 a40 a41 a42 a43 x0 x1 1 x3 x4 x5 x6 x7 x8 x9 x10 x11 x12 x13 x14 x15 x16 x17 x18 x19 x20 x21 x22 x23 x24 x25 x26 x27 x28 x29 x30 y0 y1 f0 f1 f2 f3 (by first | exact (om_1756 c_11 hw_10 ey_6 tL_1 tL_2) | (have k0 := tI_1; (first | omega | (unfold zBd at *; omega)))) (n_c tI_1 (by decide)) h_x3 h_x4 h_x5 h_x6 h_x7 h_x8 h_x11 h_x12 h_x13 h_x14 h_x15 h_x17 h_x18 h_x19 h_x21 h_x22 h_x23 h_x24 h_x25 h_x26 h_x27 h_x28 h_x29 h_x30 hr_a0_0 hr_a0_1 hr_a0_2 (by first | exact (om_1757 h_x12.1 hr_a0_2 c_11 hw_10 ey_6 tL_1) | (have k0 := tI_1; (first | omega | (unfold zBd at *; omega)))) hf_f1 hf_f2) ⟨gcwB hts tw_1971 tw_14 tw_1968 hd_yX12_isLeast ⟨Nat.le_of_ble_eq_true rfl, Nat.le_of_ble_eq_true rfl⟩, hts _ tw_1970, hts _ tp_109⟩ ⟨gblind, va_recv hK hPc (ci := 12) (q0 := 0) rfl rfl, (gpreS hPc hK hDc hN).2⟩ rfl rfl hl.1 rfl (lv_room (Nat.le_of_ble_eq_true rfl)) dX12_sums_37 ⟨Nat.le_of_ble_eq_true rfl, Nat.le_of_ble_eq_true rfl⟩) (fun r_14 u_13 H locs hw_15 hP hD hS => ?_)
              replace hP : va_P D gcl (zS_10 cB cC cI cJ a0 a1 x3 x4 x5 x6 x7 x8 x9 x10 a2 a3 a4 a5 a6 a7 a8 a9 a10 a11 a12 a13 a14 a15 a16 x11 x12 x13 x14 x15 x16 a17 a18 a19 x17 a20 x18 a21 x19 x20 a22 a23 a24 a25 x21 a26 x22 a27 a28 a29 y0 a30 a31 a32 a33 a34 a35 a36 a37 a38 x23 x24 x25 (u_13.2.2.2.2 0) a39 x26 a40 a41 a42 a43 x27 x28 x29 x30 a29 (u_13.2.1 0) a18 f1 a28 f2 a39 (u_13.2.1 1)) H := hP
              replace hD : va_D A (zS_10 cB cC cI cJ a0 a1 x3 x4 x5 x6 x7 x8 x9 x10 a2 a3 a4 a5 a6 a7 a8 a9 a10 a11 a12 a13 a14 a15 a16 x11 x12 x13 x14 x15 x16 a17 a18 a19 x17 a20 x18 a21 x19 x20 a22 a23 a24 a25 x21 a26 x22 a27 a28 a29 y0 a30 a31 a32 a33 a34 a35 a36 a37 a38 x23 x24 x25 (u_13.2.2.2.2 0) a39 x26 a40 a41 a42 a43 x27 x28 x29 x30 a29 (u_13.2.1 0) a18 f1 a28 f2 a39 (u_13.2.1 1)) := hD
              have ru_13_0 := n_rngL (u_13.2.2.2.2 0)
              have hw_16 : (0 ≤ r_14.toInt ∧ r_14.toInt ≤ 1) := hw_15
              have kk0_r_14 := tI_1
              have rr_14 : zBd r_14.toInt (-2147483648) 2147483647 := n_rng r_14
              refine b_if_ne (pc := 40) (tgt := 47) hx hb rfl  dX12_sums_40 (by decide) (fun c_17 => ?_) (fun c_17 => ?_)
              ·
                as_aux_lemma =>
                  refine lv_iload_n (pc := 47) hx hb dX12_sums_47 rfl (lv_at hl 3 rfl) ?_
                  refine lv_iconst (pc := 48) (v := (-1)) hx hb dX12_sums_48 (by decide) ?_
                  refine b_icmp_ne (pc := 49) (tgt := 59) hx hb rfl tI_m1  dX12_sums_49 (by decide) (fun c_18 => absurd c_18 (by first | exact (om_1402 c_12) | ((first | omega | (unfold zBd at *; omega))))) (fun c_18 => ?_)
                  refine lv_aload_n (pc := 52) hx hb dX12_sums_52 rfl (lv_at hl 0 rfl) ?_
                  refine va_get (pc := 53) (ci := 12) (v := .long (u_13.2.2.2.2 0)) (C := RX12) (T := TX12) (N := 73) hx hb hts iX12 hown hK hP 0 rfl rfl 62 (by decide) (hts _ tw_1463) (fun _ h9 => h9) rfl dX12_sums_53 ?_
                  refine lv_goto (pc := 56) (tgt := 66) hx hb dX12_sums_56 (by decide) ?_
                  have hP9 : va_P D gcl (zS_10 cB cC cI cJ a0 a1 x3 x4 x5 x6 x7 x8 x9 x10 a2 a3 a4 a5 a6 a7 a8 a9 a10 a11 a12 a13 a14 a15 a16 x11 x12 x13 x14 x15 x16 a17 a18 a19 x17 a20 x18 a21 x19 x20 a22 a23 a24 a25 x21 a26 x22 a27 a28 a29 y0 a30 a31 a32 a33 a34 a35 a36 a37 a38 x23 x24 x25 (u_13.2.2.2.2 0) a39 x26 a40 a41 a42 a43 x27 x28 x29 x30 a29 (u_13.2.1 0) a18 f1 a28 f2 a39 (u_13.2.1 1)) H := g_psub hP [0, 1, 2, 3, 4] rfl
                  have hD9 : va_D A (zS_10 cB cC cI cJ a0 a1 x3 x4 x5 x6 x7 x8 x9 x10 a2 a3 a4 a5 a6 a7 a8 a9 a10 a11 a12 a13 a14 a15 a16 x11 x12 x13 x14 x15 x16 a17 a18 a19 x17 a20 x18 a21 x19 x20 a22 a23 a24 a25 x21 a26 x22 a27 a28 a29 y0 a30 a31 a32 a33 a34 a35 a36 a37 a38 x23 x24 x25 (u_13.2.2.2.2 0) a39 x26 a40 a41 a42 a43 x27 x28 x29 x30 a29 (u_13.2.1 0) a18 f1 a28 f2 a39 (u_13.2.1 1)) := hD.sub [0, 1, 2, 3, 4] (by decide) rfl
                  exact hret (u_13.2.2.2.2 0) ((fun _ => 0), (fun k => [(u_13.2.1 0), (u_13.2.1 1)].getD k (fun _ => 0)), (fun _ => (fun _ => 0)), (fun _ => 0), (fun k => [(u_13.2.2.2.2 0)].getD k 0)) dX12_sums_66 trivial hP9 hD9 hS
              ·
                as_aux_lemma =>
                  refine lv_ldc2 (pc := 43) hx hb hown (hts _ tw_1955) dX12_sums_43 ?_
                  have hP9 : va_P D gcl (zS_10 cB cC cI cJ a0 a1 x3 x4 x5 x6 x7 x8 x9 x10 a2 a3 a4 a5 a6 a7 a8 a9 a10 a11 a12 a13 a14 a15 a16 x11 x12 x13 x14 x15 x16 a17 a18 a19 x17 a20 x18 a21 x19 x20 a22 a23 a24 a25 x21 a26 x22 a27 a28 a29 y0 a30 a31 a32 a33 a34 a35 a36 a37 a38 x23 x24 x25 (u_13.2.2.2.2 0) a39 x26 a40 a41 a42 a43 x27 x28 x29 x30 a29 (u_13.2.1 0) a18 f1 a28 f2 a39 (u_13.2.1 1)) H := g_psub hP [0, 1, 2, 3, 4] rfl
                  have hD9 : va_D A (zS_10 cB cC cI cJ a0 a1 x3 x4 x5 x6 x7 x8 x9 x10 a2 a3 a4 a5 a6 a7 a8 a9 a10 a11 a12 a13 a14 a15 a16 x11 x12 x13 x14 x15 x16 a17 a18 a19 x17 a20 x18 a21 x19 x20 a22 a23 a24 a25 x21 a26 x22 a27 a28 a29 y0 a30 a31 a32 a33 a34 a35 a36 a37 a38 x23 x24 x25 (u_13.2.2.2.2 0) a39 x26 a40 a41 a42 a43 x27 x28 x29 x30 a29 (u_13.2.1 0) a18 f1 a28 f2 a39 (u_13.2.1 1)) := hD.sub [0, 1, 2, 3, 4] (by decide) rfl
                  exact hret (-1000000000) ((fun _ => 0), (fun k => [(u_13.2.1 0), (u_13.2.1 1)].getD k (fun _ => 0)), (fun _ => (fun _ => 0)), (fun _ => 0), (fun k => [(u_13.2.2.2.2 0)].getD k 0)) dX12_sums_46 trivial hP9 hD9 hS
          ·
            as_aux_lemma =>
              refine lv_aload_n (pc := 25) hx hb dX12_sums_25 rfl (lv_at hl 0 rfl) ?_
              refine lv_iload_n (pc := 26) hx hb dX12_sums_26 rfl (lv_at hl 3 rfl) ?_
              refine gd_i (pc := 27) (wc := (zS_4 cB cC cI cJ a0 a1 x3 x4 x5 x6 x7 x8 x9 x10 a2 a3 a4 a5 a6 a7 a8 a9 a10 a11 a12 a13 a14 a15 a16 x11 x12 x13 x14 x15 x16 a17 a18 a19 x17 a20 x18 a21 x19 x20 a22 a23 a24 a25 x21 a26 x22 a27 a28 a29 y0 a30 a31 a32 a33 a34 a35 a36 a37 a38 x23 x24 x25 y1 a39 x26 a40 a41 a42 a43 x27 x28 x29 x30)) hP hD hS hA [0] rfl (by decide +kernel) (fun _ => by rfl) (fun hPc hDc => va_runV (As := [.int x2]) (rest := []) ⟨hx, hb, hml, hown, hts⟩ (k_X12_isSender l D cB cC cI cJ _ a0 a1 a2 a3 a4 a5 a6 a7 a8 a9 a10 a11 a12 a13 a14 a15 a16 a17 a18 a19 a20 a21 a22 a23 a24 a25 a26 a27 a28 a29 a30 a31 a32 a33 a34 a35 a36 a37 a38 a39 a40 a41 a42 a43 x2 x3 x4 x5 x6 x7 x8 x9 x10 x11 x12 x13 x14 x15 x16 x17 x18 x19 x20 x21 x22 x23 x24 x25 x26 x27 x28 x29 x30 y0 y1 h_x3 h_x4 h_x5 h_x6 h_x7 h_x8 h_x11 h_x12 h_x13 h_x14 h_x15 h_x17 h_x18 h_x19 h_x21 h_x22 h_x23 h_x24 h_x25 h_x26 h_x27 h_x28 h_x29 h_x30 hr_a0_0 hr_a0_1 hr_a0_2) ⟨gcwB hts tw_1782 tw_14 tw_1779 hd_yX12_isSender ⟨Nat.le_of_ble_eq_true rfl, Nat.le_of_ble_eq_true rfl⟩, hts _ tw_1781, hts _ tp_90⟩ ⟨gblind, va_recv hK hPc (ci := 12) (q0 := 0) rfl rfl, (gpreS hPc hK hDc hN).2⟩ rfl rfl hl.1 rfl (lv_room (Nat.le_of_ble_eq_true rfl)) dX12_sums_27 ⟨Nat.le_of_ble_eq_true rfl, Nat.le_of_ble_eq_true rfl⟩) (fun r_20 u_19 H locs hw_21 hP hD hS => ?_)
              replace hP : va_P D gcl (zS_10 cB cC cI cJ a0 a1 x3 x4 x5 x6 x7 x8 x9 x10 a2 a3 a4 a5 a6 a7 a8 a9 a10 a11 a12 a13 a14 a15 a16 x11 x12 x13 x14 x15 x16 a17 a18 a19 x17 a20 x18 a21 x19 x20 a22 a23 a24 a25 x21 a26 x22 a27 a28 a29 y0 a30 a31 a32 a33 a34 a35 a36 a37 a38 x23 x24 x25 y1 a39 x26 a40 a41 a42 a43 x27 x28 x29 x30 a29 f0 a18 f1 a28 f2 a39 f3) H := hP
              replace hD : va_D A (zS_10 cB cC cI cJ a0 a1 x3 x4 x5 x6 x7 x8 x9 x10 a2 a3 a4 a5 a6 a7 a8 a9 a10 a11 a12 a13 a14 a15 a16 x11 x12 x13 x14 x15 x16 a17 a18 a19 x17 a20 x18 a21 x19 x20 a22 a23 a24 a25 x21 a26 x22 a27 a28 a29 y0 a30 a31 a32 a33 a34 a35 a36 a37 a38 x23 x24 x25 y1 a39 x26 a40 a41 a42 a43 x27 x28 x29 x30 a29 f0 a18 f1 a28 f2 a39 f3) := hD
              obtain ⟨hw_22, hw_23, hw_24⟩ := hw_21
              replace hw_22 : (0 ≤ r_20.toInt ∧ r_20.toInt ≤ 1) := hw_22
              replace hw_23 : (-x2.toInt ≤ 4294967296 - 4294967296 * r_20.toInt ∧ x2.toInt ≤ x12.toInt - 1 + 4294967296 - 4294967296 * r_20.toInt) := hw_23
              replace hw_24 : (inQ r_20.toInt x2.toInt x12.toInt) := hw_24
              have rr_20 : zBd r_20.toInt (-2147483648) 2147483647 := n_rng r_20
              refine b_if_eq (pc := 30) (tgt := 43) hx hb rfl  dX12_sums_30 (by decide) (fun c_25 => ?_) (fun c_25 => ?_)
              ·
                as_aux_lemma =>
                  refine lv_ldc2 (pc := 43) hx hb hown (hts _ tw_1955) dX12_sums_43 ?_
                  have hP9 : va_P D gcl (zS_10 cB cC cI cJ a0 a1 x3 x4 x5 x6 x7 x8 x9 x10 a2 a3 a4 a5 a6 a7 a8 a9 a10 a11 a12 a13 a14 a15 a16 x11 x12 x13 x14 x15 x16 a17 a18 a19 x17 a20 x18 a21 x19 x20 a22 a23 a24 a25 x21 a26 x22 a27 a28 a29 y0 a30 a31 a32 a33 a34 a35 a36 a37 a38 x23 x24 x25 y1 a39 x26 a40 a41 a42 a43 x27 x28 x29 x30 a29 f0 a18 f1 a28 f2 a39 f3) H := g_psub hP [0, 1, 2, 3, 4] rfl
                  have hD9 : va_D A (zS_10 cB cC cI cJ a0 a1 x3 x4 x5 x6 x7 x8 x9 x10 a2 a3 a4 a5 a6 a7 a8 a9 a10 a11 a12 a13 a14 a15 a16 x11 x12 x13 x14 x15 x16 a17 a18 a19 x17 a20 x18 a21 x19 x20 a22 a23 a24 a25 x21 a26 x22 a27 a28 a29 y0 a30 a31 a32 a33 a34 a35 a36 a37 a38 x23 x24 x25 y1 a39 x26 a40 a41 a42 a43 x27 x28 x29 x30 a29 f0 a18 f1 a28 f2 a39 f3) := hD.sub [0, 1, 2, 3, 4] (by decide) rfl
                  exact hret (-1000000000) ((fun _ => 0), (fun k => [f0, f3].getD k (fun _ => 0)), (fun _ => (fun _ => 0)), (fun _ => 0), (fun k => [y1].getD k 0)) dX12_sums_46 trivial hP9 hD9 hS
              ·
                as_aux_lemma =>
                  refine lv_aload_n (pc := 33) hx hb dX12_sums_33 rfl (lv_at hl 0 rfl) ?_
                  refine lv_iload_n (pc := 34) hx hb dX12_sums_34 rfl (lv_at hl 1 rfl) ?_
                  refine lv_iload_n (pc := 35) hx hb dX12_sums_35 rfl (lv_at hl 2 rfl) ?_
                  refine lv_iconst (pc := 36) (v := 1) hx hb dX12_sums_36 (by decide) ?_
                  refine gd_i (pc := 37) (wc := (zS_10 cB cC cI cJ a0 a1 x3 x4 x5 x6 x7 x8 x9 x10 a2 a3 a4 a5 a6 a7 a8 a9 a10 a11 a12 a13 a14 a15 a16 x11 x12 x13 x14 x15 x16 a17 a18 a19 x17 a20 x18 a21 x19 x20 a22 a23 a24 a25 x21 a26 x22 a27 a28 a29 y0 a30 a31 a32 a33 a34 a35 a36 a37 a38 x23 x24 x25 y1 a39 x26 a40 a41 a42 a43 x27 x28 x29 x30 a29 f0 a18 f1 a28 f2 a39 f3)) hP hD hS hA [0, 1, 2, 3, 4] rfl (by decide +kernel) (fun _ => by rfl) (fun hPc hDc => va_runV (As := [.int x0, .int x1, .int 1]) (rest := []) ⟨hx, hb, hml, hown, hts⟩ (k_X12_isLeast l D cB cC cI cJ _ a0 a1 a2 a3 a4 a5 a6 a7 a8 a9 a10 a11 a12 a13 a14 a15 a16 a17 a18 a19 a20 a21 a22 a23 a24 a25 a26 a27 a28 a29 a30 a31 a32 a33 a34 a35 a36 a37 a38 a39 a40 a41 a42 a43 x0 x1 1 x3 x4 x5 x6 x7 x8 x9 x10 x11 x12 x13 x14 x15 x16 x17 x18 x19 x20 x21 x22 x23 x24 x25 x26 x27 x28 x29 x30 y0 y1 f0 f1 f2 f3 (by first | exact (om_1756 c_11 hw_10 ey_6 tL_1 tL_2) | (have k0 := tI_1; (first | omega | (unfold zBd at *; omega)))) (n_c tI_1 (by decide)) h_x3 h_x4 h_x5 h_x6 h_x7 h_x8 h_x11 h_x12 h_x13 h_x14 h_x15 h_x17 h_x18 h_x19 h_x21 h_x22 h_x23 h_x24 h_x25 h_x26 h_x27 h_x28 h_x29 h_x30 hr_a0_0 hr_a0_1 hr_a0_2 (by have k0 := tI_1; (first | omega | (unfold zBd at *; omega))) hf_f1 hf_f2) ⟨gcwB hts tw_1971 tw_14 tw_1968 hd_yX12_isLeast ⟨Nat.le_of_ble_eq_true rfl, Nat.le_of_ble_eq_true rfl⟩, hts _ tw_1970, hts _ tp_109⟩ ⟨gblind, va_recv hK hPc (ci := 12) (q0 := 0) rfl rfl, (gpreS hPc hK hDc hN).2⟩ rfl rfl hl.1 rfl (lv_room (Nat.le_of_ble_eq_true rfl)) dX12_sums_37 ⟨Nat.le_of_ble_eq_true rfl, Nat.le_of_ble_eq_true rfl⟩) (fun r_27 u_26 H locs hw_28 hP hD hS => ?_)
                  replace hP : va_P D gcl (zS_10 cB cC cI cJ a0 a1 x3 x4 x5 x6 x7 x8 x9 x10 a2 a3 a4 a5 a6 a7 a8 a9 a10 a11 a12 a13 a14 a15 a16 x11 x12 x13 x14 x15 x16 a17 a18 a19 x17 a20 x18 a21 x19 x20 a22 a23 a24 a25 x21 a26 x22 a27 a28 a29 y0 a30 a31 a32 a33 a34 a35 a36 a37 a38 x23 x24 x25 (u_26.2.2.2.2 0) a39 x26 a40 a41 a42 a43 x27 x28 x29 x30 a29 (u_26.2.1 0) a18 f1 a28 f2 a39 (u_26.2.1 1)) H := hP
                  replace hD : va_D A (zS_10 cB cC cI cJ a0 a1 x3 x4 x5 x6 x7 x8 x9 x10 a2 a3 a4 a5 a6 a7 a8 a9 a10 a11 a12 a13 a14 a15 a16 x11 x12 x13 x14 x15 x16 a17 a18 a19 x17 a20 x18 a21 x19 x20 a22 a23 a24 a25 x21 a26 x22 a27 a28 a29 y0 a30 a31 a32 a33 a34 a35 a36 a37 a38 x23 x24 x25 (u_26.2.2.2.2 0) a39 x26 a40 a41 a42 a43 x27 x28 x29 x30 a29 (u_26.2.1 0) a18 f1 a28 f2 a39 (u_26.2.1 1)) := hD
                  have ru_26_0 := n_rngL (u_26.2.2.2.2 0)
                  have hw_29 : (0 ≤ r_27.toInt ∧ r_27.toInt ≤ 1) := hw_28
                  have kk0_r_27 := tI_1
                  have rr_27 : zBd r_27.toInt (-2147483648) 2147483647 := n_rng r_27
                  refine b_if_ne (pc := 40) (tgt := 47) hx hb rfl  dX12_sums_40 (by decide) (fun c_30 => ?_) (fun c_30 => ?_)
                  ·
                    as_aux_lemma =>
                      refine lv_iload_n (pc := 47) hx hb dX12_sums_47 rfl (lv_at hl 3 rfl) ?_
                      refine lv_iconst (pc := 48) (v := (-1)) hx hb dX12_sums_48 (by decide) ?_
                      refine b_icmp_ne (pc := 49) (tgt := 59) hx hb rfl tI_m1  dX12_sums_49 (by decide) (fun c_31 => ?_) (fun c_31 => absurd c_31 (by first | exact (om_1758 c_12) | ((first | omega | (unfold zBd at *; omega)))))
                      refine lv_aload_n (pc := 59) hx hb dX12_sums_59 rfl (lv_at hl 0 rfl) ?_
                      refine va_get (pc := 60) (ci := 12) (v := .ref a39) (C := RX12) (T := TX12) (N := 73) hx hb hts iX12 hown hK hP 0 rfl rfl 63 (by decide) (hts _ tw_1464) (fun _ h9 => h9) rfl dX12_sums_60 ?_
                      refine lv_iload_n (pc := 63) hx hb dX12_sums_63 rfl (lv_at hl 3 rfl) ?_
                      refine va_iald (pc := 64) hx hb hK hP 4 2 rfl rfl (n_in rfl (by first | exact (om_1557 c_25 hw_22.1 hw_23.1) | ((first | omega | (unfold zBd at *; omega)))) (by first | exact (om_1639 c_25 hw_22.1 hw_23.2 h_x12.2) | ((first | omega | (unfold zBd at *; omega))))) dX12_sums_64 ?_
                      refine lv_topi (fun x_32 ex_32 => ?_)
                      have rx_32 : zBd x_32.toInt (-2147483648) 2147483647 := n_rng x_32
                      refine b_i2l (pc := 65) hx hb rfl dX12_sums_65 (fun y_33 ey_33 => ?_)
                      have ry_33 : zBd x_32.toInt (-2147483648) 2147483647 := n_rng x_32
                      have hP9 : va_P D gcl (zS_10 cB cC cI cJ a0 a1 x3 x4 x5 x6 x7 x8 x9 x10 a2 a3 a4 a5 a6 a7 a8 a9 a10 a11 a12 a13 a14 a15 a16 x11 x12 x13 x14 x15 x16 a17 a18 a19 x17 a20 x18 a21 x19 x20 a22 a23 a24 a25 x21 a26 x22 a27 a28 a29 y0 a30 a31 a32 a33 a34 a35 a36 a37 a38 x23 x24 x25 (u_26.2.2.2.2 0) a39 x26 a40 a41 a42 a43 x27 x28 x29 x30 a29 (u_26.2.1 0) a18 f1 a28 f2 a39 (u_26.2.1 1)) H := g_psub hP [0, 1, 2, 3, 4] rfl
                      have hD9 : va_D A (zS_10 cB cC cI cJ a0 a1 x3 x4 x5 x6 x7 x8 x9 x10 a2 a3 a4 a5 a6 a7 a8 a9 a10 a11 a12 a13 a14 a15 a16 x11 x12 x13 x14 x15 x16 a17 a18 a19 x17 a20 x18 a21 x19 x20 a22 a23 a24 a25 x21 a26 x22 a27 a28 a29 y0 a30 a31 a32 a33 a34 a35 a36 a37 a38 x23 x24 x25 (u_26.2.2.2.2 0) a39 x26 a40 a41 a42 a43 x27 x28 x29 x30 a29 (u_26.2.1 0) a18 f1 a28 f2 a39 (u_26.2.1 1)) := hD.sub [0, 1, 2, 3, 4] (by decide) rfl
                      exact hret y_33 ((fun _ => 0), (fun k => [(u_26.2.1 0), (u_26.2.1 1)].getD k (fun _ => 0)), (fun _ => (fun _ => 0)), (fun _ => 0), (fun k => [(u_26.2.2.2.2 0)].getD k 0)) dX12_sums_66 trivial hP9 hD9 hS
                  ·
                    as_aux_lemma =>
                      refine lv_ldc2 (pc := 43) hx hb hown (hts _ tw_1955) dX12_sums_43 ?_
                      have hP9 : va_P D gcl (zS_10 cB cC cI cJ a0 a1 x3 x4 x5 x6 x7 x8 x9 x10 a2 a3 a4 a5 a6 a7 a8 a9 a10 a11 a12 a13 a14 a15 a16 x11 x12 x13 x14 x15 x16 a17 a18 a19 x17 a20 x18 a21 x19 x20 a22 a23 a24 a25 x21 a26 x22 a27 a28 a29 y0 a30 a31 a32 a33 a34 a35 a36 a37 a38 x23 x24 x25 (u_26.2.2.2.2 0) a39 x26 a40 a41 a42 a43 x27 x28 x29 x30 a29 (u_26.2.1 0) a18 f1 a28 f2 a39 (u_26.2.1 1)) H := g_psub hP [0, 1, 2, 3, 4] rfl
                      have hD9 : va_D A (zS_10 cB cC cI cJ a0 a1 x3 x4 x5 x6 x7 x8 x9 x10 a2 a3 a4 a5 a6 a7 a8 a9 a10 a11 a12 a13 a14 a15 a16 x11 x12 x13 x14 x15 x16 a17 a18 a19 x17 a20 x18 a21 x19 x20 a22 a23 a24 a25 x21 a26 x22 a27 a28 a29 y0 a30 a31 a32 a33 a34 a35 a36 a37 a38 x23 x24 x25 (u_26.2.2.2.2 0) a39 x26 a40 a41 a42 a43 x27 x28 x29 x30 a29 (u_26.2.1 0) a18 f1 a28 f2 a39 (u_26.2.1 1)) := hD.sub [0, 1, 2, 3, 4] (by decide) rfl
                      exact hret (-1000000000) ((fun _ => 0), (fun k => [(u_26.2.1 0), (u_26.2.1 1)].getD k (fun _ => 0)), (fun _ => (fun _ => 0)), (fun _ => 0), (fun k => [(u_26.2.2.2.2 0)].getD k 0)) dX12_sums_46 trivial hP9 hD9 hS
theorem om_1759 {a b : Int} (h0 : (a = 2 * b)) (h1 : (0 ≤ b)) : (-2147483648 ≤ a - 2) := by omega
theorem om_1760 {a b : Int} (h0 : (a = 2 * b)) (h1 : (b ≤ 8)) : (a - 2 ≤ 2147483647) := by omega
theorem om_1761 {a b c : Int} (h0 : (a = b - 2)) (h1 : (b = 2 * c)) (h2 : (0 ≤ c)) (h3 : (c ≤ 8)) : (((-2) ≤ a ∧ a ≤ 14)) := by omega
theorem om_1762 {a b c d : Int} (h0 : (0 ≤ a)) (h1 : (a = 0 ∨ 2 ≤ c)) (h2 : (b = d - 2)) (h3 : (d = 2 * c)) : (a = 0 ∨ 0 ≤ b) := by omega
set_option maxHeartbeats 4000000 in
set_option maxRecDepth 100000 in
theorem k_X12_apart (l : Launch) (D : va_G) (cB cC cI cJ : ClassId) (sz : Nat) (a0 a1 a2 a3 a4 a5 a6 a7 a8 a9 a10 a11 a12 a13 a14 a15 a16 a17 a18 a19 a20 a21 a22 a23 a24 a25 a26 a27 a28 a29 a30 a31 a32 a33 a34 a35 a36 a37 a38 a39 a40 a41 a42 a43 : Nat) (x0 x1 x2 x3 x4 x5 x6 x7 x8 x9 x10 x11 x12 x13 x14 x15 x16 x17 x18 x19 x20 x21 x22 x23 x24 x25 x26 x27 x28 : Int32) (y0 y1 : Int64) (f0 f1 f2 f3 : Nat → Int32) (h_x1 : zBd x1.toInt 0 1600) (h_x2 : zBd x2.toInt 0 1600) (h_x3 : zBd x3.toInt 0 1600) (h_x4 : zBd x4.toInt (-1) 1600) (h_x5 : zBd x5.toInt 0 4) (h_x6 : zBd x6.toInt (-1) 1600) (h_x9 : zBd x9.toInt 0 8) (h_x10 : zBd x10.toInt 0 5) (h_x11 : zBd x11.toInt 0 6) (h_x12 : zBd x12.toInt 0 6) (h_x13 : zBd x13.toInt 0 16) (h_x15 : zBd x15.toInt 0 60) (h_x16 : zBd x16.toInt 0 1600) (h_x17 : zBd x17.toInt 0 1700) (h_x19 : zBd x19.toInt 0 1700) (h_x20 : zBd x20.toInt 0 1700) (h_x21 : zBd x21.toInt 0 200) (h_x22 : zBd x22.toInt 0 40) (h_x23 : zBd x23.toInt 0 40) (h_x24 : zBd x24.toInt 0 1) (h_x25 : zBd x25.toInt 0 14) (h_x26 : zBd x26.toInt 0 200) (h_x27 : zBd x27.toInt 0 40) (h_x28 : zBd x28.toInt 0 40) (hr_a0_0 : (x22.toInt ≤ x21.toInt)) (hr_a0_1 : (x21.toInt + x23.toInt ≤ 200)) (hr_a0_2 : (x10.toInt = 0 ∨ 2 ≤ x9.toInt)) (hf_f1 : (∀ j, (-9999) ≤ (f1 j).toInt ∧ (f1 j).toInt ≤ 9999)) (hf_f2 : (∀ j, (-1100000) ≤ (f2 j).toInt ∧ (f2 j).toInt ≤ 1100000)) : Met l yX12_apart (.code yX12_apart cX12_apart 2 (some .long) :: lw_gd) ({ frames := 3, cells := 0, slots := 0, locals := 77 }) (gPre D [(cB, .byte), (cC, .char), (cI, .int), (cJ, .long)] [.ref a0, .int x0] (zS_10 cB cC cI cJ a0 a1 x1 x2 x3 x4 x5 x6 x7 x8 a2 a3 a4 a5 a6 a7 a8 a9 a10 a11 a12 a13 a14 a15 a16 x9 x10 x11 x12 x13 x14 a17 a18 a19 x15 a20 x16 a21 x17 x18 a22 a23 a24 a25 x19 a26 x20 a27 a28 a29 y0 a30 a31 a32 a33 a34 a35 a36 a37 a38 x21 x22 x23 y1 a39 x24 a40 a41 a42 a43 x25 x26 x27 x28 a29 f0 a18 f1 a28 f2 a39 f3) sz) (va_Ql (fun r u => ((r.toInt = (-1)) ∨ (((-9223372036854775808) ≤ r.toInt ∧ r.toInt ≤ 9223372036854775807)))) (gB D (va_A (zS_10 cB cC cI cJ a0 a1 x1 x2 x3 x4 x5 x6 x7 x8 a2 a3 a4 a5 a6 a7 a8 a9 a10 a11 a12 a13 a14 a15 a16 x9 x10 x11 x12 x13 x14 a17 a18 a19 x15 a20 x16 a21 x17 x18 a22 a23 a24 a25 x19 a26 x20 a27 a28 a29 y0 a30 a31 a32 a33 a34 a35 a36 a37 a38 x21 x22 x23 y1 a39 x24 a40 a41 a42 a43 x25 x26 x27 x28 a29 f0 a18 f1 a28 f2 a39 f3) sz) (fun u : gEx => (zS_10 cB cC cI cJ a0 a1 x1 x2 x3 x4 x5 x6 x7 x8 a2 a3 a4 a5 a6 a7 a8 a9 a10 a11 a12 a13 a14 a15 a16 x9 x10 x11 x12 x13 x14 a17 a18 a19 x15 a20 x16 a21 x17 x18 a22 a23 a24 a25 x19 a26 x20 a27 a28 a29 y0 a30 a31 a32 a33 a34 a35 a36 a37 a38 x21 x22 x23 (u.2.2.2.2 0) a39 x24 a40 a41 a42 a43 x25 x26 x27 x28 a29 (u.2.1 0) a18 f1 a28 f2 a39 (u.2.1 1)))) (va_A (zS_10 cB cC cI cJ a0 a1 x1 x2 x3 x4 x5 x6 x7 x8 a2 a3 a4 a5 a6 a7 a8 a9 a10 a11 a12 a13 a14 a15 a16 x9 x10 x11 x12 x13 x14 a17 a18 a19 x15 a20 x16 a21 x17 x18 a22 a23 a24 a25 x19 a26 x20 a27 a28 a29 y0 a30 a31 a32 a33 a34 a35 a36 a37 a38 x21 x22 x23 y1 a39 x24 a40 a41 a42 a43 x25 x26 x27 x28 a29 f0 a18 f1 a28 f2 a39 f3) sz)) 0 0 (va_A (zS_10 cB cC cI cJ a0 a1 x1 x2 x3 x4 x5 x6 x7 x8 a2 a3 a4 a5 a6 a7 a8 a9 a10 a11 a12 a13 a14 a15 a16 x9 x10 x11 x12 x13 x14 a17 a18 a19 x15 a20 x16 a21 x17 x18 a22 a23 a24 a25 x19 a26 x20 a27 a28 a29 y0 a30 a31 a32 a33 a34 a35 a36 a37 a38 x21 x22 x23 y1 a39 x24 a40 a41 a42 a43 x25 x26 x27 x28 a29 f0 a18 f1 a28 f2 a39 f3) sz) := by
  refine gOf_l (by decide +kernel) (Nat.le_of_ble_eq_true rfl) ?_
  intro p e s m args below meth c ls A Q hx hb hts hown hml hN hK hP hD hA hl hret
  replace hown : s.vm.findClass RX12 = some m.cls := hown
  have hS : va_S A s.heap s.heap [] := va_S.rf
  replace hP : va_P D gcl (zS_10 cB cC cI cJ a0 a1 x1 x2 x3 x4 x5 x6 x7 x8 a2 a3 a4 a5 a6 a7 a8 a9 a10 a11 a12 a13 a14 a15 a16 x9 x10 x11 x12 x13 x14 a17 a18 a19 x15 a20 x16 a21 x17 x18 a22 a23 a24 a25 x19 a26 x20 a27 a28 a29 y0 a30 a31 a32 a33 a34 a35 a36 a37 a38 x21 x22 x23 y1 a39 x24 a40 a41 a42 a43 x25 x26 x27 x28 a29 f0 a18 f1 a28 f2 a39 f3) s.heap := hP
  replace hl : lv_has ls 2 [(0, .ref a0), (1, .int x0)] := hl
  have rx0 : zBd x0.toInt (-2147483648) 2147483647 := n_rng x0
  have rx7 : zBd x7.toInt (-2147483648) 2147483647 := n_rng x7
  have rx8 : zBd x8.toInt (-2147483648) 2147483647 := n_rng x8
  have rx14 : zBd x14.toInt (-2147483648) 2147483647 := n_rng x14
  have rx18 : zBd x18.toInt (-2147483648) 2147483647 := n_rng x18
  have ry0 := n_rngL y0
  have ry1 := n_rngL y1
  refine lv_aload_n (pc := 0) hx hb dX12_apart_0 rfl (lv_at hl 0 rfl) ?_
  refine lv_iload_n (pc := 1) hx hb dX12_apart_1 rfl (lv_at hl 1 rfl) ?_
  refine gd_i (pc := 2) (wc := (zS_4 cB cC cI cJ a0 a1 x1 x2 x3 x4 x5 x6 x7 x8 a2 a3 a4 a5 a6 a7 a8 a9 a10 a11 a12 a13 a14 a15 a16 x9 x10 x11 x12 x13 x14 a17 a18 a19 x15 a20 x16 a21 x17 x18 a22 a23 a24 a25 x19 a26 x20 a27 a28 a29 y0 a30 a31 a32 a33 a34 a35 a36 a37 a38 x21 x22 x23 y1 a39 x24 a40 a41 a42 a43 x25 x26 x27 x28)) hP hD hS hA [0] rfl (by decide +kernel) (fun _ => by rfl) (fun hPc hDc => va_runV (As := [.int x0]) (rest := []) ⟨hx, hb, hml, hown, hts⟩ (k_X12_areSenders l D cB cC cI cJ _ a0 a1 a2 a3 a4 a5 a6 a7 a8 a9 a10 a11 a12 a13 a14 a15 a16 a17 a18 a19 a20 a21 a22 a23 a24 a25 a26 a27 a28 a29 a30 a31 a32 a33 a34 a35 a36 a37 a38 a39 a40 a41 a42 a43 x0 x1 x2 x3 x4 x5 x6 x7 x8 x9 x10 x11 x12 x13 x14 x15 x16 x17 x18 x19 x20 x21 x22 x23 x24 x25 x26 x27 x28 y0 y1 h_x1 h_x2 h_x3 h_x4 h_x5 h_x6 h_x9 h_x10 h_x11 h_x12 h_x13 h_x15 h_x16 h_x17 h_x19 h_x20 h_x21 h_x22 h_x23 h_x24 h_x25 h_x26 h_x27 h_x28 hr_a0_0 hr_a0_1 hr_a0_2) ⟨gcwB hts tw_1967 tw_14 tw_1964 hd_yX12_areSenders ⟨Nat.le_of_ble_eq_true rfl, Nat.le_of_ble_eq_true rfl⟩, hts _ tw_1966, hts _ tp_108⟩ ⟨gblind, va_recv hK hPc (ci := 12) (q0 := 0) rfl rfl, (gpreS hPc hK hDc hN).2⟩ rfl rfl hl.1 rfl (lv_room (Nat.le_of_ble_eq_true rfl)) dX12_apart_2 ⟨Nat.le_of_ble_eq_true rfl, Nat.le_of_ble_eq_true rfl⟩) (fun r_2 u_1 H locs hw_3 hP hD hS => ?_)
  replace hP : va_P D gcl (zS_10 cB cC cI cJ a0 a1 x1 x2 x3 x4 x5 x6 x7 x8 a2 a3 a4 a5 a6 a7 a8 a9 a10 a11 a12 a13 a14 a15 a16 x9 x10 x11 x12 x13 x14 a17 a18 a19 x15 a20 x16 a21 x17 x18 a22 a23 a24 a25 x19 a26 x20 a27 a28 a29 y0 a30 a31 a32 a33 a34 a35 a36 a37 a38 x21 x22 x23 y1 a39 x24 a40 a41 a42 a43 x25 x26 x27 x28 a29 f0 a18 f1 a28 f2 a39 f3) H := hP
  replace hD : va_D A (zS_10 cB cC cI cJ a0 a1 x1 x2 x3 x4 x5 x6 x7 x8 a2 a3 a4 a5 a6 a7 a8 a9 a10 a11 a12 a13 a14 a15 a16 x9 x10 x11 x12 x13 x14 a17 a18 a19 x15 a20 x16 a21 x17 x18 a22 a23 a24 a25 x19 a26 x20 a27 a28 a29 y0 a30 a31 a32 a33 a34 a35 a36 a37 a38 x21 x22 x23 y1 a39 x24 a40 a41 a42 a43 x25 x26 x27 x28 a29 f0 a18 f1 a28 f2 a39 f3) := hD
  have hw_4 : (((0 ≤ r_2.toInt ∧ r_2.toInt ≤ 1))) := hw_3
  have rr_2 : zBd r_2.toInt (-2147483648) 2147483647 := n_rng r_2
  refine b_if_eq (pc := 5) (tgt := 32) hx hb rfl  dX12_apart_5 (by decide) (fun c_5 => ?_) (fun c_5 => ?_)
  ·
    as_aux_lemma =>
      refine lv_ldc2 (pc := 32) hx hb hown (hts _ tw_1838) dX12_apart_32 ?_
      have hP9 : va_P D gcl (zS_10 cB cC cI cJ a0 a1 x1 x2 x3 x4 x5 x6 x7 x8 a2 a3 a4 a5 a6 a7 a8 a9 a10 a11 a12 a13 a14 a15 a16 x9 x10 x11 x12 x13 x14 a17 a18 a19 x15 a20 x16 a21 x17 x18 a22 a23 a24 a25 x19 a26 x20 a27 a28 a29 y0 a30 a31 a32 a33 a34 a35 a36 a37 a38 x21 x22 x23 y1 a39 x24 a40 a41 a42 a43 x25 x26 x27 x28 a29 f0 a18 f1 a28 f2 a39 f3) H := g_psub hP [0, 1, 2, 3, 4] rfl
      have hD9 : va_D A (zS_10 cB cC cI cJ a0 a1 x1 x2 x3 x4 x5 x6 x7 x8 a2 a3 a4 a5 a6 a7 a8 a9 a10 a11 a12 a13 a14 a15 a16 x9 x10 x11 x12 x13 x14 a17 a18 a19 x15 a20 x16 a21 x17 x18 a22 a23 a24 a25 x19 a26 x20 a27 a28 a29 y0 a30 a31 a32 a33 a34 a35 a36 a37 a38 x21 x22 x23 y1 a39 x24 a40 a41 a42 a43 x25 x26 x27 x28 a29 f0 a18 f1 a28 f2 a39 f3) := hD.sub [0, 1, 2, 3, 4] (by decide) rfl
      exact hret (-1) ((fun _ => 0), (fun k => [f0, f3].getD k (fun _ => 0)), (fun _ => (fun _ => 0)), (fun _ => 0), (fun k => [y1].getD k 0)) dX12_apart_35 (show ((((-1) : Int64).toInt = (-1)) ∨ (((-9223372036854775808) ≤ ((-1) : Int64).toInt ∧ ((-1) : Int64).toInt ≤ 9223372036854775807))) from (by first | exact (om_1351 tL_m1) | (have k9 := tL_m1; (first | omega | (unfold zBd at *; omega))))) hP9 hD9 hS
  ·
    as_aux_lemma =>
      refine lv_aload_n (pc := 8) hx hb dX12_apart_8 rfl (lv_at hl 0 rfl) ?_
      refine lv_iload_n (pc := 9) hx hb dX12_apart_9 rfl (lv_at hl 1 rfl) ?_
      refine lv_iconst (pc := 10) (v := 2) hx hb dX12_apart_10 (by decide) ?_
      refine lv_aload_n (pc := 11) hx hb dX12_apart_11 rfl (lv_at hl 0 rfl) ?_
      refine va_get (pc := 12) (ci := 12) (v := .int x9) (C := RX12) (T := TX12) (N := 73) hx hb hts iX12 hown hK hP 0 rfl rfl 24 (by decide) (hts _ tw_1425) (fun _ h9 => h9) rfl dX12_apart_12 ?_
      have bd_h_x9 : 0 ≤ x9.toInt ∧ x9.toInt ≤ 8 := h_x9
      refine b_imul (pc := 15) hx hb tI_2 rfl (by first | exact (om_1336 h_x9.1) | ((first | omega | (unfold zBd at *; omega)))) (by first | exact (om_1278 h_x9.2) | ((first | omega | (unfold zBd at *; omega)))) dX12_apart_15 (fun x_6 ex_6 => ?_)
      refine lv_iconst (pc := 16) (v := 2) hx hb dX12_apart_16 (by decide) ?_
      refine b_isub (pc := 17) hx hb rfl tI_2 (by first | exact (om_1759 ex_6 h_x9.1) | ((first | omega | (unfold zBd at *; omega)))) (by first | exact (om_1760 ex_6 h_x9.2) | ((first | omega | (unfold zBd at *; omega)))) dX12_apart_17 (fun x_7 ex_7 => ?_)
      refine lv_iconst (pc := 18) (v := 2) hx hb dX12_apart_18 (by decide) ?_
      refine gd_i (pc := 19) (wc := (zS_10 cB cC cI cJ a0 a1 x1 x2 x3 x4 x5 x6 x7 x8 a2 a3 a4 a5 a6 a7 a8 a9 a10 a11 a12 a13 a14 a15 a16 x9 x10 x11 x12 x13 x14 a17 a18 a19 x15 a20 x16 a21 x17 x18 a22 a23 a24 a25 x19 a26 x20 a27 a28 a29 y0 a30 a31 a32 a33 a34 a35 a36 a37 a38 x21 x22 x23 y1 a39 x24 a40 a41 a42 a43 x25 x26 x27 x28 a29 f0 a18 f1 a28 f2 a39 f3)) hP hD hS hA [0, 1, 2, 3, 4] rfl (by decide +kernel) (fun _ => by rfl) (fun hPc hDc => va_runV (As := [.int x0, .int x_7, .int 2]) (rest := []) ⟨hx, hb, hml, hown, hts⟩ (k_X12_isLeast l D cB cC cI cJ _ a0 a1 a2 a3 a4 a5 a6 a7 a8 a9 a10 a11 a12 a13 a14 a15 a16 a17 a18 a19 a20 a21 a22 a23 a24 a25 a26 a27 a28 a29 a30 a31 a32 a33 a34 a35 a36 a37 a38 a39 a40 a41 a42 a43 x0 x_7 2 x1 x2 x3 x4 x5 x6 x7 x8 x9 x10 x11 x12 x13 x14 x15 x16 x17 x18 x19 x20 x21 x22 x23 x24 x25 x26 x27 x28 y0 y1 f0 f1 f2 f3 (by first | exact (om_1761 ex_7 ex_6 h_x9.1 h_x9.2) | (have k0 := tI_2; (first | omega | (unfold zBd at *; omega)))) (n_c tI_2 (by decide)) h_x1 h_x2 h_x3 h_x4 h_x5 h_x6 h_x9 h_x10 h_x11 h_x12 h_x13 h_x15 h_x16 h_x17 h_x19 h_x20 h_x21 h_x22 h_x23 h_x24 h_x25 h_x26 h_x27 h_x28 hr_a0_0 hr_a0_1 hr_a0_2 (by first | exact (om_1762 h_x10.1 hr_a0_2 ex_7 ex_6) | (have k0 := tI_2; (first | omega | (unfold zBd at *; omega)))) hf_f1 hf_f2) ⟨gcwB hts tw_1971 tw_14 tw_1968 hd_yX12_isLeast ⟨Nat.le_of_ble_eq_true rfl, Nat.le_of_ble_eq_true rfl⟩, hts _ tw_1970, hts _ tp_109⟩ ⟨gblind, va_recv hK hPc (ci := 12) (q0 := 0) rfl rfl, (gpreS hPc hK hDc hN).2⟩ rfl rfl hl.1 rfl (lv_room (Nat.le_of_ble_eq_true rfl)) dX12_apart_19 ⟨Nat.le_of_ble_eq_true rfl, Nat.le_of_ble_eq_true rfl⟩) (fun r_9 u_8 H locs hw_10 hP hD hS => ?_)
      replace hP : va_P D gcl (zS_10 cB cC cI cJ a0 a1 x1 x2 x3 x4 x5 x6 x7 x8 a2 a3 a4 a5 a6 a7 a8 a9 a10 a11 a12 a13 a14 a15 a16 x9 x10 x11 x12 x13 x14 a17 a18 a19 x15 a20 x16 a21 x17 x18 a22 a23 a24 a25 x19 a26 x20 a27 a28 a29 y0 a30 a31 a32 a33 a34 a35 a36 a37 a38 x21 x22 x23 (u_8.2.2.2.2 0) a39 x24 a40 a41 a42 a43 x25 x26 x27 x28 a29 (u_8.2.1 0) a18 f1 a28 f2 a39 (u_8.2.1 1)) H := hP
      replace hD : va_D A (zS_10 cB cC cI cJ a0 a1 x1 x2 x3 x4 x5 x6 x7 x8 a2 a3 a4 a5 a6 a7 a8 a9 a10 a11 a12 a13 a14 a15 a16 x9 x10 x11 x12 x13 x14 a17 a18 a19 x15 a20 x16 a21 x17 x18 a22 a23 a24 a25 x19 a26 x20 a27 a28 a29 y0 a30 a31 a32 a33 a34 a35 a36 a37 a38 x21 x22 x23 (u_8.2.2.2.2 0) a39 x24 a40 a41 a42 a43 x25 x26 x27 x28 a29 (u_8.2.1 0) a18 f1 a28 f2 a39 (u_8.2.1 1)) := hD
      have ru_8_0 := n_rngL (u_8.2.2.2.2 0)
      have hw_11 : (0 ≤ r_9.toInt ∧ r_9.toInt ≤ 1) := hw_10
      have kk0_r_9 := tI_2
      have rr_9 : zBd r_9.toInt (-2147483648) 2147483647 := n_rng r_9
      as_aux_lemma =>
        refine b_if_eq (pc := 22) (tgt := 32) hx hb rfl  dX12_apart_22 (by decide) (fun c_12 => ?_) (fun c_12 => ?_)
        ·
          as_aux_lemma =>
            refine lv_ldc2 (pc := 32) hx hb hown (hts _ tw_1838) dX12_apart_32 ?_
            have hP9 : va_P D gcl (zS_10 cB cC cI cJ a0 a1 x1 x2 x3 x4 x5 x6 x7 x8 a2 a3 a4 a5 a6 a7 a8 a9 a10 a11 a12 a13 a14 a15 a16 x9 x10 x11 x12 x13 x14 a17 a18 a19 x15 a20 x16 a21 x17 x18 a22 a23 a24 a25 x19 a26 x20 a27 a28 a29 y0 a30 a31 a32 a33 a34 a35 a36 a37 a38 x21 x22 x23 (u_8.2.2.2.2 0) a39 x24 a40 a41 a42 a43 x25 x26 x27 x28 a29 (u_8.2.1 0) a18 f1 a28 f2 a39 (u_8.2.1 1)) H := g_psub hP [0, 1, 2, 3, 4] rfl
            have hD9 : va_D A (zS_10 cB cC cI cJ a0 a1 x1 x2 x3 x4 x5 x6 x7 x8 a2 a3 a4 a5 a6 a7 a8 a9 a10 a11 a12 a13 a14 a15 a16 x9 x10 x11 x12 x13 x14 a17 a18 a19 x15 a20 x16 a21 x17 x18 a22 a23 a24 a25 x19 a26 x20 a27 a28 a29 y0 a30 a31 a32 a33 a34 a35 a36 a37 a38 x21 x22 x23 (u_8.2.2.2.2 0) a39 x24 a40 a41 a42 a43 x25 x26 x27 x28 a29 (u_8.2.1 0) a18 f1 a28 f2 a39 (u_8.2.1 1)) := hD.sub [0, 1, 2, 3, 4] (by decide) rfl
            exact hret (-1) ((fun _ => 0), (fun k => [(u_8.2.1 0), (u_8.2.1 1)].getD k (fun _ => 0)), (fun _ => (fun _ => 0)), (fun _ => 0), (fun k => [(u_8.2.2.2.2 0)].getD k 0)) dX12_apart_35 (show ((((-1) : Int64).toInt = (-1)) ∨ (((-9223372036854775808) ≤ ((-1) : Int64).toInt ∧ ((-1) : Int64).toInt ≤ 9223372036854775807))) from (by first | exact (om_1351 tL_m1) | (have k9 := tL_m1; (first | omega | (unfold zBd at *; omega))))) hP9 hD9 hS
        ·
          as_aux_lemma =>
            refine lv_aload_n (pc := 25) hx hb dX12_apart_25 rfl (lv_at hl 0 rfl) ?_
            refine va_get (pc := 26) (ci := 12) (v := .long (u_8.2.2.2.2 0)) (C := RX12) (T := TX12) (N := 73) hx hb hts iX12 hown hK hP 0 rfl rfl 62 (by decide) (hts _ tw_1463) (fun _ h9 => h9) rfl dX12_apart_26 ?_
            refine lv_goto (pc := 29) (tgt := 35) hx hb dX12_apart_29 (by decide) ?_
            have hP9 : va_P D gcl (zS_10 cB cC cI cJ a0 a1 x1 x2 x3 x4 x5 x6 x7 x8 a2 a3 a4 a5 a6 a7 a8 a9 a10 a11 a12 a13 a14 a15 a16 x9 x10 x11 x12 x13 x14 a17 a18 a19 x15 a20 x16 a21 x17 x18 a22 a23 a24 a25 x19 a26 x20 a27 a28 a29 y0 a30 a31 a32 a33 a34 a35 a36 a37 a38 x21 x22 x23 (u_8.2.2.2.2 0) a39 x24 a40 a41 a42 a43 x25 x26 x27 x28 a29 (u_8.2.1 0) a18 f1 a28 f2 a39 (u_8.2.1 1)) H := g_psub hP [0, 1, 2, 3, 4] rfl
            have hD9 : va_D A (zS_10 cB cC cI cJ a0 a1 x1 x2 x3 x4 x5 x6 x7 x8 a2 a3 a4 a5 a6 a7 a8 a9 a10 a11 a12 a13 a14 a15 a16 x9 x10 x11 x12 x13 x14 a17 a18 a19 x15 a20 x16 a21 x17 x18 a22 a23 a24 a25 x19 a26 x20 a27 a28 a29 y0 a30 a31 a32 a33 a34 a35 a36 a37 a38 x21 x22 x23 (u_8.2.2.2.2 0) a39 x24 a40 a41 a42 a43 x25 x26 x27 x28 a29 (u_8.2.1 0) a18 f1 a28 f2 a39 (u_8.2.1 1)) := hD.sub [0, 1, 2, 3, 4] (by decide) rfl
            exact hret (u_8.2.2.2.2 0) ((fun _ => 0), (fun k => [(u_8.2.1 0), (u_8.2.1 1)].getD k (fun _ => 0)), (fun _ => (fun _ => 0)), (fun _ => 0), (fun k => [(u_8.2.2.2.2 0)].getD k 0)) dX12_apart_35 (show (((u_8.2.2.2.2 0).toInt = (-1)) ∨ (((-9223372036854775808) ≤ (u_8.2.2.2.2 0).toInt ∧ (u_8.2.2.2.2 0).toInt ≤ 9223372036854775807))) from (by first | exact (om_1352 ru_8_0.1 ru_8_0.2) | ((first | omega | (unfold zBd at *; omega))))) hP9 hD9 hS
theorem om_1763 {a b c d e f g h i : Int} (h0 : ((e = 0 ∧ f < g) ∨ (e = 0 ∧ f ≥ g ∧ f > h) ∨ (e = 1 ∧ f ≥ g ∧ f ≤ h))) (h1 : (f = a)) (h2 : (g = 0)) (h3 : (i = b - 1)) (h4 : (h = i)) (h5 : (e = 0)) : (¬ (0 ≤ a ∧ a < b ∧ 0 ≤ c ∧ c < d)) := by omega
theorem om_1764 {a b c d e : Int} (h0 : (¬ b = 0)) (h1 : ((b = 0 ∧ c < d) ∨ (b = 0 ∧ c ≥ d ∧ c > e) ∨ (b = 1 ∧ c ≥ d ∧ c ≤ e))) (h2 : (c = a)) (h3 : (d = 0)) : (-2147483648 ≤ 5 * a) := by omega
theorem om_1765 {a b c d e f g : Int} (h0 : (¬ b = 0)) (h1 : ((b = 0 ∧ c < d) ∨ (b = 0 ∧ c ≥ d ∧ c > e) ∨ (b = 1 ∧ c ≥ d ∧ c ≤ e))) (h2 : (c = a)) (h3 : (e = f)) (h4 : (f = g - 1)) (h5 : (g ≤ 16)) : (5 * a ≤ 2147483647) := by omega
theorem om_1766 {a : Int} (h0 : ((-9999) ≤ a)) (h1 : (a ≤ 9999)) : (((-1000000000) ≤ a ∧ a ≤ 9999)) := by omega
set_option maxHeartbeats 4000000 in
set_option maxRecDepth 100000 in
theorem k_X12_word (l : Launch) (D : va_G) (cB cC cI cJ : ClassId) (sz : Nat) (a0 a1 a2 a3 a4 a5 a6 a7 a8 a9 a10 a11 a12 a13 a14 a15 a16 a17 a18 a19 a20 a21 a22 a23 a24 a25 a26 a27 a28 a29 a30 a31 a32 a33 a34 a35 a36 a37 a38 a39 a40 a41 a42 a43 : Nat) (x0 x1 x2 x3 x4 x5 x6 x7 x8 x9 x10 x11 x12 x13 x14 x15 x16 x17 x18 x19 x20 x21 x22 x23 x24 x25 x26 x27 x28 x29 : Int32) (y0 y1 : Int64) (f0 : Nat → Int32) (h_x2 : zBd x2.toInt 0 1600) (h_x3 : zBd x3.toInt 0 1600) (h_x4 : zBd x4.toInt 0 1600) (h_x5 : zBd x5.toInt (-1) 1600) (h_x6 : zBd x6.toInt 0 4) (h_x7 : zBd x7.toInt (-1) 1600) (h_x10 : zBd x10.toInt 0 8) (h_x11 : zBd x11.toInt 0 5) (h_x12 : zBd x12.toInt 0 6) (h_x13 : zBd x13.toInt 0 6) (h_x14 : zBd x14.toInt 0 16) (h_x16 : zBd x16.toInt 0 60) (h_x17 : zBd x17.toInt 0 1600) (h_x18 : zBd x18.toInt 0 1700) (h_x20 : zBd x20.toInt 0 1700) (h_x21 : zBd x21.toInt 0 1700) (h_x22 : zBd x22.toInt 0 200) (h_x23 : zBd x23.toInt 0 40) (h_x24 : zBd x24.toInt 0 40) (h_x25 : zBd x25.toInt 0 1) (h_x26 : zBd x26.toInt 0 14) (h_x27 : zBd x27.toInt 0 200) (h_x28 : zBd x28.toInt 0 40) (h_x29 : zBd x29.toInt 0 40) (hr_a0_0 : (x23.toInt ≤ x22.toInt)) (hr_a0_1 : (x22.toInt + x24.toInt ≤ 200)) (hr_a0_2 : (x11.toInt = 0 ∨ 2 ≤ x10.toInt)) (hf_f0 : (∀ j, (-9999) ≤ (f0 j).toInt ∧ (f0 j).toInt ≤ 9999)) : Met l yX12_word (.code yX12_word cX12_word 3 (some .int) :: lw_gd) ({ frames := 2, cells := 0, slots := 0, locals := 46 }) (gPre D [(cB, .byte), (cC, .char), (cI, .int), (cJ, .long)] [.ref a0, .int x0, .int x1] (zS_27 cB cC cI cJ a0 a1 x2 x3 x4 x5 x6 x7 x8 x9 a2 a3 a4 a5 a6 a7 a8 a9 a10 a11 a12 a13 a14 a15 a16 x10 x11 x12 x13 x14 x15 a17 a18 a19 x16 a20 x17 a21 x18 x19 a22 a23 a24 a25 x20 a26 x21 a27 a28 a29 y0 a30 a31 a32 a33 a34 a35 a36 a37 a38 x22 x23 x24 y1 a39 x25 a40 a41 a42 a43 x26 x27 x28 x29 a19 f0) sz) (va_Qi (fun r u => ((-1000000000) ≤ r.toInt ∧ r.toInt ≤ 9999) ∧ (woQ r.toInt x0.toInt x1.toInt x14.toInt x11.toInt f0)) (gB D (va_A (zS_27 cB cC cI cJ a0 a1 x2 x3 x4 x5 x6 x7 x8 x9 a2 a3 a4 a5 a6 a7 a8 a9 a10 a11 a12 a13 a14 a15 a16 x10 x11 x12 x13 x14 x15 a17 a18 a19 x16 a20 x17 a21 x18 x19 a22 a23 a24 a25 x20 a26 x21 a27 a28 a29 y0 a30 a31 a32 a33 a34 a35 a36 a37 a38 x22 x23 x24 y1 a39 x25 a40 a41 a42 a43 x26 x27 x28 x29 a19 f0) sz) (fun u : gEx => (zS_27 cB cC cI cJ a0 a1 x2 x3 x4 x5 x6 x7 x8 x9 a2 a3 a4 a5 a6 a7 a8 a9 a10 a11 a12 a13 a14 a15 a16 x10 x11 x12 x13 x14 x15 a17 a18 a19 x16 a20 x17 a21 x18 x19 a22 a23 a24 a25 x20 a26 x21 a27 a28 a29 y0 a30 a31 a32 a33 a34 a35 a36 a37 a38 x22 x23 x24 y1 a39 x25 a40 a41 a42 a43 x26 x27 x28 x29 a19 f0))) (va_A (zS_27 cB cC cI cJ a0 a1 x2 x3 x4 x5 x6 x7 x8 x9 a2 a3 a4 a5 a6 a7 a8 a9 a10 a11 a12 a13 a14 a15 a16 x10 x11 x12 x13 x14 x15 a17 a18 a19 x16 a20 x17 a21 x18 x19 a22 a23 a24 a25 x20 a26 x21 a27 a28 a29 y0 a30 a31 a32 a33 a34 a35 a36 a37 a38 x22 x23 x24 y1 a39 x25 a40 a41 a42 a43 x26 x27 x28 x29 a19 f0) sz)) 0 0 (va_A (zS_27 cB cC cI cJ a0 a1 x2 x3 x4 x5 x6 x7 x8 x9 a2 a3 a4 a5 a6 a7 a8 a9 a10 a11 a12 a13 a14 a15 a16 x10 x11 x12 x13 x14 x15 a17 a18 a19 x16 a20 x17 a21 x18 x19 a22 a23 a24 a25 x20 a26 x21 a27 a28 a29 y0 a30 a31 a32 a33 a34 a35 a36 a37 a38 x22 x23 x24 y1 a39 x25 a40 a41 a42 a43 x26 x27 x28 x29 a19 f0) sz) := by
  refine gOf_i (by decide +kernel) (Nat.le_of_ble_eq_true rfl) ?_
  intro p e s m args below meth c ls A Q hx hb hts hown hml hN hK hP hD hA hl hret
  replace hown : s.vm.findClass RX12 = some m.cls := hown
  have hS : va_S A s.heap s.heap [] := va_S.rf
  replace hP : va_P D gcl (zS_27 cB cC cI cJ a0 a1 x2 x3 x4 x5 x6 x7 x8 x9 a2 a3 a4 a5 a6 a7 a8 a9 a10 a11 a12 a13 a14 a15 a16 x10 x11 x12 x13 x14 x15 a17 a18 a19 x16 a20 x17 a21 x18 x19 a22 a23 a24 a25 x20 a26 x21 a27 a28 a29 y0 a30 a31 a32 a33 a34 a35 a36 a37 a38 x22 x23 x24 y1 a39 x25 a40 a41 a42 a43 x26 x27 x28 x29 a19 f0) s.heap := hP
  replace hl : lv_has ls 3 [(0, .ref a0), (1, .int x0), (2, .int x1)] := hl
  have rx0 : zBd x0.toInt (-2147483648) 2147483647 := n_rng x0
  have rx1 : zBd x1.toInt (-2147483648) 2147483647 := n_rng x1
  have rx8 : zBd x8.toInt (-2147483648) 2147483647 := n_rng x8
  have rx9 : zBd x9.toInt (-2147483648) 2147483647 := n_rng x9
  have rx15 : zBd x15.toInt (-2147483648) 2147483647 := n_rng x15
  have rx19 : zBd x19.toInt (-2147483648) 2147483647 := n_rng x19
  have ry0 := n_rngL y0
  have ry1 := n_rngL y1
  refine lv_iload_n (pc := 0) hx hb dX12_word_0 rfl (lv_at hl 1 rfl) ?_
  refine b_i2l (pc := 1) hx hb rfl dX12_word_1 (fun y_1 ey_1 => ?_)
  have ry_1 : zBd x0.toInt (-2147483648) 2147483647 := n_rng x0
  refine lv_lconst (pc := 2) (v := 0) hx hb dX12_word_2 (by decide) ?_
  refine lv_aload_n (pc := 3) hx hb dX12_word_3 rfl (lv_at hl 0 rfl) ?_
  refine va_get (pc := 4) (ci := 12) (v := .int x14) (C := RX12) (T := TX12) (N := 73) hx hb hts iX12 hown hK hP 0 rfl rfl 28 (by decide) (hts _ tw_1429) (fun _ h9 => h9) rfl dX12_word_4 ?_
  have bd_h_x14 : 0 ≤ x14.toInt ∧ x14.toInt ≤ 16 := h_x14
  refine lv_iconst (pc := 7) (v := 1) hx hb dX12_word_7 (by decide) ?_
  refine b_isub (pc := 8) hx hb rfl tI_1 (by first | exact (om_659 h_x14.1) | ((first | omega | (unfold zBd at *; omega)))) (by first | exact (om_947 h_x14.2) | ((first | omega | (unfold zBd at *; omega)))) dX12_word_8 (fun x_2 ex_2 => ?_)
  refine b_i2l (pc := 9) hx hb rfl dX12_word_9 (fun y_3 ey_3 => ?_)
  have ry_3 : zBd x_2.toInt (-2147483648) 2147483647 := n_rng x_2
  refine gd_i (pc := 10) (wc := []) hP hD hS hA [] rfl (by decide +kernel) (fun _ => by rfl) (fun hPc hDc => va_runS (As := [.long y_1, .long 0, .long y_3]) (rest := []) ⟨hx, hb, hml, hown, hts⟩ (k_X12_isIn l D cB cC cI cJ _ y_1 0 y_3) ⟨gcwB hts tw_1666 tw_14 tw_1664 hd_yX12_isIn ⟨Nat.le_of_ble_eq_true rfl, Nat.le_of_ble_eq_true rfl⟩, hts _ tw_1665⟩ (gpreS hPc hK hDc hN) rfl rfl hl.1 rfl (lv_room (Nat.le_of_ble_eq_true rfl)) dX12_word_10 ⟨Nat.le_of_ble_eq_true rfl, Nat.le_of_ble_eq_true rfl⟩) (fun r_5 u_4 H locs hw_6 hP hD hS => ?_)
  replace hP : va_P D gcl (zS_27 cB cC cI cJ a0 a1 x2 x3 x4 x5 x6 x7 x8 x9 a2 a3 a4 a5 a6 a7 a8 a9 a10 a11 a12 a13 a14 a15 a16 x10 x11 x12 x13 x14 x15 a17 a18 a19 x16 a20 x17 a21 x18 x19 a22 a23 a24 a25 x20 a26 x21 a27 a28 a29 y0 a30 a31 a32 a33 a34 a35 a36 a37 a38 x22 x23 x24 y1 a39 x25 a40 a41 a42 a43 x26 x27 x28 x29 a19 f0) H := hP
  replace hD : va_D A (zS_27 cB cC cI cJ a0 a1 x2 x3 x4 x5 x6 x7 x8 x9 a2 a3 a4 a5 a6 a7 a8 a9 a10 a11 a12 a13 a14 a15 a16 x10 x11 x12 x13 x14 x15 a17 a18 a19 x16 a20 x17 a21 x18 x19 a22 a23 a24 a25 x20 a26 x21 a27 a28 a29 y0 a30 a31 a32 a33 a34 a35 a36 a37 a38 x22 x23 x24 y1 a39 x25 a40 a41 a42 a43 x26 x27 x28 x29 a19 f0) := hD
  have hw_7 : ((r_5.toInt = 0 ∧ y_1.toInt < (0 : Int64).toInt) ∨ (r_5.toInt = 0 ∧ y_1.toInt ≥ (0 : Int64).toInt ∧ y_1.toInt > y_3.toInt) ∨ (r_5.toInt = 1 ∧ y_1.toInt ≥ (0 : Int64).toInt ∧ y_1.toInt ≤ y_3.toInt)) := hw_6
  have kk0_r_5 := tL_0
  have rr_5 : zBd r_5.toInt (-2147483648) 2147483647 := n_rng r_5
  as_aux_lemma =>
    refine b_if_eq (pc := 13) (tgt := 37) hx hb rfl  dX12_word_13 (by decide) (fun c_8 => ?_) (fun c_8 => ?_)
    ·
      as_aux_lemma =>
        refine lv_ldcw (pc := 37) hx hb hown (hts _ tw_1783) dX12_word_37 ?_
        have hP9 : va_P D gcl (zS_27 cB cC cI cJ a0 a1 x2 x3 x4 x5 x6 x7 x8 x9 a2 a3 a4 a5 a6 a7 a8 a9 a10 a11 a12 a13 a14 a15 a16 x10 x11 x12 x13 x14 x15 a17 a18 a19 x16 a20 x17 a21 x18 x19 a22 a23 a24 a25 x20 a26 x21 a27 a28 a29 y0 a30 a31 a32 a33 a34 a35 a36 a37 a38 x22 x23 x24 y1 a39 x25 a40 a41 a42 a43 x26 x27 x28 x29 a19 f0) H := g_psub hP [0, 1] rfl
        have hD9 : va_D A (zS_27 cB cC cI cJ a0 a1 x2 x3 x4 x5 x6 x7 x8 x9 a2 a3 a4 a5 a6 a7 a8 a9 a10 a11 a12 a13 a14 a15 a16 x10 x11 x12 x13 x14 x15 a17 a18 a19 x16 a20 x17 a21 x18 x19 a22 a23 a24 a25 x20 a26 x21 a27 a28 a29 y0 a30 a31 a32 a33 a34 a35 a36 a37 a38 x22 x23 x24 y1 a39 x25 a40 a41 a42 a43 x26 x27 x28 x29 a19 f0) := hD.sub [0, 1] (by decide) rfl
        have k9 := tI_m1000000000
        exact hret (-1000000000) ((fun _ => 0), (fun _ => (fun _ => 0)), (fun _ => (fun _ => 0)), (fun _ => 0), (fun _ => 0)) dX12_word_40 ⟨(show ((-1000000000) ≤ ((-1000000000) : Int32).toInt ∧ ((-1000000000) : Int32).toInt ≤ 9999) from (n_c tI_m1000000000 (by decide))), (show woQ ((-1000000000) : Int32).toInt x0.toInt x1.toInt x14.toInt x11.toInt f0 from wo_no (by first | exact (om_1763 hw_7 ey_1 tL_0 ex_2 ey_3 c_8) | ((first | omega | (unfold zBd at *; omega)))) (by first | exact (om_320 tI_m1000000000) | ((first | omega | (unfold zBd at *; omega)))))⟩ hP9 hD9 hS
    ·
      as_aux_lemma =>
        refine lv_aload_n (pc := 16) hx hb dX12_word_16 rfl (lv_at hl 0 rfl) ?_
        refine lv_iload_n (pc := 17) hx hb dX12_word_17 rfl (lv_at hl 2 rfl) ?_
        refine gd_i (pc := 18) (wc := (zS_4 cB cC cI cJ a0 a1 x2 x3 x4 x5 x6 x7 x8 x9 a2 a3 a4 a5 a6 a7 a8 a9 a10 a11 a12 a13 a14 a15 a16 x10 x11 x12 x13 x14 x15 a17 a18 a19 x16 a20 x17 a21 x18 x19 a22 a23 a24 a25 x20 a26 x21 a27 a28 a29 y0 a30 a31 a32 a33 a34 a35 a36 a37 a38 x22 x23 x24 y1 a39 x25 a40 a41 a42 a43 x26 x27 x28 x29)) hP hD hS hA [0] rfl (by decide +kernel) (fun _ => by rfl) (fun hPc hDc => va_runV (As := [.int x1]) (rest := []) ⟨hx, hb, hml, hown, hts⟩ (k_X12_isSender l D cB cC cI cJ _ a0 a1 a2 a3 a4 a5 a6 a7 a8 a9 a10 a11 a12 a13 a14 a15 a16 a17 a18 a19 a20 a21 a22 a23 a24 a25 a26 a27 a28 a29 a30 a31 a32 a33 a34 a35 a36 a37 a38 a39 a40 a41 a42 a43 x1 x2 x3 x4 x5 x6 x7 x8 x9 x10 x11 x12 x13 x14 x15 x16 x17 x18 x19 x20 x21 x22 x23 x24 x25 x26 x27 x28 x29 y0 y1 h_x2 h_x3 h_x4 h_x5 h_x6 h_x7 h_x10 h_x11 h_x12 h_x13 h_x14 h_x16 h_x17 h_x18 h_x20 h_x21 h_x22 h_x23 h_x24 h_x25 h_x26 h_x27 h_x28 h_x29 hr_a0_0 hr_a0_1 hr_a0_2) ⟨gcwB hts tw_1782 tw_14 tw_1779 hd_yX12_isSender ⟨Nat.le_of_ble_eq_true rfl, Nat.le_of_ble_eq_true rfl⟩, hts _ tw_1781, hts _ tp_90⟩ ⟨gblind, va_recv hK hPc (ci := 12) (q0 := 0) rfl rfl, (gpreS hPc hK hDc hN).2⟩ rfl rfl hl.1 rfl (lv_room (Nat.le_of_ble_eq_true rfl)) dX12_word_18 ⟨Nat.le_of_ble_eq_true rfl, Nat.le_of_ble_eq_true rfl⟩) (fun r_10 u_9 H locs hw_11 hP hD hS => ?_)
        replace hP : va_P D gcl (zS_27 cB cC cI cJ a0 a1 x2 x3 x4 x5 x6 x7 x8 x9 a2 a3 a4 a5 a6 a7 a8 a9 a10 a11 a12 a13 a14 a15 a16 x10 x11 x12 x13 x14 x15 a17 a18 a19 x16 a20 x17 a21 x18 x19 a22 a23 a24 a25 x20 a26 x21 a27 a28 a29 y0 a30 a31 a32 a33 a34 a35 a36 a37 a38 x22 x23 x24 y1 a39 x25 a40 a41 a42 a43 x26 x27 x28 x29 a19 f0) H := hP
        replace hD : va_D A (zS_27 cB cC cI cJ a0 a1 x2 x3 x4 x5 x6 x7 x8 x9 a2 a3 a4 a5 a6 a7 a8 a9 a10 a11 a12 a13 a14 a15 a16 x10 x11 x12 x13 x14 x15 a17 a18 a19 x16 a20 x17 a21 x18 x19 a22 a23 a24 a25 x20 a26 x21 a27 a28 a29 y0 a30 a31 a32 a33 a34 a35 a36 a37 a38 x22 x23 x24 y1 a39 x25 a40 a41 a42 a43 x26 x27 x28 x29 a19 f0) := hD
        obtain ⟨hw_12, hw_13, hw_14⟩ := hw_11
        replace hw_12 : (0 ≤ r_10.toInt ∧ r_10.toInt ≤ 1) := hw_12
        replace hw_13 : (-x1.toInt ≤ 4294967296 - 4294967296 * r_10.toInt ∧ x1.toInt ≤ x11.toInt - 1 + 4294967296 - 4294967296 * r_10.toInt) := hw_13
        replace hw_14 : (inQ r_10.toInt x1.toInt x11.toInt) := hw_14
        have rr_10 : zBd r_10.toInt (-2147483648) 2147483647 := n_rng r_10
        refine b_if_eq (pc := 21) (tgt := 37) hx hb rfl  dX12_word_21 (by decide) (fun c_15 => ?_) (fun c_15 => ?_)
        ·
          as_aux_lemma =>
            refine lv_ldcw (pc := 37) hx hb hown (hts _ tw_1783) dX12_word_37 ?_
            have hP9 : va_P D gcl (zS_27 cB cC cI cJ a0 a1 x2 x3 x4 x5 x6 x7 x8 x9 a2 a3 a4 a5 a6 a7 a8 a9 a10 a11 a12 a13 a14 a15 a16 x10 x11 x12 x13 x14 x15 a17 a18 a19 x16 a20 x17 a21 x18 x19 a22 a23 a24 a25 x20 a26 x21 a27 a28 a29 y0 a30 a31 a32 a33 a34 a35 a36 a37 a38 x22 x23 x24 y1 a39 x25 a40 a41 a42 a43 x26 x27 x28 x29 a19 f0) H := g_psub hP [0, 1] rfl
            have hD9 : va_D A (zS_27 cB cC cI cJ a0 a1 x2 x3 x4 x5 x6 x7 x8 x9 a2 a3 a4 a5 a6 a7 a8 a9 a10 a11 a12 a13 a14 a15 a16 x10 x11 x12 x13 x14 x15 a17 a18 a19 x16 a20 x17 a21 x18 x19 a22 a23 a24 a25 x20 a26 x21 a27 a28 a29 y0 a30 a31 a32 a33 a34 a35 a36 a37 a38 x22 x23 x24 y1 a39 x25 a40 a41 a42 a43 x26 x27 x28 x29 a19 f0) := hD.sub [0, 1] (by decide) rfl
            have k9 := tI_m1000000000
            exact hret (-1000000000) ((fun _ => 0), (fun _ => (fun _ => 0)), (fun _ => (fun _ => 0)), (fun _ => 0), (fun _ => 0)) dX12_word_40 ⟨(show ((-1000000000) ≤ ((-1000000000) : Int32).toInt ∧ ((-1000000000) : Int32).toInt ≤ 9999) from (n_c tI_m1000000000 (by decide))), (show woQ ((-1000000000) : Int32).toInt x0.toInt x1.toInt x14.toInt x11.toInt f0 from wo_noS hw_14 (by first | exact (om_31 c_15) | ((first | omega | (unfold zBd at *; omega)))) (by first | exact (om_320 tI_m1000000000) | ((first | omega | (unfold zBd at *; omega)))))⟩ hP9 hD9 hS
        ·
          as_aux_lemma =>
            refine lv_aload_n (pc := 24) hx hb dX12_word_24 rfl (lv_at hl 0 rfl) ?_
            refine va_get (pc := 25) (ci := 12) (v := .ref a19) (C := RX12) (T := TX12) (N := 73) hx hb hts iX12 hown hK hP 0 rfl rfl 32 (by decide) (hts _ tw_1433) (fun _ h9 => h9) rfl dX12_word_25 ?_
            refine lv_iconst (pc := 28) (v := 5) hx hb dX12_word_28 (by decide) ?_
            refine lv_iload_n (pc := 29) hx hb dX12_word_29 rfl (lv_at hl 1 rfl) ?_
            refine b_imul (pc := 30) hx hb tI_5 rfl (by first | exact (om_1764 c_8 hw_7 ey_1 tL_0) | ((first | omega | (unfold zBd at *; omega)))) (by first | exact (om_1765 c_8 hw_7 ey_1 ey_3 ex_2 h_x14.2) | ((first | omega | (unfold zBd at *; omega)))) dX12_word_30 (fun x_16 ex_16 => ?_)
            refine lv_iload_n (pc := 31) hx hb dX12_word_31 rfl (lv_at hl 2 rfl) ?_
            refine b_iadd (pc := 32) hx hb rfl rfl (by (first | omega | (unfold zBd at *; omega))) (by (first | omega | (unfold zBd at *; omega))) dX12_word_32 (fun x_17 ex_17 => ?_)
            refine va_iald (pc := 33) hx hb hK hP 1 2 rfl rfl (n_in rfl (by (first | omega | (unfold zBd at *; omega))) (by (first | omega | (unfold zBd at *; omega)))) dX12_word_33 ?_
            refine lv_topi (fun x_18 ex_18 => ?_)
            have rx_18 : ((-9999) ≤ x_18.toInt ∧ x_18.toInt ≤ 9999) := by rw [ex_18]; exact hf_f0 _
            replace ex_18 : x_18 = f0 (x_17.toInt).toNat := ex_18
            have tx_18 := congrArg Int32.toInt ex_18
            refine lv_goto (pc := 34) (tgt := 40) hx hb dX12_word_34 (by decide) ?_
            have hP9 : va_P D gcl (zS_27 cB cC cI cJ a0 a1 x2 x3 x4 x5 x6 x7 x8 x9 a2 a3 a4 a5 a6 a7 a8 a9 a10 a11 a12 a13 a14 a15 a16 x10 x11 x12 x13 x14 x15 a17 a18 a19 x16 a20 x17 a21 x18 x19 a22 a23 a24 a25 x20 a26 x21 a27 a28 a29 y0 a30 a31 a32 a33 a34 a35 a36 a37 a38 x22 x23 x24 y1 a39 x25 a40 a41 a42 a43 x26 x27 x28 x29 a19 f0) H := g_psub hP [0, 1] rfl
            have hD9 : va_D A (zS_27 cB cC cI cJ a0 a1 x2 x3 x4 x5 x6 x7 x8 x9 a2 a3 a4 a5 a6 a7 a8 a9 a10 a11 a12 a13 a14 a15 a16 x10 x11 x12 x13 x14 x15 a17 a18 a19 x16 a20 x17 a21 x18 x19 a22 a23 a24 a25 x20 a26 x21 a27 a28 a29 y0 a30 a31 a32 a33 a34 a35 a36 a37 a38 x22 x23 x24 y1 a39 x25 a40 a41 a42 a43 x26 x27 x28 x29 a19 f0) := hD.sub [0, 1] (by decide) rfl
            exact hret x_18 ((fun _ => 0), (fun _ => (fun _ => 0)), (fun _ => (fun _ => 0)), (fun _ => 0), (fun _ => 0)) dX12_word_40 ⟨(show ((-1000000000) ≤ x_18.toInt ∧ x_18.toInt ≤ 9999) from (by first | exact (om_1766 rx_18.1 rx_18.2) | ((first | omega | (unfold zBd at *; omega))))), (show woQ x_18.toInt x0.toInt x1.toInt x14.toInt x11.toInt f0 from wo_yes (by (first | omega | (unfold zBd at *; omega))) (congrArg Int32.toInt (e_ld ex_18 (show _ = ixW x0.toInt x1.toInt by unfold ixW; (first | omega | (unfold zBd at *; omega)))).symm))⟩ hP9 hD9 hS
theorem om_1767 {a : Int} (h0 : (a ≤ 15)) : (5 * a ≤ 2147483647) := by omega
theorem om_1768 {a b c : Int} (h0 : (a = 5 * c)) (h1 : (b ≤ 5)) (h2 : (c ≤ 15)) : (a + b ≤ 2147483647) := by omega
theorem om_1769 {a b c d : Int} (h0 : (a = b + c)) (h1 : (b = 5 * d)) (h2 : (c ≤ 5)) (h3 : (d ≤ 15)) : (a < (160 : Nat)) := by omega
theorem om_1770 {a b : Int} (h0 : (-(9999 * 9999) ≤ a * b)) : (-2147483648 ≤ a * b) := by omega
theorem om_1771 {a b : Int} (h0 : (a * b ≤ 9999 * 9999)) : (a * b ≤ 2147483647) := by omega
theorem om_1772 {a b c : Int} (h0 : (a = b * c)) (h1 : (-(9999 * 9999) ≤ b * c)) (h2 : (b * c ≤ 9999 * 9999)) : (((-99980001) ≤ a ∧ a ≤ 99980001)) := by omega
theorem om_1773 {a b : Int} (h0 : ((-99980001) ≤ b)) (h1 : ((-499900005) ≤ a)) : (-2147483648 ≤ a + b) := by omega
theorem om_1774 {a b : Int} (h0 : (b ≤ 99980001)) (h1 : (a ≤ 499900005)) : (a + b ≤ 2147483647) := by omega
theorem om_1775 {a b c d e f : Int} (h0 : (b = 0 ∨ 2 ≤ c)) (h1 : (d < b)) (h2 : (0 ≤ d)) (h3 : (a = e + f)) (h4 : ((-99980001) ≤ f)) (h5 : (-99980001 * d ≤ e)) (h6 : (b ≤ 5)) (h7 : (f ≤ 99980001)) (h8 : (e ≤ 99980001 * d)) : (((-499900005) ≤ a ∧ a ≤ 499900005)) := by omega
theorem om_1776 {a b c d e : Int} (h0 : (a = c + 1)) (h1 : (b = d + e)) (h2 : ((-99980001) ≤ e)) (h3 : (-99980001 * c ≤ d)) (h4 : (e ≤ 99980001)) (h5 : (d ≤ 99980001 * c)) : ((-99980001 * a ≤ b ∧ b ≤ 99980001 * a)) := by omega
set_option maxHeartbeats 4000000 in
set_option maxRecDepth 100000 in
theorem k_X12_power (l : Launch) (D : va_G) (cB cC cI cJ : ClassId) (sz : Nat) (a0 a1 a2 a3 a4 a5 a6 a7 a8 a9 a10 a11 a12 a13 a14 a15 a16 a17 a18 a19 a20 a21 a22 a23 a24 a25 a26 a27 a28 a29 a30 a31 a32 a33 a34 a35 a36 a37 a38 a39 a40 a41 a42 a43 : Nat) (x0 x1 x2 x3 x4 x5 x6 x7 x8 x9 x10 x11 x12 x13 x14 x15 x16 x17 x18 x19 x20 x21 x22 x23 x24 x25 x26 x27 x28 : Int32) (y0 y1 : Int64) (f0 : Nat → Int32) (hp1 : (0 ≤ x0.toInt ∧ x0.toInt ≤ 15)) (h_x1 : zBd x1.toInt 0 1600) (h_x2 : zBd x2.toInt 0 1600) (h_x3 : zBd x3.toInt 0 1600) (h_x4 : zBd x4.toInt (-1) 1600) (h_x5 : zBd x5.toInt 0 4) (h_x6 : zBd x6.toInt (-1) 1600) (h_x9 : zBd x9.toInt 0 8) (h_x10 : zBd x10.toInt 0 5) (h_x11 : zBd x11.toInt 0 6) (h_x12 : zBd x12.toInt 0 6) (h_x13 : zBd x13.toInt 0 16) (h_x15 : zBd x15.toInt 0 60) (h_x16 : zBd x16.toInt 0 1600) (h_x17 : zBd x17.toInt 0 1700) (h_x19 : zBd x19.toInt 0 1700) (h_x20 : zBd x20.toInt 0 1700) (h_x21 : zBd x21.toInt 0 200) (h_x22 : zBd x22.toInt 0 40) (h_x23 : zBd x23.toInt 0 40) (h_x24 : zBd x24.toInt 0 1) (h_x25 : zBd x25.toInt 0 14) (h_x26 : zBd x26.toInt 0 200) (h_x27 : zBd x27.toInt 0 40) (h_x28 : zBd x28.toInt 0 40) (hr_a0_0 : (x22.toInt ≤ x21.toInt)) (hr_a0_1 : (x21.toInt + x23.toInt ≤ 200)) (hr_a0_2 : (x10.toInt = 0 ∨ 2 ≤ x9.toInt)) (hf_f0 : (∀ j, (-9999) ≤ (f0 j).toInt ∧ (f0 j).toInt ≤ 9999)) : Met l yX12_power (.code yX12_power cX12_power 4 (some .int) :: lw_gd) ({ frames := 0, cells := 0, slots := 0, locals := 0 }) (gPre D [(cB, .byte), (cC, .char), (cI, .int), (cJ, .long)] [.ref a0, .int x0] (zS_27 cB cC cI cJ a0 a1 x1 x2 x3 x4 x5 x6 x7 x8 a2 a3 a4 a5 a6 a7 a8 a9 a10 a11 a12 a13 a14 a15 a16 x9 x10 x11 x12 x13 x14 a17 a18 a19 x15 a20 x16 a21 x17 x18 a22 a23 a24 a25 x19 a26 x20 a27 a28 a29 y0 a30 a31 a32 a33 a34 a35 a36 a37 a38 x21 x22 x23 y1 a39 x24 a40 a41 a42 a43 x25 x26 x27 x28 a19 f0) sz) (va_Qi (fun r u => ((-499900005) ≤ r.toInt ∧ r.toInt ≤ 499900005) ∧ (r.toInt = wP f0 x10.toInt x0.toInt)) (gB D (va_A (zS_27 cB cC cI cJ a0 a1 x1 x2 x3 x4 x5 x6 x7 x8 a2 a3 a4 a5 a6 a7 a8 a9 a10 a11 a12 a13 a14 a15 a16 x9 x10 x11 x12 x13 x14 a17 a18 a19 x15 a20 x16 a21 x17 x18 a22 a23 a24 a25 x19 a26 x20 a27 a28 a29 y0 a30 a31 a32 a33 a34 a35 a36 a37 a38 x21 x22 x23 y1 a39 x24 a40 a41 a42 a43 x25 x26 x27 x28 a19 f0) sz) (fun u : gEx => (zS_27 cB cC cI cJ a0 a1 x1 x2 x3 x4 x5 x6 x7 x8 a2 a3 a4 a5 a6 a7 a8 a9 a10 a11 a12 a13 a14 a15 a16 x9 x10 x11 x12 x13 x14 a17 a18 a19 x15 a20 x16 a21 x17 x18 a22 a23 a24 a25 x19 a26 x20 a27 a28 a29 y0 a30 a31 a32 a33 a34 a35 a36 a37 a38 x21 x22 x23 y1 a39 x24 a40 a41 a42 a43 x25 x26 x27 x28 a19 f0))) (va_A (zS_27 cB cC cI cJ a0 a1 x1 x2 x3 x4 x5 x6 x7 x8 a2 a3 a4 a5 a6 a7 a8 a9 a10 a11 a12 a13 a14 a15 a16 x9 x10 x11 x12 x13 x14 a17 a18 a19 x15 a20 x16 a21 x17 x18 a22 a23 a24 a25 x19 a26 x20 a27 a28 a29 y0 a30 a31 a32 a33 a34 a35 a36 a37 a38 x21 x22 x23 y1 a39 x24 a40 a41 a42 a43 x25 x26 x27 x28 a19 f0) sz)) 0 0 (va_A (zS_27 cB cC cI cJ a0 a1 x1 x2 x3 x4 x5 x6 x7 x8 a2 a3 a4 a5 a6 a7 a8 a9 a10 a11 a12 a13 a14 a15 a16 x9 x10 x11 x12 x13 x14 a17 a18 a19 x15 a20 x16 a21 x17 x18 a22 a23 a24 a25 x19 a26 x20 a27 a28 a29 y0 a30 a31 a32 a33 a34 a35 a36 a37 a38 x21 x22 x23 y1 a39 x24 a40 a41 a42 a43 x25 x26 x27 x28 a19 f0) sz) := by
  refine gOf_i (by decide +kernel) (Nat.le_of_ble_eq_true rfl) ?_
  intro p e s m args below meth c ls A Q hx hb hts hown hml hN hK hP hD hA hl hret
  replace hown : s.vm.findClass RX12 = some m.cls := hown
  have hS : va_S A s.heap s.heap [] := va_S.rf
  replace hP : va_P D gcl (zS_27 cB cC cI cJ a0 a1 x1 x2 x3 x4 x5 x6 x7 x8 a2 a3 a4 a5 a6 a7 a8 a9 a10 a11 a12 a13 a14 a15 a16 x9 x10 x11 x12 x13 x14 a17 a18 a19 x15 a20 x16 a21 x17 x18 a22 a23 a24 a25 x19 a26 x20 a27 a28 a29 y0 a30 a31 a32 a33 a34 a35 a36 a37 a38 x21 x22 x23 y1 a39 x24 a40 a41 a42 a43 x25 x26 x27 x28 a19 f0) s.heap := hP
  replace hl : lv_has ls 4 [(0, .ref a0), (1, .int x0)] := hl
  have rx7 : zBd x7.toInt (-2147483648) 2147483647 := n_rng x7
  have rx8 : zBd x8.toInt (-2147483648) 2147483647 := n_rng x8
  have rx14 : zBd x14.toInt (-2147483648) 2147483647 := n_rng x14
  have rx18 : zBd x18.toInt (-2147483648) 2147483647 := n_rng x18
  have ry0 := n_rngL y0
  have ry1 := n_rngL y1
  refine lv_iconst (pc := 0) (v := 0) hx hb dX12_power_0 (by decide) ?_
  refine lv_istore_n (pc := 1) (lv' := [(2, .int 0), (0, .ref a0), (1, .int x0)]) hx hb dX12_power_1 rfl hl (by decide) rfl (fun ls hl => ?_)
  refine lv_iconst (pc := 2) (v := 0) hx hb dX12_power_2 (by decide) ?_
  refine lv_istore_n (pc := 3) (lv' := [(3, .int 0), (2, .int 0), (0, .ref a0), (1, .int x0)]) hx hb dX12_power_3 rfl hl (by decide) rfl (fun ls hl => ?_)
  have lp_8 : ∀ (n : Nat) (x_1 x_3 : Int32) (H : Heap) (locs : List Loc) (ls : Array Slot), (0 ≤ x_1.toInt ∧ x_1.toInt ≤ 5) → ((-499900005) ≤ x_3.toInt ∧ x_3.toInt ≤ 499900005) → (x_1.toInt ≤ x10.toInt) → (-99980001 * x_1.toInt ≤ x_3.toInt ∧ x_3.toInt ≤ 99980001 * x_1.toInt) → (x_3.toInt = sqS (fun s : Nat => (f0 (5 * x0.toInt + (s : Int)).toNat).toInt) (x_1.toInt).toNat) → (2147483647 - x_1.toInt).toNat < n → va_P D gcl (zS_27 cB cC cI cJ a0 a1 x1 x2 x3 x4 x5 x6 x7 x8 a2 a3 a4 a5 a6 a7 a8 a9 a10 a11 a12 a13 a14 a15 a16 x9 x10 x11 x12 x13 x14 a17 a18 a19 x15 a20 x16 a21 x17 x18 a22 a23 a24 a25 x19 a26 x20 a27 a28 a29 y0 a30 a31 a32 a33 a34 a35 a36 a37 a38 x21 x22 x23 y1 a39 x24 a40 a41 a42 a43 x25 x26 x27 x28 a19 f0) H → va_D A (zS_27 cB cC cI cJ a0 a1 x1 x2 x3 x4 x5 x6 x7 x8 a2 a3 a4 a5 a6 a7 a8 a9 a10 a11 a12 a13 a14 a15 a16 x9 x10 x11 x12 x13 x14 a17 a18 a19 x15 a20 x16 a21 x17 x18 a22 a23 a24 a25 x19 a26 x20 a27 a28 a29 y0 a30 a31 a32 a33 a34 a35 a36 a37 a38 x21 x22 x23 y1 a39 x24 a40 a41 a42 a43 x25 x26 x27 x28 a19 f0) → va_S A s.heap H locs → lv_has ls 4 [(3, .int x_1), (2, .int x_3), (0, .ref a0), (1, .int x0)] → W p l e ({ frames := 0, cells := 0, slots := 0, locals := 0 }) s m args below meth c H locs 0 0 Q (F0 m 4 ls []) := by
    intro n
    induction n with
    | zero => intro x_1 x_3 H locs ls hi_2 hi_4 hi_5 hi_6 hi_7 hmu; exact absurd hmu (Nat.not_lt_zero _)
    | succ n ih_lp_8 =>
      intro x_1 x_3 H locs ls hi_2 hi_4 hi_5 hi_6 hi_7 hmu_lp_8 hP hD hS hl
      refine lv_iload_n (pc := 4) hx hb dX12_power_4 rfl (lv_at hl 0 rfl) ?_
      refine lv_aload_n (pc := 5) hx hb dX12_power_5 rfl (lv_at hl 2 rfl) ?_
      refine va_get (pc := 6) (ci := 12) (v := .int x10) (C := RX12) (T := TX12) (N := 73) hx hb hts iX12 hown hK hP 0 rfl rfl 25 (by decide) (hts _ tw_1426) (fun _ h9 => h9) rfl dX12_power_6 ?_
      have bd_h_x10 : 0 ≤ x10.toInt ∧ x10.toInt ≤ 5 := h_x10
      refine b_icmp_ge (pc := 9) (tgt := 42) hx hb rfl rfl  dX12_power_9 (by decide) (fun c_9 => ?_) (fun c_9 => ?_)
      ·
        as_aux_lemma =>
          refine lv_iload_n (pc := 42) hx hb dX12_power_42 rfl (lv_at hl 1 rfl) ?_
          have hP9 : va_P D gcl (zS_27 cB cC cI cJ a0 a1 x1 x2 x3 x4 x5 x6 x7 x8 a2 a3 a4 a5 a6 a7 a8 a9 a10 a11 a12 a13 a14 a15 a16 x9 x10 x11 x12 x13 x14 a17 a18 a19 x15 a20 x16 a21 x17 x18 a22 a23 a24 a25 x19 a26 x20 a27 a28 a29 y0 a30 a31 a32 a33 a34 a35 a36 a37 a38 x21 x22 x23 y1 a39 x24 a40 a41 a42 a43 x25 x26 x27 x28 a19 f0) H := g_psub hP [0, 1] rfl
          have hD9 : va_D A (zS_27 cB cC cI cJ a0 a1 x1 x2 x3 x4 x5 x6 x7 x8 a2 a3 a4 a5 a6 a7 a8 a9 a10 a11 a12 a13 a14 a15 a16 x9 x10 x11 x12 x13 x14 a17 a18 a19 x15 a20 x16 a21 x17 x18 a22 a23 a24 a25 x19 a26 x20 a27 a28 a29 y0 a30 a31 a32 a33 a34 a35 a36 a37 a38 x21 x22 x23 y1 a39 x24 a40 a41 a42 a43 x25 x26 x27 x28 a19 f0) := hD.sub [0, 1] (by decide) rfl
          exact hret x_3 ((fun _ => 0), (fun _ => (fun _ => 0)), (fun _ => (fun _ => 0)), (fun _ => 0), (fun _ => 0)) dX12_power_43 ⟨(show ((-499900005) ≤ x_3.toInt ∧ x_3.toInt ≤ 499900005) from hi_4), (show x_3.toInt = wP f0 x10.toInt x0.toInt from (by have e9 : (x_1.toInt).toNat = (x10.toInt).toNat := (by (first | omega | (unfold zBd at *; omega))); have q9 := hi_7; rw [e9] at q9; exact q9))⟩ hP9 hD9 hS
      ·
        as_aux_lemma =>
          refine lv_iload_n (pc := 12) hx hb dX12_power_12 rfl (lv_at hl 1 rfl) ?_
          refine lv_aload_n (pc := 13) hx hb dX12_power_13 rfl (lv_at hl 2 rfl) ?_
          refine va_get (pc := 14) (ci := 12) (v := .ref a19) (C := RX12) (T := TX12) (N := 73) hx hb hts iX12 hown hK hP 0 rfl rfl 32 (by decide) (hts _ tw_1433) (fun _ h9 => h9) rfl dX12_power_14 ?_
          refine lv_iconst (pc := 17) (v := 5) hx hb dX12_power_17 (by decide) ?_
          refine lv_iload_n (pc := 18) hx hb dX12_power_18 rfl (lv_at hl 3 rfl) ?_
          refine b_imul (pc := 19) hx hb tI_5 rfl (by first | exact (om_941 hp1.1) | ((first | omega | (unfold zBd at *; omega)))) (by first | exact (om_1767 hp1.2) | ((first | omega | (unfold zBd at *; omega)))) dX12_power_19 (fun x_10 ex_10 => ?_)
          refine lv_iload_n (pc := 20) hx hb dX12_power_20 rfl (lv_at hl 0 rfl) ?_
          refine b_iadd (pc := 21) hx hb rfl rfl (by first | exact (om_1529 ex_10 hi_2.1 hp1.1) | ((first | omega | (unfold zBd at *; omega)))) (by first | exact (om_1768 ex_10 hi_2.2 hp1.2) | ((first | omega | (unfold zBd at *; omega)))) dX12_power_21 (fun x_11 ex_11 => ?_)
          refine va_iald (pc := 22) hx hb hK hP 1 2 rfl rfl (n_in rfl (by first | exact (om_1531 ex_11 ex_10 hi_2.1 hp1.1) | ((first | omega | (unfold zBd at *; omega)))) (by first | exact (om_1769 ex_11 ex_10 hi_2.2 hp1.2) | ((first | omega | (unfold zBd at *; omega))))) dX12_power_22 ?_
          refine lv_topi (fun x_12 ex_12 => ?_)
          have rx_12 : ((-9999) ≤ x_12.toInt ∧ x_12.toInt ≤ 9999) := by rw [ex_12]; exact hf_f0 _
          replace ex_12 : x_12 = f0 (x_11.toInt).toNat := ex_12
          have tx_12 := congrArg Int32.toInt ex_12
          as_aux_lemma =>
            refine lv_aload_n (pc := 23) hx hb dX12_power_23 rfl (lv_at hl 2 rfl) ?_
            refine va_get (pc := 24) (ci := 12) (v := .ref a19) (C := RX12) (T := TX12) (N := 73) hx hb hts iX12 hown hK hP 0 rfl rfl 32 (by decide) (hts _ tw_1433) (fun _ h9 => h9) rfl dX12_power_24 ?_
            refine lv_iconst (pc := 27) (v := 5) hx hb dX12_power_27 (by decide) ?_
            refine lv_iload_n (pc := 28) hx hb dX12_power_28 rfl (lv_at hl 3 rfl) ?_
            refine b_imul (pc := 29) hx hb tI_5 rfl (by first | exact (om_941 hp1.1) | ((first | omega | (unfold zBd at *; omega)))) (by first | exact (om_1767 hp1.2) | ((first | omega | (unfold zBd at *; omega)))) dX12_power_29 (fun x_13 ex_13 => ?_)
            refine lv_iload_n (pc := 30) hx hb dX12_power_30 rfl (lv_at hl 0 rfl) ?_
            refine b_iadd (pc := 31) hx hb rfl rfl (by first | exact (om_1529 ex_13 hi_2.1 hp1.1) | ((first | omega | (unfold zBd at *; omega)))) (by first | exact (om_1768 ex_13 hi_2.2 hp1.2) | ((first | omega | (unfold zBd at *; omega)))) dX12_power_31 (fun x_14 ex_14 => ?_)
            refine va_iald (pc := 32) hx hb hK hP 1 2 rfl rfl (n_in rfl (by first | exact (om_1531 ex_14 ex_13 hi_2.1 hp1.1) | ((first | omega | (unfold zBd at *; omega)))) (by first | exact (om_1769 ex_14 ex_13 hi_2.2 hp1.2) | ((first | omega | (unfold zBd at *; omega))))) dX12_power_32 ?_
            refine lv_topi (fun x_15 ex_15 => ?_)
            have rx_15 : ((-9999) ≤ x_15.toInt ∧ x_15.toInt ≤ 9999) := by rw [ex_15]; exact hf_f0 _
            replace ex_15 : x_15 = f0 (x_14.toInt).toNat := ex_15
            have tx_15 := congrArg Int32.toInt ex_15
            have qx_16 := n_mulb (A := 9999) (B := 9999) (by decide) (by decide) (show -9999 ≤ x_12.toInt ∧ x_12.toInt ≤ 9999 from (by first | exact (om_1577 rx_12.1 rx_12.2) | ((first | omega | (unfold zBd at *; omega))))) (show -9999 ≤ x_15.toInt ∧ x_15.toInt ≤ 9999 from (by first | exact (om_1577 rx_15.1 rx_15.2) | ((first | omega | (unfold zBd at *; omega)))))
            refine b_imul (pc := 33) hx hb rfl rfl (by first | exact (om_1770 qx_16.1) | ((first | omega | (unfold zBd at *; omega)))) (by first | exact (om_1771 qx_16.2) | ((first | omega | (unfold zBd at *; omega)))) dX12_power_33 (fun x_16 ex_16 => ?_)
            have rx_16 : ((-99980001) ≤ x_16.toInt ∧ x_16.toInt ≤ 99980001) := (by first | exact (om_1772 ex_16 qx_16.1 qx_16.2) | ((first | omega | (unfold zBd at *; omega))))
            as_aux_lemma =>
              refine b_iadd (pc := 34) hx hb rfl rfl (by first | exact (om_1773 rx_16.1 hi_4.1) | ((first | omega | (unfold zBd at *; omega)))) (by first | exact (om_1774 rx_16.2 hi_4.2) | ((first | omega | (unfold zBd at *; omega)))) dX12_power_34 (fun x_17 ex_17 => ?_)
              refine lv_istore_n (pc := 35) (lv' := [(2, .int x_17), (3, .int x_1), (0, .ref a0), (1, .int x0)]) hx hb dX12_power_35 rfl hl (by decide) rfl (fun ls hl => ?_)
              refine b_iinc (pc := 36) hx hb dX12_power_36 hl (k := 1) rfl rfl tI_1 (by first | exact (om_2 hi_2.1) | ((first | omega | (unfold zBd at *; omega)))) (by first | exact (om_357 hi_2.2) | ((first | omega | (unfold zBd at *; omega)))) (by decide) (fun x_18 ex_18 ls hl => ?_)
              replace hl : lv_has ls 4 [(3, .int x_18), (2, .int x_17), (0, .ref a0), (1, .int x0)] := hl
              refine lv_goto (pc := 39) (tgt := 4) hx hb dX12_power_39 (by decide) ?_
              exact ih_lp_8 x_18 x_17 _ _ ls (by first | exact (om_1026 ex_18 hi_2.1 c_9 h_x10.2) | ((first | omega | (unfold zBd at *; omega)))) (by first | exact (om_1775 hr_a0_2 c_9 hi_2.1 ex_17 rx_16.1 hi_6.1 h_x10.2 rx_16.2 hi_6.2) | ((first | omega | (unfold zBd at *; omega)))) (by first | exact (om_40 ex_18 c_9) | ((first | omega | (unfold zBd at *; omega)))) (by first | exact (om_1776 ex_18 ex_17 rx_16.1 hi_6.1 rx_16.2 hi_6.2) | ((first | omega | (unfold zBd at *; omega)))) (sqS_two (z := x_16.toInt) hi_7 (wS_m ex_12 (by (first | omega | (unfold zBd at *; omega))) (by (first | omega | (unfold zBd at *; omega)))) (wS_m ex_15 (by (first | omega | (unfold zBd at *; omega))) (by (first | omega | (unfold zBd at *; omega)))) (by (first | omega | (unfold zBd at *; omega))) (by (first | omega | (unfold zBd at *; omega))) (by (first | omega | (unfold zBd at *; omega))) (by (first | omega | (unfold zBd at *; omega)))) (by (first | omega | (unfold zBd at *; omega))) hP hD hS (lv_sub hl [0, 1, 2, 3] rfl)
  exact lp_8 _ 0 0 _ _ ls (n_c tI_0 (by decide)) (n_c tI_0 (by decide)) (by have q := tI_0; (first | omega | (unfold zBd at *; omega))) (by have q := tI_0; (first | omega | (unfold zBd at *; omega))) (tI_0) (Nat.lt_succ_self _) hP hD hS (lv_sub hl [0, 1, 2, 3] rfl)
set_option maxHeartbeats 4000000 in
set_option maxRecDepth 100000 in
theorem k_X12_sentTo_w (l : Launch) (D : va_G) (cB cC cI cJ : ClassId) (sz : Nat) (a0 a1 a2 a3 a4 a5 a6 a7 a8 a9 a10 a11 a12 a13 a14 a15 a16 a17 a18 a19 a20 a21 a22 a23 a24 a25 a26 a27 a28 a29 a30 a31 a32 a33 a34 a35 a36 a37 a38 a39 a40 a41 a42 a43 : Nat) (x0 x1 x2 x3 x4 x5 x6 x7 x8 x9 x10 x11 x12 x13 x14 x15 x16 x17 x18 x19 x20 x21 x22 x23 x24 x25 x26 x27 x28 : Int32) (y0 y1 : Int64) (f0 f1 : Nat → Int32) (hp1 : (0 ≤ x0.toInt ∧ x0.toInt ≤ 5)) (h_x1 : zBd x1.toInt 0 1600) (h_x2 : zBd x2.toInt 0 1600) (h_x3 : zBd x3.toInt 0 1600) (h_x4 : zBd x4.toInt (-1) 1600) (h_x5 : zBd x5.toInt 0 4) (h_x6 : zBd x6.toInt (-1) 1600) (h_x9 : zBd x9.toInt 0 8) (h_x10 : zBd x10.toInt 0 5) (h_x11 : zBd x11.toInt 0 6) (h_x12 : zBd x12.toInt 0 6) (h_x13 : zBd x13.toInt 0 16) (h_x15 : zBd x15.toInt 0 60) (h_x16 : zBd x16.toInt 0 1600) (h_x17 : zBd x17.toInt 0 1700) (h_x19 : zBd x19.toInt 0 1700) (h_x20 : zBd x20.toInt 0 1700) (h_x21 : zBd x21.toInt 0 200) (h_x22 : zBd x22.toInt 0 40) (h_x23 : zBd x23.toInt 0 40) (h_x24 : zBd x24.toInt 0 1) (h_x25 : zBd x25.toInt 0 14) (h_x26 : zBd x26.toInt 0 200) (h_x27 : zBd x27.toInt 0 40) (h_x28 : zBd x28.toInt 0 40) (hr_a0_0 : (x22.toInt ≤ x21.toInt)) (hr_a0_1 : (x21.toInt + x23.toInt ≤ 200)) (hr_a0_2 : (x10.toInt = 0 ∨ 2 ≤ x9.toInt)) (hf_f0 : (∀ j, (-9999) ≤ (f0 j).toInt ∧ (f0 j).toInt ≤ 9999)) : Met l yX12_sentTo (.code yX12_sentTo cX12_sentTo 4 (some .int) :: lw_gd) ({ frames := 0, cells := 0, slots := 0, locals := 0 }) (gPre D [(cB, .byte), (cC, .char), (cI, .int), (cJ, .long)] [.ref a0, .int x0] (zS_21 cB cC cI cJ a0 a1 x1 x2 x3 x4 x5 x6 x7 x8 a2 a3 a4 a5 a6 a7 a8 a9 a10 a11 a12 a13 a14 a15 a16 x9 x10 x11 x12 x13 x14 a17 a18 a19 x15 a20 x16 a21 x17 x18 a22 a23 a24 a25 x19 a26 x20 a27 a28 a29 y0 a30 a31 a32 a33 a34 a35 a36 a37 a38 x21 x22 x23 y1 a39 x24 a40 a41 a42 a43 x25 x26 x27 x28 a18 f0 a29 f1) sz) (va_Qi (fun r u => (r = sW (tM9 f0 x0.toInt) f1 (x10.toInt).toNat)) (gB D (va_A (zS_21 cB cC cI cJ a0 a1 x1 x2 x3 x4 x5 x6 x7 x8 a2 a3 a4 a5 a6 a7 a8 a9 a10 a11 a12 a13 a14 a15 a16 x9 x10 x11 x12 x13 x14 a17 a18 a19 x15 a20 x16 a21 x17 x18 a22 a23 a24 a25 x19 a26 x20 a27 a28 a29 y0 a30 a31 a32 a33 a34 a35 a36 a37 a38 x21 x22 x23 y1 a39 x24 a40 a41 a42 a43 x25 x26 x27 x28 a18 f0 a29 f1) sz) (fun u : gEx => (zS_21 cB cC cI cJ a0 a1 x1 x2 x3 x4 x5 x6 x7 x8 a2 a3 a4 a5 a6 a7 a8 a9 a10 a11 a12 a13 a14 a15 a16 x9 x10 x11 x12 x13 x14 a17 a18 a19 x15 a20 x16 a21 x17 x18 a22 a23 a24 a25 x19 a26 x20 a27 a28 a29 y0 a30 a31 a32 a33 a34 a35 a36 a37 a38 x21 x22 x23 y1 a39 x24 a40 a41 a42 a43 x25 x26 x27 x28 a18 f0 a29 f1))) (va_A (zS_21 cB cC cI cJ a0 a1 x1 x2 x3 x4 x5 x6 x7 x8 a2 a3 a4 a5 a6 a7 a8 a9 a10 a11 a12 a13 a14 a15 a16 x9 x10 x11 x12 x13 x14 a17 a18 a19 x15 a20 x16 a21 x17 x18 a22 a23 a24 a25 x19 a26 x20 a27 a28 a29 y0 a30 a31 a32 a33 a34 a35 a36 a37 a38 x21 x22 x23 y1 a39 x24 a40 a41 a42 a43 x25 x26 x27 x28 a18 f0 a29 f1) sz)) 0 0 (va_A (zS_21 cB cC cI cJ a0 a1 x1 x2 x3 x4 x5 x6 x7 x8 a2 a3 a4 a5 a6 a7 a8 a9 a10 a11 a12 a13 a14 a15 a16 x9 x10 x11 x12 x13 x14 a17 a18 a19 x15 a20 x16 a21 x17 x18 a22 a23 a24 a25 x19 a26 x20 a27 a28 a29 y0 a30 a31 a32 a33 a34 a35 a36 a37 a38 x21 x22 x23 y1 a39 x24 a40 a41 a42 a43 x25 x26 x27 x28 a18 f0 a29 f1) sz) := by
  refine gOf_i (by decide +kernel) (Nat.le_of_ble_eq_true rfl) ?_
  intro p e s m args below meth c ls A Q hx hb hts hown hml hN hK hP hD hA hl hret
  replace hown : s.vm.findClass RX12 = some m.cls := hown
  have hS : va_S A s.heap s.heap [] := va_S.rf
  replace hP : va_P D gcl (zS_21 cB cC cI cJ a0 a1 x1 x2 x3 x4 x5 x6 x7 x8 a2 a3 a4 a5 a6 a7 a8 a9 a10 a11 a12 a13 a14 a15 a16 x9 x10 x11 x12 x13 x14 a17 a18 a19 x15 a20 x16 a21 x17 x18 a22 a23 a24 a25 x19 a26 x20 a27 a28 a29 y0 a30 a31 a32 a33 a34 a35 a36 a37 a38 x21 x22 x23 y1 a39 x24 a40 a41 a42 a43 x25 x26 x27 x28 a18 f0 a29 f1) s.heap := hP
  replace hl : lv_has ls 4 [(0, .ref a0), (1, .int x0)] := hl
  have rx7 : zBd x7.toInt (-2147483648) 2147483647 := n_rng x7
  have rx8 : zBd x8.toInt (-2147483648) 2147483647 := n_rng x8
  have rx14 : zBd x14.toInt (-2147483648) 2147483647 := n_rng x14
  have rx18 : zBd x18.toInt (-2147483648) 2147483647 := n_rng x18
  have ry0 := n_rngL y0
  have ry1 := n_rngL y1
  refine lv_iconst (pc := 0) (v := 0) hx hb dX12_sentTo_0 (by decide) ?_
  refine lv_istore_n (pc := 1) (lv' := [(2, .int 0), (0, .ref a0), (1, .int x0)]) hx hb dX12_sentTo_1 rfl hl (by decide) rfl (fun ls hl => ?_)
  refine lv_iconst (pc := 2) (v := 0) hx hb dX12_sentTo_2 (by decide) ?_
  refine lv_istore_n (pc := 3) (lv' := [(3, .int 0), (2, .int 0), (0, .ref a0), (1, .int x0)]) hx hb dX12_sentTo_3 rfl hl (by decide) rfl (fun ls hl => ?_)
  have lp_7 : ∀ (n : Nat) (x_1 x_3 : Int32) (H : Heap) (locs : List Loc) (ls : Array Slot), (0 ≤ x_1.toInt ∧ x_1.toInt ≤ 5) → (x_1.toInt ≤ x10.toInt) → (x_3 = sW (tM9 f0 x0.toInt) f1 (x_1.toInt).toNat) → (2147483647 - x_1.toInt).toNat < n → va_P D gcl (zS_21 cB cC cI cJ a0 a1 x1 x2 x3 x4 x5 x6 x7 x8 a2 a3 a4 a5 a6 a7 a8 a9 a10 a11 a12 a13 a14 a15 a16 x9 x10 x11 x12 x13 x14 a17 a18 a19 x15 a20 x16 a21 x17 x18 a22 a23 a24 a25 x19 a26 x20 a27 a28 a29 y0 a30 a31 a32 a33 a34 a35 a36 a37 a38 x21 x22 x23 y1 a39 x24 a40 a41 a42 a43 x25 x26 x27 x28 a18 f0 a29 f1) H → va_D A (zS_21 cB cC cI cJ a0 a1 x1 x2 x3 x4 x5 x6 x7 x8 a2 a3 a4 a5 a6 a7 a8 a9 a10 a11 a12 a13 a14 a15 a16 x9 x10 x11 x12 x13 x14 a17 a18 a19 x15 a20 x16 a21 x17 x18 a22 a23 a24 a25 x19 a26 x20 a27 a28 a29 y0 a30 a31 a32 a33 a34 a35 a36 a37 a38 x21 x22 x23 y1 a39 x24 a40 a41 a42 a43 x25 x26 x27 x28 a18 f0 a29 f1) → va_S A s.heap H locs → lv_has ls 4 [(3, .int x_1), (2, .int x_3), (0, .ref a0), (1, .int x0)] → W p l e ({ frames := 0, cells := 0, slots := 0, locals := 0 }) s m args below meth c H locs 0 0 Q (F0 m 4 ls []) := by
    intro n
    induction n with
    | zero => intro x_1 x_3 H locs ls hi_2 hi_5 hi_6 hmu; exact absurd hmu (Nat.not_lt_zero _)
    | succ n ih_lp_7 =>
      intro x_1 x_3 H locs ls hi_2 hi_5 hi_6 hmu_lp_7 hP hD hS hl
      have hi_4 := n_rng x_3
      refine lv_iload_n (pc := 4) hx hb dX12_sentTo_4 rfl (lv_at hl 0 rfl) ?_
      refine lv_aload_n (pc := 5) hx hb dX12_sentTo_5 rfl (lv_at hl 2 rfl) ?_
      refine va_get (pc := 6) (ci := 12) (v := .int x10) (C := RX12) (T := TX12) (N := 73) hx hb hts iX12 hown hK hP 0 rfl rfl 25 (by decide) (hts _ tw_1426) (fun _ h9 => h9) rfl dX12_sentTo_6 ?_
      have bd_h_x10 : 0 ≤ x10.toInt ∧ x10.toInt ≤ 5 := h_x10
      refine b_icmp_ge (pc := 9) (tgt := 38) hx hb rfl rfl  dX12_sentTo_9 (by decide) (fun c_8 => ?_) (fun c_8 => ?_)
      ·
        as_aux_lemma =>
          refine lv_iload_n (pc := 38) hx hb dX12_sentTo_38 rfl (lv_at hl 1 rfl) ?_
          have hP9 : va_P D gcl (zS_21 cB cC cI cJ a0 a1 x1 x2 x3 x4 x5 x6 x7 x8 a2 a3 a4 a5 a6 a7 a8 a9 a10 a11 a12 a13 a14 a15 a16 x9 x10 x11 x12 x13 x14 a17 a18 a19 x15 a20 x16 a21 x17 x18 a22 a23 a24 a25 x19 a26 x20 a27 a28 a29 y0 a30 a31 a32 a33 a34 a35 a36 a37 a38 x21 x22 x23 y1 a39 x24 a40 a41 a42 a43 x25 x26 x27 x28 a18 f0 a29 f1) H := g_psub hP [0, 1, 2] rfl
          have hD9 : va_D A (zS_21 cB cC cI cJ a0 a1 x1 x2 x3 x4 x5 x6 x7 x8 a2 a3 a4 a5 a6 a7 a8 a9 a10 a11 a12 a13 a14 a15 a16 x9 x10 x11 x12 x13 x14 a17 a18 a19 x15 a20 x16 a21 x17 x18 a22 a23 a24 a25 x19 a26 x20 a27 a28 a29 y0 a30 a31 a32 a33 a34 a35 a36 a37 a38 x21 x22 x23 y1 a39 x24 a40 a41 a42 a43 x25 x26 x27 x28 a18 f0 a29 f1) := hD.sub [0, 1, 2] (by decide) rfl
          exact hret x_3 ((fun _ => 0), (fun _ => (fun _ => 0)), (fun _ => (fun _ => 0)), (fun _ => 0), (fun _ => 0)) dX12_sentTo_39 (show x_3 = sW (tM9 f0 x0.toInt) f1 (x10.toInt).toNat from (by have e9 : (x_1.toInt).toNat = (x10.toInt).toNat := (by (first | omega | (unfold zBd at *; omega))); have q9 := hi_6; rw [e9] at q9; exact q9)) hP9 hD9 hS
      ·
        as_aux_lemma =>
          refine lv_iload_n (pc := 12) hx hb dX12_sentTo_12 rfl (lv_at hl 1 rfl) ?_
          refine lv_aload_n (pc := 13) hx hb dX12_sentTo_13 rfl (lv_at hl 2 rfl) ?_
          refine va_get (pc := 14) (ci := 12) (v := .ref a18) (C := RX12) (T := TX12) (N := 73) hx hb hts iX12 hown hK hP 0 rfl rfl 31 (by decide) (hts _ tw_1432) (fun _ h9 => h9) rfl dX12_sentTo_14 ?_
          refine lv_iconst (pc := 17) (v := 5) hx hb dX12_sentTo_17 (by decide) ?_
          refine lv_iload_n (pc := 18) hx hb dX12_sentTo_18 rfl (lv_at hl 3 rfl) ?_
          refine b_imul (pc := 19) hx hb tI_5 rfl (by first | exact (om_941 hp1.1) | ((first | omega | (unfold zBd at *; omega)))) (by first | exact (om_1574 hp1.2) | ((first | omega | (unfold zBd at *; omega)))) dX12_sentTo_19 (fun x_9 ex_9 => ?_)
          refine lv_iload_n (pc := 20) hx hb dX12_sentTo_20 rfl (lv_at hl 0 rfl) ?_
          refine b_iadd (pc := 21) hx hb rfl rfl (by first | exact (om_1529 ex_9 hi_2.1 hp1.1) | ((first | omega | (unfold zBd at *; omega)))) (by first | exact (om_1575 ex_9 hi_2.2 hp1.2) | ((first | omega | (unfold zBd at *; omega)))) dX12_sentTo_21 (fun x_10 ex_10 => ?_)
          refine va_iald (pc := 22) hx hb hK hP 1 2 rfl rfl (n_in rfl (by first | exact (om_1531 ex_10 ex_9 hi_2.1 hp1.1) | ((first | omega | (unfold zBd at *; omega)))) (by first | exact (om_1576 ex_10 ex_9 hi_2.2 hp1.2) | ((first | omega | (unfold zBd at *; omega))))) dX12_sentTo_22 ?_
          refine lv_topi (fun x_11 ex_11 => ?_)
          have rx_11 : ((-9999) ≤ x_11.toInt ∧ x_11.toInt ≤ 9999) := by rw [ex_11]; exact hf_f0 _
          replace ex_11 : x_11 = f0 (x_10.toInt).toNat := ex_11
          have tx_11 := congrArg Int32.toInt ex_11
          as_aux_lemma =>
            refine lv_aload_n (pc := 23) hx hb dX12_sentTo_23 rfl (lv_at hl 2 rfl) ?_
            refine va_get (pc := 24) (ci := 12) (v := .ref a29) (C := RX12) (T := TX12) (N := 73) hx hb hts iX12 hown hK hP 0 rfl rfl 48 (by decide) (hts _ tw_1449) (fun _ h9 => h9) rfl dX12_sentTo_24 ?_
            refine lv_iload_n (pc := 27) hx hb dX12_sentTo_27 rfl (lv_at hl 0 rfl) ?_
            refine va_iald (pc := 28) hx hb hK hP 2 2 rfl rfl (n_in rfl (by first | exact (om_0 hi_2.1) | ((first | omega | (unfold zBd at *; omega)))) (by first | exact (om_1020 c_8 h_x10.2) | ((first | omega | (unfold zBd at *; omega))))) dX12_sentTo_28 ?_
            refine lv_topi (fun x_12 ex_12 => ?_)
            have rx_12 : zBd x_12.toInt (-2147483648) 2147483647 := n_rng x_12
            replace ex_12 : x_12 = f1 (x_1.toInt).toNat := ex_12
            have tx_12 := congrArg Int32.toInt ex_12
            refine lv_imul (pc := 29) hx hb dX12_sentTo_29 ?_
            refine lv_topi (fun x_13 ex_13 => ?_)
            have rx_13 : zBd x_13.toInt (-2147483648) 2147483647 := n_rng x_13
            refine lv_iadd (pc := 30) hx hb dX12_sentTo_30 ?_
            refine lv_topi (fun x_14 ex_14 => ?_)
            have rx_14 : zBd x_14.toInt (-2147483648) 2147483647 := n_rng x_14
            refine lv_istore_n (pc := 31) (lv' := [(2, .int x_14), (3, .int x_1), (0, .ref a0), (1, .int x0)]) hx hb dX12_sentTo_31 rfl hl (by decide) rfl (fun ls hl => ?_)
            as_aux_lemma =>
              refine b_iinc (pc := 32) hx hb dX12_sentTo_32 hl (k := 1) rfl rfl tI_1 (by first | exact (om_2 hi_2.1) | ((first | omega | (unfold zBd at *; omega)))) (by first | exact (om_357 hi_2.2) | ((first | omega | (unfold zBd at *; omega)))) (by decide) (fun x_15 ex_15 ls hl => ?_)
              replace hl : lv_has ls 4 [(3, .int x_15), (2, .int x_14), (0, .ref a0), (1, .int x0)] := hl
              refine lv_goto (pc := 35) (tgt := 4) hx hb dX12_sentTo_35 (by decide) ?_
              exact ih_lp_7 x_15 x_14 _ _ ls (by first | exact (om_1026 ex_15 hi_2.1 c_8 h_x10.2) | ((first | omega | (unfold zBd at *; omega)))) (by first | exact (om_40 ex_15 c_8) | ((first | omega | (unfold zBd at *; omega)))) (sW_step hi_6 (tm_e ex_11 (by (first | omega | (unfold zBd at *; omega))) (by (first | omega | (unfold zBd at *; omega)))) ex_12 ex_13 ex_14 (by first | exact (om_0 hi_2.1) | ((first | omega | (unfold zBd at *; omega)))) (by first | exact (om_5 ex_15) | ((first | omega | (unfold zBd at *; omega))))) (by (first | omega | (unfold zBd at *; omega))) hP hD hS (lv_sub hl [0, 1, 2, 3] rfl)
  exact lp_7 _ 0 0 _ _ ls (n_c tI_0 (by decide)) (by have q := tI_0; (first | omega | (unfold zBd at *; omega))) (rfl) (Nat.lt_succ_self _) hP hD hS (lv_sub hl [0, 1, 2, 3] rfl)
set_option maxHeartbeats 4000000 in
set_option maxRecDepth 100000 in
theorem k_X12_squaresLess_w (l : Launch) (D : va_G) (cB cC cI cJ : ClassId) (sz : Nat) (a0 a1 a2 a3 a4 a5 a6 a7 a8 a9 a10 a11 a12 a13 a14 a15 a16 a17 a18 a19 a20 a21 a22 a23 a24 a25 a26 a27 a28 a29 a30 a31 a32 a33 a34 a35 a36 a37 a38 a39 a40 a41 a42 a43 : Nat) (x0 x1 x2 x3 x4 x5 x6 x7 x8 x9 x10 x11 x12 x13 x14 x15 x16 x17 x18 x19 x20 x21 x22 x23 x24 x25 x26 x27 x28 : Int32) (y0 y1 : Int64) (f0 f1 : Nat → Int32) (hp1 : (0 ≤ x0.toInt ∧ x0.toInt ≤ 1)) (h_x1 : zBd x1.toInt 0 1600) (h_x2 : zBd x2.toInt 0 1600) (h_x3 : zBd x3.toInt 0 1600) (h_x4 : zBd x4.toInt (-1) 1600) (h_x5 : zBd x5.toInt 0 4) (h_x6 : zBd x6.toInt (-1) 1600) (h_x9 : zBd x9.toInt 0 8) (h_x10 : zBd x10.toInt 0 5) (h_x11 : zBd x11.toInt 0 6) (h_x12 : zBd x12.toInt 0 6) (h_x13 : zBd x13.toInt 0 16) (h_x15 : zBd x15.toInt 0 60) (h_x16 : zBd x16.toInt 0 1600) (h_x17 : zBd x17.toInt 0 1700) (h_x19 : zBd x19.toInt 0 1700) (h_x20 : zBd x20.toInt 0 1700) (h_x21 : zBd x21.toInt 0 200) (h_x22 : zBd x22.toInt 0 40) (h_x23 : zBd x23.toInt 0 40) (h_x24 : zBd x24.toInt 0 1) (h_x25 : zBd x25.toInt 0 14) (h_x26 : zBd x26.toInt 0 200) (h_x27 : zBd x27.toInt 0 40) (h_x28 : zBd x28.toInt 0 40) (hr_a0_0 : (x22.toInt ≤ x21.toInt)) (hr_a0_1 : (x21.toInt + x23.toInt ≤ 200)) (hr_a0_2 : (x10.toInt = 0 ∨ 2 ≤ x9.toInt)) (hf_f0 : (∀ j, (-9999) ≤ (f0 j).toInt ∧ (f0 j).toInt ≤ 9999)) (hg__z : x0.toInt = 0) : Met l yX12_squaresLess (.code yX12_squaresLess cX12_squaresLess 7 (some .long) :: lw_gd) ({ frames := 1, cells := 0, slots := 0, locals := 23 }) (gPre D [(cB, .byte), (cC, .char), (cI, .int), (cJ, .long)] [.ref a0, .int x0] (zS_21 cB cC cI cJ a0 a1 x1 x2 x3 x4 x5 x6 x7 x8 a2 a3 a4 a5 a6 a7 a8 a9 a10 a11 a12 a13 a14 a15 a16 x9 x10 x11 x12 x13 x14 a17 a18 a19 x15 a20 x16 a21 x17 x18 a22 a23 a24 a25 x19 a26 x20 a27 a28 a29 y0 a30 a31 a32 a33 a34 a35 a36 a37 a38 x21 x22 x23 y1 a39 x24 a40 a41 a42 a43 x25 x26 x27 x28 a18 f0 a29 f1) sz) (va_Ql (fun r u => (r = qW (fun r : Nat => (0 : Int32) - sW (tM9 f0 (r : Int)) f1 (x10.toInt).toNat) (x11.toInt).toNat)) (gB D (va_A (zS_21 cB cC cI cJ a0 a1 x1 x2 x3 x4 x5 x6 x7 x8 a2 a3 a4 a5 a6 a7 a8 a9 a10 a11 a12 a13 a14 a15 a16 x9 x10 x11 x12 x13 x14 a17 a18 a19 x15 a20 x16 a21 x17 x18 a22 a23 a24 a25 x19 a26 x20 a27 a28 a29 y0 a30 a31 a32 a33 a34 a35 a36 a37 a38 x21 x22 x23 y1 a39 x24 a40 a41 a42 a43 x25 x26 x27 x28 a18 f0 a29 f1) sz) (fun u : gEx => (zS_21 cB cC cI cJ a0 a1 x1 x2 x3 x4 x5 x6 x7 x8 a2 a3 a4 a5 a6 a7 a8 a9 a10 a11 a12 a13 a14 a15 a16 x9 x10 x11 x12 x13 x14 a17 a18 a19 x15 a20 x16 a21 x17 x18 a22 a23 a24 a25 x19 a26 x20 a27 a28 a29 y0 a30 a31 a32 a33 a34 a35 a36 a37 a38 x21 x22 x23 y1 a39 x24 a40 a41 a42 a43 x25 x26 x27 x28 a18 f0 a29 f1))) (va_A (zS_21 cB cC cI cJ a0 a1 x1 x2 x3 x4 x5 x6 x7 x8 a2 a3 a4 a5 a6 a7 a8 a9 a10 a11 a12 a13 a14 a15 a16 x9 x10 x11 x12 x13 x14 a17 a18 a19 x15 a20 x16 a21 x17 x18 a22 a23 a24 a25 x19 a26 x20 a27 a28 a29 y0 a30 a31 a32 a33 a34 a35 a36 a37 a38 x21 x22 x23 y1 a39 x24 a40 a41 a42 a43 x25 x26 x27 x28 a18 f0 a29 f1) sz)) 0 0 (va_A (zS_21 cB cC cI cJ a0 a1 x1 x2 x3 x4 x5 x6 x7 x8 a2 a3 a4 a5 a6 a7 a8 a9 a10 a11 a12 a13 a14 a15 a16 x9 x10 x11 x12 x13 x14 a17 a18 a19 x15 a20 x16 a21 x17 x18 a22 a23 a24 a25 x19 a26 x20 a27 a28 a29 y0 a30 a31 a32 a33 a34 a35 a36 a37 a38 x21 x22 x23 y1 a39 x24 a40 a41 a42 a43 x25 x26 x27 x28 a18 f0 a29 f1) sz) := by
  refine gOf_l (by decide +kernel) (Nat.le_of_ble_eq_true rfl) ?_
  intro p e s m args below meth c ls A Q hx hb hts hown hml hN hK hP hD hA hl hret
  replace hown : s.vm.findClass RX12 = some m.cls := hown
  have hS : va_S A s.heap s.heap [] := va_S.rf
  replace hP : va_P D gcl (zS_21 cB cC cI cJ a0 a1 x1 x2 x3 x4 x5 x6 x7 x8 a2 a3 a4 a5 a6 a7 a8 a9 a10 a11 a12 a13 a14 a15 a16 x9 x10 x11 x12 x13 x14 a17 a18 a19 x15 a20 x16 a21 x17 x18 a22 a23 a24 a25 x19 a26 x20 a27 a28 a29 y0 a30 a31 a32 a33 a34 a35 a36 a37 a38 x21 x22 x23 y1 a39 x24 a40 a41 a42 a43 x25 x26 x27 x28 a18 f0 a29 f1) s.heap := hP
  replace hl : lv_has ls 7 [(0, .ref a0), (1, .int x0)] := hl
  have rx7 : zBd x7.toInt (-2147483648) 2147483647 := n_rng x7
  have rx8 : zBd x8.toInt (-2147483648) 2147483647 := n_rng x8
  have rx14 : zBd x14.toInt (-2147483648) 2147483647 := n_rng x14
  have rx18 : zBd x18.toInt (-2147483648) 2147483647 := n_rng x18
  have ry0 := n_rngL y0
  have ry1 := n_rngL y1
  refine lv_lconst (pc := 0) (v := 0) hx hb dX12_squaresLess_0 (by decide) ?_
  refine lv_lstore_n (pc := 1) (lv' := [(2, .long 0), (0, .ref a0), (1, .int x0)]) hx hb dX12_squaresLess_1 rfl hl (by decide) rfl (fun ls hl => ?_)
  refine lv_iconst (pc := 2) (v := 0) hx hb dX12_squaresLess_2 (by decide) ?_
  refine lv_istore (pc := 3) (lv' := [(4, .int 0), (2, .long 0), (0, .ref a0), (1, .int x0)]) hx hb dX12_squaresLess_3 hl (by decide) rfl (fun ls hl => ?_)
  have lp_7 : ∀ (n : Nat) (x_1 : Int32) (y_3 : Int64) (H : Heap) (locs : List Loc) (ls : Array Slot), (0 ≤ x_1.toInt ∧ x_1.toInt ≤ 6) → (x_1.toInt ≤ x11.toInt) → (y_3 = qW (fun r : Nat => (0 : Int32) - sW (tM9 f0 (r : Int)) f1 (x10.toInt).toNat) (x_1.toInt).toNat) → (2147483647 - x_1.toInt).toNat < n → va_P D gcl (zS_21 cB cC cI cJ a0 a1 x1 x2 x3 x4 x5 x6 x7 x8 a2 a3 a4 a5 a6 a7 a8 a9 a10 a11 a12 a13 a14 a15 a16 x9 x10 x11 x12 x13 x14 a17 a18 a19 x15 a20 x16 a21 x17 x18 a22 a23 a24 a25 x19 a26 x20 a27 a28 a29 y0 a30 a31 a32 a33 a34 a35 a36 a37 a38 x21 x22 x23 y1 a39 x24 a40 a41 a42 a43 x25 x26 x27 x28 a18 f0 a29 f1) H → va_D A (zS_21 cB cC cI cJ a0 a1 x1 x2 x3 x4 x5 x6 x7 x8 a2 a3 a4 a5 a6 a7 a8 a9 a10 a11 a12 a13 a14 a15 a16 x9 x10 x11 x12 x13 x14 a17 a18 a19 x15 a20 x16 a21 x17 x18 a22 a23 a24 a25 x19 a26 x20 a27 a28 a29 y0 a30 a31 a32 a33 a34 a35 a36 a37 a38 x21 x22 x23 y1 a39 x24 a40 a41 a42 a43 x25 x26 x27 x28 a18 f0 a29 f1) → va_S A s.heap H locs → lv_has ls 7 [(4, .int x_1), (2, .long y_3), (0, .ref a0), (1, .int x0)] → W p l e ({ frames := 1, cells := 0, slots := 0, locals := 23 }) s m args below meth c H locs 0 0 Q (F0 m 5 ls []) := by
    intro n
    induction n with
    | zero => intro x_1 y_3 H locs ls hi_2 hi_5 hi_6 hmu; exact absurd hmu (Nat.not_lt_zero _)
    | succ n ih_lp_7 =>
      intro x_1 y_3 H locs ls hi_2 hi_5 hi_6 hmu_lp_7 hP hD hS hl
      have hi_4 := n_rngL y_3
      refine lv_iload (pc := 5) hx hb dX12_squaresLess_5 (lv_at hl 0 rfl) ?_
      refine lv_aload_n (pc := 7) hx hb dX12_squaresLess_7 rfl (lv_at hl 2 rfl) ?_
      refine va_get (pc := 8) (ci := 12) (v := .int x11) (C := RX12) (T := TX12) (N := 73) hx hb hts iX12 hown hK hP 0 rfl rfl 26 (by decide) (hts _ tw_1427) (fun _ h9 => h9) rfl dX12_squaresLess_8 ?_
      have bd_h_x11 : 0 ≤ x11.toInt ∧ x11.toInt ≤ 6 := h_x11
      refine b_icmp_ge (pc := 11) (tgt := 53) hx hb rfl rfl  dX12_squaresLess_11 (by decide) (fun c_8 => ?_) (fun c_8 => ?_)
      ·
        as_aux_lemma =>
          refine lv_lload_n (pc := 53) hx hb dX12_squaresLess_53 rfl (lv_at hl 1 rfl) ?_
          have hP9 : va_P D gcl (zS_21 cB cC cI cJ a0 a1 x1 x2 x3 x4 x5 x6 x7 x8 a2 a3 a4 a5 a6 a7 a8 a9 a10 a11 a12 a13 a14 a15 a16 x9 x10 x11 x12 x13 x14 a17 a18 a19 x15 a20 x16 a21 x17 x18 a22 a23 a24 a25 x19 a26 x20 a27 a28 a29 y0 a30 a31 a32 a33 a34 a35 a36 a37 a38 x21 x22 x23 y1 a39 x24 a40 a41 a42 a43 x25 x26 x27 x28 a18 f0 a29 f1) H := g_psub hP [0, 1, 2] rfl
          have hD9 : va_D A (zS_21 cB cC cI cJ a0 a1 x1 x2 x3 x4 x5 x6 x7 x8 a2 a3 a4 a5 a6 a7 a8 a9 a10 a11 a12 a13 a14 a15 a16 x9 x10 x11 x12 x13 x14 a17 a18 a19 x15 a20 x16 a21 x17 x18 a22 a23 a24 a25 x19 a26 x20 a27 a28 a29 y0 a30 a31 a32 a33 a34 a35 a36 a37 a38 x21 x22 x23 y1 a39 x24 a40 a41 a42 a43 x25 x26 x27 x28 a18 f0 a29 f1) := hD.sub [0, 1, 2] (by decide) rfl
          exact hret y_3 ((fun _ => 0), (fun _ => (fun _ => 0)), (fun _ => (fun _ => 0)), (fun _ => 0), (fun _ => 0)) dX12_squaresLess_54 (show y_3 = qW (fun r : Nat => (0 : Int32) - sW (tM9 f0 (r : Int)) f1 (x10.toInt).toNat) (x11.toInt).toNat from (by have e9 : (x_1.toInt).toNat = (x11.toInt).toNat := (by (first | omega | (unfold zBd at *; omega))); have q9 := hi_6; rw [e9] at q9; exact q9)) hP9 hD9 hS
      ·
        as_aux_lemma =>
          refine lv_iload_n (pc := 14) hx hb dX12_squaresLess_14 rfl (lv_at hl 3 rfl) ?_
          refine b_if_eq (pc := 15) (tgt := 28) hx hb rfl  dX12_squaresLess_15 (by decide) (fun c_9 => ?_) (fun c_9 => ?_)
          ·
            as_aux_lemma =>
              refine lv_iconst (pc := 28) (v := 0) hx hb dX12_squaresLess_28 (by decide) ?_
              refine lv_aload_n (pc := 29) hx hb dX12_squaresLess_29 rfl (lv_at hl 2 rfl) ?_
              refine lv_iload (pc := 30) hx hb dX12_squaresLess_30 (lv_at hl 0 rfl) ?_
              refine gd_i (pc := 32) (wc := (zS_21 cB cC cI cJ a0 a1 x1 x2 x3 x4 x5 x6 x7 x8 a2 a3 a4 a5 a6 a7 a8 a9 a10 a11 a12 a13 a14 a15 a16 x9 x10 x11 x12 x13 x14 a17 a18 a19 x15 a20 x16 a21 x17 x18 a22 a23 a24 a25 x19 a26 x20 a27 a28 a29 y0 a30 a31 a32 a33 a34 a35 a36 a37 a38 x21 x22 x23 y1 a39 x24 a40 a41 a42 a43 x25 x26 x27 x28 a18 f0 a29 f1)) hP hD hS hA [0, 1, 2] rfl (by decide +kernel) (fun _ => by rfl) (fun hPc hDc => va_runV (As := [.int x_1]) (rest := [.int 0]) ⟨hx, hb, hml, hown, hts⟩ (k_X12_sentTo_w l D cB cC cI cJ _ a0 a1 a2 a3 a4 a5 a6 a7 a8 a9 a10 a11 a12 a13 a14 a15 a16 a17 a18 a19 a20 a21 a22 a23 a24 a25 a26 a27 a28 a29 a30 a31 a32 a33 a34 a35 a36 a37 a38 a39 a40 a41 a42 a43 x_1 x1 x2 x3 x4 x5 x6 x7 x8 x9 x10 x11 x12 x13 x14 x15 x16 x17 x18 x19 x20 x21 x22 x23 x24 x25 x26 x27 x28 y0 y1 f0 f1 (by first | exact (om_1083 hi_2.1 c_8 h_x11.2) | ((first | omega | (unfold zBd at *; omega)))) h_x1 h_x2 h_x3 h_x4 h_x5 h_x6 h_x9 h_x10 h_x11 h_x12 h_x13 h_x15 h_x16 h_x17 h_x19 h_x20 h_x21 h_x22 h_x23 h_x24 h_x25 h_x26 h_x27 h_x28 hr_a0_0 hr_a0_1 hr_a0_2 hf_f0) ⟨gcwB hts tw_1829 tw_14 tw_1826 hd_yX12_sentTo ⟨Nat.le_of_ble_eq_true rfl, Nat.le_of_ble_eq_true rfl⟩, hts _ tw_1828, hts _ tp_95⟩ ⟨gblind, va_recv hK hPc (ci := 12) (q0 := 0) rfl rfl, (gpreS hPc hK hDc hN).2⟩ rfl rfl hl.1 rfl (lv_room (Nat.le_of_ble_eq_true rfl)) dX12_squaresLess_32 ⟨Nat.le_of_ble_eq_true rfl, Nat.le_of_ble_eq_true rfl⟩) (fun r_11 u_10 H locs hw_12 hP hD hS => ?_)
              replace hP : va_P D gcl (zS_21 cB cC cI cJ a0 a1 x1 x2 x3 x4 x5 x6 x7 x8 a2 a3 a4 a5 a6 a7 a8 a9 a10 a11 a12 a13 a14 a15 a16 x9 x10 x11 x12 x13 x14 a17 a18 a19 x15 a20 x16 a21 x17 x18 a22 a23 a24 a25 x19 a26 x20 a27 a28 a29 y0 a30 a31 a32 a33 a34 a35 a36 a37 a38 x21 x22 x23 y1 a39 x24 a40 a41 a42 a43 x25 x26 x27 x28 a18 f0 a29 f1) H := hP
              replace hD : va_D A (zS_21 cB cC cI cJ a0 a1 x1 x2 x3 x4 x5 x6 x7 x8 a2 a3 a4 a5 a6 a7 a8 a9 a10 a11 a12 a13 a14 a15 a16 x9 x10 x11 x12 x13 x14 a17 a18 a19 x15 a20 x16 a21 x17 x18 a22 a23 a24 a25 x19 a26 x20 a27 a28 a29 y0 a30 a31 a32 a33 a34 a35 a36 a37 a38 x21 x22 x23 y1 a39 x24 a40 a41 a42 a43 x25 x26 x27 x28 a18 f0 a29 f1) := hD
              have hw_13 : (r_11 = sW (tM9 f0 x_1.toInt) f1 (x10.toInt).toNat) := hw_12
              have rr_11 : zBd r_11.toInt (-2147483648) 2147483647 := n_rng r_11
              refine lv_isub (pc := 35) hx hb dX12_squaresLess_35 ?_
              refine lv_topi (fun x_14 ex_14 => ?_)
              have rx_14 : zBd x_14.toInt (-2147483648) 2147483647 := n_rng x_14
              refine b_i2l (pc := 36) hx hb rfl dX12_squaresLess_36 (fun y_15 ey_15 => ?_)
              have ry_15 : zBd x_14.toInt (-2147483648) 2147483647 := n_rng x_14
              refine lv_lstore (pc := 37) (lv' := [(5, .long y_15), (4, .int x_1), (2, .long y_3), (0, .ref a0), (1, .int x0)]) hx hb dX12_squaresLess_37 hl (by decide) rfl (fun ls hl => ?_)
              refine lv_lload_n (pc := 39) hx hb dX12_squaresLess_39 rfl (lv_at hl 2 rfl) ?_
              refine lv_lload (pc := 40) hx hb dX12_squaresLess_40 (lv_at hl 0 rfl) ?_
              as_aux_lemma =>
                refine lv_lload (pc := 42) hx hb dX12_squaresLess_42 (lv_at hl 0 rfl) ?_
                refine lv_lmul (pc := 44) hx hb dX12_squaresLess_44 ?_
                refine lv_topl (fun y_16 ey_16 => ?_)
                have ry_16 := n_rngL y_16
                refine lv_ladd (pc := 45) hx hb dX12_squaresLess_45 ?_
                refine lv_topl (fun y_17 ey_17 => ?_)
                have ry_17 := n_rngL y_17
                refine lv_lstore_n (pc := 46) (lv' := [(2, .long y_17), (5, .long y_15), (4, .int x_1), (0, .ref a0), (1, .int x0)]) hx hb dX12_squaresLess_46 rfl hl (by decide) rfl (fun ls hl => ?_)
                refine b_iinc (pc := 47) hx hb dX12_squaresLess_47 hl (k := 2) rfl rfl tI_1 (by first | exact (om_2 hi_2.1) | ((first | omega | (unfold zBd at *; omega)))) (by first | exact (om_38 hi_2.2) | ((first | omega | (unfold zBd at *; omega)))) (by decide) (fun x_18 ex_18 ls hl => ?_)
                replace hl : lv_has ls 7 [(4, .int x_18), (2, .long y_17), (5, .long y_15), (0, .ref a0), (1, .int x0)] := hl
                refine lv_goto (pc := 50) (tgt := 5) hx hb dX12_squaresLess_50 (by decide) ?_
                exact ih_lp_7 x_18 y_17 _ _ ls (by first | exact (om_39 ex_18 hi_2.1 c_8 h_x11.2) | ((first | omega | (unfold zBd at *; omega)))) (by first | exact (om_40 ex_18 c_8) | ((first | omega | (unfold zBd at *; omega)))) (qW_step hi_6 (sl_ev ex_14 hw_13 (by first | exact (om_0 hi_2.1) | ((first | omega | (unfold zBd at *; omega))))) ey_15 ey_16 ey_17 (by first | exact (om_0 hi_2.1) | ((first | omega | (unfold zBd at *; omega)))) (by first | exact (om_5 ex_18) | ((first | omega | (unfold zBd at *; omega))))) (by (first | omega | (unfold zBd at *; omega))) hP hD hS (lv_sub hl [0, 1, 3, 4] rfl)
          ·
            as_aux_lemma =>
              exact False.elim (by (first | omega | (unfold zBd at *; omega)))
  exact lp_7 _ 0 0 _ _ ls (n_c tI_0 (by decide)) (by have q := tI_0; (first | omega | (unfold zBd at *; omega))) (rfl) (Nat.lt_succ_self _) hP hD hS (lv_sub hl [0, 1, 2, 3] rfl)
