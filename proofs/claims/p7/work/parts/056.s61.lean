theorem om_1777 {a b c d : Int} (h0 : (a = d + c)) (h1 : (d = 5 * b)) : (a = 5 * b + c) := by omega
set_option maxHeartbeats 4000000 in
set_option maxRecDepth 100000 in
theorem k_X12_apartOf (l : Launch) (D : va_G) (cB cC cI cJ : ClassId) (sz : Nat) (a0 a1 a2 a3 a4 a5 a6 a7 a8 a9 a10 a11 a12 a13 a14 a15 a16 a17 a18 a19 a20 a21 a22 a23 a24 a25 a26 a27 a28 a29 a30 a31 a32 a33 a34 a35 a36 a37 a38 a39 a40 a41 a42 a43 : Nat) (x0 x1 x2 x3 x4 x5 x6 x7 x8 x9 x10 x11 x12 x13 x14 x15 x16 x17 x18 x19 x20 x21 x22 x23 x24 x25 x26 x27 x28 x29 : Int32) (y0 y1 : Int64) (f0 f1 f2 : Nat → Int32) (hp1 : (0 ≤ x0.toInt ∧ x0.toInt ≤ 15)) (hp2 : (0 ≤ x1.toInt ∧ x1.toInt ≤ 15)) (h_x2 : zBd x2.toInt 0 1600) (h_x3 : zBd x3.toInt 0 1600) (h_x4 : zBd x4.toInt 0 1600) (h_x5 : zBd x5.toInt (-1) 1600) (h_x6 : zBd x6.toInt 0 4) (h_x7 : zBd x7.toInt (-1) 1600) (h_x10 : zBd x10.toInt 0 8) (h_x11 : zBd x11.toInt 0 5) (h_x12 : zBd x12.toInt 0 6) (h_x13 : zBd x13.toInt 0 6) (h_x14 : zBd x14.toInt 0 16) (h_x16 : zBd x16.toInt 0 60) (h_x17 : zBd x17.toInt 0 1600) (h_x18 : zBd x18.toInt 0 1700) (h_x20 : zBd x20.toInt 0 1700) (h_x21 : zBd x21.toInt 0 1700) (h_x22 : zBd x22.toInt 0 200) (h_x23 : zBd x23.toInt 0 40) (h_x24 : zBd x24.toInt 0 40) (h_x25 : zBd x25.toInt 0 1) (h_x26 : zBd x26.toInt 0 14) (h_x27 : zBd x27.toInt 0 200) (h_x28 : zBd x28.toInt 0 40) (h_x29 : zBd x29.toInt 0 40) (hr_a0_0 : (x23.toInt ≤ x22.toInt)) (hr_a0_1 : (x22.toInt + x24.toInt ≤ 200)) (hr_a0_2 : (x11.toInt = 0 ∨ 2 ≤ x10.toInt)) (hf_f0 : (∀ j, (-9999) ≤ (f0 j).toInt ∧ (f0 j).toInt ≤ 9999)) (hf_f1 : (∀ j, (-9999) ≤ (f1 j).toInt ∧ (f1 j).toInt ≤ 9999)) : Met l yX12_apartOf (.code yX12_apartOf cX12_apartOf 4 (some .long) :: lw_gd) ({ frames := 2, cells := 0, slots := 0, locals := 49 }) (gPre D [(cB, .byte), (cC, .char), (cI, .int), (cJ, .long)] [.ref a0, .int x0, .int x1] (zS_17 cB cC cI cJ a0 a1 x2 x3 x4 x5 x6 x7 x8 x9 a2 a3 a4 a5 a6 a7 a8 a9 a10 a11 a12 a13 a14 a15 a16 x10 x11 x12 x13 x14 x15 a17 a18 a19 x16 a20 x17 a21 x18 x19 a22 a23 a24 a25 x20 a26 x21 a27 a28 a29 y0 a30 a31 a32 a33 a34 a35 a36 a37 a38 x22 x23 x24 y1 a39 x25 a40 a41 a42 a43 x26 x27 x28 x29 a18 f0 a19 f1 a29 f2) sz) (va_Ql (fun r u => (r = pM9 f0 f1 x11.toInt x12.toInt x0.toInt x1.toInt)) (gB D (va_A (zS_17 cB cC cI cJ a0 a1 x2 x3 x4 x5 x6 x7 x8 x9 a2 a3 a4 a5 a6 a7 a8 a9 a10 a11 a12 a13 a14 a15 a16 x10 x11 x12 x13 x14 x15 a17 a18 a19 x16 a20 x17 a21 x18 x19 a22 a23 a24 a25 x20 a26 x21 a27 a28 a29 y0 a30 a31 a32 a33 a34 a35 a36 a37 a38 x22 x23 x24 y1 a39 x25 a40 a41 a42 a43 x26 x27 x28 x29 a18 f0 a19 f1 a29 f2) sz) (fun u : gEx => (zS_17 cB cC cI cJ a0 a1 x2 x3 x4 x5 x6 x7 x8 x9 a2 a3 a4 a5 a6 a7 a8 a9 a10 a11 a12 a13 a14 a15 a16 x10 x11 x12 x13 x14 x15 a17 a18 a19 x16 a20 x17 a21 x18 x19 a22 a23 a24 a25 x20 a26 x21 a27 a28 a29 y0 a30 a31 a32 a33 a34 a35 a36 a37 a38 x22 x23 x24 y1 a39 x25 a40 a41 a42 a43 x26 x27 x28 x29 a18 f0 a19 f1 a29 (u.2.1 0)))) (va_A (zS_17 cB cC cI cJ a0 a1 x2 x3 x4 x5 x6 x7 x8 x9 a2 a3 a4 a5 a6 a7 a8 a9 a10 a11 a12 a13 a14 a15 a16 x10 x11 x12 x13 x14 x15 a17 a18 a19 x16 a20 x17 a21 x18 x19 a22 a23 a24 a25 x20 a26 x21 a27 a28 a29 y0 a30 a31 a32 a33 a34 a35 a36 a37 a38 x22 x23 x24 y1 a39 x25 a40 a41 a42 a43 x26 x27 x28 x29 a18 f0 a19 f1 a29 f2) sz)) 0 0 (va_A (zS_17 cB cC cI cJ a0 a1 x2 x3 x4 x5 x6 x7 x8 x9 a2 a3 a4 a5 a6 a7 a8 a9 a10 a11 a12 a13 a14 a15 a16 x10 x11 x12 x13 x14 x15 a17 a18 a19 x16 a20 x17 a21 x18 x19 a22 a23 a24 a25 x20 a26 x21 a27 a28 a29 y0 a30 a31 a32 a33 a34 a35 a36 a37 a38 x22 x23 x24 y1 a39 x25 a40 a41 a42 a43 x26 x27 x28 x29 a18 f0 a19 f1 a29 f2) sz) := by
  refine gOf_l (by decide +kernel) (Nat.le_of_ble_eq_true rfl) ?_
  intro p e s m args below meth c ls A Q hx hb hts hown hml hN hK hP hD hA hl hret
  replace hown : s.vm.findClass RX12 = some m.cls := hown
  have hS : va_S A s.heap s.heap [] := va_S.rf
  replace hP : va_P D gcl (zS_17 cB cC cI cJ a0 a1 x2 x3 x4 x5 x6 x7 x8 x9 a2 a3 a4 a5 a6 a7 a8 a9 a10 a11 a12 a13 a14 a15 a16 x10 x11 x12 x13 x14 x15 a17 a18 a19 x16 a20 x17 a21 x18 x19 a22 a23 a24 a25 x20 a26 x21 a27 a28 a29 y0 a30 a31 a32 a33 a34 a35 a36 a37 a38 x22 x23 x24 y1 a39 x25 a40 a41 a42 a43 x26 x27 x28 x29 a18 f0 a19 f1 a29 f2) s.heap := hP
  replace hl : lv_has ls 4 [(0, .ref a0), (1, .int x0), (2, .int x1)] := hl
  have rx8 : zBd x8.toInt (-2147483648) 2147483647 := n_rng x8
  have rx9 : zBd x9.toInt (-2147483648) 2147483647 := n_rng x9
  have rx15 : zBd x15.toInt (-2147483648) 2147483647 := n_rng x15
  have rx19 : zBd x19.toInt (-2147483648) 2147483647 := n_rng x19
  have ry0 := n_rngL y0
  have ry1 := n_rngL y1
  refine lv_iconst (pc := 0) (v := 0) hx hb dX12_apartOf_0 (by decide) ?_
  refine lv_istore_n (pc := 1) (lv' := [(3, .int 0), (0, .ref a0), (1, .int x0), (2, .int x1)]) hx hb dX12_apartOf_1 rfl hl (by decide) rfl (fun ls hl => ?_)
  have lp_6 : ∀ (n : Nat) (x_1 : Int32) (f_3 : Nat → Int32) (H : Heap) (locs : List Loc) (ls : Array Slot), (0 ≤ x_1.toInt ∧ x_1.toInt ≤ 5) → (x_1.toInt ≤ x11.toInt) → (dfQ f_3 f1 x0.toInt x1.toInt x_1.toInt) → (2147483647 - x_1.toInt).toNat < n → va_P D gcl (zS_17 cB cC cI cJ a0 a1 x2 x3 x4 x5 x6 x7 x8 x9 a2 a3 a4 a5 a6 a7 a8 a9 a10 a11 a12 a13 a14 a15 a16 x10 x11 x12 x13 x14 x15 a17 a18 a19 x16 a20 x17 a21 x18 x19 a22 a23 a24 a25 x20 a26 x21 a27 a28 a29 y0 a30 a31 a32 a33 a34 a35 a36 a37 a38 x22 x23 x24 y1 a39 x25 a40 a41 a42 a43 x26 x27 x28 x29 a18 f0 a19 f1 a29 f_3) H → va_D A (zS_17 cB cC cI cJ a0 a1 x2 x3 x4 x5 x6 x7 x8 x9 a2 a3 a4 a5 a6 a7 a8 a9 a10 a11 a12 a13 a14 a15 a16 x10 x11 x12 x13 x14 x15 a17 a18 a19 x16 a20 x17 a21 x18 x19 a22 a23 a24 a25 x20 a26 x21 a27 a28 a29 y0 a30 a31 a32 a33 a34 a35 a36 a37 a38 x22 x23 x24 y1 a39 x25 a40 a41 a42 a43 x26 x27 x28 x29 a18 f0 a19 f1 a29 f_3) → va_S A s.heap H locs → lv_has ls 4 [(3, .int x_1), (0, .ref a0), (1, .int x0), (2, .int x1)] → W p l e ({ frames := 2, cells := 0, slots := 0, locals := 49 }) s m args below meth c H locs 0 0 Q (F0 m 2 ls []) := by
    intro n
    induction n with
    | zero => intro x_1 f_3 H locs ls hi_2 hi_4 hi_5 hmu; exact absurd hmu (Nat.not_lt_zero _)
    | succ n ih_lp_6 =>
      intro x_1 f_3 H locs ls hi_2 hi_4 hi_5 hmu_lp_6 hP hD hS hl
      refine lv_iload_n (pc := 2) hx hb dX12_apartOf_2 rfl (lv_at hl 0 rfl) ?_
      refine lv_aload_n (pc := 3) hx hb dX12_apartOf_3 rfl (lv_at hl 1 rfl) ?_
      refine va_get (pc := 4) (ci := 12) (v := .int x11) (C := RX12) (T := TX12) (N := 73) hx hb hts iX12 hown hK hP 0 rfl rfl 25 (by decide) (hts _ tw_1426) (fun _ h9 => h9) rfl dX12_apartOf_4 ?_
      have bd_h_x11 : 0 ≤ x11.toInt ∧ x11.toInt ≤ 5 := h_x11
      refine b_icmp_ge (pc := 7) (tgt := 43) hx hb rfl rfl  dX12_apartOf_7 (by decide) (fun c_7 => ?_) (fun c_7 => ?_)
      ·
        as_aux_lemma =>
          refine lv_aload_n (pc := 43) hx hb dX12_apartOf_43 rfl (lv_at hl 1 rfl) ?_
          refine lv_iconst (pc := 44) (v := 0) hx hb dX12_apartOf_44 (by decide) ?_
          refine gd_l (pc := 45) (wc := (zS_21 cB cC cI cJ a0 a1 x2 x3 x4 x5 x6 x7 x8 x9 a2 a3 a4 a5 a6 a7 a8 a9 a10 a11 a12 a13 a14 a15 a16 x10 x11 x12 x13 x14 x15 a17 a18 a19 x16 a20 x17 a21 x18 x19 a22 a23 a24 a25 x20 a26 x21 a27 a28 a29 y0 a30 a31 a32 a33 a34 a35 a36 a37 a38 x22 x23 x24 y1 a39 x25 a40 a41 a42 a43 x26 x27 x28 x29 a18 f0 a29 f_3)) hP hD hS hA [0, 1, 3] rfl (by decide +kernel) (fun _ => by rfl) (fun hPc hDc => va_runV (As := [.int 0]) (rest := []) ⟨hx, hb, hml, hown, hts⟩ (k_X12_squaresLess_w l D cB cC cI cJ _ a0 a1 a2 a3 a4 a5 a6 a7 a8 a9 a10 a11 a12 a13 a14 a15 a16 a17 a18 a19 a20 a21 a22 a23 a24 a25 a26 a27 a28 a29 a30 a31 a32 a33 a34 a35 a36 a37 a38 a39 a40 a41 a42 a43 0 x2 x3 x4 x5 x6 x7 x8 x9 x10 x11 x12 x13 x14 x15 x16 x17 x18 x19 x20 x21 x22 x23 x24 x25 x26 x27 x28 x29 y0 y1 f0 f_3 (n_c tI_0 (by decide)) h_x2 h_x3 h_x4 h_x5 h_x6 h_x7 h_x10 h_x11 h_x12 h_x13 h_x14 h_x16 h_x17 h_x18 h_x20 h_x21 h_x22 h_x23 h_x24 h_x25 h_x26 h_x27 h_x28 h_x29 hr_a0_0 hr_a0_1 hr_a0_2 hf_f0 (tI_0)) ⟨gcwB hts tw_1837 tw_14 tw_1834 hd_yX12_squaresLess ⟨Nat.le_of_ble_eq_true rfl, Nat.le_of_ble_eq_true rfl⟩, hts _ tw_1836, hts _ tp_96⟩ ⟨gblind, va_recv hK hPc (ci := 12) (q0 := 0) rfl rfl, (gpreS hPc hK hDc hN).2⟩ rfl rfl hl.1 rfl (lv_room (Nat.le_of_ble_eq_true rfl)) dX12_apartOf_45 ⟨Nat.le_of_ble_eq_true rfl, Nat.le_of_ble_eq_true rfl⟩) (fun r_9 u_8 H locs hw_10 hP hD hS => ?_)
          replace hP : va_P D gcl (zS_17 cB cC cI cJ a0 a1 x2 x3 x4 x5 x6 x7 x8 x9 a2 a3 a4 a5 a6 a7 a8 a9 a10 a11 a12 a13 a14 a15 a16 x10 x11 x12 x13 x14 x15 a17 a18 a19 x16 a20 x17 a21 x18 x19 a22 a23 a24 a25 x20 a26 x21 a27 a28 a29 y0 a30 a31 a32 a33 a34 a35 a36 a37 a38 x22 x23 x24 y1 a39 x25 a40 a41 a42 a43 x26 x27 x28 x29 a18 f0 a19 f1 a29 f_3) H := hP
          replace hD : va_D A (zS_17 cB cC cI cJ a0 a1 x2 x3 x4 x5 x6 x7 x8 x9 a2 a3 a4 a5 a6 a7 a8 a9 a10 a11 a12 a13 a14 a15 a16 x10 x11 x12 x13 x14 x15 a17 a18 a19 x16 a20 x17 a21 x18 x19 a22 a23 a24 a25 x20 a26 x21 a27 a28 a29 y0 a30 a31 a32 a33 a34 a35 a36 a37 a38 x22 x23 x24 y1 a39 x25 a40 a41 a42 a43 x26 x27 x28 x29 a18 f0 a19 f1 a29 f_3) := hD
          have hw_11 : (r_9 = qW (fun r_9 : Nat => (0 : Int32) - sW (tM9 f0 (r_9 : Int)) f_3 (x11.toInt).toNat) (x12.toInt).toNat) := hw_10
          have kk0_r_9 := tI_0
          have rr_9 := n_rngL r_9
          have hP9 : va_P D gcl (zS_17 cB cC cI cJ a0 a1 x2 x3 x4 x5 x6 x7 x8 x9 a2 a3 a4 a5 a6 a7 a8 a9 a10 a11 a12 a13 a14 a15 a16 x10 x11 x12 x13 x14 x15 a17 a18 a19 x16 a20 x17 a21 x18 x19 a22 a23 a24 a25 x20 a26 x21 a27 a28 a29 y0 a30 a31 a32 a33 a34 a35 a36 a37 a38 x22 x23 x24 y1 a39 x25 a40 a41 a42 a43 x26 x27 x28 x29 a18 f0 a19 f1 a29 f_3) H := g_psub hP [0, 1, 2, 3] rfl
          have hD9 : va_D A (zS_17 cB cC cI cJ a0 a1 x2 x3 x4 x5 x6 x7 x8 x9 a2 a3 a4 a5 a6 a7 a8 a9 a10 a11 a12 a13 a14 a15 a16 x10 x11 x12 x13 x14 x15 a17 a18 a19 x16 a20 x17 a21 x18 x19 a22 a23 a24 a25 x20 a26 x21 a27 a28 a29 y0 a30 a31 a32 a33 a34 a35 a36 a37 a38 x22 x23 x24 y1 a39 x25 a40 a41 a42 a43 x26 x27 x28 x29 a18 f0 a19 f1 a29 f_3) := hD.sub [0, 1, 2, 3] (by decide) rfl
          exact hret r_9 ((fun _ => 0), (fun k => [f_3].getD k (fun _ => 0)), (fun _ => (fun _ => 0)), (fun _ => 0), (fun _ => 0)) dX12_apartOf_48 (show r_9 = pM9 f0 f1 x11.toInt x12.toInt x0.toInt x1.toInt from pM_of hw_11 hi_5 (by first | exact (om_1177 c_7) | ((first | omega | (unfold zBd at *; omega))))) hP9 hD9 hS
      ·
        as_aux_lemma =>
          refine lv_aload_n (pc := 10) hx hb dX12_apartOf_10 rfl (lv_at hl 1 rfl) ?_
          refine va_get (pc := 11) (ci := 12) (v := .ref a29) (C := RX12) (T := TX12) (N := 73) hx hb hts iX12 hown hK hP 0 rfl rfl 48 (by decide) (hts _ tw_1449) (fun _ h9 => h9) rfl dX12_apartOf_11 ?_
          refine lv_iload_n (pc := 14) hx hb dX12_apartOf_14 rfl (lv_at hl 0 rfl) ?_
          refine lv_aload_n (pc := 15) hx hb dX12_apartOf_15 rfl (lv_at hl 1 rfl) ?_
          refine va_get (pc := 16) (ci := 12) (v := .ref a19) (C := RX12) (T := TX12) (N := 73) hx hb hts iX12 hown hK hP 0 rfl rfl 32 (by decide) (hts _ tw_1433) (fun _ h9 => h9) rfl dX12_apartOf_16 ?_
          refine lv_iconst (pc := 19) (v := 5) hx hb dX12_apartOf_19 (by decide) ?_
          refine lv_iload_n (pc := 20) hx hb dX12_apartOf_20 rfl (lv_at hl 2 rfl) ?_
          refine b_imul (pc := 21) hx hb tI_5 rfl (by first | exact (om_941 hp1.1) | ((first | omega | (unfold zBd at *; omega)))) (by first | exact (om_1767 hp1.2) | ((first | omega | (unfold zBd at *; omega)))) dX12_apartOf_21 (fun x_12 ex_12 => ?_)
          refine lv_iload_n (pc := 22) hx hb dX12_apartOf_22 rfl (lv_at hl 0 rfl) ?_
          refine b_iadd (pc := 23) hx hb rfl rfl (by first | exact (om_1529 ex_12 hi_2.1 hp1.1) | ((first | omega | (unfold zBd at *; omega)))) (by first | exact (om_1768 ex_12 hi_2.2 hp1.2) | ((first | omega | (unfold zBd at *; omega)))) dX12_apartOf_23 (fun x_13 ex_13 => ?_)
          as_aux_lemma =>
            refine va_iald (pc := 24) hx hb hK hP 2 2 rfl rfl (n_in rfl (by first | exact (om_1531 ex_13 ex_12 hi_2.1 hp1.1) | ((first | omega | (unfold zBd at *; omega)))) (by first | exact (om_1769 ex_13 ex_12 hi_2.2 hp1.2) | ((first | omega | (unfold zBd at *; omega))))) dX12_apartOf_24 ?_
            refine lv_topi (fun x_14 ex_14 => ?_)
            have rx_14 : ((-9999) ≤ x_14.toInt ∧ x_14.toInt ≤ 9999) := by rw [ex_14]; exact hf_f1 _
            replace ex_14 : x_14 = f1 (x_13.toInt).toNat := ex_14
            have tx_14 := congrArg Int32.toInt ex_14
            refine lv_aload_n (pc := 25) hx hb dX12_apartOf_25 rfl (lv_at hl 1 rfl) ?_
            refine va_get (pc := 26) (ci := 12) (v := .ref a19) (C := RX12) (T := TX12) (N := 73) hx hb hts iX12 hown hK hP 0 rfl rfl 32 (by decide) (hts _ tw_1433) (fun _ h9 => h9) rfl dX12_apartOf_26 ?_
            refine lv_iconst (pc := 29) (v := 5) hx hb dX12_apartOf_29 (by decide) ?_
            refine lv_iload_n (pc := 30) hx hb dX12_apartOf_30 rfl (lv_at hl 3 rfl) ?_
            refine b_imul (pc := 31) hx hb tI_5 rfl (by first | exact (om_941 hp2.1) | ((first | omega | (unfold zBd at *; omega)))) (by first | exact (om_1767 hp2.2) | ((first | omega | (unfold zBd at *; omega)))) dX12_apartOf_31 (fun x_15 ex_15 => ?_)
            refine lv_iload_n (pc := 32) hx hb dX12_apartOf_32 rfl (lv_at hl 0 rfl) ?_
            refine b_iadd (pc := 33) hx hb rfl rfl (by first | exact (om_1529 ex_15 hi_2.1 hp2.1) | ((first | omega | (unfold zBd at *; omega)))) (by first | exact (om_1768 ex_15 hi_2.2 hp2.2) | ((first | omega | (unfold zBd at *; omega)))) dX12_apartOf_33 (fun x_16 ex_16 => ?_)
            refine va_iald (pc := 34) hx hb hK hP 2 2 rfl rfl (n_in rfl (by first | exact (om_1531 ex_16 ex_15 hi_2.1 hp2.1) | ((first | omega | (unfold zBd at *; omega)))) (by first | exact (om_1769 ex_16 ex_15 hi_2.2 hp2.2) | ((first | omega | (unfold zBd at *; omega))))) dX12_apartOf_34 ?_
            as_aux_lemma =>
              refine lv_topi (fun x_17 ex_17 => ?_)
              have rx_17 : ((-9999) ≤ x_17.toInt ∧ x_17.toInt ≤ 9999) := by rw [ex_17]; exact hf_f1 _
              replace ex_17 : x_17 = f1 (x_16.toInt).toNat := ex_17
              have tx_17 := congrArg Int32.toInt ex_17
              refine lv_isub (pc := 35) hx hb dX12_apartOf_35 ?_
              refine lv_topi (fun x_18 ex_18 => ?_)
              have rx_18 : zBd x_18.toInt (-2147483648) 2147483647 := n_rng x_18
              refine e_iastore (pc := 36) hx hb hK hP hD hS 3 2 rfl rfl (n_in rfl (by first | exact (om_0 hi_2.1) | ((first | omega | (unfold zBd at *; omega)))) (by first | exact (om_1020 c_7 h_x11.2) | ((first | omega | (unfold zBd at *; omega))))) dX12_apartOf_36 (fun f_19 ef_19 H locs hP hD hS => ?_)
              replace hP : va_P D gcl (zS_17 cB cC cI cJ a0 a1 x2 x3 x4 x5 x6 x7 x8 x9 a2 a3 a4 a5 a6 a7 a8 a9 a10 a11 a12 a13 a14 a15 a16 x10 x11 x12 x13 x14 x15 a17 a18 a19 x16 a20 x17 a21 x18 x19 a22 a23 a24 a25 x20 a26 x21 a27 a28 a29 y0 a30 a31 a32 a33 a34 a35 a36 a37 a38 x22 x23 x24 y1 a39 x25 a40 a41 a42 a43 x26 x27 x28 x29 a18 f0 a19 f1 a29 f_19) H := hP
              replace hD : va_D A (zS_17 cB cC cI cJ a0 a1 x2 x3 x4 x5 x6 x7 x8 x9 a2 a3 a4 a5 a6 a7 a8 a9 a10 a11 a12 a13 a14 a15 a16 x10 x11 x12 x13 x14 x15 a17 a18 a19 x16 a20 x17 a21 x18 x19 a22 a23 a24 a25 x20 a26 x21 a27 a28 a29 y0 a30 a31 a32 a33 a34 a35 a36 a37 a38 x22 x23 x24 y1 a39 x25 a40 a41 a42 a43 x26 x27 x28 x29 a18 f0 a19 f1 a29 f_19) := hD
              refine b_iinc (pc := 37) hx hb dX12_apartOf_37 hl (k := 0) rfl rfl tI_1 (by first | exact (om_2 hi_2.1) | ((first | omega | (unfold zBd at *; omega)))) (by first | exact (om_357 hi_2.2) | ((first | omega | (unfold zBd at *; omega)))) (by decide) (fun x_20 ex_20 ls hl => ?_)
              replace hl : lv_has ls 4 [(3, .int x_20), (0, .ref a0), (1, .int x0), (2, .int x1)] := hl
              refine lv_goto (pc := 40) (tgt := 2) hx hb dX12_apartOf_40 (by decide) ?_
              exact ih_lp_6 x_20 f_19 _ _ ls (by first | exact (om_1026 ex_20 hi_2.1 c_7 h_x11.2) | ((first | omega | (unfold zBd at *; omega)))) (by first | exact (om_40 ex_20 c_7) | ((first | omega | (unfold zBd at *; omega)))) (df_step hi_5 ex_14 (by first | exact (om_1777 ex_13 ex_12) | ((first | omega | (unfold zBd at *; omega)))) ex_17 (by first | exact (om_1777 ex_16 ex_15) | ((first | omega | (unfold zBd at *; omega)))) ex_18 ef_19 (by (first | omega | (unfold zBd at *; omega))) (by first | exact (om_0 hi_2.1) | ((first | omega | (unfold zBd at *; omega)))) (by first | exact (om_5 ex_20) | ((first | omega | (unfold zBd at *; omega))))) (by (first | omega | (unfold zBd at *; omega))) hP hD hS (lv_sub hl [0, 1, 2, 3] rfl)
  exact lp_6 _ 0 f2 _ _ ls (n_c tI_0 (by decide)) (by have q := tI_0; (first | omega | (unfold zBd at *; omega))) (df_0 (by first | exact (om_43 tI_0) | (have q := tI_0; (first | omega | (unfold zBd at *; omega))))) (Nat.lt_succ_self _) hP hD hS (lv_sub hl [0, 1, 2, 3] rfl)
theorem om_1778 {a : Int} (h0 : (¬ a = 3)) : (¬ (a = 3)) := by omega
theorem om_1779 {a b : Int} (h0 : (a = 1)) (h1 : (b ≥ 2)) : (0 ≤ a ∧ a ≤ 2 ∧ 2 ≤ b) := by omega
theorem om_1780 {a b c d e : Int} (h0 : (a = 1)) (h1 : (b = d)) : (a = 0 ∧ b = c ∨ a = 1 ∧ b = d ∨ a = 2 ∧ b = e) := by omega
theorem om_1781 {a b : Int} (h0 : (a = 0)) (h1 : (b ≥ 2)) : (0 ≤ a ∧ a ≤ 2 ∧ 2 ≤ b) := by omega
theorem om_1782 {a b c d : Int} (h0 : (a = 0)) : (a = 0 ∧ b = b ∨ a = 1 ∧ b = c ∨ a = 2 ∧ b = d) := by omega
theorem om_1783 {a b : Int} (h0 : (a = b + 1)) : (16 * a = 16 * (b + 1)) := by omega
theorem om_1784 {a : Int} (h0 : (a ≤ 16)) : (100 * a ≤ 2147483647) := by omega
theorem om_1785 {a b c : Int} (h0 : (a = 100 * c)) (h1 : (c < b)) (h2 : (b ≤ 16)) : (a + b ≤ 2147483647) := by omega
theorem om_1786 {a b c d : Int} (h0 : (c = d + 1)) (h1 : (b < d)) (h2 : (0 ≤ b)) (h3 : (a = 1)) : ((a ≤ 16 * b + c)) := by omega
theorem om_1787 {a b c : Int} (h0 : (a < b)) (h1 : (b < c)) (h2 : (0 ≤ a)) (h3 : (0 ≤ b)) : (a < b ∧ b < c ∧ ¬ a = -1 ∧ ¬ b = -1) := by omega
theorem om_1788 {a b c : Int} (h0 : (b = c + 1)) : (16 * a + b = 16 * a + c + 1) := by omega
theorem om_1789 {a : Int} (h0 : (a ≤ 256)) : (a + 1 ≤ 2147483647) := by omega
theorem om_1790 {a b c d e : Int} (h0 : (a = b + 1)) (h1 : (0 ≤ b)) (h2 : (b ≤ 16 * c + d)) (h3 : (d < e)) (h4 : (c < d)) (h5 : (e ≤ 16)) : ((0 ≤ a ∧ a ≤ 256)) := by omega
theorem om_1791 {a b c d e : Int} (h0 : (c = d + 1)) (h1 : (a = e + 1)) (h2 : (e ≤ 16 * b + d)) : ((a ≤ 16 * b + c)) := by omega
theorem om_1792 {a : Int} (h0 : (a = 0)) : (16 * a = 0) := by omega
theorem om_1793 {a b c : Int} (h0 : (c ≤ a)) (h1 : (c = b)) : (a < b ∧ a = b ∨ ¬ a < b ∧ a = a) := by omega
theorem om_1794 {a : Int} (h0 : (a = 3)) : (¬ (¬ a = 3)) := by omega
theorem om_1795 {a : Int} (h0 : (a ≥ 1)) : (¬ a = 0) := by omega
set_option maxHeartbeats 4000000 in
set_option maxRecDepth 100000 in
theorem k_X12_code (l : Launch) (D : va_G) (cB cC cI cJ : ClassId) (sz : Nat) (a0 a1 a2 a3 a4 a5 a6 a7 a8 a9 a10 a11 a12 a13 a14 a15 a16 a17 a18 a19 a20 a21 a22 a23 a24 a25 a26 a27 a28 a29 a30 a31 a32 a33 a34 a35 a36 a37 a38 a39 a40 a41 a42 a43 : Nat) (x0 x1 x2 x3 x4 x5 x6 x7 x8 x9 x10 x11 x12 x13 x14 x15 x16 x17 x18 x19 x20 x21 x22 x23 x24 x25 x26 x27 x28 : Int32) (y0 y1 : Int64) (f0 f1 f2 : Nat → Int32) (h_x1 : zBd x1.toInt 0 1600) (h_x2 : zBd x2.toInt 0 1600) (h_x3 : zBd x3.toInt 0 1600) (h_x4 : zBd x4.toInt (-1) 1600) (h_x5 : zBd x5.toInt 0 4) (h_x6 : zBd x6.toInt (-1) 1600) (h_x9 : zBd x9.toInt 0 8) (h_x10 : zBd x10.toInt 0 5) (h_x11 : zBd x11.toInt 0 6) (h_x12 : zBd x12.toInt 0 6) (h_x13 : zBd x13.toInt 0 16) (h_x15 : zBd x15.toInt 0 60) (h_x16 : zBd x16.toInt 0 1600) (h_x17 : zBd x17.toInt 0 1700) (h_x19 : zBd x19.toInt 0 1700) (h_x20 : zBd x20.toInt 0 1700) (h_x21 : zBd x21.toInt 0 200) (h_x22 : zBd x22.toInt 0 40) (h_x23 : zBd x23.toInt 0 40) (h_x24 : zBd x24.toInt 0 1) (h_x25 : zBd x25.toInt 0 14) (h_x26 : zBd x26.toInt 0 200) (h_x27 : zBd x27.toInt 0 40) (h_x28 : zBd x28.toInt 0 40) (hr_a0_0 : (x22.toInt ≤ x21.toInt)) (hr_a0_1 : (x21.toInt + x23.toInt ≤ 200)) (hr_a0_2 : (x10.toInt = 0 ∨ 2 ≤ x9.toInt)) (hf_f0 : (∀ j, (-9999) ≤ (f0 j).toInt ∧ (f0 j).toInt ≤ 9999)) (hf_f1 : (∀ j, (-9999) ≤ (f1 j).toInt ∧ (f1 j).toInt ≤ 9999)) : Met l yX12_code (.code yX12_code cX12_code 12 (some .long) :: lw_gd) ({ frames := 3, cells := 0, slots := 0, locals := 72 }) (gPre D [(cB, .byte), (cC, .char), (cI, .int), (cJ, .long)] [.ref a0, .int x0] (zS_17 cB cC cI cJ a0 a1 x1 x2 x3 x4 x5 x6 x7 x8 a2 a3 a4 a5 a6 a7 a8 a9 a10 a11 a12 a13 a14 a15 a16 x9 x10 x11 x12 x13 x14 a17 a18 a19 x15 a20 x16 a21 x17 x18 a22 a23 a24 a25 x19 a26 x20 a27 a28 a29 y0 a30 a31 a32 a33 a34 a35 a36 a37 a38 x21 x22 x23 y1 a39 x24 a40 a41 a42 a43 x25 x26 x27 x28 a18 f0 a19 f1 a29 f2) sz) (va_Ql (fun r u => (cdQ r.toInt x0.toInt x13.toInt (mxP (wP f1 x10.toInt) (x13.toInt).toNat) (flM (fun i j => (pM9 f0 f1 x10.toInt x11.toInt i j).toInt) x13.toInt (-1) (16 * x13.toInt).toNat))) (gB D (va_A (zS_17 cB cC cI cJ a0 a1 x1 x2 x3 x4 x5 x6 x7 x8 a2 a3 a4 a5 a6 a7 a8 a9 a10 a11 a12 a13 a14 a15 a16 x9 x10 x11 x12 x13 x14 a17 a18 a19 x15 a20 x16 a21 x17 x18 a22 a23 a24 a25 x19 a26 x20 a27 a28 a29 y0 a30 a31 a32 a33 a34 a35 a36 a37 a38 x21 x22 x23 y1 a39 x24 a40 a41 a42 a43 x25 x26 x27 x28 a18 f0 a19 f1 a29 f2) sz) (fun u : gEx => (zS_17 cB cC cI cJ a0 a1 x1 x2 x3 x4 x5 x6 x7 x8 a2 a3 a4 a5 a6 a7 a8 a9 a10 a11 a12 a13 a14 a15 a16 x9 x10 x11 x12 x13 x14 a17 a18 a19 x15 a20 x16 a21 x17 x18 a22 a23 a24 a25 x19 a26 x20 a27 a28 a29 y0 a30 a31 a32 a33 a34 a35 a36 a37 a38 x21 x22 x23 y1 a39 x24 a40 a41 a42 a43 x25 x26 x27 x28 a18 f0 a19 f1 a29 (u.2.1 0)))) (va_A (zS_17 cB cC cI cJ a0 a1 x1 x2 x3 x4 x5 x6 x7 x8 a2 a3 a4 a5 a6 a7 a8 a9 a10 a11 a12 a13 a14 a15 a16 x9 x10 x11 x12 x13 x14 a17 a18 a19 x15 a20 x16 a21 x17 x18 a22 a23 a24 a25 x19 a26 x20 a27 a28 a29 y0 a30 a31 a32 a33 a34 a35 a36 a37 a38 x21 x22 x23 y1 a39 x24 a40 a41 a42 a43 x25 x26 x27 x28 a18 f0 a19 f1 a29 f2) sz)) 0 0 (va_A (zS_17 cB cC cI cJ a0 a1 x1 x2 x3 x4 x5 x6 x7 x8 a2 a3 a4 a5 a6 a7 a8 a9 a10 a11 a12 a13 a14 a15 a16 x9 x10 x11 x12 x13 x14 a17 a18 a19 x15 a20 x16 a21 x17 x18 a22 a23 a24 a25 x19 a26 x20 a27 a28 a29 y0 a30 a31 a32 a33 a34 a35 a36 a37 a38 x21 x22 x23 y1 a39 x24 a40 a41 a42 a43 x25 x26 x27 x28 a18 f0 a19 f1 a29 f2) sz) := by
  refine gOf_l (by decide +kernel) (Nat.le_of_ble_eq_true rfl) ?_
  intro p e s m args below meth c ls A Q hx hb hts hown hml hN hK hP hD hA hl hret
  replace hown : s.vm.findClass RX12 = some m.cls := hown
  have hS : va_S A s.heap s.heap [] := va_S.rf
  replace hP : va_P D gcl (zS_17 cB cC cI cJ a0 a1 x1 x2 x3 x4 x5 x6 x7 x8 a2 a3 a4 a5 a6 a7 a8 a9 a10 a11 a12 a13 a14 a15 a16 x9 x10 x11 x12 x13 x14 a17 a18 a19 x15 a20 x16 a21 x17 x18 a22 a23 a24 a25 x19 a26 x20 a27 a28 a29 y0 a30 a31 a32 a33 a34 a35 a36 a37 a38 x21 x22 x23 y1 a39 x24 a40 a41 a42 a43 x25 x26 x27 x28 a18 f0 a19 f1 a29 f2) s.heap := hP
  replace hl : lv_has ls 12 [(0, .ref a0), (1, .int x0)] := hl
  have rx0 : zBd x0.toInt (-2147483648) 2147483647 := n_rng x0
  have rx7 : zBd x7.toInt (-2147483648) 2147483647 := n_rng x7
  have rx8 : zBd x8.toInt (-2147483648) 2147483647 := n_rng x8
  have rx14 : zBd x14.toInt (-2147483648) 2147483647 := n_rng x14
  have rx18 : zBd x18.toInt (-2147483648) 2147483647 := n_rng x18
  have ry0 := n_rngL y0
  have ry1 := n_rngL y1
  refine lv_iload_n (pc := 0) hx hb dX12_code_0 rfl (lv_at hl 1 rfl) ?_
  refine b_i2l (pc := 1) hx hb rfl dX12_code_1 (fun y_1 ey_1 => ?_)
  have ry_1 : zBd x0.toInt (-2147483648) 2147483647 := n_rng x0
  refine lv_lconst (pc := 2) (v := 0) hx hb dX12_code_2 (by decide) ?_
  refine lv_ldc2 (pc := 3) hx hb hown (hts _ tw_1988) dX12_code_3 ?_
  refine gd_i (pc := 6) (wc := []) hP hD hS hA [] rfl (by decide +kernel) (fun _ => by rfl) (fun hPc hDc => va_runS (As := [.long y_1, .long 0, .long 3]) (rest := []) ⟨hx, hb, hml, hown, hts⟩ (k_X12_isIn l D cB cC cI cJ _ y_1 0 3) ⟨gcwB hts tw_1666 tw_14 tw_1664 hd_yX12_isIn ⟨Nat.le_of_ble_eq_true rfl, Nat.le_of_ble_eq_true rfl⟩, hts _ tw_1665⟩ (gpreS hPc hK hDc hN) rfl rfl hl.1 rfl (lv_room (Nat.le_of_ble_eq_true rfl)) dX12_code_6 ⟨Nat.le_of_ble_eq_true rfl, Nat.le_of_ble_eq_true rfl⟩) (fun r_3 u_2 H locs hw_4 hP hD hS => ?_)
  replace hP : va_P D gcl (zS_17 cB cC cI cJ a0 a1 x1 x2 x3 x4 x5 x6 x7 x8 a2 a3 a4 a5 a6 a7 a8 a9 a10 a11 a12 a13 a14 a15 a16 x9 x10 x11 x12 x13 x14 a17 a18 a19 x15 a20 x16 a21 x17 x18 a22 a23 a24 a25 x19 a26 x20 a27 a28 a29 y0 a30 a31 a32 a33 a34 a35 a36 a37 a38 x21 x22 x23 y1 a39 x24 a40 a41 a42 a43 x25 x26 x27 x28 a18 f0 a19 f1 a29 f2) H := hP
  replace hD : va_D A (zS_17 cB cC cI cJ a0 a1 x1 x2 x3 x4 x5 x6 x7 x8 a2 a3 a4 a5 a6 a7 a8 a9 a10 a11 a12 a13 a14 a15 a16 x9 x10 x11 x12 x13 x14 a17 a18 a19 x15 a20 x16 a21 x17 x18 a22 a23 a24 a25 x19 a26 x20 a27 a28 a29 y0 a30 a31 a32 a33 a34 a35 a36 a37 a38 x21 x22 x23 y1 a39 x24 a40 a41 a42 a43 x25 x26 x27 x28 a18 f0 a19 f1 a29 f2) := hD
  have hw_5 : ((r_3.toInt = 0 ∧ y_1.toInt < (0 : Int64).toInt) ∨ (r_3.toInt = 0 ∧ y_1.toInt ≥ (0 : Int64).toInt ∧ y_1.toInt > (3 : Int64).toInt) ∨ (r_3.toInt = 1 ∧ y_1.toInt ≥ (0 : Int64).toInt ∧ y_1.toInt ≤ (3 : Int64).toInt)) := hw_4
  have kk0_r_3 := tL_0
  have kk1_r_3 := tL_3
  have rr_3 : zBd r_3.toInt (-2147483648) 2147483647 := n_rng r_3
  refine b_if_eq (pc := 9) (tgt := 29) hx hb rfl  dX12_code_9 (by decide) (fun c_6 => ?_) (fun c_6 => ?_)
  ·
    as_aux_lemma =>
      refine lv_ldc2 (pc := 29) hx hb hown (hts _ tw_1838) dX12_code_29 ?_
      have hP9 : va_P D gcl (zS_17 cB cC cI cJ a0 a1 x1 x2 x3 x4 x5 x6 x7 x8 a2 a3 a4 a5 a6 a7 a8 a9 a10 a11 a12 a13 a14 a15 a16 x9 x10 x11 x12 x13 x14 a17 a18 a19 x15 a20 x16 a21 x17 x18 a22 a23 a24 a25 x19 a26 x20 a27 a28 a29 y0 a30 a31 a32 a33 a34 a35 a36 a37 a38 x21 x22 x23 y1 a39 x24 a40 a41 a42 a43 x25 x26 x27 x28 a18 f0 a19 f1 a29 f2) H := g_psub hP [0, 1, 2, 3] rfl
      have hD9 : va_D A (zS_17 cB cC cI cJ a0 a1 x1 x2 x3 x4 x5 x6 x7 x8 a2 a3 a4 a5 a6 a7 a8 a9 a10 a11 a12 a13 a14 a15 a16 x9 x10 x11 x12 x13 x14 a17 a18 a19 x15 a20 x16 a21 x17 x18 a22 a23 a24 a25 x19 a26 x20 a27 a28 a29 y0 a30 a31 a32 a33 a34 a35 a36 a37 a38 x21 x22 x23 y1 a39 x24 a40 a41 a42 a43 x25 x26 x27 x28 a18 f0 a19 f1 a29 f2) := hD.sub [0, 1, 2, 3] (by decide) rfl
      have k9 := tL_m1
      exact hret (-1) ((fun _ => 0), (fun k => [f2].getD k (fun _ => 0)), (fun _ => (fun _ => 0)), (fun _ => 0), (fun _ => 0)) dX12_code_32 (show cdQ ((-1) : Int64).toInt x0.toInt x13.toInt (mxP (wP f1 x10.toInt) (x13.toInt).toNat) (flM (fun i j => (pM9 f0 f1 x10.toInt x11.toInt i j).toInt) x13.toInt (-1) (16 * x13.toInt).toNat) from (by first | exact cd_no3 (by (first | omega | (unfold zBd at *; omega))) (by (first | omega | (unfold zBd at *; omega))) (by (first | omega | (unfold zBd at *; omega))) | exact cd_no (by (first | omega | (unfold zBd at *; omega))) (by (first | omega | (unfold zBd at *; omega))) (by (first | omega | (unfold zBd at *; omega))))) hP9 hD9 hS
  ·
    as_aux_lemma =>
      refine lv_aload_n (pc := 12) hx hb dX12_code_12 rfl (lv_at hl 0 rfl) ?_
      refine va_get (pc := 13) (ci := 12) (v := .int x13) (C := RX12) (T := TX12) (N := 73) hx hb hts iX12 hown hK hP 0 rfl rfl 28 (by decide) (hts _ tw_1429) (fun _ h9 => h9) rfl dX12_code_13 ?_
      have bd_h_x13 : 0 ≤ x13.toInt ∧ x13.toInt ≤ 16 := h_x13
      refine lv_iload_n (pc := 16) hx hb dX12_code_16 rfl (lv_at hl 1 rfl) ?_
      refine lv_iconst (pc := 17) (v := 3) hx hb dX12_code_17 (by decide) ?_
      refine b_icmp_ne (pc := 18) (tgt := 25) hx hb rfl tI_3  dX12_code_18 (by decide) (fun c_7 => ?_) (fun c_7 => ?_)
      ·
        as_aux_lemma =>
          refine lv_iconst (pc := 25) (v := 2) hx hb dX12_code_25 (by decide) ?_
          refine b_icmp_ge (pc := 26) (tgt := 33) hx hb rfl tI_2  dX12_code_26 (by decide) (fun c_8 => ?_) (fun c_8 => ?_)
          ·
            as_aux_lemma =>
              refine lv_lconst (pc := 33) (v := 0) hx hb dX12_code_33 (by decide) ?_
              refine lv_lstore_n (pc := 34) (lv' := [(2, .long 0), (0, .ref a0), (1, .int x0)]) hx hb dX12_code_34 rfl hl (by decide) rfl (fun ls hl => ?_)
              refine lv_iconst (pc := 35) (v := 0) hx hb dX12_code_35 (by decide) ?_
              refine lv_istore (pc := 36) (lv' := [(4, .int 0), (2, .long 0), (0, .ref a0), (1, .int x0)]) hx hb dX12_code_36 hl (by decide) rfl (fun ls hl => ?_)
              have lp_15 : ∀ (n : Nat) (x_9 : Int32) (y_11 : Int64) (H : Heap) (locs : List Loc) (ls : Array Slot), (0 ≤ x_9.toInt ∧ x_9.toInt ≤ 16) → (x_9.toInt ≤ x13.toInt) → (y_11.toInt = mxP (wP f1 x10.toInt) (x_9.toInt).toNat) → (2147483647 - x_9.toInt).toNat < n → va_P D gcl (zS_17 cB cC cI cJ a0 a1 x1 x2 x3 x4 x5 x6 x7 x8 a2 a3 a4 a5 a6 a7 a8 a9 a10 a11 a12 a13 a14 a15 a16 x9 x10 x11 x12 x13 x14 a17 a18 a19 x15 a20 x16 a21 x17 x18 a22 a23 a24 a25 x19 a26 x20 a27 a28 a29 y0 a30 a31 a32 a33 a34 a35 a36 a37 a38 x21 x22 x23 y1 a39 x24 a40 a41 a42 a43 x25 x26 x27 x28 a18 f0 a19 f1 a29 f2) H → va_D A (zS_17 cB cC cI cJ a0 a1 x1 x2 x3 x4 x5 x6 x7 x8 a2 a3 a4 a5 a6 a7 a8 a9 a10 a11 a12 a13 a14 a15 a16 x9 x10 x11 x12 x13 x14 a17 a18 a19 x15 a20 x16 a21 x17 x18 a22 a23 a24 a25 x19 a26 x20 a27 a28 a29 y0 a30 a31 a32 a33 a34 a35 a36 a37 a38 x21 x22 x23 y1 a39 x24 a40 a41 a42 a43 x25 x26 x27 x28 a18 f0 a19 f1 a29 f2) → va_S A s.heap H locs → lv_has ls 12 [(4, .int x_9), (2, .long y_11), (0, .ref a0), (1, .int x0)] → W p l e ({ frames := 3, cells := 0, slots := 0, locals := 72 }) s m args below meth c H locs 0 0 Q (F0 m 38 ls []) := by
                intro n
                induction n with
                | zero => intro x_9 y_11 H locs ls hi_10 hi_13 hi_14 hmu; exact absurd hmu (Nat.not_lt_zero _)
                | succ n ih_lp_15 =>
                  intro x_9 y_11 H locs ls hi_10 hi_13 hi_14 hmu_lp_15 hP hD hS hl
                  have hi_12 := n_rngL y_11
                  refine lv_iload (pc := 38) hx hb dX12_code_38 (lv_at hl 0 rfl) ?_
                  refine lv_aload_n (pc := 40) hx hb dX12_code_40 rfl (lv_at hl 2 rfl) ?_
                  refine va_get (pc := 41) (ci := 12) (v := .int x13) (C := RX12) (T := TX12) (N := 73) hx hb hts iX12 hown hK hP 0 rfl rfl 28 (by decide) (hts _ tw_1429) (fun _ h9 => h9) rfl dX12_code_41 ?_
                  refine b_icmp_ge (pc := 44) (tgt := 73) hx hb rfl rfl  dX12_code_44 (by decide) (fun c_16 => ?_) (fun c_16 => ?_)
                  ·
                    as_aux_lemma =>
                      refine lv_iload_n (pc := 73) hx hb dX12_code_73 rfl (lv_at hl 3 rfl) ?_
                      refine lv_iconst (pc := 74) (v := 3) hx hb dX12_code_74 (by decide) ?_
                      refine b_icmp_ne (pc := 75) (tgt := 80) hx hb rfl tI_3  dX12_code_75 (by decide) (fun c_17 => ?_) (fun c_17 => absurd c_17 (by first | exact (om_1778 c_7) | ((first | omega | (unfold zBd at *; omega)))))
                      refine lv_ldc2 (pc := 80) hx hb hown (hts _ tw_1838) dX12_code_80 ?_
                      refine lv_lstore (pc := 83) (lv' := [(4, .long (-1)), (2, .long y_11), (0, .ref a0), (1, .int x0)]) hx hb dX12_code_83 hl (by decide) rfl (fun ls hl => ?_)
                      refine lv_iconst (pc := 85) (v := 0) hx hb dX12_code_85 (by decide) ?_
                      refine lv_istore (pc := 86) (lv' := [(6, .int 0), (4, .long (-1)), (2, .long y_11), (0, .ref a0), (1, .int x0)]) hx hb dX12_code_86 hl (by decide) rfl (fun ls hl => ?_)
                      refine lv_iconst (pc := 88) (v := 0) hx hb dX12_code_88 (by decide) ?_
                      refine lv_istore (pc := 89) (lv' := [(7, .int 0), (6, .int 0), (4, .long (-1)), (2, .long y_11), (0, .ref a0), (1, .int x0)]) hx hb dX12_code_89 hl (by decide) rfl (fun ls hl => ?_)
                      refine lv_iconst (pc := 91) (v := 0) hx hb dX12_code_91 (by decide) ?_
                      as_aux_lemma =>
                        refine lv_istore (pc := 92) (lv' := [(8, .int 0), (7, .int 0), (6, .int 0), (4, .long (-1)), (2, .long y_11), (0, .ref a0), (1, .int x0)]) hx hb dX12_code_92 hl (by decide) rfl (fun ls hl => ?_)
                        have lp_30 : ∀ (n : Nat) (x_18 x_20 x_22 : Int32) (y_24 : Int64) (f_26 : Nat → Int32) (H : Heap) (locs : List Loc) (ls : Array Slot), (0 ≤ x_18.toInt ∧ x_18.toInt ≤ 16) → (0 ≤ x_22.toInt ∧ x_22.toInt ≤ 256) → (x_18.toInt ≤ x13.toInt) → (x_22.toInt ≤ 16 * x_18.toInt) → (flE (flM (fun i j => (pM9 f0 f1 x10.toInt x11.toInt i j).toInt) x13.toInt (-1)) y_24.toInt x_22.toInt x_20.toInt (16 * x_18.toInt)) → (2147483647 - x_18.toInt).toNat < n → va_P D gcl (zS_17 cB cC cI cJ a0 a1 x1 x2 x3 x4 x5 x6 x7 x8 a2 a3 a4 a5 a6 a7 a8 a9 a10 a11 a12 a13 a14 a15 a16 x9 x10 x11 x12 x13 x14 a17 a18 a19 x15 a20 x16 a21 x17 x18 a22 a23 a24 a25 x19 a26 x20 a27 a28 a29 y0 a30 a31 a32 a33 a34 a35 a36 a37 a38 x21 x22 x23 y1 a39 x24 a40 a41 a42 a43 x25 x26 x27 x28 a18 f0 a19 f1 a29 f_26) H → va_D A (zS_17 cB cC cI cJ a0 a1 x1 x2 x3 x4 x5 x6 x7 x8 a2 a3 a4 a5 a6 a7 a8 a9 a10 a11 a12 a13 a14 a15 a16 x9 x10 x11 x12 x13 x14 a17 a18 a19 x15 a20 x16 a21 x17 x18 a22 a23 a24 a25 x19 a26 x20 a27 a28 a29 y0 a30 a31 a32 a33 a34 a35 a36 a37 a38 x21 x22 x23 y1 a39 x24 a40 a41 a42 a43 x25 x26 x27 x28 a18 f0 a19 f1 a29 f_26) → va_S A s.heap H locs → lv_has ls 12 [(8, .int x_18), (7, .int x_20), (6, .int x_22), (4, .long y_24), (2, .long y_11), (0, .ref a0), (1, .int x0)] → W p l e ({ frames := 3, cells := 0, slots := 0, locals := 72 }) s m args below meth c H locs 0 0 Q (F0 m 94 ls []) := by
                          intro n
                          induction n with
                          | zero => intro x_18 x_20 x_22 y_24 f_26 H locs ls hi_19 hi_23 hi_27 hi_28 hi_29 hmu; exact absurd hmu (Nat.not_lt_zero _)
                          | succ n ih_lp_30 =>
                            intro x_18 x_20 x_22 y_24 f_26 H locs ls hi_19 hi_23 hi_27 hi_28 hi_29 hmu_lp_30 hP hD hS hl
                            have hi_21 := n_rng x_20
                            have hi_25 := n_rngL y_24
                            refine lv_iload (pc := 94) hx hb dX12_code_94 (lv_at hl 0 rfl) ?_
                            refine lv_aload_n (pc := 96) hx hb dX12_code_96 rfl (lv_at hl 5 rfl) ?_
                            refine va_get (pc := 97) (ci := 12) (v := .int x13) (C := RX12) (T := TX12) (N := 73) hx hb hts iX12 hown hK hP 0 rfl rfl 28 (by decide) (hts _ tw_1429) (fun _ h9 => h9) rfl dX12_code_97 ?_
                            refine b_icmp_ge (pc := 100) (tgt := 183) hx hb rfl rfl  dX12_code_100 (by decide) (fun c_31 => ?_) (fun c_31 => ?_)
                            ·
                              as_aux_lemma =>
                                refine lv_iload_n (pc := 183) hx hb dX12_code_183 rfl (lv_at hl 6 rfl) ?_
                                refine b_if_ne (pc := 184) (tgt := 192) hx hb rfl  dX12_code_184 (by decide) (fun c_32 => ?_) (fun c_32 => ?_)
                                ·
                                  as_aux_lemma =>
                                    refine lv_iload_n (pc := 192) hx hb dX12_code_192 rfl (lv_at hl 6 rfl) ?_
                                    refine lv_iconst (pc := 193) (v := 1) hx hb dX12_code_193 (by decide) ?_
                                    refine b_icmp_ne (pc := 194) (tgt := 203) hx hb rfl tI_1  dX12_code_194 (by decide) (fun c_33 => ?_) (fun c_33 => ?_)
                                    ·
                                      as_aux_lemma =>
                                        refine lv_iload (pc := 203) hx hb dX12_code_203 (lv_at hl 1 rfl) ?_
                                        refine b_i2l (pc := 205) hx hb rfl dX12_code_205 (fun y_34 ey_34 => ?_)
                                        have ry_34 : zBd x_20.toInt (-2147483648) 2147483647 := n_rng x_20
                                        have hP9 : va_P D gcl (zS_17 cB cC cI cJ a0 a1 x1 x2 x3 x4 x5 x6 x7 x8 a2 a3 a4 a5 a6 a7 a8 a9 a10 a11 a12 a13 a14 a15 a16 x9 x10 x11 x12 x13 x14 a17 a18 a19 x15 a20 x16 a21 x17 x18 a22 a23 a24 a25 x19 a26 x20 a27 a28 a29 y0 a30 a31 a32 a33 a34 a35 a36 a37 a38 x21 x22 x23 y1 a39 x24 a40 a41 a42 a43 x25 x26 x27 x28 a18 f0 a19 f1 a29 f_26) H := g_psub hP [0, 1, 2, 3] rfl
                                        have hD9 : va_D A (zS_17 cB cC cI cJ a0 a1 x1 x2 x3 x4 x5 x6 x7 x8 a2 a3 a4 a5 a6 a7 a8 a9 a10 a11 a12 a13 a14 a15 a16 x9 x10 x11 x12 x13 x14 a17 a18 a19 x15 a20 x16 a21 x17 x18 a22 a23 a24 a25 x19 a26 x20 a27 a28 a29 y0 a30 a31 a32 a33 a34 a35 a36 a37 a38 x21 x22 x23 y1 a39 x24 a40 a41 a42 a43 x25 x26 x27 x28 a18 f0 a19 f1 a29 f_26) := hD.sub [0, 1, 2, 3] (by decide) rfl
                                        exact hret y_34 ((fun _ => 0), (fun k => [f_26].getD k (fun _ => 0)), (fun _ => (fun _ => 0)), (fun _ => 0), (fun _ => 0)) dX12_code_206 (show cdQ y_34.toInt x0.toInt x13.toInt (mxP (wP f1 x10.toInt) (x13.toInt).toNat) (flM (fun i j => (pM9 f0 f1 x10.toInt x11.toInt i j).toInt) x13.toInt (-1) (16 * x13.toInt).toNat) from cd_yes (flE_end hi_29 (by first | exact (om_0 hi_19.1) | ((first | omega | (unfold zBd at *; omega)))) (by first | exact (om_503 c_31) | ((first | omega | (unfold zBd at *; omega)))) (by first | exact (om_1536 hi_27) | ((first | omega | (unfold zBd at *; omega)))) rfl) (by (first | omega | (unfold zBd at *; omega))) (by (first | omega | (unfold zBd at *; omega)))) hP9 hD9 hS
                                    ·
                                      as_aux_lemma =>
                                        refine lv_iload (pc := 197) hx hb dX12_code_197 (lv_at hl 2 rfl) ?_
                                        refine b_i2l (pc := 199) hx hb rfl dX12_code_199 (fun y_35 ey_35 => ?_)
                                        have ry_35 : zBd x_22.toInt (-2147483648) 2147483647 := n_rng x_22
                                        refine lv_goto (pc := 200) (tgt := 206) hx hb dX12_code_200 (by decide) ?_
                                        have hP9 : va_P D gcl (zS_17 cB cC cI cJ a0 a1 x1 x2 x3 x4 x5 x6 x7 x8 a2 a3 a4 a5 a6 a7 a8 a9 a10 a11 a12 a13 a14 a15 a16 x9 x10 x11 x12 x13 x14 a17 a18 a19 x15 a20 x16 a21 x17 x18 a22 a23 a24 a25 x19 a26 x20 a27 a28 a29 y0 a30 a31 a32 a33 a34 a35 a36 a37 a38 x21 x22 x23 y1 a39 x24 a40 a41 a42 a43 x25 x26 x27 x28 a18 f0 a19 f1 a29 f_26) H := g_psub hP [0, 1, 2, 3] rfl
                                        have hD9 : va_D A (zS_17 cB cC cI cJ a0 a1 x1 x2 x3 x4 x5 x6 x7 x8 a2 a3 a4 a5 a6 a7 a8 a9 a10 a11 a12 a13 a14 a15 a16 x9 x10 x11 x12 x13 x14 a17 a18 a19 x15 a20 x16 a21 x17 x18 a22 a23 a24 a25 x19 a26 x20 a27 a28 a29 y0 a30 a31 a32 a33 a34 a35 a36 a37 a38 x21 x22 x23 y1 a39 x24 a40 a41 a42 a43 x25 x26 x27 x28 a18 f0 a19 f1 a29 f_26) := hD.sub [0, 1, 2, 3] (by decide) rfl
                                        exact hret y_35 ((fun _ => 0), (fun k => [f_26].getD k (fun _ => 0)), (fun _ => (fun _ => 0)), (fun _ => 0), (fun _ => 0)) dX12_code_206 (show cdQ y_35.toInt x0.toInt x13.toInt (mxP (wP f1 x10.toInt) (x13.toInt).toNat) (flM (fun i j => (pM9 f0 f1 x10.toInt x11.toInt i j).toInt) x13.toInt (-1) (16 * x13.toInt).toNat) from cd_yes (flE_end hi_29 (by first | exact (om_0 hi_19.1) | ((first | omega | (unfold zBd at *; omega)))) (by first | exact (om_503 c_31) | ((first | omega | (unfold zBd at *; omega)))) (by first | exact (om_1536 hi_27) | ((first | omega | (unfold zBd at *; omega)))) rfl) (by first | exact (om_1779 c_33 c_8) | ((first | omega | (unfold zBd at *; omega)))) (by first | exact (om_1780 c_33 ey_35) | ((first | omega | (unfold zBd at *; omega))))) hP9 hD9 hS
                                ·
                                  as_aux_lemma =>
                                    refine lv_lload (pc := 187) hx hb dX12_code_187 (lv_at hl 3 rfl) ?_
                                    refine lv_goto (pc := 189) (tgt := 206) hx hb dX12_code_189 (by decide) ?_
                                    have hP9 : va_P D gcl (zS_17 cB cC cI cJ a0 a1 x1 x2 x3 x4 x5 x6 x7 x8 a2 a3 a4 a5 a6 a7 a8 a9 a10 a11 a12 a13 a14 a15 a16 x9 x10 x11 x12 x13 x14 a17 a18 a19 x15 a20 x16 a21 x17 x18 a22 a23 a24 a25 x19 a26 x20 a27 a28 a29 y0 a30 a31 a32 a33 a34 a35 a36 a37 a38 x21 x22 x23 y1 a39 x24 a40 a41 a42 a43 x25 x26 x27 x28 a18 f0 a19 f1 a29 f_26) H := g_psub hP [0, 1, 2, 3] rfl
                                    have hD9 : va_D A (zS_17 cB cC cI cJ a0 a1 x1 x2 x3 x4 x5 x6 x7 x8 a2 a3 a4 a5 a6 a7 a8 a9 a10 a11 a12 a13 a14 a15 a16 x9 x10 x11 x12 x13 x14 a17 a18 a19 x15 a20 x16 a21 x17 x18 a22 a23 a24 a25 x19 a26 x20 a27 a28 a29 y0 a30 a31 a32 a33 a34 a35 a36 a37 a38 x21 x22 x23 y1 a39 x24 a40 a41 a42 a43 x25 x26 x27 x28 a18 f0 a19 f1 a29 f_26) := hD.sub [0, 1, 2, 3] (by decide) rfl
                                    exact hret y_24 ((fun _ => 0), (fun k => [f_26].getD k (fun _ => 0)), (fun _ => (fun _ => 0)), (fun _ => 0), (fun _ => 0)) dX12_code_206 (show cdQ y_24.toInt x0.toInt x13.toInt (mxP (wP f1 x10.toInt) (x13.toInt).toNat) (flM (fun i j => (pM9 f0 f1 x10.toInt x11.toInt i j).toInt) x13.toInt (-1) (16 * x13.toInt).toNat) from cd_yes (flE_end hi_29 (by first | exact (om_0 hi_19.1) | ((first | omega | (unfold zBd at *; omega)))) (by first | exact (om_503 c_31) | ((first | omega | (unfold zBd at *; omega)))) (by first | exact (om_1536 hi_27) | ((first | omega | (unfold zBd at *; omega)))) rfl) (by first | exact (om_1781 c_32 c_8) | ((first | omega | (unfold zBd at *; omega)))) (by first | exact (om_1782 c_32) | ((first | omega | (unfold zBd at *; omega))))) hP9 hD9 hS
                            ·
                              as_aux_lemma =>
                                refine lv_iload (pc := 103) hx hb dX12_code_103 (lv_at hl 0 rfl) ?_
                                refine lv_iconst (pc := 105) (v := 1) hx hb dX12_code_105 (by decide) ?_
                                refine b_iadd (pc := 106) hx hb rfl tI_1 (by first | exact (om_2 hi_19.1) | ((first | omega | (unfold zBd at *; omega)))) (by first | exact (om_940 hi_19.2) | ((first | omega | (unfold zBd at *; omega)))) dX12_code_106 (fun x_36 ex_36 => ?_)
                                refine lv_istore (pc := 107) (lv' := [(9, .int x_36), (8, .int x_18), (7, .int x_20), (6, .int x_22), (4, .long y_24), (2, .long y_11), (0, .ref a0), (1, .int x0)]) hx hb dX12_code_107 hl (by decide) rfl (fun ls hl => ?_)
                                have lp_49 : ∀ (n : Nat) (x_37 x_39 x_41 : Int32) (y_43 : Int64) (f_45 : Nat → Int32) (H : Heap) (locs : List Loc) (ls : Array Slot), (0 ≤ x_37.toInt ∧ x_37.toInt ≤ 16) → (0 ≤ x_41.toInt ∧ x_41.toInt ≤ 256) → (x_18.toInt < x_37.toInt ∧ (x_37.toInt ≤ x13.toInt ∨ x_37.toInt = x_18.toInt + 1)) → (x_41.toInt ≤ 16 * x_18.toInt + x_37.toInt) → (flE (flM (fun i j => (pM9 f0 f1 x10.toInt x11.toInt i j).toInt) x13.toInt (-1)) y_43.toInt x_41.toInt x_39.toInt (16 * x_18.toInt + x_37.toInt)) → (2147483647 - x_37.toInt).toNat < n → va_P D gcl (zS_17 cB cC cI cJ a0 a1 x1 x2 x3 x4 x5 x6 x7 x8 a2 a3 a4 a5 a6 a7 a8 a9 a10 a11 a12 a13 a14 a15 a16 x9 x10 x11 x12 x13 x14 a17 a18 a19 x15 a20 x16 a21 x17 x18 a22 a23 a24 a25 x19 a26 x20 a27 a28 a29 y0 a30 a31 a32 a33 a34 a35 a36 a37 a38 x21 x22 x23 y1 a39 x24 a40 a41 a42 a43 x25 x26 x27 x28 a18 f0 a19 f1 a29 f_45) H → va_D A (zS_17 cB cC cI cJ a0 a1 x1 x2 x3 x4 x5 x6 x7 x8 a2 a3 a4 a5 a6 a7 a8 a9 a10 a11 a12 a13 a14 a15 a16 x9 x10 x11 x12 x13 x14 a17 a18 a19 x15 a20 x16 a21 x17 x18 a22 a23 a24 a25 x19 a26 x20 a27 a28 a29 y0 a30 a31 a32 a33 a34 a35 a36 a37 a38 x21 x22 x23 y1 a39 x24 a40 a41 a42 a43 x25 x26 x27 x28 a18 f0 a19 f1 a29 f_45) → va_S A s.heap H locs → lv_has ls 12 [(9, .int x_37), (8, .int x_18), (7, .int x_39), (6, .int x_41), (4, .long y_43), (2, .long y_11), (0, .ref a0), (1, .int x0)] → W p l e ({ frames := 3, cells := 0, slots := 0, locals := 72 }) s m args below meth c H locs 0 0 Q (F0 m 109 ls []) := by
                                  intro n
                                  induction n with
                                  | zero => intro x_37 x_39 x_41 y_43 f_45 H locs ls hi_38 hi_42 hi_46 hi_47 hi_48 hmu; exact absurd hmu (Nat.not_lt_zero _)
                                  | succ n ih_lp_49 =>
                                    intro x_37 x_39 x_41 y_43 f_45 H locs ls hi_38 hi_42 hi_46 hi_47 hi_48 hmu_lp_49 hP hD hS hl
                                    have hi_40 := n_rng x_39
                                    have hi_44 := n_rngL y_43
                                    refine lv_iload (pc := 109) hx hb dX12_code_109 (lv_at hl 0 rfl) ?_
                                    refine lv_aload_n (pc := 111) hx hb dX12_code_111 rfl (lv_at hl 6 rfl) ?_
                                    refine va_get (pc := 112) (ci := 12) (v := .int x13) (C := RX12) (T := TX12) (N := 73) hx hb hts iX12 hown hK hP 0 rfl rfl 28 (by decide) (hts _ tw_1429) (fun _ h9 => h9) rfl dX12_code_112 ?_
                                    refine b_icmp_ge (pc := 115) (tgt := 177) hx hb rfl rfl  dX12_code_115 (by decide) (fun c_50 => ?_) (fun c_50 => ?_)
                                    ·
                                      as_aux_lemma =>
                                        refine b_iinc (pc := 177) hx hb dX12_code_177 hl (k := 1) rfl rfl tI_1 (by first | exact (om_2 hi_19.1) | ((first | omega | (unfold zBd at *; omega)))) (by first | exact (om_940 hi_19.2) | ((first | omega | (unfold zBd at *; omega)))) (by decide) (fun x_51 ex_51 ls hl => ?_)
                                        replace hl : lv_has ls 12 [(8, .int x_51), (9, .int x_37), (7, .int x_39), (6, .int x_41), (4, .long y_43), (2, .long y_11), (0, .ref a0), (1, .int x0)] := hl
                                        refine lv_goto (pc := 180) (tgt := 94) hx hb dX12_code_180 (by decide) ?_
                                        exact ih_lp_30 x_51 x_39 x_41 y_43 f_45 _ _ ls (by first | exact (om_1110 ex_51 hi_19.1 hi_46.1 hi_38.2) | ((first | omega | (unfold zBd at *; omega)))) hi_42 (by first | exact (om_40 ex_51 c_31) | ((first | omega | (unfold zBd at *; omega)))) (by first | exact (om_1198 ex_51 hi_47 hi_38.2) | ((first | omega | (unfold zBd at *; omega)))) (fl_out flS_M hi_48 (by first | exact (om_0 hi_19.1) | ((first | omega | (unfold zBd at *; omega)))) (by (first | omega | (unfold zBd at *; omega))) (by first | exact (om_0 hi_38.1) | ((first | omega | (unfold zBd at *; omega)))) (by first | exact (om_1186 hi_38.2) | ((first | omega | (unfold zBd at *; omega)))) rfl (by first | exact (om_1783 ex_51) | ((first | omega | (unfold zBd at *; omega))))) (by (first | omega | (unfold zBd at *; omega))) hP hD hS (lv_sub hl [0, 2, 3, 4, 5, 6, 7] rfl)
                                    ·
                                      as_aux_lemma =>
                                        refine lv_aload_n (pc := 118) hx hb dX12_code_118 rfl (lv_at hl 6 rfl) ?_
                                        refine lv_iload (pc := 119) hx hb dX12_code_119 (lv_at hl 1 rfl) ?_
                                        refine lv_iload (pc := 121) hx hb dX12_code_121 (lv_at hl 0 rfl) ?_
                                        refine gd_l (pc := 123) (wc := (zS_17 cB cC cI cJ a0 a1 x1 x2 x3 x4 x5 x6 x7 x8 a2 a3 a4 a5 a6 a7 a8 a9 a10 a11 a12 a13 a14 a15 a16 x9 x10 x11 x12 x13 x14 a17 a18 a19 x15 a20 x16 a21 x17 x18 a22 a23 a24 a25 x19 a26 x20 a27 a28 a29 y0 a30 a31 a32 a33 a34 a35 a36 a37 a38 x21 x22 x23 y1 a39 x24 a40 a41 a42 a43 x25 x26 x27 x28 a18 f0 a19 f1 a29 f_45)) hP hD hS hA [0, 1, 2, 3] rfl (by decide +kernel) (fun _ => by rfl) (fun hPc hDc => va_runV (As := [.int x_18, .int x_37]) (rest := []) ⟨hx, hb, hml, hown, hts⟩ (k_X12_apartOf l D cB cC cI cJ _ a0 a1 a2 a3 a4 a5 a6 a7 a8 a9 a10 a11 a12 a13 a14 a15 a16 a17 a18 a19 a20 a21 a22 a23 a24 a25 a26 a27 a28 a29 a30 a31 a32 a33 a34 a35 a36 a37 a38 a39 a40 a41 a42 a43 x_18 x_37 x1 x2 x3 x4 x5 x6 x7 x8 x9 x10 x11 x12 x13 x14 x15 x16 x17 x18 x19 x20 x21 x22 x23 x24 x25 x26 x27 x28 y0 y1 f0 f1 f_45 (by first | exact (om_1112 hi_19.1 c_31 h_x13.2) | ((first | omega | (unfold zBd at *; omega)))) (by first | exact (om_1112 hi_38.1 c_50 h_x13.2) | ((first | omega | (unfold zBd at *; omega)))) h_x1 h_x2 h_x3 h_x4 h_x5 h_x6 h_x9 h_x10 h_x11 h_x12 h_x13 h_x15 h_x16 h_x17 h_x19 h_x20 h_x21 h_x22 h_x23 h_x24 h_x25 h_x26 h_x27 h_x28 hr_a0_0 hr_a0_1 hr_a0_2 hf_f0 hf_f1) ⟨gcwB hts tw_1996 tw_14 tw_1993 hd_yX12_apartOf ⟨Nat.le_of_ble_eq_true rfl, Nat.le_of_ble_eq_true rfl⟩, hts _ tw_1995, hts _ tp_112⟩ ⟨gblind, va_recv hK hPc (ci := 12) (q0 := 0) rfl rfl, (gpreS hPc hK hDc hN).2⟩ rfl rfl hl.1 rfl (lv_room (Nat.le_of_ble_eq_true rfl)) dX12_code_123 ⟨Nat.le_of_ble_eq_true rfl, Nat.le_of_ble_eq_true rfl⟩) (fun r_53 u_52 H locs hw_54 hP hD hS => ?_)
                                        replace hP : va_P D gcl (zS_17 cB cC cI cJ a0 a1 x1 x2 x3 x4 x5 x6 x7 x8 a2 a3 a4 a5 a6 a7 a8 a9 a10 a11 a12 a13 a14 a15 a16 x9 x10 x11 x12 x13 x14 a17 a18 a19 x15 a20 x16 a21 x17 x18 a22 a23 a24 a25 x19 a26 x20 a27 a28 a29 y0 a30 a31 a32 a33 a34 a35 a36 a37 a38 x21 x22 x23 y1 a39 x24 a40 a41 a42 a43 x25 x26 x27 x28 a18 f0 a19 f1 a29 (u_52.2.1 0)) H := hP
                                        replace hD : va_D A (zS_17 cB cC cI cJ a0 a1 x1 x2 x3 x4 x5 x6 x7 x8 a2 a3 a4 a5 a6 a7 a8 a9 a10 a11 a12 a13 a14 a15 a16 x9 x10 x11 x12 x13 x14 a17 a18 a19 x15 a20 x16 a21 x17 x18 a22 a23 a24 a25 x19 a26 x20 a27 a28 a29 y0 a30 a31 a32 a33 a34 a35 a36 a37 a38 x21 x22 x23 y1 a39 x24 a40 a41 a42 a43 x25 x26 x27 x28 a18 f0 a19 f1 a29 (u_52.2.1 0)) := hD
                                        have hw_55 : (r_53 = pM9 f0 f1 x10.toInt x11.toInt x_18.toInt x_37.toInt) := hw_54
                                        have rr_53 := n_rngL r_53
                                        refine lv_lstore (pc := 126) (lv' := [(10, .long r_53), (9, .int x_37), (8, .int x_18), (7, .int x_39), (6, .int x_41), (4, .long y_43), (2, .long y_11), (0, .ref a0), (1, .int x0)]) hx hb dX12_code_126 hl (by decide) rfl (fun ls hl => ?_)
                                        refine lv_lload (pc := 128) hx hb dX12_code_128 (lv_at hl 5 rfl) ?_
                                        refine lv_lconst (pc := 130) (v := 0) hx hb dX12_code_130 (by decide) ?_
                                        refine b_lcmp_lt (pc := 131) (tgt := 143) hx hb rfl tL_0 dX12_code_131 dX12_code_132 (by decide) (fun c_56 => ?_) (fun c_56 => ?_)
                                        ·
                                          as_aux_lemma =>
                                            refine lv_lload (pc := 143) hx hb dX12_code_143 (lv_at hl 0 rfl) ?_
                                            refine lv_lstore (pc := 145) (lv' := [(4, .long r_53), (10, .long r_53), (9, .int x_37), (8, .int x_18), (7, .int x_39), (6, .int x_41), (2, .long y_11), (0, .ref a0), (1, .int x0)]) hx hb dX12_code_145 hl (by decide) rfl (fun ls hl => ?_)
                                            refine lv_iconst (pc := 147) (v := 0) hx hb dX12_code_147 (by decide) ?_
                                            refine lv_istore (pc := 148) (lv' := [(6, .int 0), (4, .long r_53), (10, .long r_53), (9, .int x_37), (8, .int x_18), (7, .int x_39), (2, .long y_11), (0, .ref a0), (1, .int x0)]) hx hb dX12_code_148 hl (by decide) rfl (fun ls hl => ?_)
                                            refine lv_bipush (pc := 150) (v := 100) hx hb dX12_code_150 (by decide) ?_
                                            refine lv_iload (pc := 152) hx hb dX12_code_152 (lv_at hl 4 rfl) ?_
                                            refine b_imul (pc := 154) hx hb tI_100 rfl (by first | exact (om_1031 hi_19.1) | ((first | omega | (unfold zBd at *; omega)))) (by first | exact (om_1784 hi_19.2) | ((first | omega | (unfold zBd at *; omega)))) dX12_code_154 (fun x_57 ex_57 => ?_)
                                            refine lv_iload (pc := 155) hx hb dX12_code_155 (lv_at hl 3 rfl) ?_
                                            refine b_iadd (pc := 157) hx hb rfl rfl (by first | exact (om_1033 ex_57 hi_38.1 hi_19.1) | ((first | omega | (unfold zBd at *; omega)))) (by first | exact (om_1785 ex_57 hi_46.1 hi_38.2) | ((first | omega | (unfold zBd at *; omega)))) dX12_code_157 (fun x_58 ex_58 => ?_)
                                            refine lv_istore (pc := 158) (lv' := [(7, .int x_58), (6, .int 0), (4, .long r_53), (10, .long r_53), (9, .int x_37), (8, .int x_18), (2, .long y_11), (0, .ref a0), (1, .int x0)]) hx hb dX12_code_158 hl (by decide) rfl (fun ls hl => ?_)
                                            as_aux_lemma =>
                                              refine lv_lload (pc := 160) hx hb dX12_code_160 (lv_at hl 3 rfl) ?_
                                              refine lv_lload (pc := 162) hx hb dX12_code_162 (lv_at hl 2 rfl) ?_
                                              refine b_lcmp_ne (pc := 164) (tgt := 171) hx hb rfl rfl dX12_code_164 dX12_code_165 (by decide) (fun c_59 => absurd c_59 (by first | exact (om_1196) | ((first | omega | (unfold zBd at *; omega))))) (fun c_59 => ?_)
                                              refine lv_iinc (pc := 168) (v := 1) (lv' := [(6, .int 1), (7, .int x_58), (4, .long r_53), (10, .long r_53), (9, .int x_37), (8, .int x_18), (2, .long y_11), (0, .ref a0), (1, .int x0)]) hx hb dX12_code_168 hl (k := 1) rfl (by decide +kernel) (by decide) rfl (fun ls hl => ?_)
                                              refine b_iinc (pc := 171) hx hb dX12_code_171 hl (k := 4) rfl rfl tI_1 (by first | exact (om_2 hi_38.1) | ((first | omega | (unfold zBd at *; omega)))) (by first | exact (om_940 hi_38.2) | ((first | omega | (unfold zBd at *; omega)))) (by decide) (fun x_60 ex_60 ls hl => ?_)
                                              replace hl : lv_has ls 12 [(9, .int x_60), (6, .int 1), (7, .int x_58), (4, .long r_53), (10, .long r_53), (8, .int x_18), (2, .long y_11), (0, .ref a0), (1, .int x0)] := hl
                                              refine lv_goto (pc := 174) (tgt := 109) hx hb dX12_code_174 (by decide) ?_
                                              exact ih_lp_49 x_60 x_58 1 r_53 (u_52.2.1 0) _ _ ls (by first | exact (om_1110 ex_60 hi_38.1 c_50 h_x13.2) | (have k0 := tI_1; (first | omega | (unfold zBd at *; omega)))) (n_c tI_1 (by decide)) (by first | exact (om_1028 ex_60 hi_46.1 c_50) | (have k0 := tI_1; (first | omega | (unfold zBd at *; omega)))) (by first | exact (om_1786 ex_60 hi_46.1 hi_19.1 tI_1) | (have k0 := tI_1; (first | omega | (unfold zBd at *; omega)))) (fl_weighM hi_48 (by have q1 := tI_0; have q2 := tI_1; unfold wmQ; (first | omega | (unfold zBd at *; omega))) (congrArg Int64.toInt hw_55) (by first | exact (om_0 hi_19.1) | ((first | omega | (unfold zBd at *; omega)))) (by first | exact (om_1787 hi_46.1 c_50 hi_19.1 hi_38.1) | ((first | omega | (unfold zBd at *; omega)))) (by first | exact (om_1202 c_50 h_x13.2) | ((first | omega | (unfold zBd at *; omega)))) rfl (by first | exact (om_1788 ex_60) | ((first | omega | (unfold zBd at *; omega))))) (by have k0 := tI_1; (first | omega | (unfold zBd at *; omega))) hP hD hS (lv_sub hl [0, 5, 2, 1, 3, 6, 7, 8] rfl)
                                        ·
                                          as_aux_lemma =>
                                            refine lv_lload (pc := 135) hx hb dX12_code_135 (lv_at hl 0 rfl) ?_
                                            refine lv_lload (pc := 137) hx hb dX12_code_137 (lv_at hl 5 rfl) ?_
                                            refine b_lcmp_ge (pc := 139) (tgt := 160) hx hb rfl rfl dX12_code_139 dX12_code_140 (by decide) (fun c_61 => ?_) (fun c_61 => ?_)
                                            ·
                                              as_aux_lemma =>
                                                refine lv_lload (pc := 160) hx hb dX12_code_160 (lv_at hl 0 rfl) ?_
                                                refine lv_lload (pc := 162) hx hb dX12_code_162 (lv_at hl 5 rfl) ?_
                                                refine b_lcmp_ne (pc := 164) (tgt := 171) hx hb rfl rfl dX12_code_164 dX12_code_165 (by decide) (fun c_62 => ?_) (fun c_62 => ?_)
                                                ·
                                                  as_aux_lemma =>
                                                    refine b_iinc (pc := 171) hx hb dX12_code_171 hl (k := 1) rfl rfl tI_1 (by first | exact (om_2 hi_38.1) | ((first | omega | (unfold zBd at *; omega)))) (by first | exact (om_940 hi_38.2) | ((first | omega | (unfold zBd at *; omega)))) (by decide) (fun x_63 ex_63 ls hl => ?_)
                                                    replace hl : lv_has ls 12 [(9, .int x_63), (10, .long r_53), (8, .int x_18), (7, .int x_39), (6, .int x_41), (4, .long y_43), (2, .long y_11), (0, .ref a0), (1, .int x0)] := hl
                                                    refine lv_goto (pc := 174) (tgt := 109) hx hb dX12_code_174 (by decide) ?_
                                                    exact ih_lp_49 x_63 x_39 x_41 y_43 (u_52.2.1 0) _ _ ls (by first | exact (om_1110 ex_63 hi_38.1 c_50 h_x13.2) | ((first | omega | (unfold zBd at *; omega)))) hi_42 (by first | exact (om_1028 ex_63 hi_46.1 c_50) | ((first | omega | (unfold zBd at *; omega)))) (by first | exact (om_1199 ex_63 hi_47) | ((first | omega | (unfold zBd at *; omega)))) (fl_weighM hi_48 (by have q1 := tI_0; have q2 := tI_1; unfold wmQ; (first | omega | (unfold zBd at *; omega))) (congrArg Int64.toInt hw_55) (by first | exact (om_0 hi_19.1) | ((first | omega | (unfold zBd at *; omega)))) (by first | exact (om_1787 hi_46.1 c_50 hi_19.1 hi_38.1) | ((first | omega | (unfold zBd at *; omega)))) (by first | exact (om_1202 c_50 h_x13.2) | ((first | omega | (unfold zBd at *; omega)))) rfl (by first | exact (om_1788 ex_63) | ((first | omega | (unfold zBd at *; omega))))) (by (first | omega | (unfold zBd at *; omega))) hP hD hS (lv_sub hl [0, 2, 3, 4, 5, 6, 7, 8] rfl)
                                                ·
                                                  as_aux_lemma =>
                                                    refine b_iinc (pc := 168) hx hb dX12_code_168 hl (k := 4) rfl rfl tI_1 (by first | exact (om_2 hi_42.1) | ((first | omega | (unfold zBd at *; omega)))) (by first | exact (om_1789 hi_42.2) | ((first | omega | (unfold zBd at *; omega)))) (by decide) (fun x_64 ex_64 ls hl => ?_)
                                                    replace hl : lv_has ls 12 [(6, .int x_64), (10, .long r_53), (9, .int x_37), (8, .int x_18), (7, .int x_39), (4, .long y_43), (2, .long y_11), (0, .ref a0), (1, .int x0)] := hl
                                                    refine b_iinc (pc := 171) hx hb dX12_code_171 hl (k := 2) rfl rfl tI_1 (by first | exact (om_2 hi_38.1) | ((first | omega | (unfold zBd at *; omega)))) (by first | exact (om_940 hi_38.2) | ((first | omega | (unfold zBd at *; omega)))) (by decide) (fun x_65 ex_65 ls hl => ?_)
                                                    replace hl : lv_has ls 12 [(9, .int x_65), (6, .int x_64), (10, .long r_53), (8, .int x_18), (7, .int x_39), (4, .long y_43), (2, .long y_11), (0, .ref a0), (1, .int x0)] := hl
                                                    refine lv_goto (pc := 174) (tgt := 109) hx hb dX12_code_174 (by decide) ?_
                                                    exact ih_lp_49 x_65 x_39 x_64 y_43 (u_52.2.1 0) _ _ ls (by first | exact (om_1110 ex_65 hi_38.1 c_50 h_x13.2) | ((first | omega | (unfold zBd at *; omega)))) (by first | exact (om_1790 ex_64 hi_42.1 hi_47 c_50 hi_46.1 h_x13.2) | ((first | omega | (unfold zBd at *; omega)))) (by first | exact (om_1028 ex_65 hi_46.1 c_50) | ((first | omega | (unfold zBd at *; omega)))) (by first | exact (om_1791 ex_65 ex_64 hi_47) | ((first | omega | (unfold zBd at *; omega)))) (fl_weighM hi_48 (by have q1 := tI_0; have q2 := tI_1; unfold wmQ; (first | omega | (unfold zBd at *; omega))) (congrArg Int64.toInt hw_55) (by first | exact (om_0 hi_19.1) | ((first | omega | (unfold zBd at *; omega)))) (by first | exact (om_1787 hi_46.1 c_50 hi_19.1 hi_38.1) | ((first | omega | (unfold zBd at *; omega)))) (by first | exact (om_1202 c_50 h_x13.2) | ((first | omega | (unfold zBd at *; omega)))) rfl (by first | exact (om_1788 ex_65) | ((first | omega | (unfold zBd at *; omega))))) (by (first | omega | (unfold zBd at *; omega))) hP hD hS (lv_sub hl [0, 3, 4, 1, 5, 6, 7, 8] rfl)
                                            ·
                                              as_aux_lemma =>
                                                refine lv_lload (pc := 143) hx hb dX12_code_143 (lv_at hl 0 rfl) ?_
                                                refine lv_lstore (pc := 145) (lv' := [(4, .long r_53), (10, .long r_53), (9, .int x_37), (8, .int x_18), (7, .int x_39), (6, .int x_41), (2, .long y_11), (0, .ref a0), (1, .int x0)]) hx hb dX12_code_145 hl (by decide) rfl (fun ls hl => ?_)
                                                refine lv_iconst (pc := 147) (v := 0) hx hb dX12_code_147 (by decide) ?_
                                                refine lv_istore (pc := 148) (lv' := [(6, .int 0), (4, .long r_53), (10, .long r_53), (9, .int x_37), (8, .int x_18), (7, .int x_39), (2, .long y_11), (0, .ref a0), (1, .int x0)]) hx hb dX12_code_148 hl (by decide) rfl (fun ls hl => ?_)
                                                refine lv_bipush (pc := 150) (v := 100) hx hb dX12_code_150 (by decide) ?_
                                                refine lv_iload (pc := 152) hx hb dX12_code_152 (lv_at hl 4 rfl) ?_
                                                refine b_imul (pc := 154) hx hb tI_100 rfl (by first | exact (om_1031 hi_19.1) | ((first | omega | (unfold zBd at *; omega)))) (by first | exact (om_1784 hi_19.2) | ((first | omega | (unfold zBd at *; omega)))) dX12_code_154 (fun x_66 ex_66 => ?_)
                                                refine lv_iload (pc := 155) hx hb dX12_code_155 (lv_at hl 3 rfl) ?_
                                                refine b_iadd (pc := 157) hx hb rfl rfl (by first | exact (om_1033 ex_66 hi_38.1 hi_19.1) | ((first | omega | (unfold zBd at *; omega)))) (by first | exact (om_1785 ex_66 hi_46.1 hi_38.2) | ((first | omega | (unfold zBd at *; omega)))) dX12_code_157 (fun x_67 ex_67 => ?_)
                                                refine lv_istore (pc := 158) (lv' := [(7, .int x_67), (6, .int 0), (4, .long r_53), (10, .long r_53), (9, .int x_37), (8, .int x_18), (2, .long y_11), (0, .ref a0), (1, .int x0)]) hx hb dX12_code_158 hl (by decide) rfl (fun ls hl => ?_)
                                                as_aux_lemma =>
                                                  refine lv_lload (pc := 160) hx hb dX12_code_160 (lv_at hl 3 rfl) ?_
                                                  refine lv_lload (pc := 162) hx hb dX12_code_162 (lv_at hl 2 rfl) ?_
                                                  refine b_lcmp_ne (pc := 164) (tgt := 171) hx hb rfl rfl dX12_code_164 dX12_code_165 (by decide) (fun c_68 => absurd c_68 (by first | exact (om_1196) | ((first | omega | (unfold zBd at *; omega))))) (fun c_68 => ?_)
                                                  refine lv_iinc (pc := 168) (v := 1) (lv' := [(6, .int 1), (7, .int x_67), (4, .long r_53), (10, .long r_53), (9, .int x_37), (8, .int x_18), (2, .long y_11), (0, .ref a0), (1, .int x0)]) hx hb dX12_code_168 hl (k := 1) rfl (by decide +kernel) (by decide) rfl (fun ls hl => ?_)
                                                  refine b_iinc (pc := 171) hx hb dX12_code_171 hl (k := 4) rfl rfl tI_1 (by first | exact (om_2 hi_38.1) | ((first | omega | (unfold zBd at *; omega)))) (by first | exact (om_940 hi_38.2) | ((first | omega | (unfold zBd at *; omega)))) (by decide) (fun x_69 ex_69 ls hl => ?_)
                                                  replace hl : lv_has ls 12 [(9, .int x_69), (6, .int 1), (7, .int x_67), (4, .long r_53), (10, .long r_53), (8, .int x_18), (2, .long y_11), (0, .ref a0), (1, .int x0)] := hl
                                                  refine lv_goto (pc := 174) (tgt := 109) hx hb dX12_code_174 (by decide) ?_
                                                  exact ih_lp_49 x_69 x_67 1 r_53 (u_52.2.1 0) _ _ ls (by first | exact (om_1110 ex_69 hi_38.1 c_50 h_x13.2) | (have k0 := tI_1; (first | omega | (unfold zBd at *; omega)))) (n_c tI_1 (by decide)) (by first | exact (om_1028 ex_69 hi_46.1 c_50) | (have k0 := tI_1; (first | omega | (unfold zBd at *; omega)))) (by first | exact (om_1786 ex_69 hi_46.1 hi_19.1 tI_1) | (have k0 := tI_1; (first | omega | (unfold zBd at *; omega)))) (fl_weighM hi_48 (by have q1 := tI_0; have q2 := tI_1; unfold wmQ; (first | omega | (unfold zBd at *; omega))) (congrArg Int64.toInt hw_55) (by first | exact (om_0 hi_19.1) | ((first | omega | (unfold zBd at *; omega)))) (by first | exact (om_1787 hi_46.1 c_50 hi_19.1 hi_38.1) | ((first | omega | (unfold zBd at *; omega)))) (by first | exact (om_1202 c_50 h_x13.2) | ((first | omega | (unfold zBd at *; omega)))) rfl (by first | exact (om_1788 ex_69) | ((first | omega | (unfold zBd at *; omega))))) (by have k0 := tI_1; (first | omega | (unfold zBd at *; omega))) hP hD hS (lv_sub hl [0, 5, 2, 1, 3, 6, 7, 8] rfl)
                                exact lp_49 _ x_36 x_20 x_22 y_24 f_26 _ _ ls (by first | exact (om_1110 ex_36 hi_19.1 c_31 h_x13.2) | ((first | omega | (unfold zBd at *; omega)))) hi_23 (by have q := tI_0; (first | omega | (unfold zBd at *; omega))) (by have q := tI_0; (first | omega | (unfold zBd at *; omega))) (fl_in flS_M hi_29 (by first | exact (om_0 hi_19.1) | ((first | omega | (unfold zBd at *; omega)))) (by first | exact (om_1202 c_31 h_x13.2) | ((first | omega | (unfold zBd at *; omega)))) rfl rfl (by first | exact (om_5 ex_36) | ((first | omega | (unfold zBd at *; omega))))) (Nat.lt_succ_self _) hP hD hS (lv_sub hl [0, 1, 2, 3, 4, 5, 6, 7] rfl)
                        exact lp_30 _ 0 0 0 (-1) f2 _ _ ls (n_c tI_0 (by decide)) (n_c tI_0 (by decide)) (by have q := tI_0; (first | omega | (unfold zBd at *; omega))) (by have q := tI_0; (first | omega | (unfold zBd at *; omega))) (flE_0M tL_m1 tI_0 tI_0 (by first | exact (om_1792 tI_0) | (have q := tI_0; (first | omega | (unfold zBd at *; omega))))) (Nat.lt_succ_self _) hP hD hS (lv_sub hl [0, 1, 2, 3, 4, 5, 6] rfl)
                  ·
                    as_aux_lemma =>
                      refine lv_aload_n (pc := 47) hx hb dX12_code_47 rfl (lv_at hl 2 rfl) ?_
                      refine lv_iload (pc := 48) hx hb dX12_code_48 (lv_at hl 0 rfl) ?_
                      refine gd_i (pc := 50) (wc := (zS_27 cB cC cI cJ a0 a1 x1 x2 x3 x4 x5 x6 x7 x8 a2 a3 a4 a5 a6 a7 a8 a9 a10 a11 a12 a13 a14 a15 a16 x9 x10 x11 x12 x13 x14 a17 a18 a19 x15 a20 x16 a21 x17 x18 a22 a23 a24 a25 x19 a26 x20 a27 a28 a29 y0 a30 a31 a32 a33 a34 a35 a36 a37 a38 x21 x22 x23 y1 a39 x24 a40 a41 a42 a43 x25 x26 x27 x28 a19 f1)) hP hD hS hA [0, 2] rfl (by decide +kernel) (fun _ => by rfl) (fun hPc hDc => va_runV (As := [.int x_9]) (rest := []) ⟨hx, hb, hml, hown, hts⟩ (k_X12_power l D cB cC cI cJ _ a0 a1 a2 a3 a4 a5 a6 a7 a8 a9 a10 a11 a12 a13 a14 a15 a16 a17 a18 a19 a20 a21 a22 a23 a24 a25 a26 a27 a28 a29 a30 a31 a32 a33 a34 a35 a36 a37 a38 a39 a40 a41 a42 a43 x_9 x1 x2 x3 x4 x5 x6 x7 x8 x9 x10 x11 x12 x13 x14 x15 x16 x17 x18 x19 x20 x21 x22 x23 x24 x25 x26 x27 x28 y0 y1 f1 (by first | exact (om_1112 hi_10.1 c_16 h_x13.2) | ((first | omega | (unfold zBd at *; omega)))) h_x1 h_x2 h_x3 h_x4 h_x5 h_x6 h_x9 h_x10 h_x11 h_x12 h_x13 h_x15 h_x16 h_x17 h_x19 h_x20 h_x21 h_x22 h_x23 h_x24 h_x25 h_x26 h_x27 h_x28 hr_a0_0 hr_a0_1 hr_a0_2 hf_f1) ⟨gcwB hts tw_1992 tw_14 tw_1989 hd_yX12_power ⟨Nat.le_of_ble_eq_true rfl, Nat.le_of_ble_eq_true rfl⟩, hts _ tw_1991, hts _ tp_111⟩ ⟨gblind, va_recv hK hPc (ci := 12) (q0 := 0) rfl rfl, (gpreS hPc hK hDc hN).2⟩ rfl rfl hl.1 rfl (lv_room (Nat.le_of_ble_eq_true rfl)) dX12_code_50 ⟨Nat.le_of_ble_eq_true rfl, Nat.le_of_ble_eq_true rfl⟩) (fun r_71 u_70 H locs hw_72 hP hD hS => ?_)
                      replace hP : va_P D gcl (zS_17 cB cC cI cJ a0 a1 x1 x2 x3 x4 x5 x6 x7 x8 a2 a3 a4 a5 a6 a7 a8 a9 a10 a11 a12 a13 a14 a15 a16 x9 x10 x11 x12 x13 x14 a17 a18 a19 x15 a20 x16 a21 x17 x18 a22 a23 a24 a25 x19 a26 x20 a27 a28 a29 y0 a30 a31 a32 a33 a34 a35 a36 a37 a38 x21 x22 x23 y1 a39 x24 a40 a41 a42 a43 x25 x26 x27 x28 a18 f0 a19 f1 a29 f2) H := hP
                      replace hD : va_D A (zS_17 cB cC cI cJ a0 a1 x1 x2 x3 x4 x5 x6 x7 x8 a2 a3 a4 a5 a6 a7 a8 a9 a10 a11 a12 a13 a14 a15 a16 x9 x10 x11 x12 x13 x14 a17 a18 a19 x15 a20 x16 a21 x17 x18 a22 a23 a24 a25 x19 a26 x20 a27 a28 a29 y0 a30 a31 a32 a33 a34 a35 a36 a37 a38 x21 x22 x23 y1 a39 x24 a40 a41 a42 a43 x25 x26 x27 x28 a18 f0 a19 f1 a29 f2) := hD
                      obtain ⟨hw_73, hw_74⟩ := hw_72
                      replace hw_73 : ((-499900005) ≤ r_71.toInt ∧ r_71.toInt ≤ 499900005) := hw_73
                      replace hw_74 : (r_71.toInt = wP f1 x10.toInt x_9.toInt) := hw_74
                      have rr_71 : zBd r_71.toInt (-2147483648) 2147483647 := n_rng r_71
                      refine b_i2l (pc := 53) hx hb rfl dX12_code_53 (fun y_75 ey_75 => ?_)
                      have ry_75 : zBd r_71.toInt (-2147483648) 2147483647 := n_rng r_71
                      refine lv_lload_n (pc := 54) hx hb dX12_code_54 rfl (lv_at hl 1 rfl) ?_
                      refine b_lcmp_le (pc := 55) (tgt := 67) hx hb rfl rfl dX12_code_55 dX12_code_56 (by decide) (fun c_76 => ?_) (fun c_76 => ?_)
                      ·
                        as_aux_lemma =>
                          refine b_iinc (pc := 67) hx hb dX12_code_67 hl (k := 0) rfl rfl tI_1 (by first | exact (om_2 hi_10.1) | ((first | omega | (unfold zBd at *; omega)))) (by first | exact (om_940 hi_10.2) | ((first | omega | (unfold zBd at *; omega)))) (by decide) (fun x_77 ex_77 ls hl => ?_)
                          replace hl : lv_has ls 12 [(4, .int x_77), (2, .long y_11), (0, .ref a0), (1, .int x0)] := hl
                          refine lv_goto (pc := 70) (tgt := 38) hx hb dX12_code_70 (by decide) ?_
                          exact ih_lp_15 x_77 y_11 _ _ ls (by first | exact (om_1110 ex_77 hi_10.1 c_16 h_x13.2) | ((first | omega | (unfold zBd at *; omega)))) (by first | exact (om_40 ex_77 c_16) | ((first | omega | (unfold zBd at *; omega)))) (mx_step hi_14 hw_74 (by first | exact (om_0 hi_10.1) | ((first | omega | (unfold zBd at *; omega)))) (by first | exact (om_1793 c_76 ey_75) | ((first | omega | (unfold zBd at *; omega)))) (by first | exact (om_5 ex_77) | ((first | omega | (unfold zBd at *; omega))))) (by (first | omega | (unfold zBd at *; omega))) hP hD hS (lv_sub hl [0, 1, 2, 3] rfl)
                      ·
                        as_aux_lemma =>
                          refine lv_aload_n (pc := 59) hx hb dX12_code_59 rfl (lv_at hl 2 rfl) ?_
                          refine lv_iload (pc := 60) hx hb dX12_code_60 (lv_at hl 0 rfl) ?_
                          refine gd_i (pc := 62) (wc := (zS_27 cB cC cI cJ a0 a1 x1 x2 x3 x4 x5 x6 x7 x8 a2 a3 a4 a5 a6 a7 a8 a9 a10 a11 a12 a13 a14 a15 a16 x9 x10 x11 x12 x13 x14 a17 a18 a19 x15 a20 x16 a21 x17 x18 a22 a23 a24 a25 x19 a26 x20 a27 a28 a29 y0 a30 a31 a32 a33 a34 a35 a36 a37 a38 x21 x22 x23 y1 a39 x24 a40 a41 a42 a43 x25 x26 x27 x28 a19 f1)) hP hD hS hA [0, 2] rfl (by decide +kernel) (fun _ => by rfl) (fun hPc hDc => va_runV (As := [.int x_9]) (rest := []) ⟨hx, hb, hml, hown, hts⟩ (k_X12_power l D cB cC cI cJ _ a0 a1 a2 a3 a4 a5 a6 a7 a8 a9 a10 a11 a12 a13 a14 a15 a16 a17 a18 a19 a20 a21 a22 a23 a24 a25 a26 a27 a28 a29 a30 a31 a32 a33 a34 a35 a36 a37 a38 a39 a40 a41 a42 a43 x_9 x1 x2 x3 x4 x5 x6 x7 x8 x9 x10 x11 x12 x13 x14 x15 x16 x17 x18 x19 x20 x21 x22 x23 x24 x25 x26 x27 x28 y0 y1 f1 (by first | exact (om_1112 hi_10.1 c_16 h_x13.2) | ((first | omega | (unfold zBd at *; omega)))) h_x1 h_x2 h_x3 h_x4 h_x5 h_x6 h_x9 h_x10 h_x11 h_x12 h_x13 h_x15 h_x16 h_x17 h_x19 h_x20 h_x21 h_x22 h_x23 h_x24 h_x25 h_x26 h_x27 h_x28 hr_a0_0 hr_a0_1 hr_a0_2 hf_f1) ⟨gcwB hts tw_1992 tw_14 tw_1989 hd_yX12_power ⟨Nat.le_of_ble_eq_true rfl, Nat.le_of_ble_eq_true rfl⟩, hts _ tw_1991, hts _ tp_111⟩ ⟨gblind, va_recv hK hPc (ci := 12) (q0 := 0) rfl rfl, (gpreS hPc hK hDc hN).2⟩ rfl rfl hl.1 rfl (lv_room (Nat.le_of_ble_eq_true rfl)) dX12_code_62 ⟨Nat.le_of_ble_eq_true rfl, Nat.le_of_ble_eq_true rfl⟩) (fun r_79 u_78 H locs hw_80 hP hD hS => ?_)
                          replace hP : va_P D gcl (zS_17 cB cC cI cJ a0 a1 x1 x2 x3 x4 x5 x6 x7 x8 a2 a3 a4 a5 a6 a7 a8 a9 a10 a11 a12 a13 a14 a15 a16 x9 x10 x11 x12 x13 x14 a17 a18 a19 x15 a20 x16 a21 x17 x18 a22 a23 a24 a25 x19 a26 x20 a27 a28 a29 y0 a30 a31 a32 a33 a34 a35 a36 a37 a38 x21 x22 x23 y1 a39 x24 a40 a41 a42 a43 x25 x26 x27 x28 a18 f0 a19 f1 a29 f2) H := hP
                          replace hD : va_D A (zS_17 cB cC cI cJ a0 a1 x1 x2 x3 x4 x5 x6 x7 x8 a2 a3 a4 a5 a6 a7 a8 a9 a10 a11 a12 a13 a14 a15 a16 x9 x10 x11 x12 x13 x14 a17 a18 a19 x15 a20 x16 a21 x17 x18 a22 a23 a24 a25 x19 a26 x20 a27 a28 a29 y0 a30 a31 a32 a33 a34 a35 a36 a37 a38 x21 x22 x23 y1 a39 x24 a40 a41 a42 a43 x25 x26 x27 x28 a18 f0 a19 f1 a29 f2) := hD
                          obtain ⟨hw_81, hw_82⟩ := hw_80
                          replace hw_81 : ((-499900005) ≤ r_79.toInt ∧ r_79.toInt ≤ 499900005) := hw_81
                          replace hw_82 : (r_79.toInt = wP f1 x10.toInt x_9.toInt) := hw_82
                          have rr_79 : zBd r_79.toInt (-2147483648) 2147483647 := n_rng r_79
                          refine b_i2l (pc := 65) hx hb rfl dX12_code_65 (fun y_83 ey_83 => ?_)
                          have ry_83 : zBd r_79.toInt (-2147483648) 2147483647 := n_rng r_79
                          refine lv_lstore_n (pc := 66) (lv' := [(2, .long y_83), (4, .int x_9), (0, .ref a0), (1, .int x0)]) hx hb dX12_code_66 rfl hl (by decide) rfl (fun ls hl => ?_)
                          refine b_iinc (pc := 67) hx hb dX12_code_67 hl (k := 1) rfl rfl tI_1 (by first | exact (om_2 hi_10.1) | ((first | omega | (unfold zBd at *; omega)))) (by first | exact (om_940 hi_10.2) | ((first | omega | (unfold zBd at *; omega)))) (by decide) (fun x_84 ex_84 ls hl => ?_)
                          replace hl : lv_has ls 12 [(4, .int x_84), (2, .long y_83), (0, .ref a0), (1, .int x0)] := hl
                          refine lv_goto (pc := 70) (tgt := 38) hx hb dX12_code_70 (by decide) ?_
                          exact ih_lp_15 x_84 y_83 _ _ ls (by first | exact (om_1110 ex_84 hi_10.1 c_16 h_x13.2) | ((first | omega | (unfold zBd at *; omega)))) (by first | exact (om_40 ex_84 c_16) | ((first | omega | (unfold zBd at *; omega)))) (mx_step hi_14 hw_74 (by first | exact (om_0 hi_10.1) | ((first | omega | (unfold zBd at *; omega)))) (by have q := hw_82; (first | omega | (unfold zBd at *; omega))) (by first | exact (om_5 ex_84) | ((first | omega | (unfold zBd at *; omega))))) (by (first | omega | (unfold zBd at *; omega))) hP hD hS (lv_sub hl [0, 1, 2, 3] rfl)
              exact lp_15 _ 0 0 _ _ ls (n_c tI_0 (by decide)) (by have q := tI_0; (first | omega | (unfold zBd at *; omega))) (tL_0) (Nat.lt_succ_self _) hP hD hS (lv_sub hl [0, 1, 2, 3] rfl)
          ·
            as_aux_lemma =>
              refine lv_ldc2 (pc := 29) hx hb hown (hts _ tw_1838) dX12_code_29 ?_
              have hP9 : va_P D gcl (zS_17 cB cC cI cJ a0 a1 x1 x2 x3 x4 x5 x6 x7 x8 a2 a3 a4 a5 a6 a7 a8 a9 a10 a11 a12 a13 a14 a15 a16 x9 x10 x11 x12 x13 x14 a17 a18 a19 x15 a20 x16 a21 x17 x18 a22 a23 a24 a25 x19 a26 x20 a27 a28 a29 y0 a30 a31 a32 a33 a34 a35 a36 a37 a38 x21 x22 x23 y1 a39 x24 a40 a41 a42 a43 x25 x26 x27 x28 a18 f0 a19 f1 a29 f2) H := g_psub hP [0, 1, 2, 3] rfl
              have hD9 : va_D A (zS_17 cB cC cI cJ a0 a1 x1 x2 x3 x4 x5 x6 x7 x8 a2 a3 a4 a5 a6 a7 a8 a9 a10 a11 a12 a13 a14 a15 a16 x9 x10 x11 x12 x13 x14 a17 a18 a19 x15 a20 x16 a21 x17 x18 a22 a23 a24 a25 x19 a26 x20 a27 a28 a29 y0 a30 a31 a32 a33 a34 a35 a36 a37 a38 x21 x22 x23 y1 a39 x24 a40 a41 a42 a43 x25 x26 x27 x28 a18 f0 a19 f1 a29 f2) := hD.sub [0, 1, 2, 3] (by decide) rfl
              have k9 := tL_m1
              exact hret (-1) ((fun _ => 0), (fun k => [f2].getD k (fun _ => 0)), (fun _ => (fun _ => 0)), (fun _ => 0), (fun _ => 0)) dX12_code_32 (show cdQ ((-1) : Int64).toInt x0.toInt x13.toInt (mxP (wP f1 x10.toInt) (x13.toInt).toNat) (flM (fun i j => (pM9 f0 f1 x10.toInt x11.toInt i j).toInt) x13.toInt (-1) (16 * x13.toInt).toNat) from (by first | exact cd_no3 (by (first | omega | (unfold zBd at *; omega))) (by (first | omega | (unfold zBd at *; omega))) (by (first | omega | (unfold zBd at *; omega))) | exact cd_no (by (first | omega | (unfold zBd at *; omega))) (by (first | omega | (unfold zBd at *; omega))) (by (first | omega | (unfold zBd at *; omega))))) hP9 hD9 hS
      ·
        as_aux_lemma =>
          refine lv_iconst (pc := 21) (v := 1) hx hb dX12_code_21 (by decide) ?_
          refine lv_goto (pc := 22) (tgt := 26) hx hb dX12_code_22 (by decide) ?_
          refine b_icmp_ge (pc := 26) (tgt := 33) hx hb rfl tI_1  dX12_code_26 (by decide) (fun c_85 => ?_) (fun c_85 => ?_)
          ·
            as_aux_lemma =>
              refine lv_lconst (pc := 33) (v := 0) hx hb dX12_code_33 (by decide) ?_
              refine lv_lstore_n (pc := 34) (lv' := [(2, .long 0), (0, .ref a0), (1, .int x0)]) hx hb dX12_code_34 rfl hl (by decide) rfl (fun ls hl => ?_)
              refine lv_iconst (pc := 35) (v := 0) hx hb dX12_code_35 (by decide) ?_
              refine lv_istore (pc := 36) (lv' := [(4, .int 0), (2, .long 0), (0, .ref a0), (1, .int x0)]) hx hb dX12_code_36 hl (by decide) rfl (fun ls hl => ?_)
              have lp_92 : ∀ (n : Nat) (x_86 : Int32) (y_88 : Int64) (H : Heap) (locs : List Loc) (ls : Array Slot), (0 ≤ x_86.toInt ∧ x_86.toInt ≤ 16) → (x_86.toInt ≤ x13.toInt) → (y_88.toInt = mxP (wP f1 x10.toInt) (x_86.toInt).toNat) → (2147483647 - x_86.toInt).toNat < n → va_P D gcl (zS_17 cB cC cI cJ a0 a1 x1 x2 x3 x4 x5 x6 x7 x8 a2 a3 a4 a5 a6 a7 a8 a9 a10 a11 a12 a13 a14 a15 a16 x9 x10 x11 x12 x13 x14 a17 a18 a19 x15 a20 x16 a21 x17 x18 a22 a23 a24 a25 x19 a26 x20 a27 a28 a29 y0 a30 a31 a32 a33 a34 a35 a36 a37 a38 x21 x22 x23 y1 a39 x24 a40 a41 a42 a43 x25 x26 x27 x28 a18 f0 a19 f1 a29 f2) H → va_D A (zS_17 cB cC cI cJ a0 a1 x1 x2 x3 x4 x5 x6 x7 x8 a2 a3 a4 a5 a6 a7 a8 a9 a10 a11 a12 a13 a14 a15 a16 x9 x10 x11 x12 x13 x14 a17 a18 a19 x15 a20 x16 a21 x17 x18 a22 a23 a24 a25 x19 a26 x20 a27 a28 a29 y0 a30 a31 a32 a33 a34 a35 a36 a37 a38 x21 x22 x23 y1 a39 x24 a40 a41 a42 a43 x25 x26 x27 x28 a18 f0 a19 f1 a29 f2) → va_S A s.heap H locs → lv_has ls 12 [(4, .int x_86), (2, .long y_88), (0, .ref a0), (1, .int x0)] → W p l e ({ frames := 3, cells := 0, slots := 0, locals := 72 }) s m args below meth c H locs 0 0 Q (F0 m 38 ls []) := by
                intro n
                induction n with
                | zero => intro x_86 y_88 H locs ls hi_87 hi_90 hi_91 hmu; exact absurd hmu (Nat.not_lt_zero _)
                | succ n ih_lp_92 =>
                  intro x_86 y_88 H locs ls hi_87 hi_90 hi_91 hmu_lp_92 hP hD hS hl
                  have hi_89 := n_rngL y_88
                  refine lv_iload (pc := 38) hx hb dX12_code_38 (lv_at hl 0 rfl) ?_
                  refine lv_aload_n (pc := 40) hx hb dX12_code_40 rfl (lv_at hl 2 rfl) ?_
                  refine va_get (pc := 41) (ci := 12) (v := .int x13) (C := RX12) (T := TX12) (N := 73) hx hb hts iX12 hown hK hP 0 rfl rfl 28 (by decide) (hts _ tw_1429) (fun _ h9 => h9) rfl dX12_code_41 ?_
                  refine b_icmp_ge (pc := 44) (tgt := 73) hx hb rfl rfl  dX12_code_44 (by decide) (fun c_93 => ?_) (fun c_93 => ?_)
                  ·
                    as_aux_lemma =>
                      refine lv_iload_n (pc := 73) hx hb dX12_code_73 rfl (lv_at hl 3 rfl) ?_
                      refine lv_iconst (pc := 74) (v := 3) hx hb dX12_code_74 (by decide) ?_
                      refine b_icmp_ne (pc := 75) (tgt := 80) hx hb rfl tI_3  dX12_code_75 (by decide) (fun c_94 => absurd c_94 (by first | exact (om_1794 c_7) | ((first | omega | (unfold zBd at *; omega))))) (fun c_94 => ?_)
                      refine lv_lload_n (pc := 78) hx hb dX12_code_78 rfl (lv_at hl 1 rfl) ?_
                      have hP9 : va_P D gcl (zS_17 cB cC cI cJ a0 a1 x1 x2 x3 x4 x5 x6 x7 x8 a2 a3 a4 a5 a6 a7 a8 a9 a10 a11 a12 a13 a14 a15 a16 x9 x10 x11 x12 x13 x14 a17 a18 a19 x15 a20 x16 a21 x17 x18 a22 a23 a24 a25 x19 a26 x20 a27 a28 a29 y0 a30 a31 a32 a33 a34 a35 a36 a37 a38 x21 x22 x23 y1 a39 x24 a40 a41 a42 a43 x25 x26 x27 x28 a18 f0 a19 f1 a29 f2) H := g_psub hP [0, 1, 2, 3] rfl
                      have hD9 : va_D A (zS_17 cB cC cI cJ a0 a1 x1 x2 x3 x4 x5 x6 x7 x8 a2 a3 a4 a5 a6 a7 a8 a9 a10 a11 a12 a13 a14 a15 a16 x9 x10 x11 x12 x13 x14 a17 a18 a19 x15 a20 x16 a21 x17 x18 a22 a23 a24 a25 x19 a26 x20 a27 a28 a29 y0 a30 a31 a32 a33 a34 a35 a36 a37 a38 x21 x22 x23 y1 a39 x24 a40 a41 a42 a43 x25 x26 x27 x28 a18 f0 a19 f1 a29 f2) := hD.sub [0, 1, 2, 3] (by decide) rfl
                      exact hret y_88 ((fun _ => 0), (fun k => [f2].getD k (fun _ => 0)), (fun _ => (fun _ => 0)), (fun _ => 0), (fun _ => 0)) dX12_code_79 (show cdQ y_88.toInt x0.toInt x13.toInt (mxP (wP f1 x10.toInt) (x13.toInt).toNat) (flM (fun i j => (pM9 f0 f1 x10.toInt x11.toInt i j).toInt) x13.toInt (-1) (16 * x13.toInt).toNat) from cd_3 (by first | exact (om_153 c_94) | ((first | omega | (unfold zBd at *; omega)))) (by first | exact (om_1795 c_85) | ((first | omega | (unfold zBd at *; omega)))) (by have e9 : (x_86.toInt).toNat = (x13.toInt).toNat := (by (first | omega | (unfold zBd at *; omega))); have q9 := hi_91; rw [e9] at q9; exact q9)) hP9 hD9 hS
                  ·
                    as_aux_lemma =>
                      refine lv_aload_n (pc := 47) hx hb dX12_code_47 rfl (lv_at hl 2 rfl) ?_
                      refine lv_iload (pc := 48) hx hb dX12_code_48 (lv_at hl 0 rfl) ?_
                      refine gd_i (pc := 50) (wc := (zS_27 cB cC cI cJ a0 a1 x1 x2 x3 x4 x5 x6 x7 x8 a2 a3 a4 a5 a6 a7 a8 a9 a10 a11 a12 a13 a14 a15 a16 x9 x10 x11 x12 x13 x14 a17 a18 a19 x15 a20 x16 a21 x17 x18 a22 a23 a24 a25 x19 a26 x20 a27 a28 a29 y0 a30 a31 a32 a33 a34 a35 a36 a37 a38 x21 x22 x23 y1 a39 x24 a40 a41 a42 a43 x25 x26 x27 x28 a19 f1)) hP hD hS hA [0, 2] rfl (by decide +kernel) (fun _ => by rfl) (fun hPc hDc => va_runV (As := [.int x_86]) (rest := []) ⟨hx, hb, hml, hown, hts⟩ (k_X12_power l D cB cC cI cJ _ a0 a1 a2 a3 a4 a5 a6 a7 a8 a9 a10 a11 a12 a13 a14 a15 a16 a17 a18 a19 a20 a21 a22 a23 a24 a25 a26 a27 a28 a29 a30 a31 a32 a33 a34 a35 a36 a37 a38 a39 a40 a41 a42 a43 x_86 x1 x2 x3 x4 x5 x6 x7 x8 x9 x10 x11 x12 x13 x14 x15 x16 x17 x18 x19 x20 x21 x22 x23 x24 x25 x26 x27 x28 y0 y1 f1 (by first | exact (om_1112 hi_87.1 c_93 h_x13.2) | ((first | omega | (unfold zBd at *; omega)))) h_x1 h_x2 h_x3 h_x4 h_x5 h_x6 h_x9 h_x10 h_x11 h_x12 h_x13 h_x15 h_x16 h_x17 h_x19 h_x20 h_x21 h_x22 h_x23 h_x24 h_x25 h_x26 h_x27 h_x28 hr_a0_0 hr_a0_1 hr_a0_2 hf_f1) ⟨gcwB hts tw_1992 tw_14 tw_1989 hd_yX12_power ⟨Nat.le_of_ble_eq_true rfl, Nat.le_of_ble_eq_true rfl⟩, hts _ tw_1991, hts _ tp_111⟩ ⟨gblind, va_recv hK hPc (ci := 12) (q0 := 0) rfl rfl, (gpreS hPc hK hDc hN).2⟩ rfl rfl hl.1 rfl (lv_room (Nat.le_of_ble_eq_true rfl)) dX12_code_50 ⟨Nat.le_of_ble_eq_true rfl, Nat.le_of_ble_eq_true rfl⟩) (fun r_96 u_95 H locs hw_97 hP hD hS => ?_)
                      replace hP : va_P D gcl (zS_17 cB cC cI cJ a0 a1 x1 x2 x3 x4 x5 x6 x7 x8 a2 a3 a4 a5 a6 a7 a8 a9 a10 a11 a12 a13 a14 a15 a16 x9 x10 x11 x12 x13 x14 a17 a18 a19 x15 a20 x16 a21 x17 x18 a22 a23 a24 a25 x19 a26 x20 a27 a28 a29 y0 a30 a31 a32 a33 a34 a35 a36 a37 a38 x21 x22 x23 y1 a39 x24 a40 a41 a42 a43 x25 x26 x27 x28 a18 f0 a19 f1 a29 f2) H := hP
                      replace hD : va_D A (zS_17 cB cC cI cJ a0 a1 x1 x2 x3 x4 x5 x6 x7 x8 a2 a3 a4 a5 a6 a7 a8 a9 a10 a11 a12 a13 a14 a15 a16 x9 x10 x11 x12 x13 x14 a17 a18 a19 x15 a20 x16 a21 x17 x18 a22 a23 a24 a25 x19 a26 x20 a27 a28 a29 y0 a30 a31 a32 a33 a34 a35 a36 a37 a38 x21 x22 x23 y1 a39 x24 a40 a41 a42 a43 x25 x26 x27 x28 a18 f0 a19 f1 a29 f2) := hD
                      obtain ⟨hw_98, hw_99⟩ := hw_97
                      replace hw_98 : ((-499900005) ≤ r_96.toInt ∧ r_96.toInt ≤ 499900005) := hw_98
                      replace hw_99 : (r_96.toInt = wP f1 x10.toInt x_86.toInt) := hw_99
                      have rr_96 : zBd r_96.toInt (-2147483648) 2147483647 := n_rng r_96
                      refine b_i2l (pc := 53) hx hb rfl dX12_code_53 (fun y_100 ey_100 => ?_)
                      have ry_100 : zBd r_96.toInt (-2147483648) 2147483647 := n_rng r_96
                      refine lv_lload_n (pc := 54) hx hb dX12_code_54 rfl (lv_at hl 1 rfl) ?_
                      refine b_lcmp_le (pc := 55) (tgt := 67) hx hb rfl rfl dX12_code_55 dX12_code_56 (by decide) (fun c_101 => ?_) (fun c_101 => ?_)
                      ·
                        as_aux_lemma =>
                          refine b_iinc (pc := 67) hx hb dX12_code_67 hl (k := 0) rfl rfl tI_1 (by first | exact (om_2 hi_87.1) | ((first | omega | (unfold zBd at *; omega)))) (by first | exact (om_940 hi_87.2) | ((first | omega | (unfold zBd at *; omega)))) (by decide) (fun x_102 ex_102 ls hl => ?_)
                          replace hl : lv_has ls 12 [(4, .int x_102), (2, .long y_88), (0, .ref a0), (1, .int x0)] := hl
                          refine lv_goto (pc := 70) (tgt := 38) hx hb dX12_code_70 (by decide) ?_
                          exact ih_lp_92 x_102 y_88 _ _ ls (by first | exact (om_1110 ex_102 hi_87.1 c_93 h_x13.2) | ((first | omega | (unfold zBd at *; omega)))) (by first | exact (om_40 ex_102 c_93) | ((first | omega | (unfold zBd at *; omega)))) (mx_step hi_91 hw_99 (by first | exact (om_0 hi_87.1) | ((first | omega | (unfold zBd at *; omega)))) (by first | exact (om_1793 c_101 ey_100) | ((first | omega | (unfold zBd at *; omega)))) (by first | exact (om_5 ex_102) | ((first | omega | (unfold zBd at *; omega))))) (by (first | omega | (unfold zBd at *; omega))) hP hD hS (lv_sub hl [0, 1, 2, 3] rfl)
                      ·
                        as_aux_lemma =>
                          refine lv_aload_n (pc := 59) hx hb dX12_code_59 rfl (lv_at hl 2 rfl) ?_
                          refine lv_iload (pc := 60) hx hb dX12_code_60 (lv_at hl 0 rfl) ?_
                          refine gd_i (pc := 62) (wc := (zS_27 cB cC cI cJ a0 a1 x1 x2 x3 x4 x5 x6 x7 x8 a2 a3 a4 a5 a6 a7 a8 a9 a10 a11 a12 a13 a14 a15 a16 x9 x10 x11 x12 x13 x14 a17 a18 a19 x15 a20 x16 a21 x17 x18 a22 a23 a24 a25 x19 a26 x20 a27 a28 a29 y0 a30 a31 a32 a33 a34 a35 a36 a37 a38 x21 x22 x23 y1 a39 x24 a40 a41 a42 a43 x25 x26 x27 x28 a19 f1)) hP hD hS hA [0, 2] rfl (by decide +kernel) (fun _ => by rfl) (fun hPc hDc => va_runV (As := [.int x_86]) (rest := []) ⟨hx, hb, hml, hown, hts⟩ (k_X12_power l D cB cC cI cJ _ a0 a1 a2 a3 a4 a5 a6 a7 a8 a9 a10 a11 a12 a13 a14 a15 a16 a17 a18 a19 a20 a21 a22 a23 a24 a25 a26 a27 a28 a29 a30 a31 a32 a33 a34 a35 a36 a37 a38 a39 a40 a41 a42 a43 x_86 x1 x2 x3 x4 x5 x6 x7 x8 x9 x10 x11 x12 x13 x14 x15 x16 x17 x18 x19 x20 x21 x22 x23 x24 x25 x26 x27 x28 y0 y1 f1 (by first | exact (om_1112 hi_87.1 c_93 h_x13.2) | ((first | omega | (unfold zBd at *; omega)))) h_x1 h_x2 h_x3 h_x4 h_x5 h_x6 h_x9 h_x10 h_x11 h_x12 h_x13 h_x15 h_x16 h_x17 h_x19 h_x20 h_x21 h_x22 h_x23 h_x24 h_x25 h_x26 h_x27 h_x28 hr_a0_0 hr_a0_1 hr_a0_2 hf_f1) ⟨gcwB hts tw_1992 tw_14 tw_1989 hd_yX12_power ⟨Nat.le_of_ble_eq_true rfl, Nat.le_of_ble_eq_true rfl⟩, hts _ tw_1991, hts _ tp_111⟩ ⟨gblind, va_recv hK hPc (ci := 12) (q0 := 0) rfl rfl, (gpreS hPc hK hDc hN).2⟩ rfl rfl hl.1 rfl (lv_room (Nat.le_of_ble_eq_true rfl)) dX12_code_62 ⟨Nat.le_of_ble_eq_true rfl, Nat.le_of_ble_eq_true rfl⟩) (fun r_104 u_103 H locs hw_105 hP hD hS => ?_)
                          replace hP : va_P D gcl (zS_17 cB cC cI cJ a0 a1 x1 x2 x3 x4 x5 x6 x7 x8 a2 a3 a4 a5 a6 a7 a8 a9 a10 a11 a12 a13 a14 a15 a16 x9 x10 x11 x12 x13 x14 a17 a18 a19 x15 a20 x16 a21 x17 x18 a22 a23 a24 a25 x19 a26 x20 a27 a28 a29 y0 a30 a31 a32 a33 a34 a35 a36 a37 a38 x21 x22 x23 y1 a39 x24 a40 a41 a42 a43 x25 x26 x27 x28 a18 f0 a19 f1 a29 f2) H := hP
                          replace hD : va_D A (zS_17 cB cC cI cJ a0 a1 x1 x2 x3 x4 x5 x6 x7 x8 a2 a3 a4 a5 a6 a7 a8 a9 a10 a11 a12 a13 a14 a15 a16 x9 x10 x11 x12 x13 x14 a17 a18 a19 x15 a20 x16 a21 x17 x18 a22 a23 a24 a25 x19 a26 x20 a27 a28 a29 y0 a30 a31 a32 a33 a34 a35 a36 a37 a38 x21 x22 x23 y1 a39 x24 a40 a41 a42 a43 x25 x26 x27 x28 a18 f0 a19 f1 a29 f2) := hD
                          obtain ⟨hw_106, hw_107⟩ := hw_105
                          replace hw_106 : ((-499900005) ≤ r_104.toInt ∧ r_104.toInt ≤ 499900005) := hw_106
                          replace hw_107 : (r_104.toInt = wP f1 x10.toInt x_86.toInt) := hw_107
                          have rr_104 : zBd r_104.toInt (-2147483648) 2147483647 := n_rng r_104
                          refine b_i2l (pc := 65) hx hb rfl dX12_code_65 (fun y_108 ey_108 => ?_)
                          have ry_108 : zBd r_104.toInt (-2147483648) 2147483647 := n_rng r_104
                          refine lv_lstore_n (pc := 66) (lv' := [(2, .long y_108), (4, .int x_86), (0, .ref a0), (1, .int x0)]) hx hb dX12_code_66 rfl hl (by decide) rfl (fun ls hl => ?_)
                          refine b_iinc (pc := 67) hx hb dX12_code_67 hl (k := 1) rfl rfl tI_1 (by first | exact (om_2 hi_87.1) | ((first | omega | (unfold zBd at *; omega)))) (by first | exact (om_940 hi_87.2) | ((first | omega | (unfold zBd at *; omega)))) (by decide) (fun x_109 ex_109 ls hl => ?_)
                          replace hl : lv_has ls 12 [(4, .int x_109), (2, .long y_108), (0, .ref a0), (1, .int x0)] := hl
                          refine lv_goto (pc := 70) (tgt := 38) hx hb dX12_code_70 (by decide) ?_
                          exact ih_lp_92 x_109 y_108 _ _ ls (by first | exact (om_1110 ex_109 hi_87.1 c_93 h_x13.2) | ((first | omega | (unfold zBd at *; omega)))) (by first | exact (om_40 ex_109 c_93) | ((first | omega | (unfold zBd at *; omega)))) (mx_step hi_91 hw_99 (by first | exact (om_0 hi_87.1) | ((first | omega | (unfold zBd at *; omega)))) (by have q := hw_107; (first | omega | (unfold zBd at *; omega))) (by first | exact (om_5 ex_109) | ((first | omega | (unfold zBd at *; omega))))) (by (first | omega | (unfold zBd at *; omega))) hP hD hS (lv_sub hl [0, 1, 2, 3] rfl)
              exact lp_92 _ 0 0 _ _ ls (n_c tI_0 (by decide)) (by have q := tI_0; (first | omega | (unfold zBd at *; omega))) (tL_0) (Nat.lt_succ_self _) hP hD hS (lv_sub hl [0, 1, 2, 3] rfl)
          ·
            as_aux_lemma =>
              refine lv_ldc2 (pc := 29) hx hb hown (hts _ tw_1838) dX12_code_29 ?_
              have hP9 : va_P D gcl (zS_17 cB cC cI cJ a0 a1 x1 x2 x3 x4 x5 x6 x7 x8 a2 a3 a4 a5 a6 a7 a8 a9 a10 a11 a12 a13 a14 a15 a16 x9 x10 x11 x12 x13 x14 a17 a18 a19 x15 a20 x16 a21 x17 x18 a22 a23 a24 a25 x19 a26 x20 a27 a28 a29 y0 a30 a31 a32 a33 a34 a35 a36 a37 a38 x21 x22 x23 y1 a39 x24 a40 a41 a42 a43 x25 x26 x27 x28 a18 f0 a19 f1 a29 f2) H := g_psub hP [0, 1, 2, 3] rfl
              have hD9 : va_D A (zS_17 cB cC cI cJ a0 a1 x1 x2 x3 x4 x5 x6 x7 x8 a2 a3 a4 a5 a6 a7 a8 a9 a10 a11 a12 a13 a14 a15 a16 x9 x10 x11 x12 x13 x14 a17 a18 a19 x15 a20 x16 a21 x17 x18 a22 a23 a24 a25 x19 a26 x20 a27 a28 a29 y0 a30 a31 a32 a33 a34 a35 a36 a37 a38 x21 x22 x23 y1 a39 x24 a40 a41 a42 a43 x25 x26 x27 x28 a18 f0 a19 f1 a29 f2) := hD.sub [0, 1, 2, 3] (by decide) rfl
              have k9 := tL_m1
              exact hret (-1) ((fun _ => 0), (fun k => [f2].getD k (fun _ => 0)), (fun _ => (fun _ => 0)), (fun _ => 0), (fun _ => 0)) dX12_code_32 (show cdQ ((-1) : Int64).toInt x0.toInt x13.toInt (mxP (wP f1 x10.toInt) (x13.toInt).toNat) (flM (fun i j => (pM9 f0 f1 x10.toInt x11.toInt i j).toInt) x13.toInt (-1) (16 * x13.toInt).toNat) from (by first | exact cd_no3 (by (first | omega | (unfold zBd at *; omega))) (by (first | omega | (unfold zBd at *; omega))) (by (first | omega | (unfold zBd at *; omega))) | exact cd_no (by (first | omega | (unfold zBd at *; omega))) (by (first | omega | (unfold zBd at *; omega))) (by (first | omega | (unfold zBd at *; omega))))) hP9 hD9 hS
theorem om_1796 {a b c d : Int} (h0 : (a < b)) (h1 : (b < c)) (h2 : (¬ a = d)) (h3 : (¬ b = d)) : (a < b ∧ b < c ∧ ¬ a = d ∧ ¬ b = d) := by omega
set_option maxHeartbeats 4000000 in
set_option maxRecDepth 100000 in
theorem k_X12_leastWithout (l : Launch) (D : va_G) (cB cC cI cJ : ClassId) (sz : Nat) (a0 a1 a2 a3 a4 a5 a6 a7 a8 a9 a10 a11 a12 a13 a14 a15 a16 a17 a18 a19 a20 a21 a22 a23 a24 a25 a26 a27 a28 a29 a30 a31 a32 a33 a34 a35 a36 a37 a38 a39 a40 a41 a42 a43 : Nat) (x0 x1 x2 x3 x4 x5 x6 x7 x8 x9 x10 x11 x12 x13 x14 x15 x16 x17 x18 x19 x20 x21 x22 x23 x24 x25 x26 x27 x28 : Int32) (y0 y1 : Int64) (f0 f1 f2 : Nat → Int32) (h_x1 : zBd x1.toInt 0 1600) (h_x2 : zBd x2.toInt 0 1600) (h_x3 : zBd x3.toInt 0 1600) (h_x4 : zBd x4.toInt (-1) 1600) (h_x5 : zBd x5.toInt 0 4) (h_x6 : zBd x6.toInt (-1) 1600) (h_x9 : zBd x9.toInt 0 8) (h_x10 : zBd x10.toInt 0 5) (h_x11 : zBd x11.toInt 0 6) (h_x12 : zBd x12.toInt 0 6) (h_x13 : zBd x13.toInt 0 16) (h_x15 : zBd x15.toInt 0 60) (h_x16 : zBd x16.toInt 0 1600) (h_x17 : zBd x17.toInt 0 1700) (h_x19 : zBd x19.toInt 0 1700) (h_x20 : zBd x20.toInt 0 1700) (h_x21 : zBd x21.toInt 0 200) (h_x22 : zBd x22.toInt 0 40) (h_x23 : zBd x23.toInt 0 40) (h_x24 : zBd x24.toInt 0 1) (h_x25 : zBd x25.toInt 0 14) (h_x26 : zBd x26.toInt 0 200) (h_x27 : zBd x27.toInt 0 40) (h_x28 : zBd x28.toInt 0 40) (hr_a0_0 : (x22.toInt ≤ x21.toInt)) (hr_a0_1 : (x21.toInt + x23.toInt ≤ 200)) (hr_a0_2 : (x10.toInt = 0 ∨ 2 ≤ x9.toInt)) (hf_f0 : (∀ j, (-9999) ≤ (f0 j).toInt ∧ (f0 j).toInt ≤ 9999)) (hf_f1 : (∀ j, (-9999) ≤ (f1 j).toInt ∧ (f1 j).toInt ≤ 9999)) : Met l yX12_leastWithout (.code yX12_leastWithout cX12_leastWithout 8 (some .long) :: lw_gd) ({ frames := 3, cells := 0, slots := 0, locals := 72 }) (gPre D [(cB, .byte), (cC, .char), (cI, .int), (cJ, .long)] [.ref a0, .int x0] (zS_17 cB cC cI cJ a0 a1 x1 x2 x3 x4 x5 x6 x7 x8 a2 a3 a4 a5 a6 a7 a8 a9 a10 a11 a12 a13 a14 a15 a16 x9 x10 x11 x12 x13 x14 a17 a18 a19 x15 a20 x16 a21 x17 x18 a22 a23 a24 a25 x19 a26 x20 a27 a28 a29 y0 a30 a31 a32 a33 a34 a35 a36 a37 a38 x21 x22 x23 y1 a39 x24 a40 a41 a42 a43 x25 x26 x27 x28 a18 f0 a19 f1 a29 f2) sz) (va_Ql (fun r u => (r.toInt = lvM f0 f1 x10.toInt x11.toInt x13.toInt x0.toInt)) (gB D (va_A (zS_17 cB cC cI cJ a0 a1 x1 x2 x3 x4 x5 x6 x7 x8 a2 a3 a4 a5 a6 a7 a8 a9 a10 a11 a12 a13 a14 a15 a16 x9 x10 x11 x12 x13 x14 a17 a18 a19 x15 a20 x16 a21 x17 x18 a22 a23 a24 a25 x19 a26 x20 a27 a28 a29 y0 a30 a31 a32 a33 a34 a35 a36 a37 a38 x21 x22 x23 y1 a39 x24 a40 a41 a42 a43 x25 x26 x27 x28 a18 f0 a19 f1 a29 f2) sz) (fun u : gEx => (zS_17 cB cC cI cJ a0 a1 x1 x2 x3 x4 x5 x6 x7 x8 a2 a3 a4 a5 a6 a7 a8 a9 a10 a11 a12 a13 a14 a15 a16 x9 x10 x11 x12 x13 x14 a17 a18 a19 x15 a20 x16 a21 x17 x18 a22 a23 a24 a25 x19 a26 x20 a27 a28 a29 y0 a30 a31 a32 a33 a34 a35 a36 a37 a38 x21 x22 x23 y1 a39 x24 a40 a41 a42 a43 x25 x26 x27 x28 a18 f0 a19 f1 a29 (u.2.1 0)))) (va_A (zS_17 cB cC cI cJ a0 a1 x1 x2 x3 x4 x5 x6 x7 x8 a2 a3 a4 a5 a6 a7 a8 a9 a10 a11 a12 a13 a14 a15 a16 x9 x10 x11 x12 x13 x14 a17 a18 a19 x15 a20 x16 a21 x17 x18 a22 a23 a24 a25 x19 a26 x20 a27 a28 a29 y0 a30 a31 a32 a33 a34 a35 a36 a37 a38 x21 x22 x23 y1 a39 x24 a40 a41 a42 a43 x25 x26 x27 x28 a18 f0 a19 f1 a29 f2) sz)) 0 0 (va_A (zS_17 cB cC cI cJ a0 a1 x1 x2 x3 x4 x5 x6 x7 x8 a2 a3 a4 a5 a6 a7 a8 a9 a10 a11 a12 a13 a14 a15 a16 x9 x10 x11 x12 x13 x14 a17 a18 a19 x15 a20 x16 a21 x17 x18 a22 a23 a24 a25 x19 a26 x20 a27 a28 a29 y0 a30 a31 a32 a33 a34 a35 a36 a37 a38 x21 x22 x23 y1 a39 x24 a40 a41 a42 a43 x25 x26 x27 x28 a18 f0 a19 f1 a29 f2) sz) := by
  refine gOf_l (by decide +kernel) (Nat.le_of_ble_eq_true rfl) ?_
  intro p e s m args below meth c ls A Q hx hb hts hown hml hN hK hP hD hA hl hret
  replace hown : s.vm.findClass RX12 = some m.cls := hown
  have hS : va_S A s.heap s.heap [] := va_S.rf
  replace hP : va_P D gcl (zS_17 cB cC cI cJ a0 a1 x1 x2 x3 x4 x5 x6 x7 x8 a2 a3 a4 a5 a6 a7 a8 a9 a10 a11 a12 a13 a14 a15 a16 x9 x10 x11 x12 x13 x14 a17 a18 a19 x15 a20 x16 a21 x17 x18 a22 a23 a24 a25 x19 a26 x20 a27 a28 a29 y0 a30 a31 a32 a33 a34 a35 a36 a37 a38 x21 x22 x23 y1 a39 x24 a40 a41 a42 a43 x25 x26 x27 x28 a18 f0 a19 f1 a29 f2) s.heap := hP
  replace hl : lv_has ls 8 [(0, .ref a0), (1, .int x0)] := hl
  have rx0 : zBd x0.toInt (-2147483648) 2147483647 := n_rng x0
  have rx7 : zBd x7.toInt (-2147483648) 2147483647 := n_rng x7
  have rx8 : zBd x8.toInt (-2147483648) 2147483647 := n_rng x8
  have rx14 : zBd x14.toInt (-2147483648) 2147483647 := n_rng x14
  have rx18 : zBd x18.toInt (-2147483648) 2147483647 := n_rng x18
  have ry0 := n_rngL y0
  have ry1 := n_rngL y1
  refine lv_ldc2 (pc := 0) hx hb hown (hts _ tw_1838) dX12_leastWithout_0 ?_
  refine lv_lstore_n (pc := 3) (lv' := [(2, .long (-1)), (0, .ref a0), (1, .int x0)]) hx hb dX12_leastWithout_3 rfl hl (by decide) rfl (fun ls hl => ?_)
  refine lv_iconst (pc := 4) (v := 0) hx hb dX12_leastWithout_4 (by decide) ?_
  refine lv_istore (pc := 5) (lv' := [(4, .int 0), (2, .long (-1)), (0, .ref a0), (1, .int x0)]) hx hb dX12_leastWithout_5 hl (by decide) rfl (fun ls hl => ?_)
  have lp_8 : ∀ (n : Nat) (x_1 : Int32) (y_3 : Int64) (f_5 : Nat → Int32) (H : Heap) (locs : List Loc) (ls : Array Slot), (0 ≤ x_1.toInt ∧ x_1.toInt ≤ 16) → (x_1.toInt ≤ x13.toInt) → (fl19 (flM (fun i j => (pM9 f0 f1 x10.toInt x11.toInt i j).toInt) x13.toInt x0.toInt) y_3.toInt (16 * x_1.toInt)) → (2147483647 - x_1.toInt).toNat < n → va_P D gcl (zS_17 cB cC cI cJ a0 a1 x1 x2 x3 x4 x5 x6 x7 x8 a2 a3 a4 a5 a6 a7 a8 a9 a10 a11 a12 a13 a14 a15 a16 x9 x10 x11 x12 x13 x14 a17 a18 a19 x15 a20 x16 a21 x17 x18 a22 a23 a24 a25 x19 a26 x20 a27 a28 a29 y0 a30 a31 a32 a33 a34 a35 a36 a37 a38 x21 x22 x23 y1 a39 x24 a40 a41 a42 a43 x25 x26 x27 x28 a18 f0 a19 f1 a29 f_5) H → va_D A (zS_17 cB cC cI cJ a0 a1 x1 x2 x3 x4 x5 x6 x7 x8 a2 a3 a4 a5 a6 a7 a8 a9 a10 a11 a12 a13 a14 a15 a16 x9 x10 x11 x12 x13 x14 a17 a18 a19 x15 a20 x16 a21 x17 x18 a22 a23 a24 a25 x19 a26 x20 a27 a28 a29 y0 a30 a31 a32 a33 a34 a35 a36 a37 a38 x21 x22 x23 y1 a39 x24 a40 a41 a42 a43 x25 x26 x27 x28 a18 f0 a19 f1 a29 f_5) → va_S A s.heap H locs → lv_has ls 8 [(4, .int x_1), (2, .long y_3), (0, .ref a0), (1, .int x0)] → W p l e ({ frames := 3, cells := 0, slots := 0, locals := 72 }) s m args below meth c H locs 0 0 Q (F0 m 7 ls []) := by
    intro n
    induction n with
    | zero => intro x_1 y_3 f_5 H locs ls hi_2 hi_6 hi_7 hmu; exact absurd hmu (Nat.not_lt_zero _)
    | succ n ih_lp_8 =>
      intro x_1 y_3 f_5 H locs ls hi_2 hi_6 hi_7 hmu_lp_8 hP hD hS hl
      have hi_4 := n_rngL y_3
      refine lv_iload (pc := 7) hx hb dX12_leastWithout_7 (lv_at hl 0 rfl) ?_
      refine lv_aload_n (pc := 9) hx hb dX12_leastWithout_9 rfl (lv_at hl 2 rfl) ?_
      refine va_get (pc := 10) (ci := 12) (v := .int x13) (C := RX12) (T := TX12) (N := 73) hx hb hts iX12 hown hK hP 0 rfl rfl 28 (by decide) (hts _ tw_1429) (fun _ h9 => h9) rfl dX12_leastWithout_10 ?_
      have bd_h_x13 : 0 ≤ x13.toInt ∧ x13.toInt ≤ 16 := h_x13
      refine b_icmp_ge (pc := 13) (tgt := 84) hx hb rfl rfl  dX12_leastWithout_13 (by decide) (fun c_9 => ?_) (fun c_9 => ?_)
      ·
        as_aux_lemma =>
          refine lv_lload_n (pc := 84) hx hb dX12_leastWithout_84 rfl (lv_at hl 1 rfl) ?_
          have hP9 : va_P D gcl (zS_17 cB cC cI cJ a0 a1 x1 x2 x3 x4 x5 x6 x7 x8 a2 a3 a4 a5 a6 a7 a8 a9 a10 a11 a12 a13 a14 a15 a16 x9 x10 x11 x12 x13 x14 a17 a18 a19 x15 a20 x16 a21 x17 x18 a22 a23 a24 a25 x19 a26 x20 a27 a28 a29 y0 a30 a31 a32 a33 a34 a35 a36 a37 a38 x21 x22 x23 y1 a39 x24 a40 a41 a42 a43 x25 x26 x27 x28 a18 f0 a19 f1 a29 f_5) H := g_psub hP [0, 1, 2, 3] rfl
          have hD9 : va_D A (zS_17 cB cC cI cJ a0 a1 x1 x2 x3 x4 x5 x6 x7 x8 a2 a3 a4 a5 a6 a7 a8 a9 a10 a11 a12 a13 a14 a15 a16 x9 x10 x11 x12 x13 x14 a17 a18 a19 x15 a20 x16 a21 x17 x18 a22 a23 a24 a25 x19 a26 x20 a27 a28 a29 y0 a30 a31 a32 a33 a34 a35 a36 a37 a38 x21 x22 x23 y1 a39 x24 a40 a41 a42 a43 x25 x26 x27 x28 a18 f0 a19 f1 a29 f_5) := hD.sub [0, 1, 2, 3] (by decide) rfl
          exact hret y_3 ((fun _ => 0), (fun k => [f_5].getD k (fun _ => 0)), (fun _ => (fun _ => 0)), (fun _ => 0), (fun _ => 0)) dX12_leastWithout_85 (show y_3.toInt = lvM f0 f1 x10.toInt x11.toInt x13.toInt x0.toInt from fl1_end hi_7 (by first | exact (om_0 hi_2.1) | ((first | omega | (unfold zBd at *; omega)))) (by (first | omega | (unfold zBd at *; omega))) (by (first | omega | (unfold zBd at *; omega))) rfl) hP9 hD9 hS
      ·
        as_aux_lemma =>
          refine lv_iload (pc := 16) hx hb dX12_leastWithout_16 (lv_at hl 0 rfl) ?_
          refine lv_iconst (pc := 18) (v := 1) hx hb dX12_leastWithout_18 (by decide) ?_
          refine b_iadd (pc := 19) hx hb rfl tI_1 (by first | exact (om_2 hi_2.1) | ((first | omega | (unfold zBd at *; omega)))) (by first | exact (om_940 hi_2.2) | ((first | omega | (unfold zBd at *; omega)))) dX12_leastWithout_19 (fun x_10 ex_10 => ?_)
          refine lv_istore (pc := 20) (lv' := [(5, .int x_10), (4, .int x_1), (2, .long y_3), (0, .ref a0), (1, .int x0)]) hx hb dX12_leastWithout_20 hl (by decide) rfl (fun ls hl => ?_)
          have lp_18 : ∀ (n : Nat) (x_11 : Int32) (y_13 : Int64) (f_15 : Nat → Int32) (H : Heap) (locs : List Loc) (ls : Array Slot), (0 ≤ x_11.toInt ∧ x_11.toInt ≤ 16) → (x_1.toInt < x_11.toInt ∧ (x_11.toInt ≤ x13.toInt ∨ x_11.toInt = x_1.toInt + 1)) → (fl19 (flM (fun i j => (pM9 f0 f1 x10.toInt x11.toInt i j).toInt) x13.toInt x0.toInt) y_13.toInt (16 * x_1.toInt + x_11.toInt)) → (2147483647 - x_11.toInt).toNat < n → va_P D gcl (zS_17 cB cC cI cJ a0 a1 x1 x2 x3 x4 x5 x6 x7 x8 a2 a3 a4 a5 a6 a7 a8 a9 a10 a11 a12 a13 a14 a15 a16 x9 x10 x11 x12 x13 x14 a17 a18 a19 x15 a20 x16 a21 x17 x18 a22 a23 a24 a25 x19 a26 x20 a27 a28 a29 y0 a30 a31 a32 a33 a34 a35 a36 a37 a38 x21 x22 x23 y1 a39 x24 a40 a41 a42 a43 x25 x26 x27 x28 a18 f0 a19 f1 a29 f_15) H → va_D A (zS_17 cB cC cI cJ a0 a1 x1 x2 x3 x4 x5 x6 x7 x8 a2 a3 a4 a5 a6 a7 a8 a9 a10 a11 a12 a13 a14 a15 a16 x9 x10 x11 x12 x13 x14 a17 a18 a19 x15 a20 x16 a21 x17 x18 a22 a23 a24 a25 x19 a26 x20 a27 a28 a29 y0 a30 a31 a32 a33 a34 a35 a36 a37 a38 x21 x22 x23 y1 a39 x24 a40 a41 a42 a43 x25 x26 x27 x28 a18 f0 a19 f1 a29 f_15) → va_S A s.heap H locs → lv_has ls 8 [(5, .int x_11), (4, .int x_1), (2, .long y_13), (0, .ref a0), (1, .int x0)] → W p l e ({ frames := 3, cells := 0, slots := 0, locals := 72 }) s m args below meth c H locs 0 0 Q (F0 m 22 ls []) := by
            intro n
            induction n with
            | zero => intro x_11 y_13 f_15 H locs ls hi_12 hi_16 hi_17 hmu; exact absurd hmu (Nat.not_lt_zero _)
            | succ n ih_lp_18 =>
              intro x_11 y_13 f_15 H locs ls hi_12 hi_16 hi_17 hmu_lp_18 hP hD hS hl
              have hi_14 := n_rngL y_13
              refine lv_iload (pc := 22) hx hb dX12_leastWithout_22 (lv_at hl 0 rfl) ?_
              refine lv_aload_n (pc := 24) hx hb dX12_leastWithout_24 rfl (lv_at hl 3 rfl) ?_
              refine va_get (pc := 25) (ci := 12) (v := .int x13) (C := RX12) (T := TX12) (N := 73) hx hb hts iX12 hown hK hP 0 rfl rfl 28 (by decide) (hts _ tw_1429) (fun _ h9 => h9) rfl dX12_leastWithout_25 ?_
              refine b_icmp_ge (pc := 28) (tgt := 78) hx hb rfl rfl  dX12_leastWithout_28 (by decide) (fun c_19 => ?_) (fun c_19 => ?_)
              ·
                as_aux_lemma =>
                  refine b_iinc (pc := 78) hx hb dX12_leastWithout_78 hl (k := 1) rfl rfl tI_1 (by first | exact (om_2 hi_2.1) | ((first | omega | (unfold zBd at *; omega)))) (by first | exact (om_940 hi_2.2) | ((first | omega | (unfold zBd at *; omega)))) (by decide) (fun x_20 ex_20 ls hl => ?_)
                  replace hl : lv_has ls 8 [(4, .int x_20), (5, .int x_11), (2, .long y_13), (0, .ref a0), (1, .int x0)] := hl
                  refine lv_goto (pc := 81) (tgt := 7) hx hb dX12_leastWithout_81 (by decide) ?_
                  exact ih_lp_8 x_20 y_13 f_15 _ _ ls (by first | exact (om_1110 ex_20 hi_2.1 hi_16.1 hi_12.2) | ((first | omega | (unfold zBd at *; omega)))) (by first | exact (om_40 ex_20 c_9) | ((first | omega | (unfold zBd at *; omega)))) (fl1_out flS_M hi_17 (by first | exact (om_0 hi_2.1) | ((first | omega | (unfold zBd at *; omega)))) (by (first | omega | (unfold zBd at *; omega))) (by first | exact (om_0 hi_12.1) | ((first | omega | (unfold zBd at *; omega)))) (by first | exact (om_1186 hi_12.2) | ((first | omega | (unfold zBd at *; omega)))) rfl (by first | exact (om_1783 ex_20) | ((first | omega | (unfold zBd at *; omega))))) (by (first | omega | (unfold zBd at *; omega))) hP hD hS (lv_sub hl [0, 2, 3, 4] rfl)
              ·
                as_aux_lemma =>
                  refine lv_iload (pc := 31) hx hb dX12_leastWithout_31 (lv_at hl 1 rfl) ?_
                  refine lv_iload_n (pc := 33) hx hb dX12_leastWithout_33 rfl (lv_at hl 4 rfl) ?_
                  refine b_icmp_eq (pc := 34) (tgt := 72) hx hb rfl rfl  dX12_leastWithout_34 (by decide) (fun c_21 => ?_) (fun c_21 => ?_)
                  ·
                    as_aux_lemma =>
                      refine b_iinc (pc := 72) hx hb dX12_leastWithout_72 hl (k := 0) rfl rfl tI_1 (by first | exact (om_2 hi_12.1) | ((first | omega | (unfold zBd at *; omega)))) (by first | exact (om_940 hi_12.2) | ((first | omega | (unfold zBd at *; omega)))) (by decide) (fun x_22 ex_22 ls hl => ?_)
                      replace hl : lv_has ls 8 [(5, .int x_22), (4, .int x_1), (2, .long y_13), (0, .ref a0), (1, .int x0)] := hl
                      refine lv_goto (pc := 75) (tgt := 22) hx hb dX12_leastWithout_75 (by decide) ?_
                      exact ih_lp_18 x_22 y_13 f_15 _ _ ls (by first | exact (om_1110 ex_22 hi_12.1 c_19 h_x13.2) | ((first | omega | (unfold zBd at *; omega)))) (by first | exact (om_1028 ex_22 hi_16.1 c_19) | ((first | omega | (unfold zBd at *; omega)))) (fl1_skip flS_M hi_17 (by first | exact (om_0 hi_2.1) | ((first | omega | (unfold zBd at *; omega)))) (by first | exact (om_0 hi_12.1) | ((first | omega | (unfold zBd at *; omega)))) (by first | exact (om_1202 c_19 h_x13.2) | ((first | omega | (unfold zBd at *; omega)))) (by (first | omega | (unfold zBd at *; omega))) rfl (by first | exact (om_1788 ex_22) | ((first | omega | (unfold zBd at *; omega))))) (by (first | omega | (unfold zBd at *; omega))) hP hD hS (lv_sub hl [0, 1, 2, 3, 4] rfl)
                  ·
                    as_aux_lemma =>
                      refine lv_iload (pc := 37) hx hb dX12_leastWithout_37 (lv_at hl 0 rfl) ?_
                      refine lv_iload_n (pc := 39) hx hb dX12_leastWithout_39 rfl (lv_at hl 4 rfl) ?_
                      refine b_icmp_ne (pc := 40) (tgt := 46) hx hb rfl rfl  dX12_leastWithout_40 (by decide) (fun c_23 => ?_) (fun c_23 => ?_)
                      ·
                        as_aux_lemma =>
                          refine lv_aload_n (pc := 46) hx hb dX12_leastWithout_46 rfl (lv_at hl 3 rfl) ?_
                          refine lv_iload (pc := 47) hx hb dX12_leastWithout_47 (lv_at hl 1 rfl) ?_
                          refine lv_iload (pc := 49) hx hb dX12_leastWithout_49 (lv_at hl 0 rfl) ?_
                          refine gd_l (pc := 51) (wc := (zS_17 cB cC cI cJ a0 a1 x1 x2 x3 x4 x5 x6 x7 x8 a2 a3 a4 a5 a6 a7 a8 a9 a10 a11 a12 a13 a14 a15 a16 x9 x10 x11 x12 x13 x14 a17 a18 a19 x15 a20 x16 a21 x17 x18 a22 a23 a24 a25 x19 a26 x20 a27 a28 a29 y0 a30 a31 a32 a33 a34 a35 a36 a37 a38 x21 x22 x23 y1 a39 x24 a40 a41 a42 a43 x25 x26 x27 x28 a18 f0 a19 f1 a29 f_15)) hP hD hS hA [0, 1, 2, 3] rfl (by decide +kernel) (fun _ => by rfl) (fun hPc hDc => va_runV (As := [.int x_1, .int x_11]) (rest := []) ⟨hx, hb, hml, hown, hts⟩ (k_X12_apartOf l D cB cC cI cJ _ a0 a1 a2 a3 a4 a5 a6 a7 a8 a9 a10 a11 a12 a13 a14 a15 a16 a17 a18 a19 a20 a21 a22 a23 a24 a25 a26 a27 a28 a29 a30 a31 a32 a33 a34 a35 a36 a37 a38 a39 a40 a41 a42 a43 x_1 x_11 x1 x2 x3 x4 x5 x6 x7 x8 x9 x10 x11 x12 x13 x14 x15 x16 x17 x18 x19 x20 x21 x22 x23 x24 x25 x26 x27 x28 y0 y1 f0 f1 f_15 (by first | exact (om_1112 hi_2.1 c_9 h_x13.2) | ((first | omega | (unfold zBd at *; omega)))) (by first | exact (om_1112 hi_12.1 c_19 h_x13.2) | ((first | omega | (unfold zBd at *; omega)))) h_x1 h_x2 h_x3 h_x4 h_x5 h_x6 h_x9 h_x10 h_x11 h_x12 h_x13 h_x15 h_x16 h_x17 h_x19 h_x20 h_x21 h_x22 h_x23 h_x24 h_x25 h_x26 h_x27 h_x28 hr_a0_0 hr_a0_1 hr_a0_2 hf_f0 hf_f1) ⟨gcwB hts tw_1996 tw_14 tw_1993 hd_yX12_apartOf ⟨Nat.le_of_ble_eq_true rfl, Nat.le_of_ble_eq_true rfl⟩, hts _ tw_1995, hts _ tp_112⟩ ⟨gblind, va_recv hK hPc (ci := 12) (q0 := 0) rfl rfl, (gpreS hPc hK hDc hN).2⟩ rfl rfl hl.1 rfl (lv_room (Nat.le_of_ble_eq_true rfl)) dX12_leastWithout_51 ⟨Nat.le_of_ble_eq_true rfl, Nat.le_of_ble_eq_true rfl⟩) (fun r_25 u_24 H locs hw_26 hP hD hS => ?_)
                          replace hP : va_P D gcl (zS_17 cB cC cI cJ a0 a1 x1 x2 x3 x4 x5 x6 x7 x8 a2 a3 a4 a5 a6 a7 a8 a9 a10 a11 a12 a13 a14 a15 a16 x9 x10 x11 x12 x13 x14 a17 a18 a19 x15 a20 x16 a21 x17 x18 a22 a23 a24 a25 x19 a26 x20 a27 a28 a29 y0 a30 a31 a32 a33 a34 a35 a36 a37 a38 x21 x22 x23 y1 a39 x24 a40 a41 a42 a43 x25 x26 x27 x28 a18 f0 a19 f1 a29 (u_24.2.1 0)) H := hP
                          replace hD : va_D A (zS_17 cB cC cI cJ a0 a1 x1 x2 x3 x4 x5 x6 x7 x8 a2 a3 a4 a5 a6 a7 a8 a9 a10 a11 a12 a13 a14 a15 a16 x9 x10 x11 x12 x13 x14 a17 a18 a19 x15 a20 x16 a21 x17 x18 a22 a23 a24 a25 x19 a26 x20 a27 a28 a29 y0 a30 a31 a32 a33 a34 a35 a36 a37 a38 x21 x22 x23 y1 a39 x24 a40 a41 a42 a43 x25 x26 x27 x28 a18 f0 a19 f1 a29 (u_24.2.1 0)) := hD
                          have hw_27 : (r_25 = pM9 f0 f1 x10.toInt x11.toInt x_1.toInt x_11.toInt) := hw_26
                          have rr_25 := n_rngL r_25
                          refine lv_lstore (pc := 54) (lv' := [(6, .long r_25), (5, .int x_11), (4, .int x_1), (2, .long y_13), (0, .ref a0), (1, .int x0)]) hx hb dX12_leastWithout_54 hl (by decide) rfl (fun ls hl => ?_)
                          refine lv_lload_n (pc := 56) hx hb dX12_leastWithout_56 rfl (lv_at hl 3 rfl) ?_
                          refine lv_lconst (pc := 57) (v := 0) hx hb dX12_leastWithout_57 (by decide) ?_
                          refine b_lcmp_lt (pc := 58) (tgt := 69) hx hb rfl tL_0 dX12_leastWithout_58 dX12_leastWithout_59 (by decide) (fun c_28 => ?_) (fun c_28 => ?_)
                          ·
                            as_aux_lemma =>
                              refine lv_lload (pc := 69) hx hb dX12_leastWithout_69 (lv_at hl 0 rfl) ?_
                              refine lv_lstore_n (pc := 71) (lv' := [(2, .long r_25), (6, .long r_25), (5, .int x_11), (4, .int x_1), (0, .ref a0), (1, .int x0)]) hx hb dX12_leastWithout_71 rfl hl (by decide) rfl (fun ls hl => ?_)
                              refine b_iinc (pc := 72) hx hb dX12_leastWithout_72 hl (k := 2) rfl rfl tI_1 (by first | exact (om_2 hi_12.1) | ((first | omega | (unfold zBd at *; omega)))) (by first | exact (om_940 hi_12.2) | ((first | omega | (unfold zBd at *; omega)))) (by decide) (fun x_29 ex_29 ls hl => ?_)
                              replace hl : lv_has ls 8 [(5, .int x_29), (2, .long r_25), (6, .long r_25), (4, .int x_1), (0, .ref a0), (1, .int x0)] := hl
                              refine lv_goto (pc := 75) (tgt := 22) hx hb dX12_leastWithout_75 (by decide) ?_
                              exact ih_lp_18 x_29 r_25 (u_24.2.1 0) _ _ ls (by first | exact (om_1110 ex_29 hi_12.1 c_19 h_x13.2) | ((first | omega | (unfold zBd at *; omega)))) (by first | exact (om_1028 ex_29 hi_16.1 c_19) | ((first | omega | (unfold zBd at *; omega)))) (fl1_weighM hi_17 (by (first | omega | (unfold zBd at *; omega))) (congrArg Int64.toInt hw_27) (by first | exact (om_0 hi_2.1) | ((first | omega | (unfold zBd at *; omega)))) (by first | exact (om_1796 hi_16.1 c_19 c_21 c_23) | ((first | omega | (unfold zBd at *; omega)))) (by first | exact (om_1202 c_19 h_x13.2) | ((first | omega | (unfold zBd at *; omega)))) rfl (by first | exact (om_1788 ex_29) | ((first | omega | (unfold zBd at *; omega))))) (by (first | omega | (unfold zBd at *; omega))) hP hD hS (lv_sub hl [0, 3, 1, 4, 5] rfl)
                          ·
                            as_aux_lemma =>
                              refine lv_lload (pc := 62) hx hb dX12_leastWithout_62 (lv_at hl 0 rfl) ?_
                              refine lv_lload_n (pc := 64) hx hb dX12_leastWithout_64 rfl (lv_at hl 3 rfl) ?_
                              refine b_lcmp_ge (pc := 65) (tgt := 72) hx hb rfl rfl dX12_leastWithout_65 dX12_leastWithout_66 (by decide) (fun c_30 => ?_) (fun c_30 => ?_)
                              ·
                                as_aux_lemma =>
                                  refine b_iinc (pc := 72) hx hb dX12_leastWithout_72 hl (k := 1) rfl rfl tI_1 (by first | exact (om_2 hi_12.1) | ((first | omega | (unfold zBd at *; omega)))) (by first | exact (om_940 hi_12.2) | ((first | omega | (unfold zBd at *; omega)))) (by decide) (fun x_31 ex_31 ls hl => ?_)
                                  replace hl : lv_has ls 8 [(5, .int x_31), (6, .long r_25), (4, .int x_1), (2, .long y_13), (0, .ref a0), (1, .int x0)] := hl
                                  refine lv_goto (pc := 75) (tgt := 22) hx hb dX12_leastWithout_75 (by decide) ?_
                                  exact ih_lp_18 x_31 y_13 (u_24.2.1 0) _ _ ls (by first | exact (om_1110 ex_31 hi_12.1 c_19 h_x13.2) | ((first | omega | (unfold zBd at *; omega)))) (by first | exact (om_1028 ex_31 hi_16.1 c_19) | ((first | omega | (unfold zBd at *; omega)))) (fl1_weighM hi_17 (by (first | omega | (unfold zBd at *; omega))) (congrArg Int64.toInt hw_27) (by first | exact (om_0 hi_2.1) | ((first | omega | (unfold zBd at *; omega)))) (by first | exact (om_1796 hi_16.1 c_19 c_21 c_23) | ((first | omega | (unfold zBd at *; omega)))) (by first | exact (om_1202 c_19 h_x13.2) | ((first | omega | (unfold zBd at *; omega)))) rfl (by first | exact (om_1788 ex_31) | ((first | omega | (unfold zBd at *; omega))))) (by (first | omega | (unfold zBd at *; omega))) hP hD hS (lv_sub hl [0, 2, 3, 4, 5] rfl)
                              ·
                                as_aux_lemma =>
                                  refine lv_lload (pc := 69) hx hb dX12_leastWithout_69 (lv_at hl 0 rfl) ?_
                                  refine lv_lstore_n (pc := 71) (lv' := [(2, .long r_25), (6, .long r_25), (5, .int x_11), (4, .int x_1), (0, .ref a0), (1, .int x0)]) hx hb dX12_leastWithout_71 rfl hl (by decide) rfl (fun ls hl => ?_)
                                  refine b_iinc (pc := 72) hx hb dX12_leastWithout_72 hl (k := 2) rfl rfl tI_1 (by first | exact (om_2 hi_12.1) | ((first | omega | (unfold zBd at *; omega)))) (by first | exact (om_940 hi_12.2) | ((first | omega | (unfold zBd at *; omega)))) (by decide) (fun x_32 ex_32 ls hl => ?_)
                                  replace hl : lv_has ls 8 [(5, .int x_32), (2, .long r_25), (6, .long r_25), (4, .int x_1), (0, .ref a0), (1, .int x0)] := hl
                                  refine lv_goto (pc := 75) (tgt := 22) hx hb dX12_leastWithout_75 (by decide) ?_
                                  exact ih_lp_18 x_32 r_25 (u_24.2.1 0) _ _ ls (by first | exact (om_1110 ex_32 hi_12.1 c_19 h_x13.2) | ((first | omega | (unfold zBd at *; omega)))) (by first | exact (om_1028 ex_32 hi_16.1 c_19) | ((first | omega | (unfold zBd at *; omega)))) (fl1_weighM hi_17 (by (first | omega | (unfold zBd at *; omega))) (congrArg Int64.toInt hw_27) (by first | exact (om_0 hi_2.1) | ((first | omega | (unfold zBd at *; omega)))) (by first | exact (om_1796 hi_16.1 c_19 c_21 c_23) | ((first | omega | (unfold zBd at *; omega)))) (by first | exact (om_1202 c_19 h_x13.2) | ((first | omega | (unfold zBd at *; omega)))) rfl (by first | exact (om_1788 ex_32) | ((first | omega | (unfold zBd at *; omega))))) (by (first | omega | (unfold zBd at *; omega))) hP hD hS (lv_sub hl [0, 3, 1, 4, 5] rfl)
                      ·
                        as_aux_lemma =>
                          refine lv_goto (pc := 43) (tgt := 72) hx hb dX12_leastWithout_43 (by decide) ?_
                          refine b_iinc (pc := 72) hx hb dX12_leastWithout_72 hl (k := 0) rfl rfl tI_1 (by first | exact (om_2 hi_12.1) | ((first | omega | (unfold zBd at *; omega)))) (by first | exact (om_940 hi_12.2) | ((first | omega | (unfold zBd at *; omega)))) (by decide) (fun x_33 ex_33 ls hl => ?_)
                          replace hl : lv_has ls 8 [(5, .int x_33), (4, .int x_1), (2, .long y_13), (0, .ref a0), (1, .int x0)] := hl
                          refine lv_goto (pc := 75) (tgt := 22) hx hb dX12_leastWithout_75 (by decide) ?_
                          exact ih_lp_18 x_33 y_13 f_15 _ _ ls (by first | exact (om_1110 ex_33 hi_12.1 c_19 h_x13.2) | ((first | omega | (unfold zBd at *; omega)))) (by first | exact (om_1028 ex_33 hi_16.1 c_19) | ((first | omega | (unfold zBd at *; omega)))) (fl1_skip flS_M hi_17 (by first | exact (om_0 hi_2.1) | ((first | omega | (unfold zBd at *; omega)))) (by first | exact (om_0 hi_12.1) | ((first | omega | (unfold zBd at *; omega)))) (by first | exact (om_1202 c_19 h_x13.2) | ((first | omega | (unfold zBd at *; omega)))) (by (first | omega | (unfold zBd at *; omega))) rfl (by first | exact (om_1788 ex_33) | ((first | omega | (unfold zBd at *; omega))))) (by (first | omega | (unfold zBd at *; omega))) hP hD hS (lv_sub hl [0, 1, 2, 3, 4] rfl)
          exact lp_18 _ x_10 y_3 f_5 _ _ ls (by first | exact (om_1110 ex_10 hi_2.1 c_9 h_x13.2) | ((first | omega | (unfold zBd at *; omega)))) (by have q := tI_0; (first | omega | (unfold zBd at *; omega))) (fl1_in flS_M hi_7 (by first | exact (om_0 hi_2.1) | ((first | omega | (unfold zBd at *; omega)))) (by first | exact (om_1202 c_9 h_x13.2) | ((first | omega | (unfold zBd at *; omega)))) rfl rfl (by first | exact (om_5 ex_10) | ((first | omega | (unfold zBd at *; omega))))) (Nat.lt_succ_self _) hP hD hS (lv_sub hl [0, 1, 2, 3, 4] rfl)
  exact lp_8 _ 0 (-1) f2 _ _ ls (n_c tI_0 (by decide)) (by have q := tI_0; (first | omega | (unfold zBd at *; omega))) (fl1_0M tL_m1 (by first | exact (om_1792 tI_0) | (have q := tI_0; (first | omega | (unfold zBd at *; omega))))) (Nat.lt_succ_self _) hP hD hS (lv_sub hl [0, 1, 2, 3] rfl)
theorem om_1797 {a b c d e f : Int} (h0 : ((c = 0 ∧ d < e) ∨ (c = 0 ∧ d ≥ e ∧ d > f) ∨ (c = 1 ∧ d ≥ e ∧ d ≤ f))) (h1 : (d = a)) (h2 : (e = 0)) (h3 : (f = 1)) (h4 : (c = 0)) : (¬ (0 ≤ a ∧ a ≤ 1 ∧ 3 ≤ b)) := by omega
theorem om_1798 {a b c d e f : Int} (h0 : (¬ a = 0)) (h1 : (¬ c = 0)) (h2 : ((c = 0 ∧ d < e) ∨ (c = 0 ∧ d ≥ e ∧ d > f) ∨ (c = 1 ∧ d ≥ e ∧ d ≤ f))) (h3 : (d = a)) (h4 : (e = 0)) (h5 : (f = 1)) (h6 : (b ≥ 3)) : (0 ≤ a ∧ a ≤ 1 ∧ 3 ≤ b) := by omega
theorem om_1799 {a b c : Int} (h0 : (a = b + 1)) (h1 : (1 ≤ b)) (h2 : (b < c)) (h3 : (c ≤ 16)) : ((1 ≤ a ∧ a ≤ 16)) := by omega
theorem om_1800 {a : Int} (h0 : (1 ≤ a)) : (0 ≤ a) := by omega
theorem om_1801 {a b c d : Int} (h0 : (b ≤ a)) : (a < b ∧ c = d ∨ ¬ a < b ∧ c = c) := by omega
theorem om_1802 {a b : Int} (h0 : (1 ≤ a)) (h1 : (a < b)) (h2 : (b ≤ 16)) : ((0 ≤ a ∧ a ≤ 15)) := by omega
theorem om_1803 {a b c d : Int} (h0 : (b > a)) : (a < b ∧ c = c ∨ ¬ a < b ∧ c = d) := by omega
set_option maxHeartbeats 4000000 in
set_option maxRecDepth 100000 in
theorem k_X12_leave (l : Launch) (D : va_G) (cB cC cI cJ : ClassId) (sz : Nat) (a0 a1 a2 a3 a4 a5 a6 a7 a8 a9 a10 a11 a12 a13 a14 a15 a16 a17 a18 a19 a20 a21 a22 a23 a24 a25 a26 a27 a28 a29 a30 a31 a32 a33 a34 a35 a36 a37 a38 a39 a40 a41 a42 a43 : Nat) (x0 x1 x2 x3 x4 x5 x6 x7 x8 x9 x10 x11 x12 x13 x14 x15 x16 x17 x18 x19 x20 x21 x22 x23 x24 x25 x26 x27 x28 : Int32) (y0 y1 : Int64) (f0 f1 f2 : Nat → Int32) (h_x1 : zBd x1.toInt 0 1600) (h_x2 : zBd x2.toInt 0 1600) (h_x3 : zBd x3.toInt 0 1600) (h_x4 : zBd x4.toInt (-1) 1600) (h_x5 : zBd x5.toInt 0 4) (h_x6 : zBd x6.toInt (-1) 1600) (h_x9 : zBd x9.toInt 0 8) (h_x10 : zBd x10.toInt 0 5) (h_x11 : zBd x11.toInt 0 6) (h_x12 : zBd x12.toInt 0 6) (h_x13 : zBd x13.toInt 0 16) (h_x15 : zBd x15.toInt 0 60) (h_x16 : zBd x16.toInt 0 1600) (h_x17 : zBd x17.toInt 0 1700) (h_x19 : zBd x19.toInt 0 1700) (h_x20 : zBd x20.toInt 0 1700) (h_x21 : zBd x21.toInt 0 200) (h_x22 : zBd x22.toInt 0 40) (h_x23 : zBd x23.toInt 0 40) (h_x24 : zBd x24.toInt 0 1) (h_x25 : zBd x25.toInt 0 14) (h_x26 : zBd x26.toInt 0 200) (h_x27 : zBd x27.toInt 0 40) (h_x28 : zBd x28.toInt 0 40) (hr_a0_0 : (x22.toInt ≤ x21.toInt)) (hr_a0_1 : (x21.toInt + x23.toInt ≤ 200)) (hr_a0_2 : (x10.toInt = 0 ∨ 2 ≤ x9.toInt)) (hf_f0 : (∀ j, (-9999) ≤ (f0 j).toInt ∧ (f0 j).toInt ≤ 9999)) (hf_f1 : (∀ j, (-9999) ≤ (f1 j).toInt ∧ (f1 j).toInt ≤ 9999)) : Met l yX12_leave (.code yX12_leave cX12_leave 4 (some .long) :: lw_gd) ({ frames := 4, cells := 0, slots := 0, locals := 99 }) (gPre D [(cB, .byte), (cC, .char), (cI, .int), (cJ, .long)] [.ref a0, .int x0] (zS_17 cB cC cI cJ a0 a1 x1 x2 x3 x4 x5 x6 x7 x8 a2 a3 a4 a5 a6 a7 a8 a9 a10 a11 a12 a13 a14 a15 a16 x9 x10 x11 x12 x13 x14 a17 a18 a19 x15 a20 x16 a21 x17 x18 a22 a23 a24 a25 x19 a26 x20 a27 a28 a29 y0 a30 a31 a32 a33 a34 a35 a36 a37 a38 x21 x22 x23 y1 a39 x24 a40 a41 a42 a43 x25 x26 x27 x28 a18 f0 a19 f1 a29 f2) sz) (va_Ql (fun r u => (lvQ r.toInt x0.toInt x13.toInt (lvM f0 f1 x10.toInt x11.toInt x13.toInt))) (gB D (va_A (zS_17 cB cC cI cJ a0 a1 x1 x2 x3 x4 x5 x6 x7 x8 a2 a3 a4 a5 a6 a7 a8 a9 a10 a11 a12 a13 a14 a15 a16 x9 x10 x11 x12 x13 x14 a17 a18 a19 x15 a20 x16 a21 x17 x18 a22 a23 a24 a25 x19 a26 x20 a27 a28 a29 y0 a30 a31 a32 a33 a34 a35 a36 a37 a38 x21 x22 x23 y1 a39 x24 a40 a41 a42 a43 x25 x26 x27 x28 a18 f0 a19 f1 a29 f2) sz) (fun u : gEx => (zS_17 cB cC cI cJ a0 a1 x1 x2 x3 x4 x5 x6 x7 x8 a2 a3 a4 a5 a6 a7 a8 a9 a10 a11 a12 a13 a14 a15 a16 x9 x10 x11 x12 x13 x14 a17 a18 a19 x15 a20 x16 a21 x17 x18 a22 a23 a24 a25 x19 a26 x20 a27 a28 a29 y0 a30 a31 a32 a33 a34 a35 a36 a37 a38 x21 x22 x23 y1 a39 x24 a40 a41 a42 a43 x25 x26 x27 x28 a18 f0 a19 f1 a29 (u.2.1 0)))) (va_A (zS_17 cB cC cI cJ a0 a1 x1 x2 x3 x4 x5 x6 x7 x8 a2 a3 a4 a5 a6 a7 a8 a9 a10 a11 a12 a13 a14 a15 a16 x9 x10 x11 x12 x13 x14 a17 a18 a19 x15 a20 x16 a21 x17 x18 a22 a23 a24 a25 x19 a26 x20 a27 a28 a29 y0 a30 a31 a32 a33 a34 a35 a36 a37 a38 x21 x22 x23 y1 a39 x24 a40 a41 a42 a43 x25 x26 x27 x28 a18 f0 a19 f1 a29 f2) sz)) 0 0 (va_A (zS_17 cB cC cI cJ a0 a1 x1 x2 x3 x4 x5 x6 x7 x8 a2 a3 a4 a5 a6 a7 a8 a9 a10 a11 a12 a13 a14 a15 a16 x9 x10 x11 x12 x13 x14 a17 a18 a19 x15 a20 x16 a21 x17 x18 a22 a23 a24 a25 x19 a26 x20 a27 a28 a29 y0 a30 a31 a32 a33 a34 a35 a36 a37 a38 x21 x22 x23 y1 a39 x24 a40 a41 a42 a43 x25 x26 x27 x28 a18 f0 a19 f1 a29 f2) sz) := by
  refine gOf_l (by decide +kernel) (Nat.le_of_ble_eq_true rfl) ?_
  intro p e s m args below meth c ls A Q hx hb hts hown hml hN hK hP hD hA hl hret
  replace hown : s.vm.findClass RX12 = some m.cls := hown
  have hS : va_S A s.heap s.heap [] := va_S.rf
  replace hP : va_P D gcl (zS_17 cB cC cI cJ a0 a1 x1 x2 x3 x4 x5 x6 x7 x8 a2 a3 a4 a5 a6 a7 a8 a9 a10 a11 a12 a13 a14 a15 a16 x9 x10 x11 x12 x13 x14 a17 a18 a19 x15 a20 x16 a21 x17 x18 a22 a23 a24 a25 x19 a26 x20 a27 a28 a29 y0 a30 a31 a32 a33 a34 a35 a36 a37 a38 x21 x22 x23 y1 a39 x24 a40 a41 a42 a43 x25 x26 x27 x28 a18 f0 a19 f1 a29 f2) s.heap := hP
  replace hl : lv_has ls 4 [(0, .ref a0), (1, .int x0)] := hl
  have rx0 : zBd x0.toInt (-2147483648) 2147483647 := n_rng x0
  have rx7 : zBd x7.toInt (-2147483648) 2147483647 := n_rng x7
  have rx8 : zBd x8.toInt (-2147483648) 2147483647 := n_rng x8
  have rx14 : zBd x14.toInt (-2147483648) 2147483647 := n_rng x14
  have rx18 : zBd x18.toInt (-2147483648) 2147483647 := n_rng x18
  have ry0 := n_rngL y0
  have ry1 := n_rngL y1
  refine lv_iload_n (pc := 0) hx hb dX12_leave_0 rfl (lv_at hl 1 rfl) ?_
  refine b_i2l (pc := 1) hx hb rfl dX12_leave_1 (fun y_1 ey_1 => ?_)
  have ry_1 : zBd x0.toInt (-2147483648) 2147483647 := n_rng x0
  refine lv_lconst (pc := 2) (v := 0) hx hb dX12_leave_2 (by decide) ?_
  refine lv_lconst (pc := 3) (v := 1) hx hb dX12_leave_3 (by decide) ?_
  refine gd_i (pc := 4) (wc := []) hP hD hS hA [] rfl (by decide +kernel) (fun _ => by rfl) (fun hPc hDc => va_runS (As := [.long y_1, .long 0, .long 1]) (rest := []) ⟨hx, hb, hml, hown, hts⟩ (k_X12_isIn l D cB cC cI cJ _ y_1 0 1) ⟨gcwB hts tw_1666 tw_14 tw_1664 hd_yX12_isIn ⟨Nat.le_of_ble_eq_true rfl, Nat.le_of_ble_eq_true rfl⟩, hts _ tw_1665⟩ (gpreS hPc hK hDc hN) rfl rfl hl.1 rfl (lv_room (Nat.le_of_ble_eq_true rfl)) dX12_leave_4 ⟨Nat.le_of_ble_eq_true rfl, Nat.le_of_ble_eq_true rfl⟩) (fun r_3 u_2 H locs hw_4 hP hD hS => ?_)
  replace hP : va_P D gcl (zS_17 cB cC cI cJ a0 a1 x1 x2 x3 x4 x5 x6 x7 x8 a2 a3 a4 a5 a6 a7 a8 a9 a10 a11 a12 a13 a14 a15 a16 x9 x10 x11 x12 x13 x14 a17 a18 a19 x15 a20 x16 a21 x17 x18 a22 a23 a24 a25 x19 a26 x20 a27 a28 a29 y0 a30 a31 a32 a33 a34 a35 a36 a37 a38 x21 x22 x23 y1 a39 x24 a40 a41 a42 a43 x25 x26 x27 x28 a18 f0 a19 f1 a29 f2) H := hP
  replace hD : va_D A (zS_17 cB cC cI cJ a0 a1 x1 x2 x3 x4 x5 x6 x7 x8 a2 a3 a4 a5 a6 a7 a8 a9 a10 a11 a12 a13 a14 a15 a16 x9 x10 x11 x12 x13 x14 a17 a18 a19 x15 a20 x16 a21 x17 x18 a22 a23 a24 a25 x19 a26 x20 a27 a28 a29 y0 a30 a31 a32 a33 a34 a35 a36 a37 a38 x21 x22 x23 y1 a39 x24 a40 a41 a42 a43 x25 x26 x27 x28 a18 f0 a19 f1 a29 f2) := hD
  have hw_5 : ((r_3.toInt = 0 ∧ y_1.toInt < (0 : Int64).toInt) ∨ (r_3.toInt = 0 ∧ y_1.toInt ≥ (0 : Int64).toInt ∧ y_1.toInt > (1 : Int64).toInt) ∨ (r_3.toInt = 1 ∧ y_1.toInt ≥ (0 : Int64).toInt ∧ y_1.toInt ≤ (1 : Int64).toInt)) := hw_4
  have kk0_r_3 := tL_0
  have kk1_r_3 := tL_1
  have rr_3 : zBd r_3.toInt (-2147483648) 2147483647 := n_rng r_3
  refine b_if_eq (pc := 7) (tgt := 18) hx hb rfl  dX12_leave_7 (by decide) (fun c_6 => ?_) (fun c_6 => ?_)
  ·
    as_aux_lemma =>
      refine lv_ldc2 (pc := 18) hx hb hown (hts _ tw_1838) dX12_leave_18 ?_
      have hP9 : va_P D gcl (zS_17 cB cC cI cJ a0 a1 x1 x2 x3 x4 x5 x6 x7 x8 a2 a3 a4 a5 a6 a7 a8 a9 a10 a11 a12 a13 a14 a15 a16 x9 x10 x11 x12 x13 x14 a17 a18 a19 x15 a20 x16 a21 x17 x18 a22 a23 a24 a25 x19 a26 x20 a27 a28 a29 y0 a30 a31 a32 a33 a34 a35 a36 a37 a38 x21 x22 x23 y1 a39 x24 a40 a41 a42 a43 x25 x26 x27 x28 a18 f0 a19 f1 a29 f2) H := g_psub hP [0, 1, 2, 3] rfl
      have hD9 : va_D A (zS_17 cB cC cI cJ a0 a1 x1 x2 x3 x4 x5 x6 x7 x8 a2 a3 a4 a5 a6 a7 a8 a9 a10 a11 a12 a13 a14 a15 a16 x9 x10 x11 x12 x13 x14 a17 a18 a19 x15 a20 x16 a21 x17 x18 a22 a23 a24 a25 x19 a26 x20 a27 a28 a29 y0 a30 a31 a32 a33 a34 a35 a36 a37 a38 x21 x22 x23 y1 a39 x24 a40 a41 a42 a43 x25 x26 x27 x28 a18 f0 a19 f1 a29 f2) := hD.sub [0, 1, 2, 3] (by decide) rfl
      have k9 := tL_m1
      exact hret (-1) ((fun _ => 0), (fun k => [f2].getD k (fun _ => 0)), (fun _ => (fun _ => 0)), (fun _ => 0), (fun _ => 0)) dX12_leave_21 (show lvQ ((-1) : Int64).toInt x0.toInt x13.toInt (lvM f0 f1 x10.toInt x11.toInt x13.toInt) from lq_no (by first | exact (om_1797 hw_5 ey_1 tL_0 tL_1 c_6) | ((first | omega | (unfold zBd at *; omega)))) (by first | exact (om_65 tL_m1) | ((first | omega | (unfold zBd at *; omega))))) hP9 hD9 hS
  ·
    as_aux_lemma =>
      refine lv_aload_n (pc := 10) hx hb dX12_leave_10 rfl (lv_at hl 0 rfl) ?_
      refine va_get (pc := 11) (ci := 12) (v := .int x13) (C := RX12) (T := TX12) (N := 73) hx hb hts iX12 hown hK hP 0 rfl rfl 28 (by decide) (hts _ tw_1429) (fun _ h9 => h9) rfl dX12_leave_11 ?_
      have bd_h_x13 : 0 ≤ x13.toInt ∧ x13.toInt ≤ 16 := h_x13
      refine lv_iconst (pc := 14) (v := 3) hx hb dX12_leave_14 (by decide) ?_
      refine b_icmp_ge (pc := 15) (tgt := 22) hx hb rfl tI_3  dX12_leave_15 (by decide) (fun c_7 => ?_) (fun c_7 => ?_)
      ·
        as_aux_lemma =>
          refine lv_iconst (pc := 22) (v := 0) hx hb dX12_leave_22 (by decide) ?_
          refine lv_istore_n (pc := 23) (lv' := [(2, .int 0), (0, .ref a0), (1, .int x0)]) hx hb dX12_leave_23 rfl hl (by decide) rfl (fun ls hl => ?_)
          refine lv_iconst (pc := 24) (v := 1) hx hb dX12_leave_24 (by decide) ?_
          refine lv_istore_n (pc := 25) (lv' := [(3, .int 1), (2, .int 0), (0, .ref a0), (1, .int x0)]) hx hb dX12_leave_25 rfl hl (by decide) rfl (fun ls hl => ?_)
          have lp_15 : ∀ (n : Nat) (x_8 x_10 : Int32) (f_12 : Nat → Int32) (H : Heap) (locs : List Loc) (ls : Array Slot), (1 ≤ x_8.toInt ∧ x_8.toInt ≤ 16) → (0 ≤ x_10.toInt ∧ x_10.toInt ≤ 15) → (x_8.toInt ≤ x13.toInt) → (lvE (lvM f0 f1 x10.toInt x11.toInt x13.toInt) x_10.toInt (lvM f0 f1 x10.toInt x11.toInt x13.toInt x_10.toInt) x_8.toInt) → (2147483647 - x_8.toInt).toNat < n → va_P D gcl (zS_17 cB cC cI cJ a0 a1 x1 x2 x3 x4 x5 x6 x7 x8 a2 a3 a4 a5 a6 a7 a8 a9 a10 a11 a12 a13 a14 a15 a16 x9 x10 x11 x12 x13 x14 a17 a18 a19 x15 a20 x16 a21 x17 x18 a22 a23 a24 a25 x19 a26 x20 a27 a28 a29 y0 a30 a31 a32 a33 a34 a35 a36 a37 a38 x21 x22 x23 y1 a39 x24 a40 a41 a42 a43 x25 x26 x27 x28 a18 f0 a19 f1 a29 f_12) H → va_D A (zS_17 cB cC cI cJ a0 a1 x1 x2 x3 x4 x5 x6 x7 x8 a2 a3 a4 a5 a6 a7 a8 a9 a10 a11 a12 a13 a14 a15 a16 x9 x10 x11 x12 x13 x14 a17 a18 a19 x15 a20 x16 a21 x17 x18 a22 a23 a24 a25 x19 a26 x20 a27 a28 a29 y0 a30 a31 a32 a33 a34 a35 a36 a37 a38 x21 x22 x23 y1 a39 x24 a40 a41 a42 a43 x25 x26 x27 x28 a18 f0 a19 f1 a29 f_12) → va_S A s.heap H locs → lv_has ls 4 [(3, .int x_8), (2, .int x_10), (0, .ref a0), (1, .int x0)] → W p l e ({ frames := 4, cells := 0, slots := 0, locals := 99 }) s m args below meth c H locs 0 0 Q (F0 m 26 ls []) := by
            intro n
            induction n with
            | zero => intro x_8 x_10 f_12 H locs ls hi_9 hi_11 hi_13 hi_14 hmu; exact absurd hmu (Nat.not_lt_zero _)
            | succ n ih_lp_15 =>
              intro x_8 x_10 f_12 H locs ls hi_9 hi_11 hi_13 hi_14 hmu_lp_15 hP hD hS hl
              refine lv_iload_n (pc := 26) hx hb dX12_leave_26 rfl (lv_at hl 0 rfl) ?_
              refine lv_aload_n (pc := 27) hx hb dX12_leave_27 rfl (lv_at hl 2 rfl) ?_
              refine va_get (pc := 28) (ci := 12) (v := .int x13) (C := RX12) (T := TX12) (N := 73) hx hb hts iX12 hown hK hP 0 rfl rfl 28 (by decide) (hts _ tw_1429) (fun _ h9 => h9) rfl dX12_leave_28 ?_
              refine b_icmp_ge (pc := 31) (tgt := 56) hx hb rfl rfl  dX12_leave_31 (by decide) (fun c_16 => ?_) (fun c_16 => ?_)
              ·
                as_aux_lemma =>
                  refine lv_iload_n (pc := 56) hx hb dX12_leave_56 rfl (lv_at hl 3 rfl) ?_
                  refine b_if_ne (pc := 57) (tgt := 65) hx hb rfl  dX12_leave_57 (by decide) (fun c_17 => ?_) (fun c_17 => ?_)
                  ·
                    as_aux_lemma =>
                      refine lv_aload_n (pc := 65) hx hb dX12_leave_65 rfl (lv_at hl 2 rfl) ?_
                      refine lv_iload_n (pc := 66) hx hb dX12_leave_66 rfl (lv_at hl 1 rfl) ?_
                      refine gd_l (pc := 67) (wc := (zS_17 cB cC cI cJ a0 a1 x1 x2 x3 x4 x5 x6 x7 x8 a2 a3 a4 a5 a6 a7 a8 a9 a10 a11 a12 a13 a14 a15 a16 x9 x10 x11 x12 x13 x14 a17 a18 a19 x15 a20 x16 a21 x17 x18 a22 a23 a24 a25 x19 a26 x20 a27 a28 a29 y0 a30 a31 a32 a33 a34 a35 a36 a37 a38 x21 x22 x23 y1 a39 x24 a40 a41 a42 a43 x25 x26 x27 x28 a18 f0 a19 f1 a29 f_12)) hP hD hS hA [0, 1, 2, 3] rfl (by decide +kernel) (fun _ => by rfl) (fun hPc hDc => va_runV (As := [.int x_10]) (rest := []) ⟨hx, hb, hml, hown, hts⟩ (k_X12_leastWithout l D cB cC cI cJ _ a0 a1 a2 a3 a4 a5 a6 a7 a8 a9 a10 a11 a12 a13 a14 a15 a16 a17 a18 a19 a20 a21 a22 a23 a24 a25 a26 a27 a28 a29 a30 a31 a32 a33 a34 a35 a36 a37 a38 a39 a40 a41 a42 a43 x_10 x1 x2 x3 x4 x5 x6 x7 x8 x9 x10 x11 x12 x13 x14 x15 x16 x17 x18 x19 x20 x21 x22 x23 x24 x25 x26 x27 x28 y0 y1 f0 f1 f_12 h_x1 h_x2 h_x3 h_x4 h_x5 h_x6 h_x9 h_x10 h_x11 h_x12 h_x13 h_x15 h_x16 h_x17 h_x19 h_x20 h_x21 h_x22 h_x23 h_x24 h_x25 h_x26 h_x27 h_x28 hr_a0_0 hr_a0_1 hr_a0_2 hf_f0 hf_f1) ⟨gcwB hts tw_2004 tw_14 tw_2001 hd_yX12_leastWithout ⟨Nat.le_of_ble_eq_true rfl, Nat.le_of_ble_eq_true rfl⟩, hts _ tw_2003, hts _ tp_113⟩ ⟨gblind, va_recv hK hPc (ci := 12) (q0 := 0) rfl rfl, (gpreS hPc hK hDc hN).2⟩ rfl rfl hl.1 rfl (lv_room (Nat.le_of_ble_eq_true rfl)) dX12_leave_67 ⟨Nat.le_of_ble_eq_true rfl, Nat.le_of_ble_eq_true rfl⟩) (fun r_19 u_18 H locs hw_20 hP hD hS => ?_)
                      replace hP : va_P D gcl (zS_17 cB cC cI cJ a0 a1 x1 x2 x3 x4 x5 x6 x7 x8 a2 a3 a4 a5 a6 a7 a8 a9 a10 a11 a12 a13 a14 a15 a16 x9 x10 x11 x12 x13 x14 a17 a18 a19 x15 a20 x16 a21 x17 x18 a22 a23 a24 a25 x19 a26 x20 a27 a28 a29 y0 a30 a31 a32 a33 a34 a35 a36 a37 a38 x21 x22 x23 y1 a39 x24 a40 a41 a42 a43 x25 x26 x27 x28 a18 f0 a19 f1 a29 (u_18.2.1 0)) H := hP
                      replace hD : va_D A (zS_17 cB cC cI cJ a0 a1 x1 x2 x3 x4 x5 x6 x7 x8 a2 a3 a4 a5 a6 a7 a8 a9 a10 a11 a12 a13 a14 a15 a16 x9 x10 x11 x12 x13 x14 a17 a18 a19 x15 a20 x16 a21 x17 x18 a22 a23 a24 a25 x19 a26 x20 a27 a28 a29 y0 a30 a31 a32 a33 a34 a35 a36 a37 a38 x21 x22 x23 y1 a39 x24 a40 a41 a42 a43 x25 x26 x27 x28 a18 f0 a19 f1 a29 (u_18.2.1 0)) := hD
                      have hw_21 : (r_19.toInt = lvM f0 f1 x10.toInt x11.toInt x13.toInt x_10.toInt) := hw_20
                      have rr_19 := n_rngL r_19
                      have hP9 : va_P D gcl (zS_17 cB cC cI cJ a0 a1 x1 x2 x3 x4 x5 x6 x7 x8 a2 a3 a4 a5 a6 a7 a8 a9 a10 a11 a12 a13 a14 a15 a16 x9 x10 x11 x12 x13 x14 a17 a18 a19 x15 a20 x16 a21 x17 x18 a22 a23 a24 a25 x19 a26 x20 a27 a28 a29 y0 a30 a31 a32 a33 a34 a35 a36 a37 a38 x21 x22 x23 y1 a39 x24 a40 a41 a42 a43 x25 x26 x27 x28 a18 f0 a19 f1 a29 (u_18.2.1 0)) H := g_psub hP [0, 1, 2, 3] rfl
                      have hD9 : va_D A (zS_17 cB cC cI cJ a0 a1 x1 x2 x3 x4 x5 x6 x7 x8 a2 a3 a4 a5 a6 a7 a8 a9 a10 a11 a12 a13 a14 a15 a16 x9 x10 x11 x12 x13 x14 a17 a18 a19 x15 a20 x16 a21 x17 x18 a22 a23 a24 a25 x19 a26 x20 a27 a28 a29 y0 a30 a31 a32 a33 a34 a35 a36 a37 a38 x21 x22 x23 y1 a39 x24 a40 a41 a42 a43 x25 x26 x27 x28 a18 f0 a19 f1 a29 (u_18.2.1 0)) := hD.sub [0, 1, 2, 3] (by decide) rfl
                      exact hret r_19 ((fun _ => 0), (fun k => [(u_18.2.1 0)].getD k (fun _ => 0)), (fun _ => (fun _ => 0)), (fun _ => 0), (fun _ => 0)) dX12_leave_70 (show lvQ r_19.toInt x0.toInt x13.toInt (lvM f0 f1 x10.toInt x11.toInt x13.toInt) from lq_yes hi_14 (by first | exact (om_1416 c_16 hi_13) | ((first | omega | (unfold zBd at *; omega)))) (by first | exact (om_1798 c_17 c_6 hw_5 ey_1 tL_0 tL_1 c_7) | ((first | omega | (unfold zBd at *; omega)))) (Or.inr ⟨by (first | omega | (unfold zBd at *; omega)), hw_21⟩)) hP9 hD9 hS
                  ·
                    as_aux_lemma =>
                      refine lv_iload_n (pc := 60) hx hb dX12_leave_60 rfl (lv_at hl 1 rfl) ?_
                      refine b_i2l (pc := 61) hx hb rfl dX12_leave_61 (fun y_22 ey_22 => ?_)
                      have ry_22 : zBd x_10.toInt (-2147483648) 2147483647 := n_rng x_10
                      refine lv_goto (pc := 62) (tgt := 70) hx hb dX12_leave_62 (by decide) ?_
                      have hP9 : va_P D gcl (zS_17 cB cC cI cJ a0 a1 x1 x2 x3 x4 x5 x6 x7 x8 a2 a3 a4 a5 a6 a7 a8 a9 a10 a11 a12 a13 a14 a15 a16 x9 x10 x11 x12 x13 x14 a17 a18 a19 x15 a20 x16 a21 x17 x18 a22 a23 a24 a25 x19 a26 x20 a27 a28 a29 y0 a30 a31 a32 a33 a34 a35 a36 a37 a38 x21 x22 x23 y1 a39 x24 a40 a41 a42 a43 x25 x26 x27 x28 a18 f0 a19 f1 a29 f_12) H := g_psub hP [0, 1, 2, 3] rfl
                      have hD9 : va_D A (zS_17 cB cC cI cJ a0 a1 x1 x2 x3 x4 x5 x6 x7 x8 a2 a3 a4 a5 a6 a7 a8 a9 a10 a11 a12 a13 a14 a15 a16 x9 x10 x11 x12 x13 x14 a17 a18 a19 x15 a20 x16 a21 x17 x18 a22 a23 a24 a25 x19 a26 x20 a27 a28 a29 y0 a30 a31 a32 a33 a34 a35 a36 a37 a38 x21 x22 x23 y1 a39 x24 a40 a41 a42 a43 x25 x26 x27 x28 a18 f0 a19 f1 a29 f_12) := hD.sub [0, 1, 2, 3] (by decide) rfl
                      exact hret y_22 ((fun _ => 0), (fun k => [f_12].getD k (fun _ => 0)), (fun _ => (fun _ => 0)), (fun _ => 0), (fun _ => 0)) dX12_leave_70 (show lvQ y_22.toInt x0.toInt x13.toInt (lvM f0 f1 x10.toInt x11.toInt x13.toInt) from lq_yes hi_14 (by first | exact (om_1416 c_16 hi_13) | ((first | omega | (unfold zBd at *; omega)))) (by first | exact (om_1419 c_17 c_7) | ((first | omega | (unfold zBd at *; omega)))) (Or.inl ⟨by (first | omega | (unfold zBd at *; omega)), by (first | omega | (unfold zBd at *; omega))⟩)) hP9 hD9 hS
              ·
                as_aux_lemma =>
                  refine lv_aload_n (pc := 34) hx hb dX12_leave_34 rfl (lv_at hl 2 rfl) ?_
                  refine lv_iload_n (pc := 35) hx hb dX12_leave_35 rfl (lv_at hl 0 rfl) ?_
                  refine gd_l (pc := 36) (wc := (zS_17 cB cC cI cJ a0 a1 x1 x2 x3 x4 x5 x6 x7 x8 a2 a3 a4 a5 a6 a7 a8 a9 a10 a11 a12 a13 a14 a15 a16 x9 x10 x11 x12 x13 x14 a17 a18 a19 x15 a20 x16 a21 x17 x18 a22 a23 a24 a25 x19 a26 x20 a27 a28 a29 y0 a30 a31 a32 a33 a34 a35 a36 a37 a38 x21 x22 x23 y1 a39 x24 a40 a41 a42 a43 x25 x26 x27 x28 a18 f0 a19 f1 a29 f_12)) hP hD hS hA [0, 1, 2, 3] rfl (by decide +kernel) (fun _ => by rfl) (fun hPc hDc => va_runV (As := [.int x_8]) (rest := []) ⟨hx, hb, hml, hown, hts⟩ (k_X12_leastWithout l D cB cC cI cJ _ a0 a1 a2 a3 a4 a5 a6 a7 a8 a9 a10 a11 a12 a13 a14 a15 a16 a17 a18 a19 a20 a21 a22 a23 a24 a25 a26 a27 a28 a29 a30 a31 a32 a33 a34 a35 a36 a37 a38 a39 a40 a41 a42 a43 x_8 x1 x2 x3 x4 x5 x6 x7 x8 x9 x10 x11 x12 x13 x14 x15 x16 x17 x18 x19 x20 x21 x22 x23 x24 x25 x26 x27 x28 y0 y1 f0 f1 f_12 h_x1 h_x2 h_x3 h_x4 h_x5 h_x6 h_x9 h_x10 h_x11 h_x12 h_x13 h_x15 h_x16 h_x17 h_x19 h_x20 h_x21 h_x22 h_x23 h_x24 h_x25 h_x26 h_x27 h_x28 hr_a0_0 hr_a0_1 hr_a0_2 hf_f0 hf_f1) ⟨gcwB hts tw_2004 tw_14 tw_2001 hd_yX12_leastWithout ⟨Nat.le_of_ble_eq_true rfl, Nat.le_of_ble_eq_true rfl⟩, hts _ tw_2003, hts _ tp_113⟩ ⟨gblind, va_recv hK hPc (ci := 12) (q0 := 0) rfl rfl, (gpreS hPc hK hDc hN).2⟩ rfl rfl hl.1 rfl (lv_room (Nat.le_of_ble_eq_true rfl)) dX12_leave_36 ⟨Nat.le_of_ble_eq_true rfl, Nat.le_of_ble_eq_true rfl⟩) (fun r_24 u_23 H locs hw_25 hP hD hS => ?_)
                  replace hP : va_P D gcl (zS_17 cB cC cI cJ a0 a1 x1 x2 x3 x4 x5 x6 x7 x8 a2 a3 a4 a5 a6 a7 a8 a9 a10 a11 a12 a13 a14 a15 a16 x9 x10 x11 x12 x13 x14 a17 a18 a19 x15 a20 x16 a21 x17 x18 a22 a23 a24 a25 x19 a26 x20 a27 a28 a29 y0 a30 a31 a32 a33 a34 a35 a36 a37 a38 x21 x22 x23 y1 a39 x24 a40 a41 a42 a43 x25 x26 x27 x28 a18 f0 a19 f1 a29 (u_23.2.1 0)) H := hP
                  replace hD : va_D A (zS_17 cB cC cI cJ a0 a1 x1 x2 x3 x4 x5 x6 x7 x8 a2 a3 a4 a5 a6 a7 a8 a9 a10 a11 a12 a13 a14 a15 a16 x9 x10 x11 x12 x13 x14 a17 a18 a19 x15 a20 x16 a21 x17 x18 a22 a23 a24 a25 x19 a26 x20 a27 a28 a29 y0 a30 a31 a32 a33 a34 a35 a36 a37 a38 x21 x22 x23 y1 a39 x24 a40 a41 a42 a43 x25 x26 x27 x28 a18 f0 a19 f1 a29 (u_23.2.1 0)) := hD
                  have hw_26 : (r_24.toInt = lvM f0 f1 x10.toInt x11.toInt x13.toInt x_8.toInt) := hw_25
                  have rr_24 := n_rngL r_24
                  refine lv_aload_n (pc := 39) hx hb dX12_leave_39 rfl (lv_at hl 2 rfl) ?_
                  refine lv_iload_n (pc := 40) hx hb dX12_leave_40 rfl (lv_at hl 1 rfl) ?_
                  refine gd_l (pc := 41) (wc := (zS_17 cB cC cI cJ a0 a1 x1 x2 x3 x4 x5 x6 x7 x8 a2 a3 a4 a5 a6 a7 a8 a9 a10 a11 a12 a13 a14 a15 a16 x9 x10 x11 x12 x13 x14 a17 a18 a19 x15 a20 x16 a21 x17 x18 a22 a23 a24 a25 x19 a26 x20 a27 a28 a29 y0 a30 a31 a32 a33 a34 a35 a36 a37 a38 x21 x22 x23 y1 a39 x24 a40 a41 a42 a43 x25 x26 x27 x28 a18 f0 a19 f1 a29 (u_23.2.1 0))) hP hD hS hA [0, 1, 2, 3] rfl (by decide +kernel) (fun _ => by rfl) (fun hPc hDc => va_runV (As := [.int x_10]) (rest := [.long r_24]) ⟨hx, hb, hml, hown, hts⟩ (k_X12_leastWithout l D cB cC cI cJ _ a0 a1 a2 a3 a4 a5 a6 a7 a8 a9 a10 a11 a12 a13 a14 a15 a16 a17 a18 a19 a20 a21 a22 a23 a24 a25 a26 a27 a28 a29 a30 a31 a32 a33 a34 a35 a36 a37 a38 a39 a40 a41 a42 a43 x_10 x1 x2 x3 x4 x5 x6 x7 x8 x9 x10 x11 x12 x13 x14 x15 x16 x17 x18 x19 x20 x21 x22 x23 x24 x25 x26 x27 x28 y0 y1 f0 f1 (u_23.2.1 0) h_x1 h_x2 h_x3 h_x4 h_x5 h_x6 h_x9 h_x10 h_x11 h_x12 h_x13 h_x15 h_x16 h_x17 h_x19 h_x20 h_x21 h_x22 h_x23 h_x24 h_x25 h_x26 h_x27 h_x28 hr_a0_0 hr_a0_1 hr_a0_2 hf_f0 hf_f1) ⟨gcwB hts tw_2004 tw_14 tw_2001 hd_yX12_leastWithout ⟨Nat.le_of_ble_eq_true rfl, Nat.le_of_ble_eq_true rfl⟩, hts _ tw_2003, hts _ tp_113⟩ ⟨gblind, va_recv hK hPc (ci := 12) (q0 := 0) rfl rfl, (gpreS hPc hK hDc hN).2⟩ rfl rfl hl.1 rfl (lv_room (Nat.le_of_ble_eq_true rfl)) dX12_leave_41 ⟨Nat.le_of_ble_eq_true rfl, Nat.le_of_ble_eq_true rfl⟩) (fun r_28 u_27 H locs hw_29 hP hD hS => ?_)
                  replace hP : va_P D gcl (zS_17 cB cC cI cJ a0 a1 x1 x2 x3 x4 x5 x6 x7 x8 a2 a3 a4 a5 a6 a7 a8 a9 a10 a11 a12 a13 a14 a15 a16 x9 x10 x11 x12 x13 x14 a17 a18 a19 x15 a20 x16 a21 x17 x18 a22 a23 a24 a25 x19 a26 x20 a27 a28 a29 y0 a30 a31 a32 a33 a34 a35 a36 a37 a38 x21 x22 x23 y1 a39 x24 a40 a41 a42 a43 x25 x26 x27 x28 a18 f0 a19 f1 a29 (u_27.2.1 0)) H := hP
                  replace hD : va_D A (zS_17 cB cC cI cJ a0 a1 x1 x2 x3 x4 x5 x6 x7 x8 a2 a3 a4 a5 a6 a7 a8 a9 a10 a11 a12 a13 a14 a15 a16 x9 x10 x11 x12 x13 x14 a17 a18 a19 x15 a20 x16 a21 x17 x18 a22 a23 a24 a25 x19 a26 x20 a27 a28 a29 y0 a30 a31 a32 a33 a34 a35 a36 a37 a38 x21 x22 x23 y1 a39 x24 a40 a41 a42 a43 x25 x26 x27 x28 a18 f0 a19 f1 a29 (u_27.2.1 0)) := hD
                  have hw_30 : (r_28.toInt = lvM f0 f1 x10.toInt x11.toInt x13.toInt x_10.toInt) := hw_29
                  have rr_28 := n_rngL r_28
                  refine b_lcmp_le (pc := 44) (tgt := 50) hx hb rfl rfl dX12_leave_44 dX12_leave_45 (by decide) (fun c_31 => ?_) (fun c_31 => ?_)
                  ·
                    as_aux_lemma =>
                      refine b_iinc (pc := 50) hx hb dX12_leave_50 hl (k := 0) rfl rfl tI_1 (by first | exact (om_139 hi_9.1) | ((first | omega | (unfold zBd at *; omega)))) (by first | exact (om_940 hi_9.2) | ((first | omega | (unfold zBd at *; omega)))) (by decide) (fun x_32 ex_32 ls hl => ?_)
                      replace hl : lv_has ls 4 [(3, .int x_32), (2, .int x_10), (0, .ref a0), (1, .int x0)] := hl
                      refine lv_goto (pc := 53) (tgt := 26) hx hb dX12_leave_53 (by decide) ?_
                      exact ih_lp_15 x_32 x_10 (u_27.2.1 0) _ _ ls (by first | exact (om_1799 ex_32 hi_9.1 c_16 h_x13.2) | ((first | omega | (unfold zBd at *; omega)))) hi_11 (by first | exact (om_40 ex_32 c_16) | ((first | omega | (unfold zBd at *; omega)))) (lv_stepM hi_14 hw_26 hw_30 (by first | exact (om_1800 hi_9.1) | ((first | omega | (unfold zBd at *; omega)))) (by first | exact (om_0 hi_11.1) | ((first | omega | (unfold zBd at *; omega)))) (by first | exact (om_1801 c_31) | ((first | omega | (unfold zBd at *; omega)))) (by first | exact (om_5 ex_32) | ((first | omega | (unfold zBd at *; omega))))) (by (first | omega | (unfold zBd at *; omega))) hP hD hS (lv_sub hl [0, 1, 2, 3] rfl)
                  ·
                    as_aux_lemma =>
                      refine lv_iload_n (pc := 48) hx hb dX12_leave_48 rfl (lv_at hl 0 rfl) ?_
                      refine lv_istore_n (pc := 49) (lv' := [(2, .int x_8), (3, .int x_8), (0, .ref a0), (1, .int x0)]) hx hb dX12_leave_49 rfl hl (by decide) rfl (fun ls hl => ?_)
                      refine b_iinc (pc := 50) hx hb dX12_leave_50 hl (k := 1) rfl rfl tI_1 (by first | exact (om_139 hi_9.1) | ((first | omega | (unfold zBd at *; omega)))) (by first | exact (om_940 hi_9.2) | ((first | omega | (unfold zBd at *; omega)))) (by decide) (fun x_33 ex_33 ls hl => ?_)
                      replace hl : lv_has ls 4 [(3, .int x_33), (2, .int x_8), (0, .ref a0), (1, .int x0)] := hl
                      refine lv_goto (pc := 53) (tgt := 26) hx hb dX12_leave_53 (by decide) ?_
                      exact ih_lp_15 x_33 x_8 (u_27.2.1 0) _ _ ls (by first | exact (om_1799 ex_33 hi_9.1 c_16 h_x13.2) | ((first | omega | (unfold zBd at *; omega)))) (by first | exact (om_1802 hi_9.1 c_16 h_x13.2) | ((first | omega | (unfold zBd at *; omega)))) (by first | exact (om_40 ex_33 c_16) | ((first | omega | (unfold zBd at *; omega)))) (lv_stepM hi_14 hw_26 hw_30 (by first | exact (om_1800 hi_9.1) | ((first | omega | (unfold zBd at *; omega)))) (by first | exact (om_0 hi_11.1) | ((first | omega | (unfold zBd at *; omega)))) (by first | exact (om_1803 c_31) | ((first | omega | (unfold zBd at *; omega)))) (by first | exact (om_5 ex_33) | ((first | omega | (unfold zBd at *; omega))))) (by (first | omega | (unfold zBd at *; omega))) hP hD hS (lv_sub hl [0, 1, 2, 3] rfl)
          exact lp_15 _ 1 0 f2 _ _ ls (n_c tI_1 (by decide)) (n_c tI_0 (by decide)) (by have q := tI_1; (first | omega | (unfold zBd at *; omega))) (lv_1 tI_0 tI_1) (Nat.lt_succ_self _) hP hD hS (lv_sub hl [0, 1, 2, 3] rfl)
      ·
        as_aux_lemma =>
          refine lv_ldc2 (pc := 18) hx hb hown (hts _ tw_1838) dX12_leave_18 ?_
          have hP9 : va_P D gcl (zS_17 cB cC cI cJ a0 a1 x1 x2 x3 x4 x5 x6 x7 x8 a2 a3 a4 a5 a6 a7 a8 a9 a10 a11 a12 a13 a14 a15 a16 x9 x10 x11 x12 x13 x14 a17 a18 a19 x15 a20 x16 a21 x17 x18 a22 a23 a24 a25 x19 a26 x20 a27 a28 a29 y0 a30 a31 a32 a33 a34 a35 a36 a37 a38 x21 x22 x23 y1 a39 x24 a40 a41 a42 a43 x25 x26 x27 x28 a18 f0 a19 f1 a29 f2) H := g_psub hP [0, 1, 2, 3] rfl
          have hD9 : va_D A (zS_17 cB cC cI cJ a0 a1 x1 x2 x3 x4 x5 x6 x7 x8 a2 a3 a4 a5 a6 a7 a8 a9 a10 a11 a12 a13 a14 a15 a16 x9 x10 x11 x12 x13 x14 a17 a18 a19 x15 a20 x16 a21 x17 x18 a22 a23 a24 a25 x19 a26 x20 a27 a28 a29 y0 a30 a31 a32 a33 a34 a35 a36 a37 a38 x21 x22 x23 y1 a39 x24 a40 a41 a42 a43 x25 x26 x27 x28 a18 f0 a19 f1 a29 f2) := hD.sub [0, 1, 2, 3] (by decide) rfl
          have k9 := tL_m1
          exact hret (-1) ((fun _ => 0), (fun k => [f2].getD k (fun _ => 0)), (fun _ => (fun _ => 0)), (fun _ => 0), (fun _ => 0)) dX12_leave_21 (show lvQ ((-1) : Int64).toInt x0.toInt x13.toInt (lvM f0 f1 x10.toInt x11.toInt x13.toInt) from lq_no (by first | exact (om_1422 c_7) | ((first | omega | (unfold zBd at *; omega)))) (by first | exact (om_65 tL_m1) | ((first | omega | (unfold zBd at *; omega))))) hP9 hD9 hS
set_option maxHeartbeats 4000000 in
set_option maxRecDepth 100000 in
theorem k_X12_isWord (l : Launch) (D : va_G) (cB cC cI cJ : ClassId) (sz : Nat) (a0 a1 a2 a3 a4 a5 a6 a7 a8 a9 a10 a11 a12 a13 a14 a15 a16 a17 a18 a19 a20 a21 a22 a23 a24 a25 a26 a27 a28 a29 a30 a31 a32 a33 a34 a35 a36 a37 a38 a39 a40 a41 a42 a43 : Nat) (x0 x1 x2 x3 x4 x5 x6 x7 x8 x9 x10 x11 x12 x13 x14 x15 x16 x17 x18 x19 x20 x21 x22 x23 x24 x25 x26 x27 x28 : Int32) (y0 y1 : Int64) (h_x1 : zBd x1.toInt 0 1600) (h_x2 : zBd x2.toInt 0 1600) (h_x3 : zBd x3.toInt 0 1600) (h_x4 : zBd x4.toInt (-1) 1600) (h_x5 : zBd x5.toInt 0 4) (h_x6 : zBd x6.toInt (-1) 1600) (h_x9 : zBd x9.toInt 0 8) (h_x10 : zBd x10.toInt 0 5) (h_x11 : zBd x11.toInt 0 6) (h_x12 : zBd x12.toInt 0 6) (h_x13 : zBd x13.toInt 0 16) (h_x15 : zBd x15.toInt 0 60) (h_x16 : zBd x16.toInt 0 1600) (h_x17 : zBd x17.toInt 0 1700) (h_x19 : zBd x19.toInt 0 1700) (h_x20 : zBd x20.toInt 0 1700) (h_x21 : zBd x21.toInt 0 200) (h_x22 : zBd x22.toInt 0 40) (h_x23 : zBd x23.toInt 0 40) (h_x24 : zBd x24.toInt 0 1) (h_x25 : zBd x25.toInt 0 14) (h_x26 : zBd x26.toInt 0 200) (h_x27 : zBd x27.toInt 0 40) (h_x28 : zBd x28.toInt 0 40) (hr_a0_0 : (x22.toInt ≤ x21.toInt)) (hr_a0_1 : (x21.toInt + x23.toInt ≤ 200)) (hr_a0_2 : (x10.toInt = 0 ∨ 2 ≤ x9.toInt)) : Met l yX12_isWord (.code yX12_isWord cX12_isWord 2 (some .boolean) :: lw_gd) ({ frames := 1, cells := 0, slots := 0, locals := 25 }) (gPre D [(cB, .byte), (cC, .char), (cI, .int), (cJ, .long)] [.ref a0, .int x0] (zS_4 cB cC cI cJ a0 a1 x1 x2 x3 x4 x5 x6 x7 x8 a2 a3 a4 a5 a6 a7 a8 a9 a10 a11 a12 a13 a14 a15 a16 x9 x10 x11 x12 x13 x14 a17 a18 a19 x15 a20 x16 a21 x17 x18 a22 a23 a24 a25 x19 a26 x20 a27 a28 a29 y0 a30 a31 a32 a33 a34 a35 a36 a37 a38 x21 x22 x23 y1 a39 x24 a40 a41 a42 a43 x25 x26 x27 x28) sz) (va_Qi (fun r u => (0 ≤ r.toInt ∧ r.toInt ≤ 1) ∧ (-x0.toInt ≤ 4294967296 - 4294967296 * r.toInt ∧ x0.toInt ≤ x13.toInt - 1 + 4294967296 - 4294967296 * r.toInt) ∧ (inQ r.toInt x0.toInt x13.toInt)) (gB D (va_A (zS_4 cB cC cI cJ a0 a1 x1 x2 x3 x4 x5 x6 x7 x8 a2 a3 a4 a5 a6 a7 a8 a9 a10 a11 a12 a13 a14 a15 a16 x9 x10 x11 x12 x13 x14 a17 a18 a19 x15 a20 x16 a21 x17 x18 a22 a23 a24 a25 x19 a26 x20 a27 a28 a29 y0 a30 a31 a32 a33 a34 a35 a36 a37 a38 x21 x22 x23 y1 a39 x24 a40 a41 a42 a43 x25 x26 x27 x28) sz) (fun u : gEx => (zS_4 cB cC cI cJ a0 a1 x1 x2 x3 x4 x5 x6 x7 x8 a2 a3 a4 a5 a6 a7 a8 a9 a10 a11 a12 a13 a14 a15 a16 x9 x10 x11 x12 x13 x14 a17 a18 a19 x15 a20 x16 a21 x17 x18 a22 a23 a24 a25 x19 a26 x20 a27 a28 a29 y0 a30 a31 a32 a33 a34 a35 a36 a37 a38 x21 x22 x23 y1 a39 x24 a40 a41 a42 a43 x25 x26 x27 x28))) (va_A (zS_4 cB cC cI cJ a0 a1 x1 x2 x3 x4 x5 x6 x7 x8 a2 a3 a4 a5 a6 a7 a8 a9 a10 a11 a12 a13 a14 a15 a16 x9 x10 x11 x12 x13 x14 a17 a18 a19 x15 a20 x16 a21 x17 x18 a22 a23 a24 a25 x19 a26 x20 a27 a28 a29 y0 a30 a31 a32 a33 a34 a35 a36 a37 a38 x21 x22 x23 y1 a39 x24 a40 a41 a42 a43 x25 x26 x27 x28) sz)) 0 0 (va_A (zS_4 cB cC cI cJ a0 a1 x1 x2 x3 x4 x5 x6 x7 x8 a2 a3 a4 a5 a6 a7 a8 a9 a10 a11 a12 a13 a14 a15 a16 x9 x10 x11 x12 x13 x14 a17 a18 a19 x15 a20 x16 a21 x17 x18 a22 a23 a24 a25 x19 a26 x20 a27 a28 a29 y0 a30 a31 a32 a33 a34 a35 a36 a37 a38 x21 x22 x23 y1 a39 x24 a40 a41 a42 a43 x25 x26 x27 x28) sz) := by
  refine gOf_z (by decide +kernel) (Nat.le_of_ble_eq_true rfl) ?_
  intro p e s m args below meth c ls A Q hx hb hts hown hml hN hK hP hD hA hl hret
  replace hown : s.vm.findClass RX12 = some m.cls := hown
  have hS : va_S A s.heap s.heap [] := va_S.rf
  replace hP : va_P D gcl (zS_4 cB cC cI cJ a0 a1 x1 x2 x3 x4 x5 x6 x7 x8 a2 a3 a4 a5 a6 a7 a8 a9 a10 a11 a12 a13 a14 a15 a16 x9 x10 x11 x12 x13 x14 a17 a18 a19 x15 a20 x16 a21 x17 x18 a22 a23 a24 a25 x19 a26 x20 a27 a28 a29 y0 a30 a31 a32 a33 a34 a35 a36 a37 a38 x21 x22 x23 y1 a39 x24 a40 a41 a42 a43 x25 x26 x27 x28) s.heap := hP
  replace hl : lv_has ls 2 [(0, .ref a0), (1, .int x0)] := hl
  have rx0 : zBd x0.toInt (-2147483648) 2147483647 := n_rng x0
  have rx7 : zBd x7.toInt (-2147483648) 2147483647 := n_rng x7
  have rx8 : zBd x8.toInt (-2147483648) 2147483647 := n_rng x8
  have rx14 : zBd x14.toInt (-2147483648) 2147483647 := n_rng x14
  have rx18 : zBd x18.toInt (-2147483648) 2147483647 := n_rng x18
  have ry0 := n_rngL y0
  have ry1 := n_rngL y1
  refine lv_iload_n (pc := 0) hx hb dX12_isWord_0 rfl (lv_at hl 1 rfl) ?_
  refine b_i2l (pc := 1) hx hb rfl dX12_isWord_1 (fun y_1 ey_1 => ?_)
  have ry_1 : zBd x0.toInt (-2147483648) 2147483647 := n_rng x0
  refine lv_lconst (pc := 2) (v := 0) hx hb dX12_isWord_2 (by decide) ?_
  refine lv_aload_n (pc := 3) hx hb dX12_isWord_3 rfl (lv_at hl 0 rfl) ?_
  refine va_get (pc := 4) (ci := 12) (v := .int x13) (C := RX12) (T := TX12) (N := 73) hx hb hts iX12 hown hK hP 0 rfl rfl 28 (by decide) (hts _ tw_1429) (fun _ h9 => h9) rfl dX12_isWord_4 ?_
  have bd_h_x13 : 0 ≤ x13.toInt ∧ x13.toInt ≤ 16 := h_x13
  refine lv_iconst (pc := 7) (v := 1) hx hb dX12_isWord_7 (by decide) ?_
  refine b_isub (pc := 8) hx hb rfl tI_1 (by first | exact (om_659 h_x13.1) | ((first | omega | (unfold zBd at *; omega)))) (by first | exact (om_947 h_x13.2) | ((first | omega | (unfold zBd at *; omega)))) dX12_isWord_8 (fun x_2 ex_2 => ?_)
  refine b_i2l (pc := 9) hx hb rfl dX12_isWord_9 (fun y_3 ey_3 => ?_)
  have ry_3 : zBd x_2.toInt (-2147483648) 2147483647 := n_rng x_2
  refine gd_i (pc := 10) (wc := []) hP hD hS hA [] rfl (by decide +kernel) (fun _ => by rfl) (fun hPc hDc => va_runS (As := [.long y_1, .long 0, .long y_3]) (rest := []) ⟨hx, hb, hml, hown, hts⟩ (k_X12_isIn l D cB cC cI cJ _ y_1 0 y_3) ⟨gcwB hts tw_1666 tw_14 tw_1664 hd_yX12_isIn ⟨Nat.le_of_ble_eq_true rfl, Nat.le_of_ble_eq_true rfl⟩, hts _ tw_1665⟩ (gpreS hPc hK hDc hN) rfl rfl hl.1 rfl (lv_room (Nat.le_of_ble_eq_true rfl)) dX12_isWord_10 ⟨Nat.le_of_ble_eq_true rfl, Nat.le_of_ble_eq_true rfl⟩) (fun r_5 u_4 H locs hw_6 hP hD hS => ?_)
  replace hP : va_P D gcl (zS_4 cB cC cI cJ a0 a1 x1 x2 x3 x4 x5 x6 x7 x8 a2 a3 a4 a5 a6 a7 a8 a9 a10 a11 a12 a13 a14 a15 a16 x9 x10 x11 x12 x13 x14 a17 a18 a19 x15 a20 x16 a21 x17 x18 a22 a23 a24 a25 x19 a26 x20 a27 a28 a29 y0 a30 a31 a32 a33 a34 a35 a36 a37 a38 x21 x22 x23 y1 a39 x24 a40 a41 a42 a43 x25 x26 x27 x28) H := hP
  replace hD : va_D A (zS_4 cB cC cI cJ a0 a1 x1 x2 x3 x4 x5 x6 x7 x8 a2 a3 a4 a5 a6 a7 a8 a9 a10 a11 a12 a13 a14 a15 a16 x9 x10 x11 x12 x13 x14 a17 a18 a19 x15 a20 x16 a21 x17 x18 a22 a23 a24 a25 x19 a26 x20 a27 a28 a29 y0 a30 a31 a32 a33 a34 a35 a36 a37 a38 x21 x22 x23 y1 a39 x24 a40 a41 a42 a43 x25 x26 x27 x28) := hD
  have hw_7 : ((r_5.toInt = 0 ∧ y_1.toInt < (0 : Int64).toInt) ∨ (r_5.toInt = 0 ∧ y_1.toInt ≥ (0 : Int64).toInt ∧ y_1.toInt > y_3.toInt) ∨ (r_5.toInt = 1 ∧ y_1.toInt ≥ (0 : Int64).toInt ∧ y_1.toInt ≤ y_3.toInt)) := hw_6
  have kk0_r_5 := tL_0
  have rr_5 : zBd r_5.toInt (-2147483648) 2147483647 := n_rng r_5
  have hP9 : va_P D gcl (zS_4 cB cC cI cJ a0 a1 x1 x2 x3 x4 x5 x6 x7 x8 a2 a3 a4 a5 a6 a7 a8 a9 a10 a11 a12 a13 a14 a15 a16 x9 x10 x11 x12 x13 x14 a17 a18 a19 x15 a20 x16 a21 x17 x18 a22 a23 a24 a25 x19 a26 x20 a27 a28 a29 y0 a30 a31 a32 a33 a34 a35 a36 a37 a38 x21 x22 x23 y1 a39 x24 a40 a41 a42 a43 x25 x26 x27 x28) H := g_psub hP [0] rfl
  have hD9 : va_D A (zS_4 cB cC cI cJ a0 a1 x1 x2 x3 x4 x5 x6 x7 x8 a2 a3 a4 a5 a6 a7 a8 a9 a10 a11 a12 a13 a14 a15 a16 x9 x10 x11 x12 x13 x14 a17 a18 a19 x15 a20 x16 a21 x17 x18 a22 a23 a24 a25 x19 a26 x20 a27 a28 a29 y0 a30 a31 a32 a33 a34 a35 a36 a37 a38 x21 x22 x23 y1 a39 x24 a40 a41 a42 a43 x25 x26 x27 x28) := hD.sub [0] (by decide) rfl
  exact hret r_5 ((fun _ => 0), (fun _ => (fun _ => 0)), (fun _ => (fun _ => 0)), (fun _ => 0), (fun _ => 0)) dX12_isWord_13 ⟨(by first | exact (om_1520 hw_7) | ((first | omega | (unfold zBd at *; omega)))), ⟨(show (0 ≤ r_5.toInt ∧ r_5.toInt ≤ 1) from (by first | exact (om_1518 hw_7) | ((first | omega | (unfold zBd at *; omega))))), (show -x0.toInt ≤ 4294967296 - 4294967296 * r_5.toInt ∧ x0.toInt ≤ x13.toInt - 1 + 4294967296 - 4294967296 * r_5.toInt from (by first | exact (om_1519 hw_7 ry_1.1 ey_1 tL_0 ry_1.2 h_x13.1 ex_2 ey_3) | ((first | omega | (unfold zBd at *; omega))))), (show inQ r_5.toInt x0.toInt x13.toInt from (by unfold inQ; (first | omega | (unfold zBd at *; omega))))⟩⟩ hP9 hD9 hS
theorem om_1804 {a b c d : Int} (h0 : (a = 5 * c)) (h1 : (b < d)) (h2 : (d ≤ 5)) (h3 : (c ≤ 15)) : (a + b ≤ 2147483647) := by omega
theorem om_1805 {a b c d e : Int} (h0 : (a = b + c)) (h1 : (b = 5 * d)) (h2 : (c < e)) (h3 : (e ≤ 5)) (h4 : (d ≤ 15)) : (a < (160 : Nat)) := by omega
theorem om_1806 {a b : Int} (h0 : ((-9999) ≤ a)) (h1 : (0 ≤ b)) : (-2147483648 ≤ a + b) := by omega
theorem om_1807 {a b : Int} (h0 : (a ≤ 9999)) (h1 : (b ≤ 8)) : (a + b ≤ 2147483647) := by omega
theorem om_1808 {a b c : Int} (h0 : (a = b + c)) (h1 : ((-9999) ≤ b)) (h2 : (0 ≤ c)) : (-2147483648 ≤ a - 1) := by omega
theorem om_1809 {a b c : Int} (h0 : (a = b + c)) (h1 : (b ≤ 9999)) (h2 : (c ≤ 8)) : (a - 1 ≤ 2147483647) := by omega
set_option maxHeartbeats 4000000 in
set_option maxRecDepth 100000 in
theorem k_X12_numberOf (l : Launch) (D : va_G) (cB cC cI cJ : ClassId) (sz : Nat) (a0 a1 a2 a3 a4 a5 a6 a7 a8 a9 a10 a11 a12 a13 a14 a15 a16 a17 a18 a19 a20 a21 a22 a23 a24 a25 a26 a27 a28 a29 a30 a31 a32 a33 a34 a35 a36 a37 a38 a39 a40 a41 a42 a43 : Nat) (x0 x1 x2 x3 x4 x5 x6 x7 x8 x9 x10 x11 x12 x13 x14 x15 x16 x17 x18 x19 x20 x21 x22 x23 x24 x25 x26 x27 x28 : Int32) (y0 y1 : Int64) (f0 : Nat → Int32) (hp1 : (0 ≤ x0.toInt ∧ x0.toInt ≤ 15)) (h_x1 : zBd x1.toInt 0 1600) (h_x2 : zBd x2.toInt 0 1600) (h_x3 : zBd x3.toInt 0 1600) (h_x4 : zBd x4.toInt (-1) 1600) (h_x5 : zBd x5.toInt 0 4) (h_x6 : zBd x6.toInt (-1) 1600) (h_x9 : zBd x9.toInt 0 8) (h_x10 : zBd x10.toInt 0 5) (h_x11 : zBd x11.toInt 0 6) (h_x12 : zBd x12.toInt 0 6) (h_x13 : zBd x13.toInt 0 16) (h_x15 : zBd x15.toInt 0 60) (h_x16 : zBd x16.toInt 0 1600) (h_x17 : zBd x17.toInt 0 1700) (h_x19 : zBd x19.toInt 0 1700) (h_x20 : zBd x20.toInt 0 1700) (h_x21 : zBd x21.toInt 0 200) (h_x22 : zBd x22.toInt 0 40) (h_x23 : zBd x23.toInt 0 40) (h_x24 : zBd x24.toInt 0 1) (h_x25 : zBd x25.toInt 0 14) (h_x26 : zBd x26.toInt 0 200) (h_x27 : zBd x27.toInt 0 40) (h_x28 : zBd x28.toInt 0 40) (hr_a0_0 : (x22.toInt ≤ x21.toInt)) (hr_a0_1 : (x21.toInt + x23.toInt ≤ 200)) (hr_a0_2 : (x10.toInt = 0 ∨ 2 ≤ x9.toInt)) (hf_f0 : (∀ j, (-9999) ≤ (f0 j).toInt ∧ (f0 j).toInt ≤ 9999)) : Met l yX12_numberOf (.code yX12_numberOf cX12_numberOf 4 (some .int) :: lw_gd) ({ frames := 0, cells := 0, slots := 0, locals := 0 }) (gPre D [(cB, .byte), (cC, .char), (cI, .int), (cJ, .long)] [.ref a0, .int x0] (zS_27 cB cC cI cJ a0 a1 x1 x2 x3 x4 x5 x6 x7 x8 a2 a3 a4 a5 a6 a7 a8 a9 a10 a11 a12 a13 a14 a15 a16 x9 x10 x11 x12 x13 x14 a17 a18 a19 x15 a20 x16 a21 x17 x18 a22 a23 a24 a25 x19 a26 x20 a27 a28 a29 y0 a30 a31 a32 a33 a34 a35 a36 a37 a38 x21 x22 x23 y1 a39 x24 a40 a41 a42 a43 x25 x26 x27 x28 a19 f0) sz) (va_Qi (fun r u => ((((-2147483648) ≤ r.toInt ∧ r.toInt ≤ 2147483647) ∧ (0 ≤ x10.toInt ∧ x10.toInt ≤ 5)))) (gB D (va_A (zS_27 cB cC cI cJ a0 a1 x1 x2 x3 x4 x5 x6 x7 x8 a2 a3 a4 a5 a6 a7 a8 a9 a10 a11 a12 a13 a14 a15 a16 x9 x10 x11 x12 x13 x14 a17 a18 a19 x15 a20 x16 a21 x17 x18 a22 a23 a24 a25 x19 a26 x20 a27 a28 a29 y0 a30 a31 a32 a33 a34 a35 a36 a37 a38 x21 x22 x23 y1 a39 x24 a40 a41 a42 a43 x25 x26 x27 x28 a19 f0) sz) (fun u : gEx => (zS_27 cB cC cI cJ a0 a1 x1 x2 x3 x4 x5 x6 x7 x8 a2 a3 a4 a5 a6 a7 a8 a9 a10 a11 a12 a13 a14 a15 a16 x9 x10 x11 x12 x13 x14 a17 a18 a19 x15 a20 x16 a21 x17 x18 a22 a23 a24 a25 x19 a26 x20 a27 a28 a29 y0 a30 a31 a32 a33 a34 a35 a36 a37 a38 x21 x22 x23 y1 a39 x24 a40 a41 a42 a43 x25 x26 x27 x28 a19 f0))) (va_A (zS_27 cB cC cI cJ a0 a1 x1 x2 x3 x4 x5 x6 x7 x8 a2 a3 a4 a5 a6 a7 a8 a9 a10 a11 a12 a13 a14 a15 a16 x9 x10 x11 x12 x13 x14 a17 a18 a19 x15 a20 x16 a21 x17 x18 a22 a23 a24 a25 x19 a26 x20 a27 a28 a29 y0 a30 a31 a32 a33 a34 a35 a36 a37 a38 x21 x22 x23 y1 a39 x24 a40 a41 a42 a43 x25 x26 x27 x28 a19 f0) sz)) 0 0 (va_A (zS_27 cB cC cI cJ a0 a1 x1 x2 x3 x4 x5 x6 x7 x8 a2 a3 a4 a5 a6 a7 a8 a9 a10 a11 a12 a13 a14 a15 a16 x9 x10 x11 x12 x13 x14 a17 a18 a19 x15 a20 x16 a21 x17 x18 a22 a23 a24 a25 x19 a26 x20 a27 a28 a29 y0 a30 a31 a32 a33 a34 a35 a36 a37 a38 x21 x22 x23 y1 a39 x24 a40 a41 a42 a43 x25 x26 x27 x28 a19 f0) sz) := by
  refine gOf_i (by decide +kernel) (Nat.le_of_ble_eq_true rfl) ?_
  intro p e s m args below meth c ls A Q hx hb hts hown hml hN hK hP hD hA hl hret
  replace hown : s.vm.findClass RX12 = some m.cls := hown
  have hS : va_S A s.heap s.heap [] := va_S.rf
  replace hP : va_P D gcl (zS_27 cB cC cI cJ a0 a1 x1 x2 x3 x4 x5 x6 x7 x8 a2 a3 a4 a5 a6 a7 a8 a9 a10 a11 a12 a13 a14 a15 a16 x9 x10 x11 x12 x13 x14 a17 a18 a19 x15 a20 x16 a21 x17 x18 a22 a23 a24 a25 x19 a26 x20 a27 a28 a29 y0 a30 a31 a32 a33 a34 a35 a36 a37 a38 x21 x22 x23 y1 a39 x24 a40 a41 a42 a43 x25 x26 x27 x28 a19 f0) s.heap := hP
  replace hl : lv_has ls 4 [(0, .ref a0), (1, .int x0)] := hl
  have rx7 : zBd x7.toInt (-2147483648) 2147483647 := n_rng x7
  have rx8 : zBd x8.toInt (-2147483648) 2147483647 := n_rng x8
  have rx14 : zBd x14.toInt (-2147483648) 2147483647 := n_rng x14
  have rx18 : zBd x18.toInt (-2147483648) 2147483647 := n_rng x18
  have ry0 := n_rngL y0
  have ry1 := n_rngL y1
  refine lv_iconst (pc := 0) (v := 0) hx hb dX12_numberOf_0 (by decide) ?_
  refine lv_istore_n (pc := 1) (lv' := [(2, .int 0), (0, .ref a0), (1, .int x0)]) hx hb dX12_numberOf_1 rfl hl (by decide) rfl (fun ls hl => ?_)
  refine lv_iconst (pc := 2) (v := 0) hx hb dX12_numberOf_2 (by decide) ?_
  refine lv_istore_n (pc := 3) (lv' := [(3, .int 0), (2, .int 0), (0, .ref a0), (1, .int x0)]) hx hb dX12_numberOf_3 rfl hl (by decide) rfl (fun ls hl => ?_)
  have lp_5 : ∀ (n : Nat) (x_1 x_3 : Int32) (H : Heap) (locs : List Loc) (ls : Array Slot), (0 ≤ x_1.toInt ∧ x_1.toInt ≤ 2147483647) → (2147483647 - x_1.toInt).toNat < n → va_P D gcl (zS_27 cB cC cI cJ a0 a1 x1 x2 x3 x4 x5 x6 x7 x8 a2 a3 a4 a5 a6 a7 a8 a9 a10 a11 a12 a13 a14 a15 a16 x9 x10 x11 x12 x13 x14 a17 a18 a19 x15 a20 x16 a21 x17 x18 a22 a23 a24 a25 x19 a26 x20 a27 a28 a29 y0 a30 a31 a32 a33 a34 a35 a36 a37 a38 x21 x22 x23 y1 a39 x24 a40 a41 a42 a43 x25 x26 x27 x28 a19 f0) H → va_D A (zS_27 cB cC cI cJ a0 a1 x1 x2 x3 x4 x5 x6 x7 x8 a2 a3 a4 a5 a6 a7 a8 a9 a10 a11 a12 a13 a14 a15 a16 x9 x10 x11 x12 x13 x14 a17 a18 a19 x15 a20 x16 a21 x17 x18 a22 a23 a24 a25 x19 a26 x20 a27 a28 a29 y0 a30 a31 a32 a33 a34 a35 a36 a37 a38 x21 x22 x23 y1 a39 x24 a40 a41 a42 a43 x25 x26 x27 x28 a19 f0) → va_S A s.heap H locs → lv_has ls 4 [(3, .int x_1), (2, .int x_3), (0, .ref a0), (1, .int x0)] → W p l e ({ frames := 0, cells := 0, slots := 0, locals := 0 }) s m args below meth c H locs 0 0 Q (F0 m 4 ls []) := by
    intro n
    induction n with
    | zero => intro x_1 x_3 H locs ls hi_2 hmu; exact absurd hmu (Nat.not_lt_zero _)
    | succ n ih_lp_5 =>
      intro x_1 x_3 H locs ls hi_2 hmu_lp_5 hP hD hS hl
      have hi_4 := n_rng x_3
      refine lv_iload_n (pc := 4) hx hb dX12_numberOf_4 rfl (lv_at hl 0 rfl) ?_
      refine lv_aload_n (pc := 5) hx hb dX12_numberOf_5 rfl (lv_at hl 2 rfl) ?_
      refine va_get (pc := 6) (ci := 12) (v := .int x10) (C := RX12) (T := TX12) (N := 73) hx hb hts iX12 hown hK hP 0 rfl rfl 25 (by decide) (hts _ tw_1426) (fun _ h9 => h9) rfl dX12_numberOf_6 ?_
      have bd_h_x10 : 0 ≤ x10.toInt ∧ x10.toInt ≤ 5 := h_x10
      refine b_icmp_ge (pc := 9) (tgt := 45) hx hb rfl rfl  dX12_numberOf_9 (by decide) (fun c_6 => ?_) (fun c_6 => ?_)
      ·
        as_aux_lemma =>
          refine lv_iload_n (pc := 45) hx hb dX12_numberOf_45 rfl (lv_at hl 1 rfl) ?_
          have hP9 : va_P D gcl (zS_27 cB cC cI cJ a0 a1 x1 x2 x3 x4 x5 x6 x7 x8 a2 a3 a4 a5 a6 a7 a8 a9 a10 a11 a12 a13 a14 a15 a16 x9 x10 x11 x12 x13 x14 a17 a18 a19 x15 a20 x16 a21 x17 x18 a22 a23 a24 a25 x19 a26 x20 a27 a28 a29 y0 a30 a31 a32 a33 a34 a35 a36 a37 a38 x21 x22 x23 y1 a39 x24 a40 a41 a42 a43 x25 x26 x27 x28 a19 f0) H := g_psub hP [0, 1] rfl
          have hD9 : va_D A (zS_27 cB cC cI cJ a0 a1 x1 x2 x3 x4 x5 x6 x7 x8 a2 a3 a4 a5 a6 a7 a8 a9 a10 a11 a12 a13 a14 a15 a16 x9 x10 x11 x12 x13 x14 a17 a18 a19 x15 a20 x16 a21 x17 x18 a22 a23 a24 a25 x19 a26 x20 a27 a28 a29 y0 a30 a31 a32 a33 a34 a35 a36 a37 a38 x21 x22 x23 y1 a39 x24 a40 a41 a42 a43 x25 x26 x27 x28 a19 f0) := hD.sub [0, 1] (by decide) rfl
          exact hret x_3 ((fun _ => 0), (fun _ => (fun _ => 0)), (fun _ => (fun _ => 0)), (fun _ => 0), (fun _ => 0)) dX12_numberOf_46 (show ((((-2147483648) ≤ x_3.toInt ∧ x_3.toInt ≤ 2147483647) ∧ (0 ≤ x10.toInt ∧ x10.toInt ≤ 5))) from (by first | exact (om_1588 hi_4.1 hi_4.2 h_x10.1 h_x10.2) | ((first | omega | (unfold zBd at *; omega))))) hP9 hD9 hS
      ·
        as_aux_lemma =>
          refine lv_iload_n (pc := 12) hx hb dX12_numberOf_12 rfl (lv_at hl 1 rfl) ?_
          refine lv_aload_n (pc := 13) hx hb dX12_numberOf_13 rfl (lv_at hl 2 rfl) ?_
          refine va_get (pc := 14) (ci := 12) (v := .int x9) (C := RX12) (T := TX12) (N := 73) hx hb hts iX12 hown hK hP 0 rfl rfl 24 (by decide) (hts _ tw_1425) (fun _ h9 => h9) rfl dX12_numberOf_14 ?_
          have bd_h_x9 : 0 ≤ x9.toInt ∧ x9.toInt ≤ 8 := h_x9
          refine lv_imul (pc := 17) hx hb dX12_numberOf_17 ?_
          refine lv_topi (fun x_7 _ => ?_)
          have rx_7 : zBd x_7.toInt (-2147483648) 2147483647 := n_rng x_7
          refine lv_aload_n (pc := 18) hx hb dX12_numberOf_18 rfl (lv_at hl 2 rfl) ?_
          refine va_get (pc := 19) (ci := 12) (v := .ref a19) (C := RX12) (T := TX12) (N := 73) hx hb hts iX12 hown hK hP 0 rfl rfl 32 (by decide) (hts _ tw_1433) (fun _ h9 => h9) rfl dX12_numberOf_19 ?_
          refine lv_iconst (pc := 22) (v := 5) hx hb dX12_numberOf_22 (by decide) ?_
          refine lv_iload_n (pc := 23) hx hb dX12_numberOf_23 rfl (lv_at hl 3 rfl) ?_
          refine b_imul (pc := 24) hx hb tI_5 rfl (by first | exact (om_941 hp1.1) | ((first | omega | (unfold zBd at *; omega)))) (by first | exact (om_1767 hp1.2) | ((first | omega | (unfold zBd at *; omega)))) dX12_numberOf_24 (fun x_8 ex_8 => ?_)
          as_aux_lemma =>
            refine lv_iload_n (pc := 25) hx hb dX12_numberOf_25 rfl (lv_at hl 0 rfl) ?_
            refine b_iadd (pc := 26) hx hb rfl rfl (by first | exact (om_1529 ex_8 hi_2.1 hp1.1) | ((first | omega | (unfold zBd at *; omega)))) (by first | exact (om_1804 ex_8 c_6 h_x10.2 hp1.2) | ((first | omega | (unfold zBd at *; omega)))) dX12_numberOf_26 (fun x_9 ex_9 => ?_)
            refine va_iald (pc := 27) hx hb hK hP 1 2 rfl rfl (n_in rfl (by first | exact (om_1531 ex_9 ex_8 hi_2.1 hp1.1) | ((first | omega | (unfold zBd at *; omega)))) (by first | exact (om_1805 ex_9 ex_8 c_6 h_x10.2 hp1.2) | ((first | omega | (unfold zBd at *; omega))))) dX12_numberOf_27 ?_
            refine lv_topi (fun x_10 ex_10 => ?_)
            have rx_10 : ((-9999) ≤ x_10.toInt ∧ x_10.toInt ≤ 9999) := by rw [ex_10]; exact hf_f0 _
            refine lv_aload_n (pc := 28) hx hb dX12_numberOf_28 rfl (lv_at hl 2 rfl) ?_
            refine va_get (pc := 29) (ci := 12) (v := .int x9) (C := RX12) (T := TX12) (N := 73) hx hb hts iX12 hown hK hP 0 rfl rfl 24 (by decide) (hts _ tw_1425) (fun _ h9 => h9) rfl dX12_numberOf_29 ?_
            refine b_iadd (pc := 32) hx hb rfl rfl (by first | exact (om_1806 rx_10.1 h_x9.1) | ((first | omega | (unfold zBd at *; omega)))) (by first | exact (om_1807 rx_10.2 h_x9.2) | ((first | omega | (unfold zBd at *; omega)))) dX12_numberOf_32 (fun x_11 ex_11 => ?_)
            refine lv_iconst (pc := 33) (v := 1) hx hb dX12_numberOf_33 (by decide) ?_
            refine b_isub (pc := 34) hx hb rfl tI_1 (by first | exact (om_1808 ex_11 rx_10.1 h_x9.1) | ((first | omega | (unfold zBd at *; omega)))) (by first | exact (om_1809 ex_11 rx_10.2 h_x9.2) | ((first | omega | (unfold zBd at *; omega)))) dX12_numberOf_34 (fun x_12 ex_12 => ?_)
            refine lv_iconst (pc := 35) (v := 2) hx hb dX12_numberOf_35 (by decide) ?_
            as_aux_lemma =>
              refine lv_idiv (pc := 36) hx hb dX12_numberOf_36 (fun h => by have q := congrArg Int32.toInt h; have k := tI_0; have k2 := tI_2; (first | omega | (unfold zBd at *; omega))) ?_
              refine lv_topi (fun x_13 _ => ?_)
              have rx_13 : zBd x_13.toInt (-2147483648) 2147483647 := n_rng x_13
              refine lv_iadd (pc := 37) hx hb dX12_numberOf_37 ?_
              refine lv_topi (fun x_14 _ => ?_)
              have rx_14 : zBd x_14.toInt (-2147483648) 2147483647 := n_rng x_14
              refine lv_istore_n (pc := 38) (lv' := [(2, .int x_14), (3, .int x_1), (0, .ref a0), (1, .int x0)]) hx hb dX12_numberOf_38 rfl hl (by decide) rfl (fun ls hl => ?_)
              refine b_iinc (pc := 39) hx hb dX12_numberOf_39 hl (k := 1) rfl rfl tI_1 (by first | exact (om_2 hi_2.1) | ((first | omega | (unfold zBd at *; omega)))) (by first | exact (om_338 c_6 h_x10.2) | ((first | omega | (unfold zBd at *; omega)))) (by decide) (fun x_15 ex_15 ls hl => ?_)
              replace hl : lv_has ls 4 [(3, .int x_15), (2, .int x_14), (0, .ref a0), (1, .int x0)] := hl
              refine lv_goto (pc := 42) (tgt := 4) hx hb dX12_numberOf_42 (by decide) ?_
              exact ih_lp_5 x_15 x_14 _ _ ls (by first | exact (om_339 ex_15 hi_2.1 c_6 h_x10.2) | ((first | omega | (unfold zBd at *; omega)))) (by (first | omega | (unfold zBd at *; omega))) hP hD hS (lv_sub hl [0, 1, 2, 3] rfl)
  exact lp_5 _ 0 0 _ _ ls (n_c tI_0 (by decide)) (Nat.lt_succ_self _) hP hD hS (lv_sub hl [0, 1, 2, 3] rfl)
theorem om_1810 {a b c : Int} (h0 : (¬ b = 0)) (h1 : (0 ≤ b)) (h2 : (-a ≤ 4294967296 - 4294967296 * b)) (h3 : (a ≤ c - 1 + 4294967296 - 4294967296 * b)) (h4 : (c ≤ 16)) : ((0 ≤ a ∧ a ≤ 15)) := by omega
theorem om_1811 {a : Int} (h0 : ((-2147483648) ≤ a)) (h1 : (a ≤ 2147483647)) : (((((-2147483648) ≤ a ∧ a ≤ 2147483647)) ∨ (a = (-1)))) := by omega
theorem om_1812 {a : Int} (h0 : (a = (-1))) : (((((-2147483648) ≤ a ∧ a ≤ 2147483647)) ∨ (a = (-1)))) := by omega
set_option maxHeartbeats 4000000 in
set_option maxRecDepth 100000 in
theorem k_X12_behind (l : Launch) (D : va_G) (cB cC cI cJ : ClassId) (sz : Nat) (a0 a1 a2 a3 a4 a5 a6 a7 a8 a9 a10 a11 a12 a13 a14 a15 a16 a17 a18 a19 a20 a21 a22 a23 a24 a25 a26 a27 a28 a29 a30 a31 a32 a33 a34 a35 a36 a37 a38 a39 a40 a41 a42 a43 : Nat) (x0 x1 x2 x3 x4 x5 x6 x7 x8 x9 x10 x11 x12 x13 x14 x15 x16 x17 x18 x19 x20 x21 x22 x23 x24 x25 x26 x27 x28 : Int32) (y0 y1 : Int64) (f0 f1 f2 f3 : Nat → Int32) (h_x1 : zBd x1.toInt 0 1600) (h_x2 : zBd x2.toInt 0 1600) (h_x3 : zBd x3.toInt 0 1600) (h_x4 : zBd x4.toInt (-1) 1600) (h_x5 : zBd x5.toInt 0 4) (h_x6 : zBd x6.toInt (-1) 1600) (h_x9 : zBd x9.toInt 0 8) (h_x10 : zBd x10.toInt 0 5) (h_x11 : zBd x11.toInt 0 6) (h_x12 : zBd x12.toInt 0 6) (h_x13 : zBd x13.toInt 0 16) (h_x15 : zBd x15.toInt 0 60) (h_x16 : zBd x16.toInt 0 1600) (h_x17 : zBd x17.toInt 0 1700) (h_x19 : zBd x19.toInt 0 1700) (h_x20 : zBd x20.toInt 0 1700) (h_x21 : zBd x21.toInt 0 200) (h_x22 : zBd x22.toInt 0 40) (h_x23 : zBd x23.toInt 0 40) (h_x24 : zBd x24.toInt 0 1) (h_x25 : zBd x25.toInt 0 14) (h_x26 : zBd x26.toInt 0 200) (h_x27 : zBd x27.toInt 0 40) (h_x28 : zBd x28.toInt 0 40) (hr_a0_0 : (x22.toInt ≤ x21.toInt)) (hr_a0_1 : (x21.toInt + x23.toInt ≤ 200)) (hr_a0_2 : (x10.toInt = 0 ∨ 2 ≤ x9.toInt)) (hf_f0 : (∀ j, (-9999) ≤ (f0 j).toInt ∧ (f0 j).toInt ≤ 9999)) (hf_f2 : (∀ j, (-9999) ≤ (f2 j).toInt ∧ (f2 j).toInt ≤ 9999)) (hf_f3 : (∀ j, (-1100000) ≤ (f3 j).toInt ∧ (f3 j).toInt ≤ 1100000)) : Met l yX12_behind (.code yX12_behind cX12_behind 9 (some .int) :: lw_gd) ({ frames := 3, cells := 0, slots := 0, locals := 70 }) (gPre D [(cB, .byte), (cC, .char), (cI, .int), (cJ, .long)] [.ref a0, .int x0] (zS_97 cB cC cI cJ a0 a1 x1 x2 x3 x4 x5 x6 x7 x8 a2 a3 a4 a5 a6 a7 a8 a9 a10 a11 a12 a13 a14 a15 a16 x9 x10 x11 x12 x13 x14 a17 a18 a19 x15 a20 x16 a21 x17 x18 a22 a23 a24 a25 x19 a26 x20 a27 a28 a29 y0 a30 a31 a32 a33 a34 a35 a36 a37 a38 x21 x22 x23 y1 a39 x24 a40 a41 a42 a43 x25 x26 x27 x28 a19 f0 a29 f1 a18 f2 a28 f3) sz) (va_Qi (fun r u => ((((-2147483648) ≤ r.toInt ∧ r.toInt ≤ 2147483647)) ∨ (r.toInt = (-1)))) (gB D (va_A (zS_97 cB cC cI cJ a0 a1 x1 x2 x3 x4 x5 x6 x7 x8 a2 a3 a4 a5 a6 a7 a8 a9 a10 a11 a12 a13 a14 a15 a16 x9 x10 x11 x12 x13 x14 a17 a18 a19 x15 a20 x16 a21 x17 x18 a22 a23 a24 a25 x19 a26 x20 a27 a28 a29 y0 a30 a31 a32 a33 a34 a35 a36 a37 a38 x21 x22 x23 y1 a39 x24 a40 a41 a42 a43 x25 x26 x27 x28 a19 f0 a29 f1 a18 f2 a28 f3) sz) (fun u : gEx => (zS_97 cB cC cI cJ a0 a1 x1 x2 x3 x4 x5 x6 x7 x8 a2 a3 a4 a5 a6 a7 a8 a9 a10 a11 a12 a13 a14 a15 a16 x9 x10 x11 x12 x13 x14 a17 a18 a19 x15 a20 x16 a21 x17 x18 a22 a23 a24 a25 x19 a26 x20 a27 a28 a29 y0 a30 a31 a32 a33 a34 a35 a36 a37 a38 x21 x22 x23 y1 a39 x24 a40 a41 a42 a43 x25 x26 x27 x28 a19 f0 a29 (u.2.1 0) a18 f2 a28 f3))) (va_A (zS_97 cB cC cI cJ a0 a1 x1 x2 x3 x4 x5 x6 x7 x8 a2 a3 a4 a5 a6 a7 a8 a9 a10 a11 a12 a13 a14 a15 a16 x9 x10 x11 x12 x13 x14 a17 a18 a19 x15 a20 x16 a21 x17 x18 a22 a23 a24 a25 x19 a26 x20 a27 a28 a29 y0 a30 a31 a32 a33 a34 a35 a36 a37 a38 x21 x22 x23 y1 a39 x24 a40 a41 a42 a43 x25 x26 x27 x28 a19 f0 a29 f1 a18 f2 a28 f3) sz)) 0 0 (va_A (zS_97 cB cC cI cJ a0 a1 x1 x2 x3 x4 x5 x6 x7 x8 a2 a3 a4 a5 a6 a7 a8 a9 a10 a11 a12 a13 a14 a15 a16 x9 x10 x11 x12 x13 x14 a17 a18 a19 x15 a20 x16 a21 x17 x18 a22 a23 a24 a25 x19 a26 x20 a27 a28 a29 y0 a30 a31 a32 a33 a34 a35 a36 a37 a38 x21 x22 x23 y1 a39 x24 a40 a41 a42 a43 x25 x26 x27 x28 a19 f0 a29 f1 a18 f2 a28 f3) sz) := by
  refine gOf_i (by decide +kernel) (Nat.le_of_ble_eq_true rfl) ?_
  intro p e s m args below meth c ls A Q hx hb hts hown hml hN hK hP hD hA hl hret
  replace hown : s.vm.findClass RX12 = some m.cls := hown
  have hS : va_S A s.heap s.heap [] := va_S.rf
  replace hP : va_P D gcl (zS_97 cB cC cI cJ a0 a1 x1 x2 x3 x4 x5 x6 x7 x8 a2 a3 a4 a5 a6 a7 a8 a9 a10 a11 a12 a13 a14 a15 a16 x9 x10 x11 x12 x13 x14 a17 a18 a19 x15 a20 x16 a21 x17 x18 a22 a23 a24 a25 x19 a26 x20 a27 a28 a29 y0 a30 a31 a32 a33 a34 a35 a36 a37 a38 x21 x22 x23 y1 a39 x24 a40 a41 a42 a43 x25 x26 x27 x28 a19 f0 a29 f1 a18 f2 a28 f3) s.heap := hP
  replace hl : lv_has ls 9 [(0, .ref a0), (1, .int x0)] := hl
  have rx0 : zBd x0.toInt (-2147483648) 2147483647 := n_rng x0
  have rx7 : zBd x7.toInt (-2147483648) 2147483647 := n_rng x7
  have rx8 : zBd x8.toInt (-2147483648) 2147483647 := n_rng x8
  have rx14 : zBd x14.toInt (-2147483648) 2147483647 := n_rng x14
  have rx18 : zBd x18.toInt (-2147483648) 2147483647 := n_rng x18
  have ry0 := n_rngL y0
  have ry1 := n_rngL y1
  refine lv_aload_n (pc := 0) hx hb dX12_behind_0 rfl (lv_at hl 0 rfl) ?_
  refine lv_iload_n (pc := 1) hx hb dX12_behind_1 rfl (lv_at hl 1 rfl) ?_
  refine gd_i (pc := 2) (wc := (zS_4 cB cC cI cJ a0 a1 x1 x2 x3 x4 x5 x6 x7 x8 a2 a3 a4 a5 a6 a7 a8 a9 a10 a11 a12 a13 a14 a15 a16 x9 x10 x11 x12 x13 x14 a17 a18 a19 x15 a20 x16 a21 x17 x18 a22 a23 a24 a25 x19 a26 x20 a27 a28 a29 y0 a30 a31 a32 a33 a34 a35 a36 a37 a38 x21 x22 x23 y1 a39 x24 a40 a41 a42 a43 x25 x26 x27 x28)) hP hD hS hA [0] rfl (by decide +kernel) (fun _ => by rfl) (fun hPc hDc => va_runV (As := [.int x0]) (rest := []) ⟨hx, hb, hml, hown, hts⟩ (k_X12_isWord l D cB cC cI cJ _ a0 a1 a2 a3 a4 a5 a6 a7 a8 a9 a10 a11 a12 a13 a14 a15 a16 a17 a18 a19 a20 a21 a22 a23 a24 a25 a26 a27 a28 a29 a30 a31 a32 a33 a34 a35 a36 a37 a38 a39 a40 a41 a42 a43 x0 x1 x2 x3 x4 x5 x6 x7 x8 x9 x10 x11 x12 x13 x14 x15 x16 x17 x18 x19 x20 x21 x22 x23 x24 x25 x26 x27 x28 y0 y1 h_x1 h_x2 h_x3 h_x4 h_x5 h_x6 h_x9 h_x10 h_x11 h_x12 h_x13 h_x15 h_x16 h_x17 h_x19 h_x20 h_x21 h_x22 h_x23 h_x24 h_x25 h_x26 h_x27 h_x28 hr_a0_0 hr_a0_1 hr_a0_2) ⟨gcwB hts tw_2012 tw_14 tw_2009 hd_yX12_isWord ⟨Nat.le_of_ble_eq_true rfl, Nat.le_of_ble_eq_true rfl⟩, hts _ tw_2011, hts _ tp_114⟩ ⟨gblind, va_recv hK hPc (ci := 12) (q0 := 0) rfl rfl, (gpreS hPc hK hDc hN).2⟩ rfl rfl hl.1 rfl (lv_room (Nat.le_of_ble_eq_true rfl)) dX12_behind_2 ⟨Nat.le_of_ble_eq_true rfl, Nat.le_of_ble_eq_true rfl⟩) (fun r_2 u_1 H locs hw_3 hP hD hS => ?_)
  replace hP : va_P D gcl (zS_97 cB cC cI cJ a0 a1 x1 x2 x3 x4 x5 x6 x7 x8 a2 a3 a4 a5 a6 a7 a8 a9 a10 a11 a12 a13 a14 a15 a16 x9 x10 x11 x12 x13 x14 a17 a18 a19 x15 a20 x16 a21 x17 x18 a22 a23 a24 a25 x19 a26 x20 a27 a28 a29 y0 a30 a31 a32 a33 a34 a35 a36 a37 a38 x21 x22 x23 y1 a39 x24 a40 a41 a42 a43 x25 x26 x27 x28 a19 f0 a29 f1 a18 f2 a28 f3) H := hP
  replace hD : va_D A (zS_97 cB cC cI cJ a0 a1 x1 x2 x3 x4 x5 x6 x7 x8 a2 a3 a4 a5 a6 a7 a8 a9 a10 a11 a12 a13 a14 a15 a16 x9 x10 x11 x12 x13 x14 a17 a18 a19 x15 a20 x16 a21 x17 x18 a22 a23 a24 a25 x19 a26 x20 a27 a28 a29 y0 a30 a31 a32 a33 a34 a35 a36 a37 a38 x21 x22 x23 y1 a39 x24 a40 a41 a42 a43 x25 x26 x27 x28 a19 f0 a29 f1 a18 f2 a28 f3) := hD
  obtain ⟨hw_4, hw_5, hw_6⟩ := hw_3
  replace hw_4 : (0 ≤ r_2.toInt ∧ r_2.toInt ≤ 1) := hw_4
  replace hw_5 : (-x0.toInt ≤ 4294967296 - 4294967296 * r_2.toInt ∧ x0.toInt ≤ x13.toInt - 1 + 4294967296 - 4294967296 * r_2.toInt) := hw_5
  replace hw_6 : (inQ r_2.toInt x0.toInt x13.toInt) := hw_6
  have rr_2 : zBd r_2.toInt (-2147483648) 2147483647 := n_rng r_2
  refine b_if_ne (pc := 5) (tgt := 10) hx hb rfl  dX12_behind_5 (by decide) (fun c_7 => ?_) (fun c_7 => ?_)
  ·
    as_aux_lemma =>
      refine lv_aload_n (pc := 10) hx hb dX12_behind_10 rfl (lv_at hl 0 rfl) ?_
      refine lv_iload_n (pc := 11) hx hb dX12_behind_11 rfl (lv_at hl 1 rfl) ?_
      refine gd_i (pc := 12) (wc := (zS_27 cB cC cI cJ a0 a1 x1 x2 x3 x4 x5 x6 x7 x8 a2 a3 a4 a5 a6 a7 a8 a9 a10 a11 a12 a13 a14 a15 a16 x9 x10 x11 x12 x13 x14 a17 a18 a19 x15 a20 x16 a21 x17 x18 a22 a23 a24 a25 x19 a26 x20 a27 a28 a29 y0 a30 a31 a32 a33 a34 a35 a36 a37 a38 x21 x22 x23 y1 a39 x24 a40 a41 a42 a43 x25 x26 x27 x28 a19 f0)) hP hD hS hA [0, 1] rfl (by decide +kernel) (fun _ => by rfl) (fun hPc hDc => va_runV (As := [.int x0]) (rest := []) ⟨hx, hb, hml, hown, hts⟩ (k_X12_numberOf l D cB cC cI cJ _ a0 a1 a2 a3 a4 a5 a6 a7 a8 a9 a10 a11 a12 a13 a14 a15 a16 a17 a18 a19 a20 a21 a22 a23 a24 a25 a26 a27 a28 a29 a30 a31 a32 a33 a34 a35 a36 a37 a38 a39 a40 a41 a42 a43 x0 x1 x2 x3 x4 x5 x6 x7 x8 x9 x10 x11 x12 x13 x14 x15 x16 x17 x18 x19 x20 x21 x22 x23 x24 x25 x26 x27 x28 y0 y1 f0 (by first | exact (om_1810 c_7 hw_4.1 hw_5.1 hw_5.2 h_x13.2) | ((first | omega | (unfold zBd at *; omega)))) h_x1 h_x2 h_x3 h_x4 h_x5 h_x6 h_x9 h_x10 h_x11 h_x12 h_x13 h_x15 h_x16 h_x17 h_x19 h_x20 h_x21 h_x22 h_x23 h_x24 h_x25 h_x26 h_x27 h_x28 hr_a0_0 hr_a0_1 hr_a0_2 hf_f0) ⟨gcwB hts tw_2016 tw_14 tw_2013 hd_yX12_numberOf ⟨Nat.le_of_ble_eq_true rfl, Nat.le_of_ble_eq_true rfl⟩, hts _ tw_2015, hts _ tp_115⟩ ⟨gblind, va_recv hK hPc (ci := 12) (q0 := 0) rfl rfl, (gpreS hPc hK hDc hN).2⟩ rfl rfl hl.1 rfl (lv_room (Nat.le_of_ble_eq_true rfl)) dX12_behind_12 ⟨Nat.le_of_ble_eq_true rfl, Nat.le_of_ble_eq_true rfl⟩) (fun r_9 u_8 H locs hw_10 hP hD hS => ?_)
      replace hP : va_P D gcl (zS_97 cB cC cI cJ a0 a1 x1 x2 x3 x4 x5 x6 x7 x8 a2 a3 a4 a5 a6 a7 a8 a9 a10 a11 a12 a13 a14 a15 a16 x9 x10 x11 x12 x13 x14 a17 a18 a19 x15 a20 x16 a21 x17 x18 a22 a23 a24 a25 x19 a26 x20 a27 a28 a29 y0 a30 a31 a32 a33 a34 a35 a36 a37 a38 x21 x22 x23 y1 a39 x24 a40 a41 a42 a43 x25 x26 x27 x28 a19 f0 a29 f1 a18 f2 a28 f3) H := hP
      replace hD : va_D A (zS_97 cB cC cI cJ a0 a1 x1 x2 x3 x4 x5 x6 x7 x8 a2 a3 a4 a5 a6 a7 a8 a9 a10 a11 a12 a13 a14 a15 a16 x9 x10 x11 x12 x13 x14 a17 a18 a19 x15 a20 x16 a21 x17 x18 a22 a23 a24 a25 x19 a26 x20 a27 a28 a29 y0 a30 a31 a32 a33 a34 a35 a36 a37 a38 x21 x22 x23 y1 a39 x24 a40 a41 a42 a43 x25 x26 x27 x28 a19 f0 a29 f1 a18 f2 a28 f3) := hD
      have hw_11 : ((((-2147483648) ≤ r_9.toInt ∧ r_9.toInt ≤ 2147483647) ∧ (0 ≤ x10.toInt ∧ x10.toInt ≤ 5))) := hw_10
      have rr_9 : zBd r_9.toInt (-2147483648) 2147483647 := n_rng r_9
      refine lv_istore_n (pc := 15) (lv' := [(2, .int r_9), (0, .ref a0), (1, .int x0)]) hx hb dX12_behind_15 rfl hl (by decide) rfl (fun ls hl => ?_)
      refine lv_aload_n (pc := 16) hx hb dX12_behind_16 rfl (lv_at hl 1 rfl) ?_
      refine lv_iload_n (pc := 17) hx hb dX12_behind_17 rfl (lv_at hl 0 rfl) ?_
      refine gd_l (pc := 18) (wc := (zS_12 cB cC cI cJ a0 a1 x1 x2 x3 x4 x5 x6 x7 x8 a2 a3 a4 a5 a6 a7 a8 a9 a10 a11 a12 a13 a14 a15 a16 x9 x10 x11 x12 x13 x14 a17 a18 a19 x15 a20 x16 a21 x17 x18 a22 a23 a24 a25 x19 a26 x20 a27 a28 a29 y0 a30 a31 a32 a33 a34 a35 a36 a37 a38 x21 x22 x23 y1 a39 x24 a40 a41 a42 a43 x25 x26 x27 x28 a29 f1 a18 f2 a28 f3)) hP hD hS hA [0, 2, 3, 4] rfl (by decide +kernel) (fun _ => by rfl) (fun hPc hDc => va_runV (As := [.int r_9]) (rest := []) ⟨hx, hb, hml, hown, hts⟩ (k_X12_distanceOf l D cB cC cI cJ _ a0 a1 a2 a3 a4 a5 a6 a7 a8 a9 a10 a11 a12 a13 a14 a15 a16 a17 a18 a19 a20 a21 a22 a23 a24 a25 a26 a27 a28 a29 a30 a31 a32 a33 a34 a35 a36 a37 a38 a39 a40 a41 a42 a43 r_9 x1 x2 x3 x4 x5 x6 x7 x8 x9 x10 x11 x12 x13 x14 x15 x16 x17 x18 x19 x20 x21 x22 x23 x24 x25 x26 x27 x28 y0 y1 f1 f2 f3 h_x1 h_x2 h_x3 h_x4 h_x5 h_x6 h_x9 h_x10 h_x11 h_x12 h_x13 h_x15 h_x16 h_x17 h_x19 h_x20 h_x21 h_x22 h_x23 h_x24 h_x25 h_x26 h_x27 h_x28 hr_a0_0 hr_a0_1 hr_a0_2 hf_f2 hf_f3) ⟨gcwB hts tw_1872 tw_14 tw_1869 hd_yX12_distanceOf ⟨Nat.le_of_ble_eq_true rfl, Nat.le_of_ble_eq_true rfl⟩, hts _ tw_1871, hts _ tp_101⟩ ⟨gblind, va_recv hK hPc (ci := 12) (q0 := 0) rfl rfl, (gpreS hPc hK hDc hN).2⟩ rfl rfl hl.1 rfl (lv_room (Nat.le_of_ble_eq_true rfl)) dX12_behind_18 ⟨Nat.le_of_ble_eq_true rfl, Nat.le_of_ble_eq_true rfl⟩) (fun r_13 u_12 H locs hw_14 hP hD hS => ?_)
      replace hP : va_P D gcl (zS_97 cB cC cI cJ a0 a1 x1 x2 x3 x4 x5 x6 x7 x8 a2 a3 a4 a5 a6 a7 a8 a9 a10 a11 a12 a13 a14 a15 a16 x9 x10 x11 x12 x13 x14 a17 a18 a19 x15 a20 x16 a21 x17 x18 a22 a23 a24 a25 x19 a26 x20 a27 a28 a29 y0 a30 a31 a32 a33 a34 a35 a36 a37 a38 x21 x22 x23 y1 a39 x24 a40 a41 a42 a43 x25 x26 x27 x28 a19 f0 a29 (u_12.2.1 0) a18 f2 a28 f3) H := hP
      replace hD : va_D A (zS_97 cB cC cI cJ a0 a1 x1 x2 x3 x4 x5 x6 x7 x8 a2 a3 a4 a5 a6 a7 a8 a9 a10 a11 a12 a13 a14 a15 a16 x9 x10 x11 x12 x13 x14 a17 a18 a19 x15 a20 x16 a21 x17 x18 a22 a23 a24 a25 x19 a26 x20 a27 a28 a29 y0 a30 a31 a32 a33 a34 a35 a36 a37 a38 x21 x22 x23 y1 a39 x24 a40 a41 a42 a43 x25 x26 x27 x28 a19 f0 a29 (u_12.2.1 0) a18 f2 a28 f3) := hD
      have hw_15 : ((((-9223372036854775808) ≤ r_13.toInt ∧ r_13.toInt ≤ 9223372036854775807))) := hw_14
      have rr_13 := n_rngL r_13
      refine lv_lstore_n (pc := 21) (lv' := [(3, .long r_13), (2, .int r_9), (0, .ref a0), (1, .int x0)]) hx hb dX12_behind_21 rfl hl (by decide) rfl (fun ls hl => ?_)
      refine lv_iconst (pc := 22) (v := 0) hx hb dX12_behind_22 (by decide) ?_
      refine lv_istore (pc := 23) (lv' := [(5, .int 0), (3, .long r_13), (2, .int r_9), (0, .ref a0), (1, .int x0)]) hx hb dX12_behind_23 hl (by decide) rfl (fun ls hl => ?_)
      as_aux_lemma =>
        refine lv_iconst (pc := 25) (v := 0) hx hb dX12_behind_25 (by decide) ?_
        refine lv_istore (pc := 26) (lv' := [(6, .int 0), (5, .int 0), (3, .long r_13), (2, .int r_9), (0, .ref a0), (1, .int x0)]) hx hb dX12_behind_26 hl (by decide) rfl (fun ls hl => ?_)
        have lp_21 : ∀ (n : Nat) (x_16 x_18 : Int32) (f_20 : Nat → Int32) (H : Heap) (locs : List Loc) (ls : Array Slot), (0 ≤ x_16.toInt ∧ x_16.toInt ≤ 2147483647) → (2147483647 - x_16.toInt).toNat < n → va_P D gcl (zS_97 cB cC cI cJ a0 a1 x1 x2 x3 x4 x5 x6 x7 x8 a2 a3 a4 a5 a6 a7 a8 a9 a10 a11 a12 a13 a14 a15 a16 x9 x10 x11 x12 x13 x14 a17 a18 a19 x15 a20 x16 a21 x17 x18 a22 a23 a24 a25 x19 a26 x20 a27 a28 a29 y0 a30 a31 a32 a33 a34 a35 a36 a37 a38 x21 x22 x23 y1 a39 x24 a40 a41 a42 a43 x25 x26 x27 x28 a19 f0 a29 f_20 a18 f2 a28 f3) H → va_D A (zS_97 cB cC cI cJ a0 a1 x1 x2 x3 x4 x5 x6 x7 x8 a2 a3 a4 a5 a6 a7 a8 a9 a10 a11 a12 a13 a14 a15 a16 x9 x10 x11 x12 x13 x14 a17 a18 a19 x15 a20 x16 a21 x17 x18 a22 a23 a24 a25 x19 a26 x20 a27 a28 a29 y0 a30 a31 a32 a33 a34 a35 a36 a37 a38 x21 x22 x23 y1 a39 x24 a40 a41 a42 a43 x25 x26 x27 x28 a19 f0 a29 f_20 a18 f2 a28 f3) → va_S A s.heap H locs → lv_has ls 9 [(6, .int x_16), (5, .int x_18), (3, .long r_13), (2, .int r_9), (0, .ref a0), (1, .int x0)] → W p l e ({ frames := 3, cells := 0, slots := 0, locals := 70 }) s m args below meth c H locs 0 0 Q (F0 m 28 ls []) := by
          intro n
          induction n with
          | zero => intro x_16 x_18 f_20 H locs ls hi_17 hmu; exact absurd hmu (Nat.not_lt_zero _)
          | succ n ih_lp_21 =>
            intro x_16 x_18 f_20 H locs ls hi_17 hmu_lp_21 hP hD hS hl
            have hi_19 := n_rng x_18
            refine lv_iload (pc := 28) hx hb dX12_behind_28 (lv_at hl 0 rfl) ?_
            refine lv_aload_n (pc := 30) hx hb dX12_behind_30 rfl (lv_at hl 4 rfl) ?_
            refine gd_i (pc := 31) (wc := (zS_4 cB cC cI cJ a0 a1 x1 x2 x3 x4 x5 x6 x7 x8 a2 a3 a4 a5 a6 a7 a8 a9 a10 a11 a12 a13 a14 a15 a16 x9 x10 x11 x12 x13 x14 a17 a18 a19 x15 a20 x16 a21 x17 x18 a22 a23 a24 a25 x19 a26 x20 a27 a28 a29 y0 a30 a31 a32 a33 a34 a35 a36 a37 a38 x21 x22 x23 y1 a39 x24 a40 a41 a42 a43 x25 x26 x27 x28)) hP hD hS hA [0] rfl (by decide +kernel) (fun _ => by rfl) (fun hPc hDc => va_runV (As := []) (rest := [.int x_16]) ⟨hx, hb, hml, hown, hts⟩ (k_X12_rowMany l D cB cC cI cJ _ a0 a1 a2 a3 a4 a5 a6 a7 a8 a9 a10 a11 a12 a13 a14 a15 a16 a17 a18 a19 a20 a21 a22 a23 a24 a25 a26 a27 a28 a29 a30 a31 a32 a33 a34 a35 a36 a37 a38 a39 a40 a41 a42 a43 x1 x2 x3 x4 x5 x6 x7 x8 x9 x10 x11 x12 x13 x14 x15 x16 x17 x18 x19 x20 x21 x22 x23 x24 x25 x26 x27 x28 y0 y1 h_x1 h_x2 h_x3 h_x4 h_x5 h_x6 h_x9 h_x10 h_x11 h_x12 h_x13 h_x15 h_x16 h_x17 h_x19 h_x20 h_x21 h_x22 h_x23 h_x24 h_x25 h_x26 h_x27 h_x28 hr_a0_0 hr_a0_1 hr_a0_2) ⟨gcwB hts tw_1868 tw_14 tw_1865 hd_yX12_rowMany ⟨Nat.le_of_ble_eq_true rfl, Nat.le_of_ble_eq_true rfl⟩, hts _ tw_1867, hts _ tp_100⟩ ⟨gblind, va_recv hK hPc (ci := 12) (q0 := 0) rfl rfl, (gpreS hPc hK hDc hN).2⟩ rfl rfl hl.1 rfl (lv_room (Nat.le_of_ble_eq_true rfl)) dX12_behind_31 ⟨Nat.le_of_ble_eq_true rfl, Nat.le_of_ble_eq_true rfl⟩) (fun r_23 u_22 H locs hw_24 hP hD hS => ?_)
            replace hP : va_P D gcl (zS_97 cB cC cI cJ a0 a1 x1 x2 x3 x4 x5 x6 x7 x8 a2 a3 a4 a5 a6 a7 a8 a9 a10 a11 a12 a13 a14 a15 a16 x9 x10 x11 x12 x13 x14 a17 a18 a19 x15 a20 x16 a21 x17 x18 a22 a23 a24 a25 x19 a26 x20 a27 a28 a29 y0 a30 a31 a32 a33 a34 a35 a36 a37 a38 x21 x22 x23 y1 a39 x24 a40 a41 a42 a43 x25 x26 x27 x28 a19 f0 a29 f_20 a18 f2 a28 f3) H := hP
            replace hD : va_D A (zS_97 cB cC cI cJ a0 a1 x1 x2 x3 x4 x5 x6 x7 x8 a2 a3 a4 a5 a6 a7 a8 a9 a10 a11 a12 a13 a14 a15 a16 x9 x10 x11 x12 x13 x14 a17 a18 a19 x15 a20 x16 a21 x17 x18 a22 a23 a24 a25 x19 a26 x20 a27 a28 a29 y0 a30 a31 a32 a33 a34 a35 a36 a37 a38 x21 x22 x23 y1 a39 x24 a40 a41 a42 a43 x25 x26 x27 x28 a19 f0 a29 f_20 a18 f2 a28 f3) := hD
            have hw_25 : ((((-2147483648) ≤ r_23.toInt ∧ r_23.toInt ≤ 2147483647) ∧ ¬ x10.toInt = 0 ∧ (1 ≤ x10.toInt ∧ x10.toInt ≤ 5)) ∨ (r_23.toInt = 0 ∧ x10.toInt = 0)) := hw_24
            have rr_23 : zBd r_23.toInt (-2147483648) 2147483647 := n_rng r_23
            refine b_icmp_ge (pc := 34) (tgt := 74) hx hb rfl rfl  dX12_behind_34 (by decide) (fun c_26 => ?_) (fun c_26 => ?_)
            ·
              as_aux_lemma =>
                refine lv_iload (pc := 74) hx hb dX12_behind_74 (lv_at hl 1 rfl) ?_
                have hP9 : va_P D gcl (zS_97 cB cC cI cJ a0 a1 x1 x2 x3 x4 x5 x6 x7 x8 a2 a3 a4 a5 a6 a7 a8 a9 a10 a11 a12 a13 a14 a15 a16 x9 x10 x11 x12 x13 x14 a17 a18 a19 x15 a20 x16 a21 x17 x18 a22 a23 a24 a25 x19 a26 x20 a27 a28 a29 y0 a30 a31 a32 a33 a34 a35 a36 a37 a38 x21 x22 x23 y1 a39 x24 a40 a41 a42 a43 x25 x26 x27 x28 a19 f0 a29 f_20 a18 f2 a28 f3) H := g_psub hP [0, 1, 2, 3, 4] rfl
                have hD9 : va_D A (zS_97 cB cC cI cJ a0 a1 x1 x2 x3 x4 x5 x6 x7 x8 a2 a3 a4 a5 a6 a7 a8 a9 a10 a11 a12 a13 a14 a15 a16 x9 x10 x11 x12 x13 x14 a17 a18 a19 x15 a20 x16 a21 x17 x18 a22 a23 a24 a25 x19 a26 x20 a27 a28 a29 y0 a30 a31 a32 a33 a34 a35 a36 a37 a38 x21 x22 x23 y1 a39 x24 a40 a41 a42 a43 x25 x26 x27 x28 a19 f0 a29 f_20 a18 f2 a28 f3) := hD.sub [0, 1, 2, 3, 4] (by decide) rfl
                exact hret x_18 ((fun _ => 0), (fun k => [f_20].getD k (fun _ => 0)), (fun _ => (fun _ => 0)), (fun _ => 0), (fun _ => 0)) dX12_behind_76 (show ((((-2147483648) ≤ x_18.toInt ∧ x_18.toInt ≤ 2147483647)) ∨ (x_18.toInt = (-1))) from (by first | exact (om_1811 hi_19.1 hi_19.2) | ((first | omega | (unfold zBd at *; omega))))) hP9 hD9 hS
            ·
              as_aux_lemma =>
                refine lv_aload_n (pc := 37) hx hb dX12_behind_37 rfl (lv_at hl 4 rfl) ?_
                refine lv_iload (pc := 38) hx hb dX12_behind_38 (lv_at hl 0 rfl) ?_
                refine gd_l (pc := 40) (wc := (zS_12 cB cC cI cJ a0 a1 x1 x2 x3 x4 x5 x6 x7 x8 a2 a3 a4 a5 a6 a7 a8 a9 a10 a11 a12 a13 a14 a15 a16 x9 x10 x11 x12 x13 x14 a17 a18 a19 x15 a20 x16 a21 x17 x18 a22 a23 a24 a25 x19 a26 x20 a27 a28 a29 y0 a30 a31 a32 a33 a34 a35 a36 a37 a38 x21 x22 x23 y1 a39 x24 a40 a41 a42 a43 x25 x26 x27 x28 a29 f_20 a18 f2 a28 f3)) hP hD hS hA [0, 2, 3, 4] rfl (by decide +kernel) (fun _ => by rfl) (fun hPc hDc => va_runV (As := [.int x_16]) (rest := []) ⟨hx, hb, hml, hown, hts⟩ (k_X12_distanceOf l D cB cC cI cJ _ a0 a1 a2 a3 a4 a5 a6 a7 a8 a9 a10 a11 a12 a13 a14 a15 a16 a17 a18 a19 a20 a21 a22 a23 a24 a25 a26 a27 a28 a29 a30 a31 a32 a33 a34 a35 a36 a37 a38 a39 a40 a41 a42 a43 x_16 x1 x2 x3 x4 x5 x6 x7 x8 x9 x10 x11 x12 x13 x14 x15 x16 x17 x18 x19 x20 x21 x22 x23 x24 x25 x26 x27 x28 y0 y1 f_20 f2 f3 h_x1 h_x2 h_x3 h_x4 h_x5 h_x6 h_x9 h_x10 h_x11 h_x12 h_x13 h_x15 h_x16 h_x17 h_x19 h_x20 h_x21 h_x22 h_x23 h_x24 h_x25 h_x26 h_x27 h_x28 hr_a0_0 hr_a0_1 hr_a0_2 hf_f2 hf_f3) ⟨gcwB hts tw_1872 tw_14 tw_1869 hd_yX12_distanceOf ⟨Nat.le_of_ble_eq_true rfl, Nat.le_of_ble_eq_true rfl⟩, hts _ tw_1871, hts _ tp_101⟩ ⟨gblind, va_recv hK hPc (ci := 12) (q0 := 0) rfl rfl, (gpreS hPc hK hDc hN).2⟩ rfl rfl hl.1 rfl (lv_room (Nat.le_of_ble_eq_true rfl)) dX12_behind_40 ⟨Nat.le_of_ble_eq_true rfl, Nat.le_of_ble_eq_true rfl⟩) (fun r_28 u_27 H locs hw_29 hP hD hS => ?_)
                replace hP : va_P D gcl (zS_97 cB cC cI cJ a0 a1 x1 x2 x3 x4 x5 x6 x7 x8 a2 a3 a4 a5 a6 a7 a8 a9 a10 a11 a12 a13 a14 a15 a16 x9 x10 x11 x12 x13 x14 a17 a18 a19 x15 a20 x16 a21 x17 x18 a22 a23 a24 a25 x19 a26 x20 a27 a28 a29 y0 a30 a31 a32 a33 a34 a35 a36 a37 a38 x21 x22 x23 y1 a39 x24 a40 a41 a42 a43 x25 x26 x27 x28 a19 f0 a29 (u_27.2.1 0) a18 f2 a28 f3) H := hP
                replace hD : va_D A (zS_97 cB cC cI cJ a0 a1 x1 x2 x3 x4 x5 x6 x7 x8 a2 a3 a4 a5 a6 a7 a8 a9 a10 a11 a12 a13 a14 a15 a16 x9 x10 x11 x12 x13 x14 a17 a18 a19 x15 a20 x16 a21 x17 x18 a22 a23 a24 a25 x19 a26 x20 a27 a28 a29 y0 a30 a31 a32 a33 a34 a35 a36 a37 a38 x21 x22 x23 y1 a39 x24 a40 a41 a42 a43 x25 x26 x27 x28 a19 f0 a29 (u_27.2.1 0) a18 f2 a28 f3) := hD
                have hw_30 : ((((-9223372036854775808) ≤ r_28.toInt ∧ r_28.toInt ≤ 9223372036854775807))) := hw_29
                have rr_28 := n_rngL r_28
                refine lv_lstore (pc := 43) (lv' := [(7, .long r_28), (6, .int x_16), (5, .int x_18), (3, .long r_13), (2, .int r_9), (0, .ref a0), (1, .int x0)]) hx hb dX12_behind_43 hl (by decide) rfl (fun ls hl => ?_)
                refine lv_lload (pc := 45) hx hb dX12_behind_45 (lv_at hl 0 rfl) ?_
                refine lv_lload_n (pc := 47) hx hb dX12_behind_47 rfl (lv_at hl 3 rfl) ?_
                refine b_lcmp_lt (pc := 48) (tgt := 65) hx hb rfl rfl dX12_behind_48 dX12_behind_49 (by decide) (fun c_31 => ?_) (fun c_31 => ?_)
                ·
                  as_aux_lemma =>
                    refine b_iincO (pc := 65) hx hb dX12_behind_65 hl (k := 2) rfl (by decide) (fun x_32 ls hl => ?_)
                    have rx_32 : zBd x_32.toInt (-2147483648) 2147483647 := n_rng x_32
                    replace hl : lv_has ls 9 [(5, .int x_32), (7, .long r_28), (6, .int x_16), (3, .long r_13), (2, .int r_9), (0, .ref a0), (1, .int x0)] := hl
                    refine b_iinc (pc := 68) hx hb dX12_behind_68 hl (k := 2) rfl rfl tI_1 (by first | exact (om_2 hi_17.1) | ((first | omega | (unfold zBd at *; omega)))) (by first | exact (om_1087 c_26 rr_23.2) | ((first | omega | (unfold zBd at *; omega)))) (by decide) (fun x_33 ex_33 ls hl => ?_)
                    replace hl : lv_has ls 9 [(6, .int x_33), (5, .int x_32), (7, .long r_28), (3, .long r_13), (2, .int r_9), (0, .ref a0), (1, .int x0)] := hl
                    refine lv_goto (pc := 71) (tgt := 28) hx hb dX12_behind_71 (by decide) ?_
                    exact ih_lp_21 x_33 x_32 (u_27.2.1 0) _ _ ls (by first | exact (om_1088 ex_33 hi_17.1 c_26 rr_23.2) | ((first | omega | (unfold zBd at *; omega)))) (by (first | omega | (unfold zBd at *; omega))) hP hD hS (lv_sub hl [0, 1, 3, 4, 5, 6] rfl)
                ·
                  as_aux_lemma =>
                    refine lv_lload (pc := 52) hx hb dX12_behind_52 (lv_at hl 0 rfl) ?_
                    refine lv_lload_n (pc := 54) hx hb dX12_behind_54 rfl (lv_at hl 3 rfl) ?_
                    refine b_lcmp_ne (pc := 55) (tgt := 68) hx hb rfl rfl dX12_behind_55 dX12_behind_56 (by decide) (fun c_34 => ?_) (fun c_34 => ?_)
                    ·
                      as_aux_lemma =>
                        refine b_iinc (pc := 68) hx hb dX12_behind_68 hl (k := 1) rfl rfl tI_1 (by first | exact (om_2 hi_17.1) | ((first | omega | (unfold zBd at *; omega)))) (by first | exact (om_1087 c_26 rr_23.2) | ((first | omega | (unfold zBd at *; omega)))) (by decide) (fun x_35 ex_35 ls hl => ?_)
                        replace hl : lv_has ls 9 [(6, .int x_35), (7, .long r_28), (5, .int x_18), (3, .long r_13), (2, .int r_9), (0, .ref a0), (1, .int x0)] := hl
                        refine lv_goto (pc := 71) (tgt := 28) hx hb dX12_behind_71 (by decide) ?_
                        exact ih_lp_21 x_35 x_18 (u_27.2.1 0) _ _ ls (by first | exact (om_1088 ex_35 hi_17.1 c_26 rr_23.2) | ((first | omega | (unfold zBd at *; omega)))) (by (first | omega | (unfold zBd at *; omega))) hP hD hS (lv_sub hl [0, 2, 3, 4, 5, 6] rfl)
                    ·
                      as_aux_lemma =>
                        refine lv_iload (pc := 59) hx hb dX12_behind_59 (lv_at hl 1 rfl) ?_
                        refine lv_iload_n (pc := 61) hx hb dX12_behind_61 rfl (lv_at hl 4 rfl) ?_
                        refine b_icmp_ge (pc := 62) (tgt := 68) hx hb rfl rfl  dX12_behind_62 (by decide) (fun c_36 => ?_) (fun c_36 => ?_)
                        ·
                          as_aux_lemma =>
                            refine b_iinc (pc := 68) hx hb dX12_behind_68 hl (k := 1) rfl rfl tI_1 (by first | exact (om_2 hi_17.1) | ((first | omega | (unfold zBd at *; omega)))) (by first | exact (om_1087 c_26 rr_23.2) | ((first | omega | (unfold zBd at *; omega)))) (by decide) (fun x_37 ex_37 ls hl => ?_)
                            replace hl : lv_has ls 9 [(6, .int x_37), (7, .long r_28), (5, .int x_18), (3, .long r_13), (2, .int r_9), (0, .ref a0), (1, .int x0)] := hl
                            refine lv_goto (pc := 71) (tgt := 28) hx hb dX12_behind_71 (by decide) ?_
                            exact ih_lp_21 x_37 x_18 (u_27.2.1 0) _ _ ls (by first | exact (om_1088 ex_37 hi_17.1 c_26 rr_23.2) | ((first | omega | (unfold zBd at *; omega)))) (by (first | omega | (unfold zBd at *; omega))) hP hD hS (lv_sub hl [0, 2, 3, 4, 5, 6] rfl)
                        ·
                          as_aux_lemma =>
                            refine b_iincO (pc := 65) hx hb dX12_behind_65 hl (k := 2) rfl (by decide) (fun x_38 ls hl => ?_)
                            have rx_38 : zBd x_38.toInt (-2147483648) 2147483647 := n_rng x_38
                            replace hl : lv_has ls 9 [(5, .int x_38), (7, .long r_28), (6, .int x_16), (3, .long r_13), (2, .int r_9), (0, .ref a0), (1, .int x0)] := hl
                            refine b_iinc (pc := 68) hx hb dX12_behind_68 hl (k := 2) rfl rfl tI_1 (by first | exact (om_2 hi_17.1) | ((first | omega | (unfold zBd at *; omega)))) (by first | exact (om_1087 c_26 rr_23.2) | ((first | omega | (unfold zBd at *; omega)))) (by decide) (fun x_39 ex_39 ls hl => ?_)
                            replace hl : lv_has ls 9 [(6, .int x_39), (5, .int x_38), (7, .long r_28), (3, .long r_13), (2, .int r_9), (0, .ref a0), (1, .int x0)] := hl
                            refine lv_goto (pc := 71) (tgt := 28) hx hb dX12_behind_71 (by decide) ?_
                            exact ih_lp_21 x_39 x_38 (u_27.2.1 0) _ _ ls (by first | exact (om_1088 ex_39 hi_17.1 c_26 rr_23.2) | ((first | omega | (unfold zBd at *; omega)))) (by (first | omega | (unfold zBd at *; omega))) hP hD hS (lv_sub hl [0, 1, 3, 4, 5, 6] rfl)
        exact lp_21 _ 0 0 (u_12.2.1 0) _ _ ls (n_c tI_0 (by decide)) (Nat.lt_succ_self _) hP hD hS (lv_sub hl [0, 1, 2, 3, 4, 5] rfl)
  ·
    as_aux_lemma =>
      refine lv_iconst (pc := 8) (v := (-1)) hx hb dX12_behind_8 (by decide) ?_
      have hP9 : va_P D gcl (zS_97 cB cC cI cJ a0 a1 x1 x2 x3 x4 x5 x6 x7 x8 a2 a3 a4 a5 a6 a7 a8 a9 a10 a11 a12 a13 a14 a15 a16 x9 x10 x11 x12 x13 x14 a17 a18 a19 x15 a20 x16 a21 x17 x18 a22 a23 a24 a25 x19 a26 x20 a27 a28 a29 y0 a30 a31 a32 a33 a34 a35 a36 a37 a38 x21 x22 x23 y1 a39 x24 a40 a41 a42 a43 x25 x26 x27 x28 a19 f0 a29 f1 a18 f2 a28 f3) H := g_psub hP [0, 1, 2, 3, 4] rfl
      have hD9 : va_D A (zS_97 cB cC cI cJ a0 a1 x1 x2 x3 x4 x5 x6 x7 x8 a2 a3 a4 a5 a6 a7 a8 a9 a10 a11 a12 a13 a14 a15 a16 x9 x10 x11 x12 x13 x14 a17 a18 a19 x15 a20 x16 a21 x17 x18 a22 a23 a24 a25 x19 a26 x20 a27 a28 a29 y0 a30 a31 a32 a33 a34 a35 a36 a37 a38 x21 x22 x23 y1 a39 x24 a40 a41 a42 a43 x25 x26 x27 x28 a19 f0 a29 f1 a18 f2 a28 f3) := hD.sub [0, 1, 2, 3, 4] (by decide) rfl
      exact hret (-1) ((fun _ => 0), (fun k => [f1].getD k (fun _ => 0)), (fun _ => (fun _ => 0)), (fun _ => 0), (fun _ => 0)) dX12_behind_9 (show ((((-2147483648) ≤ ((-1) : Int32).toInt ∧ ((-1) : Int32).toInt ≤ 2147483647)) ∨ (((-1) : Int32).toInt = (-1))) from (by first | exact (om_1812 tI_m1) | (have k9 := tI_m1; (first | omega | (unfold zBd at *; omega))))) hP9 hD9 hS
theorem om_1813 {a b : Int} : (a = a ∨ a = b) := by omega
theorem om_1814 {a b c : Int} (h0 : (¬ b = 0)) (h1 : (0 ≤ b)) (h2 : (a ≤ c - 1 + 4294967296 - 4294967296 * b)) (h3 : (c ≤ 16)) : (5 * a ≤ 2147483647) := by omega
theorem om_1815 {a b c d : Int} (h0 : (¬ c = 0)) (h1 : (0 ≤ c)) (h2 : (a = 5 * d)) (h3 : (0 ≤ b)) (h4 : (-d ≤ 4294967296 - 4294967296 * c)) : (-2147483648 ≤ a + b) := by omega
theorem om_1816 {a b c d e : Int} (h0 : (¬ c = 0)) (h1 : (0 ≤ c)) (h2 : (a = 5 * d)) (h3 : (b ≤ 5)) (h4 : (d ≤ e - 1 + 4294967296 - 4294967296 * c)) (h5 : (e ≤ 16)) : (a + b ≤ 2147483647) := by omega
theorem om_1817 {a b c d e : Int} (h0 : (¬ b = 0)) (h1 : (0 ≤ b)) (h2 : (a = c + d)) (h3 : (c = 5 * e)) (h4 : (0 ≤ d)) (h5 : (-e ≤ 4294967296 - 4294967296 * b)) : (0 ≤ a) := by omega
theorem om_1818 {a b c d e f : Int} (h0 : (¬ b = 0)) (h1 : (0 ≤ b)) (h2 : (a = c + d)) (h3 : (c = 5 * e)) (h4 : (d ≤ 5)) (h5 : (e ≤ f - 1 + 4294967296 - 4294967296 * b)) (h6 : (f ≤ 16)) : (a < (160 : Nat)) := by omega
theorem om_1819 {a b : Int} : (a = b ∨ a = a) := by omega
set_option maxHeartbeats 4000000 in
set_option maxRecDepth 100000 in
theorem k_X12_unlike (l : Launch) (D : va_G) (cB cC cI cJ : ClassId) (sz : Nat) (a0 a1 a2 a3 a4 a5 a6 a7 a8 a9 a10 a11 a12 a13 a14 a15 a16 a17 a18 a19 a20 a21 a22 a23 a24 a25 a26 a27 a28 a29 a30 a31 a32 a33 a34 a35 a36 a37 a38 a39 a40 a41 a42 a43 : Nat) (x0 x1 x2 x3 x4 x5 x6 x7 x8 x9 x10 x11 x12 x13 x14 x15 x16 x17 x18 x19 x20 x21 x22 x23 x24 x25 x26 x27 x28 x29 : Int32) (y0 y1 : Int64) (f0 : Nat → Int32) (h_x2 : zBd x2.toInt 0 1600) (h_x3 : zBd x3.toInt 0 1600) (h_x4 : zBd x4.toInt 0 1600) (h_x5 : zBd x5.toInt (-1) 1600) (h_x6 : zBd x6.toInt 0 4) (h_x7 : zBd x7.toInt (-1) 1600) (h_x10 : zBd x10.toInt 0 8) (h_x11 : zBd x11.toInt 0 5) (h_x12 : zBd x12.toInt 0 6) (h_x13 : zBd x13.toInt 0 6) (h_x14 : zBd x14.toInt 0 16) (h_x16 : zBd x16.toInt 0 60) (h_x17 : zBd x17.toInt 0 1600) (h_x18 : zBd x18.toInt 0 1700) (h_x20 : zBd x20.toInt 0 1700) (h_x21 : zBd x21.toInt 0 1700) (h_x22 : zBd x22.toInt 0 200) (h_x23 : zBd x23.toInt 0 40) (h_x24 : zBd x24.toInt 0 40) (h_x25 : zBd x25.toInt 0 1) (h_x26 : zBd x26.toInt 0 14) (h_x27 : zBd x27.toInt 0 200) (h_x28 : zBd x28.toInt 0 40) (h_x29 : zBd x29.toInt 0 40) (hr_a0_0 : (x23.toInt ≤ x22.toInt)) (hr_a0_1 : (x22.toInt + x24.toInt ≤ 200)) (hr_a0_2 : (x11.toInt = 0 ∨ 2 ≤ x10.toInt)) (hf_f0 : (∀ j, (-9999) ≤ (f0 j).toInt ∧ (f0 j).toInt ≤ 9999)) : Met l yX12_unlike (.code yX12_unlike cX12_unlike 5 (some .int) :: lw_gd) ({ frames := 2, cells := 0, slots := 0, locals := 46 }) (gPre D [(cB, .byte), (cC, .char), (cI, .int), (cJ, .long)] [.ref a0, .int x0, .int x1] (zS_27 cB cC cI cJ a0 a1 x2 x3 x4 x5 x6 x7 x8 x9 a2 a3 a4 a5 a6 a7 a8 a9 a10 a11 a12 a13 a14 a15 a16 x10 x11 x12 x13 x14 x15 a17 a18 a19 x16 a20 x17 a21 x18 x19 a22 a23 a24 a25 x20 a26 x21 a27 a28 a29 y0 a30 a31 a32 a33 a34 a35 a36 a37 a38 x22 x23 x24 y1 a39 x25 a40 a41 a42 a43 x26 x27 x28 x29 a19 f0) sz) (va_Qi (fun r u => ((-1) ≤ r.toInt ∧ r.toInt ≤ 5) ∧ (ulQ r.toInt x0.toInt x1.toInt x14.toInt x11.toInt f0)) (gB D (va_A (zS_27 cB cC cI cJ a0 a1 x2 x3 x4 x5 x6 x7 x8 x9 a2 a3 a4 a5 a6 a7 a8 a9 a10 a11 a12 a13 a14 a15 a16 x10 x11 x12 x13 x14 x15 a17 a18 a19 x16 a20 x17 a21 x18 x19 a22 a23 a24 a25 x20 a26 x21 a27 a28 a29 y0 a30 a31 a32 a33 a34 a35 a36 a37 a38 x22 x23 x24 y1 a39 x25 a40 a41 a42 a43 x26 x27 x28 x29 a19 f0) sz) (fun u : gEx => (zS_27 cB cC cI cJ a0 a1 x2 x3 x4 x5 x6 x7 x8 x9 a2 a3 a4 a5 a6 a7 a8 a9 a10 a11 a12 a13 a14 a15 a16 x10 x11 x12 x13 x14 x15 a17 a18 a19 x16 a20 x17 a21 x18 x19 a22 a23 a24 a25 x20 a26 x21 a27 a28 a29 y0 a30 a31 a32 a33 a34 a35 a36 a37 a38 x22 x23 x24 y1 a39 x25 a40 a41 a42 a43 x26 x27 x28 x29 a19 f0))) (va_A (zS_27 cB cC cI cJ a0 a1 x2 x3 x4 x5 x6 x7 x8 x9 a2 a3 a4 a5 a6 a7 a8 a9 a10 a11 a12 a13 a14 a15 a16 x10 x11 x12 x13 x14 x15 a17 a18 a19 x16 a20 x17 a21 x18 x19 a22 a23 a24 a25 x20 a26 x21 a27 a28 a29 y0 a30 a31 a32 a33 a34 a35 a36 a37 a38 x22 x23 x24 y1 a39 x25 a40 a41 a42 a43 x26 x27 x28 x29 a19 f0) sz)) 0 0 (va_A (zS_27 cB cC cI cJ a0 a1 x2 x3 x4 x5 x6 x7 x8 x9 a2 a3 a4 a5 a6 a7 a8 a9 a10 a11 a12 a13 a14 a15 a16 x10 x11 x12 x13 x14 x15 a17 a18 a19 x16 a20 x17 a21 x18 x19 a22 a23 a24 a25 x20 a26 x21 a27 a28 a29 y0 a30 a31 a32 a33 a34 a35 a36 a37 a38 x22 x23 x24 y1 a39 x25 a40 a41 a42 a43 x26 x27 x28 x29 a19 f0) sz) := by
  refine gOf_i (by decide +kernel) (Nat.le_of_ble_eq_true rfl) ?_
  intro p e s m args below meth c ls A Q hx hb hts hown hml hN hK hP hD hA hl hret
  replace hown : s.vm.findClass RX12 = some m.cls := hown
  have hS : va_S A s.heap s.heap [] := va_S.rf
  replace hP : va_P D gcl (zS_27 cB cC cI cJ a0 a1 x2 x3 x4 x5 x6 x7 x8 x9 a2 a3 a4 a5 a6 a7 a8 a9 a10 a11 a12 a13 a14 a15 a16 x10 x11 x12 x13 x14 x15 a17 a18 a19 x16 a20 x17 a21 x18 x19 a22 a23 a24 a25 x20 a26 x21 a27 a28 a29 y0 a30 a31 a32 a33 a34 a35 a36 a37 a38 x22 x23 x24 y1 a39 x25 a40 a41 a42 a43 x26 x27 x28 x29 a19 f0) s.heap := hP
  replace hl : lv_has ls 5 [(0, .ref a0), (1, .int x0), (2, .int x1)] := hl
  have rx0 : zBd x0.toInt (-2147483648) 2147483647 := n_rng x0
  have rx1 : zBd x1.toInt (-2147483648) 2147483647 := n_rng x1
  have rx8 : zBd x8.toInt (-2147483648) 2147483647 := n_rng x8
  have rx9 : zBd x9.toInt (-2147483648) 2147483647 := n_rng x9
  have rx15 : zBd x15.toInt (-2147483648) 2147483647 := n_rng x15
  have rx19 : zBd x19.toInt (-2147483648) 2147483647 := n_rng x19
  have ry0 := n_rngL y0
  have ry1 := n_rngL y1
  refine lv_aload_n (pc := 0) hx hb dX12_unlike_0 rfl (lv_at hl 0 rfl) ?_
  refine lv_iload_n (pc := 1) hx hb dX12_unlike_1 rfl (lv_at hl 1 rfl) ?_
  refine gd_i (pc := 2) (wc := (zS_4 cB cC cI cJ a0 a1 x2 x3 x4 x5 x6 x7 x8 x9 a2 a3 a4 a5 a6 a7 a8 a9 a10 a11 a12 a13 a14 a15 a16 x10 x11 x12 x13 x14 x15 a17 a18 a19 x16 a20 x17 a21 x18 x19 a22 a23 a24 a25 x20 a26 x21 a27 a28 a29 y0 a30 a31 a32 a33 a34 a35 a36 a37 a38 x22 x23 x24 y1 a39 x25 a40 a41 a42 a43 x26 x27 x28 x29)) hP hD hS hA [0] rfl (by decide +kernel) (fun _ => by rfl) (fun hPc hDc => va_runV (As := [.int x0]) (rest := []) ⟨hx, hb, hml, hown, hts⟩ (k_X12_isWord l D cB cC cI cJ _ a0 a1 a2 a3 a4 a5 a6 a7 a8 a9 a10 a11 a12 a13 a14 a15 a16 a17 a18 a19 a20 a21 a22 a23 a24 a25 a26 a27 a28 a29 a30 a31 a32 a33 a34 a35 a36 a37 a38 a39 a40 a41 a42 a43 x0 x2 x3 x4 x5 x6 x7 x8 x9 x10 x11 x12 x13 x14 x15 x16 x17 x18 x19 x20 x21 x22 x23 x24 x25 x26 x27 x28 x29 y0 y1 h_x2 h_x3 h_x4 h_x5 h_x6 h_x7 h_x10 h_x11 h_x12 h_x13 h_x14 h_x16 h_x17 h_x18 h_x20 h_x21 h_x22 h_x23 h_x24 h_x25 h_x26 h_x27 h_x28 h_x29 hr_a0_0 hr_a0_1 hr_a0_2) ⟨gcwB hts tw_2012 tw_14 tw_2009 hd_yX12_isWord ⟨Nat.le_of_ble_eq_true rfl, Nat.le_of_ble_eq_true rfl⟩, hts _ tw_2011, hts _ tp_114⟩ ⟨gblind, va_recv hK hPc (ci := 12) (q0 := 0) rfl rfl, (gpreS hPc hK hDc hN).2⟩ rfl rfl hl.1 rfl (lv_room (Nat.le_of_ble_eq_true rfl)) dX12_unlike_2 ⟨Nat.le_of_ble_eq_true rfl, Nat.le_of_ble_eq_true rfl⟩) (fun r_2 u_1 H locs hw_3 hP hD hS => ?_)
  replace hP : va_P D gcl (zS_27 cB cC cI cJ a0 a1 x2 x3 x4 x5 x6 x7 x8 x9 a2 a3 a4 a5 a6 a7 a8 a9 a10 a11 a12 a13 a14 a15 a16 x10 x11 x12 x13 x14 x15 a17 a18 a19 x16 a20 x17 a21 x18 x19 a22 a23 a24 a25 x20 a26 x21 a27 a28 a29 y0 a30 a31 a32 a33 a34 a35 a36 a37 a38 x22 x23 x24 y1 a39 x25 a40 a41 a42 a43 x26 x27 x28 x29 a19 f0) H := hP
  replace hD : va_D A (zS_27 cB cC cI cJ a0 a1 x2 x3 x4 x5 x6 x7 x8 x9 a2 a3 a4 a5 a6 a7 a8 a9 a10 a11 a12 a13 a14 a15 a16 x10 x11 x12 x13 x14 x15 a17 a18 a19 x16 a20 x17 a21 x18 x19 a22 a23 a24 a25 x20 a26 x21 a27 a28 a29 y0 a30 a31 a32 a33 a34 a35 a36 a37 a38 x22 x23 x24 y1 a39 x25 a40 a41 a42 a43 x26 x27 x28 x29 a19 f0) := hD
  obtain ⟨hw_4, hw_5, hw_6⟩ := hw_3
  replace hw_4 : (0 ≤ r_2.toInt ∧ r_2.toInt ≤ 1) := hw_4
  replace hw_5 : (-x0.toInt ≤ 4294967296 - 4294967296 * r_2.toInt ∧ x0.toInt ≤ x14.toInt - 1 + 4294967296 - 4294967296 * r_2.toInt) := hw_5
  replace hw_6 : (inQ r_2.toInt x0.toInt x14.toInt) := hw_6
  have rr_2 : zBd r_2.toInt (-2147483648) 2147483647 := n_rng r_2
  refine b_if_eq (pc := 5) (tgt := 16) hx hb rfl  dX12_unlike_5 (by decide) (fun c_7 => ?_) (fun c_7 => ?_)
  ·
    as_aux_lemma =>
      refine lv_iconst (pc := 16) (v := (-1)) hx hb dX12_unlike_16 (by decide) ?_
      have hP9 : va_P D gcl (zS_27 cB cC cI cJ a0 a1 x2 x3 x4 x5 x6 x7 x8 x9 a2 a3 a4 a5 a6 a7 a8 a9 a10 a11 a12 a13 a14 a15 a16 x10 x11 x12 x13 x14 x15 a17 a18 a19 x16 a20 x17 a21 x18 x19 a22 a23 a24 a25 x20 a26 x21 a27 a28 a29 y0 a30 a31 a32 a33 a34 a35 a36 a37 a38 x22 x23 x24 y1 a39 x25 a40 a41 a42 a43 x26 x27 x28 x29 a19 f0) H := g_psub hP [0, 1] rfl
      have hD9 : va_D A (zS_27 cB cC cI cJ a0 a1 x2 x3 x4 x5 x6 x7 x8 x9 a2 a3 a4 a5 a6 a7 a8 a9 a10 a11 a12 a13 a14 a15 a16 x10 x11 x12 x13 x14 x15 a17 a18 a19 x16 a20 x17 a21 x18 x19 a22 a23 a24 a25 x20 a26 x21 a27 a28 a29 y0 a30 a31 a32 a33 a34 a35 a36 a37 a38 x22 x23 x24 y1 a39 x25 a40 a41 a42 a43 x26 x27 x28 x29 a19 f0) := hD.sub [0, 1] (by decide) rfl
      have k9 := tI_m1
      exact hret (-1) ((fun _ => 0), (fun _ => (fun _ => 0)), (fun _ => (fun _ => 0)), (fun _ => 0), (fun _ => 0)) dX12_unlike_17 ⟨(show ((-1) ≤ ((-1) : Int32).toInt ∧ ((-1) : Int32).toInt ≤ 5) from (n_c tI_m1 (by decide))), (show ulQ ((-1) : Int32).toInt x0.toInt x1.toInt x14.toInt x11.toInt f0 from ul_noI hw_6 (by first | exact (om_31 c_7) | ((first | omega | (unfold zBd at *; omega)))) (by first | exact (om_1813) | ((first | omega | (unfold zBd at *; omega)))) (by first | exact (om_65 tI_m1) | ((first | omega | (unfold zBd at *; omega)))))⟩ hP9 hD9 hS
  ·
    as_aux_lemma =>
      refine lv_aload_n (pc := 8) hx hb dX12_unlike_8 rfl (lv_at hl 0 rfl) ?_
      refine lv_iload_n (pc := 9) hx hb dX12_unlike_9 rfl (lv_at hl 2 rfl) ?_
      refine gd_i (pc := 10) (wc := (zS_4 cB cC cI cJ a0 a1 x2 x3 x4 x5 x6 x7 x8 x9 a2 a3 a4 a5 a6 a7 a8 a9 a10 a11 a12 a13 a14 a15 a16 x10 x11 x12 x13 x14 x15 a17 a18 a19 x16 a20 x17 a21 x18 x19 a22 a23 a24 a25 x20 a26 x21 a27 a28 a29 y0 a30 a31 a32 a33 a34 a35 a36 a37 a38 x22 x23 x24 y1 a39 x25 a40 a41 a42 a43 x26 x27 x28 x29)) hP hD hS hA [0] rfl (by decide +kernel) (fun _ => by rfl) (fun hPc hDc => va_runV (As := [.int x1]) (rest := []) ⟨hx, hb, hml, hown, hts⟩ (k_X12_isWord l D cB cC cI cJ _ a0 a1 a2 a3 a4 a5 a6 a7 a8 a9 a10 a11 a12 a13 a14 a15 a16 a17 a18 a19 a20 a21 a22 a23 a24 a25 a26 a27 a28 a29 a30 a31 a32 a33 a34 a35 a36 a37 a38 a39 a40 a41 a42 a43 x1 x2 x3 x4 x5 x6 x7 x8 x9 x10 x11 x12 x13 x14 x15 x16 x17 x18 x19 x20 x21 x22 x23 x24 x25 x26 x27 x28 x29 y0 y1 h_x2 h_x3 h_x4 h_x5 h_x6 h_x7 h_x10 h_x11 h_x12 h_x13 h_x14 h_x16 h_x17 h_x18 h_x20 h_x21 h_x22 h_x23 h_x24 h_x25 h_x26 h_x27 h_x28 h_x29 hr_a0_0 hr_a0_1 hr_a0_2) ⟨gcwB hts tw_2012 tw_14 tw_2009 hd_yX12_isWord ⟨Nat.le_of_ble_eq_true rfl, Nat.le_of_ble_eq_true rfl⟩, hts _ tw_2011, hts _ tp_114⟩ ⟨gblind, va_recv hK hPc (ci := 12) (q0 := 0) rfl rfl, (gpreS hPc hK hDc hN).2⟩ rfl rfl hl.1 rfl (lv_room (Nat.le_of_ble_eq_true rfl)) dX12_unlike_10 ⟨Nat.le_of_ble_eq_true rfl, Nat.le_of_ble_eq_true rfl⟩) (fun r_9 u_8 H locs hw_10 hP hD hS => ?_)
      replace hP : va_P D gcl (zS_27 cB cC cI cJ a0 a1 x2 x3 x4 x5 x6 x7 x8 x9 a2 a3 a4 a5 a6 a7 a8 a9 a10 a11 a12 a13 a14 a15 a16 x10 x11 x12 x13 x14 x15 a17 a18 a19 x16 a20 x17 a21 x18 x19 a22 a23 a24 a25 x20 a26 x21 a27 a28 a29 y0 a30 a31 a32 a33 a34 a35 a36 a37 a38 x22 x23 x24 y1 a39 x25 a40 a41 a42 a43 x26 x27 x28 x29 a19 f0) H := hP
      replace hD : va_D A (zS_27 cB cC cI cJ a0 a1 x2 x3 x4 x5 x6 x7 x8 x9 a2 a3 a4 a5 a6 a7 a8 a9 a10 a11 a12 a13 a14 a15 a16 x10 x11 x12 x13 x14 x15 a17 a18 a19 x16 a20 x17 a21 x18 x19 a22 a23 a24 a25 x20 a26 x21 a27 a28 a29 y0 a30 a31 a32 a33 a34 a35 a36 a37 a38 x22 x23 x24 y1 a39 x25 a40 a41 a42 a43 x26 x27 x28 x29 a19 f0) := hD
      obtain ⟨hw_11, hw_12, hw_13⟩ := hw_10
      replace hw_11 : (0 ≤ r_9.toInt ∧ r_9.toInt ≤ 1) := hw_11
      replace hw_12 : (-x1.toInt ≤ 4294967296 - 4294967296 * r_9.toInt ∧ x1.toInt ≤ x14.toInt - 1 + 4294967296 - 4294967296 * r_9.toInt) := hw_12
      replace hw_13 : (inQ r_9.toInt x1.toInt x14.toInt) := hw_13
      have rr_9 : zBd r_9.toInt (-2147483648) 2147483647 := n_rng r_9
      refine b_if_ne (pc := 13) (tgt := 18) hx hb rfl  dX12_unlike_13 (by decide) (fun c_14 => ?_) (fun c_14 => ?_)
      ·
        as_aux_lemma =>
          refine lv_iconst (pc := 18) (v := 0) hx hb dX12_unlike_18 (by decide) ?_
          refine lv_istore_n (pc := 19) (lv' := [(3, .int 0), (0, .ref a0), (1, .int x0), (2, .int x1)]) hx hb dX12_unlike_19 rfl hl (by decide) rfl (fun ls hl => ?_)
          refine lv_iconst (pc := 20) (v := 0) hx hb dX12_unlike_20 (by decide) ?_
          refine lv_istore (pc := 21) (lv' := [(4, .int 0), (3, .int 0), (0, .ref a0), (1, .int x0), (2, .int x1)]) hx hb dX12_unlike_21 hl (by decide) rfl (fun ls hl => ?_)
          have lp_22 : ∀ (n : Nat) (x_15 x_17 : Int32) (H : Heap) (locs : List Loc) (ls : Array Slot), (0 ≤ x_15.toInt ∧ x_15.toInt ≤ 5) → (0 ≤ x_17.toInt ∧ x_17.toInt ≤ 5) → (x_17.toInt ≤ x_15.toInt) → (x_15.toInt ≤ x11.toInt) → (x_17.toInt = unK f0 x0.toInt x1.toInt (x_15.toInt).toNat) → (2147483647 - x_15.toInt).toNat < n → va_P D gcl (zS_27 cB cC cI cJ a0 a1 x2 x3 x4 x5 x6 x7 x8 x9 a2 a3 a4 a5 a6 a7 a8 a9 a10 a11 a12 a13 a14 a15 a16 x10 x11 x12 x13 x14 x15 a17 a18 a19 x16 a20 x17 a21 x18 x19 a22 a23 a24 a25 x20 a26 x21 a27 a28 a29 y0 a30 a31 a32 a33 a34 a35 a36 a37 a38 x22 x23 x24 y1 a39 x25 a40 a41 a42 a43 x26 x27 x28 x29 a19 f0) H → va_D A (zS_27 cB cC cI cJ a0 a1 x2 x3 x4 x5 x6 x7 x8 x9 a2 a3 a4 a5 a6 a7 a8 a9 a10 a11 a12 a13 a14 a15 a16 x10 x11 x12 x13 x14 x15 a17 a18 a19 x16 a20 x17 a21 x18 x19 a22 a23 a24 a25 x20 a26 x21 a27 a28 a29 y0 a30 a31 a32 a33 a34 a35 a36 a37 a38 x22 x23 x24 y1 a39 x25 a40 a41 a42 a43 x26 x27 x28 x29 a19 f0) → va_S A s.heap H locs → lv_has ls 5 [(4, .int x_15), (3, .int x_17), (0, .ref a0), (1, .int x0), (2, .int x1)] → W p l e ({ frames := 2, cells := 0, slots := 0, locals := 46 }) s m args below meth c H locs 0 0 Q (F0 m 23 ls []) := by
            intro n
            induction n with
            | zero => intro x_15 x_17 H locs ls hi_16 hi_18 hi_19 hi_20 hi_21 hmu; exact absurd hmu (Nat.not_lt_zero _)
            | succ n ih_lp_22 =>
              intro x_15 x_17 H locs ls hi_16 hi_18 hi_19 hi_20 hi_21 hmu_lp_22 hP hD hS hl
              refine lv_iload (pc := 23) hx hb dX12_unlike_23 (lv_at hl 0 rfl) ?_
              refine lv_aload_n (pc := 25) hx hb dX12_unlike_25 rfl (lv_at hl 2 rfl) ?_
              refine va_get (pc := 26) (ci := 12) (v := .int x11) (C := RX12) (T := TX12) (N := 73) hx hb hts iX12 hown hK hP 0 rfl rfl 25 (by decide) (hts _ tw_1426) (fun _ h9 => h9) rfl dX12_unlike_26 ?_
              have bd_h_x11 : 0 ≤ x11.toInt ∧ x11.toInt ≤ 5 := h_x11
              refine b_icmp_ge (pc := 29) (tgt := 66) hx hb rfl rfl  dX12_unlike_29 (by decide) (fun c_23 => ?_) (fun c_23 => ?_)
              ·
                as_aux_lemma =>
                  refine lv_iload_n (pc := 66) hx hb dX12_unlike_66 rfl (lv_at hl 1 rfl) ?_
                  have hP9 : va_P D gcl (zS_27 cB cC cI cJ a0 a1 x2 x3 x4 x5 x6 x7 x8 x9 a2 a3 a4 a5 a6 a7 a8 a9 a10 a11 a12 a13 a14 a15 a16 x10 x11 x12 x13 x14 x15 a17 a18 a19 x16 a20 x17 a21 x18 x19 a22 a23 a24 a25 x20 a26 x21 a27 a28 a29 y0 a30 a31 a32 a33 a34 a35 a36 a37 a38 x22 x23 x24 y1 a39 x25 a40 a41 a42 a43 x26 x27 x28 x29 a19 f0) H := g_psub hP [0, 1] rfl
                  have hD9 : va_D A (zS_27 cB cC cI cJ a0 a1 x2 x3 x4 x5 x6 x7 x8 x9 a2 a3 a4 a5 a6 a7 a8 a9 a10 a11 a12 a13 a14 a15 a16 x10 x11 x12 x13 x14 x15 a17 a18 a19 x16 a20 x17 a21 x18 x19 a22 a23 a24 a25 x20 a26 x21 a27 a28 a29 y0 a30 a31 a32 a33 a34 a35 a36 a37 a38 x22 x23 x24 y1 a39 x25 a40 a41 a42 a43 x26 x27 x28 x29 a19 f0) := hD.sub [0, 1] (by decide) rfl
                  exact hret x_17 ((fun _ => 0), (fun _ => (fun _ => 0)), (fun _ => (fun _ => 0)), (fun _ => 0), (fun _ => 0)) dX12_unlike_67 ⟨(show ((-1) ≤ x_17.toInt ∧ x_17.toInt ≤ 5) from (by first | exact (om_1426 hi_18.1 hi_18.2) | ((first | omega | (unfold zBd at *; omega))))), (show ulQ x_17.toInt x0.toInt x1.toInt x14.toInt x11.toInt f0 from ul_yes (k := x_15.toInt) (by (first | omega | (unfold zBd at *; omega))) hi_21 rfl (by (first | omega | (unfold zBd at *; omega))))⟩ hP9 hD9 hS
              ·
                as_aux_lemma =>
                  refine lv_aload_n (pc := 32) hx hb dX12_unlike_32 rfl (lv_at hl 2 rfl) ?_
                  refine va_get (pc := 33) (ci := 12) (v := .ref a19) (C := RX12) (T := TX12) (N := 73) hx hb hts iX12 hown hK hP 0 rfl rfl 32 (by decide) (hts _ tw_1433) (fun _ h9 => h9) rfl dX12_unlike_33 ?_
                  refine lv_iconst (pc := 36) (v := 5) hx hb dX12_unlike_36 (by decide) ?_
                  refine lv_iload_n (pc := 37) hx hb dX12_unlike_37 rfl (lv_at hl 3 rfl) ?_
                  refine b_imul (pc := 38) hx hb tI_5 rfl (by first | exact (om_1521 c_7 hw_4.1 hw_5.1) | ((first | omega | (unfold zBd at *; omega)))) (by first | exact (om_1814 c_7 hw_4.1 hw_5.2 h_x14.2) | ((first | omega | (unfold zBd at *; omega)))) dX12_unlike_38 (fun x_24 ex_24 => ?_)
                  refine lv_iload (pc := 39) hx hb dX12_unlike_39 (lv_at hl 0 rfl) ?_
                  refine b_iadd (pc := 41) hx hb rfl rfl (by first | exact (om_1815 c_7 hw_4.1 ex_24 hi_16.1 hw_5.1) | ((first | omega | (unfold zBd at *; omega)))) (by first | exact (om_1816 c_7 hw_4.1 ex_24 hi_16.2 hw_5.2 h_x14.2) | ((first | omega | (unfold zBd at *; omega)))) dX12_unlike_41 (fun x_25 ex_25 => ?_)
                  refine va_iald (pc := 42) hx hb hK hP 1 2 rfl rfl (n_in rfl (by first | exact (om_1817 c_7 hw_4.1 ex_25 ex_24 hi_16.1 hw_5.1) | ((first | omega | (unfold zBd at *; omega)))) (by first | exact (om_1818 c_7 hw_4.1 ex_25 ex_24 hi_16.2 hw_5.2 h_x14.2) | ((first | omega | (unfold zBd at *; omega))))) dX12_unlike_42 ?_
                  refine lv_topi (fun x_26 ex_26 => ?_)
                  have rx_26 : ((-9999) ≤ x_26.toInt ∧ x_26.toInt ≤ 9999) := by rw [ex_26]; exact hf_f0 _
                  replace ex_26 : x_26 = f0 (x_25.toInt).toNat := ex_26
                  have tx_26 := congrArg Int32.toInt ex_26
                  refine lv_aload_n (pc := 43) hx hb dX12_unlike_43 rfl (lv_at hl 2 rfl) ?_
                  as_aux_lemma =>
                    refine va_get (pc := 44) (ci := 12) (v := .ref a19) (C := RX12) (T := TX12) (N := 73) hx hb hts iX12 hown hK hP 0 rfl rfl 32 (by decide) (hts _ tw_1433) (fun _ h9 => h9) rfl dX12_unlike_44 ?_
                    refine lv_iconst (pc := 47) (v := 5) hx hb dX12_unlike_47 (by decide) ?_
                    refine lv_iload_n (pc := 48) hx hb dX12_unlike_48 rfl (lv_at hl 4 rfl) ?_
                    refine b_imul (pc := 49) hx hb tI_5 rfl (by first | exact (om_1521 c_14 hw_11.1 hw_12.1) | ((first | omega | (unfold zBd at *; omega)))) (by first | exact (om_1814 c_14 hw_11.1 hw_12.2 h_x14.2) | ((first | omega | (unfold zBd at *; omega)))) dX12_unlike_49 (fun x_27 ex_27 => ?_)
                    refine lv_iload (pc := 50) hx hb dX12_unlike_50 (lv_at hl 0 rfl) ?_
                    refine b_iadd (pc := 52) hx hb rfl rfl (by first | exact (om_1815 c_14 hw_11.1 ex_27 hi_16.1 hw_12.1) | ((first | omega | (unfold zBd at *; omega)))) (by first | exact (om_1816 c_14 hw_11.1 ex_27 hi_16.2 hw_12.2 h_x14.2) | ((first | omega | (unfold zBd at *; omega)))) dX12_unlike_52 (fun x_28 ex_28 => ?_)
                    refine va_iald (pc := 53) hx hb hK hP 1 2 rfl rfl (n_in rfl (by first | exact (om_1817 c_14 hw_11.1 ex_28 ex_27 hi_16.1 hw_12.1) | ((first | omega | (unfold zBd at *; omega)))) (by first | exact (om_1818 c_14 hw_11.1 ex_28 ex_27 hi_16.2 hw_12.2 h_x14.2) | ((first | omega | (unfold zBd at *; omega))))) dX12_unlike_53 ?_
                    refine lv_topi (fun x_29 ex_29 => ?_)
                    have rx_29 : ((-9999) ≤ x_29.toInt ∧ x_29.toInt ≤ 9999) := by rw [ex_29]; exact hf_f0 _
                    replace ex_29 : x_29 = f0 (x_28.toInt).toNat := ex_29
                    have tx_29 := congrArg Int32.toInt ex_29
                    refine b_icmp_eq (pc := 54) (tgt := 60) hx hb rfl rfl  dX12_unlike_54 (by decide) (fun c_30 => ?_) (fun c_30 => ?_)
                    ·
                      as_aux_lemma =>
                        refine b_iinc (pc := 60) hx hb dX12_unlike_60 hl (k := 0) rfl rfl tI_1 (by first | exact (om_2 hi_16.1) | ((first | omega | (unfold zBd at *; omega)))) (by first | exact (om_357 hi_16.2) | ((first | omega | (unfold zBd at *; omega)))) (by decide) (fun x_31 ex_31 ls hl => ?_)
                        replace hl : lv_has ls 5 [(4, .int x_31), (3, .int x_17), (0, .ref a0), (1, .int x0), (2, .int x1)] := hl
                        refine lv_goto (pc := 63) (tgt := 23) hx hb dX12_unlike_63 (by decide) ?_
                        exact ih_lp_22 x_31 x_17 _ _ ls (by first | exact (om_1026 ex_31 hi_16.1 c_23 h_x11.2) | ((first | omega | (unfold zBd at *; omega)))) hi_18 (by first | exact (om_482 ex_31 hi_19) | ((first | omega | (unfold zBd at *; omega)))) (by first | exact (om_40 ex_31 c_23) | ((first | omega | (unfold zBd at *; omega)))) (un_step hi_21 (congrArg Int32.toInt (e_ld ex_26 (show _ = ixW x0.toInt (x_15.toInt) by unfold ixW; (first | omega | (unfold zBd at *; omega)))).symm) (congrArg Int32.toInt (e_ld ex_29 (show _ = ixW x1.toInt (x_15.toInt) by unfold ixW; (first | omega | (unfold zBd at *; omega)))).symm) (by first | exact (om_0 hi_16.1) | ((first | omega | (unfold zBd at *; omega)))) (by (first | omega | (unfold zBd at *; omega))) (by first | exact (om_5 ex_31) | ((first | omega | (unfold zBd at *; omega))))) (by (first | omega | (unfold zBd at *; omega))) hP hD hS (lv_sub hl [0, 1, 2, 3, 4] rfl)
                    ·
                      as_aux_lemma =>
                        refine b_iinc (pc := 57) hx hb dX12_unlike_57 hl (k := 1) rfl rfl tI_1 (by first | exact (om_2 hi_18.1) | ((first | omega | (unfold zBd at *; omega)))) (by first | exact (om_357 hi_18.2) | ((first | omega | (unfold zBd at *; omega)))) (by decide) (fun x_32 ex_32 ls hl => ?_)
                        replace hl : lv_has ls 5 [(3, .int x_32), (4, .int x_15), (0, .ref a0), (1, .int x0), (2, .int x1)] := hl
                        refine b_iinc (pc := 60) hx hb dX12_unlike_60 hl (k := 1) rfl rfl tI_1 (by first | exact (om_2 hi_16.1) | ((first | omega | (unfold zBd at *; omega)))) (by first | exact (om_357 hi_16.2) | ((first | omega | (unfold zBd at *; omega)))) (by decide) (fun x_33 ex_33 ls hl => ?_)
                        replace hl : lv_has ls 5 [(4, .int x_33), (3, .int x_32), (0, .ref a0), (1, .int x0), (2, .int x1)] := hl
                        refine lv_goto (pc := 63) (tgt := 23) hx hb dX12_unlike_63 (by decide) ?_
                        exact ih_lp_22 x_33 x_32 _ _ ls (by first | exact (om_1026 ex_33 hi_16.1 c_23 h_x11.2) | ((first | omega | (unfold zBd at *; omega)))) (by first | exact (om_1428 ex_32 hi_18.1 hi_19 c_23 h_x11.2) | ((first | omega | (unfold zBd at *; omega)))) (by first | exact (om_1429 ex_33 ex_32 hi_19) | ((first | omega | (unfold zBd at *; omega)))) (by first | exact (om_40 ex_33 c_23) | ((first | omega | (unfold zBd at *; omega)))) (un_step hi_21 (congrArg Int32.toInt (e_ld ex_26 (show _ = ixW x0.toInt (x_15.toInt) by unfold ixW; (first | omega | (unfold zBd at *; omega)))).symm) (congrArg Int32.toInt (e_ld ex_29 (show _ = ixW x1.toInt (x_15.toInt) by unfold ixW; (first | omega | (unfold zBd at *; omega)))).symm) (by first | exact (om_0 hi_16.1) | ((first | omega | (unfold zBd at *; omega)))) (by (first | omega | (unfold zBd at *; omega))) (by first | exact (om_5 ex_33) | ((first | omega | (unfold zBd at *; omega))))) (by (first | omega | (unfold zBd at *; omega))) hP hD hS (lv_sub hl [0, 1, 2, 3, 4] rfl)
          exact lp_22 _ 0 0 _ _ ls (n_c tI_0 (by decide)) (n_c tI_0 (by decide)) (by have q := tI_0; (first | omega | (unfold zBd at *; omega))) (by have q := tI_0; (first | omega | (unfold zBd at *; omega))) (by rw [tI_0]; rfl) (Nat.lt_succ_self _) hP hD hS (lv_sub hl [0, 1, 2, 3, 4] rfl)
      ·
        as_aux_lemma =>
          refine lv_iconst (pc := 16) (v := (-1)) hx hb dX12_unlike_16 (by decide) ?_
          have hP9 : va_P D gcl (zS_27 cB cC cI cJ a0 a1 x2 x3 x4 x5 x6 x7 x8 x9 a2 a3 a4 a5 a6 a7 a8 a9 a10 a11 a12 a13 a14 a15 a16 x10 x11 x12 x13 x14 x15 a17 a18 a19 x16 a20 x17 a21 x18 x19 a22 a23 a24 a25 x20 a26 x21 a27 a28 a29 y0 a30 a31 a32 a33 a34 a35 a36 a37 a38 x22 x23 x24 y1 a39 x25 a40 a41 a42 a43 x26 x27 x28 x29 a19 f0) H := g_psub hP [0, 1] rfl
          have hD9 : va_D A (zS_27 cB cC cI cJ a0 a1 x2 x3 x4 x5 x6 x7 x8 x9 a2 a3 a4 a5 a6 a7 a8 a9 a10 a11 a12 a13 a14 a15 a16 x10 x11 x12 x13 x14 x15 a17 a18 a19 x16 a20 x17 a21 x18 x19 a22 a23 a24 a25 x20 a26 x21 a27 a28 a29 y0 a30 a31 a32 a33 a34 a35 a36 a37 a38 x22 x23 x24 y1 a39 x25 a40 a41 a42 a43 x26 x27 x28 x29 a19 f0) := hD.sub [0, 1] (by decide) rfl
          have k9 := tI_m1
          exact hret (-1) ((fun _ => 0), (fun _ => (fun _ => 0)), (fun _ => (fun _ => 0)), (fun _ => 0), (fun _ => 0)) dX12_unlike_17 ⟨(show ((-1) ≤ ((-1) : Int32).toInt ∧ ((-1) : Int32).toInt ≤ 5) from (n_c tI_m1 (by decide))), (show ulQ ((-1) : Int32).toInt x0.toInt x1.toInt x14.toInt x11.toInt f0 from ul_noI hw_13 (by first | exact (om_31 c_14) | ((first | omega | (unfold zBd at *; omega)))) (by first | exact (om_1819) | ((first | omega | (unfold zBd at *; omega)))) (by first | exact (om_65 tI_m1) | ((first | omega | (unfold zBd at *; omega)))))⟩ hP9 hD9 hS
theorem om_1820 {a b : Int} (h0 : (a < b)) (h1 : (b ≤ 16)) : (5 * a ≤ 2147483647) := by omega
theorem om_1821 {a b c d e : Int} (h0 : (a = 5 * c)) (h1 : (b < d)) (h2 : (c < e)) (h3 : (d ≤ 5)) (h4 : (e ≤ 16)) : (a + b ≤ 2147483647) := by omega
theorem om_1822 {a b c d e f : Int} (h0 : (a = b + c)) (h1 : (b = 5 * d)) (h2 : (c < e)) (h3 : (d < f)) (h4 : (e ≤ 5)) (h5 : (f ≤ 16)) : (a < (160 : Nat)) := by omega
set_option maxHeartbeats 4000000 in
set_option maxRecDepth 100000 in
theorem k_X12_decode (l : Launch) (D : va_G) (cB cC cI cJ : ClassId) (sz : Nat) (a0 a1 a2 a3 a4 a5 a6 a7 a8 a9 a10 a11 a12 a13 a14 a15 a16 a17 a18 a19 a20 a21 a22 a23 a24 a25 a26 a27 a28 a29 a30 a31 a32 a33 a34 a35 a36 a37 a38 a39 a40 a41 a42 a43 : Nat) (x0 x1 x2 x3 x4 x5 x6 x7 x8 x9 x10 x11 x12 x13 x14 x15 x16 x17 x18 x19 x20 x21 x22 x23 x24 x25 x26 x27 : Int32) (y0 y1 : Int64) (f0 f1 f2 f3 : Nat → Int32) (h_x0 : zBd x0.toInt 0 1600) (h_x1 : zBd x1.toInt 0 1600) (h_x2 : zBd x2.toInt 0 1600) (h_x3 : zBd x3.toInt (-1) 1600) (h_x4 : zBd x4.toInt 0 4) (h_x5 : zBd x5.toInt (-1) 1600) (h_x8 : zBd x8.toInt 0 8) (h_x9 : zBd x9.toInt 0 5) (h_x10 : zBd x10.toInt 0 6) (h_x11 : zBd x11.toInt 0 6) (h_x12 : zBd x12.toInt 0 16) (h_x14 : zBd x14.toInt 0 60) (h_x15 : zBd x15.toInt 0 1600) (h_x16 : zBd x16.toInt 0 1700) (h_x18 : zBd x18.toInt 0 1700) (h_x19 : zBd x19.toInt 0 1700) (h_x20 : zBd x20.toInt 0 200) (h_x21 : zBd x21.toInt 0 40) (h_x22 : zBd x22.toInt 0 40) (h_x23 : zBd x23.toInt 0 1) (h_x24 : zBd x24.toInt 0 14) (h_x25 : zBd x25.toInt 0 200) (h_x26 : zBd x26.toInt 0 40) (h_x27 : zBd x27.toInt 0 40) (hr_a0_0 : (x21.toInt ≤ x20.toInt)) (hr_a0_1 : (x20.toInt + x22.toInt ≤ 200)) (hr_a0_2 : (x9.toInt = 0 ∨ 2 ≤ x8.toInt)) (hf_f0 : (∀ j, (-9999) ≤ (f0 j).toInt ∧ (f0 j).toInt ≤ 9999)) (hf_f2 : (∀ j, (-1100000) ≤ (f2 j).toInt ∧ (f2 j).toInt ≤ 1100000)) (hf_f3 : (∀ j, (-9999) ≤ (f3 j).toInt ∧ (f3 j).toInt ≤ 9999)) : Met l yX12_decode (.code yX12_decode cX12_decode 7 (some .int) :: lw_gd) ({ frames := 2, cells := 0, slots := 0, locals := 49 }) (gPre D [(cB, .byte), (cC, .char), (cI, .int), (cJ, .long)] [.ref a0] (zS_129 cB cC cI cJ a0 a1 x0 x1 x2 x3 x4 x5 x6 x7 a2 a3 a4 a5 a6 a7 a8 a9 a10 a11 a12 a13 a14 a15 a16 x8 x9 x10 x11 x12 x13 a17 a18 a19 x14 a20 x15 a21 x16 x17 a22 a23 a24 a25 x18 a26 x19 a27 a28 a29 y0 a30 a31 a32 a33 a34 a35 a36 a37 a38 x20 x21 x22 y1 a39 x23 a40 a41 a42 a43 x24 x25 x26 x27 a18 f0 a29 f1 a28 f2 a19 f3) sz) (va_Qi (fun r u => ((((-2147483648) ≤ r.toInt ∧ r.toInt ≤ 2147483647) ∧ (0 ≤ x12.toInt ∧ x12.toInt ≤ 16)))) (gB D (va_A (zS_129 cB cC cI cJ a0 a1 x0 x1 x2 x3 x4 x5 x6 x7 a2 a3 a4 a5 a6 a7 a8 a9 a10 a11 a12 a13 a14 a15 a16 x8 x9 x10 x11 x12 x13 a17 a18 a19 x14 a20 x15 a21 x16 x17 a22 a23 a24 a25 x18 a26 x19 a27 a28 a29 y0 a30 a31 a32 a33 a34 a35 a36 a37 a38 x20 x21 x22 y1 a39 x23 a40 a41 a42 a43 x24 x25 x26 x27 a18 f0 a29 f1 a28 f2 a19 f3) sz) (fun u : gEx => (zS_129 cB cC cI cJ a0 a1 x0 x1 x2 x3 x4 x5 x6 x7 a2 a3 a4 a5 a6 a7 a8 a9 a10 a11 a12 a13 a14 a15 a16 x8 x9 x10 x11 x12 x13 a17 a18 a19 x14 a20 x15 a21 x16 x17 a22 a23 a24 a25 x18 a26 x19 a27 a28 a29 y0 a30 a31 a32 a33 a34 a35 a36 a37 a38 x20 x21 x22 y1 a39 x23 a40 a41 a42 a43 x24 x25 x26 x27 a18 f0 a29 (u.2.1 0) a28 f2 a19 f3))) (va_A (zS_129 cB cC cI cJ a0 a1 x0 x1 x2 x3 x4 x5 x6 x7 a2 a3 a4 a5 a6 a7 a8 a9 a10 a11 a12 a13 a14 a15 a16 x8 x9 x10 x11 x12 x13 a17 a18 a19 x14 a20 x15 a21 x16 x17 a22 a23 a24 a25 x18 a26 x19 a27 a28 a29 y0 a30 a31 a32 a33 a34 a35 a36 a37 a38 x20 x21 x22 y1 a39 x23 a40 a41 a42 a43 x24 x25 x26 x27 a18 f0 a29 f1 a28 f2 a19 f3) sz)) 0 0 (va_A (zS_129 cB cC cI cJ a0 a1 x0 x1 x2 x3 x4 x5 x6 x7 a2 a3 a4 a5 a6 a7 a8 a9 a10 a11 a12 a13 a14 a15 a16 x8 x9 x10 x11 x12 x13 a17 a18 a19 x14 a20 x15 a21 x16 x17 a22 a23 a24 a25 x18 a26 x19 a27 a28 a29 y0 a30 a31 a32 a33 a34 a35 a36 a37 a38 x20 x21 x22 y1 a39 x23 a40 a41 a42 a43 x24 x25 x26 x27 a18 f0 a29 f1 a28 f2 a19 f3) sz) := by
  refine gOf_i (by decide +kernel) (Nat.le_of_ble_eq_true rfl) ?_
  intro p e s m args below meth c ls A Q hx hb hts hown hml hN hK hP hD hA hl hret
  replace hown : s.vm.findClass RX12 = some m.cls := hown
  have hS : va_S A s.heap s.heap [] := va_S.rf
  replace hP : va_P D gcl (zS_129 cB cC cI cJ a0 a1 x0 x1 x2 x3 x4 x5 x6 x7 a2 a3 a4 a5 a6 a7 a8 a9 a10 a11 a12 a13 a14 a15 a16 x8 x9 x10 x11 x12 x13 a17 a18 a19 x14 a20 x15 a21 x16 x17 a22 a23 a24 a25 x18 a26 x19 a27 a28 a29 y0 a30 a31 a32 a33 a34 a35 a36 a37 a38 x20 x21 x22 y1 a39 x23 a40 a41 a42 a43 x24 x25 x26 x27 a18 f0 a29 f1 a28 f2 a19 f3) s.heap := hP
  replace hl : lv_has ls 7 [(0, .ref a0)] := hl
  have rx6 : zBd x6.toInt (-2147483648) 2147483647 := n_rng x6
  have rx7 : zBd x7.toInt (-2147483648) 2147483647 := n_rng x7
  have rx13 : zBd x13.toInt (-2147483648) 2147483647 := n_rng x13
  have rx17 : zBd x17.toInt (-2147483648) 2147483647 := n_rng x17
  have ry0 := n_rngL y0
  have ry1 := n_rngL y1
  refine lv_iconst (pc := 0) (v := (-1)) hx hb dX12_decode_0 (by decide) ?_
  refine lv_istore_n (pc := 1) (lv' := [(1, .int (-1)), (0, .ref a0)]) hx hb dX12_decode_1 rfl hl (by decide) rfl (fun ls hl => ?_)
  refine lv_lconst (pc := 2) (v := 0) hx hb dX12_decode_2 (by decide) ?_
  refine lv_lstore_n (pc := 3) (lv' := [(2, .long 0), (1, .int (-1)), (0, .ref a0)]) hx hb dX12_decode_3 rfl hl (by decide) rfl (fun ls hl => ?_)
  refine lv_iconst (pc := 4) (v := 0) hx hb dX12_decode_4 (by decide) ?_
  refine lv_istore (pc := 5) (lv' := [(4, .int 0), (2, .long 0), (1, .int (-1)), (0, .ref a0)]) hx hb dX12_decode_5 hl (by decide) rfl (fun ls hl => ?_)
  have lp_8 : ∀ (n : Nat) (x_1 x_5 : Int32) (y_3 : Int64) (f_7 : Nat → Int32) (H : Heap) (locs : List Loc) (ls : Array Slot), (0 ≤ x_1.toInt ∧ x_1.toInt ≤ 2147483647) → (2147483647 - x_1.toInt).toNat < n → va_P D gcl (zS_129 cB cC cI cJ a0 a1 x0 x1 x2 x3 x4 x5 x6 x7 a2 a3 a4 a5 a6 a7 a8 a9 a10 a11 a12 a13 a14 a15 a16 x8 x9 x10 x11 x12 x13 a17 a18 a19 x14 a20 x15 a21 x16 x17 a22 a23 a24 a25 x18 a26 x19 a27 a28 a29 y0 a30 a31 a32 a33 a34 a35 a36 a37 a38 x20 x21 x22 y1 a39 x23 a40 a41 a42 a43 x24 x25 x26 x27 a18 f0 a29 f_7 a28 f2 a19 f3) H → va_D A (zS_129 cB cC cI cJ a0 a1 x0 x1 x2 x3 x4 x5 x6 x7 a2 a3 a4 a5 a6 a7 a8 a9 a10 a11 a12 a13 a14 a15 a16 x8 x9 x10 x11 x12 x13 a17 a18 a19 x14 a20 x15 a21 x16 x17 a22 a23 a24 a25 x18 a26 x19 a27 a28 a29 y0 a30 a31 a32 a33 a34 a35 a36 a37 a38 x20 x21 x22 y1 a39 x23 a40 a41 a42 a43 x24 x25 x26 x27 a18 f0 a29 f_7 a28 f2 a19 f3) → va_S A s.heap H locs → lv_has ls 7 [(4, .int x_1), (2, .long y_3), (1, .int x_5), (0, .ref a0)] → W p l e ({ frames := 2, cells := 0, slots := 0, locals := 49 }) s m args below meth c H locs 0 0 Q (F0 m 7 ls []) := by
    intro n
    induction n with
    | zero => intro x_1 x_5 y_3 f_7 H locs ls hi_2 hmu; exact absurd hmu (Nat.not_lt_zero _)
    | succ n ih_lp_8 =>
      intro x_1 x_5 y_3 f_7 H locs ls hi_2 hmu_lp_8 hP hD hS hl
      have hi_4 := n_rngL y_3
      have hi_6 := n_rng x_5
      refine lv_iload (pc := 7) hx hb dX12_decode_7 (lv_at hl 0 rfl) ?_
      refine lv_aload_n (pc := 9) hx hb dX12_decode_9 rfl (lv_at hl 3 rfl) ?_
      refine va_get (pc := 10) (ci := 12) (v := .int x12) (C := RX12) (T := TX12) (N := 73) hx hb hts iX12 hown hK hP 0 rfl rfl 28 (by decide) (hts _ tw_1429) (fun _ h9 => h9) rfl dX12_decode_10 ?_
      have bd_h_x12 : 0 ≤ x12.toInt ∧ x12.toInt ≤ 16 := h_x12
      refine b_icmp_ge (pc := 13) (tgt := 87) hx hb rfl rfl  dX12_decode_13 (by decide) (fun c_9 => ?_) (fun c_9 => ?_)
      ·
        as_aux_lemma =>
          refine lv_iload_n (pc := 87) hx hb dX12_decode_87 rfl (lv_at hl 2 rfl) ?_
          have hP9 : va_P D gcl (zS_129 cB cC cI cJ a0 a1 x0 x1 x2 x3 x4 x5 x6 x7 a2 a3 a4 a5 a6 a7 a8 a9 a10 a11 a12 a13 a14 a15 a16 x8 x9 x10 x11 x12 x13 a17 a18 a19 x14 a20 x15 a21 x16 x17 a22 a23 a24 a25 x18 a26 x19 a27 a28 a29 y0 a30 a31 a32 a33 a34 a35 a36 a37 a38 x20 x21 x22 y1 a39 x23 a40 a41 a42 a43 x24 x25 x26 x27 a18 f0 a29 f_7 a28 f2 a19 f3) H := g_psub hP [0, 1, 2, 3, 4] rfl
          have hD9 : va_D A (zS_129 cB cC cI cJ a0 a1 x0 x1 x2 x3 x4 x5 x6 x7 a2 a3 a4 a5 a6 a7 a8 a9 a10 a11 a12 a13 a14 a15 a16 x8 x9 x10 x11 x12 x13 a17 a18 a19 x14 a20 x15 a21 x16 x17 a22 a23 a24 a25 x18 a26 x19 a27 a28 a29 y0 a30 a31 a32 a33 a34 a35 a36 a37 a38 x20 x21 x22 y1 a39 x23 a40 a41 a42 a43 x24 x25 x26 x27 a18 f0 a29 f_7 a28 f2 a19 f3) := hD.sub [0, 1, 2, 3, 4] (by decide) rfl
          exact hret x_5 ((fun _ => 0), (fun k => [f_7].getD k (fun _ => 0)), (fun _ => (fun _ => 0)), (fun _ => 0), (fun _ => 0)) dX12_decode_88 (show ((((-2147483648) ≤ x_5.toInt ∧ x_5.toInt ≤ 2147483647) ∧ (0 ≤ x12.toInt ∧ x12.toInt ≤ 16))) from (by first | exact (om_1411 hi_6.1 hi_6.2 h_x12.1 h_x12.2) | ((first | omega | (unfold zBd at *; omega))))) hP9 hD9 hS
      ·
        as_aux_lemma =>
          refine lv_iconst (pc := 16) (v := 0) hx hb dX12_decode_16 (by decide) ?_
          refine lv_istore (pc := 17) (lv' := [(5, .int 0), (4, .int x_1), (2, .long y_3), (1, .int x_5), (0, .ref a0)]) hx hb dX12_decode_17 hl (by decide) rfl (fun ls hl => ?_)
          have lp_13 : ∀ (n : Nat) (x_10 : Int32) (f_12 : Nat → Int32) (H : Heap) (locs : List Loc) (ls : Array Slot), (0 ≤ x_10.toInt ∧ x_10.toInt ≤ 2147483647) → (2147483647 - x_10.toInt).toNat < n → va_P D gcl (zS_129 cB cC cI cJ a0 a1 x0 x1 x2 x3 x4 x5 x6 x7 a2 a3 a4 a5 a6 a7 a8 a9 a10 a11 a12 a13 a14 a15 a16 x8 x9 x10 x11 x12 x13 a17 a18 a19 x14 a20 x15 a21 x16 x17 a22 a23 a24 a25 x18 a26 x19 a27 a28 a29 y0 a30 a31 a32 a33 a34 a35 a36 a37 a38 x20 x21 x22 y1 a39 x23 a40 a41 a42 a43 x24 x25 x26 x27 a18 f0 a29 f_12 a28 f2 a19 f3) H → va_D A (zS_129 cB cC cI cJ a0 a1 x0 x1 x2 x3 x4 x5 x6 x7 a2 a3 a4 a5 a6 a7 a8 a9 a10 a11 a12 a13 a14 a15 a16 x8 x9 x10 x11 x12 x13 a17 a18 a19 x14 a20 x15 a21 x16 x17 a22 a23 a24 a25 x18 a26 x19 a27 a28 a29 y0 a30 a31 a32 a33 a34 a35 a36 a37 a38 x20 x21 x22 y1 a39 x23 a40 a41 a42 a43 x24 x25 x26 x27 a18 f0 a29 f_12 a28 f2 a19 f3) → va_S A s.heap H locs → lv_has ls 7 [(5, .int x_10), (4, .int x_1), (2, .long y_3), (1, .int x_5), (0, .ref a0)] → W p l e ({ frames := 2, cells := 0, slots := 0, locals := 49 }) s m args below meth c H locs 0 0 Q (F0 m 19 ls []) := by
            intro n
            induction n with
            | zero => intro x_10 f_12 H locs ls hi_11 hmu; exact absurd hmu (Nat.not_lt_zero _)
            | succ n ih_lp_13 =>
              intro x_10 f_12 H locs ls hi_11 hmu_lp_13 hP hD hS hl
              refine lv_iload (pc := 19) hx hb dX12_decode_19 (lv_at hl 0 rfl) ?_
              refine lv_aload_n (pc := 21) hx hb dX12_decode_21 rfl (lv_at hl 4 rfl) ?_
              refine va_get (pc := 22) (ci := 12) (v := .int x9) (C := RX12) (T := TX12) (N := 73) hx hb hts iX12 hown hK hP 0 rfl rfl 25 (by decide) (hts _ tw_1426) (fun _ h9 => h9) rfl dX12_decode_22 ?_
              have bd_h_x9 : 0 ≤ x9.toInt ∧ x9.toInt ≤ 5 := h_x9
              refine b_icmp_ge (pc := 25) (tgt := 53) hx hb rfl rfl  dX12_decode_25 (by decide) (fun c_14 => ?_) (fun c_14 => ?_)
              ·
                as_aux_lemma =>
                  refine lv_aload_n (pc := 53) hx hb dX12_decode_53 rfl (lv_at hl 4 rfl) ?_
                  refine lv_iconst (pc := 54) (v := 1) hx hb dX12_decode_54 (by decide) ?_
                  refine gd_l (pc := 55) (wc := (zS_124 cB cC cI cJ a0 a1 x0 x1 x2 x3 x4 x5 x6 x7 a2 a3 a4 a5 a6 a7 a8 a9 a10 a11 a12 a13 a14 a15 a16 x8 x9 x10 x11 x12 x13 a17 a18 a19 x14 a20 x15 a21 x16 x17 a22 a23 a24 a25 x18 a26 x19 a27 a28 a29 y0 a30 a31 a32 a33 a34 a35 a36 a37 a38 x20 x21 x22 y1 a39 x23 a40 a41 a42 a43 x24 x25 x26 x27 a18 f0 a29 f_12 a28 f2)) hP hD hS hA [0, 1, 2, 3] rfl (by decide +kernel) (fun _ => by rfl) (fun hPc hDc => va_runV (As := [.int 1]) (rest := []) ⟨hx, hb, hml, hown, hts⟩ (k_X12_squaresLess l D cB cC cI cJ _ a0 a1 a2 a3 a4 a5 a6 a7 a8 a9 a10 a11 a12 a13 a14 a15 a16 a17 a18 a19 a20 a21 a22 a23 a24 a25 a26 a27 a28 a29 a30 a31 a32 a33 a34 a35 a36 a37 a38 a39 a40 a41 a42 a43 1 x0 x1 x2 x3 x4 x5 x6 x7 x8 x9 x10 x11 x12 x13 x14 x15 x16 x17 x18 x19 x20 x21 x22 x23 x24 x25 x26 x27 y0 y1 f0 f_12 f2 (n_c tI_1 (by decide)) h_x0 h_x1 h_x2 h_x3 h_x4 h_x5 h_x8 h_x9 h_x10 h_x11 h_x12 h_x14 h_x15 h_x16 h_x18 h_x19 h_x20 h_x21 h_x22 h_x23 h_x24 h_x25 h_x26 h_x27 hr_a0_0 hr_a0_1 hr_a0_2 hf_f0 hf_f2) ⟨gcwB hts tw_1837 tw_14 tw_1834 hd_yX12_squaresLess ⟨Nat.le_of_ble_eq_true rfl, Nat.le_of_ble_eq_true rfl⟩, hts _ tw_1836, hts _ tp_96⟩ ⟨gblind, va_recv hK hPc (ci := 12) (q0 := 0) rfl rfl, (gpreS hPc hK hDc hN).2⟩ rfl rfl hl.1 rfl (lv_room (Nat.le_of_ble_eq_true rfl)) dX12_decode_55 ⟨Nat.le_of_ble_eq_true rfl, Nat.le_of_ble_eq_true rfl⟩) (fun r_16 u_15 H locs hw_17 hP hD hS => ?_)
                  replace hP : va_P D gcl (zS_129 cB cC cI cJ a0 a1 x0 x1 x2 x3 x4 x5 x6 x7 a2 a3 a4 a5 a6 a7 a8 a9 a10 a11 a12 a13 a14 a15 a16 x8 x9 x10 x11 x12 x13 a17 a18 a19 x14 a20 x15 a21 x16 x17 a22 a23 a24 a25 x18 a26 x19 a27 a28 a29 y0 a30 a31 a32 a33 a34 a35 a36 a37 a38 x20 x21 x22 y1 a39 x23 a40 a41 a42 a43 x24 x25 x26 x27 a18 f0 a29 f_12 a28 f2 a19 f3) H := hP
                  replace hD : va_D A (zS_129 cB cC cI cJ a0 a1 x0 x1 x2 x3 x4 x5 x6 x7 a2 a3 a4 a5 a6 a7 a8 a9 a10 a11 a12 a13 a14 a15 a16 x8 x9 x10 x11 x12 x13 a17 a18 a19 x14 a20 x15 a21 x16 x17 a22 a23 a24 a25 x18 a26 x19 a27 a28 a29 y0 a30 a31 a32 a33 a34 a35 a36 a37 a38 x20 x21 x22 y1 a39 x23 a40 a41 a42 a43 x24 x25 x26 x27 a18 f0 a29 f_12 a28 f2 a19 f3) := hD
                  have hw_18 : ((((-9223372036854775808) ≤ r_16.toInt ∧ r_16.toInt ≤ 9223372036854775807) ∧ (0 ≤ x10.toInt ∧ x10.toInt ≤ 6))) := hw_17
                  have kk0_r_16 := tI_1
                  have rr_16 := n_rngL r_16
                  refine lv_lstore (pc := 58) (lv' := [(5, .long r_16), (4, .int x_1), (2, .long y_3), (1, .int x_5), (0, .ref a0)]) hx hb dX12_decode_58 hl (by decide) rfl (fun ls hl => ?_)
                  refine lv_iload_n (pc := 60) hx hb dX12_decode_60 rfl (lv_at hl 3 rfl) ?_
                  refine lv_iconst (pc := 61) (v := (-1)) hx hb dX12_decode_61 (by decide) ?_
                  refine b_icmp_eq (pc := 62) (tgt := 75) hx hb rfl tI_m1  dX12_decode_62 (by decide) (fun c_19 => ?_) (fun c_19 => ?_)
                  ·
                    as_aux_lemma =>
                      refine lv_iload (pc := 75) hx hb dX12_decode_75 (lv_at hl 1 rfl) ?_
                      refine lv_istore_n (pc := 77) (lv' := [(1, .int x_1), (5, .long r_16), (4, .int x_1), (2, .long y_3), (0, .ref a0)]) hx hb dX12_decode_77 rfl hl (by decide) rfl (fun ls hl => ?_)
                      refine lv_lload (pc := 78) hx hb dX12_decode_78 (lv_at hl 1 rfl) ?_
                      refine lv_lstore_n (pc := 80) (lv' := [(2, .long r_16), (1, .int x_1), (5, .long r_16), (4, .int x_1), (0, .ref a0)]) hx hb dX12_decode_80 rfl hl (by decide) rfl (fun ls hl => ?_)
                      refine b_iinc (pc := 81) hx hb dX12_decode_81 hl (k := 3) rfl rfl tI_1 (by first | exact (om_2 hi_2.1) | ((first | omega | (unfold zBd at *; omega)))) (by first | exact (om_1412 c_9 h_x12.2) | ((first | omega | (unfold zBd at *; omega)))) (by decide) (fun x_20 ex_20 ls hl => ?_)
                      replace hl : lv_has ls 7 [(4, .int x_20), (2, .long r_16), (1, .int x_1), (5, .long r_16), (0, .ref a0)] := hl
                      refine lv_goto (pc := 84) (tgt := 7) hx hb dX12_decode_84 (by decide) ?_
                      exact ih_lp_8 x_20 x_1 r_16 f_12 _ _ ls (by first | exact (om_1413 ex_20 hi_2.1 c_9 h_x12.2) | ((first | omega | (unfold zBd at *; omega)))) (by (first | omega | (unfold zBd at *; omega))) hP hD hS (lv_sub hl [0, 1, 2, 4] rfl)
                  ·
                    as_aux_lemma =>
                      refine lv_lload (pc := 65) hx hb dX12_decode_65 (lv_at hl 0 rfl) ?_
                      refine lv_lload_n (pc := 67) hx hb dX12_decode_67 rfl (lv_at hl 2 rfl) ?_
                      refine b_lcmp_lt (pc := 68) (tgt := 75) hx hb rfl rfl dX12_decode_68 dX12_decode_69 (by decide) (fun c_21 => ?_) (fun c_21 => ?_)
                      ·
                        as_aux_lemma =>
                          refine lv_iload (pc := 75) hx hb dX12_decode_75 (lv_at hl 1 rfl) ?_
                          refine lv_istore_n (pc := 77) (lv' := [(1, .int x_1), (5, .long r_16), (4, .int x_1), (2, .long y_3), (0, .ref a0)]) hx hb dX12_decode_77 rfl hl (by decide) rfl (fun ls hl => ?_)
                          refine lv_lload (pc := 78) hx hb dX12_decode_78 (lv_at hl 1 rfl) ?_
                          refine lv_lstore_n (pc := 80) (lv' := [(2, .long r_16), (1, .int x_1), (5, .long r_16), (4, .int x_1), (0, .ref a0)]) hx hb dX12_decode_80 rfl hl (by decide) rfl (fun ls hl => ?_)
                          refine b_iinc (pc := 81) hx hb dX12_decode_81 hl (k := 3) rfl rfl tI_1 (by first | exact (om_2 hi_2.1) | ((first | omega | (unfold zBd at *; omega)))) (by first | exact (om_1412 c_9 h_x12.2) | ((first | omega | (unfold zBd at *; omega)))) (by decide) (fun x_22 ex_22 ls hl => ?_)
                          replace hl : lv_has ls 7 [(4, .int x_22), (2, .long r_16), (1, .int x_1), (5, .long r_16), (0, .ref a0)] := hl
                          refine lv_goto (pc := 84) (tgt := 7) hx hb dX12_decode_84 (by decide) ?_
                          exact ih_lp_8 x_22 x_1 r_16 f_12 _ _ ls (by first | exact (om_1413 ex_22 hi_2.1 c_9 h_x12.2) | ((first | omega | (unfold zBd at *; omega)))) (by (first | omega | (unfold zBd at *; omega))) hP hD hS (lv_sub hl [0, 1, 2, 4] rfl)
                      ·
                        as_aux_lemma =>
                          refine lv_goto (pc := 72) (tgt := 81) hx hb dX12_decode_72 (by decide) ?_
                          refine b_iinc (pc := 81) hx hb dX12_decode_81 hl (k := 1) rfl rfl tI_1 (by first | exact (om_2 hi_2.1) | ((first | omega | (unfold zBd at *; omega)))) (by first | exact (om_1412 c_9 h_x12.2) | ((first | omega | (unfold zBd at *; omega)))) (by decide) (fun x_23 ex_23 ls hl => ?_)
                          replace hl : lv_has ls 7 [(4, .int x_23), (5, .long r_16), (2, .long y_3), (1, .int x_5), (0, .ref a0)] := hl
                          refine lv_goto (pc := 84) (tgt := 7) hx hb dX12_decode_84 (by decide) ?_
                          exact ih_lp_8 x_23 x_5 y_3 f_12 _ _ ls (by first | exact (om_1413 ex_23 hi_2.1 c_9 h_x12.2) | ((first | omega | (unfold zBd at *; omega)))) (by (first | omega | (unfold zBd at *; omega))) hP hD hS (lv_sub hl [0, 2, 3, 4] rfl)
              ·
                as_aux_lemma =>
                  refine lv_aload_n (pc := 28) hx hb dX12_decode_28 rfl (lv_at hl 4 rfl) ?_
                  refine va_get (pc := 29) (ci := 12) (v := .ref a29) (C := RX12) (T := TX12) (N := 73) hx hb hts iX12 hown hK hP 0 rfl rfl 48 (by decide) (hts _ tw_1449) (fun _ h9 => h9) rfl dX12_decode_29 ?_
                  refine lv_iload (pc := 32) hx hb dX12_decode_32 (lv_at hl 0 rfl) ?_
                  refine lv_aload_n (pc := 34) hx hb dX12_decode_34 rfl (lv_at hl 4 rfl) ?_
                  refine va_get (pc := 35) (ci := 12) (v := .ref a19) (C := RX12) (T := TX12) (N := 73) hx hb hts iX12 hown hK hP 0 rfl rfl 32 (by decide) (hts _ tw_1433) (fun _ h9 => h9) rfl dX12_decode_35 ?_
                  refine lv_iconst (pc := 38) (v := 5) hx hb dX12_decode_38 (by decide) ?_
                  refine lv_iload (pc := 39) hx hb dX12_decode_39 (lv_at hl 1 rfl) ?_
                  refine b_imul (pc := 41) hx hb tI_5 rfl (by first | exact (om_941 hi_2.1) | ((first | omega | (unfold zBd at *; omega)))) (by first | exact (om_1820 c_9 h_x12.2) | ((first | omega | (unfold zBd at *; omega)))) dX12_decode_41 (fun x_24 ex_24 => ?_)
                  refine lv_iload (pc := 42) hx hb dX12_decode_42 (lv_at hl 0 rfl) ?_
                  refine b_iadd (pc := 44) hx hb rfl rfl (by first | exact (om_1529 ex_24 hi_11.1 hi_2.1) | ((first | omega | (unfold zBd at *; omega)))) (by first | exact (om_1821 ex_24 c_14 c_9 h_x9.2 h_x12.2) | ((first | omega | (unfold zBd at *; omega)))) dX12_decode_44 (fun x_25 ex_25 => ?_)
                  as_aux_lemma =>
                    refine va_iald (pc := 45) hx hb hK hP 4 2 rfl rfl (n_in rfl (by first | exact (om_1531 ex_25 ex_24 hi_11.1 hi_2.1) | ((first | omega | (unfold zBd at *; omega)))) (by first | exact (om_1822 ex_25 ex_24 c_14 c_9 h_x9.2 h_x12.2) | ((first | omega | (unfold zBd at *; omega))))) dX12_decode_45 ?_
                    refine lv_topi (fun x_26 ex_26 => ?_)
                    have rx_26 : ((-9999) ≤ x_26.toInt ∧ x_26.toInt ≤ 9999) := by rw [ex_26]; exact hf_f3 _
                    refine g_iastore (pc := 46) hx hb hK hP hD hS 2 2 rfl rfl (n_in rfl (by first | exact (om_0 hi_11.1) | ((first | omega | (unfold zBd at *; omega)))) (by first | exact (om_1020 c_14 h_x9.2) | ((first | omega | (unfold zBd at *; omega))))) dX12_decode_46 (fun f_27 H locs hP hD hS => ?_)
                    replace hP : va_P D gcl (zS_129 cB cC cI cJ a0 a1 x0 x1 x2 x3 x4 x5 x6 x7 a2 a3 a4 a5 a6 a7 a8 a9 a10 a11 a12 a13 a14 a15 a16 x8 x9 x10 x11 x12 x13 a17 a18 a19 x14 a20 x15 a21 x16 x17 a22 a23 a24 a25 x18 a26 x19 a27 a28 a29 y0 a30 a31 a32 a33 a34 a35 a36 a37 a38 x20 x21 x22 y1 a39 x23 a40 a41 a42 a43 x24 x25 x26 x27 a18 f0 a29 f_27 a28 f2 a19 f3) H := hP
                    replace hD : va_D A (zS_129 cB cC cI cJ a0 a1 x0 x1 x2 x3 x4 x5 x6 x7 a2 a3 a4 a5 a6 a7 a8 a9 a10 a11 a12 a13 a14 a15 a16 x8 x9 x10 x11 x12 x13 a17 a18 a19 x14 a20 x15 a21 x16 x17 a22 a23 a24 a25 x18 a26 x19 a27 a28 a29 y0 a30 a31 a32 a33 a34 a35 a36 a37 a38 x20 x21 x22 y1 a39 x23 a40 a41 a42 a43 x24 x25 x26 x27 a18 f0 a29 f_27 a28 f2 a19 f3) := hD
                    refine b_iinc (pc := 47) hx hb dX12_decode_47 hl (k := 0) rfl rfl tI_1 (by first | exact (om_2 hi_11.1) | ((first | omega | (unfold zBd at *; omega)))) (by first | exact (om_338 c_14 h_x9.2) | ((first | omega | (unfold zBd at *; omega)))) (by decide) (fun x_28 ex_28 ls hl => ?_)
                    replace hl : lv_has ls 7 [(5, .int x_28), (4, .int x_1), (2, .long y_3), (1, .int x_5), (0, .ref a0)] := hl
                    refine lv_goto (pc := 50) (tgt := 19) hx hb dX12_decode_50 (by decide) ?_
                    exact ih_lp_13 x_28 f_27 _ _ ls (by first | exact (om_339 ex_28 hi_11.1 c_14 h_x9.2) | ((first | omega | (unfold zBd at *; omega)))) (by (first | omega | (unfold zBd at *; omega))) hP hD hS (lv_sub hl [0, 1, 2, 3, 4] rfl)
          exact lp_13 _ 0 f_7 _ _ ls (n_c tI_0 (by decide)) (Nat.lt_succ_self _) hP hD hS (lv_sub hl [0, 1, 2, 3, 4] rfl)
  exact lp_8 _ 0 (-1) 0 f1 _ _ ls (n_c tI_0 (by decide)) (Nat.lt_succ_self _) hP hD hS (lv_sub hl [0, 1, 2, 3] rfl)
theorem om_1823 {a b : Int} (h0 : ((-9223372036854775808) ≤ a)) (h1 : (a ≤ 9223372036854775807)) (h2 : (0 ≤ b)) (h3 : (b ≤ 5)) : (((((-9223372036854775808) ≤ a ∧ a ≤ 9223372036854775807) ∧ (0 ≤ b ∧ b ≤ 5)))) := by omega
theorem om_1824 : (0 < 3) := by omega
theorem om_1825 {a : Int} (h0 : (-3 < a)) (h1 : (a < 3)) : (((-2) ≤ a ∧ a ≤ 2)) := by omega
theorem om_1826 {a : Int} (h0 : ((-2) ≤ a)) : (-2147483648 ≤ a - 1) := by omega
theorem om_1827 {a b : Int} (h0 : (a = 2 * b)) (h1 : (0 ≤ b)) (h2 : (b ≤ 8)) : (-16 ≤ a ∧ a ≤ 16) := by omega
theorem om_1828 {a b : Int} (h0 : (a = b - 1)) (h1 : ((-2) ≤ b)) (h2 : (b ≤ 2)) : (-3 ≤ a ∧ a ≤ 3) := by omega
theorem om_1829 {a b : Int} (h0 : (-(16 * 3) ≤ a * b)) : (-2147483648 ≤ a * b) := by omega
theorem om_1830 {a b : Int} (h0 : (a * b ≤ 16 * 3)) : (a * b ≤ 2147483647) := by omega
theorem om_1831 {a b c : Int} (h0 : (a = b * c)) (h1 : (-(16 * 3) ≤ b * c)) (h2 : (b * c ≤ 16 * 3)) : (((-48) ≤ a ∧ a ≤ 48)) := by omega
theorem om_1832 {a b : Int} (h0 : (a = b + (-1))) (h1 : (b ≥ 0)) (h2 : (b ≤ 4)) : (((-2147483648) ≤ a ∧ a ≤ 4)) := by omega
theorem om_1833 {a b : Int} (h0 : (a = b - 1)) (h1 : (0 ≤ b)) (h2 : (b ≤ 5)) : (((-2147483648) ≤ a ∧ a ≤ 4)) := by omega
set_option maxHeartbeats 4000000 in
set_option maxRecDepth 100000 in
theorem k_X12_aheadOf (l : Launch) (D : va_G) (cB cC cI cJ : ClassId) (sz : Nat) (a0 a1 a2 a3 a4 a5 a6 a7 a8 a9 a10 a11 a12 a13 a14 a15 a16 a17 a18 a19 a20 a21 a22 a23 a24 a25 a26 a27 a28 a29 a30 a31 a32 a33 a34 a35 a36 a37 a38 a39 a40 a41 a42 a43 : Nat) (x0 x1 x2 x3 x4 x5 x6 x7 x8 x9 x10 x11 x12 x13 x14 x15 x16 x17 x18 x19 x20 x21 x22 x23 x24 x25 x26 x27 : Int32) (y0 y1 : Int64) (f0 f1 f2 f3 f4 : Nat → Int32) (h_x0 : zBd x0.toInt 0 1600) (h_x1 : zBd x1.toInt 0 1600) (h_x2 : zBd x2.toInt 0 1600) (h_x3 : zBd x3.toInt (-1) 1600) (h_x4 : zBd x4.toInt 0 4) (h_x5 : zBd x5.toInt (-1) 1600) (h_x8 : zBd x8.toInt 0 8) (h_x9 : zBd x9.toInt 0 5) (h_x10 : zBd x10.toInt 0 6) (h_x11 : zBd x11.toInt 0 6) (h_x12 : zBd x12.toInt 0 16) (h_x14 : zBd x14.toInt 0 60) (h_x15 : zBd x15.toInt 0 1600) (h_x16 : zBd x16.toInt 0 1700) (h_x18 : zBd x18.toInt 0 1700) (h_x19 : zBd x19.toInt 0 1700) (h_x20 : zBd x20.toInt 0 200) (h_x21 : zBd x21.toInt 0 40) (h_x22 : zBd x22.toInt 0 40) (h_x23 : zBd x23.toInt 0 1) (h_x24 : zBd x24.toInt 0 14) (h_x25 : zBd x25.toInt 0 200) (h_x26 : zBd x26.toInt 0 40) (h_x27 : zBd x27.toInt 0 40) (hr_a0_0 : (x21.toInt ≤ x20.toInt)) (hr_a0_1 : (x20.toInt + x22.toInt ≤ 200)) (hr_a0_2 : (x9.toInt = 0 ∨ 2 ≤ x8.toInt)) (hf_f0 : (∀ j, (-9999) ≤ (f0 j).toInt ∧ (f0 j).toInt ≤ 9999)) (hf_f2 : (∀ j, (-1100000) ≤ (f2 j).toInt ∧ (f2 j).toInt ≤ 1100000)) : Met l yX12_aheadOf (.code yX12_aheadOf cX12_aheadOf 9 (some .long) :: lw_gd) ({ frames := 2, cells := 0, slots := 0, locals := 49 }) (gPre D [(cB, .byte), (cC, .char), (cI, .int), (cJ, .long)] [.ref a0] (zS_63 cB cC cI cJ a0 a1 x0 x1 x2 x3 x4 x5 x6 x7 a2 a3 a4 a5 a6 a7 a8 a9 a10 a11 a12 a13 a14 a15 a16 x8 x9 x10 x11 x12 x13 a17 a18 a19 x14 a20 x15 a21 x16 x17 a22 a23 a24 a25 x18 a26 x19 a27 a28 a29 y0 a30 a31 a32 a33 a34 a35 a36 a37 a38 x20 x21 x22 y1 a39 x23 a40 a41 a42 a43 x24 x25 x26 x27 a18 f0 a29 f1 a28 f2 a41 f3 a40 f4) sz) (va_Ql (fun r u => ((((-9223372036854775808) ≤ r.toInt ∧ r.toInt ≤ 9223372036854775807) ∧ (0 ≤ x9.toInt ∧ x9.toInt ≤ 5)))) (gB D (va_A (zS_63 cB cC cI cJ a0 a1 x0 x1 x2 x3 x4 x5 x6 x7 a2 a3 a4 a5 a6 a7 a8 a9 a10 a11 a12 a13 a14 a15 a16 x8 x9 x10 x11 x12 x13 a17 a18 a19 x14 a20 x15 a21 x16 x17 a22 a23 a24 a25 x18 a26 x19 a27 a28 a29 y0 a30 a31 a32 a33 a34 a35 a36 a37 a38 x20 x21 x22 y1 a39 x23 a40 a41 a42 a43 x24 x25 x26 x27 a18 f0 a29 f1 a28 f2 a41 f3 a40 f4) sz) (fun u : gEx => (zS_63 cB cC cI cJ a0 a1 x0 x1 x2 x3 x4 x5 x6 x7 a2 a3 a4 a5 a6 a7 a8 a9 a10 a11 a12 a13 a14 a15 a16 x8 x9 x10 x11 x12 x13 a17 a18 a19 x14 a20 x15 a21 x16 x17 a22 a23 a24 a25 x18 a26 x19 a27 a28 a29 y0 a30 a31 a32 a33 a34 a35 a36 a37 a38 x20 x21 x22 y1 a39 x23 a40 a41 a42 a43 x24 x25 x26 x27 a18 f0 a29 (u.2.1 0) a28 f2 a41 (u.2.1 1) a40 (u.2.1 2)))) (va_A (zS_63 cB cC cI cJ a0 a1 x0 x1 x2 x3 x4 x5 x6 x7 a2 a3 a4 a5 a6 a7 a8 a9 a10 a11 a12 a13 a14 a15 a16 x8 x9 x10 x11 x12 x13 a17 a18 a19 x14 a20 x15 a21 x16 x17 a22 a23 a24 a25 x18 a26 x19 a27 a28 a29 y0 a30 a31 a32 a33 a34 a35 a36 a37 a38 x20 x21 x22 y1 a39 x23 a40 a41 a42 a43 x24 x25 x26 x27 a18 f0 a29 f1 a28 f2 a41 f3 a40 f4) sz)) 0 0 (va_A (zS_63 cB cC cI cJ a0 a1 x0 x1 x2 x3 x4 x5 x6 x7 a2 a3 a4 a5 a6 a7 a8 a9 a10 a11 a12 a13 a14 a15 a16 x8 x9 x10 x11 x12 x13 a17 a18 a19 x14 a20 x15 a21 x16 x17 a22 a23 a24 a25 x18 a26 x19 a27 a28 a29 y0 a30 a31 a32 a33 a34 a35 a36 a37 a38 x20 x21 x22 y1 a39 x23 a40 a41 a42 a43 x24 x25 x26 x27 a18 f0 a29 f1 a28 f2 a41 f3 a40 f4) sz) := by
  refine gOf_l (by decide +kernel) (Nat.le_of_ble_eq_true rfl) ?_
  intro p e s m args below meth c ls A Q hx hb hts hown hml hN hK hP hD hA hl hret
  replace hown : s.vm.findClass RX12 = some m.cls := hown
  have hS : va_S A s.heap s.heap [] := va_S.rf
  replace hP : va_P D gcl (zS_63 cB cC cI cJ a0 a1 x0 x1 x2 x3 x4 x5 x6 x7 a2 a3 a4 a5 a6 a7 a8 a9 a10 a11 a12 a13 a14 a15 a16 x8 x9 x10 x11 x12 x13 a17 a18 a19 x14 a20 x15 a21 x16 x17 a22 a23 a24 a25 x18 a26 x19 a27 a28 a29 y0 a30 a31 a32 a33 a34 a35 a36 a37 a38 x20 x21 x22 y1 a39 x23 a40 a41 a42 a43 x24 x25 x26 x27 a18 f0 a29 f1 a28 f2 a41 f3 a40 f4) s.heap := hP
  replace hl : lv_has ls 9 [(0, .ref a0)] := hl
  have rx6 : zBd x6.toInt (-2147483648) 2147483647 := n_rng x6
  have rx7 : zBd x7.toInt (-2147483648) 2147483647 := n_rng x7
  have rx13 : zBd x13.toInt (-2147483648) 2147483647 := n_rng x13
  have rx17 : zBd x17.toInt (-2147483648) 2147483647 := n_rng x17
  have ry0 := n_rngL y0
  have ry1 := n_rngL y1
  refine lv_iconst (pc := 0) (v := 0) hx hb dX12_aheadOf_0 (by decide) ?_
  refine lv_istore_n (pc := 1) (lv' := [(1, .int 0), (0, .ref a0)]) hx hb dX12_aheadOf_1 rfl hl (by decide) rfl (fun ls hl => ?_)
  have lp_4 : ∀ (n : Nat) (x_1 : Int32) (f_3 : Nat → Int32) (H : Heap) (locs : List Loc) (ls : Array Slot), (0 ≤ x_1.toInt ∧ x_1.toInt ≤ 2147483647) → (2147483647 - x_1.toInt).toNat < n → va_P D gcl (zS_63 cB cC cI cJ a0 a1 x0 x1 x2 x3 x4 x5 x6 x7 a2 a3 a4 a5 a6 a7 a8 a9 a10 a11 a12 a13 a14 a15 a16 x8 x9 x10 x11 x12 x13 a17 a18 a19 x14 a20 x15 a21 x16 x17 a22 a23 a24 a25 x18 a26 x19 a27 a28 a29 y0 a30 a31 a32 a33 a34 a35 a36 a37 a38 x20 x21 x22 y1 a39 x23 a40 a41 a42 a43 x24 x25 x26 x27 a18 f0 a29 f1 a28 f2 a41 f_3 a40 f4) H → va_D A (zS_63 cB cC cI cJ a0 a1 x0 x1 x2 x3 x4 x5 x6 x7 a2 a3 a4 a5 a6 a7 a8 a9 a10 a11 a12 a13 a14 a15 a16 x8 x9 x10 x11 x12 x13 a17 a18 a19 x14 a20 x15 a21 x16 x17 a22 a23 a24 a25 x18 a26 x19 a27 a28 a29 y0 a30 a31 a32 a33 a34 a35 a36 a37 a38 x20 x21 x22 y1 a39 x23 a40 a41 a42 a43 x24 x25 x26 x27 a18 f0 a29 f1 a28 f2 a41 f_3 a40 f4) → va_S A s.heap H locs → lv_has ls 9 [(1, .int x_1), (0, .ref a0)] → W p l e ({ frames := 2, cells := 0, slots := 0, locals := 49 }) s m args below meth c H locs 0 0 Q (F0 m 2 ls []) := by
    intro n
    induction n with
    | zero => intro x_1 f_3 H locs ls hi_2 hmu; exact absurd hmu (Nat.not_lt_zero _)
    | succ n ih_lp_4 =>
      intro x_1 f_3 H locs ls hi_2 hmu_lp_4 hP hD hS hl
      refine lv_iload_n (pc := 2) hx hb dX12_aheadOf_2 rfl (lv_at hl 0 rfl) ?_
      refine lv_aload_n (pc := 3) hx hb dX12_aheadOf_3 rfl (lv_at hl 1 rfl) ?_
      refine va_get (pc := 4) (ci := 12) (v := .int x9) (C := RX12) (T := TX12) (N := 73) hx hb hts iX12 hown hK hP 0 rfl rfl 25 (by decide) (hts _ tw_1426) (fun _ h9 => h9) rfl dX12_aheadOf_4 ?_
      have bd_h_x9 : 0 ≤ x9.toInt ∧ x9.toInt ≤ 5 := h_x9
      refine b_icmp_ge (pc := 7) (tgt := 28) hx hb rfl rfl  dX12_aheadOf_7 (by decide) (fun c_5 => ?_) (fun c_5 => ?_)
      ·
        as_aux_lemma =>
          refine lv_iconst (pc := 28) (v := 1) hx hb dX12_aheadOf_28 (by decide) ?_
          refine lv_istore_n (pc := 29) (lv' := [(1, .int 1), (0, .ref a0)]) hx hb dX12_aheadOf_29 rfl hl (by decide) rfl (fun ls hl => ?_)
          refine lv_iconst (pc := 30) (v := 0) hx hb dX12_aheadOf_30 (by decide) ?_
          refine lv_istore_n (pc := 31) (lv' := [(2, .int 0), (1, .int 1), (0, .ref a0)]) hx hb dX12_aheadOf_31 rfl hl (by decide) rfl (fun ls hl => ?_)
          have lp_10 : ∀ (n : Nat) (x_6 x_8 : Int32) (H : Heap) (locs : List Loc) (ls : Array Slot), (0 ≤ x_6.toInt ∧ x_6.toInt ≤ 2147483647) → (2147483647 - x_6.toInt).toNat < n → va_P D gcl (zS_63 cB cC cI cJ a0 a1 x0 x1 x2 x3 x4 x5 x6 x7 a2 a3 a4 a5 a6 a7 a8 a9 a10 a11 a12 a13 a14 a15 a16 x8 x9 x10 x11 x12 x13 a17 a18 a19 x14 a20 x15 a21 x16 x17 a22 a23 a24 a25 x18 a26 x19 a27 a28 a29 y0 a30 a31 a32 a33 a34 a35 a36 a37 a38 x20 x21 x22 y1 a39 x23 a40 a41 a42 a43 x24 x25 x26 x27 a18 f0 a29 f1 a28 f2 a41 f_3 a40 f4) H → va_D A (zS_63 cB cC cI cJ a0 a1 x0 x1 x2 x3 x4 x5 x6 x7 a2 a3 a4 a5 a6 a7 a8 a9 a10 a11 a12 a13 a14 a15 a16 x8 x9 x10 x11 x12 x13 a17 a18 a19 x14 a20 x15 a21 x16 x17 a22 a23 a24 a25 x18 a26 x19 a27 a28 a29 y0 a30 a31 a32 a33 a34 a35 a36 a37 a38 x20 x21 x22 y1 a39 x23 a40 a41 a42 a43 x24 x25 x26 x27 a18 f0 a29 f1 a28 f2 a41 f_3 a40 f4) → va_S A s.heap H locs → lv_has ls 9 [(2, .int x_6), (1, .int x_8), (0, .ref a0)] → W p l e ({ frames := 2, cells := 0, slots := 0, locals := 49 }) s m args below meth c H locs 0 0 Q (F0 m 32 ls []) := by
            intro n
            induction n with
            | zero => intro x_6 x_8 H locs ls hi_7 hmu; exact absurd hmu (Nat.not_lt_zero _)
            | succ n ih_lp_10 =>
              intro x_6 x_8 H locs ls hi_7 hmu_lp_10 hP hD hS hl
              have hi_9 := n_rng x_8
              refine lv_iload_n (pc := 32) hx hb dX12_aheadOf_32 rfl (lv_at hl 0 rfl) ?_
              refine lv_aload_n (pc := 33) hx hb dX12_aheadOf_33 rfl (lv_at hl 2 rfl) ?_
              refine va_get (pc := 34) (ci := 12) (v := .int x9) (C := RX12) (T := TX12) (N := 73) hx hb hts iX12 hown hK hP 0 rfl rfl 25 (by decide) (hts _ tw_1426) (fun _ h9 => h9) rfl dX12_aheadOf_34 ?_
              refine b_icmp_ge (pc := 37) (tgt := 50) hx hb rfl rfl  dX12_aheadOf_37 (by decide) (fun c_11 => ?_) (fun c_11 => ?_)
              ·
                as_aux_lemma =>
                  refine lv_ldc2 (pc := 50) hx hb hown (hts _ tw_1838) dX12_aheadOf_50 ?_
                  refine lv_lstore_n (pc := 53) (lv' := [(2, .long (-1)), (1, .int x_8), (0, .ref a0)]) hx hb dX12_aheadOf_53 rfl hl (by decide) rfl (fun ls hl => ?_)
                  refine lv_iconst (pc := 54) (v := 0) hx hb dX12_aheadOf_54 (by decide) ?_
                  refine lv_istore (pc := 55) (lv' := [(4, .int 0), (2, .long (-1)), (1, .int x_8), (0, .ref a0)]) hx hb dX12_aheadOf_55 hl (by decide) rfl (fun ls hl => ?_)
                  have lp_18 : ∀ (n : Nat) (x_12 : Int32) (y_14 : Int64) (f_16 f_17 : Nat → Int32) (H : Heap) (locs : List Loc) (ls : Array Slot), (0 ≤ x_12.toInt ∧ x_12.toInt ≤ 2147483647) → (2147483647 - x_12.toInt).toNat < n → va_P D gcl (zS_63 cB cC cI cJ a0 a1 x0 x1 x2 x3 x4 x5 x6 x7 a2 a3 a4 a5 a6 a7 a8 a9 a10 a11 a12 a13 a14 a15 a16 x8 x9 x10 x11 x12 x13 a17 a18 a19 x14 a20 x15 a21 x16 x17 a22 a23 a24 a25 x18 a26 x19 a27 a28 a29 y0 a30 a31 a32 a33 a34 a35 a36 a37 a38 x20 x21 x22 y1 a39 x23 a40 a41 a42 a43 x24 x25 x26 x27 a18 f0 a29 f_16 a28 f2 a41 f_3 a40 f_17) H → va_D A (zS_63 cB cC cI cJ a0 a1 x0 x1 x2 x3 x4 x5 x6 x7 a2 a3 a4 a5 a6 a7 a8 a9 a10 a11 a12 a13 a14 a15 a16 x8 x9 x10 x11 x12 x13 a17 a18 a19 x14 a20 x15 a21 x16 x17 a22 a23 a24 a25 x18 a26 x19 a27 a28 a29 y0 a30 a31 a32 a33 a34 a35 a36 a37 a38 x20 x21 x22 y1 a39 x23 a40 a41 a42 a43 x24 x25 x26 x27 a18 f0 a29 f_16 a28 f2 a41 f_3 a40 f_17) → va_S A s.heap H locs → lv_has ls 9 [(4, .int x_12), (2, .long y_14), (1, .int x_8), (0, .ref a0)] → W p l e ({ frames := 2, cells := 0, slots := 0, locals := 49 }) s m args below meth c H locs 0 0 Q (F0 m 57 ls []) := by
                    intro n
                    induction n with
                    | zero => intro x_12 y_14 f_16 f_17 H locs ls hi_13 hmu; exact absurd hmu (Nat.not_lt_zero _)
                    | succ n ih_lp_18 =>
                      intro x_12 y_14 f_16 f_17 H locs ls hi_13 hmu_lp_18 hP hD hS hl
                      have hi_15 := n_rngL y_14
                      refine lv_iload (pc := 57) hx hb dX12_aheadOf_57 (lv_at hl 0 rfl) ?_
                      refine lv_iload_n (pc := 59) hx hb dX12_aheadOf_59 rfl (lv_at hl 2 rfl) ?_
                      refine b_icmp_ge (pc := 60) (tgt := 199) hx hb rfl rfl  dX12_aheadOf_60 (by decide) (fun c_19 => ?_) (fun c_19 => ?_)
                      ·
                        as_aux_lemma =>
                          refine lv_lload_n (pc := 199) hx hb dX12_aheadOf_199 rfl (lv_at hl 1 rfl) ?_
                          have hP9 : va_P D gcl (zS_63 cB cC cI cJ a0 a1 x0 x1 x2 x3 x4 x5 x6 x7 a2 a3 a4 a5 a6 a7 a8 a9 a10 a11 a12 a13 a14 a15 a16 x8 x9 x10 x11 x12 x13 a17 a18 a19 x14 a20 x15 a21 x16 x17 a22 a23 a24 a25 x18 a26 x19 a27 a28 a29 y0 a30 a31 a32 a33 a34 a35 a36 a37 a38 x20 x21 x22 y1 a39 x23 a40 a41 a42 a43 x24 x25 x26 x27 a18 f0 a29 f_16 a28 f2 a41 f_3 a40 f_17) H := g_psub hP [0, 1, 2, 3, 4, 5] rfl
                          have hD9 : va_D A (zS_63 cB cC cI cJ a0 a1 x0 x1 x2 x3 x4 x5 x6 x7 a2 a3 a4 a5 a6 a7 a8 a9 a10 a11 a12 a13 a14 a15 a16 x8 x9 x10 x11 x12 x13 a17 a18 a19 x14 a20 x15 a21 x16 x17 a22 a23 a24 a25 x18 a26 x19 a27 a28 a29 y0 a30 a31 a32 a33 a34 a35 a36 a37 a38 x20 x21 x22 y1 a39 x23 a40 a41 a42 a43 x24 x25 x26 x27 a18 f0 a29 f_16 a28 f2 a41 f_3 a40 f_17) := hD.sub [0, 1, 2, 3, 4, 5] (by decide) rfl
                          exact hret y_14 ((fun _ => 0), (fun k => [f_16, f_3, f_17].getD k (fun _ => 0)), (fun _ => (fun _ => 0)), (fun _ => 0), (fun _ => 0)) dX12_aheadOf_200 (show ((((-9223372036854775808) ≤ y_14.toInt ∧ y_14.toInt ≤ 9223372036854775807) ∧ (0 ≤ x9.toInt ∧ x9.toInt ≤ 5))) from (by first | exact (om_1823 hi_15.1 hi_15.2 h_x9.1 h_x9.2) | ((first | omega | (unfold zBd at *; omega))))) hP9 hD9 hS
                      ·
                        as_aux_lemma =>
                          refine lv_iload (pc := 63) hx hb dX12_aheadOf_63 (lv_at hl 0 rfl) ?_
                          refine lv_istore (pc := 65) (lv' := [(5, .int x_12), (4, .int x_12), (2, .long y_14), (1, .int x_8), (0, .ref a0)]) hx hb dX12_aheadOf_65 hl (by decide) rfl (fun ls hl => ?_)
                          refine lv_aload_n (pc := 67) hx hb dX12_aheadOf_67 rfl (lv_at hl 4 rfl) ?_
                          refine va_get (pc := 68) (ci := 12) (v := .int x9) (C := RX12) (T := TX12) (N := 73) hx hb hts iX12 hown hK hP 0 rfl rfl 25 (by decide) (hts _ tw_1426) (fun _ h9 => h9) rfl dX12_aheadOf_68 ?_
                          refine lv_iconst (pc := 71) (v := 1) hx hb dX12_aheadOf_71 (by decide) ?_
                          refine b_isub (pc := 72) hx hb rfl tI_1 (by first | exact (om_659 h_x9.1) | ((first | omega | (unfold zBd at *; omega)))) (by first | exact (om_207 h_x9.2) | ((first | omega | (unfold zBd at *; omega)))) dX12_aheadOf_72 (fun x_20 ex_20 => ?_)
                          refine lv_istore (pc := 73) (lv' := [(6, .int x_20), (5, .int x_12), (4, .int x_12), (2, .long y_14), (1, .int x_8), (0, .ref a0)]) hx hb dX12_aheadOf_73 hl (by decide) rfl (fun ls hl => ?_)
                          have lp_26 : ∀ (n : Nat) (x_21 x_23 : Int32) (f_25 : Nat → Int32) (H : Heap) (locs : List Loc) (ls : Array Slot), ((-2147483648) ≤ x_21.toInt ∧ x_21.toInt ≤ 4) → (x_21.toInt + 2147483648).toNat < n → va_P D gcl (zS_63 cB cC cI cJ a0 a1 x0 x1 x2 x3 x4 x5 x6 x7 a2 a3 a4 a5 a6 a7 a8 a9 a10 a11 a12 a13 a14 a15 a16 x8 x9 x10 x11 x12 x13 a17 a18 a19 x14 a20 x15 a21 x16 x17 a22 a23 a24 a25 x18 a26 x19 a27 a28 a29 y0 a30 a31 a32 a33 a34 a35 a36 a37 a38 x20 x21 x22 y1 a39 x23 a40 a41 a42 a43 x24 x25 x26 x27 a18 f0 a29 f_25 a28 f2 a41 f_3 a40 f_17) H → va_D A (zS_63 cB cC cI cJ a0 a1 x0 x1 x2 x3 x4 x5 x6 x7 a2 a3 a4 a5 a6 a7 a8 a9 a10 a11 a12 a13 a14 a15 a16 x8 x9 x10 x11 x12 x13 a17 a18 a19 x14 a20 x15 a21 x16 x17 a22 a23 a24 a25 x18 a26 x19 a27 a28 a29 y0 a30 a31 a32 a33 a34 a35 a36 a37 a38 x20 x21 x22 y1 a39 x23 a40 a41 a42 a43 x24 x25 x26 x27 a18 f0 a29 f_25 a28 f2 a41 f_3 a40 f_17) → va_S A s.heap H locs → lv_has ls 9 [(6, .int x_21), (5, .int x_23), (4, .int x_12), (2, .long y_14), (1, .int x_8), (0, .ref a0)] → W p l e ({ frames := 2, cells := 0, slots := 0, locals := 49 }) s m args below meth c H locs 0 0 Q (F0 m 75 ls []) := by
                            intro n
                            induction n with
                            | zero => intro x_21 x_23 f_25 H locs ls hi_22 hmu; exact absurd hmu (Nat.not_lt_zero _)
                            | succ n ih_lp_26 =>
                              intro x_21 x_23 f_25 H locs ls hi_22 hmu_lp_26 hP hD hS hl
                              have hi_24 := n_rng x_23
                              refine lv_iload (pc := 75) hx hb dX12_aheadOf_75 (lv_at hl 0 rfl) ?_
                              refine b_if_lt (pc := 77) (tgt := 120) hx hb rfl  dX12_aheadOf_77 (by decide) (fun c_27 => ?_) (fun c_27 => ?_)
                              ·
                                as_aux_lemma =>
                                  refine lv_aload_n (pc := 120) hx hb dX12_aheadOf_120 rfl (lv_at hl 5 rfl) ?_
                                  refine lv_iconst (pc := 121) (v := 0) hx hb dX12_aheadOf_121 (by decide) ?_
                                  refine gd_l (pc := 122) (wc := (zS_124 cB cC cI cJ a0 a1 x0 x1 x2 x3 x4 x5 x6 x7 a2 a3 a4 a5 a6 a7 a8 a9 a10 a11 a12 a13 a14 a15 a16 x8 x9 x10 x11 x12 x13 a17 a18 a19 x14 a20 x15 a21 x16 x17 a22 a23 a24 a25 x18 a26 x19 a27 a28 a29 y0 a30 a31 a32 a33 a34 a35 a36 a37 a38 x20 x21 x22 y1 a39 x23 a40 a41 a42 a43 x24 x25 x26 x27 a18 f0 a29 f_25 a28 f2)) hP hD hS hA [0, 1, 2, 3] rfl (by decide +kernel) (fun _ => by rfl) (fun hPc hDc => va_runV (As := [.int 0]) (rest := []) ⟨hx, hb, hml, hown, hts⟩ (k_X12_squaresLess l D cB cC cI cJ _ a0 a1 a2 a3 a4 a5 a6 a7 a8 a9 a10 a11 a12 a13 a14 a15 a16 a17 a18 a19 a20 a21 a22 a23 a24 a25 a26 a27 a28 a29 a30 a31 a32 a33 a34 a35 a36 a37 a38 a39 a40 a41 a42 a43 0 x0 x1 x2 x3 x4 x5 x6 x7 x8 x9 x10 x11 x12 x13 x14 x15 x16 x17 x18 x19 x20 x21 x22 x23 x24 x25 x26 x27 y0 y1 f0 f_25 f2 (n_c tI_0 (by decide)) h_x0 h_x1 h_x2 h_x3 h_x4 h_x5 h_x8 h_x9 h_x10 h_x11 h_x12 h_x14 h_x15 h_x16 h_x18 h_x19 h_x20 h_x21 h_x22 h_x23 h_x24 h_x25 h_x26 h_x27 hr_a0_0 hr_a0_1 hr_a0_2 hf_f0 hf_f2) ⟨gcwB hts tw_1837 tw_14 tw_1834 hd_yX12_squaresLess ⟨Nat.le_of_ble_eq_true rfl, Nat.le_of_ble_eq_true rfl⟩, hts _ tw_1836, hts _ tp_96⟩ ⟨gblind, va_recv hK hPc (ci := 12) (q0 := 0) rfl rfl, (gpreS hPc hK hDc hN).2⟩ rfl rfl hl.1 rfl (lv_room (Nat.le_of_ble_eq_true rfl)) dX12_aheadOf_122 ⟨Nat.le_of_ble_eq_true rfl, Nat.le_of_ble_eq_true rfl⟩) (fun r_29 u_28 H locs hw_30 hP hD hS => ?_)
                                  replace hP : va_P D gcl (zS_63 cB cC cI cJ a0 a1 x0 x1 x2 x3 x4 x5 x6 x7 a2 a3 a4 a5 a6 a7 a8 a9 a10 a11 a12 a13 a14 a15 a16 x8 x9 x10 x11 x12 x13 a17 a18 a19 x14 a20 x15 a21 x16 x17 a22 a23 a24 a25 x18 a26 x19 a27 a28 a29 y0 a30 a31 a32 a33 a34 a35 a36 a37 a38 x20 x21 x22 y1 a39 x23 a40 a41 a42 a43 x24 x25 x26 x27 a18 f0 a29 f_25 a28 f2 a41 f_3 a40 f_17) H := hP
                                  replace hD : va_D A (zS_63 cB cC cI cJ a0 a1 x0 x1 x2 x3 x4 x5 x6 x7 a2 a3 a4 a5 a6 a7 a8 a9 a10 a11 a12 a13 a14 a15 a16 x8 x9 x10 x11 x12 x13 a17 a18 a19 x14 a20 x15 a21 x16 x17 a22 a23 a24 a25 x18 a26 x19 a27 a28 a29 y0 a30 a31 a32 a33 a34 a35 a36 a37 a38 x20 x21 x22 y1 a39 x23 a40 a41 a42 a43 x24 x25 x26 x27 a18 f0 a29 f_25 a28 f2 a41 f_3 a40 f_17) := hD
                                  have hw_31 : ((((-9223372036854775808) ≤ r_29.toInt ∧ r_29.toInt ≤ 9223372036854775807) ∧ (0 ≤ x10.toInt ∧ x10.toInt ≤ 6))) := hw_30
                                  have kk0_r_29 := tI_0
                                  have rr_29 := n_rngL r_29
                                  refine lv_lstore (pc := 125) (lv' := [(6, .long r_29), (5, .int x_23), (4, .int x_12), (2, .long y_14), (1, .int x_8), (0, .ref a0)]) hx hb dX12_aheadOf_125 hl (by decide) rfl (fun ls hl => ?_)
                                  refine lv_lload_n (pc := 127) hx hb dX12_aheadOf_127 rfl (lv_at hl 3 rfl) ?_
                                  refine lv_lconst (pc := 128) (v := 0) hx hb dX12_aheadOf_128 (by decide) ?_
                                  refine b_lcmp_lt (pc := 129) (tgt := 143) hx hb rfl tL_0 dX12_aheadOf_129 dX12_aheadOf_130 (by decide) (fun c_32 => ?_) (fun c_32 => ?_)
                                  ·
                                    as_aux_lemma =>
                                      refine lv_lload (pc := 143) hx hb dX12_aheadOf_143 (lv_at hl 0 rfl) ?_
                                      refine lv_lstore_n (pc := 145) (lv' := [(2, .long r_29), (6, .long r_29), (5, .int x_23), (4, .int x_12), (1, .int x_8), (0, .ref a0)]) hx hb dX12_aheadOf_145 rfl hl (by decide) rfl (fun ls hl => ?_)
                                      refine lv_iconst (pc := 146) (v := 0) hx hb dX12_aheadOf_146 (by decide) ?_
                                      refine lv_istore (pc := 147) (lv' := [(8, .int 0), (2, .long r_29), (6, .long r_29), (5, .int x_23), (4, .int x_12), (1, .int x_8), (0, .ref a0)]) hx hb dX12_aheadOf_147 hl (by decide) rfl (fun ls hl => ?_)
                                      have lp_36 : ∀ (n : Nat) (x_33 : Int32) (f_35 : Nat → Int32) (H : Heap) (locs : List Loc) (ls : Array Slot), (0 ≤ x_33.toInt ∧ x_33.toInt ≤ 2147483647) → (2147483647 - x_33.toInt).toNat < n → va_P D gcl (zS_63 cB cC cI cJ a0 a1 x0 x1 x2 x3 x4 x5 x6 x7 a2 a3 a4 a5 a6 a7 a8 a9 a10 a11 a12 a13 a14 a15 a16 x8 x9 x10 x11 x12 x13 a17 a18 a19 x14 a20 x15 a21 x16 x17 a22 a23 a24 a25 x18 a26 x19 a27 a28 a29 y0 a30 a31 a32 a33 a34 a35 a36 a37 a38 x20 x21 x22 y1 a39 x23 a40 a41 a42 a43 x24 x25 x26 x27 a18 f0 a29 f_25 a28 f2 a41 f_3 a40 f_35) H → va_D A (zS_63 cB cC cI cJ a0 a1 x0 x1 x2 x3 x4 x5 x6 x7 a2 a3 a4 a5 a6 a7 a8 a9 a10 a11 a12 a13 a14 a15 a16 x8 x9 x10 x11 x12 x13 a17 a18 a19 x14 a20 x15 a21 x16 x17 a22 a23 a24 a25 x18 a26 x19 a27 a28 a29 y0 a30 a31 a32 a33 a34 a35 a36 a37 a38 x20 x21 x22 y1 a39 x23 a40 a41 a42 a43 x24 x25 x26 x27 a18 f0 a29 f_25 a28 f2 a41 f_3 a40 f_35) → va_S A s.heap H locs → lv_has ls 9 [(8, .int x_33), (2, .long r_29), (6, .long r_29), (5, .int x_23), (4, .int x_12), (1, .int x_8), (0, .ref a0)] → W p l e ({ frames := 2, cells := 0, slots := 0, locals := 49 }) s m args below meth c H locs 0 0 Q (F0 m 149 ls []) := by
                                        intro n
                                        induction n with
                                        | zero => intro x_33 f_35 H locs ls hi_34 hmu; exact absurd hmu (Nat.not_lt_zero _)
                                        | succ n ih_lp_36 =>
                                          intro x_33 f_35 H locs ls hi_34 hmu_lp_36 hP hD hS hl
                                          refine lv_iload (pc := 149) hx hb dX12_aheadOf_149 (lv_at hl 0 rfl) ?_
                                          refine lv_aload_n (pc := 151) hx hb dX12_aheadOf_151 rfl (lv_at hl 6 rfl) ?_
                                          refine va_get (pc := 152) (ci := 12) (v := .int x9) (C := RX12) (T := TX12) (N := 73) hx hb hts iX12 hown hK hP 0 rfl rfl 25 (by decide) (hts _ tw_1426) (fun _ h9 => h9) rfl dX12_aheadOf_152 ?_
                                          refine b_icmp_ge (pc := 155) (tgt := 193) hx hb rfl rfl  dX12_aheadOf_155 (by decide) (fun c_37 => ?_) (fun c_37 => ?_)
                                          ·
                                            as_aux_lemma =>
                                              refine b_iinc (pc := 193) hx hb dX12_aheadOf_193 hl (k := 4) rfl rfl tI_1 (by first | exact (om_2 hi_13.1) | ((first | omega | (unfold zBd at *; omega)))) (by first | exact (om_1087 c_19 hi_9.2) | ((first | omega | (unfold zBd at *; omega)))) (by decide) (fun x_38 ex_38 ls hl => ?_)
                                              replace hl : lv_has ls 9 [(4, .int x_38), (8, .int x_33), (2, .long r_29), (6, .long r_29), (5, .int x_23), (1, .int x_8), (0, .ref a0)] := hl
                                              refine lv_goto (pc := 196) (tgt := 57) hx hb dX12_aheadOf_196 (by decide) ?_
                                              exact ih_lp_18 x_38 r_29 f_25 f_35 _ _ ls (by first | exact (om_1088 ex_38 hi_13.1 c_19 hi_9.2) | ((first | omega | (unfold zBd at *; omega)))) (by (first | omega | (unfold zBd at *; omega))) hP hD hS (lv_sub hl [0, 2, 5, 6] rfl)
                                          ·
                                            as_aux_lemma =>
                                              refine lv_aload_n (pc := 158) hx hb dX12_aheadOf_158 rfl (lv_at hl 6 rfl) ?_
                                              refine va_get (pc := 159) (ci := 12) (v := .ref a40) (C := RX12) (T := TX12) (N := 73) hx hb hts iX12 hown hK hP 0 rfl rfl 65 (by decide) (hts _ tw_1466) (fun _ h9 => h9) rfl dX12_aheadOf_159 ?_
                                              refine lv_iload (pc := 162) hx hb dX12_aheadOf_162 (lv_at hl 0 rfl) ?_
                                              refine lv_aload_n (pc := 164) hx hb dX12_aheadOf_164 rfl (lv_at hl 6 rfl) ?_
                                              refine va_get (pc := 165) (ci := 12) (v := .ref a29) (C := RX12) (T := TX12) (N := 73) hx hb hts iX12 hown hK hP 0 rfl rfl 48 (by decide) (hts _ tw_1449) (fun _ h9 => h9) rfl dX12_aheadOf_165 ?_
                                              refine lv_iload (pc := 168) hx hb dX12_aheadOf_168 (lv_at hl 0 rfl) ?_
                                              refine va_iald (pc := 170) hx hb hK hP 2 2 rfl rfl (n_in rfl (by first | exact (om_0 hi_34.1) | ((first | omega | (unfold zBd at *; omega)))) (by first | exact (om_1020 c_37 h_x9.2) | ((first | omega | (unfold zBd at *; omega))))) dX12_aheadOf_170 ?_
                                              refine lv_topi (fun x_39 ex_39 => ?_)
                                              have rx_39 : zBd x_39.toInt (-2147483648) 2147483647 := n_rng x_39
                                              refine lv_aload_n (pc := 171) hx hb dX12_aheadOf_171 rfl (lv_at hl 6 rfl) ?_
                                              refine va_get (pc := 172) (ci := 12) (v := .ref a41) (C := RX12) (T := TX12) (N := 73) hx hb hts iX12 hown hK hP 0 rfl rfl 66 (by decide) (hts _ tw_1467) (fun _ h9 => h9) rfl dX12_aheadOf_172 ?_
                                              as_aux_lemma =>
                                                refine lv_iload (pc := 175) hx hb dX12_aheadOf_175 (lv_at hl 0 rfl) ?_
                                                refine va_iald (pc := 177) hx hb hK hP 4 2 rfl rfl (n_in rfl (by first | exact (om_0 hi_34.1) | ((first | omega | (unfold zBd at *; omega)))) (by first | exact (om_1020 c_37 h_x9.2) | ((first | omega | (unfold zBd at *; omega))))) dX12_aheadOf_177 ?_
                                                refine lv_topi (fun x_40 ex_40 => ?_)
                                                have rx_40 : zBd x_40.toInt (-2147483648) 2147483647 := n_rng x_40
                                                refine lv_isub (pc := 178) hx hb dX12_aheadOf_178 ?_
                                                refine lv_topi (fun x_41 _ => ?_)
                                                have rx_41 : zBd x_41.toInt (-2147483648) 2147483647 := n_rng x_41
                                                refine lv_iconst (pc := 179) (v := 2) hx hb dX12_aheadOf_179 (by decide) ?_
                                                refine lv_aload_n (pc := 180) hx hb dX12_aheadOf_180 rfl (lv_at hl 6 rfl) ?_
                                                refine va_get (pc := 181) (ci := 12) (v := .int x8) (C := RX12) (T := TX12) (N := 73) hx hb hts iX12 hown hK hP 0 rfl rfl 24 (by decide) (hts _ tw_1425) (fun _ h9 => h9) rfl dX12_aheadOf_181 ?_
                                                have bd_h_x8 : 0 ≤ x8.toInt ∧ x8.toInt ≤ 8 := h_x8
                                                refine b_imul (pc := 184) hx hb tI_2 rfl (by first | exact (om_1336 h_x8.1) | ((first | omega | (unfold zBd at *; omega)))) (by first | exact (om_1278 h_x8.2) | ((first | omega | (unfold zBd at *; omega)))) dX12_aheadOf_184 (fun x_42 ex_42 => ?_)
                                                refine lv_idiv (pc := 185) hx hb dX12_aheadOf_185 (fun h => by have q := congrArg Int32.toInt h; have k := tI_0; (first | omega | (unfold zBd at *; omega))) ?_
                                                as_aux_lemma =>
                                                  refine lv_topi (fun x_43 _ => ?_)
                                                  have rx_43 : zBd x_43.toInt (-2147483648) 2147483647 := n_rng x_43
                                                  refine g_iastore (pc := 186) hx hb hK hP hD hS 5 2 rfl rfl (n_in rfl (by first | exact (om_0 hi_34.1) | ((first | omega | (unfold zBd at *; omega)))) (by first | exact (om_1020 c_37 h_x9.2) | ((first | omega | (unfold zBd at *; omega))))) dX12_aheadOf_186 (fun f_44 H locs hP hD hS => ?_)
                                                  replace hP : va_P D gcl (zS_63 cB cC cI cJ a0 a1 x0 x1 x2 x3 x4 x5 x6 x7 a2 a3 a4 a5 a6 a7 a8 a9 a10 a11 a12 a13 a14 a15 a16 x8 x9 x10 x11 x12 x13 a17 a18 a19 x14 a20 x15 a21 x16 x17 a22 a23 a24 a25 x18 a26 x19 a27 a28 a29 y0 a30 a31 a32 a33 a34 a35 a36 a37 a38 x20 x21 x22 y1 a39 x23 a40 a41 a42 a43 x24 x25 x26 x27 a18 f0 a29 f_25 a28 f2 a41 f_3 a40 f_44) H := hP
                                                  replace hD : va_D A (zS_63 cB cC cI cJ a0 a1 x0 x1 x2 x3 x4 x5 x6 x7 a2 a3 a4 a5 a6 a7 a8 a9 a10 a11 a12 a13 a14 a15 a16 x8 x9 x10 x11 x12 x13 a17 a18 a19 x14 a20 x15 a21 x16 x17 a22 a23 a24 a25 x18 a26 x19 a27 a28 a29 y0 a30 a31 a32 a33 a34 a35 a36 a37 a38 x20 x21 x22 y1 a39 x23 a40 a41 a42 a43 x24 x25 x26 x27 a18 f0 a29 f_25 a28 f2 a41 f_3 a40 f_44) := hD
                                                  refine b_iinc (pc := 187) hx hb dX12_aheadOf_187 hl (k := 0) rfl rfl tI_1 (by first | exact (om_2 hi_34.1) | ((first | omega | (unfold zBd at *; omega)))) (by first | exact (om_338 c_37 h_x9.2) | ((first | omega | (unfold zBd at *; omega)))) (by decide) (fun x_45 ex_45 ls hl => ?_)
                                                  replace hl : lv_has ls 9 [(8, .int x_45), (2, .long r_29), (6, .long r_29), (5, .int x_23), (4, .int x_12), (1, .int x_8), (0, .ref a0)] := hl
                                                  refine lv_goto (pc := 190) (tgt := 149) hx hb dX12_aheadOf_190 (by decide) ?_
                                                  exact ih_lp_36 x_45 f_44 _ _ ls (by first | exact (om_339 ex_45 hi_34.1 c_37 h_x9.2) | ((first | omega | (unfold zBd at *; omega)))) (by (first | omega | (unfold zBd at *; omega))) hP hD hS (lv_sub hl [0, 1, 2, 3, 4, 5, 6] rfl)
                                      exact lp_36 _ 0 f_17 _ _ ls (n_c tI_0 (by decide)) (Nat.lt_succ_self _) hP hD hS (lv_sub hl [0, 1, 2, 3, 4, 5, 6] rfl)
                                  ·
                                    as_aux_lemma =>
                                      refine lv_lload (pc := 133) hx hb dX12_aheadOf_133 (lv_at hl 0 rfl) ?_
                                      refine lv_lload_n (pc := 135) hx hb dX12_aheadOf_135 rfl (lv_at hl 3 rfl) ?_
                                      refine b_lcmp_lt (pc := 136) (tgt := 143) hx hb rfl rfl dX12_aheadOf_136 dX12_aheadOf_137 (by decide) (fun c_46 => ?_) (fun c_46 => ?_)
                                      ·
                                        as_aux_lemma =>
                                          refine lv_lload (pc := 143) hx hb dX12_aheadOf_143 (lv_at hl 0 rfl) ?_
                                          refine lv_lstore_n (pc := 145) (lv' := [(2, .long r_29), (6, .long r_29), (5, .int x_23), (4, .int x_12), (1, .int x_8), (0, .ref a0)]) hx hb dX12_aheadOf_145 rfl hl (by decide) rfl (fun ls hl => ?_)
                                          refine lv_iconst (pc := 146) (v := 0) hx hb dX12_aheadOf_146 (by decide) ?_
                                          refine lv_istore (pc := 147) (lv' := [(8, .int 0), (2, .long r_29), (6, .long r_29), (5, .int x_23), (4, .int x_12), (1, .int x_8), (0, .ref a0)]) hx hb dX12_aheadOf_147 hl (by decide) rfl (fun ls hl => ?_)
                                          have lp_50 : ∀ (n : Nat) (x_47 : Int32) (f_49 : Nat → Int32) (H : Heap) (locs : List Loc) (ls : Array Slot), (0 ≤ x_47.toInt ∧ x_47.toInt ≤ 2147483647) → (2147483647 - x_47.toInt).toNat < n → va_P D gcl (zS_63 cB cC cI cJ a0 a1 x0 x1 x2 x3 x4 x5 x6 x7 a2 a3 a4 a5 a6 a7 a8 a9 a10 a11 a12 a13 a14 a15 a16 x8 x9 x10 x11 x12 x13 a17 a18 a19 x14 a20 x15 a21 x16 x17 a22 a23 a24 a25 x18 a26 x19 a27 a28 a29 y0 a30 a31 a32 a33 a34 a35 a36 a37 a38 x20 x21 x22 y1 a39 x23 a40 a41 a42 a43 x24 x25 x26 x27 a18 f0 a29 f_25 a28 f2 a41 f_3 a40 f_49) H → va_D A (zS_63 cB cC cI cJ a0 a1 x0 x1 x2 x3 x4 x5 x6 x7 a2 a3 a4 a5 a6 a7 a8 a9 a10 a11 a12 a13 a14 a15 a16 x8 x9 x10 x11 x12 x13 a17 a18 a19 x14 a20 x15 a21 x16 x17 a22 a23 a24 a25 x18 a26 x19 a27 a28 a29 y0 a30 a31 a32 a33 a34 a35 a36 a37 a38 x20 x21 x22 y1 a39 x23 a40 a41 a42 a43 x24 x25 x26 x27 a18 f0 a29 f_25 a28 f2 a41 f_3 a40 f_49) → va_S A s.heap H locs → lv_has ls 9 [(8, .int x_47), (2, .long r_29), (6, .long r_29), (5, .int x_23), (4, .int x_12), (1, .int x_8), (0, .ref a0)] → W p l e ({ frames := 2, cells := 0, slots := 0, locals := 49 }) s m args below meth c H locs 0 0 Q (F0 m 149 ls []) := by
                                            intro n
                                            induction n with
                                            | zero => intro x_47 f_49 H locs ls hi_48 hmu; exact absurd hmu (Nat.not_lt_zero _)
                                            | succ n ih_lp_50 =>
                                              intro x_47 f_49 H locs ls hi_48 hmu_lp_50 hP hD hS hl
                                              refine lv_iload (pc := 149) hx hb dX12_aheadOf_149 (lv_at hl 0 rfl) ?_
                                              refine lv_aload_n (pc := 151) hx hb dX12_aheadOf_151 rfl (lv_at hl 6 rfl) ?_
                                              refine va_get (pc := 152) (ci := 12) (v := .int x9) (C := RX12) (T := TX12) (N := 73) hx hb hts iX12 hown hK hP 0 rfl rfl 25 (by decide) (hts _ tw_1426) (fun _ h9 => h9) rfl dX12_aheadOf_152 ?_
                                              refine b_icmp_ge (pc := 155) (tgt := 193) hx hb rfl rfl  dX12_aheadOf_155 (by decide) (fun c_51 => ?_) (fun c_51 => ?_)
                                              ·
                                                as_aux_lemma =>
                                                  refine b_iinc (pc := 193) hx hb dX12_aheadOf_193 hl (k := 4) rfl rfl tI_1 (by first | exact (om_2 hi_13.1) | ((first | omega | (unfold zBd at *; omega)))) (by first | exact (om_1087 c_19 hi_9.2) | ((first | omega | (unfold zBd at *; omega)))) (by decide) (fun x_52 ex_52 ls hl => ?_)
                                                  replace hl : lv_has ls 9 [(4, .int x_52), (8, .int x_47), (2, .long r_29), (6, .long r_29), (5, .int x_23), (1, .int x_8), (0, .ref a0)] := hl
                                                  refine lv_goto (pc := 196) (tgt := 57) hx hb dX12_aheadOf_196 (by decide) ?_
                                                  exact ih_lp_18 x_52 r_29 f_25 f_49 _ _ ls (by first | exact (om_1088 ex_52 hi_13.1 c_19 hi_9.2) | ((first | omega | (unfold zBd at *; omega)))) (by (first | omega | (unfold zBd at *; omega))) hP hD hS (lv_sub hl [0, 2, 5, 6] rfl)
                                              ·
                                                as_aux_lemma =>
                                                  refine lv_aload_n (pc := 158) hx hb dX12_aheadOf_158 rfl (lv_at hl 6 rfl) ?_
                                                  refine va_get (pc := 159) (ci := 12) (v := .ref a40) (C := RX12) (T := TX12) (N := 73) hx hb hts iX12 hown hK hP 0 rfl rfl 65 (by decide) (hts _ tw_1466) (fun _ h9 => h9) rfl dX12_aheadOf_159 ?_
                                                  refine lv_iload (pc := 162) hx hb dX12_aheadOf_162 (lv_at hl 0 rfl) ?_
                                                  refine lv_aload_n (pc := 164) hx hb dX12_aheadOf_164 rfl (lv_at hl 6 rfl) ?_
                                                  refine va_get (pc := 165) (ci := 12) (v := .ref a29) (C := RX12) (T := TX12) (N := 73) hx hb hts iX12 hown hK hP 0 rfl rfl 48 (by decide) (hts _ tw_1449) (fun _ h9 => h9) rfl dX12_aheadOf_165 ?_
                                                  refine lv_iload (pc := 168) hx hb dX12_aheadOf_168 (lv_at hl 0 rfl) ?_
                                                  refine va_iald (pc := 170) hx hb hK hP 2 2 rfl rfl (n_in rfl (by first | exact (om_0 hi_48.1) | ((first | omega | (unfold zBd at *; omega)))) (by first | exact (om_1020 c_51 h_x9.2) | ((first | omega | (unfold zBd at *; omega))))) dX12_aheadOf_170 ?_
                                                  refine lv_topi (fun x_53 ex_53 => ?_)
                                                  have rx_53 : zBd x_53.toInt (-2147483648) 2147483647 := n_rng x_53
                                                  refine lv_aload_n (pc := 171) hx hb dX12_aheadOf_171 rfl (lv_at hl 6 rfl) ?_
                                                  refine va_get (pc := 172) (ci := 12) (v := .ref a41) (C := RX12) (T := TX12) (N := 73) hx hb hts iX12 hown hK hP 0 rfl rfl 66 (by decide) (hts _ tw_1467) (fun _ h9 => h9) rfl dX12_aheadOf_172 ?_
                                                  as_aux_lemma =>
                                                    refine lv_iload (pc := 175) hx hb dX12_aheadOf_175 (lv_at hl 0 rfl) ?_
                                                    refine va_iald (pc := 177) hx hb hK hP 4 2 rfl rfl (n_in rfl (by first | exact (om_0 hi_48.1) | ((first | omega | (unfold zBd at *; omega)))) (by first | exact (om_1020 c_51 h_x9.2) | ((first | omega | (unfold zBd at *; omega))))) dX12_aheadOf_177 ?_
                                                    refine lv_topi (fun x_54 ex_54 => ?_)
                                                    have rx_54 : zBd x_54.toInt (-2147483648) 2147483647 := n_rng x_54
                                                    refine lv_isub (pc := 178) hx hb dX12_aheadOf_178 ?_
                                                    refine lv_topi (fun x_55 _ => ?_)
                                                    have rx_55 : zBd x_55.toInt (-2147483648) 2147483647 := n_rng x_55
                                                    refine lv_iconst (pc := 179) (v := 2) hx hb dX12_aheadOf_179 (by decide) ?_
                                                    refine lv_aload_n (pc := 180) hx hb dX12_aheadOf_180 rfl (lv_at hl 6 rfl) ?_
                                                    refine va_get (pc := 181) (ci := 12) (v := .int x8) (C := RX12) (T := TX12) (N := 73) hx hb hts iX12 hown hK hP 0 rfl rfl 24 (by decide) (hts _ tw_1425) (fun _ h9 => h9) rfl dX12_aheadOf_181 ?_
                                                    have bd_h_x8 : 0 ≤ x8.toInt ∧ x8.toInt ≤ 8 := h_x8
                                                    refine b_imul (pc := 184) hx hb tI_2 rfl (by first | exact (om_1336 h_x8.1) | ((first | omega | (unfold zBd at *; omega)))) (by first | exact (om_1278 h_x8.2) | ((first | omega | (unfold zBd at *; omega)))) dX12_aheadOf_184 (fun x_56 ex_56 => ?_)
                                                    refine lv_idiv (pc := 185) hx hb dX12_aheadOf_185 (fun h => by have q := congrArg Int32.toInt h; have k := tI_0; (first | omega | (unfold zBd at *; omega))) ?_
                                                    as_aux_lemma =>
                                                      refine lv_topi (fun x_57 _ => ?_)
                                                      have rx_57 : zBd x_57.toInt (-2147483648) 2147483647 := n_rng x_57
                                                      refine g_iastore (pc := 186) hx hb hK hP hD hS 5 2 rfl rfl (n_in rfl (by first | exact (om_0 hi_48.1) | ((first | omega | (unfold zBd at *; omega)))) (by first | exact (om_1020 c_51 h_x9.2) | ((first | omega | (unfold zBd at *; omega))))) dX12_aheadOf_186 (fun f_58 H locs hP hD hS => ?_)
                                                      replace hP : va_P D gcl (zS_63 cB cC cI cJ a0 a1 x0 x1 x2 x3 x4 x5 x6 x7 a2 a3 a4 a5 a6 a7 a8 a9 a10 a11 a12 a13 a14 a15 a16 x8 x9 x10 x11 x12 x13 a17 a18 a19 x14 a20 x15 a21 x16 x17 a22 a23 a24 a25 x18 a26 x19 a27 a28 a29 y0 a30 a31 a32 a33 a34 a35 a36 a37 a38 x20 x21 x22 y1 a39 x23 a40 a41 a42 a43 x24 x25 x26 x27 a18 f0 a29 f_25 a28 f2 a41 f_3 a40 f_58) H := hP
                                                      replace hD : va_D A (zS_63 cB cC cI cJ a0 a1 x0 x1 x2 x3 x4 x5 x6 x7 a2 a3 a4 a5 a6 a7 a8 a9 a10 a11 a12 a13 a14 a15 a16 x8 x9 x10 x11 x12 x13 a17 a18 a19 x14 a20 x15 a21 x16 x17 a22 a23 a24 a25 x18 a26 x19 a27 a28 a29 y0 a30 a31 a32 a33 a34 a35 a36 a37 a38 x20 x21 x22 y1 a39 x23 a40 a41 a42 a43 x24 x25 x26 x27 a18 f0 a29 f_25 a28 f2 a41 f_3 a40 f_58) := hD
                                                      refine b_iinc (pc := 187) hx hb dX12_aheadOf_187 hl (k := 0) rfl rfl tI_1 (by first | exact (om_2 hi_48.1) | ((first | omega | (unfold zBd at *; omega)))) (by first | exact (om_338 c_51 h_x9.2) | ((first | omega | (unfold zBd at *; omega)))) (by decide) (fun x_59 ex_59 ls hl => ?_)
                                                      replace hl : lv_has ls 9 [(8, .int x_59), (2, .long r_29), (6, .long r_29), (5, .int x_23), (4, .int x_12), (1, .int x_8), (0, .ref a0)] := hl
                                                      refine lv_goto (pc := 190) (tgt := 149) hx hb dX12_aheadOf_190 (by decide) ?_
                                                      exact ih_lp_50 x_59 f_58 _ _ ls (by first | exact (om_339 ex_59 hi_48.1 c_51 h_x9.2) | ((first | omega | (unfold zBd at *; omega)))) (by (first | omega | (unfold zBd at *; omega))) hP hD hS (lv_sub hl [0, 1, 2, 3, 4, 5, 6] rfl)
                                          exact lp_50 _ 0 f_17 _ _ ls (n_c tI_0 (by decide)) (Nat.lt_succ_self _) hP hD hS (lv_sub hl [0, 1, 2, 3, 4, 5, 6] rfl)
                                      ·
                                        as_aux_lemma =>
                                          refine lv_goto (pc := 140) (tgt := 193) hx hb dX12_aheadOf_140 (by decide) ?_
                                          refine b_iinc (pc := 193) hx hb dX12_aheadOf_193 hl (k := 2) rfl rfl tI_1 (by first | exact (om_2 hi_13.1) | ((first | omega | (unfold zBd at *; omega)))) (by first | exact (om_1087 c_19 hi_9.2) | ((first | omega | (unfold zBd at *; omega)))) (by decide) (fun x_60 ex_60 ls hl => ?_)
                                          replace hl : lv_has ls 9 [(4, .int x_60), (6, .long r_29), (5, .int x_23), (2, .long y_14), (1, .int x_8), (0, .ref a0)] := hl
                                          refine lv_goto (pc := 196) (tgt := 57) hx hb dX12_aheadOf_196 (by decide) ?_
                                          exact ih_lp_18 x_60 y_14 f_25 f_17 _ _ ls (by first | exact (om_1088 ex_60 hi_13.1 c_19 hi_9.2) | ((first | omega | (unfold zBd at *; omega)))) (by (first | omega | (unfold zBd at *; omega))) hP hD hS (lv_sub hl [0, 3, 4, 5] rfl)
                              ·
                                as_aux_lemma =>
                                  refine lv_aload_n (pc := 80) hx hb dX12_aheadOf_80 rfl (lv_at hl 5 rfl) ?_
                                  refine va_get (pc := 81) (ci := 12) (v := .ref a29) (C := RX12) (T := TX12) (N := 73) hx hb hts iX12 hown hK hP 0 rfl rfl 48 (by decide) (hts _ tw_1449) (fun _ h9 => h9) rfl dX12_aheadOf_81 ?_
                                  refine lv_iload (pc := 84) hx hb dX12_aheadOf_84 (lv_at hl 0 rfl) ?_
                                  refine lv_aload_n (pc := 86) hx hb dX12_aheadOf_86 rfl (lv_at hl 5 rfl) ?_
                                  refine va_get (pc := 87) (ci := 12) (v := .ref a41) (C := RX12) (T := TX12) (N := 73) hx hb hts iX12 hown hK hP 0 rfl rfl 66 (by decide) (hts _ tw_1467) (fun _ h9 => h9) rfl dX12_aheadOf_87 ?_
                                  refine lv_iload (pc := 90) hx hb dX12_aheadOf_90 (lv_at hl 0 rfl) ?_
                                  refine va_iald (pc := 92) hx hb hK hP 4 2 rfl rfl (n_in rfl (by first | exact (om_10 c_27) | ((first | omega | (unfold zBd at *; omega)))) (by first | exact (om_1135 hi_22.2) | ((first | omega | (unfold zBd at *; omega))))) dX12_aheadOf_92 ?_
                                  refine lv_topi (fun x_61 ex_61 => ?_)
                                  have rx_61 : zBd x_61.toInt (-2147483648) 2147483647 := n_rng x_61
                                  refine lv_iconst (pc := 93) (v := 2) hx hb dX12_aheadOf_93 (by decide) ?_
                                  refine lv_aload_n (pc := 94) hx hb dX12_aheadOf_94 rfl (lv_at hl 5 rfl) ?_
                                  as_aux_lemma =>
                                    refine va_get (pc := 95) (ci := 12) (v := .int x8) (C := RX12) (T := TX12) (N := 73) hx hb hts iX12 hown hK hP 0 rfl rfl 24 (by decide) (hts _ tw_1425) (fun _ h9 => h9) rfl dX12_aheadOf_95 ?_
                                    have bd_h_x8 : 0 ≤ x8.toInt ∧ x8.toInt ≤ 8 := h_x8
                                    refine b_imul (pc := 98) hx hb tI_2 rfl (by first | exact (om_1336 h_x8.1) | ((first | omega | (unfold zBd at *; omega)))) (by first | exact (om_1278 h_x8.2) | ((first | omega | (unfold zBd at *; omega)))) dX12_aheadOf_98 (fun x_62 ex_62 => ?_)
                                    refine lv_iload (pc := 99) hx hb dX12_aheadOf_99 (lv_at hl 1 rfl) ?_
                                    refine lv_iconst (pc := 101) (v := 3) hx hb dX12_aheadOf_101 (by decide) ?_
                                    refine b_irem (pc := 102) hx hb rfl tI_3 (by first | exact (om_1824) | ((first | omega | (unfold zBd at *; omega)))) dX12_aheadOf_102 (fun x_63 ex_63 => ?_)
                                    have rx_63 : ((-2) ≤ x_63.toInt ∧ x_63.toInt ≤ 2) := (by first | exact (om_1825 ex_63.1 ex_63.2.1) | ((first | omega | (unfold zBd at *; omega))))
                                    refine lv_iconst (pc := 103) (v := 1) hx hb dX12_aheadOf_103 (by decide) ?_
                                    refine b_isub (pc := 104) hx hb rfl tI_1 (by first | exact (om_1826 rx_63.1) | ((first | omega | (unfold zBd at *; omega)))) (by first | exact (om_252 rx_63.2) | ((first | omega | (unfold zBd at *; omega)))) dX12_aheadOf_104 (fun x_64 ex_64 => ?_)
                                    have qx_65 := n_mulb (A := 16) (B := 3) (by decide) (by decide) (show -16 ≤ x_62.toInt ∧ x_62.toInt ≤ 16 from (by first | exact (om_1827 ex_62 h_x8.1 h_x8.2) | ((first | omega | (unfold zBd at *; omega))))) (show -3 ≤ x_64.toInt ∧ x_64.toInt ≤ 3 from (by first | exact (om_1828 ex_64 rx_63.1 rx_63.2) | ((first | omega | (unfold zBd at *; omega)))))
                                    refine b_imul (pc := 105) hx hb rfl rfl (by first | exact (om_1829 qx_65.1) | ((first | omega | (unfold zBd at *; omega)))) (by first | exact (om_1830 qx_65.2) | ((first | omega | (unfold zBd at *; omega)))) dX12_aheadOf_105 (fun x_65 ex_65 => ?_)
                                    have rx_65 : ((-48) ≤ x_65.toInt ∧ x_65.toInt ≤ 48) := (by first | exact (om_1831 ex_65 qx_65.1 qx_65.2) | ((first | omega | (unfold zBd at *; omega))))
                                    refine lv_iadd (pc := 106) hx hb dX12_aheadOf_106 ?_
                                    refine lv_topi (fun x_66 _ => ?_)
                                    have rx_66 : zBd x_66.toInt (-2147483648) 2147483647 := n_rng x_66
                                    as_aux_lemma =>
                                      refine g_iastore (pc := 107) hx hb hK hP hD hS 2 2 rfl rfl (n_in rfl (by first | exact (om_10 c_27) | ((first | omega | (unfold zBd at *; omega)))) (by first | exact (om_1135 hi_22.2) | ((first | omega | (unfold zBd at *; omega))))) dX12_aheadOf_107 (fun f_67 H locs hP hD hS => ?_)
                                      replace hP : va_P D gcl (zS_63 cB cC cI cJ a0 a1 x0 x1 x2 x3 x4 x5 x6 x7 a2 a3 a4 a5 a6 a7 a8 a9 a10 a11 a12 a13 a14 a15 a16 x8 x9 x10 x11 x12 x13 a17 a18 a19 x14 a20 x15 a21 x16 x17 a22 a23 a24 a25 x18 a26 x19 a27 a28 a29 y0 a30 a31 a32 a33 a34 a35 a36 a37 a38 x20 x21 x22 y1 a39 x23 a40 a41 a42 a43 x24 x25 x26 x27 a18 f0 a29 f_67 a28 f2 a41 f_3 a40 f_17) H := hP
                                      replace hD : va_D A (zS_63 cB cC cI cJ a0 a1 x0 x1 x2 x3 x4 x5 x6 x7 a2 a3 a4 a5 a6 a7 a8 a9 a10 a11 a12 a13 a14 a15 a16 x8 x9 x10 x11 x12 x13 a17 a18 a19 x14 a20 x15 a21 x16 x17 a22 a23 a24 a25 x18 a26 x19 a27 a28 a29 y0 a30 a31 a32 a33 a34 a35 a36 a37 a38 x20 x21 x22 y1 a39 x23 a40 a41 a42 a43 x24 x25 x26 x27 a18 f0 a29 f_67 a28 f2 a41 f_3 a40 f_17) := hD
                                      refine lv_iload (pc := 108) hx hb dX12_aheadOf_108 (lv_at hl 1 rfl) ?_
                                      refine lv_iconst (pc := 110) (v := 3) hx hb dX12_aheadOf_110 (by decide) ?_
                                      refine lv_idiv (pc := 111) hx hb dX12_aheadOf_111 (fun h => by have q := congrArg Int32.toInt h; have k := tI_0; have k2 := tI_3; (first | omega | (unfold zBd at *; omega))) ?_
                                      refine lv_topi (fun x_68 _ => ?_)
                                      have rx_68 : zBd x_68.toInt (-2147483648) 2147483647 := n_rng x_68
                                      refine lv_istore (pc := 112) (lv' := [(5, .int x_68), (6, .int x_21), (4, .int x_12), (2, .long y_14), (1, .int x_8), (0, .ref a0)]) hx hb dX12_aheadOf_112 hl (by decide) rfl (fun ls hl => ?_)
                                      refine b_iinc (pc := 114) hx hb dX12_aheadOf_114 hl (k := 1) rfl rfl tI_m1 (by first | exact (om_1171 c_27) | ((first | omega | (unfold zBd at *; omega)))) (by first | exact (om_1260 hi_22.2) | ((first | omega | (unfold zBd at *; omega)))) (by decide) (fun x_69 ex_69 ls hl => ?_)
                                      replace hl : lv_has ls 9 [(6, .int x_69), (5, .int x_68), (4, .int x_12), (2, .long y_14), (1, .int x_8), (0, .ref a0)] := hl
                                      refine lv_goto (pc := 117) (tgt := 75) hx hb dX12_aheadOf_117 (by decide) ?_
                                      exact ih_lp_26 x_69 x_68 f_67 _ _ ls (by first | exact (om_1832 ex_69 c_27 hi_22.2) | ((first | omega | (unfold zBd at *; omega)))) (by (first | omega | (unfold zBd at *; omega))) hP hD hS (lv_sub hl [0, 1, 2, 3, 4, 5] rfl)
                          exact lp_26 _ x_20 x_12 f_16 _ _ ls (by first | exact (om_1833 ex_20 h_x9.1 h_x9.2) | ((first | omega | (unfold zBd at *; omega)))) (Nat.lt_succ_self _) hP hD hS (lv_sub hl [0, 1, 2, 3, 4, 5] rfl)
                  exact lp_18 _ 0 (-1) f1 f4 _ _ ls (n_c tI_0 (by decide)) (Nat.lt_succ_self _) hP hD hS (lv_sub hl [0, 1, 2, 3] rfl)
              ·
                as_aux_lemma =>
                  refine lv_iload_n (pc := 40) hx hb dX12_aheadOf_40 rfl (lv_at hl 1 rfl) ?_
                  refine lv_iconst (pc := 41) (v := 3) hx hb dX12_aheadOf_41 (by decide) ?_
                  refine lv_imul (pc := 42) hx hb dX12_aheadOf_42 ?_
                  refine lv_topi (fun x_70 _ => ?_)
                  have rx_70 : zBd x_70.toInt (-2147483648) 2147483647 := n_rng x_70
                  refine lv_istore_n (pc := 43) (lv' := [(1, .int x_70), (2, .int x_6), (0, .ref a0)]) hx hb dX12_aheadOf_43 rfl hl (by decide) rfl (fun ls hl => ?_)
                  refine b_iinc (pc := 44) hx hb dX12_aheadOf_44 hl (k := 1) rfl rfl tI_1 (by first | exact (om_2 hi_7.1) | ((first | omega | (unfold zBd at *; omega)))) (by first | exact (om_338 c_11 h_x9.2) | ((first | omega | (unfold zBd at *; omega)))) (by decide) (fun x_71 ex_71 ls hl => ?_)
                  replace hl : lv_has ls 9 [(2, .int x_71), (1, .int x_70), (0, .ref a0)] := hl
                  refine lv_goto (pc := 47) (tgt := 32) hx hb dX12_aheadOf_47 (by decide) ?_
                  exact ih_lp_10 x_71 x_70 _ _ ls (by first | exact (om_339 ex_71 hi_7.1 c_11 h_x9.2) | ((first | omega | (unfold zBd at *; omega)))) (by (first | omega | (unfold zBd at *; omega))) hP hD hS (lv_sub hl [0, 1, 2] rfl)
          exact lp_10 _ 0 1 _ _ ls (n_c tI_0 (by decide)) (Nat.lt_succ_self _) hP hD hS (lv_sub hl [0, 1, 2] rfl)
      ·
        as_aux_lemma =>
          refine lv_aload_n (pc := 10) hx hb dX12_aheadOf_10 rfl (lv_at hl 1 rfl) ?_
          refine va_get (pc := 11) (ci := 12) (v := .ref a41) (C := RX12) (T := TX12) (N := 73) hx hb hts iX12 hown hK hP 0 rfl rfl 66 (by decide) (hts _ tw_1467) (fun _ h9 => h9) rfl dX12_aheadOf_11 ?_
          refine lv_iload_n (pc := 14) hx hb dX12_aheadOf_14 rfl (lv_at hl 0 rfl) ?_
          refine lv_aload_n (pc := 15) hx hb dX12_aheadOf_15 rfl (lv_at hl 1 rfl) ?_
          refine va_get (pc := 16) (ci := 12) (v := .ref a29) (C := RX12) (T := TX12) (N := 73) hx hb hts iX12 hown hK hP 0 rfl rfl 48 (by decide) (hts _ tw_1449) (fun _ h9 => h9) rfl dX12_aheadOf_16 ?_
          refine lv_iload_n (pc := 19) hx hb dX12_aheadOf_19 rfl (lv_at hl 0 rfl) ?_
          refine va_iald (pc := 20) hx hb hK hP 2 2 rfl rfl (n_in rfl (by first | exact (om_0 hi_2.1) | ((first | omega | (unfold zBd at *; omega)))) (by first | exact (om_1020 c_5 h_x9.2) | ((first | omega | (unfold zBd at *; omega))))) dX12_aheadOf_20 ?_
          refine lv_topi (fun x_72 ex_72 => ?_)
          have rx_72 : zBd x_72.toInt (-2147483648) 2147483647 := n_rng x_72
          refine g_iastore (pc := 21) hx hb hK hP hD hS 4 2 rfl rfl (n_in rfl (by first | exact (om_0 hi_2.1) | ((first | omega | (unfold zBd at *; omega)))) (by first | exact (om_1020 c_5 h_x9.2) | ((first | omega | (unfold zBd at *; omega))))) dX12_aheadOf_21 (fun f_73 H locs hP hD hS => ?_)
          replace hP : va_P D gcl (zS_63 cB cC cI cJ a0 a1 x0 x1 x2 x3 x4 x5 x6 x7 a2 a3 a4 a5 a6 a7 a8 a9 a10 a11 a12 a13 a14 a15 a16 x8 x9 x10 x11 x12 x13 a17 a18 a19 x14 a20 x15 a21 x16 x17 a22 a23 a24 a25 x18 a26 x19 a27 a28 a29 y0 a30 a31 a32 a33 a34 a35 a36 a37 a38 x20 x21 x22 y1 a39 x23 a40 a41 a42 a43 x24 x25 x26 x27 a18 f0 a29 f1 a28 f2 a41 f_73 a40 f4) H := hP
          replace hD : va_D A (zS_63 cB cC cI cJ a0 a1 x0 x1 x2 x3 x4 x5 x6 x7 a2 a3 a4 a5 a6 a7 a8 a9 a10 a11 a12 a13 a14 a15 a16 x8 x9 x10 x11 x12 x13 a17 a18 a19 x14 a20 x15 a21 x16 x17 a22 a23 a24 a25 x18 a26 x19 a27 a28 a29 y0 a30 a31 a32 a33 a34 a35 a36 a37 a38 x20 x21 x22 y1 a39 x23 a40 a41 a42 a43 x24 x25 x26 x27 a18 f0 a29 f1 a28 f2 a41 f_73 a40 f4) := hD
          refine b_iinc (pc := 22) hx hb dX12_aheadOf_22 hl (k := 0) rfl rfl tI_1 (by first | exact (om_2 hi_2.1) | ((first | omega | (unfold zBd at *; omega)))) (by first | exact (om_338 c_5 h_x9.2) | ((first | omega | (unfold zBd at *; omega)))) (by decide) (fun x_74 ex_74 ls hl => ?_)
          replace hl : lv_has ls 9 [(1, .int x_74), (0, .ref a0)] := hl
          as_aux_lemma =>
            refine lv_goto (pc := 25) (tgt := 2) hx hb dX12_aheadOf_25 (by decide) ?_
            exact ih_lp_4 x_74 f_73 _ _ ls (by first | exact (om_339 ex_74 hi_2.1 c_5 h_x9.2) | ((first | omega | (unfold zBd at *; omega)))) (by (first | omega | (unfold zBd at *; omega))) hP hD hS (lv_sub hl [0, 1] rfl)
  exact lp_4 _ 0 f3 _ _ ls (n_c tI_0 (by decide)) (Nat.lt_succ_self _) hP hD hS (lv_sub hl [0, 1] rfl)
theorem om_1834 {a b : Int} (h0 : (a = (-1))) (h1 : (b = 0)) : (((((-9223372036854775808) ≤ a ∧ a ≤ 2147483647000) ∧ b = 1) ∨ (a = (-1) ∧ b = 0))) := by omega
set_option maxHeartbeats 4000000 in
set_option maxRecDepth 100000 in
theorem k_X12_ahead (l : Launch) (D : va_G) (cB cC cI cJ : ClassId) (sz : Nat) (a0 a1 a2 a3 a4 a5 a6 a7 a8 a9 a10 a11 a12 a13 a14 a15 a16 a17 a18 a19 a20 a21 a22 a23 a24 a25 a26 a27 a28 a29 a30 a31 a32 a33 a34 a35 a36 a37 a38 a39 a40 a41 a42 a43 : Nat) (x0 x1 x2 x3 x4 x5 x6 x7 x8 x9 x10 x11 x12 x13 x14 x15 x16 x17 x18 x19 x20 x21 x22 x23 x24 x25 x26 x27 : Int32) (y0 y1 : Int64) (f0 f1 f2 f3 f4 f5 : Nat → Int32) (h_x0 : zBd x0.toInt 0 1600) (h_x1 : zBd x1.toInt 0 1600) (h_x2 : zBd x2.toInt 0 1600) (h_x3 : zBd x3.toInt (-1) 1600) (h_x4 : zBd x4.toInt 0 4) (h_x5 : zBd x5.toInt (-1) 1600) (h_x8 : zBd x8.toInt 0 8) (h_x9 : zBd x9.toInt 0 5) (h_x10 : zBd x10.toInt 0 6) (h_x11 : zBd x11.toInt 0 6) (h_x12 : zBd x12.toInt 0 16) (h_x14 : zBd x14.toInt 0 60) (h_x15 : zBd x15.toInt 0 1600) (h_x16 : zBd x16.toInt 0 1700) (h_x18 : zBd x18.toInt 0 1700) (h_x19 : zBd x19.toInt 0 1700) (h_x20 : zBd x20.toInt 0 200) (h_x21 : zBd x21.toInt 0 40) (h_x22 : zBd x22.toInt 0 40) (h_x23 : zBd x23.toInt 0 1) (h_x24 : zBd x24.toInt 0 14) (h_x25 : zBd x25.toInt 0 200) (h_x26 : zBd x26.toInt 0 40) (h_x27 : zBd x27.toInt 0 40) (hr_a0_0 : (x21.toInt ≤ x20.toInt)) (hr_a0_1 : (x20.toInt + x22.toInt ≤ 200)) (hr_a0_2 : (x9.toInt = 0 ∨ 2 ≤ x8.toInt)) (hf_f1 : (∀ j, 0 ≤ (f1 j).toInt ∧ (f1 j).toInt ≤ 255)) (hf_f2 : (∀ j, (-9999) ≤ (f2 j).toInt ∧ (f2 j).toInt ≤ 9999)) (hf_f3 : (∀ j, (-1100000) ≤ (f3 j).toInt ∧ (f3 j).toInt ≤ 1100000)) : Met l yX12_ahead (.code yX12_ahead cX12_ahead 3 (some .long) :: lw_gd) ({ frames := 3, cells := 0, slots := 0, locals := 77 }) (gPre D [(cB, .byte), (cC, .char), (cI, .int), (cJ, .long)] [.ref a0] (zS_109 cB cC cI cJ a0 a1 x0 x1 x2 x3 x4 x5 x6 x7 a2 a3 a4 a5 a6 a7 a8 a9 a10 a11 a12 a13 a14 a15 a16 x8 x9 x10 x11 x12 x13 a17 a18 a19 x14 a20 x15 a21 x16 x17 a22 a23 a24 a25 x18 a26 x19 a27 a28 a29 y0 a30 a31 a32 a33 a34 a35 a36 a37 a38 x20 x21 x22 y1 a39 x23 a40 a41 a42 a43 x24 x25 x26 x27 a29 f0 a1 f1 a18 f2 a28 f3 a41 f4 a40 f5) sz) (va_Ql (fun r u => ((((-9223372036854775808) ≤ r.toInt ∧ r.toInt ≤ 2147483647000) ∧ (u.2.2.2.1 0).toInt = 1) ∨ (r.toInt = (-1) ∧ (u.2.2.2.1 0).toInt = 0)) ∧ (0 ≤ (u.2.2.2.1 0).toInt ∧ (u.2.2.2.1 0).toInt ≤ 1)) (gB D (va_A (zS_109 cB cC cI cJ a0 a1 x0 x1 x2 x3 x4 x5 x6 x7 a2 a3 a4 a5 a6 a7 a8 a9 a10 a11 a12 a13 a14 a15 a16 x8 x9 x10 x11 x12 x13 a17 a18 a19 x14 a20 x15 a21 x16 x17 a22 a23 a24 a25 x18 a26 x19 a27 a28 a29 y0 a30 a31 a32 a33 a34 a35 a36 a37 a38 x20 x21 x22 y1 a39 x23 a40 a41 a42 a43 x24 x25 x26 x27 a29 f0 a1 f1 a18 f2 a28 f3 a41 f4 a40 f5) sz) (fun u : gEx => (zS_109 cB cC cI cJ a0 a1 0 x1 x2 x3 x4 x5 x6 x7 a2 a3 a4 a5 a6 a7 a8 a9 a10 a11 a12 a13 a14 a15 a16 x8 x9 x10 x11 x12 x13 a17 a18 a19 x14 a20 x15 a21 x16 x17 a22 a23 a24 a25 x18 a26 x19 a27 a28 a29 y0 a30 a31 a32 a33 a34 a35 a36 a37 a38 x20 x21 x22 y1 a39 (u.2.2.2.1 0) a40 a41 a42 a43 x24 x25 x26 x27 a29 (u.2.1 0) a1 f1 a18 f2 a28 f3 a41 (u.2.1 1) a40 (u.2.1 2)))) (va_A (zS_109 cB cC cI cJ a0 a1 x0 x1 x2 x3 x4 x5 x6 x7 a2 a3 a4 a5 a6 a7 a8 a9 a10 a11 a12 a13 a14 a15 a16 x8 x9 x10 x11 x12 x13 a17 a18 a19 x14 a20 x15 a21 x16 x17 a22 a23 a24 a25 x18 a26 x19 a27 a28 a29 y0 a30 a31 a32 a33 a34 a35 a36 a37 a38 x20 x21 x22 y1 a39 x23 a40 a41 a42 a43 x24 x25 x26 x27 a29 f0 a1 f1 a18 f2 a28 f3 a41 f4 a40 f5) sz)) 0 0 (va_A (zS_109 cB cC cI cJ a0 a1 x0 x1 x2 x3 x4 x5 x6 x7 a2 a3 a4 a5 a6 a7 a8 a9 a10 a11 a12 a13 a14 a15 a16 x8 x9 x10 x11 x12 x13 a17 a18 a19 x14 a20 x15 a21 x16 x17 a22 a23 a24 a25 x18 a26 x19 a27 a28 a29 y0 a30 a31 a32 a33 a34 a35 a36 a37 a38 x20 x21 x22 y1 a39 x23 a40 a41 a42 a43 x24 x25 x26 x27 a29 f0 a1 f1 a18 f2 a28 f3 a41 f4 a40 f5) sz) := by
  refine gOf_l (by decide +kernel) (Nat.le_of_ble_eq_true rfl) ?_
  intro p e s m args below meth c ls A Q hx hb hts hown hml hN hK hP hD hA hl hret
  replace hown : s.vm.findClass RX12 = some m.cls := hown
  have hS : va_S A s.heap s.heap [] := va_S.rf
  replace hP : va_P D gcl (zS_109 cB cC cI cJ a0 a1 x0 x1 x2 x3 x4 x5 x6 x7 a2 a3 a4 a5 a6 a7 a8 a9 a10 a11 a12 a13 a14 a15 a16 x8 x9 x10 x11 x12 x13 a17 a18 a19 x14 a20 x15 a21 x16 x17 a22 a23 a24 a25 x18 a26 x19 a27 a28 a29 y0 a30 a31 a32 a33 a34 a35 a36 a37 a38 x20 x21 x22 y1 a39 x23 a40 a41 a42 a43 x24 x25 x26 x27 a29 f0 a1 f1 a18 f2 a28 f3 a41 f4 a40 f5) s.heap := hP
  replace hl : lv_has ls 3 [(0, .ref a0)] := hl
  have rx6 : zBd x6.toInt (-2147483648) 2147483647 := n_rng x6
  have rx7 : zBd x7.toInt (-2147483648) 2147483647 := n_rng x7
  have rx13 : zBd x13.toInt (-2147483648) 2147483647 := n_rng x13
  have rx17 : zBd x17.toInt (-2147483648) 2147483647 := n_rng x17
  have ry0 := n_rngL y0
  have ry1 := n_rngL y1
  refine lv_aload_n (pc := 0) hx hb dX12_ahead_0 rfl (lv_at hl 0 rfl) ?_
  refine lv_iconst (pc := 1) (v := 0) hx hb dX12_ahead_1 (by decide) ?_
  refine va_put (pc := 2) (ci := 12) (v := .int 0) (ty := .boolean) (C := RX12) (T := TX12) (N := 73) hx hb hts iX12 tyX12 tyX12_ok nmX12 hown hK hP hD hS 0 rfl rfl 64 (by decide) (hts _ tw_1465) (fun _ h9 => h9) rfl (by decide +kernel) (by decide +kernel) (by decide +kernel) (Nat.le_of_ble_eq_true rfl) dX12_ahead_2 (fun H locs hP hD hS => ?_)
  replace hP : va_P D gcl (zS_109 cB cC cI cJ a0 a1 x0 x1 x2 x3 x4 x5 x6 x7 a2 a3 a4 a5 a6 a7 a8 a9 a10 a11 a12 a13 a14 a15 a16 x8 x9 x10 x11 x12 x13 a17 a18 a19 x14 a20 x15 a21 x16 x17 a22 a23 a24 a25 x18 a26 x19 a27 a28 a29 y0 a30 a31 a32 a33 a34 a35 a36 a37 a38 x20 x21 x22 y1 a39 0 a40 a41 a42 a43 x24 x25 x26 x27 a29 f0 a1 f1 a18 f2 a28 f3 a41 f4 a40 f5) H := hP
  replace hD : va_D A (zS_109 cB cC cI cJ a0 a1 x0 x1 x2 x3 x4 x5 x6 x7 a2 a3 a4 a5 a6 a7 a8 a9 a10 a11 a12 a13 a14 a15 a16 x8 x9 x10 x11 x12 x13 a17 a18 a19 x14 a20 x15 a21 x16 x17 a22 a23 a24 a25 x18 a26 x19 a27 a28 a29 y0 a30 a31 a32 a33 a34 a35 a36 a37 a38 x20 x21 x22 y1 a39 0 a40 a41 a42 a43 x24 x25 x26 x27 a29 f0 a1 f1 a18 f2 a28 f3 a41 f4 a40 f5) := hD
  refine lv_aload_n (pc := 5) hx hb dX12_ahead_5 rfl (lv_at hl 0 rfl) ?_
  refine gd_i (pc := 6) (wc := (zS_65 cB cC cI cJ a0 a1 x0 x1 x2 x3 x4 x5 x6 x7 a2 a3 a4 a5 a6 a7 a8 a9 a10 a11 a12 a13 a14 a15 a16 x8 x9 x10 x11 x12 x13 a17 a18 a19 x14 a20 x15 a21 x16 x17 a22 a23 a24 a25 x18 a26 x19 a27 a28 a29 y0 a30 a31 a32 a33 a34 a35 a36 a37 a38 x20 x21 x22 y1 a39 0 a40 a41 a42 a43 x24 x25 x26 x27 a29 f0 a1 f1)) hP hD hS hA [0, 1, 2] rfl (by decide +kernel) (fun _ => by rfl) (fun hPc hDc => va_runV (As := []) (rest := []) ⟨hx, hb, hml, hown, hts⟩ (k_X12_isRowTold l D cB cC cI cJ _ a0 a1 a2 a3 a4 a5 a6 a7 a8 a9 a10 a11 a12 a13 a14 a15 a16 a17 a18 a19 a20 a21 a22 a23 a24 a25 a26 a27 a28 a29 a30 a31 a32 a33 a34 a35 a36 a37 a38 a39 a40 a41 a42 a43 x0 x1 x2 x3 x4 x5 x6 x7 x8 x9 x10 x11 x12 x13 x14 x15 x16 x17 x18 x19 x20 x21 x22 0 x24 x25 x26 x27 y0 y1 f0 f1 h_x0 h_x1 h_x2 h_x3 h_x4 h_x5 h_x8 h_x9 h_x10 h_x11 h_x12 h_x14 h_x15 h_x16 h_x18 h_x19 h_x20 h_x21 h_x22 (n_c tI_0 (by decide)) h_x24 h_x25 h_x26 h_x27 hr_a0_0 hr_a0_1 hr_a0_2 hf_f1) ⟨gcwB hts tw_1821 tw_14 tw_1818 hd_yX12_isRowTold ⟨Nat.le_of_ble_eq_true rfl, Nat.le_of_ble_eq_true rfl⟩, hts _ tw_1820, hts _ tp_93⟩ ⟨gblind, va_recv hK hPc (ci := 12) (q0 := 0) rfl rfl, (gpreS hPc hK hDc hN).2⟩ rfl rfl hl.1 rfl (lv_room (Nat.le_of_ble_eq_true rfl)) dX12_ahead_6 ⟨Nat.le_of_ble_eq_true rfl, Nat.le_of_ble_eq_true rfl⟩) (fun r_2 u_1 H locs hw_3 hP hD hS => ?_)
  replace hP : va_P D gcl (zS_109 cB cC cI cJ a0 a1 0 x1 x2 x3 x4 x5 x6 x7 a2 a3 a4 a5 a6 a7 a8 a9 a10 a11 a12 a13 a14 a15 a16 x8 x9 x10 x11 x12 x13 a17 a18 a19 x14 a20 x15 a21 x16 x17 a22 a23 a24 a25 x18 a26 x19 a27 a28 a29 y0 a30 a31 a32 a33 a34 a35 a36 a37 a38 x20 x21 x22 y1 a39 0 a40 a41 a42 a43 x24 x25 x26 x27 a29 (u_1.2.1 0) a1 f1 a18 f2 a28 f3 a41 f4 a40 f5) H := hP
  replace hD : va_D A (zS_109 cB cC cI cJ a0 a1 0 x1 x2 x3 x4 x5 x6 x7 a2 a3 a4 a5 a6 a7 a8 a9 a10 a11 a12 a13 a14 a15 a16 x8 x9 x10 x11 x12 x13 a17 a18 a19 x14 a20 x15 a21 x16 x17 a22 a23 a24 a25 x18 a26 x19 a27 a28 a29 y0 a30 a31 a32 a33 a34 a35 a36 a37 a38 x20 x21 x22 y1 a39 0 a40 a41 a42 a43 x24 x25 x26 x27 a29 (u_1.2.1 0) a1 f1 a18 f2 a28 f3 a41 f4 a40 f5) := hD
  obtain ⟨hw_4, hw_5, hw_6, hw_7⟩ := hw_3
  replace hw_4 : (0 ≤ r_2.toInt ∧ r_2.toInt ≤ 1) := hw_4
  replace hw_5 : ((0 : Int32).toInt = 0) := hw_5
  replace hw_6 : (r_2.toInt = 0 ∨ RB (u_1.2.1 0) 0 x9.toInt) := hw_6
  replace hw_7 : (swQ r_2.toInt x0.toInt (tau f1 x0.toInt) x8.toInt x9.toInt) := hw_7
  have kk0_r_2 := tI_0
  have rr_2 : zBd r_2.toInt (-2147483648) 2147483647 := n_rng r_2
  refine b_if_ne (pc := 9) (tgt := 16) hx hb rfl  dX12_ahead_9 (by decide) (fun c_8 => ?_) (fun c_8 => ?_)
  ·
    as_aux_lemma =>
      refine lv_aload_n (pc := 16) hx hb dX12_ahead_16 rfl (lv_at hl 0 rfl) ?_
      refine gd_l (pc := 17) (wc := (zS_63 cB cC cI cJ a0 a1 0 x1 x2 x3 x4 x5 x6 x7 a2 a3 a4 a5 a6 a7 a8 a9 a10 a11 a12 a13 a14 a15 a16 x8 x9 x10 x11 x12 x13 a17 a18 a19 x14 a20 x15 a21 x16 x17 a22 a23 a24 a25 x18 a26 x19 a27 a28 a29 y0 a30 a31 a32 a33 a34 a35 a36 a37 a38 x20 x21 x22 y1 a39 0 a40 a41 a42 a43 x24 x25 x26 x27 a18 f2 a29 (u_1.2.1 0) a28 f3 a41 f4 a40 f5)) hP hD hS hA [0, 3, 1, 4, 5, 6] rfl (by decide +kernel) (fun _ => by rfl) (fun hPc hDc => va_runV (As := []) (rest := []) ⟨hx, hb, hml, hown, hts⟩ (k_X12_aheadOf l D cB cC cI cJ _ a0 a1 a2 a3 a4 a5 a6 a7 a8 a9 a10 a11 a12 a13 a14 a15 a16 a17 a18 a19 a20 a21 a22 a23 a24 a25 a26 a27 a28 a29 a30 a31 a32 a33 a34 a35 a36 a37 a38 a39 a40 a41 a42 a43 0 x1 x2 x3 x4 x5 x6 x7 x8 x9 x10 x11 x12 x13 x14 x15 x16 x17 x18 x19 x20 x21 x22 0 x24 x25 x26 x27 y0 y1 f2 (u_1.2.1 0) f3 f4 f5 (n_c tI_0 (by decide)) h_x1 h_x2 h_x3 h_x4 h_x5 h_x8 h_x9 h_x10 h_x11 h_x12 h_x14 h_x15 h_x16 h_x18 h_x19 h_x20 h_x21 h_x22 (n_c tI_0 (by decide)) h_x24 h_x25 h_x26 h_x27 hr_a0_0 hr_a0_1 hr_a0_2 hf_f2 hf_f3) ⟨gcwB hts tw_2032 tw_14 tw_2029 hd_yX12_aheadOf ⟨Nat.le_of_ble_eq_true rfl, Nat.le_of_ble_eq_true rfl⟩, hts _ tw_2031, hts _ tp_116⟩ ⟨gblind, va_recv hK hPc (ci := 12) (q0 := 0) rfl rfl, (gpreS hPc hK hDc hN).2⟩ rfl rfl hl.1 rfl (lv_room (Nat.le_of_ble_eq_true rfl)) dX12_ahead_17 ⟨Nat.le_of_ble_eq_true rfl, Nat.le_of_ble_eq_true rfl⟩) (fun r_10 u_9 H locs hw_11 hP hD hS => ?_)
      replace hP : va_P D gcl (zS_109 cB cC cI cJ a0 a1 0 x1 x2 x3 x4 x5 x6 x7 a2 a3 a4 a5 a6 a7 a8 a9 a10 a11 a12 a13 a14 a15 a16 x8 x9 x10 x11 x12 x13 a17 a18 a19 x14 a20 x15 a21 x16 x17 a22 a23 a24 a25 x18 a26 x19 a27 a28 a29 y0 a30 a31 a32 a33 a34 a35 a36 a37 a38 x20 x21 x22 y1 a39 0 a40 a41 a42 a43 x24 x25 x26 x27 a29 (u_9.2.1 0) a1 f1 a18 f2 a28 f3 a41 (u_9.2.1 1) a40 (u_9.2.1 2)) H := hP
      replace hD : va_D A (zS_109 cB cC cI cJ a0 a1 0 x1 x2 x3 x4 x5 x6 x7 a2 a3 a4 a5 a6 a7 a8 a9 a10 a11 a12 a13 a14 a15 a16 x8 x9 x10 x11 x12 x13 a17 a18 a19 x14 a20 x15 a21 x16 x17 a22 a23 a24 a25 x18 a26 x19 a27 a28 a29 y0 a30 a31 a32 a33 a34 a35 a36 a37 a38 x20 x21 x22 y1 a39 0 a40 a41 a42 a43 x24 x25 x26 x27 a29 (u_9.2.1 0) a1 f1 a18 f2 a28 f3 a41 (u_9.2.1 1) a40 (u_9.2.1 2)) := hD
      have hw_12 : ((((-9223372036854775808) ≤ r_10.toInt ∧ r_10.toInt ≤ 9223372036854775807) ∧ (0 ≤ x9.toInt ∧ x9.toInt ≤ 5))) := hw_11
      have kk0_r_10 := tI_0
      have kk1_r_10 := tI_0
      have rr_10 := n_rngL r_10
      refine lv_lstore_n (pc := 20) (lv' := [(1, .long r_10), (0, .ref a0)]) hx hb dX12_ahead_20 rfl hl (by decide) rfl (fun ls hl => ?_)
      refine lv_lload_n (pc := 21) hx hb dX12_ahead_21 rfl (lv_at hl 0 rfl) ?_
      refine lv_ldc2 (pc := 22) hx hb hown (hts _ tw_1800) dX12_ahead_22 ?_
      refine lv_aload_n (pc := 25) hx hb dX12_ahead_25 rfl (lv_at hl 1 rfl) ?_
      refine va_get (pc := 26) (ci := 12) (v := .int x13) (C := RX12) (T := TX12) (N := 73) hx hb hts iX12 hown hK hP 0 rfl rfl 29 (by decide) (hts _ tw_1430) (fun _ h9 => h9) rfl dX12_ahead_26 ?_
      refine b_i2l (pc := 29) hx hb rfl dX12_ahead_29 (fun y_13 ey_13 => ?_)
      have ry_13 : zBd x13.toInt (-2147483648) 2147483647 := n_rng x13
      refine b_lmul (pc := 30) hx hb tL_1000 rfl (by first | exact (om_1021 ey_13 ry_13.1) | ((first | omega | (unfold zBd at *; omega)))) (by first | exact (om_1022 ey_13 ry_13.2) | ((first | omega | (unfold zBd at *; omega)))) dX12_ahead_30 (fun y_14 ey_14 => ?_)
      refine b_lcmp_le (pc := 31) (tgt := 39) hx hb rfl rfl dX12_ahead_31 dX12_ahead_32 (by decide) (fun c_15 => ?_) (fun c_15 => ?_)
      ·
        as_aux_lemma =>
          refine lv_aload_n (pc := 39) hx hb dX12_ahead_39 rfl (lv_at hl 1 rfl) ?_
          refine lv_iconst (pc := 40) (v := 1) hx hb dX12_ahead_40 (by decide) ?_
          refine va_put (pc := 41) (ci := 12) (v := .int 1) (ty := .boolean) (C := RX12) (T := TX12) (N := 73) hx hb hts iX12 tyX12 tyX12_ok nmX12 hown hK hP hD hS 0 rfl rfl 64 (by decide) (hts _ tw_1465) (fun _ h9 => h9) rfl (by decide +kernel) (by decide +kernel) (by decide +kernel) (Nat.le_of_ble_eq_true rfl) dX12_ahead_41 (fun H locs hP hD hS => ?_)
          replace hP : va_P D gcl (zS_109 cB cC cI cJ a0 a1 0 x1 x2 x3 x4 x5 x6 x7 a2 a3 a4 a5 a6 a7 a8 a9 a10 a11 a12 a13 a14 a15 a16 x8 x9 x10 x11 x12 x13 a17 a18 a19 x14 a20 x15 a21 x16 x17 a22 a23 a24 a25 x18 a26 x19 a27 a28 a29 y0 a30 a31 a32 a33 a34 a35 a36 a37 a38 x20 x21 x22 y1 a39 1 a40 a41 a42 a43 x24 x25 x26 x27 a29 (u_9.2.1 0) a1 f1 a18 f2 a28 f3 a41 (u_9.2.1 1) a40 (u_9.2.1 2)) H := hP
          replace hD : va_D A (zS_109 cB cC cI cJ a0 a1 0 x1 x2 x3 x4 x5 x6 x7 a2 a3 a4 a5 a6 a7 a8 a9 a10 a11 a12 a13 a14 a15 a16 x8 x9 x10 x11 x12 x13 a17 a18 a19 x14 a20 x15 a21 x16 x17 a22 a23 a24 a25 x18 a26 x19 a27 a28 a29 y0 a30 a31 a32 a33 a34 a35 a36 a37 a38 x20 x21 x22 y1 a39 1 a40 a41 a42 a43 x24 x25 x26 x27 a29 (u_9.2.1 0) a1 f1 a18 f2 a28 f3 a41 (u_9.2.1 1) a40 (u_9.2.1 2)) := hD
          refine lv_lload_n (pc := 44) hx hb dX12_ahead_44 rfl (lv_at hl 0 rfl) ?_
          have hP9 : va_P D gcl (zS_109 cB cC cI cJ a0 a1 0 x1 x2 x3 x4 x5 x6 x7 a2 a3 a4 a5 a6 a7 a8 a9 a10 a11 a12 a13 a14 a15 a16 x8 x9 x10 x11 x12 x13 a17 a18 a19 x14 a20 x15 a21 x16 x17 a22 a23 a24 a25 x18 a26 x19 a27 a28 a29 y0 a30 a31 a32 a33 a34 a35 a36 a37 a38 x20 x21 x22 y1 a39 1 a40 a41 a42 a43 x24 x25 x26 x27 a29 (u_9.2.1 0) a1 f1 a18 f2 a28 f3 a41 (u_9.2.1 1) a40 (u_9.2.1 2)) H := g_psub hP [0, 1, 2, 3, 4, 5, 6] rfl
          have hD9 : va_D A (zS_109 cB cC cI cJ a0 a1 0 x1 x2 x3 x4 x5 x6 x7 a2 a3 a4 a5 a6 a7 a8 a9 a10 a11 a12 a13 a14 a15 a16 x8 x9 x10 x11 x12 x13 a17 a18 a19 x14 a20 x15 a21 x16 x17 a22 a23 a24 a25 x18 a26 x19 a27 a28 a29 y0 a30 a31 a32 a33 a34 a35 a36 a37 a38 x20 x21 x22 y1 a39 1 a40 a41 a42 a43 x24 x25 x26 x27 a29 (u_9.2.1 0) a1 f1 a18 f2 a28 f3 a41 (u_9.2.1 1) a40 (u_9.2.1 2)) := hD.sub [0, 1, 2, 3, 4, 5, 6] (by decide) rfl
          exact hret r_10 ((fun _ => 0), (fun k => [(u_9.2.1 0), (u_9.2.1 1), (u_9.2.1 2)].getD k (fun _ => 0)), (fun _ => (fun _ => 0)), (fun k => [1].getD k 0), (fun _ => 0)) dX12_ahead_45 ⟨(show ((((-9223372036854775808) ≤ r_10.toInt ∧ r_10.toInt ≤ 2147483647000) ∧ (1 : Int32).toInt = 1) ∨ (r_10.toInt = (-1) ∧ (1 : Int32).toInt = 0)) from (by have k8_0 := tI_1; (first | omega | (unfold zBd at *; omega)))), (show (0 ≤ (1 : Int32).toInt ∧ (1 : Int32).toInt ≤ 1) from (n_c tI_1 (by decide)))⟩ hP9 hD9 hS
      ·
        as_aux_lemma =>
          refine lv_ldc2 (pc := 35) hx hb hown (hts _ tw_1838) dX12_ahead_35 ?_
          have hP9 : va_P D gcl (zS_109 cB cC cI cJ a0 a1 0 x1 x2 x3 x4 x5 x6 x7 a2 a3 a4 a5 a6 a7 a8 a9 a10 a11 a12 a13 a14 a15 a16 x8 x9 x10 x11 x12 x13 a17 a18 a19 x14 a20 x15 a21 x16 x17 a22 a23 a24 a25 x18 a26 x19 a27 a28 a29 y0 a30 a31 a32 a33 a34 a35 a36 a37 a38 x20 x21 x22 y1 a39 0 a40 a41 a42 a43 x24 x25 x26 x27 a29 (u_9.2.1 0) a1 f1 a18 f2 a28 f3 a41 (u_9.2.1 1) a40 (u_9.2.1 2)) H := g_psub hP [0, 1, 2, 3, 4, 5, 6] rfl
          have hD9 : va_D A (zS_109 cB cC cI cJ a0 a1 0 x1 x2 x3 x4 x5 x6 x7 a2 a3 a4 a5 a6 a7 a8 a9 a10 a11 a12 a13 a14 a15 a16 x8 x9 x10 x11 x12 x13 a17 a18 a19 x14 a20 x15 a21 x16 x17 a22 a23 a24 a25 x18 a26 x19 a27 a28 a29 y0 a30 a31 a32 a33 a34 a35 a36 a37 a38 x20 x21 x22 y1 a39 0 a40 a41 a42 a43 x24 x25 x26 x27 a29 (u_9.2.1 0) a1 f1 a18 f2 a28 f3 a41 (u_9.2.1 1) a40 (u_9.2.1 2)) := hD.sub [0, 1, 2, 3, 4, 5, 6] (by decide) rfl
          exact hret (-1) ((fun _ => 0), (fun k => [(u_9.2.1 0), (u_9.2.1 1), (u_9.2.1 2)].getD k (fun _ => 0)), (fun _ => (fun _ => 0)), (fun k => [0].getD k 0), (fun _ => 0)) dX12_ahead_38 ⟨(show ((((-9223372036854775808) ≤ ((-1) : Int64).toInt ∧ ((-1) : Int64).toInt ≤ 2147483647000) ∧ (0 : Int32).toInt = 1) ∨ (((-1) : Int64).toInt = (-1) ∧ (0 : Int32).toInt = 0)) from (by first | exact (om_1834 tL_m1 hw_5) | (have k9 := tL_m1; have k8_0 := tI_0; (first | omega | (unfold zBd at *; omega))))), (show (0 ≤ (0 : Int32).toInt ∧ (0 : Int32).toInt ≤ 1) from (n_c tI_0 (by decide)))⟩ hP9 hD9 hS
  ·
    as_aux_lemma =>
      refine lv_ldc2 (pc := 12) hx hb hown (hts _ tw_1838) dX12_ahead_12 ?_
      have hP9 : va_P D gcl (zS_109 cB cC cI cJ a0 a1 0 x1 x2 x3 x4 x5 x6 x7 a2 a3 a4 a5 a6 a7 a8 a9 a10 a11 a12 a13 a14 a15 a16 x8 x9 x10 x11 x12 x13 a17 a18 a19 x14 a20 x15 a21 x16 x17 a22 a23 a24 a25 x18 a26 x19 a27 a28 a29 y0 a30 a31 a32 a33 a34 a35 a36 a37 a38 x20 x21 x22 y1 a39 0 a40 a41 a42 a43 x24 x25 x26 x27 a29 (u_1.2.1 0) a1 f1 a18 f2 a28 f3 a41 f4 a40 f5) H := g_psub hP [0, 1, 2, 3, 4, 5, 6] rfl
      have hD9 : va_D A (zS_109 cB cC cI cJ a0 a1 0 x1 x2 x3 x4 x5 x6 x7 a2 a3 a4 a5 a6 a7 a8 a9 a10 a11 a12 a13 a14 a15 a16 x8 x9 x10 x11 x12 x13 a17 a18 a19 x14 a20 x15 a21 x16 x17 a22 a23 a24 a25 x18 a26 x19 a27 a28 a29 y0 a30 a31 a32 a33 a34 a35 a36 a37 a38 x20 x21 x22 y1 a39 0 a40 a41 a42 a43 x24 x25 x26 x27 a29 (u_1.2.1 0) a1 f1 a18 f2 a28 f3 a41 f4 a40 f5) := hD.sub [0, 1, 2, 3, 4, 5, 6] (by decide) rfl
      exact hret (-1) ((fun _ => 0), (fun k => [(u_1.2.1 0), f4, f5].getD k (fun _ => 0)), (fun _ => (fun _ => 0)), (fun k => [0].getD k 0), (fun _ => 0)) dX12_ahead_15 ⟨(show ((((-9223372036854775808) ≤ ((-1) : Int64).toInt ∧ ((-1) : Int64).toInt ≤ 2147483647000) ∧ (0 : Int32).toInt = 1) ∨ (((-1) : Int64).toInt = (-1) ∧ (0 : Int32).toInt = 0)) from (by first | exact (om_1834 tL_m1 hw_5) | (have k9 := tL_m1; have k8_0 := tI_0; (first | omega | (unfold zBd at *; omega))))), (show (0 ≤ (0 : Int32).toInt ∧ (0 : Int32).toInt ≤ 1) from (n_c tI_0 (by decide)))⟩ hP9 hD9 hS
set_option maxHeartbeats 4000000 in
set_option maxRecDepth 100000 in
theorem k_X12_span (l : Launch) (D : va_G) (cB cC cI cJ : ClassId) (sz : Nat) (a0 a1 a2 a3 a4 a5 a6 a7 a8 a9 a10 a11 a12 a13 a14 a15 a16 a17 a18 a19 a20 a21 a22 a23 a24 a25 a26 a27 a28 a29 a30 a31 a32 a33 a34 a35 a36 a37 a38 a39 a40 a41 a42 a43 : Nat) (x0 x1 x2 x3 x4 x5 x6 x7 x8 x9 x10 x11 x12 x13 x14 x15 x16 x17 x18 x19 x20 x21 x22 x23 x24 x25 x26 x27 x28 : Int32) (y0 y1 : Int64) (f0 f1 f2 f3 f4 f5 : Nat → Int32) (hp1 : (0 ≤ x0.toInt ∧ x0.toInt ≤ 1)) (h_x1 : zBd x1.toInt 0 1600) (h_x2 : zBd x2.toInt 0 1600) (h_x3 : zBd x3.toInt 0 1600) (h_x4 : zBd x4.toInt (-1) 1600) (h_x5 : zBd x5.toInt 0 4) (h_x6 : zBd x6.toInt (-1) 1600) (h_x9 : zBd x9.toInt 0 8) (h_x10 : zBd x10.toInt 0 5) (h_x11 : zBd x11.toInt 0 6) (h_x12 : zBd x12.toInt 0 6) (h_x13 : zBd x13.toInt 0 16) (h_x15 : zBd x15.toInt 0 60) (h_x16 : zBd x16.toInt 0 1600) (h_x17 : zBd x17.toInt 0 1700) (h_x19 : zBd x19.toInt 0 1700) (h_x20 : zBd x20.toInt 0 1700) (h_x21 : zBd x21.toInt 0 200) (h_x22 : zBd x22.toInt 0 40) (h_x23 : zBd x23.toInt 0 40) (h_x24 : zBd x24.toInt 0 1) (h_x25 : zBd x25.toInt 0 14) (h_x26 : zBd x26.toInt 0 200) (h_x27 : zBd x27.toInt 0 40) (h_x28 : zBd x28.toInt 0 40) (hr_a0_0 : (x22.toInt ≤ x21.toInt)) (hr_a0_1 : (x21.toInt + x23.toInt ≤ 200)) (hr_a0_2 : (x10.toInt = 0 ∨ 2 ≤ x9.toInt)) (hf_f3 : (∀ j, (-9999) ≤ (f3 j).toInt ∧ (f3 j).toInt ≤ 9999)) (hf_f4 : (∀ j, (-1100000) ≤ (f4 j).toInt ∧ (f4 j).toInt ≤ 1100000)) : Met l yX12_span (.code yX12_span cX12_span 7 (some .long) :: lw_gd) ({ frames := 3, cells := 0, slots := 0, locals := 77 }) (gPre D [(cB, .byte), (cC, .char), (cI, .int), (cJ, .long)] [.ref a0, .int x0] (zS_86 cB cC cI cJ a0 a1 x1 x2 x3 x4 x5 x6 x7 x8 a2 a3 a4 a5 a6 a7 a8 a9 a10 a11 a12 a13 a14 a15 a16 x9 x10 x11 x12 x13 x14 a17 a18 a19 x15 a20 x16 a21 x17 x18 a22 a23 a24 a25 x19 a26 x20 a27 a28 a29 y0 a30 a31 a32 a33 a34 a35 a36 a37 a38 x21 x22 x23 y1 a39 x24 a40 a41 a42 a43 x25 x26 x27 x28 a40 f0 a42 f1 a29 f2 a18 f3 a28 f4 a41 f5) sz) (va_Ql (fun r u => ((((-9223372036854775808) ≤ r.toInt ∧ r.toInt ≤ 9223372036854775807)))) (gB D (va_A (zS_86 cB cC cI cJ a0 a1 x1 x2 x3 x4 x5 x6 x7 x8 a2 a3 a4 a5 a6 a7 a8 a9 a10 a11 a12 a13 a14 a15 a16 x9 x10 x11 x12 x13 x14 a17 a18 a19 x15 a20 x16 a21 x17 x18 a22 a23 a24 a25 x19 a26 x20 a27 a28 a29 y0 a30 a31 a32 a33 a34 a35 a36 a37 a38 x21 x22 x23 y1 a39 x24 a40 a41 a42 a43 x25 x26 x27 x28 a40 f0 a42 f1 a29 f2 a18 f3 a28 f4 a41 f5) sz) (fun u : gEx => (zS_86 cB cC cI cJ a0 a1 x1 x2 x3 x4 x5 x6 x7 x8 a2 a3 a4 a5 a6 a7 a8 a9 a10 a11 a12 a13 a14 a15 a16 x9 x10 x11 x12 x13 x14 a17 a18 a19 x15 a20 x16 a21 x17 x18 a22 a23 a24 a25 x19 a26 x20 a27 a28 a29 y0 a30 a31 a32 a33 a34 a35 a36 a37 a38 x21 x22 x23 y1 a39 x24 a40 a41 a42 a43 x25 x26 x27 x28 a40 (u.2.1 0) a42 (u.2.1 1) a29 (u.2.1 2) a18 f3 a28 f4 a41 (u.2.1 3)))) (va_A (zS_86 cB cC cI cJ a0 a1 x1 x2 x3 x4 x5 x6 x7 x8 a2 a3 a4 a5 a6 a7 a8 a9 a10 a11 a12 a13 a14 a15 a16 x9 x10 x11 x12 x13 x14 a17 a18 a19 x15 a20 x16 a21 x17 x18 a22 a23 a24 a25 x19 a26 x20 a27 a28 a29 y0 a30 a31 a32 a33 a34 a35 a36 a37 a38 x21 x22 x23 y1 a39 x24 a40 a41 a42 a43 x25 x26 x27 x28 a40 f0 a42 f1 a29 f2 a18 f3 a28 f4 a41 f5) sz)) 0 0 (va_A (zS_86 cB cC cI cJ a0 a1 x1 x2 x3 x4 x5 x6 x7 x8 a2 a3 a4 a5 a6 a7 a8 a9 a10 a11 a12 a13 a14 a15 a16 x9 x10 x11 x12 x13 x14 a17 a18 a19 x15 a20 x16 a21 x17 x18 a22 a23 a24 a25 x19 a26 x20 a27 a28 a29 y0 a30 a31 a32 a33 a34 a35 a36 a37 a38 x21 x22 x23 y1 a39 x24 a40 a41 a42 a43 x25 x26 x27 x28 a40 f0 a42 f1 a29 f2 a18 f3 a28 f4 a41 f5) sz) := by
  refine gOf_l (by decide +kernel) (Nat.le_of_ble_eq_true rfl) ?_
  intro p e s m args below meth c ls A Q hx hb hts hown hml hN hK hP hD hA hl hret
  replace hown : s.vm.findClass RX12 = some m.cls := hown
  have hS : va_S A s.heap s.heap [] := va_S.rf
  replace hP : va_P D gcl (zS_86 cB cC cI cJ a0 a1 x1 x2 x3 x4 x5 x6 x7 x8 a2 a3 a4 a5 a6 a7 a8 a9 a10 a11 a12 a13 a14 a15 a16 x9 x10 x11 x12 x13 x14 a17 a18 a19 x15 a20 x16 a21 x17 x18 a22 a23 a24 a25 x19 a26 x20 a27 a28 a29 y0 a30 a31 a32 a33 a34 a35 a36 a37 a38 x21 x22 x23 y1 a39 x24 a40 a41 a42 a43 x25 x26 x27 x28 a40 f0 a42 f1 a29 f2 a18 f3 a28 f4 a41 f5) s.heap := hP
  replace hl : lv_has ls 7 [(0, .ref a0), (1, .int x0)] := hl
  have rx7 : zBd x7.toInt (-2147483648) 2147483647 := n_rng x7
  have rx8 : zBd x8.toInt (-2147483648) 2147483647 := n_rng x8
  have rx14 : zBd x14.toInt (-2147483648) 2147483647 := n_rng x14
  have rx18 : zBd x18.toInt (-2147483648) 2147483647 := n_rng x18
  have ry0 := n_rngL y0
  have ry1 := n_rngL y1
  refine lv_iconst (pc := 0) (v := 0) hx hb dX12_span_0 (by decide) ?_
  refine lv_istore_n (pc := 1) (lv' := [(2, .int 0), (0, .ref a0), (1, .int x0)]) hx hb dX12_span_1 rfl hl (by decide) rfl (fun ls hl => ?_)
  have lp_4 : ∀ (n : Nat) (x_1 : Int32) (f_3 : Nat → Int32) (H : Heap) (locs : List Loc) (ls : Array Slot), (0 ≤ x_1.toInt ∧ x_1.toInt ≤ 2147483647) → (2147483647 - x_1.toInt).toNat < n → va_P D gcl (zS_86 cB cC cI cJ a0 a1 x1 x2 x3 x4 x5 x6 x7 x8 a2 a3 a4 a5 a6 a7 a8 a9 a10 a11 a12 a13 a14 a15 a16 x9 x10 x11 x12 x13 x14 a17 a18 a19 x15 a20 x16 a21 x17 x18 a22 a23 a24 a25 x19 a26 x20 a27 a28 a29 y0 a30 a31 a32 a33 a34 a35 a36 a37 a38 x21 x22 x23 y1 a39 x24 a40 a41 a42 a43 x25 x26 x27 x28 a40 f0 a42 f_3 a29 f2 a18 f3 a28 f4 a41 f5) H → va_D A (zS_86 cB cC cI cJ a0 a1 x1 x2 x3 x4 x5 x6 x7 x8 a2 a3 a4 a5 a6 a7 a8 a9 a10 a11 a12 a13 a14 a15 a16 x9 x10 x11 x12 x13 x14 a17 a18 a19 x15 a20 x16 a21 x17 x18 a22 a23 a24 a25 x19 a26 x20 a27 a28 a29 y0 a30 a31 a32 a33 a34 a35 a36 a37 a38 x21 x22 x23 y1 a39 x24 a40 a41 a42 a43 x25 x26 x27 x28 a40 f0 a42 f_3 a29 f2 a18 f3 a28 f4 a41 f5) → va_S A s.heap H locs → lv_has ls 7 [(2, .int x_1), (0, .ref a0), (1, .int x0)] → W p l e ({ frames := 3, cells := 0, slots := 0, locals := 77 }) s m args below meth c H locs 0 0 Q (F0 m 2 ls []) := by
    intro n
    induction n with
    | zero => intro x_1 f_3 H locs ls hi_2 hmu; exact absurd hmu (Nat.not_lt_zero _)
    | succ n ih_lp_4 =>
      intro x_1 f_3 H locs ls hi_2 hmu_lp_4 hP hD hS hl
      refine lv_iload_n (pc := 2) hx hb dX12_span_2 rfl (lv_at hl 0 rfl) ?_
      refine lv_iconst (pc := 3) (v := 5) hx hb dX12_span_3 (by decide) ?_
      refine b_icmp_ge (pc := 4) (tgt := 25) hx hb rfl tI_5  dX12_span_4 (by decide) (fun c_5 => ?_) (fun c_5 => ?_)
      ·
        as_aux_lemma =>
          refine lv_ldc2 (pc := 25) hx hb hown (hts _ tw_1838) dX12_span_25 ?_
          refine lv_lstore_n (pc := 28) (lv' := [(2, .long (-1)), (0, .ref a0), (1, .int x0)]) hx hb dX12_span_28 rfl hl (by decide) rfl (fun ls hl => ?_)
          refine lv_iconst (pc := 29) (v := 0) hx hb dX12_span_29 (by decide) ?_
          refine lv_istore (pc := 30) (lv' := [(4, .int 0), (2, .long (-1)), (0, .ref a0), (1, .int x0)]) hx hb dX12_span_30 hl (by decide) rfl (fun ls hl => ?_)
          have lp_13 : ∀ (n : Nat) (x_6 : Int32) (y_8 : Int64) (f_10 f_11 f_12 : Nat → Int32) (H : Heap) (locs : List Loc) (ls : Array Slot), (0 ≤ x_6.toInt ∧ x_6.toInt ≤ 2147483647) → (2147483647 - x_6.toInt).toNat < n → va_P D gcl (zS_86 cB cC cI cJ a0 a1 x1 x2 x3 x4 x5 x6 x7 x8 a2 a3 a4 a5 a6 a7 a8 a9 a10 a11 a12 a13 a14 a15 a16 x9 x10 x11 x12 x13 x14 a17 a18 a19 x15 a20 x16 a21 x17 x18 a22 a23 a24 a25 x19 a26 x20 a27 a28 a29 y0 a30 a31 a32 a33 a34 a35 a36 a37 a38 x21 x22 x23 y1 a39 x24 a40 a41 a42 a43 x25 x26 x27 x28 a40 f_10 a42 f_3 a29 f_11 a18 f3 a28 f4 a41 f_12) H → va_D A (zS_86 cB cC cI cJ a0 a1 x1 x2 x3 x4 x5 x6 x7 x8 a2 a3 a4 a5 a6 a7 a8 a9 a10 a11 a12 a13 a14 a15 a16 x9 x10 x11 x12 x13 x14 a17 a18 a19 x15 a20 x16 a21 x17 x18 a22 a23 a24 a25 x19 a26 x20 a27 a28 a29 y0 a30 a31 a32 a33 a34 a35 a36 a37 a38 x21 x22 x23 y1 a39 x24 a40 a41 a42 a43 x25 x26 x27 x28 a40 f_10 a42 f_3 a29 f_11 a18 f3 a28 f4 a41 f_12) → va_S A s.heap H locs → lv_has ls 7 [(4, .int x_6), (2, .long y_8), (0, .ref a0), (1, .int x0)] → W p l e ({ frames := 3, cells := 0, slots := 0, locals := 77 }) s m args below meth c H locs 0 0 Q (F0 m 32 ls []) := by
            intro n
            induction n with
            | zero => intro x_6 y_8 f_10 f_11 f_12 H locs ls hi_7 hmu; exact absurd hmu (Nat.not_lt_zero _)
            | succ n ih_lp_13 =>
              intro x_6 y_8 f_10 f_11 f_12 H locs ls hi_7 hmu_lp_13 hP hD hS hl
              have hi_9 := n_rngL y_8
              refine lv_iload (pc := 32) hx hb dX12_span_32 (lv_at hl 0 rfl) ?_
              refine lv_aload_n (pc := 34) hx hb dX12_span_34 rfl (lv_at hl 2 rfl) ?_
              refine gd_i (pc := 35) (wc := (zS_4 cB cC cI cJ a0 a1 x1 x2 x3 x4 x5 x6 x7 x8 a2 a3 a4 a5 a6 a7 a8 a9 a10 a11 a12 a13 a14 a15 a16 x9 x10 x11 x12 x13 x14 a17 a18 a19 x15 a20 x16 a21 x17 x18 a22 a23 a24 a25 x19 a26 x20 a27 a28 a29 y0 a30 a31 a32 a33 a34 a35 a36 a37 a38 x21 x22 x23 y1 a39 x24 a40 a41 a42 a43 x25 x26 x27 x28)) hP hD hS hA [0] rfl (by decide +kernel) (fun _ => by rfl) (fun hPc hDc => va_runV (As := []) (rest := [.int x_6]) ⟨hx, hb, hml, hown, hts⟩ (k_X12_rowMany l D cB cC cI cJ _ a0 a1 a2 a3 a4 a5 a6 a7 a8 a9 a10 a11 a12 a13 a14 a15 a16 a17 a18 a19 a20 a21 a22 a23 a24 a25 a26 a27 a28 a29 a30 a31 a32 a33 a34 a35 a36 a37 a38 a39 a40 a41 a42 a43 x1 x2 x3 x4 x5 x6 x7 x8 x9 x10 x11 x12 x13 x14 x15 x16 x17 x18 x19 x20 x21 x22 x23 x24 x25 x26 x27 x28 y0 y1 h_x1 h_x2 h_x3 h_x4 h_x5 h_x6 h_x9 h_x10 h_x11 h_x12 h_x13 h_x15 h_x16 h_x17 h_x19 h_x20 h_x21 h_x22 h_x23 h_x24 h_x25 h_x26 h_x27 h_x28 hr_a0_0 hr_a0_1 hr_a0_2) ⟨gcwB hts tw_1868 tw_14 tw_1865 hd_yX12_rowMany ⟨Nat.le_of_ble_eq_true rfl, Nat.le_of_ble_eq_true rfl⟩, hts _ tw_1867, hts _ tp_100⟩ ⟨gblind, va_recv hK hPc (ci := 12) (q0 := 0) rfl rfl, (gpreS hPc hK hDc hN).2⟩ rfl rfl hl.1 rfl (lv_room (Nat.le_of_ble_eq_true rfl)) dX12_span_35 ⟨Nat.le_of_ble_eq_true rfl, Nat.le_of_ble_eq_true rfl⟩) (fun r_15 u_14 H locs hw_16 hP hD hS => ?_)
              replace hP : va_P D gcl (zS_86 cB cC cI cJ a0 a1 x1 x2 x3 x4 x5 x6 x7 x8 a2 a3 a4 a5 a6 a7 a8 a9 a10 a11 a12 a13 a14 a15 a16 x9 x10 x11 x12 x13 x14 a17 a18 a19 x15 a20 x16 a21 x17 x18 a22 a23 a24 a25 x19 a26 x20 a27 a28 a29 y0 a30 a31 a32 a33 a34 a35 a36 a37 a38 x21 x22 x23 y1 a39 x24 a40 a41 a42 a43 x25 x26 x27 x28 a40 f_10 a42 f_3 a29 f_11 a18 f3 a28 f4 a41 f_12) H := hP
              replace hD : va_D A (zS_86 cB cC cI cJ a0 a1 x1 x2 x3 x4 x5 x6 x7 x8 a2 a3 a4 a5 a6 a7 a8 a9 a10 a11 a12 a13 a14 a15 a16 x9 x10 x11 x12 x13 x14 a17 a18 a19 x15 a20 x16 a21 x17 x18 a22 a23 a24 a25 x19 a26 x20 a27 a28 a29 y0 a30 a31 a32 a33 a34 a35 a36 a37 a38 x21 x22 x23 y1 a39 x24 a40 a41 a42 a43 x25 x26 x27 x28 a40 f_10 a42 f_3 a29 f_11 a18 f3 a28 f4 a41 f_12) := hD
              have hw_17 : ((((-2147483648) ≤ r_15.toInt ∧ r_15.toInt ≤ 2147483647) ∧ ¬ x10.toInt = 0 ∧ (1 ≤ x10.toInt ∧ x10.toInt ≤ 5)) ∨ (r_15.toInt = 0 ∧ x10.toInt = 0)) := hw_16
              have rr_15 : zBd r_15.toInt (-2147483648) 2147483647 := n_rng r_15
              refine b_icmp_ge (pc := 38) (tgt := 89) hx hb rfl rfl  dX12_span_38 (by decide) (fun c_18 => ?_) (fun c_18 => ?_)
              ·
                as_aux_lemma =>
                  refine lv_iconst (pc := 89) (v := 0) hx hb dX12_span_89 (by decide) ?_
                  refine lv_istore (pc := 90) (lv' := [(4, .int 0), (2, .long y_8), (0, .ref a0), (1, .int x0)]) hx hb dX12_span_90 hl (by decide) rfl (fun ls hl => ?_)
                  have lp_22 : ∀ (n : Nat) (x_19 : Int32) (f_21 : Nat → Int32) (H : Heap) (locs : List Loc) (ls : Array Slot), (0 ≤ x_19.toInt ∧ x_19.toInt ≤ 2147483647) → (2147483647 - x_19.toInt).toNat < n → va_P D gcl (zS_86 cB cC cI cJ a0 a1 x1 x2 x3 x4 x5 x6 x7 x8 a2 a3 a4 a5 a6 a7 a8 a9 a10 a11 a12 a13 a14 a15 a16 x9 x10 x11 x12 x13 x14 a17 a18 a19 x15 a20 x16 a21 x17 x18 a22 a23 a24 a25 x19 a26 x20 a27 a28 a29 y0 a30 a31 a32 a33 a34 a35 a36 a37 a38 x21 x22 x23 y1 a39 x24 a40 a41 a42 a43 x25 x26 x27 x28 a40 f_21 a42 f_3 a29 f_11 a18 f3 a28 f4 a41 f_12) H → va_D A (zS_86 cB cC cI cJ a0 a1 x1 x2 x3 x4 x5 x6 x7 x8 a2 a3 a4 a5 a6 a7 a8 a9 a10 a11 a12 a13 a14 a15 a16 x9 x10 x11 x12 x13 x14 a17 a18 a19 x15 a20 x16 a21 x17 x18 a22 a23 a24 a25 x19 a26 x20 a27 a28 a29 y0 a30 a31 a32 a33 a34 a35 a36 a37 a38 x21 x22 x23 y1 a39 x24 a40 a41 a42 a43 x25 x26 x27 x28 a40 f_21 a42 f_3 a29 f_11 a18 f3 a28 f4 a41 f_12) → va_S A s.heap H locs → lv_has ls 7 [(4, .int x_19), (2, .long y_8), (0, .ref a0), (1, .int x0)] → W p l e ({ frames := 3, cells := 0, slots := 0, locals := 77 }) s m args below meth c H locs 0 0 Q (F0 m 92 ls []) := by
                    intro n
                    induction n with
                    | zero => intro x_19 f_21 H locs ls hi_20 hmu; exact absurd hmu (Nat.not_lt_zero _)
                    | succ n ih_lp_22 =>
                      intro x_19 f_21 H locs ls hi_20 hmu_lp_22 hP hD hS hl
                      refine lv_iload (pc := 92) hx hb dX12_span_92 (lv_at hl 0 rfl) ?_
                      refine lv_iconst (pc := 94) (v := 5) hx hb dX12_span_94 (by decide) ?_
                      refine b_icmp_ge (pc := 95) (tgt := 118) hx hb rfl tI_5  dX12_span_95 (by decide) (fun c_23 => ?_) (fun c_23 => ?_)
                      ·
                        as_aux_lemma =>
                          refine lv_lload_n (pc := 118) hx hb dX12_span_118 rfl (lv_at hl 1 rfl) ?_
                          have hP9 : va_P D gcl (zS_86 cB cC cI cJ a0 a1 x1 x2 x3 x4 x5 x6 x7 x8 a2 a3 a4 a5 a6 a7 a8 a9 a10 a11 a12 a13 a14 a15 a16 x9 x10 x11 x12 x13 x14 a17 a18 a19 x15 a20 x16 a21 x17 x18 a22 a23 a24 a25 x19 a26 x20 a27 a28 a29 y0 a30 a31 a32 a33 a34 a35 a36 a37 a38 x21 x22 x23 y1 a39 x24 a40 a41 a42 a43 x25 x26 x27 x28 a40 f_21 a42 f_3 a29 f_11 a18 f3 a28 f4 a41 f_12) H := g_psub hP [0, 1, 2, 3, 4, 5, 6] rfl
                          have hD9 : va_D A (zS_86 cB cC cI cJ a0 a1 x1 x2 x3 x4 x5 x6 x7 x8 a2 a3 a4 a5 a6 a7 a8 a9 a10 a11 a12 a13 a14 a15 a16 x9 x10 x11 x12 x13 x14 a17 a18 a19 x15 a20 x16 a21 x17 x18 a22 a23 a24 a25 x19 a26 x20 a27 a28 a29 y0 a30 a31 a32 a33 a34 a35 a36 a37 a38 x21 x22 x23 y1 a39 x24 a40 a41 a42 a43 x25 x26 x27 x28 a40 f_21 a42 f_3 a29 f_11 a18 f3 a28 f4 a41 f_12) := hD.sub [0, 1, 2, 3, 4, 5, 6] (by decide) rfl
                          exact hret y_8 ((fun _ => 0), (fun k => [f_21, f_3, f_11, f_12].getD k (fun _ => 0)), (fun _ => (fun _ => 0)), (fun _ => 0), (fun _ => 0)) dX12_span_119 (show ((((-9223372036854775808) ≤ y_8.toInt ∧ y_8.toInt ≤ 9223372036854775807))) from (by first | exact (om_1163 hi_9.1 hi_9.2) | ((first | omega | (unfold zBd at *; omega))))) hP9 hD9 hS
                      ·
                        as_aux_lemma =>
                          refine lv_aload_n (pc := 98) hx hb dX12_span_98 rfl (lv_at hl 2 rfl) ?_
                          refine va_get (pc := 99) (ci := 12) (v := .ref a40) (C := RX12) (T := TX12) (N := 73) hx hb hts iX12 hown hK hP 0 rfl rfl 65 (by decide) (hts _ tw_1466) (fun _ h9 => h9) rfl dX12_span_99 ?_
                          refine lv_iload (pc := 102) hx hb dX12_span_102 (lv_at hl 0 rfl) ?_
                          refine lv_aload_n (pc := 104) hx hb dX12_span_104 rfl (lv_at hl 2 rfl) ?_
                          refine va_get (pc := 105) (ci := 12) (v := .ref a42) (C := RX12) (T := TX12) (N := 73) hx hb hts iX12 hown hK hP 0 rfl rfl 67 (by decide) (hts _ tw_1468) (fun _ h9 => h9) rfl dX12_span_105 ?_
                          refine lv_iload (pc := 108) hx hb dX12_span_108 (lv_at hl 0 rfl) ?_
                          refine va_iald (pc := 110) hx hb hK hP 2 2 rfl rfl (n_in rfl (by first | exact (om_0 hi_20.1) | ((first | omega | (unfold zBd at *; omega)))) (by first | exact (om_434 c_23) | ((first | omega | (unfold zBd at *; omega))))) dX12_span_110 ?_
                          refine lv_topi (fun x_24 ex_24 => ?_)
                          have rx_24 : zBd x_24.toInt (-2147483648) 2147483647 := n_rng x_24
                          refine g_iastore (pc := 111) hx hb hK hP hD hS 1 2 rfl rfl (n_in rfl (by first | exact (om_0 hi_20.1) | ((first | omega | (unfold zBd at *; omega)))) (by first | exact (om_434 c_23) | ((first | omega | (unfold zBd at *; omega))))) dX12_span_111 (fun f_25 H locs hP hD hS => ?_)
                          replace hP : va_P D gcl (zS_86 cB cC cI cJ a0 a1 x1 x2 x3 x4 x5 x6 x7 x8 a2 a3 a4 a5 a6 a7 a8 a9 a10 a11 a12 a13 a14 a15 a16 x9 x10 x11 x12 x13 x14 a17 a18 a19 x15 a20 x16 a21 x17 x18 a22 a23 a24 a25 x19 a26 x20 a27 a28 a29 y0 a30 a31 a32 a33 a34 a35 a36 a37 a38 x21 x22 x23 y1 a39 x24 a40 a41 a42 a43 x25 x26 x27 x28 a40 f_25 a42 f_3 a29 f_11 a18 f3 a28 f4 a41 f_12) H := hP
                          replace hD : va_D A (zS_86 cB cC cI cJ a0 a1 x1 x2 x3 x4 x5 x6 x7 x8 a2 a3 a4 a5 a6 a7 a8 a9 a10 a11 a12 a13 a14 a15 a16 x9 x10 x11 x12 x13 x14 a17 a18 a19 x15 a20 x16 a21 x17 x18 a22 a23 a24 a25 x19 a26 x20 a27 a28 a29 y0 a30 a31 a32 a33 a34 a35 a36 a37 a38 x21 x22 x23 y1 a39 x24 a40 a41 a42 a43 x25 x26 x27 x28 a40 f_25 a42 f_3 a29 f_11 a18 f3 a28 f4 a41 f_12) := hD
                          refine b_iinc (pc := 112) hx hb dX12_span_112 hl (k := 0) rfl rfl tI_1 (by first | exact (om_2 hi_20.1) | ((first | omega | (unfold zBd at *; omega)))) (by first | exact (om_409 c_23) | ((first | omega | (unfold zBd at *; omega)))) (by decide) (fun x_26 ex_26 ls hl => ?_)
                          replace hl : lv_has ls 7 [(4, .int x_26), (2, .long y_8), (0, .ref a0), (1, .int x0)] := hl
                          as_aux_lemma =>
                            refine lv_goto (pc := 115) (tgt := 92) hx hb dX12_span_115 (by decide) ?_
                            exact ih_lp_22 x_26 f_25 _ _ ls (by first | exact (om_410 ex_26 hi_20.1 c_23) | ((first | omega | (unfold zBd at *; omega)))) (by (first | omega | (unfold zBd at *; omega))) hP hD hS (lv_sub hl [0, 1, 2, 3] rfl)
                  exact lp_22 _ 0 f_10 _ _ ls (n_c tI_0 (by decide)) (Nat.lt_succ_self _) hP hD hS (lv_sub hl [0, 1, 2, 3] rfl)
              ·
                as_aux_lemma =>
                  refine lv_aload_n (pc := 41) hx hb dX12_span_41 rfl (lv_at hl 2 rfl) ?_
                  refine lv_iload (pc := 42) hx hb dX12_span_42 (lv_at hl 0 rfl) ?_
                  refine gd_v (pc := 44) (wc := (zS_33 cB cC cI cJ a0 a1 x1 x2 x3 x4 x5 x6 x7 x8 a2 a3 a4 a5 a6 a7 a8 a9 a10 a11 a12 a13 a14 a15 a16 x9 x10 x11 x12 x13 x14 a17 a18 a19 x15 a20 x16 a21 x17 x18 a22 a23 a24 a25 x19 a26 x20 a27 a28 a29 y0 a30 a31 a32 a33 a34 a35 a36 a37 a38 x21 x22 x23 y1 a39 x24 a40 a41 a42 a43 x25 x26 x27 x28 a29 f_11)) hP hD hS hA [0, 3] rfl (by decide +kernel) (fun _ => by rfl) (fun hPc hDc => va_runV (As := [.int x_6]) (rest := []) ⟨hx, hb, hml, hown, hts⟩ (k_X12_rowIs l D cB cC cI cJ _ a0 a1 a2 a3 a4 a5 a6 a7 a8 a9 a10 a11 a12 a13 a14 a15 a16 a17 a18 a19 a20 a21 a22 a23 a24 a25 a26 a27 a28 a29 a30 a31 a32 a33 a34 a35 a36 a37 a38 a39 a40 a41 a42 a43 x_6 x1 x2 x3 x4 x5 x6 x7 x8 x9 x10 x11 x12 x13 x14 x15 x16 x17 x18 x19 x20 x21 x22 x23 x24 x25 x26 x27 x28 y0 y1 f_11 h_x1 h_x2 h_x3 h_x4 h_x5 h_x6 h_x9 h_x10 h_x11 h_x12 h_x13 h_x15 h_x16 h_x17 h_x19 h_x20 h_x21 h_x22 h_x23 h_x24 h_x25 h_x26 h_x27 h_x28 hr_a0_0 hr_a0_1 hr_a0_2) ⟨gcwB hts tw_1876 tw_14 tw_1873 hd_yX12_rowIs ⟨Nat.le_of_ble_eq_true rfl, Nat.le_of_ble_eq_true rfl⟩, hts _ tw_1875, hts _ tp_102⟩ ⟨gblind, va_recv hK hPc (ci := 12) (q0 := 0) rfl rfl, (gpreS hPc hK hDc hN).2⟩ rfl rfl hl.1 rfl (lv_room (Nat.le_of_ble_eq_true rfl)) dX12_span_44 ⟨Nat.le_of_ble_eq_true rfl, Nat.le_of_ble_eq_true rfl⟩) (fun u_27 H locs hw_29 hP hD hS => ?_)
                  replace hP : va_P D gcl (zS_86 cB cC cI cJ a0 a1 x1 x2 x3 x4 x5 x6 x7 x8 a2 a3 a4 a5 a6 a7 a8 a9 a10 a11 a12 a13 a14 a15 a16 x9 x10 x11 x12 x13 x14 a17 a18 a19 x15 a20 x16 a21 x17 x18 a22 a23 a24 a25 x19 a26 x20 a27 a28 a29 y0 a30 a31 a32 a33 a34 a35 a36 a37 a38 x21 x22 x23 y1 a39 x24 a40 a41 a42 a43 x25 x26 x27 x28 a40 f_10 a42 f_3 a29 (u_27.2.1 0) a18 f3 a28 f4 a41 f_12) H := hP
                  replace hD : va_D A (zS_86 cB cC cI cJ a0 a1 x1 x2 x3 x4 x5 x6 x7 x8 a2 a3 a4 a5 a6 a7 a8 a9 a10 a11 a12 a13 a14 a15 a16 x9 x10 x11 x12 x13 x14 a17 a18 a19 x15 a20 x16 a21 x17 x18 a22 a23 a24 a25 x19 a26 x20 a27 a28 a29 y0 a30 a31 a32 a33 a34 a35 a36 a37 a38 x21 x22 x23 y1 a39 x24 a40 a41 a42 a43 x25 x26 x27 x28 a40 f_10 a42 f_3 a29 (u_27.2.1 0) a18 f3 a28 f4 a41 f_12) := hD
                  have hw_30 : (RB (u_27.2.1 0) 0 x10.toInt) := hw_29
                  refine lv_aload_n (pc := 47) hx hb dX12_span_47 rfl (lv_at hl 2 rfl) ?_
                  refine gd_l (pc := 48) (wc := (zS_63 cB cC cI cJ a0 a1 x1 x2 x3 x4 x5 x6 x7 x8 a2 a3 a4 a5 a6 a7 a8 a9 a10 a11 a12 a13 a14 a15 a16 x9 x10 x11 x12 x13 x14 a17 a18 a19 x15 a20 x16 a21 x17 x18 a22 a23 a24 a25 x19 a26 x20 a27 a28 a29 y0 a30 a31 a32 a33 a34 a35 a36 a37 a38 x21 x22 x23 y1 a39 x24 a40 a41 a42 a43 x25 x26 x27 x28 a18 f3 a29 (u_27.2.1 0) a28 f4 a41 f_12 a40 f_10)) hP hD hS hA [0, 4, 3, 5, 6, 1] rfl (by decide +kernel) (fun _ => by rfl) (fun hPc hDc => va_runV (As := []) (rest := []) ⟨hx, hb, hml, hown, hts⟩ (k_X12_aheadOf l D cB cC cI cJ _ a0 a1 a2 a3 a4 a5 a6 a7 a8 a9 a10 a11 a12 a13 a14 a15 a16 a17 a18 a19 a20 a21 a22 a23 a24 a25 a26 a27 a28 a29 a30 a31 a32 a33 a34 a35 a36 a37 a38 a39 a40 a41 a42 a43 x1 x2 x3 x4 x5 x6 x7 x8 x9 x10 x11 x12 x13 x14 x15 x16 x17 x18 x19 x20 x21 x22 x23 x24 x25 x26 x27 x28 y0 y1 f3 (u_27.2.1 0) f4 f_12 f_10 h_x1 h_x2 h_x3 h_x4 h_x5 h_x6 h_x9 h_x10 h_x11 h_x12 h_x13 h_x15 h_x16 h_x17 h_x19 h_x20 h_x21 h_x22 h_x23 h_x24 h_x25 h_x26 h_x27 h_x28 hr_a0_0 hr_a0_1 hr_a0_2 hf_f3 hf_f4) ⟨gcwB hts tw_2032 tw_14 tw_2029 hd_yX12_aheadOf ⟨Nat.le_of_ble_eq_true rfl, Nat.le_of_ble_eq_true rfl⟩, hts _ tw_2031, hts _ tp_116⟩ ⟨gblind, va_recv hK hPc (ci := 12) (q0 := 0) rfl rfl, (gpreS hPc hK hDc hN).2⟩ rfl rfl hl.1 rfl (lv_room (Nat.le_of_ble_eq_true rfl)) dX12_span_48 ⟨Nat.le_of_ble_eq_true rfl, Nat.le_of_ble_eq_true rfl⟩) (fun r_32 u_31 H locs hw_33 hP hD hS => ?_)
                  replace hP : va_P D gcl (zS_86 cB cC cI cJ a0 a1 x1 x2 x3 x4 x5 x6 x7 x8 a2 a3 a4 a5 a6 a7 a8 a9 a10 a11 a12 a13 a14 a15 a16 x9 x10 x11 x12 x13 x14 a17 a18 a19 x15 a20 x16 a21 x17 x18 a22 a23 a24 a25 x19 a26 x20 a27 a28 a29 y0 a30 a31 a32 a33 a34 a35 a36 a37 a38 x21 x22 x23 y1 a39 x24 a40 a41 a42 a43 x25 x26 x27 x28 a40 (u_31.2.1 2) a42 f_3 a29 (u_31.2.1 0) a18 f3 a28 f4 a41 (u_31.2.1 1)) H := hP
                  replace hD : va_D A (zS_86 cB cC cI cJ a0 a1 x1 x2 x3 x4 x5 x6 x7 x8 a2 a3 a4 a5 a6 a7 a8 a9 a10 a11 a12 a13 a14 a15 a16 x9 x10 x11 x12 x13 x14 a17 a18 a19 x15 a20 x16 a21 x17 x18 a22 a23 a24 a25 x19 a26 x20 a27 a28 a29 y0 a30 a31 a32 a33 a34 a35 a36 a37 a38 x21 x22 x23 y1 a39 x24 a40 a41 a42 a43 x25 x26 x27 x28 a40 (u_31.2.1 2) a42 f_3 a29 (u_31.2.1 0) a18 f3 a28 f4 a41 (u_31.2.1 1)) := hD
                  have hw_34 : ((((-9223372036854775808) ≤ r_32.toInt ∧ r_32.toInt ≤ 9223372036854775807) ∧ (0 ≤ x10.toInt ∧ x10.toInt ≤ 5))) := hw_33
                  have rr_32 := n_rngL r_32
                  refine lv_lstore (pc := 51) (lv' := [(5, .long r_32), (4, .int x_6), (2, .long y_8), (0, .ref a0), (1, .int x0)]) hx hb dX12_span_51 hl (by decide) rfl (fun ls hl => ?_)
                  refine lv_lload_n (pc := 53) hx hb dX12_span_53 rfl (lv_at hl 2 rfl) ?_
                  refine lv_lconst (pc := 54) (v := 0) hx hb dX12_span_54 (by decide) ?_
                  refine b_lcmp_lt (pc := 55) (tgt := 80) hx hb rfl tL_0 dX12_span_55 dX12_span_56 (by decide) (fun c_35 => ?_) (fun c_35 => ?_)
                  ·
                    as_aux_lemma =>
                      refine lv_lload (pc := 80) hx hb dX12_span_80 (lv_at hl 0 rfl) ?_
                      refine lv_lstore_n (pc := 82) (lv' := [(2, .long r_32), (5, .long r_32), (4, .int x_6), (0, .ref a0), (1, .int x0)]) hx hb dX12_span_82 rfl hl (by decide) rfl (fun ls hl => ?_)
                      refine b_iinc (pc := 83) hx hb dX12_span_83 hl (k := 2) rfl rfl tI_1 (by first | exact (om_2 hi_7.1) | ((first | omega | (unfold zBd at *; omega)))) (by first | exact (om_1087 c_18 rr_15.2) | ((first | omega | (unfold zBd at *; omega)))) (by decide) (fun x_36 ex_36 ls hl => ?_)
                      replace hl : lv_has ls 7 [(4, .int x_36), (2, .long r_32), (5, .long r_32), (0, .ref a0), (1, .int x0)] := hl
                      refine lv_goto (pc := 86) (tgt := 32) hx hb dX12_span_86 (by decide) ?_
                      exact ih_lp_13 x_36 r_32 (u_31.2.1 2) (u_31.2.1 0) (u_31.2.1 1) _ _ ls (by first | exact (om_1088 ex_36 hi_7.1 c_18 rr_15.2) | ((first | omega | (unfold zBd at *; omega)))) (by (first | omega | (unfold zBd at *; omega))) hP hD hS (lv_sub hl [0, 1, 3, 4] rfl)
                  ·
                    as_aux_lemma =>
                      refine lv_iload_n (pc := 59) hx hb dX12_span_59 rfl (lv_at hl 4 rfl) ?_
                      refine b_if_eq (pc := 60) (tgt := 73) hx hb rfl  dX12_span_60 (by decide) (fun c_37 => ?_) (fun c_37 => ?_)
                      ·
                        as_aux_lemma =>
                          refine lv_lload (pc := 73) hx hb dX12_span_73 (lv_at hl 0 rfl) ?_
                          refine lv_lload_n (pc := 75) hx hb dX12_span_75 rfl (lv_at hl 2 rfl) ?_
                          refine b_lcmp_ge (pc := 76) (tgt := 83) hx hb rfl rfl dX12_span_76 dX12_span_77 (by decide) (fun c_38 => ?_) (fun c_38 => ?_)
                          ·
                            as_aux_lemma =>
                              refine b_iinc (pc := 83) hx hb dX12_span_83 hl (k := 1) rfl rfl tI_1 (by first | exact (om_2 hi_7.1) | ((first | omega | (unfold zBd at *; omega)))) (by first | exact (om_1087 c_18 rr_15.2) | ((first | omega | (unfold zBd at *; omega)))) (by decide) (fun x_39 ex_39 ls hl => ?_)
                              replace hl : lv_has ls 7 [(4, .int x_39), (5, .long r_32), (2, .long y_8), (0, .ref a0), (1, .int x0)] := hl
                              refine lv_goto (pc := 86) (tgt := 32) hx hb dX12_span_86 (by decide) ?_
                              exact ih_lp_13 x_39 y_8 (u_31.2.1 2) (u_31.2.1 0) (u_31.2.1 1) _ _ ls (by first | exact (om_1088 ex_39 hi_7.1 c_18 rr_15.2) | ((first | omega | (unfold zBd at *; omega)))) (by (first | omega | (unfold zBd at *; omega))) hP hD hS (lv_sub hl [0, 2, 3, 4] rfl)
                          ·
                            as_aux_lemma =>
                              refine lv_lload (pc := 80) hx hb dX12_span_80 (lv_at hl 0 rfl) ?_
                              refine lv_lstore_n (pc := 82) (lv' := [(2, .long r_32), (5, .long r_32), (4, .int x_6), (0, .ref a0), (1, .int x0)]) hx hb dX12_span_82 rfl hl (by decide) rfl (fun ls hl => ?_)
                              refine b_iinc (pc := 83) hx hb dX12_span_83 hl (k := 2) rfl rfl tI_1 (by first | exact (om_2 hi_7.1) | ((first | omega | (unfold zBd at *; omega)))) (by first | exact (om_1087 c_18 rr_15.2) | ((first | omega | (unfold zBd at *; omega)))) (by decide) (fun x_40 ex_40 ls hl => ?_)
                              replace hl : lv_has ls 7 [(4, .int x_40), (2, .long r_32), (5, .long r_32), (0, .ref a0), (1, .int x0)] := hl
                              refine lv_goto (pc := 86) (tgt := 32) hx hb dX12_span_86 (by decide) ?_
                              exact ih_lp_13 x_40 r_32 (u_31.2.1 2) (u_31.2.1 0) (u_31.2.1 1) _ _ ls (by first | exact (om_1088 ex_40 hi_7.1 c_18 rr_15.2) | ((first | omega | (unfold zBd at *; omega)))) (by (first | omega | (unfold zBd at *; omega))) hP hD hS (lv_sub hl [0, 1, 3, 4] rfl)
                      ·
                        as_aux_lemma =>
                          refine lv_lload (pc := 63) hx hb dX12_span_63 (lv_at hl 0 rfl) ?_
                          refine lv_lload_n (pc := 65) hx hb dX12_span_65 rfl (lv_at hl 2 rfl) ?_
                          refine b_lcmp_le (pc := 66) (tgt := 83) hx hb rfl rfl dX12_span_66 dX12_span_67 (by decide) (fun c_41 => ?_) (fun c_41 => ?_)
                          ·
                            as_aux_lemma =>
                              refine b_iinc (pc := 83) hx hb dX12_span_83 hl (k := 1) rfl rfl tI_1 (by first | exact (om_2 hi_7.1) | ((first | omega | (unfold zBd at *; omega)))) (by first | exact (om_1087 c_18 rr_15.2) | ((first | omega | (unfold zBd at *; omega)))) (by decide) (fun x_42 ex_42 ls hl => ?_)
                              replace hl : lv_has ls 7 [(4, .int x_42), (5, .long r_32), (2, .long y_8), (0, .ref a0), (1, .int x0)] := hl
                              refine lv_goto (pc := 86) (tgt := 32) hx hb dX12_span_86 (by decide) ?_
                              exact ih_lp_13 x_42 y_8 (u_31.2.1 2) (u_31.2.1 0) (u_31.2.1 1) _ _ ls (by first | exact (om_1088 ex_42 hi_7.1 c_18 rr_15.2) | ((first | omega | (unfold zBd at *; omega)))) (by (first | omega | (unfold zBd at *; omega))) hP hD hS (lv_sub hl [0, 2, 3, 4] rfl)
                          ·
                            as_aux_lemma =>
                              refine lv_goto (pc := 70) (tgt := 80) hx hb dX12_span_70 (by decide) ?_
                              refine lv_lload (pc := 80) hx hb dX12_span_80 (lv_at hl 0 rfl) ?_
                              refine lv_lstore_n (pc := 82) (lv' := [(2, .long r_32), (5, .long r_32), (4, .int x_6), (0, .ref a0), (1, .int x0)]) hx hb dX12_span_82 rfl hl (by decide) rfl (fun ls hl => ?_)
                              refine b_iinc (pc := 83) hx hb dX12_span_83 hl (k := 2) rfl rfl tI_1 (by first | exact (om_2 hi_7.1) | ((first | omega | (unfold zBd at *; omega)))) (by first | exact (om_1087 c_18 rr_15.2) | ((first | omega | (unfold zBd at *; omega)))) (by decide) (fun x_43 ex_43 ls hl => ?_)
                              replace hl : lv_has ls 7 [(4, .int x_43), (2, .long r_32), (5, .long r_32), (0, .ref a0), (1, .int x0)] := hl
                              refine lv_goto (pc := 86) (tgt := 32) hx hb dX12_span_86 (by decide) ?_
                              exact ih_lp_13 x_43 r_32 (u_31.2.1 2) (u_31.2.1 0) (u_31.2.1 1) _ _ ls (by first | exact (om_1088 ex_43 hi_7.1 c_18 rr_15.2) | ((first | omega | (unfold zBd at *; omega)))) (by (first | omega | (unfold zBd at *; omega))) hP hD hS (lv_sub hl [0, 1, 3, 4] rfl)
          exact lp_13 _ 0 (-1) f0 f2 f5 _ _ ls (n_c tI_0 (by decide)) (Nat.lt_succ_self _) hP hD hS (lv_sub hl [0, 1, 2, 3] rfl)
      ·
        as_aux_lemma =>
          refine lv_aload_n (pc := 7) hx hb dX12_span_7 rfl (lv_at hl 1 rfl) ?_
          refine va_get (pc := 8) (ci := 12) (v := .ref a42) (C := RX12) (T := TX12) (N := 73) hx hb hts iX12 hown hK hP 0 rfl rfl 67 (by decide) (hts _ tw_1468) (fun _ h9 => h9) rfl dX12_span_8 ?_
          refine lv_iload_n (pc := 11) hx hb dX12_span_11 rfl (lv_at hl 0 rfl) ?_
          refine lv_aload_n (pc := 12) hx hb dX12_span_12 rfl (lv_at hl 1 rfl) ?_
          refine va_get (pc := 13) (ci := 12) (v := .ref a40) (C := RX12) (T := TX12) (N := 73) hx hb hts iX12 hown hK hP 0 rfl rfl 65 (by decide) (hts _ tw_1466) (fun _ h9 => h9) rfl dX12_span_13 ?_
          refine lv_iload_n (pc := 16) hx hb dX12_span_16 rfl (lv_at hl 0 rfl) ?_
          refine va_iald (pc := 17) hx hb hK hP 1 2 rfl rfl (n_in rfl (by first | exact (om_0 hi_2.1) | ((first | omega | (unfold zBd at *; omega)))) (by first | exact (om_434 c_5) | ((first | omega | (unfold zBd at *; omega))))) dX12_span_17 ?_
          refine lv_topi (fun x_44 ex_44 => ?_)
          have rx_44 : zBd x_44.toInt (-2147483648) 2147483647 := n_rng x_44
          refine g_iastore (pc := 18) hx hb hK hP hD hS 2 2 rfl rfl (n_in rfl (by first | exact (om_0 hi_2.1) | ((first | omega | (unfold zBd at *; omega)))) (by first | exact (om_434 c_5) | ((first | omega | (unfold zBd at *; omega))))) dX12_span_18 (fun f_45 H locs hP hD hS => ?_)
          replace hP : va_P D gcl (zS_86 cB cC cI cJ a0 a1 x1 x2 x3 x4 x5 x6 x7 x8 a2 a3 a4 a5 a6 a7 a8 a9 a10 a11 a12 a13 a14 a15 a16 x9 x10 x11 x12 x13 x14 a17 a18 a19 x15 a20 x16 a21 x17 x18 a22 a23 a24 a25 x19 a26 x20 a27 a28 a29 y0 a30 a31 a32 a33 a34 a35 a36 a37 a38 x21 x22 x23 y1 a39 x24 a40 a41 a42 a43 x25 x26 x27 x28 a40 f0 a42 f_45 a29 f2 a18 f3 a28 f4 a41 f5) H := hP
          replace hD : va_D A (zS_86 cB cC cI cJ a0 a1 x1 x2 x3 x4 x5 x6 x7 x8 a2 a3 a4 a5 a6 a7 a8 a9 a10 a11 a12 a13 a14 a15 a16 x9 x10 x11 x12 x13 x14 a17 a18 a19 x15 a20 x16 a21 x17 x18 a22 a23 a24 a25 x19 a26 x20 a27 a28 a29 y0 a30 a31 a32 a33 a34 a35 a36 a37 a38 x21 x22 x23 y1 a39 x24 a40 a41 a42 a43 x25 x26 x27 x28 a40 f0 a42 f_45 a29 f2 a18 f3 a28 f4 a41 f5) := hD
          refine b_iinc (pc := 19) hx hb dX12_span_19 hl (k := 0) rfl rfl tI_1 (by first | exact (om_2 hi_2.1) | ((first | omega | (unfold zBd at *; omega)))) (by first | exact (om_409 c_5) | ((first | omega | (unfold zBd at *; omega)))) (by decide) (fun x_46 ex_46 ls hl => ?_)
          replace hl : lv_has ls 7 [(2, .int x_46), (0, .ref a0), (1, .int x0)] := hl
          as_aux_lemma =>
            refine lv_goto (pc := 22) (tgt := 2) hx hb dX12_span_22 (by decide) ?_
            exact ih_lp_4 x_46 f_45 _ _ ls (by first | exact (om_410 ex_46 hi_2.1 c_5) | ((first | omega | (unfold zBd at *; omega)))) (by (first | omega | (unfold zBd at *; omega))) hP hD hS (lv_sub hl [0, 1, 2] rfl)
  exact lp_4 _ 0 f1 _ _ ls (n_c tI_0 (by decide)) (Nat.lt_succ_self _) hP hD hS (lv_sub hl [0, 1, 2] rfl)
