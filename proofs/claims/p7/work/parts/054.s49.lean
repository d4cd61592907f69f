theorem om_1640 {a b : Int} (h0 : ((-2147483648) ≤ a)) (h1 : (a ≤ 2147483647)) (h2 : (b ≥ 0)) : (((((-2147483648) ≤ a ∧ a ≤ 2147483647) ∧ b ≥ 0) ∨ (a = (-1) ∧ b < 0))) := by omega
theorem om_1641 {a b : Int} (h0 : (a = (-1))) : (((((-2147483648) ≤ a ∧ a ≤ 2147483647) ∧ b ≥ 0) ∨ (a = (-1) ∧ b < 0))) := by omega
set_option maxHeartbeats 4000000 in
set_option maxRecDepth 100000 in
theorem k_X12_within (l : Launch) (D : va_G) (cB cC cI cJ : ClassId) (sz : Nat) (a0 a1 a2 a3 a4 a5 a6 a7 a8 a9 a10 a11 a12 a13 a14 a15 a16 a17 a18 a19 a20 a21 a22 a23 a24 a25 a26 a27 a28 a29 a30 a31 a32 a33 a34 a35 a36 a37 a38 a39 a40 a41 a42 a43 : Nat) (x0 x1 x2 x3 x4 x5 x6 x7 x8 x9 x10 x11 x12 x13 x14 x15 x16 x17 x18 x19 x20 x21 x22 x23 x24 x25 x26 x27 : Int32) (y0 y1 y2 : Int64) (f0 f1 f2 : Nat → Int32) (h_x0 : zBd x0.toInt 0 1600) (h_x1 : zBd x1.toInt 0 1600) (h_x2 : zBd x2.toInt 0 1600) (h_x3 : zBd x3.toInt (-1) 1600) (h_x4 : zBd x4.toInt 0 4) (h_x5 : zBd x5.toInt (-1) 1600) (h_x8 : zBd x8.toInt 0 8) (h_x9 : zBd x9.toInt 0 5) (h_x10 : zBd x10.toInt 0 6) (h_x11 : zBd x11.toInt 0 6) (h_x12 : zBd x12.toInt 0 16) (h_x14 : zBd x14.toInt 0 60) (h_x15 : zBd x15.toInt 0 1600) (h_x16 : zBd x16.toInt 0 1700) (h_x18 : zBd x18.toInt 0 1700) (h_x19 : zBd x19.toInt 0 1700) (h_x20 : zBd x20.toInt 0 200) (h_x21 : zBd x21.toInt 0 40) (h_x22 : zBd x22.toInt 0 40) (h_x23 : zBd x23.toInt 0 1) (h_x24 : zBd x24.toInt 0 14) (h_x25 : zBd x25.toInt 0 200) (h_x26 : zBd x26.toInt 0 40) (h_x27 : zBd x27.toInt 0 40) (hr_a0_0 : (x21.toInt ≤ x20.toInt)) (hr_a0_1 : (x20.toInt + x22.toInt ≤ 200)) (hr_a0_2 : (x9.toInt = 0 ∨ 2 ≤ x8.toInt)) (hf_f1 : (∀ j, (-9999) ≤ (f1 j).toInt ∧ (f1 j).toInt ≤ 9999)) (hf_f2 : (∀ j, (-1100000) ≤ (f2 j).toInt ∧ (f2 j).toInt ≤ 1100000)) : Met l yX12_within (.code yX12_within cX12_within 5 (some .int) :: lw_gd) ({ frames := 3, cells := 0, slots := 0, locals := 70 }) (gPre D [(cB, .byte), (cC, .char), (cI, .int), (cJ, .long)] [.ref a0, .long y0] (zS_12 cB cC cI cJ a0 a1 x0 x1 x2 x3 x4 x5 x6 x7 a2 a3 a4 a5 a6 a7 a8 a9 a10 a11 a12 a13 a14 a15 a16 x8 x9 x10 x11 x12 x13 a17 a18 a19 x14 a20 x15 a21 x16 x17 a22 a23 a24 a25 x18 a26 x19 a27 a28 a29 y1 a30 a31 a32 a33 a34 a35 a36 a37 a38 x20 x21 x22 y2 a39 x23 a40 a41 a42 a43 x24 x25 x26 x27 a29 f0 a18 f1 a28 f2) sz) (va_Qi (fun r u => ((((-2147483648) ≤ r.toInt ∧ r.toInt ≤ 2147483647) ∧ y0.toInt ≥ 0) ∨ (r.toInt = (-1) ∧ y0.toInt < 0))) (gB D (va_A (zS_12 cB cC cI cJ a0 a1 x0 x1 x2 x3 x4 x5 x6 x7 a2 a3 a4 a5 a6 a7 a8 a9 a10 a11 a12 a13 a14 a15 a16 x8 x9 x10 x11 x12 x13 a17 a18 a19 x14 a20 x15 a21 x16 x17 a22 a23 a24 a25 x18 a26 x19 a27 a28 a29 y1 a30 a31 a32 a33 a34 a35 a36 a37 a38 x20 x21 x22 y2 a39 x23 a40 a41 a42 a43 x24 x25 x26 x27 a29 f0 a18 f1 a28 f2) sz) (fun u : gEx => (zS_12 cB cC cI cJ a0 a1 x0 x1 x2 x3 x4 x5 x6 x7 a2 a3 a4 a5 a6 a7 a8 a9 a10 a11 a12 a13 a14 a15 a16 x8 x9 x10 x11 x12 x13 a17 a18 a19 x14 a20 x15 a21 x16 x17 a22 a23 a24 a25 x18 a26 x19 a27 a28 a29 y1 a30 a31 a32 a33 a34 a35 a36 a37 a38 x20 x21 x22 y2 a39 x23 a40 a41 a42 a43 x24 x25 x26 x27 a29 (u.2.1 0) a18 f1 a28 f2))) (va_A (zS_12 cB cC cI cJ a0 a1 x0 x1 x2 x3 x4 x5 x6 x7 a2 a3 a4 a5 a6 a7 a8 a9 a10 a11 a12 a13 a14 a15 a16 x8 x9 x10 x11 x12 x13 a17 a18 a19 x14 a20 x15 a21 x16 x17 a22 a23 a24 a25 x18 a26 x19 a27 a28 a29 y1 a30 a31 a32 a33 a34 a35 a36 a37 a38 x20 x21 x22 y2 a39 x23 a40 a41 a42 a43 x24 x25 x26 x27 a29 f0 a18 f1 a28 f2) sz)) 0 0 (va_A (zS_12 cB cC cI cJ a0 a1 x0 x1 x2 x3 x4 x5 x6 x7 a2 a3 a4 a5 a6 a7 a8 a9 a10 a11 a12 a13 a14 a15 a16 x8 x9 x10 x11 x12 x13 a17 a18 a19 x14 a20 x15 a21 x16 x17 a22 a23 a24 a25 x18 a26 x19 a27 a28 a29 y1 a30 a31 a32 a33 a34 a35 a36 a37 a38 x20 x21 x22 y2 a39 x23 a40 a41 a42 a43 x24 x25 x26 x27 a29 f0 a18 f1 a28 f2) sz) := by
  refine gOf_i (by decide +kernel) (Nat.le_of_ble_eq_true rfl) ?_
  intro p e s m args below meth c ls A Q hx hb hts hown hml hN hK hP hD hA hl hret
  replace hown : s.vm.findClass RX12 = some m.cls := hown
  have hS : va_S A s.heap s.heap [] := va_S.rf
  replace hP : va_P D gcl (zS_12 cB cC cI cJ a0 a1 x0 x1 x2 x3 x4 x5 x6 x7 a2 a3 a4 a5 a6 a7 a8 a9 a10 a11 a12 a13 a14 a15 a16 x8 x9 x10 x11 x12 x13 a17 a18 a19 x14 a20 x15 a21 x16 x17 a22 a23 a24 a25 x18 a26 x19 a27 a28 a29 y1 a30 a31 a32 a33 a34 a35 a36 a37 a38 x20 x21 x22 y2 a39 x23 a40 a41 a42 a43 x24 x25 x26 x27 a29 f0 a18 f1 a28 f2) s.heap := hP
  replace hl : lv_has ls 5 [(0, .ref a0), (1, .long y0)] := hl
  have ry0 := n_rngL y0
  have rx6 : zBd x6.toInt (-2147483648) 2147483647 := n_rng x6
  have rx7 : zBd x7.toInt (-2147483648) 2147483647 := n_rng x7
  have rx13 : zBd x13.toInt (-2147483648) 2147483647 := n_rng x13
  have rx17 : zBd x17.toInt (-2147483648) 2147483647 := n_rng x17
  have ry1 := n_rngL y1
  have ry2 := n_rngL y2
  refine lv_lload_n (pc := 0) hx hb dX12_within_0 rfl (lv_at hl 1 rfl) ?_
  refine lv_lconst (pc := 1) (v := 0) hx hb dX12_within_1 (by decide) ?_
  refine b_lcmp_ge (pc := 2) (tgt := 8) hx hb rfl tL_0 dX12_within_2 dX12_within_3 (by decide) (fun c_1 => ?_) (fun c_1 => ?_)
  ·
    as_aux_lemma =>
      refine lv_iconst (pc := 8) (v := 0) hx hb dX12_within_8 (by decide) ?_
      refine lv_istore_n (pc := 9) (lv' := [(3, .int 0), (0, .ref a0), (1, .long y0)]) hx hb dX12_within_9 rfl hl (by decide) rfl (fun ls hl => ?_)
      refine lv_iconst (pc := 10) (v := 0) hx hb dX12_within_10 (by decide) ?_
      refine lv_istore (pc := 11) (lv' := [(4, .int 0), (3, .int 0), (0, .ref a0), (1, .long y0)]) hx hb dX12_within_11 hl (by decide) rfl (fun ls hl => ?_)
      have lp_7 : ∀ (n : Nat) (x_2 x_4 : Int32) (f_6 : Nat → Int32) (H : Heap) (locs : List Loc) (ls : Array Slot), (0 ≤ x_2.toInt ∧ x_2.toInt ≤ 2147483647) → (2147483647 - x_2.toInt).toNat < n → va_P D gcl (zS_12 cB cC cI cJ a0 a1 x0 x1 x2 x3 x4 x5 x6 x7 a2 a3 a4 a5 a6 a7 a8 a9 a10 a11 a12 a13 a14 a15 a16 x8 x9 x10 x11 x12 x13 a17 a18 a19 x14 a20 x15 a21 x16 x17 a22 a23 a24 a25 x18 a26 x19 a27 a28 a29 y1 a30 a31 a32 a33 a34 a35 a36 a37 a38 x20 x21 x22 y2 a39 x23 a40 a41 a42 a43 x24 x25 x26 x27 a29 f_6 a18 f1 a28 f2) H → va_D A (zS_12 cB cC cI cJ a0 a1 x0 x1 x2 x3 x4 x5 x6 x7 a2 a3 a4 a5 a6 a7 a8 a9 a10 a11 a12 a13 a14 a15 a16 x8 x9 x10 x11 x12 x13 a17 a18 a19 x14 a20 x15 a21 x16 x17 a22 a23 a24 a25 x18 a26 x19 a27 a28 a29 y1 a30 a31 a32 a33 a34 a35 a36 a37 a38 x20 x21 x22 y2 a39 x23 a40 a41 a42 a43 x24 x25 x26 x27 a29 f_6 a18 f1 a28 f2) → va_S A s.heap H locs → lv_has ls 5 [(4, .int x_2), (3, .int x_4), (0, .ref a0), (1, .long y0)] → W p l e ({ frames := 3, cells := 0, slots := 0, locals := 70 }) s m args below meth c H locs 0 0 Q (F0 m 13 ls []) := by
        intro n
        induction n with
        | zero => intro x_2 x_4 f_6 H locs ls hi_3 hmu; exact absurd hmu (Nat.not_lt_zero _)
        | succ n ih_lp_7 =>
          intro x_2 x_4 f_6 H locs ls hi_3 hmu_lp_7 hP hD hS hl
          have hi_5 := n_rng x_4
          refine lv_iload (pc := 13) hx hb dX12_within_13 (lv_at hl 0 rfl) ?_
          refine lv_aload_n (pc := 15) hx hb dX12_within_15 rfl (lv_at hl 2 rfl) ?_
          refine gd_i (pc := 16) (wc := (zS_4 cB cC cI cJ a0 a1 x0 x1 x2 x3 x4 x5 x6 x7 a2 a3 a4 a5 a6 a7 a8 a9 a10 a11 a12 a13 a14 a15 a16 x8 x9 x10 x11 x12 x13 a17 a18 a19 x14 a20 x15 a21 x16 x17 a22 a23 a24 a25 x18 a26 x19 a27 a28 a29 y1 a30 a31 a32 a33 a34 a35 a36 a37 a38 x20 x21 x22 y2 a39 x23 a40 a41 a42 a43 x24 x25 x26 x27)) hP hD hS hA [0] rfl (by decide +kernel) (fun _ => by rfl) (fun hPc hDc => va_runV (As := []) (rest := [.int x_2]) ⟨hx, hb, hml, hown, hts⟩ (k_X12_rowMany l D cB cC cI cJ _ a0 a1 a2 a3 a4 a5 a6 a7 a8 a9 a10 a11 a12 a13 a14 a15 a16 a17 a18 a19 a20 a21 a22 a23 a24 a25 a26 a27 a28 a29 a30 a31 a32 a33 a34 a35 a36 a37 a38 a39 a40 a41 a42 a43 x0 x1 x2 x3 x4 x5 x6 x7 x8 x9 x10 x11 x12 x13 x14 x15 x16 x17 x18 x19 x20 x21 x22 x23 x24 x25 x26 x27 y1 y2 h_x0 h_x1 h_x2 h_x3 h_x4 h_x5 h_x8 h_x9 h_x10 h_x11 h_x12 h_x14 h_x15 h_x16 h_x18 h_x19 h_x20 h_x21 h_x22 h_x23 h_x24 h_x25 h_x26 h_x27 hr_a0_0 hr_a0_1 hr_a0_2) ⟨gcwB hts tw_1868 tw_14 tw_1865 hd_yX12_rowMany ⟨Nat.le_of_ble_eq_true rfl, Nat.le_of_ble_eq_true rfl⟩, hts _ tw_1867, hts _ tp_100⟩ ⟨gblind, va_recv hK hPc (ci := 12) (q0 := 0) rfl rfl, (gpreS hPc hK hDc hN).2⟩ rfl rfl hl.1 rfl (lv_room (Nat.le_of_ble_eq_true rfl)) dX12_within_16 ⟨Nat.le_of_ble_eq_true rfl, Nat.le_of_ble_eq_true rfl⟩) (fun r_9 u_8 H locs hw_10 hP hD hS => ?_)
          replace hP : va_P D gcl (zS_12 cB cC cI cJ a0 a1 x0 x1 x2 x3 x4 x5 x6 x7 a2 a3 a4 a5 a6 a7 a8 a9 a10 a11 a12 a13 a14 a15 a16 x8 x9 x10 x11 x12 x13 a17 a18 a19 x14 a20 x15 a21 x16 x17 a22 a23 a24 a25 x18 a26 x19 a27 a28 a29 y1 a30 a31 a32 a33 a34 a35 a36 a37 a38 x20 x21 x22 y2 a39 x23 a40 a41 a42 a43 x24 x25 x26 x27 a29 f_6 a18 f1 a28 f2) H := hP
          replace hD : va_D A (zS_12 cB cC cI cJ a0 a1 x0 x1 x2 x3 x4 x5 x6 x7 a2 a3 a4 a5 a6 a7 a8 a9 a10 a11 a12 a13 a14 a15 a16 x8 x9 x10 x11 x12 x13 a17 a18 a19 x14 a20 x15 a21 x16 x17 a22 a23 a24 a25 x18 a26 x19 a27 a28 a29 y1 a30 a31 a32 a33 a34 a35 a36 a37 a38 x20 x21 x22 y2 a39 x23 a40 a41 a42 a43 x24 x25 x26 x27 a29 f_6 a18 f1 a28 f2) := hD
          have hw_11 : ((((-2147483648) ≤ r_9.toInt ∧ r_9.toInt ≤ 2147483647) ∧ ¬ x9.toInt = 0 ∧ (1 ≤ x9.toInt ∧ x9.toInt ≤ 5)) ∨ (r_9.toInt = 0 ∧ x9.toInt = 0)) := hw_10
          have rr_9 : zBd r_9.toInt (-2147483648) 2147483647 := n_rng r_9
          refine b_icmp_ge (pc := 19) (tgt := 42) hx hb rfl rfl  dX12_within_19 (by decide) (fun c_12 => ?_) (fun c_12 => ?_)
          ·
            as_aux_lemma =>
              refine lv_iload_n (pc := 42) hx hb dX12_within_42 rfl (lv_at hl 1 rfl) ?_
              have hP9 : va_P D gcl (zS_12 cB cC cI cJ a0 a1 x0 x1 x2 x3 x4 x5 x6 x7 a2 a3 a4 a5 a6 a7 a8 a9 a10 a11 a12 a13 a14 a15 a16 x8 x9 x10 x11 x12 x13 a17 a18 a19 x14 a20 x15 a21 x16 x17 a22 a23 a24 a25 x18 a26 x19 a27 a28 a29 y1 a30 a31 a32 a33 a34 a35 a36 a37 a38 x20 x21 x22 y2 a39 x23 a40 a41 a42 a43 x24 x25 x26 x27 a29 f_6 a18 f1 a28 f2) H := g_psub hP [0, 1, 2, 3] rfl
              have hD9 : va_D A (zS_12 cB cC cI cJ a0 a1 x0 x1 x2 x3 x4 x5 x6 x7 a2 a3 a4 a5 a6 a7 a8 a9 a10 a11 a12 a13 a14 a15 a16 x8 x9 x10 x11 x12 x13 a17 a18 a19 x14 a20 x15 a21 x16 x17 a22 a23 a24 a25 x18 a26 x19 a27 a28 a29 y1 a30 a31 a32 a33 a34 a35 a36 a37 a38 x20 x21 x22 y2 a39 x23 a40 a41 a42 a43 x24 x25 x26 x27 a29 f_6 a18 f1 a28 f2) := hD.sub [0, 1, 2, 3] (by decide) rfl
              exact hret x_4 ((fun _ => 0), (fun k => [f_6].getD k (fun _ => 0)), (fun _ => (fun _ => 0)), (fun _ => 0), (fun _ => 0)) dX12_within_43 (show ((((-2147483648) ≤ x_4.toInt ∧ x_4.toInt ≤ 2147483647) ∧ y0.toInt ≥ 0) ∨ (x_4.toInt = (-1) ∧ y0.toInt < 0)) from (by first | exact (om_1640 hi_5.1 hi_5.2 c_1) | ((first | omega | (unfold zBd at *; omega))))) hP9 hD9 hS
          ·
            as_aux_lemma =>
              refine lv_aload_n (pc := 22) hx hb dX12_within_22 rfl (lv_at hl 2 rfl) ?_
              refine lv_iload (pc := 23) hx hb dX12_within_23 (lv_at hl 0 rfl) ?_
              refine gd_l (pc := 25) (wc := (zS_12 cB cC cI cJ a0 a1 x0 x1 x2 x3 x4 x5 x6 x7 a2 a3 a4 a5 a6 a7 a8 a9 a10 a11 a12 a13 a14 a15 a16 x8 x9 x10 x11 x12 x13 a17 a18 a19 x14 a20 x15 a21 x16 x17 a22 a23 a24 a25 x18 a26 x19 a27 a28 a29 y1 a30 a31 a32 a33 a34 a35 a36 a37 a38 x20 x21 x22 y2 a39 x23 a40 a41 a42 a43 x24 x25 x26 x27 a29 f_6 a18 f1 a28 f2)) hP hD hS hA [0, 1, 2, 3] rfl (by decide +kernel) (fun _ => by rfl) (fun hPc hDc => va_runV (As := [.int x_2]) (rest := []) ⟨hx, hb, hml, hown, hts⟩ (k_X12_distanceOf l D cB cC cI cJ _ a0 a1 a2 a3 a4 a5 a6 a7 a8 a9 a10 a11 a12 a13 a14 a15 a16 a17 a18 a19 a20 a21 a22 a23 a24 a25 a26 a27 a28 a29 a30 a31 a32 a33 a34 a35 a36 a37 a38 a39 a40 a41 a42 a43 x_2 x0 x1 x2 x3 x4 x5 x6 x7 x8 x9 x10 x11 x12 x13 x14 x15 x16 x17 x18 x19 x20 x21 x22 x23 x24 x25 x26 x27 y1 y2 f_6 f1 f2 h_x0 h_x1 h_x2 h_x3 h_x4 h_x5 h_x8 h_x9 h_x10 h_x11 h_x12 h_x14 h_x15 h_x16 h_x18 h_x19 h_x20 h_x21 h_x22 h_x23 h_x24 h_x25 h_x26 h_x27 hr_a0_0 hr_a0_1 hr_a0_2 hf_f1 hf_f2) ⟨gcwB hts tw_1872 tw_14 tw_1869 hd_yX12_distanceOf ⟨Nat.le_of_ble_eq_true rfl, Nat.le_of_ble_eq_true rfl⟩, hts _ tw_1871, hts _ tp_101⟩ ⟨gblind, va_recv hK hPc (ci := 12) (q0 := 0) rfl rfl, (gpreS hPc hK hDc hN).2⟩ rfl rfl hl.1 rfl (lv_room (Nat.le_of_ble_eq_true rfl)) dX12_within_25 ⟨Nat.le_of_ble_eq_true rfl, Nat.le_of_ble_eq_true rfl⟩) (fun r_14 u_13 H locs hw_15 hP hD hS => ?_)
              replace hP : va_P D gcl (zS_12 cB cC cI cJ a0 a1 x0 x1 x2 x3 x4 x5 x6 x7 a2 a3 a4 a5 a6 a7 a8 a9 a10 a11 a12 a13 a14 a15 a16 x8 x9 x10 x11 x12 x13 a17 a18 a19 x14 a20 x15 a21 x16 x17 a22 a23 a24 a25 x18 a26 x19 a27 a28 a29 y1 a30 a31 a32 a33 a34 a35 a36 a37 a38 x20 x21 x22 y2 a39 x23 a40 a41 a42 a43 x24 x25 x26 x27 a29 (u_13.2.1 0) a18 f1 a28 f2) H := hP
              replace hD : va_D A (zS_12 cB cC cI cJ a0 a1 x0 x1 x2 x3 x4 x5 x6 x7 a2 a3 a4 a5 a6 a7 a8 a9 a10 a11 a12 a13 a14 a15 a16 x8 x9 x10 x11 x12 x13 a17 a18 a19 x14 a20 x15 a21 x16 x17 a22 a23 a24 a25 x18 a26 x19 a27 a28 a29 y1 a30 a31 a32 a33 a34 a35 a36 a37 a38 x20 x21 x22 y2 a39 x23 a40 a41 a42 a43 x24 x25 x26 x27 a29 (u_13.2.1 0) a18 f1 a28 f2) := hD
              have hw_16 : ((((-9223372036854775808) ≤ r_14.toInt ∧ r_14.toInt ≤ 9223372036854775807))) := hw_15
              have rr_14 := n_rngL r_14
              refine lv_lload_n (pc := 28) hx hb dX12_within_28 rfl (lv_at hl 3 rfl) ?_
              refine b_lcmp_gt (pc := 29) (tgt := 36) hx hb rfl rfl dX12_within_29 dX12_within_30 (by decide) (fun c_17 => ?_) (fun c_17 => ?_)
              ·
                as_aux_lemma =>
                  refine b_iinc (pc := 36) hx hb dX12_within_36 hl (k := 0) rfl rfl tI_1 (by first | exact (om_2 hi_3.1) | ((first | omega | (unfold zBd at *; omega)))) (by first | exact (om_1087 c_12 rr_9.2) | ((first | omega | (unfold zBd at *; omega)))) (by decide) (fun x_18 ex_18 ls hl => ?_)
                  replace hl : lv_has ls 5 [(4, .int x_18), (3, .int x_4), (0, .ref a0), (1, .long y0)] := hl
                  refine lv_goto (pc := 39) (tgt := 13) hx hb dX12_within_39 (by decide) ?_
                  exact ih_lp_7 x_18 x_4 (u_13.2.1 0) _ _ ls (by first | exact (om_1088 ex_18 hi_3.1 c_12 rr_9.2) | ((first | omega | (unfold zBd at *; omega)))) (by (first | omega | (unfold zBd at *; omega))) hP hD hS (lv_sub hl [0, 1, 2, 3] rfl)
              ·
                as_aux_lemma =>
                  refine b_iincO (pc := 33) hx hb dX12_within_33 hl (k := 1) rfl (by decide) (fun x_19 ls hl => ?_)
                  have rx_19 : zBd x_19.toInt (-2147483648) 2147483647 := n_rng x_19
                  replace hl : lv_has ls 5 [(3, .int x_19), (4, .int x_2), (0, .ref a0), (1, .long y0)] := hl
                  refine b_iinc (pc := 36) hx hb dX12_within_36 hl (k := 1) rfl rfl tI_1 (by first | exact (om_2 hi_3.1) | ((first | omega | (unfold zBd at *; omega)))) (by first | exact (om_1087 c_12 rr_9.2) | ((first | omega | (unfold zBd at *; omega)))) (by decide) (fun x_20 ex_20 ls hl => ?_)
                  replace hl : lv_has ls 5 [(4, .int x_20), (3, .int x_19), (0, .ref a0), (1, .long y0)] := hl
                  refine lv_goto (pc := 39) (tgt := 13) hx hb dX12_within_39 (by decide) ?_
                  exact ih_lp_7 x_20 x_19 (u_13.2.1 0) _ _ ls (by first | exact (om_1088 ex_20 hi_3.1 c_12 rr_9.2) | ((first | omega | (unfold zBd at *; omega)))) (by (first | omega | (unfold zBd at *; omega))) hP hD hS (lv_sub hl [0, 1, 2, 3] rfl)
      exact lp_7 _ 0 0 f0 _ _ ls (n_c tI_0 (by decide)) (Nat.lt_succ_self _) hP hD hS (lv_sub hl [0, 1, 2, 3] rfl)
  ·
    as_aux_lemma =>
      refine lv_iconst (pc := 6) (v := (-1)) hx hb dX12_within_6 (by decide) ?_
      have hP9 : va_P D gcl (zS_12 cB cC cI cJ a0 a1 x0 x1 x2 x3 x4 x5 x6 x7 a2 a3 a4 a5 a6 a7 a8 a9 a10 a11 a12 a13 a14 a15 a16 x8 x9 x10 x11 x12 x13 a17 a18 a19 x14 a20 x15 a21 x16 x17 a22 a23 a24 a25 x18 a26 x19 a27 a28 a29 y1 a30 a31 a32 a33 a34 a35 a36 a37 a38 x20 x21 x22 y2 a39 x23 a40 a41 a42 a43 x24 x25 x26 x27 a29 f0 a18 f1 a28 f2) s.heap := g_psub hP [0, 1, 2, 3] rfl
      have hD9 : va_D A (zS_12 cB cC cI cJ a0 a1 x0 x1 x2 x3 x4 x5 x6 x7 a2 a3 a4 a5 a6 a7 a8 a9 a10 a11 a12 a13 a14 a15 a16 x8 x9 x10 x11 x12 x13 a17 a18 a19 x14 a20 x15 a21 x16 x17 a22 a23 a24 a25 x18 a26 x19 a27 a28 a29 y1 a30 a31 a32 a33 a34 a35 a36 a37 a38 x20 x21 x22 y2 a39 x23 a40 a41 a42 a43 x24 x25 x26 x27 a29 f0 a18 f1 a28 f2) := hD.sub [0, 1, 2, 3] (by decide) rfl
      exact hret (-1) ((fun _ => 0), (fun k => [f0].getD k (fun _ => 0)), (fun _ => (fun _ => 0)), (fun _ => 0), (fun _ => 0)) dX12_within_7 (show ((((-2147483648) ≤ ((-1) : Int32).toInt ∧ ((-1) : Int32).toInt ≤ 2147483647) ∧ y0.toInt ≥ 0) ∨ (((-1) : Int32).toInt = (-1) ∧ y0.toInt < 0)) from (by first | exact (om_1641 tI_m1) | (have k9 := tI_m1; (first | omega | (unfold zBd at *; omega))))) hP9 hD9 hS
theorem om_1642 {a b c d : Int} (h0 : (b ≤ c ∨ a + 1 ≤ b)) (h1 : (b ≥ d)) (h2 : (c < d)) (h3 : (b ≤ 5)) : (a < (5 : Nat)) := by omega
theorem om_1643 {a b : Int} (h0 : (0 ≤ a)) (h1 : (a < b)) : (0 ≤ a ∧ a < b) := by omega
theorem om_1644 {a b c d e f g : Int} (h0 : (b = d + 1)) (h1 : (a = e + 1)) (h2 : (e ≤ d)) (h3 : (d ≤ c ∨ e + 1 ≤ d)) (h4 : (¬ d = c ∨ f = g)) (h5 : (f > g)) : ((a ≤ b ∧ (b ≤ c ∨ a + 1 ≤ b))) := by omega
theorem om_1645 {a b c d e f : Int} (h0 : (e = f + 1)) (h1 : (b > a)) : ((a < b ∨ b = a ∧ c < d) ∧ e = f + 1 ∨ ¬ (a < b ∨ b = a ∧ c < d) ∧ e = f) := by omega
theorem om_1646 {a b c d : Int} (h0 : (b = d + 1)) (h1 : (a ≤ d)) : ((a ≤ b ∧ (b ≤ c ∨ a + 1 ≤ b))) := by omega
theorem om_1647 {a b c d e : Int} (h0 : (b ≤ a)) (h1 : (¬ b = a)) : ((a < b ∨ b = a ∧ c < d) ∧ e = e + 1 ∨ ¬ (a < b ∨ b = a ∧ c < d) ∧ e = e) := by omega
theorem om_1648 {a b c d e : Int} (h0 : (b = a)) (h1 : (c ≥ d)) : ((a < b ∨ b = a ∧ c < d) ∧ e = e + 1 ∨ ¬ (a < b ∨ b = a ∧ c < d) ∧ e = e) := by omega
theorem om_1649 {a b c d e : Int} (h0 : (b = d + 1)) (h1 : (a = e + 1)) (h2 : (e ≤ d)) (h3 : (d < c)) : ((a ≤ b ∧ (b ≤ c ∨ a + 1 ≤ b))) := by omega
theorem om_1650 {a b c d e f : Int} (h0 : (b = a)) (h1 : (e = f + 1)) (h2 : (c < d)) : ((a < b ∨ b = a ∧ c < d) ∧ e = f + 1 ∨ ¬ (a < b ∨ b = a ∧ c < d) ∧ e = f) := by omega
set_option maxHeartbeats 4000000 in
set_option maxRecDepth 100000 in
theorem k_X12_orders (l : Launch) (D : va_G) (cB cC cI cJ : ClassId) (sz : Nat) (a0 a1 a2 a3 a4 a5 a6 a7 a8 a9 a10 a11 a12 a13 a14 a15 a16 a17 a18 a19 a20 a21 a22 a23 a24 a25 a26 a27 a28 a29 a30 a31 a32 a33 a34 a35 a36 a37 a38 a39 a40 a41 a42 a43 : Nat) (x0 x1 x2 x3 x4 x5 x6 x7 x8 x9 x10 x11 x12 x13 x14 x15 x16 x17 x18 x19 x20 x21 x22 x23 x24 x25 x26 x27 : Int32) (y0 y1 : Int64) (f0 f1 : Nat → Int32) (h_x0 : zBd x0.toInt 0 1600) (h_x1 : zBd x1.toInt 0 1600) (h_x2 : zBd x2.toInt 0 1600) (h_x3 : zBd x3.toInt (-1) 1600) (h_x4 : zBd x4.toInt 0 4) (h_x5 : zBd x5.toInt (-1) 1600) (h_x8 : zBd x8.toInt 0 8) (h_x9 : zBd x9.toInt 0 5) (h_x10 : zBd x10.toInt 0 6) (h_x11 : zBd x11.toInt 0 6) (h_x12 : zBd x12.toInt 0 16) (h_x14 : zBd x14.toInt 0 60) (h_x15 : zBd x15.toInt 0 1600) (h_x16 : zBd x16.toInt 0 1700) (h_x18 : zBd x18.toInt 0 1700) (h_x19 : zBd x19.toInt 0 1700) (h_x20 : zBd x20.toInt 0 200) (h_x21 : zBd x21.toInt 0 40) (h_x22 : zBd x22.toInt 0 40) (h_x23 : zBd x23.toInt 0 1) (h_x24 : zBd x24.toInt 0 14) (h_x25 : zBd x25.toInt 0 200) (h_x26 : zBd x26.toInt 0 40) (h_x27 : zBd x27.toInt 0 40) (hr_a0_0 : (x21.toInt ≤ x20.toInt)) (hr_a0_1 : (x20.toInt + x22.toInt ≤ 200)) (hr_a0_2 : (x9.toInt = 0 ∨ 2 ≤ x8.toInt)) (hf_f0 : (∀ j, (-9999) ≤ (f0 j).toInt ∧ (f0 j).toInt ≤ 9999)) (hf_f1 : (∀ j, 0 ≤ (f1 j).toInt ∧ (f1 j).toInt ≤ 4)) : Met l yX12_orders (.code yX12_orders cX12_orders 6 none :: lw_gd) ({ frames := 1, cells := 0, slots := 0, locals := 25 }) (gPre D [(cB, .byte), (cC, .char), (cI, .int), (cJ, .long)] [.ref a0] (zS_21 cB cC cI cJ a0 a1 x0 x1 x2 x3 x4 x5 x6 x7 a2 a3 a4 a5 a6 a7 a8 a9 a10 a11 a12 a13 a14 a15 a16 x8 x9 x10 x11 x12 x13 a17 a18 a19 x14 a20 x15 a21 x16 x17 a22 a23 a24 a25 x18 a26 x19 a27 a28 a29 y0 a30 a31 a32 a33 a34 a35 a36 a37 a38 x20 x21 x22 y1 a39 x23 a40 a41 a42 a43 x24 x25 x26 x27 a18 f0 a32 f1) sz) (va_Qv (fun u => (∀ j, 0 ≤ ((u.2.1 0) j).toInt ∧ ((u.2.1 0) j).toInt ≤ 4) ∧ (oR (u.2.1 0) (fun s => (prn f0 s s (x10.toInt).toNat).toInt) x9.toInt x9.toInt)) (gB D (va_A (zS_21 cB cC cI cJ a0 a1 x0 x1 x2 x3 x4 x5 x6 x7 a2 a3 a4 a5 a6 a7 a8 a9 a10 a11 a12 a13 a14 a15 a16 x8 x9 x10 x11 x12 x13 a17 a18 a19 x14 a20 x15 a21 x16 x17 a22 a23 a24 a25 x18 a26 x19 a27 a28 a29 y0 a30 a31 a32 a33 a34 a35 a36 a37 a38 x20 x21 x22 y1 a39 x23 a40 a41 a42 a43 x24 x25 x26 x27 a18 f0 a32 f1) sz) (fun u : gEx => (zS_21 cB cC cI cJ a0 a1 x0 x1 x2 x3 x4 x5 x6 x7 a2 a3 a4 a5 a6 a7 a8 a9 a10 a11 a12 a13 a14 a15 a16 x8 x9 x10 x11 x12 x13 a17 a18 a19 x14 a20 x15 a21 x16 x17 a22 a23 a24 a25 x18 a26 x19 a27 a28 a29 y0 a30 a31 a32 a33 a34 a35 a36 a37 a38 x20 x21 x22 y1 a39 x23 a40 a41 a42 a43 x24 x25 x26 x27 a18 f0 a32 (u.2.1 0)))) (va_A (zS_21 cB cC cI cJ a0 a1 x0 x1 x2 x3 x4 x5 x6 x7 a2 a3 a4 a5 a6 a7 a8 a9 a10 a11 a12 a13 a14 a15 a16 x8 x9 x10 x11 x12 x13 a17 a18 a19 x14 a20 x15 a21 x16 x17 a22 a23 a24 a25 x18 a26 x19 a27 a28 a29 y0 a30 a31 a32 a33 a34 a35 a36 a37 a38 x20 x21 x22 y1 a39 x23 a40 a41 a42 a43 x24 x25 x26 x27 a18 f0 a32 f1) sz)) 0 0 (va_A (zS_21 cB cC cI cJ a0 a1 x0 x1 x2 x3 x4 x5 x6 x7 a2 a3 a4 a5 a6 a7 a8 a9 a10 a11 a12 a13 a14 a15 a16 x8 x9 x10 x11 x12 x13 a17 a18 a19 x14 a20 x15 a21 x16 x17 a22 a23 a24 a25 x18 a26 x19 a27 a28 a29 y0 a30 a31 a32 a33 a34 a35 a36 a37 a38 x20 x21 x22 y1 a39 x23 a40 a41 a42 a43 x24 x25 x26 x27 a18 f0 a32 f1) sz) := by
  refine gOf_v (by decide +kernel) (Nat.le_of_ble_eq_true rfl) ?_
  intro p e s m args below meth c ls A Q hx hb hts hown hml hN hK hP hD hA hl hret
  replace hown : s.vm.findClass RX12 = some m.cls := hown
  have hS : va_S A s.heap s.heap [] := va_S.rf
  replace hP : va_P D gcl (zS_21 cB cC cI cJ a0 a1 x0 x1 x2 x3 x4 x5 x6 x7 a2 a3 a4 a5 a6 a7 a8 a9 a10 a11 a12 a13 a14 a15 a16 x8 x9 x10 x11 x12 x13 a17 a18 a19 x14 a20 x15 a21 x16 x17 a22 a23 a24 a25 x18 a26 x19 a27 a28 a29 y0 a30 a31 a32 a33 a34 a35 a36 a37 a38 x20 x21 x22 y1 a39 x23 a40 a41 a42 a43 x24 x25 x26 x27 a18 f0 a32 f1) s.heap := hP
  replace hl : lv_has ls 6 [(0, .ref a0)] := hl
  have rx6 : zBd x6.toInt (-2147483648) 2147483647 := n_rng x6
  have rx7 : zBd x7.toInt (-2147483648) 2147483647 := n_rng x7
  have rx13 : zBd x13.toInt (-2147483648) 2147483647 := n_rng x13
  have rx17 : zBd x17.toInt (-2147483648) 2147483647 := n_rng x17
  have ry0 := n_rngL y0
  have ry1 := n_rngL y1
  refine lv_iconst (pc := 0) (v := 0) hx hb dX12_orders_0 (by decide) ?_
  refine lv_istore_n (pc := 1) (lv' := [(1, .int 0), (0, .ref a0)]) hx hb dX12_orders_1 rfl hl (by decide) rfl (fun ls hl => ?_)
  have lp_7 : ∀ (n : Nat) (x_1 : Int32) (f_3 : Nat → Int32) (H : Heap) (locs : List Loc) (ls : Array Slot), (0 ≤ x_1.toInt ∧ x_1.toInt ≤ 5) → (∀ j, 0 ≤ (f_3 j).toInt ∧ (f_3 j).toInt ≤ 4) → (x_1.toInt ≤ x9.toInt) → (oR f_3 (fun s => (prn f0 s s (x10.toInt).toNat).toInt) x9.toInt x_1.toInt) → (2147483647 - x_1.toInt).toNat < n → va_P D gcl (zS_21 cB cC cI cJ a0 a1 x0 x1 x2 x3 x4 x5 x6 x7 a2 a3 a4 a5 a6 a7 a8 a9 a10 a11 a12 a13 a14 a15 a16 x8 x9 x10 x11 x12 x13 a17 a18 a19 x14 a20 x15 a21 x16 x17 a22 a23 a24 a25 x18 a26 x19 a27 a28 a29 y0 a30 a31 a32 a33 a34 a35 a36 a37 a38 x20 x21 x22 y1 a39 x23 a40 a41 a42 a43 x24 x25 x26 x27 a18 f0 a32 f_3) H → va_D A (zS_21 cB cC cI cJ a0 a1 x0 x1 x2 x3 x4 x5 x6 x7 a2 a3 a4 a5 a6 a7 a8 a9 a10 a11 a12 a13 a14 a15 a16 x8 x9 x10 x11 x12 x13 a17 a18 a19 x14 a20 x15 a21 x16 x17 a22 a23 a24 a25 x18 a26 x19 a27 a28 a29 y0 a30 a31 a32 a33 a34 a35 a36 a37 a38 x20 x21 x22 y1 a39 x23 a40 a41 a42 a43 x24 x25 x26 x27 a18 f0 a32 f_3) → va_S A s.heap H locs → lv_has ls 6 [(1, .int x_1), (0, .ref a0)] → W p l e ({ frames := 1, cells := 0, slots := 0, locals := 25 }) s m args below meth c H locs 0 0 Q (F0 m 2 ls []) := by
    intro n
    induction n with
    | zero => intro x_1 f_3 H locs ls hi_2 hi_4 hi_5 hi_6 hmu; exact absurd hmu (Nat.not_lt_zero _)
    | succ n ih_lp_7 =>
      intro x_1 f_3 H locs ls hi_2 hi_4 hi_5 hi_6 hmu_lp_7 hP hD hS hl
      refine lv_iload_n (pc := 2) hx hb dX12_orders_2 rfl (lv_at hl 0 rfl) ?_
      refine lv_aload_n (pc := 3) hx hb dX12_orders_3 rfl (lv_at hl 1 rfl) ?_
      refine va_get (pc := 4) (ci := 12) (v := .int x9) (C := RX12) (T := TX12) (N := 73) hx hb hts iX12 hown hK hP 0 rfl rfl 25 (by decide) (hts _ tw_1426) (fun _ h9 => h9) rfl dX12_orders_4 ?_
      have bd_h_x9 : 0 ≤ x9.toInt ∧ x9.toInt ≤ 5 := h_x9
      refine b_icmp_ge (pc := 7) (tgt := 87) hx hb rfl rfl  dX12_orders_7 (by decide) (fun c_8 => ?_) (fun c_8 => ?_)
      ·
        as_aux_lemma =>
          have hP9 : va_P D gcl (zS_21 cB cC cI cJ a0 a1 x0 x1 x2 x3 x4 x5 x6 x7 a2 a3 a4 a5 a6 a7 a8 a9 a10 a11 a12 a13 a14 a15 a16 x8 x9 x10 x11 x12 x13 a17 a18 a19 x14 a20 x15 a21 x16 x17 a22 a23 a24 a25 x18 a26 x19 a27 a28 a29 y0 a30 a31 a32 a33 a34 a35 a36 a37 a38 x20 x21 x22 y1 a39 x23 a40 a41 a42 a43 x24 x25 x26 x27 a18 f0 a32 f_3) H := g_psub hP [0, 1, 2] rfl
          have hD9 : va_D A (zS_21 cB cC cI cJ a0 a1 x0 x1 x2 x3 x4 x5 x6 x7 a2 a3 a4 a5 a6 a7 a8 a9 a10 a11 a12 a13 a14 a15 a16 x8 x9 x10 x11 x12 x13 a17 a18 a19 x14 a20 x15 a21 x16 x17 a22 a23 a24 a25 x18 a26 x19 a27 a28 a29 y0 a30 a31 a32 a33 a34 a35 a36 a37 a38 x20 x21 x22 y1 a39 x23 a40 a41 a42 a43 x24 x25 x26 x27 a18 f0 a32 f_3) := hD.sub [0, 1, 2] (by decide) rfl
          exact hret ((fun _ => 0), (fun k => [f_3].getD k (fun _ => 0)), (fun _ => (fun _ => 0)), (fun _ => 0), (fun _ => 0)) dX12_orders_87 ⟨hi_4, (show oR f_3 (fun s => (prn f0 s s (x10.toInt).toNat).toInt) x9.toInt x9.toInt from (by have e9 : x_1.toInt = x9.toInt := (by (first | omega | (unfold zBd at *; omega))); have q9 := hi_6; rw [e9] at q9; exact q9))⟩ hP9 hD9 hS
      ·
        as_aux_lemma =>
          refine lv_iconst (pc := 10) (v := 0) hx hb dX12_orders_10 (by decide) ?_
          refine lv_istore_n (pc := 11) (lv' := [(2, .int 0), (1, .int x_1), (0, .ref a0)]) hx hb dX12_orders_11 rfl hl (by decide) rfl (fun ls hl => ?_)
          refine lv_iconst (pc := 12) (v := 0) hx hb dX12_orders_12 (by decide) ?_
          refine lv_istore_n (pc := 13) (lv' := [(3, .int 0), (2, .int 0), (1, .int x_1), (0, .ref a0)]) hx hb dX12_orders_13 rfl hl (by decide) rfl (fun ls hl => ?_)
          have lp_16 : ∀ (n : Nat) (x_9 x_11 : Int32) (H : Heap) (locs : List Loc) (ls : Array Slot), (0 ≤ x_9.toInt ∧ x_9.toInt ≤ 5) → (0 ≤ x_11.toInt ∧ x_11.toInt ≤ 5) → (x_9.toInt ≤ x9.toInt) → (x_11.toInt ≤ x_9.toInt ∧ (x_9.toInt ≤ x_1.toInt ∨ x_11.toInt + 1 ≤ x_9.toInt)) → (x_11.toInt = rkN (fun t => bfQ (fun s => (prn f0 s s (x10.toInt).toNat).toInt) t x_1.toInt) (x_9.toInt).toNat) → (2147483647 - x_9.toInt).toNat < n → va_P D gcl (zS_21 cB cC cI cJ a0 a1 x0 x1 x2 x3 x4 x5 x6 x7 a2 a3 a4 a5 a6 a7 a8 a9 a10 a11 a12 a13 a14 a15 a16 x8 x9 x10 x11 x12 x13 a17 a18 a19 x14 a20 x15 a21 x16 x17 a22 a23 a24 a25 x18 a26 x19 a27 a28 a29 y0 a30 a31 a32 a33 a34 a35 a36 a37 a38 x20 x21 x22 y1 a39 x23 a40 a41 a42 a43 x24 x25 x26 x27 a18 f0 a32 f_3) H → va_D A (zS_21 cB cC cI cJ a0 a1 x0 x1 x2 x3 x4 x5 x6 x7 a2 a3 a4 a5 a6 a7 a8 a9 a10 a11 a12 a13 a14 a15 a16 x8 x9 x10 x11 x12 x13 a17 a18 a19 x14 a20 x15 a21 x16 x17 a22 a23 a24 a25 x18 a26 x19 a27 a28 a29 y0 a30 a31 a32 a33 a34 a35 a36 a37 a38 x20 x21 x22 y1 a39 x23 a40 a41 a42 a43 x24 x25 x26 x27 a18 f0 a32 f_3) → va_S A s.heap H locs → lv_has ls 6 [(3, .int x_9), (2, .int x_11), (1, .int x_1), (0, .ref a0)] → W p l e ({ frames := 1, cells := 0, slots := 0, locals := 25 }) s m args below meth c H locs 0 0 Q (F0 m 14 ls []) := by
            intro n
            induction n with
            | zero => intro x_9 x_11 H locs ls hi_10 hi_12 hi_13 hi_14 hi_15 hmu; exact absurd hmu (Nat.not_lt_zero _)
            | succ n ih_lp_16 =>
              intro x_9 x_11 H locs ls hi_10 hi_12 hi_13 hi_14 hi_15 hmu_lp_16 hP hD hS hl
              refine lv_iload_n (pc := 14) hx hb dX12_orders_14 rfl (lv_at hl 0 rfl) ?_
              refine lv_aload_n (pc := 15) hx hb dX12_orders_15 rfl (lv_at hl 3 rfl) ?_
              refine va_get (pc := 16) (ci := 12) (v := .int x9) (C := RX12) (T := TX12) (N := 73) hx hb hts iX12 hown hK hP 0 rfl rfl 25 (by decide) (hts _ tw_1426) (fun _ h9 => h9) rfl dX12_orders_16 ?_
              refine b_icmp_ge (pc := 19) (tgt := 74) hx hb rfl rfl  dX12_orders_19 (by decide) (fun c_17 => ?_) (fun c_17 => ?_)
              ·
                as_aux_lemma =>
                  refine lv_aload_n (pc := 74) hx hb dX12_orders_74 rfl (lv_at hl 3 rfl) ?_
                  refine va_get (pc := 75) (ci := 12) (v := .ref a32) (C := RX12) (T := TX12) (N := 73) hx hb hts iX12 hown hK hP 0 rfl rfl 52 (by decide) (hts _ tw_1453) (fun _ h9 => h9) rfl dX12_orders_75 ?_
                  refine lv_iload_n (pc := 78) hx hb dX12_orders_78 rfl (lv_at hl 1 rfl) ?_
                  refine lv_iload_n (pc := 79) hx hb dX12_orders_79 rfl (lv_at hl 2 rfl) ?_
                  refine e_iastore (pc := 80) hx hb hK hP hD hS 2 2 rfl rfl (n_in rfl (by first | exact (om_0 hi_12.1) | ((first | omega | (unfold zBd at *; omega)))) (by first | exact (om_1642 hi_14.2 c_17 c_8 hi_10.2) | ((first | omega | (unfold zBd at *; omega))))) dX12_orders_80 (fun f_18 ef_18 H locs hP hD hS => ?_)
                  have hf_18 : (∀ j, 0 ≤ (f_18 j).toInt ∧ (f_18 j).toInt ≤ 4) := (by rw [ef_18]; exact n_upd hi_4 (by first | exact (om_0 hi_2.1) | ((first | omega | (unfold zBd at *; omega)))) (by first | exact (om_1256 c_8 h_x9.2) | ((first | omega | (unfold zBd at *; omega)))))
                  replace hP : va_P D gcl (zS_21 cB cC cI cJ a0 a1 x0 x1 x2 x3 x4 x5 x6 x7 a2 a3 a4 a5 a6 a7 a8 a9 a10 a11 a12 a13 a14 a15 a16 x8 x9 x10 x11 x12 x13 a17 a18 a19 x14 a20 x15 a21 x16 x17 a22 a23 a24 a25 x18 a26 x19 a27 a28 a29 y0 a30 a31 a32 a33 a34 a35 a36 a37 a38 x20 x21 x22 y1 a39 x23 a40 a41 a42 a43 x24 x25 x26 x27 a18 f0 a32 f_18) H := hP
                  replace hD : va_D A (zS_21 cB cC cI cJ a0 a1 x0 x1 x2 x3 x4 x5 x6 x7 a2 a3 a4 a5 a6 a7 a8 a9 a10 a11 a12 a13 a14 a15 a16 x8 x9 x10 x11 x12 x13 a17 a18 a19 x14 a20 x15 a21 x16 x17 a22 a23 a24 a25 x18 a26 x19 a27 a28 a29 y0 a30 a31 a32 a33 a34 a35 a36 a37 a38 x20 x21 x22 y1 a39 x23 a40 a41 a42 a43 x24 x25 x26 x27 a18 f0 a32 f_18) := hD
                  refine b_iinc (pc := 81) hx hb dX12_orders_81 hl (k := 2) rfl rfl tI_1 (by first | exact (om_2 hi_2.1) | ((first | omega | (unfold zBd at *; omega)))) (by first | exact (om_357 hi_2.2) | ((first | omega | (unfold zBd at *; omega)))) (by decide) (fun x_19 ex_19 ls hl => ?_)
                  replace hl : lv_has ls 6 [(1, .int x_19), (3, .int x_9), (2, .int x_11), (0, .ref a0)] := hl
                  refine lv_goto (pc := 84) (tgt := 2) hx hb dX12_orders_84 (by decide) ?_
                  exact ih_lp_7 x_19 f_18 _ _ ls (by first | exact (om_1026 ex_19 hi_2.1 c_8 h_x9.2) | ((first | omega | (unfold zBd at *; omega)))) hf_18 (by first | exact (om_40 ex_19 c_8) | ((first | omega | (unfold zBd at *; omega)))) (oR_step hi_6 hi_15 (by first | exact (om_1416 c_17 hi_13) | ((first | omega | (unfold zBd at *; omega)))) ef_18 rfl (by first | exact (om_1643 hi_2.1 c_8) | ((first | omega | (unfold zBd at *; omega)))) (by first | exact (om_5 ex_19) | ((first | omega | (unfold zBd at *; omega))))) (by (first | omega | (unfold zBd at *; omega))) hP hD hS (lv_sub hl [0, 3] rfl)
              ·
                as_aux_lemma =>
                  refine lv_aload_n (pc := 22) hx hb dX12_orders_22 rfl (lv_at hl 3 rfl) ?_
                  refine lv_iload_n (pc := 23) hx hb dX12_orders_23 rfl (lv_at hl 0 rfl) ?_
                  refine lv_iload_n (pc := 24) hx hb dX12_orders_24 rfl (lv_at hl 0 rfl) ?_
                  refine lv_aload_n (pc := 25) hx hb dX12_orders_25 rfl (lv_at hl 3 rfl) ?_
                  refine va_get (pc := 26) (ci := 12) (v := .ref a18) (C := RX12) (T := TX12) (N := 73) hx hb hts iX12 hown hK hP 0 rfl rfl 31 (by decide) (hts _ tw_1432) (fun _ h9 => h9) rfl dX12_orders_26 ?_
                  refine gd_i (pc := 29) (wc := (zS_30 cB cC cI cJ a0 a1 x0 x1 x2 x3 x4 x5 x6 x7 a2 a3 a4 a5 a6 a7 a8 a9 a10 a11 a12 a13 a14 a15 a16 x8 x9 x10 x11 x12 x13 a17 a18 a19 x14 a20 x15 a21 x16 x17 a22 a23 a24 a25 x18 a26 x19 a27 a28 a29 y0 a30 a31 a32 a33 a34 a35 a36 a37 a38 x20 x21 x22 y1 a39 x23 a40 a41 a42 a43 x24 x25 x26 x27 a18 f0)) hP hD hS hA [0, 1] rfl (by decide +kernel) (fun _ => by rfl) (fun hPc hDc => va_runV (As := [.int x_9, .int x_9, .ref a18]) (rest := []) ⟨hx, hb, hml, hown, hts⟩ (k_X12_productOf_60rm9999_9999_x l D cB cC cI cJ _ a0 a18 a1 a2 a3 a4 a5 a6 a7 a8 a9 a10 a11 a12 a13 a14 a15 a16 a17 a18 a19 a20 a21 a22 a23 a24 a25 a26 a27 a28 a29 a30 a31 a32 a33 a34 a35 a36 a37 a38 a39 a40 a41 a42 a43 x_9 x_9 x0 x1 x2 x3 x4 x5 x6 x7 x8 x9 x10 x11 x12 x13 x14 x15 x16 x17 x18 x19 x20 x21 x22 x23 x24 x25 x26 x27 y0 y1 f0 (by first | exact (om_360 hi_10.1 c_17 h_x9.2) | ((first | omega | (unfold zBd at *; omega)))) (by first | exact (om_360 hi_10.1 c_17 h_x9.2) | ((first | omega | (unfold zBd at *; omega)))) h_x0 h_x1 h_x2 h_x3 h_x4 h_x5 h_x8 h_x9 h_x10 h_x11 h_x12 h_x14 h_x15 h_x16 h_x18 h_x19 h_x20 h_x21 h_x22 h_x23 h_x24 h_x25 h_x26 h_x27 hr_a0_0 hr_a0_1 hr_a0_2 hf_f0) ⟨gcwB hts tw_1791 tw_14 tw_1788 hd_yX12_productOf ⟨Nat.le_of_ble_eq_true rfl, Nat.le_of_ble_eq_true rfl⟩, hts _ tw_1790, hts _ tp_91⟩ ⟨gblind, va_recv hK hPc (ci := 12) (q0 := 0) rfl rfl, (gpreS hPc hK hDc hN).2⟩ rfl rfl hl.1 rfl (lv_room (Nat.le_of_ble_eq_true rfl)) dX12_orders_29 ⟨Nat.le_of_ble_eq_true rfl, Nat.le_of_ble_eq_true rfl⟩) (fun r_21 u_20 H locs hw_22 hP hD hS => ?_)
                  replace hP : va_P D gcl (zS_21 cB cC cI cJ a0 a1 x0 x1 x2 x3 x4 x5 x6 x7 a2 a3 a4 a5 a6 a7 a8 a9 a10 a11 a12 a13 a14 a15 a16 x8 x9 x10 x11 x12 x13 a17 a18 a19 x14 a20 x15 a21 x16 x17 a22 a23 a24 a25 x18 a26 x19 a27 a28 a29 y0 a30 a31 a32 a33 a34 a35 a36 a37 a38 x20 x21 x22 y1 a39 x23 a40 a41 a42 a43 x24 x25 x26 x27 a18 f0 a32 f_3) H := hP
                  replace hD : va_D A (zS_21 cB cC cI cJ a0 a1 x0 x1 x2 x3 x4 x5 x6 x7 a2 a3 a4 a5 a6 a7 a8 a9 a10 a11 a12 a13 a14 a15 a16 x8 x9 x10 x11 x12 x13 a17 a18 a19 x14 a20 x15 a21 x16 x17 a22 a23 a24 a25 x18 a26 x19 a27 a28 a29 y0 a30 a31 a32 a33 a34 a35 a36 a37 a38 x20 x21 x22 y1 a39 x23 a40 a41 a42 a43 x24 x25 x26 x27 a18 f0 a32 f_3) := hD
                  have hw_23 : (r_21 = prn f0 x_9.toInt x_9.toInt (x10.toInt).toNat) := hw_22
                  have rr_21 : zBd r_21.toInt (-2147483648) 2147483647 := n_rng r_21
                  refine lv_istore (pc := 32) (lv' := [(4, .int r_21), (3, .int x_9), (2, .int x_11), (1, .int x_1), (0, .ref a0)]) hx hb dX12_orders_32 hl (by decide) rfl (fun ls hl => ?_)
                  refine lv_aload_n (pc := 34) hx hb dX12_orders_34 rfl (lv_at hl 4 rfl) ?_
                  refine lv_iload_n (pc := 35) hx hb dX12_orders_35 rfl (lv_at hl 3 rfl) ?_
                  refine lv_iload_n (pc := 36) hx hb dX12_orders_36 rfl (lv_at hl 3 rfl) ?_
                  as_aux_lemma =>
                    refine lv_aload_n (pc := 37) hx hb dX12_orders_37 rfl (lv_at hl 4 rfl) ?_
                    refine va_get (pc := 38) (ci := 12) (v := .ref a18) (C := RX12) (T := TX12) (N := 73) hx hb hts iX12 hown hK hP 0 rfl rfl 31 (by decide) (hts _ tw_1432) (fun _ h9 => h9) rfl dX12_orders_38 ?_
                    refine gd_i (pc := 41) (wc := (zS_30 cB cC cI cJ a0 a1 x0 x1 x2 x3 x4 x5 x6 x7 a2 a3 a4 a5 a6 a7 a8 a9 a10 a11 a12 a13 a14 a15 a16 x8 x9 x10 x11 x12 x13 a17 a18 a19 x14 a20 x15 a21 x16 x17 a22 a23 a24 a25 x18 a26 x19 a27 a28 a29 y0 a30 a31 a32 a33 a34 a35 a36 a37 a38 x20 x21 x22 y1 a39 x23 a40 a41 a42 a43 x24 x25 x26 x27 a18 f0)) hP hD hS hA [0, 1] rfl (by decide +kernel) (fun _ => by rfl) (fun hPc hDc => va_runV (As := [.int x_1, .int x_1, .ref a18]) (rest := []) ⟨hx, hb, hml, hown, hts⟩ (k_X12_productOf_60rm9999_9999_x l D cB cC cI cJ _ a0 a18 a1 a2 a3 a4 a5 a6 a7 a8 a9 a10 a11 a12 a13 a14 a15 a16 a17 a18 a19 a20 a21 a22 a23 a24 a25 a26 a27 a28 a29 a30 a31 a32 a33 a34 a35 a36 a37 a38 a39 a40 a41 a42 a43 x_1 x_1 x0 x1 x2 x3 x4 x5 x6 x7 x8 x9 x10 x11 x12 x13 x14 x15 x16 x17 x18 x19 x20 x21 x22 x23 x24 x25 x26 x27 y0 y1 f0 (by first | exact (om_360 hi_2.1 c_8 h_x9.2) | ((first | omega | (unfold zBd at *; omega)))) (by first | exact (om_360 hi_2.1 c_8 h_x9.2) | ((first | omega | (unfold zBd at *; omega)))) h_x0 h_x1 h_x2 h_x3 h_x4 h_x5 h_x8 h_x9 h_x10 h_x11 h_x12 h_x14 h_x15 h_x16 h_x18 h_x19 h_x20 h_x21 h_x22 h_x23 h_x24 h_x25 h_x26 h_x27 hr_a0_0 hr_a0_1 hr_a0_2 hf_f0) ⟨gcwB hts tw_1791 tw_14 tw_1788 hd_yX12_productOf ⟨Nat.le_of_ble_eq_true rfl, Nat.le_of_ble_eq_true rfl⟩, hts _ tw_1790, hts _ tp_91⟩ ⟨gblind, va_recv hK hPc (ci := 12) (q0 := 0) rfl rfl, (gpreS hPc hK hDc hN).2⟩ rfl rfl hl.1 rfl (lv_room (Nat.le_of_ble_eq_true rfl)) dX12_orders_41 ⟨Nat.le_of_ble_eq_true rfl, Nat.le_of_ble_eq_true rfl⟩) (fun r_25 u_24 H locs hw_26 hP hD hS => ?_)
                    replace hP : va_P D gcl (zS_21 cB cC cI cJ a0 a1 x0 x1 x2 x3 x4 x5 x6 x7 a2 a3 a4 a5 a6 a7 a8 a9 a10 a11 a12 a13 a14 a15 a16 x8 x9 x10 x11 x12 x13 a17 a18 a19 x14 a20 x15 a21 x16 x17 a22 a23 a24 a25 x18 a26 x19 a27 a28 a29 y0 a30 a31 a32 a33 a34 a35 a36 a37 a38 x20 x21 x22 y1 a39 x23 a40 a41 a42 a43 x24 x25 x26 x27 a18 f0 a32 f_3) H := hP
                    replace hD : va_D A (zS_21 cB cC cI cJ a0 a1 x0 x1 x2 x3 x4 x5 x6 x7 a2 a3 a4 a5 a6 a7 a8 a9 a10 a11 a12 a13 a14 a15 a16 x8 x9 x10 x11 x12 x13 a17 a18 a19 x14 a20 x15 a21 x16 x17 a22 a23 a24 a25 x18 a26 x19 a27 a28 a29 y0 a30 a31 a32 a33 a34 a35 a36 a37 a38 x20 x21 x22 y1 a39 x23 a40 a41 a42 a43 x24 x25 x26 x27 a18 f0 a32 f_3) := hD
                    have hw_27 : (r_25 = prn f0 x_1.toInt x_1.toInt (x10.toInt).toNat) := hw_26
                    have rr_25 : zBd r_25.toInt (-2147483648) 2147483647 := n_rng r_25
                    refine lv_istore (pc := 44) (lv' := [(5, .int r_25), (4, .int r_21), (3, .int x_9), (2, .int x_11), (1, .int x_1), (0, .ref a0)]) hx hb dX12_orders_44 hl (by decide) rfl (fun ls hl => ?_)
                    have hh_28 : ¬ x_9.toInt = x_1.toInt ∨ r_21.toInt = r_25.toInt := (Decidable.em (x_9.toInt = x_1.toInt)).elim (fun h => Or.inr (congrArg Int32.toInt (by rw [hw_23, hw_27, h]))) Or.inl
                    refine lv_iload (pc := 46) hx hb dX12_orders_46 (lv_at hl 1 rfl) ?_
                    refine lv_iload (pc := 48) hx hb dX12_orders_48 (lv_at hl 0 rfl) ?_
                    refine b_icmp_gt (pc := 50) (tgt := 65) hx hb rfl rfl  dX12_orders_50 (by decide) (fun c_29 => ?_) (fun c_29 => ?_)
                    ·
                      as_aux_lemma =>
                        refine b_iinc (pc := 65) hx hb dX12_orders_65 hl (k := 3) rfl rfl tI_1 (by first | exact (om_2 hi_12.1) | ((first | omega | (unfold zBd at *; omega)))) (by first | exact (om_357 hi_12.2) | ((first | omega | (unfold zBd at *; omega)))) (by decide) (fun x_30 ex_30 ls hl => ?_)
                        replace hl : lv_has ls 6 [(2, .int x_30), (5, .int r_25), (4, .int r_21), (3, .int x_9), (1, .int x_1), (0, .ref a0)] := hl
                        refine b_iinc (pc := 68) hx hb dX12_orders_68 hl (k := 3) rfl rfl tI_1 (by first | exact (om_2 hi_10.1) | ((first | omega | (unfold zBd at *; omega)))) (by first | exact (om_357 hi_10.2) | ((first | omega | (unfold zBd at *; omega)))) (by decide) (fun x_31 ex_31 ls hl => ?_)
                        replace hl : lv_has ls 6 [(3, .int x_31), (2, .int x_30), (5, .int r_25), (4, .int r_21), (1, .int x_1), (0, .ref a0)] := hl
                        refine lv_goto (pc := 71) (tgt := 14) hx hb dX12_orders_71 (by decide) ?_
                        exact ih_lp_16 x_31 x_30 _ _ ls (by first | exact (om_1026 ex_31 hi_10.1 c_17 h_x9.2) | ((first | omega | (unfold zBd at *; omega)))) (by first | exact (om_1428 ex_30 hi_12.1 hi_14.1 c_17 h_x9.2) | ((first | omega | (unfold zBd at *; omega)))) (by first | exact (om_40 ex_31 c_17) | ((first | omega | (unfold zBd at *; omega)))) (by first | exact (om_1644 ex_31 ex_30 hi_14.1 hi_14.2 hh_28 c_29) | ((first | omega | (unfold zBd at *; omega)))) (rk_step hi_15 (by first | exact (om_0 hi_10.1) | ((first | omega | (unfold zBd at *; omega)))) (bf_of (fun _ => rfl) hw_23 hw_27 (by first | exact (om_1645 ex_30 c_29) | ((first | omega | (unfold zBd at *; omega))))) (by first | exact (om_5 ex_31) | ((first | omega | (unfold zBd at *; omega))))) (by (first | omega | (unfold zBd at *; omega))) hP hD hS (lv_sub hl [0, 1, 4, 5] rfl)
                    ·
                      as_aux_lemma =>
                        refine lv_iload (pc := 53) hx hb dX12_orders_53 (lv_at hl 1 rfl) ?_
                        refine lv_iload (pc := 55) hx hb dX12_orders_55 (lv_at hl 0 rfl) ?_
                        refine b_icmp_ne (pc := 57) (tgt := 68) hx hb rfl rfl  dX12_orders_57 (by decide) (fun c_32 => ?_) (fun c_32 => ?_)
                        ·
                          as_aux_lemma =>
                            refine b_iinc (pc := 68) hx hb dX12_orders_68 hl (k := 2) rfl rfl tI_1 (by first | exact (om_2 hi_10.1) | ((first | omega | (unfold zBd at *; omega)))) (by first | exact (om_357 hi_10.2) | ((first | omega | (unfold zBd at *; omega)))) (by decide) (fun x_33 ex_33 ls hl => ?_)
                            replace hl : lv_has ls 6 [(3, .int x_33), (5, .int r_25), (4, .int r_21), (2, .int x_11), (1, .int x_1), (0, .ref a0)] := hl
                            refine lv_goto (pc := 71) (tgt := 14) hx hb dX12_orders_71 (by decide) ?_
                            exact ih_lp_16 x_33 x_11 _ _ ls (by first | exact (om_1026 ex_33 hi_10.1 c_17 h_x9.2) | ((first | omega | (unfold zBd at *; omega)))) hi_12 (by first | exact (om_40 ex_33 c_17) | ((first | omega | (unfold zBd at *; omega)))) (by first | exact (om_1646 ex_33 hi_14.1) | ((first | omega | (unfold zBd at *; omega)))) (rk_step hi_15 (by first | exact (om_0 hi_10.1) | ((first | omega | (unfold zBd at *; omega)))) (bf_of (fun _ => rfl) hw_23 hw_27 (by first | exact (om_1647 c_29 c_32) | ((first | omega | (unfold zBd at *; omega))))) (by first | exact (om_5 ex_33) | ((first | omega | (unfold zBd at *; omega))))) (by (first | omega | (unfold zBd at *; omega))) hP hD hS (lv_sub hl [0, 3, 4, 5] rfl)
                        ·
                          as_aux_lemma =>
                            refine lv_iload_n (pc := 60) hx hb dX12_orders_60 rfl (lv_at hl 2 rfl) ?_
                            refine lv_iload_n (pc := 61) hx hb dX12_orders_61 rfl (lv_at hl 4 rfl) ?_
                            refine b_icmp_ge (pc := 62) (tgt := 68) hx hb rfl rfl  dX12_orders_62 (by decide) (fun c_34 => ?_) (fun c_34 => ?_)
                            ·
                              as_aux_lemma =>
                                refine b_iinc (pc := 68) hx hb dX12_orders_68 hl (k := 2) rfl rfl tI_1 (by first | exact (om_2 hi_10.1) | ((first | omega | (unfold zBd at *; omega)))) (by first | exact (om_357 hi_10.2) | ((first | omega | (unfold zBd at *; omega)))) (by decide) (fun x_35 ex_35 ls hl => ?_)
                                replace hl : lv_has ls 6 [(3, .int x_35), (5, .int r_25), (4, .int r_21), (2, .int x_11), (1, .int x_1), (0, .ref a0)] := hl
                                refine lv_goto (pc := 71) (tgt := 14) hx hb dX12_orders_71 (by decide) ?_
                                exact ih_lp_16 x_35 x_11 _ _ ls (by first | exact (om_1026 ex_35 hi_10.1 c_17 h_x9.2) | ((first | omega | (unfold zBd at *; omega)))) hi_12 (by first | exact (om_40 ex_35 c_17) | ((first | omega | (unfold zBd at *; omega)))) (by first | exact (om_1646 ex_35 hi_14.1) | ((first | omega | (unfold zBd at *; omega)))) (rk_step hi_15 (by first | exact (om_0 hi_10.1) | ((first | omega | (unfold zBd at *; omega)))) (bf_of (fun _ => rfl) hw_23 hw_27 (by first | exact (om_1648 c_32 c_34) | ((first | omega | (unfold zBd at *; omega))))) (by first | exact (om_5 ex_35) | ((first | omega | (unfold zBd at *; omega))))) (by (first | omega | (unfold zBd at *; omega))) hP hD hS (lv_sub hl [0, 3, 4, 5] rfl)
                            ·
                              as_aux_lemma =>
                                refine b_iinc (pc := 65) hx hb dX12_orders_65 hl (k := 3) rfl rfl tI_1 (by first | exact (om_2 hi_12.1) | ((first | omega | (unfold zBd at *; omega)))) (by first | exact (om_357 hi_12.2) | ((first | omega | (unfold zBd at *; omega)))) (by decide) (fun x_36 ex_36 ls hl => ?_)
                                replace hl : lv_has ls 6 [(2, .int x_36), (5, .int r_25), (4, .int r_21), (3, .int x_9), (1, .int x_1), (0, .ref a0)] := hl
                                refine b_iinc (pc := 68) hx hb dX12_orders_68 hl (k := 3) rfl rfl tI_1 (by first | exact (om_2 hi_10.1) | ((first | omega | (unfold zBd at *; omega)))) (by first | exact (om_357 hi_10.2) | ((first | omega | (unfold zBd at *; omega)))) (by decide) (fun x_37 ex_37 ls hl => ?_)
                                replace hl : lv_has ls 6 [(3, .int x_37), (2, .int x_36), (5, .int r_25), (4, .int r_21), (1, .int x_1), (0, .ref a0)] := hl
                                refine lv_goto (pc := 71) (tgt := 14) hx hb dX12_orders_71 (by decide) ?_
                                exact ih_lp_16 x_37 x_36 _ _ ls (by first | exact (om_1026 ex_37 hi_10.1 c_17 h_x9.2) | ((first | omega | (unfold zBd at *; omega)))) (by first | exact (om_1428 ex_36 hi_12.1 hi_14.1 c_34 hi_2.2) | ((first | omega | (unfold zBd at *; omega)))) (by first | exact (om_40 ex_37 c_17) | ((first | omega | (unfold zBd at *; omega)))) (by first | exact (om_1649 ex_37 ex_36 hi_14.1 c_34) | ((first | omega | (unfold zBd at *; omega)))) (rk_step hi_15 (by first | exact (om_0 hi_10.1) | ((first | omega | (unfold zBd at *; omega)))) (bf_of (fun _ => rfl) hw_23 hw_27 (by first | exact (om_1650 c_32 ex_36 c_34) | ((first | omega | (unfold zBd at *; omega))))) (by first | exact (om_5 ex_37) | ((first | omega | (unfold zBd at *; omega))))) (by (first | omega | (unfold zBd at *; omega))) hP hD hS (lv_sub hl [0, 1, 4, 5] rfl)
          exact lp_16 _ 0 0 _ _ ls (n_c tI_0 (by decide)) (n_c tI_0 (by decide)) (by have q := tI_0; (first | omega | (unfold zBd at *; omega))) (by have q := tI_0; (first | omega | (unfold zBd at *; omega))) (by rw [tI_0]; rfl) (Nat.lt_succ_self _) hP hD hS (lv_sub hl [0, 1, 2, 3] rfl)
  exact lp_7 _ 0 f1 _ _ ls (n_c tI_0 (by decide)) hf_f1 (by have q := tI_0; (first | omega | (unfold zBd at *; omega))) (oR_0 tI_0) (Nat.lt_succ_self _) hP hD hS (lv_sub hl [0, 1] rfl)
theorem om_1651 {a b : Int} (h0 : (a < b)) (h1 : (b ≤ 6)) : (5 * a ≤ 2147483647) := by omega
theorem om_1652 {a b c d : Int} (h0 : (a = 5 * c)) (h1 : (b ≤ 4)) (h2 : (c < d)) (h3 : (d ≤ 6)) : (a + b ≤ 2147483647) := by omega
theorem om_1653 {a b c d e : Int} (h0 : (a = b + c)) (h1 : (b = 5 * d)) (h2 : (c ≤ 4)) (h3 : (d < e)) (h4 : (e ≤ 6)) : (a < (60 : Nat)) := by omega
set_option maxHeartbeats 4000000 in
set_option maxRecDepth 100000 in
theorem k_X12_restBy (l : Launch) (D : va_G) (cB cC cI cJ : ClassId) (sz : Nat) (a0 a1 a2 a3 a4 a5 a6 a7 a8 a9 a10 a11 a12 a13 a14 a15 a16 a17 a18 a19 a20 a21 a22 a23 a24 a25 a26 a27 a28 a29 a30 a31 a32 a33 a34 a35 a36 a37 a38 a39 a40 a41 a42 a43 : Nat) (x0 x1 x2 x3 x4 x5 x6 x7 x8 x9 x10 x11 x12 x13 x14 x15 x16 x17 x18 x19 x20 x21 x22 x23 x24 x25 x26 x27 x28 x29 : Int32) (y0 y1 : Int64) (f0 : Nat → Int32) (g0 : Nat → Int64) (hp1 : (0 ≤ x0.toInt ∧ x0.toInt ≤ 4)) (h_x2 : zBd x2.toInt 0 1600) (h_x3 : zBd x3.toInt 0 1600) (h_x4 : zBd x4.toInt 0 1600) (h_x5 : zBd x5.toInt (-1) 1600) (h_x6 : zBd x6.toInt 0 4) (h_x7 : zBd x7.toInt (-1) 1600) (h_x10 : zBd x10.toInt 0 8) (h_x11 : zBd x11.toInt 0 5) (h_x12 : zBd x12.toInt 0 6) (h_x13 : zBd x13.toInt 0 6) (h_x14 : zBd x14.toInt 0 16) (h_x16 : zBd x16.toInt 0 60) (h_x17 : zBd x17.toInt 0 1600) (h_x18 : zBd x18.toInt 0 1700) (h_x20 : zBd x20.toInt 0 1700) (h_x21 : zBd x21.toInt 0 1700) (h_x22 : zBd x22.toInt 0 200) (h_x23 : zBd x23.toInt 0 40) (h_x24 : zBd x24.toInt 0 40) (h_x25 : zBd x25.toInt 0 1) (h_x26 : zBd x26.toInt 0 14) (h_x27 : zBd x27.toInt 0 200) (h_x28 : zBd x28.toInt 0 40) (h_x29 : zBd x29.toInt 0 40) (hr_a0_0 : (x23.toInt ≤ x22.toInt)) (hr_a0_1 : (x22.toInt + x24.toInt ≤ 200)) (hr_a0_2 : (x11.toInt = 0 ∨ 2 ≤ x10.toInt)) (hf_f0 : (∀ j, (-9999) ≤ (f0 j).toInt ∧ (f0 j).toInt ≤ 9999)) : Met l yX12_restBy (.code yX12_restBy cX12_restBy 8 (some .long) :: lw_gd) ({ frames := 0, cells := 0, slots := 0, locals := 0 }) (gPre D [(cB, .byte), (cC, .char), (cI, .int), (cJ, .long)] [.ref a0, .int x0, .int x1] (zS_171 cB cC cI cJ a0 a1 x2 x3 x4 x5 x6 x7 x8 x9 a2 a3 a4 a5 a6 a7 a8 a9 a10 a11 a12 a13 a14 a15 a16 x10 x11 x12 x13 x14 x15 a17 a18 a19 x16 a20 x17 a21 x18 x19 a22 a23 a24 a25 x20 a26 x21 a27 a28 a29 y0 a30 a31 a32 a33 a34 a35 a36 a37 a38 x22 x23 x24 y1 a39 x25 a40 a41 a42 a43 x26 x27 x28 x29 a34 g0 a18 f0) sz) (va_Ql (fun r u => ((((-9223372036854775808) ≤ r.toInt ∧ r.toInt ≤ 9223372036854775807) ∧ (0 ≤ x12.toInt ∧ x12.toInt ≤ 6)))) (gB D (va_A (zS_171 cB cC cI cJ a0 a1 x2 x3 x4 x5 x6 x7 x8 x9 a2 a3 a4 a5 a6 a7 a8 a9 a10 a11 a12 a13 a14 a15 a16 x10 x11 x12 x13 x14 x15 a17 a18 a19 x16 a20 x17 a21 x18 x19 a22 a23 a24 a25 x20 a26 x21 a27 a28 a29 y0 a30 a31 a32 a33 a34 a35 a36 a37 a38 x22 x23 x24 y1 a39 x25 a40 a41 a42 a43 x26 x27 x28 x29 a34 g0 a18 f0) sz) (fun u : gEx => (zS_171 cB cC cI cJ a0 a1 x2 x3 x4 x5 x6 x7 x8 x9 a2 a3 a4 a5 a6 a7 a8 a9 a10 a11 a12 a13 a14 a15 a16 x10 x11 x12 x13 x14 x15 a17 a18 a19 x16 a20 x17 a21 x18 x19 a22 a23 a24 a25 x20 a26 x21 a27 a28 a29 y0 a30 a31 a32 a33 a34 a35 a36 a37 a38 x22 x23 x24 y1 a39 x25 a40 a41 a42 a43 x26 x27 x28 x29 a34 g0 a18 f0))) (va_A (zS_171 cB cC cI cJ a0 a1 x2 x3 x4 x5 x6 x7 x8 x9 a2 a3 a4 a5 a6 a7 a8 a9 a10 a11 a12 a13 a14 a15 a16 x10 x11 x12 x13 x14 x15 a17 a18 a19 x16 a20 x17 a21 x18 x19 a22 a23 a24 a25 x20 a26 x21 a27 a28 a29 y0 a30 a31 a32 a33 a34 a35 a36 a37 a38 x22 x23 x24 y1 a39 x25 a40 a41 a42 a43 x26 x27 x28 x29 a34 g0 a18 f0) sz)) 0 0 (va_A (zS_171 cB cC cI cJ a0 a1 x2 x3 x4 x5 x6 x7 x8 x9 a2 a3 a4 a5 a6 a7 a8 a9 a10 a11 a12 a13 a14 a15 a16 x10 x11 x12 x13 x14 x15 a17 a18 a19 x16 a20 x17 a21 x18 x19 a22 a23 a24 a25 x20 a26 x21 a27 a28 a29 y0 a30 a31 a32 a33 a34 a35 a36 a37 a38 x22 x23 x24 y1 a39 x25 a40 a41 a42 a43 x26 x27 x28 x29 a34 g0 a18 f0) sz) := by
  refine gOf_l (by decide +kernel) (Nat.le_of_ble_eq_true rfl) ?_
  intro p e s m args below meth c ls A Q hx hb hts hown hml hN hK hP hD hA hl hret
  replace hown : s.vm.findClass RX12 = some m.cls := hown
  have hS : va_S A s.heap s.heap [] := va_S.rf
  replace hP : va_P D gcl (zS_171 cB cC cI cJ a0 a1 x2 x3 x4 x5 x6 x7 x8 x9 a2 a3 a4 a5 a6 a7 a8 a9 a10 a11 a12 a13 a14 a15 a16 x10 x11 x12 x13 x14 x15 a17 a18 a19 x16 a20 x17 a21 x18 x19 a22 a23 a24 a25 x20 a26 x21 a27 a28 a29 y0 a30 a31 a32 a33 a34 a35 a36 a37 a38 x22 x23 x24 y1 a39 x25 a40 a41 a42 a43 x26 x27 x28 x29 a34 g0 a18 f0) s.heap := hP
  replace hl : lv_has ls 8 [(0, .ref a0), (1, .int x0), (2, .int x1)] := hl
  have rx1 : zBd x1.toInt (-2147483648) 2147483647 := n_rng x1
  have rx8 : zBd x8.toInt (-2147483648) 2147483647 := n_rng x8
  have rx9 : zBd x9.toInt (-2147483648) 2147483647 := n_rng x9
  have rx15 : zBd x15.toInt (-2147483648) 2147483647 := n_rng x15
  have rx19 : zBd x19.toInt (-2147483648) 2147483647 := n_rng x19
  have ry0 := n_rngL y0
  have ry1 := n_rngL y1
  refine lv_lconst (pc := 0) (v := 0) hx hb dX12_restBy_0 (by decide) ?_
  refine lv_lstore_n (pc := 1) (lv' := [(3, .long 0), (0, .ref a0), (1, .int x0), (2, .int x1)]) hx hb dX12_restBy_1 rfl hl (by decide) rfl (fun ls hl => ?_)
  refine lv_iconst (pc := 2) (v := 0) hx hb dX12_restBy_2 (by decide) ?_
  refine lv_istore (pc := 3) (lv' := [(5, .int 0), (3, .long 0), (0, .ref a0), (1, .int x0), (2, .int x1)]) hx hb dX12_restBy_3 hl (by decide) rfl (fun ls hl => ?_)
  have lp_5 : ∀ (n : Nat) (x_1 : Int32) (y_3 : Int64) (H : Heap) (locs : List Loc) (ls : Array Slot), (0 ≤ x_1.toInt ∧ x_1.toInt ≤ 2147483647) → (2147483647 - x_1.toInt).toNat < n → va_P D gcl (zS_171 cB cC cI cJ a0 a1 x2 x3 x4 x5 x6 x7 x8 x9 a2 a3 a4 a5 a6 a7 a8 a9 a10 a11 a12 a13 a14 a15 a16 x10 x11 x12 x13 x14 x15 a17 a18 a19 x16 a20 x17 a21 x18 x19 a22 a23 a24 a25 x20 a26 x21 a27 a28 a29 y0 a30 a31 a32 a33 a34 a35 a36 a37 a38 x22 x23 x24 y1 a39 x25 a40 a41 a42 a43 x26 x27 x28 x29 a34 g0 a18 f0) H → va_D A (zS_171 cB cC cI cJ a0 a1 x2 x3 x4 x5 x6 x7 x8 x9 a2 a3 a4 a5 a6 a7 a8 a9 a10 a11 a12 a13 a14 a15 a16 x10 x11 x12 x13 x14 x15 a17 a18 a19 x16 a20 x17 a21 x18 x19 a22 a23 a24 a25 x20 a26 x21 a27 a28 a29 y0 a30 a31 a32 a33 a34 a35 a36 a37 a38 x22 x23 x24 y1 a39 x25 a40 a41 a42 a43 x26 x27 x28 x29 a34 g0 a18 f0) → va_S A s.heap H locs → lv_has ls 8 [(5, .int x_1), (3, .long y_3), (0, .ref a0), (1, .int x0), (2, .int x1)] → W p l e ({ frames := 0, cells := 0, slots := 0, locals := 0 }) s m args below meth c H locs 0 0 Q (F0 m 5 ls []) := by
    intro n
    induction n with
    | zero => intro x_1 y_3 H locs ls hi_2 hmu; exact absurd hmu (Nat.not_lt_zero _)
    | succ n ih_lp_5 =>
      intro x_1 y_3 H locs ls hi_2 hmu_lp_5 hP hD hS hl
      have hi_4 := n_rngL y_3
      refine lv_iload (pc := 5) hx hb dX12_restBy_5 (lv_at hl 0 rfl) ?_
      refine lv_aload_n (pc := 7) hx hb dX12_restBy_7 rfl (lv_at hl 2 rfl) ?_
      refine va_get (pc := 8) (ci := 12) (v := .int x12) (C := RX12) (T := TX12) (N := 73) hx hb hts iX12 hown hK hP 0 rfl rfl 26 (by decide) (hts _ tw_1427) (fun _ h9 => h9) rfl dX12_restBy_8 ?_
      have bd_h_x12 : 0 ≤ x12.toInt ∧ x12.toInt ≤ 6 := h_x12
      refine b_icmp_ge (pc := 11) (tgt := 52) hx hb rfl rfl  dX12_restBy_11 (by decide) (fun c_6 => ?_) (fun c_6 => ?_)
      ·
        as_aux_lemma =>
          refine lv_lload_n (pc := 52) hx hb dX12_restBy_52 rfl (lv_at hl 1 rfl) ?_
          have hP9 : va_P D gcl (zS_171 cB cC cI cJ a0 a1 x2 x3 x4 x5 x6 x7 x8 x9 a2 a3 a4 a5 a6 a7 a8 a9 a10 a11 a12 a13 a14 a15 a16 x10 x11 x12 x13 x14 x15 a17 a18 a19 x16 a20 x17 a21 x18 x19 a22 a23 a24 a25 x20 a26 x21 a27 a28 a29 y0 a30 a31 a32 a33 a34 a35 a36 a37 a38 x22 x23 x24 y1 a39 x25 a40 a41 a42 a43 x26 x27 x28 x29 a34 g0 a18 f0) H := g_psub hP [0, 1, 2] rfl
          have hD9 : va_D A (zS_171 cB cC cI cJ a0 a1 x2 x3 x4 x5 x6 x7 x8 x9 a2 a3 a4 a5 a6 a7 a8 a9 a10 a11 a12 a13 a14 a15 a16 x10 x11 x12 x13 x14 x15 a17 a18 a19 x16 a20 x17 a21 x18 x19 a22 a23 a24 a25 x20 a26 x21 a27 a28 a29 y0 a30 a31 a32 a33 a34 a35 a36 a37 a38 x22 x23 x24 y1 a39 x25 a40 a41 a42 a43 x26 x27 x28 x29 a34 g0 a18 f0) := hD.sub [0, 1, 2] (by decide) rfl
          exact hret y_3 ((fun _ => 0), (fun _ => (fun _ => 0)), (fun _ => (fun _ => 0)), (fun _ => 0), (fun _ => 0)) dX12_restBy_53 (show ((((-9223372036854775808) ≤ y_3.toInt ∧ y_3.toInt ≤ 9223372036854775807) ∧ (0 ≤ x12.toInt ∧ x12.toInt ≤ 6))) from (by first | exact (om_1591 hi_4.1 hi_4.2 h_x12.1 h_x12.2) | ((first | omega | (unfold zBd at *; omega))))) hP9 hD9 hS
      ·
        as_aux_lemma =>
          refine lv_aload_n (pc := 14) hx hb dX12_restBy_14 rfl (lv_at hl 2 rfl) ?_
          refine va_get (pc := 15) (ci := 12) (v := .ref a34) (C := RX12) (T := TX12) (N := 73) hx hb hts iX12 hown hK hP 0 rfl rfl 54 (by decide) (hts _ tw_1455) (fun _ h9 => h9) rfl dX12_restBy_15 ?_
          refine lv_iload (pc := 18) hx hb dX12_restBy_18 (lv_at hl 0 rfl) ?_
          refine va_lald (pc := 20) hx hb hK hP 1 3 rfl rfl (n_in rfl (by first | exact (om_0 hi_2.1) | ((first | omega | (unfold zBd at *; omega)))) (by first | exact (om_1082 c_6 h_x12.2) | ((first | omega | (unfold zBd at *; omega))))) dX12_restBy_20 ?_
          refine lv_topl (fun y_7 ey_7 => ?_)
          have ry_7 := n_rngL y_7
          refine lv_aload_n (pc := 21) hx hb dX12_restBy_21 rfl (lv_at hl 2 rfl) ?_
          refine va_get (pc := 22) (ci := 12) (v := .ref a18) (C := RX12) (T := TX12) (N := 73) hx hb hts iX12 hown hK hP 0 rfl rfl 31 (by decide) (hts _ tw_1432) (fun _ h9 => h9) rfl dX12_restBy_22 ?_
          refine lv_iconst (pc := 25) (v := 5) hx hb dX12_restBy_25 (by decide) ?_
          refine lv_iload (pc := 26) hx hb dX12_restBy_26 (lv_at hl 0 rfl) ?_
          refine b_imul (pc := 28) hx hb tI_5 rfl (by first | exact (om_941 hi_2.1) | ((first | omega | (unfold zBd at *; omega)))) (by first | exact (om_1651 c_6 h_x12.2) | ((first | omega | (unfold zBd at *; omega)))) dX12_restBy_28 (fun x_8 ex_8 => ?_)
          as_aux_lemma =>
            refine lv_iload_n (pc := 29) hx hb dX12_restBy_29 rfl (lv_at hl 3 rfl) ?_
            refine b_iadd (pc := 30) hx hb rfl rfl (by first | exact (om_1529 ex_8 hp1.1 hi_2.1) | ((first | omega | (unfold zBd at *; omega)))) (by first | exact (om_1652 ex_8 hp1.2 c_6 h_x12.2) | ((first | omega | (unfold zBd at *; omega)))) dX12_restBy_30 (fun x_9 ex_9 => ?_)
            refine va_iald (pc := 31) hx hb hK hP 2 2 rfl rfl (n_in rfl (by first | exact (om_1531 ex_9 ex_8 hp1.1 hi_2.1) | ((first | omega | (unfold zBd at *; omega)))) (by first | exact (om_1653 ex_9 ex_8 hp1.2 c_6 h_x12.2) | ((first | omega | (unfold zBd at *; omega))))) dX12_restBy_31 ?_
            refine lv_topi (fun x_10 ex_10 => ?_)
            have rx_10 : ((-9999) ≤ x_10.toInt ∧ x_10.toInt ≤ 9999) := by rw [ex_10]; exact hf_f0 _
            refine lv_iload_n (pc := 32) hx hb dX12_restBy_32 rfl (lv_at hl 4 rfl) ?_
            refine lv_imul (pc := 33) hx hb dX12_restBy_33 ?_
            refine lv_topi (fun x_11 _ => ?_)
            have rx_11 : zBd x_11.toInt (-2147483648) 2147483647 := n_rng x_11
            refine b_i2l (pc := 34) hx hb rfl dX12_restBy_34 (fun y_12 ey_12 => ?_)
            have ry_12 : zBd x_11.toInt (-2147483648) 2147483647 := n_rng x_11
            refine lv_lsub (pc := 35) hx hb dX12_restBy_35 ?_
            refine lv_topl (fun y_13 _ => ?_)
            have ry_13 := n_rngL y_13
            as_aux_lemma =>
              refine lv_lstore (pc := 36) (lv' := [(6, .long y_13), (5, .int x_1), (3, .long y_3), (0, .ref a0), (1, .int x0), (2, .int x1)]) hx hb dX12_restBy_36 hl (by decide) rfl (fun ls hl => ?_)
              refine lv_lload_n (pc := 38) hx hb dX12_restBy_38 rfl (lv_at hl 2 rfl) ?_
              refine lv_lload (pc := 39) hx hb dX12_restBy_39 (lv_at hl 0 rfl) ?_
              refine lv_lload (pc := 41) hx hb dX12_restBy_41 (lv_at hl 0 rfl) ?_
              refine lv_lmul (pc := 43) hx hb dX12_restBy_43 ?_
              refine lv_topl (fun y_14 _ => ?_)
              have ry_14 := n_rngL y_14
              refine lv_ladd (pc := 44) hx hb dX12_restBy_44 ?_
              refine lv_topl (fun y_15 _ => ?_)
              have ry_15 := n_rngL y_15
              refine lv_lstore_n (pc := 45) (lv' := [(3, .long y_15), (6, .long y_13), (5, .int x_1), (0, .ref a0), (1, .int x0), (2, .int x1)]) hx hb dX12_restBy_45 rfl hl (by decide) rfl (fun ls hl => ?_)
              refine b_iinc (pc := 46) hx hb dX12_restBy_46 hl (k := 2) rfl rfl tI_1 (by first | exact (om_2 hi_2.1) | ((first | omega | (unfold zBd at *; omega)))) (by first | exact (om_1084 c_6 h_x12.2) | ((first | omega | (unfold zBd at *; omega)))) (by decide) (fun x_16 ex_16 ls hl => ?_)
              replace hl : lv_has ls 8 [(5, .int x_16), (3, .long y_15), (6, .long y_13), (0, .ref a0), (1, .int x0), (2, .int x1)] := hl
              as_aux_lemma =>
                refine lv_goto (pc := 49) (tgt := 5) hx hb dX12_restBy_49 (by decide) ?_
                exact ih_lp_5 x_16 y_15 _ _ ls (by first | exact (om_1085 ex_16 hi_2.1 c_6 h_x12.2) | ((first | omega | (unfold zBd at *; omega)))) (by (first | omega | (unfold zBd at *; omega))) hP hD hS (lv_sub hl [0, 1, 3, 4, 5] rfl)
  exact lp_5 _ 0 0 _ _ ls (n_c tI_0 (by decide)) (Nat.lt_succ_self _) hP hD hS (lv_sub hl [0, 1, 2, 3, 4] rfl)
theorem om_1654 {a b : Int} (h0 : (0 ≤ a)) (h1 : (a ≤ 6)) (h2 : (0 ≤ b)) (h3 : (b ≤ 5)) : ((((0 ≤ a ∧ a ≤ 6) ∧ (0 ≤ b ∧ b ≤ 5)))) := by omega
theorem om_1655 {a : Int} (h0 : (a ≤ 8)) : (-2147483648 ≤ 3 - a) := by omega
theorem om_1656 {a : Int} (h0 : (0 ≤ a)) : (3 - a ≤ 2147483647) := by omega
theorem om_1657 {a : Int} (h0 : ((-5) ≤ a)) : (-2147483648 ≤ a + 2) := by omega
theorem om_1658 {a b : Int} (h0 : (a < b)) (h1 : (b ≤ 8)) : (a + 2 ≤ 2147483647) := by omega
theorem om_1659 {a b c : Int} (h0 : (a = b + 2)) (h1 : ((-5) ≤ b)) (h2 : (b < c)) (h3 : (c ≤ 8)) : (((-5) ≤ a ∧ a ≤ 2147483647)) := by omega
theorem om_1660 {a b : Int} (h0 : (a = 3 - b)) (h1 : (b ≤ 8)) (h2 : (0 ≤ b)) : (((-5) ≤ a ∧ a ≤ 2147483647)) := by omega
set_option maxHeartbeats 4000000 in
set_option maxRecDepth 100000 in
theorem k_X12_cancels (l : Launch) (D : va_G) (cB cC cI cJ : ClassId) (sz : Nat) (a0 a1 a2 a3 a4 a5 a6 a7 a8 a9 a10 a11 a12 a13 a14 a15 a16 a17 a18 a19 a20 a21 a22 a23 a24 a25 a26 a27 a28 a29 a30 a31 a32 a33 a34 a35 a36 a37 a38 a39 a40 a41 a42 a43 : Nat) (x0 x1 x2 x3 x4 x5 x6 x7 x8 x9 x10 x11 x12 x13 x14 x15 x16 x17 x18 x19 x20 x21 x22 x23 x24 x25 x26 x27 : Int32) (y0 y1 : Int64) (f0 f1 f2 f3 : Nat → Int32) (g0 : Nat → Int64) (h_x0 : zBd x0.toInt 0 1600) (h_x1 : zBd x1.toInt 0 1600) (h_x2 : zBd x2.toInt 0 1600) (h_x3 : zBd x3.toInt (-1) 1600) (h_x4 : zBd x4.toInt 0 4) (h_x5 : zBd x5.toInt (-1) 1600) (h_x8 : zBd x8.toInt 0 8) (h_x9 : zBd x9.toInt 0 5) (h_x10 : zBd x10.toInt 0 6) (h_x11 : zBd x11.toInt 0 6) (h_x12 : zBd x12.toInt 0 16) (h_x14 : zBd x14.toInt 0 60) (h_x15 : zBd x15.toInt 0 1600) (h_x16 : zBd x16.toInt 0 1700) (h_x18 : zBd x18.toInt 0 1700) (h_x19 : zBd x19.toInt 0 1700) (h_x20 : zBd x20.toInt 0 200) (h_x21 : zBd x21.toInt 0 40) (h_x22 : zBd x22.toInt 0 40) (h_x23 : zBd x23.toInt 0 1) (h_x24 : zBd x24.toInt 0 14) (h_x25 : zBd x25.toInt 0 200) (h_x26 : zBd x26.toInt 0 40) (h_x27 : zBd x27.toInt 0 40) (hr_a0_0 : (x21.toInt ≤ x20.toInt)) (hr_a0_1 : (x20.toInt + x22.toInt ≤ 200)) (hr_a0_2 : (x9.toInt = 0 ∨ 2 ≤ x8.toInt)) (hf_f0 : (∀ j, (-9999) ≤ (f0 j).toInt ∧ (f0 j).toInt ≤ 9999)) (hf_f1 : (∀ j, 0 ≤ (f1 j).toInt ∧ (f1 j).toInt ≤ 4)) (hf_f3 : (∀ j, (-1100000) ≤ (f3 j).toInt ∧ (f3 j).toInt ≤ 1100000)) : Met l yX12_cancels (.code yX12_cancels cX12_cancels 5 none :: lw_gd) ({ frames := 2, cells := 0, slots := 0, locals := 50 }) (gPre D [(cB, .byte), (cC, .char), (cI, .int), (cJ, .long)] [.ref a0] (zS_28 cB cC cI cJ a0 a1 x0 x1 x2 x3 x4 x5 x6 x7 a2 a3 a4 a5 a6 a7 a8 a9 a10 a11 a12 a13 a14 a15 a16 x8 x9 x10 x11 x12 x13 a17 a18 a19 x14 a20 x15 a21 x16 x17 a22 a23 a24 a25 x18 a26 x19 a27 a28 a29 y0 a30 a31 a32 a33 a34 a35 a36 a37 a38 x20 x21 x22 y1 a39 x23 a40 a41 a42 a43 x24 x25 x26 x27 a18 f0 a32 f1 a33 f2 a34 g0 a28 f3) sz) (va_Qv (fun u => (((0 ≤ x10.toInt ∧ x10.toInt ≤ 6) ∧ (0 ≤ x9.toInt ∧ x9.toInt ≤ 5))) ∧ (∀ j, 0 ≤ ((u.2.1 0) j).toInt ∧ ((u.2.1 0) j).toInt ≤ 4)) (gB D (va_A (zS_28 cB cC cI cJ a0 a1 x0 x1 x2 x3 x4 x5 x6 x7 a2 a3 a4 a5 a6 a7 a8 a9 a10 a11 a12 a13 a14 a15 a16 x8 x9 x10 x11 x12 x13 a17 a18 a19 x14 a20 x15 a21 x16 x17 a22 a23 a24 a25 x18 a26 x19 a27 a28 a29 y0 a30 a31 a32 a33 a34 a35 a36 a37 a38 x20 x21 x22 y1 a39 x23 a40 a41 a42 a43 x24 x25 x26 x27 a18 f0 a32 f1 a33 f2 a34 g0 a28 f3) sz) (fun u : gEx => (zS_28 cB cC cI cJ a0 a1 x0 x1 x2 x3 x4 x5 x6 x7 a2 a3 a4 a5 a6 a7 a8 a9 a10 a11 a12 a13 a14 a15 a16 x8 x9 x10 x11 x12 x13 a17 a18 a19 x14 a20 x15 a21 x16 x17 a22 a23 a24 a25 x18 a26 x19 a27 a28 a29 y0 a30 a31 a32 a33 a34 a35 a36 a37 a38 x20 x21 x22 y1 a39 x23 a40 a41 a42 a43 x24 x25 x26 x27 a18 f0 a32 (u.2.1 0) a33 (u.2.1 1) a34 (u.2.2.1 0) a28 f3))) (va_A (zS_28 cB cC cI cJ a0 a1 x0 x1 x2 x3 x4 x5 x6 x7 a2 a3 a4 a5 a6 a7 a8 a9 a10 a11 a12 a13 a14 a15 a16 x8 x9 x10 x11 x12 x13 a17 a18 a19 x14 a20 x15 a21 x16 x17 a22 a23 a24 a25 x18 a26 x19 a27 a28 a29 y0 a30 a31 a32 a33 a34 a35 a36 a37 a38 x20 x21 x22 y1 a39 x23 a40 a41 a42 a43 x24 x25 x26 x27 a18 f0 a32 f1 a33 f2 a34 g0 a28 f3) sz)) 0 0 (va_A (zS_28 cB cC cI cJ a0 a1 x0 x1 x2 x3 x4 x5 x6 x7 a2 a3 a4 a5 a6 a7 a8 a9 a10 a11 a12 a13 a14 a15 a16 x8 x9 x10 x11 x12 x13 a17 a18 a19 x14 a20 x15 a21 x16 x17 a22 a23 a24 a25 x18 a26 x19 a27 a28 a29 y0 a30 a31 a32 a33 a34 a35 a36 a37 a38 x20 x21 x22 y1 a39 x23 a40 a41 a42 a43 x24 x25 x26 x27 a18 f0 a32 f1 a33 f2 a34 g0 a28 f3) sz) := by
  refine gOf_v (by decide +kernel) (Nat.le_of_ble_eq_true rfl) ?_
  intro p e s m args below meth c ls A Q hx hb hts hown hml hN hK hP hD hA hl hret
  replace hown : s.vm.findClass RX12 = some m.cls := hown
  have hS : va_S A s.heap s.heap [] := va_S.rf
  replace hP : va_P D gcl (zS_28 cB cC cI cJ a0 a1 x0 x1 x2 x3 x4 x5 x6 x7 a2 a3 a4 a5 a6 a7 a8 a9 a10 a11 a12 a13 a14 a15 a16 x8 x9 x10 x11 x12 x13 a17 a18 a19 x14 a20 x15 a21 x16 x17 a22 a23 a24 a25 x18 a26 x19 a27 a28 a29 y0 a30 a31 a32 a33 a34 a35 a36 a37 a38 x20 x21 x22 y1 a39 x23 a40 a41 a42 a43 x24 x25 x26 x27 a18 f0 a32 f1 a33 f2 a34 g0 a28 f3) s.heap := hP
  replace hl : lv_has ls 5 [(0, .ref a0)] := hl
  have rx6 : zBd x6.toInt (-2147483648) 2147483647 := n_rng x6
  have rx7 : zBd x7.toInt (-2147483648) 2147483647 := n_rng x7
  have rx13 : zBd x13.toInt (-2147483648) 2147483647 := n_rng x13
  have rx17 : zBd x17.toInt (-2147483648) 2147483647 := n_rng x17
  have ry0 := n_rngL y0
  have ry1 := n_rngL y1
  refine lv_aload_n (pc := 0) hx hb dX12_cancels_0 rfl (lv_at hl 0 rfl) ?_
  refine gd_v (pc := 1) (wc := (zS_21 cB cC cI cJ a0 a1 x0 x1 x2 x3 x4 x5 x6 x7 a2 a3 a4 a5 a6 a7 a8 a9 a10 a11 a12 a13 a14 a15 a16 x8 x9 x10 x11 x12 x13 a17 a18 a19 x14 a20 x15 a21 x16 x17 a22 a23 a24 a25 x18 a26 x19 a27 a28 a29 y0 a30 a31 a32 a33 a34 a35 a36 a37 a38 x20 x21 x22 y1 a39 x23 a40 a41 a42 a43 x24 x25 x26 x27 a18 f0 a32 f1)) hP hD hS hA [0, 1, 2] rfl (by decide +kernel) (fun _ => by rfl) (fun hPc hDc => va_runV (As := []) (rest := []) ⟨hx, hb, hml, hown, hts⟩ (k_X12_orders l D cB cC cI cJ _ a0 a1 a2 a3 a4 a5 a6 a7 a8 a9 a10 a11 a12 a13 a14 a15 a16 a17 a18 a19 a20 a21 a22 a23 a24 a25 a26 a27 a28 a29 a30 a31 a32 a33 a34 a35 a36 a37 a38 a39 a40 a41 a42 a43 x0 x1 x2 x3 x4 x5 x6 x7 x8 x9 x10 x11 x12 x13 x14 x15 x16 x17 x18 x19 x20 x21 x22 x23 x24 x25 x26 x27 y0 y1 f0 f1 h_x0 h_x1 h_x2 h_x3 h_x4 h_x5 h_x8 h_x9 h_x10 h_x11 h_x12 h_x14 h_x15 h_x16 h_x18 h_x19 h_x20 h_x21 h_x22 h_x23 h_x24 h_x25 h_x26 h_x27 hr_a0_0 hr_a0_1 hr_a0_2 hf_f0 hf_f1) ⟨gcwB hts tw_1896 tw_14 tw_1893 hd_yX12_orders ⟨Nat.le_of_ble_eq_true rfl, Nat.le_of_ble_eq_true rfl⟩, hts _ tw_1895, hts _ tp_104⟩ ⟨gblind, va_recv hK hPc (ci := 12) (q0 := 0) rfl rfl, (gpreS hPc hK hDc hN).2⟩ rfl rfl hl.1 rfl (lv_room (Nat.le_of_ble_eq_true rfl)) dX12_cancels_1 ⟨Nat.le_of_ble_eq_true rfl, Nat.le_of_ble_eq_true rfl⟩) (fun u_1 H locs hw_3 hP hD hS => ?_)
  replace hP : va_P D gcl (zS_28 cB cC cI cJ a0 a1 x0 x1 x2 x3 x4 x5 x6 x7 a2 a3 a4 a5 a6 a7 a8 a9 a10 a11 a12 a13 a14 a15 a16 x8 x9 x10 x11 x12 x13 a17 a18 a19 x14 a20 x15 a21 x16 x17 a22 a23 a24 a25 x18 a26 x19 a27 a28 a29 y0 a30 a31 a32 a33 a34 a35 a36 a37 a38 x20 x21 x22 y1 a39 x23 a40 a41 a42 a43 x24 x25 x26 x27 a18 f0 a32 (u_1.2.1 0) a33 f2 a34 g0 a28 f3) H := hP
  replace hD : va_D A (zS_28 cB cC cI cJ a0 a1 x0 x1 x2 x3 x4 x5 x6 x7 a2 a3 a4 a5 a6 a7 a8 a9 a10 a11 a12 a13 a14 a15 a16 x8 x9 x10 x11 x12 x13 a17 a18 a19 x14 a20 x15 a21 x16 x17 a22 a23 a24 a25 x18 a26 x19 a27 a28 a29 y0 a30 a31 a32 a33 a34 a35 a36 a37 a38 x20 x21 x22 y1 a39 x23 a40 a41 a42 a43 x24 x25 x26 x27 a18 f0 a32 (u_1.2.1 0) a33 f2 a34 g0 a28 f3) := hD
  obtain ⟨hw_4, hw_5⟩ := hw_3
  replace hw_4 : (∀ j, 0 ≤ ((u_1.2.1 0) j).toInt ∧ ((u_1.2.1 0) j).toInt ≤ 4) := hw_4
  replace hw_5 : (oR (u_1.2.1 0) (fun s => (prn f0 s s (x10.toInt).toNat).toInt) x9.toInt x9.toInt) := hw_5
  refine lv_iconst (pc := 4) (v := 0) hx hb dX12_cancels_4 (by decide) ?_
  refine lv_istore_n (pc := 5) (lv' := [(1, .int 0), (0, .ref a0)]) hx hb dX12_cancels_5 rfl hl (by decide) rfl (fun ls hl => ?_)
  have lp_9 : ∀ (n : Nat) (x_6 : Int32) (g_8 : Nat → Int64) (H : Heap) (locs : List Loc) (ls : Array Slot), (0 ≤ x_6.toInt ∧ x_6.toInt ≤ 2147483647) → (2147483647 - x_6.toInt).toNat < n → va_P D gcl (zS_28 cB cC cI cJ a0 a1 x0 x1 x2 x3 x4 x5 x6 x7 a2 a3 a4 a5 a6 a7 a8 a9 a10 a11 a12 a13 a14 a15 a16 x8 x9 x10 x11 x12 x13 a17 a18 a19 x14 a20 x15 a21 x16 x17 a22 a23 a24 a25 x18 a26 x19 a27 a28 a29 y0 a30 a31 a32 a33 a34 a35 a36 a37 a38 x20 x21 x22 y1 a39 x23 a40 a41 a42 a43 x24 x25 x26 x27 a18 f0 a32 (u_1.2.1 0) a33 f2 a34 g_8 a28 f3) H → va_D A (zS_28 cB cC cI cJ a0 a1 x0 x1 x2 x3 x4 x5 x6 x7 a2 a3 a4 a5 a6 a7 a8 a9 a10 a11 a12 a13 a14 a15 a16 x8 x9 x10 x11 x12 x13 a17 a18 a19 x14 a20 x15 a21 x16 x17 a22 a23 a24 a25 x18 a26 x19 a27 a28 a29 y0 a30 a31 a32 a33 a34 a35 a36 a37 a38 x20 x21 x22 y1 a39 x23 a40 a41 a42 a43 x24 x25 x26 x27 a18 f0 a32 (u_1.2.1 0) a33 f2 a34 g_8 a28 f3) → va_S A s.heap H locs → lv_has ls 5 [(1, .int x_6), (0, .ref a0)] → W p l e ({ frames := 2, cells := 0, slots := 0, locals := 50 }) s m args below meth c H locs 0 0 Q (F0 m 6 ls []) := by
    intro n
    induction n with
    | zero => intro x_6 g_8 H locs ls hi_7 hmu; exact absurd hmu (Nat.not_lt_zero _)
    | succ n ih_lp_9 =>
      intro x_6 g_8 H locs ls hi_7 hmu_lp_9 hP hD hS hl
      refine lv_iload_n (pc := 6) hx hb dX12_cancels_6 rfl (lv_at hl 0 rfl) ?_
      refine lv_aload_n (pc := 7) hx hb dX12_cancels_7 rfl (lv_at hl 1 rfl) ?_
      refine va_get (pc := 8) (ci := 12) (v := .int x10) (C := RX12) (T := TX12) (N := 73) hx hb hts iX12 hown hK hP 0 rfl rfl 26 (by decide) (hts _ tw_1427) (fun _ h9 => h9) rfl dX12_cancels_8 ?_
      have bd_h_x10 : 0 ≤ x10.toInt ∧ x10.toInt ≤ 6 := h_x10
      refine b_icmp_ge (pc := 11) (tgt := 33) hx hb rfl rfl  dX12_cancels_11 (by decide) (fun c_10 => ?_) (fun c_10 => ?_)
      ·
        as_aux_lemma =>
          refine lv_iconst (pc := 33) (v := 0) hx hb dX12_cancels_33 (by decide) ?_
          refine lv_istore_n (pc := 34) (lv' := [(1, .int 0), (0, .ref a0)]) hx hb dX12_cancels_34 rfl hl (by decide) rfl (fun ls hl => ?_)
          have lp_15 : ∀ (n : Nat) (x_11 : Int32) (f_13 : Nat → Int32) (g_14 : Nat → Int64) (H : Heap) (locs : List Loc) (ls : Array Slot), (0 ≤ x_11.toInt ∧ x_11.toInt ≤ 2147483647) → (2147483647 - x_11.toInt).toNat < n → va_P D gcl (zS_28 cB cC cI cJ a0 a1 x0 x1 x2 x3 x4 x5 x6 x7 a2 a3 a4 a5 a6 a7 a8 a9 a10 a11 a12 a13 a14 a15 a16 x8 x9 x10 x11 x12 x13 a17 a18 a19 x14 a20 x15 a21 x16 x17 a22 a23 a24 a25 x18 a26 x19 a27 a28 a29 y0 a30 a31 a32 a33 a34 a35 a36 a37 a38 x20 x21 x22 y1 a39 x23 a40 a41 a42 a43 x24 x25 x26 x27 a18 f0 a32 (u_1.2.1 0) a33 f_13 a34 g_14 a28 f3) H → va_D A (zS_28 cB cC cI cJ a0 a1 x0 x1 x2 x3 x4 x5 x6 x7 a2 a3 a4 a5 a6 a7 a8 a9 a10 a11 a12 a13 a14 a15 a16 x8 x9 x10 x11 x12 x13 a17 a18 a19 x14 a20 x15 a21 x16 x17 a22 a23 a24 a25 x18 a26 x19 a27 a28 a29 y0 a30 a31 a32 a33 a34 a35 a36 a37 a38 x20 x21 x22 y1 a39 x23 a40 a41 a42 a43 x24 x25 x26 x27 a18 f0 a32 (u_1.2.1 0) a33 f_13 a34 g_14 a28 f3) → va_S A s.heap H locs → lv_has ls 5 [(1, .int x_11), (0, .ref a0)] → W p l e ({ frames := 2, cells := 0, slots := 0, locals := 50 }) s m args below meth c H locs 0 0 Q (F0 m 35 ls []) := by
            intro n
            induction n with
            | zero => intro x_11 f_13 g_14 H locs ls hi_12 hmu; exact absurd hmu (Nat.not_lt_zero _)
            | succ n ih_lp_15 =>
              intro x_11 f_13 g_14 H locs ls hi_12 hmu_lp_15 hP hD hS hl
              refine lv_iload_n (pc := 35) hx hb dX12_cancels_35 rfl (lv_at hl 0 rfl) ?_
              refine lv_aload_n (pc := 36) hx hb dX12_cancels_36 rfl (lv_at hl 1 rfl) ?_
              refine va_get (pc := 37) (ci := 12) (v := .int x9) (C := RX12) (T := TX12) (N := 73) hx hb hts iX12 hown hK hP 0 rfl rfl 25 (by decide) (hts _ tw_1426) (fun _ h9 => h9) rfl dX12_cancels_37 ?_
              have bd_h_x9 : 0 ≤ x9.toInt ∧ x9.toInt ≤ 5 := h_x9
              refine b_icmp_ge (pc := 40) (tgt := 155) hx hb rfl rfl  dX12_cancels_40 (by decide) (fun c_16 => ?_) (fun c_16 => ?_)
              ·
                as_aux_lemma =>
                  have hP9 : va_P D gcl (zS_28 cB cC cI cJ a0 a1 x0 x1 x2 x3 x4 x5 x6 x7 a2 a3 a4 a5 a6 a7 a8 a9 a10 a11 a12 a13 a14 a15 a16 x8 x9 x10 x11 x12 x13 a17 a18 a19 x14 a20 x15 a21 x16 x17 a22 a23 a24 a25 x18 a26 x19 a27 a28 a29 y0 a30 a31 a32 a33 a34 a35 a36 a37 a38 x20 x21 x22 y1 a39 x23 a40 a41 a42 a43 x24 x25 x26 x27 a18 f0 a32 (u_1.2.1 0) a33 f_13 a34 g_14 a28 f3) H := g_psub hP [0, 1, 2, 3, 4, 5] rfl
                  have hD9 : va_D A (zS_28 cB cC cI cJ a0 a1 x0 x1 x2 x3 x4 x5 x6 x7 a2 a3 a4 a5 a6 a7 a8 a9 a10 a11 a12 a13 a14 a15 a16 x8 x9 x10 x11 x12 x13 a17 a18 a19 x14 a20 x15 a21 x16 x17 a22 a23 a24 a25 x18 a26 x19 a27 a28 a29 y0 a30 a31 a32 a33 a34 a35 a36 a37 a38 x20 x21 x22 y1 a39 x23 a40 a41 a42 a43 x24 x25 x26 x27 a18 f0 a32 (u_1.2.1 0) a33 f_13 a34 g_14 a28 f3) := hD.sub [0, 1, 2, 3, 4, 5] (by decide) rfl
                  exact hret ((fun _ => 0), (fun k => [(u_1.2.1 0), f_13].getD k (fun _ => 0)), (fun k => [g_14].getD k (fun _ => 0)), (fun _ => 0), (fun _ => 0)) dX12_cancels_155 ⟨(show (((0 ≤ x10.toInt ∧ x10.toInt ≤ 6) ∧ (0 ≤ x9.toInt ∧ x9.toInt ≤ 5))) from (by first | exact (om_1654 h_x10.1 h_x10.2 h_x9.1 h_x9.2) | ((first | omega | (unfold zBd at *; omega))))), hw_4⟩ hP9 hD9 hS
              ·
                as_aux_lemma =>
                  refine lv_aload_n (pc := 43) hx hb dX12_cancels_43 rfl (lv_at hl 1 rfl) ?_
                  refine va_get (pc := 44) (ci := 12) (v := .ref a32) (C := RX12) (T := TX12) (N := 73) hx hb hts iX12 hown hK hP 0 rfl rfl 52 (by decide) (hts _ tw_1453) (fun _ h9 => h9) rfl dX12_cancels_44 ?_
                  refine lv_iload_n (pc := 47) hx hb dX12_cancels_47 rfl (lv_at hl 0 rfl) ?_
                  refine va_iald (pc := 48) hx hb hK hP 2 2 rfl rfl (n_in rfl (by first | exact (om_0 hi_12.1) | ((first | omega | (unfold zBd at *; omega)))) (by first | exact (om_1020 c_16 h_x9.2) | ((first | omega | (unfold zBd at *; omega))))) dX12_cancels_48 ?_
                  refine lv_topi (fun x_17 ex_17 => ?_)
                  have rx_17 : (0 ≤ x_17.toInt ∧ x_17.toInt ≤ 4) := by rw [ex_17]; exact hw_4 _
                  refine lv_istore_n (pc := 49) (lv' := [(2, .int x_17), (1, .int x_11), (0, .ref a0)]) hx hb dX12_cancels_49 rfl hl (by decide) rfl (fun ls hl => ?_)
                  refine lv_iconst (pc := 50) (v := 1) hx hb dX12_cancels_50 (by decide) ?_
                  refine lv_aload_n (pc := 51) hx hb dX12_cancels_51 rfl (lv_at hl 2 rfl) ?_
                  refine va_get (pc := 52) (ci := 12) (v := .int x8) (C := RX12) (T := TX12) (N := 73) hx hb hts iX12 hown hK hP 0 rfl rfl 24 (by decide) (hts _ tw_1425) (fun _ h9 => h9) rfl dX12_cancels_52 ?_
                  have bd_h_x8 : 0 ≤ x8.toInt ∧ x8.toInt ≤ 8 := h_x8
                  refine b_isub (pc := 55) hx hb tI_1 rfl (by first | exact (om_1220 h_x8.2) | ((first | omega | (unfold zBd at *; omega)))) (by first | exact (om_1560 h_x8.1) | ((first | omega | (unfold zBd at *; omega)))) dX12_cancels_55 (fun x_18 ex_18 => ?_)
                  as_aux_lemma =>
                    refine lv_istore_n (pc := 56) (lv' := [(3, .int x_18), (2, .int x_17), (1, .int x_11), (0, .ref a0)]) hx hb dX12_cancels_56 rfl hl (by decide) rfl (fun ls hl => ?_)
                    refine lv_iconst (pc := 57) (v := 3) hx hb dX12_cancels_57 (by decide) ?_
                    refine lv_aload_n (pc := 58) hx hb dX12_cancels_58 rfl (lv_at hl 3 rfl) ?_
                    refine va_get (pc := 59) (ci := 12) (v := .int x8) (C := RX12) (T := TX12) (N := 73) hx hb hts iX12 hown hK hP 0 rfl rfl 24 (by decide) (hts _ tw_1425) (fun _ h9 => h9) rfl dX12_cancels_59 ?_
                    refine b_isub (pc := 62) hx hb tI_3 rfl (by first | exact (om_1655 h_x8.2) | ((first | omega | (unfold zBd at *; omega)))) (by first | exact (om_1656 h_x8.1) | ((first | omega | (unfold zBd at *; omega)))) dX12_cancels_62 (fun x_19 ex_19 => ?_)
                    refine lv_istore (pc := 63) (lv' := [(4, .int x_19), (3, .int x_18), (2, .int x_17), (1, .int x_11), (0, .ref a0)]) hx hb dX12_cancels_63 hl (by decide) rfl (fun ls hl => ?_)
                    have lp_24 : ∀ (n : Nat) (x_20 x_22 : Int32) (H : Heap) (locs : List Loc) (ls : Array Slot), ((-5) ≤ x_20.toInt ∧ x_20.toInt ≤ 2147483647) → (2147483647 - x_20.toInt).toNat < n → va_P D gcl (zS_28 cB cC cI cJ a0 a1 x0 x1 x2 x3 x4 x5 x6 x7 a2 a3 a4 a5 a6 a7 a8 a9 a10 a11 a12 a13 a14 a15 a16 x8 x9 x10 x11 x12 x13 a17 a18 a19 x14 a20 x15 a21 x16 x17 a22 a23 a24 a25 x18 a26 x19 a27 a28 a29 y0 a30 a31 a32 a33 a34 a35 a36 a37 a38 x20 x21 x22 y1 a39 x23 a40 a41 a42 a43 x24 x25 x26 x27 a18 f0 a32 (u_1.2.1 0) a33 f_13 a34 g_14 a28 f3) H → va_D A (zS_28 cB cC cI cJ a0 a1 x0 x1 x2 x3 x4 x5 x6 x7 a2 a3 a4 a5 a6 a7 a8 a9 a10 a11 a12 a13 a14 a15 a16 x8 x9 x10 x11 x12 x13 a17 a18 a19 x14 a20 x15 a21 x16 x17 a22 a23 a24 a25 x18 a26 x19 a27 a28 a29 y0 a30 a31 a32 a33 a34 a35 a36 a37 a38 x20 x21 x22 y1 a39 x23 a40 a41 a42 a43 x24 x25 x26 x27 a18 f0 a32 (u_1.2.1 0) a33 f_13 a34 g_14 a28 f3) → va_S A s.heap H locs → lv_has ls 5 [(4, .int x_20), (3, .int x_22), (2, .int x_17), (1, .int x_11), (0, .ref a0)] → W p l e ({ frames := 2, cells := 0, slots := 0, locals := 50 }) s m args below meth c H locs 0 0 Q (F0 m 65 ls []) := by
                      intro n
                      induction n with
                      | zero => intro x_20 x_22 H locs ls hi_21 hmu; exact absurd hmu (Nat.not_lt_zero _)
                      | succ n ih_lp_24 =>
                        intro x_20 x_22 H locs ls hi_21 hmu_lp_24 hP hD hS hl
                        have hi_23 := n_rng x_22
                        refine lv_iload (pc := 65) hx hb dX12_cancels_65 (lv_at hl 0 rfl) ?_
                        refine lv_aload_n (pc := 67) hx hb dX12_cancels_67 rfl (lv_at hl 4 rfl) ?_
                        refine va_get (pc := 68) (ci := 12) (v := .int x8) (C := RX12) (T := TX12) (N := 73) hx hb hts iX12 hown hK hP 0 rfl rfl 24 (by decide) (hts _ tw_1425) (fun _ h9 => h9) rfl dX12_cancels_68 ?_
                        refine b_icmp_ge (pc := 71) (tgt := 100) hx hb rfl rfl  dX12_cancels_71 (by decide) (fun c_25 => ?_) (fun c_25 => ?_)
                        ·
                          as_aux_lemma =>
                            refine lv_aload_n (pc := 100) hx hb dX12_cancels_100 rfl (lv_at hl 4 rfl) ?_
                            refine va_get (pc := 101) (ci := 12) (v := .ref a33) (C := RX12) (T := TX12) (N := 73) hx hb hts iX12 hown hK hP 0 rfl rfl 53 (by decide) (hts _ tw_1454) (fun _ h9 => h9) rfl dX12_cancels_101 ?_
                            refine lv_iload_n (pc := 104) hx hb dX12_cancels_104 rfl (lv_at hl 2 rfl) ?_
                            refine lv_iload_n (pc := 105) hx hb dX12_cancels_105 rfl (lv_at hl 1 rfl) ?_
                            refine g_iastore (pc := 106) hx hb hK hP hD hS 3 2 rfl rfl (n_in rfl (by first | exact (om_0 rx_17.1) | ((first | omega | (unfold zBd at *; omega)))) (by first | exact (om_1135 rx_17.2) | ((first | omega | (unfold zBd at *; omega))))) dX12_cancels_106 (fun f_26 H locs hP hD hS => ?_)
                            replace hP : va_P D gcl (zS_28 cB cC cI cJ a0 a1 x0 x1 x2 x3 x4 x5 x6 x7 a2 a3 a4 a5 a6 a7 a8 a9 a10 a11 a12 a13 a14 a15 a16 x8 x9 x10 x11 x12 x13 a17 a18 a19 x14 a20 x15 a21 x16 x17 a22 a23 a24 a25 x18 a26 x19 a27 a28 a29 y0 a30 a31 a32 a33 a34 a35 a36 a37 a38 x20 x21 x22 y1 a39 x23 a40 a41 a42 a43 x24 x25 x26 x27 a18 f0 a32 (u_1.2.1 0) a33 f_26 a34 g_14 a28 f3) H := hP
                            replace hD : va_D A (zS_28 cB cC cI cJ a0 a1 x0 x1 x2 x3 x4 x5 x6 x7 a2 a3 a4 a5 a6 a7 a8 a9 a10 a11 a12 a13 a14 a15 a16 x8 x9 x10 x11 x12 x13 a17 a18 a19 x14 a20 x15 a21 x16 x17 a22 a23 a24 a25 x18 a26 x19 a27 a28 a29 y0 a30 a31 a32 a33 a34 a35 a36 a37 a38 x20 x21 x22 y1 a39 x23 a40 a41 a42 a43 x24 x25 x26 x27 a18 f0 a32 (u_1.2.1 0) a33 f_26 a34 g_14 a28 f3) := hD
                            refine lv_iconst (pc := 107) (v := 0) hx hb dX12_cancels_107 (by decide) ?_
                            refine lv_istore (pc := 108) (lv' := [(4, .int 0), (3, .int x_22), (2, .int x_17), (1, .int x_11), (0, .ref a0)]) hx hb dX12_cancels_108 hl (by decide) rfl (fun ls hl => ?_)
                            have lp_30 : ∀ (n : Nat) (x_27 : Int32) (g_29 : Nat → Int64) (H : Heap) (locs : List Loc) (ls : Array Slot), (0 ≤ x_27.toInt ∧ x_27.toInt ≤ 2147483647) → (2147483647 - x_27.toInt).toNat < n → va_P D gcl (zS_28 cB cC cI cJ a0 a1 x0 x1 x2 x3 x4 x5 x6 x7 a2 a3 a4 a5 a6 a7 a8 a9 a10 a11 a12 a13 a14 a15 a16 x8 x9 x10 x11 x12 x13 a17 a18 a19 x14 a20 x15 a21 x16 x17 a22 a23 a24 a25 x18 a26 x19 a27 a28 a29 y0 a30 a31 a32 a33 a34 a35 a36 a37 a38 x20 x21 x22 y1 a39 x23 a40 a41 a42 a43 x24 x25 x26 x27 a18 f0 a32 (u_1.2.1 0) a33 f_26 a34 g_29 a28 f3) H → va_D A (zS_28 cB cC cI cJ a0 a1 x0 x1 x2 x3 x4 x5 x6 x7 a2 a3 a4 a5 a6 a7 a8 a9 a10 a11 a12 a13 a14 a15 a16 x8 x9 x10 x11 x12 x13 a17 a18 a19 x14 a20 x15 a21 x16 x17 a22 a23 a24 a25 x18 a26 x19 a27 a28 a29 y0 a30 a31 a32 a33 a34 a35 a36 a37 a38 x20 x21 x22 y1 a39 x23 a40 a41 a42 a43 x24 x25 x26 x27 a18 f0 a32 (u_1.2.1 0) a33 f_26 a34 g_29 a28 f3) → va_S A s.heap H locs → lv_has ls 5 [(4, .int x_27), (3, .int x_22), (2, .int x_17), (1, .int x_11), (0, .ref a0)] → W p l e ({ frames := 2, cells := 0, slots := 0, locals := 50 }) s m args below meth c H locs 0 0 Q (F0 m 110 ls []) := by
                              intro n
                              induction n with
                              | zero => intro x_27 g_29 H locs ls hi_28 hmu; exact absurd hmu (Nat.not_lt_zero _)
                              | succ n ih_lp_30 =>
                                intro x_27 g_29 H locs ls hi_28 hmu_lp_30 hP hD hS hl
                                refine lv_iload (pc := 110) hx hb dX12_cancels_110 (lv_at hl 0 rfl) ?_
                                refine lv_aload_n (pc := 112) hx hb dX12_cancels_112 rfl (lv_at hl 4 rfl) ?_
                                refine va_get (pc := 113) (ci := 12) (v := .int x10) (C := RX12) (T := TX12) (N := 73) hx hb hts iX12 hown hK hP 0 rfl rfl 26 (by decide) (hts _ tw_1427) (fun _ h9 => h9) rfl dX12_cancels_113 ?_
                                refine b_icmp_ge (pc := 116) (tgt := 149) hx hb rfl rfl  dX12_cancels_116 (by decide) (fun c_31 => ?_) (fun c_31 => ?_)
                                ·
                                  as_aux_lemma =>
                                    refine b_iinc (pc := 149) hx hb dX12_cancels_149 hl (k := 3) rfl rfl tI_1 (by first | exact (om_2 hi_12.1) | ((first | omega | (unfold zBd at *; omega)))) (by first | exact (om_338 c_16 h_x9.2) | ((first | omega | (unfold zBd at *; omega)))) (by decide) (fun x_32 ex_32 ls hl => ?_)
                                    replace hl : lv_has ls 5 [(1, .int x_32), (4, .int x_27), (3, .int x_22), (2, .int x_17), (0, .ref a0)] := hl
                                    refine lv_goto (pc := 152) (tgt := 35) hx hb dX12_cancels_152 (by decide) ?_
                                    exact ih_lp_15 x_32 f_26 g_29 _ _ ls (by first | exact (om_339 ex_32 hi_12.1 c_16 h_x9.2) | ((first | omega | (unfold zBd at *; omega)))) (by (first | omega | (unfold zBd at *; omega))) hP hD hS (lv_sub hl [0, 4] rfl)
                                ·
                                  as_aux_lemma =>
                                    refine lv_aload_n (pc := 119) hx hb dX12_cancels_119 rfl (lv_at hl 4 rfl) ?_
                                    refine va_get (pc := 120) (ci := 12) (v := .ref a34) (C := RX12) (T := TX12) (N := 73) hx hb hts iX12 hown hK hP 0 rfl rfl 54 (by decide) (hts _ tw_1455) (fun _ h9 => h9) rfl dX12_cancels_120 ?_
                                    refine lv_iload (pc := 123) hx hb dX12_cancels_123 (lv_at hl 0 rfl) ?_
                                    refine lv_dup2_11 (pc := 125) hx hb dX12_cancels_125 rfl rfl ?_
                                    refine va_lald (pc := 126) hx hb hK hP 4 3 rfl rfl (n_in rfl (by first | exact (om_0 hi_28.1) | ((first | omega | (unfold zBd at *; omega)))) (by first | exact (om_1082 c_31 h_x10.2) | ((first | omega | (unfold zBd at *; omega))))) dX12_cancels_126 ?_
                                    refine lv_topl (fun y_33 ey_33 => ?_)
                                    have ry_33 := n_rngL y_33
                                    refine lv_aload_n (pc := 127) hx hb dX12_cancels_127 rfl (lv_at hl 4 rfl) ?_
                                    refine va_get (pc := 128) (ci := 12) (v := .ref a18) (C := RX12) (T := TX12) (N := 73) hx hb hts iX12 hown hK hP 0 rfl rfl 31 (by decide) (hts _ tw_1432) (fun _ h9 => h9) rfl dX12_cancels_128 ?_
                                    refine lv_iconst (pc := 131) (v := 5) hx hb dX12_cancels_131 (by decide) ?_
                                    refine lv_iload (pc := 132) hx hb dX12_cancels_132 (lv_at hl 0 rfl) ?_
                                    as_aux_lemma =>
                                      refine b_imul (pc := 134) hx hb tI_5 rfl (by first | exact (om_941 hi_28.1) | ((first | omega | (unfold zBd at *; omega)))) (by first | exact (om_1651 c_31 h_x10.2) | ((first | omega | (unfold zBd at *; omega)))) dX12_cancels_134 (fun x_34 ex_34 => ?_)
                                      refine lv_iload_n (pc := 135) hx hb dX12_cancels_135 rfl (lv_at hl 2 rfl) ?_
                                      refine b_iadd (pc := 136) hx hb rfl rfl (by first | exact (om_1529 ex_34 rx_17.1 hi_28.1) | ((first | omega | (unfold zBd at *; omega)))) (by first | exact (om_1652 ex_34 rx_17.2 c_31 h_x10.2) | ((first | omega | (unfold zBd at *; omega)))) dX12_cancels_136 (fun x_35 ex_35 => ?_)
                                      refine va_iald (pc := 137) hx hb hK hP 1 2 rfl rfl (n_in rfl (by first | exact (om_1531 ex_35 ex_34 rx_17.1 hi_28.1) | ((first | omega | (unfold zBd at *; omega)))) (by first | exact (om_1653 ex_35 ex_34 rx_17.2 c_31 h_x10.2) | ((first | omega | (unfold zBd at *; omega))))) dX12_cancels_137 ?_
                                      refine lv_topi (fun x_36 ex_36 => ?_)
                                      have rx_36 : ((-9999) ≤ x_36.toInt ∧ x_36.toInt ≤ 9999) := by rw [ex_36]; exact hf_f0 _
                                      refine lv_iload_n (pc := 138) hx hb dX12_cancels_138 rfl (lv_at hl 1 rfl) ?_
                                      refine lv_imul (pc := 139) hx hb dX12_cancels_139 ?_
                                      refine lv_topi (fun x_37 _ => ?_)
                                      have rx_37 : zBd x_37.toInt (-2147483648) 2147483647 := n_rng x_37
                                      refine b_i2l (pc := 140) hx hb rfl dX12_cancels_140 (fun y_38 ey_38 => ?_)
                                      have ry_38 : zBd x_37.toInt (-2147483648) 2147483647 := n_rng x_37
                                      refine lv_lsub (pc := 141) hx hb dX12_cancels_141 ?_
                                      as_aux_lemma =>
                                        refine lv_topl (fun y_39 _ => ?_)
                                        have ry_39 := n_rngL y_39
                                        refine g_lastore (pc := 142) hx hb hK hP hD hS 4 3 rfl rfl (n_in rfl (by first | exact (om_0 hi_28.1) | ((first | omega | (unfold zBd at *; omega)))) (by first | exact (om_1082 c_31 h_x10.2) | ((first | omega | (unfold zBd at *; omega))))) dX12_cancels_142 (fun g_40 H locs hP hD hS => ?_)
                                        replace hP : va_P D gcl (zS_28 cB cC cI cJ a0 a1 x0 x1 x2 x3 x4 x5 x6 x7 a2 a3 a4 a5 a6 a7 a8 a9 a10 a11 a12 a13 a14 a15 a16 x8 x9 x10 x11 x12 x13 a17 a18 a19 x14 a20 x15 a21 x16 x17 a22 a23 a24 a25 x18 a26 x19 a27 a28 a29 y0 a30 a31 a32 a33 a34 a35 a36 a37 a38 x20 x21 x22 y1 a39 x23 a40 a41 a42 a43 x24 x25 x26 x27 a18 f0 a32 (u_1.2.1 0) a33 f_26 a34 g_40 a28 f3) H := hP
                                        replace hD : va_D A (zS_28 cB cC cI cJ a0 a1 x0 x1 x2 x3 x4 x5 x6 x7 a2 a3 a4 a5 a6 a7 a8 a9 a10 a11 a12 a13 a14 a15 a16 x8 x9 x10 x11 x12 x13 a17 a18 a19 x14 a20 x15 a21 x16 x17 a22 a23 a24 a25 x18 a26 x19 a27 a28 a29 y0 a30 a31 a32 a33 a34 a35 a36 a37 a38 x20 x21 x22 y1 a39 x23 a40 a41 a42 a43 x24 x25 x26 x27 a18 f0 a32 (u_1.2.1 0) a33 f_26 a34 g_40 a28 f3) := hD
                                        refine b_iinc (pc := 143) hx hb dX12_cancels_143 hl (k := 0) rfl rfl tI_1 (by first | exact (om_2 hi_28.1) | ((first | omega | (unfold zBd at *; omega)))) (by first | exact (om_1084 c_31 h_x10.2) | ((first | omega | (unfold zBd at *; omega)))) (by decide) (fun x_41 ex_41 ls hl => ?_)
                                        replace hl : lv_has ls 5 [(4, .int x_41), (3, .int x_22), (2, .int x_17), (1, .int x_11), (0, .ref a0)] := hl
                                        refine lv_goto (pc := 146) (tgt := 110) hx hb dX12_cancels_146 (by decide) ?_
                                        exact ih_lp_30 x_41 g_40 _ _ ls (by first | exact (om_1085 ex_41 hi_28.1 c_31 h_x10.2) | ((first | omega | (unfold zBd at *; omega)))) (by (first | omega | (unfold zBd at *; omega))) hP hD hS (lv_sub hl [0, 1, 2, 3, 4] rfl)
                            exact lp_30 _ 0 g_14 _ _ ls (n_c tI_0 (by decide)) (Nat.lt_succ_self _) hP hD hS (lv_sub hl [0, 1, 2, 3, 4] rfl)
                        ·
                          as_aux_lemma =>
                            refine lv_aload_n (pc := 74) hx hb dX12_cancels_74 rfl (lv_at hl 4 rfl) ?_
                            refine lv_iload_n (pc := 75) hx hb dX12_cancels_75 rfl (lv_at hl 2 rfl) ?_
                            refine lv_iload (pc := 76) hx hb dX12_cancels_76 (lv_at hl 0 rfl) ?_
                            refine gd_l (pc := 78) (wc := (zS_171 cB cC cI cJ a0 a1 x0 x1 x2 x3 x4 x5 x6 x7 a2 a3 a4 a5 a6 a7 a8 a9 a10 a11 a12 a13 a14 a15 a16 x8 x9 x10 x11 x12 x13 a17 a18 a19 x14 a20 x15 a21 x16 x17 a22 a23 a24 a25 x18 a26 x19 a27 a28 a29 y0 a30 a31 a32 a33 a34 a35 a36 a37 a38 x20 x21 x22 y1 a39 x23 a40 a41 a42 a43 x24 x25 x26 x27 a34 g_14 a18 f0)) hP hD hS hA [0, 4, 1] rfl (by decide +kernel) (fun _ => by rfl) (fun hPc hDc => va_runV (As := [.int x_17, .int x_20]) (rest := []) ⟨hx, hb, hml, hown, hts⟩ (k_X12_restBy l D cB cC cI cJ _ a0 a1 a2 a3 a4 a5 a6 a7 a8 a9 a10 a11 a12 a13 a14 a15 a16 a17 a18 a19 a20 a21 a22 a23 a24 a25 a26 a27 a28 a29 a30 a31 a32 a33 a34 a35 a36 a37 a38 a39 a40 a41 a42 a43 x_17 x_20 x0 x1 x2 x3 x4 x5 x6 x7 x8 x9 x10 x11 x12 x13 x14 x15 x16 x17 x18 x19 x20 x21 x22 x23 x24 x25 x26 x27 y0 y1 f0 g_14 rx_17 h_x0 h_x1 h_x2 h_x3 h_x4 h_x5 h_x8 h_x9 h_x10 h_x11 h_x12 h_x14 h_x15 h_x16 h_x18 h_x19 h_x20 h_x21 h_x22 h_x23 h_x24 h_x25 h_x26 h_x27 hr_a0_0 hr_a0_1 hr_a0_2 hf_f0) ⟨gcwB hts tw_1900 tw_14 tw_1897 hd_yX12_restBy ⟨Nat.le_of_ble_eq_true rfl, Nat.le_of_ble_eq_true rfl⟩, hts _ tw_1899, hts _ tp_105⟩ ⟨gblind, va_recv hK hPc (ci := 12) (q0 := 0) rfl rfl, (gpreS hPc hK hDc hN).2⟩ rfl rfl hl.1 rfl (lv_room (Nat.le_of_ble_eq_true rfl)) dX12_cancels_78 ⟨Nat.le_of_ble_eq_true rfl, Nat.le_of_ble_eq_true rfl⟩) (fun r_43 u_42 H locs hw_44 hP hD hS => ?_)
                            replace hP : va_P D gcl (zS_28 cB cC cI cJ a0 a1 x0 x1 x2 x3 x4 x5 x6 x7 a2 a3 a4 a5 a6 a7 a8 a9 a10 a11 a12 a13 a14 a15 a16 x8 x9 x10 x11 x12 x13 a17 a18 a19 x14 a20 x15 a21 x16 x17 a22 a23 a24 a25 x18 a26 x19 a27 a28 a29 y0 a30 a31 a32 a33 a34 a35 a36 a37 a38 x20 x21 x22 y1 a39 x23 a40 a41 a42 a43 x24 x25 x26 x27 a18 f0 a32 (u_1.2.1 0) a33 f_13 a34 g_14 a28 f3) H := hP
                            replace hD : va_D A (zS_28 cB cC cI cJ a0 a1 x0 x1 x2 x3 x4 x5 x6 x7 a2 a3 a4 a5 a6 a7 a8 a9 a10 a11 a12 a13 a14 a15 a16 x8 x9 x10 x11 x12 x13 a17 a18 a19 x14 a20 x15 a21 x16 x17 a22 a23 a24 a25 x18 a26 x19 a27 a28 a29 y0 a30 a31 a32 a33 a34 a35 a36 a37 a38 x20 x21 x22 y1 a39 x23 a40 a41 a42 a43 x24 x25 x26 x27 a18 f0 a32 (u_1.2.1 0) a33 f_13 a34 g_14 a28 f3) := hD
                            have hw_45 : ((((-9223372036854775808) ≤ r_43.toInt ∧ r_43.toInt ≤ 9223372036854775807) ∧ (0 ≤ x10.toInt ∧ x10.toInt ≤ 6))) := hw_44
                            have rr_43 := n_rngL r_43
                            refine lv_aload_n (pc := 81) hx hb dX12_cancels_81 rfl (lv_at hl 4 rfl) ?_
                            refine lv_iload_n (pc := 82) hx hb dX12_cancels_82 rfl (lv_at hl 2 rfl) ?_
                            refine lv_iload_n (pc := 83) hx hb dX12_cancels_83 rfl (lv_at hl 1 rfl) ?_
                            refine gd_l (pc := 84) (wc := (zS_171 cB cC cI cJ a0 a1 x0 x1 x2 x3 x4 x5 x6 x7 a2 a3 a4 a5 a6 a7 a8 a9 a10 a11 a12 a13 a14 a15 a16 x8 x9 x10 x11 x12 x13 a17 a18 a19 x14 a20 x15 a21 x16 x17 a22 a23 a24 a25 x18 a26 x19 a27 a28 a29 y0 a30 a31 a32 a33 a34 a35 a36 a37 a38 x20 x21 x22 y1 a39 x23 a40 a41 a42 a43 x24 x25 x26 x27 a34 g_14 a18 f0)) hP hD hS hA [0, 4, 1] rfl (by decide +kernel) (fun _ => by rfl) (fun hPc hDc => va_runV (As := [.int x_17, .int x_22]) (rest := [.long r_43]) ⟨hx, hb, hml, hown, hts⟩ (k_X12_restBy l D cB cC cI cJ _ a0 a1 a2 a3 a4 a5 a6 a7 a8 a9 a10 a11 a12 a13 a14 a15 a16 a17 a18 a19 a20 a21 a22 a23 a24 a25 a26 a27 a28 a29 a30 a31 a32 a33 a34 a35 a36 a37 a38 a39 a40 a41 a42 a43 x_17 x_22 x0 x1 x2 x3 x4 x5 x6 x7 x8 x9 x10 x11 x12 x13 x14 x15 x16 x17 x18 x19 x20 x21 x22 x23 x24 x25 x26 x27 y0 y1 f0 g_14 rx_17 h_x0 h_x1 h_x2 h_x3 h_x4 h_x5 h_x8 h_x9 h_x10 h_x11 h_x12 h_x14 h_x15 h_x16 h_x18 h_x19 h_x20 h_x21 h_x22 h_x23 h_x24 h_x25 h_x26 h_x27 hr_a0_0 hr_a0_1 hr_a0_2 hf_f0) ⟨gcwB hts tw_1900 tw_14 tw_1897 hd_yX12_restBy ⟨Nat.le_of_ble_eq_true rfl, Nat.le_of_ble_eq_true rfl⟩, hts _ tw_1899, hts _ tp_105⟩ ⟨gblind, va_recv hK hPc (ci := 12) (q0 := 0) rfl rfl, (gpreS hPc hK hDc hN).2⟩ rfl rfl hl.1 rfl (lv_room (Nat.le_of_ble_eq_true rfl)) dX12_cancels_84 ⟨Nat.le_of_ble_eq_true rfl, Nat.le_of_ble_eq_true rfl⟩) (fun r_47 u_46 H locs hw_48 hP hD hS => ?_)
                            replace hP : va_P D gcl (zS_28 cB cC cI cJ a0 a1 x0 x1 x2 x3 x4 x5 x6 x7 a2 a3 a4 a5 a6 a7 a8 a9 a10 a11 a12 a13 a14 a15 a16 x8 x9 x10 x11 x12 x13 a17 a18 a19 x14 a20 x15 a21 x16 x17 a22 a23 a24 a25 x18 a26 x19 a27 a28 a29 y0 a30 a31 a32 a33 a34 a35 a36 a37 a38 x20 x21 x22 y1 a39 x23 a40 a41 a42 a43 x24 x25 x26 x27 a18 f0 a32 (u_1.2.1 0) a33 f_13 a34 g_14 a28 f3) H := hP
                            replace hD : va_D A (zS_28 cB cC cI cJ a0 a1 x0 x1 x2 x3 x4 x5 x6 x7 a2 a3 a4 a5 a6 a7 a8 a9 a10 a11 a12 a13 a14 a15 a16 x8 x9 x10 x11 x12 x13 a17 a18 a19 x14 a20 x15 a21 x16 x17 a22 a23 a24 a25 x18 a26 x19 a27 a28 a29 y0 a30 a31 a32 a33 a34 a35 a36 a37 a38 x20 x21 x22 y1 a39 x23 a40 a41 a42 a43 x24 x25 x26 x27 a18 f0 a32 (u_1.2.1 0) a33 f_13 a34 g_14 a28 f3) := hD
                            have hw_49 : ((((-9223372036854775808) ≤ r_47.toInt ∧ r_47.toInt ≤ 9223372036854775807) ∧ (0 ≤ x10.toInt ∧ x10.toInt ≤ 6))) := hw_48
                            have rr_47 := n_rngL r_47
                            refine b_lcmp_ge (pc := 87) (tgt := 94) hx hb rfl rfl dX12_cancels_87 dX12_cancels_88 (by decide) (fun c_50 => ?_) (fun c_50 => ?_)
                            ·
                              as_aux_lemma =>
                                refine b_iinc (pc := 94) hx hb dX12_cancels_94 hl (k := 0) rfl rfl tI_2 (by first | exact (om_1657 hi_21.1) | ((first | omega | (unfold zBd at *; omega)))) (by first | exact (om_1658 c_25 h_x8.2) | ((first | omega | (unfold zBd at *; omega)))) (by decide) (fun x_51 ex_51 ls hl => ?_)
                                replace hl : lv_has ls 5 [(4, .int x_51), (3, .int x_22), (2, .int x_17), (1, .int x_11), (0, .ref a0)] := hl
                                refine lv_goto (pc := 97) (tgt := 65) hx hb dX12_cancels_97 (by decide) ?_
                                exact ih_lp_24 x_51 x_22 _ _ ls (by first | exact (om_1659 ex_51 hi_21.1 c_25 h_x8.2) | ((first | omega | (unfold zBd at *; omega)))) (by (first | omega | (unfold zBd at *; omega))) hP hD hS (lv_sub hl [0, 1, 2, 3, 4] rfl)
                            ·
                              as_aux_lemma =>
                                refine lv_iload (pc := 91) hx hb dX12_cancels_91 (lv_at hl 0 rfl) ?_
                                refine lv_istore_n (pc := 93) (lv' := [(3, .int x_20), (4, .int x_20), (2, .int x_17), (1, .int x_11), (0, .ref a0)]) hx hb dX12_cancels_93 rfl hl (by decide) rfl (fun ls hl => ?_)
                                refine b_iinc (pc := 94) hx hb dX12_cancels_94 hl (k := 1) rfl rfl tI_2 (by first | exact (om_1657 hi_21.1) | ((first | omega | (unfold zBd at *; omega)))) (by first | exact (om_1658 c_25 h_x8.2) | ((first | omega | (unfold zBd at *; omega)))) (by decide) (fun x_52 ex_52 ls hl => ?_)
                                replace hl : lv_has ls 5 [(4, .int x_52), (3, .int x_20), (2, .int x_17), (1, .int x_11), (0, .ref a0)] := hl
                                refine lv_goto (pc := 97) (tgt := 65) hx hb dX12_cancels_97 (by decide) ?_
                                exact ih_lp_24 x_52 x_20 _ _ ls (by first | exact (om_1659 ex_52 hi_21.1 c_25 h_x8.2) | ((first | omega | (unfold zBd at *; omega)))) (by (first | omega | (unfold zBd at *; omega))) hP hD hS (lv_sub hl [0, 1, 2, 3, 4] rfl)
                    exact lp_24 _ x_19 x_18 _ _ ls (by first | exact (om_1660 ex_19 h_x8.2 h_x8.1) | ((first | omega | (unfold zBd at *; omega)))) (Nat.lt_succ_self _) hP hD hS (lv_sub hl [0, 1, 2, 3, 4] rfl)
          exact lp_15 _ 0 f2 g_8 _ _ ls (n_c tI_0 (by decide)) (Nat.lt_succ_self _) hP hD hS (lv_sub hl [0, 1] rfl)
      ·
        as_aux_lemma =>
          refine lv_aload_n (pc := 14) hx hb dX12_cancels_14 rfl (lv_at hl 1 rfl) ?_
          refine va_get (pc := 15) (ci := 12) (v := .ref a34) (C := RX12) (T := TX12) (N := 73) hx hb hts iX12 hown hK hP 0 rfl rfl 54 (by decide) (hts _ tw_1455) (fun _ h9 => h9) rfl dX12_cancels_15 ?_
          refine lv_iload_n (pc := 18) hx hb dX12_cancels_18 rfl (lv_at hl 0 rfl) ?_
          refine lv_aload_n (pc := 19) hx hb dX12_cancels_19 rfl (lv_at hl 1 rfl) ?_
          refine va_get (pc := 20) (ci := 12) (v := .ref a28) (C := RX12) (T := TX12) (N := 73) hx hb hts iX12 hown hK hP 0 rfl rfl 47 (by decide) (hts _ tw_1448) (fun _ h9 => h9) rfl dX12_cancels_20 ?_
          refine lv_iload_n (pc := 23) hx hb dX12_cancels_23 rfl (lv_at hl 0 rfl) ?_
          refine va_iald (pc := 24) hx hb hK hP 5 2 rfl rfl (n_in rfl (by first | exact (om_0 hi_7.1) | ((first | omega | (unfold zBd at *; omega)))) (by first | exact (om_1082 c_10 h_x10.2) | ((first | omega | (unfold zBd at *; omega))))) dX12_cancels_24 ?_
          refine lv_topi (fun x_53 ex_53 => ?_)
          have rx_53 : ((-1100000) ≤ x_53.toInt ∧ x_53.toInt ≤ 1100000) := by rw [ex_53]; exact hf_f3 _
          refine b_i2l (pc := 25) hx hb rfl dX12_cancels_25 (fun y_54 ey_54 => ?_)
          have ry_54 : zBd x_53.toInt (-2147483648) 2147483647 := n_rng x_53
          refine g_lastore (pc := 26) hx hb hK hP hD hS 4 3 rfl rfl (n_in rfl (by first | exact (om_0 hi_7.1) | ((first | omega | (unfold zBd at *; omega)))) (by first | exact (om_1082 c_10 h_x10.2) | ((first | omega | (unfold zBd at *; omega))))) dX12_cancels_26 (fun g_55 H locs hP hD hS => ?_)
          replace hP : va_P D gcl (zS_28 cB cC cI cJ a0 a1 x0 x1 x2 x3 x4 x5 x6 x7 a2 a3 a4 a5 a6 a7 a8 a9 a10 a11 a12 a13 a14 a15 a16 x8 x9 x10 x11 x12 x13 a17 a18 a19 x14 a20 x15 a21 x16 x17 a22 a23 a24 a25 x18 a26 x19 a27 a28 a29 y0 a30 a31 a32 a33 a34 a35 a36 a37 a38 x20 x21 x22 y1 a39 x23 a40 a41 a42 a43 x24 x25 x26 x27 a18 f0 a32 (u_1.2.1 0) a33 f2 a34 g_55 a28 f3) H := hP
          replace hD : va_D A (zS_28 cB cC cI cJ a0 a1 x0 x1 x2 x3 x4 x5 x6 x7 a2 a3 a4 a5 a6 a7 a8 a9 a10 a11 a12 a13 a14 a15 a16 x8 x9 x10 x11 x12 x13 a17 a18 a19 x14 a20 x15 a21 x16 x17 a22 a23 a24 a25 x18 a26 x19 a27 a28 a29 y0 a30 a31 a32 a33 a34 a35 a36 a37 a38 x20 x21 x22 y1 a39 x23 a40 a41 a42 a43 x24 x25 x26 x27 a18 f0 a32 (u_1.2.1 0) a33 f2 a34 g_55 a28 f3) := hD
          as_aux_lemma =>
            refine b_iinc (pc := 27) hx hb dX12_cancels_27 hl (k := 0) rfl rfl tI_1 (by first | exact (om_2 hi_7.1) | ((first | omega | (unfold zBd at *; omega)))) (by first | exact (om_1084 c_10 h_x10.2) | ((first | omega | (unfold zBd at *; omega)))) (by decide) (fun x_56 ex_56 ls hl => ?_)
            replace hl : lv_has ls 5 [(1, .int x_56), (0, .ref a0)] := hl
            refine lv_goto (pc := 30) (tgt := 6) hx hb dX12_cancels_30 (by decide) ?_
            exact ih_lp_9 x_56 g_55 _ _ ls (by first | exact (om_1085 ex_56 hi_7.1 c_10 h_x10.2) | ((first | omega | (unfold zBd at *; omega)))) (by (first | omega | (unfold zBd at *; omega))) hP hD hS (lv_sub hl [0, 1] rfl)
  exact lp_9 _ 0 g0 _ _ ls (n_c tI_0 (by decide)) (Nat.lt_succ_self _) hP hD hS (lv_sub hl [0, 1] rfl)
set_option maxHeartbeats 4000000 in
set_option maxRecDepth 100000 in
theorem k_X12_cancel (l : Launch) (D : va_G) (cB cC cI cJ : ClassId) (sz : Nat) (a0 a1 a2 a3 a4 a5 a6 a7 a8 a9 a10 a11 a12 a13 a14 a15 a16 a17 a18 a19 a20 a21 a22 a23 a24 a25 a26 a27 a28 a29 a30 a31 a32 a33 a34 a35 a36 a37 a38 a39 a40 a41 a42 a43 : Nat) (x0 x1 x2 x3 x4 x5 x6 x7 x8 x9 x10 x11 x12 x13 x14 x15 x16 x17 x18 x19 x20 x21 x22 x23 x24 x25 x26 x27 x28 : Int32) (y0 y1 : Int64) (f0 f1 f2 f3 : Nat → Int32) (g0 : Nat → Int64) (h_x1 : zBd x1.toInt 0 1600) (h_x2 : zBd x2.toInt 0 1600) (h_x3 : zBd x3.toInt 0 1600) (h_x4 : zBd x4.toInt (-1) 1600) (h_x5 : zBd x5.toInt 0 4) (h_x6 : zBd x6.toInt (-1) 1600) (h_x9 : zBd x9.toInt 0 8) (h_x10 : zBd x10.toInt 0 5) (h_x11 : zBd x11.toInt 0 6) (h_x12 : zBd x12.toInt 0 6) (h_x13 : zBd x13.toInt 0 16) (h_x15 : zBd x15.toInt 0 60) (h_x16 : zBd x16.toInt 0 1600) (h_x17 : zBd x17.toInt 0 1700) (h_x19 : zBd x19.toInt 0 1700) (h_x20 : zBd x20.toInt 0 1700) (h_x21 : zBd x21.toInt 0 200) (h_x22 : zBd x22.toInt 0 40) (h_x23 : zBd x23.toInt 0 40) (h_x24 : zBd x24.toInt 0 1) (h_x25 : zBd x25.toInt 0 14) (h_x26 : zBd x26.toInt 0 200) (h_x27 : zBd x27.toInt 0 40) (h_x28 : zBd x28.toInt 0 40) (hr_a0_0 : (x22.toInt ≤ x21.toInt)) (hr_a0_1 : (x21.toInt + x23.toInt ≤ 200)) (hr_a0_2 : (x10.toInt = 0 ∨ 2 ≤ x9.toInt)) (hf_f0 : (∀ j, (-9999) ≤ (f0 j).toInt ∧ (f0 j).toInt ≤ 9999)) (hf_f1 : (∀ j, 0 ≤ (f1 j).toInt ∧ (f1 j).toInt ≤ 4)) (hf_f3 : (∀ j, (-1100000) ≤ (f3 j).toInt ∧ (f3 j).toInt ≤ 1100000)) : Met l yX12_cancel (.code yX12_cancel cX12_cancel 2 (some .int) :: lw_gd) ({ frames := 3, cells := 0, slots := 0, locals := 74 }) (gPre D [(cB, .byte), (cC, .char), (cI, .int), (cJ, .long)] [.ref a0, .int x0] (zS_28 cB cC cI cJ a0 a1 x1 x2 x3 x4 x5 x6 x7 x8 a2 a3 a4 a5 a6 a7 a8 a9 a10 a11 a12 a13 a14 a15 a16 x9 x10 x11 x12 x13 x14 a17 a18 a19 x15 a20 x16 a21 x17 x18 a22 a23 a24 a25 x19 a26 x20 a27 a28 a29 y0 a30 a31 a32 a33 a34 a35 a36 a37 a38 x21 x22 x23 y1 a39 x24 a40 a41 a42 a43 x25 x26 x27 x28 a18 f0 a32 f1 a33 f2 a34 g0 a28 f3) sz) (va_Qi (fun r u => ((((-2147483648) ≤ r.toInt ∧ r.toInt ≤ 2147483647)) ∨ (r.toInt = (-1000000000))) ∧ (∀ j, 0 ≤ ((u.2.1 0) j).toInt ∧ ((u.2.1 0) j).toInt ≤ 4)) (gB D (va_A (zS_28 cB cC cI cJ a0 a1 x1 x2 x3 x4 x5 x6 x7 x8 a2 a3 a4 a5 a6 a7 a8 a9 a10 a11 a12 a13 a14 a15 a16 x9 x10 x11 x12 x13 x14 a17 a18 a19 x15 a20 x16 a21 x17 x18 a22 a23 a24 a25 x19 a26 x20 a27 a28 a29 y0 a30 a31 a32 a33 a34 a35 a36 a37 a38 x21 x22 x23 y1 a39 x24 a40 a41 a42 a43 x25 x26 x27 x28 a18 f0 a32 f1 a33 f2 a34 g0 a28 f3) sz) (fun u : gEx => (zS_28 cB cC cI cJ a0 a1 x1 x2 x3 x4 x5 x6 x7 x8 a2 a3 a4 a5 a6 a7 a8 a9 a10 a11 a12 a13 a14 a15 a16 x9 x10 x11 x12 x13 x14 a17 a18 a19 x15 a20 x16 a21 x17 x18 a22 a23 a24 a25 x19 a26 x20 a27 a28 a29 y0 a30 a31 a32 a33 a34 a35 a36 a37 a38 x21 x22 x23 y1 a39 x24 a40 a41 a42 a43 x25 x26 x27 x28 a18 f0 a32 (u.2.1 0) a33 (u.2.1 1) a34 (u.2.2.1 0) a28 f3))) (va_A (zS_28 cB cC cI cJ a0 a1 x1 x2 x3 x4 x5 x6 x7 x8 a2 a3 a4 a5 a6 a7 a8 a9 a10 a11 a12 a13 a14 a15 a16 x9 x10 x11 x12 x13 x14 a17 a18 a19 x15 a20 x16 a21 x17 x18 a22 a23 a24 a25 x19 a26 x20 a27 a28 a29 y0 a30 a31 a32 a33 a34 a35 a36 a37 a38 x21 x22 x23 y1 a39 x24 a40 a41 a42 a43 x25 x26 x27 x28 a18 f0 a32 f1 a33 f2 a34 g0 a28 f3) sz)) 0 0 (va_A (zS_28 cB cC cI cJ a0 a1 x1 x2 x3 x4 x5 x6 x7 x8 a2 a3 a4 a5 a6 a7 a8 a9 a10 a11 a12 a13 a14 a15 a16 x9 x10 x11 x12 x13 x14 a17 a18 a19 x15 a20 x16 a21 x17 x18 a22 a23 a24 a25 x19 a26 x20 a27 a28 a29 y0 a30 a31 a32 a33 a34 a35 a36 a37 a38 x21 x22 x23 y1 a39 x24 a40 a41 a42 a43 x25 x26 x27 x28 a18 f0 a32 f1 a33 f2 a34 g0 a28 f3) sz) := by
  refine gOf_i (by decide +kernel) (Nat.le_of_ble_eq_true rfl) ?_
  intro p e s m args below meth c ls A Q hx hb hts hown hml hN hK hP hD hA hl hret
  replace hown : s.vm.findClass RX12 = some m.cls := hown
  have hS : va_S A s.heap s.heap [] := va_S.rf
  replace hP : va_P D gcl (zS_28 cB cC cI cJ a0 a1 x1 x2 x3 x4 x5 x6 x7 x8 a2 a3 a4 a5 a6 a7 a8 a9 a10 a11 a12 a13 a14 a15 a16 x9 x10 x11 x12 x13 x14 a17 a18 a19 x15 a20 x16 a21 x17 x18 a22 a23 a24 a25 x19 a26 x20 a27 a28 a29 y0 a30 a31 a32 a33 a34 a35 a36 a37 a38 x21 x22 x23 y1 a39 x24 a40 a41 a42 a43 x25 x26 x27 x28 a18 f0 a32 f1 a33 f2 a34 g0 a28 f3) s.heap := hP
  replace hl : lv_has ls 2 [(0, .ref a0), (1, .int x0)] := hl
  have rx0 : zBd x0.toInt (-2147483648) 2147483647 := n_rng x0
  have rx7 : zBd x7.toInt (-2147483648) 2147483647 := n_rng x7
  have rx8 : zBd x8.toInt (-2147483648) 2147483647 := n_rng x8
  have rx14 : zBd x14.toInt (-2147483648) 2147483647 := n_rng x14
  have rx18 : zBd x18.toInt (-2147483648) 2147483647 := n_rng x18
  have ry0 := n_rngL y0
  have ry1 := n_rngL y1
  refine lv_aload_n (pc := 0) hx hb dX12_cancel_0 rfl (lv_at hl 0 rfl) ?_
  refine lv_iload_n (pc := 1) hx hb dX12_cancel_1 rfl (lv_at hl 1 rfl) ?_
  refine gd_i (pc := 2) (wc := (zS_4 cB cC cI cJ a0 a1 x1 x2 x3 x4 x5 x6 x7 x8 a2 a3 a4 a5 a6 a7 a8 a9 a10 a11 a12 a13 a14 a15 a16 x9 x10 x11 x12 x13 x14 a17 a18 a19 x15 a20 x16 a21 x17 x18 a22 a23 a24 a25 x19 a26 x20 a27 a28 a29 y0 a30 a31 a32 a33 a34 a35 a36 a37 a38 x21 x22 x23 y1 a39 x24 a40 a41 a42 a43 x25 x26 x27 x28)) hP hD hS hA [0] rfl (by decide +kernel) (fun _ => by rfl) (fun hPc hDc => va_runV (As := [.int x0]) (rest := []) ⟨hx, hb, hml, hown, hts⟩ (k_X12_isSender l D cB cC cI cJ _ a0 a1 a2 a3 a4 a5 a6 a7 a8 a9 a10 a11 a12 a13 a14 a15 a16 a17 a18 a19 a20 a21 a22 a23 a24 a25 a26 a27 a28 a29 a30 a31 a32 a33 a34 a35 a36 a37 a38 a39 a40 a41 a42 a43 x0 x1 x2 x3 x4 x5 x6 x7 x8 x9 x10 x11 x12 x13 x14 x15 x16 x17 x18 x19 x20 x21 x22 x23 x24 x25 x26 x27 x28 y0 y1 h_x1 h_x2 h_x3 h_x4 h_x5 h_x6 h_x9 h_x10 h_x11 h_x12 h_x13 h_x15 h_x16 h_x17 h_x19 h_x20 h_x21 h_x22 h_x23 h_x24 h_x25 h_x26 h_x27 h_x28 hr_a0_0 hr_a0_1 hr_a0_2) ⟨gcwB hts tw_1782 tw_14 tw_1779 hd_yX12_isSender ⟨Nat.le_of_ble_eq_true rfl, Nat.le_of_ble_eq_true rfl⟩, hts _ tw_1781, hts _ tp_90⟩ ⟨gblind, va_recv hK hPc (ci := 12) (q0 := 0) rfl rfl, (gpreS hPc hK hDc hN).2⟩ rfl rfl hl.1 rfl (lv_room (Nat.le_of_ble_eq_true rfl)) dX12_cancel_2 ⟨Nat.le_of_ble_eq_true rfl, Nat.le_of_ble_eq_true rfl⟩) (fun r_2 u_1 H locs hw_3 hP hD hS => ?_)
  replace hP : va_P D gcl (zS_28 cB cC cI cJ a0 a1 x1 x2 x3 x4 x5 x6 x7 x8 a2 a3 a4 a5 a6 a7 a8 a9 a10 a11 a12 a13 a14 a15 a16 x9 x10 x11 x12 x13 x14 a17 a18 a19 x15 a20 x16 a21 x17 x18 a22 a23 a24 a25 x19 a26 x20 a27 a28 a29 y0 a30 a31 a32 a33 a34 a35 a36 a37 a38 x21 x22 x23 y1 a39 x24 a40 a41 a42 a43 x25 x26 x27 x28 a18 f0 a32 f1 a33 f2 a34 g0 a28 f3) H := hP
  replace hD : va_D A (zS_28 cB cC cI cJ a0 a1 x1 x2 x3 x4 x5 x6 x7 x8 a2 a3 a4 a5 a6 a7 a8 a9 a10 a11 a12 a13 a14 a15 a16 x9 x10 x11 x12 x13 x14 a17 a18 a19 x15 a20 x16 a21 x17 x18 a22 a23 a24 a25 x19 a26 x20 a27 a28 a29 y0 a30 a31 a32 a33 a34 a35 a36 a37 a38 x21 x22 x23 y1 a39 x24 a40 a41 a42 a43 x25 x26 x27 x28 a18 f0 a32 f1 a33 f2 a34 g0 a28 f3) := hD
  obtain ⟨hw_4, hw_5, hw_6⟩ := hw_3
  replace hw_4 : (0 ≤ r_2.toInt ∧ r_2.toInt ≤ 1) := hw_4
  replace hw_5 : (-x0.toInt ≤ 4294967296 - 4294967296 * r_2.toInt ∧ x0.toInt ≤ x10.toInt - 1 + 4294967296 - 4294967296 * r_2.toInt) := hw_5
  replace hw_6 : (inQ r_2.toInt x0.toInt x10.toInt) := hw_6
  have rr_2 : zBd r_2.toInt (-2147483648) 2147483647 := n_rng r_2
  refine b_if_ne (pc := 5) (tgt := 12) hx hb rfl  dX12_cancel_5 (by decide) (fun c_7 => ?_) (fun c_7 => ?_)
  ·
    as_aux_lemma =>
      refine lv_aload_n (pc := 12) hx hb dX12_cancel_12 rfl (lv_at hl 0 rfl) ?_
      refine gd_v (pc := 13) (wc := (zS_28 cB cC cI cJ a0 a1 x1 x2 x3 x4 x5 x6 x7 x8 a2 a3 a4 a5 a6 a7 a8 a9 a10 a11 a12 a13 a14 a15 a16 x9 x10 x11 x12 x13 x14 a17 a18 a19 x15 a20 x16 a21 x17 x18 a22 a23 a24 a25 x19 a26 x20 a27 a28 a29 y0 a30 a31 a32 a33 a34 a35 a36 a37 a38 x21 x22 x23 y1 a39 x24 a40 a41 a42 a43 x25 x26 x27 x28 a18 f0 a32 f1 a33 f2 a34 g0 a28 f3)) hP hD hS hA [0, 1, 2, 3, 4, 5] rfl (by decide +kernel) (fun _ => by rfl) (fun hPc hDc => va_runV (As := []) (rest := []) ⟨hx, hb, hml, hown, hts⟩ (k_X12_cancels l D cB cC cI cJ _ a0 a1 a2 a3 a4 a5 a6 a7 a8 a9 a10 a11 a12 a13 a14 a15 a16 a17 a18 a19 a20 a21 a22 a23 a24 a25 a26 a27 a28 a29 a30 a31 a32 a33 a34 a35 a36 a37 a38 a39 a40 a41 a42 a43 x1 x2 x3 x4 x5 x6 x7 x8 x9 x10 x11 x12 x13 x14 x15 x16 x17 x18 x19 x20 x21 x22 x23 x24 x25 x26 x27 x28 y0 y1 f0 f1 f2 f3 g0 h_x1 h_x2 h_x3 h_x4 h_x5 h_x6 h_x9 h_x10 h_x11 h_x12 h_x13 h_x15 h_x16 h_x17 h_x19 h_x20 h_x21 h_x22 h_x23 h_x24 h_x25 h_x26 h_x27 h_x28 hr_a0_0 hr_a0_1 hr_a0_2 hf_f0 hf_f1 hf_f3) ⟨gcwB hts tw_1892 tw_14 tw_1889 hd_yX12_cancels ⟨Nat.le_of_ble_eq_true rfl, Nat.le_of_ble_eq_true rfl⟩, hts _ tw_1891, hts _ tp_103⟩ ⟨gblind, va_recv hK hPc (ci := 12) (q0 := 0) rfl rfl, (gpreS hPc hK hDc hN).2⟩ rfl rfl hl.1 rfl (lv_room (Nat.le_of_ble_eq_true rfl)) dX12_cancel_13 ⟨Nat.le_of_ble_eq_true rfl, Nat.le_of_ble_eq_true rfl⟩) (fun u_8 H locs hw_10 hP hD hS => ?_)
      replace hP : va_P D gcl (zS_28 cB cC cI cJ a0 a1 x1 x2 x3 x4 x5 x6 x7 x8 a2 a3 a4 a5 a6 a7 a8 a9 a10 a11 a12 a13 a14 a15 a16 x9 x10 x11 x12 x13 x14 a17 a18 a19 x15 a20 x16 a21 x17 x18 a22 a23 a24 a25 x19 a26 x20 a27 a28 a29 y0 a30 a31 a32 a33 a34 a35 a36 a37 a38 x21 x22 x23 y1 a39 x24 a40 a41 a42 a43 x25 x26 x27 x28 a18 f0 a32 (u_8.2.1 0) a33 (u_8.2.1 1) a34 (u_8.2.2.1 0) a28 f3) H := hP
      replace hD : va_D A (zS_28 cB cC cI cJ a0 a1 x1 x2 x3 x4 x5 x6 x7 x8 a2 a3 a4 a5 a6 a7 a8 a9 a10 a11 a12 a13 a14 a15 a16 x9 x10 x11 x12 x13 x14 a17 a18 a19 x15 a20 x16 a21 x17 x18 a22 a23 a24 a25 x19 a26 x20 a27 a28 a29 y0 a30 a31 a32 a33 a34 a35 a36 a37 a38 x21 x22 x23 y1 a39 x24 a40 a41 a42 a43 x25 x26 x27 x28 a18 f0 a32 (u_8.2.1 0) a33 (u_8.2.1 1) a34 (u_8.2.2.1 0) a28 f3) := hD
      obtain ⟨hw_11, hw_12⟩ := hw_10
      replace hw_11 : (((0 ≤ x11.toInt ∧ x11.toInt ≤ 6) ∧ (0 ≤ x10.toInt ∧ x10.toInt ≤ 5))) := hw_11
      replace hw_12 : (∀ j, 0 ≤ ((u_8.2.1 0) j).toInt ∧ ((u_8.2.1 0) j).toInt ≤ 4) := hw_12
      refine lv_aload_n (pc := 16) hx hb dX12_cancel_16 rfl (lv_at hl 0 rfl) ?_
      refine va_get (pc := 17) (ci := 12) (v := .ref a33) (C := RX12) (T := TX12) (N := 73) hx hb hts iX12 hown hK hP 0 rfl rfl 53 (by decide) (hts _ tw_1454) (fun _ h9 => h9) rfl dX12_cancel_17 ?_
      refine lv_iload_n (pc := 20) hx hb dX12_cancel_20 rfl (lv_at hl 1 rfl) ?_
      refine va_iald (pc := 21) hx hb hK hP 3 2 rfl rfl (n_in rfl (by first | exact (om_1557 c_7 hw_4.1 hw_5.1) | ((first | omega | (unfold zBd at *; omega)))) (by first | exact (om_1639 c_7 hw_4.1 hw_5.2 hw_11.2.2) | ((first | omega | (unfold zBd at *; omega))))) dX12_cancel_21 ?_
      refine lv_topi (fun x_13 ex_13 => ?_)
      have rx_13 : zBd x_13.toInt (-2147483648) 2147483647 := n_rng x_13
      have hP9 : va_P D gcl (zS_28 cB cC cI cJ a0 a1 x1 x2 x3 x4 x5 x6 x7 x8 a2 a3 a4 a5 a6 a7 a8 a9 a10 a11 a12 a13 a14 a15 a16 x9 x10 x11 x12 x13 x14 a17 a18 a19 x15 a20 x16 a21 x17 x18 a22 a23 a24 a25 x19 a26 x20 a27 a28 a29 y0 a30 a31 a32 a33 a34 a35 a36 a37 a38 x21 x22 x23 y1 a39 x24 a40 a41 a42 a43 x25 x26 x27 x28 a18 f0 a32 (u_8.2.1 0) a33 (u_8.2.1 1) a34 (u_8.2.2.1 0) a28 f3) H := g_psub hP [0, 1, 2, 3, 4, 5] rfl
      have hD9 : va_D A (zS_28 cB cC cI cJ a0 a1 x1 x2 x3 x4 x5 x6 x7 x8 a2 a3 a4 a5 a6 a7 a8 a9 a10 a11 a12 a13 a14 a15 a16 x9 x10 x11 x12 x13 x14 a17 a18 a19 x15 a20 x16 a21 x17 x18 a22 a23 a24 a25 x19 a26 x20 a27 a28 a29 y0 a30 a31 a32 a33 a34 a35 a36 a37 a38 x21 x22 x23 y1 a39 x24 a40 a41 a42 a43 x25 x26 x27 x28 a18 f0 a32 (u_8.2.1 0) a33 (u_8.2.1 1) a34 (u_8.2.2.1 0) a28 f3) := hD.sub [0, 1, 2, 3, 4, 5] (by decide) rfl
      exact hret x_13 ((fun _ => 0), (fun k => [(u_8.2.1 0), (u_8.2.1 1)].getD k (fun _ => 0)), (fun k => [(u_8.2.2.1 0)].getD k (fun _ => 0)), (fun _ => 0), (fun _ => 0)) dX12_cancel_22 ⟨(show ((((-2147483648) ≤ x_13.toInt ∧ x_13.toInt ≤ 2147483647)) ∨ (x_13.toInt = (-1000000000))) from (by first | exact (om_1366 rx_13.1 rx_13.2) | ((first | omega | (unfold zBd at *; omega))))), hw_12⟩ hP9 hD9 hS
  ·
    as_aux_lemma =>
      refine lv_ldcw (pc := 8) hx hb hown (hts _ tw_1783) dX12_cancel_8 ?_
      have hP9 : va_P D gcl (zS_28 cB cC cI cJ a0 a1 x1 x2 x3 x4 x5 x6 x7 x8 a2 a3 a4 a5 a6 a7 a8 a9 a10 a11 a12 a13 a14 a15 a16 x9 x10 x11 x12 x13 x14 a17 a18 a19 x15 a20 x16 a21 x17 x18 a22 a23 a24 a25 x19 a26 x20 a27 a28 a29 y0 a30 a31 a32 a33 a34 a35 a36 a37 a38 x21 x22 x23 y1 a39 x24 a40 a41 a42 a43 x25 x26 x27 x28 a18 f0 a32 f1 a33 f2 a34 g0 a28 f3) H := g_psub hP [0, 1, 2, 3, 4, 5] rfl
      have hD9 : va_D A (zS_28 cB cC cI cJ a0 a1 x1 x2 x3 x4 x5 x6 x7 x8 a2 a3 a4 a5 a6 a7 a8 a9 a10 a11 a12 a13 a14 a15 a16 x9 x10 x11 x12 x13 x14 a17 a18 a19 x15 a20 x16 a21 x17 x18 a22 a23 a24 a25 x19 a26 x20 a27 a28 a29 y0 a30 a31 a32 a33 a34 a35 a36 a37 a38 x21 x22 x23 y1 a39 x24 a40 a41 a42 a43 x25 x26 x27 x28 a18 f0 a32 f1 a33 f2 a34 g0 a28 f3) := hD.sub [0, 1, 2, 3, 4, 5] (by decide) rfl
      exact hret (-1000000000) ((fun _ => 0), (fun k => [f1, f2].getD k (fun _ => 0)), (fun k => [g0].getD k (fun _ => 0)), (fun _ => 0), (fun _ => 0)) dX12_cancel_11 ⟨(show ((((-2147483648) ≤ ((-1000000000) : Int32).toInt ∧ ((-1000000000) : Int32).toInt ≤ 2147483647)) ∨ (((-1000000000) : Int32).toInt = (-1000000000))) from (by first | exact (om_1367 tI_m1000000000) | (have k9 := tI_m1000000000; (first | omega | (unfold zBd at *; omega))))), hf_f1⟩ hP9 hD9 hS
theorem om_1661 {a b c : Int} (h0 : (¬ c = 0)) (h1 : (0 ≤ c)) (h2 : (-a ≤ 4294967296 - 4294967296 * c)) (h3 : (a ≤ b - 1 + 4294967296 - 4294967296 * c)) : (0 ≤ a ∧ a < b) := by omega
set_option maxHeartbeats 4000000 in
set_option maxRecDepth 100000 in
theorem k_X12_order (l : Launch) (D : va_G) (cB cC cI cJ : ClassId) (sz : Nat) (a0 a1 a2 a3 a4 a5 a6 a7 a8 a9 a10 a11 a12 a13 a14 a15 a16 a17 a18 a19 a20 a21 a22 a23 a24 a25 a26 a27 a28 a29 a30 a31 a32 a33 a34 a35 a36 a37 a38 a39 a40 a41 a42 a43 : Nat) (x0 x1 x2 x3 x4 x5 x6 x7 x8 x9 x10 x11 x12 x13 x14 x15 x16 x17 x18 x19 x20 x21 x22 x23 x24 x25 x26 x27 x28 : Int32) (y0 y1 : Int64) (f0 f1 : Nat → Int32) (h_x1 : zBd x1.toInt 0 1600) (h_x2 : zBd x2.toInt 0 1600) (h_x3 : zBd x3.toInt 0 1600) (h_x4 : zBd x4.toInt (-1) 1600) (h_x5 : zBd x5.toInt 0 4) (h_x6 : zBd x6.toInt (-1) 1600) (h_x9 : zBd x9.toInt 0 8) (h_x10 : zBd x10.toInt 0 5) (h_x11 : zBd x11.toInt 0 6) (h_x12 : zBd x12.toInt 0 6) (h_x13 : zBd x13.toInt 0 16) (h_x15 : zBd x15.toInt 0 60) (h_x16 : zBd x16.toInt 0 1600) (h_x17 : zBd x17.toInt 0 1700) (h_x19 : zBd x19.toInt 0 1700) (h_x20 : zBd x20.toInt 0 1700) (h_x21 : zBd x21.toInt 0 200) (h_x22 : zBd x22.toInt 0 40) (h_x23 : zBd x23.toInt 0 40) (h_x24 : zBd x24.toInt 0 1) (h_x25 : zBd x25.toInt 0 14) (h_x26 : zBd x26.toInt 0 200) (h_x27 : zBd x27.toInt 0 40) (h_x28 : zBd x28.toInt 0 40) (hr_a0_0 : (x22.toInt ≤ x21.toInt)) (hr_a0_1 : (x21.toInt + x23.toInt ≤ 200)) (hr_a0_2 : (x10.toInt = 0 ∨ 2 ≤ x9.toInt)) (hf_f0 : (∀ j, (-9999) ≤ (f0 j).toInt ∧ (f0 j).toInt ≤ 9999)) (hf_f1 : (∀ j, 0 ≤ (f1 j).toInt ∧ (f1 j).toInt ≤ 4)) : Met l yX12_order (.code yX12_order cX12_order 2 (some .int) :: lw_gd) ({ frames := 2, cells := 0, slots := 0, locals := 50 }) (gPre D [(cB, .byte), (cC, .char), (cI, .int), (cJ, .long)] [.ref a0, .int x0] (zS_21 cB cC cI cJ a0 a1 x1 x2 x3 x4 x5 x6 x7 x8 a2 a3 a4 a5 a6 a7 a8 a9 a10 a11 a12 a13 a14 a15 a16 x9 x10 x11 x12 x13 x14 a17 a18 a19 x15 a20 x16 a21 x17 x18 a22 a23 a24 a25 x19 a26 x20 a27 a28 a29 y0 a30 a31 a32 a33 a34 a35 a36 a37 a38 x21 x22 x23 y1 a39 x24 a40 a41 a42 a43 x25 x26 x27 x28 a18 f0 a32 f1) sz) (va_Qi (fun r u => ((-1) ≤ r.toInt ∧ r.toInt ≤ 4) ∧ (∀ j, 0 ≤ ((u.2.1 0) j).toInt ∧ ((u.2.1 0) j).toInt ≤ 4) ∧ (orM r.toInt x0.toInt x10.toInt x11.toInt f0)) (gB D (va_A (zS_21 cB cC cI cJ a0 a1 x1 x2 x3 x4 x5 x6 x7 x8 a2 a3 a4 a5 a6 a7 a8 a9 a10 a11 a12 a13 a14 a15 a16 x9 x10 x11 x12 x13 x14 a17 a18 a19 x15 a20 x16 a21 x17 x18 a22 a23 a24 a25 x19 a26 x20 a27 a28 a29 y0 a30 a31 a32 a33 a34 a35 a36 a37 a38 x21 x22 x23 y1 a39 x24 a40 a41 a42 a43 x25 x26 x27 x28 a18 f0 a32 f1) sz) (fun u : gEx => (zS_21 cB cC cI cJ a0 a1 x1 x2 x3 x4 x5 x6 x7 x8 a2 a3 a4 a5 a6 a7 a8 a9 a10 a11 a12 a13 a14 a15 a16 x9 x10 x11 x12 x13 x14 a17 a18 a19 x15 a20 x16 a21 x17 x18 a22 a23 a24 a25 x19 a26 x20 a27 a28 a29 y0 a30 a31 a32 a33 a34 a35 a36 a37 a38 x21 x22 x23 y1 a39 x24 a40 a41 a42 a43 x25 x26 x27 x28 a18 f0 a32 (u.2.1 0)))) (va_A (zS_21 cB cC cI cJ a0 a1 x1 x2 x3 x4 x5 x6 x7 x8 a2 a3 a4 a5 a6 a7 a8 a9 a10 a11 a12 a13 a14 a15 a16 x9 x10 x11 x12 x13 x14 a17 a18 a19 x15 a20 x16 a21 x17 x18 a22 a23 a24 a25 x19 a26 x20 a27 a28 a29 y0 a30 a31 a32 a33 a34 a35 a36 a37 a38 x21 x22 x23 y1 a39 x24 a40 a41 a42 a43 x25 x26 x27 x28 a18 f0 a32 f1) sz)) 0 0 (va_A (zS_21 cB cC cI cJ a0 a1 x1 x2 x3 x4 x5 x6 x7 x8 a2 a3 a4 a5 a6 a7 a8 a9 a10 a11 a12 a13 a14 a15 a16 x9 x10 x11 x12 x13 x14 a17 a18 a19 x15 a20 x16 a21 x17 x18 a22 a23 a24 a25 x19 a26 x20 a27 a28 a29 y0 a30 a31 a32 a33 a34 a35 a36 a37 a38 x21 x22 x23 y1 a39 x24 a40 a41 a42 a43 x25 x26 x27 x28 a18 f0 a32 f1) sz) := by
  refine gOf_i (by decide +kernel) (Nat.le_of_ble_eq_true rfl) ?_
  intro p e s m args below meth c ls A Q hx hb hts hown hml hN hK hP hD hA hl hret
  replace hown : s.vm.findClass RX12 = some m.cls := hown
  have hS : va_S A s.heap s.heap [] := va_S.rf
  replace hP : va_P D gcl (zS_21 cB cC cI cJ a0 a1 x1 x2 x3 x4 x5 x6 x7 x8 a2 a3 a4 a5 a6 a7 a8 a9 a10 a11 a12 a13 a14 a15 a16 x9 x10 x11 x12 x13 x14 a17 a18 a19 x15 a20 x16 a21 x17 x18 a22 a23 a24 a25 x19 a26 x20 a27 a28 a29 y0 a30 a31 a32 a33 a34 a35 a36 a37 a38 x21 x22 x23 y1 a39 x24 a40 a41 a42 a43 x25 x26 x27 x28 a18 f0 a32 f1) s.heap := hP
  replace hl : lv_has ls 2 [(0, .ref a0), (1, .int x0)] := hl
  have rx0 : zBd x0.toInt (-2147483648) 2147483647 := n_rng x0
  have rx7 : zBd x7.toInt (-2147483648) 2147483647 := n_rng x7
  have rx8 : zBd x8.toInt (-2147483648) 2147483647 := n_rng x8
  have rx14 : zBd x14.toInt (-2147483648) 2147483647 := n_rng x14
  have rx18 : zBd x18.toInt (-2147483648) 2147483647 := n_rng x18
  have ry0 := n_rngL y0
  have ry1 := n_rngL y1
  refine lv_aload_n (pc := 0) hx hb dX12_order_0 rfl (lv_at hl 0 rfl) ?_
  refine lv_iload_n (pc := 1) hx hb dX12_order_1 rfl (lv_at hl 1 rfl) ?_
  refine gd_i (pc := 2) (wc := (zS_4 cB cC cI cJ a0 a1 x1 x2 x3 x4 x5 x6 x7 x8 a2 a3 a4 a5 a6 a7 a8 a9 a10 a11 a12 a13 a14 a15 a16 x9 x10 x11 x12 x13 x14 a17 a18 a19 x15 a20 x16 a21 x17 x18 a22 a23 a24 a25 x19 a26 x20 a27 a28 a29 y0 a30 a31 a32 a33 a34 a35 a36 a37 a38 x21 x22 x23 y1 a39 x24 a40 a41 a42 a43 x25 x26 x27 x28)) hP hD hS hA [0] rfl (by decide +kernel) (fun _ => by rfl) (fun hPc hDc => va_runV (As := [.int x0]) (rest := []) ⟨hx, hb, hml, hown, hts⟩ (k_X12_isSender l D cB cC cI cJ _ a0 a1 a2 a3 a4 a5 a6 a7 a8 a9 a10 a11 a12 a13 a14 a15 a16 a17 a18 a19 a20 a21 a22 a23 a24 a25 a26 a27 a28 a29 a30 a31 a32 a33 a34 a35 a36 a37 a38 a39 a40 a41 a42 a43 x0 x1 x2 x3 x4 x5 x6 x7 x8 x9 x10 x11 x12 x13 x14 x15 x16 x17 x18 x19 x20 x21 x22 x23 x24 x25 x26 x27 x28 y0 y1 h_x1 h_x2 h_x3 h_x4 h_x5 h_x6 h_x9 h_x10 h_x11 h_x12 h_x13 h_x15 h_x16 h_x17 h_x19 h_x20 h_x21 h_x22 h_x23 h_x24 h_x25 h_x26 h_x27 h_x28 hr_a0_0 hr_a0_1 hr_a0_2) ⟨gcwB hts tw_1782 tw_14 tw_1779 hd_yX12_isSender ⟨Nat.le_of_ble_eq_true rfl, Nat.le_of_ble_eq_true rfl⟩, hts _ tw_1781, hts _ tp_90⟩ ⟨gblind, va_recv hK hPc (ci := 12) (q0 := 0) rfl rfl, (gpreS hPc hK hDc hN).2⟩ rfl rfl hl.1 rfl (lv_room (Nat.le_of_ble_eq_true rfl)) dX12_order_2 ⟨Nat.le_of_ble_eq_true rfl, Nat.le_of_ble_eq_true rfl⟩) (fun r_2 u_1 H locs hw_3 hP hD hS => ?_)
  replace hP : va_P D gcl (zS_21 cB cC cI cJ a0 a1 x1 x2 x3 x4 x5 x6 x7 x8 a2 a3 a4 a5 a6 a7 a8 a9 a10 a11 a12 a13 a14 a15 a16 x9 x10 x11 x12 x13 x14 a17 a18 a19 x15 a20 x16 a21 x17 x18 a22 a23 a24 a25 x19 a26 x20 a27 a28 a29 y0 a30 a31 a32 a33 a34 a35 a36 a37 a38 x21 x22 x23 y1 a39 x24 a40 a41 a42 a43 x25 x26 x27 x28 a18 f0 a32 f1) H := hP
  replace hD : va_D A (zS_21 cB cC cI cJ a0 a1 x1 x2 x3 x4 x5 x6 x7 x8 a2 a3 a4 a5 a6 a7 a8 a9 a10 a11 a12 a13 a14 a15 a16 x9 x10 x11 x12 x13 x14 a17 a18 a19 x15 a20 x16 a21 x17 x18 a22 a23 a24 a25 x19 a26 x20 a27 a28 a29 y0 a30 a31 a32 a33 a34 a35 a36 a37 a38 x21 x22 x23 y1 a39 x24 a40 a41 a42 a43 x25 x26 x27 x28 a18 f0 a32 f1) := hD
  obtain ⟨hw_4, hw_5, hw_6⟩ := hw_3
  replace hw_4 : (0 ≤ r_2.toInt ∧ r_2.toInt ≤ 1) := hw_4
  replace hw_5 : (-x0.toInt ≤ 4294967296 - 4294967296 * r_2.toInt ∧ x0.toInt ≤ x10.toInt - 1 + 4294967296 - 4294967296 * r_2.toInt) := hw_5
  replace hw_6 : (inQ r_2.toInt x0.toInt x10.toInt) := hw_6
  have rr_2 : zBd r_2.toInt (-2147483648) 2147483647 := n_rng r_2
  refine b_if_ne (pc := 5) (tgt := 10) hx hb rfl  dX12_order_5 (by decide) (fun c_7 => ?_) (fun c_7 => ?_)
  ·
    as_aux_lemma =>
      refine lv_aload_n (pc := 10) hx hb dX12_order_10 rfl (lv_at hl 0 rfl) ?_
      refine gd_v (pc := 11) (wc := (zS_21 cB cC cI cJ a0 a1 x1 x2 x3 x4 x5 x6 x7 x8 a2 a3 a4 a5 a6 a7 a8 a9 a10 a11 a12 a13 a14 a15 a16 x9 x10 x11 x12 x13 x14 a17 a18 a19 x15 a20 x16 a21 x17 x18 a22 a23 a24 a25 x19 a26 x20 a27 a28 a29 y0 a30 a31 a32 a33 a34 a35 a36 a37 a38 x21 x22 x23 y1 a39 x24 a40 a41 a42 a43 x25 x26 x27 x28 a18 f0 a32 f1)) hP hD hS hA [0, 1, 2] rfl (by decide +kernel) (fun _ => by rfl) (fun hPc hDc => va_runV (As := []) (rest := []) ⟨hx, hb, hml, hown, hts⟩ (k_X12_orders l D cB cC cI cJ _ a0 a1 a2 a3 a4 a5 a6 a7 a8 a9 a10 a11 a12 a13 a14 a15 a16 a17 a18 a19 a20 a21 a22 a23 a24 a25 a26 a27 a28 a29 a30 a31 a32 a33 a34 a35 a36 a37 a38 a39 a40 a41 a42 a43 x1 x2 x3 x4 x5 x6 x7 x8 x9 x10 x11 x12 x13 x14 x15 x16 x17 x18 x19 x20 x21 x22 x23 x24 x25 x26 x27 x28 y0 y1 f0 f1 h_x1 h_x2 h_x3 h_x4 h_x5 h_x6 h_x9 h_x10 h_x11 h_x12 h_x13 h_x15 h_x16 h_x17 h_x19 h_x20 h_x21 h_x22 h_x23 h_x24 h_x25 h_x26 h_x27 h_x28 hr_a0_0 hr_a0_1 hr_a0_2 hf_f0 hf_f1) ⟨gcwB hts tw_1896 tw_14 tw_1893 hd_yX12_orders ⟨Nat.le_of_ble_eq_true rfl, Nat.le_of_ble_eq_true rfl⟩, hts _ tw_1895, hts _ tp_104⟩ ⟨gblind, va_recv hK hPc (ci := 12) (q0 := 0) rfl rfl, (gpreS hPc hK hDc hN).2⟩ rfl rfl hl.1 rfl (lv_room (Nat.le_of_ble_eq_true rfl)) dX12_order_11 ⟨Nat.le_of_ble_eq_true rfl, Nat.le_of_ble_eq_true rfl⟩) (fun u_8 H locs hw_10 hP hD hS => ?_)
      replace hP : va_P D gcl (zS_21 cB cC cI cJ a0 a1 x1 x2 x3 x4 x5 x6 x7 x8 a2 a3 a4 a5 a6 a7 a8 a9 a10 a11 a12 a13 a14 a15 a16 x9 x10 x11 x12 x13 x14 a17 a18 a19 x15 a20 x16 a21 x17 x18 a22 a23 a24 a25 x19 a26 x20 a27 a28 a29 y0 a30 a31 a32 a33 a34 a35 a36 a37 a38 x21 x22 x23 y1 a39 x24 a40 a41 a42 a43 x25 x26 x27 x28 a18 f0 a32 (u_8.2.1 0)) H := hP
      replace hD : va_D A (zS_21 cB cC cI cJ a0 a1 x1 x2 x3 x4 x5 x6 x7 x8 a2 a3 a4 a5 a6 a7 a8 a9 a10 a11 a12 a13 a14 a15 a16 x9 x10 x11 x12 x13 x14 a17 a18 a19 x15 a20 x16 a21 x17 x18 a22 a23 a24 a25 x19 a26 x20 a27 a28 a29 y0 a30 a31 a32 a33 a34 a35 a36 a37 a38 x21 x22 x23 y1 a39 x24 a40 a41 a42 a43 x25 x26 x27 x28 a18 f0 a32 (u_8.2.1 0)) := hD
      obtain ⟨hw_11, hw_12⟩ := hw_10
      replace hw_11 : (∀ j, 0 ≤ ((u_8.2.1 0) j).toInt ∧ ((u_8.2.1 0) j).toInt ≤ 4) := hw_11
      replace hw_12 : (oR (u_8.2.1 0) (fun s => (prn f0 s s (x11.toInt).toNat).toInt) x10.toInt x10.toInt) := hw_12
      refine lv_aload_n (pc := 14) hx hb dX12_order_14 rfl (lv_at hl 0 rfl) ?_
      refine va_get (pc := 15) (ci := 12) (v := .ref a32) (C := RX12) (T := TX12) (N := 73) hx hb hts iX12 hown hK hP 0 rfl rfl 52 (by decide) (hts _ tw_1453) (fun _ h9 => h9) rfl dX12_order_15 ?_
      refine lv_iload_n (pc := 18) hx hb dX12_order_18 rfl (lv_at hl 1 rfl) ?_
      refine va_iald (pc := 19) hx hb hK hP 2 2 rfl rfl (n_in rfl (by first | exact (om_1557 c_7 hw_4.1 hw_5.1) | ((first | omega | (unfold zBd at *; omega)))) (by first | exact (om_1639 c_7 hw_4.1 hw_5.2 h_x10.2) | ((first | omega | (unfold zBd at *; omega))))) dX12_order_19 ?_
      refine lv_topi (fun x_13 ex_13 => ?_)
      have rx_13 : (0 ≤ x_13.toInt ∧ x_13.toInt ≤ 4) := by rw [ex_13]; exact hw_11 _
      replace ex_13 : x_13 = (u_8.2.1 0) (x0.toInt).toNat := ex_13
      have tx_13 := congrArg Int32.toInt ex_13
      have hP9 : va_P D gcl (zS_21 cB cC cI cJ a0 a1 x1 x2 x3 x4 x5 x6 x7 x8 a2 a3 a4 a5 a6 a7 a8 a9 a10 a11 a12 a13 a14 a15 a16 x9 x10 x11 x12 x13 x14 a17 a18 a19 x15 a20 x16 a21 x17 x18 a22 a23 a24 a25 x19 a26 x20 a27 a28 a29 y0 a30 a31 a32 a33 a34 a35 a36 a37 a38 x21 x22 x23 y1 a39 x24 a40 a41 a42 a43 x25 x26 x27 x28 a18 f0 a32 (u_8.2.1 0)) H := g_psub hP [0, 1, 2] rfl
      have hD9 : va_D A (zS_21 cB cC cI cJ a0 a1 x1 x2 x3 x4 x5 x6 x7 x8 a2 a3 a4 a5 a6 a7 a8 a9 a10 a11 a12 a13 a14 a15 a16 x9 x10 x11 x12 x13 x14 a17 a18 a19 x15 a20 x16 a21 x17 x18 a22 a23 a24 a25 x19 a26 x20 a27 a28 a29 y0 a30 a31 a32 a33 a34 a35 a36 a37 a38 x21 x22 x23 y1 a39 x24 a40 a41 a42 a43 x25 x26 x27 x28 a18 f0 a32 (u_8.2.1 0)) := hD.sub [0, 1, 2] (by decide) rfl
      exact hret x_13 ((fun _ => 0), (fun k => [(u_8.2.1 0)].getD k (fun _ => 0)), (fun _ => (fun _ => 0)), (fun _ => 0), (fun _ => 0)) dX12_order_20 ⟨(show ((-1) ≤ x_13.toInt ∧ x_13.toInt ≤ 4) from (by first | exact (om_1368 rx_13.1 rx_13.2) | ((first | omega | (unfold zBd at *; omega))))), hw_11, (show orM x_13.toInt x0.toInt x10.toInt x11.toInt f0 from orM_yes (by first | exact (om_1661 c_7 hw_4.1 hw_5.1 hw_5.2) | ((first | omega | (unfold zBd at *; omega)))) hw_12 ex_13 rfl rfl)⟩ hP9 hD9 hS
  ·
    as_aux_lemma =>
      refine lv_iconst (pc := 8) (v := (-1)) hx hb dX12_order_8 (by decide) ?_
      have hP9 : va_P D gcl (zS_21 cB cC cI cJ a0 a1 x1 x2 x3 x4 x5 x6 x7 x8 a2 a3 a4 a5 a6 a7 a8 a9 a10 a11 a12 a13 a14 a15 a16 x9 x10 x11 x12 x13 x14 a17 a18 a19 x15 a20 x16 a21 x17 x18 a22 a23 a24 a25 x19 a26 x20 a27 a28 a29 y0 a30 a31 a32 a33 a34 a35 a36 a37 a38 x21 x22 x23 y1 a39 x24 a40 a41 a42 a43 x25 x26 x27 x28 a18 f0 a32 f1) H := g_psub hP [0, 1, 2] rfl
      have hD9 : va_D A (zS_21 cB cC cI cJ a0 a1 x1 x2 x3 x4 x5 x6 x7 x8 a2 a3 a4 a5 a6 a7 a8 a9 a10 a11 a12 a13 a14 a15 a16 x9 x10 x11 x12 x13 x14 a17 a18 a19 x15 a20 x16 a21 x17 x18 a22 a23 a24 a25 x19 a26 x20 a27 a28 a29 y0 a30 a31 a32 a33 a34 a35 a36 a37 a38 x21 x22 x23 y1 a39 x24 a40 a41 a42 a43 x25 x26 x27 x28 a18 f0 a32 f1) := hD.sub [0, 1, 2] (by decide) rfl
      have k9 := tI_m1
      exact hret (-1) ((fun _ => 0), (fun k => [f1].getD k (fun _ => 0)), (fun _ => (fun _ => 0)), (fun _ => 0), (fun _ => 0)) dX12_order_9 ⟨(show ((-1) ≤ ((-1) : Int32).toInt ∧ ((-1) : Int32).toInt ≤ 4) from (n_c tI_m1 (by decide))), hf_f1, (show orM ((-1) : Int32).toInt x0.toInt x10.toInt x11.toInt f0 from orM_no hw_6 (by first | exact (om_31 c_7) | ((first | omega | (unfold zBd at *; omega)))) (by first | exact (om_65 tI_m1) | ((first | omega | (unfold zBd at *; omega)))))⟩ hP9 hD9 hS
theorem om_1662 {a b c : Int} (h0 : ((-9223372036854775808) ≤ a)) (h1 : (a ≤ 9223372036854775807)) (h2 : (¬ b = 0)) (h3 : (0 ≤ c)) (h4 : (c ≤ 6)) : (((((-9223372036854775808) ≤ a ∧ a ≤ 9223372036854775807) ∧ ¬ b = 0 ∧ (0 ≤ c ∧ c ≤ 6)) ∨ (a = (-1) ∧ b = 0))) := by omega
theorem om_1663 {a b c : Int} (h0 : (a = (-1))) (h1 : (b = 0)) : (((((-9223372036854775808) ≤ a ∧ a ≤ 9223372036854775807) ∧ ¬ b = 0 ∧ (0 ≤ c ∧ c ≤ 6)) ∨ (a = (-1) ∧ b = 0))) := by omega
set_option maxHeartbeats 4000000 in
set_option maxRecDepth 100000 in
theorem k_X12_left (l : Launch) (D : va_G) (cB cC cI cJ : ClassId) (sz : Nat) (a0 a1 a2 a3 a4 a5 a6 a7 a8 a9 a10 a11 a12 a13 a14 a15 a16 a17 a18 a19 a20 a21 a22 a23 a24 a25 a26 a27 a28 a29 a30 a31 a32 a33 a34 a35 a36 a37 a38 a39 a40 a41 a42 a43 : Nat) (x0 x1 x2 x3 x4 x5 x6 x7 x8 x9 x10 x11 x12 x13 x14 x15 x16 x17 x18 x19 x20 x21 x22 x23 x24 x25 x26 x27 : Int32) (y0 y1 : Int64) (f0 f1 f2 f3 : Nat → Int32) (g0 : Nat → Int64) (h_x0 : zBd x0.toInt 0 1600) (h_x1 : zBd x1.toInt 0 1600) (h_x2 : zBd x2.toInt 0 1600) (h_x3 : zBd x3.toInt (-1) 1600) (h_x4 : zBd x4.toInt 0 4) (h_x5 : zBd x5.toInt (-1) 1600) (h_x8 : zBd x8.toInt 0 8) (h_x9 : zBd x9.toInt 0 5) (h_x10 : zBd x10.toInt 0 6) (h_x11 : zBd x11.toInt 0 6) (h_x12 : zBd x12.toInt 0 16) (h_x14 : zBd x14.toInt 0 60) (h_x15 : zBd x15.toInt 0 1600) (h_x16 : zBd x16.toInt 0 1700) (h_x18 : zBd x18.toInt 0 1700) (h_x19 : zBd x19.toInt 0 1700) (h_x20 : zBd x20.toInt 0 200) (h_x21 : zBd x21.toInt 0 40) (h_x22 : zBd x22.toInt 0 40) (h_x23 : zBd x23.toInt 0 1) (h_x24 : zBd x24.toInt 0 14) (h_x25 : zBd x25.toInt 0 200) (h_x26 : zBd x26.toInt 0 40) (h_x27 : zBd x27.toInt 0 40) (hr_a0_0 : (x21.toInt ≤ x20.toInt)) (hr_a0_1 : (x20.toInt + x22.toInt ≤ 200)) (hr_a0_2 : (x9.toInt = 0 ∨ 2 ≤ x8.toInt)) (hf_f0 : (∀ j, (-9999) ≤ (f0 j).toInt ∧ (f0 j).toInt ≤ 9999)) (hf_f1 : (∀ j, 0 ≤ (f1 j).toInt ∧ (f1 j).toInt ≤ 4)) (hf_f3 : (∀ j, (-1100000) ≤ (f3 j).toInt ∧ (f3 j).toInt ≤ 1100000)) : Met l yX12_left (.code yX12_left cX12_left 4 (some .long) :: lw_gd) ({ frames := 3, cells := 0, slots := 0, locals := 74 }) (gPre D [(cB, .byte), (cC, .char), (cI, .int), (cJ, .long)] [.ref a0] (zS_28 cB cC cI cJ a0 a1 x0 x1 x2 x3 x4 x5 x6 x7 a2 a3 a4 a5 a6 a7 a8 a9 a10 a11 a12 a13 a14 a15 a16 x8 x9 x10 x11 x12 x13 a17 a18 a19 x14 a20 x15 a21 x16 x17 a22 a23 a24 a25 x18 a26 x19 a27 a28 a29 y0 a30 a31 a32 a33 a34 a35 a36 a37 a38 x20 x21 x22 y1 a39 x23 a40 a41 a42 a43 x24 x25 x26 x27 a18 f0 a32 f1 a33 f2 a34 g0 a28 f3) sz) (va_Ql (fun r u => ((((-9223372036854775808) ≤ r.toInt ∧ r.toInt ≤ 9223372036854775807) ∧ ¬ x9.toInt = 0 ∧ (0 ≤ x10.toInt ∧ x10.toInt ≤ 6)) ∨ (r.toInt = (-1) ∧ x9.toInt = 0)) ∧ (∀ j, 0 ≤ ((u.2.1 0) j).toInt ∧ ((u.2.1 0) j).toInt ≤ 4)) (gB D (va_A (zS_28 cB cC cI cJ a0 a1 x0 x1 x2 x3 x4 x5 x6 x7 a2 a3 a4 a5 a6 a7 a8 a9 a10 a11 a12 a13 a14 a15 a16 x8 x9 x10 x11 x12 x13 a17 a18 a19 x14 a20 x15 a21 x16 x17 a22 a23 a24 a25 x18 a26 x19 a27 a28 a29 y0 a30 a31 a32 a33 a34 a35 a36 a37 a38 x20 x21 x22 y1 a39 x23 a40 a41 a42 a43 x24 x25 x26 x27 a18 f0 a32 f1 a33 f2 a34 g0 a28 f3) sz) (fun u : gEx => (zS_28 cB cC cI cJ a0 a1 x0 x1 x2 x3 x4 x5 x6 x7 a2 a3 a4 a5 a6 a7 a8 a9 a10 a11 a12 a13 a14 a15 a16 x8 x9 x10 x11 x12 x13 a17 a18 a19 x14 a20 x15 a21 x16 x17 a22 a23 a24 a25 x18 a26 x19 a27 a28 a29 y0 a30 a31 a32 a33 a34 a35 a36 a37 a38 x20 x21 x22 y1 a39 x23 a40 a41 a42 a43 x24 x25 x26 x27 a18 f0 a32 (u.2.1 0) a33 (u.2.1 1) a34 (u.2.2.1 0) a28 f3))) (va_A (zS_28 cB cC cI cJ a0 a1 x0 x1 x2 x3 x4 x5 x6 x7 a2 a3 a4 a5 a6 a7 a8 a9 a10 a11 a12 a13 a14 a15 a16 x8 x9 x10 x11 x12 x13 a17 a18 a19 x14 a20 x15 a21 x16 x17 a22 a23 a24 a25 x18 a26 x19 a27 a28 a29 y0 a30 a31 a32 a33 a34 a35 a36 a37 a38 x20 x21 x22 y1 a39 x23 a40 a41 a42 a43 x24 x25 x26 x27 a18 f0 a32 f1 a33 f2 a34 g0 a28 f3) sz)) 0 0 (va_A (zS_28 cB cC cI cJ a0 a1 x0 x1 x2 x3 x4 x5 x6 x7 a2 a3 a4 a5 a6 a7 a8 a9 a10 a11 a12 a13 a14 a15 a16 x8 x9 x10 x11 x12 x13 a17 a18 a19 x14 a20 x15 a21 x16 x17 a22 a23 a24 a25 x18 a26 x19 a27 a28 a29 y0 a30 a31 a32 a33 a34 a35 a36 a37 a38 x20 x21 x22 y1 a39 x23 a40 a41 a42 a43 x24 x25 x26 x27 a18 f0 a32 f1 a33 f2 a34 g0 a28 f3) sz) := by
  refine gOf_l (by decide +kernel) (Nat.le_of_ble_eq_true rfl) ?_
  intro p e s m args below meth c ls A Q hx hb hts hown hml hN hK hP hD hA hl hret
  replace hown : s.vm.findClass RX12 = some m.cls := hown
  have hS : va_S A s.heap s.heap [] := va_S.rf
  replace hP : va_P D gcl (zS_28 cB cC cI cJ a0 a1 x0 x1 x2 x3 x4 x5 x6 x7 a2 a3 a4 a5 a6 a7 a8 a9 a10 a11 a12 a13 a14 a15 a16 x8 x9 x10 x11 x12 x13 a17 a18 a19 x14 a20 x15 a21 x16 x17 a22 a23 a24 a25 x18 a26 x19 a27 a28 a29 y0 a30 a31 a32 a33 a34 a35 a36 a37 a38 x20 x21 x22 y1 a39 x23 a40 a41 a42 a43 x24 x25 x26 x27 a18 f0 a32 f1 a33 f2 a34 g0 a28 f3) s.heap := hP
  replace hl : lv_has ls 4 [(0, .ref a0)] := hl
  have rx6 : zBd x6.toInt (-2147483648) 2147483647 := n_rng x6
  have rx7 : zBd x7.toInt (-2147483648) 2147483647 := n_rng x7
  have rx13 : zBd x13.toInt (-2147483648) 2147483647 := n_rng x13
  have rx17 : zBd x17.toInt (-2147483648) 2147483647 := n_rng x17
  have ry0 := n_rngL y0
  have ry1 := n_rngL y1
  refine lv_aload_n (pc := 0) hx hb dX12_left_0 rfl (lv_at hl 0 rfl) ?_
  refine va_get (pc := 1) (ci := 12) (v := .int x9) (C := RX12) (T := TX12) (N := 73) hx hb hts iX12 hown hK hP 0 rfl rfl 25 (by decide) (hts _ tw_1426) (fun _ h9 => h9) rfl dX12_left_1 ?_
  have bd_h_x9 : 0 ≤ x9.toInt ∧ x9.toInt ≤ 5 := h_x9
  refine b_if_ne (pc := 4) (tgt := 11) hx hb rfl  dX12_left_4 (by decide) (fun c_1 => ?_) (fun c_1 => ?_)
  ·
    as_aux_lemma =>
      refine lv_aload_n (pc := 11) hx hb dX12_left_11 rfl (lv_at hl 0 rfl) ?_
      refine gd_v (pc := 12) (wc := (zS_28 cB cC cI cJ a0 a1 x0 x1 x2 x3 x4 x5 x6 x7 a2 a3 a4 a5 a6 a7 a8 a9 a10 a11 a12 a13 a14 a15 a16 x8 x9 x10 x11 x12 x13 a17 a18 a19 x14 a20 x15 a21 x16 x17 a22 a23 a24 a25 x18 a26 x19 a27 a28 a29 y0 a30 a31 a32 a33 a34 a35 a36 a37 a38 x20 x21 x22 y1 a39 x23 a40 a41 a42 a43 x24 x25 x26 x27 a18 f0 a32 f1 a33 f2 a34 g0 a28 f3)) hP hD hS hA [0, 1, 2, 3, 4, 5] rfl (by decide +kernel) (fun _ => by rfl) (fun hPc hDc => va_runV (As := []) (rest := []) ⟨hx, hb, hml, hown, hts⟩ (k_X12_cancels l D cB cC cI cJ _ a0 a1 a2 a3 a4 a5 a6 a7 a8 a9 a10 a11 a12 a13 a14 a15 a16 a17 a18 a19 a20 a21 a22 a23 a24 a25 a26 a27 a28 a29 a30 a31 a32 a33 a34 a35 a36 a37 a38 a39 a40 a41 a42 a43 x0 x1 x2 x3 x4 x5 x6 x7 x8 x9 x10 x11 x12 x13 x14 x15 x16 x17 x18 x19 x20 x21 x22 x23 x24 x25 x26 x27 y0 y1 f0 f1 f2 f3 g0 h_x0 h_x1 h_x2 h_x3 h_x4 h_x5 h_x8 h_x9 h_x10 h_x11 h_x12 h_x14 h_x15 h_x16 h_x18 h_x19 h_x20 h_x21 h_x22 h_x23 h_x24 h_x25 h_x26 h_x27 hr_a0_0 hr_a0_1 hr_a0_2 hf_f0 hf_f1 hf_f3) ⟨gcwB hts tw_1892 tw_14 tw_1889 hd_yX12_cancels ⟨Nat.le_of_ble_eq_true rfl, Nat.le_of_ble_eq_true rfl⟩, hts _ tw_1891, hts _ tp_103⟩ ⟨gblind, va_recv hK hPc (ci := 12) (q0 := 0) rfl rfl, (gpreS hPc hK hDc hN).2⟩ rfl rfl hl.1 rfl (lv_room (Nat.le_of_ble_eq_true rfl)) dX12_left_12 ⟨Nat.le_of_ble_eq_true rfl, Nat.le_of_ble_eq_true rfl⟩) (fun u_2 H locs hw_4 hP hD hS => ?_)
      replace hP : va_P D gcl (zS_28 cB cC cI cJ a0 a1 x0 x1 x2 x3 x4 x5 x6 x7 a2 a3 a4 a5 a6 a7 a8 a9 a10 a11 a12 a13 a14 a15 a16 x8 x9 x10 x11 x12 x13 a17 a18 a19 x14 a20 x15 a21 x16 x17 a22 a23 a24 a25 x18 a26 x19 a27 a28 a29 y0 a30 a31 a32 a33 a34 a35 a36 a37 a38 x20 x21 x22 y1 a39 x23 a40 a41 a42 a43 x24 x25 x26 x27 a18 f0 a32 (u_2.2.1 0) a33 (u_2.2.1 1) a34 (u_2.2.2.1 0) a28 f3) H := hP
      replace hD : va_D A (zS_28 cB cC cI cJ a0 a1 x0 x1 x2 x3 x4 x5 x6 x7 a2 a3 a4 a5 a6 a7 a8 a9 a10 a11 a12 a13 a14 a15 a16 x8 x9 x10 x11 x12 x13 a17 a18 a19 x14 a20 x15 a21 x16 x17 a22 a23 a24 a25 x18 a26 x19 a27 a28 a29 y0 a30 a31 a32 a33 a34 a35 a36 a37 a38 x20 x21 x22 y1 a39 x23 a40 a41 a42 a43 x24 x25 x26 x27 a18 f0 a32 (u_2.2.1 0) a33 (u_2.2.1 1) a34 (u_2.2.2.1 0) a28 f3) := hD
      obtain ⟨hw_5, hw_6⟩ := hw_4
      replace hw_5 : (((0 ≤ x10.toInt ∧ x10.toInt ≤ 6) ∧ (0 ≤ x9.toInt ∧ x9.toInt ≤ 5))) := hw_5
      replace hw_6 : (∀ j, 0 ≤ ((u_2.2.1 0) j).toInt ∧ ((u_2.2.1 0) j).toInt ≤ 4) := hw_6
      refine lv_lconst (pc := 15) (v := 0) hx hb dX12_left_15 (by decide) ?_
      refine lv_lstore_n (pc := 16) (lv' := [(1, .long 0), (0, .ref a0)]) hx hb dX12_left_16 rfl hl (by decide) rfl (fun ls hl => ?_)
      refine lv_iconst (pc := 17) (v := 0) hx hb dX12_left_17 (by decide) ?_
      refine lv_istore_n (pc := 18) (lv' := [(3, .int 0), (1, .long 0), (0, .ref a0)]) hx hb dX12_left_18 rfl hl (by decide) rfl (fun ls hl => ?_)
      have lp_11 : ∀ (n : Nat) (x_7 : Int32) (y_9 : Int64) (H : Heap) (locs : List Loc) (ls : Array Slot), (0 ≤ x_7.toInt ∧ x_7.toInt ≤ 2147483647) → (2147483647 - x_7.toInt).toNat < n → va_P D gcl (zS_28 cB cC cI cJ a0 a1 x0 x1 x2 x3 x4 x5 x6 x7 a2 a3 a4 a5 a6 a7 a8 a9 a10 a11 a12 a13 a14 a15 a16 x8 x9 x10 x11 x12 x13 a17 a18 a19 x14 a20 x15 a21 x16 x17 a22 a23 a24 a25 x18 a26 x19 a27 a28 a29 y0 a30 a31 a32 a33 a34 a35 a36 a37 a38 x20 x21 x22 y1 a39 x23 a40 a41 a42 a43 x24 x25 x26 x27 a18 f0 a32 (u_2.2.1 0) a33 (u_2.2.1 1) a34 (u_2.2.2.1 0) a28 f3) H → va_D A (zS_28 cB cC cI cJ a0 a1 x0 x1 x2 x3 x4 x5 x6 x7 a2 a3 a4 a5 a6 a7 a8 a9 a10 a11 a12 a13 a14 a15 a16 x8 x9 x10 x11 x12 x13 a17 a18 a19 x14 a20 x15 a21 x16 x17 a22 a23 a24 a25 x18 a26 x19 a27 a28 a29 y0 a30 a31 a32 a33 a34 a35 a36 a37 a38 x20 x21 x22 y1 a39 x23 a40 a41 a42 a43 x24 x25 x26 x27 a18 f0 a32 (u_2.2.1 0) a33 (u_2.2.1 1) a34 (u_2.2.2.1 0) a28 f3) → va_S A s.heap H locs → lv_has ls 4 [(3, .int x_7), (1, .long y_9), (0, .ref a0)] → W p l e ({ frames := 3, cells := 0, slots := 0, locals := 74 }) s m args below meth c H locs 0 0 Q (F0 m 19 ls []) := by
        intro n
        induction n with
        | zero => intro x_7 y_9 H locs ls hi_8 hmu; exact absurd hmu (Nat.not_lt_zero _)
        | succ n ih_lp_11 =>
          intro x_7 y_9 H locs ls hi_8 hmu_lp_11 hP hD hS hl
          have hi_10 := n_rngL y_9
          refine lv_iload_n (pc := 19) hx hb dX12_left_19 rfl (lv_at hl 0 rfl) ?_
          refine lv_aload_n (pc := 20) hx hb dX12_left_20 rfl (lv_at hl 2 rfl) ?_
          refine va_get (pc := 21) (ci := 12) (v := .int x10) (C := RX12) (T := TX12) (N := 73) hx hb hts iX12 hown hK hP 0 rfl rfl 26 (by decide) (hts _ tw_1427) (fun _ h9 => h9) rfl dX12_left_21 ?_
          have bd_h_x10 : 0 ≤ x10.toInt ∧ x10.toInt ≤ 6 := h_x10
          refine b_icmp_ge (pc := 24) (tgt := 49) hx hb rfl rfl  dX12_left_24 (by decide) (fun c_12 => ?_) (fun c_12 => ?_)
          ·
            as_aux_lemma =>
              refine lv_lload_n (pc := 49) hx hb dX12_left_49 rfl (lv_at hl 1 rfl) ?_
              have hP9 : va_P D gcl (zS_28 cB cC cI cJ a0 a1 x0 x1 x2 x3 x4 x5 x6 x7 a2 a3 a4 a5 a6 a7 a8 a9 a10 a11 a12 a13 a14 a15 a16 x8 x9 x10 x11 x12 x13 a17 a18 a19 x14 a20 x15 a21 x16 x17 a22 a23 a24 a25 x18 a26 x19 a27 a28 a29 y0 a30 a31 a32 a33 a34 a35 a36 a37 a38 x20 x21 x22 y1 a39 x23 a40 a41 a42 a43 x24 x25 x26 x27 a18 f0 a32 (u_2.2.1 0) a33 (u_2.2.1 1) a34 (u_2.2.2.1 0) a28 f3) H := g_psub hP [0, 1, 2, 3, 4, 5] rfl
              have hD9 : va_D A (zS_28 cB cC cI cJ a0 a1 x0 x1 x2 x3 x4 x5 x6 x7 a2 a3 a4 a5 a6 a7 a8 a9 a10 a11 a12 a13 a14 a15 a16 x8 x9 x10 x11 x12 x13 a17 a18 a19 x14 a20 x15 a21 x16 x17 a22 a23 a24 a25 x18 a26 x19 a27 a28 a29 y0 a30 a31 a32 a33 a34 a35 a36 a37 a38 x20 x21 x22 y1 a39 x23 a40 a41 a42 a43 x24 x25 x26 x27 a18 f0 a32 (u_2.2.1 0) a33 (u_2.2.1 1) a34 (u_2.2.2.1 0) a28 f3) := hD.sub [0, 1, 2, 3, 4, 5] (by decide) rfl
              exact hret y_9 ((fun _ => 0), (fun k => [(u_2.2.1 0), (u_2.2.1 1)].getD k (fun _ => 0)), (fun k => [(u_2.2.2.1 0)].getD k (fun _ => 0)), (fun _ => 0), (fun _ => 0)) dX12_left_50 ⟨(show ((((-9223372036854775808) ≤ y_9.toInt ∧ y_9.toInt ≤ 9223372036854775807) ∧ ¬ x9.toInt = 0 ∧ (0 ≤ x10.toInt ∧ x10.toInt ≤ 6)) ∨ (y_9.toInt = (-1) ∧ x9.toInt = 0)) from (by first | exact (om_1662 hi_10.1 hi_10.2 c_1 hw_5.1.1 hw_5.1.2) | ((first | omega | (unfold zBd at *; omega))))), hw_6⟩ hP9 hD9 hS
          ·
            as_aux_lemma =>
              refine lv_lload_n (pc := 27) hx hb dX12_left_27 rfl (lv_at hl 1 rfl) ?_
              refine lv_aload_n (pc := 28) hx hb dX12_left_28 rfl (lv_at hl 2 rfl) ?_
              refine va_get (pc := 29) (ci := 12) (v := .ref a34) (C := RX12) (T := TX12) (N := 73) hx hb hts iX12 hown hK hP 0 rfl rfl 54 (by decide) (hts _ tw_1455) (fun _ h9 => h9) rfl dX12_left_29 ?_
              refine lv_iload_n (pc := 32) hx hb dX12_left_32 rfl (lv_at hl 0 rfl) ?_
              refine va_lald (pc := 33) hx hb hK hP 4 3 rfl rfl (n_in rfl (by first | exact (om_0 hi_8.1) | ((first | omega | (unfold zBd at *; omega)))) (by first | exact (om_1082 c_12 hw_5.1.2) | ((first | omega | (unfold zBd at *; omega))))) dX12_left_33 ?_
              refine lv_topl (fun y_13 ey_13 => ?_)
              have ry_13 := n_rngL y_13
              refine lv_aload_n (pc := 34) hx hb dX12_left_34 rfl (lv_at hl 2 rfl) ?_
              refine va_get (pc := 35) (ci := 12) (v := .ref a34) (C := RX12) (T := TX12) (N := 73) hx hb hts iX12 hown hK hP 0 rfl rfl 54 (by decide) (hts _ tw_1455) (fun _ h9 => h9) rfl dX12_left_35 ?_
              refine lv_iload_n (pc := 38) hx hb dX12_left_38 rfl (lv_at hl 0 rfl) ?_
              refine va_lald (pc := 39) hx hb hK hP 4 3 rfl rfl (n_in rfl (by first | exact (om_0 hi_8.1) | ((first | omega | (unfold zBd at *; omega)))) (by first | exact (om_1082 c_12 hw_5.1.2) | ((first | omega | (unfold zBd at *; omega))))) dX12_left_39 ?_
              as_aux_lemma =>
                refine gL (y := y_13) ey_13.symm ?_
                refine lv_lmul (pc := 40) hx hb dX12_left_40 ?_
                refine lv_topl (fun y_14 _ => ?_)
                have ry_14 := n_rngL y_14
                refine lv_ladd (pc := 41) hx hb dX12_left_41 ?_
                refine lv_topl (fun y_15 _ => ?_)
                have ry_15 := n_rngL y_15
                refine lv_lstore_n (pc := 42) (lv' := [(1, .long y_15), (3, .int x_7), (0, .ref a0)]) hx hb dX12_left_42 rfl hl (by decide) rfl (fun ls hl => ?_)
                refine b_iinc (pc := 43) hx hb dX12_left_43 hl (k := 1) rfl rfl tI_1 (by first | exact (om_2 hi_8.1) | ((first | omega | (unfold zBd at *; omega)))) (by first | exact (om_1084 c_12 hw_5.1.2) | ((first | omega | (unfold zBd at *; omega)))) (by decide) (fun x_16 ex_16 ls hl => ?_)
                replace hl : lv_has ls 4 [(3, .int x_16), (1, .long y_15), (0, .ref a0)] := hl
                refine lv_goto (pc := 46) (tgt := 19) hx hb dX12_left_46 (by decide) ?_
                exact ih_lp_11 x_16 y_15 _ _ ls (by first | exact (om_1085 ex_16 hi_8.1 c_12 hw_5.1.2) | ((first | omega | (unfold zBd at *; omega)))) (by (first | omega | (unfold zBd at *; omega))) hP hD hS (lv_sub hl [0, 1, 2] rfl)
      exact lp_11 _ 0 0 _ _ ls (n_c tI_0 (by decide)) (Nat.lt_succ_self _) hP hD hS (lv_sub hl [0, 1, 2] rfl)
  ·
    as_aux_lemma =>
      refine lv_ldc2 (pc := 7) hx hb hown (hts _ tw_1838) dX12_left_7 ?_
      have hP9 : va_P D gcl (zS_28 cB cC cI cJ a0 a1 x0 x1 x2 x3 x4 x5 x6 x7 a2 a3 a4 a5 a6 a7 a8 a9 a10 a11 a12 a13 a14 a15 a16 x8 x9 x10 x11 x12 x13 a17 a18 a19 x14 a20 x15 a21 x16 x17 a22 a23 a24 a25 x18 a26 x19 a27 a28 a29 y0 a30 a31 a32 a33 a34 a35 a36 a37 a38 x20 x21 x22 y1 a39 x23 a40 a41 a42 a43 x24 x25 x26 x27 a18 f0 a32 f1 a33 f2 a34 g0 a28 f3) s.heap := g_psub hP [0, 1, 2, 3, 4, 5] rfl
      have hD9 : va_D A (zS_28 cB cC cI cJ a0 a1 x0 x1 x2 x3 x4 x5 x6 x7 a2 a3 a4 a5 a6 a7 a8 a9 a10 a11 a12 a13 a14 a15 a16 x8 x9 x10 x11 x12 x13 a17 a18 a19 x14 a20 x15 a21 x16 x17 a22 a23 a24 a25 x18 a26 x19 a27 a28 a29 y0 a30 a31 a32 a33 a34 a35 a36 a37 a38 x20 x21 x22 y1 a39 x23 a40 a41 a42 a43 x24 x25 x26 x27 a18 f0 a32 f1 a33 f2 a34 g0 a28 f3) := hD.sub [0, 1, 2, 3, 4, 5] (by decide) rfl
      exact hret (-1) ((fun _ => 0), (fun k => [f1, f2].getD k (fun _ => 0)), (fun k => [g0].getD k (fun _ => 0)), (fun _ => 0), (fun _ => 0)) dX12_left_10 ⟨(show ((((-9223372036854775808) ≤ ((-1) : Int64).toInt ∧ ((-1) : Int64).toInt ≤ 9223372036854775807) ∧ ¬ x9.toInt = 0 ∧ (0 ≤ x10.toInt ∧ x10.toInt ≤ 6)) ∨ (((-1) : Int64).toInt = (-1) ∧ x9.toInt = 0)) from (by first | exact (om_1663 tL_m1 c_1) | (have k9 := tL_m1; (first | omega | (unfold zBd at *; omega))))), hf_f1⟩ hP9 hD9 hS
set_option maxHeartbeats 4000000 in
set_option maxRecDepth 100000 in
theorem k_X12_least (l : Launch) (D : va_G) (cB cC cI cJ : ClassId) (sz : Nat) (a0 a1 a2 a3 a4 a5 a6 a7 a8 a9 a10 a11 a12 a13 a14 a15 a16 a17 a18 a19 a20 a21 a22 a23 a24 a25 a26 a27 a28 a29 a30 a31 a32 a33 a34 a35 a36 a37 a38 a39 a40 a41 a42 a43 : Nat) (x0 x1 x2 x3 x4 x5 x6 x7 x8 x9 x10 x11 x12 x13 x14 x15 x16 x17 x18 x19 x20 x21 x22 x23 x24 x25 x26 x27 x28 x29 : Int32) (y0 y1 : Int64) (f0 f1 f2 : Nat → Int32) (h_x2 : zBd x2.toInt 0 1600) (h_x3 : zBd x3.toInt 0 1600) (h_x4 : zBd x4.toInt 0 1600) (h_x5 : zBd x5.toInt (-1) 1600) (h_x6 : zBd x6.toInt 0 4) (h_x7 : zBd x7.toInt (-1) 1600) (h_x10 : zBd x10.toInt 0 8) (h_x11 : zBd x11.toInt 0 5) (h_x12 : zBd x12.toInt 0 6) (h_x13 : zBd x13.toInt 0 6) (h_x14 : zBd x14.toInt 0 16) (h_x16 : zBd x16.toInt 0 60) (h_x17 : zBd x17.toInt 0 1600) (h_x18 : zBd x18.toInt 0 1700) (h_x20 : zBd x20.toInt 0 1700) (h_x21 : zBd x21.toInt 0 1700) (h_x22 : zBd x22.toInt 0 200) (h_x23 : zBd x23.toInt 0 40) (h_x24 : zBd x24.toInt 0 40) (h_x25 : zBd x25.toInt 0 1) (h_x26 : zBd x26.toInt 0 14) (h_x27 : zBd x27.toInt 0 200) (h_x28 : zBd x28.toInt 0 40) (h_x29 : zBd x29.toInt 0 40) (hr_a0_0 : (x23.toInt ≤ x22.toInt)) (hr_a0_1 : (x22.toInt + x24.toInt ≤ 200)) (hr_a0_2 : (x11.toInt = 0 ∨ 2 ≤ x10.toInt)) (hf_f1 : (∀ j, (-9999) ≤ (f1 j).toInt ∧ (f1 j).toInt ≤ 9999)) (hf_f2 : (∀ j, (-1100000) ≤ (f2 j).toInt ∧ (f2 j).toInt ≤ 1100000)) : Met l yX12_least (.code yX12_least cX12_least 8 (some .long) :: lw_gd) ({ frames := 3, cells := 0, slots := 0, locals := 70 }) (gPre D [(cB, .byte), (cC, .char), (cI, .int), (cJ, .long)] [.ref a0, .int x0, .int x1] (zS_12 cB cC cI cJ a0 a1 x2 x3 x4 x5 x6 x7 x8 x9 a2 a3 a4 a5 a6 a7 a8 a9 a10 a11 a12 a13 a14 a15 a16 x10 x11 x12 x13 x14 x15 a17 a18 a19 x16 a20 x17 a21 x18 x19 a22 a23 a24 a25 x20 a26 x21 a27 a28 a29 y0 a30 a31 a32 a33 a34 a35 a36 a37 a38 x22 x23 x24 y1 a39 x25 a40 a41 a42 a43 x26 x27 x28 x29 a29 f0 a18 f1 a28 f2) sz) (va_Ql (fun r u => ((r.toInt = (-1)) ∨ (((-9223372036854775808) ≤ r.toInt ∧ r.toInt ≤ 9223372036854775807)))) (gB D (va_A (zS_12 cB cC cI cJ a0 a1 x2 x3 x4 x5 x6 x7 x8 x9 a2 a3 a4 a5 a6 a7 a8 a9 a10 a11 a12 a13 a14 a15 a16 x10 x11 x12 x13 x14 x15 a17 a18 a19 x16 a20 x17 a21 x18 x19 a22 a23 a24 a25 x20 a26 x21 a27 a28 a29 y0 a30 a31 a32 a33 a34 a35 a36 a37 a38 x22 x23 x24 y1 a39 x25 a40 a41 a42 a43 x26 x27 x28 x29 a29 f0 a18 f1 a28 f2) sz) (fun u : gEx => (zS_12 cB cC cI cJ a0 a1 x2 x3 x4 x5 x6 x7 x8 x9 a2 a3 a4 a5 a6 a7 a8 a9 a10 a11 a12 a13 a14 a15 a16 x10 x11 x12 x13 x14 x15 a17 a18 a19 x16 a20 x17 a21 x18 x19 a22 a23 a24 a25 x20 a26 x21 a27 a28 a29 y0 a30 a31 a32 a33 a34 a35 a36 a37 a38 x22 x23 x24 y1 a39 x25 a40 a41 a42 a43 x26 x27 x28 x29 a29 (u.2.1 0) a18 f1 a28 f2))) (va_A (zS_12 cB cC cI cJ a0 a1 x2 x3 x4 x5 x6 x7 x8 x9 a2 a3 a4 a5 a6 a7 a8 a9 a10 a11 a12 a13 a14 a15 a16 x10 x11 x12 x13 x14 x15 a17 a18 a19 x16 a20 x17 a21 x18 x19 a22 a23 a24 a25 x20 a26 x21 a27 a28 a29 y0 a30 a31 a32 a33 a34 a35 a36 a37 a38 x22 x23 x24 y1 a39 x25 a40 a41 a42 a43 x26 x27 x28 x29 a29 f0 a18 f1 a28 f2) sz)) 0 0 (va_A (zS_12 cB cC cI cJ a0 a1 x2 x3 x4 x5 x6 x7 x8 x9 a2 a3 a4 a5 a6 a7 a8 a9 a10 a11 a12 a13 a14 a15 a16 x10 x11 x12 x13 x14 x15 a17 a18 a19 x16 a20 x17 a21 x18 x19 a22 a23 a24 a25 x20 a26 x21 a27 a28 a29 y0 a30 a31 a32 a33 a34 a35 a36 a37 a38 x22 x23 x24 y1 a39 x25 a40 a41 a42 a43 x26 x27 x28 x29 a29 f0 a18 f1 a28 f2) sz) := by
  refine gOf_l (by decide +kernel) (Nat.le_of_ble_eq_true rfl) ?_
  intro p e s m args below meth c ls A Q hx hb hts hown hml hN hK hP hD hA hl hret
  replace hown : s.vm.findClass RX12 = some m.cls := hown
  have hS : va_S A s.heap s.heap [] := va_S.rf
  replace hP : va_P D gcl (zS_12 cB cC cI cJ a0 a1 x2 x3 x4 x5 x6 x7 x8 x9 a2 a3 a4 a5 a6 a7 a8 a9 a10 a11 a12 a13 a14 a15 a16 x10 x11 x12 x13 x14 x15 a17 a18 a19 x16 a20 x17 a21 x18 x19 a22 a23 a24 a25 x20 a26 x21 a27 a28 a29 y0 a30 a31 a32 a33 a34 a35 a36 a37 a38 x22 x23 x24 y1 a39 x25 a40 a41 a42 a43 x26 x27 x28 x29 a29 f0 a18 f1 a28 f2) s.heap := hP
  replace hl : lv_has ls 8 [(0, .ref a0), (1, .int x0), (2, .int x1)] := hl
  have rx0 : zBd x0.toInt (-2147483648) 2147483647 := n_rng x0
  have rx1 : zBd x1.toInt (-2147483648) 2147483647 := n_rng x1
  have rx8 : zBd x8.toInt (-2147483648) 2147483647 := n_rng x8
  have rx9 : zBd x9.toInt (-2147483648) 2147483647 := n_rng x9
  have rx15 : zBd x15.toInt (-2147483648) 2147483647 := n_rng x15
  have rx19 : zBd x19.toInt (-2147483648) 2147483647 := n_rng x19
  have ry0 := n_rngL y0
  have ry1 := n_rngL y1
  refine lv_aload_n (pc := 0) hx hb dX12_least_0 rfl (lv_at hl 0 rfl) ?_
  refine lv_iload_n (pc := 1) hx hb dX12_least_1 rfl (lv_at hl 1 rfl) ?_
  refine gd_i (pc := 2) (wc := (zS_4 cB cC cI cJ a0 a1 x2 x3 x4 x5 x6 x7 x8 x9 a2 a3 a4 a5 a6 a7 a8 a9 a10 a11 a12 a13 a14 a15 a16 x10 x11 x12 x13 x14 x15 a17 a18 a19 x16 a20 x17 a21 x18 x19 a22 a23 a24 a25 x20 a26 x21 a27 a28 a29 y0 a30 a31 a32 a33 a34 a35 a36 a37 a38 x22 x23 x24 y1 a39 x25 a40 a41 a42 a43 x26 x27 x28 x29)) hP hD hS hA [0] rfl (by decide +kernel) (fun _ => by rfl) (fun hPc hDc => va_runV (As := [.int x0]) (rest := []) ⟨hx, hb, hml, hown, hts⟩ (k_X12_isSender l D cB cC cI cJ _ a0 a1 a2 a3 a4 a5 a6 a7 a8 a9 a10 a11 a12 a13 a14 a15 a16 a17 a18 a19 a20 a21 a22 a23 a24 a25 a26 a27 a28 a29 a30 a31 a32 a33 a34 a35 a36 a37 a38 a39 a40 a41 a42 a43 x0 x2 x3 x4 x5 x6 x7 x8 x9 x10 x11 x12 x13 x14 x15 x16 x17 x18 x19 x20 x21 x22 x23 x24 x25 x26 x27 x28 x29 y0 y1 h_x2 h_x3 h_x4 h_x5 h_x6 h_x7 h_x10 h_x11 h_x12 h_x13 h_x14 h_x16 h_x17 h_x18 h_x20 h_x21 h_x22 h_x23 h_x24 h_x25 h_x26 h_x27 h_x28 h_x29 hr_a0_0 hr_a0_1 hr_a0_2) ⟨gcwB hts tw_1782 tw_14 tw_1779 hd_yX12_isSender ⟨Nat.le_of_ble_eq_true rfl, Nat.le_of_ble_eq_true rfl⟩, hts _ tw_1781, hts _ tp_90⟩ ⟨gblind, va_recv hK hPc (ci := 12) (q0 := 0) rfl rfl, (gpreS hPc hK hDc hN).2⟩ rfl rfl hl.1 rfl (lv_room (Nat.le_of_ble_eq_true rfl)) dX12_least_2 ⟨Nat.le_of_ble_eq_true rfl, Nat.le_of_ble_eq_true rfl⟩) (fun r_2 u_1 H locs hw_3 hP hD hS => ?_)
  replace hP : va_P D gcl (zS_12 cB cC cI cJ a0 a1 x2 x3 x4 x5 x6 x7 x8 x9 a2 a3 a4 a5 a6 a7 a8 a9 a10 a11 a12 a13 a14 a15 a16 x10 x11 x12 x13 x14 x15 a17 a18 a19 x16 a20 x17 a21 x18 x19 a22 a23 a24 a25 x20 a26 x21 a27 a28 a29 y0 a30 a31 a32 a33 a34 a35 a36 a37 a38 x22 x23 x24 y1 a39 x25 a40 a41 a42 a43 x26 x27 x28 x29 a29 f0 a18 f1 a28 f2) H := hP
  replace hD : va_D A (zS_12 cB cC cI cJ a0 a1 x2 x3 x4 x5 x6 x7 x8 x9 a2 a3 a4 a5 a6 a7 a8 a9 a10 a11 a12 a13 a14 a15 a16 x10 x11 x12 x13 x14 x15 a17 a18 a19 x16 a20 x17 a21 x18 x19 a22 a23 a24 a25 x20 a26 x21 a27 a28 a29 y0 a30 a31 a32 a33 a34 a35 a36 a37 a38 x22 x23 x24 y1 a39 x25 a40 a41 a42 a43 x26 x27 x28 x29 a29 f0 a18 f1 a28 f2) := hD
  obtain ⟨hw_4, hw_5, hw_6⟩ := hw_3
  replace hw_4 : (0 ≤ r_2.toInt ∧ r_2.toInt ≤ 1) := hw_4
  replace hw_5 : (-x0.toInt ≤ 4294967296 - 4294967296 * r_2.toInt ∧ x0.toInt ≤ x11.toInt - 1 + 4294967296 - 4294967296 * r_2.toInt) := hw_5
  replace hw_6 : (inQ r_2.toInt x0.toInt x11.toInt) := hw_6
  have rr_2 : zBd r_2.toInt (-2147483648) 2147483647 := n_rng r_2
  refine b_if_eq (pc := 5) (tgt := 16) hx hb rfl  dX12_least_5 (by decide) (fun c_7 => ?_) (fun c_7 => ?_)
  ·
    as_aux_lemma =>
      refine lv_ldc2 (pc := 16) hx hb hown (hts _ tw_1838) dX12_least_16 ?_
      have hP9 : va_P D gcl (zS_12 cB cC cI cJ a0 a1 x2 x3 x4 x5 x6 x7 x8 x9 a2 a3 a4 a5 a6 a7 a8 a9 a10 a11 a12 a13 a14 a15 a16 x10 x11 x12 x13 x14 x15 a17 a18 a19 x16 a20 x17 a21 x18 x19 a22 a23 a24 a25 x20 a26 x21 a27 a28 a29 y0 a30 a31 a32 a33 a34 a35 a36 a37 a38 x22 x23 x24 y1 a39 x25 a40 a41 a42 a43 x26 x27 x28 x29 a29 f0 a18 f1 a28 f2) H := g_psub hP [0, 1, 2, 3] rfl
      have hD9 : va_D A (zS_12 cB cC cI cJ a0 a1 x2 x3 x4 x5 x6 x7 x8 x9 a2 a3 a4 a5 a6 a7 a8 a9 a10 a11 a12 a13 a14 a15 a16 x10 x11 x12 x13 x14 x15 a17 a18 a19 x16 a20 x17 a21 x18 x19 a22 a23 a24 a25 x20 a26 x21 a27 a28 a29 y0 a30 a31 a32 a33 a34 a35 a36 a37 a38 x22 x23 x24 y1 a39 x25 a40 a41 a42 a43 x26 x27 x28 x29 a29 f0 a18 f1 a28 f2) := hD.sub [0, 1, 2, 3] (by decide) rfl
      exact hret (-1) ((fun _ => 0), (fun k => [f0].getD k (fun _ => 0)), (fun _ => (fun _ => 0)), (fun _ => 0), (fun _ => 0)) dX12_least_19 (show ((((-1) : Int64).toInt = (-1)) ∨ (((-9223372036854775808) ≤ ((-1) : Int64).toInt ∧ ((-1) : Int64).toInt ≤ 9223372036854775807))) from (by first | exact (om_1351 tL_m1) | (have k9 := tL_m1; (first | omega | (unfold zBd at *; omega))))) hP9 hD9 hS
  ·
    as_aux_lemma =>
      refine lv_aload_n (pc := 8) hx hb dX12_least_8 rfl (lv_at hl 0 rfl) ?_
      refine lv_iload_n (pc := 9) hx hb dX12_least_9 rfl (lv_at hl 2 rfl) ?_
      refine gd_i (pc := 10) (wc := (zS_4 cB cC cI cJ a0 a1 x2 x3 x4 x5 x6 x7 x8 x9 a2 a3 a4 a5 a6 a7 a8 a9 a10 a11 a12 a13 a14 a15 a16 x10 x11 x12 x13 x14 x15 a17 a18 a19 x16 a20 x17 a21 x18 x19 a22 a23 a24 a25 x20 a26 x21 a27 a28 a29 y0 a30 a31 a32 a33 a34 a35 a36 a37 a38 x22 x23 x24 y1 a39 x25 a40 a41 a42 a43 x26 x27 x28 x29)) hP hD hS hA [0] rfl (by decide +kernel) (fun _ => by rfl) (fun hPc hDc => va_runV (As := [.int x1]) (rest := []) ⟨hx, hb, hml, hown, hts⟩ (k_X12_isLetterOf l D cB cC cI cJ _ a0 a1 a2 a3 a4 a5 a6 a7 a8 a9 a10 a11 a12 a13 a14 a15 a16 a17 a18 a19 a20 a21 a22 a23 a24 a25 a26 a27 a28 a29 a30 a31 a32 a33 a34 a35 a36 a37 a38 a39 a40 a41 a42 a43 x1 x2 x3 x4 x5 x6 x7 x8 x9 x10 x11 x12 x13 x14 x15 x16 x17 x18 x19 x20 x21 x22 x23 x24 x25 x26 x27 x28 x29 y0 y1 h_x2 h_x3 h_x4 h_x5 h_x6 h_x7 h_x10 h_x11 h_x12 h_x13 h_x14 h_x16 h_x17 h_x18 h_x20 h_x21 h_x22 h_x23 h_x24 h_x25 h_x26 h_x27 h_x28 h_x29 hr_a0_0 hr_a0_1 hr_a0_2) ⟨gcwB hts tw_1825 tw_14 tw_1822 hd_yX12_isLetterOf ⟨Nat.le_of_ble_eq_true rfl, Nat.le_of_ble_eq_true rfl⟩, hts _ tw_1824, hts _ tp_94⟩ ⟨gblind, va_recv hK hPc (ci := 12) (q0 := 0) rfl rfl, (gpreS hPc hK hDc hN).2⟩ rfl rfl hl.1 rfl (lv_room (Nat.le_of_ble_eq_true rfl)) dX12_least_10 ⟨Nat.le_of_ble_eq_true rfl, Nat.le_of_ble_eq_true rfl⟩) (fun r_9 u_8 H locs hw_10 hP hD hS => ?_)
      replace hP : va_P D gcl (zS_12 cB cC cI cJ a0 a1 x2 x3 x4 x5 x6 x7 x8 x9 a2 a3 a4 a5 a6 a7 a8 a9 a10 a11 a12 a13 a14 a15 a16 x10 x11 x12 x13 x14 x15 a17 a18 a19 x16 a20 x17 a21 x18 x19 a22 a23 a24 a25 x20 a26 x21 a27 a28 a29 y0 a30 a31 a32 a33 a34 a35 a36 a37 a38 x22 x23 x24 y1 a39 x25 a40 a41 a42 a43 x26 x27 x28 x29 a29 f0 a18 f1 a28 f2) H := hP
      replace hD : va_D A (zS_12 cB cC cI cJ a0 a1 x2 x3 x4 x5 x6 x7 x8 x9 a2 a3 a4 a5 a6 a7 a8 a9 a10 a11 a12 a13 a14 a15 a16 x10 x11 x12 x13 x14 x15 a17 a18 a19 x16 a20 x17 a21 x18 x19 a22 a23 a24 a25 x20 a26 x21 a27 a28 a29 y0 a30 a31 a32 a33 a34 a35 a36 a37 a38 x22 x23 x24 y1 a39 x25 a40 a41 a42 a43 x26 x27 x28 x29 a29 f0 a18 f1 a28 f2) := hD
      obtain ⟨hw_11, hw_12, hw_13⟩ := hw_10
      replace hw_11 : (0 ≤ r_9.toInt ∧ r_9.toInt ≤ 1) := hw_11
      replace hw_12 : (r_9.toInt = 0 ∨ (-7 ≤ x1.toInt ∧ x1.toInt ≤ 7)) := hw_12
      replace hw_13 : ((r_9.toInt = 1 ∧ okL x10.toInt x1.toInt) ∨ (r_9.toInt = 0 ∧ ¬ okL x10.toInt x1.toInt)) := hw_13
      have rr_9 : zBd r_9.toInt (-2147483648) 2147483647 := n_rng r_9
      refine b_if_ne (pc := 13) (tgt := 20) hx hb rfl  dX12_least_13 (by decide) (fun c_14 => ?_) (fun c_14 => ?_)
      ·
        as_aux_lemma =>
          refine lv_ldc2 (pc := 20) hx hb hown (hts _ tw_1838) dX12_least_20 ?_
          refine lv_lstore_n (pc := 23) (lv' := [(3, .long (-1)), (0, .ref a0), (1, .int x0), (2, .int x1)]) hx hb dX12_least_23 rfl hl (by decide) rfl (fun ls hl => ?_)
          refine lv_iconst (pc := 24) (v := 0) hx hb dX12_least_24 (by decide) ?_
          refine lv_istore (pc := 25) (lv' := [(5, .int 0), (3, .long (-1)), (0, .ref a0), (1, .int x0), (2, .int x1)]) hx hb dX12_least_25 hl (by decide) rfl (fun ls hl => ?_)
          have lp_20 : ∀ (n : Nat) (x_15 : Int32) (y_17 : Int64) (f_19 : Nat → Int32) (H : Heap) (locs : List Loc) (ls : Array Slot), (0 ≤ x_15.toInt ∧ x_15.toInt ≤ 2147483647) → (2147483647 - x_15.toInt).toNat < n → va_P D gcl (zS_12 cB cC cI cJ a0 a1 x2 x3 x4 x5 x6 x7 x8 x9 a2 a3 a4 a5 a6 a7 a8 a9 a10 a11 a12 a13 a14 a15 a16 x10 x11 x12 x13 x14 x15 a17 a18 a19 x16 a20 x17 a21 x18 x19 a22 a23 a24 a25 x20 a26 x21 a27 a28 a29 y0 a30 a31 a32 a33 a34 a35 a36 a37 a38 x22 x23 x24 y1 a39 x25 a40 a41 a42 a43 x26 x27 x28 x29 a29 f_19 a18 f1 a28 f2) H → va_D A (zS_12 cB cC cI cJ a0 a1 x2 x3 x4 x5 x6 x7 x8 x9 a2 a3 a4 a5 a6 a7 a8 a9 a10 a11 a12 a13 a14 a15 a16 x10 x11 x12 x13 x14 x15 a17 a18 a19 x16 a20 x17 a21 x18 x19 a22 a23 a24 a25 x20 a26 x21 a27 a28 a29 y0 a30 a31 a32 a33 a34 a35 a36 a37 a38 x22 x23 x24 y1 a39 x25 a40 a41 a42 a43 x26 x27 x28 x29 a29 f_19 a18 f1 a28 f2) → va_S A s.heap H locs → lv_has ls 8 [(5, .int x_15), (3, .long y_17), (0, .ref a0), (1, .int x0), (2, .int x1)] → W p l e ({ frames := 3, cells := 0, slots := 0, locals := 70 }) s m args below meth c H locs 0 0 Q (F0 m 27 ls []) := by
            intro n
            induction n with
            | zero => intro x_15 y_17 f_19 H locs ls hi_16 hmu; exact absurd hmu (Nat.not_lt_zero _)
            | succ n ih_lp_20 =>
              intro x_15 y_17 f_19 H locs ls hi_16 hmu_lp_20 hP hD hS hl
              have hi_18 := n_rngL y_17
              refine lv_iload (pc := 27) hx hb dX12_least_27 (lv_at hl 0 rfl) ?_
              refine lv_aload_n (pc := 29) hx hb dX12_least_29 rfl (lv_at hl 2 rfl) ?_
              refine gd_i (pc := 30) (wc := (zS_4 cB cC cI cJ a0 a1 x2 x3 x4 x5 x6 x7 x8 x9 a2 a3 a4 a5 a6 a7 a8 a9 a10 a11 a12 a13 a14 a15 a16 x10 x11 x12 x13 x14 x15 a17 a18 a19 x16 a20 x17 a21 x18 x19 a22 a23 a24 a25 x20 a26 x21 a27 a28 a29 y0 a30 a31 a32 a33 a34 a35 a36 a37 a38 x22 x23 x24 y1 a39 x25 a40 a41 a42 a43 x26 x27 x28 x29)) hP hD hS hA [0] rfl (by decide +kernel) (fun _ => by rfl) (fun hPc hDc => va_runV (As := []) (rest := [.int x_15]) ⟨hx, hb, hml, hown, hts⟩ (k_X12_rowMany l D cB cC cI cJ _ a0 a1 a2 a3 a4 a5 a6 a7 a8 a9 a10 a11 a12 a13 a14 a15 a16 a17 a18 a19 a20 a21 a22 a23 a24 a25 a26 a27 a28 a29 a30 a31 a32 a33 a34 a35 a36 a37 a38 a39 a40 a41 a42 a43 x2 x3 x4 x5 x6 x7 x8 x9 x10 x11 x12 x13 x14 x15 x16 x17 x18 x19 x20 x21 x22 x23 x24 x25 x26 x27 x28 x29 y0 y1 h_x2 h_x3 h_x4 h_x5 h_x6 h_x7 h_x10 h_x11 h_x12 h_x13 h_x14 h_x16 h_x17 h_x18 h_x20 h_x21 h_x22 h_x23 h_x24 h_x25 h_x26 h_x27 h_x28 h_x29 hr_a0_0 hr_a0_1 hr_a0_2) ⟨gcwB hts tw_1868 tw_14 tw_1865 hd_yX12_rowMany ⟨Nat.le_of_ble_eq_true rfl, Nat.le_of_ble_eq_true rfl⟩, hts _ tw_1867, hts _ tp_100⟩ ⟨gblind, va_recv hK hPc (ci := 12) (q0 := 0) rfl rfl, (gpreS hPc hK hDc hN).2⟩ rfl rfl hl.1 rfl (lv_room (Nat.le_of_ble_eq_true rfl)) dX12_least_30 ⟨Nat.le_of_ble_eq_true rfl, Nat.le_of_ble_eq_true rfl⟩) (fun r_22 u_21 H locs hw_23 hP hD hS => ?_)
              replace hP : va_P D gcl (zS_12 cB cC cI cJ a0 a1 x2 x3 x4 x5 x6 x7 x8 x9 a2 a3 a4 a5 a6 a7 a8 a9 a10 a11 a12 a13 a14 a15 a16 x10 x11 x12 x13 x14 x15 a17 a18 a19 x16 a20 x17 a21 x18 x19 a22 a23 a24 a25 x20 a26 x21 a27 a28 a29 y0 a30 a31 a32 a33 a34 a35 a36 a37 a38 x22 x23 x24 y1 a39 x25 a40 a41 a42 a43 x26 x27 x28 x29 a29 f_19 a18 f1 a28 f2) H := hP
              replace hD : va_D A (zS_12 cB cC cI cJ a0 a1 x2 x3 x4 x5 x6 x7 x8 x9 a2 a3 a4 a5 a6 a7 a8 a9 a10 a11 a12 a13 a14 a15 a16 x10 x11 x12 x13 x14 x15 a17 a18 a19 x16 a20 x17 a21 x18 x19 a22 a23 a24 a25 x20 a26 x21 a27 a28 a29 y0 a30 a31 a32 a33 a34 a35 a36 a37 a38 x22 x23 x24 y1 a39 x25 a40 a41 a42 a43 x26 x27 x28 x29 a29 f_19 a18 f1 a28 f2) := hD
              have hw_24 : ((((-2147483648) ≤ r_22.toInt ∧ r_22.toInt ≤ 2147483647) ∧ ¬ x11.toInt = 0 ∧ (1 ≤ x11.toInt ∧ x11.toInt ≤ 5)) ∨ (r_22.toInt = 0 ∧ x11.toInt = 0)) := hw_23
              have rr_22 : zBd r_22.toInt (-2147483648) 2147483647 := n_rng r_22
              refine b_icmp_ge (pc := 33) (tgt := 76) hx hb rfl rfl  dX12_least_33 (by decide) (fun c_25 => ?_) (fun c_25 => ?_)
              ·
                as_aux_lemma =>
                  refine lv_lload_n (pc := 76) hx hb dX12_least_76 rfl (lv_at hl 1 rfl) ?_
                  have hP9 : va_P D gcl (zS_12 cB cC cI cJ a0 a1 x2 x3 x4 x5 x6 x7 x8 x9 a2 a3 a4 a5 a6 a7 a8 a9 a10 a11 a12 a13 a14 a15 a16 x10 x11 x12 x13 x14 x15 a17 a18 a19 x16 a20 x17 a21 x18 x19 a22 a23 a24 a25 x20 a26 x21 a27 a28 a29 y0 a30 a31 a32 a33 a34 a35 a36 a37 a38 x22 x23 x24 y1 a39 x25 a40 a41 a42 a43 x26 x27 x28 x29 a29 f_19 a18 f1 a28 f2) H := g_psub hP [0, 1, 2, 3] rfl
                  have hD9 : va_D A (zS_12 cB cC cI cJ a0 a1 x2 x3 x4 x5 x6 x7 x8 x9 a2 a3 a4 a5 a6 a7 a8 a9 a10 a11 a12 a13 a14 a15 a16 x10 x11 x12 x13 x14 x15 a17 a18 a19 x16 a20 x17 a21 x18 x19 a22 a23 a24 a25 x20 a26 x21 a27 a28 a29 y0 a30 a31 a32 a33 a34 a35 a36 a37 a38 x22 x23 x24 y1 a39 x25 a40 a41 a42 a43 x26 x27 x28 x29 a29 f_19 a18 f1 a28 f2) := hD.sub [0, 1, 2, 3] (by decide) rfl
                  exact hret y_17 ((fun _ => 0), (fun k => [f_19].getD k (fun _ => 0)), (fun _ => (fun _ => 0)), (fun _ => 0), (fun _ => 0)) dX12_least_77 (show ((y_17.toInt = (-1)) ∨ (((-9223372036854775808) ≤ y_17.toInt ∧ y_17.toInt ≤ 9223372036854775807))) from (by first | exact (om_1352 hi_18.1 hi_18.2) | ((first | omega | (unfold zBd at *; omega))))) hP9 hD9 hS
              ·
                as_aux_lemma =>
                  refine lv_aload_n (pc := 36) hx hb dX12_least_36 rfl (lv_at hl 2 rfl) ?_
                  refine lv_iload (pc := 37) hx hb dX12_least_37 (lv_at hl 0 rfl) ?_
                  refine gd_l (pc := 39) (wc := (zS_12 cB cC cI cJ a0 a1 x2 x3 x4 x5 x6 x7 x8 x9 a2 a3 a4 a5 a6 a7 a8 a9 a10 a11 a12 a13 a14 a15 a16 x10 x11 x12 x13 x14 x15 a17 a18 a19 x16 a20 x17 a21 x18 x19 a22 a23 a24 a25 x20 a26 x21 a27 a28 a29 y0 a30 a31 a32 a33 a34 a35 a36 a37 a38 x22 x23 x24 y1 a39 x25 a40 a41 a42 a43 x26 x27 x28 x29 a29 f_19 a18 f1 a28 f2)) hP hD hS hA [0, 1, 2, 3] rfl (by decide +kernel) (fun _ => by rfl) (fun hPc hDc => va_runV (As := [.int x_15]) (rest := []) ⟨hx, hb, hml, hown, hts⟩ (k_X12_distanceOf l D cB cC cI cJ _ a0 a1 a2 a3 a4 a5 a6 a7 a8 a9 a10 a11 a12 a13 a14 a15 a16 a17 a18 a19 a20 a21 a22 a23 a24 a25 a26 a27 a28 a29 a30 a31 a32 a33 a34 a35 a36 a37 a38 a39 a40 a41 a42 a43 x_15 x2 x3 x4 x5 x6 x7 x8 x9 x10 x11 x12 x13 x14 x15 x16 x17 x18 x19 x20 x21 x22 x23 x24 x25 x26 x27 x28 x29 y0 y1 f_19 f1 f2 h_x2 h_x3 h_x4 h_x5 h_x6 h_x7 h_x10 h_x11 h_x12 h_x13 h_x14 h_x16 h_x17 h_x18 h_x20 h_x21 h_x22 h_x23 h_x24 h_x25 h_x26 h_x27 h_x28 h_x29 hr_a0_0 hr_a0_1 hr_a0_2 hf_f1 hf_f2) ⟨gcwB hts tw_1872 tw_14 tw_1869 hd_yX12_distanceOf ⟨Nat.le_of_ble_eq_true rfl, Nat.le_of_ble_eq_true rfl⟩, hts _ tw_1871, hts _ tp_101⟩ ⟨gblind, va_recv hK hPc (ci := 12) (q0 := 0) rfl rfl, (gpreS hPc hK hDc hN).2⟩ rfl rfl hl.1 rfl (lv_room (Nat.le_of_ble_eq_true rfl)) dX12_least_39 ⟨Nat.le_of_ble_eq_true rfl, Nat.le_of_ble_eq_true rfl⟩) (fun r_27 u_26 H locs hw_28 hP hD hS => ?_)
                  replace hP : va_P D gcl (zS_12 cB cC cI cJ a0 a1 x2 x3 x4 x5 x6 x7 x8 x9 a2 a3 a4 a5 a6 a7 a8 a9 a10 a11 a12 a13 a14 a15 a16 x10 x11 x12 x13 x14 x15 a17 a18 a19 x16 a20 x17 a21 x18 x19 a22 a23 a24 a25 x20 a26 x21 a27 a28 a29 y0 a30 a31 a32 a33 a34 a35 a36 a37 a38 x22 x23 x24 y1 a39 x25 a40 a41 a42 a43 x26 x27 x28 x29 a29 (u_26.2.1 0) a18 f1 a28 f2) H := hP
                  replace hD : va_D A (zS_12 cB cC cI cJ a0 a1 x2 x3 x4 x5 x6 x7 x8 x9 a2 a3 a4 a5 a6 a7 a8 a9 a10 a11 a12 a13 a14 a15 a16 x10 x11 x12 x13 x14 x15 a17 a18 a19 x16 a20 x17 a21 x18 x19 a22 a23 a24 a25 x20 a26 x21 a27 a28 a29 y0 a30 a31 a32 a33 a34 a35 a36 a37 a38 x22 x23 x24 y1 a39 x25 a40 a41 a42 a43 x26 x27 x28 x29 a29 (u_26.2.1 0) a18 f1 a28 f2) := hD
                  have hw_29 : ((((-9223372036854775808) ≤ r_27.toInt ∧ r_27.toInt ≤ 9223372036854775807))) := hw_28
                  have rr_27 := n_rngL r_27
                  refine lv_lstore (pc := 42) (lv' := [(6, .long r_27), (5, .int x_15), (3, .long y_17), (0, .ref a0), (1, .int x0), (2, .int x1)]) hx hb dX12_least_42 hl (by decide) rfl (fun ls hl => ?_)
                  refine lv_aload_n (pc := 44) hx hb dX12_least_44 rfl (lv_at hl 3 rfl) ?_
                  refine va_get (pc := 45) (ci := 12) (v := .ref a29) (C := RX12) (T := TX12) (N := 73) hx hb hts iX12 hown hK hP 0 rfl rfl 48 (by decide) (hts _ tw_1449) (fun _ h9 => h9) rfl dX12_least_45 ?_
                  refine lv_iload_n (pc := 48) hx hb dX12_least_48 rfl (lv_at hl 4 rfl) ?_
                  refine va_iald (pc := 49) hx hb hK hP 1 2 rfl rfl (n_in rfl (by first | exact (om_1557 c_7 hw_4.1 hw_5.1) | ((first | omega | (unfold zBd at *; omega)))) (by first | exact (om_1639 c_7 hw_4.1 hw_5.2 h_x11.2) | ((first | omega | (unfold zBd at *; omega))))) dX12_least_49 ?_
                  refine lv_topi (fun x_30 ex_30 => ?_)
                  have rx_30 : zBd x_30.toInt (-2147483648) 2147483647 := n_rng x_30
                  refine lv_iload_n (pc := 50) hx hb dX12_least_50 rfl (lv_at hl 5 rfl) ?_
                  as_aux_lemma =>
                    refine b_icmp_ne (pc := 51) (tgt := 70) hx hb rfl rfl  dX12_least_51 (by decide) (fun c_31 => ?_) (fun c_31 => ?_)
                    ·
                      as_aux_lemma =>
                        refine b_iinc (pc := 70) hx hb dX12_least_70 hl (k := 1) rfl rfl tI_1 (by first | exact (om_2 hi_16.1) | ((first | omega | (unfold zBd at *; omega)))) (by first | exact (om_1087 c_25 rr_22.2) | ((first | omega | (unfold zBd at *; omega)))) (by decide) (fun x_32 ex_32 ls hl => ?_)
                        replace hl : lv_has ls 8 [(5, .int x_32), (6, .long r_27), (3, .long y_17), (0, .ref a0), (1, .int x0), (2, .int x1)] := hl
                        refine lv_goto (pc := 73) (tgt := 27) hx hb dX12_least_73 (by decide) ?_
                        exact ih_lp_20 x_32 y_17 (u_26.2.1 0) _ _ ls (by first | exact (om_1088 ex_32 hi_16.1 c_25 rr_22.2) | ((first | omega | (unfold zBd at *; omega)))) (by (first | omega | (unfold zBd at *; omega))) hP hD hS (lv_sub hl [0, 2, 3, 4, 5] rfl)
                    ·
                      as_aux_lemma =>
                        refine lv_lload_n (pc := 54) hx hb dX12_least_54 rfl (lv_at hl 2 rfl) ?_
                        refine lv_lconst (pc := 55) (v := 0) hx hb dX12_least_55 (by decide) ?_
                        refine b_lcmp_lt (pc := 56) (tgt := 67) hx hb rfl tL_0 dX12_least_56 dX12_least_57 (by decide) (fun c_33 => ?_) (fun c_33 => ?_)
                        ·
                          as_aux_lemma =>
                            refine lv_lload (pc := 67) hx hb dX12_least_67 (lv_at hl 0 rfl) ?_
                            refine lv_lstore_n (pc := 69) (lv' := [(3, .long r_27), (6, .long r_27), (5, .int x_15), (0, .ref a0), (1, .int x0), (2, .int x1)]) hx hb dX12_least_69 rfl hl (by decide) rfl (fun ls hl => ?_)
                            refine b_iinc (pc := 70) hx hb dX12_least_70 hl (k := 2) rfl rfl tI_1 (by first | exact (om_2 hi_16.1) | ((first | omega | (unfold zBd at *; omega)))) (by first | exact (om_1087 c_25 rr_22.2) | ((first | omega | (unfold zBd at *; omega)))) (by decide) (fun x_34 ex_34 ls hl => ?_)
                            replace hl : lv_has ls 8 [(5, .int x_34), (3, .long r_27), (6, .long r_27), (0, .ref a0), (1, .int x0), (2, .int x1)] := hl
                            refine lv_goto (pc := 73) (tgt := 27) hx hb dX12_least_73 (by decide) ?_
                            exact ih_lp_20 x_34 r_27 (u_26.2.1 0) _ _ ls (by first | exact (om_1088 ex_34 hi_16.1 c_25 rr_22.2) | ((first | omega | (unfold zBd at *; omega)))) (by (first | omega | (unfold zBd at *; omega))) hP hD hS (lv_sub hl [0, 1, 3, 4, 5] rfl)
                        ·
                          as_aux_lemma =>
                            refine lv_lload (pc := 60) hx hb dX12_least_60 (lv_at hl 0 rfl) ?_
                            refine lv_lload_n (pc := 62) hx hb dX12_least_62 rfl (lv_at hl 2 rfl) ?_
                            refine b_lcmp_ge (pc := 63) (tgt := 70) hx hb rfl rfl dX12_least_63 dX12_least_64 (by decide) (fun c_35 => ?_) (fun c_35 => ?_)
                            ·
                              as_aux_lemma =>
                                refine b_iinc (pc := 70) hx hb dX12_least_70 hl (k := 1) rfl rfl tI_1 (by first | exact (om_2 hi_16.1) | ((first | omega | (unfold zBd at *; omega)))) (by first | exact (om_1087 c_25 rr_22.2) | ((first | omega | (unfold zBd at *; omega)))) (by decide) (fun x_36 ex_36 ls hl => ?_)
                                replace hl : lv_has ls 8 [(5, .int x_36), (6, .long r_27), (3, .long y_17), (0, .ref a0), (1, .int x0), (2, .int x1)] := hl
                                refine lv_goto (pc := 73) (tgt := 27) hx hb dX12_least_73 (by decide) ?_
                                exact ih_lp_20 x_36 y_17 (u_26.2.1 0) _ _ ls (by first | exact (om_1088 ex_36 hi_16.1 c_25 rr_22.2) | ((first | omega | (unfold zBd at *; omega)))) (by (first | omega | (unfold zBd at *; omega))) hP hD hS (lv_sub hl [0, 2, 3, 4, 5] rfl)
                            ·
                              as_aux_lemma =>
                                refine lv_lload (pc := 67) hx hb dX12_least_67 (lv_at hl 0 rfl) ?_
                                refine lv_lstore_n (pc := 69) (lv' := [(3, .long r_27), (6, .long r_27), (5, .int x_15), (0, .ref a0), (1, .int x0), (2, .int x1)]) hx hb dX12_least_69 rfl hl (by decide) rfl (fun ls hl => ?_)
                                refine b_iinc (pc := 70) hx hb dX12_least_70 hl (k := 2) rfl rfl tI_1 (by first | exact (om_2 hi_16.1) | ((first | omega | (unfold zBd at *; omega)))) (by first | exact (om_1087 c_25 rr_22.2) | ((first | omega | (unfold zBd at *; omega)))) (by decide) (fun x_37 ex_37 ls hl => ?_)
                                replace hl : lv_has ls 8 [(5, .int x_37), (3, .long r_27), (6, .long r_27), (0, .ref a0), (1, .int x0), (2, .int x1)] := hl
                                refine lv_goto (pc := 73) (tgt := 27) hx hb dX12_least_73 (by decide) ?_
                                exact ih_lp_20 x_37 r_27 (u_26.2.1 0) _ _ ls (by first | exact (om_1088 ex_37 hi_16.1 c_25 rr_22.2) | ((first | omega | (unfold zBd at *; omega)))) (by (first | omega | (unfold zBd at *; omega))) hP hD hS (lv_sub hl [0, 1, 3, 4, 5] rfl)
          exact lp_20 _ 0 (-1) f0 _ _ ls (n_c tI_0 (by decide)) (Nat.lt_succ_self _) hP hD hS (lv_sub hl [0, 1, 2, 3, 4] rfl)
      ·
        as_aux_lemma =>
          refine lv_ldc2 (pc := 16) hx hb hown (hts _ tw_1838) dX12_least_16 ?_
          have hP9 : va_P D gcl (zS_12 cB cC cI cJ a0 a1 x2 x3 x4 x5 x6 x7 x8 x9 a2 a3 a4 a5 a6 a7 a8 a9 a10 a11 a12 a13 a14 a15 a16 x10 x11 x12 x13 x14 x15 a17 a18 a19 x16 a20 x17 a21 x18 x19 a22 a23 a24 a25 x20 a26 x21 a27 a28 a29 y0 a30 a31 a32 a33 a34 a35 a36 a37 a38 x22 x23 x24 y1 a39 x25 a40 a41 a42 a43 x26 x27 x28 x29 a29 f0 a18 f1 a28 f2) H := g_psub hP [0, 1, 2, 3] rfl
          have hD9 : va_D A (zS_12 cB cC cI cJ a0 a1 x2 x3 x4 x5 x6 x7 x8 x9 a2 a3 a4 a5 a6 a7 a8 a9 a10 a11 a12 a13 a14 a15 a16 x10 x11 x12 x13 x14 x15 a17 a18 a19 x16 a20 x17 a21 x18 x19 a22 a23 a24 a25 x20 a26 x21 a27 a28 a29 y0 a30 a31 a32 a33 a34 a35 a36 a37 a38 x22 x23 x24 y1 a39 x25 a40 a41 a42 a43 x26 x27 x28 x29 a29 f0 a18 f1 a28 f2) := hD.sub [0, 1, 2, 3] (by decide) rfl
          exact hret (-1) ((fun _ => 0), (fun k => [f0].getD k (fun _ => 0)), (fun _ => (fun _ => 0)), (fun _ => 0), (fun _ => 0)) dX12_least_19 (show ((((-1) : Int64).toInt = (-1)) ∨ (((-9223372036854775808) ≤ ((-1) : Int64).toInt ∧ ((-1) : Int64).toInt ≤ 9223372036854775807))) from (by first | exact (om_1351 tL_m1) | (have k9 := tL_m1; (first | omega | (unfold zBd at *; omega))))) hP9 hD9 hS
theorem om_1664 {a : Int} (h0 : (a ≤ 2147483647)) : (-2147483648 ≤ 0 - a) := by omega
theorem om_1665 {a : Int} (h0 : ((-1100000) ≤ a)) : (0 - a ≤ 2147483647) := by omega
theorem om_1666 {a b c : Int} (h0 : (a = b)) (h1 : (b = 0 - c)) (h2 : (c ≤ 1100000)) (h3 : ((-1100000) ≤ c)) : (-1100000 ≤ a ∧ a ≤ 1100000) := by omega
theorem om_1667 {a : Int} (h0 : (0 ≤ a * a)) : (-9223372036854775808 ≤ a * a) := by omega
theorem om_1668 {a : Int} (h0 : (a * a ≤ 1100000 * 1100000)) : (a * a ≤ 9223372036854775807) := by omega
theorem om_1669 {a b : Int} (h0 : (a = b * b)) (h1 : (0 ≤ b * b)) (h2 : (b * b ≤ 1100000 * 1100000)) : ((0 ≤ a ∧ a ≤ 1210000000000)) := by omega
theorem om_1670 {a b : Int} (h0 : (0 ≤ b)) (h1 : (0 ≤ a)) : (-9223372036854775808 ≤ a + b) := by omega
theorem om_1671 {a b : Int} (h0 : (b ≤ 1210000000000)) (h1 : (a ≤ 100000000000000)) : (a + b ≤ 9223372036854775807) := by omega
theorem om_1672 {a b c d : Int} (h0 : (a = b + c)) (h1 : (0 ≤ c)) (h2 : (0 ≤ b)) (h3 : (c ≤ 1210000000000)) (h4 : (b ≤ 5000000000000 * d)) (h5 : (d ≤ 6)) : ((0 ≤ a ∧ a ≤ 100000000000000)) := by omega
theorem om_1673 {a b c d e : Int} (h0 : (a = c + d)) (h1 : (0 ≤ d)) (h2 : (0 ≤ c)) (h3 : (b = e + 1)) (h4 : (d ≤ 1210000000000)) (h5 : (c ≤ 5000000000000 * e)) : ((0 ≤ a ∧ a ≤ 5000000000000 * b)) := by omega
theorem om_1674 {a b : Int} (h0 : (b ≤ 1100000)) (h1 : ((-1100000) ≤ a)) : (-2147483648 ≤ a - b) := by omega
theorem om_1675 {a b : Int} (h0 : ((-1100000) ≤ b)) (h1 : (a ≤ 1100000)) : (a - b ≤ 2147483647) := by omega
theorem om_1676 {a b c d : Int} (h0 : (a = b)) (h1 : (b = c - d)) (h2 : (d ≤ 1100000)) (h3 : ((-1100000) ≤ c)) (h4 : ((-1100000) ≤ d)) (h5 : (c ≤ 1100000)) : (-2200000 ≤ a ∧ a ≤ 2200000) := by omega
theorem om_1677 {a : Int} (h0 : (a * a ≤ 2200000 * 2200000)) : (a * a ≤ 9223372036854775807) := by omega
theorem om_1678 {a b : Int} (h0 : (a = b * b)) (h1 : (0 ≤ b * b)) (h2 : (b * b ≤ 2200000 * 2200000)) : ((0 ≤ a ∧ a ≤ 4840000000000)) := by omega
theorem om_1679 {a b : Int} (h0 : (b ≤ 4840000000000)) (h1 : (a ≤ 100000000000000)) : (a + b ≤ 9223372036854775807) := by omega
theorem om_1680 {a b c d : Int} (h0 : (a = b + c)) (h1 : (0 ≤ c)) (h2 : (0 ≤ b)) (h3 : (c ≤ 4840000000000)) (h4 : (b ≤ 5000000000000 * d)) (h5 : (d ≤ 6)) : ((0 ≤ a ∧ a ≤ 100000000000000)) := by omega
theorem om_1681 {a b c d e : Int} (h0 : (a = c + d)) (h1 : (0 ≤ d)) (h2 : (0 ≤ c)) (h3 : (b = e + 1)) (h4 : (d ≤ 4840000000000)) (h5 : (c ≤ 5000000000000 * e)) : ((0 ≤ a ∧ a ≤ 5000000000000 * b)) := by omega
theorem om_1682 {a : Int} (h0 : (a = 0)) : ((0 ≤ a ∧ a ≤ 100000000000000)) := by omega
set_option maxHeartbeats 4000000 in
set_option maxRecDepth 100000 in
theorem k_X12_squaresLess_b (l : Launch) (D : va_G) (cB cC cI cJ : ClassId) (sz : Nat) (a0 a1 a2 a3 a4 a5 a6 a7 a8 a9 a10 a11 a12 a13 a14 a15 a16 a17 a18 a19 a20 a21 a22 a23 a24 a25 a26 a27 a28 a29 a30 a31 a32 a33 a34 a35 a36 a37 a38 a39 a40 a41 a42 a43 : Nat) (x0 x1 x2 x3 x4 x5 x6 x7 x8 x9 x10 x11 x12 x13 x14 x15 x16 x17 x18 x19 x20 x21 x22 x23 x24 x25 x26 x27 x28 : Int32) (y0 y1 : Int64) (f0 f1 f2 : Nat → Int32) (hp1 : (0 ≤ x0.toInt ∧ x0.toInt ≤ 1)) (h_x1 : zBd x1.toInt 0 1600) (h_x2 : zBd x2.toInt 0 1600) (h_x3 : zBd x3.toInt 0 1600) (h_x4 : zBd x4.toInt (-1) 1600) (h_x5 : zBd x5.toInt 0 4) (h_x6 : zBd x6.toInt (-1) 1600) (h_x9 : zBd x9.toInt 0 8) (h_x10 : zBd x10.toInt 0 5) (h_x11 : zBd x11.toInt 0 6) (h_x12 : zBd x12.toInt 0 6) (h_x13 : zBd x13.toInt 0 16) (h_x15 : zBd x15.toInt 0 60) (h_x16 : zBd x16.toInt 0 1600) (h_x17 : zBd x17.toInt 0 1700) (h_x19 : zBd x19.toInt 0 1700) (h_x20 : zBd x20.toInt 0 1700) (h_x21 : zBd x21.toInt 0 200) (h_x22 : zBd x22.toInt 0 40) (h_x23 : zBd x23.toInt 0 40) (h_x24 : zBd x24.toInt 0 1) (h_x25 : zBd x25.toInt 0 14) (h_x26 : zBd x26.toInt 0 200) (h_x27 : zBd x27.toInt 0 40) (h_x28 : zBd x28.toInt 0 40) (hr_a0_0 : (x22.toInt ≤ x21.toInt)) (hr_a0_1 : (x21.toInt + x23.toInt ≤ 200)) (hr_a0_2 : (x10.toInt = 0 ∨ 2 ≤ x9.toInt)) (hg_rb : RB f0 0 x10.toInt) (hf_f1 : (∀ j, (-9999) ≤ (f1 j).toInt ∧ (f1 j).toInt ≤ 9999)) (hf_f2 : (∀ j, (-1100000) ≤ (f2 j).toInt ∧ (f2 j).toInt ≤ 1100000)) : Met l yX12_squaresLess (.code yX12_squaresLess cX12_squaresLess 7 (some .long) :: lw_gd) ({ frames := 1, cells := 0, slots := 0, locals := 23 }) (gPre D [(cB, .byte), (cC, .char), (cI, .int), (cJ, .long)] [.ref a0, .int x0] (zS_12 cB cC cI cJ a0 a1 x1 x2 x3 x4 x5 x6 x7 x8 a2 a3 a4 a5 a6 a7 a8 a9 a10 a11 a12 a13 a14 a15 a16 x9 x10 x11 x12 x13 x14 a17 a18 a19 x15 a20 x16 a21 x17 x18 a22 a23 a24 a25 x19 a26 x20 a27 a28 a29 y0 a30 a31 a32 a33 a34 a35 a36 a37 a38 x21 x22 x23 y1 a39 x24 a40 a41 a42 a43 x25 x26 x27 x28 a29 f0 a18 f1 a28 f2) sz) (va_Ql (fun r u => (0 ≤ r.toInt ∧ r.toInt ≤ 100000000000000) ∧ (0 ≤ r.toInt)) (gB D (va_A (zS_12 cB cC cI cJ a0 a1 x1 x2 x3 x4 x5 x6 x7 x8 a2 a3 a4 a5 a6 a7 a8 a9 a10 a11 a12 a13 a14 a15 a16 x9 x10 x11 x12 x13 x14 a17 a18 a19 x15 a20 x16 a21 x17 x18 a22 a23 a24 a25 x19 a26 x20 a27 a28 a29 y0 a30 a31 a32 a33 a34 a35 a36 a37 a38 x21 x22 x23 y1 a39 x24 a40 a41 a42 a43 x25 x26 x27 x28 a29 f0 a18 f1 a28 f2) sz) (fun u : gEx => (zS_12 cB cC cI cJ a0 a1 x1 x2 x3 x4 x5 x6 x7 x8 a2 a3 a4 a5 a6 a7 a8 a9 a10 a11 a12 a13 a14 a15 a16 x9 x10 x11 x12 x13 x14 a17 a18 a19 x15 a20 x16 a21 x17 x18 a22 a23 a24 a25 x19 a26 x20 a27 a28 a29 y0 a30 a31 a32 a33 a34 a35 a36 a37 a38 x21 x22 x23 y1 a39 x24 a40 a41 a42 a43 x25 x26 x27 x28 a29 f0 a18 f1 a28 f2))) (va_A (zS_12 cB cC cI cJ a0 a1 x1 x2 x3 x4 x5 x6 x7 x8 a2 a3 a4 a5 a6 a7 a8 a9 a10 a11 a12 a13 a14 a15 a16 x9 x10 x11 x12 x13 x14 a17 a18 a19 x15 a20 x16 a21 x17 x18 a22 a23 a24 a25 x19 a26 x20 a27 a28 a29 y0 a30 a31 a32 a33 a34 a35 a36 a37 a38 x21 x22 x23 y1 a39 x24 a40 a41 a42 a43 x25 x26 x27 x28 a29 f0 a18 f1 a28 f2) sz)) 0 0 (va_A (zS_12 cB cC cI cJ a0 a1 x1 x2 x3 x4 x5 x6 x7 x8 a2 a3 a4 a5 a6 a7 a8 a9 a10 a11 a12 a13 a14 a15 a16 x9 x10 x11 x12 x13 x14 a17 a18 a19 x15 a20 x16 a21 x17 x18 a22 a23 a24 a25 x19 a26 x20 a27 a28 a29 y0 a30 a31 a32 a33 a34 a35 a36 a37 a38 x21 x22 x23 y1 a39 x24 a40 a41 a42 a43 x25 x26 x27 x28 a29 f0 a18 f1 a28 f2) sz) := by
  refine gOf_l (by decide +kernel) (Nat.le_of_ble_eq_true rfl) ?_
  intro p e s m args below meth c ls A Q hx hb hts hown hml hN hK hP hD hA hl hret
  replace hown : s.vm.findClass RX12 = some m.cls := hown
  have hS : va_S A s.heap s.heap [] := va_S.rf
  replace hP : va_P D gcl (zS_12 cB cC cI cJ a0 a1 x1 x2 x3 x4 x5 x6 x7 x8 a2 a3 a4 a5 a6 a7 a8 a9 a10 a11 a12 a13 a14 a15 a16 x9 x10 x11 x12 x13 x14 a17 a18 a19 x15 a20 x16 a21 x17 x18 a22 a23 a24 a25 x19 a26 x20 a27 a28 a29 y0 a30 a31 a32 a33 a34 a35 a36 a37 a38 x21 x22 x23 y1 a39 x24 a40 a41 a42 a43 x25 x26 x27 x28 a29 f0 a18 f1 a28 f2) s.heap := hP
  replace hl : lv_has ls 7 [(0, .ref a0), (1, .int x0)] := hl
  have rx7 : zBd x7.toInt (-2147483648) 2147483647 := n_rng x7
  have rx8 : zBd x8.toInt (-2147483648) 2147483647 := n_rng x8
  have rx14 : zBd x14.toInt (-2147483648) 2147483647 := n_rng x14
  have rx18 : zBd x18.toInt (-2147483648) 2147483647 := n_rng x18
  have ry0 := n_rngL y0
  have ry1 := n_rngL y1
  refine lv_lconst (pc := 0) (v := 0) hx hb dX12_squaresLess_0 (by decide) ?_
  refine lv_lstore_n (pc := 1) (lv' := [(2, .long 0), (0, .ref a0), (1, .int x0)]) hx hb dX12_squaresLess_1 rfl hl (by decide) rfl (fun ls hl => ?_)
  refine lv_iconst (pc := 2) (v := 0) hx hb dX12_squaresLess_2 (by decide) ?_
  refine lv_istore (pc := 3) (lv' := [(4, .int 0), (2, .long 0), (0, .ref a0), (1, .int x0)]) hx hb dX12_squaresLess_3 hl (by decide) rfl (fun ls hl => ?_)
  have lp_6 : ∀ (n : Nat) (x_1 : Int32) (y_3 : Int64) (H : Heap) (locs : List Loc) (ls : Array Slot), (0 ≤ x_1.toInt ∧ x_1.toInt ≤ 6) → (0 ≤ y_3.toInt ∧ y_3.toInt ≤ 100000000000000) → (0 ≤ y_3.toInt ∧ y_3.toInt ≤ 5000000000000 * x_1.toInt) → (2147483647 - x_1.toInt).toNat < n → va_P D gcl (zS_12 cB cC cI cJ a0 a1 x1 x2 x3 x4 x5 x6 x7 x8 a2 a3 a4 a5 a6 a7 a8 a9 a10 a11 a12 a13 a14 a15 a16 x9 x10 x11 x12 x13 x14 a17 a18 a19 x15 a20 x16 a21 x17 x18 a22 a23 a24 a25 x19 a26 x20 a27 a28 a29 y0 a30 a31 a32 a33 a34 a35 a36 a37 a38 x21 x22 x23 y1 a39 x24 a40 a41 a42 a43 x25 x26 x27 x28 a29 f0 a18 f1 a28 f2) H → va_D A (zS_12 cB cC cI cJ a0 a1 x1 x2 x3 x4 x5 x6 x7 x8 a2 a3 a4 a5 a6 a7 a8 a9 a10 a11 a12 a13 a14 a15 a16 x9 x10 x11 x12 x13 x14 a17 a18 a19 x15 a20 x16 a21 x17 x18 a22 a23 a24 a25 x19 a26 x20 a27 a28 a29 y0 a30 a31 a32 a33 a34 a35 a36 a37 a38 x21 x22 x23 y1 a39 x24 a40 a41 a42 a43 x25 x26 x27 x28 a29 f0 a18 f1 a28 f2) → va_S A s.heap H locs → lv_has ls 7 [(4, .int x_1), (2, .long y_3), (0, .ref a0), (1, .int x0)] → W p l e ({ frames := 1, cells := 0, slots := 0, locals := 23 }) s m args below meth c H locs 0 0 Q (F0 m 5 ls []) := by
    intro n
    induction n with
    | zero => intro x_1 y_3 H locs ls hi_2 hi_4 hi_5 hmu; exact absurd hmu (Nat.not_lt_zero _)
    | succ n ih_lp_6 =>
      intro x_1 y_3 H locs ls hi_2 hi_4 hi_5 hmu_lp_6 hP hD hS hl
      refine lv_iload (pc := 5) hx hb dX12_squaresLess_5 (lv_at hl 0 rfl) ?_
      refine lv_aload_n (pc := 7) hx hb dX12_squaresLess_7 rfl (lv_at hl 2 rfl) ?_
      refine va_get (pc := 8) (ci := 12) (v := .int x11) (C := RX12) (T := TX12) (N := 73) hx hb hts iX12 hown hK hP 0 rfl rfl 26 (by decide) (hts _ tw_1427) (fun _ h9 => h9) rfl dX12_squaresLess_8 ?_
      have bd_h_x11 : 0 ≤ x11.toInt ∧ x11.toInt ≤ 6 := h_x11
      refine b_icmp_ge (pc := 11) (tgt := 53) hx hb rfl rfl  dX12_squaresLess_11 (by decide) (fun c_7 => ?_) (fun c_7 => ?_)
      ·
        as_aux_lemma =>
          refine lv_lload_n (pc := 53) hx hb dX12_squaresLess_53 rfl (lv_at hl 1 rfl) ?_
          have hP9 : va_P D gcl (zS_12 cB cC cI cJ a0 a1 x1 x2 x3 x4 x5 x6 x7 x8 a2 a3 a4 a5 a6 a7 a8 a9 a10 a11 a12 a13 a14 a15 a16 x9 x10 x11 x12 x13 x14 a17 a18 a19 x15 a20 x16 a21 x17 x18 a22 a23 a24 a25 x19 a26 x20 a27 a28 a29 y0 a30 a31 a32 a33 a34 a35 a36 a37 a38 x21 x22 x23 y1 a39 x24 a40 a41 a42 a43 x25 x26 x27 x28 a29 f0 a18 f1 a28 f2) H := g_psub hP [0, 1, 2, 3] rfl
          have hD9 : va_D A (zS_12 cB cC cI cJ a0 a1 x1 x2 x3 x4 x5 x6 x7 x8 a2 a3 a4 a5 a6 a7 a8 a9 a10 a11 a12 a13 a14 a15 a16 x9 x10 x11 x12 x13 x14 a17 a18 a19 x15 a20 x16 a21 x17 x18 a22 a23 a24 a25 x19 a26 x20 a27 a28 a29 y0 a30 a31 a32 a33 a34 a35 a36 a37 a38 x21 x22 x23 y1 a39 x24 a40 a41 a42 a43 x25 x26 x27 x28 a29 f0 a18 f1 a28 f2) := hD.sub [0, 1, 2, 3] (by decide) rfl
          exact hret y_3 ((fun _ => 0), (fun _ => (fun _ => 0)), (fun _ => (fun _ => 0)), (fun _ => 0), (fun _ => 0)) dX12_squaresLess_54 ⟨(show (0 ≤ y_3.toInt ∧ y_3.toInt ≤ 100000000000000) from hi_4), (show 0 ≤ y_3.toInt from (by first | exact (om_0 hi_5.1) | ((first | omega | (unfold zBd at *; omega)))))⟩ hP9 hD9 hS
      ·
        as_aux_lemma =>
          refine lv_iload_n (pc := 14) hx hb dX12_squaresLess_14 rfl (lv_at hl 3 rfl) ?_
          refine b_if_eq (pc := 15) (tgt := 28) hx hb rfl  dX12_squaresLess_15 (by decide) (fun c_8 => ?_) (fun c_8 => ?_)
          ·
            as_aux_lemma =>
              refine lv_iconst (pc := 28) (v := 0) hx hb dX12_squaresLess_28 (by decide) ?_
              refine lv_aload_n (pc := 29) hx hb dX12_squaresLess_29 rfl (lv_at hl 2 rfl) ?_
              refine lv_iload (pc := 30) hx hb dX12_squaresLess_30 (lv_at hl 0 rfl) ?_
              refine gd_i (pc := 32) (wc := (zS_167 cB cC cI cJ a0 a1 x1 x2 x3 x4 x5 x6 x7 x8 a2 a3 a4 a5 a6 a7 a8 a9 a10 a11 a12 a13 a14 a15 a16 x9 x10 x11 x12 x13 x14 a17 a18 a19 x15 a20 x16 a21 x17 x18 a22 a23 a24 a25 x19 a26 x20 a27 a28 a29 y0 a30 a31 a32 a33 a34 a35 a36 a37 a38 x21 x22 x23 y1 a39 x24 a40 a41 a42 a43 x25 x26 x27 x28 a29 f0 a18 f1)) hP hD hS hA [0, 1, 2] rfl (by decide +kernel) (fun _ => by rfl) (fun hPc hDc => va_runV (As := [.int x_1]) (rest := [.int 0]) ⟨hx, hb, hml, hown, hts⟩ (k_X12_sentTo_b l D cB cC cI cJ _ a0 a1 a2 a3 a4 a5 a6 a7 a8 a9 a10 a11 a12 a13 a14 a15 a16 a17 a18 a19 a20 a21 a22 a23 a24 a25 a26 a27 a28 a29 a30 a31 a32 a33 a34 a35 a36 a37 a38 a39 a40 a41 a42 a43 x_1 x1 x2 x3 x4 x5 x6 x7 x8 x9 x10 x11 x12 x13 x14 x15 x16 x17 x18 x19 x20 x21 x22 x23 x24 x25 x26 x27 x28 y0 y1 f0 f1 (by first | exact (om_1083 hi_2.1 c_7 h_x11.2) | ((first | omega | (unfold zBd at *; omega)))) h_x1 h_x2 h_x3 h_x4 h_x5 h_x6 h_x9 h_x10 h_x11 h_x12 h_x13 h_x15 h_x16 h_x17 h_x19 h_x20 h_x21 h_x22 h_x23 h_x24 h_x25 h_x26 h_x27 h_x28 hr_a0_0 hr_a0_1 hr_a0_2 (hg_rb) hf_f1) ⟨gcwB hts tw_1829 tw_14 tw_1826 hd_yX12_sentTo ⟨Nat.le_of_ble_eq_true rfl, Nat.le_of_ble_eq_true rfl⟩, hts _ tw_1828, hts _ tp_95⟩ ⟨gblind, va_recv hK hPc (ci := 12) (q0 := 0) rfl rfl, (gpreS hPc hK hDc hN).2⟩ rfl rfl hl.1 rfl (lv_room (Nat.le_of_ble_eq_true rfl)) dX12_squaresLess_32 ⟨Nat.le_of_ble_eq_true rfl, Nat.le_of_ble_eq_true rfl⟩) (fun r_10 u_9 H locs hw_11 hP hD hS => ?_)
              replace hP : va_P D gcl (zS_12 cB cC cI cJ a0 a1 x1 x2 x3 x4 x5 x6 x7 x8 a2 a3 a4 a5 a6 a7 a8 a9 a10 a11 a12 a13 a14 a15 a16 x9 x10 x11 x12 x13 x14 a17 a18 a19 x15 a20 x16 a21 x17 x18 a22 a23 a24 a25 x19 a26 x20 a27 a28 a29 y0 a30 a31 a32 a33 a34 a35 a36 a37 a38 x21 x22 x23 y1 a39 x24 a40 a41 a42 a43 x25 x26 x27 x28 a29 f0 a18 f1 a28 f2) H := hP
              replace hD : va_D A (zS_12 cB cC cI cJ a0 a1 x1 x2 x3 x4 x5 x6 x7 x8 a2 a3 a4 a5 a6 a7 a8 a9 a10 a11 a12 a13 a14 a15 a16 x9 x10 x11 x12 x13 x14 a17 a18 a19 x15 a20 x16 a21 x17 x18 a22 a23 a24 a25 x19 a26 x20 a27 a28 a29 y0 a30 a31 a32 a33 a34 a35 a36 a37 a38 x21 x22 x23 y1 a39 x24 a40 a41 a42 a43 x25 x26 x27 x28 a29 f0 a18 f1 a28 f2) := hD
              have hw_12 : ((-1100000) ≤ r_10.toInt ∧ r_10.toInt ≤ 1100000) := hw_11
              have rr_10 : zBd r_10.toInt (-2147483648) 2147483647 := n_rng r_10
              refine b_isub (pc := 35) hx hb tI_0 rfl (by first | exact (om_1664 rr_10.2) | ((first | omega | (unfold zBd at *; omega)))) (by first | exact (om_1665 hw_12.1) | ((first | omega | (unfold zBd at *; omega)))) dX12_squaresLess_35 (fun x_13 ex_13 => ?_)
              refine b_i2l (pc := 36) hx hb rfl dX12_squaresLess_36 (fun y_14 ey_14 => ?_)
              have ry_14 : zBd x_13.toInt (-2147483648) 2147483647 := n_rng x_13
              refine lv_lstore (pc := 37) (lv' := [(5, .long y_14), (4, .int x_1), (2, .long y_3), (0, .ref a0), (1, .int x0)]) hx hb dX12_squaresLess_37 hl (by decide) rfl (fun ls hl => ?_)
              refine lv_lload_n (pc := 39) hx hb dX12_squaresLess_39 rfl (lv_at hl 2 rfl) ?_
              refine lv_lload (pc := 40) hx hb dX12_squaresLess_40 (lv_at hl 0 rfl) ?_
              refine lv_lload (pc := 42) hx hb dX12_squaresLess_42 (lv_at hl 0 rfl) ?_
              have qy_15 := n_sq (B := 1100000) (show -1100000 ≤ y_14.toInt ∧ y_14.toInt ≤ 1100000 from (by first | exact (om_1666 ey_14 ex_13 hw_12.2 hw_12.1) | ((first | omega | (unfold zBd at *; omega)))))
              as_aux_lemma =>
                refine b_lmul (pc := 44) hx hb rfl rfl (by first | exact (om_1667 qy_15.1) | ((first | omega | (unfold zBd at *; omega)))) (by first | exact (om_1668 qy_15.2) | ((first | omega | (unfold zBd at *; omega)))) dX12_squaresLess_44 (fun y_15 ey_15 => ?_)
                have ry_15 : (0 ≤ y_15.toInt ∧ y_15.toInt ≤ 1210000000000) := (by first | exact (om_1669 ey_15 qy_15.1 qy_15.2) | ((first | omega | (unfold zBd at *; omega))))
                refine b_ladd (pc := 45) hx hb rfl rfl (by first | exact (om_1670 ry_15.1 hi_5.1) | ((first | omega | (unfold zBd at *; omega)))) (by first | exact (om_1671 ry_15.2 hi_4.2) | ((first | omega | (unfold zBd at *; omega)))) dX12_squaresLess_45 (fun y_16 ey_16 => ?_)
                refine lv_lstore_n (pc := 46) (lv' := [(2, .long y_16), (5, .long y_14), (4, .int x_1), (0, .ref a0), (1, .int x0)]) hx hb dX12_squaresLess_46 rfl hl (by decide) rfl (fun ls hl => ?_)
                refine b_iinc (pc := 47) hx hb dX12_squaresLess_47 hl (k := 2) rfl rfl tI_1 (by first | exact (om_2 hi_2.1) | ((first | omega | (unfold zBd at *; omega)))) (by first | exact (om_38 hi_2.2) | ((first | omega | (unfold zBd at *; omega)))) (by decide) (fun x_17 ex_17 ls hl => ?_)
                replace hl : lv_has ls 7 [(4, .int x_17), (2, .long y_16), (5, .long y_14), (0, .ref a0), (1, .int x0)] := hl
                refine lv_goto (pc := 50) (tgt := 5) hx hb dX12_squaresLess_50 (by decide) ?_
                exact ih_lp_6 x_17 y_16 _ _ ls (by first | exact (om_39 ex_17 hi_2.1 c_7 h_x11.2) | ((first | omega | (unfold zBd at *; omega)))) (by first | exact (om_1672 ey_16 ry_15.1 hi_5.1 ry_15.2 hi_5.2 hi_2.2) | ((first | omega | (unfold zBd at *; omega)))) (by first | exact (om_1673 ey_16 ry_15.1 hi_5.1 ex_17 ry_15.2 hi_5.2) | ((first | omega | (unfold zBd at *; omega)))) (by (first | omega | (unfold zBd at *; omega))) hP hD hS (lv_sub hl [0, 1, 3, 4] rfl)
          ·
            as_aux_lemma =>
              refine lv_aload_n (pc := 18) hx hb dX12_squaresLess_18 rfl (lv_at hl 2 rfl) ?_
              refine va_get (pc := 19) (ci := 12) (v := .ref a28) (C := RX12) (T := TX12) (N := 73) hx hb hts iX12 hown hK hP 0 rfl rfl 47 (by decide) (hts _ tw_1448) (fun _ h9 => h9) rfl dX12_squaresLess_19 ?_
              refine lv_iload (pc := 22) hx hb dX12_squaresLess_22 (lv_at hl 0 rfl) ?_
              refine va_iald (pc := 24) hx hb hK hP 3 2 rfl rfl (n_in rfl (by first | exact (om_0 hi_2.1) | ((first | omega | (unfold zBd at *; omega)))) (by first | exact (om_1082 c_7 h_x11.2) | ((first | omega | (unfold zBd at *; omega))))) dX12_squaresLess_24 ?_
              refine lv_topi (fun x_18 ex_18 => ?_)
              have rx_18 : ((-1100000) ≤ x_18.toInt ∧ x_18.toInt ≤ 1100000) := by rw [ex_18]; exact hf_f2 _
              refine lv_goto (pc := 25) (tgt := 29) hx hb dX12_squaresLess_25 (by decide) ?_
              refine lv_aload_n (pc := 29) hx hb dX12_squaresLess_29 rfl (lv_at hl 2 rfl) ?_
              refine lv_iload (pc := 30) hx hb dX12_squaresLess_30 (lv_at hl 0 rfl) ?_
              refine gd_i (pc := 32) (wc := (zS_167 cB cC cI cJ a0 a1 x1 x2 x3 x4 x5 x6 x7 x8 a2 a3 a4 a5 a6 a7 a8 a9 a10 a11 a12 a13 a14 a15 a16 x9 x10 x11 x12 x13 x14 a17 a18 a19 x15 a20 x16 a21 x17 x18 a22 a23 a24 a25 x19 a26 x20 a27 a28 a29 y0 a30 a31 a32 a33 a34 a35 a36 a37 a38 x21 x22 x23 y1 a39 x24 a40 a41 a42 a43 x25 x26 x27 x28 a29 f0 a18 f1)) hP hD hS hA [0, 1, 2] rfl (by decide +kernel) (fun _ => by rfl) (fun hPc hDc => va_runV (As := [.int x_1]) (rest := [.int x_18]) ⟨hx, hb, hml, hown, hts⟩ (k_X12_sentTo_b l D cB cC cI cJ _ a0 a1 a2 a3 a4 a5 a6 a7 a8 a9 a10 a11 a12 a13 a14 a15 a16 a17 a18 a19 a20 a21 a22 a23 a24 a25 a26 a27 a28 a29 a30 a31 a32 a33 a34 a35 a36 a37 a38 a39 a40 a41 a42 a43 x_1 x1 x2 x3 x4 x5 x6 x7 x8 x9 x10 x11 x12 x13 x14 x15 x16 x17 x18 x19 x20 x21 x22 x23 x24 x25 x26 x27 x28 y0 y1 f0 f1 (by first | exact (om_1083 hi_2.1 c_7 h_x11.2) | ((first | omega | (unfold zBd at *; omega)))) h_x1 h_x2 h_x3 h_x4 h_x5 h_x6 h_x9 h_x10 h_x11 h_x12 h_x13 h_x15 h_x16 h_x17 h_x19 h_x20 h_x21 h_x22 h_x23 h_x24 h_x25 h_x26 h_x27 h_x28 hr_a0_0 hr_a0_1 hr_a0_2 (hg_rb) hf_f1) ⟨gcwB hts tw_1829 tw_14 tw_1826 hd_yX12_sentTo ⟨Nat.le_of_ble_eq_true rfl, Nat.le_of_ble_eq_true rfl⟩, hts _ tw_1828, hts _ tp_95⟩ ⟨gblind, va_recv hK hPc (ci := 12) (q0 := 0) rfl rfl, (gpreS hPc hK hDc hN).2⟩ rfl rfl hl.1 rfl (lv_room (Nat.le_of_ble_eq_true rfl)) dX12_squaresLess_32 ⟨Nat.le_of_ble_eq_true rfl, Nat.le_of_ble_eq_true rfl⟩) (fun r_20 u_19 H locs hw_21 hP hD hS => ?_)
              replace hP : va_P D gcl (zS_12 cB cC cI cJ a0 a1 x1 x2 x3 x4 x5 x6 x7 x8 a2 a3 a4 a5 a6 a7 a8 a9 a10 a11 a12 a13 a14 a15 a16 x9 x10 x11 x12 x13 x14 a17 a18 a19 x15 a20 x16 a21 x17 x18 a22 a23 a24 a25 x19 a26 x20 a27 a28 a29 y0 a30 a31 a32 a33 a34 a35 a36 a37 a38 x21 x22 x23 y1 a39 x24 a40 a41 a42 a43 x25 x26 x27 x28 a29 f0 a18 f1 a28 f2) H := hP
              replace hD : va_D A (zS_12 cB cC cI cJ a0 a1 x1 x2 x3 x4 x5 x6 x7 x8 a2 a3 a4 a5 a6 a7 a8 a9 a10 a11 a12 a13 a14 a15 a16 x9 x10 x11 x12 x13 x14 a17 a18 a19 x15 a20 x16 a21 x17 x18 a22 a23 a24 a25 x19 a26 x20 a27 a28 a29 y0 a30 a31 a32 a33 a34 a35 a36 a37 a38 x21 x22 x23 y1 a39 x24 a40 a41 a42 a43 x25 x26 x27 x28 a29 f0 a18 f1 a28 f2) := hD
              have hw_22 : ((-1100000) ≤ r_20.toInt ∧ r_20.toInt ≤ 1100000) := hw_21
              have rr_20 : zBd r_20.toInt (-2147483648) 2147483647 := n_rng r_20
              refine b_isub (pc := 35) hx hb rfl rfl (by first | exact (om_1674 hw_22.2 rx_18.1) | ((first | omega | (unfold zBd at *; omega)))) (by first | exact (om_1675 hw_22.1 rx_18.2) | ((first | omega | (unfold zBd at *; omega)))) dX12_squaresLess_35 (fun x_23 ex_23 => ?_)
              as_aux_lemma =>
                refine b_i2l (pc := 36) hx hb rfl dX12_squaresLess_36 (fun y_24 ey_24 => ?_)
                have ry_24 : zBd x_23.toInt (-2147483648) 2147483647 := n_rng x_23
                refine lv_lstore (pc := 37) (lv' := [(5, .long y_24), (4, .int x_1), (2, .long y_3), (0, .ref a0), (1, .int x0)]) hx hb dX12_squaresLess_37 hl (by decide) rfl (fun ls hl => ?_)
                refine lv_lload_n (pc := 39) hx hb dX12_squaresLess_39 rfl (lv_at hl 2 rfl) ?_
                refine lv_lload (pc := 40) hx hb dX12_squaresLess_40 (lv_at hl 0 rfl) ?_
                refine lv_lload (pc := 42) hx hb dX12_squaresLess_42 (lv_at hl 0 rfl) ?_
                have qy_25 := n_sq (B := 2200000) (show -2200000 ≤ y_24.toInt ∧ y_24.toInt ≤ 2200000 from (by first | exact (om_1676 ey_24 ex_23 hw_22.2 rx_18.1 hw_22.1 rx_18.2) | ((first | omega | (unfold zBd at *; omega)))))
                refine b_lmul (pc := 44) hx hb rfl rfl (by first | exact (om_1667 qy_25.1) | ((first | omega | (unfold zBd at *; omega)))) (by first | exact (om_1677 qy_25.2) | ((first | omega | (unfold zBd at *; omega)))) dX12_squaresLess_44 (fun y_25 ey_25 => ?_)
                have ry_25 : (0 ≤ y_25.toInt ∧ y_25.toInt ≤ 4840000000000) := (by first | exact (om_1678 ey_25 qy_25.1 qy_25.2) | ((first | omega | (unfold zBd at *; omega))))
                refine b_ladd (pc := 45) hx hb rfl rfl (by first | exact (om_1670 ry_25.1 hi_5.1) | ((first | omega | (unfold zBd at *; omega)))) (by first | exact (om_1679 ry_25.2 hi_4.2) | ((first | omega | (unfold zBd at *; omega)))) dX12_squaresLess_45 (fun y_26 ey_26 => ?_)
                refine lv_lstore_n (pc := 46) (lv' := [(2, .long y_26), (5, .long y_24), (4, .int x_1), (0, .ref a0), (1, .int x0)]) hx hb dX12_squaresLess_46 rfl hl (by decide) rfl (fun ls hl => ?_)
                refine b_iinc (pc := 47) hx hb dX12_squaresLess_47 hl (k := 2) rfl rfl tI_1 (by first | exact (om_2 hi_2.1) | ((first | omega | (unfold zBd at *; omega)))) (by first | exact (om_38 hi_2.2) | ((first | omega | (unfold zBd at *; omega)))) (by decide) (fun x_27 ex_27 ls hl => ?_)
                replace hl : lv_has ls 7 [(4, .int x_27), (2, .long y_26), (5, .long y_24), (0, .ref a0), (1, .int x0)] := hl
                refine lv_goto (pc := 50) (tgt := 5) hx hb dX12_squaresLess_50 (by decide) ?_
                exact ih_lp_6 x_27 y_26 _ _ ls (by first | exact (om_39 ex_27 hi_2.1 c_7 h_x11.2) | ((first | omega | (unfold zBd at *; omega)))) (by first | exact (om_1680 ey_26 ry_25.1 hi_5.1 ry_25.2 hi_5.2 hi_2.2) | ((first | omega | (unfold zBd at *; omega)))) (by first | exact (om_1681 ey_26 ry_25.1 hi_5.1 ex_27 ry_25.2 hi_5.2) | ((first | omega | (unfold zBd at *; omega)))) (by (first | omega | (unfold zBd at *; omega))) hP hD hS (lv_sub hl [0, 1, 3, 4] rfl)
  exact lp_6 _ 0 0 _ _ ls (n_c tI_0 (by decide)) (by first | exact (om_1682 tL_0) | (have k0 := tI_0; have k1 := tL_0; (first | omega | (unfold zBd at *; omega)))) (by have q := tI_0; have q2 := tL_0; (first | omega | (unfold zBd at *; omega))) (Nat.lt_succ_self _) hP hD hS (lv_sub hl [0, 1, 2, 3] rfl)
set_option maxHeartbeats 4000000 in
set_option maxRecDepth 100000 in
theorem k_X12_distanceOf_b (l : Launch) (D : va_G) (cB cC cI cJ : ClassId) (sz : Nat) (a0 a1 a2 a3 a4 a5 a6 a7 a8 a9 a10 a11 a12 a13 a14 a15 a16 a17 a18 a19 a20 a21 a22 a23 a24 a25 a26 a27 a28 a29 a30 a31 a32 a33 a34 a35 a36 a37 a38 a39 a40 a41 a42 a43 : Nat) (x0 x1 x2 x3 x4 x5 x6 x7 x8 x9 x10 x11 x12 x13 x14 x15 x16 x17 x18 x19 x20 x21 x22 x23 x24 x25 x26 x27 x28 : Int32) (y0 y1 : Int64) (f0 f1 f2 : Nat → Int32) (h_x1 : zBd x1.toInt 0 1600) (h_x2 : zBd x2.toInt 0 1600) (h_x3 : zBd x3.toInt 0 1600) (h_x4 : zBd x4.toInt (-1) 1600) (h_x5 : zBd x5.toInt 0 4) (h_x6 : zBd x6.toInt (-1) 1600) (h_x9 : zBd x9.toInt 0 8) (h_x10 : zBd x10.toInt 0 5) (h_x11 : zBd x11.toInt 0 6) (h_x12 : zBd x12.toInt 0 6) (h_x13 : zBd x13.toInt 0 16) (h_x15 : zBd x15.toInt 0 60) (h_x16 : zBd x16.toInt 0 1600) (h_x17 : zBd x17.toInt 0 1700) (h_x19 : zBd x19.toInt 0 1700) (h_x20 : zBd x20.toInt 0 1700) (h_x21 : zBd x21.toInt 0 200) (h_x22 : zBd x22.toInt 0 40) (h_x23 : zBd x23.toInt 0 40) (h_x24 : zBd x24.toInt 0 1) (h_x25 : zBd x25.toInt 0 14) (h_x26 : zBd x26.toInt 0 200) (h_x27 : zBd x27.toInt 0 40) (h_x28 : zBd x28.toInt 0 40) (hr_a0_0 : (x22.toInt ≤ x21.toInt)) (hr_a0_1 : (x21.toInt + x23.toInt ≤ 200)) (hr_a0_2 : (x10.toInt = 0 ∨ 2 ≤ x9.toInt)) (hf_f1 : (∀ j, (-9999) ≤ (f1 j).toInt ∧ (f1 j).toInt ≤ 9999)) (hf_f2 : (∀ j, (-1100000) ≤ (f2 j).toInt ∧ (f2 j).toInt ≤ 1100000)) : Met l yX12_distanceOf (.code yX12_distanceOf cX12_distanceOf 2 (some .long) :: lw_gd) ({ frames := 2, cells := 0, slots := 0, locals := 49 }) (gPre D [(cB, .byte), (cC, .char), (cI, .int), (cJ, .long)] [.ref a0, .int x0] (zS_12 cB cC cI cJ a0 a1 x1 x2 x3 x4 x5 x6 x7 x8 a2 a3 a4 a5 a6 a7 a8 a9 a10 a11 a12 a13 a14 a15 a16 x9 x10 x11 x12 x13 x14 a17 a18 a19 x15 a20 x16 a21 x17 x18 a22 a23 a24 a25 x19 a26 x20 a27 a28 a29 y0 a30 a31 a32 a33 a34 a35 a36 a37 a38 x21 x22 x23 y1 a39 x24 a40 a41 a42 a43 x25 x26 x27 x28 a29 f0 a18 f1 a28 f2) sz) (va_Ql (fun r u => (0 ≤ r.toInt ∧ r.toInt ≤ 100000000000000) ∧ (0 ≤ r.toInt)) (gB D (va_A (zS_12 cB cC cI cJ a0 a1 x1 x2 x3 x4 x5 x6 x7 x8 a2 a3 a4 a5 a6 a7 a8 a9 a10 a11 a12 a13 a14 a15 a16 x9 x10 x11 x12 x13 x14 a17 a18 a19 x15 a20 x16 a21 x17 x18 a22 a23 a24 a25 x19 a26 x20 a27 a28 a29 y0 a30 a31 a32 a33 a34 a35 a36 a37 a38 x21 x22 x23 y1 a39 x24 a40 a41 a42 a43 x25 x26 x27 x28 a29 f0 a18 f1 a28 f2) sz) (fun u : gEx => (zS_12 cB cC cI cJ a0 a1 x1 x2 x3 x4 x5 x6 x7 x8 a2 a3 a4 a5 a6 a7 a8 a9 a10 a11 a12 a13 a14 a15 a16 x9 x10 x11 x12 x13 x14 a17 a18 a19 x15 a20 x16 a21 x17 x18 a22 a23 a24 a25 x19 a26 x20 a27 a28 a29 y0 a30 a31 a32 a33 a34 a35 a36 a37 a38 x21 x22 x23 y1 a39 x24 a40 a41 a42 a43 x25 x26 x27 x28 a29 (u.2.1 0) a18 f1 a28 f2))) (va_A (zS_12 cB cC cI cJ a0 a1 x1 x2 x3 x4 x5 x6 x7 x8 a2 a3 a4 a5 a6 a7 a8 a9 a10 a11 a12 a13 a14 a15 a16 x9 x10 x11 x12 x13 x14 a17 a18 a19 x15 a20 x16 a21 x17 x18 a22 a23 a24 a25 x19 a26 x20 a27 a28 a29 y0 a30 a31 a32 a33 a34 a35 a36 a37 a38 x21 x22 x23 y1 a39 x24 a40 a41 a42 a43 x25 x26 x27 x28 a29 f0 a18 f1 a28 f2) sz)) 0 0 (va_A (zS_12 cB cC cI cJ a0 a1 x1 x2 x3 x4 x5 x6 x7 x8 a2 a3 a4 a5 a6 a7 a8 a9 a10 a11 a12 a13 a14 a15 a16 x9 x10 x11 x12 x13 x14 a17 a18 a19 x15 a20 x16 a21 x17 x18 a22 a23 a24 a25 x19 a26 x20 a27 a28 a29 y0 a30 a31 a32 a33 a34 a35 a36 a37 a38 x21 x22 x23 y1 a39 x24 a40 a41 a42 a43 x25 x26 x27 x28 a29 f0 a18 f1 a28 f2) sz) := by
  refine gOf_l (by decide +kernel) (Nat.le_of_ble_eq_true rfl) ?_
  intro p e s m args below meth c ls A Q hx hb hts hown hml hN hK hP hD hA hl hret
  replace hown : s.vm.findClass RX12 = some m.cls := hown
  have hS : va_S A s.heap s.heap [] := va_S.rf
  replace hP : va_P D gcl (zS_12 cB cC cI cJ a0 a1 x1 x2 x3 x4 x5 x6 x7 x8 a2 a3 a4 a5 a6 a7 a8 a9 a10 a11 a12 a13 a14 a15 a16 x9 x10 x11 x12 x13 x14 a17 a18 a19 x15 a20 x16 a21 x17 x18 a22 a23 a24 a25 x19 a26 x20 a27 a28 a29 y0 a30 a31 a32 a33 a34 a35 a36 a37 a38 x21 x22 x23 y1 a39 x24 a40 a41 a42 a43 x25 x26 x27 x28 a29 f0 a18 f1 a28 f2) s.heap := hP
  replace hl : lv_has ls 2 [(0, .ref a0), (1, .int x0)] := hl
  have rx0 : zBd x0.toInt (-2147483648) 2147483647 := n_rng x0
  have rx7 : zBd x7.toInt (-2147483648) 2147483647 := n_rng x7
  have rx8 : zBd x8.toInt (-2147483648) 2147483647 := n_rng x8
  have rx14 : zBd x14.toInt (-2147483648) 2147483647 := n_rng x14
  have rx18 : zBd x18.toInt (-2147483648) 2147483647 := n_rng x18
  have ry0 := n_rngL y0
  have ry1 := n_rngL y1
  refine lv_aload_n (pc := 0) hx hb dX12_distanceOf_0 rfl (lv_at hl 0 rfl) ?_
  refine lv_iload_n (pc := 1) hx hb dX12_distanceOf_1 rfl (lv_at hl 1 rfl) ?_
  refine gd_v (pc := 2) (wc := (zS_33 cB cC cI cJ a0 a1 x1 x2 x3 x4 x5 x6 x7 x8 a2 a3 a4 a5 a6 a7 a8 a9 a10 a11 a12 a13 a14 a15 a16 x9 x10 x11 x12 x13 x14 a17 a18 a19 x15 a20 x16 a21 x17 x18 a22 a23 a24 a25 x19 a26 x20 a27 a28 a29 y0 a30 a31 a32 a33 a34 a35 a36 a37 a38 x21 x22 x23 y1 a39 x24 a40 a41 a42 a43 x25 x26 x27 x28 a29 f0)) hP hD hS hA [0, 1] rfl (by decide +kernel) (fun _ => by rfl) (fun hPc hDc => va_runV (As := [.int x0]) (rest := []) ⟨hx, hb, hml, hown, hts⟩ (k_X12_rowIs l D cB cC cI cJ _ a0 a1 a2 a3 a4 a5 a6 a7 a8 a9 a10 a11 a12 a13 a14 a15 a16 a17 a18 a19 a20 a21 a22 a23 a24 a25 a26 a27 a28 a29 a30 a31 a32 a33 a34 a35 a36 a37 a38 a39 a40 a41 a42 a43 x0 x1 x2 x3 x4 x5 x6 x7 x8 x9 x10 x11 x12 x13 x14 x15 x16 x17 x18 x19 x20 x21 x22 x23 x24 x25 x26 x27 x28 y0 y1 f0 h_x1 h_x2 h_x3 h_x4 h_x5 h_x6 h_x9 h_x10 h_x11 h_x12 h_x13 h_x15 h_x16 h_x17 h_x19 h_x20 h_x21 h_x22 h_x23 h_x24 h_x25 h_x26 h_x27 h_x28 hr_a0_0 hr_a0_1 hr_a0_2) ⟨gcwB hts tw_1876 tw_14 tw_1873 hd_yX12_rowIs ⟨Nat.le_of_ble_eq_true rfl, Nat.le_of_ble_eq_true rfl⟩, hts _ tw_1875, hts _ tp_102⟩ ⟨gblind, va_recv hK hPc (ci := 12) (q0 := 0) rfl rfl, (gpreS hPc hK hDc hN).2⟩ rfl rfl hl.1 rfl (lv_room (Nat.le_of_ble_eq_true rfl)) dX12_distanceOf_2 ⟨Nat.le_of_ble_eq_true rfl, Nat.le_of_ble_eq_true rfl⟩) (fun u_1 H locs hw_3 hP hD hS => ?_)
  replace hP : va_P D gcl (zS_12 cB cC cI cJ a0 a1 x1 x2 x3 x4 x5 x6 x7 x8 a2 a3 a4 a5 a6 a7 a8 a9 a10 a11 a12 a13 a14 a15 a16 x9 x10 x11 x12 x13 x14 a17 a18 a19 x15 a20 x16 a21 x17 x18 a22 a23 a24 a25 x19 a26 x20 a27 a28 a29 y0 a30 a31 a32 a33 a34 a35 a36 a37 a38 x21 x22 x23 y1 a39 x24 a40 a41 a42 a43 x25 x26 x27 x28 a29 (u_1.2.1 0) a18 f1 a28 f2) H := hP
  replace hD : va_D A (zS_12 cB cC cI cJ a0 a1 x1 x2 x3 x4 x5 x6 x7 x8 a2 a3 a4 a5 a6 a7 a8 a9 a10 a11 a12 a13 a14 a15 a16 x9 x10 x11 x12 x13 x14 a17 a18 a19 x15 a20 x16 a21 x17 x18 a22 a23 a24 a25 x19 a26 x20 a27 a28 a29 y0 a30 a31 a32 a33 a34 a35 a36 a37 a38 x21 x22 x23 y1 a39 x24 a40 a41 a42 a43 x25 x26 x27 x28 a29 (u_1.2.1 0) a18 f1 a28 f2) := hD
  have hw_4 : (RB (u_1.2.1 0) 0 x10.toInt) := hw_3
  refine lv_aload_n (pc := 5) hx hb dX12_distanceOf_5 rfl (lv_at hl 0 rfl) ?_
  refine lv_iconst (pc := 6) (v := 1) hx hb dX12_distanceOf_6 (by decide) ?_
  refine gd_l (pc := 7) (wc := (zS_12 cB cC cI cJ a0 a1 x1 x2 x3 x4 x5 x6 x7 x8 a2 a3 a4 a5 a6 a7 a8 a9 a10 a11 a12 a13 a14 a15 a16 x9 x10 x11 x12 x13 x14 a17 a18 a19 x15 a20 x16 a21 x17 x18 a22 a23 a24 a25 x19 a26 x20 a27 a28 a29 y0 a30 a31 a32 a33 a34 a35 a36 a37 a38 x21 x22 x23 y1 a39 x24 a40 a41 a42 a43 x25 x26 x27 x28 a29 (u_1.2.1 0) a18 f1 a28 f2)) hP hD hS hA [0, 1, 2, 3] rfl (by decide +kernel) (fun _ => by rfl) (fun hPc hDc => va_runV (As := [.int 1]) (rest := []) ⟨hx, hb, hml, hown, hts⟩ (k_X12_squaresLess_b l D cB cC cI cJ _ a0 a1 a2 a3 a4 a5 a6 a7 a8 a9 a10 a11 a12 a13 a14 a15 a16 a17 a18 a19 a20 a21 a22 a23 a24 a25 a26 a27 a28 a29 a30 a31 a32 a33 a34 a35 a36 a37 a38 a39 a40 a41 a42 a43 1 x1 x2 x3 x4 x5 x6 x7 x8 x9 x10 x11 x12 x13 x14 x15 x16 x17 x18 x19 x20 x21 x22 x23 x24 x25 x26 x27 x28 y0 y1 (u_1.2.1 0) f1 f2 (n_c tI_1 (by decide)) h_x1 h_x2 h_x3 h_x4 h_x5 h_x6 h_x9 h_x10 h_x11 h_x12 h_x13 h_x15 h_x16 h_x17 h_x19 h_x20 h_x21 h_x22 h_x23 h_x24 h_x25 h_x26 h_x27 h_x28 hr_a0_0 hr_a0_1 hr_a0_2 (hw_4) hf_f1 hf_f2) ⟨gcwB hts tw_1837 tw_14 tw_1834 hd_yX12_squaresLess ⟨Nat.le_of_ble_eq_true rfl, Nat.le_of_ble_eq_true rfl⟩, hts _ tw_1836, hts _ tp_96⟩ ⟨gblind, va_recv hK hPc (ci := 12) (q0 := 0) rfl rfl, (gpreS hPc hK hDc hN).2⟩ rfl rfl hl.1 rfl (lv_room (Nat.le_of_ble_eq_true rfl)) dX12_distanceOf_7 ⟨Nat.le_of_ble_eq_true rfl, Nat.le_of_ble_eq_true rfl⟩) (fun r_6 u_5 H locs hw_7 hP hD hS => ?_)
  replace hP : va_P D gcl (zS_12 cB cC cI cJ a0 a1 x1 x2 x3 x4 x5 x6 x7 x8 a2 a3 a4 a5 a6 a7 a8 a9 a10 a11 a12 a13 a14 a15 a16 x9 x10 x11 x12 x13 x14 a17 a18 a19 x15 a20 x16 a21 x17 x18 a22 a23 a24 a25 x19 a26 x20 a27 a28 a29 y0 a30 a31 a32 a33 a34 a35 a36 a37 a38 x21 x22 x23 y1 a39 x24 a40 a41 a42 a43 x25 x26 x27 x28 a29 (u_1.2.1 0) a18 f1 a28 f2) H := hP
  replace hD : va_D A (zS_12 cB cC cI cJ a0 a1 x1 x2 x3 x4 x5 x6 x7 x8 a2 a3 a4 a5 a6 a7 a8 a9 a10 a11 a12 a13 a14 a15 a16 x9 x10 x11 x12 x13 x14 a17 a18 a19 x15 a20 x16 a21 x17 x18 a22 a23 a24 a25 x19 a26 x20 a27 a28 a29 y0 a30 a31 a32 a33 a34 a35 a36 a37 a38 x21 x22 x23 y1 a39 x24 a40 a41 a42 a43 x25 x26 x27 x28 a29 (u_1.2.1 0) a18 f1 a28 f2) := hD
  obtain ⟨hw_8, hw_9⟩ := hw_7
  replace hw_8 : (0 ≤ r_6.toInt ∧ r_6.toInt ≤ 100000000000000) := hw_8
  replace hw_9 : (0 ≤ r_6.toInt) := hw_9
  have kk0_r_6 := tI_1
  have rr_6 := n_rngL r_6
  have hP9 : va_P D gcl (zS_12 cB cC cI cJ a0 a1 x1 x2 x3 x4 x5 x6 x7 x8 a2 a3 a4 a5 a6 a7 a8 a9 a10 a11 a12 a13 a14 a15 a16 x9 x10 x11 x12 x13 x14 a17 a18 a19 x15 a20 x16 a21 x17 x18 a22 a23 a24 a25 x19 a26 x20 a27 a28 a29 y0 a30 a31 a32 a33 a34 a35 a36 a37 a38 x21 x22 x23 y1 a39 x24 a40 a41 a42 a43 x25 x26 x27 x28 a29 (u_1.2.1 0) a18 f1 a28 f2) H := g_psub hP [0, 1, 2, 3] rfl
  have hD9 : va_D A (zS_12 cB cC cI cJ a0 a1 x1 x2 x3 x4 x5 x6 x7 x8 a2 a3 a4 a5 a6 a7 a8 a9 a10 a11 a12 a13 a14 a15 a16 x9 x10 x11 x12 x13 x14 a17 a18 a19 x15 a20 x16 a21 x17 x18 a22 a23 a24 a25 x19 a26 x20 a27 a28 a29 y0 a30 a31 a32 a33 a34 a35 a36 a37 a38 x21 x22 x23 y1 a39 x24 a40 a41 a42 a43 x25 x26 x27 x28 a29 (u_1.2.1 0) a18 f1 a28 f2) := hD.sub [0, 1, 2, 3] (by decide) rfl
  exact hret r_6 ((fun _ => 0), (fun k => [(u_1.2.1 0)].getD k (fun _ => 0)), (fun _ => (fun _ => 0)), (fun _ => 0), (fun _ => 0)) dX12_distanceOf_10 ⟨(show (0 ≤ r_6.toInt ∧ r_6.toInt ≤ 100000000000000) from hw_8), (show 0 ≤ r_6.toInt from hw_9)⟩ hP9 hD9 hS
theorem om_1683 {a : Int} (h0 : (a = (-1))) : (((a = (-1)) ∨ (((-2147483648) ≤ a ∧ a ≤ 2147483647)) ∨ (a = 0))) := by omega
theorem om_1684 {a : Int} (h0 : ((-2147483648) ≤ a)) (h1 : (a ≤ 2147483647)) : (((a = (-1)) ∨ (((-2147483648) ≤ a ∧ a ≤ 2147483647)) ∨ (a = 0))) := by omega
theorem om_1685 {a : Int} (h0 : (a = 0)) : (((a = (-1)) ∨ (((-2147483648) ≤ a ∧ a ≤ 2147483647)) ∨ (a = 0))) := by omega
theorem om_1686 {a : Int} (h0 : ((-9223372036854775808) ≤ a)) : (-9223372036854775808 ≤ 1 + a) := by omega
theorem om_1687 {a : Int} (h0 : (a ≤ 100000000000000)) : (1 + a ≤ 9223372036854775807) := by omega
set_option maxHeartbeats 4000000 in
set_option maxRecDepth 100000 in
theorem k_X12_share (l : Launch) (D : va_G) (cB cC cI cJ : ClassId) (sz : Nat) (a0 a1 a2 a3 a4 a5 a6 a7 a8 a9 a10 a11 a12 a13 a14 a15 a16 a17 a18 a19 a20 a21 a22 a23 a24 a25 a26 a27 a28 a29 a30 a31 a32 a33 a34 a35 a36 a37 a38 a39 a40 a41 a42 a43 : Nat) (x0 x1 x2 x3 x4 x5 x6 x7 x8 x9 x10 x11 x12 x13 x14 x15 x16 x17 x18 x19 x20 x21 x22 x23 x24 x25 x26 x27 x28 x29 : Int32) (y0 y1 : Int64) (f0 f1 f2 : Nat → Int32) (h_x2 : zBd x2.toInt 0 1600) (h_x3 : zBd x3.toInt 0 1600) (h_x4 : zBd x4.toInt 0 1600) (h_x5 : zBd x5.toInt (-1) 1600) (h_x6 : zBd x6.toInt 0 4) (h_x7 : zBd x7.toInt (-1) 1600) (h_x10 : zBd x10.toInt 0 8) (h_x11 : zBd x11.toInt 0 5) (h_x12 : zBd x12.toInt 0 6) (h_x13 : zBd x13.toInt 0 6) (h_x14 : zBd x14.toInt 0 16) (h_x16 : zBd x16.toInt 0 60) (h_x17 : zBd x17.toInt 0 1600) (h_x18 : zBd x18.toInt 0 1700) (h_x20 : zBd x20.toInt 0 1700) (h_x21 : zBd x21.toInt 0 1700) (h_x22 : zBd x22.toInt 0 200) (h_x23 : zBd x23.toInt 0 40) (h_x24 : zBd x24.toInt 0 40) (h_x25 : zBd x25.toInt 0 1) (h_x26 : zBd x26.toInt 0 14) (h_x27 : zBd x27.toInt 0 200) (h_x28 : zBd x28.toInt 0 40) (h_x29 : zBd x29.toInt 0 40) (hr_a0_0 : (x23.toInt ≤ x22.toInt)) (hr_a0_1 : (x22.toInt + x24.toInt ≤ 200)) (hr_a0_2 : (x11.toInt = 0 ∨ 2 ≤ x10.toInt)) (hf_f1 : (∀ j, (-9999) ≤ (f1 j).toInt ∧ (f1 j).toInt ≤ 9999)) (hf_f2 : (∀ j, (-1100000) ≤ (f2 j).toInt ∧ (f2 j).toInt ≤ 1100000)) : Met l yX12_share (.code yX12_share cX12_share 10 (some .int) :: lw_gd) ({ frames := 3, cells := 0, slots := 0, locals := 70 }) (gPre D [(cB, .byte), (cC, .char), (cI, .int), (cJ, .long)] [.ref a0, .int x0, .int x1] (zS_12 cB cC cI cJ a0 a1 x2 x3 x4 x5 x6 x7 x8 x9 a2 a3 a4 a5 a6 a7 a8 a9 a10 a11 a12 a13 a14 a15 a16 x10 x11 x12 x13 x14 x15 a17 a18 a19 x16 a20 x17 a21 x18 x19 a22 a23 a24 a25 x20 a26 x21 a27 a28 a29 y0 a30 a31 a32 a33 a34 a35 a36 a37 a38 x22 x23 x24 y1 a39 x25 a40 a41 a42 a43 x26 x27 x28 x29 a29 f0 a18 f1 a28 f2) sz) (va_Qi (fun r u => ((r.toInt = (-1)) ∨ (((-2147483648) ≤ r.toInt ∧ r.toInt ≤ 2147483647)) ∨ (r.toInt = 0))) (gB D (va_A (zS_12 cB cC cI cJ a0 a1 x2 x3 x4 x5 x6 x7 x8 x9 a2 a3 a4 a5 a6 a7 a8 a9 a10 a11 a12 a13 a14 a15 a16 x10 x11 x12 x13 x14 x15 a17 a18 a19 x16 a20 x17 a21 x18 x19 a22 a23 a24 a25 x20 a26 x21 a27 a28 a29 y0 a30 a31 a32 a33 a34 a35 a36 a37 a38 x22 x23 x24 y1 a39 x25 a40 a41 a42 a43 x26 x27 x28 x29 a29 f0 a18 f1 a28 f2) sz) (fun u : gEx => (zS_12 cB cC cI cJ a0 a1 x2 x3 x4 x5 x6 x7 x8 x9 a2 a3 a4 a5 a6 a7 a8 a9 a10 a11 a12 a13 a14 a15 a16 x10 x11 x12 x13 x14 x15 a17 a18 a19 x16 a20 x17 a21 x18 x19 a22 a23 a24 a25 x20 a26 x21 a27 a28 a29 y0 a30 a31 a32 a33 a34 a35 a36 a37 a38 x22 x23 x24 y1 a39 x25 a40 a41 a42 a43 x26 x27 x28 x29 a29 (u.2.1 0) a18 f1 a28 f2))) (va_A (zS_12 cB cC cI cJ a0 a1 x2 x3 x4 x5 x6 x7 x8 x9 a2 a3 a4 a5 a6 a7 a8 a9 a10 a11 a12 a13 a14 a15 a16 x10 x11 x12 x13 x14 x15 a17 a18 a19 x16 a20 x17 a21 x18 x19 a22 a23 a24 a25 x20 a26 x21 a27 a28 a29 y0 a30 a31 a32 a33 a34 a35 a36 a37 a38 x22 x23 x24 y1 a39 x25 a40 a41 a42 a43 x26 x27 x28 x29 a29 f0 a18 f1 a28 f2) sz)) 0 0 (va_A (zS_12 cB cC cI cJ a0 a1 x2 x3 x4 x5 x6 x7 x8 x9 a2 a3 a4 a5 a6 a7 a8 a9 a10 a11 a12 a13 a14 a15 a16 x10 x11 x12 x13 x14 x15 a17 a18 a19 x16 a20 x17 a21 x18 x19 a22 a23 a24 a25 x20 a26 x21 a27 a28 a29 y0 a30 a31 a32 a33 a34 a35 a36 a37 a38 x22 x23 x24 y1 a39 x25 a40 a41 a42 a43 x26 x27 x28 x29 a29 f0 a18 f1 a28 f2) sz) := by
  refine gOf_i (by decide +kernel) (Nat.le_of_ble_eq_true rfl) ?_
  intro p e s m args below meth c ls A Q hx hb hts hown hml hN hK hP hD hA hl hret
  replace hown : s.vm.findClass RX12 = some m.cls := hown
  have hS : va_S A s.heap s.heap [] := va_S.rf
  replace hP : va_P D gcl (zS_12 cB cC cI cJ a0 a1 x2 x3 x4 x5 x6 x7 x8 x9 a2 a3 a4 a5 a6 a7 a8 a9 a10 a11 a12 a13 a14 a15 a16 x10 x11 x12 x13 x14 x15 a17 a18 a19 x16 a20 x17 a21 x18 x19 a22 a23 a24 a25 x20 a26 x21 a27 a28 a29 y0 a30 a31 a32 a33 a34 a35 a36 a37 a38 x22 x23 x24 y1 a39 x25 a40 a41 a42 a43 x26 x27 x28 x29 a29 f0 a18 f1 a28 f2) s.heap := hP
  replace hl : lv_has ls 10 [(0, .ref a0), (1, .int x0), (2, .int x1)] := hl
  have rx0 : zBd x0.toInt (-2147483648) 2147483647 := n_rng x0
  have rx1 : zBd x1.toInt (-2147483648) 2147483647 := n_rng x1
  have rx8 : zBd x8.toInt (-2147483648) 2147483647 := n_rng x8
  have rx9 : zBd x9.toInt (-2147483648) 2147483647 := n_rng x9
  have rx15 : zBd x15.toInt (-2147483648) 2147483647 := n_rng x15
  have rx19 : zBd x19.toInt (-2147483648) 2147483647 := n_rng x19
  have ry0 := n_rngL y0
  have ry1 := n_rngL y1
  refine lv_aload_n (pc := 0) hx hb dX12_share_0 rfl (lv_at hl 0 rfl) ?_
  refine lv_iload_n (pc := 1) hx hb dX12_share_1 rfl (lv_at hl 1 rfl) ?_
  refine gd_i (pc := 2) (wc := (zS_4 cB cC cI cJ a0 a1 x2 x3 x4 x5 x6 x7 x8 x9 a2 a3 a4 a5 a6 a7 a8 a9 a10 a11 a12 a13 a14 a15 a16 x10 x11 x12 x13 x14 x15 a17 a18 a19 x16 a20 x17 a21 x18 x19 a22 a23 a24 a25 x20 a26 x21 a27 a28 a29 y0 a30 a31 a32 a33 a34 a35 a36 a37 a38 x22 x23 x24 y1 a39 x25 a40 a41 a42 a43 x26 x27 x28 x29)) hP hD hS hA [0] rfl (by decide +kernel) (fun _ => by rfl) (fun hPc hDc => va_runV (As := [.int x0]) (rest := []) ⟨hx, hb, hml, hown, hts⟩ (k_X12_isSender l D cB cC cI cJ _ a0 a1 a2 a3 a4 a5 a6 a7 a8 a9 a10 a11 a12 a13 a14 a15 a16 a17 a18 a19 a20 a21 a22 a23 a24 a25 a26 a27 a28 a29 a30 a31 a32 a33 a34 a35 a36 a37 a38 a39 a40 a41 a42 a43 x0 x2 x3 x4 x5 x6 x7 x8 x9 x10 x11 x12 x13 x14 x15 x16 x17 x18 x19 x20 x21 x22 x23 x24 x25 x26 x27 x28 x29 y0 y1 h_x2 h_x3 h_x4 h_x5 h_x6 h_x7 h_x10 h_x11 h_x12 h_x13 h_x14 h_x16 h_x17 h_x18 h_x20 h_x21 h_x22 h_x23 h_x24 h_x25 h_x26 h_x27 h_x28 h_x29 hr_a0_0 hr_a0_1 hr_a0_2) ⟨gcwB hts tw_1782 tw_14 tw_1779 hd_yX12_isSender ⟨Nat.le_of_ble_eq_true rfl, Nat.le_of_ble_eq_true rfl⟩, hts _ tw_1781, hts _ tp_90⟩ ⟨gblind, va_recv hK hPc (ci := 12) (q0 := 0) rfl rfl, (gpreS hPc hK hDc hN).2⟩ rfl rfl hl.1 rfl (lv_room (Nat.le_of_ble_eq_true rfl)) dX12_share_2 ⟨Nat.le_of_ble_eq_true rfl, Nat.le_of_ble_eq_true rfl⟩) (fun r_2 u_1 H locs hw_3 hP hD hS => ?_)
  replace hP : va_P D gcl (zS_12 cB cC cI cJ a0 a1 x2 x3 x4 x5 x6 x7 x8 x9 a2 a3 a4 a5 a6 a7 a8 a9 a10 a11 a12 a13 a14 a15 a16 x10 x11 x12 x13 x14 x15 a17 a18 a19 x16 a20 x17 a21 x18 x19 a22 a23 a24 a25 x20 a26 x21 a27 a28 a29 y0 a30 a31 a32 a33 a34 a35 a36 a37 a38 x22 x23 x24 y1 a39 x25 a40 a41 a42 a43 x26 x27 x28 x29 a29 f0 a18 f1 a28 f2) H := hP
  replace hD : va_D A (zS_12 cB cC cI cJ a0 a1 x2 x3 x4 x5 x6 x7 x8 x9 a2 a3 a4 a5 a6 a7 a8 a9 a10 a11 a12 a13 a14 a15 a16 x10 x11 x12 x13 x14 x15 a17 a18 a19 x16 a20 x17 a21 x18 x19 a22 a23 a24 a25 x20 a26 x21 a27 a28 a29 y0 a30 a31 a32 a33 a34 a35 a36 a37 a38 x22 x23 x24 y1 a39 x25 a40 a41 a42 a43 x26 x27 x28 x29 a29 f0 a18 f1 a28 f2) := hD
  obtain ⟨hw_4, hw_5, hw_6⟩ := hw_3
  replace hw_4 : (0 ≤ r_2.toInt ∧ r_2.toInt ≤ 1) := hw_4
  replace hw_5 : (-x0.toInt ≤ 4294967296 - 4294967296 * r_2.toInt ∧ x0.toInt ≤ x11.toInt - 1 + 4294967296 - 4294967296 * r_2.toInt) := hw_5
  replace hw_6 : (inQ r_2.toInt x0.toInt x11.toInt) := hw_6
  have rr_2 : zBd r_2.toInt (-2147483648) 2147483647 := n_rng r_2
  refine b_if_eq (pc := 5) (tgt := 16) hx hb rfl  dX12_share_5 (by decide) (fun c_7 => ?_) (fun c_7 => ?_)
  ·
    as_aux_lemma =>
      refine lv_iconst (pc := 16) (v := (-1)) hx hb dX12_share_16 (by decide) ?_
      have hP9 : va_P D gcl (zS_12 cB cC cI cJ a0 a1 x2 x3 x4 x5 x6 x7 x8 x9 a2 a3 a4 a5 a6 a7 a8 a9 a10 a11 a12 a13 a14 a15 a16 x10 x11 x12 x13 x14 x15 a17 a18 a19 x16 a20 x17 a21 x18 x19 a22 a23 a24 a25 x20 a26 x21 a27 a28 a29 y0 a30 a31 a32 a33 a34 a35 a36 a37 a38 x22 x23 x24 y1 a39 x25 a40 a41 a42 a43 x26 x27 x28 x29 a29 f0 a18 f1 a28 f2) H := g_psub hP [0, 1, 2, 3] rfl
      have hD9 : va_D A (zS_12 cB cC cI cJ a0 a1 x2 x3 x4 x5 x6 x7 x8 x9 a2 a3 a4 a5 a6 a7 a8 a9 a10 a11 a12 a13 a14 a15 a16 x10 x11 x12 x13 x14 x15 a17 a18 a19 x16 a20 x17 a21 x18 x19 a22 a23 a24 a25 x20 a26 x21 a27 a28 a29 y0 a30 a31 a32 a33 a34 a35 a36 a37 a38 x22 x23 x24 y1 a39 x25 a40 a41 a42 a43 x26 x27 x28 x29 a29 f0 a18 f1 a28 f2) := hD.sub [0, 1, 2, 3] (by decide) rfl
      exact hret (-1) ((fun _ => 0), (fun k => [f0].getD k (fun _ => 0)), (fun _ => (fun _ => 0)), (fun _ => 0), (fun _ => 0)) dX12_share_17 (show ((((-1) : Int32).toInt = (-1)) ∨ (((-2147483648) ≤ ((-1) : Int32).toInt ∧ ((-1) : Int32).toInt ≤ 2147483647)) ∨ (((-1) : Int32).toInt = 0)) from (by first | exact (om_1683 tI_m1) | (have k9 := tI_m1; (first | omega | (unfold zBd at *; omega))))) hP9 hD9 hS
  ·
    as_aux_lemma =>
      refine lv_aload_n (pc := 8) hx hb dX12_share_8 rfl (lv_at hl 0 rfl) ?_
      refine lv_iload_n (pc := 9) hx hb dX12_share_9 rfl (lv_at hl 2 rfl) ?_
      refine gd_i (pc := 10) (wc := (zS_4 cB cC cI cJ a0 a1 x2 x3 x4 x5 x6 x7 x8 x9 a2 a3 a4 a5 a6 a7 a8 a9 a10 a11 a12 a13 a14 a15 a16 x10 x11 x12 x13 x14 x15 a17 a18 a19 x16 a20 x17 a21 x18 x19 a22 a23 a24 a25 x20 a26 x21 a27 a28 a29 y0 a30 a31 a32 a33 a34 a35 a36 a37 a38 x22 x23 x24 y1 a39 x25 a40 a41 a42 a43 x26 x27 x28 x29)) hP hD hS hA [0] rfl (by decide +kernel) (fun _ => by rfl) (fun hPc hDc => va_runV (As := [.int x1]) (rest := []) ⟨hx, hb, hml, hown, hts⟩ (k_X12_isLetterOf l D cB cC cI cJ _ a0 a1 a2 a3 a4 a5 a6 a7 a8 a9 a10 a11 a12 a13 a14 a15 a16 a17 a18 a19 a20 a21 a22 a23 a24 a25 a26 a27 a28 a29 a30 a31 a32 a33 a34 a35 a36 a37 a38 a39 a40 a41 a42 a43 x1 x2 x3 x4 x5 x6 x7 x8 x9 x10 x11 x12 x13 x14 x15 x16 x17 x18 x19 x20 x21 x22 x23 x24 x25 x26 x27 x28 x29 y0 y1 h_x2 h_x3 h_x4 h_x5 h_x6 h_x7 h_x10 h_x11 h_x12 h_x13 h_x14 h_x16 h_x17 h_x18 h_x20 h_x21 h_x22 h_x23 h_x24 h_x25 h_x26 h_x27 h_x28 h_x29 hr_a0_0 hr_a0_1 hr_a0_2) ⟨gcwB hts tw_1825 tw_14 tw_1822 hd_yX12_isLetterOf ⟨Nat.le_of_ble_eq_true rfl, Nat.le_of_ble_eq_true rfl⟩, hts _ tw_1824, hts _ tp_94⟩ ⟨gblind, va_recv hK hPc (ci := 12) (q0 := 0) rfl rfl, (gpreS hPc hK hDc hN).2⟩ rfl rfl hl.1 rfl (lv_room (Nat.le_of_ble_eq_true rfl)) dX12_share_10 ⟨Nat.le_of_ble_eq_true rfl, Nat.le_of_ble_eq_true rfl⟩) (fun r_9 u_8 H locs hw_10 hP hD hS => ?_)
      replace hP : va_P D gcl (zS_12 cB cC cI cJ a0 a1 x2 x3 x4 x5 x6 x7 x8 x9 a2 a3 a4 a5 a6 a7 a8 a9 a10 a11 a12 a13 a14 a15 a16 x10 x11 x12 x13 x14 x15 a17 a18 a19 x16 a20 x17 a21 x18 x19 a22 a23 a24 a25 x20 a26 x21 a27 a28 a29 y0 a30 a31 a32 a33 a34 a35 a36 a37 a38 x22 x23 x24 y1 a39 x25 a40 a41 a42 a43 x26 x27 x28 x29 a29 f0 a18 f1 a28 f2) H := hP
      replace hD : va_D A (zS_12 cB cC cI cJ a0 a1 x2 x3 x4 x5 x6 x7 x8 x9 a2 a3 a4 a5 a6 a7 a8 a9 a10 a11 a12 a13 a14 a15 a16 x10 x11 x12 x13 x14 x15 a17 a18 a19 x16 a20 x17 a21 x18 x19 a22 a23 a24 a25 x20 a26 x21 a27 a28 a29 y0 a30 a31 a32 a33 a34 a35 a36 a37 a38 x22 x23 x24 y1 a39 x25 a40 a41 a42 a43 x26 x27 x28 x29 a29 f0 a18 f1 a28 f2) := hD
      obtain ⟨hw_11, hw_12, hw_13⟩ := hw_10
      replace hw_11 : (0 ≤ r_9.toInt ∧ r_9.toInt ≤ 1) := hw_11
      replace hw_12 : (r_9.toInt = 0 ∨ (-7 ≤ x1.toInt ∧ x1.toInt ≤ 7)) := hw_12
      replace hw_13 : ((r_9.toInt = 1 ∧ okL x10.toInt x1.toInt) ∨ (r_9.toInt = 0 ∧ ¬ okL x10.toInt x1.toInt)) := hw_13
      have rr_9 : zBd r_9.toInt (-2147483648) 2147483647 := n_rng r_9
      refine b_if_ne (pc := 13) (tgt := 18) hx hb rfl  dX12_share_13 (by decide) (fun c_14 => ?_) (fun c_14 => ?_)
      ·
        as_aux_lemma =>
          refine lv_lconst (pc := 18) (v := 0) hx hb dX12_share_18 (by decide) ?_
          refine lv_lstore_n (pc := 19) (lv' := [(3, .long 0), (0, .ref a0), (1, .int x0), (2, .int x1)]) hx hb dX12_share_19 rfl hl (by decide) rfl (fun ls hl => ?_)
          refine lv_lconst (pc := 20) (v := 0) hx hb dX12_share_20 (by decide) ?_
          refine lv_lstore (pc := 21) (lv' := [(5, .long 0), (3, .long 0), (0, .ref a0), (1, .int x0), (2, .int x1)]) hx hb dX12_share_21 hl (by decide) rfl (fun ls hl => ?_)
          refine lv_iconst (pc := 23) (v := 0) hx hb dX12_share_23 (by decide) ?_
          refine lv_istore (pc := 24) (lv' := [(7, .int 0), (5, .long 0), (3, .long 0), (0, .ref a0), (1, .int x0), (2, .int x1)]) hx hb dX12_share_24 hl (by decide) rfl (fun ls hl => ?_)
          have lp_22 : ∀ (n : Nat) (x_15 : Int32) (y_17 y_19 : Int64) (f_21 : Nat → Int32) (H : Heap) (locs : List Loc) (ls : Array Slot), (0 ≤ x_15.toInt ∧ x_15.toInt ≤ 2147483647) → (2147483647 - x_15.toInt).toNat < n → va_P D gcl (zS_12 cB cC cI cJ a0 a1 x2 x3 x4 x5 x6 x7 x8 x9 a2 a3 a4 a5 a6 a7 a8 a9 a10 a11 a12 a13 a14 a15 a16 x10 x11 x12 x13 x14 x15 a17 a18 a19 x16 a20 x17 a21 x18 x19 a22 a23 a24 a25 x20 a26 x21 a27 a28 a29 y0 a30 a31 a32 a33 a34 a35 a36 a37 a38 x22 x23 x24 y1 a39 x25 a40 a41 a42 a43 x26 x27 x28 x29 a29 f_21 a18 f1 a28 f2) H → va_D A (zS_12 cB cC cI cJ a0 a1 x2 x3 x4 x5 x6 x7 x8 x9 a2 a3 a4 a5 a6 a7 a8 a9 a10 a11 a12 a13 a14 a15 a16 x10 x11 x12 x13 x14 x15 a17 a18 a19 x16 a20 x17 a21 x18 x19 a22 a23 a24 a25 x20 a26 x21 a27 a28 a29 y0 a30 a31 a32 a33 a34 a35 a36 a37 a38 x22 x23 x24 y1 a39 x25 a40 a41 a42 a43 x26 x27 x28 x29 a29 f_21 a18 f1 a28 f2) → va_S A s.heap H locs → lv_has ls 10 [(7, .int x_15), (5, .long y_17), (3, .long y_19), (0, .ref a0), (1, .int x0), (2, .int x1)] → W p l e ({ frames := 3, cells := 0, slots := 0, locals := 70 }) s m args below meth c H locs 0 0 Q (F0 m 26 ls []) := by
            intro n
            induction n with
            | zero => intro x_15 y_17 y_19 f_21 H locs ls hi_16 hmu; exact absurd hmu (Nat.not_lt_zero _)
            | succ n ih_lp_22 =>
              intro x_15 y_17 y_19 f_21 H locs ls hi_16 hmu_lp_22 hP hD hS hl
              have hi_18 := n_rngL y_17
              have hi_20 := n_rngL y_19
              refine lv_iload (pc := 26) hx hb dX12_share_26 (lv_at hl 0 rfl) ?_
              refine lv_aload_n (pc := 28) hx hb dX12_share_28 rfl (lv_at hl 3 rfl) ?_
              refine gd_i (pc := 29) (wc := (zS_4 cB cC cI cJ a0 a1 x2 x3 x4 x5 x6 x7 x8 x9 a2 a3 a4 a5 a6 a7 a8 a9 a10 a11 a12 a13 a14 a15 a16 x10 x11 x12 x13 x14 x15 a17 a18 a19 x16 a20 x17 a21 x18 x19 a22 a23 a24 a25 x20 a26 x21 a27 a28 a29 y0 a30 a31 a32 a33 a34 a35 a36 a37 a38 x22 x23 x24 y1 a39 x25 a40 a41 a42 a43 x26 x27 x28 x29)) hP hD hS hA [0] rfl (by decide +kernel) (fun _ => by rfl) (fun hPc hDc => va_runV (As := []) (rest := [.int x_15]) ⟨hx, hb, hml, hown, hts⟩ (k_X12_rowMany l D cB cC cI cJ _ a0 a1 a2 a3 a4 a5 a6 a7 a8 a9 a10 a11 a12 a13 a14 a15 a16 a17 a18 a19 a20 a21 a22 a23 a24 a25 a26 a27 a28 a29 a30 a31 a32 a33 a34 a35 a36 a37 a38 a39 a40 a41 a42 a43 x2 x3 x4 x5 x6 x7 x8 x9 x10 x11 x12 x13 x14 x15 x16 x17 x18 x19 x20 x21 x22 x23 x24 x25 x26 x27 x28 x29 y0 y1 h_x2 h_x3 h_x4 h_x5 h_x6 h_x7 h_x10 h_x11 h_x12 h_x13 h_x14 h_x16 h_x17 h_x18 h_x20 h_x21 h_x22 h_x23 h_x24 h_x25 h_x26 h_x27 h_x28 h_x29 hr_a0_0 hr_a0_1 hr_a0_2) ⟨gcwB hts tw_1868 tw_14 tw_1865 hd_yX12_rowMany ⟨Nat.le_of_ble_eq_true rfl, Nat.le_of_ble_eq_true rfl⟩, hts _ tw_1867, hts _ tp_100⟩ ⟨gblind, va_recv hK hPc (ci := 12) (q0 := 0) rfl rfl, (gpreS hPc hK hDc hN).2⟩ rfl rfl hl.1 rfl (lv_room (Nat.le_of_ble_eq_true rfl)) dX12_share_29 ⟨Nat.le_of_ble_eq_true rfl, Nat.le_of_ble_eq_true rfl⟩) (fun r_24 u_23 H locs hw_25 hP hD hS => ?_)
              replace hP : va_P D gcl (zS_12 cB cC cI cJ a0 a1 x2 x3 x4 x5 x6 x7 x8 x9 a2 a3 a4 a5 a6 a7 a8 a9 a10 a11 a12 a13 a14 a15 a16 x10 x11 x12 x13 x14 x15 a17 a18 a19 x16 a20 x17 a21 x18 x19 a22 a23 a24 a25 x20 a26 x21 a27 a28 a29 y0 a30 a31 a32 a33 a34 a35 a36 a37 a38 x22 x23 x24 y1 a39 x25 a40 a41 a42 a43 x26 x27 x28 x29 a29 f_21 a18 f1 a28 f2) H := hP
              replace hD : va_D A (zS_12 cB cC cI cJ a0 a1 x2 x3 x4 x5 x6 x7 x8 x9 a2 a3 a4 a5 a6 a7 a8 a9 a10 a11 a12 a13 a14 a15 a16 x10 x11 x12 x13 x14 x15 a17 a18 a19 x16 a20 x17 a21 x18 x19 a22 a23 a24 a25 x20 a26 x21 a27 a28 a29 y0 a30 a31 a32 a33 a34 a35 a36 a37 a38 x22 x23 x24 y1 a39 x25 a40 a41 a42 a43 x26 x27 x28 x29 a29 f_21 a18 f1 a28 f2) := hD
              have hw_26 : ((((-2147483648) ≤ r_24.toInt ∧ r_24.toInt ≤ 2147483647) ∧ ¬ x11.toInt = 0 ∧ (1 ≤ x11.toInt ∧ x11.toInt ≤ 5)) ∨ (r_24.toInt = 0 ∧ x11.toInt = 0)) := hw_25
              have rr_24 : zBd r_24.toInt (-2147483648) 2147483647 := n_rng r_24
              refine b_icmp_ge (pc := 32) (tgt := 77) hx hb rfl rfl  dX12_share_32 (by decide) (fun c_27 => ?_) (fun c_27 => ?_)
              ·
                as_aux_lemma =>
                  refine lv_lload (pc := 77) hx hb dX12_share_77 (lv_at hl 1 rfl) ?_
                  refine lv_lconst (pc := 79) (v := 0) hx hb dX12_share_79 (by decide) ?_
                  refine b_lcmp_ne (pc := 80) (tgt := 88) hx hb rfl tL_0 dX12_share_80 dX12_share_81 (by decide) (fun c_28 => ?_) (fun c_28 => ?_)
                  ·
                    as_aux_lemma =>
                      refine lv_ldc2 (pc := 88) hx hb hown (hts _ tw_1800) dX12_share_88 ?_
                      refine lv_lload_n (pc := 91) hx hb dX12_share_91 rfl (lv_at hl 2 rfl) ?_
                      refine lv_lmul (pc := 92) hx hb dX12_share_92 ?_
                      refine lv_topl (fun y_29 _ => ?_)
                      have ry_29 := n_rngL y_29
                      refine lv_lload (pc := 93) hx hb dX12_share_93 (lv_at hl 1 rfl) ?_
                      refine lv_ldiv (pc := 95) hx hb dX12_share_95 (fun h => by have q := congrArg Int64.toInt h; have k := tL_0; (first | omega | (unfold zBd at *; omega))) ?_
                      refine lv_topl (fun y_30 _ => ?_)
                      have ry_30 := n_rngL y_30
                      refine lv_l2i (pc := 96) hx hb dX12_share_96 rfl ?_
                      refine lv_topi (fun x_31 _ => ?_)
                      have rx_31 : zBd x_31.toInt (-2147483648) 2147483647 := n_rng x_31
                      have hP9 : va_P D gcl (zS_12 cB cC cI cJ a0 a1 x2 x3 x4 x5 x6 x7 x8 x9 a2 a3 a4 a5 a6 a7 a8 a9 a10 a11 a12 a13 a14 a15 a16 x10 x11 x12 x13 x14 x15 a17 a18 a19 x16 a20 x17 a21 x18 x19 a22 a23 a24 a25 x20 a26 x21 a27 a28 a29 y0 a30 a31 a32 a33 a34 a35 a36 a37 a38 x22 x23 x24 y1 a39 x25 a40 a41 a42 a43 x26 x27 x28 x29 a29 f_21 a18 f1 a28 f2) H := g_psub hP [0, 1, 2, 3] rfl
                      have hD9 : va_D A (zS_12 cB cC cI cJ a0 a1 x2 x3 x4 x5 x6 x7 x8 x9 a2 a3 a4 a5 a6 a7 a8 a9 a10 a11 a12 a13 a14 a15 a16 x10 x11 x12 x13 x14 x15 a17 a18 a19 x16 a20 x17 a21 x18 x19 a22 a23 a24 a25 x20 a26 x21 a27 a28 a29 y0 a30 a31 a32 a33 a34 a35 a36 a37 a38 x22 x23 x24 y1 a39 x25 a40 a41 a42 a43 x26 x27 x28 x29 a29 f_21 a18 f1 a28 f2) := hD.sub [0, 1, 2, 3] (by decide) rfl
                      exact hret x_31 ((fun _ => 0), (fun k => [f_21].getD k (fun _ => 0)), (fun _ => (fun _ => 0)), (fun _ => 0), (fun _ => 0)) dX12_share_97 (show ((x_31.toInt = (-1)) ∨ (((-2147483648) ≤ x_31.toInt ∧ x_31.toInt ≤ 2147483647)) ∨ (x_31.toInt = 0)) from (by first | exact (om_1684 rx_31.1 rx_31.2) | ((first | omega | (unfold zBd at *; omega))))) hP9 hD9 hS
                  ·
                    as_aux_lemma =>
                      refine lv_iconst (pc := 84) (v := 0) hx hb dX12_share_84 (by decide) ?_
                      refine lv_goto (pc := 85) (tgt := 97) hx hb dX12_share_85 (by decide) ?_
                      have hP9 : va_P D gcl (zS_12 cB cC cI cJ a0 a1 x2 x3 x4 x5 x6 x7 x8 x9 a2 a3 a4 a5 a6 a7 a8 a9 a10 a11 a12 a13 a14 a15 a16 x10 x11 x12 x13 x14 x15 a17 a18 a19 x16 a20 x17 a21 x18 x19 a22 a23 a24 a25 x20 a26 x21 a27 a28 a29 y0 a30 a31 a32 a33 a34 a35 a36 a37 a38 x22 x23 x24 y1 a39 x25 a40 a41 a42 a43 x26 x27 x28 x29 a29 f_21 a18 f1 a28 f2) H := g_psub hP [0, 1, 2, 3] rfl
                      have hD9 : va_D A (zS_12 cB cC cI cJ a0 a1 x2 x3 x4 x5 x6 x7 x8 x9 a2 a3 a4 a5 a6 a7 a8 a9 a10 a11 a12 a13 a14 a15 a16 x10 x11 x12 x13 x14 x15 a17 a18 a19 x16 a20 x17 a21 x18 x19 a22 a23 a24 a25 x20 a26 x21 a27 a28 a29 y0 a30 a31 a32 a33 a34 a35 a36 a37 a38 x22 x23 x24 y1 a39 x25 a40 a41 a42 a43 x26 x27 x28 x29 a29 f_21 a18 f1 a28 f2) := hD.sub [0, 1, 2, 3] (by decide) rfl
                      exact hret 0 ((fun _ => 0), (fun k => [f_21].getD k (fun _ => 0)), (fun _ => (fun _ => 0)), (fun _ => 0), (fun _ => 0)) dX12_share_97 (show (((0 : Int32).toInt = (-1)) ∨ (((-2147483648) ≤ (0 : Int32).toInt ∧ (0 : Int32).toInt ≤ 2147483647)) ∨ ((0 : Int32).toInt = 0)) from (by first | exact (om_1685 tI_0) | (have k9 := tI_0; (first | omega | (unfold zBd at *; omega))))) hP9 hD9 hS
              ·
                as_aux_lemma =>
                  refine lv_ldc2 (pc := 35) hx hb hown (hts _ tw_1917) dX12_share_35 ?_
                  refine lv_lconst (pc := 38) (v := 1) hx hb dX12_share_38 (by decide) ?_
                  refine lv_aload_n (pc := 39) hx hb dX12_share_39 rfl (lv_at hl 3 rfl) ?_
                  refine lv_iload (pc := 40) hx hb dX12_share_40 (lv_at hl 0 rfl) ?_
                  refine gd_l (pc := 42) (wc := (zS_12 cB cC cI cJ a0 a1 x2 x3 x4 x5 x6 x7 x8 x9 a2 a3 a4 a5 a6 a7 a8 a9 a10 a11 a12 a13 a14 a15 a16 x10 x11 x12 x13 x14 x15 a17 a18 a19 x16 a20 x17 a21 x18 x19 a22 a23 a24 a25 x20 a26 x21 a27 a28 a29 y0 a30 a31 a32 a33 a34 a35 a36 a37 a38 x22 x23 x24 y1 a39 x25 a40 a41 a42 a43 x26 x27 x28 x29 a29 f_21 a18 f1 a28 f2)) hP hD hS hA [0, 1, 2, 3] rfl (by decide +kernel) (fun _ => by rfl) (fun hPc hDc => va_runV (As := [.int x_15]) (rest := [.long 1, .long 1000000000]) ⟨hx, hb, hml, hown, hts⟩ (k_X12_distanceOf_b l D cB cC cI cJ _ a0 a1 a2 a3 a4 a5 a6 a7 a8 a9 a10 a11 a12 a13 a14 a15 a16 a17 a18 a19 a20 a21 a22 a23 a24 a25 a26 a27 a28 a29 a30 a31 a32 a33 a34 a35 a36 a37 a38 a39 a40 a41 a42 a43 x_15 x2 x3 x4 x5 x6 x7 x8 x9 x10 x11 x12 x13 x14 x15 x16 x17 x18 x19 x20 x21 x22 x23 x24 x25 x26 x27 x28 x29 y0 y1 f_21 f1 f2 h_x2 h_x3 h_x4 h_x5 h_x6 h_x7 h_x10 h_x11 h_x12 h_x13 h_x14 h_x16 h_x17 h_x18 h_x20 h_x21 h_x22 h_x23 h_x24 h_x25 h_x26 h_x27 h_x28 h_x29 hr_a0_0 hr_a0_1 hr_a0_2 hf_f1 hf_f2) ⟨gcwB hts tw_1872 tw_14 tw_1869 hd_yX12_distanceOf ⟨Nat.le_of_ble_eq_true rfl, Nat.le_of_ble_eq_true rfl⟩, hts _ tw_1871, hts _ tp_101⟩ ⟨gblind, va_recv hK hPc (ci := 12) (q0 := 0) rfl rfl, (gpreS hPc hK hDc hN).2⟩ rfl rfl hl.1 rfl (lv_room (Nat.le_of_ble_eq_true rfl)) dX12_share_42 ⟨Nat.le_of_ble_eq_true rfl, Nat.le_of_ble_eq_true rfl⟩) (fun r_33 u_32 H locs hw_34 hP hD hS => ?_)
                  replace hP : va_P D gcl (zS_12 cB cC cI cJ a0 a1 x2 x3 x4 x5 x6 x7 x8 x9 a2 a3 a4 a5 a6 a7 a8 a9 a10 a11 a12 a13 a14 a15 a16 x10 x11 x12 x13 x14 x15 a17 a18 a19 x16 a20 x17 a21 x18 x19 a22 a23 a24 a25 x20 a26 x21 a27 a28 a29 y0 a30 a31 a32 a33 a34 a35 a36 a37 a38 x22 x23 x24 y1 a39 x25 a40 a41 a42 a43 x26 x27 x28 x29 a29 (u_32.2.1 0) a18 f1 a28 f2) H := hP
                  replace hD : va_D A (zS_12 cB cC cI cJ a0 a1 x2 x3 x4 x5 x6 x7 x8 x9 a2 a3 a4 a5 a6 a7 a8 a9 a10 a11 a12 a13 a14 a15 a16 x10 x11 x12 x13 x14 x15 a17 a18 a19 x16 a20 x17 a21 x18 x19 a22 a23 a24 a25 x20 a26 x21 a27 a28 a29 y0 a30 a31 a32 a33 a34 a35 a36 a37 a38 x22 x23 x24 y1 a39 x25 a40 a41 a42 a43 x26 x27 x28 x29 a29 (u_32.2.1 0) a18 f1 a28 f2) := hD
                  obtain ⟨hw_35, hw_36⟩ := hw_34
                  replace hw_35 : (0 ≤ r_33.toInt ∧ r_33.toInt ≤ 100000000000000) := hw_35
                  replace hw_36 : (0 ≤ r_33.toInt) := hw_36
                  have rr_33 := n_rngL r_33
                  refine b_ladd (pc := 45) hx hb tL_1 rfl (by first | exact (om_1686 rr_33.1) | ((first | omega | (unfold zBd at *; omega)))) (by first | exact (om_1687 hw_35.2) | ((first | omega | (unfold zBd at *; omega)))) dX12_share_45 (fun y_37 ey_37 => ?_)
                  refine lv_ldiv (pc := 46) hx hb dX12_share_46 (fun h => by have q := congrArg Int64.toInt h; have k := tL_0; (first | omega | (unfold zBd at *; omega))) ?_
                  refine lv_topl (fun y_38 _ => ?_)
                  have ry_38 := n_rngL y_38
                  refine lv_lstore (pc := 47) (lv' := [(8, .long y_38), (7, .int x_15), (5, .long y_17), (3, .long y_19), (0, .ref a0), (1, .int x0), (2, .int x1)]) hx hb dX12_share_47 hl (by decide) rfl (fun ls hl => ?_)
                  refine lv_lload (pc := 49) hx hb dX12_share_49 (lv_at hl 2 rfl) ?_
                  as_aux_lemma =>
                    refine lv_lload (pc := 51) hx hb dX12_share_51 (lv_at hl 0 rfl) ?_
                    refine lv_ladd (pc := 53) hx hb dX12_share_53 ?_
                    refine lv_topl (fun y_39 _ => ?_)
                    have ry_39 := n_rngL y_39
                    refine lv_lstore (pc := 54) (lv' := [(5, .long y_39), (8, .long y_38), (7, .int x_15), (3, .long y_19), (0, .ref a0), (1, .int x0), (2, .int x1)]) hx hb dX12_share_54 hl (by decide) rfl (fun ls hl => ?_)
                    refine lv_aload_n (pc := 56) hx hb dX12_share_56 rfl (lv_at hl 4 rfl) ?_
                    refine va_get (pc := 57) (ci := 12) (v := .ref a29) (C := RX12) (T := TX12) (N := 73) hx hb hts iX12 hown hK hP 0 rfl rfl 48 (by decide) (hts _ tw_1449) (fun _ h9 => h9) rfl dX12_share_57 ?_
                    refine lv_iload_n (pc := 60) hx hb dX12_share_60 rfl (lv_at hl 5 rfl) ?_
                    refine va_iald (pc := 61) hx hb hK hP 1 2 rfl rfl (n_in rfl (by first | exact (om_1557 c_7 hw_4.1 hw_5.1) | ((first | omega | (unfold zBd at *; omega)))) (by first | exact (om_1639 c_7 hw_4.1 hw_5.2 h_x11.2) | ((first | omega | (unfold zBd at *; omega))))) dX12_share_61 ?_
                    refine lv_topi (fun x_40 ex_40 => ?_)
                    have rx_40 : zBd x_40.toInt (-2147483648) 2147483647 := n_rng x_40
                    refine lv_iload_n (pc := 62) hx hb dX12_share_62 rfl (lv_at hl 6 rfl) ?_
                    as_aux_lemma =>
                      refine b_icmp_ne (pc := 63) (tgt := 71) hx hb rfl rfl  dX12_share_63 (by decide) (fun c_41 => ?_) (fun c_41 => ?_)
                      ·
                        as_aux_lemma =>
                          refine b_iinc (pc := 71) hx hb dX12_share_71 hl (k := 2) rfl rfl tI_1 (by first | exact (om_2 hi_16.1) | ((first | omega | (unfold zBd at *; omega)))) (by first | exact (om_1087 c_27 rr_24.2) | ((first | omega | (unfold zBd at *; omega)))) (by decide) (fun x_42 ex_42 ls hl => ?_)
                          replace hl : lv_has ls 10 [(7, .int x_42), (5, .long y_39), (8, .long y_38), (3, .long y_19), (0, .ref a0), (1, .int x0), (2, .int x1)] := hl
                          refine lv_goto (pc := 74) (tgt := 26) hx hb dX12_share_74 (by decide) ?_
                          exact ih_lp_22 x_42 y_39 y_19 (u_32.2.1 0) _ _ ls (by first | exact (om_1088 ex_42 hi_16.1 c_27 rr_24.2) | ((first | omega | (unfold zBd at *; omega)))) (by (first | omega | (unfold zBd at *; omega))) hP hD hS (lv_sub hl [0, 1, 3, 4, 5, 6] rfl)
                      ·
                        as_aux_lemma =>
                          refine lv_lload_n (pc := 66) hx hb dX12_share_66 rfl (lv_at hl 3 rfl) ?_
                          refine lv_lload (pc := 67) hx hb dX12_share_67 (lv_at hl 1 rfl) ?_
                          refine lv_ladd (pc := 69) hx hb dX12_share_69 ?_
                          refine lv_topl (fun y_43 _ => ?_)
                          have ry_43 := n_rngL y_43
                          refine lv_lstore_n (pc := 70) (lv' := [(3, .long y_43), (5, .long y_39), (8, .long y_38), (7, .int x_15), (0, .ref a0), (1, .int x0), (2, .int x1)]) hx hb dX12_share_70 rfl hl (by decide) rfl (fun ls hl => ?_)
                          refine b_iinc (pc := 71) hx hb dX12_share_71 hl (k := 3) rfl rfl tI_1 (by first | exact (om_2 hi_16.1) | ((first | omega | (unfold zBd at *; omega)))) (by first | exact (om_1087 c_27 rr_24.2) | ((first | omega | (unfold zBd at *; omega)))) (by decide) (fun x_44 ex_44 ls hl => ?_)
                          replace hl : lv_has ls 10 [(7, .int x_44), (3, .long y_43), (5, .long y_39), (8, .long y_38), (0, .ref a0), (1, .int x0), (2, .int x1)] := hl
                          refine lv_goto (pc := 74) (tgt := 26) hx hb dX12_share_74 (by decide) ?_
                          exact ih_lp_22 x_44 y_39 y_43 (u_32.2.1 0) _ _ ls (by first | exact (om_1088 ex_44 hi_16.1 c_27 rr_24.2) | ((first | omega | (unfold zBd at *; omega)))) (by (first | omega | (unfold zBd at *; omega))) hP hD hS (lv_sub hl [0, 2, 1, 4, 5, 6] rfl)
          exact lp_22 _ 0 0 0 f0 _ _ ls (n_c tI_0 (by decide)) (Nat.lt_succ_self _) hP hD hS (lv_sub hl [0, 1, 2, 3, 4, 5] rfl)
      ·
        as_aux_lemma =>
          refine lv_iconst (pc := 16) (v := (-1)) hx hb dX12_share_16 (by decide) ?_
          have hP9 : va_P D gcl (zS_12 cB cC cI cJ a0 a1 x2 x3 x4 x5 x6 x7 x8 x9 a2 a3 a4 a5 a6 a7 a8 a9 a10 a11 a12 a13 a14 a15 a16 x10 x11 x12 x13 x14 x15 a17 a18 a19 x16 a20 x17 a21 x18 x19 a22 a23 a24 a25 x20 a26 x21 a27 a28 a29 y0 a30 a31 a32 a33 a34 a35 a36 a37 a38 x22 x23 x24 y1 a39 x25 a40 a41 a42 a43 x26 x27 x28 x29 a29 f0 a18 f1 a28 f2) H := g_psub hP [0, 1, 2, 3] rfl
          have hD9 : va_D A (zS_12 cB cC cI cJ a0 a1 x2 x3 x4 x5 x6 x7 x8 x9 a2 a3 a4 a5 a6 a7 a8 a9 a10 a11 a12 a13 a14 a15 a16 x10 x11 x12 x13 x14 x15 a17 a18 a19 x16 a20 x17 a21 x18 x19 a22 a23 a24 a25 x20 a26 x21 a27 a28 a29 y0 a30 a31 a32 a33 a34 a35 a36 a37 a38 x22 x23 x24 y1 a39 x25 a40 a41 a42 a43 x26 x27 x28 x29 a29 f0 a18 f1 a28 f2) := hD.sub [0, 1, 2, 3] (by decide) rfl
          exact hret (-1) ((fun _ => 0), (fun k => [f0].getD k (fun _ => 0)), (fun _ => (fun _ => 0)), (fun _ => 0), (fun _ => 0)) dX12_share_17 (show ((((-1) : Int32).toInt = (-1)) ∨ (((-2147483648) ≤ ((-1) : Int32).toInt ∧ ((-1) : Int32).toInt ≤ 2147483647)) ∨ (((-1) : Int32).toInt = 0)) from (by first | exact (om_1683 tI_m1) | (have k9 := tI_m1; (first | omega | (unfold zBd at *; omega))))) hP9 hD9 hS
theorem om_1688 {a : Int} (h0 : ((-9223372036854775808) ≤ a)) (h1 : (a ≤ 9223372036854775807)) : (((((-9223372036854775808) ≤ a ∧ a ≤ 9223372036854775807)) ∨ (a = (-1)))) := by omega
theorem om_1689 {a : Int} (h0 : (a = (-1))) : (((((-9223372036854775808) ≤ a ∧ a ≤ 9223372036854775807)) ∨ (a = (-1)))) := by omega
set_option maxHeartbeats 4000000 in
set_option maxRecDepth 100000 in
theorem k_X12_sure (l : Launch) (D : va_G) (cB cC cI cJ : ClassId) (sz : Nat) (a0 a1 a2 a3 a4 a5 a6 a7 a8 a9 a10 a11 a12 a13 a14 a15 a16 a17 a18 a19 a20 a21 a22 a23 a24 a25 a26 a27 a28 a29 a30 a31 a32 a33 a34 a35 a36 a37 a38 a39 a40 a41 a42 a43 : Nat) (x0 x1 x2 x3 x4 x5 x6 x7 x8 x9 x10 x11 x12 x13 x14 x15 x16 x17 x18 x19 x20 x21 x22 x23 x24 x25 x26 x27 x28 : Int32) (y0 y1 : Int64) (f0 f1 f2 f3 : Nat → Int32) (g0 : Nat → Int64) (h_x1 : zBd x1.toInt 0 1600) (h_x2 : zBd x2.toInt 0 1600) (h_x3 : zBd x3.toInt 0 1600) (h_x4 : zBd x4.toInt (-1) 1600) (h_x5 : zBd x5.toInt 0 4) (h_x6 : zBd x6.toInt (-1) 1600) (h_x9 : zBd x9.toInt 0 8) (h_x10 : zBd x10.toInt 0 5) (h_x11 : zBd x11.toInt 0 6) (h_x12 : zBd x12.toInt 0 6) (h_x13 : zBd x13.toInt 0 16) (h_x15 : zBd x15.toInt 0 60) (h_x16 : zBd x16.toInt 0 1600) (h_x17 : zBd x17.toInt 0 1700) (h_x19 : zBd x19.toInt 0 1700) (h_x20 : zBd x20.toInt 0 1700) (h_x21 : zBd x21.toInt 0 200) (h_x22 : zBd x22.toInt 0 40) (h_x23 : zBd x23.toInt 0 40) (h_x24 : zBd x24.toInt 0 1) (h_x25 : zBd x25.toInt 0 14) (h_x26 : zBd x26.toInt 0 200) (h_x27 : zBd x27.toInt 0 40) (h_x28 : zBd x28.toInt 0 40) (hr_a0_0 : (x22.toInt ≤ x21.toInt)) (hr_a0_1 : (x21.toInt + x23.toInt ≤ 200)) (hr_a0_2 : (x10.toInt = 0 ∨ 2 ≤ x9.toInt)) (hf_f1 : (∀ j, (-9999) ≤ (f1 j).toInt ∧ (f1 j).toInt ≤ 9999)) (hf_f2 : (∀ j, (-1100000) ≤ (f2 j).toInt ∧ (f2 j).toInt ≤ 1100000)) : Met l yX12_sure (.code yX12_sure cX12_sure 11 (some .long) :: lw_gd) ({ frames := 4, cells := 0, slots := 0, locals := 96 }) (gPre D [(cB, .byte), (cC, .char), (cI, .int), (cJ, .long)] [.ref a0, .int x0] (zS_8 cB cC cI cJ a0 a1 x1 x2 x3 x4 x5 x6 x7 x8 a2 a3 a4 a5 a6 a7 a8 a9 a10 a11 a12 a13 a14 a15 a16 x9 x10 x11 x12 x13 x14 a17 a18 a19 x15 a20 x16 a21 x17 x18 a22 a23 a24 a25 x19 a26 x20 a27 a28 a29 y0 a30 a31 a32 a33 a34 a35 a36 a37 a38 x21 x22 x23 y1 a39 x24 a40 a41 a42 a43 x25 x26 x27 x28 a29 f0 a18 f1 a28 f2 a30 g0 a31 f3) sz) (va_Ql (fun r u => ((((-9223372036854775808) ≤ r.toInt ∧ r.toInt ≤ 9223372036854775807)) ∨ (r.toInt = (-1)))) (gB D (va_A (zS_8 cB cC cI cJ a0 a1 x1 x2 x3 x4 x5 x6 x7 x8 a2 a3 a4 a5 a6 a7 a8 a9 a10 a11 a12 a13 a14 a15 a16 x9 x10 x11 x12 x13 x14 a17 a18 a19 x15 a20 x16 a21 x17 x18 a22 a23 a24 a25 x19 a26 x20 a27 a28 a29 y0 a30 a31 a32 a33 a34 a35 a36 a37 a38 x21 x22 x23 y1 a39 x24 a40 a41 a42 a43 x25 x26 x27 x28 a29 f0 a18 f1 a28 f2 a30 g0 a31 f3) sz) (fun u : gEx => (zS_8 cB cC cI cJ a0 a1 x1 x2 x3 x4 x5 x6 x7 x8 a2 a3 a4 a5 a6 a7 a8 a9 a10 a11 a12 a13 a14 a15 a16 x9 x10 x11 x12 x13 x14 a17 a18 a19 x15 a20 x16 a21 x17 x18 a22 a23 a24 a25 x19 a26 x20 a27 a28 a29 y0 a30 a31 a32 a33 a34 a35 a36 a37 a38 x21 x22 x23 y1 a39 x24 a40 a41 a42 a43 x25 x26 x27 x28 a29 (u.2.1 0) a18 f1 a28 f2 a30 (u.2.2.1 0) a31 (u.2.1 1)))) (va_A (zS_8 cB cC cI cJ a0 a1 x1 x2 x3 x4 x5 x6 x7 x8 a2 a3 a4 a5 a6 a7 a8 a9 a10 a11 a12 a13 a14 a15 a16 x9 x10 x11 x12 x13 x14 a17 a18 a19 x15 a20 x16 a21 x17 x18 a22 a23 a24 a25 x19 a26 x20 a27 a28 a29 y0 a30 a31 a32 a33 a34 a35 a36 a37 a38 x21 x22 x23 y1 a39 x24 a40 a41 a42 a43 x25 x26 x27 x28 a29 f0 a18 f1 a28 f2 a30 g0 a31 f3) sz)) 0 0 (va_A (zS_8 cB cC cI cJ a0 a1 x1 x2 x3 x4 x5 x6 x7 x8 a2 a3 a4 a5 a6 a7 a8 a9 a10 a11 a12 a13 a14 a15 a16 x9 x10 x11 x12 x13 x14 a17 a18 a19 x15 a20 x16 a21 x17 x18 a22 a23 a24 a25 x19 a26 x20 a27 a28 a29 y0 a30 a31 a32 a33 a34 a35 a36 a37 a38 x21 x22 x23 y1 a39 x24 a40 a41 a42 a43 x25 x26 x27 x28 a29 f0 a18 f1 a28 f2 a30 g0 a31 f3) sz) := by
  refine gOf_l (by decide +kernel) (Nat.le_of_ble_eq_true rfl) ?_
  intro p e s m args below meth c ls A Q hx hb hts hown hml hN hK hP hD hA hl hret
  replace hown : s.vm.findClass RX12 = some m.cls := hown
  have hS : va_S A s.heap s.heap [] := va_S.rf
  replace hP : va_P D gcl (zS_8 cB cC cI cJ a0 a1 x1 x2 x3 x4 x5 x6 x7 x8 a2 a3 a4 a5 a6 a7 a8 a9 a10 a11 a12 a13 a14 a15 a16 x9 x10 x11 x12 x13 x14 a17 a18 a19 x15 a20 x16 a21 x17 x18 a22 a23 a24 a25 x19 a26 x20 a27 a28 a29 y0 a30 a31 a32 a33 a34 a35 a36 a37 a38 x21 x22 x23 y1 a39 x24 a40 a41 a42 a43 x25 x26 x27 x28 a29 f0 a18 f1 a28 f2 a30 g0 a31 f3) s.heap := hP
  replace hl : lv_has ls 11 [(0, .ref a0), (1, .int x0)] := hl
  have rx0 : zBd x0.toInt (-2147483648) 2147483647 := n_rng x0
  have rx7 : zBd x7.toInt (-2147483648) 2147483647 := n_rng x7
  have rx8 : zBd x8.toInt (-2147483648) 2147483647 := n_rng x8
  have rx14 : zBd x14.toInt (-2147483648) 2147483647 := n_rng x14
  have rx18 : zBd x18.toInt (-2147483648) 2147483647 := n_rng x18
  have ry0 := n_rngL y0
  have ry1 := n_rngL y1
  refine lv_aload_n (pc := 0) hx hb dX12_sure_0 rfl (lv_at hl 0 rfl) ?_
  refine lv_iload_n (pc := 1) hx hb dX12_sure_1 rfl (lv_at hl 1 rfl) ?_
  refine gd_i (pc := 2) (wc := (zS_4 cB cC cI cJ a0 a1 x1 x2 x3 x4 x5 x6 x7 x8 a2 a3 a4 a5 a6 a7 a8 a9 a10 a11 a12 a13 a14 a15 a16 x9 x10 x11 x12 x13 x14 a17 a18 a19 x15 a20 x16 a21 x17 x18 a22 a23 a24 a25 x19 a26 x20 a27 a28 a29 y0 a30 a31 a32 a33 a34 a35 a36 a37 a38 x21 x22 x23 y1 a39 x24 a40 a41 a42 a43 x25 x26 x27 x28)) hP hD hS hA [0] rfl (by decide +kernel) (fun _ => by rfl) (fun hPc hDc => va_runV (As := [.int x0]) (rest := []) ⟨hx, hb, hml, hown, hts⟩ (k_X12_isSender l D cB cC cI cJ _ a0 a1 a2 a3 a4 a5 a6 a7 a8 a9 a10 a11 a12 a13 a14 a15 a16 a17 a18 a19 a20 a21 a22 a23 a24 a25 a26 a27 a28 a29 a30 a31 a32 a33 a34 a35 a36 a37 a38 a39 a40 a41 a42 a43 x0 x1 x2 x3 x4 x5 x6 x7 x8 x9 x10 x11 x12 x13 x14 x15 x16 x17 x18 x19 x20 x21 x22 x23 x24 x25 x26 x27 x28 y0 y1 h_x1 h_x2 h_x3 h_x4 h_x5 h_x6 h_x9 h_x10 h_x11 h_x12 h_x13 h_x15 h_x16 h_x17 h_x19 h_x20 h_x21 h_x22 h_x23 h_x24 h_x25 h_x26 h_x27 h_x28 hr_a0_0 hr_a0_1 hr_a0_2) ⟨gcwB hts tw_1782 tw_14 tw_1779 hd_yX12_isSender ⟨Nat.le_of_ble_eq_true rfl, Nat.le_of_ble_eq_true rfl⟩, hts _ tw_1781, hts _ tp_90⟩ ⟨gblind, va_recv hK hPc (ci := 12) (q0 := 0) rfl rfl, (gpreS hPc hK hDc hN).2⟩ rfl rfl hl.1 rfl (lv_room (Nat.le_of_ble_eq_true rfl)) dX12_sure_2 ⟨Nat.le_of_ble_eq_true rfl, Nat.le_of_ble_eq_true rfl⟩) (fun r_2 u_1 H locs hw_3 hP hD hS => ?_)
  replace hP : va_P D gcl (zS_8 cB cC cI cJ a0 a1 x1 x2 x3 x4 x5 x6 x7 x8 a2 a3 a4 a5 a6 a7 a8 a9 a10 a11 a12 a13 a14 a15 a16 x9 x10 x11 x12 x13 x14 a17 a18 a19 x15 a20 x16 a21 x17 x18 a22 a23 a24 a25 x19 a26 x20 a27 a28 a29 y0 a30 a31 a32 a33 a34 a35 a36 a37 a38 x21 x22 x23 y1 a39 x24 a40 a41 a42 a43 x25 x26 x27 x28 a29 f0 a18 f1 a28 f2 a30 g0 a31 f3) H := hP
  replace hD : va_D A (zS_8 cB cC cI cJ a0 a1 x1 x2 x3 x4 x5 x6 x7 x8 a2 a3 a4 a5 a6 a7 a8 a9 a10 a11 a12 a13 a14 a15 a16 x9 x10 x11 x12 x13 x14 a17 a18 a19 x15 a20 x16 a21 x17 x18 a22 a23 a24 a25 x19 a26 x20 a27 a28 a29 y0 a30 a31 a32 a33 a34 a35 a36 a37 a38 x21 x22 x23 y1 a39 x24 a40 a41 a42 a43 x25 x26 x27 x28 a29 f0 a18 f1 a28 f2 a30 g0 a31 f3) := hD
  obtain ⟨hw_4, hw_5, hw_6⟩ := hw_3
  replace hw_4 : (0 ≤ r_2.toInt ∧ r_2.toInt ≤ 1) := hw_4
  replace hw_5 : (-x0.toInt ≤ 4294967296 - 4294967296 * r_2.toInt ∧ x0.toInt ≤ x10.toInt - 1 + 4294967296 - 4294967296 * r_2.toInt) := hw_5
  replace hw_6 : (inQ r_2.toInt x0.toInt x10.toInt) := hw_6
  have rr_2 : zBd r_2.toInt (-2147483648) 2147483647 := n_rng r_2
  refine b_if_ne (pc := 5) (tgt := 12) hx hb rfl  dX12_sure_5 (by decide) (fun c_7 => ?_) (fun c_7 => ?_)
  ·
    as_aux_lemma =>
      refine lv_aload_n (pc := 12) hx hb dX12_sure_12 rfl (lv_at hl 0 rfl) ?_
      refine lv_iconst (pc := 13) (v := 1) hx hb dX12_sure_13 (by decide) ?_
      refine gd_i (pc := 14) (wc := (zS_8 cB cC cI cJ a0 a1 x1 x2 x3 x4 x5 x6 x7 x8 a2 a3 a4 a5 a6 a7 a8 a9 a10 a11 a12 a13 a14 a15 a16 x9 x10 x11 x12 x13 x14 a17 a18 a19 x15 a20 x16 a21 x17 x18 a22 a23 a24 a25 x19 a26 x20 a27 a28 a29 y0 a30 a31 a32 a33 a34 a35 a36 a37 a38 x21 x22 x23 y1 a39 x24 a40 a41 a42 a43 x25 x26 x27 x28 a29 f0 a18 f1 a28 f2 a30 g0 a31 f3)) hP hD hS hA [0, 1, 2, 3, 4, 5] rfl (by decide +kernel) (fun _ => by rfl) (fun hPc hDc => va_runV (As := [.int 1]) (rest := []) ⟨hx, hb, hml, hown, hts⟩ (k_X12_nears l D cB cC cI cJ _ a0 a1 a2 a3 a4 a5 a6 a7 a8 a9 a10 a11 a12 a13 a14 a15 a16 a17 a18 a19 a20 a21 a22 a23 a24 a25 a26 a27 a28 a29 a30 a31 a32 a33 a34 a35 a36 a37 a38 a39 a40 a41 a42 a43 1 x1 x2 x3 x4 x5 x6 x7 x8 x9 x10 x11 x12 x13 x14 x15 x16 x17 x18 x19 x20 x21 x22 x23 x24 x25 x26 x27 x28 y0 y1 f0 f1 f2 f3 g0 (n_c tI_1 (by decide)) h_x1 h_x2 h_x3 h_x4 h_x5 h_x6 h_x9 h_x10 h_x11 h_x12 h_x13 h_x15 h_x16 h_x17 h_x19 h_x20 h_x21 h_x22 h_x23 h_x24 h_x25 h_x26 h_x27 h_x28 hr_a0_0 hr_a0_1 hr_a0_2 hf_f1 hf_f2) ⟨gcwB hts tw_1864 tw_14 tw_1861 hd_yX12_nears ⟨Nat.le_of_ble_eq_true rfl, Nat.le_of_ble_eq_true rfl⟩, hts _ tw_1863, hts _ tp_99⟩ ⟨gblind, va_recv hK hPc (ci := 12) (q0 := 0) rfl rfl, (gpreS hPc hK hDc hN).2⟩ rfl rfl hl.1 rfl (lv_room (Nat.le_of_ble_eq_true rfl)) dX12_sure_14 ⟨Nat.le_of_ble_eq_true rfl, Nat.le_of_ble_eq_true rfl⟩) (fun r_9 u_8 H locs hw_10 hP hD hS => ?_)
      replace hP : va_P D gcl (zS_8 cB cC cI cJ a0 a1 x1 x2 x3 x4 x5 x6 x7 x8 a2 a3 a4 a5 a6 a7 a8 a9 a10 a11 a12 a13 a14 a15 a16 x9 x10 x11 x12 x13 x14 a17 a18 a19 x15 a20 x16 a21 x17 x18 a22 a23 a24 a25 x19 a26 x20 a27 a28 a29 y0 a30 a31 a32 a33 a34 a35 a36 a37 a38 x21 x22 x23 y1 a39 x24 a40 a41 a42 a43 x25 x26 x27 x28 a29 (u_8.2.1 0) a18 f1 a28 f2 a30 (u_8.2.2.1 0) a31 (u_8.2.1 1)) H := hP
      replace hD : va_D A (zS_8 cB cC cI cJ a0 a1 x1 x2 x3 x4 x5 x6 x7 x8 a2 a3 a4 a5 a6 a7 a8 a9 a10 a11 a12 a13 a14 a15 a16 x9 x10 x11 x12 x13 x14 a17 a18 a19 x15 a20 x16 a21 x17 x18 a22 a23 a24 a25 x19 a26 x20 a27 a28 a29 y0 a30 a31 a32 a33 a34 a35 a36 a37 a38 x21 x22 x23 y1 a39 x24 a40 a41 a42 a43 x25 x26 x27 x28 a29 (u_8.2.1 0) a18 f1 a28 f2 a30 (u_8.2.2.1 0) a31 (u_8.2.1 1)) := hD
      have hw_11 : (((0 ≤ r_9.toInt ∧ r_9.toInt ≤ 10))) := hw_10
      have kk0_r_9 := tI_1
      have rr_9 : zBd r_9.toInt (-2147483648) 2147483647 := n_rng r_9
      refine lv_istore_n (pc := 17) (lv' := [(2, .int r_9), (0, .ref a0), (1, .int x0)]) hx hb dX12_sure_17 rfl hl (by decide) rfl (fun ls hl => ?_)
      refine lv_aload_n (pc := 18) hx hb dX12_sure_18 rfl (lv_at hl 1 rfl) ?_
      refine va_get (pc := 19) (ci := 12) (v := .ref a30) (C := RX12) (T := TX12) (N := 73) hx hb hts iX12 hown hK hP 0 rfl rfl 50 (by decide) (hts _ tw_1451) (fun _ h9 => h9) rfl dX12_sure_19 ?_
      refine lv_iconst (pc := 22) (v := 0) hx hb dX12_sure_22 (by decide) ?_
      refine va_lald (pc := 23) hx hb hK hP 4 3 rfl rfl (gin rfl) dX12_sure_23 ?_
      refine lv_topl (fun y_12 ey_12 => ?_)
      have ry_12 := n_rngL y_12
      refine lv_lstore_n (pc := 24) (lv' := [(3, .long y_12), (2, .int r_9), (0, .ref a0), (1, .int x0)]) hx hb dX12_sure_24 rfl hl (by decide) rfl (fun ls hl => ?_)
      as_aux_lemma =>
        refine lv_aload_n (pc := 25) hx hb dX12_sure_25 rfl (lv_at hl 2 rfl) ?_
        refine lv_aload_n (pc := 26) hx hb dX12_sure_26 rfl (lv_at hl 2 rfl) ?_
        refine va_get (pc := 27) (ci := 12) (v := .ref a31) (C := RX12) (T := TX12) (N := 73) hx hb hts iX12 hown hK hP 0 rfl rfl 51 (by decide) (hts _ tw_1452) (fun _ h9 => h9) rfl dX12_sure_27 ?_
        refine lv_iconst (pc := 30) (v := 0) hx hb dX12_sure_30 (by decide) ?_
        refine va_iald (pc := 31) hx hb hK hP 5 2 rfl rfl (gin rfl) dX12_sure_31 ?_
        refine lv_topi (fun x_13 ex_13 => ?_)
        have rx_13 : zBd x_13.toInt (-2147483648) 2147483647 := n_rng x_13
        refine gd_v (pc := 32) (wc := (zS_33 cB cC cI cJ a0 a1 x1 x2 x3 x4 x5 x6 x7 x8 a2 a3 a4 a5 a6 a7 a8 a9 a10 a11 a12 a13 a14 a15 a16 x9 x10 x11 x12 x13 x14 a17 a18 a19 x15 a20 x16 a21 x17 x18 a22 a23 a24 a25 x19 a26 x20 a27 a28 a29 y0 a30 a31 a32 a33 a34 a35 a36 a37 a38 x21 x22 x23 y1 a39 x24 a40 a41 a42 a43 x25 x26 x27 x28 a29 (u_8.2.1 0))) hP hD hS hA [0, 1] rfl (by decide +kernel) (fun _ => by rfl) (fun hPc hDc => va_runV (As := [.int x_13]) (rest := []) ⟨hx, hb, hml, hown, hts⟩ (k_X12_rowIs l D cB cC cI cJ _ a0 a1 a2 a3 a4 a5 a6 a7 a8 a9 a10 a11 a12 a13 a14 a15 a16 a17 a18 a19 a20 a21 a22 a23 a24 a25 a26 a27 a28 a29 a30 a31 a32 a33 a34 a35 a36 a37 a38 a39 a40 a41 a42 a43 x_13 x1 x2 x3 x4 x5 x6 x7 x8 x9 x10 x11 x12 x13 x14 x15 x16 x17 x18 x19 x20 x21 x22 x23 x24 x25 x26 x27 x28 y0 y1 (u_8.2.1 0) h_x1 h_x2 h_x3 h_x4 h_x5 h_x6 h_x9 h_x10 h_x11 h_x12 h_x13 h_x15 h_x16 h_x17 h_x19 h_x20 h_x21 h_x22 h_x23 h_x24 h_x25 h_x26 h_x27 h_x28 hr_a0_0 hr_a0_1 hr_a0_2) ⟨gcwB hts tw_1876 tw_14 tw_1873 hd_yX12_rowIs ⟨Nat.le_of_ble_eq_true rfl, Nat.le_of_ble_eq_true rfl⟩, hts _ tw_1875, hts _ tp_102⟩ ⟨gblind, va_recv hK hPc (ci := 12) (q0 := 0) rfl rfl, (gpreS hPc hK hDc hN).2⟩ rfl rfl hl.1 rfl (lv_room (Nat.le_of_ble_eq_true rfl)) dX12_sure_32 ⟨Nat.le_of_ble_eq_true rfl, Nat.le_of_ble_eq_true rfl⟩) (fun u_14 H locs hw_16 hP hD hS => ?_)
        replace hP : va_P D gcl (zS_8 cB cC cI cJ a0 a1 x1 x2 x3 x4 x5 x6 x7 x8 a2 a3 a4 a5 a6 a7 a8 a9 a10 a11 a12 a13 a14 a15 a16 x9 x10 x11 x12 x13 x14 a17 a18 a19 x15 a20 x16 a21 x17 x18 a22 a23 a24 a25 x19 a26 x20 a27 a28 a29 y0 a30 a31 a32 a33 a34 a35 a36 a37 a38 x21 x22 x23 y1 a39 x24 a40 a41 a42 a43 x25 x26 x27 x28 a29 (u_14.2.1 0) a18 f1 a28 f2 a30 (u_8.2.2.1 0) a31 (u_8.2.1 1)) H := hP
        replace hD : va_D A (zS_8 cB cC cI cJ a0 a1 x1 x2 x3 x4 x5 x6 x7 x8 a2 a3 a4 a5 a6 a7 a8 a9 a10 a11 a12 a13 a14 a15 a16 x9 x10 x11 x12 x13 x14 a17 a18 a19 x15 a20 x16 a21 x17 x18 a22 a23 a24 a25 x19 a26 x20 a27 a28 a29 y0 a30 a31 a32 a33 a34 a35 a36 a37 a38 x21 x22 x23 y1 a39 x24 a40 a41 a42 a43 x25 x26 x27 x28 a29 (u_14.2.1 0) a18 f1 a28 f2 a30 (u_8.2.2.1 0) a31 (u_8.2.1 1)) := hD
        have hw_17 : (RB (u_14.2.1 0) 0 x10.toInt) := hw_16
        refine lv_aload_n (pc := 35) hx hb dX12_sure_35 rfl (lv_at hl 2 rfl) ?_
        refine va_get (pc := 36) (ci := 12) (v := .ref a29) (C := RX12) (T := TX12) (N := 73) hx hb hts iX12 hown hK hP 0 rfl rfl 48 (by decide) (hts _ tw_1449) (fun _ h9 => h9) rfl dX12_sure_36 ?_
        refine lv_iload_n (pc := 39) hx hb dX12_sure_39 rfl (lv_at hl 3 rfl) ?_
        as_aux_lemma =>
          refine va_iald (pc := 40) hx hb hK hP 1 2 rfl rfl (n_in rfl (by first | exact (om_1557 c_7 hw_4.1 hw_5.1) | ((first | omega | (unfold zBd at *; omega)))) (by first | exact (om_1639 c_7 hw_4.1 hw_5.2 h_x10.2) | ((first | omega | (unfold zBd at *; omega))))) dX12_sure_40 ?_
          refine lv_topi (fun x_18 ex_18 => ?_)
          have rx_18 : zBd x_18.toInt (-2147483648) 2147483647 := n_rng x_18
          refine lv_istore (pc := 41) (lv' := [(5, .int x_18), (3, .long y_12), (2, .int r_9), (0, .ref a0), (1, .int x0)]) hx hb dX12_sure_41 hl (by decide) rfl (fun ls hl => ?_)
          refine lv_ldc2 (pc := 43) hx hb hown (hts _ tw_1838) dX12_sure_43 ?_
          refine lv_lstore (pc := 46) (lv' := [(6, .long (-1)), (5, .int x_18), (3, .long y_12), (2, .int r_9), (0, .ref a0), (1, .int x0)]) hx hb dX12_sure_46 hl (by decide) rfl (fun ls hl => ?_)
          refine lv_iconst (pc := 48) (v := 0) hx hb dX12_sure_48 (by decide) ?_
          refine lv_istore (pc := 49) (lv' := [(8, .int 0), (6, .long (-1)), (5, .int x_18), (3, .long y_12), (2, .int r_9), (0, .ref a0), (1, .int x0)]) hx hb dX12_sure_49 hl (by decide) rfl (fun ls hl => ?_)
          have lp_24 : ∀ (n : Nat) (x_19 : Int32) (y_21 : Int64) (f_23 : Nat → Int32) (H : Heap) (locs : List Loc) (ls : Array Slot), (0 ≤ x_19.toInt ∧ x_19.toInt ≤ 2147483647) → (2147483647 - x_19.toInt).toNat < n → va_P D gcl (zS_8 cB cC cI cJ a0 a1 x1 x2 x3 x4 x5 x6 x7 x8 a2 a3 a4 a5 a6 a7 a8 a9 a10 a11 a12 a13 a14 a15 a16 x9 x10 x11 x12 x13 x14 a17 a18 a19 x15 a20 x16 a21 x17 x18 a22 a23 a24 a25 x19 a26 x20 a27 a28 a29 y0 a30 a31 a32 a33 a34 a35 a36 a37 a38 x21 x22 x23 y1 a39 x24 a40 a41 a42 a43 x25 x26 x27 x28 a29 f_23 a18 f1 a28 f2 a30 (u_8.2.2.1 0) a31 (u_8.2.1 1)) H → va_D A (zS_8 cB cC cI cJ a0 a1 x1 x2 x3 x4 x5 x6 x7 x8 a2 a3 a4 a5 a6 a7 a8 a9 a10 a11 a12 a13 a14 a15 a16 x9 x10 x11 x12 x13 x14 a17 a18 a19 x15 a20 x16 a21 x17 x18 a22 a23 a24 a25 x19 a26 x20 a27 a28 a29 y0 a30 a31 a32 a33 a34 a35 a36 a37 a38 x21 x22 x23 y1 a39 x24 a40 a41 a42 a43 x25 x26 x27 x28 a29 f_23 a18 f1 a28 f2 a30 (u_8.2.2.1 0) a31 (u_8.2.1 1)) → va_S A s.heap H locs → lv_has ls 11 [(8, .int x_19), (6, .long y_21), (5, .int x_18), (3, .long y_12), (2, .int r_9), (0, .ref a0), (1, .int x0)] → W p l e ({ frames := 4, cells := 0, slots := 0, locals := 96 }) s m args below meth c H locs 0 0 Q (F0 m 51 ls []) := by
            intro n
            induction n with
            | zero => intro x_19 y_21 f_23 H locs ls hi_20 hmu; exact absurd hmu (Nat.not_lt_zero _)
            | succ n ih_lp_24 =>
              intro x_19 y_21 f_23 H locs ls hi_20 hmu_lp_24 hP hD hS hl
              have hi_22 := n_rngL y_21
              refine lv_iload (pc := 51) hx hb dX12_sure_51 (lv_at hl 0 rfl) ?_
              refine lv_aload_n (pc := 53) hx hb dX12_sure_53 rfl (lv_at hl 5 rfl) ?_
              refine gd_i (pc := 54) (wc := (zS_4 cB cC cI cJ a0 a1 x1 x2 x3 x4 x5 x6 x7 x8 a2 a3 a4 a5 a6 a7 a8 a9 a10 a11 a12 a13 a14 a15 a16 x9 x10 x11 x12 x13 x14 a17 a18 a19 x15 a20 x16 a21 x17 x18 a22 a23 a24 a25 x19 a26 x20 a27 a28 a29 y0 a30 a31 a32 a33 a34 a35 a36 a37 a38 x21 x22 x23 y1 a39 x24 a40 a41 a42 a43 x25 x26 x27 x28)) hP hD hS hA [0] rfl (by decide +kernel) (fun _ => by rfl) (fun hPc hDc => va_runV (As := []) (rest := [.int x_19]) ⟨hx, hb, hml, hown, hts⟩ (k_X12_rowMany l D cB cC cI cJ _ a0 a1 a2 a3 a4 a5 a6 a7 a8 a9 a10 a11 a12 a13 a14 a15 a16 a17 a18 a19 a20 a21 a22 a23 a24 a25 a26 a27 a28 a29 a30 a31 a32 a33 a34 a35 a36 a37 a38 a39 a40 a41 a42 a43 x1 x2 x3 x4 x5 x6 x7 x8 x9 x10 x11 x12 x13 x14 x15 x16 x17 x18 x19 x20 x21 x22 x23 x24 x25 x26 x27 x28 y0 y1 h_x1 h_x2 h_x3 h_x4 h_x5 h_x6 h_x9 h_x10 h_x11 h_x12 h_x13 h_x15 h_x16 h_x17 h_x19 h_x20 h_x21 h_x22 h_x23 h_x24 h_x25 h_x26 h_x27 h_x28 hr_a0_0 hr_a0_1 hr_a0_2) ⟨gcwB hts tw_1868 tw_14 tw_1865 hd_yX12_rowMany ⟨Nat.le_of_ble_eq_true rfl, Nat.le_of_ble_eq_true rfl⟩, hts _ tw_1867, hts _ tp_100⟩ ⟨gblind, va_recv hK hPc (ci := 12) (q0 := 0) rfl rfl, (gpreS hPc hK hDc hN).2⟩ rfl rfl hl.1 rfl (lv_room (Nat.le_of_ble_eq_true rfl)) dX12_sure_54 ⟨Nat.le_of_ble_eq_true rfl, Nat.le_of_ble_eq_true rfl⟩) (fun r_26 u_25 H locs hw_27 hP hD hS => ?_)
              replace hP : va_P D gcl (zS_8 cB cC cI cJ a0 a1 x1 x2 x3 x4 x5 x6 x7 x8 a2 a3 a4 a5 a6 a7 a8 a9 a10 a11 a12 a13 a14 a15 a16 x9 x10 x11 x12 x13 x14 a17 a18 a19 x15 a20 x16 a21 x17 x18 a22 a23 a24 a25 x19 a26 x20 a27 a28 a29 y0 a30 a31 a32 a33 a34 a35 a36 a37 a38 x21 x22 x23 y1 a39 x24 a40 a41 a42 a43 x25 x26 x27 x28 a29 f_23 a18 f1 a28 f2 a30 (u_8.2.2.1 0) a31 (u_8.2.1 1)) H := hP
              replace hD : va_D A (zS_8 cB cC cI cJ a0 a1 x1 x2 x3 x4 x5 x6 x7 x8 a2 a3 a4 a5 a6 a7 a8 a9 a10 a11 a12 a13 a14 a15 a16 x9 x10 x11 x12 x13 x14 a17 a18 a19 x15 a20 x16 a21 x17 x18 a22 a23 a24 a25 x19 a26 x20 a27 a28 a29 y0 a30 a31 a32 a33 a34 a35 a36 a37 a38 x21 x22 x23 y1 a39 x24 a40 a41 a42 a43 x25 x26 x27 x28 a29 f_23 a18 f1 a28 f2 a30 (u_8.2.2.1 0) a31 (u_8.2.1 1)) := hD
              have hw_28 : ((((-2147483648) ≤ r_26.toInt ∧ r_26.toInt ≤ 2147483647) ∧ ¬ x10.toInt = 0 ∧ (1 ≤ x10.toInt ∧ x10.toInt ≤ 5)) ∨ (r_26.toInt = 0 ∧ x10.toInt = 0)) := hw_27
              have rr_26 : zBd r_26.toInt (-2147483648) 2147483647 := n_rng r_26
              refine b_icmp_ge (pc := 57) (tgt := 104) hx hb rfl rfl  dX12_sure_57 (by decide) (fun c_29 => ?_) (fun c_29 => ?_)
              ·
                as_aux_lemma =>
                  refine lv_lload (pc := 104) hx hb dX12_sure_104 (lv_at hl 1 rfl) ?_
                  refine lv_lload_n (pc := 106) hx hb dX12_sure_106 rfl (lv_at hl 3 rfl) ?_
                  refine lv_lsub (pc := 107) hx hb dX12_sure_107 ?_
                  refine lv_topl (fun y_30 _ => ?_)
                  have ry_30 := n_rngL y_30
                  have hP9 : va_P D gcl (zS_8 cB cC cI cJ a0 a1 x1 x2 x3 x4 x5 x6 x7 x8 a2 a3 a4 a5 a6 a7 a8 a9 a10 a11 a12 a13 a14 a15 a16 x9 x10 x11 x12 x13 x14 a17 a18 a19 x15 a20 x16 a21 x17 x18 a22 a23 a24 a25 x19 a26 x20 a27 a28 a29 y0 a30 a31 a32 a33 a34 a35 a36 a37 a38 x21 x22 x23 y1 a39 x24 a40 a41 a42 a43 x25 x26 x27 x28 a29 f_23 a18 f1 a28 f2 a30 (u_8.2.2.1 0) a31 (u_8.2.1 1)) H := g_psub hP [0, 1, 2, 3, 4, 5] rfl
                  have hD9 : va_D A (zS_8 cB cC cI cJ a0 a1 x1 x2 x3 x4 x5 x6 x7 x8 a2 a3 a4 a5 a6 a7 a8 a9 a10 a11 a12 a13 a14 a15 a16 x9 x10 x11 x12 x13 x14 a17 a18 a19 x15 a20 x16 a21 x17 x18 a22 a23 a24 a25 x19 a26 x20 a27 a28 a29 y0 a30 a31 a32 a33 a34 a35 a36 a37 a38 x21 x22 x23 y1 a39 x24 a40 a41 a42 a43 x25 x26 x27 x28 a29 f_23 a18 f1 a28 f2 a30 (u_8.2.2.1 0) a31 (u_8.2.1 1)) := hD.sub [0, 1, 2, 3, 4, 5] (by decide) rfl
                  exact hret y_30 ((fun _ => 0), (fun k => [f_23, (u_8.2.1 1)].getD k (fun _ => 0)), (fun k => [(u_8.2.2.1 0)].getD k (fun _ => 0)), (fun _ => 0), (fun _ => 0)) dX12_sure_108 (show ((((-9223372036854775808) ≤ y_30.toInt ∧ y_30.toInt ≤ 9223372036854775807)) ∨ (y_30.toInt = (-1))) from (by first | exact (om_1688 ry_30.1 ry_30.2) | ((first | omega | (unfold zBd at *; omega))))) hP9 hD9 hS
              ·
                as_aux_lemma =>
                  refine lv_aload_n (pc := 60) hx hb dX12_sure_60 rfl (lv_at hl 5 rfl) ?_
                  refine lv_iload (pc := 61) hx hb dX12_sure_61 (lv_at hl 0 rfl) ?_
                  refine gd_l (pc := 63) (wc := (zS_12 cB cC cI cJ a0 a1 x1 x2 x3 x4 x5 x6 x7 x8 a2 a3 a4 a5 a6 a7 a8 a9 a10 a11 a12 a13 a14 a15 a16 x9 x10 x11 x12 x13 x14 a17 a18 a19 x15 a20 x16 a21 x17 x18 a22 a23 a24 a25 x19 a26 x20 a27 a28 a29 y0 a30 a31 a32 a33 a34 a35 a36 a37 a38 x21 x22 x23 y1 a39 x24 a40 a41 a42 a43 x25 x26 x27 x28 a29 f_23 a18 f1 a28 f2)) hP hD hS hA [0, 1, 2, 3] rfl (by decide +kernel) (fun _ => by rfl) (fun hPc hDc => va_runV (As := [.int x_19]) (rest := []) ⟨hx, hb, hml, hown, hts⟩ (k_X12_distanceOf l D cB cC cI cJ _ a0 a1 a2 a3 a4 a5 a6 a7 a8 a9 a10 a11 a12 a13 a14 a15 a16 a17 a18 a19 a20 a21 a22 a23 a24 a25 a26 a27 a28 a29 a30 a31 a32 a33 a34 a35 a36 a37 a38 a39 a40 a41 a42 a43 x_19 x1 x2 x3 x4 x5 x6 x7 x8 x9 x10 x11 x12 x13 x14 x15 x16 x17 x18 x19 x20 x21 x22 x23 x24 x25 x26 x27 x28 y0 y1 f_23 f1 f2 h_x1 h_x2 h_x3 h_x4 h_x5 h_x6 h_x9 h_x10 h_x11 h_x12 h_x13 h_x15 h_x16 h_x17 h_x19 h_x20 h_x21 h_x22 h_x23 h_x24 h_x25 h_x26 h_x27 h_x28 hr_a0_0 hr_a0_1 hr_a0_2 hf_f1 hf_f2) ⟨gcwB hts tw_1872 tw_14 tw_1869 hd_yX12_distanceOf ⟨Nat.le_of_ble_eq_true rfl, Nat.le_of_ble_eq_true rfl⟩, hts _ tw_1871, hts _ tp_101⟩ ⟨gblind, va_recv hK hPc (ci := 12) (q0 := 0) rfl rfl, (gpreS hPc hK hDc hN).2⟩ rfl rfl hl.1 rfl (lv_room (Nat.le_of_ble_eq_true rfl)) dX12_sure_63 ⟨Nat.le_of_ble_eq_true rfl, Nat.le_of_ble_eq_true rfl⟩) (fun r_32 u_31 H locs hw_33 hP hD hS => ?_)
                  replace hP : va_P D gcl (zS_8 cB cC cI cJ a0 a1 x1 x2 x3 x4 x5 x6 x7 x8 a2 a3 a4 a5 a6 a7 a8 a9 a10 a11 a12 a13 a14 a15 a16 x9 x10 x11 x12 x13 x14 a17 a18 a19 x15 a20 x16 a21 x17 x18 a22 a23 a24 a25 x19 a26 x20 a27 a28 a29 y0 a30 a31 a32 a33 a34 a35 a36 a37 a38 x21 x22 x23 y1 a39 x24 a40 a41 a42 a43 x25 x26 x27 x28 a29 (u_31.2.1 0) a18 f1 a28 f2 a30 (u_8.2.2.1 0) a31 (u_8.2.1 1)) H := hP
                  replace hD : va_D A (zS_8 cB cC cI cJ a0 a1 x1 x2 x3 x4 x5 x6 x7 x8 a2 a3 a4 a5 a6 a7 a8 a9 a10 a11 a12 a13 a14 a15 a16 x9 x10 x11 x12 x13 x14 a17 a18 a19 x15 a20 x16 a21 x17 x18 a22 a23 a24 a25 x19 a26 x20 a27 a28 a29 y0 a30 a31 a32 a33 a34 a35 a36 a37 a38 x21 x22 x23 y1 a39 x24 a40 a41 a42 a43 x25 x26 x27 x28 a29 (u_31.2.1 0) a18 f1 a28 f2 a30 (u_8.2.2.1 0) a31 (u_8.2.1 1)) := hD
                  have hw_34 : ((((-9223372036854775808) ≤ r_32.toInt ∧ r_32.toInt ≤ 9223372036854775807))) := hw_33
                  have rr_32 := n_rngL r_32
                  refine lv_lstore (pc := 66) (lv' := [(9, .long r_32), (8, .int x_19), (6, .long y_21), (5, .int x_18), (3, .long y_12), (2, .int r_9), (0, .ref a0), (1, .int x0)]) hx hb dX12_sure_66 hl (by decide) rfl (fun ls hl => ?_)
                  refine lv_aload_n (pc := 68) hx hb dX12_sure_68 rfl (lv_at hl 6 rfl) ?_
                  refine va_get (pc := 69) (ci := 12) (v := .ref a29) (C := RX12) (T := TX12) (N := 73) hx hb hts iX12 hown hK hP 0 rfl rfl 48 (by decide) (hts _ tw_1449) (fun _ h9 => h9) rfl dX12_sure_69 ?_
                  refine lv_iload_n (pc := 72) hx hb dX12_sure_72 rfl (lv_at hl 7 rfl) ?_
                  refine va_iald (pc := 73) hx hb hK hP 1 2 rfl rfl (n_in rfl (by first | exact (om_1557 c_7 hw_4.1 hw_5.1) | ((first | omega | (unfold zBd at *; omega)))) (by first | exact (om_1639 c_7 hw_4.1 hw_5.2 h_x10.2) | ((first | omega | (unfold zBd at *; omega))))) dX12_sure_73 ?_
                  refine lv_topi (fun x_35 ex_35 => ?_)
                  have rx_35 : zBd x_35.toInt (-2147483648) 2147483647 := n_rng x_35
                  refine lv_iload (pc := 74) hx hb dX12_sure_74 (lv_at hl 3 rfl) ?_
                  as_aux_lemma =>
                    refine b_icmp_eq (pc := 76) (tgt := 98) hx hb rfl rfl  dX12_sure_76 (by decide) (fun c_36 => ?_) (fun c_36 => ?_)
                    ·
                      as_aux_lemma =>
                        refine b_iinc (pc := 98) hx hb dX12_sure_98 hl (k := 1) rfl rfl tI_1 (by first | exact (om_2 hi_20.1) | ((first | omega | (unfold zBd at *; omega)))) (by first | exact (om_1087 c_29 rr_26.2) | ((first | omega | (unfold zBd at *; omega)))) (by decide) (fun x_37 ex_37 ls hl => ?_)
                        replace hl : lv_has ls 11 [(8, .int x_37), (9, .long r_32), (6, .long y_21), (5, .int x_18), (3, .long y_12), (2, .int r_9), (0, .ref a0), (1, .int x0)] := hl
                        refine lv_goto (pc := 101) (tgt := 51) hx hb dX12_sure_101 (by decide) ?_
                        exact ih_lp_24 x_37 y_21 (u_31.2.1 0) _ _ ls (by first | exact (om_1088 ex_37 hi_20.1 c_29 rr_26.2) | ((first | omega | (unfold zBd at *; omega)))) (by (first | omega | (unfold zBd at *; omega))) hP hD hS (lv_sub hl [0, 2, 3, 4, 5, 6, 7] rfl)
                    ·
                      as_aux_lemma =>
                        refine lv_lload (pc := 79) hx hb dX12_sure_79 (lv_at hl 2 rfl) ?_
                        refine lv_lconst (pc := 81) (v := 0) hx hb dX12_sure_81 (by decide) ?_
                        refine b_lcmp_lt (pc := 82) (tgt := 94) hx hb rfl tL_0 dX12_sure_82 dX12_sure_83 (by decide) (fun c_38 => ?_) (fun c_38 => ?_)
                        ·
                          as_aux_lemma =>
                            refine lv_lload (pc := 94) hx hb dX12_sure_94 (lv_at hl 0 rfl) ?_
                            refine lv_lstore (pc := 96) (lv' := [(6, .long r_32), (9, .long r_32), (8, .int x_19), (5, .int x_18), (3, .long y_12), (2, .int r_9), (0, .ref a0), (1, .int x0)]) hx hb dX12_sure_96 hl (by decide) rfl (fun ls hl => ?_)
                            refine b_iinc (pc := 98) hx hb dX12_sure_98 hl (k := 2) rfl rfl tI_1 (by first | exact (om_2 hi_20.1) | ((first | omega | (unfold zBd at *; omega)))) (by first | exact (om_1087 c_29 rr_26.2) | ((first | omega | (unfold zBd at *; omega)))) (by decide) (fun x_39 ex_39 ls hl => ?_)
                            replace hl : lv_has ls 11 [(8, .int x_39), (6, .long r_32), (9, .long r_32), (5, .int x_18), (3, .long y_12), (2, .int r_9), (0, .ref a0), (1, .int x0)] := hl
                            refine lv_goto (pc := 101) (tgt := 51) hx hb dX12_sure_101 (by decide) ?_
                            exact ih_lp_24 x_39 r_32 (u_31.2.1 0) _ _ ls (by first | exact (om_1088 ex_39 hi_20.1 c_29 rr_26.2) | ((first | omega | (unfold zBd at *; omega)))) (by (first | omega | (unfold zBd at *; omega))) hP hD hS (lv_sub hl [0, 1, 3, 4, 5, 6, 7] rfl)
                        ·
                          as_aux_lemma =>
                            refine lv_lload (pc := 86) hx hb dX12_sure_86 (lv_at hl 0 rfl) ?_
                            refine lv_lload (pc := 88) hx hb dX12_sure_88 (lv_at hl 2 rfl) ?_
                            refine b_lcmp_ge (pc := 90) (tgt := 98) hx hb rfl rfl dX12_sure_90 dX12_sure_91 (by decide) (fun c_40 => ?_) (fun c_40 => ?_)
                            ·
                              as_aux_lemma =>
                                refine b_iinc (pc := 98) hx hb dX12_sure_98 hl (k := 1) rfl rfl tI_1 (by first | exact (om_2 hi_20.1) | ((first | omega | (unfold zBd at *; omega)))) (by first | exact (om_1087 c_29 rr_26.2) | ((first | omega | (unfold zBd at *; omega)))) (by decide) (fun x_41 ex_41 ls hl => ?_)
                                replace hl : lv_has ls 11 [(8, .int x_41), (9, .long r_32), (6, .long y_21), (5, .int x_18), (3, .long y_12), (2, .int r_9), (0, .ref a0), (1, .int x0)] := hl
                                refine lv_goto (pc := 101) (tgt := 51) hx hb dX12_sure_101 (by decide) ?_
                                exact ih_lp_24 x_41 y_21 (u_31.2.1 0) _ _ ls (by first | exact (om_1088 ex_41 hi_20.1 c_29 rr_26.2) | ((first | omega | (unfold zBd at *; omega)))) (by (first | omega | (unfold zBd at *; omega))) hP hD hS (lv_sub hl [0, 2, 3, 4, 5, 6, 7] rfl)
                            ·
                              as_aux_lemma =>
                                refine lv_lload (pc := 94) hx hb dX12_sure_94 (lv_at hl 0 rfl) ?_
                                refine lv_lstore (pc := 96) (lv' := [(6, .long r_32), (9, .long r_32), (8, .int x_19), (5, .int x_18), (3, .long y_12), (2, .int r_9), (0, .ref a0), (1, .int x0)]) hx hb dX12_sure_96 hl (by decide) rfl (fun ls hl => ?_)
                                refine b_iinc (pc := 98) hx hb dX12_sure_98 hl (k := 2) rfl rfl tI_1 (by first | exact (om_2 hi_20.1) | ((first | omega | (unfold zBd at *; omega)))) (by first | exact (om_1087 c_29 rr_26.2) | ((first | omega | (unfold zBd at *; omega)))) (by decide) (fun x_42 ex_42 ls hl => ?_)
                                replace hl : lv_has ls 11 [(8, .int x_42), (6, .long r_32), (9, .long r_32), (5, .int x_18), (3, .long y_12), (2, .int r_9), (0, .ref a0), (1, .int x0)] := hl
                                refine lv_goto (pc := 101) (tgt := 51) hx hb dX12_sure_101 (by decide) ?_
                                exact ih_lp_24 x_42 r_32 (u_31.2.1 0) _ _ ls (by first | exact (om_1088 ex_42 hi_20.1 c_29 rr_26.2) | ((first | omega | (unfold zBd at *; omega)))) (by (first | omega | (unfold zBd at *; omega))) hP hD hS (lv_sub hl [0, 1, 3, 4, 5, 6, 7] rfl)
          exact lp_24 _ 0 (-1) (u_14.2.1 0) _ _ ls (n_c tI_0 (by decide)) (Nat.lt_succ_self _) hP hD hS (lv_sub hl [0, 1, 2, 3, 4, 5, 6] rfl)
  ·
    as_aux_lemma =>
      refine lv_ldc2 (pc := 8) hx hb hown (hts _ tw_1838) dX12_sure_8 ?_
      have hP9 : va_P D gcl (zS_8 cB cC cI cJ a0 a1 x1 x2 x3 x4 x5 x6 x7 x8 a2 a3 a4 a5 a6 a7 a8 a9 a10 a11 a12 a13 a14 a15 a16 x9 x10 x11 x12 x13 x14 a17 a18 a19 x15 a20 x16 a21 x17 x18 a22 a23 a24 a25 x19 a26 x20 a27 a28 a29 y0 a30 a31 a32 a33 a34 a35 a36 a37 a38 x21 x22 x23 y1 a39 x24 a40 a41 a42 a43 x25 x26 x27 x28 a29 f0 a18 f1 a28 f2 a30 g0 a31 f3) H := g_psub hP [0, 1, 2, 3, 4, 5] rfl
      have hD9 : va_D A (zS_8 cB cC cI cJ a0 a1 x1 x2 x3 x4 x5 x6 x7 x8 a2 a3 a4 a5 a6 a7 a8 a9 a10 a11 a12 a13 a14 a15 a16 x9 x10 x11 x12 x13 x14 a17 a18 a19 x15 a20 x16 a21 x17 x18 a22 a23 a24 a25 x19 a26 x20 a27 a28 a29 y0 a30 a31 a32 a33 a34 a35 a36 a37 a38 x21 x22 x23 y1 a39 x24 a40 a41 a42 a43 x25 x26 x27 x28 a29 f0 a18 f1 a28 f2 a30 g0 a31 f3) := hD.sub [0, 1, 2, 3, 4, 5] (by decide) rfl
      exact hret (-1) ((fun _ => 0), (fun k => [f0, f3].getD k (fun _ => 0)), (fun k => [g0].getD k (fun _ => 0)), (fun _ => 0), (fun _ => 0)) dX12_sure_11 (show ((((-9223372036854775808) ≤ ((-1) : Int64).toInt ∧ ((-1) : Int64).toInt ≤ 9223372036854775807)) ∨ (((-1) : Int64).toInt = (-1))) from (by first | exact (om_1689 tL_m1) | (have k9 := tL_m1; (first | omega | (unfold zBd at *; omega))))) hP9 hD9 hS
set_option maxHeartbeats 4000000 in
set_option maxRecDepth 100000 in
theorem k_X12_nearestTo_x (l : Launch) (D : va_G) (cB cC cI cJ : ClassId) (sz : Nat) (x0 x1 : Int32) (hz1 : ¬ x1.toInt = 0) : Met l yX12_nearestTo (.code yX12_nearestTo cX12_nearestTo 4 (some .int) :: lw_gd) ({ frames := 0, cells := 0, slots := 0, locals := 0 }) (gPre D [(cB, .byte), (cC, .char), (cI, .int), (cJ, .long)] [.int x0, .int x1] [] sz) (va_Qi (fun r u => (r = nt x0 x1)) (gB D (va_A [] sz) (fun u : gEx => [])) (va_A [] sz)) 0 0 (va_A [] sz) := by
  refine gOf_i (by decide +kernel) (Nat.le_of_ble_eq_true rfl) ?_
  intro p e s m args below meth c ls A Q hx hb hts hown hml hN hK hP hD hA hl hret
  replace hown : s.vm.findClass RX12 = some m.cls := hown
  have hS : va_S A s.heap s.heap [] := va_S.rf
  replace hP : va_P D gcl [] s.heap := hP
  replace hl : lv_has ls 4 [(0, .int x0), (1, .int x1)] := hl
  have rx0 : zBd x0.toInt (-2147483648) 2147483647 := n_rng x0
  have rx1 : zBd x1.toInt (-2147483648) 2147483647 := n_rng x1
  refine lv_iload_n (pc := 0) hx hb dX12_nearestTo_0 rfl (lv_at hl 0 rfl) ?_
  refine b_if_ge (pc := 1) (tgt := 9) hx hb rfl  dX12_nearestTo_1 (by decide) (fun c_1 => ?_) (fun c_1 => ?_)
  ·
    as_aux_lemma =>
      refine lv_iload_n (pc := 9) hx hb dX12_nearestTo_9 rfl (lv_at hl 0 rfl) ?_
      refine lv_istore_n (pc := 10) (lv' := [(2, .int x0), (0, .int x0), (1, .int x1)]) hx hb dX12_nearestTo_10 rfl hl (by decide) rfl (fun ls hl => ?_)
      refine lv_iload_n (pc := 11) hx hb dX12_nearestTo_11 rfl (lv_at hl 0 rfl) ?_
      refine lv_iload_n (pc := 12) hx hb dX12_nearestTo_12 rfl (lv_at hl 2 rfl) ?_
      refine lv_idiv (pc := 13) hx hb dX12_nearestTo_13 (fun h => by have q := congrArg Int32.toInt h; have k := tI_0; (first | omega | (unfold zBd at *; omega))) ?_
      refine lv_topi (fun x_2 ex_2 => ?_)
      have rx_2 : zBd x_2.toInt (-2147483648) 2147483647 := n_rng x_2
      refine lv_istore_n (pc := 14) (lv' := [(3, .int x_2), (2, .int x0), (0, .int x0), (1, .int x1)]) hx hb dX12_nearestTo_14 rfl hl (by decide) rfl (fun ls hl => ?_)
      refine lv_ldc2 (pc := 15) hx hb hown (hts _ tw_1934) dX12_nearestTo_15 ?_
      refine lv_iload_n (pc := 18) hx hb dX12_nearestTo_18 rfl (lv_at hl 1 rfl) ?_
      refine lv_iload_n (pc := 19) hx hb dX12_nearestTo_19 rfl (lv_at hl 3 rfl) ?_
      as_aux_lemma =>
        refine lv_irem (pc := 20) hx hb dX12_nearestTo_20 (fun h => by have q := congrArg Int32.toInt h; have k := tI_0; (first | omega | (unfold zBd at *; omega))) ?_
        refine lv_topi (fun x_3 ex_3 => ?_)
        have rx_3 : zBd x_3.toInt (-2147483648) 2147483647 := n_rng x_3
        refine b_i2l (pc := 21) hx hb rfl dX12_nearestTo_21 (fun y_4 ey_4 => ?_)
        have ry_4 : zBd x_3.toInt (-2147483648) 2147483647 := n_rng x_3
        refine b_lmul (pc := 22) hx hb tL_2 rfl (by first | exact (om_1288 ey_4 ry_4.1) | ((first | omega | (unfold zBd at *; omega)))) (by first | exact (om_1289 ey_4 ry_4.2) | ((first | omega | (unfold zBd at *; omega)))) dX12_nearestTo_22 (fun y_5 ey_5 => ?_)
        refine lv_iload_n (pc := 23) hx hb dX12_nearestTo_23 rfl (lv_at hl 3 rfl) ?_
        refine b_i2l (pc := 24) hx hb rfl dX12_nearestTo_24 (fun y_6 ey_6 => ?_)
        have ry_6 : zBd x1.toInt (-2147483648) 2147483647 := n_rng x1
        refine b_lcmp_le (pc := 25) (tgt := 32) hx hb rfl rfl dX12_nearestTo_25 dX12_nearestTo_26 (by decide) (fun c_7 => ?_) (fun c_7 => ?_)
        ·
          as_aux_lemma =>
            refine lv_iload_n (pc := 32) hx hb dX12_nearestTo_32 rfl (lv_at hl 2 rfl) ?_
            refine b_if_ge (pc := 33) (tgt := 41) hx hb rfl  dX12_nearestTo_33 (by decide) (fun c_8 => ?_) (fun c_8 => absurd c_8 (by first | exact (om_1167 c_1) | ((first | omega | (unfold zBd at *; omega)))))
            refine lv_iload_n (pc := 41) hx hb dX12_nearestTo_41 rfl (lv_at hl 0 rfl) ?_
            exact hret x_2 ((fun _ => 0), (fun _ => (fun _ => 0)), (fun _ => (fun _ => 0)), (fun _ => 0), (fun _ => 0)) dX12_nearestTo_42 (show x_2 = nt x0 x1 from nt_of (Or.inr ⟨by (first | omega | (unfold zBd at *; omega)), rfl⟩) ex_2 ex_3 (Or.inr ⟨by (first | omega | (unfold zBd at *; omega)), rfl⟩) (Or.inr ⟨by (first | omega | (unfold zBd at *; omega)), rfl⟩)) (g_psub (wc := []) hP [] rfl) (hD.sub (ws' := []) [] (by decide) rfl) hS
        ·
          as_aux_lemma =>
            refine b_iincE (pc := 29) hx hb dX12_nearestTo_29 hl (k := 0) rfl (by decide) (fun x_9 ls ex_9 hl => ?_)
            have rx_9 : zBd x_9.toInt (-2147483648) 2147483647 := n_rng x_9
            replace hl : lv_has ls 4 [(3, .int x_9), (2, .int x0), (0, .int x0), (1, .int x1)] := hl
            refine lv_iload_n (pc := 32) hx hb dX12_nearestTo_32 rfl (lv_at hl 2 rfl) ?_
            refine b_if_ge (pc := 33) (tgt := 41) hx hb rfl  dX12_nearestTo_33 (by decide) (fun c_10 => ?_) (fun c_10 => absurd c_10 (by first | exact (om_1167 c_1) | ((first | omega | (unfold zBd at *; omega)))))
            refine lv_iload_n (pc := 41) hx hb dX12_nearestTo_41 rfl (lv_at hl 0 rfl) ?_
            exact hret x_9 ((fun _ => 0), (fun _ => (fun _ => 0)), (fun _ => (fun _ => 0)), (fun _ => 0), (fun _ => 0)) dX12_nearestTo_42 (show x_9 = nt x0 x1 from nt_of (Or.inr ⟨by (first | omega | (unfold zBd at *; omega)), rfl⟩) ex_2 ex_3 (Or.inl ⟨by (first | omega | (unfold zBd at *; omega)), ex_9.trans rfl⟩) (Or.inr ⟨by (first | omega | (unfold zBd at *; omega)), rfl⟩)) (g_psub (wc := []) hP [] rfl) (hD.sub (ws' := []) [] (by decide) rfl) hS
  ·
    as_aux_lemma =>
      refine lv_iload_n (pc := 4) hx hb dX12_nearestTo_4 rfl (lv_at hl 0 rfl) ?_
      refine lv_ineg (pc := 5) hx hb dX12_nearestTo_5 ?_
      refine lv_topi (fun x_11 ex_11 => ?_)
      have rx_11 : zBd x_11.toInt (-2147483648) 2147483647 := n_rng x_11
      refine lv_goto (pc := 6) (tgt := 10) hx hb dX12_nearestTo_6 (by decide) ?_
      refine lv_istore_n (pc := 10) (lv' := [(2, .int x_11), (0, .int x0), (1, .int x1)]) hx hb dX12_nearestTo_10 rfl hl (by decide) rfl (fun ls hl => ?_)
      refine lv_iload_n (pc := 11) hx hb dX12_nearestTo_11 rfl (lv_at hl 0 rfl) ?_
      refine lv_iload_n (pc := 12) hx hb dX12_nearestTo_12 rfl (lv_at hl 2 rfl) ?_
      refine lv_idiv (pc := 13) hx hb dX12_nearestTo_13 (fun h => by have q := congrArg Int32.toInt h; have k := tI_0; (first | omega | (unfold zBd at *; omega))) ?_
      refine lv_topi (fun x_12 ex_12 => ?_)
      have rx_12 : zBd x_12.toInt (-2147483648) 2147483647 := n_rng x_12
      refine lv_istore_n (pc := 14) (lv' := [(3, .int x_12), (2, .int x_11), (0, .int x0), (1, .int x1)]) hx hb dX12_nearestTo_14 rfl hl (by decide) rfl (fun ls hl => ?_)
      as_aux_lemma =>
        refine lv_ldc2 (pc := 15) hx hb hown (hts _ tw_1934) dX12_nearestTo_15 ?_
        refine lv_iload_n (pc := 18) hx hb dX12_nearestTo_18 rfl (lv_at hl 1 rfl) ?_
        refine lv_iload_n (pc := 19) hx hb dX12_nearestTo_19 rfl (lv_at hl 3 rfl) ?_
        refine lv_irem (pc := 20) hx hb dX12_nearestTo_20 (fun h => by have q := congrArg Int32.toInt h; have k := tI_0; (first | omega | (unfold zBd at *; omega))) ?_
        refine lv_topi (fun x_13 ex_13 => ?_)
        have rx_13 : zBd x_13.toInt (-2147483648) 2147483647 := n_rng x_13
        refine b_i2l (pc := 21) hx hb rfl dX12_nearestTo_21 (fun y_14 ey_14 => ?_)
        have ry_14 : zBd x_13.toInt (-2147483648) 2147483647 := n_rng x_13
        refine b_lmul (pc := 22) hx hb tL_2 rfl (by first | exact (om_1288 ey_14 ry_14.1) | ((first | omega | (unfold zBd at *; omega)))) (by first | exact (om_1289 ey_14 ry_14.2) | ((first | omega | (unfold zBd at *; omega)))) dX12_nearestTo_22 (fun y_15 ey_15 => ?_)
        refine lv_iload_n (pc := 23) hx hb dX12_nearestTo_23 rfl (lv_at hl 3 rfl) ?_
        refine b_i2l (pc := 24) hx hb rfl dX12_nearestTo_24 (fun y_16 ey_16 => ?_)
        have ry_16 : zBd x1.toInt (-2147483648) 2147483647 := n_rng x1
        refine b_lcmp_le (pc := 25) (tgt := 32) hx hb rfl rfl dX12_nearestTo_25 dX12_nearestTo_26 (by decide) (fun c_17 => ?_) (fun c_17 => ?_)
        ·
          as_aux_lemma =>
            refine lv_iload_n (pc := 32) hx hb dX12_nearestTo_32 rfl (lv_at hl 2 rfl) ?_
            refine b_if_ge (pc := 33) (tgt := 41) hx hb rfl  dX12_nearestTo_33 (by decide) (fun c_18 => absurd c_18 (by first | exact (om_1164 c_1) | ((first | omega | (unfold zBd at *; omega))))) (fun c_18 => ?_)
            refine lv_iload_n (pc := 36) hx hb dX12_nearestTo_36 rfl (lv_at hl 0 rfl) ?_
            refine lv_ineg (pc := 37) hx hb dX12_nearestTo_37 ?_
            refine lv_topi (fun x_19 ex_19 => ?_)
            have rx_19 : zBd x_19.toInt (-2147483648) 2147483647 := n_rng x_19
            refine lv_goto (pc := 38) (tgt := 42) hx hb dX12_nearestTo_38 (by decide) ?_
            exact hret x_19 ((fun _ => 0), (fun _ => (fun _ => 0)), (fun _ => (fun _ => 0)), (fun _ => 0), (fun _ => 0)) dX12_nearestTo_42 (show x_19 = nt x0 x1 from nt_of (Or.inl ⟨by (first | omega | (unfold zBd at *; omega)), ex_11⟩) ex_12 ex_13 (Or.inr ⟨by (first | omega | (unfold zBd at *; omega)), rfl⟩) (Or.inl ⟨by (first | omega | (unfold zBd at *; omega)), ex_19⟩)) (g_psub (wc := []) hP [] rfl) (hD.sub (ws' := []) [] (by decide) rfl) hS
        ·
          as_aux_lemma =>
            refine b_iincE (pc := 29) hx hb dX12_nearestTo_29 hl (k := 0) rfl (by decide) (fun x_20 ls ex_20 hl => ?_)
            have rx_20 : zBd x_20.toInt (-2147483648) 2147483647 := n_rng x_20
            replace hl : lv_has ls 4 [(3, .int x_20), (2, .int x_11), (0, .int x0), (1, .int x1)] := hl
            refine lv_iload_n (pc := 32) hx hb dX12_nearestTo_32 rfl (lv_at hl 2 rfl) ?_
            refine b_if_ge (pc := 33) (tgt := 41) hx hb rfl  dX12_nearestTo_33 (by decide) (fun c_21 => absurd c_21 (by first | exact (om_1164 c_1) | ((first | omega | (unfold zBd at *; omega))))) (fun c_21 => ?_)
            refine lv_iload_n (pc := 36) hx hb dX12_nearestTo_36 rfl (lv_at hl 0 rfl) ?_
            refine lv_ineg (pc := 37) hx hb dX12_nearestTo_37 ?_
            refine lv_topi (fun x_22 ex_22 => ?_)
            have rx_22 : zBd x_22.toInt (-2147483648) 2147483647 := n_rng x_22
            refine lv_goto (pc := 38) (tgt := 42) hx hb dX12_nearestTo_38 (by decide) ?_
            exact hret x_22 ((fun _ => 0), (fun _ => (fun _ => 0)), (fun _ => (fun _ => 0)), (fun _ => 0), (fun _ => 0)) dX12_nearestTo_42 (show x_22 = nt x0 x1 from nt_of (Or.inl ⟨by (first | omega | (unfold zBd at *; omega)), ex_11⟩) ex_12 ex_13 (Or.inl ⟨by (first | omega | (unfold zBd at *; omega)), ex_20.trans rfl⟩) (Or.inl ⟨by (first | omega | (unfold zBd at *; omega)), ex_22⟩)) (g_psub (wc := []) hP [] rfl) (hD.sub (ws' := []) [] (by decide) rfl) hS
theorem om_1690 {a b : Int} (h0 : (a < b)) (h1 : (b ≤ 5)) : (5 * a ≤ 2147483647) := by omega
theorem om_1691 {a b c d : Int} (h0 : (a = 5 * c)) (h1 : (b ≤ 4)) (h2 : (c < d)) (h3 : (d ≤ 5)) : (a + b ≤ 2147483647) := by omega
theorem om_1692 {a b c d e : Int} (h0 : (a = b + c)) (h1 : (b = 5 * d)) (h2 : (c ≤ 4)) (h3 : (d < e)) (h4 : (e ≤ 5)) : (a < (25 : Nat)) := by omega
theorem om_1693 {a : Int} (h0 : (0 ≤ a)) (h1 : (a ≤ 4)) : (0 ≤ a ∧ a ≤ 4) := by omega
set_option maxHeartbeats 4000000 in
set_option maxRecDepth 100000 in
theorem k_X12_goes_x (l : Launch) (D : va_G) (cB cC cI cJ : ClassId) (sz : Nat) (a0 a1 a2 a3 a4 a5 a6 a7 a8 a9 a10 a11 a12 a13 a14 a15 a16 a17 a18 a19 a20 a21 a22 a23 a24 a25 a26 a27 a28 a29 a30 a31 a32 a33 a34 a35 a36 a37 a38 a39 a40 a41 a42 a43 : Nat) (x0 x1 x2 x3 x4 x5 x6 x7 x8 x9 x10 x11 x12 x13 x14 x15 x16 x17 x18 x19 x20 x21 x22 x23 x24 x25 x26 x27 x28 x29 x30 : Int32) (y0 y1 : Int64) (f0 : Nat → Int32) (g0 : Nat → Int64) (hp1 : (0 ≤ x0.toInt ∧ x0.toInt ≤ 4)) (hp2 : (0 ≤ x1.toInt ∧ x1.toInt ≤ 4)) (h_x3 : zBd x3.toInt 0 1600) (h_x4 : zBd x4.toInt 0 1600) (h_x5 : zBd x5.toInt 0 1600) (h_x6 : zBd x6.toInt (-1) 1600) (h_x7 : zBd x7.toInt 0 4) (h_x8 : zBd x8.toInt (-1) 1600) (h_x11 : zBd x11.toInt 0 8) (h_x12 : zBd x12.toInt 0 5) (h_x13 : zBd x13.toInt 0 6) (h_x14 : zBd x14.toInt 0 6) (h_x15 : zBd x15.toInt 0 16) (h_x17 : zBd x17.toInt 0 60) (h_x18 : zBd x18.toInt 0 1600) (h_x19 : zBd x19.toInt 0 1700) (h_x21 : zBd x21.toInt 0 1700) (h_x22 : zBd x22.toInt 0 1700) (h_x23 : zBd x23.toInt 0 200) (h_x24 : zBd x24.toInt 0 40) (h_x25 : zBd x25.toInt 0 40) (h_x26 : zBd x26.toInt 0 1) (h_x27 : zBd x27.toInt 0 14) (h_x28 : zBd x28.toInt 0 200) (h_x29 : zBd x29.toInt 0 40) (h_x30 : zBd x30.toInt 0 40) (hr_a0_2 : (x12.toInt = 0 ∨ 2 ≤ x11.toInt)) (hg__ne : ¬ x0.toInt = x1.toInt) : Met l yX12_goes (.code yX12_goes cX12_goes 5 none :: lw_gd) ({ frames := 0, cells := 0, slots := 0, locals := 0 }) (gPre D [(cB, .byte), (cC, .char), (cI, .int), (cJ, .long)] [.ref a0, .int x0, .int x1, .int x2] (zS_122 cB cC cI cJ a0 a1 x3 x4 x5 x6 x7 x8 x9 x10 a2 a3 a4 a5 a6 a7 a8 a9 a10 a11 a12 a13 a14 a15 a16 x11 x12 x13 x14 x15 x16 a17 a18 a19 x17 a20 x18 a21 x19 x20 a22 a23 a24 a25 x21 a26 x22 a27 a28 a29 y0 a30 a31 a32 a33 a34 a35 a36 a37 a38 x23 x24 x25 y1 a39 x26 a40 a41 a42 a43 x27 x28 x29 x30 a27 f0 a35 g0) sz) (va_Qv (fun u => (goQ f0 (u.2.1 0) x0.toInt x1.toInt x2 x13.toInt)) (gB D (va_A (zS_122 cB cC cI cJ a0 a1 x3 x4 x5 x6 x7 x8 x9 x10 a2 a3 a4 a5 a6 a7 a8 a9 a10 a11 a12 a13 a14 a15 a16 x11 x12 x13 x14 x15 x16 a17 a18 a19 x17 a20 x18 a21 x19 x20 a22 a23 a24 a25 x21 a26 x22 a27 a28 a29 y0 a30 a31 a32 a33 a34 a35 a36 a37 a38 x23 x24 x25 y1 a39 x26 a40 a41 a42 a43 x27 x28 x29 x30 a27 f0 a35 g0) sz) (fun u : gEx => (zS_122 cB cC cI cJ a0 a1 x3 x4 x5 x6 x7 x8 x9 x10 a2 a3 a4 a5 a6 a7 a8 a9 a10 a11 a12 a13 a14 a15 a16 x11 x12 x13 x14 x15 x16 a17 a18 a19 x17 a20 x18 a21 x19 x20 a22 a23 a24 a25 x21 a26 x22 a27 a28 a29 y0 a30 a31 a32 a33 a34 a35 a36 a37 a38 x23 x24 x25 y1 a39 x26 a40 a41 a42 a43 x27 x28 x29 x30 a27 (u.2.1 0) a35 (u.2.2.1 0)))) (va_A (zS_122 cB cC cI cJ a0 a1 x3 x4 x5 x6 x7 x8 x9 x10 a2 a3 a4 a5 a6 a7 a8 a9 a10 a11 a12 a13 a14 a15 a16 x11 x12 x13 x14 x15 x16 a17 a18 a19 x17 a20 x18 a21 x19 x20 a22 a23 a24 a25 x21 a26 x22 a27 a28 a29 y0 a30 a31 a32 a33 a34 a35 a36 a37 a38 x23 x24 x25 y1 a39 x26 a40 a41 a42 a43 x27 x28 x29 x30 a27 f0 a35 g0) sz)) 0 0 (va_A (zS_122 cB cC cI cJ a0 a1 x3 x4 x5 x6 x7 x8 x9 x10 a2 a3 a4 a5 a6 a7 a8 a9 a10 a11 a12 a13 a14 a15 a16 x11 x12 x13 x14 x15 x16 a17 a18 a19 x17 a20 x18 a21 x19 x20 a22 a23 a24 a25 x21 a26 x22 a27 a28 a29 y0 a30 a31 a32 a33 a34 a35 a36 a37 a38 x23 x24 x25 y1 a39 x26 a40 a41 a42 a43 x27 x28 x29 x30 a27 f0 a35 g0) sz) := by
  refine gOf_v (by decide +kernel) (Nat.le_of_ble_eq_true rfl) ?_
  intro p e s m args below meth c ls A Q hx hb hts hown hml hN hK hP hD hA hl hret
  replace hown : s.vm.findClass RX12 = some m.cls := hown
  have hS : va_S A s.heap s.heap [] := va_S.rf
  replace hP : va_P D gcl (zS_122 cB cC cI cJ a0 a1 x3 x4 x5 x6 x7 x8 x9 x10 a2 a3 a4 a5 a6 a7 a8 a9 a10 a11 a12 a13 a14 a15 a16 x11 x12 x13 x14 x15 x16 a17 a18 a19 x17 a20 x18 a21 x19 x20 a22 a23 a24 a25 x21 a26 x22 a27 a28 a29 y0 a30 a31 a32 a33 a34 a35 a36 a37 a38 x23 x24 x25 y1 a39 x26 a40 a41 a42 a43 x27 x28 x29 x30 a27 f0 a35 g0) s.heap := hP
  replace hl : lv_has ls 5 [(0, .ref a0), (1, .int x0), (2, .int x1), (3, .int x2)] := hl
  have rx2 : zBd x2.toInt (-2147483648) 2147483647 := n_rng x2
  have rx9 : zBd x9.toInt (-2147483648) 2147483647 := n_rng x9
  have rx10 : zBd x10.toInt (-2147483648) 2147483647 := n_rng x10
  have rx16 : zBd x16.toInt (-2147483648) 2147483647 := n_rng x16
  have rx20 : zBd x20.toInt (-2147483648) 2147483647 := n_rng x20
  have ry0 := n_rngL y0
  have ry1 := n_rngL y1
  refine lv_iconst (pc := 0) (v := 0) hx hb dX12_goes_0 (by decide) ?_
  refine lv_istore (pc := 1) (lv' := [(4, .int 0), (0, .ref a0), (1, .int x0), (2, .int x1), (3, .int x2)]) hx hb dX12_goes_1 hl (by decide) rfl (fun ls hl => ?_)
  have lp_6 : ∀ (n : Nat) (x_1 : Int32) (f_3 : Nat → Int32) (H : Heap) (locs : List Loc) (ls : Array Slot), (0 ≤ x_1.toInt ∧ x_1.toInt ≤ 6) → (x_1.toInt ≤ x13.toInt) → (goQ f0 f_3 x0.toInt x1.toInt x2 x_1.toInt) → (2147483647 - x_1.toInt).toNat < n → va_P D gcl (zS_122 cB cC cI cJ a0 a1 x3 x4 x5 x6 x7 x8 x9 x10 a2 a3 a4 a5 a6 a7 a8 a9 a10 a11 a12 a13 a14 a15 a16 x11 x12 x13 x14 x15 x16 a17 a18 a19 x17 a20 x18 a21 x19 x20 a22 a23 a24 a25 x21 a26 x22 a27 a28 a29 y0 a30 a31 a32 a33 a34 a35 a36 a37 a38 x23 x24 x25 y1 a39 x26 a40 a41 a42 a43 x27 x28 x29 x30 a27 f_3 a35 g0) H → va_D A (zS_122 cB cC cI cJ a0 a1 x3 x4 x5 x6 x7 x8 x9 x10 a2 a3 a4 a5 a6 a7 a8 a9 a10 a11 a12 a13 a14 a15 a16 x11 x12 x13 x14 x15 x16 a17 a18 a19 x17 a20 x18 a21 x19 x20 a22 a23 a24 a25 x21 a26 x22 a27 a28 a29 y0 a30 a31 a32 a33 a34 a35 a36 a37 a38 x23 x24 x25 y1 a39 x26 a40 a41 a42 a43 x27 x28 x29 x30 a27 f_3 a35 g0) → va_S A s.heap H locs → lv_has ls 5 [(4, .int x_1), (0, .ref a0), (1, .int x0), (2, .int x1), (3, .int x2)] → W p l e ({ frames := 0, cells := 0, slots := 0, locals := 0 }) s m args below meth c H locs 0 0 Q (F0 m 3 ls []) := by
    intro n
    induction n with
    | zero => intro x_1 f_3 H locs ls hi_2 hi_4 hi_5 hmu; exact absurd hmu (Nat.not_lt_zero _)
    | succ n ih_lp_6 =>
      intro x_1 f_3 H locs ls hi_2 hi_4 hi_5 hmu_lp_6 hP hD hS hl
      refine lv_iload (pc := 3) hx hb dX12_goes_3 (lv_at hl 0 rfl) ?_
      refine lv_aload_n (pc := 5) hx hb dX12_goes_5 rfl (lv_at hl 1 rfl) ?_
      refine va_get (pc := 6) (ci := 12) (v := .int x13) (C := RX12) (T := TX12) (N := 73) hx hb hts iX12 hown hK hP 0 rfl rfl 26 (by decide) (hts _ tw_1427) (fun _ h9 => h9) rfl dX12_goes_6 ?_
      have bd_h_x13 : 0 ≤ x13.toInt ∧ x13.toInt ≤ 6 := h_x13
      refine b_icmp_ge (pc := 9) (tgt := 45) hx hb rfl rfl  dX12_goes_9 (by decide) (fun c_7 => ?_) (fun c_7 => ?_)
      ·
        as_aux_lemma =>
          have hh_8 : goQ f0 f_3 x0.toInt x1.toInt x2 x13.toInt := (by have e9 : x_1.toInt = x13.toInt := (by (first | omega | (unfold zBd at *; omega))); have q9 := hi_5; rw [e9] at q9; exact q9)
          refine lv_iconst (pc := 45) (v := 0) hx hb dX12_goes_45 (by decide) ?_
          refine lv_istore (pc := 46) (lv' := [(4, .int 0), (0, .ref a0), (1, .int x0), (2, .int x1), (3, .int x2)]) hx hb dX12_goes_46 hl (by decide) rfl (fun ls hl => ?_)
          have lp_12 : ∀ (n : Nat) (x_9 : Int32) (g_11 : Nat → Int64) (H : Heap) (locs : List Loc) (ls : Array Slot), (0 ≤ x_9.toInt ∧ x_9.toInt ≤ 2147483647) → (2147483647 - x_9.toInt).toNat < n → va_P D gcl (zS_122 cB cC cI cJ a0 a1 x3 x4 x5 x6 x7 x8 x9 x10 a2 a3 a4 a5 a6 a7 a8 a9 a10 a11 a12 a13 a14 a15 a16 x11 x12 x13 x14 x15 x16 a17 a18 a19 x17 a20 x18 a21 x19 x20 a22 a23 a24 a25 x21 a26 x22 a27 a28 a29 y0 a30 a31 a32 a33 a34 a35 a36 a37 a38 x23 x24 x25 y1 a39 x26 a40 a41 a42 a43 x27 x28 x29 x30 a27 f_3 a35 g_11) H → va_D A (zS_122 cB cC cI cJ a0 a1 x3 x4 x5 x6 x7 x8 x9 x10 a2 a3 a4 a5 a6 a7 a8 a9 a10 a11 a12 a13 a14 a15 a16 x11 x12 x13 x14 x15 x16 a17 a18 a19 x17 a20 x18 a21 x19 x20 a22 a23 a24 a25 x21 a26 x22 a27 a28 a29 y0 a30 a31 a32 a33 a34 a35 a36 a37 a38 x23 x24 x25 y1 a39 x26 a40 a41 a42 a43 x27 x28 x29 x30 a27 f_3 a35 g_11) → va_S A s.heap H locs → lv_has ls 5 [(4, .int x_9), (0, .ref a0), (1, .int x0), (2, .int x1), (3, .int x2)] → W p l e ({ frames := 0, cells := 0, slots := 0, locals := 0 }) s m args below meth c H locs 0 0 Q (F0 m 48 ls []) := by
            intro n
            induction n with
            | zero => intro x_9 g_11 H locs ls hi_10 hmu; exact absurd hmu (Nat.not_lt_zero _)
            | succ n ih_lp_12 =>
              intro x_9 g_11 H locs ls hi_10 hmu_lp_12 hP hD hS hl
              refine lv_iload (pc := 48) hx hb dX12_goes_48 (lv_at hl 0 rfl) ?_
              refine lv_aload_n (pc := 50) hx hb dX12_goes_50 rfl (lv_at hl 1 rfl) ?_
              refine va_get (pc := 51) (ci := 12) (v := .int x12) (C := RX12) (T := TX12) (N := 73) hx hb hts iX12 hown hK hP 0 rfl rfl 25 (by decide) (hts _ tw_1426) (fun _ h9 => h9) rfl dX12_goes_51 ?_
              have bd_h_x12 : 0 ≤ x12.toInt ∧ x12.toInt ≤ 5 := h_x12
              refine b_icmp_ge (pc := 54) (tgt := 91) hx hb rfl rfl  dX12_goes_54 (by decide) (fun c_13 => ?_) (fun c_13 => ?_)
              ·
                as_aux_lemma =>
                  have hP9 : va_P D gcl (zS_122 cB cC cI cJ a0 a1 x3 x4 x5 x6 x7 x8 x9 x10 a2 a3 a4 a5 a6 a7 a8 a9 a10 a11 a12 a13 a14 a15 a16 x11 x12 x13 x14 x15 x16 a17 a18 a19 x17 a20 x18 a21 x19 x20 a22 a23 a24 a25 x21 a26 x22 a27 a28 a29 y0 a30 a31 a32 a33 a34 a35 a36 a37 a38 x23 x24 x25 y1 a39 x26 a40 a41 a42 a43 x27 x28 x29 x30 a27 f_3 a35 g_11) H := g_psub hP [0, 1, 2] rfl
                  have hD9 : va_D A (zS_122 cB cC cI cJ a0 a1 x3 x4 x5 x6 x7 x8 x9 x10 a2 a3 a4 a5 a6 a7 a8 a9 a10 a11 a12 a13 a14 a15 a16 x11 x12 x13 x14 x15 x16 a17 a18 a19 x17 a20 x18 a21 x19 x20 a22 a23 a24 a25 x21 a26 x22 a27 a28 a29 y0 a30 a31 a32 a33 a34 a35 a36 a37 a38 x23 x24 x25 y1 a39 x26 a40 a41 a42 a43 x27 x28 x29 x30 a27 f_3 a35 g_11) := hD.sub [0, 1, 2] (by decide) rfl
                  exact hret ((fun _ => 0), (fun k => [f_3].getD k (fun _ => 0)), (fun k => [g_11].getD k (fun _ => 0)), (fun _ => 0), (fun _ => 0)) dX12_goes_91 (show goQ f0 f_3 x0.toInt x1.toInt x2 x13.toInt from hh_8) hP9 hD9 hS
              ·
                as_aux_lemma =>
                  refine lv_aload_n (pc := 57) hx hb dX12_goes_57 rfl (lv_at hl 1 rfl) ?_
                  refine va_get (pc := 58) (ci := 12) (v := .ref a35) (C := RX12) (T := TX12) (N := 73) hx hb hts iX12 hown hK hP 0 rfl rfl 55 (by decide) (hts _ tw_1456) (fun _ h9 => h9) rfl dX12_goes_58 ?_
                  refine lv_iconst (pc := 61) (v := 5) hx hb dX12_goes_61 (by decide) ?_
                  refine lv_iload (pc := 62) hx hb dX12_goes_62 (lv_at hl 0 rfl) ?_
                  refine b_imul (pc := 64) hx hb tI_5 rfl (by first | exact (om_941 hi_10.1) | ((first | omega | (unfold zBd at *; omega)))) (by first | exact (om_1690 c_13 h_x12.2) | ((first | omega | (unfold zBd at *; omega)))) dX12_goes_64 (fun x_14 ex_14 => ?_)
                  refine lv_iload_n (pc := 65) hx hb dX12_goes_65 rfl (lv_at hl 2 rfl) ?_
                  refine b_iadd (pc := 66) hx hb rfl rfl (by first | exact (om_1529 ex_14 hp1.1 hi_10.1) | ((first | omega | (unfold zBd at *; omega)))) (by first | exact (om_1691 ex_14 hp1.2 c_13 h_x12.2) | ((first | omega | (unfold zBd at *; omega)))) dX12_goes_66 (fun x_15 ex_15 => ?_)
                  refine lv_dup2_11 (pc := 67) hx hb dX12_goes_67 rfl rfl ?_
                  refine va_lald (pc := 68) hx hb hK hP 2 3 rfl rfl (n_in rfl (by first | exact (om_1531 ex_15 ex_14 hp1.1 hi_10.1) | ((first | omega | (unfold zBd at *; omega)))) (by first | exact (om_1692 ex_15 ex_14 hp1.2 c_13 h_x12.2) | ((first | omega | (unfold zBd at *; omega))))) dX12_goes_68 ?_
                  refine lv_topl (fun y_16 ey_16 => ?_)
                  have ry_16 := n_rngL y_16
                  as_aux_lemma =>
                    refine lv_iload_n (pc := 69) hx hb dX12_goes_69 rfl (lv_at hl 4 rfl) ?_
                    refine b_i2l (pc := 70) hx hb rfl dX12_goes_70 (fun y_17 ey_17 => ?_)
                    have ry_17 : zBd x2.toInt (-2147483648) 2147483647 := n_rng x2
                    refine lv_aload_n (pc := 71) hx hb dX12_goes_71 rfl (lv_at hl 1 rfl) ?_
                    refine va_get (pc := 72) (ci := 12) (v := .ref a35) (C := RX12) (T := TX12) (N := 73) hx hb hts iX12 hown hK hP 0 rfl rfl 55 (by decide) (hts _ tw_1456) (fun _ h9 => h9) rfl dX12_goes_72 ?_
                    refine lv_iconst (pc := 75) (v := 5) hx hb dX12_goes_75 (by decide) ?_
                    refine lv_iload (pc := 76) hx hb dX12_goes_76 (lv_at hl 0 rfl) ?_
                    refine b_imul (pc := 78) hx hb tI_5 rfl (by first | exact (om_941 hi_10.1) | ((first | omega | (unfold zBd at *; omega)))) (by first | exact (om_1690 c_13 h_x12.2) | ((first | omega | (unfold zBd at *; omega)))) dX12_goes_78 (fun x_18 ex_18 => ?_)
                    refine lv_iload_n (pc := 79) hx hb dX12_goes_79 rfl (lv_at hl 3 rfl) ?_
                    refine b_iadd (pc := 80) hx hb rfl rfl (by first | exact (om_1529 ex_18 hp2.1 hi_10.1) | ((first | omega | (unfold zBd at *; omega)))) (by first | exact (om_1691 ex_18 hp2.2 c_13 h_x12.2) | ((first | omega | (unfold zBd at *; omega)))) dX12_goes_80 (fun x_19 ex_19 => ?_)
                    refine va_lald (pc := 81) hx hb hK hP 2 3 rfl rfl (n_in rfl (by first | exact (om_1531 ex_19 ex_18 hp2.1 hi_10.1) | ((first | omega | (unfold zBd at *; omega)))) (by first | exact (om_1692 ex_19 ex_18 hp2.2 c_13 h_x12.2) | ((first | omega | (unfold zBd at *; omega))))) dX12_goes_81 ?_
                    as_aux_lemma =>
                      refine lv_topl (fun y_20 ey_20 => ?_)
                      have ry_20 := n_rngL y_20
                      refine lv_lmul (pc := 82) hx hb dX12_goes_82 ?_
                      refine lv_topl (fun y_21 _ => ?_)
                      have ry_21 := n_rngL y_21
                      refine lv_lsub (pc := 83) hx hb dX12_goes_83 ?_
                      refine lv_topl (fun y_22 _ => ?_)
                      have ry_22 := n_rngL y_22
                      refine g_lastore (pc := 84) hx hb hK hP hD hS 2 3 rfl rfl (n_in rfl (by first | exact (om_1531 ex_15 ex_14 hp1.1 hi_10.1) | ((first | omega | (unfold zBd at *; omega)))) (by first | exact (om_1692 ex_15 ex_14 hp1.2 c_13 h_x12.2) | ((first | omega | (unfold zBd at *; omega))))) dX12_goes_84 (fun g_23 H locs hP hD hS => ?_)
                      replace hP : va_P D gcl (zS_122 cB cC cI cJ a0 a1 x3 x4 x5 x6 x7 x8 x9 x10 a2 a3 a4 a5 a6 a7 a8 a9 a10 a11 a12 a13 a14 a15 a16 x11 x12 x13 x14 x15 x16 a17 a18 a19 x17 a20 x18 a21 x19 x20 a22 a23 a24 a25 x21 a26 x22 a27 a28 a29 y0 a30 a31 a32 a33 a34 a35 a36 a37 a38 x23 x24 x25 y1 a39 x26 a40 a41 a42 a43 x27 x28 x29 x30 a27 f_3 a35 g_23) H := hP
                      replace hD : va_D A (zS_122 cB cC cI cJ a0 a1 x3 x4 x5 x6 x7 x8 x9 x10 a2 a3 a4 a5 a6 a7 a8 a9 a10 a11 a12 a13 a14 a15 a16 x11 x12 x13 x14 x15 x16 a17 a18 a19 x17 a20 x18 a21 x19 x20 a22 a23 a24 a25 x21 a26 x22 a27 a28 a29 y0 a30 a31 a32 a33 a34 a35 a36 a37 a38 x23 x24 x25 y1 a39 x26 a40 a41 a42 a43 x27 x28 x29 x30 a27 f_3 a35 g_23) := hD
                      refine b_iinc (pc := 85) hx hb dX12_goes_85 hl (k := 0) rfl rfl tI_1 (by first | exact (om_2 hi_10.1) | ((first | omega | (unfold zBd at *; omega)))) (by first | exact (om_338 c_13 h_x12.2) | ((first | omega | (unfold zBd at *; omega)))) (by decide) (fun x_24 ex_24 ls hl => ?_)
                      replace hl : lv_has ls 5 [(4, .int x_24), (0, .ref a0), (1, .int x0), (2, .int x1), (3, .int x2)] := hl
                      refine lv_goto (pc := 88) (tgt := 48) hx hb dX12_goes_88 (by decide) ?_
                      exact ih_lp_12 x_24 g_23 _ _ ls (by first | exact (om_339 ex_24 hi_10.1 c_13 h_x12.2) | ((first | omega | (unfold zBd at *; omega)))) (by (first | omega | (unfold zBd at *; omega))) hP hD hS (lv_sub hl [0, 1, 2, 3, 4] rfl)
          exact lp_12 _ 0 g0 _ _ ls (n_c tI_0 (by decide)) (Nat.lt_succ_self _) hP hD hS (lv_sub hl [0, 1, 2, 3, 4] rfl)
      ·
        as_aux_lemma =>
          refine lv_aload_n (pc := 12) hx hb dX12_goes_12 rfl (lv_at hl 1 rfl) ?_
          refine va_get (pc := 13) (ci := 12) (v := .ref a27) (C := RX12) (T := TX12) (N := 73) hx hb hts iX12 hown hK hP 0 rfl rfl 46 (by decide) (hts _ tw_1447) (fun _ h9 => h9) rfl dX12_goes_13 ?_
          refine lv_iconst (pc := 16) (v := 5) hx hb dX12_goes_16 (by decide) ?_
          refine lv_iload (pc := 17) hx hb dX12_goes_17 (lv_at hl 0 rfl) ?_
          refine b_imul (pc := 19) hx hb tI_5 rfl (by first | exact (om_941 hi_2.1) | ((first | omega | (unfold zBd at *; omega)))) (by first | exact (om_1528 hi_2.2) | ((first | omega | (unfold zBd at *; omega)))) dX12_goes_19 (fun x_25 ex_25 => ?_)
          refine lv_iload_n (pc := 20) hx hb dX12_goes_20 rfl (lv_at hl 2 rfl) ?_
          refine b_iadd (pc := 21) hx hb rfl rfl (by first | exact (om_1529 ex_25 hp1.1 hi_2.1) | ((first | omega | (unfold zBd at *; omega)))) (by first | exact (om_1530 ex_25 hp1.2 hi_2.2) | ((first | omega | (unfold zBd at *; omega)))) dX12_goes_21 (fun x_26 ex_26 => ?_)
          refine lv_dup2_11 (pc := 22) hx hb dX12_goes_22 rfl rfl ?_
          refine va_iald (pc := 23) hx hb hK hP 1 2 rfl rfl (n_in rfl (by first | exact (om_1531 ex_26 ex_25 hp1.1 hi_2.1) | ((first | omega | (unfold zBd at *; omega)))) (by first | exact (om_1533 ex_26 ex_25 hp1.2 c_7 h_x13.2) | ((first | omega | (unfold zBd at *; omega))))) dX12_goes_23 ?_
          refine lv_topi (fun x_27 ex_27 => ?_)
          have rx_27 : zBd x_27.toInt (-2147483648) 2147483647 := n_rng x_27
          replace ex_27 : x_27 = f_3 (x_26.toInt).toNat := ex_27
          have tx_27 := congrArg Int32.toInt ex_27
          as_aux_lemma =>
            refine lv_iload_n (pc := 24) hx hb dX12_goes_24 rfl (lv_at hl 4 rfl) ?_
            refine lv_aload_n (pc := 25) hx hb dX12_goes_25 rfl (lv_at hl 1 rfl) ?_
            refine va_get (pc := 26) (ci := 12) (v := .ref a27) (C := RX12) (T := TX12) (N := 73) hx hb hts iX12 hown hK hP 0 rfl rfl 46 (by decide) (hts _ tw_1447) (fun _ h9 => h9) rfl dX12_goes_26 ?_
            refine lv_iconst (pc := 29) (v := 5) hx hb dX12_goes_29 (by decide) ?_
            refine lv_iload (pc := 30) hx hb dX12_goes_30 (lv_at hl 0 rfl) ?_
            refine b_imul (pc := 32) hx hb tI_5 rfl (by first | exact (om_941 hi_2.1) | ((first | omega | (unfold zBd at *; omega)))) (by first | exact (om_1528 hi_2.2) | ((first | omega | (unfold zBd at *; omega)))) dX12_goes_32 (fun x_28 ex_28 => ?_)
            refine lv_iload_n (pc := 33) hx hb dX12_goes_33 rfl (lv_at hl 3 rfl) ?_
            refine b_iadd (pc := 34) hx hb rfl rfl (by first | exact (om_1529 ex_28 hp2.1 hi_2.1) | ((first | omega | (unfold zBd at *; omega)))) (by first | exact (om_1530 ex_28 hp2.2 hi_2.2) | ((first | omega | (unfold zBd at *; omega)))) dX12_goes_34 (fun x_29 ex_29 => ?_)
            refine va_iald (pc := 35) hx hb hK hP 1 2 rfl rfl (n_in rfl (by first | exact (om_1531 ex_29 ex_28 hp2.1 hi_2.1) | ((first | omega | (unfold zBd at *; omega)))) (by first | exact (om_1533 ex_29 ex_28 hp2.2 c_7 h_x13.2) | ((first | omega | (unfold zBd at *; omega))))) dX12_goes_35 ?_
            refine lv_topi (fun x_30 ex_30 => ?_)
            have rx_30 : zBd x_30.toInt (-2147483648) 2147483647 := n_rng x_30
            replace ex_30 : x_30 = f_3 (x_29.toInt).toNat := ex_30
            have tx_30 := congrArg Int32.toInt ex_30
            as_aux_lemma =>
              refine lv_imul (pc := 36) hx hb dX12_goes_36 ?_
              refine lv_topi (fun x_31 ex_31 => ?_)
              have rx_31 : zBd x_31.toInt (-2147483648) 2147483647 := n_rng x_31
              refine lv_isub (pc := 37) hx hb dX12_goes_37 ?_
              refine lv_topi (fun x_32 ex_32 => ?_)
              have rx_32 : zBd x_32.toInt (-2147483648) 2147483647 := n_rng x_32
              refine e_iastore (pc := 38) hx hb hK hP hD hS 1 2 rfl rfl (n_in rfl (by first | exact (om_1531 ex_26 ex_25 hp1.1 hi_2.1) | ((first | omega | (unfold zBd at *; omega)))) (by first | exact (om_1533 ex_26 ex_25 hp1.2 c_7 h_x13.2) | ((first | omega | (unfold zBd at *; omega))))) dX12_goes_38 (fun f_33 ef_33 H locs hP hD hS => ?_)
              replace hP : va_P D gcl (zS_122 cB cC cI cJ a0 a1 x3 x4 x5 x6 x7 x8 x9 x10 a2 a3 a4 a5 a6 a7 a8 a9 a10 a11 a12 a13 a14 a15 a16 x11 x12 x13 x14 x15 x16 a17 a18 a19 x17 a20 x18 a21 x19 x20 a22 a23 a24 a25 x21 a26 x22 a27 a28 a29 y0 a30 a31 a32 a33 a34 a35 a36 a37 a38 x23 x24 x25 y1 a39 x26 a40 a41 a42 a43 x27 x28 x29 x30 a27 f_33 a35 g0) H := hP
              replace hD : va_D A (zS_122 cB cC cI cJ a0 a1 x3 x4 x5 x6 x7 x8 x9 x10 a2 a3 a4 a5 a6 a7 a8 a9 a10 a11 a12 a13 a14 a15 a16 x11 x12 x13 x14 x15 x16 a17 a18 a19 x17 a20 x18 a21 x19 x20 a22 a23 a24 a25 x21 a26 x22 a27 a28 a29 y0 a30 a31 a32 a33 a34 a35 a36 a37 a38 x23 x24 x25 y1 a39 x26 a40 a41 a42 a43 x27 x28 x29 x30 a27 f_33 a35 g0) := hD
              refine b_iinc (pc := 39) hx hb dX12_goes_39 hl (k := 0) rfl rfl tI_1 (by first | exact (om_2 hi_2.1) | ((first | omega | (unfold zBd at *; omega)))) (by first | exact (om_38 hi_2.2) | ((first | omega | (unfold zBd at *; omega)))) (by decide) (fun x_34 ex_34 ls hl => ?_)
              replace hl : lv_has ls 5 [(4, .int x_34), (0, .ref a0), (1, .int x0), (2, .int x1), (3, .int x2)] := hl
              refine lv_goto (pc := 42) (tgt := 3) hx hb dX12_goes_42 (by decide) ?_
              exact ih_lp_6 x_34 f_33 _ _ ls (by first | exact (om_39 ex_34 hi_2.1 c_7 h_x13.2) | ((first | omega | (unfold zBd at *; omega)))) (by first | exact (om_40 ex_34 c_7) | ((first | omega | (unfold zBd at *; omega)))) (go_step hi_5 (e_ld ex_27 (by (first | omega | (unfold zBd at *; omega)))).symm (e_ld ex_30 (by (first | omega | (unfold zBd at *; omega)))).symm ex_31 ex_32 ef_33 (by (first | omega | (unfold zBd at *; omega))) (by first | exact (om_1693 hp1.1 hp1.2) | ((first | omega | (unfold zBd at *; omega)))) (by first | exact (om_1693 hp2.1 hp2.2) | ((first | omega | (unfold zBd at *; omega)))) hg__ne (by first | exact (om_0 hi_2.1) | ((first | omega | (unfold zBd at *; omega)))) (by first | exact (om_5 ex_34) | ((first | omega | (unfold zBd at *; omega))))) (by (first | omega | (unfold zBd at *; omega))) hP hD hS (lv_sub hl [0, 1, 2, 3, 4] rfl)
  exact lp_6 _ 0 f0 _ _ ls (n_c tI_0 (by decide)) (by have q := tI_0; (first | omega | (unfold zBd at *; omega))) (go_0 tI_0) (Nat.lt_succ_self _) hP hD hS (lv_sub hl [0, 1, 2, 3, 4] rfl)
theorem om_1694 {a : Int} (h0 : (¬ a = 200)) (h1 : (a ≤ 200)) : (a < (200 : Nat)) := by omega
theorem om_1695 {a : Int} (h0 : (a ≤ 200)) : (a + 1 ≤ 2147483647) := by omega
theorem om_1696 {a b : Int} (h0 : (a = b + 1)) (h1 : (0 ≤ b)) (h2 : (¬ b = 200)) (h3 : (b ≤ 200)) : ((0 ≤ a ∧ a ≤ 200)) := by omega
set_option maxHeartbeats 4000000 in
set_option maxRecDepth 100000 in
theorem k_X12_isStep (l : Launch) (D : va_G) (cB cC cI cJ : ClassId) (sz : Nat) (a0 a1 a2 a3 a4 a5 a6 a7 a8 a9 a10 a11 a12 a13 a14 a15 a16 a17 a18 a19 a20 a21 a22 a23 a24 a25 a26 a27 a28 a29 a30 a31 a32 a33 a34 a35 a36 a37 a38 a39 a40 a41 a42 a43 : Nat) (x0 x1 x2 x3 x4 x5 x6 x7 x8 x9 x10 x11 x12 x13 x14 x15 x16 x17 x18 x19 x20 x21 x22 x23 x24 x25 x26 x27 : Int32) (y0 y1 : Int64) (f0 f1 f2 f3 : Nat → Int32) (g0 : Nat → Int64) (h_x0 : zBd x0.toInt 0 1600) (h_x1 : zBd x1.toInt 0 1600) (h_x2 : zBd x2.toInt 0 1600) (h_x3 : zBd x3.toInt (-1) 1600) (h_x4 : zBd x4.toInt 0 4) (h_x5 : zBd x5.toInt (-1) 1600) (h_x8 : zBd x8.toInt 0 8) (h_x9 : zBd x9.toInt 0 5) (h_x10 : zBd x10.toInt 0 6) (h_x11 : zBd x11.toInt 0 6) (h_x12 : zBd x12.toInt 0 16) (h_x14 : zBd x14.toInt 0 60) (h_x15 : zBd x15.toInt 0 1600) (h_x16 : zBd x16.toInt 0 1700) (h_x18 : zBd x18.toInt 0 1700) (h_x19 : zBd x19.toInt 0 1700) (h_x20 : zBd x20.toInt 0 200) (h_x21 : zBd x21.toInt 0 40) (h_x22 : zBd x22.toInt 0 40) (h_x23 : zBd x23.toInt 0 1) (h_x24 : zBd x24.toInt 0 14) (h_x25 : zBd x25.toInt 0 200) (h_x26 : zBd x26.toInt 0 40) (h_x27 : zBd x27.toInt 0 40) (hr_a0_0 : (x21.toInt ≤ x20.toInt)) (hr_a0_1 : (x20.toInt + x22.toInt ≤ 200)) (hr_a0_2 : (x9.toInt = 0 ∨ 2 ≤ x8.toInt)) (hf_f1 : (∀ j, 0 ≤ (f1 j).toInt ∧ (f1 j).toInt ≤ 4)) (hf_f2 : (∀ j, 0 ≤ (f2 j).toInt ∧ (f2 j).toInt ≤ 4)) : Met l yX12_isStep (.code yX12_isStep cX12_isStep 5 (some .boolean) :: lw_gd) ({ frames := 1, cells := 0, slots := 0, locals := 25 }) (gPre D [(cB, .byte), (cC, .char), (cI, .int), (cJ, .long)] [.ref a0] (zS_58 cB cC cI cJ a0 a1 x0 x1 x2 x3 x4 x5 x6 x7 a2 a3 a4 a5 a6 a7 a8 a9 a10 a11 a12 a13 a14 a15 a16 x8 x9 x10 x11 x12 x13 a17 a18 a19 x14 a20 x15 a21 x16 x17 a22 a23 a24 a25 x18 a26 x19 a27 a28 a29 y0 a30 a31 a32 a33 a34 a35 a36 a37 a38 x20 x21 x22 y1 a39 x23 a40 a41 a42 a43 x24 x25 x26 x27 a27 f0 a36 f1 a37 f2 a38 f3 a35 g0) sz) (va_Qi (fun r u => (0 ≤ r.toInt ∧ r.toInt ≤ 1) ∧ (0 ≤ (u.2.2.2.1 0).toInt ∧ (u.2.2.2.1 0).toInt ≤ 200) ∧ (x21.toInt ≤ (u.2.2.2.1 0).toInt) ∧ (∀ j, 0 ≤ ((u.2.1 1) j).toInt ∧ ((u.2.1 1) j).toInt ≤ 4) ∧ (∀ j, 0 ≤ ((u.2.1 2) j).toInt ∧ ((u.2.1 2) j).toInt ≤ 4) ∧ ((u.2.2.2.1 0).toInt = x20.toInt + r.toInt) ∧ (isQ f0 (u.2.1 0) f1 f2 f3 (u.2.1 1) (u.2.1 2) (u.2.1 3) x10.toInt x9.toInt x20.toInt (u.2.2.2.1 0).toInt r.toInt)) (gB D (va_A (zS_58 cB cC cI cJ a0 a1 x0 x1 x2 x3 x4 x5 x6 x7 a2 a3 a4 a5 a6 a7 a8 a9 a10 a11 a12 a13 a14 a15 a16 x8 x9 x10 x11 x12 x13 a17 a18 a19 x14 a20 x15 a21 x16 x17 a22 a23 a24 a25 x18 a26 x19 a27 a28 a29 y0 a30 a31 a32 a33 a34 a35 a36 a37 a38 x20 x21 x22 y1 a39 x23 a40 a41 a42 a43 x24 x25 x26 x27 a27 f0 a36 f1 a37 f2 a38 f3 a35 g0) sz) (fun u : gEx => (zS_58 cB cC cI cJ a0 a1 x0 x1 x2 x3 x4 x5 x6 x7 a2 a3 a4 a5 a6 a7 a8 a9 a10 a11 a12 a13 a14 a15 a16 x8 x9 x10 x11 x12 x13 a17 a18 a19 x14 a20 x15 a21 x16 x17 a22 a23 a24 a25 x18 a26 x19 a27 a28 a29 y0 a30 a31 a32 a33 a34 a35 a36 a37 a38 (u.2.2.2.1 0) x21 x22 y1 a39 x23 a40 a41 a42 a43 x24 x25 x26 x27 a27 (u.2.1 0) a36 (u.2.1 1) a37 (u.2.1 2) a38 (u.2.1 3) a35 (u.2.2.1 0)))) (va_A (zS_58 cB cC cI cJ a0 a1 x0 x1 x2 x3 x4 x5 x6 x7 a2 a3 a4 a5 a6 a7 a8 a9 a10 a11 a12 a13 a14 a15 a16 x8 x9 x10 x11 x12 x13 a17 a18 a19 x14 a20 x15 a21 x16 x17 a22 a23 a24 a25 x18 a26 x19 a27 a28 a29 y0 a30 a31 a32 a33 a34 a35 a36 a37 a38 x20 x21 x22 y1 a39 x23 a40 a41 a42 a43 x24 x25 x26 x27 a27 f0 a36 f1 a37 f2 a38 f3 a35 g0) sz)) 0 0 (va_A (zS_58 cB cC cI cJ a0 a1 x0 x1 x2 x3 x4 x5 x6 x7 a2 a3 a4 a5 a6 a7 a8 a9 a10 a11 a12 a13 a14 a15 a16 x8 x9 x10 x11 x12 x13 a17 a18 a19 x14 a20 x15 a21 x16 x17 a22 a23 a24 a25 x18 a26 x19 a27 a28 a29 y0 a30 a31 a32 a33 a34 a35 a36 a37 a38 x20 x21 x22 y1 a39 x23 a40 a41 a42 a43 x24 x25 x26 x27 a27 f0 a36 f1 a37 f2 a38 f3 a35 g0) sz) := by
  refine gOf_z (by decide +kernel) (Nat.le_of_ble_eq_true rfl) ?_
  intro p e s m args below meth c ls A Q hx hb hts hown hml hN hK hP hD hA hl hret
  replace hown : s.vm.findClass RX12 = some m.cls := hown
  have hS : va_S A s.heap s.heap [] := va_S.rf
  replace hP : va_P D gcl (zS_58 cB cC cI cJ a0 a1 x0 x1 x2 x3 x4 x5 x6 x7 a2 a3 a4 a5 a6 a7 a8 a9 a10 a11 a12 a13 a14 a15 a16 x8 x9 x10 x11 x12 x13 a17 a18 a19 x14 a20 x15 a21 x16 x17 a22 a23 a24 a25 x18 a26 x19 a27 a28 a29 y0 a30 a31 a32 a33 a34 a35 a36 a37 a38 x20 x21 x22 y1 a39 x23 a40 a41 a42 a43 x24 x25 x26 x27 a27 f0 a36 f1 a37 f2 a38 f3 a35 g0) s.heap := hP
  replace hl : lv_has ls 5 [(0, .ref a0)] := hl
  have rx6 : zBd x6.toInt (-2147483648) 2147483647 := n_rng x6
  have rx7 : zBd x7.toInt (-2147483648) 2147483647 := n_rng x7
  have rx13 : zBd x13.toInt (-2147483648) 2147483647 := n_rng x13
  have rx17 : zBd x17.toInt (-2147483648) 2147483647 := n_rng x17
  have ry0 := n_rngL y0
  have ry1 := n_rngL y1
  refine lv_aload_n (pc := 0) hx hb dX12_isStep_0 rfl (lv_at hl 0 rfl) ?_
  refine va_get (pc := 1) (ci := 12) (v := .int x20) (C := RX12) (T := TX12) (N := 73) hx hb hts iX12 hown hK hP 0 rfl rfl 59 (by decide) (hts _ tw_1460) (fun _ h9 => h9) rfl dX12_isStep_1 ?_
  have bd_h_x20 : 0 ≤ x20.toInt ∧ x20.toInt ≤ 200 := h_x20
  refine lv_sipush (pc := 4) (v := 200) hx hb dX12_isStep_4 (by decide) ?_
  refine b_icmp_ne (pc := 7) (tgt := 12) hx hb rfl tI_200  dX12_isStep_7 (by decide) (fun c_1 => ?_) (fun c_1 => ?_)
  ·
    as_aux_lemma =>
      refine lv_iconst (pc := 12) (v := 0) hx hb dX12_isStep_12 (by decide) ?_
      refine lv_istore_n (pc := 13) (lv' := [(1, .int 0), (0, .ref a0)]) hx hb dX12_isStep_13 rfl hl (by decide) rfl (fun ls hl => ?_)
      have lp_5 : ∀ (n : Nat) (x_2 : Int32) (H : Heap) (locs : List Loc) (ls : Array Slot), (0 ≤ x_2.toInt ∧ x_2.toInt ≤ 2147483647) → (noq f0 x10.toInt x9.toInt x_2.toInt 0) → (2147483647 - x_2.toInt).toNat < n → va_P D gcl (zS_58 cB cC cI cJ a0 a1 x0 x1 x2 x3 x4 x5 x6 x7 a2 a3 a4 a5 a6 a7 a8 a9 a10 a11 a12 a13 a14 a15 a16 x8 x9 x10 x11 x12 x13 a17 a18 a19 x14 a20 x15 a21 x16 x17 a22 a23 a24 a25 x18 a26 x19 a27 a28 a29 y0 a30 a31 a32 a33 a34 a35 a36 a37 a38 x20 x21 x22 y1 a39 x23 a40 a41 a42 a43 x24 x25 x26 x27 a27 f0 a36 f1 a37 f2 a38 f3 a35 g0) H → va_D A (zS_58 cB cC cI cJ a0 a1 x0 x1 x2 x3 x4 x5 x6 x7 a2 a3 a4 a5 a6 a7 a8 a9 a10 a11 a12 a13 a14 a15 a16 x8 x9 x10 x11 x12 x13 a17 a18 a19 x14 a20 x15 a21 x16 x17 a22 a23 a24 a25 x18 a26 x19 a27 a28 a29 y0 a30 a31 a32 a33 a34 a35 a36 a37 a38 x20 x21 x22 y1 a39 x23 a40 a41 a42 a43 x24 x25 x26 x27 a27 f0 a36 f1 a37 f2 a38 f3 a35 g0) → va_S A s.heap H locs → lv_has ls 5 [(1, .int x_2), (0, .ref a0)] → W p l e ({ frames := 1, cells := 0, slots := 0, locals := 25 }) s m args below meth c H locs 0 0 Q (F0 m 14 ls []) := by
        intro n
        induction n with
        | zero => intro x_2 H locs ls hi_3 hi_4 hmu; exact absurd hmu (Nat.not_lt_zero _)
        | succ n ih_lp_5 =>
          intro x_2 H locs ls hi_3 hi_4 hmu_lp_5 hP hD hS hl
          refine lv_iload_n (pc := 14) hx hb dX12_isStep_14 rfl (lv_at hl 0 rfl) ?_
          refine lv_aload_n (pc := 15) hx hb dX12_isStep_15 rfl (lv_at hl 1 rfl) ?_
          refine va_get (pc := 16) (ci := 12) (v := .int x9) (C := RX12) (T := TX12) (N := 73) hx hb hts iX12 hown hK hP 0 rfl rfl 25 (by decide) (hts _ tw_1426) (fun _ h9 => h9) rfl dX12_isStep_16 ?_
          have bd_h_x9 : 0 ≤ x9.toInt ∧ x9.toInt ≤ 5 := h_x9
          refine b_icmp_ge (pc := 19) (tgt := 142) hx hb rfl rfl  dX12_isStep_19 (by decide) (fun c_6 => ?_) (fun c_6 => ?_)
          ·
            as_aux_lemma =>
              refine lv_iconst (pc := 142) (v := 0) hx hb dX12_isStep_142 (by decide) ?_
              have hP9 : va_P D gcl (zS_58 cB cC cI cJ a0 a1 x0 x1 x2 x3 x4 x5 x6 x7 a2 a3 a4 a5 a6 a7 a8 a9 a10 a11 a12 a13 a14 a15 a16 x8 x9 x10 x11 x12 x13 a17 a18 a19 x14 a20 x15 a21 x16 x17 a22 a23 a24 a25 x18 a26 x19 a27 a28 a29 y0 a30 a31 a32 a33 a34 a35 a36 a37 a38 x20 x21 x22 y1 a39 x23 a40 a41 a42 a43 x24 x25 x26 x27 a27 f0 a36 f1 a37 f2 a38 f3 a35 g0) H := g_psub hP [0, 1, 2, 3, 4, 5] rfl
              have hD9 : va_D A (zS_58 cB cC cI cJ a0 a1 x0 x1 x2 x3 x4 x5 x6 x7 a2 a3 a4 a5 a6 a7 a8 a9 a10 a11 a12 a13 a14 a15 a16 x8 x9 x10 x11 x12 x13 a17 a18 a19 x14 a20 x15 a21 x16 x17 a22 a23 a24 a25 x18 a26 x19 a27 a28 a29 y0 a30 a31 a32 a33 a34 a35 a36 a37 a38 x20 x21 x22 y1 a39 x23 a40 a41 a42 a43 x24 x25 x26 x27 a27 f0 a36 f1 a37 f2 a38 f3 a35 g0) := hD.sub [0, 1, 2, 3, 4, 5] (by decide) rfl
              have k9 := tI_0
              exact hret 0 ((fun _ => 0), (fun k => [f0, f1, f2, f3].getD k (fun _ => 0)), (fun k => [g0].getD k (fun _ => 0)), (fun k => [x20].getD k 0), (fun _ => 0)) dX12_isStep_143 ⟨(Or.inl tI_0), ⟨(show (0 ≤ (0 : Int32).toInt ∧ (0 : Int32).toInt ≤ 1) from (n_c tI_0 (by decide))), (show (0 ≤ (x20 : Int32).toInt ∧ (x20 : Int32).toInt ≤ 200) from h_x20), (show (x21.toInt ≤ (x20 : Int32).toInt) from hr_a0_0), hf_f1, hf_f2, (show x20.toInt = x20.toInt + (0 : Int32).toInt from (by first | exact (om_306 tI_0) | (have k9 := tI_0; (first | omega | (unfold zBd at *; omega))))), (show isQ f0 f0 f1 f2 f3 f1 f2 f3 x10.toInt x9.toInt x20.toInt x20.toInt (0 : Int32).toInt from Or.inr ⟨by (first | omega | (unfold zBd at *; omega)), rfl, rfl, rfl, rfl, rfl, Or.inr (noq_all hi_4 (by first | exact (om_503 c_6) | ((first | omega | (unfold zBd at *; omega)))))⟩)⟩⟩ hP9 hD9 hS
          ·
            as_aux_lemma =>
              refine lv_iconst (pc := 22) (v := 0) hx hb dX12_isStep_22 (by decide) ?_
              refine lv_istore_n (pc := 23) (lv' := [(2, .int 0), (1, .int x_2), (0, .ref a0)]) hx hb dX12_isStep_23 rfl hl (by decide) rfl (fun ls hl => ?_)
              have lp_10 : ∀ (n : Nat) (x_7 : Int32) (H : Heap) (locs : List Loc) (ls : Array Slot), (0 ≤ x_7.toInt ∧ x_7.toInt ≤ 2147483647) → (noq f0 x10.toInt x9.toInt x_2.toInt x_7.toInt) → (2147483647 - x_7.toInt).toNat < n → va_P D gcl (zS_58 cB cC cI cJ a0 a1 x0 x1 x2 x3 x4 x5 x6 x7 a2 a3 a4 a5 a6 a7 a8 a9 a10 a11 a12 a13 a14 a15 a16 x8 x9 x10 x11 x12 x13 a17 a18 a19 x14 a20 x15 a21 x16 x17 a22 a23 a24 a25 x18 a26 x19 a27 a28 a29 y0 a30 a31 a32 a33 a34 a35 a36 a37 a38 x20 x21 x22 y1 a39 x23 a40 a41 a42 a43 x24 x25 x26 x27 a27 f0 a36 f1 a37 f2 a38 f3 a35 g0) H → va_D A (zS_58 cB cC cI cJ a0 a1 x0 x1 x2 x3 x4 x5 x6 x7 a2 a3 a4 a5 a6 a7 a8 a9 a10 a11 a12 a13 a14 a15 a16 x8 x9 x10 x11 x12 x13 a17 a18 a19 x14 a20 x15 a21 x16 x17 a22 a23 a24 a25 x18 a26 x19 a27 a28 a29 y0 a30 a31 a32 a33 a34 a35 a36 a37 a38 x20 x21 x22 y1 a39 x23 a40 a41 a42 a43 x24 x25 x26 x27 a27 f0 a36 f1 a37 f2 a38 f3 a35 g0) → va_S A s.heap H locs → lv_has ls 5 [(2, .int x_7), (1, .int x_2), (0, .ref a0)] → W p l e ({ frames := 1, cells := 0, slots := 0, locals := 25 }) s m args below meth c H locs 0 0 Q (F0 m 24 ls []) := by
                intro n
                induction n with
                | zero => intro x_7 H locs ls hi_8 hi_9 hmu; exact absurd hmu (Nat.not_lt_zero _)
                | succ n ih_lp_10 =>
                  intro x_7 H locs ls hi_8 hi_9 hmu_lp_10 hP hD hS hl
                  refine lv_iload_n (pc := 24) hx hb dX12_isStep_24 rfl (lv_at hl 0 rfl) ?_
                  refine lv_aload_n (pc := 25) hx hb dX12_isStep_25 rfl (lv_at hl 2 rfl) ?_
                  refine va_get (pc := 26) (ci := 12) (v := .int x9) (C := RX12) (T := TX12) (N := 73) hx hb hts iX12 hown hK hP 0 rfl rfl 25 (by decide) (hts _ tw_1426) (fun _ h9 => h9) rfl dX12_isStep_26 ?_
                  refine b_icmp_ge (pc := 29) (tgt := 136) hx hb rfl rfl  dX12_isStep_29 (by decide) (fun c_11 => ?_) (fun c_11 => ?_)
                  ·
                    as_aux_lemma =>
                      refine b_iinc (pc := 136) hx hb dX12_isStep_136 hl (k := 1) rfl rfl tI_1 (by first | exact (om_2 hi_3.1) | ((first | omega | (unfold zBd at *; omega)))) (by first | exact (om_338 c_6 h_x9.2) | ((first | omega | (unfold zBd at *; omega)))) (by decide) (fun x_12 ex_12 ls hl => ?_)
                      replace hl : lv_has ls 5 [(1, .int x_12), (2, .int x_7), (0, .ref a0)] := hl
                      refine lv_goto (pc := 139) (tgt := 14) hx hb dX12_isStep_139 (by decide) ?_
                      exact ih_lp_5 x_12 _ _ ls (by first | exact (om_339 ex_12 hi_3.1 c_6 h_x9.2) | ((first | omega | (unfold zBd at *; omega)))) (noq_i hi_9 (by first | exact (om_503 c_11) | ((first | omega | (unfold zBd at *; omega)))) (by first | exact (om_5 ex_12) | ((first | omega | (unfold zBd at *; omega)))) rfl) (by (first | omega | (unfold zBd at *; omega))) hP hD hS (lv_sub hl [0, 2] rfl)
                  ·
                    as_aux_lemma =>
                      refine lv_aload_n (pc := 32) hx hb dX12_isStep_32 rfl (lv_at hl 2 rfl) ?_
                      refine lv_iload_n (pc := 33) hx hb dX12_isStep_33 rfl (lv_at hl 0 rfl) ?_
                      refine lv_iload_n (pc := 34) hx hb dX12_isStep_34 rfl (lv_at hl 0 rfl) ?_
                      refine lv_aload_n (pc := 35) hx hb dX12_isStep_35 rfl (lv_at hl 2 rfl) ?_
                      refine va_get (pc := 36) (ci := 12) (v := .ref a27) (C := RX12) (T := TX12) (N := 73) hx hb hts iX12 hown hK hP 0 rfl rfl 46 (by decide) (hts _ tw_1447) (fun _ h9 => h9) rfl dX12_isStep_36 ?_
                      refine gd_i (pc := 39) (wc := (zS_51 cB cC cI cJ a0 a1 x0 x1 x2 x3 x4 x5 x6 x7 a2 a3 a4 a5 a6 a7 a8 a9 a10 a11 a12 a13 a14 a15 a16 x8 x9 x10 x11 x12 x13 a17 a18 a19 x14 a20 x15 a21 x16 x17 a22 a23 a24 a25 x18 a26 x19 a27 a28 a29 y0 a30 a31 a32 a33 a34 a35 a36 a37 a38 x20 x21 x22 y1 a39 x23 a40 a41 a42 a43 x24 x25 x26 x27 a27 f0)) hP hD hS hA [0, 1] rfl (by decide +kernel) (fun _ => by rfl) (fun hPc hDc => va_runV (As := [.int x_7, .int x_7, .ref a27]) (rest := []) ⟨hx, hb, hml, hown, hts⟩ (k_X12_productOf_30_x l D cB cC cI cJ _ a0 a27 a1 a2 a3 a4 a5 a6 a7 a8 a9 a10 a11 a12 a13 a14 a15 a16 a17 a18 a19 a20 a21 a22 a23 a24 a25 a26 a27 a28 a29 a30 a31 a32 a33 a34 a35 a36 a37 a38 a39 a40 a41 a42 a43 x_7 x_7 x0 x1 x2 x3 x4 x5 x6 x7 x8 x9 x10 x11 x12 x13 x14 x15 x16 x17 x18 x19 x20 x21 x22 x23 x24 x25 x26 x27 y0 y1 f0 (by first | exact (om_360 hi_8.1 c_11 h_x9.2) | ((first | omega | (unfold zBd at *; omega)))) (by first | exact (om_360 hi_8.1 c_11 h_x9.2) | ((first | omega | (unfold zBd at *; omega)))) h_x0 h_x1 h_x2 h_x3 h_x4 h_x5 h_x8 h_x9 h_x10 h_x11 h_x12 h_x14 h_x15 h_x16 h_x18 h_x19 h_x20 h_x21 h_x22 h_x23 h_x24 h_x25 h_x26 h_x27 hr_a0_0 hr_a0_1 hr_a0_2) ⟨gcwB hts tw_1791 tw_14 tw_1788 hd_yX12_productOf ⟨Nat.le_of_ble_eq_true rfl, Nat.le_of_ble_eq_true rfl⟩, hts _ tw_1790, hts _ tp_91⟩ ⟨gblind, va_recv hK hPc (ci := 12) (q0 := 0) rfl rfl, (gpreS hPc hK hDc hN).2⟩ rfl rfl hl.1 rfl (lv_room (Nat.le_of_ble_eq_true rfl)) dX12_isStep_39 ⟨Nat.le_of_ble_eq_true rfl, Nat.le_of_ble_eq_true rfl⟩) (fun r_14 u_13 H locs hw_15 hP hD hS => ?_)
                      replace hP : va_P D gcl (zS_58 cB cC cI cJ a0 a1 x0 x1 x2 x3 x4 x5 x6 x7 a2 a3 a4 a5 a6 a7 a8 a9 a10 a11 a12 a13 a14 a15 a16 x8 x9 x10 x11 x12 x13 a17 a18 a19 x14 a20 x15 a21 x16 x17 a22 a23 a24 a25 x18 a26 x19 a27 a28 a29 y0 a30 a31 a32 a33 a34 a35 a36 a37 a38 x20 x21 x22 y1 a39 x23 a40 a41 a42 a43 x24 x25 x26 x27 a27 f0 a36 f1 a37 f2 a38 f3 a35 g0) H := hP
                      replace hD : va_D A (zS_58 cB cC cI cJ a0 a1 x0 x1 x2 x3 x4 x5 x6 x7 a2 a3 a4 a5 a6 a7 a8 a9 a10 a11 a12 a13 a14 a15 a16 x8 x9 x10 x11 x12 x13 a17 a18 a19 x14 a20 x15 a21 x16 x17 a22 a23 a24 a25 x18 a26 x19 a27 a28 a29 y0 a30 a31 a32 a33 a34 a35 a36 a37 a38 x20 x21 x22 y1 a39 x23 a40 a41 a42 a43 x24 x25 x26 x27 a27 f0 a36 f1 a37 f2 a38 f3 a35 g0) := hD
                      have hw_16 : (r_14 = prn f0 x_7.toInt x_7.toInt (x10.toInt).toNat) := hw_15
                      have rr_14 : zBd r_14.toInt (-2147483648) 2147483647 := n_rng r_14
                      refine lv_istore_n (pc := 42) (lv' := [(3, .int r_14), (2, .int x_7), (1, .int x_2), (0, .ref a0)]) hx hb dX12_isStep_42 rfl hl (by decide) rfl (fun ls hl => ?_)
                      refine lv_iload_n (pc := 43) hx hb dX12_isStep_43 rfl (lv_at hl 2 rfl) ?_
                      refine lv_iload_n (pc := 44) hx hb dX12_isStep_44 rfl (lv_at hl 1 rfl) ?_
                      refine b_icmp_eq (pc := 45) (tgt := 130) hx hb rfl rfl  dX12_isStep_45 (by decide) (fun c_17 => ?_) (fun c_17 => ?_)
                      ·
                        as_aux_lemma =>
                          refine b_iinc (pc := 130) hx hb dX12_isStep_130 hl (k := 1) rfl rfl tI_1 (by first | exact (om_2 hi_8.1) | ((first | omega | (unfold zBd at *; omega)))) (by first | exact (om_338 c_11 h_x9.2) | ((first | omega | (unfold zBd at *; omega)))) (by decide) (fun x_18 ex_18 ls hl => ?_)
                          replace hl : lv_has ls 5 [(2, .int x_18), (3, .int r_14), (1, .int x_2), (0, .ref a0)] := hl
                          refine lv_goto (pc := 133) (tgt := 24) hx hb dX12_isStep_133 (by decide) ?_
                          exact ih_lp_10 x_18 _ _ ls (by first | exact (om_339 ex_18 hi_8.1 c_11 h_x9.2) | ((first | omega | (unfold zBd at *; omega)))) ((by first | exact noq_j hi_9 (fun q => q.1 (by (first | omega | (unfold zBd at *; omega)))) (by (first | omega | (unfold zBd at *; omega))) | exact noq_j hi_9 (fun q => q.2.1 (by have e9 := congrArg Int32.toInt hw_16; (first | omega | (unfold zBd at *; omega)))) (by (first | omega | (unfold zBd at *; omega))))) (by (first | omega | (unfold zBd at *; omega))) hP hD hS (lv_sub hl [0, 2, 3] rfl)
                      ·
                        as_aux_lemma =>
                          refine lv_iload_n (pc := 48) hx hb dX12_isStep_48 rfl (lv_at hl 0 rfl) ?_
                          refine b_if_ne (pc := 49) (tgt := 55) hx hb rfl  dX12_isStep_49 (by decide) (fun c_19 => ?_) (fun c_19 => ?_)
                          ·
                            as_aux_lemma =>
                              refine lv_aload_n (pc := 55) hx hb dX12_isStep_55 rfl (lv_at hl 3 rfl) ?_
                              refine lv_iload_n (pc := 56) hx hb dX12_isStep_56 rfl (lv_at hl 2 rfl) ?_
                              refine lv_iload_n (pc := 57) hx hb dX12_isStep_57 rfl (lv_at hl 1 rfl) ?_
                              refine lv_aload_n (pc := 58) hx hb dX12_isStep_58 rfl (lv_at hl 3 rfl) ?_
                              refine va_get (pc := 59) (ci := 12) (v := .ref a27) (C := RX12) (T := TX12) (N := 73) hx hb hts iX12 hown hK hP 0 rfl rfl 46 (by decide) (hts _ tw_1447) (fun _ h9 => h9) rfl dX12_isStep_59 ?_
                              refine gd_i (pc := 62) (wc := (zS_51 cB cC cI cJ a0 a1 x0 x1 x2 x3 x4 x5 x6 x7 a2 a3 a4 a5 a6 a7 a8 a9 a10 a11 a12 a13 a14 a15 a16 x8 x9 x10 x11 x12 x13 a17 a18 a19 x14 a20 x15 a21 x16 x17 a22 a23 a24 a25 x18 a26 x19 a27 a28 a29 y0 a30 a31 a32 a33 a34 a35 a36 a37 a38 x20 x21 x22 y1 a39 x23 a40 a41 a42 a43 x24 x25 x26 x27 a27 f0)) hP hD hS hA [0, 1] rfl (by decide +kernel) (fun _ => by rfl) (fun hPc hDc => va_runV (As := [.int x_2, .int x_7, .ref a27]) (rest := []) ⟨hx, hb, hml, hown, hts⟩ (k_X12_productOf_30_x l D cB cC cI cJ _ a0 a27 a1 a2 a3 a4 a5 a6 a7 a8 a9 a10 a11 a12 a13 a14 a15 a16 a17 a18 a19 a20 a21 a22 a23 a24 a25 a26 a27 a28 a29 a30 a31 a32 a33 a34 a35 a36 a37 a38 a39 a40 a41 a42 a43 x_2 x_7 x0 x1 x2 x3 x4 x5 x6 x7 x8 x9 x10 x11 x12 x13 x14 x15 x16 x17 x18 x19 x20 x21 x22 x23 x24 x25 x26 x27 y0 y1 f0 (by first | exact (om_360 hi_3.1 c_6 h_x9.2) | ((first | omega | (unfold zBd at *; omega)))) (by first | exact (om_360 hi_8.1 c_11 h_x9.2) | ((first | omega | (unfold zBd at *; omega)))) h_x0 h_x1 h_x2 h_x3 h_x4 h_x5 h_x8 h_x9 h_x10 h_x11 h_x12 h_x14 h_x15 h_x16 h_x18 h_x19 h_x20 h_x21 h_x22 h_x23 h_x24 h_x25 h_x26 h_x27 hr_a0_0 hr_a0_1 hr_a0_2) ⟨gcwB hts tw_1791 tw_14 tw_1788 hd_yX12_productOf ⟨Nat.le_of_ble_eq_true rfl, Nat.le_of_ble_eq_true rfl⟩, hts _ tw_1790, hts _ tp_91⟩ ⟨gblind, va_recv hK hPc (ci := 12) (q0 := 0) rfl rfl, (gpreS hPc hK hDc hN).2⟩ rfl rfl hl.1 rfl (lv_room (Nat.le_of_ble_eq_true rfl)) dX12_isStep_62 ⟨Nat.le_of_ble_eq_true rfl, Nat.le_of_ble_eq_true rfl⟩) (fun r_21 u_20 H locs hw_22 hP hD hS => ?_)
                              replace hP : va_P D gcl (zS_58 cB cC cI cJ a0 a1 x0 x1 x2 x3 x4 x5 x6 x7 a2 a3 a4 a5 a6 a7 a8 a9 a10 a11 a12 a13 a14 a15 a16 x8 x9 x10 x11 x12 x13 a17 a18 a19 x14 a20 x15 a21 x16 x17 a22 a23 a24 a25 x18 a26 x19 a27 a28 a29 y0 a30 a31 a32 a33 a34 a35 a36 a37 a38 x20 x21 x22 y1 a39 x23 a40 a41 a42 a43 x24 x25 x26 x27 a27 f0 a36 f1 a37 f2 a38 f3 a35 g0) H := hP
                              replace hD : va_D A (zS_58 cB cC cI cJ a0 a1 x0 x1 x2 x3 x4 x5 x6 x7 a2 a3 a4 a5 a6 a7 a8 a9 a10 a11 a12 a13 a14 a15 a16 x8 x9 x10 x11 x12 x13 a17 a18 a19 x14 a20 x15 a21 x16 x17 a22 a23 a24 a25 x18 a26 x19 a27 a28 a29 y0 a30 a31 a32 a33 a34 a35 a36 a37 a38 x20 x21 x22 y1 a39 x23 a40 a41 a42 a43 x24 x25 x26 x27 a27 f0 a36 f1 a37 f2 a38 f3 a35 g0) := hD
                              have hw_23 : (r_21 = prn f0 x_2.toInt x_7.toInt (x10.toInt).toNat) := hw_22
                              have rr_21 : zBd r_21.toInt (-2147483648) 2147483647 := n_rng r_21
                              refine lv_iload_n (pc := 65) hx hb dX12_isStep_65 rfl (lv_at hl 0 rfl) ?_
                              refine gd_i (pc := 66) (wc := []) hP hD hS hA [] rfl (by decide +kernel) (fun _ => by rfl) (fun hPc hDc => va_runS (As := [.int r_21, .int r_14]) (rest := []) ⟨hx, hb, hml, hown, hts⟩ (k_X12_nearestTo_x l D cB cC cI cJ _ r_21 r_14 (by first | exact (om_34 c_19) | ((first | omega | (unfold zBd at *; omega))))) ⟨gcwB hts tw_1933 tw_14 tw_1931 hd_yX12_nearestTo ⟨Nat.le_of_ble_eq_true rfl, Nat.le_of_ble_eq_true rfl⟩, hts _ tw_1932⟩ (gpreS hPc hK hDc hN) rfl rfl hl.1 rfl (lv_room (Nat.le_of_ble_eq_true rfl)) dX12_isStep_66 ⟨Nat.le_of_ble_eq_true rfl, Nat.le_of_ble_eq_true rfl⟩) (fun r_25 u_24 H locs hw_26 hP hD hS => ?_)
                              replace hP : va_P D gcl (zS_58 cB cC cI cJ a0 a1 x0 x1 x2 x3 x4 x5 x6 x7 a2 a3 a4 a5 a6 a7 a8 a9 a10 a11 a12 a13 a14 a15 a16 x8 x9 x10 x11 x12 x13 a17 a18 a19 x14 a20 x15 a21 x16 x17 a22 a23 a24 a25 x18 a26 x19 a27 a28 a29 y0 a30 a31 a32 a33 a34 a35 a36 a37 a38 x20 x21 x22 y1 a39 x23 a40 a41 a42 a43 x24 x25 x26 x27 a27 f0 a36 f1 a37 f2 a38 f3 a35 g0) H := hP
                              replace hD : va_D A (zS_58 cB cC cI cJ a0 a1 x0 x1 x2 x3 x4 x5 x6 x7 a2 a3 a4 a5 a6 a7 a8 a9 a10 a11 a12 a13 a14 a15 a16 x8 x9 x10 x11 x12 x13 a17 a18 a19 x14 a20 x15 a21 x16 x17 a22 a23 a24 a25 x18 a26 x19 a27 a28 a29 y0 a30 a31 a32 a33 a34 a35 a36 a37 a38 x20 x21 x22 y1 a39 x23 a40 a41 a42 a43 x24 x25 x26 x27 a27 f0 a36 f1 a37 f2 a38 f3 a35 g0) := hD
                              have hw_27 : (r_25 = nt r_21 r_14) := hw_26
                              have rr_25 : zBd r_25.toInt (-2147483648) 2147483647 := n_rng r_25
                              refine lv_istore (pc := 69) (lv' := [(4, .int r_25), (3, .int r_14), (2, .int x_7), (1, .int x_2), (0, .ref a0)]) hx hb dX12_isStep_69 hl (by decide) rfl (fun ls hl => ?_)
                              refine lv_iload (pc := 71) hx hb dX12_isStep_71 (lv_at hl 0 rfl) ?_
                              as_aux_lemma =>
                                refine b_if_ne (pc := 73) (tgt := 79) hx hb rfl  dX12_isStep_73 (by decide) (fun c_28 => ?_) (fun c_28 => ?_)
                                ·
                                  as_aux_lemma =>
                                    refine lv_aload_n (pc := 79) hx hb dX12_isStep_79 rfl (lv_at hl 4 rfl) ?_
                                    refine lv_iload_n (pc := 80) hx hb dX12_isStep_80 rfl (lv_at hl 3 rfl) ?_
                                    refine lv_iload_n (pc := 81) hx hb dX12_isStep_81 rfl (lv_at hl 2 rfl) ?_
                                    refine lv_iload (pc := 82) hx hb dX12_isStep_82 (lv_at hl 0 rfl) ?_
                                    refine gd_v (pc := 84) (wc := (zS_122 cB cC cI cJ a0 a1 x0 x1 x2 x3 x4 x5 x6 x7 a2 a3 a4 a5 a6 a7 a8 a9 a10 a11 a12 a13 a14 a15 a16 x8 x9 x10 x11 x12 x13 a17 a18 a19 x14 a20 x15 a21 x16 x17 a22 a23 a24 a25 x18 a26 x19 a27 a28 a29 y0 a30 a31 a32 a33 a34 a35 a36 a37 a38 x20 x21 x22 y1 a39 x23 a40 a41 a42 a43 x24 x25 x26 x27 a27 f0 a35 g0)) hP hD hS hA [0, 1, 5] rfl (by decide +kernel) (fun _ => by rfl) (fun hPc hDc => va_runV (As := [.int x_2, .int x_7, .int r_25]) (rest := []) ⟨hx, hb, hml, hown, hts⟩ (k_X12_goes_x l D cB cC cI cJ _ a0 a1 a2 a3 a4 a5 a6 a7 a8 a9 a10 a11 a12 a13 a14 a15 a16 a17 a18 a19 a20 a21 a22 a23 a24 a25 a26 a27 a28 a29 a30 a31 a32 a33 a34 a35 a36 a37 a38 a39 a40 a41 a42 a43 x_2 x_7 r_25 x0 x1 x2 x3 x4 x5 x6 x7 x8 x9 x10 x11 x12 x13 x14 x15 x16 x17 x18 x19 x20 x21 x22 x23 x24 x25 x26 x27 y0 y1 f0 g0 (by first | exact (om_360 hi_3.1 c_6 h_x9.2) | ((first | omega | (unfold zBd at *; omega)))) (by first | exact (om_360 hi_8.1 c_11 h_x9.2) | ((first | omega | (unfold zBd at *; omega)))) h_x0 h_x1 h_x2 h_x3 h_x4 h_x5 h_x8 h_x9 h_x10 h_x11 h_x12 h_x14 h_x15 h_x16 h_x18 h_x19 h_x20 h_x21 h_x22 h_x23 h_x24 h_x25 h_x26 h_x27 hr_a0_2 (by first | exact (om_112 c_17) | ((first | omega | (unfold zBd at *; omega))))) ⟨gcwB hts tw_1938 tw_14 tw_1935 hd_yX12_goes ⟨Nat.le_of_ble_eq_true rfl, Nat.le_of_ble_eq_true rfl⟩, hts _ tw_1937, hts _ tp_107⟩ ⟨gblind, va_recv hK hPc (ci := 12) (q0 := 0) rfl rfl, (gpreS hPc hK hDc hN).2⟩ rfl rfl hl.1 rfl (lv_room (Nat.le_of_ble_eq_true rfl)) dX12_isStep_84 ⟨Nat.le_of_ble_eq_true rfl, Nat.le_of_ble_eq_true rfl⟩) (fun u_29 H locs hw_31 hP hD hS => ?_)
                                    replace hP : va_P D gcl (zS_58 cB cC cI cJ a0 a1 x0 x1 x2 x3 x4 x5 x6 x7 a2 a3 a4 a5 a6 a7 a8 a9 a10 a11 a12 a13 a14 a15 a16 x8 x9 x10 x11 x12 x13 a17 a18 a19 x14 a20 x15 a21 x16 x17 a22 a23 a24 a25 x18 a26 x19 a27 a28 a29 y0 a30 a31 a32 a33 a34 a35 a36 a37 a38 x20 x21 x22 y1 a39 x23 a40 a41 a42 a43 x24 x25 x26 x27 a27 (u_29.2.1 0) a36 f1 a37 f2 a38 f3 a35 (u_29.2.2.1 0)) H := hP
                                    replace hD : va_D A (zS_58 cB cC cI cJ a0 a1 x0 x1 x2 x3 x4 x5 x6 x7 a2 a3 a4 a5 a6 a7 a8 a9 a10 a11 a12 a13 a14 a15 a16 x8 x9 x10 x11 x12 x13 a17 a18 a19 x14 a20 x15 a21 x16 x17 a22 a23 a24 a25 x18 a26 x19 a27 a28 a29 y0 a30 a31 a32 a33 a34 a35 a36 a37 a38 x20 x21 x22 y1 a39 x23 a40 a41 a42 a43 x24 x25 x26 x27 a27 (u_29.2.1 0) a36 f1 a37 f2 a38 f3 a35 (u_29.2.2.1 0)) := hD
                                    have hw_32 : (goQ f0 (u_29.2.1 0) x_2.toInt x_7.toInt r_25 x10.toInt) := hw_31
                                    refine lv_aload_n (pc := 87) hx hb dX12_isStep_87 rfl (lv_at hl 4 rfl) ?_
                                    refine va_get (pc := 88) (ci := 12) (v := .ref a36) (C := RX12) (T := TX12) (N := 73) hx hb hts iX12 hown hK hP 0 rfl rfl 56 (by decide) (hts _ tw_1457) (fun _ h9 => h9) rfl dX12_isStep_88 ?_
                                    refine lv_aload_n (pc := 91) hx hb dX12_isStep_91 rfl (lv_at hl 4 rfl) ?_
                                    refine va_get (pc := 92) (ci := 12) (v := .int x20) (C := RX12) (T := TX12) (N := 73) hx hb hts iX12 hown hK hP 0 rfl rfl 59 (by decide) (hts _ tw_1460) (fun _ h9 => h9) rfl dX12_isStep_92 ?_
                                    refine lv_iload_n (pc := 95) hx hb dX12_isStep_95 rfl (lv_at hl 3 rfl) ?_
                                    as_aux_lemma =>
                                      refine e_iastore (pc := 96) hx hb hK hP hD hS 2 2 rfl rfl (n_in rfl (by first | exact (om_0 h_x20.1) | ((first | omega | (unfold zBd at *; omega)))) (by first | exact (om_1694 c_1 h_x20.2) | ((first | omega | (unfold zBd at *; omega))))) dX12_isStep_96 (fun f_33 ef_33 H locs hP hD hS => ?_)
                                      have hf_33 : (∀ j, 0 ≤ (f_33 j).toInt ∧ (f_33 j).toInt ≤ 4) := (by rw [ef_33]; exact n_upd hf_f1 (by first | exact (om_0 hi_3.1) | ((first | omega | (unfold zBd at *; omega)))) (by first | exact (om_1256 c_6 h_x9.2) | ((first | omega | (unfold zBd at *; omega)))))
                                      replace hP : va_P D gcl (zS_58 cB cC cI cJ a0 a1 x0 x1 x2 x3 x4 x5 x6 x7 a2 a3 a4 a5 a6 a7 a8 a9 a10 a11 a12 a13 a14 a15 a16 x8 x9 x10 x11 x12 x13 a17 a18 a19 x14 a20 x15 a21 x16 x17 a22 a23 a24 a25 x18 a26 x19 a27 a28 a29 y0 a30 a31 a32 a33 a34 a35 a36 a37 a38 x20 x21 x22 y1 a39 x23 a40 a41 a42 a43 x24 x25 x26 x27 a27 (u_29.2.1 0) a36 f_33 a37 f2 a38 f3 a35 (u_29.2.2.1 0)) H := hP
                                      replace hD : va_D A (zS_58 cB cC cI cJ a0 a1 x0 x1 x2 x3 x4 x5 x6 x7 a2 a3 a4 a5 a6 a7 a8 a9 a10 a11 a12 a13 a14 a15 a16 x8 x9 x10 x11 x12 x13 a17 a18 a19 x14 a20 x15 a21 x16 x17 a22 a23 a24 a25 x18 a26 x19 a27 a28 a29 y0 a30 a31 a32 a33 a34 a35 a36 a37 a38 x20 x21 x22 y1 a39 x23 a40 a41 a42 a43 x24 x25 x26 x27 a27 (u_29.2.1 0) a36 f_33 a37 f2 a38 f3 a35 (u_29.2.2.1 0)) := hD
                                      refine lv_aload_n (pc := 97) hx hb dX12_isStep_97 rfl (lv_at hl 4 rfl) ?_
                                      refine va_get (pc := 98) (ci := 12) (v := .ref a37) (C := RX12) (T := TX12) (N := 73) hx hb hts iX12 hown hK hP 0 rfl rfl 57 (by decide) (hts _ tw_1458) (fun _ h9 => h9) rfl dX12_isStep_98 ?_
                                      refine lv_aload_n (pc := 101) hx hb dX12_isStep_101 rfl (lv_at hl 4 rfl) ?_
                                      refine va_get (pc := 102) (ci := 12) (v := .int x20) (C := RX12) (T := TX12) (N := 73) hx hb hts iX12 hown hK hP 0 rfl rfl 59 (by decide) (hts _ tw_1460) (fun _ h9 => h9) rfl dX12_isStep_102 ?_
                                      refine lv_iload_n (pc := 105) hx hb dX12_isStep_105 rfl (lv_at hl 2 rfl) ?_
                                      refine e_iastore (pc := 106) hx hb hK hP hD hS 3 2 rfl rfl (n_in rfl (by first | exact (om_0 h_x20.1) | ((first | omega | (unfold zBd at *; omega)))) (by first | exact (om_1694 c_1 h_x20.2) | ((first | omega | (unfold zBd at *; omega))))) dX12_isStep_106 (fun f_34 ef_34 H locs hP hD hS => ?_)
                                      have hf_34 : (∀ j, 0 ≤ (f_34 j).toInt ∧ (f_34 j).toInt ≤ 4) := (by rw [ef_34]; exact n_upd hf_f2 (by first | exact (om_0 hi_8.1) | ((first | omega | (unfold zBd at *; omega)))) (by first | exact (om_1256 c_11 h_x9.2) | ((first | omega | (unfold zBd at *; omega)))))
                                      replace hP : va_P D gcl (zS_58 cB cC cI cJ a0 a1 x0 x1 x2 x3 x4 x5 x6 x7 a2 a3 a4 a5 a6 a7 a8 a9 a10 a11 a12 a13 a14 a15 a16 x8 x9 x10 x11 x12 x13 a17 a18 a19 x14 a20 x15 a21 x16 x17 a22 a23 a24 a25 x18 a26 x19 a27 a28 a29 y0 a30 a31 a32 a33 a34 a35 a36 a37 a38 x20 x21 x22 y1 a39 x23 a40 a41 a42 a43 x24 x25 x26 x27 a27 (u_29.2.1 0) a36 f_33 a37 f_34 a38 f3 a35 (u_29.2.2.1 0)) H := hP
                                      replace hD : va_D A (zS_58 cB cC cI cJ a0 a1 x0 x1 x2 x3 x4 x5 x6 x7 a2 a3 a4 a5 a6 a7 a8 a9 a10 a11 a12 a13 a14 a15 a16 x8 x9 x10 x11 x12 x13 a17 a18 a19 x14 a20 x15 a21 x16 x17 a22 a23 a24 a25 x18 a26 x19 a27 a28 a29 y0 a30 a31 a32 a33 a34 a35 a36 a37 a38 x20 x21 x22 y1 a39 x23 a40 a41 a42 a43 x24 x25 x26 x27 a27 (u_29.2.1 0) a36 f_33 a37 f_34 a38 f3 a35 (u_29.2.2.1 0)) := hD
                                      refine lv_aload_n (pc := 107) hx hb dX12_isStep_107 rfl (lv_at hl 4 rfl) ?_
                                      refine va_get (pc := 108) (ci := 12) (v := .ref a38) (C := RX12) (T := TX12) (N := 73) hx hb hts iX12 hown hK hP 0 rfl rfl 58 (by decide) (hts _ tw_1459) (fun _ h9 => h9) rfl dX12_isStep_108 ?_
                                      refine lv_aload_n (pc := 111) hx hb dX12_isStep_111 rfl (lv_at hl 4 rfl) ?_
                                      as_aux_lemma =>
                                        refine va_get (pc := 112) (ci := 12) (v := .int x20) (C := RX12) (T := TX12) (N := 73) hx hb hts iX12 hown hK hP 0 rfl rfl 59 (by decide) (hts _ tw_1460) (fun _ h9 => h9) rfl dX12_isStep_112 ?_
                                        refine lv_iload (pc := 115) hx hb dX12_isStep_115 (lv_at hl 0 rfl) ?_
                                        refine e_iastore (pc := 117) hx hb hK hP hD hS 4 2 rfl rfl (n_in rfl (by first | exact (om_0 h_x20.1) | ((first | omega | (unfold zBd at *; omega)))) (by first | exact (om_1694 c_1 h_x20.2) | ((first | omega | (unfold zBd at *; omega))))) dX12_isStep_117 (fun f_35 ef_35 H locs hP hD hS => ?_)
                                        replace hP : va_P D gcl (zS_58 cB cC cI cJ a0 a1 x0 x1 x2 x3 x4 x5 x6 x7 a2 a3 a4 a5 a6 a7 a8 a9 a10 a11 a12 a13 a14 a15 a16 x8 x9 x10 x11 x12 x13 a17 a18 a19 x14 a20 x15 a21 x16 x17 a22 a23 a24 a25 x18 a26 x19 a27 a28 a29 y0 a30 a31 a32 a33 a34 a35 a36 a37 a38 x20 x21 x22 y1 a39 x23 a40 a41 a42 a43 x24 x25 x26 x27 a27 (u_29.2.1 0) a36 f_33 a37 f_34 a38 f_35 a35 (u_29.2.2.1 0)) H := hP
                                        replace hD : va_D A (zS_58 cB cC cI cJ a0 a1 x0 x1 x2 x3 x4 x5 x6 x7 a2 a3 a4 a5 a6 a7 a8 a9 a10 a11 a12 a13 a14 a15 a16 x8 x9 x10 x11 x12 x13 a17 a18 a19 x14 a20 x15 a21 x16 x17 a22 a23 a24 a25 x18 a26 x19 a27 a28 a29 y0 a30 a31 a32 a33 a34 a35 a36 a37 a38 x20 x21 x22 y1 a39 x23 a40 a41 a42 a43 x24 x25 x26 x27 a27 (u_29.2.1 0) a36 f_33 a37 f_34 a38 f_35 a35 (u_29.2.2.1 0)) := hD
                                        refine lv_aload_n (pc := 118) hx hb dX12_isStep_118 rfl (lv_at hl 4 rfl) ?_
                                        refine lv_dup (pc := 119) hx hb dX12_isStep_119 rfl ?_
                                        refine va_get (pc := 120) (ci := 12) (v := .int x20) (C := RX12) (T := TX12) (N := 73) hx hb hts iX12 hown hK hP 0 rfl rfl 59 (by decide) (hts _ tw_1460) (fun _ h9 => h9) rfl dX12_isStep_120 ?_
                                        refine lv_iconst (pc := 123) (v := 1) hx hb dX12_isStep_123 (by decide) ?_
                                        refine b_iadd (pc := 124) hx hb rfl tI_1 (by first | exact (om_2 h_x20.1) | ((first | omega | (unfold zBd at *; omega)))) (by first | exact (om_1695 h_x20.2) | ((first | omega | (unfold zBd at *; omega)))) dX12_isStep_124 (fun x_36 ex_36 => ?_)
                                        refine va_put (pc := 125) (ci := 12) (v := .int x_36) (ty := .int) (C := RX12) (T := TX12) (N := 73) hx hb hts iX12 tyX12 tyX12_ok nmX12 hown hK hP hD hS 0 rfl rfl 59 (by decide) (hts _ tw_1460) (fun _ h9 => h9) rfl (by decide +kernel) rfl rfl (Nat.le_of_ble_eq_true rfl) dX12_isStep_125 (fun H locs hP hD hS => ?_)
                                        replace hP : va_P D gcl (zS_58 cB cC cI cJ a0 a1 x0 x1 x2 x3 x4 x5 x6 x7 a2 a3 a4 a5 a6 a7 a8 a9 a10 a11 a12 a13 a14 a15 a16 x8 x9 x10 x11 x12 x13 a17 a18 a19 x14 a20 x15 a21 x16 x17 a22 a23 a24 a25 x18 a26 x19 a27 a28 a29 y0 a30 a31 a32 a33 a34 a35 a36 a37 a38 x_36 x21 x22 y1 a39 x23 a40 a41 a42 a43 x24 x25 x26 x27 a27 (u_29.2.1 0) a36 f_33 a37 f_34 a38 f_35 a35 (u_29.2.2.1 0)) H := hP
                                        replace hD : va_D A (zS_58 cB cC cI cJ a0 a1 x0 x1 x2 x3 x4 x5 x6 x7 a2 a3 a4 a5 a6 a7 a8 a9 a10 a11 a12 a13 a14 a15 a16 x8 x9 x10 x11 x12 x13 a17 a18 a19 x14 a20 x15 a21 x16 x17 a22 a23 a24 a25 x18 a26 x19 a27 a28 a29 y0 a30 a31 a32 a33 a34 a35 a36 a37 a38 x_36 x21 x22 y1 a39 x23 a40 a41 a42 a43 x24 x25 x26 x27 a27 (u_29.2.1 0) a36 f_33 a37 f_34 a38 f_35 a35 (u_29.2.2.1 0)) := hD
                                        refine lv_iconst (pc := 128) (v := 1) hx hb dX12_isStep_128 (by decide) ?_
                                        have hP9 : va_P D gcl (zS_58 cB cC cI cJ a0 a1 x0 x1 x2 x3 x4 x5 x6 x7 a2 a3 a4 a5 a6 a7 a8 a9 a10 a11 a12 a13 a14 a15 a16 x8 x9 x10 x11 x12 x13 a17 a18 a19 x14 a20 x15 a21 x16 x17 a22 a23 a24 a25 x18 a26 x19 a27 a28 a29 y0 a30 a31 a32 a33 a34 a35 a36 a37 a38 x_36 x21 x22 y1 a39 x23 a40 a41 a42 a43 x24 x25 x26 x27 a27 (u_29.2.1 0) a36 f_33 a37 f_34 a38 f_35 a35 (u_29.2.2.1 0)) H := g_psub hP [0, 1, 2, 3, 4, 5] rfl
                                        have hD9 : va_D A (zS_58 cB cC cI cJ a0 a1 x0 x1 x2 x3 x4 x5 x6 x7 a2 a3 a4 a5 a6 a7 a8 a9 a10 a11 a12 a13 a14 a15 a16 x8 x9 x10 x11 x12 x13 a17 a18 a19 x14 a20 x15 a21 x16 x17 a22 a23 a24 a25 x18 a26 x19 a27 a28 a29 y0 a30 a31 a32 a33 a34 a35 a36 a37 a38 x_36 x21 x22 y1 a39 x23 a40 a41 a42 a43 x24 x25 x26 x27 a27 (u_29.2.1 0) a36 f_33 a37 f_34 a38 f_35 a35 (u_29.2.2.1 0)) := hD.sub [0, 1, 2, 3, 4, 5] (by decide) rfl
                                        have k9 := tI_1
                                        exact hret 1 ((fun _ => 0), (fun k => [(u_29.2.1 0), f_33, f_34, f_35].getD k (fun _ => 0)), (fun k => [(u_29.2.2.1 0)].getD k (fun _ => 0)), (fun k => [x_36].getD k 0), (fun _ => 0)) dX12_isStep_129 ⟨(Or.inr tI_1), ⟨(show (0 ≤ (1 : Int32).toInt ∧ (1 : Int32).toInt ≤ 1) from (n_c tI_1 (by decide))), (show (0 ≤ (x_36 : Int32).toInt ∧ (x_36 : Int32).toInt ≤ 200) from (by first | exact (om_1696 ex_36 h_x20.1 c_1 h_x20.2) | (have k9 := tI_1; (first | omega | (unfold zBd at *; omega))))), (show (x21.toInt ≤ (x_36 : Int32).toInt) from (by first | exact (om_482 ex_36 hr_a0_0) | (have k9 := tI_1; (first | omega | (unfold zBd at *; omega))))), hf_33, hf_34, (show x_36.toInt = x20.toInt + (1 : Int32).toInt from (by first | exact (om_327 ex_36 tI_1) | (have k9 := tI_1; (first | omega | (unfold zBd at *; omega))))), (show isQ f0 (u_29.2.1 0) f1 f2 f3 f_33 f_34 f_35 x10.toInt x9.toInt x20.toInt x_36.toInt (1 : Int32).toInt from Or.inl ⟨by (first | omega | (unfold zBd at *; omega)), x_2, x_7, r_25, ⟨by (first | omega | (unfold zBd at *; omega)), ⟨by (first | omega | (unfold zBd at *; omega)), fun h => (by have e9 := congrArg Int32.toInt hw_16; (first | omega | (unfold zBd at *; omega))), fun h => (by rw [← hw_23, ← hw_16, ← hw_27] at h; (first | omega | (unfold zBd at *; omega)))⟩, hi_9, (by rw [← hw_23, ← hw_16]; exact hw_27), hw_32⟩, ef_33, ef_34, ef_35, by (first | omega | (unfold zBd at *; omega))⟩)⟩⟩ hP9 hD9 hS
                                ·
                                  as_aux_lemma =>
                                    refine lv_goto (pc := 76) (tgt := 130) hx hb dX12_isStep_76 (by decide) ?_
                                    refine b_iinc (pc := 130) hx hb dX12_isStep_130 hl (k := 2) rfl rfl tI_1 (by first | exact (om_2 hi_8.1) | ((first | omega | (unfold zBd at *; omega)))) (by first | exact (om_338 c_11 h_x9.2) | ((first | omega | (unfold zBd at *; omega)))) (by decide) (fun x_37 ex_37 ls hl => ?_)
                                    replace hl : lv_has ls 5 [(2, .int x_37), (4, .int r_25), (3, .int r_14), (1, .int x_2), (0, .ref a0)] := hl
                                    refine lv_goto (pc := 133) (tgt := 24) hx hb dX12_isStep_133 (by decide) ?_
                                    exact ih_lp_10 x_37 _ _ ls (by first | exact (om_339 ex_37 hi_8.1 c_11 h_x9.2) | ((first | omega | (unfold zBd at *; omega)))) (noq_j hi_9 (fun q => q.2.2 (by rw [← hw_23, ← hw_16, ← hw_27]; (first | omega | (unfold zBd at *; omega)))) (by first | exact (om_5 ex_37) | ((first | omega | (unfold zBd at *; omega))))) (by (first | omega | (unfold zBd at *; omega))) hP hD hS (lv_sub hl [0, 3, 4] rfl)
                          ·
                            as_aux_lemma =>
                              refine lv_goto (pc := 52) (tgt := 130) hx hb dX12_isStep_52 (by decide) ?_
                              refine b_iinc (pc := 130) hx hb dX12_isStep_130 hl (k := 1) rfl rfl tI_1 (by first | exact (om_2 hi_8.1) | ((first | omega | (unfold zBd at *; omega)))) (by first | exact (om_338 c_11 h_x9.2) | ((first | omega | (unfold zBd at *; omega)))) (by decide) (fun x_38 ex_38 ls hl => ?_)
                              replace hl : lv_has ls 5 [(2, .int x_38), (3, .int r_14), (1, .int x_2), (0, .ref a0)] := hl
                              refine lv_goto (pc := 133) (tgt := 24) hx hb dX12_isStep_133 (by decide) ?_
                              exact ih_lp_10 x_38 _ _ ls (by first | exact (om_339 ex_38 hi_8.1 c_11 h_x9.2) | ((first | omega | (unfold zBd at *; omega)))) ((by first | exact noq_j hi_9 (fun q => q.1 (by (first | omega | (unfold zBd at *; omega)))) (by (first | omega | (unfold zBd at *; omega))) | exact noq_j hi_9 (fun q => q.2.1 (by have e9 := congrArg Int32.toInt hw_16; (first | omega | (unfold zBd at *; omega)))) (by (first | omega | (unfold zBd at *; omega))))) (by (first | omega | (unfold zBd at *; omega))) hP hD hS (lv_sub hl [0, 2, 3] rfl)
              exact lp_10 _ 0 _ _ ls (n_c tI_0 (by decide)) (noq_to hi_4 tI_0.symm) (Nat.lt_succ_self _) hP hD hS (lv_sub hl [0, 1, 2] rfl)
      exact lp_5 _ 0 _ _ ls (n_c tI_0 (by decide)) (noq_0 tI_0 rfl) (Nat.lt_succ_self _) hP hD hS (lv_sub hl [0, 1] rfl)
  ·
    as_aux_lemma =>
      refine lv_iconst (pc := 10) (v := 0) hx hb dX12_isStep_10 (by decide) ?_
      have hP9 : va_P D gcl (zS_58 cB cC cI cJ a0 a1 x0 x1 x2 x3 x4 x5 x6 x7 a2 a3 a4 a5 a6 a7 a8 a9 a10 a11 a12 a13 a14 a15 a16 x8 x9 x10 x11 x12 x13 a17 a18 a19 x14 a20 x15 a21 x16 x17 a22 a23 a24 a25 x18 a26 x19 a27 a28 a29 y0 a30 a31 a32 a33 a34 a35 a36 a37 a38 x20 x21 x22 y1 a39 x23 a40 a41 a42 a43 x24 x25 x26 x27 a27 f0 a36 f1 a37 f2 a38 f3 a35 g0) s.heap := g_psub hP [0, 1, 2, 3, 4, 5] rfl
      have hD9 : va_D A (zS_58 cB cC cI cJ a0 a1 x0 x1 x2 x3 x4 x5 x6 x7 a2 a3 a4 a5 a6 a7 a8 a9 a10 a11 a12 a13 a14 a15 a16 x8 x9 x10 x11 x12 x13 a17 a18 a19 x14 a20 x15 a21 x16 x17 a22 a23 a24 a25 x18 a26 x19 a27 a28 a29 y0 a30 a31 a32 a33 a34 a35 a36 a37 a38 x20 x21 x22 y1 a39 x23 a40 a41 a42 a43 x24 x25 x26 x27 a27 f0 a36 f1 a37 f2 a38 f3 a35 g0) := hD.sub [0, 1, 2, 3, 4, 5] (by decide) rfl
      have k9 := tI_0
      exact hret 0 ((fun _ => 0), (fun k => [f0, f1, f2, f3].getD k (fun _ => 0)), (fun k => [g0].getD k (fun _ => 0)), (fun k => [x20].getD k 0), (fun _ => 0)) dX12_isStep_11 ⟨(Or.inl tI_0), ⟨(show (0 ≤ (0 : Int32).toInt ∧ (0 : Int32).toInt ≤ 1) from (n_c tI_0 (by decide))), (show (0 ≤ (x20 : Int32).toInt ∧ (x20 : Int32).toInt ≤ 200) from h_x20), (show (x21.toInt ≤ (x20 : Int32).toInt) from hr_a0_0), hf_f1, hf_f2, (show x20.toInt = x20.toInt + (0 : Int32).toInt from (by first | exact (om_306 tI_0) | (have k9 := tI_0; (first | omega | (unfold zBd at *; omega))))), (show isQ f0 f0 f1 f2 f3 f1 f2 f3 x10.toInt x9.toInt x20.toInt x20.toInt (0 : Int32).toInt from Or.inr ⟨by (first | omega | (unfold zBd at *; omega)), rfl, rfl, rfl, rfl, rfl, Or.inl (by (first | omega | (unfold zBd at *; omega)))⟩)⟩⟩ hP9 hD9 hS
theorem om_1697 {a b c d e : Int} (h0 : (¬ b = 0)) (h1 : ((b = 0 ∧ c < d) ∨ (b = 0 ∧ c ≥ d ∧ c > e) ∨ (b = 1 ∧ c ≥ d ∧ c ≤ e))) (h2 : (c = a)) (h3 : (d = 1)) (h4 : (e = 100)) : (1 ≤ a ∧ a ≤ 100) := by omega
theorem om_1698 {a b c d : Int} (h0 : (a = c + d)) (h1 : (c + b ≤ 200)) (h2 : (d = 0)) : ((a + b ≤ 200)) := by omega
theorem om_1699 {a b c d e f : Int} (h0 : (b < a)) (h1 : (0 ≤ b)) (h2 : (¬ c = 0)) (h3 : ((c = 0 ∧ d < e) ∨ (c = 0 ∧ d ≥ e ∧ d > f) ∨ (c = 1 ∧ d ≥ e ∧ d ≤ f))) (h4 : (d = a)) (h5 : (e = 1)) (h6 : (f = 100)) : (1 ≤ a ∧ a ≤ 100) := by omega
theorem om_1700 {a b : Int} (h0 : (0 ≤ a)) (h1 : (a < b)) : (0 ≤ a ∧ a ≤ b) := by omega
theorem om_1701 {a b c d e : Int} (h0 : (a = d + e)) (h1 : (d = b + c)) (h2 : (e = 0)) : (a = b + c) := by omega
theorem om_1702 {a b : Int} (h0 : (a ≤ 200)) (h1 : (b = 0)) : ((a + b ≤ 200)) := by omega
theorem om_1703 {a b : Int} (h0 : (a ≤ 40)) (h1 : (b = 0)) : ((a + b ≤ 40)) := by omega
theorem om_1704 {a b : Int} (h0 : (a = b + 1)) (h1 : (0 ≤ b)) : ((0 ≤ a)) := by omega
theorem om_1705 {a b c d e f : Int} (h0 : (¬ d = 0)) (h1 : (0 ≤ d)) (h2 : (c = e + 1)) (h3 : (a = f + d)) (h4 : (f = b + e)) (h5 : (d ≤ 1)) : ((a = b + c)) := by omega
theorem om_1706 {a : Int} (h0 : (0 ≤ a)) (h1 : (a ≤ 40)) : (0 ≤ a ∧ a ≤ 40) := by omega
theorem om_1707 {a : Int} (h0 : (a ≥ 40)) : (a < 40 ∧ a = a + 1 ∨ 40 ≤ a ∧ a = a) := by omega
theorem om_1708 {a b : Int} (h0 : (a = b + 1)) (h1 : (0 ≤ b)) (h2 : (b < 40)) : ((0 ≤ a ∧ a ≤ 40)) := by omega
theorem om_1709 {a b c d e : Int} (h0 : (¬ c = 0)) (h1 : (0 ≤ c)) (h2 : (a = d + 1)) (h3 : (b = e + c)) (h4 : (d ≤ e)) : ((a ≤ b)) := by omega
theorem om_1710 {a b c : Int} (h0 : (a = c + 1)) (h1 : (b = 0)) (h2 : (c < 40)) : ((a + b ≤ 40)) := by omega
theorem om_1711 {a b : Int} (h0 : (b = a + 1)) (h1 : (a < 40)) : (a < 40 ∧ b = a + 1 ∨ 40 ≤ a ∧ b = a) := by omega
theorem om_1712 {a b c d e : Int} (h0 : ((b = 0 ∧ c < d) ∨ (b = 0 ∧ c ≥ d ∧ c > e) ∨ (b = 1 ∧ c ≥ d ∧ c ≤ e))) (h1 : (c = a)) (h2 : (d = 1)) (h3 : (e = 100)) (h4 : (b = 0)) : (¬ (1 ≤ a ∧ a ≤ 100)) := by omega
set_option maxHeartbeats 4000000 in
set_option maxRecDepth 100000 in
theorem k_X12_lead (l : Launch) (D : va_G) (cB cC cI cJ : ClassId) (sz : Nat) (a0 a1 a2 a3 a4 a5 a6 a7 a8 a9 a10 a11 a12 a13 a14 a15 a16 a17 a18 a19 a20 a21 a22 a23 a24 a25 a26 a27 a28 a29 a30 a31 a32 a33 a34 a35 a36 a37 a38 a39 a40 a41 a42 a43 : Nat) (x0 x1 x2 x3 x4 x5 x6 x7 x8 x9 x10 x11 x12 x13 x14 x15 x16 x17 x18 x19 x20 x21 x22 x23 x24 x25 x26 x27 x28 : Int32) (y0 y1 : Int64) (f0 f1 f2 f3 f4 : Nat → Int32) (g0 : Nat → Int64) (h_x1 : zBd x1.toInt 0 1600) (h_x2 : zBd x2.toInt 0 1600) (h_x3 : zBd x3.toInt 0 1600) (h_x4 : zBd x4.toInt (-1) 1600) (h_x5 : zBd x5.toInt 0 4) (h_x6 : zBd x6.toInt (-1) 1600) (h_x9 : zBd x9.toInt 0 8) (h_x10 : zBd x10.toInt 0 5) (h_x11 : zBd x11.toInt 0 6) (h_x12 : zBd x12.toInt 0 6) (h_x13 : zBd x13.toInt 0 16) (h_x15 : zBd x15.toInt 0 60) (h_x16 : zBd x16.toInt 0 1600) (h_x17 : zBd x17.toInt 0 1700) (h_x19 : zBd x19.toInt 0 1700) (h_x20 : zBd x20.toInt 0 1700) (h_x21 : zBd x21.toInt 0 200) (h_x22 : zBd x22.toInt 0 40) (h_x23 : zBd x23.toInt 0 40) (h_x24 : zBd x24.toInt 0 1) (h_x25 : zBd x25.toInt 0 14) (h_x26 : zBd x26.toInt 0 200) (h_x27 : zBd x27.toInt 0 40) (h_x28 : zBd x28.toInt 0 40) (hr_a0_0 : (x22.toInt ≤ x21.toInt)) (hr_a0_1 : (x21.toInt + x23.toInt ≤ 200)) (hr_a0_2 : (x10.toInt = 0 ∨ 2 ≤ x9.toInt)) (hf_f0 : (∀ j, (-9999) ≤ (f0 j).toInt ∧ (f0 j).toInt ≤ 9999)) (hf_f2 : (∀ j, 0 ≤ (f2 j).toInt ∧ (f2 j).toInt ≤ 4)) (hf_f3 : (∀ j, 0 ≤ (f3 j).toInt ∧ (f3 j).toInt ≤ 4)) (hg__ur : x22.toInt + x23.toInt ≤ 40) (hg_mk : MOK f0 f1 f2 f3 f4 x11.toInt x10.toInt x21.toInt x23.toInt) : Met l yX12_lead (.code yX12_lead cX12_lead 3 (some .int) :: lw_gd) ({ frames := 2, cells := 0, slots := 0, locals := 49 }) (gPre D [(cB, .byte), (cC, .char), (cI, .int), (cJ, .long)] [.ref a0, .int x0] (zS_13 cB cC cI cJ a0 a1 x1 x2 x3 x4 x5 x6 x7 x8 a2 a3 a4 a5 a6 a7 a8 a9 a10 a11 a12 a13 a14 a15 a16 x9 x10 x11 x12 x13 x14 a17 a18 a19 x15 a20 x16 a21 x17 x18 a22 a23 a24 a25 x19 a26 x20 a27 a28 a29 y0 a30 a31 a32 a33 a34 a35 a36 a37 a38 x21 x22 x23 y1 a39 x24 a40 a41 a42 a43 x25 x26 x27 x28 a18 f0 a27 f1 a36 f2 a37 f3 a38 f4 a35 g0) sz) (va_Qi (fun r u => (0 ≤ (u.2.2.2.1 0).toInt ∧ (u.2.2.2.1 0).toInt ≤ 200) ∧ (0 ≤ (u.2.2.2.1 1).toInt ∧ (u.2.2.2.1 1).toInt ≤ 40) ∧ (0 ≤ (u.2.2.2.1 2).toInt ∧ (u.2.2.2.1 2).toInt ≤ 40) ∧ ((u.2.2.2.1 1).toInt ≤ (u.2.2.2.1 0).toInt) ∧ ((u.2.2.2.1 0).toInt + (u.2.2.2.1 2).toInt ≤ 200) ∧ (∀ j, 0 ≤ ((u.2.1 1) j).toInt ∧ ((u.2.1 1) j).toInt ≤ 4) ∧ (∀ j, 0 ≤ ((u.2.1 2) j).toInt ∧ ((u.2.1 2) j).toInt ≤ 4) ∧ ((u.2.2.2.1 1).toInt + (u.2.2.2.1 2).toInt ≤ 40) ∧ (MOK f0 (u.2.1 0) (u.2.1 1) (u.2.1 2) (u.2.1 3) x11.toInt x10.toInt (u.2.2.2.1 0).toInt (u.2.2.2.1 2).toInt) ∧ (ldQ r.toInt x0.toInt x22.toInt x23.toInt x21.toInt (u.2.2.2.1 1).toInt (u.2.2.2.1 2).toInt (u.2.2.2.1 0).toInt (u.2.1 0) x11.toInt x10.toInt)) (gB D (va_A (zS_13 cB cC cI cJ a0 a1 x1 x2 x3 x4 x5 x6 x7 x8 a2 a3 a4 a5 a6 a7 a8 a9 a10 a11 a12 a13 a14 a15 a16 x9 x10 x11 x12 x13 x14 a17 a18 a19 x15 a20 x16 a21 x17 x18 a22 a23 a24 a25 x19 a26 x20 a27 a28 a29 y0 a30 a31 a32 a33 a34 a35 a36 a37 a38 x21 x22 x23 y1 a39 x24 a40 a41 a42 a43 x25 x26 x27 x28 a18 f0 a27 f1 a36 f2 a37 f3 a38 f4 a35 g0) sz) (fun u : gEx => (zS_13 cB cC cI cJ a0 a1 x1 x2 x3 x4 x5 x6 x7 x8 a2 a3 a4 a5 a6 a7 a8 a9 a10 a11 a12 a13 a14 a15 a16 x9 x10 x11 x12 x13 x14 a17 a18 a19 x15 a20 x16 a21 x17 x18 a22 a23 a24 a25 x19 a26 x20 a27 a28 a29 y0 a30 a31 a32 a33 a34 a35 a36 a37 a38 (u.2.2.2.1 0) (u.2.2.2.1 1) (u.2.2.2.1 2) y1 a39 x24 a40 a41 a42 a43 x25 x26 x27 x28 a18 f0 a27 (u.2.1 0) a36 (u.2.1 1) a37 (u.2.1 2) a38 (u.2.1 3) a35 (u.2.2.1 0)))) (va_A (zS_13 cB cC cI cJ a0 a1 x1 x2 x3 x4 x5 x6 x7 x8 a2 a3 a4 a5 a6 a7 a8 a9 a10 a11 a12 a13 a14 a15 a16 x9 x10 x11 x12 x13 x14 a17 a18 a19 x15 a20 x16 a21 x17 x18 a22 a23 a24 a25 x19 a26 x20 a27 a28 a29 y0 a30 a31 a32 a33 a34 a35 a36 a37 a38 x21 x22 x23 y1 a39 x24 a40 a41 a42 a43 x25 x26 x27 x28 a18 f0 a27 f1 a36 f2 a37 f3 a38 f4 a35 g0) sz)) 0 0 (va_A (zS_13 cB cC cI cJ a0 a1 x1 x2 x3 x4 x5 x6 x7 x8 a2 a3 a4 a5 a6 a7 a8 a9 a10 a11 a12 a13 a14 a15 a16 x9 x10 x11 x12 x13 x14 a17 a18 a19 x15 a20 x16 a21 x17 x18 a22 a23 a24 a25 x19 a26 x20 a27 a28 a29 y0 a30 a31 a32 a33 a34 a35 a36 a37 a38 x21 x22 x23 y1 a39 x24 a40 a41 a42 a43 x25 x26 x27 x28 a18 f0 a27 f1 a36 f2 a37 f3 a38 f4 a35 g0) sz) := by
  refine gOf_i (by decide +kernel) (Nat.le_of_ble_eq_true rfl) ?_
  intro p e s m args below meth c ls A Q hx hb hts hown hml hN hK hP hD hA hl hret
  replace hown : s.vm.findClass RX12 = some m.cls := hown
  have hS : va_S A s.heap s.heap [] := va_S.rf
  replace hP : va_P D gcl (zS_13 cB cC cI cJ a0 a1 x1 x2 x3 x4 x5 x6 x7 x8 a2 a3 a4 a5 a6 a7 a8 a9 a10 a11 a12 a13 a14 a15 a16 x9 x10 x11 x12 x13 x14 a17 a18 a19 x15 a20 x16 a21 x17 x18 a22 a23 a24 a25 x19 a26 x20 a27 a28 a29 y0 a30 a31 a32 a33 a34 a35 a36 a37 a38 x21 x22 x23 y1 a39 x24 a40 a41 a42 a43 x25 x26 x27 x28 a18 f0 a27 f1 a36 f2 a37 f3 a38 f4 a35 g0) s.heap := hP
  replace hl : lv_has ls 3 [(0, .ref a0), (1, .int x0)] := hl
  have rx0 : zBd x0.toInt (-2147483648) 2147483647 := n_rng x0
  have rx7 : zBd x7.toInt (-2147483648) 2147483647 := n_rng x7
  have rx8 : zBd x8.toInt (-2147483648) 2147483647 := n_rng x8
  have rx14 : zBd x14.toInt (-2147483648) 2147483647 := n_rng x14
  have rx18 : zBd x18.toInt (-2147483648) 2147483647 := n_rng x18
  have ry0 := n_rngL y0
  have ry1 := n_rngL y1
  refine lv_iload_n (pc := 0) hx hb dX12_lead_0 rfl (lv_at hl 1 rfl) ?_
  refine b_i2l (pc := 1) hx hb rfl dX12_lead_1 (fun y_1 ey_1 => ?_)
  have ry_1 : zBd x0.toInt (-2147483648) 2147483647 := n_rng x0
  refine lv_lconst (pc := 2) (v := 1) hx hb dX12_lead_2 (by decide) ?_
  refine lv_ldc2 (pc := 3) hx hb hown (hts _ tw_1926) dX12_lead_3 ?_
  refine gd_i (pc := 6) (wc := []) hP hD hS hA [] rfl (by decide +kernel) (fun _ => by rfl) (fun hPc hDc => va_runS (As := [.long y_1, .long 1, .long 100]) (rest := []) ⟨hx, hb, hml, hown, hts⟩ (k_X12_isIn l D cB cC cI cJ _ y_1 1 100) ⟨gcwB hts tw_1666 tw_14 tw_1664 hd_yX12_isIn ⟨Nat.le_of_ble_eq_true rfl, Nat.le_of_ble_eq_true rfl⟩, hts _ tw_1665⟩ (gpreS hPc hK hDc hN) rfl rfl hl.1 rfl (lv_room (Nat.le_of_ble_eq_true rfl)) dX12_lead_6 ⟨Nat.le_of_ble_eq_true rfl, Nat.le_of_ble_eq_true rfl⟩) (fun r_3 u_2 H locs hw_4 hP hD hS => ?_)
  replace hP : va_P D gcl (zS_13 cB cC cI cJ a0 a1 x1 x2 x3 x4 x5 x6 x7 x8 a2 a3 a4 a5 a6 a7 a8 a9 a10 a11 a12 a13 a14 a15 a16 x9 x10 x11 x12 x13 x14 a17 a18 a19 x15 a20 x16 a21 x17 x18 a22 a23 a24 a25 x19 a26 x20 a27 a28 a29 y0 a30 a31 a32 a33 a34 a35 a36 a37 a38 x21 x22 x23 y1 a39 x24 a40 a41 a42 a43 x25 x26 x27 x28 a18 f0 a27 f1 a36 f2 a37 f3 a38 f4 a35 g0) H := hP
  replace hD : va_D A (zS_13 cB cC cI cJ a0 a1 x1 x2 x3 x4 x5 x6 x7 x8 a2 a3 a4 a5 a6 a7 a8 a9 a10 a11 a12 a13 a14 a15 a16 x9 x10 x11 x12 x13 x14 a17 a18 a19 x15 a20 x16 a21 x17 x18 a22 a23 a24 a25 x19 a26 x20 a27 a28 a29 y0 a30 a31 a32 a33 a34 a35 a36 a37 a38 x21 x22 x23 y1 a39 x24 a40 a41 a42 a43 x25 x26 x27 x28 a18 f0 a27 f1 a36 f2 a37 f3 a38 f4 a35 g0) := hD
  have hw_5 : ((r_3.toInt = 0 ∧ y_1.toInt < (1 : Int64).toInt) ∨ (r_3.toInt = 0 ∧ y_1.toInt ≥ (1 : Int64).toInt ∧ y_1.toInt > (100 : Int64).toInt) ∨ (r_3.toInt = 1 ∧ y_1.toInt ≥ (1 : Int64).toInt ∧ y_1.toInt ≤ (100 : Int64).toInt)) := hw_4
  have kk0_r_3 := tL_1
  have kk1_r_3 := tL_100
  have rr_3 : zBd r_3.toInt (-2147483648) 2147483647 := n_rng r_3
  refine b_if_ne (pc := 9) (tgt := 14) hx hb rfl  dX12_lead_9 (by decide) (fun c_6 => ?_) (fun c_6 => ?_)
  ·
    as_aux_lemma =>
      refine lv_iconst (pc := 14) (v := 0) hx hb dX12_lead_14 (by decide) ?_
      refine lv_istore_n (pc := 15) (lv' := [(2, .int 0), (0, .ref a0), (1, .int x0)]) hx hb dX12_lead_15 rfl hl (by decide) rfl (fun ls hl => ?_)
      have lp_30 : ∀ (n : Nat) (x_7 x_9 x_11 x_13 : Int32) (f_17 f_18 f_20 f_22 : Nat → Int32) (g_23 : Nat → Int64) (H : Heap) (locs : List Loc) (ls : Array Slot), (0 ≤ x_9.toInt ∧ x_9.toInt ≤ 200) → (0 ≤ x_11.toInt ∧ x_11.toInt ≤ 40) → (0 ≤ x_13.toInt ∧ x_13.toInt ≤ 40) → (x_11.toInt ≤ x_9.toInt) → (x_9.toInt + x_13.toInt ≤ 200) → (∀ j, 0 ≤ (f_18 j).toInt ∧ (f_18 j).toInt ≤ 4) → (∀ j, 0 ≤ (f_20 j).toInt ∧ (f_20 j).toInt ≤ 4) → (x_11.toInt + x_13.toInt ≤ 40) → (MOK f0 f_17 f_18 f_20 f_22 x11.toInt x10.toInt x_9.toInt x_13.toInt) → (0 ≤ x_7.toInt) → (x_7.toInt ≤ x0.toInt) → (x_9.toInt = x21.toInt + x_7.toInt) → (urQ x22.toInt x23.toInt x_11.toInt x_13.toInt x_7.toInt) → (200 - x_9.toInt).toNat < n → va_P D gcl (zS_13 cB cC cI cJ a0 a1 x1 x2 x3 x4 x5 x6 x7 x8 a2 a3 a4 a5 a6 a7 a8 a9 a10 a11 a12 a13 a14 a15 a16 x9 x10 x11 x12 x13 x14 a17 a18 a19 x15 a20 x16 a21 x17 x18 a22 a23 a24 a25 x19 a26 x20 a27 a28 a29 y0 a30 a31 a32 a33 a34 a35 a36 a37 a38 x_9 x_11 x_13 y1 a39 x24 a40 a41 a42 a43 x25 x26 x27 x28 a18 f0 a27 f_17 a36 f_18 a37 f_20 a38 f_22 a35 g_23) H → va_D A (zS_13 cB cC cI cJ a0 a1 x1 x2 x3 x4 x5 x6 x7 x8 a2 a3 a4 a5 a6 a7 a8 a9 a10 a11 a12 a13 a14 a15 a16 x9 x10 x11 x12 x13 x14 a17 a18 a19 x15 a20 x16 a21 x17 x18 a22 a23 a24 a25 x19 a26 x20 a27 a28 a29 y0 a30 a31 a32 a33 a34 a35 a36 a37 a38 x_9 x_11 x_13 y1 a39 x24 a40 a41 a42 a43 x25 x26 x27 x28 a18 f0 a27 f_17 a36 f_18 a37 f_20 a38 f_22 a35 g_23) → va_S A s.heap H locs → lv_has ls 3 [(2, .int x_7), (0, .ref a0), (1, .int x0)] → W p l e ({ frames := 2, cells := 0, slots := 0, locals := 49 }) s m args below meth c H locs 0 0 Q (F0 m 16 ls []) := by
        intro n
        induction n with
        | zero => intro x_7 x_9 x_11 x_13 f_17 f_18 f_20 f_22 g_23 H locs ls hi_10 hi_12 hi_14 hi_15 hi_16 hi_19 hi_21 hi_24 hi_25 hi_26 hi_27 hi_28 hi_29 hmu; exact absurd hmu (Nat.not_lt_zero _)
        | succ n ih_lp_30 =>
          intro x_7 x_9 x_11 x_13 f_17 f_18 f_20 f_22 g_23 H locs ls hi_10 hi_12 hi_14 hi_15 hi_16 hi_19 hi_21 hi_24 hi_25 hi_26 hi_27 hi_28 hi_29 hmu_lp_30 hP hD hS hl
          have hi_8 := n_rng x_7
          refine lv_iload_n (pc := 16) hx hb dX12_lead_16 rfl (lv_at hl 0 rfl) ?_
          refine lv_iload_n (pc := 17) hx hb dX12_lead_17 rfl (lv_at hl 2 rfl) ?_
          refine b_icmp_ge (pc := 18) (tgt := 58) hx hb rfl rfl  dX12_lead_18 (by decide) (fun c_31 => ?_) (fun c_31 => ?_)
          ·
            as_aux_lemma =>
              refine lv_iload_n (pc := 58) hx hb dX12_lead_58 rfl (lv_at hl 0 rfl) ?_
              have hP9 : va_P D gcl (zS_13 cB cC cI cJ a0 a1 x1 x2 x3 x4 x5 x6 x7 x8 a2 a3 a4 a5 a6 a7 a8 a9 a10 a11 a12 a13 a14 a15 a16 x9 x10 x11 x12 x13 x14 a17 a18 a19 x15 a20 x16 a21 x17 x18 a22 a23 a24 a25 x19 a26 x20 a27 a28 a29 y0 a30 a31 a32 a33 a34 a35 a36 a37 a38 x_9 x_11 x_13 y1 a39 x24 a40 a41 a42 a43 x25 x26 x27 x28 a18 f0 a27 f_17 a36 f_18 a37 f_20 a38 f_22 a35 g_23) H := g_psub hP [0, 1, 2, 3, 4, 5, 6] rfl
              have hD9 : va_D A (zS_13 cB cC cI cJ a0 a1 x1 x2 x3 x4 x5 x6 x7 x8 a2 a3 a4 a5 a6 a7 a8 a9 a10 a11 a12 a13 a14 a15 a16 x9 x10 x11 x12 x13 x14 a17 a18 a19 x15 a20 x16 a21 x17 x18 a22 a23 a24 a25 x19 a26 x20 a27 a28 a29 y0 a30 a31 a32 a33 a34 a35 a36 a37 a38 x_9 x_11 x_13 y1 a39 x24 a40 a41 a42 a43 x25 x26 x27 x28 a18 f0 a27 f_17 a36 f_18 a37 f_20 a38 f_22 a35 g_23) := hD.sub [0, 1, 2, 3, 4, 5, 6] (by decide) rfl
              exact hret x_7 ((fun _ => 0), (fun k => [f_17, f_18, f_20, f_22].getD k (fun _ => 0)), (fun k => [g_23].getD k (fun _ => 0)), (fun k => [x_9, x_11, x_13].getD k 0), (fun _ => 0)) dX12_lead_59 ⟨(show (0 ≤ (x_9 : Int32).toInt ∧ (x_9 : Int32).toInt ≤ 200) from hi_10), (show (0 ≤ (x_11 : Int32).toInt ∧ (x_11 : Int32).toInt ≤ 40) from hi_12), (show (0 ≤ (x_13 : Int32).toInt ∧ (x_13 : Int32).toInt ≤ 40) from hi_14), (show ((x_11 : Int32).toInt ≤ (x_9 : Int32).toInt) from hi_15), (show ((x_9 : Int32).toInt + (x_13 : Int32).toInt ≤ 200) from hi_16), hi_19, hi_21, (show x_11.toInt + x_13.toInt ≤ 40 from hi_24), (show MOK f0 f_17 f_18 f_20 f_22 x11.toInt x10.toInt x_9.toInt x_13.toInt from hi_25), (show ldQ x_7.toInt x0.toInt x22.toInt x23.toInt x21.toInt x_11.toInt x_13.toInt x_9.toInt f_17 x11.toInt x10.toInt from ld_yes (by first | exact (om_1697 c_6 hw_5 ey_1 tL_1 tL_100) | ((first | omega | (unfold zBd at *; omega)))) (by first | exact (om_793 hi_26 hi_27) | ((first | omega | (unfold zBd at *; omega)))) (by first | exact (om_63 hi_28) | ((first | omega | (unfold zBd at *; omega)))) hi_29 (Or.inl (by first | exact (om_1416 c_31 hi_27) | ((first | omega | (unfold zBd at *; omega))))))⟩ hP9 hD9 hS
          ·
            as_aux_lemma =>
              refine lv_aload_n (pc := 21) hx hb dX12_lead_21 rfl (lv_at hl 1 rfl) ?_
              refine gd_i (pc := 22) (wc := (zS_58 cB cC cI cJ a0 a1 x1 x2 x3 x4 x5 x6 x7 x8 a2 a3 a4 a5 a6 a7 a8 a9 a10 a11 a12 a13 a14 a15 a16 x9 x10 x11 x12 x13 x14 a17 a18 a19 x15 a20 x16 a21 x17 x18 a22 a23 a24 a25 x19 a26 x20 a27 a28 a29 y0 a30 a31 a32 a33 a34 a35 a36 a37 a38 x_9 x_11 x_13 y1 a39 x24 a40 a41 a42 a43 x25 x26 x27 x28 a27 f_17 a36 f_18 a37 f_20 a38 f_22 a35 g_23)) hP hD hS hA [0, 2, 3, 4, 5, 6] rfl (by decide +kernel) (fun _ => by rfl) (fun hPc hDc => va_runV (As := []) (rest := []) ⟨hx, hb, hml, hown, hts⟩ (k_X12_isStep l D cB cC cI cJ _ a0 a1 a2 a3 a4 a5 a6 a7 a8 a9 a10 a11 a12 a13 a14 a15 a16 a17 a18 a19 a20 a21 a22 a23 a24 a25 a26 a27 a28 a29 a30 a31 a32 a33 a34 a35 a36 a37 a38 a39 a40 a41 a42 a43 x1 x2 x3 x4 x5 x6 x7 x8 x9 x10 x11 x12 x13 x14 x15 x16 x17 x18 x19 x20 x_9 x_11 x_13 x24 x25 x26 x27 x28 y0 y1 f_17 f_18 f_20 f_22 g_23 h_x1 h_x2 h_x3 h_x4 h_x5 h_x6 h_x9 h_x10 h_x11 h_x12 h_x13 h_x15 h_x16 h_x17 h_x19 h_x20 hi_10 hi_12 hi_14 h_x24 h_x25 h_x26 h_x27 h_x28 hi_15 hi_16 hr_a0_2 hi_19 hi_21) ⟨gcwB hts tw_1930 tw_14 tw_1927 hd_yX12_isStep ⟨Nat.le_of_ble_eq_true rfl, Nat.le_of_ble_eq_true rfl⟩, hts _ tw_1929, hts _ tp_106⟩ ⟨gblind, va_recv hK hPc (ci := 12) (q0 := 0) rfl rfl, (gpreS hPc hK hDc hN).2⟩ rfl rfl hl.1 rfl (lv_room (Nat.le_of_ble_eq_true rfl)) dX12_lead_22 ⟨Nat.le_of_ble_eq_true rfl, Nat.le_of_ble_eq_true rfl⟩) (fun r_33 u_32 H locs hw_34 hP hD hS => ?_)
              replace hP : va_P D gcl (zS_13 cB cC cI cJ a0 a1 x1 x2 x3 x4 x5 x6 x7 x8 a2 a3 a4 a5 a6 a7 a8 a9 a10 a11 a12 a13 a14 a15 a16 x9 x10 x11 x12 x13 x14 a17 a18 a19 x15 a20 x16 a21 x17 x18 a22 a23 a24 a25 x19 a26 x20 a27 a28 a29 y0 a30 a31 a32 a33 a34 a35 a36 a37 a38 (u_32.2.2.2.1 0) x_11 x_13 y1 a39 x24 a40 a41 a42 a43 x25 x26 x27 x28 a18 f0 a27 (u_32.2.1 0) a36 (u_32.2.1 1) a37 (u_32.2.1 2) a38 (u_32.2.1 3) a35 (u_32.2.2.1 0)) H := hP
              replace hD : va_D A (zS_13 cB cC cI cJ a0 a1 x1 x2 x3 x4 x5 x6 x7 x8 a2 a3 a4 a5 a6 a7 a8 a9 a10 a11 a12 a13 a14 a15 a16 x9 x10 x11 x12 x13 x14 a17 a18 a19 x15 a20 x16 a21 x17 x18 a22 a23 a24 a25 x19 a26 x20 a27 a28 a29 y0 a30 a31 a32 a33 a34 a35 a36 a37 a38 (u_32.2.2.2.1 0) x_11 x_13 y1 a39 x24 a40 a41 a42 a43 x25 x26 x27 x28 a18 f0 a27 (u_32.2.1 0) a36 (u_32.2.1 1) a37 (u_32.2.1 2) a38 (u_32.2.1 3) a35 (u_32.2.2.1 0)) := hD
              obtain ⟨hw_35, hw_36, hw_37, hw_38, hw_39, hw_40, hw_41⟩ := hw_34
              replace hw_35 : (0 ≤ r_33.toInt ∧ r_33.toInt ≤ 1) := hw_35
              replace hw_36 : zBd (u_32.2.2.2.1 0).toInt 0 200 := hw_36
              replace hw_37 : (x_11.toInt ≤ (u_32.2.2.2.1 0).toInt) := hw_37
              replace hw_38 : (∀ j, 0 ≤ ((u_32.2.1 1) j).toInt ∧ ((u_32.2.1 1) j).toInt ≤ 4) := hw_38
              replace hw_39 : (∀ j, 0 ≤ ((u_32.2.1 2) j).toInt ∧ ((u_32.2.1 2) j).toInt ≤ 4) := hw_39
              replace hw_40 : ((u_32.2.2.2.1 0).toInt = x_9.toInt + r_33.toInt) := hw_40
              replace hw_41 : (isQ f_17 (u_32.2.1 0) f_18 f_20 f_22 (u_32.2.1 1) (u_32.2.1 2) (u_32.2.1 3) x11.toInt x10.toInt x_9.toInt (u_32.2.2.2.1 0).toInt r_33.toInt) := hw_41
              have rr_33 : zBd r_33.toInt (-2147483648) 2147483647 := n_rng r_33
              refine b_if_eq (pc := 25) (tgt := 58) hx hb rfl  dX12_lead_25 (by decide) (fun c_42 => ?_) (fun c_42 => ?_)
              ·
                as_aux_lemma =>
                  refine lv_iload_n (pc := 58) hx hb dX12_lead_58 rfl (lv_at hl 0 rfl) ?_
                  have hP9 : va_P D gcl (zS_13 cB cC cI cJ a0 a1 x1 x2 x3 x4 x5 x6 x7 x8 a2 a3 a4 a5 a6 a7 a8 a9 a10 a11 a12 a13 a14 a15 a16 x9 x10 x11 x12 x13 x14 a17 a18 a19 x15 a20 x16 a21 x17 x18 a22 a23 a24 a25 x19 a26 x20 a27 a28 a29 y0 a30 a31 a32 a33 a34 a35 a36 a37 a38 (u_32.2.2.2.1 0) x_11 x_13 y1 a39 x24 a40 a41 a42 a43 x25 x26 x27 x28 a18 f0 a27 (u_32.2.1 0) a36 (u_32.2.1 1) a37 (u_32.2.1 2) a38 (u_32.2.1 3) a35 (u_32.2.2.1 0)) H := g_psub hP [0, 1, 2, 3, 4, 5, 6] rfl
                  have hD9 : va_D A (zS_13 cB cC cI cJ a0 a1 x1 x2 x3 x4 x5 x6 x7 x8 a2 a3 a4 a5 a6 a7 a8 a9 a10 a11 a12 a13 a14 a15 a16 x9 x10 x11 x12 x13 x14 a17 a18 a19 x15 a20 x16 a21 x17 x18 a22 a23 a24 a25 x19 a26 x20 a27 a28 a29 y0 a30 a31 a32 a33 a34 a35 a36 a37 a38 (u_32.2.2.2.1 0) x_11 x_13 y1 a39 x24 a40 a41 a42 a43 x25 x26 x27 x28 a18 f0 a27 (u_32.2.1 0) a36 (u_32.2.1 1) a37 (u_32.2.1 2) a38 (u_32.2.1 3) a35 (u_32.2.2.1 0)) := hD.sub [0, 1, 2, 3, 4, 5, 6] (by decide) rfl
                  exact hret x_7 ((fun _ => 0), (fun k => [(u_32.2.1 0), (u_32.2.1 1), (u_32.2.1 2), (u_32.2.1 3)].getD k (fun _ => 0)), (fun k => [(u_32.2.2.1 0)].getD k (fun _ => 0)), (fun k => [(u_32.2.2.2.1 0), x_11, x_13].getD k 0), (fun _ => 0)) dX12_lead_59 ⟨(show (0 ≤ ((u_32.2.2.2.1 0) : Int32).toInt ∧ ((u_32.2.2.2.1 0) : Int32).toInt ≤ 200) from hw_36), (show (0 ≤ (x_11 : Int32).toInt ∧ (x_11 : Int32).toInt ≤ 40) from hi_12), (show (0 ≤ (x_13 : Int32).toInt ∧ (x_13 : Int32).toInt ≤ 40) from hi_14), (show ((x_11 : Int32).toInt ≤ ((u_32.2.2.2.1 0) : Int32).toInt) from hw_37), (show (((u_32.2.2.2.1 0) : Int32).toInt + (x_13 : Int32).toInt ≤ 200) from (by first | exact (om_1698 hw_40 hi_16 c_42) | ((first | omega | (unfold zBd at *; omega))))), hw_38, hw_39, (show x_11.toInt + x_13.toInt ≤ 40 from hi_24), (show MOK f0 (u_32.2.1 0) (u_32.2.1 1) (u_32.2.1 2) (u_32.2.1 3) x11.toInt x10.toInt (u_32.2.2.2.1 0).toInt x_13.toInt from isQ_same hi_25 hw_41 (by first | exact (om_31 c_42) | ((first | omega | (unfold zBd at *; omega))))), (show ldQ x_7.toInt x0.toInt x22.toInt x23.toInt x21.toInt x_11.toInt x_13.toInt (u_32.2.2.2.1 0).toInt (u_32.2.1 0) x11.toInt x10.toInt from ld_yes (by first | exact (om_1699 c_31 hi_26 c_6 hw_5 ey_1 tL_1 tL_100) | ((first | omega | (unfold zBd at *; omega)))) (by first | exact (om_1700 hi_26 c_31) | ((first | omega | (unfold zBd at *; omega)))) (by first | exact (om_1701 hw_40 hi_28 c_42) | ((first | omega | (unfold zBd at *; omega)))) hi_29 (Or.inr (isQ_noq hw_41 (by first | exact (om_31 c_42) | ((first | omega | (unfold zBd at *; omega)))))))⟩ hP9 hD9 hS
              ·
                as_aux_lemma =>
                  refine b_iinc (pc := 28) hx hb dX12_lead_28 hl (k := 0) rfl rfl tI_1 (by first | exact (om_561 hi_8.1) | ((first | omega | (unfold zBd at *; omega)))) (by first | exact (om_1087 c_31 ry_1.2) | ((first | omega | (unfold zBd at *; omega)))) (by decide) (fun x_43 ex_43 ls hl => ?_)
                  replace hl : lv_has ls 3 [(2, .int x_43), (0, .ref a0), (1, .int x0)] := hl
                  refine lv_aload_n (pc := 31) hx hb dX12_lead_31 rfl (lv_at hl 1 rfl) ?_
                  refine va_get (pc := 32) (ci := 12) (v := .int x_11) (C := RX12) (T := TX12) (N := 73) hx hb hts iX12 hown hK hP 0 rfl rfl 60 (by decide) (hts _ tw_1461) (fun _ h9 => h9) rfl dX12_lead_32 ?_
                  refine lv_bipush (pc := 35) (v := 40) hx hb dX12_lead_35 (by decide) ?_
                  refine b_icmp_ge (pc := 37) (tgt := 50) hx hb rfl tI_40  dX12_lead_37 (by decide) (fun c_44 => ?_) (fun c_44 => ?_)
                  ·
                    as_aux_lemma =>
                      refine lv_aload_n (pc := 50) hx hb dX12_lead_50 rfl (lv_at hl 1 rfl) ?_
                      refine lv_iconst (pc := 51) (v := 0) hx hb dX12_lead_51 (by decide) ?_
                      refine va_put (pc := 52) (ci := 12) (v := .int 0) (ty := .int) (C := RX12) (T := TX12) (N := 73) hx hb hts iX12 tyX12 tyX12_ok nmX12 hown hK hP hD hS 0 rfl rfl 61 (by decide) (hts _ tw_1462) (fun _ h9 => h9) rfl (by decide +kernel) (by decide +kernel) (by decide +kernel) (Nat.le_of_ble_eq_true rfl) dX12_lead_52 (fun H locs hP hD hS => ?_)
                      replace hP : va_P D gcl (zS_13 cB cC cI cJ a0 a1 x1 x2 x3 x4 x5 x6 x7 x8 a2 a3 a4 a5 a6 a7 a8 a9 a10 a11 a12 a13 a14 a15 a16 x9 x10 x11 x12 x13 x14 a17 a18 a19 x15 a20 x16 a21 x17 x18 a22 a23 a24 a25 x19 a26 x20 a27 a28 a29 y0 a30 a31 a32 a33 a34 a35 a36 a37 a38 (u_32.2.2.2.1 0) x_11 0 y1 a39 x24 a40 a41 a42 a43 x25 x26 x27 x28 a18 f0 a27 (u_32.2.1 0) a36 (u_32.2.1 1) a37 (u_32.2.1 2) a38 (u_32.2.1 3) a35 (u_32.2.2.1 0)) H := hP
                      replace hD : va_D A (zS_13 cB cC cI cJ a0 a1 x1 x2 x3 x4 x5 x6 x7 x8 a2 a3 a4 a5 a6 a7 a8 a9 a10 a11 a12 a13 a14 a15 a16 x9 x10 x11 x12 x13 x14 a17 a18 a19 x15 a20 x16 a21 x17 x18 a22 a23 a24 a25 x19 a26 x20 a27 a28 a29 y0 a30 a31 a32 a33 a34 a35 a36 a37 a38 (u_32.2.2.2.1 0) x_11 0 y1 a39 x24 a40 a41 a42 a43 x25 x26 x27 x28 a18 f0 a27 (u_32.2.1 0) a36 (u_32.2.1 1) a37 (u_32.2.1 2) a38 (u_32.2.1 3) a35 (u_32.2.2.1 0)) := hD
                      refine lv_goto (pc := 55) (tgt := 16) hx hb dX12_lead_55 (by decide) ?_
                      exact ih_lp_30 x_43 (u_32.2.2.2.1 0) x_11 0 (u_32.2.1 0) (u_32.2.1 1) (u_32.2.1 2) (u_32.2.1 3) (u_32.2.2.1 0) _ _ ls hw_36 hi_12 (n_c tI_0 (by decide)) hw_37 (by first | exact (om_1702 hw_36.2 tI_0) | (have k0 := tI_0; (first | omega | (unfold zBd at *; omega)))) hw_38 hw_39 (by first | exact (om_1703 hi_12.2 tI_0) | (have k0 := tI_0; (first | omega | (unfold zBd at *; omega)))) (M_less (isQ_push hi_25 hw_41 (by first | exact (om_0 hi_10.1) | ((first | omega | (unfold zBd at *; omega)))) (by first | exact (om_0 hi_14.1) | ((first | omega | (unfold zBd at *; omega)))) (by first | exact (om_34 c_42) | ((first | omega | (unfold zBd at *; omega))))) (by first | exact (om_43 tI_0) | (have q := tI_0; (first | omega | (unfold zBd at *; omega))))) (by first | exact (om_1704 ex_43 hi_26) | (have k0 := tI_0; (first | omega | (unfold zBd at *; omega)))) (by first | exact (om_40 ex_43 c_31) | (have k0 := tI_0; (first | omega | (unfold zBd at *; omega)))) (by first | exact (om_1705 c_42 hw_35.1 ex_43 hw_40 hi_28 hw_35.2) | (have k0 := tI_0; (first | omega | (unfold zBd at *; omega)))) (ur_M hi_29 (by first | exact (om_0 hi_26) | ((first | omega | (unfold zBd at *; omega)))) (by first | exact (om_1706 h_x22.1 h_x22.2) | ((first | omega | (unfold zBd at *; omega)))) (by first | exact (om_1707 c_44) | ((first | omega | (unfold zBd at *; omega)))) (by first | exact (om_31 tI_0) | (have q := tI_0; (first | omega | (unfold zBd at *; omega)))) (by first | exact (om_5 ex_43) | ((first | omega | (unfold zBd at *; omega))))) (by have k0 := tI_0; (first | omega | (unfold zBd at *; omega))) hP hD hS (lv_sub hl [0, 1, 2] rfl)
                  ·
                    as_aux_lemma =>
                      refine lv_aload_n (pc := 40) hx hb dX12_lead_40 rfl (lv_at hl 1 rfl) ?_
                      refine lv_dup (pc := 41) hx hb dX12_lead_41 rfl ?_
                      refine va_get (pc := 42) (ci := 12) (v := .int x_11) (C := RX12) (T := TX12) (N := 73) hx hb hts iX12 hown hK hP 0 rfl rfl 60 (by decide) (hts _ tw_1461) (fun _ h9 => h9) rfl dX12_lead_42 ?_
                      refine lv_iconst (pc := 45) (v := 1) hx hb dX12_lead_45 (by decide) ?_
                      refine b_iadd (pc := 46) hx hb rfl tI_1 (by first | exact (om_2 hi_12.1) | ((first | omega | (unfold zBd at *; omega)))) (by first | exact (om_1217 c_44) | ((first | omega | (unfold zBd at *; omega)))) dX12_lead_46 (fun x_45 ex_45 => ?_)
                      refine va_put (pc := 47) (ci := 12) (v := .int x_45) (ty := .int) (C := RX12) (T := TX12) (N := 73) hx hb hts iX12 tyX12 tyX12_ok nmX12 hown hK hP hD hS 0 rfl rfl 60 (by decide) (hts _ tw_1461) (fun _ h9 => h9) rfl (by decide +kernel) rfl rfl (Nat.le_of_ble_eq_true rfl) dX12_lead_47 (fun H locs hP hD hS => ?_)
                      replace hP : va_P D gcl (zS_13 cB cC cI cJ a0 a1 x1 x2 x3 x4 x5 x6 x7 x8 a2 a3 a4 a5 a6 a7 a8 a9 a10 a11 a12 a13 a14 a15 a16 x9 x10 x11 x12 x13 x14 a17 a18 a19 x15 a20 x16 a21 x17 x18 a22 a23 a24 a25 x19 a26 x20 a27 a28 a29 y0 a30 a31 a32 a33 a34 a35 a36 a37 a38 (u_32.2.2.2.1 0) x_45 x_13 y1 a39 x24 a40 a41 a42 a43 x25 x26 x27 x28 a18 f0 a27 (u_32.2.1 0) a36 (u_32.2.1 1) a37 (u_32.2.1 2) a38 (u_32.2.1 3) a35 (u_32.2.2.1 0)) H := hP
                      replace hD : va_D A (zS_13 cB cC cI cJ a0 a1 x1 x2 x3 x4 x5 x6 x7 x8 a2 a3 a4 a5 a6 a7 a8 a9 a10 a11 a12 a13 a14 a15 a16 x9 x10 x11 x12 x13 x14 a17 a18 a19 x15 a20 x16 a21 x17 x18 a22 a23 a24 a25 x19 a26 x20 a27 a28 a29 y0 a30 a31 a32 a33 a34 a35 a36 a37 a38 (u_32.2.2.2.1 0) x_45 x_13 y1 a39 x24 a40 a41 a42 a43 x25 x26 x27 x28 a18 f0 a27 (u_32.2.1 0) a36 (u_32.2.1 1) a37 (u_32.2.1 2) a38 (u_32.2.1 3) a35 (u_32.2.2.1 0)) := hD
                      refine lv_aload_n (pc := 50) hx hb dX12_lead_50 rfl (lv_at hl 1 rfl) ?_
                      refine lv_iconst (pc := 51) (v := 0) hx hb dX12_lead_51 (by decide) ?_
                      refine va_put (pc := 52) (ci := 12) (v := .int 0) (ty := .int) (C := RX12) (T := TX12) (N := 73) hx hb hts iX12 tyX12 tyX12_ok nmX12 hown hK hP hD hS 0 rfl rfl 61 (by decide) (hts _ tw_1462) (fun _ h9 => h9) rfl (by decide +kernel) (by decide +kernel) (by decide +kernel) (Nat.le_of_ble_eq_true rfl) dX12_lead_52 (fun H locs hP hD hS => ?_)
                      replace hP : va_P D gcl (zS_13 cB cC cI cJ a0 a1 x1 x2 x3 x4 x5 x6 x7 x8 a2 a3 a4 a5 a6 a7 a8 a9 a10 a11 a12 a13 a14 a15 a16 x9 x10 x11 x12 x13 x14 a17 a18 a19 x15 a20 x16 a21 x17 x18 a22 a23 a24 a25 x19 a26 x20 a27 a28 a29 y0 a30 a31 a32 a33 a34 a35 a36 a37 a38 (u_32.2.2.2.1 0) x_45 0 y1 a39 x24 a40 a41 a42 a43 x25 x26 x27 x28 a18 f0 a27 (u_32.2.1 0) a36 (u_32.2.1 1) a37 (u_32.2.1 2) a38 (u_32.2.1 3) a35 (u_32.2.2.1 0)) H := hP
                      replace hD : va_D A (zS_13 cB cC cI cJ a0 a1 x1 x2 x3 x4 x5 x6 x7 x8 a2 a3 a4 a5 a6 a7 a8 a9 a10 a11 a12 a13 a14 a15 a16 x9 x10 x11 x12 x13 x14 a17 a18 a19 x15 a20 x16 a21 x17 x18 a22 a23 a24 a25 x19 a26 x20 a27 a28 a29 y0 a30 a31 a32 a33 a34 a35 a36 a37 a38 (u_32.2.2.2.1 0) x_45 0 y1 a39 x24 a40 a41 a42 a43 x25 x26 x27 x28 a18 f0 a27 (u_32.2.1 0) a36 (u_32.2.1 1) a37 (u_32.2.1 2) a38 (u_32.2.1 3) a35 (u_32.2.2.1 0)) := hD
                      refine lv_goto (pc := 55) (tgt := 16) hx hb dX12_lead_55 (by decide) ?_
                      exact ih_lp_30 x_43 (u_32.2.2.2.1 0) x_45 0 (u_32.2.1 0) (u_32.2.1 1) (u_32.2.1 2) (u_32.2.1 3) (u_32.2.2.1 0) _ _ ls hw_36 (by first | exact (om_1708 ex_45 hi_12.1 c_44) | (have k0 := tI_0; (first | omega | (unfold zBd at *; omega)))) (n_c tI_0 (by decide)) (by first | exact (om_1709 c_42 hw_35.1 ex_45 hw_40 hi_15) | (have k0 := tI_0; (first | omega | (unfold zBd at *; omega)))) (by first | exact (om_1702 hw_36.2 tI_0) | (have k0 := tI_0; (first | omega | (unfold zBd at *; omega)))) hw_38 hw_39 (by first | exact (om_1710 ex_45 tI_0 c_44) | (have k0 := tI_0; (first | omega | (unfold zBd at *; omega)))) (M_less (isQ_push hi_25 hw_41 (by first | exact (om_0 hi_10.1) | ((first | omega | (unfold zBd at *; omega)))) (by first | exact (om_0 hi_14.1) | ((first | omega | (unfold zBd at *; omega)))) (by first | exact (om_34 c_42) | ((first | omega | (unfold zBd at *; omega))))) (by first | exact (om_43 tI_0) | (have q := tI_0; (first | omega | (unfold zBd at *; omega))))) (by first | exact (om_1704 ex_43 hi_26) | (have k0 := tI_0; (first | omega | (unfold zBd at *; omega)))) (by first | exact (om_40 ex_43 c_31) | (have k0 := tI_0; (first | omega | (unfold zBd at *; omega)))) (by first | exact (om_1705 c_42 hw_35.1 ex_43 hw_40 hi_28 hw_35.2) | (have k0 := tI_0; (first | omega | (unfold zBd at *; omega)))) (ur_M hi_29 (by first | exact (om_0 hi_26) | ((first | omega | (unfold zBd at *; omega)))) (by first | exact (om_1706 h_x22.1 h_x22.2) | ((first | omega | (unfold zBd at *; omega)))) (by first | exact (om_1711 ex_45 c_44) | ((first | omega | (unfold zBd at *; omega)))) (by first | exact (om_31 tI_0) | (have q := tI_0; (first | omega | (unfold zBd at *; omega)))) (by first | exact (om_5 ex_43) | ((first | omega | (unfold zBd at *; omega))))) (by have k0 := tI_0; (first | omega | (unfold zBd at *; omega))) hP hD hS (lv_sub hl [0, 1, 2] rfl)
      exact lp_30 _ 0 x21 x22 x23 f1 f2 f3 f4 g0 _ _ ls h_x21 h_x22 h_x23 hr_a0_0 hr_a0_1 hf_f2 hf_f3 hg__ur (hg_mk) (by have q := tI_0; (first | omega | (unfold zBd at *; omega))) (by have q := tI_0; (first | omega | (unfold zBd at *; omega))) (by have q := tI_0; (first | omega | (unfold zBd at *; omega))) (ur_0 tI_0) (Nat.lt_succ_self _) hP hD hS (lv_sub hl [0, 1, 2] rfl)
  ·
    as_aux_lemma =>
      refine lv_iconst (pc := 12) (v := (-1)) hx hb dX12_lead_12 (by decide) ?_
      have hP9 : va_P D gcl (zS_13 cB cC cI cJ a0 a1 x1 x2 x3 x4 x5 x6 x7 x8 a2 a3 a4 a5 a6 a7 a8 a9 a10 a11 a12 a13 a14 a15 a16 x9 x10 x11 x12 x13 x14 a17 a18 a19 x15 a20 x16 a21 x17 x18 a22 a23 a24 a25 x19 a26 x20 a27 a28 a29 y0 a30 a31 a32 a33 a34 a35 a36 a37 a38 x21 x22 x23 y1 a39 x24 a40 a41 a42 a43 x25 x26 x27 x28 a18 f0 a27 f1 a36 f2 a37 f3 a38 f4 a35 g0) H := g_psub hP [0, 1, 2, 3, 4, 5, 6] rfl
      have hD9 : va_D A (zS_13 cB cC cI cJ a0 a1 x1 x2 x3 x4 x5 x6 x7 x8 a2 a3 a4 a5 a6 a7 a8 a9 a10 a11 a12 a13 a14 a15 a16 x9 x10 x11 x12 x13 x14 a17 a18 a19 x15 a20 x16 a21 x17 x18 a22 a23 a24 a25 x19 a26 x20 a27 a28 a29 y0 a30 a31 a32 a33 a34 a35 a36 a37 a38 x21 x22 x23 y1 a39 x24 a40 a41 a42 a43 x25 x26 x27 x28 a18 f0 a27 f1 a36 f2 a37 f3 a38 f4 a35 g0) := hD.sub [0, 1, 2, 3, 4, 5, 6] (by decide) rfl
      have k9 := tI_m1
      exact hret (-1) ((fun _ => 0), (fun k => [f1, f2, f3, f4].getD k (fun _ => 0)), (fun k => [g0].getD k (fun _ => 0)), (fun k => [x21, x22, x23].getD k 0), (fun _ => 0)) dX12_lead_13 ⟨(show (0 ≤ (x21 : Int32).toInt ∧ (x21 : Int32).toInt ≤ 200) from h_x21), (show (0 ≤ (x22 : Int32).toInt ∧ (x22 : Int32).toInt ≤ 40) from h_x22), (show (0 ≤ (x23 : Int32).toInt ∧ (x23 : Int32).toInt ≤ 40) from h_x23), (show ((x22 : Int32).toInt ≤ (x21 : Int32).toInt) from hr_a0_0), (show ((x21 : Int32).toInt + (x23 : Int32).toInt ≤ 200) from hr_a0_1), hf_f2, hf_f3, (show x22.toInt + x23.toInt ≤ 40 from hg__ur), (show MOK f0 f1 f2 f3 f4 x11.toInt x10.toInt x21.toInt x23.toInt from hg_mk), (show ldQ ((-1) : Int32).toInt x0.toInt x22.toInt x23.toInt x21.toInt x22.toInt x23.toInt x21.toInt f1 x11.toInt x10.toInt from ld_no (by first | exact (om_65 tI_m1) | ((first | omega | (unfold zBd at *; omega)))) (by first | exact (om_1712 hw_5 ey_1 tL_1 tL_100 c_6) | ((first | omega | (unfold zBd at *; omega)))))⟩ hP9 hD9 hS
