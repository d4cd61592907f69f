set_option maxHeartbeats 4000000 in
set_option maxRecDepth 100000 in
theorem k_X4_readLimit (l : Launch) (D : va_G) (cB cC cI cJ : ClassId) (sz : Nat) (a0 a1 a2 a3 a4 a5 a6 : Nat) (x0 x1 x2 x3 x4 x5 x6 x7 x8 x9 x10 x11 x12 x13 : Int32) (f0 : Nat → Int32) (h_x0 : (0 ≤ x0.toInt ∧ x0.toInt ≤ 1600)) (h_x1 : ((-1) ≤ x1.toInt ∧ x1.toInt ≤ 255)) (h_x2 : (0 ≤ x2.toInt ∧ x2.toInt ≤ 1600)) (h_x4 : (0 ≤ x4.toInt ∧ x4.toInt ≤ 4)) (h_x5 : ((-1) ≤ x5.toInt ∧ x5.toInt ≤ 1600)) (h_x6 : (0 ≤ x6.toInt ∧ x6.toInt ≤ 1600)) (h_x7 : ((-1) ≤ x7.toInt ∧ x7.toInt ≤ 8)) (h_x8 : ((-1) ≤ x8.toInt ∧ x8.toInt ≤ 5)) (h_x9 : ((-1) ≤ x9.toInt ∧ x9.toInt ≤ 6)) (h_x10 : (0 ≤ x10.toInt ∧ x10.toInt ≤ 6)) (h_x11 : (0 ≤ x11.toInt ∧ x11.toInt ≤ 16)) (hg_sv : svQ (taub f0 x6.toInt) x0.toInt x1.toInt) (hg__ff : x4.toInt = 0 ∧ x5.toInt = -1) : Met l yX4_readLimit (.code yX4_readLimit cX4_readLimit 1 (some .boolean) :: lw_gd) ({ frames := 4, cells := 0, slots := 0, locals := 88 }) (gPre D [(cB, .byte), (cC, .char), (cI, .int), (cJ, .long)] [.ref a0] [(a0, .inr (4, [.ref a1, .ref a2, .int x0, .int x1, .int x2, .int x3, .int x4, .int x5])), (a1, .inr (9, [.ref a3, .int x6])), (a3, .inl (cB, 1600, .inl f0)), (a2, .inr (1, [.ref a4, .ref a5, .ref a6, .int x7, .int x8, .int x9, .int x10, .int x11, .int x12, .int x13]))] sz) (va_Qi (fun r u => (0 ≤ r.toInt ∧ r.toInt ≤ 1) ∧ (0 ≤ (u.2.2.2.1 0).toInt ∧ (u.2.2.2.1 0).toInt ≤ 1600) ∧ ((-1) ≤ (u.2.2.2.1 1).toInt ∧ (u.2.2.2.1 1).toInt ≤ 255) ∧ (0 ≤ (u.2.2.2.1 2).toInt ∧ (u.2.2.2.1 2).toInt ≤ 1600) ∧ (0 ≤ (u.2.2.2.1 3).toInt ∧ (u.2.2.2.1 3).toInt ≤ 4) ∧ ((-1) ≤ (u.2.2.2.1 4).toInt ∧ (u.2.2.2.1 4).toInt ≤ 1600) ∧ (boQ (limF (taub f0 x6.toInt) x0.toInt x1.toInt) (taub f0 x6.toInt) r.toInt (u.2.2.2.1 0).toInt (u.2.2.2.1 1).toInt (u.2.2.2.1 3).toInt (u.2.2.2.1 4).toInt) ∧ ((u.2.2.2.1 3).toInt ≤ 4 - 4 * r.toInt ∧ (u.2.2.2.1 4).toInt ≤ 1600 - 1601 * r.toInt)) (gB D (va_A [(a0, .inr (4, [.ref a1, .ref a2, .int x0, .int x1, .int x2, .int x3, .int x4, .int x5])), (a1, .inr (9, [.ref a3, .int x6])), (a3, .inl (cB, 1600, .inl f0)), (a2, .inr (1, [.ref a4, .ref a5, .ref a6, .int x7, .int x8, .int x9, .int x10, .int x11, .int x12, .int x13]))] sz) (fun u : gEx => [(a0, .inr (4, [.ref a1, .ref a2, .int (u.2.2.2.1 0), .int (u.2.2.2.1 1), .int (u.2.2.2.1 2), .int x3, .int (u.2.2.2.1 3), .int (u.2.2.2.1 4)])), (a1, .inr (9, [.ref a3, .int x6])), (a3, .inl (cB, 1600, .inl f0)), (a2, .inr (1, [.ref a4, .ref a5, .ref a6, .int x7, .int x8, .int x9, .int x10, .int x11, .int (u.2.2.2.1 5), .int x13]))])) (va_A [(a0, .inr (4, [.ref a1, .ref a2, .int x0, .int x1, .int x2, .int x3, .int x4, .int x5])), (a1, .inr (9, [.ref a3, .int x6])), (a3, .inl (cB, 1600, .inl f0)), (a2, .inr (1, [.ref a4, .ref a5, .ref a6, .int x7, .int x8, .int x9, .int x10, .int x11, .int x12, .int x13]))] sz)) 0 0 (va_A [(a0, .inr (4, [.ref a1, .ref a2, .int x0, .int x1, .int x2, .int x3, .int x4, .int x5])), (a1, .inr (9, [.ref a3, .int x6])), (a3, .inl (cB, 1600, .inl f0)), (a2, .inr (1, [.ref a4, .ref a5, .ref a6, .int x7, .int x8, .int x9, .int x10, .int x11, .int x12, .int x13]))] sz) := by
  refine gOf_z (by decide +kernel) (Nat.le_of_ble_eq_true rfl) ?_
  intro p e s m args below meth c ls A Q hx hb hts hown hml hN hK hP hD hA hl hret
  have hown : s.vm.findClass RX4 = some m.cls := hown
  have hS : va_S A s.heap s.heap [] := va_S.rf
  have hP : va_P D gcl [(a0, .inr (4, [.ref a1, .ref a2, .int x0, .int x1, .int x2, .int x3, .int x4, .int x5])), (a1, .inr (9, [.ref a3, .int x6])), (a3, .inl (cB, 1600, .inl f0)), (a2, .inr (1, [.ref a4, .ref a5, .ref a6, .int x7, .int x8, .int x9, .int x10, .int x11, .int x12, .int x13]))] s.heap := hP
  have hl : lv_has ls 1 [(0, .ref a0)] := hl
  have rx3 := n_rng x3
  have rx12 := n_rng x12
  have rx13 := n_rng x13
  refine lv_aload_n (pc := 0) hx hb dX4_readLimit_0 rfl (lv_at hl 0 rfl) ?_
  refine va_get (pc := 1) (ci := 4) (v := .ref a2) (C := RX4) (T := TX4) (N := 8) hx hb hts iX4 hown hK hP 0 rfl rfl 1 (by decide) (hts _ tw_169) (fun _ h9 => h9) rfl dX4_readLimit_1 ?_
  refine lv_aload_n (pc := 4) hx hb dX4_readLimit_4 rfl (lv_at hl 0 rfl) ?_
  refine lv_iconst (pc := 5) (v := 0) hx hb dX4_readLimit_5 (by decide) ?_
  refine lv_sipush (pc := 6) (v := 9999) hx hb dX4_readLimit_6 (by decide) ?_
  refine gc_i (pc := 9) (wc := [(a0, .inr (4, [.ref a1, .ref a2, .int x0, .int x1, .int x2, .int x3, .int x4, .int x5])), (a1, .inr (9, [.ref a3, .int x6])), (a3, .inl (cB, 1600, .inl f0))]) (wr := [(a2, .inr (1, [.ref a4, .ref a5, .ref a6, .int x7, .int x8, .int x9, .int x10, .int x11, .int x12, .int x13]))]) hP hD hS hA [0, 1, 2] [3] rfl rfl (by decide) (by decide) (by decide) (fun hPc hDc => va_runV (As := [.int 0, .int 9999]) (rest := [.ref a2]) ⟨hx, hb, hml, hown, hts⟩ (k_X4_readBetween l D cB cC cI cJ _ a0 a1 a2 a3 0 9999 x0 x1 x2 x3 x4 x5 x6 f0 (by have k0 := tI_0; have k1 := tI_9999; omega) (by have k0 := tI_0; have k1 := tI_9999; omega) (by have k0 := tI_0; have k1 := tI_9999; omega) (by have k0 := tI_0; have k1 := tI_9999; omega) (by have k0 := tI_0; have k1 := tI_9999; omega) (by have k0 := tI_0; have k1 := tI_9999; omega) (by have k0 := tI_0; have k1 := tI_9999; omega) (by have k0 := tI_0; have k1 := tI_9999; omega) (hg_sv) (by have k0 := tI_0; have k1 := tI_9999; omega)) ⟨gcwB hts tw_608 tw_2 tw_605 hd_yX4_readBetween ⟨Nat.le_of_ble_eq_true rfl, Nat.le_of_ble_eq_true rfl⟩, hts _ tw_607, hts _ tp_8⟩ ⟨gblind, va_recv hK hPc (ci := 4) (q0 := 0) rfl rfl, (gpreS hPc hK hDc hN).2⟩ rfl rfl hl.1 rfl (lv_room (Nat.le_of_ble_eq_true rfl)) dX4_readLimit_9 ⟨Nat.le_of_ble_eq_true rfl, Nat.le_of_ble_eq_true rfl⟩) (fun r_2 u_1 H locs hw_3 hP hD hS => ?_)
  have hP : va_P D gcl [(a2, .inr (1, [.ref a4, .ref a5, .ref a6, .int x7, .int x8, .int x9, .int x10, .int x11, .int x12, .int x13])), (a0, .inr (4, [.ref a1, .ref a2, .int (u_1.2.2.2.1 0), .int (u_1.2.2.2.1 1), .int (u_1.2.2.2.1 2), .int x3, .int (u_1.2.2.2.1 3), .int (u_1.2.2.2.1 4)])), (a1, .inr (9, [.ref a3, .int x6])), (a3, .inl (cB, 1600, .inl f0))] H := hP
  have hD : va_D A [(a2, .inr (1, [.ref a4, .ref a5, .ref a6, .int x7, .int x8, .int x9, .int x10, .int x11, .int x12, .int x13])), (a0, .inr (4, [.ref a1, .ref a2, .int (u_1.2.2.2.1 0), .int (u_1.2.2.2.1 1), .int (u_1.2.2.2.1 2), .int x3, .int (u_1.2.2.2.1 3), .int (u_1.2.2.2.1 4)])), (a1, .inr (9, [.ref a3, .int x6])), (a3, .inl (cB, 1600, .inl f0))] := hD
  obtain ⟨hw_4, hw_5, hw_6, hw_7, hw_8, hw_9, hw_10, hw_11, hw_12⟩ := hw_3
  have hw_4 : ((-1) ≤ r_2.toInt ∧ r_2.toInt ≤ 9999) := hw_4
  have hw_5 : (0 ≤ (u_1.2.2.2.1 0).toInt ∧ (u_1.2.2.2.1 0).toInt ≤ 1600) := hw_5
  have hw_6 : ((-1) ≤ (u_1.2.2.2.1 1).toInt ∧ (u_1.2.2.2.1 1).toInt ≤ 255) := hw_6
  have hw_7 : (0 ≤ (u_1.2.2.2.1 2).toInt ∧ (u_1.2.2.2.1 2).toInt ≤ 1600) := hw_7
  have hw_8 : (0 ≤ (u_1.2.2.2.1 3).toInt ∧ (u_1.2.2.2.1 3).toInt ≤ 4) := hw_8
  have hw_9 : ((-1) ≤ (u_1.2.2.2.1 4).toInt ∧ (u_1.2.2.2.1 4).toInt ≤ 1600) := hw_9
  have hw_10 : (-1 ≤ r_2.toInt ∧ r_2.toInt ≤ (9999 : Int32).toInt) := hw_10
  have hw_11 : (fnQ (btF (taub f0 x6.toInt) x0.toInt x1.toInt (0 : Int32).toInt (9999 : Int32).toInt) (taub f0 x6.toInt) r_2.toInt (-1) (u_1.2.2.2.1 0).toInt (u_1.2.2.2.1 1).toInt (u_1.2.2.2.1 3).toInt (u_1.2.2.2.1 4).toInt) := hw_11
  have hw_12 : (r_2.toInt = -1 ∨ ((u_1.2.2.2.1 3).toInt = 0 ∧ (u_1.2.2.2.1 4).toInt = -1)) := hw_12
  have kk0_r_2 := tI_0
  have kk1_r_2 := tI_9999
  have rr_2 := n_rng r_2
  refine va_putN (pc := 12) (ci := 1) (v := .int r_2) (ty := .int) (C := RX1) (T := TX1) (N := 10) hx hb hts iX1 tyX1 tyX1_ok nmX1 hown hK hP hD hS 0 rfl rfl 8 (by decide) (va_Nw.use rfl (hN _ tn_142)) (fun _ h9 => h9) rfl (by decide +kernel) rfl rfl (Nat.le_of_ble_eq_true rfl) dX4_readLimit_12 (fun H locs hP hD hS => ?_)
  have hP : va_P D gcl [(a2, .inr (1, [.ref a4, .ref a5, .ref a6, .int x7, .int x8, .int x9, .int x10, .int x11, .int r_2, .int x13])), (a0, .inr (4, [.ref a1, .ref a2, .int (u_1.2.2.2.1 0), .int (u_1.2.2.2.1 1), .int (u_1.2.2.2.1 2), .int x3, .int (u_1.2.2.2.1 3), .int (u_1.2.2.2.1 4)])), (a1, .inr (9, [.ref a3, .int x6])), (a3, .inl (cB, 1600, .inl f0))] H := hP
  have hD : va_D A [(a2, .inr (1, [.ref a4, .ref a5, .ref a6, .int x7, .int x8, .int x9, .int x10, .int x11, .int r_2, .int x13])), (a0, .inr (4, [.ref a1, .ref a2, .int (u_1.2.2.2.1 0), .int (u_1.2.2.2.1 1), .int (u_1.2.2.2.1 2), .int x3, .int (u_1.2.2.2.1 3), .int (u_1.2.2.2.1 4)])), (a1, .inr (9, [.ref a3, .int x6])), (a3, .inl (cB, 1600, .inl f0))] := hD
  refine lv_aload_n (pc := 15) hx hb dX4_readLimit_15 rfl (lv_at hl 0 rfl) ?_
  refine va_get (pc := 16) (ci := 4) (v := .ref a2) (C := RX4) (T := TX4) (N := 8) hx hb hts iX4 hown hK hP 1 rfl rfl 1 (by decide) (hts _ tw_169) (fun _ h9 => h9) rfl dX4_readLimit_16 ?_
  refine va_getN (pc := 19) (ci := 1) (v := .int r_2) (C := RX1) (T := TX1) (N := 10) hx hb hts iX1 hown hK hP 0 rfl rfl 8 (by decide) (va_Nw.use rfl (hN _ tn_142)) (fun _ h9 => h9) rfl dX4_readLimit_19 ?_
  refine lv_iconst (pc := 22) (v := (-1)) hx hb dX4_readLimit_22 (by decide) ?_
  refine b_icmp_eq (pc := 23) (tgt := 30) hx hb rfl tI_m1  dX4_readLimit_23 (by decide) (fun c_13 => ?_) (fun c_13 => ?_)
  ·
    refine lv_iconst (pc := 30) (v := 0) hx hb dX4_readLimit_30 (by decide) ?_
    have k9 := tI_0
    exact hret 0 ((fun _ => 0), (fun _ => (fun _ => 0)), (fun _ => (fun _ => 0)), (fun k => [(u_1.2.2.2.1 0), (u_1.2.2.2.1 1), (u_1.2.2.2.1 2), (u_1.2.2.2.1 3), (u_1.2.2.2.1 4), r_2].getD k 0), (fun _ => 0)) dX4_readLimit_31 ⟨(by have k9 := tI_0; omega), ⟨(show (0 ≤ (0 : Int32).toInt ∧ (0 : Int32).toInt ≤ 1) by have k9 := tI_0; omega), (show (0 ≤ ((u_1.2.2.2.1 0) : Int32).toInt ∧ ((u_1.2.2.2.1 0) : Int32).toInt ≤ 1600) by have k9 := tI_0; omega), (show ((-1) ≤ ((u_1.2.2.2.1 1) : Int32).toInt ∧ ((u_1.2.2.2.1 1) : Int32).toInt ≤ 255) by have k9 := tI_0; omega), (show (0 ≤ ((u_1.2.2.2.1 2) : Int32).toInt ∧ ((u_1.2.2.2.1 2) : Int32).toInt ≤ 1600) by have k9 := tI_0; omega), (show (0 ≤ ((u_1.2.2.2.1 3) : Int32).toInt ∧ ((u_1.2.2.2.1 3) : Int32).toInt ≤ 4) by have k9 := tI_0; omega), (show ((-1) ≤ ((u_1.2.2.2.1 4) : Int32).toInt ∧ ((u_1.2.2.2.1 4) : Int32).toInt ≤ 1600) by have k9 := tI_0; omega), (show boQ (limF (taub f0 x6.toInt) x0.toInt x1.toInt) (taub f0 x6.toInt) (0 : Int32).toInt (u_1.2.2.2.1 0).toInt (u_1.2.2.2.1 1).toInt (u_1.2.2.2.1 3).toInt (u_1.2.2.2.1 4).toInt from bo_bt hw_11 (by omega) (by omega) (by omega)), (show (u_1.2.2.2.1 3).toInt ≤ 4 - 4 * (0 : Int32).toInt ∧ (u_1.2.2.2.1 4).toInt ≤ 1600 - 1601 * (0 : Int32).toInt by have k9 := tI_0; omega)⟩⟩ (g_psub (wc := [(a0, .inr (4, [.ref a1, .ref a2, .int (u_1.2.2.2.1 0), .int (u_1.2.2.2.1 1), .int (u_1.2.2.2.1 2), .int x3, .int (u_1.2.2.2.1 3), .int (u_1.2.2.2.1 4)])), (a1, .inr (9, [.ref a3, .int x6])), (a3, .inl (cB, 1600, .inl f0)), (a2, .inr (1, [.ref a4, .ref a5, .ref a6, .int x7, .int x8, .int x9, .int x10, .int x11, .int r_2, .int x13]))]) hP [1, 2, 3, 0] rfl) (hD.sub (ws' := [(a0, .inr (4, [.ref a1, .ref a2, .int (u_1.2.2.2.1 0), .int (u_1.2.2.2.1 1), .int (u_1.2.2.2.1 2), .int x3, .int (u_1.2.2.2.1 3), .int (u_1.2.2.2.1 4)])), (a1, .inr (9, [.ref a3, .int x6])), (a3, .inl (cB, 1600, .inl f0)), (a2, .inr (1, [.ref a4, .ref a5, .ref a6, .int x7, .int x8, .int x9, .int x10, .int x11, .int r_2, .int x13]))]) [1, 2, 3, 0] (by decide) rfl) hS
  ·
    refine lv_iconst (pc := 26) (v := 1) hx hb dX4_readLimit_26 (by decide) ?_
    refine lv_goto (pc := 27) (tgt := 31) hx hb dX4_readLimit_27 (by decide) ?_
    have k9 := tI_1
    exact hret 1 ((fun _ => 0), (fun _ => (fun _ => 0)), (fun _ => (fun _ => 0)), (fun k => [(u_1.2.2.2.1 0), (u_1.2.2.2.1 1), (u_1.2.2.2.1 2), (u_1.2.2.2.1 3), (u_1.2.2.2.1 4), r_2].getD k 0), (fun _ => 0)) dX4_readLimit_31 ⟨(by have k9 := tI_1; omega), ⟨(show (0 ≤ (1 : Int32).toInt ∧ (1 : Int32).toInt ≤ 1) by have k9 := tI_1; omega), (show (0 ≤ ((u_1.2.2.2.1 0) : Int32).toInt ∧ ((u_1.2.2.2.1 0) : Int32).toInt ≤ 1600) by have k9 := tI_1; omega), (show ((-1) ≤ ((u_1.2.2.2.1 1) : Int32).toInt ∧ ((u_1.2.2.2.1 1) : Int32).toInt ≤ 255) by have k9 := tI_1; omega), (show (0 ≤ ((u_1.2.2.2.1 2) : Int32).toInt ∧ ((u_1.2.2.2.1 2) : Int32).toInt ≤ 1600) by have k9 := tI_1; omega), (show (0 ≤ ((u_1.2.2.2.1 3) : Int32).toInt ∧ ((u_1.2.2.2.1 3) : Int32).toInt ≤ 4) by have k9 := tI_1; omega), (show ((-1) ≤ ((u_1.2.2.2.1 4) : Int32).toInt ∧ ((u_1.2.2.2.1 4) : Int32).toInt ≤ 1600) by have k9 := tI_1; omega), (show boQ (limF (taub f0 x6.toInt) x0.toInt x1.toInt) (taub f0 x6.toInt) (1 : Int32).toInt (u_1.2.2.2.1 0).toInt (u_1.2.2.2.1 1).toInt (u_1.2.2.2.1 3).toInt (u_1.2.2.2.1 4).toInt from bo_bt hw_11 (by omega) (by omega) (by omega)), (show (u_1.2.2.2.1 3).toInt ≤ 4 - 4 * (1 : Int32).toInt ∧ (u_1.2.2.2.1 4).toInt ≤ 1600 - 1601 * (1 : Int32).toInt by have k9 := tI_1; omega)⟩⟩ (g_psub (wc := [(a0, .inr (4, [.ref a1, .ref a2, .int (u_1.2.2.2.1 0), .int (u_1.2.2.2.1 1), .int (u_1.2.2.2.1 2), .int x3, .int (u_1.2.2.2.1 3), .int (u_1.2.2.2.1 4)])), (a1, .inr (9, [.ref a3, .int x6])), (a3, .inl (cB, 1600, .inl f0)), (a2, .inr (1, [.ref a4, .ref a5, .ref a6, .int x7, .int x8, .int x9, .int x10, .int x11, .int r_2, .int x13]))]) hP [1, 2, 3, 0] rfl) (hD.sub (ws' := [(a0, .inr (4, [.ref a1, .ref a2, .int (u_1.2.2.2.1 0), .int (u_1.2.2.2.1 1), .int (u_1.2.2.2.1 2), .int x3, .int (u_1.2.2.2.1 3), .int (u_1.2.2.2.1 4)])), (a1, .inr (9, [.ref a3, .int x6])), (a3, .inl (cB, 1600, .inl f0)), (a2, .inr (1, [.ref a4, .ref a5, .ref a6, .int x7, .int x8, .int x9, .int x10, .int x11, .int r_2, .int x13]))]) [1, 2, 3, 0] (by decide) rfl) hS
set_option maxHeartbeats 4000000 in
set_option maxRecDepth 100000 in
theorem k_X4_hasRoom (l : Launch) (D : va_G) (cB cC cI cJ : ClassId) (sz : Nat) (a0 a1 a2 : Nat) (x0 x1 x2 x3 x4 x5 x6 x7 : Int32) (hp1 : (0 ≤ x0.toInt ∧ x0.toInt ≤ 16)) (hp2 : ((-1) ≤ x1.toInt ∧ x1.toInt ≤ 16)) (h_x2 : (0 ≤ x2.toInt ∧ x2.toInt ≤ 1600)) (h_x3 : ((-1) ≤ x3.toInt ∧ x3.toInt ≤ 255)) (h_x4 : (0 ≤ x4.toInt ∧ x4.toInt ≤ 1600)) (h_x6 : (0 ≤ x6.toInt ∧ x6.toInt ≤ 4)) (h_x7 : ((-1) ≤ x7.toInt ∧ x7.toInt ≤ 1600)) (hg__ff : x6.toInt = 0 ∧ x7.toInt = -1) : Met l yX4_hasRoom (.code yX4_hasRoom cX4_hasRoom 3 (some .boolean) :: lw_gd) ({ frames := 1, cells := 0, slots := 0, locals := 22 }) (gPre D [(cB, .byte), (cC, .char), (cI, .int), (cJ, .long)] [.ref a0, .int x0, .int x1] [(a0, .inr (4, [.ref a1, .ref a2, .int x2, .int x3, .int x4, .int x5, .int x6, .int x7]))] sz) (va_Qi (fun r u => (0 ≤ r.toInt ∧ r.toInt ≤ 1) ∧ (0 ≤ (u.2.2.2.1 0).toInt ∧ (u.2.2.2.1 0).toInt ≤ 4) ∧ ((-1) ≤ (u.2.2.2.1 1).toInt ∧ (u.2.2.2.1 1).toInt ≤ 1600) ∧ (x0.toInt + 1 + 100 * r.toInt ≤ x1.toInt + 100) ∧ ((r.toInt = 0 ∧ x1.toInt ≤ x0.toInt ∧ (u.2.2.2.1 0).toInt = 4 ∧ (u.2.2.2.1 1).toInt = x2.toInt) ∨ (r.toInt = 1 ∧ x0.toInt < x1.toInt)) ∧ ((u.2.2.2.1 0).toInt ≤ 4 - 4 * r.toInt ∧ (u.2.2.2.1 1).toInt ≤ 1600 - 1601 * r.toInt)) (gB D (va_A [(a0, .inr (4, [.ref a1, .ref a2, .int x2, .int x3, .int x4, .int x5, .int x6, .int x7]))] sz) (fun u : gEx => [(a0, .inr (4, [.ref a1, .ref a2, .int x2, .int x3, .int x4, .int x5, .int (u.2.2.2.1 0), .int (u.2.2.2.1 1)]))])) (va_A [(a0, .inr (4, [.ref a1, .ref a2, .int x2, .int x3, .int x4, .int x5, .int x6, .int x7]))] sz)) 0 0 (va_A [(a0, .inr (4, [.ref a1, .ref a2, .int x2, .int x3, .int x4, .int x5, .int x6, .int x7]))] sz) := by
  refine gOf_z (by decide +kernel) (Nat.le_of_ble_eq_true rfl) ?_
  intro p e s m args below meth c ls A Q hx hb hts hown hml hN hK hP hD hA hl hret
  have hown : s.vm.findClass RX4 = some m.cls := hown
  have hS : va_S A s.heap s.heap [] := va_S.rf
  have hP : va_P D gcl [(a0, .inr (4, [.ref a1, .ref a2, .int x2, .int x3, .int x4, .int x5, .int x6, .int x7]))] s.heap := hP
  have hl : lv_has ls 3 [(0, .ref a0), (1, .int x0), (2, .int x1)] := hl
  have rx5 := n_rng x5
  refine lv_iload_n (pc := 0) hx hb dX4_hasRoom_0 rfl (lv_at hl 1 rfl) ?_
  refine lv_iload_n (pc := 1) hx hb dX4_hasRoom_1 rfl (lv_at hl 2 rfl) ?_
  refine b_icmp_lt (pc := 2) (tgt := 17) hx hb rfl rfl  dX4_hasRoom_2 (by decide) (fun c_1 => ?_) (fun c_1 => ?_)
  ·
    refine lv_iconst (pc := 17) (v := 1) hx hb dX4_hasRoom_17 (by decide) ?_
    refine lv_goto (pc := 18) (tgt := 22) hx hb dX4_hasRoom_18 (by decide) ?_
    have k9 := tI_1
    exact hret 1 ((fun _ => 0), (fun _ => (fun _ => 0)), (fun _ => (fun _ => 0)), (fun k => [x6, x7].getD k 0), (fun _ => 0)) dX4_hasRoom_22 ⟨(by have k9 := tI_1; omega), ⟨(show (0 ≤ (1 : Int32).toInt ∧ (1 : Int32).toInt ≤ 1) by have k9 := tI_1; omega), (show (0 ≤ (x6 : Int32).toInt ∧ (x6 : Int32).toInt ≤ 4) by have k9 := tI_1; omega), (show ((-1) ≤ (x7 : Int32).toInt ∧ (x7 : Int32).toInt ≤ 1600) by have k9 := tI_1; omega), (show x0.toInt + 1 + 100 * (1 : Int32).toInt ≤ x1.toInt + 100 by have k9 := tI_1; omega), (show ((1 : Int32).toInt = 0 ∧ x1.toInt ≤ x0.toInt ∧ x6.toInt = 4 ∧ x7.toInt = x2.toInt) ∨ ((1 : Int32).toInt = 1 ∧ x0.toInt < x1.toInt) by have k9 := tI_1; omega), (show x6.toInt ≤ 4 - 4 * (1 : Int32).toInt ∧ x7.toInt ≤ 1600 - 1601 * (1 : Int32).toInt by have k9 := tI_1; omega)⟩⟩ (g_psub (wc := [(a0, .inr (4, [.ref a1, .ref a2, .int x2, .int x3, .int x4, .int x5, .int x6, .int x7]))]) hP [0] rfl) (hD.sub (ws' := [(a0, .inr (4, [.ref a1, .ref a2, .int x2, .int x3, .int x4, .int x5, .int x6, .int x7]))]) [0] (by decide) rfl) hS
  ·
    refine lv_aload_n (pc := 5) hx hb dX4_hasRoom_5 rfl (lv_at hl 0 rfl) ?_
    refine lv_iconst (pc := 6) (v := 4) hx hb dX4_hasRoom_6 (by decide) ?_
    refine lv_aload_n (pc := 7) hx hb dX4_hasRoom_7 rfl (lv_at hl 0 rfl) ?_
    refine va_get (pc := 8) (ci := 4) (v := .int x2) (C := RX4) (T := TX4) (N := 8) hx hb hts iX4 hown hK hP 0 rfl rfl 2 (by decide) (hts _ tw_170) (fun _ h9 => h9) rfl dX4_hasRoom_8 ?_
    refine gc_i (pc := 11) (wc := [(a0, .inr (4, [.ref a1, .ref a2, .int x2, .int x3, .int x4, .int x5, .int x6, .int x7]))]) (wr := []) hP hD hS hA [0] [] rfl rfl (by decide) (by decide) (by decide) (fun hPc hDc => va_runV (As := [.int 4, .int x2]) (rest := []) ⟨hx, hb, hml, hown, hts⟩ (k_X4_fail l D cB cC cI cJ _ a0 a1 a2 4 x2 x2 x3 x4 x5 x6 x7 (by have k0 := tI_4; omega) (by have k0 := tI_4; omega) (by have k0 := tI_4; omega) (by have k0 := tI_4; omega) (by have k0 := tI_4; omega) (by have k0 := tI_4; omega) (by have k0 := tI_4; omega)) ⟨gcwB hts tw_535 tw_2 tw_532 hd_yX4_fail ⟨Nat.le_of_ble_eq_true rfl, Nat.le_of_ble_eq_true rfl⟩, hts _ tw_534, hts _ tp_2⟩ ⟨gblind, va_recv hK hPc (ci := 4) (q0 := 0) rfl rfl, (gpreS hPc hK hDc hN).2⟩ rfl rfl hl.1 rfl (lv_room (Nat.le_of_ble_eq_true rfl)) dX4_hasRoom_11 ⟨Nat.le_of_ble_eq_true rfl, Nat.le_of_ble_eq_true rfl⟩) (fun r_3 u_2 H locs hw_4 hP hD hS => ?_)
    have hP : va_P D gcl [(a0, .inr (4, [.ref a1, .ref a2, .int x2, .int x3, .int x4, .int x5, .int 4, .int x2]))] H := hP
    have hD : va_D A [(a0, .inr (4, [.ref a1, .ref a2, .int x2, .int x3, .int x4, .int x5, .int 4, .int x2]))] := hD
    have hw_5 : ((r_3.toInt = 0)) := hw_4
    have kk0_r_3 := tI_4
    have rr_3 := n_rng r_3
    refine b_if_eq (pc := 14) (tgt := 21) hx hb rfl  dX4_hasRoom_14 (by decide) (fun c_6 => ?_) (fun c_6 => absurd c_6 (by omega))
    refine lv_iconst (pc := 21) (v := 0) hx hb dX4_hasRoom_21 (by decide) ?_
    have k9 := tI_0
    have k8_0 := tI_4
    exact hret 0 ((fun _ => 0), (fun _ => (fun _ => 0)), (fun _ => (fun _ => 0)), (fun k => [4, x2].getD k 0), (fun _ => 0)) dX4_hasRoom_22 ⟨(by have k9 := tI_0; have k8_0 := tI_4; omega), ⟨(show (0 ≤ (0 : Int32).toInt ∧ (0 : Int32).toInt ≤ 1) by have k9 := tI_0; have k8_0 := tI_4; omega), (show (0 ≤ (4 : Int32).toInt ∧ (4 : Int32).toInt ≤ 4) by have k9 := tI_0; have k8_0 := tI_4; omega), (show ((-1) ≤ (x2 : Int32).toInt ∧ (x2 : Int32).toInt ≤ 1600) by have k9 := tI_0; have k8_0 := tI_4; omega), (show x0.toInt + 1 + 100 * (0 : Int32).toInt ≤ x1.toInt + 100 by have k9 := tI_0; have k8_0 := tI_4; omega), (show ((0 : Int32).toInt = 0 ∧ x1.toInt ≤ x0.toInt ∧ (4 : Int32).toInt = 4 ∧ x2.toInt = x2.toInt) ∨ ((0 : Int32).toInt = 1 ∧ x0.toInt < x1.toInt) by have k9 := tI_0; have k8_0 := tI_4; omega), (show (4 : Int32).toInt ≤ 4 - 4 * (0 : Int32).toInt ∧ x2.toInt ≤ 1600 - 1601 * (0 : Int32).toInt by have k9 := tI_0; have k8_0 := tI_4; omega)⟩⟩ (g_psub (wc := [(a0, .inr (4, [.ref a1, .ref a2, .int x2, .int x3, .int x4, .int x5, .int 4, .int x2]))]) hP [0] rfl) (hD.sub (ws' := [(a0, .inr (4, [.ref a1, .ref a2, .int x2, .int x3, .int x4, .int x5, .int 4, .int x2]))]) [0] (by decide) rfl) hS
set_option maxHeartbeats 4000000 in
set_option maxRecDepth 100000 in
theorem k_X5_beginRule (l : Launch) (D : va_G) (cB cC cI cJ : ClassId) (sz : Nat) (a0 a1 a2 a3 a4 a5 : Nat) (x0 x1 : Int32) (f0 : Nat → Int32) (h_x0 : (0 ≤ x0.toInt ∧ x0.toInt ≤ 1600)) (h_x1 : (0 ≤ x1.toInt ∧ x1.toInt ≤ 8)) (hf_f0 : (∀ j, 0 ≤ (f0 j).toInt ∧ (f0 j).toInt ≤ 1600)) : Met l yX5_beginRule (.code yX5_beginRule cX5_beginRule 1 none :: lw_gd) ({ frames := 0, cells := 0, slots := 0, locals := 0 }) (gPre D [(cB, .byte), (cC, .char), (cI, .int), (cJ, .long)] [.ref a0] [(a0, .inr (5, [.ref a1, .ref a2, .ref a3, .ref a4, .ref a5, .int x0, .int x1])), (a2, .inl (cI, 8, .inl f0))] sz) (va_Qv (fun u => ((x1.toInt ≥ 8) ∨ (x1.toInt < 8)) ∧ (∀ j, 0 ≤ ((u.2.1 0) j).toInt ∧ ((u.2.1 0) j).toInt ≤ 1600)) (gB D (va_A [(a0, .inr (5, [.ref a1, .ref a2, .ref a3, .ref a4, .ref a5, .int x0, .int x1])), (a2, .inl (cI, 8, .inl f0))] sz) (fun u : gEx => [(a0, .inr (5, [.ref a1, .ref a2, .ref a3, .ref a4, .ref a5, .int x0, .int x1])), (a2, .inl (cI, 8, .inl (u.2.1 0)))])) (va_A [(a0, .inr (5, [.ref a1, .ref a2, .ref a3, .ref a4, .ref a5, .int x0, .int x1])), (a2, .inl (cI, 8, .inl f0))] sz)) 0 0 (va_A [(a0, .inr (5, [.ref a1, .ref a2, .ref a3, .ref a4, .ref a5, .int x0, .int x1])), (a2, .inl (cI, 8, .inl f0))] sz) := by
  refine gOf_v (by decide +kernel) (Nat.le_of_ble_eq_true rfl) ?_
  intro p e s m args below meth c ls A Q hx hb hts hown hml hN hK hP hD hA hl hret
  have hown : s.vm.findClass RX5 = some m.cls := hown
  have hS : va_S A s.heap s.heap [] := va_S.rf
  have hP : va_P D gcl [(a0, .inr (5, [.ref a1, .ref a2, .ref a3, .ref a4, .ref a5, .int x0, .int x1])), (a2, .inl (cI, 8, .inl f0))] s.heap := hP
  have hl : lv_has ls 1 [(0, .ref a0)] := hl
  refine lv_aload_n (pc := 0) hx hb dX5_beginRule_0 rfl (lv_at hl 0 rfl) ?_
  refine va_get (pc := 1) (ci := 5) (v := .int x1) (C := RX5) (T := TX5) (N := 7) hx hb hts iX5 hown hK hP 0 rfl rfl 6 (by decide) (hts _ tw_79) (fun _ h9 => h9) rfl dX5_beginRule_1 ?_
  refine lv_bipush (pc := 4) (v := 8) hx hb dX5_beginRule_4 (by decide) ?_
  refine b_icmp_ge (pc := 6) (tgt := 22) hx hb rfl tI_8  dX5_beginRule_6 (by decide) (fun c_1 => ?_) (fun c_1 => ?_)
  ·
    exact hret ((fun _ => 0), (fun k => [f0].getD k (fun _ => 0)), (fun _ => (fun _ => 0)), (fun _ => 0), (fun _ => 0)) dX5_beginRule_22 ⟨(show ((x1.toInt ≥ 8) ∨ (x1.toInt < 8)) by omega), hf_f0⟩ (g_psub (wc := [(a0, .inr (5, [.ref a1, .ref a2, .ref a3, .ref a4, .ref a5, .int x0, .int x1])), (a2, .inl (cI, 8, .inl f0))]) hP [0, 1] rfl) (hD.sub (ws' := [(a0, .inr (5, [.ref a1, .ref a2, .ref a3, .ref a4, .ref a5, .int x0, .int x1])), (a2, .inl (cI, 8, .inl f0))]) [0, 1] (by decide) rfl) hS
  ·
    refine lv_aload_n (pc := 9) hx hb dX5_beginRule_9 rfl (lv_at hl 0 rfl) ?_
    refine va_get (pc := 10) (ci := 5) (v := .ref a2) (C := RX5) (T := TX5) (N := 7) hx hb hts iX5 hown hK hP 0 rfl rfl 1 (by decide) (hts _ tw_74) (fun _ h9 => h9) rfl dX5_beginRule_10 ?_
    refine lv_aload_n (pc := 13) hx hb dX5_beginRule_13 rfl (lv_at hl 0 rfl) ?_
    refine va_get (pc := 14) (ci := 5) (v := .int x1) (C := RX5) (T := TX5) (N := 7) hx hb hts iX5 hown hK hP 0 rfl rfl 6 (by decide) (hts _ tw_79) (fun _ h9 => h9) rfl dX5_beginRule_14 ?_
    refine lv_aload_n (pc := 17) hx hb dX5_beginRule_17 rfl (lv_at hl 0 rfl) ?_
    refine va_get (pc := 18) (ci := 5) (v := .int x0) (C := RX5) (T := TX5) (N := 7) hx hb hts iX5 hown hK hP 0 rfl rfl 5 (by decide) (hts _ tw_78) (fun _ h9 => h9) rfl dX5_beginRule_18 ?_
    refine h_iastore (pc := 21) hx hb hK hP hD hS 1 2 rfl rfl (n_in rfl (by omega) (by omega)) dX5_beginRule_21 hf_f0 (by omega) (by omega) (fun f_2 hf_2 H locs hP hD hS => ?_)
    have hP : va_P D gcl [(a0, .inr (5, [.ref a1, .ref a2, .ref a3, .ref a4, .ref a5, .int x0, .int x1])), (a2, .inl (cI, 8, .inl f_2))] H := hP
    have hD : va_D A [(a0, .inr (5, [.ref a1, .ref a2, .ref a3, .ref a4, .ref a5, .int x0, .int x1])), (a2, .inl (cI, 8, .inl f_2))] := hD
    exact hret ((fun _ => 0), (fun k => [f_2].getD k (fun _ => 0)), (fun _ => (fun _ => 0)), (fun _ => 0), (fun _ => 0)) dX5_beginRule_22 ⟨(show ((x1.toInt ≥ 8) ∨ (x1.toInt < 8)) by omega), hf_2⟩ (g_psub (wc := [(a0, .inr (5, [.ref a1, .ref a2, .ref a3, .ref a4, .ref a5, .int x0, .int x1])), (a2, .inl (cI, 8, .inl f_2))]) hP [0, 1] rfl) (hD.sub (ws' := [(a0, .inr (5, [.ref a1, .ref a2, .ref a3, .ref a4, .ref a5, .int x0, .int x1])), (a2, .inl (cI, 8, .inl f_2))]) [0, 1] (by decide) rfl) hS
set_option maxHeartbeats 4000000 in
set_option maxRecDepth 100000 in
theorem k_X5_add (l : Launch) (D : va_G) (cB cC cI cJ : ClassId) (sz : Nat) (a0 a1 a2 a3 a4 a5 : Nat) (x0 x1 x2 : Int32) (f0 : Nat → Int32) (h_x1 : (0 ≤ x1.toInt ∧ x1.toInt ≤ 1600)) (h_x2 : (0 ≤ x2.toInt ∧ x2.toInt ≤ 8)) : Met l yX5_add (.code yX5_add cX5_add 2 none :: lw_gd) ({ frames := 0, cells := 0, slots := 0, locals := 0 }) (gPre D [(cB, .byte), (cC, .char), (cI, .int), (cJ, .long)] [.ref a0, .int x0] [(a0, .inr (5, [.ref a1, .ref a2, .ref a3, .ref a4, .ref a5, .int x1, .int x2])), (a1, .inl (cI, 1600, .inl f0))] sz) (va_Qv (fun u => ((x1.toInt ≥ 1600 ∧ (u.2.2.2.1 0).toInt = x1.toInt) ∨ (x1.toInt < 1600 ∧ (u.2.2.2.1 0).toInt = (x1.toInt) + (1))) ∧ (0 ≤ (u.2.2.2.1 0).toInt ∧ (u.2.2.2.1 0).toInt ≤ 1600)) (gB D (va_A [(a0, .inr (5, [.ref a1, .ref a2, .ref a3, .ref a4, .ref a5, .int x1, .int x2])), (a1, .inl (cI, 1600, .inl f0))] sz) (fun u : gEx => [(a0, .inr (5, [.ref a1, .ref a2, .ref a3, .ref a4, .ref a5, .int (u.2.2.2.1 0), .int x2])), (a1, .inl (cI, 1600, .inl (u.2.1 0)))])) (va_A [(a0, .inr (5, [.ref a1, .ref a2, .ref a3, .ref a4, .ref a5, .int x1, .int x2])), (a1, .inl (cI, 1600, .inl f0))] sz)) 0 0 (va_A [(a0, .inr (5, [.ref a1, .ref a2, .ref a3, .ref a4, .ref a5, .int x1, .int x2])), (a1, .inl (cI, 1600, .inl f0))] sz) := by
  refine gOf_v (by decide +kernel) (Nat.le_of_ble_eq_true rfl) ?_
  intro p e s m args below meth c ls A Q hx hb hts hown hml hN hK hP hD hA hl hret
  have hown : s.vm.findClass RX5 = some m.cls := hown
  have hS : va_S A s.heap s.heap [] := va_S.rf
  have hP : va_P D gcl [(a0, .inr (5, [.ref a1, .ref a2, .ref a3, .ref a4, .ref a5, .int x1, .int x2])), (a1, .inl (cI, 1600, .inl f0))] s.heap := hP
  have hl : lv_has ls 2 [(0, .ref a0), (1, .int x0)] := hl
  have rx0 := n_rng x0
  refine lv_aload_n (pc := 0) hx hb dX5_add_0 rfl (lv_at hl 0 rfl) ?_
  refine va_get (pc := 1) (ci := 5) (v := .int x1) (C := RX5) (T := TX5) (N := 7) hx hb hts iX5 hown hK hP 0 rfl rfl 5 (by decide) (hts _ tw_78) (fun _ h9 => h9) rfl dX5_add_1 ?_
  refine lv_aload_n (pc := 4) hx hb dX5_add_4 rfl (lv_at hl 0 rfl) ?_
  refine va_get (pc := 5) (ci := 5) (v := .ref a1) (C := RX5) (T := TX5) (N := 7) hx hb hts iX5 hown hK hP 0 rfl rfl 0 (by decide) (hts _ tw_73) (fun _ h9 => h9) rfl dX5_add_5 ?_
  refine va_alen (pc := 8) (v := 1600) hx hb hK hP 1 2 rfl rfl rfl dX5_add_8 ?_
  refine b_icmp_ge (pc := 9) (tgt := 32) hx hb rfl tI_1600  dX5_add_9 (by decide) (fun c_1 => ?_) (fun c_1 => ?_)
  ·
    exact hret ((fun _ => 0), (fun k => [f0].getD k (fun _ => 0)), (fun _ => (fun _ => 0)), (fun k => [x1].getD k 0), (fun _ => 0)) dX5_add_32 ⟨(show ((x1.toInt ≥ 1600 ∧ (x1 : Int32).toInt = x1.toInt) ∨ (x1.toInt < 1600 ∧ (x1 : Int32).toInt = (x1.toInt) + (1))) by omega), (show (0 ≤ (x1 : Int32).toInt ∧ (x1 : Int32).toInt ≤ 1600) by omega)⟩ (g_psub (wc := [(a0, .inr (5, [.ref a1, .ref a2, .ref a3, .ref a4, .ref a5, .int x1, .int x2])), (a1, .inl (cI, 1600, .inl f0))]) hP [0, 1] rfl) (hD.sub (ws' := [(a0, .inr (5, [.ref a1, .ref a2, .ref a3, .ref a4, .ref a5, .int x1, .int x2])), (a1, .inl (cI, 1600, .inl f0))]) [0, 1] (by decide) rfl) hS
  ·
    refine lv_aload_n (pc := 12) hx hb dX5_add_12 rfl (lv_at hl 0 rfl) ?_
    refine va_get (pc := 13) (ci := 5) (v := .ref a1) (C := RX5) (T := TX5) (N := 7) hx hb hts iX5 hown hK hP 0 rfl rfl 0 (by decide) (hts _ tw_73) (fun _ h9 => h9) rfl dX5_add_13 ?_
    refine lv_aload_n (pc := 16) hx hb dX5_add_16 rfl (lv_at hl 0 rfl) ?_
    refine va_get (pc := 17) (ci := 5) (v := .int x1) (C := RX5) (T := TX5) (N := 7) hx hb hts iX5 hown hK hP 0 rfl rfl 5 (by decide) (hts _ tw_78) (fun _ h9 => h9) rfl dX5_add_17 ?_
    refine lv_iload_n (pc := 20) hx hb dX5_add_20 rfl (lv_at hl 1 rfl) ?_
    refine g_iastore (pc := 21) hx hb hK hP hD hS 1 2 rfl rfl (n_in rfl (by omega) (by omega)) dX5_add_21 (fun f_2 H locs hP hD hS => ?_)
    have hP : va_P D gcl [(a0, .inr (5, [.ref a1, .ref a2, .ref a3, .ref a4, .ref a5, .int x1, .int x2])), (a1, .inl (cI, 1600, .inl f_2))] H := hP
    have hD : va_D A [(a0, .inr (5, [.ref a1, .ref a2, .ref a3, .ref a4, .ref a5, .int x1, .int x2])), (a1, .inl (cI, 1600, .inl f_2))] := hD
    refine lv_aload_n (pc := 22) hx hb dX5_add_22 rfl (lv_at hl 0 rfl) ?_
    refine lv_dup (pc := 23) hx hb dX5_add_23 rfl ?_
    refine va_get (pc := 24) (ci := 5) (v := .int x1) (C := RX5) (T := TX5) (N := 7) hx hb hts iX5 hown hK hP 0 rfl rfl 5 (by decide) (hts _ tw_78) (fun _ h9 => h9) rfl dX5_add_24 ?_
    refine lv_iconst (pc := 27) (v := 1) hx hb dX5_add_27 (by decide) ?_
    refine b_iadd (pc := 28) hx hb rfl tI_1 (by omega) (by omega) dX5_add_28 (fun x_3 ex_3 => ?_)
    refine va_put (pc := 29) (ci := 5) (v := .int x_3) (ty := .int) (C := RX5) (T := TX5) (N := 7) hx hb hts iX5 tyX5 tyX5_ok nmX5 hown hK hP hD hS 0 rfl rfl 5 (by decide) (hts _ tw_78) (fun _ h9 => h9) rfl (by decide +kernel) rfl rfl (Nat.le_of_ble_eq_true rfl) dX5_add_29 (fun H locs hP hD hS => ?_)
    have hP : va_P D gcl [(a0, .inr (5, [.ref a1, .ref a2, .ref a3, .ref a4, .ref a5, .int x_3, .int x2])), (a1, .inl (cI, 1600, .inl f_2))] H := hP
    have hD : va_D A [(a0, .inr (5, [.ref a1, .ref a2, .ref a3, .ref a4, .ref a5, .int x_3, .int x2])), (a1, .inl (cI, 1600, .inl f_2))] := hD
    exact hret ((fun _ => 0), (fun k => [f_2].getD k (fun _ => 0)), (fun _ => (fun _ => 0)), (fun k => [x_3].getD k 0), (fun _ => 0)) dX5_add_32 ⟨(show ((x1.toInt ≥ 1600 ∧ (x_3 : Int32).toInt = x1.toInt) ∨ (x1.toInt < 1600 ∧ (x_3 : Int32).toInt = (x1.toInt) + (1))) by omega), (show (0 ≤ (x_3 : Int32).toInt ∧ (x_3 : Int32).toInt ≤ 1600) by omega)⟩ (g_psub (wc := [(a0, .inr (5, [.ref a1, .ref a2, .ref a3, .ref a4, .ref a5, .int x_3, .int x2])), (a1, .inl (cI, 1600, .inl f_2))]) hP [0, 1] rfl) (hD.sub (ws' := [(a0, .inr (5, [.ref a1, .ref a2, .ref a3, .ref a4, .ref a5, .int x_3, .int x2])), (a1, .inl (cI, 1600, .inl f_2))]) [0, 1] (by decide) rfl) hS
set_option maxHeartbeats 4000000 in
set_option maxRecDepth 100000 in
theorem k_X4_adds (l : Launch) (D : va_G) (cB cC cI cJ : ClassId) (sz : Nat) (a0 a1 a2 a3 a4 a5 a6 a7 a8 a9 a10 : Nat) (x0 x1 x2 x3 x4 x5 x6 x7 x8 x9 x10 x11 x12 x13 x14 x15 : Int32) (f0 : Nat → Int32) (h_x1 : (0 ≤ x1.toInt ∧ x1.toInt ≤ 1600)) (h_x2 : ((-1) ≤ x2.toInt ∧ x2.toInt ≤ 255)) (h_x3 : (0 ≤ x3.toInt ∧ x3.toInt ≤ 1600)) (h_x5 : (0 ≤ x5.toInt ∧ x5.toInt ≤ 4)) (h_x6 : ((-1) ≤ x6.toInt ∧ x6.toInt ≤ 1600)) (h_x7 : ((-1) ≤ x7.toInt ∧ x7.toInt ≤ 8)) (h_x8 : ((-1) ≤ x8.toInt ∧ x8.toInt ≤ 5)) (h_x9 : ((-1) ≤ x9.toInt ∧ x9.toInt ≤ 6)) (h_x10 : (0 ≤ x10.toInt ∧ x10.toInt ≤ 6)) (h_x11 : (0 ≤ x11.toInt ∧ x11.toInt ≤ 16)) (h_x14 : (0 ≤ x14.toInt ∧ x14.toInt ≤ 1600)) (h_x15 : (0 ≤ x15.toInt ∧ x15.toInt ≤ 8)) : Met l yX4_adds (.code yX4_adds cX4_adds 2 (some .boolean) :: lw_gd) ({ frames := 1, cells := 0, slots := 0, locals := 21 }) (gPre D [(cB, .byte), (cC, .char), (cI, .int), (cJ, .long)] [.ref a0, .int x0] [(a0, .inr (4, [.ref a1, .ref a2, .int x1, .int x2, .int x3, .int x4, .int x5, .int x6])), (a2, .inr (1, [.ref a3, .ref a4, .ref a5, .int x7, .int x8, .int x9, .int x10, .int x11, .int x12, .int x13])), (a4, .inr (5, [.ref a6, .ref a7, .ref a8, .ref a9, .ref a10, .int x14, .int x15])), (a6, .inl (cI, 1600, .inl f0))] sz) (va_Qi (fun r u => ((r.toInt = 1)) ∧ (0 ≤ (u.2.2.2.1 0).toInt ∧ (u.2.2.2.1 0).toInt ≤ 1600)) (gB D (va_A [(a0, .inr (4, [.ref a1, .ref a2, .int x1, .int x2, .int x3, .int x4, .int x5, .int x6])), (a2, .inr (1, [.ref a3, .ref a4, .ref a5, .int x7, .int x8, .int x9, .int x10, .int x11, .int x12, .int x13])), (a4, .inr (5, [.ref a6, .ref a7, .ref a8, .ref a9, .ref a10, .int x14, .int x15])), (a6, .inl (cI, 1600, .inl f0))] sz) (fun u : gEx => [(a0, .inr (4, [.ref a1, .ref a2, .int x1, .int x2, .int x3, .int x4, .int x5, .int x6])), (a2, .inr (1, [.ref a3, .ref a4, .ref a5, .int x7, .int x8, .int x9, .int x10, .int x11, .int x12, .int x13])), (a4, .inr (5, [.ref a6, .ref a7, .ref a8, .ref a9, .ref a10, .int (u.2.2.2.1 0), .int x15])), (a6, .inl (cI, 1600, .inl (u.2.1 0)))])) (va_A [(a0, .inr (4, [.ref a1, .ref a2, .int x1, .int x2, .int x3, .int x4, .int x5, .int x6])), (a2, .inr (1, [.ref a3, .ref a4, .ref a5, .int x7, .int x8, .int x9, .int x10, .int x11, .int x12, .int x13])), (a4, .inr (5, [.ref a6, .ref a7, .ref a8, .ref a9, .ref a10, .int x14, .int x15])), (a6, .inl (cI, 1600, .inl f0))] sz)) 0 0 (va_A [(a0, .inr (4, [.ref a1, .ref a2, .int x1, .int x2, .int x3, .int x4, .int x5, .int x6])), (a2, .inr (1, [.ref a3, .ref a4, .ref a5, .int x7, .int x8, .int x9, .int x10, .int x11, .int x12, .int x13])), (a4, .inr (5, [.ref a6, .ref a7, .ref a8, .ref a9, .ref a10, .int x14, .int x15])), (a6, .inl (cI, 1600, .inl f0))] sz) := by
  refine gOf_z (by decide +kernel) (Nat.le_of_ble_eq_true rfl) ?_
  intro p e s m args below meth c ls A Q hx hb hts hown hml hN hK hP hD hA hl hret
  have hown : s.vm.findClass RX4 = some m.cls := hown
  have hS : va_S A s.heap s.heap [] := va_S.rf
  have hP : va_P D gcl [(a0, .inr (4, [.ref a1, .ref a2, .int x1, .int x2, .int x3, .int x4, .int x5, .int x6])), (a2, .inr (1, [.ref a3, .ref a4, .ref a5, .int x7, .int x8, .int x9, .int x10, .int x11, .int x12, .int x13])), (a4, .inr (5, [.ref a6, .ref a7, .ref a8, .ref a9, .ref a10, .int x14, .int x15])), (a6, .inl (cI, 1600, .inl f0))] s.heap := hP
  have hl : lv_has ls 2 [(0, .ref a0), (1, .int x0)] := hl
  have rx0 := n_rng x0
  have rx4 := n_rng x4
  have rx12 := n_rng x12
  have rx13 := n_rng x13
  refine lv_aload_n (pc := 0) hx hb dX4_adds_0 rfl (lv_at hl 0 rfl) ?_
  refine va_get (pc := 1) (ci := 4) (v := .ref a2) (C := RX4) (T := TX4) (N := 8) hx hb hts iX4 hown hK hP 0 rfl rfl 1 (by decide) (hts _ tw_169) (fun _ h9 => h9) rfl dX4_adds_1 ?_
  refine va_getN (pc := 4) (ci := 1) (v := .ref a4) (C := RX1) (T := TX1) (N := 10) hx hb hts iX1 hown hK hP 1 rfl rfl 1 (by decide) (va_Nw.use rfl (hN _ tn_107)) (fun _ h9 => h9) rfl dX4_adds_4 ?_
  refine lv_iload_n (pc := 7) hx hb dX4_adds_7 rfl (lv_at hl 1 rfl) ?_
  refine gc_v (pc := 8) (wc := [(a4, .inr (5, [.ref a6, .ref a7, .ref a8, .ref a9, .ref a10, .int x14, .int x15])), (a6, .inl (cI, 1600, .inl f0))]) (wr := [(a0, .inr (4, [.ref a1, .ref a2, .int x1, .int x2, .int x3, .int x4, .int x5, .int x6])), (a2, .inr (1, [.ref a3, .ref a4, .ref a5, .int x7, .int x8, .int x9, .int x10, .int x11, .int x12, .int x13]))]) hP hD hS hA [2, 3] [0, 1] rfl rfl (by decide) (by decide) (by decide) (fun hPc hDc => va_runV (As := [.int x0]) (rest := []) ⟨hx, hb, hml, hown, hts⟩ (k_X5_add l D cB cC cI cJ _ a4 a6 a7 a8 a9 a10 x0 x14 x15 f0 (by  omega) (by  omega)) ⟨gcwB hts tw_688 tw_6 tw_685 hd_yX5_add ⟨Nat.le_of_ble_eq_true rfl, Nat.le_of_ble_eq_true rfl⟩, hts _ tw_686, hts _ tw_687⟩ ⟨gblind, va_recv hK hPc (ci := 5) (q0 := 0) rfl rfl, (gpreS hPc hK hDc hN).2⟩ rfl rfl hl.1 rfl (lv_room (Nat.le_of_ble_eq_true rfl)) dX4_adds_8 ⟨Nat.le_of_ble_eq_true rfl, Nat.le_of_ble_eq_true rfl⟩) (fun u_1 H locs hw_3 hP hD hS => ?_)
  have hP : va_P D gcl [(a0, .inr (4, [.ref a1, .ref a2, .int x1, .int x2, .int x3, .int x4, .int x5, .int x6])), (a2, .inr (1, [.ref a3, .ref a4, .ref a5, .int x7, .int x8, .int x9, .int x10, .int x11, .int x12, .int x13])), (a4, .inr (5, [.ref a6, .ref a7, .ref a8, .ref a9, .ref a10, .int (u_1.2.2.2.1 0), .int x15])), (a6, .inl (cI, 1600, .inl (u_1.2.1 0)))] H := hP
  have hD : va_D A [(a0, .inr (4, [.ref a1, .ref a2, .int x1, .int x2, .int x3, .int x4, .int x5, .int x6])), (a2, .inr (1, [.ref a3, .ref a4, .ref a5, .int x7, .int x8, .int x9, .int x10, .int x11, .int x12, .int x13])), (a4, .inr (5, [.ref a6, .ref a7, .ref a8, .ref a9, .ref a10, .int (u_1.2.2.2.1 0), .int x15])), (a6, .inl (cI, 1600, .inl (u_1.2.1 0)))] := hD
  obtain ⟨hw_4, hw_5⟩ := hw_3
  have hw_4 : ((x14.toInt ≥ 1600 ∧ (u_1.2.2.2.1 0).toInt = x14.toInt) ∨ (x14.toInt < 1600 ∧ (u_1.2.2.2.1 0).toInt = (x14.toInt) + (1))) := hw_4
  have hw_5 : (0 ≤ (u_1.2.2.2.1 0).toInt ∧ (u_1.2.2.2.1 0).toInt ≤ 1600) := hw_5
  refine lv_iconst (pc := 11) (v := 1) hx hb dX4_adds_11 (by decide) ?_
  exact hret 1 ((fun _ => 0), (fun k => [(u_1.2.1 0)].getD k (fun _ => 0)), (fun _ => (fun _ => 0)), (fun k => [(u_1.2.2.2.1 0)].getD k 0), (fun _ => 0)) dX4_adds_12 ⟨(by have k9 := tI_1; omega), ⟨(show (((1 : Int32).toInt = 1)) by have k9 := tI_1; omega), (show (0 ≤ ((u_1.2.2.2.1 0) : Int32).toInt ∧ ((u_1.2.2.2.1 0) : Int32).toInt ≤ 1600) by have k9 := tI_1; omega)⟩⟩ (g_psub (wc := [(a0, .inr (4, [.ref a1, .ref a2, .int x1, .int x2, .int x3, .int x4, .int x5, .int x6])), (a2, .inr (1, [.ref a3, .ref a4, .ref a5, .int x7, .int x8, .int x9, .int x10, .int x11, .int x12, .int x13])), (a4, .inr (5, [.ref a6, .ref a7, .ref a8, .ref a9, .ref a10, .int (u_1.2.2.2.1 0), .int x15])), (a6, .inl (cI, 1600, .inl (u_1.2.1 0)))]) hP [0, 1, 2, 3] rfl) (hD.sub (ws' := [(a0, .inr (4, [.ref a1, .ref a2, .int x1, .int x2, .int x3, .int x4, .int x5, .int x6])), (a2, .inr (1, [.ref a3, .ref a4, .ref a5, .int x7, .int x8, .int x9, .int x10, .int x11, .int x12, .int x13])), (a4, .inr (5, [.ref a6, .ref a7, .ref a8, .ref a9, .ref a10, .int (u_1.2.2.2.1 0), .int x15])), (a6, .inl (cI, 1600, .inl (u_1.2.1 0)))]) [0, 1, 2, 3] (by decide) rfl) hS
set_option maxHeartbeats 4000000 in
set_option maxRecDepth 100000 in
theorem k_X4_opens_0 (l : Launch) (D : va_G) (cB cC cI cJ : ClassId) (sz : Nat) (a0 a1 a2 : Nat) (x0 x1 x2 x3 x4 x5 : Int32) (h_x0 : (0 ≤ x0.toInt ∧ x0.toInt ≤ 1600)) (h_x1 : ((-1) ≤ x1.toInt ∧ x1.toInt ≤ 255)) (h_x2 : (0 ≤ x2.toInt ∧ x2.toInt ≤ 1600)) (h_x3 : (0 ≤ x3.toInt ∧ x3.toInt ≤ 0)) (h_x4 : (0 ≤ x4.toInt ∧ x4.toInt ≤ 4)) (h_x5 : ((-1) ≤ x5.toInt ∧ x5.toInt ≤ 1600)) : Met l yX4_opens (.code yX4_opens cX4_opens 1 (some .boolean) :: lw_gd) ({ frames := 0, cells := 0, slots := 0, locals := 0 }) (gPre D [(cB, .byte), (cC, .char), (cI, .int), (cJ, .long)] [.ref a0] [(a0, .inr (4, [.ref a1, .ref a2, .int x0, .int x1, .int x2, .int x3, .int x4, .int x5]))] sz) (va_Qi (fun r u => ((r.toInt = 1 ∧ x3.toInt < 6 ∧ (u.2.2.2.1 0).toInt = (x3.toInt) + (1)))) (gB D (va_A [(a0, .inr (4, [.ref a1, .ref a2, .int x0, .int x1, .int x2, .int x3, .int x4, .int x5]))] sz) (fun u : gEx => [(a0, .inr (4, [.ref a1, .ref a2, .int x0, .int x1, .int x2, .int (u.2.2.2.1 0), .int x4, .int x5]))])) (va_A [(a0, .inr (4, [.ref a1, .ref a2, .int x0, .int x1, .int x2, .int x3, .int x4, .int x5]))] sz)) 0 0 (va_A [(a0, .inr (4, [.ref a1, .ref a2, .int x0, .int x1, .int x2, .int x3, .int x4, .int x5]))] sz) := by
  refine gOf_z (by decide +kernel) (Nat.le_of_ble_eq_true rfl) ?_
  intro p e s m args below meth c ls A Q hx hb hts hown hml hN hK hP hD hA hl hret
  have hown : s.vm.findClass RX4 = some m.cls := hown
  have hS : va_S A s.heap s.heap [] := va_S.rf
  have hP : va_P D gcl [(a0, .inr (4, [.ref a1, .ref a2, .int x0, .int x1, .int x2, .int x3, .int x4, .int x5]))] s.heap := hP
  have hl : lv_has ls 1 [(0, .ref a0)] := hl
  refine lv_aload_n (pc := 0) hx hb dX4_opens_0 rfl (lv_at hl 0 rfl) ?_
  refine va_get (pc := 1) (ci := 4) (v := .int x3) (C := RX4) (T := TX4) (N := 8) hx hb hts iX4 hown hK hP 0 rfl rfl 5 (by decide) (hts _ tw_173) (fun _ h9 => h9) rfl dX4_opens_1 ?_
  refine lv_bipush (pc := 4) (v := 6) hx hb dX4_opens_4 (by decide) ?_
  refine b_icmp_lt (pc := 6) (tgt := 19) hx hb rfl tI_6  dX4_opens_6 (by decide) (fun c_1 => ?_) (fun c_1 => absurd c_1 (by omega))
  refine lv_aload_n (pc := 19) hx hb dX4_opens_19 rfl (lv_at hl 0 rfl) ?_
  refine lv_dup (pc := 20) hx hb dX4_opens_20 rfl ?_
  refine va_get (pc := 21) (ci := 4) (v := .int x3) (C := RX4) (T := TX4) (N := 8) hx hb hts iX4 hown hK hP 0 rfl rfl 5 (by decide) (hts _ tw_173) (fun _ h9 => h9) rfl dX4_opens_21 ?_
  refine lv_iconst (pc := 24) (v := 1) hx hb dX4_opens_24 (by decide) ?_
  refine b_iadd (pc := 25) hx hb rfl tI_1 (by omega) (by omega) dX4_opens_25 (fun x_2 ex_2 => ?_)
  refine va_put (pc := 26) (ci := 4) (v := .int x_2) (ty := .int) (C := RX4) (T := TX4) (N := 8) hx hb hts iX4 tyX4 tyX4_ok nmX4 hown hK hP hD hS 0 rfl rfl 5 (by decide) (hts _ tw_173) (fun _ h9 => h9) rfl (by decide +kernel) rfl rfl (Nat.le_of_ble_eq_true rfl) dX4_opens_26 (fun H locs hP hD hS => ?_)
  have hP : va_P D gcl [(a0, .inr (4, [.ref a1, .ref a2, .int x0, .int x1, .int x2, .int x_2, .int x4, .int x5]))] H := hP
  have hD : va_D A [(a0, .inr (4, [.ref a1, .ref a2, .int x0, .int x1, .int x2, .int x_2, .int x4, .int x5]))] := hD
  refine lv_iconst (pc := 29) (v := 1) hx hb dX4_opens_29 (by decide) ?_
  exact hret 1 ((fun _ => 0), (fun _ => (fun _ => 0)), (fun _ => (fun _ => 0)), (fun k => [x_2].getD k 0), (fun _ => 0)) dX4_opens_30 ⟨(by have k9 := tI_1; omega), (show (((1 : Int32).toInt = 1 ∧ x3.toInt < 6 ∧ (x_2 : Int32).toInt = (x3.toInt) + (1))) by have k9 := tI_1; omega)⟩ (g_psub (wc := [(a0, .inr (4, [.ref a1, .ref a2, .int x0, .int x1, .int x2, .int x_2, .int x4, .int x5]))]) hP [0] rfl) (hD.sub (ws' := [(a0, .inr (4, [.ref a1, .ref a2, .int x0, .int x1, .int x2, .int x_2, .int x4, .int x5]))]) [0] (by decide) rfl) hS
set_option maxHeartbeats 4000000 in
set_option maxRecDepth 100000 in
theorem k_X4_opens_1 (l : Launch) (D : va_G) (cB cC cI cJ : ClassId) (sz : Nat) (a0 a1 a2 : Nat) (x0 x1 x2 x3 x4 x5 : Int32) (h_x0 : (0 ≤ x0.toInt ∧ x0.toInt ≤ 1600)) (h_x1 : ((-1) ≤ x1.toInt ∧ x1.toInt ≤ 255)) (h_x2 : (0 ≤ x2.toInt ∧ x2.toInt ≤ 1600)) (h_x3 : (1 ≤ x3.toInt ∧ x3.toInt ≤ 1)) (h_x4 : (0 ≤ x4.toInt ∧ x4.toInt ≤ 4)) (h_x5 : ((-1) ≤ x5.toInt ∧ x5.toInt ≤ 1600)) : Met l yX4_opens (.code yX4_opens cX4_opens 1 (some .boolean) :: lw_gd) ({ frames := 0, cells := 0, slots := 0, locals := 0 }) (gPre D [(cB, .byte), (cC, .char), (cI, .int), (cJ, .long)] [.ref a0] [(a0, .inr (4, [.ref a1, .ref a2, .int x0, .int x1, .int x2, .int x3, .int x4, .int x5]))] sz) (va_Qi (fun r u => ((r.toInt = 1 ∧ x3.toInt < 6 ∧ (u.2.2.2.1 0).toInt = (x3.toInt) + (1)))) (gB D (va_A [(a0, .inr (4, [.ref a1, .ref a2, .int x0, .int x1, .int x2, .int x3, .int x4, .int x5]))] sz) (fun u : gEx => [(a0, .inr (4, [.ref a1, .ref a2, .int x0, .int x1, .int x2, .int (u.2.2.2.1 0), .int x4, .int x5]))])) (va_A [(a0, .inr (4, [.ref a1, .ref a2, .int x0, .int x1, .int x2, .int x3, .int x4, .int x5]))] sz)) 0 0 (va_A [(a0, .inr (4, [.ref a1, .ref a2, .int x0, .int x1, .int x2, .int x3, .int x4, .int x5]))] sz) := by
  refine gOf_z (by decide +kernel) (Nat.le_of_ble_eq_true rfl) ?_
  intro p e s m args below meth c ls A Q hx hb hts hown hml hN hK hP hD hA hl hret
  have hown : s.vm.findClass RX4 = some m.cls := hown
  have hS : va_S A s.heap s.heap [] := va_S.rf
  have hP : va_P D gcl [(a0, .inr (4, [.ref a1, .ref a2, .int x0, .int x1, .int x2, .int x3, .int x4, .int x5]))] s.heap := hP
  have hl : lv_has ls 1 [(0, .ref a0)] := hl
  refine lv_aload_n (pc := 0) hx hb dX4_opens_0 rfl (lv_at hl 0 rfl) ?_
  refine va_get (pc := 1) (ci := 4) (v := .int x3) (C := RX4) (T := TX4) (N := 8) hx hb hts iX4 hown hK hP 0 rfl rfl 5 (by decide) (hts _ tw_173) (fun _ h9 => h9) rfl dX4_opens_1 ?_
  refine lv_bipush (pc := 4) (v := 6) hx hb dX4_opens_4 (by decide) ?_
  refine b_icmp_lt (pc := 6) (tgt := 19) hx hb rfl tI_6  dX4_opens_6 (by decide) (fun c_1 => ?_) (fun c_1 => absurd c_1 (by omega))
  refine lv_aload_n (pc := 19) hx hb dX4_opens_19 rfl (lv_at hl 0 rfl) ?_
  refine lv_dup (pc := 20) hx hb dX4_opens_20 rfl ?_
  refine va_get (pc := 21) (ci := 4) (v := .int x3) (C := RX4) (T := TX4) (N := 8) hx hb hts iX4 hown hK hP 0 rfl rfl 5 (by decide) (hts _ tw_173) (fun _ h9 => h9) rfl dX4_opens_21 ?_
  refine lv_iconst (pc := 24) (v := 1) hx hb dX4_opens_24 (by decide) ?_
  refine b_iadd (pc := 25) hx hb rfl tI_1 (by omega) (by omega) dX4_opens_25 (fun x_2 ex_2 => ?_)
  refine va_put (pc := 26) (ci := 4) (v := .int x_2) (ty := .int) (C := RX4) (T := TX4) (N := 8) hx hb hts iX4 tyX4 tyX4_ok nmX4 hown hK hP hD hS 0 rfl rfl 5 (by decide) (hts _ tw_173) (fun _ h9 => h9) rfl (by decide +kernel) rfl rfl (Nat.le_of_ble_eq_true rfl) dX4_opens_26 (fun H locs hP hD hS => ?_)
  have hP : va_P D gcl [(a0, .inr (4, [.ref a1, .ref a2, .int x0, .int x1, .int x2, .int x_2, .int x4, .int x5]))] H := hP
  have hD : va_D A [(a0, .inr (4, [.ref a1, .ref a2, .int x0, .int x1, .int x2, .int x_2, .int x4, .int x5]))] := hD
  refine lv_iconst (pc := 29) (v := 1) hx hb dX4_opens_29 (by decide) ?_
  exact hret 1 ((fun _ => 0), (fun _ => (fun _ => 0)), (fun _ => (fun _ => 0)), (fun k => [x_2].getD k 0), (fun _ => 0)) dX4_opens_30 ⟨(by have k9 := tI_1; omega), (show (((1 : Int32).toInt = 1 ∧ x3.toInt < 6 ∧ (x_2 : Int32).toInt = (x3.toInt) + (1))) by have k9 := tI_1; omega)⟩ (g_psub (wc := [(a0, .inr (4, [.ref a1, .ref a2, .int x0, .int x1, .int x2, .int x_2, .int x4, .int x5]))]) hP [0] rfl) (hD.sub (ws' := [(a0, .inr (4, [.ref a1, .ref a2, .int x0, .int x1, .int x2, .int x_2, .int x4, .int x5]))]) [0] (by decide) rfl) hS
set_option maxHeartbeats 4000000 in
set_option maxRecDepth 100000 in
theorem k_X4_opens_2 (l : Launch) (D : va_G) (cB cC cI cJ : ClassId) (sz : Nat) (a0 a1 a2 : Nat) (x0 x1 x2 x3 x4 x5 : Int32) (h_x0 : (0 ≤ x0.toInt ∧ x0.toInt ≤ 1600)) (h_x1 : ((-1) ≤ x1.toInt ∧ x1.toInt ≤ 255)) (h_x2 : (0 ≤ x2.toInt ∧ x2.toInt ≤ 1600)) (h_x3 : (2 ≤ x3.toInt ∧ x3.toInt ≤ 2)) (h_x4 : (0 ≤ x4.toInt ∧ x4.toInt ≤ 4)) (h_x5 : ((-1) ≤ x5.toInt ∧ x5.toInt ≤ 1600)) : Met l yX4_opens (.code yX4_opens cX4_opens 1 (some .boolean) :: lw_gd) ({ frames := 0, cells := 0, slots := 0, locals := 0 }) (gPre D [(cB, .byte), (cC, .char), (cI, .int), (cJ, .long)] [.ref a0] [(a0, .inr (4, [.ref a1, .ref a2, .int x0, .int x1, .int x2, .int x3, .int x4, .int x5]))] sz) (va_Qi (fun r u => ((r.toInt = 1 ∧ x3.toInt < 6 ∧ (u.2.2.2.1 0).toInt = (x3.toInt) + (1)))) (gB D (va_A [(a0, .inr (4, [.ref a1, .ref a2, .int x0, .int x1, .int x2, .int x3, .int x4, .int x5]))] sz) (fun u : gEx => [(a0, .inr (4, [.ref a1, .ref a2, .int x0, .int x1, .int x2, .int (u.2.2.2.1 0), .int x4, .int x5]))])) (va_A [(a0, .inr (4, [.ref a1, .ref a2, .int x0, .int x1, .int x2, .int x3, .int x4, .int x5]))] sz)) 0 0 (va_A [(a0, .inr (4, [.ref a1, .ref a2, .int x0, .int x1, .int x2, .int x3, .int x4, .int x5]))] sz) := by
  refine gOf_z (by decide +kernel) (Nat.le_of_ble_eq_true rfl) ?_
  intro p e s m args below meth c ls A Q hx hb hts hown hml hN hK hP hD hA hl hret
  have hown : s.vm.findClass RX4 = some m.cls := hown
  have hS : va_S A s.heap s.heap [] := va_S.rf
  have hP : va_P D gcl [(a0, .inr (4, [.ref a1, .ref a2, .int x0, .int x1, .int x2, .int x3, .int x4, .int x5]))] s.heap := hP
  have hl : lv_has ls 1 [(0, .ref a0)] := hl
  refine lv_aload_n (pc := 0) hx hb dX4_opens_0 rfl (lv_at hl 0 rfl) ?_
  refine va_get (pc := 1) (ci := 4) (v := .int x3) (C := RX4) (T := TX4) (N := 8) hx hb hts iX4 hown hK hP 0 rfl rfl 5 (by decide) (hts _ tw_173) (fun _ h9 => h9) rfl dX4_opens_1 ?_
  refine lv_bipush (pc := 4) (v := 6) hx hb dX4_opens_4 (by decide) ?_
  refine b_icmp_lt (pc := 6) (tgt := 19) hx hb rfl tI_6  dX4_opens_6 (by decide) (fun c_1 => ?_) (fun c_1 => absurd c_1 (by omega))
  refine lv_aload_n (pc := 19) hx hb dX4_opens_19 rfl (lv_at hl 0 rfl) ?_
  refine lv_dup (pc := 20) hx hb dX4_opens_20 rfl ?_
  refine va_get (pc := 21) (ci := 4) (v := .int x3) (C := RX4) (T := TX4) (N := 8) hx hb hts iX4 hown hK hP 0 rfl rfl 5 (by decide) (hts _ tw_173) (fun _ h9 => h9) rfl dX4_opens_21 ?_
  refine lv_iconst (pc := 24) (v := 1) hx hb dX4_opens_24 (by decide) ?_
  refine b_iadd (pc := 25) hx hb rfl tI_1 (by omega) (by omega) dX4_opens_25 (fun x_2 ex_2 => ?_)
  refine va_put (pc := 26) (ci := 4) (v := .int x_2) (ty := .int) (C := RX4) (T := TX4) (N := 8) hx hb hts iX4 tyX4 tyX4_ok nmX4 hown hK hP hD hS 0 rfl rfl 5 (by decide) (hts _ tw_173) (fun _ h9 => h9) rfl (by decide +kernel) rfl rfl (Nat.le_of_ble_eq_true rfl) dX4_opens_26 (fun H locs hP hD hS => ?_)
  have hP : va_P D gcl [(a0, .inr (4, [.ref a1, .ref a2, .int x0, .int x1, .int x2, .int x_2, .int x4, .int x5]))] H := hP
  have hD : va_D A [(a0, .inr (4, [.ref a1, .ref a2, .int x0, .int x1, .int x2, .int x_2, .int x4, .int x5]))] := hD
  refine lv_iconst (pc := 29) (v := 1) hx hb dX4_opens_29 (by decide) ?_
  exact hret 1 ((fun _ => 0), (fun _ => (fun _ => 0)), (fun _ => (fun _ => 0)), (fun k => [x_2].getD k 0), (fun _ => 0)) dX4_opens_30 ⟨(by have k9 := tI_1; omega), (show (((1 : Int32).toInt = 1 ∧ x3.toInt < 6 ∧ (x_2 : Int32).toInt = (x3.toInt) + (1))) by have k9 := tI_1; omega)⟩ (g_psub (wc := [(a0, .inr (4, [.ref a1, .ref a2, .int x0, .int x1, .int x2, .int x_2, .int x4, .int x5]))]) hP [0] rfl) (hD.sub (ws' := [(a0, .inr (4, [.ref a1, .ref a2, .int x0, .int x1, .int x2, .int x_2, .int x4, .int x5]))]) [0] (by decide) rfl) hS
set_option maxHeartbeats 4000000 in
set_option maxRecDepth 100000 in
theorem k_X4_opens_3 (l : Launch) (D : va_G) (cB cC cI cJ : ClassId) (sz : Nat) (a0 a1 a2 : Nat) (x0 x1 x2 x3 x4 x5 : Int32) (h_x0 : (0 ≤ x0.toInt ∧ x0.toInt ≤ 1600)) (h_x1 : ((-1) ≤ x1.toInt ∧ x1.toInt ≤ 255)) (h_x2 : (0 ≤ x2.toInt ∧ x2.toInt ≤ 1600)) (h_x3 : (3 ≤ x3.toInt ∧ x3.toInt ≤ 3)) (h_x4 : (0 ≤ x4.toInt ∧ x4.toInt ≤ 4)) (h_x5 : ((-1) ≤ x5.toInt ∧ x5.toInt ≤ 1600)) : Met l yX4_opens (.code yX4_opens cX4_opens 1 (some .boolean) :: lw_gd) ({ frames := 0, cells := 0, slots := 0, locals := 0 }) (gPre D [(cB, .byte), (cC, .char), (cI, .int), (cJ, .long)] [.ref a0] [(a0, .inr (4, [.ref a1, .ref a2, .int x0, .int x1, .int x2, .int x3, .int x4, .int x5]))] sz) (va_Qi (fun r u => ((r.toInt = 1 ∧ x3.toInt < 6 ∧ (u.2.2.2.1 0).toInt = (x3.toInt) + (1)))) (gB D (va_A [(a0, .inr (4, [.ref a1, .ref a2, .int x0, .int x1, .int x2, .int x3, .int x4, .int x5]))] sz) (fun u : gEx => [(a0, .inr (4, [.ref a1, .ref a2, .int x0, .int x1, .int x2, .int (u.2.2.2.1 0), .int x4, .int x5]))])) (va_A [(a0, .inr (4, [.ref a1, .ref a2, .int x0, .int x1, .int x2, .int x3, .int x4, .int x5]))] sz)) 0 0 (va_A [(a0, .inr (4, [.ref a1, .ref a2, .int x0, .int x1, .int x2, .int x3, .int x4, .int x5]))] sz) := by
  refine gOf_z (by decide +kernel) (Nat.le_of_ble_eq_true rfl) ?_
  intro p e s m args below meth c ls A Q hx hb hts hown hml hN hK hP hD hA hl hret
  have hown : s.vm.findClass RX4 = some m.cls := hown
  have hS : va_S A s.heap s.heap [] := va_S.rf
  have hP : va_P D gcl [(a0, .inr (4, [.ref a1, .ref a2, .int x0, .int x1, .int x2, .int x3, .int x4, .int x5]))] s.heap := hP
  have hl : lv_has ls 1 [(0, .ref a0)] := hl
  refine lv_aload_n (pc := 0) hx hb dX4_opens_0 rfl (lv_at hl 0 rfl) ?_
  refine va_get (pc := 1) (ci := 4) (v := .int x3) (C := RX4) (T := TX4) (N := 8) hx hb hts iX4 hown hK hP 0 rfl rfl 5 (by decide) (hts _ tw_173) (fun _ h9 => h9) rfl dX4_opens_1 ?_
  refine lv_bipush (pc := 4) (v := 6) hx hb dX4_opens_4 (by decide) ?_
  refine b_icmp_lt (pc := 6) (tgt := 19) hx hb rfl tI_6  dX4_opens_6 (by decide) (fun c_1 => ?_) (fun c_1 => absurd c_1 (by omega))
  refine lv_aload_n (pc := 19) hx hb dX4_opens_19 rfl (lv_at hl 0 rfl) ?_
  refine lv_dup (pc := 20) hx hb dX4_opens_20 rfl ?_
  refine va_get (pc := 21) (ci := 4) (v := .int x3) (C := RX4) (T := TX4) (N := 8) hx hb hts iX4 hown hK hP 0 rfl rfl 5 (by decide) (hts _ tw_173) (fun _ h9 => h9) rfl dX4_opens_21 ?_
  refine lv_iconst (pc := 24) (v := 1) hx hb dX4_opens_24 (by decide) ?_
  refine b_iadd (pc := 25) hx hb rfl tI_1 (by omega) (by omega) dX4_opens_25 (fun x_2 ex_2 => ?_)
  refine va_put (pc := 26) (ci := 4) (v := .int x_2) (ty := .int) (C := RX4) (T := TX4) (N := 8) hx hb hts iX4 tyX4 tyX4_ok nmX4 hown hK hP hD hS 0 rfl rfl 5 (by decide) (hts _ tw_173) (fun _ h9 => h9) rfl (by decide +kernel) rfl rfl (Nat.le_of_ble_eq_true rfl) dX4_opens_26 (fun H locs hP hD hS => ?_)
  have hP : va_P D gcl [(a0, .inr (4, [.ref a1, .ref a2, .int x0, .int x1, .int x2, .int x_2, .int x4, .int x5]))] H := hP
  have hD : va_D A [(a0, .inr (4, [.ref a1, .ref a2, .int x0, .int x1, .int x2, .int x_2, .int x4, .int x5]))] := hD
  refine lv_iconst (pc := 29) (v := 1) hx hb dX4_opens_29 (by decide) ?_
  exact hret 1 ((fun _ => 0), (fun _ => (fun _ => 0)), (fun _ => (fun _ => 0)), (fun k => [x_2].getD k 0), (fun _ => 0)) dX4_opens_30 ⟨(by have k9 := tI_1; omega), (show (((1 : Int32).toInt = 1 ∧ x3.toInt < 6 ∧ (x_2 : Int32).toInt = (x3.toInt) + (1))) by have k9 := tI_1; omega)⟩ (g_psub (wc := [(a0, .inr (4, [.ref a1, .ref a2, .int x0, .int x1, .int x2, .int x_2, .int x4, .int x5]))]) hP [0] rfl) (hD.sub (ws' := [(a0, .inr (4, [.ref a1, .ref a2, .int x0, .int x1, .int x2, .int x_2, .int x4, .int x5]))]) [0] (by decide) rfl) hS
set_option maxHeartbeats 4000000 in
set_option maxRecDepth 100000 in
theorem k_X4_opens_4 (l : Launch) (D : va_G) (cB cC cI cJ : ClassId) (sz : Nat) (a0 a1 a2 : Nat) (x0 x1 x2 x3 x4 x5 : Int32) (h_x0 : (0 ≤ x0.toInt ∧ x0.toInt ≤ 1600)) (h_x1 : ((-1) ≤ x1.toInt ∧ x1.toInt ≤ 255)) (h_x2 : (0 ≤ x2.toInt ∧ x2.toInt ≤ 1600)) (h_x3 : (4 ≤ x3.toInt ∧ x3.toInt ≤ 4)) (h_x4 : (0 ≤ x4.toInt ∧ x4.toInt ≤ 4)) (h_x5 : ((-1) ≤ x5.toInt ∧ x5.toInt ≤ 1600)) : Met l yX4_opens (.code yX4_opens cX4_opens 1 (some .boolean) :: lw_gd) ({ frames := 0, cells := 0, slots := 0, locals := 0 }) (gPre D [(cB, .byte), (cC, .char), (cI, .int), (cJ, .long)] [.ref a0] [(a0, .inr (4, [.ref a1, .ref a2, .int x0, .int x1, .int x2, .int x3, .int x4, .int x5]))] sz) (va_Qi (fun r u => ((r.toInt = 1 ∧ x3.toInt < 6 ∧ (u.2.2.2.1 0).toInt = (x3.toInt) + (1)))) (gB D (va_A [(a0, .inr (4, [.ref a1, .ref a2, .int x0, .int x1, .int x2, .int x3, .int x4, .int x5]))] sz) (fun u : gEx => [(a0, .inr (4, [.ref a1, .ref a2, .int x0, .int x1, .int x2, .int (u.2.2.2.1 0), .int x4, .int x5]))])) (va_A [(a0, .inr (4, [.ref a1, .ref a2, .int x0, .int x1, .int x2, .int x3, .int x4, .int x5]))] sz)) 0 0 (va_A [(a0, .inr (4, [.ref a1, .ref a2, .int x0, .int x1, .int x2, .int x3, .int x4, .int x5]))] sz) := by
  refine gOf_z (by decide +kernel) (Nat.le_of_ble_eq_true rfl) ?_
  intro p e s m args below meth c ls A Q hx hb hts hown hml hN hK hP hD hA hl hret
  have hown : s.vm.findClass RX4 = some m.cls := hown
  have hS : va_S A s.heap s.heap [] := va_S.rf
  have hP : va_P D gcl [(a0, .inr (4, [.ref a1, .ref a2, .int x0, .int x1, .int x2, .int x3, .int x4, .int x5]))] s.heap := hP
  have hl : lv_has ls 1 [(0, .ref a0)] := hl
  refine lv_aload_n (pc := 0) hx hb dX4_opens_0 rfl (lv_at hl 0 rfl) ?_
  refine va_get (pc := 1) (ci := 4) (v := .int x3) (C := RX4) (T := TX4) (N := 8) hx hb hts iX4 hown hK hP 0 rfl rfl 5 (by decide) (hts _ tw_173) (fun _ h9 => h9) rfl dX4_opens_1 ?_
  refine lv_bipush (pc := 4) (v := 6) hx hb dX4_opens_4 (by decide) ?_
  refine b_icmp_lt (pc := 6) (tgt := 19) hx hb rfl tI_6  dX4_opens_6 (by decide) (fun c_1 => ?_) (fun c_1 => absurd c_1 (by omega))
  refine lv_aload_n (pc := 19) hx hb dX4_opens_19 rfl (lv_at hl 0 rfl) ?_
  refine lv_dup (pc := 20) hx hb dX4_opens_20 rfl ?_
  refine va_get (pc := 21) (ci := 4) (v := .int x3) (C := RX4) (T := TX4) (N := 8) hx hb hts iX4 hown hK hP 0 rfl rfl 5 (by decide) (hts _ tw_173) (fun _ h9 => h9) rfl dX4_opens_21 ?_
  refine lv_iconst (pc := 24) (v := 1) hx hb dX4_opens_24 (by decide) ?_
  refine b_iadd (pc := 25) hx hb rfl tI_1 (by omega) (by omega) dX4_opens_25 (fun x_2 ex_2 => ?_)
  refine va_put (pc := 26) (ci := 4) (v := .int x_2) (ty := .int) (C := RX4) (T := TX4) (N := 8) hx hb hts iX4 tyX4 tyX4_ok nmX4 hown hK hP hD hS 0 rfl rfl 5 (by decide) (hts _ tw_173) (fun _ h9 => h9) rfl (by decide +kernel) rfl rfl (Nat.le_of_ble_eq_true rfl) dX4_opens_26 (fun H locs hP hD hS => ?_)
  have hP : va_P D gcl [(a0, .inr (4, [.ref a1, .ref a2, .int x0, .int x1, .int x2, .int x_2, .int x4, .int x5]))] H := hP
  have hD : va_D A [(a0, .inr (4, [.ref a1, .ref a2, .int x0, .int x1, .int x2, .int x_2, .int x4, .int x5]))] := hD
  refine lv_iconst (pc := 29) (v := 1) hx hb dX4_opens_29 (by decide) ?_
  exact hret 1 ((fun _ => 0), (fun _ => (fun _ => 0)), (fun _ => (fun _ => 0)), (fun k => [x_2].getD k 0), (fun _ => 0)) dX4_opens_30 ⟨(by have k9 := tI_1; omega), (show (((1 : Int32).toInt = 1 ∧ x3.toInt < 6 ∧ (x_2 : Int32).toInt = (x3.toInt) + (1))) by have k9 := tI_1; omega)⟩ (g_psub (wc := [(a0, .inr (4, [.ref a1, .ref a2, .int x0, .int x1, .int x2, .int x_2, .int x4, .int x5]))]) hP [0] rfl) (hD.sub (ws' := [(a0, .inr (4, [.ref a1, .ref a2, .int x0, .int x1, .int x2, .int x_2, .int x4, .int x5]))]) [0] (by decide) rfl) hS
set_option maxHeartbeats 4000000 in
set_option maxRecDepth 100000 in
theorem k_X4_opens_5 (l : Launch) (D : va_G) (cB cC cI cJ : ClassId) (sz : Nat) (a0 a1 a2 : Nat) (x0 x1 x2 x3 x4 x5 : Int32) (h_x0 : (0 ≤ x0.toInt ∧ x0.toInt ≤ 1600)) (h_x1 : ((-1) ≤ x1.toInt ∧ x1.toInt ≤ 255)) (h_x2 : (0 ≤ x2.toInt ∧ x2.toInt ≤ 1600)) (h_x3 : (5 ≤ x3.toInt ∧ x3.toInt ≤ 5)) (h_x4 : (0 ≤ x4.toInt ∧ x4.toInt ≤ 4)) (h_x5 : ((-1) ≤ x5.toInt ∧ x5.toInt ≤ 1600)) : Met l yX4_opens (.code yX4_opens cX4_opens 1 (some .boolean) :: lw_gd) ({ frames := 0, cells := 0, slots := 0, locals := 0 }) (gPre D [(cB, .byte), (cC, .char), (cI, .int), (cJ, .long)] [.ref a0] [(a0, .inr (4, [.ref a1, .ref a2, .int x0, .int x1, .int x2, .int x3, .int x4, .int x5]))] sz) (va_Qi (fun r u => ((r.toInt = 1 ∧ x3.toInt < 6 ∧ (u.2.2.2.1 0).toInt = (x3.toInt) + (1)))) (gB D (va_A [(a0, .inr (4, [.ref a1, .ref a2, .int x0, .int x1, .int x2, .int x3, .int x4, .int x5]))] sz) (fun u : gEx => [(a0, .inr (4, [.ref a1, .ref a2, .int x0, .int x1, .int x2, .int (u.2.2.2.1 0), .int x4, .int x5]))])) (va_A [(a0, .inr (4, [.ref a1, .ref a2, .int x0, .int x1, .int x2, .int x3, .int x4, .int x5]))] sz)) 0 0 (va_A [(a0, .inr (4, [.ref a1, .ref a2, .int x0, .int x1, .int x2, .int x3, .int x4, .int x5]))] sz) := by
  refine gOf_z (by decide +kernel) (Nat.le_of_ble_eq_true rfl) ?_
  intro p e s m args below meth c ls A Q hx hb hts hown hml hN hK hP hD hA hl hret
  have hown : s.vm.findClass RX4 = some m.cls := hown
  have hS : va_S A s.heap s.heap [] := va_S.rf
  have hP : va_P D gcl [(a0, .inr (4, [.ref a1, .ref a2, .int x0, .int x1, .int x2, .int x3, .int x4, .int x5]))] s.heap := hP
  have hl : lv_has ls 1 [(0, .ref a0)] := hl
  refine lv_aload_n (pc := 0) hx hb dX4_opens_0 rfl (lv_at hl 0 rfl) ?_
  refine va_get (pc := 1) (ci := 4) (v := .int x3) (C := RX4) (T := TX4) (N := 8) hx hb hts iX4 hown hK hP 0 rfl rfl 5 (by decide) (hts _ tw_173) (fun _ h9 => h9) rfl dX4_opens_1 ?_
  refine lv_bipush (pc := 4) (v := 6) hx hb dX4_opens_4 (by decide) ?_
  refine b_icmp_lt (pc := 6) (tgt := 19) hx hb rfl tI_6  dX4_opens_6 (by decide) (fun c_1 => ?_) (fun c_1 => absurd c_1 (by omega))
  refine lv_aload_n (pc := 19) hx hb dX4_opens_19 rfl (lv_at hl 0 rfl) ?_
  refine lv_dup (pc := 20) hx hb dX4_opens_20 rfl ?_
  refine va_get (pc := 21) (ci := 4) (v := .int x3) (C := RX4) (T := TX4) (N := 8) hx hb hts iX4 hown hK hP 0 rfl rfl 5 (by decide) (hts _ tw_173) (fun _ h9 => h9) rfl dX4_opens_21 ?_
  refine lv_iconst (pc := 24) (v := 1) hx hb dX4_opens_24 (by decide) ?_
  refine b_iadd (pc := 25) hx hb rfl tI_1 (by omega) (by omega) dX4_opens_25 (fun x_2 ex_2 => ?_)
  refine va_put (pc := 26) (ci := 4) (v := .int x_2) (ty := .int) (C := RX4) (T := TX4) (N := 8) hx hb hts iX4 tyX4 tyX4_ok nmX4 hown hK hP hD hS 0 rfl rfl 5 (by decide) (hts _ tw_173) (fun _ h9 => h9) rfl (by decide +kernel) rfl rfl (Nat.le_of_ble_eq_true rfl) dX4_opens_26 (fun H locs hP hD hS => ?_)
  have hP : va_P D gcl [(a0, .inr (4, [.ref a1, .ref a2, .int x0, .int x1, .int x2, .int x_2, .int x4, .int x5]))] H := hP
  have hD : va_D A [(a0, .inr (4, [.ref a1, .ref a2, .int x0, .int x1, .int x2, .int x_2, .int x4, .int x5]))] := hD
  refine lv_iconst (pc := 29) (v := 1) hx hb dX4_opens_29 (by decide) ?_
  exact hret 1 ((fun _ => 0), (fun _ => (fun _ => 0)), (fun _ => (fun _ => 0)), (fun k => [x_2].getD k 0), (fun _ => 0)) dX4_opens_30 ⟨(by have k9 := tI_1; omega), (show (((1 : Int32).toInt = 1 ∧ x3.toInt < 6 ∧ (x_2 : Int32).toInt = (x3.toInt) + (1))) by have k9 := tI_1; omega)⟩ (g_psub (wc := [(a0, .inr (4, [.ref a1, .ref a2, .int x0, .int x1, .int x2, .int x_2, .int x4, .int x5]))]) hP [0] rfl) (hD.sub (ws' := [(a0, .inr (4, [.ref a1, .ref a2, .int x0, .int x1, .int x2, .int x_2, .int x4, .int x5]))]) [0] (by decide) rfl) hS
