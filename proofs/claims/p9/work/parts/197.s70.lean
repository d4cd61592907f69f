set_option maxHeartbeats 4000000 in
set_option maxRecDepth 100000 in
theorem k_X11_end_x (l : Launch) (D : va_G) (cB cC cI cJ : ClassId) (sz : Nat) (a0 a1 a2 a3 a4 a5 a6 a7 a8 a9 a10 a11 a12 a13 a14 : Nat) (x0 x1 x2 : Int32) (h_x1 : zBd x1.toInt 0 14) (h_x2 : zBd x2.toInt 0 1600) : Met l yX11_end (.code yX11_end cX11_end 2 (some .boolean) :: lw_gd) ({ frames := 1, cells := 0, slots := 0, locals := 21 }) (gPre D [(cB, .byte), (cC, .char), (cI, .int), (cJ, .long)] [.ref a0, .int x0] [(a0, .inr (11, [.ref a1, .ref a2, .ref a3, .ref a4, .ref a5, .ref a6, .ref a7, .ref a8, .ref a9, .ref a10, .int x1, .ref a11, .ref a12, .ref a13])), (a2, .inr (9, [.ref a14, .int x2]))] sz) (va_Qi (fun r u => (0 ≤ r.toInt ∧ r.toInt ≤ 1) ∧ (0 ≤ (u.2.2.2.1 0).toInt ∧ (u.2.2.2.1 0).toInt ≤ 1600) ∧ ((r.toInt = 0 ∧ (x0.toInt < 0 ∨ x0.toInt > x2.toInt) ∧ (u.2.2.2.1 0).toInt = x2.toInt) ∨ (r.toInt = 1 ∧ 0 ≤ x0.toInt ∧ x0.toInt ≤ x2.toInt ∧ (u.2.2.2.1 0).toInt = x0.toInt))) (gB D (va_A [(a0, .inr (11, [.ref a1, .ref a2, .ref a3, .ref a4, .ref a5, .ref a6, .ref a7, .ref a8, .ref a9, .ref a10, .int x1, .ref a11, .ref a12, .ref a13])), (a2, .inr (9, [.ref a14, .int x2]))] sz) (fun u : gEx => [(a0, .inr (11, [.ref a1, .ref a2, .ref a3, .ref a4, .ref a5, .ref a6, .ref a7, .ref a8, .ref a9, .ref a10, .int x1, .ref a11, .ref a12, .ref a13])), (a2, .inr (9, [.ref a14, .int (u.2.2.2.1 0)]))])) (va_A [(a0, .inr (11, [.ref a1, .ref a2, .ref a3, .ref a4, .ref a5, .ref a6, .ref a7, .ref a8, .ref a9, .ref a10, .int x1, .ref a11, .ref a12, .ref a13])), (a2, .inr (9, [.ref a14, .int x2]))] sz)) 0 0 (va_A [(a0, .inr (11, [.ref a1, .ref a2, .ref a3, .ref a4, .ref a5, .ref a6, .ref a7, .ref a8, .ref a9, .ref a10, .int x1, .ref a11, .ref a12, .ref a13])), (a2, .inr (9, [.ref a14, .int x2]))] sz) := by
  refine gOf_z (by decide +kernel) (Nat.le_of_ble_eq_true rfl) ?_
  intro p e s m args below meth c ls A Q hx hb hts hown hml hN hK hP hD hA hl hret
  replace hown : s.vm.findClass RX11 = some m.cls := hown
  have hS : va_S A s.heap s.heap [] := va_S.rf
  replace hP : va_P D gcl [(a0, .inr (11, [.ref a1, .ref a2, .ref a3, .ref a4, .ref a5, .ref a6, .ref a7, .ref a8, .ref a9, .ref a10, .int x1, .ref a11, .ref a12, .ref a13])), (a2, .inr (9, [.ref a14, .int x2]))] s.heap := hP
  replace hl : lv_has ls 2 [(0, .ref a0), (1, .int x0)] := hl
  have rx0 : zBd x0.toInt (-2147483648) 2147483647 := n_rng x0
  refine lv_iload_n (pc := 0) hx hb dX11_end_0 rfl (lv_at hl 1 rfl) ?_
  refine b_if_lt (pc := 1) (tgt := 15) hx hb rfl  dX11_end_1 (by decide) (fun c_1 => ?_) (fun c_1 => ?_)
  ·
    refine lv_iconst (pc := 15) (v := 0) hx hb dX11_end_15 (by decide) ?_
    have k9 := tI_0
    exact hret 0 ((fun _ => 0), (fun _ => (fun _ => 0)), (fun _ => (fun _ => 0)), (fun k => [x2].getD k 0), (fun _ => 0)) dX11_end_16 ⟨(by have k9 := tI_0; (first | omega | (unfold zBd at *; omega))), ⟨(show (0 ≤ (0 : Int32).toInt ∧ (0 : Int32).toInt ≤ 1) from (n_c tI_0 (by decide))), (show (0 ≤ (x2 : Int32).toInt ∧ (x2 : Int32).toInt ≤ 1600) from h_x2), (show ((0 : Int32).toInt = 0 ∧ (x0.toInt < 0 ∨ x0.toInt > x2.toInt) ∧ x2.toInt = x2.toInt) ∨ ((0 : Int32).toInt = 1 ∧ 0 ≤ x0.toInt ∧ x0.toInt ≤ x2.toInt ∧ x2.toInt = x0.toInt) by have k9 := tI_0; (first | omega | (unfold zBd at *; omega)))⟩⟩ (g_psub (wc := [(a0, .inr (11, [.ref a1, .ref a2, .ref a3, .ref a4, .ref a5, .ref a6, .ref a7, .ref a8, .ref a9, .ref a10, .int x1, .ref a11, .ref a12, .ref a13])), (a2, .inr (9, [.ref a14, .int x2]))]) hP [0, 1] rfl) (hD.sub (ws' := [(a0, .inr (11, [.ref a1, .ref a2, .ref a3, .ref a4, .ref a5, .ref a6, .ref a7, .ref a8, .ref a9, .ref a10, .int x1, .ref a11, .ref a12, .ref a13])), (a2, .inr (9, [.ref a14, .int x2]))]) [0, 1] (by decide) rfl) hS
  ·
    refine lv_iload_n (pc := 4) hx hb dX11_end_4 rfl (lv_at hl 1 rfl) ?_
    refine lv_aload_n (pc := 5) hx hb dX11_end_5 rfl (lv_at hl 0 rfl) ?_
    refine va_get (pc := 6) (ci := 11) (v := .ref a2) (C := RX11) (T := TX11) (N := 14) hx hb hts iX11 hown hK hP 0 rfl rfl 1 (by decide) (hts _ tw_421) (fun _ h9 => h9) rfl dX11_end_6 ?_
    refine gc_i (pc := 9) (wc := [(a2, .inr (9, [.ref a14, .int x2]))]) (wr := [(a0, .inr (11, [.ref a1, .ref a2, .ref a3, .ref a4, .ref a5, .ref a6, .ref a7, .ref a8, .ref a9, .ref a10, .int x1, .ref a11, .ref a12, .ref a13]))]) hP hD hS hA [1] [0] rfl rfl (by decide) (by decide) (by decide) (fun hPc hDc => va_runV (As := []) (rest := [.int x0]) ⟨hx, hb, hml, hown, hts⟩ (k_X9_length l D cB cC cI cJ _ a2 a14 x2 h_x2) ⟨gcwB hts tw_478 tw_3 tw_475 hd_yX9_length ⟨Nat.le_of_ble_eq_true rfl, Nat.le_of_ble_eq_true rfl⟩, hts _ tw_476, hts _ tw_477⟩ ⟨gblind, va_recv hK hPc (ci := 9) (q0 := 0) rfl rfl, (gpreS hPc hK hDc hN).2⟩ rfl rfl hl.1 rfl (lv_room (Nat.le_of_ble_eq_true rfl)) dX11_end_9 ⟨Nat.le_of_ble_eq_true rfl, Nat.le_of_ble_eq_true rfl⟩) (fun r_3 u_2 H locs hw_4 hP hD hS => ?_)
    replace hP : va_P D gcl [(a0, .inr (11, [.ref a1, .ref a2, .ref a3, .ref a4, .ref a5, .ref a6, .ref a7, .ref a8, .ref a9, .ref a10, .int x1, .ref a11, .ref a12, .ref a13])), (a2, .inr (9, [.ref a14, .int x2]))] H := hP
    replace hD : va_D A [(a0, .inr (11, [.ref a1, .ref a2, .ref a3, .ref a4, .ref a5, .ref a6, .ref a7, .ref a8, .ref a9, .ref a10, .int x1, .ref a11, .ref a12, .ref a13])), (a2, .inr (9, [.ref a14, .int x2]))] := hD
    have hw_5 : ((r_3.toInt = x2.toInt)) := hw_4
    have rr_3 : zBd r_3.toInt (-2147483648) 2147483647 := n_rng r_3
    refine b_icmp_le (pc := 12) (tgt := 17) hx hb rfl rfl  dX11_end_12 (by decide) (fun c_6 => ?_) (fun c_6 => ?_)
    ·
      refine lv_aload_n (pc := 17) hx hb dX11_end_17 rfl (lv_at hl 0 rfl) ?_
      refine va_get (pc := 18) (ci := 11) (v := .ref a2) (C := RX11) (T := TX11) (N := 14) hx hb hts iX11 hown hK hP 0 rfl rfl 1 (by decide) (hts _ tw_421) (fun _ h9 => h9) rfl dX11_end_18 ?_
      refine lv_iload_n (pc := 21) hx hb dX11_end_21 rfl (lv_at hl 1 rfl) ?_
      refine gc_v (pc := 22) (wc := [(a2, .inr (9, [.ref a14, .int x2]))]) (wr := [(a0, .inr (11, [.ref a1, .ref a2, .ref a3, .ref a4, .ref a5, .ref a6, .ref a7, .ref a8, .ref a9, .ref a10, .int x1, .ref a11, .ref a12, .ref a13]))]) hP hD hS hA [1] [0] rfl rfl (by decide) (by decide) (by decide) (fun hPc hDc => va_runV (As := [.int x0]) (rest := []) ⟨hx, hb, hml, hown, hts⟩ (k_X9_cutTo l D cB cC cI cJ _ a2 a14 x0 x2 (by  (first | omega | (unfold zBd at *; omega))) h_x2) ⟨gcwB hts tw_486 tw_3 tw_483 hd_yX9_cutTo ⟨Nat.le_of_ble_eq_true rfl, Nat.le_of_ble_eq_true rfl⟩, hts _ tw_484, hts _ tw_485⟩ ⟨gblind, va_recv hK hPc (ci := 9) (q0 := 0) rfl rfl, (gpreS hPc hK hDc hN).2⟩ rfl rfl hl.1 rfl (lv_room (Nat.le_of_ble_eq_true rfl)) dX11_end_22 ⟨Nat.le_of_ble_eq_true rfl, Nat.le_of_ble_eq_true rfl⟩) (fun u_7 H locs hw_9 hP hD hS => ?_)
      replace hP : va_P D gcl [(a0, .inr (11, [.ref a1, .ref a2, .ref a3, .ref a4, .ref a5, .ref a6, .ref a7, .ref a8, .ref a9, .ref a10, .int x1, .ref a11, .ref a12, .ref a13])), (a2, .inr (9, [.ref a14, .int x0]))] H := hP
      replace hD : va_D A [(a0, .inr (11, [.ref a1, .ref a2, .ref a3, .ref a4, .ref a5, .ref a6, .ref a7, .ref a8, .ref a9, .ref a10, .int x1, .ref a11, .ref a12, .ref a13])), (a2, .inr (9, [.ref a14, .int x0]))] := hD
      refine lv_iconst (pc := 25) (v := 1) hx hb dX11_end_25 (by decide) ?_
      have k9 := tI_1
      exact hret 1 ((fun _ => 0), (fun _ => (fun _ => 0)), (fun _ => (fun _ => 0)), (fun k => [x0].getD k 0), (fun _ => 0)) dX11_end_26 ⟨(by have k9 := tI_1; (first | omega | (unfold zBd at *; omega))), ⟨(show (0 ≤ (1 : Int32).toInt ∧ (1 : Int32).toInt ≤ 1) from (n_c tI_1 (by decide))), (show (0 ≤ (x0 : Int32).toInt ∧ (x0 : Int32).toInt ≤ 1600) by have k9 := tI_1; (first | omega | (unfold zBd at *; omega))), (show ((1 : Int32).toInt = 0 ∧ (x0.toInt < 0 ∨ x0.toInt > x2.toInt) ∧ x0.toInt = x2.toInt) ∨ ((1 : Int32).toInt = 1 ∧ 0 ≤ x0.toInt ∧ x0.toInt ≤ x2.toInt ∧ x0.toInt = x0.toInt) by have k9 := tI_1; (first | omega | (unfold zBd at *; omega)))⟩⟩ (g_psub (wc := [(a0, .inr (11, [.ref a1, .ref a2, .ref a3, .ref a4, .ref a5, .ref a6, .ref a7, .ref a8, .ref a9, .ref a10, .int x1, .ref a11, .ref a12, .ref a13])), (a2, .inr (9, [.ref a14, .int x0]))]) hP [0, 1] rfl) (hD.sub (ws' := [(a0, .inr (11, [.ref a1, .ref a2, .ref a3, .ref a4, .ref a5, .ref a6, .ref a7, .ref a8, .ref a9, .ref a10, .int x1, .ref a11, .ref a12, .ref a13])), (a2, .inr (9, [.ref a14, .int x0]))]) [0, 1] (by decide) rfl) hS
    ·
      refine lv_iconst (pc := 15) (v := 0) hx hb dX11_end_15 (by decide) ?_
      have k9 := tI_0
      exact hret 0 ((fun _ => 0), (fun _ => (fun _ => 0)), (fun _ => (fun _ => 0)), (fun k => [x2].getD k 0), (fun _ => 0)) dX11_end_16 ⟨(by have k9 := tI_0; (first | omega | (unfold zBd at *; omega))), ⟨(show (0 ≤ (0 : Int32).toInt ∧ (0 : Int32).toInt ≤ 1) from (n_c tI_0 (by decide))), (show (0 ≤ (x2 : Int32).toInt ∧ (x2 : Int32).toInt ≤ 1600) from h_x2), (show ((0 : Int32).toInt = 0 ∧ (x0.toInt < 0 ∨ x0.toInt > x2.toInt) ∧ x2.toInt = x2.toInt) ∨ ((0 : Int32).toInt = 1 ∧ 0 ≤ x0.toInt ∧ x0.toInt ≤ x2.toInt ∧ x2.toInt = x0.toInt) by have k9 := tI_0; (first | omega | (unfold zBd at *; omega)))⟩⟩ (g_psub (wc := [(a0, .inr (11, [.ref a1, .ref a2, .ref a3, .ref a4, .ref a5, .ref a6, .ref a7, .ref a8, .ref a9, .ref a10, .int x1, .ref a11, .ref a12, .ref a13])), (a2, .inr (9, [.ref a14, .int x2]))]) hP [0, 1] rfl) (hD.sub (ws' := [(a0, .inr (11, [.ref a1, .ref a2, .ref a3, .ref a4, .ref a5, .ref a6, .ref a7, .ref a8, .ref a9, .ref a10, .int x1, .ref a11, .ref a12, .ref a13])), (a2, .inr (9, [.ref a14, .int x2]))]) [0, 1] (by decide) rfl) hS
set_option maxHeartbeats 4000000 in
set_option maxRecDepth 100000 in
theorem k_X8_at_x (l : Launch) (D : va_G) (cB cC cI cJ : ClassId) (sz : Nat) (a0 a1 : Nat) (x0 x1 : Int32) (f0 : Nat → Int32) (hp1 : (0 ≤ x0.toInt ∧ x0.toInt ≤ 5)) (hp2 : (0 ≤ x1.toInt ∧ x1.toInt ≤ 4)) (hg_tb : TB f0 242) : Met l yX8_at (.code yX8_at cX8_at 3 (some .int) :: lw_gd) ({ frames := 0, cells := 0, slots := 0, locals := 0 }) (gPre D [(cB, .byte), (cC, .char), (cI, .int), (cJ, .long)] [.ref a0, .int x0, .int x1] [(a0, .inr (8, [.ref a1])), (a1, .inl (cI, 30, .inl f0))] sz) (va_Qi (fun r u => ((-242) ≤ r.toInt ∧ r.toInt ≤ 242) ∧ (r = f0 (6 * x1.toInt + x0.toInt).toNat) ∧ (-242 ≤ r.toInt ∧ r.toInt ≤ 242)) (gB D (va_A [(a0, .inr (8, [.ref a1])), (a1, .inl (cI, 30, .inl f0))] sz) (fun u : gEx => [(a0, .inr (8, [.ref a1])), (a1, .inl (cI, 30, .inl f0))])) (va_A [(a0, .inr (8, [.ref a1])), (a1, .inl (cI, 30, .inl f0))] sz)) 0 0 (va_A [(a0, .inr (8, [.ref a1])), (a1, .inl (cI, 30, .inl f0))] sz) := by
  refine gOf_i (by decide +kernel) (Nat.le_of_ble_eq_true rfl) ?_
  intro p e s m args below meth c ls A Q hx hb hts hown hml hN hK hP hD hA hl hret
  replace hown : s.vm.findClass RX8 = some m.cls := hown
  have hS : va_S A s.heap s.heap [] := va_S.rf
  replace hP : va_P D gcl [(a0, .inr (8, [.ref a1])), (a1, .inl (cI, 30, .inl f0))] s.heap := hP
  replace hl : lv_has ls 3 [(0, .ref a0), (1, .int x0), (2, .int x1)] := hl
  refine lv_aload_n (pc := 0) hx hb dX8_at_0 rfl (lv_at hl 0 rfl) ?_
  refine va_get (pc := 1) (ci := 8) (v := .ref a1) (C := RX8) (T := TX8) (N := 1) hx hb hts iX8 hown hK hP 0 rfl rfl 0 (by decide) (hts _ tw_62) (fun _ h9 => h9) rfl dX8_at_1 ?_
  refine lv_iload_n (pc := 4) hx hb dX8_at_4 rfl (lv_at hl 2 rfl) ?_
  refine lv_bipush (pc := 5) (v := 6) hx hb dX8_at_5 (by decide) ?_
  refine b_imul (pc := 7) hx hb rfl tI_6 (by (first | omega | (unfold zBd at *; omega))) (by (first | omega | (unfold zBd at *; omega))) dX8_at_7 (fun x_1 ex_1 => ?_)
  refine lv_iload_n (pc := 8) hx hb dX8_at_8 rfl (lv_at hl 1 rfl) ?_
  refine b_iadd (pc := 9) hx hb rfl rfl (by (first | omega | (unfold zBd at *; omega))) (by (first | omega | (unfold zBd at *; omega))) dX8_at_9 (fun x_2 ex_2 => ?_)
  refine va_iald (pc := 10) hx hb hK hP 1 2 rfl rfl (n_in rfl (by (first | omega | (unfold zBd at *; omega))) (by (first | omega | (unfold zBd at *; omega)))) dX8_at_10 ?_
  refine lv_topi (fun x_3 ex_3 => ?_)
  have rx_3 : zBd x_3.toInt (-2147483648) 2147483647 := n_rng x_3
  replace ex_3 : x_3 = f0 (x_2.toInt).toNat := ex_3
  have tx_3 := congrArg Int32.toInt ex_3
  have rrx_3 : ((-242) ≤ x_3.toInt ∧ x_3.toInt ≤ 242) := (by rw [ex_3]; exact hg_tb _ (by (first | omega | (unfold zBd at *; omega))))
  exact hret x_3 ((fun _ => 0), (fun _ => (fun _ => 0)), (fun _ => (fun _ => 0)), (fun _ => 0), (fun _ => 0)) dX8_at_11 ⟨(show ((-242) ≤ x_3.toInt ∧ x_3.toInt ≤ 242) by (first | omega | (unfold zBd at *; omega))), (show x_3 = f0 (6 * x1.toInt + x0.toInt).toNat from (e_ld ex_3 (by (first | omega | (unfold zBd at *; omega)))).symm), (show -242 ≤ x_3.toInt ∧ x_3.toInt ≤ 242 by (first | omega | (unfold zBd at *; omega)))⟩ (g_psub (wc := [(a0, .inr (8, [.ref a1])), (a1, .inl (cI, 30, .inl f0))]) hP [0, 1] rfl) (hD.sub (ws' := [(a0, .inr (8, [.ref a1])), (a1, .inl (cI, 30, .inl f0))]) [0, 1] (by decide) rfl) hS
set_option maxHeartbeats 4000000 in
set_option maxRecDepth 100000 in
theorem k_X8_productOf_x (l : Launch) (D : va_G) (cB cC cI cJ : ClassId) (sz : Nat) (a0 a1 : Nat) (x0 x1 : Int32) (f0 : Nat → Int32) (hp1 : (0 ≤ x0.toInt ∧ x0.toInt ≤ 4)) (hp2 : (0 ≤ x1.toInt ∧ x1.toInt ≤ 4)) (hg_tb : TB f0 242) : Met l yX8_productOf (.code yX8_productOf cX8_productOf 5 (some .int) :: lw_gd) ({ frames := 1, cells := 0, slots := 0, locals := 22 }) (gPre D [(cB, .byte), (cC, .char), (cI, .int), (cJ, .long)] [.ref a0, .int x0, .int x1] [(a0, .inr (8, [.ref a1])), (a1, .inl (cI, 30, .inl f0))] sz) (va_Qi (fun r u => ((-400000) ≤ r.toInt ∧ r.toInt ≤ 400000) ∧ (r.toInt = dtn f0 x0.toInt x1.toInt 6)) (gB D (va_A [(a0, .inr (8, [.ref a1])), (a1, .inl (cI, 30, .inl f0))] sz) (fun u : gEx => [(a0, .inr (8, [.ref a1])), (a1, .inl (cI, 30, .inl f0))])) (va_A [(a0, .inr (8, [.ref a1])), (a1, .inl (cI, 30, .inl f0))] sz)) 0 0 (va_A [(a0, .inr (8, [.ref a1])), (a1, .inl (cI, 30, .inl f0))] sz) := by
  refine gOf_i (by decide +kernel) (Nat.le_of_ble_eq_true rfl) ?_
  intro p e s m args below meth c ls A Q hx hb hts hown hml hN hK hP hD hA hl hret
  replace hown : s.vm.findClass RX8 = some m.cls := hown
  have hS : va_S A s.heap s.heap [] := va_S.rf
  replace hP : va_P D gcl [(a0, .inr (8, [.ref a1])), (a1, .inl (cI, 30, .inl f0))] s.heap := hP
  replace hl : lv_has ls 5 [(0, .ref a0), (1, .int x0), (2, .int x1)] := hl
  refine lv_iconst (pc := 0) (v := 0) hx hb dX8_productOf_0 (by decide) ?_
  refine lv_istore_n (pc := 1) (lv' := [(3, .int 0), (0, .ref a0), (1, .int x0), (2, .int x1)]) hx hb dX8_productOf_1 rfl hl (by decide) rfl (fun ls hl => ?_)
  refine lv_iconst (pc := 2) (v := 0) hx hb dX8_productOf_2 (by decide) ?_
  refine lv_istore (pc := 3) (lv' := [(4, .int 0), (3, .int 0), (0, .ref a0), (1, .int x0), (2, .int x1)]) hx hb dX8_productOf_3 hl (by decide) rfl (fun ls hl => ?_)
  have lp_7 : ∀ (n : Nat) (x_1 x_3 : Int32) (H : Heap) (locs : List Loc) (ls : Array Slot), (0 ≤ x_1.toInt ∧ x_1.toInt ≤ 6) → ((-400000) ≤ x_3.toInt ∧ x_3.toInt ≤ 400000) → (x_3.toInt = dtn f0 x0.toInt x1.toInt (x_1.toInt).toNat) → (-58564 * x_1.toInt ≤ x_3.toInt ∧ x_3.toInt ≤ 58564 * x_1.toInt) → (2147483647 - x_1.toInt).toNat < n → va_P D gcl [(a0, .inr (8, [.ref a1])), (a1, .inl (cI, 30, .inl f0))] H → va_D A [(a0, .inr (8, [.ref a1])), (a1, .inl (cI, 30, .inl f0))] → va_S A s.heap H locs → lv_has ls 5 [(4, .int x_1), (3, .int x_3), (0, .ref a0), (1, .int x0), (2, .int x1)] → W p l e ({ frames := 1, cells := 0, slots := 0, locals := 22 }) s m args below meth c H locs 0 0 Q (F0 m 5 ls []) := by
    intro n
    induction n with
    | zero => intro x_1 x_3 H locs ls hi_2 hi_4 hi_5 hi_6 hmu; exact absurd hmu (Nat.not_lt_zero _)
    | succ n ih_lp_7 =>
      intro x_1 x_3 H locs ls hi_2 hi_4 hi_5 hi_6 hmu_lp_7 hP hD hS hl
      refine lv_iload (pc := 5) hx hb dX8_productOf_5 (lv_at hl 0 rfl) ?_
      refine lv_bipush (pc := 7) (v := 6) hx hb dX8_productOf_7 (by decide) ?_
      refine b_icmp_ge (pc := 9) (tgt := 36) hx hb rfl tI_6  dX8_productOf_9 (by decide) (fun c_8 => ?_) (fun c_8 => ?_)
      ·
        refine lv_iload_n (pc := 36) hx hb dX8_productOf_36 rfl (lv_at hl 1 rfl) ?_
        exact hret x_3 ((fun _ => 0), (fun _ => (fun _ => 0)), (fun _ => (fun _ => 0)), (fun _ => 0), (fun _ => 0)) dX8_productOf_37 ⟨(show ((-400000) ≤ x_3.toInt ∧ x_3.toInt ≤ 400000) from hi_4), (show x_3.toInt = dtn f0 x0.toInt x1.toInt 6 from (by have e9 : x_1.toInt = 6 := (by (first | omega | (unfold zBd at *; omega))); have q9 := hi_5; rw [e9] at q9; exact q9))⟩ (g_psub (wc := [(a0, .inr (8, [.ref a1])), (a1, .inl (cI, 30, .inl f0))]) hP [0, 1] rfl) (hD.sub (ws' := [(a0, .inr (8, [.ref a1])), (a1, .inl (cI, 30, .inl f0))]) [0, 1] (by decide) rfl) hS
      ·
        refine lv_iload_n (pc := 12) hx hb dX8_productOf_12 rfl (lv_at hl 1 rfl) ?_
        refine lv_aload_n (pc := 13) hx hb dX8_productOf_13 rfl (lv_at hl 2 rfl) ?_
        refine lv_iload (pc := 14) hx hb dX8_productOf_14 (lv_at hl 0 rfl) ?_
        refine lv_iload_n (pc := 16) hx hb dX8_productOf_16 rfl (lv_at hl 3 rfl) ?_
        refine gc_i (pc := 17) (wc := [(a0, .inr (8, [.ref a1])), (a1, .inl (cI, 30, .inl f0))]) (wr := []) hP hD hS hA [0, 1] [] rfl rfl (by decide) (by decide) (by decide) (fun hPc hDc => va_runV (As := [.int x_1, .int x0]) (rest := [.int x_3]) ⟨hx, hb, hml, hown, hts⟩ (k_X8_at_x l D cB cC cI cJ _ a0 a1 x_1 x0 f0 (by  (first | omega | (unfold zBd at *; omega))) hp1 (hg_tb)) ⟨gcwB hts tw_791 tw_5 tw_800 hd_yX8_at ⟨Nat.le_of_ble_eq_true rfl, Nat.le_of_ble_eq_true rfl⟩, hts _ tw_789, hts _ tw_790⟩ ⟨gblind, va_recv hK hPc (ci := 8) (q0 := 0) rfl rfl, (gpreS hPc hK hDc hN).2⟩ rfl rfl hl.1 rfl (lv_room (Nat.le_of_ble_eq_true rfl)) dX8_productOf_17 ⟨Nat.le_of_ble_eq_true rfl, Nat.le_of_ble_eq_true rfl⟩) (fun r_10 u_9 H locs hw_11 hP hD hS => ?_)
        replace hP : va_P D gcl [(a0, .inr (8, [.ref a1])), (a1, .inl (cI, 30, .inl f0))] H := hP
        replace hD : va_D A [(a0, .inr (8, [.ref a1])), (a1, .inl (cI, 30, .inl f0))] := hD
        obtain ⟨hw_12, hw_13, hw_14⟩ := hw_11
        replace hw_12 : ((-242) ≤ r_10.toInt ∧ r_10.toInt ≤ 242) := hw_12
        replace hw_13 : (r_10 = f0 (6 * x0.toInt + x_1.toInt).toNat) := hw_13
        replace hw_14 : (-242 ≤ r_10.toInt ∧ r_10.toInt ≤ 242) := hw_14
        have rr_10 : zBd r_10.toInt (-2147483648) 2147483647 := n_rng r_10
        refine lv_aload_n (pc := 20) hx hb dX8_productOf_20 rfl (lv_at hl 2 rfl) ?_
        refine lv_iload (pc := 21) hx hb dX8_productOf_21 (lv_at hl 0 rfl) ?_
        refine lv_iload_n (pc := 23) hx hb dX8_productOf_23 rfl (lv_at hl 4 rfl) ?_
        refine gc_i (pc := 24) (wc := [(a0, .inr (8, [.ref a1])), (a1, .inl (cI, 30, .inl f0))]) (wr := []) hP hD hS hA [0, 1] [] rfl rfl (by decide) (by decide) (by decide) (fun hPc hDc => va_runV (As := [.int x_1, .int x1]) (rest := [.int r_10, .int x_3]) ⟨hx, hb, hml, hown, hts⟩ (k_X8_at_x l D cB cC cI cJ _ a0 a1 x_1 x1 f0 (by  (first | omega | (unfold zBd at *; omega))) hp2 (hg_tb)) ⟨gcwB hts tw_791 tw_5 tw_800 hd_yX8_at ⟨Nat.le_of_ble_eq_true rfl, Nat.le_of_ble_eq_true rfl⟩, hts _ tw_789, hts _ tw_790⟩ ⟨gblind, va_recv hK hPc (ci := 8) (q0 := 0) rfl rfl, (gpreS hPc hK hDc hN).2⟩ rfl rfl hl.1 rfl (lv_room (Nat.le_of_ble_eq_true rfl)) dX8_productOf_24 ⟨Nat.le_of_ble_eq_true rfl, Nat.le_of_ble_eq_true rfl⟩) (fun r_16 u_15 H locs hw_17 hP hD hS => ?_)
        replace hP : va_P D gcl [(a0, .inr (8, [.ref a1])), (a1, .inl (cI, 30, .inl f0))] H := hP
        replace hD : va_D A [(a0, .inr (8, [.ref a1])), (a1, .inl (cI, 30, .inl f0))] := hD
        obtain ⟨hw_18, hw_19, hw_20⟩ := hw_17
        replace hw_18 : ((-242) ≤ r_16.toInt ∧ r_16.toInt ≤ 242) := hw_18
        replace hw_19 : (r_16 = f0 (6 * x1.toInt + x_1.toInt).toNat) := hw_19
        replace hw_20 : (-242 ≤ r_16.toInt ∧ r_16.toInt ≤ 242) := hw_20
        have rr_16 : zBd r_16.toInt (-2147483648) 2147483647 := n_rng r_16
        have qx_21 := n_mulb (A := 242) (B := 242) (by decide) (by decide) (show -242 ≤ r_10.toInt ∧ r_10.toInt ≤ 242 by (first | omega | (unfold zBd at *; omega))) (show -242 ≤ r_16.toInt ∧ r_16.toInt ≤ 242 by (first | omega | (unfold zBd at *; omega)))
        refine b_imul (pc := 27) hx hb rfl rfl (by (first | omega | (unfold zBd at *; omega))) (by (first | omega | (unfold zBd at *; omega))) dX8_productOf_27 (fun x_21 ex_21 => ?_)
        have rx_21 : ((-58564) ≤ x_21.toInt ∧ x_21.toInt ≤ 58564) := by (first | omega | (unfold zBd at *; omega))
        refine b_iadd (pc := 28) hx hb rfl rfl (by (first | omega | (unfold zBd at *; omega))) (by (first | omega | (unfold zBd at *; omega))) dX8_productOf_28 (fun x_22 ex_22 => ?_)
        refine lv_istore_n (pc := 29) (lv' := [(3, .int x_22), (4, .int x_1), (0, .ref a0), (1, .int x0), (2, .int x1)]) hx hb dX8_productOf_29 rfl hl (by decide) rfl (fun ls hl => ?_)
        refine b_iinc (pc := 30) hx hb dX8_productOf_30 hl (k := 1) rfl rfl tI_1 (by (first | omega | (unfold zBd at *; omega))) (by (first | omega | (unfold zBd at *; omega))) (by decide) (fun x_23 ex_23 ls hl => ?_)
        replace hl : lv_has ls 5 [(4, .int x_23), (3, .int x_22), (0, .ref a0), (1, .int x0), (2, .int x1)] := hl
        refine lv_goto (pc := 33) (tgt := 5) hx hb dX8_productOf_33 (by decide) ?_
        exact ih_lp_7 x_23 x_22 _ _ ls (by (first | omega | (unfold zBd at *; omega))) (by (first | omega | (unfold zBd at *; omega))) (dtn_step hi_5 hw_13 hw_19 (by (first | omega | (unfold zBd at *; omega))) (by (first | omega | (unfold zBd at *; omega))) (by (first | omega | (unfold zBd at *; omega)))) (by (first | omega | (unfold zBd at *; omega))) (by (first | omega | (unfold zBd at *; omega))) hP hD hS (lv_sub hl [0, 1, 2, 3, 4] rfl)
  exact lp_7 _ 0 0 _ _ ls (n_c tI_0 (by decide)) (n_c tI_0 (by decide)) (tI_0) (by have q := tI_0; (first | omega | (unfold zBd at *; omega))) (Nat.lt_succ_self _) hP hD hS (lv_sub hl [0, 1, 2, 3, 4] rfl)
set_option maxHeartbeats 4000000 in
set_option maxRecDepth 100000 in
theorem k_X2_timesIn (l : Launch) (D : va_G) (cB cC cI cJ : ClassId) (sz : Nat) (a0 a1 a2 a3 a4 : Nat) (x0 x1 x2 x3 x4 x5 x6 : Int32) (f0 : Nat → Int32) (hp1 : (0 ≤ x0.toInt ∧ x0.toInt ≤ 4)) (hp2 : (0 ≤ x1.toInt ∧ x1.toInt ≤ 4)) (h_x2 : zBd x2.toInt (-1) 5) (h_x3 : zBd x3.toInt 0 39) (h_x4 : zBd x4.toInt 0 40) (h_x5 : zBd x5.toInt 0 40) (hr_a0_0 : (x4.toInt + x5.toInt ≤ 40)) (hg_sh : SH f0) : Met l yX2_timesIn (.code yX2_timesIn cX2_timesIn 6 (some .int) :: lw_gd) ({ frames := 2, cells := 0, slots := 0, locals := 46 }) (gPre D [(cB, .byte), (cC, .char), (cI, .int), (cJ, .long)] [.ref a0, .int x0, .int x1] [(a0, .inr (2, [.ref a1, .ref a2, .ref a3, .int x2, .int x3, .int x4, .int x5, .int x6])), (a1, .inr (8, [.ref a4])), (a4, .inl (cI, 30, .inl f0))] sz) (va_Qi (fun r u => ((-1199999) ≤ r.toInt ∧ r.toInt ≤ 1199999) ∧ (tmQ (dtn f0 x0.toInt x1.toInt 6) (dtn f0 x1.toInt x1.toInt 6) r.toInt) ∧ (xtQ f0 x0.toInt x1.toInt r)) (gB D (va_A [(a0, .inr (2, [.ref a1, .ref a2, .ref a3, .int x2, .int x3, .int x4, .int x5, .int x6])), (a1, .inr (8, [.ref a4])), (a4, .inl (cI, 30, .inl f0))] sz) (fun u : gEx => [(a0, .inr (2, [.ref a1, .ref a2, .ref a3, .int x2, .int x3, .int x4, .int x5, .int x6])), (a1, .inr (8, [.ref a4])), (a4, .inl (cI, 30, .inl f0))])) (va_A [(a0, .inr (2, [.ref a1, .ref a2, .ref a3, .int x2, .int x3, .int x4, .int x5, .int x6])), (a1, .inr (8, [.ref a4])), (a4, .inl (cI, 30, .inl f0))] sz)) 0 0 (va_A [(a0, .inr (2, [.ref a1, .ref a2, .ref a3, .int x2, .int x3, .int x4, .int x5, .int x6])), (a1, .inr (8, [.ref a4])), (a4, .inl (cI, 30, .inl f0))] sz) := by
  refine gOf_i (by decide +kernel) (Nat.le_of_ble_eq_true rfl) ?_
  intro p e s m args below meth c ls A Q hx hb hts hown hml hN hK hP hD hA hl hret
  replace hown : s.vm.findClass RX2 = some m.cls := hown
  have hS : va_S A s.heap s.heap [] := va_S.rf
  replace hP : va_P D gcl [(a0, .inr (2, [.ref a1, .ref a2, .ref a3, .int x2, .int x3, .int x4, .int x5, .int x6])), (a1, .inr (8, [.ref a4])), (a4, .inl (cI, 30, .inl f0))] s.heap := hP
  replace hl : lv_has ls 6 [(0, .ref a0), (1, .int x0), (2, .int x1)] := hl
  have rx6 : zBd x6.toInt (-2147483648) 2147483647 := n_rng x6
  refine lv_aload_n (pc := 0) hx hb dX2_timesIn_0 rfl (lv_at hl 0 rfl) ?_
  refine va_get (pc := 1) (ci := 2) (v := .ref a1) (C := RX2) (T := TX2) (N := 8) hx hb hts iX2 hown hK hP 0 rfl rfl 0 (by decide) (hts _ tw_391) (fun _ h9 => h9) rfl dX2_timesIn_1 ?_
  refine lv_iload_n (pc := 4) hx hb dX2_timesIn_4 rfl (lv_at hl 2 rfl) ?_
  refine lv_iload_n (pc := 5) hx hb dX2_timesIn_5 rfl (lv_at hl 2 rfl) ?_
  refine gc_i (pc := 6) (wc := [(a1, .inr (8, [.ref a4])), (a4, .inl (cI, 30, .inl f0))]) (wr := [(a0, .inr (2, [.ref a1, .ref a2, .ref a3, .int x2, .int x3, .int x4, .int x5, .int x6]))]) hP hD hS hA [1, 2] [0] rfl rfl (by decide) (by decide) (by decide) (fun hPc hDc => va_runV (As := [.int x1, .int x1]) (rest := []) ⟨hx, hb, hml, hown, hts⟩ (k_X8_productOf_x l D cB cC cI cJ _ a1 a4 x1 x1 f0 hp2 hp2 (SH_TB hg_sh)) ⟨gcwB hts tw_799 tw_5 tw_1048 hd_yX8_productOf ⟨Nat.le_of_ble_eq_true rfl, Nat.le_of_ble_eq_true rfl⟩, hts _ tw_797, hts _ tw_798⟩ ⟨gblind, va_recv hK hPc (ci := 8) (q0 := 0) rfl rfl, (gpreS hPc hK hDc hN).2⟩ rfl rfl hl.1 rfl (lv_room (Nat.le_of_ble_eq_true rfl)) dX2_timesIn_6 ⟨Nat.le_of_ble_eq_true rfl, Nat.le_of_ble_eq_true rfl⟩) (fun r_2 u_1 H locs hw_3 hP hD hS => ?_)
  replace hP : va_P D gcl [(a0, .inr (2, [.ref a1, .ref a2, .ref a3, .int x2, .int x3, .int x4, .int x5, .int x6])), (a1, .inr (8, [.ref a4])), (a4, .inl (cI, 30, .inl f0))] H := hP
  replace hD : va_D A [(a0, .inr (2, [.ref a1, .ref a2, .ref a3, .int x2, .int x3, .int x4, .int x5, .int x6])), (a1, .inr (8, [.ref a4])), (a4, .inl (cI, 30, .inl f0))] := hD
  obtain ⟨hw_4, hw_5⟩ := hw_3
  replace hw_4 : ((-400000) ≤ r_2.toInt ∧ r_2.toInt ≤ 400000) := hw_4
  replace hw_5 : (r_2.toInt = dtn f0 x1.toInt x1.toInt 6) := hw_5
  have rr_2 : zBd r_2.toInt (-2147483648) 2147483647 := n_rng r_2
  have hh_6 : 0 ≤ r_2.toInt := by have q := hw_5; have q2 := dtn_nn (f := f0) (a := x1.toInt) 6; (first | omega | (unfold zBd at *; omega))
  refine lv_istore_n (pc := 9) (lv' := [(3, .int r_2), (0, .ref a0), (1, .int x0), (2, .int x1)]) hx hb dX2_timesIn_9 rfl hl (by decide) rfl (fun ls hl => ?_)
  refine lv_iload_n (pc := 10) hx hb dX2_timesIn_10 rfl (lv_at hl 0 rfl) ?_
  refine b_if_ne (pc := 11) (tgt := 16) hx hb rfl  dX2_timesIn_11 (by decide) (fun c_7 => ?_) (fun c_7 => ?_)
  ·
    refine lv_aload_n (pc := 16) hx hb dX2_timesIn_16 rfl (lv_at hl 1 rfl) ?_
    refine va_get (pc := 17) (ci := 2) (v := .ref a1) (C := RX2) (T := TX2) (N := 8) hx hb hts iX2 hown hK hP 0 rfl rfl 0 (by decide) (hts _ tw_391) (fun _ h9 => h9) rfl dX2_timesIn_17 ?_
    refine lv_iload_n (pc := 20) hx hb dX2_timesIn_20 rfl (lv_at hl 2 rfl) ?_
    refine lv_iload_n (pc := 21) hx hb dX2_timesIn_21 rfl (lv_at hl 3 rfl) ?_
    refine gc_i (pc := 22) (wc := [(a1, .inr (8, [.ref a4])), (a4, .inl (cI, 30, .inl f0))]) (wr := [(a0, .inr (2, [.ref a1, .ref a2, .ref a3, .int x2, .int x3, .int x4, .int x5, .int x6]))]) hP hD hS hA [1, 2] [0] rfl rfl (by decide) (by decide) (by decide) (fun hPc hDc => va_runV (As := [.int x0, .int x1]) (rest := []) ⟨hx, hb, hml, hown, hts⟩ (k_X8_productOf_x l D cB cC cI cJ _ a1 a4 x0 x1 f0 hp1 hp2 (SH_TB hg_sh)) ⟨gcwB hts tw_799 tw_5 tw_1048 hd_yX8_productOf ⟨Nat.le_of_ble_eq_true rfl, Nat.le_of_ble_eq_true rfl⟩, hts _ tw_797, hts _ tw_798⟩ ⟨gblind, va_recv hK hPc (ci := 8) (q0 := 0) rfl rfl, (gpreS hPc hK hDc hN).2⟩ rfl rfl hl.1 rfl (lv_room (Nat.le_of_ble_eq_true rfl)) dX2_timesIn_22 ⟨Nat.le_of_ble_eq_true rfl, Nat.le_of_ble_eq_true rfl⟩) (fun r_9 u_8 H locs hw_10 hP hD hS => ?_)
    replace hP : va_P D gcl [(a0, .inr (2, [.ref a1, .ref a2, .ref a3, .int x2, .int x3, .int x4, .int x5, .int x6])), (a1, .inr (8, [.ref a4])), (a4, .inl (cI, 30, .inl f0))] H := hP
    replace hD : va_D A [(a0, .inr (2, [.ref a1, .ref a2, .ref a3, .int x2, .int x3, .int x4, .int x5, .int x6])), (a1, .inr (8, [.ref a4])), (a4, .inl (cI, 30, .inl f0))] := hD
    obtain ⟨hw_11, hw_12⟩ := hw_10
    replace hw_11 : ((-400000) ≤ r_9.toInt ∧ r_9.toInt ≤ 400000) := hw_11
    replace hw_12 : (r_9.toInt = dtn f0 x0.toInt x1.toInt 6) := hw_12
    have rr_9 : zBd r_9.toInt (-2147483648) 2147483647 := n_rng r_9
    refine lv_istore (pc := 25) (lv' := [(4, .int r_9), (3, .int r_2), (0, .ref a0), (1, .int x0), (2, .int x1)]) hx hb dX2_timesIn_25 hl (by decide) rfl (fun ls hl => ?_)
    refine lv_iconst (pc := 27) (v := 2) hx hb dX2_timesIn_27 (by decide) ?_
    refine lv_iload (pc := 28) hx hb dX2_timesIn_28 (lv_at hl 0 rfl) ?_
    refine va_mabs (pc := 30) hx hb (hml.trans hl.1.symm) hown (hts _ tw_1049) (hts _ tw_632) (hts _ tw_19) (hts _ tw_633) (Nat.le_of_ble_eq_true rfl) (Nat.le_of_ble_eq_true rfl) (Nat.le_of_ble_eq_true rfl) (Nat.le_of_ble_eq_true rfl) dX2_timesIn_30 ?_
    refine lv_topi (fun x_13 ex_13 => ?_)
    have ex_13 := n_abs rfl ex_13
    have rx_13 : zBd x_13.toInt (-2147483648) 2147483647 := n_rng x_13
    refine b_imul (pc := 33) hx hb tI_2 rfl (by (first | omega | (unfold zBd at *; omega))) (by (first | omega | (unfold zBd at *; omega))) dX2_timesIn_33 (fun x_14 ex_14 => ?_)
    refine lv_iload_n (pc := 34) hx hb dX2_timesIn_34 rfl (lv_at hl 1 rfl) ?_
    refine b_iadd (pc := 35) hx hb rfl rfl (by (first | omega | (unfold zBd at *; omega))) (by (first | omega | (unfold zBd at *; omega))) dX2_timesIn_35 (fun x_15 ex_15 => ?_)
    refine lv_iconst (pc := 36) (v := 1) hx hb dX2_timesIn_36 (by decide) ?_
    refine b_isub (pc := 37) hx hb rfl tI_1 (by (first | omega | (unfold zBd at *; omega))) (by (first | omega | (unfold zBd at *; omega))) dX2_timesIn_37 (fun x_16 ex_16 => ?_)
    refine lv_iconst (pc := 38) (v := 2) hx hb dX2_timesIn_38 (by decide) ?_
    refine lv_iload_n (pc := 39) hx hb dX2_timesIn_39 rfl (lv_at hl 1 rfl) ?_
    refine b_imul (pc := 40) hx hb tI_2 rfl (by (first | omega | (unfold zBd at *; omega))) (by (first | omega | (unfold zBd at *; omega))) dX2_timesIn_40 (fun x_17 ex_17 => ?_)
    refine b_idiv (pc := 41) hx hb rfl rfl (by (first | omega | (unfold zBd at *; omega))) (by (first | omega | (unfold zBd at *; omega))) dX2_timesIn_41 (fun x_18 ex_18 => ?_)
    refine lv_istore (pc := 42) (lv' := [(5, .int x_18), (4, .int r_9), (3, .int r_2), (0, .ref a0), (1, .int x0), (2, .int x1)]) hx hb dX2_timesIn_42 hl (by decide) rfl (fun ls hl => ?_)
    refine lv_iload (pc := 44) hx hb dX2_timesIn_44 (lv_at hl 1 rfl) ?_
    refine b_if_ge (pc := 46) (tgt := 55) hx hb rfl  dX2_timesIn_46 (by decide) (fun c_19 => ?_) (fun c_19 => ?_)
    ·
      refine lv_iload (pc := 55) hx hb dX2_timesIn_55 (lv_at hl 0 rfl) ?_
      exact hret x_18 ((fun _ => 0), (fun _ => (fun _ => 0)), (fun _ => (fun _ => 0)), (fun _ => 0), (fun _ => 0)) dX2_timesIn_57 ⟨(show ((-1199999) ≤ x_18.toInt ∧ x_18.toInt ≤ 1199999) by (first | omega | (unfold zBd at *; omega))), (show tmQ (dtn f0 x0.toInt x1.toInt 6) (dtn f0 x1.toInt x1.toInt 6) x_18.toInt from tm_ok (P := x_13.toInt) (m := x_18.toInt) (y := x_17.toInt) (by (first | omega | (unfold zBd at *; omega))) (by (first | omega | (unfold zBd at *; omega))) (by (first | omega | (unfold zBd at *; omega))) (by (first | omega | (unfold zBd at *; omega))) (by (first | omega | (unfold zBd at *; omega))) (by (first | omega | (unfold zBd at *; omega))) (by (first | omega | (unfold zBd at *; omega)))), (show xtQ f0 x0.toInt x1.toInt x_18 from xt_ok hg_sh hw_5 hw_12 (P := x_13.toInt) (m := x_18.toInt) (y := x_17.toInt) (by (first | omega | (unfold zBd at *; omega))) (by (first | omega | (unfold zBd at *; omega))) (by (first | omega | (unfold zBd at *; omega))) (by (first | omega | (unfold zBd at *; omega))) (by (first | omega | (unfold zBd at *; omega))) (by (first | omega | (unfold zBd at *; omega))) (by (first | omega | (unfold zBd at *; omega))) (by (first | omega | (unfold zBd at *; omega))))⟩ (g_psub (wc := [(a0, .inr (2, [.ref a1, .ref a2, .ref a3, .int x2, .int x3, .int x4, .int x5, .int x6])), (a1, .inr (8, [.ref a4])), (a4, .inl (cI, 30, .inl f0))]) hP [0, 1, 2] rfl) (hD.sub (ws' := [(a0, .inr (2, [.ref a1, .ref a2, .ref a3, .int x2, .int x3, .int x4, .int x5, .int x6])), (a1, .inr (8, [.ref a4])), (a4, .inl (cI, 30, .inl f0))]) [0, 1, 2] (by decide) rfl) hS
    ·
      refine lv_iload (pc := 49) hx hb dX2_timesIn_49 (lv_at hl 0 rfl) ?_
      refine b_ineg (pc := 51) hx hb rfl (by (first | omega | (unfold zBd at *; omega))) dX2_timesIn_51 (fun x_20 ex_20 => ?_)
      refine lv_goto (pc := 52) (tgt := 57) hx hb dX2_timesIn_52 (by decide) ?_
      exact hret x_20 ((fun _ => 0), (fun _ => (fun _ => 0)), (fun _ => (fun _ => 0)), (fun _ => 0), (fun _ => 0)) dX2_timesIn_57 ⟨(show ((-1199999) ≤ x_20.toInt ∧ x_20.toInt ≤ 1199999) by (first | omega | (unfold zBd at *; omega))), (show tmQ (dtn f0 x0.toInt x1.toInt 6) (dtn f0 x1.toInt x1.toInt 6) x_20.toInt from tm_ok (P := x_13.toInt) (m := x_18.toInt) (y := x_17.toInt) (by (first | omega | (unfold zBd at *; omega))) (by (first | omega | (unfold zBd at *; omega))) (by (first | omega | (unfold zBd at *; omega))) (by (first | omega | (unfold zBd at *; omega))) (by (first | omega | (unfold zBd at *; omega))) (by (first | omega | (unfold zBd at *; omega))) (by (first | omega | (unfold zBd at *; omega)))), (show xtQ f0 x0.toInt x1.toInt x_20 from xt_ok hg_sh hw_5 hw_12 (P := x_13.toInt) (m := x_18.toInt) (y := x_17.toInt) (by (first | omega | (unfold zBd at *; omega))) (by (first | omega | (unfold zBd at *; omega))) (by (first | omega | (unfold zBd at *; omega))) (by (first | omega | (unfold zBd at *; omega))) (by (first | omega | (unfold zBd at *; omega))) (by (first | omega | (unfold zBd at *; omega))) (by (first | omega | (unfold zBd at *; omega))) (by (first | omega | (unfold zBd at *; omega))))⟩ (g_psub (wc := [(a0, .inr (2, [.ref a1, .ref a2, .ref a3, .int x2, .int x3, .int x4, .int x5, .int x6])), (a1, .inr (8, [.ref a4])), (a4, .inl (cI, 30, .inl f0))]) hP [0, 1, 2] rfl) (hD.sub (ws' := [(a0, .inr (2, [.ref a1, .ref a2, .ref a3, .int x2, .int x3, .int x4, .int x5, .int x6])), (a1, .inr (8, [.ref a4])), (a4, .inl (cI, 30, .inl f0))]) [0, 1, 2] (by decide) rfl) hS
  ·
    refine lv_iconst (pc := 14) (v := 0) hx hb dX2_timesIn_14 (by decide) ?_
    have k9 := tI_0
    exact hret 0 ((fun _ => 0), (fun _ => (fun _ => 0)), (fun _ => (fun _ => 0)), (fun _ => 0), (fun _ => 0)) dX2_timesIn_15 ⟨(show ((-1199999) ≤ (0 : Int32).toInt ∧ (0 : Int32).toInt ≤ 1199999) from (n_c tI_0 (by decide))), (show tmQ (dtn f0 x0.toInt x1.toInt 6) (dtn f0 x1.toInt x1.toInt 6) (0 : Int32).toInt from tm_0 (by (first | omega | (unfold zBd at *; omega)))), (show xtQ f0 x0.toInt x1.toInt 0 from xt_0 hg_sh hw_5 (by (first | omega | (unfold zBd at *; omega))) (by (first | omega | (unfold zBd at *; omega))) tI_0)⟩ (g_psub (wc := [(a0, .inr (2, [.ref a1, .ref a2, .ref a3, .int x2, .int x3, .int x4, .int x5, .int x6])), (a1, .inr (8, [.ref a4])), (a4, .inl (cI, 30, .inl f0))]) hP [0, 1, 2] rfl) (hD.sub (ws' := [(a0, .inr (2, [.ref a1, .ref a2, .ref a3, .int x2, .int x3, .int x4, .int x5, .int x6])), (a1, .inr (8, [.ref a4])), (a4, .inl (cI, 30, .inl f0))]) [0, 1, 2] (by decide) rfl) hS
set_option maxHeartbeats 4000000 in
set_option maxRecDepth 100000 in
theorem k_X2_remember (l : Launch) (D : va_G) (cB cC cI cJ : ClassId) (sz : Nat) (a0 a1 a2 a3 : Nat) (x0 x1 x2 x3 x4 x5 x6 x7 : Int32) (f0 : Nat → Int32) (hp1 : (0 ≤ x0.toInt ∧ x0.toInt ≤ 4)) (hp2 : (0 ≤ x1.toInt ∧ x1.toInt ≤ 4)) (h_x3 : zBd x3.toInt (-1) 5) (h_x4 : zBd x4.toInt 0 39) (h_x5 : zBd x5.toInt 0 40) (h_x6 : zBd x6.toInt 0 40) (hr_a0_0 : (x5.toInt + x6.toInt ≤ 40)) : Met l yX2_remember (.code yX2_remember cX2_remember 5 none :: lw_gd) ({ frames := 1, cells := 0, slots := 0, locals := 21 }) (gPre D [(cB, .byte), (cC, .char), (cI, .int), (cJ, .long)] [.ref a0, .int x0, .int x1, .int x2] [(a0, .inr (2, [.ref a1, .ref a2, .ref a3, .int x3, .int x4, .int x5, .int x6, .int x7])), (a3, .inl (cI, 120, .inl f0))] sz) (va_Qv (fun u => (0 ≤ (u.2.2.2.1 0).toInt ∧ (u.2.2.2.1 0).toInt ≤ 39) ∧ (0 ≤ (u.2.2.2.1 1).toInt ∧ (u.2.2.2.1 1).toInt ≤ 40) ∧ ((u.2.2.2.1 1).toInt + (0 : Int32).toInt ≤ 40) ∧ (remQ f0 (u.2.1 0) x4.toInt (u.2.2.2.1 0).toInt x5.toInt (u.2.2.2.1 1).toInt x0 x1 x2) ∧ ((0 : Int32).toInt = 0)) (gB D (va_A [(a0, .inr (2, [.ref a1, .ref a2, .ref a3, .int x3, .int x4, .int x5, .int x6, .int x7])), (a3, .inl (cI, 120, .inl f0))] sz) (fun u : gEx => [(a0, .inr (2, [.ref a1, .ref a2, .ref a3, .int x3, .int (u.2.2.2.1 0), .int (u.2.2.2.1 1), .int 0, .int x7])), (a3, .inl (cI, 120, .inl (u.2.1 0)))])) (va_A [(a0, .inr (2, [.ref a1, .ref a2, .ref a3, .int x3, .int x4, .int x5, .int x6, .int x7])), (a3, .inl (cI, 120, .inl f0))] sz)) 0 0 (va_A [(a0, .inr (2, [.ref a1, .ref a2, .ref a3, .int x3, .int x4, .int x5, .int x6, .int x7])), (a3, .inl (cI, 120, .inl f0))] sz) := by
  refine gOf_v (by decide +kernel) (Nat.le_of_ble_eq_true rfl) ?_
  intro p e s m args below meth c ls A Q hx hb hts hown hml hN hK hP hD hA hl hret
  replace hown : s.vm.findClass RX2 = some m.cls := hown
  have hS : va_S A s.heap s.heap [] := va_S.rf
  replace hP : va_P D gcl [(a0, .inr (2, [.ref a1, .ref a2, .ref a3, .int x3, .int x4, .int x5, .int x6, .int x7])), (a3, .inl (cI, 120, .inl f0))] s.heap := hP
  replace hl : lv_has ls 5 [(0, .ref a0), (1, .int x0), (2, .int x1), (3, .int x2)] := hl
  have rx2 : zBd x2.toInt (-2147483648) 2147483647 := n_rng x2
  have rx7 : zBd x7.toInt (-2147483648) 2147483647 := n_rng x7
  refine lv_aload_n (pc := 0) hx hb dX2_remember_0 rfl (lv_at hl 0 rfl) ?_
  refine lv_iconst (pc := 1) (v := 0) hx hb dX2_remember_1 (by decide) ?_
  refine va_put (pc := 2) (ci := 2) (v := .int 0) (ty := .int) (C := RX2) (T := TX2) (N := 8) hx hb hts iX2 tyX2 tyX2_ok nmX2 hown hK hP hD hS 0 rfl rfl 6 (by decide) (hts _ tw_399) (fun _ h9 => h9) rfl (by decide +kernel) (by decide +kernel) (by decide +kernel) (Nat.le_of_ble_eq_true rfl) dX2_remember_2 (fun H locs hP hD hS => ?_)
  replace hP : va_P D gcl [(a0, .inr (2, [.ref a1, .ref a2, .ref a3, .int x3, .int x4, .int x5, .int 0, .int x7])), (a3, .inl (cI, 120, .inl f0))] H := hP
  replace hD : va_D A [(a0, .inr (2, [.ref a1, .ref a2, .ref a3, .int x3, .int x4, .int x5, .int 0, .int x7])), (a3, .inl (cI, 120, .inl f0))] := hD
  refine lv_aload_n (pc := 5) hx hb dX2_remember_5 rfl (lv_at hl 0 rfl) ?_
  refine va_get (pc := 6) (ci := 2) (v := .int x5) (C := RX2) (T := TX2) (N := 8) hx hb hts iX2 hown hK hP 0 rfl rfl 5 (by decide) (hts _ tw_397) (fun _ h9 => h9) rfl dX2_remember_6 ?_
  have bd_h_x5 : 0 ≤ x5.toInt ∧ x5.toInt ≤ 40 := h_x5
  refine lv_bipush (pc := 9) (v := 40) hx hb dX2_remember_9 (by decide) ?_
  refine b_icmp_ne (pc := 11) (tgt := 37) hx hb rfl tI_40  dX2_remember_11 (by decide) (fun c_1 => ?_) (fun c_1 => ?_)
  ·
    refine lv_aload_n (pc := 37) hx hb dX2_remember_37 rfl (lv_at hl 0 rfl) ?_
    refine lv_aload_n (pc := 38) hx hb dX2_remember_38 rfl (lv_at hl 0 rfl) ?_
    refine va_get (pc := 39) (ci := 2) (v := .int x5) (C := RX2) (T := TX2) (N := 8) hx hb hts iX2 hown hK hP 0 rfl rfl 5 (by decide) (hts _ tw_397) (fun _ h9 => h9) rfl dX2_remember_39 ?_
    refine gc_i (pc := 42) (wc := [(a0, .inr (2, [.ref a1, .ref a2, .ref a3, .int x3, .int x4, .int x5, .int 0, .int x7]))]) (wr := [(a3, .inl (cI, 120, .inl f0))]) hP hD hS hA [0] [1] rfl rfl (by decide) (by decide) (by decide) (fun hPc hDc => va_runV (As := [.int x5]) (rest := []) ⟨hx, hb, hml, hown, hts⟩ (k_X2_slot_x l D cB cC cI cJ _ a0 a1 a2 a3 x5 x3 x4 x5 0 x7 h_x5 h_x3 h_x4 h_x5 (n_c tI_0 (by decide)) (by have k0 := tI_0; (first | omega | (unfold zBd at *; omega)))) ⟨gcwB hts tw_1057 tw_13 tw_1054 hd_yX2_slot ⟨Nat.le_of_ble_eq_true rfl, Nat.le_of_ble_eq_true rfl⟩, hts _ tw_1056, hts _ tp_43⟩ ⟨gblind, va_recv hK hPc (ci := 2) (q0 := 0) rfl rfl, (gpreS hPc hK hDc hN).2⟩ rfl rfl hl.1 rfl (lv_room (Nat.le_of_ble_eq_true rfl)) dX2_remember_42 ⟨Nat.le_of_ble_eq_true rfl, Nat.le_of_ble_eq_true rfl⟩) (fun r_3 u_2 H locs hw_4 hP hD hS => ?_)
    replace hP : va_P D gcl [(a3, .inl (cI, 120, .inl f0)), (a0, .inr (2, [.ref a1, .ref a2, .ref a3, .int x3, .int x4, .int x5, .int 0, .int x7]))] H := hP
    replace hD : va_D A [(a3, .inl (cI, 120, .inl f0)), (a0, .inr (2, [.ref a1, .ref a2, .ref a3, .int x3, .int x4, .int x5, .int 0, .int x7]))] := hD
    obtain ⟨hw_5, hw_6⟩ := hw_4
    replace hw_5 : (0 ≤ r_3.toInt ∧ r_3.toInt ≤ 117) := hw_5
    replace hw_6 : (r_3.toInt = ((x4.toInt + x5.toInt) % 40) * 3) := hw_6
    have kk0_r_3 := tI_0
    have rr_3 : zBd r_3.toInt (-2147483648) 2147483647 := n_rng r_3
    refine lv_istore (pc := 45) (lv' := [(4, .int r_3), (0, .ref a0), (1, .int x0), (2, .int x1), (3, .int x2)]) hx hb dX2_remember_45 hl (by decide) rfl (fun ls hl => ?_)
    refine lv_aload_n (pc := 47) hx hb dX2_remember_47 rfl (lv_at hl 1 rfl) ?_
    refine va_get (pc := 48) (ci := 2) (v := .ref a3) (C := RX2) (T := TX2) (N := 8) hx hb hts iX2 hown hK hP 1 rfl rfl 2 (by decide) (hts _ tw_394) (fun _ h9 => h9) rfl dX2_remember_48 ?_
    refine lv_iload (pc := 51) hx hb dX2_remember_51 (lv_at hl 0 rfl) ?_
    refine lv_iload_n (pc := 53) hx hb dX2_remember_53 rfl (lv_at hl 2 rfl) ?_
    refine e_iastore (pc := 54) hx hb hK hP hD hS 0 2 rfl rfl (n_in rfl (by (first | omega | (unfold zBd at *; omega))) (by (first | omega | (unfold zBd at *; omega)))) dX2_remember_54 (fun f_7 ef_7 H locs hP hD hS => ?_)
    replace hP : va_P D gcl [(a3, .inl (cI, 120, .inl f_7)), (a0, .inr (2, [.ref a1, .ref a2, .ref a3, .int x3, .int x4, .int x5, .int 0, .int x7]))] H := hP
    replace hD : va_D A [(a3, .inl (cI, 120, .inl f_7)), (a0, .inr (2, [.ref a1, .ref a2, .ref a3, .int x3, .int x4, .int x5, .int 0, .int x7]))] := hD
    refine lv_aload_n (pc := 55) hx hb dX2_remember_55 rfl (lv_at hl 1 rfl) ?_
    refine va_get (pc := 56) (ci := 2) (v := .ref a3) (C := RX2) (T := TX2) (N := 8) hx hb hts iX2 hown hK hP 1 rfl rfl 2 (by decide) (hts _ tw_394) (fun _ h9 => h9) rfl dX2_remember_56 ?_
    refine lv_iload (pc := 59) hx hb dX2_remember_59 (lv_at hl 0 rfl) ?_
    refine lv_iconst (pc := 61) (v := 1) hx hb dX2_remember_61 (by decide) ?_
    refine b_iadd (pc := 62) hx hb rfl tI_1 (by (first | omega | (unfold zBd at *; omega))) (by (first | omega | (unfold zBd at *; omega))) dX2_remember_62 (fun x_8 ex_8 => ?_)
    refine lv_iload_n (pc := 63) hx hb dX2_remember_63 rfl (lv_at hl 3 rfl) ?_
    refine e_iastore (pc := 64) hx hb hK hP hD hS 0 2 rfl rfl (n_in rfl (by (first | omega | (unfold zBd at *; omega))) (by (first | omega | (unfold zBd at *; omega)))) dX2_remember_64 (fun f_9 ef_9 H locs hP hD hS => ?_)
    replace hP : va_P D gcl [(a3, .inl (cI, 120, .inl f_9)), (a0, .inr (2, [.ref a1, .ref a2, .ref a3, .int x3, .int x4, .int x5, .int 0, .int x7]))] H := hP
    replace hD : va_D A [(a3, .inl (cI, 120, .inl f_9)), (a0, .inr (2, [.ref a1, .ref a2, .ref a3, .int x3, .int x4, .int x5, .int 0, .int x7]))] := hD
    refine lv_aload_n (pc := 65) hx hb dX2_remember_65 rfl (lv_at hl 1 rfl) ?_
    refine va_get (pc := 66) (ci := 2) (v := .ref a3) (C := RX2) (T := TX2) (N := 8) hx hb hts iX2 hown hK hP 1 rfl rfl 2 (by decide) (hts _ tw_394) (fun _ h9 => h9) rfl dX2_remember_66 ?_
    refine lv_iload (pc := 69) hx hb dX2_remember_69 (lv_at hl 0 rfl) ?_
    refine lv_iconst (pc := 71) (v := 2) hx hb dX2_remember_71 (by decide) ?_
    refine b_iadd (pc := 72) hx hb rfl tI_2 (by (first | omega | (unfold zBd at *; omega))) (by (first | omega | (unfold zBd at *; omega))) dX2_remember_72 (fun x_10 ex_10 => ?_)
    refine lv_iload_n (pc := 73) hx hb dX2_remember_73 rfl (lv_at hl 4 rfl) ?_
    refine e_iastore (pc := 74) hx hb hK hP hD hS 0 2 rfl rfl (n_in rfl (by (first | omega | (unfold zBd at *; omega))) (by (first | omega | (unfold zBd at *; omega)))) dX2_remember_74 (fun f_11 ef_11 H locs hP hD hS => ?_)
    replace hP : va_P D gcl [(a3, .inl (cI, 120, .inl f_11)), (a0, .inr (2, [.ref a1, .ref a2, .ref a3, .int x3, .int x4, .int x5, .int 0, .int x7]))] H := hP
    replace hD : va_D A [(a3, .inl (cI, 120, .inl f_11)), (a0, .inr (2, [.ref a1, .ref a2, .ref a3, .int x3, .int x4, .int x5, .int 0, .int x7]))] := hD
    refine lv_aload_n (pc := 75) hx hb dX2_remember_75 rfl (lv_at hl 1 rfl) ?_
    refine lv_dup (pc := 76) hx hb dX2_remember_76 rfl ?_
    refine va_get (pc := 77) (ci := 2) (v := .int x5) (C := RX2) (T := TX2) (N := 8) hx hb hts iX2 hown hK hP 1 rfl rfl 5 (by decide) (hts _ tw_397) (fun _ h9 => h9) rfl dX2_remember_77 ?_
    refine lv_iconst (pc := 80) (v := 1) hx hb dX2_remember_80 (by decide) ?_
    refine b_iadd (pc := 81) hx hb rfl tI_1 (by (first | omega | (unfold zBd at *; omega))) (by (first | omega | (unfold zBd at *; omega))) dX2_remember_81 (fun x_12 ex_12 => ?_)
    refine va_put (pc := 82) (ci := 2) (v := .int x_12) (ty := .int) (C := RX2) (T := TX2) (N := 8) hx hb hts iX2 tyX2 tyX2_ok nmX2 hown hK hP hD hS 1 rfl rfl 5 (by decide) (hts _ tw_397) (fun _ h9 => h9) rfl (by decide +kernel) rfl rfl (Nat.le_of_ble_eq_true rfl) dX2_remember_82 (fun H locs hP hD hS => ?_)
    replace hP : va_P D gcl [(a3, .inl (cI, 120, .inl f_11)), (a0, .inr (2, [.ref a1, .ref a2, .ref a3, .int x3, .int x4, .int x_12, .int 0, .int x7]))] H := hP
    replace hD : va_D A [(a3, .inl (cI, 120, .inl f_11)), (a0, .inr (2, [.ref a1, .ref a2, .ref a3, .int x3, .int x4, .int x_12, .int 0, .int x7]))] := hD
    have k8_0 := tI_0
    exact hret ((fun _ => 0), (fun k => [f_11].getD k (fun _ => 0)), (fun _ => (fun _ => 0)), (fun k => [x4, x_12].getD k 0), (fun _ => 0)) dX2_remember_85 ⟨(show (0 ≤ (x4 : Int32).toInt ∧ (x4 : Int32).toInt ≤ 39) from h_x4), (show (0 ≤ (x_12 : Int32).toInt ∧ (x_12 : Int32).toInt ≤ 40) by have k8_0 := tI_0; (first | omega | (unfold zBd at *; omega))), (show ((x_12 : Int32).toInt + (0 : Int32).toInt ≤ 40) by have k8_0 := tI_0; (first | omega | (unfold zBd at *; omega))), (show remQ f0 f_11 x4.toInt x4.toInt x5.toInt x_12.toInt x0 x1 x2 from ⟨r_3.toInt, (by rw [e_at ef_11 (show _ = r_3.toInt + 2 by (first | omega | (unfold zBd at *; omega))), e_at ef_9 (show _ = r_3.toInt + 1 by (first | omega | (unfold zBd at *; omega))), ef_7]), (by (first | omega | (unfold zBd at *; omega)))⟩), (show (0 : Int32).toInt = 0 by have k8_0 := tI_0; (first | omega | (unfold zBd at *; omega)))⟩ (g_psub (wc := [(a0, .inr (2, [.ref a1, .ref a2, .ref a3, .int x3, .int x4, .int x_12, .int 0, .int x7])), (a3, .inl (cI, 120, .inl f_11))]) hP [1, 0] rfl) (hD.sub (ws' := [(a0, .inr (2, [.ref a1, .ref a2, .ref a3, .int x3, .int x4, .int x_12, .int 0, .int x7])), (a3, .inl (cI, 120, .inl f_11))]) [1, 0] (by decide) rfl) hS
  ·
    refine lv_aload_n (pc := 14) hx hb dX2_remember_14 rfl (lv_at hl 0 rfl) ?_
    refine lv_aload_n (pc := 15) hx hb dX2_remember_15 rfl (lv_at hl 0 rfl) ?_
    refine va_get (pc := 16) (ci := 2) (v := .int x4) (C := RX2) (T := TX2) (N := 8) hx hb hts iX2 hown hK hP 0 rfl rfl 4 (by decide) (hts _ tw_396) (fun _ h9 => h9) rfl dX2_remember_16 ?_
    have bd_h_x4 : 0 ≤ x4.toInt ∧ x4.toInt ≤ 39 := h_x4
    refine lv_iconst (pc := 19) (v := 1) hx hb dX2_remember_19 (by decide) ?_
    refine b_iadd (pc := 20) hx hb rfl tI_1 (by (first | omega | (unfold zBd at *; omega))) (by (first | omega | (unfold zBd at *; omega))) dX2_remember_20 (fun x_13 ex_13 => ?_)
    refine lv_bipush (pc := 21) (v := 40) hx hb dX2_remember_21 (by decide) ?_
    refine c_irem (pc := 23) hx hb rfl tI_40 (by (first | omega | (unfold zBd at *; omega))) (by (first | omega | (unfold zBd at *; omega))) dX2_remember_23 (fun x_14 ex_14 => ?_)
    refine va_put (pc := 24) (ci := 2) (v := .int x_14) (ty := .int) (C := RX2) (T := TX2) (N := 8) hx hb hts iX2 tyX2 tyX2_ok nmX2 hown hK hP hD hS 0 rfl rfl 4 (by decide) (hts _ tw_396) (fun _ h9 => h9) rfl (by decide +kernel) rfl rfl (Nat.le_of_ble_eq_true rfl) dX2_remember_24 (fun H locs hP hD hS => ?_)
    replace hP : va_P D gcl [(a0, .inr (2, [.ref a1, .ref a2, .ref a3, .int x3, .int x_14, .int x5, .int 0, .int x7])), (a3, .inl (cI, 120, .inl f0))] H := hP
    replace hD : va_D A [(a0, .inr (2, [.ref a1, .ref a2, .ref a3, .int x3, .int x_14, .int x5, .int 0, .int x7])), (a3, .inl (cI, 120, .inl f0))] := hD
    refine lv_aload_n (pc := 27) hx hb dX2_remember_27 rfl (lv_at hl 0 rfl) ?_
    refine lv_dup (pc := 28) hx hb dX2_remember_28 rfl ?_
    refine va_get (pc := 29) (ci := 2) (v := .int x5) (C := RX2) (T := TX2) (N := 8) hx hb hts iX2 hown hK hP 0 rfl rfl 5 (by decide) (hts _ tw_397) (fun _ h9 => h9) rfl dX2_remember_29 ?_
    refine lv_iconst (pc := 32) (v := 1) hx hb dX2_remember_32 (by decide) ?_
    refine b_isub (pc := 33) hx hb rfl tI_1 (by (first | omega | (unfold zBd at *; omega))) (by (first | omega | (unfold zBd at *; omega))) dX2_remember_33 (fun x_15 ex_15 => ?_)
    refine va_put (pc := 34) (ci := 2) (v := .int x_15) (ty := .int) (C := RX2) (T := TX2) (N := 8) hx hb hts iX2 tyX2 tyX2_ok nmX2 hown hK hP hD hS 0 rfl rfl 5 (by decide) (hts _ tw_397) (fun _ h9 => h9) rfl (by decide +kernel) rfl rfl (Nat.le_of_ble_eq_true rfl) dX2_remember_34 (fun H locs hP hD hS => ?_)
    replace hP : va_P D gcl [(a0, .inr (2, [.ref a1, .ref a2, .ref a3, .int x3, .int x_14, .int x_15, .int 0, .int x7])), (a3, .inl (cI, 120, .inl f0))] H := hP
    replace hD : va_D A [(a0, .inr (2, [.ref a1, .ref a2, .ref a3, .int x3, .int x_14, .int x_15, .int 0, .int x7])), (a3, .inl (cI, 120, .inl f0))] := hD
    refine lv_aload_n (pc := 37) hx hb dX2_remember_37 rfl (lv_at hl 0 rfl) ?_
    refine lv_aload_n (pc := 38) hx hb dX2_remember_38 rfl (lv_at hl 0 rfl) ?_
    refine va_get (pc := 39) (ci := 2) (v := .int x_15) (C := RX2) (T := TX2) (N := 8) hx hb hts iX2 hown hK hP 0 rfl rfl 5 (by decide) (hts _ tw_397) (fun _ h9 => h9) rfl dX2_remember_39 ?_
    refine gc_i (pc := 42) (wc := [(a0, .inr (2, [.ref a1, .ref a2, .ref a3, .int x3, .int x_14, .int x_15, .int 0, .int x7]))]) (wr := [(a3, .inl (cI, 120, .inl f0))]) hP hD hS hA [0] [1] rfl rfl (by decide) (by decide) (by decide) (fun hPc hDc => va_runV (As := [.int x_15]) (rest := []) ⟨hx, hb, hml, hown, hts⟩ (k_X2_slot_x l D cB cC cI cJ _ a0 a1 a2 a3 x_15 x3 x_14 x_15 0 x7 (by have k0 := tI_0; (first | omega | (unfold zBd at *; omega))) h_x3 (by have k0 := tI_0; (first | omega | (unfold zBd at *; omega))) (by have k0 := tI_0; (first | omega | (unfold zBd at *; omega))) (n_c tI_0 (by decide)) (by have k0 := tI_0; (first | omega | (unfold zBd at *; omega)))) ⟨gcwB hts tw_1057 tw_13 tw_1054 hd_yX2_slot ⟨Nat.le_of_ble_eq_true rfl, Nat.le_of_ble_eq_true rfl⟩, hts _ tw_1056, hts _ tp_43⟩ ⟨gblind, va_recv hK hPc (ci := 2) (q0 := 0) rfl rfl, (gpreS hPc hK hDc hN).2⟩ rfl rfl hl.1 rfl (lv_room (Nat.le_of_ble_eq_true rfl)) dX2_remember_42 ⟨Nat.le_of_ble_eq_true rfl, Nat.le_of_ble_eq_true rfl⟩) (fun r_17 u_16 H locs hw_18 hP hD hS => ?_)
    replace hP : va_P D gcl [(a3, .inl (cI, 120, .inl f0)), (a0, .inr (2, [.ref a1, .ref a2, .ref a3, .int x3, .int x_14, .int x_15, .int 0, .int x7]))] H := hP
    replace hD : va_D A [(a3, .inl (cI, 120, .inl f0)), (a0, .inr (2, [.ref a1, .ref a2, .ref a3, .int x3, .int x_14, .int x_15, .int 0, .int x7]))] := hD
    obtain ⟨hw_19, hw_20⟩ := hw_18
    replace hw_19 : (0 ≤ r_17.toInt ∧ r_17.toInt ≤ 117) := hw_19
    replace hw_20 : (r_17.toInt = ((x_14.toInt + x_15.toInt) % 40) * 3) := hw_20
    have kk0_r_17 := tI_0
    have rr_17 : zBd r_17.toInt (-2147483648) 2147483647 := n_rng r_17
    refine lv_istore (pc := 45) (lv' := [(4, .int r_17), (0, .ref a0), (1, .int x0), (2, .int x1), (3, .int x2)]) hx hb dX2_remember_45 hl (by decide) rfl (fun ls hl => ?_)
    refine lv_aload_n (pc := 47) hx hb dX2_remember_47 rfl (lv_at hl 1 rfl) ?_
    refine va_get (pc := 48) (ci := 2) (v := .ref a3) (C := RX2) (T := TX2) (N := 8) hx hb hts iX2 hown hK hP 1 rfl rfl 2 (by decide) (hts _ tw_394) (fun _ h9 => h9) rfl dX2_remember_48 ?_
    refine lv_iload (pc := 51) hx hb dX2_remember_51 (lv_at hl 0 rfl) ?_
    refine lv_iload_n (pc := 53) hx hb dX2_remember_53 rfl (lv_at hl 2 rfl) ?_
    refine e_iastore (pc := 54) hx hb hK hP hD hS 0 2 rfl rfl (n_in rfl (by (first | omega | (unfold zBd at *; omega))) (by (first | omega | (unfold zBd at *; omega)))) dX2_remember_54 (fun f_21 ef_21 H locs hP hD hS => ?_)
    replace hP : va_P D gcl [(a3, .inl (cI, 120, .inl f_21)), (a0, .inr (2, [.ref a1, .ref a2, .ref a3, .int x3, .int x_14, .int x_15, .int 0, .int x7]))] H := hP
    replace hD : va_D A [(a3, .inl (cI, 120, .inl f_21)), (a0, .inr (2, [.ref a1, .ref a2, .ref a3, .int x3, .int x_14, .int x_15, .int 0, .int x7]))] := hD
    refine lv_aload_n (pc := 55) hx hb dX2_remember_55 rfl (lv_at hl 1 rfl) ?_
    refine va_get (pc := 56) (ci := 2) (v := .ref a3) (C := RX2) (T := TX2) (N := 8) hx hb hts iX2 hown hK hP 1 rfl rfl 2 (by decide) (hts _ tw_394) (fun _ h9 => h9) rfl dX2_remember_56 ?_
    refine lv_iload (pc := 59) hx hb dX2_remember_59 (lv_at hl 0 rfl) ?_
    refine lv_iconst (pc := 61) (v := 1) hx hb dX2_remember_61 (by decide) ?_
    refine b_iadd (pc := 62) hx hb rfl tI_1 (by (first | omega | (unfold zBd at *; omega))) (by (first | omega | (unfold zBd at *; omega))) dX2_remember_62 (fun x_22 ex_22 => ?_)
    refine lv_iload_n (pc := 63) hx hb dX2_remember_63 rfl (lv_at hl 3 rfl) ?_
    refine e_iastore (pc := 64) hx hb hK hP hD hS 0 2 rfl rfl (n_in rfl (by (first | omega | (unfold zBd at *; omega))) (by (first | omega | (unfold zBd at *; omega)))) dX2_remember_64 (fun f_23 ef_23 H locs hP hD hS => ?_)
    replace hP : va_P D gcl [(a3, .inl (cI, 120, .inl f_23)), (a0, .inr (2, [.ref a1, .ref a2, .ref a3, .int x3, .int x_14, .int x_15, .int 0, .int x7]))] H := hP
    replace hD : va_D A [(a3, .inl (cI, 120, .inl f_23)), (a0, .inr (2, [.ref a1, .ref a2, .ref a3, .int x3, .int x_14, .int x_15, .int 0, .int x7]))] := hD
    refine lv_aload_n (pc := 65) hx hb dX2_remember_65 rfl (lv_at hl 1 rfl) ?_
    refine va_get (pc := 66) (ci := 2) (v := .ref a3) (C := RX2) (T := TX2) (N := 8) hx hb hts iX2 hown hK hP 1 rfl rfl 2 (by decide) (hts _ tw_394) (fun _ h9 => h9) rfl dX2_remember_66 ?_
    refine lv_iload (pc := 69) hx hb dX2_remember_69 (lv_at hl 0 rfl) ?_
    refine lv_iconst (pc := 71) (v := 2) hx hb dX2_remember_71 (by decide) ?_
    refine b_iadd (pc := 72) hx hb rfl tI_2 (by (first | omega | (unfold zBd at *; omega))) (by (first | omega | (unfold zBd at *; omega))) dX2_remember_72 (fun x_24 ex_24 => ?_)
    refine lv_iload_n (pc := 73) hx hb dX2_remember_73 rfl (lv_at hl 4 rfl) ?_
    refine e_iastore (pc := 74) hx hb hK hP hD hS 0 2 rfl rfl (n_in rfl (by (first | omega | (unfold zBd at *; omega))) (by (first | omega | (unfold zBd at *; omega)))) dX2_remember_74 (fun f_25 ef_25 H locs hP hD hS => ?_)
    replace hP : va_P D gcl [(a3, .inl (cI, 120, .inl f_25)), (a0, .inr (2, [.ref a1, .ref a2, .ref a3, .int x3, .int x_14, .int x_15, .int 0, .int x7]))] H := hP
    replace hD : va_D A [(a3, .inl (cI, 120, .inl f_25)), (a0, .inr (2, [.ref a1, .ref a2, .ref a3, .int x3, .int x_14, .int x_15, .int 0, .int x7]))] := hD
    refine lv_aload_n (pc := 75) hx hb dX2_remember_75 rfl (lv_at hl 1 rfl) ?_
    refine lv_dup (pc := 76) hx hb dX2_remember_76 rfl ?_
    refine va_get (pc := 77) (ci := 2) (v := .int x_15) (C := RX2) (T := TX2) (N := 8) hx hb hts iX2 hown hK hP 1 rfl rfl 5 (by decide) (hts _ tw_397) (fun _ h9 => h9) rfl dX2_remember_77 ?_
    refine lv_iconst (pc := 80) (v := 1) hx hb dX2_remember_80 (by decide) ?_
    refine b_iadd (pc := 81) hx hb rfl tI_1 (by (first | omega | (unfold zBd at *; omega))) (by (first | omega | (unfold zBd at *; omega))) dX2_remember_81 (fun x_26 ex_26 => ?_)
    refine va_put (pc := 82) (ci := 2) (v := .int x_26) (ty := .int) (C := RX2) (T := TX2) (N := 8) hx hb hts iX2 tyX2 tyX2_ok nmX2 hown hK hP hD hS 1 rfl rfl 5 (by decide) (hts _ tw_397) (fun _ h9 => h9) rfl (by decide +kernel) rfl rfl (Nat.le_of_ble_eq_true rfl) dX2_remember_82 (fun H locs hP hD hS => ?_)
    replace hP : va_P D gcl [(a3, .inl (cI, 120, .inl f_25)), (a0, .inr (2, [.ref a1, .ref a2, .ref a3, .int x3, .int x_14, .int x_26, .int 0, .int x7]))] H := hP
    replace hD : va_D A [(a3, .inl (cI, 120, .inl f_25)), (a0, .inr (2, [.ref a1, .ref a2, .ref a3, .int x3, .int x_14, .int x_26, .int 0, .int x7]))] := hD
    have k8_0 := tI_0
    exact hret ((fun _ => 0), (fun k => [f_25].getD k (fun _ => 0)), (fun _ => (fun _ => 0)), (fun k => [x_14, x_26].getD k 0), (fun _ => 0)) dX2_remember_85 ⟨(show (0 ≤ (x_14 : Int32).toInt ∧ (x_14 : Int32).toInt ≤ 39) by have k8_0 := tI_0; (first | omega | (unfold zBd at *; omega))), (show (0 ≤ (x_26 : Int32).toInt ∧ (x_26 : Int32).toInt ≤ 40) by have k8_0 := tI_0; (first | omega | (unfold zBd at *; omega))), (show ((x_26 : Int32).toInt + (0 : Int32).toInt ≤ 40) by have k8_0 := tI_0; (first | omega | (unfold zBd at *; omega))), (show remQ f0 f_25 x4.toInt x_14.toInt x5.toInt x_26.toInt x0 x1 x2 from ⟨r_17.toInt, (by rw [e_at ef_25 (show _ = r_17.toInt + 2 by (first | omega | (unfold zBd at *; omega))), e_at ef_23 (show _ = r_17.toInt + 1 by (first | omega | (unfold zBd at *; omega))), ef_21]), (by (first | omega | (unfold zBd at *; omega)))⟩), (show (0 : Int32).toInt = 0 by have k8_0 := tI_0; (first | omega | (unfold zBd at *; omega)))⟩ (g_psub (wc := [(a0, .inr (2, [.ref a1, .ref a2, .ref a3, .int x3, .int x_14, .int x_26, .int 0, .int x7])), (a3, .inl (cI, 120, .inl f_25))]) hP [1, 0] rfl) (hD.sub (ws' := [(a0, .inr (2, [.ref a1, .ref a2, .ref a3, .int x3, .int x_14, .int x_26, .int 0, .int x7])), (a3, .inl (cI, 120, .inl f_25))]) [1, 0] (by decide) rfl) hS
set_option maxHeartbeats 4000000 in
set_option maxRecDepth 100000 in
theorem k_X8_takeAway_e (l : Launch) (D : va_G) (cB cC cI cJ : ClassId) (sz : Nat) (a0 a1 : Nat) (x0 x1 x2 : Int32) (f0 : Nat → Int32) (hp1 : (0 ≤ x0.toInt ∧ x0.toInt ≤ 4)) (hp2 : (0 ≤ x1.toInt ∧ x1.toInt ≤ 4)) (hg__ne : ¬ x0.toInt = x1.toInt) : Met l yX8_takeAway (.code yX8_takeAway cX8_takeAway 5 none :: lw_gd) ({ frames := 1, cells := 0, slots := 0, locals := 23 }) (gPre D [(cB, .byte), (cC, .char), (cI, .int), (cJ, .long)] [.ref a0, .int x0, .int x1, .int x2] [(a0, .inr (8, [.ref a1])), (a1, .inl (cI, 30, .inl f0))] sz) (va_Qv (fun u => (taQ f0 (u.2.1 0) x0.toInt x1.toInt x2 6)) (gB D (va_A [(a0, .inr (8, [.ref a1])), (a1, .inl (cI, 30, .inl f0))] sz) (fun u : gEx => [(a0, .inr (8, [.ref a1])), (a1, .inl (cI, 30, .inl (u.2.1 0)))])) (va_A [(a0, .inr (8, [.ref a1])), (a1, .inl (cI, 30, .inl f0))] sz)) 0 0 (va_A [(a0, .inr (8, [.ref a1])), (a1, .inl (cI, 30, .inl f0))] sz) := by
  refine gOf_v (by decide +kernel) (Nat.le_of_ble_eq_true rfl) ?_
  intro p e s m args below meth c ls A Q hx hb hts hown hml hN hK hP hD hA hl hret
  replace hown : s.vm.findClass RX8 = some m.cls := hown
  have hS : va_S A s.heap s.heap [] := va_S.rf
  replace hP : va_P D gcl [(a0, .inr (8, [.ref a1])), (a1, .inl (cI, 30, .inl f0))] s.heap := hP
  replace hl : lv_has ls 5 [(0, .ref a0), (1, .int x0), (2, .int x1), (3, .int x2)] := hl
  have rx2 : zBd x2.toInt (-2147483648) 2147483647 := n_rng x2
  refine lv_iconst (pc := 0) (v := 0) hx hb dX8_takeAway_0 (by decide) ?_
  refine lv_istore (pc := 1) (lv' := [(4, .int 0), (0, .ref a0), (1, .int x0), (2, .int x1), (3, .int x2)]) hx hb dX8_takeAway_1 hl (by decide) rfl (fun ls hl => ?_)
  have lp_5 : ∀ (n : Nat) (x_1 : Int32) (f_3 : Nat → Int32) (H : Heap) (locs : List Loc) (ls : Array Slot), (0 ≤ x_1.toInt ∧ x_1.toInt ≤ 6) → (taQ f0 f_3 x0.toInt x1.toInt x2 x_1.toInt) → (2147483647 - x_1.toInt).toNat < n → va_P D gcl [(a0, .inr (8, [.ref a1])), (a1, .inl (cI, 30, .inl f_3))] H → va_D A [(a0, .inr (8, [.ref a1])), (a1, .inl (cI, 30, .inl f_3))] → va_S A s.heap H locs → lv_has ls 5 [(4, .int x_1), (0, .ref a0), (1, .int x0), (2, .int x1), (3, .int x2)] → W p l e ({ frames := 1, cells := 0, slots := 0, locals := 23 }) s m args below meth c H locs 0 0 Q (F0 m 3 ls []) := by
    intro n
    induction n with
    | zero => intro x_1 f_3 H locs ls hi_2 hi_4 hmu; exact absurd hmu (Nat.not_lt_zero _)
    | succ n ih_lp_5 =>
      intro x_1 f_3 H locs ls hi_2 hi_4 hmu_lp_5 hP hD hS hl
      refine lv_iload (pc := 3) hx hb dX8_takeAway_3 (lv_at hl 0 rfl) ?_
      refine lv_bipush (pc := 5) (v := 6) hx hb dX8_takeAway_5 (by decide) ?_
      refine b_icmp_ge (pc := 7) (tgt := 40) hx hb rfl tI_6  dX8_takeAway_7 (by decide) (fun c_6 => ?_) (fun c_6 => ?_)
      ·
        exact hret ((fun _ => 0), (fun k => [f_3].getD k (fun _ => 0)), (fun _ => (fun _ => 0)), (fun _ => 0), (fun _ => 0)) dX8_takeAway_40 (show taQ f0 f_3 x0.toInt x1.toInt x2 6 from (by have e9 : x_1.toInt = 6 := (by (first | omega | (unfold zBd at *; omega))); have q9 := hi_4; rw [e9] at q9; exact q9)) (g_psub (wc := [(a0, .inr (8, [.ref a1])), (a1, .inl (cI, 30, .inl f_3))]) hP [0, 1] rfl) (hD.sub (ws' := [(a0, .inr (8, [.ref a1])), (a1, .inl (cI, 30, .inl f_3))]) [0, 1] (by decide) rfl) hS
      ·
        refine lv_aload_n (pc := 10) hx hb dX8_takeAway_10 rfl (lv_at hl 1 rfl) ?_
        refine lv_iload (pc := 11) hx hb dX8_takeAway_11 (lv_at hl 0 rfl) ?_
        refine lv_iload_n (pc := 13) hx hb dX8_takeAway_13 rfl (lv_at hl 2 rfl) ?_
        refine lv_aload_n (pc := 14) hx hb dX8_takeAway_14 rfl (lv_at hl 1 rfl) ?_
        refine lv_iload (pc := 15) hx hb dX8_takeAway_15 (lv_at hl 0 rfl) ?_
        refine lv_iload_n (pc := 17) hx hb dX8_takeAway_17 rfl (lv_at hl 2 rfl) ?_
        refine gc_i (pc := 18) (wc := [(a0, .inr (8, [.ref a1])), (a1, .inl (cI, 30, .inl f_3))]) (wr := []) hP hD hS hA [0, 1] [] rfl rfl (by decide) (by decide) (by decide) (fun hPc hDc => va_runV (As := [.int x_1, .int x0]) (rest := [.int x0, .int x_1, .ref a0]) ⟨hx, hb, hml, hown, hts⟩ (k_X8_at_e l D cB cC cI cJ _ a0 a1 x_1 x0 f_3 (by  (first | omega | (unfold zBd at *; omega))) hp1) ⟨gcwB hts tw_791 tw_5 tw_800 hd_yX8_at ⟨Nat.le_of_ble_eq_true rfl, Nat.le_of_ble_eq_true rfl⟩, hts _ tw_789, hts _ tw_790⟩ ⟨gblind, va_recv hK hPc (ci := 8) (q0 := 0) rfl rfl, (gpreS hPc hK hDc hN).2⟩ rfl rfl hl.1 rfl (lv_room (Nat.le_of_ble_eq_true rfl)) dX8_takeAway_18 ⟨Nat.le_of_ble_eq_true rfl, Nat.le_of_ble_eq_true rfl⟩) (fun r_8 u_7 H locs hw_9 hP hD hS => ?_)
        replace hP : va_P D gcl [(a0, .inr (8, [.ref a1])), (a1, .inl (cI, 30, .inl f_3))] H := hP
        replace hD : va_D A [(a0, .inr (8, [.ref a1])), (a1, .inl (cI, 30, .inl f_3))] := hD
        have hw_10 : (r_8 = f_3 (6 * x0.toInt + x_1.toInt).toNat) := hw_9
        have rr_8 : zBd r_8.toInt (-2147483648) 2147483647 := n_rng r_8
        refine lv_iload_n (pc := 21) hx hb dX8_takeAway_21 rfl (lv_at hl 4 rfl) ?_
        refine lv_aload_n (pc := 22) hx hb dX8_takeAway_22 rfl (lv_at hl 1 rfl) ?_
        refine lv_iload (pc := 23) hx hb dX8_takeAway_23 (lv_at hl 0 rfl) ?_
        refine lv_iload_n (pc := 25) hx hb dX8_takeAway_25 rfl (lv_at hl 3 rfl) ?_
        refine gc_i (pc := 26) (wc := [(a0, .inr (8, [.ref a1])), (a1, .inl (cI, 30, .inl f_3))]) (wr := []) hP hD hS hA [0, 1] [] rfl rfl (by decide) (by decide) (by decide) (fun hPc hDc => va_runV (As := [.int x_1, .int x1]) (rest := [.int x2, .int r_8, .int x0, .int x_1, .ref a0]) ⟨hx, hb, hml, hown, hts⟩ (k_X8_at_e l D cB cC cI cJ _ a0 a1 x_1 x1 f_3 (by  (first | omega | (unfold zBd at *; omega))) hp2) ⟨gcwB hts tw_791 tw_5 tw_800 hd_yX8_at ⟨Nat.le_of_ble_eq_true rfl, Nat.le_of_ble_eq_true rfl⟩, hts _ tw_789, hts _ tw_790⟩ ⟨gblind, va_recv hK hPc (ci := 8) (q0 := 0) rfl rfl, (gpreS hPc hK hDc hN).2⟩ rfl rfl hl.1 rfl (lv_room (Nat.le_of_ble_eq_true rfl)) dX8_takeAway_26 ⟨Nat.le_of_ble_eq_true rfl, Nat.le_of_ble_eq_true rfl⟩) (fun r_12 u_11 H locs hw_13 hP hD hS => ?_)
        replace hP : va_P D gcl [(a0, .inr (8, [.ref a1])), (a1, .inl (cI, 30, .inl f_3))] H := hP
        replace hD : va_D A [(a0, .inr (8, [.ref a1])), (a1, .inl (cI, 30, .inl f_3))] := hD
        have hw_14 : (r_12 = f_3 (6 * x1.toInt + x_1.toInt).toNat) := hw_13
        have rr_12 : zBd r_12.toInt (-2147483648) 2147483647 := n_rng r_12
        refine lv_imul (pc := 29) hx hb dX8_takeAway_29 ?_
        refine lv_topi (fun x_15 ex_15 => ?_)
        have rx_15 : zBd x_15.toInt (-2147483648) 2147483647 := n_rng x_15
        refine lv_isub (pc := 30) hx hb dX8_takeAway_30 ?_
        refine lv_topi (fun x_16 ex_16 => ?_)
        have rx_16 : zBd x_16.toInt (-2147483648) 2147483647 := n_rng x_16
        refine gc_v (pc := 31) (wc := [(a0, .inr (8, [.ref a1])), (a1, .inl (cI, 30, .inl f_3))]) (wr := []) hP hD hS hA [0, 1] [] rfl rfl (by decide) (by decide) (by decide) (fun hPc hDc => va_runV (As := [.int x_1, .int x0, .int x_16]) (rest := []) ⟨hx, hb, hml, hown, hts⟩ (k_X8_setAt_e l D cB cC cI cJ _ a0 a1 x_1 x0 x_16 f_3 (by  (first | omega | (unfold zBd at *; omega))) hp1) ⟨gcwB hts tw_637 tw_5 tw_1066 hd_yX8_setAt ⟨Nat.le_of_ble_eq_true rfl, Nat.le_of_ble_eq_true rfl⟩, hts _ tw_635, hts _ tw_636⟩ ⟨gblind, va_recv hK hPc (ci := 8) (q0 := 0) rfl rfl, (gpreS hPc hK hDc hN).2⟩ rfl rfl hl.1 rfl (lv_room (Nat.le_of_ble_eq_true rfl)) dX8_takeAway_31 ⟨Nat.le_of_ble_eq_true rfl, Nat.le_of_ble_eq_true rfl⟩) (fun u_17 H locs hw_19 hP hD hS => ?_)
        replace hP : va_P D gcl [(a0, .inr (8, [.ref a1])), (a1, .inl (cI, 30, .inl (u_17.2.1 0)))] H := hP
        replace hD : va_D A [(a0, .inr (8, [.ref a1])), (a1, .inl (cI, 30, .inl (u_17.2.1 0)))] := hD
        have hw_20 : ((u_17.2.1 0) = upd f_3 (6 * x0.toInt + x_1.toInt).toNat x_16) := hw_19
        refine b_iinc (pc := 34) hx hb dX8_takeAway_34 hl (k := 0) rfl rfl tI_1 (by (first | omega | (unfold zBd at *; omega))) (by (first | omega | (unfold zBd at *; omega))) (by decide) (fun x_21 ex_21 ls hl => ?_)
        replace hl : lv_has ls 5 [(4, .int x_21), (0, .ref a0), (1, .int x0), (2, .int x1), (3, .int x2)] := hl
        refine lv_goto (pc := 37) (tgt := 3) hx hb dX8_takeAway_37 (by decide) ?_
        exact ih_lp_5 x_21 (u_17.2.1 0) _ _ ls (by (first | omega | (unfold zBd at *; omega))) (ta_step hi_4 hw_10 hw_14 ex_15 ex_16 hw_20 rfl (by (first | omega | (unfold zBd at *; omega))) (by (first | omega | (unfold zBd at *; omega))) hg__ne (by (first | omega | (unfold zBd at *; omega))) (by (first | omega | (unfold zBd at *; omega))) (by (first | omega | (unfold zBd at *; omega)))) (by (first | omega | (unfold zBd at *; omega))) hP hD hS (lv_sub hl [0, 1, 2, 3, 4] rfl)
  exact lp_5 _ 0 f0 _ _ ls (n_c tI_0 (by decide)) (ta_0 (by decide)) (Nat.lt_succ_self _) hP hD hS (lv_sub hl [0, 1, 2, 3, 4] rfl)
set_option maxHeartbeats 4000000 in
set_option maxRecDepth 100000 in
theorem k_X2_takeAway_e (l : Launch) (D : va_G) (cB cC cI cJ : ClassId) (sz : Nat) (a0 a1 a2 a3 a4 : Nat) (x0 x1 x2 x3 x4 x5 x6 x7 : Int32) (f0 : Nat → Int32) (g0 : Nat → Int64) (hp1 : (0 ≤ x0.toInt ∧ x0.toInt ≤ 4)) (hp2 : (0 ≤ x1.toInt ∧ x1.toInt ≤ 4)) (h_x3 : zBd x3.toInt (-1) 5) (h_x4 : zBd x4.toInt 0 39) (h_x5 : zBd x5.toInt 0 40) (h_x6 : zBd x6.toInt 0 40) (hr_a0_0 : (x5.toInt + x6.toInt ≤ 40)) (hg__ne : ¬ x0.toInt = x1.toInt) : Met l yX2_takeAway (.code yX2_takeAway cX2_takeAway 5 none :: lw_gd) ({ frames := 2, cells := 0, slots := 0, locals := 47 }) (gPre D [(cB, .byte), (cC, .char), (cI, .int), (cJ, .long)] [.ref a0, .int x0, .int x1, .int x2] [(a0, .inr (2, [.ref a1, .ref a2, .ref a3, .int x3, .int x4, .int x5, .int x6, .int x7])), (a1, .inr (8, [.ref a4])), (a4, .inl (cI, 30, .inl f0)), (a2, .inl (cJ, 25, .inr (.inl g0)))] sz) (va_Qv (fun u => (taQ f0 (u.2.1 0) x0.toInt x1.toInt x2 6)) (gB D (va_A [(a0, .inr (2, [.ref a1, .ref a2, .ref a3, .int x3, .int x4, .int x5, .int x6, .int x7])), (a1, .inr (8, [.ref a4])), (a4, .inl (cI, 30, .inl f0)), (a2, .inl (cJ, 25, .inr (.inl g0)))] sz) (fun u : gEx => [(a0, .inr (2, [.ref a1, .ref a2, .ref a3, .int x3, .int x4, .int x5, .int x6, .int x7])), (a1, .inr (8, [.ref a4])), (a4, .inl (cI, 30, .inl (u.2.1 0))), (a2, .inl (cJ, 25, .inr (.inl (u.2.2.1 0))))])) (va_A [(a0, .inr (2, [.ref a1, .ref a2, .ref a3, .int x3, .int x4, .int x5, .int x6, .int x7])), (a1, .inr (8, [.ref a4])), (a4, .inl (cI, 30, .inl f0)), (a2, .inl (cJ, 25, .inr (.inl g0)))] sz)) 0 0 (va_A [(a0, .inr (2, [.ref a1, .ref a2, .ref a3, .int x3, .int x4, .int x5, .int x6, .int x7])), (a1, .inr (8, [.ref a4])), (a4, .inl (cI, 30, .inl f0)), (a2, .inl (cJ, 25, .inr (.inl g0)))] sz) := by
  refine gOf_v (by decide +kernel) (Nat.le_of_ble_eq_true rfl) ?_
  intro p e s m args below meth c ls A Q hx hb hts hown hml hN hK hP hD hA hl hret
  replace hown : s.vm.findClass RX2 = some m.cls := hown
  have hS : va_S A s.heap s.heap [] := va_S.rf
  replace hP : va_P D gcl [(a0, .inr (2, [.ref a1, .ref a2, .ref a3, .int x3, .int x4, .int x5, .int x6, .int x7])), (a1, .inr (8, [.ref a4])), (a4, .inl (cI, 30, .inl f0)), (a2, .inl (cJ, 25, .inr (.inl g0)))] s.heap := hP
  replace hl : lv_has ls 5 [(0, .ref a0), (1, .int x0), (2, .int x1), (3, .int x2)] := hl
  have rx2 : zBd x2.toInt (-2147483648) 2147483647 := n_rng x2
  have rx7 : zBd x7.toInt (-2147483648) 2147483647 := n_rng x7
  refine lv_aload_n (pc := 0) hx hb dX2_takeAway_0 rfl (lv_at hl 0 rfl) ?_
  refine va_get (pc := 1) (ci := 2) (v := .ref a1) (C := RX2) (T := TX2) (N := 8) hx hb hts iX2 hown hK hP 0 rfl rfl 0 (by decide) (hts _ tw_391) (fun _ h9 => h9) rfl dX2_takeAway_1 ?_
  refine lv_iload_n (pc := 4) hx hb dX2_takeAway_4 rfl (lv_at hl 1 rfl) ?_
  refine lv_iload_n (pc := 5) hx hb dX2_takeAway_5 rfl (lv_at hl 2 rfl) ?_
  refine lv_iload_n (pc := 6) hx hb dX2_takeAway_6 rfl (lv_at hl 3 rfl) ?_
  refine gc_v (pc := 7) (wc := [(a1, .inr (8, [.ref a4])), (a4, .inl (cI, 30, .inl f0))]) (wr := [(a0, .inr (2, [.ref a1, .ref a2, .ref a3, .int x3, .int x4, .int x5, .int x6, .int x7])), (a2, .inl (cJ, 25, .inr (.inl g0)))]) hP hD hS hA [1, 2] [0, 3] rfl rfl (by decide) (by decide) (by decide) (fun hPc hDc => va_runV (As := [.int x0, .int x1, .int x2]) (rest := []) ⟨hx, hb, hml, hown, hts⟩ (k_X8_takeAway_e l D cB cC cI cJ _ a1 a4 x0 x1 x2 f0 hp1 hp2 hg__ne) ⟨gcwB hts tw_1065 tw_5 tw_1062 hd_yX8_takeAway ⟨Nat.le_of_ble_eq_true rfl, Nat.le_of_ble_eq_true rfl⟩, hts _ tw_1063, hts _ tw_1064⟩ ⟨gblind, va_recv hK hPc (ci := 8) (q0 := 0) rfl rfl, (gpreS hPc hK hDc hN).2⟩ rfl rfl hl.1 rfl (lv_room (Nat.le_of_ble_eq_true rfl)) dX2_takeAway_7 ⟨Nat.le_of_ble_eq_true rfl, Nat.le_of_ble_eq_true rfl⟩) (fun u_1 H locs hw_3 hP hD hS => ?_)
  replace hP : va_P D gcl [(a0, .inr (2, [.ref a1, .ref a2, .ref a3, .int x3, .int x4, .int x5, .int x6, .int x7])), (a2, .inl (cJ, 25, .inr (.inl g0))), (a1, .inr (8, [.ref a4])), (a4, .inl (cI, 30, .inl (u_1.2.1 0)))] H := hP
  replace hD : va_D A [(a0, .inr (2, [.ref a1, .ref a2, .ref a3, .int x3, .int x4, .int x5, .int x6, .int x7])), (a2, .inl (cJ, 25, .inr (.inl g0))), (a1, .inr (8, [.ref a4])), (a4, .inl (cI, 30, .inl (u_1.2.1 0)))] := hD
  have hw_4 : (taQ f0 (u_1.2.1 0) x0.toInt x1.toInt x2 6) := hw_3
  refine lv_iconst (pc := 10) (v := 0) hx hb dX2_takeAway_10 (by decide) ?_
  refine lv_istore (pc := 11) (lv' := [(4, .int 0), (0, .ref a0), (1, .int x0), (2, .int x1), (3, .int x2)]) hx hb dX2_takeAway_11 hl (by decide) rfl (fun ls hl => ?_)
  have lp_8 : ∀ (n : Nat) (x_5 : Int32) (g_7 : Nat → Int64) (H : Heap) (locs : List Loc) (ls : Array Slot), (0 ≤ x_5.toInt ∧ x_5.toInt ≤ 2147483647) → (2147483647 - x_5.toInt).toNat < n → va_P D gcl [(a0, .inr (2, [.ref a1, .ref a2, .ref a3, .int x3, .int x4, .int x5, .int x6, .int x7])), (a2, .inl (cJ, 25, .inr (.inl g_7))), (a1, .inr (8, [.ref a4])), (a4, .inl (cI, 30, .inl (u_1.2.1 0)))] H → va_D A [(a0, .inr (2, [.ref a1, .ref a2, .ref a3, .int x3, .int x4, .int x5, .int x6, .int x7])), (a2, .inl (cJ, 25, .inr (.inl g_7))), (a1, .inr (8, [.ref a4])), (a4, .inl (cI, 30, .inl (u_1.2.1 0)))] → va_S A s.heap H locs → lv_has ls 5 [(4, .int x_5), (0, .ref a0), (1, .int x0), (2, .int x1), (3, .int x2)] → W p l e ({ frames := 2, cells := 0, slots := 0, locals := 47 }) s m args below meth c H locs 0 0 Q (F0 m 13 ls []) := by
    intro n
    induction n with
    | zero => intro x_5 g_7 H locs ls hi_6 hmu; exact absurd hmu (Nat.not_lt_zero _)
    | succ n ih_lp_8 =>
      intro x_5 g_7 H locs ls hi_6 hmu_lp_8 hP hD hS hl
      refine lv_iload (pc := 13) hx hb dX2_takeAway_13 (lv_at hl 0 rfl) ?_
      refine lv_iconst (pc := 15) (v := 5) hx hb dX2_takeAway_15 (by decide) ?_
      refine b_icmp_ge (pc := 16) (tgt := 53) hx hb rfl tI_5  dX2_takeAway_16 (by decide) (fun c_9 => ?_) (fun c_9 => ?_)
      ·
        exact hret ((fun _ => 0), (fun k => [(u_1.2.1 0)].getD k (fun _ => 0)), (fun k => [g_7].getD k (fun _ => 0)), (fun _ => 0), (fun _ => 0)) dX2_takeAway_53 (show taQ f0 (u_1.2.1 0) x0.toInt x1.toInt x2 6 from hw_4) (g_psub (wc := [(a0, .inr (2, [.ref a1, .ref a2, .ref a3, .int x3, .int x4, .int x5, .int x6, .int x7])), (a1, .inr (8, [.ref a4])), (a4, .inl (cI, 30, .inl (u_1.2.1 0))), (a2, .inl (cJ, 25, .inr (.inl g_7)))]) hP [0, 2, 3, 1] rfl) (hD.sub (ws' := [(a0, .inr (2, [.ref a1, .ref a2, .ref a3, .int x3, .int x4, .int x5, .int x6, .int x7])), (a1, .inr (8, [.ref a4])), (a4, .inl (cI, 30, .inl (u_1.2.1 0))), (a2, .inl (cJ, 25, .inr (.inl g_7)))]) [0, 2, 3, 1] (by decide) rfl) hS
      ·
        refine lv_aload_n (pc := 19) hx hb dX2_takeAway_19 rfl (lv_at hl 1 rfl) ?_
        refine va_get (pc := 20) (ci := 2) (v := .ref a2) (C := RX2) (T := TX2) (N := 8) hx hb hts iX2 hown hK hP 0 rfl rfl 1 (by decide) (hts _ tw_393) (fun _ h9 => h9) rfl dX2_takeAway_20 ?_
        refine lv_iload_n (pc := 23) hx hb dX2_takeAway_23 rfl (lv_at hl 2 rfl) ?_
        refine lv_iconst (pc := 24) (v := 5) hx hb dX2_takeAway_24 (by decide) ?_
        refine b_imul (pc := 25) hx hb rfl tI_5 (by (first | omega | (unfold zBd at *; omega))) (by (first | omega | (unfold zBd at *; omega))) dX2_takeAway_25 (fun x_10 ex_10 => ?_)
        refine lv_iload (pc := 26) hx hb dX2_takeAway_26 (lv_at hl 0 rfl) ?_
        refine b_iadd (pc := 28) hx hb rfl rfl (by (first | omega | (unfold zBd at *; omega))) (by (first | omega | (unfold zBd at *; omega))) dX2_takeAway_28 (fun x_11 ex_11 => ?_)
        refine lv_dup2_11 (pc := 29) hx hb dX2_takeAway_29 rfl rfl ?_
        refine va_lald (pc := 30) hx hb hK hP 1 3 rfl rfl (n_in rfl (by (first | omega | (unfold zBd at *; omega))) (by (first | omega | (unfold zBd at *; omega)))) dX2_takeAway_30 ?_
        refine lv_topl (fun y_12 ey_12 => ?_)
        have ry_12 := n_rngL y_12
        refine lv_iload_n (pc := 31) hx hb dX2_takeAway_31 rfl (lv_at hl 4 rfl) ?_
        refine b_i2l (pc := 32) hx hb rfl dX2_takeAway_32 (fun y_13 ey_13 => ?_)
        have ry_13 : zBd x2.toInt (-2147483648) 2147483647 := n_rng x2
        refine lv_aload_n (pc := 33) hx hb dX2_takeAway_33 rfl (lv_at hl 1 rfl) ?_
        refine va_get (pc := 34) (ci := 2) (v := .ref a2) (C := RX2) (T := TX2) (N := 8) hx hb hts iX2 hown hK hP 0 rfl rfl 1 (by decide) (hts _ tw_393) (fun _ h9 => h9) rfl dX2_takeAway_34 ?_
        refine lv_iload_n (pc := 37) hx hb dX2_takeAway_37 rfl (lv_at hl 3 rfl) ?_
        refine lv_iconst (pc := 38) (v := 5) hx hb dX2_takeAway_38 (by decide) ?_
        refine b_imul (pc := 39) hx hb rfl tI_5 (by (first | omega | (unfold zBd at *; omega))) (by (first | omega | (unfold zBd at *; omega))) dX2_takeAway_39 (fun x_14 ex_14 => ?_)
        refine lv_iload (pc := 40) hx hb dX2_takeAway_40 (lv_at hl 0 rfl) ?_
        refine b_iadd (pc := 42) hx hb rfl rfl (by (first | omega | (unfold zBd at *; omega))) (by (first | omega | (unfold zBd at *; omega))) dX2_takeAway_42 (fun x_15 ex_15 => ?_)
        refine va_lald (pc := 43) hx hb hK hP 1 3 rfl rfl (n_in rfl (by (first | omega | (unfold zBd at *; omega))) (by (first | omega | (unfold zBd at *; omega)))) dX2_takeAway_43 ?_
        refine lv_topl (fun y_16 ey_16 => ?_)
        have ry_16 := n_rngL y_16
        refine lv_lmul (pc := 44) hx hb dX2_takeAway_44 ?_
        refine lv_topl (fun y_17 _ => ?_)
        have ry_17 := n_rngL y_17
        refine lv_lsub (pc := 45) hx hb dX2_takeAway_45 ?_
        refine lv_topl (fun y_18 _ => ?_)
        have ry_18 := n_rngL y_18
        refine g_lastore (pc := 46) hx hb hK hP hD hS 1 3 rfl rfl (n_in rfl (by (first | omega | (unfold zBd at *; omega))) (by (first | omega | (unfold zBd at *; omega)))) dX2_takeAway_46 (fun g_19 H locs hP hD hS => ?_)
        replace hP : va_P D gcl [(a0, .inr (2, [.ref a1, .ref a2, .ref a3, .int x3, .int x4, .int x5, .int x6, .int x7])), (a2, .inl (cJ, 25, .inr (.inl g_19))), (a1, .inr (8, [.ref a4])), (a4, .inl (cI, 30, .inl (u_1.2.1 0)))] H := hP
        replace hD : va_D A [(a0, .inr (2, [.ref a1, .ref a2, .ref a3, .int x3, .int x4, .int x5, .int x6, .int x7])), (a2, .inl (cJ, 25, .inr (.inl g_19))), (a1, .inr (8, [.ref a4])), (a4, .inl (cI, 30, .inl (u_1.2.1 0)))] := hD
        refine b_iinc (pc := 47) hx hb dX2_takeAway_47 hl (k := 0) rfl rfl tI_1 (by (first | omega | (unfold zBd at *; omega))) (by (first | omega | (unfold zBd at *; omega))) (by decide) (fun x_20 ex_20 ls hl => ?_)
        replace hl : lv_has ls 5 [(4, .int x_20), (0, .ref a0), (1, .int x0), (2, .int x1), (3, .int x2)] := hl
        refine lv_goto (pc := 50) (tgt := 13) hx hb dX2_takeAway_50 (by decide) ?_
        exact ih_lp_8 x_20 g_19 _ _ ls (by (first | omega | (unfold zBd at *; omega))) (by (first | omega | (unfold zBd at *; omega))) hP hD hS (lv_sub hl [0, 1, 2, 3, 4] rfl)
  exact lp_8 _ 0 g0 _ _ ls (n_c tI_0 (by decide)) (Nat.lt_succ_self _) hP hD hS (lv_sub hl [0, 1, 2, 3, 4] rfl)
