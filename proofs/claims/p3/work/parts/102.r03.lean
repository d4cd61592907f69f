set_option maxHeartbeats 4000000 in
set_option maxRecDepth 100000 in
theorem k_X4_fail (l : Launch) (D : va_G) (cB cC cI cJ : ClassId) (sz : Nat) (a0 a1 a2 : Nat) (x0 x1 x2 x3 x4 x5 x6 x7 : Int32) : Met l yX4_fail (.code yX4_fail cX4_fail 3 (some .boolean) :: lw_gd) ({ frames := 0, cells := 0, slots := 0, locals := 0 }) (gPre D [(cB, .byte), (cC, .char), (cI, .int), (cJ, .long)] [.ref a0, .int x0, .int x1] [(a0, .inr (4, [.ref a1, .ref a2, .int x2, .int x3, .int x4, .int x5, .int x6, .int x7]))] sz) (va_Qi (fun r u => ((r.toInt = 0))) (gB D (va_A [(a0, .inr (4, [.ref a1, .ref a2, .int x2, .int x3, .int x4, .int x5, .int x6, .int x7]))] sz) (fun u : gEx => [(a0, .inr (4, [.ref a1, .ref a2, .int x2, .int x3, .int x4, .int x5, .int x0, .int x1]))])) (va_A [(a0, .inr (4, [.ref a1, .ref a2, .int x2, .int x3, .int x4, .int x5, .int x6, .int x7]))] sz)) 0 0 (va_A [(a0, .inr (4, [.ref a1, .ref a2, .int x2, .int x3, .int x4, .int x5, .int x6, .int x7]))] sz) := by
  refine gOf_z (by decide +kernel) (Nat.le_of_ble_eq_true rfl) ?_
  intro p e s m args below meth c ls A Q hx hb hts hown hml hN hK hP hD hA hl hret
  have hown : s.vm.findClass RX4 = some m.cls := hown
  have hS : va_S A s.heap s.heap [] := va_S.rf
  have hP : va_P D gcl [(a0, .inr (4, [.ref a1, .ref a2, .int x2, .int x3, .int x4, .int x5, .int x6, .int x7]))] s.heap := hP
  have hl : lv_has ls 3 [(0, .ref a0), (1, .int x0), (2, .int x1)] := hl
  have rx0 := n_rng x0
  have rx1 := n_rng x1
  have rx2 := n_rng x2
  have rx3 := n_rng x3
  have rx4 := n_rng x4
  have rx5 := n_rng x5
  have rx6 := n_rng x6
  have rx7 := n_rng x7
  refine lv_aload_n (pc := 0) hx hb dX4_fail_0 rfl (lv_at hl 0 rfl) ?_
  refine lv_iload_n (pc := 1) hx hb dX4_fail_1 rfl (lv_at hl 1 rfl) ?_
  refine va_put (pc := 2) (ci := 4) (v := .int x0) (ty := .int) (C := RX4) (T := TX4) (N := 8) hx hb hts iX4 tyX4 tyX4_ok nmX4 hown hK hP hD hS 0 rfl rfl 6 (by decide) (hts _ tw_174) (fun _ h9 => h9) rfl (by decide +kernel) rfl rfl (Nat.le_of_ble_eq_true rfl) dX4_fail_2 (fun H locs hP hD hS => ?_)
  have hP : va_P D gcl [(a0, .inr (4, [.ref a1, .ref a2, .int x2, .int x3, .int x4, .int x5, .int x0, .int x7]))] H := hP
  have hD : va_D A [(a0, .inr (4, [.ref a1, .ref a2, .int x2, .int x3, .int x4, .int x5, .int x0, .int x7]))] := hD
  refine lv_aload_n (pc := 5) hx hb dX4_fail_5 rfl (lv_at hl 0 rfl) ?_
  refine lv_iload_n (pc := 6) hx hb dX4_fail_6 rfl (lv_at hl 2 rfl) ?_
  refine va_put (pc := 7) (ci := 4) (v := .int x1) (ty := .int) (C := RX4) (T := TX4) (N := 8) hx hb hts iX4 tyX4 tyX4_ok nmX4 hown hK hP hD hS 0 rfl rfl 7 (by decide) (hts _ tw_176) (fun _ h9 => h9) rfl (by decide +kernel) rfl rfl (Nat.le_of_ble_eq_true rfl) dX4_fail_7 (fun H locs hP hD hS => ?_)
  have hP : va_P D gcl [(a0, .inr (4, [.ref a1, .ref a2, .int x2, .int x3, .int x4, .int x5, .int x0, .int x1]))] H := hP
  have hD : va_D A [(a0, .inr (4, [.ref a1, .ref a2, .int x2, .int x3, .int x4, .int x5, .int x0, .int x1]))] := hD
  refine lv_iconst (pc := 10) (v := 0) hx hb dX4_fail_10 (by decide) ?_
  exact hret 0 ((fun _ => 0), (fun _ => (fun _ => 0)), (fun _ => (fun _ => 0)), (fun _ => 0), (fun _ => 0)) dX4_fail_11 ⟨(by have k9 := tI_0; omega), (show (((0 : Int32).toInt = 0)) by have k9 := tI_0; omega)⟩ (g_psub (wc := [(a0, .inr (4, [.ref a1, .ref a2, .int x2, .int x3, .int x4, .int x5, .int x0, .int x1]))]) hP [0] rfl) (hD.sub (ws' := [(a0, .inr (4, [.ref a1, .ref a2, .int x2, .int x3, .int x4, .int x5, .int x0, .int x1]))]) [0] (by decide) rfl) hS
set_option maxHeartbeats 4000000 in
set_option maxRecDepth 100000 in
theorem k_X4_failHere (l : Launch) (D : va_G) (cB cC cI cJ : ClassId) (sz : Nat) (a0 a1 a2 : Nat) (x0 x1 x2 x3 x4 x5 : Int32) : Met l yX4_failHere (.code yX4_failHere cX4_failHere 1 (some .boolean) :: lw_gd) ({ frames := 1, cells := 0, slots := 0, locals := 22 }) (gPre D [(cB, .byte), (cC, .char), (cI, .int), (cJ, .long)] [.ref a0] [(a0, .inr (4, [.ref a1, .ref a2, .int x0, .int x1, .int x2, .int x3, .int x4, .int x5]))] sz) (va_Qi (fun r u => (0 ≤ r.toInt ∧ r.toInt ≤ 0)) (gB D (va_A [(a0, .inr (4, [.ref a1, .ref a2, .int x0, .int x1, .int x2, .int x3, .int x4, .int x5]))] sz) (fun u : gEx => [(a0, .inr (4, [.ref a1, .ref a2, .int x0, .int x1, .int x2, .int x3, .int 1, .int x0]))])) (va_A [(a0, .inr (4, [.ref a1, .ref a2, .int x0, .int x1, .int x2, .int x3, .int x4, .int x5]))] sz)) 0 0 (va_A [(a0, .inr (4, [.ref a1, .ref a2, .int x0, .int x1, .int x2, .int x3, .int x4, .int x5]))] sz) := by
  refine gOf_z (by decide +kernel) (Nat.le_of_ble_eq_true rfl) ?_
  intro p e s m args below meth c ls A Q hx hb hts hown hml hN hK hP hD hA hl hret
  have hown : s.vm.findClass RX4 = some m.cls := hown
  have hS : va_S A s.heap s.heap [] := va_S.rf
  have hP : va_P D gcl [(a0, .inr (4, [.ref a1, .ref a2, .int x0, .int x1, .int x2, .int x3, .int x4, .int x5]))] s.heap := hP
  have hl : lv_has ls 1 [(0, .ref a0)] := hl
  have rx0 := n_rng x0
  have rx1 := n_rng x1
  have rx2 := n_rng x2
  have rx3 := n_rng x3
  have rx4 := n_rng x4
  have rx5 := n_rng x5
  refine lv_aload_n (pc := 0) hx hb dX4_failHere_0 rfl (lv_at hl 0 rfl) ?_
  refine lv_iconst (pc := 1) (v := 1) hx hb dX4_failHere_1 (by decide) ?_
  refine lv_aload_n (pc := 2) hx hb dX4_failHere_2 rfl (lv_at hl 0 rfl) ?_
  refine va_get (pc := 3) (ci := 4) (v := .int x0) (C := RX4) (T := TX4) (N := 8) hx hb hts iX4 hown hK hP 0 rfl rfl 2 (by decide) (hts _ tw_170) (fun _ h9 => h9) rfl dX4_failHere_3 ?_
  refine gc_i (pc := 6) (wc := [(a0, .inr (4, [.ref a1, .ref a2, .int x0, .int x1, .int x2, .int x3, .int x4, .int x5]))]) (wr := []) hP hD hS hA [0] [] rfl rfl (by decide) (by decide) (by decide) (fun hPc hDc => va_runV (As := [.int 1, .int x0]) (rest := []) ⟨hx, hb, hml, hown, hts⟩ (k_X4_fail l D cB cC cI cJ _ a0 a1 a2 1 x0 x0 x1 x2 x3 x4 x5) ⟨gcwB hts tw_535 tw_2 tw_532 hd_yX4_fail ⟨Nat.le_of_ble_eq_true rfl, Nat.le_of_ble_eq_true rfl⟩, hts _ tw_534, hts _ tp_2⟩ ⟨gblind, va_recv hK hPc (ci := 4) (q0 := 0) rfl rfl, (gpreS hPc hK hDc hN).2⟩ rfl rfl hl.1 rfl (lv_room (Nat.le_of_ble_eq_true rfl)) dX4_failHere_6 ⟨Nat.le_of_ble_eq_true rfl, Nat.le_of_ble_eq_true rfl⟩) (fun r_2 u_1 H locs hw_3 hP hD hS => ?_)
  have hP : va_P D gcl [(a0, .inr (4, [.ref a1, .ref a2, .int x0, .int x1, .int x2, .int x3, .int 1, .int x0]))] H := hP
  have hD : va_D A [(a0, .inr (4, [.ref a1, .ref a2, .int x0, .int x1, .int x2, .int x3, .int 1, .int x0]))] := hD
  have hw_4 : ((r_2.toInt = 0)) := hw_3
  have kk0_r_2 := tI_1
  have rr_2 := n_rng r_2
  exact hret r_2 ((fun _ => 0), (fun _ => (fun _ => 0)), (fun _ => (fun _ => 0)), (fun _ => 0), (fun _ => 0)) dX4_failHere_9 ⟨(by omega), (show (0 ≤ r_2.toInt ∧ r_2.toInt ≤ 0) by omega)⟩ (g_psub (wc := [(a0, .inr (4, [.ref a1, .ref a2, .int x0, .int x1, .int x2, .int x3, .int 1, .int x0]))]) hP [0] rfl) (hD.sub (ws' := [(a0, .inr (4, [.ref a1, .ref a2, .int x0, .int x1, .int x2, .int x3, .int 1, .int x0]))]) [0] (by decide) rfl) hS
set_option maxHeartbeats 4000000 in
set_option maxRecDepth 100000 in
theorem k_X4_readWord (l : Launch) (D : va_G) (cB cC cI cJ : ClassId) (sz : Nat) (adK adV : Nat → Nat) (i : Nat) (hi : i < 15) (a0 a1 a2 a3 : Nat) (x0 x1 x2 x3 x4 x5 x6 : Int32) (f0 : Nat → Int32) (h_x6 : (0 ≤ x6.toInt ∧ x6.toInt ≤ 1600)) : Met l yX4_readWord (.code yX4_readWord cX4_readWord 2 (some .boolean) :: lw_gd) ({ frames := 6, cells := 0, slots := 0, locals := 130 }) (gPreT D [(cB, .byte), (cC, .char), (cI, .int), (cJ, .long)] [.ref a0, .ref (adK i)] [(a0, .inr (4, [.ref a1, .ref a2, .int x0, .int x1, .int x2, .int x3, .int x4, .int x5])), (a1, .inr (9, [.ref a3, .int x6])), (a3, .inl (cB, 1600, .inl f0))] sz adK adV) (va_Qi (fun r u => (0 ≤ r.toInt ∧ r.toInt ≤ 1)) (gB D (va_A [(a0, .inr (4, [.ref a1, .ref a2, .int x0, .int x1, .int x2, .int x3, .int x4, .int x5])), (a1, .inr (9, [.ref a3, .int x6])), (a3, .inl (cB, 1600, .inl f0))] sz) (fun u : gEx => [(a0, .inr (4, [.ref a1, .ref a2, .int (u.2.2.2.1 0), .int (u.2.2.2.1 1), .int x2, .int x3, .int (u.2.2.2.1 2), .int (u.2.2.2.1 3)])), (a1, .inr (9, [.ref a3, .int x6])), (a3, .inl (cB, 1600, .inl f0))])) (va_A [(a0, .inr (4, [.ref a1, .ref a2, .int x0, .int x1, .int x2, .int x3, .int x4, .int x5])), (a1, .inr (9, [.ref a3, .int x6])), (a3, .inl (cB, 1600, .inl f0))] sz)) 0 0 (va_A [(a0, .inr (4, [.ref a1, .ref a2, .int x0, .int x1, .int x2, .int x3, .int x4, .int x5])), (a1, .inr (9, [.ref a3, .int x6])), (a3, .inl (cB, 1600, .inl f0))] sz) := by
  refine gOfT_z (by decide +kernel) (Nat.le_of_ble_eq_true rfl) ?_
  intro p e s m args below meth c ls A Q hx hb hts hown hml hN hK hP hD hA hl hF hret
  have hlen := s_len hi
  have hown : s.vm.findClass RX4 = some m.cls := hown
  have hS : va_S A s.heap s.heap [] := va_S.rf
  have hP : va_P D gcl [(a0, .inr (4, [.ref a1, .ref a2, .int x0, .int x1, .int x2, .int x3, .int x4, .int x5])), (a1, .inr (9, [.ref a3, .int x6])), (a3, .inl (cB, 1600, .inl f0))] s.heap := hP
  have hl : lv_has ls 2 [(0, .ref a0), (1, .ref (adK i))] := hl
  have rx0 := n_rng x0
  have rx1 := n_rng x1
  have rx2 := n_rng x2
  have rx3 := n_rng x3
  have rx4 := n_rng x4
  have rx5 := n_rng x5
  refine lv_aload_n (pc := 0) hx hb dX4_readWord_0 rfl (lv_at hl 0 rfl) ?_
  refine lv_aload_n (pc := 1) hx hb dX4_readWord_1 rfl (lv_at hl 1 rfl) ?_
  refine gc_i (pc := 2) (wc := [(a0, .inr (4, [.ref a1, .ref a2, .int x0, .int x1, .int x2, .int x3, .int x4, .int x5])), (a1, .inr (9, [.ref a3, .int x6])), (a3, .inl (cB, 1600, .inl f0))]) (wr := []) hP hD hS hA [0, 1, 2] [] rfl rfl (by decide) (by decide) (by decide) (fun hPc hDc => va_runV (As := [.ref (adK i)]) (rest := []) ⟨hx, hb, hml, hown, hts⟩ (k_X4_takesWord l D cB cC cI cJ _ adK adV i hi a0 a1 a2 a3 x0 x1 x2 x3 x4 x5 x6 f0 (by  omega)) ⟨gcwB hts tw_548 tw_2 tw_545 hd_yX4_takesWord ⟨Nat.le_of_ble_eq_true rfl, Nat.le_of_ble_eq_true rfl⟩, hts _ tw_547, hts _ tp_5⟩ ⟨gblindT, va_recv hK hPc (ci := 4) (q0 := 0) rfl rfl, (gpreT hPc hK hDc hN hF hS (va_free (wc := [(a0, .inr (4, [.ref a1, .ref a2, .int x0, .int x1, .int x2, .int x3, .int x4, .int x5])), (a1, .inr (9, [.ref a3, .int x6])), (a3, .inl (cB, 1600, .inl f0))]) hD hS hA [0, 1, 2] rfl)).2⟩ rfl rfl hl.1 rfl (lv_room (Nat.le_of_ble_eq_true rfl)) dX4_readWord_2 ⟨Nat.le_of_ble_eq_true rfl, Nat.le_of_ble_eq_true rfl⟩) (fun r_2 u_1 H locs hw_3 hP hD hS => ?_)
  have hP : va_P D gcl [(a0, .inr (4, [.ref a1, .ref a2, .int (u_1.2.2.2.1 0), .int (u_1.2.2.2.1 1), .int x2, .int x3, .int x4, .int x5])), (a1, .inr (9, [.ref a3, .int x6])), (a3, .inl (cB, 1600, .inl f0))] H := hP
  have hD : va_D A [(a0, .inr (4, [.ref a1, .ref a2, .int (u_1.2.2.2.1 0), .int (u_1.2.2.2.1 1), .int x2, .int x3, .int x4, .int x5])), (a1, .inr (9, [.ref a3, .int x6])), (a3, .inl (cB, 1600, .inl f0))] := hD
  have ru_1_0 := n_rng (u_1.2.2.2.1 0)
  have ru_1_1 := n_rng (u_1.2.2.2.1 1)
  have hw_4 : (0 ≤ r_2.toInt ∧ r_2.toInt ≤ 1) := hw_3
  have rr_2 := n_rng r_2
  refine b_if_ne (pc := 5) (tgt := 15) hx hb rfl  dX4_readWord_5 (by decide) (fun c_5 => ?_) (fun c_5 => ?_)
  ·
    refine lv_iconst (pc := 15) (v := 1) hx hb dX4_readWord_15 (by decide) ?_
    refine lv_goto (pc := 16) (tgt := 20) hx hb dX4_readWord_16 (by decide) ?_
    exact hret 1 ((fun _ => 0), (fun _ => (fun _ => 0)), (fun _ => (fun _ => 0)), (fun k => [(u_1.2.2.2.1 0), (u_1.2.2.2.1 1), x4, x5].getD k 0), (fun _ => 0)) dX4_readWord_20 ⟨(by have k9 := tI_1; omega), (show (0 ≤ (1 : Int32).toInt ∧ (1 : Int32).toInt ≤ 1) by have k9 := tI_1; omega)⟩ (g_psub (wc := [(a0, .inr (4, [.ref a1, .ref a2, .int (u_1.2.2.2.1 0), .int (u_1.2.2.2.1 1), .int x2, .int x3, .int x4, .int x5])), (a1, .inr (9, [.ref a3, .int x6])), (a3, .inl (cB, 1600, .inl f0))]) hP [0, 1, 2] rfl) (hD.sub (ws' := [(a0, .inr (4, [.ref a1, .ref a2, .int (u_1.2.2.2.1 0), .int (u_1.2.2.2.1 1), .int x2, .int x3, .int x4, .int x5])), (a1, .inr (9, [.ref a3, .int x6])), (a3, .inl (cB, 1600, .inl f0))]) [0, 1, 2] (by decide) rfl) hS
  ·
    refine lv_aload_n (pc := 8) hx hb dX4_readWord_8 rfl (lv_at hl 0 rfl) ?_
    refine gc_i (pc := 9) (wc := [(a0, .inr (4, [.ref a1, .ref a2, .int (u_1.2.2.2.1 0), .int (u_1.2.2.2.1 1), .int x2, .int x3, .int x4, .int x5]))]) (wr := [(a1, .inr (9, [.ref a3, .int x6])), (a3, .inl (cB, 1600, .inl f0))]) hP hD hS hA [0] [1, 2] rfl rfl (by decide) (by decide) (by decide) (fun hPc hDc => va_runV (As := []) (rest := []) ⟨hx, hb, hml, hown, hts⟩ (k_X4_failHere l D cB cC cI cJ _ a0 a1 a2 (u_1.2.2.2.1 0) (u_1.2.2.2.1 1) x2 x3 x4 x5) ⟨gcwB hts tw_531 tw_2 tw_528 hd_yX4_failHere ⟨Nat.le_of_ble_eq_true rfl, Nat.le_of_ble_eq_true rfl⟩, hts _ tw_530, hts _ tp_1⟩ ⟨gblind, va_recv hK hPc (ci := 4) (q0 := 0) rfl rfl, (gpreS hPc hK hDc hN).2⟩ rfl rfl hl.1 rfl (lv_room (Nat.le_of_ble_eq_true rfl)) dX4_readWord_9 ⟨Nat.le_of_ble_eq_true rfl, Nat.le_of_ble_eq_true rfl⟩) (fun r_7 u_6 H locs hw_8 hP hD hS => ?_)
    have hP : va_P D gcl [(a1, .inr (9, [.ref a3, .int x6])), (a3, .inl (cB, 1600, .inl f0)), (a0, .inr (4, [.ref a1, .ref a2, .int (u_1.2.2.2.1 0), .int (u_1.2.2.2.1 1), .int x2, .int x3, .int 1, .int (u_1.2.2.2.1 0)]))] H := hP
    have hD : va_D A [(a1, .inr (9, [.ref a3, .int x6])), (a3, .inl (cB, 1600, .inl f0)), (a0, .inr (4, [.ref a1, .ref a2, .int (u_1.2.2.2.1 0), .int (u_1.2.2.2.1 1), .int x2, .int x3, .int 1, .int (u_1.2.2.2.1 0)]))] := hD
    have hw_9 : (0 ≤ r_7.toInt ∧ r_7.toInt ≤ 0) := hw_8
    have rr_7 := n_rng r_7
    refine b_if_eq (pc := 12) (tgt := 19) hx hb rfl  dX4_readWord_12 (by decide) (fun c_10 => ?_) (fun c_10 => absurd c_10 (by omega))
    refine lv_iconst (pc := 19) (v := 0) hx hb dX4_readWord_19 (by decide) ?_
    exact hret 0 ((fun _ => 0), (fun _ => (fun _ => 0)), (fun _ => (fun _ => 0)), (fun k => [(u_1.2.2.2.1 0), (u_1.2.2.2.1 1), 1, (u_1.2.2.2.1 0)].getD k 0), (fun _ => 0)) dX4_readWord_20 ⟨(by have k9 := tI_0; have k8_0 := tI_1; omega), (show (0 ≤ (0 : Int32).toInt ∧ (0 : Int32).toInt ≤ 1) by have k9 := tI_0; have k8_0 := tI_1; omega)⟩ (g_psub (wc := [(a0, .inr (4, [.ref a1, .ref a2, .int (u_1.2.2.2.1 0), .int (u_1.2.2.2.1 1), .int x2, .int x3, .int 1, .int (u_1.2.2.2.1 0)])), (a1, .inr (9, [.ref a3, .int x6])), (a3, .inl (cB, 1600, .inl f0))]) hP [2, 0, 1] rfl) (hD.sub (ws' := [(a0, .inr (4, [.ref a1, .ref a2, .int (u_1.2.2.2.1 0), .int (u_1.2.2.2.1 1), .int x2, .int x3, .int 1, .int (u_1.2.2.2.1 0)])), (a1, .inr (9, [.ref a3, .int x6])), (a3, .inl (cB, 1600, .inl f0))]) [2, 0, 1] (by decide) rfl) hS
set_option maxHeartbeats 4000000 in
set_option maxRecDepth 100000 in
theorem k_X4_readNumber (l : Launch) (D : va_G) (cB cC cI cJ : ClassId) (sz : Nat) (a0 a1 a2 a3 : Nat) (x0 x1 x2 x3 x4 x5 x6 : Int32) (f0 : Nat → Int32) (h_x6 : (0 ≤ x6.toInt ∧ x6.toInt ≤ 1600)) : Met l yX4_readNumber (.code yX4_readNumber cX4_readNumber 3 (some .int) :: lw_gd) ({ frames := 2, cells := 0, slots := 0, locals := 43 }) (gPre D [(cB, .byte), (cC, .char), (cI, .int), (cJ, .long)] [.ref a0] [(a0, .inr (4, [.ref a1, .ref a2, .int x0, .int x1, .int x2, .int x3, .int x4, .int x5])), (a1, .inr (9, [.ref a3, .int x6])), (a3, .inl (cB, 1600, .inl f0))] sz) (va_Qi (fun r u => ((-60000) ≤ r.toInt ∧ r.toInt ≤ 300000)) (gB D (va_A [(a0, .inr (4, [.ref a1, .ref a2, .int x0, .int x1, .int x2, .int x3, .int x4, .int x5])), (a1, .inr (9, [.ref a3, .int x6])), (a3, .inl (cB, 1600, .inl f0))] sz) (fun u : gEx => [(a0, .inr (4, [.ref a1, .ref a2, .int (u.2.2.2.1 0), .int (u.2.2.2.1 1), .int (u.2.2.2.1 2), .int x3, .int (u.2.2.2.1 3), .int (u.2.2.2.1 4)])), (a1, .inr (9, [.ref a3, .int x6])), (a3, .inl (cB, 1600, .inl f0))])) (va_A [(a0, .inr (4, [.ref a1, .ref a2, .int x0, .int x1, .int x2, .int x3, .int x4, .int x5])), (a1, .inr (9, [.ref a3, .int x6])), (a3, .inl (cB, 1600, .inl f0))] sz)) 0 0 (va_A [(a0, .inr (4, [.ref a1, .ref a2, .int x0, .int x1, .int x2, .int x3, .int x4, .int x5])), (a1, .inr (9, [.ref a3, .int x6])), (a3, .inl (cB, 1600, .inl f0))] sz) := by
  refine gOf_i (by decide +kernel) (Nat.le_of_ble_eq_true rfl) ?_
  intro p e s m args below meth c ls A Q hx hb hts hown hml hN hK hP hD hA hl hret
  have hown : s.vm.findClass RX4 = some m.cls := hown
  have hS : va_S A s.heap s.heap [] := va_S.rf
  have hP : va_P D gcl [(a0, .inr (4, [.ref a1, .ref a2, .int x0, .int x1, .int x2, .int x3, .int x4, .int x5])), (a1, .inr (9, [.ref a3, .int x6])), (a3, .inl (cB, 1600, .inl f0))] s.heap := hP
  have hl : lv_has ls 3 [(0, .ref a0)] := hl
  have rx0 := n_rng x0
  have rx1 := n_rng x1
  have rx2 := n_rng x2
  have rx3 := n_rng x3
  have rx4 := n_rng x4
  have rx5 := n_rng x5
  refine lv_aload_n (pc := 0) hx hb dX4_readNumber_0 rfl (lv_at hl 0 rfl) ?_
  refine va_get (pc := 1) (ci := 4) (v := .int x1) (C := RX4) (T := TX4) (N := 8) hx hb hts iX4 hown hK hP 0 rfl rfl 3 (by decide) (hts _ tw_171) (fun _ h9 => h9) rfl dX4_readNumber_1 ?_
  refine gc_i (pc := 4) (wc := []) (wr := [(a0, .inr (4, [.ref a1, .ref a2, .int x0, .int x1, .int x2, .int x3, .int x4, .int x5])), (a1, .inr (9, [.ref a3, .int x6])), (a3, .inl (cB, 1600, .inl f0))]) hP hD hS hA [] [0, 1, 2] rfl rfl (by decide) (by decide) (by decide) (fun hPc hDc => va_runS (As := [.int x1]) (rest := []) ⟨hx, hb, hml, hown, hts⟩ (k_X4_isDigit l D cB cC cI cJ _ x1) ⟨gcwB hts tw_527 tw_2 tw_525 hd_yX4_isDigit ⟨Nat.le_of_ble_eq_true rfl, Nat.le_of_ble_eq_true rfl⟩, hts _ tw_526⟩ (gpreS hPc hK hDc hN) rfl rfl hl.1 rfl (lv_room (Nat.le_of_ble_eq_true rfl)) dX4_readNumber_4 ⟨Nat.le_of_ble_eq_true rfl, Nat.le_of_ble_eq_true rfl⟩) (fun r_2 u_1 H locs hw_3 hP hD hS => ?_)
  have hP : va_P D gcl [(a0, .inr (4, [.ref a1, .ref a2, .int x0, .int x1, .int x2, .int x3, .int x4, .int x5])), (a1, .inr (9, [.ref a3, .int x6])), (a3, .inl (cB, 1600, .inl f0))] H := hP
  have hD : va_D A [(a0, .inr (4, [.ref a1, .ref a2, .int x0, .int x1, .int x2, .int x3, .int x4, .int x5])), (a1, .inr (9, [.ref a3, .int x6])), (a3, .inl (cB, 1600, .inl f0))] := hD
  have hw_4 : ((r_2.toInt = 0 ∧ x1.toInt < 48) ∨ (r_2.toInt = 0 ∧ x1.toInt ≥ 48 ∧ x1.toInt > 57) ∨ (r_2.toInt = 1 ∧ x1.toInt ≥ 48 ∧ x1.toInt ≤ 57)) := hw_3
  have rr_2 := n_rng r_2
  refine b_if_ne (pc := 7) (tgt := 17) hx hb rfl  dX4_readNumber_7 (by decide) (fun c_5 => ?_) (fun c_5 => ?_)
  ·
    refine lv_aload_n (pc := 17) hx hb dX4_readNumber_17 rfl (lv_at hl 0 rfl) ?_
    refine lv_aload_n (pc := 18) hx hb dX4_readNumber_18 rfl (lv_at hl 0 rfl) ?_
    refine va_get (pc := 19) (ci := 4) (v := .int x0) (C := RX4) (T := TX4) (N := 8) hx hb hts iX4 hown hK hP 0 rfl rfl 2 (by decide) (hts _ tw_170) (fun _ h9 => h9) rfl dX4_readNumber_19 ?_
    refine va_put (pc := 22) (ci := 4) (v := .int x0) (ty := .int) (C := RX4) (T := TX4) (N := 8) hx hb hts iX4 tyX4 tyX4_ok nmX4 hown hK hP hD hS 0 rfl rfl 4 (by decide) (hts _ tw_172) (fun _ h9 => h9) rfl (by decide +kernel) rfl rfl (Nat.le_of_ble_eq_true rfl) dX4_readNumber_22 (fun H locs hP hD hS => ?_)
    have hP : va_P D gcl [(a0, .inr (4, [.ref a1, .ref a2, .int x0, .int x1, .int x0, .int x3, .int x4, .int x5])), (a1, .inr (9, [.ref a3, .int x6])), (a3, .inl (cB, 1600, .inl f0))] H := hP
    have hD : va_D A [(a0, .inr (4, [.ref a1, .ref a2, .int x0, .int x1, .int x0, .int x3, .int x4, .int x5])), (a1, .inr (9, [.ref a3, .int x6])), (a3, .inl (cB, 1600, .inl f0))] := hD
    refine lv_iconst (pc := 25) (v := 0) hx hb dX4_readNumber_25 (by decide) ?_
    refine lv_istore_n (pc := 26) (lv' := [(1, .int 0), (0, .ref a0)]) hx hb dX4_readNumber_26 rfl hl (by decide) rfl (fun ls hl => ?_)
    refine lv_iconst (pc := 27) (v := 0) hx hb dX4_readNumber_27 (by decide) ?_
    refine lv_istore_n (pc := 28) (lv' := [(2, .int 0), (1, .int 0), (0, .ref a0)]) hx hb dX4_readNumber_28 rfl hl (by decide) rfl (fun ls hl => ?_)
    have lp_13 : ∀ (n : Nat) (x_6 x_8 x_10 : Int32) (H : Heap) (locs : List Loc) (ls : Array Slot), (0 ≤ x_6.toInt ∧ x_6.toInt ≤ 4) → ((-60000) ≤ x_8.toInt ∧ x_8.toInt ≤ 300000) → ((x_6.toInt = 0 ∧ x_8.toInt = 0) ∨ (x_6.toInt = 1 ∧ -49 ≤ x_8.toInt ∧ x_8.toInt ≤ 207) ∨ (x_6.toInt = 2 ∧ -539 ≤ x_8.toInt ∧ x_8.toInt ≤ 2277) ∨ (x_6.toInt = 3 ∧ -5439 ≤ x_8.toInt ∧ x_8.toInt ≤ 22977) ∨ x_6.toInt = 4) → (2147483647 - x_6.toInt).toNat < n → va_P D gcl [(a0, .inr (4, [.ref a1, .ref a2, .int x_10, .int x1, .int x0, .int x3, .int x4, .int x5])), (a1, .inr (9, [.ref a3, .int x6])), (a3, .inl (cB, 1600, .inl f0))] H → va_D A [(a0, .inr (4, [.ref a1, .ref a2, .int x_10, .int x1, .int x0, .int x3, .int x4, .int x5])), (a1, .inr (9, [.ref a3, .int x6])), (a3, .inl (cB, 1600, .inl f0))] → va_S A s.heap H locs → lv_has ls 3 [(2, .int x_6), (1, .int x_8), (0, .ref a0)] → W p l e ({ frames := 2, cells := 0, slots := 0, locals := 43 }) s m args below meth c H locs 0 0 Q (F0 m 29 ls []) := by
      intro n
      induction n with
      | zero => intro x_6 x_8 x_10 H locs ls hi_7 hi_9 hi_12 hmu; exact absurd hmu (Nat.not_lt_zero _)
      | succ n ih_lp_13 =>
        intro x_6 x_8 x_10 H locs ls hi_7 hi_9 hi_12 hmu_lp_13 hP hD hS hl
        have hi_11 := n_rng x_10
        refine lv_iload_n (pc := 29) hx hb dX4_readNumber_29 rfl (lv_at hl 0 rfl) ?_
        refine lv_iconst (pc := 30) (v := 4) hx hb dX4_readNumber_30 (by decide) ?_
        refine b_icmp_ge (pc := 31) (tgt := 87) hx hb rfl tI_4  dX4_readNumber_31 (by decide) (fun c_14 => ?_) (fun c_14 => ?_)
        ·
          refine lv_aload_n (pc := 87) hx hb dX4_readNumber_87 rfl (lv_at hl 2 rfl) ?_
          refine va_get (pc := 88) (ci := 4) (v := .ref a1) (C := RX4) (T := TX4) (N := 8) hx hb hts iX4 hown hK hP 0 rfl rfl 0 (by decide) (hts _ tw_167) (fun _ h9 => h9) rfl dX4_readNumber_88 ?_
          refine lv_aload_n (pc := 91) hx hb dX4_readNumber_91 rfl (lv_at hl 2 rfl) ?_
          refine va_get (pc := 92) (ci := 4) (v := .int x_10) (C := RX4) (T := TX4) (N := 8) hx hb hts iX4 hown hK hP 0 rfl rfl 2 (by decide) (hts _ tw_170) (fun _ h9 => h9) rfl dX4_readNumber_92 ?_
          refine gc_i (pc := 95) (wc := [(a1, .inr (9, [.ref a3, .int x6])), (a3, .inl (cB, 1600, .inl f0))]) (wr := [(a0, .inr (4, [.ref a1, .ref a2, .int x_10, .int x1, .int x0, .int x3, .int x4, .int x5]))]) hP hD hS hA [1, 2] [0] rfl rfl (by decide) (by decide) (by decide) (fun hPc hDc => va_runV (As := [.int x_10]) (rest := []) ⟨hx, hb, hml, hown, hts⟩ (k_X9_at l D cB cC cI cJ _ a1 a3 x_10 x6 f0 (by  omega)) ⟨gcwB hts tw_518 tw_3 tw_515 hd_yX9_at ⟨Nat.le_of_ble_eq_true rfl, Nat.le_of_ble_eq_true rfl⟩, hts _ tw_516, hts _ tw_517⟩ ⟨gblind, va_recv hK hPc (ci := 9) (q0 := 0) rfl rfl, (gpreS hPc hK hDc hN).2⟩ rfl rfl hl.1 rfl (lv_room (Nat.le_of_ble_eq_true rfl)) dX4_readNumber_95 ⟨Nat.le_of_ble_eq_true rfl, Nat.le_of_ble_eq_true rfl⟩) (fun r_16 u_15 H locs hw_17 hP hD hS => ?_)
          have hP : va_P D gcl [(a0, .inr (4, [.ref a1, .ref a2, .int x_10, .int x1, .int x0, .int x3, .int x4, .int x5])), (a1, .inr (9, [.ref a3, .int x6])), (a3, .inl (cB, 1600, .inl f0))] H := hP
          have hD : va_D A [(a0, .inr (4, [.ref a1, .ref a2, .int x_10, .int x1, .int x0, .int x3, .int x4, .int x5])), (a1, .inr (9, [.ref a3, .int x6])), (a3, .inl (cB, 1600, .inl f0))] := hD
          have hw_18 : ((r_16.toInt = (-1) ∧ x_10.toInt < 0) ∨ (r_16.toInt = (-1) ∧ x_10.toInt ≥ 0 ∧ x_10.toInt ≥ x6.toInt) ∨ ((0 ≤ r_16.toInt ∧ r_16.toInt ≤ 255) ∧ x_10.toInt ≥ 0 ∧ x_10.toInt < x6.toInt)) := hw_17
          have rr_16 := n_rng r_16
          refine gc_i (pc := 98) (wc := []) (wr := [(a0, .inr (4, [.ref a1, .ref a2, .int x_10, .int x1, .int x0, .int x3, .int x4, .int x5])), (a1, .inr (9, [.ref a3, .int x6])), (a3, .inl (cB, 1600, .inl f0))]) hP hD hS hA [] [0, 1, 2] rfl rfl (by decide) (by decide) (by decide) (fun hPc hDc => va_runS (As := [.int r_16]) (rest := []) ⟨hx, hb, hml, hown, hts⟩ (k_X4_isDigit l D cB cC cI cJ _ r_16) ⟨gcwB hts tw_527 tw_2 tw_525 hd_yX4_isDigit ⟨Nat.le_of_ble_eq_true rfl, Nat.le_of_ble_eq_true rfl⟩, hts _ tw_526⟩ (gpreS hPc hK hDc hN) rfl rfl hl.1 rfl (lv_room (Nat.le_of_ble_eq_true rfl)) dX4_readNumber_98 ⟨Nat.le_of_ble_eq_true rfl, Nat.le_of_ble_eq_true rfl⟩) (fun r_20 u_19 H locs hw_21 hP hD hS => ?_)
          have hP : va_P D gcl [(a0, .inr (4, [.ref a1, .ref a2, .int x_10, .int x1, .int x0, .int x3, .int x4, .int x5])), (a1, .inr (9, [.ref a3, .int x6])), (a3, .inl (cB, 1600, .inl f0))] H := hP
          have hD : va_D A [(a0, .inr (4, [.ref a1, .ref a2, .int x_10, .int x1, .int x0, .int x3, .int x4, .int x5])), (a1, .inr (9, [.ref a3, .int x6])), (a3, .inl (cB, 1600, .inl f0))] := hD
          have hw_22 : ((r_20.toInt = 0 ∧ r_16.toInt < 48) ∨ (r_20.toInt = 0 ∧ r_16.toInt ≥ 48 ∧ r_16.toInt > 57) ∨ (r_20.toInt = 1 ∧ r_16.toInt ≥ 48 ∧ r_16.toInt ≤ 57)) := hw_21
          have rr_20 := n_rng r_20
          refine b_if_eq (pc := 101) (tgt := 111) hx hb rfl  dX4_readNumber_101 (by decide) (fun c_23 => ?_) (fun c_23 => ?_)
          ·
            refine lv_aload_n (pc := 111) hx hb dX4_readNumber_111 rfl (lv_at hl 2 rfl) ?_
            refine lv_aload_n (pc := 112) hx hb dX4_readNumber_112 rfl (lv_at hl 2 rfl) ?_
            refine va_get (pc := 113) (ci := 4) (v := .int x_10) (C := RX4) (T := TX4) (N := 8) hx hb hts iX4 hown hK hP 0 rfl rfl 2 (by decide) (hts _ tw_170) (fun _ h9 => h9) rfl dX4_readNumber_113 ?_
            refine lv_iconst (pc := 116) (v := 1) hx hb dX4_readNumber_116 (by decide) ?_
            refine gc_v (pc := 117) (wc := [(a0, .inr (4, [.ref a1, .ref a2, .int x_10, .int x1, .int x0, .int x3, .int x4, .int x5])), (a1, .inr (9, [.ref a3, .int x6])), (a3, .inl (cB, 1600, .inl f0))]) (wr := []) hP hD hS hA [0, 1, 2] [] rfl rfl (by decide) (by decide) (by decide) (fun hPc hDc => va_runV (As := [.int x_10, .int 1]) (rest := []) ⟨hx, hb, hml, hown, hts⟩ (k_X4_goOn l D cB cC cI cJ _ a0 a1 a2 a3 x_10 1 x_10 x1 x0 x3 x4 x5 x6 f0 (by have k0 := tI_1; omega) (by have k0 := tI_1; omega)) ⟨gcwB hts tw_513 tw_2 tw_510 hd_yX4_goOn ⟨Nat.le_of_ble_eq_true rfl, Nat.le_of_ble_eq_true rfl⟩, hts _ tw_512, hts _ tp_0⟩ ⟨gblind, va_recv hK hPc (ci := 4) (q0 := 0) rfl rfl, (gpreS hPc hK hDc hN).2⟩ rfl rfl hl.1 rfl (lv_room (Nat.le_of_ble_eq_true rfl)) dX4_readNumber_117 ⟨Nat.le_of_ble_eq_true rfl, Nat.le_of_ble_eq_true rfl⟩) (fun u_24 H locs hw_26 hP hD hS => ?_)
            have hP : va_P D gcl [(a0, .inr (4, [.ref a1, .ref a2, .int (u_24.2.2.2.1 0), .int (u_24.2.2.2.1 1), .int x0, .int x3, .int x4, .int x5])), (a1, .inr (9, [.ref a3, .int x6])), (a3, .inl (cB, 1600, .inl f0))] H := hP
            have hD : va_D A [(a0, .inr (4, [.ref a1, .ref a2, .int (u_24.2.2.2.1 0), .int (u_24.2.2.2.1 1), .int x0, .int x3, .int x4, .int x5])), (a1, .inr (9, [.ref a3, .int x6])), (a3, .inl (cB, 1600, .inl f0))] := hD
            have ru_24_0 := n_rng (u_24.2.2.2.1 0)
            have ru_24_1 := n_rng (u_24.2.2.2.1 1)
            refine lv_iload_n (pc := 120) hx hb dX4_readNumber_120 rfl (lv_at hl 1 rfl) ?_
            exact hret x_8 ((fun _ => 0), (fun _ => (fun _ => 0)), (fun _ => (fun _ => 0)), (fun k => [(u_24.2.2.2.1 0), (u_24.2.2.2.1 1), x0, x4, x5].getD k 0), (fun _ => 0)) dX4_readNumber_121 (show ((-60000) ≤ x_8.toInt ∧ x_8.toInt ≤ 300000) by omega) (g_psub (wc := [(a0, .inr (4, [.ref a1, .ref a2, .int (u_24.2.2.2.1 0), .int (u_24.2.2.2.1 1), .int x0, .int x3, .int x4, .int x5])), (a1, .inr (9, [.ref a3, .int x6])), (a3, .inl (cB, 1600, .inl f0))]) hP [0, 1, 2] rfl) (hD.sub (ws' := [(a0, .inr (4, [.ref a1, .ref a2, .int (u_24.2.2.2.1 0), .int (u_24.2.2.2.1 1), .int x0, .int x3, .int x4, .int x5])), (a1, .inr (9, [.ref a3, .int x6])), (a3, .inl (cB, 1600, .inl f0))]) [0, 1, 2] (by decide) rfl) hS
          ·
            refine lv_aload_n (pc := 104) hx hb dX4_readNumber_104 rfl (lv_at hl 2 rfl) ?_
            refine gc_i (pc := 105) (wc := [(a0, .inr (4, [.ref a1, .ref a2, .int x_10, .int x1, .int x0, .int x3, .int x4, .int x5]))]) (wr := [(a1, .inr (9, [.ref a3, .int x6])), (a3, .inl (cB, 1600, .inl f0))]) hP hD hS hA [0] [1, 2] rfl rfl (by decide) (by decide) (by decide) (fun hPc hDc => va_runV (As := []) (rest := []) ⟨hx, hb, hml, hown, hts⟩ (k_X4_failHere l D cB cC cI cJ _ a0 a1 a2 x_10 x1 x0 x3 x4 x5) ⟨gcwB hts tw_531 tw_2 tw_528 hd_yX4_failHere ⟨Nat.le_of_ble_eq_true rfl, Nat.le_of_ble_eq_true rfl⟩, hts _ tw_530, hts _ tp_1⟩ ⟨gblind, va_recv hK hPc (ci := 4) (q0 := 0) rfl rfl, (gpreS hPc hK hDc hN).2⟩ rfl rfl hl.1 rfl (lv_room (Nat.le_of_ble_eq_true rfl)) dX4_readNumber_105 ⟨Nat.le_of_ble_eq_true rfl, Nat.le_of_ble_eq_true rfl⟩) (fun r_28 u_27 H locs hw_29 hP hD hS => ?_)
            have hP : va_P D gcl [(a1, .inr (9, [.ref a3, .int x6])), (a3, .inl (cB, 1600, .inl f0)), (a0, .inr (4, [.ref a1, .ref a2, .int x_10, .int x1, .int x0, .int x3, .int 1, .int x_10]))] H := hP
            have hD : va_D A [(a1, .inr (9, [.ref a3, .int x6])), (a3, .inl (cB, 1600, .inl f0)), (a0, .inr (4, [.ref a1, .ref a2, .int x_10, .int x1, .int x0, .int x3, .int 1, .int x_10]))] := hD
            have hw_30 : (0 ≤ r_28.toInt ∧ r_28.toInt ≤ 0) := hw_29
            have rr_28 := n_rng r_28
            refine lv_pop (pc := 108) hx hb dX4_readNumber_108 rfl ?_
            refine lv_iconst (pc := 109) (v := (-1)) hx hb dX4_readNumber_109 (by decide) ?_
            exact hret (-1) ((fun _ => 0), (fun _ => (fun _ => 0)), (fun _ => (fun _ => 0)), (fun k => [x_10, x1, x0, 1, x_10].getD k 0), (fun _ => 0)) dX4_readNumber_110 (show ((-60000) ≤ ((-1) : Int32).toInt ∧ ((-1) : Int32).toInt ≤ 300000) by have k9 := tI_m1; have k8_0 := tI_1; omega) (g_psub (wc := [(a0, .inr (4, [.ref a1, .ref a2, .int x_10, .int x1, .int x0, .int x3, .int 1, .int x_10])), (a1, .inr (9, [.ref a3, .int x6])), (a3, .inl (cB, 1600, .inl f0))]) hP [2, 0, 1] rfl) (hD.sub (ws' := [(a0, .inr (4, [.ref a1, .ref a2, .int x_10, .int x1, .int x0, .int x3, .int 1, .int x_10])), (a1, .inr (9, [.ref a3, .int x6])), (a3, .inl (cB, 1600, .inl f0))]) [2, 0, 1] (by decide) rfl) hS
        ·
          refine lv_aload_n (pc := 34) hx hb dX4_readNumber_34 rfl (lv_at hl 2 rfl) ?_
          refine va_get (pc := 35) (ci := 4) (v := .ref a1) (C := RX4) (T := TX4) (N := 8) hx hb hts iX4 hown hK hP 0 rfl rfl 0 (by decide) (hts _ tw_167) (fun _ h9 => h9) rfl dX4_readNumber_35 ?_
          refine lv_aload_n (pc := 38) hx hb dX4_readNumber_38 rfl (lv_at hl 2 rfl) ?_
          refine va_get (pc := 39) (ci := 4) (v := .int x_10) (C := RX4) (T := TX4) (N := 8) hx hb hts iX4 hown hK hP 0 rfl rfl 2 (by decide) (hts _ tw_170) (fun _ h9 => h9) rfl dX4_readNumber_39 ?_
          refine gc_i (pc := 42) (wc := [(a1, .inr (9, [.ref a3, .int x6])), (a3, .inl (cB, 1600, .inl f0))]) (wr := [(a0, .inr (4, [.ref a1, .ref a2, .int x_10, .int x1, .int x0, .int x3, .int x4, .int x5]))]) hP hD hS hA [1, 2] [0] rfl rfl (by decide) (by decide) (by decide) (fun hPc hDc => va_runV (As := [.int x_10]) (rest := []) ⟨hx, hb, hml, hown, hts⟩ (k_X9_at l D cB cC cI cJ _ a1 a3 x_10 x6 f0 (by  omega)) ⟨gcwB hts tw_518 tw_3 tw_515 hd_yX9_at ⟨Nat.le_of_ble_eq_true rfl, Nat.le_of_ble_eq_true rfl⟩, hts _ tw_516, hts _ tw_517⟩ ⟨gblind, va_recv hK hPc (ci := 9) (q0 := 0) rfl rfl, (gpreS hPc hK hDc hN).2⟩ rfl rfl hl.1 rfl (lv_room (Nat.le_of_ble_eq_true rfl)) dX4_readNumber_42 ⟨Nat.le_of_ble_eq_true rfl, Nat.le_of_ble_eq_true rfl⟩) (fun r_32 u_31 H locs hw_33 hP hD hS => ?_)
          have hP : va_P D gcl [(a0, .inr (4, [.ref a1, .ref a2, .int x_10, .int x1, .int x0, .int x3, .int x4, .int x5])), (a1, .inr (9, [.ref a3, .int x6])), (a3, .inl (cB, 1600, .inl f0))] H := hP
          have hD : va_D A [(a0, .inr (4, [.ref a1, .ref a2, .int x_10, .int x1, .int x0, .int x3, .int x4, .int x5])), (a1, .inr (9, [.ref a3, .int x6])), (a3, .inl (cB, 1600, .inl f0))] := hD
          have hw_34 : ((r_32.toInt = (-1) ∧ x_10.toInt < 0) ∨ (r_32.toInt = (-1) ∧ x_10.toInt ≥ 0 ∧ x_10.toInt ≥ x6.toInt) ∨ ((0 ≤ r_32.toInt ∧ r_32.toInt ≤ 255) ∧ x_10.toInt ≥ 0 ∧ x_10.toInt < x6.toInt)) := hw_33
          have rr_32 := n_rng r_32
          refine gc_i (pc := 45) (wc := []) (wr := [(a0, .inr (4, [.ref a1, .ref a2, .int x_10, .int x1, .int x0, .int x3, .int x4, .int x5])), (a1, .inr (9, [.ref a3, .int x6])), (a3, .inl (cB, 1600, .inl f0))]) hP hD hS hA [] [0, 1, 2] rfl rfl (by decide) (by decide) (by decide) (fun hPc hDc => va_runS (As := [.int r_32]) (rest := []) ⟨hx, hb, hml, hown, hts⟩ (k_X4_isDigit l D cB cC cI cJ _ r_32) ⟨gcwB hts tw_527 tw_2 tw_525 hd_yX4_isDigit ⟨Nat.le_of_ble_eq_true rfl, Nat.le_of_ble_eq_true rfl⟩, hts _ tw_526⟩ (gpreS hPc hK hDc hN) rfl rfl hl.1 rfl (lv_room (Nat.le_of_ble_eq_true rfl)) dX4_readNumber_45 ⟨Nat.le_of_ble_eq_true rfl, Nat.le_of_ble_eq_true rfl⟩) (fun r_36 u_35 H locs hw_37 hP hD hS => ?_)
          have hP : va_P D gcl [(a0, .inr (4, [.ref a1, .ref a2, .int x_10, .int x1, .int x0, .int x3, .int x4, .int x5])), (a1, .inr (9, [.ref a3, .int x6])), (a3, .inl (cB, 1600, .inl f0))] H := hP
          have hD : va_D A [(a0, .inr (4, [.ref a1, .ref a2, .int x_10, .int x1, .int x0, .int x3, .int x4, .int x5])), (a1, .inr (9, [.ref a3, .int x6])), (a3, .inl (cB, 1600, .inl f0))] := hD
          have hw_38 : ((r_36.toInt = 0 ∧ r_32.toInt < 48) ∨ (r_36.toInt = 0 ∧ r_32.toInt ≥ 48 ∧ r_32.toInt > 57) ∨ (r_36.toInt = 1 ∧ r_32.toInt ≥ 48 ∧ r_32.toInt ≤ 57)) := hw_37
          have rr_36 := n_rng r_36
          refine b_if_eq (pc := 48) (tgt := 87) hx hb rfl  dX4_readNumber_48 (by decide) (fun c_39 => ?_) (fun c_39 => ?_)
          ·
            refine lv_aload_n (pc := 87) hx hb dX4_readNumber_87 rfl (lv_at hl 2 rfl) ?_
            refine va_get (pc := 88) (ci := 4) (v := .ref a1) (C := RX4) (T := TX4) (N := 8) hx hb hts iX4 hown hK hP 0 rfl rfl 0 (by decide) (hts _ tw_167) (fun _ h9 => h9) rfl dX4_readNumber_88 ?_
            refine lv_aload_n (pc := 91) hx hb dX4_readNumber_91 rfl (lv_at hl 2 rfl) ?_
            refine va_get (pc := 92) (ci := 4) (v := .int x_10) (C := RX4) (T := TX4) (N := 8) hx hb hts iX4 hown hK hP 0 rfl rfl 2 (by decide) (hts _ tw_170) (fun _ h9 => h9) rfl dX4_readNumber_92 ?_
            refine gc_i (pc := 95) (wc := [(a1, .inr (9, [.ref a3, .int x6])), (a3, .inl (cB, 1600, .inl f0))]) (wr := [(a0, .inr (4, [.ref a1, .ref a2, .int x_10, .int x1, .int x0, .int x3, .int x4, .int x5]))]) hP hD hS hA [1, 2] [0] rfl rfl (by decide) (by decide) (by decide) (fun hPc hDc => va_runV (As := [.int x_10]) (rest := []) ⟨hx, hb, hml, hown, hts⟩ (k_X9_at l D cB cC cI cJ _ a1 a3 x_10 x6 f0 (by  omega)) ⟨gcwB hts tw_518 tw_3 tw_515 hd_yX9_at ⟨Nat.le_of_ble_eq_true rfl, Nat.le_of_ble_eq_true rfl⟩, hts _ tw_516, hts _ tw_517⟩ ⟨gblind, va_recv hK hPc (ci := 9) (q0 := 0) rfl rfl, (gpreS hPc hK hDc hN).2⟩ rfl rfl hl.1 rfl (lv_room (Nat.le_of_ble_eq_true rfl)) dX4_readNumber_95 ⟨Nat.le_of_ble_eq_true rfl, Nat.le_of_ble_eq_true rfl⟩) (fun r_41 u_40 H locs hw_42 hP hD hS => ?_)
            have hP : va_P D gcl [(a0, .inr (4, [.ref a1, .ref a2, .int x_10, .int x1, .int x0, .int x3, .int x4, .int x5])), (a1, .inr (9, [.ref a3, .int x6])), (a3, .inl (cB, 1600, .inl f0))] H := hP
            have hD : va_D A [(a0, .inr (4, [.ref a1, .ref a2, .int x_10, .int x1, .int x0, .int x3, .int x4, .int x5])), (a1, .inr (9, [.ref a3, .int x6])), (a3, .inl (cB, 1600, .inl f0))] := hD
            have hw_43 : ((r_41.toInt = (-1) ∧ x_10.toInt < 0) ∨ (r_41.toInt = (-1) ∧ x_10.toInt ≥ 0 ∧ x_10.toInt ≥ x6.toInt) ∨ ((0 ≤ r_41.toInt ∧ r_41.toInt ≤ 255) ∧ x_10.toInt ≥ 0 ∧ x_10.toInt < x6.toInt)) := hw_42
            have rr_41 := n_rng r_41
            refine gc_i (pc := 98) (wc := []) (wr := [(a0, .inr (4, [.ref a1, .ref a2, .int x_10, .int x1, .int x0, .int x3, .int x4, .int x5])), (a1, .inr (9, [.ref a3, .int x6])), (a3, .inl (cB, 1600, .inl f0))]) hP hD hS hA [] [0, 1, 2] rfl rfl (by decide) (by decide) (by decide) (fun hPc hDc => va_runS (As := [.int r_41]) (rest := []) ⟨hx, hb, hml, hown, hts⟩ (k_X4_isDigit l D cB cC cI cJ _ r_41) ⟨gcwB hts tw_527 tw_2 tw_525 hd_yX4_isDigit ⟨Nat.le_of_ble_eq_true rfl, Nat.le_of_ble_eq_true rfl⟩, hts _ tw_526⟩ (gpreS hPc hK hDc hN) rfl rfl hl.1 rfl (lv_room (Nat.le_of_ble_eq_true rfl)) dX4_readNumber_98 ⟨Nat.le_of_ble_eq_true rfl, Nat.le_of_ble_eq_true rfl⟩) (fun r_45 u_44 H locs hw_46 hP hD hS => ?_)
            have hP : va_P D gcl [(a0, .inr (4, [.ref a1, .ref a2, .int x_10, .int x1, .int x0, .int x3, .int x4, .int x5])), (a1, .inr (9, [.ref a3, .int x6])), (a3, .inl (cB, 1600, .inl f0))] H := hP
            have hD : va_D A [(a0, .inr (4, [.ref a1, .ref a2, .int x_10, .int x1, .int x0, .int x3, .int x4, .int x5])), (a1, .inr (9, [.ref a3, .int x6])), (a3, .inl (cB, 1600, .inl f0))] := hD
            have hw_47 : ((r_45.toInt = 0 ∧ r_41.toInt < 48) ∨ (r_45.toInt = 0 ∧ r_41.toInt ≥ 48 ∧ r_41.toInt > 57) ∨ (r_45.toInt = 1 ∧ r_41.toInt ≥ 48 ∧ r_41.toInt ≤ 57)) := hw_46
            have rr_45 := n_rng r_45
            refine b_if_eq (pc := 101) (tgt := 111) hx hb rfl  dX4_readNumber_101 (by decide) (fun c_48 => ?_) (fun c_48 => ?_)
            ·
              refine lv_aload_n (pc := 111) hx hb dX4_readNumber_111 rfl (lv_at hl 2 rfl) ?_
              refine lv_aload_n (pc := 112) hx hb dX4_readNumber_112 rfl (lv_at hl 2 rfl) ?_
              refine va_get (pc := 113) (ci := 4) (v := .int x_10) (C := RX4) (T := TX4) (N := 8) hx hb hts iX4 hown hK hP 0 rfl rfl 2 (by decide) (hts _ tw_170) (fun _ h9 => h9) rfl dX4_readNumber_113 ?_
              refine lv_iconst (pc := 116) (v := 1) hx hb dX4_readNumber_116 (by decide) ?_
              refine gc_v (pc := 117) (wc := [(a0, .inr (4, [.ref a1, .ref a2, .int x_10, .int x1, .int x0, .int x3, .int x4, .int x5])), (a1, .inr (9, [.ref a3, .int x6])), (a3, .inl (cB, 1600, .inl f0))]) (wr := []) hP hD hS hA [0, 1, 2] [] rfl rfl (by decide) (by decide) (by decide) (fun hPc hDc => va_runV (As := [.int x_10, .int 1]) (rest := []) ⟨hx, hb, hml, hown, hts⟩ (k_X4_goOn l D cB cC cI cJ _ a0 a1 a2 a3 x_10 1 x_10 x1 x0 x3 x4 x5 x6 f0 (by have k0 := tI_1; omega) (by have k0 := tI_1; omega)) ⟨gcwB hts tw_513 tw_2 tw_510 hd_yX4_goOn ⟨Nat.le_of_ble_eq_true rfl, Nat.le_of_ble_eq_true rfl⟩, hts _ tw_512, hts _ tp_0⟩ ⟨gblind, va_recv hK hPc (ci := 4) (q0 := 0) rfl rfl, (gpreS hPc hK hDc hN).2⟩ rfl rfl hl.1 rfl (lv_room (Nat.le_of_ble_eq_true rfl)) dX4_readNumber_117 ⟨Nat.le_of_ble_eq_true rfl, Nat.le_of_ble_eq_true rfl⟩) (fun u_49 H locs hw_51 hP hD hS => ?_)
              have hP : va_P D gcl [(a0, .inr (4, [.ref a1, .ref a2, .int (u_49.2.2.2.1 0), .int (u_49.2.2.2.1 1), .int x0, .int x3, .int x4, .int x5])), (a1, .inr (9, [.ref a3, .int x6])), (a3, .inl (cB, 1600, .inl f0))] H := hP
              have hD : va_D A [(a0, .inr (4, [.ref a1, .ref a2, .int (u_49.2.2.2.1 0), .int (u_49.2.2.2.1 1), .int x0, .int x3, .int x4, .int x5])), (a1, .inr (9, [.ref a3, .int x6])), (a3, .inl (cB, 1600, .inl f0))] := hD
              have ru_49_0 := n_rng (u_49.2.2.2.1 0)
              have ru_49_1 := n_rng (u_49.2.2.2.1 1)
              refine lv_iload_n (pc := 120) hx hb dX4_readNumber_120 rfl (lv_at hl 1 rfl) ?_
              exact hret x_8 ((fun _ => 0), (fun _ => (fun _ => 0)), (fun _ => (fun _ => 0)), (fun k => [(u_49.2.2.2.1 0), (u_49.2.2.2.1 1), x0, x4, x5].getD k 0), (fun _ => 0)) dX4_readNumber_121 (show ((-60000) ≤ x_8.toInt ∧ x_8.toInt ≤ 300000) by omega) (g_psub (wc := [(a0, .inr (4, [.ref a1, .ref a2, .int (u_49.2.2.2.1 0), .int (u_49.2.2.2.1 1), .int x0, .int x3, .int x4, .int x5])), (a1, .inr (9, [.ref a3, .int x6])), (a3, .inl (cB, 1600, .inl f0))]) hP [0, 1, 2] rfl) (hD.sub (ws' := [(a0, .inr (4, [.ref a1, .ref a2, .int (u_49.2.2.2.1 0), .int (u_49.2.2.2.1 1), .int x0, .int x3, .int x4, .int x5])), (a1, .inr (9, [.ref a3, .int x6])), (a3, .inl (cB, 1600, .inl f0))]) [0, 1, 2] (by decide) rfl) hS
            ·
              refine lv_aload_n (pc := 104) hx hb dX4_readNumber_104 rfl (lv_at hl 2 rfl) ?_
              refine gc_i (pc := 105) (wc := [(a0, .inr (4, [.ref a1, .ref a2, .int x_10, .int x1, .int x0, .int x3, .int x4, .int x5]))]) (wr := [(a1, .inr (9, [.ref a3, .int x6])), (a3, .inl (cB, 1600, .inl f0))]) hP hD hS hA [0] [1, 2] rfl rfl (by decide) (by decide) (by decide) (fun hPc hDc => va_runV (As := []) (rest := []) ⟨hx, hb, hml, hown, hts⟩ (k_X4_failHere l D cB cC cI cJ _ a0 a1 a2 x_10 x1 x0 x3 x4 x5) ⟨gcwB hts tw_531 tw_2 tw_528 hd_yX4_failHere ⟨Nat.le_of_ble_eq_true rfl, Nat.le_of_ble_eq_true rfl⟩, hts _ tw_530, hts _ tp_1⟩ ⟨gblind, va_recv hK hPc (ci := 4) (q0 := 0) rfl rfl, (gpreS hPc hK hDc hN).2⟩ rfl rfl hl.1 rfl (lv_room (Nat.le_of_ble_eq_true rfl)) dX4_readNumber_105 ⟨Nat.le_of_ble_eq_true rfl, Nat.le_of_ble_eq_true rfl⟩) (fun r_53 u_52 H locs hw_54 hP hD hS => ?_)
              have hP : va_P D gcl [(a1, .inr (9, [.ref a3, .int x6])), (a3, .inl (cB, 1600, .inl f0)), (a0, .inr (4, [.ref a1, .ref a2, .int x_10, .int x1, .int x0, .int x3, .int 1, .int x_10]))] H := hP
              have hD : va_D A [(a1, .inr (9, [.ref a3, .int x6])), (a3, .inl (cB, 1600, .inl f0)), (a0, .inr (4, [.ref a1, .ref a2, .int x_10, .int x1, .int x0, .int x3, .int 1, .int x_10]))] := hD
              have hw_55 : (0 ≤ r_53.toInt ∧ r_53.toInt ≤ 0) := hw_54
              have rr_53 := n_rng r_53
              refine lv_pop (pc := 108) hx hb dX4_readNumber_108 rfl ?_
              refine lv_iconst (pc := 109) (v := (-1)) hx hb dX4_readNumber_109 (by decide) ?_
              exact hret (-1) ((fun _ => 0), (fun _ => (fun _ => 0)), (fun _ => (fun _ => 0)), (fun k => [x_10, x1, x0, 1, x_10].getD k 0), (fun _ => 0)) dX4_readNumber_110 (show ((-60000) ≤ ((-1) : Int32).toInt ∧ ((-1) : Int32).toInt ≤ 300000) by have k9 := tI_m1; have k8_0 := tI_1; omega) (g_psub (wc := [(a0, .inr (4, [.ref a1, .ref a2, .int x_10, .int x1, .int x0, .int x3, .int 1, .int x_10])), (a1, .inr (9, [.ref a3, .int x6])), (a3, .inl (cB, 1600, .inl f0))]) hP [2, 0, 1] rfl) (hD.sub (ws' := [(a0, .inr (4, [.ref a1, .ref a2, .int x_10, .int x1, .int x0, .int x3, .int 1, .int x_10])), (a1, .inr (9, [.ref a3, .int x6])), (a3, .inl (cB, 1600, .inl f0))]) [2, 0, 1] (by decide) rfl) hS
          ·
            refine lv_bipush (pc := 51) (v := 10) hx hb dX4_readNumber_51 (by decide) ?_
            refine lv_iload_n (pc := 53) hx hb dX4_readNumber_53 rfl (lv_at hl 1 rfl) ?_
            refine b_imul (pc := 54) hx hb tI_10 rfl (by omega) (by omega) dX4_readNumber_54 (fun x_56 ex_56 => ?_)
            refine lv_aload_n (pc := 55) hx hb dX4_readNumber_55 rfl (lv_at hl 2 rfl) ?_
            refine va_get (pc := 56) (ci := 4) (v := .ref a1) (C := RX4) (T := TX4) (N := 8) hx hb hts iX4 hown hK hP 0 rfl rfl 0 (by decide) (hts _ tw_167) (fun _ h9 => h9) rfl dX4_readNumber_56 ?_
            refine lv_aload_n (pc := 59) hx hb dX4_readNumber_59 rfl (lv_at hl 2 rfl) ?_
            refine va_get (pc := 60) (ci := 4) (v := .int x_10) (C := RX4) (T := TX4) (N := 8) hx hb hts iX4 hown hK hP 0 rfl rfl 2 (by decide) (hts _ tw_170) (fun _ h9 => h9) rfl dX4_readNumber_60 ?_
            refine gc_i (pc := 63) (wc := [(a1, .inr (9, [.ref a3, .int x6])), (a3, .inl (cB, 1600, .inl f0))]) (wr := [(a0, .inr (4, [.ref a1, .ref a2, .int x_10, .int x1, .int x0, .int x3, .int x4, .int x5]))]) hP hD hS hA [1, 2] [0] rfl rfl (by decide) (by decide) (by decide) (fun hPc hDc => va_runV (As := [.int x_10]) (rest := [.int x_56]) ⟨hx, hb, hml, hown, hts⟩ (k_X9_at l D cB cC cI cJ _ a1 a3 x_10 x6 f0 (by  omega)) ⟨gcwB hts tw_518 tw_3 tw_515 hd_yX9_at ⟨Nat.le_of_ble_eq_true rfl, Nat.le_of_ble_eq_true rfl⟩, hts _ tw_516, hts _ tw_517⟩ ⟨gblind, va_recv hK hPc (ci := 9) (q0 := 0) rfl rfl, (gpreS hPc hK hDc hN).2⟩ rfl rfl hl.1 rfl (lv_room (Nat.le_of_ble_eq_true rfl)) dX4_readNumber_63 ⟨Nat.le_of_ble_eq_true rfl, Nat.le_of_ble_eq_true rfl⟩) (fun r_58 u_57 H locs hw_59 hP hD hS => ?_)
            have hP : va_P D gcl [(a0, .inr (4, [.ref a1, .ref a2, .int x_10, .int x1, .int x0, .int x3, .int x4, .int x5])), (a1, .inr (9, [.ref a3, .int x6])), (a3, .inl (cB, 1600, .inl f0))] H := hP
            have hD : va_D A [(a0, .inr (4, [.ref a1, .ref a2, .int x_10, .int x1, .int x0, .int x3, .int x4, .int x5])), (a1, .inr (9, [.ref a3, .int x6])), (a3, .inl (cB, 1600, .inl f0))] := hD
            have hw_60 : ((r_58.toInt = (-1) ∧ x_10.toInt < 0) ∨ (r_58.toInt = (-1) ∧ x_10.toInt ≥ 0 ∧ x_10.toInt ≥ x6.toInt) ∨ ((0 ≤ r_58.toInt ∧ r_58.toInt ≤ 255) ∧ x_10.toInt ≥ 0 ∧ x_10.toInt < x6.toInt)) := hw_59
            have rr_58 := n_rng r_58
            refine b_iadd (pc := 66) hx hb rfl rfl (by omega) (by omega) dX4_readNumber_66 (fun x_61 ex_61 => ?_)
            refine lv_bipush (pc := 67) (v := 48) hx hb dX4_readNumber_67 (by decide) ?_
            refine b_isub (pc := 69) hx hb rfl tI_48 (by omega) (by omega) dX4_readNumber_69 (fun x_62 ex_62 => ?_)
            refine lv_istore_n (pc := 70) (lv' := [(1, .int x_62), (2, .int x_6), (0, .ref a0)]) hx hb dX4_readNumber_70 rfl hl (by decide) rfl (fun ls hl => ?_)
            refine lv_aload_n (pc := 71) hx hb dX4_readNumber_71 rfl (lv_at hl 2 rfl) ?_
            refine lv_dup (pc := 72) hx hb dX4_readNumber_72 rfl ?_
            refine va_get (pc := 73) (ci := 4) (v := .int x_10) (C := RX4) (T := TX4) (N := 8) hx hb hts iX4 hown hK hP 0 rfl rfl 2 (by decide) (hts _ tw_170) (fun _ h9 => h9) rfl dX4_readNumber_73 ?_
            refine lv_iconst (pc := 76) (v := 1) hx hb dX4_readNumber_76 (by decide) ?_
            refine lv_iadd (pc := 77) hx hb dX4_readNumber_77 ?_
            refine lv_topi (fun x_63 _ => ?_)
            have rx_63 := n_rng x_63
            refine va_put (pc := 78) (ci := 4) (v := .int x_63) (ty := .int) (C := RX4) (T := TX4) (N := 8) hx hb hts iX4 tyX4 tyX4_ok nmX4 hown hK hP hD hS 0 rfl rfl 2 (by decide) (hts _ tw_170) (fun _ h9 => h9) rfl (by decide +kernel) rfl rfl (Nat.le_of_ble_eq_true rfl) dX4_readNumber_78 (fun H locs hP hD hS => ?_)
            have hP : va_P D gcl [(a0, .inr (4, [.ref a1, .ref a2, .int x_63, .int x1, .int x0, .int x3, .int x4, .int x5])), (a1, .inr (9, [.ref a3, .int x6])), (a3, .inl (cB, 1600, .inl f0))] H := hP
            have hD : va_D A [(a0, .inr (4, [.ref a1, .ref a2, .int x_63, .int x1, .int x0, .int x3, .int x4, .int x5])), (a1, .inr (9, [.ref a3, .int x6])), (a3, .inl (cB, 1600, .inl f0))] := hD
            refine b_iinc (pc := 81) hx hb dX4_readNumber_81 hl (k := 1) rfl rfl tI_1 (by omega) (by omega) (by decide) (fun x_64 ex_64 ls hl => ?_)
            have hl : lv_has ls 3 [(2, .int x_64), (1, .int x_62), (0, .ref a0)] := hl
            refine lv_goto (pc := 84) (tgt := 29) hx hb dX4_readNumber_84 (by decide) ?_
            exact ih_lp_13 x_64 x_62 x_63 _ _ ls (by omega) (by omega) (by omega) (by omega) hP hD hS (lv_sub hl [0, 1, 2] rfl)
    exact lp_13 _ 0 0 x0 _ _ ls (by have k0 := tI_0; omega) (by have k0 := tI_0; omega) (by have q := tI_0; omega) (Nat.lt_succ_self _) hP hD hS (lv_sub hl [0, 1, 2] rfl)
  ·
    refine lv_aload_n (pc := 10) hx hb dX4_readNumber_10 rfl (lv_at hl 0 rfl) ?_
    refine gc_i (pc := 11) (wc := [(a0, .inr (4, [.ref a1, .ref a2, .int x0, .int x1, .int x2, .int x3, .int x4, .int x5]))]) (wr := [(a1, .inr (9, [.ref a3, .int x6])), (a3, .inl (cB, 1600, .inl f0))]) hP hD hS hA [0] [1, 2] rfl rfl (by decide) (by decide) (by decide) (fun hPc hDc => va_runV (As := []) (rest := []) ⟨hx, hb, hml, hown, hts⟩ (k_X4_failHere l D cB cC cI cJ _ a0 a1 a2 x0 x1 x2 x3 x4 x5) ⟨gcwB hts tw_531 tw_2 tw_528 hd_yX4_failHere ⟨Nat.le_of_ble_eq_true rfl, Nat.le_of_ble_eq_true rfl⟩, hts _ tw_530, hts _ tp_1⟩ ⟨gblind, va_recv hK hPc (ci := 4) (q0 := 0) rfl rfl, (gpreS hPc hK hDc hN).2⟩ rfl rfl hl.1 rfl (lv_room (Nat.le_of_ble_eq_true rfl)) dX4_readNumber_11 ⟨Nat.le_of_ble_eq_true rfl, Nat.le_of_ble_eq_true rfl⟩) (fun r_66 u_65 H locs hw_67 hP hD hS => ?_)
    have hP : va_P D gcl [(a1, .inr (9, [.ref a3, .int x6])), (a3, .inl (cB, 1600, .inl f0)), (a0, .inr (4, [.ref a1, .ref a2, .int x0, .int x1, .int x2, .int x3, .int 1, .int x0]))] H := hP
    have hD : va_D A [(a1, .inr (9, [.ref a3, .int x6])), (a3, .inl (cB, 1600, .inl f0)), (a0, .inr (4, [.ref a1, .ref a2, .int x0, .int x1, .int x2, .int x3, .int 1, .int x0]))] := hD
    have hw_68 : (0 ≤ r_66.toInt ∧ r_66.toInt ≤ 0) := hw_67
    have rr_66 := n_rng r_66
    refine lv_pop (pc := 14) hx hb dX4_readNumber_14 rfl ?_
    refine lv_iconst (pc := 15) (v := (-1)) hx hb dX4_readNumber_15 (by decide) ?_
    exact hret (-1) ((fun _ => 0), (fun _ => (fun _ => 0)), (fun _ => (fun _ => 0)), (fun k => [x0, x1, x2, 1, x0].getD k 0), (fun _ => 0)) dX4_readNumber_16 (show ((-60000) ≤ ((-1) : Int32).toInt ∧ ((-1) : Int32).toInt ≤ 300000) by have k9 := tI_m1; have k8_0 := tI_1; omega) (g_psub (wc := [(a0, .inr (4, [.ref a1, .ref a2, .int x0, .int x1, .int x2, .int x3, .int 1, .int x0])), (a1, .inr (9, [.ref a3, .int x6])), (a3, .inl (cB, 1600, .inl f0))]) hP [2, 0, 1] rfl) (hD.sub (ws' := [(a0, .inr (4, [.ref a1, .ref a2, .int x0, .int x1, .int x2, .int x3, .int 1, .int x0])), (a1, .inr (9, [.ref a3, .int x6])), (a3, .inl (cB, 1600, .inl f0))]) [2, 0, 1] (by decide) rfl) hS
set_option maxHeartbeats 4000000 in
set_option maxRecDepth 100000 in
theorem k_X4_readBetween (l : Launch) (D : va_G) (cB cC cI cJ : ClassId) (sz : Nat) (a0 a1 a2 a3 : Nat) (x0 x1 x2 x3 x4 x5 x6 x7 x8 : Int32) (f0 : Nat → Int32) (hp1 : (0 ≤ x0.toInt ∧ x0.toInt ≤ 9999)) (hp2 : (0 ≤ x1.toInt ∧ x1.toInt ≤ 9999)) (h_x8 : (0 ≤ x8.toInt ∧ x8.toInt ≤ 1600)) : Met l yX4_readBetween (.code yX4_readBetween cX4_readBetween 4 (some .int) :: lw_gd) ({ frames := 3, cells := 0, slots := 0, locals := 65 }) (gPre D [(cB, .byte), (cC, .char), (cI, .int), (cJ, .long)] [.ref a0, .int x0, .int x1] [(a0, .inr (4, [.ref a1, .ref a2, .int x2, .int x3, .int x4, .int x5, .int x6, .int x7])), (a1, .inr (9, [.ref a3, .int x8])), (a3, .inl (cB, 1600, .inl f0))] sz) (va_Qi (fun r u => ((-1) ≤ r.toInt ∧ r.toInt ≤ 9999) ∧ (-1 ≤ r.toInt ∧ r.toInt ≤ x1.toInt)) (gB D (va_A [(a0, .inr (4, [.ref a1, .ref a2, .int x2, .int x3, .int x4, .int x5, .int x6, .int x7])), (a1, .inr (9, [.ref a3, .int x8])), (a3, .inl (cB, 1600, .inl f0))] sz) (fun u : gEx => [(a0, .inr (4, [.ref a1, .ref a2, .int (u.2.2.2.1 0), .int (u.2.2.2.1 1), .int (u.2.2.2.1 2), .int x5, .int (u.2.2.2.1 3), .int (u.2.2.2.1 4)])), (a1, .inr (9, [.ref a3, .int x8])), (a3, .inl (cB, 1600, .inl f0))])) (va_A [(a0, .inr (4, [.ref a1, .ref a2, .int x2, .int x3, .int x4, .int x5, .int x6, .int x7])), (a1, .inr (9, [.ref a3, .int x8])), (a3, .inl (cB, 1600, .inl f0))] sz)) 0 0 (va_A [(a0, .inr (4, [.ref a1, .ref a2, .int x2, .int x3, .int x4, .int x5, .int x6, .int x7])), (a1, .inr (9, [.ref a3, .int x8])), (a3, .inl (cB, 1600, .inl f0))] sz) := by
  refine gOf_i (by decide +kernel) (Nat.le_of_ble_eq_true rfl) ?_
  intro p e s m args below meth c ls A Q hx hb hts hown hml hN hK hP hD hA hl hret
  have hown : s.vm.findClass RX4 = some m.cls := hown
  have hS : va_S A s.heap s.heap [] := va_S.rf
  have hP : va_P D gcl [(a0, .inr (4, [.ref a1, .ref a2, .int x2, .int x3, .int x4, .int x5, .int x6, .int x7])), (a1, .inr (9, [.ref a3, .int x8])), (a3, .inl (cB, 1600, .inl f0))] s.heap := hP
  have hl : lv_has ls 4 [(0, .ref a0), (1, .int x0), (2, .int x1)] := hl
  have rx2 := n_rng x2
  have rx3 := n_rng x3
  have rx4 := n_rng x4
  have rx5 := n_rng x5
  have rx6 := n_rng x6
  have rx7 := n_rng x7
  refine lv_aload_n (pc := 0) hx hb dX4_readBetween_0 rfl (lv_at hl 0 rfl) ?_
  refine gc_i (pc := 1) (wc := [(a0, .inr (4, [.ref a1, .ref a2, .int x2, .int x3, .int x4, .int x5, .int x6, .int x7])), (a1, .inr (9, [.ref a3, .int x8])), (a3, .inl (cB, 1600, .inl f0))]) (wr := []) hP hD hS hA [0, 1, 2] [] rfl rfl (by decide) (by decide) (by decide) (fun hPc hDc => va_runV (As := []) (rest := []) ⟨hx, hb, hml, hown, hts⟩ (k_X4_readNumber l D cB cC cI cJ _ a0 a1 a2 a3 x2 x3 x4 x5 x6 x7 x8 f0 (by  omega)) ⟨gcwB hts tw_612 tw_2 tw_609 hd_yX4_readNumber ⟨Nat.le_of_ble_eq_true rfl, Nat.le_of_ble_eq_true rfl⟩, hts _ tw_611, hts _ tp_9⟩ ⟨gblind, va_recv hK hPc (ci := 4) (q0 := 0) rfl rfl, (gpreS hPc hK hDc hN).2⟩ rfl rfl hl.1 rfl (lv_room (Nat.le_of_ble_eq_true rfl)) dX4_readBetween_1 ⟨Nat.le_of_ble_eq_true rfl, Nat.le_of_ble_eq_true rfl⟩) (fun r_2 u_1 H locs hw_3 hP hD hS => ?_)
  have hP : va_P D gcl [(a0, .inr (4, [.ref a1, .ref a2, .int (u_1.2.2.2.1 0), .int (u_1.2.2.2.1 1), .int (u_1.2.2.2.1 2), .int x5, .int (u_1.2.2.2.1 3), .int (u_1.2.2.2.1 4)])), (a1, .inr (9, [.ref a3, .int x8])), (a3, .inl (cB, 1600, .inl f0))] H := hP
  have hD : va_D A [(a0, .inr (4, [.ref a1, .ref a2, .int (u_1.2.2.2.1 0), .int (u_1.2.2.2.1 1), .int (u_1.2.2.2.1 2), .int x5, .int (u_1.2.2.2.1 3), .int (u_1.2.2.2.1 4)])), (a1, .inr (9, [.ref a3, .int x8])), (a3, .inl (cB, 1600, .inl f0))] := hD
  have ru_1_0 := n_rng (u_1.2.2.2.1 0)
  have ru_1_1 := n_rng (u_1.2.2.2.1 1)
  have ru_1_2 := n_rng (u_1.2.2.2.1 2)
  have ru_1_3 := n_rng (u_1.2.2.2.1 3)
  have ru_1_4 := n_rng (u_1.2.2.2.1 4)
  have hw_4 : ((-60000) ≤ r_2.toInt ∧ r_2.toInt ≤ 300000) := hw_3
  have rr_2 := n_rng r_2
  refine lv_istore_n (pc := 4) (lv' := [(3, .int r_2), (0, .ref a0), (1, .int x0), (2, .int x1)]) hx hb dX4_readBetween_4 rfl hl (by decide) rfl (fun ls hl => ?_)
  refine lv_iload_n (pc := 5) hx hb dX4_readBetween_5 rfl (lv_at hl 0 rfl) ?_
  refine lv_iconst (pc := 6) (v := (-1)) hx hb dX4_readBetween_6 (by decide) ?_
  refine b_icmp_eq (pc := 7) (tgt := 32) hx hb rfl tI_m1  dX4_readBetween_7 (by decide) (fun c_5 => ?_) (fun c_5 => ?_)
  ·
    refine lv_iload_n (pc := 32) hx hb dX4_readBetween_32 rfl (lv_at hl 0 rfl) ?_
    exact hret r_2 ((fun _ => 0), (fun _ => (fun _ => 0)), (fun _ => (fun _ => 0)), (fun k => [(u_1.2.2.2.1 0), (u_1.2.2.2.1 1), (u_1.2.2.2.1 2), (u_1.2.2.2.1 3), (u_1.2.2.2.1 4)].getD k 0), (fun _ => 0)) dX4_readBetween_33 ⟨(show ((-1) ≤ r_2.toInt ∧ r_2.toInt ≤ 9999) by omega), (show -1 ≤ r_2.toInt ∧ r_2.toInt ≤ x1.toInt by omega)⟩ (g_psub (wc := [(a0, .inr (4, [.ref a1, .ref a2, .int (u_1.2.2.2.1 0), .int (u_1.2.2.2.1 1), .int (u_1.2.2.2.1 2), .int x5, .int (u_1.2.2.2.1 3), .int (u_1.2.2.2.1 4)])), (a1, .inr (9, [.ref a3, .int x8])), (a3, .inl (cB, 1600, .inl f0))]) hP [0, 1, 2] rfl) (hD.sub (ws' := [(a0, .inr (4, [.ref a1, .ref a2, .int (u_1.2.2.2.1 0), .int (u_1.2.2.2.1 1), .int (u_1.2.2.2.1 2), .int x5, .int (u_1.2.2.2.1 3), .int (u_1.2.2.2.1 4)])), (a1, .inr (9, [.ref a3, .int x8])), (a3, .inl (cB, 1600, .inl f0))]) [0, 1, 2] (by decide) rfl) hS
  ·
    refine lv_iload_n (pc := 10) hx hb dX4_readBetween_10 rfl (lv_at hl 0 rfl) ?_
    refine lv_iload_n (pc := 11) hx hb dX4_readBetween_11 rfl (lv_at hl 2 rfl) ?_
    refine b_icmp_lt (pc := 12) (tgt := 20) hx hb rfl rfl  dX4_readBetween_12 (by decide) (fun c_6 => ?_) (fun c_6 => ?_)
    ·
      refine lv_aload_n (pc := 20) hx hb dX4_readBetween_20 rfl (lv_at hl 1 rfl) ?_
      refine lv_iconst (pc := 21) (v := 2) hx hb dX4_readBetween_21 (by decide) ?_
      refine lv_aload_n (pc := 22) hx hb dX4_readBetween_22 rfl (lv_at hl 1 rfl) ?_
      refine va_get (pc := 23) (ci := 4) (v := .int (u_1.2.2.2.1 2)) (C := RX4) (T := TX4) (N := 8) hx hb hts iX4 hown hK hP 0 rfl rfl 4 (by decide) (hts _ tw_172) (fun _ h9 => h9) rfl dX4_readBetween_23 ?_
      refine gc_i (pc := 26) (wc := [(a0, .inr (4, [.ref a1, .ref a2, .int (u_1.2.2.2.1 0), .int (u_1.2.2.2.1 1), .int (u_1.2.2.2.1 2), .int x5, .int (u_1.2.2.2.1 3), .int (u_1.2.2.2.1 4)]))]) (wr := [(a1, .inr (9, [.ref a3, .int x8])), (a3, .inl (cB, 1600, .inl f0))]) hP hD hS hA [0] [1, 2] rfl rfl (by decide) (by decide) (by decide) (fun hPc hDc => va_runV (As := [.int 2, .int (u_1.2.2.2.1 2)]) (rest := []) ⟨hx, hb, hml, hown, hts⟩ (k_X4_fail l D cB cC cI cJ _ a0 a1 a2 2 (u_1.2.2.2.1 2) (u_1.2.2.2.1 0) (u_1.2.2.2.1 1) (u_1.2.2.2.1 2) x5 (u_1.2.2.2.1 3) (u_1.2.2.2.1 4)) ⟨gcwB hts tw_535 tw_2 tw_532 hd_yX4_fail ⟨Nat.le_of_ble_eq_true rfl, Nat.le_of_ble_eq_true rfl⟩, hts _ tw_534, hts _ tp_2⟩ ⟨gblind, va_recv hK hPc (ci := 4) (q0 := 0) rfl rfl, (gpreS hPc hK hDc hN).2⟩ rfl rfl hl.1 rfl (lv_room (Nat.le_of_ble_eq_true rfl)) dX4_readBetween_26 ⟨Nat.le_of_ble_eq_true rfl, Nat.le_of_ble_eq_true rfl⟩) (fun r_8 u_7 H locs hw_9 hP hD hS => ?_)
      have hP : va_P D gcl [(a1, .inr (9, [.ref a3, .int x8])), (a3, .inl (cB, 1600, .inl f0)), (a0, .inr (4, [.ref a1, .ref a2, .int (u_1.2.2.2.1 0), .int (u_1.2.2.2.1 1), .int (u_1.2.2.2.1 2), .int x5, .int 2, .int (u_1.2.2.2.1 2)]))] H := hP
      have hD : va_D A [(a1, .inr (9, [.ref a3, .int x8])), (a3, .inl (cB, 1600, .inl f0)), (a0, .inr (4, [.ref a1, .ref a2, .int (u_1.2.2.2.1 0), .int (u_1.2.2.2.1 1), .int (u_1.2.2.2.1 2), .int x5, .int 2, .int (u_1.2.2.2.1 2)]))] := hD
      have hw_10 : ((r_8.toInt = 0)) := hw_9
      have kk0_r_8 := tI_2
      have rr_8 := n_rng r_8
      refine lv_pop (pc := 29) hx hb dX4_readBetween_29 rfl ?_
      refine lv_iconst (pc := 30) (v := (-1)) hx hb dX4_readBetween_30 (by decide) ?_
      have k9 := tI_m1
      have k8_0 := tI_2
      exact hret (-1) ((fun _ => 0), (fun _ => (fun _ => 0)), (fun _ => (fun _ => 0)), (fun k => [(u_1.2.2.2.1 0), (u_1.2.2.2.1 1), (u_1.2.2.2.1 2), 2, (u_1.2.2.2.1 2)].getD k 0), (fun _ => 0)) dX4_readBetween_31 ⟨(show ((-1) ≤ ((-1) : Int32).toInt ∧ ((-1) : Int32).toInt ≤ 9999) by have k9 := tI_m1; have k8_0 := tI_2; omega), (show -1 ≤ ((-1) : Int32).toInt ∧ ((-1) : Int32).toInt ≤ x1.toInt by have k9 := tI_m1; have k8_0 := tI_2; omega)⟩ (g_psub (wc := [(a0, .inr (4, [.ref a1, .ref a2, .int (u_1.2.2.2.1 0), .int (u_1.2.2.2.1 1), .int (u_1.2.2.2.1 2), .int x5, .int 2, .int (u_1.2.2.2.1 2)])), (a1, .inr (9, [.ref a3, .int x8])), (a3, .inl (cB, 1600, .inl f0))]) hP [2, 0, 1] rfl) (hD.sub (ws' := [(a0, .inr (4, [.ref a1, .ref a2, .int (u_1.2.2.2.1 0), .int (u_1.2.2.2.1 1), .int (u_1.2.2.2.1 2), .int x5, .int 2, .int (u_1.2.2.2.1 2)])), (a1, .inr (9, [.ref a3, .int x8])), (a3, .inl (cB, 1600, .inl f0))]) [2, 0, 1] (by decide) rfl) hS
    ·
      refine lv_iload_n (pc := 15) hx hb dX4_readBetween_15 rfl (lv_at hl 0 rfl) ?_
      refine lv_iload_n (pc := 16) hx hb dX4_readBetween_16 rfl (lv_at hl 3 rfl) ?_
      refine b_icmp_le (pc := 17) (tgt := 32) hx hb rfl rfl  dX4_readBetween_17 (by decide) (fun c_11 => ?_) (fun c_11 => ?_)
      ·
        refine lv_iload_n (pc := 32) hx hb dX4_readBetween_32 rfl (lv_at hl 0 rfl) ?_
        exact hret r_2 ((fun _ => 0), (fun _ => (fun _ => 0)), (fun _ => (fun _ => 0)), (fun k => [(u_1.2.2.2.1 0), (u_1.2.2.2.1 1), (u_1.2.2.2.1 2), (u_1.2.2.2.1 3), (u_1.2.2.2.1 4)].getD k 0), (fun _ => 0)) dX4_readBetween_33 ⟨(show ((-1) ≤ r_2.toInt ∧ r_2.toInt ≤ 9999) by omega), (show -1 ≤ r_2.toInt ∧ r_2.toInt ≤ x1.toInt by omega)⟩ (g_psub (wc := [(a0, .inr (4, [.ref a1, .ref a2, .int (u_1.2.2.2.1 0), .int (u_1.2.2.2.1 1), .int (u_1.2.2.2.1 2), .int x5, .int (u_1.2.2.2.1 3), .int (u_1.2.2.2.1 4)])), (a1, .inr (9, [.ref a3, .int x8])), (a3, .inl (cB, 1600, .inl f0))]) hP [0, 1, 2] rfl) (hD.sub (ws' := [(a0, .inr (4, [.ref a1, .ref a2, .int (u_1.2.2.2.1 0), .int (u_1.2.2.2.1 1), .int (u_1.2.2.2.1 2), .int x5, .int (u_1.2.2.2.1 3), .int (u_1.2.2.2.1 4)])), (a1, .inr (9, [.ref a3, .int x8])), (a3, .inl (cB, 1600, .inl f0))]) [0, 1, 2] (by decide) rfl) hS
      ·
        refine lv_aload_n (pc := 20) hx hb dX4_readBetween_20 rfl (lv_at hl 1 rfl) ?_
        refine lv_iconst (pc := 21) (v := 2) hx hb dX4_readBetween_21 (by decide) ?_
        refine lv_aload_n (pc := 22) hx hb dX4_readBetween_22 rfl (lv_at hl 1 rfl) ?_
        refine va_get (pc := 23) (ci := 4) (v := .int (u_1.2.2.2.1 2)) (C := RX4) (T := TX4) (N := 8) hx hb hts iX4 hown hK hP 0 rfl rfl 4 (by decide) (hts _ tw_172) (fun _ h9 => h9) rfl dX4_readBetween_23 ?_
        refine gc_i (pc := 26) (wc := [(a0, .inr (4, [.ref a1, .ref a2, .int (u_1.2.2.2.1 0), .int (u_1.2.2.2.1 1), .int (u_1.2.2.2.1 2), .int x5, .int (u_1.2.2.2.1 3), .int (u_1.2.2.2.1 4)]))]) (wr := [(a1, .inr (9, [.ref a3, .int x8])), (a3, .inl (cB, 1600, .inl f0))]) hP hD hS hA [0] [1, 2] rfl rfl (by decide) (by decide) (by decide) (fun hPc hDc => va_runV (As := [.int 2, .int (u_1.2.2.2.1 2)]) (rest := []) ⟨hx, hb, hml, hown, hts⟩ (k_X4_fail l D cB cC cI cJ _ a0 a1 a2 2 (u_1.2.2.2.1 2) (u_1.2.2.2.1 0) (u_1.2.2.2.1 1) (u_1.2.2.2.1 2) x5 (u_1.2.2.2.1 3) (u_1.2.2.2.1 4)) ⟨gcwB hts tw_535 tw_2 tw_532 hd_yX4_fail ⟨Nat.le_of_ble_eq_true rfl, Nat.le_of_ble_eq_true rfl⟩, hts _ tw_534, hts _ tp_2⟩ ⟨gblind, va_recv hK hPc (ci := 4) (q0 := 0) rfl rfl, (gpreS hPc hK hDc hN).2⟩ rfl rfl hl.1 rfl (lv_room (Nat.le_of_ble_eq_true rfl)) dX4_readBetween_26 ⟨Nat.le_of_ble_eq_true rfl, Nat.le_of_ble_eq_true rfl⟩) (fun r_13 u_12 H locs hw_14 hP hD hS => ?_)
        have hP : va_P D gcl [(a1, .inr (9, [.ref a3, .int x8])), (a3, .inl (cB, 1600, .inl f0)), (a0, .inr (4, [.ref a1, .ref a2, .int (u_1.2.2.2.1 0), .int (u_1.2.2.2.1 1), .int (u_1.2.2.2.1 2), .int x5, .int 2, .int (u_1.2.2.2.1 2)]))] H := hP
        have hD : va_D A [(a1, .inr (9, [.ref a3, .int x8])), (a3, .inl (cB, 1600, .inl f0)), (a0, .inr (4, [.ref a1, .ref a2, .int (u_1.2.2.2.1 0), .int (u_1.2.2.2.1 1), .int (u_1.2.2.2.1 2), .int x5, .int 2, .int (u_1.2.2.2.1 2)]))] := hD
        have hw_15 : ((r_13.toInt = 0)) := hw_14
        have kk0_r_13 := tI_2
        have rr_13 := n_rng r_13
        refine lv_pop (pc := 29) hx hb dX4_readBetween_29 rfl ?_
        refine lv_iconst (pc := 30) (v := (-1)) hx hb dX4_readBetween_30 (by decide) ?_
        have k9 := tI_m1
        have k8_0 := tI_2
        exact hret (-1) ((fun _ => 0), (fun _ => (fun _ => 0)), (fun _ => (fun _ => 0)), (fun k => [(u_1.2.2.2.1 0), (u_1.2.2.2.1 1), (u_1.2.2.2.1 2), 2, (u_1.2.2.2.1 2)].getD k 0), (fun _ => 0)) dX4_readBetween_31 ⟨(show ((-1) ≤ ((-1) : Int32).toInt ∧ ((-1) : Int32).toInt ≤ 9999) by have k9 := tI_m1; have k8_0 := tI_2; omega), (show -1 ≤ ((-1) : Int32).toInt ∧ ((-1) : Int32).toInt ≤ x1.toInt by have k9 := tI_m1; have k8_0 := tI_2; omega)⟩ (g_psub (wc := [(a0, .inr (4, [.ref a1, .ref a2, .int (u_1.2.2.2.1 0), .int (u_1.2.2.2.1 1), .int (u_1.2.2.2.1 2), .int x5, .int 2, .int (u_1.2.2.2.1 2)])), (a1, .inr (9, [.ref a3, .int x8])), (a3, .inl (cB, 1600, .inl f0))]) hP [2, 0, 1] rfl) (hD.sub (ws' := [(a0, .inr (4, [.ref a1, .ref a2, .int (u_1.2.2.2.1 0), .int (u_1.2.2.2.1 1), .int (u_1.2.2.2.1 2), .int x5, .int 2, .int (u_1.2.2.2.1 2)])), (a1, .inr (9, [.ref a3, .int x8])), (a3, .inl (cB, 1600, .inl f0))]) [2, 0, 1] (by decide) rfl) hS
set_option maxHeartbeats 4000000 in
set_option maxRecDepth 100000 in
theorem k_X4_readLimit (l : Launch) (D : va_G) (cB cC cI cJ : ClassId) (sz : Nat) (a0 a1 a2 a3 a4 a5 a6 : Nat) (x0 x1 x2 x3 x4 x5 x6 x7 x8 x9 x10 x11 x12 x13 : Int32) (f0 : Nat → Int32) (h_x6 : (0 ≤ x6.toInt ∧ x6.toInt ≤ 1600)) (h_x7 : ((-1) ≤ x7.toInt ∧ x7.toInt ≤ 8)) (h_x8 : ((-1) ≤ x8.toInt ∧ x8.toInt ≤ 5)) (h_x9 : ((-1) ≤ x9.toInt ∧ x9.toInt ≤ 6)) (h_x10 : (0 ≤ x10.toInt ∧ x10.toInt ≤ 6)) (h_x11 : (0 ≤ x11.toInt ∧ x11.toInt ≤ 16)) : Met l yX4_readLimit (.code yX4_readLimit cX4_readLimit 1 (some .boolean) :: lw_gd) ({ frames := 4, cells := 0, slots := 0, locals := 88 }) (gPre D [(cB, .byte), (cC, .char), (cI, .int), (cJ, .long)] [.ref a0] [(a0, .inr (4, [.ref a1, .ref a2, .int x0, .int x1, .int x2, .int x3, .int x4, .int x5])), (a1, .inr (9, [.ref a3, .int x6])), (a3, .inl (cB, 1600, .inl f0)), (a2, .inr (1, [.ref a4, .ref a5, .ref a6, .int x7, .int x8, .int x9, .int x10, .int x11, .int x12, .int x13]))] sz) (va_Qi (fun r u => (0 ≤ r.toInt ∧ r.toInt ≤ 1)) (gB D (va_A [(a0, .inr (4, [.ref a1, .ref a2, .int x0, .int x1, .int x2, .int x3, .int x4, .int x5])), (a1, .inr (9, [.ref a3, .int x6])), (a3, .inl (cB, 1600, .inl f0)), (a2, .inr (1, [.ref a4, .ref a5, .ref a6, .int x7, .int x8, .int x9, .int x10, .int x11, .int x12, .int x13]))] sz) (fun u : gEx => [(a0, .inr (4, [.ref a1, .ref a2, .int (u.2.2.2.1 0), .int (u.2.2.2.1 1), .int (u.2.2.2.1 2), .int x3, .int (u.2.2.2.1 3), .int (u.2.2.2.1 4)])), (a1, .inr (9, [.ref a3, .int x6])), (a3, .inl (cB, 1600, .inl f0)), (a2, .inr (1, [.ref a4, .ref a5, .ref a6, .int x7, .int x8, .int x9, .int x10, .int x11, .int (u.2.2.2.1 5), .int x13]))])) (va_A [(a0, .inr (4, [.ref a1, .ref a2, .int x0, .int x1, .int x2, .int x3, .int x4, .int x5])), (a1, .inr (9, [.ref a3, .int x6])), (a3, .inl (cB, 1600, .inl f0)), (a2, .inr (1, [.ref a4, .ref a5, .ref a6, .int x7, .int x8, .int x9, .int x10, .int x11, .int x12, .int x13]))] sz)) 0 0 (va_A [(a0, .inr (4, [.ref a1, .ref a2, .int x0, .int x1, .int x2, .int x3, .int x4, .int x5])), (a1, .inr (9, [.ref a3, .int x6])), (a3, .inl (cB, 1600, .inl f0)), (a2, .inr (1, [.ref a4, .ref a5, .ref a6, .int x7, .int x8, .int x9, .int x10, .int x11, .int x12, .int x13]))] sz) := by
  refine gOf_z (by decide +kernel) (Nat.le_of_ble_eq_true rfl) ?_
  intro p e s m args below meth c ls A Q hx hb hts hown hml hN hK hP hD hA hl hret
  have hown : s.vm.findClass RX4 = some m.cls := hown
  have hS : va_S A s.heap s.heap [] := va_S.rf
  have hP : va_P D gcl [(a0, .inr (4, [.ref a1, .ref a2, .int x0, .int x1, .int x2, .int x3, .int x4, .int x5])), (a1, .inr (9, [.ref a3, .int x6])), (a3, .inl (cB, 1600, .inl f0)), (a2, .inr (1, [.ref a4, .ref a5, .ref a6, .int x7, .int x8, .int x9, .int x10, .int x11, .int x12, .int x13]))] s.heap := hP
  have hl : lv_has ls 1 [(0, .ref a0)] := hl
  have rx0 := n_rng x0
  have rx1 := n_rng x1
  have rx2 := n_rng x2
  have rx3 := n_rng x3
  have rx4 := n_rng x4
  have rx5 := n_rng x5
  have rx12 := n_rng x12
  have rx13 := n_rng x13
  refine lv_aload_n (pc := 0) hx hb dX4_readLimit_0 rfl (lv_at hl 0 rfl) ?_
  refine va_get (pc := 1) (ci := 4) (v := .ref a2) (C := RX4) (T := TX4) (N := 8) hx hb hts iX4 hown hK hP 0 rfl rfl 1 (by decide) (hts _ tw_169) (fun _ h9 => h9) rfl dX4_readLimit_1 ?_
  refine lv_aload_n (pc := 4) hx hb dX4_readLimit_4 rfl (lv_at hl 0 rfl) ?_
  refine lv_iconst (pc := 5) (v := 0) hx hb dX4_readLimit_5 (by decide) ?_
  refine lv_sipush (pc := 6) (v := 9999) hx hb dX4_readLimit_6 (by decide) ?_
  refine gc_i (pc := 9) (wc := [(a0, .inr (4, [.ref a1, .ref a2, .int x0, .int x1, .int x2, .int x3, .int x4, .int x5])), (a1, .inr (9, [.ref a3, .int x6])), (a3, .inl (cB, 1600, .inl f0))]) (wr := [(a2, .inr (1, [.ref a4, .ref a5, .ref a6, .int x7, .int x8, .int x9, .int x10, .int x11, .int x12, .int x13]))]) hP hD hS hA [0, 1, 2] [3] rfl rfl (by decide) (by decide) (by decide) (fun hPc hDc => va_runV (As := [.int 0, .int 9999]) (rest := [.ref a2]) ⟨hx, hb, hml, hown, hts⟩ (k_X4_readBetween l D cB cC cI cJ _ a0 a1 a2 a3 0 9999 x0 x1 x2 x3 x4 x5 x6 f0 (by have k0 := tI_0; have k1 := tI_9999; omega) (by have k0 := tI_0; have k1 := tI_9999; omega) (by have k0 := tI_0; have k1 := tI_9999; omega)) ⟨gcwB hts tw_608 tw_2 tw_605 hd_yX4_readBetween ⟨Nat.le_of_ble_eq_true rfl, Nat.le_of_ble_eq_true rfl⟩, hts _ tw_607, hts _ tp_8⟩ ⟨gblind, va_recv hK hPc (ci := 4) (q0 := 0) rfl rfl, (gpreS hPc hK hDc hN).2⟩ rfl rfl hl.1 rfl (lv_room (Nat.le_of_ble_eq_true rfl)) dX4_readLimit_9 ⟨Nat.le_of_ble_eq_true rfl, Nat.le_of_ble_eq_true rfl⟩) (fun r_2 u_1 H locs hw_3 hP hD hS => ?_)
  have hP : va_P D gcl [(a2, .inr (1, [.ref a4, .ref a5, .ref a6, .int x7, .int x8, .int x9, .int x10, .int x11, .int x12, .int x13])), (a0, .inr (4, [.ref a1, .ref a2, .int (u_1.2.2.2.1 0), .int (u_1.2.2.2.1 1), .int (u_1.2.2.2.1 2), .int x3, .int (u_1.2.2.2.1 3), .int (u_1.2.2.2.1 4)])), (a1, .inr (9, [.ref a3, .int x6])), (a3, .inl (cB, 1600, .inl f0))] H := hP
  have hD : va_D A [(a2, .inr (1, [.ref a4, .ref a5, .ref a6, .int x7, .int x8, .int x9, .int x10, .int x11, .int x12, .int x13])), (a0, .inr (4, [.ref a1, .ref a2, .int (u_1.2.2.2.1 0), .int (u_1.2.2.2.1 1), .int (u_1.2.2.2.1 2), .int x3, .int (u_1.2.2.2.1 3), .int (u_1.2.2.2.1 4)])), (a1, .inr (9, [.ref a3, .int x6])), (a3, .inl (cB, 1600, .inl f0))] := hD
  have ru_1_0 := n_rng (u_1.2.2.2.1 0)
  have ru_1_1 := n_rng (u_1.2.2.2.1 1)
  have ru_1_2 := n_rng (u_1.2.2.2.1 2)
  have ru_1_3 := n_rng (u_1.2.2.2.1 3)
  have ru_1_4 := n_rng (u_1.2.2.2.1 4)
  obtain ⟨hw_4, hw_5⟩ := hw_3
  have hw_4 : ((-1) ≤ r_2.toInt ∧ r_2.toInt ≤ 9999) := hw_4
  have hw_5 : (-1 ≤ r_2.toInt ∧ r_2.toInt ≤ (9999 : Int32).toInt) := hw_5
  have kk0_r_2 := tI_0
  have kk1_r_2 := tI_9999
  have rr_2 := n_rng r_2
  refine va_putN (pc := 12) (ci := 1) (v := .int r_2) (ty := .int) (C := RX1) (T := TX1) (N := 10) hx hb hts iX1 tyX1 tyX1_ok nmX1 hown hK hP hD hS 0 rfl rfl 8 (by decide) (va_Nw.use rfl (hN _ tn_142)) (fun _ h9 => h9) rfl (by decide +kernel) rfl rfl (Nat.le_of_ble_eq_true rfl) dX4_readLimit_12 (fun H locs hP hD hS => ?_)
  have hP : va_P D gcl [(a2, .inr (1, [.ref a4, .ref a5, .ref a6, .int x7, .int x8, .int x9, .int x10, .int x11, .int r_2, .int x13])), (a0, .inr (4, [.ref a1, .ref a2, .int (u_1.2.2.2.1 0), .int (u_1.2.2.2.1 1), .int (u_1.2.2.2.1 2), .int x3, .int (u_1.2.2.2.1 3), .int (u_1.2.2.2.1 4)])), (a1, .inr (9, [.ref a3, .int x6])), (a3, .inl (cB, 1600, .inl f0))] H := hP
  have hD : va_D A [(a2, .inr (1, [.ref a4, .ref a5, .ref a6, .int x7, .int x8, .int x9, .int x10, .int x11, .int r_2, .int x13])), (a0, .inr (4, [.ref a1, .ref a2, .int (u_1.2.2.2.1 0), .int (u_1.2.2.2.1 1), .int (u_1.2.2.2.1 2), .int x3, .int (u_1.2.2.2.1 3), .int (u_1.2.2.2.1 4)])), (a1, .inr (9, [.ref a3, .int x6])), (a3, .inl (cB, 1600, .inl f0))] := hD
  refine lv_aload_n (pc := 15) hx hb dX4_readLimit_15 rfl (lv_at hl 0 rfl) ?_
  refine va_get (pc := 16) (ci := 4) (v := .ref a2) (C := RX4) (T := TX4) (N := 8) hx hb hts iX4 hown hK hP 1 rfl rfl 1 (by decide) (hts _ tw_169) (fun _ h9 => h9) rfl dX4_readLimit_16 ?_
  refine va_getN (pc := 19) (ci := 1) (v := .int r_2) (C := RX1) (T := TX1) (N := 10) hx hb hts iX1 hown hK hP 0 rfl rfl 8 (by decide) (va_Nw.use rfl (hN _ tn_142)) (fun _ h9 => h9) rfl dX4_readLimit_19 ?_
  refine lv_iconst (pc := 22) (v := (-1)) hx hb dX4_readLimit_22 (by decide) ?_
  refine b_icmp_eq (pc := 23) (tgt := 30) hx hb rfl tI_m1  dX4_readLimit_23 (by decide) (fun c_6 => ?_) (fun c_6 => ?_)
  ·
    refine lv_iconst (pc := 30) (v := 0) hx hb dX4_readLimit_30 (by decide) ?_
    exact hret 0 ((fun _ => 0), (fun _ => (fun _ => 0)), (fun _ => (fun _ => 0)), (fun k => [(u_1.2.2.2.1 0), (u_1.2.2.2.1 1), (u_1.2.2.2.1 2), (u_1.2.2.2.1 3), (u_1.2.2.2.1 4), r_2].getD k 0), (fun _ => 0)) dX4_readLimit_31 ⟨(by have k9 := tI_0; omega), (show (0 ≤ (0 : Int32).toInt ∧ (0 : Int32).toInt ≤ 1) by have k9 := tI_0; omega)⟩ (g_psub (wc := [(a0, .inr (4, [.ref a1, .ref a2, .int (u_1.2.2.2.1 0), .int (u_1.2.2.2.1 1), .int (u_1.2.2.2.1 2), .int x3, .int (u_1.2.2.2.1 3), .int (u_1.2.2.2.1 4)])), (a1, .inr (9, [.ref a3, .int x6])), (a3, .inl (cB, 1600, .inl f0)), (a2, .inr (1, [.ref a4, .ref a5, .ref a6, .int x7, .int x8, .int x9, .int x10, .int x11, .int r_2, .int x13]))]) hP [1, 2, 3, 0] rfl) (hD.sub (ws' := [(a0, .inr (4, [.ref a1, .ref a2, .int (u_1.2.2.2.1 0), .int (u_1.2.2.2.1 1), .int (u_1.2.2.2.1 2), .int x3, .int (u_1.2.2.2.1 3), .int (u_1.2.2.2.1 4)])), (a1, .inr (9, [.ref a3, .int x6])), (a3, .inl (cB, 1600, .inl f0)), (a2, .inr (1, [.ref a4, .ref a5, .ref a6, .int x7, .int x8, .int x9, .int x10, .int x11, .int r_2, .int x13]))]) [1, 2, 3, 0] (by decide) rfl) hS
  ·
    refine lv_iconst (pc := 26) (v := 1) hx hb dX4_readLimit_26 (by decide) ?_
    refine lv_goto (pc := 27) (tgt := 31) hx hb dX4_readLimit_27 (by decide) ?_
    exact hret 1 ((fun _ => 0), (fun _ => (fun _ => 0)), (fun _ => (fun _ => 0)), (fun k => [(u_1.2.2.2.1 0), (u_1.2.2.2.1 1), (u_1.2.2.2.1 2), (u_1.2.2.2.1 3), (u_1.2.2.2.1 4), r_2].getD k 0), (fun _ => 0)) dX4_readLimit_31 ⟨(by have k9 := tI_1; omega), (show (0 ≤ (1 : Int32).toInt ∧ (1 : Int32).toInt ≤ 1) by have k9 := tI_1; omega)⟩ (g_psub (wc := [(a0, .inr (4, [.ref a1, .ref a2, .int (u_1.2.2.2.1 0), .int (u_1.2.2.2.1 1), .int (u_1.2.2.2.1 2), .int x3, .int (u_1.2.2.2.1 3), .int (u_1.2.2.2.1 4)])), (a1, .inr (9, [.ref a3, .int x6])), (a3, .inl (cB, 1600, .inl f0)), (a2, .inr (1, [.ref a4, .ref a5, .ref a6, .int x7, .int x8, .int x9, .int x10, .int x11, .int r_2, .int x13]))]) hP [1, 2, 3, 0] rfl) (hD.sub (ws' := [(a0, .inr (4, [.ref a1, .ref a2, .int (u_1.2.2.2.1 0), .int (u_1.2.2.2.1 1), .int (u_1.2.2.2.1 2), .int x3, .int (u_1.2.2.2.1 3), .int (u_1.2.2.2.1 4)])), (a1, .inr (9, [.ref a3, .int x6])), (a3, .inl (cB, 1600, .inl f0)), (a2, .inr (1, [.ref a4, .ref a5, .ref a6, .int x7, .int x8, .int x9, .int x10, .int x11, .int r_2, .int x13]))]) [1, 2, 3, 0] (by decide) rfl) hS
set_option maxHeartbeats 4000000 in
set_option maxRecDepth 100000 in
theorem k_X4_hasRoom (l : Launch) (D : va_G) (cB cC cI cJ : ClassId) (sz : Nat) (a0 a1 a2 : Nat) (x0 x1 x2 x3 x4 x5 x6 x7 : Int32) (hp1 : (0 ≤ x0.toInt ∧ x0.toInt ≤ 16)) (hp2 : ((-1) ≤ x1.toInt ∧ x1.toInt ≤ 16)) : Met l yX4_hasRoom (.code yX4_hasRoom cX4_hasRoom 3 (some .boolean) :: lw_gd) ({ frames := 1, cells := 0, slots := 0, locals := 22 }) (gPre D [(cB, .byte), (cC, .char), (cI, .int), (cJ, .long)] [.ref a0, .int x0, .int x1] [(a0, .inr (4, [.ref a1, .ref a2, .int x2, .int x3, .int x4, .int x5, .int x6, .int x7]))] sz) (va_Qi (fun r u => (0 ≤ r.toInt ∧ r.toInt ≤ 1) ∧ (x0.toInt + 1 + 100 * r.toInt ≤ x1.toInt + 100)) (gB D (va_A [(a0, .inr (4, [.ref a1, .ref a2, .int x2, .int x3, .int x4, .int x5, .int x6, .int x7]))] sz) (fun u : gEx => [(a0, .inr (4, [.ref a1, .ref a2, .int x2, .int x3, .int x4, .int x5, .int (u.2.2.2.1 0), .int (u.2.2.2.1 1)]))])) (va_A [(a0, .inr (4, [.ref a1, .ref a2, .int x2, .int x3, .int x4, .int x5, .int x6, .int x7]))] sz)) 0 0 (va_A [(a0, .inr (4, [.ref a1, .ref a2, .int x2, .int x3, .int x4, .int x5, .int x6, .int x7]))] sz) := by
  refine gOf_z (by decide +kernel) (Nat.le_of_ble_eq_true rfl) ?_
  intro p e s m args below meth c ls A Q hx hb hts hown hml hN hK hP hD hA hl hret
  have hown : s.vm.findClass RX4 = some m.cls := hown
  have hS : va_S A s.heap s.heap [] := va_S.rf
  have hP : va_P D gcl [(a0, .inr (4, [.ref a1, .ref a2, .int x2, .int x3, .int x4, .int x5, .int x6, .int x7]))] s.heap := hP
  have hl : lv_has ls 3 [(0, .ref a0), (1, .int x0), (2, .int x1)] := hl
  have rx2 := n_rng x2
  have rx3 := n_rng x3
  have rx4 := n_rng x4
  have rx5 := n_rng x5
  have rx6 := n_rng x6
  have rx7 := n_rng x7
  refine lv_iload_n (pc := 0) hx hb dX4_hasRoom_0 rfl (lv_at hl 1 rfl) ?_
  refine lv_iload_n (pc := 1) hx hb dX4_hasRoom_1 rfl (lv_at hl 2 rfl) ?_
  refine b_icmp_lt (pc := 2) (tgt := 17) hx hb rfl rfl  dX4_hasRoom_2 (by decide) (fun c_1 => ?_) (fun c_1 => ?_)
  ·
    refine lv_iconst (pc := 17) (v := 1) hx hb dX4_hasRoom_17 (by decide) ?_
    refine lv_goto (pc := 18) (tgt := 22) hx hb dX4_hasRoom_18 (by decide) ?_
    have k9 := tI_1
    exact hret 1 ((fun _ => 0), (fun _ => (fun _ => 0)), (fun _ => (fun _ => 0)), (fun k => [x6, x7].getD k 0), (fun _ => 0)) dX4_hasRoom_22 ⟨(by have k9 := tI_1; omega), ⟨(show (0 ≤ (1 : Int32).toInt ∧ (1 : Int32).toInt ≤ 1) by have k9 := tI_1; omega), (show x0.toInt + 1 + 100 * (1 : Int32).toInt ≤ x1.toInt + 100 by have k9 := tI_1; omega)⟩⟩ (g_psub (wc := [(a0, .inr (4, [.ref a1, .ref a2, .int x2, .int x3, .int x4, .int x5, .int x6, .int x7]))]) hP [0] rfl) (hD.sub (ws' := [(a0, .inr (4, [.ref a1, .ref a2, .int x2, .int x3, .int x4, .int x5, .int x6, .int x7]))]) [0] (by decide) rfl) hS
  ·
    refine lv_aload_n (pc := 5) hx hb dX4_hasRoom_5 rfl (lv_at hl 0 rfl) ?_
    refine lv_iconst (pc := 6) (v := 4) hx hb dX4_hasRoom_6 (by decide) ?_
    refine lv_aload_n (pc := 7) hx hb dX4_hasRoom_7 rfl (lv_at hl 0 rfl) ?_
    refine va_get (pc := 8) (ci := 4) (v := .int x2) (C := RX4) (T := TX4) (N := 8) hx hb hts iX4 hown hK hP 0 rfl rfl 2 (by decide) (hts _ tw_170) (fun _ h9 => h9) rfl dX4_hasRoom_8 ?_
    refine gc_i (pc := 11) (wc := [(a0, .inr (4, [.ref a1, .ref a2, .int x2, .int x3, .int x4, .int x5, .int x6, .int x7]))]) (wr := []) hP hD hS hA [0] [] rfl rfl (by decide) (by decide) (by decide) (fun hPc hDc => va_runV (As := [.int 4, .int x2]) (rest := []) ⟨hx, hb, hml, hown, hts⟩ (k_X4_fail l D cB cC cI cJ _ a0 a1 a2 4 x2 x2 x3 x4 x5 x6 x7) ⟨gcwB hts tw_535 tw_2 tw_532 hd_yX4_fail ⟨Nat.le_of_ble_eq_true rfl, Nat.le_of_ble_eq_true rfl⟩, hts _ tw_534, hts _ tp_2⟩ ⟨gblind, va_recv hK hPc (ci := 4) (q0 := 0) rfl rfl, (gpreS hPc hK hDc hN).2⟩ rfl rfl hl.1 rfl (lv_room (Nat.le_of_ble_eq_true rfl)) dX4_hasRoom_11 ⟨Nat.le_of_ble_eq_true rfl, Nat.le_of_ble_eq_true rfl⟩) (fun r_3 u_2 H locs hw_4 hP hD hS => ?_)
    have hP : va_P D gcl [(a0, .inr (4, [.ref a1, .ref a2, .int x2, .int x3, .int x4, .int x5, .int 4, .int x2]))] H := hP
    have hD : va_D A [(a0, .inr (4, [.ref a1, .ref a2, .int x2, .int x3, .int x4, .int x5, .int 4, .int x2]))] := hD
    have hw_5 : ((r_3.toInt = 0)) := hw_4
    have kk0_r_3 := tI_4
    have rr_3 := n_rng r_3
    refine b_if_eq (pc := 14) (tgt := 21) hx hb rfl  dX4_hasRoom_14 (by decide) (fun c_6 => ?_) (fun c_6 => absurd c_6 (by omega))
    refine lv_iconst (pc := 21) (v := 0) hx hb dX4_hasRoom_21 (by decide) ?_
    have k9 := tI_0
    have k8_0 := tI_4
    exact hret 0 ((fun _ => 0), (fun _ => (fun _ => 0)), (fun _ => (fun _ => 0)), (fun k => [4, x2].getD k 0), (fun _ => 0)) dX4_hasRoom_22 ⟨(by have k9 := tI_0; have k8_0 := tI_4; omega), ⟨(show (0 ≤ (0 : Int32).toInt ∧ (0 : Int32).toInt ≤ 1) by have k9 := tI_0; have k8_0 := tI_4; omega), (show x0.toInt + 1 + 100 * (0 : Int32).toInt ≤ x1.toInt + 100 by have k9 := tI_0; have k8_0 := tI_4; omega)⟩⟩ (g_psub (wc := [(a0, .inr (4, [.ref a1, .ref a2, .int x2, .int x3, .int x4, .int x5, .int 4, .int x2]))]) hP [0] rfl) (hD.sub (ws' := [(a0, .inr (4, [.ref a1, .ref a2, .int x2, .int x3, .int x4, .int x5, .int 4, .int x2]))]) [0] (by decide) rfl) hS
set_option maxHeartbeats 4000000 in
set_option maxRecDepth 100000 in
theorem k_X4_adds (l : Launch) (D : va_G) (cB cC cI cJ : ClassId) (sz : Nat) (a0 a1 a2 a3 a4 a5 a6 a7 a8 a9 a10 : Nat) (x0 x1 x2 x3 x4 x5 x6 x7 x8 x9 x10 x11 x12 x13 x14 x15 : Int32) (f0 : Nat → Int32) (h_x7 : ((-1) ≤ x7.toInt ∧ x7.toInt ≤ 8)) (h_x8 : ((-1) ≤ x8.toInt ∧ x8.toInt ≤ 5)) (h_x9 : ((-1) ≤ x9.toInt ∧ x9.toInt ≤ 6)) (h_x10 : (0 ≤ x10.toInt ∧ x10.toInt ≤ 6)) (h_x11 : (0 ≤ x11.toInt ∧ x11.toInt ≤ 16)) (h_x14 : (0 ≤ x14.toInt ∧ x14.toInt ≤ 1600)) (h_x15 : (0 ≤ x15.toInt ∧ x15.toInt ≤ 8)) : Met l yX4_adds (.code yX4_adds cX4_adds 2 (some .boolean) :: lw_gd) ({ frames := 1, cells := 0, slots := 0, locals := 21 }) (gPre D [(cB, .byte), (cC, .char), (cI, .int), (cJ, .long)] [.ref a0, .int x0] [(a0, .inr (4, [.ref a1, .ref a2, .int x1, .int x2, .int x3, .int x4, .int x5, .int x6])), (a2, .inr (1, [.ref a3, .ref a4, .ref a5, .int x7, .int x8, .int x9, .int x10, .int x11, .int x12, .int x13])), (a4, .inr (5, [.ref a6, .ref a7, .ref a8, .ref a9, .ref a10, .int x14, .int x15])), (a6, .inl (cI, 1600, .inl f0))] sz) (va_Qi (fun r u => ((r.toInt = 1)) ∧ (0 ≤ (u.2.2.2.1 0).toInt ∧ (u.2.2.2.1 0).toInt ≤ 1600)) (gB D (va_A [(a0, .inr (4, [.ref a1, .ref a2, .int x1, .int x2, .int x3, .int x4, .int x5, .int x6])), (a2, .inr (1, [.ref a3, .ref a4, .ref a5, .int x7, .int x8, .int x9, .int x10, .int x11, .int x12, .int x13])), (a4, .inr (5, [.ref a6, .ref a7, .ref a8, .ref a9, .ref a10, .int x14, .int x15])), (a6, .inl (cI, 1600, .inl f0))] sz) (fun u : gEx => [(a0, .inr (4, [.ref a1, .ref a2, .int x1, .int x2, .int x3, .int x4, .int x5, .int x6])), (a2, .inr (1, [.ref a3, .ref a4, .ref a5, .int x7, .int x8, .int x9, .int x10, .int x11, .int x12, .int x13])), (a4, .inr (5, [.ref a6, .ref a7, .ref a8, .ref a9, .ref a10, .int (u.2.2.2.1 0), .int x15])), (a6, .inl (cI, 1600, .inl (u.2.1 0)))])) (va_A [(a0, .inr (4, [.ref a1, .ref a2, .int x1, .int x2, .int x3, .int x4, .int x5, .int x6])), (a2, .inr (1, [.ref a3, .ref a4, .ref a5, .int x7, .int x8, .int x9, .int x10, .int x11, .int x12, .int x13])), (a4, .inr (5, [.ref a6, .ref a7, .ref a8, .ref a9, .ref a10, .int x14, .int x15])), (a6, .inl (cI, 1600, .inl f0))] sz)) 0 0 (va_A [(a0, .inr (4, [.ref a1, .ref a2, .int x1, .int x2, .int x3, .int x4, .int x5, .int x6])), (a2, .inr (1, [.ref a3, .ref a4, .ref a5, .int x7, .int x8, .int x9, .int x10, .int x11, .int x12, .int x13])), (a4, .inr (5, [.ref a6, .ref a7, .ref a8, .ref a9, .ref a10, .int x14, .int x15])), (a6, .inl (cI, 1600, .inl f0))] sz) := by
  refine gOf_z (by decide +kernel) (Nat.le_of_ble_eq_true rfl) ?_
  intro p e s m args below meth c ls A Q hx hb hts hown hml hN hK hP hD hA hl hret
  have hown : s.vm.findClass RX4 = some m.cls := hown
  have hS : va_S A s.heap s.heap [] := va_S.rf
  have hP : va_P D gcl [(a0, .inr (4, [.ref a1, .ref a2, .int x1, .int x2, .int x3, .int x4, .int x5, .int x6])), (a2, .inr (1, [.ref a3, .ref a4, .ref a5, .int x7, .int x8, .int x9, .int x10, .int x11, .int x12, .int x13])), (a4, .inr (5, [.ref a6, .ref a7, .ref a8, .ref a9, .ref a10, .int x14, .int x15])), (a6, .inl (cI, 1600, .inl f0))] s.heap := hP
  have hl : lv_has ls 2 [(0, .ref a0), (1, .int x0)] := hl
  have rx0 := n_rng x0
  have rx1 := n_rng x1
  have rx2 := n_rng x2
  have rx3 := n_rng x3
  have rx4 := n_rng x4
  have rx5 := n_rng x5
  have rx6 := n_rng x6
  have rx12 := n_rng x12
  have rx13 := n_rng x13
  refine lv_aload_n (pc := 0) hx hb dX4_adds_0 rfl (lv_at hl 0 rfl) ?_
  refine va_get (pc := 1) (ci := 4) (v := .ref a2) (C := RX4) (T := TX4) (N := 8) hx hb hts iX4 hown hK hP 0 rfl rfl 1 (by decide) (hts _ tw_169) (fun _ h9 => h9) rfl dX4_adds_1 ?_
  refine va_getN (pc := 4) (ci := 1) (v := .ref a4) (C := RX1) (T := TX1) (N := 10) hx hb hts iX1 hown hK hP 1 rfl rfl 1 (by decide) (va_Nw.use rfl (hN _ tn_107)) (fun _ h9 => h9) rfl dX4_adds_4 ?_
  refine lv_iload_n (pc := 7) hx hb dX4_adds_7 rfl (lv_at hl 1 rfl) ?_
  refine gc_v (pc := 8) (wc := [(a4, .inr (5, [.ref a6, .ref a7, .ref a8, .ref a9, .ref a10, .int x14, .int x15])), (a6, .inl (cI, 1600, .inl f0))]) (wr := [(a0, .inr (4, [.ref a1, .ref a2, .int x1, .int x2, .int x3, .int x4, .int x5, .int x6])), (a2, .inr (1, [.ref a3, .ref a4, .ref a5, .int x7, .int x8, .int x9, .int x10, .int x11, .int x12, .int x13]))]) hP hD hS hA [2, 3] [0, 1] rfl rfl (by decide) (by decide) (by decide) (fun hPc hDc => va_runV (As := [.int x0]) (rest := []) ⟨hx, hb, hml, hown, hts⟩ (k_X5_add l D cB cC cI cJ _ a4 a6 a7 a8 a9 a10 x0 x14 x15 f0 (by  omega) (by  omega)) ⟨gcwB hts tw_688 tw_6 tw_685 hd_yX5_add ⟨Nat.le_of_ble_eq_true rfl, Nat.le_of_ble_eq_true rfl⟩, hts _ tw_686, hts _ tw_687⟩ ⟨gblind, va_recv hK hPc (ci := 5) (q0 := 0) rfl rfl, (gpreS hPc hK hDc hN).2⟩ rfl rfl hl.1 rfl (lv_room (Nat.le_of_ble_eq_true rfl)) dX4_adds_8 ⟨Nat.le_of_ble_eq_true rfl, Nat.le_of_ble_eq_true rfl⟩) (fun u_1 H locs hw_3 hP hD hS => ?_)
  have hP : va_P D gcl [(a0, .inr (4, [.ref a1, .ref a2, .int x1, .int x2, .int x3, .int x4, .int x5, .int x6])), (a2, .inr (1, [.ref a3, .ref a4, .ref a5, .int x7, .int x8, .int x9, .int x10, .int x11, .int x12, .int x13])), (a4, .inr (5, [.ref a6, .ref a7, .ref a8, .ref a9, .ref a10, .int (u_1.2.2.2.1 0), .int x15])), (a6, .inl (cI, 1600, .inl (u_1.2.1 0)))] H := hP
  have hD : va_D A [(a0, .inr (4, [.ref a1, .ref a2, .int x1, .int x2, .int x3, .int x4, .int x5, .int x6])), (a2, .inr (1, [.ref a3, .ref a4, .ref a5, .int x7, .int x8, .int x9, .int x10, .int x11, .int x12, .int x13])), (a4, .inr (5, [.ref a6, .ref a7, .ref a8, .ref a9, .ref a10, .int (u_1.2.2.2.1 0), .int x15])), (a6, .inl (cI, 1600, .inl (u_1.2.1 0)))] := hD
  obtain ⟨hw_4, hw_5⟩ := hw_3
  have hw_4 : ((x14.toInt ≥ 1600 ∧ (u_1.2.2.2.1 0).toInt = x14.toInt) ∨ (x14.toInt < 1600 ∧ (u_1.2.2.2.1 0).toInt = (x14.toInt) + (1))) := hw_4
  have hw_5 : (0 ≤ (u_1.2.2.2.1 0).toInt ∧ (u_1.2.2.2.1 0).toInt ≤ 1600) := hw_5
  refine lv_iconst (pc := 11) (v := 1) hx hb dX4_adds_11 (by decide) ?_
  exact hret 1 ((fun _ => 0), (fun k => [(u_1.2.1 0)].getD k (fun _ => 0)), (fun _ => (fun _ => 0)), (fun k => [(u_1.2.2.2.1 0)].getD k 0), (fun _ => 0)) dX4_adds_12 ⟨(by have k9 := tI_1; omega), ⟨(show (((1 : Int32).toInt = 1)) by have k9 := tI_1; omega), (show (0 ≤ ((u_1.2.2.2.1 0) : Int32).toInt ∧ ((u_1.2.2.2.1 0) : Int32).toInt ≤ 1600) by have k9 := tI_1; omega)⟩⟩ (g_psub (wc := [(a0, .inr (4, [.ref a1, .ref a2, .int x1, .int x2, .int x3, .int x4, .int x5, .int x6])), (a2, .inr (1, [.ref a3, .ref a4, .ref a5, .int x7, .int x8, .int x9, .int x10, .int x11, .int x12, .int x13])), (a4, .inr (5, [.ref a6, .ref a7, .ref a8, .ref a9, .ref a10, .int (u_1.2.2.2.1 0), .int x15])), (a6, .inl (cI, 1600, .inl (u_1.2.1 0)))]) hP [0, 1, 2, 3] rfl) (hD.sub (ws' := [(a0, .inr (4, [.ref a1, .ref a2, .int x1, .int x2, .int x3, .int x4, .int x5, .int x6])), (a2, .inr (1, [.ref a3, .ref a4, .ref a5, .int x7, .int x8, .int x9, .int x10, .int x11, .int x12, .int x13])), (a4, .inr (5, [.ref a6, .ref a7, .ref a8, .ref a9, .ref a10, .int (u_1.2.2.2.1 0), .int x15])), (a6, .inl (cI, 1600, .inl (u_1.2.1 0)))]) [0, 1, 2, 3] (by decide) rfl) hS
set_option maxHeartbeats 4000000 in
set_option maxRecDepth 100000 in
theorem k_X4_opens_0 (l : Launch) (D : va_G) (cB cC cI cJ : ClassId) (sz : Nat) (a0 a1 a2 : Nat) (x0 x1 x2 x3 x4 x5 : Int32) (h_x3 : (0 ≤ x3.toInt ∧ x3.toInt ≤ 0)) : Met l yX4_opens (.code yX4_opens cX4_opens 1 (some .boolean) :: lw_gd) ({ frames := 0, cells := 0, slots := 0, locals := 0 }) (gPre D [(cB, .byte), (cC, .char), (cI, .int), (cJ, .long)] [.ref a0] [(a0, .inr (4, [.ref a1, .ref a2, .int x0, .int x1, .int x2, .int x3, .int x4, .int x5]))] sz) (va_Qi (fun r u => ((r.toInt = 1 ∧ x3.toInt < 6 ∧ (u.2.2.2.1 0).toInt = (x3.toInt) + (1)))) (gB D (va_A [(a0, .inr (4, [.ref a1, .ref a2, .int x0, .int x1, .int x2, .int x3, .int x4, .int x5]))] sz) (fun u : gEx => [(a0, .inr (4, [.ref a1, .ref a2, .int x0, .int x1, .int x2, .int (u.2.2.2.1 0), .int x4, .int x5]))])) (va_A [(a0, .inr (4, [.ref a1, .ref a2, .int x0, .int x1, .int x2, .int x3, .int x4, .int x5]))] sz)) 0 0 (va_A [(a0, .inr (4, [.ref a1, .ref a2, .int x0, .int x1, .int x2, .int x3, .int x4, .int x5]))] sz) := by
  refine gOf_z (by decide +kernel) (Nat.le_of_ble_eq_true rfl) ?_
  intro p e s m args below meth c ls A Q hx hb hts hown hml hN hK hP hD hA hl hret
  have hown : s.vm.findClass RX4 = some m.cls := hown
  have hS : va_S A s.heap s.heap [] := va_S.rf
  have hP : va_P D gcl [(a0, .inr (4, [.ref a1, .ref a2, .int x0, .int x1, .int x2, .int x3, .int x4, .int x5]))] s.heap := hP
  have hl : lv_has ls 1 [(0, .ref a0)] := hl
  have rx0 := n_rng x0
  have rx1 := n_rng x1
  have rx2 := n_rng x2
  have rx4 := n_rng x4
  have rx5 := n_rng x5
  refine lv_aload_n (pc := 0) hx hb dX4_opens_0 rfl (lv_at hl 0 rfl) ?_
  refine va_get (pc := 1) (ci := 4) (v := .int x3) (C := RX4) (T := TX4) (N := 8) hx hb hts iX4 hown hK hP 0 rfl rfl 5 (by decide) (hts _ tw_173) (fun _ h9 => h9) rfl dX4_opens_1 ?_
  refine lv_bipush (pc := 4) (v := 6) hx hb dX4_opens_4 (by decide) ?_
  refine b_icmp_lt (pc := 6) (tgt := 19) hx hb rfl tI_6  dX4_opens_6 (by decide) (fun c_1 => ?_) (fun c_1 => absurd c_1 (by omega))
  refine lv_aload_n (pc := 19) hx hb dX4_opens_19 rfl (lv_at hl 0 rfl) ?_
  refine lv_dup (pc := 20) hx hb dX4_opens_20 rfl ?_
  refine va_get (pc := 21) (ci := 4) (v := .int x3) (C := RX4) (T := TX4) (N := 8) hx hb hts iX4 hown hK hP 0 rfl rfl 5 (by decide) (hts _ tw_173) (fun _ h9 => h9) rfl dX4_opens_21 ?_
  refine lv_iconst (pc := 24) (v := 1) hx hb dX4_opens_24 (by decide) ?_
  refine b_iadd (pc := 25) hx hb rfl tI_1 (by omega) (by omega) dX4_opens_25 (fun x_2 ex_2 => ?_)
  refine va_put (pc := 26) (ci := 4) (v := .int x_2) (ty := .int) (C := RX4) (T := TX4) (N := 8) hx hb hts iX4 tyX4 tyX4_ok nmX4 hown hK hP hD hS 0 rfl rfl 5 (by decide) (hts _ tw_173) (fun _ h9 => h9) rfl (by decide +kernel) rfl rfl (Nat.le_of_ble_eq_true rfl) dX4_opens_26 (fun H locs hP hD hS => ?_)
  have hP : va_P D gcl [(a0, .inr (4, [.ref a1, .ref a2, .int x0, .int x1, .int x2, .int x_2, .int x4, .int x5]))] H := hP
  have hD : va_D A [(a0, .inr (4, [.ref a1, .ref a2, .int x0, .int x1, .int x2, .int x_2, .int x4, .int x5]))] := hD
  refine lv_iconst (pc := 29) (v := 1) hx hb dX4_opens_29 (by decide) ?_
  exact hret 1 ((fun _ => 0), (fun _ => (fun _ => 0)), (fun _ => (fun _ => 0)), (fun k => [x_2].getD k 0), (fun _ => 0)) dX4_opens_30 ⟨(by have k9 := tI_1; omega), (show (((1 : Int32).toInt = 1 ∧ x3.toInt < 6 ∧ (x_2 : Int32).toInt = (x3.toInt) + (1))) by have k9 := tI_1; omega)⟩ (g_psub (wc := [(a0, .inr (4, [.ref a1, .ref a2, .int x0, .int x1, .int x2, .int x_2, .int x4, .int x5]))]) hP [0] rfl) (hD.sub (ws' := [(a0, .inr (4, [.ref a1, .ref a2, .int x0, .int x1, .int x2, .int x_2, .int x4, .int x5]))]) [0] (by decide) rfl) hS
set_option maxHeartbeats 4000000 in
set_option maxRecDepth 100000 in
theorem k_X4_readSign (l : Launch) (D : va_G) (cB cC cI cJ : ClassId) (sz : Nat) (a0 a1 a2 a3 : Nat) (x0 x1 x2 x3 x4 x5 x6 x7 : Int32) (f0 : Nat → Int32) (h_x7 : (0 ≤ x7.toInt ∧ x7.toInt ≤ 1600)) : Met l yX4_readSign (.code yX4_readSign cX4_readSign 2 (some .boolean) :: lw_gd) ({ frames := 2, cells := 0, slots := 0, locals := 43 }) (gPre D [(cB, .byte), (cC, .char), (cI, .int), (cJ, .long)] [.ref a0, .int x0] [(a0, .inr (4, [.ref a1, .ref a2, .int x1, .int x2, .int x3, .int x4, .int x5, .int x6])), (a1, .inr (9, [.ref a3, .int x7])), (a3, .inl (cB, 1600, .inl f0))] sz) (va_Qi (fun r u => (0 ≤ r.toInt ∧ r.toInt ≤ 1)) (gB D (va_A [(a0, .inr (4, [.ref a1, .ref a2, .int x1, .int x2, .int x3, .int x4, .int x5, .int x6])), (a1, .inr (9, [.ref a3, .int x7])), (a3, .inl (cB, 1600, .inl f0))] sz) (fun u : gEx => [(a0, .inr (4, [.ref a1, .ref a2, .int (u.2.2.2.1 0), .int (u.2.2.2.1 1), .int x3, .int x4, .int (u.2.2.2.1 2), .int (u.2.2.2.1 3)])), (a1, .inr (9, [.ref a3, .int x7])), (a3, .inl (cB, 1600, .inl f0))])) (va_A [(a0, .inr (4, [.ref a1, .ref a2, .int x1, .int x2, .int x3, .int x4, .int x5, .int x6])), (a1, .inr (9, [.ref a3, .int x7])), (a3, .inl (cB, 1600, .inl f0))] sz)) 0 0 (va_A [(a0, .inr (4, [.ref a1, .ref a2, .int x1, .int x2, .int x3, .int x4, .int x5, .int x6])), (a1, .inr (9, [.ref a3, .int x7])), (a3, .inl (cB, 1600, .inl f0))] sz) := by
  refine gOf_z (by decide +kernel) (Nat.le_of_ble_eq_true rfl) ?_
  intro p e s m args below meth c ls A Q hx hb hts hown hml hN hK hP hD hA hl hret
  have hown : s.vm.findClass RX4 = some m.cls := hown
  have hS : va_S A s.heap s.heap [] := va_S.rf
  have hP : va_P D gcl [(a0, .inr (4, [.ref a1, .ref a2, .int x1, .int x2, .int x3, .int x4, .int x5, .int x6])), (a1, .inr (9, [.ref a3, .int x7])), (a3, .inl (cB, 1600, .inl f0))] s.heap := hP
  have hl : lv_has ls 2 [(0, .ref a0), (1, .int x0)] := hl
  have rx0 := n_rng x0
  have rx1 := n_rng x1
  have rx2 := n_rng x2
  have rx3 := n_rng x3
  have rx4 := n_rng x4
  have rx5 := n_rng x5
  have rx6 := n_rng x6
  refine lv_aload_n (pc := 0) hx hb dX4_readSign_0 rfl (lv_at hl 0 rfl) ?_
  refine va_get (pc := 1) (ci := 4) (v := .int x2) (C := RX4) (T := TX4) (N := 8) hx hb hts iX4 hown hK hP 0 rfl rfl 3 (by decide) (hts _ tw_171) (fun _ h9 => h9) rfl dX4_readSign_1 ?_
  refine lv_iload_n (pc := 4) hx hb dX4_readSign_4 rfl (lv_at hl 1 rfl) ?_
  refine b_icmp_eq (pc := 5) (tgt := 13) hx hb rfl rfl  dX4_readSign_5 (by decide) (fun c_1 => ?_) (fun c_1 => ?_)
  ·
    refine lv_aload_n (pc := 13) hx hb dX4_readSign_13 rfl (lv_at hl 0 rfl) ?_
    refine lv_aload_n (pc := 14) hx hb dX4_readSign_14 rfl (lv_at hl 0 rfl) ?_
    refine va_get (pc := 15) (ci := 4) (v := .int x1) (C := RX4) (T := TX4) (N := 8) hx hb hts iX4 hown hK hP 0 rfl rfl 2 (by decide) (hts _ tw_170) (fun _ h9 => h9) rfl dX4_readSign_15 ?_
    refine lv_iconst (pc := 18) (v := 1) hx hb dX4_readSign_18 (by decide) ?_
    refine lv_iadd (pc := 19) hx hb dX4_readSign_19 ?_
    refine lv_topi (fun x_2 _ => ?_)
    have rx_2 := n_rng x_2
    refine lv_iconst (pc := 20) (v := 0) hx hb dX4_readSign_20 (by decide) ?_
    refine gc_v (pc := 21) (wc := [(a0, .inr (4, [.ref a1, .ref a2, .int x1, .int x2, .int x3, .int x4, .int x5, .int x6])), (a1, .inr (9, [.ref a3, .int x7])), (a3, .inl (cB, 1600, .inl f0))]) (wr := []) hP hD hS hA [0, 1, 2] [] rfl rfl (by decide) (by decide) (by decide) (fun hPc hDc => va_runV (As := [.int x_2, .int 0]) (rest := []) ⟨hx, hb, hml, hown, hts⟩ (k_X4_goOn l D cB cC cI cJ _ a0 a1 a2 a3 x_2 0 x1 x2 x3 x4 x5 x6 x7 f0 (by have k0 := tI_0; omega) (by have k0 := tI_0; omega)) ⟨gcwB hts tw_513 tw_2 tw_510 hd_yX4_goOn ⟨Nat.le_of_ble_eq_true rfl, Nat.le_of_ble_eq_true rfl⟩, hts _ tw_512, hts _ tp_0⟩ ⟨gblind, va_recv hK hPc (ci := 4) (q0 := 0) rfl rfl, (gpreS hPc hK hDc hN).2⟩ rfl rfl hl.1 rfl (lv_room (Nat.le_of_ble_eq_true rfl)) dX4_readSign_21 ⟨Nat.le_of_ble_eq_true rfl, Nat.le_of_ble_eq_true rfl⟩) (fun u_3 H locs hw_5 hP hD hS => ?_)
    have hP : va_P D gcl [(a0, .inr (4, [.ref a1, .ref a2, .int (u_3.2.2.2.1 0), .int (u_3.2.2.2.1 1), .int x3, .int x4, .int x5, .int x6])), (a1, .inr (9, [.ref a3, .int x7])), (a3, .inl (cB, 1600, .inl f0))] H := hP
    have hD : va_D A [(a0, .inr (4, [.ref a1, .ref a2, .int (u_3.2.2.2.1 0), .int (u_3.2.2.2.1 1), .int x3, .int x4, .int x5, .int x6])), (a1, .inr (9, [.ref a3, .int x7])), (a3, .inl (cB, 1600, .inl f0))] := hD
    have ru_3_0 := n_rng (u_3.2.2.2.1 0)
    have ru_3_1 := n_rng (u_3.2.2.2.1 1)
    refine lv_iconst (pc := 24) (v := 1) hx hb dX4_readSign_24 (by decide) ?_
    exact hret 1 ((fun _ => 0), (fun _ => (fun _ => 0)), (fun _ => (fun _ => 0)), (fun k => [(u_3.2.2.2.1 0), (u_3.2.2.2.1 1), x5, x6].getD k 0), (fun _ => 0)) dX4_readSign_25 ⟨(by have k9 := tI_1; omega), (show (0 ≤ (1 : Int32).toInt ∧ (1 : Int32).toInt ≤ 1) by have k9 := tI_1; omega)⟩ (g_psub (wc := [(a0, .inr (4, [.ref a1, .ref a2, .int (u_3.2.2.2.1 0), .int (u_3.2.2.2.1 1), .int x3, .int x4, .int x5, .int x6])), (a1, .inr (9, [.ref a3, .int x7])), (a3, .inl (cB, 1600, .inl f0))]) hP [0, 1, 2] rfl) (hD.sub (ws' := [(a0, .inr (4, [.ref a1, .ref a2, .int (u_3.2.2.2.1 0), .int (u_3.2.2.2.1 1), .int x3, .int x4, .int x5, .int x6])), (a1, .inr (9, [.ref a3, .int x7])), (a3, .inl (cB, 1600, .inl f0))]) [0, 1, 2] (by decide) rfl) hS
  ·
    refine lv_aload_n (pc := 8) hx hb dX4_readSign_8 rfl (lv_at hl 0 rfl) ?_
    refine gc_i (pc := 9) (wc := [(a0, .inr (4, [.ref a1, .ref a2, .int x1, .int x2, .int x3, .int x4, .int x5, .int x6]))]) (wr := [(a1, .inr (9, [.ref a3, .int x7])), (a3, .inl (cB, 1600, .inl f0))]) hP hD hS hA [0] [1, 2] rfl rfl (by decide) (by decide) (by decide) (fun hPc hDc => va_runV (As := []) (rest := []) ⟨hx, hb, hml, hown, hts⟩ (k_X4_failHere l D cB cC cI cJ _ a0 a1 a2 x1 x2 x3 x4 x5 x6) ⟨gcwB hts tw_531 tw_2 tw_528 hd_yX4_failHere ⟨Nat.le_of_ble_eq_true rfl, Nat.le_of_ble_eq_true rfl⟩, hts _ tw_530, hts _ tp_1⟩ ⟨gblind, va_recv hK hPc (ci := 4) (q0 := 0) rfl rfl, (gpreS hPc hK hDc hN).2⟩ rfl rfl hl.1 rfl (lv_room (Nat.le_of_ble_eq_true rfl)) dX4_readSign_9 ⟨Nat.le_of_ble_eq_true rfl, Nat.le_of_ble_eq_true rfl⟩) (fun r_7 u_6 H locs hw_8 hP hD hS => ?_)
    have hP : va_P D gcl [(a1, .inr (9, [.ref a3, .int x7])), (a3, .inl (cB, 1600, .inl f0)), (a0, .inr (4, [.ref a1, .ref a2, .int x1, .int x2, .int x3, .int x4, .int 1, .int x1]))] H := hP
    have hD : va_D A [(a1, .inr (9, [.ref a3, .int x7])), (a3, .inl (cB, 1600, .inl f0)), (a0, .inr (4, [.ref a1, .ref a2, .int x1, .int x2, .int x3, .int x4, .int 1, .int x1]))] := hD
    have hw_9 : (0 ≤ r_7.toInt ∧ r_7.toInt ≤ 0) := hw_8
    have rr_7 := n_rng r_7
    exact hret r_7 ((fun _ => 0), (fun _ => (fun _ => 0)), (fun _ => (fun _ => 0)), (fun k => [x1, x2, 1, x1].getD k 0), (fun _ => 0)) dX4_readSign_12 ⟨(by have k8_0 := tI_1; omega), (show (0 ≤ r_7.toInt ∧ r_7.toInt ≤ 1) by have k8_0 := tI_1; omega)⟩ (g_psub (wc := [(a0, .inr (4, [.ref a1, .ref a2, .int x1, .int x2, .int x3, .int x4, .int 1, .int x1])), (a1, .inr (9, [.ref a3, .int x7])), (a3, .inl (cB, 1600, .inl f0))]) hP [2, 0, 1] rfl) (hD.sub (ws' := [(a0, .inr (4, [.ref a1, .ref a2, .int x1, .int x2, .int x3, .int x4, .int 1, .int x1])), (a1, .inr (9, [.ref a3, .int x7])), (a3, .inl (cB, 1600, .inl f0))]) [2, 0, 1] (by decide) rfl) hS
set_option maxHeartbeats 4000000 in
set_option maxRecDepth 100000 in
theorem k_X4_opens_1 (l : Launch) (D : va_G) (cB cC cI cJ : ClassId) (sz : Nat) (a0 a1 a2 : Nat) (x0 x1 x2 x3 x4 x5 : Int32) (h_x3 : (1 ≤ x3.toInt ∧ x3.toInt ≤ 1)) : Met l yX4_opens (.code yX4_opens cX4_opens 1 (some .boolean) :: lw_gd) ({ frames := 0, cells := 0, slots := 0, locals := 0 }) (gPre D [(cB, .byte), (cC, .char), (cI, .int), (cJ, .long)] [.ref a0] [(a0, .inr (4, [.ref a1, .ref a2, .int x0, .int x1, .int x2, .int x3, .int x4, .int x5]))] sz) (va_Qi (fun r u => ((r.toInt = 1 ∧ x3.toInt < 6 ∧ (u.2.2.2.1 0).toInt = (x3.toInt) + (1)))) (gB D (va_A [(a0, .inr (4, [.ref a1, .ref a2, .int x0, .int x1, .int x2, .int x3, .int x4, .int x5]))] sz) (fun u : gEx => [(a0, .inr (4, [.ref a1, .ref a2, .int x0, .int x1, .int x2, .int (u.2.2.2.1 0), .int x4, .int x5]))])) (va_A [(a0, .inr (4, [.ref a1, .ref a2, .int x0, .int x1, .int x2, .int x3, .int x4, .int x5]))] sz)) 0 0 (va_A [(a0, .inr (4, [.ref a1, .ref a2, .int x0, .int x1, .int x2, .int x3, .int x4, .int x5]))] sz) := by
  refine gOf_z (by decide +kernel) (Nat.le_of_ble_eq_true rfl) ?_
  intro p e s m args below meth c ls A Q hx hb hts hown hml hN hK hP hD hA hl hret
  have hown : s.vm.findClass RX4 = some m.cls := hown
  have hS : va_S A s.heap s.heap [] := va_S.rf
  have hP : va_P D gcl [(a0, .inr (4, [.ref a1, .ref a2, .int x0, .int x1, .int x2, .int x3, .int x4, .int x5]))] s.heap := hP
  have hl : lv_has ls 1 [(0, .ref a0)] := hl
  have rx0 := n_rng x0
  have rx1 := n_rng x1
  have rx2 := n_rng x2
  have rx4 := n_rng x4
  have rx5 := n_rng x5
  refine lv_aload_n (pc := 0) hx hb dX4_opens_0 rfl (lv_at hl 0 rfl) ?_
  refine va_get (pc := 1) (ci := 4) (v := .int x3) (C := RX4) (T := TX4) (N := 8) hx hb hts iX4 hown hK hP 0 rfl rfl 5 (by decide) (hts _ tw_173) (fun _ h9 => h9) rfl dX4_opens_1 ?_
  refine lv_bipush (pc := 4) (v := 6) hx hb dX4_opens_4 (by decide) ?_
  refine b_icmp_lt (pc := 6) (tgt := 19) hx hb rfl tI_6  dX4_opens_6 (by decide) (fun c_1 => ?_) (fun c_1 => absurd c_1 (by omega))
  refine lv_aload_n (pc := 19) hx hb dX4_opens_19 rfl (lv_at hl 0 rfl) ?_
  refine lv_dup (pc := 20) hx hb dX4_opens_20 rfl ?_
  refine va_get (pc := 21) (ci := 4) (v := .int x3) (C := RX4) (T := TX4) (N := 8) hx hb hts iX4 hown hK hP 0 rfl rfl 5 (by decide) (hts _ tw_173) (fun _ h9 => h9) rfl dX4_opens_21 ?_
  refine lv_iconst (pc := 24) (v := 1) hx hb dX4_opens_24 (by decide) ?_
  refine b_iadd (pc := 25) hx hb rfl tI_1 (by omega) (by omega) dX4_opens_25 (fun x_2 ex_2 => ?_)
  refine va_put (pc := 26) (ci := 4) (v := .int x_2) (ty := .int) (C := RX4) (T := TX4) (N := 8) hx hb hts iX4 tyX4 tyX4_ok nmX4 hown hK hP hD hS 0 rfl rfl 5 (by decide) (hts _ tw_173) (fun _ h9 => h9) rfl (by decide +kernel) rfl rfl (Nat.le_of_ble_eq_true rfl) dX4_opens_26 (fun H locs hP hD hS => ?_)
  have hP : va_P D gcl [(a0, .inr (4, [.ref a1, .ref a2, .int x0, .int x1, .int x2, .int x_2, .int x4, .int x5]))] H := hP
  have hD : va_D A [(a0, .inr (4, [.ref a1, .ref a2, .int x0, .int x1, .int x2, .int x_2, .int x4, .int x5]))] := hD
  refine lv_iconst (pc := 29) (v := 1) hx hb dX4_opens_29 (by decide) ?_
  exact hret 1 ((fun _ => 0), (fun _ => (fun _ => 0)), (fun _ => (fun _ => 0)), (fun k => [x_2].getD k 0), (fun _ => 0)) dX4_opens_30 ⟨(by have k9 := tI_1; omega), (show (((1 : Int32).toInt = 1 ∧ x3.toInt < 6 ∧ (x_2 : Int32).toInt = (x3.toInt) + (1))) by have k9 := tI_1; omega)⟩ (g_psub (wc := [(a0, .inr (4, [.ref a1, .ref a2, .int x0, .int x1, .int x2, .int x_2, .int x4, .int x5]))]) hP [0] rfl) (hD.sub (ws' := [(a0, .inr (4, [.ref a1, .ref a2, .int x0, .int x1, .int x2, .int x_2, .int x4, .int x5]))]) [0] (by decide) rfl) hS
set_option maxHeartbeats 4000000 in
set_option maxRecDepth 100000 in
theorem k_X4_opens_2 (l : Launch) (D : va_G) (cB cC cI cJ : ClassId) (sz : Nat) (a0 a1 a2 : Nat) (x0 x1 x2 x3 x4 x5 : Int32) (h_x3 : (2 ≤ x3.toInt ∧ x3.toInt ≤ 2)) : Met l yX4_opens (.code yX4_opens cX4_opens 1 (some .boolean) :: lw_gd) ({ frames := 0, cells := 0, slots := 0, locals := 0 }) (gPre D [(cB, .byte), (cC, .char), (cI, .int), (cJ, .long)] [.ref a0] [(a0, .inr (4, [.ref a1, .ref a2, .int x0, .int x1, .int x2, .int x3, .int x4, .int x5]))] sz) (va_Qi (fun r u => ((r.toInt = 1 ∧ x3.toInt < 6 ∧ (u.2.2.2.1 0).toInt = (x3.toInt) + (1)))) (gB D (va_A [(a0, .inr (4, [.ref a1, .ref a2, .int x0, .int x1, .int x2, .int x3, .int x4, .int x5]))] sz) (fun u : gEx => [(a0, .inr (4, [.ref a1, .ref a2, .int x0, .int x1, .int x2, .int (u.2.2.2.1 0), .int x4, .int x5]))])) (va_A [(a0, .inr (4, [.ref a1, .ref a2, .int x0, .int x1, .int x2, .int x3, .int x4, .int x5]))] sz)) 0 0 (va_A [(a0, .inr (4, [.ref a1, .ref a2, .int x0, .int x1, .int x2, .int x3, .int x4, .int x5]))] sz) := by
  refine gOf_z (by decide +kernel) (Nat.le_of_ble_eq_true rfl) ?_
  intro p e s m args below meth c ls A Q hx hb hts hown hml hN hK hP hD hA hl hret
  have hown : s.vm.findClass RX4 = some m.cls := hown
  have hS : va_S A s.heap s.heap [] := va_S.rf
  have hP : va_P D gcl [(a0, .inr (4, [.ref a1, .ref a2, .int x0, .int x1, .int x2, .int x3, .int x4, .int x5]))] s.heap := hP
  have hl : lv_has ls 1 [(0, .ref a0)] := hl
  have rx0 := n_rng x0
  have rx1 := n_rng x1
  have rx2 := n_rng x2
  have rx4 := n_rng x4
  have rx5 := n_rng x5
  refine lv_aload_n (pc := 0) hx hb dX4_opens_0 rfl (lv_at hl 0 rfl) ?_
  refine va_get (pc := 1) (ci := 4) (v := .int x3) (C := RX4) (T := TX4) (N := 8) hx hb hts iX4 hown hK hP 0 rfl rfl 5 (by decide) (hts _ tw_173) (fun _ h9 => h9) rfl dX4_opens_1 ?_
  refine lv_bipush (pc := 4) (v := 6) hx hb dX4_opens_4 (by decide) ?_
  refine b_icmp_lt (pc := 6) (tgt := 19) hx hb rfl tI_6  dX4_opens_6 (by decide) (fun c_1 => ?_) (fun c_1 => absurd c_1 (by omega))
  refine lv_aload_n (pc := 19) hx hb dX4_opens_19 rfl (lv_at hl 0 rfl) ?_
  refine lv_dup (pc := 20) hx hb dX4_opens_20 rfl ?_
  refine va_get (pc := 21) (ci := 4) (v := .int x3) (C := RX4) (T := TX4) (N := 8) hx hb hts iX4 hown hK hP 0 rfl rfl 5 (by decide) (hts _ tw_173) (fun _ h9 => h9) rfl dX4_opens_21 ?_
  refine lv_iconst (pc := 24) (v := 1) hx hb dX4_opens_24 (by decide) ?_
  refine b_iadd (pc := 25) hx hb rfl tI_1 (by omega) (by omega) dX4_opens_25 (fun x_2 ex_2 => ?_)
  refine va_put (pc := 26) (ci := 4) (v := .int x_2) (ty := .int) (C := RX4) (T := TX4) (N := 8) hx hb hts iX4 tyX4 tyX4_ok nmX4 hown hK hP hD hS 0 rfl rfl 5 (by decide) (hts _ tw_173) (fun _ h9 => h9) rfl (by decide +kernel) rfl rfl (Nat.le_of_ble_eq_true rfl) dX4_opens_26 (fun H locs hP hD hS => ?_)
  have hP : va_P D gcl [(a0, .inr (4, [.ref a1, .ref a2, .int x0, .int x1, .int x2, .int x_2, .int x4, .int x5]))] H := hP
  have hD : va_D A [(a0, .inr (4, [.ref a1, .ref a2, .int x0, .int x1, .int x2, .int x_2, .int x4, .int x5]))] := hD
  refine lv_iconst (pc := 29) (v := 1) hx hb dX4_opens_29 (by decide) ?_
  exact hret 1 ((fun _ => 0), (fun _ => (fun _ => 0)), (fun _ => (fun _ => 0)), (fun k => [x_2].getD k 0), (fun _ => 0)) dX4_opens_30 ⟨(by have k9 := tI_1; omega), (show (((1 : Int32).toInt = 1 ∧ x3.toInt < 6 ∧ (x_2 : Int32).toInt = (x3.toInt) + (1))) by have k9 := tI_1; omega)⟩ (g_psub (wc := [(a0, .inr (4, [.ref a1, .ref a2, .int x0, .int x1, .int x2, .int x_2, .int x4, .int x5]))]) hP [0] rfl) (hD.sub (ws' := [(a0, .inr (4, [.ref a1, .ref a2, .int x0, .int x1, .int x2, .int x_2, .int x4, .int x5]))]) [0] (by decide) rfl) hS
set_option maxHeartbeats 4000000 in
set_option maxRecDepth 100000 in
theorem k_X4_opens_3 (l : Launch) (D : va_G) (cB cC cI cJ : ClassId) (sz : Nat) (a0 a1 a2 : Nat) (x0 x1 x2 x3 x4 x5 : Int32) (h_x3 : (3 ≤ x3.toInt ∧ x3.toInt ≤ 3)) : Met l yX4_opens (.code yX4_opens cX4_opens 1 (some .boolean) :: lw_gd) ({ frames := 0, cells := 0, slots := 0, locals := 0 }) (gPre D [(cB, .byte), (cC, .char), (cI, .int), (cJ, .long)] [.ref a0] [(a0, .inr (4, [.ref a1, .ref a2, .int x0, .int x1, .int x2, .int x3, .int x4, .int x5]))] sz) (va_Qi (fun r u => ((r.toInt = 1 ∧ x3.toInt < 6 ∧ (u.2.2.2.1 0).toInt = (x3.toInt) + (1)))) (gB D (va_A [(a0, .inr (4, [.ref a1, .ref a2, .int x0, .int x1, .int x2, .int x3, .int x4, .int x5]))] sz) (fun u : gEx => [(a0, .inr (4, [.ref a1, .ref a2, .int x0, .int x1, .int x2, .int (u.2.2.2.1 0), .int x4, .int x5]))])) (va_A [(a0, .inr (4, [.ref a1, .ref a2, .int x0, .int x1, .int x2, .int x3, .int x4, .int x5]))] sz)) 0 0 (va_A [(a0, .inr (4, [.ref a1, .ref a2, .int x0, .int x1, .int x2, .int x3, .int x4, .int x5]))] sz) := by
  refine gOf_z (by decide +kernel) (Nat.le_of_ble_eq_true rfl) ?_
  intro p e s m args below meth c ls A Q hx hb hts hown hml hN hK hP hD hA hl hret
  have hown : s.vm.findClass RX4 = some m.cls := hown
  have hS : va_S A s.heap s.heap [] := va_S.rf
  have hP : va_P D gcl [(a0, .inr (4, [.ref a1, .ref a2, .int x0, .int x1, .int x2, .int x3, .int x4, .int x5]))] s.heap := hP
  have hl : lv_has ls 1 [(0, .ref a0)] := hl
  have rx0 := n_rng x0
  have rx1 := n_rng x1
  have rx2 := n_rng x2
  have rx4 := n_rng x4
  have rx5 := n_rng x5
  refine lv_aload_n (pc := 0) hx hb dX4_opens_0 rfl (lv_at hl 0 rfl) ?_
  refine va_get (pc := 1) (ci := 4) (v := .int x3) (C := RX4) (T := TX4) (N := 8) hx hb hts iX4 hown hK hP 0 rfl rfl 5 (by decide) (hts _ tw_173) (fun _ h9 => h9) rfl dX4_opens_1 ?_
  refine lv_bipush (pc := 4) (v := 6) hx hb dX4_opens_4 (by decide) ?_
  refine b_icmp_lt (pc := 6) (tgt := 19) hx hb rfl tI_6  dX4_opens_6 (by decide) (fun c_1 => ?_) (fun c_1 => absurd c_1 (by omega))
  refine lv_aload_n (pc := 19) hx hb dX4_opens_19 rfl (lv_at hl 0 rfl) ?_
  refine lv_dup (pc := 20) hx hb dX4_opens_20 rfl ?_
  refine va_get (pc := 21) (ci := 4) (v := .int x3) (C := RX4) (T := TX4) (N := 8) hx hb hts iX4 hown hK hP 0 rfl rfl 5 (by decide) (hts _ tw_173) (fun _ h9 => h9) rfl dX4_opens_21 ?_
  refine lv_iconst (pc := 24) (v := 1) hx hb dX4_opens_24 (by decide) ?_
  refine b_iadd (pc := 25) hx hb rfl tI_1 (by omega) (by omega) dX4_opens_25 (fun x_2 ex_2 => ?_)
  refine va_put (pc := 26) (ci := 4) (v := .int x_2) (ty := .int) (C := RX4) (T := TX4) (N := 8) hx hb hts iX4 tyX4 tyX4_ok nmX4 hown hK hP hD hS 0 rfl rfl 5 (by decide) (hts _ tw_173) (fun _ h9 => h9) rfl (by decide +kernel) rfl rfl (Nat.le_of_ble_eq_true rfl) dX4_opens_26 (fun H locs hP hD hS => ?_)
  have hP : va_P D gcl [(a0, .inr (4, [.ref a1, .ref a2, .int x0, .int x1, .int x2, .int x_2, .int x4, .int x5]))] H := hP
  have hD : va_D A [(a0, .inr (4, [.ref a1, .ref a2, .int x0, .int x1, .int x2, .int x_2, .int x4, .int x5]))] := hD
  refine lv_iconst (pc := 29) (v := 1) hx hb dX4_opens_29 (by decide) ?_
  exact hret 1 ((fun _ => 0), (fun _ => (fun _ => 0)), (fun _ => (fun _ => 0)), (fun k => [x_2].getD k 0), (fun _ => 0)) dX4_opens_30 ⟨(by have k9 := tI_1; omega), (show (((1 : Int32).toInt = 1 ∧ x3.toInt < 6 ∧ (x_2 : Int32).toInt = (x3.toInt) + (1))) by have k9 := tI_1; omega)⟩ (g_psub (wc := [(a0, .inr (4, [.ref a1, .ref a2, .int x0, .int x1, .int x2, .int x_2, .int x4, .int x5]))]) hP [0] rfl) (hD.sub (ws' := [(a0, .inr (4, [.ref a1, .ref a2, .int x0, .int x1, .int x2, .int x_2, .int x4, .int x5]))]) [0] (by decide) rfl) hS
set_option maxHeartbeats 4000000 in
set_option maxRecDepth 100000 in
theorem k_X4_opens_4 (l : Launch) (D : va_G) (cB cC cI cJ : ClassId) (sz : Nat) (a0 a1 a2 : Nat) (x0 x1 x2 x3 x4 x5 : Int32) (h_x3 : (4 ≤ x3.toInt ∧ x3.toInt ≤ 4)) : Met l yX4_opens (.code yX4_opens cX4_opens 1 (some .boolean) :: lw_gd) ({ frames := 0, cells := 0, slots := 0, locals := 0 }) (gPre D [(cB, .byte), (cC, .char), (cI, .int), (cJ, .long)] [.ref a0] [(a0, .inr (4, [.ref a1, .ref a2, .int x0, .int x1, .int x2, .int x3, .int x4, .int x5]))] sz) (va_Qi (fun r u => ((r.toInt = 1 ∧ x3.toInt < 6 ∧ (u.2.2.2.1 0).toInt = (x3.toInt) + (1)))) (gB D (va_A [(a0, .inr (4, [.ref a1, .ref a2, .int x0, .int x1, .int x2, .int x3, .int x4, .int x5]))] sz) (fun u : gEx => [(a0, .inr (4, [.ref a1, .ref a2, .int x0, .int x1, .int x2, .int (u.2.2.2.1 0), .int x4, .int x5]))])) (va_A [(a0, .inr (4, [.ref a1, .ref a2, .int x0, .int x1, .int x2, .int x3, .int x4, .int x5]))] sz)) 0 0 (va_A [(a0, .inr (4, [.ref a1, .ref a2, .int x0, .int x1, .int x2, .int x3, .int x4, .int x5]))] sz) := by
  refine gOf_z (by decide +kernel) (Nat.le_of_ble_eq_true rfl) ?_
  intro p e s m args below meth c ls A Q hx hb hts hown hml hN hK hP hD hA hl hret
  have hown : s.vm.findClass RX4 = some m.cls := hown
  have hS : va_S A s.heap s.heap [] := va_S.rf
  have hP : va_P D gcl [(a0, .inr (4, [.ref a1, .ref a2, .int x0, .int x1, .int x2, .int x3, .int x4, .int x5]))] s.heap := hP
  have hl : lv_has ls 1 [(0, .ref a0)] := hl
  have rx0 := n_rng x0
  have rx1 := n_rng x1
  have rx2 := n_rng x2
  have rx4 := n_rng x4
  have rx5 := n_rng x5
  refine lv_aload_n (pc := 0) hx hb dX4_opens_0 rfl (lv_at hl 0 rfl) ?_
  refine va_get (pc := 1) (ci := 4) (v := .int x3) (C := RX4) (T := TX4) (N := 8) hx hb hts iX4 hown hK hP 0 rfl rfl 5 (by decide) (hts _ tw_173) (fun _ h9 => h9) rfl dX4_opens_1 ?_
  refine lv_bipush (pc := 4) (v := 6) hx hb dX4_opens_4 (by decide) ?_
  refine b_icmp_lt (pc := 6) (tgt := 19) hx hb rfl tI_6  dX4_opens_6 (by decide) (fun c_1 => ?_) (fun c_1 => absurd c_1 (by omega))
  refine lv_aload_n (pc := 19) hx hb dX4_opens_19 rfl (lv_at hl 0 rfl) ?_
  refine lv_dup (pc := 20) hx hb dX4_opens_20 rfl ?_
  refine va_get (pc := 21) (ci := 4) (v := .int x3) (C := RX4) (T := TX4) (N := 8) hx hb hts iX4 hown hK hP 0 rfl rfl 5 (by decide) (hts _ tw_173) (fun _ h9 => h9) rfl dX4_opens_21 ?_
  refine lv_iconst (pc := 24) (v := 1) hx hb dX4_opens_24 (by decide) ?_
  refine b_iadd (pc := 25) hx hb rfl tI_1 (by omega) (by omega) dX4_opens_25 (fun x_2 ex_2 => ?_)
  refine va_put (pc := 26) (ci := 4) (v := .int x_2) (ty := .int) (C := RX4) (T := TX4) (N := 8) hx hb hts iX4 tyX4 tyX4_ok nmX4 hown hK hP hD hS 0 rfl rfl 5 (by decide) (hts _ tw_173) (fun _ h9 => h9) rfl (by decide +kernel) rfl rfl (Nat.le_of_ble_eq_true rfl) dX4_opens_26 (fun H locs hP hD hS => ?_)
  have hP : va_P D gcl [(a0, .inr (4, [.ref a1, .ref a2, .int x0, .int x1, .int x2, .int x_2, .int x4, .int x5]))] H := hP
  have hD : va_D A [(a0, .inr (4, [.ref a1, .ref a2, .int x0, .int x1, .int x2, .int x_2, .int x4, .int x5]))] := hD
  refine lv_iconst (pc := 29) (v := 1) hx hb dX4_opens_29 (by decide) ?_
  exact hret 1 ((fun _ => 0), (fun _ => (fun _ => 0)), (fun _ => (fun _ => 0)), (fun k => [x_2].getD k 0), (fun _ => 0)) dX4_opens_30 ⟨(by have k9 := tI_1; omega), (show (((1 : Int32).toInt = 1 ∧ x3.toInt < 6 ∧ (x_2 : Int32).toInt = (x3.toInt) + (1))) by have k9 := tI_1; omega)⟩ (g_psub (wc := [(a0, .inr (4, [.ref a1, .ref a2, .int x0, .int x1, .int x2, .int x_2, .int x4, .int x5]))]) hP [0] rfl) (hD.sub (ws' := [(a0, .inr (4, [.ref a1, .ref a2, .int x0, .int x1, .int x2, .int x_2, .int x4, .int x5]))]) [0] (by decide) rfl) hS
set_option maxHeartbeats 4000000 in
set_option maxRecDepth 100000 in
theorem k_X4_opens_5 (l : Launch) (D : va_G) (cB cC cI cJ : ClassId) (sz : Nat) (a0 a1 a2 : Nat) (x0 x1 x2 x3 x4 x5 : Int32) (h_x3 : (5 ≤ x3.toInt ∧ x3.toInt ≤ 5)) : Met l yX4_opens (.code yX4_opens cX4_opens 1 (some .boolean) :: lw_gd) ({ frames := 0, cells := 0, slots := 0, locals := 0 }) (gPre D [(cB, .byte), (cC, .char), (cI, .int), (cJ, .long)] [.ref a0] [(a0, .inr (4, [.ref a1, .ref a2, .int x0, .int x1, .int x2, .int x3, .int x4, .int x5]))] sz) (va_Qi (fun r u => ((r.toInt = 1 ∧ x3.toInt < 6 ∧ (u.2.2.2.1 0).toInt = (x3.toInt) + (1)))) (gB D (va_A [(a0, .inr (4, [.ref a1, .ref a2, .int x0, .int x1, .int x2, .int x3, .int x4, .int x5]))] sz) (fun u : gEx => [(a0, .inr (4, [.ref a1, .ref a2, .int x0, .int x1, .int x2, .int (u.2.2.2.1 0), .int x4, .int x5]))])) (va_A [(a0, .inr (4, [.ref a1, .ref a2, .int x0, .int x1, .int x2, .int x3, .int x4, .int x5]))] sz)) 0 0 (va_A [(a0, .inr (4, [.ref a1, .ref a2, .int x0, .int x1, .int x2, .int x3, .int x4, .int x5]))] sz) := by
  refine gOf_z (by decide +kernel) (Nat.le_of_ble_eq_true rfl) ?_
  intro p e s m args below meth c ls A Q hx hb hts hown hml hN hK hP hD hA hl hret
  have hown : s.vm.findClass RX4 = some m.cls := hown
  have hS : va_S A s.heap s.heap [] := va_S.rf
  have hP : va_P D gcl [(a0, .inr (4, [.ref a1, .ref a2, .int x0, .int x1, .int x2, .int x3, .int x4, .int x5]))] s.heap := hP
  have hl : lv_has ls 1 [(0, .ref a0)] := hl
  have rx0 := n_rng x0
  have rx1 := n_rng x1
  have rx2 := n_rng x2
  have rx4 := n_rng x4
  have rx5 := n_rng x5
  refine lv_aload_n (pc := 0) hx hb dX4_opens_0 rfl (lv_at hl 0 rfl) ?_
  refine va_get (pc := 1) (ci := 4) (v := .int x3) (C := RX4) (T := TX4) (N := 8) hx hb hts iX4 hown hK hP 0 rfl rfl 5 (by decide) (hts _ tw_173) (fun _ h9 => h9) rfl dX4_opens_1 ?_
  refine lv_bipush (pc := 4) (v := 6) hx hb dX4_opens_4 (by decide) ?_
  refine b_icmp_lt (pc := 6) (tgt := 19) hx hb rfl tI_6  dX4_opens_6 (by decide) (fun c_1 => ?_) (fun c_1 => absurd c_1 (by omega))
  refine lv_aload_n (pc := 19) hx hb dX4_opens_19 rfl (lv_at hl 0 rfl) ?_
  refine lv_dup (pc := 20) hx hb dX4_opens_20 rfl ?_
  refine va_get (pc := 21) (ci := 4) (v := .int x3) (C := RX4) (T := TX4) (N := 8) hx hb hts iX4 hown hK hP 0 rfl rfl 5 (by decide) (hts _ tw_173) (fun _ h9 => h9) rfl dX4_opens_21 ?_
  refine lv_iconst (pc := 24) (v := 1) hx hb dX4_opens_24 (by decide) ?_
  refine b_iadd (pc := 25) hx hb rfl tI_1 (by omega) (by omega) dX4_opens_25 (fun x_2 ex_2 => ?_)
  refine va_put (pc := 26) (ci := 4) (v := .int x_2) (ty := .int) (C := RX4) (T := TX4) (N := 8) hx hb hts iX4 tyX4 tyX4_ok nmX4 hown hK hP hD hS 0 rfl rfl 5 (by decide) (hts _ tw_173) (fun _ h9 => h9) rfl (by decide +kernel) rfl rfl (Nat.le_of_ble_eq_true rfl) dX4_opens_26 (fun H locs hP hD hS => ?_)
  have hP : va_P D gcl [(a0, .inr (4, [.ref a1, .ref a2, .int x0, .int x1, .int x2, .int x_2, .int x4, .int x5]))] H := hP
  have hD : va_D A [(a0, .inr (4, [.ref a1, .ref a2, .int x0, .int x1, .int x2, .int x_2, .int x4, .int x5]))] := hD
  refine lv_iconst (pc := 29) (v := 1) hx hb dX4_opens_29 (by decide) ?_
  exact hret 1 ((fun _ => 0), (fun _ => (fun _ => 0)), (fun _ => (fun _ => 0)), (fun k => [x_2].getD k 0), (fun _ => 0)) dX4_opens_30 ⟨(by have k9 := tI_1; omega), (show (((1 : Int32).toInt = 1 ∧ x3.toInt < 6 ∧ (x_2 : Int32).toInt = (x3.toInt) + (1))) by have k9 := tI_1; omega)⟩ (g_psub (wc := [(a0, .inr (4, [.ref a1, .ref a2, .int x0, .int x1, .int x2, .int x_2, .int x4, .int x5]))]) hP [0] rfl) (hD.sub (ws' := [(a0, .inr (4, [.ref a1, .ref a2, .int x0, .int x1, .int x2, .int x_2, .int x4, .int x5]))]) [0] (by decide) rfl) hS
