theorem om_999 {a b : Int} (h0 : (0 ≤ a)) (h1 : (0 ≤ b)) : (-2147483648 ≤ a + b) := by omega
theorem om_1000 {a b : Int} (h0 : (a ≤ 1600)) (h1 : (b ≤ 100)) : (a + b ≤ 2147483647) := by omega
theorem om_1001 {a b c d : Int} (h0 : (a = 0)) (h1 : (d = b + c)) (h2 : (d > 1600)) : (((a = 0 ∧ (b) + (c) > 1600) ∨ (a = 1 ∧ (b) + (c) ≤ 1600))) := by omega
theorem om_1002 {a b c d : Int} (h0 : (a = 1)) (h1 : (d = b + c)) (h2 : (d ≤ 1600)) : (((a = 0 ∧ (b) + (c) > 1600) ∨ (a = 1 ∧ (b) + (c) ≤ 1600))) := by omega
set_option maxHeartbeats 4000000 in
set_option maxRecDepth 100000 in
theorem k_X9_hasRoom (l : Launch) (D : va_G) (cB cC cI cJ : ClassId) (sz : Nat) (a0 a1 : Nat) (x0 x1 : Int32) (hp1 : (0 ≤ x0.toInt ∧ x0.toInt ≤ 100)) (h_x1 : zBd x1.toInt 0 1600) : Met l yX9_hasRoom (.code yX9_hasRoom cX9_hasRoom 2 (some .boolean) :: lw_gd) ({ frames := 0, cells := 0, slots := 0, locals := 0 }) (gPre D [(cB, .byte), (cC, .char), (cI, .int), (cJ, .long)] [.ref a0, .int x0] [(a0, .inr (9, [.ref a1, .int x1]))] sz) (va_Qi (fun r u => ((r.toInt = 0 ∧ (x1.toInt) + (x0.toInt) > 1600) ∨ (r.toInt = 1 ∧ (x1.toInt) + (x0.toInt) ≤ 1600))) (gB D (va_A [(a0, .inr (9, [.ref a1, .int x1]))] sz) (fun u : gEx => [(a0, .inr (9, [.ref a1, .int x1]))])) (va_A [(a0, .inr (9, [.ref a1, .int x1]))] sz)) 0 0 (va_A [(a0, .inr (9, [.ref a1, .int x1]))] sz) := by
  refine gOf_z (by decide +kernel) (Nat.le_of_ble_eq_true rfl) ?_
  intro p e s m args below meth c ls A Q hx hb hts hown hml hN hK hP hD hA hl hret
  replace hown : s.vm.findClass RX9 = some m.cls := hown
  have hS : va_S A s.heap s.heap [] := va_S.rf
  replace hP : va_P D gcl [(a0, .inr (9, [.ref a1, .int x1]))] s.heap := hP
  replace hl : lv_has ls 2 [(0, .ref a0), (1, .int x0)] := hl
  refine lv_aload_n (pc := 0) hx hb dX9_hasRoom_0 rfl (lv_at hl 0 rfl) ?_
  refine va_get (pc := 1) (ci := 9) (v := .int x1) (C := RX9) (T := TX9) (N := 2) hx hb hts iX9 hown hK hP 0 rfl rfl 1 (by decide) (hts _ tw_43) (fun _ h9 => h9) rfl dX9_hasRoom_1 ?_
  have bd_h_x1 : 0 ≤ x1.toInt ∧ x1.toInt ≤ 1600 := h_x1
  refine lv_iload_n (pc := 4) hx hb dX9_hasRoom_4 rfl (lv_at hl 1 rfl) ?_
  refine b_iadd (pc := 5) hx hb rfl rfl (by first | exact (om_999 h_x1.1 hp1.1) | ((first | omega | (unfold zBd at *; omega)))) (by first | exact (om_1000 h_x1.2 hp1.2) | ((first | omega | (unfold zBd at *; omega)))) dX9_hasRoom_5 (fun x_1 ex_1 => ?_)
  refine lv_sipush (pc := 6) (v := 1600) hx hb dX9_hasRoom_6 (by decide) ?_
  refine b_icmp_gt (pc := 9) (tgt := 16) hx hb rfl tI_1600  dX9_hasRoom_9 (by decide) (fun c_2 => ?_) (fun c_2 => ?_)
  ·
    refine lv_iconst (pc := 16) (v := 0) hx hb dX9_hasRoom_16 (by decide) ?_
    exact hret 0 ((fun _ => 0), (fun _ => (fun _ => 0)), (fun _ => (fun _ => 0)), (fun _ => 0), (fun _ => 0)) dX9_hasRoom_17 ⟨(Or.inl tI_0), (show (((0 : Int32).toInt = 0 ∧ (x1.toInt) + (x0.toInt) > 1600) ∨ ((0 : Int32).toInt = 1 ∧ (x1.toInt) + (x0.toInt) ≤ 1600)) from (by first | exact (om_1001 tI_0 ex_1 c_2) | (have k9 := tI_0; (first | omega | (unfold zBd at *; omega)))))⟩ (g_psub (wc := [(a0, .inr (9, [.ref a1, .int x1]))]) hP [0] rfl) (hD.sub (ws' := [(a0, .inr (9, [.ref a1, .int x1]))]) [0] (by decide) rfl) hS
  ·
    refine lv_iconst (pc := 12) (v := 1) hx hb dX9_hasRoom_12 (by decide) ?_
    refine lv_goto (pc := 13) (tgt := 17) hx hb dX9_hasRoom_13 (by decide) ?_
    exact hret 1 ((fun _ => 0), (fun _ => (fun _ => 0)), (fun _ => (fun _ => 0)), (fun _ => 0), (fun _ => 0)) dX9_hasRoom_17 ⟨(Or.inr tI_1), (show (((1 : Int32).toInt = 0 ∧ (x1.toInt) + (x0.toInt) > 1600) ∨ ((1 : Int32).toInt = 1 ∧ (x1.toInt) + (x0.toInt) ≤ 1600)) from (by first | exact (om_1002 tI_1 ex_1 c_2) | (have k9 := tI_1; (first | omega | (unfold zBd at *; omega)))))⟩ (g_psub (wc := [(a0, .inr (9, [.ref a1, .int x1]))]) hP [0] rfl) (hD.sub (ws' := [(a0, .inr (9, [.ref a1, .int x1]))]) [0] (by decide) rfl) hS
theorem om_1003 : (¬ (24 < 0)) := by omega
theorem om_1004 : (¬ (16 < 0)) := by omega
theorem om_1006 {a b : Int} (h0 : (a = b + 1)) (h1 : (0 ≤ b)) : (-2147483648 ≤ a + 1) := by omega
theorem om_1007 : (¬ (8 < 0)) := by omega
theorem om_1008 {a b c : Int} (h0 : (a = b + 1)) (h1 : (b = c + 1)) (h2 : (0 ≤ c)) : (0 ≤ a) := by omega
theorem om_1009 {a b c : Int} (h0 : (a = b + 1)) (h1 : (b = c + 1)) (h2 : (0 ≤ c)) : (-2147483648 ≤ a + 1) := by omega
theorem om_1010 : (¬ (0 < 0)) := by omega
theorem om_1011 {a b c d : Int} (h0 : (a = b + 1)) (h1 : (b = c + 1)) (h2 : (c = d + 1)) (h3 : (0 ≤ d)) : (0 ≤ a) := by omega
theorem om_1012 {a b c d : Int} (h0 : (a = b + 1)) (h1 : (b = c + 1)) (h2 : (c = d + 1)) (h3 : (0 ≤ d)) : (-2147483648 ≤ a + 1) := by omega
theorem om_1013 : (¬ ((-8) ≥ 0)) := by omega
theorem om_1014 {a b c d e : Int} (h0 : (a = b + 1)) (h1 : (b = c + 1)) (h2 : (c = d + 1)) (h3 : (d = e + 1)) (h4 : (0 ≤ e)) (h5 : (b < 1600)) : ((0 ≤ a ∧ a ≤ 1600)) := by omega
theorem om_1015 {a b c : Int} (h0 : (0 ≤ a)) (h1 : (b ≥ 0)) (h2 : (b < c)) (h3 : (a ≤ 255)) : (((a = (-1) ∧ b < 0) ∨ (a = (-1) ∧ b ≥ 0 ∧ b ≥ c) ∨ ((0 ≤ a ∧ a ≤ 255) ∧ b ≥ 0 ∧ b < c))) := by omega
set_option maxHeartbeats 4000000 in
set_option maxRecDepth 100000 in
theorem k_X9_at (l : Launch) (D : va_G) (cB cC cI cJ : ClassId) (sz : Nat) (a0 a1 : Nat) (x0 x1 : Int32) (f0 : Nat → Int32) (h_x1 : zBd x1.toInt 0 1600) : Met l yX9_at (.code yX9_at cX9_at 2 (some .int) :: lw_gd) ({ frames := 0, cells := 0, slots := 0, locals := 0 }) (gPre D [(cB, .byte), (cC, .char), (cI, .int), (cJ, .long)] [.ref a0, .int x0] [(a0, .inr (9, [.ref a1, .int x1])), (a1, .inl (cB, 1600, .inl f0))] sz) (va_Qi (fun r u => ((r.toInt = (-1) ∧ x0.toInt < 0) ∨ (r.toInt = (-1) ∧ x0.toInt ≥ 0 ∧ x0.toInt ≥ x1.toInt) ∨ ((0 ≤ r.toInt ∧ r.toInt ≤ 255) ∧ x0.toInt ≥ 0 ∧ x0.toInt < x1.toInt))) (gB D (va_A [(a0, .inr (9, [.ref a1, .int x1])), (a1, .inl (cB, 1600, .inl f0))] sz) (fun u : gEx => [(a0, .inr (9, [.ref a1, .int x1])), (a1, .inl (cB, 1600, .inl f0))])) (va_A [(a0, .inr (9, [.ref a1, .int x1])), (a1, .inl (cB, 1600, .inl f0))] sz)) 0 0 (va_A [(a0, .inr (9, [.ref a1, .int x1])), (a1, .inl (cB, 1600, .inl f0))] sz) := by
  refine gOf_i (by decide +kernel) (Nat.le_of_ble_eq_true rfl) ?_
  intro p e s m args below meth c ls A Q hx hb hts hown hml hN hK hP hD hA hl hret
  replace hown : s.vm.findClass RX9 = some m.cls := hown
  have hS : va_S A s.heap s.heap [] := va_S.rf
  replace hP : va_P D gcl [(a0, .inr (9, [.ref a1, .int x1])), (a1, .inl (cB, 1600, .inl f0))] s.heap := hP
  replace hl : lv_has ls 2 [(0, .ref a0), (1, .int x0)] := hl
  have rx0 : zBd x0.toInt (-2147483648) 2147483647 := n_rng x0
  refine lv_iload_n (pc := 0) hx hb dX9_at_0 rfl (lv_at hl 1 rfl) ?_
  refine b_if_lt (pc := 1) (tgt := 25) hx hb rfl  dX9_at_1 (by decide) (fun c_1 => ?_) (fun c_1 => ?_)
  ·
    refine lv_iconst (pc := 25) (v := (-1)) hx hb dX9_at_25 (by decide) ?_
    exact hret (-1) ((fun _ => 0), (fun _ => (fun _ => 0)), (fun _ => (fun _ => 0)), (fun _ => 0), (fun _ => 0)) dX9_at_26 (show ((((-1) : Int32).toInt = (-1) ∧ x0.toInt < 0) ∨ (((-1) : Int32).toInt = (-1) ∧ x0.toInt ≥ 0 ∧ x0.toInt ≥ x1.toInt) ∨ ((0 ≤ ((-1) : Int32).toInt ∧ ((-1) : Int32).toInt ≤ 255) ∧ x0.toInt ≥ 0 ∧ x0.toInt < x1.toInt)) from (by first | exact (om_8 tI_m1 c_1) | (have k9 := tI_m1; (first | omega | (unfold zBd at *; omega))))) (g_psub (wc := [(a0, .inr (9, [.ref a1, .int x1])), (a1, .inl (cB, 1600, .inl f0))]) hP [0, 1] rfl) (hD.sub (ws' := [(a0, .inr (9, [.ref a1, .int x1])), (a1, .inl (cB, 1600, .inl f0))]) [0, 1] (by decide) rfl) hS
  ·
    refine lv_iload_n (pc := 4) hx hb dX9_at_4 rfl (lv_at hl 1 rfl) ?_
    refine lv_aload_n (pc := 5) hx hb dX9_at_5 rfl (lv_at hl 0 rfl) ?_
    refine va_get (pc := 6) (ci := 9) (v := .int x1) (C := RX9) (T := TX9) (N := 2) hx hb hts iX9 hown hK hP 0 rfl rfl 1 (by decide) (hts _ tw_43) (fun _ h9 => h9) rfl dX9_at_6 ?_
    have bd_h_x1 : 0 ≤ x1.toInt ∧ x1.toInt ≤ 1600 := h_x1
    refine b_icmp_ge (pc := 9) (tgt := 25) hx hb rfl rfl  dX9_at_9 (by decide) (fun c_2 => ?_) (fun c_2 => ?_)
    ·
      refine lv_iconst (pc := 25) (v := (-1)) hx hb dX9_at_25 (by decide) ?_
      exact hret (-1) ((fun _ => 0), (fun _ => (fun _ => 0)), (fun _ => (fun _ => 0)), (fun _ => 0), (fun _ => 0)) dX9_at_26 (show ((((-1) : Int32).toInt = (-1) ∧ x0.toInt < 0) ∨ (((-1) : Int32).toInt = (-1) ∧ x0.toInt ≥ 0 ∧ x0.toInt ≥ x1.toInt) ∨ ((0 ≤ ((-1) : Int32).toInt ∧ ((-1) : Int32).toInt ≤ 255) ∧ x0.toInt ≥ 0 ∧ x0.toInt < x1.toInt)) from (by first | exact (om_9 tI_m1 c_2) | (have k9 := tI_m1; (first | omega | (unfold zBd at *; omega))))) (g_psub (wc := [(a0, .inr (9, [.ref a1, .int x1])), (a1, .inl (cB, 1600, .inl f0))]) hP [0, 1] rfl) (hD.sub (ws' := [(a0, .inr (9, [.ref a1, .int x1])), (a1, .inl (cB, 1600, .inl f0))]) [0, 1] (by decide) rfl) hS
    ·
      refine lv_aload_n (pc := 12) hx hb dX9_at_12 rfl (lv_at hl 0 rfl) ?_
      refine va_get (pc := 13) (ci := 9) (v := .ref a1) (C := RX9) (T := TX9) (N := 2) hx hb hts iX9 hown hK hP 0 rfl rfl 0 (by decide) (hts _ tw_42) (fun _ h9 => h9) rfl dX9_at_13 ?_
      refine lv_iload_n (pc := 16) hx hb dX9_at_16 rfl (lv_at hl 1 rfl) ?_
      refine va_bald (pc := 17) hx hb hK hP 1 0 rfl rfl (n_in rfl (by first | exact (om_10 c_1) | ((first | omega | (unfold zBd at *; omega)))) (by first | exact (om_11 c_2 h_x1.2) | ((first | omega | (unfold zBd at *; omega))))) dX9_at_17 ?_
      refine lv_topi (fun x_3 ex_3 => ?_)
      have rx_3 : zBd x_3.toInt (-2147483648) 2147483647 := n_rng x_3
      refine lv_sipush (pc := 18) (v := 255) hx hb dX9_at_18 (by decide) ?_
      refine b_iand (pc := 21) (M := 255) hx hb 8 (by decide +kernel) (by decide) (by decide) dX9_at_21 (fun x_4 ex_4 => ?_)
      have rx_4 : (0 ≤ x_4.toInt ∧ x_4.toInt ≤ 255) := ex_4
      refine lv_goto (pc := 22) (tgt := 26) hx hb dX9_at_22 (by decide) ?_
      exact hret x_4 ((fun _ => 0), (fun _ => (fun _ => 0)), (fun _ => (fun _ => 0)), (fun _ => 0), (fun _ => 0)) dX9_at_26 (show ((x_4.toInt = (-1) ∧ x0.toInt < 0) ∨ (x_4.toInt = (-1) ∧ x0.toInt ≥ 0 ∧ x0.toInt ≥ x1.toInt) ∨ ((0 ≤ x_4.toInt ∧ x_4.toInt ≤ 255) ∧ x0.toInt ≥ 0 ∧ x0.toInt < x1.toInt)) from (by first | exact (om_1015 rx_4.1 c_1 c_2 rx_4.2) | ((first | omega | (unfold zBd at *; omega))))) (g_psub (wc := [(a0, .inr (9, [.ref a1, .int x1])), (a1, .inl (cB, 1600, .inl f0))]) hP [0, 1] rfl) (hD.sub (ws' := [(a0, .inr (9, [.ref a1, .int x1])), (a1, .inl (cB, 1600, .inl f0))]) [0, 1] (by decide) rfl) hS
theorem om_1016 {a : Int} (h0 : (a ≤ 10)) : (a + 1 ≤ 2147483647) := by omega
theorem om_1017 {a : Int} (h0 : ((-2147483648) ≤ a)) (h1 : (a ≤ 2147483647)) : (((((-2147483648) ≤ a ∧ a ≤ 2147483647)))) := by omega
set_option maxHeartbeats 4000000 in
set_option maxRecDepth 100000 in
theorem k_X9_shortAt (l : Launch) (D : va_G) (cB cC cI cJ : ClassId) (sz : Nat) (a0 a1 : Nat) (x0 x1 : Int32) (f0 : Nat → Int32) (hp1 : (0 ≤ x0.toInt ∧ x0.toInt ≤ 10)) (h_x1 : zBd x1.toInt 0 1600) : Met l yX9_shortAt (.code yX9_shortAt cX9_shortAt 2 (some .int) :: lw_gd) ({ frames := 1, cells := 0, slots := 0, locals := 21 }) (gPre D [(cB, .byte), (cC, .char), (cI, .int), (cJ, .long)] [.ref a0, .int x0] [(a0, .inr (9, [.ref a1, .int x1])), (a1, .inl (cB, 1600, .inl f0))] sz) (va_Qi (fun r u => ((((-2147483648) ≤ r.toInt ∧ r.toInt ≤ 2147483647)))) (gB D (va_A [(a0, .inr (9, [.ref a1, .int x1])), (a1, .inl (cB, 1600, .inl f0))] sz) (fun u : gEx => [(a0, .inr (9, [.ref a1, .int x1])), (a1, .inl (cB, 1600, .inl f0))])) (va_A [(a0, .inr (9, [.ref a1, .int x1])), (a1, .inl (cB, 1600, .inl f0))] sz)) 0 0 (va_A [(a0, .inr (9, [.ref a1, .int x1])), (a1, .inl (cB, 1600, .inl f0))] sz) := by
  refine gOf_i (by decide +kernel) (Nat.le_of_ble_eq_true rfl) ?_
  intro p e s m args below meth c ls A Q hx hb hts hown hml hN hK hP hD hA hl hret
  replace hown : s.vm.findClass RX9 = some m.cls := hown
  have hS : va_S A s.heap s.heap [] := va_S.rf
  replace hP : va_P D gcl [(a0, .inr (9, [.ref a1, .int x1])), (a1, .inl (cB, 1600, .inl f0))] s.heap := hP
  replace hl : lv_has ls 2 [(0, .ref a0), (1, .int x0)] := hl
  refine lv_aload_n (pc := 0) hx hb dX9_shortAt_0 rfl (lv_at hl 0 rfl) ?_
  refine lv_iload_n (pc := 1) hx hb dX9_shortAt_1 rfl (lv_at hl 1 rfl) ?_
  refine gd_i (pc := 2) (wc := [(a0, .inr (9, [.ref a1, .int x1])), (a1, .inl (cB, 1600, .inl f0))]) hP hD hS hA [0, 1] rfl (by decide +kernel) (fun _ => by rfl) (fun hPc hDc => va_runV (As := [.int x0]) (rest := []) ⟨hx, hb, hml, hown, hts⟩ (k_X9_at l D cB cC cI cJ _ a0 a1 x0 x1 f0 h_x1) ⟨gcwB hts tw_518 tw_3 tw_813 hd_yX9_at ⟨Nat.le_of_ble_eq_true rfl, Nat.le_of_ble_eq_true rfl⟩, hts _ tw_516, hts _ tw_517⟩ ⟨gblind, va_recv hK hPc (ci := 9) (q0 := 0) rfl rfl, (gpreS hPc hK hDc hN).2⟩ rfl rfl hl.1 rfl (lv_room (Nat.le_of_ble_eq_true rfl)) dX9_shortAt_2 ⟨Nat.le_of_ble_eq_true rfl, Nat.le_of_ble_eq_true rfl⟩) (fun r_2 u_1 H locs hw_3 hP hD hS => ?_)
  replace hP : va_P D gcl [(a0, .inr (9, [.ref a1, .int x1])), (a1, .inl (cB, 1600, .inl f0))] H := hP
  replace hD : va_D A [(a0, .inr (9, [.ref a1, .int x1])), (a1, .inl (cB, 1600, .inl f0))] := hD
  have hw_4 : ((r_2.toInt = (-1) ∧ x0.toInt < 0) ∨ (r_2.toInt = (-1) ∧ x0.toInt ≥ 0 ∧ x0.toInt ≥ x1.toInt) ∨ ((0 ≤ r_2.toInt ∧ r_2.toInt ≤ 255) ∧ x0.toInt ≥ 0 ∧ x0.toInt < x1.toInt)) := hw_3
  have rr_2 : zBd r_2.toInt (-2147483648) 2147483647 := n_rng r_2
  refine lv_bipush (pc := 5) (v := 8) hx hb dX9_shortAt_5 (by decide) ?_
  refine lv_ishl (pc := 7) hx hb dX9_shortAt_7 ?_
  refine lv_topi (fun x_5 _ => ?_)
  have rx_5 : zBd x_5.toInt (-2147483648) 2147483647 := n_rng x_5
  refine lv_aload_n (pc := 8) hx hb dX9_shortAt_8 rfl (lv_at hl 0 rfl) ?_
  refine lv_iload_n (pc := 9) hx hb dX9_shortAt_9 rfl (lv_at hl 1 rfl) ?_
  refine lv_iconst (pc := 10) (v := 1) hx hb dX9_shortAt_10 (by decide) ?_
  refine b_iadd (pc := 11) hx hb rfl tI_1 (by first | exact (om_2 hp1.1) | ((first | omega | (unfold zBd at *; omega)))) (by first | exact (om_1016 hp1.2) | ((first | omega | (unfold zBd at *; omega)))) dX9_shortAt_11 (fun x_6 ex_6 => ?_)
  refine gd_i (pc := 12) (wc := [(a0, .inr (9, [.ref a1, .int x1])), (a1, .inl (cB, 1600, .inl f0))]) hP hD hS hA [0, 1] rfl (by decide +kernel) (fun _ => by rfl) (fun hPc hDc => va_runV (As := [.int x_6]) (rest := [.int x_5]) ⟨hx, hb, hml, hown, hts⟩ (k_X9_at l D cB cC cI cJ _ a0 a1 x_6 x1 f0 h_x1) ⟨gcwB hts tw_518 tw_3 tw_813 hd_yX9_at ⟨Nat.le_of_ble_eq_true rfl, Nat.le_of_ble_eq_true rfl⟩, hts _ tw_516, hts _ tw_517⟩ ⟨gblind, va_recv hK hPc (ci := 9) (q0 := 0) rfl rfl, (gpreS hPc hK hDc hN).2⟩ rfl rfl hl.1 rfl (lv_room (Nat.le_of_ble_eq_true rfl)) dX9_shortAt_12 ⟨Nat.le_of_ble_eq_true rfl, Nat.le_of_ble_eq_true rfl⟩) (fun r_8 u_7 H locs hw_9 hP hD hS => ?_)
  replace hP : va_P D gcl [(a0, .inr (9, [.ref a1, .int x1])), (a1, .inl (cB, 1600, .inl f0))] H := hP
  replace hD : va_D A [(a0, .inr (9, [.ref a1, .int x1])), (a1, .inl (cB, 1600, .inl f0))] := hD
  have hw_10 : ((r_8.toInt = (-1) ∧ x_6.toInt < 0) ∨ (r_8.toInt = (-1) ∧ x_6.toInt ≥ 0 ∧ x_6.toInt ≥ x1.toInt) ∨ ((0 ≤ r_8.toInt ∧ r_8.toInt ≤ 255) ∧ x_6.toInt ≥ 0 ∧ x_6.toInt < x1.toInt)) := hw_9
  have rr_8 : zBd r_8.toInt (-2147483648) 2147483647 := n_rng r_8
  refine lv_ior (pc := 15) hx hb dX9_shortAt_15 ?_
  refine lv_topi (fun x_11 _ => ?_)
  have rx_11 : zBd x_11.toInt (-2147483648) 2147483647 := n_rng x_11
  refine lv_i2s (pc := 16) hx hb dX9_shortAt_16 rfl ?_
  refine lv_topi (fun x_12 _ => ?_)
  have rx_12 : zBd x_12.toInt (-2147483648) 2147483647 := n_rng x_12
  exact hret x_12 ((fun _ => 0), (fun _ => (fun _ => 0)), (fun _ => (fun _ => 0)), (fun _ => 0), (fun _ => 0)) dX9_shortAt_17 (show ((((-2147483648) ≤ x_12.toInt ∧ x_12.toInt ≤ 2147483647))) from (by first | exact (om_1017 rx_12.1 rx_12.2) | ((first | omega | (unfold zBd at *; omega))))) (g_psub (wc := [(a0, .inr (9, [.ref a1, .int x1])), (a1, .inl (cB, 1600, .inl f0))]) hP [0, 1] rfl) (hD.sub (ws' := [(a0, .inr (9, [.ref a1, .int x1])), (a1, .inl (cB, 1600, .inl f0))]) [0, 1] (by decide) rfl) hS
set_option maxHeartbeats 4000000 in
set_option maxRecDepth 100000 in
theorem k_X8_at (l : Launch) (D : va_G) (cB cC cI cJ : ClassId) (sz : Nat) (a0 a1 : Nat) (x0 x1 : Int32) (f0 : Nat → Int32) (hp1 : (0 ≤ x0.toInt ∧ x0.toInt ≤ 5)) (hp2 : (0 ≤ x1.toInt ∧ x1.toInt ≤ 4)) : Met l yX8_at (.code yX8_at cX8_at 3 (some .int) :: lw_gd) ({ frames := 0, cells := 0, slots := 0, locals := 0 }) (gPre D [(cB, .byte), (cC, .char), (cI, .int), (cJ, .long)] [.ref a0, .int x0, .int x1] [(a0, .inr (8, [.ref a1])), (a1, .inl (cI, 30, .inl f0))] sz) (va_Qi (fun r u => ((((-2147483648) ≤ r.toInt ∧ r.toInt ≤ 2147483647)))) (gB D (va_A [(a0, .inr (8, [.ref a1])), (a1, .inl (cI, 30, .inl f0))] sz) (fun u : gEx => [(a0, .inr (8, [.ref a1])), (a1, .inl (cI, 30, .inl f0))])) (va_A [(a0, .inr (8, [.ref a1])), (a1, .inl (cI, 30, .inl f0))] sz)) 0 0 (va_A [(a0, .inr (8, [.ref a1])), (a1, .inl (cI, 30, .inl f0))] sz) := by
  refine gOf_i (by decide +kernel) (Nat.le_of_ble_eq_true rfl) ?_
  intro p e s m args below meth c ls A Q hx hb hts hown hml hN hK hP hD hA hl hret
  replace hown : s.vm.findClass RX8 = some m.cls := hown
  have hS : va_S A s.heap s.heap [] := va_S.rf
  replace hP : va_P D gcl [(a0, .inr (8, [.ref a1])), (a1, .inl (cI, 30, .inl f0))] s.heap := hP
  replace hl : lv_has ls 3 [(0, .ref a0), (1, .int x0), (2, .int x1)] := hl
  refine lv_aload_n (pc := 0) hx hb dX8_at_0 rfl (lv_at hl 0 rfl) ?_
  refine va_get (pc := 1) (ci := 8) (v := .ref a1) (C := RX8) (T := TX8) (N := 1) hx hb hts iX8 hown hK hP 0 rfl rfl 0 (by decide) (hts _ tw_62) (fun _ h9 => h9) rfl dX8_at_1 ?_
  refine lv_iload_n (pc := 4) hx hb dX8_at_4 rfl (lv_at hl 2 rfl) ?_
  refine lv_bipush (pc := 5) (v := 6) hx hb dX8_at_5 (by decide) ?_
  refine b_imul (pc := 7) hx hb rfl tI_6 (by first | exact (om_351 hp2.1) | ((first | omega | (unfold zBd at *; omega)))) (by first | exact (om_352 hp2.2) | ((first | omega | (unfold zBd at *; omega)))) dX8_at_7 (fun x_1 ex_1 => ?_)
  refine lv_iload_n (pc := 8) hx hb dX8_at_8 rfl (lv_at hl 1 rfl) ?_
  refine b_iadd (pc := 9) hx hb rfl rfl (by first | exact (om_353 ex_1 hp1.1 hp2.1) | ((first | omega | (unfold zBd at *; omega)))) (by first | exact (om_354 ex_1 hp1.2 hp2.2) | ((first | omega | (unfold zBd at *; omega)))) dX8_at_9 (fun x_2 ex_2 => ?_)
  refine va_iald (pc := 10) hx hb hK hP 1 2 rfl rfl (n_in rfl (by first | exact (om_355 ex_2 ex_1 hp1.1 hp2.1) | ((first | omega | (unfold zBd at *; omega)))) (by first | exact (om_356 ex_2 ex_1 hp1.2 hp2.2) | ((first | omega | (unfold zBd at *; omega))))) dX8_at_10 ?_
  refine lv_topi (fun x_3 ex_3 => ?_)
  have rx_3 : zBd x_3.toInt (-2147483648) 2147483647 := n_rng x_3
  exact hret x_3 ((fun _ => 0), (fun _ => (fun _ => 0)), (fun _ => (fun _ => 0)), (fun _ => 0), (fun _ => 0)) dX8_at_11 (show ((((-2147483648) ≤ x_3.toInt ∧ x_3.toInt ≤ 2147483647))) from (by first | exact (om_1017 rx_3.1 rx_3.2) | ((first | omega | (unfold zBd at *; omega))))) (g_psub (wc := [(a0, .inr (8, [.ref a1])), (a1, .inl (cI, 30, .inl f0))]) hP [0, 1] rfl) (hD.sub (ws' := [(a0, .inr (8, [.ref a1])), (a1, .inl (cI, 30, .inl f0))]) [0, 1] (by decide) rfl) hS
theorem om_1018 {a : Int} (h0 : (0 ≤ a)) (h1 : (a < 6)) : ((0 ≤ a ∧ a ≤ 5)) := by omega
set_option maxHeartbeats 4000000 in
set_option maxRecDepth 100000 in
theorem k_X8_productOf (l : Launch) (D : va_G) (cB cC cI cJ : ClassId) (sz : Nat) (a0 a1 : Nat) (x0 x1 : Int32) (f0 : Nat → Int32) (hp1 : (0 ≤ x0.toInt ∧ x0.toInt ≤ 4)) (hp2 : (0 ≤ x1.toInt ∧ x1.toInt ≤ 4)) : Met l yX8_productOf (.code yX8_productOf cX8_productOf 5 (some .int) :: lw_gd) ({ frames := 1, cells := 0, slots := 0, locals := 22 }) (gPre D [(cB, .byte), (cC, .char), (cI, .int), (cJ, .long)] [.ref a0, .int x0, .int x1] [(a0, .inr (8, [.ref a1])), (a1, .inl (cI, 30, .inl f0))] sz) (va_Qi (fun r u => ((((-2147483648) ≤ r.toInt ∧ r.toInt ≤ 2147483647)))) (gB D (va_A [(a0, .inr (8, [.ref a1])), (a1, .inl (cI, 30, .inl f0))] sz) (fun u : gEx => [(a0, .inr (8, [.ref a1])), (a1, .inl (cI, 30, .inl f0))])) (va_A [(a0, .inr (8, [.ref a1])), (a1, .inl (cI, 30, .inl f0))] sz)) 0 0 (va_A [(a0, .inr (8, [.ref a1])), (a1, .inl (cI, 30, .inl f0))] sz) := by
  refine gOf_i (by decide +kernel) (Nat.le_of_ble_eq_true rfl) ?_
  intro p e s m args below meth c ls A Q hx hb hts hown hml hN hK hP hD hA hl hret
  replace hown : s.vm.findClass RX8 = some m.cls := hown
  have hS : va_S A s.heap s.heap [] := va_S.rf
  replace hP : va_P D gcl [(a0, .inr (8, [.ref a1])), (a1, .inl (cI, 30, .inl f0))] s.heap := hP
  replace hl : lv_has ls 5 [(0, .ref a0), (1, .int x0), (2, .int x1)] := hl
  refine lv_iconst (pc := 0) (v := 0) hx hb dX8_productOf_0 (by decide) ?_
  refine lv_istore_n (pc := 1) (lv' := [(3, .int 0), (0, .ref a0), (1, .int x0), (2, .int x1)]) hx hb dX8_productOf_1 rfl hl (by decide) rfl (fun ls hl => ?_)
  refine lv_iconst (pc := 2) (v := 0) hx hb dX8_productOf_2 (by decide) ?_
  refine lv_istore (pc := 3) (lv' := [(4, .int 0), (3, .int 0), (0, .ref a0), (1, .int x0), (2, .int x1)]) hx hb dX8_productOf_3 hl (by decide) rfl (fun ls hl => ?_)
  have lp_5 : ∀ (n : Nat) (x_1 x_3 : Int32) (H : Heap) (locs : List Loc) (ls : Array Slot), (0 ≤ x_1.toInt ∧ x_1.toInt ≤ 2147483647) → (2147483647 - x_1.toInt).toNat < n → va_P D gcl [(a0, .inr (8, [.ref a1])), (a1, .inl (cI, 30, .inl f0))] H → va_D A [(a0, .inr (8, [.ref a1])), (a1, .inl (cI, 30, .inl f0))] → va_S A s.heap H locs → lv_has ls 5 [(4, .int x_1), (3, .int x_3), (0, .ref a0), (1, .int x0), (2, .int x1)] → W p l e ({ frames := 1, cells := 0, slots := 0, locals := 22 }) s m args below meth c H locs 0 0 Q (F0 m 5 ls []) := by
    intro n
    induction n with
    | zero => intro x_1 x_3 H locs ls hi_2 hmu; exact absurd hmu (Nat.not_lt_zero _)
    | succ n ih_lp_5 =>
      intro x_1 x_3 H locs ls hi_2 hmu_lp_5 hP hD hS hl
      have hi_4 := n_rng x_3
      refine lv_iload (pc := 5) hx hb dX8_productOf_5 (lv_at hl 0 rfl) ?_
      refine lv_bipush (pc := 7) (v := 6) hx hb dX8_productOf_7 (by decide) ?_
      refine b_icmp_ge (pc := 9) (tgt := 36) hx hb rfl tI_6  dX8_productOf_9 (by decide) (fun c_6 => ?_) (fun c_6 => ?_)
      ·
        refine lv_iload_n (pc := 36) hx hb dX8_productOf_36 rfl (lv_at hl 1 rfl) ?_
        exact hret x_3 ((fun _ => 0), (fun _ => (fun _ => 0)), (fun _ => (fun _ => 0)), (fun _ => 0), (fun _ => 0)) dX8_productOf_37 (show ((((-2147483648) ≤ x_3.toInt ∧ x_3.toInt ≤ 2147483647))) from (by first | exact (om_1017 hi_4.1 hi_4.2) | ((first | omega | (unfold zBd at *; omega))))) (g_psub (wc := [(a0, .inr (8, [.ref a1])), (a1, .inl (cI, 30, .inl f0))]) hP [0, 1] rfl) (hD.sub (ws' := [(a0, .inr (8, [.ref a1])), (a1, .inl (cI, 30, .inl f0))]) [0, 1] (by decide) rfl) hS
      ·
        refine lv_iload_n (pc := 12) hx hb dX8_productOf_12 rfl (lv_at hl 1 rfl) ?_
        refine lv_aload_n (pc := 13) hx hb dX8_productOf_13 rfl (lv_at hl 2 rfl) ?_
        refine lv_iload (pc := 14) hx hb dX8_productOf_14 (lv_at hl 0 rfl) ?_
        refine lv_iload_n (pc := 16) hx hb dX8_productOf_16 rfl (lv_at hl 3 rfl) ?_
        refine gd_i (pc := 17) (wc := [(a0, .inr (8, [.ref a1])), (a1, .inl (cI, 30, .inl f0))]) hP hD hS hA [0, 1] rfl (by decide +kernel) (fun _ => by rfl) (fun hPc hDc => va_runV (As := [.int x_1, .int x0]) (rest := [.int x_3]) ⟨hx, hb, hml, hown, hts⟩ (k_X8_at l D cB cC cI cJ _ a0 a1 x_1 x0 f0 (by first | exact (om_1018 hi_2.1 c_6) | ((first | omega | (unfold zBd at *; omega)))) hp1) ⟨gcwB hts tw_791 tw_5 tw_800 hd_yX8_at ⟨Nat.le_of_ble_eq_true rfl, Nat.le_of_ble_eq_true rfl⟩, hts _ tw_789, hts _ tw_790⟩ ⟨gblind, va_recv hK hPc (ci := 8) (q0 := 0) rfl rfl, (gpreS hPc hK hDc hN).2⟩ rfl rfl hl.1 rfl (lv_room (Nat.le_of_ble_eq_true rfl)) dX8_productOf_17 ⟨Nat.le_of_ble_eq_true rfl, Nat.le_of_ble_eq_true rfl⟩) (fun r_8 u_7 H locs hw_9 hP hD hS => ?_)
        replace hP : va_P D gcl [(a0, .inr (8, [.ref a1])), (a1, .inl (cI, 30, .inl f0))] H := hP
        replace hD : va_D A [(a0, .inr (8, [.ref a1])), (a1, .inl (cI, 30, .inl f0))] := hD
        have hw_10 : ((((-2147483648) ≤ r_8.toInt ∧ r_8.toInt ≤ 2147483647))) := hw_9
        have rr_8 : zBd r_8.toInt (-2147483648) 2147483647 := n_rng r_8
        refine lv_aload_n (pc := 20) hx hb dX8_productOf_20 rfl (lv_at hl 2 rfl) ?_
        refine lv_iload (pc := 21) hx hb dX8_productOf_21 (lv_at hl 0 rfl) ?_
        refine lv_iload_n (pc := 23) hx hb dX8_productOf_23 rfl (lv_at hl 4 rfl) ?_
        refine gd_i (pc := 24) (wc := [(a0, .inr (8, [.ref a1])), (a1, .inl (cI, 30, .inl f0))]) hP hD hS hA [0, 1] rfl (by decide +kernel) (fun _ => by rfl) (fun hPc hDc => va_runV (As := [.int x_1, .int x1]) (rest := [.int r_8, .int x_3]) ⟨hx, hb, hml, hown, hts⟩ (k_X8_at l D cB cC cI cJ _ a0 a1 x_1 x1 f0 (by first | exact (om_1018 hi_2.1 c_6) | ((first | omega | (unfold zBd at *; omega)))) hp2) ⟨gcwB hts tw_791 tw_5 tw_800 hd_yX8_at ⟨Nat.le_of_ble_eq_true rfl, Nat.le_of_ble_eq_true rfl⟩, hts _ tw_789, hts _ tw_790⟩ ⟨gblind, va_recv hK hPc (ci := 8) (q0 := 0) rfl rfl, (gpreS hPc hK hDc hN).2⟩ rfl rfl hl.1 rfl (lv_room (Nat.le_of_ble_eq_true rfl)) dX8_productOf_24 ⟨Nat.le_of_ble_eq_true rfl, Nat.le_of_ble_eq_true rfl⟩) (fun r_12 u_11 H locs hw_13 hP hD hS => ?_)
        replace hP : va_P D gcl [(a0, .inr (8, [.ref a1])), (a1, .inl (cI, 30, .inl f0))] H := hP
        replace hD : va_D A [(a0, .inr (8, [.ref a1])), (a1, .inl (cI, 30, .inl f0))] := hD
        have hw_14 : ((((-2147483648) ≤ r_12.toInt ∧ r_12.toInt ≤ 2147483647))) := hw_13
        have rr_12 : zBd r_12.toInt (-2147483648) 2147483647 := n_rng r_12
        refine lv_imul (pc := 27) hx hb dX8_productOf_27 ?_
        refine lv_topi (fun x_15 _ => ?_)
        have rx_15 : zBd x_15.toInt (-2147483648) 2147483647 := n_rng x_15
        refine lv_iadd (pc := 28) hx hb dX8_productOf_28 ?_
        refine lv_topi (fun x_16 _ => ?_)
        have rx_16 : zBd x_16.toInt (-2147483648) 2147483647 := n_rng x_16
        refine lv_istore_n (pc := 29) (lv' := [(3, .int x_16), (4, .int x_1), (0, .ref a0), (1, .int x0), (2, .int x1)]) hx hb dX8_productOf_29 rfl hl (by decide) rfl (fun ls hl => ?_)
        refine b_iinc (pc := 30) hx hb dX8_productOf_30 hl (k := 1) rfl rfl tI_1 (by first | exact (om_2 hi_2.1) | ((first | omega | (unfold zBd at *; omega)))) (by first | exact (om_136 c_6) | ((first | omega | (unfold zBd at *; omega)))) (by decide) (fun x_17 ex_17 ls hl => ?_)
        replace hl : lv_has ls 5 [(4, .int x_17), (3, .int x_16), (0, .ref a0), (1, .int x0), (2, .int x1)] := hl
        refine lv_goto (pc := 33) (tgt := 5) hx hb dX8_productOf_33 (by decide) ?_
        exact ih_lp_5 x_17 x_16 _ _ ls (by first | exact (om_399 ex_17 hi_2.1 c_6) | ((first | omega | (unfold zBd at *; omega)))) (by (first | omega | (unfold zBd at *; omega))) hP hD hS (lv_sub hl [0, 1, 2, 3, 4] rfl)
  exact lp_5 _ 0 0 _ _ ls (n_c tI_0 (by decide)) (Nat.lt_succ_self _) hP hD hS (lv_sub hl [0, 1, 2, 3, 4] rfl)
theorem om_1019 {a b : Int} (h0 : ((-2147483648) ≤ a)) (h1 : (a ≤ 2147483647)) (h2 : ((-1) ≤ b)) (h3 : (b ≤ 5)) : (((((-2147483648) ≤ a ∧ a ≤ 2147483647) ∧ ((-1) ≤ b ∧ b ≤ 5)))) := by omega
theorem om_1020 {a b : Int} (h0 : (a < b)) (h1 : (b ≤ 5)) : (a < (5 : Nat)) := by omega
theorem om_1021 {a b : Int} (h0 : (a = b)) (h1 : ((-2147483648) ≤ b)) : (-9223372036854775808 ≤ 1000 * a) := by omega
theorem om_1022 {a b : Int} (h0 : (a = b)) (h1 : (b ≤ 2147483647)) : (1000 * a ≤ 9223372036854775807) := by omega
set_option maxHeartbeats 4000000 in
set_option maxRecDepth 100000 in
theorem k_X8_at_e (l : Launch) (D : va_G) (cB cC cI cJ : ClassId) (sz : Nat) (a0 a1 : Nat) (x0 x1 : Int32) (f0 : Nat → Int32) (hp1 : (0 ≤ x0.toInt ∧ x0.toInt ≤ 5)) (hp2 : (0 ≤ x1.toInt ∧ x1.toInt ≤ 4)) : Met l yX8_at (.code yX8_at cX8_at 3 (some .int) :: lw_gd) ({ frames := 0, cells := 0, slots := 0, locals := 0 }) (gPre D [(cB, .byte), (cC, .char), (cI, .int), (cJ, .long)] [.ref a0, .int x0, .int x1] [(a0, .inr (8, [.ref a1])), (a1, .inl (cI, 30, .inl f0))] sz) (va_Qi (fun r u => (r = f0 (6 * x1.toInt + x0.toInt).toNat)) (gB D (va_A [(a0, .inr (8, [.ref a1])), (a1, .inl (cI, 30, .inl f0))] sz) (fun u : gEx => [(a0, .inr (8, [.ref a1])), (a1, .inl (cI, 30, .inl f0))])) (va_A [(a0, .inr (8, [.ref a1])), (a1, .inl (cI, 30, .inl f0))] sz)) 0 0 (va_A [(a0, .inr (8, [.ref a1])), (a1, .inl (cI, 30, .inl f0))] sz) := by
  refine gOf_i (by decide +kernel) (Nat.le_of_ble_eq_true rfl) ?_
  intro p e s m args below meth c ls A Q hx hb hts hown hml hN hK hP hD hA hl hret
  replace hown : s.vm.findClass RX8 = some m.cls := hown
  have hS : va_S A s.heap s.heap [] := va_S.rf
  replace hP : va_P D gcl [(a0, .inr (8, [.ref a1])), (a1, .inl (cI, 30, .inl f0))] s.heap := hP
  replace hl : lv_has ls 3 [(0, .ref a0), (1, .int x0), (2, .int x1)] := hl
  refine lv_aload_n (pc := 0) hx hb dX8_at_0 rfl (lv_at hl 0 rfl) ?_
  refine va_get (pc := 1) (ci := 8) (v := .ref a1) (C := RX8) (T := TX8) (N := 1) hx hb hts iX8 hown hK hP 0 rfl rfl 0 (by decide) (hts _ tw_62) (fun _ h9 => h9) rfl dX8_at_1 ?_
  refine lv_iload_n (pc := 4) hx hb dX8_at_4 rfl (lv_at hl 2 rfl) ?_
  refine lv_bipush (pc := 5) (v := 6) hx hb dX8_at_5 (by decide) ?_
  refine b_imul (pc := 7) hx hb rfl tI_6 (by first | exact (om_351 hp2.1) | ((first | omega | (unfold zBd at *; omega)))) (by first | exact (om_352 hp2.2) | ((first | omega | (unfold zBd at *; omega)))) dX8_at_7 (fun x_1 ex_1 => ?_)
  refine lv_iload_n (pc := 8) hx hb dX8_at_8 rfl (lv_at hl 1 rfl) ?_
  refine b_iadd (pc := 9) hx hb rfl rfl (by first | exact (om_353 ex_1 hp1.1 hp2.1) | ((first | omega | (unfold zBd at *; omega)))) (by first | exact (om_354 ex_1 hp1.2 hp2.2) | ((first | omega | (unfold zBd at *; omega)))) dX8_at_9 (fun x_2 ex_2 => ?_)
  refine va_iald (pc := 10) hx hb hK hP 1 2 rfl rfl (n_in rfl (by first | exact (om_355 ex_2 ex_1 hp1.1 hp2.1) | ((first | omega | (unfold zBd at *; omega)))) (by first | exact (om_356 ex_2 ex_1 hp1.2 hp2.2) | ((first | omega | (unfold zBd at *; omega))))) dX8_at_10 ?_
  refine lv_topi (fun x_3 ex_3 => ?_)
  have rx_3 : zBd x_3.toInt (-2147483648) 2147483647 := n_rng x_3
  replace ex_3 : x_3 = f0 (x_2.toInt).toNat := ex_3
  have tx_3 := congrArg Int32.toInt ex_3
  exact hret x_3 ((fun _ => 0), (fun _ => (fun _ => 0)), (fun _ => (fun _ => 0)), (fun _ => 0), (fun _ => 0)) dX8_at_11 (show x_3 = f0 (6 * x1.toInt + x0.toInt).toNat from (e_ld ex_3 (by (first | omega | (unfold zBd at *; omega)))).symm) (g_psub (wc := [(a0, .inr (8, [.ref a1])), (a1, .inl (cI, 30, .inl f0))]) hP [0, 1] rfl) (hD.sub (ws' := [(a0, .inr (8, [.ref a1])), (a1, .inl (cI, 30, .inl f0))]) [0, 1] (by decide) rfl) hS
set_option maxHeartbeats 4000000 in
set_option maxRecDepth 100000 in
theorem k_X8_productOf_w (l : Launch) (D : va_G) (cB cC cI cJ : ClassId) (sz : Nat) (a0 a1 : Nat) (x0 x1 : Int32) (f0 : Nat → Int32) (hp1 : (0 ≤ x0.toInt ∧ x0.toInt ≤ 4)) (hp2 : (0 ≤ x1.toInt ∧ x1.toInt ≤ 4)) : Met l yX8_productOf (.code yX8_productOf cX8_productOf 5 (some .int) :: lw_gd) ({ frames := 1, cells := 0, slots := 0, locals := 22 }) (gPre D [(cB, .byte), (cC, .char), (cI, .int), (cJ, .long)] [.ref a0, .int x0, .int x1] [(a0, .inr (8, [.ref a1])), (a1, .inl (cI, 30, .inl f0))] sz) (va_Qi (fun r u => (r = dw f0 x0.toInt x1.toInt 6)) (gB D (va_A [(a0, .inr (8, [.ref a1])), (a1, .inl (cI, 30, .inl f0))] sz) (fun u : gEx => [(a0, .inr (8, [.ref a1])), (a1, .inl (cI, 30, .inl f0))])) (va_A [(a0, .inr (8, [.ref a1])), (a1, .inl (cI, 30, .inl f0))] sz)) 0 0 (va_A [(a0, .inr (8, [.ref a1])), (a1, .inl (cI, 30, .inl f0))] sz) := by
  refine gOf_i (by decide +kernel) (Nat.le_of_ble_eq_true rfl) ?_
  intro p e s m args below meth c ls A Q hx hb hts hown hml hN hK hP hD hA hl hret
  replace hown : s.vm.findClass RX8 = some m.cls := hown
  have hS : va_S A s.heap s.heap [] := va_S.rf
  replace hP : va_P D gcl [(a0, .inr (8, [.ref a1])), (a1, .inl (cI, 30, .inl f0))] s.heap := hP
  replace hl : lv_has ls 5 [(0, .ref a0), (1, .int x0), (2, .int x1)] := hl
  refine lv_iconst (pc := 0) (v := 0) hx hb dX8_productOf_0 (by decide) ?_
  refine lv_istore_n (pc := 1) (lv' := [(3, .int 0), (0, .ref a0), (1, .int x0), (2, .int x1)]) hx hb dX8_productOf_1 rfl hl (by decide) rfl (fun ls hl => ?_)
  refine lv_iconst (pc := 2) (v := 0) hx hb dX8_productOf_2 (by decide) ?_
  refine lv_istore (pc := 3) (lv' := [(4, .int 0), (3, .int 0), (0, .ref a0), (1, .int x0), (2, .int x1)]) hx hb dX8_productOf_3 hl (by decide) rfl (fun ls hl => ?_)
  have lp_6 : ∀ (n : Nat) (x_1 x_3 : Int32) (H : Heap) (locs : List Loc) (ls : Array Slot), (0 ≤ x_1.toInt ∧ x_1.toInt ≤ 6) → (x_3 = dw f0 x0.toInt x1.toInt (x_1.toInt).toNat) → (2147483647 - x_1.toInt).toNat < n → va_P D gcl [(a0, .inr (8, [.ref a1])), (a1, .inl (cI, 30, .inl f0))] H → va_D A [(a0, .inr (8, [.ref a1])), (a1, .inl (cI, 30, .inl f0))] → va_S A s.heap H locs → lv_has ls 5 [(4, .int x_1), (3, .int x_3), (0, .ref a0), (1, .int x0), (2, .int x1)] → W p l e ({ frames := 1, cells := 0, slots := 0, locals := 22 }) s m args below meth c H locs 0 0 Q (F0 m 5 ls []) := by
    intro n
    induction n with
    | zero => intro x_1 x_3 H locs ls hi_2 hi_5 hmu; exact absurd hmu (Nat.not_lt_zero _)
    | succ n ih_lp_6 =>
      intro x_1 x_3 H locs ls hi_2 hi_5 hmu_lp_6 hP hD hS hl
      have hi_4 := n_rng x_3
      refine lv_iload (pc := 5) hx hb dX8_productOf_5 (lv_at hl 0 rfl) ?_
      refine lv_bipush (pc := 7) (v := 6) hx hb dX8_productOf_7 (by decide) ?_
      refine b_icmp_ge (pc := 9) (tgt := 36) hx hb rfl tI_6  dX8_productOf_9 (by decide) (fun c_7 => ?_) (fun c_7 => ?_)
      ·
        refine lv_iload_n (pc := 36) hx hb dX8_productOf_36 rfl (lv_at hl 1 rfl) ?_
        exact hret x_3 ((fun _ => 0), (fun _ => (fun _ => 0)), (fun _ => (fun _ => 0)), (fun _ => 0), (fun _ => 0)) dX8_productOf_37 (show x_3 = dw f0 x0.toInt x1.toInt 6 from (by have e9 : x_1.toInt = 6 := (by (first | omega | (unfold zBd at *; omega))); have q9 := hi_5; rw [e9] at q9; exact q9)) (g_psub (wc := [(a0, .inr (8, [.ref a1])), (a1, .inl (cI, 30, .inl f0))]) hP [0, 1] rfl) (hD.sub (ws' := [(a0, .inr (8, [.ref a1])), (a1, .inl (cI, 30, .inl f0))]) [0, 1] (by decide) rfl) hS
      ·
        refine lv_iload_n (pc := 12) hx hb dX8_productOf_12 rfl (lv_at hl 1 rfl) ?_
        refine lv_aload_n (pc := 13) hx hb dX8_productOf_13 rfl (lv_at hl 2 rfl) ?_
        refine lv_iload (pc := 14) hx hb dX8_productOf_14 (lv_at hl 0 rfl) ?_
        refine lv_iload_n (pc := 16) hx hb dX8_productOf_16 rfl (lv_at hl 3 rfl) ?_
        refine gd_i (pc := 17) (wc := [(a0, .inr (8, [.ref a1])), (a1, .inl (cI, 30, .inl f0))]) hP hD hS hA [0, 1] rfl (by decide +kernel) (fun _ => by rfl) (fun hPc hDc => va_runV (As := [.int x_1, .int x0]) (rest := [.int x_3]) ⟨hx, hb, hml, hown, hts⟩ (k_X8_at_e l D cB cC cI cJ _ a0 a1 x_1 x0 f0 (by first | exact (om_1018 hi_2.1 c_7) | ((first | omega | (unfold zBd at *; omega)))) hp1) ⟨gcwB hts tw_791 tw_5 tw_800 hd_yX8_at ⟨Nat.le_of_ble_eq_true rfl, Nat.le_of_ble_eq_true rfl⟩, hts _ tw_789, hts _ tw_790⟩ ⟨gblind, va_recv hK hPc (ci := 8) (q0 := 0) rfl rfl, (gpreS hPc hK hDc hN).2⟩ rfl rfl hl.1 rfl (lv_room (Nat.le_of_ble_eq_true rfl)) dX8_productOf_17 ⟨Nat.le_of_ble_eq_true rfl, Nat.le_of_ble_eq_true rfl⟩) (fun r_9 u_8 H locs hw_10 hP hD hS => ?_)
        replace hP : va_P D gcl [(a0, .inr (8, [.ref a1])), (a1, .inl (cI, 30, .inl f0))] H := hP
        replace hD : va_D A [(a0, .inr (8, [.ref a1])), (a1, .inl (cI, 30, .inl f0))] := hD
        have hw_11 : (r_9 = f0 (6 * x0.toInt + x_1.toInt).toNat) := hw_10
        have rr_9 : zBd r_9.toInt (-2147483648) 2147483647 := n_rng r_9
        refine lv_aload_n (pc := 20) hx hb dX8_productOf_20 rfl (lv_at hl 2 rfl) ?_
        refine lv_iload (pc := 21) hx hb dX8_productOf_21 (lv_at hl 0 rfl) ?_
        refine lv_iload_n (pc := 23) hx hb dX8_productOf_23 rfl (lv_at hl 4 rfl) ?_
        refine gd_i (pc := 24) (wc := [(a0, .inr (8, [.ref a1])), (a1, .inl (cI, 30, .inl f0))]) hP hD hS hA [0, 1] rfl (by decide +kernel) (fun _ => by rfl) (fun hPc hDc => va_runV (As := [.int x_1, .int x1]) (rest := [.int r_9, .int x_3]) ⟨hx, hb, hml, hown, hts⟩ (k_X8_at_e l D cB cC cI cJ _ a0 a1 x_1 x1 f0 (by first | exact (om_1018 hi_2.1 c_7) | ((first | omega | (unfold zBd at *; omega)))) hp2) ⟨gcwB hts tw_791 tw_5 tw_800 hd_yX8_at ⟨Nat.le_of_ble_eq_true rfl, Nat.le_of_ble_eq_true rfl⟩, hts _ tw_789, hts _ tw_790⟩ ⟨gblind, va_recv hK hPc (ci := 8) (q0 := 0) rfl rfl, (gpreS hPc hK hDc hN).2⟩ rfl rfl hl.1 rfl (lv_room (Nat.le_of_ble_eq_true rfl)) dX8_productOf_24 ⟨Nat.le_of_ble_eq_true rfl, Nat.le_of_ble_eq_true rfl⟩) (fun r_13 u_12 H locs hw_14 hP hD hS => ?_)
        replace hP : va_P D gcl [(a0, .inr (8, [.ref a1])), (a1, .inl (cI, 30, .inl f0))] H := hP
        replace hD : va_D A [(a0, .inr (8, [.ref a1])), (a1, .inl (cI, 30, .inl f0))] := hD
        have hw_15 : (r_13 = f0 (6 * x1.toInt + x_1.toInt).toNat) := hw_14
        have rr_13 : zBd r_13.toInt (-2147483648) 2147483647 := n_rng r_13
        refine lv_imul (pc := 27) hx hb dX8_productOf_27 ?_
        refine lv_topi (fun x_16 ex_16 => ?_)
        have rx_16 : zBd x_16.toInt (-2147483648) 2147483647 := n_rng x_16
        refine lv_iadd (pc := 28) hx hb dX8_productOf_28 ?_
        refine lv_topi (fun x_17 ex_17 => ?_)
        have rx_17 : zBd x_17.toInt (-2147483648) 2147483647 := n_rng x_17
        refine lv_istore_n (pc := 29) (lv' := [(3, .int x_17), (4, .int x_1), (0, .ref a0), (1, .int x0), (2, .int x1)]) hx hb dX8_productOf_29 rfl hl (by decide) rfl (fun ls hl => ?_)
        refine b_iinc (pc := 30) hx hb dX8_productOf_30 hl (k := 1) rfl rfl tI_1 (by first | exact (om_2 hi_2.1) | ((first | omega | (unfold zBd at *; omega)))) (by first | exact (om_136 c_7) | ((first | omega | (unfold zBd at *; omega)))) (by decide) (fun x_18 ex_18 ls hl => ?_)
        replace hl : lv_has ls 5 [(4, .int x_18), (3, .int x_17), (0, .ref a0), (1, .int x0), (2, .int x1)] := hl
        refine lv_goto (pc := 33) (tgt := 5) hx hb dX8_productOf_33 (by decide) ?_
        exact ih_lp_6 x_18 x_17 _ _ ls (by first | exact (om_573 ex_18 hi_2.1 c_7) | ((first | omega | (unfold zBd at *; omega)))) (dw_step hi_5 hw_11 hw_15 ex_16 ex_17 (by first | exact (om_0 hi_2.1) | ((first | omega | (unfold zBd at *; omega)))) (by first | exact (om_5 ex_18) | ((first | omega | (unfold zBd at *; omega))))) (by (first | omega | (unfold zBd at *; omega))) hP hD hS (lv_sub hl [0, 1, 2, 3, 4] rfl)
  exact lp_6 _ 0 0 _ _ ls (n_c tI_0 (by decide)) (rfl) (Nat.lt_succ_self _) hP hD hS (lv_sub hl [0, 1, 2, 3, 4] rfl)
set_option maxHeartbeats 4000000 in
set_option maxRecDepth 100000 in
theorem k_X8_clashOf_E (l : Launch) (D : va_G) (cB cC cI cJ : ClassId) (sz : Nat) (a0 a1 : Nat) (x0 x1 : Int32) (f0 : Nat → Int32) (hp1 : (0 ≤ x0.toInt ∧ x0.toInt ≤ 4)) (hp2 : (0 ≤ x1.toInt ∧ x1.toInt ≤ 4)) : Met l yX8_clashOf (.code yX8_clashOf cX8_clashOf 7 (some .int) :: lw_gd) ({ frames := 2, cells := 0, slots := 0, locals := 46 }) (gPre D [(cB, .byte), (cC, .char), (cI, .int), (cJ, .long)] [.ref a0, .int x0, .int x1] [(a0, .inr (8, [.ref a1])), (a1, .inl (cI, 30, .inl f0))] sz) (va_Qi (fun r u => (r = clF (dw f0 x0.toInt x1.toInt 6) (dw f0 x0.toInt x0.toInt 6) (dw f0 x1.toInt x1.toInt 6))) (gB D (va_A [(a0, .inr (8, [.ref a1])), (a1, .inl (cI, 30, .inl f0))] sz) (fun u : gEx => [(a0, .inr (8, [.ref a1])), (a1, .inl (cI, 30, .inl f0))])) (va_A [(a0, .inr (8, [.ref a1])), (a1, .inl (cI, 30, .inl f0))] sz)) 0 0 (va_A [(a0, .inr (8, [.ref a1])), (a1, .inl (cI, 30, .inl f0))] sz) := by
  refine gOf_i (by decide +kernel) (Nat.le_of_ble_eq_true rfl) ?_
  intro p e s m args below meth c ls A Q hx hb hts hown hml hN hK hP hD hA hl hret
  replace hown : s.vm.findClass RX8 = some m.cls := hown
  have hS : va_S A s.heap s.heap [] := va_S.rf
  replace hP : va_P D gcl [(a0, .inr (8, [.ref a1])), (a1, .inl (cI, 30, .inl f0))] s.heap := hP
  replace hl : lv_has ls 7 [(0, .ref a0), (1, .int x0), (2, .int x1)] := hl
  refine lv_aload_n (pc := 0) hx hb dX8_clashOf_0 rfl (lv_at hl 0 rfl) ?_
  refine lv_iload_n (pc := 1) hx hb dX8_clashOf_1 rfl (lv_at hl 1 rfl) ?_
  refine lv_iload_n (pc := 2) hx hb dX8_clashOf_2 rfl (lv_at hl 2 rfl) ?_
  refine gd_i (pc := 3) (wc := [(a0, .inr (8, [.ref a1])), (a1, .inl (cI, 30, .inl f0))]) hP hD hS hA [0, 1] rfl (by decide +kernel) (fun _ => by rfl) (fun hPc hDc => va_runV (As := [.int x0, .int x1]) (rest := []) ⟨hx, hb, hml, hown, hts⟩ (k_X8_productOf_w l D cB cC cI cJ _ a0 a1 x0 x1 f0 hp1 hp2) ⟨gcwB hts tw_799 tw_5 tw_1108 hd_yX8_productOf ⟨Nat.le_of_ble_eq_true rfl, Nat.le_of_ble_eq_true rfl⟩, hts _ tw_797, hts _ tw_798⟩ ⟨gblind, va_recv hK hPc (ci := 8) (q0 := 0) rfl rfl, (gpreS hPc hK hDc hN).2⟩ rfl rfl hl.1 rfl (lv_room (Nat.le_of_ble_eq_true rfl)) dX8_clashOf_3 ⟨Nat.le_of_ble_eq_true rfl, Nat.le_of_ble_eq_true rfl⟩) (fun r_2 u_1 H locs hw_3 hP hD hS => ?_)
  replace hP : va_P D gcl [(a0, .inr (8, [.ref a1])), (a1, .inl (cI, 30, .inl f0))] H := hP
  replace hD : va_D A [(a0, .inr (8, [.ref a1])), (a1, .inl (cI, 30, .inl f0))] := hD
  have hw_4 : (r_2 = dw f0 x0.toInt x1.toInt 6) := hw_3
  have rr_2 : zBd r_2.toInt (-2147483648) 2147483647 := n_rng r_2
  refine b_i2l (pc := 6) hx hb rfl dX8_clashOf_6 (fun y_5 ey_5 => ?_)
  have ry_5 : zBd r_2.toInt (-2147483648) 2147483647 := n_rng r_2
  refine lv_lstore_n (pc := 7) (lv' := [(3, .long y_5), (0, .ref a0), (1, .int x0), (2, .int x1)]) hx hb dX8_clashOf_7 rfl hl (by decide) rfl (fun ls hl => ?_)
  refine lv_aload_n (pc := 8) hx hb dX8_clashOf_8 rfl (lv_at hl 1 rfl) ?_
  refine lv_iload_n (pc := 9) hx hb dX8_clashOf_9 rfl (lv_at hl 2 rfl) ?_
  refine lv_iload_n (pc := 10) hx hb dX8_clashOf_10 rfl (lv_at hl 2 rfl) ?_
  refine gd_i (pc := 11) (wc := [(a0, .inr (8, [.ref a1])), (a1, .inl (cI, 30, .inl f0))]) hP hD hS hA [0, 1] rfl (by decide +kernel) (fun _ => by rfl) (fun hPc hDc => va_runV (As := [.int x0, .int x0]) (rest := []) ⟨hx, hb, hml, hown, hts⟩ (k_X8_productOf_w l D cB cC cI cJ _ a0 a1 x0 x0 f0 hp1 hp1) ⟨gcwB hts tw_799 tw_5 tw_1108 hd_yX8_productOf ⟨Nat.le_of_ble_eq_true rfl, Nat.le_of_ble_eq_true rfl⟩, hts _ tw_797, hts _ tw_798⟩ ⟨gblind, va_recv hK hPc (ci := 8) (q0 := 0) rfl rfl, (gpreS hPc hK hDc hN).2⟩ rfl rfl hl.1 rfl (lv_room (Nat.le_of_ble_eq_true rfl)) dX8_clashOf_11 ⟨Nat.le_of_ble_eq_true rfl, Nat.le_of_ble_eq_true rfl⟩) (fun r_7 u_6 H locs hw_8 hP hD hS => ?_)
  replace hP : va_P D gcl [(a0, .inr (8, [.ref a1])), (a1, .inl (cI, 30, .inl f0))] H := hP
  replace hD : va_D A [(a0, .inr (8, [.ref a1])), (a1, .inl (cI, 30, .inl f0))] := hD
  have hw_9 : (r_7 = dw f0 x0.toInt x0.toInt 6) := hw_8
  have rr_7 : zBd r_7.toInt (-2147483648) 2147483647 := n_rng r_7
  refine b_i2l (pc := 14) hx hb rfl dX8_clashOf_14 (fun y_10 ey_10 => ?_)
  have ry_10 : zBd r_7.toInt (-2147483648) 2147483647 := n_rng r_7
  refine lv_aload_n (pc := 15) hx hb dX8_clashOf_15 rfl (lv_at hl 1 rfl) ?_
  refine lv_iload_n (pc := 16) hx hb dX8_clashOf_16 rfl (lv_at hl 3 rfl) ?_
  refine lv_iload_n (pc := 17) hx hb dX8_clashOf_17 rfl (lv_at hl 3 rfl) ?_
  refine gd_i (pc := 18) (wc := [(a0, .inr (8, [.ref a1])), (a1, .inl (cI, 30, .inl f0))]) hP hD hS hA [0, 1] rfl (by decide +kernel) (fun _ => by rfl) (fun hPc hDc => va_runV (As := [.int x1, .int x1]) (rest := [.long y_10]) ⟨hx, hb, hml, hown, hts⟩ (k_X8_productOf_w l D cB cC cI cJ _ a0 a1 x1 x1 f0 hp2 hp2) ⟨gcwB hts tw_799 tw_5 tw_1108 hd_yX8_productOf ⟨Nat.le_of_ble_eq_true rfl, Nat.le_of_ble_eq_true rfl⟩, hts _ tw_797, hts _ tw_798⟩ ⟨gblind, va_recv hK hPc (ci := 8) (q0 := 0) rfl rfl, (gpreS hPc hK hDc hN).2⟩ rfl rfl hl.1 rfl (lv_room (Nat.le_of_ble_eq_true rfl)) dX8_clashOf_18 ⟨Nat.le_of_ble_eq_true rfl, Nat.le_of_ble_eq_true rfl⟩) (fun r_12 u_11 H locs hw_13 hP hD hS => ?_)
  replace hP : va_P D gcl [(a0, .inr (8, [.ref a1])), (a1, .inl (cI, 30, .inl f0))] H := hP
  replace hD : va_D A [(a0, .inr (8, [.ref a1])), (a1, .inl (cI, 30, .inl f0))] := hD
  have hw_14 : (r_12 = dw f0 x1.toInt x1.toInt 6) := hw_13
  have rr_12 : zBd r_12.toInt (-2147483648) 2147483647 := n_rng r_12
  refine b_i2l (pc := 21) hx hb rfl dX8_clashOf_21 (fun y_15 ey_15 => ?_)
  have ry_15 : zBd r_12.toInt (-2147483648) 2147483647 := n_rng r_12
  refine lv_lmul (pc := 22) hx hb dX8_clashOf_22 ?_
  refine lv_topl (fun y_16 ey_16 => ?_)
  have ry_16 := n_rngL y_16
  refine lv_lstore (pc := 23) (lv' := [(5, .long y_16), (3, .long y_5), (0, .ref a0), (1, .int x0), (2, .int x1)]) hx hb dX8_clashOf_23 hl (by decide) rfl (fun ls hl => ?_)
  refine lv_lload (pc := 25) hx hb dX8_clashOf_25 (lv_at hl 0 rfl) ?_
  refine lv_lconst (pc := 27) (v := 0) hx hb dX8_clashOf_27 (by decide) ?_
  refine b_lcmp_ne (pc := 28) (tgt := 36) hx hb rfl tL_0 dX8_clashOf_28 dX8_clashOf_29 (by decide) (fun c_17 => ?_) (fun c_17 => ?_)
  ·
    refine lv_ldc2 (pc := 36) hx hb hown (hts _ tw_1109) dX8_clashOf_36 ?_
    refine lv_lload_n (pc := 39) hx hb dX8_clashOf_39 rfl (lv_at hl 1 rfl) ?_
    refine b_lmul (pc := 40) hx hb tL_1000 rfl (by first | exact (om_1021 ey_5 ry_5.1) | ((first | omega | (unfold zBd at *; omega)))) (by first | exact (om_1022 ey_5 ry_5.2) | ((first | omega | (unfold zBd at *; omega)))) dX8_clashOf_40 (fun y_18 ey_18 => ?_)
    refine lv_lload_n (pc := 41) hx hb dX8_clashOf_41 rfl (lv_at hl 1 rfl) ?_
    refine lv_lmul (pc := 42) hx hb dX8_clashOf_42 ?_
    refine lv_topl (fun y_19 ey_19 => ?_)
    have ry_19 := n_rngL y_19
    refine lv_lload (pc := 43) hx hb dX8_clashOf_43 (lv_at hl 0 rfl) ?_
    refine lv_ldiv (pc := 45) hx hb dX8_clashOf_45 (fun h => by have q := congrArg Int64.toInt h; have k := tL_0; (first | omega | (unfold zBd at *; omega))) ?_
    refine lv_topl (fun y_20 ey_20 => ?_)
    have ry_20 := n_rngL y_20
    refine lv_l2i (pc := 46) hx hb dX8_clashOf_46 rfl ?_
    refine lv_topi (fun x_21 ex_21 => ?_)
    have rx_21 : zBd x_21.toInt (-2147483648) 2147483647 := n_rng x_21
    exact hret x_21 ((fun _ => 0), (fun _ => (fun _ => 0)), (fun _ => (fun _ => 0)), (fun _ => 0), (fun _ => 0)) dX8_clashOf_47 (show x_21 = clF (dw f0 x0.toInt x1.toInt 6) (dw f0 x0.toInt x0.toInt 6) (dw f0 x1.toInt x1.toInt 6) from cl_yes (by rw [← hw_4]; exact ey_5) (by rw [← hw_9]; exact ey_10) (by rw [← hw_14]; exact ey_15) ey_18 ey_19 ey_16 (by (first | omega | (unfold zBd at *; omega))) ey_20 ex_21) (g_psub (wc := [(a0, .inr (8, [.ref a1])), (a1, .inl (cI, 30, .inl f0))]) hP [0, 1] rfl) (hD.sub (ws' := [(a0, .inr (8, [.ref a1])), (a1, .inl (cI, 30, .inl f0))]) [0, 1] (by decide) rfl) hS
  ·
    refine lv_iconst (pc := 32) (v := 0) hx hb dX8_clashOf_32 (by decide) ?_
    refine lv_goto (pc := 33) (tgt := 47) hx hb dX8_clashOf_33 (by decide) ?_
    have k9 := tI_0
    exact hret 0 ((fun _ => 0), (fun _ => (fun _ => 0)), (fun _ => (fun _ => 0)), (fun _ => 0), (fun _ => 0)) dX8_clashOf_47 (show 0 = clF (dw f0 x0.toInt x1.toInt 6) (dw f0 x0.toInt x0.toInt 6) (dw f0 x1.toInt x1.toInt 6) from cl_no (by rw [← hw_9]; exact ey_10) (by rw [← hw_14]; exact ey_15) ey_16 (by (first | omega | (unfold zBd at *; omega))) rfl) (g_psub (wc := [(a0, .inr (8, [.ref a1])), (a1, .inl (cI, 30, .inl f0))]) hP [0, 1] rfl) (hD.sub (ws' := [(a0, .inr (8, [.ref a1])), (a1, .inl (cI, 30, .inl f0))]) [0, 1] (by decide) rfl) hS
theorem om_1025 {a b : Int} (h0 : (0 ≤ a)) (h1 : (a ≤ b ∨ a = 0)) : (a ≤ b ∨ a = 0) := by omega
theorem om_1026 {a b c : Int} (h0 : (a = b + 1)) (h1 : (0 ≤ b)) (h2 : (b < c)) (h3 : (c ≤ 5)) : ((0 ≤ a ∧ a ≤ 5)) := by omega
theorem om_1027 {a b : Int} (h0 : (a = b + 1)) : (5 * a = 5 * (b + 1)) := by omega
theorem om_1028 {a b c d : Int} (h0 : (b = d + 1)) (h1 : (a < d)) (h2 : (d < c)) : ((a < b ∧ (b ≤ c ∨ b = a + 1))) := by omega
theorem om_1029 {a b : Int} (h0 : (a < b)) : (a < b) := by omega
theorem om_1030 {a b c : Int} (h0 : (b = c + 1)) : (5 * a + b = 5 * a + c + 1) := by omega
theorem om_1031 {a : Int} (h0 : (0 ≤ a)) : (-2147483648 ≤ 100 * a) := by omega
theorem om_1032 {a : Int} (h0 : (a ≤ 5)) : (100 * a ≤ 2147483647) := by omega
theorem om_1033 {a b c : Int} (h0 : (a = 100 * c)) (h1 : (0 ≤ b)) (h2 : (0 ≤ c)) : (-2147483648 ≤ a + b) := by omega
theorem om_1034 {a b c : Int} (h0 : (a = 100 * c)) (h1 : (c < b)) (h2 : (b ≤ 5)) : (a + b ≤ 2147483647) := by omega
theorem om_1035 {a b c d : Int} (h0 : (a = b + c)) (h1 : (b = 100 * d)) (h2 : (0 ≤ c)) (h3 : (0 ≤ d)) (h4 : (d < c)) (h5 : (c ≤ 5)) : (((-1) ≤ a ∧ a ≤ 500)) := by omega
theorem om_1036 {a b : Int} (h0 : (b > a)) : (a < b) := by omega
theorem om_1037 {a b c d : Int} (h0 : (a = d + c)) (h1 : (d = 100 * b)) : (a = 100 * b + c) := by omega
theorem om_1038 {a b : Int} (h0 : (a < b)) (h1 : (b ≤ 5)) : (a < 5) := by omega
theorem om_1039 {a : Int} (h0 : (a = 0)) : (5 * a = 0) := by omega
set_option maxHeartbeats 4000000 in
set_option maxRecDepth 100000 in
theorem k_X8_worstPair (l : Launch) (D : va_G) (cB cC cI cJ : ClassId) (sz : Nat) (a0 a1 : Nat) (x0 : Int32) (f0 : Nat → Int32) (hp1 : ((-1) ≤ x0.toInt ∧ x0.toInt ≤ 5)) : Met l yX8_worstPair (.code yX8_worstPair cX8_worstPair 7 (some .int) :: lw_gd) ({ frames := 3, cells := 0, slots := 0, locals := 72 }) (gPre D [(cB, .byte), (cC, .char), (cI, .int), (cJ, .long)] [.ref a0, .int x0] [(a0, .inr (8, [.ref a1])), (a1, .inl (cI, 30, .inl f0))] sz) (va_Qi (fun r u => ((-1) ≤ r.toInt ∧ r.toInt ≤ 500) ∧ (r.toInt = wsW (clT f0) x0.toInt)) (gB D (va_A [(a0, .inr (8, [.ref a1])), (a1, .inl (cI, 30, .inl f0))] sz) (fun u : gEx => [(a0, .inr (8, [.ref a1])), (a1, .inl (cI, 30, .inl f0))])) (va_A [(a0, .inr (8, [.ref a1])), (a1, .inl (cI, 30, .inl f0))] sz)) 0 0 (va_A [(a0, .inr (8, [.ref a1])), (a1, .inl (cI, 30, .inl f0))] sz) := by
  refine gOf_i (by decide +kernel) (Nat.le_of_ble_eq_true rfl) ?_
  intro p e s m args below meth c ls A Q hx hb hts hown hml hN hK hP hD hA hl hret
  replace hown : s.vm.findClass RX8 = some m.cls := hown
  have hS : va_S A s.heap s.heap [] := va_S.rf
  replace hP : va_P D gcl [(a0, .inr (8, [.ref a1])), (a1, .inl (cI, 30, .inl f0))] s.heap := hP
  replace hl : lv_has ls 7 [(0, .ref a0), (1, .int x0)] := hl
  refine lv_iconst (pc := 0) (v := (-1)) hx hb dX8_worstPair_0 (by decide) ?_
  refine lv_istore_n (pc := 1) (lv' := [(2, .int (-1)), (0, .ref a0), (1, .int x0)]) hx hb dX8_worstPair_1 rfl hl (by decide) rfl (fun ls hl => ?_)
  refine lv_iconst (pc := 2) (v := (-1)) hx hb dX8_worstPair_2 (by decide) ?_
  refine lv_istore_n (pc := 3) (lv' := [(3, .int (-1)), (2, .int (-1)), (0, .ref a0), (1, .int x0)]) hx hb dX8_worstPair_3 rfl hl (by decide) rfl (fun ls hl => ?_)
  refine lv_iconst (pc := 4) (v := 0) hx hb dX8_worstPair_4 (by decide) ?_
  refine lv_istore (pc := 5) (lv' := [(4, .int 0), (3, .int (-1)), (2, .int (-1)), (0, .ref a0), (1, .int x0)]) hx hb dX8_worstPair_5 hl (by decide) rfl (fun ls hl => ?_)
  have lp_9 : ∀ (n : Nat) (x_1 x_3 x_5 : Int32) (H : Heap) (locs : List Loc) (ls : Array Slot), (0 ≤ x_1.toInt ∧ x_1.toInt ≤ 5) → ((-1) ≤ x_5.toInt ∧ x_5.toInt ≤ 500) → (x_1.toInt ≤ x0.toInt ∨ x_1.toInt = 0) → (wsE x_5.toInt x_3.toInt (clT f0) x0.toInt (5 * x_1.toInt)) → (2147483647 - x_1.toInt).toNat < n → va_P D gcl [(a0, .inr (8, [.ref a1])), (a1, .inl (cI, 30, .inl f0))] H → va_D A [(a0, .inr (8, [.ref a1])), (a1, .inl (cI, 30, .inl f0))] → va_S A s.heap H locs → lv_has ls 7 [(4, .int x_1), (3, .int x_3), (2, .int x_5), (0, .ref a0), (1, .int x0)] → W p l e ({ frames := 3, cells := 0, slots := 0, locals := 72 }) s m args below meth c H locs 0 0 Q (F0 m 7 ls []) := by
    intro n
    induction n with
    | zero => intro x_1 x_3 x_5 H locs ls hi_2 hi_6 hi_7 hi_8 hmu; exact absurd hmu (Nat.not_lt_zero _)
    | succ n ih_lp_9 =>
      intro x_1 x_3 x_5 H locs ls hi_2 hi_6 hi_7 hi_8 hmu_lp_9 hP hD hS hl
      have hi_4 := n_rng x_3
      refine lv_iload (pc := 7) hx hb dX8_worstPair_7 (lv_at hl 0 rfl) ?_
      refine lv_iload_n (pc := 9) hx hb dX8_worstPair_9 rfl (lv_at hl 4 rfl) ?_
      refine b_icmp_ge (pc := 10) (tgt := 65) hx hb rfl rfl  dX8_worstPair_10 (by decide) (fun c_10 => ?_) (fun c_10 => ?_)
      ·
        refine lv_iload_n (pc := 65) hx hb dX8_worstPair_65 rfl (lv_at hl 2 rfl) ?_
        exact hret x_5 ((fun _ => 0), (fun _ => (fun _ => 0)), (fun _ => (fun _ => 0)), (fun _ => 0), (fun _ => 0)) dX8_worstPair_66 ⟨(show ((-1) ≤ x_5.toInt ∧ x_5.toInt ≤ 500) from hi_6), (show x_5.toInt = wsW (clT f0) x0.toInt from ws_end hi_8 (by first | exact (om_0 hi_2.1) | ((first | omega | (unfold zBd at *; omega)))) (by first | exact (om_503 c_10) | ((first | omega | (unfold zBd at *; omega)))) (by first | exact (om_1025 hi_2.1 hi_7) | ((first | omega | (unfold zBd at *; omega)))) rfl)⟩ (g_psub (wc := [(a0, .inr (8, [.ref a1])), (a1, .inl (cI, 30, .inl f0))]) hP [0, 1] rfl) (hD.sub (ws' := [(a0, .inr (8, [.ref a1])), (a1, .inl (cI, 30, .inl f0))]) [0, 1] (by decide) rfl) hS
      ·
        refine lv_iload (pc := 13) hx hb dX8_worstPair_13 (lv_at hl 0 rfl) ?_
        refine lv_iconst (pc := 15) (v := 1) hx hb dX8_worstPair_15 (by decide) ?_
        refine b_iadd (pc := 16) hx hb rfl tI_1 (by first | exact (om_2 hi_2.1) | ((first | omega | (unfold zBd at *; omega)))) (by first | exact (om_357 hi_2.2) | ((first | omega | (unfold zBd at *; omega)))) dX8_worstPair_16 (fun x_11 ex_11 => ?_)
        refine lv_istore (pc := 17) (lv' := [(5, .int x_11), (4, .int x_1), (3, .int x_3), (2, .int x_5), (0, .ref a0), (1, .int x0)]) hx hb dX8_worstPair_17 hl (by decide) rfl (fun ls hl => ?_)
        have lp_20 : ∀ (n : Nat) (x_12 x_14 x_16 : Int32) (H : Heap) (locs : List Loc) (ls : Array Slot), (0 ≤ x_12.toInt ∧ x_12.toInt ≤ 5) → ((-1) ≤ x_16.toInt ∧ x_16.toInt ≤ 500) → (x_1.toInt < x_12.toInt ∧ (x_12.toInt ≤ x0.toInt ∨ x_12.toInt = x_1.toInt + 1)) → (wsE x_16.toInt x_14.toInt (clT f0) x0.toInt (5 * x_1.toInt + x_12.toInt)) → (2147483647 - x_12.toInt).toNat < n → va_P D gcl [(a0, .inr (8, [.ref a1])), (a1, .inl (cI, 30, .inl f0))] H → va_D A [(a0, .inr (8, [.ref a1])), (a1, .inl (cI, 30, .inl f0))] → va_S A s.heap H locs → lv_has ls 7 [(5, .int x_12), (4, .int x_1), (3, .int x_14), (2, .int x_16), (0, .ref a0), (1, .int x0)] → W p l e ({ frames := 3, cells := 0, slots := 0, locals := 72 }) s m args below meth c H locs 0 0 Q (F0 m 19 ls []) := by
          intro n
          induction n with
          | zero => intro x_12 x_14 x_16 H locs ls hi_13 hi_17 hi_18 hi_19 hmu; exact absurd hmu (Nat.not_lt_zero _)
          | succ n ih_lp_20 =>
            intro x_12 x_14 x_16 H locs ls hi_13 hi_17 hi_18 hi_19 hmu_lp_20 hP hD hS hl
            have hi_15 := n_rng x_14
            refine lv_iload (pc := 19) hx hb dX8_worstPair_19 (lv_at hl 0 rfl) ?_
            refine lv_iload_n (pc := 21) hx hb dX8_worstPair_21 rfl (lv_at hl 5 rfl) ?_
            refine b_icmp_ge (pc := 22) (tgt := 59) hx hb rfl rfl  dX8_worstPair_22 (by decide) (fun c_21 => ?_) (fun c_21 => ?_)
            ·
              refine b_iinc (pc := 59) hx hb dX8_worstPair_59 hl (k := 1) rfl rfl tI_1 (by first | exact (om_2 hi_2.1) | ((first | omega | (unfold zBd at *; omega)))) (by first | exact (om_357 hi_2.2) | ((first | omega | (unfold zBd at *; omega)))) (by decide) (fun x_22 ex_22 ls hl => ?_)
              replace hl : lv_has ls 7 [(4, .int x_22), (5, .int x_12), (3, .int x_14), (2, .int x_16), (0, .ref a0), (1, .int x0)] := hl
              refine lv_goto (pc := 62) (tgt := 7) hx hb dX8_worstPair_62 (by decide) ?_
              exact ih_lp_9 x_22 x_14 x_16 _ _ ls (by first | exact (om_1026 ex_22 hi_2.1 hi_18.1 hi_13.2) | ((first | omega | (unfold zBd at *; omega)))) hi_17 (by first | exact (om_344 ex_22 c_10) | ((first | omega | (unfold zBd at *; omega)))) (ws_out hi_19 (by first | exact (om_0 hi_2.1) | ((first | omega | (unfold zBd at *; omega)))) (by first | exact (om_503 c_21) | ((first | omega | (unfold zBd at *; omega)))) (by first | exact (om_0 hi_13.1) | ((first | omega | (unfold zBd at *; omega)))) (by first | exact (om_372 hi_13.2) | ((first | omega | (unfold zBd at *; omega)))) rfl (by first | exact (om_1027 ex_22) | ((first | omega | (unfold zBd at *; omega))))) (by (first | omega | (unfold zBd at *; omega))) hP hD hS (lv_sub hl [0, 2, 3, 4, 5] rfl)
            ·
              refine lv_aload_n (pc := 25) hx hb dX8_worstPair_25 rfl (lv_at hl 4 rfl) ?_
              refine lv_iload (pc := 26) hx hb dX8_worstPair_26 (lv_at hl 1 rfl) ?_
              refine lv_iload (pc := 28) hx hb dX8_worstPair_28 (lv_at hl 0 rfl) ?_
              refine gd_i (pc := 30) (wc := [(a0, .inr (8, [.ref a1])), (a1, .inl (cI, 30, .inl f0))]) hP hD hS hA [0, 1] rfl (by decide +kernel) (fun _ => by rfl) (fun hPc hDc => va_runV (As := [.int x_1, .int x_12]) (rest := []) ⟨hx, hb, hml, hown, hts⟩ (k_X8_clashOf_E l D cB cC cI cJ _ a0 a1 x_1 x_12 f0 (by first | exact (om_360 hi_2.1 c_10 hp1.2) | ((first | omega | (unfold zBd at *; omega)))) (by first | exact (om_360 hi_13.1 c_21 hp1.2) | ((first | omega | (unfold zBd at *; omega))))) ⟨gcwB hts tw_1107 tw_5 tw_1118 hd_yX8_clashOf ⟨Nat.le_of_ble_eq_true rfl, Nat.le_of_ble_eq_true rfl⟩, hts _ tw_1105, hts _ tw_1106⟩ ⟨gblind, va_recv hK hPc (ci := 8) (q0 := 0) rfl rfl, (gpreS hPc hK hDc hN).2⟩ rfl rfl hl.1 rfl (lv_room (Nat.le_of_ble_eq_true rfl)) dX8_worstPair_30 ⟨Nat.le_of_ble_eq_true rfl, Nat.le_of_ble_eq_true rfl⟩) (fun r_24 u_23 H locs hw_25 hP hD hS => ?_)
              replace hP : va_P D gcl [(a0, .inr (8, [.ref a1])), (a1, .inl (cI, 30, .inl f0))] H := hP
              replace hD : va_D A [(a0, .inr (8, [.ref a1])), (a1, .inl (cI, 30, .inl f0))] := hD
              have hw_26 : (r_24 = clF (dw f0 x_1.toInt x_12.toInt 6) (dw f0 x_1.toInt x_1.toInt 6) (dw f0 x_12.toInt x_12.toInt 6)) := hw_25
              have rr_24 : zBd r_24.toInt (-2147483648) 2147483647 := n_rng r_24
              refine lv_istore (pc := 33) (lv' := [(6, .int r_24), (5, .int x_12), (4, .int x_1), (3, .int x_14), (2, .int x_16), (0, .ref a0), (1, .int x0)]) hx hb dX8_worstPair_33 hl (by decide) rfl (fun ls hl => ?_)
              refine lv_iload (pc := 35) hx hb dX8_worstPair_35 (lv_at hl 0 rfl) ?_
              refine lv_iload_n (pc := 37) hx hb dX8_worstPair_37 rfl (lv_at hl 3 rfl) ?_
              refine b_icmp_le (pc := 38) (tgt := 53) hx hb rfl rfl  dX8_worstPair_38 (by decide) (fun c_27 => ?_) (fun c_27 => ?_)
              ·
                refine b_iinc (pc := 53) hx hb dX8_worstPair_53 hl (k := 1) rfl rfl tI_1 (by first | exact (om_2 hi_13.1) | ((first | omega | (unfold zBd at *; omega)))) (by first | exact (om_357 hi_13.2) | ((first | omega | (unfold zBd at *; omega)))) (by decide) (fun x_28 ex_28 ls hl => ?_)
                replace hl : lv_has ls 7 [(5, .int x_28), (6, .int r_24), (4, .int x_1), (3, .int x_14), (2, .int x_16), (0, .ref a0), (1, .int x0)] := hl
                refine lv_goto (pc := 56) (tgt := 19) hx hb dX8_worstPair_56 (by decide) ?_
                exact ih_lp_20 x_28 x_14 x_16 _ _ ls (by first | exact (om_1026 ex_28 hi_13.1 c_21 hp1.2) | ((first | omega | (unfold zBd at *; omega)))) hi_17 (by first | exact (om_1028 ex_28 hi_18.1 c_21) | ((first | omega | (unfold zBd at *; omega)))) (ws_no hi_19 (by first | exact (om_0 hi_2.1) | ((first | omega | (unfold zBd at *; omega)))) (by first | exact (om_1029 hi_18.1) | ((first | omega | (unfold zBd at *; omega)))) (by first | exact (om_1029 c_21) | ((first | omega | (unfold zBd at *; omega)))) (by first | exact (om_372 hp1.2) | ((first | omega | (unfold zBd at *; omega)))) (congrArg Int32.toInt hw_26) (by (first | omega | (unfold zBd at *; omega))) rfl (by first | exact (om_1030 ex_28) | ((first | omega | (unfold zBd at *; omega))))) (by (first | omega | (unfold zBd at *; omega))) hP hD hS (lv_sub hl [0, 2, 3, 4, 5, 6] rfl)
              ·
                refine lv_iload (pc := 41) hx hb dX8_worstPair_41 (lv_at hl 0 rfl) ?_
                refine lv_istore_n (pc := 43) (lv' := [(3, .int r_24), (6, .int r_24), (5, .int x_12), (4, .int x_1), (2, .int x_16), (0, .ref a0), (1, .int x0)]) hx hb dX8_worstPair_43 rfl hl (by decide) rfl (fun ls hl => ?_)
                refine lv_bipush (pc := 44) (v := 100) hx hb dX8_worstPair_44 (by decide) ?_
                refine lv_iload (pc := 46) hx hb dX8_worstPair_46 (lv_at hl 3 rfl) ?_
                refine b_imul (pc := 48) hx hb tI_100 rfl (by first | exact (om_1031 hi_2.1) | ((first | omega | (unfold zBd at *; omega)))) (by first | exact (om_1032 hi_2.2) | ((first | omega | (unfold zBd at *; omega)))) dX8_worstPair_48 (fun x_29 ex_29 => ?_)
                refine lv_iload (pc := 49) hx hb dX8_worstPair_49 (lv_at hl 2 rfl) ?_
                refine b_iadd (pc := 51) hx hb rfl rfl (by first | exact (om_1033 ex_29 hi_13.1 hi_2.1) | ((first | omega | (unfold zBd at *; omega)))) (by first | exact (om_1034 ex_29 hi_18.1 hi_13.2) | ((first | omega | (unfold zBd at *; omega)))) dX8_worstPair_51 (fun x_30 ex_30 => ?_)
                refine lv_istore_n (pc := 52) (lv' := [(2, .int x_30), (3, .int r_24), (6, .int r_24), (5, .int x_12), (4, .int x_1), (0, .ref a0), (1, .int x0)]) hx hb dX8_worstPair_52 rfl hl (by decide) rfl (fun ls hl => ?_)
                refine b_iinc (pc := 53) hx hb dX8_worstPair_53 hl (k := 3) rfl rfl tI_1 (by first | exact (om_2 hi_13.1) | ((first | omega | (unfold zBd at *; omega)))) (by first | exact (om_357 hi_13.2) | ((first | omega | (unfold zBd at *; omega)))) (by decide) (fun x_31 ex_31 ls hl => ?_)
                replace hl : lv_has ls 7 [(5, .int x_31), (2, .int x_30), (3, .int r_24), (6, .int r_24), (4, .int x_1), (0, .ref a0), (1, .int x0)] := hl
                refine lv_goto (pc := 56) (tgt := 19) hx hb dX8_worstPair_56 (by decide) ?_
                exact ih_lp_20 x_31 r_24 x_30 _ _ ls (by first | exact (om_1026 ex_31 hi_13.1 c_21 hp1.2) | ((first | omega | (unfold zBd at *; omega)))) (by first | exact (om_1035 ex_30 ex_29 hi_13.1 hi_2.1 hi_18.1 hi_13.2) | ((first | omega | (unfold zBd at *; omega)))) (by first | exact (om_1028 ex_31 hi_18.1 c_21) | ((first | omega | (unfold zBd at *; omega)))) (ws_yes hi_19 (by first | exact (om_0 hi_2.1) | ((first | omega | (unfold zBd at *; omega)))) (by first | exact (om_1029 hi_18.1) | ((first | omega | (unfold zBd at *; omega)))) (by first | exact (om_1029 c_21) | ((first | omega | (unfold zBd at *; omega)))) (by first | exact (om_372 hp1.2) | ((first | omega | (unfold zBd at *; omega)))) (congrArg Int32.toInt hw_26) (by first | exact (om_1036 c_27) | ((first | omega | (unfold zBd at *; omega)))) (by first | exact (om_1037 ex_30 ex_29) | ((first | omega | (unfold zBd at *; omega)))) rfl (by first | exact (om_1030 ex_31) | ((first | omega | (unfold zBd at *; omega))))) (by (first | omega | (unfold zBd at *; omega))) hP hD hS (lv_sub hl [0, 4, 2, 1, 5, 6] rfl)
        exact lp_20 _ x_11 x_3 x_5 _ _ ls (by first | exact (om_1026 ex_11 hi_2.1 c_10 hp1.2) | ((first | omega | (unfold zBd at *; omega)))) hi_6 (by have q := tI_0; (first | omega | (unfold zBd at *; omega))) (ws_in hi_8 (by first | exact (om_0 hi_2.1) | ((first | omega | (unfold zBd at *; omega)))) (by first | exact (om_1038 c_10 hp1.2) | ((first | omega | (unfold zBd at *; omega)))) rfl rfl (by first | exact (om_5 ex_11) | ((first | omega | (unfold zBd at *; omega))))) (Nat.lt_succ_self _) hP hD hS (lv_sub hl [0, 1, 2, 3, 4, 5] rfl)
  exact lp_9 _ 0 (-1) (-1) _ _ ls (n_c tI_0 (by decide)) (n_c tI_m1 (by decide)) (by have q := tI_0; (first | omega | (unfold zBd at *; omega))) (ws_0 tI_m1 tI_m1 (by first | exact (om_1039 tI_0) | (have q := tI_0; (first | omega | (unfold zBd at *; omega))))) (Nat.lt_succ_self _) hP hD hS (lv_sub hl [0, 1, 2, 3, 4] rfl)
theorem om_1040 {a : Int} (h0 : (0 ≤ a)) (h1 : (a < 5)) : ((0 ≤ a ∧ a ≤ 4)) := by omega
theorem om_1041 {a b c : Int} (h0 : (b = c)) (h1 : ((-10737418240) ≤ a)) (h2 : ((-2147483648) ≤ c)) : (-9223372036854775808 ≤ a + b) := by omega
theorem om_1042 {a b c : Int} (h0 : (b = c)) (h1 : (a ≤ 10737418240)) (h2 : (c ≤ 2147483647)) : (a + b ≤ 9223372036854775807) := by omega
theorem om_1043 {a b : Int} (h0 : (a = b + 1)) (h1 : (0 ≤ b)) (h2 : (b < 5)) : ((0 ≤ a ∧ a ≤ 5)) := by omega
theorem om_1044 {a b c d e : Int} (h0 : (a = b + c)) (h1 : (c = d)) (h2 : (-2147483648 * e ≤ b)) (h3 : ((-2147483648) ≤ d)) (h4 : (e < 5)) (h5 : (b ≤ 2147483648 * e)) (h6 : (d ≤ 2147483647)) : (((-10737418240) ≤ a ∧ a ≤ 10737418240)) := by omega
theorem om_1045 {a b c d e f : Int} (h0 : (a = c + 1)) (h1 : (b = d + e)) (h2 : (e = f)) (h3 : (-2147483648 * c ≤ d)) (h4 : ((-2147483648) ≤ f)) (h5 : (d ≤ 2147483648 * c)) (h6 : (f ≤ 2147483647)) : ((-2147483648 * a ≤ b ∧ b ≤ 2147483648 * a)) := by omega
theorem om_1046 {a : Int} (h0 : (a = 0)) : (((-10737418240) ≤ a ∧ a ≤ 10737418240)) := by omega
set_option maxHeartbeats 4000000 in
set_option maxRecDepth 100000 in
theorem k_X8_allSquares (l : Launch) (D : va_G) (cB cC cI cJ : ClassId) (sz : Nat) (a0 a1 : Nat) (f0 : Nat → Int32) : Met l yX8_allSquares (.code yX8_allSquares cX8_allSquares 4 (some .long) :: lw_gd) ({ frames := 2, cells := 0, slots := 0, locals := 46 }) (gPre D [(cB, .byte), (cC, .char), (cI, .int), (cJ, .long)] [.ref a0] [(a0, .inr (8, [.ref a1])), (a1, .inl (cI, 30, .inl f0))] sz) (va_Ql (fun r u => ((-10737418240) ≤ r.toInt ∧ r.toInt ≤ 10737418240) ∧ (r.toInt = sqT f0 5)) (gB D (va_A [(a0, .inr (8, [.ref a1])), (a1, .inl (cI, 30, .inl f0))] sz) (fun u : gEx => [(a0, .inr (8, [.ref a1])), (a1, .inl (cI, 30, .inl f0))])) (va_A [(a0, .inr (8, [.ref a1])), (a1, .inl (cI, 30, .inl f0))] sz)) 0 0 (va_A [(a0, .inr (8, [.ref a1])), (a1, .inl (cI, 30, .inl f0))] sz) := by
  refine gOf_l (by decide +kernel) (Nat.le_of_ble_eq_true rfl) ?_
  intro p e s m args below meth c ls A Q hx hb hts hown hml hN hK hP hD hA hl hret
  replace hown : s.vm.findClass RX8 = some m.cls := hown
  have hS : va_S A s.heap s.heap [] := va_S.rf
  replace hP : va_P D gcl [(a0, .inr (8, [.ref a1])), (a1, .inl (cI, 30, .inl f0))] s.heap := hP
  replace hl : lv_has ls 4 [(0, .ref a0)] := hl
  refine lv_lconst (pc := 0) (v := 0) hx hb dX8_allSquares_0 (by decide) ?_
  refine lv_lstore_n (pc := 1) (lv' := [(1, .long 0), (0, .ref a0)]) hx hb dX8_allSquares_1 rfl hl (by decide) rfl (fun ls hl => ?_)
  refine lv_iconst (pc := 2) (v := 0) hx hb dX8_allSquares_2 (by decide) ?_
  refine lv_istore_n (pc := 3) (lv' := [(3, .int 0), (1, .long 0), (0, .ref a0)]) hx hb dX8_allSquares_3 rfl hl (by decide) rfl (fun ls hl => ?_)
  have lp_7 : ∀ (n : Nat) (x_1 : Int32) (y_3 : Int64) (H : Heap) (locs : List Loc) (ls : Array Slot), (0 ≤ x_1.toInt ∧ x_1.toInt ≤ 5) → ((-10737418240) ≤ y_3.toInt ∧ y_3.toInt ≤ 10737418240) → (-2147483648 * x_1.toInt ≤ y_3.toInt ∧ y_3.toInt ≤ 2147483648 * x_1.toInt) → (y_3.toInt = sqT f0 (x_1.toInt).toNat) → (2147483647 - x_1.toInt).toNat < n → va_P D gcl [(a0, .inr (8, [.ref a1])), (a1, .inl (cI, 30, .inl f0))] H → va_D A [(a0, .inr (8, [.ref a1])), (a1, .inl (cI, 30, .inl f0))] → va_S A s.heap H locs → lv_has ls 4 [(3, .int x_1), (1, .long y_3), (0, .ref a0)] → W p l e ({ frames := 2, cells := 0, slots := 0, locals := 46 }) s m args below meth c H locs 0 0 Q (F0 m 4 ls []) := by
    intro n
    induction n with
    | zero => intro x_1 y_3 H locs ls hi_2 hi_4 hi_5 hi_6 hmu; exact absurd hmu (Nat.not_lt_zero _)
    | succ n ih_lp_7 =>
      intro x_1 y_3 H locs ls hi_2 hi_4 hi_5 hi_6 hmu_lp_7 hP hD hS hl
      refine lv_iload_n (pc := 4) hx hb dX8_allSquares_4 rfl (lv_at hl 0 rfl) ?_
      refine lv_iconst (pc := 5) (v := 5) hx hb dX8_allSquares_5 (by decide) ?_
      refine b_icmp_ge (pc := 6) (tgt := 25) hx hb rfl tI_5  dX8_allSquares_6 (by decide) (fun c_8 => ?_) (fun c_8 => ?_)
      ·
        refine lv_lload_n (pc := 25) hx hb dX8_allSquares_25 rfl (lv_at hl 1 rfl) ?_
        exact hret y_3 ((fun _ => 0), (fun _ => (fun _ => 0)), (fun _ => (fun _ => 0)), (fun _ => 0), (fun _ => 0)) dX8_allSquares_26 ⟨(show ((-10737418240) ≤ y_3.toInt ∧ y_3.toInt ≤ 10737418240) from hi_4), (show y_3.toInt = sqT f0 5 from (by have e9 : x_1.toInt = 5 := (by (first | omega | (unfold zBd at *; omega))); have q9 := hi_6; rw [e9] at q9; exact q9))⟩ (g_psub (wc := [(a0, .inr (8, [.ref a1])), (a1, .inl (cI, 30, .inl f0))]) hP [0, 1] rfl) (hD.sub (ws' := [(a0, .inr (8, [.ref a1])), (a1, .inl (cI, 30, .inl f0))]) [0, 1] (by decide) rfl) hS
      ·
        refine lv_lload_n (pc := 9) hx hb dX8_allSquares_9 rfl (lv_at hl 1 rfl) ?_
        refine lv_aload_n (pc := 10) hx hb dX8_allSquares_10 rfl (lv_at hl 2 rfl) ?_
        refine lv_iload_n (pc := 11) hx hb dX8_allSquares_11 rfl (lv_at hl 0 rfl) ?_
        refine lv_iload_n (pc := 12) hx hb dX8_allSquares_12 rfl (lv_at hl 0 rfl) ?_
        refine gd_i (pc := 13) (wc := [(a0, .inr (8, [.ref a1])), (a1, .inl (cI, 30, .inl f0))]) hP hD hS hA [0, 1] rfl (by decide +kernel) (fun _ => by rfl) (fun hPc hDc => va_runV (As := [.int x_1, .int x_1]) (rest := [.long y_3]) ⟨hx, hb, hml, hown, hts⟩ (k_X8_productOf_w l D cB cC cI cJ _ a0 a1 x_1 x_1 f0 (by first | exact (om_1040 hi_2.1 c_8) | ((first | omega | (unfold zBd at *; omega)))) (by first | exact (om_1040 hi_2.1 c_8) | ((first | omega | (unfold zBd at *; omega))))) ⟨gcwB hts tw_799 tw_5 tw_1108 hd_yX8_productOf ⟨Nat.le_of_ble_eq_true rfl, Nat.le_of_ble_eq_true rfl⟩, hts _ tw_797, hts _ tw_798⟩ ⟨gblind, va_recv hK hPc (ci := 8) (q0 := 0) rfl rfl, (gpreS hPc hK hDc hN).2⟩ rfl rfl hl.1 rfl (lv_room (Nat.le_of_ble_eq_true rfl)) dX8_allSquares_13 ⟨Nat.le_of_ble_eq_true rfl, Nat.le_of_ble_eq_true rfl⟩) (fun r_10 u_9 H locs hw_11 hP hD hS => ?_)
        replace hP : va_P D gcl [(a0, .inr (8, [.ref a1])), (a1, .inl (cI, 30, .inl f0))] H := hP
        replace hD : va_D A [(a0, .inr (8, [.ref a1])), (a1, .inl (cI, 30, .inl f0))] := hD
        have hw_12 : (r_10 = dw f0 x_1.toInt x_1.toInt 6) := hw_11
        have rr_10 : zBd r_10.toInt (-2147483648) 2147483647 := n_rng r_10
        refine b_i2l (pc := 16) hx hb rfl dX8_allSquares_16 (fun y_13 ey_13 => ?_)
        have ry_13 : zBd r_10.toInt (-2147483648) 2147483647 := n_rng r_10
        refine b_ladd (pc := 17) hx hb rfl rfl (by first | exact (om_1041 ey_13 hi_4.1 ry_13.1) | ((first | omega | (unfold zBd at *; omega)))) (by first | exact (om_1042 ey_13 hi_4.2 ry_13.2) | ((first | omega | (unfold zBd at *; omega)))) dX8_allSquares_17 (fun y_14 ey_14 => ?_)
        refine lv_lstore_n (pc := 18) (lv' := [(1, .long y_14), (3, .int x_1), (0, .ref a0)]) hx hb dX8_allSquares_18 rfl hl (by decide) rfl (fun ls hl => ?_)
        refine b_iinc (pc := 19) hx hb dX8_allSquares_19 hl (k := 1) rfl rfl tI_1 (by first | exact (om_2 hi_2.1) | ((first | omega | (unfold zBd at *; omega)))) (by first | exact (om_409 c_8) | ((first | omega | (unfold zBd at *; omega)))) (by decide) (fun x_15 ex_15 ls hl => ?_)
        replace hl : lv_has ls 4 [(3, .int x_15), (1, .long y_14), (0, .ref a0)] := hl
        refine lv_goto (pc := 22) (tgt := 4) hx hb dX8_allSquares_22 (by decide) ?_
        exact ih_lp_7 x_15 y_14 _ _ ls (by first | exact (om_1043 ex_15 hi_2.1 c_8) | ((first | omega | (unfold zBd at *; omega)))) (by first | exact (om_1044 ey_14 ey_13 hi_5.1 ry_13.1 c_8 hi_5.2 ry_13.2) | ((first | omega | (unfold zBd at *; omega)))) (by first | exact (om_1045 ex_15 ey_14 ey_13 hi_5.1 ry_13.1 hi_5.2 ry_13.2) | ((first | omega | (unfold zBd at *; omega)))) (sqT_step hi_6 (by rw [← hw_12]; exact ey_13) (by first | exact (om_0 hi_2.1) | ((first | omega | (unfold zBd at *; omega)))) ey_14 (by first | exact (om_5 ex_15) | ((first | omega | (unfold zBd at *; omega))))) (by (first | omega | (unfold zBd at *; omega))) hP hD hS (lv_sub hl [0, 1, 2] rfl)
  exact lp_7 _ 0 0 _ _ ls (n_c tI_0 (by decide)) (by first | exact (om_1046 tL_0) | (have k0 := tI_0; have k1 := tL_0; (first | omega | (unfold zBd at *; omega)))) (by have q := tI_0; have q2 := tL_0; (first | omega | (unfold zBd at *; omega))) (tL_0) (Nat.lt_succ_self _) hP hD hS (lv_sub hl [0, 1, 2] rfl)
set_option maxHeartbeats 4000000 in
set_option maxRecDepth 100000 in
theorem k_X8_peakOf (l : Launch) (D : va_G) (cB cC cI cJ : ClassId) (sz : Nat) (a0 a1 : Nat) (x0 : Int32) (f0 : Nat → Int32) (hp1 : (0 ≤ x0.toInt ∧ x0.toInt ≤ 4)) : Met l yX8_peakOf (.code yX8_peakOf cX8_peakOf 4 (some .int) :: lw_gd) ({ frames := 1, cells := 0, slots := 0, locals := 22 }) (gPre D [(cB, .byte), (cC, .char), (cI, .int), (cJ, .long)] [.ref a0, .int x0] [(a0, .inr (8, [.ref a1])), (a1, .inl (cI, 30, .inl f0))] sz) (va_Qi (fun r u => ((((-2147483648) ≤ r.toInt ∧ r.toInt ≤ 2147483647)))) (gB D (va_A [(a0, .inr (8, [.ref a1])), (a1, .inl (cI, 30, .inl f0))] sz) (fun u : gEx => [(a0, .inr (8, [.ref a1])), (a1, .inl (cI, 30, .inl f0))])) (va_A [(a0, .inr (8, [.ref a1])), (a1, .inl (cI, 30, .inl f0))] sz)) 0 0 (va_A [(a0, .inr (8, [.ref a1])), (a1, .inl (cI, 30, .inl f0))] sz) := by
  refine gOf_i (by decide +kernel) (Nat.le_of_ble_eq_true rfl) ?_
  intro p e s m args below meth c ls A Q hx hb hts hown hml hN hK hP hD hA hl hret
  replace hown : s.vm.findClass RX8 = some m.cls := hown
  have hS : va_S A s.heap s.heap [] := va_S.rf
  replace hP : va_P D gcl [(a0, .inr (8, [.ref a1])), (a1, .inl (cI, 30, .inl f0))] s.heap := hP
  replace hl : lv_has ls 4 [(0, .ref a0), (1, .int x0)] := hl
  refine lv_iconst (pc := 0) (v := 0) hx hb dX8_peakOf_0 (by decide) ?_
  refine lv_istore_n (pc := 1) (lv' := [(2, .int 0), (0, .ref a0), (1, .int x0)]) hx hb dX8_peakOf_1 rfl hl (by decide) rfl (fun ls hl => ?_)
  refine lv_iconst (pc := 2) (v := 0) hx hb dX8_peakOf_2 (by decide) ?_
  refine lv_istore_n (pc := 3) (lv' := [(3, .int 0), (2, .int 0), (0, .ref a0), (1, .int x0)]) hx hb dX8_peakOf_3 rfl hl (by decide) rfl (fun ls hl => ?_)
  have lp_5 : ∀ (n : Nat) (x_1 x_3 : Int32) (H : Heap) (locs : List Loc) (ls : Array Slot), (0 ≤ x_1.toInt ∧ x_1.toInt ≤ 2147483647) → (2147483647 - x_1.toInt).toNat < n → va_P D gcl [(a0, .inr (8, [.ref a1])), (a1, .inl (cI, 30, .inl f0))] H → va_D A [(a0, .inr (8, [.ref a1])), (a1, .inl (cI, 30, .inl f0))] → va_S A s.heap H locs → lv_has ls 4 [(3, .int x_1), (2, .int x_3), (0, .ref a0), (1, .int x0)] → W p l e ({ frames := 1, cells := 0, slots := 0, locals := 22 }) s m args below meth c H locs 0 0 Q (F0 m 4 ls []) := by
    intro n
    induction n with
    | zero => intro x_1 x_3 H locs ls hi_2 hmu; exact absurd hmu (Nat.not_lt_zero _)
    | succ n ih_lp_5 =>
      intro x_1 x_3 H locs ls hi_2 hmu_lp_5 hP hD hS hl
      have hi_4 := n_rng x_3
      refine lv_iload_n (pc := 4) hx hb dX8_peakOf_4 rfl (lv_at hl 0 rfl) ?_
      refine lv_bipush (pc := 5) (v := 6) hx hb dX8_peakOf_5 (by decide) ?_
      refine b_icmp_ge (pc := 7) (tgt := 30) hx hb rfl tI_6  dX8_peakOf_7 (by decide) (fun c_6 => ?_) (fun c_6 => ?_)
      ·
        refine lv_iload_n (pc := 30) hx hb dX8_peakOf_30 rfl (lv_at hl 1 rfl) ?_
        exact hret x_3 ((fun _ => 0), (fun _ => (fun _ => 0)), (fun _ => (fun _ => 0)), (fun _ => 0), (fun _ => 0)) dX8_peakOf_31 (show ((((-2147483648) ≤ x_3.toInt ∧ x_3.toInt ≤ 2147483647))) from (by first | exact (om_1017 hi_4.1 hi_4.2) | ((first | omega | (unfold zBd at *; omega))))) (g_psub (wc := [(a0, .inr (8, [.ref a1])), (a1, .inl (cI, 30, .inl f0))]) hP [0, 1] rfl) (hD.sub (ws' := [(a0, .inr (8, [.ref a1])), (a1, .inl (cI, 30, .inl f0))]) [0, 1] (by decide) rfl) hS
      ·
        refine lv_iload_n (pc := 10) hx hb dX8_peakOf_10 rfl (lv_at hl 1 rfl) ?_
        refine lv_aload_n (pc := 11) hx hb dX8_peakOf_11 rfl (lv_at hl 2 rfl) ?_
        refine lv_iload_n (pc := 12) hx hb dX8_peakOf_12 rfl (lv_at hl 0 rfl) ?_
        refine lv_iload_n (pc := 13) hx hb dX8_peakOf_13 rfl (lv_at hl 3 rfl) ?_
        refine gd_i (pc := 14) (wc := [(a0, .inr (8, [.ref a1])), (a1, .inl (cI, 30, .inl f0))]) hP hD hS hA [0, 1] rfl (by decide +kernel) (fun _ => by rfl) (fun hPc hDc => va_runV (As := [.int x_1, .int x0]) (rest := [.int x_3]) ⟨hx, hb, hml, hown, hts⟩ (k_X8_at l D cB cC cI cJ _ a0 a1 x_1 x0 f0 (by first | exact (om_1018 hi_2.1 c_6) | ((first | omega | (unfold zBd at *; omega)))) hp1) ⟨gcwB hts tw_791 tw_5 tw_800 hd_yX8_at ⟨Nat.le_of_ble_eq_true rfl, Nat.le_of_ble_eq_true rfl⟩, hts _ tw_789, hts _ tw_790⟩ ⟨gblind, va_recv hK hPc (ci := 8) (q0 := 0) rfl rfl, (gpreS hPc hK hDc hN).2⟩ rfl rfl hl.1 rfl (lv_room (Nat.le_of_ble_eq_true rfl)) dX8_peakOf_14 ⟨Nat.le_of_ble_eq_true rfl, Nat.le_of_ble_eq_true rfl⟩) (fun r_8 u_7 H locs hw_9 hP hD hS => ?_)
        replace hP : va_P D gcl [(a0, .inr (8, [.ref a1])), (a1, .inl (cI, 30, .inl f0))] H := hP
        replace hD : va_D A [(a0, .inr (8, [.ref a1])), (a1, .inl (cI, 30, .inl f0))] := hD
        have hw_10 : ((((-2147483648) ≤ r_8.toInt ∧ r_8.toInt ≤ 2147483647))) := hw_9
        have rr_8 : zBd r_8.toInt (-2147483648) 2147483647 := n_rng r_8
        refine va_mabs (pc := 17) hx hb (hml.trans hl.1.symm) hown (hts _ tw_1331) (hts _ tw_632) (hts _ tw_19) (hts _ tw_633) (Nat.le_of_ble_eq_true rfl) (Nat.le_of_ble_eq_true rfl) (Nat.le_of_ble_eq_true rfl) (Nat.le_of_ble_eq_true rfl) dX8_peakOf_17 ?_
        refine lv_topi (fun x_11 ex_11 => ?_)
        have ex_11 := n_abs rfl ex_11
        have rx_11 : zBd x_11.toInt (-2147483648) 2147483647 := n_rng x_11
        refine va_mmax (pc := 20) hx hb (hml.trans hl.1.symm) hown (hts _ tw_1332) (hts _ tw_885) (hts _ tw_19) (hts _ tw_886) (Nat.le_of_ble_eq_true rfl) (Nat.le_of_ble_eq_true rfl) (Nat.le_of_ble_eq_true rfl) (Nat.le_of_ble_eq_true rfl) dX8_peakOf_20 ?_
        refine lv_topi (fun x_12 ex_12 => ?_)
        have ex_12 := n_max rfl rfl ex_12
        have rx_12 : zBd x_12.toInt (-2147483648) 2147483647 := n_rng x_12
        refine lv_istore_n (pc := 23) (lv' := [(2, .int x_12), (3, .int x_1), (0, .ref a0), (1, .int x0)]) hx hb dX8_peakOf_23 rfl hl (by decide) rfl (fun ls hl => ?_)
        refine b_iinc (pc := 24) hx hb dX8_peakOf_24 hl (k := 1) rfl rfl tI_1 (by first | exact (om_2 hi_2.1) | ((first | omega | (unfold zBd at *; omega)))) (by first | exact (om_136 c_6) | ((first | omega | (unfold zBd at *; omega)))) (by decide) (fun x_13 ex_13 ls hl => ?_)
        replace hl : lv_has ls 4 [(3, .int x_13), (2, .int x_12), (0, .ref a0), (1, .int x0)] := hl
        refine lv_goto (pc := 27) (tgt := 4) hx hb dX8_peakOf_27 (by decide) ?_
        exact ih_lp_5 x_13 x_12 _ _ ls (by first | exact (om_399 ex_13 hi_2.1 c_6) | ((first | omega | (unfold zBd at *; omega)))) (by (first | omega | (unfold zBd at *; omega))) hP hD hS (lv_sub hl [0, 1, 2, 3] rfl)
  exact lp_5 _ 0 0 _ _ ls (n_c tI_0 (by decide)) (Nat.lt_succ_self _) hP hD hS (lv_sub hl [0, 1, 2, 3] rfl)
theorem om_1047 {a b c d : Int} (h0 : (b = (-3))) : (((a = a ∧ b = (-3)) ∨ (a = c ∧ b = (-2)) ∨ (a = d ∧ b = (-1)) ∨ (a = b ∧ (b < (-3) ∨ (-1) < b)))) := by omega
theorem om_1048 {a b c d : Int} (h0 : (c = (-2))) : (((a = b ∧ c = (-3)) ∨ (a = a ∧ c = (-2)) ∨ (a = d ∧ c = (-1)) ∨ (a = c ∧ (c < (-3) ∨ (-1) < c)))) := by omega
theorem om_1049 {a b c d : Int} (h0 : (c = (-1))) : (((a = b ∧ c = (-3)) ∨ (a = d ∧ c = (-2)) ∨ (a = a ∧ c = (-1)) ∨ (a = c ∧ (c < (-3) ∨ (-1) < c)))) := by omega
theorem om_1050 {a b c d : Int} (h0 : (¬ a = (-1))) (h1 : (¬ a = (-2))) (h2 : (¬ a = (-3))) : (((a = b ∧ a = (-3)) ∨ (a = c ∧ a = (-2)) ∨ (a = d ∧ a = (-1)) ∨ (a = a ∧ (a < (-3) ∨ (-1) < a)))) := by omega
set_option maxHeartbeats 4000000 in
set_option maxRecDepth 100000 in
theorem k_X5_partBy (l : Launch) (D : va_G) (cB cC cI cJ : ClassId) (sz : Nat) (x0 x1 x2 x3 : Int32) : Met l yX5_partBy (.code yX5_partBy cX5_partBy 4 (some .int) :: lw_gd) ({ frames := 0, cells := 0, slots := 0, locals := 0 }) (gPre D [(cB, .byte), (cC, .char), (cI, .int), (cJ, .long)] [.int x0, .int x1, .int x2, .int x3] [] sz) (va_Qi (fun r u => ((r.toInt = x3.toInt ∧ x0.toInt = (-3)) ∨ (r.toInt = x2.toInt ∧ x0.toInt = (-2)) ∨ (r.toInt = x1.toInt ∧ x0.toInt = (-1)) ∨ (r.toInt = x0.toInt ∧ (x0.toInt < (-3) ∨ (-1) < x0.toInt)))) (gB D (va_A [] sz) (fun u : gEx => [])) (va_A [] sz)) 0 0 (va_A [] sz) := by
  refine gOf_i (by decide +kernel) (Nat.le_of_ble_eq_true rfl) ?_
  intro p e s m args below meth c ls A Q hx hb hts hown hml hN hK hP hD hA hl hret
  replace hown : s.vm.findClass RX5 = some m.cls := hown
  have hS : va_S A s.heap s.heap [] := va_S.rf
  replace hP : va_P D gcl [] s.heap := hP
  replace hl : lv_has ls 4 [(0, .int x0), (1, .int x1), (2, .int x2), (3, .int x3)] := hl
  have rx0 : zBd x0.toInt (-2147483648) 2147483647 := n_rng x0
  have rx1 : zBd x1.toInt (-2147483648) 2147483647 := n_rng x1
  have rx2 : zBd x2.toInt (-2147483648) 2147483647 := n_rng x2
  have rx3 : zBd x3.toInt (-2147483648) 2147483647 := n_rng x3
  refine lv_iload_n (pc := 0) hx hb dX5_partBy_0 rfl (lv_at hl 0 rfl) ?_
  by_cases h_1 : x0.toInt = (-3)
  ·
    refine lv_tableIn (pc := 1) (off := 31) (tgt := 32) hx hb dX5_partBy_1 (by rw [h_1]; decide) (by rw [h_1]; decide) (by rw [h_1]; decide +kernel) (by decide) ?_
    refine lv_iload_n (pc := 32) hx hb dX5_partBy_32 rfl (lv_at hl 3 rfl) ?_
    exact hret x3 ((fun _ => 0), (fun _ => (fun _ => 0)), (fun _ => (fun _ => 0)), (fun _ => 0), (fun _ => 0)) dX5_partBy_33 (show ((x3.toInt = x3.toInt ∧ x0.toInt = (-3)) ∨ (x3.toInt = x2.toInt ∧ x0.toInt = (-2)) ∨ (x3.toInt = x1.toInt ∧ x0.toInt = (-1)) ∨ (x3.toInt = x0.toInt ∧ (x0.toInt < (-3) ∨ (-1) < x0.toInt))) from (by first | exact (om_1047 h_1) | ((first | omega | (unfold zBd at *; omega))))) (g_psub (wc := []) hP [] rfl) (hD.sub (ws' := []) [] (by decide) rfl) hS
  by_cases h_2 : x0.toInt = (-2)
  ·
    refine lv_tableIn (pc := 1) (off := 29) (tgt := 30) hx hb dX5_partBy_1 (by rw [h_2]; decide) (by rw [h_2]; decide) (by rw [h_2]; decide +kernel) (by decide) ?_
    refine lv_iload_n (pc := 30) hx hb dX5_partBy_30 rfl (lv_at hl 2 rfl) ?_
    exact hret x2 ((fun _ => 0), (fun _ => (fun _ => 0)), (fun _ => (fun _ => 0)), (fun _ => 0), (fun _ => 0)) dX5_partBy_31 (show ((x2.toInt = x3.toInt ∧ x0.toInt = (-3)) ∨ (x2.toInt = x2.toInt ∧ x0.toInt = (-2)) ∨ (x2.toInt = x1.toInt ∧ x0.toInt = (-1)) ∨ (x2.toInt = x0.toInt ∧ (x0.toInt < (-3) ∨ (-1) < x0.toInt))) from (by first | exact (om_1048 h_2) | ((first | omega | (unfold zBd at *; omega))))) (g_psub (wc := []) hP [] rfl) (hD.sub (ws' := []) [] (by decide) rfl) hS
  by_cases h_3 : x0.toInt = (-1)
  ·
    refine lv_tableIn (pc := 1) (off := 27) (tgt := 28) hx hb dX5_partBy_1 (by rw [h_3]; decide) (by rw [h_3]; decide) (by rw [h_3]; decide +kernel) (by decide) ?_
    refine lv_iload_n (pc := 28) hx hb dX5_partBy_28 rfl (lv_at hl 1 rfl) ?_
    exact hret x1 ((fun _ => 0), (fun _ => (fun _ => 0)), (fun _ => (fun _ => 0)), (fun _ => 0), (fun _ => 0)) dX5_partBy_29 (show ((x1.toInt = x3.toInt ∧ x0.toInt = (-3)) ∨ (x1.toInt = x2.toInt ∧ x0.toInt = (-2)) ∨ (x1.toInt = x1.toInt ∧ x0.toInt = (-1)) ∨ (x1.toInt = x0.toInt ∧ (x0.toInt < (-3) ∨ (-1) < x0.toInt))) from (by first | exact (om_1049 h_3) | ((first | omega | (unfold zBd at *; omega))))) (g_psub (wc := []) hP [] rfl) (hD.sub (ws' := []) [] (by decide) rfl) hS
  refine lv_tableOut (pc := 1) (tgt := 34) hx hb dX5_partBy_1 (by (first | omega | (unfold zBd at *; omega))) (by decide) ?_
  refine lv_iload_n (pc := 34) hx hb dX5_partBy_34 rfl (lv_at hl 0 rfl) ?_
  exact hret x0 ((fun _ => 0), (fun _ => (fun _ => 0)), (fun _ => (fun _ => 0)), (fun _ => 0), (fun _ => 0)) dX5_partBy_35 (show ((x0.toInt = x3.toInt ∧ x0.toInt = (-3)) ∨ (x0.toInt = x2.toInt ∧ x0.toInt = (-2)) ∨ (x0.toInt = x1.toInt ∧ x0.toInt = (-1)) ∨ (x0.toInt = x0.toInt ∧ (x0.toInt < (-3) ∨ (-1) < x0.toInt))) from (by first | exact (om_1050 h_3 h_2 h_1) | ((first | omega | (unfold zBd at *; omega))))) (g_psub (wc := []) hP [] rfl) (hD.sub (ws' := []) [] (by decide) rfl) hS
set_option maxHeartbeats 4000000 in
set_option maxRecDepth 100000 in
theorem k_X5_bounded (l : Launch) (D : va_G) (cB cC cI cJ : ClassId) (sz : Nat) (y0 : Int64) : Met l yX5_bounded (.code yX5_bounded cX5_bounded 2 (some .int) :: lw_gd) ({ frames := 1, cells := 0, slots := 0, locals := 22 }) (gPre D [(cB, .byte), (cC, .char), (cI, .int), (cJ, .long)] [.long y0] [] sz) (va_Qi (fun r u => ((((-2147483648) ≤ r.toInt ∧ r.toInt ≤ 2147483647)))) (gB D (va_A [] sz) (fun u : gEx => [])) (va_A [] sz)) 0 0 (va_A [] sz) := by
  refine gOf_i (by decide +kernel) (Nat.le_of_ble_eq_true rfl) ?_
  intro p e s m args below meth c ls A Q hx hb hts hown hml hN hK hP hD hA hl hret
  replace hown : s.vm.findClass RX5 = some m.cls := hown
  have hS : va_S A s.heap s.heap [] := va_S.rf
  replace hP : va_P D gcl [] s.heap := hP
  replace hl : lv_has ls 2 [(0, .long y0)] := hl
  have ry0 := n_rngL y0
  refine lv_ldc2 (pc := 0) hx hb hown (hts _ tw_1350) dX5_bounded_0 ?_
  refine lv_ldc2 (pc := 3) hx hb hown (hts _ tw_1351) dX5_bounded_3 ?_
  refine lv_lload_n (pc := 6) hx hb dX5_bounded_6 rfl (lv_at hl 0 rfl) ?_
  refine va_mmin_long (pc := 7) hx hb (hml.trans hl.1.symm) hown (hts _ tw_1352) (hts _ tw_857) (hts _ tw_19) (hts _ tw_858) (Nat.le_of_ble_eq_true rfl) (Nat.le_of_ble_eq_true rfl) (Nat.le_of_ble_eq_true rfl) (Nat.le_of_ble_eq_true rfl) dX5_bounded_7 ?_
  refine lv_topl (fun y_1 ey_1 => ?_)
  have ey_1 := n_minL tL_1000000 rfl ey_1
  have ry_1 := n_rngL y_1
  refine va_mmax_long (pc := 10) hx hb (hml.trans hl.1.symm) hown (hts _ tw_1353) (hts _ tw_860) (hts _ tw_19) (hts _ tw_861) (Nat.le_of_ble_eq_true rfl) (Nat.le_of_ble_eq_true rfl) (Nat.le_of_ble_eq_true rfl) (Nat.le_of_ble_eq_true rfl) dX5_bounded_10 ?_
  refine lv_topl (fun y_2 ey_2 => ?_)
  have ey_2 := n_maxL tL_m1000000 rfl ey_2
  have ry_2 := n_rngL y_2
  refine lv_l2i (pc := 13) hx hb dX5_bounded_13 rfl ?_
  refine lv_topi (fun x_3 _ => ?_)
  have rx_3 : zBd x_3.toInt (-2147483648) 2147483647 := n_rng x_3
  exact hret x_3 ((fun _ => 0), (fun _ => (fun _ => 0)), (fun _ => (fun _ => 0)), (fun _ => 0), (fun _ => 0)) dX5_bounded_14 (show ((((-2147483648) ≤ x_3.toInt ∧ x_3.toInt ≤ 2147483647))) from (by first | exact (om_1017 rx_3.1 rx_3.2) | ((first | omega | (unfold zBd at *; omega))))) (g_psub (wc := []) hP [] rfl) (hD.sub (ws' := []) [] (by decide) rfl) hS
theorem om_1051 {a b c d : Int} (h0 : (b = c)) (h1 : (a = d)) (h2 : (c ≤ 2147483647)) (h3 : ((-2147483648) ≤ d)) : (-9223372036854775808 ≤ a - b) := by omega
theorem om_1052 {a b c d : Int} (h0 : (b = c)) (h1 : (a = d)) (h2 : ((-2147483648) ≤ c)) (h3 : (d ≤ 2147483647)) : (a - b ≤ 9223372036854775807) := by omega
theorem om_1053 {a b c d : Int} (h0 : (b = c)) (h1 : (a = d)) (h2 : ((-2147483648) ≤ c)) (h3 : ((-2147483648) ≤ d)) : (-9223372036854775808 ≤ a + b) := by omega
theorem om_1054 {a b c d : Int} (h0 : (b = c)) (h1 : (a = d)) (h2 : (c ≤ 2147483647)) (h3 : (d ≤ 2147483647)) : (a + b ≤ 9223372036854775807) := by omega
set_option maxHeartbeats 4000000 in
set_option maxRecDepth 100000 in
theorem k_X5_joined (l : Launch) (D : va_G) (cB cC cI cJ : ClassId) (sz : Nat) (x0 x1 x2 : Int32) : Met l yX5_joined (.code yX5_joined cX5_joined 3 (some .int) :: lw_gd) ({ frames := 2, cells := 0, slots := 0, locals := 43 }) (gPre D [(cB, .byte), (cC, .char), (cI, .int), (cJ, .long)] [.int x0, .int x1, .int x2] [] sz) (va_Qi (fun r u => True) (gB D (va_A [] sz) (fun u : gEx => [])) (va_A [] sz)) 0 0 (va_A [] sz) := by
  refine gOf_i (by decide +kernel) (Nat.le_of_ble_eq_true rfl) ?_
  intro p e s m args below meth c ls A Q hx hb hts hown hml hN hK hP hD hA hl hret
  replace hown : s.vm.findClass RX5 = some m.cls := hown
  have hS : va_S A s.heap s.heap [] := va_S.rf
  replace hP : va_P D gcl [] s.heap := hP
  replace hl : lv_has ls 3 [(0, .int x0), (1, .int x1), (2, .int x2)] := hl
  have rx0 : zBd x0.toInt (-2147483648) 2147483647 := n_rng x0
  have rx1 : zBd x1.toInt (-2147483648) 2147483647 := n_rng x1
  have rx2 : zBd x2.toInt (-2147483648) 2147483647 := n_rng x2
  refine lv_iload_n (pc := 0) hx hb dX5_joined_0 rfl (lv_at hl 0 rfl) ?_
  by_cases h_1 : x0.toInt = (-15)
  ·
    refine lv_tableIn (pc := 1) (off := 149) (tgt := 150) hx hb dX5_joined_1 (by rw [h_1]; decide) (by rw [h_1]; decide) (by rw [h_1]; decide +kernel) (by decide) ?_
    refine lv_iload_n (pc := 150) hx hb dX5_joined_150 rfl (lv_at hl 1 rfl) ?_
    refine lv_iload_n (pc := 151) hx hb dX5_joined_151 rfl (lv_at hl 2 rfl) ?_
    refine lv_ior (pc := 152) hx hb dX5_joined_152 ?_
    refine lv_topi (fun x_2 _ => ?_)
    have rx_2 : zBd x_2.toInt (-2147483648) 2147483647 := n_rng x_2
    exact hret x_2 ((fun _ => 0), (fun _ => (fun _ => 0)), (fun _ => (fun _ => 0)), (fun _ => 0), (fun _ => 0)) dX5_joined_153 trivial (g_psub (wc := []) hP [] rfl) (hD.sub (ws' := []) [] (by decide) rfl) hS
  by_cases h_3 : x0.toInt = (-14)
  ·
    refine lv_tableIn (pc := 1) (off := 145) (tgt := 146) hx hb dX5_joined_1 (by rw [h_3]; decide) (by rw [h_3]; decide) (by rw [h_3]; decide +kernel) (by decide) ?_
    refine lv_iload_n (pc := 146) hx hb dX5_joined_146 rfl (lv_at hl 1 rfl) ?_
    refine lv_iload_n (pc := 147) hx hb dX5_joined_147 rfl (lv_at hl 2 rfl) ?_
    refine lv_iand (pc := 148) hx hb dX5_joined_148 ?_
    refine lv_topi (fun x_4 _ => ?_)
    have rx_4 : zBd x_4.toInt (-2147483648) 2147483647 := n_rng x_4
    exact hret x_4 ((fun _ => 0), (fun _ => (fun _ => 0)), (fun _ => (fun _ => 0)), (fun _ => 0), (fun _ => 0)) dX5_joined_149 trivial (g_psub (wc := []) hP [] rfl) (hD.sub (ws' := []) [] (by decide) rfl) hS
  by_cases h_5 : x0.toInt = (-13)
  ·
    refine lv_tableIn (pc := 1) (off := 134) (tgt := 135) hx hb dX5_joined_1 (by rw [h_5]; decide) (by rw [h_5]; decide) (by rw [h_5]; decide +kernel) (by decide) ?_
    refine lv_iload_n (pc := 135) hx hb dX5_joined_135 rfl (lv_at hl 1 rfl) ?_
    refine lv_iload_n (pc := 136) hx hb dX5_joined_136 rfl (lv_at hl 2 rfl) ?_
    refine b_icmp_ne (pc := 137) (tgt := 144) hx hb rfl rfl  dX5_joined_137 (by decide) (fun c_6 => ?_) (fun c_6 => ?_)
    ·
      refine lv_iconst (pc := 144) (v := 0) hx hb dX5_joined_144 (by decide) ?_
      exact hret 0 ((fun _ => 0), (fun _ => (fun _ => 0)), (fun _ => (fun _ => 0)), (fun _ => 0), (fun _ => 0)) dX5_joined_145 trivial (g_psub (wc := []) hP [] rfl) (hD.sub (ws' := []) [] (by decide) rfl) hS
    ·
      refine lv_iconst (pc := 140) (v := 1) hx hb dX5_joined_140 (by decide) ?_
      refine lv_goto (pc := 141) (tgt := 145) hx hb dX5_joined_141 (by decide) ?_
      exact hret 1 ((fun _ => 0), (fun _ => (fun _ => 0)), (fun _ => (fun _ => 0)), (fun _ => 0), (fun _ => 0)) dX5_joined_145 trivial (g_psub (wc := []) hP [] rfl) (hD.sub (ws' := []) [] (by decide) rfl) hS
  by_cases h_7 : x0.toInt = (-12)
  ·
    refine lv_tableIn (pc := 1) (off := 123) (tgt := 124) hx hb dX5_joined_1 (by rw [h_7]; decide) (by rw [h_7]; decide) (by rw [h_7]; decide +kernel) (by decide) ?_
    refine lv_iload_n (pc := 124) hx hb dX5_joined_124 rfl (lv_at hl 1 rfl) ?_
    refine lv_iload_n (pc := 125) hx hb dX5_joined_125 rfl (lv_at hl 2 rfl) ?_
    refine b_icmp_le (pc := 126) (tgt := 133) hx hb rfl rfl  dX5_joined_126 (by decide) (fun c_8 => ?_) (fun c_8 => ?_)
    ·
      refine lv_iconst (pc := 133) (v := 0) hx hb dX5_joined_133 (by decide) ?_
      exact hret 0 ((fun _ => 0), (fun _ => (fun _ => 0)), (fun _ => (fun _ => 0)), (fun _ => 0), (fun _ => 0)) dX5_joined_134 trivial (g_psub (wc := []) hP [] rfl) (hD.sub (ws' := []) [] (by decide) rfl) hS
    ·
      refine lv_iconst (pc := 129) (v := 1) hx hb dX5_joined_129 (by decide) ?_
      refine lv_goto (pc := 130) (tgt := 134) hx hb dX5_joined_130 (by decide) ?_
      exact hret 1 ((fun _ => 0), (fun _ => (fun _ => 0)), (fun _ => (fun _ => 0)), (fun _ => 0), (fun _ => 0)) dX5_joined_134 trivial (g_psub (wc := []) hP [] rfl) (hD.sub (ws' := []) [] (by decide) rfl) hS
  by_cases h_9 : x0.toInt = (-11)
  ·
    refine lv_tableIn (pc := 1) (off := 112) (tgt := 113) hx hb dX5_joined_1 (by rw [h_9]; decide) (by rw [h_9]; decide) (by rw [h_9]; decide +kernel) (by decide) ?_
    refine lv_iload_n (pc := 113) hx hb dX5_joined_113 rfl (lv_at hl 1 rfl) ?_
    refine lv_iload_n (pc := 114) hx hb dX5_joined_114 rfl (lv_at hl 2 rfl) ?_
    refine b_icmp_ge (pc := 115) (tgt := 122) hx hb rfl rfl  dX5_joined_115 (by decide) (fun c_10 => ?_) (fun c_10 => ?_)
    ·
      refine lv_iconst (pc := 122) (v := 0) hx hb dX5_joined_122 (by decide) ?_
      exact hret 0 ((fun _ => 0), (fun _ => (fun _ => 0)), (fun _ => (fun _ => 0)), (fun _ => 0), (fun _ => 0)) dX5_joined_123 trivial (g_psub (wc := []) hP [] rfl) (hD.sub (ws' := []) [] (by decide) rfl) hS
    ·
      refine lv_iconst (pc := 118) (v := 1) hx hb dX5_joined_118 (by decide) ?_
      refine lv_goto (pc := 119) (tgt := 123) hx hb dX5_joined_119 (by decide) ?_
      exact hret 1 ((fun _ => 0), (fun _ => (fun _ => 0)), (fun _ => (fun _ => 0)), (fun _ => 0), (fun _ => 0)) dX5_joined_123 trivial (g_psub (wc := []) hP [] rfl) (hD.sub (ws' := []) [] (by decide) rfl) hS
  by_cases h_11 : x0.toInt = (-10)
  ·
    refine lv_tableIn (pc := 1) (off := 106) (tgt := 107) hx hb dX5_joined_1 (by rw [h_11]; decide) (by rw [h_11]; decide) (by rw [h_11]; decide +kernel) (by decide) ?_
    refine lv_iload_n (pc := 107) hx hb dX5_joined_107 rfl (lv_at hl 1 rfl) ?_
    refine lv_iload_n (pc := 108) hx hb dX5_joined_108 rfl (lv_at hl 2 rfl) ?_
    refine va_mmax (pc := 109) hx hb (hml.trans hl.1.symm) hown (hts _ tw_1360) (hts _ tw_885) (hts _ tw_19) (hts _ tw_886) (Nat.le_of_ble_eq_true rfl) (Nat.le_of_ble_eq_true rfl) (Nat.le_of_ble_eq_true rfl) (Nat.le_of_ble_eq_true rfl) dX5_joined_109 ?_
    refine lv_topi (fun x_12 ex_12 => ?_)
    have ex_12 := n_max rfl rfl ex_12
    have rx_12 : zBd x_12.toInt (-2147483648) 2147483647 := n_rng x_12
    exact hret x_12 ((fun _ => 0), (fun _ => (fun _ => 0)), (fun _ => (fun _ => 0)), (fun _ => 0), (fun _ => 0)) dX5_joined_112 trivial (g_psub (wc := []) hP [] rfl) (hD.sub (ws' := []) [] (by decide) rfl) hS
  by_cases h_13 : x0.toInt = (-9)
  ·
    refine lv_tableIn (pc := 1) (off := 100) (tgt := 101) hx hb dX5_joined_1 (by rw [h_13]; decide) (by rw [h_13]; decide) (by rw [h_13]; decide +kernel) (by decide) ?_
    refine lv_iload_n (pc := 101) hx hb dX5_joined_101 rfl (lv_at hl 1 rfl) ?_
    refine lv_iload_n (pc := 102) hx hb dX5_joined_102 rfl (lv_at hl 2 rfl) ?_
    refine va_mmin (pc := 103) hx hb (hml.trans hl.1.symm) hown (hts _ tw_1357) (hts _ tw_1358) (hts _ tw_19) (hts _ tw_1359) (Nat.le_of_ble_eq_true rfl) (Nat.le_of_ble_eq_true rfl) (Nat.le_of_ble_eq_true rfl) (Nat.le_of_ble_eq_true rfl) dX5_joined_103 ?_
    refine lv_topi (fun x_14 ex_14 => ?_)
    have ex_14 := n_min rfl rfl ex_14
    have rx_14 : zBd x_14.toInt (-2147483648) 2147483647 := n_rng x_14
    exact hret x_14 ((fun _ => 0), (fun _ => (fun _ => 0)), (fun _ => (fun _ => 0)), (fun _ => 0), (fun _ => 0)) dX5_joined_106 trivial (g_psub (wc := []) hP [] rfl) (hD.sub (ws' := []) [] (by decide) rfl) hS
  by_cases h_15 : x0.toInt = (-8)
  ·
    refine lv_tableIn (pc := 1) (off := 86) (tgt := 87) hx hb dX5_joined_1 (by rw [h_15]; decide) (by rw [h_15]; decide) (by rw [h_15]; decide +kernel) (by decide) ?_
    refine lv_iload_n (pc := 87) hx hb dX5_joined_87 rfl (lv_at hl 2 rfl) ?_
    refine b_if_ne (pc := 88) (tgt := 95) hx hb rfl  dX5_joined_88 (by decide) (fun c_16 => ?_) (fun c_16 => ?_)
    ·
      refine lv_iload_n (pc := 95) hx hb dX5_joined_95 rfl (lv_at hl 1 rfl) ?_
      refine lv_iload_n (pc := 96) hx hb dX5_joined_96 rfl (lv_at hl 2 rfl) ?_
      refine va_fdi (pc := 97) hx hb (hml.trans hl.1.symm) hown (hts _ tw_1354) (hts _ tw_1355) (hts _ tw_19) (hts _ tw_1356) (Nat.le_of_ble_eq_true rfl) (Nat.le_of_ble_eq_true rfl) (Nat.le_of_ble_eq_true rfl) (Nat.le_of_ble_eq_true rfl) (fun h => by have q := congrArg Int32.toInt h; have k := tI_0; (first | omega | (unfold zBd at *; omega))) dX5_joined_97 (fun x_17 => ?_)
      have rx_17 : zBd x_17.toInt (-2147483648) 2147483647 := n_rng x_17
      exact hret x_17 ((fun _ => 0), (fun _ => (fun _ => 0)), (fun _ => (fun _ => 0)), (fun _ => 0), (fun _ => 0)) dX5_joined_100 trivial (g_psub (wc := []) hP [] rfl) (hD.sub (ws' := []) [] (by decide) rfl) hS
    ·
      refine lv_iconst (pc := 91) (v := 0) hx hb dX5_joined_91 (by decide) ?_
      refine lv_goto (pc := 92) (tgt := 100) hx hb dX5_joined_92 (by decide) ?_
      exact hret 0 ((fun _ => 0), (fun _ => (fun _ => 0)), (fun _ => (fun _ => 0)), (fun _ => 0), (fun _ => 0)) dX5_joined_100 trivial (g_psub (wc := []) hP [] rfl) (hD.sub (ws' := []) [] (by decide) rfl) hS
  by_cases h_18 : x0.toInt = (-7)
  ·
    refine lv_tableIn (pc := 1) (off := 77) (tgt := 78) hx hb dX5_joined_1 (by rw [h_18]; decide) (by rw [h_18]; decide) (by rw [h_18]; decide +kernel) (by decide) ?_
    refine lv_iload_n (pc := 78) hx hb dX5_joined_78 rfl (lv_at hl 1 rfl) ?_
    refine b_i2l (pc := 79) hx hb rfl dX5_joined_79 (fun y_19 ey_19 => ?_)
    have ry_19 : zBd x1.toInt (-2147483648) 2147483647 := n_rng x1
    refine lv_iload_n (pc := 80) hx hb dX5_joined_80 rfl (lv_at hl 2 rfl) ?_
    refine b_i2l (pc := 81) hx hb rfl dX5_joined_81 (fun y_20 ey_20 => ?_)
    have ry_20 : zBd x2.toInt (-2147483648) 2147483647 := n_rng x2
    refine lv_lmul (pc := 82) hx hb dX5_joined_82 ?_
    refine lv_topl (fun y_21 _ => ?_)
    have ry_21 := n_rngL y_21
    refine gd_i (pc := 83) (wc := []) hP hD hS hA [] rfl (by decide +kernel) (fun _ => by rfl) (fun hPc hDc => va_runS (As := [.long y_21]) (rest := []) ⟨hx, hb, hml, hown, hts⟩ (k_X5_bounded l D cB cC cI cJ _ y_21) ⟨gcwB hts tw_1349 tw_6 tw_1347 hd_yX5_bounded ⟨Nat.le_of_ble_eq_true rfl, Nat.le_of_ble_eq_true rfl⟩, hts _ tw_1348⟩ (gpreS hPc hK hDc hN) rfl rfl hl.1 rfl (lv_room (Nat.le_of_ble_eq_true rfl)) dX5_joined_83 ⟨Nat.le_of_ble_eq_true rfl, Nat.le_of_ble_eq_true rfl⟩) (fun r_23 u_22 H locs hw_24 hP hD hS => ?_)
    replace hP : va_P D gcl [] H := hP
    replace hD : va_D A [] := hD
    have hw_25 : ((((-2147483648) ≤ r_23.toInt ∧ r_23.toInt ≤ 2147483647))) := hw_24
    have rr_23 : zBd r_23.toInt (-2147483648) 2147483647 := n_rng r_23
    exact hret r_23 ((fun _ => 0), (fun _ => (fun _ => 0)), (fun _ => (fun _ => 0)), (fun _ => 0), (fun _ => 0)) dX5_joined_86 trivial (g_psub (wc := []) hP [] rfl) (hD.sub (ws' := []) [] (by decide) rfl) hS
  by_cases h_26 : x0.toInt = (-6)
  ·
    refine lv_tableIn (pc := 1) (off := 68) (tgt := 69) hx hb dX5_joined_1 (by rw [h_26]; decide) (by rw [h_26]; decide) (by rw [h_26]; decide +kernel) (by decide) ?_
    refine lv_iload_n (pc := 69) hx hb dX5_joined_69 rfl (lv_at hl 1 rfl) ?_
    refine b_i2l (pc := 70) hx hb rfl dX5_joined_70 (fun y_27 ey_27 => ?_)
    have ry_27 : zBd x1.toInt (-2147483648) 2147483647 := n_rng x1
    refine lv_iload_n (pc := 71) hx hb dX5_joined_71 rfl (lv_at hl 2 rfl) ?_
    refine b_i2l (pc := 72) hx hb rfl dX5_joined_72 (fun y_28 ey_28 => ?_)
    have ry_28 : zBd x2.toInt (-2147483648) 2147483647 := n_rng x2
    refine b_lsub (pc := 73) hx hb rfl rfl (by first | exact (om_1051 ey_28 ey_27 ry_28.2 ry_27.1) | ((first | omega | (unfold zBd at *; omega)))) (by first | exact (om_1052 ey_28 ey_27 ry_28.1 ry_27.2) | ((first | omega | (unfold zBd at *; omega)))) dX5_joined_73 (fun y_29 ey_29 => ?_)
    refine gd_i (pc := 74) (wc := []) hP hD hS hA [] rfl (by decide +kernel) (fun _ => by rfl) (fun hPc hDc => va_runS (As := [.long y_29]) (rest := []) ⟨hx, hb, hml, hown, hts⟩ (k_X5_bounded l D cB cC cI cJ _ y_29) ⟨gcwB hts tw_1349 tw_6 tw_1347 hd_yX5_bounded ⟨Nat.le_of_ble_eq_true rfl, Nat.le_of_ble_eq_true rfl⟩, hts _ tw_1348⟩ (gpreS hPc hK hDc hN) rfl rfl hl.1 rfl (lv_room (Nat.le_of_ble_eq_true rfl)) dX5_joined_74 ⟨Nat.le_of_ble_eq_true rfl, Nat.le_of_ble_eq_true rfl⟩) (fun r_31 u_30 H locs hw_32 hP hD hS => ?_)
    replace hP : va_P D gcl [] H := hP
    replace hD : va_D A [] := hD
    have hw_33 : ((((-2147483648) ≤ r_31.toInt ∧ r_31.toInt ≤ 2147483647))) := hw_32
    have rr_31 : zBd r_31.toInt (-2147483648) 2147483647 := n_rng r_31
    exact hret r_31 ((fun _ => 0), (fun _ => (fun _ => 0)), (fun _ => (fun _ => 0)), (fun _ => 0), (fun _ => 0)) dX5_joined_77 trivial (g_psub (wc := []) hP [] rfl) (hD.sub (ws' := []) [] (by decide) rfl) hS
  by_cases h_34 : x0.toInt = (-5)
  ·
    refine lv_tableIn (pc := 1) (off := 59) (tgt := 60) hx hb dX5_joined_1 (by rw [h_34]; decide) (by rw [h_34]; decide) (by rw [h_34]; decide +kernel) (by decide) ?_
    refine lv_iload_n (pc := 60) hx hb dX5_joined_60 rfl (lv_at hl 1 rfl) ?_
    refine b_i2l (pc := 61) hx hb rfl dX5_joined_61 (fun y_35 ey_35 => ?_)
    have ry_35 : zBd x1.toInt (-2147483648) 2147483647 := n_rng x1
    refine lv_iload_n (pc := 62) hx hb dX5_joined_62 rfl (lv_at hl 2 rfl) ?_
    refine b_i2l (pc := 63) hx hb rfl dX5_joined_63 (fun y_36 ey_36 => ?_)
    have ry_36 : zBd x2.toInt (-2147483648) 2147483647 := n_rng x2
    refine b_ladd (pc := 64) hx hb rfl rfl (by first | exact (om_1053 ey_36 ey_35 ry_36.1 ry_35.1) | ((first | omega | (unfold zBd at *; omega)))) (by first | exact (om_1054 ey_36 ey_35 ry_36.2 ry_35.2) | ((first | omega | (unfold zBd at *; omega)))) dX5_joined_64 (fun y_37 ey_37 => ?_)
    refine gd_i (pc := 65) (wc := []) hP hD hS hA [] rfl (by decide +kernel) (fun _ => by rfl) (fun hPc hDc => va_runS (As := [.long y_37]) (rest := []) ⟨hx, hb, hml, hown, hts⟩ (k_X5_bounded l D cB cC cI cJ _ y_37) ⟨gcwB hts tw_1349 tw_6 tw_1347 hd_yX5_bounded ⟨Nat.le_of_ble_eq_true rfl, Nat.le_of_ble_eq_true rfl⟩, hts _ tw_1348⟩ (gpreS hPc hK hDc hN) rfl rfl hl.1 rfl (lv_room (Nat.le_of_ble_eq_true rfl)) dX5_joined_65 ⟨Nat.le_of_ble_eq_true rfl, Nat.le_of_ble_eq_true rfl⟩) (fun r_39 u_38 H locs hw_40 hP hD hS => ?_)
    replace hP : va_P D gcl [] H := hP
    replace hD : va_D A [] := hD
    have hw_41 : ((((-2147483648) ≤ r_39.toInt ∧ r_39.toInt ≤ 2147483647))) := hw_40
    have rr_39 : zBd r_39.toInt (-2147483648) 2147483647 := n_rng r_39
    exact hret r_39 ((fun _ => 0), (fun _ => (fun _ => 0)), (fun _ => (fun _ => 0)), (fun _ => 0), (fun _ => 0)) dX5_joined_68 trivial (g_psub (wc := []) hP [] rfl) (hD.sub (ws' := []) [] (by decide) rfl) hS
  refine lv_tableOut (pc := 1) (tgt := 154) hx hb dX5_joined_1 (by (first | omega | (unfold zBd at *; omega))) (by decide) ?_
  refine lv_iconst (pc := 154) (v := 0) hx hb dX5_joined_154 (by decide) ?_
  exact hret 0 ((fun _ => 0), (fun _ => (fun _ => 0)), (fun _ => (fun _ => 0)), (fun _ => 0), (fun _ => 0)) dX5_joined_155 trivial (g_psub (wc := []) hP [] rfl) (hD.sub (ws' := []) [] (by decide) rfl) hS
theorem om_1055 {a b : Int} (h0 : ((-2147483648) ≤ a)) (h1 : (a ≤ 2147483647)) (h2 : (0 ≤ b)) (h3 : (b ≤ 1600)) : (((((-2147483648) ≤ a ∧ a ≤ 2147483647) ∧ (0 ≤ b ∧ b ≤ 1600)))) := by omega
theorem om_1056 {a : Int} (h0 : (a > 1)) : (-2147483648 ≤ a + (-1)) := by omega
theorem om_1057 {a : Int} (h0 : (a ≤ 64)) : (a + (-1) ≤ 2147483647) := by omega
theorem om_1058 {a b : Int} (h0 : (a = b + (-1))) (h1 : (b > 1)) : (-2147483648 ≤ a - 1) := by omega
theorem om_1059 {a b : Int} (h0 : (a = b + (-1))) (h1 : (b ≤ 64)) : (a - 1 ≤ 2147483647) := by omega
theorem om_1060 {a b c : Int} (h0 : (a = b - 1)) (h1 : (b = c + (-1))) (h2 : (c > 1)) : (0 ≤ a) := by omega
theorem om_1061 {a b c : Int} (h0 : (a = b - 1)) (h1 : (b = c + (-1))) (h2 : (c ≤ 64)) : (a < (64 : Nat)) := by omega
theorem om_1062 {a b : Int} (h0 : (a = b + (-1))) (h1 : (b > 1)) : (0 ≤ a) := by omega
theorem om_1063 {a b : Int} (h0 : (a = b + (-1))) (h1 : (b ≤ 64)) : (a < (64 : Nat)) := by omega
theorem om_1064 {a b : Int} (h0 : (a = b + (-1))) (h1 : (b > 1)) (h2 : (b ≤ 64)) : ((0 ≤ a ∧ a ≤ 64)) := by omega
theorem om_1065 {a : Int} (h0 : (a ≤ 64)) : (a - 1 ≤ 2147483647) := by omega
theorem om_1066 {a b : Int} (h0 : (a = b - 1)) (h1 : (b ≤ 64)) : (a < (64 : Nat)) := by omega
theorem om_1067 {a : Int} (h0 : (a < 64)) : (a < (64 : Nat)) := by omega
theorem om_1068 {a : Int} (h0 : (a < 64)) : (a + 1 ≤ 2147483647) := by omega
theorem om_1069 {a b : Int} (h0 : (a = b + 1)) (h1 : (0 ≤ b)) (h2 : (b < 64)) : ((0 ≤ a ∧ a ≤ 64)) := by omega
set_option maxHeartbeats 4000000 in
set_option maxRecDepth 100000 in
theorem k_X5_valueOf (l : Launch) (D : va_G) (cB cC cI cJ : ClassId) (sz : Nat) (a0 a1 a2 a3 a4 a5 : Nat) (x0 x1 x2 x3 x4 x5 x6 : Int32) (f0 f1 : Nat → Int32) (hp1 : (0 ≤ x0.toInt ∧ x0.toInt ≤ 1600)) (hp2 : (0 ≤ x1.toInt ∧ x1.toInt ≤ 1600)) (h_x5 : zBd x5.toInt 0 1600) (h_x6 : zBd x6.toInt 0 8) : Met l yX5_valueOf (.code yX5_valueOf cX5_valueOf 9 (some .int) :: lw_gd) ({ frames := 3, cells := 0, slots := 0, locals := 65 }) (gPre D [(cB, .byte), (cC, .char), (cI, .int), (cJ, .long)] [.ref a0, .int x0, .int x1, .int x2, .int x3, .int x4] (zS_105 cB cC cI cJ a0 a1 a2 a3 a4 a5 x5 x6 a5 f0 a1 f1) sz) (va_Qi (fun r u => ((((-2147483648) ≤ r.toInt ∧ r.toInt ≤ 2147483647) ∧ (0 ≤ x1.toInt ∧ x1.toInt ≤ 1600)))) (gB D (va_A (zS_105 cB cC cI cJ a0 a1 a2 a3 a4 a5 x5 x6 a5 f0 a1 f1) sz) (fun u : gEx => (zS_105 cB cC cI cJ a0 a1 a2 a3 a4 a5 x5 x6 a5 (u.2.1 0) a1 f1))) (va_A (zS_105 cB cC cI cJ a0 a1 a2 a3 a4 a5 x5 x6 a5 f0 a1 f1) sz)) 0 0 (va_A (zS_105 cB cC cI cJ a0 a1 a2 a3 a4 a5 x5 x6 a5 f0 a1 f1) sz) := by
  refine gOf_i (by decide +kernel) (Nat.le_of_ble_eq_true rfl) ?_
  intro p e s m args below meth c ls A Q hx hb hts hown hml hN hK hP hD hA hl hret
  replace hown : s.vm.findClass RX5 = some m.cls := hown
  have hS : va_S A s.heap s.heap [] := va_S.rf
  replace hP : va_P D gcl (zS_105 cB cC cI cJ a0 a1 a2 a3 a4 a5 x5 x6 a5 f0 a1 f1) s.heap := hP
  replace hl : lv_has ls 9 [(0, .ref a0), (1, .int x0), (2, .int x1), (3, .int x2), (4, .int x3), (5, .int x4)] := hl
  have rx2 : zBd x2.toInt (-2147483648) 2147483647 := n_rng x2
  have rx3 : zBd x3.toInt (-2147483648) 2147483647 := n_rng x3
  have rx4 : zBd x4.toInt (-2147483648) 2147483647 := n_rng x4
  refine lv_iconst (pc := 0) (v := 0) hx hb dX5_valueOf_0 (by decide) ?_
  refine lv_istore (pc := 1) (lv' := [(6, .int 0), (0, .ref a0), (1, .int x0), (2, .int x1), (3, .int x2), (4, .int x3), (5, .int x4)]) hx hb dX5_valueOf_1 hl (by decide) rfl (fun ls hl => ?_)
  refine lv_iload_n (pc := 3) hx hb dX5_valueOf_3 rfl (lv_at hl 2 rfl) ?_
  refine lv_istore (pc := 4) (lv' := [(7, .int x0), (6, .int 0), (0, .ref a0), (1, .int x0), (2, .int x1), (3, .int x2), (4, .int x3), (5, .int x4)]) hx hb dX5_valueOf_4 hl (by decide) rfl (fun ls hl => ?_)
  have lp_6 : ∀ (n : Nat) (x_1 x_3 : Int32) (f_5 : Nat → Int32) (H : Heap) (locs : List Loc) (ls : Array Slot), (0 ≤ x_1.toInt ∧ x_1.toInt ≤ 2147483647) → (0 ≤ x_3.toInt ∧ x_3.toInt ≤ 64) → (2147483647 - x_1.toInt).toNat < n → va_P D gcl (zS_105 cB cC cI cJ a0 a1 a2 a3 a4 a5 x5 x6 a5 f_5 a1 f1) H → va_D A (zS_105 cB cC cI cJ a0 a1 a2 a3 a4 a5 x5 x6 a5 f_5 a1 f1) → va_S A s.heap H locs → lv_has ls 9 [(7, .int x_1), (6, .int x_3), (0, .ref a0), (1, .int x0), (2, .int x1), (3, .int x2), (4, .int x3), (5, .int x4)] → W p l e ({ frames := 3, cells := 0, slots := 0, locals := 65 }) s m args below meth c H locs 0 0 Q (F0 m 6 ls []) := by
    intro n
    induction n with
    | zero => intro x_1 x_3 f_5 H locs ls hi_2 hi_4 hmu; exact absurd hmu (Nat.not_lt_zero _)
    | succ n ih_lp_6 =>
      intro x_1 x_3 f_5 H locs ls hi_2 hi_4 hmu_lp_6 hP hD hS hl
      refine lv_iload (pc := 6) hx hb dX5_valueOf_6 (lv_at hl 0 rfl) ?_
      refine lv_iload_n (pc := 8) hx hb dX5_valueOf_8 rfl (lv_at hl 4 rfl) ?_
      refine b_icmp_ge (pc := 9) (tgt := 141) hx hb rfl rfl  dX5_valueOf_9 (by decide) (fun c_7 => ?_) (fun c_7 => ?_)
      ·
        refine lv_aload_n (pc := 141) hx hb dX5_valueOf_141 rfl (lv_at hl 2 rfl) ?_
        refine va_get (pc := 142) (ci := 5) (v := .ref a5) (C := RX5) (T := TX5) (N := 7) hx hb hts iX5 hown hK hP 0 rfl rfl 4 (by decide) (hts _ tw_77) (fun _ h9 => h9) rfl dX5_valueOf_142 ?_
        refine lv_iconst (pc := 145) (v := 0) hx hb dX5_valueOf_145 (by decide) ?_
        refine va_iald (pc := 146) hx hb hK hP 1 2 rfl rfl (gin rfl) dX5_valueOf_146 ?_
        refine lv_topi (fun x_8 ex_8 => ?_)
        have rx_8 : zBd x_8.toInt (-2147483648) 2147483647 := n_rng x_8
        exact hret x_8 ((fun _ => 0), (fun k => [f_5].getD k (fun _ => 0)), (fun _ => (fun _ => 0)), (fun _ => 0), (fun _ => 0)) dX5_valueOf_147 (show ((((-2147483648) ≤ x_8.toInt ∧ x_8.toInt ≤ 2147483647) ∧ (0 ≤ x1.toInt ∧ x1.toInt ≤ 1600))) from (by first | exact (om_1055 rx_8.1 rx_8.2 hp2.1 hp2.2) | ((first | omega | (unfold zBd at *; omega))))) (g_psub (wc := (zS_105 cB cC cI cJ a0 a1 a2 a3 a4 a5 x5 x6 a5 f_5 a1 f1)) hP [0, 1, 2] rfl) (hD.sub (ws' := (zS_105 cB cC cI cJ a0 a1 a2 a3 a4 a5 x5 x6 a5 f_5 a1 f1)) [0, 1, 2] (by decide) rfl) hS
      ·
        refine lv_aload_n (pc := 12) hx hb dX5_valueOf_12 rfl (lv_at hl 2 rfl) ?_
        refine va_get (pc := 13) (ci := 5) (v := .ref a1) (C := RX5) (T := TX5) (N := 7) hx hb hts iX5 hown hK hP 0 rfl rfl 0 (by decide) (hts _ tw_73) (fun _ h9 => h9) rfl dX5_valueOf_13 ?_
        refine lv_iload (pc := 16) hx hb dX5_valueOf_16 (lv_at hl 0 rfl) ?_
        refine va_iald (pc := 18) hx hb hK hP 2 2 rfl rfl (n_in rfl (by first | exact (om_0 hi_2.1) | ((first | omega | (unfold zBd at *; omega)))) (by first | exact (om_11 c_7 hp2.2) | ((first | omega | (unfold zBd at *; omega))))) dX5_valueOf_18 ?_
        refine lv_topi (fun x_9 ex_9 => ?_)
        have rx_9 : zBd x_9.toInt (-2147483648) 2147483647 := n_rng x_9
        refine lv_istore (pc := 19) (lv' := [(8, .int x_9), (7, .int x_1), (6, .int x_3), (0, .ref a0), (1, .int x0), (2, .int x1), (3, .int x2), (4, .int x3), (5, .int x4)]) hx hb dX5_valueOf_19 hl (by decide) rfl (fun ls hl => ?_)
        refine lv_iload (pc := 21) hx hb dX5_valueOf_21 (lv_at hl 0 rfl) ?_
        refine lv_bipush (pc := 23) (v := (-4)) hx hb dX5_valueOf_23 (by decide) ?_
        refine b_icmp_le (pc := 25) (tgt := 61) hx hb rfl tI_m4  dX5_valueOf_25 (by decide) (fun c_10 => ?_) (fun c_10 => ?_)
        ·
          refine lv_iload (pc := 61) hx hb dX5_valueOf_61 (lv_at hl 0 rfl) ?_
          refine lv_bipush (pc := 63) (v := (-4)) hx hb dX5_valueOf_63 (by decide) ?_
          refine b_icmp_ne (pc := 65) (tgt := 96) hx hb rfl tI_m4  dX5_valueOf_65 (by decide) (fun c_11 => ?_) (fun c_11 => ?_)
          ·
            refine lv_iload (pc := 96) hx hb dX5_valueOf_96 (lv_at hl 2 rfl) ?_
            refine lv_iconst (pc := 98) (v := 1) hx hb dX5_valueOf_98 (by decide) ?_
            refine b_icmp_le (pc := 99) (tgt := 135) hx hb rfl tI_1  dX5_valueOf_99 (by decide) (fun c_12 => ?_) (fun c_12 => ?_)
            ·
              refine b_iinc (pc := 135) hx hb dX5_valueOf_135 hl (k := 1) rfl rfl tI_1 (by first | exact (om_2 hi_2.1) | ((first | omega | (unfold zBd at *; omega)))) (by first | exact (om_512 c_7 hp2.2) | ((first | omega | (unfold zBd at *; omega)))) (by decide) (fun x_13 ex_13 ls hl => ?_)
              replace hl : lv_has ls 9 [(7, .int x_13), (8, .int x_9), (6, .int x_3), (0, .ref a0), (1, .int x0), (2, .int x1), (3, .int x2), (4, .int x3), (5, .int x4)] := hl
              refine lv_goto (pc := 138) (tgt := 6) hx hb dX5_valueOf_138 (by decide) ?_
              exact ih_lp_6 x_13 x_3 f_5 _ _ ls (by first | exact (om_513 ex_13 hi_2.1 c_7 hp2.2) | ((first | omega | (unfold zBd at *; omega)))) hi_4 (by (first | omega | (unfold zBd at *; omega))) hP hD hS (lv_sub hl [0, 2, 3, 4, 5, 6, 7, 8] rfl)
            ·
              refine b_iinc (pc := 102) hx hb dX5_valueOf_102 hl (k := 2) rfl rfl tI_m1 (by first | exact (om_1056 c_12) | ((first | omega | (unfold zBd at *; omega)))) (by first | exact (om_1057 hi_4.2) | ((first | omega | (unfold zBd at *; omega)))) (by decide) (fun x_14 ex_14 ls hl => ?_)
              replace hl : lv_has ls 9 [(6, .int x_14), (8, .int x_9), (7, .int x_1), (0, .ref a0), (1, .int x0), (2, .int x1), (3, .int x2), (4, .int x3), (5, .int x4)] := hl
              refine lv_aload_n (pc := 105) hx hb dX5_valueOf_105 rfl (lv_at hl 3 rfl) ?_
              refine va_get (pc := 106) (ci := 5) (v := .ref a5) (C := RX5) (T := TX5) (N := 7) hx hb hts iX5 hown hK hP 0 rfl rfl 4 (by decide) (hts _ tw_77) (fun _ h9 => h9) rfl dX5_valueOf_106 ?_
              refine lv_iload (pc := 109) hx hb dX5_valueOf_109 (lv_at hl 0 rfl) ?_
              refine lv_iconst (pc := 111) (v := 1) hx hb dX5_valueOf_111 (by decide) ?_
              refine b_isub (pc := 112) hx hb rfl tI_1 (by first | exact (om_1058 ex_14 c_12) | ((first | omega | (unfold zBd at *; omega)))) (by first | exact (om_1059 ex_14 hi_4.2) | ((first | omega | (unfold zBd at *; omega)))) dX5_valueOf_112 (fun x_15 ex_15 => ?_)
              refine lv_iload (pc := 113) hx hb dX5_valueOf_113 (lv_at hl 1 rfl) ?_
              refine lv_aload_n (pc := 115) hx hb dX5_valueOf_115 rfl (lv_at hl 3 rfl) ?_
              refine va_get (pc := 116) (ci := 5) (v := .ref a5) (C := RX5) (T := TX5) (N := 7) hx hb hts iX5 hown hK hP 0 rfl rfl 4 (by decide) (hts _ tw_77) (fun _ h9 => h9) rfl dX5_valueOf_116 ?_
              refine lv_iload (pc := 119) hx hb dX5_valueOf_119 (lv_at hl 0 rfl) ?_
              refine lv_iconst (pc := 121) (v := 1) hx hb dX5_valueOf_121 (by decide) ?_
              refine b_isub (pc := 122) hx hb rfl tI_1 (by first | exact (om_1058 ex_14 c_12) | ((first | omega | (unfold zBd at *; omega)))) (by first | exact (om_1059 ex_14 hi_4.2) | ((first | omega | (unfold zBd at *; omega)))) dX5_valueOf_122 (fun x_16 ex_16 => ?_)
              refine va_iald (pc := 123) hx hb hK hP 1 2 rfl rfl (n_in rfl (by first | exact (om_1060 ex_16 ex_14 c_12) | ((first | omega | (unfold zBd at *; omega)))) (by first | exact (om_1061 ex_16 ex_14 hi_4.2) | ((first | omega | (unfold zBd at *; omega))))) dX5_valueOf_123 ?_
              refine lv_topi (fun x_17 ex_17 => ?_)
              have rx_17 : zBd x_17.toInt (-2147483648) 2147483647 := n_rng x_17
              refine lv_aload_n (pc := 124) hx hb dX5_valueOf_124 rfl (lv_at hl 3 rfl) ?_
              refine va_get (pc := 125) (ci := 5) (v := .ref a5) (C := RX5) (T := TX5) (N := 7) hx hb hts iX5 hown hK hP 0 rfl rfl 4 (by decide) (hts _ tw_77) (fun _ h9 => h9) rfl dX5_valueOf_125 ?_
              refine lv_iload (pc := 128) hx hb dX5_valueOf_128 (lv_at hl 0 rfl) ?_
              refine va_iald (pc := 130) hx hb hK hP 1 2 rfl rfl (n_in rfl (by first | exact (om_1062 ex_14 c_12) | ((first | omega | (unfold zBd at *; omega)))) (by first | exact (om_1063 ex_14 hi_4.2) | ((first | omega | (unfold zBd at *; omega))))) dX5_valueOf_130 ?_
              refine lv_topi (fun x_18 ex_18 => ?_)
              have rx_18 : zBd x_18.toInt (-2147483648) 2147483647 := n_rng x_18
              refine gd_i (pc := 131) (wc := []) hP hD hS hA [] rfl (by decide +kernel) (fun _ => by rfl) (fun hPc hDc => va_runS (As := [.int x_9, .int x_17, .int x_18]) (rest := [.int x_15, .ref a5]) ⟨hx, hb, hml, hown, hts⟩ (k_X5_joined l D cB cC cI cJ _ x_9 x_17 x_18) ⟨gcwB hts tw_1346 tw_6 tw_1344 hd_yX5_joined ⟨Nat.le_of_ble_eq_true rfl, Nat.le_of_ble_eq_true rfl⟩, hts _ tw_1345⟩ (gpreS hPc hK hDc hN) rfl rfl hl.1 rfl (lv_room (Nat.le_of_ble_eq_true rfl)) dX5_valueOf_131 ⟨Nat.le_of_ble_eq_true rfl, Nat.le_of_ble_eq_true rfl⟩) (fun r_20 u_19 H locs hw_21 hP hD hS => ?_)
              replace hP : va_P D gcl (zS_105 cB cC cI cJ a0 a1 a2 a3 a4 a5 x5 x6 a5 f_5 a1 f1) H := hP
              replace hD : va_D A (zS_105 cB cC cI cJ a0 a1 a2 a3 a4 a5 x5 x6 a5 f_5 a1 f1) := hD
              have rr_20 : zBd r_20.toInt (-2147483648) 2147483647 := n_rng r_20
              refine g_iastore (pc := 134) hx hb hK hP hD hS 1 2 rfl rfl (n_in rfl (by first | exact (om_1060 ex_15 ex_14 c_12) | ((first | omega | (unfold zBd at *; omega)))) (by first | exact (om_1061 ex_15 ex_14 hi_4.2) | ((first | omega | (unfold zBd at *; omega))))) dX5_valueOf_134 (fun f_22 H locs hP hD hS => ?_)
              replace hP : va_P D gcl (zS_105 cB cC cI cJ a0 a1 a2 a3 a4 a5 x5 x6 a5 f_22 a1 f1) H := hP
              replace hD : va_D A (zS_105 cB cC cI cJ a0 a1 a2 a3 a4 a5 x5 x6 a5 f_22 a1 f1) := hD
              refine b_iinc (pc := 135) hx hb dX5_valueOf_135 hl (k := 2) rfl rfl tI_1 (by first | exact (om_2 hi_2.1) | ((first | omega | (unfold zBd at *; omega)))) (by first | exact (om_512 c_7 hp2.2) | ((first | omega | (unfold zBd at *; omega)))) (by decide) (fun x_23 ex_23 ls hl => ?_)
              replace hl : lv_has ls 9 [(7, .int x_23), (6, .int x_14), (8, .int x_9), (0, .ref a0), (1, .int x0), (2, .int x1), (3, .int x2), (4, .int x3), (5, .int x4)] := hl
              refine lv_goto (pc := 138) (tgt := 6) hx hb dX5_valueOf_138 (by decide) ?_
              exact ih_lp_6 x_23 x_14 f_22 _ _ ls (by first | exact (om_513 ex_23 hi_2.1 c_7 hp2.2) | ((first | omega | (unfold zBd at *; omega)))) (by first | exact (om_1064 ex_14 c_12 hi_4.2) | ((first | omega | (unfold zBd at *; omega)))) (by (first | omega | (unfold zBd at *; omega))) hP hD hS (lv_sub hl [0, 1, 3, 4, 5, 6, 7, 8] rfl)
          ·
            refine lv_iload (pc := 68) hx hb dX5_valueOf_68 (lv_at hl 2 rfl) ?_
            refine b_if_le (pc := 70) (tgt := 135) hx hb rfl  dX5_valueOf_70 (by decide) (fun c_24 => ?_) (fun c_24 => ?_)
            ·
              refine b_iinc (pc := 135) hx hb dX5_valueOf_135 hl (k := 1) rfl rfl tI_1 (by first | exact (om_2 hi_2.1) | ((first | omega | (unfold zBd at *; omega)))) (by first | exact (om_512 c_7 hp2.2) | ((first | omega | (unfold zBd at *; omega)))) (by decide) (fun x_25 ex_25 ls hl => ?_)
              replace hl : lv_has ls 9 [(7, .int x_25), (8, .int x_9), (6, .int x_3), (0, .ref a0), (1, .int x0), (2, .int x1), (3, .int x2), (4, .int x3), (5, .int x4)] := hl
              refine lv_goto (pc := 138) (tgt := 6) hx hb dX5_valueOf_138 (by decide) ?_
              exact ih_lp_6 x_25 x_3 f_5 _ _ ls (by first | exact (om_513 ex_25 hi_2.1 c_7 hp2.2) | ((first | omega | (unfold zBd at *; omega)))) hi_4 (by (first | omega | (unfold zBd at *; omega))) hP hD hS (lv_sub hl [0, 2, 3, 4, 5, 6, 7, 8] rfl)
            ·
              refine lv_aload_n (pc := 73) hx hb dX5_valueOf_73 rfl (lv_at hl 3 rfl) ?_
              refine va_get (pc := 74) (ci := 5) (v := .ref a5) (C := RX5) (T := TX5) (N := 7) hx hb hts iX5 hown hK hP 0 rfl rfl 4 (by decide) (hts _ tw_77) (fun _ h9 => h9) rfl dX5_valueOf_74 ?_
              refine lv_iload (pc := 77) hx hb dX5_valueOf_77 (lv_at hl 2 rfl) ?_
              refine lv_iconst (pc := 79) (v := 1) hx hb dX5_valueOf_79 (by decide) ?_
              refine b_isub (pc := 80) hx hb rfl tI_1 (by first | exact (om_693 c_24) | ((first | omega | (unfold zBd at *; omega)))) (by first | exact (om_1065 hi_4.2) | ((first | omega | (unfold zBd at *; omega)))) dX5_valueOf_80 (fun x_26 ex_26 => ?_)
              refine lv_iconst (pc := 81) (v := 1) hx hb dX5_valueOf_81 (by decide) ?_
              refine lv_aload_n (pc := 82) hx hb dX5_valueOf_82 rfl (lv_at hl 3 rfl) ?_
              refine va_get (pc := 83) (ci := 5) (v := .ref a5) (C := RX5) (T := TX5) (N := 7) hx hb hts iX5 hown hK hP 0 rfl rfl 4 (by decide) (hts _ tw_77) (fun _ h9 => h9) rfl dX5_valueOf_83 ?_
              refine lv_iload (pc := 86) hx hb dX5_valueOf_86 (lv_at hl 2 rfl) ?_
              refine lv_iconst (pc := 88) (v := 1) hx hb dX5_valueOf_88 (by decide) ?_
              refine b_isub (pc := 89) hx hb rfl tI_1 (by first | exact (om_693 c_24) | ((first | omega | (unfold zBd at *; omega)))) (by first | exact (om_1065 hi_4.2) | ((first | omega | (unfold zBd at *; omega)))) dX5_valueOf_89 (fun x_27 ex_27 => ?_)
              refine va_iald (pc := 90) hx hb hK hP 1 2 rfl rfl (n_in rfl (by first | exact (om_694 ex_27 c_24) | ((first | omega | (unfold zBd at *; omega)))) (by first | exact (om_1066 ex_27 hi_4.2) | ((first | omega | (unfold zBd at *; omega))))) dX5_valueOf_90 ?_
              refine lv_topi (fun x_28 ex_28 => ?_)
              have rx_28 : zBd x_28.toInt (-2147483648) 2147483647 := n_rng x_28
              refine lv_isub (pc := 91) hx hb dX5_valueOf_91 ?_
              refine lv_topi (fun x_29 _ => ?_)
              have rx_29 : zBd x_29.toInt (-2147483648) 2147483647 := n_rng x_29
              refine g_iastore (pc := 92) hx hb hK hP hD hS 1 2 rfl rfl (n_in rfl (by first | exact (om_694 ex_26 c_24) | ((first | omega | (unfold zBd at *; omega)))) (by first | exact (om_1066 ex_26 hi_4.2) | ((first | omega | (unfold zBd at *; omega))))) dX5_valueOf_92 (fun f_30 H locs hP hD hS => ?_)
              replace hP : va_P D gcl (zS_105 cB cC cI cJ a0 a1 a2 a3 a4 a5 x5 x6 a5 f_30 a1 f1) H := hP
              replace hD : va_D A (zS_105 cB cC cI cJ a0 a1 a2 a3 a4 a5 x5 x6 a5 f_30 a1 f1) := hD
              refine lv_goto (pc := 93) (tgt := 135) hx hb dX5_valueOf_93 (by decide) ?_
              refine b_iinc (pc := 135) hx hb dX5_valueOf_135 hl (k := 1) rfl rfl tI_1 (by first | exact (om_2 hi_2.1) | ((first | omega | (unfold zBd at *; omega)))) (by first | exact (om_512 c_7 hp2.2) | ((first | omega | (unfold zBd at *; omega)))) (by decide) (fun x_31 ex_31 ls hl => ?_)
              replace hl : lv_has ls 9 [(7, .int x_31), (8, .int x_9), (6, .int x_3), (0, .ref a0), (1, .int x0), (2, .int x1), (3, .int x2), (4, .int x3), (5, .int x4)] := hl
              refine lv_goto (pc := 138) (tgt := 6) hx hb dX5_valueOf_138 (by decide) ?_
              exact ih_lp_6 x_31 x_3 f_30 _ _ ls (by first | exact (om_513 ex_31 hi_2.1 c_7 hp2.2) | ((first | omega | (unfold zBd at *; omega)))) hi_4 (by (first | omega | (unfold zBd at *; omega))) hP hD hS (lv_sub hl [0, 2, 3, 4, 5, 6, 7, 8] rfl)
        ·
          refine lv_iload (pc := 28) hx hb dX5_valueOf_28 (lv_at hl 2 rfl) ?_
          refine lv_aload_n (pc := 30) hx hb dX5_valueOf_30 rfl (lv_at hl 3 rfl) ?_
          refine va_get (pc := 31) (ci := 5) (v := .ref a5) (C := RX5) (T := TX5) (N := 7) hx hb hts iX5 hown hK hP 0 rfl rfl 4 (by decide) (hts _ tw_77) (fun _ h9 => h9) rfl dX5_valueOf_31 ?_
          refine va_alen (pc := 34) (v := 64) hx hb hK hP 1 2 rfl rfl rfl dX5_valueOf_34 ?_
          refine b_icmp_ge (pc := 35) (tgt := 135) hx hb rfl tI_64  dX5_valueOf_35 (by decide) (fun c_32 => ?_) (fun c_32 => ?_)
          ·
            refine b_iinc (pc := 135) hx hb dX5_valueOf_135 hl (k := 1) rfl rfl tI_1 (by first | exact (om_2 hi_2.1) | ((first | omega | (unfold zBd at *; omega)))) (by first | exact (om_512 c_7 hp2.2) | ((first | omega | (unfold zBd at *; omega)))) (by decide) (fun x_33 ex_33 ls hl => ?_)
            replace hl : lv_has ls 9 [(7, .int x_33), (8, .int x_9), (6, .int x_3), (0, .ref a0), (1, .int x0), (2, .int x1), (3, .int x2), (4, .int x3), (5, .int x4)] := hl
            refine lv_goto (pc := 138) (tgt := 6) hx hb dX5_valueOf_138 (by decide) ?_
            exact ih_lp_6 x_33 x_3 f_5 _ _ ls (by first | exact (om_513 ex_33 hi_2.1 c_7 hp2.2) | ((first | omega | (unfold zBd at *; omega)))) hi_4 (by (first | omega | (unfold zBd at *; omega))) hP hD hS (lv_sub hl [0, 2, 3, 4, 5, 6, 7, 8] rfl)
          ·
            refine lv_aload_n (pc := 38) hx hb dX5_valueOf_38 rfl (lv_at hl 3 rfl) ?_
            refine va_get (pc := 39) (ci := 5) (v := .ref a5) (C := RX5) (T := TX5) (N := 7) hx hb hts iX5 hown hK hP 0 rfl rfl 4 (by decide) (hts _ tw_77) (fun _ h9 => h9) rfl dX5_valueOf_39 ?_
            refine lv_iload (pc := 42) hx hb dX5_valueOf_42 (lv_at hl 2 rfl) ?_
            refine lv_iload (pc := 44) hx hb dX5_valueOf_44 (lv_at hl 0 rfl) ?_
            refine lv_iload_n (pc := 46) hx hb dX5_valueOf_46 rfl (lv_at hl 6 rfl) ?_
            refine lv_iload (pc := 47) hx hb dX5_valueOf_47 (lv_at hl 7 rfl) ?_
            refine lv_iload (pc := 49) hx hb dX5_valueOf_49 (lv_at hl 8 rfl) ?_
            refine gd_i (pc := 51) (wc := []) hP hD hS hA [] rfl (by decide +kernel) (fun _ => by rfl) (fun hPc hDc => va_runS (As := [.int x_9, .int x2, .int x3, .int x4]) (rest := [.int x_3, .ref a5]) ⟨hx, hb, hml, hown, hts⟩ (k_X5_partBy l D cB cC cI cJ _ x_9 x2 x3 x4) ⟨gcwB hts tw_1343 tw_6 tw_1341 hd_yX5_partBy ⟨Nat.le_of_ble_eq_true rfl, Nat.le_of_ble_eq_true rfl⟩, hts _ tw_1342⟩ (gpreS hPc hK hDc hN) rfl rfl hl.1 rfl (lv_room (Nat.le_of_ble_eq_true rfl)) dX5_valueOf_51 ⟨Nat.le_of_ble_eq_true rfl, Nat.le_of_ble_eq_true rfl⟩) (fun r_35 u_34 H locs hw_36 hP hD hS => ?_)
            replace hP : va_P D gcl (zS_105 cB cC cI cJ a0 a1 a2 a3 a4 a5 x5 x6 a5 f_5 a1 f1) H := hP
            replace hD : va_D A (zS_105 cB cC cI cJ a0 a1 a2 a3 a4 a5 x5 x6 a5 f_5 a1 f1) := hD
            have hw_37 : ((r_35.toInt = x4.toInt ∧ x_9.toInt = (-3)) ∨ (r_35.toInt = x3.toInt ∧ x_9.toInt = (-2)) ∨ (r_35.toInt = x2.toInt ∧ x_9.toInt = (-1)) ∨ (r_35.toInt = x_9.toInt ∧ (x_9.toInt < (-3) ∨ (-1) < x_9.toInt))) := hw_36
            have rr_35 : zBd r_35.toInt (-2147483648) 2147483647 := n_rng r_35
            refine g_iastore (pc := 54) hx hb hK hP hD hS 1 2 rfl rfl (n_in rfl (by first | exact (om_0 hi_4.1) | ((first | omega | (unfold zBd at *; omega)))) (by first | exact (om_1067 c_32) | ((first | omega | (unfold zBd at *; omega))))) dX5_valueOf_54 (fun f_38 H locs hP hD hS => ?_)
            replace hP : va_P D gcl (zS_105 cB cC cI cJ a0 a1 a2 a3 a4 a5 x5 x6 a5 f_38 a1 f1) H := hP
            replace hD : va_D A (zS_105 cB cC cI cJ a0 a1 a2 a3 a4 a5 x5 x6 a5 f_38 a1 f1) := hD
            refine b_iinc (pc := 55) hx hb dX5_valueOf_55 hl (k := 2) rfl rfl tI_1 (by first | exact (om_2 hi_4.1) | ((first | omega | (unfold zBd at *; omega)))) (by first | exact (om_1068 c_32) | ((first | omega | (unfold zBd at *; omega)))) (by decide) (fun x_39 ex_39 ls hl => ?_)
            replace hl : lv_has ls 9 [(6, .int x_39), (8, .int x_9), (7, .int x_1), (0, .ref a0), (1, .int x0), (2, .int x1), (3, .int x2), (4, .int x3), (5, .int x4)] := hl
            refine lv_goto (pc := 58) (tgt := 135) hx hb dX5_valueOf_58 (by decide) ?_
            refine b_iinc (pc := 135) hx hb dX5_valueOf_135 hl (k := 2) rfl rfl tI_1 (by first | exact (om_2 hi_2.1) | ((first | omega | (unfold zBd at *; omega)))) (by first | exact (om_512 c_7 hp2.2) | ((first | omega | (unfold zBd at *; omega)))) (by decide) (fun x_40 ex_40 ls hl => ?_)
            replace hl : lv_has ls 9 [(7, .int x_40), (6, .int x_39), (8, .int x_9), (0, .ref a0), (1, .int x0), (2, .int x1), (3, .int x2), (4, .int x3), (5, .int x4)] := hl
            refine lv_goto (pc := 138) (tgt := 6) hx hb dX5_valueOf_138 (by decide) ?_
            exact ih_lp_6 x_40 x_39 f_38 _ _ ls (by first | exact (om_513 ex_40 hi_2.1 c_7 hp2.2) | ((first | omega | (unfold zBd at *; omega)))) (by first | exact (om_1069 ex_39 hi_4.1 c_32) | ((first | omega | (unfold zBd at *; omega)))) (by (first | omega | (unfold zBd at *; omega))) hP hD hS (lv_sub hl [0, 1, 3, 4, 5, 6, 7, 8] rfl)
  exact lp_6 _ x0 0 f0 _ _ ls (by first | exact (om_440 hp1.1 hp1.2) | (have k0 := tI_0; (first | omega | (unfold zBd at *; omega)))) (n_c tI_0 (by decide)) (Nat.lt_succ_self _) hP hD hS (lv_sub hl [0, 1, 2, 3, 4, 5, 6, 7] rfl)
theorem om_1070 {a b : Int} (h0 : (a = 0)) (h1 : (0 ≤ b)) (h2 : (b ≤ 8)) : (((a = 0 ∧ (0 ≤ b ∧ b ≤ 8)) ∨ (((-2147483648) ≤ a ∧ a ≤ 2147483647) ∧ (1 ≤ b ∧ b ≤ 8)))) := by omega
theorem om_1071 {a b : Int} (h0 : (a < b)) (h1 : (b ≤ 8)) : (a < (8 : Nat)) := by omega
theorem om_1072 {a b : Int} (h0 : (a < b)) (h1 : (b ≤ 8)) : (a + 1 ≤ 2147483647) := by omega
theorem om_1073 {a b c : Int} (h0 : (a = b + 1)) (h1 : (0 ≤ b)) (h2 : (b < c)) (h3 : (c ≤ 8)) : ((0 ≤ a ∧ a ≤ 2147483647)) := by omega
theorem om_1074 {a b c : Int} (h0 : ((-2147483648) ≤ a)) (h1 : (c < b)) (h2 : (0 ≤ c)) (h3 : (b ≤ 8)) (h4 : (a ≤ 2147483647)) (h5 : (0 ≤ b)) : (((a = 0 ∧ (0 ≤ b ∧ b ≤ 8)) ∨ (((-2147483648) ≤ a ∧ a ≤ 2147483647) ∧ (1 ≤ b ∧ b ≤ 8)))) := by omega
set_option maxHeartbeats 4000000 in
set_option maxRecDepth 100000 in
theorem k_X5_worthBy (l : Launch) (D : va_G) (cB cC cI cJ : ClassId) (sz : Nat) (a0 a1 a2 a3 a4 a5 : Nat) (x0 x1 x2 x3 x4 : Int32) (f0 f1 f2 f3 f4 : Nat → Int32) (h_x3 : zBd x3.toInt 0 1600) (h_x4 : zBd x4.toInt 0 8) (hf_f0 : (∀ j, 0 ≤ (f0 j).toInt ∧ (f0 j).toInt ≤ 1600)) (hf_f1 : (∀ j, 0 ≤ (f1 j).toInt ∧ (f1 j).toInt ≤ 1600)) (hf_f4 : (∀ j, 0 ≤ (f4 j).toInt ∧ (f4 j).toInt ≤ 1600)) : Met l yX5_worthBy (.code yX5_worthBy cX5_worthBy 5 (some .int) :: lw_gd) ({ frames := 4, cells := 0, slots := 0, locals := 93 }) (gPre D [(cB, .byte), (cC, .char), (cI, .int), (cJ, .long)] [.ref a0, .int x0, .int x1, .int x2] (zS_131 cB cC cI cJ a0 a1 a2 a3 a4 a5 x3 x4 a3 f0 a4 f1 a5 f2 a1 f3 a2 f4) sz) (va_Qi (fun r u => ((r.toInt = 0 ∧ (0 ≤ x4.toInt ∧ x4.toInt ≤ 8)) ∨ (((-2147483648) ≤ r.toInt ∧ r.toInt ≤ 2147483647) ∧ (1 ≤ x4.toInt ∧ x4.toInt ≤ 8)))) (gB D (va_A (zS_131 cB cC cI cJ a0 a1 a2 a3 a4 a5 x3 x4 a3 f0 a4 f1 a5 f2 a1 f3 a2 f4) sz) (fun u : gEx => (zS_131 cB cC cI cJ a0 a1 a2 a3 a4 a5 x3 x4 a3 f0 a4 f1 a5 (u.2.1 0) a1 f3 a2 f4))) (va_A (zS_131 cB cC cI cJ a0 a1 a2 a3 a4 a5 x3 x4 a3 f0 a4 f1 a5 f2 a1 f3 a2 f4) sz)) 0 0 (va_A (zS_131 cB cC cI cJ a0 a1 a2 a3 a4 a5 x3 x4 a3 f0 a4 f1 a5 f2 a1 f3 a2 f4) sz) := by
  refine gOf_i (by decide +kernel) (Nat.le_of_ble_eq_true rfl) ?_
  intro p e s m args below meth c ls A Q hx hb hts hown hml hN hK hP hD hA hl hret
  replace hown : s.vm.findClass RX5 = some m.cls := hown
  have hS : va_S A s.heap s.heap [] := va_S.rf
  replace hP : va_P D gcl (zS_131 cB cC cI cJ a0 a1 a2 a3 a4 a5 x3 x4 a3 f0 a4 f1 a5 f2 a1 f3 a2 f4) s.heap := hP
  replace hl : lv_has ls 5 [(0, .ref a0), (1, .int x0), (2, .int x1), (3, .int x2)] := hl
  have rx0 : zBd x0.toInt (-2147483648) 2147483647 := n_rng x0
  have rx1 : zBd x1.toInt (-2147483648) 2147483647 := n_rng x1
  have rx2 : zBd x2.toInt (-2147483648) 2147483647 := n_rng x2
  refine lv_iconst (pc := 0) (v := 0) hx hb dX5_worthBy_0 (by decide) ?_
  refine lv_istore (pc := 1) (lv' := [(4, .int 0), (0, .ref a0), (1, .int x0), (2, .int x1), (3, .int x2)]) hx hb dX5_worthBy_1 hl (by decide) rfl (fun ls hl => ?_)
  have lp_4 : ∀ (n : Nat) (x_1 : Int32) (f_3 : Nat → Int32) (H : Heap) (locs : List Loc) (ls : Array Slot), (0 ≤ x_1.toInt ∧ x_1.toInt ≤ 2147483647) → (2147483647 - x_1.toInt).toNat < n → va_P D gcl (zS_131 cB cC cI cJ a0 a1 a2 a3 a4 a5 x3 x4 a3 f0 a4 f1 a5 f_3 a1 f3 a2 f4) H → va_D A (zS_131 cB cC cI cJ a0 a1 a2 a3 a4 a5 x3 x4 a3 f0 a4 f1 a5 f_3 a1 f3 a2 f4) → va_S A s.heap H locs → lv_has ls 5 [(4, .int x_1), (0, .ref a0), (1, .int x0), (2, .int x1), (3, .int x2)] → W p l e ({ frames := 4, cells := 0, slots := 0, locals := 93 }) s m args below meth c H locs 0 0 Q (F0 m 3 ls []) := by
    intro n
    induction n with
    | zero => intro x_1 f_3 H locs ls hi_2 hmu; exact absurd hmu (Nat.not_lt_zero _)
    | succ n ih_lp_4 =>
      intro x_1 f_3 H locs ls hi_2 hmu_lp_4 hP hD hS hl
      refine lv_iload (pc := 3) hx hb dX5_worthBy_3 (lv_at hl 0 rfl) ?_
      refine lv_aload_n (pc := 5) hx hb dX5_worthBy_5 rfl (lv_at hl 1 rfl) ?_
      refine va_get (pc := 6) (ci := 5) (v := .int x4) (C := RX5) (T := TX5) (N := 7) hx hb hts iX5 hown hK hP 0 rfl rfl 6 (by decide) (hts _ tw_79) (fun _ h9 => h9) rfl dX5_worthBy_6 ?_
      have bd_h_x4 : 0 ≤ x4.toInt ∧ x4.toInt ≤ 8 := h_x4
      refine b_icmp_ge (pc := 9) (tgt := 64) hx hb rfl rfl  dX5_worthBy_9 (by decide) (fun c_5 => ?_) (fun c_5 => ?_)
      ·
        refine lv_iconst (pc := 64) (v := 0) hx hb dX5_worthBy_64 (by decide) ?_
        exact hret 0 ((fun _ => 0), (fun k => [f_3].getD k (fun _ => 0)), (fun _ => (fun _ => 0)), (fun _ => 0), (fun _ => 0)) dX5_worthBy_65 (show (((0 : Int32).toInt = 0 ∧ (0 ≤ x4.toInt ∧ x4.toInt ≤ 8)) ∨ (((-2147483648) ≤ (0 : Int32).toInt ∧ (0 : Int32).toInt ≤ 2147483647) ∧ (1 ≤ x4.toInt ∧ x4.toInt ≤ 8))) from (by first | exact (om_1070 tI_0 h_x4.1 h_x4.2) | (have k9 := tI_0; (first | omega | (unfold zBd at *; omega))))) (g_psub (wc := (zS_131 cB cC cI cJ a0 a1 a2 a3 a4 a5 x3 x4 a3 f0 a4 f1 a5 f_3 a1 f3 a2 f4)) hP [0, 1, 2, 3, 4, 5] rfl) (hD.sub (ws' := (zS_131 cB cC cI cJ a0 a1 a2 a3 a4 a5 x3 x4 a3 f0 a4 f1 a5 f_3 a1 f3 a2 f4)) [0, 1, 2, 3, 4, 5] (by decide) rfl) hS
      ·
        refine lv_aload_n (pc := 12) hx hb dX5_worthBy_12 rfl (lv_at hl 1 rfl) ?_
        refine lv_aload_n (pc := 13) hx hb dX5_worthBy_13 rfl (lv_at hl 1 rfl) ?_
        refine va_get (pc := 14) (ci := 5) (v := .ref a3) (C := RX5) (T := TX5) (N := 7) hx hb hts iX5 hown hK hP 0 rfl rfl 2 (by decide) (hts _ tw_75) (fun _ h9 => h9) rfl dX5_worthBy_14 ?_
        refine lv_iload (pc := 17) hx hb dX5_worthBy_17 (lv_at hl 0 rfl) ?_
        refine va_iald (pc := 19) hx hb hK hP 1 2 rfl rfl (n_in rfl (by first | exact (om_0 hi_2.1) | ((first | omega | (unfold zBd at *; omega)))) (by first | exact (om_1071 c_5 h_x4.2) | ((first | omega | (unfold zBd at *; omega))))) dX5_worthBy_19 ?_
        refine lv_topi (fun x_6 ex_6 => ?_)
        have rx_6 : (0 ≤ x_6.toInt ∧ x_6.toInt ≤ 1600) := by rw [ex_6]; exact hf_f0 _
        refine lv_aload_n (pc := 20) hx hb dX5_worthBy_20 rfl (lv_at hl 1 rfl) ?_
        refine va_get (pc := 21) (ci := 5) (v := .ref a4) (C := RX5) (T := TX5) (N := 7) hx hb hts iX5 hown hK hP 0 rfl rfl 3 (by decide) (hts _ tw_76) (fun _ h9 => h9) rfl dX5_worthBy_21 ?_
        refine lv_iload (pc := 24) hx hb dX5_worthBy_24 (lv_at hl 0 rfl) ?_
        refine va_iald (pc := 26) hx hb hK hP 2 2 rfl rfl (n_in rfl (by first | exact (om_0 hi_2.1) | ((first | omega | (unfold zBd at *; omega)))) (by first | exact (om_1071 c_5 h_x4.2) | ((first | omega | (unfold zBd at *; omega))))) dX5_worthBy_26 ?_
        refine lv_topi (fun x_7 ex_7 => ?_)
        have rx_7 : (0 ≤ x_7.toInt ∧ x_7.toInt ≤ 1600) := by rw [ex_7]; exact hf_f1 _
        refine lv_iload_n (pc := 27) hx hb dX5_worthBy_27 rfl (lv_at hl 2 rfl) ?_
        refine lv_iload_n (pc := 28) hx hb dX5_worthBy_28 rfl (lv_at hl 3 rfl) ?_
        refine lv_iload_n (pc := 29) hx hb dX5_worthBy_29 rfl (lv_at hl 4 rfl) ?_
        refine gd_i (pc := 30) (wc := (zS_105 cB cC cI cJ a0 a1 a2 a3 a4 a5 x3 x4 a5 f_3 a1 f3)) hP hD hS hA [0, 3, 4] rfl (by decide +kernel) (fun _ => by rfl) (fun hPc hDc => va_runV (As := [.int x_6, .int x_7, .int x0, .int x1, .int x2]) (rest := []) ⟨hx, hb, hml, hown, hts⟩ (k_X5_valueOf l D cB cC cI cJ _ a0 a1 a2 a3 a4 a5 x_6 x_7 x0 x1 x2 x3 x4 f_3 f3 rx_6 rx_7 h_x3 h_x4) ⟨gcwB hts tw_1340 tw_6 tw_1337 hd_yX5_valueOf ⟨Nat.le_of_ble_eq_true rfl, Nat.le_of_ble_eq_true rfl⟩, hts _ tw_1339, hts _ tp_56⟩ ⟨gblind, va_recv hK hPc (ci := 5) (q0 := 0) rfl rfl, (gpreS hPc hK hDc hN).2⟩ rfl rfl hl.1 rfl (lv_room (Nat.le_of_ble_eq_true rfl)) dX5_worthBy_30 ⟨Nat.le_of_ble_eq_true rfl, Nat.le_of_ble_eq_true rfl⟩) (fun r_9 u_8 H locs hw_10 hP hD hS => ?_)
        replace hP : va_P D gcl (zS_131 cB cC cI cJ a0 a1 a2 a3 a4 a5 x3 x4 a3 f0 a4 f1 a5 (u_8.2.1 0) a1 f3 a2 f4) H := hP
        replace hD : va_D A (zS_131 cB cC cI cJ a0 a1 a2 a3 a4 a5 x3 x4 a3 f0 a4 f1 a5 (u_8.2.1 0) a1 f3 a2 f4) := hD
        have hw_11 : ((((-2147483648) ≤ r_9.toInt ∧ r_9.toInt ≤ 2147483647) ∧ (0 ≤ x_7.toInt ∧ x_7.toInt ≤ 1600))) := hw_10
        have rr_9 : zBd r_9.toInt (-2147483648) 2147483647 := n_rng r_9
        refine b_if_eq (pc := 33) (tgt := 58) hx hb rfl  dX5_worthBy_33 (by decide) (fun c_12 => ?_) (fun c_12 => ?_)
        ·
          refine b_iinc (pc := 58) hx hb dX5_worthBy_58 hl (k := 0) rfl rfl tI_1 (by first | exact (om_2 hi_2.1) | ((first | omega | (unfold zBd at *; omega)))) (by first | exact (om_1072 c_5 h_x4.2) | ((first | omega | (unfold zBd at *; omega)))) (by decide) (fun x_13 ex_13 ls hl => ?_)
          replace hl : lv_has ls 5 [(4, .int x_13), (0, .ref a0), (1, .int x0), (2, .int x1), (3, .int x2)] := hl
          refine lv_goto (pc := 61) (tgt := 3) hx hb dX5_worthBy_61 (by decide) ?_
          exact ih_lp_4 x_13 (u_8.2.1 0) _ _ ls (by first | exact (om_1073 ex_13 hi_2.1 c_5 h_x4.2) | ((first | omega | (unfold zBd at *; omega)))) (by (first | omega | (unfold zBd at *; omega))) hP hD hS (lv_sub hl [0, 1, 2, 3, 4] rfl)
        ·
          refine lv_aload_n (pc := 36) hx hb dX5_worthBy_36 rfl (lv_at hl 1 rfl) ?_
          refine lv_aload_n (pc := 37) hx hb dX5_worthBy_37 rfl (lv_at hl 1 rfl) ?_
          refine va_get (pc := 38) (ci := 5) (v := .ref a2) (C := RX5) (T := TX5) (N := 7) hx hb hts iX5 hown hK hP 0 rfl rfl 1 (by decide) (hts _ tw_74) (fun _ h9 => h9) rfl dX5_worthBy_38 ?_
          refine lv_iload (pc := 41) hx hb dX5_worthBy_41 (lv_at hl 0 rfl) ?_
          refine va_iald (pc := 43) hx hb hK hP 5 2 rfl rfl (n_in rfl (by first | exact (om_0 hi_2.1) | ((first | omega | (unfold zBd at *; omega)))) (by first | exact (om_1071 c_5 h_x4.2) | ((first | omega | (unfold zBd at *; omega))))) dX5_worthBy_43 ?_
          refine lv_topi (fun x_14 ex_14 => ?_)
          have rx_14 : (0 ≤ x_14.toInt ∧ x_14.toInt ≤ 1600) := by rw [ex_14]; exact hf_f4 _
          refine lv_aload_n (pc := 44) hx hb dX5_worthBy_44 rfl (lv_at hl 1 rfl) ?_
          refine va_get (pc := 45) (ci := 5) (v := .ref a3) (C := RX5) (T := TX5) (N := 7) hx hb hts iX5 hown hK hP 0 rfl rfl 2 (by decide) (hts _ tw_75) (fun _ h9 => h9) rfl dX5_worthBy_45 ?_
          refine lv_iload (pc := 48) hx hb dX5_worthBy_48 (lv_at hl 0 rfl) ?_
          refine va_iald (pc := 50) hx hb hK hP 1 2 rfl rfl (n_in rfl (by first | exact (om_0 hi_2.1) | ((first | omega | (unfold zBd at *; omega)))) (by first | exact (om_1071 c_5 h_x4.2) | ((first | omega | (unfold zBd at *; omega))))) dX5_worthBy_50 ?_
          refine gI (y := x_6) ex_6.symm ?_
          refine lv_iload_n (pc := 51) hx hb dX5_worthBy_51 rfl (lv_at hl 2 rfl) ?_
          refine lv_iload_n (pc := 52) hx hb dX5_worthBy_52 rfl (lv_at hl 3 rfl) ?_
          refine lv_iload_n (pc := 53) hx hb dX5_worthBy_53 rfl (lv_at hl 4 rfl) ?_
          refine gd_i (pc := 54) (wc := (zS_105 cB cC cI cJ a0 a1 a2 a3 a4 a5 x3 x4 a5 (u_8.2.1 0) a1 f3)) hP hD hS hA [0, 3, 4] rfl (by decide +kernel) (fun _ => by rfl) (fun hPc hDc => va_runV (As := [.int x_14, .int x_6, .int x0, .int x1, .int x2]) (rest := []) ⟨hx, hb, hml, hown, hts⟩ (k_X5_valueOf l D cB cC cI cJ _ a0 a1 a2 a3 a4 a5 x_14 x_6 x0 x1 x2 x3 x4 (u_8.2.1 0) f3 rx_14 rx_6 h_x3 h_x4) ⟨gcwB hts tw_1340 tw_6 tw_1337 hd_yX5_valueOf ⟨Nat.le_of_ble_eq_true rfl, Nat.le_of_ble_eq_true rfl⟩, hts _ tw_1339, hts _ tp_56⟩ ⟨gblind, va_recv hK hPc (ci := 5) (q0 := 0) rfl rfl, (gpreS hPc hK hDc hN).2⟩ rfl rfl hl.1 rfl (lv_room (Nat.le_of_ble_eq_true rfl)) dX5_worthBy_54 ⟨Nat.le_of_ble_eq_true rfl, Nat.le_of_ble_eq_true rfl⟩) (fun r_16 u_15 H locs hw_17 hP hD hS => ?_)
          replace hP : va_P D gcl (zS_131 cB cC cI cJ a0 a1 a2 a3 a4 a5 x3 x4 a3 f0 a4 f1 a5 (u_15.2.1 0) a1 f3 a2 f4) H := hP
          replace hD : va_D A (zS_131 cB cC cI cJ a0 a1 a2 a3 a4 a5 x3 x4 a3 f0 a4 f1 a5 (u_15.2.1 0) a1 f3 a2 f4) := hD
          have hw_18 : ((((-2147483648) ≤ r_16.toInt ∧ r_16.toInt ≤ 2147483647) ∧ (0 ≤ x_6.toInt ∧ x_6.toInt ≤ 1600))) := hw_17
          have rr_16 : zBd r_16.toInt (-2147483648) 2147483647 := n_rng r_16
          exact hret r_16 ((fun _ => 0), (fun k => [(u_15.2.1 0)].getD k (fun _ => 0)), (fun _ => (fun _ => 0)), (fun _ => 0), (fun _ => 0)) dX5_worthBy_57 (show ((r_16.toInt = 0 ∧ (0 ≤ x4.toInt ∧ x4.toInt ≤ 8)) ∨ (((-2147483648) ≤ r_16.toInt ∧ r_16.toInt ≤ 2147483647) ∧ (1 ≤ x4.toInt ∧ x4.toInt ≤ 8))) from (by first | exact (om_1074 rr_16.1 c_5 hi_2.1 h_x4.2 rr_16.2 h_x4.1) | ((first | omega | (unfold zBd at *; omega))))) (g_psub (wc := (zS_131 cB cC cI cJ a0 a1 a2 a3 a4 a5 x3 x4 a3 f0 a4 f1 a5 (u_15.2.1 0) a1 f3 a2 f4)) hP [0, 1, 2, 3, 4, 5] rfl) (hD.sub (ws' := (zS_131 cB cC cI cJ a0 a1 a2 a3 a4 a5 x3 x4 a3 f0 a4 f1 a5 (u_15.2.1 0) a1 f3 a2 f4)) [0, 1, 2, 3, 4, 5] (by decide) rfl) hS
  exact lp_4 _ 0 f2 _ _ ls (n_c tI_0 (by decide)) (Nat.lt_succ_self _) hP hD hS (lv_sub hl [0, 1, 2, 3, 4] rfl)
theorem om_1075 {a b c : Int} (h0 : (a = 0)) : (((a = 0 ∧ b ≤ -(c)) ∨ (a = 0 ∧ b > -(c) ∧ b ≥ c) ∨ (a = 0 ∧ b > -(c) ∧ b < c) ∨ (a = 1 ∧ b > -(c) ∧ b < c))) := by omega
theorem om_1076 {a b c : Int} (h0 : (a = 0)) (h1 : (b ≥ c)) : (((a = 0 ∧ b ≤ -(c)) ∨ (a = 0 ∧ b > -(c) ∧ b ≥ c) ∨ (a = 0 ∧ b > -(c) ∧ b < c) ∨ (a = 1 ∧ b > -(c) ∧ b < c))) := by omega
theorem om_1077 {a b c d : Int} (h0 : (a = 1)) (h1 : (b > d)) (h2 : (d = -c)) (h3 : (b < c)) : (((a = 0 ∧ b ≤ -(c)) ∨ (a = 0 ∧ b > -(c) ∧ b ≥ c) ∨ (a = 0 ∧ b > -(c) ∧ b < c) ∨ (a = 1 ∧ b > -(c) ∧ b < c))) := by omega
set_option maxHeartbeats 4000000 in
set_option maxRecDepth 100000 in
theorem k_X1_isLetter (l : Launch) (D : va_G) (cB cC cI cJ : ClassId) (sz : Nat) (a0 a1 a2 a3 : Nat) (x0 x1 x2 x3 x4 x5 x6 x7 : Int32) (h_x1 : zBd x1.toInt (-1) 8) (h_x2 : zBd x2.toInt (-1) 5) (h_x3 : zBd x3.toInt (-1) 6) (h_x4 : zBd x4.toInt 0 6) (h_x5 : zBd x5.toInt 0 16) : Met l yX1_isLetter (.code yX1_isLetter cX1_isLetter 2 (some .boolean) :: lw_gd) ({ frames := 0, cells := 0, slots := 0, locals := 0 }) (gPre D [(cB, .byte), (cC, .char), (cI, .int), (cJ, .long)] [.ref a0, .int x0] (zS_5 cB cC cI cJ a0 a1 a2 a3 x1 x2 x3 x4 x5 x6 x7) sz) (va_Qi (fun r u => ((r.toInt = 0 ∧ x0.toInt ≤ -(x1.toInt)) ∨ (r.toInt = 0 ∧ x0.toInt > -(x1.toInt) ∧ x0.toInt ≥ x1.toInt) ∨ (r.toInt = 0 ∧ x0.toInt > -(x1.toInt) ∧ x0.toInt < x1.toInt) ∨ (r.toInt = 1 ∧ x0.toInt > -(x1.toInt) ∧ x0.toInt < x1.toInt))) (gB D (va_A (zS_5 cB cC cI cJ a0 a1 a2 a3 x1 x2 x3 x4 x5 x6 x7) sz) (fun u : gEx => (zS_5 cB cC cI cJ a0 a1 a2 a3 x1 x2 x3 x4 x5 x6 x7))) (va_A (zS_5 cB cC cI cJ a0 a1 a2 a3 x1 x2 x3 x4 x5 x6 x7) sz)) 0 0 (va_A (zS_5 cB cC cI cJ a0 a1 a2 a3 x1 x2 x3 x4 x5 x6 x7) sz) := by
  refine gOf_z (by decide +kernel) (Nat.le_of_ble_eq_true rfl) ?_
  intro p e s m args below meth c ls A Q hx hb hts hown hml hN hK hP hD hA hl hret
  replace hown : s.vm.findClass RX1 = some m.cls := hown
  have hS : va_S A s.heap s.heap [] := va_S.rf
  replace hP : va_P D gcl (zS_5 cB cC cI cJ a0 a1 a2 a3 x1 x2 x3 x4 x5 x6 x7) s.heap := hP
  replace hl : lv_has ls 2 [(0, .ref a0), (1, .int x0)] := hl
  have rx0 : zBd x0.toInt (-2147483648) 2147483647 := n_rng x0
  have rx6 : zBd x6.toInt (-2147483648) 2147483647 := n_rng x6
  have rx7 : zBd x7.toInt (-2147483648) 2147483647 := n_rng x7
  refine lv_iload_n (pc := 0) hx hb dX1_isLetter_0 rfl (lv_at hl 1 rfl) ?_
  refine lv_aload_n (pc := 1) hx hb dX1_isLetter_1 rfl (lv_at hl 0 rfl) ?_
  refine va_get (pc := 2) (ci := 1) (v := .int x1) (C := RX1) (T := TX1) (N := 10) hx hb hts iX1 hown hK hP 0 rfl rfl 3 (by decide) (hts _ tw_110) (fun _ h9 => h9) rfl dX1_isLetter_2 ?_
  have bd_h_x1 : (-1) ≤ x1.toInt ∧ x1.toInt ≤ 8 := h_x1
  refine b_ineg (pc := 5) hx hb rfl (by first | exact (om_315 h_x1.1) | ((first | omega | (unfold zBd at *; omega)))) dX1_isLetter_5 (fun x_1 ex_1 => ?_)
  refine b_icmp_le (pc := 6) (tgt := 33) hx hb rfl rfl  dX1_isLetter_6 (by decide) (fun c_2 => ?_) (fun c_2 => ?_)
  ·
    refine lv_iconst (pc := 33) (v := 0) hx hb dX1_isLetter_33 (by decide) ?_
    exact hret 0 ((fun _ => 0), (fun _ => (fun _ => 0)), (fun _ => (fun _ => 0)), (fun _ => 0), (fun _ => 0)) dX1_isLetter_34 ⟨(Or.inl tI_0), (show (((0 : Int32).toInt = 0 ∧ x0.toInt ≤ -(x1.toInt)) ∨ ((0 : Int32).toInt = 0 ∧ x0.toInt > -(x1.toInt) ∧ x0.toInt ≥ x1.toInt) ∨ ((0 : Int32).toInt = 0 ∧ x0.toInt > -(x1.toInt) ∧ x0.toInt < x1.toInt) ∨ ((0 : Int32).toInt = 1 ∧ x0.toInt > -(x1.toInt) ∧ x0.toInt < x1.toInt)) from (by first | exact (om_1075 tI_0) | (have k9 := tI_0; (first | omega | (unfold zBd at *; omega)))))⟩ (g_psub (wc := (zS_5 cB cC cI cJ a0 a1 a2 a3 x1 x2 x3 x4 x5 x6 x7)) hP [0] rfl) (hD.sub (ws' := (zS_5 cB cC cI cJ a0 a1 a2 a3 x1 x2 x3 x4 x5 x6 x7)) [0] (by decide) rfl) hS
  ·
    refine lv_iload_n (pc := 9) hx hb dX1_isLetter_9 rfl (lv_at hl 1 rfl) ?_
    refine lv_aload_n (pc := 10) hx hb dX1_isLetter_10 rfl (lv_at hl 0 rfl) ?_
    refine va_get (pc := 11) (ci := 1) (v := .int x1) (C := RX1) (T := TX1) (N := 10) hx hb hts iX1 hown hK hP 0 rfl rfl 3 (by decide) (hts _ tw_110) (fun _ h9 => h9) rfl dX1_isLetter_11 ?_
    refine b_icmp_ge (pc := 14) (tgt := 33) hx hb rfl rfl  dX1_isLetter_14 (by decide) (fun c_3 => ?_) (fun c_3 => ?_)
    ·
      refine lv_iconst (pc := 33) (v := 0) hx hb dX1_isLetter_33 (by decide) ?_
      exact hret 0 ((fun _ => 0), (fun _ => (fun _ => 0)), (fun _ => (fun _ => 0)), (fun _ => 0), (fun _ => 0)) dX1_isLetter_34 ⟨(Or.inl tI_0), (show (((0 : Int32).toInt = 0 ∧ x0.toInt ≤ -(x1.toInt)) ∨ ((0 : Int32).toInt = 0 ∧ x0.toInt > -(x1.toInt) ∧ x0.toInt ≥ x1.toInt) ∨ ((0 : Int32).toInt = 0 ∧ x0.toInt > -(x1.toInt) ∧ x0.toInt < x1.toInt) ∨ ((0 : Int32).toInt = 1 ∧ x0.toInt > -(x1.toInt) ∧ x0.toInt < x1.toInt)) from (by first | exact (om_1076 tI_0 c_3) | (have k9 := tI_0; (first | omega | (unfold zBd at *; omega)))))⟩ (g_psub (wc := (zS_5 cB cC cI cJ a0 a1 a2 a3 x1 x2 x3 x4 x5 x6 x7)) hP [0] rfl) (hD.sub (ws' := (zS_5 cB cC cI cJ a0 a1 a2 a3 x1 x2 x3 x4 x5 x6 x7)) [0] (by decide) rfl) hS
    ·
      refine lv_iload_n (pc := 17) hx hb dX1_isLetter_17 rfl (lv_at hl 1 rfl) ?_
      refine lv_aload_n (pc := 18) hx hb dX1_isLetter_18 rfl (lv_at hl 0 rfl) ?_
      refine va_get (pc := 19) (ci := 1) (v := .int x1) (C := RX1) (T := TX1) (N := 10) hx hb hts iX1 hown hK hP 0 rfl rfl 3 (by decide) (hts _ tw_110) (fun _ h9 => h9) rfl dX1_isLetter_19 ?_
      refine b_iadd (pc := 22) hx hb rfl rfl (by first | exact (om_323 c_2 ex_1) | ((first | omega | (unfold zBd at *; omega)))) (by first | exact (om_324 c_3 h_x1.2) | ((first | omega | (unfold zBd at *; omega)))) dX1_isLetter_22 (fun x_4 ex_4 => ?_)
      refine lv_iconst (pc := 23) (v := 1) hx hb dX1_isLetter_23 (by decide) ?_
      refine b_iand (pc := 24) (M := 1) hx hb 1 (by decide +kernel) (by decide) (by decide) dX1_isLetter_24 (fun x_5 ex_5 => ?_)
      have rx_5 : (0 ≤ x_5.toInt ∧ x_5.toInt ≤ 1) := ex_5
      refine lv_iconst (pc := 25) (v := 1) hx hb dX1_isLetter_25 (by decide) ?_
      refine b_icmp_ne (pc := 26) (tgt := 33) hx hb rfl tI_1  dX1_isLetter_26 (by decide) (fun c_6 => ?_) (fun c_6 => ?_)
      ·
        refine lv_iconst (pc := 33) (v := 0) hx hb dX1_isLetter_33 (by decide) ?_
        exact hret 0 ((fun _ => 0), (fun _ => (fun _ => 0)), (fun _ => (fun _ => 0)), (fun _ => 0), (fun _ => 0)) dX1_isLetter_34 ⟨(Or.inl tI_0), (show (((0 : Int32).toInt = 0 ∧ x0.toInt ≤ -(x1.toInt)) ∨ ((0 : Int32).toInt = 0 ∧ x0.toInt > -(x1.toInt) ∧ x0.toInt ≥ x1.toInt) ∨ ((0 : Int32).toInt = 0 ∧ x0.toInt > -(x1.toInt) ∧ x0.toInt < x1.toInt) ∨ ((0 : Int32).toInt = 1 ∧ x0.toInt > -(x1.toInt) ∧ x0.toInt < x1.toInt)) from (by first | exact (om_1075 tI_0) | (have k9 := tI_0; (first | omega | (unfold zBd at *; omega)))))⟩ (g_psub (wc := (zS_5 cB cC cI cJ a0 a1 a2 a3 x1 x2 x3 x4 x5 x6 x7)) hP [0] rfl) (hD.sub (ws' := (zS_5 cB cC cI cJ a0 a1 a2 a3 x1 x2 x3 x4 x5 x6 x7)) [0] (by decide) rfl) hS
      ·
        refine lv_iconst (pc := 29) (v := 1) hx hb dX1_isLetter_29 (by decide) ?_
        refine lv_goto (pc := 30) (tgt := 34) hx hb dX1_isLetter_30 (by decide) ?_
        exact hret 1 ((fun _ => 0), (fun _ => (fun _ => 0)), (fun _ => (fun _ => 0)), (fun _ => 0), (fun _ => 0)) dX1_isLetter_34 ⟨(Or.inr tI_1), (show (((1 : Int32).toInt = 0 ∧ x0.toInt ≤ -(x1.toInt)) ∨ ((1 : Int32).toInt = 0 ∧ x0.toInt > -(x1.toInt) ∧ x0.toInt ≥ x1.toInt) ∨ ((1 : Int32).toInt = 0 ∧ x0.toInt > -(x1.toInt) ∧ x0.toInt < x1.toInt) ∨ ((1 : Int32).toInt = 1 ∧ x0.toInt > -(x1.toInt) ∧ x0.toInt < x1.toInt)) from (by first | exact (om_1077 tI_1 c_2 ex_1 c_3) | (have k9 := tI_1; (first | omega | (unfold zBd at *; omega)))))⟩ (g_psub (wc := (zS_5 cB cC cI cJ a0 a1 a2 a3 x1 x2 x3 x4 x5 x6 x7)) hP [0] rfl) (hD.sub (ws' := (zS_5 cB cC cI cJ a0 a1 a2 a3 x1 x2 x3 x4 x5 x6 x7)) [0] (by decide) rfl) hS
theorem om_1078 {a b c : Int} (h0 : (a = 0)) (h1 : (b < 0)) : (((a = 0 ∧ b < 0) ∨ (a = 0 ∧ b ≥ 0 ∧ b ≥ c) ∨ (a = 1 ∧ b ≥ 0 ∧ b < c))) := by omega
theorem om_1079 {a b c : Int} (h0 : (a = 0)) (h1 : (b ≥ c)) : (((a = 0 ∧ b < 0) ∨ (a = 0 ∧ b ≥ 0 ∧ b ≥ c) ∨ (a = 1 ∧ b ≥ 0 ∧ b < c))) := by omega
theorem om_1080 {a b c : Int} (h0 : (a = 1)) (h1 : (b ≥ 0)) (h2 : (b < c)) : (((a = 0 ∧ b < 0) ∨ (a = 0 ∧ b ≥ 0 ∧ b ≥ c) ∨ (a = 1 ∧ b ≥ 0 ∧ b < c))) := by omega
set_option maxHeartbeats 4000000 in
set_option maxRecDepth 100000 in
theorem k_X1_isReceiver (l : Launch) (D : va_G) (cB cC cI cJ : ClassId) (sz : Nat) (a0 a1 a2 a3 : Nat) (x0 x1 x2 x3 x4 x5 x6 x7 : Int32) (h_x1 : zBd x1.toInt (-1) 8) (h_x2 : zBd x2.toInt (-1) 5) (h_x3 : zBd x3.toInt (-1) 6) (h_x4 : zBd x4.toInt 0 6) (h_x5 : zBd x5.toInt 0 16) : Met l yX1_isReceiver (.code yX1_isReceiver cX1_isReceiver 2 (some .boolean) :: lw_gd) ({ frames := 0, cells := 0, slots := 0, locals := 0 }) (gPre D [(cB, .byte), (cC, .char), (cI, .int), (cJ, .long)] [.ref a0, .int x0] (zS_5 cB cC cI cJ a0 a1 a2 a3 x1 x2 x3 x4 x5 x6 x7) sz) (va_Qi (fun r u => ((r.toInt = 0 ∧ x0.toInt < 0) ∨ (r.toInt = 0 ∧ x0.toInt ≥ 0 ∧ x0.toInt ≥ x3.toInt) ∨ (r.toInt = 1 ∧ x0.toInt ≥ 0 ∧ x0.toInt < x3.toInt))) (gB D (va_A (zS_5 cB cC cI cJ a0 a1 a2 a3 x1 x2 x3 x4 x5 x6 x7) sz) (fun u : gEx => (zS_5 cB cC cI cJ a0 a1 a2 a3 x1 x2 x3 x4 x5 x6 x7))) (va_A (zS_5 cB cC cI cJ a0 a1 a2 a3 x1 x2 x3 x4 x5 x6 x7) sz)) 0 0 (va_A (zS_5 cB cC cI cJ a0 a1 a2 a3 x1 x2 x3 x4 x5 x6 x7) sz) := by
  refine gOf_z (by decide +kernel) (Nat.le_of_ble_eq_true rfl) ?_
  intro p e s m args below meth c ls A Q hx hb hts hown hml hN hK hP hD hA hl hret
  replace hown : s.vm.findClass RX1 = some m.cls := hown
  have hS : va_S A s.heap s.heap [] := va_S.rf
  replace hP : va_P D gcl (zS_5 cB cC cI cJ a0 a1 a2 a3 x1 x2 x3 x4 x5 x6 x7) s.heap := hP
  replace hl : lv_has ls 2 [(0, .ref a0), (1, .int x0)] := hl
  have rx0 : zBd x0.toInt (-2147483648) 2147483647 := n_rng x0
  have rx6 : zBd x6.toInt (-2147483648) 2147483647 := n_rng x6
  have rx7 : zBd x7.toInt (-2147483648) 2147483647 := n_rng x7
  refine lv_iload_n (pc := 0) hx hb dX1_isReceiver_0 rfl (lv_at hl 1 rfl) ?_
  refine b_if_lt (pc := 1) (tgt := 16) hx hb rfl  dX1_isReceiver_1 (by decide) (fun c_1 => ?_) (fun c_1 => ?_)
  ·
    refine lv_iconst (pc := 16) (v := 0) hx hb dX1_isReceiver_16 (by decide) ?_
    exact hret 0 ((fun _ => 0), (fun _ => (fun _ => 0)), (fun _ => (fun _ => 0)), (fun _ => 0), (fun _ => 0)) dX1_isReceiver_17 ⟨(Or.inl tI_0), (show (((0 : Int32).toInt = 0 ∧ x0.toInt < 0) ∨ ((0 : Int32).toInt = 0 ∧ x0.toInt ≥ 0 ∧ x0.toInt ≥ x3.toInt) ∨ ((0 : Int32).toInt = 1 ∧ x0.toInt ≥ 0 ∧ x0.toInt < x3.toInt)) from (by first | exact (om_1078 tI_0 c_1) | (have k9 := tI_0; (first | omega | (unfold zBd at *; omega)))))⟩ (g_psub (wc := (zS_5 cB cC cI cJ a0 a1 a2 a3 x1 x2 x3 x4 x5 x6 x7)) hP [0] rfl) (hD.sub (ws' := (zS_5 cB cC cI cJ a0 a1 a2 a3 x1 x2 x3 x4 x5 x6 x7)) [0] (by decide) rfl) hS
  ·
    refine lv_iload_n (pc := 4) hx hb dX1_isReceiver_4 rfl (lv_at hl 1 rfl) ?_
    refine lv_aload_n (pc := 5) hx hb dX1_isReceiver_5 rfl (lv_at hl 0 rfl) ?_
    refine va_get (pc := 6) (ci := 1) (v := .int x3) (C := RX1) (T := TX1) (N := 10) hx hb hts iX1 hown hK hP 0 rfl rfl 5 (by decide) (hts _ tw_125) (fun _ h9 => h9) rfl dX1_isReceiver_6 ?_
    have bd_h_x3 : (-1) ≤ x3.toInt ∧ x3.toInt ≤ 6 := h_x3
    refine b_icmp_ge (pc := 9) (tgt := 16) hx hb rfl rfl  dX1_isReceiver_9 (by decide) (fun c_2 => ?_) (fun c_2 => ?_)
    ·
      refine lv_iconst (pc := 16) (v := 0) hx hb dX1_isReceiver_16 (by decide) ?_
      exact hret 0 ((fun _ => 0), (fun _ => (fun _ => 0)), (fun _ => (fun _ => 0)), (fun _ => 0), (fun _ => 0)) dX1_isReceiver_17 ⟨(Or.inl tI_0), (show (((0 : Int32).toInt = 0 ∧ x0.toInt < 0) ∨ ((0 : Int32).toInt = 0 ∧ x0.toInt ≥ 0 ∧ x0.toInt ≥ x3.toInt) ∨ ((0 : Int32).toInt = 1 ∧ x0.toInt ≥ 0 ∧ x0.toInt < x3.toInt)) from (by first | exact (om_1079 tI_0 c_2) | (have k9 := tI_0; (first | omega | (unfold zBd at *; omega)))))⟩ (g_psub (wc := (zS_5 cB cC cI cJ a0 a1 a2 a3 x1 x2 x3 x4 x5 x6 x7)) hP [0] rfl) (hD.sub (ws' := (zS_5 cB cC cI cJ a0 a1 a2 a3 x1 x2 x3 x4 x5 x6 x7)) [0] (by decide) rfl) hS
    ·
      refine lv_iconst (pc := 12) (v := 1) hx hb dX1_isReceiver_12 (by decide) ?_
      refine lv_goto (pc := 13) (tgt := 17) hx hb dX1_isReceiver_13 (by decide) ?_
      exact hret 1 ((fun _ => 0), (fun _ => (fun _ => 0)), (fun _ => (fun _ => 0)), (fun _ => 0), (fun _ => 0)) dX1_isReceiver_17 ⟨(Or.inr tI_1), (show (((1 : Int32).toInt = 0 ∧ x0.toInt < 0) ∨ ((1 : Int32).toInt = 0 ∧ x0.toInt ≥ 0 ∧ x0.toInt ≥ x3.toInt) ∨ ((1 : Int32).toInt = 1 ∧ x0.toInt ≥ 0 ∧ x0.toInt < x3.toInt)) from (by first | exact (om_1080 tI_1 c_1 c_2) | (have k9 := tI_1; (first | omega | (unfold zBd at *; omega)))))⟩ (g_psub (wc := (zS_5 cB cC cI cJ a0 a1 a2 a3 x1 x2 x3 x4 x5 x6 x7)) hP [0] rfl) (hD.sub (ws' := (zS_5 cB cC cI cJ a0 a1 a2 a3 x1 x2 x3 x4 x5 x6 x7)) [0] (by decide) rfl) hS
set_option maxHeartbeats 4000000 in
set_option maxRecDepth 100000 in
theorem k_X1_isSender (l : Launch) (D : va_G) (cB cC cI cJ : ClassId) (sz : Nat) (a0 a1 a2 a3 : Nat) (x0 x1 x2 x3 x4 x5 x6 x7 : Int32) (h_x1 : zBd x1.toInt (-1) 8) (h_x2 : zBd x2.toInt (-1) 5) (h_x3 : zBd x3.toInt (-1) 6) (h_x4 : zBd x4.toInt 0 6) (h_x5 : zBd x5.toInt 0 16) : Met l yX1_isSender (.code yX1_isSender cX1_isSender 2 (some .boolean) :: lw_gd) ({ frames := 0, cells := 0, slots := 0, locals := 0 }) (gPre D [(cB, .byte), (cC, .char), (cI, .int), (cJ, .long)] [.ref a0, .int x0] (zS_5 cB cC cI cJ a0 a1 a2 a3 x1 x2 x3 x4 x5 x6 x7) sz) (va_Qi (fun r u => ((r.toInt = 0 ∧ x0.toInt < 0) ∨ (r.toInt = 0 ∧ x0.toInt ≥ 0 ∧ x0.toInt ≥ x2.toInt) ∨ (r.toInt = 1 ∧ x0.toInt ≥ 0 ∧ x0.toInt < x2.toInt))) (gB D (va_A (zS_5 cB cC cI cJ a0 a1 a2 a3 x1 x2 x3 x4 x5 x6 x7) sz) (fun u : gEx => (zS_5 cB cC cI cJ a0 a1 a2 a3 x1 x2 x3 x4 x5 x6 x7))) (va_A (zS_5 cB cC cI cJ a0 a1 a2 a3 x1 x2 x3 x4 x5 x6 x7) sz)) 0 0 (va_A (zS_5 cB cC cI cJ a0 a1 a2 a3 x1 x2 x3 x4 x5 x6 x7) sz) := by
  refine gOf_z (by decide +kernel) (Nat.le_of_ble_eq_true rfl) ?_
  intro p e s m args below meth c ls A Q hx hb hts hown hml hN hK hP hD hA hl hret
  replace hown : s.vm.findClass RX1 = some m.cls := hown
  have hS : va_S A s.heap s.heap [] := va_S.rf
  replace hP : va_P D gcl (zS_5 cB cC cI cJ a0 a1 a2 a3 x1 x2 x3 x4 x5 x6 x7) s.heap := hP
  replace hl : lv_has ls 2 [(0, .ref a0), (1, .int x0)] := hl
  have rx0 : zBd x0.toInt (-2147483648) 2147483647 := n_rng x0
  have rx6 : zBd x6.toInt (-2147483648) 2147483647 := n_rng x6
  have rx7 : zBd x7.toInt (-2147483648) 2147483647 := n_rng x7
  refine lv_iload_n (pc := 0) hx hb dX1_isSender_0 rfl (lv_at hl 1 rfl) ?_
  refine b_if_lt (pc := 1) (tgt := 16) hx hb rfl  dX1_isSender_1 (by decide) (fun c_1 => ?_) (fun c_1 => ?_)
  ·
    refine lv_iconst (pc := 16) (v := 0) hx hb dX1_isSender_16 (by decide) ?_
    exact hret 0 ((fun _ => 0), (fun _ => (fun _ => 0)), (fun _ => (fun _ => 0)), (fun _ => 0), (fun _ => 0)) dX1_isSender_17 ⟨(Or.inl tI_0), (show (((0 : Int32).toInt = 0 ∧ x0.toInt < 0) ∨ ((0 : Int32).toInt = 0 ∧ x0.toInt ≥ 0 ∧ x0.toInt ≥ x2.toInt) ∨ ((0 : Int32).toInt = 1 ∧ x0.toInt ≥ 0 ∧ x0.toInt < x2.toInt)) from (by first | exact (om_1078 tI_0 c_1) | (have k9 := tI_0; (first | omega | (unfold zBd at *; omega)))))⟩ (g_psub (wc := (zS_5 cB cC cI cJ a0 a1 a2 a3 x1 x2 x3 x4 x5 x6 x7)) hP [0] rfl) (hD.sub (ws' := (zS_5 cB cC cI cJ a0 a1 a2 a3 x1 x2 x3 x4 x5 x6 x7)) [0] (by decide) rfl) hS
  ·
    refine lv_iload_n (pc := 4) hx hb dX1_isSender_4 rfl (lv_at hl 1 rfl) ?_
    refine lv_aload_n (pc := 5) hx hb dX1_isSender_5 rfl (lv_at hl 0 rfl) ?_
    refine va_get (pc := 6) (ci := 1) (v := .int x2) (C := RX1) (T := TX1) (N := 10) hx hb hts iX1 hown hK hP 0 rfl rfl 4 (by decide) (hts _ tw_116) (fun _ h9 => h9) rfl dX1_isSender_6 ?_
    have bd_h_x2 : (-1) ≤ x2.toInt ∧ x2.toInt ≤ 5 := h_x2
    refine b_icmp_ge (pc := 9) (tgt := 16) hx hb rfl rfl  dX1_isSender_9 (by decide) (fun c_2 => ?_) (fun c_2 => ?_)
    ·
      refine lv_iconst (pc := 16) (v := 0) hx hb dX1_isSender_16 (by decide) ?_
      exact hret 0 ((fun _ => 0), (fun _ => (fun _ => 0)), (fun _ => (fun _ => 0)), (fun _ => 0), (fun _ => 0)) dX1_isSender_17 ⟨(Or.inl tI_0), (show (((0 : Int32).toInt = 0 ∧ x0.toInt < 0) ∨ ((0 : Int32).toInt = 0 ∧ x0.toInt ≥ 0 ∧ x0.toInt ≥ x2.toInt) ∨ ((0 : Int32).toInt = 1 ∧ x0.toInt ≥ 0 ∧ x0.toInt < x2.toInt)) from (by first | exact (om_1079 tI_0 c_2) | (have k9 := tI_0; (first | omega | (unfold zBd at *; omega)))))⟩ (g_psub (wc := (zS_5 cB cC cI cJ a0 a1 a2 a3 x1 x2 x3 x4 x5 x6 x7)) hP [0] rfl) (hD.sub (ws' := (zS_5 cB cC cI cJ a0 a1 a2 a3 x1 x2 x3 x4 x5 x6 x7)) [0] (by decide) rfl) hS
    ·
      refine lv_iconst (pc := 12) (v := 1) hx hb dX1_isSender_12 (by decide) ?_
      refine lv_goto (pc := 13) (tgt := 17) hx hb dX1_isSender_13 (by decide) ?_
      exact hret 1 ((fun _ => 0), (fun _ => (fun _ => 0)), (fun _ => (fun _ => 0)), (fun _ => 0), (fun _ => 0)) dX1_isSender_17 ⟨(Or.inr tI_1), (show (((1 : Int32).toInt = 0 ∧ x0.toInt < 0) ∨ ((1 : Int32).toInt = 0 ∧ x0.toInt ≥ 0 ∧ x0.toInt ≥ x2.toInt) ∨ ((1 : Int32).toInt = 1 ∧ x0.toInt ≥ 0 ∧ x0.toInt < x2.toInt)) from (by first | exact (om_1080 tI_1 c_1 c_2) | (have k9 := tI_1; (first | omega | (unfold zBd at *; omega)))))⟩ (g_psub (wc := (zS_5 cB cC cI cJ a0 a1 a2 a3 x1 x2 x3 x4 x5 x6 x7)) hP [0] rfl) (hD.sub (ws' := (zS_5 cB cC cI cJ a0 a1 a2 a3 x1 x2 x3 x4 x5 x6 x7)) [0] (by decide) rfl) hS
set_option maxHeartbeats 4000000 in
set_option maxRecDepth 100000 in
theorem k_X8_sentTo_5 (l : Launch) (D : va_G) (cB cC cI cJ : ClassId) (sz : Nat) (a0 a1 a2 : Nat) (x0 x1 : Int32) (f0 f1 : Nat → Int32) (hp1 : (0 ≤ x0.toInt ∧ x0.toInt ≤ 5)) (hp3 : ((-1) ≤ x1.toInt ∧ x1.toInt ≤ 5)) : Met l yX8_sentTo (.code yX8_sentTo cX8_sentTo 6 (some .int) :: lw_gd) ({ frames := 1, cells := 0, slots := 0, locals := 22 }) (gPre D [(cB, .byte), (cC, .char), (cI, .int), (cJ, .long)] [.ref a0, .int x0, .ref a1, .int x1] (zS_74 cB cC cI cJ a0 a2 a2 f0 a1 f1) sz) (va_Qi (fun r u => ((((-2147483648) ≤ r.toInt ∧ r.toInt ≤ 2147483647) ∧ ((-1) ≤ x1.toInt ∧ x1.toInt ≤ 5)))) (gB D (va_A (zS_74 cB cC cI cJ a0 a2 a2 f0 a1 f1) sz) (fun u : gEx => (zS_74 cB cC cI cJ a0 a2 a2 f0 a1 f1))) (va_A (zS_74 cB cC cI cJ a0 a2 a2 f0 a1 f1) sz)) 0 0 (va_A (zS_74 cB cC cI cJ a0 a2 a2 f0 a1 f1) sz) := by
  refine gOf_i (by decide +kernel) (Nat.le_of_ble_eq_true rfl) ?_
  intro p e s m args below meth c ls A Q hx hb hts hown hml hN hK hP hD hA hl hret
  replace hown : s.vm.findClass RX8 = some m.cls := hown
  have hS : va_S A s.heap s.heap [] := va_S.rf
  replace hP : va_P D gcl (zS_74 cB cC cI cJ a0 a2 a2 f0 a1 f1) s.heap := hP
  replace hl : lv_has ls 6 [(0, .ref a0), (1, .int x0), (2, .ref a1), (3, .int x1)] := hl
  refine lv_iconst (pc := 0) (v := 0) hx hb dX8_sentTo_0 (by decide) ?_
  refine lv_istore (pc := 1) (lv' := [(4, .int 0), (0, .ref a0), (1, .int x0), (2, .ref a1), (3, .int x1)]) hx hb dX8_sentTo_1 hl (by decide) rfl (fun ls hl => ?_)
  refine lv_iconst (pc := 3) (v := 0) hx hb dX8_sentTo_3 (by decide) ?_
  refine lv_istore (pc := 4) (lv' := [(5, .int 0), (4, .int 0), (0, .ref a0), (1, .int x0), (2, .ref a1), (3, .int x1)]) hx hb dX8_sentTo_4 hl (by decide) rfl (fun ls hl => ?_)
  have lp_5 : ∀ (n : Nat) (x_1 x_3 : Int32) (H : Heap) (locs : List Loc) (ls : Array Slot), (0 ≤ x_1.toInt ∧ x_1.toInt ≤ 2147483647) → (2147483647 - x_1.toInt).toNat < n → va_P D gcl (zS_74 cB cC cI cJ a0 a2 a2 f0 a1 f1) H → va_D A (zS_74 cB cC cI cJ a0 a2 a2 f0 a1 f1) → va_S A s.heap H locs → lv_has ls 6 [(5, .int x_1), (4, .int x_3), (0, .ref a0), (1, .int x0), (2, .ref a1), (3, .int x1)] → W p l e ({ frames := 1, cells := 0, slots := 0, locals := 22 }) s m args below meth c H locs 0 0 Q (F0 m 6 ls []) := by
    intro n
    induction n with
    | zero => intro x_1 x_3 H locs ls hi_2 hmu; exact absurd hmu (Nat.not_lt_zero _)
    | succ n ih_lp_5 =>
      intro x_1 x_3 H locs ls hi_2 hmu_lp_5 hP hD hS hl
      have hi_4 := n_rng x_3
      refine lv_iload (pc := 6) hx hb dX8_sentTo_6 (lv_at hl 0 rfl) ?_
      refine lv_iload_n (pc := 8) hx hb dX8_sentTo_8 rfl (lv_at hl 5 rfl) ?_
      refine b_icmp_ge (pc := 9) (tgt := 35) hx hb rfl rfl  dX8_sentTo_9 (by decide) (fun c_6 => ?_) (fun c_6 => ?_)
      ·
        refine lv_iload (pc := 35) hx hb dX8_sentTo_35 (lv_at hl 1 rfl) ?_
        exact hret x_3 ((fun _ => 0), (fun _ => (fun _ => 0)), (fun _ => (fun _ => 0)), (fun _ => 0), (fun _ => 0)) dX8_sentTo_37 (show ((((-2147483648) ≤ x_3.toInt ∧ x_3.toInt ≤ 2147483647) ∧ ((-1) ≤ x1.toInt ∧ x1.toInt ≤ 5))) from (by first | exact (om_1019 hi_4.1 hi_4.2 hp3.1 hp3.2) | ((first | omega | (unfold zBd at *; omega))))) (g_psub (wc := (zS_74 cB cC cI cJ a0 a2 a2 f0 a1 f1)) hP [0, 1, 2] rfl) (hD.sub (ws' := (zS_74 cB cC cI cJ a0 a2 a2 f0 a1 f1)) [0, 1, 2] (by decide) rfl) hS
      ·
        refine lv_iload (pc := 12) hx hb dX8_sentTo_12 (lv_at hl 1 rfl) ?_
        refine lv_aload_n (pc := 14) hx hb dX8_sentTo_14 rfl (lv_at hl 2 rfl) ?_
        refine lv_iload_n (pc := 15) hx hb dX8_sentTo_15 rfl (lv_at hl 3 rfl) ?_
        refine lv_iload (pc := 16) hx hb dX8_sentTo_16 (lv_at hl 0 rfl) ?_
        refine gd_i (pc := 18) (wc := [(a0, .inr (8, [.ref a2])), (a2, .inl (cI, 30, .inl f0))]) hP hD hS hA [0, 1] rfl (by decide +kernel) (fun _ => by rfl) (fun hPc hDc => va_runV (As := [.int x0, .int x_1]) (rest := [.int x_3]) ⟨hx, hb, hml, hown, hts⟩ (k_X8_at l D cB cC cI cJ _ a0 a2 x0 x_1 f0 hp1 (by first | exact (om_360 hi_2.1 c_6 hp3.2) | ((first | omega | (unfold zBd at *; omega))))) ⟨gcwB hts tw_791 tw_5 tw_800 hd_yX8_at ⟨Nat.le_of_ble_eq_true rfl, Nat.le_of_ble_eq_true rfl⟩, hts _ tw_789, hts _ tw_790⟩ ⟨gblind, va_recv hK hPc (ci := 8) (q0 := 0) rfl rfl, (gpreS hPc hK hDc hN).2⟩ rfl rfl hl.1 rfl (lv_room (Nat.le_of_ble_eq_true rfl)) dX8_sentTo_18 ⟨Nat.le_of_ble_eq_true rfl, Nat.le_of_ble_eq_true rfl⟩) (fun r_8 u_7 H locs hw_9 hP hD hS => ?_)
        replace hP : va_P D gcl (zS_74 cB cC cI cJ a0 a2 a2 f0 a1 f1) H := hP
        replace hD : va_D A (zS_74 cB cC cI cJ a0 a2 a2 f0 a1 f1) := hD
        have hw_10 : ((((-2147483648) ≤ r_8.toInt ∧ r_8.toInt ≤ 2147483647))) := hw_9
        have rr_8 : zBd r_8.toInt (-2147483648) 2147483647 := n_rng r_8
        refine lv_aload_n (pc := 21) hx hb dX8_sentTo_21 rfl (lv_at hl 4 rfl) ?_
        refine lv_iload (pc := 22) hx hb dX8_sentTo_22 (lv_at hl 0 rfl) ?_
        refine va_iald (pc := 24) hx hb hK hP 2 2 rfl rfl (n_in rfl (by first | exact (om_0 hi_2.1) | ((first | omega | (unfold zBd at *; omega)))) (by first | exact (om_1020 c_6 hp3.2) | ((first | omega | (unfold zBd at *; omega))))) dX8_sentTo_24 ?_
        refine lv_topi (fun x_11 ex_11 => ?_)
        have rx_11 : zBd x_11.toInt (-2147483648) 2147483647 := n_rng x_11
        refine lv_imul (pc := 25) hx hb dX8_sentTo_25 ?_
        refine lv_topi (fun x_12 _ => ?_)
        have rx_12 : zBd x_12.toInt (-2147483648) 2147483647 := n_rng x_12
        refine lv_iadd (pc := 26) hx hb dX8_sentTo_26 ?_
        refine lv_topi (fun x_13 _ => ?_)
        have rx_13 : zBd x_13.toInt (-2147483648) 2147483647 := n_rng x_13
        refine lv_istore (pc := 27) (lv' := [(4, .int x_13), (5, .int x_1), (0, .ref a0), (1, .int x0), (2, .ref a1), (3, .int x1)]) hx hb dX8_sentTo_27 hl (by decide) rfl (fun ls hl => ?_)
        refine b_iinc (pc := 29) hx hb dX8_sentTo_29 hl (k := 1) rfl rfl tI_1 (by first | exact (om_2 hi_2.1) | ((first | omega | (unfold zBd at *; omega)))) (by first | exact (om_338 c_6 hp3.2) | ((first | omega | (unfold zBd at *; omega)))) (by decide) (fun x_14 ex_14 ls hl => ?_)
        replace hl : lv_has ls 6 [(5, .int x_14), (4, .int x_13), (0, .ref a0), (1, .int x0), (2, .ref a1), (3, .int x1)] := hl
        refine lv_goto (pc := 32) (tgt := 6) hx hb dX8_sentTo_32 (by decide) ?_
        exact ih_lp_5 x_14 x_13 _ _ ls (by first | exact (om_339 ex_14 hi_2.1 c_6 hp3.2) | ((first | omega | (unfold zBd at *; omega)))) (by (first | omega | (unfold zBd at *; omega))) hP hD hS (lv_sub hl [0, 1, 2, 3, 4, 5] rfl)
  exact lp_5 _ 0 0 _ _ ls (n_c tI_0 (by decide)) (Nat.lt_succ_self _) hP hD hS (lv_sub hl [0, 1, 2, 3, 4, 5] rfl)
theorem om_1081 {a b : Int} (h0 : ((-9223372036854775808) ≤ a)) (h1 : (a ≤ 9223372036854775807)) (h2 : ((-1) ≤ b)) (h3 : (b ≤ 6)) : (((((-9223372036854775808) ≤ a ∧ a ≤ 9223372036854775807) ∧ ((-1) ≤ b ∧ b ≤ 6)))) := by omega
theorem om_1082 {a b : Int} (h0 : (a < b)) (h1 : (b ≤ 6)) : (a < (6 : Nat)) := by omega
theorem om_1083 {a b : Int} (h0 : (0 ≤ a)) (h1 : (a < b)) (h2 : (b ≤ 6)) : ((0 ≤ a ∧ a ≤ 5)) := by omega
theorem om_1084 {a b : Int} (h0 : (a < b)) (h1 : (b ≤ 6)) : (a + 1 ≤ 2147483647) := by omega
theorem om_1085 {a b c : Int} (h0 : (a = b + 1)) (h1 : (0 ≤ b)) (h2 : (b < c)) (h3 : (c ≤ 6)) : ((0 ≤ a ∧ a ≤ 2147483647)) := by omega
theorem om_1086 {a b : Int} (h0 : ((-2147483648) ≤ a)) (h1 : (a ≤ 2147483647)) (h2 : ((-2147483648) ≤ b)) (h3 : (b ≤ 2147483647)) : (((((-2147483648) ≤ a ∧ a ≤ 2147483647) ∧ ((-2147483648) ≤ b ∧ b ≤ 2147483647)))) := by omega
theorem om_1087 {a b : Int} (h0 : (a < b)) (h1 : (b ≤ 2147483647)) : (a + 1 ≤ 2147483647) := by omega
theorem om_1088 {a b c : Int} (h0 : (a = b + 1)) (h1 : (0 ≤ b)) (h2 : (b < c)) (h3 : (c ≤ 2147483647)) : ((0 ≤ a ∧ a ≤ 2147483647)) := by omega
set_option maxHeartbeats 4000000 in
set_option maxRecDepth 100000 in
theorem k_X1_rowsOf (l : Launch) (D : va_G) (cB cC cI cJ : ClassId) (sz : Nat) (a0 a1 a2 a3 : Nat) (x0 x1 x2 x3 x4 x5 x6 x7 : Int32) (h_x1 : zBd x1.toInt (-1) 8) (h_x2 : zBd x2.toInt (-1) 5) (h_x3 : zBd x3.toInt (-1) 6) (h_x4 : zBd x4.toInt 0 6) (h_x5 : zBd x5.toInt 0 16) : Met l yX1_rowsOf (.code yX1_rowsOf cX1_rowsOf 4 (some .int) :: lw_gd) ({ frames := 0, cells := 0, slots := 0, locals := 0 }) (gPre D [(cB, .byte), (cC, .char), (cI, .int), (cJ, .long)] [.ref a0, .int x0] (zS_5 cB cC cI cJ a0 a1 a2 a3 x1 x2 x3 x4 x5 x6 x7) sz) (va_Qi (fun r u => ((((-2147483648) ≤ r.toInt ∧ r.toInt ≤ 2147483647) ∧ ((-2147483648) ≤ x0.toInt ∧ x0.toInt ≤ 2147483647)))) (gB D (va_A (zS_5 cB cC cI cJ a0 a1 a2 a3 x1 x2 x3 x4 x5 x6 x7) sz) (fun u : gEx => (zS_5 cB cC cI cJ a0 a1 a2 a3 x1 x2 x3 x4 x5 x6 x7))) (va_A (zS_5 cB cC cI cJ a0 a1 a2 a3 x1 x2 x3 x4 x5 x6 x7) sz)) 0 0 (va_A (zS_5 cB cC cI cJ a0 a1 a2 a3 x1 x2 x3 x4 x5 x6 x7) sz) := by
  refine gOf_i (by decide +kernel) (Nat.le_of_ble_eq_true rfl) ?_
  intro p e s m args below meth c ls A Q hx hb hts hown hml hN hK hP hD hA hl hret
  replace hown : s.vm.findClass RX1 = some m.cls := hown
  have hS : va_S A s.heap s.heap [] := va_S.rf
  replace hP : va_P D gcl (zS_5 cB cC cI cJ a0 a1 a2 a3 x1 x2 x3 x4 x5 x6 x7) s.heap := hP
  replace hl : lv_has ls 4 [(0, .ref a0), (1, .int x0)] := hl
  have rx0 : zBd x0.toInt (-2147483648) 2147483647 := n_rng x0
  have rx6 : zBd x6.toInt (-2147483648) 2147483647 := n_rng x6
  have rx7 : zBd x7.toInt (-2147483648) 2147483647 := n_rng x7
  refine lv_iconst (pc := 0) (v := 1) hx hb dX1_rowsOf_0 (by decide) ?_
  refine lv_istore_n (pc := 1) (lv' := [(2, .int 1), (0, .ref a0), (1, .int x0)]) hx hb dX1_rowsOf_1 rfl hl (by decide) rfl (fun ls hl => ?_)
  refine lv_iconst (pc := 2) (v := 0) hx hb dX1_rowsOf_2 (by decide) ?_
  refine lv_istore_n (pc := 3) (lv' := [(3, .int 0), (2, .int 1), (0, .ref a0), (1, .int x0)]) hx hb dX1_rowsOf_3 rfl hl (by decide) rfl (fun ls hl => ?_)
  have lp_5 : ∀ (n : Nat) (x_1 x_3 : Int32) (H : Heap) (locs : List Loc) (ls : Array Slot), (0 ≤ x_1.toInt ∧ x_1.toInt ≤ 2147483647) → (2147483647 - x_1.toInt).toNat < n → va_P D gcl (zS_5 cB cC cI cJ a0 a1 a2 a3 x1 x2 x3 x4 x5 x6 x7) H → va_D A (zS_5 cB cC cI cJ a0 a1 a2 a3 x1 x2 x3 x4 x5 x6 x7) → va_S A s.heap H locs → lv_has ls 4 [(3, .int x_1), (2, .int x_3), (0, .ref a0), (1, .int x0)] → W p l e ({ frames := 0, cells := 0, slots := 0, locals := 0 }) s m args below meth c H locs 0 0 Q (F0 m 4 ls []) := by
    intro n
    induction n with
    | zero => intro x_1 x_3 H locs ls hi_2 hmu; exact absurd hmu (Nat.not_lt_zero _)
    | succ n ih_lp_5 =>
      intro x_1 x_3 H locs ls hi_2 hmu_lp_5 hP hD hS hl
      have hi_4 := n_rng x_3
      refine lv_iload_n (pc := 4) hx hb dX1_rowsOf_4 rfl (lv_at hl 0 rfl) ?_
      refine lv_iload_n (pc := 5) hx hb dX1_rowsOf_5 rfl (lv_at hl 3 rfl) ?_
      refine b_icmp_ge (pc := 6) (tgt := 22) hx hb rfl rfl  dX1_rowsOf_6 (by decide) (fun c_6 => ?_) (fun c_6 => ?_)
      ·
        refine lv_iload_n (pc := 22) hx hb dX1_rowsOf_22 rfl (lv_at hl 1 rfl) ?_
        exact hret x_3 ((fun _ => 0), (fun _ => (fun _ => 0)), (fun _ => (fun _ => 0)), (fun _ => 0), (fun _ => 0)) dX1_rowsOf_23 (show ((((-2147483648) ≤ x_3.toInt ∧ x_3.toInt ≤ 2147483647) ∧ ((-2147483648) ≤ x0.toInt ∧ x0.toInt ≤ 2147483647))) from (by first | exact (om_1086 hi_4.1 hi_4.2 rx0.1 rx0.2) | ((first | omega | (unfold zBd at *; omega))))) (g_psub (wc := (zS_5 cB cC cI cJ a0 a1 a2 a3 x1 x2 x3 x4 x5 x6 x7)) hP [0] rfl) (hD.sub (ws' := (zS_5 cB cC cI cJ a0 a1 a2 a3 x1 x2 x3 x4 x5 x6 x7)) [0] (by decide) rfl) hS
      ·
        refine lv_iload_n (pc := 9) hx hb dX1_rowsOf_9 rfl (lv_at hl 1 rfl) ?_
        refine lv_aload_n (pc := 10) hx hb dX1_rowsOf_10 rfl (lv_at hl 2 rfl) ?_
        refine va_get (pc := 11) (ci := 1) (v := .int x1) (C := RX1) (T := TX1) (N := 10) hx hb hts iX1 hown hK hP 0 rfl rfl 3 (by decide) (hts _ tw_110) (fun _ h9 => h9) rfl dX1_rowsOf_11 ?_
        have bd_h_x1 : (-1) ≤ x1.toInt ∧ x1.toInt ≤ 8 := h_x1
        refine lv_imul (pc := 14) hx hb dX1_rowsOf_14 ?_
        refine lv_topi (fun x_7 _ => ?_)
        have rx_7 : zBd x_7.toInt (-2147483648) 2147483647 := n_rng x_7
        refine lv_istore_n (pc := 15) (lv' := [(2, .int x_7), (3, .int x_1), (0, .ref a0), (1, .int x0)]) hx hb dX1_rowsOf_15 rfl hl (by decide) rfl (fun ls hl => ?_)
        refine b_iinc (pc := 16) hx hb dX1_rowsOf_16 hl (k := 1) rfl rfl tI_1 (by first | exact (om_2 hi_2.1) | ((first | omega | (unfold zBd at *; omega)))) (by first | exact (om_1087 c_6 rx0.2) | ((first | omega | (unfold zBd at *; omega)))) (by decide) (fun x_8 ex_8 ls hl => ?_)
        replace hl : lv_has ls 4 [(3, .int x_8), (2, .int x_7), (0, .ref a0), (1, .int x0)] := hl
        refine lv_goto (pc := 19) (tgt := 4) hx hb dX1_rowsOf_19 (by decide) ?_
        exact ih_lp_5 x_8 x_7 _ _ ls (by first | exact (om_1088 ex_8 hi_2.1 c_6 rx0.2) | ((first | omega | (unfold zBd at *; omega)))) (by (first | omega | (unfold zBd at *; omega))) hP hD hS (lv_sub hl [0, 1, 2, 3] rfl)
  exact lp_5 _ 0 1 _ _ ls (n_c tI_0 (by decide)) (Nat.lt_succ_self _) hP hD hS (lv_sub hl [0, 1, 2, 3] rfl)
theorem om_1089 {a : Int} (h0 : ((-1) ≤ a)) : (-2147483648 ≤ a - 1) := by omega
theorem om_1090 {a b c : Int} (h0 : (a = c - 1)) (h1 : (b ≤ 4)) (h2 : ((-1) ≤ c)) : (-2147483648 ≤ a - b) := by omega
theorem om_1091 {a b c : Int} (h0 : (a = c - 1)) (h1 : (0 ≤ b)) (h2 : (c ≤ 5)) : (a - b ≤ 2147483647) := by omega
theorem om_1092 {a b : Int} (h0 : (a = 0)) : (((a = 0) ∨ (((-2147483648) ≤ a ∧ a ≤ 2147483647) ∧ ¬ b = 0) ∨ (a = 0 ∧ b = 0))) := by omega
theorem om_1093 {a b : Int} (h0 : ((-2147483648) ≤ a)) (h1 : (¬ b = 0)) (h2 : (a ≤ 2147483647)) : (((a = 0) ∨ (((-2147483648) ≤ a ∧ a ≤ 2147483647) ∧ ¬ b = 0) ∨ (a = 0 ∧ b = 0))) := by omega
set_option maxHeartbeats 4000000 in
set_option maxRecDepth 100000 in
theorem k_X1_digitInRow (l : Launch) (D : va_G) (cB cC cI cJ : ClassId) (sz : Nat) (a0 a1 a2 a3 : Nat) (x0 x1 x2 x3 x4 x5 x6 x7 x8 : Int32) (hp2 : (0 ≤ x1.toInt ∧ x1.toInt ≤ 4)) (h_x2 : zBd x2.toInt (-1) 8) (h_x3 : zBd x3.toInt (-1) 5) (h_x4 : zBd x4.toInt (-1) 6) (h_x5 : zBd x5.toInt 0 6) (h_x6 : zBd x6.toInt 0 16) : Met l yX1_digitInRow (.code yX1_digitInRow cX1_digitInRow 4 (some .int) :: lw_gd) ({ frames := 1, cells := 0, slots := 0, locals := 23 }) (gPre D [(cB, .byte), (cC, .char), (cI, .int), (cJ, .long)] [.ref a0, .int x0, .int x1] (zS_5 cB cC cI cJ a0 a1 a2 a3 x2 x3 x4 x5 x6 x7 x8) sz) (va_Qi (fun r u => ((r.toInt = 0) ∨ (((-2147483648) ≤ r.toInt ∧ r.toInt ≤ 2147483647) ∧ ¬ x2.toInt = 0) ∨ (r.toInt = 0 ∧ x2.toInt = 0))) (gB D (va_A (zS_5 cB cC cI cJ a0 a1 a2 a3 x2 x3 x4 x5 x6 x7 x8) sz) (fun u : gEx => (zS_5 cB cC cI cJ a0 a1 a2 a3 x2 x3 x4 x5 x6 x7 x8))) (va_A (zS_5 cB cC cI cJ a0 a1 a2 a3 x2 x3 x4 x5 x6 x7 x8) sz)) 0 0 (va_A (zS_5 cB cC cI cJ a0 a1 a2 a3 x2 x3 x4 x5 x6 x7 x8) sz) := by
  refine gOf_i (by decide +kernel) (Nat.le_of_ble_eq_true rfl) ?_
  intro p e s m args below meth c ls A Q hx hb hts hown hml hN hK hP hD hA hl hret
  replace hown : s.vm.findClass RX1 = some m.cls := hown
  have hS : va_S A s.heap s.heap [] := va_S.rf
  replace hP : va_P D gcl (zS_5 cB cC cI cJ a0 a1 a2 a3 x2 x3 x4 x5 x6 x7 x8) s.heap := hP
  replace hl : lv_has ls 4 [(0, .ref a0), (1, .int x0), (2, .int x1)] := hl
  have rx0 : zBd x0.toInt (-2147483648) 2147483647 := n_rng x0
  have rx7 : zBd x7.toInt (-2147483648) 2147483647 := n_rng x7
  have rx8 : zBd x8.toInt (-2147483648) 2147483647 := n_rng x8
  refine lv_aload_n (pc := 0) hx hb dX1_digitInRow_0 rfl (lv_at hl 0 rfl) ?_
  refine lv_aload_n (pc := 1) hx hb dX1_digitInRow_1 rfl (lv_at hl 0 rfl) ?_
  refine va_get (pc := 2) (ci := 1) (v := .int x3) (C := RX1) (T := TX1) (N := 10) hx hb hts iX1 hown hK hP 0 rfl rfl 4 (by decide) (hts _ tw_116) (fun _ h9 => h9) rfl dX1_digitInRow_2 ?_
  have bd_h_x3 : (-1) ≤ x3.toInt ∧ x3.toInt ≤ 5 := h_x3
  refine lv_iconst (pc := 5) (v := 1) hx hb dX1_digitInRow_5 (by decide) ?_
  refine b_isub (pc := 6) hx hb rfl tI_1 (by first | exact (om_1089 h_x3.1) | ((first | omega | (unfold zBd at *; omega)))) (by first | exact (om_207 h_x3.2) | ((first | omega | (unfold zBd at *; omega)))) dX1_digitInRow_6 (fun x_1 ex_1 => ?_)
  refine lv_iload_n (pc := 7) hx hb dX1_digitInRow_7 rfl (lv_at hl 2 rfl) ?_
  refine b_isub (pc := 8) hx hb rfl rfl (by first | exact (om_1090 ex_1 hp2.2 h_x3.1) | ((first | omega | (unfold zBd at *; omega)))) (by first | exact (om_1091 ex_1 hp2.1 h_x3.2) | ((first | omega | (unfold zBd at *; omega)))) dX1_digitInRow_8 (fun x_2 ex_2 => ?_)
  refine gd_i (pc := 9) (wc := (zS_5 cB cC cI cJ a0 a1 a2 a3 x2 x3 x4 x5 x6 x7 x8)) hP hD hS hA [0] rfl (by decide +kernel) (fun _ => by rfl) (fun hPc hDc => va_runV (As := [.int x_2]) (rest := []) ⟨hx, hb, hml, hown, hts⟩ (k_X1_rowsOf l D cB cC cI cJ _ a0 a1 a2 a3 x_2 x2 x3 x4 x5 x6 x7 x8 h_x2 h_x3 h_x4 h_x5 h_x6) ⟨gcwB hts tw_948 tw_4 tw_945 hd_yX1_rowsOf ⟨Nat.le_of_ble_eq_true rfl, Nat.le_of_ble_eq_true rfl⟩, hts _ tw_946, hts _ tw_947⟩ ⟨gblind, va_recv hK hPc (ci := 1) (q0 := 0) rfl rfl, (gpreS hPc hK hDc hN).2⟩ rfl rfl hl.1 rfl (lv_room (Nat.le_of_ble_eq_true rfl)) dX1_digitInRow_9 ⟨Nat.le_of_ble_eq_true rfl, Nat.le_of_ble_eq_true rfl⟩) (fun r_4 u_3 H locs hw_5 hP hD hS => ?_)
  replace hP : va_P D gcl (zS_5 cB cC cI cJ a0 a1 a2 a3 x2 x3 x4 x5 x6 x7 x8) H := hP
  replace hD : va_D A (zS_5 cB cC cI cJ a0 a1 a2 a3 x2 x3 x4 x5 x6 x7 x8) := hD
  have hw_6 : ((((-2147483648) ≤ r_4.toInt ∧ r_4.toInt ≤ 2147483647) ∧ ((-2147483648) ≤ x_2.toInt ∧ x_2.toInt ≤ 2147483647))) := hw_5
  have rr_4 : zBd r_4.toInt (-2147483648) 2147483647 := n_rng r_4
  refine lv_istore_n (pc := 12) (lv' := [(3, .int r_4), (0, .ref a0), (1, .int x0), (2, .int x1)]) hx hb dX1_digitInRow_12 rfl hl (by decide) rfl (fun ls hl => ?_)
  refine lv_iload_n (pc := 13) hx hb dX1_digitInRow_13 rfl (lv_at hl 0 rfl) ?_
  refine b_if_eq (pc := 14) (tgt := 24) hx hb rfl  dX1_digitInRow_14 (by decide) (fun c_7 => ?_) (fun c_7 => ?_)
  ·
    refine lv_iconst (pc := 24) (v := 0) hx hb dX1_digitInRow_24 (by decide) ?_
    refine lv_goto (pc := 25) (tgt := 36) hx hb dX1_digitInRow_25 (by decide) ?_
    exact hret 0 ((fun _ => 0), (fun _ => (fun _ => 0)), (fun _ => (fun _ => 0)), (fun _ => 0), (fun _ => 0)) dX1_digitInRow_36 (show (((0 : Int32).toInt = 0) ∨ (((-2147483648) ≤ (0 : Int32).toInt ∧ (0 : Int32).toInt ≤ 2147483647) ∧ ¬ x2.toInt = 0) ∨ ((0 : Int32).toInt = 0 ∧ x2.toInt = 0)) from (by first | exact (om_1092 tI_0) | (have k9 := tI_0; (first | omega | (unfold zBd at *; omega))))) (g_psub (wc := (zS_5 cB cC cI cJ a0 a1 a2 a3 x2 x3 x4 x5 x6 x7 x8)) hP [0] rfl) (hD.sub (ws' := (zS_5 cB cC cI cJ a0 a1 a2 a3 x2 x3 x4 x5 x6 x7 x8)) [0] (by decide) rfl) hS
  ·
    refine lv_aload_n (pc := 17) hx hb dX1_digitInRow_17 rfl (lv_at hl 1 rfl) ?_
    refine va_get (pc := 18) (ci := 1) (v := .int x2) (C := RX1) (T := TX1) (N := 10) hx hb hts iX1 hown hK hP 0 rfl rfl 3 (by decide) (hts _ tw_110) (fun _ h9 => h9) rfl dX1_digitInRow_18 ?_
    have bd_h_x2 : (-1) ≤ x2.toInt ∧ x2.toInt ≤ 8 := h_x2
    refine b_if_ne (pc := 21) (tgt := 28) hx hb rfl  dX1_digitInRow_21 (by decide) (fun c_8 => ?_) (fun c_8 => ?_)
    ·
      refine lv_iload_n (pc := 28) hx hb dX1_digitInRow_28 rfl (lv_at hl 2 rfl) ?_
      refine lv_iload_n (pc := 29) hx hb dX1_digitInRow_29 rfl (lv_at hl 0 rfl) ?_
      refine lv_idiv (pc := 30) hx hb dX1_digitInRow_30 (fun h => by have q := congrArg Int32.toInt h; have k := tI_0; (first | omega | (unfold zBd at *; omega))) ?_
      refine lv_topi (fun x_9 _ => ?_)
      have rx_9 : zBd x_9.toInt (-2147483648) 2147483647 := n_rng x_9
      refine lv_aload_n (pc := 31) hx hb dX1_digitInRow_31 rfl (lv_at hl 1 rfl) ?_
      refine va_get (pc := 32) (ci := 1) (v := .int x2) (C := RX1) (T := TX1) (N := 10) hx hb hts iX1 hown hK hP 0 rfl rfl 3 (by decide) (hts _ tw_110) (fun _ h9 => h9) rfl dX1_digitInRow_32 ?_
      refine lv_irem (pc := 35) hx hb dX1_digitInRow_35 (fun h => by have q := congrArg Int32.toInt h; have k := tI_0; (first | omega | (unfold zBd at *; omega))) ?_
      refine lv_topi (fun x_10 _ => ?_)
      have rx_10 : zBd x_10.toInt (-2147483648) 2147483647 := n_rng x_10
      exact hret x_10 ((fun _ => 0), (fun _ => (fun _ => 0)), (fun _ => (fun _ => 0)), (fun _ => 0), (fun _ => 0)) dX1_digitInRow_36 (show ((x_10.toInt = 0) ∨ (((-2147483648) ≤ x_10.toInt ∧ x_10.toInt ≤ 2147483647) ∧ ¬ x2.toInt = 0) ∨ (x_10.toInt = 0 ∧ x2.toInt = 0)) from (by first | exact (om_1093 rx_10.1 c_8 rx_10.2) | ((first | omega | (unfold zBd at *; omega))))) (g_psub (wc := (zS_5 cB cC cI cJ a0 a1 a2 a3 x2 x3 x4 x5 x6 x7 x8)) hP [0] rfl) (hD.sub (ws' := (zS_5 cB cC cI cJ a0 a1 a2 a3 x2 x3 x4 x5 x6 x7 x8)) [0] (by decide) rfl) hS
    ·
      refine lv_iconst (pc := 24) (v := 0) hx hb dX1_digitInRow_24 (by decide) ?_
      refine lv_goto (pc := 25) (tgt := 36) hx hb dX1_digitInRow_25 (by decide) ?_
      exact hret 0 ((fun _ => 0), (fun _ => (fun _ => 0)), (fun _ => (fun _ => 0)), (fun _ => 0), (fun _ => 0)) dX1_digitInRow_36 (show (((0 : Int32).toInt = 0) ∨ (((-2147483648) ≤ (0 : Int32).toInt ∧ (0 : Int32).toInt ≤ 2147483647) ∧ ¬ x2.toInt = 0) ∨ ((0 : Int32).toInt = 0 ∧ x2.toInt = 0)) from (by first | exact (om_1092 tI_0) | (have k9 := tI_0; (first | omega | (unfold zBd at *; omega))))) (g_psub (wc := (zS_5 cB cC cI cJ a0 a1 a2 a3 x2 x3 x4 x5 x6 x7 x8)) hP [0] rfl) (hD.sub (ws' := (zS_5 cB cC cI cJ a0 a1 a2 a3 x2 x3 x4 x5 x6 x7 x8)) [0] (by decide) rfl) hS
theorem om_1094 {a : Int} (h0 : (a ≤ 8)) : (a - 1 ≤ 2147483647) := by omega
set_option maxHeartbeats 4000000 in
set_option maxRecDepth 100000 in
theorem k_X1_letterOfDigit (l : Launch) (D : va_G) (cB cC cI cJ : ClassId) (sz : Nat) (a0 a1 a2 a3 : Nat) (x0 x1 x2 x3 x4 x5 x6 x7 : Int32) (h_x1 : zBd x1.toInt (-1) 8) (h_x2 : zBd x2.toInt (-1) 5) (h_x3 : zBd x3.toInt (-1) 6) (h_x4 : zBd x4.toInt 0 6) (h_x5 : zBd x5.toInt 0 16) : Met l yX1_letterOfDigit (.code yX1_letterOfDigit cX1_letterOfDigit 2 (some .int) :: lw_gd) ({ frames := 0, cells := 0, slots := 0, locals := 0 }) (gPre D [(cB, .byte), (cC, .char), (cI, .int), (cJ, .long)] [.ref a0, .int x0] (zS_5 cB cC cI cJ a0 a1 a2 a3 x1 x2 x3 x4 x5 x6 x7) sz) (va_Qi (fun r u => ((((-2147483648) ≤ r.toInt ∧ r.toInt ≤ 2147483647)))) (gB D (va_A (zS_5 cB cC cI cJ a0 a1 a2 a3 x1 x2 x3 x4 x5 x6 x7) sz) (fun u : gEx => (zS_5 cB cC cI cJ a0 a1 a2 a3 x1 x2 x3 x4 x5 x6 x7))) (va_A (zS_5 cB cC cI cJ a0 a1 a2 a3 x1 x2 x3 x4 x5 x6 x7) sz)) 0 0 (va_A (zS_5 cB cC cI cJ a0 a1 a2 a3 x1 x2 x3 x4 x5 x6 x7) sz) := by
  refine gOf_i (by decide +kernel) (Nat.le_of_ble_eq_true rfl) ?_
  intro p e s m args below meth c ls A Q hx hb hts hown hml hN hK hP hD hA hl hret
  replace hown : s.vm.findClass RX1 = some m.cls := hown
  have hS : va_S A s.heap s.heap [] := va_S.rf
  replace hP : va_P D gcl (zS_5 cB cC cI cJ a0 a1 a2 a3 x1 x2 x3 x4 x5 x6 x7) s.heap := hP
  replace hl : lv_has ls 2 [(0, .ref a0), (1, .int x0)] := hl
  have rx0 : zBd x0.toInt (-2147483648) 2147483647 := n_rng x0
  have rx6 : zBd x6.toInt (-2147483648) 2147483647 := n_rng x6
  have rx7 : zBd x7.toInt (-2147483648) 2147483647 := n_rng x7
  refine lv_iconst (pc := 0) (v := 2) hx hb dX1_letterOfDigit_0 (by decide) ?_
  refine lv_iload_n (pc := 1) hx hb dX1_letterOfDigit_1 rfl (lv_at hl 1 rfl) ?_
  refine lv_imul (pc := 2) hx hb dX1_letterOfDigit_2 ?_
  refine lv_topi (fun x_1 _ => ?_)
  have rx_1 : zBd x_1.toInt (-2147483648) 2147483647 := n_rng x_1
  refine lv_aload_n (pc := 3) hx hb dX1_letterOfDigit_3 rfl (lv_at hl 0 rfl) ?_
  refine va_get (pc := 4) (ci := 1) (v := .int x1) (C := RX1) (T := TX1) (N := 10) hx hb hts iX1 hown hK hP 0 rfl rfl 3 (by decide) (hts _ tw_110) (fun _ h9 => h9) rfl dX1_letterOfDigit_4 ?_
  have bd_h_x1 : (-1) ≤ x1.toInt ∧ x1.toInt ≤ 8 := h_x1
  refine lv_iconst (pc := 7) (v := 1) hx hb dX1_letterOfDigit_7 (by decide) ?_
  refine b_isub (pc := 8) hx hb rfl tI_1 (by first | exact (om_1089 h_x1.1) | ((first | omega | (unfold zBd at *; omega)))) (by first | exact (om_1094 h_x1.2) | ((first | omega | (unfold zBd at *; omega)))) dX1_letterOfDigit_8 (fun x_2 ex_2 => ?_)
  refine lv_isub (pc := 9) hx hb dX1_letterOfDigit_9 ?_
  refine lv_topi (fun x_3 _ => ?_)
  have rx_3 : zBd x_3.toInt (-2147483648) 2147483647 := n_rng x_3
  exact hret x_3 ((fun _ => 0), (fun _ => (fun _ => 0)), (fun _ => (fun _ => 0)), (fun _ => 0), (fun _ => 0)) dX1_letterOfDigit_10 (show ((((-2147483648) ≤ x_3.toInt ∧ x_3.toInt ≤ 2147483647))) from (by first | exact (om_1017 rx_3.1 rx_3.2) | ((first | omega | (unfold zBd at *; omega))))) (g_psub (wc := (zS_5 cB cC cI cJ a0 a1 a2 a3 x1 x2 x3 x4 x5 x6 x7)) hP [0] rfl) (hD.sub (ws' := (zS_5 cB cC cI cJ a0 a1 a2 a3 x1 x2 x3 x4 x5 x6 x7)) [0] (by decide) rfl) hS
set_option maxHeartbeats 4000000 in
set_option maxRecDepth 100000 in
theorem k_X1_letterInRow (l : Launch) (D : va_G) (cB cC cI cJ : ClassId) (sz : Nat) (a0 a1 a2 a3 : Nat) (x0 x1 x2 x3 x4 x5 x6 x7 x8 : Int32) (hp2 : (0 ≤ x1.toInt ∧ x1.toInt ≤ 4)) (h_x2 : zBd x2.toInt (-1) 8) (h_x3 : zBd x3.toInt (-1) 5) (h_x4 : zBd x4.toInt (-1) 6) (h_x5 : zBd x5.toInt 0 6) (h_x6 : zBd x6.toInt 0 16) : Met l yX1_letterInRow (.code yX1_letterInRow cX1_letterInRow 3 (some .int) :: lw_gd) ({ frames := 2, cells := 0, slots := 0, locals := 46 }) (gPre D [(cB, .byte), (cC, .char), (cI, .int), (cJ, .long)] [.ref a0, .int x0, .int x1] (zS_5 cB cC cI cJ a0 a1 a2 a3 x2 x3 x4 x5 x6 x7 x8) sz) (va_Qi (fun r u => ((((-2147483648) ≤ r.toInt ∧ r.toInt ≤ 2147483647)))) (gB D (va_A (zS_5 cB cC cI cJ a0 a1 a2 a3 x2 x3 x4 x5 x6 x7 x8) sz) (fun u : gEx => (zS_5 cB cC cI cJ a0 a1 a2 a3 x2 x3 x4 x5 x6 x7 x8))) (va_A (zS_5 cB cC cI cJ a0 a1 a2 a3 x2 x3 x4 x5 x6 x7 x8) sz)) 0 0 (va_A (zS_5 cB cC cI cJ a0 a1 a2 a3 x2 x3 x4 x5 x6 x7 x8) sz) := by
  refine gOf_i (by decide +kernel) (Nat.le_of_ble_eq_true rfl) ?_
  intro p e s m args below meth c ls A Q hx hb hts hown hml hN hK hP hD hA hl hret
  replace hown : s.vm.findClass RX1 = some m.cls := hown
  have hS : va_S A s.heap s.heap [] := va_S.rf
  replace hP : va_P D gcl (zS_5 cB cC cI cJ a0 a1 a2 a3 x2 x3 x4 x5 x6 x7 x8) s.heap := hP
  replace hl : lv_has ls 3 [(0, .ref a0), (1, .int x0), (2, .int x1)] := hl
  have rx0 : zBd x0.toInt (-2147483648) 2147483647 := n_rng x0
  have rx7 : zBd x7.toInt (-2147483648) 2147483647 := n_rng x7
  have rx8 : zBd x8.toInt (-2147483648) 2147483647 := n_rng x8
  refine lv_aload_n (pc := 0) hx hb dX1_letterInRow_0 rfl (lv_at hl 0 rfl) ?_
  refine lv_aload_n (pc := 1) hx hb dX1_letterInRow_1 rfl (lv_at hl 0 rfl) ?_
  refine lv_iload_n (pc := 2) hx hb dX1_letterInRow_2 rfl (lv_at hl 1 rfl) ?_
  refine lv_iload_n (pc := 3) hx hb dX1_letterInRow_3 rfl (lv_at hl 2 rfl) ?_
  refine gd_i (pc := 4) (wc := (zS_5 cB cC cI cJ a0 a1 a2 a3 x2 x3 x4 x5 x6 x7 x8)) hP hD hS hA [0] rfl (by decide +kernel) (fun _ => by rfl) (fun hPc hDc => va_runV (As := [.int x0, .int x1]) (rest := [.ref a0]) ⟨hx, hb, hml, hown, hts⟩ (k_X1_digitInRow l D cB cC cI cJ _ a0 a1 a2 a3 x0 x1 x2 x3 x4 x5 x6 x7 x8 hp2 h_x2 h_x3 h_x4 h_x5 h_x6) ⟨gcwB hts tw_944 tw_4 tw_941 hd_yX1_digitInRow ⟨Nat.le_of_ble_eq_true rfl, Nat.le_of_ble_eq_true rfl⟩, hts _ tw_942, hts _ tw_943⟩ ⟨gblind, va_recv hK hPc (ci := 1) (q0 := 0) rfl rfl, (gpreS hPc hK hDc hN).2⟩ rfl rfl hl.1 rfl (lv_room (Nat.le_of_ble_eq_true rfl)) dX1_letterInRow_4 ⟨Nat.le_of_ble_eq_true rfl, Nat.le_of_ble_eq_true rfl⟩) (fun r_2 u_1 H locs hw_3 hP hD hS => ?_)
  replace hP : va_P D gcl (zS_5 cB cC cI cJ a0 a1 a2 a3 x2 x3 x4 x5 x6 x7 x8) H := hP
  replace hD : va_D A (zS_5 cB cC cI cJ a0 a1 a2 a3 x2 x3 x4 x5 x6 x7 x8) := hD
  have hw_4 : ((r_2.toInt = 0) ∨ (((-2147483648) ≤ r_2.toInt ∧ r_2.toInt ≤ 2147483647) ∧ ¬ x2.toInt = 0) ∨ (r_2.toInt = 0 ∧ x2.toInt = 0)) := hw_3
  have rr_2 : zBd r_2.toInt (-2147483648) 2147483647 := n_rng r_2
  refine gd_i (pc := 7) (wc := (zS_5 cB cC cI cJ a0 a1 a2 a3 x2 x3 x4 x5 x6 x7 x8)) hP hD hS hA [0] rfl (by decide +kernel) (fun _ => by rfl) (fun hPc hDc => va_runV (As := [.int r_2]) (rest := []) ⟨hx, hb, hml, hown, hts⟩ (k_X1_letterOfDigit l D cB cC cI cJ _ a0 a1 a2 a3 r_2 x2 x3 x4 x5 x6 x7 x8 h_x2 h_x3 h_x4 h_x5 h_x6) ⟨gcwB hts tw_952 tw_4 tw_949 hd_yX1_letterOfDigit ⟨Nat.le_of_ble_eq_true rfl, Nat.le_of_ble_eq_true rfl⟩, hts _ tw_950, hts _ tw_951⟩ ⟨gblind, va_recv hK hPc (ci := 1) (q0 := 0) rfl rfl, (gpreS hPc hK hDc hN).2⟩ rfl rfl hl.1 rfl (lv_room (Nat.le_of_ble_eq_true rfl)) dX1_letterInRow_7 ⟨Nat.le_of_ble_eq_true rfl, Nat.le_of_ble_eq_true rfl⟩) (fun r_6 u_5 H locs hw_7 hP hD hS => ?_)
  replace hP : va_P D gcl (zS_5 cB cC cI cJ a0 a1 a2 a3 x2 x3 x4 x5 x6 x7 x8) H := hP
  replace hD : va_D A (zS_5 cB cC cI cJ a0 a1 a2 a3 x2 x3 x4 x5 x6 x7 x8) := hD
  have hw_8 : ((((-2147483648) ≤ r_6.toInt ∧ r_6.toInt ≤ 2147483647))) := hw_7
  have rr_6 : zBd r_6.toInt (-2147483648) 2147483647 := n_rng r_6
  exact hret r_6 ((fun _ => 0), (fun _ => (fun _ => 0)), (fun _ => (fun _ => 0)), (fun _ => 0), (fun _ => 0)) dX1_letterInRow_10 (show ((((-2147483648) ≤ r_6.toInt ∧ r_6.toInt ≤ 2147483647))) from hw_8) (g_psub (wc := (zS_5 cB cC cI cJ a0 a1 a2 a3 x2 x3 x4 x5 x6 x7 x8)) hP [0] rfl) (hD.sub (ws' := (zS_5 cB cC cI cJ a0 a1 a2 a3 x2 x3 x4 x5 x6 x7 x8)) [0] (by decide) rfl) hS
theorem om_1095 {a b : Int} (h0 : ((-2147483648) ≤ a)) (h1 : (a ≤ 2147483647)) (h2 : (¬ b = 0)) : (((((-2147483648) ≤ a ∧ a ≤ 2147483647) ∧ ¬ b = 0) ∨ (a = 0 ∧ b = 0))) := by omega
theorem om_1096 {a b : Int} (h0 : (a = 0)) : (((((-2147483648) ≤ a ∧ a ≤ 2147483647) ∧ ¬ b = 0) ∨ (a = 0 ∧ b = 0))) := by omega
set_option maxHeartbeats 4000000 in
set_option maxRecDepth 100000 in
theorem k_X1_rowCount (l : Launch) (D : va_G) (cB cC cI cJ : ClassId) (sz : Nat) (a0 a1 a2 a3 : Nat) (x0 x1 x2 x3 x4 x5 x6 : Int32) (h_x0 : zBd x0.toInt (-1) 8) (h_x1 : zBd x1.toInt (-1) 5) (h_x2 : zBd x2.toInt (-1) 6) (h_x3 : zBd x3.toInt 0 6) (h_x4 : zBd x4.toInt 0 16) : Met l yX1_rowCount (.code yX1_rowCount cX1_rowCount 1 (some .int) :: lw_gd) ({ frames := 1, cells := 0, slots := 0, locals := 23 }) (gPre D [(cB, .byte), (cC, .char), (cI, .int), (cJ, .long)] [.ref a0] (zS_5 cB cC cI cJ a0 a1 a2 a3 x0 x1 x2 x3 x4 x5 x6) sz) (va_Qi (fun r u => ((((-2147483648) ≤ r.toInt ∧ r.toInt ≤ 2147483647) ∧ ¬ x1.toInt = 0) ∨ (r.toInt = 0 ∧ x1.toInt = 0))) (gB D (va_A (zS_5 cB cC cI cJ a0 a1 a2 a3 x0 x1 x2 x3 x4 x5 x6) sz) (fun u : gEx => (zS_5 cB cC cI cJ a0 a1 a2 a3 x0 x1 x2 x3 x4 x5 x6))) (va_A (zS_5 cB cC cI cJ a0 a1 a2 a3 x0 x1 x2 x3 x4 x5 x6) sz)) 0 0 (va_A (zS_5 cB cC cI cJ a0 a1 a2 a3 x0 x1 x2 x3 x4 x5 x6) sz) := by
  refine gOf_i (by decide +kernel) (Nat.le_of_ble_eq_true rfl) ?_
  intro p e s m args below meth c ls A Q hx hb hts hown hml hN hK hP hD hA hl hret
  replace hown : s.vm.findClass RX1 = some m.cls := hown
  have hS : va_S A s.heap s.heap [] := va_S.rf
  replace hP : va_P D gcl (zS_5 cB cC cI cJ a0 a1 a2 a3 x0 x1 x2 x3 x4 x5 x6) s.heap := hP
  replace hl : lv_has ls 1 [(0, .ref a0)] := hl
  have rx5 : zBd x5.toInt (-2147483648) 2147483647 := n_rng x5
  have rx6 : zBd x6.toInt (-2147483648) 2147483647 := n_rng x6
  refine lv_aload_n (pc := 0) hx hb dX1_rowCount_0 rfl (lv_at hl 0 rfl) ?_
  refine va_get (pc := 1) (ci := 1) (v := .int x1) (C := RX1) (T := TX1) (N := 10) hx hb hts iX1 hown hK hP 0 rfl rfl 4 (by decide) (hts _ tw_116) (fun _ h9 => h9) rfl dX1_rowCount_1 ?_
  have bd_h_x1 : (-1) ≤ x1.toInt ∧ x1.toInt ≤ 5 := h_x1
  refine b_if_ne (pc := 4) (tgt := 11) hx hb rfl  dX1_rowCount_4 (by decide) (fun c_1 => ?_) (fun c_1 => ?_)
  ·
    refine lv_aload_n (pc := 11) hx hb dX1_rowCount_11 rfl (lv_at hl 0 rfl) ?_
    refine lv_aload_n (pc := 12) hx hb dX1_rowCount_12 rfl (lv_at hl 0 rfl) ?_
    refine va_get (pc := 13) (ci := 1) (v := .int x1) (C := RX1) (T := TX1) (N := 10) hx hb hts iX1 hown hK hP 0 rfl rfl 4 (by decide) (hts _ tw_116) (fun _ h9 => h9) rfl dX1_rowCount_13 ?_
    refine gd_i (pc := 16) (wc := (zS_5 cB cC cI cJ a0 a1 a2 a3 x0 x1 x2 x3 x4 x5 x6)) hP hD hS hA [0] rfl (by decide +kernel) (fun _ => by rfl) (fun hPc hDc => va_runV (As := [.int x1]) (rest := []) ⟨hx, hb, hml, hown, hts⟩ (k_X1_rowsOf l D cB cC cI cJ _ a0 a1 a2 a3 x1 x0 x1 x2 x3 x4 x5 x6 h_x0 h_x1 h_x2 h_x3 h_x4) ⟨gcwB hts tw_948 tw_4 tw_945 hd_yX1_rowsOf ⟨Nat.le_of_ble_eq_true rfl, Nat.le_of_ble_eq_true rfl⟩, hts _ tw_946, hts _ tw_947⟩ ⟨gblind, va_recv hK hPc (ci := 1) (q0 := 0) rfl rfl, (gpreS hPc hK hDc hN).2⟩ rfl rfl hl.1 rfl (lv_room (Nat.le_of_ble_eq_true rfl)) dX1_rowCount_16 ⟨Nat.le_of_ble_eq_true rfl, Nat.le_of_ble_eq_true rfl⟩) (fun r_3 u_2 H locs hw_4 hP hD hS => ?_)
    replace hP : va_P D gcl (zS_5 cB cC cI cJ a0 a1 a2 a3 x0 x1 x2 x3 x4 x5 x6) H := hP
    replace hD : va_D A (zS_5 cB cC cI cJ a0 a1 a2 a3 x0 x1 x2 x3 x4 x5 x6) := hD
    have hw_5 : ((((-2147483648) ≤ r_3.toInt ∧ r_3.toInt ≤ 2147483647) ∧ ((-2147483648) ≤ x1.toInt ∧ x1.toInt ≤ 2147483647))) := hw_4
    have rr_3 : zBd r_3.toInt (-2147483648) 2147483647 := n_rng r_3
    exact hret r_3 ((fun _ => 0), (fun _ => (fun _ => 0)), (fun _ => (fun _ => 0)), (fun _ => 0), (fun _ => 0)) dX1_rowCount_19 (show ((((-2147483648) ≤ r_3.toInt ∧ r_3.toInt ≤ 2147483647) ∧ ¬ x1.toInt = 0) ∨ (r_3.toInt = 0 ∧ x1.toInt = 0)) from (by first | exact (om_1095 rr_3.1 rr_3.2 c_1) | ((first | omega | (unfold zBd at *; omega))))) (g_psub (wc := (zS_5 cB cC cI cJ a0 a1 a2 a3 x0 x1 x2 x3 x4 x5 x6)) hP [0] rfl) (hD.sub (ws' := (zS_5 cB cC cI cJ a0 a1 a2 a3 x0 x1 x2 x3 x4 x5 x6)) [0] (by decide) rfl) hS
  ·
    refine lv_iconst (pc := 7) (v := 0) hx hb dX1_rowCount_7 (by decide) ?_
    refine lv_goto (pc := 8) (tgt := 19) hx hb dX1_rowCount_8 (by decide) ?_
    exact hret 0 ((fun _ => 0), (fun _ => (fun _ => 0)), (fun _ => (fun _ => 0)), (fun _ => 0), (fun _ => 0)) dX1_rowCount_19 (show ((((-2147483648) ≤ (0 : Int32).toInt ∧ (0 : Int32).toInt ≤ 2147483647) ∧ ¬ x1.toInt = 0) ∨ ((0 : Int32).toInt = 0 ∧ x1.toInt = 0)) from (by first | exact (om_1096 tI_0) | (have k9 := tI_0; (first | omega | (unfold zBd at *; omega))))) (g_psub (wc := (zS_5 cB cC cI cJ a0 a1 a2 a3 x0 x1 x2 x3 x4 x5 x6)) hP [0] rfl) (hD.sub (ws' := (zS_5 cB cC cI cJ a0 a1 a2 a3 x0 x1 x2 x3 x4 x5 x6)) [0] (by decide) rfl) hS
theorem om_1097 {a b : Int} (h0 : (-b < a)) : (-2147483648 ≤ a + b) := by omega
theorem om_1098 {a b c : Int} (h0 : (a = b + c)) (h1 : (-c < b)) : (-2147483648 ≤ a - 1) := by omega
theorem om_1099 {a b c : Int} (h0 : (a = b + c)) (h1 : (b < c)) (h2 : (c ≤ 8)) : (a - 1 ≤ 2147483647) := by omega
theorem om_1100 {a b c d : Int} (h0 : (a = b - 1)) (h1 : (b = c + d)) (h2 : (-d < c)) : (0 ≤ a) := by omega
theorem om_1101 {a b c d e : Int} (h0 : (0 ≤ a)) (h1 : (a * 2 ≤ b)) (h2 : (b = c - 1)) (h3 : (c = d + e)) (h4 : (d < e)) (h5 : (e ≤ 8)) : ((0 ≤ a ∧ a ≤ 7)) := by omega
theorem om_1102 {a b c : Int} (h0 : (0 ≤ a)) (h1 : (a ≤ 7)) (h2 : (-b < c)) (h3 : (c < b)) : ((((0 ≤ a ∧ a ≤ 7) ∧ (-b < c ∧ c < b)) ∨ (((-2147483648) ≤ a ∧ a ≤ 2147483647) ∧ ¬ (-b < c ∧ c < b)))) := by omega
theorem om_1103 {a b c : Int} (h0 : ((-2147483648) ≤ a)) (h1 : (¬ (-b < c ∧ c < b))) (h2 : (a ≤ 2147483647)) : ((((0 ≤ a ∧ a ≤ 7) ∧ (-b < c ∧ c < b)) ∨ (((-2147483648) ≤ a ∧ a ≤ 2147483647) ∧ ¬ (-b < c ∧ c < b)))) := by omega
set_option maxHeartbeats 4000000 in
set_option maxRecDepth 100000 in
theorem k_X1_digitOfLetter (l : Launch) (D : va_G) (cB cC cI cJ : ClassId) (sz : Nat) (a0 a1 a2 a3 : Nat) (x0 x1 x2 x3 x4 x5 x6 x7 : Int32) (h_x1 : zBd x1.toInt (-1) 8) (h_x2 : zBd x2.toInt (-1) 5) (h_x3 : zBd x3.toInt (-1) 6) (h_x4 : zBd x4.toInt 0 6) (h_x5 : zBd x5.toInt 0 16) : Met l yX1_digitOfLetter (.code yX1_digitOfLetter cX1_digitOfLetter 2 (some .int) :: lw_gd) ({ frames := 0, cells := 0, slots := 0, locals := 0 }) (gPre D [(cB, .byte), (cC, .char), (cI, .int), (cJ, .long)] [.ref a0, .int x0] (zS_5 cB cC cI cJ a0 a1 a2 a3 x1 x2 x3 x4 x5 x6 x7) sz) (va_Qi (fun r u => (((0 ≤ r.toInt ∧ r.toInt ≤ 7) ∧ (-x1.toInt < x0.toInt ∧ x0.toInt < x1.toInt)) ∨ (((-2147483648) ≤ r.toInt ∧ r.toInt ≤ 2147483647) ∧ ¬ (-x1.toInt < x0.toInt ∧ x0.toInt < x1.toInt)))) (gB D (va_A (zS_5 cB cC cI cJ a0 a1 a2 a3 x1 x2 x3 x4 x5 x6 x7) sz) (fun u : gEx => (zS_5 cB cC cI cJ a0 a1 a2 a3 x1 x2 x3 x4 x5 x6 x7))) (va_A (zS_5 cB cC cI cJ a0 a1 a2 a3 x1 x2 x3 x4 x5 x6 x7) sz)) 0 0 (va_A (zS_5 cB cC cI cJ a0 a1 a2 a3 x1 x2 x3 x4 x5 x6 x7) sz) := by
  refine gOf_i (by decide +kernel) (Nat.le_of_ble_eq_true rfl) ?_
  intro p e s m args below meth c ls A Q hx hb hts hown hml hN hK hP hD hA hl hret
  replace hown : s.vm.findClass RX1 = some m.cls := hown
  have hS : va_S A s.heap s.heap [] := va_S.rf
  replace hP : va_P D gcl (zS_5 cB cC cI cJ a0 a1 a2 a3 x1 x2 x3 x4 x5 x6 x7) s.heap := hP
  replace hl : lv_has ls 2 [(0, .ref a0), (1, .int x0)] := hl
  have rx0 : zBd x0.toInt (-2147483648) 2147483647 := n_rng x0
  have rx6 : zBd x6.toInt (-2147483648) 2147483647 := n_rng x6
  have rx7 : zBd x7.toInt (-2147483648) 2147483647 := n_rng x7
  by_cases hgh : (-x1.toInt < x0.toInt ∧ x0.toInt < x1.toInt)
  ·
    refine lv_iload_n (pc := 0) hx hb dX1_digitOfLetter_0 rfl (lv_at hl 1 rfl) ?_
    refine lv_aload_n (pc := 1) hx hb dX1_digitOfLetter_1 rfl (lv_at hl 0 rfl) ?_
    refine va_get (pc := 2) (ci := 1) (v := .int x1) (C := RX1) (T := TX1) (N := 10) hx hb hts iX1 hown hK hP 0 rfl rfl 3 (by decide) (hts _ tw_110) (fun _ h9 => h9) rfl dX1_digitOfLetter_2 ?_
    have bd_h_x1 : (-1) ≤ x1.toInt ∧ x1.toInt ≤ 8 := h_x1
    refine b_iadd (pc := 5) hx hb rfl rfl (by first | exact (om_1097 hgh.1) | ((first | omega | (unfold zBd at *; omega)))) (by first | exact (om_324 hgh.2 h_x1.2) | ((first | omega | (unfold zBd at *; omega)))) dX1_digitOfLetter_5 (fun x_1 ex_1 => ?_)
    refine lv_iconst (pc := 6) (v := 1) hx hb dX1_digitOfLetter_6 (by decide) ?_
    refine b_isub (pc := 7) hx hb rfl tI_1 (by first | exact (om_1098 ex_1 hgh.1) | ((first | omega | (unfold zBd at *; omega)))) (by first | exact (om_1099 ex_1 hgh.2 h_x1.2) | ((first | omega | (unfold zBd at *; omega)))) dX1_digitOfLetter_7 (fun x_2 ex_2 => ?_)
    refine lv_iconst (pc := 8) (v := 2) hx hb dX1_digitOfLetter_8 (by decide) ?_
    refine b_idiv (pc := 9) hx hb rfl tI_2 (by first | exact (om_930) | ((first | omega | (unfold zBd at *; omega)))) (by first | exact (om_1100 ex_2 ex_1 hgh.1) | ((first | omega | (unfold zBd at *; omega)))) dX1_digitOfLetter_9 (fun x_3 ex_3 => ?_)
    have rx_3 : (0 ≤ x_3.toInt ∧ x_3.toInt ≤ 7) := (by first | exact (om_1101 ex_3.1 ex_3.2.2.1 ex_2 ex_1 hgh.2 h_x1.2) | ((first | omega | (unfold zBd at *; omega))))
    exact hret x_3 ((fun _ => 0), (fun _ => (fun _ => 0)), (fun _ => (fun _ => 0)), (fun _ => 0), (fun _ => 0)) dX1_digitOfLetter_10 (show (((0 ≤ x_3.toInt ∧ x_3.toInt ≤ 7) ∧ (-x1.toInt < x0.toInt ∧ x0.toInt < x1.toInt)) ∨ (((-2147483648) ≤ x_3.toInt ∧ x_3.toInt ≤ 2147483647) ∧ ¬ (-x1.toInt < x0.toInt ∧ x0.toInt < x1.toInt))) from (by first | exact (om_1102 rx_3.1 rx_3.2 hgh.1 hgh.2) | ((first | omega | (unfold zBd at *; omega))))) (g_psub (wc := (zS_5 cB cC cI cJ a0 a1 a2 a3 x1 x2 x3 x4 x5 x6 x7)) hP [0] rfl) (hD.sub (ws' := (zS_5 cB cC cI cJ a0 a1 a2 a3 x1 x2 x3 x4 x5 x6 x7)) [0] (by decide) rfl) hS
  ·
    refine lv_iload_n (pc := 0) hx hb dX1_digitOfLetter_0 rfl (lv_at hl 1 rfl) ?_
    refine lv_aload_n (pc := 1) hx hb dX1_digitOfLetter_1 rfl (lv_at hl 0 rfl) ?_
    refine va_get (pc := 2) (ci := 1) (v := .int x1) (C := RX1) (T := TX1) (N := 10) hx hb hts iX1 hown hK hP 0 rfl rfl 3 (by decide) (hts _ tw_110) (fun _ h9 => h9) rfl dX1_digitOfLetter_2 ?_
    have bd_h_x1 : (-1) ≤ x1.toInt ∧ x1.toInt ≤ 8 := h_x1
    refine lv_iadd (pc := 5) hx hb dX1_digitOfLetter_5 ?_
    refine lv_topi (fun x_4 _ => ?_)
    have rx_4 : zBd x_4.toInt (-2147483648) 2147483647 := n_rng x_4
    refine lv_iconst (pc := 6) (v := 1) hx hb dX1_digitOfLetter_6 (by decide) ?_
    refine lv_isub (pc := 7) hx hb dX1_digitOfLetter_7 ?_
    refine lv_topi (fun x_5 _ => ?_)
    have rx_5 : zBd x_5.toInt (-2147483648) 2147483647 := n_rng x_5
    refine lv_iconst (pc := 8) (v := 2) hx hb dX1_digitOfLetter_8 (by decide) ?_
    refine lv_idiv (pc := 9) hx hb dX1_digitOfLetter_9 (fun h => by have q := congrArg Int32.toInt h; have k := tI_0; have k2 := tI_2; (first | omega | (unfold zBd at *; omega))) ?_
    refine lv_topi (fun x_6 _ => ?_)
    have rx_6 : zBd x_6.toInt (-2147483648) 2147483647 := n_rng x_6
    exact hret x_6 ((fun _ => 0), (fun _ => (fun _ => 0)), (fun _ => (fun _ => 0)), (fun _ => 0), (fun _ => 0)) dX1_digitOfLetter_10 (show (((0 ≤ x_6.toInt ∧ x_6.toInt ≤ 7) ∧ (-x1.toInt < x0.toInt ∧ x0.toInt < x1.toInt)) ∨ (((-2147483648) ≤ x_6.toInt ∧ x_6.toInt ≤ 2147483647) ∧ ¬ (-x1.toInt < x0.toInt ∧ x0.toInt < x1.toInt))) from (by first | exact (om_1103 rx_6.1 hgh rx_6.2) | ((first | omega | (unfold zBd at *; omega))))) (g_psub (wc := (zS_5 cB cC cI cJ a0 a1 a2 a3 x1 x2 x3 x4 x5 x6 x7)) hP [0] rfl) (hD.sub (ws' := (zS_5 cB cC cI cJ a0 a1 a2 a3 x1 x2 x3 x4 x5 x6 x7)) [0] (by decide) rfl) hS
theorem om_1104 {a b : Int} (h0 : (a = 0)) (h1 : (b ≤ 0)) : (((a = 0 ∧ b ≤ 0) ∨ (a = 0 ∧ b > 0 ∧ (1 ≤ b ∧ b ≤ 2147483647)) ∨ (a = 1 ∧ b > 0 ∧ (1 ≤ b ∧ b ≤ 31)))) := by omega
theorem om_1105 {a : Int} (h0 : ((-1) ≤ a)) : (-1 ≤ a) := by omega
theorem om_1106 {a b : Int} (h0 : (a = 0)) (h1 : (b ≤ 2147483647)) : (((a = 0 ∧ b ≤ 0) ∨ (a = 0 ∧ b > 0 ∧ (1 ≤ b ∧ b ≤ 2147483647)) ∨ (a = 1 ∧ b > 0 ∧ (1 ≤ b ∧ b ≤ 31)))) := by omega
theorem om_1107 {a b c : Int} (h0 : (a = 1)) (h1 : (b > 0)) (h2 : (b < c)) (h3 : (c ≤ 32)) (h4 : (b ≤ 2147483647)) : (((a = 0 ∧ b ≤ 0) ∨ (a = 0 ∧ b > 0 ∧ (1 ≤ b ∧ b ≤ 2147483647)) ∨ (a = 1 ∧ b > 0 ∧ (1 ≤ b ∧ b ≤ 31)))) := by omega
set_option maxHeartbeats 4000000 in
set_option maxRecDepth 100000 in
theorem k_X1_isSenderSet (l : Launch) (D : va_G) (cB cC cI cJ : ClassId) (sz : Nat) (a0 a1 a2 a3 : Nat) (x0 x1 x2 x3 x4 x5 x6 x7 : Int32) (h_x1 : zBd x1.toInt (-1) 8) (h_x2 : zBd x2.toInt (-1) 5) (h_x3 : zBd x3.toInt (-1) 6) (h_x4 : zBd x4.toInt 0 6) (h_x5 : zBd x5.toInt 0 16) : Met l yX1_isSenderSet (.code yX1_isSenderSet cX1_isSenderSet 2 (some .boolean) :: lw_gd) ({ frames := 0, cells := 0, slots := 0, locals := 0 }) (gPre D [(cB, .byte), (cC, .char), (cI, .int), (cJ, .long)] [.ref a0, .int x0] (zS_5 cB cC cI cJ a0 a1 a2 a3 x1 x2 x3 x4 x5 x6 x7) sz) (va_Qi (fun r u => ((r.toInt = 0 ∧ x0.toInt ≤ 0) ∨ (r.toInt = 0 ∧ x0.toInt > 0 ∧ (1 ≤ x0.toInt ∧ x0.toInt ≤ 2147483647)) ∨ (r.toInt = 1 ∧ x0.toInt > 0 ∧ (1 ≤ x0.toInt ∧ x0.toInt ≤ 31)))) (gB D (va_A (zS_5 cB cC cI cJ a0 a1 a2 a3 x1 x2 x3 x4 x5 x6 x7) sz) (fun u : gEx => (zS_5 cB cC cI cJ a0 a1 a2 a3 x1 x2 x3 x4 x5 x6 x7))) (va_A (zS_5 cB cC cI cJ a0 a1 a2 a3 x1 x2 x3 x4 x5 x6 x7) sz)) 0 0 (va_A (zS_5 cB cC cI cJ a0 a1 a2 a3 x1 x2 x3 x4 x5 x6 x7) sz) := by
  refine gOf_z (by decide +kernel) (Nat.le_of_ble_eq_true rfl) ?_
  intro p e s m args below meth c ls A Q hx hb hts hown hml hN hK hP hD hA hl hret
  replace hown : s.vm.findClass RX1 = some m.cls := hown
  have hS : va_S A s.heap s.heap [] := va_S.rf
  replace hP : va_P D gcl (zS_5 cB cC cI cJ a0 a1 a2 a3 x1 x2 x3 x4 x5 x6 x7) s.heap := hP
  replace hl : lv_has ls 2 [(0, .ref a0), (1, .int x0)] := hl
  have rx0 : zBd x0.toInt (-2147483648) 2147483647 := n_rng x0
  have rx6 : zBd x6.toInt (-2147483648) 2147483647 := n_rng x6
  have rx7 : zBd x7.toInt (-2147483648) 2147483647 := n_rng x7
  refine lv_iload_n (pc := 0) hx hb dX1_isSenderSet_0 rfl (lv_at hl 1 rfl) ?_
  refine b_if_le (pc := 1) (tgt := 18) hx hb rfl  dX1_isSenderSet_1 (by decide) (fun c_1 => ?_) (fun c_1 => ?_)
  ·
    refine lv_iconst (pc := 18) (v := 0) hx hb dX1_isSenderSet_18 (by decide) ?_
    exact hret 0 ((fun _ => 0), (fun _ => (fun _ => 0)), (fun _ => (fun _ => 0)), (fun _ => 0), (fun _ => 0)) dX1_isSenderSet_19 ⟨(Or.inl tI_0), (show (((0 : Int32).toInt = 0 ∧ x0.toInt ≤ 0) ∨ ((0 : Int32).toInt = 0 ∧ x0.toInt > 0 ∧ (1 ≤ x0.toInt ∧ x0.toInt ≤ 2147483647)) ∨ ((0 : Int32).toInt = 1 ∧ x0.toInt > 0 ∧ (1 ≤ x0.toInt ∧ x0.toInt ≤ 31))) from (by first | exact (om_1104 tI_0 c_1) | (have k9 := tI_0; (first | omega | (unfold zBd at *; omega)))))⟩ (g_psub (wc := (zS_5 cB cC cI cJ a0 a1 a2 a3 x1 x2 x3 x4 x5 x6 x7)) hP [0] rfl) (hD.sub (ws' := (zS_5 cB cC cI cJ a0 a1 a2 a3 x1 x2 x3 x4 x5 x6 x7)) [0] (by decide) rfl) hS
  ·
    refine lv_iload_n (pc := 4) hx hb dX1_isSenderSet_4 rfl (lv_at hl 1 rfl) ?_
    refine lv_iconst (pc := 5) (v := 1) hx hb dX1_isSenderSet_5 (by decide) ?_
    refine lv_aload_n (pc := 6) hx hb dX1_isSenderSet_6 rfl (lv_at hl 0 rfl) ?_
    refine va_get (pc := 7) (ci := 1) (v := .int x2) (C := RX1) (T := TX1) (N := 10) hx hb hts iX1 hown hK hP 0 rfl rfl 4 (by decide) (hts _ tw_116) (fun _ h9 => h9) rfl dX1_isSenderSet_7 ?_
    have bd_h_x2 : (-1) ≤ x2.toInt ∧ x2.toInt ≤ 5 := h_x2
    refine b_shl1 (pc := 10) hx hb rfl (by first | exact (om_1105 h_x2.1) | ((first | omega | (unfold zBd at *; omega)))) (by first | exact (om_372 h_x2.2) | ((first | omega | (unfold zBd at *; omega)))) dX1_isSenderSet_10 (fun x_2 ex_2 => ?_)
    have rx_2 : zBd x_2.toInt (-2147483648) 2147483647 := n_rng x_2
    refine b_icmp_ge (pc := 11) (tgt := 18) hx hb rfl rfl  dX1_isSenderSet_11 (by decide) (fun c_3 => ?_) (fun c_3 => ?_)
    ·
      refine lv_iconst (pc := 18) (v := 0) hx hb dX1_isSenderSet_18 (by decide) ?_
      exact hret 0 ((fun _ => 0), (fun _ => (fun _ => 0)), (fun _ => (fun _ => 0)), (fun _ => 0), (fun _ => 0)) dX1_isSenderSet_19 ⟨(Or.inl tI_0), (show (((0 : Int32).toInt = 0 ∧ x0.toInt ≤ 0) ∨ ((0 : Int32).toInt = 0 ∧ x0.toInt > 0 ∧ (1 ≤ x0.toInt ∧ x0.toInt ≤ 2147483647)) ∨ ((0 : Int32).toInt = 1 ∧ x0.toInt > 0 ∧ (1 ≤ x0.toInt ∧ x0.toInt ≤ 31))) from (by first | exact (om_1106 tI_0 rx0.2) | (have k9 := tI_0; (first | omega | (unfold zBd at *; omega)))))⟩ (g_psub (wc := (zS_5 cB cC cI cJ a0 a1 a2 a3 x1 x2 x3 x4 x5 x6 x7)) hP [0] rfl) (hD.sub (ws' := (zS_5 cB cC cI cJ a0 a1 a2 a3 x1 x2 x3 x4 x5 x6 x7)) [0] (by decide) rfl) hS
    ·
      refine lv_iconst (pc := 14) (v := 1) hx hb dX1_isSenderSet_14 (by decide) ?_
      refine lv_goto (pc := 15) (tgt := 19) hx hb dX1_isSenderSet_15 (by decide) ?_
      exact hret 1 ((fun _ => 0), (fun _ => (fun _ => 0)), (fun _ => (fun _ => 0)), (fun _ => 0), (fun _ => 0)) dX1_isSenderSet_19 ⟨(Or.inr tI_1), (show (((1 : Int32).toInt = 0 ∧ x0.toInt ≤ 0) ∨ ((1 : Int32).toInt = 0 ∧ x0.toInt > 0 ∧ (1 ≤ x0.toInt ∧ x0.toInt ≤ 2147483647)) ∨ ((1 : Int32).toInt = 1 ∧ x0.toInt > 0 ∧ (1 ≤ x0.toInt ∧ x0.toInt ≤ 31))) from (by first | exact (om_1107 tI_1 c_1 c_3 ex_2 rx0.2) | (have k9 := tI_1; (first | omega | (unfold zBd at *; omega)))))⟩ (g_psub (wc := (zS_5 cB cC cI cJ a0 a1 a2 a3 x1 x2 x3 x4 x5 x6 x7)) hP [0] rfl) (hD.sub (ws' := (zS_5 cB cC cI cJ a0 a1 a2 a3 x1 x2 x3 x4 x5 x6 x7)) [0] (by decide) rfl) hS
set_option maxHeartbeats 4000000 in
set_option maxRecDepth 100000 in
theorem k_X1_isWord (l : Launch) (D : va_G) (cB cC cI cJ : ClassId) (sz : Nat) (a0 a1 a2 a3 : Nat) (x0 x1 x2 x3 x4 x5 x6 x7 : Int32) (h_x1 : zBd x1.toInt (-1) 8) (h_x2 : zBd x2.toInt (-1) 5) (h_x3 : zBd x3.toInt (-1) 6) (h_x4 : zBd x4.toInt 0 6) (h_x5 : zBd x5.toInt 0 16) : Met l yX1_isWord (.code yX1_isWord cX1_isWord 2 (some .boolean) :: lw_gd) ({ frames := 0, cells := 0, slots := 0, locals := 0 }) (gPre D [(cB, .byte), (cC, .char), (cI, .int), (cJ, .long)] [.ref a0, .int x0] (zS_5 cB cC cI cJ a0 a1 a2 a3 x1 x2 x3 x4 x5 x6 x7) sz) (va_Qi (fun r u => ((r.toInt = 0 ∧ x0.toInt < 0) ∨ (r.toInt = 0 ∧ x0.toInt ≥ 0 ∧ x0.toInt ≥ x5.toInt) ∨ (r.toInt = 1 ∧ x0.toInt ≥ 0 ∧ x0.toInt < x5.toInt))) (gB D (va_A (zS_5 cB cC cI cJ a0 a1 a2 a3 x1 x2 x3 x4 x5 x6 x7) sz) (fun u : gEx => (zS_5 cB cC cI cJ a0 a1 a2 a3 x1 x2 x3 x4 x5 x6 x7))) (va_A (zS_5 cB cC cI cJ a0 a1 a2 a3 x1 x2 x3 x4 x5 x6 x7) sz)) 0 0 (va_A (zS_5 cB cC cI cJ a0 a1 a2 a3 x1 x2 x3 x4 x5 x6 x7) sz) := by
  refine gOf_z (by decide +kernel) (Nat.le_of_ble_eq_true rfl) ?_
  intro p e s m args below meth c ls A Q hx hb hts hown hml hN hK hP hD hA hl hret
  replace hown : s.vm.findClass RX1 = some m.cls := hown
  have hS : va_S A s.heap s.heap [] := va_S.rf
  replace hP : va_P D gcl (zS_5 cB cC cI cJ a0 a1 a2 a3 x1 x2 x3 x4 x5 x6 x7) s.heap := hP
  replace hl : lv_has ls 2 [(0, .ref a0), (1, .int x0)] := hl
  have rx0 : zBd x0.toInt (-2147483648) 2147483647 := n_rng x0
  have rx6 : zBd x6.toInt (-2147483648) 2147483647 := n_rng x6
  have rx7 : zBd x7.toInt (-2147483648) 2147483647 := n_rng x7
  refine lv_iload_n (pc := 0) hx hb dX1_isWord_0 rfl (lv_at hl 1 rfl) ?_
  refine b_if_lt (pc := 1) (tgt := 16) hx hb rfl  dX1_isWord_1 (by decide) (fun c_1 => ?_) (fun c_1 => ?_)
  ·
    refine lv_iconst (pc := 16) (v := 0) hx hb dX1_isWord_16 (by decide) ?_
    exact hret 0 ((fun _ => 0), (fun _ => (fun _ => 0)), (fun _ => (fun _ => 0)), (fun _ => 0), (fun _ => 0)) dX1_isWord_17 ⟨(Or.inl tI_0), (show (((0 : Int32).toInt = 0 ∧ x0.toInt < 0) ∨ ((0 : Int32).toInt = 0 ∧ x0.toInt ≥ 0 ∧ x0.toInt ≥ x5.toInt) ∨ ((0 : Int32).toInt = 1 ∧ x0.toInt ≥ 0 ∧ x0.toInt < x5.toInt)) from (by first | exact (om_1078 tI_0 c_1) | (have k9 := tI_0; (first | omega | (unfold zBd at *; omega)))))⟩ (g_psub (wc := (zS_5 cB cC cI cJ a0 a1 a2 a3 x1 x2 x3 x4 x5 x6 x7)) hP [0] rfl) (hD.sub (ws' := (zS_5 cB cC cI cJ a0 a1 a2 a3 x1 x2 x3 x4 x5 x6 x7)) [0] (by decide) rfl) hS
  ·
    refine lv_iload_n (pc := 4) hx hb dX1_isWord_4 rfl (lv_at hl 1 rfl) ?_
    refine lv_aload_n (pc := 5) hx hb dX1_isWord_5 rfl (lv_at hl 0 rfl) ?_
    refine va_get (pc := 6) (ci := 1) (v := .int x5) (C := RX1) (T := TX1) (N := 10) hx hb hts iX1 hown hK hP 0 rfl rfl 7 (by decide) (hts _ tw_135) (fun _ h9 => h9) rfl dX1_isWord_6 ?_
    have bd_h_x5 : 0 ≤ x5.toInt ∧ x5.toInt ≤ 16 := h_x5
    refine b_icmp_ge (pc := 9) (tgt := 16) hx hb rfl rfl  dX1_isWord_9 (by decide) (fun c_2 => ?_) (fun c_2 => ?_)
    ·
      refine lv_iconst (pc := 16) (v := 0) hx hb dX1_isWord_16 (by decide) ?_
      exact hret 0 ((fun _ => 0), (fun _ => (fun _ => 0)), (fun _ => (fun _ => 0)), (fun _ => 0), (fun _ => 0)) dX1_isWord_17 ⟨(Or.inl tI_0), (show (((0 : Int32).toInt = 0 ∧ x0.toInt < 0) ∨ ((0 : Int32).toInt = 0 ∧ x0.toInt ≥ 0 ∧ x0.toInt ≥ x5.toInt) ∨ ((0 : Int32).toInt = 1 ∧ x0.toInt ≥ 0 ∧ x0.toInt < x5.toInt)) from (by first | exact (om_1079 tI_0 c_2) | (have k9 := tI_0; (first | omega | (unfold zBd at *; omega)))))⟩ (g_psub (wc := (zS_5 cB cC cI cJ a0 a1 a2 a3 x1 x2 x3 x4 x5 x6 x7)) hP [0] rfl) (hD.sub (ws' := (zS_5 cB cC cI cJ a0 a1 a2 a3 x1 x2 x3 x4 x5 x6 x7)) [0] (by decide) rfl) hS
    ·
      refine lv_iconst (pc := 12) (v := 1) hx hb dX1_isWord_12 (by decide) ?_
      refine lv_goto (pc := 13) (tgt := 17) hx hb dX1_isWord_13 (by decide) ?_
      exact hret 1 ((fun _ => 0), (fun _ => (fun _ => 0)), (fun _ => (fun _ => 0)), (fun _ => 0), (fun _ => 0)) dX1_isWord_17 ⟨(Or.inr tI_1), (show (((1 : Int32).toInt = 0 ∧ x0.toInt < 0) ∨ ((1 : Int32).toInt = 0 ∧ x0.toInt ≥ 0 ∧ x0.toInt ≥ x5.toInt) ∨ ((1 : Int32).toInt = 1 ∧ x0.toInt ≥ 0 ∧ x0.toInt < x5.toInt)) from (by first | exact (om_1080 tI_1 c_1 c_2) | (have k9 := tI_1; (first | omega | (unfold zBd at *; omega)))))⟩ (g_psub (wc := (zS_5 cB cC cI cJ a0 a1 a2 a3 x1 x2 x3 x4 x5 x6 x7)) hP [0] rfl) (hD.sub (ws' := (zS_5 cB cC cI cJ a0 a1 a2 a3 x1 x2 x3 x4 x5 x6 x7)) [0] (by decide) rfl) hS
theorem om_1108 {a b c : Int} (h0 : (a = c * 5)) (h1 : (b ≤ 4)) (h2 : (c ≤ 15)) : (a + b ≤ 2147483647) := by omega
theorem om_1109 {a b c d : Int} (h0 : (a = b + c)) (h1 : (b = d * 5)) (h2 : (c ≤ 4)) (h3 : (d ≤ 15)) : (a < (80 : Nat)) := by omega
set_option maxHeartbeats 4000000 in
set_option maxRecDepth 100000 in
theorem k_X1_letterOfWord (l : Launch) (D : va_G) (cB cC cI cJ : ClassId) (sz : Nat) (a0 a1 a2 a3 : Nat) (x0 x1 x2 x3 x4 x5 x6 x7 x8 : Int32) (f0 : Nat → Int32) (hp1 : (0 ≤ x0.toInt ∧ x0.toInt ≤ 15)) (hp2 : (0 ≤ x1.toInt ∧ x1.toInt ≤ 4)) (h_x2 : zBd x2.toInt (-1) 8) (h_x3 : zBd x3.toInt (-1) 5) (h_x4 : zBd x4.toInt (-1) 6) (h_x5 : zBd x5.toInt 0 6) (h_x6 : zBd x6.toInt 0 16) (hf_f0 : (∀ j, (-7) ≤ (f0 j).toInt ∧ (f0 j).toInt ≤ 7)) : Met l yX1_letterOfWord (.code yX1_letterOfWord cX1_letterOfWord 3 (some .int) :: lw_gd) ({ frames := 0, cells := 0, slots := 0, locals := 0 }) (gPre D [(cB, .byte), (cC, .char), (cI, .int), (cJ, .long)] [.ref a0, .int x0, .int x1] (zS_41 cB cC cI cJ a0 a1 a2 a3 x2 x3 x4 x5 x6 x7 x8 a3 f0) sz) (va_Qi (fun r u => ((((-7) ≤ r.toInt ∧ r.toInt ≤ 7)))) (gB D (va_A (zS_41 cB cC cI cJ a0 a1 a2 a3 x2 x3 x4 x5 x6 x7 x8 a3 f0) sz) (fun u : gEx => (zS_41 cB cC cI cJ a0 a1 a2 a3 x2 x3 x4 x5 x6 x7 x8 a3 f0))) (va_A (zS_41 cB cC cI cJ a0 a1 a2 a3 x2 x3 x4 x5 x6 x7 x8 a3 f0) sz)) 0 0 (va_A (zS_41 cB cC cI cJ a0 a1 a2 a3 x2 x3 x4 x5 x6 x7 x8 a3 f0) sz) := by
  refine gOf_i (by decide +kernel) (Nat.le_of_ble_eq_true rfl) ?_
  intro p e s m args below meth c ls A Q hx hb hts hown hml hN hK hP hD hA hl hret
  replace hown : s.vm.findClass RX1 = some m.cls := hown
  have hS : va_S A s.heap s.heap [] := va_S.rf
  replace hP : va_P D gcl (zS_41 cB cC cI cJ a0 a1 a2 a3 x2 x3 x4 x5 x6 x7 x8 a3 f0) s.heap := hP
  replace hl : lv_has ls 3 [(0, .ref a0), (1, .int x0), (2, .int x1)] := hl
  have rx7 : zBd x7.toInt (-2147483648) 2147483647 := n_rng x7
  have rx8 : zBd x8.toInt (-2147483648) 2147483647 := n_rng x8
  refine lv_aload_n (pc := 0) hx hb dX1_letterOfWord_0 rfl (lv_at hl 0 rfl) ?_
  refine va_get (pc := 1) (ci := 1) (v := .ref a3) (C := RX1) (T := TX1) (N := 10) hx hb hts iX1 hown hK hP 0 rfl rfl 2 (by decide) (hts _ tw_108) (fun _ h9 => h9) rfl dX1_letterOfWord_1 ?_
  refine lv_iload_n (pc := 4) hx hb dX1_letterOfWord_4 rfl (lv_at hl 1 rfl) ?_
  refine lv_iconst (pc := 5) (v := 5) hx hb dX1_letterOfWord_5 (by decide) ?_
  refine b_imul (pc := 6) hx hb rfl tI_5 (by first | exact (om_330 hp1.1) | ((first | omega | (unfold zBd at *; omega)))) (by first | exact (om_331 hp1.2) | ((first | omega | (unfold zBd at *; omega)))) dX1_letterOfWord_6 (fun x_1 ex_1 => ?_)
  refine lv_iload_n (pc := 7) hx hb dX1_letterOfWord_7 rfl (lv_at hl 2 rfl) ?_
  refine b_iadd (pc := 8) hx hb rfl rfl (by first | exact (om_332 ex_1 hp2.1 hp1.1) | ((first | omega | (unfold zBd at *; omega)))) (by first | exact (om_1108 ex_1 hp2.2 hp1.2) | ((first | omega | (unfold zBd at *; omega)))) dX1_letterOfWord_8 (fun x_2 ex_2 => ?_)
  refine va_iald (pc := 9) hx hb hK hP 1 2 rfl rfl (n_in rfl (by first | exact (om_334 ex_2 ex_1 hp2.1 hp1.1) | ((first | omega | (unfold zBd at *; omega)))) (by first | exact (om_1109 ex_2 ex_1 hp2.2 hp1.2) | ((first | omega | (unfold zBd at *; omega))))) dX1_letterOfWord_9 ?_
  refine lv_topi (fun x_3 ex_3 => ?_)
  have rx_3 : ((-7) ≤ x_3.toInt ∧ x_3.toInt ≤ 7) := by rw [ex_3]; exact hf_f0 _
  exact hret x_3 ((fun _ => 0), (fun _ => (fun _ => 0)), (fun _ => (fun _ => 0)), (fun _ => 0), (fun _ => 0)) dX1_letterOfWord_10 (show ((((-7) ≤ x_3.toInt ∧ x_3.toInt ≤ 7))) from rx_3) (g_psub (wc := (zS_41 cB cC cI cJ a0 a1 a2 a3 x2 x3 x4 x5 x6 x7 x8 a3 f0)) hP [0, 1] rfl) (hD.sub (ws' := (zS_41 cB cC cI cJ a0 a1 a2 a3 x2 x3 x4 x5 x6 x7 x8 a3 f0)) [0, 1] (by decide) rfl) hS
set_option maxHeartbeats 4000000 in
set_option maxRecDepth 100000 in
theorem k_X1_letterOfWord_E (l : Launch) (D : va_G) (cB cC cI cJ : ClassId) (sz : Nat) (a0 a1 a2 a3 : Nat) (x0 x1 x2 x3 x4 x5 x6 x7 x8 : Int32) (f0 : Nat → Int32) (hp1 : (0 ≤ x0.toInt ∧ x0.toInt ≤ 15)) (hp2 : (0 ≤ x1.toInt ∧ x1.toInt ≤ 4)) (h_x2 : zBd x2.toInt (-1) 8) (h_x3 : zBd x3.toInt (-1) 5) (h_x4 : zBd x4.toInt (-1) 6) (h_x5 : zBd x5.toInt 0 6) (h_x6 : zBd x6.toInt 0 16) (hf_f0 : (∀ j, (-7) ≤ (f0 j).toInt ∧ (f0 j).toInt ≤ 7)) : Met l yX1_letterOfWord (.code yX1_letterOfWord cX1_letterOfWord 3 (some .int) :: lw_gd) ({ frames := 0, cells := 0, slots := 0, locals := 0 }) (gPre D [(cB, .byte), (cC, .char), (cI, .int), (cJ, .long)] [.ref a0, .int x0, .int x1] (zS_41 cB cC cI cJ a0 a1 a2 a3 x2 x3 x4 x5 x6 x7 x8 a3 f0) sz) (va_Qi (fun r u => ((((-7) ≤ r.toInt ∧ r.toInt ≤ 7))) ∧ (r.toInt = (f0 (ixW x0.toInt x1.toInt).toNat).toInt)) (gB D (va_A (zS_41 cB cC cI cJ a0 a1 a2 a3 x2 x3 x4 x5 x6 x7 x8 a3 f0) sz) (fun u : gEx => (zS_41 cB cC cI cJ a0 a1 a2 a3 x2 x3 x4 x5 x6 x7 x8 a3 f0))) (va_A (zS_41 cB cC cI cJ a0 a1 a2 a3 x2 x3 x4 x5 x6 x7 x8 a3 f0) sz)) 0 0 (va_A (zS_41 cB cC cI cJ a0 a1 a2 a3 x2 x3 x4 x5 x6 x7 x8 a3 f0) sz) := by
  refine gOf_i (by decide +kernel) (Nat.le_of_ble_eq_true rfl) ?_
  intro p e s m args below meth c ls A Q hx hb hts hown hml hN hK hP hD hA hl hret
  replace hown : s.vm.findClass RX1 = some m.cls := hown
  have hS : va_S A s.heap s.heap [] := va_S.rf
  replace hP : va_P D gcl (zS_41 cB cC cI cJ a0 a1 a2 a3 x2 x3 x4 x5 x6 x7 x8 a3 f0) s.heap := hP
  replace hl : lv_has ls 3 [(0, .ref a0), (1, .int x0), (2, .int x1)] := hl
  have rx7 : zBd x7.toInt (-2147483648) 2147483647 := n_rng x7
  have rx8 : zBd x8.toInt (-2147483648) 2147483647 := n_rng x8
  refine lv_aload_n (pc := 0) hx hb dX1_letterOfWord_0 rfl (lv_at hl 0 rfl) ?_
  refine va_get (pc := 1) (ci := 1) (v := .ref a3) (C := RX1) (T := TX1) (N := 10) hx hb hts iX1 hown hK hP 0 rfl rfl 2 (by decide) (hts _ tw_108) (fun _ h9 => h9) rfl dX1_letterOfWord_1 ?_
  refine lv_iload_n (pc := 4) hx hb dX1_letterOfWord_4 rfl (lv_at hl 1 rfl) ?_
  refine lv_iconst (pc := 5) (v := 5) hx hb dX1_letterOfWord_5 (by decide) ?_
  refine b_imul (pc := 6) hx hb rfl tI_5 (by first | exact (om_330 hp1.1) | ((first | omega | (unfold zBd at *; omega)))) (by first | exact (om_331 hp1.2) | ((first | omega | (unfold zBd at *; omega)))) dX1_letterOfWord_6 (fun x_1 ex_1 => ?_)
  refine lv_iload_n (pc := 7) hx hb dX1_letterOfWord_7 rfl (lv_at hl 2 rfl) ?_
  refine b_iadd (pc := 8) hx hb rfl rfl (by first | exact (om_332 ex_1 hp2.1 hp1.1) | ((first | omega | (unfold zBd at *; omega)))) (by first | exact (om_1108 ex_1 hp2.2 hp1.2) | ((first | omega | (unfold zBd at *; omega)))) dX1_letterOfWord_8 (fun x_2 ex_2 => ?_)
  refine va_iald (pc := 9) hx hb hK hP 1 2 rfl rfl (n_in rfl (by first | exact (om_334 ex_2 ex_1 hp2.1 hp1.1) | ((first | omega | (unfold zBd at *; omega)))) (by first | exact (om_1109 ex_2 ex_1 hp2.2 hp1.2) | ((first | omega | (unfold zBd at *; omega))))) dX1_letterOfWord_9 ?_
  refine lv_topi (fun x_3 ex_3 => ?_)
  have rx_3 : ((-7) ≤ x_3.toInt ∧ x_3.toInt ≤ 7) := by rw [ex_3]; exact hf_f0 _
  replace ex_3 : x_3 = f0 (x_2.toInt).toNat := ex_3
  have tx_3 := congrArg Int32.toInt ex_3
  exact hret x_3 ((fun _ => 0), (fun _ => (fun _ => 0)), (fun _ => (fun _ => 0)), (fun _ => 0), (fun _ => 0)) dX1_letterOfWord_10 ⟨(show ((((-7) ≤ x_3.toInt ∧ x_3.toInt ≤ 7))) from rx_3), (show x_3.toInt = (f0 (ixW x0.toInt x1.toInt).toNat).toInt from congrArg Int32.toInt (e_ld ex_3 (show _ = ixW x0.toInt x1.toInt by unfold ixW; (first | omega | (unfold zBd at *; omega)))).symm)⟩ (g_psub (wc := (zS_41 cB cC cI cJ a0 a1 a2 a3 x2 x3 x4 x5 x6 x7 x8 a3 f0)) hP [0, 1] rfl) (hD.sub (ws' := (zS_41 cB cC cI cJ a0 a1 a2 a3 x2 x3 x4 x5 x6 x7 x8 a3 f0)) [0, 1] (by decide) rfl) hS
theorem om_1110 {a b c : Int} (h0 : (a = b + 1)) (h1 : (0 ≤ b)) (h2 : (b < c)) (h3 : (c ≤ 16)) : ((0 ≤ a ∧ a ≤ 16)) := by omega
theorem om_1111 {a b c : Int} (h0 : ((a = b ∧ c ≤ b) ∨ (a = c ∧ b < c))) (h1 : (0 ≤ b)) (h2 : (b ≤ 245)) (h3 : (c ≤ 245)) : ((0 ≤ a ∧ a ≤ 245)) := by omega
theorem om_1112 {a b : Int} (h0 : (0 ≤ a)) (h1 : (a < b)) (h2 : (b ≤ 16)) : ((0 ≤ a ∧ a ≤ 15)) := by omega
theorem om_1113 {a : Int} (h0 : ((-7) ≤ a)) (h1 : (a ≤ 7)) : (-7 ≤ a ∧ a ≤ 7) := by omega
theorem om_1114 {a b : Int} (h0 : (-(7 * 7) ≤ a * b)) : (-2147483648 ≤ a * b) := by omega
theorem om_1115 {a b : Int} (h0 : (a * b ≤ 7 * 7)) : (a * b ≤ 2147483647) := by omega
theorem om_1116 {a b c : Int} (h0 : (a = b * c)) (h1 : (-(7 * 7) ≤ b * c)) (h2 : (b * c ≤ 7 * 7)) : (((-49) ≤ a ∧ a ≤ 49)) := by omega
theorem om_1117 {a b : Int} (h0 : ((-49) ≤ b)) (h1 : ((-245) ≤ a)) : (-2147483648 ≤ a + b) := by omega
theorem om_1118 {a b : Int} (h0 : (b ≤ 49)) (h1 : (a ≤ 245)) : (a + b ≤ 2147483647) := by omega
theorem om_1119 {a b c d e : Int} (h0 : (a = b + c)) (h1 : ((-49) ≤ c)) (h2 : (-49 * d ≤ b)) (h3 : (d < e)) (h4 : (e ≤ 5)) (h5 : (c ≤ 49)) (h6 : (b ≤ 49 * d)) : (((-245) ≤ a ∧ a ≤ 245)) := by omega
theorem om_1120 {a b c d e : Int} (h0 : (a = c + 1)) (h1 : (b = d + e)) (h2 : ((-49) ≤ e)) (h3 : (-49 * c ≤ d)) (h4 : (e ≤ 49)) (h5 : (d ≤ 49 * c)) : ((-49 * a ≤ b ∧ b ≤ 49 * a)) := by omega
set_option maxHeartbeats 4000000 in
set_option maxRecDepth 100000 in
theorem k_X1_mostPower (l : Launch) (D : va_G) (cB cC cI cJ : ClassId) (sz : Nat) (a0 a1 a2 a3 : Nat) (x0 x1 x2 x3 x4 x5 x6 : Int32) (f0 : Nat → Int32) (h_x0 : zBd x0.toInt (-1) 8) (h_x1 : zBd x1.toInt (-1) 5) (h_x2 : zBd x2.toInt (-1) 6) (h_x3 : zBd x3.toInt 0 6) (h_x4 : zBd x4.toInt 0 16) (hf_f0 : (∀ j, (-7) ≤ (f0 j).toInt ∧ (f0 j).toInt ≤ 7)) : Met l yX1_mostPower (.code yX1_mostPower cX1_mostPower 5 (some .int) :: lw_gd) ({ frames := 1, cells := 0, slots := 0, locals := 22 }) (gPre D [(cB, .byte), (cC, .char), (cI, .int), (cJ, .long)] [.ref a0] (zS_41 cB cC cI cJ a0 a1 a2 a3 x0 x1 x2 x3 x4 x5 x6 a3 f0) sz) (va_Qi (fun r u => (0 ≤ r.toInt ∧ r.toInt ≤ 245) ∧ (r.toInt = mxP (wP f0 x1.toInt) (x4.toInt).toNat)) (gB D (va_A (zS_41 cB cC cI cJ a0 a1 a2 a3 x0 x1 x2 x3 x4 x5 x6 a3 f0) sz) (fun u : gEx => (zS_41 cB cC cI cJ a0 a1 a2 a3 x0 x1 x2 x3 x4 x5 x6 a3 f0))) (va_A (zS_41 cB cC cI cJ a0 a1 a2 a3 x0 x1 x2 x3 x4 x5 x6 a3 f0) sz)) 0 0 (va_A (zS_41 cB cC cI cJ a0 a1 a2 a3 x0 x1 x2 x3 x4 x5 x6 a3 f0) sz) := by
  refine gOf_i (by decide +kernel) (Nat.le_of_ble_eq_true rfl) ?_
  intro p e s m args below meth c ls A Q hx hb hts hown hml hN hK hP hD hA hl hret
  replace hown : s.vm.findClass RX1 = some m.cls := hown
  have hS : va_S A s.heap s.heap [] := va_S.rf
  replace hP : va_P D gcl (zS_41 cB cC cI cJ a0 a1 a2 a3 x0 x1 x2 x3 x4 x5 x6 a3 f0) s.heap := hP
  replace hl : lv_has ls 5 [(0, .ref a0)] := hl
  have rx5 : zBd x5.toInt (-2147483648) 2147483647 := n_rng x5
  have rx6 : zBd x6.toInt (-2147483648) 2147483647 := n_rng x6
  refine lv_iconst (pc := 0) (v := 0) hx hb dX1_mostPower_0 (by decide) ?_
  refine lv_istore_n (pc := 1) (lv' := [(1, .int 0), (0, .ref a0)]) hx hb dX1_mostPower_1 rfl hl (by decide) rfl (fun ls hl => ?_)
  refine lv_iconst (pc := 2) (v := 0) hx hb dX1_mostPower_2 (by decide) ?_
  refine lv_istore_n (pc := 3) (lv' := [(2, .int 0), (1, .int 0), (0, .ref a0)]) hx hb dX1_mostPower_3 rfl hl (by decide) rfl (fun ls hl => ?_)
  have lp_7 : ∀ (n : Nat) (x_1 x_3 : Int32) (H : Heap) (locs : List Loc) (ls : Array Slot), (0 ≤ x_1.toInt ∧ x_1.toInt ≤ 16) → (0 ≤ x_3.toInt ∧ x_3.toInt ≤ 245) → (x_1.toInt ≤ x4.toInt ∨ x_1.toInt = 0) → (x_3.toInt = mxP (wP f0 x1.toInt) (x_1.toInt).toNat) → (2147483647 - x_1.toInt).toNat < n → va_P D gcl (zS_41 cB cC cI cJ a0 a1 a2 a3 x0 x1 x2 x3 x4 x5 x6 a3 f0) H → va_D A (zS_41 cB cC cI cJ a0 a1 a2 a3 x0 x1 x2 x3 x4 x5 x6 a3 f0) → va_S A s.heap H locs → lv_has ls 5 [(2, .int x_1), (1, .int x_3), (0, .ref a0)] → W p l e ({ frames := 1, cells := 0, slots := 0, locals := 22 }) s m args below meth c H locs 0 0 Q (F0 m 4 ls []) := by
    intro n
    induction n with
    | zero => intro x_1 x_3 H locs ls hi_2 hi_4 hi_5 hi_6 hmu; exact absurd hmu (Nat.not_lt_zero _)
    | succ n ih_lp_7 =>
      intro x_1 x_3 H locs ls hi_2 hi_4 hi_5 hi_6 hmu_lp_7 hP hD hS hl
      refine lv_iload_n (pc := 4) hx hb dX1_mostPower_4 rfl (lv_at hl 0 rfl) ?_
      refine lv_aload_n (pc := 5) hx hb dX1_mostPower_5 rfl (lv_at hl 2 rfl) ?_
      refine va_get (pc := 6) (ci := 1) (v := .int x4) (C := RX1) (T := TX1) (N := 10) hx hb hts iX1 hown hK hP 0 rfl rfl 7 (by decide) (hts _ tw_135) (fun _ h9 => h9) rfl dX1_mostPower_6 ?_
      have bd_h_x4 : 0 ≤ x4.toInt ∧ x4.toInt ≤ 16 := h_x4
      refine b_icmp_ge (pc := 9) (tgt := 62) hx hb rfl rfl  dX1_mostPower_9 (by decide) (fun c_8 => ?_) (fun c_8 => ?_)
      ·
        refine lv_iload_n (pc := 62) hx hb dX1_mostPower_62 rfl (lv_at hl 1 rfl) ?_
        exact hret x_3 ((fun _ => 0), (fun _ => (fun _ => 0)), (fun _ => (fun _ => 0)), (fun _ => 0), (fun _ => 0)) dX1_mostPower_63 ⟨(show (0 ≤ x_3.toInt ∧ x_3.toInt ≤ 245) from hi_4), (show x_3.toInt = mxP (wP f0 x1.toInt) (x4.toInt).toNat from (by have e9 : (x_1.toInt).toNat = (x4.toInt).toNat := (by (first | omega | (unfold zBd at *; omega))); have q9 := hi_6; rw [e9] at q9; exact q9))⟩ (g_psub (wc := (zS_41 cB cC cI cJ a0 a1 a2 a3 x0 x1 x2 x3 x4 x5 x6 a3 f0)) hP [0, 1] rfl) (hD.sub (ws' := (zS_41 cB cC cI cJ a0 a1 a2 a3 x0 x1 x2 x3 x4 x5 x6 a3 f0)) [0, 1] (by decide) rfl) hS
      ·
        refine lv_iconst (pc := 12) (v := 0) hx hb dX1_mostPower_12 (by decide) ?_
        refine lv_istore_n (pc := 13) (lv' := [(3, .int 0), (2, .int x_1), (1, .int x_3), (0, .ref a0)]) hx hb dX1_mostPower_13 rfl hl (by decide) rfl (fun ls hl => ?_)
        refine lv_iconst (pc := 14) (v := 0) hx hb dX1_mostPower_14 (by decide) ?_
        refine lv_istore (pc := 15) (lv' := [(4, .int 0), (3, .int 0), (2, .int x_1), (1, .int x_3), (0, .ref a0)]) hx hb dX1_mostPower_15 hl (by decide) rfl (fun ls hl => ?_)
        have lp_16 : ∀ (n : Nat) (x_9 x_11 : Int32) (H : Heap) (locs : List Loc) (ls : Array Slot), (0 ≤ x_9.toInt ∧ x_9.toInt ≤ 5) → ((-245) ≤ x_11.toInt ∧ x_11.toInt ≤ 245) → (x_9.toInt ≤ x1.toInt ∨ x_9.toInt = 0) → (-49 * x_9.toInt ≤ x_11.toInt ∧ x_11.toInt ≤ 49 * x_9.toInt) → (x_11.toInt = sqS (fun s : Nat => (f0 (5 * x_1.toInt + (s : Int)).toNat).toInt) (x_9.toInt).toNat) → (2147483647 - x_9.toInt).toNat < n → va_P D gcl (zS_41 cB cC cI cJ a0 a1 a2 a3 x0 x1 x2 x3 x4 x5 x6 a3 f0) H → va_D A (zS_41 cB cC cI cJ a0 a1 a2 a3 x0 x1 x2 x3 x4 x5 x6 a3 f0) → va_S A s.heap H locs → lv_has ls 5 [(4, .int x_9), (3, .int x_11), (2, .int x_1), (1, .int x_3), (0, .ref a0)] → W p l e ({ frames := 1, cells := 0, slots := 0, locals := 22 }) s m args below meth c H locs 0 0 Q (F0 m 17 ls []) := by
          intro n
          induction n with
          | zero => intro x_9 x_11 H locs ls hi_10 hi_12 hi_13 hi_14 hi_15 hmu; exact absurd hmu (Nat.not_lt_zero _)
          | succ n ih_lp_16 =>
            intro x_9 x_11 H locs ls hi_10 hi_12 hi_13 hi_14 hi_15 hmu_lp_16 hP hD hS hl
            refine lv_iload (pc := 17) hx hb dX1_mostPower_17 (lv_at hl 0 rfl) ?_
            refine lv_aload_n (pc := 19) hx hb dX1_mostPower_19 rfl (lv_at hl 4 rfl) ?_
            refine va_get (pc := 20) (ci := 1) (v := .int x1) (C := RX1) (T := TX1) (N := 10) hx hb hts iX1 hown hK hP 0 rfl rfl 4 (by decide) (hts _ tw_116) (fun _ h9 => h9) rfl dX1_mostPower_20 ?_
            have bd_h_x1 : (-1) ≤ x1.toInt ∧ x1.toInt ≤ 5 := h_x1
            refine b_icmp_ge (pc := 23) (tgt := 50) hx hb rfl rfl  dX1_mostPower_23 (by decide) (fun c_17 => ?_) (fun c_17 => ?_)
            ·
              refine lv_iload_n (pc := 50) hx hb dX1_mostPower_50 rfl (lv_at hl 3 rfl) ?_
              refine lv_iload_n (pc := 51) hx hb dX1_mostPower_51 rfl (lv_at hl 1 rfl) ?_
              refine va_mmax (pc := 52) hx hb (hml.trans hl.1.symm) hown (hts _ tw_1191) (hts _ tw_885) (hts _ tw_19) (hts _ tw_886) (Nat.le_of_ble_eq_true rfl) (Nat.le_of_ble_eq_true rfl) (Nat.le_of_ble_eq_true rfl) (Nat.le_of_ble_eq_true rfl) dX1_mostPower_52 ?_
              refine lv_topi (fun x_18 ex_18 => ?_)
              have ex_18 := n_max rfl rfl ex_18
              have rx_18 : zBd x_18.toInt (-2147483648) 2147483647 := n_rng x_18
              refine lv_istore_n (pc := 55) (lv' := [(1, .int x_18), (4, .int x_9), (3, .int x_11), (2, .int x_1), (0, .ref a0)]) hx hb dX1_mostPower_55 rfl hl (by decide) rfl (fun ls hl => ?_)
              refine b_iinc (pc := 56) hx hb dX1_mostPower_56 hl (k := 3) rfl rfl tI_1 (by first | exact (om_2 hi_2.1) | ((first | omega | (unfold zBd at *; omega)))) (by first | exact (om_940 hi_2.2) | ((first | omega | (unfold zBd at *; omega)))) (by decide) (fun x_19 ex_19 ls hl => ?_)
              replace hl : lv_has ls 5 [(2, .int x_19), (1, .int x_18), (4, .int x_9), (3, .int x_11), (0, .ref a0)] := hl
              refine lv_goto (pc := 59) (tgt := 4) hx hb dX1_mostPower_59 (by decide) ?_
              exact ih_lp_7 x_19 x_18 _ _ ls (by first | exact (om_1110 ex_19 hi_2.1 c_8 h_x4.2) | ((first | omega | (unfold zBd at *; omega)))) (by first | exact (om_1111 ex_18 hi_4.1 hi_4.2 hi_12.2) | ((first | omega | (unfold zBd at *; omega)))) (by first | exact (om_344 ex_19 c_8) | ((first | omega | (unfold zBd at *; omega)))) (mx_step (v := x_11.toInt) hi_6 (by have e9 : (x_9.toInt).toNat = (x1.toInt).toNat := (by (first | omega | (unfold zBd at *; omega))); have q9 := hi_15; rw [e9] at q9; exact q9) (by (first | omega | (unfold zBd at *; omega))) (by (first | omega | (unfold zBd at *; omega))) (by (first | omega | (unfold zBd at *; omega)))) (by (first | omega | (unfold zBd at *; omega))) hP hD hS (lv_sub hl [0, 1, 4] rfl)
            ·
              refine lv_iload_n (pc := 26) hx hb dX1_mostPower_26 rfl (lv_at hl 1 rfl) ?_
              refine lv_aload_n (pc := 27) hx hb dX1_mostPower_27 rfl (lv_at hl 4 rfl) ?_
              refine lv_iload_n (pc := 28) hx hb dX1_mostPower_28 rfl (lv_at hl 2 rfl) ?_
              refine lv_iload (pc := 29) hx hb dX1_mostPower_29 (lv_at hl 0 rfl) ?_
              refine gd_i (pc := 31) (wc := (zS_41 cB cC cI cJ a0 a1 a2 a3 x0 x1 x2 x3 x4 x5 x6 a3 f0)) hP hD hS hA [0, 1] rfl (by decide +kernel) (fun _ => by rfl) (fun hPc hDc => va_runV (As := [.int x_1, .int x_9]) (rest := [.int x_11]) ⟨hx, hb, hml, hown, hts⟩ (k_X1_letterOfWord_E l D cB cC cI cJ _ a0 a1 a2 a3 x_1 x_9 x0 x1 x2 x3 x4 x5 x6 f0 (by first | exact (om_1112 hi_2.1 c_8 h_x4.2) | ((first | omega | (unfold zBd at *; omega)))) (by first | exact (om_360 hi_10.1 c_17 h_x1.2) | ((first | omega | (unfold zBd at *; omega)))) h_x0 h_x1 h_x2 h_x3 h_x4 hf_f0) ⟨gcwB hts tw_1181 tw_4 tw_1190 hd_yX1_letterOfWord ⟨Nat.le_of_ble_eq_true rfl, Nat.le_of_ble_eq_true rfl⟩, hts _ tw_1179, hts _ tw_1180⟩ ⟨gblind, va_recv hK hPc (ci := 1) (q0 := 0) rfl rfl, (gpreS hPc hK hDc hN).2⟩ rfl rfl hl.1 rfl (lv_room (Nat.le_of_ble_eq_true rfl)) dX1_mostPower_31 ⟨Nat.le_of_ble_eq_true rfl, Nat.le_of_ble_eq_true rfl⟩) (fun r_21 u_20 H locs hw_22 hP hD hS => ?_)
              replace hP : va_P D gcl (zS_41 cB cC cI cJ a0 a1 a2 a3 x0 x1 x2 x3 x4 x5 x6 a3 f0) H := hP
              replace hD : va_D A (zS_41 cB cC cI cJ a0 a1 a2 a3 x0 x1 x2 x3 x4 x5 x6 a3 f0) := hD
              obtain ⟨hw_23, hw_24⟩ := hw_22
              replace hw_23 : ((((-7) ≤ r_21.toInt ∧ r_21.toInt ≤ 7))) := hw_23
              replace hw_24 : (r_21.toInt = (f0 (ixW x_1.toInt x_9.toInt).toNat).toInt) := hw_24
              have rr_21 : zBd r_21.toInt (-2147483648) 2147483647 := n_rng r_21
              refine lv_aload_n (pc := 34) hx hb dX1_mostPower_34 rfl (lv_at hl 4 rfl) ?_
              refine lv_iload_n (pc := 35) hx hb dX1_mostPower_35 rfl (lv_at hl 2 rfl) ?_
              refine lv_iload (pc := 36) hx hb dX1_mostPower_36 (lv_at hl 0 rfl) ?_
              refine gd_i (pc := 38) (wc := (zS_41 cB cC cI cJ a0 a1 a2 a3 x0 x1 x2 x3 x4 x5 x6 a3 f0)) hP hD hS hA [0, 1] rfl (by decide +kernel) (fun _ => by rfl) (fun hPc hDc => va_runV (As := [.int x_1, .int x_9]) (rest := [.int r_21, .int x_11]) ⟨hx, hb, hml, hown, hts⟩ (k_X1_letterOfWord_E l D cB cC cI cJ _ a0 a1 a2 a3 x_1 x_9 x0 x1 x2 x3 x4 x5 x6 f0 (by first | exact (om_1112 hi_2.1 c_8 h_x4.2) | ((first | omega | (unfold zBd at *; omega)))) (by first | exact (om_360 hi_10.1 c_17 h_x1.2) | ((first | omega | (unfold zBd at *; omega)))) h_x0 h_x1 h_x2 h_x3 h_x4 hf_f0) ⟨gcwB hts tw_1181 tw_4 tw_1190 hd_yX1_letterOfWord ⟨Nat.le_of_ble_eq_true rfl, Nat.le_of_ble_eq_true rfl⟩, hts _ tw_1179, hts _ tw_1180⟩ ⟨gblind, va_recv hK hPc (ci := 1) (q0 := 0) rfl rfl, (gpreS hPc hK hDc hN).2⟩ rfl rfl hl.1 rfl (lv_room (Nat.le_of_ble_eq_true rfl)) dX1_mostPower_38 ⟨Nat.le_of_ble_eq_true rfl, Nat.le_of_ble_eq_true rfl⟩) (fun r_26 u_25 H locs hw_27 hP hD hS => ?_)
              replace hP : va_P D gcl (zS_41 cB cC cI cJ a0 a1 a2 a3 x0 x1 x2 x3 x4 x5 x6 a3 f0) H := hP
              replace hD : va_D A (zS_41 cB cC cI cJ a0 a1 a2 a3 x0 x1 x2 x3 x4 x5 x6 a3 f0) := hD
              obtain ⟨hw_28, hw_29⟩ := hw_27
              replace hw_28 : ((((-7) ≤ r_26.toInt ∧ r_26.toInt ≤ 7))) := hw_28
              replace hw_29 : (r_26.toInt = (f0 (ixW x_1.toInt x_9.toInt).toNat).toInt) := hw_29
              have rr_26 : zBd r_26.toInt (-2147483648) 2147483647 := n_rng r_26
              have qx_30 := n_mulb (A := 7) (B := 7) (by decide) (by decide) (show -7 ≤ r_21.toInt ∧ r_21.toInt ≤ 7 from (by first | exact (om_1113 hw_23.1 hw_23.2) | ((first | omega | (unfold zBd at *; omega))))) (show -7 ≤ r_26.toInt ∧ r_26.toInt ≤ 7 from (by first | exact (om_1113 hw_28.1 hw_28.2) | ((first | omega | (unfold zBd at *; omega)))))
              refine b_imul (pc := 41) hx hb rfl rfl (by first | exact (om_1114 qx_30.1) | ((first | omega | (unfold zBd at *; omega)))) (by first | exact (om_1115 qx_30.2) | ((first | omega | (unfold zBd at *; omega)))) dX1_mostPower_41 (fun x_30 ex_30 => ?_)
              have rx_30 : ((-49) ≤ x_30.toInt ∧ x_30.toInt ≤ 49) := (by first | exact (om_1116 ex_30 qx_30.1 qx_30.2) | ((first | omega | (unfold zBd at *; omega))))
              refine b_iadd (pc := 42) hx hb rfl rfl (by first | exact (om_1117 rx_30.1 hi_12.1) | ((first | omega | (unfold zBd at *; omega)))) (by first | exact (om_1118 rx_30.2 hi_12.2) | ((first | omega | (unfold zBd at *; omega)))) dX1_mostPower_42 (fun x_31 ex_31 => ?_)
              refine lv_istore_n (pc := 43) (lv' := [(3, .int x_31), (4, .int x_9), (2, .int x_1), (1, .int x_3), (0, .ref a0)]) hx hb dX1_mostPower_43 rfl hl (by decide) rfl (fun ls hl => ?_)
              refine b_iinc (pc := 44) hx hb dX1_mostPower_44 hl (k := 1) rfl rfl tI_1 (by first | exact (om_2 hi_10.1) | ((first | omega | (unfold zBd at *; omega)))) (by first | exact (om_357 hi_10.2) | ((first | omega | (unfold zBd at *; omega)))) (by decide) (fun x_32 ex_32 ls hl => ?_)
              replace hl : lv_has ls 5 [(4, .int x_32), (3, .int x_31), (2, .int x_1), (1, .int x_3), (0, .ref a0)] := hl
              refine lv_goto (pc := 47) (tgt := 17) hx hb dX1_mostPower_47 (by decide) ?_
              exact ih_lp_16 x_32 x_31 _ _ ls (by first | exact (om_1026 ex_32 hi_10.1 c_17 h_x1.2) | ((first | omega | (unfold zBd at *; omega)))) (by first | exact (om_1119 ex_31 rx_30.1 hi_14.1 c_17 h_x1.2 rx_30.2 hi_14.2) | ((first | omega | (unfold zBd at *; omega)))) (by first | exact (om_344 ex_32 c_17) | ((first | omega | (unfold zBd at *; omega)))) (by first | exact (om_1120 ex_32 ex_31 rx_30.1 hi_14.1 rx_30.2 hi_14.2) | ((first | omega | (unfold zBd at *; omega)))) (sqS_two (z := x_30.toInt) hi_15 (wS_e hw_24 (by first | exact (om_0 hi_10.1) | ((first | omega | (unfold zBd at *; omega))))) (wS_e hw_29 (by first | exact (om_0 hi_10.1) | ((first | omega | (unfold zBd at *; omega))))) (by (first | omega | (unfold zBd at *; omega))) (by first | exact (om_0 hi_10.1) | ((first | omega | (unfold zBd at *; omega)))) (by first | exact (om_5 ex_32) | ((first | omega | (unfold zBd at *; omega)))) (by (first | omega | (unfold zBd at *; omega)))) (by (first | omega | (unfold zBd at *; omega))) hP hD hS (lv_sub hl [0, 1, 2, 3, 4] rfl)
        exact lp_16 _ 0 0 _ _ ls (n_c tI_0 (by decide)) (n_c tI_0 (by decide)) (by have q := tI_0; (first | omega | (unfold zBd at *; omega))) (by have q := tI_0; (first | omega | (unfold zBd at *; omega))) (tI_0) (Nat.lt_succ_self _) hP hD hS (lv_sub hl [0, 1, 2, 3, 4] rfl)
  exact lp_7 _ 0 0 _ _ ls (n_c tI_0 (by decide)) (n_c tI_0 (by decide)) (by have q := tI_0; (first | omega | (unfold zBd at *; omega))) (tI_0) (Nat.lt_succ_self _) hP hD hS (lv_sub hl [0, 1, 2] rfl)
set_option maxHeartbeats 4000000 in
set_option maxRecDepth 100000 in
theorem k_X1_worthOf (l : Launch) (D : va_G) (cB cC cI cJ : ClassId) (sz : Nat) (a0 a1 a2 a3 a4 a5 a6 a7 a8 a9 : Nat) (x0 x1 x2 x3 x4 x5 x6 x7 x8 x9 : Int32) (f0 f1 f2 f3 f4 f5 : Nat → Int32) (hp1 : (0 ≤ x0.toInt ∧ x0.toInt ≤ 4)) (h_x1 : zBd x1.toInt (-1) 8) (h_x2 : zBd x2.toInt (-1) 5) (h_x3 : zBd x3.toInt (-1) 6) (h_x4 : zBd x4.toInt 0 6) (h_x5 : zBd x5.toInt 0 16) (h_x8 : zBd x8.toInt 0 1600) (h_x9 : zBd x9.toInt 0 8) (hf_f1 : (∀ j, 0 ≤ (f1 j).toInt ∧ (f1 j).toInt ≤ 1600)) (hf_f2 : (∀ j, 0 ≤ (f2 j).toInt ∧ (f2 j).toInt ≤ 1600)) (hf_f5 : (∀ j, 0 ≤ (f5 j).toInt ∧ (f5 j).toInt ≤ 1600)) : Met l yX1_worthOf (.code yX1_worthOf cX1_worthOf 2 (some .int) :: lw_gd) ({ frames := 5, cells := 0, slots := 0, locals := 117 }) (gPre D [(cB, .byte), (cC, .char), (cI, .int), (cJ, .long)] [.ref a0, .int x0] (zS_137 cB cC cI cJ a0 a1 a2 a3 x1 x2 x3 x4 x5 x6 x7 a1 a4 a4 f0 a2 a5 a6 a7 a8 a9 x8 x9 a7 f1 a8 f2 a9 f3 a5 f4 a6 f5) sz) (va_Qi (fun r u => ((((-2147483648) ≤ r.toInt ∧ r.toInt ≤ 2147483647)))) (gB D (va_A (zS_137 cB cC cI cJ a0 a1 a2 a3 x1 x2 x3 x4 x5 x6 x7 a1 a4 a4 f0 a2 a5 a6 a7 a8 a9 x8 x9 a7 f1 a8 f2 a9 f3 a5 f4 a6 f5) sz) (fun u : gEx => (zS_137 cB cC cI cJ a0 a1 a2 a3 x1 x2 x3 x4 x5 x6 x7 a1 a4 a4 f0 a2 a5 a6 a7 a8 a9 x8 x9 a7 f1 a8 f2 a9 (u.2.1 0) a5 f4 a6 f5))) (va_A (zS_137 cB cC cI cJ a0 a1 a2 a3 x1 x2 x3 x4 x5 x6 x7 a1 a4 a4 f0 a2 a5 a6 a7 a8 a9 x8 x9 a7 f1 a8 f2 a9 f3 a5 f4 a6 f5) sz)) 0 0 (va_A (zS_137 cB cC cI cJ a0 a1 a2 a3 x1 x2 x3 x4 x5 x6 x7 a1 a4 a4 f0 a2 a5 a6 a7 a8 a9 x8 x9 a7 f1 a8 f2 a9 f3 a5 f4 a6 f5) sz) := by
  refine gOf_i (by decide +kernel) (Nat.le_of_ble_eq_true rfl) ?_
  intro p e s m args below meth c ls A Q hx hb hts hown hml hN hK hP hD hA hl hret
  replace hown : s.vm.findClass RX1 = some m.cls := hown
  have hS : va_S A s.heap s.heap [] := va_S.rf
  replace hP : va_P D gcl (zS_137 cB cC cI cJ a0 a1 a2 a3 x1 x2 x3 x4 x5 x6 x7 a1 a4 a4 f0 a2 a5 a6 a7 a8 a9 x8 x9 a7 f1 a8 f2 a9 f3 a5 f4 a6 f5) s.heap := hP
  replace hl : lv_has ls 2 [(0, .ref a0), (1, .int x0)] := hl
  have rx6 : zBd x6.toInt (-2147483648) 2147483647 := n_rng x6
  have rx7 : zBd x7.toInt (-2147483648) 2147483647 := n_rng x7
  refine lv_aload_n (pc := 0) hx hb dX1_worthOf_0 rfl (lv_at hl 0 rfl) ?_
  refine va_get (pc := 1) (ci := 1) (v := .ref a2) (C := RX1) (T := TX1) (N := 10) hx hb hts iX1 hown hK hP 0 rfl rfl 1 (by decide) (hts _ tw_105) (fun _ h9 => h9) rfl dX1_worthOf_1 ?_
  refine lv_iload_n (pc := 4) hx hb dX1_worthOf_4 rfl (lv_at hl 1 rfl) ?_
  refine lv_aload_n (pc := 5) hx hb dX1_worthOf_5 rfl (lv_at hl 0 rfl) ?_
  refine va_get (pc := 6) (ci := 1) (v := .ref a1) (C := RX1) (T := TX1) (N := 10) hx hb hts iX1 hown hK hP 0 rfl rfl 0 (by decide) (hts _ tw_97) (fun _ h9 => h9) rfl dX1_worthOf_6 ?_
  refine lv_iload_n (pc := 9) hx hb dX1_worthOf_9 rfl (lv_at hl 1 rfl) ?_
  refine lv_iload_n (pc := 10) hx hb dX1_worthOf_10 rfl (lv_at hl 1 rfl) ?_
  refine gd_i (pc := 11) (wc := [(a1, .inr (8, [.ref a4])), (a4, .inl (cI, 30, .inl f0))]) hP hD hS hA [1, 2] rfl (by decide +kernel) (fun _ => by rfl) (fun hPc hDc => va_runV (As := [.int x0, .int x0]) (rest := [.int x0, .ref a2]) ⟨hx, hb, hml, hown, hts⟩ (k_X8_productOf l D cB cC cI cJ _ a1 a4 x0 x0 f0 hp1 hp1) ⟨gcwB hts tw_799 tw_5 tw_1326 hd_yX8_productOf ⟨Nat.le_of_ble_eq_true rfl, Nat.le_of_ble_eq_true rfl⟩, hts _ tw_797, hts _ tw_798⟩ ⟨gblind, va_recv hK hPc (ci := 8) (q0 := 0) rfl rfl, (gpreS hPc hK hDc hN).2⟩ rfl rfl hl.1 rfl (lv_room (Nat.le_of_ble_eq_true rfl)) dX1_worthOf_11 ⟨Nat.le_of_ble_eq_true rfl, Nat.le_of_ble_eq_true rfl⟩) (fun r_2 u_1 H locs hw_3 hP hD hS => ?_)
  replace hP : va_P D gcl (zS_137 cB cC cI cJ a0 a1 a2 a3 x1 x2 x3 x4 x5 x6 x7 a1 a4 a4 f0 a2 a5 a6 a7 a8 a9 x8 x9 a7 f1 a8 f2 a9 f3 a5 f4 a6 f5) H := hP
  replace hD : va_D A (zS_137 cB cC cI cJ a0 a1 a2 a3 x1 x2 x3 x4 x5 x6 x7 a1 a4 a4 f0 a2 a5 a6 a7 a8 a9 x8 x9 a7 f1 a8 f2 a9 f3 a5 f4 a6 f5) := hD
  have hw_4 : ((((-2147483648) ≤ r_2.toInt ∧ r_2.toInt ≤ 2147483647))) := hw_3
  have rr_2 : zBd r_2.toInt (-2147483648) 2147483647 := n_rng r_2
  refine lv_aload_n (pc := 14) hx hb dX1_worthOf_14 rfl (lv_at hl 0 rfl) ?_
  refine va_get (pc := 15) (ci := 1) (v := .ref a1) (C := RX1) (T := TX1) (N := 10) hx hb hts iX1 hown hK hP 0 rfl rfl 0 (by decide) (hts _ tw_97) (fun _ h9 => h9) rfl dX1_worthOf_15 ?_
  refine lv_iload_n (pc := 18) hx hb dX1_worthOf_18 rfl (lv_at hl 1 rfl) ?_
  refine gd_i (pc := 19) (wc := [(a1, .inr (8, [.ref a4])), (a4, .inl (cI, 30, .inl f0))]) hP hD hS hA [1, 2] rfl (by decide +kernel) (fun _ => by rfl) (fun hPc hDc => va_runV (As := [.int x0]) (rest := [.int r_2, .int x0, .ref a2]) ⟨hx, hb, hml, hown, hts⟩ (k_X8_peakOf l D cB cC cI cJ _ a1 a4 x0 f0 hp1) ⟨gcwB hts tw_1330 tw_5 tw_1327 hd_yX8_peakOf ⟨Nat.le_of_ble_eq_true rfl, Nat.le_of_ble_eq_true rfl⟩, hts _ tw_1328, hts _ tw_1329⟩ ⟨gblind, va_recv hK hPc (ci := 8) (q0 := 0) rfl rfl, (gpreS hPc hK hDc hN).2⟩ rfl rfl hl.1 rfl (lv_room (Nat.le_of_ble_eq_true rfl)) dX1_worthOf_19 ⟨Nat.le_of_ble_eq_true rfl, Nat.le_of_ble_eq_true rfl⟩) (fun r_6 u_5 H locs hw_7 hP hD hS => ?_)
  replace hP : va_P D gcl (zS_137 cB cC cI cJ a0 a1 a2 a3 x1 x2 x3 x4 x5 x6 x7 a1 a4 a4 f0 a2 a5 a6 a7 a8 a9 x8 x9 a7 f1 a8 f2 a9 f3 a5 f4 a6 f5) H := hP
  replace hD : va_D A (zS_137 cB cC cI cJ a0 a1 a2 a3 x1 x2 x3 x4 x5 x6 x7 a1 a4 a4 f0 a2 a5 a6 a7 a8 a9 x8 x9 a7 f1 a8 f2 a9 f3 a5 f4 a6 f5) := hD
  have hw_8 : ((((-2147483648) ≤ r_6.toInt ∧ r_6.toInt ≤ 2147483647))) := hw_7
  have rr_6 : zBd r_6.toInt (-2147483648) 2147483647 := n_rng r_6
  refine gd_i (pc := 22) (wc := (zS_131 cB cC cI cJ a2 a5 a6 a7 a8 a9 x8 x9 a7 f1 a8 f2 a9 f3 a5 f4 a6 f5)) hP hD hS hA [3, 4, 5, 6, 7, 8] rfl (by decide +kernel) (fun _ => by rfl) (fun hPc hDc => va_runV (As := [.int x0, .int r_2, .int r_6]) (rest := []) ⟨hx, hb, hml, hown, hts⟩ (k_X5_worthBy l D cB cC cI cJ _ a2 a5 a6 a7 a8 a9 x0 r_2 r_6 x8 x9 f1 f2 f3 f4 f5 h_x8 h_x9 hf_f1 hf_f2 hf_f5) ⟨gcwB hts tw_1336 tw_6 tw_1333 hd_yX5_worthBy ⟨Nat.le_of_ble_eq_true rfl, Nat.le_of_ble_eq_true rfl⟩, hts _ tw_1334, hts _ tw_1335⟩ ⟨gblind, va_recv hK hPc (ci := 5) (q0 := 0) rfl rfl, (gpreS hPc hK hDc hN).2⟩ rfl rfl hl.1 rfl (lv_room (Nat.le_of_ble_eq_true rfl)) dX1_worthOf_22 ⟨Nat.le_of_ble_eq_true rfl, Nat.le_of_ble_eq_true rfl⟩) (fun r_10 u_9 H locs hw_11 hP hD hS => ?_)
  replace hP : va_P D gcl (zS_137 cB cC cI cJ a0 a1 a2 a3 x1 x2 x3 x4 x5 x6 x7 a1 a4 a4 f0 a2 a5 a6 a7 a8 a9 x8 x9 a7 f1 a8 f2 a9 (u_9.2.1 0) a5 f4 a6 f5) H := hP
  replace hD : va_D A (zS_137 cB cC cI cJ a0 a1 a2 a3 x1 x2 x3 x4 x5 x6 x7 a1 a4 a4 f0 a2 a5 a6 a7 a8 a9 x8 x9 a7 f1 a8 f2 a9 (u_9.2.1 0) a5 f4 a6 f5) := hD
  have hw_12 : ((r_10.toInt = 0 ∧ (0 ≤ x9.toInt ∧ x9.toInt ≤ 8)) ∨ (((-2147483648) ≤ r_10.toInt ∧ r_10.toInt ≤ 2147483647) ∧ (1 ≤ x9.toInt ∧ x9.toInt ≤ 8))) := hw_11
  have rr_10 : zBd r_10.toInt (-2147483648) 2147483647 := n_rng r_10
  exact hret r_10 ((fun _ => 0), (fun k => [(u_9.2.1 0)].getD k (fun _ => 0)), (fun _ => (fun _ => 0)), (fun _ => 0), (fun _ => 0)) dX1_worthOf_25 (show ((((-2147483648) ≤ r_10.toInt ∧ r_10.toInt ≤ 2147483647))) from (by first | exact (om_1017 rr_10.1 rr_10.2) | ((first | omega | (unfold zBd at *; omega))))) (g_psub (wc := (zS_137 cB cC cI cJ a0 a1 a2 a3 x1 x2 x3 x4 x5 x6 x7 a1 a4 a4 f0 a2 a5 a6 a7 a8 a9 x8 x9 a7 f1 a8 f2 a9 (u_9.2.1 0) a5 f4 a6 f5)) hP [0, 1, 2, 3, 4, 5, 6, 7, 8] rfl) (hD.sub (ws' := (zS_137 cB cC cI cJ a0 a1 a2 a3 x1 x2 x3 x4 x5 x6 x7 a1 a4 a4 f0 a2 a5 a6 a7 a8 a9 x8 x9 a7 f1 a8 f2 a9 (u_9.2.1 0) a5 f4 a6 f5)) [0, 1, 2, 3, 4, 5, 6, 7, 8] (by decide) rfl) hS
theorem om_1121 {a b c : Int} (h0 : ((a = 0 ∧ b ≤ 0) ∨ (a = b ∧ 0 < b))) (h1 : (b = c - 1)) (h2 : (c ≤ 5)) : ((0 ≤ a ∧ a ≤ 4)) := by omega
theorem om_1122 {a b c d : Int} (h0 : ((b = 0 ∧ c ≤ 0) ∨ (b = c ∧ 0 < c))) (h1 : (a ≤ b)) (h2 : (c = d - 1)) (h3 : (d ≤ 5)) : (a < (25 : Nat)) := by omega
theorem om_1123 {a b c : Int} (h0 : (a ≤ b)) (h1 : (c > b)) (h2 : (c ≤ 2147483647)) : (a + 1 ≤ 2147483647) := by omega
theorem om_1124 {a b c d e : Int} (h0 : (a = b + 1)) (h1 : (0 ≤ b)) (h2 : ((c = 0 ∧ d ≤ 0) ∨ (c = d ∧ 0 < d))) (h3 : (b ≤ c)) (h4 : (d = e - 1)) (h5 : (e ≤ 5)) : ((0 ≤ a ∧ a ≤ 2147483647)) := by omega
theorem om_1125 {a b c d : Int} (h0 : ((b = 0 ∧ c ≤ 0) ∨ (b = c ∧ 0 < c))) (h1 : (a ≤ b)) (h2 : (c = d - 1)) (h3 : (d ≤ 5)) : (a * 5 ≤ 2147483647) := by omega
theorem om_1126 {a b c d e f : Int} (h0 : ((c = 0 ∧ d ≤ 0) ∨ (c = d ∧ 0 < d))) (h1 : (a = e * 5)) (h2 : (b ≤ c)) (h3 : (e ≤ c)) (h4 : (d = f - 1)) (h5 : (f ≤ 5)) : (a + b ≤ 2147483647) := by omega
theorem om_1127 {a b c d : Int} (h0 : (0 ≤ a)) (h1 : ((b = 0 ∧ c ≤ 0) ∨ (b = c ∧ 0 < c))) (h2 : (a ≤ b)) (h3 : (c = d - 1)) (h4 : (d ≤ 5)) : ((0 ≤ a ∧ a ≤ 4)) := by omega
theorem om_1128 {a b c d e f g : Int} (h0 : ((b = 0 ∧ c ≤ 0) ∨ (b = c ∧ 0 < c))) (h1 : (a = d + e)) (h2 : (d = f * 5)) (h3 : (e ≤ b)) (h4 : (f ≤ b)) (h5 : (c = g - 1)) (h6 : (g ≤ 5)) : (a < (25 : Nat)) := by omega
theorem om_1129 {a b c d : Int} (h0 : ((b = 0 ∧ c ≤ 0) ∨ (b = c ∧ 0 < c))) (h1 : (a ≤ b)) (h2 : (c = d - 1)) (h3 : (d ≤ 5)) : (a + 1 ≤ 2147483647) := by omega
set_option maxHeartbeats 4000000 in
set_option maxRecDepth 100000 in
theorem k_X10_start (l : Launch) (D : va_G) (cB cC cI cJ : ClassId) (sz : Nat) (a0 a1 a2 a3 a4 a5 a6 a7 a8 a9 a10 a11 a12 : Nat) (x0 x1 x2 x3 x4 x5 x6 x7 : Int32) (f0 : Nat → Int32) (g0 g1 g2 : Nat → Int64) (h_x0 : zBd x0.toInt 0 4) (h_x1 : zBd x1.toInt (-1) 8) (h_x2 : zBd x2.toInt (-1) 5) (h_x3 : zBd x3.toInt (-1) 6) (h_x4 : zBd x4.toInt 0 6) (h_x5 : zBd x5.toInt 0 16) : Met l yX10_start (.code yX10_start cX10_start 4 none :: lw_gd) ({ frames := 2, cells := 0, slots := 0, locals := 46 }) (gPre D [(cB, .byte), (cC, .char), (cI, .int), (cJ, .long)] [.ref a0, .ref a1] (zS_42 cB cC cI cJ a0 a2 a3 a4 a5 a6 a7 a8 x0 a1 a9 a10 a11 x1 x2 x3 x4 x5 x6 x7 a9 a12 a12 f0 a2 g0 a4 g1 a3 g2) sz) (va_Qv (fun u => (0 ≤ (u.2.2.2.1 0).toInt ∧ (u.2.2.2.1 0).toInt ≤ 4)) (gB D (va_A (zS_42 cB cC cI cJ a0 a2 a3 a4 a5 a6 a7 a8 x0 a1 a9 a10 a11 x1 x2 x3 x4 x5 x6 x7 a9 a12 a12 f0 a2 g0 a4 g1 a3 g2) sz) (fun u : gEx => (zS_42 cB cC cI cJ a0 a2 a3 a4 a5 a6 a7 a8 (u.2.2.2.1 0) a1 a9 a10 a11 x1 x2 x3 x4 x5 x6 x7 a9 a12 a12 f0 a2 (u.2.2.1 0) a4 (u.2.2.1 1) a3 (u.2.2.1 2)))) (va_A (zS_42 cB cC cI cJ a0 a2 a3 a4 a5 a6 a7 a8 x0 a1 a9 a10 a11 x1 x2 x3 x4 x5 x6 x7 a9 a12 a12 f0 a2 g0 a4 g1 a3 g2) sz)) 0 0 (va_A (zS_42 cB cC cI cJ a0 a2 a3 a4 a5 a6 a7 a8 x0 a1 a9 a10 a11 x1 x2 x3 x4 x5 x6 x7 a9 a12 a12 f0 a2 g0 a4 g1 a3 g2) sz) := by
  refine gOf_v (by decide +kernel) (Nat.le_of_ble_eq_true rfl) ?_
  intro p e s m args below meth c ls A Q hx hb hts hown hml hN hK hP hD hA hl hret
  replace hown : s.vm.findClass RX10 = some m.cls := hown
  have hS : va_S A s.heap s.heap [] := va_S.rf
  replace hP : va_P D gcl (zS_42 cB cC cI cJ a0 a2 a3 a4 a5 a6 a7 a8 x0 a1 a9 a10 a11 x1 x2 x3 x4 x5 x6 x7 a9 a12 a12 f0 a2 g0 a4 g1 a3 g2) s.heap := hP
  replace hl : lv_has ls 4 [(0, .ref a0), (1, .ref a1)] := hl
  have rx6 : zBd x6.toInt (-2147483648) 2147483647 := n_rng x6
  have rx7 : zBd x7.toInt (-2147483648) 2147483647 := n_rng x7
  refine lv_aload_n (pc := 0) hx hb dX10_start_0 rfl (lv_at hl 0 rfl) ?_
  refine lv_iconst (pc := 1) (v := 0) hx hb dX10_start_1 (by decide) ?_
  refine lv_aload_n (pc := 2) hx hb dX10_start_2 rfl (lv_at hl 1 rfl) ?_
  refine va_getN (pc := 3) (ci := 1) (v := .int x2) (C := RX1) (T := TX1) (N := 10) hx hb hts iX1 hown hK hP 1 rfl rfl 4 (by decide) (va_Nw.use rfl (hN _ tn_117)) (fun _ h9 => h9) rfl dX10_start_3 ?_
  refine lv_iconst (pc := 6) (v := 1) hx hb dX10_start_6 (by decide) ?_
  refine b_isub (pc := 7) hx hb rfl tI_1 (by first | exact (om_1089 h_x2.1) | ((first | omega | (unfold zBd at *; omega)))) (by first | exact (om_207 h_x2.2) | ((first | omega | (unfold zBd at *; omega)))) dX10_start_7 (fun x_1 ex_1 => ?_)
  refine va_mmax (pc := 8) hx hb (hml.trans hl.1.symm) hown (hts _ tw_884) (hts _ tw_885) (hts _ tw_19) (hts _ tw_886) (Nat.le_of_ble_eq_true rfl) (Nat.le_of_ble_eq_true rfl) (Nat.le_of_ble_eq_true rfl) (Nat.le_of_ble_eq_true rfl) dX10_start_8 ?_
  refine lv_topi (fun x_2 ex_2 => ?_)
  have ex_2 := n_max tI_0 rfl ex_2
  have rx_2 : zBd x_2.toInt (-2147483648) 2147483647 := n_rng x_2
  refine va_put (pc := 11) (ci := 10) (v := .int x_2) (ty := .int) (C := RX10) (T := TX10) (N := 8) hx hb hts iX10 tyX10 tyX10_ok nmX10 hown hK hP hD hS 0 rfl rfl 7 (by decide) (hts _ tw_220) (fun _ h9 => h9) rfl (by decide +kernel) rfl rfl (Nat.le_of_ble_eq_true rfl) dX10_start_11 (fun H locs hP hD hS => ?_)
  replace hP : va_P D gcl (zS_42 cB cC cI cJ a0 a2 a3 a4 a5 a6 a7 a8 x_2 a1 a9 a10 a11 x1 x2 x3 x4 x5 x6 x7 a9 a12 a12 f0 a2 g0 a4 g1 a3 g2) H := hP
  replace hD : va_D A (zS_42 cB cC cI cJ a0 a2 a3 a4 a5 a6 a7 a8 x_2 a1 a9 a10 a11 x1 x2 x3 x4 x5 x6 x7 a9 a12 a12 f0 a2 g0 a4 g1 a3 g2) := hD
  refine lv_iconst (pc := 14) (v := 0) hx hb dX10_start_14 (by decide) ?_
  refine lv_istore_n (pc := 15) (lv' := [(2, .int 0), (0, .ref a0), (1, .ref a1)]) hx hb dX10_start_15 rfl hl (by decide) rfl (fun ls hl => ?_)
  have lp_7 : ∀ (n : Nat) (x_3 : Int32) (g_5 g_6 : Nat → Int64) (H : Heap) (locs : List Loc) (ls : Array Slot), (0 ≤ x_3.toInt ∧ x_3.toInt ≤ 2147483647) → (2147483647 - x_3.toInt).toNat < n → va_P D gcl (zS_42 cB cC cI cJ a0 a2 a3 a4 a5 a6 a7 a8 x_2 a1 a9 a10 a11 x1 x2 x3 x4 x5 x6 x7 a9 a12 a12 f0 a2 g_5 a4 g_6 a3 g2) H → va_D A (zS_42 cB cC cI cJ a0 a2 a3 a4 a5 a6 a7 a8 x_2 a1 a9 a10 a11 x1 x2 x3 x4 x5 x6 x7 a9 a12 a12 f0 a2 g_5 a4 g_6 a3 g2) → va_S A s.heap H locs → lv_has ls 4 [(2, .int x_3), (0, .ref a0), (1, .ref a1)] → W p l e ({ frames := 2, cells := 0, slots := 0, locals := 46 }) s m args below meth c H locs 0 0 Q (F0 m 16 ls []) := by
    intro n
    induction n with
    | zero => intro x_3 g_5 g_6 H locs ls hi_4 hmu; exact absurd hmu (Nat.not_lt_zero _)
    | succ n ih_lp_7 =>
      intro x_3 g_5 g_6 H locs ls hi_4 hmu_lp_7 hP hD hS hl
      refine lv_iload_n (pc := 16) hx hb dX10_start_16 rfl (lv_at hl 0 rfl) ?_
      refine lv_aload_n (pc := 17) hx hb dX10_start_17 rfl (lv_at hl 1 rfl) ?_
      refine va_get (pc := 18) (ci := 10) (v := .int x_2) (C := RX10) (T := TX10) (N := 8) hx hb hts iX10 hown hK hP 0 rfl rfl 7 (by decide) (hts _ tw_220) (fun _ h9 => h9) rfl dX10_start_18 ?_
      refine b_icmp_gt (pc := 21) (tgt := 73) hx hb rfl rfl  dX10_start_21 (by decide) (fun c_8 => ?_) (fun c_8 => ?_)
      ·
        refine lv_aload_n (pc := 73) hx hb dX10_start_73 rfl (lv_at hl 1 rfl) ?_
        refine va_get (pc := 74) (ci := 10) (v := .ref a3) (C := RX10) (T := TX10) (N := 8) hx hb hts iX10 hown hK hP 0 rfl rfl 1 (by decide) (hts _ tw_209) (fun _ h9 => h9) rfl dX10_start_74 ?_
        refine lv_iconst (pc := 77) (v := 0) hx hb dX10_start_77 (by decide) ?_
        refine lv_lconst (pc := 78) (v := 0) hx hb dX10_start_78 (by decide) ?_
        refine g_lastore (pc := 79) hx hb hK hP hD hS 6 3 rfl rfl (gin rfl) dX10_start_79 (fun g_9 H locs hP hD hS => ?_)
        replace hP : va_P D gcl (zS_42 cB cC cI cJ a0 a2 a3 a4 a5 a6 a7 a8 x_2 a1 a9 a10 a11 x1 x2 x3 x4 x5 x6 x7 a9 a12 a12 f0 a2 g_5 a4 g_6 a3 g_9) H := hP
        replace hD : va_D A (zS_42 cB cC cI cJ a0 a2 a3 a4 a5 a6 a7 a8 x_2 a1 a9 a10 a11 x1 x2 x3 x4 x5 x6 x7 a9 a12 a12 f0 a2 g_5 a4 g_6 a3 g_9) := hD
        exact hret ((fun _ => 0), (fun _ => (fun _ => 0)), (fun k => [g_5, g_6, g_9].getD k (fun _ => 0)), (fun k => [x_2].getD k 0), (fun _ => 0)) dX10_start_80 (show (0 ≤ (x_2 : Int32).toInt ∧ (x_2 : Int32).toInt ≤ 4) from (by first | exact (om_1121 ex_2 ex_1 h_x2.2) | ((first | omega | (unfold zBd at *; omega))))) (g_psub (wc := (zS_42 cB cC cI cJ a0 a2 a3 a4 a5 a6 a7 a8 x_2 a1 a9 a10 a11 x1 x2 x3 x4 x5 x6 x7 a9 a12 a12 f0 a2 g_5 a4 g_6 a3 g_9)) hP [0, 1, 2, 3, 4, 5, 6] rfl) (hD.sub (ws' := (zS_42 cB cC cI cJ a0 a2 a3 a4 a5 a6 a7 a8 x_2 a1 a9 a10 a11 x1 x2 x3 x4 x5 x6 x7 a9 a12 a12 f0 a2 g_5 a4 g_6 a3 g_9)) [0, 1, 2, 3, 4, 5, 6] (by decide) rfl) hS
      ·
        refine lv_iconst (pc := 24) (v := 0) hx hb dX10_start_24 (by decide) ?_
        refine lv_istore_n (pc := 25) (lv' := [(3, .int 0), (2, .int x_3), (0, .ref a0), (1, .ref a1)]) hx hb dX10_start_25 rfl hl (by decide) rfl (fun ls hl => ?_)
        have lp_13 : ∀ (n : Nat) (x_10 : Int32) (g_12 : Nat → Int64) (H : Heap) (locs : List Loc) (ls : Array Slot), (0 ≤ x_10.toInt ∧ x_10.toInt ≤ 2147483647) → (2147483647 - x_10.toInt).toNat < n → va_P D gcl (zS_42 cB cC cI cJ a0 a2 a3 a4 a5 a6 a7 a8 x_2 a1 a9 a10 a11 x1 x2 x3 x4 x5 x6 x7 a9 a12 a12 f0 a2 g_12 a4 g_6 a3 g2) H → va_D A (zS_42 cB cC cI cJ a0 a2 a3 a4 a5 a6 a7 a8 x_2 a1 a9 a10 a11 x1 x2 x3 x4 x5 x6 x7 a9 a12 a12 f0 a2 g_12 a4 g_6 a3 g2) → va_S A s.heap H locs → lv_has ls 4 [(3, .int x_10), (2, .int x_3), (0, .ref a0), (1, .ref a1)] → W p l e ({ frames := 2, cells := 0, slots := 0, locals := 46 }) s m args below meth c H locs 0 0 Q (F0 m 26 ls []) := by
          intro n
          induction n with
          | zero => intro x_10 g_12 H locs ls hi_11 hmu; exact absurd hmu (Nat.not_lt_zero _)
          | succ n ih_lp_13 =>
            intro x_10 g_12 H locs ls hi_11 hmu_lp_13 hP hD hS hl
            refine lv_iload_n (pc := 26) hx hb dX10_start_26 rfl (lv_at hl 0 rfl) ?_
            refine lv_aload_n (pc := 27) hx hb dX10_start_27 rfl (lv_at hl 2 rfl) ?_
            refine va_get (pc := 28) (ci := 10) (v := .int x_2) (C := RX10) (T := TX10) (N := 8) hx hb hts iX10 hown hK hP 0 rfl rfl 7 (by decide) (hts _ tw_220) (fun _ h9 => h9) rfl dX10_start_28 ?_
            refine b_icmp_gt (pc := 31) (tgt := 60) hx hb rfl rfl  dX10_start_31 (by decide) (fun c_14 => ?_) (fun c_14 => ?_)
            ·
              refine lv_aload_n (pc := 60) hx hb dX10_start_60 rfl (lv_at hl 2 rfl) ?_
              refine va_get (pc := 61) (ci := 10) (v := .ref a4) (C := RX10) (T := TX10) (N := 8) hx hb hts iX10 hown hK hP 0 rfl rfl 2 (by decide) (hts _ tw_210) (fun _ h9 => h9) rfl dX10_start_61 ?_
              refine lv_iload_n (pc := 64) hx hb dX10_start_64 rfl (lv_at hl 1 rfl) ?_
              refine lv_lconst (pc := 65) (v := 0) hx hb dX10_start_65 (by decide) ?_
              refine g_lastore (pc := 66) hx hb hK hP hD hS 5 3 rfl rfl (n_in rfl (by first | exact (om_0 hi_4.1) | ((first | omega | (unfold zBd at *; omega)))) (by first | exact (om_1122 ex_2 c_8 ex_1 h_x2.2) | ((first | omega | (unfold zBd at *; omega))))) dX10_start_66 (fun g_15 H locs hP hD hS => ?_)
              replace hP : va_P D gcl (zS_42 cB cC cI cJ a0 a2 a3 a4 a5 a6 a7 a8 x_2 a1 a9 a10 a11 x1 x2 x3 x4 x5 x6 x7 a9 a12 a12 f0 a2 g_12 a4 g_15 a3 g2) H := hP
              replace hD : va_D A (zS_42 cB cC cI cJ a0 a2 a3 a4 a5 a6 a7 a8 x_2 a1 a9 a10 a11 x1 x2 x3 x4 x5 x6 x7 a9 a12 a12 f0 a2 g_12 a4 g_15 a3 g2) := hD
              refine b_iinc (pc := 67) hx hb dX10_start_67 hl (k := 1) rfl rfl tI_1 (by first | exact (om_2 hi_4.1) | ((first | omega | (unfold zBd at *; omega)))) (by first | exact (om_1123 c_8 c_14 hi_11.2) | ((first | omega | (unfold zBd at *; omega)))) (by decide) (fun x_16 ex_16 ls hl => ?_)
              replace hl : lv_has ls 4 [(2, .int x_16), (3, .int x_10), (0, .ref a0), (1, .ref a1)] := hl
              refine lv_goto (pc := 70) (tgt := 16) hx hb dX10_start_70 (by decide) ?_
              exact ih_lp_7 x_16 g_12 g_15 _ _ ls (by first | exact (om_1124 ex_16 hi_4.1 ex_2 c_8 ex_1 h_x2.2) | ((first | omega | (unfold zBd at *; omega)))) (by (first | omega | (unfold zBd at *; omega))) hP hD hS (lv_sub hl [0, 2, 3] rfl)
            ·
              refine lv_aload_n (pc := 34) hx hb dX10_start_34 rfl (lv_at hl 2 rfl) ?_
              refine va_get (pc := 35) (ci := 10) (v := .ref a2) (C := RX10) (T := TX10) (N := 8) hx hb hts iX10 hown hK hP 0 rfl rfl 0 (by decide) (hts _ tw_207) (fun _ h9 => h9) rfl dX10_start_35 ?_
              refine lv_iload_n (pc := 38) hx hb dX10_start_38 rfl (lv_at hl 1 rfl) ?_
              refine lv_iconst (pc := 39) (v := 5) hx hb dX10_start_39 (by decide) ?_
              refine b_imul (pc := 40) hx hb rfl tI_5 (by first | exact (om_330 hi_4.1) | ((first | omega | (unfold zBd at *; omega)))) (by first | exact (om_1125 ex_2 c_8 ex_1 h_x2.2) | ((first | omega | (unfold zBd at *; omega)))) dX10_start_40 (fun x_17 ex_17 => ?_)
              refine lv_iload_n (pc := 41) hx hb dX10_start_41 rfl (lv_at hl 0 rfl) ?_
              refine b_iadd (pc := 42) hx hb rfl rfl (by first | exact (om_332 ex_17 hi_11.1 hi_4.1) | ((first | omega | (unfold zBd at *; omega)))) (by first | exact (om_1126 ex_2 ex_17 c_14 c_8 ex_1 h_x2.2) | ((first | omega | (unfold zBd at *; omega)))) dX10_start_42 (fun x_18 ex_18 => ?_)
              refine lv_aload_n (pc := 43) hx hb dX10_start_43 rfl (lv_at hl 3 rfl) ?_
              refine va_getN (pc := 44) (ci := 1) (v := .ref a9) (C := RX1) (T := TX1) (N := 10) hx hb hts iX1 hown hK hP 1 rfl rfl 0 (by decide) (va_Nw.use rfl (hN _ tn_99)) (fun _ h9 => h9) rfl dX10_start_44 ?_
              refine lv_iload_n (pc := 47) hx hb dX10_start_47 rfl (lv_at hl 1 rfl) ?_
              refine lv_iload_n (pc := 48) hx hb dX10_start_48 rfl (lv_at hl 0 rfl) ?_
              refine gd_i (pc := 49) (wc := [(a9, .inr (8, [.ref a12])), (a12, .inl (cI, 30, .inl f0))]) hP hD hS hA [2, 3] rfl (by decide +kernel) (fun _ => by rfl) (fun hPc hDc => va_runV (As := [.int x_3, .int x_10]) (rest := [.int x_18, .ref a2]) ⟨hx, hb, hml, hown, hts⟩ (k_X8_productOf l D cB cC cI cJ _ a9 a12 x_3 x_10 f0 (by first | exact (om_1127 hi_4.1 ex_2 c_8 ex_1 h_x2.2) | ((first | omega | (unfold zBd at *; omega)))) (by first | exact (om_1127 hi_11.1 ex_2 c_14 ex_1 h_x2.2) | ((first | omega | (unfold zBd at *; omega))))) ⟨gcwB hts tw_799 tw_5 tw_887 hd_yX8_productOf ⟨Nat.le_of_ble_eq_true rfl, Nat.le_of_ble_eq_true rfl⟩, hts _ tw_797, hts _ tw_798⟩ ⟨gblind, va_recv hK hPc (ci := 8) (q0 := 0) rfl rfl, (gpreS hPc hK hDc hN).2⟩ rfl rfl hl.1 rfl (lv_room (Nat.le_of_ble_eq_true rfl)) dX10_start_49 ⟨Nat.le_of_ble_eq_true rfl, Nat.le_of_ble_eq_true rfl⟩) (fun r_20 u_19 H locs hw_21 hP hD hS => ?_)
              replace hP : va_P D gcl (zS_42 cB cC cI cJ a0 a2 a3 a4 a5 a6 a7 a8 x_2 a1 a9 a10 a11 x1 x2 x3 x4 x5 x6 x7 a9 a12 a12 f0 a2 g_12 a4 g_6 a3 g2) H := hP
              replace hD : va_D A (zS_42 cB cC cI cJ a0 a2 a3 a4 a5 a6 a7 a8 x_2 a1 a9 a10 a11 x1 x2 x3 x4 x5 x6 x7 a9 a12 a12 f0 a2 g_12 a4 g_6 a3 g2) := hD
              have hw_22 : ((((-2147483648) ≤ r_20.toInt ∧ r_20.toInt ≤ 2147483647))) := hw_21
              have rr_20 : zBd r_20.toInt (-2147483648) 2147483647 := n_rng r_20
              refine b_i2l (pc := 52) hx hb rfl dX10_start_52 (fun y_23 ey_23 => ?_)
              have ry_23 : zBd r_20.toInt (-2147483648) 2147483647 := n_rng r_20
              refine g_lastore (pc := 53) hx hb hK hP hD hS 4 3 rfl rfl (n_in rfl (by first | exact (om_334 ex_18 ex_17 hi_11.1 hi_4.1) | ((first | omega | (unfold zBd at *; omega)))) (by first | exact (om_1128 ex_2 ex_18 ex_17 c_14 c_8 ex_1 h_x2.2) | ((first | omega | (unfold zBd at *; omega))))) dX10_start_53 (fun g_24 H locs hP hD hS => ?_)
              replace hP : va_P D gcl (zS_42 cB cC cI cJ a0 a2 a3 a4 a5 a6 a7 a8 x_2 a1 a9 a10 a11 x1 x2 x3 x4 x5 x6 x7 a9 a12 a12 f0 a2 g_24 a4 g_6 a3 g2) H := hP
              replace hD : va_D A (zS_42 cB cC cI cJ a0 a2 a3 a4 a5 a6 a7 a8 x_2 a1 a9 a10 a11 x1 x2 x3 x4 x5 x6 x7 a9 a12 a12 f0 a2 g_24 a4 g_6 a3 g2) := hD
              refine b_iinc (pc := 54) hx hb dX10_start_54 hl (k := 0) rfl rfl tI_1 (by first | exact (om_2 hi_11.1) | ((first | omega | (unfold zBd at *; omega)))) (by first | exact (om_1129 ex_2 c_14 ex_1 h_x2.2) | ((first | omega | (unfold zBd at *; omega)))) (by decide) (fun x_25 ex_25 ls hl => ?_)
              replace hl : lv_has ls 4 [(3, .int x_25), (2, .int x_3), (0, .ref a0), (1, .ref a1)] := hl
              refine lv_goto (pc := 57) (tgt := 26) hx hb dX10_start_57 (by decide) ?_
              exact ih_lp_13 x_25 g_24 _ _ ls (by first | exact (om_1124 ex_25 hi_11.1 ex_2 c_14 ex_1 h_x2.2) | ((first | omega | (unfold zBd at *; omega)))) (by (first | omega | (unfold zBd at *; omega))) hP hD hS (lv_sub hl [0, 1, 2, 3] rfl)
        exact lp_13 _ 0 g_5 _ _ ls (n_c tI_0 (by decide)) (Nat.lt_succ_self _) hP hD hS (lv_sub hl [0, 1, 2, 3] rfl)
  exact lp_7 _ 0 g0 g1 _ _ ls (n_c tI_0 (by decide)) (Nat.lt_succ_self _) hP hD hS (lv_sub hl [0, 1, 2] rfl)
theorem om_1130 {a b : Int} (h0 : ((-1) ≤ a)) (h1 : (a ≤ 6)) (h2 : (0 ≤ b)) (h3 : (b ≤ 4)) : (((((-1) ≤ a ∧ a ≤ 6) ∧ (0 ≤ b ∧ b ≤ 4)))) := by omega
theorem om_1131 {a b : Int} (h0 : (a ≤ b)) (h1 : (b ≤ 4)) : (a < (25 : Nat)) := by omega
theorem om_1132 {a b : Int} (h0 : (a ≤ b)) (h1 : (b ≤ 4)) : (a + 1 ≤ 2147483647) := by omega
theorem om_1133 {a b c : Int} (h0 : (a = b + 1)) (h1 : (0 ≤ b)) (h2 : (b ≤ c)) (h3 : (c ≤ 4)) : ((0 ≤ a ∧ a ≤ 2147483647)) := by omega
theorem om_1134 {a b : Int} (h0 : (0 ≤ a)) (h1 : (a ≤ b)) (h2 : (b ≤ 4)) : ((0 ≤ a ∧ a ≤ 4)) := by omega
theorem om_1135 {a : Int} (h0 : (a ≤ 4)) : (a < (5 : Nat)) := by omega
theorem om_1136 {a : Int} (h0 : ((-3) ≤ a)) : ((-3) ≤ a) := by omega
theorem om_1137 {a : Int} (h0 : (a ≤ 24)) : (a ≤ 24) := by omega
set_option maxHeartbeats 4000000 in
set_option maxRecDepth 100000 in
theorem k_X10_setNumbers (l : Launch) (D : va_G) (cB cC cI cJ : ClassId) (sz : Nat) (a0 a1 a2 a3 a4 a5 a6 a7 : Nat) (x0 x1 x2 x3 x4 : Int32) (f0 f1 f2 : Nat → Int32) (hp1 : (0 ≤ x0.toInt ∧ x0.toInt ≤ 4)) (hp4 : ((-3) ≤ x3.toInt ∧ x3.toInt ≤ 24)) (h_x4 : zBd x4.toInt 0 4) (hf_f2 : (∀ j, (-3) ≤ (f2 j).toInt ∧ (f2 j).toInt ≤ 24)) : Met l yX10_setNumbers (.code yX10_setNumbers cX10_setNumbers 5 none :: lw_gd) ({ frames := 0, cells := 0, slots := 0, locals := 0 }) (gPre D [(cB, .byte), (cC, .char), (cI, .int), (cJ, .long)] [.ref a0, .int x0, .int x1, .int x2, .int x3] (zS_29 cB cC cI cJ a0 a1 a2 a3 a4 a5 a6 a7 x4 a4 f0 a5 f1 a6 f2) sz) (va_Qv (fun u => (∀ j, (-3) ≤ ((u.2.1 2) j).toInt ∧ ((u.2.1 2) j).toInt ≤ 24)) (gB D (va_A (zS_29 cB cC cI cJ a0 a1 a2 a3 a4 a5 a6 a7 x4 a4 f0 a5 f1 a6 f2) sz) (fun u : gEx => (zS_29 cB cC cI cJ a0 a1 a2 a3 a4 a5 a6 a7 x4 a4 (u.2.1 0) a5 (u.2.1 1) a6 (u.2.1 2)))) (va_A (zS_29 cB cC cI cJ a0 a1 a2 a3 a4 a5 a6 a7 x4 a4 f0 a5 f1 a6 f2) sz)) 0 0 (va_A (zS_29 cB cC cI cJ a0 a1 a2 a3 a4 a5 a6 a7 x4 a4 f0 a5 f1 a6 f2) sz) := by
  refine gOf_v (by decide +kernel) (Nat.le_of_ble_eq_true rfl) ?_
  intro p e s m args below meth c ls A Q hx hb hts hown hml hN hK hP hD hA hl hret
  replace hown : s.vm.findClass RX10 = some m.cls := hown
  have hS : va_S A s.heap s.heap [] := va_S.rf
  replace hP : va_P D gcl (zS_29 cB cC cI cJ a0 a1 a2 a3 a4 a5 a6 a7 x4 a4 f0 a5 f1 a6 f2) s.heap := hP
  replace hl : lv_has ls 5 [(0, .ref a0), (1, .int x0), (2, .int x1), (3, .int x2), (4, .int x3)] := hl
  have rx1 : zBd x1.toInt (-2147483648) 2147483647 := n_rng x1
  have rx2 : zBd x2.toInt (-2147483648) 2147483647 := n_rng x2
  refine lv_aload_n (pc := 0) hx hb dX10_setNumbers_0 rfl (lv_at hl 0 rfl) ?_
  refine va_get (pc := 1) (ci := 10) (v := .ref a4) (C := RX10) (T := TX10) (N := 8) hx hb hts iX10 hown hK hP 0 rfl rfl 3 (by decide) (hts _ tw_211) (fun _ h9 => h9) rfl dX10_setNumbers_1 ?_
  refine lv_iload_n (pc := 4) hx hb dX10_setNumbers_4 rfl (lv_at hl 1 rfl) ?_
  refine lv_iload_n (pc := 5) hx hb dX10_setNumbers_5 rfl (lv_at hl 2 rfl) ?_
  refine g_iastore (pc := 6) hx hb hK hP hD hS 1 2 rfl rfl (n_in rfl (by first | exact (om_0 hp1.1) | ((first | omega | (unfold zBd at *; omega)))) (by first | exact (om_1135 hp1.2) | ((first | omega | (unfold zBd at *; omega))))) dX10_setNumbers_6 (fun f_1 H locs hP hD hS => ?_)
  replace hP : va_P D gcl (zS_29 cB cC cI cJ a0 a1 a2 a3 a4 a5 a6 a7 x4 a4 f_1 a5 f1 a6 f2) H := hP
  replace hD : va_D A (zS_29 cB cC cI cJ a0 a1 a2 a3 a4 a5 a6 a7 x4 a4 f_1 a5 f1 a6 f2) := hD
  refine lv_aload_n (pc := 7) hx hb dX10_setNumbers_7 rfl (lv_at hl 0 rfl) ?_
  refine va_get (pc := 8) (ci := 10) (v := .ref a5) (C := RX10) (T := TX10) (N := 8) hx hb hts iX10 hown hK hP 0 rfl rfl 4 (by decide) (hts _ tw_213) (fun _ h9 => h9) rfl dX10_setNumbers_8 ?_
  refine lv_iload_n (pc := 11) hx hb dX10_setNumbers_11 rfl (lv_at hl 1 rfl) ?_
  refine lv_iload_n (pc := 12) hx hb dX10_setNumbers_12 rfl (lv_at hl 3 rfl) ?_
  refine g_iastore (pc := 13) hx hb hK hP hD hS 2 2 rfl rfl (n_in rfl (by first | exact (om_0 hp1.1) | ((first | omega | (unfold zBd at *; omega)))) (by first | exact (om_1135 hp1.2) | ((first | omega | (unfold zBd at *; omega))))) dX10_setNumbers_13 (fun f_2 H locs hP hD hS => ?_)
  replace hP : va_P D gcl (zS_29 cB cC cI cJ a0 a1 a2 a3 a4 a5 a6 a7 x4 a4 f_1 a5 f_2 a6 f2) H := hP
  replace hD : va_D A (zS_29 cB cC cI cJ a0 a1 a2 a3 a4 a5 a6 a7 x4 a4 f_1 a5 f_2 a6 f2) := hD
  refine lv_aload_n (pc := 14) hx hb dX10_setNumbers_14 rfl (lv_at hl 0 rfl) ?_
  refine va_get (pc := 15) (ci := 10) (v := .ref a6) (C := RX10) (T := TX10) (N := 8) hx hb hts iX10 hown hK hP 0 rfl rfl 5 (by decide) (hts _ tw_214) (fun _ h9 => h9) rfl dX10_setNumbers_15 ?_
  refine lv_iload_n (pc := 18) hx hb dX10_setNumbers_18 rfl (lv_at hl 1 rfl) ?_
  refine lv_iload (pc := 19) hx hb dX10_setNumbers_19 (lv_at hl 4 rfl) ?_
  refine h_iastore (pc := 21) hx hb hK hP hD hS 3 2 rfl rfl (n_in rfl (by first | exact (om_0 hp1.1) | ((first | omega | (unfold zBd at *; omega)))) (by first | exact (om_1135 hp1.2) | ((first | omega | (unfold zBd at *; omega))))) dX10_setNumbers_21 hf_f2 (by first | exact (om_1136 hp4.1) | ((first | omega | (unfold zBd at *; omega)))) (by first | exact (om_1137 hp4.2) | ((first | omega | (unfold zBd at *; omega)))) (fun f_3 hf_3 H locs hP hD hS => ?_)
  replace hP : va_P D gcl (zS_29 cB cC cI cJ a0 a1 a2 a3 a4 a5 a6 a7 x4 a4 f_1 a5 f_2 a6 f_3) H := hP
  replace hD : va_D A (zS_29 cB cC cI cJ a0 a1 a2 a3 a4 a5 a6 a7 x4 a4 f_1 a5 f_2 a6 f_3) := hD
  exact hret ((fun _ => 0), (fun k => [f_1, f_2, f_3].getD k (fun _ => 0)), (fun _ => (fun _ => 0)), (fun _ => 0), (fun _ => 0)) dX10_setNumbers_22 hf_3 (g_psub (wc := (zS_29 cB cC cI cJ a0 a1 a2 a3 a4 a5 a6 a7 x4 a4 f_1 a5 f_2 a6 f_3)) hP [0, 1, 2, 3] rfl) (hD.sub (ws' := (zS_29 cB cC cI cJ a0 a1 a2 a3 a4 a5 a6 a7 x4 a4 f_1 a5 f_2 a6 f_3)) [0, 1, 2, 3] (by decide) rfl) hS
set_option maxHeartbeats 4000000 in
set_option maxRecDepth 100000 in
theorem k_X10_setAllNumbers (l : Launch) (D : va_G) (cB cC cI cJ : ClassId) (sz : Nat) (a0 a1 a2 a3 a4 a5 a6 a7 : Nat) (x0 x1 x2 x3 : Int32) (f0 f1 f2 : Nat → Int32) (hp3 : ((-3) ≤ x2.toInt ∧ x2.toInt ≤ 24)) (h_x3 : zBd x3.toInt 0 4) (hf_f2 : (∀ j, (-3) ≤ (f2 j).toInt ∧ (f2 j).toInt ≤ 24)) : Met l yX10_setAllNumbers (.code yX10_setAllNumbers cX10_setAllNumbers 5 none :: lw_gd) ({ frames := 1, cells := 0, slots := 0, locals := 24 }) (gPre D [(cB, .byte), (cC, .char), (cI, .int), (cJ, .long)] [.ref a0, .int x0, .int x1, .int x2] (zS_29 cB cC cI cJ a0 a1 a2 a3 a4 a5 a6 a7 x3 a4 f0 a5 f1 a6 f2) sz) (va_Qv (fun u => (((0 ≤ x3.toInt ∧ x3.toInt ≤ 4))) ∧ (∀ j, (-3) ≤ ((u.2.1 2) j).toInt ∧ ((u.2.1 2) j).toInt ≤ 24)) (gB D (va_A (zS_29 cB cC cI cJ a0 a1 a2 a3 a4 a5 a6 a7 x3 a4 f0 a5 f1 a6 f2) sz) (fun u : gEx => (zS_29 cB cC cI cJ a0 a1 a2 a3 a4 a5 a6 a7 x3 a4 (u.2.1 0) a5 (u.2.1 1) a6 (u.2.1 2)))) (va_A (zS_29 cB cC cI cJ a0 a1 a2 a3 a4 a5 a6 a7 x3 a4 f0 a5 f1 a6 f2) sz)) 0 0 (va_A (zS_29 cB cC cI cJ a0 a1 a2 a3 a4 a5 a6 a7 x3 a4 f0 a5 f1 a6 f2) sz) := by
  refine gOf_v (by decide +kernel) (Nat.le_of_ble_eq_true rfl) ?_
  intro p e s m args below meth c ls A Q hx hb hts hown hml hN hK hP hD hA hl hret
  replace hown : s.vm.findClass RX10 = some m.cls := hown
  have hS : va_S A s.heap s.heap [] := va_S.rf
  replace hP : va_P D gcl (zS_29 cB cC cI cJ a0 a1 a2 a3 a4 a5 a6 a7 x3 a4 f0 a5 f1 a6 f2) s.heap := hP
  replace hl : lv_has ls 5 [(0, .ref a0), (1, .int x0), (2, .int x1), (3, .int x2)] := hl
  have rx0 : zBd x0.toInt (-2147483648) 2147483647 := n_rng x0
  have rx1 : zBd x1.toInt (-2147483648) 2147483647 := n_rng x1
  refine lv_iconst (pc := 0) (v := 0) hx hb dX10_setAllNumbers_0 (by decide) ?_
  refine lv_istore (pc := 1) (lv' := [(4, .int 0), (0, .ref a0), (1, .int x0), (2, .int x1), (3, .int x2)]) hx hb dX10_setAllNumbers_1 hl (by decide) rfl (fun ls hl => ?_)
  have lp_7 : ∀ (n : Nat) (x_1 : Int32) (f_3 f_4 f_5 : Nat → Int32) (H : Heap) (locs : List Loc) (ls : Array Slot), (0 ≤ x_1.toInt ∧ x_1.toInt ≤ 2147483647) → (∀ j, (-3) ≤ (f_5 j).toInt ∧ (f_5 j).toInt ≤ 24) → (2147483647 - x_1.toInt).toNat < n → va_P D gcl (zS_29 cB cC cI cJ a0 a1 a2 a3 a4 a5 a6 a7 x3 a4 f_3 a5 f_4 a6 f_5) H → va_D A (zS_29 cB cC cI cJ a0 a1 a2 a3 a4 a5 a6 a7 x3 a4 f_3 a5 f_4 a6 f_5) → va_S A s.heap H locs → lv_has ls 5 [(4, .int x_1), (0, .ref a0), (1, .int x0), (2, .int x1), (3, .int x2)] → W p l e ({ frames := 1, cells := 0, slots := 0, locals := 24 }) s m args below meth c H locs 0 0 Q (F0 m 3 ls []) := by
    intro n
    induction n with
    | zero => intro x_1 f_3 f_4 f_5 H locs ls hi_2 hi_6 hmu; exact absurd hmu (Nat.not_lt_zero _)
    | succ n ih_lp_7 =>
      intro x_1 f_3 f_4 f_5 H locs ls hi_2 hi_6 hmu_lp_7 hP hD hS hl
      refine lv_iload (pc := 3) hx hb dX10_setAllNumbers_3 (lv_at hl 0 rfl) ?_
      refine lv_aload_n (pc := 5) hx hb dX10_setAllNumbers_5 rfl (lv_at hl 1 rfl) ?_
      refine va_get (pc := 6) (ci := 10) (v := .int x3) (C := RX10) (T := TX10) (N := 8) hx hb hts iX10 hown hK hP 0 rfl rfl 7 (by decide) (hts _ tw_220) (fun _ h9 => h9) rfl dX10_setAllNumbers_6 ?_
      have bd_h_x3 : 0 ≤ x3.toInt ∧ x3.toInt ≤ 4 := h_x3
      refine b_icmp_gt (pc := 9) (tgt := 27) hx hb rfl rfl  dX10_setAllNumbers_9 (by decide) (fun c_8 => ?_) (fun c_8 => ?_)
      ·
        exact hret ((fun _ => 0), (fun k => [f_3, f_4, f_5].getD k (fun _ => 0)), (fun _ => (fun _ => 0)), (fun _ => 0), (fun _ => 0)) dX10_setAllNumbers_27 ⟨(show (((0 ≤ x3.toInt ∧ x3.toInt ≤ 4))) from h_x3), hi_6⟩ (g_psub (wc := (zS_29 cB cC cI cJ a0 a1 a2 a3 a4 a5 a6 a7 x3 a4 f_3 a5 f_4 a6 f_5)) hP [0, 1, 2, 3] rfl) (hD.sub (ws' := (zS_29 cB cC cI cJ a0 a1 a2 a3 a4 a5 a6 a7 x3 a4 f_3 a5 f_4 a6 f_5)) [0, 1, 2, 3] (by decide) rfl) hS
      ·
        refine lv_aload_n (pc := 12) hx hb dX10_setAllNumbers_12 rfl (lv_at hl 1 rfl) ?_
        refine lv_iload (pc := 13) hx hb dX10_setAllNumbers_13 (lv_at hl 0 rfl) ?_
        refine lv_iload_n (pc := 15) hx hb dX10_setAllNumbers_15 rfl (lv_at hl 2 rfl) ?_
        refine lv_iload_n (pc := 16) hx hb dX10_setAllNumbers_16 rfl (lv_at hl 3 rfl) ?_
        refine lv_iload_n (pc := 17) hx hb dX10_setAllNumbers_17 rfl (lv_at hl 4 rfl) ?_
        refine gd_v (pc := 18) (wc := (zS_29 cB cC cI cJ a0 a1 a2 a3 a4 a5 a6 a7 x3 a4 f_3 a5 f_4 a6 f_5)) hP hD hS hA [0, 1, 2, 3] rfl (by decide +kernel) (fun _ => by rfl) (fun hPc hDc => va_runV (As := [.int x_1, .int x0, .int x1, .int x2]) (rest := []) ⟨hx, hb, hml, hown, hts⟩ (k_X10_setNumbers l D cB cC cI cJ _ a0 a1 a2 a3 a4 a5 a6 a7 x_1 x0 x1 x2 x3 f_3 f_4 f_5 (by first | exact (om_1134 hi_2.1 c_8 h_x3.2) | ((first | omega | (unfold zBd at *; omega)))) hp3 h_x3 hi_6) ⟨gcwB hts tw_900 tw_8 tw_897 hd_yX10_setNumbers ⟨Nat.le_of_ble_eq_true rfl, Nat.le_of_ble_eq_true rfl⟩, hts _ tw_898, hts _ tw_899⟩ ⟨gblind, va_recv hK hPc (ci := 10) (q0 := 0) rfl rfl, (gpreS hPc hK hDc hN).2⟩ rfl rfl hl.1 rfl (lv_room (Nat.le_of_ble_eq_true rfl)) dX10_setAllNumbers_18 ⟨Nat.le_of_ble_eq_true rfl, Nat.le_of_ble_eq_true rfl⟩) (fun u_9 H locs hw_11 hP hD hS => ?_)
        replace hP : va_P D gcl (zS_29 cB cC cI cJ a0 a1 a2 a3 a4 a5 a6 a7 x3 a4 (u_9.2.1 0) a5 (u_9.2.1 1) a6 (u_9.2.1 2)) H := hP
        replace hD : va_D A (zS_29 cB cC cI cJ a0 a1 a2 a3 a4 a5 a6 a7 x3 a4 (u_9.2.1 0) a5 (u_9.2.1 1) a6 (u_9.2.1 2)) := hD
        have hw_12 : (∀ j, (-3) ≤ ((u_9.2.1 2) j).toInt ∧ ((u_9.2.1 2) j).toInt ≤ 24) := hw_11
        refine b_iinc (pc := 21) hx hb dX10_setAllNumbers_21 hl (k := 0) rfl rfl tI_1 (by first | exact (om_2 hi_2.1) | ((first | omega | (unfold zBd at *; omega)))) (by first | exact (om_1132 c_8 h_x3.2) | ((first | omega | (unfold zBd at *; omega)))) (by decide) (fun x_13 ex_13 ls hl => ?_)
        replace hl : lv_has ls 5 [(4, .int x_13), (0, .ref a0), (1, .int x0), (2, .int x1), (3, .int x2)] := hl
        refine lv_goto (pc := 24) (tgt := 3) hx hb dX10_setAllNumbers_24 (by decide) ?_
        exact ih_lp_7 x_13 (u_9.2.1 0) (u_9.2.1 1) (u_9.2.1 2) _ _ ls (by first | exact (om_1133 ex_13 hi_2.1 c_8 h_x3.2) | ((first | omega | (unfold zBd at *; omega)))) hw_12 (by (first | omega | (unfold zBd at *; omega))) hP hD hS (lv_sub hl [0, 1, 2, 3, 4] rfl)
  exact lp_7 _ 0 f0 f1 f2 _ _ ls (n_c tI_0 (by decide)) hf_f2 (Nat.lt_succ_self _) hP hD hS (lv_sub hl [0, 1, 2, 3, 4] rfl)
theorem om_1138 {a : Int} (h0 : (a ≤ 23)) : (a ≤ 23) := by omega
set_option maxHeartbeats 4000000 in
set_option maxRecDepth 100000 in
theorem k_J7_fill_53178_5r0_23 (l : Launch) (D : va_G) (cB cC cI cJ : ClassId) (sz : Nat) (a0 : Nat) (x0 : Int32) (f0 : Nat → Int32) (hp1 : (0 ≤ x0.toInt ∧ x0.toInt ≤ 23)) (hf_f0 : (∀ j, 0 ≤ (f0 j).toInt ∧ (f0 j).toInt ≤ 23)) : Met l yJ7_fill_53178 (.code yJ7_fill_53178 cJ7_fill_53178 4 none :: lw_gd) ({ frames := 0, cells := 0, slots := 0, locals := 0 }) (gPre D [(cB, .byte), (cC, .char), (cI, .int), (cJ, .long)] [.ref a0, .int x0] [(a0, .inl (cI, 5, .inl f0))] sz) (va_Qv (fun u => (∀ j, 0 ≤ ((u.2.1 0) j).toInt ∧ ((u.2.1 0) j).toInt ≤ 23)) (gB D (va_A [(a0, .inl (cI, 5, .inl f0))] sz) (fun u : gEx => [(a0, .inl (cI, 5, .inl (u.2.1 0)))])) (va_A [(a0, .inl (cI, 5, .inl f0))] sz)) 0 0 (va_A [(a0, .inl (cI, 5, .inl f0))] sz) := by
  refine gOf_v (by decide +kernel) (Nat.le_of_ble_eq_true rfl) ?_
  intro p e s m args below meth c ls A Q hx hb hts hown hml hN hK hP hD hA hl hret
  replace hown : s.vm.findClass RJ7 = some m.cls := hown
  have hS : va_S A s.heap s.heap [] := va_S.rf
  replace hP : va_P D gcl [(a0, .inl (cI, 5, .inl f0))] s.heap := hP
  replace hl : lv_has ls 4 [(0, .ref a0), (1, .int x0)] := hl
  refine lv_iconst (pc := 0) (v := 0) hx hb dJ7_fill_53178_0 (by decide) ?_
  refine lv_istore_n (pc := 1) (lv' := [(2, .int 0), (0, .ref a0), (1, .int x0)]) hx hb dJ7_fill_53178_1 rfl hl (by decide) rfl (fun ls hl => ?_)
  refine lv_aload_n (pc := 2) hx hb dJ7_fill_53178_2 rfl (lv_at hl 1 rfl) ?_
  refine va_alen (pc := 3) (v := 5) hx hb hK hP 0 2 rfl rfl rfl dJ7_fill_53178_3 ?_
  refine lv_istore_n (pc := 4) (lv' := [(3, .int 5), (2, .int 0), (0, .ref a0), (1, .int x0)]) hx hb dJ7_fill_53178_4 rfl hl (by decide) rfl (fun ls hl => ?_)
  have lp_5 : ∀ (n : Nat) (x_1 : Int32) (f_3 : Nat → Int32) (H : Heap) (locs : List Loc) (ls : Array Slot), (0 ≤ x_1.toInt ∧ x_1.toInt ≤ 2147483647) → (∀ j, 0 ≤ (f_3 j).toInt ∧ (f_3 j).toInt ≤ 23) → (2147483647 - x_1.toInt).toNat < n → va_P D gcl [(a0, .inl (cI, 5, .inl f_3))] H → va_D A [(a0, .inl (cI, 5, .inl f_3))] → va_S A s.heap H locs → lv_has ls 4 [(3, .int 5), (2, .int x_1), (0, .ref a0), (1, .int x0)] → W p l e ({ frames := 0, cells := 0, slots := 0, locals := 0 }) s m args below meth c H locs 0 0 Q (F0 m 5 ls []) := by
    intro n
    induction n with
    | zero => intro x_1 f_3 H locs ls hi_2 hi_4 hmu; exact absurd hmu (Nat.not_lt_zero _)
    | succ n ih_lp_5 =>
      intro x_1 f_3 H locs ls hi_2 hi_4 hmu_lp_5 hP hD hS hl
      refine lv_iload_n (pc := 5) hx hb dJ7_fill_53178_5 rfl (lv_at hl 1 rfl) ?_
      refine lv_iload_n (pc := 6) hx hb dJ7_fill_53178_6 rfl (lv_at hl 0 rfl) ?_
      refine b_icmp_ge (pc := 7) (tgt := 20) hx hb rfl tI_5  dJ7_fill_53178_7 (by decide) (fun c_6 => ?_) (fun c_6 => ?_)
      ·
        exact hret ((fun _ => 0), (fun k => [f_3].getD k (fun _ => 0)), (fun _ => (fun _ => 0)), (fun _ => 0), (fun _ => 0)) dJ7_fill_53178_20 hi_4 (g_psub (wc := [(a0, .inl (cI, 5, .inl f_3))]) hP [0] rfl) (hD.sub (ws' := [(a0, .inl (cI, 5, .inl f_3))]) [0] (by decide) rfl) hS
      ·
        refine lv_aload_n (pc := 10) hx hb dJ7_fill_53178_10 rfl (lv_at hl 2 rfl) ?_
        refine lv_iload_n (pc := 11) hx hb dJ7_fill_53178_11 rfl (lv_at hl 1 rfl) ?_
        refine lv_iload_n (pc := 12) hx hb dJ7_fill_53178_12 rfl (lv_at hl 3 rfl) ?_
        refine h_iastore (pc := 13) hx hb hK hP hD hS 0 2 rfl rfl (n_in rfl (by first | exact (om_0 hi_2.1) | ((first | omega | (unfold zBd at *; omega)))) (by first | exact (om_434 c_6) | ((first | omega | (unfold zBd at *; omega))))) dJ7_fill_53178_13 hi_4 (by first | exact (om_0 hp1.1) | ((first | omega | (unfold zBd at *; omega)))) (by first | exact (om_1138 hp1.2) | ((first | omega | (unfold zBd at *; omega)))) (fun f_7 hf_7 H locs hP hD hS => ?_)
        replace hP : va_P D gcl [(a0, .inl (cI, 5, .inl f_7))] H := hP
        replace hD : va_D A [(a0, .inl (cI, 5, .inl f_7))] := hD
        refine b_iinc (pc := 14) hx hb dJ7_fill_53178_14 hl (k := 1) rfl rfl tI_1 (by first | exact (om_2 hi_2.1) | ((first | omega | (unfold zBd at *; omega)))) (by first | exact (om_409 c_6) | ((first | omega | (unfold zBd at *; omega)))) (by decide) (fun x_8 ex_8 ls hl => ?_)
        replace hl : lv_has ls 4 [(2, .int x_8), (3, .int 5), (0, .ref a0), (1, .int x0)] := hl
        refine lv_goto (pc := 17) (tgt := 5) hx hb dJ7_fill_53178_17 (by decide) ?_
        exact ih_lp_5 x_8 f_7 _ _ ls (by first | exact (om_410 ex_8 hi_2.1 c_6) | ((first | omega | (unfold zBd at *; omega)))) hf_7 (by (first | omega | (unfold zBd at *; omega))) hP hD hS (lv_sub hl [1, 0, 2, 3] rfl)
  exact lp_5 _ 0 f0 _ _ ls (n_c tI_0 (by decide)) hf_f0 (Nat.lt_succ_self _) hP hD hS (lv_sub hl [0, 1, 2, 3] rfl)
theorem om_1139 {a b : Int} (h0 : (a < b)) (h1 : (b ≤ 4)) : (a * 5 ≤ 2147483647) := by omega
theorem om_1140 {a b : Int} (h0 : (a < b)) (h1 : (b ≤ 4)) : (a < (5 : Nat)) := by omega
theorem om_1141 {a b : Int} (h0 : (a < b)) (h1 : (b ≤ 4)) : (a + 1 ≤ 2147483647) := by omega
theorem om_1142 {a b c : Int} (h0 : (a = b * 5)) (h1 : (b < c)) (h2 : (c ≤ 4)) : (a + b ≤ 2147483647) := by omega
theorem om_1143 {a b c d : Int} (h0 : (a = b + c)) (h1 : (b = c * 5)) (h2 : (c < d)) (h3 : (d ≤ 4)) : (a < (25 : Nat)) := by omega
theorem om_1144 {a b c : Int} (h0 : (a = b + 1)) (h1 : (b < c)) (h2 : (c ≤ 4)) : (a < (5 : Nat)) := by omega
theorem om_1145 {a b c : Int} (h0 : (a = b + 1)) (h1 : (0 ≤ b)) (h2 : (b < c)) (h3 : (c ≤ 4)) : ((0 ≤ a ∧ a ≤ 2147483647)) := by omega
theorem om_1146 {a b : Int} (h0 : (a = b * 5)) (h1 : (0 ≤ b)) : (-2147483648 ≤ a + 5) := by omega
theorem om_1147 {a b c : Int} (h0 : (a = b * 5)) (h1 : (b < c)) (h2 : (c ≤ 4)) : (a + 5 ≤ 2147483647) := by omega
theorem om_1148 {a b c d : Int} (h0 : (a = c + 5)) (h1 : (1 ≤ b)) (h2 : (c = d * 5)) (h3 : (0 ≤ d)) : (-2147483648 ≤ a + b) := by omega
theorem om_1149 {a b c d e : Int} (h0 : (a = c + 5)) (h1 : (b ≤ d)) (h2 : (c = e * 5)) (h3 : (e < d)) (h4 : (d ≤ 4)) : (a + b ≤ 2147483647) := by omega
theorem om_1150 {a b c : Int} (h0 : (1 ≤ b)) (h1 : (a = c * 5)) (h2 : (0 ≤ c)) : (-2147483648 ≤ a + b) := by omega
theorem om_1151 {a b c d : Int} (h0 : (b ≤ c)) (h1 : (a = d * 5)) (h2 : (d < c)) (h3 : (c ≤ 4)) : (a + b ≤ 2147483647) := by omega
theorem om_1152 {a b c d : Int} (h0 : (a = b + c)) (h1 : (1 ≤ c)) (h2 : (b = d * 5)) (h3 : (0 ≤ d)) : (0 ≤ a) := by omega
theorem om_1153 {a b c d e : Int} (h0 : (a = b + c)) (h1 : (c ≤ d)) (h2 : (b = e * 5)) (h3 : (e < d)) (h4 : (d ≤ 4)) : (a < (25 : Nat)) := by omega
theorem om_1154 {a b c d e : Int} (h0 : (a = b + c)) (h1 : (b = d + 5)) (h2 : (1 ≤ c)) (h3 : (d = e * 5)) (h4 : (0 ≤ e)) : (0 ≤ a) := by omega
theorem om_1155 {a b c d e f : Int} (h0 : (a = b + c)) (h1 : (b = d + 5)) (h2 : (c ≤ e)) (h3 : (d = f * 5)) (h4 : (f < e)) (h5 : (e ≤ 4)) : (a < (25 : Nat)) := by omega
theorem om_1156 {a b c : Int} (h0 : (a = b + 1)) (h1 : (1 ≤ b)) (h2 : (b ≤ c)) (h3 : (c ≤ 4)) : ((1 ≤ a ∧ a ≤ 2147483647)) := by omega
theorem om_1157 {a b c : Int} (h0 : (a = b + 1)) (h1 : (0 ≤ b)) (h2 : (b < c)) (h3 : (c ≤ 4)) : ((1 ≤ a ∧ a ≤ 2147483647)) := by omega
theorem om_1158 {a : Int} (h0 : (0 ≤ a)) (h1 : (a ≤ 4)) : ((0 ≤ a ∧ a ≤ 2147483647)) := by omega
set_option maxHeartbeats 4000000 in
set_option maxRecDepth 100000 in
theorem k_X10_settle (l : Launch) (D : va_G) (cB cC cI cJ : ClassId) (sz : Nat) (a0 a1 a2 a3 a4 a5 a6 a7 : Nat) (x0 x1 : Int32) (f0 f1 f2 : Nat → Int32) (g0 g1 g2 : Nat → Int64) (hp1 : (0 ≤ x0.toInt ∧ x0.toInt ≤ 4)) (h_x1 : zBd x1.toInt 0 4) (hf_f2 : (∀ j, 0 ≤ (f2 j).toInt ∧ (f2 j).toInt ≤ 23)) : Met l yX10_settle (.code yX10_settle cX10_settle 7 none :: lw_gd) ({ frames := 0, cells := 0, slots := 0, locals := 0 }) (gPre D [(cB, .byte), (cC, .char), (cI, .int), (cJ, .long)] [.ref a0, .int x0] (zS_25 cB cC cI cJ a0 a1 a2 a3 a4 a5 a6 a7 x1 a4 f0 a5 f1 a7 f2 a2 g0 a1 g1 a3 g2) sz) (va_Qv (fun u => (((0 ≤ x1.toInt ∧ x1.toInt ≤ 4)))) (gB D (va_A (zS_25 cB cC cI cJ a0 a1 a2 a3 a4 a5 a6 a7 x1 a4 f0 a5 f1 a7 f2 a2 g0 a1 g1 a3 g2) sz) (fun u : gEx => (zS_25 cB cC cI cJ a0 a1 a2 a3 a4 a5 a6 a7 x1 a4 f0 a5 f1 a7 f2 a2 (u.2.2.1 0) a1 g1 a3 (u.2.2.1 1)))) (va_A (zS_25 cB cC cI cJ a0 a1 a2 a3 a4 a5 a6 a7 x1 a4 f0 a5 f1 a7 f2 a2 g0 a1 g1 a3 g2) sz)) 0 0 (va_A (zS_25 cB cC cI cJ a0 a1 a2 a3 a4 a5 a6 a7 x1 a4 f0 a5 f1 a7 f2 a2 g0 a1 g1 a3 g2) sz) := by
  refine gOf_v (by decide +kernel) (Nat.le_of_ble_eq_true rfl) ?_
  intro p e s m args below meth c ls A Q hx hb hts hown hml hN hK hP hD hA hl hret
  replace hown : s.vm.findClass RX10 = some m.cls := hown
  have hS : va_S A s.heap s.heap [] := va_S.rf
  replace hP : va_P D gcl (zS_25 cB cC cI cJ a0 a1 a2 a3 a4 a5 a6 a7 x1 a4 f0 a5 f1 a7 f2 a2 g0 a1 g1 a3 g2) s.heap := hP
  replace hl : lv_has ls 7 [(0, .ref a0), (1, .int x0)] := hl
  refine lv_iload_n (pc := 0) hx hb dX10_settle_0 rfl (lv_at hl 1 rfl) ?_
  refine lv_istore_n (pc := 1) (lv' := [(2, .int x0), (0, .ref a0), (1, .int x0)]) hx hb dX10_settle_1 rfl hl (by decide) rfl (fun ls hl => ?_)
  have lp_5 : ∀ (n : Nat) (x_1 : Int32) (g_3 g_4 : Nat → Int64) (H : Heap) (locs : List Loc) (ls : Array Slot), (0 ≤ x_1.toInt ∧ x_1.toInt ≤ 2147483647) → (2147483647 - x_1.toInt).toNat < n → va_P D gcl (zS_25 cB cC cI cJ a0 a1 a2 a3 a4 a5 a6 a7 x1 a4 f0 a5 f1 a7 f2 a2 g_3 a1 g1 a3 g_4) H → va_D A (zS_25 cB cC cI cJ a0 a1 a2 a3 a4 a5 a6 a7 x1 a4 f0 a5 f1 a7 f2 a2 g_3 a1 g1 a3 g_4) → va_S A s.heap H locs → lv_has ls 7 [(2, .int x_1), (0, .ref a0), (1, .int x0)] → W p l e ({ frames := 0, cells := 0, slots := 0, locals := 0 }) s m args below meth c H locs 0 0 Q (F0 m 2 ls []) := by
    intro n
    induction n with
    | zero => intro x_1 g_3 g_4 H locs ls hi_2 hmu; exact absurd hmu (Nat.not_lt_zero _)
    | succ n ih_lp_5 =>
      intro x_1 g_3 g_4 H locs ls hi_2 hmu_lp_5 hP hD hS hl
      refine lv_iload_n (pc := 2) hx hb dX10_settle_2 rfl (lv_at hl 0 rfl) ?_
      refine lv_aload_n (pc := 3) hx hb dX10_settle_3 rfl (lv_at hl 1 rfl) ?_
      refine va_get (pc := 4) (ci := 10) (v := .int x1) (C := RX10) (T := TX10) (N := 8) hx hb hts iX10 hown hK hP 0 rfl rfl 7 (by decide) (hts _ tw_220) (fun _ h9 => h9) rfl dX10_settle_4 ?_
      have bd_h_x1 : 0 ≤ x1.toInt ∧ x1.toInt ≤ 4 := h_x1
      refine b_icmp_ge (pc := 7) (tgt := 138) hx hb rfl rfl  dX10_settle_7 (by decide) (fun c_6 => ?_) (fun c_6 => ?_)
      ·
        exact hret ((fun _ => 0), (fun _ => (fun _ => 0)), (fun k => [g_3, g_4].getD k (fun _ => 0)), (fun _ => 0), (fun _ => 0)) dX10_settle_138 (show (((0 ≤ x1.toInt ∧ x1.toInt ≤ 4))) from h_x1) (g_psub (wc := (zS_25 cB cC cI cJ a0 a1 a2 a3 a4 a5 a6 a7 x1 a4 f0 a5 f1 a7 f2 a2 g_3 a1 g1 a3 g_4)) hP [0, 1, 2, 3, 4, 5, 6] rfl) (hD.sub (ws' := (zS_25 cB cC cI cJ a0 a1 a2 a3 a4 a5 a6 a7 x1 a4 f0 a5 f1 a7 f2 a2 g_3 a1 g1 a3 g_4)) [0, 1, 2, 3, 4, 5, 6] (by decide) rfl) hS
      ·
        refine lv_iload_n (pc := 10) hx hb dX10_settle_10 rfl (lv_at hl 0 rfl) ?_
        refine lv_iconst (pc := 11) (v := 5) hx hb dX10_settle_11 (by decide) ?_
        refine b_imul (pc := 12) hx hb rfl tI_5 (by first | exact (om_330 hi_2.1) | ((first | omega | (unfold zBd at *; omega)))) (by first | exact (om_1139 c_6 h_x1.2) | ((first | omega | (unfold zBd at *; omega)))) dX10_settle_12 (fun x_7 ex_7 => ?_)
        refine lv_istore_n (pc := 13) (lv' := [(3, .int x_7), (2, .int x_1), (0, .ref a0), (1, .int x0)]) hx hb dX10_settle_13 rfl hl (by decide) rfl (fun ls hl => ?_)
        refine lv_aload_n (pc := 14) hx hb dX10_settle_14 rfl (lv_at hl 2 rfl) ?_
        refine va_get (pc := 15) (ci := 10) (v := .ref a4) (C := RX10) (T := TX10) (N := 8) hx hb hts iX10 hown hK hP 0 rfl rfl 3 (by decide) (hts _ tw_211) (fun _ h9 => h9) rfl dX10_settle_15 ?_
        refine lv_iload_n (pc := 18) hx hb dX10_settle_18 rfl (lv_at hl 1 rfl) ?_
        refine va_iald (pc := 19) hx hb hK hP 1 2 rfl rfl (n_in rfl (by first | exact (om_0 hi_2.1) | ((first | omega | (unfold zBd at *; omega)))) (by first | exact (om_1140 c_6 h_x1.2) | ((first | omega | (unfold zBd at *; omega))))) dX10_settle_19 ?_
        refine lv_topi (fun x_8 ex_8 => ?_)
        have rx_8 : zBd x_8.toInt (-2147483648) 2147483647 := n_rng x_8
        refine lv_aload_n (pc := 20) hx hb dX10_settle_20 rfl (lv_at hl 2 rfl) ?_
        refine va_get (pc := 21) (ci := 10) (v := .ref a5) (C := RX10) (T := TX10) (N := 8) hx hb hts iX10 hown hK hP 0 rfl rfl 4 (by decide) (hts _ tw_213) (fun _ h9 => h9) rfl dX10_settle_21 ?_
        refine lv_iload_n (pc := 24) hx hb dX10_settle_24 rfl (lv_at hl 1 rfl) ?_
        refine va_iald (pc := 25) hx hb hK hP 2 2 rfl rfl (n_in rfl (by first | exact (om_0 hi_2.1) | ((first | omega | (unfold zBd at *; omega)))) (by first | exact (om_1140 c_6 h_x1.2) | ((first | omega | (unfold zBd at *; omega))))) dX10_settle_25 ?_
        refine lv_topi (fun x_9 ex_9 => ?_)
        have rx_9 : zBd x_9.toInt (-2147483648) 2147483647 := n_rng x_9
        refine lv_aload_n (pc := 26) hx hb dX10_settle_26 rfl (lv_at hl 2 rfl) ?_
        refine va_get (pc := 27) (ci := 10) (v := .ref a7) (C := RX10) (T := TX10) (N := 8) hx hb hts iX10 hown hK hP 0 rfl rfl 6 (by decide) (hts _ tw_216) (fun _ h9 => h9) rfl dX10_settle_27 ?_
        refine lv_iload_n (pc := 30) hx hb dX10_settle_30 rfl (lv_at hl 1 rfl) ?_
        refine va_iald (pc := 31) hx hb hK hP 3 2 rfl rfl (n_in rfl (by first | exact (om_0 hi_2.1) | ((first | omega | (unfold zBd at *; omega)))) (by first | exact (om_1140 c_6 h_x1.2) | ((first | omega | (unfold zBd at *; omega))))) dX10_settle_31 ?_
        refine lv_topi (fun x_10 ex_10 => ?_)
        have rx_10 : (0 ≤ x_10.toInt ∧ x_10.toInt ≤ 23) := by rw [ex_10]; exact hf_f2 _
        refine lv_imul (pc := 32) hx hb dX10_settle_32 ?_
        refine lv_topi (fun x_11 _ => ?_)
        have rx_11 : zBd x_11.toInt (-2147483648) 2147483647 := n_rng x_11
        refine lv_iadd (pc := 33) hx hb dX10_settle_33 ?_
        refine lv_topi (fun x_12 _ => ?_)
        have rx_12 : zBd x_12.toInt (-2147483648) 2147483647 := n_rng x_12
        refine b_i2l (pc := 34) hx hb rfl dX10_settle_34 (fun y_13 ey_13 => ?_)
        have ry_13 : zBd x_12.toInt (-2147483648) 2147483647 := n_rng x_12
        refine lv_lstore (pc := 35) (lv' := [(4, .long y_13), (3, .int x_7), (2, .int x_1), (0, .ref a0), (1, .int x0)]) hx hb dX10_settle_35 hl (by decide) rfl (fun ls hl => ?_)
        refine lv_aload_n (pc := 37) hx hb dX10_settle_37 rfl (lv_at hl 3 rfl) ?_
        refine va_get (pc := 38) (ci := 10) (v := .ref a2) (C := RX10) (T := TX10) (N := 8) hx hb hts iX10 hown hK hP 0 rfl rfl 1 (by decide) (hts _ tw_209) (fun _ h9 => h9) rfl dX10_settle_38 ?_
        refine lv_iload_n (pc := 41) hx hb dX10_settle_41 rfl (lv_at hl 2 rfl) ?_
        refine lv_iconst (pc := 42) (v := 1) hx hb dX10_settle_42 (by decide) ?_
        refine b_iadd (pc := 43) hx hb rfl tI_1 (by first | exact (om_2 hi_2.1) | ((first | omega | (unfold zBd at *; omega)))) (by first | exact (om_1141 c_6 h_x1.2) | ((first | omega | (unfold zBd at *; omega)))) dX10_settle_43 (fun x_14 ex_14 => ?_)
        refine lv_aload_n (pc := 44) hx hb dX10_settle_44 rfl (lv_at hl 3 rfl) ?_
        refine va_get (pc := 45) (ci := 10) (v := .ref a2) (C := RX10) (T := TX10) (N := 8) hx hb hts iX10 hown hK hP 0 rfl rfl 1 (by decide) (hts _ tw_209) (fun _ h9 => h9) rfl dX10_settle_45 ?_
        refine lv_iload_n (pc := 48) hx hb dX10_settle_48 rfl (lv_at hl 2 rfl) ?_
        refine va_lald (pc := 49) hx hb hK hP 4 3 rfl rfl (n_in rfl (by first | exact (om_0 hi_2.1) | ((first | omega | (unfold zBd at *; omega)))) (by first | exact (om_1140 c_6 h_x1.2) | ((first | omega | (unfold zBd at *; omega))))) dX10_settle_49 ?_
        refine lv_topl (fun y_15 ey_15 => ?_)
        have ry_15 := n_rngL y_15
        refine lv_lload (pc := 50) hx hb dX10_settle_50 (lv_at hl 0 rfl) ?_
        refine lv_lload (pc := 52) hx hb dX10_settle_52 (lv_at hl 0 rfl) ?_
        refine lv_aload_n (pc := 54) hx hb dX10_settle_54 rfl (lv_at hl 3 rfl) ?_
        refine va_get (pc := 55) (ci := 10) (v := .ref a1) (C := RX10) (T := TX10) (N := 8) hx hb hts iX10 hown hK hP 0 rfl rfl 0 (by decide) (hts _ tw_207) (fun _ h9 => h9) rfl dX10_settle_55 ?_
        refine lv_iload_n (pc := 58) hx hb dX10_settle_58 rfl (lv_at hl 1 rfl) ?_
        refine lv_iload_n (pc := 59) hx hb dX10_settle_59 rfl (lv_at hl 2 rfl) ?_
        refine b_iadd (pc := 60) hx hb rfl rfl (by first | exact (om_405 ex_7 hi_2.1) | ((first | omega | (unfold zBd at *; omega)))) (by first | exact (om_1142 ex_7 c_6 h_x1.2) | ((first | omega | (unfold zBd at *; omega)))) dX10_settle_60 (fun x_16 ex_16 => ?_)
        refine va_lald (pc := 61) hx hb hK hP 5 3 rfl rfl (n_in rfl (by first | exact (om_407 ex_16 ex_7 hi_2.1) | ((first | omega | (unfold zBd at *; omega)))) (by first | exact (om_1143 ex_16 ex_7 c_6 h_x1.2) | ((first | omega | (unfold zBd at *; omega))))) dX10_settle_61 ?_
        refine lv_topl (fun y_17 ey_17 => ?_)
        have ry_17 := n_rngL y_17
        refine lv_lmul (pc := 62) hx hb dX10_settle_62 ?_
        refine lv_topl (fun y_18 _ => ?_)
        have ry_18 := n_rngL y_18
        refine lv_ldc2 (pc := 63) hx hb hown (hts _ tw_910) dX10_settle_63 ?_
        refine lv_aload_n (pc := 66) hx hb dX10_settle_66 rfl (lv_at hl 3 rfl) ?_
        refine va_get (pc := 67) (ci := 10) (v := .ref a3) (C := RX10) (T := TX10) (N := 8) hx hb hts iX10 hown hK hP 0 rfl rfl 2 (by decide) (hts _ tw_210) (fun _ h9 => h9) rfl dX10_settle_67 ?_
        refine lv_iload_n (pc := 70) hx hb dX10_settle_70 rfl (lv_at hl 1 rfl) ?_
        refine lv_iload_n (pc := 71) hx hb dX10_settle_71 rfl (lv_at hl 2 rfl) ?_
        refine b_iadd (pc := 72) hx hb rfl rfl (by first | exact (om_405 ex_7 hi_2.1) | ((first | omega | (unfold zBd at *; omega)))) (by first | exact (om_1142 ex_7 c_6 h_x1.2) | ((first | omega | (unfold zBd at *; omega)))) dX10_settle_72 (fun x_19 ex_19 => ?_)
        refine va_lald (pc := 73) hx hb hK hP 6 3 rfl rfl (n_in rfl (by first | exact (om_407 ex_19 ex_7 hi_2.1) | ((first | omega | (unfold zBd at *; omega)))) (by first | exact (om_1143 ex_19 ex_7 c_6 h_x1.2) | ((first | omega | (unfold zBd at *; omega))))) dX10_settle_73 ?_
        refine lv_topl (fun y_20 ey_20 => ?_)
        have ry_20 := n_rngL y_20
        refine lv_lmul (pc := 74) hx hb dX10_settle_74 ?_
        refine lv_topl (fun y_21 _ => ?_)
        have ry_21 := n_rngL y_21
        refine lv_lsub (pc := 75) hx hb dX10_settle_75 ?_
        refine lv_topl (fun y_22 _ => ?_)
        have ry_22 := n_rngL y_22
        refine lv_lmul (pc := 76) hx hb dX10_settle_76 ?_
        refine lv_topl (fun y_23 _ => ?_)
        have ry_23 := n_rngL y_23
        refine lv_ladd (pc := 77) hx hb dX10_settle_77 ?_
        refine lv_topl (fun y_24 _ => ?_)
        have ry_24 := n_rngL y_24
        refine g_lastore (pc := 78) hx hb hK hP hD hS 4 3 rfl rfl (n_in rfl (by first | exact (om_917 ex_14 hi_2.1) | ((first | omega | (unfold zBd at *; omega)))) (by first | exact (om_1144 ex_14 c_6 h_x1.2) | ((first | omega | (unfold zBd at *; omega))))) dX10_settle_78 (fun g_25 H locs hP hD hS => ?_)
        replace hP : va_P D gcl (zS_25 cB cC cI cJ a0 a1 a2 a3 a4 a5 a6 a7 x1 a4 f0 a5 f1 a7 f2 a2 g_25 a1 g1 a3 g_4) H := hP
        replace hD : va_D A (zS_25 cB cC cI cJ a0 a1 a2 a3 a4 a5 a6 a7 x1 a4 f0 a5 f1 a7 f2 a2 g_25 a1 g1 a3 g_4) := hD
        refine lv_iload_n (pc := 79) hx hb dX10_settle_79 rfl (lv_at hl 2 rfl) ?_
        refine lv_iconst (pc := 80) (v := 1) hx hb dX10_settle_80 (by decide) ?_
        refine b_iadd (pc := 81) hx hb rfl tI_1 (by first | exact (om_2 hi_2.1) | ((first | omega | (unfold zBd at *; omega)))) (by first | exact (om_1141 c_6 h_x1.2) | ((first | omega | (unfold zBd at *; omega)))) dX10_settle_81 (fun x_26 ex_26 => ?_)
        refine lv_istore (pc := 82) (lv' := [(6, .int x_26), (4, .long y_13), (3, .int x_7), (2, .int x_1), (0, .ref a0), (1, .int x0)]) hx hb dX10_settle_82 hl (by decide) rfl (fun ls hl => ?_)
        have lp_30 : ∀ (n : Nat) (x_27 : Int32) (g_29 : Nat → Int64) (H : Heap) (locs : List Loc) (ls : Array Slot), (1 ≤ x_27.toInt ∧ x_27.toInt ≤ 2147483647) → (2147483647 - x_27.toInt).toNat < n → va_P D gcl (zS_25 cB cC cI cJ a0 a1 a2 a3 a4 a5 a6 a7 x1 a4 f0 a5 f1 a7 f2 a2 g_25 a1 g1 a3 g_29) H → va_D A (zS_25 cB cC cI cJ a0 a1 a2 a3 a4 a5 a6 a7 x1 a4 f0 a5 f1 a7 f2 a2 g_25 a1 g1 a3 g_29) → va_S A s.heap H locs → lv_has ls 7 [(6, .int x_27), (4, .long y_13), (3, .int x_7), (2, .int x_1), (0, .ref a0), (1, .int x0)] → W p l e ({ frames := 0, cells := 0, slots := 0, locals := 0 }) s m args below meth c H locs 0 0 Q (F0 m 84 ls []) := by
          intro n
          induction n with
          | zero => intro x_27 g_29 H locs ls hi_28 hmu; exact absurd hmu (Nat.not_lt_zero _)
          | succ n ih_lp_30 =>
            intro x_27 g_29 H locs ls hi_28 hmu_lp_30 hP hD hS hl
            refine lv_iload (pc := 84) hx hb dX10_settle_84 (lv_at hl 0 rfl) ?_
            refine lv_aload_n (pc := 86) hx hb dX10_settle_86 rfl (lv_at hl 4 rfl) ?_
            refine va_get (pc := 87) (ci := 10) (v := .int x1) (C := RX10) (T := TX10) (N := 8) hx hb hts iX10 hown hK hP 0 rfl rfl 7 (by decide) (hts _ tw_220) (fun _ h9 => h9) rfl dX10_settle_87 ?_
            refine b_icmp_gt (pc := 90) (tgt := 132) hx hb rfl rfl  dX10_settle_90 (by decide) (fun c_31 => ?_) (fun c_31 => ?_)
            ·
              refine b_iinc (pc := 132) hx hb dX10_settle_132 hl (k := 3) rfl rfl tI_1 (by first | exact (om_2 hi_2.1) | ((first | omega | (unfold zBd at *; omega)))) (by first | exact (om_1141 c_6 h_x1.2) | ((first | omega | (unfold zBd at *; omega)))) (by decide) (fun x_32 ex_32 ls hl => ?_)
              replace hl : lv_has ls 7 [(2, .int x_32), (6, .int x_27), (4, .long y_13), (3, .int x_7), (0, .ref a0), (1, .int x0)] := hl
              refine lv_goto (pc := 135) (tgt := 2) hx hb dX10_settle_135 (by decide) ?_
              exact ih_lp_5 x_32 g_25 g_29 _ _ ls (by first | exact (om_1145 ex_32 hi_2.1 c_6 h_x1.2) | ((first | omega | (unfold zBd at *; omega)))) (by (first | omega | (unfold zBd at *; omega))) hP hD hS (lv_sub hl [0, 4, 5] rfl)
            ·
              refine lv_aload_n (pc := 93) hx hb dX10_settle_93 rfl (lv_at hl 4 rfl) ?_
              refine va_get (pc := 94) (ci := 10) (v := .ref a3) (C := RX10) (T := TX10) (N := 8) hx hb hts iX10 hown hK hP 0 rfl rfl 2 (by decide) (hts _ tw_210) (fun _ h9 => h9) rfl dX10_settle_94 ?_
              refine lv_iload_n (pc := 97) hx hb dX10_settle_97 rfl (lv_at hl 2 rfl) ?_
              refine lv_iconst (pc := 98) (v := 5) hx hb dX10_settle_98 (by decide) ?_
              refine b_iadd (pc := 99) hx hb rfl tI_5 (by first | exact (om_1146 ex_7 hi_2.1) | ((first | omega | (unfold zBd at *; omega)))) (by first | exact (om_1147 ex_7 c_6 h_x1.2) | ((first | omega | (unfold zBd at *; omega)))) dX10_settle_99 (fun x_33 ex_33 => ?_)
              refine lv_iload (pc := 100) hx hb dX10_settle_100 (lv_at hl 0 rfl) ?_
              refine b_iadd (pc := 102) hx hb rfl rfl (by first | exact (om_1148 ex_33 hi_28.1 ex_7 hi_2.1) | ((first | omega | (unfold zBd at *; omega)))) (by first | exact (om_1149 ex_33 c_31 ex_7 c_6 h_x1.2) | ((first | omega | (unfold zBd at *; omega)))) dX10_settle_102 (fun x_34 ex_34 => ?_)
              refine lv_aload_n (pc := 103) hx hb dX10_settle_103 rfl (lv_at hl 4 rfl) ?_
              refine va_get (pc := 104) (ci := 10) (v := .ref a3) (C := RX10) (T := TX10) (N := 8) hx hb hts iX10 hown hK hP 0 rfl rfl 2 (by decide) (hts _ tw_210) (fun _ h9 => h9) rfl dX10_settle_104 ?_
              refine lv_iload_n (pc := 107) hx hb dX10_settle_107 rfl (lv_at hl 2 rfl) ?_
              refine lv_iload (pc := 108) hx hb dX10_settle_108 (lv_at hl 0 rfl) ?_
              refine b_iadd (pc := 110) hx hb rfl rfl (by first | exact (om_1150 hi_28.1 ex_7 hi_2.1) | ((first | omega | (unfold zBd at *; omega)))) (by first | exact (om_1151 c_31 ex_7 c_6 h_x1.2) | ((first | omega | (unfold zBd at *; omega)))) dX10_settle_110 (fun x_35 ex_35 => ?_)
              refine va_lald (pc := 111) hx hb hK hP 6 3 rfl rfl (n_in rfl (by first | exact (om_1152 ex_35 hi_28.1 ex_7 hi_2.1) | ((first | omega | (unfold zBd at *; omega)))) (by first | exact (om_1153 ex_35 c_31 ex_7 c_6 h_x1.2) | ((first | omega | (unfold zBd at *; omega))))) dX10_settle_111 ?_
              refine lv_topl (fun y_36 ey_36 => ?_)
              have ry_36 := n_rngL y_36
              refine lv_lload (pc := 112) hx hb dX10_settle_112 (lv_at hl 1 rfl) ?_
              refine lv_aload_n (pc := 114) hx hb dX10_settle_114 rfl (lv_at hl 4 rfl) ?_
              refine va_get (pc := 115) (ci := 10) (v := .ref a1) (C := RX10) (T := TX10) (N := 8) hx hb hts iX10 hown hK hP 0 rfl rfl 0 (by decide) (hts _ tw_207) (fun _ h9 => h9) rfl dX10_settle_115 ?_
              refine lv_iload_n (pc := 118) hx hb dX10_settle_118 rfl (lv_at hl 2 rfl) ?_
              refine lv_iload (pc := 119) hx hb dX10_settle_119 (lv_at hl 0 rfl) ?_
              refine b_iadd (pc := 121) hx hb rfl rfl (by first | exact (om_1150 hi_28.1 ex_7 hi_2.1) | ((first | omega | (unfold zBd at *; omega)))) (by first | exact (om_1151 c_31 ex_7 c_6 h_x1.2) | ((first | omega | (unfold zBd at *; omega)))) dX10_settle_121 (fun x_37 ex_37 => ?_)
              refine va_lald (pc := 122) hx hb hK hP 5 3 rfl rfl (n_in rfl (by first | exact (om_1152 ex_37 hi_28.1 ex_7 hi_2.1) | ((first | omega | (unfold zBd at *; omega)))) (by first | exact (om_1153 ex_37 c_31 ex_7 c_6 h_x1.2) | ((first | omega | (unfold zBd at *; omega))))) dX10_settle_122 ?_
              refine lv_topl (fun y_38 ey_38 => ?_)
              have ry_38 := n_rngL y_38
              refine lv_lmul (pc := 123) hx hb dX10_settle_123 ?_
              refine lv_topl (fun y_39 _ => ?_)
              have ry_39 := n_rngL y_39
              refine lv_lsub (pc := 124) hx hb dX10_settle_124 ?_
              refine lv_topl (fun y_40 _ => ?_)
              have ry_40 := n_rngL y_40
              refine g_lastore (pc := 125) hx hb hK hP hD hS 6 3 rfl rfl (n_in rfl (by first | exact (om_1154 ex_34 ex_33 hi_28.1 ex_7 hi_2.1) | ((first | omega | (unfold zBd at *; omega)))) (by first | exact (om_1155 ex_34 ex_33 c_31 ex_7 c_6 h_x1.2) | ((first | omega | (unfold zBd at *; omega))))) dX10_settle_125 (fun g_41 H locs hP hD hS => ?_)
              replace hP : va_P D gcl (zS_25 cB cC cI cJ a0 a1 a2 a3 a4 a5 a6 a7 x1 a4 f0 a5 f1 a7 f2 a2 g_25 a1 g1 a3 g_41) H := hP
              replace hD : va_D A (zS_25 cB cC cI cJ a0 a1 a2 a3 a4 a5 a6 a7 x1 a4 f0 a5 f1 a7 f2 a2 g_25 a1 g1 a3 g_41) := hD
              refine b_iinc (pc := 126) hx hb dX10_settle_126 hl (k := 0) rfl rfl tI_1 (by first | exact (om_139 hi_28.1) | ((first | omega | (unfold zBd at *; omega)))) (by first | exact (om_1132 c_31 h_x1.2) | ((first | omega | (unfold zBd at *; omega)))) (by decide) (fun x_42 ex_42 ls hl => ?_)
              replace hl : lv_has ls 7 [(6, .int x_42), (4, .long y_13), (3, .int x_7), (2, .int x_1), (0, .ref a0), (1, .int x0)] := hl
              refine lv_goto (pc := 129) (tgt := 84) hx hb dX10_settle_129 (by decide) ?_
              exact ih_lp_30 x_42 g_41 _ _ ls (by first | exact (om_1156 ex_42 hi_28.1 c_31 h_x1.2) | ((first | omega | (unfold zBd at *; omega)))) (by (first | omega | (unfold zBd at *; omega))) hP hD hS (lv_sub hl [0, 1, 2, 3, 4, 5] rfl)
        exact lp_30 _ x_26 g_4 _ _ ls (by first | exact (om_1157 ex_26 hi_2.1 c_6 h_x1.2) | ((first | omega | (unfold zBd at *; omega)))) (Nat.lt_succ_self _) hP hD hS (lv_sub hl [0, 1, 2, 3, 4, 5] rfl)
  exact lp_5 _ x0 g0 g2 _ _ ls (by first | exact (om_1158 hp1.1 hp1.2) | ((first | omega | (unfold zBd at *; omega)))) (Nat.lt_succ_self _) hP hD hS (lv_sub hl [0, 1, 2] rfl)
set_option maxHeartbeats 4000000 in
set_option maxRecDepth 100000 in
theorem k_X10_firstLine (l : Launch) (D : va_G) (cB cC cI cJ : ClassId) (sz : Nat) (a0 a1 a2 a3 a4 a5 a6 a7 : Nat) (x0 : Int32) (f0 f1 f2 : Nat → Int32) (g0 g1 g2 : Nat → Int64) (h_x0 : zBd x0.toInt 0 4) (hf_f0 : (∀ j, 0 ≤ (f0 j).toInt ∧ (f0 j).toInt ≤ 23)) : Met l yX10_firstLine (.code yX10_firstLine cX10_firstLine 1 none :: lw_gd) ({ frames := 1, cells := 0, slots := 0, locals := 26 }) (gPre D [(cB, .byte), (cC, .char), (cI, .int), (cJ, .long)] [.ref a0] (zS_25 cB cC cI cJ a0 a1 a2 a3 a4 a5 a6 a7 x0 a7 f0 a4 f1 a5 f2 a2 g0 a1 g1 a3 g2) sz) (va_Qv (fun u => (∀ j, 0 ≤ ((u.2.1 0) j).toInt ∧ ((u.2.1 0) j).toInt ≤ 23)) (gB D (va_A (zS_25 cB cC cI cJ a0 a1 a2 a3 a4 a5 a6 a7 x0 a7 f0 a4 f1 a5 f2 a2 g0 a1 g1 a3 g2) sz) (fun u : gEx => (zS_25 cB cC cI cJ a0 a1 a2 a3 a4 a5 a6 a7 x0 a7 (u.2.1 0) a4 f1 a5 f2 a2 (u.2.2.1 0) a1 g1 a3 (u.2.2.1 1)))) (va_A (zS_25 cB cC cI cJ a0 a1 a2 a3 a4 a5 a6 a7 x0 a7 f0 a4 f1 a5 f2 a2 g0 a1 g1 a3 g2) sz)) 0 0 (va_A (zS_25 cB cC cI cJ a0 a1 a2 a3 a4 a5 a6 a7 x0 a7 f0 a4 f1 a5 f2 a2 g0 a1 g1 a3 g2) sz) := by
  refine gOf_v (by decide +kernel) (Nat.le_of_ble_eq_true rfl) ?_
  intro p e s m args below meth c ls A Q hx hb hts hown hml hN hK hP hD hA hl hret
  replace hown : s.vm.findClass RX10 = some m.cls := hown
  have hS : va_S A s.heap s.heap [] := va_S.rf
  replace hP : va_P D gcl (zS_25 cB cC cI cJ a0 a1 a2 a3 a4 a5 a6 a7 x0 a7 f0 a4 f1 a5 f2 a2 g0 a1 g1 a3 g2) s.heap := hP
  replace hl : lv_has ls 1 [(0, .ref a0)] := hl
  refine lv_aload_n (pc := 0) hx hb dX10_firstLine_0 rfl (lv_at hl 0 rfl) ?_
  refine va_get (pc := 1) (ci := 10) (v := .ref a7) (C := RX10) (T := TX10) (N := 8) hx hb hts iX10 hown hK hP 0 rfl rfl 6 (by decide) (hts _ tw_216) (fun _ h9 => h9) rfl dX10_firstLine_1 ?_
  refine lv_iconst (pc := 4) (v := 0) hx hb dX10_firstLine_4 (by decide) ?_
  refine gd_v (pc := 5) (wc := [(a7, .inl (cI, 5, .inl f0))]) hP hD hS hA [1] rfl (by decide +kernel) (fun _ => by rfl) (fun hPc hDc => va_runS (As := [.ref a7, .int 0]) (rest := []) ⟨hx, hb, hml, hown, hts⟩ (k_J7_fill_53178_5r0_23 l D cB cC cI cJ _ a7 0 f0 (n_c tI_0 (by decide)) hf_f0) ⟨gcwB hts tw_505 tw_10 tw_905 hd_yJ7_fill_53178 ⟨Nat.le_of_ble_eq_true rfl, Nat.le_of_ble_eq_true rfl⟩, hts _ tw_504⟩ (gpreS hPc hK hDc hN) rfl rfl hl.1 rfl (lv_room (Nat.le_of_ble_eq_true rfl)) dX10_firstLine_5 ⟨Nat.le_of_ble_eq_true rfl, Nat.le_of_ble_eq_true rfl⟩) (fun u_1 H locs hw_3 hP hD hS => ?_)
  replace hP : va_P D gcl (zS_25 cB cC cI cJ a0 a1 a2 a3 a4 a5 a6 a7 x0 a7 (u_1.2.1 0) a4 f1 a5 f2 a2 g0 a1 g1 a3 g2) H := hP
  replace hD : va_D A (zS_25 cB cC cI cJ a0 a1 a2 a3 a4 a5 a6 a7 x0 a7 (u_1.2.1 0) a4 f1 a5 f2 a2 g0 a1 g1 a3 g2) := hD
  have hw_4 : (∀ j, 0 ≤ ((u_1.2.1 0) j).toInt ∧ ((u_1.2.1 0) j).toInt ≤ 23) := hw_3
  have kk0_r_2 := tI_0
  refine lv_aload_n (pc := 8) hx hb dX10_firstLine_8 rfl (lv_at hl 0 rfl) ?_
  refine lv_iconst (pc := 9) (v := 0) hx hb dX10_firstLine_9 (by decide) ?_
  refine gd_v (pc := 10) (wc := (zS_25 cB cC cI cJ a0 a1 a2 a3 a4 a5 a6 a7 x0 a4 f1 a5 f2 a7 (u_1.2.1 0) a2 g0 a1 g1 a3 g2)) hP hD hS hA [0, 2, 3, 1, 4, 5, 6] rfl (by decide +kernel) (fun _ => by rfl) (fun hPc hDc => va_runV (As := [.int 0]) (rest := []) ⟨hx, hb, hml, hown, hts⟩ (k_X10_settle l D cB cC cI cJ _ a0 a1 a2 a3 a4 a5 a6 a7 0 x0 f1 f2 (u_1.2.1 0) g0 g1 g2 (n_c tI_0 (by decide)) h_x0 hw_4) ⟨gcwB hts tw_909 tw_8 tw_906 hd_yX10_settle ⟨Nat.le_of_ble_eq_true rfl, Nat.le_of_ble_eq_true rfl⟩, hts _ tw_908, hts _ tp_33⟩ ⟨gblind, va_recv hK hPc (ci := 10) (q0 := 0) rfl rfl, (gpreS hPc hK hDc hN).2⟩ rfl rfl hl.1 rfl (lv_room (Nat.le_of_ble_eq_true rfl)) dX10_firstLine_10 ⟨Nat.le_of_ble_eq_true rfl, Nat.le_of_ble_eq_true rfl⟩) (fun u_5 H locs hw_7 hP hD hS => ?_)
  replace hP : va_P D gcl (zS_25 cB cC cI cJ a0 a1 a2 a3 a4 a5 a6 a7 x0 a7 (u_1.2.1 0) a4 f1 a5 f2 a2 (u_5.2.2.1 0) a1 g1 a3 (u_5.2.2.1 1)) H := hP
  replace hD : va_D A (zS_25 cB cC cI cJ a0 a1 a2 a3 a4 a5 a6 a7 x0 a7 (u_1.2.1 0) a4 f1 a5 f2 a2 (u_5.2.2.1 0) a1 g1 a3 (u_5.2.2.1 1)) := hD
  have hw_8 : (((0 ≤ x0.toInt ∧ x0.toInt ≤ 4))) := hw_7
  have kk0_r_6 := tI_0
  exact hret ((fun _ => 0), (fun k => [(u_1.2.1 0)].getD k (fun _ => 0)), (fun k => [(u_5.2.2.1 0), (u_5.2.2.1 1)].getD k (fun _ => 0)), (fun _ => 0), (fun _ => 0)) dX10_firstLine_13 hw_4 (g_psub (wc := (zS_25 cB cC cI cJ a0 a1 a2 a3 a4 a5 a6 a7 x0 a7 (u_1.2.1 0) a4 f1 a5 f2 a2 (u_5.2.2.1 0) a1 g1 a3 (u_5.2.2.1 1))) hP [0, 1, 2, 3, 4, 5, 6] rfl) (hD.sub (ws' := (zS_25 cB cC cI cJ a0 a1 a2 a3 a4 a5 a6 a7 x0 a7 (u_1.2.1 0) a4 f1 a5 f2 a2 (u_5.2.2.1 0) a1 g1 a3 (u_5.2.2.1 1))) [0, 1, 2, 3, 4, 5, 6] (by decide) rfl) hS
theorem om_1159 {a b : Int} (h0 : ((-2147483648) ≤ a)) (h1 : (a ≤ 2147483647)) (h2 : (0 ≤ b)) (h3 : (b ≤ 4)) : (((((-2147483648) ≤ a ∧ a ≤ 2147483647) ∧ (0 ≤ b ∧ b ≤ 4)))) := by omega
set_option maxHeartbeats 4000000 in
set_option maxRecDepth 100000 in
theorem k_X10_lineCount (l : Launch) (D : va_G) (cB cC cI cJ : ClassId) (sz : Nat) (a0 a1 a2 a3 a4 a5 a6 a7 : Nat) (x0 : Int32) (f0 : Nat → Int32) (h_x0 : zBd x0.toInt 0 4) (hf_f0 : (∀ j, (-3) ≤ (f0 j).toInt ∧ (f0 j).toInt ≤ 24)) : Met l yX10_lineCount (.code yX10_lineCount cX10_lineCount 3 (some .int) :: lw_gd) ({ frames := 0, cells := 0, slots := 0, locals := 0 }) (gPre D [(cB, .byte), (cC, .char), (cI, .int), (cJ, .long)] [.ref a0] (zS_83 cB cC cI cJ a0 a1 a2 a3 a4 a5 a6 a7 x0 a6 f0) sz) (va_Qi (fun r u => ((((-2147483648) ≤ r.toInt ∧ r.toInt ≤ 2147483647) ∧ (0 ≤ x0.toInt ∧ x0.toInt ≤ 4)))) (gB D (va_A (zS_83 cB cC cI cJ a0 a1 a2 a3 a4 a5 a6 a7 x0 a6 f0) sz) (fun u : gEx => (zS_83 cB cC cI cJ a0 a1 a2 a3 a4 a5 a6 a7 x0 a6 f0))) (va_A (zS_83 cB cC cI cJ a0 a1 a2 a3 a4 a5 a6 a7 x0 a6 f0) sz)) 0 0 (va_A (zS_83 cB cC cI cJ a0 a1 a2 a3 a4 a5 a6 a7 x0 a6 f0) sz) := by
  refine gOf_i (by decide +kernel) (Nat.le_of_ble_eq_true rfl) ?_
  intro p e s m args below meth c ls A Q hx hb hts hown hml hN hK hP hD hA hl hret
  replace hown : s.vm.findClass RX10 = some m.cls := hown
  have hS : va_S A s.heap s.heap [] := va_S.rf
  replace hP : va_P D gcl (zS_83 cB cC cI cJ a0 a1 a2 a3 a4 a5 a6 a7 x0 a6 f0) s.heap := hP
  replace hl : lv_has ls 3 [(0, .ref a0)] := hl
  refine lv_iconst (pc := 0) (v := 1) hx hb dX10_lineCount_0 (by decide) ?_
  refine lv_istore_n (pc := 1) (lv' := [(1, .int 1), (0, .ref a0)]) hx hb dX10_lineCount_1 rfl hl (by decide) rfl (fun ls hl => ?_)
  refine lv_iconst (pc := 2) (v := 0) hx hb dX10_lineCount_2 (by decide) ?_
  refine lv_istore_n (pc := 3) (lv' := [(2, .int 0), (1, .int 1), (0, .ref a0)]) hx hb dX10_lineCount_3 rfl hl (by decide) rfl (fun ls hl => ?_)
  have lp_5 : ∀ (n : Nat) (x_1 x_3 : Int32) (H : Heap) (locs : List Loc) (ls : Array Slot), (0 ≤ x_1.toInt ∧ x_1.toInt ≤ 2147483647) → (2147483647 - x_1.toInt).toNat < n → va_P D gcl (zS_83 cB cC cI cJ a0 a1 a2 a3 a4 a5 a6 a7 x0 a6 f0) H → va_D A (zS_83 cB cC cI cJ a0 a1 a2 a3 a4 a5 a6 a7 x0 a6 f0) → va_S A s.heap H locs → lv_has ls 3 [(2, .int x_1), (1, .int x_3), (0, .ref a0)] → W p l e ({ frames := 0, cells := 0, slots := 0, locals := 0 }) s m args below meth c H locs 0 0 Q (F0 m 4 ls []) := by
    intro n
    induction n with
    | zero => intro x_1 x_3 H locs ls hi_2 hmu; exact absurd hmu (Nat.not_lt_zero _)
    | succ n ih_lp_5 =>
      intro x_1 x_3 H locs ls hi_2 hmu_lp_5 hP hD hS hl
      have hi_4 := n_rng x_3
      refine lv_iload_n (pc := 4) hx hb dX10_lineCount_4 rfl (lv_at hl 0 rfl) ?_
      refine lv_aload_n (pc := 5) hx hb dX10_lineCount_5 rfl (lv_at hl 2 rfl) ?_
      refine va_get (pc := 6) (ci := 10) (v := .int x0) (C := RX10) (T := TX10) (N := 8) hx hb hts iX10 hown hK hP 0 rfl rfl 7 (by decide) (hts _ tw_220) (fun _ h9 => h9) rfl dX10_lineCount_6 ?_
      have bd_h_x0 : 0 ≤ x0.toInt ∧ x0.toInt ≤ 4 := h_x0
      refine b_icmp_ge (pc := 9) (tgt := 27) hx hb rfl rfl  dX10_lineCount_9 (by decide) (fun c_6 => ?_) (fun c_6 => ?_)
      ·
        refine lv_iload_n (pc := 27) hx hb dX10_lineCount_27 rfl (lv_at hl 1 rfl) ?_
        exact hret x_3 ((fun _ => 0), (fun _ => (fun _ => 0)), (fun _ => (fun _ => 0)), (fun _ => 0), (fun _ => 0)) dX10_lineCount_28 (show ((((-2147483648) ≤ x_3.toInt ∧ x_3.toInt ≤ 2147483647) ∧ (0 ≤ x0.toInt ∧ x0.toInt ≤ 4))) from (by first | exact (om_1159 hi_4.1 hi_4.2 h_x0.1 h_x0.2) | ((first | omega | (unfold zBd at *; omega))))) (g_psub (wc := (zS_83 cB cC cI cJ a0 a1 a2 a3 a4 a5 a6 a7 x0 a6 f0)) hP [0, 1] rfl) (hD.sub (ws' := (zS_83 cB cC cI cJ a0 a1 a2 a3 a4 a5 a6 a7 x0 a6 f0)) [0, 1] (by decide) rfl) hS
      ·
        refine lv_iload_n (pc := 12) hx hb dX10_lineCount_12 rfl (lv_at hl 1 rfl) ?_
        refine lv_aload_n (pc := 13) hx hb dX10_lineCount_13 rfl (lv_at hl 2 rfl) ?_
        refine va_get (pc := 14) (ci := 10) (v := .ref a6) (C := RX10) (T := TX10) (N := 8) hx hb hts iX10 hown hK hP 0 rfl rfl 5 (by decide) (hts _ tw_214) (fun _ h9 => h9) rfl dX10_lineCount_14 ?_
        refine lv_iload_n (pc := 17) hx hb dX10_lineCount_17 rfl (lv_at hl 0 rfl) ?_
        refine va_iald (pc := 18) hx hb hK hP 1 2 rfl rfl (n_in rfl (by first | exact (om_0 hi_2.1) | ((first | omega | (unfold zBd at *; omega)))) (by first | exact (om_1140 c_6 h_x0.2) | ((first | omega | (unfold zBd at *; omega))))) dX10_lineCount_18 ?_
        refine lv_topi (fun x_7 ex_7 => ?_)
        have rx_7 : ((-3) ≤ x_7.toInt ∧ x_7.toInt ≤ 24) := by rw [ex_7]; exact hf_f0 _
        refine lv_imul (pc := 19) hx hb dX10_lineCount_19 ?_
        refine lv_topi (fun x_8 _ => ?_)
        have rx_8 : zBd x_8.toInt (-2147483648) 2147483647 := n_rng x_8
        refine lv_istore_n (pc := 20) (lv' := [(1, .int x_8), (2, .int x_1), (0, .ref a0)]) hx hb dX10_lineCount_20 rfl hl (by decide) rfl (fun ls hl => ?_)
        refine b_iinc (pc := 21) hx hb dX10_lineCount_21 hl (k := 1) rfl rfl tI_1 (by first | exact (om_2 hi_2.1) | ((first | omega | (unfold zBd at *; omega)))) (by first | exact (om_1141 c_6 h_x0.2) | ((first | omega | (unfold zBd at *; omega)))) (by decide) (fun x_9 ex_9 ls hl => ?_)
        replace hl : lv_has ls 3 [(2, .int x_9), (1, .int x_8), (0, .ref a0)] := hl
        refine lv_goto (pc := 24) (tgt := 4) hx hb dX10_lineCount_24 (by decide) ?_
        exact ih_lp_5 x_9 x_8 _ _ ls (by first | exact (om_1145 ex_9 hi_2.1 c_6 h_x0.2) | ((first | omega | (unfold zBd at *; omega)))) (by (first | omega | (unfold zBd at *; omega))) hP hD hS (lv_sub hl [0, 1, 2] rfl)
  exact lp_5 _ 0 1 _ _ ls (n_c tI_0 (by decide)) (Nat.lt_succ_self _) hP hD hS (lv_sub hl [0, 1, 2] rfl)
theorem om_1160 {a : Int} (h0 : (a ≤ 4)) : (a * 5 ≤ 2147483647) := by omega
theorem om_1161 {a b : Int} (h0 : (a = b * 5)) (h1 : (b ≤ 4)) : (a + b ≤ 2147483647) := by omega
theorem om_1162 {a b c : Int} (h0 : (a = b + c)) (h1 : (b = c * 5)) (h2 : (c ≤ 4)) : (a < (25 : Nat)) := by omega
theorem om_1163 {a : Int} (h0 : ((-9223372036854775808) ≤ a)) (h1 : (a ≤ 9223372036854775807)) : (((((-9223372036854775808) ≤ a ∧ a ≤ 9223372036854775807)))) := by omega
set_option maxHeartbeats 4000000 in
set_option maxRecDepth 100000 in
theorem k_X10_squaresAt (l : Launch) (D : va_G) (cB cC cI cJ : ClassId) (sz : Nat) (a0 a1 a2 a3 a4 a5 a6 a7 : Nat) (x0 x1 : Int32) (f0 f1 : Nat → Int32) (g0 g1 g2 : Nat → Int64) (h_x1 : zBd x1.toInt 0 4) : Met l yX10_squaresAt (.code yX10_squaresAt cX10_squaresAt 5 (some .long) :: lw_gd) ({ frames := 0, cells := 0, slots := 0, locals := 0 }) (gPre D [(cB, .byte), (cC, .char), (cI, .int), (cJ, .long)] [.ref a0, .int x0] (zS_94 cB cC cI cJ a0 a1 a2 a3 a4 a5 a6 a7 x1 a4 f0 a5 f1 a2 g0 a1 g1 a3 g2) sz) (va_Ql (fun r u => ((((-9223372036854775808) ≤ r.toInt ∧ r.toInt ≤ 9223372036854775807)))) (gB D (va_A (zS_94 cB cC cI cJ a0 a1 a2 a3 a4 a5 a6 a7 x1 a4 f0 a5 f1 a2 g0 a1 g1 a3 g2) sz) (fun u : gEx => (zS_94 cB cC cI cJ a0 a1 a2 a3 a4 a5 a6 a7 x1 a4 f0 a5 f1 a2 g0 a1 g1 a3 g2))) (va_A (zS_94 cB cC cI cJ a0 a1 a2 a3 a4 a5 a6 a7 x1 a4 f0 a5 f1 a2 g0 a1 g1 a3 g2) sz)) 0 0 (va_A (zS_94 cB cC cI cJ a0 a1 a2 a3 a4 a5 a6 a7 x1 a4 f0 a5 f1 a2 g0 a1 g1 a3 g2) sz) := by
  refine gOf_l (by decide +kernel) (Nat.le_of_ble_eq_true rfl) ?_
  intro p e s m args below meth c ls A Q hx hb hts hown hml hN hK hP hD hA hl hret
  replace hown : s.vm.findClass RX10 = some m.cls := hown
  have hS : va_S A s.heap s.heap [] := va_S.rf
  replace hP : va_P D gcl (zS_94 cB cC cI cJ a0 a1 a2 a3 a4 a5 a6 a7 x1 a4 f0 a5 f1 a2 g0 a1 g1 a3 g2) s.heap := hP
  replace hl : lv_has ls 5 [(0, .ref a0), (1, .int x0)] := hl
  have rx0 : zBd x0.toInt (-2147483648) 2147483647 := n_rng x0
  refine lv_aload_n (pc := 0) hx hb dX10_squaresAt_0 rfl (lv_at hl 0 rfl) ?_
  refine va_get (pc := 1) (ci := 10) (v := .int x1) (C := RX10) (T := TX10) (N := 8) hx hb hts iX10 hown hK hP 0 rfl rfl 7 (by decide) (hts _ tw_220) (fun _ h9 => h9) rfl dX10_squaresAt_1 ?_
  have bd_h_x1 : 0 ≤ x1.toInt ∧ x1.toInt ≤ 4 := h_x1
  refine lv_iconst (pc := 4) (v := 5) hx hb dX10_squaresAt_4 (by decide) ?_
  refine b_imul (pc := 5) hx hb rfl tI_5 (by first | exact (om_330 h_x1.1) | ((first | omega | (unfold zBd at *; omega)))) (by first | exact (om_1160 h_x1.2) | ((first | omega | (unfold zBd at *; omega)))) dX10_squaresAt_5 (fun x_1 ex_1 => ?_)
  refine lv_aload_n (pc := 6) hx hb dX10_squaresAt_6 rfl (lv_at hl 0 rfl) ?_
  refine va_get (pc := 7) (ci := 10) (v := .int x1) (C := RX10) (T := TX10) (N := 8) hx hb hts iX10 hown hK hP 0 rfl rfl 7 (by decide) (hts _ tw_220) (fun _ h9 => h9) rfl dX10_squaresAt_7 ?_
  refine b_iadd (pc := 10) hx hb rfl rfl (by first | exact (om_405 ex_1 h_x1.1) | ((first | omega | (unfold zBd at *; omega)))) (by first | exact (om_1161 ex_1 h_x1.2) | ((first | omega | (unfold zBd at *; omega)))) dX10_squaresAt_10 (fun x_2 ex_2 => ?_)
  refine lv_istore_n (pc := 11) (lv' := [(2, .int x_2), (0, .ref a0), (1, .int x0)]) hx hb dX10_squaresAt_11 rfl hl (by decide) rfl (fun ls hl => ?_)
  refine lv_aload_n (pc := 12) hx hb dX10_squaresAt_12 rfl (lv_at hl 1 rfl) ?_
  refine va_get (pc := 13) (ci := 10) (v := .ref a4) (C := RX10) (T := TX10) (N := 8) hx hb hts iX10 hown hK hP 0 rfl rfl 3 (by decide) (hts _ tw_211) (fun _ h9 => h9) rfl dX10_squaresAt_13 ?_
  refine lv_aload_n (pc := 16) hx hb dX10_squaresAt_16 rfl (lv_at hl 1 rfl) ?_
  refine va_get (pc := 17) (ci := 10) (v := .int x1) (C := RX10) (T := TX10) (N := 8) hx hb hts iX10 hown hK hP 0 rfl rfl 7 (by decide) (hts _ tw_220) (fun _ h9 => h9) rfl dX10_squaresAt_17 ?_
  refine va_iald (pc := 20) hx hb hK hP 1 2 rfl rfl (n_in rfl (by first | exact (om_0 h_x1.1) | ((first | omega | (unfold zBd at *; omega)))) (by first | exact (om_1135 h_x1.2) | ((first | omega | (unfold zBd at *; omega))))) dX10_squaresAt_20 ?_
  refine lv_topi (fun x_3 ex_3 => ?_)
  have rx_3 : zBd x_3.toInt (-2147483648) 2147483647 := n_rng x_3
  refine lv_aload_n (pc := 21) hx hb dX10_squaresAt_21 rfl (lv_at hl 1 rfl) ?_
  refine va_get (pc := 22) (ci := 10) (v := .ref a5) (C := RX10) (T := TX10) (N := 8) hx hb hts iX10 hown hK hP 0 rfl rfl 4 (by decide) (hts _ tw_213) (fun _ h9 => h9) rfl dX10_squaresAt_22 ?_
  refine lv_aload_n (pc := 25) hx hb dX10_squaresAt_25 rfl (lv_at hl 1 rfl) ?_
  refine va_get (pc := 26) (ci := 10) (v := .int x1) (C := RX10) (T := TX10) (N := 8) hx hb hts iX10 hown hK hP 0 rfl rfl 7 (by decide) (hts _ tw_220) (fun _ h9 => h9) rfl dX10_squaresAt_26 ?_
  refine va_iald (pc := 29) hx hb hK hP 2 2 rfl rfl (n_in rfl (by first | exact (om_0 h_x1.1) | ((first | omega | (unfold zBd at *; omega)))) (by first | exact (om_1135 h_x1.2) | ((first | omega | (unfold zBd at *; omega))))) dX10_squaresAt_29 ?_
  refine lv_topi (fun x_4 ex_4 => ?_)
  have rx_4 : zBd x_4.toInt (-2147483648) 2147483647 := n_rng x_4
  refine lv_iload_n (pc := 30) hx hb dX10_squaresAt_30 rfl (lv_at hl 2 rfl) ?_
  refine lv_imul (pc := 31) hx hb dX10_squaresAt_31 ?_
  refine lv_topi (fun x_5 _ => ?_)
  have rx_5 : zBd x_5.toInt (-2147483648) 2147483647 := n_rng x_5
  refine lv_iadd (pc := 32) hx hb dX10_squaresAt_32 ?_
  refine lv_topi (fun x_6 _ => ?_)
  have rx_6 : zBd x_6.toInt (-2147483648) 2147483647 := n_rng x_6
  refine b_i2l (pc := 33) hx hb rfl dX10_squaresAt_33 (fun y_7 ey_7 => ?_)
  have ry_7 : zBd x_6.toInt (-2147483648) 2147483647 := n_rng x_6
  refine lv_lstore_n (pc := 34) (lv' := [(3, .long y_7), (2, .int x_2), (0, .ref a0), (1, .int x0)]) hx hb dX10_squaresAt_34 rfl hl (by decide) rfl (fun ls hl => ?_)
  refine lv_aload_n (pc := 35) hx hb dX10_squaresAt_35 rfl (lv_at hl 2 rfl) ?_
  refine va_get (pc := 36) (ci := 10) (v := .ref a2) (C := RX10) (T := TX10) (N := 8) hx hb hts iX10 hown hK hP 0 rfl rfl 1 (by decide) (hts _ tw_209) (fun _ h9 => h9) rfl dX10_squaresAt_36 ?_
  refine lv_aload_n (pc := 39) hx hb dX10_squaresAt_39 rfl (lv_at hl 2 rfl) ?_
  refine va_get (pc := 40) (ci := 10) (v := .int x1) (C := RX10) (T := TX10) (N := 8) hx hb hts iX10 hown hK hP 0 rfl rfl 7 (by decide) (hts _ tw_220) (fun _ h9 => h9) rfl dX10_squaresAt_40 ?_
  refine va_lald (pc := 43) hx hb hK hP 3 3 rfl rfl (n_in rfl (by first | exact (om_0 h_x1.1) | ((first | omega | (unfold zBd at *; omega)))) (by first | exact (om_1135 h_x1.2) | ((first | omega | (unfold zBd at *; omega))))) dX10_squaresAt_43 ?_
  refine lv_topl (fun y_8 ey_8 => ?_)
  have ry_8 := n_rngL y_8
  refine lv_lload_n (pc := 44) hx hb dX10_squaresAt_44 rfl (lv_at hl 0 rfl) ?_
  refine lv_lload_n (pc := 45) hx hb dX10_squaresAt_45 rfl (lv_at hl 0 rfl) ?_
  refine lv_aload_n (pc := 46) hx hb dX10_squaresAt_46 rfl (lv_at hl 2 rfl) ?_
  refine va_get (pc := 47) (ci := 10) (v := .ref a1) (C := RX10) (T := TX10) (N := 8) hx hb hts iX10 hown hK hP 0 rfl rfl 0 (by decide) (hts _ tw_207) (fun _ h9 => h9) rfl dX10_squaresAt_47 ?_
  refine lv_iload_n (pc := 50) hx hb dX10_squaresAt_50 rfl (lv_at hl 1 rfl) ?_
  refine va_lald (pc := 51) hx hb hK hP 4 3 rfl rfl (n_in rfl (by first | exact (om_407 ex_2 ex_1 h_x1.1) | ((first | omega | (unfold zBd at *; omega)))) (by first | exact (om_1162 ex_2 ex_1 h_x1.2) | ((first | omega | (unfold zBd at *; omega))))) dX10_squaresAt_51 ?_
  refine lv_topl (fun y_9 ey_9 => ?_)
  have ry_9 := n_rngL y_9
  refine lv_lmul (pc := 52) hx hb dX10_squaresAt_52 ?_
  refine lv_topl (fun y_10 _ => ?_)
  have ry_10 := n_rngL y_10
  refine lv_ldc2 (pc := 53) hx hb hown (hts _ tw_910) dX10_squaresAt_53 ?_
  refine lv_aload_n (pc := 56) hx hb dX10_squaresAt_56 rfl (lv_at hl 2 rfl) ?_
  refine va_get (pc := 57) (ci := 10) (v := .ref a3) (C := RX10) (T := TX10) (N := 8) hx hb hts iX10 hown hK hP 0 rfl rfl 2 (by decide) (hts _ tw_210) (fun _ h9 => h9) rfl dX10_squaresAt_57 ?_
  refine lv_iload_n (pc := 60) hx hb dX10_squaresAt_60 rfl (lv_at hl 1 rfl) ?_
  refine va_lald (pc := 61) hx hb hK hP 5 3 rfl rfl (n_in rfl (by first | exact (om_407 ex_2 ex_1 h_x1.1) | ((first | omega | (unfold zBd at *; omega)))) (by first | exact (om_1162 ex_2 ex_1 h_x1.2) | ((first | omega | (unfold zBd at *; omega))))) dX10_squaresAt_61 ?_
  refine lv_topl (fun y_11 ey_11 => ?_)
  have ry_11 := n_rngL y_11
  refine lv_lmul (pc := 62) hx hb dX10_squaresAt_62 ?_
  refine lv_topl (fun y_12 _ => ?_)
  have ry_12 := n_rngL y_12
  refine lv_lsub (pc := 63) hx hb dX10_squaresAt_63 ?_
  refine lv_topl (fun y_13 _ => ?_)
  have ry_13 := n_rngL y_13
  refine lv_lmul (pc := 64) hx hb dX10_squaresAt_64 ?_
  refine lv_topl (fun y_14 _ => ?_)
  have ry_14 := n_rngL y_14
  refine lv_ladd (pc := 65) hx hb dX10_squaresAt_65 ?_
  refine lv_topl (fun y_15 _ => ?_)
  have ry_15 := n_rngL y_15
  exact hret y_15 ((fun _ => 0), (fun _ => (fun _ => 0)), (fun _ => (fun _ => 0)), (fun _ => 0), (fun _ => 0)) dX10_squaresAt_66 (show ((((-9223372036854775808) ≤ y_15.toInt ∧ y_15.toInt ≤ 9223372036854775807))) from (by first | exact (om_1163 ry_15.1 ry_15.2) | ((first | omega | (unfold zBd at *; omega))))) (g_psub (wc := (zS_94 cB cC cI cJ a0 a1 a2 a3 a4 a5 a6 a7 x1 a4 f0 a5 f1 a2 g0 a1 g1 a3 g2)) hP [0, 1, 2, 3, 4, 5] rfl) (hD.sub (ws' := (zS_94 cB cC cI cJ a0 a1 a2 a3 a4 a5 a6 a7 x1 a4 f0 a5 f1 a2 g0 a1 g1 a3 g2)) [0, 1, 2, 3, 4, 5] (by decide) rfl) hS
theorem om_1164 {a : Int} (h0 : (a < 0)) : (¬ (a ≥ 0)) := by omega
theorem om_1165 {a : Int} (h0 : (a ≤ 3)) : (a < (5 : Nat)) := by omega
theorem om_1166 {a : Int} (h0 : (a ≤ 23)) : (a + 1 ≤ 2147483647) := by omega
theorem om_1167 {a : Int} (h0 : (a ≥ 0)) : (¬ (a < 0)) := by omega
theorem om_1168 {a b c d : Int} (h0 : (a = b + 1)) (h1 : (c = b + 1)) (h2 : (c < d)) (h3 : (d ≤ 24)) : (a ≤ 23) := by omega
theorem om_1169 {a : Int} (h0 : (a ≥ 0)) (h1 : (a ≤ 3)) : ((0 ≤ a ∧ a ≤ 4)) := by omega
theorem om_1170 {a : Int} (h0 : (a = 0)) : (a ≤ 23) := by omega
theorem om_1171 {a : Int} (h0 : (a ≥ 0)) : (-2147483648 ≤ a + (-1)) := by omega
theorem om_1172 {a : Int} (h0 : (a ≤ 3)) : (a + (-1) ≤ 2147483647) := by omega
theorem om_1173 {a b : Int} (h0 : (a = b + (-1))) (h1 : (b ≥ 0)) (h2 : (b ≤ 3)) : (((-2147483648) ≤ a ∧ a ≤ 3)) := by omega
theorem om_1174 {a b : Int} (h0 : (a = b - 1)) (h1 : (0 ≤ b)) (h2 : (b ≤ 4)) : (((-2147483648) ≤ a ∧ a ≤ 3)) := by omega
set_option maxHeartbeats 4000000 in
set_option maxRecDepth 100000 in
theorem k_X10_nextLine (l : Launch) (D : va_G) (cB cC cI cJ : ClassId) (sz : Nat) (a0 a1 a2 a3 a4 a5 a6 a7 : Nat) (x0 : Int32) (f0 f1 f2 f3 : Nat → Int32) (g0 g1 g2 : Nat → Int64) (h_x0 : zBd x0.toInt 0 4) (hf_f0 : (∀ j, 0 ≤ (f0 j).toInt ∧ (f0 j).toInt ≤ 23)) (hf_f1 : (∀ j, (-3) ≤ (f1 j).toInt ∧ (f1 j).toInt ≤ 24)) : Met l yX10_nextLine (.code yX10_nextLine cX10_nextLine 2 none :: lw_gd) ({ frames := 1, cells := 0, slots := 0, locals := 26 }) (gPre D [(cB, .byte), (cC, .char), (cI, .int), (cJ, .long)] [.ref a0] (zS_46 cB cC cI cJ a0 a1 a2 a3 a4 a5 a6 a7 x0 a7 f0 a6 f1 a4 f2 a5 f3 a2 g0 a1 g1 a3 g2) sz) (va_Qv (fun u => (∀ j, 0 ≤ ((u.2.1 0) j).toInt ∧ ((u.2.1 0) j).toInt ≤ 23)) (gB D (va_A (zS_46 cB cC cI cJ a0 a1 a2 a3 a4 a5 a6 a7 x0 a7 f0 a6 f1 a4 f2 a5 f3 a2 g0 a1 g1 a3 g2) sz) (fun u : gEx => (zS_46 cB cC cI cJ a0 a1 a2 a3 a4 a5 a6 a7 x0 a7 (u.2.1 0) a6 f1 a4 f2 a5 f3 a2 (u.2.2.1 0) a1 g1 a3 (u.2.2.1 1)))) (va_A (zS_46 cB cC cI cJ a0 a1 a2 a3 a4 a5 a6 a7 x0 a7 f0 a6 f1 a4 f2 a5 f3 a2 g0 a1 g1 a3 g2) sz)) 0 0 (va_A (zS_46 cB cC cI cJ a0 a1 a2 a3 a4 a5 a6 a7 x0 a7 f0 a6 f1 a4 f2 a5 f3 a2 g0 a1 g1 a3 g2) sz) := by
  refine gOf_v (by decide +kernel) (Nat.le_of_ble_eq_true rfl) ?_
  intro p e s m args below meth c ls A Q hx hb hts hown hml hN hK hP hD hA hl hret
  replace hown : s.vm.findClass RX10 = some m.cls := hown
  have hS : va_S A s.heap s.heap [] := va_S.rf
  replace hP : va_P D gcl (zS_46 cB cC cI cJ a0 a1 a2 a3 a4 a5 a6 a7 x0 a7 f0 a6 f1 a4 f2 a5 f3 a2 g0 a1 g1 a3 g2) s.heap := hP
  replace hl : lv_has ls 2 [(0, .ref a0)] := hl
  refine lv_aload_n (pc := 0) hx hb dX10_nextLine_0 rfl (lv_at hl 0 rfl) ?_
  refine va_get (pc := 1) (ci := 10) (v := .int x0) (C := RX10) (T := TX10) (N := 8) hx hb hts iX10 hown hK hP 0 rfl rfl 7 (by decide) (hts _ tw_220) (fun _ h9 => h9) rfl dX10_nextLine_1 ?_
  have bd_h_x0 : 0 ≤ x0.toInt ∧ x0.toInt ≤ 4 := h_x0
  refine lv_iconst (pc := 4) (v := 1) hx hb dX10_nextLine_4 (by decide) ?_
  refine b_isub (pc := 5) hx hb rfl tI_1 (by first | exact (om_659 h_x0.1) | ((first | omega | (unfold zBd at *; omega)))) (by first | exact (om_222 h_x0.2) | ((first | omega | (unfold zBd at *; omega)))) dX10_nextLine_5 (fun x_1 ex_1 => ?_)
  refine lv_istore_n (pc := 6) (lv' := [(1, .int x_1), (0, .ref a0)]) hx hb dX10_nextLine_6 rfl hl (by decide) rfl (fun ls hl => ?_)
  have lp_6 : ∀ (n : Nat) (x_2 : Int32) (f_4 : Nat → Int32) (H : Heap) (locs : List Loc) (ls : Array Slot), ((-2147483648) ≤ x_2.toInt ∧ x_2.toInt ≤ 3) → (∀ j, 0 ≤ (f_4 j).toInt ∧ (f_4 j).toInt ≤ 23) → (x_2.toInt + 2147483648).toNat < n → va_P D gcl (zS_46 cB cC cI cJ a0 a1 a2 a3 a4 a5 a6 a7 x0 a7 f_4 a6 f1 a4 f2 a5 f3 a2 g0 a1 g1 a3 g2) H → va_D A (zS_46 cB cC cI cJ a0 a1 a2 a3 a4 a5 a6 a7 x0 a7 f_4 a6 f1 a4 f2 a5 f3 a2 g0 a1 g1 a3 g2) → va_S A s.heap H locs → lv_has ls 2 [(1, .int x_2), (0, .ref a0)] → W p l e ({ frames := 1, cells := 0, slots := 0, locals := 26 }) s m args below meth c H locs 0 0 Q (F0 m 7 ls []) := by
    intro n
    induction n with
    | zero => intro x_2 f_4 H locs ls hi_3 hi_5 hmu; exact absurd hmu (Nat.not_lt_zero _)
    | succ n ih_lp_6 =>
      intro x_2 f_4 H locs ls hi_3 hi_5 hmu_lp_6 hP hD hS hl
      refine lv_iload_n (pc := 7) hx hb dX10_nextLine_7 rfl (lv_at hl 0 rfl) ?_
      refine b_if_lt (pc := 8) (tgt := 41) hx hb rfl  dX10_nextLine_8 (by decide) (fun c_7 => ?_) (fun c_7 => ?_)
      ·
        refine lv_iload_n (pc := 41) hx hb dX10_nextLine_41 rfl (lv_at hl 0 rfl) ?_
        refine b_if_lt (pc := 42) (tgt := 60) hx hb rfl  dX10_nextLine_42 (by decide) (fun c_8 => ?_) (fun c_8 => absurd c_8 (by first | exact (om_1164 c_7) | ((first | omega | (unfold zBd at *; omega)))))
        exact hret ((fun _ => 0), (fun k => [f_4].getD k (fun _ => 0)), (fun k => [g0, g2].getD k (fun _ => 0)), (fun _ => 0), (fun _ => 0)) dX10_nextLine_60 hi_5 (g_psub (wc := (zS_46 cB cC cI cJ a0 a1 a2 a3 a4 a5 a6 a7 x0 a7 f_4 a6 f1 a4 f2 a5 f3 a2 g0 a1 g1 a3 g2)) hP [0, 1, 2, 3, 4, 5, 6, 7] rfl) (hD.sub (ws' := (zS_46 cB cC cI cJ a0 a1 a2 a3 a4 a5 a6 a7 x0 a7 f_4 a6 f1 a4 f2 a5 f3 a2 g0 a1 g1 a3 g2)) [0, 1, 2, 3, 4, 5, 6, 7] (by decide) rfl) hS
      ·
        refine lv_aload_n (pc := 11) hx hb dX10_nextLine_11 rfl (lv_at hl 1 rfl) ?_
        refine va_get (pc := 12) (ci := 10) (v := .ref a7) (C := RX10) (T := TX10) (N := 8) hx hb hts iX10 hown hK hP 0 rfl rfl 6 (by decide) (hts _ tw_216) (fun _ h9 => h9) rfl dX10_nextLine_12 ?_
        refine lv_iload_n (pc := 15) hx hb dX10_nextLine_15 rfl (lv_at hl 0 rfl) ?_
        refine va_iald (pc := 16) hx hb hK hP 1 2 rfl rfl (n_in rfl (by first | exact (om_10 c_7) | ((first | omega | (unfold zBd at *; omega)))) (by first | exact (om_1165 hi_3.2) | ((first | omega | (unfold zBd at *; omega))))) dX10_nextLine_16 ?_
        refine lv_topi (fun x_9 ex_9 => ?_)
        have rx_9 : (0 ≤ x_9.toInt ∧ x_9.toInt ≤ 23) := by rw [ex_9]; exact hi_5 _
        refine lv_iconst (pc := 17) (v := 1) hx hb dX10_nextLine_17 (by decide) ?_
        refine b_iadd (pc := 18) hx hb rfl tI_1 (by first | exact (om_2 rx_9.1) | ((first | omega | (unfold zBd at *; omega)))) (by first | exact (om_1166 rx_9.2) | ((first | omega | (unfold zBd at *; omega)))) dX10_nextLine_18 (fun x_10 ex_10 => ?_)
        refine lv_aload_n (pc := 19) hx hb dX10_nextLine_19 rfl (lv_at hl 1 rfl) ?_
        refine va_get (pc := 20) (ci := 10) (v := .ref a6) (C := RX10) (T := TX10) (N := 8) hx hb hts iX10 hown hK hP 0 rfl rfl 5 (by decide) (hts _ tw_214) (fun _ h9 => h9) rfl dX10_nextLine_20 ?_
        refine lv_iload_n (pc := 23) hx hb dX10_nextLine_23 rfl (lv_at hl 0 rfl) ?_
        refine va_iald (pc := 24) hx hb hK hP 2 2 rfl rfl (n_in rfl (by first | exact (om_10 c_7) | ((first | omega | (unfold zBd at *; omega)))) (by first | exact (om_1165 hi_3.2) | ((first | omega | (unfold zBd at *; omega))))) dX10_nextLine_24 ?_
        refine lv_topi (fun x_11 ex_11 => ?_)
        have rx_11 : ((-3) ≤ x_11.toInt ∧ x_11.toInt ≤ 24) := by rw [ex_11]; exact hf_f1 _
        refine b_icmp_lt (pc := 25) (tgt := 41) hx hb rfl rfl  dX10_nextLine_25 (by decide) (fun c_12 => ?_) (fun c_12 => ?_)
        ·
          refine lv_iload_n (pc := 41) hx hb dX10_nextLine_41 rfl (lv_at hl 0 rfl) ?_
          refine b_if_lt (pc := 42) (tgt := 60) hx hb rfl  dX10_nextLine_42 (by decide) (fun c_13 => absurd c_13 (by first | exact (om_1167 c_7) | ((first | omega | (unfold zBd at *; omega))))) (fun c_13 => ?_)
          refine lv_aload_n (pc := 45) hx hb dX10_nextLine_45 rfl (lv_at hl 1 rfl) ?_
          refine va_get (pc := 46) (ci := 10) (v := .ref a7) (C := RX10) (T := TX10) (N := 8) hx hb hts iX10 hown hK hP 0 rfl rfl 6 (by decide) (hts _ tw_216) (fun _ h9 => h9) rfl dX10_nextLine_46 ?_
          refine lv_iload_n (pc := 49) hx hb dX10_nextLine_49 rfl (lv_at hl 0 rfl) ?_
          refine lv_dup2_11 (pc := 50) hx hb dX10_nextLine_50 rfl rfl ?_
          refine va_iald (pc := 51) hx hb hK hP 1 2 rfl rfl (n_in rfl (by first | exact (om_10 c_13) | ((first | omega | (unfold zBd at *; omega)))) (by first | exact (om_1165 hi_3.2) | ((first | omega | (unfold zBd at *; omega))))) dX10_nextLine_51 ?_
          refine gI (y := x_9) ex_9.symm ?_
          refine lv_iconst (pc := 52) (v := 1) hx hb dX10_nextLine_52 (by decide) ?_
          refine b_iadd (pc := 53) hx hb rfl tI_1 (by first | exact (om_2 rx_9.1) | ((first | omega | (unfold zBd at *; omega)))) (by first | exact (om_1166 rx_9.2) | ((first | omega | (unfold zBd at *; omega)))) dX10_nextLine_53 (fun x_14 ex_14 => ?_)
          refine h_iastore (pc := 54) hx hb hK hP hD hS 1 2 rfl rfl (n_in rfl (by first | exact (om_10 c_13) | ((first | omega | (unfold zBd at *; omega)))) (by first | exact (om_1165 hi_3.2) | ((first | omega | (unfold zBd at *; omega))))) dX10_nextLine_54 hi_5 (by first | exact (om_917 ex_14 rx_9.1) | ((first | omega | (unfold zBd at *; omega)))) (by first | exact (om_1168 ex_14 ex_10 c_12 rx_11.2) | ((first | omega | (unfold zBd at *; omega)))) (fun f_15 hf_15 H locs hP hD hS => ?_)
          replace hP : va_P D gcl (zS_46 cB cC cI cJ a0 a1 a2 a3 a4 a5 a6 a7 x0 a7 f_15 a6 f1 a4 f2 a5 f3 a2 g0 a1 g1 a3 g2) H := hP
          replace hD : va_D A (zS_46 cB cC cI cJ a0 a1 a2 a3 a4 a5 a6 a7 x0 a7 f_15 a6 f1 a4 f2 a5 f3 a2 g0 a1 g1 a3 g2) := hD
          refine lv_aload_n (pc := 55) hx hb dX10_nextLine_55 rfl (lv_at hl 1 rfl) ?_
          refine lv_iload_n (pc := 56) hx hb dX10_nextLine_56 rfl (lv_at hl 0 rfl) ?_
          refine gd_v (pc := 57) (wc := (zS_25 cB cC cI cJ a0 a1 a2 a3 a4 a5 a6 a7 x0 a4 f2 a5 f3 a7 f_15 a2 g0 a1 g1 a3 g2)) hP hD hS hA [0, 3, 4, 1, 5, 6, 7] rfl (by decide +kernel) (fun _ => by rfl) (fun hPc hDc => va_runV (As := [.int x_2]) (rest := []) ⟨hx, hb, hml, hown, hts⟩ (k_X10_settle l D cB cC cI cJ _ a0 a1 a2 a3 a4 a5 a6 a7 x_2 x0 f2 f3 f_15 g0 g1 g2 (by first | exact (om_1169 c_13 hi_3.2) | ((first | omega | (unfold zBd at *; omega)))) h_x0 hf_15) ⟨gcwB hts tw_909 tw_8 tw_906 hd_yX10_settle ⟨Nat.le_of_ble_eq_true rfl, Nat.le_of_ble_eq_true rfl⟩, hts _ tw_908, hts _ tp_33⟩ ⟨gblind, va_recv hK hPc (ci := 10) (q0 := 0) rfl rfl, (gpreS hPc hK hDc hN).2⟩ rfl rfl hl.1 rfl (lv_room (Nat.le_of_ble_eq_true rfl)) dX10_nextLine_57 ⟨Nat.le_of_ble_eq_true rfl, Nat.le_of_ble_eq_true rfl⟩) (fun u_16 H locs hw_18 hP hD hS => ?_)
          replace hP : va_P D gcl (zS_46 cB cC cI cJ a0 a1 a2 a3 a4 a5 a6 a7 x0 a7 f_15 a6 f1 a4 f2 a5 f3 a2 (u_16.2.2.1 0) a1 g1 a3 (u_16.2.2.1 1)) H := hP
          replace hD : va_D A (zS_46 cB cC cI cJ a0 a1 a2 a3 a4 a5 a6 a7 x0 a7 f_15 a6 f1 a4 f2 a5 f3 a2 (u_16.2.2.1 0) a1 g1 a3 (u_16.2.2.1 1)) := hD
          have hw_19 : (((0 ≤ x0.toInt ∧ x0.toInt ≤ 4))) := hw_18
          exact hret ((fun _ => 0), (fun k => [f_15].getD k (fun _ => 0)), (fun k => [(u_16.2.2.1 0), (u_16.2.2.1 1)].getD k (fun _ => 0)), (fun _ => 0), (fun _ => 0)) dX10_nextLine_60 hf_15 (g_psub (wc := (zS_46 cB cC cI cJ a0 a1 a2 a3 a4 a5 a6 a7 x0 a7 f_15 a6 f1 a4 f2 a5 f3 a2 (u_16.2.2.1 0) a1 g1 a3 (u_16.2.2.1 1))) hP [0, 1, 2, 3, 4, 5, 6, 7] rfl) (hD.sub (ws' := (zS_46 cB cC cI cJ a0 a1 a2 a3 a4 a5 a6 a7 x0 a7 f_15 a6 f1 a4 f2 a5 f3 a2 (u_16.2.2.1 0) a1 g1 a3 (u_16.2.2.1 1))) [0, 1, 2, 3, 4, 5, 6, 7] (by decide) rfl) hS
        ·
          refine lv_aload_n (pc := 28) hx hb dX10_nextLine_28 rfl (lv_at hl 1 rfl) ?_
          refine va_get (pc := 29) (ci := 10) (v := .ref a7) (C := RX10) (T := TX10) (N := 8) hx hb hts iX10 hown hK hP 0 rfl rfl 6 (by decide) (hts _ tw_216) (fun _ h9 => h9) rfl dX10_nextLine_29 ?_
          refine lv_iload_n (pc := 32) hx hb dX10_nextLine_32 rfl (lv_at hl 0 rfl) ?_
          refine lv_iconst (pc := 33) (v := 0) hx hb dX10_nextLine_33 (by decide) ?_
          refine h_iastore (pc := 34) hx hb hK hP hD hS 1 2 rfl rfl (n_in rfl (by first | exact (om_10 c_7) | ((first | omega | (unfold zBd at *; omega)))) (by first | exact (om_1165 hi_3.2) | ((first | omega | (unfold zBd at *; omega))))) dX10_nextLine_34 hi_5 (by first | exact (om_975 tI_0) | (have k_f_20 := tI_0; (first | omega | (unfold zBd at *; omega)))) (by first | exact (om_1170 tI_0) | (have k_f_20 := tI_0; (first | omega | (unfold zBd at *; omega)))) (fun f_20 hf_20 H locs hP hD hS => ?_)
          replace hP : va_P D gcl (zS_46 cB cC cI cJ a0 a1 a2 a3 a4 a5 a6 a7 x0 a7 f_20 a6 f1 a4 f2 a5 f3 a2 g0 a1 g1 a3 g2) H := hP
          replace hD : va_D A (zS_46 cB cC cI cJ a0 a1 a2 a3 a4 a5 a6 a7 x0 a7 f_20 a6 f1 a4 f2 a5 f3 a2 g0 a1 g1 a3 g2) := hD
          refine b_iinc (pc := 35) hx hb dX10_nextLine_35 hl (k := 0) rfl rfl tI_m1 (by first | exact (om_1171 c_7) | ((first | omega | (unfold zBd at *; omega)))) (by first | exact (om_1172 hi_3.2) | ((first | omega | (unfold zBd at *; omega)))) (by decide) (fun x_21 ex_21 ls hl => ?_)
          replace hl : lv_has ls 2 [(1, .int x_21), (0, .ref a0)] := hl
          refine lv_goto (pc := 38) (tgt := 7) hx hb dX10_nextLine_38 (by decide) ?_
          exact ih_lp_6 x_21 f_20 _ _ ls (by first | exact (om_1173 ex_21 c_7 hi_3.2) | ((first | omega | (unfold zBd at *; omega)))) hf_20 (by (first | omega | (unfold zBd at *; omega))) hP hD hS (lv_sub hl [0, 1] rfl)
  exact lp_6 _ x_1 f0 _ _ ls (by first | exact (om_1174 ex_1 h_x0.1 h_x0.2) | ((first | omega | (unfold zBd at *; omega)))) hf_f0 (Nat.lt_succ_self _) hP hD hS (lv_sub hl [0, 1] rfl)
theorem om_1175 {a b : Int} (h0 : ((-2147483648) ≤ a)) (h1 : (b ≤ 2147483647)) (h2 : (a ≤ 2147483647)) (h3 : ((-2147483648) ≤ b)) : (((((-2147483648) ≤ a ∧ a ≤ 2147483647) ∧ ((-2147483648) ≤ b ∧ b ≤ 2147483647)) ∨ (((-2147483648) ≤ a ∧ a ≤ 2147483647) ∧ ((-2147483647) ≤ b ∧ b ≤ 2147483647)) ∨ (a = 0))) := by omega
theorem om_1176 {a b : Int} (h0 : (a = 0)) : (((((-2147483648) ≤ a ∧ a ≤ 2147483647) ∧ ((-2147483648) ≤ b ∧ b ≤ 2147483647)) ∨ (((-2147483648) ≤ a ∧ a ≤ 2147483647) ∧ ((-2147483647) ≤ b ∧ b ≤ 2147483647)) ∨ (a = 0))) := by omega
set_option maxHeartbeats 4000000 in
set_option maxRecDepth 100000 in
theorem k_X10_bestDigit (l : Launch) (D : va_G) (cB cC cI cJ : ClassId) (sz : Nat) (a0 a1 a2 a3 a4 a5 a6 a7 : Nat) (x0 x1 : Int32) (f0 f1 : Nat → Int32) (g0 g1 g2 : Nat → Int64) (h_x1 : zBd x1.toInt 0 4) : Met l yX10_bestDigit (.code yX10_bestDigit cX10_bestDigit 8 (some .int) :: lw_gd) ({ frames := 1, cells := 0, slots := 0, locals := 25 }) (gPre D [(cB, .byte), (cC, .char), (cI, .int), (cJ, .long)] [.ref a0, .int x0] (zS_106 cB cC cI cJ a0 a1 a2 a3 a4 a5 a6 a7 x1 a1 g0 a5 f0 a3 g1 a4 f1 a2 g2) sz) (va_Qi (fun r u => ((((-2147483648) ≤ r.toInt ∧ r.toInt ≤ 2147483647) ∧ ((-2147483648) ≤ x0.toInt ∧ x0.toInt ≤ 2147483647)) ∨ (((-2147483648) ≤ r.toInt ∧ r.toInt ≤ 2147483647) ∧ ((-2147483647) ≤ x0.toInt ∧ x0.toInt ≤ 2147483647)) ∨ (r.toInt = 0))) (gB D (va_A (zS_106 cB cC cI cJ a0 a1 a2 a3 a4 a5 a6 a7 x1 a1 g0 a5 f0 a3 g1 a4 f1 a2 g2) sz) (fun u : gEx => (zS_106 cB cC cI cJ a0 a1 a2 a3 a4 a5 a6 a7 x1 a1 g0 a5 f0 a3 g1 a4 f1 a2 g2))) (va_A (zS_106 cB cC cI cJ a0 a1 a2 a3 a4 a5 a6 a7 x1 a1 g0 a5 f0 a3 g1 a4 f1 a2 g2) sz)) 0 0 (va_A (zS_106 cB cC cI cJ a0 a1 a2 a3 a4 a5 a6 a7 x1 a1 g0 a5 f0 a3 g1 a4 f1 a2 g2) sz) := by
  refine gOf_i (by decide +kernel) (Nat.le_of_ble_eq_true rfl) ?_
  intro p e s m args below meth c ls A Q hx hb hts hown hml hN hK hP hD hA hl hret
  replace hown : s.vm.findClass RX10 = some m.cls := hown
  have hS : va_S A s.heap s.heap [] := va_S.rf
  replace hP : va_P D gcl (zS_106 cB cC cI cJ a0 a1 a2 a3 a4 a5 a6 a7 x1 a1 g0 a5 f0 a3 g1 a4 f1 a2 g2) s.heap := hP
  replace hl : lv_has ls 8 [(0, .ref a0), (1, .int x0)] := hl
  have rx0 : zBd x0.toInt (-2147483648) 2147483647 := n_rng x0
  refine lv_aload_n (pc := 0) hx hb dX10_bestDigit_0 rfl (lv_at hl 0 rfl) ?_
  refine va_get (pc := 1) (ci := 10) (v := .int x1) (C := RX10) (T := TX10) (N := 8) hx hb hts iX10 hown hK hP 0 rfl rfl 7 (by decide) (hts _ tw_220) (fun _ h9 => h9) rfl dX10_bestDigit_1 ?_
  have bd_h_x1 : 0 ≤ x1.toInt ∧ x1.toInt ≤ 4 := h_x1
  refine lv_iconst (pc := 4) (v := 5) hx hb dX10_bestDigit_4 (by decide) ?_
  refine b_imul (pc := 5) hx hb rfl tI_5 (by first | exact (om_330 h_x1.1) | ((first | omega | (unfold zBd at *; omega)))) (by first | exact (om_1160 h_x1.2) | ((first | omega | (unfold zBd at *; omega)))) dX10_bestDigit_5 (fun x_1 ex_1 => ?_)
  refine lv_aload_n (pc := 6) hx hb dX10_bestDigit_6 rfl (lv_at hl 0 rfl) ?_
  refine va_get (pc := 7) (ci := 10) (v := .int x1) (C := RX10) (T := TX10) (N := 8) hx hb hts iX10 hown hK hP 0 rfl rfl 7 (by decide) (hts _ tw_220) (fun _ h9 => h9) rfl dX10_bestDigit_7 ?_
  refine b_iadd (pc := 10) hx hb rfl rfl (by first | exact (om_405 ex_1 h_x1.1) | ((first | omega | (unfold zBd at *; omega)))) (by first | exact (om_1161 ex_1 h_x1.2) | ((first | omega | (unfold zBd at *; omega)))) dX10_bestDigit_10 (fun x_2 ex_2 => ?_)
  refine lv_istore_n (pc := 11) (lv' := [(2, .int x_2), (0, .ref a0), (1, .int x0)]) hx hb dX10_bestDigit_11 rfl hl (by decide) rfl (fun ls hl => ?_)
  refine lv_aload_n (pc := 12) hx hb dX10_bestDigit_12 rfl (lv_at hl 1 rfl) ?_
  refine va_get (pc := 13) (ci := 10) (v := .ref a1) (C := RX10) (T := TX10) (N := 8) hx hb hts iX10 hown hK hP 0 rfl rfl 0 (by decide) (hts _ tw_207) (fun _ h9 => h9) rfl dX10_bestDigit_13 ?_
  refine lv_iload_n (pc := 16) hx hb dX10_bestDigit_16 rfl (lv_at hl 0 rfl) ?_
  refine va_lald (pc := 17) hx hb hK hP 1 3 rfl rfl (n_in rfl (by first | exact (om_407 ex_2 ex_1 h_x1.1) | ((first | omega | (unfold zBd at *; omega)))) (by first | exact (om_1162 ex_2 ex_1 h_x1.2) | ((first | omega | (unfold zBd at *; omega))))) dX10_bestDigit_17 ?_
  refine lv_topl (fun y_3 ey_3 => ?_)
  have ry_3 := n_rngL y_3
  refine lv_aload_n (pc := 18) hx hb dX10_bestDigit_18 rfl (lv_at hl 1 rfl) ?_
  refine va_get (pc := 19) (ci := 10) (v := .ref a5) (C := RX10) (T := TX10) (N := 8) hx hb hts iX10 hown hK hP 0 rfl rfl 4 (by decide) (hts _ tw_213) (fun _ h9 => h9) rfl dX10_bestDigit_19 ?_
  refine lv_aload_n (pc := 22) hx hb dX10_bestDigit_22 rfl (lv_at hl 1 rfl) ?_
  refine va_get (pc := 23) (ci := 10) (v := .int x1) (C := RX10) (T := TX10) (N := 8) hx hb hts iX10 hown hK hP 0 rfl rfl 7 (by decide) (hts _ tw_220) (fun _ h9 => h9) rfl dX10_bestDigit_23 ?_
  refine va_iald (pc := 26) hx hb hK hP 2 2 rfl rfl (n_in rfl (by first | exact (om_0 h_x1.1) | ((first | omega | (unfold zBd at *; omega)))) (by first | exact (om_1135 h_x1.2) | ((first | omega | (unfold zBd at *; omega))))) dX10_bestDigit_26 ?_
  refine lv_topi (fun x_4 ex_4 => ?_)
  have rx_4 : zBd x_4.toInt (-2147483648) 2147483647 := n_rng x_4
  refine b_i2l (pc := 27) hx hb rfl dX10_bestDigit_27 (fun y_5 ey_5 => ?_)
  have ry_5 : zBd x_4.toInt (-2147483648) 2147483647 := n_rng x_4
  refine lv_lmul (pc := 28) hx hb dX10_bestDigit_28 ?_
  refine lv_topl (fun y_6 _ => ?_)
  have ry_6 := n_rngL y_6
  refine lv_lstore_n (pc := 29) (lv' := [(3, .long y_6), (2, .int x_2), (0, .ref a0), (1, .int x0)]) hx hb dX10_bestDigit_29 rfl hl (by decide) rfl (fun ls hl => ?_)
  refine lv_lload_n (pc := 30) hx hb dX10_bestDigit_30 rfl (lv_at hl 0 rfl) ?_
  refine lv_lconst (pc := 31) (v := 0) hx hb dX10_bestDigit_31 (by decide) ?_
  refine b_lcmp_gt (pc := 32) (tgt := 38) hx hb rfl tL_0 dX10_bestDigit_32 dX10_bestDigit_33 (by decide) (fun c_7 => ?_) (fun c_7 => ?_)
  ·
    refine lv_aload_n (pc := 38) hx hb dX10_bestDigit_38 rfl (lv_at hl 2 rfl) ?_
    refine va_get (pc := 39) (ci := 10) (v := .ref a3) (C := RX10) (T := TX10) (N := 8) hx hb hts iX10 hown hK hP 0 rfl rfl 2 (by decide) (hts _ tw_210) (fun _ h9 => h9) rfl dX10_bestDigit_39 ?_
    refine lv_iload_n (pc := 42) hx hb dX10_bestDigit_42 rfl (lv_at hl 1 rfl) ?_
    refine va_lald (pc := 43) hx hb hK hP 3 3 rfl rfl (n_in rfl (by first | exact (om_407 ex_2 ex_1 h_x1.1) | ((first | omega | (unfold zBd at *; omega)))) (by first | exact (om_1162 ex_2 ex_1 h_x1.2) | ((first | omega | (unfold zBd at *; omega))))) dX10_bestDigit_43 ?_
    refine lv_topl (fun y_8 ey_8 => ?_)
    have ry_8 := n_rngL y_8
    refine lv_aload_n (pc := 44) hx hb dX10_bestDigit_44 rfl (lv_at hl 2 rfl) ?_
    refine va_get (pc := 45) (ci := 10) (v := .ref a4) (C := RX10) (T := TX10) (N := 8) hx hb hts iX10 hown hK hP 0 rfl rfl 3 (by decide) (hts _ tw_211) (fun _ h9 => h9) rfl dX10_bestDigit_45 ?_
    refine lv_aload_n (pc := 48) hx hb dX10_bestDigit_48 rfl (lv_at hl 2 rfl) ?_
    refine va_get (pc := 49) (ci := 10) (v := .int x1) (C := RX10) (T := TX10) (N := 8) hx hb hts iX10 hown hK hP 0 rfl rfl 7 (by decide) (hts _ tw_220) (fun _ h9 => h9) rfl dX10_bestDigit_49 ?_
    refine va_iald (pc := 52) hx hb hK hP 4 2 rfl rfl (n_in rfl (by first | exact (om_0 h_x1.1) | ((first | omega | (unfold zBd at *; omega)))) (by first | exact (om_1135 h_x1.2) | ((first | omega | (unfold zBd at *; omega))))) dX10_bestDigit_52 ?_
    refine lv_topi (fun x_9 ex_9 => ?_)
    have rx_9 : zBd x_9.toInt (-2147483648) 2147483647 := n_rng x_9
    refine b_i2l (pc := 53) hx hb rfl dX10_bestDigit_53 (fun y_10 ey_10 => ?_)
    have ry_10 : zBd x_9.toInt (-2147483648) 2147483647 := n_rng x_9
    refine lv_aload_n (pc := 54) hx hb dX10_bestDigit_54 rfl (lv_at hl 2 rfl) ?_
    refine va_get (pc := 55) (ci := 10) (v := .ref a1) (C := RX10) (T := TX10) (N := 8) hx hb hts iX10 hown hK hP 0 rfl rfl 0 (by decide) (hts _ tw_207) (fun _ h9 => h9) rfl dX10_bestDigit_55 ?_
    refine lv_iload_n (pc := 58) hx hb dX10_bestDigit_58 rfl (lv_at hl 1 rfl) ?_
    refine va_lald (pc := 59) hx hb hK hP 1 3 rfl rfl (n_in rfl (by first | exact (om_407 ex_2 ex_1 h_x1.1) | ((first | omega | (unfold zBd at *; omega)))) (by first | exact (om_1162 ex_2 ex_1 h_x1.2) | ((first | omega | (unfold zBd at *; omega))))) dX10_bestDigit_59 ?_
    refine gL (y := y_3) ey_3.symm ?_
    refine lv_lmul (pc := 60) hx hb dX10_bestDigit_60 ?_
    refine lv_topl (fun y_11 _ => ?_)
    have ry_11 := n_rngL y_11
    refine lv_lsub (pc := 61) hx hb dX10_bestDigit_61 ?_
    refine lv_topl (fun y_12 _ => ?_)
    have ry_12 := n_rngL y_12
    refine lv_lload_n (pc := 62) hx hb dX10_bestDigit_62 rfl (lv_at hl 0 rfl) ?_
    refine va_fdl (pc := 63) hx hb (hml.trans hl.1.symm) hown (hts _ tw_1152) (hts _ tw_1153) (hts _ tw_19) (hts _ tw_1154) (Nat.le_of_ble_eq_true rfl) (Nat.le_of_ble_eq_true rfl) (Nat.le_of_ble_eq_true rfl) (Nat.le_of_ble_eq_true rfl) (fun h => by have q := congrArg Int64.toInt h; have k := tL_0; (first | omega | (unfold zBd at *; omega))) dX10_bestDigit_63 (fun y_13 => ?_)
    have ry_13 := n_rngL y_13
    refine lv_lstore (pc := 66) (lv' := [(5, .long y_13), (3, .long y_6), (2, .int x_2), (0, .ref a0), (1, .int x0)]) hx hb dX10_bestDigit_66 hl (by decide) rfl (fun ls hl => ?_)
    refine lv_lconst (pc := 68) (v := 0) hx hb dX10_bestDigit_68 (by decide) ?_
    refine lv_iload_n (pc := 69) hx hb dX10_bestDigit_69 rfl (lv_at hl 4 rfl) ?_
    refine lv_iconst (pc := 70) (v := 1) hx hb dX10_bestDigit_70 (by decide) ?_
    refine lv_isub (pc := 71) hx hb dX10_bestDigit_71 ?_
    refine lv_topi (fun x_14 _ => ?_)
    have rx_14 : zBd x_14.toInt (-2147483648) 2147483647 := n_rng x_14
    refine b_i2l (pc := 72) hx hb rfl dX10_bestDigit_72 (fun y_15 ey_15 => ?_)
    have ry_15 : zBd x_14.toInt (-2147483648) 2147483647 := n_rng x_14
    refine lv_lload (pc := 73) hx hb dX10_bestDigit_73 (lv_at hl 0 rfl) ?_
    refine va_mmin_long (pc := 75) hx hb (hml.trans hl.1.symm) hown (hts _ tw_1155) (hts _ tw_857) (hts _ tw_19) (hts _ tw_858) (Nat.le_of_ble_eq_true rfl) (Nat.le_of_ble_eq_true rfl) (Nat.le_of_ble_eq_true rfl) (Nat.le_of_ble_eq_true rfl) dX10_bestDigit_75 ?_
    refine lv_topl (fun y_16 ey_16 => ?_)
    have ey_16 := n_minL rfl rfl ey_16
    have ry_16 := n_rngL y_16
    refine va_mmax_long (pc := 78) hx hb (hml.trans hl.1.symm) hown (hts _ tw_1156) (hts _ tw_860) (hts _ tw_19) (hts _ tw_861) (Nat.le_of_ble_eq_true rfl) (Nat.le_of_ble_eq_true rfl) (Nat.le_of_ble_eq_true rfl) (Nat.le_of_ble_eq_true rfl) dX10_bestDigit_78 ?_
    refine lv_topl (fun y_17 ey_17 => ?_)
    have ey_17 := n_maxL tL_0 rfl ey_17
    have ry_17 := n_rngL y_17
    refine lv_l2i (pc := 81) hx hb dX10_bestDigit_81 rfl ?_
    refine lv_topi (fun x_18 _ => ?_)
    have rx_18 : zBd x_18.toInt (-2147483648) 2147483647 := n_rng x_18
    refine lv_istore (pc := 82) (lv' := [(7, .int x_18), (5, .long y_13), (3, .long y_6), (2, .int x_2), (0, .ref a0), (1, .int x0)]) hx hb dX10_bestDigit_82 hl (by decide) rfl (fun ls hl => ?_)
    refine lv_iload (pc := 84) hx hb dX10_bestDigit_84 (lv_at hl 0 rfl) ?_
    refine lv_iconst (pc := 86) (v := 1) hx hb dX10_bestDigit_86 (by decide) ?_
    refine lv_iadd (pc := 87) hx hb dX10_bestDigit_87 ?_
    refine lv_topi (fun x_19 _ => ?_)
    have rx_19 : zBd x_19.toInt (-2147483648) 2147483647 := n_rng x_19
    refine lv_iload_n (pc := 88) hx hb dX10_bestDigit_88 rfl (lv_at hl 5 rfl) ?_
    refine b_icmp_ge (pc := 89) (tgt := 117) hx hb rfl rfl  dX10_bestDigit_89 (by decide) (fun c_20 => ?_) (fun c_20 => ?_)
    ·
      refine lv_iload (pc := 117) hx hb dX10_bestDigit_117 (lv_at hl 0 rfl) ?_
      exact hret x_18 ((fun _ => 0), (fun _ => (fun _ => 0)), (fun _ => (fun _ => 0)), (fun _ => 0), (fun _ => 0)) dX10_bestDigit_119 (show ((((-2147483648) ≤ x_18.toInt ∧ x_18.toInt ≤ 2147483647) ∧ ((-2147483648) ≤ x0.toInt ∧ x0.toInt ≤ 2147483647)) ∨ (((-2147483648) ≤ x_18.toInt ∧ x_18.toInt ≤ 2147483647) ∧ ((-2147483647) ≤ x0.toInt ∧ x0.toInt ≤ 2147483647)) ∨ (x_18.toInt = 0)) from (by first | exact (om_1175 rx_18.1 rx0.2 rx_18.2 rx0.1) | ((first | omega | (unfold zBd at *; omega))))) (g_psub (wc := (zS_106 cB cC cI cJ a0 a1 a2 a3 a4 a5 a6 a7 x1 a1 g0 a5 f0 a3 g1 a4 f1 a2 g2)) hP [0, 1, 2, 3, 4, 5] rfl) (hD.sub (ws' := (zS_106 cB cC cI cJ a0 a1 a2 a3 a4 a5 a6 a7 x1 a1 g0 a5 f0 a3 g1 a4 f1 a2 g2)) [0, 1, 2, 3, 4, 5] (by decide) rfl) hS
    ·
      refine lv_aload_n (pc := 92) hx hb dX10_bestDigit_92 rfl (lv_at hl 4 rfl) ?_
      refine lv_iload (pc := 93) hx hb dX10_bestDigit_93 (lv_at hl 0 rfl) ?_
      refine lv_iconst (pc := 95) (v := 1) hx hb dX10_bestDigit_95 (by decide) ?_
      refine lv_iadd (pc := 96) hx hb dX10_bestDigit_96 ?_
      refine lv_topi (fun x_21 _ => ?_)
      have rx_21 : zBd x_21.toInt (-2147483648) 2147483647 := n_rng x_21
      refine gd_l (pc := 97) (wc := (zS_94 cB cC cI cJ a0 a1 a2 a3 a4 a5 a6 a7 x1 a4 f1 a5 f0 a2 g2 a1 g0 a3 g1)) hP hD hS hA [0, 4, 2, 5, 1, 3] rfl (by decide +kernel) (fun _ => by rfl) (fun hPc hDc => va_runV (As := [.int x_21]) (rest := []) ⟨hx, hb, hml, hown, hts⟩ (k_X10_squaresAt l D cB cC cI cJ _ a0 a1 a2 a3 a4 a5 a6 a7 x_21 x1 f1 f0 g2 g0 g1 h_x1) ⟨gcwB hts tw_922 tw_8 tw_1157 hd_yX10_squaresAt ⟨Nat.le_of_ble_eq_true rfl, Nat.le_of_ble_eq_true rfl⟩, hts _ tw_920, hts _ tw_921⟩ ⟨gblind, va_recv hK hPc (ci := 10) (q0 := 0) rfl rfl, (gpreS hPc hK hDc hN).2⟩ rfl rfl hl.1 rfl (lv_room (Nat.le_of_ble_eq_true rfl)) dX10_bestDigit_97 ⟨Nat.le_of_ble_eq_true rfl, Nat.le_of_ble_eq_true rfl⟩) (fun r_23 u_22 H locs hw_24 hP hD hS => ?_)
      replace hP : va_P D gcl (zS_106 cB cC cI cJ a0 a1 a2 a3 a4 a5 a6 a7 x1 a1 g0 a5 f0 a3 g1 a4 f1 a2 g2) H := hP
      replace hD : va_D A (zS_106 cB cC cI cJ a0 a1 a2 a3 a4 a5 a6 a7 x1 a1 g0 a5 f0 a3 g1 a4 f1 a2 g2) := hD
      have hw_25 : ((((-9223372036854775808) ≤ r_23.toInt ∧ r_23.toInt ≤ 9223372036854775807))) := hw_24
      have rr_23 := n_rngL r_23
      refine lv_aload_n (pc := 100) hx hb dX10_bestDigit_100 rfl (lv_at hl 4 rfl) ?_
      refine lv_iload (pc := 101) hx hb dX10_bestDigit_101 (lv_at hl 0 rfl) ?_
      refine gd_l (pc := 103) (wc := (zS_94 cB cC cI cJ a0 a1 a2 a3 a4 a5 a6 a7 x1 a4 f1 a5 f0 a2 g2 a1 g0 a3 g1)) hP hD hS hA [0, 4, 2, 5, 1, 3] rfl (by decide +kernel) (fun _ => by rfl) (fun hPc hDc => va_runV (As := [.int x_18]) (rest := [.long r_23]) ⟨hx, hb, hml, hown, hts⟩ (k_X10_squaresAt l D cB cC cI cJ _ a0 a1 a2 a3 a4 a5 a6 a7 x_18 x1 f1 f0 g2 g0 g1 h_x1) ⟨gcwB hts tw_922 tw_8 tw_1157 hd_yX10_squaresAt ⟨Nat.le_of_ble_eq_true rfl, Nat.le_of_ble_eq_true rfl⟩, hts _ tw_920, hts _ tw_921⟩ ⟨gblind, va_recv hK hPc (ci := 10) (q0 := 0) rfl rfl, (gpreS hPc hK hDc hN).2⟩ rfl rfl hl.1 rfl (lv_room (Nat.le_of_ble_eq_true rfl)) dX10_bestDigit_103 ⟨Nat.le_of_ble_eq_true rfl, Nat.le_of_ble_eq_true rfl⟩) (fun r_27 u_26 H locs hw_28 hP hD hS => ?_)
      replace hP : va_P D gcl (zS_106 cB cC cI cJ a0 a1 a2 a3 a4 a5 a6 a7 x1 a1 g0 a5 f0 a3 g1 a4 f1 a2 g2) H := hP
      replace hD : va_D A (zS_106 cB cC cI cJ a0 a1 a2 a3 a4 a5 a6 a7 x1 a1 g0 a5 f0 a3 g1 a4 f1 a2 g2) := hD
      have hw_29 : ((((-9223372036854775808) ≤ r_27.toInt ∧ r_27.toInt ≤ 9223372036854775807))) := hw_28
      have rr_27 := n_rngL r_27
      refine b_lcmp_ge (pc := 106) (tgt := 117) hx hb rfl rfl dX10_bestDigit_106 dX10_bestDigit_107 (by decide) (fun c_30 => ?_) (fun c_30 => ?_)
      ·
        refine lv_iload (pc := 117) hx hb dX10_bestDigit_117 (lv_at hl 0 rfl) ?_
        exact hret x_18 ((fun _ => 0), (fun _ => (fun _ => 0)), (fun _ => (fun _ => 0)), (fun _ => 0), (fun _ => 0)) dX10_bestDigit_119 (show ((((-2147483648) ≤ x_18.toInt ∧ x_18.toInt ≤ 2147483647) ∧ ((-2147483648) ≤ x0.toInt ∧ x0.toInt ≤ 2147483647)) ∨ (((-2147483648) ≤ x_18.toInt ∧ x_18.toInt ≤ 2147483647) ∧ ((-2147483647) ≤ x0.toInt ∧ x0.toInt ≤ 2147483647)) ∨ (x_18.toInt = 0)) from (by first | exact (om_1175 rx_18.1 rx0.2 rx_18.2 rx0.1) | ((first | omega | (unfold zBd at *; omega))))) (g_psub (wc := (zS_106 cB cC cI cJ a0 a1 a2 a3 a4 a5 a6 a7 x1 a1 g0 a5 f0 a3 g1 a4 f1 a2 g2)) hP [0, 1, 2, 3, 4, 5] rfl) (hD.sub (ws' := (zS_106 cB cC cI cJ a0 a1 a2 a3 a4 a5 a6 a7 x1 a1 g0 a5 f0 a3 g1 a4 f1 a2 g2)) [0, 1, 2, 3, 4, 5] (by decide) rfl) hS
      ·
        refine lv_iload (pc := 110) hx hb dX10_bestDigit_110 (lv_at hl 0 rfl) ?_
        refine lv_iconst (pc := 112) (v := 1) hx hb dX10_bestDigit_112 (by decide) ?_
        refine lv_iadd (pc := 113) hx hb dX10_bestDigit_113 ?_
        refine lv_topi (fun x_31 _ => ?_)
        have rx_31 : zBd x_31.toInt (-2147483648) 2147483647 := n_rng x_31
        refine lv_goto (pc := 114) (tgt := 119) hx hb dX10_bestDigit_114 (by decide) ?_
        exact hret x_31 ((fun _ => 0), (fun _ => (fun _ => 0)), (fun _ => (fun _ => 0)), (fun _ => 0), (fun _ => 0)) dX10_bestDigit_119 (show ((((-2147483648) ≤ x_31.toInt ∧ x_31.toInt ≤ 2147483647) ∧ ((-2147483648) ≤ x0.toInt ∧ x0.toInt ≤ 2147483647)) ∨ (((-2147483648) ≤ x_31.toInt ∧ x_31.toInt ≤ 2147483647) ∧ ((-2147483647) ≤ x0.toInt ∧ x0.toInt ≤ 2147483647)) ∨ (x_31.toInt = 0)) from (by first | exact (om_1175 rx_31.1 rx0.2 rx_31.2 rx0.1) | ((first | omega | (unfold zBd at *; omega))))) (g_psub (wc := (zS_106 cB cC cI cJ a0 a1 a2 a3 a4 a5 a6 a7 x1 a1 g0 a5 f0 a3 g1 a4 f1 a2 g2)) hP [0, 1, 2, 3, 4, 5] rfl) (hD.sub (ws' := (zS_106 cB cC cI cJ a0 a1 a2 a3 a4 a5 a6 a7 x1 a1 g0 a5 f0 a3 g1 a4 f1 a2 g2)) [0, 1, 2, 3, 4, 5] (by decide) rfl) hS
  ·
    refine lv_iconst (pc := 36) (v := 0) hx hb dX10_bestDigit_36 (by decide) ?_
    exact hret 0 ((fun _ => 0), (fun _ => (fun _ => 0)), (fun _ => (fun _ => 0)), (fun _ => 0), (fun _ => 0)) dX10_bestDigit_37 (show ((((-2147483648) ≤ (0 : Int32).toInt ∧ (0 : Int32).toInt ≤ 2147483647) ∧ ((-2147483648) ≤ x0.toInt ∧ x0.toInt ≤ 2147483647)) ∨ (((-2147483648) ≤ (0 : Int32).toInt ∧ (0 : Int32).toInt ≤ 2147483647) ∧ ((-2147483647) ≤ x0.toInt ∧ x0.toInt ≤ 2147483647)) ∨ ((0 : Int32).toInt = 0)) from (by first | exact (om_1176 tI_0) | (have k9 := tI_0; (first | omega | (unfold zBd at *; omega))))) (g_psub (wc := (zS_106 cB cC cI cJ a0 a1 a2 a3 a4 a5 a6 a7 x1 a1 g0 a5 f0 a3 g1 a4 f1 a2 g2)) hP [0, 1, 2, 3, 4, 5] rfl) (hD.sub (ws' := (zS_106 cB cC cI cJ a0 a1 a2 a3 a4 a5 a6 a7 x1 a1 g0 a5 f0 a3 g1 a4 f1 a2 g2)) [0, 1, 2, 3, 4, 5] (by decide) rfl) hS
set_option maxHeartbeats 4000000 in
set_option maxRecDepth 100000 in
theorem k_X8_sentTo_5_w (l : Launch) (D : va_G) (cB cC cI cJ : ClassId) (sz : Nat) (a0 a1 a2 : Nat) (x0 x1 : Int32) (f0 f1 : Nat → Int32) (hp1 : (0 ≤ x0.toInt ∧ x0.toInt ≤ 5)) (hp3 : ((-1) ≤ x1.toInt ∧ x1.toInt ≤ 5)) : Met l yX8_sentTo (.code yX8_sentTo cX8_sentTo 6 (some .int) :: lw_gd) ({ frames := 1, cells := 0, slots := 0, locals := 22 }) (gPre D [(cB, .byte), (cC, .char), (cI, .int), (cJ, .long)] [.ref a0, .int x0, .ref a1, .int x1] (zS_74 cB cC cI cJ a0 a2 a2 f0 a1 f1) sz) (va_Qi (fun r u => (r = sW (tX9 f0 x0.toInt) f1 (x1.toInt).toNat)) (gB D (va_A (zS_74 cB cC cI cJ a0 a2 a2 f0 a1 f1) sz) (fun u : gEx => (zS_74 cB cC cI cJ a0 a2 a2 f0 a1 f1))) (va_A (zS_74 cB cC cI cJ a0 a2 a2 f0 a1 f1) sz)) 0 0 (va_A (zS_74 cB cC cI cJ a0 a2 a2 f0 a1 f1) sz) := by
  refine gOf_i (by decide +kernel) (Nat.le_of_ble_eq_true rfl) ?_
  intro p e s m args below meth c ls A Q hx hb hts hown hml hN hK hP hD hA hl hret
  replace hown : s.vm.findClass RX8 = some m.cls := hown
  have hS : va_S A s.heap s.heap [] := va_S.rf
  replace hP : va_P D gcl (zS_74 cB cC cI cJ a0 a2 a2 f0 a1 f1) s.heap := hP
  replace hl : lv_has ls 6 [(0, .ref a0), (1, .int x0), (2, .ref a1), (3, .int x1)] := hl
  refine lv_iconst (pc := 0) (v := 0) hx hb dX8_sentTo_0 (by decide) ?_
  refine lv_istore (pc := 1) (lv' := [(4, .int 0), (0, .ref a0), (1, .int x0), (2, .ref a1), (3, .int x1)]) hx hb dX8_sentTo_1 hl (by decide) rfl (fun ls hl => ?_)
  refine lv_iconst (pc := 3) (v := 0) hx hb dX8_sentTo_3 (by decide) ?_
  refine lv_istore (pc := 4) (lv' := [(5, .int 0), (4, .int 0), (0, .ref a0), (1, .int x0), (2, .ref a1), (3, .int x1)]) hx hb dX8_sentTo_4 hl (by decide) rfl (fun ls hl => ?_)
  have lp_7 : ∀ (n : Nat) (x_1 x_3 : Int32) (H : Heap) (locs : List Loc) (ls : Array Slot), (0 ≤ x_1.toInt ∧ x_1.toInt ≤ 5) → (x_1.toInt ≤ x1.toInt ∨ x_1.toInt = 0) → (x_3 = sW (tX9 f0 x0.toInt) f1 (x_1.toInt).toNat) → (2147483647 - x_1.toInt).toNat < n → va_P D gcl (zS_74 cB cC cI cJ a0 a2 a2 f0 a1 f1) H → va_D A (zS_74 cB cC cI cJ a0 a2 a2 f0 a1 f1) → va_S A s.heap H locs → lv_has ls 6 [(5, .int x_1), (4, .int x_3), (0, .ref a0), (1, .int x0), (2, .ref a1), (3, .int x1)] → W p l e ({ frames := 1, cells := 0, slots := 0, locals := 22 }) s m args below meth c H locs 0 0 Q (F0 m 6 ls []) := by
    intro n
    induction n with
    | zero => intro x_1 x_3 H locs ls hi_2 hi_5 hi_6 hmu; exact absurd hmu (Nat.not_lt_zero _)
    | succ n ih_lp_7 =>
      intro x_1 x_3 H locs ls hi_2 hi_5 hi_6 hmu_lp_7 hP hD hS hl
      have hi_4 := n_rng x_3
      refine lv_iload (pc := 6) hx hb dX8_sentTo_6 (lv_at hl 0 rfl) ?_
      refine lv_iload_n (pc := 8) hx hb dX8_sentTo_8 rfl (lv_at hl 5 rfl) ?_
      refine b_icmp_ge (pc := 9) (tgt := 35) hx hb rfl rfl  dX8_sentTo_9 (by decide) (fun c_8 => ?_) (fun c_8 => ?_)
      ·
        refine lv_iload (pc := 35) hx hb dX8_sentTo_35 (lv_at hl 1 rfl) ?_
        exact hret x_3 ((fun _ => 0), (fun _ => (fun _ => 0)), (fun _ => (fun _ => 0)), (fun _ => 0), (fun _ => 0)) dX8_sentTo_37 (show x_3 = sW (tX9 f0 x0.toInt) f1 (x1.toInt).toNat from (by have e9 : (x_1.toInt).toNat = (x1.toInt).toNat := (by (first | omega | (unfold zBd at *; omega))); have q9 := hi_6; rw [e9] at q9; exact q9)) (g_psub (wc := (zS_74 cB cC cI cJ a0 a2 a2 f0 a1 f1)) hP [0, 1, 2] rfl) (hD.sub (ws' := (zS_74 cB cC cI cJ a0 a2 a2 f0 a1 f1)) [0, 1, 2] (by decide) rfl) hS
      ·
        refine lv_iload (pc := 12) hx hb dX8_sentTo_12 (lv_at hl 1 rfl) ?_
        refine lv_aload_n (pc := 14) hx hb dX8_sentTo_14 rfl (lv_at hl 2 rfl) ?_
        refine lv_iload_n (pc := 15) hx hb dX8_sentTo_15 rfl (lv_at hl 3 rfl) ?_
        refine lv_iload (pc := 16) hx hb dX8_sentTo_16 (lv_at hl 0 rfl) ?_
        refine gd_i (pc := 18) (wc := [(a0, .inr (8, [.ref a2])), (a2, .inl (cI, 30, .inl f0))]) hP hD hS hA [0, 1] rfl (by decide +kernel) (fun _ => by rfl) (fun hPc hDc => va_runV (As := [.int x0, .int x_1]) (rest := [.int x_3]) ⟨hx, hb, hml, hown, hts⟩ (k_X8_at_e l D cB cC cI cJ _ a0 a2 x0 x_1 f0 hp1 (by first | exact (om_360 hi_2.1 c_8 hp3.2) | ((first | omega | (unfold zBd at *; omega))))) ⟨gcwB hts tw_791 tw_5 tw_800 hd_yX8_at ⟨Nat.le_of_ble_eq_true rfl, Nat.le_of_ble_eq_true rfl⟩, hts _ tw_789, hts _ tw_790⟩ ⟨gblind, va_recv hK hPc (ci := 8) (q0 := 0) rfl rfl, (gpreS hPc hK hDc hN).2⟩ rfl rfl hl.1 rfl (lv_room (Nat.le_of_ble_eq_true rfl)) dX8_sentTo_18 ⟨Nat.le_of_ble_eq_true rfl, Nat.le_of_ble_eq_true rfl⟩) (fun r_10 u_9 H locs hw_11 hP hD hS => ?_)
        replace hP : va_P D gcl (zS_74 cB cC cI cJ a0 a2 a2 f0 a1 f1) H := hP
        replace hD : va_D A (zS_74 cB cC cI cJ a0 a2 a2 f0 a1 f1) := hD
        have hw_12 : (r_10 = f0 (6 * x_1.toInt + x0.toInt).toNat) := hw_11
        have rr_10 : zBd r_10.toInt (-2147483648) 2147483647 := n_rng r_10
        refine lv_aload_n (pc := 21) hx hb dX8_sentTo_21 rfl (lv_at hl 4 rfl) ?_
        refine lv_iload (pc := 22) hx hb dX8_sentTo_22 (lv_at hl 0 rfl) ?_
        refine va_iald (pc := 24) hx hb hK hP 2 2 rfl rfl (n_in rfl (by first | exact (om_0 hi_2.1) | ((first | omega | (unfold zBd at *; omega)))) (by first | exact (om_1020 c_8 hp3.2) | ((first | omega | (unfold zBd at *; omega))))) dX8_sentTo_24 ?_
        refine lv_topi (fun x_13 ex_13 => ?_)
        have rx_13 : zBd x_13.toInt (-2147483648) 2147483647 := n_rng x_13
        replace ex_13 : x_13 = f1 (x_1.toInt).toNat := ex_13
        have tx_13 := congrArg Int32.toInt ex_13
        refine lv_imul (pc := 25) hx hb dX8_sentTo_25 ?_
        refine lv_topi (fun x_14 ex_14 => ?_)
        have rx_14 : zBd x_14.toInt (-2147483648) 2147483647 := n_rng x_14
        refine lv_iadd (pc := 26) hx hb dX8_sentTo_26 ?_
        refine lv_topi (fun x_15 ex_15 => ?_)
        have rx_15 : zBd x_15.toInt (-2147483648) 2147483647 := n_rng x_15
        refine lv_istore (pc := 27) (lv' := [(4, .int x_15), (5, .int x_1), (0, .ref a0), (1, .int x0), (2, .ref a1), (3, .int x1)]) hx hb dX8_sentTo_27 hl (by decide) rfl (fun ls hl => ?_)
        refine b_iinc (pc := 29) hx hb dX8_sentTo_29 hl (k := 1) rfl rfl tI_1 (by first | exact (om_2 hi_2.1) | ((first | omega | (unfold zBd at *; omega)))) (by first | exact (om_357 hi_2.2) | ((first | omega | (unfold zBd at *; omega)))) (by decide) (fun x_16 ex_16 ls hl => ?_)
        replace hl : lv_has ls 6 [(5, .int x_16), (4, .int x_15), (0, .ref a0), (1, .int x0), (2, .ref a1), (3, .int x1)] := hl
        refine lv_goto (pc := 32) (tgt := 6) hx hb dX8_sentTo_32 (by decide) ?_
        exact ih_lp_7 x_16 x_15 _ _ ls (by first | exact (om_1026 ex_16 hi_2.1 c_8 hp3.2) | ((first | omega | (unfold zBd at *; omega)))) (by first | exact (om_344 ex_16 c_8) | ((first | omega | (unfold zBd at *; omega)))) (sW_step hi_6 (tx_e hw_12 (by first | exact (om_0 hi_2.1) | ((first | omega | (unfold zBd at *; omega))))) ex_13 ex_14 ex_15 (by first | exact (om_0 hi_2.1) | ((first | omega | (unfold zBd at *; omega)))) (by first | exact (om_5 ex_16) | ((first | omega | (unfold zBd at *; omega))))) (by (first | omega | (unfold zBd at *; omega))) hP hD hS (lv_sub hl [0, 1, 2, 3, 4, 5] rfl)
  exact lp_7 _ 0 0 _ _ ls (n_c tI_0 (by decide)) (by have q := tI_0; (first | omega | (unfold zBd at *; omega))) (rfl) (Nat.lt_succ_self _) hP hD hS (lv_sub hl [0, 1, 2, 3, 4, 5] rfl)
set_option maxHeartbeats 4000000 in
set_option maxRecDepth 100000 in
theorem k_X1_letterOfWord_T (l : Launch) (D : va_G) (cB cC cI cJ : ClassId) (sz : Nat) (a0 a1 a2 a3 : Nat) (x0 x1 x2 x3 x4 x5 x6 x7 x8 : Int32) (f0 : Nat → Int32) (hp1 : (0 ≤ x0.toInt ∧ x0.toInt ≤ 15)) (hp2 : (0 ≤ x1.toInt ∧ x1.toInt ≤ 4)) (h_x2 : zBd x2.toInt (-1) 8) (h_x3 : zBd x3.toInt (-1) 5) (h_x4 : zBd x4.toInt (-1) 6) (h_x5 : zBd x5.toInt 0 6) (h_x6 : zBd x6.toInt 0 16) (hf_f0 : (∀ j, (-7) ≤ (f0 j).toInt ∧ (f0 j).toInt ≤ 7)) : Met l yX1_letterOfWord (.code yX1_letterOfWord cX1_letterOfWord 3 (some .int) :: lw_gd) ({ frames := 0, cells := 0, slots := 0, locals := 0 }) (gPre D [(cB, .byte), (cC, .char), (cI, .int), (cJ, .long)] [.ref a0, .int x0, .int x1] (zS_41 cB cC cI cJ a0 a1 a2 a3 x2 x3 x4 x5 x6 x7 x8 a3 f0) sz) (va_Qi (fun r u => ((-7) ≤ r.toInt ∧ r.toInt ≤ 7) ∧ (r = f0 (5 * x0.toInt + x1.toInt).toNat)) (gB D (va_A (zS_41 cB cC cI cJ a0 a1 a2 a3 x2 x3 x4 x5 x6 x7 x8 a3 f0) sz) (fun u : gEx => (zS_41 cB cC cI cJ a0 a1 a2 a3 x2 x3 x4 x5 x6 x7 x8 a3 f0))) (va_A (zS_41 cB cC cI cJ a0 a1 a2 a3 x2 x3 x4 x5 x6 x7 x8 a3 f0) sz)) 0 0 (va_A (zS_41 cB cC cI cJ a0 a1 a2 a3 x2 x3 x4 x5 x6 x7 x8 a3 f0) sz) := by
  refine gOf_i (by decide +kernel) (Nat.le_of_ble_eq_true rfl) ?_
  intro p e s m args below meth c ls A Q hx hb hts hown hml hN hK hP hD hA hl hret
  replace hown : s.vm.findClass RX1 = some m.cls := hown
  have hS : va_S A s.heap s.heap [] := va_S.rf
  replace hP : va_P D gcl (zS_41 cB cC cI cJ a0 a1 a2 a3 x2 x3 x4 x5 x6 x7 x8 a3 f0) s.heap := hP
  replace hl : lv_has ls 3 [(0, .ref a0), (1, .int x0), (2, .int x1)] := hl
  have rx7 : zBd x7.toInt (-2147483648) 2147483647 := n_rng x7
  have rx8 : zBd x8.toInt (-2147483648) 2147483647 := n_rng x8
  refine lv_aload_n (pc := 0) hx hb dX1_letterOfWord_0 rfl (lv_at hl 0 rfl) ?_
  refine va_get (pc := 1) (ci := 1) (v := .ref a3) (C := RX1) (T := TX1) (N := 10) hx hb hts iX1 hown hK hP 0 rfl rfl 2 (by decide) (hts _ tw_108) (fun _ h9 => h9) rfl dX1_letterOfWord_1 ?_
  refine lv_iload_n (pc := 4) hx hb dX1_letterOfWord_4 rfl (lv_at hl 1 rfl) ?_
  refine lv_iconst (pc := 5) (v := 5) hx hb dX1_letterOfWord_5 (by decide) ?_
  refine b_imul (pc := 6) hx hb rfl tI_5 (by first | exact (om_330 hp1.1) | ((first | omega | (unfold zBd at *; omega)))) (by first | exact (om_331 hp1.2) | ((first | omega | (unfold zBd at *; omega)))) dX1_letterOfWord_6 (fun x_1 ex_1 => ?_)
  refine lv_iload_n (pc := 7) hx hb dX1_letterOfWord_7 rfl (lv_at hl 2 rfl) ?_
  refine b_iadd (pc := 8) hx hb rfl rfl (by first | exact (om_332 ex_1 hp2.1 hp1.1) | ((first | omega | (unfold zBd at *; omega)))) (by first | exact (om_1108 ex_1 hp2.2 hp1.2) | ((first | omega | (unfold zBd at *; omega)))) dX1_letterOfWord_8 (fun x_2 ex_2 => ?_)
  refine va_iald (pc := 9) hx hb hK hP 1 2 rfl rfl (n_in rfl (by first | exact (om_334 ex_2 ex_1 hp2.1 hp1.1) | ((first | omega | (unfold zBd at *; omega)))) (by first | exact (om_1109 ex_2 ex_1 hp2.2 hp1.2) | ((first | omega | (unfold zBd at *; omega))))) dX1_letterOfWord_9 ?_
  refine lv_topi (fun x_3 ex_3 => ?_)
  have rx_3 : ((-7) ≤ x_3.toInt ∧ x_3.toInt ≤ 7) := by rw [ex_3]; exact hf_f0 _
  replace ex_3 : x_3 = f0 (x_2.toInt).toNat := ex_3
  have tx_3 := congrArg Int32.toInt ex_3
  exact hret x_3 ((fun _ => 0), (fun _ => (fun _ => 0)), (fun _ => (fun _ => 0)), (fun _ => 0), (fun _ => 0)) dX1_letterOfWord_10 ⟨(show ((-7) ≤ x_3.toInt ∧ x_3.toInt ≤ 7) from rx_3), (show x_3 = f0 (5 * x0.toInt + x1.toInt).toNat from (e_ld ex_3 (by (first | omega | (unfold zBd at *; omega)))).symm)⟩ (g_psub (wc := (zS_41 cB cC cI cJ a0 a1 a2 a3 x2 x3 x4 x5 x6 x7 x8 a3 f0)) hP [0, 1] rfl) (hD.sub (ws' := (zS_41 cB cC cI cJ a0 a1 a2 a3 x2 x3 x4 x5 x6 x7 x8 a3 f0)) [0, 1] (by decide) rfl) hS
theorem om_1177 {a b : Int} (h0 : (b ≥ a)) : (a ≤ b ∨ a ≤ 0) := by omega
set_option maxHeartbeats 4000000 in
set_option maxRecDepth 100000 in
theorem k_X0_worthOfPair (l : Launch) (D : va_G) (cB cC cI cJ : ClassId) (sz : Nat) (a0 a1 a2 a3 a4 a5 a6 a7 : Nat) (x0 x1 x2 x3 x4 x5 x6 x7 x8 x9 x10 x11 x12 : Int32) (y0 : Int64) (f0 f1 f2 : Nat → Int32) (hp2 : (0 ≤ x0.toInt ∧ x0.toInt ≤ 15)) (hp3 : (0 ≤ x1.toInt ∧ x1.toInt ≤ 15)) (h_x2 : zBd x2.toInt 0 16) (h_x3 : zBd x3.toInt 0 1) (h_x4 : zBd x4.toInt 0 256) (h_x6 : zBd x6.toInt (-1) 8) (h_x7 : zBd x7.toInt (-1) 5) (h_x8 : zBd x8.toInt (-1) 6) (h_x9 : zBd x9.toInt 0 6) (h_x10 : zBd x10.toInt 0 16) (hf_f1 : (∀ j, (-7) ≤ (f1 j).toInt ∧ (f1 j).toInt ≤ 7)) : Met l yX0_worthOfPair (.code yX0_worthOfPair cX0_worthOfPair 9 (some .long) :: lw_gd) ({ frames := 2, cells := 0, slots := 0, locals := 47 }) (gPre D [(cB, .byte), (cC, .char), (cI, .int), (cJ, .long)] [.ref a0, .ref a1, .int x0, .int x1] (zS_112 cB cC cI cJ a0 a2 a3 x2 x3 y0 x4 x5 a3 f0 a1 a4 a5 a6 x6 x7 x8 x9 x10 x11 x12 a6 f1 a4 a7 a7 f2) sz) (va_Ql (fun r u => (r = pX9 f2 f1 x7.toInt x8.toInt x0.toInt x1.toInt)) (gB D (va_A (zS_112 cB cC cI cJ a0 a2 a3 x2 x3 y0 x4 x5 a3 f0 a1 a4 a5 a6 x6 x7 x8 x9 x10 x11 x12 a6 f1 a4 a7 a7 f2) sz) (fun u : gEx => (zS_112 cB cC cI cJ a0 a2 a3 x2 x3 y0 x4 x5 a3 (u.2.1 0) a1 a4 a5 a6 x6 x7 x8 x9 x10 x11 x12 a6 f1 a4 a7 a7 f2))) (va_A (zS_112 cB cC cI cJ a0 a2 a3 x2 x3 y0 x4 x5 a3 f0 a1 a4 a5 a6 x6 x7 x8 x9 x10 x11 x12 a6 f1 a4 a7 a7 f2) sz)) 0 0 (va_A (zS_112 cB cC cI cJ a0 a2 a3 x2 x3 y0 x4 x5 a3 f0 a1 a4 a5 a6 x6 x7 x8 x9 x10 x11 x12 a6 f1 a4 a7 a7 f2) sz) := by
  refine gOf_l (by decide +kernel) (Nat.le_of_ble_eq_true rfl) ?_
  intro p e s m args below meth c ls A Q hx hb hts hown hml hN hK hP hD hA hl hret
  replace hown : s.vm.findClass RX0 = some m.cls := hown
  have hS : va_S A s.heap s.heap [] := va_S.rf
  replace hP : va_P D gcl (zS_112 cB cC cI cJ a0 a2 a3 x2 x3 y0 x4 x5 a3 f0 a1 a4 a5 a6 x6 x7 x8 x9 x10 x11 x12 a6 f1 a4 a7 a7 f2) s.heap := hP
  replace hl : lv_has ls 9 [(0, .ref a0), (1, .ref a1), (2, .int x0), (3, .int x1)] := hl
  have ry0 := n_rngL y0
  have rx5 : zBd x5.toInt (-2147483648) 2147483647 := n_rng x5
  have rx11 : zBd x11.toInt (-2147483648) 2147483647 := n_rng x11
  have rx12 : zBd x12.toInt (-2147483648) 2147483647 := n_rng x12
  refine lv_iconst (pc := 0) (v := 0) hx hb dX0_worthOfPair_0 (by decide) ?_
  refine lv_istore (pc := 1) (lv' := [(4, .int 0), (0, .ref a0), (1, .ref a1), (2, .int x0), (3, .int x1)]) hx hb dX0_worthOfPair_1 hl (by decide) rfl (fun ls hl => ?_)
  have lp_6 : ∀ (n : Nat) (x_1 : Int32) (f_3 : Nat → Int32) (H : Heap) (locs : List Loc) (ls : Array Slot), (0 ≤ x_1.toInt ∧ x_1.toInt ≤ 5) → (x_1.toInt ≤ x7.toInt ∨ x_1.toInt = 0) → (dfQ f_3 f1 x0.toInt x1.toInt x_1.toInt) → (2147483647 - x_1.toInt).toNat < n → va_P D gcl (zS_112 cB cC cI cJ a0 a2 a3 x2 x3 y0 x4 x5 a3 f_3 a1 a4 a5 a6 x6 x7 x8 x9 x10 x11 x12 a6 f1 a4 a7 a7 f2) H → va_D A (zS_112 cB cC cI cJ a0 a2 a3 x2 x3 y0 x4 x5 a3 f_3 a1 a4 a5 a6 x6 x7 x8 x9 x10 x11 x12 a6 f1 a4 a7 a7 f2) → va_S A s.heap H locs → lv_has ls 9 [(4, .int x_1), (0, .ref a0), (1, .ref a1), (2, .int x0), (3, .int x1)] → W p l e ({ frames := 2, cells := 0, slots := 0, locals := 47 }) s m args below meth c H locs 0 0 Q (F0 m 3 ls []) := by
    intro n
    induction n with
    | zero => intro x_1 f_3 H locs ls hi_2 hi_4 hi_5 hmu; exact absurd hmu (Nat.not_lt_zero _)
    | succ n ih_lp_6 =>
      intro x_1 f_3 H locs ls hi_2 hi_4 hi_5 hmu_lp_6 hP hD hS hl
      refine lv_iload (pc := 3) hx hb dX0_worthOfPair_3 (lv_at hl 0 rfl) ?_
      refine lv_aload_n (pc := 5) hx hb dX0_worthOfPair_5 rfl (lv_at hl 2 rfl) ?_
      refine va_getN (pc := 6) (ci := 1) (v := .int x7) (C := RX1) (T := TX1) (N := 10) hx hb hts iX1 hown hK hP 2 rfl rfl 4 (by decide) (va_Nw.use rfl (hN _ tn_119)) (fun _ h9 => h9) rfl dX0_worthOfPair_6 ?_
      refine b_icmp_ge (pc := 9) (tgt := 40) hx hb rfl rfl  dX0_worthOfPair_9 (by decide) (fun c_7 => ?_) (fun c_7 => ?_)
      ·
        refine lv_lconst (pc := 40) (v := 0) hx hb dX0_worthOfPair_40 (by decide) ?_
        refine lv_lstore (pc := 41) (lv' := [(4, .long 0), (0, .ref a0), (1, .ref a1), (2, .int x0), (3, .int x1)]) hx hb dX0_worthOfPair_41 hl (by decide) rfl (fun ls hl => ?_)
        refine lv_iconst (pc := 43) (v := 0) hx hb dX0_worthOfPair_43 (by decide) ?_
        refine lv_istore (pc := 44) (lv' := [(6, .int 0), (4, .long 0), (0, .ref a0), (1, .ref a1), (2, .int x0), (3, .int x1)]) hx hb dX0_worthOfPair_44 hl (by decide) rfl (fun ls hl => ?_)
        have lp_14 : ∀ (n : Nat) (x_8 : Int32) (y_10 : Int64) (H : Heap) (locs : List Loc) (ls : Array Slot), (0 ≤ x_8.toInt ∧ x_8.toInt ≤ 6) → (x_8.toInt ≤ x8.toInt ∨ x_8.toInt = 0) → (y_10 = qW (fun r : Nat => sW (tX9 f2 (r : Int)) (wD f1 x0.toInt x1.toInt) (x7.toInt).toNat) (x_8.toInt).toNat) → (2147483647 - x_8.toInt).toNat < n → va_P D gcl (zS_112 cB cC cI cJ a0 a2 a3 x2 x3 y0 x4 x5 a3 f_3 a1 a4 a5 a6 x6 x7 x8 x9 x10 x11 x12 a6 f1 a4 a7 a7 f2) H → va_D A (zS_112 cB cC cI cJ a0 a2 a3 x2 x3 y0 x4 x5 a3 f_3 a1 a4 a5 a6 x6 x7 x8 x9 x10 x11 x12 a6 f1 a4 a7 a7 f2) → va_S A s.heap H locs → lv_has ls 9 [(6, .int x_8), (4, .long y_10), (0, .ref a0), (1, .ref a1), (2, .int x0), (3, .int x1)] → W p l e ({ frames := 2, cells := 0, slots := 0, locals := 47 }) s m args below meth c H locs 0 0 Q (F0 m 46 ls []) := by
          intro n
          induction n with
          | zero => intro x_8 y_10 H locs ls hi_9 hi_12 hi_13 hmu; exact absurd hmu (Nat.not_lt_zero _)
          | succ n ih_lp_14 =>
            intro x_8 y_10 H locs ls hi_9 hi_12 hi_13 hmu_lp_14 hP hD hS hl
            have hi_11 := n_rngL y_10
            refine lv_iload (pc := 46) hx hb dX0_worthOfPair_46 (lv_at hl 0 rfl) ?_
            refine lv_aload_n (pc := 48) hx hb dX0_worthOfPair_48 rfl (lv_at hl 3 rfl) ?_
            refine va_getN (pc := 49) (ci := 1) (v := .int x8) (C := RX1) (T := TX1) (N := 10) hx hb hts iX1 hown hK hP 2 rfl rfl 5 (by decide) (va_Nw.use rfl (hN _ tn_127)) (fun _ h9 => h9) rfl dX0_worthOfPair_49 ?_
            refine b_icmp_ge (pc := 52) (tgt := 91) hx hb rfl rfl  dX0_worthOfPair_52 (by decide) (fun c_15 => ?_) (fun c_15 => ?_)
            ·
              refine lv_lload (pc := 91) hx hb dX0_worthOfPair_91 (lv_at hl 1 rfl) ?_
              exact hret y_10 ((fun _ => 0), (fun k => [f_3].getD k (fun _ => 0)), (fun _ => (fun _ => 0)), (fun _ => 0), (fun _ => 0)) dX0_worthOfPair_93 (show y_10 = pX9 f2 f1 x7.toInt x8.toInt x0.toInt x1.toInt from (by have e9 : (x_8.toInt).toNat = (x8.toInt).toNat := (by (first | omega | (unfold zBd at *; omega))); have q9 := hi_13; rw [e9] at q9; exact q9)) (g_psub (wc := (zS_112 cB cC cI cJ a0 a2 a3 x2 x3 y0 x4 x5 a3 f_3 a1 a4 a5 a6 x6 x7 x8 x9 x10 x11 x12 a6 f1 a4 a7 a7 f2)) hP [0, 1, 2, 3, 4, 5] rfl) (hD.sub (ws' := (zS_112 cB cC cI cJ a0 a2 a3 x2 x3 y0 x4 x5 a3 f_3 a1 a4 a5 a6 x6 x7 x8 x9 x10 x11 x12 a6 f1 a4 a7 a7 f2)) [0, 1, 2, 3, 4, 5] (by decide) rfl) hS
            ·
              refine lv_aload_n (pc := 55) hx hb dX0_worthOfPair_55 rfl (lv_at hl 3 rfl) ?_
              refine va_getN (pc := 56) (ci := 1) (v := .ref a4) (C := RX1) (T := TX1) (N := 10) hx hb hts iX1 hown hK hP 2 rfl rfl 0 (by decide) (va_Nw.use rfl (hN _ tn_100)) (fun _ h9 => h9) rfl dX0_worthOfPair_56 ?_
              refine lv_iload (pc := 59) hx hb dX0_worthOfPair_59 (lv_at hl 0 rfl) ?_
              refine lv_aload_n (pc := 61) hx hb dX0_worthOfPair_61 rfl (lv_at hl 2 rfl) ?_
              refine va_get (pc := 62) (ci := 0) (v := .ref a3) (C := RX0) (T := TX0) (N := 7) hx hb hts iX0 hown hK hP 0 rfl rfl 1 (by decide) (hts _ tw_315) (fun _ h9 => h9) rfl dX0_worthOfPair_62 ?_
              refine lv_aload_n (pc := 65) hx hb dX0_worthOfPair_65 rfl (lv_at hl 3 rfl) ?_
              refine va_getN (pc := 66) (ci := 1) (v := .int x7) (C := RX1) (T := TX1) (N := 10) hx hb hts iX1 hown hK hP 2 rfl rfl 4 (by decide) (va_Nw.use rfl (hN _ tn_119)) (fun _ h9 => h9) rfl dX0_worthOfPair_66 ?_
              refine gd_i (pc := 69) (wc := (zS_74 cB cC cI cJ a4 a7 a7 f2 a3 f_3)) hP hD hS hA [4, 5, 1] rfl (by decide +kernel) (fun _ => by rfl) (fun hPc hDc => va_runV (As := [.int x_8, .ref a3, .int x7]) (rest := []) ⟨hx, hb, hml, hown, hts⟩ (k_X8_sentTo_5_w l D cB cC cI cJ _ a4 a3 a7 x_8 x7 f2 f_3 (by first | exact (om_1083 hi_9.1 c_15 h_x8.2) | ((first | omega | (unfold zBd at *; omega)))) h_x7) ⟨gcwB hts tw_834 tw_5 tw_1201 hd_yX8_sentTo ⟨Nat.le_of_ble_eq_true rfl, Nat.le_of_ble_eq_true rfl⟩, hts _ tw_832, hts _ tw_833⟩ ⟨gblind, va_recv hK hPc (ci := 8) (q0 := 0) rfl rfl, (gpreS hPc hK hDc hN).2⟩ rfl rfl hl.1 rfl (lv_room (Nat.le_of_ble_eq_true rfl)) dX0_worthOfPair_69 ⟨Nat.le_of_ble_eq_true rfl, Nat.le_of_ble_eq_true rfl⟩) (fun r_17 u_16 H locs hw_18 hP hD hS => ?_)
              replace hP : va_P D gcl (zS_112 cB cC cI cJ a0 a2 a3 x2 x3 y0 x4 x5 a3 f_3 a1 a4 a5 a6 x6 x7 x8 x9 x10 x11 x12 a6 f1 a4 a7 a7 f2) H := hP
              replace hD : va_D A (zS_112 cB cC cI cJ a0 a2 a3 x2 x3 y0 x4 x5 a3 f_3 a1 a4 a5 a6 x6 x7 x8 x9 x10 x11 x12 a6 f1 a4 a7 a7 f2) := hD
              have hw_19 : (r_17 = sW (tX9 f2 x_8.toInt) f_3 (x7.toInt).toNat) := hw_18
              have rr_17 : zBd r_17.toInt (-2147483648) 2147483647 := n_rng r_17
              refine b_i2l (pc := 72) hx hb rfl dX0_worthOfPair_72 (fun y_20 ey_20 => ?_)
              have ry_20 : zBd r_17.toInt (-2147483648) 2147483647 := n_rng r_17
              refine lv_lstore (pc := 73) (lv' := [(7, .long y_20), (6, .int x_8), (4, .long y_10), (0, .ref a0), (1, .ref a1), (2, .int x0), (3, .int x1)]) hx hb dX0_worthOfPair_73 hl (by decide) rfl (fun ls hl => ?_)
              refine lv_lload (pc := 75) hx hb dX0_worthOfPair_75 (lv_at hl 2 rfl) ?_
              refine lv_lload (pc := 77) hx hb dX0_worthOfPair_77 (lv_at hl 0 rfl) ?_
              refine lv_lload (pc := 79) hx hb dX0_worthOfPair_79 (lv_at hl 0 rfl) ?_
              refine lv_lmul (pc := 81) hx hb dX0_worthOfPair_81 ?_
              refine lv_topl (fun y_21 ey_21 => ?_)
              have ry_21 := n_rngL y_21
              refine lv_ladd (pc := 82) hx hb dX0_worthOfPair_82 ?_
              refine lv_topl (fun y_22 ey_22 => ?_)
              have ry_22 := n_rngL y_22
              refine lv_lstore (pc := 83) (lv' := [(4, .long y_22), (7, .long y_20), (6, .int x_8), (0, .ref a0), (1, .ref a1), (2, .int x0), (3, .int x1)]) hx hb dX0_worthOfPair_83 hl (by decide) rfl (fun ls hl => ?_)
              refine b_iinc (pc := 85) hx hb dX0_worthOfPair_85 hl (k := 2) rfl rfl tI_1 (by first | exact (om_2 hi_9.1) | ((first | omega | (unfold zBd at *; omega)))) (by first | exact (om_38 hi_9.2) | ((first | omega | (unfold zBd at *; omega)))) (by decide) (fun x_23 ex_23 ls hl => ?_)
              replace hl : lv_has ls 9 [(6, .int x_23), (4, .long y_22), (7, .long y_20), (0, .ref a0), (1, .ref a1), (2, .int x0), (3, .int x1)] := hl
              refine lv_goto (pc := 88) (tgt := 46) hx hb dX0_worthOfPair_88 (by decide) ?_
              exact ih_lp_14 x_23 y_22 _ _ ls (by first | exact (om_39 ex_23 hi_9.1 c_15 h_x8.2) | ((first | omega | (unfold zBd at *; omega)))) (by first | exact (om_344 ex_23 c_15) | ((first | omega | (unfold zBd at *; omega)))) (qW_step hi_13 (wo_ev hw_19 hi_5 (by first | exact (om_1177 c_7) | ((first | omega | (unfold zBd at *; omega)))) (by first | exact (om_0 hi_9.1) | ((first | omega | (unfold zBd at *; omega))))) ey_20 ey_21 ey_22 (by first | exact (om_0 hi_9.1) | ((first | omega | (unfold zBd at *; omega)))) (by first | exact (om_5 ex_23) | ((first | omega | (unfold zBd at *; omega))))) (by (first | omega | (unfold zBd at *; omega))) hP hD hS (lv_sub hl [0, 1, 3, 4, 5, 6] rfl)
        exact lp_14 _ 0 0 _ _ ls (n_c tI_0 (by decide)) (by have q := tI_0; (first | omega | (unfold zBd at *; omega))) (rfl) (Nat.lt_succ_self _) hP hD hS (lv_sub hl [0, 1, 2, 3, 4, 5] rfl)
      ·
        refine lv_aload_n (pc := 12) hx hb dX0_worthOfPair_12 rfl (lv_at hl 1 rfl) ?_
        refine va_get (pc := 13) (ci := 0) (v := .ref a3) (C := RX0) (T := TX0) (N := 7) hx hb hts iX0 hown hK hP 0 rfl rfl 1 (by decide) (hts _ tw_315) (fun _ h9 => h9) rfl dX0_worthOfPair_13 ?_
        refine lv_iload (pc := 16) hx hb dX0_worthOfPair_16 (lv_at hl 0 rfl) ?_
        refine lv_aload_n (pc := 18) hx hb dX0_worthOfPair_18 rfl (lv_at hl 2 rfl) ?_
        refine lv_iload_n (pc := 19) hx hb dX0_worthOfPair_19 rfl (lv_at hl 3 rfl) ?_
        refine lv_iload (pc := 20) hx hb dX0_worthOfPair_20 (lv_at hl 0 rfl) ?_
        refine gd_i (pc := 22) (wc := (zS_41 cB cC cI cJ a1 a4 a5 a6 x6 x7 x8 x9 x10 x11 x12 a6 f1)) hP hD hS hA [2, 3] rfl (by decide +kernel) (fun _ => by rfl) (fun hPc hDc => va_runV (As := [.int x0, .int x_1]) (rest := [.int x_1, .ref a3]) ⟨hx, hb, hml, hown, hts⟩ (k_X1_letterOfWord_T l D cB cC cI cJ _ a1 a4 a5 a6 x0 x_1 x6 x7 x8 x9 x10 x11 x12 f1 hp2 (by first | exact (om_360 hi_2.1 c_7 h_x7.2) | ((first | omega | (unfold zBd at *; omega)))) h_x6 h_x7 h_x8 h_x9 h_x10 hf_f1) ⟨gcwB hts tw_1181 tw_4 tw_1200 hd_yX1_letterOfWord ⟨Nat.le_of_ble_eq_true rfl, Nat.le_of_ble_eq_true rfl⟩, hts _ tw_1179, hts _ tw_1180⟩ ⟨gblind, va_recv hK hPc (ci := 1) (q0 := 0) rfl rfl, (gpreS hPc hK hDc hN).2⟩ rfl rfl hl.1 rfl (lv_room (Nat.le_of_ble_eq_true rfl)) dX0_worthOfPair_22 ⟨Nat.le_of_ble_eq_true rfl, Nat.le_of_ble_eq_true rfl⟩) (fun r_25 u_24 H locs hw_26 hP hD hS => ?_)
        replace hP : va_P D gcl (zS_112 cB cC cI cJ a0 a2 a3 x2 x3 y0 x4 x5 a3 f_3 a1 a4 a5 a6 x6 x7 x8 x9 x10 x11 x12 a6 f1 a4 a7 a7 f2) H := hP
        replace hD : va_D A (zS_112 cB cC cI cJ a0 a2 a3 x2 x3 y0 x4 x5 a3 f_3 a1 a4 a5 a6 x6 x7 x8 x9 x10 x11 x12 a6 f1 a4 a7 a7 f2) := hD
        obtain ⟨hw_27, hw_28⟩ := hw_26
        replace hw_27 : ((-7) ≤ r_25.toInt ∧ r_25.toInt ≤ 7) := hw_27
        replace hw_28 : (r_25 = f1 (5 * x0.toInt + x_1.toInt).toNat) := hw_28
        have rr_25 : zBd r_25.toInt (-2147483648) 2147483647 := n_rng r_25
        refine lv_aload_n (pc := 25) hx hb dX0_worthOfPair_25 rfl (lv_at hl 2 rfl) ?_
        refine lv_iload_n (pc := 26) hx hb dX0_worthOfPair_26 rfl (lv_at hl 4 rfl) ?_
        refine lv_iload (pc := 27) hx hb dX0_worthOfPair_27 (lv_at hl 0 rfl) ?_
        refine gd_i (pc := 29) (wc := (zS_41 cB cC cI cJ a1 a4 a5 a6 x6 x7 x8 x9 x10 x11 x12 a6 f1)) hP hD hS hA [2, 3] rfl (by decide +kernel) (fun _ => by rfl) (fun hPc hDc => va_runV (As := [.int x1, .int x_1]) (rest := [.int r_25, .int x_1, .ref a3]) ⟨hx, hb, hml, hown, hts⟩ (k_X1_letterOfWord_T l D cB cC cI cJ _ a1 a4 a5 a6 x1 x_1 x6 x7 x8 x9 x10 x11 x12 f1 hp3 (by first | exact (om_360 hi_2.1 c_7 h_x7.2) | ((first | omega | (unfold zBd at *; omega)))) h_x6 h_x7 h_x8 h_x9 h_x10 hf_f1) ⟨gcwB hts tw_1181 tw_4 tw_1200 hd_yX1_letterOfWord ⟨Nat.le_of_ble_eq_true rfl, Nat.le_of_ble_eq_true rfl⟩, hts _ tw_1179, hts _ tw_1180⟩ ⟨gblind, va_recv hK hPc (ci := 1) (q0 := 0) rfl rfl, (gpreS hPc hK hDc hN).2⟩ rfl rfl hl.1 rfl (lv_room (Nat.le_of_ble_eq_true rfl)) dX0_worthOfPair_29 ⟨Nat.le_of_ble_eq_true rfl, Nat.le_of_ble_eq_true rfl⟩) (fun r_30 u_29 H locs hw_31 hP hD hS => ?_)
        replace hP : va_P D gcl (zS_112 cB cC cI cJ a0 a2 a3 x2 x3 y0 x4 x5 a3 f_3 a1 a4 a5 a6 x6 x7 x8 x9 x10 x11 x12 a6 f1 a4 a7 a7 f2) H := hP
        replace hD : va_D A (zS_112 cB cC cI cJ a0 a2 a3 x2 x3 y0 x4 x5 a3 f_3 a1 a4 a5 a6 x6 x7 x8 x9 x10 x11 x12 a6 f1 a4 a7 a7 f2) := hD
        obtain ⟨hw_32, hw_33⟩ := hw_31
        replace hw_32 : ((-7) ≤ r_30.toInt ∧ r_30.toInt ≤ 7) := hw_32
        replace hw_33 : (r_30 = f1 (5 * x1.toInt + x_1.toInt).toNat) := hw_33
        have rr_30 : zBd r_30.toInt (-2147483648) 2147483647 := n_rng r_30
        refine lv_isub (pc := 32) hx hb dX0_worthOfPair_32 ?_
        refine lv_topi (fun x_34 ex_34 => ?_)
        have rx_34 : zBd x_34.toInt (-2147483648) 2147483647 := n_rng x_34
        refine e_iastore (pc := 33) hx hb hK hP hD hS 1 2 rfl rfl (n_in rfl (by first | exact (om_0 hi_2.1) | ((first | omega | (unfold zBd at *; omega)))) (by first | exact (om_1020 c_7 h_x7.2) | ((first | omega | (unfold zBd at *; omega))))) dX0_worthOfPair_33 (fun f_35 ef_35 H locs hP hD hS => ?_)
        replace hP : va_P D gcl (zS_112 cB cC cI cJ a0 a2 a3 x2 x3 y0 x4 x5 a3 f_35 a1 a4 a5 a6 x6 x7 x8 x9 x10 x11 x12 a6 f1 a4 a7 a7 f2) H := hP
        replace hD : va_D A (zS_112 cB cC cI cJ a0 a2 a3 x2 x3 y0 x4 x5 a3 f_35 a1 a4 a5 a6 x6 x7 x8 x9 x10 x11 x12 a6 f1 a4 a7 a7 f2) := hD
        refine b_iinc (pc := 34) hx hb dX0_worthOfPair_34 hl (k := 0) rfl rfl tI_1 (by first | exact (om_2 hi_2.1) | ((first | omega | (unfold zBd at *; omega)))) (by first | exact (om_357 hi_2.2) | ((first | omega | (unfold zBd at *; omega)))) (by decide) (fun x_36 ex_36 ls hl => ?_)
        replace hl : lv_has ls 9 [(4, .int x_36), (0, .ref a0), (1, .ref a1), (2, .int x0), (3, .int x1)] := hl
        refine lv_goto (pc := 37) (tgt := 3) hx hb dX0_worthOfPair_37 (by decide) ?_
        exact ih_lp_6 x_36 f_35 _ _ ls (by first | exact (om_1026 ex_36 hi_2.1 c_7 h_x7.2) | ((first | omega | (unfold zBd at *; omega)))) (by first | exact (om_344 ex_36 c_7) | ((first | omega | (unfold zBd at *; omega)))) (df_step hi_5 hw_28 rfl hw_33 rfl ex_34 ef_35 (by (first | omega | (unfold zBd at *; omega))) (by first | exact (om_0 hi_2.1) | ((first | omega | (unfold zBd at *; omega)))) (by first | exact (om_5 ex_36) | ((first | omega | (unfold zBd at *; omega))))) (by (first | omega | (unfold zBd at *; omega))) hP hD hS (lv_sub hl [0, 1, 2, 3, 4] rfl)
  exact lp_6 _ 0 f0 _ _ ls (n_c tI_0 (by decide)) (by have q := tI_0; (first | omega | (unfold zBd at *; omega))) (df_0 (by first | exact (om_43 tI_0) | (have q := tI_0; (first | omega | (unfold zBd at *; omega))))) (Nat.lt_succ_self _) hP hD hS (lv_sub hl [0, 1, 2, 3, 4] rfl)
