set_option maxHeartbeats 4000000 in
set_option maxRecDepth 100000 in
theorem k_X9_hasRoom (l : Launch) (D : va_G) (cB cC cI cJ : ClassId) (sz : Nat) (a0 a1 : Nat) (x0 x1 : Int32) (hp1 : (0 ≤ x0.toInt ∧ x0.toInt ≤ 100)) (h_x1 : zBd x1.toInt 0 1600) : Met l yX9_hasRoom (.code yX9_hasRoom cX9_hasRoom 2 (some .boolean) :: lw_gd) ({ frames := 0, cells := 0, slots := 0, locals := 0 }) (gPre D [(cB, .byte), (cC, .char), (cI, .int), (cJ, .long)] [.ref a0, .int x0] [(a0, .inr (9, [.ref a1, .int x1]))] sz) (va_Qi (fun r u => ((r.toInt = 0 ∧ (x1.toInt) + (x0.toInt) > 1600) ∨ (r.toInt = 1 ∧ (x1.toInt) + (x0.toInt) ≤ 1600))) (gB D (va_A [(a0, .inr (9, [.ref a1, .int x1]))] sz) (fun u : gEx => [(a0, .inr (9, [.ref a1, .int x1]))])) (va_A [(a0, .inr (9, [.ref a1, .int x1]))] sz)) 0 0 (va_A [(a0, .inr (9, [.ref a1, .int x1]))] sz) := by
  refine gOf_z (by decide +kernel) (Nat.le_of_ble_eq_true rfl) ?_
  intro p e s m args below meth c ls A Q hx hb hts hown hml hN hK hP hD hA hl hret
  replace hown : s.vm.findClass RX9 = some m.cls := hown
  have hS : va_S A s.heap s.heap [] := va_S.rf
  replace hP : va_P D gcl [(a0, .inr (9, [.ref a1, .int x1]))] s.heap := hP
  replace hl : lv_has ls 2 [(0, .ref a0), (1, .int x0)] := hl
  refine lv_aload_n (pc := 0) hx hb dX9_hasRoom_0 rfl (lv_at hl 0 rfl) ?_
  refine va_get (pc := 1) (ci := 9) (v := .int x1) (C := RX9) (T := TX9) (N := 2) hx hb hts iX9 hown hK hP 0 rfl rfl 1 (by decide) (hts _ tw_43) (fun _ h9 => h9) rfl dX9_hasRoom_1 ?_
  have bd_h_x1 : 0 ≤ x1.toInt ∧ x1.toInt ≤ 1600 := h_x1
  refine lv_iload_n (pc := 4) hx hb dX9_hasRoom_4 rfl (lv_at hl 1 rfl) ?_
  refine b_iadd (pc := 5) hx hb rfl rfl (by (first | omega | (unfold zBd at *; omega))) (by (first | omega | (unfold zBd at *; omega))) dX9_hasRoom_5 (fun x_1 ex_1 => ?_)
  refine lv_sipush (pc := 6) (v := 1600) hx hb dX9_hasRoom_6 (by decide) ?_
  refine b_icmp_gt (pc := 9) (tgt := 16) hx hb rfl tI_1600  dX9_hasRoom_9 (by decide) (fun c_2 => ?_) (fun c_2 => ?_)
  ·
    refine lv_iconst (pc := 16) (v := 0) hx hb dX9_hasRoom_16 (by decide) ?_
    exact hret 0 ((fun _ => 0), (fun _ => (fun _ => 0)), (fun _ => (fun _ => 0)), (fun _ => 0), (fun _ => 0)) dX9_hasRoom_17 ⟨(by have k9 := tI_0; (first | omega | (unfold zBd at *; omega))), (show (((0 : Int32).toInt = 0 ∧ (x1.toInt) + (x0.toInt) > 1600) ∨ ((0 : Int32).toInt = 1 ∧ (x1.toInt) + (x0.toInt) ≤ 1600)) by have k9 := tI_0; (first | omega | (unfold zBd at *; omega)))⟩ (g_psub (wc := [(a0, .inr (9, [.ref a1, .int x1]))]) hP [0] rfl) (hD.sub (ws' := [(a0, .inr (9, [.ref a1, .int x1]))]) [0] (by decide) rfl) hS
  ·
    refine lv_iconst (pc := 12) (v := 1) hx hb dX9_hasRoom_12 (by decide) ?_
    refine lv_goto (pc := 13) (tgt := 17) hx hb dX9_hasRoom_13 (by decide) ?_
    exact hret 1 ((fun _ => 0), (fun _ => (fun _ => 0)), (fun _ => (fun _ => 0)), (fun _ => 0), (fun _ => 0)) dX9_hasRoom_17 ⟨(by have k9 := tI_1; (first | omega | (unfold zBd at *; omega))), (show (((1 : Int32).toInt = 0 ∧ (x1.toInt) + (x0.toInt) > 1600) ∨ ((1 : Int32).toInt = 1 ∧ (x1.toInt) + (x0.toInt) ≤ 1600)) by have k9 := tI_1; (first | omega | (unfold zBd at *; omega)))⟩ (g_psub (wc := [(a0, .inr (9, [.ref a1, .int x1]))]) hP [0] rfl) (hD.sub (ws' := [(a0, .inr (9, [.ref a1, .int x1]))]) [0] (by decide) rfl) hS
set_option maxHeartbeats 4000000 in
set_option maxRecDepth 100000 in
theorem k_X9_addNumber (l : Launch) (D : va_G) (cB cC cI cJ : ClassId) (sz : Nat) (a0 a1 : Nat) (x0 x1 : Int32) (f0 : Nat → Int32) (h_x1 : zBd x1.toInt 0 1600) : Met l yX9_addNumber (.code yX9_addNumber cX9_addNumber 3 none :: lw_gd) ({ frames := 0, cells := 0, slots := 0, locals := 0 }) (gPre D [(cB, .byte), (cC, .char), (cI, .int), (cJ, .long)] [.ref a0, .int x0] [(a0, .inr (9, [.ref a1, .int x1])), (a1, .inl (cB, 1600, .inl f0))] sz) (va_Qv (fun u => ((24 ≥ 0 ∧ x1.toInt ≥ 1600 ∧ (u.2.2.2.1 0).toInt = x1.toInt) ∨ (24 ≥ 0 ∧ x1.toInt < 1600 ∧ 16 ≥ 0 ∧ (x1.toInt) + (1) ≥ 1600 ∧ (u.2.2.2.1 0).toInt = (x1.toInt) + (1)) ∨ (24 ≥ 0 ∧ x1.toInt < 1600 ∧ 16 ≥ 0 ∧ (x1.toInt) + (1) < 1600 ∧ 8 ≥ 0 ∧ ((x1.toInt) + (1)) + (1) ≥ 1600 ∧ (u.2.2.2.1 0).toInt = ((x1.toInt) + (1)) + (1)) ∨ (24 ≥ 0 ∧ x1.toInt < 1600 ∧ 16 ≥ 0 ∧ (x1.toInt) + (1) < 1600 ∧ 8 ≥ 0 ∧ ((x1.toInt) + (1)) + (1) < 1600 ∧ 0 ≥ 0 ∧ (((x1.toInt) + (1)) + (1)) + (1) ≥ 1600 ∧ (u.2.2.2.1 0).toInt = (((x1.toInt) + (1)) + (1)) + (1)) ∨ (24 ≥ 0 ∧ x1.toInt < 1600 ∧ 16 ≥ 0 ∧ (x1.toInt) + (1) < 1600 ∧ 8 ≥ 0 ∧ ((x1.toInt) + (1)) + (1) < 1600 ∧ 0 ≥ 0 ∧ (((x1.toInt) + (1)) + (1)) + (1) < 1600 ∧ (-8) < 0 ∧ (u.2.2.2.1 0).toInt = ((((x1.toInt) + (1)) + (1)) + (1)) + (1))) ∧ (0 ≤ (u.2.2.2.1 0).toInt ∧ (u.2.2.2.1 0).toInt ≤ 1600)) (gB D (va_A [(a0, .inr (9, [.ref a1, .int x1])), (a1, .inl (cB, 1600, .inl f0))] sz) (fun u : gEx => [(a0, .inr (9, [.ref a1, .int (u.2.2.2.1 0)])), (a1, .inl (cB, 1600, .inl (u.2.1 0)))])) (va_A [(a0, .inr (9, [.ref a1, .int x1])), (a1, .inl (cB, 1600, .inl f0))] sz)) 0 0 (va_A [(a0, .inr (9, [.ref a1, .int x1])), (a1, .inl (cB, 1600, .inl f0))] sz) := by
  refine gOf_v (by decide +kernel) (Nat.le_of_ble_eq_true rfl) ?_
  intro p e s m args below meth c ls A Q hx hb hts hown hml hN hK hP hD hA hl hret
  replace hown : s.vm.findClass RX9 = some m.cls := hown
  have hS : va_S A s.heap s.heap [] := va_S.rf
  replace hP : va_P D gcl [(a0, .inr (9, [.ref a1, .int x1])), (a1, .inl (cB, 1600, .inl f0))] s.heap := hP
  replace hl : lv_has ls 3 [(0, .ref a0), (1, .int x0)] := hl
  have rx0 : zBd x0.toInt (-2147483648) 2147483647 := n_rng x0
  refine lv_bipush (pc := 0) (v := 24) hx hb dX9_addNumber_0 (by decide) ?_
  refine lv_istore_n (pc := 2) (lv' := [(2, .int 24), (0, .ref a0), (1, .int x0)]) hx hb dX9_addNumber_2 rfl hl (by decide) rfl (fun ls hl => ?_)
  refine lv_iload_n (pc := 3) hx hb dX9_addNumber_3 rfl (lv_at hl 0 rfl) ?_
  refine b_if_lt (pc := 4) (tgt := 46) hx hb tI_24  dX9_addNumber_4 (by decide) (fun c_1 => absurd c_1 (by (first | omega | (unfold zBd at *; omega)))) (fun c_1 => ?_)
  refine lv_aload_n (pc := 7) hx hb dX9_addNumber_7 rfl (lv_at hl 1 rfl) ?_
  refine va_get (pc := 8) (ci := 9) (v := .int x1) (C := RX9) (T := TX9) (N := 2) hx hb hts iX9 hown hK hP 0 rfl rfl 1 (by decide) (hts _ tw_43) (fun _ h9 => h9) rfl dX9_addNumber_8 ?_
  have bd_h_x1 : 0 ≤ x1.toInt ∧ x1.toInt ≤ 1600 := h_x1
  refine lv_sipush (pc := 11) (v := 1600) hx hb dX9_addNumber_11 (by decide) ?_
  refine b_icmp_ge (pc := 14) (tgt := 46) hx hb rfl tI_1600  dX9_addNumber_14 (by decide) (fun c_2 => ?_) (fun c_2 => ?_)
  ·
    exact hret ((fun _ => 0), (fun k => [f0].getD k (fun _ => 0)), (fun _ => (fun _ => 0)), (fun k => [x1].getD k 0), (fun _ => 0)) dX9_addNumber_46 ⟨(show ((24 ≥ 0 ∧ x1.toInt ≥ 1600 ∧ (x1 : Int32).toInt = x1.toInt) ∨ (24 ≥ 0 ∧ x1.toInt < 1600 ∧ 16 ≥ 0 ∧ (x1.toInt) + (1) ≥ 1600 ∧ (x1 : Int32).toInt = (x1.toInt) + (1)) ∨ (24 ≥ 0 ∧ x1.toInt < 1600 ∧ 16 ≥ 0 ∧ (x1.toInt) + (1) < 1600 ∧ 8 ≥ 0 ∧ ((x1.toInt) + (1)) + (1) ≥ 1600 ∧ (x1 : Int32).toInt = ((x1.toInt) + (1)) + (1)) ∨ (24 ≥ 0 ∧ x1.toInt < 1600 ∧ 16 ≥ 0 ∧ (x1.toInt) + (1) < 1600 ∧ 8 ≥ 0 ∧ ((x1.toInt) + (1)) + (1) < 1600 ∧ 0 ≥ 0 ∧ (((x1.toInt) + (1)) + (1)) + (1) ≥ 1600 ∧ (x1 : Int32).toInt = (((x1.toInt) + (1)) + (1)) + (1)) ∨ (24 ≥ 0 ∧ x1.toInt < 1600 ∧ 16 ≥ 0 ∧ (x1.toInt) + (1) < 1600 ∧ 8 ≥ 0 ∧ ((x1.toInt) + (1)) + (1) < 1600 ∧ 0 ≥ 0 ∧ (((x1.toInt) + (1)) + (1)) + (1) < 1600 ∧ (-8) < 0 ∧ (x1 : Int32).toInt = ((((x1.toInt) + (1)) + (1)) + (1)) + (1))) by (first | omega | (unfold zBd at *; omega))), (show (0 ≤ (x1 : Int32).toInt ∧ (x1 : Int32).toInt ≤ 1600) from h_x1)⟩ (g_psub (wc := [(a0, .inr (9, [.ref a1, .int x1])), (a1, .inl (cB, 1600, .inl f0))]) hP [0, 1] rfl) (hD.sub (ws' := [(a0, .inr (9, [.ref a1, .int x1])), (a1, .inl (cB, 1600, .inl f0))]) [0, 1] (by decide) rfl) hS
  ·
    refine lv_aload_n (pc := 17) hx hb dX9_addNumber_17 rfl (lv_at hl 1 rfl) ?_
    refine va_get (pc := 18) (ci := 9) (v := .ref a1) (C := RX9) (T := TX9) (N := 2) hx hb hts iX9 hown hK hP 0 rfl rfl 0 (by decide) (hts _ tw_42) (fun _ h9 => h9) rfl dX9_addNumber_18 ?_
    refine lv_aload_n (pc := 21) hx hb dX9_addNumber_21 rfl (lv_at hl 1 rfl) ?_
    refine va_get (pc := 22) (ci := 9) (v := .int x1) (C := RX9) (T := TX9) (N := 2) hx hb hts iX9 hown hK hP 0 rfl rfl 1 (by decide) (hts _ tw_43) (fun _ h9 => h9) rfl dX9_addNumber_22 ?_
    refine lv_iload_n (pc := 25) hx hb dX9_addNumber_25 rfl (lv_at hl 2 rfl) ?_
    refine lv_iload_n (pc := 26) hx hb dX9_addNumber_26 rfl (lv_at hl 0 rfl) ?_
    refine lv_ishr (pc := 27) hx hb dX9_addNumber_27 ?_
    refine lv_topi (fun x_3 _ => ?_)
    have rx_3 : zBd x_3.toInt (-2147483648) 2147483647 := n_rng x_3
    refine lv_i2b (pc := 28) hx hb dX9_addNumber_28 rfl ?_
    refine lv_topi (fun x_4 _ => ?_)
    have rx_4 : zBd x_4.toInt (-2147483648) 2147483647 := n_rng x_4
    refine g_bastore (pc := 29) hx hb hK hP hD hS 1 0 rfl rfl (n_in rfl (by (first | omega | (unfold zBd at *; omega))) (by (first | omega | (unfold zBd at *; omega)))) dX9_addNumber_29 (fun f_5 H locs hP hD hS => ?_)
    replace hP : va_P D gcl [(a0, .inr (9, [.ref a1, .int x1])), (a1, .inl (cB, 1600, .inl f_5))] H := hP
    replace hD : va_D A [(a0, .inr (9, [.ref a1, .int x1])), (a1, .inl (cB, 1600, .inl f_5))] := hD
    refine lv_aload_n (pc := 30) hx hb dX9_addNumber_30 rfl (lv_at hl 1 rfl) ?_
    refine lv_dup (pc := 31) hx hb dX9_addNumber_31 rfl ?_
    refine va_get (pc := 32) (ci := 9) (v := .int x1) (C := RX9) (T := TX9) (N := 2) hx hb hts iX9 hown hK hP 0 rfl rfl 1 (by decide) (hts _ tw_43) (fun _ h9 => h9) rfl dX9_addNumber_32 ?_
    refine lv_iconst (pc := 35) (v := 1) hx hb dX9_addNumber_35 (by decide) ?_
    refine b_iadd (pc := 36) hx hb rfl tI_1 (by (first | omega | (unfold zBd at *; omega))) (by (first | omega | (unfold zBd at *; omega))) dX9_addNumber_36 (fun x_6 ex_6 => ?_)
    refine va_put (pc := 37) (ci := 9) (v := .int x_6) (ty := .int) (C := RX9) (T := TX9) (N := 2) hx hb hts iX9 tyX9 tyX9_ok nmX9 hown hK hP hD hS 0 rfl rfl 1 (by decide) (hts _ tw_43) (fun _ h9 => h9) rfl (by decide +kernel) rfl rfl (Nat.le_of_ble_eq_true rfl) dX9_addNumber_37 (fun H locs hP hD hS => ?_)
    replace hP : va_P D gcl [(a0, .inr (9, [.ref a1, .int x_6])), (a1, .inl (cB, 1600, .inl f_5))] H := hP
    replace hD : va_D A [(a0, .inr (9, [.ref a1, .int x_6])), (a1, .inl (cB, 1600, .inl f_5))] := hD
    refine lv_iinc (pc := 40) (v := 16) (lv' := [(2, .int 16), (0, .ref a0), (1, .int x0)]) hx hb dX9_addNumber_40 hl (k := 0) rfl (by decide +kernel) (by decide) rfl (fun ls hl => ?_)
    refine lv_goto (pc := 43) (tgt := 3) hx hb dX9_addNumber_43 (by decide) ?_
    refine lv_iload_n (pc := 3) hx hb dX9_addNumber_3 rfl (lv_at hl 0 rfl) ?_
    refine b_if_lt (pc := 4) (tgt := 46) hx hb tI_16  dX9_addNumber_4 (by decide) (fun c_7 => absurd c_7 (by (first | omega | (unfold zBd at *; omega)))) (fun c_7 => ?_)
    refine lv_aload_n (pc := 7) hx hb dX9_addNumber_7 rfl (lv_at hl 1 rfl) ?_
    refine va_get (pc := 8) (ci := 9) (v := .int x_6) (C := RX9) (T := TX9) (N := 2) hx hb hts iX9 hown hK hP 0 rfl rfl 1 (by decide) (hts _ tw_43) (fun _ h9 => h9) rfl dX9_addNumber_8 ?_
    refine lv_sipush (pc := 11) (v := 1600) hx hb dX9_addNumber_11 (by decide) ?_
    refine b_icmp_ge (pc := 14) (tgt := 46) hx hb rfl tI_1600  dX9_addNumber_14 (by decide) (fun c_8 => ?_) (fun c_8 => ?_)
    ·
      exact hret ((fun _ => 0), (fun k => [f_5].getD k (fun _ => 0)), (fun _ => (fun _ => 0)), (fun k => [x_6].getD k 0), (fun _ => 0)) dX9_addNumber_46 ⟨(show ((24 ≥ 0 ∧ x1.toInt ≥ 1600 ∧ (x_6 : Int32).toInt = x1.toInt) ∨ (24 ≥ 0 ∧ x1.toInt < 1600 ∧ 16 ≥ 0 ∧ (x1.toInt) + (1) ≥ 1600 ∧ (x_6 : Int32).toInt = (x1.toInt) + (1)) ∨ (24 ≥ 0 ∧ x1.toInt < 1600 ∧ 16 ≥ 0 ∧ (x1.toInt) + (1) < 1600 ∧ 8 ≥ 0 ∧ ((x1.toInt) + (1)) + (1) ≥ 1600 ∧ (x_6 : Int32).toInt = ((x1.toInt) + (1)) + (1)) ∨ (24 ≥ 0 ∧ x1.toInt < 1600 ∧ 16 ≥ 0 ∧ (x1.toInt) + (1) < 1600 ∧ 8 ≥ 0 ∧ ((x1.toInt) + (1)) + (1) < 1600 ∧ 0 ≥ 0 ∧ (((x1.toInt) + (1)) + (1)) + (1) ≥ 1600 ∧ (x_6 : Int32).toInt = (((x1.toInt) + (1)) + (1)) + (1)) ∨ (24 ≥ 0 ∧ x1.toInt < 1600 ∧ 16 ≥ 0 ∧ (x1.toInt) + (1) < 1600 ∧ 8 ≥ 0 ∧ ((x1.toInt) + (1)) + (1) < 1600 ∧ 0 ≥ 0 ∧ (((x1.toInt) + (1)) + (1)) + (1) < 1600 ∧ (-8) < 0 ∧ (x_6 : Int32).toInt = ((((x1.toInt) + (1)) + (1)) + (1)) + (1))) by (first | omega | (unfold zBd at *; omega))), (show (0 ≤ (x_6 : Int32).toInt ∧ (x_6 : Int32).toInt ≤ 1600) by (first | omega | (unfold zBd at *; omega)))⟩ (g_psub (wc := [(a0, .inr (9, [.ref a1, .int x_6])), (a1, .inl (cB, 1600, .inl f_5))]) hP [0, 1] rfl) (hD.sub (ws' := [(a0, .inr (9, [.ref a1, .int x_6])), (a1, .inl (cB, 1600, .inl f_5))]) [0, 1] (by decide) rfl) hS
    ·
      refine lv_aload_n (pc := 17) hx hb dX9_addNumber_17 rfl (lv_at hl 1 rfl) ?_
      refine va_get (pc := 18) (ci := 9) (v := .ref a1) (C := RX9) (T := TX9) (N := 2) hx hb hts iX9 hown hK hP 0 rfl rfl 0 (by decide) (hts _ tw_42) (fun _ h9 => h9) rfl dX9_addNumber_18 ?_
      refine lv_aload_n (pc := 21) hx hb dX9_addNumber_21 rfl (lv_at hl 1 rfl) ?_
      refine va_get (pc := 22) (ci := 9) (v := .int x_6) (C := RX9) (T := TX9) (N := 2) hx hb hts iX9 hown hK hP 0 rfl rfl 1 (by decide) (hts _ tw_43) (fun _ h9 => h9) rfl dX9_addNumber_22 ?_
      refine lv_iload_n (pc := 25) hx hb dX9_addNumber_25 rfl (lv_at hl 2 rfl) ?_
      refine lv_iload_n (pc := 26) hx hb dX9_addNumber_26 rfl (lv_at hl 0 rfl) ?_
      refine lv_ishr (pc := 27) hx hb dX9_addNumber_27 ?_
      refine lv_topi (fun x_9 _ => ?_)
      have rx_9 : zBd x_9.toInt (-2147483648) 2147483647 := n_rng x_9
      refine lv_i2b (pc := 28) hx hb dX9_addNumber_28 rfl ?_
      refine lv_topi (fun x_10 _ => ?_)
      have rx_10 : zBd x_10.toInt (-2147483648) 2147483647 := n_rng x_10
      refine g_bastore (pc := 29) hx hb hK hP hD hS 1 0 rfl rfl (n_in rfl (by (first | omega | (unfold zBd at *; omega))) (by (first | omega | (unfold zBd at *; omega)))) dX9_addNumber_29 (fun f_11 H locs hP hD hS => ?_)
      replace hP : va_P D gcl [(a0, .inr (9, [.ref a1, .int x_6])), (a1, .inl (cB, 1600, .inl f_11))] H := hP
      replace hD : va_D A [(a0, .inr (9, [.ref a1, .int x_6])), (a1, .inl (cB, 1600, .inl f_11))] := hD
      refine lv_aload_n (pc := 30) hx hb dX9_addNumber_30 rfl (lv_at hl 1 rfl) ?_
      refine lv_dup (pc := 31) hx hb dX9_addNumber_31 rfl ?_
      refine va_get (pc := 32) (ci := 9) (v := .int x_6) (C := RX9) (T := TX9) (N := 2) hx hb hts iX9 hown hK hP 0 rfl rfl 1 (by decide) (hts _ tw_43) (fun _ h9 => h9) rfl dX9_addNumber_32 ?_
      refine lv_iconst (pc := 35) (v := 1) hx hb dX9_addNumber_35 (by decide) ?_
      refine b_iadd (pc := 36) hx hb rfl tI_1 (by (first | omega | (unfold zBd at *; omega))) (by (first | omega | (unfold zBd at *; omega))) dX9_addNumber_36 (fun x_12 ex_12 => ?_)
      refine va_put (pc := 37) (ci := 9) (v := .int x_12) (ty := .int) (C := RX9) (T := TX9) (N := 2) hx hb hts iX9 tyX9 tyX9_ok nmX9 hown hK hP hD hS 0 rfl rfl 1 (by decide) (hts _ tw_43) (fun _ h9 => h9) rfl (by decide +kernel) rfl rfl (Nat.le_of_ble_eq_true rfl) dX9_addNumber_37 (fun H locs hP hD hS => ?_)
      replace hP : va_P D gcl [(a0, .inr (9, [.ref a1, .int x_12])), (a1, .inl (cB, 1600, .inl f_11))] H := hP
      replace hD : va_D A [(a0, .inr (9, [.ref a1, .int x_12])), (a1, .inl (cB, 1600, .inl f_11))] := hD
      refine lv_iinc (pc := 40) (v := 8) (lv' := [(2, .int 8), (0, .ref a0), (1, .int x0)]) hx hb dX9_addNumber_40 hl (k := 0) rfl (by decide +kernel) (by decide) rfl (fun ls hl => ?_)
      refine lv_goto (pc := 43) (tgt := 3) hx hb dX9_addNumber_43 (by decide) ?_
      refine lv_iload_n (pc := 3) hx hb dX9_addNumber_3 rfl (lv_at hl 0 rfl) ?_
      refine b_if_lt (pc := 4) (tgt := 46) hx hb tI_8  dX9_addNumber_4 (by decide) (fun c_13 => absurd c_13 (by (first | omega | (unfold zBd at *; omega)))) (fun c_13 => ?_)
      refine lv_aload_n (pc := 7) hx hb dX9_addNumber_7 rfl (lv_at hl 1 rfl) ?_
      refine va_get (pc := 8) (ci := 9) (v := .int x_12) (C := RX9) (T := TX9) (N := 2) hx hb hts iX9 hown hK hP 0 rfl rfl 1 (by decide) (hts _ tw_43) (fun _ h9 => h9) rfl dX9_addNumber_8 ?_
      refine lv_sipush (pc := 11) (v := 1600) hx hb dX9_addNumber_11 (by decide) ?_
      refine b_icmp_ge (pc := 14) (tgt := 46) hx hb rfl tI_1600  dX9_addNumber_14 (by decide) (fun c_14 => ?_) (fun c_14 => ?_)
      ·
        exact hret ((fun _ => 0), (fun k => [f_11].getD k (fun _ => 0)), (fun _ => (fun _ => 0)), (fun k => [x_12].getD k 0), (fun _ => 0)) dX9_addNumber_46 ⟨(show ((24 ≥ 0 ∧ x1.toInt ≥ 1600 ∧ (x_12 : Int32).toInt = x1.toInt) ∨ (24 ≥ 0 ∧ x1.toInt < 1600 ∧ 16 ≥ 0 ∧ (x1.toInt) + (1) ≥ 1600 ∧ (x_12 : Int32).toInt = (x1.toInt) + (1)) ∨ (24 ≥ 0 ∧ x1.toInt < 1600 ∧ 16 ≥ 0 ∧ (x1.toInt) + (1) < 1600 ∧ 8 ≥ 0 ∧ ((x1.toInt) + (1)) + (1) ≥ 1600 ∧ (x_12 : Int32).toInt = ((x1.toInt) + (1)) + (1)) ∨ (24 ≥ 0 ∧ x1.toInt < 1600 ∧ 16 ≥ 0 ∧ (x1.toInt) + (1) < 1600 ∧ 8 ≥ 0 ∧ ((x1.toInt) + (1)) + (1) < 1600 ∧ 0 ≥ 0 ∧ (((x1.toInt) + (1)) + (1)) + (1) ≥ 1600 ∧ (x_12 : Int32).toInt = (((x1.toInt) + (1)) + (1)) + (1)) ∨ (24 ≥ 0 ∧ x1.toInt < 1600 ∧ 16 ≥ 0 ∧ (x1.toInt) + (1) < 1600 ∧ 8 ≥ 0 ∧ ((x1.toInt) + (1)) + (1) < 1600 ∧ 0 ≥ 0 ∧ (((x1.toInt) + (1)) + (1)) + (1) < 1600 ∧ (-8) < 0 ∧ (x_12 : Int32).toInt = ((((x1.toInt) + (1)) + (1)) + (1)) + (1))) by (first | omega | (unfold zBd at *; omega))), (show (0 ≤ (x_12 : Int32).toInt ∧ (x_12 : Int32).toInt ≤ 1600) by (first | omega | (unfold zBd at *; omega)))⟩ (g_psub (wc := [(a0, .inr (9, [.ref a1, .int x_12])), (a1, .inl (cB, 1600, .inl f_11))]) hP [0, 1] rfl) (hD.sub (ws' := [(a0, .inr (9, [.ref a1, .int x_12])), (a1, .inl (cB, 1600, .inl f_11))]) [0, 1] (by decide) rfl) hS
      ·
        refine lv_aload_n (pc := 17) hx hb dX9_addNumber_17 rfl (lv_at hl 1 rfl) ?_
        refine va_get (pc := 18) (ci := 9) (v := .ref a1) (C := RX9) (T := TX9) (N := 2) hx hb hts iX9 hown hK hP 0 rfl rfl 0 (by decide) (hts _ tw_42) (fun _ h9 => h9) rfl dX9_addNumber_18 ?_
        refine lv_aload_n (pc := 21) hx hb dX9_addNumber_21 rfl (lv_at hl 1 rfl) ?_
        refine va_get (pc := 22) (ci := 9) (v := .int x_12) (C := RX9) (T := TX9) (N := 2) hx hb hts iX9 hown hK hP 0 rfl rfl 1 (by decide) (hts _ tw_43) (fun _ h9 => h9) rfl dX9_addNumber_22 ?_
        refine lv_iload_n (pc := 25) hx hb dX9_addNumber_25 rfl (lv_at hl 2 rfl) ?_
        refine lv_iload_n (pc := 26) hx hb dX9_addNumber_26 rfl (lv_at hl 0 rfl) ?_
        refine lv_ishr (pc := 27) hx hb dX9_addNumber_27 ?_
        refine lv_topi (fun x_15 _ => ?_)
        have rx_15 : zBd x_15.toInt (-2147483648) 2147483647 := n_rng x_15
        refine lv_i2b (pc := 28) hx hb dX9_addNumber_28 rfl ?_
        refine lv_topi (fun x_16 _ => ?_)
        have rx_16 : zBd x_16.toInt (-2147483648) 2147483647 := n_rng x_16
        refine g_bastore (pc := 29) hx hb hK hP hD hS 1 0 rfl rfl (n_in rfl (by (first | omega | (unfold zBd at *; omega))) (by (first | omega | (unfold zBd at *; omega)))) dX9_addNumber_29 (fun f_17 H locs hP hD hS => ?_)
        replace hP : va_P D gcl [(a0, .inr (9, [.ref a1, .int x_12])), (a1, .inl (cB, 1600, .inl f_17))] H := hP
        replace hD : va_D A [(a0, .inr (9, [.ref a1, .int x_12])), (a1, .inl (cB, 1600, .inl f_17))] := hD
        refine lv_aload_n (pc := 30) hx hb dX9_addNumber_30 rfl (lv_at hl 1 rfl) ?_
        refine lv_dup (pc := 31) hx hb dX9_addNumber_31 rfl ?_
        refine va_get (pc := 32) (ci := 9) (v := .int x_12) (C := RX9) (T := TX9) (N := 2) hx hb hts iX9 hown hK hP 0 rfl rfl 1 (by decide) (hts _ tw_43) (fun _ h9 => h9) rfl dX9_addNumber_32 ?_
        refine lv_iconst (pc := 35) (v := 1) hx hb dX9_addNumber_35 (by decide) ?_
        refine b_iadd (pc := 36) hx hb rfl tI_1 (by (first | omega | (unfold zBd at *; omega))) (by (first | omega | (unfold zBd at *; omega))) dX9_addNumber_36 (fun x_18 ex_18 => ?_)
        refine va_put (pc := 37) (ci := 9) (v := .int x_18) (ty := .int) (C := RX9) (T := TX9) (N := 2) hx hb hts iX9 tyX9 tyX9_ok nmX9 hown hK hP hD hS 0 rfl rfl 1 (by decide) (hts _ tw_43) (fun _ h9 => h9) rfl (by decide +kernel) rfl rfl (Nat.le_of_ble_eq_true rfl) dX9_addNumber_37 (fun H locs hP hD hS => ?_)
        replace hP : va_P D gcl [(a0, .inr (9, [.ref a1, .int x_18])), (a1, .inl (cB, 1600, .inl f_17))] H := hP
        replace hD : va_D A [(a0, .inr (9, [.ref a1, .int x_18])), (a1, .inl (cB, 1600, .inl f_17))] := hD
        refine lv_iinc (pc := 40) (v := 0) (lv' := [(2, .int 0), (0, .ref a0), (1, .int x0)]) hx hb dX9_addNumber_40 hl (k := 0) rfl (by decide +kernel) (by decide) rfl (fun ls hl => ?_)
        refine lv_goto (pc := 43) (tgt := 3) hx hb dX9_addNumber_43 (by decide) ?_
        refine lv_iload_n (pc := 3) hx hb dX9_addNumber_3 rfl (lv_at hl 0 rfl) ?_
        refine b_if_lt (pc := 4) (tgt := 46) hx hb tI_0  dX9_addNumber_4 (by decide) (fun c_19 => absurd c_19 (by (first | omega | (unfold zBd at *; omega)))) (fun c_19 => ?_)
        refine lv_aload_n (pc := 7) hx hb dX9_addNumber_7 rfl (lv_at hl 1 rfl) ?_
        refine va_get (pc := 8) (ci := 9) (v := .int x_18) (C := RX9) (T := TX9) (N := 2) hx hb hts iX9 hown hK hP 0 rfl rfl 1 (by decide) (hts _ tw_43) (fun _ h9 => h9) rfl dX9_addNumber_8 ?_
        refine lv_sipush (pc := 11) (v := 1600) hx hb dX9_addNumber_11 (by decide) ?_
        refine b_icmp_ge (pc := 14) (tgt := 46) hx hb rfl tI_1600  dX9_addNumber_14 (by decide) (fun c_20 => ?_) (fun c_20 => ?_)
        ·
          exact hret ((fun _ => 0), (fun k => [f_17].getD k (fun _ => 0)), (fun _ => (fun _ => 0)), (fun k => [x_18].getD k 0), (fun _ => 0)) dX9_addNumber_46 ⟨(show ((24 ≥ 0 ∧ x1.toInt ≥ 1600 ∧ (x_18 : Int32).toInt = x1.toInt) ∨ (24 ≥ 0 ∧ x1.toInt < 1600 ∧ 16 ≥ 0 ∧ (x1.toInt) + (1) ≥ 1600 ∧ (x_18 : Int32).toInt = (x1.toInt) + (1)) ∨ (24 ≥ 0 ∧ x1.toInt < 1600 ∧ 16 ≥ 0 ∧ (x1.toInt) + (1) < 1600 ∧ 8 ≥ 0 ∧ ((x1.toInt) + (1)) + (1) ≥ 1600 ∧ (x_18 : Int32).toInt = ((x1.toInt) + (1)) + (1)) ∨ (24 ≥ 0 ∧ x1.toInt < 1600 ∧ 16 ≥ 0 ∧ (x1.toInt) + (1) < 1600 ∧ 8 ≥ 0 ∧ ((x1.toInt) + (1)) + (1) < 1600 ∧ 0 ≥ 0 ∧ (((x1.toInt) + (1)) + (1)) + (1) ≥ 1600 ∧ (x_18 : Int32).toInt = (((x1.toInt) + (1)) + (1)) + (1)) ∨ (24 ≥ 0 ∧ x1.toInt < 1600 ∧ 16 ≥ 0 ∧ (x1.toInt) + (1) < 1600 ∧ 8 ≥ 0 ∧ ((x1.toInt) + (1)) + (1) < 1600 ∧ 0 ≥ 0 ∧ (((x1.toInt) + (1)) + (1)) + (1) < 1600 ∧ (-8) < 0 ∧ (x_18 : Int32).toInt = ((((x1.toInt) + (1)) + (1)) + (1)) + (1))) by (first | omega | (unfold zBd at *; omega))), (show (0 ≤ (x_18 : Int32).toInt ∧ (x_18 : Int32).toInt ≤ 1600) by (first | omega | (unfold zBd at *; omega)))⟩ (g_psub (wc := [(a0, .inr (9, [.ref a1, .int x_18])), (a1, .inl (cB, 1600, .inl f_17))]) hP [0, 1] rfl) (hD.sub (ws' := [(a0, .inr (9, [.ref a1, .int x_18])), (a1, .inl (cB, 1600, .inl f_17))]) [0, 1] (by decide) rfl) hS
        ·
          refine lv_aload_n (pc := 17) hx hb dX9_addNumber_17 rfl (lv_at hl 1 rfl) ?_
          refine va_get (pc := 18) (ci := 9) (v := .ref a1) (C := RX9) (T := TX9) (N := 2) hx hb hts iX9 hown hK hP 0 rfl rfl 0 (by decide) (hts _ tw_42) (fun _ h9 => h9) rfl dX9_addNumber_18 ?_
          refine lv_aload_n (pc := 21) hx hb dX9_addNumber_21 rfl (lv_at hl 1 rfl) ?_
          refine va_get (pc := 22) (ci := 9) (v := .int x_18) (C := RX9) (T := TX9) (N := 2) hx hb hts iX9 hown hK hP 0 rfl rfl 1 (by decide) (hts _ tw_43) (fun _ h9 => h9) rfl dX9_addNumber_22 ?_
          refine lv_iload_n (pc := 25) hx hb dX9_addNumber_25 rfl (lv_at hl 2 rfl) ?_
          refine lv_iload_n (pc := 26) hx hb dX9_addNumber_26 rfl (lv_at hl 0 rfl) ?_
          refine lv_ishr (pc := 27) hx hb dX9_addNumber_27 ?_
          refine lv_topi (fun x_21 _ => ?_)
          have rx_21 : zBd x_21.toInt (-2147483648) 2147483647 := n_rng x_21
          refine lv_i2b (pc := 28) hx hb dX9_addNumber_28 rfl ?_
          refine lv_topi (fun x_22 _ => ?_)
          have rx_22 : zBd x_22.toInt (-2147483648) 2147483647 := n_rng x_22
          refine g_bastore (pc := 29) hx hb hK hP hD hS 1 0 rfl rfl (n_in rfl (by (first | omega | (unfold zBd at *; omega))) (by (first | omega | (unfold zBd at *; omega)))) dX9_addNumber_29 (fun f_23 H locs hP hD hS => ?_)
          replace hP : va_P D gcl [(a0, .inr (9, [.ref a1, .int x_18])), (a1, .inl (cB, 1600, .inl f_23))] H := hP
          replace hD : va_D A [(a0, .inr (9, [.ref a1, .int x_18])), (a1, .inl (cB, 1600, .inl f_23))] := hD
          refine lv_aload_n (pc := 30) hx hb dX9_addNumber_30 rfl (lv_at hl 1 rfl) ?_
          refine lv_dup (pc := 31) hx hb dX9_addNumber_31 rfl ?_
          refine va_get (pc := 32) (ci := 9) (v := .int x_18) (C := RX9) (T := TX9) (N := 2) hx hb hts iX9 hown hK hP 0 rfl rfl 1 (by decide) (hts _ tw_43) (fun _ h9 => h9) rfl dX9_addNumber_32 ?_
          refine lv_iconst (pc := 35) (v := 1) hx hb dX9_addNumber_35 (by decide) ?_
          refine b_iadd (pc := 36) hx hb rfl tI_1 (by (first | omega | (unfold zBd at *; omega))) (by (first | omega | (unfold zBd at *; omega))) dX9_addNumber_36 (fun x_24 ex_24 => ?_)
          refine va_put (pc := 37) (ci := 9) (v := .int x_24) (ty := .int) (C := RX9) (T := TX9) (N := 2) hx hb hts iX9 tyX9 tyX9_ok nmX9 hown hK hP hD hS 0 rfl rfl 1 (by decide) (hts _ tw_43) (fun _ h9 => h9) rfl (by decide +kernel) rfl rfl (Nat.le_of_ble_eq_true rfl) dX9_addNumber_37 (fun H locs hP hD hS => ?_)
          replace hP : va_P D gcl [(a0, .inr (9, [.ref a1, .int x_24])), (a1, .inl (cB, 1600, .inl f_23))] H := hP
          replace hD : va_D A [(a0, .inr (9, [.ref a1, .int x_24])), (a1, .inl (cB, 1600, .inl f_23))] := hD
          refine lv_iinc (pc := 40) (v := (-8)) (lv' := [(2, .int (-8)), (0, .ref a0), (1, .int x0)]) hx hb dX9_addNumber_40 hl (k := 0) rfl (by decide +kernel) (by decide) rfl (fun ls hl => ?_)
          refine lv_goto (pc := 43) (tgt := 3) hx hb dX9_addNumber_43 (by decide) ?_
          refine lv_iload_n (pc := 3) hx hb dX9_addNumber_3 rfl (lv_at hl 0 rfl) ?_
          refine b_if_lt (pc := 4) (tgt := 46) hx hb tI_m8  dX9_addNumber_4 (by decide) (fun c_25 => ?_) (fun c_25 => absurd c_25 (by (first | omega | (unfold zBd at *; omega))))
          exact hret ((fun _ => 0), (fun k => [f_23].getD k (fun _ => 0)), (fun _ => (fun _ => 0)), (fun k => [x_24].getD k 0), (fun _ => 0)) dX9_addNumber_46 ⟨(show ((24 ≥ 0 ∧ x1.toInt ≥ 1600 ∧ (x_24 : Int32).toInt = x1.toInt) ∨ (24 ≥ 0 ∧ x1.toInt < 1600 ∧ 16 ≥ 0 ∧ (x1.toInt) + (1) ≥ 1600 ∧ (x_24 : Int32).toInt = (x1.toInt) + (1)) ∨ (24 ≥ 0 ∧ x1.toInt < 1600 ∧ 16 ≥ 0 ∧ (x1.toInt) + (1) < 1600 ∧ 8 ≥ 0 ∧ ((x1.toInt) + (1)) + (1) ≥ 1600 ∧ (x_24 : Int32).toInt = ((x1.toInt) + (1)) + (1)) ∨ (24 ≥ 0 ∧ x1.toInt < 1600 ∧ 16 ≥ 0 ∧ (x1.toInt) + (1) < 1600 ∧ 8 ≥ 0 ∧ ((x1.toInt) + (1)) + (1) < 1600 ∧ 0 ≥ 0 ∧ (((x1.toInt) + (1)) + (1)) + (1) ≥ 1600 ∧ (x_24 : Int32).toInt = (((x1.toInt) + (1)) + (1)) + (1)) ∨ (24 ≥ 0 ∧ x1.toInt < 1600 ∧ 16 ≥ 0 ∧ (x1.toInt) + (1) < 1600 ∧ 8 ≥ 0 ∧ ((x1.toInt) + (1)) + (1) < 1600 ∧ 0 ≥ 0 ∧ (((x1.toInt) + (1)) + (1)) + (1) < 1600 ∧ (-8) < 0 ∧ (x_24 : Int32).toInt = ((((x1.toInt) + (1)) + (1)) + (1)) + (1))) by (first | omega | (unfold zBd at *; omega))), (show (0 ≤ (x_24 : Int32).toInt ∧ (x_24 : Int32).toInt ≤ 1600) by (first | omega | (unfold zBd at *; omega)))⟩ (g_psub (wc := [(a0, .inr (9, [.ref a1, .int x_24])), (a1, .inl (cB, 1600, .inl f_23))]) hP [0, 1] rfl) (hD.sub (ws' := [(a0, .inr (9, [.ref a1, .int x_24])), (a1, .inl (cB, 1600, .inl f_23))]) [0, 1] (by decide) rfl) hS
set_option maxHeartbeats 4000000 in
set_option maxRecDepth 100000 in
theorem k_X9_at (l : Launch) (D : va_G) (cB cC cI cJ : ClassId) (sz : Nat) (a0 a1 : Nat) (x0 x1 : Int32) (f0 : Nat → Int32) (h_x1 : zBd x1.toInt 0 1600) : Met l yX9_at (.code yX9_at cX9_at 2 (some .int) :: lw_gd) ({ frames := 0, cells := 0, slots := 0, locals := 0 }) (gPre D [(cB, .byte), (cC, .char), (cI, .int), (cJ, .long)] [.ref a0, .int x0] [(a0, .inr (9, [.ref a1, .int x1])), (a1, .inl (cB, 1600, .inl f0))] sz) (va_Qi (fun r u => ((r.toInt = (-1) ∧ x0.toInt < 0) ∨ (r.toInt = (-1) ∧ x0.toInt ≥ 0 ∧ x0.toInt ≥ x1.toInt) ∨ ((0 ≤ r.toInt ∧ r.toInt ≤ 255) ∧ x0.toInt ≥ 0 ∧ x0.toInt < x1.toInt))) (gB D (va_A [(a0, .inr (9, [.ref a1, .int x1])), (a1, .inl (cB, 1600, .inl f0))] sz) (fun u : gEx => [(a0, .inr (9, [.ref a1, .int x1])), (a1, .inl (cB, 1600, .inl f0))])) (va_A [(a0, .inr (9, [.ref a1, .int x1])), (a1, .inl (cB, 1600, .inl f0))] sz)) 0 0 (va_A [(a0, .inr (9, [.ref a1, .int x1])), (a1, .inl (cB, 1600, .inl f0))] sz) := by
  refine gOf_i (by decide +kernel) (Nat.le_of_ble_eq_true rfl) ?_
  intro p e s m args below meth c ls A Q hx hb hts hown hml hN hK hP hD hA hl hret
  replace hown : s.vm.findClass RX9 = some m.cls := hown
  have hS : va_S A s.heap s.heap [] := va_S.rf
  replace hP : va_P D gcl [(a0, .inr (9, [.ref a1, .int x1])), (a1, .inl (cB, 1600, .inl f0))] s.heap := hP
  replace hl : lv_has ls 2 [(0, .ref a0), (1, .int x0)] := hl
  have rx0 : zBd x0.toInt (-2147483648) 2147483647 := n_rng x0
  refine lv_iload_n (pc := 0) hx hb dX9_at_0 rfl (lv_at hl 1 rfl) ?_
  refine b_if_lt (pc := 1) (tgt := 25) hx hb rfl  dX9_at_1 (by decide) (fun c_1 => ?_) (fun c_1 => ?_)
  ·
    refine lv_iconst (pc := 25) (v := (-1)) hx hb dX9_at_25 (by decide) ?_
    exact hret (-1) ((fun _ => 0), (fun _ => (fun _ => 0)), (fun _ => (fun _ => 0)), (fun _ => 0), (fun _ => 0)) dX9_at_26 (show ((((-1) : Int32).toInt = (-1) ∧ x0.toInt < 0) ∨ (((-1) : Int32).toInt = (-1) ∧ x0.toInt ≥ 0 ∧ x0.toInt ≥ x1.toInt) ∨ ((0 ≤ ((-1) : Int32).toInt ∧ ((-1) : Int32).toInt ≤ 255) ∧ x0.toInt ≥ 0 ∧ x0.toInt < x1.toInt)) by have k9 := tI_m1; (first | omega | (unfold zBd at *; omega))) (g_psub (wc := [(a0, .inr (9, [.ref a1, .int x1])), (a1, .inl (cB, 1600, .inl f0))]) hP [0, 1] rfl) (hD.sub (ws' := [(a0, .inr (9, [.ref a1, .int x1])), (a1, .inl (cB, 1600, .inl f0))]) [0, 1] (by decide) rfl) hS
  ·
    refine lv_iload_n (pc := 4) hx hb dX9_at_4 rfl (lv_at hl 1 rfl) ?_
    refine lv_aload_n (pc := 5) hx hb dX9_at_5 rfl (lv_at hl 0 rfl) ?_
    refine va_get (pc := 6) (ci := 9) (v := .int x1) (C := RX9) (T := TX9) (N := 2) hx hb hts iX9 hown hK hP 0 rfl rfl 1 (by decide) (hts _ tw_43) (fun _ h9 => h9) rfl dX9_at_6 ?_
    have bd_h_x1 : 0 ≤ x1.toInt ∧ x1.toInt ≤ 1600 := h_x1
    refine b_icmp_ge (pc := 9) (tgt := 25) hx hb rfl rfl  dX9_at_9 (by decide) (fun c_2 => ?_) (fun c_2 => ?_)
    ·
      refine lv_iconst (pc := 25) (v := (-1)) hx hb dX9_at_25 (by decide) ?_
      exact hret (-1) ((fun _ => 0), (fun _ => (fun _ => 0)), (fun _ => (fun _ => 0)), (fun _ => 0), (fun _ => 0)) dX9_at_26 (show ((((-1) : Int32).toInt = (-1) ∧ x0.toInt < 0) ∨ (((-1) : Int32).toInt = (-1) ∧ x0.toInt ≥ 0 ∧ x0.toInt ≥ x1.toInt) ∨ ((0 ≤ ((-1) : Int32).toInt ∧ ((-1) : Int32).toInt ≤ 255) ∧ x0.toInt ≥ 0 ∧ x0.toInt < x1.toInt)) by have k9 := tI_m1; (first | omega | (unfold zBd at *; omega))) (g_psub (wc := [(a0, .inr (9, [.ref a1, .int x1])), (a1, .inl (cB, 1600, .inl f0))]) hP [0, 1] rfl) (hD.sub (ws' := [(a0, .inr (9, [.ref a1, .int x1])), (a1, .inl (cB, 1600, .inl f0))]) [0, 1] (by decide) rfl) hS
    ·
      refine lv_aload_n (pc := 12) hx hb dX9_at_12 rfl (lv_at hl 0 rfl) ?_
      refine va_get (pc := 13) (ci := 9) (v := .ref a1) (C := RX9) (T := TX9) (N := 2) hx hb hts iX9 hown hK hP 0 rfl rfl 0 (by decide) (hts _ tw_42) (fun _ h9 => h9) rfl dX9_at_13 ?_
      refine lv_iload_n (pc := 16) hx hb dX9_at_16 rfl (lv_at hl 1 rfl) ?_
      refine va_bald (pc := 17) hx hb hK hP 1 0 rfl rfl (n_in rfl (by (first | omega | (unfold zBd at *; omega))) (by (first | omega | (unfold zBd at *; omega)))) dX9_at_17 ?_
      refine lv_topi (fun x_3 ex_3 => ?_)
      have rx_3 : zBd x_3.toInt (-2147483648) 2147483647 := n_rng x_3
      refine lv_sipush (pc := 18) (v := 255) hx hb dX9_at_18 (by decide) ?_
      refine b_iand (pc := 21) (M := 255) hx hb 8 (by decide +kernel) (by decide) (by decide) dX9_at_21 (fun x_4 ex_4 => ?_)
      have rx_4 : (0 ≤ x_4.toInt ∧ x_4.toInt ≤ 255) := by (first | omega | (unfold zBd at *; omega))
      refine lv_goto (pc := 22) (tgt := 26) hx hb dX9_at_22 (by decide) ?_
      exact hret x_4 ((fun _ => 0), (fun _ => (fun _ => 0)), (fun _ => (fun _ => 0)), (fun _ => 0), (fun _ => 0)) dX9_at_26 (show ((x_4.toInt = (-1) ∧ x0.toInt < 0) ∨ (x_4.toInt = (-1) ∧ x0.toInt ≥ 0 ∧ x0.toInt ≥ x1.toInt) ∨ ((0 ≤ x_4.toInt ∧ x_4.toInt ≤ 255) ∧ x0.toInt ≥ 0 ∧ x0.toInt < x1.toInt)) by (first | omega | (unfold zBd at *; omega))) (g_psub (wc := [(a0, .inr (9, [.ref a1, .int x1])), (a1, .inl (cB, 1600, .inl f0))]) hP [0, 1] rfl) (hD.sub (ws' := [(a0, .inr (9, [.ref a1, .int x1])), (a1, .inl (cB, 1600, .inl f0))]) [0, 1] (by decide) rfl) hS
set_option maxHeartbeats 4000000 in
set_option maxRecDepth 100000 in
theorem k_X9_shortAt (l : Launch) (D : va_G) (cB cC cI cJ : ClassId) (sz : Nat) (a0 a1 : Nat) (x0 x1 : Int32) (f0 : Nat → Int32) (hp1 : (0 ≤ x0.toInt ∧ x0.toInt ≤ 10)) (h_x1 : zBd x1.toInt 0 1600) : Met l yX9_shortAt (.code yX9_shortAt cX9_shortAt 2 (some .int) :: lw_gd) ({ frames := 1, cells := 0, slots := 0, locals := 21 }) (gPre D [(cB, .byte), (cC, .char), (cI, .int), (cJ, .long)] [.ref a0, .int x0] [(a0, .inr (9, [.ref a1, .int x1])), (a1, .inl (cB, 1600, .inl f0))] sz) (va_Qi (fun r u => ((((-2147483648) ≤ r.toInt ∧ r.toInt ≤ 2147483647)))) (gB D (va_A [(a0, .inr (9, [.ref a1, .int x1])), (a1, .inl (cB, 1600, .inl f0))] sz) (fun u : gEx => [(a0, .inr (9, [.ref a1, .int x1])), (a1, .inl (cB, 1600, .inl f0))])) (va_A [(a0, .inr (9, [.ref a1, .int x1])), (a1, .inl (cB, 1600, .inl f0))] sz)) 0 0 (va_A [(a0, .inr (9, [.ref a1, .int x1])), (a1, .inl (cB, 1600, .inl f0))] sz) := by
  refine gOf_i (by decide +kernel) (Nat.le_of_ble_eq_true rfl) ?_
  intro p e s m args below meth c ls A Q hx hb hts hown hml hN hK hP hD hA hl hret
  replace hown : s.vm.findClass RX9 = some m.cls := hown
  have hS : va_S A s.heap s.heap [] := va_S.rf
  replace hP : va_P D gcl [(a0, .inr (9, [.ref a1, .int x1])), (a1, .inl (cB, 1600, .inl f0))] s.heap := hP
  replace hl : lv_has ls 2 [(0, .ref a0), (1, .int x0)] := hl
  refine lv_aload_n (pc := 0) hx hb dX9_shortAt_0 rfl (lv_at hl 0 rfl) ?_
  refine lv_iload_n (pc := 1) hx hb dX9_shortAt_1 rfl (lv_at hl 1 rfl) ?_
  refine gc_i (pc := 2) (wc := [(a0, .inr (9, [.ref a1, .int x1])), (a1, .inl (cB, 1600, .inl f0))]) (wr := []) hP hD hS hA [0, 1] [] rfl rfl (by decide) (by decide) (by decide) (fun hPc hDc => va_runV (As := [.int x0]) (rest := []) ⟨hx, hb, hml, hown, hts⟩ (k_X9_at l D cB cC cI cJ _ a0 a1 x0 x1 f0 h_x1) ⟨gcwB hts tw_518 tw_3 tw_813 hd_yX9_at ⟨Nat.le_of_ble_eq_true rfl, Nat.le_of_ble_eq_true rfl⟩, hts _ tw_516, hts _ tw_517⟩ ⟨gblind, va_recv hK hPc (ci := 9) (q0 := 0) rfl rfl, (gpreS hPc hK hDc hN).2⟩ rfl rfl hl.1 rfl (lv_room (Nat.le_of_ble_eq_true rfl)) dX9_shortAt_2 ⟨Nat.le_of_ble_eq_true rfl, Nat.le_of_ble_eq_true rfl⟩) (fun r_2 u_1 H locs hw_3 hP hD hS => ?_)
  replace hP : va_P D gcl [(a0, .inr (9, [.ref a1, .int x1])), (a1, .inl (cB, 1600, .inl f0))] H := hP
  replace hD : va_D A [(a0, .inr (9, [.ref a1, .int x1])), (a1, .inl (cB, 1600, .inl f0))] := hD
  have hw_4 : ((r_2.toInt = (-1) ∧ x0.toInt < 0) ∨ (r_2.toInt = (-1) ∧ x0.toInt ≥ 0 ∧ x0.toInt ≥ x1.toInt) ∨ ((0 ≤ r_2.toInt ∧ r_2.toInt ≤ 255) ∧ x0.toInt ≥ 0 ∧ x0.toInt < x1.toInt)) := hw_3
  have rr_2 : zBd r_2.toInt (-2147483648) 2147483647 := n_rng r_2
  refine lv_bipush (pc := 5) (v := 8) hx hb dX9_shortAt_5 (by decide) ?_
  refine lv_ishl (pc := 7) hx hb dX9_shortAt_7 ?_
  refine lv_topi (fun x_5 _ => ?_)
  have rx_5 : zBd x_5.toInt (-2147483648) 2147483647 := n_rng x_5
  refine lv_aload_n (pc := 8) hx hb dX9_shortAt_8 rfl (lv_at hl 0 rfl) ?_
  refine lv_iload_n (pc := 9) hx hb dX9_shortAt_9 rfl (lv_at hl 1 rfl) ?_
  refine lv_iconst (pc := 10) (v := 1) hx hb dX9_shortAt_10 (by decide) ?_
  refine b_iadd (pc := 11) hx hb rfl tI_1 (by (first | omega | (unfold zBd at *; omega))) (by (first | omega | (unfold zBd at *; omega))) dX9_shortAt_11 (fun x_6 ex_6 => ?_)
  refine gc_i (pc := 12) (wc := [(a0, .inr (9, [.ref a1, .int x1])), (a1, .inl (cB, 1600, .inl f0))]) (wr := []) hP hD hS hA [0, 1] [] rfl rfl (by decide) (by decide) (by decide) (fun hPc hDc => va_runV (As := [.int x_6]) (rest := [.int x_5]) ⟨hx, hb, hml, hown, hts⟩ (k_X9_at l D cB cC cI cJ _ a0 a1 x_6 x1 f0 h_x1) ⟨gcwB hts tw_518 tw_3 tw_813 hd_yX9_at ⟨Nat.le_of_ble_eq_true rfl, Nat.le_of_ble_eq_true rfl⟩, hts _ tw_516, hts _ tw_517⟩ ⟨gblind, va_recv hK hPc (ci := 9) (q0 := 0) rfl rfl, (gpreS hPc hK hDc hN).2⟩ rfl rfl hl.1 rfl (lv_room (Nat.le_of_ble_eq_true rfl)) dX9_shortAt_12 ⟨Nat.le_of_ble_eq_true rfl, Nat.le_of_ble_eq_true rfl⟩) (fun r_8 u_7 H locs hw_9 hP hD hS => ?_)
  replace hP : va_P D gcl [(a0, .inr (9, [.ref a1, .int x1])), (a1, .inl (cB, 1600, .inl f0))] H := hP
  replace hD : va_D A [(a0, .inr (9, [.ref a1, .int x1])), (a1, .inl (cB, 1600, .inl f0))] := hD
  have hw_10 : ((r_8.toInt = (-1) ∧ x_6.toInt < 0) ∨ (r_8.toInt = (-1) ∧ x_6.toInt ≥ 0 ∧ x_6.toInt ≥ x1.toInt) ∨ ((0 ≤ r_8.toInt ∧ r_8.toInt ≤ 255) ∧ x_6.toInt ≥ 0 ∧ x_6.toInt < x1.toInt)) := hw_9
  have rr_8 : zBd r_8.toInt (-2147483648) 2147483647 := n_rng r_8
  refine lv_ior (pc := 15) hx hb dX9_shortAt_15 ?_
  refine lv_topi (fun x_11 _ => ?_)
  have rx_11 : zBd x_11.toInt (-2147483648) 2147483647 := n_rng x_11
  refine lv_i2s (pc := 16) hx hb dX9_shortAt_16 rfl ?_
  refine lv_topi (fun x_12 _ => ?_)
  have rx_12 : zBd x_12.toInt (-2147483648) 2147483647 := n_rng x_12
  exact hret x_12 ((fun _ => 0), (fun _ => (fun _ => 0)), (fun _ => (fun _ => 0)), (fun _ => 0), (fun _ => 0)) dX9_shortAt_17 (show ((((-2147483648) ≤ x_12.toInt ∧ x_12.toInt ≤ 2147483647))) by (first | omega | (unfold zBd at *; omega))) (g_psub (wc := [(a0, .inr (9, [.ref a1, .int x1])), (a1, .inl (cB, 1600, .inl f0))]) hP [0, 1] rfl) (hD.sub (ws' := [(a0, .inr (9, [.ref a1, .int x1])), (a1, .inl (cB, 1600, .inl f0))]) [0, 1] (by decide) rfl) hS
set_option maxHeartbeats 4000000 in
set_option maxRecDepth 100000 in
theorem k_X9_signedAt (l : Launch) (D : va_G) (cB cC cI cJ : ClassId) (sz : Nat) (a0 a1 : Nat) (x0 x1 : Int32) (f0 : Nat → Int32) (h_x1 : zBd x1.toInt 0 1600) : Met l yX9_signedAt (.code yX9_signedAt cX9_signedAt 2 (some .int) :: lw_gd) ({ frames := 1, cells := 0, slots := 0, locals := 21 }) (gPre D [(cB, .byte), (cC, .char), (cI, .int), (cJ, .long)] [.ref a0, .int x0] [(a0, .inr (9, [.ref a1, .int x1])), (a1, .inl (cB, 1600, .inl f0))] sz) (va_Qi (fun r u => ((((-2147483648) ≤ r.toInt ∧ r.toInt ≤ 2147483647)))) (gB D (va_A [(a0, .inr (9, [.ref a1, .int x1])), (a1, .inl (cB, 1600, .inl f0))] sz) (fun u : gEx => [(a0, .inr (9, [.ref a1, .int x1])), (a1, .inl (cB, 1600, .inl f0))])) (va_A [(a0, .inr (9, [.ref a1, .int x1])), (a1, .inl (cB, 1600, .inl f0))] sz)) 0 0 (va_A [(a0, .inr (9, [.ref a1, .int x1])), (a1, .inl (cB, 1600, .inl f0))] sz) := by
  refine gOf_i (by decide +kernel) (Nat.le_of_ble_eq_true rfl) ?_
  intro p e s m args below meth c ls A Q hx hb hts hown hml hN hK hP hD hA hl hret
  replace hown : s.vm.findClass RX9 = some m.cls := hown
  have hS : va_S A s.heap s.heap [] := va_S.rf
  replace hP : va_P D gcl [(a0, .inr (9, [.ref a1, .int x1])), (a1, .inl (cB, 1600, .inl f0))] s.heap := hP
  replace hl : lv_has ls 2 [(0, .ref a0), (1, .int x0)] := hl
  have rx0 : zBd x0.toInt (-2147483648) 2147483647 := n_rng x0
  refine lv_aload_n (pc := 0) hx hb dX9_signedAt_0 rfl (lv_at hl 0 rfl) ?_
  refine lv_iload_n (pc := 1) hx hb dX9_signedAt_1 rfl (lv_at hl 1 rfl) ?_
  refine gc_i (pc := 2) (wc := [(a0, .inr (9, [.ref a1, .int x1])), (a1, .inl (cB, 1600, .inl f0))]) (wr := []) hP hD hS hA [0, 1] [] rfl rfl (by decide) (by decide) (by decide) (fun hPc hDc => va_runV (As := [.int x0]) (rest := []) ⟨hx, hb, hml, hown, hts⟩ (k_X9_at l D cB cC cI cJ _ a0 a1 x0 x1 f0 h_x1) ⟨gcwB hts tw_518 tw_3 tw_813 hd_yX9_at ⟨Nat.le_of_ble_eq_true rfl, Nat.le_of_ble_eq_true rfl⟩, hts _ tw_516, hts _ tw_517⟩ ⟨gblind, va_recv hK hPc (ci := 9) (q0 := 0) rfl rfl, (gpreS hPc hK hDc hN).2⟩ rfl rfl hl.1 rfl (lv_room (Nat.le_of_ble_eq_true rfl)) dX9_signedAt_2 ⟨Nat.le_of_ble_eq_true rfl, Nat.le_of_ble_eq_true rfl⟩) (fun r_2 u_1 H locs hw_3 hP hD hS => ?_)
  replace hP : va_P D gcl [(a0, .inr (9, [.ref a1, .int x1])), (a1, .inl (cB, 1600, .inl f0))] H := hP
  replace hD : va_D A [(a0, .inr (9, [.ref a1, .int x1])), (a1, .inl (cB, 1600, .inl f0))] := hD
  have hw_4 : ((r_2.toInt = (-1) ∧ x0.toInt < 0) ∨ (r_2.toInt = (-1) ∧ x0.toInt ≥ 0 ∧ x0.toInt ≥ x1.toInt) ∨ ((0 ≤ r_2.toInt ∧ r_2.toInt ≤ 255) ∧ x0.toInt ≥ 0 ∧ x0.toInt < x1.toInt)) := hw_3
  have rr_2 : zBd r_2.toInt (-2147483648) 2147483647 := n_rng r_2
  refine lv_i2b (pc := 5) hx hb dX9_signedAt_5 rfl ?_
  refine lv_topi (fun x_5 _ => ?_)
  have rx_5 : zBd x_5.toInt (-2147483648) 2147483647 := n_rng x_5
  exact hret x_5 ((fun _ => 0), (fun _ => (fun _ => 0)), (fun _ => (fun _ => 0)), (fun _ => 0), (fun _ => 0)) dX9_signedAt_6 (show ((((-2147483648) ≤ x_5.toInt ∧ x_5.toInt ≤ 2147483647))) by (first | omega | (unfold zBd at *; omega))) (g_psub (wc := [(a0, .inr (9, [.ref a1, .int x1])), (a1, .inl (cB, 1600, .inl f0))]) hP [0, 1] rfl) (hD.sub (ws' := [(a0, .inr (9, [.ref a1, .int x1])), (a1, .inl (cB, 1600, .inl f0))]) [0, 1] (by decide) rfl) hS
set_option maxHeartbeats 4000000 in
set_option maxRecDepth 100000 in
theorem k_J7_fill_53178_30 (l : Launch) (D : va_G) (cB cC cI cJ : ClassId) (sz : Nat) (a0 : Nat) (x0 : Int32) (f0 : Nat → Int32) : Met l yJ7_fill_53178 (.code yJ7_fill_53178 cJ7_fill_53178 4 none :: lw_gd) ({ frames := 0, cells := 0, slots := 0, locals := 0 }) (gPre D [(cB, .byte), (cC, .char), (cI, .int), (cJ, .long)] [.ref a0, .int x0] [(a0, .inl (cI, 30, .inl f0))] sz) (va_Qv (fun u => True) (gB D (va_A [(a0, .inl (cI, 30, .inl f0))] sz) (fun u : gEx => [(a0, .inl (cI, 30, .inl (u.2.1 0)))])) (va_A [(a0, .inl (cI, 30, .inl f0))] sz)) 0 0 (va_A [(a0, .inl (cI, 30, .inl f0))] sz) := by
  refine gOf_v (by decide +kernel) (Nat.le_of_ble_eq_true rfl) ?_
  intro p e s m args below meth c ls A Q hx hb hts hown hml hN hK hP hD hA hl hret
  replace hown : s.vm.findClass RJ7 = some m.cls := hown
  have hS : va_S A s.heap s.heap [] := va_S.rf
  replace hP : va_P D gcl [(a0, .inl (cI, 30, .inl f0))] s.heap := hP
  replace hl : lv_has ls 4 [(0, .ref a0), (1, .int x0)] := hl
  have rx0 : zBd x0.toInt (-2147483648) 2147483647 := n_rng x0
  refine lv_iconst (pc := 0) (v := 0) hx hb dJ7_fill_53178_0 (by decide) ?_
  refine lv_istore_n (pc := 1) (lv' := [(2, .int 0), (0, .ref a0), (1, .int x0)]) hx hb dJ7_fill_53178_1 rfl hl (by decide) rfl (fun ls hl => ?_)
  refine lv_aload_n (pc := 2) hx hb dJ7_fill_53178_2 rfl (lv_at hl 1 rfl) ?_
  refine va_alen (pc := 3) (v := 30) hx hb hK hP 0 2 rfl rfl rfl dJ7_fill_53178_3 ?_
  refine lv_istore_n (pc := 4) (lv' := [(3, .int 30), (2, .int 0), (0, .ref a0), (1, .int x0)]) hx hb dJ7_fill_53178_4 rfl hl (by decide) rfl (fun ls hl => ?_)
  have lp_4 : ∀ (n : Nat) (x_1 : Int32) (f_3 : Nat → Int32) (H : Heap) (locs : List Loc) (ls : Array Slot), (0 ≤ x_1.toInt ∧ x_1.toInt ≤ 2147483647) → (2147483647 - x_1.toInt).toNat < n → va_P D gcl [(a0, .inl (cI, 30, .inl f_3))] H → va_D A [(a0, .inl (cI, 30, .inl f_3))] → va_S A s.heap H locs → lv_has ls 4 [(3, .int 30), (2, .int x_1), (0, .ref a0), (1, .int x0)] → W p l e ({ frames := 0, cells := 0, slots := 0, locals := 0 }) s m args below meth c H locs 0 0 Q (F0 m 5 ls []) := by
    intro n
    induction n with
    | zero => intro x_1 f_3 H locs ls hi_2 hmu; exact absurd hmu (Nat.not_lt_zero _)
    | succ n ih_lp_4 =>
      intro x_1 f_3 H locs ls hi_2 hmu_lp_4 hP hD hS hl
      refine lv_iload_n (pc := 5) hx hb dJ7_fill_53178_5 rfl (lv_at hl 1 rfl) ?_
      refine lv_iload_n (pc := 6) hx hb dJ7_fill_53178_6 rfl (lv_at hl 0 rfl) ?_
      refine b_icmp_ge (pc := 7) (tgt := 20) hx hb rfl tI_30  dJ7_fill_53178_7 (by decide) (fun c_5 => ?_) (fun c_5 => ?_)
      ·
        exact hret ((fun _ => 0), (fun k => [f_3].getD k (fun _ => 0)), (fun _ => (fun _ => 0)), (fun _ => 0), (fun _ => 0)) dJ7_fill_53178_20 trivial (g_psub (wc := [(a0, .inl (cI, 30, .inl f_3))]) hP [0] rfl) (hD.sub (ws' := [(a0, .inl (cI, 30, .inl f_3))]) [0] (by decide) rfl) hS
      ·
        refine lv_aload_n (pc := 10) hx hb dJ7_fill_53178_10 rfl (lv_at hl 2 rfl) ?_
        refine lv_iload_n (pc := 11) hx hb dJ7_fill_53178_11 rfl (lv_at hl 1 rfl) ?_
        refine lv_iload_n (pc := 12) hx hb dJ7_fill_53178_12 rfl (lv_at hl 3 rfl) ?_
        refine g_iastore (pc := 13) hx hb hK hP hD hS 0 2 rfl rfl (n_in rfl (by (first | omega | (unfold zBd at *; omega))) (by (first | omega | (unfold zBd at *; omega)))) dJ7_fill_53178_13 (fun f_6 H locs hP hD hS => ?_)
        replace hP : va_P D gcl [(a0, .inl (cI, 30, .inl f_6))] H := hP
        replace hD : va_D A [(a0, .inl (cI, 30, .inl f_6))] := hD
        refine b_iinc (pc := 14) hx hb dJ7_fill_53178_14 hl (k := 1) rfl rfl tI_1 (by (first | omega | (unfold zBd at *; omega))) (by (first | omega | (unfold zBd at *; omega))) (by decide) (fun x_7 ex_7 ls hl => ?_)
        replace hl : lv_has ls 4 [(2, .int x_7), (3, .int 30), (0, .ref a0), (1, .int x0)] := hl
        refine lv_goto (pc := 17) (tgt := 5) hx hb dJ7_fill_53178_17 (by decide) ?_
        exact ih_lp_4 x_7 f_6 _ _ ls (by (first | omega | (unfold zBd at *; omega))) (by (first | omega | (unfold zBd at *; omega))) hP hD hS (lv_sub hl [1, 0, 2, 3] rfl)
  exact lp_4 _ 0 f0 _ _ ls (n_c tI_0 (by decide)) (Nat.lt_succ_self _) hP hD hS (lv_sub hl [0, 1, 2, 3] rfl)
set_option maxHeartbeats 4000000 in
set_option maxRecDepth 100000 in
theorem k_X8_clear (l : Launch) (D : va_G) (cB cC cI cJ : ClassId) (sz : Nat) (a0 a1 : Nat) (f0 : Nat → Int32) : Met l yX8_clear (.code yX8_clear cX8_clear 1 none :: lw_gd) ({ frames := 1, cells := 0, slots := 0, locals := 23 }) (gPre D [(cB, .byte), (cC, .char), (cI, .int), (cJ, .long)] [.ref a0] [(a0, .inr (8, [.ref a1])), (a1, .inl (cI, 30, .inl f0))] sz) (va_Qv (fun u => True) (gB D (va_A [(a0, .inr (8, [.ref a1])), (a1, .inl (cI, 30, .inl f0))] sz) (fun u : gEx => [(a0, .inr (8, [.ref a1])), (a1, .inl (cI, 30, .inl (u.2.1 0)))])) (va_A [(a0, .inr (8, [.ref a1])), (a1, .inl (cI, 30, .inl f0))] sz)) 0 0 (va_A [(a0, .inr (8, [.ref a1])), (a1, .inl (cI, 30, .inl f0))] sz) := by
  refine gOf_v (by decide +kernel) (Nat.le_of_ble_eq_true rfl) ?_
  intro p e s m args below meth c ls A Q hx hb hts hown hml hN hK hP hD hA hl hret
  replace hown : s.vm.findClass RX8 = some m.cls := hown
  have hS : va_S A s.heap s.heap [] := va_S.rf
  replace hP : va_P D gcl [(a0, .inr (8, [.ref a1])), (a1, .inl (cI, 30, .inl f0))] s.heap := hP
  replace hl : lv_has ls 1 [(0, .ref a0)] := hl
  refine lv_aload_n (pc := 0) hx hb dX8_clear_0 rfl (lv_at hl 0 rfl) ?_
  refine va_get (pc := 1) (ci := 8) (v := .ref a1) (C := RX8) (T := TX8) (N := 1) hx hb hts iX8 hown hK hP 0 rfl rfl 0 (by decide) (hts _ tw_62) (fun _ h9 => h9) rfl dX8_clear_1 ?_
  refine lv_iconst (pc := 4) (v := 0) hx hb dX8_clear_4 (by decide) ?_
  refine gc_v (pc := 5) (wc := [(a1, .inl (cI, 30, .inl f0))]) (wr := [(a0, .inr (8, [.ref a1]))]) hP hD hS hA [1] [0] rfl rfl (by decide) (by decide) (by decide) (fun hPc hDc => va_runS (As := [.ref a1, .int 0]) (rest := []) ⟨hx, hb, hml, hown, hts⟩ (k_J7_fill_53178_30 l D cB cC cI cJ _ a1 0 f0) ⟨gcwB hts tw_505 tw_10 tw_503 hd_yJ7_fill_53178 ⟨Nat.le_of_ble_eq_true rfl, Nat.le_of_ble_eq_true rfl⟩, hts _ tw_504⟩ (gpreS hPc hK hDc hN) rfl rfl hl.1 rfl (lv_room (Nat.le_of_ble_eq_true rfl)) dX8_clear_5 ⟨Nat.le_of_ble_eq_true rfl, Nat.le_of_ble_eq_true rfl⟩) (fun u_1 H locs hw_3 hP hD hS => ?_)
  replace hP : va_P D gcl [(a0, .inr (8, [.ref a1])), (a1, .inl (cI, 30, .inl (u_1.2.1 0)))] H := hP
  replace hD : va_D A [(a0, .inr (8, [.ref a1])), (a1, .inl (cI, 30, .inl (u_1.2.1 0)))] := hD
  exact hret ((fun _ => 0), (fun k => [(u_1.2.1 0)].getD k (fun _ => 0)), (fun _ => (fun _ => 0)), (fun _ => 0), (fun _ => 0)) dX8_clear_8 trivial (g_psub (wc := [(a0, .inr (8, [.ref a1])), (a1, .inl (cI, 30, .inl (u_1.2.1 0)))]) hP [0, 1] rfl) (hD.sub (ws' := [(a0, .inr (8, [.ref a1])), (a1, .inl (cI, 30, .inl (u_1.2.1 0)))]) [0, 1] (by decide) rfl) hS
set_option maxHeartbeats 4000000 in
set_option maxRecDepth 100000 in
theorem k_X8_setAt (l : Launch) (D : va_G) (cB cC cI cJ : ClassId) (sz : Nat) (a0 a1 : Nat) (x0 x1 x2 : Int32) (f0 : Nat → Int32) (hp1 : (0 ≤ x0.toInt ∧ x0.toInt ≤ 5)) (hp2 : (0 ≤ x1.toInt ∧ x1.toInt ≤ 4)) : Met l yX8_setAt (.code yX8_setAt cX8_setAt 4 none :: lw_gd) ({ frames := 0, cells := 0, slots := 0, locals := 0 }) (gPre D [(cB, .byte), (cC, .char), (cI, .int), (cJ, .long)] [.ref a0, .int x0, .int x1, .int x2] [(a0, .inr (8, [.ref a1])), (a1, .inl (cI, 30, .inl f0))] sz) (va_Qv (fun u => True) (gB D (va_A [(a0, .inr (8, [.ref a1])), (a1, .inl (cI, 30, .inl f0))] sz) (fun u : gEx => [(a0, .inr (8, [.ref a1])), (a1, .inl (cI, 30, .inl (u.2.1 0)))])) (va_A [(a0, .inr (8, [.ref a1])), (a1, .inl (cI, 30, .inl f0))] sz)) 0 0 (va_A [(a0, .inr (8, [.ref a1])), (a1, .inl (cI, 30, .inl f0))] sz) := by
  refine gOf_v (by decide +kernel) (Nat.le_of_ble_eq_true rfl) ?_
  intro p e s m args below meth c ls A Q hx hb hts hown hml hN hK hP hD hA hl hret
  replace hown : s.vm.findClass RX8 = some m.cls := hown
  have hS : va_S A s.heap s.heap [] := va_S.rf
  replace hP : va_P D gcl [(a0, .inr (8, [.ref a1])), (a1, .inl (cI, 30, .inl f0))] s.heap := hP
  replace hl : lv_has ls 4 [(0, .ref a0), (1, .int x0), (2, .int x1), (3, .int x2)] := hl
  have rx2 : zBd x2.toInt (-2147483648) 2147483647 := n_rng x2
  refine lv_aload_n (pc := 0) hx hb dX8_setAt_0 rfl (lv_at hl 0 rfl) ?_
  refine va_get (pc := 1) (ci := 8) (v := .ref a1) (C := RX8) (T := TX8) (N := 1) hx hb hts iX8 hown hK hP 0 rfl rfl 0 (by decide) (hts _ tw_62) (fun _ h9 => h9) rfl dX8_setAt_1 ?_
  refine lv_iload_n (pc := 4) hx hb dX8_setAt_4 rfl (lv_at hl 2 rfl) ?_
  refine lv_bipush (pc := 5) (v := 6) hx hb dX8_setAt_5 (by decide) ?_
  refine b_imul (pc := 7) hx hb rfl tI_6 (by (first | omega | (unfold zBd at *; omega))) (by (first | omega | (unfold zBd at *; omega))) dX8_setAt_7 (fun x_1 ex_1 => ?_)
  refine lv_iload_n (pc := 8) hx hb dX8_setAt_8 rfl (lv_at hl 1 rfl) ?_
  refine b_iadd (pc := 9) hx hb rfl rfl (by (first | omega | (unfold zBd at *; omega))) (by (first | omega | (unfold zBd at *; omega))) dX8_setAt_9 (fun x_2 ex_2 => ?_)
  refine lv_iload_n (pc := 10) hx hb dX8_setAt_10 rfl (lv_at hl 3 rfl) ?_
  refine g_iastore (pc := 11) hx hb hK hP hD hS 1 2 rfl rfl (n_in rfl (by (first | omega | (unfold zBd at *; omega))) (by (first | omega | (unfold zBd at *; omega)))) dX8_setAt_11 (fun f_3 H locs hP hD hS => ?_)
  replace hP : va_P D gcl [(a0, .inr (8, [.ref a1])), (a1, .inl (cI, 30, .inl f_3))] H := hP
  replace hD : va_D A [(a0, .inr (8, [.ref a1])), (a1, .inl (cI, 30, .inl f_3))] := hD
  exact hret ((fun _ => 0), (fun k => [f_3].getD k (fun _ => 0)), (fun _ => (fun _ => 0)), (fun _ => 0), (fun _ => 0)) dX8_setAt_12 trivial (g_psub (wc := [(a0, .inr (8, [.ref a1])), (a1, .inl (cI, 30, .inl f_3))]) hP [0, 1] rfl) (hD.sub (ws' := [(a0, .inr (8, [.ref a1])), (a1, .inl (cI, 30, .inl f_3))]) [0, 1] (by decide) rfl) hS
set_option maxHeartbeats 4000000 in
set_option maxRecDepth 100000 in
theorem k_X8_copyFrom (l : Launch) (D : va_G) (cB cC cI cJ : ClassId) (sz : Nat) (a0 a1 a2 a3 : Nat) (f0 f1 : Nat → Int32) : Met l yX8_copyFrom (.code yX8_copyFrom cX8_copyFrom 2 none :: lw_gd) ({ frames := 1, cells := 0, slots := 0, locals := 60 }) (gPre D [(cB, .byte), (cC, .char), (cI, .int), (cJ, .long)] [.ref a0, .ref a1] [(a0, .inr (8, [.ref a2])), (a1, .inr (8, [.ref a3])), (a2, .inl (cI, 30, .inl f0)), (a3, .inl (cI, 30, .inl f1))] sz) (va_Qv (fun u => True) (gB D (va_A [(a0, .inr (8, [.ref a2])), (a1, .inr (8, [.ref a3])), (a2, .inl (cI, 30, .inl f0)), (a3, .inl (cI, 30, .inl f1))] sz) (fun u : gEx => [(a0, .inr (8, [.ref a2])), (a1, .inr (8, [.ref a3])), (a2, .inl (cI, 30, .inl (u.2.1 0))), (a3, .inl (cI, 30, .inl f1))])) (va_A [(a0, .inr (8, [.ref a2])), (a1, .inr (8, [.ref a3])), (a2, .inl (cI, 30, .inl f0)), (a3, .inl (cI, 30, .inl f1))] sz)) 0 0 (va_A [(a0, .inr (8, [.ref a2])), (a1, .inr (8, [.ref a3])), (a2, .inl (cI, 30, .inl f0)), (a3, .inl (cI, 30, .inl f1))] sz) := by
  refine gOf_v (by decide +kernel) (Nat.le_of_ble_eq_true rfl) ?_
  intro p e s m args below meth c ls A Q hx hb hts hown hml hN hK hP hD hA hl hret
  replace hown : s.vm.findClass RX8 = some m.cls := hown
  have hS : va_S A s.heap s.heap [] := va_S.rf
  replace hP : va_P D gcl [(a0, .inr (8, [.ref a2])), (a1, .inr (8, [.ref a3])), (a2, .inl (cI, 30, .inl f0)), (a3, .inl (cI, 30, .inl f1))] s.heap := hP
  replace hl : lv_has ls 2 [(0, .ref a0), (1, .ref a1)] := hl
  refine lv_aload_n (pc := 0) hx hb dX8_copyFrom_0 rfl (lv_at hl 1 rfl) ?_
  refine va_get (pc := 1) (ci := 8) (v := .ref a3) (C := RX8) (T := TX8) (N := 1) hx hb hts iX8 hown hK hP 1 rfl rfl 0 (by decide) (hts _ tw_62) (fun _ h9 => h9) rfl dX8_copyFrom_1 ?_
  refine lv_iconst (pc := 4) (v := 0) hx hb dX8_copyFrom_4 (by decide) ?_
  refine lv_aload_n (pc := 5) hx hb dX8_copyFrom_5 rfl (lv_at hl 0 rfl) ?_
  refine va_get (pc := 6) (ci := 8) (v := .ref a2) (C := RX8) (T := TX8) (N := 1) hx hb hts iX8 hown hK hP 0 rfl rfl 0 (by decide) (hts _ tw_62) (fun _ h9 => h9) rfl dX8_copyFrom_6 ?_
  refine lv_iconst (pc := 9) (v := 0) hx hb dX8_copyFrom_9 (by decide) ?_
  refine lv_aload_n (pc := 10) hx hb dX8_copyFrom_10 rfl (lv_at hl 0 rfl) ?_
  refine va_get (pc := 11) (ci := 8) (v := .ref a2) (C := RX8) (T := TX8) (N := 1) hx hb hts iX8 hown hK hP 0 rfl rfl 0 (by decide) (hts _ tw_62) (fun _ h9 => h9) rfl dX8_copyFrom_11 ?_
  refine va_alen (pc := 14) (v := 30) hx hb hK hP 2 2 rfl rfl rfl dX8_copyFrom_14 ?_
  refine g_copyi (pc := 15) hx hb (hml.trans hl.1.symm) hown (hts _ tw_743) (hts _ tw_745) (hts _ tw_744) (hts _ tw_20) hK hP hD hS 3 2 2 2 rfl rfl rfl rfl rfl (by decide +kernel) (by decide +kernel) (by decide +kernel) (by decide +kernel) (by decide +kernel) (fun _ _ => rfl) (Nat.le_of_ble_eq_true rfl) (Nat.le_of_ble_eq_true rfl) dX8_copyFrom_15 (fun f_1 H locs hP hD hS => ?_)
  replace hP : va_P D gcl [(a0, .inr (8, [.ref a2])), (a1, .inr (8, [.ref a3])), (a2, .inl (cI, 30, .inl f_1)), (a3, .inl (cI, 30, .inl f1))] H := hP
  replace hD : va_D A [(a0, .inr (8, [.ref a2])), (a1, .inr (8, [.ref a3])), (a2, .inl (cI, 30, .inl f_1)), (a3, .inl (cI, 30, .inl f1))] := hD
  exact hret ((fun _ => 0), (fun k => [f_1].getD k (fun _ => 0)), (fun _ => (fun _ => 0)), (fun _ => 0), (fun _ => 0)) dX8_copyFrom_18 trivial (g_psub (wc := [(a0, .inr (8, [.ref a2])), (a1, .inr (8, [.ref a3])), (a2, .inl (cI, 30, .inl f_1)), (a3, .inl (cI, 30, .inl f1))]) hP [0, 1, 2, 3] rfl) (hD.sub (ws' := [(a0, .inr (8, [.ref a2])), (a1, .inr (8, [.ref a3])), (a2, .inl (cI, 30, .inl f_1)), (a3, .inl (cI, 30, .inl f1))]) [0, 1, 2, 3] (by decide) rfl) hS
set_option maxHeartbeats 4000000 in
set_option maxRecDepth 100000 in
theorem k_X8_at (l : Launch) (D : va_G) (cB cC cI cJ : ClassId) (sz : Nat) (a0 a1 : Nat) (x0 x1 : Int32) (f0 : Nat → Int32) (hp1 : (0 ≤ x0.toInt ∧ x0.toInt ≤ 5)) (hp2 : (0 ≤ x1.toInt ∧ x1.toInt ≤ 4)) : Met l yX8_at (.code yX8_at cX8_at 3 (some .int) :: lw_gd) ({ frames := 0, cells := 0, slots := 0, locals := 0 }) (gPre D [(cB, .byte), (cC, .char), (cI, .int), (cJ, .long)] [.ref a0, .int x0, .int x1] [(a0, .inr (8, [.ref a1])), (a1, .inl (cI, 30, .inl f0))] sz) (va_Qi (fun r u => ((((-2147483648) ≤ r.toInt ∧ r.toInt ≤ 2147483647)))) (gB D (va_A [(a0, .inr (8, [.ref a1])), (a1, .inl (cI, 30, .inl f0))] sz) (fun u : gEx => [(a0, .inr (8, [.ref a1])), (a1, .inl (cI, 30, .inl f0))])) (va_A [(a0, .inr (8, [.ref a1])), (a1, .inl (cI, 30, .inl f0))] sz)) 0 0 (va_A [(a0, .inr (8, [.ref a1])), (a1, .inl (cI, 30, .inl f0))] sz) := by
  refine gOf_i (by decide +kernel) (Nat.le_of_ble_eq_true rfl) ?_
  intro p e s m args below meth c ls A Q hx hb hts hown hml hN hK hP hD hA hl hret
  replace hown : s.vm.findClass RX8 = some m.cls := hown
  have hS : va_S A s.heap s.heap [] := va_S.rf
  replace hP : va_P D gcl [(a0, .inr (8, [.ref a1])), (a1, .inl (cI, 30, .inl f0))] s.heap := hP
  replace hl : lv_has ls 3 [(0, .ref a0), (1, .int x0), (2, .int x1)] := hl
  refine lv_aload_n (pc := 0) hx hb dX8_at_0 rfl (lv_at hl 0 rfl) ?_
  refine va_get (pc := 1) (ci := 8) (v := .ref a1) (C := RX8) (T := TX8) (N := 1) hx hb hts iX8 hown hK hP 0 rfl rfl 0 (by decide) (hts _ tw_62) (fun _ h9 => h9) rfl dX8_at_1 ?_
  refine lv_iload_n (pc := 4) hx hb dX8_at_4 rfl (lv_at hl 2 rfl) ?_
  refine lv_bipush (pc := 5) (v := 6) hx hb dX8_at_5 (by decide) ?_
  refine b_imul (pc := 7) hx hb rfl tI_6 (by (first | omega | (unfold zBd at *; omega))) (by (first | omega | (unfold zBd at *; omega))) dX8_at_7 (fun x_1 ex_1 => ?_)
  refine lv_iload_n (pc := 8) hx hb dX8_at_8 rfl (lv_at hl 1 rfl) ?_
  refine b_iadd (pc := 9) hx hb rfl rfl (by (first | omega | (unfold zBd at *; omega))) (by (first | omega | (unfold zBd at *; omega))) dX8_at_9 (fun x_2 ex_2 => ?_)
  refine va_iald (pc := 10) hx hb hK hP 1 2 rfl rfl (n_in rfl (by (first | omega | (unfold zBd at *; omega))) (by (first | omega | (unfold zBd at *; omega)))) dX8_at_10 ?_
  refine lv_topi (fun x_3 ex_3 => ?_)
  have rx_3 : zBd x_3.toInt (-2147483648) 2147483647 := n_rng x_3
  exact hret x_3 ((fun _ => 0), (fun _ => (fun _ => 0)), (fun _ => (fun _ => 0)), (fun _ => 0), (fun _ => 0)) dX8_at_11 (show ((((-2147483648) ≤ x_3.toInt ∧ x_3.toInt ≤ 2147483647))) by (first | omega | (unfold zBd at *; omega))) (g_psub (wc := [(a0, .inr (8, [.ref a1])), (a1, .inl (cI, 30, .inl f0))]) hP [0, 1] rfl) (hD.sub (ws' := [(a0, .inr (8, [.ref a1])), (a1, .inl (cI, 30, .inl f0))]) [0, 1] (by decide) rfl) hS
set_option maxHeartbeats 4000000 in
set_option maxRecDepth 100000 in
theorem k_X8_productOf (l : Launch) (D : va_G) (cB cC cI cJ : ClassId) (sz : Nat) (a0 a1 : Nat) (x0 x1 : Int32) (f0 : Nat → Int32) (hp1 : (0 ≤ x0.toInt ∧ x0.toInt ≤ 4)) (hp2 : (0 ≤ x1.toInt ∧ x1.toInt ≤ 4)) : Met l yX8_productOf (.code yX8_productOf cX8_productOf 5 (some .int) :: lw_gd) ({ frames := 1, cells := 0, slots := 0, locals := 22 }) (gPre D [(cB, .byte), (cC, .char), (cI, .int), (cJ, .long)] [.ref a0, .int x0, .int x1] [(a0, .inr (8, [.ref a1])), (a1, .inl (cI, 30, .inl f0))] sz) (va_Qi (fun r u => ((((-2147483648) ≤ r.toInt ∧ r.toInt ≤ 2147483647)))) (gB D (va_A [(a0, .inr (8, [.ref a1])), (a1, .inl (cI, 30, .inl f0))] sz) (fun u : gEx => [(a0, .inr (8, [.ref a1])), (a1, .inl (cI, 30, .inl f0))])) (va_A [(a0, .inr (8, [.ref a1])), (a1, .inl (cI, 30, .inl f0))] sz)) 0 0 (va_A [(a0, .inr (8, [.ref a1])), (a1, .inl (cI, 30, .inl f0))] sz) := by
  refine gOf_i (by decide +kernel) (Nat.le_of_ble_eq_true rfl) ?_
  intro p e s m args below meth c ls A Q hx hb hts hown hml hN hK hP hD hA hl hret
  replace hown : s.vm.findClass RX8 = some m.cls := hown
  have hS : va_S A s.heap s.heap [] := va_S.rf
  replace hP : va_P D gcl [(a0, .inr (8, [.ref a1])), (a1, .inl (cI, 30, .inl f0))] s.heap := hP
  replace hl : lv_has ls 5 [(0, .ref a0), (1, .int x0), (2, .int x1)] := hl
  refine lv_iconst (pc := 0) (v := 0) hx hb dX8_productOf_0 (by decide) ?_
  refine lv_istore_n (pc := 1) (lv' := [(3, .int 0), (0, .ref a0), (1, .int x0), (2, .int x1)]) hx hb dX8_productOf_1 rfl hl (by decide) rfl (fun ls hl => ?_)
  refine lv_iconst (pc := 2) (v := 0) hx hb dX8_productOf_2 (by decide) ?_
  refine lv_istore (pc := 3) (lv' := [(4, .int 0), (3, .int 0), (0, .ref a0), (1, .int x0), (2, .int x1)]) hx hb dX8_productOf_3 hl (by decide) rfl (fun ls hl => ?_)
  have lp_5 : ∀ (n : Nat) (x_1 x_3 : Int32) (H : Heap) (locs : List Loc) (ls : Array Slot), (0 ≤ x_1.toInt ∧ x_1.toInt ≤ 2147483647) → (2147483647 - x_1.toInt).toNat < n → va_P D gcl [(a0, .inr (8, [.ref a1])), (a1, .inl (cI, 30, .inl f0))] H → va_D A [(a0, .inr (8, [.ref a1])), (a1, .inl (cI, 30, .inl f0))] → va_S A s.heap H locs → lv_has ls 5 [(4, .int x_1), (3, .int x_3), (0, .ref a0), (1, .int x0), (2, .int x1)] → W p l e ({ frames := 1, cells := 0, slots := 0, locals := 22 }) s m args below meth c H locs 0 0 Q (F0 m 5 ls []) := by
    intro n
    induction n with
    | zero => intro x_1 x_3 H locs ls hi_2 hmu; exact absurd hmu (Nat.not_lt_zero _)
    | succ n ih_lp_5 =>
      intro x_1 x_3 H locs ls hi_2 hmu_lp_5 hP hD hS hl
      have hi_4 := n_rng x_3
      refine lv_iload (pc := 5) hx hb dX8_productOf_5 (lv_at hl 0 rfl) ?_
      refine lv_bipush (pc := 7) (v := 6) hx hb dX8_productOf_7 (by decide) ?_
      refine b_icmp_ge (pc := 9) (tgt := 36) hx hb rfl tI_6  dX8_productOf_9 (by decide) (fun c_6 => ?_) (fun c_6 => ?_)
      ·
        refine lv_iload_n (pc := 36) hx hb dX8_productOf_36 rfl (lv_at hl 1 rfl) ?_
        exact hret x_3 ((fun _ => 0), (fun _ => (fun _ => 0)), (fun _ => (fun _ => 0)), (fun _ => 0), (fun _ => 0)) dX8_productOf_37 (show ((((-2147483648) ≤ x_3.toInt ∧ x_3.toInt ≤ 2147483647))) by (first | omega | (unfold zBd at *; omega))) (g_psub (wc := [(a0, .inr (8, [.ref a1])), (a1, .inl (cI, 30, .inl f0))]) hP [0, 1] rfl) (hD.sub (ws' := [(a0, .inr (8, [.ref a1])), (a1, .inl (cI, 30, .inl f0))]) [0, 1] (by decide) rfl) hS
      ·
        refine lv_iload_n (pc := 12) hx hb dX8_productOf_12 rfl (lv_at hl 1 rfl) ?_
        refine lv_aload_n (pc := 13) hx hb dX8_productOf_13 rfl (lv_at hl 2 rfl) ?_
        refine lv_iload (pc := 14) hx hb dX8_productOf_14 (lv_at hl 0 rfl) ?_
        refine lv_iload_n (pc := 16) hx hb dX8_productOf_16 rfl (lv_at hl 3 rfl) ?_
        refine gc_i (pc := 17) (wc := [(a0, .inr (8, [.ref a1])), (a1, .inl (cI, 30, .inl f0))]) (wr := []) hP hD hS hA [0, 1] [] rfl rfl (by decide) (by decide) (by decide) (fun hPc hDc => va_runV (As := [.int x_1, .int x0]) (rest := [.int x_3]) ⟨hx, hb, hml, hown, hts⟩ (k_X8_at l D cB cC cI cJ _ a0 a1 x_1 x0 f0 (by  (first | omega | (unfold zBd at *; omega))) hp1) ⟨gcwB hts tw_791 tw_5 tw_800 hd_yX8_at ⟨Nat.le_of_ble_eq_true rfl, Nat.le_of_ble_eq_true rfl⟩, hts _ tw_789, hts _ tw_790⟩ ⟨gblind, va_recv hK hPc (ci := 8) (q0 := 0) rfl rfl, (gpreS hPc hK hDc hN).2⟩ rfl rfl hl.1 rfl (lv_room (Nat.le_of_ble_eq_true rfl)) dX8_productOf_17 ⟨Nat.le_of_ble_eq_true rfl, Nat.le_of_ble_eq_true rfl⟩) (fun r_8 u_7 H locs hw_9 hP hD hS => ?_)
        replace hP : va_P D gcl [(a0, .inr (8, [.ref a1])), (a1, .inl (cI, 30, .inl f0))] H := hP
        replace hD : va_D A [(a0, .inr (8, [.ref a1])), (a1, .inl (cI, 30, .inl f0))] := hD
        have hw_10 : ((((-2147483648) ≤ r_8.toInt ∧ r_8.toInt ≤ 2147483647))) := hw_9
        have rr_8 : zBd r_8.toInt (-2147483648) 2147483647 := n_rng r_8
        refine lv_aload_n (pc := 20) hx hb dX8_productOf_20 rfl (lv_at hl 2 rfl) ?_
        refine lv_iload (pc := 21) hx hb dX8_productOf_21 (lv_at hl 0 rfl) ?_
        refine lv_iload_n (pc := 23) hx hb dX8_productOf_23 rfl (lv_at hl 4 rfl) ?_
        refine gc_i (pc := 24) (wc := [(a0, .inr (8, [.ref a1])), (a1, .inl (cI, 30, .inl f0))]) (wr := []) hP hD hS hA [0, 1] [] rfl rfl (by decide) (by decide) (by decide) (fun hPc hDc => va_runV (As := [.int x_1, .int x1]) (rest := [.int r_8, .int x_3]) ⟨hx, hb, hml, hown, hts⟩ (k_X8_at l D cB cC cI cJ _ a0 a1 x_1 x1 f0 (by  (first | omega | (unfold zBd at *; omega))) hp2) ⟨gcwB hts tw_791 tw_5 tw_800 hd_yX8_at ⟨Nat.le_of_ble_eq_true rfl, Nat.le_of_ble_eq_true rfl⟩, hts _ tw_789, hts _ tw_790⟩ ⟨gblind, va_recv hK hPc (ci := 8) (q0 := 0) rfl rfl, (gpreS hPc hK hDc hN).2⟩ rfl rfl hl.1 rfl (lv_room (Nat.le_of_ble_eq_true rfl)) dX8_productOf_24 ⟨Nat.le_of_ble_eq_true rfl, Nat.le_of_ble_eq_true rfl⟩) (fun r_12 u_11 H locs hw_13 hP hD hS => ?_)
        replace hP : va_P D gcl [(a0, .inr (8, [.ref a1])), (a1, .inl (cI, 30, .inl f0))] H := hP
        replace hD : va_D A [(a0, .inr (8, [.ref a1])), (a1, .inl (cI, 30, .inl f0))] := hD
        have hw_14 : ((((-2147483648) ≤ r_12.toInt ∧ r_12.toInt ≤ 2147483647))) := hw_13
        have rr_12 : zBd r_12.toInt (-2147483648) 2147483647 := n_rng r_12
        refine lv_imul (pc := 27) hx hb dX8_productOf_27 ?_
        refine lv_topi (fun x_15 _ => ?_)
        have rx_15 : zBd x_15.toInt (-2147483648) 2147483647 := n_rng x_15
        refine lv_iadd (pc := 28) hx hb dX8_productOf_28 ?_
        refine lv_topi (fun x_16 _ => ?_)
        have rx_16 : zBd x_16.toInt (-2147483648) 2147483647 := n_rng x_16
        refine lv_istore_n (pc := 29) (lv' := [(3, .int x_16), (4, .int x_1), (0, .ref a0), (1, .int x0), (2, .int x1)]) hx hb dX8_productOf_29 rfl hl (by decide) rfl (fun ls hl => ?_)
        refine b_iinc (pc := 30) hx hb dX8_productOf_30 hl (k := 1) rfl rfl tI_1 (by (first | omega | (unfold zBd at *; omega))) (by (first | omega | (unfold zBd at *; omega))) (by decide) (fun x_17 ex_17 ls hl => ?_)
        replace hl : lv_has ls 5 [(4, .int x_17), (3, .int x_16), (0, .ref a0), (1, .int x0), (2, .int x1)] := hl
        refine lv_goto (pc := 33) (tgt := 5) hx hb dX8_productOf_33 (by decide) ?_
        exact ih_lp_5 x_17 x_16 _ _ ls (by (first | omega | (unfold zBd at *; omega))) (by (first | omega | (unfold zBd at *; omega))) hP hD hS (lv_sub hl [0, 1, 2, 3, 4] rfl)
  exact lp_5 _ 0 0 _ _ ls (n_c tI_0 (by decide)) (Nat.lt_succ_self _) hP hD hS (lv_sub hl [0, 1, 2, 3, 4] rfl)
