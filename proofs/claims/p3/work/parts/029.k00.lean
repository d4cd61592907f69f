set_option maxHeartbeats 4000000 in
set_option maxRecDepth 100000 in
theorem k_X9_hasRoom (l : Launch) (D : va_G) (cB cC cI cJ : ClassId) (sz : Nat) (a0 a1 : Nat) (x0 x1 : Int32) (hp1 : (0 ≤ x0.toInt ∧ x0.toInt ≤ 100)) (h_x1 : (0 ≤ x1.toInt ∧ x1.toInt ≤ 1600)) : Met l yX9_hasRoom (.code yX9_hasRoom cX9_hasRoom 2 (some .boolean) :: lw_gd) ({ frames := 0, cells := 0, slots := 0, locals := 0 }) (gPre D [(cB, .byte), (cC, .char), (cI, .int), (cJ, .long)] [.ref a0, .int x0] [(a0, .inr (9, [.ref a1, .int x1]))] sz) (va_Qi (fun r u => ((r.toInt = 0 ∧ (x1.toInt) + (x0.toInt) > 1600) ∨ (r.toInt = 1 ∧ (x1.toInt) + (x0.toInt) ≤ 1600))) (gB D (va_A [(a0, .inr (9, [.ref a1, .int x1]))] sz) (fun u : gEx => [(a0, .inr (9, [.ref a1, .int x1]))])) (va_A [(a0, .inr (9, [.ref a1, .int x1]))] sz)) 0 0 (va_A [(a0, .inr (9, [.ref a1, .int x1]))] sz) := by
  refine gOf_z (by decide +kernel) (Nat.le_of_ble_eq_true rfl) ?_
  intro p e s m args below meth c ls A Q hx hb hts hown hml hN hK hP hD hA hl hret
  have hown : s.vm.findClass RX9 = some m.cls := hown
  have hS : va_S A s.heap s.heap [] := va_S.rf
  have hP : va_P D gcl [(a0, .inr (9, [.ref a1, .int x1]))] s.heap := hP
  have hl : lv_has ls 2 [(0, .ref a0), (1, .int x0)] := hl
  refine lv_aload_n (pc := 0) hx hb dX9_hasRoom_0 rfl (lv_at hl 0 rfl) ?_
  refine va_get (pc := 1) (ci := 9) (v := .int x1) (C := RX9) (T := TX9) (N := 2) hx hb hts iX9 hown hK hP 0 rfl rfl 1 (by decide) (hts _ tw_43) (fun _ h9 => h9) rfl dX9_hasRoom_1 ?_
  refine lv_iload_n (pc := 4) hx hb dX9_hasRoom_4 rfl (lv_at hl 1 rfl) ?_
  refine b_iadd (pc := 5) hx hb rfl rfl (by omega) (by omega) dX9_hasRoom_5 (fun x_1 ex_1 => ?_)
  refine lv_sipush (pc := 6) (v := 1600) hx hb dX9_hasRoom_6 (by decide) ?_
  refine b_icmp_gt (pc := 9) (tgt := 16) hx hb rfl tI_1600  dX9_hasRoom_9 (by decide) (fun c_2 => ?_) (fun c_2 => ?_)
  ·
    refine lv_iconst (pc := 16) (v := 0) hx hb dX9_hasRoom_16 (by decide) ?_
    exact hret 0 ((fun _ => 0), (fun _ => (fun _ => 0)), (fun _ => (fun _ => 0)), (fun _ => 0), (fun _ => 0)) dX9_hasRoom_17 ⟨(by have k9 := tI_0; omega), (show (((0 : Int32).toInt = 0 ∧ (x1.toInt) + (x0.toInt) > 1600) ∨ ((0 : Int32).toInt = 1 ∧ (x1.toInt) + (x0.toInt) ≤ 1600)) by have k9 := tI_0; omega)⟩ (g_psub (wc := [(a0, .inr (9, [.ref a1, .int x1]))]) hP [0] rfl) (hD.sub (ws' := [(a0, .inr (9, [.ref a1, .int x1]))]) [0] (by decide) rfl) hS
  ·
    refine lv_iconst (pc := 12) (v := 1) hx hb dX9_hasRoom_12 (by decide) ?_
    refine lv_goto (pc := 13) (tgt := 17) hx hb dX9_hasRoom_13 (by decide) ?_
    exact hret 1 ((fun _ => 0), (fun _ => (fun _ => 0)), (fun _ => (fun _ => 0)), (fun _ => 0), (fun _ => 0)) dX9_hasRoom_17 ⟨(by have k9 := tI_1; omega), (show (((1 : Int32).toInt = 0 ∧ (x1.toInt) + (x0.toInt) > 1600) ∨ ((1 : Int32).toInt = 1 ∧ (x1.toInt) + (x0.toInt) ≤ 1600)) by have k9 := tI_1; omega)⟩ (g_psub (wc := [(a0, .inr (9, [.ref a1, .int x1]))]) hP [0] rfl) (hD.sub (ws' := [(a0, .inr (9, [.ref a1, .int x1]))]) [0] (by decide) rfl) hS
set_option maxHeartbeats 4000000 in
set_option maxRecDepth 100000 in
theorem k_X9_addNumber (l : Launch) (D : va_G) (cB cC cI cJ : ClassId) (sz : Nat) (a0 a1 : Nat) (x0 x1 : Int32) (f0 : Nat → Int32) (h_x1 : (0 ≤ x1.toInt ∧ x1.toInt ≤ 1600)) : Met l yX9_addNumber (.code yX9_addNumber cX9_addNumber 3 none :: lw_gd) ({ frames := 0, cells := 0, slots := 0, locals := 0 }) (gPre D [(cB, .byte), (cC, .char), (cI, .int), (cJ, .long)] [.ref a0, .int x0] [(a0, .inr (9, [.ref a1, .int x1])), (a1, .inl (cB, 1600, .inl f0))] sz) (va_Qv (fun u => ((24 ≥ 0 ∧ x1.toInt ≥ 1600 ∧ (u.2.2.2.1 0).toInt = x1.toInt) ∨ (24 ≥ 0 ∧ x1.toInt < 1600 ∧ 16 ≥ 0 ∧ (x1.toInt) + (1) ≥ 1600 ∧ (u.2.2.2.1 0).toInt = (x1.toInt) + (1)) ∨ (24 ≥ 0 ∧ x1.toInt < 1600 ∧ 16 ≥ 0 ∧ (x1.toInt) + (1) < 1600 ∧ 8 ≥ 0 ∧ ((x1.toInt) + (1)) + (1) ≥ 1600 ∧ (u.2.2.2.1 0).toInt = ((x1.toInt) + (1)) + (1)) ∨ (24 ≥ 0 ∧ x1.toInt < 1600 ∧ 16 ≥ 0 ∧ (x1.toInt) + (1) < 1600 ∧ 8 ≥ 0 ∧ ((x1.toInt) + (1)) + (1) < 1600 ∧ 0 ≥ 0 ∧ (((x1.toInt) + (1)) + (1)) + (1) ≥ 1600 ∧ (u.2.2.2.1 0).toInt = (((x1.toInt) + (1)) + (1)) + (1)) ∨ (24 ≥ 0 ∧ x1.toInt < 1600 ∧ 16 ≥ 0 ∧ (x1.toInt) + (1) < 1600 ∧ 8 ≥ 0 ∧ ((x1.toInt) + (1)) + (1) < 1600 ∧ 0 ≥ 0 ∧ (((x1.toInt) + (1)) + (1)) + (1) < 1600 ∧ (-8) < 0 ∧ (u.2.2.2.1 0).toInt = ((((x1.toInt) + (1)) + (1)) + (1)) + (1))) ∧ (0 ≤ (u.2.2.2.1 0).toInt ∧ (u.2.2.2.1 0).toInt ≤ 1600)) (gB D (va_A [(a0, .inr (9, [.ref a1, .int x1])), (a1, .inl (cB, 1600, .inl f0))] sz) (fun u : gEx => [(a0, .inr (9, [.ref a1, .int (u.2.2.2.1 0)])), (a1, .inl (cB, 1600, .inl (u.2.1 0)))])) (va_A [(a0, .inr (9, [.ref a1, .int x1])), (a1, .inl (cB, 1600, .inl f0))] sz)) 0 0 (va_A [(a0, .inr (9, [.ref a1, .int x1])), (a1, .inl (cB, 1600, .inl f0))] sz) := by
  refine gOf_v (by decide +kernel) (Nat.le_of_ble_eq_true rfl) ?_
  intro p e s m args below meth c ls A Q hx hb hts hown hml hN hK hP hD hA hl hret
  have hown : s.vm.findClass RX9 = some m.cls := hown
  have hS : va_S A s.heap s.heap [] := va_S.rf
  have hP : va_P D gcl [(a0, .inr (9, [.ref a1, .int x1])), (a1, .inl (cB, 1600, .inl f0))] s.heap := hP
  have hl : lv_has ls 3 [(0, .ref a0), (1, .int x0)] := hl
  have rx0 := n_rng x0
  refine lv_bipush (pc := 0) (v := 24) hx hb dX9_addNumber_0 (by decide) ?_
  refine lv_istore_n (pc := 2) (lv' := [(2, .int 24), (0, .ref a0), (1, .int x0)]) hx hb dX9_addNumber_2 rfl hl (by decide) rfl (fun ls hl => ?_)
  refine lv_iload_n (pc := 3) hx hb dX9_addNumber_3 rfl (lv_at hl 0 rfl) ?_
  refine b_if_lt (pc := 4) (tgt := 46) hx hb tI_24  dX9_addNumber_4 (by decide) (fun c_1 => absurd c_1 (by omega)) (fun c_1 => ?_)
  refine lv_aload_n (pc := 7) hx hb dX9_addNumber_7 rfl (lv_at hl 1 rfl) ?_
  refine va_get (pc := 8) (ci := 9) (v := .int x1) (C := RX9) (T := TX9) (N := 2) hx hb hts iX9 hown hK hP 0 rfl rfl 1 (by decide) (hts _ tw_43) (fun _ h9 => h9) rfl dX9_addNumber_8 ?_
  refine lv_sipush (pc := 11) (v := 1600) hx hb dX9_addNumber_11 (by decide) ?_
  refine b_icmp_ge (pc := 14) (tgt := 46) hx hb rfl tI_1600  dX9_addNumber_14 (by decide) (fun c_2 => ?_) (fun c_2 => ?_)
  ·
    exact hret ((fun _ => 0), (fun k => [f0].getD k (fun _ => 0)), (fun _ => (fun _ => 0)), (fun k => [x1].getD k 0), (fun _ => 0)) dX9_addNumber_46 ⟨(show ((24 ≥ 0 ∧ x1.toInt ≥ 1600 ∧ (x1 : Int32).toInt = x1.toInt) ∨ (24 ≥ 0 ∧ x1.toInt < 1600 ∧ 16 ≥ 0 ∧ (x1.toInt) + (1) ≥ 1600 ∧ (x1 : Int32).toInt = (x1.toInt) + (1)) ∨ (24 ≥ 0 ∧ x1.toInt < 1600 ∧ 16 ≥ 0 ∧ (x1.toInt) + (1) < 1600 ∧ 8 ≥ 0 ∧ ((x1.toInt) + (1)) + (1) ≥ 1600 ∧ (x1 : Int32).toInt = ((x1.toInt) + (1)) + (1)) ∨ (24 ≥ 0 ∧ x1.toInt < 1600 ∧ 16 ≥ 0 ∧ (x1.toInt) + (1) < 1600 ∧ 8 ≥ 0 ∧ ((x1.toInt) + (1)) + (1) < 1600 ∧ 0 ≥ 0 ∧ (((x1.toInt) + (1)) + (1)) + (1) ≥ 1600 ∧ (x1 : Int32).toInt = (((x1.toInt) + (1)) + (1)) + (1)) ∨ (24 ≥ 0 ∧ x1.toInt < 1600 ∧ 16 ≥ 0 ∧ (x1.toInt) + (1) < 1600 ∧ 8 ≥ 0 ∧ ((x1.toInt) + (1)) + (1) < 1600 ∧ 0 ≥ 0 ∧ (((x1.toInt) + (1)) + (1)) + (1) < 1600 ∧ (-8) < 0 ∧ (x1 : Int32).toInt = ((((x1.toInt) + (1)) + (1)) + (1)) + (1))) by omega), (show (0 ≤ (x1 : Int32).toInt ∧ (x1 : Int32).toInt ≤ 1600) by omega)⟩ (g_psub (wc := [(a0, .inr (9, [.ref a1, .int x1])), (a1, .inl (cB, 1600, .inl f0))]) hP [0, 1] rfl) (hD.sub (ws' := [(a0, .inr (9, [.ref a1, .int x1])), (a1, .inl (cB, 1600, .inl f0))]) [0, 1] (by decide) rfl) hS
  ·
    refine lv_aload_n (pc := 17) hx hb dX9_addNumber_17 rfl (lv_at hl 1 rfl) ?_
    refine va_get (pc := 18) (ci := 9) (v := .ref a1) (C := RX9) (T := TX9) (N := 2) hx hb hts iX9 hown hK hP 0 rfl rfl 0 (by decide) (hts _ tw_42) (fun _ h9 => h9) rfl dX9_addNumber_18 ?_
    refine lv_aload_n (pc := 21) hx hb dX9_addNumber_21 rfl (lv_at hl 1 rfl) ?_
    refine va_get (pc := 22) (ci := 9) (v := .int x1) (C := RX9) (T := TX9) (N := 2) hx hb hts iX9 hown hK hP 0 rfl rfl 1 (by decide) (hts _ tw_43) (fun _ h9 => h9) rfl dX9_addNumber_22 ?_
    refine lv_iload_n (pc := 25) hx hb dX9_addNumber_25 rfl (lv_at hl 2 rfl) ?_
    refine lv_iload_n (pc := 26) hx hb dX9_addNumber_26 rfl (lv_at hl 0 rfl) ?_
    refine lv_ishr (pc := 27) hx hb dX9_addNumber_27 ?_
    refine lv_topi (fun x_3 _ => ?_)
    have rx_3 := n_rng x_3
    refine lv_i2b (pc := 28) hx hb dX9_addNumber_28 rfl ?_
    refine lv_topi (fun x_4 _ => ?_)
    have rx_4 := n_rng x_4
    refine g_bastore (pc := 29) hx hb hK hP hD hS 1 0 rfl rfl (n_in rfl (by omega) (by omega)) dX9_addNumber_29 (fun f_5 H locs hP hD hS => ?_)
    have hP : va_P D gcl [(a0, .inr (9, [.ref a1, .int x1])), (a1, .inl (cB, 1600, .inl f_5))] H := hP
    have hD : va_D A [(a0, .inr (9, [.ref a1, .int x1])), (a1, .inl (cB, 1600, .inl f_5))] := hD
    refine lv_aload_n (pc := 30) hx hb dX9_addNumber_30 rfl (lv_at hl 1 rfl) ?_
    refine lv_dup (pc := 31) hx hb dX9_addNumber_31 rfl ?_
    refine va_get (pc := 32) (ci := 9) (v := .int x1) (C := RX9) (T := TX9) (N := 2) hx hb hts iX9 hown hK hP 0 rfl rfl 1 (by decide) (hts _ tw_43) (fun _ h9 => h9) rfl dX9_addNumber_32 ?_
    refine lv_iconst (pc := 35) (v := 1) hx hb dX9_addNumber_35 (by decide) ?_
    refine b_iadd (pc := 36) hx hb rfl tI_1 (by omega) (by omega) dX9_addNumber_36 (fun x_6 ex_6 => ?_)
    refine va_put (pc := 37) (ci := 9) (v := .int x_6) (ty := .int) (C := RX9) (T := TX9) (N := 2) hx hb hts iX9 tyX9 tyX9_ok nmX9 hown hK hP hD hS 0 rfl rfl 1 (by decide) (hts _ tw_43) (fun _ h9 => h9) rfl (by decide +kernel) rfl rfl (Nat.le_of_ble_eq_true rfl) dX9_addNumber_37 (fun H locs hP hD hS => ?_)
    have hP : va_P D gcl [(a0, .inr (9, [.ref a1, .int x_6])), (a1, .inl (cB, 1600, .inl f_5))] H := hP
    have hD : va_D A [(a0, .inr (9, [.ref a1, .int x_6])), (a1, .inl (cB, 1600, .inl f_5))] := hD
    refine lv_iinc (pc := 40) (v := 16) (lv' := [(2, .int 16), (0, .ref a0), (1, .int x0)]) hx hb dX9_addNumber_40 hl (k := 0) rfl (by decide +kernel) (by decide) rfl (fun ls hl => ?_)
    refine lv_goto (pc := 43) (tgt := 3) hx hb dX9_addNumber_43 (by decide) ?_
    refine lv_iload_n (pc := 3) hx hb dX9_addNumber_3 rfl (lv_at hl 0 rfl) ?_
    refine b_if_lt (pc := 4) (tgt := 46) hx hb tI_16  dX9_addNumber_4 (by decide) (fun c_7 => absurd c_7 (by omega)) (fun c_7 => ?_)
    refine lv_aload_n (pc := 7) hx hb dX9_addNumber_7 rfl (lv_at hl 1 rfl) ?_
    refine va_get (pc := 8) (ci := 9) (v := .int x_6) (C := RX9) (T := TX9) (N := 2) hx hb hts iX9 hown hK hP 0 rfl rfl 1 (by decide) (hts _ tw_43) (fun _ h9 => h9) rfl dX9_addNumber_8 ?_
    refine lv_sipush (pc := 11) (v := 1600) hx hb dX9_addNumber_11 (by decide) ?_
    refine b_icmp_ge (pc := 14) (tgt := 46) hx hb rfl tI_1600  dX9_addNumber_14 (by decide) (fun c_8 => ?_) (fun c_8 => ?_)
    ·
      exact hret ((fun _ => 0), (fun k => [f_5].getD k (fun _ => 0)), (fun _ => (fun _ => 0)), (fun k => [x_6].getD k 0), (fun _ => 0)) dX9_addNumber_46 ⟨(show ((24 ≥ 0 ∧ x1.toInt ≥ 1600 ∧ (x_6 : Int32).toInt = x1.toInt) ∨ (24 ≥ 0 ∧ x1.toInt < 1600 ∧ 16 ≥ 0 ∧ (x1.toInt) + (1) ≥ 1600 ∧ (x_6 : Int32).toInt = (x1.toInt) + (1)) ∨ (24 ≥ 0 ∧ x1.toInt < 1600 ∧ 16 ≥ 0 ∧ (x1.toInt) + (1) < 1600 ∧ 8 ≥ 0 ∧ ((x1.toInt) + (1)) + (1) ≥ 1600 ∧ (x_6 : Int32).toInt = ((x1.toInt) + (1)) + (1)) ∨ (24 ≥ 0 ∧ x1.toInt < 1600 ∧ 16 ≥ 0 ∧ (x1.toInt) + (1) < 1600 ∧ 8 ≥ 0 ∧ ((x1.toInt) + (1)) + (1) < 1600 ∧ 0 ≥ 0 ∧ (((x1.toInt) + (1)) + (1)) + (1) ≥ 1600 ∧ (x_6 : Int32).toInt = (((x1.toInt) + (1)) + (1)) + (1)) ∨ (24 ≥ 0 ∧ x1.toInt < 1600 ∧ 16 ≥ 0 ∧ (x1.toInt) + (1) < 1600 ∧ 8 ≥ 0 ∧ ((x1.toInt) + (1)) + (1) < 1600 ∧ 0 ≥ 0 ∧ (((x1.toInt) + (1)) + (1)) + (1) < 1600 ∧ (-8) < 0 ∧ (x_6 : Int32).toInt = ((((x1.toInt) + (1)) + (1)) + (1)) + (1))) by omega), (show (0 ≤ (x_6 : Int32).toInt ∧ (x_6 : Int32).toInt ≤ 1600) by omega)⟩ (g_psub (wc := [(a0, .inr (9, [.ref a1, .int x_6])), (a1, .inl (cB, 1600, .inl f_5))]) hP [0, 1] rfl) (hD.sub (ws' := [(a0, .inr (9, [.ref a1, .int x_6])), (a1, .inl (cB, 1600, .inl f_5))]) [0, 1] (by decide) rfl) hS
    ·
      refine lv_aload_n (pc := 17) hx hb dX9_addNumber_17 rfl (lv_at hl 1 rfl) ?_
      refine va_get (pc := 18) (ci := 9) (v := .ref a1) (C := RX9) (T := TX9) (N := 2) hx hb hts iX9 hown hK hP 0 rfl rfl 0 (by decide) (hts _ tw_42) (fun _ h9 => h9) rfl dX9_addNumber_18 ?_
      refine lv_aload_n (pc := 21) hx hb dX9_addNumber_21 rfl (lv_at hl 1 rfl) ?_
      refine va_get (pc := 22) (ci := 9) (v := .int x_6) (C := RX9) (T := TX9) (N := 2) hx hb hts iX9 hown hK hP 0 rfl rfl 1 (by decide) (hts _ tw_43) (fun _ h9 => h9) rfl dX9_addNumber_22 ?_
      refine lv_iload_n (pc := 25) hx hb dX9_addNumber_25 rfl (lv_at hl 2 rfl) ?_
      refine lv_iload_n (pc := 26) hx hb dX9_addNumber_26 rfl (lv_at hl 0 rfl) ?_
      refine lv_ishr (pc := 27) hx hb dX9_addNumber_27 ?_
      refine lv_topi (fun x_9 _ => ?_)
      have rx_9 := n_rng x_9
      refine lv_i2b (pc := 28) hx hb dX9_addNumber_28 rfl ?_
      refine lv_topi (fun x_10 _ => ?_)
      have rx_10 := n_rng x_10
      refine g_bastore (pc := 29) hx hb hK hP hD hS 1 0 rfl rfl (n_in rfl (by omega) (by omega)) dX9_addNumber_29 (fun f_11 H locs hP hD hS => ?_)
      have hP : va_P D gcl [(a0, .inr (9, [.ref a1, .int x_6])), (a1, .inl (cB, 1600, .inl f_11))] H := hP
      have hD : va_D A [(a0, .inr (9, [.ref a1, .int x_6])), (a1, .inl (cB, 1600, .inl f_11))] := hD
      refine lv_aload_n (pc := 30) hx hb dX9_addNumber_30 rfl (lv_at hl 1 rfl) ?_
      refine lv_dup (pc := 31) hx hb dX9_addNumber_31 rfl ?_
      refine va_get (pc := 32) (ci := 9) (v := .int x_6) (C := RX9) (T := TX9) (N := 2) hx hb hts iX9 hown hK hP 0 rfl rfl 1 (by decide) (hts _ tw_43) (fun _ h9 => h9) rfl dX9_addNumber_32 ?_
      refine lv_iconst (pc := 35) (v := 1) hx hb dX9_addNumber_35 (by decide) ?_
      refine b_iadd (pc := 36) hx hb rfl tI_1 (by omega) (by omega) dX9_addNumber_36 (fun x_12 ex_12 => ?_)
      refine va_put (pc := 37) (ci := 9) (v := .int x_12) (ty := .int) (C := RX9) (T := TX9) (N := 2) hx hb hts iX9 tyX9 tyX9_ok nmX9 hown hK hP hD hS 0 rfl rfl 1 (by decide) (hts _ tw_43) (fun _ h9 => h9) rfl (by decide +kernel) rfl rfl (Nat.le_of_ble_eq_true rfl) dX9_addNumber_37 (fun H locs hP hD hS => ?_)
      have hP : va_P D gcl [(a0, .inr (9, [.ref a1, .int x_12])), (a1, .inl (cB, 1600, .inl f_11))] H := hP
      have hD : va_D A [(a0, .inr (9, [.ref a1, .int x_12])), (a1, .inl (cB, 1600, .inl f_11))] := hD
      refine lv_iinc (pc := 40) (v := 8) (lv' := [(2, .int 8), (0, .ref a0), (1, .int x0)]) hx hb dX9_addNumber_40 hl (k := 0) rfl (by decide +kernel) (by decide) rfl (fun ls hl => ?_)
      refine lv_goto (pc := 43) (tgt := 3) hx hb dX9_addNumber_43 (by decide) ?_
      refine lv_iload_n (pc := 3) hx hb dX9_addNumber_3 rfl (lv_at hl 0 rfl) ?_
      refine b_if_lt (pc := 4) (tgt := 46) hx hb tI_8  dX9_addNumber_4 (by decide) (fun c_13 => absurd c_13 (by omega)) (fun c_13 => ?_)
      refine lv_aload_n (pc := 7) hx hb dX9_addNumber_7 rfl (lv_at hl 1 rfl) ?_
      refine va_get (pc := 8) (ci := 9) (v := .int x_12) (C := RX9) (T := TX9) (N := 2) hx hb hts iX9 hown hK hP 0 rfl rfl 1 (by decide) (hts _ tw_43) (fun _ h9 => h9) rfl dX9_addNumber_8 ?_
      refine lv_sipush (pc := 11) (v := 1600) hx hb dX9_addNumber_11 (by decide) ?_
      refine b_icmp_ge (pc := 14) (tgt := 46) hx hb rfl tI_1600  dX9_addNumber_14 (by decide) (fun c_14 => ?_) (fun c_14 => ?_)
      ·
        exact hret ((fun _ => 0), (fun k => [f_11].getD k (fun _ => 0)), (fun _ => (fun _ => 0)), (fun k => [x_12].getD k 0), (fun _ => 0)) dX9_addNumber_46 ⟨(show ((24 ≥ 0 ∧ x1.toInt ≥ 1600 ∧ (x_12 : Int32).toInt = x1.toInt) ∨ (24 ≥ 0 ∧ x1.toInt < 1600 ∧ 16 ≥ 0 ∧ (x1.toInt) + (1) ≥ 1600 ∧ (x_12 : Int32).toInt = (x1.toInt) + (1)) ∨ (24 ≥ 0 ∧ x1.toInt < 1600 ∧ 16 ≥ 0 ∧ (x1.toInt) + (1) < 1600 ∧ 8 ≥ 0 ∧ ((x1.toInt) + (1)) + (1) ≥ 1600 ∧ (x_12 : Int32).toInt = ((x1.toInt) + (1)) + (1)) ∨ (24 ≥ 0 ∧ x1.toInt < 1600 ∧ 16 ≥ 0 ∧ (x1.toInt) + (1) < 1600 ∧ 8 ≥ 0 ∧ ((x1.toInt) + (1)) + (1) < 1600 ∧ 0 ≥ 0 ∧ (((x1.toInt) + (1)) + (1)) + (1) ≥ 1600 ∧ (x_12 : Int32).toInt = (((x1.toInt) + (1)) + (1)) + (1)) ∨ (24 ≥ 0 ∧ x1.toInt < 1600 ∧ 16 ≥ 0 ∧ (x1.toInt) + (1) < 1600 ∧ 8 ≥ 0 ∧ ((x1.toInt) + (1)) + (1) < 1600 ∧ 0 ≥ 0 ∧ (((x1.toInt) + (1)) + (1)) + (1) < 1600 ∧ (-8) < 0 ∧ (x_12 : Int32).toInt = ((((x1.toInt) + (1)) + (1)) + (1)) + (1))) by omega), (show (0 ≤ (x_12 : Int32).toInt ∧ (x_12 : Int32).toInt ≤ 1600) by omega)⟩ (g_psub (wc := [(a0, .inr (9, [.ref a1, .int x_12])), (a1, .inl (cB, 1600, .inl f_11))]) hP [0, 1] rfl) (hD.sub (ws' := [(a0, .inr (9, [.ref a1, .int x_12])), (a1, .inl (cB, 1600, .inl f_11))]) [0, 1] (by decide) rfl) hS
      ·
        refine lv_aload_n (pc := 17) hx hb dX9_addNumber_17 rfl (lv_at hl 1 rfl) ?_
        refine va_get (pc := 18) (ci := 9) (v := .ref a1) (C := RX9) (T := TX9) (N := 2) hx hb hts iX9 hown hK hP 0 rfl rfl 0 (by decide) (hts _ tw_42) (fun _ h9 => h9) rfl dX9_addNumber_18 ?_
        refine lv_aload_n (pc := 21) hx hb dX9_addNumber_21 rfl (lv_at hl 1 rfl) ?_
        refine va_get (pc := 22) (ci := 9) (v := .int x_12) (C := RX9) (T := TX9) (N := 2) hx hb hts iX9 hown hK hP 0 rfl rfl 1 (by decide) (hts _ tw_43) (fun _ h9 => h9) rfl dX9_addNumber_22 ?_
        refine lv_iload_n (pc := 25) hx hb dX9_addNumber_25 rfl (lv_at hl 2 rfl) ?_
        refine lv_iload_n (pc := 26) hx hb dX9_addNumber_26 rfl (lv_at hl 0 rfl) ?_
        refine lv_ishr (pc := 27) hx hb dX9_addNumber_27 ?_
        refine lv_topi (fun x_15 _ => ?_)
        have rx_15 := n_rng x_15
        refine lv_i2b (pc := 28) hx hb dX9_addNumber_28 rfl ?_
        refine lv_topi (fun x_16 _ => ?_)
        have rx_16 := n_rng x_16
        refine g_bastore (pc := 29) hx hb hK hP hD hS 1 0 rfl rfl (n_in rfl (by omega) (by omega)) dX9_addNumber_29 (fun f_17 H locs hP hD hS => ?_)
        have hP : va_P D gcl [(a0, .inr (9, [.ref a1, .int x_12])), (a1, .inl (cB, 1600, .inl f_17))] H := hP
        have hD : va_D A [(a0, .inr (9, [.ref a1, .int x_12])), (a1, .inl (cB, 1600, .inl f_17))] := hD
        refine lv_aload_n (pc := 30) hx hb dX9_addNumber_30 rfl (lv_at hl 1 rfl) ?_
        refine lv_dup (pc := 31) hx hb dX9_addNumber_31 rfl ?_
        refine va_get (pc := 32) (ci := 9) (v := .int x_12) (C := RX9) (T := TX9) (N := 2) hx hb hts iX9 hown hK hP 0 rfl rfl 1 (by decide) (hts _ tw_43) (fun _ h9 => h9) rfl dX9_addNumber_32 ?_
        refine lv_iconst (pc := 35) (v := 1) hx hb dX9_addNumber_35 (by decide) ?_
        refine b_iadd (pc := 36) hx hb rfl tI_1 (by omega) (by omega) dX9_addNumber_36 (fun x_18 ex_18 => ?_)
        refine va_put (pc := 37) (ci := 9) (v := .int x_18) (ty := .int) (C := RX9) (T := TX9) (N := 2) hx hb hts iX9 tyX9 tyX9_ok nmX9 hown hK hP hD hS 0 rfl rfl 1 (by decide) (hts _ tw_43) (fun _ h9 => h9) rfl (by decide +kernel) rfl rfl (Nat.le_of_ble_eq_true rfl) dX9_addNumber_37 (fun H locs hP hD hS => ?_)
        have hP : va_P D gcl [(a0, .inr (9, [.ref a1, .int x_18])), (a1, .inl (cB, 1600, .inl f_17))] H := hP
        have hD : va_D A [(a0, .inr (9, [.ref a1, .int x_18])), (a1, .inl (cB, 1600, .inl f_17))] := hD
        refine lv_iinc (pc := 40) (v := 0) (lv' := [(2, .int 0), (0, .ref a0), (1, .int x0)]) hx hb dX9_addNumber_40 hl (k := 0) rfl (by decide +kernel) (by decide) rfl (fun ls hl => ?_)
        refine lv_goto (pc := 43) (tgt := 3) hx hb dX9_addNumber_43 (by decide) ?_
        refine lv_iload_n (pc := 3) hx hb dX9_addNumber_3 rfl (lv_at hl 0 rfl) ?_
        refine b_if_lt (pc := 4) (tgt := 46) hx hb tI_0  dX9_addNumber_4 (by decide) (fun c_19 => absurd c_19 (by omega)) (fun c_19 => ?_)
        refine lv_aload_n (pc := 7) hx hb dX9_addNumber_7 rfl (lv_at hl 1 rfl) ?_
        refine va_get (pc := 8) (ci := 9) (v := .int x_18) (C := RX9) (T := TX9) (N := 2) hx hb hts iX9 hown hK hP 0 rfl rfl 1 (by decide) (hts _ tw_43) (fun _ h9 => h9) rfl dX9_addNumber_8 ?_
        refine lv_sipush (pc := 11) (v := 1600) hx hb dX9_addNumber_11 (by decide) ?_
        refine b_icmp_ge (pc := 14) (tgt := 46) hx hb rfl tI_1600  dX9_addNumber_14 (by decide) (fun c_20 => ?_) (fun c_20 => ?_)
        ·
          exact hret ((fun _ => 0), (fun k => [f_17].getD k (fun _ => 0)), (fun _ => (fun _ => 0)), (fun k => [x_18].getD k 0), (fun _ => 0)) dX9_addNumber_46 ⟨(show ((24 ≥ 0 ∧ x1.toInt ≥ 1600 ∧ (x_18 : Int32).toInt = x1.toInt) ∨ (24 ≥ 0 ∧ x1.toInt < 1600 ∧ 16 ≥ 0 ∧ (x1.toInt) + (1) ≥ 1600 ∧ (x_18 : Int32).toInt = (x1.toInt) + (1)) ∨ (24 ≥ 0 ∧ x1.toInt < 1600 ∧ 16 ≥ 0 ∧ (x1.toInt) + (1) < 1600 ∧ 8 ≥ 0 ∧ ((x1.toInt) + (1)) + (1) ≥ 1600 ∧ (x_18 : Int32).toInt = ((x1.toInt) + (1)) + (1)) ∨ (24 ≥ 0 ∧ x1.toInt < 1600 ∧ 16 ≥ 0 ∧ (x1.toInt) + (1) < 1600 ∧ 8 ≥ 0 ∧ ((x1.toInt) + (1)) + (1) < 1600 ∧ 0 ≥ 0 ∧ (((x1.toInt) + (1)) + (1)) + (1) ≥ 1600 ∧ (x_18 : Int32).toInt = (((x1.toInt) + (1)) + (1)) + (1)) ∨ (24 ≥ 0 ∧ x1.toInt < 1600 ∧ 16 ≥ 0 ∧ (x1.toInt) + (1) < 1600 ∧ 8 ≥ 0 ∧ ((x1.toInt) + (1)) + (1) < 1600 ∧ 0 ≥ 0 ∧ (((x1.toInt) + (1)) + (1)) + (1) < 1600 ∧ (-8) < 0 ∧ (x_18 : Int32).toInt = ((((x1.toInt) + (1)) + (1)) + (1)) + (1))) by omega), (show (0 ≤ (x_18 : Int32).toInt ∧ (x_18 : Int32).toInt ≤ 1600) by omega)⟩ (g_psub (wc := [(a0, .inr (9, [.ref a1, .int x_18])), (a1, .inl (cB, 1600, .inl f_17))]) hP [0, 1] rfl) (hD.sub (ws' := [(a0, .inr (9, [.ref a1, .int x_18])), (a1, .inl (cB, 1600, .inl f_17))]) [0, 1] (by decide) rfl) hS
        ·
          refine lv_aload_n (pc := 17) hx hb dX9_addNumber_17 rfl (lv_at hl 1 rfl) ?_
          refine va_get (pc := 18) (ci := 9) (v := .ref a1) (C := RX9) (T := TX9) (N := 2) hx hb hts iX9 hown hK hP 0 rfl rfl 0 (by decide) (hts _ tw_42) (fun _ h9 => h9) rfl dX9_addNumber_18 ?_
          refine lv_aload_n (pc := 21) hx hb dX9_addNumber_21 rfl (lv_at hl 1 rfl) ?_
          refine va_get (pc := 22) (ci := 9) (v := .int x_18) (C := RX9) (T := TX9) (N := 2) hx hb hts iX9 hown hK hP 0 rfl rfl 1 (by decide) (hts _ tw_43) (fun _ h9 => h9) rfl dX9_addNumber_22 ?_
          refine lv_iload_n (pc := 25) hx hb dX9_addNumber_25 rfl (lv_at hl 2 rfl) ?_
          refine lv_iload_n (pc := 26) hx hb dX9_addNumber_26 rfl (lv_at hl 0 rfl) ?_
          refine lv_ishr (pc := 27) hx hb dX9_addNumber_27 ?_
          refine lv_topi (fun x_21 _ => ?_)
          have rx_21 := n_rng x_21
          refine lv_i2b (pc := 28) hx hb dX9_addNumber_28 rfl ?_
          refine lv_topi (fun x_22 _ => ?_)
          have rx_22 := n_rng x_22
          refine g_bastore (pc := 29) hx hb hK hP hD hS 1 0 rfl rfl (n_in rfl (by omega) (by omega)) dX9_addNumber_29 (fun f_23 H locs hP hD hS => ?_)
          have hP : va_P D gcl [(a0, .inr (9, [.ref a1, .int x_18])), (a1, .inl (cB, 1600, .inl f_23))] H := hP
          have hD : va_D A [(a0, .inr (9, [.ref a1, .int x_18])), (a1, .inl (cB, 1600, .inl f_23))] := hD
          refine lv_aload_n (pc := 30) hx hb dX9_addNumber_30 rfl (lv_at hl 1 rfl) ?_
          refine lv_dup (pc := 31) hx hb dX9_addNumber_31 rfl ?_
          refine va_get (pc := 32) (ci := 9) (v := .int x_18) (C := RX9) (T := TX9) (N := 2) hx hb hts iX9 hown hK hP 0 rfl rfl 1 (by decide) (hts _ tw_43) (fun _ h9 => h9) rfl dX9_addNumber_32 ?_
          refine lv_iconst (pc := 35) (v := 1) hx hb dX9_addNumber_35 (by decide) ?_
          refine b_iadd (pc := 36) hx hb rfl tI_1 (by omega) (by omega) dX9_addNumber_36 (fun x_24 ex_24 => ?_)
          refine va_put (pc := 37) (ci := 9) (v := .int x_24) (ty := .int) (C := RX9) (T := TX9) (N := 2) hx hb hts iX9 tyX9 tyX9_ok nmX9 hown hK hP hD hS 0 rfl rfl 1 (by decide) (hts _ tw_43) (fun _ h9 => h9) rfl (by decide +kernel) rfl rfl (Nat.le_of_ble_eq_true rfl) dX9_addNumber_37 (fun H locs hP hD hS => ?_)
          have hP : va_P D gcl [(a0, .inr (9, [.ref a1, .int x_24])), (a1, .inl (cB, 1600, .inl f_23))] H := hP
          have hD : va_D A [(a0, .inr (9, [.ref a1, .int x_24])), (a1, .inl (cB, 1600, .inl f_23))] := hD
          refine lv_iinc (pc := 40) (v := (-8)) (lv' := [(2, .int (-8)), (0, .ref a0), (1, .int x0)]) hx hb dX9_addNumber_40 hl (k := 0) rfl (by decide +kernel) (by decide) rfl (fun ls hl => ?_)
          refine lv_goto (pc := 43) (tgt := 3) hx hb dX9_addNumber_43 (by decide) ?_
          refine lv_iload_n (pc := 3) hx hb dX9_addNumber_3 rfl (lv_at hl 0 rfl) ?_
          refine b_if_lt (pc := 4) (tgt := 46) hx hb tI_m8  dX9_addNumber_4 (by decide) (fun c_25 => ?_) (fun c_25 => absurd c_25 (by omega))
          exact hret ((fun _ => 0), (fun k => [f_23].getD k (fun _ => 0)), (fun _ => (fun _ => 0)), (fun k => [x_24].getD k 0), (fun _ => 0)) dX9_addNumber_46 ⟨(show ((24 ≥ 0 ∧ x1.toInt ≥ 1600 ∧ (x_24 : Int32).toInt = x1.toInt) ∨ (24 ≥ 0 ∧ x1.toInt < 1600 ∧ 16 ≥ 0 ∧ (x1.toInt) + (1) ≥ 1600 ∧ (x_24 : Int32).toInt = (x1.toInt) + (1)) ∨ (24 ≥ 0 ∧ x1.toInt < 1600 ∧ 16 ≥ 0 ∧ (x1.toInt) + (1) < 1600 ∧ 8 ≥ 0 ∧ ((x1.toInt) + (1)) + (1) ≥ 1600 ∧ (x_24 : Int32).toInt = ((x1.toInt) + (1)) + (1)) ∨ (24 ≥ 0 ∧ x1.toInt < 1600 ∧ 16 ≥ 0 ∧ (x1.toInt) + (1) < 1600 ∧ 8 ≥ 0 ∧ ((x1.toInt) + (1)) + (1) < 1600 ∧ 0 ≥ 0 ∧ (((x1.toInt) + (1)) + (1)) + (1) ≥ 1600 ∧ (x_24 : Int32).toInt = (((x1.toInt) + (1)) + (1)) + (1)) ∨ (24 ≥ 0 ∧ x1.toInt < 1600 ∧ 16 ≥ 0 ∧ (x1.toInt) + (1) < 1600 ∧ 8 ≥ 0 ∧ ((x1.toInt) + (1)) + (1) < 1600 ∧ 0 ≥ 0 ∧ (((x1.toInt) + (1)) + (1)) + (1) < 1600 ∧ (-8) < 0 ∧ (x_24 : Int32).toInt = ((((x1.toInt) + (1)) + (1)) + (1)) + (1))) by omega), (show (0 ≤ (x_24 : Int32).toInt ∧ (x_24 : Int32).toInt ≤ 1600) by omega)⟩ (g_psub (wc := [(a0, .inr (9, [.ref a1, .int x_24])), (a1, .inl (cB, 1600, .inl f_23))]) hP [0, 1] rfl) (hD.sub (ws' := [(a0, .inr (9, [.ref a1, .int x_24])), (a1, .inl (cB, 1600, .inl f_23))]) [0, 1] (by decide) rfl) hS
set_option maxHeartbeats 4000000 in
set_option maxRecDepth 100000 in
theorem k_X9_length (l : Launch) (D : va_G) (cB cC cI cJ : ClassId) (sz : Nat) (a0 a1 : Nat) (x0 : Int32) (h_x0 : (0 ≤ x0.toInt ∧ x0.toInt ≤ 1600)) : Met l yX9_length (.code yX9_length cX9_length 1 (some .int) :: lw_gd) ({ frames := 0, cells := 0, slots := 0, locals := 0 }) (gPre D [(cB, .byte), (cC, .char), (cI, .int), (cJ, .long)] [.ref a0] [(a0, .inr (9, [.ref a1, .int x0]))] sz) (va_Qi (fun r u => ((r.toInt = x0.toInt))) (gB D (va_A [(a0, .inr (9, [.ref a1, .int x0]))] sz) (fun u : gEx => [(a0, .inr (9, [.ref a1, .int x0]))])) (va_A [(a0, .inr (9, [.ref a1, .int x0]))] sz)) 0 0 (va_A [(a0, .inr (9, [.ref a1, .int x0]))] sz) := by
  refine gOf_i (by decide +kernel) (Nat.le_of_ble_eq_true rfl) ?_
  intro p e s m args below meth c ls A Q hx hb hts hown hml hN hK hP hD hA hl hret
  have hown : s.vm.findClass RX9 = some m.cls := hown
  have hS : va_S A s.heap s.heap [] := va_S.rf
  have hP : va_P D gcl [(a0, .inr (9, [.ref a1, .int x0]))] s.heap := hP
  have hl : lv_has ls 1 [(0, .ref a0)] := hl
  refine lv_aload_n (pc := 0) hx hb dX9_length_0 rfl (lv_at hl 0 rfl) ?_
  refine va_get (pc := 1) (ci := 9) (v := .int x0) (C := RX9) (T := TX9) (N := 2) hx hb hts iX9 hown hK hP 0 rfl rfl 1 (by decide) (hts _ tw_43) (fun _ h9 => h9) rfl dX9_length_1 ?_
  exact hret x0 ((fun _ => 0), (fun _ => (fun _ => 0)), (fun _ => (fun _ => 0)), (fun _ => 0), (fun _ => 0)) dX9_length_4 (show ((x0.toInt = x0.toInt)) by omega) (g_psub (wc := [(a0, .inr (9, [.ref a1, .int x0]))]) hP [0] rfl) (hD.sub (ws' := [(a0, .inr (9, [.ref a1, .int x0]))]) [0] (by decide) rfl) hS
set_option maxHeartbeats 4000000 in
set_option maxRecDepth 100000 in
theorem k_X9_cutTo (l : Launch) (D : va_G) (cB cC cI cJ : ClassId) (sz : Nat) (a0 a1 : Nat) (x0 x1 : Int32) (hp1 : (0 ≤ x0.toInt ∧ x0.toInt ≤ 1600)) (h_x1 : (0 ≤ x1.toInt ∧ x1.toInt ≤ 1600)) : Met l yX9_cutTo (.code yX9_cutTo cX9_cutTo 2 none :: lw_gd) ({ frames := 0, cells := 0, slots := 0, locals := 0 }) (gPre D [(cB, .byte), (cC, .char), (cI, .int), (cJ, .long)] [.ref a0, .int x0] [(a0, .inr (9, [.ref a1, .int x1]))] sz) (va_Qv (fun u => True) (gB D (va_A [(a0, .inr (9, [.ref a1, .int x1]))] sz) (fun u : gEx => [(a0, .inr (9, [.ref a1, .int x0]))])) (va_A [(a0, .inr (9, [.ref a1, .int x1]))] sz)) 0 0 (va_A [(a0, .inr (9, [.ref a1, .int x1]))] sz) := by
  refine gOf_v (by decide +kernel) (Nat.le_of_ble_eq_true rfl) ?_
  intro p e s m args below meth c ls A Q hx hb hts hown hml hN hK hP hD hA hl hret
  have hown : s.vm.findClass RX9 = some m.cls := hown
  have hS : va_S A s.heap s.heap [] := va_S.rf
  have hP : va_P D gcl [(a0, .inr (9, [.ref a1, .int x1]))] s.heap := hP
  have hl : lv_has ls 2 [(0, .ref a0), (1, .int x0)] := hl
  refine lv_aload_n (pc := 0) hx hb dX9_cutTo_0 rfl (lv_at hl 0 rfl) ?_
  refine lv_iload_n (pc := 1) hx hb dX9_cutTo_1 rfl (lv_at hl 1 rfl) ?_
  refine va_put (pc := 2) (ci := 9) (v := .int x0) (ty := .int) (C := RX9) (T := TX9) (N := 2) hx hb hts iX9 tyX9 tyX9_ok nmX9 hown hK hP hD hS 0 rfl rfl 1 (by decide) (hts _ tw_43) (fun _ h9 => h9) rfl (by decide +kernel) rfl rfl (Nat.le_of_ble_eq_true rfl) dX9_cutTo_2 (fun H locs hP hD hS => ?_)
  have hP : va_P D gcl [(a0, .inr (9, [.ref a1, .int x0]))] H := hP
  have hD : va_D A [(a0, .inr (9, [.ref a1, .int x0]))] := hD
  exact hret ((fun _ => 0), (fun _ => (fun _ => 0)), (fun _ => (fun _ => 0)), (fun _ => 0), (fun _ => 0)) dX9_cutTo_5 trivial (g_psub (wc := [(a0, .inr (9, [.ref a1, .int x0]))]) hP [0] rfl) (hD.sub (ws' := [(a0, .inr (9, [.ref a1, .int x0]))]) [0] (by decide) rfl) hS
set_option maxHeartbeats 4000000 in
set_option maxRecDepth 100000 in
theorem k_X9_at (l : Launch) (D : va_G) (cB cC cI cJ : ClassId) (sz : Nat) (a0 a1 : Nat) (x0 x1 : Int32) (f0 : Nat → Int32) (h_x1 : (0 ≤ x1.toInt ∧ x1.toInt ≤ 1600)) : Met l yX9_at (.code yX9_at cX9_at 2 (some .int) :: lw_gd) ({ frames := 0, cells := 0, slots := 0, locals := 0 }) (gPre D [(cB, .byte), (cC, .char), (cI, .int), (cJ, .long)] [.ref a0, .int x0] [(a0, .inr (9, [.ref a1, .int x1])), (a1, .inl (cB, 1600, .inl f0))] sz) (va_Qi (fun r u => ((r.toInt = (-1) ∧ x0.toInt < 0) ∨ (r.toInt = (-1) ∧ x0.toInt ≥ 0 ∧ x0.toInt ≥ x1.toInt) ∨ ((0 ≤ r.toInt ∧ r.toInt ≤ 255) ∧ x0.toInt ≥ 0 ∧ x0.toInt < x1.toInt))) (gB D (va_A [(a0, .inr (9, [.ref a1, .int x1])), (a1, .inl (cB, 1600, .inl f0))] sz) (fun u : gEx => [(a0, .inr (9, [.ref a1, .int x1])), (a1, .inl (cB, 1600, .inl f0))])) (va_A [(a0, .inr (9, [.ref a1, .int x1])), (a1, .inl (cB, 1600, .inl f0))] sz)) 0 0 (va_A [(a0, .inr (9, [.ref a1, .int x1])), (a1, .inl (cB, 1600, .inl f0))] sz) := by
  refine gOf_i (by decide +kernel) (Nat.le_of_ble_eq_true rfl) ?_
  intro p e s m args below meth c ls A Q hx hb hts hown hml hN hK hP hD hA hl hret
  have hown : s.vm.findClass RX9 = some m.cls := hown
  have hS : va_S A s.heap s.heap [] := va_S.rf
  have hP : va_P D gcl [(a0, .inr (9, [.ref a1, .int x1])), (a1, .inl (cB, 1600, .inl f0))] s.heap := hP
  have hl : lv_has ls 2 [(0, .ref a0), (1, .int x0)] := hl
  have rx0 := n_rng x0
  refine lv_iload_n (pc := 0) hx hb dX9_at_0 rfl (lv_at hl 1 rfl) ?_
  refine b_if_lt (pc := 1) (tgt := 25) hx hb rfl  dX9_at_1 (by decide) (fun c_1 => ?_) (fun c_1 => ?_)
  ·
    refine lv_iconst (pc := 25) (v := (-1)) hx hb dX9_at_25 (by decide) ?_
    exact hret (-1) ((fun _ => 0), (fun _ => (fun _ => 0)), (fun _ => (fun _ => 0)), (fun _ => 0), (fun _ => 0)) dX9_at_26 (show ((((-1) : Int32).toInt = (-1) ∧ x0.toInt < 0) ∨ (((-1) : Int32).toInt = (-1) ∧ x0.toInt ≥ 0 ∧ x0.toInt ≥ x1.toInt) ∨ ((0 ≤ ((-1) : Int32).toInt ∧ ((-1) : Int32).toInt ≤ 255) ∧ x0.toInt ≥ 0 ∧ x0.toInt < x1.toInt)) by have k9 := tI_m1; omega) (g_psub (wc := [(a0, .inr (9, [.ref a1, .int x1])), (a1, .inl (cB, 1600, .inl f0))]) hP [0, 1] rfl) (hD.sub (ws' := [(a0, .inr (9, [.ref a1, .int x1])), (a1, .inl (cB, 1600, .inl f0))]) [0, 1] (by decide) rfl) hS
  ·
    refine lv_iload_n (pc := 4) hx hb dX9_at_4 rfl (lv_at hl 1 rfl) ?_
    refine lv_aload_n (pc := 5) hx hb dX9_at_5 rfl (lv_at hl 0 rfl) ?_
    refine va_get (pc := 6) (ci := 9) (v := .int x1) (C := RX9) (T := TX9) (N := 2) hx hb hts iX9 hown hK hP 0 rfl rfl 1 (by decide) (hts _ tw_43) (fun _ h9 => h9) rfl dX9_at_6 ?_
    refine b_icmp_ge (pc := 9) (tgt := 25) hx hb rfl rfl  dX9_at_9 (by decide) (fun c_2 => ?_) (fun c_2 => ?_)
    ·
      refine lv_iconst (pc := 25) (v := (-1)) hx hb dX9_at_25 (by decide) ?_
      exact hret (-1) ((fun _ => 0), (fun _ => (fun _ => 0)), (fun _ => (fun _ => 0)), (fun _ => 0), (fun _ => 0)) dX9_at_26 (show ((((-1) : Int32).toInt = (-1) ∧ x0.toInt < 0) ∨ (((-1) : Int32).toInt = (-1) ∧ x0.toInt ≥ 0 ∧ x0.toInt ≥ x1.toInt) ∨ ((0 ≤ ((-1) : Int32).toInt ∧ ((-1) : Int32).toInt ≤ 255) ∧ x0.toInt ≥ 0 ∧ x0.toInt < x1.toInt)) by have k9 := tI_m1; omega) (g_psub (wc := [(a0, .inr (9, [.ref a1, .int x1])), (a1, .inl (cB, 1600, .inl f0))]) hP [0, 1] rfl) (hD.sub (ws' := [(a0, .inr (9, [.ref a1, .int x1])), (a1, .inl (cB, 1600, .inl f0))]) [0, 1] (by decide) rfl) hS
    ·
      refine lv_aload_n (pc := 12) hx hb dX9_at_12 rfl (lv_at hl 0 rfl) ?_
      refine va_get (pc := 13) (ci := 9) (v := .ref a1) (C := RX9) (T := TX9) (N := 2) hx hb hts iX9 hown hK hP 0 rfl rfl 0 (by decide) (hts _ tw_42) (fun _ h9 => h9) rfl dX9_at_13 ?_
      refine lv_iload_n (pc := 16) hx hb dX9_at_16 rfl (lv_at hl 1 rfl) ?_
      refine va_bald (pc := 17) hx hb hK hP 1 0 rfl rfl (n_in rfl (by omega) (by omega)) dX9_at_17 ?_
      refine lv_topi (fun x_3 ex_3 => ?_)
      have rx_3 := n_rng x_3
      refine lv_sipush (pc := 18) (v := 255) hx hb dX9_at_18 (by decide) ?_
      refine b_iand (pc := 21) (M := 255) hx hb 8 (by decide +kernel) (by decide) (by decide) dX9_at_21 (fun x_4 ex_4 => ?_)
      have rx_4 : (0 ≤ x_4.toInt ∧ x_4.toInt ≤ 255) := by omega
      refine lv_goto (pc := 22) (tgt := 26) hx hb dX9_at_22 (by decide) ?_
      exact hret x_4 ((fun _ => 0), (fun _ => (fun _ => 0)), (fun _ => (fun _ => 0)), (fun _ => 0), (fun _ => 0)) dX9_at_26 (show ((x_4.toInt = (-1) ∧ x0.toInt < 0) ∨ (x_4.toInt = (-1) ∧ x0.toInt ≥ 0 ∧ x0.toInt ≥ x1.toInt) ∨ ((0 ≤ x_4.toInt ∧ x_4.toInt ≤ 255) ∧ x0.toInt ≥ 0 ∧ x0.toInt < x1.toInt)) by omega) (g_psub (wc := [(a0, .inr (9, [.ref a1, .int x1])), (a1, .inl (cB, 1600, .inl f0))]) hP [0, 1] rfl) (hD.sub (ws' := [(a0, .inr (9, [.ref a1, .int x1])), (a1, .inl (cB, 1600, .inl f0))]) [0, 1] (by decide) rfl) hS
set_option maxHeartbeats 4000000 in
set_option maxRecDepth 100000 in
theorem k_X9_shortAt (l : Launch) (D : va_G) (cB cC cI cJ : ClassId) (sz : Nat) (a0 a1 : Nat) (x0 x1 : Int32) (f0 : Nat → Int32) (hp1 : (0 ≤ x0.toInt ∧ x0.toInt ≤ 10)) (h_x1 : (0 ≤ x1.toInt ∧ x1.toInt ≤ 1600)) : Met l yX9_shortAt (.code yX9_shortAt cX9_shortAt 2 (some .int) :: lw_gd) ({ frames := 1, cells := 0, slots := 0, locals := 21 }) (gPre D [(cB, .byte), (cC, .char), (cI, .int), (cJ, .long)] [.ref a0, .int x0] [(a0, .inr (9, [.ref a1, .int x1])), (a1, .inl (cB, 1600, .inl f0))] sz) (va_Qi (fun r u => ((((-2147483648) ≤ r.toInt ∧ r.toInt ≤ 2147483647)))) (gB D (va_A [(a0, .inr (9, [.ref a1, .int x1])), (a1, .inl (cB, 1600, .inl f0))] sz) (fun u : gEx => [(a0, .inr (9, [.ref a1, .int x1])), (a1, .inl (cB, 1600, .inl f0))])) (va_A [(a0, .inr (9, [.ref a1, .int x1])), (a1, .inl (cB, 1600, .inl f0))] sz)) 0 0 (va_A [(a0, .inr (9, [.ref a1, .int x1])), (a1, .inl (cB, 1600, .inl f0))] sz) := by
  refine gOf_i (by decide +kernel) (Nat.le_of_ble_eq_true rfl) ?_
  intro p e s m args below meth c ls A Q hx hb hts hown hml hN hK hP hD hA hl hret
  have hown : s.vm.findClass RX9 = some m.cls := hown
  have hS : va_S A s.heap s.heap [] := va_S.rf
  have hP : va_P D gcl [(a0, .inr (9, [.ref a1, .int x1])), (a1, .inl (cB, 1600, .inl f0))] s.heap := hP
  have hl : lv_has ls 2 [(0, .ref a0), (1, .int x0)] := hl
  refine lv_aload_n (pc := 0) hx hb dX9_shortAt_0 rfl (lv_at hl 0 rfl) ?_
  refine lv_iload_n (pc := 1) hx hb dX9_shortAt_1 rfl (lv_at hl 1 rfl) ?_
  refine gc_i (pc := 2) (wc := [(a0, .inr (9, [.ref a1, .int x1])), (a1, .inl (cB, 1600, .inl f0))]) (wr := []) hP hD hS hA [0, 1] [] rfl rfl (by decide) (by decide) (by decide) (fun hPc hDc => va_runV (As := [.int x0]) (rest := []) ⟨hx, hb, hml, hown, hts⟩ (k_X9_at l D cB cC cI cJ _ a0 a1 x0 x1 f0 (by  omega)) ⟨gcwB hts tw_518 tw_3 tw_813 hd_yX9_at ⟨Nat.le_of_ble_eq_true rfl, Nat.le_of_ble_eq_true rfl⟩, hts _ tw_516, hts _ tw_517⟩ ⟨gblind, va_recv hK hPc (ci := 9) (q0 := 0) rfl rfl, (gpreS hPc hK hDc hN).2⟩ rfl rfl hl.1 rfl (lv_room (Nat.le_of_ble_eq_true rfl)) dX9_shortAt_2 ⟨Nat.le_of_ble_eq_true rfl, Nat.le_of_ble_eq_true rfl⟩) (fun r_2 u_1 H locs hw_3 hP hD hS => ?_)
  have hP : va_P D gcl [(a0, .inr (9, [.ref a1, .int x1])), (a1, .inl (cB, 1600, .inl f0))] H := hP
  have hD : va_D A [(a0, .inr (9, [.ref a1, .int x1])), (a1, .inl (cB, 1600, .inl f0))] := hD
  have hw_4 : ((r_2.toInt = (-1) ∧ x0.toInt < 0) ∨ (r_2.toInt = (-1) ∧ x0.toInt ≥ 0 ∧ x0.toInt ≥ x1.toInt) ∨ ((0 ≤ r_2.toInt ∧ r_2.toInt ≤ 255) ∧ x0.toInt ≥ 0 ∧ x0.toInt < x1.toInt)) := hw_3
  have rr_2 := n_rng r_2
  refine lv_bipush (pc := 5) (v := 8) hx hb dX9_shortAt_5 (by decide) ?_
  refine lv_ishl (pc := 7) hx hb dX9_shortAt_7 ?_
  refine lv_topi (fun x_5 _ => ?_)
  have rx_5 := n_rng x_5
  refine lv_aload_n (pc := 8) hx hb dX9_shortAt_8 rfl (lv_at hl 0 rfl) ?_
  refine lv_iload_n (pc := 9) hx hb dX9_shortAt_9 rfl (lv_at hl 1 rfl) ?_
  refine lv_iconst (pc := 10) (v := 1) hx hb dX9_shortAt_10 (by decide) ?_
  refine b_iadd (pc := 11) hx hb rfl tI_1 (by omega) (by omega) dX9_shortAt_11 (fun x_6 ex_6 => ?_)
  refine gc_i (pc := 12) (wc := [(a0, .inr (9, [.ref a1, .int x1])), (a1, .inl (cB, 1600, .inl f0))]) (wr := []) hP hD hS hA [0, 1] [] rfl rfl (by decide) (by decide) (by decide) (fun hPc hDc => va_runV (As := [.int x_6]) (rest := [.int x_5]) ⟨hx, hb, hml, hown, hts⟩ (k_X9_at l D cB cC cI cJ _ a0 a1 x_6 x1 f0 (by  omega)) ⟨gcwB hts tw_518 tw_3 tw_813 hd_yX9_at ⟨Nat.le_of_ble_eq_true rfl, Nat.le_of_ble_eq_true rfl⟩, hts _ tw_516, hts _ tw_517⟩ ⟨gblind, va_recv hK hPc (ci := 9) (q0 := 0) rfl rfl, (gpreS hPc hK hDc hN).2⟩ rfl rfl hl.1 rfl (lv_room (Nat.le_of_ble_eq_true rfl)) dX9_shortAt_12 ⟨Nat.le_of_ble_eq_true rfl, Nat.le_of_ble_eq_true rfl⟩) (fun r_8 u_7 H locs hw_9 hP hD hS => ?_)
  have hP : va_P D gcl [(a0, .inr (9, [.ref a1, .int x1])), (a1, .inl (cB, 1600, .inl f0))] H := hP
  have hD : va_D A [(a0, .inr (9, [.ref a1, .int x1])), (a1, .inl (cB, 1600, .inl f0))] := hD
  have hw_10 : ((r_8.toInt = (-1) ∧ x_6.toInt < 0) ∨ (r_8.toInt = (-1) ∧ x_6.toInt ≥ 0 ∧ x_6.toInt ≥ x1.toInt) ∨ ((0 ≤ r_8.toInt ∧ r_8.toInt ≤ 255) ∧ x_6.toInt ≥ 0 ∧ x_6.toInt < x1.toInt)) := hw_9
  have rr_8 := n_rng r_8
  refine lv_ior (pc := 15) hx hb dX9_shortAt_15 ?_
  refine lv_topi (fun x_11 _ => ?_)
  have rx_11 := n_rng x_11
  refine lv_i2s (pc := 16) hx hb dX9_shortAt_16 rfl ?_
  refine lv_topi (fun x_12 _ => ?_)
  have rx_12 := n_rng x_12
  exact hret x_12 ((fun _ => 0), (fun _ => (fun _ => 0)), (fun _ => (fun _ => 0)), (fun _ => 0), (fun _ => 0)) dX9_shortAt_17 (show ((((-2147483648) ≤ x_12.toInt ∧ x_12.toInt ≤ 2147483647))) by omega) (g_psub (wc := [(a0, .inr (9, [.ref a1, .int x1])), (a1, .inl (cB, 1600, .inl f0))]) hP [0, 1] rfl) (hD.sub (ws' := [(a0, .inr (9, [.ref a1, .int x1])), (a1, .inl (cB, 1600, .inl f0))]) [0, 1] (by decide) rfl) hS
set_option maxHeartbeats 4000000 in
set_option maxRecDepth 100000 in
theorem k_X9_signedAt (l : Launch) (D : va_G) (cB cC cI cJ : ClassId) (sz : Nat) (a0 a1 : Nat) (x0 x1 : Int32) (f0 : Nat → Int32) (h_x1 : (0 ≤ x1.toInt ∧ x1.toInt ≤ 1600)) : Met l yX9_signedAt (.code yX9_signedAt cX9_signedAt 2 (some .int) :: lw_gd) ({ frames := 1, cells := 0, slots := 0, locals := 21 }) (gPre D [(cB, .byte), (cC, .char), (cI, .int), (cJ, .long)] [.ref a0, .int x0] [(a0, .inr (9, [.ref a1, .int x1])), (a1, .inl (cB, 1600, .inl f0))] sz) (va_Qi (fun r u => ((((-2147483648) ≤ r.toInt ∧ r.toInt ≤ 2147483647)))) (gB D (va_A [(a0, .inr (9, [.ref a1, .int x1])), (a1, .inl (cB, 1600, .inl f0))] sz) (fun u : gEx => [(a0, .inr (9, [.ref a1, .int x1])), (a1, .inl (cB, 1600, .inl f0))])) (va_A [(a0, .inr (9, [.ref a1, .int x1])), (a1, .inl (cB, 1600, .inl f0))] sz)) 0 0 (va_A [(a0, .inr (9, [.ref a1, .int x1])), (a1, .inl (cB, 1600, .inl f0))] sz) := by
  refine gOf_i (by decide +kernel) (Nat.le_of_ble_eq_true rfl) ?_
  intro p e s m args below meth c ls A Q hx hb hts hown hml hN hK hP hD hA hl hret
  have hown : s.vm.findClass RX9 = some m.cls := hown
  have hS : va_S A s.heap s.heap [] := va_S.rf
  have hP : va_P D gcl [(a0, .inr (9, [.ref a1, .int x1])), (a1, .inl (cB, 1600, .inl f0))] s.heap := hP
  have hl : lv_has ls 2 [(0, .ref a0), (1, .int x0)] := hl
  have rx0 := n_rng x0
  refine lv_aload_n (pc := 0) hx hb dX9_signedAt_0 rfl (lv_at hl 0 rfl) ?_
  refine lv_iload_n (pc := 1) hx hb dX9_signedAt_1 rfl (lv_at hl 1 rfl) ?_
  refine gc_i (pc := 2) (wc := [(a0, .inr (9, [.ref a1, .int x1])), (a1, .inl (cB, 1600, .inl f0))]) (wr := []) hP hD hS hA [0, 1] [] rfl rfl (by decide) (by decide) (by decide) (fun hPc hDc => va_runV (As := [.int x0]) (rest := []) ⟨hx, hb, hml, hown, hts⟩ (k_X9_at l D cB cC cI cJ _ a0 a1 x0 x1 f0 (by  omega)) ⟨gcwB hts tw_518 tw_3 tw_813 hd_yX9_at ⟨Nat.le_of_ble_eq_true rfl, Nat.le_of_ble_eq_true rfl⟩, hts _ tw_516, hts _ tw_517⟩ ⟨gblind, va_recv hK hPc (ci := 9) (q0 := 0) rfl rfl, (gpreS hPc hK hDc hN).2⟩ rfl rfl hl.1 rfl (lv_room (Nat.le_of_ble_eq_true rfl)) dX9_signedAt_2 ⟨Nat.le_of_ble_eq_true rfl, Nat.le_of_ble_eq_true rfl⟩) (fun r_2 u_1 H locs hw_3 hP hD hS => ?_)
  have hP : va_P D gcl [(a0, .inr (9, [.ref a1, .int x1])), (a1, .inl (cB, 1600, .inl f0))] H := hP
  have hD : va_D A [(a0, .inr (9, [.ref a1, .int x1])), (a1, .inl (cB, 1600, .inl f0))] := hD
  have hw_4 : ((r_2.toInt = (-1) ∧ x0.toInt < 0) ∨ (r_2.toInt = (-1) ∧ x0.toInt ≥ 0 ∧ x0.toInt ≥ x1.toInt) ∨ ((0 ≤ r_2.toInt ∧ r_2.toInt ≤ 255) ∧ x0.toInt ≥ 0 ∧ x0.toInt < x1.toInt)) := hw_3
  have rr_2 := n_rng r_2
  refine lv_i2b (pc := 5) hx hb dX9_signedAt_5 rfl ?_
  refine lv_topi (fun x_5 _ => ?_)
  have rx_5 := n_rng x_5
  exact hret x_5 ((fun _ => 0), (fun _ => (fun _ => 0)), (fun _ => (fun _ => 0)), (fun _ => 0), (fun _ => 0)) dX9_signedAt_6 (show ((((-2147483648) ≤ x_5.toInt ∧ x_5.toInt ≤ 2147483647))) by omega) (g_psub (wc := [(a0, .inr (9, [.ref a1, .int x1])), (a1, .inl (cB, 1600, .inl f0))]) hP [0, 1] rfl) (hD.sub (ws' := [(a0, .inr (9, [.ref a1, .int x1])), (a1, .inl (cB, 1600, .inl f0))]) [0, 1] (by decide) rfl) hS
set_option maxHeartbeats 4000000 in
set_option maxRecDepth 100000 in
theorem k_J7_fill_53178_30 (l : Launch) (D : va_G) (cB cC cI cJ : ClassId) (sz : Nat) (a0 : Nat) (x0 : Int32) (f0 : Nat → Int32) : Met l yJ7_fill_53178 (.code yJ7_fill_53178 cJ7_fill_53178 4 none :: lw_gd) ({ frames := 0, cells := 0, slots := 0, locals := 0 }) (gPre D [(cB, .byte), (cC, .char), (cI, .int), (cJ, .long)] [.ref a0, .int x0] [(a0, .inl (cI, 30, .inl f0))] sz) (va_Qv (fun u => True) (gB D (va_A [(a0, .inl (cI, 30, .inl f0))] sz) (fun u : gEx => [(a0, .inl (cI, 30, .inl (u.2.1 0)))])) (va_A [(a0, .inl (cI, 30, .inl f0))] sz)) 0 0 (va_A [(a0, .inl (cI, 30, .inl f0))] sz) := by
  refine gOf_v (by decide +kernel) (Nat.le_of_ble_eq_true rfl) ?_
  intro p e s m args below meth c ls A Q hx hb hts hown hml hN hK hP hD hA hl hret
  have hown : s.vm.findClass RJ7 = some m.cls := hown
  have hS : va_S A s.heap s.heap [] := va_S.rf
  have hP : va_P D gcl [(a0, .inl (cI, 30, .inl f0))] s.heap := hP
  have hl : lv_has ls 4 [(0, .ref a0), (1, .int x0)] := hl
  have rx0 := n_rng x0
  refine lv_iconst (pc := 0) (v := 0) hx hb dJ7_fill_53178_0 (by decide) ?_
  refine lv_istore_n (pc := 1) (lv' := [(2, .int 0), (0, .ref a0), (1, .int x0)]) hx hb dJ7_fill_53178_1 rfl hl (by decide) rfl (fun ls hl => ?_)
  refine lv_aload_n (pc := 2) hx hb dJ7_fill_53178_2 rfl (lv_at hl 1 rfl) ?_
  refine va_alen (pc := 3) (v := 30) hx hb hK hP 0 2 rfl rfl rfl dJ7_fill_53178_3 ?_
  refine lv_istore_n (pc := 4) (lv' := [(3, .int 30), (2, .int 0), (0, .ref a0), (1, .int x0)]) hx hb dJ7_fill_53178_4 rfl hl (by decide) rfl (fun ls hl => ?_)
  have lp_4 : ∀ (n : Nat) (x_1 : Int32) (f_3 : Nat → Int32) (H : Heap) (locs : List Loc) (ls : Array Slot), (0 ≤ x_1.toInt ∧ x_1.toInt ≤ 2147483647) → (2147483647 - x_1.toInt).toNat < n → va_P D gcl [(a0, .inl (cI, 30, .inl f_3))] H → va_D A [(a0, .inl (cI, 30, .inl f_3))] → va_S A s.heap H locs → lv_has ls 4 [(3, .int 30), (2, .int x_1), (0, .ref a0), (1, .int x0)] → W p l e ({ frames := 0, cells := 0, slots := 0, locals := 0 }) s m args below meth c H locs 0 0 Q (F0 m 5 ls []) := by
    intro n
    induction n with
    | zero => intro x_1 f_3 H locs ls hi_2 hmu; exact absurd hmu (Nat.not_lt_zero _)
    | succ n ih_lp_4 =>
      intro x_1 f_3 H locs ls hi_2 hmu_lp_4 hP hD hS hl
      refine lv_iload_n (pc := 5) hx hb dJ7_fill_53178_5 rfl (lv_at hl 1 rfl) ?_
      refine lv_iload_n (pc := 6) hx hb dJ7_fill_53178_6 rfl (lv_at hl 0 rfl) ?_
      refine b_icmp_ge (pc := 7) (tgt := 20) hx hb rfl tI_30  dJ7_fill_53178_7 (by decide) (fun c_5 => ?_) (fun c_5 => ?_)
      ·
        exact hret ((fun _ => 0), (fun k => [f_3].getD k (fun _ => 0)), (fun _ => (fun _ => 0)), (fun _ => 0), (fun _ => 0)) dJ7_fill_53178_20 trivial (g_psub (wc := [(a0, .inl (cI, 30, .inl f_3))]) hP [0] rfl) (hD.sub (ws' := [(a0, .inl (cI, 30, .inl f_3))]) [0] (by decide) rfl) hS
      ·
        refine lv_aload_n (pc := 10) hx hb dJ7_fill_53178_10 rfl (lv_at hl 2 rfl) ?_
        refine lv_iload_n (pc := 11) hx hb dJ7_fill_53178_11 rfl (lv_at hl 1 rfl) ?_
        refine lv_iload_n (pc := 12) hx hb dJ7_fill_53178_12 rfl (lv_at hl 3 rfl) ?_
        refine g_iastore (pc := 13) hx hb hK hP hD hS 0 2 rfl rfl (n_in rfl (by omega) (by omega)) dJ7_fill_53178_13 (fun f_6 H locs hP hD hS => ?_)
        have hP : va_P D gcl [(a0, .inl (cI, 30, .inl f_6))] H := hP
        have hD : va_D A [(a0, .inl (cI, 30, .inl f_6))] := hD
        refine b_iinc (pc := 14) hx hb dJ7_fill_53178_14 hl (k := 1) rfl rfl tI_1 (by omega) (by omega) (by decide) (fun x_7 ex_7 ls hl => ?_)
        have hl : lv_has ls 4 [(2, .int x_7), (3, .int 30), (0, .ref a0), (1, .int x0)] := hl
        refine lv_goto (pc := 17) (tgt := 5) hx hb dJ7_fill_53178_17 (by decide) ?_
        exact ih_lp_4 x_7 f_6 _ _ ls (by omega) (by omega) hP hD hS (lv_sub hl [1, 0, 2, 3] rfl)
  exact lp_4 _ 0 f0 _ _ ls (by have k0 := tI_0; omega) (Nat.lt_succ_self _) hP hD hS (lv_sub hl [0, 1, 2, 3] rfl)
set_option maxHeartbeats 4000000 in
set_option maxRecDepth 100000 in
theorem k_X8_clear (l : Launch) (D : va_G) (cB cC cI cJ : ClassId) (sz : Nat) (a0 a1 : Nat) (f0 : Nat → Int32) : Met l yX8_clear (.code yX8_clear cX8_clear 1 none :: lw_gd) ({ frames := 1, cells := 0, slots := 0, locals := 23 }) (gPre D [(cB, .byte), (cC, .char), (cI, .int), (cJ, .long)] [.ref a0] [(a0, .inr (8, [.ref a1])), (a1, .inl (cI, 30, .inl f0))] sz) (va_Qv (fun u => True) (gB D (va_A [(a0, .inr (8, [.ref a1])), (a1, .inl (cI, 30, .inl f0))] sz) (fun u : gEx => [(a0, .inr (8, [.ref a1])), (a1, .inl (cI, 30, .inl (u.2.1 0)))])) (va_A [(a0, .inr (8, [.ref a1])), (a1, .inl (cI, 30, .inl f0))] sz)) 0 0 (va_A [(a0, .inr (8, [.ref a1])), (a1, .inl (cI, 30, .inl f0))] sz) := by
  refine gOf_v (by decide +kernel) (Nat.le_of_ble_eq_true rfl) ?_
  intro p e s m args below meth c ls A Q hx hb hts hown hml hN hK hP hD hA hl hret
  have hown : s.vm.findClass RX8 = some m.cls := hown
  have hS : va_S A s.heap s.heap [] := va_S.rf
  have hP : va_P D gcl [(a0, .inr (8, [.ref a1])), (a1, .inl (cI, 30, .inl f0))] s.heap := hP
  have hl : lv_has ls 1 [(0, .ref a0)] := hl
  refine lv_aload_n (pc := 0) hx hb dX8_clear_0 rfl (lv_at hl 0 rfl) ?_
  refine va_get (pc := 1) (ci := 8) (v := .ref a1) (C := RX8) (T := TX8) (N := 1) hx hb hts iX8 hown hK hP 0 rfl rfl 0 (by decide) (hts _ tw_62) (fun _ h9 => h9) rfl dX8_clear_1 ?_
  refine lv_iconst (pc := 4) (v := 0) hx hb dX8_clear_4 (by decide) ?_
  refine gc_v (pc := 5) (wc := [(a1, .inl (cI, 30, .inl f0))]) (wr := [(a0, .inr (8, [.ref a1]))]) hP hD hS hA [1] [0] rfl rfl (by decide) (by decide) (by decide) (fun hPc hDc => va_runS (As := [.ref a1, .int 0]) (rest := []) ⟨hx, hb, hml, hown, hts⟩ (k_J7_fill_53178_30 l D cB cC cI cJ _ a1 0 f0) ⟨gcwB hts tw_505 tw_10 tw_503 hd_yJ7_fill_53178 ⟨Nat.le_of_ble_eq_true rfl, Nat.le_of_ble_eq_true rfl⟩, hts _ tw_504⟩ (gpreS hPc hK hDc hN) rfl rfl hl.1 rfl (lv_room (Nat.le_of_ble_eq_true rfl)) dX8_clear_5 ⟨Nat.le_of_ble_eq_true rfl, Nat.le_of_ble_eq_true rfl⟩) (fun u_1 H locs hw_3 hP hD hS => ?_)
  have hP : va_P D gcl [(a0, .inr (8, [.ref a1])), (a1, .inl (cI, 30, .inl (u_1.2.1 0)))] H := hP
  have hD : va_D A [(a0, .inr (8, [.ref a1])), (a1, .inl (cI, 30, .inl (u_1.2.1 0)))] := hD
  exact hret ((fun _ => 0), (fun k => [(u_1.2.1 0)].getD k (fun _ => 0)), (fun _ => (fun _ => 0)), (fun _ => 0), (fun _ => 0)) dX8_clear_8 trivial (g_psub (wc := [(a0, .inr (8, [.ref a1])), (a1, .inl (cI, 30, .inl (u_1.2.1 0)))]) hP [0, 1] rfl) (hD.sub (ws' := [(a0, .inr (8, [.ref a1])), (a1, .inl (cI, 30, .inl (u_1.2.1 0)))]) [0, 1] (by decide) rfl) hS
set_option maxHeartbeats 4000000 in
set_option maxRecDepth 100000 in
theorem k_X8_setAt (l : Launch) (D : va_G) (cB cC cI cJ : ClassId) (sz : Nat) (a0 a1 : Nat) (x0 x1 x2 : Int32) (f0 : Nat → Int32) (hp1 : (0 ≤ x0.toInt ∧ x0.toInt ≤ 5)) (hp2 : (0 ≤ x1.toInt ∧ x1.toInt ≤ 4)) : Met l yX8_setAt (.code yX8_setAt cX8_setAt 4 none :: lw_gd) ({ frames := 0, cells := 0, slots := 0, locals := 0 }) (gPre D [(cB, .byte), (cC, .char), (cI, .int), (cJ, .long)] [.ref a0, .int x0, .int x1, .int x2] [(a0, .inr (8, [.ref a1])), (a1, .inl (cI, 30, .inl f0))] sz) (va_Qv (fun u => True) (gB D (va_A [(a0, .inr (8, [.ref a1])), (a1, .inl (cI, 30, .inl f0))] sz) (fun u : gEx => [(a0, .inr (8, [.ref a1])), (a1, .inl (cI, 30, .inl (u.2.1 0)))])) (va_A [(a0, .inr (8, [.ref a1])), (a1, .inl (cI, 30, .inl f0))] sz)) 0 0 (va_A [(a0, .inr (8, [.ref a1])), (a1, .inl (cI, 30, .inl f0))] sz) := by
  refine gOf_v (by decide +kernel) (Nat.le_of_ble_eq_true rfl) ?_
  intro p e s m args below meth c ls A Q hx hb hts hown hml hN hK hP hD hA hl hret
  have hown : s.vm.findClass RX8 = some m.cls := hown
  have hS : va_S A s.heap s.heap [] := va_S.rf
  have hP : va_P D gcl [(a0, .inr (8, [.ref a1])), (a1, .inl (cI, 30, .inl f0))] s.heap := hP
  have hl : lv_has ls 4 [(0, .ref a0), (1, .int x0), (2, .int x1), (3, .int x2)] := hl
  have rx2 := n_rng x2
  refine lv_aload_n (pc := 0) hx hb dX8_setAt_0 rfl (lv_at hl 0 rfl) ?_
  refine va_get (pc := 1) (ci := 8) (v := .ref a1) (C := RX8) (T := TX8) (N := 1) hx hb hts iX8 hown hK hP 0 rfl rfl 0 (by decide) (hts _ tw_62) (fun _ h9 => h9) rfl dX8_setAt_1 ?_
  refine lv_iload_n (pc := 4) hx hb dX8_setAt_4 rfl (lv_at hl 2 rfl) ?_
  refine lv_bipush (pc := 5) (v := 6) hx hb dX8_setAt_5 (by decide) ?_
  refine b_imul (pc := 7) hx hb rfl tI_6 (by omega) (by omega) dX8_setAt_7 (fun x_1 ex_1 => ?_)
  refine lv_iload_n (pc := 8) hx hb dX8_setAt_8 rfl (lv_at hl 1 rfl) ?_
  refine b_iadd (pc := 9) hx hb rfl rfl (by omega) (by omega) dX8_setAt_9 (fun x_2 ex_2 => ?_)
  refine lv_iload_n (pc := 10) hx hb dX8_setAt_10 rfl (lv_at hl 3 rfl) ?_
  refine g_iastore (pc := 11) hx hb hK hP hD hS 1 2 rfl rfl (n_in rfl (by omega) (by omega)) dX8_setAt_11 (fun f_3 H locs hP hD hS => ?_)
  have hP : va_P D gcl [(a0, .inr (8, [.ref a1])), (a1, .inl (cI, 30, .inl f_3))] H := hP
  have hD : va_D A [(a0, .inr (8, [.ref a1])), (a1, .inl (cI, 30, .inl f_3))] := hD
  exact hret ((fun _ => 0), (fun k => [f_3].getD k (fun _ => 0)), (fun _ => (fun _ => 0)), (fun _ => 0), (fun _ => 0)) dX8_setAt_12 trivial (g_psub (wc := [(a0, .inr (8, [.ref a1])), (a1, .inl (cI, 30, .inl f_3))]) hP [0, 1] rfl) (hD.sub (ws' := [(a0, .inr (8, [.ref a1])), (a1, .inl (cI, 30, .inl f_3))]) [0, 1] (by decide) rfl) hS
set_option maxHeartbeats 4000000 in
set_option maxRecDepth 100000 in
theorem k_X8_copyFrom (l : Launch) (D : va_G) (cB cC cI cJ : ClassId) (sz : Nat) (a0 a1 a2 a3 : Nat) (f0 f1 : Nat → Int32) : Met l yX8_copyFrom (.code yX8_copyFrom cX8_copyFrom 2 none :: lw_gd) ({ frames := 1, cells := 0, slots := 0, locals := 60 }) (gPre D [(cB, .byte), (cC, .char), (cI, .int), (cJ, .long)] [.ref a0, .ref a1] [(a0, .inr (8, [.ref a2])), (a1, .inr (8, [.ref a3])), (a2, .inl (cI, 30, .inl f0)), (a3, .inl (cI, 30, .inl f1))] sz) (va_Qv (fun u => True) (gB D (va_A [(a0, .inr (8, [.ref a2])), (a1, .inr (8, [.ref a3])), (a2, .inl (cI, 30, .inl f0)), (a3, .inl (cI, 30, .inl f1))] sz) (fun u : gEx => [(a0, .inr (8, [.ref a2])), (a1, .inr (8, [.ref a3])), (a2, .inl (cI, 30, .inl (u.2.1 0))), (a3, .inl (cI, 30, .inl f1))])) (va_A [(a0, .inr (8, [.ref a2])), (a1, .inr (8, [.ref a3])), (a2, .inl (cI, 30, .inl f0)), (a3, .inl (cI, 30, .inl f1))] sz)) 0 0 (va_A [(a0, .inr (8, [.ref a2])), (a1, .inr (8, [.ref a3])), (a2, .inl (cI, 30, .inl f0)), (a3, .inl (cI, 30, .inl f1))] sz) := by
  refine gOf_v (by decide +kernel) (Nat.le_of_ble_eq_true rfl) ?_
  intro p e s m args below meth c ls A Q hx hb hts hown hml hN hK hP hD hA hl hret
  have hown : s.vm.findClass RX8 = some m.cls := hown
  have hS : va_S A s.heap s.heap [] := va_S.rf
  have hP : va_P D gcl [(a0, .inr (8, [.ref a2])), (a1, .inr (8, [.ref a3])), (a2, .inl (cI, 30, .inl f0)), (a3, .inl (cI, 30, .inl f1))] s.heap := hP
  have hl : lv_has ls 2 [(0, .ref a0), (1, .ref a1)] := hl
  refine lv_aload_n (pc := 0) hx hb dX8_copyFrom_0 rfl (lv_at hl 1 rfl) ?_
  refine va_get (pc := 1) (ci := 8) (v := .ref a3) (C := RX8) (T := TX8) (N := 1) hx hb hts iX8 hown hK hP 1 rfl rfl 0 (by decide) (hts _ tw_62) (fun _ h9 => h9) rfl dX8_copyFrom_1 ?_
  refine lv_iconst (pc := 4) (v := 0) hx hb dX8_copyFrom_4 (by decide) ?_
  refine lv_aload_n (pc := 5) hx hb dX8_copyFrom_5 rfl (lv_at hl 0 rfl) ?_
  refine va_get (pc := 6) (ci := 8) (v := .ref a2) (C := RX8) (T := TX8) (N := 1) hx hb hts iX8 hown hK hP 0 rfl rfl 0 (by decide) (hts _ tw_62) (fun _ h9 => h9) rfl dX8_copyFrom_6 ?_
  refine lv_iconst (pc := 9) (v := 0) hx hb dX8_copyFrom_9 (by decide) ?_
  refine lv_aload_n (pc := 10) hx hb dX8_copyFrom_10 rfl (lv_at hl 0 rfl) ?_
  refine va_get (pc := 11) (ci := 8) (v := .ref a2) (C := RX8) (T := TX8) (N := 1) hx hb hts iX8 hown hK hP 0 rfl rfl 0 (by decide) (hts _ tw_62) (fun _ h9 => h9) rfl dX8_copyFrom_11 ?_
  refine va_alen (pc := 14) (v := 30) hx hb hK hP 2 2 rfl rfl rfl dX8_copyFrom_14 ?_
  refine g_copyi (pc := 15) hx hb (hml.trans hl.1.symm) hown (hts _ tw_743) (hts _ tw_745) (hts _ tw_744) (hts _ tw_20) hK hP hD hS 3 2 2 2 rfl rfl rfl rfl rfl (by decide +kernel) (by decide +kernel) (by decide +kernel) (by decide +kernel) (by decide +kernel) (fun _ _ => rfl) (Nat.le_of_ble_eq_true rfl) (Nat.le_of_ble_eq_true rfl) dX8_copyFrom_15 (fun f_1 H locs hP hD hS => ?_)
  have hP : va_P D gcl [(a0, .inr (8, [.ref a2])), (a1, .inr (8, [.ref a3])), (a2, .inl (cI, 30, .inl f_1)), (a3, .inl (cI, 30, .inl f1))] H := hP
  have hD : va_D A [(a0, .inr (8, [.ref a2])), (a1, .inr (8, [.ref a3])), (a2, .inl (cI, 30, .inl f_1)), (a3, .inl (cI, 30, .inl f1))] := hD
  exact hret ((fun _ => 0), (fun k => [f_1].getD k (fun _ => 0)), (fun _ => (fun _ => 0)), (fun _ => 0), (fun _ => 0)) dX8_copyFrom_18 trivial (g_psub (wc := [(a0, .inr (8, [.ref a2])), (a1, .inr (8, [.ref a3])), (a2, .inl (cI, 30, .inl f_1)), (a3, .inl (cI, 30, .inl f1))]) hP [0, 1, 2, 3] rfl) (hD.sub (ws' := [(a0, .inr (8, [.ref a2])), (a1, .inr (8, [.ref a3])), (a2, .inl (cI, 30, .inl f_1)), (a3, .inl (cI, 30, .inl f1))]) [0, 1, 2, 3] (by decide) rfl) hS
set_option maxHeartbeats 4000000 in
set_option maxRecDepth 100000 in
theorem k_X8_at (l : Launch) (D : va_G) (cB cC cI cJ : ClassId) (sz : Nat) (a0 a1 : Nat) (x0 x1 : Int32) (f0 : Nat → Int32) (hp1 : (0 ≤ x0.toInt ∧ x0.toInt ≤ 5)) (hp2 : (0 ≤ x1.toInt ∧ x1.toInt ≤ 4)) : Met l yX8_at (.code yX8_at cX8_at 3 (some .int) :: lw_gd) ({ frames := 0, cells := 0, slots := 0, locals := 0 }) (gPre D [(cB, .byte), (cC, .char), (cI, .int), (cJ, .long)] [.ref a0, .int x0, .int x1] [(a0, .inr (8, [.ref a1])), (a1, .inl (cI, 30, .inl f0))] sz) (va_Qi (fun r u => ((((-2147483648) ≤ r.toInt ∧ r.toInt ≤ 2147483647)))) (gB D (va_A [(a0, .inr (8, [.ref a1])), (a1, .inl (cI, 30, .inl f0))] sz) (fun u : gEx => [(a0, .inr (8, [.ref a1])), (a1, .inl (cI, 30, .inl f0))])) (va_A [(a0, .inr (8, [.ref a1])), (a1, .inl (cI, 30, .inl f0))] sz)) 0 0 (va_A [(a0, .inr (8, [.ref a1])), (a1, .inl (cI, 30, .inl f0))] sz) := by
  refine gOf_i (by decide +kernel) (Nat.le_of_ble_eq_true rfl) ?_
  intro p e s m args below meth c ls A Q hx hb hts hown hml hN hK hP hD hA hl hret
  have hown : s.vm.findClass RX8 = some m.cls := hown
  have hS : va_S A s.heap s.heap [] := va_S.rf
  have hP : va_P D gcl [(a0, .inr (8, [.ref a1])), (a1, .inl (cI, 30, .inl f0))] s.heap := hP
  have hl : lv_has ls 3 [(0, .ref a0), (1, .int x0), (2, .int x1)] := hl
  refine lv_aload_n (pc := 0) hx hb dX8_at_0 rfl (lv_at hl 0 rfl) ?_
  refine va_get (pc := 1) (ci := 8) (v := .ref a1) (C := RX8) (T := TX8) (N := 1) hx hb hts iX8 hown hK hP 0 rfl rfl 0 (by decide) (hts _ tw_62) (fun _ h9 => h9) rfl dX8_at_1 ?_
  refine lv_iload_n (pc := 4) hx hb dX8_at_4 rfl (lv_at hl 2 rfl) ?_
  refine lv_bipush (pc := 5) (v := 6) hx hb dX8_at_5 (by decide) ?_
  refine b_imul (pc := 7) hx hb rfl tI_6 (by omega) (by omega) dX8_at_7 (fun x_1 ex_1 => ?_)
  refine lv_iload_n (pc := 8) hx hb dX8_at_8 rfl (lv_at hl 1 rfl) ?_
  refine b_iadd (pc := 9) hx hb rfl rfl (by omega) (by omega) dX8_at_9 (fun x_2 ex_2 => ?_)
  refine va_iald (pc := 10) hx hb hK hP 1 2 rfl rfl (n_in rfl (by omega) (by omega)) dX8_at_10 ?_
  refine lv_topi (fun x_3 ex_3 => ?_)
  have rx_3 := n_rng x_3
  exact hret x_3 ((fun _ => 0), (fun _ => (fun _ => 0)), (fun _ => (fun _ => 0)), (fun _ => 0), (fun _ => 0)) dX8_at_11 (show ((((-2147483648) ≤ x_3.toInt ∧ x_3.toInt ≤ 2147483647))) by omega) (g_psub (wc := [(a0, .inr (8, [.ref a1])), (a1, .inl (cI, 30, .inl f0))]) hP [0, 1] rfl) (hD.sub (ws' := [(a0, .inr (8, [.ref a1])), (a1, .inl (cI, 30, .inl f0))]) [0, 1] (by decide) rfl) hS
set_option maxHeartbeats 4000000 in
set_option maxRecDepth 100000 in
theorem k_X8_productOf (l : Launch) (D : va_G) (cB cC cI cJ : ClassId) (sz : Nat) (a0 a1 : Nat) (x0 x1 : Int32) (f0 : Nat → Int32) (hp1 : (0 ≤ x0.toInt ∧ x0.toInt ≤ 4)) (hp2 : (0 ≤ x1.toInt ∧ x1.toInt ≤ 4)) : Met l yX8_productOf (.code yX8_productOf cX8_productOf 5 (some .int) :: lw_gd) ({ frames := 1, cells := 0, slots := 0, locals := 22 }) (gPre D [(cB, .byte), (cC, .char), (cI, .int), (cJ, .long)] [.ref a0, .int x0, .int x1] [(a0, .inr (8, [.ref a1])), (a1, .inl (cI, 30, .inl f0))] sz) (va_Qi (fun r u => ((((-2147483648) ≤ r.toInt ∧ r.toInt ≤ 2147483647)))) (gB D (va_A [(a0, .inr (8, [.ref a1])), (a1, .inl (cI, 30, .inl f0))] sz) (fun u : gEx => [(a0, .inr (8, [.ref a1])), (a1, .inl (cI, 30, .inl f0))])) (va_A [(a0, .inr (8, [.ref a1])), (a1, .inl (cI, 30, .inl f0))] sz)) 0 0 (va_A [(a0, .inr (8, [.ref a1])), (a1, .inl (cI, 30, .inl f0))] sz) := by
  refine gOf_i (by decide +kernel) (Nat.le_of_ble_eq_true rfl) ?_
  intro p e s m args below meth c ls A Q hx hb hts hown hml hN hK hP hD hA hl hret
  have hown : s.vm.findClass RX8 = some m.cls := hown
  have hS : va_S A s.heap s.heap [] := va_S.rf
  have hP : va_P D gcl [(a0, .inr (8, [.ref a1])), (a1, .inl (cI, 30, .inl f0))] s.heap := hP
  have hl : lv_has ls 5 [(0, .ref a0), (1, .int x0), (2, .int x1)] := hl
  refine lv_iconst (pc := 0) (v := 0) hx hb dX8_productOf_0 (by decide) ?_
  refine lv_istore_n (pc := 1) (lv' := [(3, .int 0), (0, .ref a0), (1, .int x0), (2, .int x1)]) hx hb dX8_productOf_1 rfl hl (by decide) rfl (fun ls hl => ?_)
  refine lv_iconst (pc := 2) (v := 0) hx hb dX8_productOf_2 (by decide) ?_
  refine lv_istore (pc := 3) (lv' := [(4, .int 0), (3, .int 0), (0, .ref a0), (1, .int x0), (2, .int x1)]) hx hb dX8_productOf_3 hl (by decide) rfl (fun ls hl => ?_)
  have lp_5 : ∀ (n : Nat) (x_1 x_3 : Int32) (H : Heap) (locs : List Loc) (ls : Array Slot), (0 ≤ x_1.toInt ∧ x_1.toInt ≤ 2147483647) → (2147483647 - x_1.toInt).toNat < n → va_P D gcl [(a0, .inr (8, [.ref a1])), (a1, .inl (cI, 30, .inl f0))] H → va_D A [(a0, .inr (8, [.ref a1])), (a1, .inl (cI, 30, .inl f0))] → va_S A s.heap H locs → lv_has ls 5 [(4, .int x_1), (3, .int x_3), (0, .ref a0), (1, .int x0), (2, .int x1)] → W p l e ({ frames := 1, cells := 0, slots := 0, locals := 22 }) s m args below meth c H locs 0 0 Q (F0 m 5 ls []) := by
    intro n
    induction n with
    | zero => intro x_1 x_3 H locs ls hi_2 hmu; exact absurd hmu (Nat.not_lt_zero _)
    | succ n ih_lp_5 =>
      intro x_1 x_3 H locs ls hi_2 hmu_lp_5 hP hD hS hl
      have hi_4 := n_rng x_3
      refine lv_iload (pc := 5) hx hb dX8_productOf_5 (lv_at hl 0 rfl) ?_
      refine lv_bipush (pc := 7) (v := 6) hx hb dX8_productOf_7 (by decide) ?_
      refine b_icmp_ge (pc := 9) (tgt := 36) hx hb rfl tI_6  dX8_productOf_9 (by decide) (fun c_6 => ?_) (fun c_6 => ?_)
      ·
        refine lv_iload_n (pc := 36) hx hb dX8_productOf_36 rfl (lv_at hl 1 rfl) ?_
        exact hret x_3 ((fun _ => 0), (fun _ => (fun _ => 0)), (fun _ => (fun _ => 0)), (fun _ => 0), (fun _ => 0)) dX8_productOf_37 (show ((((-2147483648) ≤ x_3.toInt ∧ x_3.toInt ≤ 2147483647))) by omega) (g_psub (wc := [(a0, .inr (8, [.ref a1])), (a1, .inl (cI, 30, .inl f0))]) hP [0, 1] rfl) (hD.sub (ws' := [(a0, .inr (8, [.ref a1])), (a1, .inl (cI, 30, .inl f0))]) [0, 1] (by decide) rfl) hS
      ·
        refine lv_iload_n (pc := 12) hx hb dX8_productOf_12 rfl (lv_at hl 1 rfl) ?_
        refine lv_aload_n (pc := 13) hx hb dX8_productOf_13 rfl (lv_at hl 2 rfl) ?_
        refine lv_iload (pc := 14) hx hb dX8_productOf_14 (lv_at hl 0 rfl) ?_
        refine lv_iload_n (pc := 16) hx hb dX8_productOf_16 rfl (lv_at hl 3 rfl) ?_
        refine gc_i (pc := 17) (wc := [(a0, .inr (8, [.ref a1])), (a1, .inl (cI, 30, .inl f0))]) (wr := []) hP hD hS hA [0, 1] [] rfl rfl (by decide) (by decide) (by decide) (fun hPc hDc => va_runV (As := [.int x_1, .int x0]) (rest := [.int x_3]) ⟨hx, hb, hml, hown, hts⟩ (k_X8_at l D cB cC cI cJ _ a0 a1 x_1 x0 f0 (by  omega) (by  omega)) ⟨gcwB hts tw_791 tw_5 tw_800 hd_yX8_at ⟨Nat.le_of_ble_eq_true rfl, Nat.le_of_ble_eq_true rfl⟩, hts _ tw_789, hts _ tw_790⟩ ⟨gblind, va_recv hK hPc (ci := 8) (q0 := 0) rfl rfl, (gpreS hPc hK hDc hN).2⟩ rfl rfl hl.1 rfl (lv_room (Nat.le_of_ble_eq_true rfl)) dX8_productOf_17 ⟨Nat.le_of_ble_eq_true rfl, Nat.le_of_ble_eq_true rfl⟩) (fun r_8 u_7 H locs hw_9 hP hD hS => ?_)
        have hP : va_P D gcl [(a0, .inr (8, [.ref a1])), (a1, .inl (cI, 30, .inl f0))] H := hP
        have hD : va_D A [(a0, .inr (8, [.ref a1])), (a1, .inl (cI, 30, .inl f0))] := hD
        have hw_10 : ((((-2147483648) ≤ r_8.toInt ∧ r_8.toInt ≤ 2147483647))) := hw_9
        have rr_8 := n_rng r_8
        refine lv_aload_n (pc := 20) hx hb dX8_productOf_20 rfl (lv_at hl 2 rfl) ?_
        refine lv_iload (pc := 21) hx hb dX8_productOf_21 (lv_at hl 0 rfl) ?_
        refine lv_iload_n (pc := 23) hx hb dX8_productOf_23 rfl (lv_at hl 4 rfl) ?_
        refine gc_i (pc := 24) (wc := [(a0, .inr (8, [.ref a1])), (a1, .inl (cI, 30, .inl f0))]) (wr := []) hP hD hS hA [0, 1] [] rfl rfl (by decide) (by decide) (by decide) (fun hPc hDc => va_runV (As := [.int x_1, .int x1]) (rest := [.int r_8, .int x_3]) ⟨hx, hb, hml, hown, hts⟩ (k_X8_at l D cB cC cI cJ _ a0 a1 x_1 x1 f0 (by  omega) (by  omega)) ⟨gcwB hts tw_791 tw_5 tw_800 hd_yX8_at ⟨Nat.le_of_ble_eq_true rfl, Nat.le_of_ble_eq_true rfl⟩, hts _ tw_789, hts _ tw_790⟩ ⟨gblind, va_recv hK hPc (ci := 8) (q0 := 0) rfl rfl, (gpreS hPc hK hDc hN).2⟩ rfl rfl hl.1 rfl (lv_room (Nat.le_of_ble_eq_true rfl)) dX8_productOf_24 ⟨Nat.le_of_ble_eq_true rfl, Nat.le_of_ble_eq_true rfl⟩) (fun r_12 u_11 H locs hw_13 hP hD hS => ?_)
        have hP : va_P D gcl [(a0, .inr (8, [.ref a1])), (a1, .inl (cI, 30, .inl f0))] H := hP
        have hD : va_D A [(a0, .inr (8, [.ref a1])), (a1, .inl (cI, 30, .inl f0))] := hD
        have hw_14 : ((((-2147483648) ≤ r_12.toInt ∧ r_12.toInt ≤ 2147483647))) := hw_13
        have rr_12 := n_rng r_12
        refine lv_imul (pc := 27) hx hb dX8_productOf_27 ?_
        refine lv_topi (fun x_15 _ => ?_)
        have rx_15 := n_rng x_15
        refine lv_iadd (pc := 28) hx hb dX8_productOf_28 ?_
        refine lv_topi (fun x_16 _ => ?_)
        have rx_16 := n_rng x_16
        refine lv_istore_n (pc := 29) (lv' := [(3, .int x_16), (4, .int x_1), (0, .ref a0), (1, .int x0), (2, .int x1)]) hx hb dX8_productOf_29 rfl hl (by decide) rfl (fun ls hl => ?_)
        refine b_iinc (pc := 30) hx hb dX8_productOf_30 hl (k := 1) rfl rfl tI_1 (by omega) (by omega) (by decide) (fun x_17 ex_17 ls hl => ?_)
        have hl : lv_has ls 5 [(4, .int x_17), (3, .int x_16), (0, .ref a0), (1, .int x0), (2, .int x1)] := hl
        refine lv_goto (pc := 33) (tgt := 5) hx hb dX8_productOf_33 (by decide) ?_
        exact ih_lp_5 x_17 x_16 _ _ ls (by omega) (by omega) hP hD hS (lv_sub hl [0, 1, 2, 3, 4] rfl)
  exact lp_5 _ 0 0 _ _ ls (by have k0 := tI_0; omega) (Nat.lt_succ_self _) hP hD hS (lv_sub hl [0, 1, 2, 3, 4] rfl)
set_option maxHeartbeats 4000000 in
set_option maxRecDepth 100000 in
theorem k_X8_sentTo (l : Launch) (D : va_G) (cB cC cI cJ : ClassId) (sz : Nat) (a0 a1 a2 : Nat) (x0 x1 : Int32) (f0 f1 : Nat → Int32) (hp1 : (0 ≤ x0.toInt ∧ x0.toInt ≤ 5)) (hp3 : ((-1) ≤ x1.toInt ∧ x1.toInt ≤ 5)) : Met l yX8_sentTo (.code yX8_sentTo cX8_sentTo 6 (some .int) :: lw_gd) ({ frames := 1, cells := 0, slots := 0, locals := 22 }) (gPre D [(cB, .byte), (cC, .char), (cI, .int), (cJ, .long)] [.ref a0, .int x0, .ref a1, .int x1] [(a0, .inr (8, [.ref a2])), (a2, .inl (cI, 30, .inl f0)), (a1, .inl (cI, 5, .inl f1))] sz) (va_Qi (fun r u => ((((-2147483648) ≤ r.toInt ∧ r.toInt ≤ 2147483647) ∧ ((-1) ≤ x1.toInt ∧ x1.toInt ≤ 5)))) (gB D (va_A [(a0, .inr (8, [.ref a2])), (a2, .inl (cI, 30, .inl f0)), (a1, .inl (cI, 5, .inl f1))] sz) (fun u : gEx => [(a0, .inr (8, [.ref a2])), (a2, .inl (cI, 30, .inl f0)), (a1, .inl (cI, 5, .inl f1))])) (va_A [(a0, .inr (8, [.ref a2])), (a2, .inl (cI, 30, .inl f0)), (a1, .inl (cI, 5, .inl f1))] sz)) 0 0 (va_A [(a0, .inr (8, [.ref a2])), (a2, .inl (cI, 30, .inl f0)), (a1, .inl (cI, 5, .inl f1))] sz) := by
  refine gOf_i (by decide +kernel) (Nat.le_of_ble_eq_true rfl) ?_
  intro p e s m args below meth c ls A Q hx hb hts hown hml hN hK hP hD hA hl hret
  have hown : s.vm.findClass RX8 = some m.cls := hown
  have hS : va_S A s.heap s.heap [] := va_S.rf
  have hP : va_P D gcl [(a0, .inr (8, [.ref a2])), (a2, .inl (cI, 30, .inl f0)), (a1, .inl (cI, 5, .inl f1))] s.heap := hP
  have hl : lv_has ls 6 [(0, .ref a0), (1, .int x0), (2, .ref a1), (3, .int x1)] := hl
  refine lv_iconst (pc := 0) (v := 0) hx hb dX8_sentTo_0 (by decide) ?_
  refine lv_istore (pc := 1) (lv' := [(4, .int 0), (0, .ref a0), (1, .int x0), (2, .ref a1), (3, .int x1)]) hx hb dX8_sentTo_1 hl (by decide) rfl (fun ls hl => ?_)
  refine lv_iconst (pc := 3) (v := 0) hx hb dX8_sentTo_3 (by decide) ?_
  refine lv_istore (pc := 4) (lv' := [(5, .int 0), (4, .int 0), (0, .ref a0), (1, .int x0), (2, .ref a1), (3, .int x1)]) hx hb dX8_sentTo_4 hl (by decide) rfl (fun ls hl => ?_)
  have lp_5 : ∀ (n : Nat) (x_1 x_3 : Int32) (H : Heap) (locs : List Loc) (ls : Array Slot), (0 ≤ x_1.toInt ∧ x_1.toInt ≤ 2147483647) → (2147483647 - x_1.toInt).toNat < n → va_P D gcl [(a0, .inr (8, [.ref a2])), (a2, .inl (cI, 30, .inl f0)), (a1, .inl (cI, 5, .inl f1))] H → va_D A [(a0, .inr (8, [.ref a2])), (a2, .inl (cI, 30, .inl f0)), (a1, .inl (cI, 5, .inl f1))] → va_S A s.heap H locs → lv_has ls 6 [(5, .int x_1), (4, .int x_3), (0, .ref a0), (1, .int x0), (2, .ref a1), (3, .int x1)] → W p l e ({ frames := 1, cells := 0, slots := 0, locals := 22 }) s m args below meth c H locs 0 0 Q (F0 m 6 ls []) := by
    intro n
    induction n with
    | zero => intro x_1 x_3 H locs ls hi_2 hmu; exact absurd hmu (Nat.not_lt_zero _)
    | succ n ih_lp_5 =>
      intro x_1 x_3 H locs ls hi_2 hmu_lp_5 hP hD hS hl
      have hi_4 := n_rng x_3
      refine lv_iload (pc := 6) hx hb dX8_sentTo_6 (lv_at hl 0 rfl) ?_
      refine lv_iload_n (pc := 8) hx hb dX8_sentTo_8 rfl (lv_at hl 5 rfl) ?_
      refine b_icmp_ge (pc := 9) (tgt := 35) hx hb rfl rfl  dX8_sentTo_9 (by decide) (fun c_6 => ?_) (fun c_6 => ?_)
      ·
        refine lv_iload (pc := 35) hx hb dX8_sentTo_35 (lv_at hl 1 rfl) ?_
        exact hret x_3 ((fun _ => 0), (fun _ => (fun _ => 0)), (fun _ => (fun _ => 0)), (fun _ => 0), (fun _ => 0)) dX8_sentTo_37 (show ((((-2147483648) ≤ x_3.toInt ∧ x_3.toInt ≤ 2147483647) ∧ ((-1) ≤ x1.toInt ∧ x1.toInt ≤ 5))) by omega) (g_psub (wc := [(a0, .inr (8, [.ref a2])), (a2, .inl (cI, 30, .inl f0)), (a1, .inl (cI, 5, .inl f1))]) hP [0, 1, 2] rfl) (hD.sub (ws' := [(a0, .inr (8, [.ref a2])), (a2, .inl (cI, 30, .inl f0)), (a1, .inl (cI, 5, .inl f1))]) [0, 1, 2] (by decide) rfl) hS
      ·
        refine lv_iload (pc := 12) hx hb dX8_sentTo_12 (lv_at hl 1 rfl) ?_
        refine lv_aload_n (pc := 14) hx hb dX8_sentTo_14 rfl (lv_at hl 2 rfl) ?_
        refine lv_iload_n (pc := 15) hx hb dX8_sentTo_15 rfl (lv_at hl 3 rfl) ?_
        refine lv_iload (pc := 16) hx hb dX8_sentTo_16 (lv_at hl 0 rfl) ?_
        refine gc_i (pc := 18) (wc := [(a0, .inr (8, [.ref a2])), (a2, .inl (cI, 30, .inl f0))]) (wr := [(a1, .inl (cI, 5, .inl f1))]) hP hD hS hA [0, 1] [2] rfl rfl (by decide) (by decide) (by decide) (fun hPc hDc => va_runV (As := [.int x0, .int x_1]) (rest := [.int x_3]) ⟨hx, hb, hml, hown, hts⟩ (k_X8_at l D cB cC cI cJ _ a0 a2 x0 x_1 f0 (by  omega) (by  omega)) ⟨gcwB hts tw_791 tw_5 tw_800 hd_yX8_at ⟨Nat.le_of_ble_eq_true rfl, Nat.le_of_ble_eq_true rfl⟩, hts _ tw_789, hts _ tw_790⟩ ⟨gblind, va_recv hK hPc (ci := 8) (q0 := 0) rfl rfl, (gpreS hPc hK hDc hN).2⟩ rfl rfl hl.1 rfl (lv_room (Nat.le_of_ble_eq_true rfl)) dX8_sentTo_18 ⟨Nat.le_of_ble_eq_true rfl, Nat.le_of_ble_eq_true rfl⟩) (fun r_8 u_7 H locs hw_9 hP hD hS => ?_)
        have hP : va_P D gcl [(a1, .inl (cI, 5, .inl f1)), (a0, .inr (8, [.ref a2])), (a2, .inl (cI, 30, .inl f0))] H := hP
        have hD : va_D A [(a1, .inl (cI, 5, .inl f1)), (a0, .inr (8, [.ref a2])), (a2, .inl (cI, 30, .inl f0))] := hD
        have hw_10 : ((((-2147483648) ≤ r_8.toInt ∧ r_8.toInt ≤ 2147483647))) := hw_9
        have rr_8 := n_rng r_8
        refine lv_aload_n (pc := 21) hx hb dX8_sentTo_21 rfl (lv_at hl 4 rfl) ?_
        refine lv_iload (pc := 22) hx hb dX8_sentTo_22 (lv_at hl 0 rfl) ?_
        refine va_iald (pc := 24) hx hb hK hP 0 2 rfl rfl (n_in rfl (by omega) (by omega)) dX8_sentTo_24 ?_
        refine lv_topi (fun x_11 ex_11 => ?_)
        have rx_11 := n_rng x_11
        refine lv_imul (pc := 25) hx hb dX8_sentTo_25 ?_
        refine lv_topi (fun x_12 _ => ?_)
        have rx_12 := n_rng x_12
        refine lv_iadd (pc := 26) hx hb dX8_sentTo_26 ?_
        refine lv_topi (fun x_13 _ => ?_)
        have rx_13 := n_rng x_13
        refine lv_istore (pc := 27) (lv' := [(4, .int x_13), (5, .int x_1), (0, .ref a0), (1, .int x0), (2, .ref a1), (3, .int x1)]) hx hb dX8_sentTo_27 hl (by decide) rfl (fun ls hl => ?_)
        refine b_iinc (pc := 29) hx hb dX8_sentTo_29 hl (k := 1) rfl rfl tI_1 (by omega) (by omega) (by decide) (fun x_14 ex_14 ls hl => ?_)
        have hl : lv_has ls 6 [(5, .int x_14), (4, .int x_13), (0, .ref a0), (1, .int x0), (2, .ref a1), (3, .int x1)] := hl
        refine lv_goto (pc := 32) (tgt := 6) hx hb dX8_sentTo_32 (by decide) ?_
        exact ih_lp_5 x_14 x_13 _ _ ls (by omega) (by omega) (g_psub hP [1, 2, 0] rfl) (hD.sub [1, 2, 0] (by decide) rfl) hS (lv_sub hl [0, 1, 2, 3, 4, 5] rfl)
  exact lp_5 _ 0 0 _ _ ls (by have k0 := tI_0; omega) (Nat.lt_succ_self _) hP hD hS (lv_sub hl [0, 1, 2, 3, 4, 5] rfl)
set_option maxHeartbeats 4000000 in
set_option maxRecDepth 100000 in
theorem k_X8_takeAway (l : Launch) (D : va_G) (cB cC cI cJ : ClassId) (sz : Nat) (a0 a1 : Nat) (x0 x1 x2 : Int32) (f0 : Nat → Int32) (hp1 : (0 ≤ x0.toInt ∧ x0.toInt ≤ 4)) (hp2 : (0 ≤ x1.toInt ∧ x1.toInt ≤ 4)) : Met l yX8_takeAway (.code yX8_takeAway cX8_takeAway 5 none :: lw_gd) ({ frames := 1, cells := 0, slots := 0, locals := 23 }) (gPre D [(cB, .byte), (cC, .char), (cI, .int), (cJ, .long)] [.ref a0, .int x0, .int x1, .int x2] [(a0, .inr (8, [.ref a1])), (a1, .inl (cI, 30, .inl f0))] sz) (va_Qv (fun u => True) (gB D (va_A [(a0, .inr (8, [.ref a1])), (a1, .inl (cI, 30, .inl f0))] sz) (fun u : gEx => [(a0, .inr (8, [.ref a1])), (a1, .inl (cI, 30, .inl (u.2.1 0)))])) (va_A [(a0, .inr (8, [.ref a1])), (a1, .inl (cI, 30, .inl f0))] sz)) 0 0 (va_A [(a0, .inr (8, [.ref a1])), (a1, .inl (cI, 30, .inl f0))] sz) := by
  refine gOf_v (by decide +kernel) (Nat.le_of_ble_eq_true rfl) ?_
  intro p e s m args below meth c ls A Q hx hb hts hown hml hN hK hP hD hA hl hret
  have hown : s.vm.findClass RX8 = some m.cls := hown
  have hS : va_S A s.heap s.heap [] := va_S.rf
  have hP : va_P D gcl [(a0, .inr (8, [.ref a1])), (a1, .inl (cI, 30, .inl f0))] s.heap := hP
  have hl : lv_has ls 5 [(0, .ref a0), (1, .int x0), (2, .int x1), (3, .int x2)] := hl
  have rx2 := n_rng x2
  refine lv_iconst (pc := 0) (v := 0) hx hb dX8_takeAway_0 (by decide) ?_
  refine lv_istore (pc := 1) (lv' := [(4, .int 0), (0, .ref a0), (1, .int x0), (2, .int x1), (3, .int x2)]) hx hb dX8_takeAway_1 hl (by decide) rfl (fun ls hl => ?_)
  have lp_4 : ∀ (n : Nat) (x_1 : Int32) (f_3 : Nat → Int32) (H : Heap) (locs : List Loc) (ls : Array Slot), (0 ≤ x_1.toInt ∧ x_1.toInt ≤ 2147483647) → (2147483647 - x_1.toInt).toNat < n → va_P D gcl [(a0, .inr (8, [.ref a1])), (a1, .inl (cI, 30, .inl f_3))] H → va_D A [(a0, .inr (8, [.ref a1])), (a1, .inl (cI, 30, .inl f_3))] → va_S A s.heap H locs → lv_has ls 5 [(4, .int x_1), (0, .ref a0), (1, .int x0), (2, .int x1), (3, .int x2)] → W p l e ({ frames := 1, cells := 0, slots := 0, locals := 23 }) s m args below meth c H locs 0 0 Q (F0 m 3 ls []) := by
    intro n
    induction n with
    | zero => intro x_1 f_3 H locs ls hi_2 hmu; exact absurd hmu (Nat.not_lt_zero _)
    | succ n ih_lp_4 =>
      intro x_1 f_3 H locs ls hi_2 hmu_lp_4 hP hD hS hl
      refine lv_iload (pc := 3) hx hb dX8_takeAway_3 (lv_at hl 0 rfl) ?_
      refine lv_bipush (pc := 5) (v := 6) hx hb dX8_takeAway_5 (by decide) ?_
      refine b_icmp_ge (pc := 7) (tgt := 40) hx hb rfl tI_6  dX8_takeAway_7 (by decide) (fun c_5 => ?_) (fun c_5 => ?_)
      ·
        exact hret ((fun _ => 0), (fun k => [f_3].getD k (fun _ => 0)), (fun _ => (fun _ => 0)), (fun _ => 0), (fun _ => 0)) dX8_takeAway_40 trivial (g_psub (wc := [(a0, .inr (8, [.ref a1])), (a1, .inl (cI, 30, .inl f_3))]) hP [0, 1] rfl) (hD.sub (ws' := [(a0, .inr (8, [.ref a1])), (a1, .inl (cI, 30, .inl f_3))]) [0, 1] (by decide) rfl) hS
      ·
        refine lv_aload_n (pc := 10) hx hb dX8_takeAway_10 rfl (lv_at hl 1 rfl) ?_
        refine lv_iload (pc := 11) hx hb dX8_takeAway_11 (lv_at hl 0 rfl) ?_
        refine lv_iload_n (pc := 13) hx hb dX8_takeAway_13 rfl (lv_at hl 2 rfl) ?_
        refine lv_aload_n (pc := 14) hx hb dX8_takeAway_14 rfl (lv_at hl 1 rfl) ?_
        refine lv_iload (pc := 15) hx hb dX8_takeAway_15 (lv_at hl 0 rfl) ?_
        refine lv_iload_n (pc := 17) hx hb dX8_takeAway_17 rfl (lv_at hl 2 rfl) ?_
        refine gc_i (pc := 18) (wc := [(a0, .inr (8, [.ref a1])), (a1, .inl (cI, 30, .inl f_3))]) (wr := []) hP hD hS hA [0, 1] [] rfl rfl (by decide) (by decide) (by decide) (fun hPc hDc => va_runV (As := [.int x_1, .int x0]) (rest := [.int x0, .int x_1, .ref a0]) ⟨hx, hb, hml, hown, hts⟩ (k_X8_at l D cB cC cI cJ _ a0 a1 x_1 x0 f_3 (by  omega) (by  omega)) ⟨gcwB hts tw_791 tw_5 tw_800 hd_yX8_at ⟨Nat.le_of_ble_eq_true rfl, Nat.le_of_ble_eq_true rfl⟩, hts _ tw_789, hts _ tw_790⟩ ⟨gblind, va_recv hK hPc (ci := 8) (q0 := 0) rfl rfl, (gpreS hPc hK hDc hN).2⟩ rfl rfl hl.1 rfl (lv_room (Nat.le_of_ble_eq_true rfl)) dX8_takeAway_18 ⟨Nat.le_of_ble_eq_true rfl, Nat.le_of_ble_eq_true rfl⟩) (fun r_7 u_6 H locs hw_8 hP hD hS => ?_)
        have hP : va_P D gcl [(a0, .inr (8, [.ref a1])), (a1, .inl (cI, 30, .inl f_3))] H := hP
        have hD : va_D A [(a0, .inr (8, [.ref a1])), (a1, .inl (cI, 30, .inl f_3))] := hD
        have hw_9 : ((((-2147483648) ≤ r_7.toInt ∧ r_7.toInt ≤ 2147483647))) := hw_8
        have rr_7 := n_rng r_7
        refine lv_iload_n (pc := 21) hx hb dX8_takeAway_21 rfl (lv_at hl 4 rfl) ?_
        refine lv_aload_n (pc := 22) hx hb dX8_takeAway_22 rfl (lv_at hl 1 rfl) ?_
        refine lv_iload (pc := 23) hx hb dX8_takeAway_23 (lv_at hl 0 rfl) ?_
        refine lv_iload_n (pc := 25) hx hb dX8_takeAway_25 rfl (lv_at hl 3 rfl) ?_
        refine gc_i (pc := 26) (wc := [(a0, .inr (8, [.ref a1])), (a1, .inl (cI, 30, .inl f_3))]) (wr := []) hP hD hS hA [0, 1] [] rfl rfl (by decide) (by decide) (by decide) (fun hPc hDc => va_runV (As := [.int x_1, .int x1]) (rest := [.int x2, .int r_7, .int x0, .int x_1, .ref a0]) ⟨hx, hb, hml, hown, hts⟩ (k_X8_at l D cB cC cI cJ _ a0 a1 x_1 x1 f_3 (by  omega) (by  omega)) ⟨gcwB hts tw_791 tw_5 tw_800 hd_yX8_at ⟨Nat.le_of_ble_eq_true rfl, Nat.le_of_ble_eq_true rfl⟩, hts _ tw_789, hts _ tw_790⟩ ⟨gblind, va_recv hK hPc (ci := 8) (q0 := 0) rfl rfl, (gpreS hPc hK hDc hN).2⟩ rfl rfl hl.1 rfl (lv_room (Nat.le_of_ble_eq_true rfl)) dX8_takeAway_26 ⟨Nat.le_of_ble_eq_true rfl, Nat.le_of_ble_eq_true rfl⟩) (fun r_11 u_10 H locs hw_12 hP hD hS => ?_)
        have hP : va_P D gcl [(a0, .inr (8, [.ref a1])), (a1, .inl (cI, 30, .inl f_3))] H := hP
        have hD : va_D A [(a0, .inr (8, [.ref a1])), (a1, .inl (cI, 30, .inl f_3))] := hD
        have hw_13 : ((((-2147483648) ≤ r_11.toInt ∧ r_11.toInt ≤ 2147483647))) := hw_12
        have rr_11 := n_rng r_11
        refine lv_imul (pc := 29) hx hb dX8_takeAway_29 ?_
        refine lv_topi (fun x_14 _ => ?_)
        have rx_14 := n_rng x_14
        refine lv_isub (pc := 30) hx hb dX8_takeAway_30 ?_
        refine lv_topi (fun x_15 _ => ?_)
        have rx_15 := n_rng x_15
        refine gc_v (pc := 31) (wc := [(a0, .inr (8, [.ref a1])), (a1, .inl (cI, 30, .inl f_3))]) (wr := []) hP hD hS hA [0, 1] [] rfl rfl (by decide) (by decide) (by decide) (fun hPc hDc => va_runV (As := [.int x_1, .int x0, .int x_15]) (rest := []) ⟨hx, hb, hml, hown, hts⟩ (k_X8_setAt l D cB cC cI cJ _ a0 a1 x_1 x0 x_15 f_3 (by  omega) (by  omega)) ⟨gcwB hts tw_637 tw_5 tw_1066 hd_yX8_setAt ⟨Nat.le_of_ble_eq_true rfl, Nat.le_of_ble_eq_true rfl⟩, hts _ tw_635, hts _ tw_636⟩ ⟨gblind, va_recv hK hPc (ci := 8) (q0 := 0) rfl rfl, (gpreS hPc hK hDc hN).2⟩ rfl rfl hl.1 rfl (lv_room (Nat.le_of_ble_eq_true rfl)) dX8_takeAway_31 ⟨Nat.le_of_ble_eq_true rfl, Nat.le_of_ble_eq_true rfl⟩) (fun u_16 H locs hw_18 hP hD hS => ?_)
        have hP : va_P D gcl [(a0, .inr (8, [.ref a1])), (a1, .inl (cI, 30, .inl (u_16.2.1 0)))] H := hP
        have hD : va_D A [(a0, .inr (8, [.ref a1])), (a1, .inl (cI, 30, .inl (u_16.2.1 0)))] := hD
        refine b_iinc (pc := 34) hx hb dX8_takeAway_34 hl (k := 0) rfl rfl tI_1 (by omega) (by omega) (by decide) (fun x_19 ex_19 ls hl => ?_)
        have hl : lv_has ls 5 [(4, .int x_19), (0, .ref a0), (1, .int x0), (2, .int x1), (3, .int x2)] := hl
        refine lv_goto (pc := 37) (tgt := 3) hx hb dX8_takeAway_37 (by decide) ?_
        exact ih_lp_4 x_19 (u_16.2.1 0) _ _ ls (by omega) (by omega) hP hD hS (lv_sub hl [0, 1, 2, 3, 4] rfl)
  exact lp_4 _ 0 f0 _ _ ls (by have k0 := tI_0; omega) (Nat.lt_succ_self _) hP hD hS (lv_sub hl [0, 1, 2, 3, 4] rfl)
set_option maxHeartbeats 4000000 in
set_option maxRecDepth 100000 in
theorem k_X8_clashOf (l : Launch) (D : va_G) (cB cC cI cJ : ClassId) (sz : Nat) (a0 a1 : Nat) (x0 x1 : Int32) (f0 : Nat → Int32) (hp1 : (0 ≤ x0.toInt ∧ x0.toInt ≤ 4)) (hp2 : (0 ≤ x1.toInt ∧ x1.toInt ≤ 4)) : Met l yX8_clashOf (.code yX8_clashOf cX8_clashOf 7 (some .int) :: lw_gd) ({ frames := 2, cells := 0, slots := 0, locals := 46 }) (gPre D [(cB, .byte), (cC, .char), (cI, .int), (cJ, .long)] [.ref a0, .int x0, .int x1] [(a0, .inr (8, [.ref a1])), (a1, .inl (cI, 30, .inl f0))] sz) (va_Qi (fun r u => ((((-2147483648) ≤ r.toInt ∧ r.toInt ≤ 2147483647)) ∨ (r.toInt = 0))) (gB D (va_A [(a0, .inr (8, [.ref a1])), (a1, .inl (cI, 30, .inl f0))] sz) (fun u : gEx => [(a0, .inr (8, [.ref a1])), (a1, .inl (cI, 30, .inl f0))])) (va_A [(a0, .inr (8, [.ref a1])), (a1, .inl (cI, 30, .inl f0))] sz)) 0 0 (va_A [(a0, .inr (8, [.ref a1])), (a1, .inl (cI, 30, .inl f0))] sz) := by
  refine gOf_i (by decide +kernel) (Nat.le_of_ble_eq_true rfl) ?_
  intro p e s m args below meth c ls A Q hx hb hts hown hml hN hK hP hD hA hl hret
  have hown : s.vm.findClass RX8 = some m.cls := hown
  have hS : va_S A s.heap s.heap [] := va_S.rf
  have hP : va_P D gcl [(a0, .inr (8, [.ref a1])), (a1, .inl (cI, 30, .inl f0))] s.heap := hP
  have hl : lv_has ls 7 [(0, .ref a0), (1, .int x0), (2, .int x1)] := hl
  refine lv_aload_n (pc := 0) hx hb dX8_clashOf_0 rfl (lv_at hl 0 rfl) ?_
  refine lv_iload_n (pc := 1) hx hb dX8_clashOf_1 rfl (lv_at hl 1 rfl) ?_
  refine lv_iload_n (pc := 2) hx hb dX8_clashOf_2 rfl (lv_at hl 2 rfl) ?_
  refine gc_i (pc := 3) (wc := [(a0, .inr (8, [.ref a1])), (a1, .inl (cI, 30, .inl f0))]) (wr := []) hP hD hS hA [0, 1] [] rfl rfl (by decide) (by decide) (by decide) (fun hPc hDc => va_runV (As := [.int x0, .int x1]) (rest := []) ⟨hx, hb, hml, hown, hts⟩ (k_X8_productOf l D cB cC cI cJ _ a0 a1 x0 x1 f0 (by  omega) (by  omega)) ⟨gcwB hts tw_799 tw_5 tw_1108 hd_yX8_productOf ⟨Nat.le_of_ble_eq_true rfl, Nat.le_of_ble_eq_true rfl⟩, hts _ tw_797, hts _ tw_798⟩ ⟨gblind, va_recv hK hPc (ci := 8) (q0 := 0) rfl rfl, (gpreS hPc hK hDc hN).2⟩ rfl rfl hl.1 rfl (lv_room (Nat.le_of_ble_eq_true rfl)) dX8_clashOf_3 ⟨Nat.le_of_ble_eq_true rfl, Nat.le_of_ble_eq_true rfl⟩) (fun r_2 u_1 H locs hw_3 hP hD hS => ?_)
  have hP : va_P D gcl [(a0, .inr (8, [.ref a1])), (a1, .inl (cI, 30, .inl f0))] H := hP
  have hD : va_D A [(a0, .inr (8, [.ref a1])), (a1, .inl (cI, 30, .inl f0))] := hD
  have hw_4 : ((((-2147483648) ≤ r_2.toInt ∧ r_2.toInt ≤ 2147483647))) := hw_3
  have rr_2 := n_rng r_2
  refine b_i2l (pc := 6) hx hb rfl dX8_clashOf_6 (fun y_5 ey_5 => ?_)
  have ry_5 := n_rng r_2
  refine lv_lstore_n (pc := 7) (lv' := [(3, .long y_5), (0, .ref a0), (1, .int x0), (2, .int x1)]) hx hb dX8_clashOf_7 rfl hl (by decide) rfl (fun ls hl => ?_)
  refine lv_aload_n (pc := 8) hx hb dX8_clashOf_8 rfl (lv_at hl 1 rfl) ?_
  refine lv_iload_n (pc := 9) hx hb dX8_clashOf_9 rfl (lv_at hl 2 rfl) ?_
  refine lv_iload_n (pc := 10) hx hb dX8_clashOf_10 rfl (lv_at hl 2 rfl) ?_
  refine gc_i (pc := 11) (wc := [(a0, .inr (8, [.ref a1])), (a1, .inl (cI, 30, .inl f0))]) (wr := []) hP hD hS hA [0, 1] [] rfl rfl (by decide) (by decide) (by decide) (fun hPc hDc => va_runV (As := [.int x0, .int x0]) (rest := []) ⟨hx, hb, hml, hown, hts⟩ (k_X8_productOf l D cB cC cI cJ _ a0 a1 x0 x0 f0 (by  omega) (by  omega)) ⟨gcwB hts tw_799 tw_5 tw_1108 hd_yX8_productOf ⟨Nat.le_of_ble_eq_true rfl, Nat.le_of_ble_eq_true rfl⟩, hts _ tw_797, hts _ tw_798⟩ ⟨gblind, va_recv hK hPc (ci := 8) (q0 := 0) rfl rfl, (gpreS hPc hK hDc hN).2⟩ rfl rfl hl.1 rfl (lv_room (Nat.le_of_ble_eq_true rfl)) dX8_clashOf_11 ⟨Nat.le_of_ble_eq_true rfl, Nat.le_of_ble_eq_true rfl⟩) (fun r_7 u_6 H locs hw_8 hP hD hS => ?_)
  have hP : va_P D gcl [(a0, .inr (8, [.ref a1])), (a1, .inl (cI, 30, .inl f0))] H := hP
  have hD : va_D A [(a0, .inr (8, [.ref a1])), (a1, .inl (cI, 30, .inl f0))] := hD
  have hw_9 : ((((-2147483648) ≤ r_7.toInt ∧ r_7.toInt ≤ 2147483647))) := hw_8
  have rr_7 := n_rng r_7
  refine b_i2l (pc := 14) hx hb rfl dX8_clashOf_14 (fun y_10 ey_10 => ?_)
  have ry_10 := n_rng r_7
  refine lv_aload_n (pc := 15) hx hb dX8_clashOf_15 rfl (lv_at hl 1 rfl) ?_
  refine lv_iload_n (pc := 16) hx hb dX8_clashOf_16 rfl (lv_at hl 3 rfl) ?_
  refine lv_iload_n (pc := 17) hx hb dX8_clashOf_17 rfl (lv_at hl 3 rfl) ?_
  refine gc_i (pc := 18) (wc := [(a0, .inr (8, [.ref a1])), (a1, .inl (cI, 30, .inl f0))]) (wr := []) hP hD hS hA [0, 1] [] rfl rfl (by decide) (by decide) (by decide) (fun hPc hDc => va_runV (As := [.int x1, .int x1]) (rest := [.long y_10]) ⟨hx, hb, hml, hown, hts⟩ (k_X8_productOf l D cB cC cI cJ _ a0 a1 x1 x1 f0 (by  omega) (by  omega)) ⟨gcwB hts tw_799 tw_5 tw_1108 hd_yX8_productOf ⟨Nat.le_of_ble_eq_true rfl, Nat.le_of_ble_eq_true rfl⟩, hts _ tw_797, hts _ tw_798⟩ ⟨gblind, va_recv hK hPc (ci := 8) (q0 := 0) rfl rfl, (gpreS hPc hK hDc hN).2⟩ rfl rfl hl.1 rfl (lv_room (Nat.le_of_ble_eq_true rfl)) dX8_clashOf_18 ⟨Nat.le_of_ble_eq_true rfl, Nat.le_of_ble_eq_true rfl⟩) (fun r_12 u_11 H locs hw_13 hP hD hS => ?_)
  have hP : va_P D gcl [(a0, .inr (8, [.ref a1])), (a1, .inl (cI, 30, .inl f0))] H := hP
  have hD : va_D A [(a0, .inr (8, [.ref a1])), (a1, .inl (cI, 30, .inl f0))] := hD
  have hw_14 : ((((-2147483648) ≤ r_12.toInt ∧ r_12.toInt ≤ 2147483647))) := hw_13
  have rr_12 := n_rng r_12
  refine b_i2l (pc := 21) hx hb rfl dX8_clashOf_21 (fun y_15 ey_15 => ?_)
  have ry_15 := n_rng r_12
  refine lv_lmul (pc := 22) hx hb dX8_clashOf_22 ?_
  refine lv_topl (fun y_16 _ => ?_)
  have ry_16 := n_rngL y_16
  refine lv_lstore (pc := 23) (lv' := [(5, .long y_16), (3, .long y_5), (0, .ref a0), (1, .int x0), (2, .int x1)]) hx hb dX8_clashOf_23 hl (by decide) rfl (fun ls hl => ?_)
  refine lv_lload (pc := 25) hx hb dX8_clashOf_25 (lv_at hl 0 rfl) ?_
  refine lv_lconst (pc := 27) (v := 0) hx hb dX8_clashOf_27 (by decide) ?_
  refine b_lcmp_ne (pc := 28) (tgt := 36) hx hb rfl tL_0 dX8_clashOf_28 dX8_clashOf_29 (by decide) (fun c_17 => ?_) (fun c_17 => ?_)
  ·
    refine lv_ldc2 (pc := 36) hx hb hown (hts _ tw_1109) dX8_clashOf_36 ?_
    refine lv_lload_n (pc := 39) hx hb dX8_clashOf_39 rfl (lv_at hl 1 rfl) ?_
    refine b_lmul (pc := 40) hx hb tL_1000 rfl (by omega) (by omega) dX8_clashOf_40 (fun y_18 ey_18 => ?_)
    refine lv_lload_n (pc := 41) hx hb dX8_clashOf_41 rfl (lv_at hl 1 rfl) ?_
    refine lv_lmul (pc := 42) hx hb dX8_clashOf_42 ?_
    refine lv_topl (fun y_19 _ => ?_)
    have ry_19 := n_rngL y_19
    refine lv_lload (pc := 43) hx hb dX8_clashOf_43 (lv_at hl 0 rfl) ?_
    refine lv_ldiv (pc := 45) hx hb dX8_clashOf_45 (fun h => by have q := congrArg Int64.toInt h; have k := tL_0; omega) ?_
    refine lv_topl (fun y_20 _ => ?_)
    have ry_20 := n_rngL y_20
    refine lv_l2i (pc := 46) hx hb dX8_clashOf_46 rfl ?_
    refine lv_topi (fun x_21 _ => ?_)
    have rx_21 := n_rng x_21
    exact hret x_21 ((fun _ => 0), (fun _ => (fun _ => 0)), (fun _ => (fun _ => 0)), (fun _ => 0), (fun _ => 0)) dX8_clashOf_47 (show ((((-2147483648) ≤ x_21.toInt ∧ x_21.toInt ≤ 2147483647)) ∨ (x_21.toInt = 0)) by omega) (g_psub (wc := [(a0, .inr (8, [.ref a1])), (a1, .inl (cI, 30, .inl f0))]) hP [0, 1] rfl) (hD.sub (ws' := [(a0, .inr (8, [.ref a1])), (a1, .inl (cI, 30, .inl f0))]) [0, 1] (by decide) rfl) hS
  ·
    refine lv_iconst (pc := 32) (v := 0) hx hb dX8_clashOf_32 (by decide) ?_
    refine lv_goto (pc := 33) (tgt := 47) hx hb dX8_clashOf_33 (by decide) ?_
    exact hret 0 ((fun _ => 0), (fun _ => (fun _ => 0)), (fun _ => (fun _ => 0)), (fun _ => 0), (fun _ => 0)) dX8_clashOf_47 (show ((((-2147483648) ≤ (0 : Int32).toInt ∧ (0 : Int32).toInt ≤ 2147483647)) ∨ ((0 : Int32).toInt = 0)) by have k9 := tI_0; omega) (g_psub (wc := [(a0, .inr (8, [.ref a1])), (a1, .inl (cI, 30, .inl f0))]) hP [0, 1] rfl) (hD.sub (ws' := [(a0, .inr (8, [.ref a1])), (a1, .inl (cI, 30, .inl f0))]) [0, 1] (by decide) rfl) hS
set_option maxHeartbeats 4000000 in
set_option maxRecDepth 100000 in
theorem k_X8_worstPair (l : Launch) (D : va_G) (cB cC cI cJ : ClassId) (sz : Nat) (a0 a1 : Nat) (x0 : Int32) (f0 : Nat → Int32) (hp1 : ((-1) ≤ x0.toInt ∧ x0.toInt ≤ 5)) : Met l yX8_worstPair (.code yX8_worstPair cX8_worstPair 7 (some .int) :: lw_gd) ({ frames := 3, cells := 0, slots := 0, locals := 72 }) (gPre D [(cB, .byte), (cC, .char), (cI, .int), (cJ, .long)] [.ref a0, .int x0] [(a0, .inr (8, [.ref a1])), (a1, .inl (cI, 30, .inl f0))] sz) (va_Qi (fun r u => ((((-2147483648) ≤ r.toInt ∧ r.toInt ≤ 2147483647) ∧ ((-1) ≤ x0.toInt ∧ x0.toInt ≤ 5)))) (gB D (va_A [(a0, .inr (8, [.ref a1])), (a1, .inl (cI, 30, .inl f0))] sz) (fun u : gEx => [(a0, .inr (8, [.ref a1])), (a1, .inl (cI, 30, .inl f0))])) (va_A [(a0, .inr (8, [.ref a1])), (a1, .inl (cI, 30, .inl f0))] sz)) 0 0 (va_A [(a0, .inr (8, [.ref a1])), (a1, .inl (cI, 30, .inl f0))] sz) := by
  refine gOf_i (by decide +kernel) (Nat.le_of_ble_eq_true rfl) ?_
  intro p e s m args below meth c ls A Q hx hb hts hown hml hN hK hP hD hA hl hret
  have hown : s.vm.findClass RX8 = some m.cls := hown
  have hS : va_S A s.heap s.heap [] := va_S.rf
  have hP : va_P D gcl [(a0, .inr (8, [.ref a1])), (a1, .inl (cI, 30, .inl f0))] s.heap := hP
  have hl : lv_has ls 7 [(0, .ref a0), (1, .int x0)] := hl
  refine lv_iconst (pc := 0) (v := (-1)) hx hb dX8_worstPair_0 (by decide) ?_
  refine lv_istore_n (pc := 1) (lv' := [(2, .int (-1)), (0, .ref a0), (1, .int x0)]) hx hb dX8_worstPair_1 rfl hl (by decide) rfl (fun ls hl => ?_)
  refine lv_iconst (pc := 2) (v := (-1)) hx hb dX8_worstPair_2 (by decide) ?_
  refine lv_istore_n (pc := 3) (lv' := [(3, .int (-1)), (2, .int (-1)), (0, .ref a0), (1, .int x0)]) hx hb dX8_worstPair_3 rfl hl (by decide) rfl (fun ls hl => ?_)
  refine lv_iconst (pc := 4) (v := 0) hx hb dX8_worstPair_4 (by decide) ?_
  refine lv_istore (pc := 5) (lv' := [(4, .int 0), (3, .int (-1)), (2, .int (-1)), (0, .ref a0), (1, .int x0)]) hx hb dX8_worstPair_5 hl (by decide) rfl (fun ls hl => ?_)
  have lp_7 : ∀ (n : Nat) (x_1 x_3 x_5 : Int32) (H : Heap) (locs : List Loc) (ls : Array Slot), (0 ≤ x_1.toInt ∧ x_1.toInt ≤ 2147483647) → (2147483647 - x_1.toInt).toNat < n → va_P D gcl [(a0, .inr (8, [.ref a1])), (a1, .inl (cI, 30, .inl f0))] H → va_D A [(a0, .inr (8, [.ref a1])), (a1, .inl (cI, 30, .inl f0))] → va_S A s.heap H locs → lv_has ls 7 [(4, .int x_1), (3, .int x_3), (2, .int x_5), (0, .ref a0), (1, .int x0)] → W p l e ({ frames := 3, cells := 0, slots := 0, locals := 72 }) s m args below meth c H locs 0 0 Q (F0 m 7 ls []) := by
    intro n
    induction n with
    | zero => intro x_1 x_3 x_5 H locs ls hi_2 hmu; exact absurd hmu (Nat.not_lt_zero _)
    | succ n ih_lp_7 =>
      intro x_1 x_3 x_5 H locs ls hi_2 hmu_lp_7 hP hD hS hl
      have hi_4 := n_rng x_3
      have hi_6 := n_rng x_5
      refine lv_iload (pc := 7) hx hb dX8_worstPair_7 (lv_at hl 0 rfl) ?_
      refine lv_iload_n (pc := 9) hx hb dX8_worstPair_9 rfl (lv_at hl 4 rfl) ?_
      refine b_icmp_ge (pc := 10) (tgt := 65) hx hb rfl rfl  dX8_worstPair_10 (by decide) (fun c_8 => ?_) (fun c_8 => ?_)
      ·
        refine lv_iload_n (pc := 65) hx hb dX8_worstPair_65 rfl (lv_at hl 2 rfl) ?_
        exact hret x_5 ((fun _ => 0), (fun _ => (fun _ => 0)), (fun _ => (fun _ => 0)), (fun _ => 0), (fun _ => 0)) dX8_worstPair_66 (show ((((-2147483648) ≤ x_5.toInt ∧ x_5.toInt ≤ 2147483647) ∧ ((-1) ≤ x0.toInt ∧ x0.toInt ≤ 5))) by omega) (g_psub (wc := [(a0, .inr (8, [.ref a1])), (a1, .inl (cI, 30, .inl f0))]) hP [0, 1] rfl) (hD.sub (ws' := [(a0, .inr (8, [.ref a1])), (a1, .inl (cI, 30, .inl f0))]) [0, 1] (by decide) rfl) hS
      ·
        refine lv_iload (pc := 13) hx hb dX8_worstPair_13 (lv_at hl 0 rfl) ?_
        refine lv_iconst (pc := 15) (v := 1) hx hb dX8_worstPair_15 (by decide) ?_
        refine b_iadd (pc := 16) hx hb rfl tI_1 (by omega) (by omega) dX8_worstPair_16 (fun x_9 ex_9 => ?_)
        refine lv_istore (pc := 17) (lv' := [(5, .int x_9), (4, .int x_1), (3, .int x_3), (2, .int x_5), (0, .ref a0), (1, .int x0)]) hx hb dX8_worstPair_17 hl (by decide) rfl (fun ls hl => ?_)
        have lp_16 : ∀ (n : Nat) (x_10 x_12 x_14 : Int32) (H : Heap) (locs : List Loc) (ls : Array Slot), (1 ≤ x_10.toInt ∧ x_10.toInt ≤ 2147483647) → (2147483647 - x_10.toInt).toNat < n → va_P D gcl [(a0, .inr (8, [.ref a1])), (a1, .inl (cI, 30, .inl f0))] H → va_D A [(a0, .inr (8, [.ref a1])), (a1, .inl (cI, 30, .inl f0))] → va_S A s.heap H locs → lv_has ls 7 [(5, .int x_10), (4, .int x_1), (3, .int x_12), (2, .int x_14), (0, .ref a0), (1, .int x0)] → W p l e ({ frames := 3, cells := 0, slots := 0, locals := 72 }) s m args below meth c H locs 0 0 Q (F0 m 19 ls []) := by
          intro n
          induction n with
          | zero => intro x_10 x_12 x_14 H locs ls hi_11 hmu; exact absurd hmu (Nat.not_lt_zero _)
          | succ n ih_lp_16 =>
            intro x_10 x_12 x_14 H locs ls hi_11 hmu_lp_16 hP hD hS hl
            have hi_13 := n_rng x_12
            have hi_15 := n_rng x_14
            refine lv_iload (pc := 19) hx hb dX8_worstPair_19 (lv_at hl 0 rfl) ?_
            refine lv_iload_n (pc := 21) hx hb dX8_worstPair_21 rfl (lv_at hl 5 rfl) ?_
            refine b_icmp_ge (pc := 22) (tgt := 59) hx hb rfl rfl  dX8_worstPair_22 (by decide) (fun c_17 => ?_) (fun c_17 => ?_)
            ·
              refine b_iinc (pc := 59) hx hb dX8_worstPair_59 hl (k := 1) rfl rfl tI_1 (by omega) (by omega) (by decide) (fun x_18 ex_18 ls hl => ?_)
              have hl : lv_has ls 7 [(4, .int x_18), (5, .int x_10), (3, .int x_12), (2, .int x_14), (0, .ref a0), (1, .int x0)] := hl
              refine lv_goto (pc := 62) (tgt := 7) hx hb dX8_worstPair_62 (by decide) ?_
              exact ih_lp_7 x_18 x_12 x_14 _ _ ls (by omega) (by omega) hP hD hS (lv_sub hl [0, 2, 3, 4, 5] rfl)
            ·
              refine lv_aload_n (pc := 25) hx hb dX8_worstPair_25 rfl (lv_at hl 4 rfl) ?_
              refine lv_iload (pc := 26) hx hb dX8_worstPair_26 (lv_at hl 1 rfl) ?_
              refine lv_iload (pc := 28) hx hb dX8_worstPair_28 (lv_at hl 0 rfl) ?_
              refine gc_i (pc := 30) (wc := [(a0, .inr (8, [.ref a1])), (a1, .inl (cI, 30, .inl f0))]) (wr := []) hP hD hS hA [0, 1] [] rfl rfl (by decide) (by decide) (by decide) (fun hPc hDc => va_runV (As := [.int x_1, .int x_10]) (rest := []) ⟨hx, hb, hml, hown, hts⟩ (k_X8_clashOf l D cB cC cI cJ _ a0 a1 x_1 x_10 f0 (by  omega) (by  omega)) ⟨gcwB hts tw_1107 tw_5 tw_1118 hd_yX8_clashOf ⟨Nat.le_of_ble_eq_true rfl, Nat.le_of_ble_eq_true rfl⟩, hts _ tw_1105, hts _ tw_1106⟩ ⟨gblind, va_recv hK hPc (ci := 8) (q0 := 0) rfl rfl, (gpreS hPc hK hDc hN).2⟩ rfl rfl hl.1 rfl (lv_room (Nat.le_of_ble_eq_true rfl)) dX8_worstPair_30 ⟨Nat.le_of_ble_eq_true rfl, Nat.le_of_ble_eq_true rfl⟩) (fun r_20 u_19 H locs hw_21 hP hD hS => ?_)
              have hP : va_P D gcl [(a0, .inr (8, [.ref a1])), (a1, .inl (cI, 30, .inl f0))] H := hP
              have hD : va_D A [(a0, .inr (8, [.ref a1])), (a1, .inl (cI, 30, .inl f0))] := hD
              have hw_22 : ((((-2147483648) ≤ r_20.toInt ∧ r_20.toInt ≤ 2147483647)) ∨ (r_20.toInt = 0)) := hw_21
              have rr_20 := n_rng r_20
              refine lv_istore (pc := 33) (lv' := [(6, .int r_20), (5, .int x_10), (4, .int x_1), (3, .int x_12), (2, .int x_14), (0, .ref a0), (1, .int x0)]) hx hb dX8_worstPair_33 hl (by decide) rfl (fun ls hl => ?_)
              refine lv_iload (pc := 35) hx hb dX8_worstPair_35 (lv_at hl 0 rfl) ?_
              refine lv_iload_n (pc := 37) hx hb dX8_worstPair_37 rfl (lv_at hl 3 rfl) ?_
              refine b_icmp_le (pc := 38) (tgt := 53) hx hb rfl rfl  dX8_worstPair_38 (by decide) (fun c_23 => ?_) (fun c_23 => ?_)
              ·
                refine b_iinc (pc := 53) hx hb dX8_worstPair_53 hl (k := 1) rfl rfl tI_1 (by omega) (by omega) (by decide) (fun x_24 ex_24 ls hl => ?_)
                have hl : lv_has ls 7 [(5, .int x_24), (6, .int r_20), (4, .int x_1), (3, .int x_12), (2, .int x_14), (0, .ref a0), (1, .int x0)] := hl
                refine lv_goto (pc := 56) (tgt := 19) hx hb dX8_worstPair_56 (by decide) ?_
                exact ih_lp_16 x_24 x_12 x_14 _ _ ls (by omega) (by omega) hP hD hS (lv_sub hl [0, 2, 3, 4, 5, 6] rfl)
              ·
                refine lv_iload (pc := 41) hx hb dX8_worstPair_41 (lv_at hl 0 rfl) ?_
                refine lv_istore_n (pc := 43) (lv' := [(3, .int r_20), (6, .int r_20), (5, .int x_10), (4, .int x_1), (2, .int x_14), (0, .ref a0), (1, .int x0)]) hx hb dX8_worstPair_43 rfl hl (by decide) rfl (fun ls hl => ?_)
                refine lv_bipush (pc := 44) (v := 100) hx hb dX8_worstPair_44 (by decide) ?_
                refine lv_iload (pc := 46) hx hb dX8_worstPair_46 (lv_at hl 3 rfl) ?_
                refine b_imul (pc := 48) hx hb tI_100 rfl (by omega) (by omega) dX8_worstPair_48 (fun x_25 ex_25 => ?_)
                refine lv_iload (pc := 49) hx hb dX8_worstPair_49 (lv_at hl 2 rfl) ?_
                refine b_iadd (pc := 51) hx hb rfl rfl (by omega) (by omega) dX8_worstPair_51 (fun x_26 ex_26 => ?_)
                refine lv_istore_n (pc := 52) (lv' := [(2, .int x_26), (3, .int r_20), (6, .int r_20), (5, .int x_10), (4, .int x_1), (0, .ref a0), (1, .int x0)]) hx hb dX8_worstPair_52 rfl hl (by decide) rfl (fun ls hl => ?_)
                refine b_iinc (pc := 53) hx hb dX8_worstPair_53 hl (k := 3) rfl rfl tI_1 (by omega) (by omega) (by decide) (fun x_27 ex_27 ls hl => ?_)
                have hl : lv_has ls 7 [(5, .int x_27), (2, .int x_26), (3, .int r_20), (6, .int r_20), (4, .int x_1), (0, .ref a0), (1, .int x0)] := hl
                refine lv_goto (pc := 56) (tgt := 19) hx hb dX8_worstPair_56 (by decide) ?_
                exact ih_lp_16 x_27 r_20 x_26 _ _ ls (by omega) (by omega) hP hD hS (lv_sub hl [0, 4, 2, 1, 5, 6] rfl)
        exact lp_16 _ x_9 x_3 x_5 _ _ ls (by omega) (Nat.lt_succ_self _) hP hD hS (lv_sub hl [0, 1, 2, 3, 4, 5] rfl)
  exact lp_7 _ 0 (-1) (-1) _ _ ls (by have k0 := tI_0; have k1 := tI_m1; omega) (Nat.lt_succ_self _) hP hD hS (lv_sub hl [0, 1, 2, 3, 4] rfl)
set_option maxHeartbeats 4000000 in
set_option maxRecDepth 100000 in
theorem k_X8_allSquares (l : Launch) (D : va_G) (cB cC cI cJ : ClassId) (sz : Nat) (a0 a1 : Nat) (f0 : Nat → Int32) : Met l yX8_allSquares (.code yX8_allSquares cX8_allSquares 4 (some .long) :: lw_gd) ({ frames := 2, cells := 0, slots := 0, locals := 46 }) (gPre D [(cB, .byte), (cC, .char), (cI, .int), (cJ, .long)] [.ref a0] [(a0, .inr (8, [.ref a1])), (a1, .inl (cI, 30, .inl f0))] sz) (va_Ql (fun r u => ((((-9223372036854775808) ≤ r.toInt ∧ r.toInt ≤ 9223372036854775807)))) (gB D (va_A [(a0, .inr (8, [.ref a1])), (a1, .inl (cI, 30, .inl f0))] sz) (fun u : gEx => [(a0, .inr (8, [.ref a1])), (a1, .inl (cI, 30, .inl f0))])) (va_A [(a0, .inr (8, [.ref a1])), (a1, .inl (cI, 30, .inl f0))] sz)) 0 0 (va_A [(a0, .inr (8, [.ref a1])), (a1, .inl (cI, 30, .inl f0))] sz) := by
  refine gOf_l (by decide +kernel) (Nat.le_of_ble_eq_true rfl) ?_
  intro p e s m args below meth c ls A Q hx hb hts hown hml hN hK hP hD hA hl hret
  have hown : s.vm.findClass RX8 = some m.cls := hown
  have hS : va_S A s.heap s.heap [] := va_S.rf
  have hP : va_P D gcl [(a0, .inr (8, [.ref a1])), (a1, .inl (cI, 30, .inl f0))] s.heap := hP
  have hl : lv_has ls 4 [(0, .ref a0)] := hl
  refine lv_lconst (pc := 0) (v := 0) hx hb dX8_allSquares_0 (by decide) ?_
  refine lv_lstore_n (pc := 1) (lv' := [(1, .long 0), (0, .ref a0)]) hx hb dX8_allSquares_1 rfl hl (by decide) rfl (fun ls hl => ?_)
  refine lv_iconst (pc := 2) (v := 0) hx hb dX8_allSquares_2 (by decide) ?_
  refine lv_istore_n (pc := 3) (lv' := [(3, .int 0), (1, .long 0), (0, .ref a0)]) hx hb dX8_allSquares_3 rfl hl (by decide) rfl (fun ls hl => ?_)
  have lp_5 : ∀ (n : Nat) (x_1 : Int32) (y_3 : Int64) (H : Heap) (locs : List Loc) (ls : Array Slot), (0 ≤ x_1.toInt ∧ x_1.toInt ≤ 2147483647) → (2147483647 - x_1.toInt).toNat < n → va_P D gcl [(a0, .inr (8, [.ref a1])), (a1, .inl (cI, 30, .inl f0))] H → va_D A [(a0, .inr (8, [.ref a1])), (a1, .inl (cI, 30, .inl f0))] → va_S A s.heap H locs → lv_has ls 4 [(3, .int x_1), (1, .long y_3), (0, .ref a0)] → W p l e ({ frames := 2, cells := 0, slots := 0, locals := 46 }) s m args below meth c H locs 0 0 Q (F0 m 4 ls []) := by
    intro n
    induction n with
    | zero => intro x_1 y_3 H locs ls hi_2 hmu; exact absurd hmu (Nat.not_lt_zero _)
    | succ n ih_lp_5 =>
      intro x_1 y_3 H locs ls hi_2 hmu_lp_5 hP hD hS hl
      have hi_4 := n_rngL y_3
      refine lv_iload_n (pc := 4) hx hb dX8_allSquares_4 rfl (lv_at hl 0 rfl) ?_
      refine lv_iconst (pc := 5) (v := 5) hx hb dX8_allSquares_5 (by decide) ?_
      refine b_icmp_ge (pc := 6) (tgt := 25) hx hb rfl tI_5  dX8_allSquares_6 (by decide) (fun c_6 => ?_) (fun c_6 => ?_)
      ·
        refine lv_lload_n (pc := 25) hx hb dX8_allSquares_25 rfl (lv_at hl 1 rfl) ?_
        exact hret y_3 ((fun _ => 0), (fun _ => (fun _ => 0)), (fun _ => (fun _ => 0)), (fun _ => 0), (fun _ => 0)) dX8_allSquares_26 (show ((((-9223372036854775808) ≤ y_3.toInt ∧ y_3.toInt ≤ 9223372036854775807))) by omega) (g_psub (wc := [(a0, .inr (8, [.ref a1])), (a1, .inl (cI, 30, .inl f0))]) hP [0, 1] rfl) (hD.sub (ws' := [(a0, .inr (8, [.ref a1])), (a1, .inl (cI, 30, .inl f0))]) [0, 1] (by decide) rfl) hS
      ·
        refine lv_lload_n (pc := 9) hx hb dX8_allSquares_9 rfl (lv_at hl 1 rfl) ?_
        refine lv_aload_n (pc := 10) hx hb dX8_allSquares_10 rfl (lv_at hl 2 rfl) ?_
        refine lv_iload_n (pc := 11) hx hb dX8_allSquares_11 rfl (lv_at hl 0 rfl) ?_
        refine lv_iload_n (pc := 12) hx hb dX8_allSquares_12 rfl (lv_at hl 0 rfl) ?_
        refine gc_i (pc := 13) (wc := [(a0, .inr (8, [.ref a1])), (a1, .inl (cI, 30, .inl f0))]) (wr := []) hP hD hS hA [0, 1] [] rfl rfl (by decide) (by decide) (by decide) (fun hPc hDc => va_runV (As := [.int x_1, .int x_1]) (rest := [.long y_3]) ⟨hx, hb, hml, hown, hts⟩ (k_X8_productOf l D cB cC cI cJ _ a0 a1 x_1 x_1 f0 (by  omega) (by  omega)) ⟨gcwB hts tw_799 tw_5 tw_1108 hd_yX8_productOf ⟨Nat.le_of_ble_eq_true rfl, Nat.le_of_ble_eq_true rfl⟩, hts _ tw_797, hts _ tw_798⟩ ⟨gblind, va_recv hK hPc (ci := 8) (q0 := 0) rfl rfl, (gpreS hPc hK hDc hN).2⟩ rfl rfl hl.1 rfl (lv_room (Nat.le_of_ble_eq_true rfl)) dX8_allSquares_13 ⟨Nat.le_of_ble_eq_true rfl, Nat.le_of_ble_eq_true rfl⟩) (fun r_8 u_7 H locs hw_9 hP hD hS => ?_)
        have hP : va_P D gcl [(a0, .inr (8, [.ref a1])), (a1, .inl (cI, 30, .inl f0))] H := hP
        have hD : va_D A [(a0, .inr (8, [.ref a1])), (a1, .inl (cI, 30, .inl f0))] := hD
        have hw_10 : ((((-2147483648) ≤ r_8.toInt ∧ r_8.toInt ≤ 2147483647))) := hw_9
        have rr_8 := n_rng r_8
        refine b_i2l (pc := 16) hx hb rfl dX8_allSquares_16 (fun y_11 ey_11 => ?_)
        have ry_11 := n_rng r_8
        refine lv_ladd (pc := 17) hx hb dX8_allSquares_17 ?_
        refine lv_topl (fun y_12 _ => ?_)
        have ry_12 := n_rngL y_12
        refine lv_lstore_n (pc := 18) (lv' := [(1, .long y_12), (3, .int x_1), (0, .ref a0)]) hx hb dX8_allSquares_18 rfl hl (by decide) rfl (fun ls hl => ?_)
        refine b_iinc (pc := 19) hx hb dX8_allSquares_19 hl (k := 1) rfl rfl tI_1 (by omega) (by omega) (by decide) (fun x_13 ex_13 ls hl => ?_)
        have hl : lv_has ls 4 [(3, .int x_13), (1, .long y_12), (0, .ref a0)] := hl
        refine lv_goto (pc := 22) (tgt := 4) hx hb dX8_allSquares_22 (by decide) ?_
        exact ih_lp_5 x_13 y_12 _ _ ls (by omega) (by omega) hP hD hS (lv_sub hl [0, 1, 2] rfl)
  exact lp_5 _ 0 0 _ _ ls (by have k0 := tI_0; have k1 := tL_0; omega) (Nat.lt_succ_self _) hP hD hS (lv_sub hl [0, 1, 2] rfl)
set_option maxHeartbeats 4000000 in
set_option maxRecDepth 100000 in
theorem k_X8_peakOf (l : Launch) (D : va_G) (cB cC cI cJ : ClassId) (sz : Nat) (a0 a1 : Nat) (x0 : Int32) (f0 : Nat → Int32) (hp1 : (0 ≤ x0.toInt ∧ x0.toInt ≤ 4)) : Met l yX8_peakOf (.code yX8_peakOf cX8_peakOf 4 (some .int) :: lw_gd) ({ frames := 1, cells := 0, slots := 0, locals := 22 }) (gPre D [(cB, .byte), (cC, .char), (cI, .int), (cJ, .long)] [.ref a0, .int x0] [(a0, .inr (8, [.ref a1])), (a1, .inl (cI, 30, .inl f0))] sz) (va_Qi (fun r u => ((((-2147483648) ≤ r.toInt ∧ r.toInt ≤ 2147483647)))) (gB D (va_A [(a0, .inr (8, [.ref a1])), (a1, .inl (cI, 30, .inl f0))] sz) (fun u : gEx => [(a0, .inr (8, [.ref a1])), (a1, .inl (cI, 30, .inl f0))])) (va_A [(a0, .inr (8, [.ref a1])), (a1, .inl (cI, 30, .inl f0))] sz)) 0 0 (va_A [(a0, .inr (8, [.ref a1])), (a1, .inl (cI, 30, .inl f0))] sz) := by
  refine gOf_i (by decide +kernel) (Nat.le_of_ble_eq_true rfl) ?_
  intro p e s m args below meth c ls A Q hx hb hts hown hml hN hK hP hD hA hl hret
  have hown : s.vm.findClass RX8 = some m.cls := hown
  have hS : va_S A s.heap s.heap [] := va_S.rf
  have hP : va_P D gcl [(a0, .inr (8, [.ref a1])), (a1, .inl (cI, 30, .inl f0))] s.heap := hP
  have hl : lv_has ls 4 [(0, .ref a0), (1, .int x0)] := hl
  refine lv_iconst (pc := 0) (v := 0) hx hb dX8_peakOf_0 (by decide) ?_
  refine lv_istore_n (pc := 1) (lv' := [(2, .int 0), (0, .ref a0), (1, .int x0)]) hx hb dX8_peakOf_1 rfl hl (by decide) rfl (fun ls hl => ?_)
  refine lv_iconst (pc := 2) (v := 0) hx hb dX8_peakOf_2 (by decide) ?_
  refine lv_istore_n (pc := 3) (lv' := [(3, .int 0), (2, .int 0), (0, .ref a0), (1, .int x0)]) hx hb dX8_peakOf_3 rfl hl (by decide) rfl (fun ls hl => ?_)
  have lp_5 : ∀ (n : Nat) (x_1 x_3 : Int32) (H : Heap) (locs : List Loc) (ls : Array Slot), (0 ≤ x_1.toInt ∧ x_1.toInt ≤ 2147483647) → (2147483647 - x_1.toInt).toNat < n → va_P D gcl [(a0, .inr (8, [.ref a1])), (a1, .inl (cI, 30, .inl f0))] H → va_D A [(a0, .inr (8, [.ref a1])), (a1, .inl (cI, 30, .inl f0))] → va_S A s.heap H locs → lv_has ls 4 [(3, .int x_1), (2, .int x_3), (0, .ref a0), (1, .int x0)] → W p l e ({ frames := 1, cells := 0, slots := 0, locals := 22 }) s m args below meth c H locs 0 0 Q (F0 m 4 ls []) := by
    intro n
    induction n with
    | zero => intro x_1 x_3 H locs ls hi_2 hmu; exact absurd hmu (Nat.not_lt_zero _)
    | succ n ih_lp_5 =>
      intro x_1 x_3 H locs ls hi_2 hmu_lp_5 hP hD hS hl
      have hi_4 := n_rng x_3
      refine lv_iload_n (pc := 4) hx hb dX8_peakOf_4 rfl (lv_at hl 0 rfl) ?_
      refine lv_bipush (pc := 5) (v := 6) hx hb dX8_peakOf_5 (by decide) ?_
      refine b_icmp_ge (pc := 7) (tgt := 30) hx hb rfl tI_6  dX8_peakOf_7 (by decide) (fun c_6 => ?_) (fun c_6 => ?_)
      ·
        refine lv_iload_n (pc := 30) hx hb dX8_peakOf_30 rfl (lv_at hl 1 rfl) ?_
        exact hret x_3 ((fun _ => 0), (fun _ => (fun _ => 0)), (fun _ => (fun _ => 0)), (fun _ => 0), (fun _ => 0)) dX8_peakOf_31 (show ((((-2147483648) ≤ x_3.toInt ∧ x_3.toInt ≤ 2147483647))) by omega) (g_psub (wc := [(a0, .inr (8, [.ref a1])), (a1, .inl (cI, 30, .inl f0))]) hP [0, 1] rfl) (hD.sub (ws' := [(a0, .inr (8, [.ref a1])), (a1, .inl (cI, 30, .inl f0))]) [0, 1] (by decide) rfl) hS
      ·
        refine lv_iload_n (pc := 10) hx hb dX8_peakOf_10 rfl (lv_at hl 1 rfl) ?_
        refine lv_aload_n (pc := 11) hx hb dX8_peakOf_11 rfl (lv_at hl 2 rfl) ?_
        refine lv_iload_n (pc := 12) hx hb dX8_peakOf_12 rfl (lv_at hl 0 rfl) ?_
        refine lv_iload_n (pc := 13) hx hb dX8_peakOf_13 rfl (lv_at hl 3 rfl) ?_
        refine gc_i (pc := 14) (wc := [(a0, .inr (8, [.ref a1])), (a1, .inl (cI, 30, .inl f0))]) (wr := []) hP hD hS hA [0, 1] [] rfl rfl (by decide) (by decide) (by decide) (fun hPc hDc => va_runV (As := [.int x_1, .int x0]) (rest := [.int x_3]) ⟨hx, hb, hml, hown, hts⟩ (k_X8_at l D cB cC cI cJ _ a0 a1 x_1 x0 f0 (by  omega) (by  omega)) ⟨gcwB hts tw_791 tw_5 tw_800 hd_yX8_at ⟨Nat.le_of_ble_eq_true rfl, Nat.le_of_ble_eq_true rfl⟩, hts _ tw_789, hts _ tw_790⟩ ⟨gblind, va_recv hK hPc (ci := 8) (q0 := 0) rfl rfl, (gpreS hPc hK hDc hN).2⟩ rfl rfl hl.1 rfl (lv_room (Nat.le_of_ble_eq_true rfl)) dX8_peakOf_14 ⟨Nat.le_of_ble_eq_true rfl, Nat.le_of_ble_eq_true rfl⟩) (fun r_8 u_7 H locs hw_9 hP hD hS => ?_)
        have hP : va_P D gcl [(a0, .inr (8, [.ref a1])), (a1, .inl (cI, 30, .inl f0))] H := hP
        have hD : va_D A [(a0, .inr (8, [.ref a1])), (a1, .inl (cI, 30, .inl f0))] := hD
        have hw_10 : ((((-2147483648) ≤ r_8.toInt ∧ r_8.toInt ≤ 2147483647))) := hw_9
        have rr_8 := n_rng r_8
        refine va_mabs (pc := 17) hx hb (hml.trans hl.1.symm) hown (hts _ tw_1331) (hts _ tw_632) (hts _ tw_19) (hts _ tw_633) (Nat.le_of_ble_eq_true rfl) (Nat.le_of_ble_eq_true rfl) (Nat.le_of_ble_eq_true rfl) (Nat.le_of_ble_eq_true rfl) dX8_peakOf_17 ?_
        refine lv_topi (fun x_11 ex_11 => ?_)
        have ex_11 := n_abs rfl ex_11
        have rx_11 := n_rng x_11
        refine va_mmax (pc := 20) hx hb (hml.trans hl.1.symm) hown (hts _ tw_1332) (hts _ tw_885) (hts _ tw_19) (hts _ tw_886) (Nat.le_of_ble_eq_true rfl) (Nat.le_of_ble_eq_true rfl) (Nat.le_of_ble_eq_true rfl) (Nat.le_of_ble_eq_true rfl) dX8_peakOf_20 ?_
        refine lv_topi (fun x_12 ex_12 => ?_)
        have ex_12 := n_max rfl rfl ex_12
        have rx_12 := n_rng x_12
        refine lv_istore_n (pc := 23) (lv' := [(2, .int x_12), (3, .int x_1), (0, .ref a0), (1, .int x0)]) hx hb dX8_peakOf_23 rfl hl (by decide) rfl (fun ls hl => ?_)
        refine b_iinc (pc := 24) hx hb dX8_peakOf_24 hl (k := 1) rfl rfl tI_1 (by omega) (by omega) (by decide) (fun x_13 ex_13 ls hl => ?_)
        have hl : lv_has ls 4 [(3, .int x_13), (2, .int x_12), (0, .ref a0), (1, .int x0)] := hl
        refine lv_goto (pc := 27) (tgt := 4) hx hb dX8_peakOf_27 (by decide) ?_
        exact ih_lp_5 x_13 x_12 _ _ ls (by omega) (by omega) hP hD hS (lv_sub hl [0, 1, 2, 3] rfl)
  exact lp_5 _ 0 0 _ _ ls (by have k0 := tI_0; omega) (Nat.lt_succ_self _) hP hD hS (lv_sub hl [0, 1, 2, 3] rfl)
set_option maxHeartbeats 4000000 in
set_option maxRecDepth 100000 in
theorem k_X5_clear (l : Launch) (D : va_G) (cB cC cI cJ : ClassId) (sz : Nat) (a0 a1 a2 a3 a4 a5 : Nat) (x0 x1 : Int32) (h_x0 : (0 ≤ x0.toInt ∧ x0.toInt ≤ 1600)) (h_x1 : (0 ≤ x1.toInt ∧ x1.toInt ≤ 8)) : Met l yX5_clear (.code yX5_clear cX5_clear 1 none :: lw_gd) ({ frames := 0, cells := 0, slots := 0, locals := 0 }) (gPre D [(cB, .byte), (cC, .char), (cI, .int), (cJ, .long)] [.ref a0] [(a0, .inr (5, [.ref a1, .ref a2, .ref a3, .ref a4, .ref a5, .int x0, .int x1]))] sz) (va_Qv (fun u => True) (gB D (va_A [(a0, .inr (5, [.ref a1, .ref a2, .ref a3, .ref a4, .ref a5, .int x0, .int x1]))] sz) (fun u : gEx => [(a0, .inr (5, [.ref a1, .ref a2, .ref a3, .ref a4, .ref a5, .int 0, .int 0]))])) (va_A [(a0, .inr (5, [.ref a1, .ref a2, .ref a3, .ref a4, .ref a5, .int x0, .int x1]))] sz)) 0 0 (va_A [(a0, .inr (5, [.ref a1, .ref a2, .ref a3, .ref a4, .ref a5, .int x0, .int x1]))] sz) := by
  refine gOf_v (by decide +kernel) (Nat.le_of_ble_eq_true rfl) ?_
  intro p e s m args below meth c ls A Q hx hb hts hown hml hN hK hP hD hA hl hret
  have hown : s.vm.findClass RX5 = some m.cls := hown
  have hS : va_S A s.heap s.heap [] := va_S.rf
  have hP : va_P D gcl [(a0, .inr (5, [.ref a1, .ref a2, .ref a3, .ref a4, .ref a5, .int x0, .int x1]))] s.heap := hP
  have hl : lv_has ls 1 [(0, .ref a0)] := hl
  refine lv_aload_n (pc := 0) hx hb dX5_clear_0 rfl (lv_at hl 0 rfl) ?_
  refine lv_iconst (pc := 1) (v := 0) hx hb dX5_clear_1 (by decide) ?_
  refine va_put (pc := 2) (ci := 5) (v := .int 0) (ty := .int) (C := RX5) (T := TX5) (N := 7) hx hb hts iX5 tyX5 tyX5_ok nmX5 hown hK hP hD hS 0 rfl rfl 5 (by decide) (hts _ tw_78) (fun _ h9 => h9) rfl (by decide +kernel) (by decide +kernel) (by decide +kernel) (Nat.le_of_ble_eq_true rfl) dX5_clear_2 (fun H locs hP hD hS => ?_)
  have hP : va_P D gcl [(a0, .inr (5, [.ref a1, .ref a2, .ref a3, .ref a4, .ref a5, .int 0, .int x1]))] H := hP
  have hD : va_D A [(a0, .inr (5, [.ref a1, .ref a2, .ref a3, .ref a4, .ref a5, .int 0, .int x1]))] := hD
  refine lv_aload_n (pc := 5) hx hb dX5_clear_5 rfl (lv_at hl 0 rfl) ?_
  refine lv_iconst (pc := 6) (v := 0) hx hb dX5_clear_6 (by decide) ?_
  refine va_put (pc := 7) (ci := 5) (v := .int 0) (ty := .int) (C := RX5) (T := TX5) (N := 7) hx hb hts iX5 tyX5 tyX5_ok nmX5 hown hK hP hD hS 0 rfl rfl 6 (by decide) (hts _ tw_79) (fun _ h9 => h9) rfl (by decide +kernel) (by decide +kernel) (by decide +kernel) (Nat.le_of_ble_eq_true rfl) dX5_clear_7 (fun H locs hP hD hS => ?_)
  have hP : va_P D gcl [(a0, .inr (5, [.ref a1, .ref a2, .ref a3, .ref a4, .ref a5, .int 0, .int 0]))] H := hP
  have hD : va_D A [(a0, .inr (5, [.ref a1, .ref a2, .ref a3, .ref a4, .ref a5, .int 0, .int 0]))] := hD
  exact hret ((fun _ => 0), (fun _ => (fun _ => 0)), (fun _ => (fun _ => 0)), (fun _ => 0), (fun _ => 0)) dX5_clear_10 trivial (g_psub (wc := [(a0, .inr (5, [.ref a1, .ref a2, .ref a3, .ref a4, .ref a5, .int 0, .int 0]))]) hP [0] rfl) (hD.sub (ws' := [(a0, .inr (5, [.ref a1, .ref a2, .ref a3, .ref a4, .ref a5, .int 0, .int 0]))]) [0] (by decide) rfl) hS
set_option maxHeartbeats 4000000 in
set_option maxRecDepth 100000 in
theorem k_X5_beginRule (l : Launch) (D : va_G) (cB cC cI cJ : ClassId) (sz : Nat) (a0 a1 a2 a3 a4 a5 : Nat) (x0 x1 : Int32) (f0 : Nat → Int32) (h_x0 : (0 ≤ x0.toInt ∧ x0.toInt ≤ 1600)) (h_x1 : (0 ≤ x1.toInt ∧ x1.toInt ≤ 8)) (hf_f0 : (∀ j, 0 ≤ (f0 j).toInt ∧ (f0 j).toInt ≤ 1600)) : Met l yX5_beginRule (.code yX5_beginRule cX5_beginRule 1 none :: lw_gd) ({ frames := 0, cells := 0, slots := 0, locals := 0 }) (gPre D [(cB, .byte), (cC, .char), (cI, .int), (cJ, .long)] [.ref a0] [(a0, .inr (5, [.ref a1, .ref a2, .ref a3, .ref a4, .ref a5, .int x0, .int x1])), (a2, .inl (cI, 8, .inl f0))] sz) (va_Qv (fun u => ((x1.toInt ≥ 8) ∨ (x1.toInt < 8)) ∧ (∀ j, 0 ≤ ((u.2.1 0) j).toInt ∧ ((u.2.1 0) j).toInt ≤ 1600)) (gB D (va_A [(a0, .inr (5, [.ref a1, .ref a2, .ref a3, .ref a4, .ref a5, .int x0, .int x1])), (a2, .inl (cI, 8, .inl f0))] sz) (fun u : gEx => [(a0, .inr (5, [.ref a1, .ref a2, .ref a3, .ref a4, .ref a5, .int x0, .int x1])), (a2, .inl (cI, 8, .inl (u.2.1 0)))])) (va_A [(a0, .inr (5, [.ref a1, .ref a2, .ref a3, .ref a4, .ref a5, .int x0, .int x1])), (a2, .inl (cI, 8, .inl f0))] sz)) 0 0 (va_A [(a0, .inr (5, [.ref a1, .ref a2, .ref a3, .ref a4, .ref a5, .int x0, .int x1])), (a2, .inl (cI, 8, .inl f0))] sz) := by
  refine gOf_v (by decide +kernel) (Nat.le_of_ble_eq_true rfl) ?_
  intro p e s m args below meth c ls A Q hx hb hts hown hml hN hK hP hD hA hl hret
  have hown : s.vm.findClass RX5 = some m.cls := hown
  have hS : va_S A s.heap s.heap [] := va_S.rf
  have hP : va_P D gcl [(a0, .inr (5, [.ref a1, .ref a2, .ref a3, .ref a4, .ref a5, .int x0, .int x1])), (a2, .inl (cI, 8, .inl f0))] s.heap := hP
  have hl : lv_has ls 1 [(0, .ref a0)] := hl
  refine lv_aload_n (pc := 0) hx hb dX5_beginRule_0 rfl (lv_at hl 0 rfl) ?_
  refine va_get (pc := 1) (ci := 5) (v := .int x1) (C := RX5) (T := TX5) (N := 7) hx hb hts iX5 hown hK hP 0 rfl rfl 6 (by decide) (hts _ tw_79) (fun _ h9 => h9) rfl dX5_beginRule_1 ?_
  refine lv_bipush (pc := 4) (v := 8) hx hb dX5_beginRule_4 (by decide) ?_
  refine b_icmp_ge (pc := 6) (tgt := 22) hx hb rfl tI_8  dX5_beginRule_6 (by decide) (fun c_1 => ?_) (fun c_1 => ?_)
  ·
    exact hret ((fun _ => 0), (fun k => [f0].getD k (fun _ => 0)), (fun _ => (fun _ => 0)), (fun _ => 0), (fun _ => 0)) dX5_beginRule_22 ⟨(show ((x1.toInt ≥ 8) ∨ (x1.toInt < 8)) by omega), hf_f0⟩ (g_psub (wc := [(a0, .inr (5, [.ref a1, .ref a2, .ref a3, .ref a4, .ref a5, .int x0, .int x1])), (a2, .inl (cI, 8, .inl f0))]) hP [0, 1] rfl) (hD.sub (ws' := [(a0, .inr (5, [.ref a1, .ref a2, .ref a3, .ref a4, .ref a5, .int x0, .int x1])), (a2, .inl (cI, 8, .inl f0))]) [0, 1] (by decide) rfl) hS
  ·
    refine lv_aload_n (pc := 9) hx hb dX5_beginRule_9 rfl (lv_at hl 0 rfl) ?_
    refine va_get (pc := 10) (ci := 5) (v := .ref a2) (C := RX5) (T := TX5) (N := 7) hx hb hts iX5 hown hK hP 0 rfl rfl 1 (by decide) (hts _ tw_74) (fun _ h9 => h9) rfl dX5_beginRule_10 ?_
    refine lv_aload_n (pc := 13) hx hb dX5_beginRule_13 rfl (lv_at hl 0 rfl) ?_
    refine va_get (pc := 14) (ci := 5) (v := .int x1) (C := RX5) (T := TX5) (N := 7) hx hb hts iX5 hown hK hP 0 rfl rfl 6 (by decide) (hts _ tw_79) (fun _ h9 => h9) rfl dX5_beginRule_14 ?_
    refine lv_aload_n (pc := 17) hx hb dX5_beginRule_17 rfl (lv_at hl 0 rfl) ?_
    refine va_get (pc := 18) (ci := 5) (v := .int x0) (C := RX5) (T := TX5) (N := 7) hx hb hts iX5 hown hK hP 0 rfl rfl 5 (by decide) (hts _ tw_78) (fun _ h9 => h9) rfl dX5_beginRule_18 ?_
    refine h_iastore (pc := 21) hx hb hK hP hD hS 1 2 rfl rfl (n_in rfl (by omega) (by omega)) dX5_beginRule_21 hf_f0 (by omega) (by omega) (fun f_2 hf_2 H locs hP hD hS => ?_)
    have hP : va_P D gcl [(a0, .inr (5, [.ref a1, .ref a2, .ref a3, .ref a4, .ref a5, .int x0, .int x1])), (a2, .inl (cI, 8, .inl f_2))] H := hP
    have hD : va_D A [(a0, .inr (5, [.ref a1, .ref a2, .ref a3, .ref a4, .ref a5, .int x0, .int x1])), (a2, .inl (cI, 8, .inl f_2))] := hD
    exact hret ((fun _ => 0), (fun k => [f_2].getD k (fun _ => 0)), (fun _ => (fun _ => 0)), (fun _ => 0), (fun _ => 0)) dX5_beginRule_22 ⟨(show ((x1.toInt ≥ 8) ∨ (x1.toInt < 8)) by omega), hf_2⟩ (g_psub (wc := [(a0, .inr (5, [.ref a1, .ref a2, .ref a3, .ref a4, .ref a5, .int x0, .int x1])), (a2, .inl (cI, 8, .inl f_2))]) hP [0, 1] rfl) (hD.sub (ws' := [(a0, .inr (5, [.ref a1, .ref a2, .ref a3, .ref a4, .ref a5, .int x0, .int x1])), (a2, .inl (cI, 8, .inl f_2))]) [0, 1] (by decide) rfl) hS
set_option maxHeartbeats 4000000 in
set_option maxRecDepth 100000 in
theorem k_X5_add (l : Launch) (D : va_G) (cB cC cI cJ : ClassId) (sz : Nat) (a0 a1 a2 a3 a4 a5 : Nat) (x0 x1 x2 : Int32) (f0 : Nat → Int32) (h_x1 : (0 ≤ x1.toInt ∧ x1.toInt ≤ 1600)) (h_x2 : (0 ≤ x2.toInt ∧ x2.toInt ≤ 8)) : Met l yX5_add (.code yX5_add cX5_add 2 none :: lw_gd) ({ frames := 0, cells := 0, slots := 0, locals := 0 }) (gPre D [(cB, .byte), (cC, .char), (cI, .int), (cJ, .long)] [.ref a0, .int x0] [(a0, .inr (5, [.ref a1, .ref a2, .ref a3, .ref a4, .ref a5, .int x1, .int x2])), (a1, .inl (cI, 1600, .inl f0))] sz) (va_Qv (fun u => ((x1.toInt ≥ 1600 ∧ (u.2.2.2.1 0).toInt = x1.toInt) ∨ (x1.toInt < 1600 ∧ (u.2.2.2.1 0).toInt = (x1.toInt) + (1))) ∧ (0 ≤ (u.2.2.2.1 0).toInt ∧ (u.2.2.2.1 0).toInt ≤ 1600)) (gB D (va_A [(a0, .inr (5, [.ref a1, .ref a2, .ref a3, .ref a4, .ref a5, .int x1, .int x2])), (a1, .inl (cI, 1600, .inl f0))] sz) (fun u : gEx => [(a0, .inr (5, [.ref a1, .ref a2, .ref a3, .ref a4, .ref a5, .int (u.2.2.2.1 0), .int x2])), (a1, .inl (cI, 1600, .inl (u.2.1 0)))])) (va_A [(a0, .inr (5, [.ref a1, .ref a2, .ref a3, .ref a4, .ref a5, .int x1, .int x2])), (a1, .inl (cI, 1600, .inl f0))] sz)) 0 0 (va_A [(a0, .inr (5, [.ref a1, .ref a2, .ref a3, .ref a4, .ref a5, .int x1, .int x2])), (a1, .inl (cI, 1600, .inl f0))] sz) := by
  refine gOf_v (by decide +kernel) (Nat.le_of_ble_eq_true rfl) ?_
  intro p e s m args below meth c ls A Q hx hb hts hown hml hN hK hP hD hA hl hret
  have hown : s.vm.findClass RX5 = some m.cls := hown
  have hS : va_S A s.heap s.heap [] := va_S.rf
  have hP : va_P D gcl [(a0, .inr (5, [.ref a1, .ref a2, .ref a3, .ref a4, .ref a5, .int x1, .int x2])), (a1, .inl (cI, 1600, .inl f0))] s.heap := hP
  have hl : lv_has ls 2 [(0, .ref a0), (1, .int x0)] := hl
  have rx0 := n_rng x0
  refine lv_aload_n (pc := 0) hx hb dX5_add_0 rfl (lv_at hl 0 rfl) ?_
  refine va_get (pc := 1) (ci := 5) (v := .int x1) (C := RX5) (T := TX5) (N := 7) hx hb hts iX5 hown hK hP 0 rfl rfl 5 (by decide) (hts _ tw_78) (fun _ h9 => h9) rfl dX5_add_1 ?_
  refine lv_aload_n (pc := 4) hx hb dX5_add_4 rfl (lv_at hl 0 rfl) ?_
  refine va_get (pc := 5) (ci := 5) (v := .ref a1) (C := RX5) (T := TX5) (N := 7) hx hb hts iX5 hown hK hP 0 rfl rfl 0 (by decide) (hts _ tw_73) (fun _ h9 => h9) rfl dX5_add_5 ?_
  refine va_alen (pc := 8) (v := 1600) hx hb hK hP 1 2 rfl rfl rfl dX5_add_8 ?_
  refine b_icmp_ge (pc := 9) (tgt := 32) hx hb rfl tI_1600  dX5_add_9 (by decide) (fun c_1 => ?_) (fun c_1 => ?_)
  ·
    exact hret ((fun _ => 0), (fun k => [f0].getD k (fun _ => 0)), (fun _ => (fun _ => 0)), (fun k => [x1].getD k 0), (fun _ => 0)) dX5_add_32 ⟨(show ((x1.toInt ≥ 1600 ∧ (x1 : Int32).toInt = x1.toInt) ∨ (x1.toInt < 1600 ∧ (x1 : Int32).toInt = (x1.toInt) + (1))) by omega), (show (0 ≤ (x1 : Int32).toInt ∧ (x1 : Int32).toInt ≤ 1600) by omega)⟩ (g_psub (wc := [(a0, .inr (5, [.ref a1, .ref a2, .ref a3, .ref a4, .ref a5, .int x1, .int x2])), (a1, .inl (cI, 1600, .inl f0))]) hP [0, 1] rfl) (hD.sub (ws' := [(a0, .inr (5, [.ref a1, .ref a2, .ref a3, .ref a4, .ref a5, .int x1, .int x2])), (a1, .inl (cI, 1600, .inl f0))]) [0, 1] (by decide) rfl) hS
  ·
    refine lv_aload_n (pc := 12) hx hb dX5_add_12 rfl (lv_at hl 0 rfl) ?_
    refine va_get (pc := 13) (ci := 5) (v := .ref a1) (C := RX5) (T := TX5) (N := 7) hx hb hts iX5 hown hK hP 0 rfl rfl 0 (by decide) (hts _ tw_73) (fun _ h9 => h9) rfl dX5_add_13 ?_
    refine lv_aload_n (pc := 16) hx hb dX5_add_16 rfl (lv_at hl 0 rfl) ?_
    refine va_get (pc := 17) (ci := 5) (v := .int x1) (C := RX5) (T := TX5) (N := 7) hx hb hts iX5 hown hK hP 0 rfl rfl 5 (by decide) (hts _ tw_78) (fun _ h9 => h9) rfl dX5_add_17 ?_
    refine lv_iload_n (pc := 20) hx hb dX5_add_20 rfl (lv_at hl 1 rfl) ?_
    refine g_iastore (pc := 21) hx hb hK hP hD hS 1 2 rfl rfl (n_in rfl (by omega) (by omega)) dX5_add_21 (fun f_2 H locs hP hD hS => ?_)
    have hP : va_P D gcl [(a0, .inr (5, [.ref a1, .ref a2, .ref a3, .ref a4, .ref a5, .int x1, .int x2])), (a1, .inl (cI, 1600, .inl f_2))] H := hP
    have hD : va_D A [(a0, .inr (5, [.ref a1, .ref a2, .ref a3, .ref a4, .ref a5, .int x1, .int x2])), (a1, .inl (cI, 1600, .inl f_2))] := hD
    refine lv_aload_n (pc := 22) hx hb dX5_add_22 rfl (lv_at hl 0 rfl) ?_
    refine lv_dup (pc := 23) hx hb dX5_add_23 rfl ?_
    refine va_get (pc := 24) (ci := 5) (v := .int x1) (C := RX5) (T := TX5) (N := 7) hx hb hts iX5 hown hK hP 0 rfl rfl 5 (by decide) (hts _ tw_78) (fun _ h9 => h9) rfl dX5_add_24 ?_
    refine lv_iconst (pc := 27) (v := 1) hx hb dX5_add_27 (by decide) ?_
    refine b_iadd (pc := 28) hx hb rfl tI_1 (by omega) (by omega) dX5_add_28 (fun x_3 ex_3 => ?_)
    refine va_put (pc := 29) (ci := 5) (v := .int x_3) (ty := .int) (C := RX5) (T := TX5) (N := 7) hx hb hts iX5 tyX5 tyX5_ok nmX5 hown hK hP hD hS 0 rfl rfl 5 (by decide) (hts _ tw_78) (fun _ h9 => h9) rfl (by decide +kernel) rfl rfl (Nat.le_of_ble_eq_true rfl) dX5_add_29 (fun H locs hP hD hS => ?_)
    have hP : va_P D gcl [(a0, .inr (5, [.ref a1, .ref a2, .ref a3, .ref a4, .ref a5, .int x_3, .int x2])), (a1, .inl (cI, 1600, .inl f_2))] H := hP
    have hD : va_D A [(a0, .inr (5, [.ref a1, .ref a2, .ref a3, .ref a4, .ref a5, .int x_3, .int x2])), (a1, .inl (cI, 1600, .inl f_2))] := hD
    exact hret ((fun _ => 0), (fun k => [f_2].getD k (fun _ => 0)), (fun _ => (fun _ => 0)), (fun k => [x_3].getD k 0), (fun _ => 0)) dX5_add_32 ⟨(show ((x1.toInt ≥ 1600 ∧ (x_3 : Int32).toInt = x1.toInt) ∨ (x1.toInt < 1600 ∧ (x_3 : Int32).toInt = (x1.toInt) + (1))) by omega), (show (0 ≤ (x_3 : Int32).toInt ∧ (x_3 : Int32).toInt ≤ 1600) by omega)⟩ (g_psub (wc := [(a0, .inr (5, [.ref a1, .ref a2, .ref a3, .ref a4, .ref a5, .int x_3, .int x2])), (a1, .inl (cI, 1600, .inl f_2))]) hP [0, 1] rfl) (hD.sub (ws' := [(a0, .inr (5, [.ref a1, .ref a2, .ref a3, .ref a4, .ref a5, .int x_3, .int x2])), (a1, .inl (cI, 1600, .inl f_2))]) [0, 1] (by decide) rfl) hS
