set_option maxHeartbeats 4000000 in
set_option maxRecDepth 100000 in
theorem k_X1_isLetter (l : Launch) (D : va_G) (cB cC cI cJ : ClassId) (sz : Nat) (a0 a1 a2 a3 : Nat) (x0 x1 x2 x3 x4 x5 x6 x7 : Int32) (h_x1 : zBd x1.toInt (-1) 8) (h_x2 : zBd x2.toInt (-1) 5) (h_x3 : zBd x3.toInt (-1) 6) (h_x4 : zBd x4.toInt 0 6) (h_x5 : zBd x5.toInt 0 16) : Met l yX1_isLetter (.code yX1_isLetter cX1_isLetter 2 (some .boolean) :: lw_gd) ({ frames := 0, cells := 0, slots := 0, locals := 0 }) (gPre D [(cB, .byte), (cC, .char), (cI, .int), (cJ, .long)] [.ref a0, .int x0] [(a0, .inr (1, [.ref a1, .ref a2, .ref a3, .int x1, .int x2, .int x3, .int x4, .int x5, .int x6, .int x7]))] sz) (va_Qi (fun r u => ((r.toInt = 0 ∧ x0.toInt ≤ -(x1.toInt)) ∨ (r.toInt = 0 ∧ x0.toInt > -(x1.toInt) ∧ x0.toInt ≥ x1.toInt) ∨ (r.toInt = 0 ∧ x0.toInt > -(x1.toInt) ∧ x0.toInt < x1.toInt) ∨ (r.toInt = 1 ∧ x0.toInt > -(x1.toInt) ∧ x0.toInt < x1.toInt))) (gB D (va_A [(a0, .inr (1, [.ref a1, .ref a2, .ref a3, .int x1, .int x2, .int x3, .int x4, .int x5, .int x6, .int x7]))] sz) (fun u : gEx => [(a0, .inr (1, [.ref a1, .ref a2, .ref a3, .int x1, .int x2, .int x3, .int x4, .int x5, .int x6, .int x7]))])) (va_A [(a0, .inr (1, [.ref a1, .ref a2, .ref a3, .int x1, .int x2, .int x3, .int x4, .int x5, .int x6, .int x7]))] sz)) 0 0 (va_A [(a0, .inr (1, [.ref a1, .ref a2, .ref a3, .int x1, .int x2, .int x3, .int x4, .int x5, .int x6, .int x7]))] sz) := by
  refine gOf_z (by decide +kernel) (Nat.le_of_ble_eq_true rfl) ?_
  intro p e s m args below meth c ls A Q hx hb hts hown hml hN hK hP hD hA hl hret
  replace hown : s.vm.findClass RX1 = some m.cls := hown
  have hS : va_S A s.heap s.heap [] := va_S.rf
  replace hP : va_P D gcl [(a0, .inr (1, [.ref a1, .ref a2, .ref a3, .int x1, .int x2, .int x3, .int x4, .int x5, .int x6, .int x7]))] s.heap := hP
  replace hl : lv_has ls 2 [(0, .ref a0), (1, .int x0)] := hl
  have rx0 : zBd x0.toInt (-2147483648) 2147483647 := n_rng x0
  have rx6 : zBd x6.toInt (-2147483648) 2147483647 := n_rng x6
  have rx7 : zBd x7.toInt (-2147483648) 2147483647 := n_rng x7
  refine lv_iload_n (pc := 0) hx hb dX1_isLetter_0 rfl (lv_at hl 1 rfl) ?_
  refine lv_aload_n (pc := 1) hx hb dX1_isLetter_1 rfl (lv_at hl 0 rfl) ?_
  refine va_get (pc := 2) (ci := 1) (v := .int x1) (C := RX1) (T := TX1) (N := 10) hx hb hts iX1 hown hK hP 0 rfl rfl 3 (by decide) (hts _ tw_110) (fun _ h9 => h9) rfl dX1_isLetter_2 ?_
  have bd_h_x1 : (-1) ≤ x1.toInt ∧ x1.toInt ≤ 8 := h_x1
  refine b_ineg (pc := 5) hx hb rfl (by (first | omega | (unfold zBd at *; omega))) dX1_isLetter_5 (fun x_1 ex_1 => ?_)
  refine b_icmp_le (pc := 6) (tgt := 33) hx hb rfl rfl  dX1_isLetter_6 (by decide) (fun c_2 => ?_) (fun c_2 => ?_)
  ·
    refine lv_iconst (pc := 33) (v := 0) hx hb dX1_isLetter_33 (by decide) ?_
    exact hret 0 ((fun _ => 0), (fun _ => (fun _ => 0)), (fun _ => (fun _ => 0)), (fun _ => 0), (fun _ => 0)) dX1_isLetter_34 ⟨(by have k9 := tI_0; (first | omega | (unfold zBd at *; omega))), (show (((0 : Int32).toInt = 0 ∧ x0.toInt ≤ -(x1.toInt)) ∨ ((0 : Int32).toInt = 0 ∧ x0.toInt > -(x1.toInt) ∧ x0.toInt ≥ x1.toInt) ∨ ((0 : Int32).toInt = 0 ∧ x0.toInt > -(x1.toInt) ∧ x0.toInt < x1.toInt) ∨ ((0 : Int32).toInt = 1 ∧ x0.toInt > -(x1.toInt) ∧ x0.toInt < x1.toInt)) by have k9 := tI_0; (first | omega | (unfold zBd at *; omega)))⟩ (g_psub (wc := [(a0, .inr (1, [.ref a1, .ref a2, .ref a3, .int x1, .int x2, .int x3, .int x4, .int x5, .int x6, .int x7]))]) hP [0] rfl) (hD.sub (ws' := [(a0, .inr (1, [.ref a1, .ref a2, .ref a3, .int x1, .int x2, .int x3, .int x4, .int x5, .int x6, .int x7]))]) [0] (by decide) rfl) hS
  ·
    refine lv_iload_n (pc := 9) hx hb dX1_isLetter_9 rfl (lv_at hl 1 rfl) ?_
    refine lv_aload_n (pc := 10) hx hb dX1_isLetter_10 rfl (lv_at hl 0 rfl) ?_
    refine va_get (pc := 11) (ci := 1) (v := .int x1) (C := RX1) (T := TX1) (N := 10) hx hb hts iX1 hown hK hP 0 rfl rfl 3 (by decide) (hts _ tw_110) (fun _ h9 => h9) rfl dX1_isLetter_11 ?_
    refine b_icmp_ge (pc := 14) (tgt := 33) hx hb rfl rfl  dX1_isLetter_14 (by decide) (fun c_3 => ?_) (fun c_3 => ?_)
    ·
      refine lv_iconst (pc := 33) (v := 0) hx hb dX1_isLetter_33 (by decide) ?_
      exact hret 0 ((fun _ => 0), (fun _ => (fun _ => 0)), (fun _ => (fun _ => 0)), (fun _ => 0), (fun _ => 0)) dX1_isLetter_34 ⟨(by have k9 := tI_0; (first | omega | (unfold zBd at *; omega))), (show (((0 : Int32).toInt = 0 ∧ x0.toInt ≤ -(x1.toInt)) ∨ ((0 : Int32).toInt = 0 ∧ x0.toInt > -(x1.toInt) ∧ x0.toInt ≥ x1.toInt) ∨ ((0 : Int32).toInt = 0 ∧ x0.toInt > -(x1.toInt) ∧ x0.toInt < x1.toInt) ∨ ((0 : Int32).toInt = 1 ∧ x0.toInt > -(x1.toInt) ∧ x0.toInt < x1.toInt)) by have k9 := tI_0; (first | omega | (unfold zBd at *; omega)))⟩ (g_psub (wc := [(a0, .inr (1, [.ref a1, .ref a2, .ref a3, .int x1, .int x2, .int x3, .int x4, .int x5, .int x6, .int x7]))]) hP [0] rfl) (hD.sub (ws' := [(a0, .inr (1, [.ref a1, .ref a2, .ref a3, .int x1, .int x2, .int x3, .int x4, .int x5, .int x6, .int x7]))]) [0] (by decide) rfl) hS
    ·
      refine lv_iload_n (pc := 17) hx hb dX1_isLetter_17 rfl (lv_at hl 1 rfl) ?_
      refine lv_aload_n (pc := 18) hx hb dX1_isLetter_18 rfl (lv_at hl 0 rfl) ?_
      refine va_get (pc := 19) (ci := 1) (v := .int x1) (C := RX1) (T := TX1) (N := 10) hx hb hts iX1 hown hK hP 0 rfl rfl 3 (by decide) (hts _ tw_110) (fun _ h9 => h9) rfl dX1_isLetter_19 ?_
      refine b_iadd (pc := 22) hx hb rfl rfl (by (first | omega | (unfold zBd at *; omega))) (by (first | omega | (unfold zBd at *; omega))) dX1_isLetter_22 (fun x_4 ex_4 => ?_)
      refine lv_iconst (pc := 23) (v := 1) hx hb dX1_isLetter_23 (by decide) ?_
      refine b_iand (pc := 24) (M := 1) hx hb 1 (by decide +kernel) (by decide) (by decide) dX1_isLetter_24 (fun x_5 ex_5 => ?_)
      have rx_5 : (0 ≤ x_5.toInt ∧ x_5.toInt ≤ 1) := by (first | omega | (unfold zBd at *; omega))
      refine lv_iconst (pc := 25) (v := 1) hx hb dX1_isLetter_25 (by decide) ?_
      refine b_icmp_ne (pc := 26) (tgt := 33) hx hb rfl tI_1  dX1_isLetter_26 (by decide) (fun c_6 => ?_) (fun c_6 => ?_)
      ·
        refine lv_iconst (pc := 33) (v := 0) hx hb dX1_isLetter_33 (by decide) ?_
        exact hret 0 ((fun _ => 0), (fun _ => (fun _ => 0)), (fun _ => (fun _ => 0)), (fun _ => 0), (fun _ => 0)) dX1_isLetter_34 ⟨(by have k9 := tI_0; (first | omega | (unfold zBd at *; omega))), (show (((0 : Int32).toInt = 0 ∧ x0.toInt ≤ -(x1.toInt)) ∨ ((0 : Int32).toInt = 0 ∧ x0.toInt > -(x1.toInt) ∧ x0.toInt ≥ x1.toInt) ∨ ((0 : Int32).toInt = 0 ∧ x0.toInt > -(x1.toInt) ∧ x0.toInt < x1.toInt) ∨ ((0 : Int32).toInt = 1 ∧ x0.toInt > -(x1.toInt) ∧ x0.toInt < x1.toInt)) by have k9 := tI_0; (first | omega | (unfold zBd at *; omega)))⟩ (g_psub (wc := [(a0, .inr (1, [.ref a1, .ref a2, .ref a3, .int x1, .int x2, .int x3, .int x4, .int x5, .int x6, .int x7]))]) hP [0] rfl) (hD.sub (ws' := [(a0, .inr (1, [.ref a1, .ref a2, .ref a3, .int x1, .int x2, .int x3, .int x4, .int x5, .int x6, .int x7]))]) [0] (by decide) rfl) hS
      ·
        refine lv_iconst (pc := 29) (v := 1) hx hb dX1_isLetter_29 (by decide) ?_
        refine lv_goto (pc := 30) (tgt := 34) hx hb dX1_isLetter_30 (by decide) ?_
        exact hret 1 ((fun _ => 0), (fun _ => (fun _ => 0)), (fun _ => (fun _ => 0)), (fun _ => 0), (fun _ => 0)) dX1_isLetter_34 ⟨(by have k9 := tI_1; (first | omega | (unfold zBd at *; omega))), (show (((1 : Int32).toInt = 0 ∧ x0.toInt ≤ -(x1.toInt)) ∨ ((1 : Int32).toInt = 0 ∧ x0.toInt > -(x1.toInt) ∧ x0.toInt ≥ x1.toInt) ∨ ((1 : Int32).toInt = 0 ∧ x0.toInt > -(x1.toInt) ∧ x0.toInt < x1.toInt) ∨ ((1 : Int32).toInt = 1 ∧ x0.toInt > -(x1.toInt) ∧ x0.toInt < x1.toInt)) by have k9 := tI_1; (first | omega | (unfold zBd at *; omega)))⟩ (g_psub (wc := [(a0, .inr (1, [.ref a1, .ref a2, .ref a3, .int x1, .int x2, .int x3, .int x4, .int x5, .int x6, .int x7]))]) hP [0] rfl) (hD.sub (ws' := [(a0, .inr (1, [.ref a1, .ref a2, .ref a3, .int x1, .int x2, .int x3, .int x4, .int x5, .int x6, .int x7]))]) [0] (by decide) rfl) hS
set_option maxHeartbeats 4000000 in
set_option maxRecDepth 100000 in
theorem k_X1_isReceiver (l : Launch) (D : va_G) (cB cC cI cJ : ClassId) (sz : Nat) (a0 a1 a2 a3 : Nat) (x0 x1 x2 x3 x4 x5 x6 x7 : Int32) (h_x1 : zBd x1.toInt (-1) 8) (h_x2 : zBd x2.toInt (-1) 5) (h_x3 : zBd x3.toInt (-1) 6) (h_x4 : zBd x4.toInt 0 6) (h_x5 : zBd x5.toInt 0 16) : Met l yX1_isReceiver (.code yX1_isReceiver cX1_isReceiver 2 (some .boolean) :: lw_gd) ({ frames := 0, cells := 0, slots := 0, locals := 0 }) (gPre D [(cB, .byte), (cC, .char), (cI, .int), (cJ, .long)] [.ref a0, .int x0] [(a0, .inr (1, [.ref a1, .ref a2, .ref a3, .int x1, .int x2, .int x3, .int x4, .int x5, .int x6, .int x7]))] sz) (va_Qi (fun r u => ((r.toInt = 0 ∧ x0.toInt < 0) ∨ (r.toInt = 0 ∧ x0.toInt ≥ 0 ∧ x0.toInt ≥ x3.toInt) ∨ (r.toInt = 1 ∧ x0.toInt ≥ 0 ∧ x0.toInt < x3.toInt))) (gB D (va_A [(a0, .inr (1, [.ref a1, .ref a2, .ref a3, .int x1, .int x2, .int x3, .int x4, .int x5, .int x6, .int x7]))] sz) (fun u : gEx => [(a0, .inr (1, [.ref a1, .ref a2, .ref a3, .int x1, .int x2, .int x3, .int x4, .int x5, .int x6, .int x7]))])) (va_A [(a0, .inr (1, [.ref a1, .ref a2, .ref a3, .int x1, .int x2, .int x3, .int x4, .int x5, .int x6, .int x7]))] sz)) 0 0 (va_A [(a0, .inr (1, [.ref a1, .ref a2, .ref a3, .int x1, .int x2, .int x3, .int x4, .int x5, .int x6, .int x7]))] sz) := by
  refine gOf_z (by decide +kernel) (Nat.le_of_ble_eq_true rfl) ?_
  intro p e s m args below meth c ls A Q hx hb hts hown hml hN hK hP hD hA hl hret
  replace hown : s.vm.findClass RX1 = some m.cls := hown
  have hS : va_S A s.heap s.heap [] := va_S.rf
  replace hP : va_P D gcl [(a0, .inr (1, [.ref a1, .ref a2, .ref a3, .int x1, .int x2, .int x3, .int x4, .int x5, .int x6, .int x7]))] s.heap := hP
  replace hl : lv_has ls 2 [(0, .ref a0), (1, .int x0)] := hl
  have rx0 : zBd x0.toInt (-2147483648) 2147483647 := n_rng x0
  have rx6 : zBd x6.toInt (-2147483648) 2147483647 := n_rng x6
  have rx7 : zBd x7.toInt (-2147483648) 2147483647 := n_rng x7
  refine lv_iload_n (pc := 0) hx hb dX1_isReceiver_0 rfl (lv_at hl 1 rfl) ?_
  refine b_if_lt (pc := 1) (tgt := 16) hx hb rfl  dX1_isReceiver_1 (by decide) (fun c_1 => ?_) (fun c_1 => ?_)
  ·
    refine lv_iconst (pc := 16) (v := 0) hx hb dX1_isReceiver_16 (by decide) ?_
    exact hret 0 ((fun _ => 0), (fun _ => (fun _ => 0)), (fun _ => (fun _ => 0)), (fun _ => 0), (fun _ => 0)) dX1_isReceiver_17 ⟨(by have k9 := tI_0; (first | omega | (unfold zBd at *; omega))), (show (((0 : Int32).toInt = 0 ∧ x0.toInt < 0) ∨ ((0 : Int32).toInt = 0 ∧ x0.toInt ≥ 0 ∧ x0.toInt ≥ x3.toInt) ∨ ((0 : Int32).toInt = 1 ∧ x0.toInt ≥ 0 ∧ x0.toInt < x3.toInt)) by have k9 := tI_0; (first | omega | (unfold zBd at *; omega)))⟩ (g_psub (wc := [(a0, .inr (1, [.ref a1, .ref a2, .ref a3, .int x1, .int x2, .int x3, .int x4, .int x5, .int x6, .int x7]))]) hP [0] rfl) (hD.sub (ws' := [(a0, .inr (1, [.ref a1, .ref a2, .ref a3, .int x1, .int x2, .int x3, .int x4, .int x5, .int x6, .int x7]))]) [0] (by decide) rfl) hS
  ·
    refine lv_iload_n (pc := 4) hx hb dX1_isReceiver_4 rfl (lv_at hl 1 rfl) ?_
    refine lv_aload_n (pc := 5) hx hb dX1_isReceiver_5 rfl (lv_at hl 0 rfl) ?_
    refine va_get (pc := 6) (ci := 1) (v := .int x3) (C := RX1) (T := TX1) (N := 10) hx hb hts iX1 hown hK hP 0 rfl rfl 5 (by decide) (hts _ tw_125) (fun _ h9 => h9) rfl dX1_isReceiver_6 ?_
    have bd_h_x3 : (-1) ≤ x3.toInt ∧ x3.toInt ≤ 6 := h_x3
    refine b_icmp_ge (pc := 9) (tgt := 16) hx hb rfl rfl  dX1_isReceiver_9 (by decide) (fun c_2 => ?_) (fun c_2 => ?_)
    ·
      refine lv_iconst (pc := 16) (v := 0) hx hb dX1_isReceiver_16 (by decide) ?_
      exact hret 0 ((fun _ => 0), (fun _ => (fun _ => 0)), (fun _ => (fun _ => 0)), (fun _ => 0), (fun _ => 0)) dX1_isReceiver_17 ⟨(by have k9 := tI_0; (first | omega | (unfold zBd at *; omega))), (show (((0 : Int32).toInt = 0 ∧ x0.toInt < 0) ∨ ((0 : Int32).toInt = 0 ∧ x0.toInt ≥ 0 ∧ x0.toInt ≥ x3.toInt) ∨ ((0 : Int32).toInt = 1 ∧ x0.toInt ≥ 0 ∧ x0.toInt < x3.toInt)) by have k9 := tI_0; (first | omega | (unfold zBd at *; omega)))⟩ (g_psub (wc := [(a0, .inr (1, [.ref a1, .ref a2, .ref a3, .int x1, .int x2, .int x3, .int x4, .int x5, .int x6, .int x7]))]) hP [0] rfl) (hD.sub (ws' := [(a0, .inr (1, [.ref a1, .ref a2, .ref a3, .int x1, .int x2, .int x3, .int x4, .int x5, .int x6, .int x7]))]) [0] (by decide) rfl) hS
    ·
      refine lv_iconst (pc := 12) (v := 1) hx hb dX1_isReceiver_12 (by decide) ?_
      refine lv_goto (pc := 13) (tgt := 17) hx hb dX1_isReceiver_13 (by decide) ?_
      exact hret 1 ((fun _ => 0), (fun _ => (fun _ => 0)), (fun _ => (fun _ => 0)), (fun _ => 0), (fun _ => 0)) dX1_isReceiver_17 ⟨(by have k9 := tI_1; (first | omega | (unfold zBd at *; omega))), (show (((1 : Int32).toInt = 0 ∧ x0.toInt < 0) ∨ ((1 : Int32).toInt = 0 ∧ x0.toInt ≥ 0 ∧ x0.toInt ≥ x3.toInt) ∨ ((1 : Int32).toInt = 1 ∧ x0.toInt ≥ 0 ∧ x0.toInt < x3.toInt)) by have k9 := tI_1; (first | omega | (unfold zBd at *; omega)))⟩ (g_psub (wc := [(a0, .inr (1, [.ref a1, .ref a2, .ref a3, .int x1, .int x2, .int x3, .int x4, .int x5, .int x6, .int x7]))]) hP [0] rfl) (hD.sub (ws' := [(a0, .inr (1, [.ref a1, .ref a2, .ref a3, .int x1, .int x2, .int x3, .int x4, .int x5, .int x6, .int x7]))]) [0] (by decide) rfl) hS
set_option maxHeartbeats 4000000 in
set_option maxRecDepth 100000 in
theorem k_X1_isSender (l : Launch) (D : va_G) (cB cC cI cJ : ClassId) (sz : Nat) (a0 a1 a2 a3 : Nat) (x0 x1 x2 x3 x4 x5 x6 x7 : Int32) (h_x1 : zBd x1.toInt (-1) 8) (h_x2 : zBd x2.toInt (-1) 5) (h_x3 : zBd x3.toInt (-1) 6) (h_x4 : zBd x4.toInt 0 6) (h_x5 : zBd x5.toInt 0 16) : Met l yX1_isSender (.code yX1_isSender cX1_isSender 2 (some .boolean) :: lw_gd) ({ frames := 0, cells := 0, slots := 0, locals := 0 }) (gPre D [(cB, .byte), (cC, .char), (cI, .int), (cJ, .long)] [.ref a0, .int x0] [(a0, .inr (1, [.ref a1, .ref a2, .ref a3, .int x1, .int x2, .int x3, .int x4, .int x5, .int x6, .int x7]))] sz) (va_Qi (fun r u => ((r.toInt = 0 ∧ x0.toInt < 0) ∨ (r.toInt = 0 ∧ x0.toInt ≥ 0 ∧ x0.toInt ≥ x2.toInt) ∨ (r.toInt = 1 ∧ x0.toInt ≥ 0 ∧ x0.toInt < x2.toInt))) (gB D (va_A [(a0, .inr (1, [.ref a1, .ref a2, .ref a3, .int x1, .int x2, .int x3, .int x4, .int x5, .int x6, .int x7]))] sz) (fun u : gEx => [(a0, .inr (1, [.ref a1, .ref a2, .ref a3, .int x1, .int x2, .int x3, .int x4, .int x5, .int x6, .int x7]))])) (va_A [(a0, .inr (1, [.ref a1, .ref a2, .ref a3, .int x1, .int x2, .int x3, .int x4, .int x5, .int x6, .int x7]))] sz)) 0 0 (va_A [(a0, .inr (1, [.ref a1, .ref a2, .ref a3, .int x1, .int x2, .int x3, .int x4, .int x5, .int x6, .int x7]))] sz) := by
  refine gOf_z (by decide +kernel) (Nat.le_of_ble_eq_true rfl) ?_
  intro p e s m args below meth c ls A Q hx hb hts hown hml hN hK hP hD hA hl hret
  replace hown : s.vm.findClass RX1 = some m.cls := hown
  have hS : va_S A s.heap s.heap [] := va_S.rf
  replace hP : va_P D gcl [(a0, .inr (1, [.ref a1, .ref a2, .ref a3, .int x1, .int x2, .int x3, .int x4, .int x5, .int x6, .int x7]))] s.heap := hP
  replace hl : lv_has ls 2 [(0, .ref a0), (1, .int x0)] := hl
  have rx0 : zBd x0.toInt (-2147483648) 2147483647 := n_rng x0
  have rx6 : zBd x6.toInt (-2147483648) 2147483647 := n_rng x6
  have rx7 : zBd x7.toInt (-2147483648) 2147483647 := n_rng x7
  refine lv_iload_n (pc := 0) hx hb dX1_isSender_0 rfl (lv_at hl 1 rfl) ?_
  refine b_if_lt (pc := 1) (tgt := 16) hx hb rfl  dX1_isSender_1 (by decide) (fun c_1 => ?_) (fun c_1 => ?_)
  ·
    refine lv_iconst (pc := 16) (v := 0) hx hb dX1_isSender_16 (by decide) ?_
    exact hret 0 ((fun _ => 0), (fun _ => (fun _ => 0)), (fun _ => (fun _ => 0)), (fun _ => 0), (fun _ => 0)) dX1_isSender_17 ⟨(by have k9 := tI_0; (first | omega | (unfold zBd at *; omega))), (show (((0 : Int32).toInt = 0 ∧ x0.toInt < 0) ∨ ((0 : Int32).toInt = 0 ∧ x0.toInt ≥ 0 ∧ x0.toInt ≥ x2.toInt) ∨ ((0 : Int32).toInt = 1 ∧ x0.toInt ≥ 0 ∧ x0.toInt < x2.toInt)) by have k9 := tI_0; (first | omega | (unfold zBd at *; omega)))⟩ (g_psub (wc := [(a0, .inr (1, [.ref a1, .ref a2, .ref a3, .int x1, .int x2, .int x3, .int x4, .int x5, .int x6, .int x7]))]) hP [0] rfl) (hD.sub (ws' := [(a0, .inr (1, [.ref a1, .ref a2, .ref a3, .int x1, .int x2, .int x3, .int x4, .int x5, .int x6, .int x7]))]) [0] (by decide) rfl) hS
  ·
    refine lv_iload_n (pc := 4) hx hb dX1_isSender_4 rfl (lv_at hl 1 rfl) ?_
    refine lv_aload_n (pc := 5) hx hb dX1_isSender_5 rfl (lv_at hl 0 rfl) ?_
    refine va_get (pc := 6) (ci := 1) (v := .int x2) (C := RX1) (T := TX1) (N := 10) hx hb hts iX1 hown hK hP 0 rfl rfl 4 (by decide) (hts _ tw_116) (fun _ h9 => h9) rfl dX1_isSender_6 ?_
    have bd_h_x2 : (-1) ≤ x2.toInt ∧ x2.toInt ≤ 5 := h_x2
    refine b_icmp_ge (pc := 9) (tgt := 16) hx hb rfl rfl  dX1_isSender_9 (by decide) (fun c_2 => ?_) (fun c_2 => ?_)
    ·
      refine lv_iconst (pc := 16) (v := 0) hx hb dX1_isSender_16 (by decide) ?_
      exact hret 0 ((fun _ => 0), (fun _ => (fun _ => 0)), (fun _ => (fun _ => 0)), (fun _ => 0), (fun _ => 0)) dX1_isSender_17 ⟨(by have k9 := tI_0; (first | omega | (unfold zBd at *; omega))), (show (((0 : Int32).toInt = 0 ∧ x0.toInt < 0) ∨ ((0 : Int32).toInt = 0 ∧ x0.toInt ≥ 0 ∧ x0.toInt ≥ x2.toInt) ∨ ((0 : Int32).toInt = 1 ∧ x0.toInt ≥ 0 ∧ x0.toInt < x2.toInt)) by have k9 := tI_0; (first | omega | (unfold zBd at *; omega)))⟩ (g_psub (wc := [(a0, .inr (1, [.ref a1, .ref a2, .ref a3, .int x1, .int x2, .int x3, .int x4, .int x5, .int x6, .int x7]))]) hP [0] rfl) (hD.sub (ws' := [(a0, .inr (1, [.ref a1, .ref a2, .ref a3, .int x1, .int x2, .int x3, .int x4, .int x5, .int x6, .int x7]))]) [0] (by decide) rfl) hS
    ·
      refine lv_iconst (pc := 12) (v := 1) hx hb dX1_isSender_12 (by decide) ?_
      refine lv_goto (pc := 13) (tgt := 17) hx hb dX1_isSender_13 (by decide) ?_
      exact hret 1 ((fun _ => 0), (fun _ => (fun _ => 0)), (fun _ => (fun _ => 0)), (fun _ => 0), (fun _ => 0)) dX1_isSender_17 ⟨(by have k9 := tI_1; (first | omega | (unfold zBd at *; omega))), (show (((1 : Int32).toInt = 0 ∧ x0.toInt < 0) ∨ ((1 : Int32).toInt = 0 ∧ x0.toInt ≥ 0 ∧ x0.toInt ≥ x2.toInt) ∨ ((1 : Int32).toInt = 1 ∧ x0.toInt ≥ 0 ∧ x0.toInt < x2.toInt)) by have k9 := tI_1; (first | omega | (unfold zBd at *; omega)))⟩ (g_psub (wc := [(a0, .inr (1, [.ref a1, .ref a2, .ref a3, .int x1, .int x2, .int x3, .int x4, .int x5, .int x6, .int x7]))]) hP [0] rfl) (hD.sub (ws' := [(a0, .inr (1, [.ref a1, .ref a2, .ref a3, .int x1, .int x2, .int x3, .int x4, .int x5, .int x6, .int x7]))]) [0] (by decide) rfl) hS
set_option maxHeartbeats 4000000 in
set_option maxRecDepth 100000 in
theorem k_X8_sentTo_5 (l : Launch) (D : va_G) (cB cC cI cJ : ClassId) (sz : Nat) (a0 a1 a2 : Nat) (x0 x1 : Int32) (f0 f1 : Nat → Int32) (hp1 : (0 ≤ x0.toInt ∧ x0.toInt ≤ 5)) (hp3 : ((-1) ≤ x1.toInt ∧ x1.toInt ≤ 5)) : Met l yX8_sentTo (.code yX8_sentTo cX8_sentTo 6 (some .int) :: lw_gd) ({ frames := 1, cells := 0, slots := 0, locals := 22 }) (gPre D [(cB, .byte), (cC, .char), (cI, .int), (cJ, .long)] [.ref a0, .int x0, .ref a1, .int x1] [(a0, .inr (8, [.ref a2])), (a2, .inl (cI, 30, .inl f0)), (a1, .inl (cI, 5, .inl f1))] sz) (va_Qi (fun r u => ((((-2147483648) ≤ r.toInt ∧ r.toInt ≤ 2147483647) ∧ ((-1) ≤ x1.toInt ∧ x1.toInt ≤ 5)))) (gB D (va_A [(a0, .inr (8, [.ref a2])), (a2, .inl (cI, 30, .inl f0)), (a1, .inl (cI, 5, .inl f1))] sz) (fun u : gEx => [(a0, .inr (8, [.ref a2])), (a2, .inl (cI, 30, .inl f0)), (a1, .inl (cI, 5, .inl f1))])) (va_A [(a0, .inr (8, [.ref a2])), (a2, .inl (cI, 30, .inl f0)), (a1, .inl (cI, 5, .inl f1))] sz)) 0 0 (va_A [(a0, .inr (8, [.ref a2])), (a2, .inl (cI, 30, .inl f0)), (a1, .inl (cI, 5, .inl f1))] sz) := by
  refine gOf_i (by decide +kernel) (Nat.le_of_ble_eq_true rfl) ?_
  intro p e s m args below meth c ls A Q hx hb hts hown hml hN hK hP hD hA hl hret
  replace hown : s.vm.findClass RX8 = some m.cls := hown
  have hS : va_S A s.heap s.heap [] := va_S.rf
  replace hP : va_P D gcl [(a0, .inr (8, [.ref a2])), (a2, .inl (cI, 30, .inl f0)), (a1, .inl (cI, 5, .inl f1))] s.heap := hP
  replace hl : lv_has ls 6 [(0, .ref a0), (1, .int x0), (2, .ref a1), (3, .int x1)] := hl
  refine lv_iconst (pc := 0) (v := 0) hx hb dX8_sentTo_0 (by decide) ?_
  refine lv_istore (pc := 1) (lv' := [(4, .int 0), (0, .ref a0), (1, .int x0), (2, .ref a1), (3, .int x1)]) hx hb dX8_sentTo_1 hl (by decide) rfl (fun ls hl => ?_)
  refine lv_iconst (pc := 3) (v := 0) hx hb dX8_sentTo_3 (by decide) ?_
  refine lv_istore (pc := 4) (lv' := [(5, .int 0), (4, .int 0), (0, .ref a0), (1, .int x0), (2, .ref a1), (3, .int x1)]) hx hb dX8_sentTo_4 hl (by decide) rfl (fun ls hl => ?_)
  have lp_5 : ∀ (n : Nat) (x_1 x_3 : Int32) (H : Heap) (locs : List Loc) (ls : Array Slot), (0 ≤ x_1.toInt ∧ x_1.toInt ≤ 2147483647) → (2147483647 - x_1.toInt).toNat < n → va_P D gcl [(a0, .inr (8, [.ref a2])), (a2, .inl (cI, 30, .inl f0)), (a1, .inl (cI, 5, .inl f1))] H → va_D A [(a0, .inr (8, [.ref a2])), (a2, .inl (cI, 30, .inl f0)), (a1, .inl (cI, 5, .inl f1))] → va_S A s.heap H locs → lv_has ls 6 [(5, .int x_1), (4, .int x_3), (0, .ref a0), (1, .int x0), (2, .ref a1), (3, .int x1)] → W p l e ({ frames := 1, cells := 0, slots := 0, locals := 22 }) s m args below meth c H locs 0 0 Q (F0 m 6 ls []) := by
    intro n
    induction n with
    | zero => intro x_1 x_3 H locs ls hi_2 hmu; exact absurd hmu (Nat.not_lt_zero _)
    | succ n ih_lp_5 =>
      intro x_1 x_3 H locs ls hi_2 hmu_lp_5 hP hD hS hl
      have hi_4 := n_rng x_3
      refine lv_iload (pc := 6) hx hb dX8_sentTo_6 (lv_at hl 0 rfl) ?_
      refine lv_iload_n (pc := 8) hx hb dX8_sentTo_8 rfl (lv_at hl 5 rfl) ?_
      refine b_icmp_ge (pc := 9) (tgt := 35) hx hb rfl rfl  dX8_sentTo_9 (by decide) (fun c_6 => ?_) (fun c_6 => ?_)
      ·
        refine lv_iload (pc := 35) hx hb dX8_sentTo_35 (lv_at hl 1 rfl) ?_
        exact hret x_3 ((fun _ => 0), (fun _ => (fun _ => 0)), (fun _ => (fun _ => 0)), (fun _ => 0), (fun _ => 0)) dX8_sentTo_37 (show ((((-2147483648) ≤ x_3.toInt ∧ x_3.toInt ≤ 2147483647) ∧ ((-1) ≤ x1.toInt ∧ x1.toInt ≤ 5))) by (first | omega | (unfold zBd at *; omega))) (g_psub (wc := [(a0, .inr (8, [.ref a2])), (a2, .inl (cI, 30, .inl f0)), (a1, .inl (cI, 5, .inl f1))]) hP [0, 1, 2] rfl) (hD.sub (ws' := [(a0, .inr (8, [.ref a2])), (a2, .inl (cI, 30, .inl f0)), (a1, .inl (cI, 5, .inl f1))]) [0, 1, 2] (by decide) rfl) hS
      ·
        refine lv_iload (pc := 12) hx hb dX8_sentTo_12 (lv_at hl 1 rfl) ?_
        refine lv_aload_n (pc := 14) hx hb dX8_sentTo_14 rfl (lv_at hl 2 rfl) ?_
        refine lv_iload_n (pc := 15) hx hb dX8_sentTo_15 rfl (lv_at hl 3 rfl) ?_
        refine lv_iload (pc := 16) hx hb dX8_sentTo_16 (lv_at hl 0 rfl) ?_
        refine gc_i (pc := 18) (wc := [(a0, .inr (8, [.ref a2])), (a2, .inl (cI, 30, .inl f0))]) (wr := [(a1, .inl (cI, 5, .inl f1))]) hP hD hS hA [0, 1] [2] rfl rfl (by decide) (by decide) (by decide) (fun hPc hDc => va_runV (As := [.int x0, .int x_1]) (rest := [.int x_3]) ⟨hx, hb, hml, hown, hts⟩ (k_X8_at l D cB cC cI cJ _ a0 a2 x0 x_1 f0 hp1 (by  (first | omega | (unfold zBd at *; omega)))) ⟨gcwB hts tw_791 tw_5 tw_800 hd_yX8_at ⟨Nat.le_of_ble_eq_true rfl, Nat.le_of_ble_eq_true rfl⟩, hts _ tw_789, hts _ tw_790⟩ ⟨gblind, va_recv hK hPc (ci := 8) (q0 := 0) rfl rfl, (gpreS hPc hK hDc hN).2⟩ rfl rfl hl.1 rfl (lv_room (Nat.le_of_ble_eq_true rfl)) dX8_sentTo_18 ⟨Nat.le_of_ble_eq_true rfl, Nat.le_of_ble_eq_true rfl⟩) (fun r_8 u_7 H locs hw_9 hP hD hS => ?_)
        replace hP : va_P D gcl [(a1, .inl (cI, 5, .inl f1)), (a0, .inr (8, [.ref a2])), (a2, .inl (cI, 30, .inl f0))] H := hP
        replace hD : va_D A [(a1, .inl (cI, 5, .inl f1)), (a0, .inr (8, [.ref a2])), (a2, .inl (cI, 30, .inl f0))] := hD
        have hw_10 : ((((-2147483648) ≤ r_8.toInt ∧ r_8.toInt ≤ 2147483647))) := hw_9
        have rr_8 : zBd r_8.toInt (-2147483648) 2147483647 := n_rng r_8
        refine lv_aload_n (pc := 21) hx hb dX8_sentTo_21 rfl (lv_at hl 4 rfl) ?_
        refine lv_iload (pc := 22) hx hb dX8_sentTo_22 (lv_at hl 0 rfl) ?_
        refine va_iald (pc := 24) hx hb hK hP 0 2 rfl rfl (n_in rfl (by (first | omega | (unfold zBd at *; omega))) (by (first | omega | (unfold zBd at *; omega)))) dX8_sentTo_24 ?_
        refine lv_topi (fun x_11 ex_11 => ?_)
        have rx_11 : zBd x_11.toInt (-2147483648) 2147483647 := n_rng x_11
        refine lv_imul (pc := 25) hx hb dX8_sentTo_25 ?_
        refine lv_topi (fun x_12 _ => ?_)
        have rx_12 : zBd x_12.toInt (-2147483648) 2147483647 := n_rng x_12
        refine lv_iadd (pc := 26) hx hb dX8_sentTo_26 ?_
        refine lv_topi (fun x_13 _ => ?_)
        have rx_13 : zBd x_13.toInt (-2147483648) 2147483647 := n_rng x_13
        refine lv_istore (pc := 27) (lv' := [(4, .int x_13), (5, .int x_1), (0, .ref a0), (1, .int x0), (2, .ref a1), (3, .int x1)]) hx hb dX8_sentTo_27 hl (by decide) rfl (fun ls hl => ?_)
        refine b_iinc (pc := 29) hx hb dX8_sentTo_29 hl (k := 1) rfl rfl tI_1 (by (first | omega | (unfold zBd at *; omega))) (by (first | omega | (unfold zBd at *; omega))) (by decide) (fun x_14 ex_14 ls hl => ?_)
        replace hl : lv_has ls 6 [(5, .int x_14), (4, .int x_13), (0, .ref a0), (1, .int x0), (2, .ref a1), (3, .int x1)] := hl
        refine lv_goto (pc := 32) (tgt := 6) hx hb dX8_sentTo_32 (by decide) ?_
        exact ih_lp_5 x_14 x_13 _ _ ls (by (first | omega | (unfold zBd at *; omega))) (by (first | omega | (unfold zBd at *; omega))) (g_psub hP [1, 2, 0] rfl) (hD.sub [1, 2, 0] (by decide) rfl) hS (lv_sub hl [0, 1, 2, 3, 4, 5] rfl)
  exact lp_5 _ 0 0 _ _ ls (n_c tI_0 (by decide)) (Nat.lt_succ_self _) hP hD hS (lv_sub hl [0, 1, 2, 3, 4, 5] rfl)
set_option maxHeartbeats 4000000 in
set_option maxRecDepth 100000 in
theorem k_X1_distanceOf (l : Launch) (D : va_G) (cB cC cI cJ : ClassId) (sz : Nat) (a0 a1 a2 a3 a4 a5 a6 : Nat) (x0 x1 x2 x3 x4 x5 x6 : Int32) (f0 f1 f2 : Nat → Int32) (h_x0 : zBd x0.toInt (-1) 8) (h_x1 : zBd x1.toInt (-1) 5) (h_x2 : zBd x2.toInt (-1) 6) (h_x3 : zBd x3.toInt 0 6) (h_x4 : zBd x4.toInt 0 16) : Met l yX1_distanceOf (.code yX1_distanceOf cX1_distanceOf 8 (some .long) :: lw_gd) ({ frames := 2, cells := 0, slots := 0, locals := 47 }) (gPre D [(cB, .byte), (cC, .char), (cI, .int), (cJ, .long)] [.ref a0, .ref a1, .ref a2] [(a0, .inr (1, [.ref a3, .ref a4, .ref a5, .int x0, .int x1, .int x2, .int x3, .int x4, .int x5, .int x6])), (a2, .inl (cI, 6, .inl f0)), (a3, .inr (8, [.ref a6])), (a1, .inl (cI, 5, .inl f1)), (a6, .inl (cI, 30, .inl f2))] sz) (va_Ql (fun r u => ((((-9223372036854775808) ≤ r.toInt ∧ r.toInt ≤ 9223372036854775807) ∧ ((-1) ≤ x2.toInt ∧ x2.toInt ≤ 6)))) (gB D (va_A [(a0, .inr (1, [.ref a3, .ref a4, .ref a5, .int x0, .int x1, .int x2, .int x3, .int x4, .int x5, .int x6])), (a2, .inl (cI, 6, .inl f0)), (a3, .inr (8, [.ref a6])), (a1, .inl (cI, 5, .inl f1)), (a6, .inl (cI, 30, .inl f2))] sz) (fun u : gEx => [(a0, .inr (1, [.ref a3, .ref a4, .ref a5, .int x0, .int x1, .int x2, .int x3, .int x4, .int x5, .int x6])), (a2, .inl (cI, 6, .inl f0)), (a3, .inr (8, [.ref a6])), (a1, .inl (cI, 5, .inl f1)), (a6, .inl (cI, 30, .inl f2))])) (va_A [(a0, .inr (1, [.ref a3, .ref a4, .ref a5, .int x0, .int x1, .int x2, .int x3, .int x4, .int x5, .int x6])), (a2, .inl (cI, 6, .inl f0)), (a3, .inr (8, [.ref a6])), (a1, .inl (cI, 5, .inl f1)), (a6, .inl (cI, 30, .inl f2))] sz)) 0 0 (va_A [(a0, .inr (1, [.ref a3, .ref a4, .ref a5, .int x0, .int x1, .int x2, .int x3, .int x4, .int x5, .int x6])), (a2, .inl (cI, 6, .inl f0)), (a3, .inr (8, [.ref a6])), (a1, .inl (cI, 5, .inl f1)), (a6, .inl (cI, 30, .inl f2))] sz) := by
  refine gOf_l (by decide +kernel) (Nat.le_of_ble_eq_true rfl) ?_
  intro p e s m args below meth c ls A Q hx hb hts hown hml hN hK hP hD hA hl hret
  replace hown : s.vm.findClass RX1 = some m.cls := hown
  have hS : va_S A s.heap s.heap [] := va_S.rf
  replace hP : va_P D gcl [(a0, .inr (1, [.ref a3, .ref a4, .ref a5, .int x0, .int x1, .int x2, .int x3, .int x4, .int x5, .int x6])), (a2, .inl (cI, 6, .inl f0)), (a3, .inr (8, [.ref a6])), (a1, .inl (cI, 5, .inl f1)), (a6, .inl (cI, 30, .inl f2))] s.heap := hP
  replace hl : lv_has ls 8 [(0, .ref a0), (1, .ref a1), (2, .ref a2)] := hl
  have rx5 : zBd x5.toInt (-2147483648) 2147483647 := n_rng x5
  have rx6 : zBd x6.toInt (-2147483648) 2147483647 := n_rng x6
  refine lv_lconst (pc := 0) (v := 0) hx hb dX1_distanceOf_0 (by decide) ?_
  refine lv_lstore_n (pc := 1) (lv' := [(3, .long 0), (0, .ref a0), (1, .ref a1), (2, .ref a2)]) hx hb dX1_distanceOf_1 rfl hl (by decide) rfl (fun ls hl => ?_)
  refine lv_iconst (pc := 2) (v := 0) hx hb dX1_distanceOf_2 (by decide) ?_
  refine lv_istore (pc := 3) (lv' := [(5, .int 0), (3, .long 0), (0, .ref a0), (1, .ref a1), (2, .ref a2)]) hx hb dX1_distanceOf_3 hl (by decide) rfl (fun ls hl => ?_)
  have lp_5 : ∀ (n : Nat) (x_1 : Int32) (y_3 : Int64) (H : Heap) (locs : List Loc) (ls : Array Slot), (0 ≤ x_1.toInt ∧ x_1.toInt ≤ 2147483647) → (2147483647 - x_1.toInt).toNat < n → va_P D gcl [(a0, .inr (1, [.ref a3, .ref a4, .ref a5, .int x0, .int x1, .int x2, .int x3, .int x4, .int x5, .int x6])), (a2, .inl (cI, 6, .inl f0)), (a3, .inr (8, [.ref a6])), (a1, .inl (cI, 5, .inl f1)), (a6, .inl (cI, 30, .inl f2))] H → va_D A [(a0, .inr (1, [.ref a3, .ref a4, .ref a5, .int x0, .int x1, .int x2, .int x3, .int x4, .int x5, .int x6])), (a2, .inl (cI, 6, .inl f0)), (a3, .inr (8, [.ref a6])), (a1, .inl (cI, 5, .inl f1)), (a6, .inl (cI, 30, .inl f2))] → va_S A s.heap H locs → lv_has ls 8 [(5, .int x_1), (3, .long y_3), (0, .ref a0), (1, .ref a1), (2, .ref a2)] → W p l e ({ frames := 2, cells := 0, slots := 0, locals := 47 }) s m args below meth c H locs 0 0 Q (F0 m 5 ls []) := by
    intro n
    induction n with
    | zero => intro x_1 y_3 H locs ls hi_2 hmu; exact absurd hmu (Nat.not_lt_zero _)
    | succ n ih_lp_5 =>
      intro x_1 y_3 H locs ls hi_2 hmu_lp_5 hP hD hS hl
      have hi_4 := n_rngL y_3
      refine lv_iload (pc := 5) hx hb dX1_distanceOf_5 (lv_at hl 0 rfl) ?_
      refine lv_aload_n (pc := 7) hx hb dX1_distanceOf_7 rfl (lv_at hl 2 rfl) ?_
      refine va_get (pc := 8) (ci := 1) (v := .int x2) (C := RX1) (T := TX1) (N := 10) hx hb hts iX1 hown hK hP 0 rfl rfl 5 (by decide) (hts _ tw_125) (fun _ h9 => h9) rfl dX1_distanceOf_8 ?_
      have bd_h_x2 : (-1) ≤ x2.toInt ∧ x2.toInt ≤ 6 := h_x2
      refine b_icmp_ge (pc := 11) (tgt := 50) hx hb rfl rfl  dX1_distanceOf_11 (by decide) (fun c_6 => ?_) (fun c_6 => ?_)
      ·
        refine lv_lload_n (pc := 50) hx hb dX1_distanceOf_50 rfl (lv_at hl 1 rfl) ?_
        exact hret y_3 ((fun _ => 0), (fun _ => (fun _ => 0)), (fun _ => (fun _ => 0)), (fun _ => 0), (fun _ => 0)) dX1_distanceOf_51 (show ((((-9223372036854775808) ≤ y_3.toInt ∧ y_3.toInt ≤ 9223372036854775807) ∧ ((-1) ≤ x2.toInt ∧ x2.toInt ≤ 6))) by (first | omega | (unfold zBd at *; omega))) (g_psub (wc := [(a0, .inr (1, [.ref a3, .ref a4, .ref a5, .int x0, .int x1, .int x2, .int x3, .int x4, .int x5, .int x6])), (a2, .inl (cI, 6, .inl f0)), (a3, .inr (8, [.ref a6])), (a1, .inl (cI, 5, .inl f1)), (a6, .inl (cI, 30, .inl f2))]) hP [0, 1, 2, 3, 4] rfl) (hD.sub (ws' := [(a0, .inr (1, [.ref a3, .ref a4, .ref a5, .int x0, .int x1, .int x2, .int x3, .int x4, .int x5, .int x6])), (a2, .inl (cI, 6, .inl f0)), (a3, .inr (8, [.ref a6])), (a1, .inl (cI, 5, .inl f1)), (a6, .inl (cI, 30, .inl f2))]) [0, 1, 2, 3, 4] (by decide) rfl) hS
      ·
        refine lv_aload_n (pc := 14) hx hb dX1_distanceOf_14 rfl (lv_at hl 4 rfl) ?_
        refine lv_iload (pc := 15) hx hb dX1_distanceOf_15 (lv_at hl 0 rfl) ?_
        refine va_iald (pc := 17) hx hb hK hP 1 2 rfl rfl (n_in rfl (by (first | omega | (unfold zBd at *; omega))) (by (first | omega | (unfold zBd at *; omega)))) dX1_distanceOf_17 ?_
        refine lv_topi (fun x_7 ex_7 => ?_)
        have rx_7 : zBd x_7.toInt (-2147483648) 2147483647 := n_rng x_7
        refine lv_aload_n (pc := 18) hx hb dX1_distanceOf_18 rfl (lv_at hl 2 rfl) ?_
        refine va_get (pc := 19) (ci := 1) (v := .ref a3) (C := RX1) (T := TX1) (N := 10) hx hb hts iX1 hown hK hP 0 rfl rfl 0 (by decide) (hts _ tw_97) (fun _ h9 => h9) rfl dX1_distanceOf_19 ?_
        refine lv_iload (pc := 22) hx hb dX1_distanceOf_22 (lv_at hl 0 rfl) ?_
        refine lv_aload_n (pc := 24) hx hb dX1_distanceOf_24 rfl (lv_at hl 3 rfl) ?_
        refine lv_aload_n (pc := 25) hx hb dX1_distanceOf_25 rfl (lv_at hl 2 rfl) ?_
        refine va_get (pc := 26) (ci := 1) (v := .int x1) (C := RX1) (T := TX1) (N := 10) hx hb hts iX1 hown hK hP 0 rfl rfl 4 (by decide) (hts _ tw_116) (fun _ h9 => h9) rfl dX1_distanceOf_26 ?_
        have bd_h_x1 : (-1) ≤ x1.toInt ∧ x1.toInt ≤ 5 := h_x1
        refine gc_i (pc := 29) (wc := [(a3, .inr (8, [.ref a6])), (a6, .inl (cI, 30, .inl f2)), (a1, .inl (cI, 5, .inl f1))]) (wr := [(a0, .inr (1, [.ref a3, .ref a4, .ref a5, .int x0, .int x1, .int x2, .int x3, .int x4, .int x5, .int x6])), (a2, .inl (cI, 6, .inl f0))]) hP hD hS hA [2, 4, 3] [0, 1] rfl rfl (by decide) (by decide) (by decide) (fun hPc hDc => va_runV (As := [.int x_1, .ref a1, .int x1]) (rest := [.int x_7]) ⟨hx, hb, hml, hown, hts⟩ (k_X8_sentTo_5 l D cB cC cI cJ _ a3 a1 a6 x_1 x1 f2 f1 (by  (first | omega | (unfold zBd at *; omega))) h_x1) ⟨gcwB hts tw_834 tw_5 tw_843 hd_yX8_sentTo ⟨Nat.le_of_ble_eq_true rfl, Nat.le_of_ble_eq_true rfl⟩, hts _ tw_832, hts _ tw_833⟩ ⟨gblind, va_recv hK hPc (ci := 8) (q0 := 0) rfl rfl, (gpreS hPc hK hDc hN).2⟩ rfl rfl hl.1 rfl (lv_room (Nat.le_of_ble_eq_true rfl)) dX1_distanceOf_29 ⟨Nat.le_of_ble_eq_true rfl, Nat.le_of_ble_eq_true rfl⟩) (fun r_9 u_8 H locs hw_10 hP hD hS => ?_)
        replace hP : va_P D gcl [(a0, .inr (1, [.ref a3, .ref a4, .ref a5, .int x0, .int x1, .int x2, .int x3, .int x4, .int x5, .int x6])), (a2, .inl (cI, 6, .inl f0)), (a3, .inr (8, [.ref a6])), (a6, .inl (cI, 30, .inl f2)), (a1, .inl (cI, 5, .inl f1))] H := hP
        replace hD : va_D A [(a0, .inr (1, [.ref a3, .ref a4, .ref a5, .int x0, .int x1, .int x2, .int x3, .int x4, .int x5, .int x6])), (a2, .inl (cI, 6, .inl f0)), (a3, .inr (8, [.ref a6])), (a6, .inl (cI, 30, .inl f2)), (a1, .inl (cI, 5, .inl f1))] := hD
        have hw_11 : ((((-2147483648) ≤ r_9.toInt ∧ r_9.toInt ≤ 2147483647) ∧ ((-1) ≤ x1.toInt ∧ x1.toInt ≤ 5))) := hw_10
        have rr_9 : zBd r_9.toInt (-2147483648) 2147483647 := n_rng r_9
        refine lv_isub (pc := 32) hx hb dX1_distanceOf_32 ?_
        refine lv_topi (fun x_12 _ => ?_)
        have rx_12 : zBd x_12.toInt (-2147483648) 2147483647 := n_rng x_12
        refine b_i2l (pc := 33) hx hb rfl dX1_distanceOf_33 (fun y_13 ey_13 => ?_)
        have ry_13 : zBd x_12.toInt (-2147483648) 2147483647 := n_rng x_12
        refine lv_lstore (pc := 34) (lv' := [(6, .long y_13), (5, .int x_1), (3, .long y_3), (0, .ref a0), (1, .ref a1), (2, .ref a2)]) hx hb dX1_distanceOf_34 hl (by decide) rfl (fun ls hl => ?_)
        refine lv_lload_n (pc := 36) hx hb dX1_distanceOf_36 rfl (lv_at hl 2 rfl) ?_
        refine lv_lload (pc := 37) hx hb dX1_distanceOf_37 (lv_at hl 0 rfl) ?_
        refine lv_lload (pc := 39) hx hb dX1_distanceOf_39 (lv_at hl 0 rfl) ?_
        refine lv_lmul (pc := 41) hx hb dX1_distanceOf_41 ?_
        refine lv_topl (fun y_14 _ => ?_)
        have ry_14 := n_rngL y_14
        refine lv_ladd (pc := 42) hx hb dX1_distanceOf_42 ?_
        refine lv_topl (fun y_15 _ => ?_)
        have ry_15 := n_rngL y_15
        refine lv_lstore_n (pc := 43) (lv' := [(3, .long y_15), (6, .long y_13), (5, .int x_1), (0, .ref a0), (1, .ref a1), (2, .ref a2)]) hx hb dX1_distanceOf_43 rfl hl (by decide) rfl (fun ls hl => ?_)
        refine b_iinc (pc := 44) hx hb dX1_distanceOf_44 hl (k := 2) rfl rfl tI_1 (by (first | omega | (unfold zBd at *; omega))) (by (first | omega | (unfold zBd at *; omega))) (by decide) (fun x_16 ex_16 ls hl => ?_)
        replace hl : lv_has ls 8 [(5, .int x_16), (3, .long y_15), (6, .long y_13), (0, .ref a0), (1, .ref a1), (2, .ref a2)] := hl
        refine lv_goto (pc := 47) (tgt := 5) hx hb dX1_distanceOf_47 (by decide) ?_
        exact ih_lp_5 x_16 y_15 _ _ ls (by (first | omega | (unfold zBd at *; omega))) (by (first | omega | (unfold zBd at *; omega))) (g_psub hP [0, 1, 2, 4, 3] rfl) (hD.sub [0, 1, 2, 4, 3] (by decide) rfl) hS (lv_sub hl [0, 1, 3, 4, 5] rfl)
  exact lp_5 _ 0 0 _ _ ls (n_c tI_0 (by decide)) (Nat.lt_succ_self _) hP hD hS (lv_sub hl [0, 1, 2, 3, 4] rfl)
set_option maxHeartbeats 4000000 in
set_option maxRecDepth 100000 in
theorem k_X1_rowsOf (l : Launch) (D : va_G) (cB cC cI cJ : ClassId) (sz : Nat) (a0 a1 a2 a3 : Nat) (x0 x1 x2 x3 x4 x5 x6 x7 : Int32) (h_x1 : zBd x1.toInt (-1) 8) (h_x2 : zBd x2.toInt (-1) 5) (h_x3 : zBd x3.toInt (-1) 6) (h_x4 : zBd x4.toInt 0 6) (h_x5 : zBd x5.toInt 0 16) : Met l yX1_rowsOf (.code yX1_rowsOf cX1_rowsOf 4 (some .int) :: lw_gd) ({ frames := 0, cells := 0, slots := 0, locals := 0 }) (gPre D [(cB, .byte), (cC, .char), (cI, .int), (cJ, .long)] [.ref a0, .int x0] [(a0, .inr (1, [.ref a1, .ref a2, .ref a3, .int x1, .int x2, .int x3, .int x4, .int x5, .int x6, .int x7]))] sz) (va_Qi (fun r u => ((((-2147483648) ≤ r.toInt ∧ r.toInt ≤ 2147483647) ∧ ((-2147483648) ≤ x0.toInt ∧ x0.toInt ≤ 2147483647)))) (gB D (va_A [(a0, .inr (1, [.ref a1, .ref a2, .ref a3, .int x1, .int x2, .int x3, .int x4, .int x5, .int x6, .int x7]))] sz) (fun u : gEx => [(a0, .inr (1, [.ref a1, .ref a2, .ref a3, .int x1, .int x2, .int x3, .int x4, .int x5, .int x6, .int x7]))])) (va_A [(a0, .inr (1, [.ref a1, .ref a2, .ref a3, .int x1, .int x2, .int x3, .int x4, .int x5, .int x6, .int x7]))] sz)) 0 0 (va_A [(a0, .inr (1, [.ref a1, .ref a2, .ref a3, .int x1, .int x2, .int x3, .int x4, .int x5, .int x6, .int x7]))] sz) := by
  refine gOf_i (by decide +kernel) (Nat.le_of_ble_eq_true rfl) ?_
  intro p e s m args below meth c ls A Q hx hb hts hown hml hN hK hP hD hA hl hret
  replace hown : s.vm.findClass RX1 = some m.cls := hown
  have hS : va_S A s.heap s.heap [] := va_S.rf
  replace hP : va_P D gcl [(a0, .inr (1, [.ref a1, .ref a2, .ref a3, .int x1, .int x2, .int x3, .int x4, .int x5, .int x6, .int x7]))] s.heap := hP
  replace hl : lv_has ls 4 [(0, .ref a0), (1, .int x0)] := hl
  have rx0 : zBd x0.toInt (-2147483648) 2147483647 := n_rng x0
  have rx6 : zBd x6.toInt (-2147483648) 2147483647 := n_rng x6
  have rx7 : zBd x7.toInt (-2147483648) 2147483647 := n_rng x7
  refine lv_iconst (pc := 0) (v := 1) hx hb dX1_rowsOf_0 (by decide) ?_
  refine lv_istore_n (pc := 1) (lv' := [(2, .int 1), (0, .ref a0), (1, .int x0)]) hx hb dX1_rowsOf_1 rfl hl (by decide) rfl (fun ls hl => ?_)
  refine lv_iconst (pc := 2) (v := 0) hx hb dX1_rowsOf_2 (by decide) ?_
  refine lv_istore_n (pc := 3) (lv' := [(3, .int 0), (2, .int 1), (0, .ref a0), (1, .int x0)]) hx hb dX1_rowsOf_3 rfl hl (by decide) rfl (fun ls hl => ?_)
  have lp_5 : ∀ (n : Nat) (x_1 x_3 : Int32) (H : Heap) (locs : List Loc) (ls : Array Slot), (0 ≤ x_1.toInt ∧ x_1.toInt ≤ 2147483647) → (2147483647 - x_1.toInt).toNat < n → va_P D gcl [(a0, .inr (1, [.ref a1, .ref a2, .ref a3, .int x1, .int x2, .int x3, .int x4, .int x5, .int x6, .int x7]))] H → va_D A [(a0, .inr (1, [.ref a1, .ref a2, .ref a3, .int x1, .int x2, .int x3, .int x4, .int x5, .int x6, .int x7]))] → va_S A s.heap H locs → lv_has ls 4 [(3, .int x_1), (2, .int x_3), (0, .ref a0), (1, .int x0)] → W p l e ({ frames := 0, cells := 0, slots := 0, locals := 0 }) s m args below meth c H locs 0 0 Q (F0 m 4 ls []) := by
    intro n
    induction n with
    | zero => intro x_1 x_3 H locs ls hi_2 hmu; exact absurd hmu (Nat.not_lt_zero _)
    | succ n ih_lp_5 =>
      intro x_1 x_3 H locs ls hi_2 hmu_lp_5 hP hD hS hl
      have hi_4 := n_rng x_3
      refine lv_iload_n (pc := 4) hx hb dX1_rowsOf_4 rfl (lv_at hl 0 rfl) ?_
      refine lv_iload_n (pc := 5) hx hb dX1_rowsOf_5 rfl (lv_at hl 3 rfl) ?_
      refine b_icmp_ge (pc := 6) (tgt := 22) hx hb rfl rfl  dX1_rowsOf_6 (by decide) (fun c_6 => ?_) (fun c_6 => ?_)
      ·
        refine lv_iload_n (pc := 22) hx hb dX1_rowsOf_22 rfl (lv_at hl 1 rfl) ?_
        exact hret x_3 ((fun _ => 0), (fun _ => (fun _ => 0)), (fun _ => (fun _ => 0)), (fun _ => 0), (fun _ => 0)) dX1_rowsOf_23 (show ((((-2147483648) ≤ x_3.toInt ∧ x_3.toInt ≤ 2147483647) ∧ ((-2147483648) ≤ x0.toInt ∧ x0.toInt ≤ 2147483647))) by (first | omega | (unfold zBd at *; omega))) (g_psub (wc := [(a0, .inr (1, [.ref a1, .ref a2, .ref a3, .int x1, .int x2, .int x3, .int x4, .int x5, .int x6, .int x7]))]) hP [0] rfl) (hD.sub (ws' := [(a0, .inr (1, [.ref a1, .ref a2, .ref a3, .int x1, .int x2, .int x3, .int x4, .int x5, .int x6, .int x7]))]) [0] (by decide) rfl) hS
      ·
        refine lv_iload_n (pc := 9) hx hb dX1_rowsOf_9 rfl (lv_at hl 1 rfl) ?_
        refine lv_aload_n (pc := 10) hx hb dX1_rowsOf_10 rfl (lv_at hl 2 rfl) ?_
        refine va_get (pc := 11) (ci := 1) (v := .int x1) (C := RX1) (T := TX1) (N := 10) hx hb hts iX1 hown hK hP 0 rfl rfl 3 (by decide) (hts _ tw_110) (fun _ h9 => h9) rfl dX1_rowsOf_11 ?_
        have bd_h_x1 : (-1) ≤ x1.toInt ∧ x1.toInt ≤ 8 := h_x1
        refine lv_imul (pc := 14) hx hb dX1_rowsOf_14 ?_
        refine lv_topi (fun x_7 _ => ?_)
        have rx_7 : zBd x_7.toInt (-2147483648) 2147483647 := n_rng x_7
        refine lv_istore_n (pc := 15) (lv' := [(2, .int x_7), (3, .int x_1), (0, .ref a0), (1, .int x0)]) hx hb dX1_rowsOf_15 rfl hl (by decide) rfl (fun ls hl => ?_)
        refine b_iinc (pc := 16) hx hb dX1_rowsOf_16 hl (k := 1) rfl rfl tI_1 (by (first | omega | (unfold zBd at *; omega))) (by (first | omega | (unfold zBd at *; omega))) (by decide) (fun x_8 ex_8 ls hl => ?_)
        replace hl : lv_has ls 4 [(3, .int x_8), (2, .int x_7), (0, .ref a0), (1, .int x0)] := hl
        refine lv_goto (pc := 19) (tgt := 4) hx hb dX1_rowsOf_19 (by decide) ?_
        exact ih_lp_5 x_8 x_7 _ _ ls (by (first | omega | (unfold zBd at *; omega))) (by (first | omega | (unfold zBd at *; omega))) hP hD hS (lv_sub hl [0, 1, 2, 3] rfl)
  exact lp_5 _ 0 1 _ _ ls (n_c tI_0 (by decide)) (Nat.lt_succ_self _) hP hD hS (lv_sub hl [0, 1, 2, 3] rfl)
set_option maxHeartbeats 4000000 in
set_option maxRecDepth 100000 in
theorem k_X1_digitInRow (l : Launch) (D : va_G) (cB cC cI cJ : ClassId) (sz : Nat) (a0 a1 a2 a3 : Nat) (x0 x1 x2 x3 x4 x5 x6 x7 x8 : Int32) (hp2 : (0 ≤ x1.toInt ∧ x1.toInt ≤ 4)) (h_x2 : zBd x2.toInt (-1) 8) (h_x3 : zBd x3.toInt (-1) 5) (h_x4 : zBd x4.toInt (-1) 6) (h_x5 : zBd x5.toInt 0 6) (h_x6 : zBd x6.toInt 0 16) : Met l yX1_digitInRow (.code yX1_digitInRow cX1_digitInRow 4 (some .int) :: lw_gd) ({ frames := 1, cells := 0, slots := 0, locals := 23 }) (gPre D [(cB, .byte), (cC, .char), (cI, .int), (cJ, .long)] [.ref a0, .int x0, .int x1] [(a0, .inr (1, [.ref a1, .ref a2, .ref a3, .int x2, .int x3, .int x4, .int x5, .int x6, .int x7, .int x8]))] sz) (va_Qi (fun r u => ((r.toInt = 0) ∨ (((-2147483648) ≤ r.toInt ∧ r.toInt ≤ 2147483647) ∧ ¬ x2.toInt = 0) ∨ (r.toInt = 0 ∧ x2.toInt = 0))) (gB D (va_A [(a0, .inr (1, [.ref a1, .ref a2, .ref a3, .int x2, .int x3, .int x4, .int x5, .int x6, .int x7, .int x8]))] sz) (fun u : gEx => [(a0, .inr (1, [.ref a1, .ref a2, .ref a3, .int x2, .int x3, .int x4, .int x5, .int x6, .int x7, .int x8]))])) (va_A [(a0, .inr (1, [.ref a1, .ref a2, .ref a3, .int x2, .int x3, .int x4, .int x5, .int x6, .int x7, .int x8]))] sz)) 0 0 (va_A [(a0, .inr (1, [.ref a1, .ref a2, .ref a3, .int x2, .int x3, .int x4, .int x5, .int x6, .int x7, .int x8]))] sz) := by
  refine gOf_i (by decide +kernel) (Nat.le_of_ble_eq_true rfl) ?_
  intro p e s m args below meth c ls A Q hx hb hts hown hml hN hK hP hD hA hl hret
  replace hown : s.vm.findClass RX1 = some m.cls := hown
  have hS : va_S A s.heap s.heap [] := va_S.rf
  replace hP : va_P D gcl [(a0, .inr (1, [.ref a1, .ref a2, .ref a3, .int x2, .int x3, .int x4, .int x5, .int x6, .int x7, .int x8]))] s.heap := hP
  replace hl : lv_has ls 4 [(0, .ref a0), (1, .int x0), (2, .int x1)] := hl
  have rx0 : zBd x0.toInt (-2147483648) 2147483647 := n_rng x0
  have rx7 : zBd x7.toInt (-2147483648) 2147483647 := n_rng x7
  have rx8 : zBd x8.toInt (-2147483648) 2147483647 := n_rng x8
  refine lv_aload_n (pc := 0) hx hb dX1_digitInRow_0 rfl (lv_at hl 0 rfl) ?_
  refine lv_aload_n (pc := 1) hx hb dX1_digitInRow_1 rfl (lv_at hl 0 rfl) ?_
  refine va_get (pc := 2) (ci := 1) (v := .int x3) (C := RX1) (T := TX1) (N := 10) hx hb hts iX1 hown hK hP 0 rfl rfl 4 (by decide) (hts _ tw_116) (fun _ h9 => h9) rfl dX1_digitInRow_2 ?_
  have bd_h_x3 : (-1) ≤ x3.toInt ∧ x3.toInt ≤ 5 := h_x3
  refine lv_iconst (pc := 5) (v := 1) hx hb dX1_digitInRow_5 (by decide) ?_
  refine b_isub (pc := 6) hx hb rfl tI_1 (by (first | omega | (unfold zBd at *; omega))) (by (first | omega | (unfold zBd at *; omega))) dX1_digitInRow_6 (fun x_1 ex_1 => ?_)
  refine lv_iload_n (pc := 7) hx hb dX1_digitInRow_7 rfl (lv_at hl 2 rfl) ?_
  refine b_isub (pc := 8) hx hb rfl rfl (by (first | omega | (unfold zBd at *; omega))) (by (first | omega | (unfold zBd at *; omega))) dX1_digitInRow_8 (fun x_2 ex_2 => ?_)
  refine gc_i (pc := 9) (wc := [(a0, .inr (1, [.ref a1, .ref a2, .ref a3, .int x2, .int x3, .int x4, .int x5, .int x6, .int x7, .int x8]))]) (wr := []) hP hD hS hA [0] [] rfl rfl (by decide) (by decide) (by decide) (fun hPc hDc => va_runV (As := [.int x_2]) (rest := []) ⟨hx, hb, hml, hown, hts⟩ (k_X1_rowsOf l D cB cC cI cJ _ a0 a1 a2 a3 x_2 x2 x3 x4 x5 x6 x7 x8 h_x2 h_x3 h_x4 h_x5 h_x6) ⟨gcwB hts tw_948 tw_4 tw_945 hd_yX1_rowsOf ⟨Nat.le_of_ble_eq_true rfl, Nat.le_of_ble_eq_true rfl⟩, hts _ tw_946, hts _ tw_947⟩ ⟨gblind, va_recv hK hPc (ci := 1) (q0 := 0) rfl rfl, (gpreS hPc hK hDc hN).2⟩ rfl rfl hl.1 rfl (lv_room (Nat.le_of_ble_eq_true rfl)) dX1_digitInRow_9 ⟨Nat.le_of_ble_eq_true rfl, Nat.le_of_ble_eq_true rfl⟩) (fun r_4 u_3 H locs hw_5 hP hD hS => ?_)
  replace hP : va_P D gcl [(a0, .inr (1, [.ref a1, .ref a2, .ref a3, .int x2, .int x3, .int x4, .int x5, .int x6, .int x7, .int x8]))] H := hP
  replace hD : va_D A [(a0, .inr (1, [.ref a1, .ref a2, .ref a3, .int x2, .int x3, .int x4, .int x5, .int x6, .int x7, .int x8]))] := hD
  have hw_6 : ((((-2147483648) ≤ r_4.toInt ∧ r_4.toInt ≤ 2147483647) ∧ ((-2147483648) ≤ x_2.toInt ∧ x_2.toInt ≤ 2147483647))) := hw_5
  have rr_4 : zBd r_4.toInt (-2147483648) 2147483647 := n_rng r_4
  refine lv_istore_n (pc := 12) (lv' := [(3, .int r_4), (0, .ref a0), (1, .int x0), (2, .int x1)]) hx hb dX1_digitInRow_12 rfl hl (by decide) rfl (fun ls hl => ?_)
  refine lv_iload_n (pc := 13) hx hb dX1_digitInRow_13 rfl (lv_at hl 0 rfl) ?_
  refine b_if_eq (pc := 14) (tgt := 24) hx hb rfl  dX1_digitInRow_14 (by decide) (fun c_7 => ?_) (fun c_7 => ?_)
  ·
    refine lv_iconst (pc := 24) (v := 0) hx hb dX1_digitInRow_24 (by decide) ?_
    refine lv_goto (pc := 25) (tgt := 36) hx hb dX1_digitInRow_25 (by decide) ?_
    exact hret 0 ((fun _ => 0), (fun _ => (fun _ => 0)), (fun _ => (fun _ => 0)), (fun _ => 0), (fun _ => 0)) dX1_digitInRow_36 (show (((0 : Int32).toInt = 0) ∨ (((-2147483648) ≤ (0 : Int32).toInt ∧ (0 : Int32).toInt ≤ 2147483647) ∧ ¬ x2.toInt = 0) ∨ ((0 : Int32).toInt = 0 ∧ x2.toInt = 0)) by have k9 := tI_0; (first | omega | (unfold zBd at *; omega))) (g_psub (wc := [(a0, .inr (1, [.ref a1, .ref a2, .ref a3, .int x2, .int x3, .int x4, .int x5, .int x6, .int x7, .int x8]))]) hP [0] rfl) (hD.sub (ws' := [(a0, .inr (1, [.ref a1, .ref a2, .ref a3, .int x2, .int x3, .int x4, .int x5, .int x6, .int x7, .int x8]))]) [0] (by decide) rfl) hS
  ·
    refine lv_aload_n (pc := 17) hx hb dX1_digitInRow_17 rfl (lv_at hl 1 rfl) ?_
    refine va_get (pc := 18) (ci := 1) (v := .int x2) (C := RX1) (T := TX1) (N := 10) hx hb hts iX1 hown hK hP 0 rfl rfl 3 (by decide) (hts _ tw_110) (fun _ h9 => h9) rfl dX1_digitInRow_18 ?_
    have bd_h_x2 : (-1) ≤ x2.toInt ∧ x2.toInt ≤ 8 := h_x2
    refine b_if_ne (pc := 21) (tgt := 28) hx hb rfl  dX1_digitInRow_21 (by decide) (fun c_8 => ?_) (fun c_8 => ?_)
    ·
      refine lv_iload_n (pc := 28) hx hb dX1_digitInRow_28 rfl (lv_at hl 2 rfl) ?_
      refine lv_iload_n (pc := 29) hx hb dX1_digitInRow_29 rfl (lv_at hl 0 rfl) ?_
      refine lv_idiv (pc := 30) hx hb dX1_digitInRow_30 (fun h => by have q := congrArg Int32.toInt h; have k := tI_0; (first | omega | (unfold zBd at *; omega))) ?_
      refine lv_topi (fun x_9 _ => ?_)
      have rx_9 : zBd x_9.toInt (-2147483648) 2147483647 := n_rng x_9
      refine lv_aload_n (pc := 31) hx hb dX1_digitInRow_31 rfl (lv_at hl 1 rfl) ?_
      refine va_get (pc := 32) (ci := 1) (v := .int x2) (C := RX1) (T := TX1) (N := 10) hx hb hts iX1 hown hK hP 0 rfl rfl 3 (by decide) (hts _ tw_110) (fun _ h9 => h9) rfl dX1_digitInRow_32 ?_
      refine lv_irem (pc := 35) hx hb dX1_digitInRow_35 (fun h => by have q := congrArg Int32.toInt h; have k := tI_0; (first | omega | (unfold zBd at *; omega))) ?_
      refine lv_topi (fun x_10 _ => ?_)
      have rx_10 : zBd x_10.toInt (-2147483648) 2147483647 := n_rng x_10
      exact hret x_10 ((fun _ => 0), (fun _ => (fun _ => 0)), (fun _ => (fun _ => 0)), (fun _ => 0), (fun _ => 0)) dX1_digitInRow_36 (show ((x_10.toInt = 0) ∨ (((-2147483648) ≤ x_10.toInt ∧ x_10.toInt ≤ 2147483647) ∧ ¬ x2.toInt = 0) ∨ (x_10.toInt = 0 ∧ x2.toInt = 0)) by (first | omega | (unfold zBd at *; omega))) (g_psub (wc := [(a0, .inr (1, [.ref a1, .ref a2, .ref a3, .int x2, .int x3, .int x4, .int x5, .int x6, .int x7, .int x8]))]) hP [0] rfl) (hD.sub (ws' := [(a0, .inr (1, [.ref a1, .ref a2, .ref a3, .int x2, .int x3, .int x4, .int x5, .int x6, .int x7, .int x8]))]) [0] (by decide) rfl) hS
    ·
      refine lv_iconst (pc := 24) (v := 0) hx hb dX1_digitInRow_24 (by decide) ?_
      refine lv_goto (pc := 25) (tgt := 36) hx hb dX1_digitInRow_25 (by decide) ?_
      exact hret 0 ((fun _ => 0), (fun _ => (fun _ => 0)), (fun _ => (fun _ => 0)), (fun _ => 0), (fun _ => 0)) dX1_digitInRow_36 (show (((0 : Int32).toInt = 0) ∨ (((-2147483648) ≤ (0 : Int32).toInt ∧ (0 : Int32).toInt ≤ 2147483647) ∧ ¬ x2.toInt = 0) ∨ ((0 : Int32).toInt = 0 ∧ x2.toInt = 0)) by have k9 := tI_0; (first | omega | (unfold zBd at *; omega))) (g_psub (wc := [(a0, .inr (1, [.ref a1, .ref a2, .ref a3, .int x2, .int x3, .int x4, .int x5, .int x6, .int x7, .int x8]))]) hP [0] rfl) (hD.sub (ws' := [(a0, .inr (1, [.ref a1, .ref a2, .ref a3, .int x2, .int x3, .int x4, .int x5, .int x6, .int x7, .int x8]))]) [0] (by decide) rfl) hS
set_option maxHeartbeats 4000000 in
set_option maxRecDepth 100000 in
theorem k_X1_letterOfDigit (l : Launch) (D : va_G) (cB cC cI cJ : ClassId) (sz : Nat) (a0 a1 a2 a3 : Nat) (x0 x1 x2 x3 x4 x5 x6 x7 : Int32) (h_x1 : zBd x1.toInt (-1) 8) (h_x2 : zBd x2.toInt (-1) 5) (h_x3 : zBd x3.toInt (-1) 6) (h_x4 : zBd x4.toInt 0 6) (h_x5 : zBd x5.toInt 0 16) : Met l yX1_letterOfDigit (.code yX1_letterOfDigit cX1_letterOfDigit 2 (some .int) :: lw_gd) ({ frames := 0, cells := 0, slots := 0, locals := 0 }) (gPre D [(cB, .byte), (cC, .char), (cI, .int), (cJ, .long)] [.ref a0, .int x0] [(a0, .inr (1, [.ref a1, .ref a2, .ref a3, .int x1, .int x2, .int x3, .int x4, .int x5, .int x6, .int x7]))] sz) (va_Qi (fun r u => ((((-2147483648) ≤ r.toInt ∧ r.toInt ≤ 2147483647)))) (gB D (va_A [(a0, .inr (1, [.ref a1, .ref a2, .ref a3, .int x1, .int x2, .int x3, .int x4, .int x5, .int x6, .int x7]))] sz) (fun u : gEx => [(a0, .inr (1, [.ref a1, .ref a2, .ref a3, .int x1, .int x2, .int x3, .int x4, .int x5, .int x6, .int x7]))])) (va_A [(a0, .inr (1, [.ref a1, .ref a2, .ref a3, .int x1, .int x2, .int x3, .int x4, .int x5, .int x6, .int x7]))] sz)) 0 0 (va_A [(a0, .inr (1, [.ref a1, .ref a2, .ref a3, .int x1, .int x2, .int x3, .int x4, .int x5, .int x6, .int x7]))] sz) := by
  refine gOf_i (by decide +kernel) (Nat.le_of_ble_eq_true rfl) ?_
  intro p e s m args below meth c ls A Q hx hb hts hown hml hN hK hP hD hA hl hret
  replace hown : s.vm.findClass RX1 = some m.cls := hown
  have hS : va_S A s.heap s.heap [] := va_S.rf
  replace hP : va_P D gcl [(a0, .inr (1, [.ref a1, .ref a2, .ref a3, .int x1, .int x2, .int x3, .int x4, .int x5, .int x6, .int x7]))] s.heap := hP
  replace hl : lv_has ls 2 [(0, .ref a0), (1, .int x0)] := hl
  have rx0 : zBd x0.toInt (-2147483648) 2147483647 := n_rng x0
  have rx6 : zBd x6.toInt (-2147483648) 2147483647 := n_rng x6
  have rx7 : zBd x7.toInt (-2147483648) 2147483647 := n_rng x7
  refine lv_iconst (pc := 0) (v := 2) hx hb dX1_letterOfDigit_0 (by decide) ?_
  refine lv_iload_n (pc := 1) hx hb dX1_letterOfDigit_1 rfl (lv_at hl 1 rfl) ?_
  refine lv_imul (pc := 2) hx hb dX1_letterOfDigit_2 ?_
  refine lv_topi (fun x_1 _ => ?_)
  have rx_1 : zBd x_1.toInt (-2147483648) 2147483647 := n_rng x_1
  refine lv_aload_n (pc := 3) hx hb dX1_letterOfDigit_3 rfl (lv_at hl 0 rfl) ?_
  refine va_get (pc := 4) (ci := 1) (v := .int x1) (C := RX1) (T := TX1) (N := 10) hx hb hts iX1 hown hK hP 0 rfl rfl 3 (by decide) (hts _ tw_110) (fun _ h9 => h9) rfl dX1_letterOfDigit_4 ?_
  have bd_h_x1 : (-1) ≤ x1.toInt ∧ x1.toInt ≤ 8 := h_x1
  refine lv_iconst (pc := 7) (v := 1) hx hb dX1_letterOfDigit_7 (by decide) ?_
  refine b_isub (pc := 8) hx hb rfl tI_1 (by (first | omega | (unfold zBd at *; omega))) (by (first | omega | (unfold zBd at *; omega))) dX1_letterOfDigit_8 (fun x_2 ex_2 => ?_)
  refine lv_isub (pc := 9) hx hb dX1_letterOfDigit_9 ?_
  refine lv_topi (fun x_3 _ => ?_)
  have rx_3 : zBd x_3.toInt (-2147483648) 2147483647 := n_rng x_3
  exact hret x_3 ((fun _ => 0), (fun _ => (fun _ => 0)), (fun _ => (fun _ => 0)), (fun _ => 0), (fun _ => 0)) dX1_letterOfDigit_10 (show ((((-2147483648) ≤ x_3.toInt ∧ x_3.toInt ≤ 2147483647))) by (first | omega | (unfold zBd at *; omega))) (g_psub (wc := [(a0, .inr (1, [.ref a1, .ref a2, .ref a3, .int x1, .int x2, .int x3, .int x4, .int x5, .int x6, .int x7]))]) hP [0] rfl) (hD.sub (ws' := [(a0, .inr (1, [.ref a1, .ref a2, .ref a3, .int x1, .int x2, .int x3, .int x4, .int x5, .int x6, .int x7]))]) [0] (by decide) rfl) hS
set_option maxHeartbeats 4000000 in
set_option maxRecDepth 100000 in
theorem k_X1_letterInRow (l : Launch) (D : va_G) (cB cC cI cJ : ClassId) (sz : Nat) (a0 a1 a2 a3 : Nat) (x0 x1 x2 x3 x4 x5 x6 x7 x8 : Int32) (hp2 : (0 ≤ x1.toInt ∧ x1.toInt ≤ 4)) (h_x2 : zBd x2.toInt (-1) 8) (h_x3 : zBd x3.toInt (-1) 5) (h_x4 : zBd x4.toInt (-1) 6) (h_x5 : zBd x5.toInt 0 6) (h_x6 : zBd x6.toInt 0 16) : Met l yX1_letterInRow (.code yX1_letterInRow cX1_letterInRow 3 (some .int) :: lw_gd) ({ frames := 2, cells := 0, slots := 0, locals := 46 }) (gPre D [(cB, .byte), (cC, .char), (cI, .int), (cJ, .long)] [.ref a0, .int x0, .int x1] [(a0, .inr (1, [.ref a1, .ref a2, .ref a3, .int x2, .int x3, .int x4, .int x5, .int x6, .int x7, .int x8]))] sz) (va_Qi (fun r u => ((((-2147483648) ≤ r.toInt ∧ r.toInt ≤ 2147483647)))) (gB D (va_A [(a0, .inr (1, [.ref a1, .ref a2, .ref a3, .int x2, .int x3, .int x4, .int x5, .int x6, .int x7, .int x8]))] sz) (fun u : gEx => [(a0, .inr (1, [.ref a1, .ref a2, .ref a3, .int x2, .int x3, .int x4, .int x5, .int x6, .int x7, .int x8]))])) (va_A [(a0, .inr (1, [.ref a1, .ref a2, .ref a3, .int x2, .int x3, .int x4, .int x5, .int x6, .int x7, .int x8]))] sz)) 0 0 (va_A [(a0, .inr (1, [.ref a1, .ref a2, .ref a3, .int x2, .int x3, .int x4, .int x5, .int x6, .int x7, .int x8]))] sz) := by
  refine gOf_i (by decide +kernel) (Nat.le_of_ble_eq_true rfl) ?_
  intro p e s m args below meth c ls A Q hx hb hts hown hml hN hK hP hD hA hl hret
  replace hown : s.vm.findClass RX1 = some m.cls := hown
  have hS : va_S A s.heap s.heap [] := va_S.rf
  replace hP : va_P D gcl [(a0, .inr (1, [.ref a1, .ref a2, .ref a3, .int x2, .int x3, .int x4, .int x5, .int x6, .int x7, .int x8]))] s.heap := hP
  replace hl : lv_has ls 3 [(0, .ref a0), (1, .int x0), (2, .int x1)] := hl
  have rx0 : zBd x0.toInt (-2147483648) 2147483647 := n_rng x0
  have rx7 : zBd x7.toInt (-2147483648) 2147483647 := n_rng x7
  have rx8 : zBd x8.toInt (-2147483648) 2147483647 := n_rng x8
  refine lv_aload_n (pc := 0) hx hb dX1_letterInRow_0 rfl (lv_at hl 0 rfl) ?_
  refine lv_aload_n (pc := 1) hx hb dX1_letterInRow_1 rfl (lv_at hl 0 rfl) ?_
  refine lv_iload_n (pc := 2) hx hb dX1_letterInRow_2 rfl (lv_at hl 1 rfl) ?_
  refine lv_iload_n (pc := 3) hx hb dX1_letterInRow_3 rfl (lv_at hl 2 rfl) ?_
  refine gc_i (pc := 4) (wc := [(a0, .inr (1, [.ref a1, .ref a2, .ref a3, .int x2, .int x3, .int x4, .int x5, .int x6, .int x7, .int x8]))]) (wr := []) hP hD hS hA [0] [] rfl rfl (by decide) (by decide) (by decide) (fun hPc hDc => va_runV (As := [.int x0, .int x1]) (rest := [.ref a0]) ⟨hx, hb, hml, hown, hts⟩ (k_X1_digitInRow l D cB cC cI cJ _ a0 a1 a2 a3 x0 x1 x2 x3 x4 x5 x6 x7 x8 hp2 h_x2 h_x3 h_x4 h_x5 h_x6) ⟨gcwB hts tw_944 tw_4 tw_941 hd_yX1_digitInRow ⟨Nat.le_of_ble_eq_true rfl, Nat.le_of_ble_eq_true rfl⟩, hts _ tw_942, hts _ tw_943⟩ ⟨gblind, va_recv hK hPc (ci := 1) (q0 := 0) rfl rfl, (gpreS hPc hK hDc hN).2⟩ rfl rfl hl.1 rfl (lv_room (Nat.le_of_ble_eq_true rfl)) dX1_letterInRow_4 ⟨Nat.le_of_ble_eq_true rfl, Nat.le_of_ble_eq_true rfl⟩) (fun r_2 u_1 H locs hw_3 hP hD hS => ?_)
  replace hP : va_P D gcl [(a0, .inr (1, [.ref a1, .ref a2, .ref a3, .int x2, .int x3, .int x4, .int x5, .int x6, .int x7, .int x8]))] H := hP
  replace hD : va_D A [(a0, .inr (1, [.ref a1, .ref a2, .ref a3, .int x2, .int x3, .int x4, .int x5, .int x6, .int x7, .int x8]))] := hD
  have hw_4 : ((r_2.toInt = 0) ∨ (((-2147483648) ≤ r_2.toInt ∧ r_2.toInt ≤ 2147483647) ∧ ¬ x2.toInt = 0) ∨ (r_2.toInt = 0 ∧ x2.toInt = 0)) := hw_3
  have rr_2 : zBd r_2.toInt (-2147483648) 2147483647 := n_rng r_2
  refine gc_i (pc := 7) (wc := [(a0, .inr (1, [.ref a1, .ref a2, .ref a3, .int x2, .int x3, .int x4, .int x5, .int x6, .int x7, .int x8]))]) (wr := []) hP hD hS hA [0] [] rfl rfl (by decide) (by decide) (by decide) (fun hPc hDc => va_runV (As := [.int r_2]) (rest := []) ⟨hx, hb, hml, hown, hts⟩ (k_X1_letterOfDigit l D cB cC cI cJ _ a0 a1 a2 a3 r_2 x2 x3 x4 x5 x6 x7 x8 h_x2 h_x3 h_x4 h_x5 h_x6) ⟨gcwB hts tw_952 tw_4 tw_949 hd_yX1_letterOfDigit ⟨Nat.le_of_ble_eq_true rfl, Nat.le_of_ble_eq_true rfl⟩, hts _ tw_950, hts _ tw_951⟩ ⟨gblind, va_recv hK hPc (ci := 1) (q0 := 0) rfl rfl, (gpreS hPc hK hDc hN).2⟩ rfl rfl hl.1 rfl (lv_room (Nat.le_of_ble_eq_true rfl)) dX1_letterInRow_7 ⟨Nat.le_of_ble_eq_true rfl, Nat.le_of_ble_eq_true rfl⟩) (fun r_6 u_5 H locs hw_7 hP hD hS => ?_)
  replace hP : va_P D gcl [(a0, .inr (1, [.ref a1, .ref a2, .ref a3, .int x2, .int x3, .int x4, .int x5, .int x6, .int x7, .int x8]))] H := hP
  replace hD : va_D A [(a0, .inr (1, [.ref a1, .ref a2, .ref a3, .int x2, .int x3, .int x4, .int x5, .int x6, .int x7, .int x8]))] := hD
  have hw_8 : ((((-2147483648) ≤ r_6.toInt ∧ r_6.toInt ≤ 2147483647))) := hw_7
  have rr_6 : zBd r_6.toInt (-2147483648) 2147483647 := n_rng r_6
  exact hret r_6 ((fun _ => 0), (fun _ => (fun _ => 0)), (fun _ => (fun _ => 0)), (fun _ => 0), (fun _ => 0)) dX1_letterInRow_10 (show ((((-2147483648) ≤ r_6.toInt ∧ r_6.toInt ≤ 2147483647))) from hw_8) (g_psub (wc := [(a0, .inr (1, [.ref a1, .ref a2, .ref a3, .int x2, .int x3, .int x4, .int x5, .int x6, .int x7, .int x8]))]) hP [0] rfl) (hD.sub (ws' := [(a0, .inr (1, [.ref a1, .ref a2, .ref a3, .int x2, .int x3, .int x4, .int x5, .int x6, .int x7, .int x8]))]) [0] (by decide) rfl) hS
set_option maxHeartbeats 4000000 in
set_option maxRecDepth 100000 in
theorem k_X1_rowCount (l : Launch) (D : va_G) (cB cC cI cJ : ClassId) (sz : Nat) (a0 a1 a2 a3 : Nat) (x0 x1 x2 x3 x4 x5 x6 : Int32) (h_x0 : zBd x0.toInt (-1) 8) (h_x1 : zBd x1.toInt (-1) 5) (h_x2 : zBd x2.toInt (-1) 6) (h_x3 : zBd x3.toInt 0 6) (h_x4 : zBd x4.toInt 0 16) : Met l yX1_rowCount (.code yX1_rowCount cX1_rowCount 1 (some .int) :: lw_gd) ({ frames := 1, cells := 0, slots := 0, locals := 23 }) (gPre D [(cB, .byte), (cC, .char), (cI, .int), (cJ, .long)] [.ref a0] [(a0, .inr (1, [.ref a1, .ref a2, .ref a3, .int x0, .int x1, .int x2, .int x3, .int x4, .int x5, .int x6]))] sz) (va_Qi (fun r u => ((((-2147483648) ≤ r.toInt ∧ r.toInt ≤ 2147483647) ∧ ¬ x1.toInt = 0) ∨ (r.toInt = 0 ∧ x1.toInt = 0))) (gB D (va_A [(a0, .inr (1, [.ref a1, .ref a2, .ref a3, .int x0, .int x1, .int x2, .int x3, .int x4, .int x5, .int x6]))] sz) (fun u : gEx => [(a0, .inr (1, [.ref a1, .ref a2, .ref a3, .int x0, .int x1, .int x2, .int x3, .int x4, .int x5, .int x6]))])) (va_A [(a0, .inr (1, [.ref a1, .ref a2, .ref a3, .int x0, .int x1, .int x2, .int x3, .int x4, .int x5, .int x6]))] sz)) 0 0 (va_A [(a0, .inr (1, [.ref a1, .ref a2, .ref a3, .int x0, .int x1, .int x2, .int x3, .int x4, .int x5, .int x6]))] sz) := by
  refine gOf_i (by decide +kernel) (Nat.le_of_ble_eq_true rfl) ?_
  intro p e s m args below meth c ls A Q hx hb hts hown hml hN hK hP hD hA hl hret
  replace hown : s.vm.findClass RX1 = some m.cls := hown
  have hS : va_S A s.heap s.heap [] := va_S.rf
  replace hP : va_P D gcl [(a0, .inr (1, [.ref a1, .ref a2, .ref a3, .int x0, .int x1, .int x2, .int x3, .int x4, .int x5, .int x6]))] s.heap := hP
  replace hl : lv_has ls 1 [(0, .ref a0)] := hl
  have rx5 : zBd x5.toInt (-2147483648) 2147483647 := n_rng x5
  have rx6 : zBd x6.toInt (-2147483648) 2147483647 := n_rng x6
  refine lv_aload_n (pc := 0) hx hb dX1_rowCount_0 rfl (lv_at hl 0 rfl) ?_
  refine va_get (pc := 1) (ci := 1) (v := .int x1) (C := RX1) (T := TX1) (N := 10) hx hb hts iX1 hown hK hP 0 rfl rfl 4 (by decide) (hts _ tw_116) (fun _ h9 => h9) rfl dX1_rowCount_1 ?_
  have bd_h_x1 : (-1) ≤ x1.toInt ∧ x1.toInt ≤ 5 := h_x1
  refine b_if_ne (pc := 4) (tgt := 11) hx hb rfl  dX1_rowCount_4 (by decide) (fun c_1 => ?_) (fun c_1 => ?_)
  ·
    refine lv_aload_n (pc := 11) hx hb dX1_rowCount_11 rfl (lv_at hl 0 rfl) ?_
    refine lv_aload_n (pc := 12) hx hb dX1_rowCount_12 rfl (lv_at hl 0 rfl) ?_
    refine va_get (pc := 13) (ci := 1) (v := .int x1) (C := RX1) (T := TX1) (N := 10) hx hb hts iX1 hown hK hP 0 rfl rfl 4 (by decide) (hts _ tw_116) (fun _ h9 => h9) rfl dX1_rowCount_13 ?_
    refine gc_i (pc := 16) (wc := [(a0, .inr (1, [.ref a1, .ref a2, .ref a3, .int x0, .int x1, .int x2, .int x3, .int x4, .int x5, .int x6]))]) (wr := []) hP hD hS hA [0] [] rfl rfl (by decide) (by decide) (by decide) (fun hPc hDc => va_runV (As := [.int x1]) (rest := []) ⟨hx, hb, hml, hown, hts⟩ (k_X1_rowsOf l D cB cC cI cJ _ a0 a1 a2 a3 x1 x0 x1 x2 x3 x4 x5 x6 h_x0 h_x1 h_x2 h_x3 h_x4) ⟨gcwB hts tw_948 tw_4 tw_945 hd_yX1_rowsOf ⟨Nat.le_of_ble_eq_true rfl, Nat.le_of_ble_eq_true rfl⟩, hts _ tw_946, hts _ tw_947⟩ ⟨gblind, va_recv hK hPc (ci := 1) (q0 := 0) rfl rfl, (gpreS hPc hK hDc hN).2⟩ rfl rfl hl.1 rfl (lv_room (Nat.le_of_ble_eq_true rfl)) dX1_rowCount_16 ⟨Nat.le_of_ble_eq_true rfl, Nat.le_of_ble_eq_true rfl⟩) (fun r_3 u_2 H locs hw_4 hP hD hS => ?_)
    replace hP : va_P D gcl [(a0, .inr (1, [.ref a1, .ref a2, .ref a3, .int x0, .int x1, .int x2, .int x3, .int x4, .int x5, .int x6]))] H := hP
    replace hD : va_D A [(a0, .inr (1, [.ref a1, .ref a2, .ref a3, .int x0, .int x1, .int x2, .int x3, .int x4, .int x5, .int x6]))] := hD
    have hw_5 : ((((-2147483648) ≤ r_3.toInt ∧ r_3.toInt ≤ 2147483647) ∧ ((-2147483648) ≤ x1.toInt ∧ x1.toInt ≤ 2147483647))) := hw_4
    have rr_3 : zBd r_3.toInt (-2147483648) 2147483647 := n_rng r_3
    exact hret r_3 ((fun _ => 0), (fun _ => (fun _ => 0)), (fun _ => (fun _ => 0)), (fun _ => 0), (fun _ => 0)) dX1_rowCount_19 (show ((((-2147483648) ≤ r_3.toInt ∧ r_3.toInt ≤ 2147483647) ∧ ¬ x1.toInt = 0) ∨ (r_3.toInt = 0 ∧ x1.toInt = 0)) by (first | omega | (unfold zBd at *; omega))) (g_psub (wc := [(a0, .inr (1, [.ref a1, .ref a2, .ref a3, .int x0, .int x1, .int x2, .int x3, .int x4, .int x5, .int x6]))]) hP [0] rfl) (hD.sub (ws' := [(a0, .inr (1, [.ref a1, .ref a2, .ref a3, .int x0, .int x1, .int x2, .int x3, .int x4, .int x5, .int x6]))]) [0] (by decide) rfl) hS
  ·
    refine lv_iconst (pc := 7) (v := 0) hx hb dX1_rowCount_7 (by decide) ?_
    refine lv_goto (pc := 8) (tgt := 19) hx hb dX1_rowCount_8 (by decide) ?_
    exact hret 0 ((fun _ => 0), (fun _ => (fun _ => 0)), (fun _ => (fun _ => 0)), (fun _ => 0), (fun _ => 0)) dX1_rowCount_19 (show ((((-2147483648) ≤ (0 : Int32).toInt ∧ (0 : Int32).toInt ≤ 2147483647) ∧ ¬ x1.toInt = 0) ∨ ((0 : Int32).toInt = 0 ∧ x1.toInt = 0)) by have k9 := tI_0; (first | omega | (unfold zBd at *; omega))) (g_psub (wc := [(a0, .inr (1, [.ref a1, .ref a2, .ref a3, .int x0, .int x1, .int x2, .int x3, .int x4, .int x5, .int x6]))]) hP [0] rfl) (hD.sub (ws' := [(a0, .inr (1, [.ref a1, .ref a2, .ref a3, .int x0, .int x1, .int x2, .int x3, .int x4, .int x5, .int x6]))]) [0] (by decide) rfl) hS
set_option maxHeartbeats 4000000 in
set_option maxRecDepth 100000 in
theorem k_X1_digitOfLetter (l : Launch) (D : va_G) (cB cC cI cJ : ClassId) (sz : Nat) (a0 a1 a2 a3 : Nat) (x0 x1 x2 x3 x4 x5 x6 x7 : Int32) (h_x1 : zBd x1.toInt (-1) 8) (h_x2 : zBd x2.toInt (-1) 5) (h_x3 : zBd x3.toInt (-1) 6) (h_x4 : zBd x4.toInt 0 6) (h_x5 : zBd x5.toInt 0 16) : Met l yX1_digitOfLetter (.code yX1_digitOfLetter cX1_digitOfLetter 2 (some .int) :: lw_gd) ({ frames := 0, cells := 0, slots := 0, locals := 0 }) (gPre D [(cB, .byte), (cC, .char), (cI, .int), (cJ, .long)] [.ref a0, .int x0] [(a0, .inr (1, [.ref a1, .ref a2, .ref a3, .int x1, .int x2, .int x3, .int x4, .int x5, .int x6, .int x7]))] sz) (va_Qi (fun r u => (((0 ≤ r.toInt ∧ r.toInt ≤ 7) ∧ (-x1.toInt < x0.toInt ∧ x0.toInt < x1.toInt)) ∨ (((-2147483648) ≤ r.toInt ∧ r.toInt ≤ 2147483647) ∧ ¬ (-x1.toInt < x0.toInt ∧ x0.toInt < x1.toInt)))) (gB D (va_A [(a0, .inr (1, [.ref a1, .ref a2, .ref a3, .int x1, .int x2, .int x3, .int x4, .int x5, .int x6, .int x7]))] sz) (fun u : gEx => [(a0, .inr (1, [.ref a1, .ref a2, .ref a3, .int x1, .int x2, .int x3, .int x4, .int x5, .int x6, .int x7]))])) (va_A [(a0, .inr (1, [.ref a1, .ref a2, .ref a3, .int x1, .int x2, .int x3, .int x4, .int x5, .int x6, .int x7]))] sz)) 0 0 (va_A [(a0, .inr (1, [.ref a1, .ref a2, .ref a3, .int x1, .int x2, .int x3, .int x4, .int x5, .int x6, .int x7]))] sz) := by
  refine gOf_i (by decide +kernel) (Nat.le_of_ble_eq_true rfl) ?_
  intro p e s m args below meth c ls A Q hx hb hts hown hml hN hK hP hD hA hl hret
  replace hown : s.vm.findClass RX1 = some m.cls := hown
  have hS : va_S A s.heap s.heap [] := va_S.rf
  replace hP : va_P D gcl [(a0, .inr (1, [.ref a1, .ref a2, .ref a3, .int x1, .int x2, .int x3, .int x4, .int x5, .int x6, .int x7]))] s.heap := hP
  replace hl : lv_has ls 2 [(0, .ref a0), (1, .int x0)] := hl
  have rx0 : zBd x0.toInt (-2147483648) 2147483647 := n_rng x0
  have rx6 : zBd x6.toInt (-2147483648) 2147483647 := n_rng x6
  have rx7 : zBd x7.toInt (-2147483648) 2147483647 := n_rng x7
  by_cases hgh : (-x1.toInt < x0.toInt ∧ x0.toInt < x1.toInt)
  ·
    refine lv_iload_n (pc := 0) hx hb dX1_digitOfLetter_0 rfl (lv_at hl 1 rfl) ?_
    refine lv_aload_n (pc := 1) hx hb dX1_digitOfLetter_1 rfl (lv_at hl 0 rfl) ?_
    refine va_get (pc := 2) (ci := 1) (v := .int x1) (C := RX1) (T := TX1) (N := 10) hx hb hts iX1 hown hK hP 0 rfl rfl 3 (by decide) (hts _ tw_110) (fun _ h9 => h9) rfl dX1_digitOfLetter_2 ?_
    have bd_h_x1 : (-1) ≤ x1.toInt ∧ x1.toInt ≤ 8 := h_x1
    refine b_iadd (pc := 5) hx hb rfl rfl (by (first | omega | (unfold zBd at *; omega))) (by (first | omega | (unfold zBd at *; omega))) dX1_digitOfLetter_5 (fun x_1 ex_1 => ?_)
    refine lv_iconst (pc := 6) (v := 1) hx hb dX1_digitOfLetter_6 (by decide) ?_
    refine b_isub (pc := 7) hx hb rfl tI_1 (by (first | omega | (unfold zBd at *; omega))) (by (first | omega | (unfold zBd at *; omega))) dX1_digitOfLetter_7 (fun x_2 ex_2 => ?_)
    refine lv_iconst (pc := 8) (v := 2) hx hb dX1_digitOfLetter_8 (by decide) ?_
    refine b_idiv (pc := 9) hx hb rfl tI_2 (by (first | omega | (unfold zBd at *; omega))) (by (first | omega | (unfold zBd at *; omega))) dX1_digitOfLetter_9 (fun x_3 ex_3 => ?_)
    have rx_3 : (0 ≤ x_3.toInt ∧ x_3.toInt ≤ 7) := by (first | omega | (unfold zBd at *; omega))
    exact hret x_3 ((fun _ => 0), (fun _ => (fun _ => 0)), (fun _ => (fun _ => 0)), (fun _ => 0), (fun _ => 0)) dX1_digitOfLetter_10 (show (((0 ≤ x_3.toInt ∧ x_3.toInt ≤ 7) ∧ (-x1.toInt < x0.toInt ∧ x0.toInt < x1.toInt)) ∨ (((-2147483648) ≤ x_3.toInt ∧ x_3.toInt ≤ 2147483647) ∧ ¬ (-x1.toInt < x0.toInt ∧ x0.toInt < x1.toInt))) by (first | omega | (unfold zBd at *; omega))) (g_psub (wc := [(a0, .inr (1, [.ref a1, .ref a2, .ref a3, .int x1, .int x2, .int x3, .int x4, .int x5, .int x6, .int x7]))]) hP [0] rfl) (hD.sub (ws' := [(a0, .inr (1, [.ref a1, .ref a2, .ref a3, .int x1, .int x2, .int x3, .int x4, .int x5, .int x6, .int x7]))]) [0] (by decide) rfl) hS
  ·
    refine lv_iload_n (pc := 0) hx hb dX1_digitOfLetter_0 rfl (lv_at hl 1 rfl) ?_
    refine lv_aload_n (pc := 1) hx hb dX1_digitOfLetter_1 rfl (lv_at hl 0 rfl) ?_
    refine va_get (pc := 2) (ci := 1) (v := .int x1) (C := RX1) (T := TX1) (N := 10) hx hb hts iX1 hown hK hP 0 rfl rfl 3 (by decide) (hts _ tw_110) (fun _ h9 => h9) rfl dX1_digitOfLetter_2 ?_
    have bd_h_x1 : (-1) ≤ x1.toInt ∧ x1.toInt ≤ 8 := h_x1
    refine lv_iadd (pc := 5) hx hb dX1_digitOfLetter_5 ?_
    refine lv_topi (fun x_4 _ => ?_)
    have rx_4 : zBd x_4.toInt (-2147483648) 2147483647 := n_rng x_4
    refine lv_iconst (pc := 6) (v := 1) hx hb dX1_digitOfLetter_6 (by decide) ?_
    refine lv_isub (pc := 7) hx hb dX1_digitOfLetter_7 ?_
    refine lv_topi (fun x_5 _ => ?_)
    have rx_5 : zBd x_5.toInt (-2147483648) 2147483647 := n_rng x_5
    refine lv_iconst (pc := 8) (v := 2) hx hb dX1_digitOfLetter_8 (by decide) ?_
    refine lv_idiv (pc := 9) hx hb dX1_digitOfLetter_9 (fun h => by have q := congrArg Int32.toInt h; have k := tI_0; have k2 := tI_2; (first | omega | (unfold zBd at *; omega))) ?_
    refine lv_topi (fun x_6 _ => ?_)
    have rx_6 : zBd x_6.toInt (-2147483648) 2147483647 := n_rng x_6
    exact hret x_6 ((fun _ => 0), (fun _ => (fun _ => 0)), (fun _ => (fun _ => 0)), (fun _ => 0), (fun _ => 0)) dX1_digitOfLetter_10 (show (((0 ≤ x_6.toInt ∧ x_6.toInt ≤ 7) ∧ (-x1.toInt < x0.toInt ∧ x0.toInt < x1.toInt)) ∨ (((-2147483648) ≤ x_6.toInt ∧ x_6.toInt ≤ 2147483647) ∧ ¬ (-x1.toInt < x0.toInt ∧ x0.toInt < x1.toInt))) by (first | omega | (unfold zBd at *; omega))) (g_psub (wc := [(a0, .inr (1, [.ref a1, .ref a2, .ref a3, .int x1, .int x2, .int x3, .int x4, .int x5, .int x6, .int x7]))]) hP [0] rfl) (hD.sub (ws' := [(a0, .inr (1, [.ref a1, .ref a2, .ref a3, .int x1, .int x2, .int x3, .int x4, .int x5, .int x6, .int x7]))]) [0] (by decide) rfl) hS
