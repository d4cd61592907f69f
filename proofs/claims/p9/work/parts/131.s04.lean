set_option maxHeartbeats 4000000 in
set_option maxRecDepth 100000 in
theorem k_X1_isSenderSet (l : Launch) (D : va_G) (cB cC cI cJ : ClassId) (sz : Nat) (a0 a1 a2 a3 : Nat) (x0 x1 x2 x3 x4 x5 x6 x7 : Int32) (h_x1 : zBd x1.toInt (-1) 8) (h_x2 : zBd x2.toInt (-1) 5) (h_x3 : zBd x3.toInt (-1) 6) (h_x4 : zBd x4.toInt 0 6) (h_x5 : zBd x5.toInt 0 16) : Met l yX1_isSenderSet (.code yX1_isSenderSet cX1_isSenderSet 2 (some .boolean) :: lw_gd) ({ frames := 0, cells := 0, slots := 0, locals := 0 }) (gPre D [(cB, .byte), (cC, .char), (cI, .int), (cJ, .long)] [.ref a0, .int x0] [(a0, .inr (1, [.ref a1, .ref a2, .ref a3, .int x1, .int x2, .int x3, .int x4, .int x5, .int x6, .int x7]))] sz) (va_Qi (fun r u => ((r.toInt = 0 ∧ x0.toInt ≤ 0) ∨ (r.toInt = 0 ∧ x0.toInt > 0 ∧ (1 ≤ x0.toInt ∧ x0.toInt ≤ 2147483647)) ∨ (r.toInt = 1 ∧ x0.toInt > 0 ∧ (1 ≤ x0.toInt ∧ x0.toInt ≤ 31)))) (gB D (va_A [(a0, .inr (1, [.ref a1, .ref a2, .ref a3, .int x1, .int x2, .int x3, .int x4, .int x5, .int x6, .int x7]))] sz) (fun u : gEx => [(a0, .inr (1, [.ref a1, .ref a2, .ref a3, .int x1, .int x2, .int x3, .int x4, .int x5, .int x6, .int x7]))])) (va_A [(a0, .inr (1, [.ref a1, .ref a2, .ref a3, .int x1, .int x2, .int x3, .int x4, .int x5, .int x6, .int x7]))] sz)) 0 0 (va_A [(a0, .inr (1, [.ref a1, .ref a2, .ref a3, .int x1, .int x2, .int x3, .int x4, .int x5, .int x6, .int x7]))] sz) := by
  refine gOf_z (by decide +kernel) (Nat.le_of_ble_eq_true rfl) ?_
  intro p e s m args below meth c ls A Q hx hb hts hown hml hN hK hP hD hA hl hret
  replace hown : s.vm.findClass RX1 = some m.cls := hown
  have hS : va_S A s.heap s.heap [] := va_S.rf
  replace hP : va_P D gcl [(a0, .inr (1, [.ref a1, .ref a2, .ref a3, .int x1, .int x2, .int x3, .int x4, .int x5, .int x6, .int x7]))] s.heap := hP
  replace hl : lv_has ls 2 [(0, .ref a0), (1, .int x0)] := hl
  have rx0 : zBd x0.toInt (-2147483648) 2147483647 := n_rng x0
  have rx6 : zBd x6.toInt (-2147483648) 2147483647 := n_rng x6
  have rx7 : zBd x7.toInt (-2147483648) 2147483647 := n_rng x7
  refine lv_iload_n (pc := 0) hx hb dX1_isSenderSet_0 rfl (lv_at hl 1 rfl) ?_
  refine b_if_le (pc := 1) (tgt := 18) hx hb rfl  dX1_isSenderSet_1 (by decide) (fun c_1 => ?_) (fun c_1 => ?_)
  ·
    refine lv_iconst (pc := 18) (v := 0) hx hb dX1_isSenderSet_18 (by decide) ?_
    exact hret 0 ((fun _ => 0), (fun _ => (fun _ => 0)), (fun _ => (fun _ => 0)), (fun _ => 0), (fun _ => 0)) dX1_isSenderSet_19 ⟨(by have k9 := tI_0; (first | omega | (unfold zBd at *; omega))), (show (((0 : Int32).toInt = 0 ∧ x0.toInt ≤ 0) ∨ ((0 : Int32).toInt = 0 ∧ x0.toInt > 0 ∧ (1 ≤ x0.toInt ∧ x0.toInt ≤ 2147483647)) ∨ ((0 : Int32).toInt = 1 ∧ x0.toInt > 0 ∧ (1 ≤ x0.toInt ∧ x0.toInt ≤ 31))) by have k9 := tI_0; (first | omega | (unfold zBd at *; omega)))⟩ (g_psub (wc := [(a0, .inr (1, [.ref a1, .ref a2, .ref a3, .int x1, .int x2, .int x3, .int x4, .int x5, .int x6, .int x7]))]) hP [0] rfl) (hD.sub (ws' := [(a0, .inr (1, [.ref a1, .ref a2, .ref a3, .int x1, .int x2, .int x3, .int x4, .int x5, .int x6, .int x7]))]) [0] (by decide) rfl) hS
  ·
    refine lv_iload_n (pc := 4) hx hb dX1_isSenderSet_4 rfl (lv_at hl 1 rfl) ?_
    refine lv_iconst (pc := 5) (v := 1) hx hb dX1_isSenderSet_5 (by decide) ?_
    refine lv_aload_n (pc := 6) hx hb dX1_isSenderSet_6 rfl (lv_at hl 0 rfl) ?_
    refine va_get (pc := 7) (ci := 1) (v := .int x2) (C := RX1) (T := TX1) (N := 10) hx hb hts iX1 hown hK hP 0 rfl rfl 4 (by decide) (hts _ tw_116) (fun _ h9 => h9) rfl dX1_isSenderSet_7 ?_
    have bd_h_x2 : (-1) ≤ x2.toInt ∧ x2.toInt ≤ 5 := h_x2
    refine b_shl1 (pc := 10) hx hb rfl (by (first | omega | (unfold zBd at *; omega))) (by (first | omega | (unfold zBd at *; omega))) dX1_isSenderSet_10 (fun x_2 ex_2 => ?_)
    have rx_2 : zBd x_2.toInt (-2147483648) 2147483647 := n_rng x_2
    refine b_icmp_ge (pc := 11) (tgt := 18) hx hb rfl rfl  dX1_isSenderSet_11 (by decide) (fun c_3 => ?_) (fun c_3 => ?_)
    ·
      refine lv_iconst (pc := 18) (v := 0) hx hb dX1_isSenderSet_18 (by decide) ?_
      exact hret 0 ((fun _ => 0), (fun _ => (fun _ => 0)), (fun _ => (fun _ => 0)), (fun _ => 0), (fun _ => 0)) dX1_isSenderSet_19 ⟨(by have k9 := tI_0; (first | omega | (unfold zBd at *; omega))), (show (((0 : Int32).toInt = 0 ∧ x0.toInt ≤ 0) ∨ ((0 : Int32).toInt = 0 ∧ x0.toInt > 0 ∧ (1 ≤ x0.toInt ∧ x0.toInt ≤ 2147483647)) ∨ ((0 : Int32).toInt = 1 ∧ x0.toInt > 0 ∧ (1 ≤ x0.toInt ∧ x0.toInt ≤ 31))) by have k9 := tI_0; (first | omega | (unfold zBd at *; omega)))⟩ (g_psub (wc := [(a0, .inr (1, [.ref a1, .ref a2, .ref a3, .int x1, .int x2, .int x3, .int x4, .int x5, .int x6, .int x7]))]) hP [0] rfl) (hD.sub (ws' := [(a0, .inr (1, [.ref a1, .ref a2, .ref a3, .int x1, .int x2, .int x3, .int x4, .int x5, .int x6, .int x7]))]) [0] (by decide) rfl) hS
    ·
      refine lv_iconst (pc := 14) (v := 1) hx hb dX1_isSenderSet_14 (by decide) ?_
      refine lv_goto (pc := 15) (tgt := 19) hx hb dX1_isSenderSet_15 (by decide) ?_
      exact hret 1 ((fun _ => 0), (fun _ => (fun _ => 0)), (fun _ => (fun _ => 0)), (fun _ => 0), (fun _ => 0)) dX1_isSenderSet_19 ⟨(by have k9 := tI_1; (first | omega | (unfold zBd at *; omega))), (show (((1 : Int32).toInt = 0 ∧ x0.toInt ≤ 0) ∨ ((1 : Int32).toInt = 0 ∧ x0.toInt > 0 ∧ (1 ≤ x0.toInt ∧ x0.toInt ≤ 2147483647)) ∨ ((1 : Int32).toInt = 1 ∧ x0.toInt > 0 ∧ (1 ≤ x0.toInt ∧ x0.toInt ≤ 31))) by have k9 := tI_1; (first | omega | (unfold zBd at *; omega)))⟩ (g_psub (wc := [(a0, .inr (1, [.ref a1, .ref a2, .ref a3, .int x1, .int x2, .int x3, .int x4, .int x5, .int x6, .int x7]))]) hP [0] rfl) (hD.sub (ws' := [(a0, .inr (1, [.ref a1, .ref a2, .ref a3, .int x1, .int x2, .int x3, .int x4, .int x5, .int x6, .int x7]))]) [0] (by decide) rfl) hS
set_option maxHeartbeats 4000000 in
set_option maxRecDepth 100000 in
theorem k_X1_isWord (l : Launch) (D : va_G) (cB cC cI cJ : ClassId) (sz : Nat) (a0 a1 a2 a3 : Nat) (x0 x1 x2 x3 x4 x5 x6 x7 : Int32) (h_x1 : zBd x1.toInt (-1) 8) (h_x2 : zBd x2.toInt (-1) 5) (h_x3 : zBd x3.toInt (-1) 6) (h_x4 : zBd x4.toInt 0 6) (h_x5 : zBd x5.toInt 0 16) : Met l yX1_isWord (.code yX1_isWord cX1_isWord 2 (some .boolean) :: lw_gd) ({ frames := 0, cells := 0, slots := 0, locals := 0 }) (gPre D [(cB, .byte), (cC, .char), (cI, .int), (cJ, .long)] [.ref a0, .int x0] [(a0, .inr (1, [.ref a1, .ref a2, .ref a3, .int x1, .int x2, .int x3, .int x4, .int x5, .int x6, .int x7]))] sz) (va_Qi (fun r u => ((r.toInt = 0 ∧ x0.toInt < 0) ∨ (r.toInt = 0 ∧ x0.toInt ≥ 0 ∧ x0.toInt ≥ x5.toInt) ∨ (r.toInt = 1 ∧ x0.toInt ≥ 0 ∧ x0.toInt < x5.toInt))) (gB D (va_A [(a0, .inr (1, [.ref a1, .ref a2, .ref a3, .int x1, .int x2, .int x3, .int x4, .int x5, .int x6, .int x7]))] sz) (fun u : gEx => [(a0, .inr (1, [.ref a1, .ref a2, .ref a3, .int x1, .int x2, .int x3, .int x4, .int x5, .int x6, .int x7]))])) (va_A [(a0, .inr (1, [.ref a1, .ref a2, .ref a3, .int x1, .int x2, .int x3, .int x4, .int x5, .int x6, .int x7]))] sz)) 0 0 (va_A [(a0, .inr (1, [.ref a1, .ref a2, .ref a3, .int x1, .int x2, .int x3, .int x4, .int x5, .int x6, .int x7]))] sz) := by
  refine gOf_z (by decide +kernel) (Nat.le_of_ble_eq_true rfl) ?_
  intro p e s m args below meth c ls A Q hx hb hts hown hml hN hK hP hD hA hl hret
  replace hown : s.vm.findClass RX1 = some m.cls := hown
  have hS : va_S A s.heap s.heap [] := va_S.rf
  replace hP : va_P D gcl [(a0, .inr (1, [.ref a1, .ref a2, .ref a3, .int x1, .int x2, .int x3, .int x4, .int x5, .int x6, .int x7]))] s.heap := hP
  replace hl : lv_has ls 2 [(0, .ref a0), (1, .int x0)] := hl
  have rx0 : zBd x0.toInt (-2147483648) 2147483647 := n_rng x0
  have rx6 : zBd x6.toInt (-2147483648) 2147483647 := n_rng x6
  have rx7 : zBd x7.toInt (-2147483648) 2147483647 := n_rng x7
  refine lv_iload_n (pc := 0) hx hb dX1_isWord_0 rfl (lv_at hl 1 rfl) ?_
  refine b_if_lt (pc := 1) (tgt := 16) hx hb rfl  dX1_isWord_1 (by decide) (fun c_1 => ?_) (fun c_1 => ?_)
  ·
    refine lv_iconst (pc := 16) (v := 0) hx hb dX1_isWord_16 (by decide) ?_
    exact hret 0 ((fun _ => 0), (fun _ => (fun _ => 0)), (fun _ => (fun _ => 0)), (fun _ => 0), (fun _ => 0)) dX1_isWord_17 ⟨(by have k9 := tI_0; (first | omega | (unfold zBd at *; omega))), (show (((0 : Int32).toInt = 0 ∧ x0.toInt < 0) ∨ ((0 : Int32).toInt = 0 ∧ x0.toInt ≥ 0 ∧ x0.toInt ≥ x5.toInt) ∨ ((0 : Int32).toInt = 1 ∧ x0.toInt ≥ 0 ∧ x0.toInt < x5.toInt)) by have k9 := tI_0; (first | omega | (unfold zBd at *; omega)))⟩ (g_psub (wc := [(a0, .inr (1, [.ref a1, .ref a2, .ref a3, .int x1, .int x2, .int x3, .int x4, .int x5, .int x6, .int x7]))]) hP [0] rfl) (hD.sub (ws' := [(a0, .inr (1, [.ref a1, .ref a2, .ref a3, .int x1, .int x2, .int x3, .int x4, .int x5, .int x6, .int x7]))]) [0] (by decide) rfl) hS
  ·
    refine lv_iload_n (pc := 4) hx hb dX1_isWord_4 rfl (lv_at hl 1 rfl) ?_
    refine lv_aload_n (pc := 5) hx hb dX1_isWord_5 rfl (lv_at hl 0 rfl) ?_
    refine va_get (pc := 6) (ci := 1) (v := .int x5) (C := RX1) (T := TX1) (N := 10) hx hb hts iX1 hown hK hP 0 rfl rfl 7 (by decide) (hts _ tw_135) (fun _ h9 => h9) rfl dX1_isWord_6 ?_
    have bd_h_x5 : 0 ≤ x5.toInt ∧ x5.toInt ≤ 16 := h_x5
    refine b_icmp_ge (pc := 9) (tgt := 16) hx hb rfl rfl  dX1_isWord_9 (by decide) (fun c_2 => ?_) (fun c_2 => ?_)
    ·
      refine lv_iconst (pc := 16) (v := 0) hx hb dX1_isWord_16 (by decide) ?_
      exact hret 0 ((fun _ => 0), (fun _ => (fun _ => 0)), (fun _ => (fun _ => 0)), (fun _ => 0), (fun _ => 0)) dX1_isWord_17 ⟨(by have k9 := tI_0; (first | omega | (unfold zBd at *; omega))), (show (((0 : Int32).toInt = 0 ∧ x0.toInt < 0) ∨ ((0 : Int32).toInt = 0 ∧ x0.toInt ≥ 0 ∧ x0.toInt ≥ x5.toInt) ∨ ((0 : Int32).toInt = 1 ∧ x0.toInt ≥ 0 ∧ x0.toInt < x5.toInt)) by have k9 := tI_0; (first | omega | (unfold zBd at *; omega)))⟩ (g_psub (wc := [(a0, .inr (1, [.ref a1, .ref a2, .ref a3, .int x1, .int x2, .int x3, .int x4, .int x5, .int x6, .int x7]))]) hP [0] rfl) (hD.sub (ws' := [(a0, .inr (1, [.ref a1, .ref a2, .ref a3, .int x1, .int x2, .int x3, .int x4, .int x5, .int x6, .int x7]))]) [0] (by decide) rfl) hS
    ·
      refine lv_iconst (pc := 12) (v := 1) hx hb dX1_isWord_12 (by decide) ?_
      refine lv_goto (pc := 13) (tgt := 17) hx hb dX1_isWord_13 (by decide) ?_
      exact hret 1 ((fun _ => 0), (fun _ => (fun _ => 0)), (fun _ => (fun _ => 0)), (fun _ => 0), (fun _ => 0)) dX1_isWord_17 ⟨(by have k9 := tI_1; (first | omega | (unfold zBd at *; omega))), (show (((1 : Int32).toInt = 0 ∧ x0.toInt < 0) ∨ ((1 : Int32).toInt = 0 ∧ x0.toInt ≥ 0 ∧ x0.toInt ≥ x5.toInt) ∨ ((1 : Int32).toInt = 1 ∧ x0.toInt ≥ 0 ∧ x0.toInt < x5.toInt)) by have k9 := tI_1; (first | omega | (unfold zBd at *; omega)))⟩ (g_psub (wc := [(a0, .inr (1, [.ref a1, .ref a2, .ref a3, .int x1, .int x2, .int x3, .int x4, .int x5, .int x6, .int x7]))]) hP [0] rfl) (hD.sub (ws' := [(a0, .inr (1, [.ref a1, .ref a2, .ref a3, .int x1, .int x2, .int x3, .int x4, .int x5, .int x6, .int x7]))]) [0] (by decide) rfl) hS
set_option maxHeartbeats 4000000 in
set_option maxRecDepth 100000 in
theorem k_X1_letterOfWord (l : Launch) (D : va_G) (cB cC cI cJ : ClassId) (sz : Nat) (a0 a1 a2 a3 : Nat) (x0 x1 x2 x3 x4 x5 x6 x7 x8 : Int32) (f0 : Nat → Int32) (hp1 : (0 ≤ x0.toInt ∧ x0.toInt ≤ 15)) (hp2 : (0 ≤ x1.toInt ∧ x1.toInt ≤ 4)) (h_x2 : zBd x2.toInt (-1) 8) (h_x3 : zBd x3.toInt (-1) 5) (h_x4 : zBd x4.toInt (-1) 6) (h_x5 : zBd x5.toInt 0 6) (h_x6 : zBd x6.toInt 0 16) (hf_f0 : (∀ j, (-7) ≤ (f0 j).toInt ∧ (f0 j).toInt ≤ 7)) : Met l yX1_letterOfWord (.code yX1_letterOfWord cX1_letterOfWord 3 (some .int) :: lw_gd) ({ frames := 0, cells := 0, slots := 0, locals := 0 }) (gPre D [(cB, .byte), (cC, .char), (cI, .int), (cJ, .long)] [.ref a0, .int x0, .int x1] [(a0, .inr (1, [.ref a1, .ref a2, .ref a3, .int x2, .int x3, .int x4, .int x5, .int x6, .int x7, .int x8])), (a3, .inl (cI, 80, .inl f0))] sz) (va_Qi (fun r u => ((((-7) ≤ r.toInt ∧ r.toInt ≤ 7)))) (gB D (va_A [(a0, .inr (1, [.ref a1, .ref a2, .ref a3, .int x2, .int x3, .int x4, .int x5, .int x6, .int x7, .int x8])), (a3, .inl (cI, 80, .inl f0))] sz) (fun u : gEx => [(a0, .inr (1, [.ref a1, .ref a2, .ref a3, .int x2, .int x3, .int x4, .int x5, .int x6, .int x7, .int x8])), (a3, .inl (cI, 80, .inl f0))])) (va_A [(a0, .inr (1, [.ref a1, .ref a2, .ref a3, .int x2, .int x3, .int x4, .int x5, .int x6, .int x7, .int x8])), (a3, .inl (cI, 80, .inl f0))] sz)) 0 0 (va_A [(a0, .inr (1, [.ref a1, .ref a2, .ref a3, .int x2, .int x3, .int x4, .int x5, .int x6, .int x7, .int x8])), (a3, .inl (cI, 80, .inl f0))] sz) := by
  refine gOf_i (by decide +kernel) (Nat.le_of_ble_eq_true rfl) ?_
  intro p e s m args below meth c ls A Q hx hb hts hown hml hN hK hP hD hA hl hret
  replace hown : s.vm.findClass RX1 = some m.cls := hown
  have hS : va_S A s.heap s.heap [] := va_S.rf
  replace hP : va_P D gcl [(a0, .inr (1, [.ref a1, .ref a2, .ref a3, .int x2, .int x3, .int x4, .int x5, .int x6, .int x7, .int x8])), (a3, .inl (cI, 80, .inl f0))] s.heap := hP
  replace hl : lv_has ls 3 [(0, .ref a0), (1, .int x0), (2, .int x1)] := hl
  have rx7 : zBd x7.toInt (-2147483648) 2147483647 := n_rng x7
  have rx8 : zBd x8.toInt (-2147483648) 2147483647 := n_rng x8
  refine lv_aload_n (pc := 0) hx hb dX1_letterOfWord_0 rfl (lv_at hl 0 rfl) ?_
  refine va_get (pc := 1) (ci := 1) (v := .ref a3) (C := RX1) (T := TX1) (N := 10) hx hb hts iX1 hown hK hP 0 rfl rfl 2 (by decide) (hts _ tw_108) (fun _ h9 => h9) rfl dX1_letterOfWord_1 ?_
  refine lv_iload_n (pc := 4) hx hb dX1_letterOfWord_4 rfl (lv_at hl 1 rfl) ?_
  refine lv_iconst (pc := 5) (v := 5) hx hb dX1_letterOfWord_5 (by decide) ?_
  refine b_imul (pc := 6) hx hb rfl tI_5 (by (first | omega | (unfold zBd at *; omega))) (by (first | omega | (unfold zBd at *; omega))) dX1_letterOfWord_6 (fun x_1 ex_1 => ?_)
  refine lv_iload_n (pc := 7) hx hb dX1_letterOfWord_7 rfl (lv_at hl 2 rfl) ?_
  refine b_iadd (pc := 8) hx hb rfl rfl (by (first | omega | (unfold zBd at *; omega))) (by (first | omega | (unfold zBd at *; omega))) dX1_letterOfWord_8 (fun x_2 ex_2 => ?_)
  refine va_iald (pc := 9) hx hb hK hP 1 2 rfl rfl (n_in rfl (by (first | omega | (unfold zBd at *; omega))) (by (first | omega | (unfold zBd at *; omega)))) dX1_letterOfWord_9 ?_
  refine lv_topi (fun x_3 ex_3 => ?_)
  have rx_3 : ((-7) ≤ x_3.toInt ∧ x_3.toInt ≤ 7) := by rw [ex_3]; exact hf_f0 _
  exact hret x_3 ((fun _ => 0), (fun _ => (fun _ => 0)), (fun _ => (fun _ => 0)), (fun _ => 0), (fun _ => 0)) dX1_letterOfWord_10 (show ((((-7) ≤ x_3.toInt ∧ x_3.toInt ≤ 7))) from rx_3) (g_psub (wc := [(a0, .inr (1, [.ref a1, .ref a2, .ref a3, .int x2, .int x3, .int x4, .int x5, .int x6, .int x7, .int x8])), (a3, .inl (cI, 80, .inl f0))]) hP [0, 1] rfl) (hD.sub (ws' := [(a0, .inr (1, [.ref a1, .ref a2, .ref a3, .int x2, .int x3, .int x4, .int x5, .int x6, .int x7, .int x8])), (a3, .inl (cI, 80, .inl f0))]) [0, 1] (by decide) rfl) hS
set_option maxHeartbeats 4000000 in
set_option maxRecDepth 100000 in
theorem k_X1_letterOfWord_E (l : Launch) (D : va_G) (cB cC cI cJ : ClassId) (sz : Nat) (a0 a1 a2 a3 : Nat) (x0 x1 x2 x3 x4 x5 x6 x7 x8 : Int32) (f0 : Nat → Int32) (hp1 : (0 ≤ x0.toInt ∧ x0.toInt ≤ 15)) (hp2 : (0 ≤ x1.toInt ∧ x1.toInt ≤ 4)) (h_x2 : zBd x2.toInt (-1) 8) (h_x3 : zBd x3.toInt (-1) 5) (h_x4 : zBd x4.toInt (-1) 6) (h_x5 : zBd x5.toInt 0 6) (h_x6 : zBd x6.toInt 0 16) (hf_f0 : (∀ j, (-7) ≤ (f0 j).toInt ∧ (f0 j).toInt ≤ 7)) : Met l yX1_letterOfWord (.code yX1_letterOfWord cX1_letterOfWord 3 (some .int) :: lw_gd) ({ frames := 0, cells := 0, slots := 0, locals := 0 }) (gPre D [(cB, .byte), (cC, .char), (cI, .int), (cJ, .long)] [.ref a0, .int x0, .int x1] [(a0, .inr (1, [.ref a1, .ref a2, .ref a3, .int x2, .int x3, .int x4, .int x5, .int x6, .int x7, .int x8])), (a3, .inl (cI, 80, .inl f0))] sz) (va_Qi (fun r u => ((((-7) ≤ r.toInt ∧ r.toInt ≤ 7))) ∧ (r.toInt = (f0 (ixW x0.toInt x1.toInt).toNat).toInt)) (gB D (va_A [(a0, .inr (1, [.ref a1, .ref a2, .ref a3, .int x2, .int x3, .int x4, .int x5, .int x6, .int x7, .int x8])), (a3, .inl (cI, 80, .inl f0))] sz) (fun u : gEx => [(a0, .inr (1, [.ref a1, .ref a2, .ref a3, .int x2, .int x3, .int x4, .int x5, .int x6, .int x7, .int x8])), (a3, .inl (cI, 80, .inl f0))])) (va_A [(a0, .inr (1, [.ref a1, .ref a2, .ref a3, .int x2, .int x3, .int x4, .int x5, .int x6, .int x7, .int x8])), (a3, .inl (cI, 80, .inl f0))] sz)) 0 0 (va_A [(a0, .inr (1, [.ref a1, .ref a2, .ref a3, .int x2, .int x3, .int x4, .int x5, .int x6, .int x7, .int x8])), (a3, .inl (cI, 80, .inl f0))] sz) := by
  refine gOf_i (by decide +kernel) (Nat.le_of_ble_eq_true rfl) ?_
  intro p e s m args below meth c ls A Q hx hb hts hown hml hN hK hP hD hA hl hret
  replace hown : s.vm.findClass RX1 = some m.cls := hown
  have hS : va_S A s.heap s.heap [] := va_S.rf
  replace hP : va_P D gcl [(a0, .inr (1, [.ref a1, .ref a2, .ref a3, .int x2, .int x3, .int x4, .int x5, .int x6, .int x7, .int x8])), (a3, .inl (cI, 80, .inl f0))] s.heap := hP
  replace hl : lv_has ls 3 [(0, .ref a0), (1, .int x0), (2, .int x1)] := hl
  have rx7 : zBd x7.toInt (-2147483648) 2147483647 := n_rng x7
  have rx8 : zBd x8.toInt (-2147483648) 2147483647 := n_rng x8
  refine lv_aload_n (pc := 0) hx hb dX1_letterOfWord_0 rfl (lv_at hl 0 rfl) ?_
  refine va_get (pc := 1) (ci := 1) (v := .ref a3) (C := RX1) (T := TX1) (N := 10) hx hb hts iX1 hown hK hP 0 rfl rfl 2 (by decide) (hts _ tw_108) (fun _ h9 => h9) rfl dX1_letterOfWord_1 ?_
  refine lv_iload_n (pc := 4) hx hb dX1_letterOfWord_4 rfl (lv_at hl 1 rfl) ?_
  refine lv_iconst (pc := 5) (v := 5) hx hb dX1_letterOfWord_5 (by decide) ?_
  refine b_imul (pc := 6) hx hb rfl tI_5 (by (first | omega | (unfold zBd at *; omega))) (by (first | omega | (unfold zBd at *; omega))) dX1_letterOfWord_6 (fun x_1 ex_1 => ?_)
  refine lv_iload_n (pc := 7) hx hb dX1_letterOfWord_7 rfl (lv_at hl 2 rfl) ?_
  refine b_iadd (pc := 8) hx hb rfl rfl (by (first | omega | (unfold zBd at *; omega))) (by (first | omega | (unfold zBd at *; omega))) dX1_letterOfWord_8 (fun x_2 ex_2 => ?_)
  refine va_iald (pc := 9) hx hb hK hP 1 2 rfl rfl (n_in rfl (by (first | omega | (unfold zBd at *; omega))) (by (first | omega | (unfold zBd at *; omega)))) dX1_letterOfWord_9 ?_
  refine lv_topi (fun x_3 ex_3 => ?_)
  have rx_3 : ((-7) ≤ x_3.toInt ∧ x_3.toInt ≤ 7) := by rw [ex_3]; exact hf_f0 _
  replace ex_3 : x_3 = f0 (x_2.toInt).toNat := ex_3
  have tx_3 := congrArg Int32.toInt ex_3
  exact hret x_3 ((fun _ => 0), (fun _ => (fun _ => 0)), (fun _ => (fun _ => 0)), (fun _ => 0), (fun _ => 0)) dX1_letterOfWord_10 ⟨(show ((((-7) ≤ x_3.toInt ∧ x_3.toInt ≤ 7))) from rx_3), (show x_3.toInt = (f0 (ixW x0.toInt x1.toInt).toNat).toInt from congrArg Int32.toInt (e_ld ex_3 (show _ = ixW x0.toInt x1.toInt by unfold ixW; (first | omega | (unfold zBd at *; omega)))).symm)⟩ (g_psub (wc := [(a0, .inr (1, [.ref a1, .ref a2, .ref a3, .int x2, .int x3, .int x4, .int x5, .int x6, .int x7, .int x8])), (a3, .inl (cI, 80, .inl f0))]) hP [0, 1] rfl) (hD.sub (ws' := [(a0, .inr (1, [.ref a1, .ref a2, .ref a3, .int x2, .int x3, .int x4, .int x5, .int x6, .int x7, .int x8])), (a3, .inl (cI, 80, .inl f0))]) [0, 1] (by decide) rfl) hS
set_option maxHeartbeats 4000000 in
set_option maxRecDepth 100000 in
theorem k_X1_mostPower (l : Launch) (D : va_G) (cB cC cI cJ : ClassId) (sz : Nat) (a0 a1 a2 a3 : Nat) (x0 x1 x2 x3 x4 x5 x6 : Int32) (f0 : Nat → Int32) (h_x0 : zBd x0.toInt (-1) 8) (h_x1 : zBd x1.toInt (-1) 5) (h_x2 : zBd x2.toInt (-1) 6) (h_x3 : zBd x3.toInt 0 6) (h_x4 : zBd x4.toInt 0 16) (hf_f0 : (∀ j, (-7) ≤ (f0 j).toInt ∧ (f0 j).toInt ≤ 7)) : Met l yX1_mostPower (.code yX1_mostPower cX1_mostPower 5 (some .int) :: lw_gd) ({ frames := 1, cells := 0, slots := 0, locals := 22 }) (gPre D [(cB, .byte), (cC, .char), (cI, .int), (cJ, .long)] [.ref a0] [(a0, .inr (1, [.ref a1, .ref a2, .ref a3, .int x0, .int x1, .int x2, .int x3, .int x4, .int x5, .int x6])), (a3, .inl (cI, 80, .inl f0))] sz) (va_Qi (fun r u => (0 ≤ r.toInt ∧ r.toInt ≤ 245) ∧ (r.toInt = mxP (wP f0 x1.toInt) (x4.toInt).toNat)) (gB D (va_A [(a0, .inr (1, [.ref a1, .ref a2, .ref a3, .int x0, .int x1, .int x2, .int x3, .int x4, .int x5, .int x6])), (a3, .inl (cI, 80, .inl f0))] sz) (fun u : gEx => [(a0, .inr (1, [.ref a1, .ref a2, .ref a3, .int x0, .int x1, .int x2, .int x3, .int x4, .int x5, .int x6])), (a3, .inl (cI, 80, .inl f0))])) (va_A [(a0, .inr (1, [.ref a1, .ref a2, .ref a3, .int x0, .int x1, .int x2, .int x3, .int x4, .int x5, .int x6])), (a3, .inl (cI, 80, .inl f0))] sz)) 0 0 (va_A [(a0, .inr (1, [.ref a1, .ref a2, .ref a3, .int x0, .int x1, .int x2, .int x3, .int x4, .int x5, .int x6])), (a3, .inl (cI, 80, .inl f0))] sz) := by
  refine gOf_i (by decide +kernel) (Nat.le_of_ble_eq_true rfl) ?_
  intro p e s m args below meth c ls A Q hx hb hts hown hml hN hK hP hD hA hl hret
  replace hown : s.vm.findClass RX1 = some m.cls := hown
  have hS : va_S A s.heap s.heap [] := va_S.rf
  replace hP : va_P D gcl [(a0, .inr (1, [.ref a1, .ref a2, .ref a3, .int x0, .int x1, .int x2, .int x3, .int x4, .int x5, .int x6])), (a3, .inl (cI, 80, .inl f0))] s.heap := hP
  replace hl : lv_has ls 5 [(0, .ref a0)] := hl
  have rx5 : zBd x5.toInt (-2147483648) 2147483647 := n_rng x5
  have rx6 : zBd x6.toInt (-2147483648) 2147483647 := n_rng x6
  refine lv_iconst (pc := 0) (v := 0) hx hb dX1_mostPower_0 (by decide) ?_
  refine lv_istore_n (pc := 1) (lv' := [(1, .int 0), (0, .ref a0)]) hx hb dX1_mostPower_1 rfl hl (by decide) rfl (fun ls hl => ?_)
  refine lv_iconst (pc := 2) (v := 0) hx hb dX1_mostPower_2 (by decide) ?_
  refine lv_istore_n (pc := 3) (lv' := [(2, .int 0), (1, .int 0), (0, .ref a0)]) hx hb dX1_mostPower_3 rfl hl (by decide) rfl (fun ls hl => ?_)
  have lp_7 : ∀ (n : Nat) (x_1 x_3 : Int32) (H : Heap) (locs : List Loc) (ls : Array Slot), (0 ≤ x_1.toInt ∧ x_1.toInt ≤ 16) → (0 ≤ x_3.toInt ∧ x_3.toInt ≤ 245) → (x_1.toInt ≤ x4.toInt ∨ x_1.toInt = 0) → (x_3.toInt = mxP (wP f0 x1.toInt) (x_1.toInt).toNat) → (2147483647 - x_1.toInt).toNat < n → va_P D gcl [(a0, .inr (1, [.ref a1, .ref a2, .ref a3, .int x0, .int x1, .int x2, .int x3, .int x4, .int x5, .int x6])), (a3, .inl (cI, 80, .inl f0))] H → va_D A [(a0, .inr (1, [.ref a1, .ref a2, .ref a3, .int x0, .int x1, .int x2, .int x3, .int x4, .int x5, .int x6])), (a3, .inl (cI, 80, .inl f0))] → va_S A s.heap H locs → lv_has ls 5 [(2, .int x_1), (1, .int x_3), (0, .ref a0)] → W p l e ({ frames := 1, cells := 0, slots := 0, locals := 22 }) s m args below meth c H locs 0 0 Q (F0 m 4 ls []) := by
    intro n
    induction n with
    | zero => intro x_1 x_3 H locs ls hi_2 hi_4 hi_5 hi_6 hmu; exact absurd hmu (Nat.not_lt_zero _)
    | succ n ih_lp_7 =>
      intro x_1 x_3 H locs ls hi_2 hi_4 hi_5 hi_6 hmu_lp_7 hP hD hS hl
      refine lv_iload_n (pc := 4) hx hb dX1_mostPower_4 rfl (lv_at hl 0 rfl) ?_
      refine lv_aload_n (pc := 5) hx hb dX1_mostPower_5 rfl (lv_at hl 2 rfl) ?_
      refine va_get (pc := 6) (ci := 1) (v := .int x4) (C := RX1) (T := TX1) (N := 10) hx hb hts iX1 hown hK hP 0 rfl rfl 7 (by decide) (hts _ tw_135) (fun _ h9 => h9) rfl dX1_mostPower_6 ?_
      have bd_h_x4 : 0 ≤ x4.toInt ∧ x4.toInt ≤ 16 := h_x4
      refine b_icmp_ge (pc := 9) (tgt := 62) hx hb rfl rfl  dX1_mostPower_9 (by decide) (fun c_8 => ?_) (fun c_8 => ?_)
      ·
        refine lv_iload_n (pc := 62) hx hb dX1_mostPower_62 rfl (lv_at hl 1 rfl) ?_
        exact hret x_3 ((fun _ => 0), (fun _ => (fun _ => 0)), (fun _ => (fun _ => 0)), (fun _ => 0), (fun _ => 0)) dX1_mostPower_63 ⟨(show (0 ≤ x_3.toInt ∧ x_3.toInt ≤ 245) from hi_4), (show x_3.toInt = mxP (wP f0 x1.toInt) (x4.toInt).toNat from (by have e9 : (x_1.toInt).toNat = (x4.toInt).toNat := (by (first | omega | (unfold zBd at *; omega))); have q9 := hi_6; rw [e9] at q9; exact q9))⟩ (g_psub (wc := [(a0, .inr (1, [.ref a1, .ref a2, .ref a3, .int x0, .int x1, .int x2, .int x3, .int x4, .int x5, .int x6])), (a3, .inl (cI, 80, .inl f0))]) hP [0, 1] rfl) (hD.sub (ws' := [(a0, .inr (1, [.ref a1, .ref a2, .ref a3, .int x0, .int x1, .int x2, .int x3, .int x4, .int x5, .int x6])), (a3, .inl (cI, 80, .inl f0))]) [0, 1] (by decide) rfl) hS
      ·
        refine lv_iconst (pc := 12) (v := 0) hx hb dX1_mostPower_12 (by decide) ?_
        refine lv_istore_n (pc := 13) (lv' := [(3, .int 0), (2, .int x_1), (1, .int x_3), (0, .ref a0)]) hx hb dX1_mostPower_13 rfl hl (by decide) rfl (fun ls hl => ?_)
        refine lv_iconst (pc := 14) (v := 0) hx hb dX1_mostPower_14 (by decide) ?_
        refine lv_istore (pc := 15) (lv' := [(4, .int 0), (3, .int 0), (2, .int x_1), (1, .int x_3), (0, .ref a0)]) hx hb dX1_mostPower_15 hl (by decide) rfl (fun ls hl => ?_)
        have lp_16 : ∀ (n : Nat) (x_9 x_11 : Int32) (H : Heap) (locs : List Loc) (ls : Array Slot), (0 ≤ x_9.toInt ∧ x_9.toInt ≤ 5) → ((-245) ≤ x_11.toInt ∧ x_11.toInt ≤ 245) → (x_9.toInt ≤ x1.toInt ∨ x_9.toInt = 0) → (-49 * x_9.toInt ≤ x_11.toInt ∧ x_11.toInt ≤ 49 * x_9.toInt) → (x_11.toInt = sqS (fun s : Nat => (f0 (5 * x_1.toInt + (s : Int)).toNat).toInt) (x_9.toInt).toNat) → (2147483647 - x_9.toInt).toNat < n → va_P D gcl [(a0, .inr (1, [.ref a1, .ref a2, .ref a3, .int x0, .int x1, .int x2, .int x3, .int x4, .int x5, .int x6])), (a3, .inl (cI, 80, .inl f0))] H → va_D A [(a0, .inr (1, [.ref a1, .ref a2, .ref a3, .int x0, .int x1, .int x2, .int x3, .int x4, .int x5, .int x6])), (a3, .inl (cI, 80, .inl f0))] → va_S A s.heap H locs → lv_has ls 5 [(4, .int x_9), (3, .int x_11), (2, .int x_1), (1, .int x_3), (0, .ref a0)] → W p l e ({ frames := 1, cells := 0, slots := 0, locals := 22 }) s m args below meth c H locs 0 0 Q (F0 m 17 ls []) := by
          intro n
          induction n with
          | zero => intro x_9 x_11 H locs ls hi_10 hi_12 hi_13 hi_14 hi_15 hmu; exact absurd hmu (Nat.not_lt_zero _)
          | succ n ih_lp_16 =>
            intro x_9 x_11 H locs ls hi_10 hi_12 hi_13 hi_14 hi_15 hmu_lp_16 hP hD hS hl
            refine lv_iload (pc := 17) hx hb dX1_mostPower_17 (lv_at hl 0 rfl) ?_
            refine lv_aload_n (pc := 19) hx hb dX1_mostPower_19 rfl (lv_at hl 4 rfl) ?_
            refine va_get (pc := 20) (ci := 1) (v := .int x1) (C := RX1) (T := TX1) (N := 10) hx hb hts iX1 hown hK hP 0 rfl rfl 4 (by decide) (hts _ tw_116) (fun _ h9 => h9) rfl dX1_mostPower_20 ?_
            have bd_h_x1 : (-1) ≤ x1.toInt ∧ x1.toInt ≤ 5 := h_x1
            refine b_icmp_ge (pc := 23) (tgt := 50) hx hb rfl rfl  dX1_mostPower_23 (by decide) (fun c_17 => ?_) (fun c_17 => ?_)
            ·
              refine lv_iload_n (pc := 50) hx hb dX1_mostPower_50 rfl (lv_at hl 3 rfl) ?_
              refine lv_iload_n (pc := 51) hx hb dX1_mostPower_51 rfl (lv_at hl 1 rfl) ?_
              refine va_mmax (pc := 52) hx hb (hml.trans hl.1.symm) hown (hts _ tw_1191) (hts _ tw_885) (hts _ tw_19) (hts _ tw_886) (Nat.le_of_ble_eq_true rfl) (Nat.le_of_ble_eq_true rfl) (Nat.le_of_ble_eq_true rfl) (Nat.le_of_ble_eq_true rfl) dX1_mostPower_52 ?_
              refine lv_topi (fun x_18 ex_18 => ?_)
              have ex_18 := n_max rfl rfl ex_18
              have rx_18 : zBd x_18.toInt (-2147483648) 2147483647 := n_rng x_18
              refine lv_istore_n (pc := 55) (lv' := [(1, .int x_18), (4, .int x_9), (3, .int x_11), (2, .int x_1), (0, .ref a0)]) hx hb dX1_mostPower_55 rfl hl (by decide) rfl (fun ls hl => ?_)
              refine b_iinc (pc := 56) hx hb dX1_mostPower_56 hl (k := 3) rfl rfl tI_1 (by (first | omega | (unfold zBd at *; omega))) (by (first | omega | (unfold zBd at *; omega))) (by decide) (fun x_19 ex_19 ls hl => ?_)
              replace hl : lv_has ls 5 [(2, .int x_19), (1, .int x_18), (4, .int x_9), (3, .int x_11), (0, .ref a0)] := hl
              refine lv_goto (pc := 59) (tgt := 4) hx hb dX1_mostPower_59 (by decide) ?_
              exact ih_lp_7 x_19 x_18 _ _ ls (by (first | omega | (unfold zBd at *; omega))) (by (first | omega | (unfold zBd at *; omega))) (by (first | omega | (unfold zBd at *; omega))) (mx_step (v := x_11.toInt) hi_6 (by have e9 : (x_9.toInt).toNat = (x1.toInt).toNat := (by (first | omega | (unfold zBd at *; omega))); have q9 := hi_15; rw [e9] at q9; exact q9) (by (first | omega | (unfold zBd at *; omega))) (by (first | omega | (unfold zBd at *; omega))) (by (first | omega | (unfold zBd at *; omega)))) (by (first | omega | (unfold zBd at *; omega))) hP hD hS (lv_sub hl [0, 1, 4] rfl)
            ·
              refine lv_iload_n (pc := 26) hx hb dX1_mostPower_26 rfl (lv_at hl 1 rfl) ?_
              refine lv_aload_n (pc := 27) hx hb dX1_mostPower_27 rfl (lv_at hl 4 rfl) ?_
              refine lv_iload_n (pc := 28) hx hb dX1_mostPower_28 rfl (lv_at hl 2 rfl) ?_
              refine lv_iload (pc := 29) hx hb dX1_mostPower_29 (lv_at hl 0 rfl) ?_
              refine gc_i (pc := 31) (wc := [(a0, .inr (1, [.ref a1, .ref a2, .ref a3, .int x0, .int x1, .int x2, .int x3, .int x4, .int x5, .int x6])), (a3, .inl (cI, 80, .inl f0))]) (wr := []) hP hD hS hA [0, 1] [] rfl rfl (by decide) (by decide) (by decide) (fun hPc hDc => va_runV (As := [.int x_1, .int x_9]) (rest := [.int x_11]) ⟨hx, hb, hml, hown, hts⟩ (k_X1_letterOfWord_E l D cB cC cI cJ _ a0 a1 a2 a3 x_1 x_9 x0 x1 x2 x3 x4 x5 x6 f0 (by  (first | omega | (unfold zBd at *; omega))) (by  (first | omega | (unfold zBd at *; omega))) h_x0 h_x1 h_x2 h_x3 h_x4 hf_f0) ⟨gcwB hts tw_1181 tw_4 tw_1190 hd_yX1_letterOfWord ⟨Nat.le_of_ble_eq_true rfl, Nat.le_of_ble_eq_true rfl⟩, hts _ tw_1179, hts _ tw_1180⟩ ⟨gblind, va_recv hK hPc (ci := 1) (q0 := 0) rfl rfl, (gpreS hPc hK hDc hN).2⟩ rfl rfl hl.1 rfl (lv_room (Nat.le_of_ble_eq_true rfl)) dX1_mostPower_31 ⟨Nat.le_of_ble_eq_true rfl, Nat.le_of_ble_eq_true rfl⟩) (fun r_21 u_20 H locs hw_22 hP hD hS => ?_)
              replace hP : va_P D gcl [(a0, .inr (1, [.ref a1, .ref a2, .ref a3, .int x0, .int x1, .int x2, .int x3, .int x4, .int x5, .int x6])), (a3, .inl (cI, 80, .inl f0))] H := hP
              replace hD : va_D A [(a0, .inr (1, [.ref a1, .ref a2, .ref a3, .int x0, .int x1, .int x2, .int x3, .int x4, .int x5, .int x6])), (a3, .inl (cI, 80, .inl f0))] := hD
              obtain ⟨hw_23, hw_24⟩ := hw_22
              replace hw_23 : ((((-7) ≤ r_21.toInt ∧ r_21.toInt ≤ 7))) := hw_23
              replace hw_24 : (r_21.toInt = (f0 (ixW x_1.toInt x_9.toInt).toNat).toInt) := hw_24
              have rr_21 : zBd r_21.toInt (-2147483648) 2147483647 := n_rng r_21
              refine lv_aload_n (pc := 34) hx hb dX1_mostPower_34 rfl (lv_at hl 4 rfl) ?_
              refine lv_iload_n (pc := 35) hx hb dX1_mostPower_35 rfl (lv_at hl 2 rfl) ?_
              refine lv_iload (pc := 36) hx hb dX1_mostPower_36 (lv_at hl 0 rfl) ?_
              refine gc_i (pc := 38) (wc := [(a0, .inr (1, [.ref a1, .ref a2, .ref a3, .int x0, .int x1, .int x2, .int x3, .int x4, .int x5, .int x6])), (a3, .inl (cI, 80, .inl f0))]) (wr := []) hP hD hS hA [0, 1] [] rfl rfl (by decide) (by decide) (by decide) (fun hPc hDc => va_runV (As := [.int x_1, .int x_9]) (rest := [.int r_21, .int x_11]) ⟨hx, hb, hml, hown, hts⟩ (k_X1_letterOfWord_E l D cB cC cI cJ _ a0 a1 a2 a3 x_1 x_9 x0 x1 x2 x3 x4 x5 x6 f0 (by  (first | omega | (unfold zBd at *; omega))) (by  (first | omega | (unfold zBd at *; omega))) h_x0 h_x1 h_x2 h_x3 h_x4 hf_f0) ⟨gcwB hts tw_1181 tw_4 tw_1190 hd_yX1_letterOfWord ⟨Nat.le_of_ble_eq_true rfl, Nat.le_of_ble_eq_true rfl⟩, hts _ tw_1179, hts _ tw_1180⟩ ⟨gblind, va_recv hK hPc (ci := 1) (q0 := 0) rfl rfl, (gpreS hPc hK hDc hN).2⟩ rfl rfl hl.1 rfl (lv_room (Nat.le_of_ble_eq_true rfl)) dX1_mostPower_38 ⟨Nat.le_of_ble_eq_true rfl, Nat.le_of_ble_eq_true rfl⟩) (fun r_26 u_25 H locs hw_27 hP hD hS => ?_)
              replace hP : va_P D gcl [(a0, .inr (1, [.ref a1, .ref a2, .ref a3, .int x0, .int x1, .int x2, .int x3, .int x4, .int x5, .int x6])), (a3, .inl (cI, 80, .inl f0))] H := hP
              replace hD : va_D A [(a0, .inr (1, [.ref a1, .ref a2, .ref a3, .int x0, .int x1, .int x2, .int x3, .int x4, .int x5, .int x6])), (a3, .inl (cI, 80, .inl f0))] := hD
              obtain ⟨hw_28, hw_29⟩ := hw_27
              replace hw_28 : ((((-7) ≤ r_26.toInt ∧ r_26.toInt ≤ 7))) := hw_28
              replace hw_29 : (r_26.toInt = (f0 (ixW x_1.toInt x_9.toInt).toNat).toInt) := hw_29
              have rr_26 : zBd r_26.toInt (-2147483648) 2147483647 := n_rng r_26
              have qx_30 := n_mulb (A := 7) (B := 7) (by decide) (by decide) (show -7 ≤ r_21.toInt ∧ r_21.toInt ≤ 7 by (first | omega | (unfold zBd at *; omega))) (show -7 ≤ r_26.toInt ∧ r_26.toInt ≤ 7 by (first | omega | (unfold zBd at *; omega)))
              refine b_imul (pc := 41) hx hb rfl rfl (by (first | omega | (unfold zBd at *; omega))) (by (first | omega | (unfold zBd at *; omega))) dX1_mostPower_41 (fun x_30 ex_30 => ?_)
              have rx_30 : ((-49) ≤ x_30.toInt ∧ x_30.toInt ≤ 49) := by (first | omega | (unfold zBd at *; omega))
              refine b_iadd (pc := 42) hx hb rfl rfl (by (first | omega | (unfold zBd at *; omega))) (by (first | omega | (unfold zBd at *; omega))) dX1_mostPower_42 (fun x_31 ex_31 => ?_)
              refine lv_istore_n (pc := 43) (lv' := [(3, .int x_31), (4, .int x_9), (2, .int x_1), (1, .int x_3), (0, .ref a0)]) hx hb dX1_mostPower_43 rfl hl (by decide) rfl (fun ls hl => ?_)
              refine b_iinc (pc := 44) hx hb dX1_mostPower_44 hl (k := 1) rfl rfl tI_1 (by (first | omega | (unfold zBd at *; omega))) (by (first | omega | (unfold zBd at *; omega))) (by decide) (fun x_32 ex_32 ls hl => ?_)
              replace hl : lv_has ls 5 [(4, .int x_32), (3, .int x_31), (2, .int x_1), (1, .int x_3), (0, .ref a0)] := hl
              refine lv_goto (pc := 47) (tgt := 17) hx hb dX1_mostPower_47 (by decide) ?_
              exact ih_lp_16 x_32 x_31 _ _ ls (by (first | omega | (unfold zBd at *; omega))) (by (first | omega | (unfold zBd at *; omega))) (by (first | omega | (unfold zBd at *; omega))) (by (first | omega | (unfold zBd at *; omega))) (sqS_two (z := x_30.toInt) hi_15 (wS_e hw_24 (by (first | omega | (unfold zBd at *; omega)))) (wS_e hw_29 (by (first | omega | (unfold zBd at *; omega)))) (by (first | omega | (unfold zBd at *; omega))) (by (first | omega | (unfold zBd at *; omega))) (by (first | omega | (unfold zBd at *; omega))) (by (first | omega | (unfold zBd at *; omega)))) (by (first | omega | (unfold zBd at *; omega))) hP hD hS (lv_sub hl [0, 1, 2, 3, 4] rfl)
        exact lp_16 _ 0 0 _ _ ls (n_c tI_0 (by decide)) (n_c tI_0 (by decide)) (by have q := tI_0; (first | omega | (unfold zBd at *; omega))) (by have q := tI_0; (first | omega | (unfold zBd at *; omega))) (tI_0) (Nat.lt_succ_self _) hP hD hS (lv_sub hl [0, 1, 2, 3, 4] rfl)
  exact lp_7 _ 0 0 _ _ ls (n_c tI_0 (by decide)) (n_c tI_0 (by decide)) (by have q := tI_0; (first | omega | (unfold zBd at *; omega))) (tI_0) (Nat.lt_succ_self _) hP hD hS (lv_sub hl [0, 1, 2] rfl)
set_option maxHeartbeats 4000000 in
set_option maxRecDepth 100000 in
theorem k_X1_copyWord (l : Launch) (D : va_G) (cB cC cI cJ : ClassId) (sz : Nat) (a0 a1 a2 a3 a4 : Nat) (x0 x1 x2 x3 x4 x5 x6 x7 : Int32) (f0 f1 : Nat → Int32) (hp1 : (0 ≤ x0.toInt ∧ x0.toInt ≤ 15)) (h_x1 : zBd x1.toInt (-1) 8) (h_x2 : zBd x2.toInt (-1) 5) (h_x3 : zBd x3.toInt (-1) 6) (h_x4 : zBd x4.toInt 0 6) (h_x5 : zBd x5.toInt 0 16) (hf_f0 : (∀ j, (-7) ≤ (f0 j).toInt ∧ (f0 j).toInt ≤ 7)) : Met l yX1_copyWord (.code yX1_copyWord cX1_copyWord 4 none :: lw_gd) ({ frames := 1, cells := 0, slots := 0, locals := 22 }) (gPre D [(cB, .byte), (cC, .char), (cI, .int), (cJ, .long)] [.ref a0, .int x0, .ref a1] [(a0, .inr (1, [.ref a2, .ref a3, .ref a4, .int x1, .int x2, .int x3, .int x4, .int x5, .int x6, .int x7])), (a4, .inl (cI, 80, .inl f0)), (a1, .inl (cI, 5, .inl f1))] sz) (va_Qv (fun u => ((((-1) ≤ x2.toInt ∧ x2.toInt ≤ 5)))) (gB D (va_A [(a0, .inr (1, [.ref a2, .ref a3, .ref a4, .int x1, .int x2, .int x3, .int x4, .int x5, .int x6, .int x7])), (a4, .inl (cI, 80, .inl f0)), (a1, .inl (cI, 5, .inl f1))] sz) (fun u : gEx => [(a0, .inr (1, [.ref a2, .ref a3, .ref a4, .int x1, .int x2, .int x3, .int x4, .int x5, .int x6, .int x7])), (a4, .inl (cI, 80, .inl f0)), (a1, .inl (cI, 5, .inl (u.2.1 0)))])) (va_A [(a0, .inr (1, [.ref a2, .ref a3, .ref a4, .int x1, .int x2, .int x3, .int x4, .int x5, .int x6, .int x7])), (a4, .inl (cI, 80, .inl f0)), (a1, .inl (cI, 5, .inl f1))] sz)) 0 0 (va_A [(a0, .inr (1, [.ref a2, .ref a3, .ref a4, .int x1, .int x2, .int x3, .int x4, .int x5, .int x6, .int x7])), (a4, .inl (cI, 80, .inl f0)), (a1, .inl (cI, 5, .inl f1))] sz) := by
  refine gOf_v (by decide +kernel) (Nat.le_of_ble_eq_true rfl) ?_
  intro p e s m args below meth c ls A Q hx hb hts hown hml hN hK hP hD hA hl hret
  replace hown : s.vm.findClass RX1 = some m.cls := hown
  have hS : va_S A s.heap s.heap [] := va_S.rf
  replace hP : va_P D gcl [(a0, .inr (1, [.ref a2, .ref a3, .ref a4, .int x1, .int x2, .int x3, .int x4, .int x5, .int x6, .int x7])), (a4, .inl (cI, 80, .inl f0)), (a1, .inl (cI, 5, .inl f1))] s.heap := hP
  replace hl : lv_has ls 4 [(0, .ref a0), (1, .int x0), (2, .ref a1)] := hl
  have rx6 : zBd x6.toInt (-2147483648) 2147483647 := n_rng x6
  have rx7 : zBd x7.toInt (-2147483648) 2147483647 := n_rng x7
  refine lv_iconst (pc := 0) (v := 0) hx hb dX1_copyWord_0 (by decide) ?_
  refine lv_istore_n (pc := 1) (lv' := [(3, .int 0), (0, .ref a0), (1, .int x0), (2, .ref a1)]) hx hb dX1_copyWord_1 rfl hl (by decide) rfl (fun ls hl => ?_)
  have lp_4 : ∀ (n : Nat) (x_1 : Int32) (f_3 : Nat → Int32) (H : Heap) (locs : List Loc) (ls : Array Slot), (0 ≤ x_1.toInt ∧ x_1.toInt ≤ 2147483647) → (2147483647 - x_1.toInt).toNat < n → va_P D gcl [(a0, .inr (1, [.ref a2, .ref a3, .ref a4, .int x1, .int x2, .int x3, .int x4, .int x5, .int x6, .int x7])), (a4, .inl (cI, 80, .inl f0)), (a1, .inl (cI, 5, .inl f_3))] H → va_D A [(a0, .inr (1, [.ref a2, .ref a3, .ref a4, .int x1, .int x2, .int x3, .int x4, .int x5, .int x6, .int x7])), (a4, .inl (cI, 80, .inl f0)), (a1, .inl (cI, 5, .inl f_3))] → va_S A s.heap H locs → lv_has ls 4 [(3, .int x_1), (0, .ref a0), (1, .int x0), (2, .ref a1)] → W p l e ({ frames := 1, cells := 0, slots := 0, locals := 22 }) s m args below meth c H locs 0 0 Q (F0 m 2 ls []) := by
    intro n
    induction n with
    | zero => intro x_1 f_3 H locs ls hi_2 hmu; exact absurd hmu (Nat.not_lt_zero _)
    | succ n ih_lp_4 =>
      intro x_1 f_3 H locs ls hi_2 hmu_lp_4 hP hD hS hl
      refine lv_iload_n (pc := 2) hx hb dX1_copyWord_2 rfl (lv_at hl 0 rfl) ?_
      refine lv_aload_n (pc := 3) hx hb dX1_copyWord_3 rfl (lv_at hl 1 rfl) ?_
      refine va_get (pc := 4) (ci := 1) (v := .int x2) (C := RX1) (T := TX1) (N := 10) hx hb hts iX1 hown hK hP 0 rfl rfl 4 (by decide) (hts _ tw_116) (fun _ h9 => h9) rfl dX1_copyWord_4 ?_
      have bd_h_x2 : (-1) ≤ x2.toInt ∧ x2.toInt ≤ 5 := h_x2
      refine b_icmp_ge (pc := 7) (tgt := 25) hx hb rfl rfl  dX1_copyWord_7 (by decide) (fun c_5 => ?_) (fun c_5 => ?_)
      ·
        exact hret ((fun _ => 0), (fun k => [f_3].getD k (fun _ => 0)), (fun _ => (fun _ => 0)), (fun _ => 0), (fun _ => 0)) dX1_copyWord_25 (show ((((-1) ≤ x2.toInt ∧ x2.toInt ≤ 5))) from h_x2) (g_psub (wc := [(a0, .inr (1, [.ref a2, .ref a3, .ref a4, .int x1, .int x2, .int x3, .int x4, .int x5, .int x6, .int x7])), (a4, .inl (cI, 80, .inl f0)), (a1, .inl (cI, 5, .inl f_3))]) hP [0, 1, 2] rfl) (hD.sub (ws' := [(a0, .inr (1, [.ref a2, .ref a3, .ref a4, .int x1, .int x2, .int x3, .int x4, .int x5, .int x6, .int x7])), (a4, .inl (cI, 80, .inl f0)), (a1, .inl (cI, 5, .inl f_3))]) [0, 1, 2] (by decide) rfl) hS
      ·
        refine lv_aload_n (pc := 10) hx hb dX1_copyWord_10 rfl (lv_at hl 3 rfl) ?_
        refine lv_iload_n (pc := 11) hx hb dX1_copyWord_11 rfl (lv_at hl 0 rfl) ?_
        refine lv_aload_n (pc := 12) hx hb dX1_copyWord_12 rfl (lv_at hl 1 rfl) ?_
        refine lv_iload_n (pc := 13) hx hb dX1_copyWord_13 rfl (lv_at hl 2 rfl) ?_
        refine lv_iload_n (pc := 14) hx hb dX1_copyWord_14 rfl (lv_at hl 0 rfl) ?_
        refine gc_i (pc := 15) (wc := [(a0, .inr (1, [.ref a2, .ref a3, .ref a4, .int x1, .int x2, .int x3, .int x4, .int x5, .int x6, .int x7])), (a4, .inl (cI, 80, .inl f0))]) (wr := [(a1, .inl (cI, 5, .inl f_3))]) hP hD hS hA [0, 1] [2] rfl rfl (by decide) (by decide) (by decide) (fun hPc hDc => va_runV (As := [.int x0, .int x_1]) (rest := [.int x_1, .ref a1]) ⟨hx, hb, hml, hown, hts⟩ (k_X1_letterOfWord l D cB cC cI cJ _ a0 a2 a3 a4 x0 x_1 x1 x2 x3 x4 x5 x6 x7 f0 hp1 (by  (first | omega | (unfold zBd at *; omega))) h_x1 h_x2 h_x3 h_x4 h_x5 hf_f0) ⟨gcwB hts tw_1181 tw_4 tw_1190 hd_yX1_letterOfWord ⟨Nat.le_of_ble_eq_true rfl, Nat.le_of_ble_eq_true rfl⟩, hts _ tw_1179, hts _ tw_1180⟩ ⟨gblind, va_recv hK hPc (ci := 1) (q0 := 0) rfl rfl, (gpreS hPc hK hDc hN).2⟩ rfl rfl hl.1 rfl (lv_room (Nat.le_of_ble_eq_true rfl)) dX1_copyWord_15 ⟨Nat.le_of_ble_eq_true rfl, Nat.le_of_ble_eq_true rfl⟩) (fun r_7 u_6 H locs hw_8 hP hD hS => ?_)
        replace hP : va_P D gcl [(a1, .inl (cI, 5, .inl f_3)), (a0, .inr (1, [.ref a2, .ref a3, .ref a4, .int x1, .int x2, .int x3, .int x4, .int x5, .int x6, .int x7])), (a4, .inl (cI, 80, .inl f0))] H := hP
        replace hD : va_D A [(a1, .inl (cI, 5, .inl f_3)), (a0, .inr (1, [.ref a2, .ref a3, .ref a4, .int x1, .int x2, .int x3, .int x4, .int x5, .int x6, .int x7])), (a4, .inl (cI, 80, .inl f0))] := hD
        have hw_9 : ((((-7) ≤ r_7.toInt ∧ r_7.toInt ≤ 7))) := hw_8
        have rr_7 : zBd r_7.toInt (-2147483648) 2147483647 := n_rng r_7
        refine g_iastore (pc := 18) hx hb hK hP hD hS 0 2 rfl rfl (n_in rfl (by (first | omega | (unfold zBd at *; omega))) (by (first | omega | (unfold zBd at *; omega)))) dX1_copyWord_18 (fun f_10 H locs hP hD hS => ?_)
        replace hP : va_P D gcl [(a1, .inl (cI, 5, .inl f_10)), (a0, .inr (1, [.ref a2, .ref a3, .ref a4, .int x1, .int x2, .int x3, .int x4, .int x5, .int x6, .int x7])), (a4, .inl (cI, 80, .inl f0))] H := hP
        replace hD : va_D A [(a1, .inl (cI, 5, .inl f_10)), (a0, .inr (1, [.ref a2, .ref a3, .ref a4, .int x1, .int x2, .int x3, .int x4, .int x5, .int x6, .int x7])), (a4, .inl (cI, 80, .inl f0))] := hD
        refine b_iinc (pc := 19) hx hb dX1_copyWord_19 hl (k := 0) rfl rfl tI_1 (by (first | omega | (unfold zBd at *; omega))) (by (first | omega | (unfold zBd at *; omega))) (by decide) (fun x_11 ex_11 ls hl => ?_)
        replace hl : lv_has ls 4 [(3, .int x_11), (0, .ref a0), (1, .int x0), (2, .ref a1)] := hl
        refine lv_goto (pc := 22) (tgt := 2) hx hb dX1_copyWord_22 (by decide) ?_
        exact ih_lp_4 x_11 f_10 _ _ ls (by (first | omega | (unfold zBd at *; omega))) (by (first | omega | (unfold zBd at *; omega))) (g_psub hP [1, 2, 0] rfl) (hD.sub [1, 2, 0] (by decide) rfl) hS (lv_sub hl [0, 1, 2, 3] rfl)
  exact lp_4 _ 0 f1 _ _ ls (n_c tI_0 (by decide)) (Nat.lt_succ_self _) hP hD hS (lv_sub hl [0, 1, 2, 3] rfl)
set_option maxHeartbeats 4000000 in
set_option maxRecDepth 100000 in
theorem k_X1_rowOfLetters (l : Launch) (D : va_G) (cB cC cI cJ : ClassId) (sz : Nat) (a0 a1 a2 a3 a4 : Nat) (x0 x1 x2 x3 x4 x5 x6 : Int32) (f0 : Nat → Int32) (h_x0 : zBd x0.toInt (-1) 8) (h_x1 : zBd x1.toInt (-1) 5) (h_x2 : zBd x2.toInt (-1) 6) (h_x3 : zBd x3.toInt 0 6) (h_x4 : zBd x4.toInt 0 16) : Met l yX1_rowOfLetters (.code yX1_rowOfLetters cX1_rowOfLetters 4 (some .int) :: lw_gd) ({ frames := 1, cells := 0, slots := 0, locals := 21 }) (gPre D [(cB, .byte), (cC, .char), (cI, .int), (cJ, .long)] [.ref a0, .ref a1] [(a0, .inr (1, [.ref a2, .ref a3, .ref a4, .int x0, .int x1, .int x2, .int x3, .int x4, .int x5, .int x6])), (a1, .inl (cI, 5, .inl f0))] sz) (va_Qi (fun r u => ((((-2147483648) ≤ r.toInt ∧ r.toInt ≤ 2147483647) ∧ ((-1) ≤ x1.toInt ∧ x1.toInt ≤ 5)))) (gB D (va_A [(a0, .inr (1, [.ref a2, .ref a3, .ref a4, .int x0, .int x1, .int x2, .int x3, .int x4, .int x5, .int x6])), (a1, .inl (cI, 5, .inl f0))] sz) (fun u : gEx => [(a0, .inr (1, [.ref a2, .ref a3, .ref a4, .int x0, .int x1, .int x2, .int x3, .int x4, .int x5, .int x6])), (a1, .inl (cI, 5, .inl f0))])) (va_A [(a0, .inr (1, [.ref a2, .ref a3, .ref a4, .int x0, .int x1, .int x2, .int x3, .int x4, .int x5, .int x6])), (a1, .inl (cI, 5, .inl f0))] sz)) 0 0 (va_A [(a0, .inr (1, [.ref a2, .ref a3, .ref a4, .int x0, .int x1, .int x2, .int x3, .int x4, .int x5, .int x6])), (a1, .inl (cI, 5, .inl f0))] sz) := by
  refine gOf_i (by decide +kernel) (Nat.le_of_ble_eq_true rfl) ?_
  intro p e s m args below meth c ls A Q hx hb hts hown hml hN hK hP hD hA hl hret
  replace hown : s.vm.findClass RX1 = some m.cls := hown
  have hS : va_S A s.heap s.heap [] := va_S.rf
  replace hP : va_P D gcl [(a0, .inr (1, [.ref a2, .ref a3, .ref a4, .int x0, .int x1, .int x2, .int x3, .int x4, .int x5, .int x6])), (a1, .inl (cI, 5, .inl f0))] s.heap := hP
  replace hl : lv_has ls 4 [(0, .ref a0), (1, .ref a1)] := hl
  have rx5 : zBd x5.toInt (-2147483648) 2147483647 := n_rng x5
  have rx6 : zBd x6.toInt (-2147483648) 2147483647 := n_rng x6
  refine lv_iconst (pc := 0) (v := 0) hx hb dX1_rowOfLetters_0 (by decide) ?_
  refine lv_istore_n (pc := 1) (lv' := [(2, .int 0), (0, .ref a0), (1, .ref a1)]) hx hb dX1_rowOfLetters_1 rfl hl (by decide) rfl (fun ls hl => ?_)
  refine lv_iconst (pc := 2) (v := 0) hx hb dX1_rowOfLetters_2 (by decide) ?_
  refine lv_istore_n (pc := 3) (lv' := [(3, .int 0), (2, .int 0), (0, .ref a0), (1, .ref a1)]) hx hb dX1_rowOfLetters_3 rfl hl (by decide) rfl (fun ls hl => ?_)
  have lp_5 : ∀ (n : Nat) (x_1 x_3 : Int32) (H : Heap) (locs : List Loc) (ls : Array Slot), (0 ≤ x_1.toInt ∧ x_1.toInt ≤ 2147483647) → (2147483647 - x_1.toInt).toNat < n → va_P D gcl [(a0, .inr (1, [.ref a2, .ref a3, .ref a4, .int x0, .int x1, .int x2, .int x3, .int x4, .int x5, .int x6])), (a1, .inl (cI, 5, .inl f0))] H → va_D A [(a0, .inr (1, [.ref a2, .ref a3, .ref a4, .int x0, .int x1, .int x2, .int x3, .int x4, .int x5, .int x6])), (a1, .inl (cI, 5, .inl f0))] → va_S A s.heap H locs → lv_has ls 4 [(3, .int x_1), (2, .int x_3), (0, .ref a0), (1, .ref a1)] → W p l e ({ frames := 1, cells := 0, slots := 0, locals := 21 }) s m args below meth c H locs 0 0 Q (F0 m 4 ls []) := by
    intro n
    induction n with
    | zero => intro x_1 x_3 H locs ls hi_2 hmu; exact absurd hmu (Nat.not_lt_zero _)
    | succ n ih_lp_5 =>
      intro x_1 x_3 H locs ls hi_2 hmu_lp_5 hP hD hS hl
      have hi_4 := n_rng x_3
      refine lv_iload_n (pc := 4) hx hb dX1_rowOfLetters_4 rfl (lv_at hl 0 rfl) ?_
      refine lv_aload_n (pc := 5) hx hb dX1_rowOfLetters_5 rfl (lv_at hl 2 rfl) ?_
      refine va_get (pc := 6) (ci := 1) (v := .int x1) (C := RX1) (T := TX1) (N := 10) hx hb hts iX1 hown hK hP 0 rfl rfl 4 (by decide) (hts _ tw_116) (fun _ h9 => h9) rfl dX1_rowOfLetters_6 ?_
      have bd_h_x1 : (-1) ≤ x1.toInt ∧ x1.toInt ≤ 5 := h_x1
      refine b_icmp_ge (pc := 9) (tgt := 33) hx hb rfl rfl  dX1_rowOfLetters_9 (by decide) (fun c_6 => ?_) (fun c_6 => ?_)
      ·
        refine lv_iload_n (pc := 33) hx hb dX1_rowOfLetters_33 rfl (lv_at hl 1 rfl) ?_
        exact hret x_3 ((fun _ => 0), (fun _ => (fun _ => 0)), (fun _ => (fun _ => 0)), (fun _ => 0), (fun _ => 0)) dX1_rowOfLetters_34 (show ((((-2147483648) ≤ x_3.toInt ∧ x_3.toInt ≤ 2147483647) ∧ ((-1) ≤ x1.toInt ∧ x1.toInt ≤ 5))) by (first | omega | (unfold zBd at *; omega))) (g_psub (wc := [(a0, .inr (1, [.ref a2, .ref a3, .ref a4, .int x0, .int x1, .int x2, .int x3, .int x4, .int x5, .int x6])), (a1, .inl (cI, 5, .inl f0))]) hP [0, 1] rfl) (hD.sub (ws' := [(a0, .inr (1, [.ref a2, .ref a3, .ref a4, .int x0, .int x1, .int x2, .int x3, .int x4, .int x5, .int x6])), (a1, .inl (cI, 5, .inl f0))]) [0, 1] (by decide) rfl) hS
      ·
        refine lv_iload_n (pc := 12) hx hb dX1_rowOfLetters_12 rfl (lv_at hl 1 rfl) ?_
        refine lv_aload_n (pc := 13) hx hb dX1_rowOfLetters_13 rfl (lv_at hl 2 rfl) ?_
        refine va_get (pc := 14) (ci := 1) (v := .int x0) (C := RX1) (T := TX1) (N := 10) hx hb hts iX1 hown hK hP 0 rfl rfl 3 (by decide) (hts _ tw_110) (fun _ h9 => h9) rfl dX1_rowOfLetters_14 ?_
        have bd_h_x0 : (-1) ≤ x0.toInt ∧ x0.toInt ≤ 8 := h_x0
        refine lv_imul (pc := 17) hx hb dX1_rowOfLetters_17 ?_
        refine lv_topi (fun x_7 _ => ?_)
        have rx_7 : zBd x_7.toInt (-2147483648) 2147483647 := n_rng x_7
        refine lv_aload_n (pc := 18) hx hb dX1_rowOfLetters_18 rfl (lv_at hl 2 rfl) ?_
        refine lv_aload_n (pc := 19) hx hb dX1_rowOfLetters_19 rfl (lv_at hl 3 rfl) ?_
        refine lv_iload_n (pc := 20) hx hb dX1_rowOfLetters_20 rfl (lv_at hl 0 rfl) ?_
        refine va_iald (pc := 21) hx hb hK hP 1 2 rfl rfl (n_in rfl (by (first | omega | (unfold zBd at *; omega))) (by (first | omega | (unfold zBd at *; omega)))) dX1_rowOfLetters_21 ?_
        refine lv_topi (fun x_8 ex_8 => ?_)
        have rx_8 : zBd x_8.toInt (-2147483648) 2147483647 := n_rng x_8
        refine gc_i (pc := 22) (wc := [(a0, .inr (1, [.ref a2, .ref a3, .ref a4, .int x0, .int x1, .int x2, .int x3, .int x4, .int x5, .int x6]))]) (wr := [(a1, .inl (cI, 5, .inl f0))]) hP hD hS hA [0] [1] rfl rfl (by decide) (by decide) (by decide) (fun hPc hDc => va_runV (As := [.int x_8]) (rest := [.int x_7]) ⟨hx, hb, hml, hown, hts⟩ (k_X1_digitOfLetter l D cB cC cI cJ _ a0 a2 a3 a4 x_8 x0 x1 x2 x3 x4 x5 x6 h_x0 h_x1 h_x2 h_x3 h_x4) ⟨gcwB hts tw_1008 tw_4 tw_1231 hd_yX1_digitOfLetter ⟨Nat.le_of_ble_eq_true rfl, Nat.le_of_ble_eq_true rfl⟩, hts _ tw_1006, hts _ tw_1007⟩ ⟨gblind, va_recv hK hPc (ci := 1) (q0 := 0) rfl rfl, (gpreS hPc hK hDc hN).2⟩ rfl rfl hl.1 rfl (lv_room (Nat.le_of_ble_eq_true rfl)) dX1_rowOfLetters_22 ⟨Nat.le_of_ble_eq_true rfl, Nat.le_of_ble_eq_true rfl⟩) (fun r_10 u_9 H locs hw_11 hP hD hS => ?_)
        replace hP : va_P D gcl [(a1, .inl (cI, 5, .inl f0)), (a0, .inr (1, [.ref a2, .ref a3, .ref a4, .int x0, .int x1, .int x2, .int x3, .int x4, .int x5, .int x6]))] H := hP
        replace hD : va_D A [(a1, .inl (cI, 5, .inl f0)), (a0, .inr (1, [.ref a2, .ref a3, .ref a4, .int x0, .int x1, .int x2, .int x3, .int x4, .int x5, .int x6]))] := hD
        have hw_12 : (((0 ≤ r_10.toInt ∧ r_10.toInt ≤ 7) ∧ (-x0.toInt < x_8.toInt ∧ x_8.toInt < x0.toInt)) ∨ (((-2147483648) ≤ r_10.toInt ∧ r_10.toInt ≤ 2147483647) ∧ ¬ (-x0.toInt < x_8.toInt ∧ x_8.toInt < x0.toInt))) := hw_11
        have rr_10 : zBd r_10.toInt (-2147483648) 2147483647 := n_rng r_10
        refine lv_iadd (pc := 25) hx hb dX1_rowOfLetters_25 ?_
        refine lv_topi (fun x_13 _ => ?_)
        have rx_13 : zBd x_13.toInt (-2147483648) 2147483647 := n_rng x_13
        refine lv_istore_n (pc := 26) (lv' := [(2, .int x_13), (3, .int x_1), (0, .ref a0), (1, .ref a1)]) hx hb dX1_rowOfLetters_26 rfl hl (by decide) rfl (fun ls hl => ?_)
        refine b_iinc (pc := 27) hx hb dX1_rowOfLetters_27 hl (k := 1) rfl rfl tI_1 (by (first | omega | (unfold zBd at *; omega))) (by (first | omega | (unfold zBd at *; omega))) (by decide) (fun x_14 ex_14 ls hl => ?_)
        replace hl : lv_has ls 4 [(3, .int x_14), (2, .int x_13), (0, .ref a0), (1, .ref a1)] := hl
        refine lv_goto (pc := 30) (tgt := 4) hx hb dX1_rowOfLetters_30 (by decide) ?_
        exact ih_lp_5 x_14 x_13 _ _ ls (by (first | omega | (unfold zBd at *; omega))) (by (first | omega | (unfold zBd at *; omega))) (g_psub hP [1, 0] rfl) (hD.sub [1, 0] (by decide) rfl) hS (lv_sub hl [0, 1, 2, 3] rfl)
  exact lp_5 _ 0 0 _ _ ls (n_c tI_0 (by decide)) (Nat.lt_succ_self _) hP hD hS (lv_sub hl [0, 1, 2, 3] rfl)
set_option maxHeartbeats 4000000 in
set_option maxRecDepth 100000 in
theorem k_X1_worthOf (l : Launch) (D : va_G) (cB cC cI cJ : ClassId) (sz : Nat) (a0 a1 a2 a3 a4 a5 a6 a7 a8 a9 : Nat) (x0 x1 x2 x3 x4 x5 x6 x7 x8 x9 : Int32) (f0 f1 f2 f3 f4 f5 : Nat → Int32) (hp1 : (0 ≤ x0.toInt ∧ x0.toInt ≤ 4)) (h_x1 : zBd x1.toInt (-1) 8) (h_x2 : zBd x2.toInt (-1) 5) (h_x3 : zBd x3.toInt (-1) 6) (h_x4 : zBd x4.toInt 0 6) (h_x5 : zBd x5.toInt 0 16) (h_x8 : zBd x8.toInt 0 1600) (h_x9 : zBd x9.toInt 0 8) (hf_f1 : (∀ j, 0 ≤ (f1 j).toInt ∧ (f1 j).toInt ≤ 1600)) (hf_f2 : (∀ j, 0 ≤ (f2 j).toInt ∧ (f2 j).toInt ≤ 1600)) (hf_f5 : (∀ j, 0 ≤ (f5 j).toInt ∧ (f5 j).toInt ≤ 1600)) : Met l yX1_worthOf (.code yX1_worthOf cX1_worthOf 2 (some .int) :: lw_gd) ({ frames := 5, cells := 0, slots := 0, locals := 117 }) (gPre D [(cB, .byte), (cC, .char), (cI, .int), (cJ, .long)] [.ref a0, .int x0] [(a0, .inr (1, [.ref a1, .ref a2, .ref a3, .int x1, .int x2, .int x3, .int x4, .int x5, .int x6, .int x7])), (a1, .inr (8, [.ref a4])), (a4, .inl (cI, 30, .inl f0)), (a2, .inr (5, [.ref a5, .ref a6, .ref a7, .ref a8, .ref a9, .int x8, .int x9])), (a7, .inl (cI, 8, .inl f1)), (a8, .inl (cI, 8, .inl f2)), (a9, .inl (cI, 64, .inl f3)), (a5, .inl (cI, 1600, .inl f4)), (a6, .inl (cI, 8, .inl f5))] sz) (va_Qi (fun r u => ((((-2147483648) ≤ r.toInt ∧ r.toInt ≤ 2147483647)))) (gB D (va_A [(a0, .inr (1, [.ref a1, .ref a2, .ref a3, .int x1, .int x2, .int x3, .int x4, .int x5, .int x6, .int x7])), (a1, .inr (8, [.ref a4])), (a4, .inl (cI, 30, .inl f0)), (a2, .inr (5, [.ref a5, .ref a6, .ref a7, .ref a8, .ref a9, .int x8, .int x9])), (a7, .inl (cI, 8, .inl f1)), (a8, .inl (cI, 8, .inl f2)), (a9, .inl (cI, 64, .inl f3)), (a5, .inl (cI, 1600, .inl f4)), (a6, .inl (cI, 8, .inl f5))] sz) (fun u : gEx => [(a0, .inr (1, [.ref a1, .ref a2, .ref a3, .int x1, .int x2, .int x3, .int x4, .int x5, .int x6, .int x7])), (a1, .inr (8, [.ref a4])), (a4, .inl (cI, 30, .inl f0)), (a2, .inr (5, [.ref a5, .ref a6, .ref a7, .ref a8, .ref a9, .int x8, .int x9])), (a7, .inl (cI, 8, .inl f1)), (a8, .inl (cI, 8, .inl f2)), (a9, .inl (cI, 64, .inl (u.2.1 0))), (a5, .inl (cI, 1600, .inl f4)), (a6, .inl (cI, 8, .inl f5))])) (va_A [(a0, .inr (1, [.ref a1, .ref a2, .ref a3, .int x1, .int x2, .int x3, .int x4, .int x5, .int x6, .int x7])), (a1, .inr (8, [.ref a4])), (a4, .inl (cI, 30, .inl f0)), (a2, .inr (5, [.ref a5, .ref a6, .ref a7, .ref a8, .ref a9, .int x8, .int x9])), (a7, .inl (cI, 8, .inl f1)), (a8, .inl (cI, 8, .inl f2)), (a9, .inl (cI, 64, .inl f3)), (a5, .inl (cI, 1600, .inl f4)), (a6, .inl (cI, 8, .inl f5))] sz)) 0 0 (va_A [(a0, .inr (1, [.ref a1, .ref a2, .ref a3, .int x1, .int x2, .int x3, .int x4, .int x5, .int x6, .int x7])), (a1, .inr (8, [.ref a4])), (a4, .inl (cI, 30, .inl f0)), (a2, .inr (5, [.ref a5, .ref a6, .ref a7, .ref a8, .ref a9, .int x8, .int x9])), (a7, .inl (cI, 8, .inl f1)), (a8, .inl (cI, 8, .inl f2)), (a9, .inl (cI, 64, .inl f3)), (a5, .inl (cI, 1600, .inl f4)), (a6, .inl (cI, 8, .inl f5))] sz) := by
  refine gOf_i (by decide +kernel) (Nat.le_of_ble_eq_true rfl) ?_
  intro p e s m args below meth c ls A Q hx hb hts hown hml hN hK hP hD hA hl hret
  replace hown : s.vm.findClass RX1 = some m.cls := hown
  have hS : va_S A s.heap s.heap [] := va_S.rf
  replace hP : va_P D gcl [(a0, .inr (1, [.ref a1, .ref a2, .ref a3, .int x1, .int x2, .int x3, .int x4, .int x5, .int x6, .int x7])), (a1, .inr (8, [.ref a4])), (a4, .inl (cI, 30, .inl f0)), (a2, .inr (5, [.ref a5, .ref a6, .ref a7, .ref a8, .ref a9, .int x8, .int x9])), (a7, .inl (cI, 8, .inl f1)), (a8, .inl (cI, 8, .inl f2)), (a9, .inl (cI, 64, .inl f3)), (a5, .inl (cI, 1600, .inl f4)), (a6, .inl (cI, 8, .inl f5))] s.heap := hP
  replace hl : lv_has ls 2 [(0, .ref a0), (1, .int x0)] := hl
  have rx6 : zBd x6.toInt (-2147483648) 2147483647 := n_rng x6
  have rx7 : zBd x7.toInt (-2147483648) 2147483647 := n_rng x7
  refine lv_aload_n (pc := 0) hx hb dX1_worthOf_0 rfl (lv_at hl 0 rfl) ?_
  refine va_get (pc := 1) (ci := 1) (v := .ref a2) (C := RX1) (T := TX1) (N := 10) hx hb hts iX1 hown hK hP 0 rfl rfl 1 (by decide) (hts _ tw_105) (fun _ h9 => h9) rfl dX1_worthOf_1 ?_
  refine lv_iload_n (pc := 4) hx hb dX1_worthOf_4 rfl (lv_at hl 1 rfl) ?_
  refine lv_aload_n (pc := 5) hx hb dX1_worthOf_5 rfl (lv_at hl 0 rfl) ?_
  refine va_get (pc := 6) (ci := 1) (v := .ref a1) (C := RX1) (T := TX1) (N := 10) hx hb hts iX1 hown hK hP 0 rfl rfl 0 (by decide) (hts _ tw_97) (fun _ h9 => h9) rfl dX1_worthOf_6 ?_
  refine lv_iload_n (pc := 9) hx hb dX1_worthOf_9 rfl (lv_at hl 1 rfl) ?_
  refine lv_iload_n (pc := 10) hx hb dX1_worthOf_10 rfl (lv_at hl 1 rfl) ?_
  refine gc_i (pc := 11) (wc := [(a1, .inr (8, [.ref a4])), (a4, .inl (cI, 30, .inl f0))]) (wr := [(a0, .inr (1, [.ref a1, .ref a2, .ref a3, .int x1, .int x2, .int x3, .int x4, .int x5, .int x6, .int x7])), (a2, .inr (5, [.ref a5, .ref a6, .ref a7, .ref a8, .ref a9, .int x8, .int x9])), (a7, .inl (cI, 8, .inl f1)), (a8, .inl (cI, 8, .inl f2)), (a9, .inl (cI, 64, .inl f3)), (a5, .inl (cI, 1600, .inl f4)), (a6, .inl (cI, 8, .inl f5))]) hP hD hS hA [1, 2] [0, 3, 4, 5, 6, 7, 8] rfl rfl (by decide) (by decide) (by decide) (fun hPc hDc => va_runV (As := [.int x0, .int x0]) (rest := [.int x0, .ref a2]) ⟨hx, hb, hml, hown, hts⟩ (k_X8_productOf l D cB cC cI cJ _ a1 a4 x0 x0 f0 hp1 hp1) ⟨gcwB hts tw_799 tw_5 tw_1326 hd_yX8_productOf ⟨Nat.le_of_ble_eq_true rfl, Nat.le_of_ble_eq_true rfl⟩, hts _ tw_797, hts _ tw_798⟩ ⟨gblind, va_recv hK hPc (ci := 8) (q0 := 0) rfl rfl, (gpreS hPc hK hDc hN).2⟩ rfl rfl hl.1 rfl (lv_room (Nat.le_of_ble_eq_true rfl)) dX1_worthOf_11 ⟨Nat.le_of_ble_eq_true rfl, Nat.le_of_ble_eq_true rfl⟩) (fun r_2 u_1 H locs hw_3 hP hD hS => ?_)
  replace hP : va_P D gcl [(a0, .inr (1, [.ref a1, .ref a2, .ref a3, .int x1, .int x2, .int x3, .int x4, .int x5, .int x6, .int x7])), (a2, .inr (5, [.ref a5, .ref a6, .ref a7, .ref a8, .ref a9, .int x8, .int x9])), (a7, .inl (cI, 8, .inl f1)), (a8, .inl (cI, 8, .inl f2)), (a9, .inl (cI, 64, .inl f3)), (a5, .inl (cI, 1600, .inl f4)), (a6, .inl (cI, 8, .inl f5)), (a1, .inr (8, [.ref a4])), (a4, .inl (cI, 30, .inl f0))] H := hP
  replace hD : va_D A [(a0, .inr (1, [.ref a1, .ref a2, .ref a3, .int x1, .int x2, .int x3, .int x4, .int x5, .int x6, .int x7])), (a2, .inr (5, [.ref a5, .ref a6, .ref a7, .ref a8, .ref a9, .int x8, .int x9])), (a7, .inl (cI, 8, .inl f1)), (a8, .inl (cI, 8, .inl f2)), (a9, .inl (cI, 64, .inl f3)), (a5, .inl (cI, 1600, .inl f4)), (a6, .inl (cI, 8, .inl f5)), (a1, .inr (8, [.ref a4])), (a4, .inl (cI, 30, .inl f0))] := hD
  have hw_4 : ((((-2147483648) ≤ r_2.toInt ∧ r_2.toInt ≤ 2147483647))) := hw_3
  have rr_2 : zBd r_2.toInt (-2147483648) 2147483647 := n_rng r_2
  refine lv_aload_n (pc := 14) hx hb dX1_worthOf_14 rfl (lv_at hl 0 rfl) ?_
  refine va_get (pc := 15) (ci := 1) (v := .ref a1) (C := RX1) (T := TX1) (N := 10) hx hb hts iX1 hown hK hP 0 rfl rfl 0 (by decide) (hts _ tw_97) (fun _ h9 => h9) rfl dX1_worthOf_15 ?_
  refine lv_iload_n (pc := 18) hx hb dX1_worthOf_18 rfl (lv_at hl 1 rfl) ?_
  refine gc_i (pc := 19) (wc := [(a1, .inr (8, [.ref a4])), (a4, .inl (cI, 30, .inl f0))]) (wr := [(a0, .inr (1, [.ref a1, .ref a2, .ref a3, .int x1, .int x2, .int x3, .int x4, .int x5, .int x6, .int x7])), (a2, .inr (5, [.ref a5, .ref a6, .ref a7, .ref a8, .ref a9, .int x8, .int x9])), (a7, .inl (cI, 8, .inl f1)), (a8, .inl (cI, 8, .inl f2)), (a9, .inl (cI, 64, .inl f3)), (a5, .inl (cI, 1600, .inl f4)), (a6, .inl (cI, 8, .inl f5))]) hP hD hS hA [7, 8] [0, 1, 2, 3, 4, 5, 6] rfl rfl (by decide) (by decide) (by decide) (fun hPc hDc => va_runV (As := [.int x0]) (rest := [.int r_2, .int x0, .ref a2]) ⟨hx, hb, hml, hown, hts⟩ (k_X8_peakOf l D cB cC cI cJ _ a1 a4 x0 f0 hp1) ⟨gcwB hts tw_1330 tw_5 tw_1327 hd_yX8_peakOf ⟨Nat.le_of_ble_eq_true rfl, Nat.le_of_ble_eq_true rfl⟩, hts _ tw_1328, hts _ tw_1329⟩ ⟨gblind, va_recv hK hPc (ci := 8) (q0 := 0) rfl rfl, (gpreS hPc hK hDc hN).2⟩ rfl rfl hl.1 rfl (lv_room (Nat.le_of_ble_eq_true rfl)) dX1_worthOf_19 ⟨Nat.le_of_ble_eq_true rfl, Nat.le_of_ble_eq_true rfl⟩) (fun r_6 u_5 H locs hw_7 hP hD hS => ?_)
  replace hP : va_P D gcl [(a0, .inr (1, [.ref a1, .ref a2, .ref a3, .int x1, .int x2, .int x3, .int x4, .int x5, .int x6, .int x7])), (a2, .inr (5, [.ref a5, .ref a6, .ref a7, .ref a8, .ref a9, .int x8, .int x9])), (a7, .inl (cI, 8, .inl f1)), (a8, .inl (cI, 8, .inl f2)), (a9, .inl (cI, 64, .inl f3)), (a5, .inl (cI, 1600, .inl f4)), (a6, .inl (cI, 8, .inl f5)), (a1, .inr (8, [.ref a4])), (a4, .inl (cI, 30, .inl f0))] H := hP
  replace hD : va_D A [(a0, .inr (1, [.ref a1, .ref a2, .ref a3, .int x1, .int x2, .int x3, .int x4, .int x5, .int x6, .int x7])), (a2, .inr (5, [.ref a5, .ref a6, .ref a7, .ref a8, .ref a9, .int x8, .int x9])), (a7, .inl (cI, 8, .inl f1)), (a8, .inl (cI, 8, .inl f2)), (a9, .inl (cI, 64, .inl f3)), (a5, .inl (cI, 1600, .inl f4)), (a6, .inl (cI, 8, .inl f5)), (a1, .inr (8, [.ref a4])), (a4, .inl (cI, 30, .inl f0))] := hD
  have hw_8 : ((((-2147483648) ≤ r_6.toInt ∧ r_6.toInt ≤ 2147483647))) := hw_7
  have rr_6 : zBd r_6.toInt (-2147483648) 2147483647 := n_rng r_6
  refine gc_i (pc := 22) (wc := [(a2, .inr (5, [.ref a5, .ref a6, .ref a7, .ref a8, .ref a9, .int x8, .int x9])), (a7, .inl (cI, 8, .inl f1)), (a8, .inl (cI, 8, .inl f2)), (a9, .inl (cI, 64, .inl f3)), (a5, .inl (cI, 1600, .inl f4)), (a6, .inl (cI, 8, .inl f5))]) (wr := [(a0, .inr (1, [.ref a1, .ref a2, .ref a3, .int x1, .int x2, .int x3, .int x4, .int x5, .int x6, .int x7])), (a1, .inr (8, [.ref a4])), (a4, .inl (cI, 30, .inl f0))]) hP hD hS hA [1, 2, 3, 4, 5, 6] [0, 7, 8] rfl rfl (by decide) (by decide) (by decide) (fun hPc hDc => va_runV (As := [.int x0, .int r_2, .int r_6]) (rest := []) ⟨hx, hb, hml, hown, hts⟩ (k_X5_worthBy l D cB cC cI cJ _ a2 a5 a6 a7 a8 a9 x0 r_2 r_6 x8 x9 f1 f2 f3 f4 f5 h_x8 h_x9 hf_f1 hf_f2 hf_f5) ⟨gcwB hts tw_1336 tw_6 tw_1333 hd_yX5_worthBy ⟨Nat.le_of_ble_eq_true rfl, Nat.le_of_ble_eq_true rfl⟩, hts _ tw_1334, hts _ tw_1335⟩ ⟨gblind, va_recv hK hPc (ci := 5) (q0 := 0) rfl rfl, (gpreS hPc hK hDc hN).2⟩ rfl rfl hl.1 rfl (lv_room (Nat.le_of_ble_eq_true rfl)) dX1_worthOf_22 ⟨Nat.le_of_ble_eq_true rfl, Nat.le_of_ble_eq_true rfl⟩) (fun r_10 u_9 H locs hw_11 hP hD hS => ?_)
  replace hP : va_P D gcl [(a0, .inr (1, [.ref a1, .ref a2, .ref a3, .int x1, .int x2, .int x3, .int x4, .int x5, .int x6, .int x7])), (a1, .inr (8, [.ref a4])), (a4, .inl (cI, 30, .inl f0)), (a2, .inr (5, [.ref a5, .ref a6, .ref a7, .ref a8, .ref a9, .int x8, .int x9])), (a7, .inl (cI, 8, .inl f1)), (a8, .inl (cI, 8, .inl f2)), (a9, .inl (cI, 64, .inl (u_9.2.1 0))), (a5, .inl (cI, 1600, .inl f4)), (a6, .inl (cI, 8, .inl f5))] H := hP
  replace hD : va_D A [(a0, .inr (1, [.ref a1, .ref a2, .ref a3, .int x1, .int x2, .int x3, .int x4, .int x5, .int x6, .int x7])), (a1, .inr (8, [.ref a4])), (a4, .inl (cI, 30, .inl f0)), (a2, .inr (5, [.ref a5, .ref a6, .ref a7, .ref a8, .ref a9, .int x8, .int x9])), (a7, .inl (cI, 8, .inl f1)), (a8, .inl (cI, 8, .inl f2)), (a9, .inl (cI, 64, .inl (u_9.2.1 0))), (a5, .inl (cI, 1600, .inl f4)), (a6, .inl (cI, 8, .inl f5))] := hD
  have hw_12 : ((r_10.toInt = 0 ∧ (0 ≤ x9.toInt ∧ x9.toInt ≤ 8)) ∨ (((-2147483648) ≤ r_10.toInt ∧ r_10.toInt ≤ 2147483647) ∧ (1 ≤ x9.toInt ∧ x9.toInt ≤ 8))) := hw_11
  have rr_10 : zBd r_10.toInt (-2147483648) 2147483647 := n_rng r_10
  exact hret r_10 ((fun _ => 0), (fun k => [(u_9.2.1 0)].getD k (fun _ => 0)), (fun _ => (fun _ => 0)), (fun _ => 0), (fun _ => 0)) dX1_worthOf_25 (show ((((-2147483648) ≤ r_10.toInt ∧ r_10.toInt ≤ 2147483647))) by (first | omega | (unfold zBd at *; omega))) (g_psub (wc := [(a0, .inr (1, [.ref a1, .ref a2, .ref a3, .int x1, .int x2, .int x3, .int x4, .int x5, .int x6, .int x7])), (a1, .inr (8, [.ref a4])), (a4, .inl (cI, 30, .inl f0)), (a2, .inr (5, [.ref a5, .ref a6, .ref a7, .ref a8, .ref a9, .int x8, .int x9])), (a7, .inl (cI, 8, .inl f1)), (a8, .inl (cI, 8, .inl f2)), (a9, .inl (cI, 64, .inl (u_9.2.1 0))), (a5, .inl (cI, 1600, .inl f4)), (a6, .inl (cI, 8, .inl f5))]) hP [0, 1, 2, 3, 4, 5, 6, 7, 8] rfl) (hD.sub (ws' := [(a0, .inr (1, [.ref a1, .ref a2, .ref a3, .int x1, .int x2, .int x3, .int x4, .int x5, .int x6, .int x7])), (a1, .inr (8, [.ref a4])), (a4, .inl (cI, 30, .inl f0)), (a2, .inr (5, [.ref a5, .ref a6, .ref a7, .ref a8, .ref a9, .int x8, .int x9])), (a7, .inl (cI, 8, .inl f1)), (a8, .inl (cI, 8, .inl f2)), (a9, .inl (cI, 64, .inl (u_9.2.1 0))), (a5, .inl (cI, 1600, .inl f4)), (a6, .inl (cI, 8, .inl f5))]) [0, 1, 2, 3, 4, 5, 6, 7, 8] (by decide) rfl) hS
set_option maxHeartbeats 4000000 in
set_option maxRecDepth 100000 in
theorem k_X10_start (l : Launch) (D : va_G) (cB cC cI cJ : ClassId) (sz : Nat) (a0 a1 a2 a3 a4 a5 a6 a7 a8 a9 a10 a11 a12 : Nat) (x0 x1 x2 x3 x4 x5 x6 x7 : Int32) (f0 : Nat → Int32) (g0 g1 g2 : Nat → Int64) (h_x0 : zBd x0.toInt 0 4) (h_x1 : zBd x1.toInt (-1) 8) (h_x2 : zBd x2.toInt (-1) 5) (h_x3 : zBd x3.toInt (-1) 6) (h_x4 : zBd x4.toInt 0 6) (h_x5 : zBd x5.toInt 0 16) : Met l yX10_start (.code yX10_start cX10_start 4 none :: lw_gd) ({ frames := 2, cells := 0, slots := 0, locals := 46 }) (gPre D [(cB, .byte), (cC, .char), (cI, .int), (cJ, .long)] [.ref a0, .ref a1] [(a0, .inr (10, [.ref a2, .ref a3, .ref a4, .ref a5, .ref a6, .ref a7, .ref a8, .int x0])), (a1, .inr (1, [.ref a9, .ref a10, .ref a11, .int x1, .int x2, .int x3, .int x4, .int x5, .int x6, .int x7])), (a9, .inr (8, [.ref a12])), (a12, .inl (cI, 30, .inl f0)), (a2, .inl (cJ, 25, .inr (.inl g0))), (a4, .inl (cJ, 25, .inr (.inl g1))), (a3, .inl (cJ, 5, .inr (.inl g2)))] sz) (va_Qv (fun u => (0 ≤ (u.2.2.2.1 0).toInt ∧ (u.2.2.2.1 0).toInt ≤ 4)) (gB D (va_A [(a0, .inr (10, [.ref a2, .ref a3, .ref a4, .ref a5, .ref a6, .ref a7, .ref a8, .int x0])), (a1, .inr (1, [.ref a9, .ref a10, .ref a11, .int x1, .int x2, .int x3, .int x4, .int x5, .int x6, .int x7])), (a9, .inr (8, [.ref a12])), (a12, .inl (cI, 30, .inl f0)), (a2, .inl (cJ, 25, .inr (.inl g0))), (a4, .inl (cJ, 25, .inr (.inl g1))), (a3, .inl (cJ, 5, .inr (.inl g2)))] sz) (fun u : gEx => [(a0, .inr (10, [.ref a2, .ref a3, .ref a4, .ref a5, .ref a6, .ref a7, .ref a8, .int (u.2.2.2.1 0)])), (a1, .inr (1, [.ref a9, .ref a10, .ref a11, .int x1, .int x2, .int x3, .int x4, .int x5, .int x6, .int x7])), (a9, .inr (8, [.ref a12])), (a12, .inl (cI, 30, .inl f0)), (a2, .inl (cJ, 25, .inr (.inl (u.2.2.1 0)))), (a4, .inl (cJ, 25, .inr (.inl (u.2.2.1 1)))), (a3, .inl (cJ, 5, .inr (.inl (u.2.2.1 2))))])) (va_A [(a0, .inr (10, [.ref a2, .ref a3, .ref a4, .ref a5, .ref a6, .ref a7, .ref a8, .int x0])), (a1, .inr (1, [.ref a9, .ref a10, .ref a11, .int x1, .int x2, .int x3, .int x4, .int x5, .int x6, .int x7])), (a9, .inr (8, [.ref a12])), (a12, .inl (cI, 30, .inl f0)), (a2, .inl (cJ, 25, .inr (.inl g0))), (a4, .inl (cJ, 25, .inr (.inl g1))), (a3, .inl (cJ, 5, .inr (.inl g2)))] sz)) 0 0 (va_A [(a0, .inr (10, [.ref a2, .ref a3, .ref a4, .ref a5, .ref a6, .ref a7, .ref a8, .int x0])), (a1, .inr (1, [.ref a9, .ref a10, .ref a11, .int x1, .int x2, .int x3, .int x4, .int x5, .int x6, .int x7])), (a9, .inr (8, [.ref a12])), (a12, .inl (cI, 30, .inl f0)), (a2, .inl (cJ, 25, .inr (.inl g0))), (a4, .inl (cJ, 25, .inr (.inl g1))), (a3, .inl (cJ, 5, .inr (.inl g2)))] sz) := by
  refine gOf_v (by decide +kernel) (Nat.le_of_ble_eq_true rfl) ?_
  intro p e s m args below meth c ls A Q hx hb hts hown hml hN hK hP hD hA hl hret
  replace hown : s.vm.findClass RX10 = some m.cls := hown
  have hS : va_S A s.heap s.heap [] := va_S.rf
  replace hP : va_P D gcl [(a0, .inr (10, [.ref a2, .ref a3, .ref a4, .ref a5, .ref a6, .ref a7, .ref a8, .int x0])), (a1, .inr (1, [.ref a9, .ref a10, .ref a11, .int x1, .int x2, .int x3, .int x4, .int x5, .int x6, .int x7])), (a9, .inr (8, [.ref a12])), (a12, .inl (cI, 30, .inl f0)), (a2, .inl (cJ, 25, .inr (.inl g0))), (a4, .inl (cJ, 25, .inr (.inl g1))), (a3, .inl (cJ, 5, .inr (.inl g2)))] s.heap := hP
  replace hl : lv_has ls 4 [(0, .ref a0), (1, .ref a1)] := hl
  have rx6 : zBd x6.toInt (-2147483648) 2147483647 := n_rng x6
  have rx7 : zBd x7.toInt (-2147483648) 2147483647 := n_rng x7
  refine lv_aload_n (pc := 0) hx hb dX10_start_0 rfl (lv_at hl 0 rfl) ?_
  refine lv_iconst (pc := 1) (v := 0) hx hb dX10_start_1 (by decide) ?_
  refine lv_aload_n (pc := 2) hx hb dX10_start_2 rfl (lv_at hl 1 rfl) ?_
  refine va_getN (pc := 3) (ci := 1) (v := .int x2) (C := RX1) (T := TX1) (N := 10) hx hb hts iX1 hown hK hP 1 rfl rfl 4 (by decide) (va_Nw.use rfl (hN _ tn_117)) (fun _ h9 => h9) rfl dX10_start_3 ?_
  refine lv_iconst (pc := 6) (v := 1) hx hb dX10_start_6 (by decide) ?_
  refine b_isub (pc := 7) hx hb rfl tI_1 (by (first | omega | (unfold zBd at *; omega))) (by (first | omega | (unfold zBd at *; omega))) dX10_start_7 (fun x_1 ex_1 => ?_)
  refine va_mmax (pc := 8) hx hb (hml.trans hl.1.symm) hown (hts _ tw_884) (hts _ tw_885) (hts _ tw_19) (hts _ tw_886) (Nat.le_of_ble_eq_true rfl) (Nat.le_of_ble_eq_true rfl) (Nat.le_of_ble_eq_true rfl) (Nat.le_of_ble_eq_true rfl) dX10_start_8 ?_
  refine lv_topi (fun x_2 ex_2 => ?_)
  have ex_2 := n_max tI_0 rfl ex_2
  have rx_2 : zBd x_2.toInt (-2147483648) 2147483647 := n_rng x_2
  refine va_put (pc := 11) (ci := 10) (v := .int x_2) (ty := .int) (C := RX10) (T := TX10) (N := 8) hx hb hts iX10 tyX10 tyX10_ok nmX10 hown hK hP hD hS 0 rfl rfl 7 (by decide) (hts _ tw_220) (fun _ h9 => h9) rfl (by decide +kernel) rfl rfl (Nat.le_of_ble_eq_true rfl) dX10_start_11 (fun H locs hP hD hS => ?_)
  replace hP : va_P D gcl [(a0, .inr (10, [.ref a2, .ref a3, .ref a4, .ref a5, .ref a6, .ref a7, .ref a8, .int x_2])), (a1, .inr (1, [.ref a9, .ref a10, .ref a11, .int x1, .int x2, .int x3, .int x4, .int x5, .int x6, .int x7])), (a9, .inr (8, [.ref a12])), (a12, .inl (cI, 30, .inl f0)), (a2, .inl (cJ, 25, .inr (.inl g0))), (a4, .inl (cJ, 25, .inr (.inl g1))), (a3, .inl (cJ, 5, .inr (.inl g2)))] H := hP
  replace hD : va_D A [(a0, .inr (10, [.ref a2, .ref a3, .ref a4, .ref a5, .ref a6, .ref a7, .ref a8, .int x_2])), (a1, .inr (1, [.ref a9, .ref a10, .ref a11, .int x1, .int x2, .int x3, .int x4, .int x5, .int x6, .int x7])), (a9, .inr (8, [.ref a12])), (a12, .inl (cI, 30, .inl f0)), (a2, .inl (cJ, 25, .inr (.inl g0))), (a4, .inl (cJ, 25, .inr (.inl g1))), (a3, .inl (cJ, 5, .inr (.inl g2)))] := hD
  refine lv_iconst (pc := 14) (v := 0) hx hb dX10_start_14 (by decide) ?_
  refine lv_istore_n (pc := 15) (lv' := [(2, .int 0), (0, .ref a0), (1, .ref a1)]) hx hb dX10_start_15 rfl hl (by decide) rfl (fun ls hl => ?_)
  have lp_7 : ∀ (n : Nat) (x_3 : Int32) (g_5 g_6 : Nat → Int64) (H : Heap) (locs : List Loc) (ls : Array Slot), (0 ≤ x_3.toInt ∧ x_3.toInt ≤ 2147483647) → (2147483647 - x_3.toInt).toNat < n → va_P D gcl [(a0, .inr (10, [.ref a2, .ref a3, .ref a4, .ref a5, .ref a6, .ref a7, .ref a8, .int x_2])), (a1, .inr (1, [.ref a9, .ref a10, .ref a11, .int x1, .int x2, .int x3, .int x4, .int x5, .int x6, .int x7])), (a9, .inr (8, [.ref a12])), (a12, .inl (cI, 30, .inl f0)), (a2, .inl (cJ, 25, .inr (.inl g_5))), (a4, .inl (cJ, 25, .inr (.inl g_6))), (a3, .inl (cJ, 5, .inr (.inl g2)))] H → va_D A [(a0, .inr (10, [.ref a2, .ref a3, .ref a4, .ref a5, .ref a6, .ref a7, .ref a8, .int x_2])), (a1, .inr (1, [.ref a9, .ref a10, .ref a11, .int x1, .int x2, .int x3, .int x4, .int x5, .int x6, .int x7])), (a9, .inr (8, [.ref a12])), (a12, .inl (cI, 30, .inl f0)), (a2, .inl (cJ, 25, .inr (.inl g_5))), (a4, .inl (cJ, 25, .inr (.inl g_6))), (a3, .inl (cJ, 5, .inr (.inl g2)))] → va_S A s.heap H locs → lv_has ls 4 [(2, .int x_3), (0, .ref a0), (1, .ref a1)] → W p l e ({ frames := 2, cells := 0, slots := 0, locals := 46 }) s m args below meth c H locs 0 0 Q (F0 m 16 ls []) := by
    intro n
    induction n with
    | zero => intro x_3 g_5 g_6 H locs ls hi_4 hmu; exact absurd hmu (Nat.not_lt_zero _)
    | succ n ih_lp_7 =>
      intro x_3 g_5 g_6 H locs ls hi_4 hmu_lp_7 hP hD hS hl
      refine lv_iload_n (pc := 16) hx hb dX10_start_16 rfl (lv_at hl 0 rfl) ?_
      refine lv_aload_n (pc := 17) hx hb dX10_start_17 rfl (lv_at hl 1 rfl) ?_
      refine va_get (pc := 18) (ci := 10) (v := .int x_2) (C := RX10) (T := TX10) (N := 8) hx hb hts iX10 hown hK hP 0 rfl rfl 7 (by decide) (hts _ tw_220) (fun _ h9 => h9) rfl dX10_start_18 ?_
      refine b_icmp_gt (pc := 21) (tgt := 73) hx hb rfl rfl  dX10_start_21 (by decide) (fun c_8 => ?_) (fun c_8 => ?_)
      ·
        refine lv_aload_n (pc := 73) hx hb dX10_start_73 rfl (lv_at hl 1 rfl) ?_
        refine va_get (pc := 74) (ci := 10) (v := .ref a3) (C := RX10) (T := TX10) (N := 8) hx hb hts iX10 hown hK hP 0 rfl rfl 1 (by decide) (hts _ tw_209) (fun _ h9 => h9) rfl dX10_start_74 ?_
        refine lv_iconst (pc := 77) (v := 0) hx hb dX10_start_77 (by decide) ?_
        refine lv_lconst (pc := 78) (v := 0) hx hb dX10_start_78 (by decide) ?_
        refine g_lastore (pc := 79) hx hb hK hP hD hS 6 3 rfl rfl (gin rfl) dX10_start_79 (fun g_9 H locs hP hD hS => ?_)
        replace hP : va_P D gcl [(a0, .inr (10, [.ref a2, .ref a3, .ref a4, .ref a5, .ref a6, .ref a7, .ref a8, .int x_2])), (a1, .inr (1, [.ref a9, .ref a10, .ref a11, .int x1, .int x2, .int x3, .int x4, .int x5, .int x6, .int x7])), (a9, .inr (8, [.ref a12])), (a12, .inl (cI, 30, .inl f0)), (a2, .inl (cJ, 25, .inr (.inl g_5))), (a4, .inl (cJ, 25, .inr (.inl g_6))), (a3, .inl (cJ, 5, .inr (.inl g_9)))] H := hP
        replace hD : va_D A [(a0, .inr (10, [.ref a2, .ref a3, .ref a4, .ref a5, .ref a6, .ref a7, .ref a8, .int x_2])), (a1, .inr (1, [.ref a9, .ref a10, .ref a11, .int x1, .int x2, .int x3, .int x4, .int x5, .int x6, .int x7])), (a9, .inr (8, [.ref a12])), (a12, .inl (cI, 30, .inl f0)), (a2, .inl (cJ, 25, .inr (.inl g_5))), (a4, .inl (cJ, 25, .inr (.inl g_6))), (a3, .inl (cJ, 5, .inr (.inl g_9)))] := hD
        exact hret ((fun _ => 0), (fun _ => (fun _ => 0)), (fun k => [g_5, g_6, g_9].getD k (fun _ => 0)), (fun k => [x_2].getD k 0), (fun _ => 0)) dX10_start_80 (show (0 ≤ (x_2 : Int32).toInt ∧ (x_2 : Int32).toInt ≤ 4) by (first | omega | (unfold zBd at *; omega))) (g_psub (wc := [(a0, .inr (10, [.ref a2, .ref a3, .ref a4, .ref a5, .ref a6, .ref a7, .ref a8, .int x_2])), (a1, .inr (1, [.ref a9, .ref a10, .ref a11, .int x1, .int x2, .int x3, .int x4, .int x5, .int x6, .int x7])), (a9, .inr (8, [.ref a12])), (a12, .inl (cI, 30, .inl f0)), (a2, .inl (cJ, 25, .inr (.inl g_5))), (a4, .inl (cJ, 25, .inr (.inl g_6))), (a3, .inl (cJ, 5, .inr (.inl g_9)))]) hP [0, 1, 2, 3, 4, 5, 6] rfl) (hD.sub (ws' := [(a0, .inr (10, [.ref a2, .ref a3, .ref a4, .ref a5, .ref a6, .ref a7, .ref a8, .int x_2])), (a1, .inr (1, [.ref a9, .ref a10, .ref a11, .int x1, .int x2, .int x3, .int x4, .int x5, .int x6, .int x7])), (a9, .inr (8, [.ref a12])), (a12, .inl (cI, 30, .inl f0)), (a2, .inl (cJ, 25, .inr (.inl g_5))), (a4, .inl (cJ, 25, .inr (.inl g_6))), (a3, .inl (cJ, 5, .inr (.inl g_9)))]) [0, 1, 2, 3, 4, 5, 6] (by decide) rfl) hS
      ·
        refine lv_iconst (pc := 24) (v := 0) hx hb dX10_start_24 (by decide) ?_
        refine lv_istore_n (pc := 25) (lv' := [(3, .int 0), (2, .int x_3), (0, .ref a0), (1, .ref a1)]) hx hb dX10_start_25 rfl hl (by decide) rfl (fun ls hl => ?_)
        have lp_13 : ∀ (n : Nat) (x_10 : Int32) (g_12 : Nat → Int64) (H : Heap) (locs : List Loc) (ls : Array Slot), (0 ≤ x_10.toInt ∧ x_10.toInt ≤ 2147483647) → (2147483647 - x_10.toInt).toNat < n → va_P D gcl [(a0, .inr (10, [.ref a2, .ref a3, .ref a4, .ref a5, .ref a6, .ref a7, .ref a8, .int x_2])), (a1, .inr (1, [.ref a9, .ref a10, .ref a11, .int x1, .int x2, .int x3, .int x4, .int x5, .int x6, .int x7])), (a9, .inr (8, [.ref a12])), (a12, .inl (cI, 30, .inl f0)), (a2, .inl (cJ, 25, .inr (.inl g_12))), (a4, .inl (cJ, 25, .inr (.inl g_6))), (a3, .inl (cJ, 5, .inr (.inl g2)))] H → va_D A [(a0, .inr (10, [.ref a2, .ref a3, .ref a4, .ref a5, .ref a6, .ref a7, .ref a8, .int x_2])), (a1, .inr (1, [.ref a9, .ref a10, .ref a11, .int x1, .int x2, .int x3, .int x4, .int x5, .int x6, .int x7])), (a9, .inr (8, [.ref a12])), (a12, .inl (cI, 30, .inl f0)), (a2, .inl (cJ, 25, .inr (.inl g_12))), (a4, .inl (cJ, 25, .inr (.inl g_6))), (a3, .inl (cJ, 5, .inr (.inl g2)))] → va_S A s.heap H locs → lv_has ls 4 [(3, .int x_10), (2, .int x_3), (0, .ref a0), (1, .ref a1)] → W p l e ({ frames := 2, cells := 0, slots := 0, locals := 46 }) s m args below meth c H locs 0 0 Q (F0 m 26 ls []) := by
          intro n
          induction n with
          | zero => intro x_10 g_12 H locs ls hi_11 hmu; exact absurd hmu (Nat.not_lt_zero _)
          | succ n ih_lp_13 =>
            intro x_10 g_12 H locs ls hi_11 hmu_lp_13 hP hD hS hl
            refine lv_iload_n (pc := 26) hx hb dX10_start_26 rfl (lv_at hl 0 rfl) ?_
            refine lv_aload_n (pc := 27) hx hb dX10_start_27 rfl (lv_at hl 2 rfl) ?_
            refine va_get (pc := 28) (ci := 10) (v := .int x_2) (C := RX10) (T := TX10) (N := 8) hx hb hts iX10 hown hK hP 0 rfl rfl 7 (by decide) (hts _ tw_220) (fun _ h9 => h9) rfl dX10_start_28 ?_
            refine b_icmp_gt (pc := 31) (tgt := 60) hx hb rfl rfl  dX10_start_31 (by decide) (fun c_14 => ?_) (fun c_14 => ?_)
            ·
              refine lv_aload_n (pc := 60) hx hb dX10_start_60 rfl (lv_at hl 2 rfl) ?_
              refine va_get (pc := 61) (ci := 10) (v := .ref a4) (C := RX10) (T := TX10) (N := 8) hx hb hts iX10 hown hK hP 0 rfl rfl 2 (by decide) (hts _ tw_210) (fun _ h9 => h9) rfl dX10_start_61 ?_
              refine lv_iload_n (pc := 64) hx hb dX10_start_64 rfl (lv_at hl 1 rfl) ?_
              refine lv_lconst (pc := 65) (v := 0) hx hb dX10_start_65 (by decide) ?_
              refine g_lastore (pc := 66) hx hb hK hP hD hS 5 3 rfl rfl (n_in rfl (by (first | omega | (unfold zBd at *; omega))) (by (first | omega | (unfold zBd at *; omega)))) dX10_start_66 (fun g_15 H locs hP hD hS => ?_)
              replace hP : va_P D gcl [(a0, .inr (10, [.ref a2, .ref a3, .ref a4, .ref a5, .ref a6, .ref a7, .ref a8, .int x_2])), (a1, .inr (1, [.ref a9, .ref a10, .ref a11, .int x1, .int x2, .int x3, .int x4, .int x5, .int x6, .int x7])), (a9, .inr (8, [.ref a12])), (a12, .inl (cI, 30, .inl f0)), (a2, .inl (cJ, 25, .inr (.inl g_12))), (a4, .inl (cJ, 25, .inr (.inl g_15))), (a3, .inl (cJ, 5, .inr (.inl g2)))] H := hP
              replace hD : va_D A [(a0, .inr (10, [.ref a2, .ref a3, .ref a4, .ref a5, .ref a6, .ref a7, .ref a8, .int x_2])), (a1, .inr (1, [.ref a9, .ref a10, .ref a11, .int x1, .int x2, .int x3, .int x4, .int x5, .int x6, .int x7])), (a9, .inr (8, [.ref a12])), (a12, .inl (cI, 30, .inl f0)), (a2, .inl (cJ, 25, .inr (.inl g_12))), (a4, .inl (cJ, 25, .inr (.inl g_15))), (a3, .inl (cJ, 5, .inr (.inl g2)))] := hD
              refine b_iinc (pc := 67) hx hb dX10_start_67 hl (k := 1) rfl rfl tI_1 (by (first | omega | (unfold zBd at *; omega))) (by (first | omega | (unfold zBd at *; omega))) (by decide) (fun x_16 ex_16 ls hl => ?_)
              replace hl : lv_has ls 4 [(2, .int x_16), (3, .int x_10), (0, .ref a0), (1, .ref a1)] := hl
              refine lv_goto (pc := 70) (tgt := 16) hx hb dX10_start_70 (by decide) ?_
              exact ih_lp_7 x_16 g_12 g_15 _ _ ls (by (first | omega | (unfold zBd at *; omega))) (by (first | omega | (unfold zBd at *; omega))) hP hD hS (lv_sub hl [0, 2, 3] rfl)
            ·
              refine lv_aload_n (pc := 34) hx hb dX10_start_34 rfl (lv_at hl 2 rfl) ?_
              refine va_get (pc := 35) (ci := 10) (v := .ref a2) (C := RX10) (T := TX10) (N := 8) hx hb hts iX10 hown hK hP 0 rfl rfl 0 (by decide) (hts _ tw_207) (fun _ h9 => h9) rfl dX10_start_35 ?_
              refine lv_iload_n (pc := 38) hx hb dX10_start_38 rfl (lv_at hl 1 rfl) ?_
              refine lv_iconst (pc := 39) (v := 5) hx hb dX10_start_39 (by decide) ?_
              refine b_imul (pc := 40) hx hb rfl tI_5 (by (first | omega | (unfold zBd at *; omega))) (by (first | omega | (unfold zBd at *; omega))) dX10_start_40 (fun x_17 ex_17 => ?_)
              refine lv_iload_n (pc := 41) hx hb dX10_start_41 rfl (lv_at hl 0 rfl) ?_
              refine b_iadd (pc := 42) hx hb rfl rfl (by (first | omega | (unfold zBd at *; omega))) (by (first | omega | (unfold zBd at *; omega))) dX10_start_42 (fun x_18 ex_18 => ?_)
              refine lv_aload_n (pc := 43) hx hb dX10_start_43 rfl (lv_at hl 3 rfl) ?_
              refine va_getN (pc := 44) (ci := 1) (v := .ref a9) (C := RX1) (T := TX1) (N := 10) hx hb hts iX1 hown hK hP 1 rfl rfl 0 (by decide) (va_Nw.use rfl (hN _ tn_99)) (fun _ h9 => h9) rfl dX10_start_44 ?_
              refine lv_iload_n (pc := 47) hx hb dX10_start_47 rfl (lv_at hl 1 rfl) ?_
              refine lv_iload_n (pc := 48) hx hb dX10_start_48 rfl (lv_at hl 0 rfl) ?_
              refine gc_i (pc := 49) (wc := [(a9, .inr (8, [.ref a12])), (a12, .inl (cI, 30, .inl f0))]) (wr := [(a0, .inr (10, [.ref a2, .ref a3, .ref a4, .ref a5, .ref a6, .ref a7, .ref a8, .int x_2])), (a1, .inr (1, [.ref a9, .ref a10, .ref a11, .int x1, .int x2, .int x3, .int x4, .int x5, .int x6, .int x7])), (a2, .inl (cJ, 25, .inr (.inl g_12))), (a4, .inl (cJ, 25, .inr (.inl g_6))), (a3, .inl (cJ, 5, .inr (.inl g2)))]) hP hD hS hA [2, 3] [0, 1, 4, 5, 6] rfl rfl (by decide) (by decide) (by decide) (fun hPc hDc => va_runV (As := [.int x_3, .int x_10]) (rest := [.int x_18, .ref a2]) ⟨hx, hb, hml, hown, hts⟩ (k_X8_productOf l D cB cC cI cJ _ a9 a12 x_3 x_10 f0 (by  (first | omega | (unfold zBd at *; omega))) (by  (first | omega | (unfold zBd at *; omega)))) ⟨gcwB hts tw_799 tw_5 tw_887 hd_yX8_productOf ⟨Nat.le_of_ble_eq_true rfl, Nat.le_of_ble_eq_true rfl⟩, hts _ tw_797, hts _ tw_798⟩ ⟨gblind, va_recv hK hPc (ci := 8) (q0 := 0) rfl rfl, (gpreS hPc hK hDc hN).2⟩ rfl rfl hl.1 rfl (lv_room (Nat.le_of_ble_eq_true rfl)) dX10_start_49 ⟨Nat.le_of_ble_eq_true rfl, Nat.le_of_ble_eq_true rfl⟩) (fun r_20 u_19 H locs hw_21 hP hD hS => ?_)
              replace hP : va_P D gcl [(a0, .inr (10, [.ref a2, .ref a3, .ref a4, .ref a5, .ref a6, .ref a7, .ref a8, .int x_2])), (a1, .inr (1, [.ref a9, .ref a10, .ref a11, .int x1, .int x2, .int x3, .int x4, .int x5, .int x6, .int x7])), (a2, .inl (cJ, 25, .inr (.inl g_12))), (a4, .inl (cJ, 25, .inr (.inl g_6))), (a3, .inl (cJ, 5, .inr (.inl g2))), (a9, .inr (8, [.ref a12])), (a12, .inl (cI, 30, .inl f0))] H := hP
              replace hD : va_D A [(a0, .inr (10, [.ref a2, .ref a3, .ref a4, .ref a5, .ref a6, .ref a7, .ref a8, .int x_2])), (a1, .inr (1, [.ref a9, .ref a10, .ref a11, .int x1, .int x2, .int x3, .int x4, .int x5, .int x6, .int x7])), (a2, .inl (cJ, 25, .inr (.inl g_12))), (a4, .inl (cJ, 25, .inr (.inl g_6))), (a3, .inl (cJ, 5, .inr (.inl g2))), (a9, .inr (8, [.ref a12])), (a12, .inl (cI, 30, .inl f0))] := hD
              have hw_22 : ((((-2147483648) ≤ r_20.toInt ∧ r_20.toInt ≤ 2147483647))) := hw_21
              have rr_20 : zBd r_20.toInt (-2147483648) 2147483647 := n_rng r_20
              refine b_i2l (pc := 52) hx hb rfl dX10_start_52 (fun y_23 ey_23 => ?_)
              have ry_23 : zBd r_20.toInt (-2147483648) 2147483647 := n_rng r_20
              refine g_lastore (pc := 53) hx hb hK hP hD hS 2 3 rfl rfl (n_in rfl (by (first | omega | (unfold zBd at *; omega))) (by (first | omega | (unfold zBd at *; omega)))) dX10_start_53 (fun g_24 H locs hP hD hS => ?_)
              replace hP : va_P D gcl [(a0, .inr (10, [.ref a2, .ref a3, .ref a4, .ref a5, .ref a6, .ref a7, .ref a8, .int x_2])), (a1, .inr (1, [.ref a9, .ref a10, .ref a11, .int x1, .int x2, .int x3, .int x4, .int x5, .int x6, .int x7])), (a2, .inl (cJ, 25, .inr (.inl g_24))), (a4, .inl (cJ, 25, .inr (.inl g_6))), (a3, .inl (cJ, 5, .inr (.inl g2))), (a9, .inr (8, [.ref a12])), (a12, .inl (cI, 30, .inl f0))] H := hP
              replace hD : va_D A [(a0, .inr (10, [.ref a2, .ref a3, .ref a4, .ref a5, .ref a6, .ref a7, .ref a8, .int x_2])), (a1, .inr (1, [.ref a9, .ref a10, .ref a11, .int x1, .int x2, .int x3, .int x4, .int x5, .int x6, .int x7])), (a2, .inl (cJ, 25, .inr (.inl g_24))), (a4, .inl (cJ, 25, .inr (.inl g_6))), (a3, .inl (cJ, 5, .inr (.inl g2))), (a9, .inr (8, [.ref a12])), (a12, .inl (cI, 30, .inl f0))] := hD
              refine b_iinc (pc := 54) hx hb dX10_start_54 hl (k := 0) rfl rfl tI_1 (by (first | omega | (unfold zBd at *; omega))) (by (first | omega | (unfold zBd at *; omega))) (by decide) (fun x_25 ex_25 ls hl => ?_)
              replace hl : lv_has ls 4 [(3, .int x_25), (2, .int x_3), (0, .ref a0), (1, .ref a1)] := hl
              refine lv_goto (pc := 57) (tgt := 26) hx hb dX10_start_57 (by decide) ?_
              exact ih_lp_13 x_25 g_24 _ _ ls (by (first | omega | (unfold zBd at *; omega))) (by (first | omega | (unfold zBd at *; omega))) (g_psub hP [0, 1, 5, 6, 2, 3, 4] rfl) (hD.sub [0, 1, 5, 6, 2, 3, 4] (by decide) rfl) hS (lv_sub hl [0, 1, 2, 3] rfl)
        exact lp_13 _ 0 g_5 _ _ ls (n_c tI_0 (by decide)) (Nat.lt_succ_self _) hP hD hS (lv_sub hl [0, 1, 2, 3] rfl)
  exact lp_7 _ 0 g0 g1 _ _ ls (n_c tI_0 (by decide)) (Nat.lt_succ_self _) hP hD hS (lv_sub hl [0, 1, 2] rfl)
