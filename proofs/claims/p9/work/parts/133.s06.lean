set_option maxHeartbeats 4000000 in
set_option maxRecDepth 100000 in
theorem k_X10_lineCount (l : Launch) (D : va_G) (cB cC cI cJ : ClassId) (sz : Nat) (a0 a1 a2 a3 a4 a5 a6 a7 : Nat) (x0 : Int32) (f0 : Nat → Int32) (h_x0 : zBd x0.toInt 0 4) (hf_f0 : (∀ j, (-3) ≤ (f0 j).toInt ∧ (f0 j).toInt ≤ 24)) : Met l yX10_lineCount (.code yX10_lineCount cX10_lineCount 3 (some .int) :: lw_gd) ({ frames := 0, cells := 0, slots := 0, locals := 0 }) (gPre D [(cB, .byte), (cC, .char), (cI, .int), (cJ, .long)] [.ref a0] [(a0, .inr (10, [.ref a1, .ref a2, .ref a3, .ref a4, .ref a5, .ref a6, .ref a7, .int x0])), (a6, .inl (cI, 5, .inl f0))] sz) (va_Qi (fun r u => ((((-2147483648) ≤ r.toInt ∧ r.toInt ≤ 2147483647) ∧ (0 ≤ x0.toInt ∧ x0.toInt ≤ 4)))) (gB D (va_A [(a0, .inr (10, [.ref a1, .ref a2, .ref a3, .ref a4, .ref a5, .ref a6, .ref a7, .int x0])), (a6, .inl (cI, 5, .inl f0))] sz) (fun u : gEx => [(a0, .inr (10, [.ref a1, .ref a2, .ref a3, .ref a4, .ref a5, .ref a6, .ref a7, .int x0])), (a6, .inl (cI, 5, .inl f0))])) (va_A [(a0, .inr (10, [.ref a1, .ref a2, .ref a3, .ref a4, .ref a5, .ref a6, .ref a7, .int x0])), (a6, .inl (cI, 5, .inl f0))] sz)) 0 0 (va_A [(a0, .inr (10, [.ref a1, .ref a2, .ref a3, .ref a4, .ref a5, .ref a6, .ref a7, .int x0])), (a6, .inl (cI, 5, .inl f0))] sz) := by
  refine gOf_i (by decide +kernel) (Nat.le_of_ble_eq_true rfl) ?_
  intro p e s m args below meth c ls A Q hx hb hts hown hml hN hK hP hD hA hl hret
  replace hown : s.vm.findClass RX10 = some m.cls := hown
  have hS : va_S A s.heap s.heap [] := va_S.rf
  replace hP : va_P D gcl [(a0, .inr (10, [.ref a1, .ref a2, .ref a3, .ref a4, .ref a5, .ref a6, .ref a7, .int x0])), (a6, .inl (cI, 5, .inl f0))] s.heap := hP
  replace hl : lv_has ls 3 [(0, .ref a0)] := hl
  refine lv_iconst (pc := 0) (v := 1) hx hb dX10_lineCount_0 (by decide) ?_
  refine lv_istore_n (pc := 1) (lv' := [(1, .int 1), (0, .ref a0)]) hx hb dX10_lineCount_1 rfl hl (by decide) rfl (fun ls hl => ?_)
  refine lv_iconst (pc := 2) (v := 0) hx hb dX10_lineCount_2 (by decide) ?_
  refine lv_istore_n (pc := 3) (lv' := [(2, .int 0), (1, .int 1), (0, .ref a0)]) hx hb dX10_lineCount_3 rfl hl (by decide) rfl (fun ls hl => ?_)
  have lp_5 : ∀ (n : Nat) (x_1 x_3 : Int32) (H : Heap) (locs : List Loc) (ls : Array Slot), (0 ≤ x_1.toInt ∧ x_1.toInt ≤ 2147483647) → (2147483647 - x_1.toInt).toNat < n → va_P D gcl [(a0, .inr (10, [.ref a1, .ref a2, .ref a3, .ref a4, .ref a5, .ref a6, .ref a7, .int x0])), (a6, .inl (cI, 5, .inl f0))] H → va_D A [(a0, .inr (10, [.ref a1, .ref a2, .ref a3, .ref a4, .ref a5, .ref a6, .ref a7, .int x0])), (a6, .inl (cI, 5, .inl f0))] → va_S A s.heap H locs → lv_has ls 3 [(2, .int x_1), (1, .int x_3), (0, .ref a0)] → W p l e ({ frames := 0, cells := 0, slots := 0, locals := 0 }) s m args below meth c H locs 0 0 Q (F0 m 4 ls []) := by
    intro n
    induction n with
    | zero => intro x_1 x_3 H locs ls hi_2 hmu; exact absurd hmu (Nat.not_lt_zero _)
    | succ n ih_lp_5 =>
      intro x_1 x_3 H locs ls hi_2 hmu_lp_5 hP hD hS hl
      have hi_4 := n_rng x_3
      refine lv_iload_n (pc := 4) hx hb dX10_lineCount_4 rfl (lv_at hl 0 rfl) ?_
      refine lv_aload_n (pc := 5) hx hb dX10_lineCount_5 rfl (lv_at hl 2 rfl) ?_
      refine va_get (pc := 6) (ci := 10) (v := .int x0) (C := RX10) (T := TX10) (N := 8) hx hb hts iX10 hown hK hP 0 rfl rfl 7 (by decide) (hts _ tw_220) (fun _ h9 => h9) rfl dX10_lineCount_6 ?_
      have bd_h_x0 : 0 ≤ x0.toInt ∧ x0.toInt ≤ 4 := h_x0
      refine b_icmp_ge (pc := 9) (tgt := 27) hx hb rfl rfl  dX10_lineCount_9 (by decide) (fun c_6 => ?_) (fun c_6 => ?_)
      ·
        refine lv_iload_n (pc := 27) hx hb dX10_lineCount_27 rfl (lv_at hl 1 rfl) ?_
        exact hret x_3 ((fun _ => 0), (fun _ => (fun _ => 0)), (fun _ => (fun _ => 0)), (fun _ => 0), (fun _ => 0)) dX10_lineCount_28 (show ((((-2147483648) ≤ x_3.toInt ∧ x_3.toInt ≤ 2147483647) ∧ (0 ≤ x0.toInt ∧ x0.toInt ≤ 4))) by (first | omega | (unfold zBd at *; omega))) (g_psub (wc := [(a0, .inr (10, [.ref a1, .ref a2, .ref a3, .ref a4, .ref a5, .ref a6, .ref a7, .int x0])), (a6, .inl (cI, 5, .inl f0))]) hP [0, 1] rfl) (hD.sub (ws' := [(a0, .inr (10, [.ref a1, .ref a2, .ref a3, .ref a4, .ref a5, .ref a6, .ref a7, .int x0])), (a6, .inl (cI, 5, .inl f0))]) [0, 1] (by decide) rfl) hS
      ·
        refine lv_iload_n (pc := 12) hx hb dX10_lineCount_12 rfl (lv_at hl 1 rfl) ?_
        refine lv_aload_n (pc := 13) hx hb dX10_lineCount_13 rfl (lv_at hl 2 rfl) ?_
        refine va_get (pc := 14) (ci := 10) (v := .ref a6) (C := RX10) (T := TX10) (N := 8) hx hb hts iX10 hown hK hP 0 rfl rfl 5 (by decide) (hts _ tw_214) (fun _ h9 => h9) rfl dX10_lineCount_14 ?_
        refine lv_iload_n (pc := 17) hx hb dX10_lineCount_17 rfl (lv_at hl 0 rfl) ?_
        refine va_iald (pc := 18) hx hb hK hP 1 2 rfl rfl (n_in rfl (by (first | omega | (unfold zBd at *; omega))) (by (first | omega | (unfold zBd at *; omega)))) dX10_lineCount_18 ?_
        refine lv_topi (fun x_7 ex_7 => ?_)
        have rx_7 : ((-3) ≤ x_7.toInt ∧ x_7.toInt ≤ 24) := by rw [ex_7]; exact hf_f0 _
        refine lv_imul (pc := 19) hx hb dX10_lineCount_19 ?_
        refine lv_topi (fun x_8 _ => ?_)
        have rx_8 : zBd x_8.toInt (-2147483648) 2147483647 := n_rng x_8
        refine lv_istore_n (pc := 20) (lv' := [(1, .int x_8), (2, .int x_1), (0, .ref a0)]) hx hb dX10_lineCount_20 rfl hl (by decide) rfl (fun ls hl => ?_)
        refine b_iinc (pc := 21) hx hb dX10_lineCount_21 hl (k := 1) rfl rfl tI_1 (by (first | omega | (unfold zBd at *; omega))) (by (first | omega | (unfold zBd at *; omega))) (by decide) (fun x_9 ex_9 ls hl => ?_)
        replace hl : lv_has ls 3 [(2, .int x_9), (1, .int x_8), (0, .ref a0)] := hl
        refine lv_goto (pc := 24) (tgt := 4) hx hb dX10_lineCount_24 (by decide) ?_
        exact ih_lp_5 x_9 x_8 _ _ ls (by (first | omega | (unfold zBd at *; omega))) (by (first | omega | (unfold zBd at *; omega))) hP hD hS (lv_sub hl [0, 1, 2] rfl)
  exact lp_5 _ 0 1 _ _ ls (n_c tI_0 (by decide)) (Nat.lt_succ_self _) hP hD hS (lv_sub hl [0, 1, 2] rfl)
set_option maxHeartbeats 4000000 in
set_option maxRecDepth 100000 in
theorem k_X10_squaresAt (l : Launch) (D : va_G) (cB cC cI cJ : ClassId) (sz : Nat) (a0 a1 a2 a3 a4 a5 a6 a7 : Nat) (x0 x1 : Int32) (f0 f1 : Nat → Int32) (g0 g1 g2 : Nat → Int64) (h_x1 : zBd x1.toInt 0 4) : Met l yX10_squaresAt (.code yX10_squaresAt cX10_squaresAt 5 (some .long) :: lw_gd) ({ frames := 0, cells := 0, slots := 0, locals := 0 }) (gPre D [(cB, .byte), (cC, .char), (cI, .int), (cJ, .long)] [.ref a0, .int x0] [(a0, .inr (10, [.ref a1, .ref a2, .ref a3, .ref a4, .ref a5, .ref a6, .ref a7, .int x1])), (a4, .inl (cI, 5, .inl f0)), (a5, .inl (cI, 5, .inl f1)), (a2, .inl (cJ, 5, .inr (.inl g0))), (a1, .inl (cJ, 25, .inr (.inl g1))), (a3, .inl (cJ, 25, .inr (.inl g2)))] sz) (va_Ql (fun r u => ((((-9223372036854775808) ≤ r.toInt ∧ r.toInt ≤ 9223372036854775807)))) (gB D (va_A [(a0, .inr (10, [.ref a1, .ref a2, .ref a3, .ref a4, .ref a5, .ref a6, .ref a7, .int x1])), (a4, .inl (cI, 5, .inl f0)), (a5, .inl (cI, 5, .inl f1)), (a2, .inl (cJ, 5, .inr (.inl g0))), (a1, .inl (cJ, 25, .inr (.inl g1))), (a3, .inl (cJ, 25, .inr (.inl g2)))] sz) (fun u : gEx => [(a0, .inr (10, [.ref a1, .ref a2, .ref a3, .ref a4, .ref a5, .ref a6, .ref a7, .int x1])), (a4, .inl (cI, 5, .inl f0)), (a5, .inl (cI, 5, .inl f1)), (a2, .inl (cJ, 5, .inr (.inl g0))), (a1, .inl (cJ, 25, .inr (.inl g1))), (a3, .inl (cJ, 25, .inr (.inl g2)))])) (va_A [(a0, .inr (10, [.ref a1, .ref a2, .ref a3, .ref a4, .ref a5, .ref a6, .ref a7, .int x1])), (a4, .inl (cI, 5, .inl f0)), (a5, .inl (cI, 5, .inl f1)), (a2, .inl (cJ, 5, .inr (.inl g0))), (a1, .inl (cJ, 25, .inr (.inl g1))), (a3, .inl (cJ, 25, .inr (.inl g2)))] sz)) 0 0 (va_A [(a0, .inr (10, [.ref a1, .ref a2, .ref a3, .ref a4, .ref a5, .ref a6, .ref a7, .int x1])), (a4, .inl (cI, 5, .inl f0)), (a5, .inl (cI, 5, .inl f1)), (a2, .inl (cJ, 5, .inr (.inl g0))), (a1, .inl (cJ, 25, .inr (.inl g1))), (a3, .inl (cJ, 25, .inr (.inl g2)))] sz) := by
  refine gOf_l (by decide +kernel) (Nat.le_of_ble_eq_true rfl) ?_
  intro p e s m args below meth c ls A Q hx hb hts hown hml hN hK hP hD hA hl hret
  replace hown : s.vm.findClass RX10 = some m.cls := hown
  have hS : va_S A s.heap s.heap [] := va_S.rf
  replace hP : va_P D gcl [(a0, .inr (10, [.ref a1, .ref a2, .ref a3, .ref a4, .ref a5, .ref a6, .ref a7, .int x1])), (a4, .inl (cI, 5, .inl f0)), (a5, .inl (cI, 5, .inl f1)), (a2, .inl (cJ, 5, .inr (.inl g0))), (a1, .inl (cJ, 25, .inr (.inl g1))), (a3, .inl (cJ, 25, .inr (.inl g2)))] s.heap := hP
  replace hl : lv_has ls 5 [(0, .ref a0), (1, .int x0)] := hl
  have rx0 : zBd x0.toInt (-2147483648) 2147483647 := n_rng x0
  refine lv_aload_n (pc := 0) hx hb dX10_squaresAt_0 rfl (lv_at hl 0 rfl) ?_
  refine va_get (pc := 1) (ci := 10) (v := .int x1) (C := RX10) (T := TX10) (N := 8) hx hb hts iX10 hown hK hP 0 rfl rfl 7 (by decide) (hts _ tw_220) (fun _ h9 => h9) rfl dX10_squaresAt_1 ?_
  have bd_h_x1 : 0 ≤ x1.toInt ∧ x1.toInt ≤ 4 := h_x1
  refine lv_iconst (pc := 4) (v := 5) hx hb dX10_squaresAt_4 (by decide) ?_
  refine b_imul (pc := 5) hx hb rfl tI_5 (by (first | omega | (unfold zBd at *; omega))) (by (first | omega | (unfold zBd at *; omega))) dX10_squaresAt_5 (fun x_1 ex_1 => ?_)
  refine lv_aload_n (pc := 6) hx hb dX10_squaresAt_6 rfl (lv_at hl 0 rfl) ?_
  refine va_get (pc := 7) (ci := 10) (v := .int x1) (C := RX10) (T := TX10) (N := 8) hx hb hts iX10 hown hK hP 0 rfl rfl 7 (by decide) (hts _ tw_220) (fun _ h9 => h9) rfl dX10_squaresAt_7 ?_
  refine b_iadd (pc := 10) hx hb rfl rfl (by (first | omega | (unfold zBd at *; omega))) (by (first | omega | (unfold zBd at *; omega))) dX10_squaresAt_10 (fun x_2 ex_2 => ?_)
  refine lv_istore_n (pc := 11) (lv' := [(2, .int x_2), (0, .ref a0), (1, .int x0)]) hx hb dX10_squaresAt_11 rfl hl (by decide) rfl (fun ls hl => ?_)
  refine lv_aload_n (pc := 12) hx hb dX10_squaresAt_12 rfl (lv_at hl 1 rfl) ?_
  refine va_get (pc := 13) (ci := 10) (v := .ref a4) (C := RX10) (T := TX10) (N := 8) hx hb hts iX10 hown hK hP 0 rfl rfl 3 (by decide) (hts _ tw_211) (fun _ h9 => h9) rfl dX10_squaresAt_13 ?_
  refine lv_aload_n (pc := 16) hx hb dX10_squaresAt_16 rfl (lv_at hl 1 rfl) ?_
  refine va_get (pc := 17) (ci := 10) (v := .int x1) (C := RX10) (T := TX10) (N := 8) hx hb hts iX10 hown hK hP 0 rfl rfl 7 (by decide) (hts _ tw_220) (fun _ h9 => h9) rfl dX10_squaresAt_17 ?_
  refine va_iald (pc := 20) hx hb hK hP 1 2 rfl rfl (n_in rfl (by (first | omega | (unfold zBd at *; omega))) (by (first | omega | (unfold zBd at *; omega)))) dX10_squaresAt_20 ?_
  refine lv_topi (fun x_3 ex_3 => ?_)
  have rx_3 : zBd x_3.toInt (-2147483648) 2147483647 := n_rng x_3
  refine lv_aload_n (pc := 21) hx hb dX10_squaresAt_21 rfl (lv_at hl 1 rfl) ?_
  refine va_get (pc := 22) (ci := 10) (v := .ref a5) (C := RX10) (T := TX10) (N := 8) hx hb hts iX10 hown hK hP 0 rfl rfl 4 (by decide) (hts _ tw_213) (fun _ h9 => h9) rfl dX10_squaresAt_22 ?_
  refine lv_aload_n (pc := 25) hx hb dX10_squaresAt_25 rfl (lv_at hl 1 rfl) ?_
  refine va_get (pc := 26) (ci := 10) (v := .int x1) (C := RX10) (T := TX10) (N := 8) hx hb hts iX10 hown hK hP 0 rfl rfl 7 (by decide) (hts _ tw_220) (fun _ h9 => h9) rfl dX10_squaresAt_26 ?_
  refine va_iald (pc := 29) hx hb hK hP 2 2 rfl rfl (n_in rfl (by (first | omega | (unfold zBd at *; omega))) (by (first | omega | (unfold zBd at *; omega)))) dX10_squaresAt_29 ?_
  refine lv_topi (fun x_4 ex_4 => ?_)
  have rx_4 : zBd x_4.toInt (-2147483648) 2147483647 := n_rng x_4
  refine lv_iload_n (pc := 30) hx hb dX10_squaresAt_30 rfl (lv_at hl 2 rfl) ?_
  refine lv_imul (pc := 31) hx hb dX10_squaresAt_31 ?_
  refine lv_topi (fun x_5 _ => ?_)
  have rx_5 : zBd x_5.toInt (-2147483648) 2147483647 := n_rng x_5
  refine lv_iadd (pc := 32) hx hb dX10_squaresAt_32 ?_
  refine lv_topi (fun x_6 _ => ?_)
  have rx_6 : zBd x_6.toInt (-2147483648) 2147483647 := n_rng x_6
  refine b_i2l (pc := 33) hx hb rfl dX10_squaresAt_33 (fun y_7 ey_7 => ?_)
  have ry_7 : zBd x_6.toInt (-2147483648) 2147483647 := n_rng x_6
  refine lv_lstore_n (pc := 34) (lv' := [(3, .long y_7), (2, .int x_2), (0, .ref a0), (1, .int x0)]) hx hb dX10_squaresAt_34 rfl hl (by decide) rfl (fun ls hl => ?_)
  refine lv_aload_n (pc := 35) hx hb dX10_squaresAt_35 rfl (lv_at hl 2 rfl) ?_
  refine va_get (pc := 36) (ci := 10) (v := .ref a2) (C := RX10) (T := TX10) (N := 8) hx hb hts iX10 hown hK hP 0 rfl rfl 1 (by decide) (hts _ tw_209) (fun _ h9 => h9) rfl dX10_squaresAt_36 ?_
  refine lv_aload_n (pc := 39) hx hb dX10_squaresAt_39 rfl (lv_at hl 2 rfl) ?_
  refine va_get (pc := 40) (ci := 10) (v := .int x1) (C := RX10) (T := TX10) (N := 8) hx hb hts iX10 hown hK hP 0 rfl rfl 7 (by decide) (hts _ tw_220) (fun _ h9 => h9) rfl dX10_squaresAt_40 ?_
  refine va_lald (pc := 43) hx hb hK hP 3 3 rfl rfl (n_in rfl (by (first | omega | (unfold zBd at *; omega))) (by (first | omega | (unfold zBd at *; omega)))) dX10_squaresAt_43 ?_
  refine lv_topl (fun y_8 ey_8 => ?_)
  have ry_8 := n_rngL y_8
  refine lv_lload_n (pc := 44) hx hb dX10_squaresAt_44 rfl (lv_at hl 0 rfl) ?_
  refine lv_lload_n (pc := 45) hx hb dX10_squaresAt_45 rfl (lv_at hl 0 rfl) ?_
  refine lv_aload_n (pc := 46) hx hb dX10_squaresAt_46 rfl (lv_at hl 2 rfl) ?_
  refine va_get (pc := 47) (ci := 10) (v := .ref a1) (C := RX10) (T := TX10) (N := 8) hx hb hts iX10 hown hK hP 0 rfl rfl 0 (by decide) (hts _ tw_207) (fun _ h9 => h9) rfl dX10_squaresAt_47 ?_
  refine lv_iload_n (pc := 50) hx hb dX10_squaresAt_50 rfl (lv_at hl 1 rfl) ?_
  refine va_lald (pc := 51) hx hb hK hP 4 3 rfl rfl (n_in rfl (by (first | omega | (unfold zBd at *; omega))) (by (first | omega | (unfold zBd at *; omega)))) dX10_squaresAt_51 ?_
  refine lv_topl (fun y_9 ey_9 => ?_)
  have ry_9 := n_rngL y_9
  refine lv_lmul (pc := 52) hx hb dX10_squaresAt_52 ?_
  refine lv_topl (fun y_10 _ => ?_)
  have ry_10 := n_rngL y_10
  refine lv_ldc2 (pc := 53) hx hb hown (hts _ tw_910) dX10_squaresAt_53 ?_
  refine lv_aload_n (pc := 56) hx hb dX10_squaresAt_56 rfl (lv_at hl 2 rfl) ?_
  refine va_get (pc := 57) (ci := 10) (v := .ref a3) (C := RX10) (T := TX10) (N := 8) hx hb hts iX10 hown hK hP 0 rfl rfl 2 (by decide) (hts _ tw_210) (fun _ h9 => h9) rfl dX10_squaresAt_57 ?_
  refine lv_iload_n (pc := 60) hx hb dX10_squaresAt_60 rfl (lv_at hl 1 rfl) ?_
  refine va_lald (pc := 61) hx hb hK hP 5 3 rfl rfl (n_in rfl (by (first | omega | (unfold zBd at *; omega))) (by (first | omega | (unfold zBd at *; omega)))) dX10_squaresAt_61 ?_
  refine lv_topl (fun y_11 ey_11 => ?_)
  have ry_11 := n_rngL y_11
  refine lv_lmul (pc := 62) hx hb dX10_squaresAt_62 ?_
  refine lv_topl (fun y_12 _ => ?_)
  have ry_12 := n_rngL y_12
  refine lv_lsub (pc := 63) hx hb dX10_squaresAt_63 ?_
  refine lv_topl (fun y_13 _ => ?_)
  have ry_13 := n_rngL y_13
  refine lv_lmul (pc := 64) hx hb dX10_squaresAt_64 ?_
  refine lv_topl (fun y_14 _ => ?_)
  have ry_14 := n_rngL y_14
  refine lv_ladd (pc := 65) hx hb dX10_squaresAt_65 ?_
  refine lv_topl (fun y_15 _ => ?_)
  have ry_15 := n_rngL y_15
  exact hret y_15 ((fun _ => 0), (fun _ => (fun _ => 0)), (fun _ => (fun _ => 0)), (fun _ => 0), (fun _ => 0)) dX10_squaresAt_66 (show ((((-9223372036854775808) ≤ y_15.toInt ∧ y_15.toInt ≤ 9223372036854775807))) by (first | omega | (unfold zBd at *; omega))) (g_psub (wc := [(a0, .inr (10, [.ref a1, .ref a2, .ref a3, .ref a4, .ref a5, .ref a6, .ref a7, .int x1])), (a4, .inl (cI, 5, .inl f0)), (a5, .inl (cI, 5, .inl f1)), (a2, .inl (cJ, 5, .inr (.inl g0))), (a1, .inl (cJ, 25, .inr (.inl g1))), (a3, .inl (cJ, 25, .inr (.inl g2)))]) hP [0, 1, 2, 3, 4, 5] rfl) (hD.sub (ws' := [(a0, .inr (10, [.ref a1, .ref a2, .ref a3, .ref a4, .ref a5, .ref a6, .ref a7, .int x1])), (a4, .inl (cI, 5, .inl f0)), (a5, .inl (cI, 5, .inl f1)), (a2, .inl (cJ, 5, .inr (.inl g0))), (a1, .inl (cJ, 25, .inr (.inl g1))), (a3, .inl (cJ, 25, .inr (.inl g2)))]) [0, 1, 2, 3, 4, 5] (by decide) rfl) hS
set_option maxHeartbeats 4000000 in
set_option maxRecDepth 100000 in
theorem k_X10_nextLine (l : Launch) (D : va_G) (cB cC cI cJ : ClassId) (sz : Nat) (a0 a1 a2 a3 a4 a5 a6 a7 : Nat) (x0 : Int32) (f0 f1 f2 f3 : Nat → Int32) (g0 g1 g2 : Nat → Int64) (h_x0 : zBd x0.toInt 0 4) (hf_f0 : (∀ j, 0 ≤ (f0 j).toInt ∧ (f0 j).toInt ≤ 23)) (hf_f1 : (∀ j, (-3) ≤ (f1 j).toInt ∧ (f1 j).toInt ≤ 24)) : Met l yX10_nextLine (.code yX10_nextLine cX10_nextLine 2 none :: lw_gd) ({ frames := 1, cells := 0, slots := 0, locals := 26 }) (gPre D [(cB, .byte), (cC, .char), (cI, .int), (cJ, .long)] [.ref a0] [(a0, .inr (10, [.ref a1, .ref a2, .ref a3, .ref a4, .ref a5, .ref a6, .ref a7, .int x0])), (a7, .inl (cI, 5, .inl f0)), (a6, .inl (cI, 5, .inl f1)), (a4, .inl (cI, 5, .inl f2)), (a5, .inl (cI, 5, .inl f3)), (a2, .inl (cJ, 5, .inr (.inl g0))), (a1, .inl (cJ, 25, .inr (.inl g1))), (a3, .inl (cJ, 25, .inr (.inl g2)))] sz) (va_Qv (fun u => (∀ j, 0 ≤ ((u.2.1 0) j).toInt ∧ ((u.2.1 0) j).toInt ≤ 23)) (gB D (va_A [(a0, .inr (10, [.ref a1, .ref a2, .ref a3, .ref a4, .ref a5, .ref a6, .ref a7, .int x0])), (a7, .inl (cI, 5, .inl f0)), (a6, .inl (cI, 5, .inl f1)), (a4, .inl (cI, 5, .inl f2)), (a5, .inl (cI, 5, .inl f3)), (a2, .inl (cJ, 5, .inr (.inl g0))), (a1, .inl (cJ, 25, .inr (.inl g1))), (a3, .inl (cJ, 25, .inr (.inl g2)))] sz) (fun u : gEx => [(a0, .inr (10, [.ref a1, .ref a2, .ref a3, .ref a4, .ref a5, .ref a6, .ref a7, .int x0])), (a7, .inl (cI, 5, .inl (u.2.1 0))), (a6, .inl (cI, 5, .inl f1)), (a4, .inl (cI, 5, .inl f2)), (a5, .inl (cI, 5, .inl f3)), (a2, .inl (cJ, 5, .inr (.inl (u.2.2.1 0)))), (a1, .inl (cJ, 25, .inr (.inl g1))), (a3, .inl (cJ, 25, .inr (.inl (u.2.2.1 1))))])) (va_A [(a0, .inr (10, [.ref a1, .ref a2, .ref a3, .ref a4, .ref a5, .ref a6, .ref a7, .int x0])), (a7, .inl (cI, 5, .inl f0)), (a6, .inl (cI, 5, .inl f1)), (a4, .inl (cI, 5, .inl f2)), (a5, .inl (cI, 5, .inl f3)), (a2, .inl (cJ, 5, .inr (.inl g0))), (a1, .inl (cJ, 25, .inr (.inl g1))), (a3, .inl (cJ, 25, .inr (.inl g2)))] sz)) 0 0 (va_A [(a0, .inr (10, [.ref a1, .ref a2, .ref a3, .ref a4, .ref a5, .ref a6, .ref a7, .int x0])), (a7, .inl (cI, 5, .inl f0)), (a6, .inl (cI, 5, .inl f1)), (a4, .inl (cI, 5, .inl f2)), (a5, .inl (cI, 5, .inl f3)), (a2, .inl (cJ, 5, .inr (.inl g0))), (a1, .inl (cJ, 25, .inr (.inl g1))), (a3, .inl (cJ, 25, .inr (.inl g2)))] sz) := by
  refine gOf_v (by decide +kernel) (Nat.le_of_ble_eq_true rfl) ?_
  intro p e s m args below meth c ls A Q hx hb hts hown hml hN hK hP hD hA hl hret
  replace hown : s.vm.findClass RX10 = some m.cls := hown
  have hS : va_S A s.heap s.heap [] := va_S.rf
  replace hP : va_P D gcl [(a0, .inr (10, [.ref a1, .ref a2, .ref a3, .ref a4, .ref a5, .ref a6, .ref a7, .int x0])), (a7, .inl (cI, 5, .inl f0)), (a6, .inl (cI, 5, .inl f1)), (a4, .inl (cI, 5, .inl f2)), (a5, .inl (cI, 5, .inl f3)), (a2, .inl (cJ, 5, .inr (.inl g0))), (a1, .inl (cJ, 25, .inr (.inl g1))), (a3, .inl (cJ, 25, .inr (.inl g2)))] s.heap := hP
  replace hl : lv_has ls 2 [(0, .ref a0)] := hl
  refine lv_aload_n (pc := 0) hx hb dX10_nextLine_0 rfl (lv_at hl 0 rfl) ?_
  refine va_get (pc := 1) (ci := 10) (v := .int x0) (C := RX10) (T := TX10) (N := 8) hx hb hts iX10 hown hK hP 0 rfl rfl 7 (by decide) (hts _ tw_220) (fun _ h9 => h9) rfl dX10_nextLine_1 ?_
  have bd_h_x0 : 0 ≤ x0.toInt ∧ x0.toInt ≤ 4 := h_x0
  refine lv_iconst (pc := 4) (v := 1) hx hb dX10_nextLine_4 (by decide) ?_
  refine b_isub (pc := 5) hx hb rfl tI_1 (by (first | omega | (unfold zBd at *; omega))) (by (first | omega | (unfold zBd at *; omega))) dX10_nextLine_5 (fun x_1 ex_1 => ?_)
  refine lv_istore_n (pc := 6) (lv' := [(1, .int x_1), (0, .ref a0)]) hx hb dX10_nextLine_6 rfl hl (by decide) rfl (fun ls hl => ?_)
  have lp_6 : ∀ (n : Nat) (x_2 : Int32) (f_4 : Nat → Int32) (H : Heap) (locs : List Loc) (ls : Array Slot), ((-2147483648) ≤ x_2.toInt ∧ x_2.toInt ≤ 3) → (∀ j, 0 ≤ (f_4 j).toInt ∧ (f_4 j).toInt ≤ 23) → (x_2.toInt + 2147483648).toNat < n → va_P D gcl [(a0, .inr (10, [.ref a1, .ref a2, .ref a3, .ref a4, .ref a5, .ref a6, .ref a7, .int x0])), (a7, .inl (cI, 5, .inl f_4)), (a6, .inl (cI, 5, .inl f1)), (a4, .inl (cI, 5, .inl f2)), (a5, .inl (cI, 5, .inl f3)), (a2, .inl (cJ, 5, .inr (.inl g0))), (a1, .inl (cJ, 25, .inr (.inl g1))), (a3, .inl (cJ, 25, .inr (.inl g2)))] H → va_D A [(a0, .inr (10, [.ref a1, .ref a2, .ref a3, .ref a4, .ref a5, .ref a6, .ref a7, .int x0])), (a7, .inl (cI, 5, .inl f_4)), (a6, .inl (cI, 5, .inl f1)), (a4, .inl (cI, 5, .inl f2)), (a5, .inl (cI, 5, .inl f3)), (a2, .inl (cJ, 5, .inr (.inl g0))), (a1, .inl (cJ, 25, .inr (.inl g1))), (a3, .inl (cJ, 25, .inr (.inl g2)))] → va_S A s.heap H locs → lv_has ls 2 [(1, .int x_2), (0, .ref a0)] → W p l e ({ frames := 1, cells := 0, slots := 0, locals := 26 }) s m args below meth c H locs 0 0 Q (F0 m 7 ls []) := by
    intro n
    induction n with
    | zero => intro x_2 f_4 H locs ls hi_3 hi_5 hmu; exact absurd hmu (Nat.not_lt_zero _)
    | succ n ih_lp_6 =>
      intro x_2 f_4 H locs ls hi_3 hi_5 hmu_lp_6 hP hD hS hl
      refine lv_iload_n (pc := 7) hx hb dX10_nextLine_7 rfl (lv_at hl 0 rfl) ?_
      refine b_if_lt (pc := 8) (tgt := 41) hx hb rfl  dX10_nextLine_8 (by decide) (fun c_7 => ?_) (fun c_7 => ?_)
      ·
        refine lv_iload_n (pc := 41) hx hb dX10_nextLine_41 rfl (lv_at hl 0 rfl) ?_
        refine b_if_lt (pc := 42) (tgt := 60) hx hb rfl  dX10_nextLine_42 (by decide) (fun c_8 => ?_) (fun c_8 => absurd c_8 (by (first | omega | (unfold zBd at *; omega))))
        exact hret ((fun _ => 0), (fun k => [f_4].getD k (fun _ => 0)), (fun k => [g0, g2].getD k (fun _ => 0)), (fun _ => 0), (fun _ => 0)) dX10_nextLine_60 hi_5 (g_psub (wc := [(a0, .inr (10, [.ref a1, .ref a2, .ref a3, .ref a4, .ref a5, .ref a6, .ref a7, .int x0])), (a7, .inl (cI, 5, .inl f_4)), (a6, .inl (cI, 5, .inl f1)), (a4, .inl (cI, 5, .inl f2)), (a5, .inl (cI, 5, .inl f3)), (a2, .inl (cJ, 5, .inr (.inl g0))), (a1, .inl (cJ, 25, .inr (.inl g1))), (a3, .inl (cJ, 25, .inr (.inl g2)))]) hP [0, 1, 2, 3, 4, 5, 6, 7] rfl) (hD.sub (ws' := [(a0, .inr (10, [.ref a1, .ref a2, .ref a3, .ref a4, .ref a5, .ref a6, .ref a7, .int x0])), (a7, .inl (cI, 5, .inl f_4)), (a6, .inl (cI, 5, .inl f1)), (a4, .inl (cI, 5, .inl f2)), (a5, .inl (cI, 5, .inl f3)), (a2, .inl (cJ, 5, .inr (.inl g0))), (a1, .inl (cJ, 25, .inr (.inl g1))), (a3, .inl (cJ, 25, .inr (.inl g2)))]) [0, 1, 2, 3, 4, 5, 6, 7] (by decide) rfl) hS
      ·
        refine lv_aload_n (pc := 11) hx hb dX10_nextLine_11 rfl (lv_at hl 1 rfl) ?_
        refine va_get (pc := 12) (ci := 10) (v := .ref a7) (C := RX10) (T := TX10) (N := 8) hx hb hts iX10 hown hK hP 0 rfl rfl 6 (by decide) (hts _ tw_216) (fun _ h9 => h9) rfl dX10_nextLine_12 ?_
        refine lv_iload_n (pc := 15) hx hb dX10_nextLine_15 rfl (lv_at hl 0 rfl) ?_
        refine va_iald (pc := 16) hx hb hK hP 1 2 rfl rfl (n_in rfl (by (first | omega | (unfold zBd at *; omega))) (by (first | omega | (unfold zBd at *; omega)))) dX10_nextLine_16 ?_
        refine lv_topi (fun x_9 ex_9 => ?_)
        have rx_9 : (0 ≤ x_9.toInt ∧ x_9.toInt ≤ 23) := by rw [ex_9]; exact hi_5 _
        refine lv_iconst (pc := 17) (v := 1) hx hb dX10_nextLine_17 (by decide) ?_
        refine b_iadd (pc := 18) hx hb rfl tI_1 (by (first | omega | (unfold zBd at *; omega))) (by (first | omega | (unfold zBd at *; omega))) dX10_nextLine_18 (fun x_10 ex_10 => ?_)
        refine lv_aload_n (pc := 19) hx hb dX10_nextLine_19 rfl (lv_at hl 1 rfl) ?_
        refine va_get (pc := 20) (ci := 10) (v := .ref a6) (C := RX10) (T := TX10) (N := 8) hx hb hts iX10 hown hK hP 0 rfl rfl 5 (by decide) (hts _ tw_214) (fun _ h9 => h9) rfl dX10_nextLine_20 ?_
        refine lv_iload_n (pc := 23) hx hb dX10_nextLine_23 rfl (lv_at hl 0 rfl) ?_
        refine va_iald (pc := 24) hx hb hK hP 2 2 rfl rfl (n_in rfl (by (first | omega | (unfold zBd at *; omega))) (by (first | omega | (unfold zBd at *; omega)))) dX10_nextLine_24 ?_
        refine lv_topi (fun x_11 ex_11 => ?_)
        have rx_11 : ((-3) ≤ x_11.toInt ∧ x_11.toInt ≤ 24) := by rw [ex_11]; exact hf_f1 _
        refine b_icmp_lt (pc := 25) (tgt := 41) hx hb rfl rfl  dX10_nextLine_25 (by decide) (fun c_12 => ?_) (fun c_12 => ?_)
        ·
          refine lv_iload_n (pc := 41) hx hb dX10_nextLine_41 rfl (lv_at hl 0 rfl) ?_
          refine b_if_lt (pc := 42) (tgt := 60) hx hb rfl  dX10_nextLine_42 (by decide) (fun c_13 => absurd c_13 (by (first | omega | (unfold zBd at *; omega)))) (fun c_13 => ?_)
          refine lv_aload_n (pc := 45) hx hb dX10_nextLine_45 rfl (lv_at hl 1 rfl) ?_
          refine va_get (pc := 46) (ci := 10) (v := .ref a7) (C := RX10) (T := TX10) (N := 8) hx hb hts iX10 hown hK hP 0 rfl rfl 6 (by decide) (hts _ tw_216) (fun _ h9 => h9) rfl dX10_nextLine_46 ?_
          refine lv_iload_n (pc := 49) hx hb dX10_nextLine_49 rfl (lv_at hl 0 rfl) ?_
          refine lv_dup2_11 (pc := 50) hx hb dX10_nextLine_50 rfl rfl ?_
          refine va_iald (pc := 51) hx hb hK hP 1 2 rfl rfl (n_in rfl (by (first | omega | (unfold zBd at *; omega))) (by (first | omega | (unfold zBd at *; omega)))) dX10_nextLine_51 ?_
          refine gI (y := x_9) ex_9.symm ?_
          refine lv_iconst (pc := 52) (v := 1) hx hb dX10_nextLine_52 (by decide) ?_
          refine b_iadd (pc := 53) hx hb rfl tI_1 (by (first | omega | (unfold zBd at *; omega))) (by (first | omega | (unfold zBd at *; omega))) dX10_nextLine_53 (fun x_14 ex_14 => ?_)
          refine h_iastore (pc := 54) hx hb hK hP hD hS 1 2 rfl rfl (n_in rfl (by (first | omega | (unfold zBd at *; omega))) (by (first | omega | (unfold zBd at *; omega)))) dX10_nextLine_54 hi_5 (by (first | omega | (unfold zBd at *; omega))) (by (first | omega | (unfold zBd at *; omega))) (fun f_15 hf_15 H locs hP hD hS => ?_)
          replace hP : va_P D gcl [(a0, .inr (10, [.ref a1, .ref a2, .ref a3, .ref a4, .ref a5, .ref a6, .ref a7, .int x0])), (a7, .inl (cI, 5, .inl f_15)), (a6, .inl (cI, 5, .inl f1)), (a4, .inl (cI, 5, .inl f2)), (a5, .inl (cI, 5, .inl f3)), (a2, .inl (cJ, 5, .inr (.inl g0))), (a1, .inl (cJ, 25, .inr (.inl g1))), (a3, .inl (cJ, 25, .inr (.inl g2)))] H := hP
          replace hD : va_D A [(a0, .inr (10, [.ref a1, .ref a2, .ref a3, .ref a4, .ref a5, .ref a6, .ref a7, .int x0])), (a7, .inl (cI, 5, .inl f_15)), (a6, .inl (cI, 5, .inl f1)), (a4, .inl (cI, 5, .inl f2)), (a5, .inl (cI, 5, .inl f3)), (a2, .inl (cJ, 5, .inr (.inl g0))), (a1, .inl (cJ, 25, .inr (.inl g1))), (a3, .inl (cJ, 25, .inr (.inl g2)))] := hD
          refine lv_aload_n (pc := 55) hx hb dX10_nextLine_55 rfl (lv_at hl 1 rfl) ?_
          refine lv_iload_n (pc := 56) hx hb dX10_nextLine_56 rfl (lv_at hl 0 rfl) ?_
          refine gc_v (pc := 57) (wc := [(a0, .inr (10, [.ref a1, .ref a2, .ref a3, .ref a4, .ref a5, .ref a6, .ref a7, .int x0])), (a4, .inl (cI, 5, .inl f2)), (a5, .inl (cI, 5, .inl f3)), (a7, .inl (cI, 5, .inl f_15)), (a2, .inl (cJ, 5, .inr (.inl g0))), (a1, .inl (cJ, 25, .inr (.inl g1))), (a3, .inl (cJ, 25, .inr (.inl g2)))]) (wr := [(a6, .inl (cI, 5, .inl f1))]) hP hD hS hA [0, 3, 4, 1, 5, 6, 7] [2] rfl rfl (by decide) (by decide) (by decide) (fun hPc hDc => va_runV (As := [.int x_2]) (rest := []) ⟨hx, hb, hml, hown, hts⟩ (k_X10_settle l D cB cC cI cJ _ a0 a1 a2 a3 a4 a5 a6 a7 x_2 x0 f2 f3 f_15 g0 g1 g2 (by  (first | omega | (unfold zBd at *; omega))) h_x0 hf_15) ⟨gcwB hts tw_909 tw_8 tw_906 hd_yX10_settle ⟨Nat.le_of_ble_eq_true rfl, Nat.le_of_ble_eq_true rfl⟩, hts _ tw_908, hts _ tp_33⟩ ⟨gblind, va_recv hK hPc (ci := 10) (q0 := 0) rfl rfl, (gpreS hPc hK hDc hN).2⟩ rfl rfl hl.1 rfl (lv_room (Nat.le_of_ble_eq_true rfl)) dX10_nextLine_57 ⟨Nat.le_of_ble_eq_true rfl, Nat.le_of_ble_eq_true rfl⟩) (fun u_16 H locs hw_18 hP hD hS => ?_)
          replace hP : va_P D gcl [(a6, .inl (cI, 5, .inl f1)), (a0, .inr (10, [.ref a1, .ref a2, .ref a3, .ref a4, .ref a5, .ref a6, .ref a7, .int x0])), (a4, .inl (cI, 5, .inl f2)), (a5, .inl (cI, 5, .inl f3)), (a7, .inl (cI, 5, .inl f_15)), (a2, .inl (cJ, 5, .inr (.inl (u_16.2.2.1 0)))), (a1, .inl (cJ, 25, .inr (.inl g1))), (a3, .inl (cJ, 25, .inr (.inl (u_16.2.2.1 1))))] H := hP
          replace hD : va_D A [(a6, .inl (cI, 5, .inl f1)), (a0, .inr (10, [.ref a1, .ref a2, .ref a3, .ref a4, .ref a5, .ref a6, .ref a7, .int x0])), (a4, .inl (cI, 5, .inl f2)), (a5, .inl (cI, 5, .inl f3)), (a7, .inl (cI, 5, .inl f_15)), (a2, .inl (cJ, 5, .inr (.inl (u_16.2.2.1 0)))), (a1, .inl (cJ, 25, .inr (.inl g1))), (a3, .inl (cJ, 25, .inr (.inl (u_16.2.2.1 1))))] := hD
          have hw_19 : (((0 ≤ x0.toInt ∧ x0.toInt ≤ 4))) := hw_18
          exact hret ((fun _ => 0), (fun k => [f_15].getD k (fun _ => 0)), (fun k => [(u_16.2.2.1 0), (u_16.2.2.1 1)].getD k (fun _ => 0)), (fun _ => 0), (fun _ => 0)) dX10_nextLine_60 hf_15 (g_psub (wc := [(a0, .inr (10, [.ref a1, .ref a2, .ref a3, .ref a4, .ref a5, .ref a6, .ref a7, .int x0])), (a7, .inl (cI, 5, .inl f_15)), (a6, .inl (cI, 5, .inl f1)), (a4, .inl (cI, 5, .inl f2)), (a5, .inl (cI, 5, .inl f3)), (a2, .inl (cJ, 5, .inr (.inl (u_16.2.2.1 0)))), (a1, .inl (cJ, 25, .inr (.inl g1))), (a3, .inl (cJ, 25, .inr (.inl (u_16.2.2.1 1))))]) hP [1, 4, 0, 2, 3, 5, 6, 7] rfl) (hD.sub (ws' := [(a0, .inr (10, [.ref a1, .ref a2, .ref a3, .ref a4, .ref a5, .ref a6, .ref a7, .int x0])), (a7, .inl (cI, 5, .inl f_15)), (a6, .inl (cI, 5, .inl f1)), (a4, .inl (cI, 5, .inl f2)), (a5, .inl (cI, 5, .inl f3)), (a2, .inl (cJ, 5, .inr (.inl (u_16.2.2.1 0)))), (a1, .inl (cJ, 25, .inr (.inl g1))), (a3, .inl (cJ, 25, .inr (.inl (u_16.2.2.1 1))))]) [1, 4, 0, 2, 3, 5, 6, 7] (by decide) rfl) hS
        ·
          refine lv_aload_n (pc := 28) hx hb dX10_nextLine_28 rfl (lv_at hl 1 rfl) ?_
          refine va_get (pc := 29) (ci := 10) (v := .ref a7) (C := RX10) (T := TX10) (N := 8) hx hb hts iX10 hown hK hP 0 rfl rfl 6 (by decide) (hts _ tw_216) (fun _ h9 => h9) rfl dX10_nextLine_29 ?_
          refine lv_iload_n (pc := 32) hx hb dX10_nextLine_32 rfl (lv_at hl 0 rfl) ?_
          refine lv_iconst (pc := 33) (v := 0) hx hb dX10_nextLine_33 (by decide) ?_
          refine h_iastore (pc := 34) hx hb hK hP hD hS 1 2 rfl rfl (n_in rfl (by (first | omega | (unfold zBd at *; omega))) (by (first | omega | (unfold zBd at *; omega)))) dX10_nextLine_34 hi_5 (by have k_f_20 := tI_0; (first | omega | (unfold zBd at *; omega))) (by have k_f_20 := tI_0; (first | omega | (unfold zBd at *; omega))) (fun f_20 hf_20 H locs hP hD hS => ?_)
          replace hP : va_P D gcl [(a0, .inr (10, [.ref a1, .ref a2, .ref a3, .ref a4, .ref a5, .ref a6, .ref a7, .int x0])), (a7, .inl (cI, 5, .inl f_20)), (a6, .inl (cI, 5, .inl f1)), (a4, .inl (cI, 5, .inl f2)), (a5, .inl (cI, 5, .inl f3)), (a2, .inl (cJ, 5, .inr (.inl g0))), (a1, .inl (cJ, 25, .inr (.inl g1))), (a3, .inl (cJ, 25, .inr (.inl g2)))] H := hP
          replace hD : va_D A [(a0, .inr (10, [.ref a1, .ref a2, .ref a3, .ref a4, .ref a5, .ref a6, .ref a7, .int x0])), (a7, .inl (cI, 5, .inl f_20)), (a6, .inl (cI, 5, .inl f1)), (a4, .inl (cI, 5, .inl f2)), (a5, .inl (cI, 5, .inl f3)), (a2, .inl (cJ, 5, .inr (.inl g0))), (a1, .inl (cJ, 25, .inr (.inl g1))), (a3, .inl (cJ, 25, .inr (.inl g2)))] := hD
          refine b_iinc (pc := 35) hx hb dX10_nextLine_35 hl (k := 0) rfl rfl tI_m1 (by (first | omega | (unfold zBd at *; omega))) (by (first | omega | (unfold zBd at *; omega))) (by decide) (fun x_21 ex_21 ls hl => ?_)
          replace hl : lv_has ls 2 [(1, .int x_21), (0, .ref a0)] := hl
          refine lv_goto (pc := 38) (tgt := 7) hx hb dX10_nextLine_38 (by decide) ?_
          exact ih_lp_6 x_21 f_20 _ _ ls (by (first | omega | (unfold zBd at *; omega))) hf_20 (by (first | omega | (unfold zBd at *; omega))) hP hD hS (lv_sub hl [0, 1] rfl)
  exact lp_6 _ x_1 f0 _ _ ls (by (first | omega | (unfold zBd at *; omega))) hf_f0 (Nat.lt_succ_self _) hP hD hS (lv_sub hl [0, 1] rfl)
set_option maxHeartbeats 4000000 in
set_option maxRecDepth 100000 in
theorem k_X10_bestDigit (l : Launch) (D : va_G) (cB cC cI cJ : ClassId) (sz : Nat) (a0 a1 a2 a3 a4 a5 a6 a7 : Nat) (x0 x1 : Int32) (f0 f1 : Nat → Int32) (g0 g1 g2 : Nat → Int64) (h_x1 : zBd x1.toInt 0 4) : Met l yX10_bestDigit (.code yX10_bestDigit cX10_bestDigit 8 (some .int) :: lw_gd) ({ frames := 1, cells := 0, slots := 0, locals := 25 }) (gPre D [(cB, .byte), (cC, .char), (cI, .int), (cJ, .long)] [.ref a0, .int x0] [(a0, .inr (10, [.ref a1, .ref a2, .ref a3, .ref a4, .ref a5, .ref a6, .ref a7, .int x1])), (a1, .inl (cJ, 25, .inr (.inl g0))), (a5, .inl (cI, 5, .inl f0)), (a3, .inl (cJ, 25, .inr (.inl g1))), (a4, .inl (cI, 5, .inl f1)), (a2, .inl (cJ, 5, .inr (.inl g2)))] sz) (va_Qi (fun r u => ((((-2147483648) ≤ r.toInt ∧ r.toInt ≤ 2147483647) ∧ ((-2147483648) ≤ x0.toInt ∧ x0.toInt ≤ 2147483647)) ∨ (((-2147483648) ≤ r.toInt ∧ r.toInt ≤ 2147483647) ∧ ((-2147483647) ≤ x0.toInt ∧ x0.toInt ≤ 2147483647)) ∨ (r.toInt = 0))) (gB D (va_A [(a0, .inr (10, [.ref a1, .ref a2, .ref a3, .ref a4, .ref a5, .ref a6, .ref a7, .int x1])), (a1, .inl (cJ, 25, .inr (.inl g0))), (a5, .inl (cI, 5, .inl f0)), (a3, .inl (cJ, 25, .inr (.inl g1))), (a4, .inl (cI, 5, .inl f1)), (a2, .inl (cJ, 5, .inr (.inl g2)))] sz) (fun u : gEx => [(a0, .inr (10, [.ref a1, .ref a2, .ref a3, .ref a4, .ref a5, .ref a6, .ref a7, .int x1])), (a1, .inl (cJ, 25, .inr (.inl g0))), (a5, .inl (cI, 5, .inl f0)), (a3, .inl (cJ, 25, .inr (.inl g1))), (a4, .inl (cI, 5, .inl f1)), (a2, .inl (cJ, 5, .inr (.inl g2)))])) (va_A [(a0, .inr (10, [.ref a1, .ref a2, .ref a3, .ref a4, .ref a5, .ref a6, .ref a7, .int x1])), (a1, .inl (cJ, 25, .inr (.inl g0))), (a5, .inl (cI, 5, .inl f0)), (a3, .inl (cJ, 25, .inr (.inl g1))), (a4, .inl (cI, 5, .inl f1)), (a2, .inl (cJ, 5, .inr (.inl g2)))] sz)) 0 0 (va_A [(a0, .inr (10, [.ref a1, .ref a2, .ref a3, .ref a4, .ref a5, .ref a6, .ref a7, .int x1])), (a1, .inl (cJ, 25, .inr (.inl g0))), (a5, .inl (cI, 5, .inl f0)), (a3, .inl (cJ, 25, .inr (.inl g1))), (a4, .inl (cI, 5, .inl f1)), (a2, .inl (cJ, 5, .inr (.inl g2)))] sz) := by
  refine gOf_i (by decide +kernel) (Nat.le_of_ble_eq_true rfl) ?_
  intro p e s m args below meth c ls A Q hx hb hts hown hml hN hK hP hD hA hl hret
  replace hown : s.vm.findClass RX10 = some m.cls := hown
  have hS : va_S A s.heap s.heap [] := va_S.rf
  replace hP : va_P D gcl [(a0, .inr (10, [.ref a1, .ref a2, .ref a3, .ref a4, .ref a5, .ref a6, .ref a7, .int x1])), (a1, .inl (cJ, 25, .inr (.inl g0))), (a5, .inl (cI, 5, .inl f0)), (a3, .inl (cJ, 25, .inr (.inl g1))), (a4, .inl (cI, 5, .inl f1)), (a2, .inl (cJ, 5, .inr (.inl g2)))] s.heap := hP
  replace hl : lv_has ls 8 [(0, .ref a0), (1, .int x0)] := hl
  have rx0 : zBd x0.toInt (-2147483648) 2147483647 := n_rng x0
  refine lv_aload_n (pc := 0) hx hb dX10_bestDigit_0 rfl (lv_at hl 0 rfl) ?_
  refine va_get (pc := 1) (ci := 10) (v := .int x1) (C := RX10) (T := TX10) (N := 8) hx hb hts iX10 hown hK hP 0 rfl rfl 7 (by decide) (hts _ tw_220) (fun _ h9 => h9) rfl dX10_bestDigit_1 ?_
  have bd_h_x1 : 0 ≤ x1.toInt ∧ x1.toInt ≤ 4 := h_x1
  refine lv_iconst (pc := 4) (v := 5) hx hb dX10_bestDigit_4 (by decide) ?_
  refine b_imul (pc := 5) hx hb rfl tI_5 (by (first | omega | (unfold zBd at *; omega))) (by (first | omega | (unfold zBd at *; omega))) dX10_bestDigit_5 (fun x_1 ex_1 => ?_)
  refine lv_aload_n (pc := 6) hx hb dX10_bestDigit_6 rfl (lv_at hl 0 rfl) ?_
  refine va_get (pc := 7) (ci := 10) (v := .int x1) (C := RX10) (T := TX10) (N := 8) hx hb hts iX10 hown hK hP 0 rfl rfl 7 (by decide) (hts _ tw_220) (fun _ h9 => h9) rfl dX10_bestDigit_7 ?_
  refine b_iadd (pc := 10) hx hb rfl rfl (by (first | omega | (unfold zBd at *; omega))) (by (first | omega | (unfold zBd at *; omega))) dX10_bestDigit_10 (fun x_2 ex_2 => ?_)
  refine lv_istore_n (pc := 11) (lv' := [(2, .int x_2), (0, .ref a0), (1, .int x0)]) hx hb dX10_bestDigit_11 rfl hl (by decide) rfl (fun ls hl => ?_)
  refine lv_aload_n (pc := 12) hx hb dX10_bestDigit_12 rfl (lv_at hl 1 rfl) ?_
  refine va_get (pc := 13) (ci := 10) (v := .ref a1) (C := RX10) (T := TX10) (N := 8) hx hb hts iX10 hown hK hP 0 rfl rfl 0 (by decide) (hts _ tw_207) (fun _ h9 => h9) rfl dX10_bestDigit_13 ?_
  refine lv_iload_n (pc := 16) hx hb dX10_bestDigit_16 rfl (lv_at hl 0 rfl) ?_
  refine va_lald (pc := 17) hx hb hK hP 1 3 rfl rfl (n_in rfl (by (first | omega | (unfold zBd at *; omega))) (by (first | omega | (unfold zBd at *; omega)))) dX10_bestDigit_17 ?_
  refine lv_topl (fun y_3 ey_3 => ?_)
  have ry_3 := n_rngL y_3
  refine lv_aload_n (pc := 18) hx hb dX10_bestDigit_18 rfl (lv_at hl 1 rfl) ?_
  refine va_get (pc := 19) (ci := 10) (v := .ref a5) (C := RX10) (T := TX10) (N := 8) hx hb hts iX10 hown hK hP 0 rfl rfl 4 (by decide) (hts _ tw_213) (fun _ h9 => h9) rfl dX10_bestDigit_19 ?_
  refine lv_aload_n (pc := 22) hx hb dX10_bestDigit_22 rfl (lv_at hl 1 rfl) ?_
  refine va_get (pc := 23) (ci := 10) (v := .int x1) (C := RX10) (T := TX10) (N := 8) hx hb hts iX10 hown hK hP 0 rfl rfl 7 (by decide) (hts _ tw_220) (fun _ h9 => h9) rfl dX10_bestDigit_23 ?_
  refine va_iald (pc := 26) hx hb hK hP 2 2 rfl rfl (n_in rfl (by (first | omega | (unfold zBd at *; omega))) (by (first | omega | (unfold zBd at *; omega)))) dX10_bestDigit_26 ?_
  refine lv_topi (fun x_4 ex_4 => ?_)
  have rx_4 : zBd x_4.toInt (-2147483648) 2147483647 := n_rng x_4
  refine b_i2l (pc := 27) hx hb rfl dX10_bestDigit_27 (fun y_5 ey_5 => ?_)
  have ry_5 : zBd x_4.toInt (-2147483648) 2147483647 := n_rng x_4
  refine lv_lmul (pc := 28) hx hb dX10_bestDigit_28 ?_
  refine lv_topl (fun y_6 _ => ?_)
  have ry_6 := n_rngL y_6
  refine lv_lstore_n (pc := 29) (lv' := [(3, .long y_6), (2, .int x_2), (0, .ref a0), (1, .int x0)]) hx hb dX10_bestDigit_29 rfl hl (by decide) rfl (fun ls hl => ?_)
  refine lv_lload_n (pc := 30) hx hb dX10_bestDigit_30 rfl (lv_at hl 0 rfl) ?_
  refine lv_lconst (pc := 31) (v := 0) hx hb dX10_bestDigit_31 (by decide) ?_
  refine b_lcmp_gt (pc := 32) (tgt := 38) hx hb rfl tL_0 dX10_bestDigit_32 dX10_bestDigit_33 (by decide) (fun c_7 => ?_) (fun c_7 => ?_)
  ·
    refine lv_aload_n (pc := 38) hx hb dX10_bestDigit_38 rfl (lv_at hl 2 rfl) ?_
    refine va_get (pc := 39) (ci := 10) (v := .ref a3) (C := RX10) (T := TX10) (N := 8) hx hb hts iX10 hown hK hP 0 rfl rfl 2 (by decide) (hts _ tw_210) (fun _ h9 => h9) rfl dX10_bestDigit_39 ?_
    refine lv_iload_n (pc := 42) hx hb dX10_bestDigit_42 rfl (lv_at hl 1 rfl) ?_
    refine va_lald (pc := 43) hx hb hK hP 3 3 rfl rfl (n_in rfl (by (first | omega | (unfold zBd at *; omega))) (by (first | omega | (unfold zBd at *; omega)))) dX10_bestDigit_43 ?_
    refine lv_topl (fun y_8 ey_8 => ?_)
    have ry_8 := n_rngL y_8
    refine lv_aload_n (pc := 44) hx hb dX10_bestDigit_44 rfl (lv_at hl 2 rfl) ?_
    refine va_get (pc := 45) (ci := 10) (v := .ref a4) (C := RX10) (T := TX10) (N := 8) hx hb hts iX10 hown hK hP 0 rfl rfl 3 (by decide) (hts _ tw_211) (fun _ h9 => h9) rfl dX10_bestDigit_45 ?_
    refine lv_aload_n (pc := 48) hx hb dX10_bestDigit_48 rfl (lv_at hl 2 rfl) ?_
    refine va_get (pc := 49) (ci := 10) (v := .int x1) (C := RX10) (T := TX10) (N := 8) hx hb hts iX10 hown hK hP 0 rfl rfl 7 (by decide) (hts _ tw_220) (fun _ h9 => h9) rfl dX10_bestDigit_49 ?_
    refine va_iald (pc := 52) hx hb hK hP 4 2 rfl rfl (n_in rfl (by (first | omega | (unfold zBd at *; omega))) (by (first | omega | (unfold zBd at *; omega)))) dX10_bestDigit_52 ?_
    refine lv_topi (fun x_9 ex_9 => ?_)
    have rx_9 : zBd x_9.toInt (-2147483648) 2147483647 := n_rng x_9
    refine b_i2l (pc := 53) hx hb rfl dX10_bestDigit_53 (fun y_10 ey_10 => ?_)
    have ry_10 : zBd x_9.toInt (-2147483648) 2147483647 := n_rng x_9
    refine lv_aload_n (pc := 54) hx hb dX10_bestDigit_54 rfl (lv_at hl 2 rfl) ?_
    refine va_get (pc := 55) (ci := 10) (v := .ref a1) (C := RX10) (T := TX10) (N := 8) hx hb hts iX10 hown hK hP 0 rfl rfl 0 (by decide) (hts _ tw_207) (fun _ h9 => h9) rfl dX10_bestDigit_55 ?_
    refine lv_iload_n (pc := 58) hx hb dX10_bestDigit_58 rfl (lv_at hl 1 rfl) ?_
    refine va_lald (pc := 59) hx hb hK hP 1 3 rfl rfl (n_in rfl (by (first | omega | (unfold zBd at *; omega))) (by (first | omega | (unfold zBd at *; omega)))) dX10_bestDigit_59 ?_
    refine gL (y := y_3) ey_3.symm ?_
    refine lv_lmul (pc := 60) hx hb dX10_bestDigit_60 ?_
    refine lv_topl (fun y_11 _ => ?_)
    have ry_11 := n_rngL y_11
    refine lv_lsub (pc := 61) hx hb dX10_bestDigit_61 ?_
    refine lv_topl (fun y_12 _ => ?_)
    have ry_12 := n_rngL y_12
    refine lv_lload_n (pc := 62) hx hb dX10_bestDigit_62 rfl (lv_at hl 0 rfl) ?_
    refine va_fdl (pc := 63) hx hb (hml.trans hl.1.symm) hown (hts _ tw_1152) (hts _ tw_1153) (hts _ tw_19) (hts _ tw_1154) (Nat.le_of_ble_eq_true rfl) (Nat.le_of_ble_eq_true rfl) (Nat.le_of_ble_eq_true rfl) (Nat.le_of_ble_eq_true rfl) (fun h => by have q := congrArg Int64.toInt h; have k := tL_0; (first | omega | (unfold zBd at *; omega))) dX10_bestDigit_63 (fun y_13 => ?_)
    have ry_13 := n_rngL y_13
    refine lv_lstore (pc := 66) (lv' := [(5, .long y_13), (3, .long y_6), (2, .int x_2), (0, .ref a0), (1, .int x0)]) hx hb dX10_bestDigit_66 hl (by decide) rfl (fun ls hl => ?_)
    refine lv_lconst (pc := 68) (v := 0) hx hb dX10_bestDigit_68 (by decide) ?_
    refine lv_iload_n (pc := 69) hx hb dX10_bestDigit_69 rfl (lv_at hl 4 rfl) ?_
    refine lv_iconst (pc := 70) (v := 1) hx hb dX10_bestDigit_70 (by decide) ?_
    refine lv_isub (pc := 71) hx hb dX10_bestDigit_71 ?_
    refine lv_topi (fun x_14 _ => ?_)
    have rx_14 : zBd x_14.toInt (-2147483648) 2147483647 := n_rng x_14
    refine b_i2l (pc := 72) hx hb rfl dX10_bestDigit_72 (fun y_15 ey_15 => ?_)
    have ry_15 : zBd x_14.toInt (-2147483648) 2147483647 := n_rng x_14
    refine lv_lload (pc := 73) hx hb dX10_bestDigit_73 (lv_at hl 0 rfl) ?_
    refine va_mmin_long (pc := 75) hx hb (hml.trans hl.1.symm) hown (hts _ tw_1155) (hts _ tw_857) (hts _ tw_19) (hts _ tw_858) (Nat.le_of_ble_eq_true rfl) (Nat.le_of_ble_eq_true rfl) (Nat.le_of_ble_eq_true rfl) (Nat.le_of_ble_eq_true rfl) dX10_bestDigit_75 ?_
    refine lv_topl (fun y_16 ey_16 => ?_)
    have ey_16 := n_minL rfl rfl ey_16
    have ry_16 := n_rngL y_16
    refine va_mmax_long (pc := 78) hx hb (hml.trans hl.1.symm) hown (hts _ tw_1156) (hts _ tw_860) (hts _ tw_19) (hts _ tw_861) (Nat.le_of_ble_eq_true rfl) (Nat.le_of_ble_eq_true rfl) (Nat.le_of_ble_eq_true rfl) (Nat.le_of_ble_eq_true rfl) dX10_bestDigit_78 ?_
    refine lv_topl (fun y_17 ey_17 => ?_)
    have ey_17 := n_maxL tL_0 rfl ey_17
    have ry_17 := n_rngL y_17
    refine lv_l2i (pc := 81) hx hb dX10_bestDigit_81 rfl ?_
    refine lv_topi (fun x_18 _ => ?_)
    have rx_18 : zBd x_18.toInt (-2147483648) 2147483647 := n_rng x_18
    refine lv_istore (pc := 82) (lv' := [(7, .int x_18), (5, .long y_13), (3, .long y_6), (2, .int x_2), (0, .ref a0), (1, .int x0)]) hx hb dX10_bestDigit_82 hl (by decide) rfl (fun ls hl => ?_)
    refine lv_iload (pc := 84) hx hb dX10_bestDigit_84 (lv_at hl 0 rfl) ?_
    refine lv_iconst (pc := 86) (v := 1) hx hb dX10_bestDigit_86 (by decide) ?_
    refine lv_iadd (pc := 87) hx hb dX10_bestDigit_87 ?_
    refine lv_topi (fun x_19 _ => ?_)
    have rx_19 : zBd x_19.toInt (-2147483648) 2147483647 := n_rng x_19
    refine lv_iload_n (pc := 88) hx hb dX10_bestDigit_88 rfl (lv_at hl 5 rfl) ?_
    refine b_icmp_ge (pc := 89) (tgt := 117) hx hb rfl rfl  dX10_bestDigit_89 (by decide) (fun c_20 => ?_) (fun c_20 => ?_)
    ·
      refine lv_iload (pc := 117) hx hb dX10_bestDigit_117 (lv_at hl 0 rfl) ?_
      exact hret x_18 ((fun _ => 0), (fun _ => (fun _ => 0)), (fun _ => (fun _ => 0)), (fun _ => 0), (fun _ => 0)) dX10_bestDigit_119 (show ((((-2147483648) ≤ x_18.toInt ∧ x_18.toInt ≤ 2147483647) ∧ ((-2147483648) ≤ x0.toInt ∧ x0.toInt ≤ 2147483647)) ∨ (((-2147483648) ≤ x_18.toInt ∧ x_18.toInt ≤ 2147483647) ∧ ((-2147483647) ≤ x0.toInt ∧ x0.toInt ≤ 2147483647)) ∨ (x_18.toInt = 0)) by (first | omega | (unfold zBd at *; omega))) (g_psub (wc := [(a0, .inr (10, [.ref a1, .ref a2, .ref a3, .ref a4, .ref a5, .ref a6, .ref a7, .int x1])), (a1, .inl (cJ, 25, .inr (.inl g0))), (a5, .inl (cI, 5, .inl f0)), (a3, .inl (cJ, 25, .inr (.inl g1))), (a4, .inl (cI, 5, .inl f1)), (a2, .inl (cJ, 5, .inr (.inl g2)))]) hP [0, 1, 2, 3, 4, 5] rfl) (hD.sub (ws' := [(a0, .inr (10, [.ref a1, .ref a2, .ref a3, .ref a4, .ref a5, .ref a6, .ref a7, .int x1])), (a1, .inl (cJ, 25, .inr (.inl g0))), (a5, .inl (cI, 5, .inl f0)), (a3, .inl (cJ, 25, .inr (.inl g1))), (a4, .inl (cI, 5, .inl f1)), (a2, .inl (cJ, 5, .inr (.inl g2)))]) [0, 1, 2, 3, 4, 5] (by decide) rfl) hS
    ·
      refine lv_aload_n (pc := 92) hx hb dX10_bestDigit_92 rfl (lv_at hl 4 rfl) ?_
      refine lv_iload (pc := 93) hx hb dX10_bestDigit_93 (lv_at hl 0 rfl) ?_
      refine lv_iconst (pc := 95) (v := 1) hx hb dX10_bestDigit_95 (by decide) ?_
      refine lv_iadd (pc := 96) hx hb dX10_bestDigit_96 ?_
      refine lv_topi (fun x_21 _ => ?_)
      have rx_21 : zBd x_21.toInt (-2147483648) 2147483647 := n_rng x_21
      refine gc_l (pc := 97) (wc := [(a0, .inr (10, [.ref a1, .ref a2, .ref a3, .ref a4, .ref a5, .ref a6, .ref a7, .int x1])), (a4, .inl (cI, 5, .inl f1)), (a5, .inl (cI, 5, .inl f0)), (a2, .inl (cJ, 5, .inr (.inl g2))), (a1, .inl (cJ, 25, .inr (.inl g0))), (a3, .inl (cJ, 25, .inr (.inl g1)))]) (wr := []) hP hD hS hA [0, 4, 2, 5, 1, 3] [] rfl rfl (by decide) (by decide) (by decide) (fun hPc hDc => va_runV (As := [.int x_21]) (rest := []) ⟨hx, hb, hml, hown, hts⟩ (k_X10_squaresAt l D cB cC cI cJ _ a0 a1 a2 a3 a4 a5 a6 a7 x_21 x1 f1 f0 g2 g0 g1 h_x1) ⟨gcwB hts tw_922 tw_8 tw_1157 hd_yX10_squaresAt ⟨Nat.le_of_ble_eq_true rfl, Nat.le_of_ble_eq_true rfl⟩, hts _ tw_920, hts _ tw_921⟩ ⟨gblind, va_recv hK hPc (ci := 10) (q0 := 0) rfl rfl, (gpreS hPc hK hDc hN).2⟩ rfl rfl hl.1 rfl (lv_room (Nat.le_of_ble_eq_true rfl)) dX10_bestDigit_97 ⟨Nat.le_of_ble_eq_true rfl, Nat.le_of_ble_eq_true rfl⟩) (fun r_23 u_22 H locs hw_24 hP hD hS => ?_)
      replace hP : va_P D gcl [(a0, .inr (10, [.ref a1, .ref a2, .ref a3, .ref a4, .ref a5, .ref a6, .ref a7, .int x1])), (a4, .inl (cI, 5, .inl f1)), (a5, .inl (cI, 5, .inl f0)), (a2, .inl (cJ, 5, .inr (.inl g2))), (a1, .inl (cJ, 25, .inr (.inl g0))), (a3, .inl (cJ, 25, .inr (.inl g1)))] H := hP
      replace hD : va_D A [(a0, .inr (10, [.ref a1, .ref a2, .ref a3, .ref a4, .ref a5, .ref a6, .ref a7, .int x1])), (a4, .inl (cI, 5, .inl f1)), (a5, .inl (cI, 5, .inl f0)), (a2, .inl (cJ, 5, .inr (.inl g2))), (a1, .inl (cJ, 25, .inr (.inl g0))), (a3, .inl (cJ, 25, .inr (.inl g1)))] := hD
      have hw_25 : ((((-9223372036854775808) ≤ r_23.toInt ∧ r_23.toInt ≤ 9223372036854775807))) := hw_24
      have rr_23 := n_rngL r_23
      refine lv_aload_n (pc := 100) hx hb dX10_bestDigit_100 rfl (lv_at hl 4 rfl) ?_
      refine lv_iload (pc := 101) hx hb dX10_bestDigit_101 (lv_at hl 0 rfl) ?_
      refine gc_l (pc := 103) (wc := [(a0, .inr (10, [.ref a1, .ref a2, .ref a3, .ref a4, .ref a5, .ref a6, .ref a7, .int x1])), (a4, .inl (cI, 5, .inl f1)), (a5, .inl (cI, 5, .inl f0)), (a2, .inl (cJ, 5, .inr (.inl g2))), (a1, .inl (cJ, 25, .inr (.inl g0))), (a3, .inl (cJ, 25, .inr (.inl g1)))]) (wr := []) hP hD hS hA [0, 1, 2, 3, 4, 5] [] rfl rfl (by decide) (by decide) (by decide) (fun hPc hDc => va_runV (As := [.int x_18]) (rest := [.long r_23]) ⟨hx, hb, hml, hown, hts⟩ (k_X10_squaresAt l D cB cC cI cJ _ a0 a1 a2 a3 a4 a5 a6 a7 x_18 x1 f1 f0 g2 g0 g1 h_x1) ⟨gcwB hts tw_922 tw_8 tw_1157 hd_yX10_squaresAt ⟨Nat.le_of_ble_eq_true rfl, Nat.le_of_ble_eq_true rfl⟩, hts _ tw_920, hts _ tw_921⟩ ⟨gblind, va_recv hK hPc (ci := 10) (q0 := 0) rfl rfl, (gpreS hPc hK hDc hN).2⟩ rfl rfl hl.1 rfl (lv_room (Nat.le_of_ble_eq_true rfl)) dX10_bestDigit_103 ⟨Nat.le_of_ble_eq_true rfl, Nat.le_of_ble_eq_true rfl⟩) (fun r_27 u_26 H locs hw_28 hP hD hS => ?_)
      replace hP : va_P D gcl [(a0, .inr (10, [.ref a1, .ref a2, .ref a3, .ref a4, .ref a5, .ref a6, .ref a7, .int x1])), (a4, .inl (cI, 5, .inl f1)), (a5, .inl (cI, 5, .inl f0)), (a2, .inl (cJ, 5, .inr (.inl g2))), (a1, .inl (cJ, 25, .inr (.inl g0))), (a3, .inl (cJ, 25, .inr (.inl g1)))] H := hP
      replace hD : va_D A [(a0, .inr (10, [.ref a1, .ref a2, .ref a3, .ref a4, .ref a5, .ref a6, .ref a7, .int x1])), (a4, .inl (cI, 5, .inl f1)), (a5, .inl (cI, 5, .inl f0)), (a2, .inl (cJ, 5, .inr (.inl g2))), (a1, .inl (cJ, 25, .inr (.inl g0))), (a3, .inl (cJ, 25, .inr (.inl g1)))] := hD
      have hw_29 : ((((-9223372036854775808) ≤ r_27.toInt ∧ r_27.toInt ≤ 9223372036854775807))) := hw_28
      have rr_27 := n_rngL r_27
      refine b_lcmp_ge (pc := 106) (tgt := 117) hx hb rfl rfl dX10_bestDigit_106 dX10_bestDigit_107 (by decide) (fun c_30 => ?_) (fun c_30 => ?_)
      ·
        refine lv_iload (pc := 117) hx hb dX10_bestDigit_117 (lv_at hl 0 rfl) ?_
        exact hret x_18 ((fun _ => 0), (fun _ => (fun _ => 0)), (fun _ => (fun _ => 0)), (fun _ => 0), (fun _ => 0)) dX10_bestDigit_119 (show ((((-2147483648) ≤ x_18.toInt ∧ x_18.toInt ≤ 2147483647) ∧ ((-2147483648) ≤ x0.toInt ∧ x0.toInt ≤ 2147483647)) ∨ (((-2147483648) ≤ x_18.toInt ∧ x_18.toInt ≤ 2147483647) ∧ ((-2147483647) ≤ x0.toInt ∧ x0.toInt ≤ 2147483647)) ∨ (x_18.toInt = 0)) by (first | omega | (unfold zBd at *; omega))) (g_psub (wc := [(a0, .inr (10, [.ref a1, .ref a2, .ref a3, .ref a4, .ref a5, .ref a6, .ref a7, .int x1])), (a1, .inl (cJ, 25, .inr (.inl g0))), (a5, .inl (cI, 5, .inl f0)), (a3, .inl (cJ, 25, .inr (.inl g1))), (a4, .inl (cI, 5, .inl f1)), (a2, .inl (cJ, 5, .inr (.inl g2)))]) hP [0, 4, 2, 5, 1, 3] rfl) (hD.sub (ws' := [(a0, .inr (10, [.ref a1, .ref a2, .ref a3, .ref a4, .ref a5, .ref a6, .ref a7, .int x1])), (a1, .inl (cJ, 25, .inr (.inl g0))), (a5, .inl (cI, 5, .inl f0)), (a3, .inl (cJ, 25, .inr (.inl g1))), (a4, .inl (cI, 5, .inl f1)), (a2, .inl (cJ, 5, .inr (.inl g2)))]) [0, 4, 2, 5, 1, 3] (by decide) rfl) hS
      ·
        refine lv_iload (pc := 110) hx hb dX10_bestDigit_110 (lv_at hl 0 rfl) ?_
        refine lv_iconst (pc := 112) (v := 1) hx hb dX10_bestDigit_112 (by decide) ?_
        refine lv_iadd (pc := 113) hx hb dX10_bestDigit_113 ?_
        refine lv_topi (fun x_31 _ => ?_)
        have rx_31 : zBd x_31.toInt (-2147483648) 2147483647 := n_rng x_31
        refine lv_goto (pc := 114) (tgt := 119) hx hb dX10_bestDigit_114 (by decide) ?_
        exact hret x_31 ((fun _ => 0), (fun _ => (fun _ => 0)), (fun _ => (fun _ => 0)), (fun _ => 0), (fun _ => 0)) dX10_bestDigit_119 (show ((((-2147483648) ≤ x_31.toInt ∧ x_31.toInt ≤ 2147483647) ∧ ((-2147483648) ≤ x0.toInt ∧ x0.toInt ≤ 2147483647)) ∨ (((-2147483648) ≤ x_31.toInt ∧ x_31.toInt ≤ 2147483647) ∧ ((-2147483647) ≤ x0.toInt ∧ x0.toInt ≤ 2147483647)) ∨ (x_31.toInt = 0)) by (first | omega | (unfold zBd at *; omega))) (g_psub (wc := [(a0, .inr (10, [.ref a1, .ref a2, .ref a3, .ref a4, .ref a5, .ref a6, .ref a7, .int x1])), (a1, .inl (cJ, 25, .inr (.inl g0))), (a5, .inl (cI, 5, .inl f0)), (a3, .inl (cJ, 25, .inr (.inl g1))), (a4, .inl (cI, 5, .inl f1)), (a2, .inl (cJ, 5, .inr (.inl g2)))]) hP [0, 4, 2, 5, 1, 3] rfl) (hD.sub (ws' := [(a0, .inr (10, [.ref a1, .ref a2, .ref a3, .ref a4, .ref a5, .ref a6, .ref a7, .int x1])), (a1, .inl (cJ, 25, .inr (.inl g0))), (a5, .inl (cI, 5, .inl f0)), (a3, .inl (cJ, 25, .inr (.inl g1))), (a4, .inl (cI, 5, .inl f1)), (a2, .inl (cJ, 5, .inr (.inl g2)))]) [0, 4, 2, 5, 1, 3] (by decide) rfl) hS
  ·
    refine lv_iconst (pc := 36) (v := 0) hx hb dX10_bestDigit_36 (by decide) ?_
    exact hret 0 ((fun _ => 0), (fun _ => (fun _ => 0)), (fun _ => (fun _ => 0)), (fun _ => 0), (fun _ => 0)) dX10_bestDigit_37 (show ((((-2147483648) ≤ (0 : Int32).toInt ∧ (0 : Int32).toInt ≤ 2147483647) ∧ ((-2147483648) ≤ x0.toInt ∧ x0.toInt ≤ 2147483647)) ∨ (((-2147483648) ≤ (0 : Int32).toInt ∧ (0 : Int32).toInt ≤ 2147483647) ∧ ((-2147483647) ≤ x0.toInt ∧ x0.toInt ≤ 2147483647)) ∨ ((0 : Int32).toInt = 0)) by have k9 := tI_0; (first | omega | (unfold zBd at *; omega))) (g_psub (wc := [(a0, .inr (10, [.ref a1, .ref a2, .ref a3, .ref a4, .ref a5, .ref a6, .ref a7, .int x1])), (a1, .inl (cJ, 25, .inr (.inl g0))), (a5, .inl (cI, 5, .inl f0)), (a3, .inl (cJ, 25, .inr (.inl g1))), (a4, .inl (cI, 5, .inl f1)), (a2, .inl (cJ, 5, .inr (.inl g2)))]) hP [0, 1, 2, 3, 4, 5] rfl) (hD.sub (ws' := [(a0, .inr (10, [.ref a1, .ref a2, .ref a3, .ref a4, .ref a5, .ref a6, .ref a7, .int x1])), (a1, .inl (cJ, 25, .inr (.inl g0))), (a5, .inl (cI, 5, .inl f0)), (a3, .inl (cJ, 25, .inr (.inl g1))), (a4, .inl (cI, 5, .inl f1)), (a2, .inl (cJ, 5, .inr (.inl g2)))]) [0, 1, 2, 3, 4, 5] (by decide) rfl) hS
set_option maxHeartbeats 4000000 in
set_option maxRecDepth 100000 in
theorem k_X8_sentTo_5_w (l : Launch) (D : va_G) (cB cC cI cJ : ClassId) (sz : Nat) (a0 a1 a2 : Nat) (x0 x1 : Int32) (f0 f1 : Nat → Int32) (hp1 : (0 ≤ x0.toInt ∧ x0.toInt ≤ 5)) (hp3 : ((-1) ≤ x1.toInt ∧ x1.toInt ≤ 5)) : Met l yX8_sentTo (.code yX8_sentTo cX8_sentTo 6 (some .int) :: lw_gd) ({ frames := 1, cells := 0, slots := 0, locals := 22 }) (gPre D [(cB, .byte), (cC, .char), (cI, .int), (cJ, .long)] [.ref a0, .int x0, .ref a1, .int x1] [(a0, .inr (8, [.ref a2])), (a2, .inl (cI, 30, .inl f0)), (a1, .inl (cI, 5, .inl f1))] sz) (va_Qi (fun r u => (r = sW (tX9 f0 x0.toInt) f1 (x1.toInt).toNat)) (gB D (va_A [(a0, .inr (8, [.ref a2])), (a2, .inl (cI, 30, .inl f0)), (a1, .inl (cI, 5, .inl f1))] sz) (fun u : gEx => [(a0, .inr (8, [.ref a2])), (a2, .inl (cI, 30, .inl f0)), (a1, .inl (cI, 5, .inl f1))])) (va_A [(a0, .inr (8, [.ref a2])), (a2, .inl (cI, 30, .inl f0)), (a1, .inl (cI, 5, .inl f1))] sz)) 0 0 (va_A [(a0, .inr (8, [.ref a2])), (a2, .inl (cI, 30, .inl f0)), (a1, .inl (cI, 5, .inl f1))] sz) := by
  refine gOf_i (by decide +kernel) (Nat.le_of_ble_eq_true rfl) ?_
  intro p e s m args below meth c ls A Q hx hb hts hown hml hN hK hP hD hA hl hret
  replace hown : s.vm.findClass RX8 = some m.cls := hown
  have hS : va_S A s.heap s.heap [] := va_S.rf
  replace hP : va_P D gcl [(a0, .inr (8, [.ref a2])), (a2, .inl (cI, 30, .inl f0)), (a1, .inl (cI, 5, .inl f1))] s.heap := hP
  replace hl : lv_has ls 6 [(0, .ref a0), (1, .int x0), (2, .ref a1), (3, .int x1)] := hl
  refine lv_iconst (pc := 0) (v := 0) hx hb dX8_sentTo_0 (by decide) ?_
  refine lv_istore (pc := 1) (lv' := [(4, .int 0), (0, .ref a0), (1, .int x0), (2, .ref a1), (3, .int x1)]) hx hb dX8_sentTo_1 hl (by decide) rfl (fun ls hl => ?_)
  refine lv_iconst (pc := 3) (v := 0) hx hb dX8_sentTo_3 (by decide) ?_
  refine lv_istore (pc := 4) (lv' := [(5, .int 0), (4, .int 0), (0, .ref a0), (1, .int x0), (2, .ref a1), (3, .int x1)]) hx hb dX8_sentTo_4 hl (by decide) rfl (fun ls hl => ?_)
  have lp_7 : ∀ (n : Nat) (x_1 x_3 : Int32) (H : Heap) (locs : List Loc) (ls : Array Slot), (0 ≤ x_1.toInt ∧ x_1.toInt ≤ 5) → (x_1.toInt ≤ x1.toInt ∨ x_1.toInt = 0) → (x_3 = sW (tX9 f0 x0.toInt) f1 (x_1.toInt).toNat) → (2147483647 - x_1.toInt).toNat < n → va_P D gcl [(a0, .inr (8, [.ref a2])), (a2, .inl (cI, 30, .inl f0)), (a1, .inl (cI, 5, .inl f1))] H → va_D A [(a0, .inr (8, [.ref a2])), (a2, .inl (cI, 30, .inl f0)), (a1, .inl (cI, 5, .inl f1))] → va_S A s.heap H locs → lv_has ls 6 [(5, .int x_1), (4, .int x_3), (0, .ref a0), (1, .int x0), (2, .ref a1), (3, .int x1)] → W p l e ({ frames := 1, cells := 0, slots := 0, locals := 22 }) s m args below meth c H locs 0 0 Q (F0 m 6 ls []) := by
    intro n
    induction n with
    | zero => intro x_1 x_3 H locs ls hi_2 hi_5 hi_6 hmu; exact absurd hmu (Nat.not_lt_zero _)
    | succ n ih_lp_7 =>
      intro x_1 x_3 H locs ls hi_2 hi_5 hi_6 hmu_lp_7 hP hD hS hl
      have hi_4 := n_rng x_3
      refine lv_iload (pc := 6) hx hb dX8_sentTo_6 (lv_at hl 0 rfl) ?_
      refine lv_iload_n (pc := 8) hx hb dX8_sentTo_8 rfl (lv_at hl 5 rfl) ?_
      refine b_icmp_ge (pc := 9) (tgt := 35) hx hb rfl rfl  dX8_sentTo_9 (by decide) (fun c_8 => ?_) (fun c_8 => ?_)
      ·
        refine lv_iload (pc := 35) hx hb dX8_sentTo_35 (lv_at hl 1 rfl) ?_
        exact hret x_3 ((fun _ => 0), (fun _ => (fun _ => 0)), (fun _ => (fun _ => 0)), (fun _ => 0), (fun _ => 0)) dX8_sentTo_37 (show x_3 = sW (tX9 f0 x0.toInt) f1 (x1.toInt).toNat from (by have e9 : (x_1.toInt).toNat = (x1.toInt).toNat := (by (first | omega | (unfold zBd at *; omega))); have q9 := hi_6; rw [e9] at q9; exact q9)) (g_psub (wc := [(a0, .inr (8, [.ref a2])), (a2, .inl (cI, 30, .inl f0)), (a1, .inl (cI, 5, .inl f1))]) hP [0, 1, 2] rfl) (hD.sub (ws' := [(a0, .inr (8, [.ref a2])), (a2, .inl (cI, 30, .inl f0)), (a1, .inl (cI, 5, .inl f1))]) [0, 1, 2] (by decide) rfl) hS
      ·
        refine lv_iload (pc := 12) hx hb dX8_sentTo_12 (lv_at hl 1 rfl) ?_
        refine lv_aload_n (pc := 14) hx hb dX8_sentTo_14 rfl (lv_at hl 2 rfl) ?_
        refine lv_iload_n (pc := 15) hx hb dX8_sentTo_15 rfl (lv_at hl 3 rfl) ?_
        refine lv_iload (pc := 16) hx hb dX8_sentTo_16 (lv_at hl 0 rfl) ?_
        refine gc_i (pc := 18) (wc := [(a0, .inr (8, [.ref a2])), (a2, .inl (cI, 30, .inl f0))]) (wr := [(a1, .inl (cI, 5, .inl f1))]) hP hD hS hA [0, 1] [2] rfl rfl (by decide) (by decide) (by decide) (fun hPc hDc => va_runV (As := [.int x0, .int x_1]) (rest := [.int x_3]) ⟨hx, hb, hml, hown, hts⟩ (k_X8_at_e l D cB cC cI cJ _ a0 a2 x0 x_1 f0 hp1 (by  (first | omega | (unfold zBd at *; omega)))) ⟨gcwB hts tw_791 tw_5 tw_800 hd_yX8_at ⟨Nat.le_of_ble_eq_true rfl, Nat.le_of_ble_eq_true rfl⟩, hts _ tw_789, hts _ tw_790⟩ ⟨gblind, va_recv hK hPc (ci := 8) (q0 := 0) rfl rfl, (gpreS hPc hK hDc hN).2⟩ rfl rfl hl.1 rfl (lv_room (Nat.le_of_ble_eq_true rfl)) dX8_sentTo_18 ⟨Nat.le_of_ble_eq_true rfl, Nat.le_of_ble_eq_true rfl⟩) (fun r_10 u_9 H locs hw_11 hP hD hS => ?_)
        replace hP : va_P D gcl [(a1, .inl (cI, 5, .inl f1)), (a0, .inr (8, [.ref a2])), (a2, .inl (cI, 30, .inl f0))] H := hP
        replace hD : va_D A [(a1, .inl (cI, 5, .inl f1)), (a0, .inr (8, [.ref a2])), (a2, .inl (cI, 30, .inl f0))] := hD
        have hw_12 : (r_10 = f0 (6 * x_1.toInt + x0.toInt).toNat) := hw_11
        have rr_10 : zBd r_10.toInt (-2147483648) 2147483647 := n_rng r_10
        refine lv_aload_n (pc := 21) hx hb dX8_sentTo_21 rfl (lv_at hl 4 rfl) ?_
        refine lv_iload (pc := 22) hx hb dX8_sentTo_22 (lv_at hl 0 rfl) ?_
        refine va_iald (pc := 24) hx hb hK hP 0 2 rfl rfl (n_in rfl (by (first | omega | (unfold zBd at *; omega))) (by (first | omega | (unfold zBd at *; omega)))) dX8_sentTo_24 ?_
        refine lv_topi (fun x_13 ex_13 => ?_)
        have rx_13 : zBd x_13.toInt (-2147483648) 2147483647 := n_rng x_13
        replace ex_13 : x_13 = f1 (x_1.toInt).toNat := ex_13
        have tx_13 := congrArg Int32.toInt ex_13
        refine lv_imul (pc := 25) hx hb dX8_sentTo_25 ?_
        refine lv_topi (fun x_14 ex_14 => ?_)
        have rx_14 : zBd x_14.toInt (-2147483648) 2147483647 := n_rng x_14
        refine lv_iadd (pc := 26) hx hb dX8_sentTo_26 ?_
        refine lv_topi (fun x_15 ex_15 => ?_)
        have rx_15 : zBd x_15.toInt (-2147483648) 2147483647 := n_rng x_15
        refine lv_istore (pc := 27) (lv' := [(4, .int x_15), (5, .int x_1), (0, .ref a0), (1, .int x0), (2, .ref a1), (3, .int x1)]) hx hb dX8_sentTo_27 hl (by decide) rfl (fun ls hl => ?_)
        refine b_iinc (pc := 29) hx hb dX8_sentTo_29 hl (k := 1) rfl rfl tI_1 (by (first | omega | (unfold zBd at *; omega))) (by (first | omega | (unfold zBd at *; omega))) (by decide) (fun x_16 ex_16 ls hl => ?_)
        replace hl : lv_has ls 6 [(5, .int x_16), (4, .int x_15), (0, .ref a0), (1, .int x0), (2, .ref a1), (3, .int x1)] := hl
        refine lv_goto (pc := 32) (tgt := 6) hx hb dX8_sentTo_32 (by decide) ?_
        exact ih_lp_7 x_16 x_15 _ _ ls (by (first | omega | (unfold zBd at *; omega))) (by (first | omega | (unfold zBd at *; omega))) (sW_step hi_6 (tx_e hw_12 (by (first | omega | (unfold zBd at *; omega)))) ex_13 ex_14 ex_15 (by (first | omega | (unfold zBd at *; omega))) (by (first | omega | (unfold zBd at *; omega)))) (by (first | omega | (unfold zBd at *; omega))) (g_psub hP [1, 2, 0] rfl) (hD.sub [1, 2, 0] (by decide) rfl) hS (lv_sub hl [0, 1, 2, 3, 4, 5] rfl)
  exact lp_7 _ 0 0 _ _ ls (n_c tI_0 (by decide)) (by have q := tI_0; (first | omega | (unfold zBd at *; omega))) (rfl) (Nat.lt_succ_self _) hP hD hS (lv_sub hl [0, 1, 2, 3, 4, 5] rfl)
set_option maxHeartbeats 4000000 in
set_option maxRecDepth 100000 in
theorem k_X1_letterOfWord_T (l : Launch) (D : va_G) (cB cC cI cJ : ClassId) (sz : Nat) (a0 a1 a2 a3 : Nat) (x0 x1 x2 x3 x4 x5 x6 x7 x8 : Int32) (f0 : Nat → Int32) (hp1 : (0 ≤ x0.toInt ∧ x0.toInt ≤ 15)) (hp2 : (0 ≤ x1.toInt ∧ x1.toInt ≤ 4)) (h_x2 : zBd x2.toInt (-1) 8) (h_x3 : zBd x3.toInt (-1) 5) (h_x4 : zBd x4.toInt (-1) 6) (h_x5 : zBd x5.toInt 0 6) (h_x6 : zBd x6.toInt 0 16) (hf_f0 : (∀ j, (-7) ≤ (f0 j).toInt ∧ (f0 j).toInt ≤ 7)) : Met l yX1_letterOfWord (.code yX1_letterOfWord cX1_letterOfWord 3 (some .int) :: lw_gd) ({ frames := 0, cells := 0, slots := 0, locals := 0 }) (gPre D [(cB, .byte), (cC, .char), (cI, .int), (cJ, .long)] [.ref a0, .int x0, .int x1] [(a0, .inr (1, [.ref a1, .ref a2, .ref a3, .int x2, .int x3, .int x4, .int x5, .int x6, .int x7, .int x8])), (a3, .inl (cI, 80, .inl f0))] sz) (va_Qi (fun r u => ((-7) ≤ r.toInt ∧ r.toInt ≤ 7) ∧ (r = f0 (5 * x0.toInt + x1.toInt).toNat)) (gB D (va_A [(a0, .inr (1, [.ref a1, .ref a2, .ref a3, .int x2, .int x3, .int x4, .int x5, .int x6, .int x7, .int x8])), (a3, .inl (cI, 80, .inl f0))] sz) (fun u : gEx => [(a0, .inr (1, [.ref a1, .ref a2, .ref a3, .int x2, .int x3, .int x4, .int x5, .int x6, .int x7, .int x8])), (a3, .inl (cI, 80, .inl f0))])) (va_A [(a0, .inr (1, [.ref a1, .ref a2, .ref a3, .int x2, .int x3, .int x4, .int x5, .int x6, .int x7, .int x8])), (a3, .inl (cI, 80, .inl f0))] sz)) 0 0 (va_A [(a0, .inr (1, [.ref a1, .ref a2, .ref a3, .int x2, .int x3, .int x4, .int x5, .int x6, .int x7, .int x8])), (a3, .inl (cI, 80, .inl f0))] sz) := by
  refine gOf_i (by decide +kernel) (Nat.le_of_ble_eq_true rfl) ?_
  intro p e s m args below meth c ls A Q hx hb hts hown hml hN hK hP hD hA hl hret
  replace hown : s.vm.findClass RX1 = some m.cls := hown
  have hS : va_S A s.heap s.heap [] := va_S.rf
  replace hP : va_P D gcl [(a0, .inr (1, [.ref a1, .ref a2, .ref a3, .int x2, .int x3, .int x4, .int x5, .int x6, .int x7, .int x8])), (a3, .inl (cI, 80, .inl f0))] s.heap := hP
  replace hl : lv_has ls 3 [(0, .ref a0), (1, .int x0), (2, .int x1)] := hl
  have rx7 : zBd x7.toInt (-2147483648) 2147483647 := n_rng x7
  have rx8 : zBd x8.toInt (-2147483648) 2147483647 := n_rng x8
  refine lv_aload_n (pc := 0) hx hb dX1_letterOfWord_0 rfl (lv_at hl 0 rfl) ?_
  refine va_get (pc := 1) (ci := 1) (v := .ref a3) (C := RX1) (T := TX1) (N := 10) hx hb hts iX1 hown hK hP 0 rfl rfl 2 (by decide) (hts _ tw_108) (fun _ h9 => h9) rfl dX1_letterOfWord_1 ?_
  refine lv_iload_n (pc := 4) hx hb dX1_letterOfWord_4 rfl (lv_at hl 1 rfl) ?_
  refine lv_iconst (pc := 5) (v := 5) hx hb dX1_letterOfWord_5 (by decide) ?_
  refine b_imul (pc := 6) hx hb rfl tI_5 (by (first | omega | (unfold zBd at *; omega))) (by (first | omega | (unfold zBd at *; omega))) dX1_letterOfWord_6 (fun x_1 ex_1 => ?_)
  refine lv_iload_n (pc := 7) hx hb dX1_letterOfWord_7 rfl (lv_at hl 2 rfl) ?_
  refine b_iadd (pc := 8) hx hb rfl rfl (by (first | omega | (unfold zBd at *; omega))) (by (first | omega | (unfold zBd at *; omega))) dX1_letterOfWord_8 (fun x_2 ex_2 => ?_)
  refine va_iald (pc := 9) hx hb hK hP 1 2 rfl rfl (n_in rfl (by (first | omega | (unfold zBd at *; omega))) (by (first | omega | (unfold zBd at *; omega)))) dX1_letterOfWord_9 ?_
  refine lv_topi (fun x_3 ex_3 => ?_)
  have rx_3 : ((-7) ≤ x_3.toInt ∧ x_3.toInt ≤ 7) := by rw [ex_3]; exact hf_f0 _
  replace ex_3 : x_3 = f0 (x_2.toInt).toNat := ex_3
  have tx_3 := congrArg Int32.toInt ex_3
  exact hret x_3 ((fun _ => 0), (fun _ => (fun _ => 0)), (fun _ => (fun _ => 0)), (fun _ => 0), (fun _ => 0)) dX1_letterOfWord_10 ⟨(show ((-7) ≤ x_3.toInt ∧ x_3.toInt ≤ 7) from rx_3), (show x_3 = f0 (5 * x0.toInt + x1.toInt).toNat from (e_ld ex_3 (by (first | omega | (unfold zBd at *; omega)))).symm)⟩ (g_psub (wc := [(a0, .inr (1, [.ref a1, .ref a2, .ref a3, .int x2, .int x3, .int x4, .int x5, .int x6, .int x7, .int x8])), (a3, .inl (cI, 80, .inl f0))]) hP [0, 1] rfl) (hD.sub (ws' := [(a0, .inr (1, [.ref a1, .ref a2, .ref a3, .int x2, .int x3, .int x4, .int x5, .int x6, .int x7, .int x8])), (a3, .inl (cI, 80, .inl f0))]) [0, 1] (by decide) rfl) hS
set_option maxHeartbeats 4000000 in
set_option maxRecDepth 100000 in
theorem k_X0_worthOfPair (l : Launch) (D : va_G) (cB cC cI cJ : ClassId) (sz : Nat) (a0 a1 a2 a3 a4 a5 a6 a7 : Nat) (x0 x1 x2 x3 x4 x5 x6 x7 x8 x9 x10 x11 x12 : Int32) (y0 : Int64) (f0 f1 f2 : Nat → Int32) (hp2 : (0 ≤ x0.toInt ∧ x0.toInt ≤ 15)) (hp3 : (0 ≤ x1.toInt ∧ x1.toInt ≤ 15)) (h_x2 : zBd x2.toInt 0 16) (h_x3 : zBd x3.toInt 0 1) (h_x4 : zBd x4.toInt 0 256) (h_x6 : zBd x6.toInt (-1) 8) (h_x7 : zBd x7.toInt (-1) 5) (h_x8 : zBd x8.toInt (-1) 6) (h_x9 : zBd x9.toInt 0 6) (h_x10 : zBd x10.toInt 0 16) (hf_f1 : (∀ j, (-7) ≤ (f1 j).toInt ∧ (f1 j).toInt ≤ 7)) : Met l yX0_worthOfPair (.code yX0_worthOfPair cX0_worthOfPair 9 (some .long) :: lw_gd) ({ frames := 2, cells := 0, slots := 0, locals := 47 }) (gPre D [(cB, .byte), (cC, .char), (cI, .int), (cJ, .long)] [.ref a0, .ref a1, .int x0, .int x1] [(a0, .inr (0, [.ref a2, .ref a3, .int x2, .int x3, .long y0, .int x4, .int x5])), (a3, .inl (cI, 5, .inl f0)), (a1, .inr (1, [.ref a4, .ref a5, .ref a6, .int x6, .int x7, .int x8, .int x9, .int x10, .int x11, .int x12])), (a6, .inl (cI, 80, .inl f1)), (a4, .inr (8, [.ref a7])), (a7, .inl (cI, 30, .inl f2))] sz) (va_Ql (fun r u => (r = pX9 f2 f1 x7.toInt x8.toInt x0.toInt x1.toInt)) (gB D (va_A [(a0, .inr (0, [.ref a2, .ref a3, .int x2, .int x3, .long y0, .int x4, .int x5])), (a3, .inl (cI, 5, .inl f0)), (a1, .inr (1, [.ref a4, .ref a5, .ref a6, .int x6, .int x7, .int x8, .int x9, .int x10, .int x11, .int x12])), (a6, .inl (cI, 80, .inl f1)), (a4, .inr (8, [.ref a7])), (a7, .inl (cI, 30, .inl f2))] sz) (fun u : gEx => [(a0, .inr (0, [.ref a2, .ref a3, .int x2, .int x3, .long y0, .int x4, .int x5])), (a3, .inl (cI, 5, .inl (u.2.1 0))), (a1, .inr (1, [.ref a4, .ref a5, .ref a6, .int x6, .int x7, .int x8, .int x9, .int x10, .int x11, .int x12])), (a6, .inl (cI, 80, .inl f1)), (a4, .inr (8, [.ref a7])), (a7, .inl (cI, 30, .inl f2))])) (va_A [(a0, .inr (0, [.ref a2, .ref a3, .int x2, .int x3, .long y0, .int x4, .int x5])), (a3, .inl (cI, 5, .inl f0)), (a1, .inr (1, [.ref a4, .ref a5, .ref a6, .int x6, .int x7, .int x8, .int x9, .int x10, .int x11, .int x12])), (a6, .inl (cI, 80, .inl f1)), (a4, .inr (8, [.ref a7])), (a7, .inl (cI, 30, .inl f2))] sz)) 0 0 (va_A [(a0, .inr (0, [.ref a2, .ref a3, .int x2, .int x3, .long y0, .int x4, .int x5])), (a3, .inl (cI, 5, .inl f0)), (a1, .inr (1, [.ref a4, .ref a5, .ref a6, .int x6, .int x7, .int x8, .int x9, .int x10, .int x11, .int x12])), (a6, .inl (cI, 80, .inl f1)), (a4, .inr (8, [.ref a7])), (a7, .inl (cI, 30, .inl f2))] sz) := by
  refine gOf_l (by decide +kernel) (Nat.le_of_ble_eq_true rfl) ?_
  intro p e s m args below meth c ls A Q hx hb hts hown hml hN hK hP hD hA hl hret
  replace hown : s.vm.findClass RX0 = some m.cls := hown
  have hS : va_S A s.heap s.heap [] := va_S.rf
  replace hP : va_P D gcl [(a0, .inr (0, [.ref a2, .ref a3, .int x2, .int x3, .long y0, .int x4, .int x5])), (a3, .inl (cI, 5, .inl f0)), (a1, .inr (1, [.ref a4, .ref a5, .ref a6, .int x6, .int x7, .int x8, .int x9, .int x10, .int x11, .int x12])), (a6, .inl (cI, 80, .inl f1)), (a4, .inr (8, [.ref a7])), (a7, .inl (cI, 30, .inl f2))] s.heap := hP
  replace hl : lv_has ls 9 [(0, .ref a0), (1, .ref a1), (2, .int x0), (3, .int x1)] := hl
  have ry0 := n_rngL y0
  have rx5 : zBd x5.toInt (-2147483648) 2147483647 := n_rng x5
  have rx11 : zBd x11.toInt (-2147483648) 2147483647 := n_rng x11
  have rx12 : zBd x12.toInt (-2147483648) 2147483647 := n_rng x12
  refine lv_iconst (pc := 0) (v := 0) hx hb dX0_worthOfPair_0 (by decide) ?_
  refine lv_istore (pc := 1) (lv' := [(4, .int 0), (0, .ref a0), (1, .ref a1), (2, .int x0), (3, .int x1)]) hx hb dX0_worthOfPair_1 hl (by decide) rfl (fun ls hl => ?_)
  have lp_6 : ∀ (n : Nat) (x_1 : Int32) (f_3 : Nat → Int32) (H : Heap) (locs : List Loc) (ls : Array Slot), (0 ≤ x_1.toInt ∧ x_1.toInt ≤ 5) → (x_1.toInt ≤ x7.toInt ∨ x_1.toInt = 0) → (dfQ f_3 f1 x0.toInt x1.toInt x_1.toInt) → (2147483647 - x_1.toInt).toNat < n → va_P D gcl [(a0, .inr (0, [.ref a2, .ref a3, .int x2, .int x3, .long y0, .int x4, .int x5])), (a3, .inl (cI, 5, .inl f_3)), (a1, .inr (1, [.ref a4, .ref a5, .ref a6, .int x6, .int x7, .int x8, .int x9, .int x10, .int x11, .int x12])), (a6, .inl (cI, 80, .inl f1)), (a4, .inr (8, [.ref a7])), (a7, .inl (cI, 30, .inl f2))] H → va_D A [(a0, .inr (0, [.ref a2, .ref a3, .int x2, .int x3, .long y0, .int x4, .int x5])), (a3, .inl (cI, 5, .inl f_3)), (a1, .inr (1, [.ref a4, .ref a5, .ref a6, .int x6, .int x7, .int x8, .int x9, .int x10, .int x11, .int x12])), (a6, .inl (cI, 80, .inl f1)), (a4, .inr (8, [.ref a7])), (a7, .inl (cI, 30, .inl f2))] → va_S A s.heap H locs → lv_has ls 9 [(4, .int x_1), (0, .ref a0), (1, .ref a1), (2, .int x0), (3, .int x1)] → W p l e ({ frames := 2, cells := 0, slots := 0, locals := 47 }) s m args below meth c H locs 0 0 Q (F0 m 3 ls []) := by
    intro n
    induction n with
    | zero => intro x_1 f_3 H locs ls hi_2 hi_4 hi_5 hmu; exact absurd hmu (Nat.not_lt_zero _)
    | succ n ih_lp_6 =>
      intro x_1 f_3 H locs ls hi_2 hi_4 hi_5 hmu_lp_6 hP hD hS hl
      refine lv_iload (pc := 3) hx hb dX0_worthOfPair_3 (lv_at hl 0 rfl) ?_
      refine lv_aload_n (pc := 5) hx hb dX0_worthOfPair_5 rfl (lv_at hl 2 rfl) ?_
      refine va_getN (pc := 6) (ci := 1) (v := .int x7) (C := RX1) (T := TX1) (N := 10) hx hb hts iX1 hown hK hP 2 rfl rfl 4 (by decide) (va_Nw.use rfl (hN _ tn_119)) (fun _ h9 => h9) rfl dX0_worthOfPair_6 ?_
      refine b_icmp_ge (pc := 9) (tgt := 40) hx hb rfl rfl  dX0_worthOfPair_9 (by decide) (fun c_7 => ?_) (fun c_7 => ?_)
      ·
        refine lv_lconst (pc := 40) (v := 0) hx hb dX0_worthOfPair_40 (by decide) ?_
        refine lv_lstore (pc := 41) (lv' := [(4, .long 0), (0, .ref a0), (1, .ref a1), (2, .int x0), (3, .int x1)]) hx hb dX0_worthOfPair_41 hl (by decide) rfl (fun ls hl => ?_)
        refine lv_iconst (pc := 43) (v := 0) hx hb dX0_worthOfPair_43 (by decide) ?_
        refine lv_istore (pc := 44) (lv' := [(6, .int 0), (4, .long 0), (0, .ref a0), (1, .ref a1), (2, .int x0), (3, .int x1)]) hx hb dX0_worthOfPair_44 hl (by decide) rfl (fun ls hl => ?_)
        have lp_14 : ∀ (n : Nat) (x_8 : Int32) (y_10 : Int64) (H : Heap) (locs : List Loc) (ls : Array Slot), (0 ≤ x_8.toInt ∧ x_8.toInt ≤ 6) → (x_8.toInt ≤ x8.toInt ∨ x_8.toInt = 0) → (y_10 = qW (fun r : Nat => sW (tX9 f2 (r : Int)) (wD f1 x0.toInt x1.toInt) (x7.toInt).toNat) (x_8.toInt).toNat) → (2147483647 - x_8.toInt).toNat < n → va_P D gcl [(a0, .inr (0, [.ref a2, .ref a3, .int x2, .int x3, .long y0, .int x4, .int x5])), (a3, .inl (cI, 5, .inl f_3)), (a1, .inr (1, [.ref a4, .ref a5, .ref a6, .int x6, .int x7, .int x8, .int x9, .int x10, .int x11, .int x12])), (a6, .inl (cI, 80, .inl f1)), (a4, .inr (8, [.ref a7])), (a7, .inl (cI, 30, .inl f2))] H → va_D A [(a0, .inr (0, [.ref a2, .ref a3, .int x2, .int x3, .long y0, .int x4, .int x5])), (a3, .inl (cI, 5, .inl f_3)), (a1, .inr (1, [.ref a4, .ref a5, .ref a6, .int x6, .int x7, .int x8, .int x9, .int x10, .int x11, .int x12])), (a6, .inl (cI, 80, .inl f1)), (a4, .inr (8, [.ref a7])), (a7, .inl (cI, 30, .inl f2))] → va_S A s.heap H locs → lv_has ls 9 [(6, .int x_8), (4, .long y_10), (0, .ref a0), (1, .ref a1), (2, .int x0), (3, .int x1)] → W p l e ({ frames := 2, cells := 0, slots := 0, locals := 47 }) s m args below meth c H locs 0 0 Q (F0 m 46 ls []) := by
          intro n
          induction n with
          | zero => intro x_8 y_10 H locs ls hi_9 hi_12 hi_13 hmu; exact absurd hmu (Nat.not_lt_zero _)
          | succ n ih_lp_14 =>
            intro x_8 y_10 H locs ls hi_9 hi_12 hi_13 hmu_lp_14 hP hD hS hl
            have hi_11 := n_rngL y_10
            refine lv_iload (pc := 46) hx hb dX0_worthOfPair_46 (lv_at hl 0 rfl) ?_
            refine lv_aload_n (pc := 48) hx hb dX0_worthOfPair_48 rfl (lv_at hl 3 rfl) ?_
            refine va_getN (pc := 49) (ci := 1) (v := .int x8) (C := RX1) (T := TX1) (N := 10) hx hb hts iX1 hown hK hP 2 rfl rfl 5 (by decide) (va_Nw.use rfl (hN _ tn_127)) (fun _ h9 => h9) rfl dX0_worthOfPair_49 ?_
            refine b_icmp_ge (pc := 52) (tgt := 91) hx hb rfl rfl  dX0_worthOfPair_52 (by decide) (fun c_15 => ?_) (fun c_15 => ?_)
            ·
              refine lv_lload (pc := 91) hx hb dX0_worthOfPair_91 (lv_at hl 1 rfl) ?_
              exact hret y_10 ((fun _ => 0), (fun k => [f_3].getD k (fun _ => 0)), (fun _ => (fun _ => 0)), (fun _ => 0), (fun _ => 0)) dX0_worthOfPair_93 (show y_10 = pX9 f2 f1 x7.toInt x8.toInt x0.toInt x1.toInt from (by have e9 : (x_8.toInt).toNat = (x8.toInt).toNat := (by (first | omega | (unfold zBd at *; omega))); have q9 := hi_13; rw [e9] at q9; exact q9)) (g_psub (wc := [(a0, .inr (0, [.ref a2, .ref a3, .int x2, .int x3, .long y0, .int x4, .int x5])), (a3, .inl (cI, 5, .inl f_3)), (a1, .inr (1, [.ref a4, .ref a5, .ref a6, .int x6, .int x7, .int x8, .int x9, .int x10, .int x11, .int x12])), (a6, .inl (cI, 80, .inl f1)), (a4, .inr (8, [.ref a7])), (a7, .inl (cI, 30, .inl f2))]) hP [0, 1, 2, 3, 4, 5] rfl) (hD.sub (ws' := [(a0, .inr (0, [.ref a2, .ref a3, .int x2, .int x3, .long y0, .int x4, .int x5])), (a3, .inl (cI, 5, .inl f_3)), (a1, .inr (1, [.ref a4, .ref a5, .ref a6, .int x6, .int x7, .int x8, .int x9, .int x10, .int x11, .int x12])), (a6, .inl (cI, 80, .inl f1)), (a4, .inr (8, [.ref a7])), (a7, .inl (cI, 30, .inl f2))]) [0, 1, 2, 3, 4, 5] (by decide) rfl) hS
            ·
              refine lv_aload_n (pc := 55) hx hb dX0_worthOfPair_55 rfl (lv_at hl 3 rfl) ?_
              refine va_getN (pc := 56) (ci := 1) (v := .ref a4) (C := RX1) (T := TX1) (N := 10) hx hb hts iX1 hown hK hP 2 rfl rfl 0 (by decide) (va_Nw.use rfl (hN _ tn_100)) (fun _ h9 => h9) rfl dX0_worthOfPair_56 ?_
              refine lv_iload (pc := 59) hx hb dX0_worthOfPair_59 (lv_at hl 0 rfl) ?_
              refine lv_aload_n (pc := 61) hx hb dX0_worthOfPair_61 rfl (lv_at hl 2 rfl) ?_
              refine va_get (pc := 62) (ci := 0) (v := .ref a3) (C := RX0) (T := TX0) (N := 7) hx hb hts iX0 hown hK hP 0 rfl rfl 1 (by decide) (hts _ tw_315) (fun _ h9 => h9) rfl dX0_worthOfPair_62 ?_
              refine lv_aload_n (pc := 65) hx hb dX0_worthOfPair_65 rfl (lv_at hl 3 rfl) ?_
              refine va_getN (pc := 66) (ci := 1) (v := .int x7) (C := RX1) (T := TX1) (N := 10) hx hb hts iX1 hown hK hP 2 rfl rfl 4 (by decide) (va_Nw.use rfl (hN _ tn_119)) (fun _ h9 => h9) rfl dX0_worthOfPair_66 ?_
              refine gc_i (pc := 69) (wc := [(a4, .inr (8, [.ref a7])), (a7, .inl (cI, 30, .inl f2)), (a3, .inl (cI, 5, .inl f_3))]) (wr := [(a0, .inr (0, [.ref a2, .ref a3, .int x2, .int x3, .long y0, .int x4, .int x5])), (a1, .inr (1, [.ref a4, .ref a5, .ref a6, .int x6, .int x7, .int x8, .int x9, .int x10, .int x11, .int x12])), (a6, .inl (cI, 80, .inl f1))]) hP hD hS hA [4, 5, 1] [0, 2, 3] rfl rfl (by decide) (by decide) (by decide) (fun hPc hDc => va_runV (As := [.int x_8, .ref a3, .int x7]) (rest := []) ⟨hx, hb, hml, hown, hts⟩ (k_X8_sentTo_5_w l D cB cC cI cJ _ a4 a3 a7 x_8 x7 f2 f_3 (by  (first | omega | (unfold zBd at *; omega))) h_x7) ⟨gcwB hts tw_834 tw_5 tw_1201 hd_yX8_sentTo ⟨Nat.le_of_ble_eq_true rfl, Nat.le_of_ble_eq_true rfl⟩, hts _ tw_832, hts _ tw_833⟩ ⟨gblind, va_recv hK hPc (ci := 8) (q0 := 0) rfl rfl, (gpreS hPc hK hDc hN).2⟩ rfl rfl hl.1 rfl (lv_room (Nat.le_of_ble_eq_true rfl)) dX0_worthOfPair_69 ⟨Nat.le_of_ble_eq_true rfl, Nat.le_of_ble_eq_true rfl⟩) (fun r_17 u_16 H locs hw_18 hP hD hS => ?_)
              replace hP : va_P D gcl [(a0, .inr (0, [.ref a2, .ref a3, .int x2, .int x3, .long y0, .int x4, .int x5])), (a1, .inr (1, [.ref a4, .ref a5, .ref a6, .int x6, .int x7, .int x8, .int x9, .int x10, .int x11, .int x12])), (a6, .inl (cI, 80, .inl f1)), (a4, .inr (8, [.ref a7])), (a7, .inl (cI, 30, .inl f2)), (a3, .inl (cI, 5, .inl f_3))] H := hP
              replace hD : va_D A [(a0, .inr (0, [.ref a2, .ref a3, .int x2, .int x3, .long y0, .int x4, .int x5])), (a1, .inr (1, [.ref a4, .ref a5, .ref a6, .int x6, .int x7, .int x8, .int x9, .int x10, .int x11, .int x12])), (a6, .inl (cI, 80, .inl f1)), (a4, .inr (8, [.ref a7])), (a7, .inl (cI, 30, .inl f2)), (a3, .inl (cI, 5, .inl f_3))] := hD
              have hw_19 : (r_17 = sW (tX9 f2 x_8.toInt) f_3 (x7.toInt).toNat) := hw_18
              have rr_17 : zBd r_17.toInt (-2147483648) 2147483647 := n_rng r_17
              refine b_i2l (pc := 72) hx hb rfl dX0_worthOfPair_72 (fun y_20 ey_20 => ?_)
              have ry_20 : zBd r_17.toInt (-2147483648) 2147483647 := n_rng r_17
              refine lv_lstore (pc := 73) (lv' := [(7, .long y_20), (6, .int x_8), (4, .long y_10), (0, .ref a0), (1, .ref a1), (2, .int x0), (3, .int x1)]) hx hb dX0_worthOfPair_73 hl (by decide) rfl (fun ls hl => ?_)
              refine lv_lload (pc := 75) hx hb dX0_worthOfPair_75 (lv_at hl 2 rfl) ?_
              refine lv_lload (pc := 77) hx hb dX0_worthOfPair_77 (lv_at hl 0 rfl) ?_
              refine lv_lload (pc := 79) hx hb dX0_worthOfPair_79 (lv_at hl 0 rfl) ?_
              refine lv_lmul (pc := 81) hx hb dX0_worthOfPair_81 ?_
              refine lv_topl (fun y_21 ey_21 => ?_)
              have ry_21 := n_rngL y_21
              refine lv_ladd (pc := 82) hx hb dX0_worthOfPair_82 ?_
              refine lv_topl (fun y_22 ey_22 => ?_)
              have ry_22 := n_rngL y_22
              refine lv_lstore (pc := 83) (lv' := [(4, .long y_22), (7, .long y_20), (6, .int x_8), (0, .ref a0), (1, .ref a1), (2, .int x0), (3, .int x1)]) hx hb dX0_worthOfPair_83 hl (by decide) rfl (fun ls hl => ?_)
              refine b_iinc (pc := 85) hx hb dX0_worthOfPair_85 hl (k := 2) rfl rfl tI_1 (by (first | omega | (unfold zBd at *; omega))) (by (first | omega | (unfold zBd at *; omega))) (by decide) (fun x_23 ex_23 ls hl => ?_)
              replace hl : lv_has ls 9 [(6, .int x_23), (4, .long y_22), (7, .long y_20), (0, .ref a0), (1, .ref a1), (2, .int x0), (3, .int x1)] := hl
              refine lv_goto (pc := 88) (tgt := 46) hx hb dX0_worthOfPair_88 (by decide) ?_
              exact ih_lp_14 x_23 y_22 _ _ ls (by (first | omega | (unfold zBd at *; omega))) (by (first | omega | (unfold zBd at *; omega))) (qW_step hi_13 (wo_ev hw_19 hi_5 (by (first | omega | (unfold zBd at *; omega))) (by (first | omega | (unfold zBd at *; omega)))) ey_20 ey_21 ey_22 (by (first | omega | (unfold zBd at *; omega))) (by (first | omega | (unfold zBd at *; omega)))) (by (first | omega | (unfold zBd at *; omega))) (g_psub hP [0, 5, 1, 2, 3, 4] rfl) (hD.sub [0, 5, 1, 2, 3, 4] (by decide) rfl) hS (lv_sub hl [0, 1, 3, 4, 5, 6] rfl)
        exact lp_14 _ 0 0 _ _ ls (n_c tI_0 (by decide)) (by have q := tI_0; (first | omega | (unfold zBd at *; omega))) (rfl) (Nat.lt_succ_self _) hP hD hS (lv_sub hl [0, 1, 2, 3, 4, 5] rfl)
      ·
        refine lv_aload_n (pc := 12) hx hb dX0_worthOfPair_12 rfl (lv_at hl 1 rfl) ?_
        refine va_get (pc := 13) (ci := 0) (v := .ref a3) (C := RX0) (T := TX0) (N := 7) hx hb hts iX0 hown hK hP 0 rfl rfl 1 (by decide) (hts _ tw_315) (fun _ h9 => h9) rfl dX0_worthOfPair_13 ?_
        refine lv_iload (pc := 16) hx hb dX0_worthOfPair_16 (lv_at hl 0 rfl) ?_
        refine lv_aload_n (pc := 18) hx hb dX0_worthOfPair_18 rfl (lv_at hl 2 rfl) ?_
        refine lv_iload_n (pc := 19) hx hb dX0_worthOfPair_19 rfl (lv_at hl 3 rfl) ?_
        refine lv_iload (pc := 20) hx hb dX0_worthOfPair_20 (lv_at hl 0 rfl) ?_
        refine gc_i (pc := 22) (wc := [(a1, .inr (1, [.ref a4, .ref a5, .ref a6, .int x6, .int x7, .int x8, .int x9, .int x10, .int x11, .int x12])), (a6, .inl (cI, 80, .inl f1))]) (wr := [(a0, .inr (0, [.ref a2, .ref a3, .int x2, .int x3, .long y0, .int x4, .int x5])), (a3, .inl (cI, 5, .inl f_3)), (a4, .inr (8, [.ref a7])), (a7, .inl (cI, 30, .inl f2))]) hP hD hS hA [2, 3] [0, 1, 4, 5] rfl rfl (by decide) (by decide) (by decide) (fun hPc hDc => va_runV (As := [.int x0, .int x_1]) (rest := [.int x_1, .ref a3]) ⟨hx, hb, hml, hown, hts⟩ (k_X1_letterOfWord_T l D cB cC cI cJ _ a1 a4 a5 a6 x0 x_1 x6 x7 x8 x9 x10 x11 x12 f1 hp2 (by  (first | omega | (unfold zBd at *; omega))) h_x6 h_x7 h_x8 h_x9 h_x10 hf_f1) ⟨gcwB hts tw_1181 tw_4 tw_1200 hd_yX1_letterOfWord ⟨Nat.le_of_ble_eq_true rfl, Nat.le_of_ble_eq_true rfl⟩, hts _ tw_1179, hts _ tw_1180⟩ ⟨gblind, va_recv hK hPc (ci := 1) (q0 := 0) rfl rfl, (gpreS hPc hK hDc hN).2⟩ rfl rfl hl.1 rfl (lv_room (Nat.le_of_ble_eq_true rfl)) dX0_worthOfPair_22 ⟨Nat.le_of_ble_eq_true rfl, Nat.le_of_ble_eq_true rfl⟩) (fun r_25 u_24 H locs hw_26 hP hD hS => ?_)
        replace hP : va_P D gcl [(a0, .inr (0, [.ref a2, .ref a3, .int x2, .int x3, .long y0, .int x4, .int x5])), (a3, .inl (cI, 5, .inl f_3)), (a4, .inr (8, [.ref a7])), (a7, .inl (cI, 30, .inl f2)), (a1, .inr (1, [.ref a4, .ref a5, .ref a6, .int x6, .int x7, .int x8, .int x9, .int x10, .int x11, .int x12])), (a6, .inl (cI, 80, .inl f1))] H := hP
        replace hD : va_D A [(a0, .inr (0, [.ref a2, .ref a3, .int x2, .int x3, .long y0, .int x4, .int x5])), (a3, .inl (cI, 5, .inl f_3)), (a4, .inr (8, [.ref a7])), (a7, .inl (cI, 30, .inl f2)), (a1, .inr (1, [.ref a4, .ref a5, .ref a6, .int x6, .int x7, .int x8, .int x9, .int x10, .int x11, .int x12])), (a6, .inl (cI, 80, .inl f1))] := hD
        obtain ⟨hw_27, hw_28⟩ := hw_26
        replace hw_27 : ((-7) ≤ r_25.toInt ∧ r_25.toInt ≤ 7) := hw_27
        replace hw_28 : (r_25 = f1 (5 * x0.toInt + x_1.toInt).toNat) := hw_28
        have rr_25 : zBd r_25.toInt (-2147483648) 2147483647 := n_rng r_25
        refine lv_aload_n (pc := 25) hx hb dX0_worthOfPair_25 rfl (lv_at hl 2 rfl) ?_
        refine lv_iload_n (pc := 26) hx hb dX0_worthOfPair_26 rfl (lv_at hl 4 rfl) ?_
        refine lv_iload (pc := 27) hx hb dX0_worthOfPair_27 (lv_at hl 0 rfl) ?_
        refine gc_i (pc := 29) (wc := [(a1, .inr (1, [.ref a4, .ref a5, .ref a6, .int x6, .int x7, .int x8, .int x9, .int x10, .int x11, .int x12])), (a6, .inl (cI, 80, .inl f1))]) (wr := [(a0, .inr (0, [.ref a2, .ref a3, .int x2, .int x3, .long y0, .int x4, .int x5])), (a3, .inl (cI, 5, .inl f_3)), (a4, .inr (8, [.ref a7])), (a7, .inl (cI, 30, .inl f2))]) hP hD hS hA [4, 5] [0, 1, 2, 3] rfl rfl (by decide) (by decide) (by decide) (fun hPc hDc => va_runV (As := [.int x1, .int x_1]) (rest := [.int r_25, .int x_1, .ref a3]) ⟨hx, hb, hml, hown, hts⟩ (k_X1_letterOfWord_T l D cB cC cI cJ _ a1 a4 a5 a6 x1 x_1 x6 x7 x8 x9 x10 x11 x12 f1 hp3 (by  (first | omega | (unfold zBd at *; omega))) h_x6 h_x7 h_x8 h_x9 h_x10 hf_f1) ⟨gcwB hts tw_1181 tw_4 tw_1200 hd_yX1_letterOfWord ⟨Nat.le_of_ble_eq_true rfl, Nat.le_of_ble_eq_true rfl⟩, hts _ tw_1179, hts _ tw_1180⟩ ⟨gblind, va_recv hK hPc (ci := 1) (q0 := 0) rfl rfl, (gpreS hPc hK hDc hN).2⟩ rfl rfl hl.1 rfl (lv_room (Nat.le_of_ble_eq_true rfl)) dX0_worthOfPair_29 ⟨Nat.le_of_ble_eq_true rfl, Nat.le_of_ble_eq_true rfl⟩) (fun r_30 u_29 H locs hw_31 hP hD hS => ?_)
        replace hP : va_P D gcl [(a0, .inr (0, [.ref a2, .ref a3, .int x2, .int x3, .long y0, .int x4, .int x5])), (a3, .inl (cI, 5, .inl f_3)), (a4, .inr (8, [.ref a7])), (a7, .inl (cI, 30, .inl f2)), (a1, .inr (1, [.ref a4, .ref a5, .ref a6, .int x6, .int x7, .int x8, .int x9, .int x10, .int x11, .int x12])), (a6, .inl (cI, 80, .inl f1))] H := hP
        replace hD : va_D A [(a0, .inr (0, [.ref a2, .ref a3, .int x2, .int x3, .long y0, .int x4, .int x5])), (a3, .inl (cI, 5, .inl f_3)), (a4, .inr (8, [.ref a7])), (a7, .inl (cI, 30, .inl f2)), (a1, .inr (1, [.ref a4, .ref a5, .ref a6, .int x6, .int x7, .int x8, .int x9, .int x10, .int x11, .int x12])), (a6, .inl (cI, 80, .inl f1))] := hD
        obtain ⟨hw_32, hw_33⟩ := hw_31
        replace hw_32 : ((-7) ≤ r_30.toInt ∧ r_30.toInt ≤ 7) := hw_32
        replace hw_33 : (r_30 = f1 (5 * x1.toInt + x_1.toInt).toNat) := hw_33
        have rr_30 : zBd r_30.toInt (-2147483648) 2147483647 := n_rng r_30
        refine lv_isub (pc := 32) hx hb dX0_worthOfPair_32 ?_
        refine lv_topi (fun x_34 ex_34 => ?_)
        have rx_34 : zBd x_34.toInt (-2147483648) 2147483647 := n_rng x_34
        refine e_iastore (pc := 33) hx hb hK hP hD hS 1 2 rfl rfl (n_in rfl (by (first | omega | (unfold zBd at *; omega))) (by (first | omega | (unfold zBd at *; omega)))) dX0_worthOfPair_33 (fun f_35 ef_35 H locs hP hD hS => ?_)
        replace hP : va_P D gcl [(a0, .inr (0, [.ref a2, .ref a3, .int x2, .int x3, .long y0, .int x4, .int x5])), (a3, .inl (cI, 5, .inl f_35)), (a4, .inr (8, [.ref a7])), (a7, .inl (cI, 30, .inl f2)), (a1, .inr (1, [.ref a4, .ref a5, .ref a6, .int x6, .int x7, .int x8, .int x9, .int x10, .int x11, .int x12])), (a6, .inl (cI, 80, .inl f1))] H := hP
        replace hD : va_D A [(a0, .inr (0, [.ref a2, .ref a3, .int x2, .int x3, .long y0, .int x4, .int x5])), (a3, .inl (cI, 5, .inl f_35)), (a4, .inr (8, [.ref a7])), (a7, .inl (cI, 30, .inl f2)), (a1, .inr (1, [.ref a4, .ref a5, .ref a6, .int x6, .int x7, .int x8, .int x9, .int x10, .int x11, .int x12])), (a6, .inl (cI, 80, .inl f1))] := hD
        refine b_iinc (pc := 34) hx hb dX0_worthOfPair_34 hl (k := 0) rfl rfl tI_1 (by (first | omega | (unfold zBd at *; omega))) (by (first | omega | (unfold zBd at *; omega))) (by decide) (fun x_36 ex_36 ls hl => ?_)
        replace hl : lv_has ls 9 [(4, .int x_36), (0, .ref a0), (1, .ref a1), (2, .int x0), (3, .int x1)] := hl
        refine lv_goto (pc := 37) (tgt := 3) hx hb dX0_worthOfPair_37 (by decide) ?_
        exact ih_lp_6 x_36 f_35 _ _ ls (by (first | omega | (unfold zBd at *; omega))) (by (first | omega | (unfold zBd at *; omega))) (df_step hi_5 hw_28 rfl hw_33 rfl ex_34 ef_35 (by (first | omega | (unfold zBd at *; omega))) (by (first | omega | (unfold zBd at *; omega))) (by (first | omega | (unfold zBd at *; omega)))) (by (first | omega | (unfold zBd at *; omega))) (g_psub hP [0, 1, 4, 5, 2, 3] rfl) (hD.sub [0, 1, 4, 5, 2, 3] (by decide) rfl) hS (lv_sub hl [0, 1, 2, 3, 4] rfl)
  exact lp_6 _ 0 f0 _ _ ls (n_c tI_0 (by decide)) (by have q := tI_0; (first | omega | (unfold zBd at *; omega))) (df_0 (by have q := tI_0; (first | omega | (unfold zBd at *; omega)))) (Nat.lt_succ_self _) hP hD hS (lv_sub hl [0, 1, 2, 3, 4] rfl)
