set_option maxHeartbeats 4000000 in
set_option maxRecDepth 100000 in
theorem k_X10_squaresAt_8 (l : Launch) (D : va_G) (cB cC cI cJ : ClassId) (sz : Nat) (a0 a1 a2 a3 a4 a5 a6 a7 : Nat) (x0 x1 : Int32) (f0 f1 : Nat → Int32) (g0 g1 g2 : Nat → Int64) (h_x1 : zBd x1.toInt 0 4) : Met l yX10_squaresAt (.code yX10_squaresAt cX10_squaresAt 5 (some .long) :: lw_gd) ({ frames := 0, cells := 0, slots := 0, locals := 0 }) (gPre D [(cB, .byte), (cC, .char), (cI, .int), (cJ, .long)] [.ref a0, .int x0] [(a0, .inr (10, [.ref a1, .ref a2, .ref a3, .ref a4, .ref a5, .ref a6, .ref a7, .int x1])), (a4, .inl (cI, 5, .inl f0)), (a5, .inl (cI, 5, .inl f1)), (a2, .inl (cJ, 5, .inr (.inl g0))), (a1, .inl (cJ, 25, .inr (.inl g1))), (a3, .inl (cJ, 25, .inr (.inl g2)))] sz) (va_Ql (fun r u => ((((-9223372036854775808) ≤ r.toInt ∧ r.toInt ≤ 9223372036854775807)))) (gB D (va_A [(a0, .inr (10, [.ref a1, .ref a2, .ref a3, .ref a4, .ref a5, .ref a6, .ref a7, .int x1])), (a4, .inl (cI, 5, .inl f0)), (a5, .inl (cI, 5, .inl f1)), (a2, .inl (cJ, 5, .inr (.inl g0))), (a1, .inl (cJ, 25, .inr (.inl g1))), (a3, .inl (cJ, 25, .inr (.inl g2)))] sz) (fun u : gEx => [(a0, .inr (10, [.ref a1, .ref a2, .ref a3, .ref a4, .ref a5, .ref a6, .ref a7, .int x1])), (a4, .inl (cI, 5, .inl f0)), (a5, .inl (cI, 5, .inl f1)), (a2, .inl (cJ, 5, .inr (.inl g0))), (a1, .inl (cJ, 25, .inr (.inl g1))), (a3, .inl (cJ, 25, .inr (.inl g2)))])) (va_A [(a0, .inr (10, [.ref a1, .ref a2, .ref a3, .ref a4, .ref a5, .ref a6, .ref a7, .int x1])), (a4, .inl (cI, 5, .inl f0)), (a5, .inl (cI, 5, .inl f1)), (a2, .inl (cJ, 5, .inr (.inl g0))), (a1, .inl (cJ, 25, .inr (.inl g1))), (a3, .inl (cJ, 25, .inr (.inl g2)))] sz)) 0 0 (va_A [(a0, .inr (10, [.ref a1, .ref a2, .ref a3, .ref a4, .ref a5, .ref a6, .ref a7, .int x1])), (a4, .inl (cI, 5, .inl f0)), (a5, .inl (cI, 5, .inl f1)), (a2, .inl (cJ, 5, .inr (.inl g0))), (a1, .inl (cJ, 25, .inr (.inl g1))), (a3, .inl (cJ, 25, .inr (.inl g2)))] sz) := by
  refine gOf_l (by decide +kernel) (Nat.le_of_ble_eq_true rfl) ?_
  intro p e s m args below meth c ls A Q hx hb hts hown hml hN hK hP hD hA hl hret
  replace hown : s.vm.findClass RX10 = some m.cls := hown
  have hS : va_S A s.heap s.heap [] := va_S.rf
  replace hP : va_P D gcl [(a0, .inr (10, [.ref a1, .ref a2, .ref a3, .ref a4, .ref a5, .ref a6, .ref a7, .int x1])), (a4, .inl (cI, 5, .inl f0)), (a5, .inl (cI, 5, .inl f1)), (a2, .inl (cJ, 5, .inr (.inl g0))), (a1, .inl (cJ, 25, .inr (.inl g1))), (a3, .inl (cJ, 25, .inr (.inl g2)))] s.heap := hP
  replace hl : lv_has ls 5 [(0, .ref a0), (1, .int x0)] := hl
  have rx0 : zBd x0.toInt (-2147483648) 2147483647 := n_rng x0
  refine lv_aload_n (pc := 0) hx hb dX10_squaresAt_0 rfl (lv_at hl 0 rfl) ?_
  refine va_get (pc := 1) (ci := 10) (v := .int x1) (C := RX10) (T := TX10) (N := 8) hx hb hts iX10 hown hK hP 0 rfl rfl 7 (by decide) (hts _ tw_220) (fun _ h9 => h9) rfl dX10_squaresAt_1 ?_
  have bd_h_x1 : 0 ≤ x1.toInt ∧ x1.toInt ≤ 4 := h_x1
  refine lv_iconst (pc := 4) (v := 5) hx hb dX10_squaresAt_4 (by decide) ?_
  refine b_imul (pc := 5) hx hb rfl tI_5 (by (first | omega | (unfold zBd at *; omega))) (by (first | omega | (unfold zBd at *; omega))) dX10_squaresAt_5 (fun x_1 ex_1 => ?_)
  refine lv_aload_n (pc := 6) hx hb dX10_squaresAt_6 rfl (lv_at hl 0 rfl) ?_
  refine va_get (pc := 7) (ci := 10) (v := .int x1) (C := RX10) (T := TX10) (N := 8) hx hb hts iX10 hown hK hP 0 rfl rfl 7 (by decide) (hts _ tw_220) (fun _ h9 => h9) rfl dX10_squaresAt_7 ?_
  refine b_iadd (pc := 10) hx hb rfl rfl (by (first | omega | (unfold zBd at *; omega))) (by (first | omega | (unfold zBd at *; omega))) dX10_squaresAt_10 (fun x_2 ex_2 => ?_)
  refine lv_istore_n (pc := 11) (lv' := [(2, .int x_2), (0, .ref a0), (1, .int x0)]) hx hb dX10_squaresAt_11 rfl hl (by decide) rfl (fun ls hl => ?_)
  refine lv_aload_n (pc := 12) hx hb dX10_squaresAt_12 rfl (lv_at hl 1 rfl) ?_
  refine va_get (pc := 13) (ci := 10) (v := .ref a4) (C := RX10) (T := TX10) (N := 8) hx hb hts iX10 hown hK hP 0 rfl rfl 3 (by decide) (hts _ tw_211) (fun _ h9 => h9) rfl dX10_squaresAt_13 ?_
  refine lv_aload_n (pc := 16) hx hb dX10_squaresAt_16 rfl (lv_at hl 1 rfl) ?_
  refine va_get (pc := 17) (ci := 10) (v := .int x1) (C := RX10) (T := TX10) (N := 8) hx hb hts iX10 hown hK hP 0 rfl rfl 7 (by decide) (hts _ tw_220) (fun _ h9 => h9) rfl dX10_squaresAt_17 ?_
  refine va_iald (pc := 20) hx hb hK hP 1 2 rfl rfl (n_in rfl (by (first | omega | (unfold zBd at *; omega))) (by (first | omega | (unfold zBd at *; omega)))) dX10_squaresAt_20 ?_
  refine lv_topi (fun x_3 ex_3 => ?_)
  have rx_3 : zBd x_3.toInt (-2147483648) 2147483647 := n_rng x_3
  refine lv_aload_n (pc := 21) hx hb dX10_squaresAt_21 rfl (lv_at hl 1 rfl) ?_
  refine va_get (pc := 22) (ci := 10) (v := .ref a5) (C := RX10) (T := TX10) (N := 8) hx hb hts iX10 hown hK hP 0 rfl rfl 4 (by decide) (hts _ tw_213) (fun _ h9 => h9) rfl dX10_squaresAt_22 ?_
  refine lv_aload_n (pc := 25) hx hb dX10_squaresAt_25 rfl (lv_at hl 1 rfl) ?_
  refine va_get (pc := 26) (ci := 10) (v := .int x1) (C := RX10) (T := TX10) (N := 8) hx hb hts iX10 hown hK hP 0 rfl rfl 7 (by decide) (hts _ tw_220) (fun _ h9 => h9) rfl dX10_squaresAt_26 ?_
  refine va_iald (pc := 29) hx hb hK hP 2 2 rfl rfl (n_in rfl (by (first | omega | (unfold zBd at *; omega))) (by (first | omega | (unfold zBd at *; omega)))) dX10_squaresAt_29 ?_
  refine lv_topi (fun x_4 ex_4 => ?_)
  have rx_4 : zBd x_4.toInt (-2147483648) 2147483647 := n_rng x_4
  refine lv_iload_n (pc := 30) hx hb dX10_squaresAt_30 rfl (lv_at hl 2 rfl) ?_
  refine lv_imul (pc := 31) hx hb dX10_squaresAt_31 ?_
  refine lv_topi (fun x_5 _ => ?_)
  have rx_5 : zBd x_5.toInt (-2147483648) 2147483647 := n_rng x_5
  refine lv_iadd (pc := 32) hx hb dX10_squaresAt_32 ?_
  refine lv_topi (fun x_6 _ => ?_)
  have rx_6 : zBd x_6.toInt (-2147483648) 2147483647 := n_rng x_6
  refine b_i2l (pc := 33) hx hb rfl dX10_squaresAt_33 (fun y_7 ey_7 => ?_)
  have ry_7 : zBd x_6.toInt (-2147483648) 2147483647 := n_rng x_6
  refine lv_lstore_n (pc := 34) (lv' := [(3, .long y_7), (2, .int x_2), (0, .ref a0), (1, .int x0)]) hx hb dX10_squaresAt_34 rfl hl (by decide) rfl (fun ls hl => ?_)
  refine lv_aload_n (pc := 35) hx hb dX10_squaresAt_35 rfl (lv_at hl 2 rfl) ?_
  refine va_get (pc := 36) (ci := 10) (v := .ref a2) (C := RX10) (T := TX10) (N := 8) hx hb hts iX10 hown hK hP 0 rfl rfl 1 (by decide) (hts _ tw_209) (fun _ h9 => h9) rfl dX10_squaresAt_36 ?_
  refine lv_aload_n (pc := 39) hx hb dX10_squaresAt_39 rfl (lv_at hl 2 rfl) ?_
  refine va_get (pc := 40) (ci := 10) (v := .int x1) (C := RX10) (T := TX10) (N := 8) hx hb hts iX10 hown hK hP 0 rfl rfl 7 (by decide) (hts _ tw_220) (fun _ h9 => h9) rfl dX10_squaresAt_40 ?_
  refine va_lald (pc := 43) hx hb hK hP 3 3 rfl rfl (n_in rfl (by (first | omega | (unfold zBd at *; omega))) (by (first | omega | (unfold zBd at *; omega)))) dX10_squaresAt_43 ?_
  refine lv_topl (fun y_8 ey_8 => ?_)
  have ry_8 := n_rngL y_8
  refine lv_lload_n (pc := 44) hx hb dX10_squaresAt_44 rfl (lv_at hl 0 rfl) ?_
  refine lv_lload_n (pc := 45) hx hb dX10_squaresAt_45 rfl (lv_at hl 0 rfl) ?_
  refine lv_aload_n (pc := 46) hx hb dX10_squaresAt_46 rfl (lv_at hl 2 rfl) ?_
  refine va_get (pc := 47) (ci := 10) (v := .ref a1) (C := RX10) (T := TX10) (N := 8) hx hb hts iX10 hown hK hP 0 rfl rfl 0 (by decide) (hts _ tw_207) (fun _ h9 => h9) rfl dX10_squaresAt_47 ?_
  refine lv_iload_n (pc := 50) hx hb dX10_squaresAt_50 rfl (lv_at hl 1 rfl) ?_
  refine va_lald (pc := 51) hx hb hK hP 4 3 rfl rfl (n_in rfl (by (first | omega | (unfold zBd at *; omega))) (by (first | omega | (unfold zBd at *; omega)))) dX10_squaresAt_51 ?_
  refine lv_topl (fun y_9 ey_9 => ?_)
  have ry_9 := n_rngL y_9
  refine lv_lmul (pc := 52) hx hb dX10_squaresAt_52 ?_
  refine lv_topl (fun y_10 _ => ?_)
  have ry_10 := n_rngL y_10
  refine lv_ldc2 (pc := 53) hx hb hown (hts _ tw_910) dX10_squaresAt_53 ?_
  refine lv_aload_n (pc := 56) hx hb dX10_squaresAt_56 rfl (lv_at hl 2 rfl) ?_
  refine va_get (pc := 57) (ci := 10) (v := .ref a3) (C := RX10) (T := TX10) (N := 8) hx hb hts iX10 hown hK hP 0 rfl rfl 2 (by decide) (hts _ tw_210) (fun _ h9 => h9) rfl dX10_squaresAt_57 ?_
  refine lv_iload_n (pc := 60) hx hb dX10_squaresAt_60 rfl (lv_at hl 1 rfl) ?_
  refine va_lald (pc := 61) hx hb hK hP 5 3 rfl rfl (n_in rfl (by (first | omega | (unfold zBd at *; omega))) (by (first | omega | (unfold zBd at *; omega)))) dX10_squaresAt_61 ?_
  refine lv_topl (fun y_11 ey_11 => ?_)
  have ry_11 := n_rngL y_11
  refine lv_lmul (pc := 62) hx hb dX10_squaresAt_62 ?_
  refine lv_topl (fun y_12 _ => ?_)
  have ry_12 := n_rngL y_12
  refine lv_lsub (pc := 63) hx hb dX10_squaresAt_63 ?_
  refine lv_topl (fun y_13 _ => ?_)
  have ry_13 := n_rngL y_13
  refine lv_lmul (pc := 64) hx hb dX10_squaresAt_64 ?_
  refine lv_topl (fun y_14 _ => ?_)
  have ry_14 := n_rngL y_14
  refine lv_ladd (pc := 65) hx hb dX10_squaresAt_65 ?_
  refine lv_topl (fun y_15 _ => ?_)
  have ry_15 := n_rngL y_15
  exact hret y_15 ((fun _ => 0), (fun _ => (fun _ => 0)), (fun _ => (fun _ => 0)), (fun _ => 0), (fun _ => 0)) dX10_squaresAt_66 (show ((((-9223372036854775808) ≤ y_15.toInt ∧ y_15.toInt ≤ 9223372036854775807))) by (first | omega | (unfold zBd at *; omega))) (g_psub (wc := [(a0, .inr (10, [.ref a1, .ref a2, .ref a3, .ref a4, .ref a5, .ref a6, .ref a7, .int x1])), (a4, .inl (cI, 5, .inl f0)), (a5, .inl (cI, 5, .inl f1)), (a2, .inl (cJ, 5, .inr (.inl g0))), (a1, .inl (cJ, 25, .inr (.inl g1))), (a3, .inl (cJ, 25, .inr (.inl g2)))]) hP [0, 1, 2, 3, 4, 5] rfl) (hD.sub (ws' := [(a0, .inr (10, [.ref a1, .ref a2, .ref a3, .ref a4, .ref a5, .ref a6, .ref a7, .int x1])), (a4, .inl (cI, 5, .inl f0)), (a5, .inl (cI, 5, .inl f1)), (a2, .inl (cJ, 5, .inr (.inl g0))), (a1, .inl (cJ, 25, .inr (.inl g1))), (a3, .inl (cJ, 25, .inr (.inl g2)))]) [0, 1, 2, 3, 4, 5] (by decide) rfl) hS
set_option maxHeartbeats 4000000 in
set_option maxRecDepth 100000 in
theorem k_X7_admit (l : Launch) (D : va_G) (cB cC cI cJ : ClassId) (sz : Nat) (a0 a1 a2 a3 a4 a5 a6 a7 a8 : Nat) (x0 x1 x2 : Int32) (y0 y1 : Int64) (f0 : Nat → Int32) (g0 : Nat → Int64) (h_x1 : zBd x1.toInt 0 10) (h_x2 : zBd x2.toInt 0 1) : Met l yX7_admit (.code yX7_admit cX7_admit 5 none :: lw_gd) ({ frames := 0, cells := 0, slots := 0, locals := 0 }) (gPre D [(cB, .byte), (cC, .char), (cI, .int), (cJ, .long)] [.ref a0, .int x0, .long y0] [(a0, .inr (7, [.ref a1, .ref a2, .ref a3, .ref a4, .ref a5, .ref a6, .ref a7, .ref a8, .int x1, .long y1, .int x2])), (a2, .inl (cJ, 10, .inr (.inl g0))), (a3, .inl (cI, 10, .inl f0))] sz) (va_Qv (fun u => (0 ≤ (u.2.2.2.1 0).toInt ∧ (u.2.2.2.1 0).toInt ≤ 10)) (gB D (va_A [(a0, .inr (7, [.ref a1, .ref a2, .ref a3, .ref a4, .ref a5, .ref a6, .ref a7, .ref a8, .int x1, .long y1, .int x2])), (a2, .inl (cJ, 10, .inr (.inl g0))), (a3, .inl (cI, 10, .inl f0))] sz) (fun u : gEx => [(a0, .inr (7, [.ref a1, .ref a2, .ref a3, .ref a4, .ref a5, .ref a6, .ref a7, .ref a8, .int (u.2.2.2.1 0), .long y1, .int x2])), (a2, .inl (cJ, 10, .inr (.inl (u.2.2.1 0)))), (a3, .inl (cI, 10, .inl (u.2.1 0)))])) (va_A [(a0, .inr (7, [.ref a1, .ref a2, .ref a3, .ref a4, .ref a5, .ref a6, .ref a7, .ref a8, .int x1, .long y1, .int x2])), (a2, .inl (cJ, 10, .inr (.inl g0))), (a3, .inl (cI, 10, .inl f0))] sz)) 0 0 (va_A [(a0, .inr (7, [.ref a1, .ref a2, .ref a3, .ref a4, .ref a5, .ref a6, .ref a7, .ref a8, .int x1, .long y1, .int x2])), (a2, .inl (cJ, 10, .inr (.inl g0))), (a3, .inl (cI, 10, .inl f0))] sz) := by
  refine gOf_v (by decide +kernel) (Nat.le_of_ble_eq_true rfl) ?_
  intro p e s m args below meth c ls A Q hx hb hts hown hml hN hK hP hD hA hl hret
  replace hown : s.vm.findClass RX7 = some m.cls := hown
  have hS : va_S A s.heap s.heap [] := va_S.rf
  replace hP : va_P D gcl [(a0, .inr (7, [.ref a1, .ref a2, .ref a3, .ref a4, .ref a5, .ref a6, .ref a7, .ref a8, .int x1, .long y1, .int x2])), (a2, .inl (cJ, 10, .inr (.inl g0))), (a3, .inl (cI, 10, .inl f0))] s.heap := hP
  replace hl : lv_has ls 5 [(0, .ref a0), (1, .int x0), (2, .long y0)] := hl
  have rx0 : zBd x0.toInt (-2147483648) 2147483647 := n_rng x0
  have ry0 := n_rngL y0
  have ry1 := n_rngL y1
  refine lv_aload_n (pc := 0) hx hb dX7_admit_0 rfl (lv_at hl 0 rfl) ?_
  refine va_get (pc := 1) (ci := 7) (v := .int x1) (C := RX7) (T := TX7) (N := 11) hx hb hts iX7 hown hK hP 0 rfl rfl 8 (by decide) (hts _ tw_254) (fun _ h9 => h9) rfl dX7_admit_1 ?_
  have bd_h_x1 : 0 ≤ x1.toInt ∧ x1.toInt ≤ 10 := h_x1
  refine lv_bipush (pc := 4) (v := 10) hx hb dX7_admit_4 (by decide) ?_
  refine b_icmp_ne (pc := 6) (tgt := 32) hx hb rfl tI_10  dX7_admit_6 (by decide) (fun c_1 => ?_) (fun c_1 => ?_)
  ·
    refine lv_aload_n (pc := 32) hx hb dX7_admit_32 rfl (lv_at hl 0 rfl) ?_
    refine va_get (pc := 33) (ci := 7) (v := .int x1) (C := RX7) (T := TX7) (N := 11) hx hb hts iX7 hown hK hP 0 rfl rfl 8 (by decide) (hts _ tw_254) (fun _ h9 => h9) rfl dX7_admit_33 ?_
    refine lv_istore (pc := 36) (lv' := [(4, .int x1), (0, .ref a0), (1, .int x0), (2, .long y0)]) hx hb dX7_admit_36 hl (by decide) rfl (fun ls hl => ?_)
    have lp_6 : ∀ (n : Nat) (x_2 : Int32) (f_5 : Nat → Int32) (g_4 : Nat → Int64) (H : Heap) (locs : List Loc) (ls : Array Slot), (0 ≤ x_2.toInt ∧ x_2.toInt ≤ 9) → (x_2.toInt + 2147483648).toNat < n → va_P D gcl [(a0, .inr (7, [.ref a1, .ref a2, .ref a3, .ref a4, .ref a5, .ref a6, .ref a7, .ref a8, .int x1, .long y1, .int x2])), (a2, .inl (cJ, 10, .inr (.inl g_4))), (a3, .inl (cI, 10, .inl f_5))] H → va_D A [(a0, .inr (7, [.ref a1, .ref a2, .ref a3, .ref a4, .ref a5, .ref a6, .ref a7, .ref a8, .int x1, .long y1, .int x2])), (a2, .inl (cJ, 10, .inr (.inl g_4))), (a3, .inl (cI, 10, .inl f_5))] → va_S A s.heap H locs → lv_has ls 5 [(4, .int x_2), (0, .ref a0), (1, .int x0), (2, .long y0)] → W p l e ({ frames := 0, cells := 0, slots := 0, locals := 0 }) s m args below meth c H locs 0 0 Q (F0 m 38 ls []) := by
      intro n
      induction n with
      | zero => intro x_2 f_5 g_4 H locs ls hi_3 hmu; exact absurd hmu (Nat.not_lt_zero _)
      | succ n ih_lp_6 =>
        intro x_2 f_5 g_4 H locs ls hi_3 hmu_lp_6 hP hD hS hl
        refine lv_iload (pc := 38) hx hb dX7_admit_38 (lv_at hl 0 rfl) ?_
        refine b_if_le (pc := 40) (tgt := 95) hx hb rfl  dX7_admit_40 (by decide) (fun c_7 => ?_) (fun c_7 => ?_)
        ·
          refine lv_aload_n (pc := 95) hx hb dX7_admit_95 rfl (lv_at hl 1 rfl) ?_
          refine va_get (pc := 96) (ci := 7) (v := .ref a2) (C := RX7) (T := TX7) (N := 11) hx hb hts iX7 hown hK hP 0 rfl rfl 1 (by decide) (hts _ tw_243) (fun _ h9 => h9) rfl dX7_admit_96 ?_
          refine lv_iload (pc := 99) hx hb dX7_admit_99 (lv_at hl 0 rfl) ?_
          refine lv_lload_n (pc := 101) hx hb dX7_admit_101 rfl (lv_at hl 3 rfl) ?_
          refine g_lastore (pc := 102) hx hb hK hP hD hS 1 3 rfl rfl (n_in rfl (by (first | omega | (unfold zBd at *; omega))) (by (first | omega | (unfold zBd at *; omega)))) dX7_admit_102 (fun g_8 H locs hP hD hS => ?_)
          replace hP : va_P D gcl [(a0, .inr (7, [.ref a1, .ref a2, .ref a3, .ref a4, .ref a5, .ref a6, .ref a7, .ref a8, .int x1, .long y1, .int x2])), (a2, .inl (cJ, 10, .inr (.inl g_8))), (a3, .inl (cI, 10, .inl f_5))] H := hP
          replace hD : va_D A [(a0, .inr (7, [.ref a1, .ref a2, .ref a3, .ref a4, .ref a5, .ref a6, .ref a7, .ref a8, .int x1, .long y1, .int x2])), (a2, .inl (cJ, 10, .inr (.inl g_8))), (a3, .inl (cI, 10, .inl f_5))] := hD
          refine lv_aload_n (pc := 103) hx hb dX7_admit_103 rfl (lv_at hl 1 rfl) ?_
          refine va_get (pc := 104) (ci := 7) (v := .ref a3) (C := RX7) (T := TX7) (N := 11) hx hb hts iX7 hown hK hP 0 rfl rfl 2 (by decide) (hts _ tw_245) (fun _ h9 => h9) rfl dX7_admit_104 ?_
          refine lv_iload (pc := 107) hx hb dX7_admit_107 (lv_at hl 0 rfl) ?_
          refine lv_iload_n (pc := 109) hx hb dX7_admit_109 rfl (lv_at hl 2 rfl) ?_
          refine g_iastore (pc := 110) hx hb hK hP hD hS 2 2 rfl rfl (n_in rfl (by (first | omega | (unfold zBd at *; omega))) (by (first | omega | (unfold zBd at *; omega)))) dX7_admit_110 (fun f_9 H locs hP hD hS => ?_)
          replace hP : va_P D gcl [(a0, .inr (7, [.ref a1, .ref a2, .ref a3, .ref a4, .ref a5, .ref a6, .ref a7, .ref a8, .int x1, .long y1, .int x2])), (a2, .inl (cJ, 10, .inr (.inl g_8))), (a3, .inl (cI, 10, .inl f_9))] H := hP
          replace hD : va_D A [(a0, .inr (7, [.ref a1, .ref a2, .ref a3, .ref a4, .ref a5, .ref a6, .ref a7, .ref a8, .int x1, .long y1, .int x2])), (a2, .inl (cJ, 10, .inr (.inl g_8))), (a3, .inl (cI, 10, .inl f_9))] := hD
          refine lv_aload_n (pc := 111) hx hb dX7_admit_111 rfl (lv_at hl 1 rfl) ?_
          refine lv_dup (pc := 112) hx hb dX7_admit_112 rfl ?_
          refine va_get (pc := 113) (ci := 7) (v := .int x1) (C := RX7) (T := TX7) (N := 11) hx hb hts iX7 hown hK hP 0 rfl rfl 8 (by decide) (hts _ tw_254) (fun _ h9 => h9) rfl dX7_admit_113 ?_
          refine lv_iconst (pc := 116) (v := 1) hx hb dX7_admit_116 (by decide) ?_
          refine b_iadd (pc := 117) hx hb rfl tI_1 (by (first | omega | (unfold zBd at *; omega))) (by (first | omega | (unfold zBd at *; omega))) dX7_admit_117 (fun x_10 ex_10 => ?_)
          refine va_put (pc := 118) (ci := 7) (v := .int x_10) (ty := .int) (C := RX7) (T := TX7) (N := 11) hx hb hts iX7 tyX7 tyX7_ok nmX7 hown hK hP hD hS 0 rfl rfl 8 (by decide) (hts _ tw_254) (fun _ h9 => h9) rfl (by decide +kernel) rfl rfl (Nat.le_of_ble_eq_true rfl) dX7_admit_118 (fun H locs hP hD hS => ?_)
          replace hP : va_P D gcl [(a0, .inr (7, [.ref a1, .ref a2, .ref a3, .ref a4, .ref a5, .ref a6, .ref a7, .ref a8, .int x_10, .long y1, .int x2])), (a2, .inl (cJ, 10, .inr (.inl g_8))), (a3, .inl (cI, 10, .inl f_9))] H := hP
          replace hD : va_D A [(a0, .inr (7, [.ref a1, .ref a2, .ref a3, .ref a4, .ref a5, .ref a6, .ref a7, .ref a8, .int x_10, .long y1, .int x2])), (a2, .inl (cJ, 10, .inr (.inl g_8))), (a3, .inl (cI, 10, .inl f_9))] := hD
          exact hret ((fun _ => 0), (fun k => [f_9].getD k (fun _ => 0)), (fun k => [g_8].getD k (fun _ => 0)), (fun k => [x_10].getD k 0), (fun _ => 0)) dX7_admit_121 (show (0 ≤ (x_10 : Int32).toInt ∧ (x_10 : Int32).toInt ≤ 10) by (first | omega | (unfold zBd at *; omega))) (g_psub (wc := [(a0, .inr (7, [.ref a1, .ref a2, .ref a3, .ref a4, .ref a5, .ref a6, .ref a7, .ref a8, .int x_10, .long y1, .int x2])), (a2, .inl (cJ, 10, .inr (.inl g_8))), (a3, .inl (cI, 10, .inl f_9))]) hP [0, 1, 2] rfl) (hD.sub (ws' := [(a0, .inr (7, [.ref a1, .ref a2, .ref a3, .ref a4, .ref a5, .ref a6, .ref a7, .ref a8, .int x_10, .long y1, .int x2])), (a2, .inl (cJ, 10, .inr (.inl g_8))), (a3, .inl (cI, 10, .inl f_9))]) [0, 1, 2] (by decide) rfl) hS
        ·
          refine lv_aload_n (pc := 43) hx hb dX7_admit_43 rfl (lv_at hl 1 rfl) ?_
          refine va_get (pc := 44) (ci := 7) (v := .ref a2) (C := RX7) (T := TX7) (N := 11) hx hb hts iX7 hown hK hP 0 rfl rfl 1 (by decide) (hts _ tw_243) (fun _ h9 => h9) rfl dX7_admit_44 ?_
          refine lv_iload (pc := 47) hx hb dX7_admit_47 (lv_at hl 0 rfl) ?_
          refine lv_iconst (pc := 49) (v := 1) hx hb dX7_admit_49 (by decide) ?_
          refine b_isub (pc := 50) hx hb rfl tI_1 (by (first | omega | (unfold zBd at *; omega))) (by (first | omega | (unfold zBd at *; omega))) dX7_admit_50 (fun x_11 ex_11 => ?_)
          refine va_lald (pc := 51) hx hb hK hP 1 3 rfl rfl (n_in rfl (by (first | omega | (unfold zBd at *; omega))) (by (first | omega | (unfold zBd at *; omega)))) dX7_admit_51 ?_
          refine lv_topl (fun y_12 ey_12 => ?_)
          have ry_12 := n_rngL y_12
          refine lv_lload_n (pc := 52) hx hb dX7_admit_52 rfl (lv_at hl 3 rfl) ?_
          refine b_lcmp_le (pc := 53) (tgt := 95) hx hb rfl rfl dX7_admit_53 dX7_admit_54 (by decide) (fun c_13 => ?_) (fun c_13 => ?_)
          ·
            refine lv_aload_n (pc := 95) hx hb dX7_admit_95 rfl (lv_at hl 1 rfl) ?_
            refine va_get (pc := 96) (ci := 7) (v := .ref a2) (C := RX7) (T := TX7) (N := 11) hx hb hts iX7 hown hK hP 0 rfl rfl 1 (by decide) (hts _ tw_243) (fun _ h9 => h9) rfl dX7_admit_96 ?_
            refine lv_iload (pc := 99) hx hb dX7_admit_99 (lv_at hl 0 rfl) ?_
            refine lv_lload_n (pc := 101) hx hb dX7_admit_101 rfl (lv_at hl 3 rfl) ?_
            refine g_lastore (pc := 102) hx hb hK hP hD hS 1 3 rfl rfl (n_in rfl (by (first | omega | (unfold zBd at *; omega))) (by (first | omega | (unfold zBd at *; omega)))) dX7_admit_102 (fun g_14 H locs hP hD hS => ?_)
            replace hP : va_P D gcl [(a0, .inr (7, [.ref a1, .ref a2, .ref a3, .ref a4, .ref a5, .ref a6, .ref a7, .ref a8, .int x1, .long y1, .int x2])), (a2, .inl (cJ, 10, .inr (.inl g_14))), (a3, .inl (cI, 10, .inl f_5))] H := hP
            replace hD : va_D A [(a0, .inr (7, [.ref a1, .ref a2, .ref a3, .ref a4, .ref a5, .ref a6, .ref a7, .ref a8, .int x1, .long y1, .int x2])), (a2, .inl (cJ, 10, .inr (.inl g_14))), (a3, .inl (cI, 10, .inl f_5))] := hD
            refine lv_aload_n (pc := 103) hx hb dX7_admit_103 rfl (lv_at hl 1 rfl) ?_
            refine va_get (pc := 104) (ci := 7) (v := .ref a3) (C := RX7) (T := TX7) (N := 11) hx hb hts iX7 hown hK hP 0 rfl rfl 2 (by decide) (hts _ tw_245) (fun _ h9 => h9) rfl dX7_admit_104 ?_
            refine lv_iload (pc := 107) hx hb dX7_admit_107 (lv_at hl 0 rfl) ?_
            refine lv_iload_n (pc := 109) hx hb dX7_admit_109 rfl (lv_at hl 2 rfl) ?_
            refine g_iastore (pc := 110) hx hb hK hP hD hS 2 2 rfl rfl (n_in rfl (by (first | omega | (unfold zBd at *; omega))) (by (first | omega | (unfold zBd at *; omega)))) dX7_admit_110 (fun f_15 H locs hP hD hS => ?_)
            replace hP : va_P D gcl [(a0, .inr (7, [.ref a1, .ref a2, .ref a3, .ref a4, .ref a5, .ref a6, .ref a7, .ref a8, .int x1, .long y1, .int x2])), (a2, .inl (cJ, 10, .inr (.inl g_14))), (a3, .inl (cI, 10, .inl f_15))] H := hP
            replace hD : va_D A [(a0, .inr (7, [.ref a1, .ref a2, .ref a3, .ref a4, .ref a5, .ref a6, .ref a7, .ref a8, .int x1, .long y1, .int x2])), (a2, .inl (cJ, 10, .inr (.inl g_14))), (a3, .inl (cI, 10, .inl f_15))] := hD
            refine lv_aload_n (pc := 111) hx hb dX7_admit_111 rfl (lv_at hl 1 rfl) ?_
            refine lv_dup (pc := 112) hx hb dX7_admit_112 rfl ?_
            refine va_get (pc := 113) (ci := 7) (v := .int x1) (C := RX7) (T := TX7) (N := 11) hx hb hts iX7 hown hK hP 0 rfl rfl 8 (by decide) (hts _ tw_254) (fun _ h9 => h9) rfl dX7_admit_113 ?_
            refine lv_iconst (pc := 116) (v := 1) hx hb dX7_admit_116 (by decide) ?_
            refine b_iadd (pc := 117) hx hb rfl tI_1 (by (first | omega | (unfold zBd at *; omega))) (by (first | omega | (unfold zBd at *; omega))) dX7_admit_117 (fun x_16 ex_16 => ?_)
            refine va_put (pc := 118) (ci := 7) (v := .int x_16) (ty := .int) (C := RX7) (T := TX7) (N := 11) hx hb hts iX7 tyX7 tyX7_ok nmX7 hown hK hP hD hS 0 rfl rfl 8 (by decide) (hts _ tw_254) (fun _ h9 => h9) rfl (by decide +kernel) rfl rfl (Nat.le_of_ble_eq_true rfl) dX7_admit_118 (fun H locs hP hD hS => ?_)
            replace hP : va_P D gcl [(a0, .inr (7, [.ref a1, .ref a2, .ref a3, .ref a4, .ref a5, .ref a6, .ref a7, .ref a8, .int x_16, .long y1, .int x2])), (a2, .inl (cJ, 10, .inr (.inl g_14))), (a3, .inl (cI, 10, .inl f_15))] H := hP
            replace hD : va_D A [(a0, .inr (7, [.ref a1, .ref a2, .ref a3, .ref a4, .ref a5, .ref a6, .ref a7, .ref a8, .int x_16, .long y1, .int x2])), (a2, .inl (cJ, 10, .inr (.inl g_14))), (a3, .inl (cI, 10, .inl f_15))] := hD
            exact hret ((fun _ => 0), (fun k => [f_15].getD k (fun _ => 0)), (fun k => [g_14].getD k (fun _ => 0)), (fun k => [x_16].getD k 0), (fun _ => 0)) dX7_admit_121 (show (0 ≤ (x_16 : Int32).toInt ∧ (x_16 : Int32).toInt ≤ 10) by (first | omega | (unfold zBd at *; omega))) (g_psub (wc := [(a0, .inr (7, [.ref a1, .ref a2, .ref a3, .ref a4, .ref a5, .ref a6, .ref a7, .ref a8, .int x_16, .long y1, .int x2])), (a2, .inl (cJ, 10, .inr (.inl g_14))), (a3, .inl (cI, 10, .inl f_15))]) hP [0, 1, 2] rfl) (hD.sub (ws' := [(a0, .inr (7, [.ref a1, .ref a2, .ref a3, .ref a4, .ref a5, .ref a6, .ref a7, .ref a8, .int x_16, .long y1, .int x2])), (a2, .inl (cJ, 10, .inr (.inl g_14))), (a3, .inl (cI, 10, .inl f_15))]) [0, 1, 2] (by decide) rfl) hS
          ·
            refine lv_aload_n (pc := 57) hx hb dX7_admit_57 rfl (lv_at hl 1 rfl) ?_
            refine va_get (pc := 58) (ci := 7) (v := .ref a2) (C := RX7) (T := TX7) (N := 11) hx hb hts iX7 hown hK hP 0 rfl rfl 1 (by decide) (hts _ tw_243) (fun _ h9 => h9) rfl dX7_admit_58 ?_
            refine lv_iload (pc := 61) hx hb dX7_admit_61 (lv_at hl 0 rfl) ?_
            refine lv_aload_n (pc := 63) hx hb dX7_admit_63 rfl (lv_at hl 1 rfl) ?_
            refine va_get (pc := 64) (ci := 7) (v := .ref a2) (C := RX7) (T := TX7) (N := 11) hx hb hts iX7 hown hK hP 0 rfl rfl 1 (by decide) (hts _ tw_243) (fun _ h9 => h9) rfl dX7_admit_64 ?_
            refine lv_iload (pc := 67) hx hb dX7_admit_67 (lv_at hl 0 rfl) ?_
            refine lv_iconst (pc := 69) (v := 1) hx hb dX7_admit_69 (by decide) ?_
            refine b_isub (pc := 70) hx hb rfl tI_1 (by (first | omega | (unfold zBd at *; omega))) (by (first | omega | (unfold zBd at *; omega))) dX7_admit_70 (fun x_17 ex_17 => ?_)
            refine va_lald (pc := 71) hx hb hK hP 1 3 rfl rfl (n_in rfl (by (first | omega | (unfold zBd at *; omega))) (by (first | omega | (unfold zBd at *; omega)))) dX7_admit_71 ?_
            refine lv_topl (fun y_18 ey_18 => ?_)
            have ry_18 := n_rngL y_18
            refine g_lastore (pc := 72) hx hb hK hP hD hS 1 3 rfl rfl (n_in rfl (by (first | omega | (unfold zBd at *; omega))) (by (first | omega | (unfold zBd at *; omega)))) dX7_admit_72 (fun g_19 H locs hP hD hS => ?_)
            replace hP : va_P D gcl [(a0, .inr (7, [.ref a1, .ref a2, .ref a3, .ref a4, .ref a5, .ref a6, .ref a7, .ref a8, .int x1, .long y1, .int x2])), (a2, .inl (cJ, 10, .inr (.inl g_19))), (a3, .inl (cI, 10, .inl f_5))] H := hP
            replace hD : va_D A [(a0, .inr (7, [.ref a1, .ref a2, .ref a3, .ref a4, .ref a5, .ref a6, .ref a7, .ref a8, .int x1, .long y1, .int x2])), (a2, .inl (cJ, 10, .inr (.inl g_19))), (a3, .inl (cI, 10, .inl f_5))] := hD
            refine lv_aload_n (pc := 73) hx hb dX7_admit_73 rfl (lv_at hl 1 rfl) ?_
            refine va_get (pc := 74) (ci := 7) (v := .ref a3) (C := RX7) (T := TX7) (N := 11) hx hb hts iX7 hown hK hP 0 rfl rfl 2 (by decide) (hts _ tw_245) (fun _ h9 => h9) rfl dX7_admit_74 ?_
            refine lv_iload (pc := 77) hx hb dX7_admit_77 (lv_at hl 0 rfl) ?_
            refine lv_aload_n (pc := 79) hx hb dX7_admit_79 rfl (lv_at hl 1 rfl) ?_
            refine va_get (pc := 80) (ci := 7) (v := .ref a3) (C := RX7) (T := TX7) (N := 11) hx hb hts iX7 hown hK hP 0 rfl rfl 2 (by decide) (hts _ tw_245) (fun _ h9 => h9) rfl dX7_admit_80 ?_
            refine lv_iload (pc := 83) hx hb dX7_admit_83 (lv_at hl 0 rfl) ?_
            refine lv_iconst (pc := 85) (v := 1) hx hb dX7_admit_85 (by decide) ?_
            refine b_isub (pc := 86) hx hb rfl tI_1 (by (first | omega | (unfold zBd at *; omega))) (by (first | omega | (unfold zBd at *; omega))) dX7_admit_86 (fun x_20 ex_20 => ?_)
            refine va_iald (pc := 87) hx hb hK hP 2 2 rfl rfl (n_in rfl (by (first | omega | (unfold zBd at *; omega))) (by (first | omega | (unfold zBd at *; omega)))) dX7_admit_87 ?_
            refine lv_topi (fun x_21 ex_21 => ?_)
            have rx_21 : zBd x_21.toInt (-2147483648) 2147483647 := n_rng x_21
            refine g_iastore (pc := 88) hx hb hK hP hD hS 2 2 rfl rfl (n_in rfl (by (first | omega | (unfold zBd at *; omega))) (by (first | omega | (unfold zBd at *; omega)))) dX7_admit_88 (fun f_22 H locs hP hD hS => ?_)
            replace hP : va_P D gcl [(a0, .inr (7, [.ref a1, .ref a2, .ref a3, .ref a4, .ref a5, .ref a6, .ref a7, .ref a8, .int x1, .long y1, .int x2])), (a2, .inl (cJ, 10, .inr (.inl g_19))), (a3, .inl (cI, 10, .inl f_22))] H := hP
            replace hD : va_D A [(a0, .inr (7, [.ref a1, .ref a2, .ref a3, .ref a4, .ref a5, .ref a6, .ref a7, .ref a8, .int x1, .long y1, .int x2])), (a2, .inl (cJ, 10, .inr (.inl g_19))), (a3, .inl (cI, 10, .inl f_22))] := hD
            refine b_iinc (pc := 89) hx hb dX7_admit_89 hl (k := 0) rfl rfl tI_m1 (by (first | omega | (unfold zBd at *; omega))) (by (first | omega | (unfold zBd at *; omega))) (by decide) (fun x_23 ex_23 ls hl => ?_)
            replace hl : lv_has ls 5 [(4, .int x_23), (0, .ref a0), (1, .int x0), (2, .long y0)] := hl
            refine lv_goto (pc := 92) (tgt := 38) hx hb dX7_admit_92 (by decide) ?_
            exact ih_lp_6 x_23 f_22 g_19 _ _ ls (by (first | omega | (unfold zBd at *; omega))) (by (first | omega | (unfold zBd at *; omega))) hP hD hS (lv_sub hl [0, 1, 2, 3] rfl)
    exact lp_6 _ x1 f0 g0 _ _ ls (by (first | omega | (unfold zBd at *; omega))) (Nat.lt_succ_self _) hP hD hS (lv_sub hl [0, 1, 2, 3] rfl)
  ·
    refine lv_lload_n (pc := 9) hx hb dX7_admit_9 rfl (lv_at hl 2 rfl) ?_
    refine lv_aload_n (pc := 10) hx hb dX7_admit_10 rfl (lv_at hl 0 rfl) ?_
    refine va_get (pc := 11) (ci := 7) (v := .ref a2) (C := RX7) (T := TX7) (N := 11) hx hb hts iX7 hown hK hP 0 rfl rfl 1 (by decide) (hts _ tw_243) (fun _ h9 => h9) rfl dX7_admit_11 ?_
    refine lv_bipush (pc := 14) (v := 9) hx hb dX7_admit_14 (by decide) ?_
    refine va_lald (pc := 16) hx hb hK hP 1 3 rfl rfl (gin rfl) dX7_admit_16 ?_
    refine lv_topl (fun y_24 ey_24 => ?_)
    have ry_24 := n_rngL y_24
    refine b_lcmp_lt (pc := 17) (tgt := 22) hx hb rfl rfl dX7_admit_17 dX7_admit_18 (by decide) (fun c_25 => ?_) (fun c_25 => ?_)
    ·
      refine lv_aload_n (pc := 22) hx hb dX7_admit_22 rfl (lv_at hl 0 rfl) ?_
      refine lv_dup (pc := 23) hx hb dX7_admit_23 rfl ?_
      refine va_get (pc := 24) (ci := 7) (v := .int x1) (C := RX7) (T := TX7) (N := 11) hx hb hts iX7 hown hK hP 0 rfl rfl 8 (by decide) (hts _ tw_254) (fun _ h9 => h9) rfl dX7_admit_24 ?_
      refine lv_iconst (pc := 27) (v := 1) hx hb dX7_admit_27 (by decide) ?_
      refine b_isub (pc := 28) hx hb rfl tI_1 (by (first | omega | (unfold zBd at *; omega))) (by (first | omega | (unfold zBd at *; omega))) dX7_admit_28 (fun x_26 ex_26 => ?_)
      refine va_put (pc := 29) (ci := 7) (v := .int x_26) (ty := .int) (C := RX7) (T := TX7) (N := 11) hx hb hts iX7 tyX7 tyX7_ok nmX7 hown hK hP hD hS 0 rfl rfl 8 (by decide) (hts _ tw_254) (fun _ h9 => h9) rfl (by decide +kernel) rfl rfl (Nat.le_of_ble_eq_true rfl) dX7_admit_29 (fun H locs hP hD hS => ?_)
      replace hP : va_P D gcl [(a0, .inr (7, [.ref a1, .ref a2, .ref a3, .ref a4, .ref a5, .ref a6, .ref a7, .ref a8, .int x_26, .long y1, .int x2])), (a2, .inl (cJ, 10, .inr (.inl g0))), (a3, .inl (cI, 10, .inl f0))] H := hP
      replace hD : va_D A [(a0, .inr (7, [.ref a1, .ref a2, .ref a3, .ref a4, .ref a5, .ref a6, .ref a7, .ref a8, .int x_26, .long y1, .int x2])), (a2, .inl (cJ, 10, .inr (.inl g0))), (a3, .inl (cI, 10, .inl f0))] := hD
      refine lv_aload_n (pc := 32) hx hb dX7_admit_32 rfl (lv_at hl 0 rfl) ?_
      refine va_get (pc := 33) (ci := 7) (v := .int x_26) (C := RX7) (T := TX7) (N := 11) hx hb hts iX7 hown hK hP 0 rfl rfl 8 (by decide) (hts _ tw_254) (fun _ h9 => h9) rfl dX7_admit_33 ?_
      refine lv_istore (pc := 36) (lv' := [(4, .int x_26), (0, .ref a0), (1, .int x0), (2, .long y0)]) hx hb dX7_admit_36 hl (by decide) rfl (fun ls hl => ?_)
      have lp_31 : ∀ (n : Nat) (x_27 : Int32) (f_30 : Nat → Int32) (g_29 : Nat → Int64) (H : Heap) (locs : List Loc) (ls : Array Slot), (0 ≤ x_27.toInt ∧ x_27.toInt ≤ 9) → (x_27.toInt + 2147483648).toNat < n → va_P D gcl [(a0, .inr (7, [.ref a1, .ref a2, .ref a3, .ref a4, .ref a5, .ref a6, .ref a7, .ref a8, .int x_26, .long y1, .int x2])), (a2, .inl (cJ, 10, .inr (.inl g_29))), (a3, .inl (cI, 10, .inl f_30))] H → va_D A [(a0, .inr (7, [.ref a1, .ref a2, .ref a3, .ref a4, .ref a5, .ref a6, .ref a7, .ref a8, .int x_26, .long y1, .int x2])), (a2, .inl (cJ, 10, .inr (.inl g_29))), (a3, .inl (cI, 10, .inl f_30))] → va_S A s.heap H locs → lv_has ls 5 [(4, .int x_27), (0, .ref a0), (1, .int x0), (2, .long y0)] → W p l e ({ frames := 0, cells := 0, slots := 0, locals := 0 }) s m args below meth c H locs 0 0 Q (F0 m 38 ls []) := by
        intro n
        induction n with
        | zero => intro x_27 f_30 g_29 H locs ls hi_28 hmu; exact absurd hmu (Nat.not_lt_zero _)
        | succ n ih_lp_31 =>
          intro x_27 f_30 g_29 H locs ls hi_28 hmu_lp_31 hP hD hS hl
          refine lv_iload (pc := 38) hx hb dX7_admit_38 (lv_at hl 0 rfl) ?_
          refine b_if_le (pc := 40) (tgt := 95) hx hb rfl  dX7_admit_40 (by decide) (fun c_32 => ?_) (fun c_32 => ?_)
          ·
            refine lv_aload_n (pc := 95) hx hb dX7_admit_95 rfl (lv_at hl 1 rfl) ?_
            refine va_get (pc := 96) (ci := 7) (v := .ref a2) (C := RX7) (T := TX7) (N := 11) hx hb hts iX7 hown hK hP 0 rfl rfl 1 (by decide) (hts _ tw_243) (fun _ h9 => h9) rfl dX7_admit_96 ?_
            refine lv_iload (pc := 99) hx hb dX7_admit_99 (lv_at hl 0 rfl) ?_
            refine lv_lload_n (pc := 101) hx hb dX7_admit_101 rfl (lv_at hl 3 rfl) ?_
            refine g_lastore (pc := 102) hx hb hK hP hD hS 1 3 rfl rfl (n_in rfl (by (first | omega | (unfold zBd at *; omega))) (by (first | omega | (unfold zBd at *; omega)))) dX7_admit_102 (fun g_33 H locs hP hD hS => ?_)
            replace hP : va_P D gcl [(a0, .inr (7, [.ref a1, .ref a2, .ref a3, .ref a4, .ref a5, .ref a6, .ref a7, .ref a8, .int x_26, .long y1, .int x2])), (a2, .inl (cJ, 10, .inr (.inl g_33))), (a3, .inl (cI, 10, .inl f_30))] H := hP
            replace hD : va_D A [(a0, .inr (7, [.ref a1, .ref a2, .ref a3, .ref a4, .ref a5, .ref a6, .ref a7, .ref a8, .int x_26, .long y1, .int x2])), (a2, .inl (cJ, 10, .inr (.inl g_33))), (a3, .inl (cI, 10, .inl f_30))] := hD
            refine lv_aload_n (pc := 103) hx hb dX7_admit_103 rfl (lv_at hl 1 rfl) ?_
            refine va_get (pc := 104) (ci := 7) (v := .ref a3) (C := RX7) (T := TX7) (N := 11) hx hb hts iX7 hown hK hP 0 rfl rfl 2 (by decide) (hts _ tw_245) (fun _ h9 => h9) rfl dX7_admit_104 ?_
            refine lv_iload (pc := 107) hx hb dX7_admit_107 (lv_at hl 0 rfl) ?_
            refine lv_iload_n (pc := 109) hx hb dX7_admit_109 rfl (lv_at hl 2 rfl) ?_
            refine g_iastore (pc := 110) hx hb hK hP hD hS 2 2 rfl rfl (n_in rfl (by (first | omega | (unfold zBd at *; omega))) (by (first | omega | (unfold zBd at *; omega)))) dX7_admit_110 (fun f_34 H locs hP hD hS => ?_)
            replace hP : va_P D gcl [(a0, .inr (7, [.ref a1, .ref a2, .ref a3, .ref a4, .ref a5, .ref a6, .ref a7, .ref a8, .int x_26, .long y1, .int x2])), (a2, .inl (cJ, 10, .inr (.inl g_33))), (a3, .inl (cI, 10, .inl f_34))] H := hP
            replace hD : va_D A [(a0, .inr (7, [.ref a1, .ref a2, .ref a3, .ref a4, .ref a5, .ref a6, .ref a7, .ref a8, .int x_26, .long y1, .int x2])), (a2, .inl (cJ, 10, .inr (.inl g_33))), (a3, .inl (cI, 10, .inl f_34))] := hD
            refine lv_aload_n (pc := 111) hx hb dX7_admit_111 rfl (lv_at hl 1 rfl) ?_
            refine lv_dup (pc := 112) hx hb dX7_admit_112 rfl ?_
            refine va_get (pc := 113) (ci := 7) (v := .int x_26) (C := RX7) (T := TX7) (N := 11) hx hb hts iX7 hown hK hP 0 rfl rfl 8 (by decide) (hts _ tw_254) (fun _ h9 => h9) rfl dX7_admit_113 ?_
            refine lv_iconst (pc := 116) (v := 1) hx hb dX7_admit_116 (by decide) ?_
            refine b_iadd (pc := 117) hx hb rfl tI_1 (by (first | omega | (unfold zBd at *; omega))) (by (first | omega | (unfold zBd at *; omega))) dX7_admit_117 (fun x_35 ex_35 => ?_)
            refine va_put (pc := 118) (ci := 7) (v := .int x_35) (ty := .int) (C := RX7) (T := TX7) (N := 11) hx hb hts iX7 tyX7 tyX7_ok nmX7 hown hK hP hD hS 0 rfl rfl 8 (by decide) (hts _ tw_254) (fun _ h9 => h9) rfl (by decide +kernel) rfl rfl (Nat.le_of_ble_eq_true rfl) dX7_admit_118 (fun H locs hP hD hS => ?_)
            replace hP : va_P D gcl [(a0, .inr (7, [.ref a1, .ref a2, .ref a3, .ref a4, .ref a5, .ref a6, .ref a7, .ref a8, .int x_35, .long y1, .int x2])), (a2, .inl (cJ, 10, .inr (.inl g_33))), (a3, .inl (cI, 10, .inl f_34))] H := hP
            replace hD : va_D A [(a0, .inr (7, [.ref a1, .ref a2, .ref a3, .ref a4, .ref a5, .ref a6, .ref a7, .ref a8, .int x_35, .long y1, .int x2])), (a2, .inl (cJ, 10, .inr (.inl g_33))), (a3, .inl (cI, 10, .inl f_34))] := hD
            exact hret ((fun _ => 0), (fun k => [f_34].getD k (fun _ => 0)), (fun k => [g_33].getD k (fun _ => 0)), (fun k => [x_35].getD k 0), (fun _ => 0)) dX7_admit_121 (show (0 ≤ (x_35 : Int32).toInt ∧ (x_35 : Int32).toInt ≤ 10) by (first | omega | (unfold zBd at *; omega))) (g_psub (wc := [(a0, .inr (7, [.ref a1, .ref a2, .ref a3, .ref a4, .ref a5, .ref a6, .ref a7, .ref a8, .int x_35, .long y1, .int x2])), (a2, .inl (cJ, 10, .inr (.inl g_33))), (a3, .inl (cI, 10, .inl f_34))]) hP [0, 1, 2] rfl) (hD.sub (ws' := [(a0, .inr (7, [.ref a1, .ref a2, .ref a3, .ref a4, .ref a5, .ref a6, .ref a7, .ref a8, .int x_35, .long y1, .int x2])), (a2, .inl (cJ, 10, .inr (.inl g_33))), (a3, .inl (cI, 10, .inl f_34))]) [0, 1, 2] (by decide) rfl) hS
          ·
            refine lv_aload_n (pc := 43) hx hb dX7_admit_43 rfl (lv_at hl 1 rfl) ?_
            refine va_get (pc := 44) (ci := 7) (v := .ref a2) (C := RX7) (T := TX7) (N := 11) hx hb hts iX7 hown hK hP 0 rfl rfl 1 (by decide) (hts _ tw_243) (fun _ h9 => h9) rfl dX7_admit_44 ?_
            refine lv_iload (pc := 47) hx hb dX7_admit_47 (lv_at hl 0 rfl) ?_
            refine lv_iconst (pc := 49) (v := 1) hx hb dX7_admit_49 (by decide) ?_
            refine b_isub (pc := 50) hx hb rfl tI_1 (by (first | omega | (unfold zBd at *; omega))) (by (first | omega | (unfold zBd at *; omega))) dX7_admit_50 (fun x_36 ex_36 => ?_)
            refine va_lald (pc := 51) hx hb hK hP 1 3 rfl rfl (n_in rfl (by (first | omega | (unfold zBd at *; omega))) (by (first | omega | (unfold zBd at *; omega)))) dX7_admit_51 ?_
            refine lv_topl (fun y_37 ey_37 => ?_)
            have ry_37 := n_rngL y_37
            refine lv_lload_n (pc := 52) hx hb dX7_admit_52 rfl (lv_at hl 3 rfl) ?_
            refine b_lcmp_le (pc := 53) (tgt := 95) hx hb rfl rfl dX7_admit_53 dX7_admit_54 (by decide) (fun c_38 => ?_) (fun c_38 => ?_)
            ·
              refine lv_aload_n (pc := 95) hx hb dX7_admit_95 rfl (lv_at hl 1 rfl) ?_
              refine va_get (pc := 96) (ci := 7) (v := .ref a2) (C := RX7) (T := TX7) (N := 11) hx hb hts iX7 hown hK hP 0 rfl rfl 1 (by decide) (hts _ tw_243) (fun _ h9 => h9) rfl dX7_admit_96 ?_
              refine lv_iload (pc := 99) hx hb dX7_admit_99 (lv_at hl 0 rfl) ?_
              refine lv_lload_n (pc := 101) hx hb dX7_admit_101 rfl (lv_at hl 3 rfl) ?_
              refine g_lastore (pc := 102) hx hb hK hP hD hS 1 3 rfl rfl (n_in rfl (by (first | omega | (unfold zBd at *; omega))) (by (first | omega | (unfold zBd at *; omega)))) dX7_admit_102 (fun g_39 H locs hP hD hS => ?_)
              replace hP : va_P D gcl [(a0, .inr (7, [.ref a1, .ref a2, .ref a3, .ref a4, .ref a5, .ref a6, .ref a7, .ref a8, .int x_26, .long y1, .int x2])), (a2, .inl (cJ, 10, .inr (.inl g_39))), (a3, .inl (cI, 10, .inl f_30))] H := hP
              replace hD : va_D A [(a0, .inr (7, [.ref a1, .ref a2, .ref a3, .ref a4, .ref a5, .ref a6, .ref a7, .ref a8, .int x_26, .long y1, .int x2])), (a2, .inl (cJ, 10, .inr (.inl g_39))), (a3, .inl (cI, 10, .inl f_30))] := hD
              refine lv_aload_n (pc := 103) hx hb dX7_admit_103 rfl (lv_at hl 1 rfl) ?_
              refine va_get (pc := 104) (ci := 7) (v := .ref a3) (C := RX7) (T := TX7) (N := 11) hx hb hts iX7 hown hK hP 0 rfl rfl 2 (by decide) (hts _ tw_245) (fun _ h9 => h9) rfl dX7_admit_104 ?_
              refine lv_iload (pc := 107) hx hb dX7_admit_107 (lv_at hl 0 rfl) ?_
              refine lv_iload_n (pc := 109) hx hb dX7_admit_109 rfl (lv_at hl 2 rfl) ?_
              refine g_iastore (pc := 110) hx hb hK hP hD hS 2 2 rfl rfl (n_in rfl (by (first | omega | (unfold zBd at *; omega))) (by (first | omega | (unfold zBd at *; omega)))) dX7_admit_110 (fun f_40 H locs hP hD hS => ?_)
              replace hP : va_P D gcl [(a0, .inr (7, [.ref a1, .ref a2, .ref a3, .ref a4, .ref a5, .ref a6, .ref a7, .ref a8, .int x_26, .long y1, .int x2])), (a2, .inl (cJ, 10, .inr (.inl g_39))), (a3, .inl (cI, 10, .inl f_40))] H := hP
              replace hD : va_D A [(a0, .inr (7, [.ref a1, .ref a2, .ref a3, .ref a4, .ref a5, .ref a6, .ref a7, .ref a8, .int x_26, .long y1, .int x2])), (a2, .inl (cJ, 10, .inr (.inl g_39))), (a3, .inl (cI, 10, .inl f_40))] := hD
              refine lv_aload_n (pc := 111) hx hb dX7_admit_111 rfl (lv_at hl 1 rfl) ?_
              refine lv_dup (pc := 112) hx hb dX7_admit_112 rfl ?_
              refine va_get (pc := 113) (ci := 7) (v := .int x_26) (C := RX7) (T := TX7) (N := 11) hx hb hts iX7 hown hK hP 0 rfl rfl 8 (by decide) (hts _ tw_254) (fun _ h9 => h9) rfl dX7_admit_113 ?_
              refine lv_iconst (pc := 116) (v := 1) hx hb dX7_admit_116 (by decide) ?_
              refine b_iadd (pc := 117) hx hb rfl tI_1 (by (first | omega | (unfold zBd at *; omega))) (by (first | omega | (unfold zBd at *; omega))) dX7_admit_117 (fun x_41 ex_41 => ?_)
              refine va_put (pc := 118) (ci := 7) (v := .int x_41) (ty := .int) (C := RX7) (T := TX7) (N := 11) hx hb hts iX7 tyX7 tyX7_ok nmX7 hown hK hP hD hS 0 rfl rfl 8 (by decide) (hts _ tw_254) (fun _ h9 => h9) rfl (by decide +kernel) rfl rfl (Nat.le_of_ble_eq_true rfl) dX7_admit_118 (fun H locs hP hD hS => ?_)
              replace hP : va_P D gcl [(a0, .inr (7, [.ref a1, .ref a2, .ref a3, .ref a4, .ref a5, .ref a6, .ref a7, .ref a8, .int x_41, .long y1, .int x2])), (a2, .inl (cJ, 10, .inr (.inl g_39))), (a3, .inl (cI, 10, .inl f_40))] H := hP
              replace hD : va_D A [(a0, .inr (7, [.ref a1, .ref a2, .ref a3, .ref a4, .ref a5, .ref a6, .ref a7, .ref a8, .int x_41, .long y1, .int x2])), (a2, .inl (cJ, 10, .inr (.inl g_39))), (a3, .inl (cI, 10, .inl f_40))] := hD
              exact hret ((fun _ => 0), (fun k => [f_40].getD k (fun _ => 0)), (fun k => [g_39].getD k (fun _ => 0)), (fun k => [x_41].getD k 0), (fun _ => 0)) dX7_admit_121 (show (0 ≤ (x_41 : Int32).toInt ∧ (x_41 : Int32).toInt ≤ 10) by (first | omega | (unfold zBd at *; omega))) (g_psub (wc := [(a0, .inr (7, [.ref a1, .ref a2, .ref a3, .ref a4, .ref a5, .ref a6, .ref a7, .ref a8, .int x_41, .long y1, .int x2])), (a2, .inl (cJ, 10, .inr (.inl g_39))), (a3, .inl (cI, 10, .inl f_40))]) hP [0, 1, 2] rfl) (hD.sub (ws' := [(a0, .inr (7, [.ref a1, .ref a2, .ref a3, .ref a4, .ref a5, .ref a6, .ref a7, .ref a8, .int x_41, .long y1, .int x2])), (a2, .inl (cJ, 10, .inr (.inl g_39))), (a3, .inl (cI, 10, .inl f_40))]) [0, 1, 2] (by decide) rfl) hS
            ·
              refine lv_aload_n (pc := 57) hx hb dX7_admit_57 rfl (lv_at hl 1 rfl) ?_
              refine va_get (pc := 58) (ci := 7) (v := .ref a2) (C := RX7) (T := TX7) (N := 11) hx hb hts iX7 hown hK hP 0 rfl rfl 1 (by decide) (hts _ tw_243) (fun _ h9 => h9) rfl dX7_admit_58 ?_
              refine lv_iload (pc := 61) hx hb dX7_admit_61 (lv_at hl 0 rfl) ?_
              refine lv_aload_n (pc := 63) hx hb dX7_admit_63 rfl (lv_at hl 1 rfl) ?_
              refine va_get (pc := 64) (ci := 7) (v := .ref a2) (C := RX7) (T := TX7) (N := 11) hx hb hts iX7 hown hK hP 0 rfl rfl 1 (by decide) (hts _ tw_243) (fun _ h9 => h9) rfl dX7_admit_64 ?_
              refine lv_iload (pc := 67) hx hb dX7_admit_67 (lv_at hl 0 rfl) ?_
              refine lv_iconst (pc := 69) (v := 1) hx hb dX7_admit_69 (by decide) ?_
              refine b_isub (pc := 70) hx hb rfl tI_1 (by (first | omega | (unfold zBd at *; omega))) (by (first | omega | (unfold zBd at *; omega))) dX7_admit_70 (fun x_42 ex_42 => ?_)
              refine va_lald (pc := 71) hx hb hK hP 1 3 rfl rfl (n_in rfl (by (first | omega | (unfold zBd at *; omega))) (by (first | omega | (unfold zBd at *; omega)))) dX7_admit_71 ?_
              refine lv_topl (fun y_43 ey_43 => ?_)
              have ry_43 := n_rngL y_43
              refine g_lastore (pc := 72) hx hb hK hP hD hS 1 3 rfl rfl (n_in rfl (by (first | omega | (unfold zBd at *; omega))) (by (first | omega | (unfold zBd at *; omega)))) dX7_admit_72 (fun g_44 H locs hP hD hS => ?_)
              replace hP : va_P D gcl [(a0, .inr (7, [.ref a1, .ref a2, .ref a3, .ref a4, .ref a5, .ref a6, .ref a7, .ref a8, .int x_26, .long y1, .int x2])), (a2, .inl (cJ, 10, .inr (.inl g_44))), (a3, .inl (cI, 10, .inl f_30))] H := hP
              replace hD : va_D A [(a0, .inr (7, [.ref a1, .ref a2, .ref a3, .ref a4, .ref a5, .ref a6, .ref a7, .ref a8, .int x_26, .long y1, .int x2])), (a2, .inl (cJ, 10, .inr (.inl g_44))), (a3, .inl (cI, 10, .inl f_30))] := hD
              refine lv_aload_n (pc := 73) hx hb dX7_admit_73 rfl (lv_at hl 1 rfl) ?_
              refine va_get (pc := 74) (ci := 7) (v := .ref a3) (C := RX7) (T := TX7) (N := 11) hx hb hts iX7 hown hK hP 0 rfl rfl 2 (by decide) (hts _ tw_245) (fun _ h9 => h9) rfl dX7_admit_74 ?_
              refine lv_iload (pc := 77) hx hb dX7_admit_77 (lv_at hl 0 rfl) ?_
              refine lv_aload_n (pc := 79) hx hb dX7_admit_79 rfl (lv_at hl 1 rfl) ?_
              refine va_get (pc := 80) (ci := 7) (v := .ref a3) (C := RX7) (T := TX7) (N := 11) hx hb hts iX7 hown hK hP 0 rfl rfl 2 (by decide) (hts _ tw_245) (fun _ h9 => h9) rfl dX7_admit_80 ?_
              refine lv_iload (pc := 83) hx hb dX7_admit_83 (lv_at hl 0 rfl) ?_
              refine lv_iconst (pc := 85) (v := 1) hx hb dX7_admit_85 (by decide) ?_
              refine b_isub (pc := 86) hx hb rfl tI_1 (by (first | omega | (unfold zBd at *; omega))) (by (first | omega | (unfold zBd at *; omega))) dX7_admit_86 (fun x_45 ex_45 => ?_)
              refine va_iald (pc := 87) hx hb hK hP 2 2 rfl rfl (n_in rfl (by (first | omega | (unfold zBd at *; omega))) (by (first | omega | (unfold zBd at *; omega)))) dX7_admit_87 ?_
              refine lv_topi (fun x_46 ex_46 => ?_)
              have rx_46 : zBd x_46.toInt (-2147483648) 2147483647 := n_rng x_46
              refine g_iastore (pc := 88) hx hb hK hP hD hS 2 2 rfl rfl (n_in rfl (by (first | omega | (unfold zBd at *; omega))) (by (first | omega | (unfold zBd at *; omega)))) dX7_admit_88 (fun f_47 H locs hP hD hS => ?_)
              replace hP : va_P D gcl [(a0, .inr (7, [.ref a1, .ref a2, .ref a3, .ref a4, .ref a5, .ref a6, .ref a7, .ref a8, .int x_26, .long y1, .int x2])), (a2, .inl (cJ, 10, .inr (.inl g_44))), (a3, .inl (cI, 10, .inl f_47))] H := hP
              replace hD : va_D A [(a0, .inr (7, [.ref a1, .ref a2, .ref a3, .ref a4, .ref a5, .ref a6, .ref a7, .ref a8, .int x_26, .long y1, .int x2])), (a2, .inl (cJ, 10, .inr (.inl g_44))), (a3, .inl (cI, 10, .inl f_47))] := hD
              refine b_iinc (pc := 89) hx hb dX7_admit_89 hl (k := 0) rfl rfl tI_m1 (by (first | omega | (unfold zBd at *; omega))) (by (first | omega | (unfold zBd at *; omega))) (by decide) (fun x_48 ex_48 ls hl => ?_)
              replace hl : lv_has ls 5 [(4, .int x_48), (0, .ref a0), (1, .int x0), (2, .long y0)] := hl
              refine lv_goto (pc := 92) (tgt := 38) hx hb dX7_admit_92 (by decide) ?_
              exact ih_lp_31 x_48 f_47 g_44 _ _ ls (by (first | omega | (unfold zBd at *; omega))) (by (first | omega | (unfold zBd at *; omega))) hP hD hS (lv_sub hl [0, 1, 2, 3] rfl)
      exact lp_31 _ x_26 f0 g0 _ _ ls (by (first | omega | (unfold zBd at *; omega))) (Nat.lt_succ_self _) hP hD hS (lv_sub hl [0, 1, 2, 3] rfl)
    ·
      exact hret ((fun _ => 0), (fun k => [f0].getD k (fun _ => 0)), (fun k => [g0].getD k (fun _ => 0)), (fun k => [x1].getD k 0), (fun _ => 0)) dX7_admit_21 (show (0 ≤ (x1 : Int32).toInt ∧ (x1 : Int32).toInt ≤ 10) from h_x1) (g_psub (wc := [(a0, .inr (7, [.ref a1, .ref a2, .ref a3, .ref a4, .ref a5, .ref a6, .ref a7, .ref a8, .int x1, .long y1, .int x2])), (a2, .inl (cJ, 10, .inr (.inl g0))), (a3, .inl (cI, 10, .inl f0))]) hP [0, 1, 2] rfl) (hD.sub (ws' := [(a0, .inr (7, [.ref a1, .ref a2, .ref a3, .ref a4, .ref a5, .ref a6, .ref a7, .ref a8, .int x1, .long y1, .int x2])), (a2, .inl (cJ, 10, .inr (.inl g0))), (a3, .inl (cI, 10, .inl f0))]) [0, 1, 2] (by decide) rfl) hS
set_option maxHeartbeats 4000000 in
set_option maxRecDepth 100000 in
theorem k_X7_learnLine (l : Launch) (D : va_G) (cB cC cI cJ : ClassId) (sz : Nat) (a0 a1 a2 a3 a4 a5 a6 a7 a8 a9 a10 a11 a12 a13 a14 a15 : Nat) (x0 x1 x2 x3 x4 : Int32) (y0 : Int64) (f0 f1 f2 f3 : Nat → Int32) (g0 g1 g2 g3 g4 g5 : Nat → Int64) (hp2 : ((-1) ≤ x1.toInt ∧ x1.toInt ≤ 8)) (h_x2 : zBd x2.toInt 0 10) (h_x3 : zBd x3.toInt 0 1) (h_x4 : zBd x4.toInt 0 4) (hf_f0 : (∀ j, 0 ≤ (f0 j).toInt ∧ (f0 j).toInt ≤ 7)) : Met l yX7_learnLine (.code yX7_learnLine cX7_learnLine 12 none :: lw_gd) ({ frames := 2, cells := 0, slots := 0, locals := 49 }) (gPre D [(cB, .byte), (cC, .char), (cI, .int), (cJ, .long)] [.ref a0, .int x0, .int x1] [(a0, .inr (7, [.ref a1, .ref a2, .ref a3, .ref a4, .ref a5, .ref a6, .ref a7, .ref a8, .int x2, .long y0, .int x3])), (a1, .inr (10, [.ref a9, .ref a10, .ref a11, .ref a12, .ref a13, .ref a14, .ref a15, .int x4])), (a15, .inl (cI, 5, .inl f0)), (a4, .inl (cJ, 40, .inr (.inl g0))), (a5, .inl (cJ, 40, .inr (.inl g1))), (a12, .inl (cI, 5, .inl f1)), (a13, .inl (cI, 5, .inl f2)), (a10, .inl (cJ, 5, .inr (.inl g2))), (a9, .inl (cJ, 25, .inr (.inl g3))), (a11, .inl (cJ, 25, .inr (.inl g4))), (a2, .inl (cJ, 10, .inr (.inl g5))), (a3, .inl (cI, 10, .inl f3))] sz) (va_Qv (fun u => ((((-1) ≤ x1.toInt ∧ x1.toInt ≤ 8) ∧ (0 ≤ x4.toInt ∧ x4.toInt ≤ 4))) ∧ (0 ≤ (u.2.2.2.1 0).toInt ∧ (u.2.2.2.1 0).toInt ≤ 10)) (gB D (va_A [(a0, .inr (7, [.ref a1, .ref a2, .ref a3, .ref a4, .ref a5, .ref a6, .ref a7, .ref a8, .int x2, .long y0, .int x3])), (a1, .inr (10, [.ref a9, .ref a10, .ref a11, .ref a12, .ref a13, .ref a14, .ref a15, .int x4])), (a15, .inl (cI, 5, .inl f0)), (a4, .inl (cJ, 40, .inr (.inl g0))), (a5, .inl (cJ, 40, .inr (.inl g1))), (a12, .inl (cI, 5, .inl f1)), (a13, .inl (cI, 5, .inl f2)), (a10, .inl (cJ, 5, .inr (.inl g2))), (a9, .inl (cJ, 25, .inr (.inl g3))), (a11, .inl (cJ, 25, .inr (.inl g4))), (a2, .inl (cJ, 10, .inr (.inl g5))), (a3, .inl (cI, 10, .inl f3))] sz) (fun u : gEx => [(a0, .inr (7, [.ref a1, .ref a2, .ref a3, .ref a4, .ref a5, .ref a6, .ref a7, .ref a8, .int (u.2.2.2.1 0), .long (u.2.2.2.2 0), .int x3])), (a1, .inr (10, [.ref a9, .ref a10, .ref a11, .ref a12, .ref a13, .ref a14, .ref a15, .int x4])), (a15, .inl (cI, 5, .inl f0)), (a4, .inl (cJ, 40, .inr (.inl (u.2.2.1 0)))), (a5, .inl (cJ, 40, .inr (.inl (u.2.2.1 1)))), (a12, .inl (cI, 5, .inl f1)), (a13, .inl (cI, 5, .inl f2)), (a10, .inl (cJ, 5, .inr (.inl g2))), (a9, .inl (cJ, 25, .inr (.inl g3))), (a11, .inl (cJ, 25, .inr (.inl g4))), (a2, .inl (cJ, 10, .inr (.inl (u.2.2.1 2)))), (a3, .inl (cI, 10, .inl (u.2.1 0)))])) (va_A [(a0, .inr (7, [.ref a1, .ref a2, .ref a3, .ref a4, .ref a5, .ref a6, .ref a7, .ref a8, .int x2, .long y0, .int x3])), (a1, .inr (10, [.ref a9, .ref a10, .ref a11, .ref a12, .ref a13, .ref a14, .ref a15, .int x4])), (a15, .inl (cI, 5, .inl f0)), (a4, .inl (cJ, 40, .inr (.inl g0))), (a5, .inl (cJ, 40, .inr (.inl g1))), (a12, .inl (cI, 5, .inl f1)), (a13, .inl (cI, 5, .inl f2)), (a10, .inl (cJ, 5, .inr (.inl g2))), (a9, .inl (cJ, 25, .inr (.inl g3))), (a11, .inl (cJ, 25, .inr (.inl g4))), (a2, .inl (cJ, 10, .inr (.inl g5))), (a3, .inl (cI, 10, .inl f3))] sz)) 0 0 (va_A [(a0, .inr (7, [.ref a1, .ref a2, .ref a3, .ref a4, .ref a5, .ref a6, .ref a7, .ref a8, .int x2, .long y0, .int x3])), (a1, .inr (10, [.ref a9, .ref a10, .ref a11, .ref a12, .ref a13, .ref a14, .ref a15, .int x4])), (a15, .inl (cI, 5, .inl f0)), (a4, .inl (cJ, 40, .inr (.inl g0))), (a5, .inl (cJ, 40, .inr (.inl g1))), (a12, .inl (cI, 5, .inl f1)), (a13, .inl (cI, 5, .inl f2)), (a10, .inl (cJ, 5, .inr (.inl g2))), (a9, .inl (cJ, 25, .inr (.inl g3))), (a11, .inl (cJ, 25, .inr (.inl g4))), (a2, .inl (cJ, 10, .inr (.inl g5))), (a3, .inl (cI, 10, .inl f3))] sz) := by
  refine gOf_v (by decide +kernel) (Nat.le_of_ble_eq_true rfl) ?_
  intro p e s m args below meth c ls A Q hx hb hts hown hml hN hK hP hD hA hl hret
  replace hown : s.vm.findClass RX7 = some m.cls := hown
  have hS : va_S A s.heap s.heap [] := va_S.rf
  replace hP : va_P D gcl [(a0, .inr (7, [.ref a1, .ref a2, .ref a3, .ref a4, .ref a5, .ref a6, .ref a7, .ref a8, .int x2, .long y0, .int x3])), (a1, .inr (10, [.ref a9, .ref a10, .ref a11, .ref a12, .ref a13, .ref a14, .ref a15, .int x4])), (a15, .inl (cI, 5, .inl f0)), (a4, .inl (cJ, 40, .inr (.inl g0))), (a5, .inl (cJ, 40, .inr (.inl g1))), (a12, .inl (cI, 5, .inl f1)), (a13, .inl (cI, 5, .inl f2)), (a10, .inl (cJ, 5, .inr (.inl g2))), (a9, .inl (cJ, 25, .inr (.inl g3))), (a11, .inl (cJ, 25, .inr (.inl g4))), (a2, .inl (cJ, 10, .inr (.inl g5))), (a3, .inl (cI, 10, .inl f3))] s.heap := hP
  replace hl : lv_has ls 12 [(0, .ref a0), (1, .int x0), (2, .int x1)] := hl
  have rx0 : zBd x0.toInt (-2147483648) 2147483647 := n_rng x0
  have ry0 := n_rngL y0
  refine lv_ldc2 (pc := 0) hx hb hown (hts _ tw_874) dX7_learnLine_0 ?_
  refine lv_lstore_n (pc := 3) (lv' := [(3, .long 1000000000000000), (0, .ref a0), (1, .int x0), (2, .int x1)]) hx hb dX7_learnLine_3 rfl hl (by decide) rfl (fun ls hl => ?_)
  refine lv_lconst (pc := 4) (v := 0) hx hb dX7_learnLine_4 (by decide) ?_
  refine lv_lstore (pc := 5) (lv' := [(5, .long 0), (3, .long 1000000000000000), (0, .ref a0), (1, .int x0), (2, .int x1)]) hx hb dX7_learnLine_5 hl (by decide) rfl (fun ls hl => ?_)
  refine lv_iconst (pc := 7) (v := 0) hx hb dX7_learnLine_7 (by decide) ?_
  refine lv_istore (pc := 8) (lv' := [(7, .int 0), (5, .long 0), (3, .long 1000000000000000), (0, .ref a0), (1, .int x0), (2, .int x1)]) hx hb dX7_learnLine_8 hl (by decide) rfl (fun ls hl => ?_)
  have lp_13 : ∀ (n : Nat) (x_1 x_7 : Int32) (y_3 y_5 : Int64) (f_12 : Nat → Int32) (g_9 g_10 g_11 : Nat → Int64) (H : Heap) (locs : List Loc) (ls : Array Slot), (0 ≤ x_1.toInt ∧ x_1.toInt ≤ 2147483647) → (0 ≤ x_7.toInt ∧ x_7.toInt ≤ 10) → (2147483647 - x_1.toInt).toNat < n → va_P D gcl [(a0, .inr (7, [.ref a1, .ref a2, .ref a3, .ref a4, .ref a5, .ref a6, .ref a7, .ref a8, .int x_7, .long y0, .int x3])), (a1, .inr (10, [.ref a9, .ref a10, .ref a11, .ref a12, .ref a13, .ref a14, .ref a15, .int x4])), (a15, .inl (cI, 5, .inl f0)), (a4, .inl (cJ, 40, .inr (.inl g_9))), (a5, .inl (cJ, 40, .inr (.inl g_10))), (a12, .inl (cI, 5, .inl f1)), (a13, .inl (cI, 5, .inl f2)), (a10, .inl (cJ, 5, .inr (.inl g2))), (a9, .inl (cJ, 25, .inr (.inl g3))), (a11, .inl (cJ, 25, .inr (.inl g4))), (a2, .inl (cJ, 10, .inr (.inl g_11))), (a3, .inl (cI, 10, .inl f_12))] H → va_D A [(a0, .inr (7, [.ref a1, .ref a2, .ref a3, .ref a4, .ref a5, .ref a6, .ref a7, .ref a8, .int x_7, .long y0, .int x3])), (a1, .inr (10, [.ref a9, .ref a10, .ref a11, .ref a12, .ref a13, .ref a14, .ref a15, .int x4])), (a15, .inl (cI, 5, .inl f0)), (a4, .inl (cJ, 40, .inr (.inl g_9))), (a5, .inl (cJ, 40, .inr (.inl g_10))), (a12, .inl (cI, 5, .inl f1)), (a13, .inl (cI, 5, .inl f2)), (a10, .inl (cJ, 5, .inr (.inl g2))), (a9, .inl (cJ, 25, .inr (.inl g3))), (a11, .inl (cJ, 25, .inr (.inl g4))), (a2, .inl (cJ, 10, .inr (.inl g_11))), (a3, .inl (cI, 10, .inl f_12))] → va_S A s.heap H locs → lv_has ls 12 [(7, .int x_1), (5, .long y_3), (3, .long y_5), (0, .ref a0), (1, .int x0), (2, .int x1)] → W p l e ({ frames := 2, cells := 0, slots := 0, locals := 49 }) s m args below meth c H locs 0 0 Q (F0 m 10 ls []) := by
    intro n
    induction n with
    | zero => intro x_1 x_7 y_3 y_5 f_12 g_9 g_10 g_11 H locs ls hi_2 hi_8 hmu; exact absurd hmu (Nat.not_lt_zero _)
    | succ n ih_lp_13 =>
      intro x_1 x_7 y_3 y_5 f_12 g_9 g_10 g_11 H locs ls hi_2 hi_8 hmu_lp_13 hP hD hS hl
      have hi_4 := n_rngL y_3
      have hi_6 := n_rngL y_5
      refine lv_iload (pc := 10) hx hb dX7_learnLine_10 (lv_at hl 0 rfl) ?_
      refine lv_iload_n (pc := 12) hx hb dX7_learnLine_12 rfl (lv_at hl 5 rfl) ?_
      refine b_icmp_ge (pc := 13) (tgt := 95) hx hb rfl rfl  dX7_learnLine_13 (by decide) (fun c_14 => ?_) (fun c_14 => ?_)
      ·
        refine lv_iconst (pc := 95) (v := 0) hx hb dX7_learnLine_95 (by decide) ?_
        refine lv_istore (pc := 96) (lv' := [(7, .int 0), (5, .long y_3), (3, .long y_5), (0, .ref a0), (1, .int x0), (2, .int x1)]) hx hb dX7_learnLine_96 hl (by decide) rfl (fun ls hl => ?_)
        have lp_19 : ∀ (n : Nat) (x_15 : Int32) (g_17 g_18 : Nat → Int64) (H : Heap) (locs : List Loc) (ls : Array Slot), (0 ≤ x_15.toInt ∧ x_15.toInt ≤ 2147483647) → (2147483647 - x_15.toInt).toNat < n → va_P D gcl [(a0, .inr (7, [.ref a1, .ref a2, .ref a3, .ref a4, .ref a5, .ref a6, .ref a7, .ref a8, .int x_7, .long y0, .int x3])), (a1, .inr (10, [.ref a9, .ref a10, .ref a11, .ref a12, .ref a13, .ref a14, .ref a15, .int x4])), (a15, .inl (cI, 5, .inl f0)), (a4, .inl (cJ, 40, .inr (.inl g_17))), (a5, .inl (cJ, 40, .inr (.inl g_18))), (a12, .inl (cI, 5, .inl f1)), (a13, .inl (cI, 5, .inl f2)), (a10, .inl (cJ, 5, .inr (.inl g2))), (a9, .inl (cJ, 25, .inr (.inl g3))), (a11, .inl (cJ, 25, .inr (.inl g4))), (a2, .inl (cJ, 10, .inr (.inl g_11))), (a3, .inl (cI, 10, .inl f_12))] H → va_D A [(a0, .inr (7, [.ref a1, .ref a2, .ref a3, .ref a4, .ref a5, .ref a6, .ref a7, .ref a8, .int x_7, .long y0, .int x3])), (a1, .inr (10, [.ref a9, .ref a10, .ref a11, .ref a12, .ref a13, .ref a14, .ref a15, .int x4])), (a15, .inl (cI, 5, .inl f0)), (a4, .inl (cJ, 40, .inr (.inl g_17))), (a5, .inl (cJ, 40, .inr (.inl g_18))), (a12, .inl (cI, 5, .inl f1)), (a13, .inl (cI, 5, .inl f2)), (a10, .inl (cJ, 5, .inr (.inl g2))), (a9, .inl (cJ, 25, .inr (.inl g3))), (a11, .inl (cJ, 25, .inr (.inl g4))), (a2, .inl (cJ, 10, .inr (.inl g_11))), (a3, .inl (cI, 10, .inl f_12))] → va_S A s.heap H locs → lv_has ls 12 [(7, .int x_15), (5, .long y_3), (3, .long y_5), (0, .ref a0), (1, .int x0), (2, .int x1)] → W p l e ({ frames := 2, cells := 0, slots := 0, locals := 49 }) s m args below meth c H locs 0 0 Q (F0 m 98 ls []) := by
          intro n
          induction n with
          | zero => intro x_15 g_17 g_18 H locs ls hi_16 hmu; exact absurd hmu (Nat.not_lt_zero _)
          | succ n ih_lp_19 =>
            intro x_15 g_17 g_18 H locs ls hi_16 hmu_lp_19 hP hD hS hl
            refine lv_iload (pc := 98) hx hb dX7_learnLine_98 (lv_at hl 0 rfl) ?_
            refine lv_aload_n (pc := 100) hx hb dX7_learnLine_100 rfl (lv_at hl 3 rfl) ?_
            refine va_get (pc := 101) (ci := 7) (v := .ref a1) (C := RX7) (T := TX7) (N := 11) hx hb hts iX7 hown hK hP 0 rfl rfl 0 (by decide) (hts _ tw_242) (fun _ h9 => h9) rfl dX7_learnLine_101 ?_
            refine va_getN (pc := 104) (ci := 10) (v := .int x4) (C := RX10) (T := TX10) (N := 8) hx hb hts iX10 hown hK hP 1 rfl rfl 7 (by decide) (va_Nw.use rfl (hN _ tn_222)) (fun _ h9 => h9) rfl dX7_learnLine_104 ?_
            refine b_icmp_ge (pc := 107) (tgt := 135) hx hb rfl rfl  dX7_learnLine_107 (by decide) (fun c_20 => ?_) (fun c_20 => ?_)
            ·
              refine lv_aload_n (pc := 135) hx hb dX7_learnLine_135 rfl (lv_at hl 3 rfl) ?_
              refine lv_dup (pc := 136) hx hb dX7_learnLine_136 rfl ?_
              refine va_get (pc := 137) (ci := 7) (v := .long y0) (C := RX7) (T := TX7) (N := 11) hx hb hts iX7 hown hK hP 0 rfl rfl 9 (by decide) (hts _ tw_256) (fun _ h9 => h9) rfl dX7_learnLine_137 ?_
              refine lv_lload (pc := 140) hx hb dX7_learnLine_140 (lv_at hl 1 rfl) ?_
              refine lv_ladd (pc := 142) hx hb dX7_learnLine_142 ?_
              refine lv_topl (fun y_21 _ => ?_)
              have ry_21 := n_rngL y_21
              refine va_put (pc := 143) (ci := 7) (v := .long y_21) (ty := .long) (C := RX7) (T := TX7) (N := 11) hx hb hts iX7 tyX7 tyX7_ok nmX7 hown hK hP hD hS 0 rfl rfl 9 (by decide) (hts _ tw_256) (fun _ h9 => h9) rfl (by decide +kernel) rfl rfl (Nat.le_of_ble_eq_true rfl) dX7_learnLine_143 (fun H locs hP hD hS => ?_)
              replace hP : va_P D gcl [(a0, .inr (7, [.ref a1, .ref a2, .ref a3, .ref a4, .ref a5, .ref a6, .ref a7, .ref a8, .int x_7, .long y_21, .int x3])), (a1, .inr (10, [.ref a9, .ref a10, .ref a11, .ref a12, .ref a13, .ref a14, .ref a15, .int x4])), (a15, .inl (cI, 5, .inl f0)), (a4, .inl (cJ, 40, .inr (.inl g_17))), (a5, .inl (cJ, 40, .inr (.inl g_18))), (a12, .inl (cI, 5, .inl f1)), (a13, .inl (cI, 5, .inl f2)), (a10, .inl (cJ, 5, .inr (.inl g2))), (a9, .inl (cJ, 25, .inr (.inl g3))), (a11, .inl (cJ, 25, .inr (.inl g4))), (a2, .inl (cJ, 10, .inr (.inl g_11))), (a3, .inl (cI, 10, .inl f_12))] H := hP
              replace hD : va_D A [(a0, .inr (7, [.ref a1, .ref a2, .ref a3, .ref a4, .ref a5, .ref a6, .ref a7, .ref a8, .int x_7, .long y_21, .int x3])), (a1, .inr (10, [.ref a9, .ref a10, .ref a11, .ref a12, .ref a13, .ref a14, .ref a15, .int x4])), (a15, .inl (cI, 5, .inl f0)), (a4, .inl (cJ, 40, .inr (.inl g_17))), (a5, .inl (cJ, 40, .inr (.inl g_18))), (a12, .inl (cI, 5, .inl f1)), (a13, .inl (cI, 5, .inl f2)), (a10, .inl (cJ, 5, .inr (.inl g2))), (a9, .inl (cJ, 25, .inr (.inl g3))), (a11, .inl (cJ, 25, .inr (.inl g4))), (a2, .inl (cJ, 10, .inr (.inl g_11))), (a3, .inl (cI, 10, .inl f_12))] := hD
              exact hret ((fun _ => 0), (fun k => [f_12].getD k (fun _ => 0)), (fun k => [g_17, g_18, g_11].getD k (fun _ => 0)), (fun k => [x_7].getD k 0), (fun k => [y_21].getD k 0)) dX7_learnLine_146 ⟨(show ((((-1) ≤ x1.toInt ∧ x1.toInt ≤ 8) ∧ (0 ≤ x4.toInt ∧ x4.toInt ≤ 4))) by (first | omega | (unfold zBd at *; omega))), (show (0 ≤ (x_7 : Int32).toInt ∧ (x_7 : Int32).toInt ≤ 10) from hi_8)⟩ (g_psub (wc := [(a0, .inr (7, [.ref a1, .ref a2, .ref a3, .ref a4, .ref a5, .ref a6, .ref a7, .ref a8, .int x_7, .long y_21, .int x3])), (a1, .inr (10, [.ref a9, .ref a10, .ref a11, .ref a12, .ref a13, .ref a14, .ref a15, .int x4])), (a15, .inl (cI, 5, .inl f0)), (a4, .inl (cJ, 40, .inr (.inl g_17))), (a5, .inl (cJ, 40, .inr (.inl g_18))), (a12, .inl (cI, 5, .inl f1)), (a13, .inl (cI, 5, .inl f2)), (a10, .inl (cJ, 5, .inr (.inl g2))), (a9, .inl (cJ, 25, .inr (.inl g3))), (a11, .inl (cJ, 25, .inr (.inl g4))), (a2, .inl (cJ, 10, .inr (.inl g_11))), (a3, .inl (cI, 10, .inl f_12))]) hP [0, 1, 2, 3, 4, 5, 6, 7, 8, 9, 10, 11] rfl) (hD.sub (ws' := [(a0, .inr (7, [.ref a1, .ref a2, .ref a3, .ref a4, .ref a5, .ref a6, .ref a7, .ref a8, .int x_7, .long y_21, .int x3])), (a1, .inr (10, [.ref a9, .ref a10, .ref a11, .ref a12, .ref a13, .ref a14, .ref a15, .int x4])), (a15, .inl (cI, 5, .inl f0)), (a4, .inl (cJ, 40, .inr (.inl g_17))), (a5, .inl (cJ, 40, .inr (.inl g_18))), (a12, .inl (cI, 5, .inl f1)), (a13, .inl (cI, 5, .inl f2)), (a10, .inl (cJ, 5, .inr (.inl g2))), (a9, .inl (cJ, 25, .inr (.inl g3))), (a11, .inl (cJ, 25, .inr (.inl g4))), (a2, .inl (cJ, 10, .inr (.inl g_11))), (a3, .inl (cI, 10, .inl f_12))]) [0, 1, 2, 3, 4, 5, 6, 7, 8, 9, 10, 11] (by decide) rfl) hS
            ·
              refine lv_aload_n (pc := 110) hx hb dX7_learnLine_110 rfl (lv_at hl 3 rfl) ?_
              refine lv_iload (pc := 111) hx hb dX7_learnLine_111 (lv_at hl 0 rfl) ?_
              refine lv_aload_n (pc := 113) hx hb dX7_learnLine_113 rfl (lv_at hl 3 rfl) ?_
              refine va_get (pc := 114) (ci := 7) (v := .ref a1) (C := RX7) (T := TX7) (N := 11) hx hb hts iX7 hown hK hP 0 rfl rfl 0 (by decide) (hts _ tw_242) (fun _ h9 => h9) rfl dX7_learnLine_114 ?_
              refine va_getN (pc := 117) (ci := 10) (v := .ref a15) (C := RX10) (T := TX10) (N := 8) hx hb hts iX10 hown hK hP 1 rfl rfl 6 (by decide) (va_Nw.use rfl (hN _ tn_218)) (fun _ h9 => h9) rfl dX7_learnLine_117 ?_
              refine lv_iload (pc := 120) hx hb dX7_learnLine_120 (lv_at hl 0 rfl) ?_
              refine va_iald (pc := 122) hx hb hK hP 2 2 rfl rfl (n_in rfl (by (first | omega | (unfold zBd at *; omega))) (by (first | omega | (unfold zBd at *; omega)))) dX7_learnLine_122 ?_
              refine lv_topi (fun x_22 ex_22 => ?_)
              have rx_22 : (0 ≤ x_22.toInt ∧ x_22.toInt ≤ 7) := by rw [ex_22]; exact hf_f0 _
              refine lv_lload_n (pc := 123) hx hb dX7_learnLine_123 rfl (lv_at hl 2 rfl) ?_
              refine lv_lload (pc := 124) hx hb dX7_learnLine_124 (lv_at hl 1 rfl) ?_
              refine gc_v (pc := 126) (wc := [(a0, .inr (7, [.ref a1, .ref a2, .ref a3, .ref a4, .ref a5, .ref a6, .ref a7, .ref a8, .int x_7, .long y0, .int x3])), (a4, .inl (cJ, 40, .inr (.inl g_17))), (a5, .inl (cJ, 40, .inr (.inl g_18)))]) (wr := [(a1, .inr (10, [.ref a9, .ref a10, .ref a11, .ref a12, .ref a13, .ref a14, .ref a15, .int x4])), (a15, .inl (cI, 5, .inl f0)), (a12, .inl (cI, 5, .inl f1)), (a13, .inl (cI, 5, .inl f2)), (a10, .inl (cJ, 5, .inr (.inl g2))), (a9, .inl (cJ, 25, .inr (.inl g3))), (a11, .inl (cJ, 25, .inr (.inl g4))), (a2, .inl (cJ, 10, .inr (.inl g_11))), (a3, .inl (cI, 10, .inl f_12))]) hP hD hS hA [0, 3, 4] [1, 2, 5, 6, 7, 8, 9, 10, 11] rfl rfl (by decide) (by decide) (by decide) (fun hPc hDc => va_runV (As := [.int x_15, .int x_22, .long y_5, .long y_3]) (rest := []) ⟨hx, hb, hml, hown, hts⟩ (k_X7_note l D cB cC cI cJ _ a0 a1 a2 a3 a4 a5 a6 a7 a8 x_15 x_22 x_7 x3 y_5 y_3 y0 g_17 g_18 (by  (first | omega | (unfold zBd at *; omega))) rx_22 hi_8 h_x3) ⟨gcwB hts tw_927 tw_7 tw_924 hd_yX7_note ⟨Nat.le_of_ble_eq_true rfl, Nat.le_of_ble_eq_true rfl⟩, hts _ tw_926, hts _ tp_35⟩ ⟨gblind, va_recv hK hPc (ci := 7) (q0 := 0) rfl rfl, (gpreS hPc hK hDc hN).2⟩ rfl rfl hl.1 rfl (lv_room (Nat.le_of_ble_eq_true rfl)) dX7_learnLine_126 ⟨Nat.le_of_ble_eq_true rfl, Nat.le_of_ble_eq_true rfl⟩) (fun u_23 H locs hw_25 hP hD hS => ?_)
              replace hP : va_P D gcl [(a1, .inr (10, [.ref a9, .ref a10, .ref a11, .ref a12, .ref a13, .ref a14, .ref a15, .int x4])), (a15, .inl (cI, 5, .inl f0)), (a12, .inl (cI, 5, .inl f1)), (a13, .inl (cI, 5, .inl f2)), (a10, .inl (cJ, 5, .inr (.inl g2))), (a9, .inl (cJ, 25, .inr (.inl g3))), (a11, .inl (cJ, 25, .inr (.inl g4))), (a2, .inl (cJ, 10, .inr (.inl g_11))), (a3, .inl (cI, 10, .inl f_12)), (a0, .inr (7, [.ref a1, .ref a2, .ref a3, .ref a4, .ref a5, .ref a6, .ref a7, .ref a8, .int x_7, .long y0, .int x3])), (a4, .inl (cJ, 40, .inr (.inl (u_23.2.2.1 0)))), (a5, .inl (cJ, 40, .inr (.inl (u_23.2.2.1 1))))] H := hP
              replace hD : va_D A [(a1, .inr (10, [.ref a9, .ref a10, .ref a11, .ref a12, .ref a13, .ref a14, .ref a15, .int x4])), (a15, .inl (cI, 5, .inl f0)), (a12, .inl (cI, 5, .inl f1)), (a13, .inl (cI, 5, .inl f2)), (a10, .inl (cJ, 5, .inr (.inl g2))), (a9, .inl (cJ, 25, .inr (.inl g3))), (a11, .inl (cJ, 25, .inr (.inl g4))), (a2, .inl (cJ, 10, .inr (.inl g_11))), (a3, .inl (cI, 10, .inl f_12)), (a0, .inr (7, [.ref a1, .ref a2, .ref a3, .ref a4, .ref a5, .ref a6, .ref a7, .ref a8, .int x_7, .long y0, .int x3])), (a4, .inl (cJ, 40, .inr (.inl (u_23.2.2.1 0)))), (a5, .inl (cJ, 40, .inr (.inl (u_23.2.2.1 1))))] := hD
              refine b_iinc (pc := 129) hx hb dX7_learnLine_129 hl (k := 0) rfl rfl tI_1 (by (first | omega | (unfold zBd at *; omega))) (by (first | omega | (unfold zBd at *; omega))) (by decide) (fun x_26 ex_26 ls hl => ?_)
              replace hl : lv_has ls 12 [(7, .int x_26), (5, .long y_3), (3, .long y_5), (0, .ref a0), (1, .int x0), (2, .int x1)] := hl
              refine lv_goto (pc := 132) (tgt := 98) hx hb dX7_learnLine_132 (by decide) ?_
              exact ih_lp_19 x_26 (u_23.2.2.1 0) (u_23.2.2.1 1) _ _ ls (by (first | omega | (unfold zBd at *; omega))) (by (first | omega | (unfold zBd at *; omega))) (g_psub hP [9, 0, 1, 10, 11, 2, 3, 4, 5, 6, 7, 8] rfl) (hD.sub [9, 0, 1, 10, 11, 2, 3, 4, 5, 6, 7, 8] (by decide) rfl) hS (lv_sub hl [0, 1, 2, 3, 4, 5] rfl)
        exact lp_19 _ 0 g_9 g_10 _ _ ls (n_c tI_0 (by decide)) (Nat.lt_succ_self _) hP hD hS (lv_sub hl [0, 1, 2, 3, 4, 5] rfl)
      ·
        refine lv_aload_n (pc := 16) hx hb dX7_learnLine_16 rfl (lv_at hl 3 rfl) ?_
        refine va_get (pc := 17) (ci := 7) (v := .ref a1) (C := RX7) (T := TX7) (N := 11) hx hb hts iX7 hown hK hP 0 rfl rfl 0 (by decide) (hts _ tw_242) (fun _ h9 => h9) rfl dX7_learnLine_17 ?_
        refine lv_iload (pc := 20) hx hb dX7_learnLine_20 (lv_at hl 0 rfl) ?_
        refine gc_l (pc := 22) (wc := [(a1, .inr (10, [.ref a9, .ref a10, .ref a11, .ref a12, .ref a13, .ref a14, .ref a15, .int x4])), (a12, .inl (cI, 5, .inl f1)), (a13, .inl (cI, 5, .inl f2)), (a10, .inl (cJ, 5, .inr (.inl g2))), (a9, .inl (cJ, 25, .inr (.inl g3))), (a11, .inl (cJ, 25, .inr (.inl g4)))]) (wr := [(a0, .inr (7, [.ref a1, .ref a2, .ref a3, .ref a4, .ref a5, .ref a6, .ref a7, .ref a8, .int x_7, .long y0, .int x3])), (a15, .inl (cI, 5, .inl f0)), (a4, .inl (cJ, 40, .inr (.inl g_9))), (a5, .inl (cJ, 40, .inr (.inl g_10))), (a2, .inl (cJ, 10, .inr (.inl g_11))), (a3, .inl (cI, 10, .inl f_12))]) hP hD hS hA [1, 5, 6, 7, 8, 9] [0, 2, 3, 4, 10, 11] rfl rfl (by decide) (by decide) (by decide) (fun hPc hDc => va_runV (As := [.int x_1]) (rest := []) ⟨hx, hb, hml, hown, hts⟩ (k_X10_squaresAt_8 l D cB cC cI cJ _ a1 a9 a10 a11 a12 a13 a14 a15 x_1 x4 f1 f2 g2 g3 g4 h_x4) ⟨gcwB hts tw_922 tw_8 tw_919 hd_yX10_squaresAt ⟨Nat.le_of_ble_eq_true rfl, Nat.le_of_ble_eq_true rfl⟩, hts _ tw_920, hts _ tw_921⟩ ⟨gblind, va_recv hK hPc (ci := 10) (q0 := 0) rfl rfl, (gpreS hPc hK hDc hN).2⟩ rfl rfl hl.1 rfl (lv_room (Nat.le_of_ble_eq_true rfl)) dX7_learnLine_22 ⟨Nat.le_of_ble_eq_true rfl, Nat.le_of_ble_eq_true rfl⟩) (fun r_28 u_27 H locs hw_29 hP hD hS => ?_)
        replace hP : va_P D gcl [(a0, .inr (7, [.ref a1, .ref a2, .ref a3, .ref a4, .ref a5, .ref a6, .ref a7, .ref a8, .int x_7, .long y0, .int x3])), (a15, .inl (cI, 5, .inl f0)), (a4, .inl (cJ, 40, .inr (.inl g_9))), (a5, .inl (cJ, 40, .inr (.inl g_10))), (a2, .inl (cJ, 10, .inr (.inl g_11))), (a3, .inl (cI, 10, .inl f_12)), (a1, .inr (10, [.ref a9, .ref a10, .ref a11, .ref a12, .ref a13, .ref a14, .ref a15, .int x4])), (a12, .inl (cI, 5, .inl f1)), (a13, .inl (cI, 5, .inl f2)), (a10, .inl (cJ, 5, .inr (.inl g2))), (a9, .inl (cJ, 25, .inr (.inl g3))), (a11, .inl (cJ, 25, .inr (.inl g4)))] H := hP
        replace hD : va_D A [(a0, .inr (7, [.ref a1, .ref a2, .ref a3, .ref a4, .ref a5, .ref a6, .ref a7, .ref a8, .int x_7, .long y0, .int x3])), (a15, .inl (cI, 5, .inl f0)), (a4, .inl (cJ, 40, .inr (.inl g_9))), (a5, .inl (cJ, 40, .inr (.inl g_10))), (a2, .inl (cJ, 10, .inr (.inl g_11))), (a3, .inl (cI, 10, .inl f_12)), (a1, .inr (10, [.ref a9, .ref a10, .ref a11, .ref a12, .ref a13, .ref a14, .ref a15, .int x4])), (a12, .inl (cI, 5, .inl f1)), (a13, .inl (cI, 5, .inl f2)), (a10, .inl (cJ, 5, .inr (.inl g2))), (a9, .inl (cJ, 25, .inr (.inl g3))), (a11, .inl (cJ, 25, .inr (.inl g4)))] := hD
        have hw_30 : ((((-9223372036854775808) ≤ r_28.toInt ∧ r_28.toInt ≤ 9223372036854775807))) := hw_29
        have rr_28 := n_rngL r_28
        refine lv_lstore (pc := 25) (lv' := [(8, .long r_28), (7, .int x_1), (5, .long y_3), (3, .long y_5), (0, .ref a0), (1, .int x0), (2, .int x1)]) hx hb dX7_learnLine_25 hl (by decide) rfl (fun ls hl => ?_)
        refine lv_lload (pc := 27) hx hb dX7_learnLine_27 (lv_at hl 0 rfl) ?_
        refine lv_lconst (pc := 29) (v := 0) hx hb dX7_learnLine_29 (by decide) ?_
        refine b_lcmp_ge (pc := 30) (tgt := 38) hx hb rfl tL_0 dX7_learnLine_30 dX7_learnLine_31 (by decide) (fun c_31 => ?_) (fun c_31 => ?_)
        ·
          refine lv_ldc2 (pc := 38) hx hb hown (hts _ tw_923) dX7_learnLine_38 ?_
          refine lv_lconst (pc := 41) (v := 1) hx hb dX7_learnLine_41 (by decide) ?_
          refine lv_lload (pc := 42) hx hb dX7_learnLine_42 (lv_at hl 0 rfl) ?_
          refine b_ladd1 (pc := 44) hx hb (by (first | omega | (unfold zBd at *; omega))) dX7_learnLine_44 (fun y_32 ey_32 => ?_)
          have ry_32 := n_rngL y_32
          refine lv_ldiv (pc := 45) hx hb dX7_learnLine_45 (fun h => by have q := congrArg Int64.toInt h; have k := tL_0; (first | omega | (unfold zBd at *; omega))) ?_
          refine lv_topl (fun y_33 _ => ?_)
          have ry_33 := n_rngL y_33
          refine lv_lstore (pc := 46) (lv' := [(10, .long y_33), (8, .long r_28), (7, .int x_1), (5, .long y_3), (3, .long y_5), (0, .ref a0), (1, .int x0), (2, .int x1)]) hx hb dX7_learnLine_46 hl (by decide) rfl (fun ls hl => ?_)
          refine lv_aload_n (pc := 48) hx hb dX7_learnLine_48 rfl (lv_at hl 5 rfl) ?_
          refine lv_aload_n (pc := 49) hx hb dX7_learnLine_49 rfl (lv_at hl 5 rfl) ?_
          refine va_get (pc := 50) (ci := 7) (v := .ref a1) (C := RX7) (T := TX7) (N := 11) hx hb hts iX7 hown hK hP 0 rfl rfl 0 (by decide) (hts _ tw_242) (fun _ h9 => h9) rfl dX7_learnLine_50 ?_
          refine va_getN (pc := 53) (ci := 10) (v := .int x4) (C := RX10) (T := TX10) (N := 8) hx hb hts iX10 hown hK hP 6 rfl rfl 7 (by decide) (va_Nw.use rfl (hN _ tn_222)) (fun _ h9 => h9) rfl dX7_learnLine_53 ?_
          refine lv_iload (pc := 56) hx hb dX7_learnLine_56 (lv_at hl 2 rfl) ?_
          refine lv_lload (pc := 58) hx hb dX7_learnLine_58 (lv_at hl 1 rfl) ?_
          refine lv_lload (pc := 60) hx hb dX7_learnLine_60 (lv_at hl 0 rfl) ?_
          refine gc_v (pc := 62) (wc := [(a0, .inr (7, [.ref a1, .ref a2, .ref a3, .ref a4, .ref a5, .ref a6, .ref a7, .ref a8, .int x_7, .long y0, .int x3])), (a4, .inl (cJ, 40, .inr (.inl g_9))), (a5, .inl (cJ, 40, .inr (.inl g_10)))]) (wr := [(a15, .inl (cI, 5, .inl f0)), (a2, .inl (cJ, 10, .inr (.inl g_11))), (a3, .inl (cI, 10, .inl f_12)), (a1, .inr (10, [.ref a9, .ref a10, .ref a11, .ref a12, .ref a13, .ref a14, .ref a15, .int x4])), (a12, .inl (cI, 5, .inl f1)), (a13, .inl (cI, 5, .inl f2)), (a10, .inl (cJ, 5, .inr (.inl g2))), (a9, .inl (cJ, 25, .inr (.inl g3))), (a11, .inl (cJ, 25, .inr (.inl g4)))]) hP hD hS hA [0, 2, 3] [1, 4, 5, 6, 7, 8, 9, 10, 11] rfl rfl (by decide) (by decide) (by decide) (fun hPc hDc => va_runV (As := [.int x4, .int x_1, .long r_28, .long y_33]) (rest := []) ⟨hx, hb, hml, hown, hts⟩ (k_X7_note l D cB cC cI cJ _ a0 a1 a2 a3 a4 a5 a6 a7 a8 x4 x_1 x_7 x3 r_28 y_33 y0 g_9 g_10 h_x4 (by  (first | omega | (unfold zBd at *; omega))) hi_8 h_x3) ⟨gcwB hts tw_927 tw_7 tw_924 hd_yX7_note ⟨Nat.le_of_ble_eq_true rfl, Nat.le_of_ble_eq_true rfl⟩, hts _ tw_926, hts _ tp_35⟩ ⟨gblind, va_recv hK hPc (ci := 7) (q0 := 0) rfl rfl, (gpreS hPc hK hDc hN).2⟩ rfl rfl hl.1 rfl (lv_room (Nat.le_of_ble_eq_true rfl)) dX7_learnLine_62 ⟨Nat.le_of_ble_eq_true rfl, Nat.le_of_ble_eq_true rfl⟩) (fun u_34 H locs hw_36 hP hD hS => ?_)
          replace hP : va_P D gcl [(a15, .inl (cI, 5, .inl f0)), (a2, .inl (cJ, 10, .inr (.inl g_11))), (a3, .inl (cI, 10, .inl f_12)), (a1, .inr (10, [.ref a9, .ref a10, .ref a11, .ref a12, .ref a13, .ref a14, .ref a15, .int x4])), (a12, .inl (cI, 5, .inl f1)), (a13, .inl (cI, 5, .inl f2)), (a10, .inl (cJ, 5, .inr (.inl g2))), (a9, .inl (cJ, 25, .inr (.inl g3))), (a11, .inl (cJ, 25, .inr (.inl g4))), (a0, .inr (7, [.ref a1, .ref a2, .ref a3, .ref a4, .ref a5, .ref a6, .ref a7, .ref a8, .int x_7, .long y0, .int x3])), (a4, .inl (cJ, 40, .inr (.inl (u_34.2.2.1 0)))), (a5, .inl (cJ, 40, .inr (.inl (u_34.2.2.1 1))))] H := hP
          replace hD : va_D A [(a15, .inl (cI, 5, .inl f0)), (a2, .inl (cJ, 10, .inr (.inl g_11))), (a3, .inl (cI, 10, .inl f_12)), (a1, .inr (10, [.ref a9, .ref a10, .ref a11, .ref a12, .ref a13, .ref a14, .ref a15, .int x4])), (a12, .inl (cI, 5, .inl f1)), (a13, .inl (cI, 5, .inl f2)), (a10, .inl (cJ, 5, .inr (.inl g2))), (a9, .inl (cJ, 25, .inr (.inl g3))), (a11, .inl (cJ, 25, .inr (.inl g4))), (a0, .inr (7, [.ref a1, .ref a2, .ref a3, .ref a4, .ref a5, .ref a6, .ref a7, .ref a8, .int x_7, .long y0, .int x3])), (a4, .inl (cJ, 40, .inr (.inl (u_34.2.2.1 0)))), (a5, .inl (cJ, 40, .inr (.inl (u_34.2.2.1 1))))] := hD
          refine lv_aload_n (pc := 65) hx hb dX7_learnLine_65 rfl (lv_at hl 5 rfl) ?_
          refine lv_iload_n (pc := 66) hx hb dX7_learnLine_66 rfl (lv_at hl 6 rfl) ?_
          refine lv_iload (pc := 67) hx hb dX7_learnLine_67 (lv_at hl 2 rfl) ?_
          refine lv_iadd (pc := 69) hx hb dX7_learnLine_69 ?_
          refine lv_topi (fun x_37 _ => ?_)
          have rx_37 : zBd x_37.toInt (-2147483648) 2147483647 := n_rng x_37
          refine lv_lload (pc := 70) hx hb dX7_learnLine_70 (lv_at hl 1 rfl) ?_
          refine gc_v (pc := 72) (wc := [(a0, .inr (7, [.ref a1, .ref a2, .ref a3, .ref a4, .ref a5, .ref a6, .ref a7, .ref a8, .int x_7, .long y0, .int x3])), (a2, .inl (cJ, 10, .inr (.inl g_11))), (a3, .inl (cI, 10, .inl f_12))]) (wr := [(a15, .inl (cI, 5, .inl f0)), (a1, .inr (10, [.ref a9, .ref a10, .ref a11, .ref a12, .ref a13, .ref a14, .ref a15, .int x4])), (a12, .inl (cI, 5, .inl f1)), (a13, .inl (cI, 5, .inl f2)), (a10, .inl (cJ, 5, .inr (.inl g2))), (a9, .inl (cJ, 25, .inr (.inl g3))), (a11, .inl (cJ, 25, .inr (.inl g4))), (a4, .inl (cJ, 40, .inr (.inl (u_34.2.2.1 0)))), (a5, .inl (cJ, 40, .inr (.inl (u_34.2.2.1 1))))]) hP hD hS hA [9, 1, 2] [0, 3, 4, 5, 6, 7, 8, 10, 11] rfl rfl (by decide) (by decide) (by decide) (fun hPc hDc => va_runV (As := [.int x_37, .long r_28]) (rest := []) ⟨hx, hb, hml, hown, hts⟩ (k_X7_admit l D cB cC cI cJ _ a0 a1 a2 a3 a4 a5 a6 a7 a8 x_37 x_7 x3 r_28 y0 f_12 g_11 hi_8 h_x3) ⟨gcwB hts tw_932 tw_7 tw_929 hd_yX7_admit ⟨Nat.le_of_ble_eq_true rfl, Nat.le_of_ble_eq_true rfl⟩, hts _ tw_931, hts _ tp_36⟩ ⟨gblind, va_recv hK hPc (ci := 7) (q0 := 0) rfl rfl, (gpreS hPc hK hDc hN).2⟩ rfl rfl hl.1 rfl (lv_room (Nat.le_of_ble_eq_true rfl)) dX7_learnLine_72 ⟨Nat.le_of_ble_eq_true rfl, Nat.le_of_ble_eq_true rfl⟩) (fun u_38 H locs hw_40 hP hD hS => ?_)
          replace hP : va_P D gcl [(a15, .inl (cI, 5, .inl f0)), (a1, .inr (10, [.ref a9, .ref a10, .ref a11, .ref a12, .ref a13, .ref a14, .ref a15, .int x4])), (a12, .inl (cI, 5, .inl f1)), (a13, .inl (cI, 5, .inl f2)), (a10, .inl (cJ, 5, .inr (.inl g2))), (a9, .inl (cJ, 25, .inr (.inl g3))), (a11, .inl (cJ, 25, .inr (.inl g4))), (a4, .inl (cJ, 40, .inr (.inl (u_34.2.2.1 0)))), (a5, .inl (cJ, 40, .inr (.inl (u_34.2.2.1 1)))), (a0, .inr (7, [.ref a1, .ref a2, .ref a3, .ref a4, .ref a5, .ref a6, .ref a7, .ref a8, .int (u_38.2.2.2.1 0), .long y0, .int x3])), (a2, .inl (cJ, 10, .inr (.inl (u_38.2.2.1 0)))), (a3, .inl (cI, 10, .inl (u_38.2.1 0)))] H := hP
          replace hD : va_D A [(a15, .inl (cI, 5, .inl f0)), (a1, .inr (10, [.ref a9, .ref a10, .ref a11, .ref a12, .ref a13, .ref a14, .ref a15, .int x4])), (a12, .inl (cI, 5, .inl f1)), (a13, .inl (cI, 5, .inl f2)), (a10, .inl (cJ, 5, .inr (.inl g2))), (a9, .inl (cJ, 25, .inr (.inl g3))), (a11, .inl (cJ, 25, .inr (.inl g4))), (a4, .inl (cJ, 40, .inr (.inl (u_34.2.2.1 0)))), (a5, .inl (cJ, 40, .inr (.inl (u_34.2.2.1 1)))), (a0, .inr (7, [.ref a1, .ref a2, .ref a3, .ref a4, .ref a5, .ref a6, .ref a7, .ref a8, .int (u_38.2.2.2.1 0), .long y0, .int x3])), (a2, .inl (cJ, 10, .inr (.inl (u_38.2.2.1 0)))), (a3, .inl (cI, 10, .inl (u_38.2.1 0)))] := hD
          have hw_41 : (0 ≤ (u_38.2.2.2.1 0).toInt ∧ (u_38.2.2.2.1 0).toInt ≤ 10) := hw_40
          refine lv_lload_n (pc := 75) hx hb dX7_learnLine_75 rfl (lv_at hl 4 rfl) ?_
          refine lv_lload (pc := 76) hx hb dX7_learnLine_76 (lv_at hl 1 rfl) ?_
          refine va_mmin_long (pc := 78) hx hb (hml.trans hl.1.symm) hown (hts _ tw_928) (hts _ tw_857) (hts _ tw_19) (hts _ tw_858) (Nat.le_of_ble_eq_true rfl) (Nat.le_of_ble_eq_true rfl) (Nat.le_of_ble_eq_true rfl) (Nat.le_of_ble_eq_true rfl) dX7_learnLine_78 ?_
          refine lv_topl (fun y_42 ey_42 => ?_)
          have ey_42 := n_minL rfl rfl ey_42
          have ry_42 := n_rngL y_42
          refine lv_lstore_n (pc := 81) (lv' := [(3, .long y_42), (10, .long y_33), (8, .long r_28), (7, .int x_1), (5, .long y_3), (0, .ref a0), (1, .int x0), (2, .int x1)]) hx hb dX7_learnLine_81 rfl hl (by decide) rfl (fun ls hl => ?_)
          refine lv_lload (pc := 82) hx hb dX7_learnLine_82 (lv_at hl 4 rfl) ?_
          refine lv_lload (pc := 84) hx hb dX7_learnLine_84 (lv_at hl 1 rfl) ?_
          refine lv_ladd (pc := 86) hx hb dX7_learnLine_86 ?_
          refine lv_topl (fun y_43 _ => ?_)
          have ry_43 := n_rngL y_43
          refine lv_lstore (pc := 87) (lv' := [(5, .long y_43), (3, .long y_42), (10, .long y_33), (8, .long r_28), (7, .int x_1), (0, .ref a0), (1, .int x0), (2, .int x1)]) hx hb dX7_learnLine_87 hl (by decide) rfl (fun ls hl => ?_)
          refine b_iinc (pc := 89) hx hb dX7_learnLine_89 hl (k := 4) rfl rfl tI_1 (by (first | omega | (unfold zBd at *; omega))) (by (first | omega | (unfold zBd at *; omega))) (by decide) (fun x_44 ex_44 ls hl => ?_)
          replace hl : lv_has ls 12 [(7, .int x_44), (5, .long y_43), (3, .long y_42), (10, .long y_33), (8, .long r_28), (0, .ref a0), (1, .int x0), (2, .int x1)] := hl
          refine lv_goto (pc := 92) (tgt := 10) hx hb dX7_learnLine_92 (by decide) ?_
          exact ih_lp_13 x_44 (u_38.2.2.2.1 0) y_43 y_42 (u_38.2.1 0) (u_34.2.2.1 0) (u_34.2.2.1 1) (u_38.2.2.1 0) _ _ ls (by (first | omega | (unfold zBd at *; omega))) hw_41 (by (first | omega | (unfold zBd at *; omega))) (g_psub hP [9, 1, 0, 7, 8, 2, 3, 4, 5, 6, 10, 11] rfl) (hD.sub [9, 1, 0, 7, 8, 2, 3, 4, 5, 6, 10, 11] (by decide) rfl) hS (lv_sub hl [0, 1, 2, 5, 6, 7] rfl)
        ·
          refine lv_lconst (pc := 34) (v := 0) hx hb dX7_learnLine_34 (by decide) ?_
          refine lv_goto (pc := 35) (tgt := 46) hx hb dX7_learnLine_35 (by decide) ?_
          refine lv_lstore (pc := 46) (lv' := [(10, .long 0), (8, .long r_28), (7, .int x_1), (5, .long y_3), (3, .long y_5), (0, .ref a0), (1, .int x0), (2, .int x1)]) hx hb dX7_learnLine_46 hl (by decide) rfl (fun ls hl => ?_)
          refine lv_aload_n (pc := 48) hx hb dX7_learnLine_48 rfl (lv_at hl 5 rfl) ?_
          refine lv_aload_n (pc := 49) hx hb dX7_learnLine_49 rfl (lv_at hl 5 rfl) ?_
          refine va_get (pc := 50) (ci := 7) (v := .ref a1) (C := RX7) (T := TX7) (N := 11) hx hb hts iX7 hown hK hP 0 rfl rfl 0 (by decide) (hts _ tw_242) (fun _ h9 => h9) rfl dX7_learnLine_50 ?_
          refine va_getN (pc := 53) (ci := 10) (v := .int x4) (C := RX10) (T := TX10) (N := 8) hx hb hts iX10 hown hK hP 6 rfl rfl 7 (by decide) (va_Nw.use rfl (hN _ tn_222)) (fun _ h9 => h9) rfl dX7_learnLine_53 ?_
          refine lv_iload (pc := 56) hx hb dX7_learnLine_56 (lv_at hl 2 rfl) ?_
          refine lv_lload (pc := 58) hx hb dX7_learnLine_58 (lv_at hl 1 rfl) ?_
          refine lv_lload (pc := 60) hx hb dX7_learnLine_60 (lv_at hl 0 rfl) ?_
          refine gc_v (pc := 62) (wc := [(a0, .inr (7, [.ref a1, .ref a2, .ref a3, .ref a4, .ref a5, .ref a6, .ref a7, .ref a8, .int x_7, .long y0, .int x3])), (a4, .inl (cJ, 40, .inr (.inl g_9))), (a5, .inl (cJ, 40, .inr (.inl g_10)))]) (wr := [(a15, .inl (cI, 5, .inl f0)), (a2, .inl (cJ, 10, .inr (.inl g_11))), (a3, .inl (cI, 10, .inl f_12)), (a1, .inr (10, [.ref a9, .ref a10, .ref a11, .ref a12, .ref a13, .ref a14, .ref a15, .int x4])), (a12, .inl (cI, 5, .inl f1)), (a13, .inl (cI, 5, .inl f2)), (a10, .inl (cJ, 5, .inr (.inl g2))), (a9, .inl (cJ, 25, .inr (.inl g3))), (a11, .inl (cJ, 25, .inr (.inl g4)))]) hP hD hS hA [0, 2, 3] [1, 4, 5, 6, 7, 8, 9, 10, 11] rfl rfl (by decide) (by decide) (by decide) (fun hPc hDc => va_runV (As := [.int x4, .int x_1, .long r_28, .long 0]) (rest := []) ⟨hx, hb, hml, hown, hts⟩ (k_X7_note l D cB cC cI cJ _ a0 a1 a2 a3 a4 a5 a6 a7 a8 x4 x_1 x_7 x3 r_28 0 y0 g_9 g_10 h_x4 (by have k0 := tL_0; (first | omega | (unfold zBd at *; omega))) hi_8 h_x3) ⟨gcwB hts tw_927 tw_7 tw_924 hd_yX7_note ⟨Nat.le_of_ble_eq_true rfl, Nat.le_of_ble_eq_true rfl⟩, hts _ tw_926, hts _ tp_35⟩ ⟨gblind, va_recv hK hPc (ci := 7) (q0 := 0) rfl rfl, (gpreS hPc hK hDc hN).2⟩ rfl rfl hl.1 rfl (lv_room (Nat.le_of_ble_eq_true rfl)) dX7_learnLine_62 ⟨Nat.le_of_ble_eq_true rfl, Nat.le_of_ble_eq_true rfl⟩) (fun u_45 H locs hw_47 hP hD hS => ?_)
          replace hP : va_P D gcl [(a15, .inl (cI, 5, .inl f0)), (a2, .inl (cJ, 10, .inr (.inl g_11))), (a3, .inl (cI, 10, .inl f_12)), (a1, .inr (10, [.ref a9, .ref a10, .ref a11, .ref a12, .ref a13, .ref a14, .ref a15, .int x4])), (a12, .inl (cI, 5, .inl f1)), (a13, .inl (cI, 5, .inl f2)), (a10, .inl (cJ, 5, .inr (.inl g2))), (a9, .inl (cJ, 25, .inr (.inl g3))), (a11, .inl (cJ, 25, .inr (.inl g4))), (a0, .inr (7, [.ref a1, .ref a2, .ref a3, .ref a4, .ref a5, .ref a6, .ref a7, .ref a8, .int x_7, .long y0, .int x3])), (a4, .inl (cJ, 40, .inr (.inl (u_45.2.2.1 0)))), (a5, .inl (cJ, 40, .inr (.inl (u_45.2.2.1 1))))] H := hP
          replace hD : va_D A [(a15, .inl (cI, 5, .inl f0)), (a2, .inl (cJ, 10, .inr (.inl g_11))), (a3, .inl (cI, 10, .inl f_12)), (a1, .inr (10, [.ref a9, .ref a10, .ref a11, .ref a12, .ref a13, .ref a14, .ref a15, .int x4])), (a12, .inl (cI, 5, .inl f1)), (a13, .inl (cI, 5, .inl f2)), (a10, .inl (cJ, 5, .inr (.inl g2))), (a9, .inl (cJ, 25, .inr (.inl g3))), (a11, .inl (cJ, 25, .inr (.inl g4))), (a0, .inr (7, [.ref a1, .ref a2, .ref a3, .ref a4, .ref a5, .ref a6, .ref a7, .ref a8, .int x_7, .long y0, .int x3])), (a4, .inl (cJ, 40, .inr (.inl (u_45.2.2.1 0)))), (a5, .inl (cJ, 40, .inr (.inl (u_45.2.2.1 1))))] := hD
          refine lv_aload_n (pc := 65) hx hb dX7_learnLine_65 rfl (lv_at hl 5 rfl) ?_
          refine lv_iload_n (pc := 66) hx hb dX7_learnLine_66 rfl (lv_at hl 6 rfl) ?_
          refine lv_iload (pc := 67) hx hb dX7_learnLine_67 (lv_at hl 2 rfl) ?_
          refine lv_iadd (pc := 69) hx hb dX7_learnLine_69 ?_
          refine lv_topi (fun x_48 _ => ?_)
          have rx_48 : zBd x_48.toInt (-2147483648) 2147483647 := n_rng x_48
          refine lv_lload (pc := 70) hx hb dX7_learnLine_70 (lv_at hl 1 rfl) ?_
          refine gc_v (pc := 72) (wc := [(a0, .inr (7, [.ref a1, .ref a2, .ref a3, .ref a4, .ref a5, .ref a6, .ref a7, .ref a8, .int x_7, .long y0, .int x3])), (a2, .inl (cJ, 10, .inr (.inl g_11))), (a3, .inl (cI, 10, .inl f_12))]) (wr := [(a15, .inl (cI, 5, .inl f0)), (a1, .inr (10, [.ref a9, .ref a10, .ref a11, .ref a12, .ref a13, .ref a14, .ref a15, .int x4])), (a12, .inl (cI, 5, .inl f1)), (a13, .inl (cI, 5, .inl f2)), (a10, .inl (cJ, 5, .inr (.inl g2))), (a9, .inl (cJ, 25, .inr (.inl g3))), (a11, .inl (cJ, 25, .inr (.inl g4))), (a4, .inl (cJ, 40, .inr (.inl (u_45.2.2.1 0)))), (a5, .inl (cJ, 40, .inr (.inl (u_45.2.2.1 1))))]) hP hD hS hA [9, 1, 2] [0, 3, 4, 5, 6, 7, 8, 10, 11] rfl rfl (by decide) (by decide) (by decide) (fun hPc hDc => va_runV (As := [.int x_48, .long r_28]) (rest := []) ⟨hx, hb, hml, hown, hts⟩ (k_X7_admit l D cB cC cI cJ _ a0 a1 a2 a3 a4 a5 a6 a7 a8 x_48 x_7 x3 r_28 y0 f_12 g_11 hi_8 h_x3) ⟨gcwB hts tw_932 tw_7 tw_929 hd_yX7_admit ⟨Nat.le_of_ble_eq_true rfl, Nat.le_of_ble_eq_true rfl⟩, hts _ tw_931, hts _ tp_36⟩ ⟨gblind, va_recv hK hPc (ci := 7) (q0 := 0) rfl rfl, (gpreS hPc hK hDc hN).2⟩ rfl rfl hl.1 rfl (lv_room (Nat.le_of_ble_eq_true rfl)) dX7_learnLine_72 ⟨Nat.le_of_ble_eq_true rfl, Nat.le_of_ble_eq_true rfl⟩) (fun u_49 H locs hw_51 hP hD hS => ?_)
          replace hP : va_P D gcl [(a15, .inl (cI, 5, .inl f0)), (a1, .inr (10, [.ref a9, .ref a10, .ref a11, .ref a12, .ref a13, .ref a14, .ref a15, .int x4])), (a12, .inl (cI, 5, .inl f1)), (a13, .inl (cI, 5, .inl f2)), (a10, .inl (cJ, 5, .inr (.inl g2))), (a9, .inl (cJ, 25, .inr (.inl g3))), (a11, .inl (cJ, 25, .inr (.inl g4))), (a4, .inl (cJ, 40, .inr (.inl (u_45.2.2.1 0)))), (a5, .inl (cJ, 40, .inr (.inl (u_45.2.2.1 1)))), (a0, .inr (7, [.ref a1, .ref a2, .ref a3, .ref a4, .ref a5, .ref a6, .ref a7, .ref a8, .int (u_49.2.2.2.1 0), .long y0, .int x3])), (a2, .inl (cJ, 10, .inr (.inl (u_49.2.2.1 0)))), (a3, .inl (cI, 10, .inl (u_49.2.1 0)))] H := hP
          replace hD : va_D A [(a15, .inl (cI, 5, .inl f0)), (a1, .inr (10, [.ref a9, .ref a10, .ref a11, .ref a12, .ref a13, .ref a14, .ref a15, .int x4])), (a12, .inl (cI, 5, .inl f1)), (a13, .inl (cI, 5, .inl f2)), (a10, .inl (cJ, 5, .inr (.inl g2))), (a9, .inl (cJ, 25, .inr (.inl g3))), (a11, .inl (cJ, 25, .inr (.inl g4))), (a4, .inl (cJ, 40, .inr (.inl (u_45.2.2.1 0)))), (a5, .inl (cJ, 40, .inr (.inl (u_45.2.2.1 1)))), (a0, .inr (7, [.ref a1, .ref a2, .ref a3, .ref a4, .ref a5, .ref a6, .ref a7, .ref a8, .int (u_49.2.2.2.1 0), .long y0, .int x3])), (a2, .inl (cJ, 10, .inr (.inl (u_49.2.2.1 0)))), (a3, .inl (cI, 10, .inl (u_49.2.1 0)))] := hD
          have hw_52 : (0 ≤ (u_49.2.2.2.1 0).toInt ∧ (u_49.2.2.2.1 0).toInt ≤ 10) := hw_51
          refine lv_lload_n (pc := 75) hx hb dX7_learnLine_75 rfl (lv_at hl 4 rfl) ?_
          refine lv_lload (pc := 76) hx hb dX7_learnLine_76 (lv_at hl 1 rfl) ?_
          refine va_mmin_long (pc := 78) hx hb (hml.trans hl.1.symm) hown (hts _ tw_928) (hts _ tw_857) (hts _ tw_19) (hts _ tw_858) (Nat.le_of_ble_eq_true rfl) (Nat.le_of_ble_eq_true rfl) (Nat.le_of_ble_eq_true rfl) (Nat.le_of_ble_eq_true rfl) dX7_learnLine_78 ?_
          refine lv_topl (fun y_53 ey_53 => ?_)
          have ey_53 := n_minL rfl rfl ey_53
          have ry_53 := n_rngL y_53
          refine lv_lstore_n (pc := 81) (lv' := [(3, .long y_53), (10, .long 0), (8, .long r_28), (7, .int x_1), (5, .long y_3), (0, .ref a0), (1, .int x0), (2, .int x1)]) hx hb dX7_learnLine_81 rfl hl (by decide) rfl (fun ls hl => ?_)
          refine lv_lload (pc := 82) hx hb dX7_learnLine_82 (lv_at hl 4 rfl) ?_
          refine lv_lload (pc := 84) hx hb dX7_learnLine_84 (lv_at hl 1 rfl) ?_
          refine b_ladd (pc := 86) hx hb rfl tL_0 (by (first | omega | (unfold zBd at *; omega))) (by (first | omega | (unfold zBd at *; omega))) dX7_learnLine_86 (fun y_54 ey_54 => ?_)
          refine lv_lstore (pc := 87) (lv' := [(5, .long y_54), (3, .long y_53), (10, .long 0), (8, .long r_28), (7, .int x_1), (0, .ref a0), (1, .int x0), (2, .int x1)]) hx hb dX7_learnLine_87 hl (by decide) rfl (fun ls hl => ?_)
          refine b_iinc (pc := 89) hx hb dX7_learnLine_89 hl (k := 4) rfl rfl tI_1 (by (first | omega | (unfold zBd at *; omega))) (by (first | omega | (unfold zBd at *; omega))) (by decide) (fun x_55 ex_55 ls hl => ?_)
          replace hl : lv_has ls 12 [(7, .int x_55), (5, .long y_54), (3, .long y_53), (10, .long 0), (8, .long r_28), (0, .ref a0), (1, .int x0), (2, .int x1)] := hl
          refine lv_goto (pc := 92) (tgt := 10) hx hb dX7_learnLine_92 (by decide) ?_
          exact ih_lp_13 x_55 (u_49.2.2.2.1 0) y_54 y_53 (u_49.2.1 0) (u_45.2.2.1 0) (u_45.2.2.1 1) (u_49.2.2.1 0) _ _ ls (by (first | omega | (unfold zBd at *; omega))) hw_52 (by (first | omega | (unfold zBd at *; omega))) (g_psub hP [9, 1, 0, 7, 8, 2, 3, 4, 5, 6, 10, 11] rfl) (hD.sub [9, 1, 0, 7, 8, 2, 3, 4, 5, 6, 10, 11] (by decide) rfl) hS (lv_sub hl [0, 1, 2, 5, 6, 7] rfl)
  exact lp_13 _ 0 x2 0 1000000000000000 f3 g0 g1 g5 _ _ ls (n_c tI_0 (by decide)) h_x2 (Nat.lt_succ_self _) hP hD hS (lv_sub hl [0, 1, 2, 3, 4, 5] rfl)
