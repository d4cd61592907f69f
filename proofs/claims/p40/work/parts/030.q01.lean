set_option maxHeartbeats 4000000 in
set_option maxRecDepth 100000 in
theorem k_X10_squaresAt_e (l : Launch) (D : va_G) (cB cC cI cJ : ClassId) (sz : Nat) (a0 a1 a2 a3 a4 a5 a6 a7 : Nat) (x0 x1 : Int32) (f0 f1 f2 : Nat → Int32) (g0 g1 g2 : Nat → Int64) (h_x1 : (0 ≤ x1.toInt ∧ x1.toInt ≤ 4)) (hf_f2 : (∀ j, 0 ≤ (f2 j).toInt ∧ (f2 j).toInt ≤ 23)) : Met l yX10_squaresAt (.code yX10_squaresAt cX10_squaresAt 5 (some .long) :: lw_gd) ({ frames := 0, cells := 0, slots := 0, locals := 0 }) (gPre D [(cB, .byte), (cC, .char), (cI, .int), (cJ, .long)] [.ref a0, .int x0] [(a0, .inr (10, [.ref a1, .ref a2, .ref a3, .ref a4, .ref a5, .ref a6, .ref a7, .int x1])), (a1, .inl (cJ, 25, .inr (.inl g0))), (a2, .inl (cJ, 5, .inr (.inl g1))), (a3, .inl (cJ, 25, .inr (.inl g2))), (a4, .inl (cI, 5, .inl f0)), (a5, .inl (cI, 5, .inl f1)), (a7, .inl (cI, 5, .inl f2))] sz) (va_Ql (fun r u => (∀ T : Nat → Int32, prW g0 T x1.toInt → seW T (xW f0 f1 f2) g1 g2 x1.toInt x1.toInt → r = I6 (qdK (bsK T (xW f0 f1 f2) (x1.toInt).toNat 6) (dtn T x1.toInt x1.toInt 6) (crK T (xW f0 f1 f2) (x1.toInt).toNat x1.toInt 6) (f0 (x1.toInt).toNat + f1 (x1.toInt).toNat * x0).toInt))) (gB D (va_A [(a0, .inr (10, [.ref a1, .ref a2, .ref a3, .ref a4, .ref a5, .ref a6, .ref a7, .int x1])), (a1, .inl (cJ, 25, .inr (.inl g0))), (a2, .inl (cJ, 5, .inr (.inl g1))), (a3, .inl (cJ, 25, .inr (.inl g2))), (a4, .inl (cI, 5, .inl f0)), (a5, .inl (cI, 5, .inl f1)), (a7, .inl (cI, 5, .inl f2))] sz) (fun u : gEx => [(a0, .inr (10, [.ref a1, .ref a2, .ref a3, .ref a4, .ref a5, .ref a6, .ref a7, .int x1])), (a1, .inl (cJ, 25, .inr (.inl g0))), (a2, .inl (cJ, 5, .inr (.inl g1))), (a3, .inl (cJ, 25, .inr (.inl g2))), (a4, .inl (cI, 5, .inl f0)), (a5, .inl (cI, 5, .inl f1)), (a7, .inl (cI, 5, .inl f2))])) (va_A [(a0, .inr (10, [.ref a1, .ref a2, .ref a3, .ref a4, .ref a5, .ref a6, .ref a7, .int x1])), (a1, .inl (cJ, 25, .inr (.inl g0))), (a2, .inl (cJ, 5, .inr (.inl g1))), (a3, .inl (cJ, 25, .inr (.inl g2))), (a4, .inl (cI, 5, .inl f0)), (a5, .inl (cI, 5, .inl f1)), (a7, .inl (cI, 5, .inl f2))] sz)) 0 0 (va_A [(a0, .inr (10, [.ref a1, .ref a2, .ref a3, .ref a4, .ref a5, .ref a6, .ref a7, .int x1])), (a1, .inl (cJ, 25, .inr (.inl g0))), (a2, .inl (cJ, 5, .inr (.inl g1))), (a3, .inl (cJ, 25, .inr (.inl g2))), (a4, .inl (cI, 5, .inl f0)), (a5, .inl (cI, 5, .inl f1)), (a7, .inl (cI, 5, .inl f2))] sz) := by
  refine gOf_l (by decide +kernel) (Nat.le_of_ble_eq_true rfl) ?_
  intro p e s m args below meth c ls A Q hx hb hts hown hml hN hK hP hD hA hl hret
  replace hown : s.vm.findClass RX10 = some m.cls := hown
  have hS : va_S A s.heap s.heap [] := va_S.rf
  replace hP : va_P D gcl [(a0, .inr (10, [.ref a1, .ref a2, .ref a3, .ref a4, .ref a5, .ref a6, .ref a7, .int x1])), (a1, .inl (cJ, 25, .inr (.inl g0))), (a2, .inl (cJ, 5, .inr (.inl g1))), (a3, .inl (cJ, 25, .inr (.inl g2))), (a4, .inl (cI, 5, .inl f0)), (a5, .inl (cI, 5, .inl f1)), (a7, .inl (cI, 5, .inl f2))] s.heap := hP
  replace hl : lv_has ls 5 [(0, .ref a0), (1, .int x0)] := hl
  have rx0 := n_rng x0
  refine lv_aload_n (pc := 0) hx hb dX10_squaresAt_0 rfl (lv_at hl 0 rfl) ?_
  refine va_get (pc := 1) (ci := 10) (v := .int x1) (C := RX10) (T := TX10) (N := 8) hx hb hts iX10 hown hK hP 0 rfl rfl 7 (by decide) (hts _ tw_220) (fun _ h9 => h9) rfl dX10_squaresAt_1 ?_
  refine lv_iconst (pc := 4) (v := 5) hx hb dX10_squaresAt_4 (by decide) ?_
  refine b_imul (pc := 5) hx hb rfl tI_5 (by first | exact (om_0 h_x1.1) | (omega)) (by first | exact (om_1 h_x1.2) | (omega)) dX10_squaresAt_5 (fun x_1 ex_1 => ?_)
  refine lv_aload_n (pc := 6) hx hb dX10_squaresAt_6 rfl (lv_at hl 0 rfl) ?_
  refine va_get (pc := 7) (ci := 10) (v := .int x1) (C := RX10) (T := TX10) (N := 8) hx hb hts iX10 hown hK hP 0 rfl rfl 7 (by decide) (hts _ tw_220) (fun _ h9 => h9) rfl dX10_squaresAt_7 ?_
  refine b_iadd (pc := 10) hx hb rfl rfl (by first | exact (om_6 ex_1 h_x1.1) | (omega)) (by first | exact (om_7 ex_1 h_x1.2) | (omega)) dX10_squaresAt_10 (fun x_2 ex_2 => ?_)
  refine lv_istore_n (pc := 11) (lv' := [(2, .int x_2), (0, .ref a0), (1, .int x0)]) hx hb dX10_squaresAt_11 rfl hl (by decide) rfl (fun ls hl => ?_)
  refine lv_aload_n (pc := 12) hx hb dX10_squaresAt_12 rfl (lv_at hl 1 rfl) ?_
  refine va_get (pc := 13) (ci := 10) (v := .ref a4) (C := RX10) (T := TX10) (N := 8) hx hb hts iX10 hown hK hP 0 rfl rfl 3 (by decide) (hts _ tw_211) (fun _ h9 => h9) rfl dX10_squaresAt_13 ?_
  refine lv_aload_n (pc := 16) hx hb dX10_squaresAt_16 rfl (lv_at hl 1 rfl) ?_
  refine va_get (pc := 17) (ci := 10) (v := .int x1) (C := RX10) (T := TX10) (N := 8) hx hb hts iX10 hown hK hP 0 rfl rfl 7 (by decide) (hts _ tw_220) (fun _ h9 => h9) rfl dX10_squaresAt_17 ?_
  refine va_iald (pc := 20) hx hb hK hP 4 2 rfl rfl (n_in rfl (by first | exact (om_2 h_x1.1) | (omega)) (by first | exact (om_3 h_x1.2) | (omega))) dX10_squaresAt_20 ?_
  refine lv_topi (fun x_3 ex_3 => ?_)
  have rx_3 := n_rng x_3
  replace ex_3 : x_3 = f0 (x1.toInt).toNat := ex_3
  have tx_3 := congrArg Int32.toInt ex_3
  refine lv_aload_n (pc := 21) hx hb dX10_squaresAt_21 rfl (lv_at hl 1 rfl) ?_
  refine va_get (pc := 22) (ci := 10) (v := .ref a5) (C := RX10) (T := TX10) (N := 8) hx hb hts iX10 hown hK hP 0 rfl rfl 4 (by decide) (hts _ tw_213) (fun _ h9 => h9) rfl dX10_squaresAt_22 ?_
  refine lv_aload_n (pc := 25) hx hb dX10_squaresAt_25 rfl (lv_at hl 1 rfl) ?_
  refine va_get (pc := 26) (ci := 10) (v := .int x1) (C := RX10) (T := TX10) (N := 8) hx hb hts iX10 hown hK hP 0 rfl rfl 7 (by decide) (hts _ tw_220) (fun _ h9 => h9) rfl dX10_squaresAt_26 ?_
  refine va_iald (pc := 29) hx hb hK hP 5 2 rfl rfl (n_in rfl (by first | exact (om_2 h_x1.1) | (omega)) (by first | exact (om_3 h_x1.2) | (omega))) dX10_squaresAt_29 ?_
  refine lv_topi (fun x_4 ex_4 => ?_)
  have rx_4 := n_rng x_4
  replace ex_4 : x_4 = f1 (x1.toInt).toNat := ex_4
  have tx_4 := congrArg Int32.toInt ex_4
  refine lv_iload_n (pc := 30) hx hb dX10_squaresAt_30 rfl (lv_at hl 2 rfl) ?_
  refine lv_imul (pc := 31) hx hb dX10_squaresAt_31 ?_
  refine lv_topi (fun x_5 ex_5 => ?_)
  have rx_5 := n_rng x_5
  refine lv_iadd (pc := 32) hx hb dX10_squaresAt_32 ?_
  refine lv_topi (fun x_6 ex_6 => ?_)
  have rx_6 := n_rng x_6
  refine b_i2l (pc := 33) hx hb rfl dX10_squaresAt_33 (fun y_7 ey_7 => ?_)
  have ry_7 := n_rng x_6
  refine lv_lstore_n (pc := 34) (lv' := [(3, .long y_7), (2, .int x_2), (0, .ref a0), (1, .int x0)]) hx hb dX10_squaresAt_34 rfl hl (by decide) rfl (fun ls hl => ?_)
  have hh_8 : y_7 = I6 (f0 (x1.toInt).toNat + f1 (x1.toInt).toNat * x0).toInt := xW_v ex_3 ex_4 ex_5 ex_6 ey_7
  refine lv_aload_n (pc := 35) hx hb dX10_squaresAt_35 rfl (lv_at hl 2 rfl) ?_
  refine va_get (pc := 36) (ci := 10) (v := .ref a2) (C := RX10) (T := TX10) (N := 8) hx hb hts iX10 hown hK hP 0 rfl rfl 1 (by decide) (hts _ tw_209) (fun _ h9 => h9) rfl dX10_squaresAt_36 ?_
  refine lv_aload_n (pc := 39) hx hb dX10_squaresAt_39 rfl (lv_at hl 2 rfl) ?_
  refine va_get (pc := 40) (ci := 10) (v := .int x1) (C := RX10) (T := TX10) (N := 8) hx hb hts iX10 hown hK hP 0 rfl rfl 7 (by decide) (hts _ tw_220) (fun _ h9 => h9) rfl dX10_squaresAt_40 ?_
  refine va_lald (pc := 43) hx hb hK hP 2 3 rfl rfl (n_in rfl (by first | exact (om_2 h_x1.1) | (omega)) (by first | exact (om_3 h_x1.2) | (omega))) dX10_squaresAt_43 ?_
  refine lv_topl (fun y_9 ey_9 => ?_)
  have ry_9 := n_rngL y_9
  replace ey_9 : y_9 = g1 (x1.toInt).toNat := ey_9
  have ty_9 := congrArg Int64.toInt ey_9
  refine lv_lload_n (pc := 44) hx hb dX10_squaresAt_44 rfl (lv_at hl 0 rfl) ?_
  refine lv_lload_n (pc := 45) hx hb dX10_squaresAt_45 rfl (lv_at hl 0 rfl) ?_
  refine lv_aload_n (pc := 46) hx hb dX10_squaresAt_46 rfl (lv_at hl 2 rfl) ?_
  refine va_get (pc := 47) (ci := 10) (v := .ref a1) (C := RX10) (T := TX10) (N := 8) hx hb hts iX10 hown hK hP 0 rfl rfl 0 (by decide) (hts _ tw_207) (fun _ h9 => h9) rfl dX10_squaresAt_47 ?_
  refine lv_iload_n (pc := 50) hx hb dX10_squaresAt_50 rfl (lv_at hl 1 rfl) ?_
  refine va_lald (pc := 51) hx hb hK hP 1 3 rfl rfl (n_in rfl (by first | exact (om_8 ex_2 ex_1 h_x1.1) | (omega)) (by first | exact (om_9 ex_2 ex_1 h_x1.2) | (omega))) dX10_squaresAt_51 ?_
  refine lv_topl (fun y_10 ey_10 => ?_)
  have ry_10 := n_rngL y_10
  replace ey_10 : y_10 = g0 (x_2.toInt).toNat := ey_10
  have ty_10 := congrArg Int64.toInt ey_10
  refine lv_lmul (pc := 52) hx hb dX10_squaresAt_52 ?_
  refine lv_topl (fun y_11 ey_11 => ?_)
  have ry_11 := n_rngL y_11
  refine lv_ldc2 (pc := 53) hx hb hown (hts _ tw_910) dX10_squaresAt_53 ?_
  refine lv_aload_n (pc := 56) hx hb dX10_squaresAt_56 rfl (lv_at hl 2 rfl) ?_
  refine va_get (pc := 57) (ci := 10) (v := .ref a3) (C := RX10) (T := TX10) (N := 8) hx hb hts iX10 hown hK hP 0 rfl rfl 2 (by decide) (hts _ tw_210) (fun _ h9 => h9) rfl dX10_squaresAt_57 ?_
  refine lv_iload_n (pc := 60) hx hb dX10_squaresAt_60 rfl (lv_at hl 1 rfl) ?_
  refine va_lald (pc := 61) hx hb hK hP 3 3 rfl rfl (n_in rfl (by first | exact (om_8 ex_2 ex_1 h_x1.1) | (omega)) (by first | exact (om_9 ex_2 ex_1 h_x1.2) | (omega))) dX10_squaresAt_61 ?_
  refine lv_topl (fun y_12 ey_12 => ?_)
  have ry_12 := n_rngL y_12
  replace ey_12 : y_12 = g2 (x_2.toInt).toNat := ey_12
  have ty_12 := congrArg Int64.toInt ey_12
  refine lv_lmul (pc := 62) hx hb dX10_squaresAt_62 ?_
  refine lv_topl (fun y_13 ey_13 => ?_)
  have ry_13 := n_rngL y_13
  refine lv_lsub (pc := 63) hx hb dX10_squaresAt_63 ?_
  refine lv_topl (fun y_14 ey_14 => ?_)
  have ry_14 := n_rngL y_14
  refine lv_lmul (pc := 64) hx hb dX10_squaresAt_64 ?_
  refine lv_topl (fun y_15 ey_15 => ?_)
  have ry_15 := n_rngL y_15
  refine lv_ladd (pc := 65) hx hb dX10_squaresAt_65 ?_
  refine lv_topl (fun y_16 ey_16 => ?_)
  have ry_16 := n_rngL y_16
  exact hret y_16 ((fun _ => 0), (fun _ => (fun _ => 0)), (fun _ => (fun _ => 0)), (fun _ => 0), (fun _ => 0)) dX10_squaresAt_66 (show ∀ T : Nat → Int32, prW g0 T x1.toInt → seW T (xW f0 f1 f2) g1 g2 x1.toInt x1.toInt → y_16 = I6 (qdK (bsK T (xW f0 f1 f2) (x1.toInt).toNat 6) (dtn T x1.toInt x1.toInt 6) (crK T (xW f0 f1 f2) (x1.toInt).toNat x1.toInt 6) (f0 (x1.toInt).toNat + f1 (x1.toInt).toNat * x0).toInt) from fun T p h => sq_at h p (by first | exact (om_2 h_x1.1) | (omega)) ey_9 hh_8 (lW ey_10 (by first | exact (om_30 ex_2 ex_1) | (omega))) (lW ey_12 (by first | exact (om_30 ex_2 ex_1) | (omega))) rfl ey_11 ey_13 ey_14 ey_15 ey_16) (g_psub (wc := [(a0, .inr (10, [.ref a1, .ref a2, .ref a3, .ref a4, .ref a5, .ref a6, .ref a7, .int x1])), (a1, .inl (cJ, 25, .inr (.inl g0))), (a2, .inl (cJ, 5, .inr (.inl g1))), (a3, .inl (cJ, 25, .inr (.inl g2))), (a4, .inl (cI, 5, .inl f0)), (a5, .inl (cI, 5, .inl f1)), (a7, .inl (cI, 5, .inl f2))]) hP [0, 1, 2, 3, 4, 5, 6] rfl) (hD.sub (ws' := [(a0, .inr (10, [.ref a1, .ref a2, .ref a3, .ref a4, .ref a5, .ref a6, .ref a7, .int x1])), (a1, .inl (cJ, 25, .inr (.inl g0))), (a2, .inl (cJ, 5, .inr (.inl g1))), (a3, .inl (cJ, 25, .inr (.inl g2))), (a4, .inl (cI, 5, .inl f0)), (a5, .inl (cI, 5, .inl f1)), (a7, .inl (cI, 5, .inl f2))]) [0, 1, 2, 3, 4, 5, 6] (by decide) rfl) hS
theorem om_61 {a : Int} (h0 : (1 ≤ a)) : (-2147483648 ≤ a - 1) := by omega
theorem om_62 {a : Int} (h0 : (a ≤ 24)) : (a - 1 ≤ 2147483647) := by omega
theorem om_63 {a b c d e : Int} (h0 : ((a = 0 ∧ b ≤ 0) ∨ (a = b ∧ 0 ≤ b))) (h1 : ((b = c ∧ c ≤ d) ∨ (b = d ∧ d ≤ c))) (h2 : (c = e)) (h3 : (e ≤ 2147483647)) : (-2147483648 ≤ a ∧ a ≤ 2147483647) := by omega
theorem om_64 {a b c d e f g : Int} (h0 : ((c = 0 ∧ d ≤ 0) ∨ (c = d ∧ 0 ≤ d))) (h1 : (a = c)) (h2 : ((d = e ∧ e ≤ f) ∨ (d = f ∧ f ≤ e))) (h3 : (1 ≤ b)) (h4 : (g = b - 1)) (h5 : (e = g)) : (0 ≤ a ∧ a ≤ b - 1) := by omega
theorem om_65 {a b : Int} (h0 : (a ≤ b - 1)) (h1 : (b ≤ 24)) : (a + 1 ≤ 2147483647) := by omega
theorem om_66 {a b : Int} (h0 : (0 ≤ a)) (h1 : (a ≤ b - 1)) (h2 : (b ≤ 24)) : ((0 ≤ a ∧ a ≤ 24)) := by omega
theorem om_67 {a : Int} (h0 : (1 ≤ a)) : (1 ≤ a) := by omega
theorem om_68 {a b : Int} (h0 : (0 ≤ a)) (h1 : (a ≤ b - 1)) : (0 ≤ a ∧ a < b) := by omega
theorem om_69 {a b c : Int} (h0 : (a = b + 1)) (h1 : (0 ≤ b)) (h2 : (b ≤ c - 1)) (h3 : (c ≤ 24)) : ((0 ≤ a ∧ a ≤ 24)) := by omega
theorem om_70 {a b c d : Int} (h0 : (a = c + 1)) (h1 : (0 ≤ c)) (h2 : (d < b)) (h3 : (d = c + 1)) : (0 ≤ a ∧ a < b) := by omega
theorem om_71 {a b : Int} (h0 : (a = 0)) (h1 : (1 ≤ b)) : (0 ≤ a ∧ a < b) := by omega
set_option maxHeartbeats 4000000 in
set_option maxRecDepth 100000 in
theorem k_X10_bestDigit_e (l : Launch) (D : va_G) (cB cC cI cJ : ClassId) (sz : Nat) (a0 a1 a2 a3 a4 a5 a6 a7 : Nat) (x0 x1 : Int32) (f0 f1 f2 : Nat → Int32) (g0 g1 g2 : Nat → Int64) (hp1 : (1 ≤ x0.toInt ∧ x0.toInt ≤ 24)) (h_x1 : (0 ≤ x1.toInt ∧ x1.toInt ≤ 4)) (hf_f2 : (∀ j, 0 ≤ (f2 j).toInt ∧ (f2 j).toInt ≤ 23)) (hg__g : 1 ≤ (f1 (x1.toInt).toNat).toInt ∧ (f1 (x1.toInt).toNat).toInt ≤ 64) (hg__l : -30 ≤ (f0 (x1.toInt).toNat).toInt ∧ (f0 (x1.toInt).toNat).toInt + (f1 (x1.toInt).toNat).toInt * (x0.toInt - 1) ≤ 30) : Met l yX10_bestDigit (.code yX10_bestDigit cX10_bestDigit 8 (some .int) :: lw_gd) ({ frames := 1, cells := 0, slots := 0, locals := 25 }) (gPre D [(cB, .byte), (cC, .char), (cI, .int), (cJ, .long)] [.ref a0, .int x0] [(a0, .inr (10, [.ref a1, .ref a2, .ref a3, .ref a4, .ref a5, .ref a6, .ref a7, .int x1])), (a1, .inl (cJ, 25, .inr (.inl g0))), (a2, .inl (cJ, 5, .inr (.inl g1))), (a3, .inl (cJ, 25, .inr (.inl g2))), (a4, .inl (cI, 5, .inl f0)), (a5, .inl (cI, 5, .inl f1)), (a7, .inl (cI, 5, .inl f2))] sz) (va_Qi (fun r u => (0 ≤ r.toInt ∧ r.toInt ≤ 24) ∧ (∀ T : Nat → Int32, prW g0 T x1.toInt → seW T (xW f0 f1 f2) g1 g2 x1.toInt x1.toInt → TB T 99 → xbW (xW f0 f1 f2) x1.toInt → fmQ (fun k => qdK (bsK T (xW f0 f1 f2) (x1.toInt).toNat 6) (dtn T x1.toInt x1.toInt 6) (crK T (xW f0 f1 f2) (x1.toInt).toNat x1.toInt 6) ((f0 (x1.toInt).toNat).toInt + (f1 (x1.toInt).toNat).toInt * k)) x0.toInt r.toInt) ∧ (0 ≤ r.toInt ∧ r.toInt < x0.toInt)) (gB D (va_A [(a0, .inr (10, [.ref a1, .ref a2, .ref a3, .ref a4, .ref a5, .ref a6, .ref a7, .int x1])), (a1, .inl (cJ, 25, .inr (.inl g0))), (a2, .inl (cJ, 5, .inr (.inl g1))), (a3, .inl (cJ, 25, .inr (.inl g2))), (a4, .inl (cI, 5, .inl f0)), (a5, .inl (cI, 5, .inl f1)), (a7, .inl (cI, 5, .inl f2))] sz) (fun u : gEx => [(a0, .inr (10, [.ref a1, .ref a2, .ref a3, .ref a4, .ref a5, .ref a6, .ref a7, .int x1])), (a1, .inl (cJ, 25, .inr (.inl g0))), (a2, .inl (cJ, 5, .inr (.inl g1))), (a3, .inl (cJ, 25, .inr (.inl g2))), (a4, .inl (cI, 5, .inl f0)), (a5, .inl (cI, 5, .inl f1)), (a7, .inl (cI, 5, .inl f2))])) (va_A [(a0, .inr (10, [.ref a1, .ref a2, .ref a3, .ref a4, .ref a5, .ref a6, .ref a7, .int x1])), (a1, .inl (cJ, 25, .inr (.inl g0))), (a2, .inl (cJ, 5, .inr (.inl g1))), (a3, .inl (cJ, 25, .inr (.inl g2))), (a4, .inl (cI, 5, .inl f0)), (a5, .inl (cI, 5, .inl f1)), (a7, .inl (cI, 5, .inl f2))] sz)) 0 0 (va_A [(a0, .inr (10, [.ref a1, .ref a2, .ref a3, .ref a4, .ref a5, .ref a6, .ref a7, .int x1])), (a1, .inl (cJ, 25, .inr (.inl g0))), (a2, .inl (cJ, 5, .inr (.inl g1))), (a3, .inl (cJ, 25, .inr (.inl g2))), (a4, .inl (cI, 5, .inl f0)), (a5, .inl (cI, 5, .inl f1)), (a7, .inl (cI, 5, .inl f2))] sz) := by
  refine gOf_i (by decide +kernel) (Nat.le_of_ble_eq_true rfl) ?_
  intro p e s m args below meth c ls A Q hx hb hts hown hml hN hK hP hD hA hl hret
  replace hown : s.vm.findClass RX10 = some m.cls := hown
  have hS : va_S A s.heap s.heap [] := va_S.rf
  replace hP : va_P D gcl [(a0, .inr (10, [.ref a1, .ref a2, .ref a3, .ref a4, .ref a5, .ref a6, .ref a7, .int x1])), (a1, .inl (cJ, 25, .inr (.inl g0))), (a2, .inl (cJ, 5, .inr (.inl g1))), (a3, .inl (cJ, 25, .inr (.inl g2))), (a4, .inl (cI, 5, .inl f0)), (a5, .inl (cI, 5, .inl f1)), (a7, .inl (cI, 5, .inl f2))] s.heap := hP
  replace hl : lv_has ls 8 [(0, .ref a0), (1, .int x0)] := hl
  refine lv_aload_n (pc := 0) hx hb dX10_bestDigit_0 rfl (lv_at hl 0 rfl) ?_
  refine va_get (pc := 1) (ci := 10) (v := .int x1) (C := RX10) (T := TX10) (N := 8) hx hb hts iX10 hown hK hP 0 rfl rfl 7 (by decide) (hts _ tw_220) (fun _ h9 => h9) rfl dX10_bestDigit_1 ?_
  refine lv_iconst (pc := 4) (v := 5) hx hb dX10_bestDigit_4 (by decide) ?_
  refine b_imul (pc := 5) hx hb rfl tI_5 (by first | exact (om_0 h_x1.1) | (omega)) (by first | exact (om_1 h_x1.2) | (omega)) dX10_bestDigit_5 (fun x_1 ex_1 => ?_)
  refine lv_aload_n (pc := 6) hx hb dX10_bestDigit_6 rfl (lv_at hl 0 rfl) ?_
  refine va_get (pc := 7) (ci := 10) (v := .int x1) (C := RX10) (T := TX10) (N := 8) hx hb hts iX10 hown hK hP 0 rfl rfl 7 (by decide) (hts _ tw_220) (fun _ h9 => h9) rfl dX10_bestDigit_7 ?_
  refine b_iadd (pc := 10) hx hb rfl rfl (by first | exact (om_6 ex_1 h_x1.1) | (omega)) (by first | exact (om_7 ex_1 h_x1.2) | (omega)) dX10_bestDigit_10 (fun x_2 ex_2 => ?_)
  refine lv_istore_n (pc := 11) (lv' := [(2, .int x_2), (0, .ref a0), (1, .int x0)]) hx hb dX10_bestDigit_11 rfl hl (by decide) rfl (fun ls hl => ?_)
  refine lv_aload_n (pc := 12) hx hb dX10_bestDigit_12 rfl (lv_at hl 1 rfl) ?_
  refine va_get (pc := 13) (ci := 10) (v := .ref a1) (C := RX10) (T := TX10) (N := 8) hx hb hts iX10 hown hK hP 0 rfl rfl 0 (by decide) (hts _ tw_207) (fun _ h9 => h9) rfl dX10_bestDigit_13 ?_
  refine lv_iload_n (pc := 16) hx hb dX10_bestDigit_16 rfl (lv_at hl 0 rfl) ?_
  refine va_lald (pc := 17) hx hb hK hP 1 3 rfl rfl (n_in rfl (by first | exact (om_8 ex_2 ex_1 h_x1.1) | (omega)) (by first | exact (om_9 ex_2 ex_1 h_x1.2) | (omega))) dX10_bestDigit_17 ?_
  refine lv_topl (fun y_3 ey_3 => ?_)
  have ry_3 := n_rngL y_3
  replace ey_3 : y_3 = g0 (x_2.toInt).toNat := ey_3
  have ty_3 := congrArg Int64.toInt ey_3
  refine lv_aload_n (pc := 18) hx hb dX10_bestDigit_18 rfl (lv_at hl 1 rfl) ?_
  refine va_get (pc := 19) (ci := 10) (v := .ref a5) (C := RX10) (T := TX10) (N := 8) hx hb hts iX10 hown hK hP 0 rfl rfl 4 (by decide) (hts _ tw_213) (fun _ h9 => h9) rfl dX10_bestDigit_19 ?_
  refine lv_aload_n (pc := 22) hx hb dX10_bestDigit_22 rfl (lv_at hl 1 rfl) ?_
  refine va_get (pc := 23) (ci := 10) (v := .int x1) (C := RX10) (T := TX10) (N := 8) hx hb hts iX10 hown hK hP 0 rfl rfl 7 (by decide) (hts _ tw_220) (fun _ h9 => h9) rfl dX10_bestDigit_23 ?_
  refine va_iald (pc := 26) hx hb hK hP 5 2 rfl rfl (n_in rfl (by first | exact (om_2 h_x1.1) | (omega)) (by first | exact (om_3 h_x1.2) | (omega))) dX10_bestDigit_26 ?_
  refine lv_topi (fun x_4 ex_4 => ?_)
  have rx_4 := n_rng x_4
  replace ex_4 : x_4 = f1 (x1.toInt).toNat := ex_4
  have tx_4 := congrArg Int32.toInt ex_4
  refine b_i2l (pc := 27) hx hb rfl dX10_bestDigit_27 (fun y_5 ey_5 => ?_)
  have ry_5 := n_rng x_4
  refine lv_lmul (pc := 28) hx hb dX10_bestDigit_28 ?_
  refine lv_topl (fun y_6 ey_6 => ?_)
  have ry_6 := n_rngL y_6
  refine lv_lstore_n (pc := 29) (lv' := [(3, .long y_6), (2, .int x_2), (0, .ref a0), (1, .int x0)]) hx hb dX10_bestDigit_29 rfl hl (by decide) rfl (fun ls hl => ?_)
  refine lv_lload_n (pc := 30) hx hb dX10_bestDigit_30 rfl (lv_at hl 0 rfl) ?_
  refine lv_lconst (pc := 31) (v := 0) hx hb dX10_bestDigit_31 (by decide) ?_
  refine b_lcmp_gt (pc := 32) (tgt := 38) hx hb rfl tL_0 dX10_bestDigit_32 dX10_bestDigit_33 (by decide) (fun c_7 => ?_) (fun c_7 => ?_)
  ·
    refine lv_aload_n (pc := 38) hx hb dX10_bestDigit_38 rfl (lv_at hl 2 rfl) ?_
    refine va_get (pc := 39) (ci := 10) (v := .ref a3) (C := RX10) (T := TX10) (N := 8) hx hb hts iX10 hown hK hP 0 rfl rfl 2 (by decide) (hts _ tw_210) (fun _ h9 => h9) rfl dX10_bestDigit_39 ?_
    refine lv_iload_n (pc := 42) hx hb dX10_bestDigit_42 rfl (lv_at hl 1 rfl) ?_
    refine va_lald (pc := 43) hx hb hK hP 3 3 rfl rfl (n_in rfl (by first | exact (om_8 ex_2 ex_1 h_x1.1) | (omega)) (by first | exact (om_9 ex_2 ex_1 h_x1.2) | (omega))) dX10_bestDigit_43 ?_
    refine lv_topl (fun y_8 ey_8 => ?_)
    have ry_8 := n_rngL y_8
    replace ey_8 : y_8 = g2 (x_2.toInt).toNat := ey_8
    have ty_8 := congrArg Int64.toInt ey_8
    refine lv_aload_n (pc := 44) hx hb dX10_bestDigit_44 rfl (lv_at hl 2 rfl) ?_
    refine va_get (pc := 45) (ci := 10) (v := .ref a4) (C := RX10) (T := TX10) (N := 8) hx hb hts iX10 hown hK hP 0 rfl rfl 3 (by decide) (hts _ tw_211) (fun _ h9 => h9) rfl dX10_bestDigit_45 ?_
    refine lv_aload_n (pc := 48) hx hb dX10_bestDigit_48 rfl (lv_at hl 2 rfl) ?_
    refine va_get (pc := 49) (ci := 10) (v := .int x1) (C := RX10) (T := TX10) (N := 8) hx hb hts iX10 hown hK hP 0 rfl rfl 7 (by decide) (hts _ tw_220) (fun _ h9 => h9) rfl dX10_bestDigit_49 ?_
    refine va_iald (pc := 52) hx hb hK hP 4 2 rfl rfl (n_in rfl (by first | exact (om_2 h_x1.1) | (omega)) (by first | exact (om_3 h_x1.2) | (omega))) dX10_bestDigit_52 ?_
    refine lv_topi (fun x_9 ex_9 => ?_)
    have rx_9 := n_rng x_9
    replace ex_9 : x_9 = f0 (x1.toInt).toNat := ex_9
    have tx_9 := congrArg Int32.toInt ex_9
    refine b_i2l (pc := 53) hx hb rfl dX10_bestDigit_53 (fun y_10 ey_10 => ?_)
    have ry_10 := n_rng x_9
    refine lv_aload_n (pc := 54) hx hb dX10_bestDigit_54 rfl (lv_at hl 2 rfl) ?_
    refine va_get (pc := 55) (ci := 10) (v := .ref a1) (C := RX10) (T := TX10) (N := 8) hx hb hts iX10 hown hK hP 0 rfl rfl 0 (by decide) (hts _ tw_207) (fun _ h9 => h9) rfl dX10_bestDigit_55 ?_
    refine lv_iload_n (pc := 58) hx hb dX10_bestDigit_58 rfl (lv_at hl 1 rfl) ?_
    refine va_lald (pc := 59) hx hb hK hP 1 3 rfl rfl (n_in rfl (by first | exact (om_8 ex_2 ex_1 h_x1.1) | (omega)) (by first | exact (om_9 ex_2 ex_1 h_x1.2) | (omega))) dX10_bestDigit_59 ?_
    refine gL (y := y_3) ey_3.symm ?_
    refine lv_lmul (pc := 60) hx hb dX10_bestDigit_60 ?_
    refine lv_topl (fun y_11 ey_11 => ?_)
    have ry_11 := n_rngL y_11
    refine lv_lsub (pc := 61) hx hb dX10_bestDigit_61 ?_
    refine lv_topl (fun y_12 ey_12 => ?_)
    have ry_12 := n_rngL y_12
    refine lv_lload_n (pc := 62) hx hb dX10_bestDigit_62 rfl (lv_at hl 0 rfl) ?_
    refine va_fdlE (pc := 63) hx hb (hml.trans hl.1.symm) hown (hts _ tw_1152) (hts _ tw_1153) (hts _ tw_19) (hts _ tw_1154) (Nat.le_of_ble_eq_true rfl) (Nat.le_of_ble_eq_true rfl) (Nat.le_of_ble_eq_true rfl) (Nat.le_of_ble_eq_true rfl) (fun h => by have q := congrArg Int64.toInt h; have k := tL_0; omega) dX10_bestDigit_63 (fun y_13 ey_13 => ?_)
    have ry_13 := n_rngL y_13
    refine lv_lstore (pc := 66) (lv' := [(5, .long y_13), (3, .long y_6), (2, .int x_2), (0, .ref a0), (1, .int x0)]) hx hb dX10_bestDigit_66 hl (by decide) rfl (fun ls hl => ?_)
    refine lv_lconst (pc := 68) (v := 0) hx hb dX10_bestDigit_68 (by decide) ?_
    refine lv_iload_n (pc := 69) hx hb dX10_bestDigit_69 rfl (lv_at hl 4 rfl) ?_
    refine lv_iconst (pc := 70) (v := 1) hx hb dX10_bestDigit_70 (by decide) ?_
    refine b_isub (pc := 71) hx hb rfl tI_1 (by first | exact (om_61 hp1.1) | (omega)) (by first | exact (om_62 hp1.2) | (omega)) dX10_bestDigit_71 (fun x_14 ex_14 => ?_)
    refine b_i2l (pc := 72) hx hb rfl dX10_bestDigit_72 (fun y_15 ey_15 => ?_)
    have ry_15 := n_rng x_14
    refine lv_lload (pc := 73) hx hb dX10_bestDigit_73 (lv_at hl 0 rfl) ?_
    refine va_mmin_long (pc := 75) hx hb (hml.trans hl.1.symm) hown (hts _ tw_1155) (hts _ tw_857) (hts _ tw_19) (hts _ tw_858) (Nat.le_of_ble_eq_true rfl) (Nat.le_of_ble_eq_true rfl) (Nat.le_of_ble_eq_true rfl) (Nat.le_of_ble_eq_true rfl) dX10_bestDigit_75 ?_
    refine lv_topl (fun y_16 ey_16 => ?_)
    have ey_16 := n_minL rfl rfl ey_16
    have ry_16 := n_rngL y_16
    refine va_mmax_long (pc := 78) hx hb (hml.trans hl.1.symm) hown (hts _ tw_1156) (hts _ tw_860) (hts _ tw_19) (hts _ tw_861) (Nat.le_of_ble_eq_true rfl) (Nat.le_of_ble_eq_true rfl) (Nat.le_of_ble_eq_true rfl) (Nat.le_of_ble_eq_true rfl) dX10_bestDigit_78 ?_
    refine lv_topl (fun y_17 ey_17 => ?_)
    have ey_17 := n_maxL tL_0 rfl ey_17
    have ry_17 := n_rngL y_17
    refine lv_l2i (pc := 81) hx hb dX10_bestDigit_81 rfl ?_
    refine lv_topi (fun x_18 ex_18 => ?_)
    have rx_18 := n_rng x_18
    refine lv_istore (pc := 82) (lv' := [(7, .int x_18), (5, .long y_13), (3, .long y_6), (2, .int x_2), (0, .ref a0), (1, .int x0)]) hx hb dX10_bestDigit_82 hl (by decide) rfl (fun ls hl => ?_)
    have hh_19 : x_18.toInt = y_17.toInt := l2i_e ex_18 (by first | exact (om_63 ey_17 ey_16 ey_15 ry_15.2) | (omega))
    have rhh_19 : (0 ≤ x_18.toInt ∧ x_18.toInt ≤ x0.toInt - 1) := (by first | exact (om_64 ey_17 hh_19 ey_16 hp1.1 ex_14 ey_15) | (omega))
    refine lv_iload (pc := 84) hx hb dX10_bestDigit_84 (lv_at hl 0 rfl) ?_
    refine lv_iconst (pc := 86) (v := 1) hx hb dX10_bestDigit_86 (by decide) ?_
    refine b_iadd (pc := 87) hx hb rfl tI_1 (by first | exact (om_4 rhh_19.1) | (omega)) (by first | exact (om_65 rhh_19.2 hp1.2) | (omega)) dX10_bestDigit_87 (fun x_20 ex_20 => ?_)
    refine lv_iload_n (pc := 88) hx hb dX10_bestDigit_88 rfl (lv_at hl 5 rfl) ?_
    refine b_icmp_ge (pc := 89) (tgt := 117) hx hb rfl rfl  dX10_bestDigit_89 (by decide) (fun c_21 => ?_) (fun c_21 => ?_)
    ·
      refine lv_iload (pc := 117) hx hb dX10_bestDigit_117 (lv_at hl 0 rfl) ?_
      exact hret x_18 ((fun _ => 0), (fun _ => (fun _ => 0)), (fun _ => (fun _ => 0)), (fun _ => 0), (fun _ => 0)) dX10_bestDigit_119 ⟨(show (0 ≤ x_18.toInt ∧ x_18.toInt ≤ 24) from (by first | exact (om_66 rhh_19.1 rhh_19.2 hp1.2) | (omega))), (show ∀ T : Nat → Int32, prW g0 T x1.toInt → seW T (xW f0 f1 f2) g1 g2 x1.toInt x1.toInt → TB T 99 → xbW (xW f0 f1 f2) x1.toInt → fmQ (fun k => qdK (bsK T (xW f0 f1 f2) (x1.toInt).toNat 6) (dtn T x1.toInt x1.toInt 6) (crK T (xW f0 f1 f2) (x1.toInt).toNat x1.toInt 6) ((f0 (x1.toInt).toNat).toInt + (f1 (x1.toInt).toNat).toInt * k)) x0.toInt x_18.toInt from fun T p h tb hx => bd_best (d0 := x_18.toInt) h p tb hx (by omega) (by omega) (lW ey_3 (by omega)) (ey_5.trans (congrArg Int32.toInt ex_4)) hg__g ey_6 (by omega) (by omega) (lW ey_8 (by omega)) (ey_10.trans (congrArg Int32.toInt ex_9)) (lo30 hg__g.1 hg__l (by first | exact (om_67 hp1.1) | (omega))) (lW ey_3 (by omega)) ey_11 ey_12 ey_13 (by omega) (hd_b (Q := (fun k => qdK (bsK T (xW f0 f1 f2) (x1.toInt).toNat 6) (dtn T x1.toInt x1.toInt 6) (crK T (xW f0 f1 f2) (x1.toInt).toNat x1.toInt 6) ((f0 (x1.toInt).toNat).toInt + (f1 (x1.toInt).toNat).toInt * k))) (d0 := x_18.toInt) (by omega) (by omega))), (show 0 ≤ x_18.toInt ∧ x_18.toInt < x0.toInt from (by first | exact (om_68 rhh_19.1 rhh_19.2) | (omega)))⟩ (g_psub (wc := [(a0, .inr (10, [.ref a1, .ref a2, .ref a3, .ref a4, .ref a5, .ref a6, .ref a7, .int x1])), (a1, .inl (cJ, 25, .inr (.inl g0))), (a2, .inl (cJ, 5, .inr (.inl g1))), (a3, .inl (cJ, 25, .inr (.inl g2))), (a4, .inl (cI, 5, .inl f0)), (a5, .inl (cI, 5, .inl f1)), (a7, .inl (cI, 5, .inl f2))]) hP [0, 1, 2, 3, 4, 5, 6] rfl) (hD.sub (ws' := [(a0, .inr (10, [.ref a1, .ref a2, .ref a3, .ref a4, .ref a5, .ref a6, .ref a7, .int x1])), (a1, .inl (cJ, 25, .inr (.inl g0))), (a2, .inl (cJ, 5, .inr (.inl g1))), (a3, .inl (cJ, 25, .inr (.inl g2))), (a4, .inl (cI, 5, .inl f0)), (a5, .inl (cI, 5, .inl f1)), (a7, .inl (cI, 5, .inl f2))]) [0, 1, 2, 3, 4, 5, 6] (by decide) rfl) hS
    ·
      refine lv_aload_n (pc := 92) hx hb dX10_bestDigit_92 rfl (lv_at hl 4 rfl) ?_
      refine lv_iload (pc := 93) hx hb dX10_bestDigit_93 (lv_at hl 0 rfl) ?_
      refine lv_iconst (pc := 95) (v := 1) hx hb dX10_bestDigit_95 (by decide) ?_
      refine b_iadd (pc := 96) hx hb rfl tI_1 (by first | exact (om_4 rhh_19.1) | (omega)) (by first | exact (om_65 rhh_19.2 hp1.2) | (omega)) dX10_bestDigit_96 (fun x_22 ex_22 => ?_)
      refine gd_l (pc := 97) (wc := [(a0, .inr (10, [.ref a1, .ref a2, .ref a3, .ref a4, .ref a5, .ref a6, .ref a7, .int x1])), (a1, .inl (cJ, 25, .inr (.inl g0))), (a2, .inl (cJ, 5, .inr (.inl g1))), (a3, .inl (cJ, 25, .inr (.inl g2))), (a4, .inl (cI, 5, .inl f0)), (a5, .inl (cI, 5, .inl f1)), (a7, .inl (cI, 5, .inl f2))]) hP hD hS hA [0, 1, 2, 3, 4, 5, 6] rfl (by decide +kernel) (fun _ => by rfl) (fun hPc hDc => va_runV (As := [.int x_22]) (rest := []) ⟨hx, hb, hml, hown, hts⟩ (k_X10_squaresAt_e l D cB cC cI cJ _ a0 a1 a2 a3 a4 a5 a6 a7 x_22 x1 f0 f1 f2 g0 g1 g2 h_x1 hf_f2) ⟨gcwB hts tw_922 tw_8 tw_1157 hd_yX10_squaresAt ⟨Nat.le_of_ble_eq_true rfl, Nat.le_of_ble_eq_true rfl⟩, hts _ tw_920, hts _ tw_921⟩ ⟨gblind, va_recv hK hPc (ci := 10) (q0 := 0) rfl rfl, (gpreS hPc hK hDc hN).2⟩ rfl rfl hl.1 rfl (lv_room (Nat.le_of_ble_eq_true rfl)) dX10_bestDigit_97 ⟨Nat.le_of_ble_eq_true rfl, Nat.le_of_ble_eq_true rfl⟩) (fun r_24 u_23 H locs hw_25 hP hD hS => ?_)
      replace hP : va_P D gcl [(a0, .inr (10, [.ref a1, .ref a2, .ref a3, .ref a4, .ref a5, .ref a6, .ref a7, .int x1])), (a1, .inl (cJ, 25, .inr (.inl g0))), (a2, .inl (cJ, 5, .inr (.inl g1))), (a3, .inl (cJ, 25, .inr (.inl g2))), (a4, .inl (cI, 5, .inl f0)), (a5, .inl (cI, 5, .inl f1)), (a7, .inl (cI, 5, .inl f2))] H := hP
      replace hD : va_D A [(a0, .inr (10, [.ref a1, .ref a2, .ref a3, .ref a4, .ref a5, .ref a6, .ref a7, .int x1])), (a1, .inl (cJ, 25, .inr (.inl g0))), (a2, .inl (cJ, 5, .inr (.inl g1))), (a3, .inl (cJ, 25, .inr (.inl g2))), (a4, .inl (cI, 5, .inl f0)), (a5, .inl (cI, 5, .inl f1)), (a7, .inl (cI, 5, .inl f2))] := hD
      have hw_26 : (∀ T : Nat → Int32, prW g0 T x1.toInt → seW T (xW f0 f1 f2) g1 g2 x1.toInt x1.toInt → r_24 = I6 (qdK (bsK T (xW f0 f1 f2) (x1.toInt).toNat 6) (dtn T x1.toInt x1.toInt 6) (crK T (xW f0 f1 f2) (x1.toInt).toNat x1.toInt 6) (f0 (x1.toInt).toNat + f1 (x1.toInt).toNat * x_22).toInt)) := hw_25
      have rr_24 := n_rngL r_24
      refine lv_aload_n (pc := 100) hx hb dX10_bestDigit_100 rfl (lv_at hl 4 rfl) ?_
      refine lv_iload (pc := 101) hx hb dX10_bestDigit_101 (lv_at hl 0 rfl) ?_
      refine gd_l (pc := 103) (wc := [(a0, .inr (10, [.ref a1, .ref a2, .ref a3, .ref a4, .ref a5, .ref a6, .ref a7, .int x1])), (a1, .inl (cJ, 25, .inr (.inl g0))), (a2, .inl (cJ, 5, .inr (.inl g1))), (a3, .inl (cJ, 25, .inr (.inl g2))), (a4, .inl (cI, 5, .inl f0)), (a5, .inl (cI, 5, .inl f1)), (a7, .inl (cI, 5, .inl f2))]) hP hD hS hA [0, 1, 2, 3, 4, 5, 6] rfl (by decide +kernel) (fun _ => by rfl) (fun hPc hDc => va_runV (As := [.int x_18]) (rest := [.long r_24]) ⟨hx, hb, hml, hown, hts⟩ (k_X10_squaresAt_e l D cB cC cI cJ _ a0 a1 a2 a3 a4 a5 a6 a7 x_18 x1 f0 f1 f2 g0 g1 g2 h_x1 hf_f2) ⟨gcwB hts tw_922 tw_8 tw_1157 hd_yX10_squaresAt ⟨Nat.le_of_ble_eq_true rfl, Nat.le_of_ble_eq_true rfl⟩, hts _ tw_920, hts _ tw_921⟩ ⟨gblind, va_recv hK hPc (ci := 10) (q0 := 0) rfl rfl, (gpreS hPc hK hDc hN).2⟩ rfl rfl hl.1 rfl (lv_room (Nat.le_of_ble_eq_true rfl)) dX10_bestDigit_103 ⟨Nat.le_of_ble_eq_true rfl, Nat.le_of_ble_eq_true rfl⟩) (fun r_28 u_27 H locs hw_29 hP hD hS => ?_)
      replace hP : va_P D gcl [(a0, .inr (10, [.ref a1, .ref a2, .ref a3, .ref a4, .ref a5, .ref a6, .ref a7, .int x1])), (a1, .inl (cJ, 25, .inr (.inl g0))), (a2, .inl (cJ, 5, .inr (.inl g1))), (a3, .inl (cJ, 25, .inr (.inl g2))), (a4, .inl (cI, 5, .inl f0)), (a5, .inl (cI, 5, .inl f1)), (a7, .inl (cI, 5, .inl f2))] H := hP
      replace hD : va_D A [(a0, .inr (10, [.ref a1, .ref a2, .ref a3, .ref a4, .ref a5, .ref a6, .ref a7, .int x1])), (a1, .inl (cJ, 25, .inr (.inl g0))), (a2, .inl (cJ, 5, .inr (.inl g1))), (a3, .inl (cJ, 25, .inr (.inl g2))), (a4, .inl (cI, 5, .inl f0)), (a5, .inl (cI, 5, .inl f1)), (a7, .inl (cI, 5, .inl f2))] := hD
      have hw_30 : (∀ T : Nat → Int32, prW g0 T x1.toInt → seW T (xW f0 f1 f2) g1 g2 x1.toInt x1.toInt → r_28 = I6 (qdK (bsK T (xW f0 f1 f2) (x1.toInt).toNat 6) (dtn T x1.toInt x1.toInt 6) (crK T (xW f0 f1 f2) (x1.toInt).toNat x1.toInt 6) (f0 (x1.toInt).toNat + f1 (x1.toInt).toNat * x_18).toInt)) := hw_29
      have rr_28 := n_rngL r_28
      refine b_lcmp_ge (pc := 106) (tgt := 117) hx hb rfl rfl dX10_bestDigit_106 dX10_bestDigit_107 (by decide) (fun c_31 => ?_) (fun c_31 => ?_)
      ·
        refine lv_iload (pc := 117) hx hb dX10_bestDigit_117 (lv_at hl 0 rfl) ?_
        exact hret x_18 ((fun _ => 0), (fun _ => (fun _ => 0)), (fun _ => (fun _ => 0)), (fun _ => 0), (fun _ => 0)) dX10_bestDigit_119 ⟨(show (0 ≤ x_18.toInt ∧ x_18.toInt ≤ 24) from (by first | exact (om_66 rhh_19.1 rhh_19.2 hp1.2) | (omega))), (show ∀ T : Nat → Int32, prW g0 T x1.toInt → seW T (xW f0 f1 f2) g1 g2 x1.toInt x1.toInt → TB T 99 → xbW (xW f0 f1 f2) x1.toInt → fmQ (fun k => qdK (bsK T (xW f0 f1 f2) (x1.toInt).toNat 6) (dtn T x1.toInt x1.toInt 6) (crK T (xW f0 f1 f2) (x1.toInt).toNat x1.toInt 6) ((f0 (x1.toInt).toNat).toInt + (f1 (x1.toInt).toNat).toInt * k)) x0.toInt x_18.toInt from fun T p h tb hx => bd_best (d0 := x_18.toInt) h p tb hx (by omega) (by omega) (lW ey_3 (by omega)) (ey_5.trans (congrArg Int32.toInt ex_4)) hg__g ey_6 (by omega) (by omega) (lW ey_8 (by omega)) (ey_10.trans (congrArg Int32.toInt ex_9)) (lo30 hg__g.1 hg__l (by first | exact (om_67 hp1.1) | (omega))) (lW ey_3 (by omega)) ey_11 ey_12 ey_13 (by omega) (hd_c (Q := (fun k => qdK (bsK T (xW f0 f1 f2) (x1.toInt).toNat 6) (dtn T x1.toInt x1.toInt 6) (crK T (xW f0 f1 f2) (x1.toInt).toNat x1.toInt 6) ((f0 (x1.toInt).toNat).toInt + (f1 (x1.toInt).toNat).toInt * k))) (bd_q (hw_26 T p h) tb hx (by omega) (by omega) rfl rfl (by omega) hg__g.1 (by omega) hg__l.1 hg__l.2) (bd_q (hw_30 T p h) tb hx (by omega) (by omega) rfl rfl rfl hg__g.1 (by omega) hg__l.1 hg__l.2) (by omega) (by omega))), (show 0 ≤ x_18.toInt ∧ x_18.toInt < x0.toInt from (by first | exact (om_68 rhh_19.1 rhh_19.2) | (omega)))⟩ (g_psub (wc := [(a0, .inr (10, [.ref a1, .ref a2, .ref a3, .ref a4, .ref a5, .ref a6, .ref a7, .int x1])), (a1, .inl (cJ, 25, .inr (.inl g0))), (a2, .inl (cJ, 5, .inr (.inl g1))), (a3, .inl (cJ, 25, .inr (.inl g2))), (a4, .inl (cI, 5, .inl f0)), (a5, .inl (cI, 5, .inl f1)), (a7, .inl (cI, 5, .inl f2))]) hP [0, 1, 2, 3, 4, 5, 6] rfl) (hD.sub (ws' := [(a0, .inr (10, [.ref a1, .ref a2, .ref a3, .ref a4, .ref a5, .ref a6, .ref a7, .int x1])), (a1, .inl (cJ, 25, .inr (.inl g0))), (a2, .inl (cJ, 5, .inr (.inl g1))), (a3, .inl (cJ, 25, .inr (.inl g2))), (a4, .inl (cI, 5, .inl f0)), (a5, .inl (cI, 5, .inl f1)), (a7, .inl (cI, 5, .inl f2))]) [0, 1, 2, 3, 4, 5, 6] (by decide) rfl) hS
      ·
        refine lv_iload (pc := 110) hx hb dX10_bestDigit_110 (lv_at hl 0 rfl) ?_
        refine lv_iconst (pc := 112) (v := 1) hx hb dX10_bestDigit_112 (by decide) ?_
        refine b_iadd (pc := 113) hx hb rfl tI_1 (by first | exact (om_4 rhh_19.1) | (omega)) (by first | exact (om_65 rhh_19.2 hp1.2) | (omega)) dX10_bestDigit_113 (fun x_32 ex_32 => ?_)
        refine lv_goto (pc := 114) (tgt := 119) hx hb dX10_bestDigit_114 (by decide) ?_
        exact hret x_32 ((fun _ => 0), (fun _ => (fun _ => 0)), (fun _ => (fun _ => 0)), (fun _ => 0), (fun _ => 0)) dX10_bestDigit_119 ⟨(show (0 ≤ x_32.toInt ∧ x_32.toInt ≤ 24) from (by first | exact (om_69 ex_32 rhh_19.1 rhh_19.2 hp1.2) | (omega))), (show ∀ T : Nat → Int32, prW g0 T x1.toInt → seW T (xW f0 f1 f2) g1 g2 x1.toInt x1.toInt → TB T 99 → xbW (xW f0 f1 f2) x1.toInt → fmQ (fun k => qdK (bsK T (xW f0 f1 f2) (x1.toInt).toNat 6) (dtn T x1.toInt x1.toInt 6) (crK T (xW f0 f1 f2) (x1.toInt).toNat x1.toInt 6) ((f0 (x1.toInt).toNat).toInt + (f1 (x1.toInt).toNat).toInt * k)) x0.toInt x_32.toInt from fun T p h tb hx => bd_best (d0 := x_18.toInt) h p tb hx (by omega) (by omega) (lW ey_3 (by omega)) (ey_5.trans (congrArg Int32.toInt ex_4)) hg__g ey_6 (by omega) (by omega) (lW ey_8 (by omega)) (ey_10.trans (congrArg Int32.toInt ex_9)) (lo30 hg__g.1 hg__l (by first | exact (om_67 hp1.1) | (omega))) (lW ey_3 (by omega)) ey_11 ey_12 ey_13 (by omega) (hd_a (Q := (fun k => qdK (bsK T (xW f0 f1 f2) (x1.toInt).toNat 6) (dtn T x1.toInt x1.toInt 6) (crK T (xW f0 f1 f2) (x1.toInt).toNat x1.toInt 6) ((f0 (x1.toInt).toNat).toInt + (f1 (x1.toInt).toNat).toInt * k))) (bd_q (hw_26 T p h) tb hx (by omega) (by omega) rfl rfl (by omega) hg__g.1 (by omega) hg__l.1 hg__l.2) (bd_q (hw_30 T p h) tb hx (by omega) (by omega) rfl rfl rfl hg__g.1 (by omega) hg__l.1 hg__l.2) (by omega) (by omega) (by omega))), (show 0 ≤ x_32.toInt ∧ x_32.toInt < x0.toInt from (by first | exact (om_70 ex_32 rhh_19.1 c_21 ex_20) | (omega)))⟩ (g_psub (wc := [(a0, .inr (10, [.ref a1, .ref a2, .ref a3, .ref a4, .ref a5, .ref a6, .ref a7, .int x1])), (a1, .inl (cJ, 25, .inr (.inl g0))), (a2, .inl (cJ, 5, .inr (.inl g1))), (a3, .inl (cJ, 25, .inr (.inl g2))), (a4, .inl (cI, 5, .inl f0)), (a5, .inl (cI, 5, .inl f1)), (a7, .inl (cI, 5, .inl f2))]) hP [0, 1, 2, 3, 4, 5, 6] rfl) (hD.sub (ws' := [(a0, .inr (10, [.ref a1, .ref a2, .ref a3, .ref a4, .ref a5, .ref a6, .ref a7, .int x1])), (a1, .inl (cJ, 25, .inr (.inl g0))), (a2, .inl (cJ, 5, .inr (.inl g1))), (a3, .inl (cJ, 25, .inr (.inl g2))), (a4, .inl (cI, 5, .inl f0)), (a5, .inl (cI, 5, .inl f1)), (a7, .inl (cI, 5, .inl f2))]) [0, 1, 2, 3, 4, 5, 6] (by decide) rfl) hS
  ·
    refine lv_iconst (pc := 36) (v := 0) hx hb dX10_bestDigit_36 (by decide) ?_
    have k9 := tI_0
    exact hret 0 ((fun _ => 0), (fun _ => (fun _ => 0)), (fun _ => (fun _ => 0)), (fun _ => 0), (fun _ => 0)) dX10_bestDigit_37 ⟨(show (0 ≤ (0 : Int32).toInt ∧ (0 : Int32).toInt ≤ 24) from (n_c tI_0 (by decide))), (show ∀ T : Nat → Int32, prW g0 T x1.toInt → seW T (xW f0 f1 f2) g1 g2 x1.toInt x1.toInt → TB T 99 → xbW (xW f0 f1 f2) x1.toInt → fmQ (fun k => qdK (bsK T (xW f0 f1 f2) (x1.toInt).toNat 6) (dtn T x1.toInt x1.toInt 6) (crK T (xW f0 f1 f2) (x1.toInt).toNat x1.toInt 6) ((f0 (x1.toInt).toNat).toInt + (f1 (x1.toInt).toNat).toInt * k)) x0.toInt (0 : Int32).toInt from fun T p h tb hx => bd_flat p tb (by omega) (by omega) (lW ey_3 (by omega)) (ey_5.trans (congrArg Int32.toInt ex_4)) hg__g ey_6 (by omega) (by omega) (by have q := tI_0; omega)), (show 0 ≤ (0 : Int32).toInt ∧ (0 : Int32).toInt < x0.toInt from (by first | exact (om_71 tI_0 hp1.1) | (have k9 := tI_0; omega)))⟩ (g_psub (wc := [(a0, .inr (10, [.ref a1, .ref a2, .ref a3, .ref a4, .ref a5, .ref a6, .ref a7, .int x1])), (a1, .inl (cJ, 25, .inr (.inl g0))), (a2, .inl (cJ, 5, .inr (.inl g1))), (a3, .inl (cJ, 25, .inr (.inl g2))), (a4, .inl (cI, 5, .inl f0)), (a5, .inl (cI, 5, .inl f1)), (a7, .inl (cI, 5, .inl f2))]) hP [0, 1, 2, 3, 4, 5, 6] rfl) (hD.sub (ws' := [(a0, .inr (10, [.ref a1, .ref a2, .ref a3, .ref a4, .ref a5, .ref a6, .ref a7, .int x1])), (a1, .inl (cJ, 25, .inr (.inl g0))), (a2, .inl (cJ, 5, .inr (.inl g1))), (a3, .inl (cJ, 25, .inr (.inl g2))), (a4, .inl (cI, 5, .inl f0)), (a5, .inl (cI, 5, .inl f1)), (a7, .inl (cI, 5, .inl f2))]) [0, 1, 2, 3, 4, 5, 6] (by decide) rfl) hS
theorem om_72 {a : Int} (h0 : (0 ≤ a)) : (-2147483648 ≤ a * 6) := by omega
theorem om_73 {a : Int} (h0 : (a ≤ 4)) : (a * 6 ≤ 2147483647) := by omega
theorem om_74 {a b c : Int} (h0 : (a = c * 6)) (h1 : (0 ≤ b)) (h2 : (0 ≤ c)) : (-2147483648 ≤ a + b) := by omega
theorem om_75 {a b c : Int} (h0 : (a = c * 6)) (h1 : (b ≤ 5)) (h2 : (c ≤ 4)) : (a + b ≤ 2147483647) := by omega
theorem om_76 {a b c d : Int} (h0 : (a = b + c)) (h1 : (b = d * 6)) (h2 : (0 ≤ c)) (h3 : (0 ≤ d)) : (0 ≤ a) := by omega
theorem om_77 {a b c d : Int} (h0 : (a = b + c)) (h1 : (b = d * 6)) (h2 : (c ≤ 5)) (h3 : (d ≤ 4)) : (a < (30 : Nat)) := by omega
theorem om_78 {a : Int} (h0 : ((-242) ≤ a)) (h1 : (a ≤ 242)) : (((-242) ≤ a ∧ a ≤ 242)) := by omega
theorem om_79 {a : Int} (h0 : ((-242) ≤ a)) (h1 : (a ≤ 242)) : (-242 ≤ a ∧ a ≤ 242) := by omega
set_option maxHeartbeats 4000000 in
set_option maxRecDepth 100000 in
theorem k_X8_at_x (l : Launch) (D : va_G) (cB cC cI cJ : ClassId) (sz : Nat) (a0 a1 : Nat) (x0 x1 : Int32) (f0 : Nat → Int32) (hp1 : (0 ≤ x0.toInt ∧ x0.toInt ≤ 5)) (hp2 : (0 ≤ x1.toInt ∧ x1.toInt ≤ 4)) (hg_tb : TB f0 242) : Met l yX8_at (.code yX8_at cX8_at 3 (some .int) :: lw_gd) ({ frames := 0, cells := 0, slots := 0, locals := 0 }) (gPre D [(cB, .byte), (cC, .char), (cI, .int), (cJ, .long)] [.ref a0, .int x0, .int x1] [(a0, .inr (8, [.ref a1])), (a1, .inl (cI, 30, .inl f0))] sz) (va_Qi (fun r u => ((-242) ≤ r.toInt ∧ r.toInt ≤ 242) ∧ (r = f0 (6 * x1.toInt + x0.toInt).toNat) ∧ (-242 ≤ r.toInt ∧ r.toInt ≤ 242)) (gB D (va_A [(a0, .inr (8, [.ref a1])), (a1, .inl (cI, 30, .inl f0))] sz) (fun u : gEx => [(a0, .inr (8, [.ref a1])), (a1, .inl (cI, 30, .inl f0))])) (va_A [(a0, .inr (8, [.ref a1])), (a1, .inl (cI, 30, .inl f0))] sz)) 0 0 (va_A [(a0, .inr (8, [.ref a1])), (a1, .inl (cI, 30, .inl f0))] sz) := by
  refine gOf_i (by decide +kernel) (Nat.le_of_ble_eq_true rfl) ?_
  intro p e s m args below meth c ls A Q hx hb hts hown hml hN hK hP hD hA hl hret
  replace hown : s.vm.findClass RX8 = some m.cls := hown
  have hS : va_S A s.heap s.heap [] := va_S.rf
  replace hP : va_P D gcl [(a0, .inr (8, [.ref a1])), (a1, .inl (cI, 30, .inl f0))] s.heap := hP
  replace hl : lv_has ls 3 [(0, .ref a0), (1, .int x0), (2, .int x1)] := hl
  refine lv_aload_n (pc := 0) hx hb dX8_at_0 rfl (lv_at hl 0 rfl) ?_
  refine va_get (pc := 1) (ci := 8) (v := .ref a1) (C := RX8) (T := TX8) (N := 1) hx hb hts iX8 hown hK hP 0 rfl rfl 0 (by decide) (hts _ tw_62) (fun _ h9 => h9) rfl dX8_at_1 ?_
  refine lv_iload_n (pc := 4) hx hb dX8_at_4 rfl (lv_at hl 2 rfl) ?_
  refine lv_bipush (pc := 5) (v := 6) hx hb dX8_at_5 (by decide) ?_
  refine b_imul (pc := 7) hx hb rfl tI_6 (by first | exact (om_72 hp2.1) | (omega)) (by first | exact (om_73 hp2.2) | (omega)) dX8_at_7 (fun x_1 ex_1 => ?_)
  refine lv_iload_n (pc := 8) hx hb dX8_at_8 rfl (lv_at hl 1 rfl) ?_
  refine b_iadd (pc := 9) hx hb rfl rfl (by first | exact (om_74 ex_1 hp1.1 hp2.1) | (omega)) (by first | exact (om_75 ex_1 hp1.2 hp2.2) | (omega)) dX8_at_9 (fun x_2 ex_2 => ?_)
  refine va_iald (pc := 10) hx hb hK hP 1 2 rfl rfl (n_in rfl (by first | exact (om_76 ex_2 ex_1 hp1.1 hp2.1) | (omega)) (by first | exact (om_77 ex_2 ex_1 hp1.2 hp2.2) | (omega))) dX8_at_10 ?_
  refine lv_topi (fun x_3 ex_3 => ?_)
  have rx_3 := n_rng x_3
  replace ex_3 : x_3 = f0 (x_2.toInt).toNat := ex_3
  have tx_3 := congrArg Int32.toInt ex_3
  have rrx_3 : ((-242) ≤ x_3.toInt ∧ x_3.toInt ≤ 242) := (by rw [ex_3]; exact hg_tb _ (by omega))
  exact hret x_3 ((fun _ => 0), (fun _ => (fun _ => 0)), (fun _ => (fun _ => 0)), (fun _ => 0), (fun _ => 0)) dX8_at_11 ⟨(show ((-242) ≤ x_3.toInt ∧ x_3.toInt ≤ 242) from (by first | exact (om_78 rrx_3.1 rrx_3.2) | (omega))), (show x_3 = f0 (6 * x1.toInt + x0.toInt).toNat from (e_ld ex_3 (by omega)).symm), (show -242 ≤ x_3.toInt ∧ x_3.toInt ≤ 242 from (by first | exact (om_79 rrx_3.1 rrx_3.2) | (omega)))⟩ (g_psub (wc := [(a0, .inr (8, [.ref a1])), (a1, .inl (cI, 30, .inl f0))]) hP [0, 1] rfl) (hD.sub (ws' := [(a0, .inr (8, [.ref a1])), (a1, .inl (cI, 30, .inl f0))]) [0, 1] (by decide) rfl) hS
theorem om_80 {a : Int} (h0 : (0 ≤ a)) (h1 : (a < 6)) : ((0 ≤ a ∧ a ≤ 5)) := by omega
theorem om_81 {a : Int} (h0 : (-242 ≤ a)) (h1 : (a ≤ 242)) : (-242 ≤ a ∧ a ≤ 242) := by omega
theorem om_82 {a b : Int} (h0 : (-(242 * 242) ≤ a * b)) : (-2147483648 ≤ a * b) := by omega
theorem om_83 {a b : Int} (h0 : (a * b ≤ 242 * 242)) : (a * b ≤ 2147483647) := by omega
theorem om_84 {a b c : Int} (h0 : (a = b * c)) (h1 : (-(242 * 242) ≤ b * c)) (h2 : (b * c ≤ 242 * 242)) : (((-58564) ≤ a ∧ a ≤ 58564)) := by omega
theorem om_85 {a b : Int} (h0 : ((-58564) ≤ b)) (h1 : ((-400000) ≤ a)) : (-2147483648 ≤ a + b) := by omega
theorem om_86 {a b : Int} (h0 : (b ≤ 58564)) (h1 : (a ≤ 400000)) : (a + b ≤ 2147483647) := by omega
theorem om_87 {a : Int} (h0 : (a < 6)) : (a + 1 ≤ 2147483647) := by omega
theorem om_88 {a b : Int} (h0 : (a = b + 1)) (h1 : (0 ≤ b)) (h2 : (b < 6)) : ((0 ≤ a ∧ a ≤ 6)) := by omega
theorem om_89 {a b c d : Int} (h0 : (a = b + c)) (h1 : ((-58564) ≤ c)) (h2 : (-58564 * d ≤ b)) (h3 : (d < 6)) (h4 : (c ≤ 58564)) (h5 : (b ≤ 58564 * d)) : (((-400000) ≤ a ∧ a ≤ 400000)) := by omega
theorem om_90 {a b c d e : Int} (h0 : (a = b + e)) (h1 : (e = c * d)) : (a = b + c * d) := by omega
theorem om_91 {a b c d e : Int} (h0 : (a = c + 1)) (h1 : (b = d + e)) (h2 : ((-58564) ≤ e)) (h3 : (-58564 * c ≤ d)) (h4 : (e ≤ 58564)) (h5 : (d ≤ 58564 * c)) : ((-58564 * a ≤ b ∧ b ≤ 58564 * a)) := by omega
set_option maxHeartbeats 4000000 in
set_option maxRecDepth 100000 in
theorem k_X8_productOf_x (l : Launch) (D : va_G) (cB cC cI cJ : ClassId) (sz : Nat) (a0 a1 : Nat) (x0 x1 : Int32) (f0 : Nat → Int32) (hp1 : (0 ≤ x0.toInt ∧ x0.toInt ≤ 4)) (hp2 : (0 ≤ x1.toInt ∧ x1.toInt ≤ 4)) (hg_tb : TB f0 242) : Met l yX8_productOf (.code yX8_productOf cX8_productOf 5 (some .int) :: lw_gd) ({ frames := 1, cells := 0, slots := 0, locals := 22 }) (gPre D [(cB, .byte), (cC, .char), (cI, .int), (cJ, .long)] [.ref a0, .int x0, .int x1] [(a0, .inr (8, [.ref a1])), (a1, .inl (cI, 30, .inl f0))] sz) (va_Qi (fun r u => ((-400000) ≤ r.toInt ∧ r.toInt ≤ 400000) ∧ (r.toInt = dtn f0 x0.toInt x1.toInt 6)) (gB D (va_A [(a0, .inr (8, [.ref a1])), (a1, .inl (cI, 30, .inl f0))] sz) (fun u : gEx => [(a0, .inr (8, [.ref a1])), (a1, .inl (cI, 30, .inl f0))])) (va_A [(a0, .inr (8, [.ref a1])), (a1, .inl (cI, 30, .inl f0))] sz)) 0 0 (va_A [(a0, .inr (8, [.ref a1])), (a1, .inl (cI, 30, .inl f0))] sz) := by
  refine gOf_i (by decide +kernel) (Nat.le_of_ble_eq_true rfl) ?_
  intro p e s m args below meth c ls A Q hx hb hts hown hml hN hK hP hD hA hl hret
  replace hown : s.vm.findClass RX8 = some m.cls := hown
  have hS : va_S A s.heap s.heap [] := va_S.rf
  replace hP : va_P D gcl [(a0, .inr (8, [.ref a1])), (a1, .inl (cI, 30, .inl f0))] s.heap := hP
  replace hl : lv_has ls 5 [(0, .ref a0), (1, .int x0), (2, .int x1)] := hl
  refine lv_iconst (pc := 0) (v := 0) hx hb dX8_productOf_0 (by decide) ?_
  refine lv_istore_n (pc := 1) (lv' := [(3, .int 0), (0, .ref a0), (1, .int x0), (2, .int x1)]) hx hb dX8_productOf_1 rfl hl (by decide) rfl (fun ls hl => ?_)
  refine lv_iconst (pc := 2) (v := 0) hx hb dX8_productOf_2 (by decide) ?_
  refine lv_istore (pc := 3) (lv' := [(4, .int 0), (3, .int 0), (0, .ref a0), (1, .int x0), (2, .int x1)]) hx hb dX8_productOf_3 hl (by decide) rfl (fun ls hl => ?_)
  have lp_7 : ∀ (n : Nat) (x_1 x_3 : Int32) (H : Heap) (locs : List Loc) (ls : Array Slot), (0 ≤ x_1.toInt ∧ x_1.toInt ≤ 6) → ((-400000) ≤ x_3.toInt ∧ x_3.toInt ≤ 400000) → (x_3.toInt = dtn f0 x0.toInt x1.toInt (x_1.toInt).toNat) → (-58564 * x_1.toInt ≤ x_3.toInt ∧ x_3.toInt ≤ 58564 * x_1.toInt) → (2147483647 - x_1.toInt).toNat < n → va_P D gcl [(a0, .inr (8, [.ref a1])), (a1, .inl (cI, 30, .inl f0))] H → va_D A [(a0, .inr (8, [.ref a1])), (a1, .inl (cI, 30, .inl f0))] → va_S A s.heap H locs → lv_has ls 5 [(4, .int x_1), (3, .int x_3), (0, .ref a0), (1, .int x0), (2, .int x1)] → W p l e ({ frames := 1, cells := 0, slots := 0, locals := 22 }) s m args below meth c H locs 0 0 Q (F0 m 5 ls []) := by
    intro n
    induction n with
    | zero => intro x_1 x_3 H locs ls hi_2 hi_4 hi_5 hi_6 hmu; exact absurd hmu (Nat.not_lt_zero _)
    | succ n ih_lp_7 =>
      intro x_1 x_3 H locs ls hi_2 hi_4 hi_5 hi_6 hmu_lp_7 hP hD hS hl
      refine lv_iload (pc := 5) hx hb dX8_productOf_5 (lv_at hl 0 rfl) ?_
      refine lv_bipush (pc := 7) (v := 6) hx hb dX8_productOf_7 (by decide) ?_
      refine b_icmp_ge (pc := 9) (tgt := 36) hx hb rfl tI_6  dX8_productOf_9 (by decide) (fun c_8 => ?_) (fun c_8 => ?_)
      ·
        refine lv_iload_n (pc := 36) hx hb dX8_productOf_36 rfl (lv_at hl 1 rfl) ?_
        exact hret x_3 ((fun _ => 0), (fun _ => (fun _ => 0)), (fun _ => (fun _ => 0)), (fun _ => 0), (fun _ => 0)) dX8_productOf_37 ⟨(show ((-400000) ≤ x_3.toInt ∧ x_3.toInt ≤ 400000) from hi_4), (show x_3.toInt = dtn f0 x0.toInt x1.toInt 6 from (by have e9 : x_1.toInt = 6 := (by omega); have q9 := hi_5; rw [e9] at q9; exact q9))⟩ (g_psub (wc := [(a0, .inr (8, [.ref a1])), (a1, .inl (cI, 30, .inl f0))]) hP [0, 1] rfl) (hD.sub (ws' := [(a0, .inr (8, [.ref a1])), (a1, .inl (cI, 30, .inl f0))]) [0, 1] (by decide) rfl) hS
      ·
        refine lv_iload_n (pc := 12) hx hb dX8_productOf_12 rfl (lv_at hl 1 rfl) ?_
        refine lv_aload_n (pc := 13) hx hb dX8_productOf_13 rfl (lv_at hl 2 rfl) ?_
        refine lv_iload (pc := 14) hx hb dX8_productOf_14 (lv_at hl 0 rfl) ?_
        refine lv_iload_n (pc := 16) hx hb dX8_productOf_16 rfl (lv_at hl 3 rfl) ?_
        refine gd_i (pc := 17) (wc := [(a0, .inr (8, [.ref a1])), (a1, .inl (cI, 30, .inl f0))]) hP hD hS hA [0, 1] rfl (by decide +kernel) (fun _ => by rfl) (fun hPc hDc => va_runV (As := [.int x_1, .int x0]) (rest := [.int x_3]) ⟨hx, hb, hml, hown, hts⟩ (k_X8_at_x l D cB cC cI cJ _ a0 a1 x_1 x0 f0 (by first | exact (om_80 hi_2.1 c_8) | (omega)) hp1 (hg_tb)) ⟨gcwB hts tw_791 tw_5 tw_800 hd_yX8_at ⟨Nat.le_of_ble_eq_true rfl, Nat.le_of_ble_eq_true rfl⟩, hts _ tw_789, hts _ tw_790⟩ ⟨gblind, va_recv hK hPc (ci := 8) (q0 := 0) rfl rfl, (gpreS hPc hK hDc hN).2⟩ rfl rfl hl.1 rfl (lv_room (Nat.le_of_ble_eq_true rfl)) dX8_productOf_17 ⟨Nat.le_of_ble_eq_true rfl, Nat.le_of_ble_eq_true rfl⟩) (fun r_10 u_9 H locs hw_11 hP hD hS => ?_)
        replace hP : va_P D gcl [(a0, .inr (8, [.ref a1])), (a1, .inl (cI, 30, .inl f0))] H := hP
        replace hD : va_D A [(a0, .inr (8, [.ref a1])), (a1, .inl (cI, 30, .inl f0))] := hD
        obtain ⟨hw_12, hw_13, hw_14⟩ := hw_11
        replace hw_12 : ((-242) ≤ r_10.toInt ∧ r_10.toInt ≤ 242) := hw_12
        replace hw_13 : (r_10 = f0 (6 * x0.toInt + x_1.toInt).toNat) := hw_13
        replace hw_14 : (-242 ≤ r_10.toInt ∧ r_10.toInt ≤ 242) := hw_14
        have rr_10 := n_rng r_10
        refine lv_aload_n (pc := 20) hx hb dX8_productOf_20 rfl (lv_at hl 2 rfl) ?_
        refine lv_iload (pc := 21) hx hb dX8_productOf_21 (lv_at hl 0 rfl) ?_
        refine lv_iload_n (pc := 23) hx hb dX8_productOf_23 rfl (lv_at hl 4 rfl) ?_
        refine gd_i (pc := 24) (wc := [(a0, .inr (8, [.ref a1])), (a1, .inl (cI, 30, .inl f0))]) hP hD hS hA [0, 1] rfl (by decide +kernel) (fun _ => by rfl) (fun hPc hDc => va_runV (As := [.int x_1, .int x1]) (rest := [.int r_10, .int x_3]) ⟨hx, hb, hml, hown, hts⟩ (k_X8_at_x l D cB cC cI cJ _ a0 a1 x_1 x1 f0 (by first | exact (om_80 hi_2.1 c_8) | (omega)) hp2 (hg_tb)) ⟨gcwB hts tw_791 tw_5 tw_800 hd_yX8_at ⟨Nat.le_of_ble_eq_true rfl, Nat.le_of_ble_eq_true rfl⟩, hts _ tw_789, hts _ tw_790⟩ ⟨gblind, va_recv hK hPc (ci := 8) (q0 := 0) rfl rfl, (gpreS hPc hK hDc hN).2⟩ rfl rfl hl.1 rfl (lv_room (Nat.le_of_ble_eq_true rfl)) dX8_productOf_24 ⟨Nat.le_of_ble_eq_true rfl, Nat.le_of_ble_eq_true rfl⟩) (fun r_16 u_15 H locs hw_17 hP hD hS => ?_)
        replace hP : va_P D gcl [(a0, .inr (8, [.ref a1])), (a1, .inl (cI, 30, .inl f0))] H := hP
        replace hD : va_D A [(a0, .inr (8, [.ref a1])), (a1, .inl (cI, 30, .inl f0))] := hD
        obtain ⟨hw_18, hw_19, hw_20⟩ := hw_17
        replace hw_18 : ((-242) ≤ r_16.toInt ∧ r_16.toInt ≤ 242) := hw_18
        replace hw_19 : (r_16 = f0 (6 * x1.toInt + x_1.toInt).toNat) := hw_19
        replace hw_20 : (-242 ≤ r_16.toInt ∧ r_16.toInt ≤ 242) := hw_20
        have rr_16 := n_rng r_16
        have qx_21 := n_mulb (A := 242) (B := 242) (by decide) (by decide) (show -242 ≤ r_10.toInt ∧ r_10.toInt ≤ 242 from (by first | exact (om_81 hw_14.1 hw_14.2) | (omega))) (show -242 ≤ r_16.toInt ∧ r_16.toInt ≤ 242 from (by first | exact (om_81 hw_20.1 hw_20.2) | (omega)))
        refine b_imul (pc := 27) hx hb rfl rfl (by first | exact (om_82 qx_21.1) | (omega)) (by first | exact (om_83 qx_21.2) | (omega)) dX8_productOf_27 (fun x_21 ex_21 => ?_)
        have rx_21 : ((-58564) ≤ x_21.toInt ∧ x_21.toInt ≤ 58564) := (by first | exact (om_84 ex_21 qx_21.1 qx_21.2) | (omega))
        refine b_iadd (pc := 28) hx hb rfl rfl (by first | exact (om_85 rx_21.1 hi_4.1) | (omega)) (by first | exact (om_86 rx_21.2 hi_4.2) | (omega)) dX8_productOf_28 (fun x_22 ex_22 => ?_)
        refine lv_istore_n (pc := 29) (lv' := [(3, .int x_22), (4, .int x_1), (0, .ref a0), (1, .int x0), (2, .int x1)]) hx hb dX8_productOf_29 rfl hl (by decide) rfl (fun ls hl => ?_)
        refine b_iinc (pc := 30) hx hb dX8_productOf_30 hl (k := 1) rfl rfl tI_1 (by first | exact (om_4 hi_2.1) | (omega)) (by first | exact (om_87 c_8) | (omega)) (by decide) (fun x_23 ex_23 ls hl => ?_)
        replace hl : lv_has ls 5 [(4, .int x_23), (3, .int x_22), (0, .ref a0), (1, .int x0), (2, .int x1)] := hl
        refine lv_goto (pc := 33) (tgt := 5) hx hb dX8_productOf_33 (by decide) ?_
        exact ih_lp_7 x_23 x_22 _ _ ls (by first | exact (om_88 ex_23 hi_2.1 c_8) | (omega)) (by first | exact (om_89 ex_22 rx_21.1 hi_6.1 c_8 rx_21.2 hi_6.2) | (omega)) (dtn_step hi_5 hw_13 hw_19 (by first | exact (om_2 hi_2.1) | (omega)) (by first | exact (om_90 ex_22 ex_21) | (omega)) (by first | exact (om_59 ex_23) | (omega))) (by first | exact (om_91 ex_23 ex_22 rx_21.1 hi_6.1 rx_21.2 hi_6.2) | (omega)) (by omega) hP hD hS (lv_sub hl [0, 1, 2, 3, 4] rfl)
  exact lp_7 _ 0 0 _ _ ls (n_c tI_0 (by decide)) (n_c tI_0 (by decide)) (tI_0) (by have q := tI_0; omega) (Nat.lt_succ_self _) hP hD hS (lv_sub hl [0, 1, 2, 3, 4] rfl)
theorem om_92 {a : Int} (h0 : ((-1) ≤ a)) : (-2147483648 ≤ a - 1) := by omega
theorem om_93 {a : Int} (h0 : (a ≤ 5)) : (a - 1 ≤ 2147483647) := by omega
theorem om_94 {a b c : Int} (h0 : ((a = 0 ∧ b ≤ 0) ∨ (a = b ∧ 0 < b))) (h1 : (c > a)) (h2 : (c ≤ 5)) : ((0 ≤ a ∧ a ≤ 4)) := by omega
theorem om_95 {a b : Int} (h0 : (b > a)) : (a < b) := by omega
theorem om_96 {a b c : Int} (h0 : ((a = 0 ∧ c ≤ 0) ∨ (a = c ∧ 0 < c))) (h1 : (c = b - 1)) : ((a = b - 1 ∧ 1 ≤ b) ∨ (a = 0 ∧ b ≤ 0)) := by omega
theorem om_97 {a : Int} (h0 : (a ≤ 5)) : (a < (25 : Nat)) := by omega
theorem om_98 {a b c d : Int} (h0 : (a = b + 1)) (h1 : (0 ≤ b)) (h2 : (b ≤ c)) (h3 : (d > c)) (h4 : (d ≤ 5)) : ((0 ≤ a ∧ a ≤ 5)) := by omega
theorem om_99 {a b c : Int} (h0 : (a = c + 1)) (h1 : (c ≤ b)) : ((a ≤ b + 1)) := by omega
theorem om_100 {a : Int} (h0 : (a ≤ 5)) : (a * 5 ≤ 2147483647) := by omega
theorem om_101 {a b c : Int} (h0 : (a = c * 5)) (h1 : (0 ≤ b)) (h2 : (0 ≤ c)) : (-2147483648 ≤ a + b) := by omega
theorem om_102 {a b c : Int} (h0 : (a = c * 5)) (h1 : (b ≤ 5)) (h2 : (c ≤ 5)) : (a + b ≤ 2147483647) := by omega
theorem om_103 {a b c d : Int} (h0 : (0 ≤ a)) (h1 : ((b = 0 ∧ c ≤ 0) ∨ (b = c ∧ 0 < c))) (h2 : (a ≤ b)) (h3 : (c = d - 1)) (h4 : (d ≤ 5)) : ((0 ≤ a ∧ a ≤ 4)) := by omega
theorem om_104 {a b c d : Int} (h0 : (a = b + c)) (h1 : (b = d * 5)) (h2 : (0 ≤ c)) (h3 : (0 ≤ d)) : (0 ≤ a) := by omega
theorem om_105 {a b c d e f g : Int} (h0 : ((b = 0 ∧ c ≤ 0) ∨ (b = c ∧ 0 < c))) (h1 : (a = d + e)) (h2 : (d = f * 5)) (h3 : (e ≤ b)) (h4 : (f ≤ b)) (h5 : (c = g - 1)) (h6 : (g ≤ 5)) : (a < (25 : Nat)) := by omega
theorem om_106 {a b c d e : Int} (h0 : (a = b + 1)) (h1 : (0 ≤ b)) (h2 : ((c = 0 ∧ d ≤ 0) ∨ (c = d ∧ 0 < d))) (h3 : (b ≤ c)) (h4 : (d = e - 1)) (h5 : (e ≤ 5)) : ((0 ≤ a ∧ a ≤ 5)) := by omega
theorem om_107 {a b : Int} (h0 : (0 ≤ a)) (h1 : (a ≤ b)) : (0 ≤ a ∧ a ≤ b) := by omega
theorem om_108 {a b c : Int} (h0 : ((a = 0 ∧ b ≤ 0) ∨ (a = b ∧ 0 < b))) (h1 : (b = c - 1)) (h2 : (c ≤ 5)) : (a ≤ 4) := by omega
set_option maxHeartbeats 4000000 in
set_option maxRecDepth 100000 in
theorem k_X10_start_e (l : Launch) (D : va_G) (cB cC cI cJ : ClassId) (sz : Nat) (a0 a1 a2 a3 a4 a5 a6 a7 a8 a9 a10 a11 a12 : Nat) (x0 x1 x2 x3 x4 x5 x6 x7 : Int32) (f0 : Nat → Int32) (g0 g1 g2 : Nat → Int64) (h_x0 : (0 ≤ x0.toInt ∧ x0.toInt ≤ 4)) (h_x1 : ((-1) ≤ x1.toInt ∧ x1.toInt ≤ 8)) (h_x2 : ((-1) ≤ x2.toInt ∧ x2.toInt ≤ 5)) (h_x3 : ((-1) ≤ x3.toInt ∧ x3.toInt ≤ 6)) (h_x4 : (0 ≤ x4.toInt ∧ x4.toInt ≤ 6)) (h_x5 : (0 ≤ x5.toInt ∧ x5.toInt ≤ 16)) (hg_tb : TB f0 99) : Met l yX10_start (.code yX10_start cX10_start 4 none :: lw_gd) ({ frames := 2, cells := 0, slots := 0, locals := 46 }) (gPre D [(cB, .byte), (cC, .char), (cI, .int), (cJ, .long)] [.ref a0, .ref a1] [(a0, .inr (10, [.ref a2, .ref a3, .ref a4, .ref a5, .ref a6, .ref a7, .ref a8, .int x0])), (a2, .inl (cJ, 25, .inr (.inl g0))), (a3, .inl (cJ, 5, .inr (.inl g1))), (a4, .inl (cJ, 25, .inr (.inl g2))), (a1, .inr (1, [.ref a9, .ref a10, .ref a11, .int x1, .int x2, .int x3, .int x4, .int x5, .int x6, .int x7])), (a9, .inr (8, [.ref a12])), (a12, .inl (cI, 30, .inl f0))] sz) (va_Qv (fun u => (0 ≤ (u.2.2.2.1 0).toInt ∧ (u.2.2.2.1 0).toInt ≤ 4) ∧ (prW (u.2.2.1 0) f0 (u.2.2.2.1 0).toInt) ∧ (z0W (u.2.2.1 1) (u.2.2.1 2) (u.2.2.2.1 0).toInt) ∧ (((u.2.2.2.1 0).toInt = x2.toInt - 1 ∧ 1 ≤ x2.toInt) ∨ ((u.2.2.2.1 0).toInt = 0 ∧ x2.toInt ≤ 0))) (gB D (va_A [(a0, .inr (10, [.ref a2, .ref a3, .ref a4, .ref a5, .ref a6, .ref a7, .ref a8, .int x0])), (a2, .inl (cJ, 25, .inr (.inl g0))), (a3, .inl (cJ, 5, .inr (.inl g1))), (a4, .inl (cJ, 25, .inr (.inl g2))), (a1, .inr (1, [.ref a9, .ref a10, .ref a11, .int x1, .int x2, .int x3, .int x4, .int x5, .int x6, .int x7])), (a9, .inr (8, [.ref a12])), (a12, .inl (cI, 30, .inl f0))] sz) (fun u : gEx => [(a0, .inr (10, [.ref a2, .ref a3, .ref a4, .ref a5, .ref a6, .ref a7, .ref a8, .int (u.2.2.2.1 0)])), (a2, .inl (cJ, 25, .inr (.inl (u.2.2.1 0)))), (a3, .inl (cJ, 5, .inr (.inl (u.2.2.1 1)))), (a4, .inl (cJ, 25, .inr (.inl (u.2.2.1 2)))), (a1, .inr (1, [.ref a9, .ref a10, .ref a11, .int x1, .int x2, .int x3, .int x4, .int x5, .int x6, .int x7])), (a9, .inr (8, [.ref a12])), (a12, .inl (cI, 30, .inl f0))])) (va_A [(a0, .inr (10, [.ref a2, .ref a3, .ref a4, .ref a5, .ref a6, .ref a7, .ref a8, .int x0])), (a2, .inl (cJ, 25, .inr (.inl g0))), (a3, .inl (cJ, 5, .inr (.inl g1))), (a4, .inl (cJ, 25, .inr (.inl g2))), (a1, .inr (1, [.ref a9, .ref a10, .ref a11, .int x1, .int x2, .int x3, .int x4, .int x5, .int x6, .int x7])), (a9, .inr (8, [.ref a12])), (a12, .inl (cI, 30, .inl f0))] sz)) 0 0 (va_A [(a0, .inr (10, [.ref a2, .ref a3, .ref a4, .ref a5, .ref a6, .ref a7, .ref a8, .int x0])), (a2, .inl (cJ, 25, .inr (.inl g0))), (a3, .inl (cJ, 5, .inr (.inl g1))), (a4, .inl (cJ, 25, .inr (.inl g2))), (a1, .inr (1, [.ref a9, .ref a10, .ref a11, .int x1, .int x2, .int x3, .int x4, .int x5, .int x6, .int x7])), (a9, .inr (8, [.ref a12])), (a12, .inl (cI, 30, .inl f0))] sz) := by
  refine gOf_v (by decide +kernel) (Nat.le_of_ble_eq_true rfl) ?_
  intro p e s m args below meth c ls A Q hx hb hts hown hml hN hK hP hD hA hl hret
  replace hown : s.vm.findClass RX10 = some m.cls := hown
  have hS : va_S A s.heap s.heap [] := va_S.rf
  replace hP : va_P D gcl [(a0, .inr (10, [.ref a2, .ref a3, .ref a4, .ref a5, .ref a6, .ref a7, .ref a8, .int x0])), (a2, .inl (cJ, 25, .inr (.inl g0))), (a3, .inl (cJ, 5, .inr (.inl g1))), (a4, .inl (cJ, 25, .inr (.inl g2))), (a1, .inr (1, [.ref a9, .ref a10, .ref a11, .int x1, .int x2, .int x3, .int x4, .int x5, .int x6, .int x7])), (a9, .inr (8, [.ref a12])), (a12, .inl (cI, 30, .inl f0))] s.heap := hP
  replace hl : lv_has ls 4 [(0, .ref a0), (1, .ref a1)] := hl
  have rx6 := n_rng x6
  have rx7 := n_rng x7
  refine lv_aload_n (pc := 0) hx hb dX10_start_0 rfl (lv_at hl 0 rfl) ?_
  refine lv_iconst (pc := 1) (v := 0) hx hb dX10_start_1 (by decide) ?_
  refine lv_aload_n (pc := 2) hx hb dX10_start_2 rfl (lv_at hl 1 rfl) ?_
  refine va_getN (pc := 3) (ci := 1) (v := .int x2) (C := RX1) (T := TX1) (N := 10) hx hb hts iX1 hown hK hP 4 rfl rfl 4 (by decide) (va_Nw.use rfl (hN _ tn_117)) (fun _ h9 => h9) rfl dX10_start_3 ?_
  refine lv_iconst (pc := 6) (v := 1) hx hb dX10_start_6 (by decide) ?_
  refine b_isub (pc := 7) hx hb rfl tI_1 (by first | exact (om_92 h_x2.1) | (omega)) (by first | exact (om_93 h_x2.2) | (omega)) dX10_start_7 (fun x_1 ex_1 => ?_)
  refine va_mmax (pc := 8) hx hb (hml.trans hl.1.symm) hown (hts _ tw_884) (hts _ tw_885) (hts _ tw_19) (hts _ tw_886) (Nat.le_of_ble_eq_true rfl) (Nat.le_of_ble_eq_true rfl) (Nat.le_of_ble_eq_true rfl) (Nat.le_of_ble_eq_true rfl) dX10_start_8 ?_
  refine lv_topi (fun x_2 ex_2 => ?_)
  have ex_2 := n_max tI_0 rfl ex_2
  have rx_2 := n_rng x_2
  refine va_put (pc := 11) (ci := 10) (v := .int x_2) (ty := .int) (C := RX10) (T := TX10) (N := 8) hx hb hts iX10 tyX10 tyX10_ok nmX10 hown hK hP hD hS 0 rfl rfl 7 (by decide) (hts _ tw_220) (fun _ h9 => h9) rfl (by decide +kernel) rfl rfl (Nat.le_of_ble_eq_true rfl) dX10_start_11 (fun H locs hP hD hS => ?_)
  replace hP : va_P D gcl [(a0, .inr (10, [.ref a2, .ref a3, .ref a4, .ref a5, .ref a6, .ref a7, .ref a8, .int x_2])), (a2, .inl (cJ, 25, .inr (.inl g0))), (a3, .inl (cJ, 5, .inr (.inl g1))), (a4, .inl (cJ, 25, .inr (.inl g2))), (a1, .inr (1, [.ref a9, .ref a10, .ref a11, .int x1, .int x2, .int x3, .int x4, .int x5, .int x6, .int x7])), (a9, .inr (8, [.ref a12])), (a12, .inl (cI, 30, .inl f0))] H := hP
  replace hD : va_D A [(a0, .inr (10, [.ref a2, .ref a3, .ref a4, .ref a5, .ref a6, .ref a7, .ref a8, .int x_2])), (a2, .inl (cJ, 25, .inr (.inl g0))), (a3, .inl (cJ, 5, .inr (.inl g1))), (a4, .inl (cJ, 25, .inr (.inl g2))), (a1, .inr (1, [.ref a9, .ref a10, .ref a11, .int x1, .int x2, .int x3, .int x4, .int x5, .int x6, .int x7])), (a9, .inr (8, [.ref a12])), (a12, .inl (cI, 30, .inl f0))] := hD
  refine lv_iconst (pc := 14) (v := 0) hx hb dX10_start_14 (by decide) ?_
  refine lv_istore_n (pc := 15) (lv' := [(2, .int 0), (0, .ref a0), (1, .ref a1)]) hx hb dX10_start_15 rfl hl (by decide) rfl (fun ls hl => ?_)
  have lp_10 : ∀ (n : Nat) (x_3 : Int32) (g_5 g_6 : Nat → Int64) (H : Heap) (locs : List Loc) (ls : Array Slot), (0 ≤ x_3.toInt ∧ x_3.toInt ≤ 5) → (x_3.toInt ≤ x_2.toInt + 1) → (prP g_5 f0 x_2.toInt x_3.toInt 0) → (czW g_6 x_3.toInt) → (2147483647 - x_3.toInt).toNat < n → va_P D gcl [(a0, .inr (10, [.ref a2, .ref a3, .ref a4, .ref a5, .ref a6, .ref a7, .ref a8, .int x_2])), (a2, .inl (cJ, 25, .inr (.inl g_5))), (a3, .inl (cJ, 5, .inr (.inl g1))), (a4, .inl (cJ, 25, .inr (.inl g_6))), (a1, .inr (1, [.ref a9, .ref a10, .ref a11, .int x1, .int x2, .int x3, .int x4, .int x5, .int x6, .int x7])), (a9, .inr (8, [.ref a12])), (a12, .inl (cI, 30, .inl f0))] H → va_D A [(a0, .inr (10, [.ref a2, .ref a3, .ref a4, .ref a5, .ref a6, .ref a7, .ref a8, .int x_2])), (a2, .inl (cJ, 25, .inr (.inl g_5))), (a3, .inl (cJ, 5, .inr (.inl g1))), (a4, .inl (cJ, 25, .inr (.inl g_6))), (a1, .inr (1, [.ref a9, .ref a10, .ref a11, .int x1, .int x2, .int x3, .int x4, .int x5, .int x6, .int x7])), (a9, .inr (8, [.ref a12])), (a12, .inl (cI, 30, .inl f0))] → va_S A s.heap H locs → lv_has ls 4 [(2, .int x_3), (0, .ref a0), (1, .ref a1)] → W p l e ({ frames := 2, cells := 0, slots := 0, locals := 46 }) s m args below meth c H locs 0 0 Q (F0 m 16 ls []) := by
    intro n
    induction n with
    | zero => intro x_3 g_5 g_6 H locs ls hi_4 hi_7 hi_8 hi_9 hmu; exact absurd hmu (Nat.not_lt_zero _)
    | succ n ih_lp_10 =>
      intro x_3 g_5 g_6 H locs ls hi_4 hi_7 hi_8 hi_9 hmu_lp_10 hP hD hS hl
      refine lv_iload_n (pc := 16) hx hb dX10_start_16 rfl (lv_at hl 0 rfl) ?_
      refine lv_aload_n (pc := 17) hx hb dX10_start_17 rfl (lv_at hl 1 rfl) ?_
      refine va_get (pc := 18) (ci := 10) (v := .int x_2) (C := RX10) (T := TX10) (N := 8) hx hb hts iX10 hown hK hP 0 rfl rfl 7 (by decide) (hts _ tw_220) (fun _ h9 => h9) rfl dX10_start_18 ?_
      refine b_icmp_gt (pc := 21) (tgt := 73) hx hb rfl rfl  dX10_start_21 (by decide) (fun c_11 => ?_) (fun c_11 => ?_)
      ·
        refine lv_aload_n (pc := 73) hx hb dX10_start_73 rfl (lv_at hl 1 rfl) ?_
        refine va_get (pc := 74) (ci := 10) (v := .ref a3) (C := RX10) (T := TX10) (N := 8) hx hb hts iX10 hown hK hP 0 rfl rfl 1 (by decide) (hts _ tw_209) (fun _ h9 => h9) rfl dX10_start_74 ?_
        refine lv_iconst (pc := 77) (v := 0) hx hb dX10_start_77 (by decide) ?_
        refine lv_lconst (pc := 78) (v := 0) hx hb dX10_start_78 (by decide) ?_
        refine e_lastore (pc := 79) hx hb hK hP hD hS 2 3 rfl rfl (gin rfl) dX10_start_79 (fun g_12 eg_12 H locs hP hD hS => ?_)
        replace hP : va_P D gcl [(a0, .inr (10, [.ref a2, .ref a3, .ref a4, .ref a5, .ref a6, .ref a7, .ref a8, .int x_2])), (a2, .inl (cJ, 25, .inr (.inl g_5))), (a3, .inl (cJ, 5, .inr (.inl g_12))), (a4, .inl (cJ, 25, .inr (.inl g_6))), (a1, .inr (1, [.ref a9, .ref a10, .ref a11, .int x1, .int x2, .int x3, .int x4, .int x5, .int x6, .int x7])), (a9, .inr (8, [.ref a12])), (a12, .inl (cI, 30, .inl f0))] H := hP
        replace hD : va_D A [(a0, .inr (10, [.ref a2, .ref a3, .ref a4, .ref a5, .ref a6, .ref a7, .ref a8, .int x_2])), (a2, .inl (cJ, 25, .inr (.inl g_5))), (a3, .inl (cJ, 5, .inr (.inl g_12))), (a4, .inl (cJ, 25, .inr (.inl g_6))), (a1, .inr (1, [.ref a9, .ref a10, .ref a11, .int x1, .int x2, .int x3, .int x4, .int x5, .int x6, .int x7])), (a9, .inr (8, [.ref a12])), (a12, .inl (cI, 30, .inl f0))] := hD
        exact hret ((fun _ => 0), (fun _ => (fun _ => 0)), (fun k => [g_5, g_12, g_6].getD k (fun _ => 0)), (fun k => [x_2].getD k 0), (fun _ => 0)) dX10_start_80 ⟨(show (0 ≤ (x_2 : Int32).toInt ∧ (x_2 : Int32).toInt ≤ 4) from (by first | exact (om_94 ex_2 c_11 hi_4.2) | (omega))), (show prW g_5 f0 x_2.toInt from pp_end hi_8 (by first | exact (om_95 c_11) | (omega))), (show z0W g_12 g_6 x_2.toInt from z0_end hi_9 (by first | exact (om_95 c_11) | (omega)) eg_12 rfl), (show (x_2.toInt = x2.toInt - 1 ∧ 1 ≤ x2.toInt) ∨ (x_2.toInt = 0 ∧ x2.toInt ≤ 0) from (by first | exact (om_96 ex_2 ex_1) | (omega)))⟩ (g_psub (wc := [(a0, .inr (10, [.ref a2, .ref a3, .ref a4, .ref a5, .ref a6, .ref a7, .ref a8, .int x_2])), (a2, .inl (cJ, 25, .inr (.inl g_5))), (a3, .inl (cJ, 5, .inr (.inl g_12))), (a4, .inl (cJ, 25, .inr (.inl g_6))), (a1, .inr (1, [.ref a9, .ref a10, .ref a11, .int x1, .int x2, .int x3, .int x4, .int x5, .int x6, .int x7])), (a9, .inr (8, [.ref a12])), (a12, .inl (cI, 30, .inl f0))]) hP [0, 1, 2, 3, 4, 5, 6] rfl) (hD.sub (ws' := [(a0, .inr (10, [.ref a2, .ref a3, .ref a4, .ref a5, .ref a6, .ref a7, .ref a8, .int x_2])), (a2, .inl (cJ, 25, .inr (.inl g_5))), (a3, .inl (cJ, 5, .inr (.inl g_12))), (a4, .inl (cJ, 25, .inr (.inl g_6))), (a1, .inr (1, [.ref a9, .ref a10, .ref a11, .int x1, .int x2, .int x3, .int x4, .int x5, .int x6, .int x7])), (a9, .inr (8, [.ref a12])), (a12, .inl (cI, 30, .inl f0))]) [0, 1, 2, 3, 4, 5, 6] (by decide) rfl) hS
      ·
        refine lv_iconst (pc := 24) (v := 0) hx hb dX10_start_24 (by decide) ?_
        refine lv_istore_n (pc := 25) (lv' := [(3, .int 0), (2, .int x_3), (0, .ref a0), (1, .ref a1)]) hx hb dX10_start_25 rfl hl (by decide) rfl (fun ls hl => ?_)
        have lp_18 : ∀ (n : Nat) (x_13 : Int32) (g_15 : Nat → Int64) (H : Heap) (locs : List Loc) (ls : Array Slot), (0 ≤ x_13.toInt ∧ x_13.toInt ≤ 5) → (x_13.toInt ≤ x_2.toInt + 1) → (prP g_15 f0 x_2.toInt x_3.toInt x_13.toInt) → (2147483647 - x_13.toInt).toNat < n → va_P D gcl [(a0, .inr (10, [.ref a2, .ref a3, .ref a4, .ref a5, .ref a6, .ref a7, .ref a8, .int x_2])), (a2, .inl (cJ, 25, .inr (.inl g_15))), (a3, .inl (cJ, 5, .inr (.inl g1))), (a4, .inl (cJ, 25, .inr (.inl g_6))), (a1, .inr (1, [.ref a9, .ref a10, .ref a11, .int x1, .int x2, .int x3, .int x4, .int x5, .int x6, .int x7])), (a9, .inr (8, [.ref a12])), (a12, .inl (cI, 30, .inl f0))] H → va_D A [(a0, .inr (10, [.ref a2, .ref a3, .ref a4, .ref a5, .ref a6, .ref a7, .ref a8, .int x_2])), (a2, .inl (cJ, 25, .inr (.inl g_15))), (a3, .inl (cJ, 5, .inr (.inl g1))), (a4, .inl (cJ, 25, .inr (.inl g_6))), (a1, .inr (1, [.ref a9, .ref a10, .ref a11, .int x1, .int x2, .int x3, .int x4, .int x5, .int x6, .int x7])), (a9, .inr (8, [.ref a12])), (a12, .inl (cI, 30, .inl f0))] → va_S A s.heap H locs → lv_has ls 4 [(3, .int x_13), (2, .int x_3), (0, .ref a0), (1, .ref a1)] → W p l e ({ frames := 2, cells := 0, slots := 0, locals := 46 }) s m args below meth c H locs 0 0 Q (F0 m 26 ls []) := by
          intro n
          induction n with
          | zero => intro x_13 g_15 H locs ls hi_14 hi_16 hi_17 hmu; exact absurd hmu (Nat.not_lt_zero _)
          | succ n ih_lp_18 =>
            intro x_13 g_15 H locs ls hi_14 hi_16 hi_17 hmu_lp_18 hP hD hS hl
            refine lv_iload_n (pc := 26) hx hb dX10_start_26 rfl (lv_at hl 0 rfl) ?_
            refine lv_aload_n (pc := 27) hx hb dX10_start_27 rfl (lv_at hl 2 rfl) ?_
            refine va_get (pc := 28) (ci := 10) (v := .int x_2) (C := RX10) (T := TX10) (N := 8) hx hb hts iX10 hown hK hP 0 rfl rfl 7 (by decide) (hts _ tw_220) (fun _ h9 => h9) rfl dX10_start_28 ?_
            refine b_icmp_gt (pc := 31) (tgt := 60) hx hb rfl rfl  dX10_start_31 (by decide) (fun c_19 => ?_) (fun c_19 => ?_)
            ·
              refine lv_aload_n (pc := 60) hx hb dX10_start_60 rfl (lv_at hl 2 rfl) ?_
              refine va_get (pc := 61) (ci := 10) (v := .ref a4) (C := RX10) (T := TX10) (N := 8) hx hb hts iX10 hown hK hP 0 rfl rfl 2 (by decide) (hts _ tw_210) (fun _ h9 => h9) rfl dX10_start_61 ?_
              refine lv_iload_n (pc := 64) hx hb dX10_start_64 rfl (lv_at hl 1 rfl) ?_
              refine lv_lconst (pc := 65) (v := 0) hx hb dX10_start_65 (by decide) ?_
              refine e_lastore (pc := 66) hx hb hK hP hD hS 3 3 rfl rfl (n_in rfl (by first | exact (om_2 hi_4.1) | (omega)) (by first | exact (om_97 hi_4.2) | (omega))) dX10_start_66 (fun g_20 eg_20 H locs hP hD hS => ?_)
              replace hP : va_P D gcl [(a0, .inr (10, [.ref a2, .ref a3, .ref a4, .ref a5, .ref a6, .ref a7, .ref a8, .int x_2])), (a2, .inl (cJ, 25, .inr (.inl g_15))), (a3, .inl (cJ, 5, .inr (.inl g1))), (a4, .inl (cJ, 25, .inr (.inl g_20))), (a1, .inr (1, [.ref a9, .ref a10, .ref a11, .int x1, .int x2, .int x3, .int x4, .int x5, .int x6, .int x7])), (a9, .inr (8, [.ref a12])), (a12, .inl (cI, 30, .inl f0))] H := hP
              replace hD : va_D A [(a0, .inr (10, [.ref a2, .ref a3, .ref a4, .ref a5, .ref a6, .ref a7, .ref a8, .int x_2])), (a2, .inl (cJ, 25, .inr (.inl g_15))), (a3, .inl (cJ, 5, .inr (.inl g1))), (a4, .inl (cJ, 25, .inr (.inl g_20))), (a1, .inr (1, [.ref a9, .ref a10, .ref a11, .int x1, .int x2, .int x3, .int x4, .int x5, .int x6, .int x7])), (a9, .inr (8, [.ref a12])), (a12, .inl (cI, 30, .inl f0))] := hD
              refine b_iinc (pc := 67) hx hb dX10_start_67 hl (k := 1) rfl rfl tI_1 (by first | exact (om_4 hi_4.1) | (omega)) (by first | exact (om_25 hi_4.2) | (omega)) (by decide) (fun x_21 ex_21 ls hl => ?_)
              replace hl : lv_has ls 4 [(2, .int x_21), (3, .int x_13), (0, .ref a0), (1, .ref a1)] := hl
              refine lv_goto (pc := 70) (tgt := 16) hx hb dX10_start_70 (by decide) ?_
              exact ih_lp_10 x_21 g_15 g_20 _ _ ls (by first | exact (om_98 ex_21 hi_4.1 c_11 c_19 hi_14.2) | (omega)) (by first | exact (om_99 ex_21 c_11) | (omega)) (pp_out hi_17 (by first | exact (om_95 c_19) | (omega)) (by first | exact (om_59 ex_21) | (omega)) rfl) (cz_put hi_9 eg_20 rfl (by first | exact (om_2 hi_4.1) | (omega)) (by first | exact (om_59 ex_21) | (omega))) (by omega) hP hD hS (lv_sub hl [0, 2, 3] rfl)
            ·
              refine lv_aload_n (pc := 34) hx hb dX10_start_34 rfl (lv_at hl 2 rfl) ?_
              refine va_get (pc := 35) (ci := 10) (v := .ref a2) (C := RX10) (T := TX10) (N := 8) hx hb hts iX10 hown hK hP 0 rfl rfl 0 (by decide) (hts _ tw_207) (fun _ h9 => h9) rfl dX10_start_35 ?_
              refine lv_iload_n (pc := 38) hx hb dX10_start_38 rfl (lv_at hl 1 rfl) ?_
              refine lv_iconst (pc := 39) (v := 5) hx hb dX10_start_39 (by decide) ?_
              refine b_imul (pc := 40) hx hb rfl tI_5 (by first | exact (om_0 hi_4.1) | (omega)) (by first | exact (om_100 hi_4.2) | (omega)) dX10_start_40 (fun x_22 ex_22 => ?_)
              refine lv_iload_n (pc := 41) hx hb dX10_start_41 rfl (lv_at hl 0 rfl) ?_
              refine b_iadd (pc := 42) hx hb rfl rfl (by first | exact (om_101 ex_22 hi_14.1 hi_4.1) | (omega)) (by first | exact (om_102 ex_22 hi_14.2 hi_4.2) | (omega)) dX10_start_42 (fun x_23 ex_23 => ?_)
              refine lv_aload_n (pc := 43) hx hb dX10_start_43 rfl (lv_at hl 3 rfl) ?_
              refine va_getN (pc := 44) (ci := 1) (v := .ref a9) (C := RX1) (T := TX1) (N := 10) hx hb hts iX1 hown hK hP 4 rfl rfl 0 (by decide) (va_Nw.use rfl (hN _ tn_99)) (fun _ h9 => h9) rfl dX10_start_44 ?_
              refine lv_iload_n (pc := 47) hx hb dX10_start_47 rfl (lv_at hl 1 rfl) ?_
              refine lv_iload_n (pc := 48) hx hb dX10_start_48 rfl (lv_at hl 0 rfl) ?_
              refine gd_i (pc := 49) (wc := [(a9, .inr (8, [.ref a12])), (a12, .inl (cI, 30, .inl f0))]) hP hD hS hA [5, 6] rfl (by decide +kernel) (fun _ => by rfl) (fun hPc hDc => va_runV (As := [.int x_3, .int x_13]) (rest := [.int x_23, .ref a2]) ⟨hx, hb, hml, hown, hts⟩ (k_X8_productOf_x l D cB cC cI cJ _ a9 a12 x_3 x_13 f0 (by first | exact (om_103 hi_4.1 ex_2 c_11 ex_1 h_x2.2) | (omega)) (by first | exact (om_103 hi_14.1 ex_2 c_19 ex_1 h_x2.2) | (omega)) (SH_TB (TB_SH hg_tb))) ⟨gcwB hts tw_799 tw_5 tw_887 hd_yX8_productOf ⟨Nat.le_of_ble_eq_true rfl, Nat.le_of_ble_eq_true rfl⟩, hts _ tw_797, hts _ tw_798⟩ ⟨gblind, va_recv hK hPc (ci := 8) (q0 := 0) rfl rfl, (gpreS hPc hK hDc hN).2⟩ rfl rfl hl.1 rfl (lv_room (Nat.le_of_ble_eq_true rfl)) dX10_start_49 ⟨Nat.le_of_ble_eq_true rfl, Nat.le_of_ble_eq_true rfl⟩) (fun r_25 u_24 H locs hw_26 hP hD hS => ?_)
              replace hP : va_P D gcl [(a0, .inr (10, [.ref a2, .ref a3, .ref a4, .ref a5, .ref a6, .ref a7, .ref a8, .int x_2])), (a2, .inl (cJ, 25, .inr (.inl g_15))), (a3, .inl (cJ, 5, .inr (.inl g1))), (a4, .inl (cJ, 25, .inr (.inl g_6))), (a1, .inr (1, [.ref a9, .ref a10, .ref a11, .int x1, .int x2, .int x3, .int x4, .int x5, .int x6, .int x7])), (a9, .inr (8, [.ref a12])), (a12, .inl (cI, 30, .inl f0))] H := hP
              replace hD : va_D A [(a0, .inr (10, [.ref a2, .ref a3, .ref a4, .ref a5, .ref a6, .ref a7, .ref a8, .int x_2])), (a2, .inl (cJ, 25, .inr (.inl g_15))), (a3, .inl (cJ, 5, .inr (.inl g1))), (a4, .inl (cJ, 25, .inr (.inl g_6))), (a1, .inr (1, [.ref a9, .ref a10, .ref a11, .int x1, .int x2, .int x3, .int x4, .int x5, .int x6, .int x7])), (a9, .inr (8, [.ref a12])), (a12, .inl (cI, 30, .inl f0))] := hD
              obtain ⟨hw_27, hw_28⟩ := hw_26
              replace hw_27 : ((-400000) ≤ r_25.toInt ∧ r_25.toInt ≤ 400000) := hw_27
              replace hw_28 : (r_25.toInt = dtn f0 x_3.toInt x_13.toInt 6) := hw_28
              have rr_25 := n_rng r_25
              refine b_i2l (pc := 52) hx hb rfl dX10_start_52 (fun y_29 ey_29 => ?_)
              have ry_29 := n_rng r_25
              refine e_lastore (pc := 53) hx hb hK hP hD hS 1 3 rfl rfl (n_in rfl (by first | exact (om_104 ex_23 ex_22 hi_14.1 hi_4.1) | (omega)) (by first | exact (om_105 ex_2 ex_23 ex_22 c_19 c_11 ex_1 h_x2.2) | (omega))) dX10_start_53 (fun g_30 eg_30 H locs hP hD hS => ?_)
              replace hP : va_P D gcl [(a0, .inr (10, [.ref a2, .ref a3, .ref a4, .ref a5, .ref a6, .ref a7, .ref a8, .int x_2])), (a2, .inl (cJ, 25, .inr (.inl g_30))), (a3, .inl (cJ, 5, .inr (.inl g1))), (a4, .inl (cJ, 25, .inr (.inl g_6))), (a1, .inr (1, [.ref a9, .ref a10, .ref a11, .int x1, .int x2, .int x3, .int x4, .int x5, .int x6, .int x7])), (a9, .inr (8, [.ref a12])), (a12, .inl (cI, 30, .inl f0))] H := hP
              replace hD : va_D A [(a0, .inr (10, [.ref a2, .ref a3, .ref a4, .ref a5, .ref a6, .ref a7, .ref a8, .int x_2])), (a2, .inl (cJ, 25, .inr (.inl g_30))), (a3, .inl (cJ, 5, .inr (.inl g1))), (a4, .inl (cJ, 25, .inr (.inl g_6))), (a1, .inr (1, [.ref a9, .ref a10, .ref a11, .int x1, .int x2, .int x3, .int x4, .int x5, .int x6, .int x7])), (a9, .inr (8, [.ref a12])), (a12, .inl (cI, 30, .inl f0))] := hD
              refine b_iinc (pc := 54) hx hb dX10_start_54 hl (k := 0) rfl rfl tI_1 (by first | exact (om_4 hi_14.1) | (omega)) (by first | exact (om_25 hi_14.2) | (omega)) (by decide) (fun x_31 ex_31 ls hl => ?_)
              replace hl : lv_has ls 4 [(3, .int x_31), (2, .int x_3), (0, .ref a0), (1, .ref a1)] := hl
              refine lv_goto (pc := 57) (tgt := 26) hx hb dX10_start_57 (by decide) ?_
              exact ih_lp_18 x_31 g_30 _ _ ls (by first | exact (om_106 ex_31 hi_14.1 ex_2 c_19 ex_1 h_x2.2) | (omega)) (by first | exact (om_99 ex_31 c_19) | (omega)) (pp_put hi_17 eg_30 (by omega) (i6_of (ey_29.trans hw_28)) (by first | exact (om_2 hi_4.1) | (omega)) (by first | exact (om_107 hi_14.1 c_19) | (omega)) (by first | exact (om_108 ex_2 ex_1 h_x2.2) | (omega)) (by first | exact (om_59 ex_31) | (omega))) (by omega) hP hD hS (lv_sub hl [0, 1, 2, 3] rfl)
        exact lp_18 _ 0 g_5 _ _ ls (n_c tI_0 (by decide)) (by have q := tI_0; omega) (pp_in hi_8 tI_0.symm) (Nat.lt_succ_self _) hP hD hS (lv_sub hl [0, 1, 2, 3] rfl)
  exact lp_10 _ 0 g0 g2 _ _ ls (n_c tI_0 (by decide)) (by have q := tI_0; omega) (pp_0 tI_0 rfl) (fun j a b => absurd b (by have q := tI_0; omega)) (Nat.lt_succ_self _) hP hD hS (lv_sub hl [0, 1, 2] rfl)
