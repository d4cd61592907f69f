set_option maxHeartbeats 4000000 in
set_option maxRecDepth 100000 in
theorem k_X10_settle_8 (l : Launch) (D : va_G) (cB cC cI cJ : ClassId) (sz : Nat) (a0 a1 a2 a3 a4 a5 a6 a7 : Nat) (x0 x1 : Int32) (f0 f1 f2 : Nat → Int32) (g0 g1 g2 : Nat → Int64) (hp1 : (0 ≤ x0.toInt ∧ x0.toInt ≤ 4)) (h_x1 : zBd x1.toInt 0 4) (hf_f2 : (∀ j, 0 ≤ (f2 j).toInt ∧ (f2 j).toInt ≤ 7)) : Met l yX10_settle (.code yX10_settle cX10_settle 7 none :: lw_gd) ({ frames := 0, cells := 0, slots := 0, locals := 0 }) (gPre D [(cB, .byte), (cC, .char), (cI, .int), (cJ, .long)] [.ref a0, .int x0] [(a0, .inr (10, [.ref a1, .ref a2, .ref a3, .ref a4, .ref a5, .ref a6, .ref a7, .int x1])), (a4, .inl (cI, 5, .inl f0)), (a5, .inl (cI, 5, .inl f1)), (a7, .inl (cI, 5, .inl f2)), (a2, .inl (cJ, 5, .inr (.inl g0))), (a1, .inl (cJ, 25, .inr (.inl g1))), (a3, .inl (cJ, 25, .inr (.inl g2)))] sz) (va_Qv (fun u => (((0 ≤ x1.toInt ∧ x1.toInt ≤ 4)))) (gB D (va_A [(a0, .inr (10, [.ref a1, .ref a2, .ref a3, .ref a4, .ref a5, .ref a6, .ref a7, .int x1])), (a4, .inl (cI, 5, .inl f0)), (a5, .inl (cI, 5, .inl f1)), (a7, .inl (cI, 5, .inl f2)), (a2, .inl (cJ, 5, .inr (.inl g0))), (a1, .inl (cJ, 25, .inr (.inl g1))), (a3, .inl (cJ, 25, .inr (.inl g2)))] sz) (fun u : gEx => [(a0, .inr (10, [.ref a1, .ref a2, .ref a3, .ref a4, .ref a5, .ref a6, .ref a7, .int x1])), (a4, .inl (cI, 5, .inl f0)), (a5, .inl (cI, 5, .inl f1)), (a7, .inl (cI, 5, .inl f2)), (a2, .inl (cJ, 5, .inr (.inl (u.2.2.1 0)))), (a1, .inl (cJ, 25, .inr (.inl g1))), (a3, .inl (cJ, 25, .inr (.inl (u.2.2.1 1))))])) (va_A [(a0, .inr (10, [.ref a1, .ref a2, .ref a3, .ref a4, .ref a5, .ref a6, .ref a7, .int x1])), (a4, .inl (cI, 5, .inl f0)), (a5, .inl (cI, 5, .inl f1)), (a7, .inl (cI, 5, .inl f2)), (a2, .inl (cJ, 5, .inr (.inl g0))), (a1, .inl (cJ, 25, .inr (.inl g1))), (a3, .inl (cJ, 25, .inr (.inl g2)))] sz)) 0 0 (va_A [(a0, .inr (10, [.ref a1, .ref a2, .ref a3, .ref a4, .ref a5, .ref a6, .ref a7, .int x1])), (a4, .inl (cI, 5, .inl f0)), (a5, .inl (cI, 5, .inl f1)), (a7, .inl (cI, 5, .inl f2)), (a2, .inl (cJ, 5, .inr (.inl g0))), (a1, .inl (cJ, 25, .inr (.inl g1))), (a3, .inl (cJ, 25, .inr (.inl g2)))] sz) := by
  refine gOf_v (by decide +kernel) (Nat.le_of_ble_eq_true rfl) ?_
  intro p e s m args below meth c ls A Q hx hb hts hown hml hN hK hP hD hA hl hret
  replace hown : s.vm.findClass RX10 = some m.cls := hown
  have hS : va_S A s.heap s.heap [] := va_S.rf
  replace hP : va_P D gcl [(a0, .inr (10, [.ref a1, .ref a2, .ref a3, .ref a4, .ref a5, .ref a6, .ref a7, .int x1])), (a4, .inl (cI, 5, .inl f0)), (a5, .inl (cI, 5, .inl f1)), (a7, .inl (cI, 5, .inl f2)), (a2, .inl (cJ, 5, .inr (.inl g0))), (a1, .inl (cJ, 25, .inr (.inl g1))), (a3, .inl (cJ, 25, .inr (.inl g2)))] s.heap := hP
  replace hl : lv_has ls 7 [(0, .ref a0), (1, .int x0)] := hl
  refine lv_iload_n (pc := 0) hx hb dX10_settle_0 rfl (lv_at hl 1 rfl) ?_
  refine lv_istore_n (pc := 1) (lv' := [(2, .int x0), (0, .ref a0), (1, .int x0)]) hx hb dX10_settle_1 rfl hl (by decide) rfl (fun ls hl => ?_)
  have lp_5 : ∀ (n : Nat) (x_1 : Int32) (g_3 g_4 : Nat → Int64) (H : Heap) (locs : List Loc) (ls : Array Slot), (0 ≤ x_1.toInt ∧ x_1.toInt ≤ 2147483647) → (2147483647 - x_1.toInt).toNat < n → va_P D gcl [(a0, .inr (10, [.ref a1, .ref a2, .ref a3, .ref a4, .ref a5, .ref a6, .ref a7, .int x1])), (a4, .inl (cI, 5, .inl f0)), (a5, .inl (cI, 5, .inl f1)), (a7, .inl (cI, 5, .inl f2)), (a2, .inl (cJ, 5, .inr (.inl g_3))), (a1, .inl (cJ, 25, .inr (.inl g1))), (a3, .inl (cJ, 25, .inr (.inl g_4)))] H → va_D A [(a0, .inr (10, [.ref a1, .ref a2, .ref a3, .ref a4, .ref a5, .ref a6, .ref a7, .int x1])), (a4, .inl (cI, 5, .inl f0)), (a5, .inl (cI, 5, .inl f1)), (a7, .inl (cI, 5, .inl f2)), (a2, .inl (cJ, 5, .inr (.inl g_3))), (a1, .inl (cJ, 25, .inr (.inl g1))), (a3, .inl (cJ, 25, .inr (.inl g_4)))] → va_S A s.heap H locs → lv_has ls 7 [(2, .int x_1), (0, .ref a0), (1, .int x0)] → W p l e ({ frames := 0, cells := 0, slots := 0, locals := 0 }) s m args below meth c H locs 0 0 Q (F0 m 2 ls []) := by
    intro n
    induction n with
    | zero => intro x_1 g_3 g_4 H locs ls hi_2 hmu; exact absurd hmu (Nat.not_lt_zero _)
    | succ n ih_lp_5 =>
      intro x_1 g_3 g_4 H locs ls hi_2 hmu_lp_5 hP hD hS hl
      refine lv_iload_n (pc := 2) hx hb dX10_settle_2 rfl (lv_at hl 0 rfl) ?_
      refine lv_aload_n (pc := 3) hx hb dX10_settle_3 rfl (lv_at hl 1 rfl) ?_
      refine va_get (pc := 4) (ci := 10) (v := .int x1) (C := RX10) (T := TX10) (N := 8) hx hb hts iX10 hown hK hP 0 rfl rfl 7 (by decide) (hts _ tw_220) (fun _ h9 => h9) rfl dX10_settle_4 ?_
      have bd_h_x1 : 0 ≤ x1.toInt ∧ x1.toInt ≤ 4 := h_x1
      refine b_icmp_ge (pc := 7) (tgt := 138) hx hb rfl rfl  dX10_settle_7 (by decide) (fun c_6 => ?_) (fun c_6 => ?_)
      ·
        exact hret ((fun _ => 0), (fun _ => (fun _ => 0)), (fun k => [g_3, g_4].getD k (fun _ => 0)), (fun _ => 0), (fun _ => 0)) dX10_settle_138 (show (((0 ≤ x1.toInt ∧ x1.toInt ≤ 4))) from h_x1) (g_psub (wc := [(a0, .inr (10, [.ref a1, .ref a2, .ref a3, .ref a4, .ref a5, .ref a6, .ref a7, .int x1])), (a4, .inl (cI, 5, .inl f0)), (a5, .inl (cI, 5, .inl f1)), (a7, .inl (cI, 5, .inl f2)), (a2, .inl (cJ, 5, .inr (.inl g_3))), (a1, .inl (cJ, 25, .inr (.inl g1))), (a3, .inl (cJ, 25, .inr (.inl g_4)))]) hP [0, 1, 2, 3, 4, 5, 6] rfl) (hD.sub (ws' := [(a0, .inr (10, [.ref a1, .ref a2, .ref a3, .ref a4, .ref a5, .ref a6, .ref a7, .int x1])), (a4, .inl (cI, 5, .inl f0)), (a5, .inl (cI, 5, .inl f1)), (a7, .inl (cI, 5, .inl f2)), (a2, .inl (cJ, 5, .inr (.inl g_3))), (a1, .inl (cJ, 25, .inr (.inl g1))), (a3, .inl (cJ, 25, .inr (.inl g_4)))]) [0, 1, 2, 3, 4, 5, 6] (by decide) rfl) hS
      ·
        refine lv_iload_n (pc := 10) hx hb dX10_settle_10 rfl (lv_at hl 0 rfl) ?_
        refine lv_iconst (pc := 11) (v := 5) hx hb dX10_settle_11 (by decide) ?_
        refine b_imul (pc := 12) hx hb rfl tI_5 (by (first | omega | (unfold zBd at *; omega))) (by (first | omega | (unfold zBd at *; omega))) dX10_settle_12 (fun x_7 ex_7 => ?_)
        refine lv_istore_n (pc := 13) (lv' := [(3, .int x_7), (2, .int x_1), (0, .ref a0), (1, .int x0)]) hx hb dX10_settle_13 rfl hl (by decide) rfl (fun ls hl => ?_)
        refine lv_aload_n (pc := 14) hx hb dX10_settle_14 rfl (lv_at hl 2 rfl) ?_
        refine va_get (pc := 15) (ci := 10) (v := .ref a4) (C := RX10) (T := TX10) (N := 8) hx hb hts iX10 hown hK hP 0 rfl rfl 3 (by decide) (hts _ tw_211) (fun _ h9 => h9) rfl dX10_settle_15 ?_
        refine lv_iload_n (pc := 18) hx hb dX10_settle_18 rfl (lv_at hl 1 rfl) ?_
        refine va_iald (pc := 19) hx hb hK hP 1 2 rfl rfl (n_in rfl (by (first | omega | (unfold zBd at *; omega))) (by (first | omega | (unfold zBd at *; omega)))) dX10_settle_19 ?_
        refine lv_topi (fun x_8 ex_8 => ?_)
        have rx_8 : zBd x_8.toInt (-2147483648) 2147483647 := n_rng x_8
        refine lv_aload_n (pc := 20) hx hb dX10_settle_20 rfl (lv_at hl 2 rfl) ?_
        refine va_get (pc := 21) (ci := 10) (v := .ref a5) (C := RX10) (T := TX10) (N := 8) hx hb hts iX10 hown hK hP 0 rfl rfl 4 (by decide) (hts _ tw_213) (fun _ h9 => h9) rfl dX10_settle_21 ?_
        refine lv_iload_n (pc := 24) hx hb dX10_settle_24 rfl (lv_at hl 1 rfl) ?_
        refine va_iald (pc := 25) hx hb hK hP 2 2 rfl rfl (n_in rfl (by (first | omega | (unfold zBd at *; omega))) (by (first | omega | (unfold zBd at *; omega)))) dX10_settle_25 ?_
        refine lv_topi (fun x_9 ex_9 => ?_)
        have rx_9 : zBd x_9.toInt (-2147483648) 2147483647 := n_rng x_9
        refine lv_aload_n (pc := 26) hx hb dX10_settle_26 rfl (lv_at hl 2 rfl) ?_
        refine va_get (pc := 27) (ci := 10) (v := .ref a7) (C := RX10) (T := TX10) (N := 8) hx hb hts iX10 hown hK hP 0 rfl rfl 6 (by decide) (hts _ tw_216) (fun _ h9 => h9) rfl dX10_settle_27 ?_
        refine lv_iload_n (pc := 30) hx hb dX10_settle_30 rfl (lv_at hl 1 rfl) ?_
        refine va_iald (pc := 31) hx hb hK hP 3 2 rfl rfl (n_in rfl (by (first | omega | (unfold zBd at *; omega))) (by (first | omega | (unfold zBd at *; omega)))) dX10_settle_31 ?_
        refine lv_topi (fun x_10 ex_10 => ?_)
        have rx_10 : (0 ≤ x_10.toInt ∧ x_10.toInt ≤ 7) := by rw [ex_10]; exact hf_f2 _
        refine lv_imul (pc := 32) hx hb dX10_settle_32 ?_
        refine lv_topi (fun x_11 _ => ?_)
        have rx_11 : zBd x_11.toInt (-2147483648) 2147483647 := n_rng x_11
        refine lv_iadd (pc := 33) hx hb dX10_settle_33 ?_
        refine lv_topi (fun x_12 _ => ?_)
        have rx_12 : zBd x_12.toInt (-2147483648) 2147483647 := n_rng x_12
        refine b_i2l (pc := 34) hx hb rfl dX10_settle_34 (fun y_13 ey_13 => ?_)
        have ry_13 : zBd x_12.toInt (-2147483648) 2147483647 := n_rng x_12
        refine lv_lstore (pc := 35) (lv' := [(4, .long y_13), (3, .int x_7), (2, .int x_1), (0, .ref a0), (1, .int x0)]) hx hb dX10_settle_35 hl (by decide) rfl (fun ls hl => ?_)
        refine lv_aload_n (pc := 37) hx hb dX10_settle_37 rfl (lv_at hl 3 rfl) ?_
        refine va_get (pc := 38) (ci := 10) (v := .ref a2) (C := RX10) (T := TX10) (N := 8) hx hb hts iX10 hown hK hP 0 rfl rfl 1 (by decide) (hts _ tw_209) (fun _ h9 => h9) rfl dX10_settle_38 ?_
        refine lv_iload_n (pc := 41) hx hb dX10_settle_41 rfl (lv_at hl 2 rfl) ?_
        refine lv_iconst (pc := 42) (v := 1) hx hb dX10_settle_42 (by decide) ?_
        refine b_iadd (pc := 43) hx hb rfl tI_1 (by (first | omega | (unfold zBd at *; omega))) (by (first | omega | (unfold zBd at *; omega))) dX10_settle_43 (fun x_14 ex_14 => ?_)
        refine lv_aload_n (pc := 44) hx hb dX10_settle_44 rfl (lv_at hl 3 rfl) ?_
        refine va_get (pc := 45) (ci := 10) (v := .ref a2) (C := RX10) (T := TX10) (N := 8) hx hb hts iX10 hown hK hP 0 rfl rfl 1 (by decide) (hts _ tw_209) (fun _ h9 => h9) rfl dX10_settle_45 ?_
        refine lv_iload_n (pc := 48) hx hb dX10_settle_48 rfl (lv_at hl 2 rfl) ?_
        refine va_lald (pc := 49) hx hb hK hP 4 3 rfl rfl (n_in rfl (by (first | omega | (unfold zBd at *; omega))) (by (first | omega | (unfold zBd at *; omega)))) dX10_settle_49 ?_
        refine lv_topl (fun y_15 ey_15 => ?_)
        have ry_15 := n_rngL y_15
        refine lv_lload (pc := 50) hx hb dX10_settle_50 (lv_at hl 0 rfl) ?_
        refine lv_lload (pc := 52) hx hb dX10_settle_52 (lv_at hl 0 rfl) ?_
        refine lv_aload_n (pc := 54) hx hb dX10_settle_54 rfl (lv_at hl 3 rfl) ?_
        refine va_get (pc := 55) (ci := 10) (v := .ref a1) (C := RX10) (T := TX10) (N := 8) hx hb hts iX10 hown hK hP 0 rfl rfl 0 (by decide) (hts _ tw_207) (fun _ h9 => h9) rfl dX10_settle_55 ?_
        refine lv_iload_n (pc := 58) hx hb dX10_settle_58 rfl (lv_at hl 1 rfl) ?_
        refine lv_iload_n (pc := 59) hx hb dX10_settle_59 rfl (lv_at hl 2 rfl) ?_
        refine b_iadd (pc := 60) hx hb rfl rfl (by (first | omega | (unfold zBd at *; omega))) (by (first | omega | (unfold zBd at *; omega))) dX10_settle_60 (fun x_16 ex_16 => ?_)
        refine va_lald (pc := 61) hx hb hK hP 5 3 rfl rfl (n_in rfl (by (first | omega | (unfold zBd at *; omega))) (by (first | omega | (unfold zBd at *; omega)))) dX10_settle_61 ?_
        refine lv_topl (fun y_17 ey_17 => ?_)
        have ry_17 := n_rngL y_17
        refine lv_lmul (pc := 62) hx hb dX10_settle_62 ?_
        refine lv_topl (fun y_18 _ => ?_)
        have ry_18 := n_rngL y_18
        refine lv_ldc2 (pc := 63) hx hb hown (hts _ tw_910) dX10_settle_63 ?_
        refine lv_aload_n (pc := 66) hx hb dX10_settle_66 rfl (lv_at hl 3 rfl) ?_
        refine va_get (pc := 67) (ci := 10) (v := .ref a3) (C := RX10) (T := TX10) (N := 8) hx hb hts iX10 hown hK hP 0 rfl rfl 2 (by decide) (hts _ tw_210) (fun _ h9 => h9) rfl dX10_settle_67 ?_
        refine lv_iload_n (pc := 70) hx hb dX10_settle_70 rfl (lv_at hl 1 rfl) ?_
        refine lv_iload_n (pc := 71) hx hb dX10_settle_71 rfl (lv_at hl 2 rfl) ?_
        refine b_iadd (pc := 72) hx hb rfl rfl (by (first | omega | (unfold zBd at *; omega))) (by (first | omega | (unfold zBd at *; omega))) dX10_settle_72 (fun x_19 ex_19 => ?_)
        refine va_lald (pc := 73) hx hb hK hP 6 3 rfl rfl (n_in rfl (by (first | omega | (unfold zBd at *; omega))) (by (first | omega | (unfold zBd at *; omega)))) dX10_settle_73 ?_
        refine lv_topl (fun y_20 ey_20 => ?_)
        have ry_20 := n_rngL y_20
        refine lv_lmul (pc := 74) hx hb dX10_settle_74 ?_
        refine lv_topl (fun y_21 _ => ?_)
        have ry_21 := n_rngL y_21
        refine lv_lsub (pc := 75) hx hb dX10_settle_75 ?_
        refine lv_topl (fun y_22 _ => ?_)
        have ry_22 := n_rngL y_22
        refine lv_lmul (pc := 76) hx hb dX10_settle_76 ?_
        refine lv_topl (fun y_23 _ => ?_)
        have ry_23 := n_rngL y_23
        refine lv_ladd (pc := 77) hx hb dX10_settle_77 ?_
        refine lv_topl (fun y_24 _ => ?_)
        have ry_24 := n_rngL y_24
        refine g_lastore (pc := 78) hx hb hK hP hD hS 4 3 rfl rfl (n_in rfl (by (first | omega | (unfold zBd at *; omega))) (by (first | omega | (unfold zBd at *; omega)))) dX10_settle_78 (fun g_25 H locs hP hD hS => ?_)
        replace hP : va_P D gcl [(a0, .inr (10, [.ref a1, .ref a2, .ref a3, .ref a4, .ref a5, .ref a6, .ref a7, .int x1])), (a4, .inl (cI, 5, .inl f0)), (a5, .inl (cI, 5, .inl f1)), (a7, .inl (cI, 5, .inl f2)), (a2, .inl (cJ, 5, .inr (.inl g_25))), (a1, .inl (cJ, 25, .inr (.inl g1))), (a3, .inl (cJ, 25, .inr (.inl g_4)))] H := hP
        replace hD : va_D A [(a0, .inr (10, [.ref a1, .ref a2, .ref a3, .ref a4, .ref a5, .ref a6, .ref a7, .int x1])), (a4, .inl (cI, 5, .inl f0)), (a5, .inl (cI, 5, .inl f1)), (a7, .inl (cI, 5, .inl f2)), (a2, .inl (cJ, 5, .inr (.inl g_25))), (a1, .inl (cJ, 25, .inr (.inl g1))), (a3, .inl (cJ, 25, .inr (.inl g_4)))] := hD
        refine lv_iload_n (pc := 79) hx hb dX10_settle_79 rfl (lv_at hl 2 rfl) ?_
        refine lv_iconst (pc := 80) (v := 1) hx hb dX10_settle_80 (by decide) ?_
        refine b_iadd (pc := 81) hx hb rfl tI_1 (by (first | omega | (unfold zBd at *; omega))) (by (first | omega | (unfold zBd at *; omega))) dX10_settle_81 (fun x_26 ex_26 => ?_)
        refine lv_istore (pc := 82) (lv' := [(6, .int x_26), (4, .long y_13), (3, .int x_7), (2, .int x_1), (0, .ref a0), (1, .int x0)]) hx hb dX10_settle_82 hl (by decide) rfl (fun ls hl => ?_)
        have lp_30 : ∀ (n : Nat) (x_27 : Int32) (g_29 : Nat → Int64) (H : Heap) (locs : List Loc) (ls : Array Slot), (1 ≤ x_27.toInt ∧ x_27.toInt ≤ 2147483647) → (2147483647 - x_27.toInt).toNat < n → va_P D gcl [(a0, .inr (10, [.ref a1, .ref a2, .ref a3, .ref a4, .ref a5, .ref a6, .ref a7, .int x1])), (a4, .inl (cI, 5, .inl f0)), (a5, .inl (cI, 5, .inl f1)), (a7, .inl (cI, 5, .inl f2)), (a2, .inl (cJ, 5, .inr (.inl g_25))), (a1, .inl (cJ, 25, .inr (.inl g1))), (a3, .inl (cJ, 25, .inr (.inl g_29)))] H → va_D A [(a0, .inr (10, [.ref a1, .ref a2, .ref a3, .ref a4, .ref a5, .ref a6, .ref a7, .int x1])), (a4, .inl (cI, 5, .inl f0)), (a5, .inl (cI, 5, .inl f1)), (a7, .inl (cI, 5, .inl f2)), (a2, .inl (cJ, 5, .inr (.inl g_25))), (a1, .inl (cJ, 25, .inr (.inl g1))), (a3, .inl (cJ, 25, .inr (.inl g_29)))] → va_S A s.heap H locs → lv_has ls 7 [(6, .int x_27), (4, .long y_13), (3, .int x_7), (2, .int x_1), (0, .ref a0), (1, .int x0)] → W p l e ({ frames := 0, cells := 0, slots := 0, locals := 0 }) s m args below meth c H locs 0 0 Q (F0 m 84 ls []) := by
          intro n
          induction n with
          | zero => intro x_27 g_29 H locs ls hi_28 hmu; exact absurd hmu (Nat.not_lt_zero _)
          | succ n ih_lp_30 =>
            intro x_27 g_29 H locs ls hi_28 hmu_lp_30 hP hD hS hl
            refine lv_iload (pc := 84) hx hb dX10_settle_84 (lv_at hl 0 rfl) ?_
            refine lv_aload_n (pc := 86) hx hb dX10_settle_86 rfl (lv_at hl 4 rfl) ?_
            refine va_get (pc := 87) (ci := 10) (v := .int x1) (C := RX10) (T := TX10) (N := 8) hx hb hts iX10 hown hK hP 0 rfl rfl 7 (by decide) (hts _ tw_220) (fun _ h9 => h9) rfl dX10_settle_87 ?_
            refine b_icmp_gt (pc := 90) (tgt := 132) hx hb rfl rfl  dX10_settle_90 (by decide) (fun c_31 => ?_) (fun c_31 => ?_)
            ·
              refine b_iinc (pc := 132) hx hb dX10_settle_132 hl (k := 3) rfl rfl tI_1 (by (first | omega | (unfold zBd at *; omega))) (by (first | omega | (unfold zBd at *; omega))) (by decide) (fun x_32 ex_32 ls hl => ?_)
              replace hl : lv_has ls 7 [(2, .int x_32), (6, .int x_27), (4, .long y_13), (3, .int x_7), (0, .ref a0), (1, .int x0)] := hl
              refine lv_goto (pc := 135) (tgt := 2) hx hb dX10_settle_135 (by decide) ?_
              exact ih_lp_5 x_32 g_25 g_29 _ _ ls (by (first | omega | (unfold zBd at *; omega))) (by (first | omega | (unfold zBd at *; omega))) hP hD hS (lv_sub hl [0, 4, 5] rfl)
            ·
              refine lv_aload_n (pc := 93) hx hb dX10_settle_93 rfl (lv_at hl 4 rfl) ?_
              refine va_get (pc := 94) (ci := 10) (v := .ref a3) (C := RX10) (T := TX10) (N := 8) hx hb hts iX10 hown hK hP 0 rfl rfl 2 (by decide) (hts _ tw_210) (fun _ h9 => h9) rfl dX10_settle_94 ?_
              refine lv_iload_n (pc := 97) hx hb dX10_settle_97 rfl (lv_at hl 2 rfl) ?_
              refine lv_iconst (pc := 98) (v := 5) hx hb dX10_settle_98 (by decide) ?_
              refine b_iadd (pc := 99) hx hb rfl tI_5 (by (first | omega | (unfold zBd at *; omega))) (by (first | omega | (unfold zBd at *; omega))) dX10_settle_99 (fun x_33 ex_33 => ?_)
              refine lv_iload (pc := 100) hx hb dX10_settle_100 (lv_at hl 0 rfl) ?_
              refine b_iadd (pc := 102) hx hb rfl rfl (by (first | omega | (unfold zBd at *; omega))) (by (first | omega | (unfold zBd at *; omega))) dX10_settle_102 (fun x_34 ex_34 => ?_)
              refine lv_aload_n (pc := 103) hx hb dX10_settle_103 rfl (lv_at hl 4 rfl) ?_
              refine va_get (pc := 104) (ci := 10) (v := .ref a3) (C := RX10) (T := TX10) (N := 8) hx hb hts iX10 hown hK hP 0 rfl rfl 2 (by decide) (hts _ tw_210) (fun _ h9 => h9) rfl dX10_settle_104 ?_
              refine lv_iload_n (pc := 107) hx hb dX10_settle_107 rfl (lv_at hl 2 rfl) ?_
              refine lv_iload (pc := 108) hx hb dX10_settle_108 (lv_at hl 0 rfl) ?_
              refine b_iadd (pc := 110) hx hb rfl rfl (by (first | omega | (unfold zBd at *; omega))) (by (first | omega | (unfold zBd at *; omega))) dX10_settle_110 (fun x_35 ex_35 => ?_)
              refine va_lald (pc := 111) hx hb hK hP 6 3 rfl rfl (n_in rfl (by (first | omega | (unfold zBd at *; omega))) (by (first | omega | (unfold zBd at *; omega)))) dX10_settle_111 ?_
              refine lv_topl (fun y_36 ey_36 => ?_)
              have ry_36 := n_rngL y_36
              refine lv_lload (pc := 112) hx hb dX10_settle_112 (lv_at hl 1 rfl) ?_
              refine lv_aload_n (pc := 114) hx hb dX10_settle_114 rfl (lv_at hl 4 rfl) ?_
              refine va_get (pc := 115) (ci := 10) (v := .ref a1) (C := RX10) (T := TX10) (N := 8) hx hb hts iX10 hown hK hP 0 rfl rfl 0 (by decide) (hts _ tw_207) (fun _ h9 => h9) rfl dX10_settle_115 ?_
              refine lv_iload_n (pc := 118) hx hb dX10_settle_118 rfl (lv_at hl 2 rfl) ?_
              refine lv_iload (pc := 119) hx hb dX10_settle_119 (lv_at hl 0 rfl) ?_
              refine b_iadd (pc := 121) hx hb rfl rfl (by (first | omega | (unfold zBd at *; omega))) (by (first | omega | (unfold zBd at *; omega))) dX10_settle_121 (fun x_37 ex_37 => ?_)
              refine va_lald (pc := 122) hx hb hK hP 5 3 rfl rfl (n_in rfl (by (first | omega | (unfold zBd at *; omega))) (by (first | omega | (unfold zBd at *; omega)))) dX10_settle_122 ?_
              refine lv_topl (fun y_38 ey_38 => ?_)
              have ry_38 := n_rngL y_38
              refine lv_lmul (pc := 123) hx hb dX10_settle_123 ?_
              refine lv_topl (fun y_39 _ => ?_)
              have ry_39 := n_rngL y_39
              refine lv_lsub (pc := 124) hx hb dX10_settle_124 ?_
              refine lv_topl (fun y_40 _ => ?_)
              have ry_40 := n_rngL y_40
              refine g_lastore (pc := 125) hx hb hK hP hD hS 6 3 rfl rfl (n_in rfl (by (first | omega | (unfold zBd at *; omega))) (by (first | omega | (unfold zBd at *; omega)))) dX10_settle_125 (fun g_41 H locs hP hD hS => ?_)
              replace hP : va_P D gcl [(a0, .inr (10, [.ref a1, .ref a2, .ref a3, .ref a4, .ref a5, .ref a6, .ref a7, .int x1])), (a4, .inl (cI, 5, .inl f0)), (a5, .inl (cI, 5, .inl f1)), (a7, .inl (cI, 5, .inl f2)), (a2, .inl (cJ, 5, .inr (.inl g_25))), (a1, .inl (cJ, 25, .inr (.inl g1))), (a3, .inl (cJ, 25, .inr (.inl g_41)))] H := hP
              replace hD : va_D A [(a0, .inr (10, [.ref a1, .ref a2, .ref a3, .ref a4, .ref a5, .ref a6, .ref a7, .int x1])), (a4, .inl (cI, 5, .inl f0)), (a5, .inl (cI, 5, .inl f1)), (a7, .inl (cI, 5, .inl f2)), (a2, .inl (cJ, 5, .inr (.inl g_25))), (a1, .inl (cJ, 25, .inr (.inl g1))), (a3, .inl (cJ, 25, .inr (.inl g_41)))] := hD
              refine b_iinc (pc := 126) hx hb dX10_settle_126 hl (k := 0) rfl rfl tI_1 (by (first | omega | (unfold zBd at *; omega))) (by (first | omega | (unfold zBd at *; omega))) (by decide) (fun x_42 ex_42 ls hl => ?_)
              replace hl : lv_has ls 7 [(6, .int x_42), (4, .long y_13), (3, .int x_7), (2, .int x_1), (0, .ref a0), (1, .int x0)] := hl
              refine lv_goto (pc := 129) (tgt := 84) hx hb dX10_settle_129 (by decide) ?_
              exact ih_lp_30 x_42 g_41 _ _ ls (by (first | omega | (unfold zBd at *; omega))) (by (first | omega | (unfold zBd at *; omega))) hP hD hS (lv_sub hl [0, 1, 2, 3, 4, 5] rfl)
        exact lp_30 _ x_26 g_4 _ _ ls (by (first | omega | (unfold zBd at *; omega))) (Nat.lt_succ_self _) hP hD hS (lv_sub hl [0, 1, 2, 3, 4, 5] rfl)
  exact lp_5 _ x0 g0 g2 _ _ ls (by (first | omega | (unfold zBd at *; omega))) (Nat.lt_succ_self _) hP hD hS (lv_sub hl [0, 1, 2] rfl)
set_option maxHeartbeats 4000000 in
set_option maxRecDepth 100000 in
theorem k_X10_firstLine_8 (l : Launch) (D : va_G) (cB cC cI cJ : ClassId) (sz : Nat) (a0 a1 a2 a3 a4 a5 a6 a7 : Nat) (x0 : Int32) (f0 f1 f2 : Nat → Int32) (g0 g1 g2 : Nat → Int64) (h_x0 : zBd x0.toInt 0 4) (hf_f0 : (∀ j, 0 ≤ (f0 j).toInt ∧ (f0 j).toInt ≤ 7)) : Met l yX10_firstLine (.code yX10_firstLine cX10_firstLine 1 none :: lw_gd) ({ frames := 1, cells := 0, slots := 0, locals := 26 }) (gPre D [(cB, .byte), (cC, .char), (cI, .int), (cJ, .long)] [.ref a0] [(a0, .inr (10, [.ref a1, .ref a2, .ref a3, .ref a4, .ref a5, .ref a6, .ref a7, .int x0])), (a7, .inl (cI, 5, .inl f0)), (a4, .inl (cI, 5, .inl f1)), (a5, .inl (cI, 5, .inl f2)), (a2, .inl (cJ, 5, .inr (.inl g0))), (a1, .inl (cJ, 25, .inr (.inl g1))), (a3, .inl (cJ, 25, .inr (.inl g2)))] sz) (va_Qv (fun u => (∀ j, 0 ≤ ((u.2.1 0) j).toInt ∧ ((u.2.1 0) j).toInt ≤ 7)) (gB D (va_A [(a0, .inr (10, [.ref a1, .ref a2, .ref a3, .ref a4, .ref a5, .ref a6, .ref a7, .int x0])), (a7, .inl (cI, 5, .inl f0)), (a4, .inl (cI, 5, .inl f1)), (a5, .inl (cI, 5, .inl f2)), (a2, .inl (cJ, 5, .inr (.inl g0))), (a1, .inl (cJ, 25, .inr (.inl g1))), (a3, .inl (cJ, 25, .inr (.inl g2)))] sz) (fun u : gEx => [(a0, .inr (10, [.ref a1, .ref a2, .ref a3, .ref a4, .ref a5, .ref a6, .ref a7, .int x0])), (a7, .inl (cI, 5, .inl (u.2.1 0))), (a4, .inl (cI, 5, .inl f1)), (a5, .inl (cI, 5, .inl f2)), (a2, .inl (cJ, 5, .inr (.inl (u.2.2.1 0)))), (a1, .inl (cJ, 25, .inr (.inl g1))), (a3, .inl (cJ, 25, .inr (.inl (u.2.2.1 1))))])) (va_A [(a0, .inr (10, [.ref a1, .ref a2, .ref a3, .ref a4, .ref a5, .ref a6, .ref a7, .int x0])), (a7, .inl (cI, 5, .inl f0)), (a4, .inl (cI, 5, .inl f1)), (a5, .inl (cI, 5, .inl f2)), (a2, .inl (cJ, 5, .inr (.inl g0))), (a1, .inl (cJ, 25, .inr (.inl g1))), (a3, .inl (cJ, 25, .inr (.inl g2)))] sz)) 0 0 (va_A [(a0, .inr (10, [.ref a1, .ref a2, .ref a3, .ref a4, .ref a5, .ref a6, .ref a7, .int x0])), (a7, .inl (cI, 5, .inl f0)), (a4, .inl (cI, 5, .inl f1)), (a5, .inl (cI, 5, .inl f2)), (a2, .inl (cJ, 5, .inr (.inl g0))), (a1, .inl (cJ, 25, .inr (.inl g1))), (a3, .inl (cJ, 25, .inr (.inl g2)))] sz) := by
  refine gOf_v (by decide +kernel) (Nat.le_of_ble_eq_true rfl) ?_
  intro p e s m args below meth c ls A Q hx hb hts hown hml hN hK hP hD hA hl hret
  replace hown : s.vm.findClass RX10 = some m.cls := hown
  have hS : va_S A s.heap s.heap [] := va_S.rf
  replace hP : va_P D gcl [(a0, .inr (10, [.ref a1, .ref a2, .ref a3, .ref a4, .ref a5, .ref a6, .ref a7, .int x0])), (a7, .inl (cI, 5, .inl f0)), (a4, .inl (cI, 5, .inl f1)), (a5, .inl (cI, 5, .inl f2)), (a2, .inl (cJ, 5, .inr (.inl g0))), (a1, .inl (cJ, 25, .inr (.inl g1))), (a3, .inl (cJ, 25, .inr (.inl g2)))] s.heap := hP
  replace hl : lv_has ls 1 [(0, .ref a0)] := hl
  refine lv_aload_n (pc := 0) hx hb dX10_firstLine_0 rfl (lv_at hl 0 rfl) ?_
  refine va_get (pc := 1) (ci := 10) (v := .ref a7) (C := RX10) (T := TX10) (N := 8) hx hb hts iX10 hown hK hP 0 rfl rfl 6 (by decide) (hts _ tw_216) (fun _ h9 => h9) rfl dX10_firstLine_1 ?_
  refine lv_iconst (pc := 4) (v := 0) hx hb dX10_firstLine_4 (by decide) ?_
  refine gc_v (pc := 5) (wc := [(a7, .inl (cI, 5, .inl f0))]) (wr := [(a0, .inr (10, [.ref a1, .ref a2, .ref a3, .ref a4, .ref a5, .ref a6, .ref a7, .int x0])), (a4, .inl (cI, 5, .inl f1)), (a5, .inl (cI, 5, .inl f2)), (a2, .inl (cJ, 5, .inr (.inl g0))), (a1, .inl (cJ, 25, .inr (.inl g1))), (a3, .inl (cJ, 25, .inr (.inl g2)))]) hP hD hS hA [1] [0, 2, 3, 4, 5, 6] rfl rfl (by decide) (by decide) (by decide) (fun hPc hDc => va_runS (As := [.ref a7, .int 0]) (rest := []) ⟨hx, hb, hml, hown, hts⟩ (k_J7_fill_53178_5r0_7 l D cB cC cI cJ _ a7 0 f0 (n_c tI_0 (by decide)) hf_f0) ⟨gcwB hts tw_505 tw_10 tw_905 hd_yJ7_fill_53178 ⟨Nat.le_of_ble_eq_true rfl, Nat.le_of_ble_eq_true rfl⟩, hts _ tw_504⟩ (gpreS hPc hK hDc hN) rfl rfl hl.1 rfl (lv_room (Nat.le_of_ble_eq_true rfl)) dX10_firstLine_5 ⟨Nat.le_of_ble_eq_true rfl, Nat.le_of_ble_eq_true rfl⟩) (fun u_1 H locs hw_3 hP hD hS => ?_)
  replace hP : va_P D gcl [(a0, .inr (10, [.ref a1, .ref a2, .ref a3, .ref a4, .ref a5, .ref a6, .ref a7, .int x0])), (a4, .inl (cI, 5, .inl f1)), (a5, .inl (cI, 5, .inl f2)), (a2, .inl (cJ, 5, .inr (.inl g0))), (a1, .inl (cJ, 25, .inr (.inl g1))), (a3, .inl (cJ, 25, .inr (.inl g2))), (a7, .inl (cI, 5, .inl (u_1.2.1 0)))] H := hP
  replace hD : va_D A [(a0, .inr (10, [.ref a1, .ref a2, .ref a3, .ref a4, .ref a5, .ref a6, .ref a7, .int x0])), (a4, .inl (cI, 5, .inl f1)), (a5, .inl (cI, 5, .inl f2)), (a2, .inl (cJ, 5, .inr (.inl g0))), (a1, .inl (cJ, 25, .inr (.inl g1))), (a3, .inl (cJ, 25, .inr (.inl g2))), (a7, .inl (cI, 5, .inl (u_1.2.1 0)))] := hD
  have hw_4 : (∀ j, 0 ≤ ((u_1.2.1 0) j).toInt ∧ ((u_1.2.1 0) j).toInt ≤ 7) := hw_3
  have kk0_r_2 := tI_0
  refine lv_aload_n (pc := 8) hx hb dX10_firstLine_8 rfl (lv_at hl 0 rfl) ?_
  refine lv_iconst (pc := 9) (v := 0) hx hb dX10_firstLine_9 (by decide) ?_
  refine gc_v (pc := 10) (wc := [(a0, .inr (10, [.ref a1, .ref a2, .ref a3, .ref a4, .ref a5, .ref a6, .ref a7, .int x0])), (a4, .inl (cI, 5, .inl f1)), (a5, .inl (cI, 5, .inl f2)), (a7, .inl (cI, 5, .inl (u_1.2.1 0))), (a2, .inl (cJ, 5, .inr (.inl g0))), (a1, .inl (cJ, 25, .inr (.inl g1))), (a3, .inl (cJ, 25, .inr (.inl g2)))]) (wr := []) hP hD hS hA [0, 1, 2, 6, 3, 4, 5] [] rfl rfl (by decide) (by decide) (by decide) (fun hPc hDc => va_runV (As := [.int 0]) (rest := []) ⟨hx, hb, hml, hown, hts⟩ (k_X10_settle_8 l D cB cC cI cJ _ a0 a1 a2 a3 a4 a5 a6 a7 0 x0 f1 f2 (u_1.2.1 0) g0 g1 g2 (n_c tI_0 (by decide)) h_x0 hw_4) ⟨gcwB hts tw_909 tw_8 tw_906 hd_yX10_settle ⟨Nat.le_of_ble_eq_true rfl, Nat.le_of_ble_eq_true rfl⟩, hts _ tw_908, hts _ tp_33⟩ ⟨gblind, va_recv hK hPc (ci := 10) (q0 := 0) rfl rfl, (gpreS hPc hK hDc hN).2⟩ rfl rfl hl.1 rfl (lv_room (Nat.le_of_ble_eq_true rfl)) dX10_firstLine_10 ⟨Nat.le_of_ble_eq_true rfl, Nat.le_of_ble_eq_true rfl⟩) (fun u_5 H locs hw_7 hP hD hS => ?_)
  replace hP : va_P D gcl [(a0, .inr (10, [.ref a1, .ref a2, .ref a3, .ref a4, .ref a5, .ref a6, .ref a7, .int x0])), (a4, .inl (cI, 5, .inl f1)), (a5, .inl (cI, 5, .inl f2)), (a7, .inl (cI, 5, .inl (u_1.2.1 0))), (a2, .inl (cJ, 5, .inr (.inl (u_5.2.2.1 0)))), (a1, .inl (cJ, 25, .inr (.inl g1))), (a3, .inl (cJ, 25, .inr (.inl (u_5.2.2.1 1))))] H := hP
  replace hD : va_D A [(a0, .inr (10, [.ref a1, .ref a2, .ref a3, .ref a4, .ref a5, .ref a6, .ref a7, .int x0])), (a4, .inl (cI, 5, .inl f1)), (a5, .inl (cI, 5, .inl f2)), (a7, .inl (cI, 5, .inl (u_1.2.1 0))), (a2, .inl (cJ, 5, .inr (.inl (u_5.2.2.1 0)))), (a1, .inl (cJ, 25, .inr (.inl g1))), (a3, .inl (cJ, 25, .inr (.inl (u_5.2.2.1 1))))] := hD
  have hw_8 : (((0 ≤ x0.toInt ∧ x0.toInt ≤ 4))) := hw_7
  have kk0_r_6 := tI_0
  exact hret ((fun _ => 0), (fun k => [(u_1.2.1 0)].getD k (fun _ => 0)), (fun k => [(u_5.2.2.1 0), (u_5.2.2.1 1)].getD k (fun _ => 0)), (fun _ => 0), (fun _ => 0)) dX10_firstLine_13 hw_4 (g_psub (wc := [(a0, .inr (10, [.ref a1, .ref a2, .ref a3, .ref a4, .ref a5, .ref a6, .ref a7, .int x0])), (a7, .inl (cI, 5, .inl (u_1.2.1 0))), (a4, .inl (cI, 5, .inl f1)), (a5, .inl (cI, 5, .inl f2)), (a2, .inl (cJ, 5, .inr (.inl (u_5.2.2.1 0)))), (a1, .inl (cJ, 25, .inr (.inl g1))), (a3, .inl (cJ, 25, .inr (.inl (u_5.2.2.1 1))))]) hP [0, 3, 1, 2, 4, 5, 6] rfl) (hD.sub (ws' := [(a0, .inr (10, [.ref a1, .ref a2, .ref a3, .ref a4, .ref a5, .ref a6, .ref a7, .int x0])), (a7, .inl (cI, 5, .inl (u_1.2.1 0))), (a4, .inl (cI, 5, .inl f1)), (a5, .inl (cI, 5, .inl f2)), (a2, .inl (cJ, 5, .inr (.inl (u_5.2.2.1 0)))), (a1, .inl (cJ, 25, .inr (.inl g1))), (a3, .inl (cJ, 25, .inr (.inl (u_5.2.2.1 1))))]) [0, 3, 1, 2, 4, 5, 6] (by decide) rfl) hS
set_option maxHeartbeats 4000000 in
set_option maxRecDepth 100000 in
theorem k_X7_startWalk_6 (l : Launch) (D : va_G) (cB cC cI cJ : ClassId) (sz : Nat) (a0 a1 a2 a3 a4 a5 a6 a7 a8 a9 a10 a11 a12 a13 a14 a15 a16 a17 a18 a19 a20 a21 : Nat) (x0 x1 x2 x3 x4 x5 x6 x7 x8 x9 : Int32) (y0 : Int64) (f0 f1 f2 f3 f4 f5 : Nat → Int32) (g0 g1 g2 : Nat → Int64) (h_x0 : zBd x0.toInt 0 10) (h_x1 : zBd x1.toInt 0 1) (h_x2 : zBd x2.toInt 0 4) (h_x3 : zBd x3.toInt (-1) 8) (h_x4 : zBd x4.toInt (-1) 5) (h_x5 : zBd x5.toInt (-1) 6) (h_x6 : zBd x6.toInt 0 6) (h_x7 : zBd x7.toInt 0 16) (hf_f4 : (∀ j, (-1) ≤ (f4 j).toInt ∧ (f4 j).toInt ≤ 8)) (hf_f5 : (∀ j, 0 ≤ (f5 j).toInt ∧ (f5 j).toInt ≤ 7)) : Met l yX7_startWalk (.code yX7_startWalk cX7_startWalk 3 none :: lw_gd) ({ frames := 3, cells := 0, slots := 0, locals := 69 }) (gPre D [(cB, .byte), (cC, .char), (cI, .int), (cJ, .long)] [.ref a0, .ref a1, .ref a2] [(a0, .inr (7, [.ref a3, .ref a4, .ref a5, .ref a6, .ref a7, .ref a8, .ref a9, .ref a10, .int x0, .long y0, .int x1])), (a3, .inr (10, [.ref a11, .ref a12, .ref a13, .ref a14, .ref a15, .ref a16, .ref a17, .int x2])), (a1, .inr (1, [.ref a18, .ref a19, .ref a20, .int x3, .int x4, .int x5, .int x6, .int x7, .int x8, .int x9])), (a18, .inr (8, [.ref a21])), (a21, .inl (cI, 30, .inl f0)), (a11, .inl (cJ, 25, .inr (.inl g0))), (a13, .inl (cJ, 25, .inr (.inl g1))), (a12, .inl (cJ, 5, .inr (.inl g2))), (a2, .inl (cI, 6, .inl f1)), (a14, .inl (cI, 5, .inl f2)), (a15, .inl (cI, 5, .inl f3)), (a16, .inl (cI, 5, .inl f4)), (a17, .inl (cI, 5, .inl f5))] sz) (va_Qv (fun u => (0 ≤ (u.2.2.2.1 0).toInt ∧ (u.2.2.2.1 0).toInt ≤ 4) ∧ (∀ j, (-1) ≤ ((u.2.1 2) j).toInt ∧ ((u.2.1 2) j).toInt ≤ 8) ∧ (∀ j, 0 ≤ ((u.2.1 3) j).toInt ∧ ((u.2.1 3) j).toInt ≤ 7)) (gB D (va_A [(a0, .inr (7, [.ref a3, .ref a4, .ref a5, .ref a6, .ref a7, .ref a8, .ref a9, .ref a10, .int x0, .long y0, .int x1])), (a3, .inr (10, [.ref a11, .ref a12, .ref a13, .ref a14, .ref a15, .ref a16, .ref a17, .int x2])), (a1, .inr (1, [.ref a18, .ref a19, .ref a20, .int x3, .int x4, .int x5, .int x6, .int x7, .int x8, .int x9])), (a18, .inr (8, [.ref a21])), (a21, .inl (cI, 30, .inl f0)), (a11, .inl (cJ, 25, .inr (.inl g0))), (a13, .inl (cJ, 25, .inr (.inl g1))), (a12, .inl (cJ, 5, .inr (.inl g2))), (a2, .inl (cI, 6, .inl f1)), (a14, .inl (cI, 5, .inl f2)), (a15, .inl (cI, 5, .inl f3)), (a16, .inl (cI, 5, .inl f4)), (a17, .inl (cI, 5, .inl f5))] sz) (fun u : gEx => [(a0, .inr (7, [.ref a3, .ref a4, .ref a5, .ref a6, .ref a7, .ref a8, .ref a9, .ref a10, .int x0, .long y0, .int x1])), (a3, .inr (10, [.ref a11, .ref a12, .ref a13, .ref a14, .ref a15, .ref a16, .ref a17, .int (u.2.2.2.1 0)])), (a1, .inr (1, [.ref a18, .ref a19, .ref a20, .int x3, .int x4, .int x5, .int x6, .int x7, .int x8, .int x9])), (a18, .inr (8, [.ref a21])), (a21, .inl (cI, 30, .inl f0)), (a11, .inl (cJ, 25, .inr (.inl (u.2.2.1 0)))), (a13, .inl (cJ, 25, .inr (.inl (u.2.2.1 1)))), (a12, .inl (cJ, 5, .inr (.inl (u.2.2.1 2)))), (a2, .inl (cI, 6, .inl f1)), (a14, .inl (cI, 5, .inl (u.2.1 0))), (a15, .inl (cI, 5, .inl (u.2.1 1))), (a16, .inl (cI, 5, .inl (u.2.1 2))), (a17, .inl (cI, 5, .inl (u.2.1 3)))])) (va_A [(a0, .inr (7, [.ref a3, .ref a4, .ref a5, .ref a6, .ref a7, .ref a8, .ref a9, .ref a10, .int x0, .long y0, .int x1])), (a3, .inr (10, [.ref a11, .ref a12, .ref a13, .ref a14, .ref a15, .ref a16, .ref a17, .int x2])), (a1, .inr (1, [.ref a18, .ref a19, .ref a20, .int x3, .int x4, .int x5, .int x6, .int x7, .int x8, .int x9])), (a18, .inr (8, [.ref a21])), (a21, .inl (cI, 30, .inl f0)), (a11, .inl (cJ, 25, .inr (.inl g0))), (a13, .inl (cJ, 25, .inr (.inl g1))), (a12, .inl (cJ, 5, .inr (.inl g2))), (a2, .inl (cI, 6, .inl f1)), (a14, .inl (cI, 5, .inl f2)), (a15, .inl (cI, 5, .inl f3)), (a16, .inl (cI, 5, .inl f4)), (a17, .inl (cI, 5, .inl f5))] sz)) 0 0 (va_A [(a0, .inr (7, [.ref a3, .ref a4, .ref a5, .ref a6, .ref a7, .ref a8, .ref a9, .ref a10, .int x0, .long y0, .int x1])), (a3, .inr (10, [.ref a11, .ref a12, .ref a13, .ref a14, .ref a15, .ref a16, .ref a17, .int x2])), (a1, .inr (1, [.ref a18, .ref a19, .ref a20, .int x3, .int x4, .int x5, .int x6, .int x7, .int x8, .int x9])), (a18, .inr (8, [.ref a21])), (a21, .inl (cI, 30, .inl f0)), (a11, .inl (cJ, 25, .inr (.inl g0))), (a13, .inl (cJ, 25, .inr (.inl g1))), (a12, .inl (cJ, 5, .inr (.inl g2))), (a2, .inl (cI, 6, .inl f1)), (a14, .inl (cI, 5, .inl f2)), (a15, .inl (cI, 5, .inl f3)), (a16, .inl (cI, 5, .inl f4)), (a17, .inl (cI, 5, .inl f5))] sz) := by
  refine gOf_v (by decide +kernel) (Nat.le_of_ble_eq_true rfl) ?_
  intro p e s m args below meth c ls A Q hx hb hts hown hml hN hK hP hD hA hl hret
  replace hown : s.vm.findClass RX7 = some m.cls := hown
  have hS : va_S A s.heap s.heap [] := va_S.rf
  replace hP : va_P D gcl [(a0, .inr (7, [.ref a3, .ref a4, .ref a5, .ref a6, .ref a7, .ref a8, .ref a9, .ref a10, .int x0, .long y0, .int x1])), (a3, .inr (10, [.ref a11, .ref a12, .ref a13, .ref a14, .ref a15, .ref a16, .ref a17, .int x2])), (a1, .inr (1, [.ref a18, .ref a19, .ref a20, .int x3, .int x4, .int x5, .int x6, .int x7, .int x8, .int x9])), (a18, .inr (8, [.ref a21])), (a21, .inl (cI, 30, .inl f0)), (a11, .inl (cJ, 25, .inr (.inl g0))), (a13, .inl (cJ, 25, .inr (.inl g1))), (a12, .inl (cJ, 5, .inr (.inl g2))), (a2, .inl (cI, 6, .inl f1)), (a14, .inl (cI, 5, .inl f2)), (a15, .inl (cI, 5, .inl f3)), (a16, .inl (cI, 5, .inl f4)), (a17, .inl (cI, 5, .inl f5))] s.heap := hP
  replace hl : lv_has ls 3 [(0, .ref a0), (1, .ref a1), (2, .ref a2)] := hl
  have ry0 := n_rngL y0
  have rx8 : zBd x8.toInt (-2147483648) 2147483647 := n_rng x8
  have rx9 : zBd x9.toInt (-2147483648) 2147483647 := n_rng x9
  refine lv_aload_n (pc := 0) hx hb dX7_startWalk_0 rfl (lv_at hl 0 rfl) ?_
  refine va_get (pc := 1) (ci := 7) (v := .ref a3) (C := RX7) (T := TX7) (N := 11) hx hb hts iX7 hown hK hP 0 rfl rfl 0 (by decide) (hts _ tw_242) (fun _ h9 => h9) rfl dX7_startWalk_1 ?_
  refine lv_aload_n (pc := 4) hx hb dX7_startWalk_4 rfl (lv_at hl 1 rfl) ?_
  refine gc_v (pc := 5) (wc := [(a3, .inr (10, [.ref a11, .ref a12, .ref a13, .ref a14, .ref a15, .ref a16, .ref a17, .int x2])), (a1, .inr (1, [.ref a18, .ref a19, .ref a20, .int x3, .int x4, .int x5, .int x6, .int x7, .int x8, .int x9])), (a18, .inr (8, [.ref a21])), (a21, .inl (cI, 30, .inl f0)), (a11, .inl (cJ, 25, .inr (.inl g0))), (a13, .inl (cJ, 25, .inr (.inl g1))), (a12, .inl (cJ, 5, .inr (.inl g2)))]) (wr := [(a0, .inr (7, [.ref a3, .ref a4, .ref a5, .ref a6, .ref a7, .ref a8, .ref a9, .ref a10, .int x0, .long y0, .int x1])), (a2, .inl (cI, 6, .inl f1)), (a14, .inl (cI, 5, .inl f2)), (a15, .inl (cI, 5, .inl f3)), (a16, .inl (cI, 5, .inl f4)), (a17, .inl (cI, 5, .inl f5))]) hP hD hS hA [1, 2, 3, 4, 5, 6, 7] [0, 8, 9, 10, 11, 12] rfl rfl (by decide) (by decide) (by decide) (fun hPc hDc => va_runV (As := [.ref a1]) (rest := []) ⟨hx, hb, hml, hown, hts⟩ (k_X10_start_8 l D cB cC cI cJ _ a3 a1 a11 a12 a13 a14 a15 a16 a17 a18 a19 a20 a21 x2 x3 x4 x5 x6 x7 x8 x9 f0 g0 g1 g2 h_x2 h_x3 h_x4 h_x5 h_x6 h_x7) ⟨gcwB hts tw_883 tw_8 tw_880 hd_yX10_start ⟨Nat.le_of_ble_eq_true rfl, Nat.le_of_ble_eq_true rfl⟩, hts _ tw_881, hts _ tw_882⟩ ⟨gblind, va_recv hK hPc (ci := 10) (q0 := 0) rfl rfl, (gpreS hPc hK hDc hN).2⟩ rfl rfl hl.1 rfl (lv_room (Nat.le_of_ble_eq_true rfl)) dX7_startWalk_5 ⟨Nat.le_of_ble_eq_true rfl, Nat.le_of_ble_eq_true rfl⟩) (fun u_1 H locs hw_3 hP hD hS => ?_)
  replace hP : va_P D gcl [(a0, .inr (7, [.ref a3, .ref a4, .ref a5, .ref a6, .ref a7, .ref a8, .ref a9, .ref a10, .int x0, .long y0, .int x1])), (a2, .inl (cI, 6, .inl f1)), (a14, .inl (cI, 5, .inl f2)), (a15, .inl (cI, 5, .inl f3)), (a16, .inl (cI, 5, .inl f4)), (a17, .inl (cI, 5, .inl f5)), (a3, .inr (10, [.ref a11, .ref a12, .ref a13, .ref a14, .ref a15, .ref a16, .ref a17, .int (u_1.2.2.2.1 0)])), (a1, .inr (1, [.ref a18, .ref a19, .ref a20, .int x3, .int x4, .int x5, .int x6, .int x7, .int x8, .int x9])), (a18, .inr (8, [.ref a21])), (a21, .inl (cI, 30, .inl f0)), (a11, .inl (cJ, 25, .inr (.inl (u_1.2.2.1 0)))), (a13, .inl (cJ, 25, .inr (.inl (u_1.2.2.1 1)))), (a12, .inl (cJ, 5, .inr (.inl (u_1.2.2.1 2))))] H := hP
  replace hD : va_D A [(a0, .inr (7, [.ref a3, .ref a4, .ref a5, .ref a6, .ref a7, .ref a8, .ref a9, .ref a10, .int x0, .long y0, .int x1])), (a2, .inl (cI, 6, .inl f1)), (a14, .inl (cI, 5, .inl f2)), (a15, .inl (cI, 5, .inl f3)), (a16, .inl (cI, 5, .inl f4)), (a17, .inl (cI, 5, .inl f5)), (a3, .inr (10, [.ref a11, .ref a12, .ref a13, .ref a14, .ref a15, .ref a16, .ref a17, .int (u_1.2.2.2.1 0)])), (a1, .inr (1, [.ref a18, .ref a19, .ref a20, .int x3, .int x4, .int x5, .int x6, .int x7, .int x8, .int x9])), (a18, .inr (8, [.ref a21])), (a21, .inl (cI, 30, .inl f0)), (a11, .inl (cJ, 25, .inr (.inl (u_1.2.2.1 0)))), (a13, .inl (cJ, 25, .inr (.inl (u_1.2.2.1 1)))), (a12, .inl (cJ, 5, .inr (.inl (u_1.2.2.1 2))))] := hD
  have hw_4 : (0 ≤ (u_1.2.2.2.1 0).toInt ∧ (u_1.2.2.2.1 0).toInt ≤ 4) := hw_3
  refine lv_aload_n (pc := 8) hx hb dX7_startWalk_8 rfl (lv_at hl 0 rfl) ?_
  refine va_get (pc := 9) (ci := 7) (v := .ref a3) (C := RX7) (T := TX7) (N := 11) hx hb hts iX7 hown hK hP 0 rfl rfl 0 (by decide) (hts _ tw_242) (fun _ h9 => h9) rfl dX7_startWalk_9 ?_
  refine lv_aload_n (pc := 12) hx hb dX7_startWalk_12 rfl (lv_at hl 1 rfl) ?_
  refine lv_aload_n (pc := 13) hx hb dX7_startWalk_13 rfl (lv_at hl 2 rfl) ?_
  refine gc_v (pc := 14) (wc := [(a3, .inr (10, [.ref a11, .ref a12, .ref a13, .ref a14, .ref a15, .ref a16, .ref a17, .int (u_1.2.2.2.1 0)])), (a1, .inr (1, [.ref a18, .ref a19, .ref a20, .int x3, .int x4, .int x5, .int x6, .int x7, .int x8, .int x9])), (a12, .inl (cJ, 5, .inr (.inl (u_1.2.2.1 2)))), (a13, .inl (cJ, 25, .inr (.inl (u_1.2.2.1 1)))), (a2, .inl (cI, 6, .inl f1)), (a18, .inr (8, [.ref a21])), (a21, .inl (cI, 30, .inl f0))]) (wr := [(a0, .inr (7, [.ref a3, .ref a4, .ref a5, .ref a6, .ref a7, .ref a8, .ref a9, .ref a10, .int x0, .long y0, .int x1])), (a14, .inl (cI, 5, .inl f2)), (a15, .inl (cI, 5, .inl f3)), (a16, .inl (cI, 5, .inl f4)), (a17, .inl (cI, 5, .inl f5)), (a11, .inl (cJ, 25, .inr (.inl (u_1.2.2.1 0))))]) hP hD hS hA [6, 7, 12, 11, 1, 8, 9] [0, 2, 3, 4, 5, 10] rfl rfl (by decide) (by decide) (by decide) (fun hPc hDc => va_runV (As := [.ref a1, .ref a2]) (rest := []) ⟨hx, hb, hml, hown, hts⟩ (k_X10_aimAt_8_6 l D cB cC cI cJ _ a3 a1 a2 a11 a12 a13 a14 a15 a16 a17 a18 a19 a20 a21 (u_1.2.2.2.1 0) x3 x4 x5 x6 x7 x8 x9 f1 f0 (u_1.2.2.1 2) (u_1.2.2.1 1) hw_4 h_x3 h_x4 h_x5 h_x6 h_x7) ⟨gcwB hts tw_891 tw_8 tw_888 hd_yX10_aimAt ⟨Nat.le_of_ble_eq_true rfl, Nat.le_of_ble_eq_true rfl⟩, hts _ tw_889, hts _ tw_890⟩ ⟨gblind, va_recv hK hPc (ci := 10) (q0 := 0) rfl rfl, (gpreS hPc hK hDc hN).2⟩ rfl rfl hl.1 rfl (lv_room (Nat.le_of_ble_eq_true rfl)) dX7_startWalk_14 ⟨Nat.le_of_ble_eq_true rfl, Nat.le_of_ble_eq_true rfl⟩) (fun u_5 H locs hw_7 hP hD hS => ?_)
  replace hP : va_P D gcl [(a0, .inr (7, [.ref a3, .ref a4, .ref a5, .ref a6, .ref a7, .ref a8, .ref a9, .ref a10, .int x0, .long y0, .int x1])), (a14, .inl (cI, 5, .inl f2)), (a15, .inl (cI, 5, .inl f3)), (a16, .inl (cI, 5, .inl f4)), (a17, .inl (cI, 5, .inl f5)), (a11, .inl (cJ, 25, .inr (.inl (u_1.2.2.1 0)))), (a3, .inr (10, [.ref a11, .ref a12, .ref a13, .ref a14, .ref a15, .ref a16, .ref a17, .int (u_1.2.2.2.1 0)])), (a1, .inr (1, [.ref a18, .ref a19, .ref a20, .int x3, .int x4, .int x5, .int x6, .int x7, .int x8, .int x9])), (a12, .inl (cJ, 5, .inr (.inl (u_5.2.2.1 0)))), (a13, .inl (cJ, 25, .inr (.inl (u_5.2.2.1 1)))), (a2, .inl (cI, 6, .inl f1)), (a18, .inr (8, [.ref a21])), (a21, .inl (cI, 30, .inl f0))] H := hP
  replace hD : va_D A [(a0, .inr (7, [.ref a3, .ref a4, .ref a5, .ref a6, .ref a7, .ref a8, .ref a9, .ref a10, .int x0, .long y0, .int x1])), (a14, .inl (cI, 5, .inl f2)), (a15, .inl (cI, 5, .inl f3)), (a16, .inl (cI, 5, .inl f4)), (a17, .inl (cI, 5, .inl f5)), (a11, .inl (cJ, 25, .inr (.inl (u_1.2.2.1 0)))), (a3, .inr (10, [.ref a11, .ref a12, .ref a13, .ref a14, .ref a15, .ref a16, .ref a17, .int (u_1.2.2.2.1 0)])), (a1, .inr (1, [.ref a18, .ref a19, .ref a20, .int x3, .int x4, .int x5, .int x6, .int x7, .int x8, .int x9])), (a12, .inl (cJ, 5, .inr (.inl (u_5.2.2.1 0)))), (a13, .inl (cJ, 25, .inr (.inl (u_5.2.2.1 1)))), (a2, .inl (cI, 6, .inl f1)), (a18, .inr (8, [.ref a21])), (a21, .inl (cI, 30, .inl f0))] := hD
  have hw_8 : ((((-1) ≤ x5.toInt ∧ x5.toInt ≤ 6) ∧ (0 ≤ (u_1.2.2.2.1 0).toInt ∧ (u_1.2.2.2.1 0).toInt ≤ 4))) := hw_7
  refine lv_aload_n (pc := 17) hx hb dX7_startWalk_17 rfl (lv_at hl 0 rfl) ?_
  refine va_get (pc := 18) (ci := 7) (v := .ref a3) (C := RX7) (T := TX7) (N := 11) hx hb hts iX7 hown hK hP 0 rfl rfl 0 (by decide) (hts _ tw_242) (fun _ h9 => h9) rfl dX7_startWalk_18 ?_
  refine lv_iconst (pc := 21) (v := 1) hx hb dX7_startWalk_21 (by decide) ?_
  refine lv_aload_n (pc := 22) hx hb dX7_startWalk_22 rfl (lv_at hl 1 rfl) ?_
  refine va_getN (pc := 23) (ci := 1) (v := .int x3) (C := RX1) (T := TX1) (N := 10) hx hb hts iX1 hown hK hP 7 rfl rfl 3 (by decide) (va_Nw.use rfl (hN _ tn_112)) (fun _ h9 => h9) rfl dX7_startWalk_23 ?_
  refine b_isub (pc := 26) hx hb tI_1 rfl (by (first | omega | (unfold zBd at *; omega))) (by (first | omega | (unfold zBd at *; omega))) dX7_startWalk_26 (fun x_9 ex_9 => ?_)
  refine lv_iconst (pc := 27) (v := 2) hx hb dX7_startWalk_27 (by decide) ?_
  refine lv_aload_n (pc := 28) hx hb dX7_startWalk_28 rfl (lv_at hl 1 rfl) ?_
  refine va_getN (pc := 29) (ci := 1) (v := .int x3) (C := RX1) (T := TX1) (N := 10) hx hb hts iX1 hown hK hP 7 rfl rfl 3 (by decide) (va_Nw.use rfl (hN _ tn_112)) (fun _ h9 => h9) rfl dX7_startWalk_29 ?_
  refine gc_v (pc := 32) (wc := [(a3, .inr (10, [.ref a11, .ref a12, .ref a13, .ref a14, .ref a15, .ref a16, .ref a17, .int (u_1.2.2.2.1 0)])), (a14, .inl (cI, 5, .inl f2)), (a15, .inl (cI, 5, .inl f3)), (a16, .inl (cI, 5, .inl f4))]) (wr := [(a0, .inr (7, [.ref a3, .ref a4, .ref a5, .ref a6, .ref a7, .ref a8, .ref a9, .ref a10, .int x0, .long y0, .int x1])), (a17, .inl (cI, 5, .inl f5)), (a11, .inl (cJ, 25, .inr (.inl (u_1.2.2.1 0)))), (a1, .inr (1, [.ref a18, .ref a19, .ref a20, .int x3, .int x4, .int x5, .int x6, .int x7, .int x8, .int x9])), (a12, .inl (cJ, 5, .inr (.inl (u_5.2.2.1 0)))), (a13, .inl (cJ, 25, .inr (.inl (u_5.2.2.1 1)))), (a2, .inl (cI, 6, .inl f1)), (a18, .inr (8, [.ref a21])), (a21, .inl (cI, 30, .inl f0))]) hP hD hS hA [6, 1, 2, 3] [0, 4, 5, 7, 8, 9, 10, 11, 12] rfl rfl (by decide) (by decide) (by decide) (fun hPc hDc => va_runV (As := [.int x_9, .int 2, .int x3]) (rest := []) ⟨hx, hb, hml, hown, hts⟩ (k_X10_setAllNumbers_8 l D cB cC cI cJ _ a3 a11 a12 a13 a14 a15 a16 a17 x_9 2 x3 (u_1.2.2.2.1 0) f2 f3 f4 h_x3 hw_4 hf_f4) ⟨gcwB hts tw_896 tw_8 tw_893 hd_yX10_setAllNumbers ⟨Nat.le_of_ble_eq_true rfl, Nat.le_of_ble_eq_true rfl⟩, hts _ tw_894, hts _ tw_895⟩ ⟨gblind, va_recv hK hPc (ci := 10) (q0 := 0) rfl rfl, (gpreS hPc hK hDc hN).2⟩ rfl rfl hl.1 rfl (lv_room (Nat.le_of_ble_eq_true rfl)) dX7_startWalk_32 ⟨Nat.le_of_ble_eq_true rfl, Nat.le_of_ble_eq_true rfl⟩) (fun u_10 H locs hw_12 hP hD hS => ?_)
  replace hP : va_P D gcl [(a0, .inr (7, [.ref a3, .ref a4, .ref a5, .ref a6, .ref a7, .ref a8, .ref a9, .ref a10, .int x0, .long y0, .int x1])), (a17, .inl (cI, 5, .inl f5)), (a11, .inl (cJ, 25, .inr (.inl (u_1.2.2.1 0)))), (a1, .inr (1, [.ref a18, .ref a19, .ref a20, .int x3, .int x4, .int x5, .int x6, .int x7, .int x8, .int x9])), (a12, .inl (cJ, 5, .inr (.inl (u_5.2.2.1 0)))), (a13, .inl (cJ, 25, .inr (.inl (u_5.2.2.1 1)))), (a2, .inl (cI, 6, .inl f1)), (a18, .inr (8, [.ref a21])), (a21, .inl (cI, 30, .inl f0)), (a3, .inr (10, [.ref a11, .ref a12, .ref a13, .ref a14, .ref a15, .ref a16, .ref a17, .int (u_1.2.2.2.1 0)])), (a14, .inl (cI, 5, .inl (u_10.2.1 0))), (a15, .inl (cI, 5, .inl (u_10.2.1 1))), (a16, .inl (cI, 5, .inl (u_10.2.1 2)))] H := hP
  replace hD : va_D A [(a0, .inr (7, [.ref a3, .ref a4, .ref a5, .ref a6, .ref a7, .ref a8, .ref a9, .ref a10, .int x0, .long y0, .int x1])), (a17, .inl (cI, 5, .inl f5)), (a11, .inl (cJ, 25, .inr (.inl (u_1.2.2.1 0)))), (a1, .inr (1, [.ref a18, .ref a19, .ref a20, .int x3, .int x4, .int x5, .int x6, .int x7, .int x8, .int x9])), (a12, .inl (cJ, 5, .inr (.inl (u_5.2.2.1 0)))), (a13, .inl (cJ, 25, .inr (.inl (u_5.2.2.1 1)))), (a2, .inl (cI, 6, .inl f1)), (a18, .inr (8, [.ref a21])), (a21, .inl (cI, 30, .inl f0)), (a3, .inr (10, [.ref a11, .ref a12, .ref a13, .ref a14, .ref a15, .ref a16, .ref a17, .int (u_1.2.2.2.1 0)])), (a14, .inl (cI, 5, .inl (u_10.2.1 0))), (a15, .inl (cI, 5, .inl (u_10.2.1 1))), (a16, .inl (cI, 5, .inl (u_10.2.1 2)))] := hD
  obtain ⟨hw_13, hw_14⟩ := hw_12
  replace hw_13 : (((0 ≤ (u_1.2.2.2.1 0).toInt ∧ (u_1.2.2.2.1 0).toInt ≤ 4))) := hw_13
  replace hw_14 : (∀ j, (-1) ≤ ((u_10.2.1 2) j).toInt ∧ ((u_10.2.1 2) j).toInt ≤ 8) := hw_14
  have kk0_r_11 := tI_2
  refine lv_aload_n (pc := 35) hx hb dX7_startWalk_35 rfl (lv_at hl 0 rfl) ?_
  refine va_get (pc := 36) (ci := 7) (v := .ref a3) (C := RX7) (T := TX7) (N := 11) hx hb hts iX7 hown hK hP 0 rfl rfl 0 (by decide) (hts _ tw_242) (fun _ h9 => h9) rfl dX7_startWalk_36 ?_
  refine gc_v (pc := 39) (wc := [(a3, .inr (10, [.ref a11, .ref a12, .ref a13, .ref a14, .ref a15, .ref a16, .ref a17, .int (u_1.2.2.2.1 0)])), (a17, .inl (cI, 5, .inl f5)), (a14, .inl (cI, 5, .inl (u_10.2.1 0))), (a15, .inl (cI, 5, .inl (u_10.2.1 1))), (a12, .inl (cJ, 5, .inr (.inl (u_5.2.2.1 0)))), (a11, .inl (cJ, 25, .inr (.inl (u_1.2.2.1 0)))), (a13, .inl (cJ, 25, .inr (.inl (u_5.2.2.1 1))))]) (wr := [(a0, .inr (7, [.ref a3, .ref a4, .ref a5, .ref a6, .ref a7, .ref a8, .ref a9, .ref a10, .int x0, .long y0, .int x1])), (a1, .inr (1, [.ref a18, .ref a19, .ref a20, .int x3, .int x4, .int x5, .int x6, .int x7, .int x8, .int x9])), (a2, .inl (cI, 6, .inl f1)), (a18, .inr (8, [.ref a21])), (a21, .inl (cI, 30, .inl f0)), (a16, .inl (cI, 5, .inl (u_10.2.1 2)))]) hP hD hS hA [9, 1, 10, 11, 4, 2, 5] [0, 3, 6, 7, 8, 12] rfl rfl (by decide) (by decide) (by decide) (fun hPc hDc => va_runV (As := []) (rest := []) ⟨hx, hb, hml, hown, hts⟩ (k_X10_firstLine_8 l D cB cC cI cJ _ a3 a11 a12 a13 a14 a15 a16 a17 (u_1.2.2.2.1 0) f5 (u_10.2.1 0) (u_10.2.1 1) (u_5.2.2.1 0) (u_1.2.2.1 0) (u_5.2.2.1 1) hw_13 hf_f5) ⟨gcwB hts tw_904 tw_8 tw_901 hd_yX10_firstLine ⟨Nat.le_of_ble_eq_true rfl, Nat.le_of_ble_eq_true rfl⟩, hts _ tw_902, hts _ tw_903⟩ ⟨gblind, va_recv hK hPc (ci := 10) (q0 := 0) rfl rfl, (gpreS hPc hK hDc hN).2⟩ rfl rfl hl.1 rfl (lv_room (Nat.le_of_ble_eq_true rfl)) dX7_startWalk_39 ⟨Nat.le_of_ble_eq_true rfl, Nat.le_of_ble_eq_true rfl⟩) (fun u_15 H locs hw_17 hP hD hS => ?_)
  replace hP : va_P D gcl [(a0, .inr (7, [.ref a3, .ref a4, .ref a5, .ref a6, .ref a7, .ref a8, .ref a9, .ref a10, .int x0, .long y0, .int x1])), (a1, .inr (1, [.ref a18, .ref a19, .ref a20, .int x3, .int x4, .int x5, .int x6, .int x7, .int x8, .int x9])), (a2, .inl (cI, 6, .inl f1)), (a18, .inr (8, [.ref a21])), (a21, .inl (cI, 30, .inl f0)), (a16, .inl (cI, 5, .inl (u_10.2.1 2))), (a3, .inr (10, [.ref a11, .ref a12, .ref a13, .ref a14, .ref a15, .ref a16, .ref a17, .int (u_1.2.2.2.1 0)])), (a17, .inl (cI, 5, .inl (u_15.2.1 0))), (a14, .inl (cI, 5, .inl (u_10.2.1 0))), (a15, .inl (cI, 5, .inl (u_10.2.1 1))), (a12, .inl (cJ, 5, .inr (.inl (u_15.2.2.1 0)))), (a11, .inl (cJ, 25, .inr (.inl (u_1.2.2.1 0)))), (a13, .inl (cJ, 25, .inr (.inl (u_15.2.2.1 1))))] H := hP
  replace hD : va_D A [(a0, .inr (7, [.ref a3, .ref a4, .ref a5, .ref a6, .ref a7, .ref a8, .ref a9, .ref a10, .int x0, .long y0, .int x1])), (a1, .inr (1, [.ref a18, .ref a19, .ref a20, .int x3, .int x4, .int x5, .int x6, .int x7, .int x8, .int x9])), (a2, .inl (cI, 6, .inl f1)), (a18, .inr (8, [.ref a21])), (a21, .inl (cI, 30, .inl f0)), (a16, .inl (cI, 5, .inl (u_10.2.1 2))), (a3, .inr (10, [.ref a11, .ref a12, .ref a13, .ref a14, .ref a15, .ref a16, .ref a17, .int (u_1.2.2.2.1 0)])), (a17, .inl (cI, 5, .inl (u_15.2.1 0))), (a14, .inl (cI, 5, .inl (u_10.2.1 0))), (a15, .inl (cI, 5, .inl (u_10.2.1 1))), (a12, .inl (cJ, 5, .inr (.inl (u_15.2.2.1 0)))), (a11, .inl (cJ, 25, .inr (.inl (u_1.2.2.1 0)))), (a13, .inl (cJ, 25, .inr (.inl (u_15.2.2.1 1))))] := hD
  have hw_18 : (∀ j, 0 ≤ ((u_15.2.1 0) j).toInt ∧ ((u_15.2.1 0) j).toInt ≤ 7) := hw_17
  exact hret ((fun _ => 0), (fun k => [(u_10.2.1 0), (u_10.2.1 1), (u_10.2.1 2), (u_15.2.1 0)].getD k (fun _ => 0)), (fun k => [(u_1.2.2.1 0), (u_15.2.2.1 1), (u_15.2.2.1 0)].getD k (fun _ => 0)), (fun k => [(u_1.2.2.2.1 0)].getD k 0), (fun _ => 0)) dX7_startWalk_42 ⟨(show (0 ≤ ((u_1.2.2.2.1 0) : Int32).toInt ∧ ((u_1.2.2.2.1 0) : Int32).toInt ≤ 4) from hw_13), hw_14, hw_18⟩ (g_psub (wc := [(a0, .inr (7, [.ref a3, .ref a4, .ref a5, .ref a6, .ref a7, .ref a8, .ref a9, .ref a10, .int x0, .long y0, .int x1])), (a3, .inr (10, [.ref a11, .ref a12, .ref a13, .ref a14, .ref a15, .ref a16, .ref a17, .int (u_1.2.2.2.1 0)])), (a1, .inr (1, [.ref a18, .ref a19, .ref a20, .int x3, .int x4, .int x5, .int x6, .int x7, .int x8, .int x9])), (a18, .inr (8, [.ref a21])), (a21, .inl (cI, 30, .inl f0)), (a11, .inl (cJ, 25, .inr (.inl (u_1.2.2.1 0)))), (a13, .inl (cJ, 25, .inr (.inl (u_15.2.2.1 1)))), (a12, .inl (cJ, 5, .inr (.inl (u_15.2.2.1 0)))), (a2, .inl (cI, 6, .inl f1)), (a14, .inl (cI, 5, .inl (u_10.2.1 0))), (a15, .inl (cI, 5, .inl (u_10.2.1 1))), (a16, .inl (cI, 5, .inl (u_10.2.1 2))), (a17, .inl (cI, 5, .inl (u_15.2.1 0)))]) hP [0, 6, 1, 3, 4, 11, 12, 10, 2, 8, 9, 5, 7] rfl) (hD.sub (ws' := [(a0, .inr (7, [.ref a3, .ref a4, .ref a5, .ref a6, .ref a7, .ref a8, .ref a9, .ref a10, .int x0, .long y0, .int x1])), (a3, .inr (10, [.ref a11, .ref a12, .ref a13, .ref a14, .ref a15, .ref a16, .ref a17, .int (u_1.2.2.2.1 0)])), (a1, .inr (1, [.ref a18, .ref a19, .ref a20, .int x3, .int x4, .int x5, .int x6, .int x7, .int x8, .int x9])), (a18, .inr (8, [.ref a21])), (a21, .inl (cI, 30, .inl f0)), (a11, .inl (cJ, 25, .inr (.inl (u_1.2.2.1 0)))), (a13, .inl (cJ, 25, .inr (.inl (u_15.2.2.1 1)))), (a12, .inl (cJ, 5, .inr (.inl (u_15.2.2.1 0)))), (a2, .inl (cI, 6, .inl f1)), (a14, .inl (cI, 5, .inl (u_10.2.1 0))), (a15, .inl (cI, 5, .inl (u_10.2.1 1))), (a16, .inl (cI, 5, .inl (u_10.2.1 2))), (a17, .inl (cI, 5, .inl (u_15.2.1 0)))]) [0, 6, 1, 3, 4, 11, 12, 10, 2, 8, 9, 5, 7] (by decide) rfl) hS
set_option maxHeartbeats 4000000 in
set_option maxRecDepth 100000 in
theorem k_X10_lineCount_8 (l : Launch) (D : va_G) (cB cC cI cJ : ClassId) (sz : Nat) (a0 a1 a2 a3 a4 a5 a6 a7 : Nat) (x0 : Int32) (f0 : Nat → Int32) (h_x0 : zBd x0.toInt 0 4) (hf_f0 : (∀ j, (-1) ≤ (f0 j).toInt ∧ (f0 j).toInt ≤ 8)) : Met l yX10_lineCount (.code yX10_lineCount cX10_lineCount 3 (some .int) :: lw_gd) ({ frames := 0, cells := 0, slots := 0, locals := 0 }) (gPre D [(cB, .byte), (cC, .char), (cI, .int), (cJ, .long)] [.ref a0] [(a0, .inr (10, [.ref a1, .ref a2, .ref a3, .ref a4, .ref a5, .ref a6, .ref a7, .int x0])), (a6, .inl (cI, 5, .inl f0))] sz) (va_Qi (fun r u => ((((-2147483648) ≤ r.toInt ∧ r.toInt ≤ 2147483647) ∧ (0 ≤ x0.toInt ∧ x0.toInt ≤ 4)))) (gB D (va_A [(a0, .inr (10, [.ref a1, .ref a2, .ref a3, .ref a4, .ref a5, .ref a6, .ref a7, .int x0])), (a6, .inl (cI, 5, .inl f0))] sz) (fun u : gEx => [(a0, .inr (10, [.ref a1, .ref a2, .ref a3, .ref a4, .ref a5, .ref a6, .ref a7, .int x0])), (a6, .inl (cI, 5, .inl f0))])) (va_A [(a0, .inr (10, [.ref a1, .ref a2, .ref a3, .ref a4, .ref a5, .ref a6, .ref a7, .int x0])), (a6, .inl (cI, 5, .inl f0))] sz)) 0 0 (va_A [(a0, .inr (10, [.ref a1, .ref a2, .ref a3, .ref a4, .ref a5, .ref a6, .ref a7, .int x0])), (a6, .inl (cI, 5, .inl f0))] sz) := by
  refine gOf_i (by decide +kernel) (Nat.le_of_ble_eq_true rfl) ?_
  intro p e s m args below meth c ls A Q hx hb hts hown hml hN hK hP hD hA hl hret
  replace hown : s.vm.findClass RX10 = some m.cls := hown
  have hS : va_S A s.heap s.heap [] := va_S.rf
  replace hP : va_P D gcl [(a0, .inr (10, [.ref a1, .ref a2, .ref a3, .ref a4, .ref a5, .ref a6, .ref a7, .int x0])), (a6, .inl (cI, 5, .inl f0))] s.heap := hP
  replace hl : lv_has ls 3 [(0, .ref a0)] := hl
  refine lv_iconst (pc := 0) (v := 1) hx hb dX10_lineCount_0 (by decide) ?_
  refine lv_istore_n (pc := 1) (lv' := [(1, .int 1), (0, .ref a0)]) hx hb dX10_lineCount_1 rfl hl (by decide) rfl (fun ls hl => ?_)
  refine lv_iconst (pc := 2) (v := 0) hx hb dX10_lineCount_2 (by decide) ?_
  refine lv_istore_n (pc := 3) (lv' := [(2, .int 0), (1, .int 1), (0, .ref a0)]) hx hb dX10_lineCount_3 rfl hl (by decide) rfl (fun ls hl => ?_)
  have lp_5 : ∀ (n : Nat) (x_1 x_3 : Int32) (H : Heap) (locs : List Loc) (ls : Array Slot), (0 ≤ x_1.toInt ∧ x_1.toInt ≤ 2147483647) → (2147483647 - x_1.toInt).toNat < n → va_P D gcl [(a0, .inr (10, [.ref a1, .ref a2, .ref a3, .ref a4, .ref a5, .ref a6, .ref a7, .int x0])), (a6, .inl (cI, 5, .inl f0))] H → va_D A [(a0, .inr (10, [.ref a1, .ref a2, .ref a3, .ref a4, .ref a5, .ref a6, .ref a7, .int x0])), (a6, .inl (cI, 5, .inl f0))] → va_S A s.heap H locs → lv_has ls 3 [(2, .int x_1), (1, .int x_3), (0, .ref a0)] → W p l e ({ frames := 0, cells := 0, slots := 0, locals := 0 }) s m args below meth c H locs 0 0 Q (F0 m 4 ls []) := by
    intro n
    induction n with
    | zero => intro x_1 x_3 H locs ls hi_2 hmu; exact absurd hmu (Nat.not_lt_zero _)
    | succ n ih_lp_5 =>
      intro x_1 x_3 H locs ls hi_2 hmu_lp_5 hP hD hS hl
      have hi_4 := n_rng x_3
      refine lv_iload_n (pc := 4) hx hb dX10_lineCount_4 rfl (lv_at hl 0 rfl) ?_
      refine lv_aload_n (pc := 5) hx hb dX10_lineCount_5 rfl (lv_at hl 2 rfl) ?_
      refine va_get (pc := 6) (ci := 10) (v := .int x0) (C := RX10) (T := TX10) (N := 8) hx hb hts iX10 hown hK hP 0 rfl rfl 7 (by decide) (hts _ tw_220) (fun _ h9 => h9) rfl dX10_lineCount_6 ?_
      have bd_h_x0 : 0 ≤ x0.toInt ∧ x0.toInt ≤ 4 := h_x0
      refine b_icmp_ge (pc := 9) (tgt := 27) hx hb rfl rfl  dX10_lineCount_9 (by decide) (fun c_6 => ?_) (fun c_6 => ?_)
      ·
        refine lv_iload_n (pc := 27) hx hb dX10_lineCount_27 rfl (lv_at hl 1 rfl) ?_
        exact hret x_3 ((fun _ => 0), (fun _ => (fun _ => 0)), (fun _ => (fun _ => 0)), (fun _ => 0), (fun _ => 0)) dX10_lineCount_28 (show ((((-2147483648) ≤ x_3.toInt ∧ x_3.toInt ≤ 2147483647) ∧ (0 ≤ x0.toInt ∧ x0.toInt ≤ 4))) by (first | omega | (unfold zBd at *; omega))) (g_psub (wc := [(a0, .inr (10, [.ref a1, .ref a2, .ref a3, .ref a4, .ref a5, .ref a6, .ref a7, .int x0])), (a6, .inl (cI, 5, .inl f0))]) hP [0, 1] rfl) (hD.sub (ws' := [(a0, .inr (10, [.ref a1, .ref a2, .ref a3, .ref a4, .ref a5, .ref a6, .ref a7, .int x0])), (a6, .inl (cI, 5, .inl f0))]) [0, 1] (by decide) rfl) hS
      ·
        refine lv_iload_n (pc := 12) hx hb dX10_lineCount_12 rfl (lv_at hl 1 rfl) ?_
        refine lv_aload_n (pc := 13) hx hb dX10_lineCount_13 rfl (lv_at hl 2 rfl) ?_
        refine va_get (pc := 14) (ci := 10) (v := .ref a6) (C := RX10) (T := TX10) (N := 8) hx hb hts iX10 hown hK hP 0 rfl rfl 5 (by decide) (hts _ tw_214) (fun _ h9 => h9) rfl dX10_lineCount_14 ?_
        refine lv_iload_n (pc := 17) hx hb dX10_lineCount_17 rfl (lv_at hl 0 rfl) ?_
        refine va_iald (pc := 18) hx hb hK hP 1 2 rfl rfl (n_in rfl (by (first | omega | (unfold zBd at *; omega))) (by (first | omega | (unfold zBd at *; omega)))) dX10_lineCount_18 ?_
        refine lv_topi (fun x_7 ex_7 => ?_)
        have rx_7 : ((-1) ≤ x_7.toInt ∧ x_7.toInt ≤ 8) := by rw [ex_7]; exact hf_f0 _
        refine lv_imul (pc := 19) hx hb dX10_lineCount_19 ?_
        refine lv_topi (fun x_8 _ => ?_)
        have rx_8 : zBd x_8.toInt (-2147483648) 2147483647 := n_rng x_8
        refine lv_istore_n (pc := 20) (lv' := [(1, .int x_8), (2, .int x_1), (0, .ref a0)]) hx hb dX10_lineCount_20 rfl hl (by decide) rfl (fun ls hl => ?_)
        refine b_iinc (pc := 21) hx hb dX10_lineCount_21 hl (k := 1) rfl rfl tI_1 (by (first | omega | (unfold zBd at *; omega))) (by (first | omega | (unfold zBd at *; omega))) (by decide) (fun x_9 ex_9 ls hl => ?_)
        replace hl : lv_has ls 3 [(2, .int x_9), (1, .int x_8), (0, .ref a0)] := hl
        refine lv_goto (pc := 24) (tgt := 4) hx hb dX10_lineCount_24 (by decide) ?_
        exact ih_lp_5 x_9 x_8 _ _ ls (by (first | omega | (unfold zBd at *; omega))) (by (first | omega | (unfold zBd at *; omega))) hP hD hS (lv_sub hl [0, 1, 2] rfl)
  exact lp_5 _ 0 1 _ _ ls (n_c tI_0 (by decide)) (Nat.lt_succ_self _) hP hD hS (lv_sub hl [0, 1, 2] rfl)
set_option maxHeartbeats 4000000 in
set_option maxRecDepth 100000 in
theorem k_X7_note (l : Launch) (D : va_G) (cB cC cI cJ : ClassId) (sz : Nat) (a0 a1 a2 a3 a4 a5 a6 a7 a8 : Nat) (x0 x1 x2 x3 : Int32) (y0 y1 y2 : Int64) (g0 g1 : Nat → Int64) (hp1 : (0 ≤ x0.toInt ∧ x0.toInt ≤ 4)) (hp2 : (0 ≤ x1.toInt ∧ x1.toInt ≤ 7)) (h_x2 : zBd x2.toInt 0 10) (h_x3 : zBd x3.toInt 0 1) : Met l yX7_note (.code yX7_note cX7_note 8 none :: lw_gd) ({ frames := 1, cells := 0, slots := 0, locals := 22 }) (gPre D [(cB, .byte), (cC, .char), (cI, .int), (cJ, .long)] [.ref a0, .int x0, .int x1, .long y0, .long y1] [(a0, .inr (7, [.ref a1, .ref a2, .ref a3, .ref a4, .ref a5, .ref a6, .ref a7, .ref a8, .int x2, .long y2, .int x3])), (a4, .inl (cJ, 40, .inr (.inl g0))), (a5, .inl (cJ, 40, .inr (.inl g1)))] sz) (va_Qv (fun u => True) (gB D (va_A [(a0, .inr (7, [.ref a1, .ref a2, .ref a3, .ref a4, .ref a5, .ref a6, .ref a7, .ref a8, .int x2, .long y2, .int x3])), (a4, .inl (cJ, 40, .inr (.inl g0))), (a5, .inl (cJ, 40, .inr (.inl g1)))] sz) (fun u : gEx => [(a0, .inr (7, [.ref a1, .ref a2, .ref a3, .ref a4, .ref a5, .ref a6, .ref a7, .ref a8, .int x2, .long y2, .int x3])), (a4, .inl (cJ, 40, .inr (.inl (u.2.2.1 0)))), (a5, .inl (cJ, 40, .inr (.inl (u.2.2.1 1))))])) (va_A [(a0, .inr (7, [.ref a1, .ref a2, .ref a3, .ref a4, .ref a5, .ref a6, .ref a7, .ref a8, .int x2, .long y2, .int x3])), (a4, .inl (cJ, 40, .inr (.inl g0))), (a5, .inl (cJ, 40, .inr (.inl g1)))] sz)) 0 0 (va_A [(a0, .inr (7, [.ref a1, .ref a2, .ref a3, .ref a4, .ref a5, .ref a6, .ref a7, .ref a8, .int x2, .long y2, .int x3])), (a4, .inl (cJ, 40, .inr (.inl g0))), (a5, .inl (cJ, 40, .inr (.inl g1)))] sz) := by
  refine gOf_v (by decide +kernel) (Nat.le_of_ble_eq_true rfl) ?_
  intro p e s m args below meth c ls A Q hx hb hts hown hml hN hK hP hD hA hl hret
  replace hown : s.vm.findClass RX7 = some m.cls := hown
  have hS : va_S A s.heap s.heap [] := va_S.rf
  replace hP : va_P D gcl [(a0, .inr (7, [.ref a1, .ref a2, .ref a3, .ref a4, .ref a5, .ref a6, .ref a7, .ref a8, .int x2, .long y2, .int x3])), (a4, .inl (cJ, 40, .inr (.inl g0))), (a5, .inl (cJ, 40, .inr (.inl g1)))] s.heap := hP
  replace hl : lv_has ls 8 [(0, .ref a0), (1, .int x0), (2, .int x1), (3, .long y0), (5, .long y1)] := hl
  have ry0 := n_rngL y0
  have ry1 := n_rngL y1
  have ry2 := n_rngL y2
  refine lv_iload_n (pc := 0) hx hb dX7_note_0 rfl (lv_at hl 1 rfl) ?_
  refine lv_bipush (pc := 1) (v := 8) hx hb dX7_note_1 (by decide) ?_
  refine b_imul (pc := 3) hx hb rfl tI_8 (by (first | omega | (unfold zBd at *; omega))) (by (first | omega | (unfold zBd at *; omega))) dX7_note_3 (fun x_1 ex_1 => ?_)
  refine lv_iload_n (pc := 4) hx hb dX7_note_4 rfl (lv_at hl 2 rfl) ?_
  refine b_iadd (pc := 5) hx hb rfl rfl (by (first | omega | (unfold zBd at *; omega))) (by (first | omega | (unfold zBd at *; omega))) dX7_note_5 (fun x_2 ex_2 => ?_)
  refine lv_istore (pc := 6) (lv' := [(7, .int x_2), (0, .ref a0), (1, .int x0), (2, .int x1), (3, .long y0), (5, .long y1)]) hx hb dX7_note_6 hl (by decide) rfl (fun ls hl => ?_)
  refine lv_aload_n (pc := 8) hx hb dX7_note_8 rfl (lv_at hl 1 rfl) ?_
  refine va_get (pc := 9) (ci := 7) (v := .ref a4) (C := RX7) (T := TX7) (N := 11) hx hb hts iX7 hown hK hP 0 rfl rfl 3 (by decide) (hts _ tw_247) (fun _ h9 => h9) rfl dX7_note_9 ?_
  refine lv_iload (pc := 12) hx hb dX7_note_12 (lv_at hl 0 rfl) ?_
  refine lv_aload_n (pc := 14) hx hb dX7_note_14 rfl (lv_at hl 1 rfl) ?_
  refine va_get (pc := 15) (ci := 7) (v := .ref a4) (C := RX7) (T := TX7) (N := 11) hx hb hts iX7 hown hK hP 0 rfl rfl 3 (by decide) (hts _ tw_247) (fun _ h9 => h9) rfl dX7_note_15 ?_
  refine lv_iload (pc := 18) hx hb dX7_note_18 (lv_at hl 0 rfl) ?_
  refine va_lald (pc := 20) hx hb hK hP 1 3 rfl rfl (n_in rfl (by (first | omega | (unfold zBd at *; omega))) (by (first | omega | (unfold zBd at *; omega)))) dX7_note_20 ?_
  refine lv_topl (fun y_3 ey_3 => ?_)
  have ry_3 := n_rngL y_3
  refine lv_lload_n (pc := 21) hx hb dX7_note_21 rfl (lv_at hl 4 rfl) ?_
  refine va_mmin_long (pc := 22) hx hb (hml.trans hl.1.symm) hown (hts _ tw_928) (hts _ tw_857) (hts _ tw_19) (hts _ tw_858) (Nat.le_of_ble_eq_true rfl) (Nat.le_of_ble_eq_true rfl) (Nat.le_of_ble_eq_true rfl) (Nat.le_of_ble_eq_true rfl) dX7_note_22 ?_
  refine lv_topl (fun y_4 ey_4 => ?_)
  have ey_4 := n_minL rfl rfl ey_4
  have ry_4 := n_rngL y_4
  refine g_lastore (pc := 25) hx hb hK hP hD hS 1 3 rfl rfl (n_in rfl (by (first | omega | (unfold zBd at *; omega))) (by (first | omega | (unfold zBd at *; omega)))) dX7_note_25 (fun g_5 H locs hP hD hS => ?_)
  replace hP : va_P D gcl [(a0, .inr (7, [.ref a1, .ref a2, .ref a3, .ref a4, .ref a5, .ref a6, .ref a7, .ref a8, .int x2, .long y2, .int x3])), (a4, .inl (cJ, 40, .inr (.inl g_5))), (a5, .inl (cJ, 40, .inr (.inl g1)))] H := hP
  replace hD : va_D A [(a0, .inr (7, [.ref a1, .ref a2, .ref a3, .ref a4, .ref a5, .ref a6, .ref a7, .ref a8, .int x2, .long y2, .int x3])), (a4, .inl (cJ, 40, .inr (.inl g_5))), (a5, .inl (cJ, 40, .inr (.inl g1)))] := hD
  refine lv_aload_n (pc := 26) hx hb dX7_note_26 rfl (lv_at hl 1 rfl) ?_
  refine va_get (pc := 27) (ci := 7) (v := .ref a5) (C := RX7) (T := TX7) (N := 11) hx hb hts iX7 hown hK hP 0 rfl rfl 4 (by decide) (hts _ tw_248) (fun _ h9 => h9) rfl dX7_note_27 ?_
  refine lv_iload (pc := 30) hx hb dX7_note_30 (lv_at hl 0 rfl) ?_
  refine lv_dup2_11 (pc := 32) hx hb dX7_note_32 rfl rfl ?_
  refine va_lald (pc := 33) hx hb hK hP 2 3 rfl rfl (n_in rfl (by (first | omega | (unfold zBd at *; omega))) (by (first | omega | (unfold zBd at *; omega)))) dX7_note_33 ?_
  refine lv_topl (fun y_6 ey_6 => ?_)
  have ry_6 := n_rngL y_6
  refine lv_lload (pc := 34) hx hb dX7_note_34 (lv_at hl 5 rfl) ?_
  refine lv_ladd (pc := 36) hx hb dX7_note_36 ?_
  refine lv_topl (fun y_7 _ => ?_)
  have ry_7 := n_rngL y_7
  refine g_lastore (pc := 37) hx hb hK hP hD hS 2 3 rfl rfl (n_in rfl (by (first | omega | (unfold zBd at *; omega))) (by (first | omega | (unfold zBd at *; omega)))) dX7_note_37 (fun g_8 H locs hP hD hS => ?_)
  replace hP : va_P D gcl [(a0, .inr (7, [.ref a1, .ref a2, .ref a3, .ref a4, .ref a5, .ref a6, .ref a7, .ref a8, .int x2, .long y2, .int x3])), (a4, .inl (cJ, 40, .inr (.inl g_5))), (a5, .inl (cJ, 40, .inr (.inl g_8)))] H := hP
  replace hD : va_D A [(a0, .inr (7, [.ref a1, .ref a2, .ref a3, .ref a4, .ref a5, .ref a6, .ref a7, .ref a8, .int x2, .long y2, .int x3])), (a4, .inl (cJ, 40, .inr (.inl g_5))), (a5, .inl (cJ, 40, .inr (.inl g_8)))] := hD
  exact hret ((fun _ => 0), (fun _ => (fun _ => 0)), (fun k => [g_5, g_8].getD k (fun _ => 0)), (fun _ => 0), (fun _ => 0)) dX7_note_38 trivial (g_psub (wc := [(a0, .inr (7, [.ref a1, .ref a2, .ref a3, .ref a4, .ref a5, .ref a6, .ref a7, .ref a8, .int x2, .long y2, .int x3])), (a4, .inl (cJ, 40, .inr (.inl g_5))), (a5, .inl (cJ, 40, .inr (.inl g_8)))]) hP [0, 1, 2] rfl) (hD.sub (ws' := [(a0, .inr (7, [.ref a1, .ref a2, .ref a3, .ref a4, .ref a5, .ref a6, .ref a7, .ref a8, .int x2, .long y2, .int x3])), (a4, .inl (cJ, 40, .inr (.inl g_5))), (a5, .inl (cJ, 40, .inr (.inl g_8)))]) [0, 1, 2] (by decide) rfl) hS
