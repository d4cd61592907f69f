theorem om_0 {a : Int} (h0 : (0 ≤ a)) : (-2147483648 ≤ a * 5) := by omega
theorem om_1 {a : Int} (h0 : (a ≤ 4)) : (a * 5 ≤ 2147483647) := by omega
theorem om_2 {a : Int} (h0 : (0 ≤ a)) : (0 ≤ a) := by omega
theorem om_3 {a : Int} (h0 : (a ≤ 4)) : (a < (5 : Nat)) := by omega
theorem om_4 {a : Int} (h0 : (0 ≤ a)) : (-2147483648 ≤ a + 1) := by omega
theorem om_5 {a : Int} (h0 : (a ≤ 4)) : (a + 1 ≤ 2147483647) := by omega
theorem om_6 {a b : Int} (h0 : (a = b * 5)) (h1 : (0 ≤ b)) : (-2147483648 ≤ a + b) := by omega
theorem om_7 {a b : Int} (h0 : (a = b * 5)) (h1 : (b ≤ 4)) : (a + b ≤ 2147483647) := by omega
theorem om_8 {a b c : Int} (h0 : (a = b + c)) (h1 : (b = c * 5)) (h2 : (0 ≤ c)) : (0 ≤ a) := by omega
theorem om_9 {a b c : Int} (h0 : (a = b + c)) (h1 : (b = c * 5)) (h2 : (c ≤ 4)) : (a < (25 : Nat)) := by omega
theorem om_10 {a b : Int} (h0 : (a = b + 1)) (h1 : (0 ≤ b)) : (0 ≤ a) := by omega
theorem om_11 {a b c : Int} (h0 : (a = b + 1)) (h1 : (b < c)) (h2 : (c ≤ 4)) : (a < (5 : Nat)) := by omega
theorem om_12 {a b c : Int} (h0 : (a = b + 1)) (h1 : (0 ≤ b)) (h2 : (b < c)) (h3 : (c ≤ 4)) : ((0 ≤ a ∧ a ≤ 4)) := by omega
theorem om_13 {a b c : Int} (h0 : (a = c + 1)) (h1 : (c < b)) : ((a ≤ b)) := by omega
theorem om_14 {a b : Int} (h0 : (a = b * 5)) (h1 : (0 ≤ b)) : (-2147483648 ≤ a + 5) := by omega
theorem om_15 {a b : Int} (h0 : (a = b * 5)) (h1 : (b ≤ 4)) : (a + 5 ≤ 2147483647) := by omega
theorem om_16 {a b c d : Int} (h0 : (a = c + 5)) (h1 : (1 ≤ b)) (h2 : (c = d * 5)) (h3 : (0 ≤ d)) : (-2147483648 ≤ a + b) := by omega
theorem om_17 {a b c d : Int} (h0 : (a = c + 5)) (h1 : (d + 1 ≤ b)) (h2 : (b ≤ 5)) (h3 : (c = d * 5)) : (a + b ≤ 2147483647) := by omega
theorem om_18 {a b c : Int} (h0 : (1 ≤ b)) (h1 : (a = c * 5)) (h2 : (0 ≤ c)) : (-2147483648 ≤ a + b) := by omega
theorem om_19 {a b c : Int} (h0 : (c + 1 ≤ b)) (h1 : (b ≤ 5)) (h2 : (a = c * 5)) : (a + b ≤ 2147483647) := by omega
theorem om_20 {a b c d : Int} (h0 : (a = b + c)) (h1 : (1 ≤ c)) (h2 : (b = d * 5)) (h3 : (0 ≤ d)) : (0 ≤ a) := by omega
theorem om_21 {a b c d e : Int} (h0 : (a = b + c)) (h1 : (c ≤ 5)) (h2 : (b = d * 5)) (h3 : (d < e)) (h4 : (e ≤ 4)) : (a < (25 : Nat)) := by omega
theorem om_22 {a b c d e : Int} (h0 : (a = b + c)) (h1 : (b = d + 5)) (h2 : (1 ≤ c)) (h3 : (d = e * 5)) (h4 : (0 ≤ e)) : (0 ≤ a) := by omega
theorem om_23 {a b c d e f : Int} (h0 : (a = b + c)) (h1 : (b = d + 5)) (h2 : (c ≤ e)) (h3 : (f + 1 ≤ c)) (h4 : (d = f * 5)) (h5 : (e ≤ 4)) : (a < (25 : Nat)) := by omega
theorem om_24 {a : Int} (h0 : (1 ≤ a)) : (-2147483648 ≤ a + 1) := by omega
theorem om_25 {a : Int} (h0 : (a ≤ 5)) : (a + 1 ≤ 2147483647) := by omega
theorem om_26 {a b c : Int} (h0 : (a = b + 1)) (h1 : (1 ≤ b)) (h2 : (b ≤ c)) (h3 : (c ≤ 4)) : ((1 ≤ a ∧ a ≤ 5)) := by omega
theorem om_27 {a b c d : Int} (h0 : (b = d + 1)) (h1 : (a + 1 ≤ d)) (h2 : (d ≤ c)) : ((a + 1 ≤ b ∧ b ≤ c + 1)) := by omega
theorem om_28 {a b : Int} (h0 : (a = b + 1)) (h1 : (0 ≤ b)) (h2 : (b ≤ 4)) : ((1 ≤ a ∧ a ≤ 5)) := by omega
theorem om_29 {a b c : Int} (h0 : (b = a + 1)) (h1 : (a < c)) : ((a + 1 ≤ b ∧ b ≤ c + 1)) := by omega
theorem om_30 {a b c : Int} (h0 : (a = c + b)) (h1 : (c = b * 5)) : (a = 5 * b + b) := by omega
set_option maxHeartbeats 4000000 in
set_option maxRecDepth 100000 in
theorem k_X10_settle_e (l : Launch) (D : va_G) (cB cC cI cJ : ClassId) (sz : Nat) (a0 a1 a2 a3 a4 a5 a6 a7 : Nat) (x0 x1 : Int32) (f0 f1 f2 : Nat → Int32) (g0 g1 g2 : Nat → Int64) (hp1 : (0 ≤ x0.toInt ∧ x0.toInt ≤ 4)) (h_x1 : (0 ≤ x1.toInt ∧ x1.toInt ≤ 4)) (hf_f2 : (∀ j, 0 ≤ (f2 j).toInt ∧ (f2 j).toInt ≤ 23)) (hg__fl : x0.toInt ≤ x1.toInt) : Met l yX10_settle (.code yX10_settle cX10_settle 7 none :: lw_gd) ({ frames := 0, cells := 0, slots := 0, locals := 0 }) (gPre D [(cB, .byte), (cC, .char), (cI, .int), (cJ, .long)] [.ref a0, .int x0] [(a0, .inr (10, [.ref a1, .ref a2, .ref a3, .ref a4, .ref a5, .ref a6, .ref a7, .int x1])), (a1, .inl (cJ, 25, .inr (.inl g0))), (a2, .inl (cJ, 5, .inr (.inl g1))), (a3, .inl (cJ, 25, .inr (.inl g2))), (a4, .inl (cI, 5, .inl f0)), (a5, .inl (cI, 5, .inl f1)), (a7, .inl (cI, 5, .inl f2))] sz) (va_Qv (fun u => (∀ T : Nat → Int32, prW g0 T x1.toInt → seW T (xW f0 f1 f2) g1 g2 x1.toInt x0.toInt → seW T (xW f0 f1 f2) (u.2.2.1 0) (u.2.2.1 1) x1.toInt x1.toInt)) (gB D (va_A [(a0, .inr (10, [.ref a1, .ref a2, .ref a3, .ref a4, .ref a5, .ref a6, .ref a7, .int x1])), (a1, .inl (cJ, 25, .inr (.inl g0))), (a2, .inl (cJ, 5, .inr (.inl g1))), (a3, .inl (cJ, 25, .inr (.inl g2))), (a4, .inl (cI, 5, .inl f0)), (a5, .inl (cI, 5, .inl f1)), (a7, .inl (cI, 5, .inl f2))] sz) (fun u : gEx => [(a0, .inr (10, [.ref a1, .ref a2, .ref a3, .ref a4, .ref a5, .ref a6, .ref a7, .int x1])), (a1, .inl (cJ, 25, .inr (.inl g0))), (a2, .inl (cJ, 5, .inr (.inl (u.2.2.1 0)))), (a3, .inl (cJ, 25, .inr (.inl (u.2.2.1 1)))), (a4, .inl (cI, 5, .inl f0)), (a5, .inl (cI, 5, .inl f1)), (a7, .inl (cI, 5, .inl f2))])) (va_A [(a0, .inr (10, [.ref a1, .ref a2, .ref a3, .ref a4, .ref a5, .ref a6, .ref a7, .int x1])), (a1, .inl (cJ, 25, .inr (.inl g0))), (a2, .inl (cJ, 5, .inr (.inl g1))), (a3, .inl (cJ, 25, .inr (.inl g2))), (a4, .inl (cI, 5, .inl f0)), (a5, .inl (cI, 5, .inl f1)), (a7, .inl (cI, 5, .inl f2))] sz)) 0 0 (va_A [(a0, .inr (10, [.ref a1, .ref a2, .ref a3, .ref a4, .ref a5, .ref a6, .ref a7, .int x1])), (a1, .inl (cJ, 25, .inr (.inl g0))), (a2, .inl (cJ, 5, .inr (.inl g1))), (a3, .inl (cJ, 25, .inr (.inl g2))), (a4, .inl (cI, 5, .inl f0)), (a5, .inl (cI, 5, .inl f1)), (a7, .inl (cI, 5, .inl f2))] sz) := by
  refine gOf_v (by decide +kernel) (Nat.le_of_ble_eq_true rfl) ?_
  intro p e s m args below meth c ls A Q hx hb hts hown hml hN hK hP hD hA hl hret
  replace hown : s.vm.findClass RX10 = some m.cls := hown
  have hS : va_S A s.heap s.heap [] := va_S.rf
  replace hP : va_P D gcl [(a0, .inr (10, [.ref a1, .ref a2, .ref a3, .ref a4, .ref a5, .ref a6, .ref a7, .int x1])), (a1, .inl (cJ, 25, .inr (.inl g0))), (a2, .inl (cJ, 5, .inr (.inl g1))), (a3, .inl (cJ, 25, .inr (.inl g2))), (a4, .inl (cI, 5, .inl f0)), (a5, .inl (cI, 5, .inl f1)), (a7, .inl (cI, 5, .inl f2))] s.heap := hP
  replace hl : lv_has ls 7 [(0, .ref a0), (1, .int x0)] := hl
  refine lv_iload_n (pc := 0) hx hb dX10_settle_0 rfl (lv_at hl 1 rfl) ?_
  refine lv_istore_n (pc := 1) (lv' := [(2, .int x0), (0, .ref a0), (1, .int x0)]) hx hb dX10_settle_1 rfl hl (by decide) rfl (fun ls hl => ?_)
  have lp_7 : ∀ (n : Nat) (x_1 : Int32) (g_3 g_4 : Nat → Int64) (H : Heap) (locs : List Loc) (ls : Array Slot), (0 ≤ x_1.toInt ∧ x_1.toInt ≤ 4) → (x_1.toInt ≤ x1.toInt) → (∀ T : Nat → Int32, prW g0 T x1.toInt → seW T (xW f0 f1 f2) g1 g2 x1.toInt x0.toInt → seW T (xW f0 f1 f2) g_3 g_4 x1.toInt x_1.toInt) → (2147483647 - x_1.toInt).toNat < n → va_P D gcl [(a0, .inr (10, [.ref a1, .ref a2, .ref a3, .ref a4, .ref a5, .ref a6, .ref a7, .int x1])), (a1, .inl (cJ, 25, .inr (.inl g0))), (a2, .inl (cJ, 5, .inr (.inl g_3))), (a3, .inl (cJ, 25, .inr (.inl g_4))), (a4, .inl (cI, 5, .inl f0)), (a5, .inl (cI, 5, .inl f1)), (a7, .inl (cI, 5, .inl f2))] H → va_D A [(a0, .inr (10, [.ref a1, .ref a2, .ref a3, .ref a4, .ref a5, .ref a6, .ref a7, .int x1])), (a1, .inl (cJ, 25, .inr (.inl g0))), (a2, .inl (cJ, 5, .inr (.inl g_3))), (a3, .inl (cJ, 25, .inr (.inl g_4))), (a4, .inl (cI, 5, .inl f0)), (a5, .inl (cI, 5, .inl f1)), (a7, .inl (cI, 5, .inl f2))] → va_S A s.heap H locs → lv_has ls 7 [(2, .int x_1), (0, .ref a0), (1, .int x0)] → W p l e ({ frames := 0, cells := 0, slots := 0, locals := 0 }) s m args below meth c H locs 0 0 Q (F0 m 2 ls []) := by
    intro n
    induction n with
    | zero => intro x_1 g_3 g_4 H locs ls hi_2 hi_5 hi_6 hmu; exact absurd hmu (Nat.not_lt_zero _)
    | succ n ih_lp_7 =>
      intro x_1 g_3 g_4 H locs ls hi_2 hi_5 hi_6 hmu_lp_7 hP hD hS hl
      refine lv_iload_n (pc := 2) hx hb dX10_settle_2 rfl (lv_at hl 0 rfl) ?_
      refine lv_aload_n (pc := 3) hx hb dX10_settle_3 rfl (lv_at hl 1 rfl) ?_
      refine va_get (pc := 4) (ci := 10) (v := .int x1) (C := RX10) (T := TX10) (N := 8) hx hb hts iX10 hown hK hP 0 rfl rfl 7 (by decide) (hts _ tw_220) (fun _ h9 => h9) rfl dX10_settle_4 ?_
      refine b_icmp_ge (pc := 7) (tgt := 138) hx hb rfl rfl  dX10_settle_7 (by decide) (fun c_8 => ?_) (fun c_8 => ?_)
      ·
        exact hret ((fun _ => 0), (fun _ => (fun _ => 0)), (fun k => [g_3, g_4].getD k (fun _ => 0)), (fun _ => 0), (fun _ => 0)) dX10_settle_138 (show ∀ T : Nat → Int32, prW g0 T x1.toInt → seW T (xW f0 f1 f2) g1 g2 x1.toInt x0.toInt → seW T (xW f0 f1 f2) g_3 g_4 x1.toInt x1.toInt from fun T p h => se_less (hi_6 T p h) (by omega)) (g_psub (wc := [(a0, .inr (10, [.ref a1, .ref a2, .ref a3, .ref a4, .ref a5, .ref a6, .ref a7, .int x1])), (a1, .inl (cJ, 25, .inr (.inl g0))), (a2, .inl (cJ, 5, .inr (.inl g_3))), (a3, .inl (cJ, 25, .inr (.inl g_4))), (a4, .inl (cI, 5, .inl f0)), (a5, .inl (cI, 5, .inl f1)), (a7, .inl (cI, 5, .inl f2))]) hP [0, 1, 2, 3, 4, 5, 6] rfl) (hD.sub (ws' := [(a0, .inr (10, [.ref a1, .ref a2, .ref a3, .ref a4, .ref a5, .ref a6, .ref a7, .int x1])), (a1, .inl (cJ, 25, .inr (.inl g0))), (a2, .inl (cJ, 5, .inr (.inl g_3))), (a3, .inl (cJ, 25, .inr (.inl g_4))), (a4, .inl (cI, 5, .inl f0)), (a5, .inl (cI, 5, .inl f1)), (a7, .inl (cI, 5, .inl f2))]) [0, 1, 2, 3, 4, 5, 6] (by decide) rfl) hS
      ·
        refine lv_iload_n (pc := 10) hx hb dX10_settle_10 rfl (lv_at hl 0 rfl) ?_
        refine lv_iconst (pc := 11) (v := 5) hx hb dX10_settle_11 (by decide) ?_
        refine b_imul (pc := 12) hx hb rfl tI_5 (by first | exact (om_0 hi_2.1) | (omega)) (by first | exact (om_1 hi_2.2) | (omega)) dX10_settle_12 (fun x_9 ex_9 => ?_)
        refine lv_istore_n (pc := 13) (lv' := [(3, .int x_9), (2, .int x_1), (0, .ref a0), (1, .int x0)]) hx hb dX10_settle_13 rfl hl (by decide) rfl (fun ls hl => ?_)
        refine lv_aload_n (pc := 14) hx hb dX10_settle_14 rfl (lv_at hl 2 rfl) ?_
        refine va_get (pc := 15) (ci := 10) (v := .ref a4) (C := RX10) (T := TX10) (N := 8) hx hb hts iX10 hown hK hP 0 rfl rfl 3 (by decide) (hts _ tw_211) (fun _ h9 => h9) rfl dX10_settle_15 ?_
        refine lv_iload_n (pc := 18) hx hb dX10_settle_18 rfl (lv_at hl 1 rfl) ?_
        refine va_iald (pc := 19) hx hb hK hP 4 2 rfl rfl (n_in rfl (by first | exact (om_2 hi_2.1) | (omega)) (by first | exact (om_3 hi_2.2) | (omega))) dX10_settle_19 ?_
        refine lv_topi (fun x_10 ex_10 => ?_)
        have rx_10 := n_rng x_10
        replace ex_10 : x_10 = f0 (x_1.toInt).toNat := ex_10
        have tx_10 := congrArg Int32.toInt ex_10
        refine lv_aload_n (pc := 20) hx hb dX10_settle_20 rfl (lv_at hl 2 rfl) ?_
        refine va_get (pc := 21) (ci := 10) (v := .ref a5) (C := RX10) (T := TX10) (N := 8) hx hb hts iX10 hown hK hP 0 rfl rfl 4 (by decide) (hts _ tw_213) (fun _ h9 => h9) rfl dX10_settle_21 ?_
        refine lv_iload_n (pc := 24) hx hb dX10_settle_24 rfl (lv_at hl 1 rfl) ?_
        refine va_iald (pc := 25) hx hb hK hP 5 2 rfl rfl (n_in rfl (by first | exact (om_2 hi_2.1) | (omega)) (by first | exact (om_3 hi_2.2) | (omega))) dX10_settle_25 ?_
        refine lv_topi (fun x_11 ex_11 => ?_)
        have rx_11 := n_rng x_11
        replace ex_11 : x_11 = f1 (x_1.toInt).toNat := ex_11
        have tx_11 := congrArg Int32.toInt ex_11
        refine lv_aload_n (pc := 26) hx hb dX10_settle_26 rfl (lv_at hl 2 rfl) ?_
        refine va_get (pc := 27) (ci := 10) (v := .ref a7) (C := RX10) (T := TX10) (N := 8) hx hb hts iX10 hown hK hP 0 rfl rfl 6 (by decide) (hts _ tw_216) (fun _ h9 => h9) rfl dX10_settle_27 ?_
        refine lv_iload_n (pc := 30) hx hb dX10_settle_30 rfl (lv_at hl 1 rfl) ?_
        refine va_iald (pc := 31) hx hb hK hP 6 2 rfl rfl (n_in rfl (by first | exact (om_2 hi_2.1) | (omega)) (by first | exact (om_3 hi_2.2) | (omega))) dX10_settle_31 ?_
        refine lv_topi (fun x_12 ex_12 => ?_)
        have rx_12 : (0 ≤ x_12.toInt ∧ x_12.toInt ≤ 23) := by rw [ex_12]; exact hf_f2 _
        replace ex_12 : x_12 = f2 (x_1.toInt).toNat := ex_12
        have tx_12 := congrArg Int32.toInt ex_12
        refine lv_imul (pc := 32) hx hb dX10_settle_32 ?_
        refine lv_topi (fun x_13 ex_13 => ?_)
        have rx_13 := n_rng x_13
        refine lv_iadd (pc := 33) hx hb dX10_settle_33 ?_
        refine lv_topi (fun x_14 ex_14 => ?_)
        have rx_14 := n_rng x_14
        refine b_i2l (pc := 34) hx hb rfl dX10_settle_34 (fun y_15 ey_15 => ?_)
        have ry_15 := n_rng x_14
        refine lv_lstore (pc := 35) (lv' := [(4, .long y_15), (3, .int x_9), (2, .int x_1), (0, .ref a0), (1, .int x0)]) hx hb dX10_settle_35 hl (by decide) rfl (fun ls hl => ?_)
        have hh_16 : y_15 = I6 (xW f0 f1 f2 x_1.toInt) := xW_eq ex_10 ex_11 ex_12 ex_13 ex_14 ey_15
        refine lv_aload_n (pc := 37) hx hb dX10_settle_37 rfl (lv_at hl 3 rfl) ?_
        refine va_get (pc := 38) (ci := 10) (v := .ref a2) (C := RX10) (T := TX10) (N := 8) hx hb hts iX10 hown hK hP 0 rfl rfl 1 (by decide) (hts _ tw_209) (fun _ h9 => h9) rfl dX10_settle_38 ?_
        refine lv_iload_n (pc := 41) hx hb dX10_settle_41 rfl (lv_at hl 2 rfl) ?_
        refine lv_iconst (pc := 42) (v := 1) hx hb dX10_settle_42 (by decide) ?_
        refine b_iadd (pc := 43) hx hb rfl tI_1 (by first | exact (om_4 hi_2.1) | (omega)) (by first | exact (om_5 hi_2.2) | (omega)) dX10_settle_43 (fun x_17 ex_17 => ?_)
        refine lv_aload_n (pc := 44) hx hb dX10_settle_44 rfl (lv_at hl 3 rfl) ?_
        refine va_get (pc := 45) (ci := 10) (v := .ref a2) (C := RX10) (T := TX10) (N := 8) hx hb hts iX10 hown hK hP 0 rfl rfl 1 (by decide) (hts _ tw_209) (fun _ h9 => h9) rfl dX10_settle_45 ?_
        refine lv_iload_n (pc := 48) hx hb dX10_settle_48 rfl (lv_at hl 2 rfl) ?_
        refine va_lald (pc := 49) hx hb hK hP 2 3 rfl rfl (n_in rfl (by first | exact (om_2 hi_2.1) | (omega)) (by first | exact (om_3 hi_2.2) | (omega))) dX10_settle_49 ?_
        refine lv_topl (fun y_18 ey_18 => ?_)
        have ry_18 := n_rngL y_18
        replace ey_18 : y_18 = g_3 (x_1.toInt).toNat := ey_18
        have ty_18 := congrArg Int64.toInt ey_18
        refine lv_lload (pc := 50) hx hb dX10_settle_50 (lv_at hl 0 rfl) ?_
        refine lv_lload (pc := 52) hx hb dX10_settle_52 (lv_at hl 0 rfl) ?_
        refine lv_aload_n (pc := 54) hx hb dX10_settle_54 rfl (lv_at hl 3 rfl) ?_
        refine va_get (pc := 55) (ci := 10) (v := .ref a1) (C := RX10) (T := TX10) (N := 8) hx hb hts iX10 hown hK hP 0 rfl rfl 0 (by decide) (hts _ tw_207) (fun _ h9 => h9) rfl dX10_settle_55 ?_
        refine lv_iload_n (pc := 58) hx hb dX10_settle_58 rfl (lv_at hl 1 rfl) ?_
        refine lv_iload_n (pc := 59) hx hb dX10_settle_59 rfl (lv_at hl 2 rfl) ?_
        refine b_iadd (pc := 60) hx hb rfl rfl (by first | exact (om_6 ex_9 hi_2.1) | (omega)) (by first | exact (om_7 ex_9 hi_2.2) | (omega)) dX10_settle_60 (fun x_19 ex_19 => ?_)
        refine va_lald (pc := 61) hx hb hK hP 1 3 rfl rfl (n_in rfl (by first | exact (om_8 ex_19 ex_9 hi_2.1) | (omega)) (by first | exact (om_9 ex_19 ex_9 hi_2.2) | (omega))) dX10_settle_61 ?_
        refine lv_topl (fun y_20 ey_20 => ?_)
        have ry_20 := n_rngL y_20
        replace ey_20 : y_20 = g0 (x_19.toInt).toNat := ey_20
        have ty_20 := congrArg Int64.toInt ey_20
        refine lv_lmul (pc := 62) hx hb dX10_settle_62 ?_
        refine lv_topl (fun y_21 ey_21 => ?_)
        have ry_21 := n_rngL y_21
        refine lv_ldc2 (pc := 63) hx hb hown (hts _ tw_910) dX10_settle_63 ?_
        refine lv_aload_n (pc := 66) hx hb dX10_settle_66 rfl (lv_at hl 3 rfl) ?_
        refine va_get (pc := 67) (ci := 10) (v := .ref a3) (C := RX10) (T := TX10) (N := 8) hx hb hts iX10 hown hK hP 0 rfl rfl 2 (by decide) (hts _ tw_210) (fun _ h9 => h9) rfl dX10_settle_67 ?_
        refine lv_iload_n (pc := 70) hx hb dX10_settle_70 rfl (lv_at hl 1 rfl) ?_
        refine lv_iload_n (pc := 71) hx hb dX10_settle_71 rfl (lv_at hl 2 rfl) ?_
        refine b_iadd (pc := 72) hx hb rfl rfl (by first | exact (om_6 ex_9 hi_2.1) | (omega)) (by first | exact (om_7 ex_9 hi_2.2) | (omega)) dX10_settle_72 (fun x_22 ex_22 => ?_)
        refine va_lald (pc := 73) hx hb hK hP 3 3 rfl rfl (n_in rfl (by first | exact (om_8 ex_22 ex_9 hi_2.1) | (omega)) (by first | exact (om_9 ex_22 ex_9 hi_2.2) | (omega))) dX10_settle_73 ?_
        refine lv_topl (fun y_23 ey_23 => ?_)
        have ry_23 := n_rngL y_23
        replace ey_23 : y_23 = g_4 (x_22.toInt).toNat := ey_23
        have ty_23 := congrArg Int64.toInt ey_23
        refine lv_lmul (pc := 74) hx hb dX10_settle_74 ?_
        refine lv_topl (fun y_24 ey_24 => ?_)
        have ry_24 := n_rngL y_24
        refine lv_lsub (pc := 75) hx hb dX10_settle_75 ?_
        refine lv_topl (fun y_25 ey_25 => ?_)
        have ry_25 := n_rngL y_25
        refine lv_lmul (pc := 76) hx hb dX10_settle_76 ?_
        refine lv_topl (fun y_26 ey_26 => ?_)
        have ry_26 := n_rngL y_26
        refine lv_ladd (pc := 77) hx hb dX10_settle_77 ?_
        refine lv_topl (fun y_27 ey_27 => ?_)
        have ry_27 := n_rngL y_27
        refine e_lastore (pc := 78) hx hb hK hP hD hS 2 3 rfl rfl (n_in rfl (by first | exact (om_10 ex_17 hi_2.1) | (omega)) (by first | exact (om_11 ex_17 c_8 h_x1.2) | (omega))) dX10_settle_78 (fun g_28 eg_28 H locs hP hD hS => ?_)
        replace hP : va_P D gcl [(a0, .inr (10, [.ref a1, .ref a2, .ref a3, .ref a4, .ref a5, .ref a6, .ref a7, .int x1])), (a1, .inl (cJ, 25, .inr (.inl g0))), (a2, .inl (cJ, 5, .inr (.inl g_28))), (a3, .inl (cJ, 25, .inr (.inl g_4))), (a4, .inl (cI, 5, .inl f0)), (a5, .inl (cI, 5, .inl f1)), (a7, .inl (cI, 5, .inl f2))] H := hP
        replace hD : va_D A [(a0, .inr (10, [.ref a1, .ref a2, .ref a3, .ref a4, .ref a5, .ref a6, .ref a7, .int x1])), (a1, .inl (cJ, 25, .inr (.inl g0))), (a2, .inl (cJ, 5, .inr (.inl g_28))), (a3, .inl (cJ, 25, .inr (.inl g_4))), (a4, .inl (cI, 5, .inl f0)), (a5, .inl (cI, 5, .inl f1)), (a7, .inl (cI, 5, .inl f2))] := hD
        refine lv_iload_n (pc := 79) hx hb dX10_settle_79 rfl (lv_at hl 2 rfl) ?_
        refine lv_iconst (pc := 80) (v := 1) hx hb dX10_settle_80 (by decide) ?_
        refine b_iadd (pc := 81) hx hb rfl tI_1 (by first | exact (om_4 hi_2.1) | (omega)) (by first | exact (om_5 hi_2.2) | (omega)) dX10_settle_81 (fun x_29 ex_29 => ?_)
        refine lv_istore (pc := 82) (lv' := [(6, .int x_29), (4, .long y_15), (3, .int x_9), (2, .int x_1), (0, .ref a0), (1, .int x0)]) hx hb dX10_settle_82 hl (by decide) rfl (fun ls hl => ?_)
        have lp_36 : ∀ (n : Nat) (x_30 : Int32) (g_32 : Nat → Int64) (H : Heap) (locs : List Loc) (ls : Array Slot), (1 ≤ x_30.toInt ∧ x_30.toInt ≤ 5) → (x_1.toInt + 1 ≤ x_30.toInt ∧ x_30.toInt ≤ x1.toInt + 1) → (∀ T : Nat → Int32, prW g0 T x1.toInt → seW T (xW f0 f1 f2) g1 g2 x1.toInt x0.toInt → seW T (xW f0 f1 f2) g_28 g_32 x1.toInt x_1.toInt) → (∀ T : Nat → Int32, prW g0 T x1.toInt → seW T (xW f0 f1 f2) g1 g2 x1.toInt x0.toInt → stW T (xW f0 f1 f2) g_28 g_32 x1.toInt x_1.toInt x_30.toInt) → (2147483647 - x_30.toInt).toNat < n → va_P D gcl [(a0, .inr (10, [.ref a1, .ref a2, .ref a3, .ref a4, .ref a5, .ref a6, .ref a7, .int x1])), (a1, .inl (cJ, 25, .inr (.inl g0))), (a2, .inl (cJ, 5, .inr (.inl g_28))), (a3, .inl (cJ, 25, .inr (.inl g_32))), (a4, .inl (cI, 5, .inl f0)), (a5, .inl (cI, 5, .inl f1)), (a7, .inl (cI, 5, .inl f2))] H → va_D A [(a0, .inr (10, [.ref a1, .ref a2, .ref a3, .ref a4, .ref a5, .ref a6, .ref a7, .int x1])), (a1, .inl (cJ, 25, .inr (.inl g0))), (a2, .inl (cJ, 5, .inr (.inl g_28))), (a3, .inl (cJ, 25, .inr (.inl g_32))), (a4, .inl (cI, 5, .inl f0)), (a5, .inl (cI, 5, .inl f1)), (a7, .inl (cI, 5, .inl f2))] → va_S A s.heap H locs → lv_has ls 7 [(6, .int x_30), (4, .long y_15), (3, .int x_9), (2, .int x_1), (0, .ref a0), (1, .int x0)] → W p l e ({ frames := 0, cells := 0, slots := 0, locals := 0 }) s m args below meth c H locs 0 0 Q (F0 m 84 ls []) := by
          intro n
          induction n with
          | zero => intro x_30 g_32 H locs ls hi_31 hi_33 hi_34 hi_35 hmu; exact absurd hmu (Nat.not_lt_zero _)
          | succ n ih_lp_36 =>
            intro x_30 g_32 H locs ls hi_31 hi_33 hi_34 hi_35 hmu_lp_36 hP hD hS hl
            refine lv_iload (pc := 84) hx hb dX10_settle_84 (lv_at hl 0 rfl) ?_
            refine lv_aload_n (pc := 86) hx hb dX10_settle_86 rfl (lv_at hl 4 rfl) ?_
            refine va_get (pc := 87) (ci := 10) (v := .int x1) (C := RX10) (T := TX10) (N := 8) hx hb hts iX10 hown hK hP 0 rfl rfl 7 (by decide) (hts _ tw_220) (fun _ h9 => h9) rfl dX10_settle_87 ?_
            refine b_icmp_gt (pc := 90) (tgt := 132) hx hb rfl rfl  dX10_settle_90 (by decide) (fun c_37 => ?_) (fun c_37 => ?_)
            ·
              refine b_iinc (pc := 132) hx hb dX10_settle_132 hl (k := 3) rfl rfl tI_1 (by first | exact (om_4 hi_2.1) | (omega)) (by first | exact (om_5 hi_2.2) | (omega)) (by decide) (fun x_38 ex_38 ls hl => ?_)
              replace hl : lv_has ls 7 [(2, .int x_38), (6, .int x_30), (4, .long y_15), (3, .int x_9), (0, .ref a0), (1, .int x0)] := hl
              refine lv_goto (pc := 135) (tgt := 2) hx hb dX10_settle_135 (by decide) ?_
              exact ih_lp_7 x_38 g_28 g_32 _ _ ls (by first | exact (om_12 ex_38 hi_2.1 c_8 h_x1.2) | (omega)) (by first | exact (om_13 ex_38 c_8) | (omega)) (fun T p h => st_end (hi_34 T p h) (hi_35 T p h) (by omega) (by omega)) (by omega) hP hD hS (lv_sub hl [0, 4, 5] rfl)
            ·
              refine lv_aload_n (pc := 93) hx hb dX10_settle_93 rfl (lv_at hl 4 rfl) ?_
              refine va_get (pc := 94) (ci := 10) (v := .ref a3) (C := RX10) (T := TX10) (N := 8) hx hb hts iX10 hown hK hP 0 rfl rfl 2 (by decide) (hts _ tw_210) (fun _ h9 => h9) rfl dX10_settle_94 ?_
              refine lv_iload_n (pc := 97) hx hb dX10_settle_97 rfl (lv_at hl 2 rfl) ?_
              refine lv_iconst (pc := 98) (v := 5) hx hb dX10_settle_98 (by decide) ?_
              refine b_iadd (pc := 99) hx hb rfl tI_5 (by first | exact (om_14 ex_9 hi_2.1) | (omega)) (by first | exact (om_15 ex_9 hi_2.2) | (omega)) dX10_settle_99 (fun x_39 ex_39 => ?_)
              refine lv_iload (pc := 100) hx hb dX10_settle_100 (lv_at hl 0 rfl) ?_
              refine b_iadd (pc := 102) hx hb rfl rfl (by first | exact (om_16 ex_39 hi_31.1 ex_9 hi_2.1) | (omega)) (by first | exact (om_17 ex_39 hi_33.1 hi_31.2 ex_9) | (omega)) dX10_settle_102 (fun x_40 ex_40 => ?_)
              refine lv_aload_n (pc := 103) hx hb dX10_settle_103 rfl (lv_at hl 4 rfl) ?_
              refine va_get (pc := 104) (ci := 10) (v := .ref a3) (C := RX10) (T := TX10) (N := 8) hx hb hts iX10 hown hK hP 0 rfl rfl 2 (by decide) (hts _ tw_210) (fun _ h9 => h9) rfl dX10_settle_104 ?_
              refine lv_iload_n (pc := 107) hx hb dX10_settle_107 rfl (lv_at hl 2 rfl) ?_
              refine lv_iload (pc := 108) hx hb dX10_settle_108 (lv_at hl 0 rfl) ?_
              refine b_iadd (pc := 110) hx hb rfl rfl (by first | exact (om_18 hi_31.1 ex_9 hi_2.1) | (omega)) (by first | exact (om_19 hi_33.1 hi_31.2 ex_9) | (omega)) dX10_settle_110 (fun x_41 ex_41 => ?_)
              refine va_lald (pc := 111) hx hb hK hP 3 3 rfl rfl (n_in rfl (by first | exact (om_20 ex_41 hi_31.1 ex_9 hi_2.1) | (omega)) (by first | exact (om_21 ex_41 hi_31.2 ex_9 c_8 h_x1.2) | (omega))) dX10_settle_111 ?_
              refine lv_topl (fun y_42 ey_42 => ?_)
              have ry_42 := n_rngL y_42
              replace ey_42 : y_42 = g_32 (x_41.toInt).toNat := ey_42
              have ty_42 := congrArg Int64.toInt ey_42
              refine lv_lload (pc := 112) hx hb dX10_settle_112 (lv_at hl 1 rfl) ?_
              refine lv_aload_n (pc := 114) hx hb dX10_settle_114 rfl (lv_at hl 4 rfl) ?_
              refine va_get (pc := 115) (ci := 10) (v := .ref a1) (C := RX10) (T := TX10) (N := 8) hx hb hts iX10 hown hK hP 0 rfl rfl 0 (by decide) (hts _ tw_207) (fun _ h9 => h9) rfl dX10_settle_115 ?_
              refine lv_iload_n (pc := 118) hx hb dX10_settle_118 rfl (lv_at hl 2 rfl) ?_
              refine lv_iload (pc := 119) hx hb dX10_settle_119 (lv_at hl 0 rfl) ?_
              refine b_iadd (pc := 121) hx hb rfl rfl (by first | exact (om_18 hi_31.1 ex_9 hi_2.1) | (omega)) (by first | exact (om_19 hi_33.1 hi_31.2 ex_9) | (omega)) dX10_settle_121 (fun x_43 ex_43 => ?_)
              refine va_lald (pc := 122) hx hb hK hP 1 3 rfl rfl (n_in rfl (by first | exact (om_20 ex_43 hi_31.1 ex_9 hi_2.1) | (omega)) (by first | exact (om_21 ex_43 hi_31.2 ex_9 c_8 h_x1.2) | (omega))) dX10_settle_122 ?_
              refine lv_topl (fun y_44 ey_44 => ?_)
              have ry_44 := n_rngL y_44
              replace ey_44 : y_44 = g0 (x_43.toInt).toNat := ey_44
              have ty_44 := congrArg Int64.toInt ey_44
              refine lv_lmul (pc := 123) hx hb dX10_settle_123 ?_
              refine lv_topl (fun y_45 ey_45 => ?_)
              have ry_45 := n_rngL y_45
              refine lv_lsub (pc := 124) hx hb dX10_settle_124 ?_
              refine lv_topl (fun y_46 ey_46 => ?_)
              have ry_46 := n_rngL y_46
              refine e_lastore (pc := 125) hx hb hK hP hD hS 3 3 rfl rfl (n_in rfl (by first | exact (om_22 ex_40 ex_39 hi_31.1 ex_9 hi_2.1) | (omega)) (by first | exact (om_23 ex_40 ex_39 c_37 hi_33.1 ex_9 h_x1.2) | (omega))) dX10_settle_125 (fun g_47 eg_47 H locs hP hD hS => ?_)
              replace hP : va_P D gcl [(a0, .inr (10, [.ref a1, .ref a2, .ref a3, .ref a4, .ref a5, .ref a6, .ref a7, .int x1])), (a1, .inl (cJ, 25, .inr (.inl g0))), (a2, .inl (cJ, 5, .inr (.inl g_28))), (a3, .inl (cJ, 25, .inr (.inl g_47))), (a4, .inl (cI, 5, .inl f0)), (a5, .inl (cI, 5, .inl f1)), (a7, .inl (cI, 5, .inl f2))] H := hP
              replace hD : va_D A [(a0, .inr (10, [.ref a1, .ref a2, .ref a3, .ref a4, .ref a5, .ref a6, .ref a7, .int x1])), (a1, .inl (cJ, 25, .inr (.inl g0))), (a2, .inl (cJ, 5, .inr (.inl g_28))), (a3, .inl (cJ, 25, .inr (.inl g_47))), (a4, .inl (cI, 5, .inl f0)), (a5, .inl (cI, 5, .inl f1)), (a7, .inl (cI, 5, .inl f2))] := hD
              refine b_iinc (pc := 126) hx hb dX10_settle_126 hl (k := 0) rfl rfl tI_1 (by first | exact (om_24 hi_31.1) | (omega)) (by first | exact (om_25 hi_31.2) | (omega)) (by decide) (fun x_48 ex_48 ls hl => ?_)
              replace hl : lv_has ls 7 [(6, .int x_48), (4, .long y_15), (3, .int x_9), (2, .int x_1), (0, .ref a0), (1, .int x0)] := hl
              refine lv_goto (pc := 129) (tgt := 84) hx hb dX10_settle_129 (by decide) ?_
              exact ih_lp_36 x_48 g_47 _ _ ls (by first | exact (om_26 ex_48 hi_31.1 c_37 h_x1.2) | (omega)) (by first | exact (om_27 ex_48 hi_33.1 c_37) | (omega)) (fun T p h => se_cross (hi_34 T p h) (by omega) eg_47 (by omega)) (fun T p h => st_put (hi_35 T p h) eg_47 (by omega) (by omega) (by omega) (lv_cross (hi_34 T p h x_1.toInt (by omega) (by omega)) p (by omega) (by omega) (by omega) (by omega) hh_16 (lW ey_44 (by omega)) (lW ey_42 (by omega)) ey_45 ey_46) (by omega)) (by omega) hP hD hS (lv_sub hl [0, 1, 2, 3, 4, 5] rfl)
        exact lp_36 _ x_29 g_4 _ _ ls (by first | exact (om_28 ex_29 hi_2.1 hi_2.2) | (omega)) (by first | exact (om_29 ex_29 c_8) | (omega)) (fun T p h => se_base (hi_6 T p h) eg_28 (by omega)) (fun T p h => st_0 eg_28 (by omega) (lv_base (hi_6 T p h x_1.toInt (by omega) (by omega)) p (by first | exact (om_2 hi_2.1) | (omega)) (by omega) ey_18 hh_16 (lW ey_20 (by first | exact (om_30 ex_19 ex_9) | (omega))) (lW ey_23 (by first | exact (om_30 ex_22 ex_9) | (omega))) rfl ey_21 ey_24 ey_25 ey_26 ey_27) (by omega)) (Nat.lt_succ_self _) hP hD hS (lv_sub hl [0, 1, 2, 3, 4, 5] rfl)
  exact lp_7 _ x0 g1 g2 _ _ ls hp1 hg__fl (fun _ _ h => h) (Nat.lt_succ_self _) hP hD hS (lv_sub hl [0, 1, 2] rfl)
theorem om_31 {a : Int} (h0 : (0 ≤ a)) : (-2147483648 ≤ a - 1) := by omega
theorem om_32 {a : Int} (h0 : (a ≤ 4)) : (a - 1 ≤ 2147483647) := by omega
theorem om_33 {a : Int} (h0 : (a < 0)) : (¬ (a ≥ 0)) := by omega
theorem om_34 {a : Int} (h0 : (a < 0)) : (a < 0) := by omega
theorem om_35 {a : Int} (h0 : (a ≥ 0)) : (0 ≤ a) := by omega
theorem om_36 {a : Int} (h0 : (a ≤ 3)) : (a < (5 : Nat)) := by omega
theorem om_37 {a : Int} (h0 : (a ≤ 23)) : (a + 1 ≤ 2147483647) := by omega
theorem om_38 {a : Int} (h0 : (a ≥ 0)) : (¬ (a < 0)) := by omega
theorem om_39 {a b c d : Int} (h0 : (a = b + 1)) (h1 : (c = b + 1)) (h2 : (c < d)) (h3 : (d ≤ 24)) : (a ≤ 23) := by omega
theorem om_40 {a : Int} (h0 : (a ≥ 0)) (h1 : (a ≤ 3)) : ((0 ≤ a ∧ a ≤ 4)) := by omega
theorem om_41 {a b : Int} (h0 : (a ≤ b - 1)) : (a ≤ b) := by omega
theorem om_42 {a b : Int} (h0 : (a ≤ b - 1)) : (a < b) := by omega
theorem om_43 {a b c : Int} (h0 : (c < b)) (h1 : (c = a + 1)) : (a + 1 < b) := by omega
theorem om_44 {a : Int} (h0 : (a = 0)) : (0 ≤ a) := by omega
theorem om_45 {a : Int} (h0 : (a = 0)) : (a ≤ 23) := by omega
theorem om_46 {a : Int} (h0 : (a ≥ 0)) : (-2147483648 ≤ a + (-1)) := by omega
theorem om_47 {a : Int} (h0 : (a ≤ 3)) : (a + (-1) ≤ 2147483647) := by omega
theorem om_48 {a b : Int} (h0 : (a = b + (-1))) (h1 : (b ≥ 0)) (h2 : (b ≤ 3)) : (((-1) ≤ a ∧ a ≤ 3)) := by omega
theorem om_49 {a b c : Int} (h0 : (a = c + (-1))) (h1 : (c ≤ b - 1)) : ((a ≤ b - 1)) := by omega
theorem om_50 {a b c : Int} (h0 : (c ≥ a)) (h1 : (c = b + 1)) : (a ≤ b + 1) := by omega
theorem om_51 {a b : Int} (h0 : (a = b + (-1))) : (a = b - 1) := by omega
theorem om_52 {a b : Int} (h0 : (a = b - 1)) (h1 : (0 ≤ b)) (h2 : (b ≤ 4)) : (((-1) ≤ a ∧ a ≤ 3)) := by omega
theorem om_53 {a b : Int} (h0 : (a = b - 1)) : ((a ≤ b - 1)) := by omega
theorem om_54 {a b : Int} (h0 : (a = b - 1)) : (a = b - 1) := by omega
set_option maxHeartbeats 4000000 in
set_option maxRecDepth 100000 in
theorem k_X10_nextLine_e (l : Launch) (D : va_G) (cB cC cI cJ : ClassId) (sz : Nat) (a0 a1 a2 a3 a4 a5 a6 a7 : Nat) (x0 : Int32) (f0 f1 f2 f3 : Nat → Int32) (g0 g1 g2 : Nat → Int64) (h_x0 : (0 ≤ x0.toInt ∧ x0.toInt ≤ 4)) (hf_f2 : (∀ j, 0 ≤ (f2 j).toInt ∧ (f2 j).toInt ≤ 23)) (hf_f3 : (∀ j, (-3) ≤ (f3 j).toInt ∧ (f3 j).toInt ≤ 24)) : Met l yX10_nextLine (.code yX10_nextLine cX10_nextLine 2 none :: lw_gd) ({ frames := 1, cells := 0, slots := 0, locals := 26 }) (gPre D [(cB, .byte), (cC, .char), (cI, .int), (cJ, .long)] [.ref a0] [(a0, .inr (10, [.ref a1, .ref a2, .ref a3, .ref a4, .ref a5, .ref a6, .ref a7, .int x0])), (a1, .inl (cJ, 25, .inr (.inl g0))), (a2, .inl (cJ, 5, .inr (.inl g1))), (a3, .inl (cJ, 25, .inr (.inl g2))), (a4, .inl (cI, 5, .inl f0)), (a5, .inl (cI, 5, .inl f1)), (a7, .inl (cI, 5, .inl f2)), (a6, .inl (cI, 5, .inl f3))] sz) (va_Qv (fun u => (∀ j, 0 ≤ ((u.2.1 0) j).toInt ∧ ((u.2.1 0) j).toInt ≤ 23) ∧ (∀ T : Nat → Int32, prW g0 T x0.toInt → seW T (xW f0 f1 f2) g1 g2 x0.toInt x0.toInt → diW f2 f3 x0.toInt → nlW T f0 f1 f3 f2 (u.2.1 0) (u.2.2.1 0) (u.2.2.1 1) x0.toInt)) (gB D (va_A [(a0, .inr (10, [.ref a1, .ref a2, .ref a3, .ref a4, .ref a5, .ref a6, .ref a7, .int x0])), (a1, .inl (cJ, 25, .inr (.inl g0))), (a2, .inl (cJ, 5, .inr (.inl g1))), (a3, .inl (cJ, 25, .inr (.inl g2))), (a4, .inl (cI, 5, .inl f0)), (a5, .inl (cI, 5, .inl f1)), (a7, .inl (cI, 5, .inl f2)), (a6, .inl (cI, 5, .inl f3))] sz) (fun u : gEx => [(a0, .inr (10, [.ref a1, .ref a2, .ref a3, .ref a4, .ref a5, .ref a6, .ref a7, .int x0])), (a1, .inl (cJ, 25, .inr (.inl g0))), (a2, .inl (cJ, 5, .inr (.inl (u.2.2.1 0)))), (a3, .inl (cJ, 25, .inr (.inl (u.2.2.1 1)))), (a4, .inl (cI, 5, .inl f0)), (a5, .inl (cI, 5, .inl f1)), (a7, .inl (cI, 5, .inl (u.2.1 0))), (a6, .inl (cI, 5, .inl f3))])) (va_A [(a0, .inr (10, [.ref a1, .ref a2, .ref a3, .ref a4, .ref a5, .ref a6, .ref a7, .int x0])), (a1, .inl (cJ, 25, .inr (.inl g0))), (a2, .inl (cJ, 5, .inr (.inl g1))), (a3, .inl (cJ, 25, .inr (.inl g2))), (a4, .inl (cI, 5, .inl f0)), (a5, .inl (cI, 5, .inl f1)), (a7, .inl (cI, 5, .inl f2)), (a6, .inl (cI, 5, .inl f3))] sz)) 0 0 (va_A [(a0, .inr (10, [.ref a1, .ref a2, .ref a3, .ref a4, .ref a5, .ref a6, .ref a7, .int x0])), (a1, .inl (cJ, 25, .inr (.inl g0))), (a2, .inl (cJ, 5, .inr (.inl g1))), (a3, .inl (cJ, 25, .inr (.inl g2))), (a4, .inl (cI, 5, .inl f0)), (a5, .inl (cI, 5, .inl f1)), (a7, .inl (cI, 5, .inl f2)), (a6, .inl (cI, 5, .inl f3))] sz) := by
  refine gOf_v (by decide +kernel) (Nat.le_of_ble_eq_true rfl) ?_
  intro p e s m args below meth c ls A Q hx hb hts hown hml hN hK hP hD hA hl hret
  replace hown : s.vm.findClass RX10 = some m.cls := hown
  have hS : va_S A s.heap s.heap [] := va_S.rf
  replace hP : va_P D gcl [(a0, .inr (10, [.ref a1, .ref a2, .ref a3, .ref a4, .ref a5, .ref a6, .ref a7, .int x0])), (a1, .inl (cJ, 25, .inr (.inl g0))), (a2, .inl (cJ, 5, .inr (.inl g1))), (a3, .inl (cJ, 25, .inr (.inl g2))), (a4, .inl (cI, 5, .inl f0)), (a5, .inl (cI, 5, .inl f1)), (a7, .inl (cI, 5, .inl f2)), (a6, .inl (cI, 5, .inl f3))] s.heap := hP
  replace hl : lv_has ls 2 [(0, .ref a0)] := hl
  refine lv_aload_n (pc := 0) hx hb dX10_nextLine_0 rfl (lv_at hl 0 rfl) ?_
  refine va_get (pc := 1) (ci := 10) (v := .int x0) (C := RX10) (T := TX10) (N := 8) hx hb hts iX10 hown hK hP 0 rfl rfl 7 (by decide) (hts _ tw_220) (fun _ h9 => h9) rfl dX10_nextLine_1 ?_
  refine lv_iconst (pc := 4) (v := 1) hx hb dX10_nextLine_4 (by decide) ?_
  refine b_isub (pc := 5) hx hb rfl tI_1 (by first | exact (om_31 h_x0.1) | (omega)) (by first | exact (om_32 h_x0.2) | (omega)) dX10_nextLine_5 (fun x_1 ex_1 => ?_)
  refine lv_istore_n (pc := 6) (lv' := [(1, .int x_1), (0, .ref a0)]) hx hb dX10_nextLine_6 rfl hl (by decide) rfl (fun ls hl => ?_)
  have lp_8 : ∀ (n : Nat) (x_2 : Int32) (f_4 : Nat → Int32) (H : Heap) (locs : List Loc) (ls : Array Slot), ((-1) ≤ x_2.toInt ∧ x_2.toInt ≤ 3) → (∀ j, 0 ≤ (f_4 j).toInt ∧ (f_4 j).toInt ≤ 23) → (x_2.toInt ≤ x0.toInt - 1) → (dzW f2 f_4 f3 x0.toInt x_2.toInt) → (x_2.toInt + 2147483648).toNat < n → va_P D gcl [(a0, .inr (10, [.ref a1, .ref a2, .ref a3, .ref a4, .ref a5, .ref a6, .ref a7, .int x0])), (a1, .inl (cJ, 25, .inr (.inl g0))), (a2, .inl (cJ, 5, .inr (.inl g1))), (a3, .inl (cJ, 25, .inr (.inl g2))), (a4, .inl (cI, 5, .inl f0)), (a5, .inl (cI, 5, .inl f1)), (a7, .inl (cI, 5, .inl f_4)), (a6, .inl (cI, 5, .inl f3))] H → va_D A [(a0, .inr (10, [.ref a1, .ref a2, .ref a3, .ref a4, .ref a5, .ref a6, .ref a7, .int x0])), (a1, .inl (cJ, 25, .inr (.inl g0))), (a2, .inl (cJ, 5, .inr (.inl g1))), (a3, .inl (cJ, 25, .inr (.inl g2))), (a4, .inl (cI, 5, .inl f0)), (a5, .inl (cI, 5, .inl f1)), (a7, .inl (cI, 5, .inl f_4)), (a6, .inl (cI, 5, .inl f3))] → va_S A s.heap H locs → lv_has ls 2 [(1, .int x_2), (0, .ref a0)] → W p l e ({ frames := 1, cells := 0, slots := 0, locals := 26 }) s m args below meth c H locs 0 0 Q (F0 m 7 ls []) := by
    intro n
    induction n with
    | zero => intro x_2 f_4 H locs ls hi_3 hi_5 hi_6 hi_7 hmu; exact absurd hmu (Nat.not_lt_zero _)
    | succ n ih_lp_8 =>
      intro x_2 f_4 H locs ls hi_3 hi_5 hi_6 hi_7 hmu_lp_8 hP hD hS hl
      refine lv_iload_n (pc := 7) hx hb dX10_nextLine_7 rfl (lv_at hl 0 rfl) ?_
      refine b_if_lt (pc := 8) (tgt := 41) hx hb rfl  dX10_nextLine_8 (by decide) (fun c_9 => ?_) (fun c_9 => ?_)
      ·
        refine lv_iload_n (pc := 41) hx hb dX10_nextLine_41 rfl (lv_at hl 0 rfl) ?_
        refine b_if_lt (pc := 42) (tgt := 60) hx hb rfl  dX10_nextLine_42 (by decide) (fun c_10 => ?_) (fun c_10 => absurd c_10 (by first | exact (om_33 c_9) | (omega)))
        exact hret ((fun _ => 0), (fun k => [f_4].getD k (fun _ => 0)), (fun k => [g1, g2].getD k (fun _ => 0)), (fun _ => 0), (fun _ => 0)) dX10_nextLine_60 ⟨hi_5, (show ∀ T : Nat → Int32, prW g0 T x0.toInt → seW T (xW f0 f1 f2) g1 g2 x0.toInt x0.toInt → diW f2 f3 x0.toInt → nlW T f0 f1 f3 f2 f_4 g1 g2 x0.toInt from fun T p q d => nl_no hi_7 d (by first | exact (om_34 c_10) | (omega)) (by first | exact (om_2 h_x0.1) | (omega)))⟩ (g_psub (wc := [(a0, .inr (10, [.ref a1, .ref a2, .ref a3, .ref a4, .ref a5, .ref a6, .ref a7, .int x0])), (a1, .inl (cJ, 25, .inr (.inl g0))), (a2, .inl (cJ, 5, .inr (.inl g1))), (a3, .inl (cJ, 25, .inr (.inl g2))), (a4, .inl (cI, 5, .inl f0)), (a5, .inl (cI, 5, .inl f1)), (a7, .inl (cI, 5, .inl f_4)), (a6, .inl (cI, 5, .inl f3))]) hP [0, 1, 2, 3, 4, 5, 6, 7] rfl) (hD.sub (ws' := [(a0, .inr (10, [.ref a1, .ref a2, .ref a3, .ref a4, .ref a5, .ref a6, .ref a7, .int x0])), (a1, .inl (cJ, 25, .inr (.inl g0))), (a2, .inl (cJ, 5, .inr (.inl g1))), (a3, .inl (cJ, 25, .inr (.inl g2))), (a4, .inl (cI, 5, .inl f0)), (a5, .inl (cI, 5, .inl f1)), (a7, .inl (cI, 5, .inl f_4)), (a6, .inl (cI, 5, .inl f3))]) [0, 1, 2, 3, 4, 5, 6, 7] (by decide) rfl) hS
      ·
        refine lv_aload_n (pc := 11) hx hb dX10_nextLine_11 rfl (lv_at hl 1 rfl) ?_
        refine va_get (pc := 12) (ci := 10) (v := .ref a7) (C := RX10) (T := TX10) (N := 8) hx hb hts iX10 hown hK hP 0 rfl rfl 6 (by decide) (hts _ tw_216) (fun _ h9 => h9) rfl dX10_nextLine_12 ?_
        refine lv_iload_n (pc := 15) hx hb dX10_nextLine_15 rfl (lv_at hl 0 rfl) ?_
        refine va_iald (pc := 16) hx hb hK hP 6 2 rfl rfl (n_in rfl (by first | exact (om_35 c_9) | (omega)) (by first | exact (om_36 hi_3.2) | (omega))) dX10_nextLine_16 ?_
        refine lv_topi (fun x_11 ex_11 => ?_)
        have rx_11 : (0 ≤ x_11.toInt ∧ x_11.toInt ≤ 23) := by rw [ex_11]; exact hi_5 _
        replace ex_11 : x_11 = f_4 (x_2.toInt).toNat := ex_11
        have tx_11 := congrArg Int32.toInt ex_11
        refine lv_iconst (pc := 17) (v := 1) hx hb dX10_nextLine_17 (by decide) ?_
        refine b_iadd (pc := 18) hx hb rfl tI_1 (by first | exact (om_4 rx_11.1) | (omega)) (by first | exact (om_37 rx_11.2) | (omega)) dX10_nextLine_18 (fun x_12 ex_12 => ?_)
        refine lv_aload_n (pc := 19) hx hb dX10_nextLine_19 rfl (lv_at hl 1 rfl) ?_
        refine va_get (pc := 20) (ci := 10) (v := .ref a6) (C := RX10) (T := TX10) (N := 8) hx hb hts iX10 hown hK hP 0 rfl rfl 5 (by decide) (hts _ tw_214) (fun _ h9 => h9) rfl dX10_nextLine_20 ?_
        refine lv_iload_n (pc := 23) hx hb dX10_nextLine_23 rfl (lv_at hl 0 rfl) ?_
        refine va_iald (pc := 24) hx hb hK hP 7 2 rfl rfl (n_in rfl (by first | exact (om_35 c_9) | (omega)) (by first | exact (om_36 hi_3.2) | (omega))) dX10_nextLine_24 ?_
        refine lv_topi (fun x_13 ex_13 => ?_)
        have rx_13 : ((-3) ≤ x_13.toInt ∧ x_13.toInt ≤ 24) := by rw [ex_13]; exact hf_f3 _
        replace ex_13 : x_13 = f3 (x_2.toInt).toNat := ex_13
        have tx_13 := congrArg Int32.toInt ex_13
        refine b_icmp_lt (pc := 25) (tgt := 41) hx hb rfl rfl  dX10_nextLine_25 (by decide) (fun c_14 => ?_) (fun c_14 => ?_)
        ·
          refine lv_iload_n (pc := 41) hx hb dX10_nextLine_41 rfl (lv_at hl 0 rfl) ?_
          refine b_if_lt (pc := 42) (tgt := 60) hx hb rfl  dX10_nextLine_42 (by decide) (fun c_15 => absurd c_15 (by first | exact (om_38 c_9) | (omega))) (fun c_15 => ?_)
          refine lv_aload_n (pc := 45) hx hb dX10_nextLine_45 rfl (lv_at hl 1 rfl) ?_
          refine va_get (pc := 46) (ci := 10) (v := .ref a7) (C := RX10) (T := TX10) (N := 8) hx hb hts iX10 hown hK hP 0 rfl rfl 6 (by decide) (hts _ tw_216) (fun _ h9 => h9) rfl dX10_nextLine_46 ?_
          refine lv_iload_n (pc := 49) hx hb dX10_nextLine_49 rfl (lv_at hl 0 rfl) ?_
          refine lv_dup2_11 (pc := 50) hx hb dX10_nextLine_50 rfl rfl ?_
          refine va_iald (pc := 51) hx hb hK hP 6 2 rfl rfl (n_in rfl (by first | exact (om_35 c_15) | (omega)) (by first | exact (om_36 hi_3.2) | (omega))) dX10_nextLine_51 ?_
          refine gI (y := x_11) ex_11.symm ?_
          refine lv_iconst (pc := 52) (v := 1) hx hb dX10_nextLine_52 (by decide) ?_
          refine b_iadd (pc := 53) hx hb rfl tI_1 (by first | exact (om_4 rx_11.1) | (omega)) (by first | exact (om_37 rx_11.2) | (omega)) dX10_nextLine_53 (fun x_16 ex_16 => ?_)
          refine e_iastore (pc := 54) hx hb hK hP hD hS 6 2 rfl rfl (n_in rfl (by first | exact (om_35 c_15) | (omega)) (by first | exact (om_36 hi_3.2) | (omega))) dX10_nextLine_54 (fun f_17 ef_17 H locs hP hD hS => ?_)
          have hf_17 : (∀ j, 0 ≤ (f_17 j).toInt ∧ (f_17 j).toInt ≤ 23) := (by rw [ef_17]; exact n_upd hi_5 (by first | exact (om_10 ex_16 rx_11.1) | (omega)) (by first | exact (om_39 ex_16 ex_12 c_14 rx_13.2) | (omega)))
          replace hP : va_P D gcl [(a0, .inr (10, [.ref a1, .ref a2, .ref a3, .ref a4, .ref a5, .ref a6, .ref a7, .int x0])), (a1, .inl (cJ, 25, .inr (.inl g0))), (a2, .inl (cJ, 5, .inr (.inl g1))), (a3, .inl (cJ, 25, .inr (.inl g2))), (a4, .inl (cI, 5, .inl f0)), (a5, .inl (cI, 5, .inl f1)), (a7, .inl (cI, 5, .inl f_17)), (a6, .inl (cI, 5, .inl f3))] H := hP
          replace hD : va_D A [(a0, .inr (10, [.ref a1, .ref a2, .ref a3, .ref a4, .ref a5, .ref a6, .ref a7, .int x0])), (a1, .inl (cJ, 25, .inr (.inl g0))), (a2, .inl (cJ, 5, .inr (.inl g1))), (a3, .inl (cJ, 25, .inr (.inl g2))), (a4, .inl (cI, 5, .inl f0)), (a5, .inl (cI, 5, .inl f1)), (a7, .inl (cI, 5, .inl f_17)), (a6, .inl (cI, 5, .inl f3))] := hD
          refine lv_aload_n (pc := 55) hx hb dX10_nextLine_55 rfl (lv_at hl 1 rfl) ?_
          refine lv_iload_n (pc := 56) hx hb dX10_nextLine_56 rfl (lv_at hl 0 rfl) ?_
          refine gd_v (pc := 57) (wc := [(a0, .inr (10, [.ref a1, .ref a2, .ref a3, .ref a4, .ref a5, .ref a6, .ref a7, .int x0])), (a1, .inl (cJ, 25, .inr (.inl g0))), (a2, .inl (cJ, 5, .inr (.inl g1))), (a3, .inl (cJ, 25, .inr (.inl g2))), (a4, .inl (cI, 5, .inl f0)), (a5, .inl (cI, 5, .inl f1)), (a7, .inl (cI, 5, .inl f_17))]) hP hD hS hA [0, 1, 2, 3, 4, 5, 6] rfl (by decide +kernel) (fun _ => by rfl) (fun hPc hDc => va_runV (As := [.int x_2]) (rest := []) ⟨hx, hb, hml, hown, hts⟩ (k_X10_settle_e l D cB cC cI cJ _ a0 a1 a2 a3 a4 a5 a6 a7 x_2 x0 f0 f1 f_17 g0 g1 g2 (by first | exact (om_40 c_15 hi_3.2) | (omega)) h_x0 hf_17 (by first | exact (om_41 hi_6) | (omega))) ⟨gcwB hts tw_909 tw_8 tw_906 hd_yX10_settle ⟨Nat.le_of_ble_eq_true rfl, Nat.le_of_ble_eq_true rfl⟩, hts _ tw_908, hts _ tp_33⟩ ⟨gblind, va_recv hK hPc (ci := 10) (q0 := 0) rfl rfl, (gpreS hPc hK hDc hN).2⟩ rfl rfl hl.1 rfl (lv_room (Nat.le_of_ble_eq_true rfl)) dX10_nextLine_57 ⟨Nat.le_of_ble_eq_true rfl, Nat.le_of_ble_eq_true rfl⟩) (fun u_18 H locs hw_20 hP hD hS => ?_)
          replace hP : va_P D gcl [(a0, .inr (10, [.ref a1, .ref a2, .ref a3, .ref a4, .ref a5, .ref a6, .ref a7, .int x0])), (a1, .inl (cJ, 25, .inr (.inl g0))), (a2, .inl (cJ, 5, .inr (.inl (u_18.2.2.1 0)))), (a3, .inl (cJ, 25, .inr (.inl (u_18.2.2.1 1)))), (a4, .inl (cI, 5, .inl f0)), (a5, .inl (cI, 5, .inl f1)), (a7, .inl (cI, 5, .inl f_17)), (a6, .inl (cI, 5, .inl f3))] H := hP
          replace hD : va_D A [(a0, .inr (10, [.ref a1, .ref a2, .ref a3, .ref a4, .ref a5, .ref a6, .ref a7, .int x0])), (a1, .inl (cJ, 25, .inr (.inl g0))), (a2, .inl (cJ, 5, .inr (.inl (u_18.2.2.1 0)))), (a3, .inl (cJ, 25, .inr (.inl (u_18.2.2.1 1)))), (a4, .inl (cI, 5, .inl f0)), (a5, .inl (cI, 5, .inl f1)), (a7, .inl (cI, 5, .inl f_17)), (a6, .inl (cI, 5, .inl f3))] := hD
          have hw_21 : (∀ T : Nat → Int32, prW g0 T x0.toInt → seW T (xW f0 f1 f_17) g1 g2 x0.toInt x_2.toInt → seW T (xW f0 f1 f_17) (u_18.2.2.1 0) (u_18.2.2.1 1) x0.toInt x0.toInt) := hw_20
          exact hret ((fun _ => 0), (fun k => [f_17].getD k (fun _ => 0)), (fun k => [(u_18.2.2.1 0), (u_18.2.2.1 1)].getD k (fun _ => 0)), (fun _ => 0), (fun _ => 0)) dX10_nextLine_60 ⟨hf_17, (show ∀ T : Nat → Int32, prW g0 T x0.toInt → seW T (xW f0 f1 f2) g1 g2 x0.toInt x0.toInt → diW f2 f3 x0.toInt → nlW T f0 f1 f3 f2 f_17 (u_18.2.2.1 0) (u_18.2.2.1 1) x0.toInt from fun T p q d => nl_yes hi_7 d (by first | exact (om_35 c_15) | (omega)) (by first | exact (om_42 hi_6) | (omega)) ex_11 ex_13 (by first | exact (om_43 c_14 ex_12) | (omega)) (by omega) ef_17 (hw_21 T p (nl_pre q hi_7 ef_17 (by first | exact (om_41 hi_6) | (omega)))))⟩ (g_psub (wc := [(a0, .inr (10, [.ref a1, .ref a2, .ref a3, .ref a4, .ref a5, .ref a6, .ref a7, .int x0])), (a1, .inl (cJ, 25, .inr (.inl g0))), (a2, .inl (cJ, 5, .inr (.inl (u_18.2.2.1 0)))), (a3, .inl (cJ, 25, .inr (.inl (u_18.2.2.1 1)))), (a4, .inl (cI, 5, .inl f0)), (a5, .inl (cI, 5, .inl f1)), (a7, .inl (cI, 5, .inl f_17)), (a6, .inl (cI, 5, .inl f3))]) hP [0, 1, 2, 3, 4, 5, 6, 7] rfl) (hD.sub (ws' := [(a0, .inr (10, [.ref a1, .ref a2, .ref a3, .ref a4, .ref a5, .ref a6, .ref a7, .int x0])), (a1, .inl (cJ, 25, .inr (.inl g0))), (a2, .inl (cJ, 5, .inr (.inl (u_18.2.2.1 0)))), (a3, .inl (cJ, 25, .inr (.inl (u_18.2.2.1 1)))), (a4, .inl (cI, 5, .inl f0)), (a5, .inl (cI, 5, .inl f1)), (a7, .inl (cI, 5, .inl f_17)), (a6, .inl (cI, 5, .inl f3))]) [0, 1, 2, 3, 4, 5, 6, 7] (by decide) rfl) hS
        ·
          refine lv_aload_n (pc := 28) hx hb dX10_nextLine_28 rfl (lv_at hl 1 rfl) ?_
          refine va_get (pc := 29) (ci := 10) (v := .ref a7) (C := RX10) (T := TX10) (N := 8) hx hb hts iX10 hown hK hP 0 rfl rfl 6 (by decide) (hts _ tw_216) (fun _ h9 => h9) rfl dX10_nextLine_29 ?_
          refine lv_iload_n (pc := 32) hx hb dX10_nextLine_32 rfl (lv_at hl 0 rfl) ?_
          refine lv_iconst (pc := 33) (v := 0) hx hb dX10_nextLine_33 (by decide) ?_
          refine e_iastore (pc := 34) hx hb hK hP hD hS 6 2 rfl rfl (n_in rfl (by first | exact (om_35 c_9) | (omega)) (by first | exact (om_36 hi_3.2) | (omega))) dX10_nextLine_34 (fun f_22 ef_22 H locs hP hD hS => ?_)
          have hf_22 : (∀ j, 0 ≤ (f_22 j).toInt ∧ (f_22 j).toInt ≤ 23) := (by rw [ef_22]; exact n_upd hi_5 (by first | exact (om_44 tI_0) | (have k_f_22 := tI_0; omega)) (by first | exact (om_45 tI_0) | (have k_f_22 := tI_0; omega)))
          replace hP : va_P D gcl [(a0, .inr (10, [.ref a1, .ref a2, .ref a3, .ref a4, .ref a5, .ref a6, .ref a7, .int x0])), (a1, .inl (cJ, 25, .inr (.inl g0))), (a2, .inl (cJ, 5, .inr (.inl g1))), (a3, .inl (cJ, 25, .inr (.inl g2))), (a4, .inl (cI, 5, .inl f0)), (a5, .inl (cI, 5, .inl f1)), (a7, .inl (cI, 5, .inl f_22)), (a6, .inl (cI, 5, .inl f3))] H := hP
          replace hD : va_D A [(a0, .inr (10, [.ref a1, .ref a2, .ref a3, .ref a4, .ref a5, .ref a6, .ref a7, .int x0])), (a1, .inl (cJ, 25, .inr (.inl g0))), (a2, .inl (cJ, 5, .inr (.inl g1))), (a3, .inl (cJ, 25, .inr (.inl g2))), (a4, .inl (cI, 5, .inl f0)), (a5, .inl (cI, 5, .inl f1)), (a7, .inl (cI, 5, .inl f_22)), (a6, .inl (cI, 5, .inl f3))] := hD
          refine b_iinc (pc := 35) hx hb dX10_nextLine_35 hl (k := 0) rfl rfl tI_m1 (by first | exact (om_46 c_9) | (omega)) (by first | exact (om_47 hi_3.2) | (omega)) (by decide) (fun x_23 ex_23 ls hl => ?_)
          replace hl : lv_has ls 2 [(1, .int x_23), (0, .ref a0)] := hl
          refine lv_goto (pc := 38) (tgt := 7) hx hb dX10_nextLine_38 (by decide) ?_
          exact ih_lp_8 x_23 f_22 _ _ ls (by first | exact (om_48 ex_23 c_9 hi_3.2) | (omega)) hf_22 (by first | exact (om_49 ex_23 hi_6) | (omega)) (dz_step hi_7 ex_11 ex_13 (by first | exact (om_50 c_14 ex_12) | (omega)) ef_22 tI_0 (by first | exact (om_35 c_9) | (omega)) (by first | exact (om_51 ex_23) | (omega))) (by omega) hP hD hS (lv_sub hl [0, 1] rfl)
  exact lp_8 _ x_1 f2 _ _ ls (by first | exact (om_52 ex_1 h_x0.1 h_x0.2) | (omega)) hf_f2 (by first | exact (om_53 ex_1) | (omega)) (dz_0 (by first | exact (om_54 ex_1) | (omega))) (Nat.lt_succ_self _) hP hD hS (lv_sub hl [0, 1] rfl)
theorem om_55 {a : Int} (h0 : (a < 5)) : (a < (5 : Nat)) := by omega
theorem om_56 {a : Int} (h0 : (a ≤ 23)) : (a ≤ 23) := by omega
theorem om_57 {a : Int} (h0 : (a < 5)) : (a + 1 ≤ 2147483647) := by omega
theorem om_58 {a b : Int} (h0 : (a = b + 1)) (h1 : (0 ≤ b)) (h2 : (b < 5)) : ((0 ≤ a ∧ a ≤ 2147483647)) := by omega
theorem om_59 {a b : Int} (h0 : (a = b + 1)) : (a = b + 1) := by omega
set_option maxHeartbeats 4000000 in
set_option maxRecDepth 100000 in
theorem k_J7_fill_53178_5r0_23_n (l : Launch) (D : va_G) (cB cC cI cJ : ClassId) (sz : Nat) (a0 : Nat) (x0 : Int32) (f0 : Nat → Int32) (hp1 : (0 ≤ x0.toInt ∧ x0.toInt ≤ 23)) (hf_f0 : (∀ j, 0 ≤ (f0 j).toInt ∧ (f0 j).toInt ≤ 23)) : Met l yJ7_fill_53178 (.code yJ7_fill_53178 cJ7_fill_53178 4 none :: lw_gd) ({ frames := 0, cells := 0, slots := 0, locals := 0 }) (gPre D [(cB, .byte), (cC, .char), (cI, .int), (cJ, .long)] [.ref a0, .int x0] [(a0, .inl (cI, 5, .inl f0))] sz) (va_Qv (fun u => (∀ j, 0 ≤ ((u.2.1 0) j).toInt ∧ ((u.2.1 0) j).toInt ≤ 23) ∧ (fillQ (u.2.1 0) x0 5)) (gB D (va_A [(a0, .inl (cI, 5, .inl f0))] sz) (fun u : gEx => [(a0, .inl (cI, 5, .inl (u.2.1 0)))])) (va_A [(a0, .inl (cI, 5, .inl f0))] sz)) 0 0 (va_A [(a0, .inl (cI, 5, .inl f0))] sz) := by
  refine gOf_v (by decide +kernel) (Nat.le_of_ble_eq_true rfl) ?_
  intro p e s m args below meth c ls A Q hx hb hts hown hml hN hK hP hD hA hl hret
  replace hown : s.vm.findClass RJ7 = some m.cls := hown
  have hS : va_S A s.heap s.heap [] := va_S.rf
  replace hP : va_P D gcl [(a0, .inl (cI, 5, .inl f0))] s.heap := hP
  replace hl : lv_has ls 4 [(0, .ref a0), (1, .int x0)] := hl
  refine lv_iconst (pc := 0) (v := 0) hx hb dJ7_fill_53178_0 (by decide) ?_
  refine lv_istore_n (pc := 1) (lv' := [(2, .int 0), (0, .ref a0), (1, .int x0)]) hx hb dJ7_fill_53178_1 rfl hl (by decide) rfl (fun ls hl => ?_)
  refine lv_aload_n (pc := 2) hx hb dJ7_fill_53178_2 rfl (lv_at hl 1 rfl) ?_
  refine va_alen (pc := 3) (v := 5) hx hb hK hP 0 2 rfl rfl rfl dJ7_fill_53178_3 ?_
  refine lv_istore_n (pc := 4) (lv' := [(3, .int 5), (2, .int 0), (0, .ref a0), (1, .int x0)]) hx hb dJ7_fill_53178_4 rfl hl (by decide) rfl (fun ls hl => ?_)
  have lp_6 : ∀ (n : Nat) (x_1 : Int32) (f_3 : Nat → Int32) (H : Heap) (locs : List Loc) (ls : Array Slot), (0 ≤ x_1.toInt ∧ x_1.toInt ≤ 2147483647) → (∀ j, 0 ≤ (f_3 j).toInt ∧ (f_3 j).toInt ≤ 23) → (fillQ f_3 x0 x_1.toInt) → (2147483647 - x_1.toInt).toNat < n → va_P D gcl [(a0, .inl (cI, 5, .inl f_3))] H → va_D A [(a0, .inl (cI, 5, .inl f_3))] → va_S A s.heap H locs → lv_has ls 4 [(3, .int 5), (2, .int x_1), (0, .ref a0), (1, .int x0)] → W p l e ({ frames := 0, cells := 0, slots := 0, locals := 0 }) s m args below meth c H locs 0 0 Q (F0 m 5 ls []) := by
    intro n
    induction n with
    | zero => intro x_1 f_3 H locs ls hi_2 hi_4 hi_5 hmu; exact absurd hmu (Nat.not_lt_zero _)
    | succ n ih_lp_6 =>
      intro x_1 f_3 H locs ls hi_2 hi_4 hi_5 hmu_lp_6 hP hD hS hl
      refine lv_iload_n (pc := 5) hx hb dJ7_fill_53178_5 rfl (lv_at hl 1 rfl) ?_
      refine lv_iload_n (pc := 6) hx hb dJ7_fill_53178_6 rfl (lv_at hl 0 rfl) ?_
      refine b_icmp_ge (pc := 7) (tgt := 20) hx hb rfl tI_5  dJ7_fill_53178_7 (by decide) (fun c_7 => ?_) (fun c_7 => ?_)
      ·
        exact hret ((fun _ => 0), (fun k => [f_3].getD k (fun _ => 0)), (fun _ => (fun _ => 0)), (fun _ => 0), (fun _ => 0)) dJ7_fill_53178_20 ⟨hi_4, (show fillQ f_3 x0 5 from (fun j hj => hi_5 j (by omega)))⟩ (g_psub (wc := [(a0, .inl (cI, 5, .inl f_3))]) hP [0] rfl) (hD.sub (ws' := [(a0, .inl (cI, 5, .inl f_3))]) [0] (by decide) rfl) hS
      ·
        refine lv_aload_n (pc := 10) hx hb dJ7_fill_53178_10 rfl (lv_at hl 2 rfl) ?_
        refine lv_iload_n (pc := 11) hx hb dJ7_fill_53178_11 rfl (lv_at hl 1 rfl) ?_
        refine lv_iload_n (pc := 12) hx hb dJ7_fill_53178_12 rfl (lv_at hl 3 rfl) ?_
        refine e_iastore (pc := 13) hx hb hK hP hD hS 0 2 rfl rfl (n_in rfl (by first | exact (om_2 hi_2.1) | (omega)) (by first | exact (om_55 c_7) | (omega))) dJ7_fill_53178_13 (fun f_8 ef_8 H locs hP hD hS => ?_)
        have hf_8 : (∀ j, 0 ≤ (f_8 j).toInt ∧ (f_8 j).toInt ≤ 23) := (by rw [ef_8]; exact n_upd hi_4 (by first | exact (om_2 hp1.1) | (omega)) (by first | exact (om_56 hp1.2) | (omega)))
        replace hP : va_P D gcl [(a0, .inl (cI, 5, .inl f_8))] H := hP
        replace hD : va_D A [(a0, .inl (cI, 5, .inl f_8))] := hD
        refine b_iinc (pc := 14) hx hb dJ7_fill_53178_14 hl (k := 1) rfl rfl tI_1 (by first | exact (om_4 hi_2.1) | (omega)) (by first | exact (om_57 c_7) | (omega)) (by decide) (fun x_9 ex_9 ls hl => ?_)
        replace hl : lv_has ls 4 [(2, .int x_9), (3, .int 5), (0, .ref a0), (1, .int x0)] := hl
        refine lv_goto (pc := 17) (tgt := 5) hx hb dJ7_fill_53178_17 (by decide) ?_
        exact ih_lp_6 x_9 f_8 _ _ ls (by first | exact (om_58 ex_9 hi_2.1 c_7) | (omega)) hf_8 (fill_step hi_5 ef_8 rfl (by first | exact (om_2 hi_2.1) | (omega)) (by first | exact (om_59 ex_9) | (omega))) (by omega) hP hD hS (lv_sub hl [1, 0, 2, 3] rfl)
  exact lp_6 _ 0 f0 _ _ ls (n_c tI_0 (by decide)) hf_f0 (fun j hj => absurd hj (by have q := tI_0; omega)) (Nat.lt_succ_self _) hP hD hS (lv_sub hl [0, 1, 2, 3] rfl)
theorem om_60 {a b : Int} (h0 : (0 ≤ b)) (h1 : (a = 0)) : (a ≤ b) := by omega
set_option maxHeartbeats 4000000 in
set_option maxRecDepth 100000 in
theorem k_X10_firstLine_e (l : Launch) (D : va_G) (cB cC cI cJ : ClassId) (sz : Nat) (a0 a1 a2 a3 a4 a5 a6 a7 : Nat) (x0 : Int32) (f0 f1 f2 : Nat → Int32) (g0 g1 g2 : Nat → Int64) (h_x0 : (0 ≤ x0.toInt ∧ x0.toInt ≤ 4)) (hf_f2 : (∀ j, 0 ≤ (f2 j).toInt ∧ (f2 j).toInt ≤ 23)) : Met l yX10_firstLine (.code yX10_firstLine cX10_firstLine 1 none :: lw_gd) ({ frames := 1, cells := 0, slots := 0, locals := 26 }) (gPre D [(cB, .byte), (cC, .char), (cI, .int), (cJ, .long)] [.ref a0] [(a0, .inr (10, [.ref a1, .ref a2, .ref a3, .ref a4, .ref a5, .ref a6, .ref a7, .int x0])), (a1, .inl (cJ, 25, .inr (.inl g0))), (a2, .inl (cJ, 5, .inr (.inl g1))), (a3, .inl (cJ, 25, .inr (.inl g2))), (a4, .inl (cI, 5, .inl f0)), (a5, .inl (cI, 5, .inl f1)), (a7, .inl (cI, 5, .inl f2))] sz) (va_Qv (fun u => (∀ j, 0 ≤ ((u.2.1 0) j).toInt ∧ ((u.2.1 0) j).toInt ≤ 23) ∧ (∀ s : Int, 0 ≤ s → s < 5 → ((u.2.1 0) s.toNat).toInt = 0) ∧ (∀ T : Nat → Int32, prW g0 T x0.toInt → z0W g1 g2 x0.toInt → seW T (xW f0 f1 (u.2.1 0)) (u.2.2.1 0) (u.2.2.1 1) x0.toInt x0.toInt)) (gB D (va_A [(a0, .inr (10, [.ref a1, .ref a2, .ref a3, .ref a4, .ref a5, .ref a6, .ref a7, .int x0])), (a1, .inl (cJ, 25, .inr (.inl g0))), (a2, .inl (cJ, 5, .inr (.inl g1))), (a3, .inl (cJ, 25, .inr (.inl g2))), (a4, .inl (cI, 5, .inl f0)), (a5, .inl (cI, 5, .inl f1)), (a7, .inl (cI, 5, .inl f2))] sz) (fun u : gEx => [(a0, .inr (10, [.ref a1, .ref a2, .ref a3, .ref a4, .ref a5, .ref a6, .ref a7, .int x0])), (a1, .inl (cJ, 25, .inr (.inl g0))), (a2, .inl (cJ, 5, .inr (.inl (u.2.2.1 0)))), (a3, .inl (cJ, 25, .inr (.inl (u.2.2.1 1)))), (a4, .inl (cI, 5, .inl f0)), (a5, .inl (cI, 5, .inl f1)), (a7, .inl (cI, 5, .inl (u.2.1 0)))])) (va_A [(a0, .inr (10, [.ref a1, .ref a2, .ref a3, .ref a4, .ref a5, .ref a6, .ref a7, .int x0])), (a1, .inl (cJ, 25, .inr (.inl g0))), (a2, .inl (cJ, 5, .inr (.inl g1))), (a3, .inl (cJ, 25, .inr (.inl g2))), (a4, .inl (cI, 5, .inl f0)), (a5, .inl (cI, 5, .inl f1)), (a7, .inl (cI, 5, .inl f2))] sz)) 0 0 (va_A [(a0, .inr (10, [.ref a1, .ref a2, .ref a3, .ref a4, .ref a5, .ref a6, .ref a7, .int x0])), (a1, .inl (cJ, 25, .inr (.inl g0))), (a2, .inl (cJ, 5, .inr (.inl g1))), (a3, .inl (cJ, 25, .inr (.inl g2))), (a4, .inl (cI, 5, .inl f0)), (a5, .inl (cI, 5, .inl f1)), (a7, .inl (cI, 5, .inl f2))] sz) := by
  refine gOf_v (by decide +kernel) (Nat.le_of_ble_eq_true rfl) ?_
  intro p e s m args below meth c ls A Q hx hb hts hown hml hN hK hP hD hA hl hret
  replace hown : s.vm.findClass RX10 = some m.cls := hown
  have hS : va_S A s.heap s.heap [] := va_S.rf
  replace hP : va_P D gcl [(a0, .inr (10, [.ref a1, .ref a2, .ref a3, .ref a4, .ref a5, .ref a6, .ref a7, .int x0])), (a1, .inl (cJ, 25, .inr (.inl g0))), (a2, .inl (cJ, 5, .inr (.inl g1))), (a3, .inl (cJ, 25, .inr (.inl g2))), (a4, .inl (cI, 5, .inl f0)), (a5, .inl (cI, 5, .inl f1)), (a7, .inl (cI, 5, .inl f2))] s.heap := hP
  replace hl : lv_has ls 1 [(0, .ref a0)] := hl
  refine lv_aload_n (pc := 0) hx hb dX10_firstLine_0 rfl (lv_at hl 0 rfl) ?_
  refine va_get (pc := 1) (ci := 10) (v := .ref a7) (C := RX10) (T := TX10) (N := 8) hx hb hts iX10 hown hK hP 0 rfl rfl 6 (by decide) (hts _ tw_216) (fun _ h9 => h9) rfl dX10_firstLine_1 ?_
  refine lv_iconst (pc := 4) (v := 0) hx hb dX10_firstLine_4 (by decide) ?_
  refine gd_v (pc := 5) (wc := [(a7, .inl (cI, 5, .inl f2))]) hP hD hS hA [6] rfl (by decide +kernel) (fun _ => by rfl) (fun hPc hDc => va_runS (As := [.ref a7, .int 0]) (rest := []) ⟨hx, hb, hml, hown, hts⟩ (k_J7_fill_53178_5r0_23_n l D cB cC cI cJ _ a7 0 f2 (n_c tI_0 (by decide)) hf_f2) ⟨gcwB hts tw_505 tw_10 tw_905 hd_yJ7_fill_53178 ⟨Nat.le_of_ble_eq_true rfl, Nat.le_of_ble_eq_true rfl⟩, hts _ tw_504⟩ (gpreS hPc hK hDc hN) rfl rfl hl.1 rfl (lv_room (Nat.le_of_ble_eq_true rfl)) dX10_firstLine_5 ⟨Nat.le_of_ble_eq_true rfl, Nat.le_of_ble_eq_true rfl⟩) (fun u_1 H locs hw_3 hP hD hS => ?_)
  replace hP : va_P D gcl [(a0, .inr (10, [.ref a1, .ref a2, .ref a3, .ref a4, .ref a5, .ref a6, .ref a7, .int x0])), (a1, .inl (cJ, 25, .inr (.inl g0))), (a2, .inl (cJ, 5, .inr (.inl g1))), (a3, .inl (cJ, 25, .inr (.inl g2))), (a4, .inl (cI, 5, .inl f0)), (a5, .inl (cI, 5, .inl f1)), (a7, .inl (cI, 5, .inl (u_1.2.1 0)))] H := hP
  replace hD : va_D A [(a0, .inr (10, [.ref a1, .ref a2, .ref a3, .ref a4, .ref a5, .ref a6, .ref a7, .int x0])), (a1, .inl (cJ, 25, .inr (.inl g0))), (a2, .inl (cJ, 5, .inr (.inl g1))), (a3, .inl (cJ, 25, .inr (.inl g2))), (a4, .inl (cI, 5, .inl f0)), (a5, .inl (cI, 5, .inl f1)), (a7, .inl (cI, 5, .inl (u_1.2.1 0)))] := hD
  obtain ⟨hw_4, hw_5⟩ := hw_3
  replace hw_4 : (∀ j, 0 ≤ ((u_1.2.1 0) j).toInt ∧ ((u_1.2.1 0) j).toInt ≤ 23) := hw_4
  replace hw_5 : (fillQ (u_1.2.1 0) (0 : Int32) 5) := hw_5
  have kk0_r_2 := tI_0
  refine lv_aload_n (pc := 8) hx hb dX10_firstLine_8 rfl (lv_at hl 0 rfl) ?_
  refine lv_iconst (pc := 9) (v := 0) hx hb dX10_firstLine_9 (by decide) ?_
  refine gd_v (pc := 10) (wc := [(a0, .inr (10, [.ref a1, .ref a2, .ref a3, .ref a4, .ref a5, .ref a6, .ref a7, .int x0])), (a1, .inl (cJ, 25, .inr (.inl g0))), (a2, .inl (cJ, 5, .inr (.inl g1))), (a3, .inl (cJ, 25, .inr (.inl g2))), (a4, .inl (cI, 5, .inl f0)), (a5, .inl (cI, 5, .inl f1)), (a7, .inl (cI, 5, .inl (u_1.2.1 0)))]) hP hD hS hA [0, 1, 2, 3, 4, 5, 6] rfl (by decide +kernel) (fun _ => by rfl) (fun hPc hDc => va_runV (As := [.int 0]) (rest := []) ⟨hx, hb, hml, hown, hts⟩ (k_X10_settle_e l D cB cC cI cJ _ a0 a1 a2 a3 a4 a5 a6 a7 0 x0 f0 f1 (u_1.2.1 0) g0 g1 g2 (n_c tI_0 (by decide)) h_x0 hw_4 (by first | exact (om_60 h_x0.1 tI_0) | (have k0 := tI_0; omega))) ⟨gcwB hts tw_909 tw_8 tw_906 hd_yX10_settle ⟨Nat.le_of_ble_eq_true rfl, Nat.le_of_ble_eq_true rfl⟩, hts _ tw_908, hts _ tp_33⟩ ⟨gblind, va_recv hK hPc (ci := 10) (q0 := 0) rfl rfl, (gpreS hPc hK hDc hN).2⟩ rfl rfl hl.1 rfl (lv_room (Nat.le_of_ble_eq_true rfl)) dX10_firstLine_10 ⟨Nat.le_of_ble_eq_true rfl, Nat.le_of_ble_eq_true rfl⟩) (fun u_6 H locs hw_8 hP hD hS => ?_)
  replace hP : va_P D gcl [(a0, .inr (10, [.ref a1, .ref a2, .ref a3, .ref a4, .ref a5, .ref a6, .ref a7, .int x0])), (a1, .inl (cJ, 25, .inr (.inl g0))), (a2, .inl (cJ, 5, .inr (.inl (u_6.2.2.1 0)))), (a3, .inl (cJ, 25, .inr (.inl (u_6.2.2.1 1)))), (a4, .inl (cI, 5, .inl f0)), (a5, .inl (cI, 5, .inl f1)), (a7, .inl (cI, 5, .inl (u_1.2.1 0)))] H := hP
  replace hD : va_D A [(a0, .inr (10, [.ref a1, .ref a2, .ref a3, .ref a4, .ref a5, .ref a6, .ref a7, .int x0])), (a1, .inl (cJ, 25, .inr (.inl g0))), (a2, .inl (cJ, 5, .inr (.inl (u_6.2.2.1 0)))), (a3, .inl (cJ, 25, .inr (.inl (u_6.2.2.1 1)))), (a4, .inl (cI, 5, .inl f0)), (a5, .inl (cI, 5, .inl f1)), (a7, .inl (cI, 5, .inl (u_1.2.1 0)))] := hD
  have hw_9 : (∀ T : Nat → Int32, prW g0 T x0.toInt → seW T (xW f0 f1 (u_1.2.1 0)) g1 g2 x0.toInt (0 : Int32).toInt → seW T (xW f0 f1 (u_1.2.1 0)) (u_6.2.2.1 0) (u_6.2.2.1 1) x0.toInt x0.toInt) := hw_8
  have kk0_r_7 := tI_0
  exact hret ((fun _ => 0), (fun k => [(u_1.2.1 0)].getD k (fun _ => 0)), (fun k => [(u_6.2.2.1 0), (u_6.2.2.1 1)].getD k (fun _ => 0)), (fun _ => 0), (fun _ => 0)) dX10_firstLine_13 ⟨hw_4, (show ∀ s : Int, 0 ≤ s → s < 5 → ((u_1.2.1 0) s.toNat).toInt = 0 from (fun s a b => by rw [hw_5 s.toNat (by omega)]; exact tI_0)), (show ∀ T : Nat → Int32, prW g0 T x0.toInt → z0W g1 g2 x0.toInt → seW T (xW f0 f1 (u_1.2.1 0)) (u_6.2.2.1 0) (u_6.2.2.1 1) x0.toInt x0.toInt from fun T p z => hw_9 T p (se_0 z))⟩ (g_psub (wc := [(a0, .inr (10, [.ref a1, .ref a2, .ref a3, .ref a4, .ref a5, .ref a6, .ref a7, .int x0])), (a1, .inl (cJ, 25, .inr (.inl g0))), (a2, .inl (cJ, 5, .inr (.inl (u_6.2.2.1 0)))), (a3, .inl (cJ, 25, .inr (.inl (u_6.2.2.1 1)))), (a4, .inl (cI, 5, .inl f0)), (a5, .inl (cI, 5, .inl f1)), (a7, .inl (cI, 5, .inl (u_1.2.1 0)))]) hP [0, 1, 2, 3, 4, 5, 6] rfl) (hD.sub (ws' := [(a0, .inr (10, [.ref a1, .ref a2, .ref a3, .ref a4, .ref a5, .ref a6, .ref a7, .int x0])), (a1, .inl (cJ, 25, .inr (.inl g0))), (a2, .inl (cJ, 5, .inr (.inl (u_6.2.2.1 0)))), (a3, .inl (cJ, 25, .inr (.inl (u_6.2.2.1 1)))), (a4, .inl (cI, 5, .inl f0)), (a5, .inl (cI, 5, .inl f1)), (a7, .inl (cI, 5, .inl (u_1.2.1 0)))]) [0, 1, 2, 3, 4, 5, 6] (by decide) rfl) hS
