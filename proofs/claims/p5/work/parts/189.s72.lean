set_option maxHeartbeats 4000000 in
set_option maxRecDepth 100000 in
theorem k_X2_takeAway_e (l : Launch) (D : va_G) (cB cC cI cJ : ClassId) (sz : Nat) (a0 a1 a2 a3 a4 : Nat) (x0 x1 x2 x3 x4 x5 x6 x7 : Int32) (f0 : Nat → Int32) (g0 : Nat → Int64) (hp1 : (0 ≤ x0.toInt ∧ x0.toInt ≤ 4)) (hp2 : (0 ≤ x1.toInt ∧ x1.toInt ≤ 4)) (h_x3 : ((-1) ≤ x3.toInt ∧ x3.toInt ≤ 5)) (h_x4 : (0 ≤ x4.toInt ∧ x4.toInt ≤ 39)) (h_x5 : (0 ≤ x5.toInt ∧ x5.toInt ≤ 40)) (h_x6 : (0 ≤ x6.toInt ∧ x6.toInt ≤ 40)) (hr_a0_0 : (x5.toInt + x6.toInt ≤ 40)) (hg__ne : ¬ x0.toInt = x1.toInt) : Met l yX2_takeAway (.code yX2_takeAway cX2_takeAway 5 none :: lw_gd) ({ frames := 2, cells := 0, slots := 0, locals := 47 }) (gPre D [(cB, .byte), (cC, .char), (cI, .int), (cJ, .long)] [.ref a0, .int x0, .int x1, .int x2] [(a0, .inr (2, [.ref a1, .ref a2, .ref a3, .int x3, .int x4, .int x5, .int x6, .int x7])), (a1, .inr (8, [.ref a4])), (a4, .inl (cI, 30, .inl f0)), (a2, .inl (cJ, 25, .inr (.inl g0)))] sz) (va_Qv (fun u => (taQ f0 (u.2.1 0) x0.toInt x1.toInt x2 6)) (gB D (va_A [(a0, .inr (2, [.ref a1, .ref a2, .ref a3, .int x3, .int x4, .int x5, .int x6, .int x7])), (a1, .inr (8, [.ref a4])), (a4, .inl (cI, 30, .inl f0)), (a2, .inl (cJ, 25, .inr (.inl g0)))] sz) (fun u : gEx => [(a0, .inr (2, [.ref a1, .ref a2, .ref a3, .int x3, .int x4, .int x5, .int x6, .int x7])), (a1, .inr (8, [.ref a4])), (a4, .inl (cI, 30, .inl (u.2.1 0))), (a2, .inl (cJ, 25, .inr (.inl (u.2.2.1 0))))])) (va_A [(a0, .inr (2, [.ref a1, .ref a2, .ref a3, .int x3, .int x4, .int x5, .int x6, .int x7])), (a1, .inr (8, [.ref a4])), (a4, .inl (cI, 30, .inl f0)), (a2, .inl (cJ, 25, .inr (.inl g0)))] sz)) 0 0 (va_A [(a0, .inr (2, [.ref a1, .ref a2, .ref a3, .int x3, .int x4, .int x5, .int x6, .int x7])), (a1, .inr (8, [.ref a4])), (a4, .inl (cI, 30, .inl f0)), (a2, .inl (cJ, 25, .inr (.inl g0)))] sz) := by
  refine gOf_v (by decide +kernel) (Nat.le_of_ble_eq_true rfl) ?_
  intro p e s m args below meth c ls A Q hx hb hts hown hml hN hK hP hD hA hl hret
  have hown : s.vm.findClass RX2 = some m.cls := hown
  have hS : va_S A s.heap s.heap [] := va_S.rf
  have hP : va_P D gcl [(a0, .inr (2, [.ref a1, .ref a2, .ref a3, .int x3, .int x4, .int x5, .int x6, .int x7])), (a1, .inr (8, [.ref a4])), (a4, .inl (cI, 30, .inl f0)), (a2, .inl (cJ, 25, .inr (.inl g0)))] s.heap := hP
  have hl : lv_has ls 5 [(0, .ref a0), (1, .int x0), (2, .int x1), (3, .int x2)] := hl
  have rx2 := n_rng x2
  have rx7 := n_rng x7
  refine lv_aload_n (pc := 0) hx hb dX2_takeAway_0 rfl (lv_at hl 0 rfl) ?_
  refine va_get (pc := 1) (ci := 2) (v := .ref a1) (C := RX2) (T := TX2) (N := 8) hx hb hts iX2 hown hK hP 0 rfl rfl 0 (by decide) (hts _ tw_391) (fun _ h9 => h9) rfl dX2_takeAway_1 ?_
  refine lv_iload_n (pc := 4) hx hb dX2_takeAway_4 rfl (lv_at hl 1 rfl) ?_
  refine lv_iload_n (pc := 5) hx hb dX2_takeAway_5 rfl (lv_at hl 2 rfl) ?_
  refine lv_iload_n (pc := 6) hx hb dX2_takeAway_6 rfl (lv_at hl 3 rfl) ?_
  refine gc_v (pc := 7) (wc := [(a1, .inr (8, [.ref a4])), (a4, .inl (cI, 30, .inl f0))]) (wr := [(a0, .inr (2, [.ref a1, .ref a2, .ref a3, .int x3, .int x4, .int x5, .int x6, .int x7])), (a2, .inl (cJ, 25, .inr (.inl g0)))]) hP hD hS hA [1, 2] [0, 3] rfl rfl (by decide) (by decide) (by decide) (fun hPc hDc => va_runV (As := [.int x0, .int x1, .int x2]) (rest := []) ⟨hx, hb, hml, hown, hts⟩ (k_X8_takeAway_e l D cB cC cI cJ _ a1 a4 x0 x1 x2 f0 hp1 hp2 hg__ne) ⟨gcwB hts tw_1065 tw_5 tw_1062 hd_yX8_takeAway ⟨Nat.le_of_ble_eq_true rfl, Nat.le_of_ble_eq_true rfl⟩, hts _ tw_1063, hts _ tw_1064⟩ ⟨gblind, va_recv hK hPc (ci := 8) (q0 := 0) rfl rfl, (gpreS hPc hK hDc hN).2⟩ rfl rfl hl.1 rfl (lv_room (Nat.le_of_ble_eq_true rfl)) dX2_takeAway_7 ⟨Nat.le_of_ble_eq_true rfl, Nat.le_of_ble_eq_true rfl⟩) (fun u_1 H locs hw_3 hP hD hS => ?_)
  have hP : va_P D gcl [(a0, .inr (2, [.ref a1, .ref a2, .ref a3, .int x3, .int x4, .int x5, .int x6, .int x7])), (a2, .inl (cJ, 25, .inr (.inl g0))), (a1, .inr (8, [.ref a4])), (a4, .inl (cI, 30, .inl (u_1.2.1 0)))] H := hP
  have hD : va_D A [(a0, .inr (2, [.ref a1, .ref a2, .ref a3, .int x3, .int x4, .int x5, .int x6, .int x7])), (a2, .inl (cJ, 25, .inr (.inl g0))), (a1, .inr (8, [.ref a4])), (a4, .inl (cI, 30, .inl (u_1.2.1 0)))] := hD
  have hw_4 : (taQ f0 (u_1.2.1 0) x0.toInt x1.toInt x2 6) := hw_3
  refine lv_iconst (pc := 10) (v := 0) hx hb dX2_takeAway_10 (by decide) ?_
  refine lv_istore (pc := 11) (lv' := [(4, .int 0), (0, .ref a0), (1, .int x0), (2, .int x1), (3, .int x2)]) hx hb dX2_takeAway_11 hl (by decide) rfl (fun ls hl => ?_)
  have lp_8 : ∀ (n : Nat) (x_5 : Int32) (g_7 : Nat → Int64) (H : Heap) (locs : List Loc) (ls : Array Slot), (0 ≤ x_5.toInt ∧ x_5.toInt ≤ 2147483647) → (2147483647 - x_5.toInt).toNat < n → va_P D gcl [(a0, .inr (2, [.ref a1, .ref a2, .ref a3, .int x3, .int x4, .int x5, .int x6, .int x7])), (a2, .inl (cJ, 25, .inr (.inl g_7))), (a1, .inr (8, [.ref a4])), (a4, .inl (cI, 30, .inl (u_1.2.1 0)))] H → va_D A [(a0, .inr (2, [.ref a1, .ref a2, .ref a3, .int x3, .int x4, .int x5, .int x6, .int x7])), (a2, .inl (cJ, 25, .inr (.inl g_7))), (a1, .inr (8, [.ref a4])), (a4, .inl (cI, 30, .inl (u_1.2.1 0)))] → va_S A s.heap H locs → lv_has ls 5 [(4, .int x_5), (0, .ref a0), (1, .int x0), (2, .int x1), (3, .int x2)] → W p l e ({ frames := 2, cells := 0, slots := 0, locals := 47 }) s m args below meth c H locs 0 0 Q (F0 m 13 ls []) := by
    intro n
    induction n with
    | zero => intro x_5 g_7 H locs ls hi_6 hmu; exact absurd hmu (Nat.not_lt_zero _)
    | succ n ih_lp_8 =>
      intro x_5 g_7 H locs ls hi_6 hmu_lp_8 hP hD hS hl
      refine lv_iload (pc := 13) hx hb dX2_takeAway_13 (lv_at hl 0 rfl) ?_
      refine lv_iconst (pc := 15) (v := 5) hx hb dX2_takeAway_15 (by decide) ?_
      refine b_icmp_ge (pc := 16) (tgt := 53) hx hb rfl tI_5  dX2_takeAway_16 (by decide) (fun c_9 => ?_) (fun c_9 => ?_)
      ·
        exact hret ((fun _ => 0), (fun k => [(u_1.2.1 0)].getD k (fun _ => 0)), (fun k => [g_7].getD k (fun _ => 0)), (fun _ => 0), (fun _ => 0)) dX2_takeAway_53 (show taQ f0 (u_1.2.1 0) x0.toInt x1.toInt x2 6 from hw_4) (g_psub (wc := [(a0, .inr (2, [.ref a1, .ref a2, .ref a3, .int x3, .int x4, .int x5, .int x6, .int x7])), (a1, .inr (8, [.ref a4])), (a4, .inl (cI, 30, .inl (u_1.2.1 0))), (a2, .inl (cJ, 25, .inr (.inl g_7)))]) hP [0, 2, 3, 1] rfl) (hD.sub (ws' := [(a0, .inr (2, [.ref a1, .ref a2, .ref a3, .int x3, .int x4, .int x5, .int x6, .int x7])), (a1, .inr (8, [.ref a4])), (a4, .inl (cI, 30, .inl (u_1.2.1 0))), (a2, .inl (cJ, 25, .inr (.inl g_7)))]) [0, 2, 3, 1] (by decide) rfl) hS
      ·
        refine lv_aload_n (pc := 19) hx hb dX2_takeAway_19 rfl (lv_at hl 1 rfl) ?_
        refine va_get (pc := 20) (ci := 2) (v := .ref a2) (C := RX2) (T := TX2) (N := 8) hx hb hts iX2 hown hK hP 0 rfl rfl 1 (by decide) (hts _ tw_393) (fun _ h9 => h9) rfl dX2_takeAway_20 ?_
        refine lv_iload_n (pc := 23) hx hb dX2_takeAway_23 rfl (lv_at hl 2 rfl) ?_
        refine lv_iconst (pc := 24) (v := 5) hx hb dX2_takeAway_24 (by decide) ?_
        refine b_imul (pc := 25) hx hb rfl tI_5 (by omega) (by omega) dX2_takeAway_25 (fun x_10 ex_10 => ?_)
        refine lv_iload (pc := 26) hx hb dX2_takeAway_26 (lv_at hl 0 rfl) ?_
        refine b_iadd (pc := 28) hx hb rfl rfl (by omega) (by omega) dX2_takeAway_28 (fun x_11 ex_11 => ?_)
        refine lv_dup2_11 (pc := 29) hx hb dX2_takeAway_29 rfl rfl ?_
        refine va_lald (pc := 30) hx hb hK hP 1 3 rfl rfl (n_in rfl (by omega) (by omega)) dX2_takeAway_30 ?_
        refine lv_topl (fun y_12 ey_12 => ?_)
        have ry_12 := n_rngL y_12
        refine lv_iload_n (pc := 31) hx hb dX2_takeAway_31 rfl (lv_at hl 4 rfl) ?_
        refine b_i2l (pc := 32) hx hb rfl dX2_takeAway_32 (fun y_13 ey_13 => ?_)
        have ry_13 := n_rng x2
        refine lv_aload_n (pc := 33) hx hb dX2_takeAway_33 rfl (lv_at hl 1 rfl) ?_
        refine va_get (pc := 34) (ci := 2) (v := .ref a2) (C := RX2) (T := TX2) (N := 8) hx hb hts iX2 hown hK hP 0 rfl rfl 1 (by decide) (hts _ tw_393) (fun _ h9 => h9) rfl dX2_takeAway_34 ?_
        refine lv_iload_n (pc := 37) hx hb dX2_takeAway_37 rfl (lv_at hl 3 rfl) ?_
        refine lv_iconst (pc := 38) (v := 5) hx hb dX2_takeAway_38 (by decide) ?_
        refine b_imul (pc := 39) hx hb rfl tI_5 (by omega) (by omega) dX2_takeAway_39 (fun x_14 ex_14 => ?_)
        refine lv_iload (pc := 40) hx hb dX2_takeAway_40 (lv_at hl 0 rfl) ?_
        refine b_iadd (pc := 42) hx hb rfl rfl (by omega) (by omega) dX2_takeAway_42 (fun x_15 ex_15 => ?_)
        refine va_lald (pc := 43) hx hb hK hP 1 3 rfl rfl (n_in rfl (by omega) (by omega)) dX2_takeAway_43 ?_
        refine lv_topl (fun y_16 ey_16 => ?_)
        have ry_16 := n_rngL y_16
        refine lv_lmul (pc := 44) hx hb dX2_takeAway_44 ?_
        refine lv_topl (fun y_17 _ => ?_)
        have ry_17 := n_rngL y_17
        refine lv_lsub (pc := 45) hx hb dX2_takeAway_45 ?_
        refine lv_topl (fun y_18 _ => ?_)
        have ry_18 := n_rngL y_18
        refine g_lastore (pc := 46) hx hb hK hP hD hS 1 3 rfl rfl (n_in rfl (by omega) (by omega)) dX2_takeAway_46 (fun g_19 H locs hP hD hS => ?_)
        have hP : va_P D gcl [(a0, .inr (2, [.ref a1, .ref a2, .ref a3, .int x3, .int x4, .int x5, .int x6, .int x7])), (a2, .inl (cJ, 25, .inr (.inl g_19))), (a1, .inr (8, [.ref a4])), (a4, .inl (cI, 30, .inl (u_1.2.1 0)))] H := hP
        have hD : va_D A [(a0, .inr (2, [.ref a1, .ref a2, .ref a3, .int x3, .int x4, .int x5, .int x6, .int x7])), (a2, .inl (cJ, 25, .inr (.inl g_19))), (a1, .inr (8, [.ref a4])), (a4, .inl (cI, 30, .inl (u_1.2.1 0)))] := hD
        refine b_iinc (pc := 47) hx hb dX2_takeAway_47 hl (k := 0) rfl rfl tI_1 (by omega) (by omega) (by decide) (fun x_20 ex_20 ls hl => ?_)
        have hl : lv_has ls 5 [(4, .int x_20), (0, .ref a0), (1, .int x0), (2, .int x1), (3, .int x2)] := hl
        refine lv_goto (pc := 50) (tgt := 13) hx hb dX2_takeAway_50 (by decide) ?_
        exact ih_lp_8 x_20 g_19 _ _ ls (by omega) (by omega) hP hD hS (lv_sub hl [0, 1, 2, 3, 4] rfl)
  exact lp_8 _ 0 g0 _ _ ls (n_c tI_0 (by decide)) (Nat.lt_succ_self _) hP hD hS (lv_sub hl [0, 1, 2, 3, 4] rfl)
set_option maxHeartbeats 4000000 in
set_option maxRecDepth 100000 in
theorem k_X2_makeStep (l : Launch) (D : va_G) (cB cC cI cJ : ClassId) (sz : Nat) (a0 a1 a2 a3 a4 : Nat) (x0 x1 x2 x3 x4 : Int32) (f0 f1 : Nat → Int32) (g0 : Nat → Int64) (h_x0 : ((-1) ≤ x0.toInt ∧ x0.toInt ≤ 5)) (h_x1 : (0 ≤ x1.toInt ∧ x1.toInt ≤ 39)) (h_x2 : (0 ≤ x2.toInt ∧ x2.toInt ≤ 40)) (h_x3 : (0 ≤ x3.toInt ∧ x3.toInt ≤ 40)) (hr_a0_0 : (x2.toInt + x3.toInt ≤ 40)) (hg_led : LedOK f0 f1 x1.toInt x2.toInt x3.toInt) : Met l yX2_makeStep (.code yX2_makeStep cX2_makeStep 4 (some .boolean) :: lw_gd) ({ frames := 3, cells := 0, slots := 0, locals := 71 }) (gPre D [(cB, .byte), (cC, .char), (cI, .int), (cJ, .long)] [.ref a0] [(a0, .inr (2, [.ref a1, .ref a2, .ref a3, .int x0, .int x1, .int x2, .int x3, .int x4])), (a1, .inr (8, [.ref a4])), (a4, .inl (cI, 30, .inl f0)), (a3, .inl (cI, 120, .inl f1)), (a2, .inl (cJ, 25, .inr (.inl g0)))] sz) (va_Qi (fun r u => (0 ≤ r.toInt ∧ r.toInt ≤ 1) ∧ (0 ≤ (u.2.2.2.1 0).toInt ∧ (u.2.2.2.1 0).toInt ≤ 39) ∧ (0 ≤ (u.2.2.2.1 1).toInt ∧ (u.2.2.2.1 1).toInt ≤ 40) ∧ (0 ≤ (u.2.2.2.1 2).toInt ∧ (u.2.2.2.1 2).toInt ≤ 40) ∧ ((u.2.2.2.1 1).toInt + (u.2.2.2.1 2).toInt ≤ 40) ∧ (LedOK (u.2.1 0) (u.2.1 1) (u.2.2.2.1 0).toInt (u.2.2.2.1 1).toInt (u.2.2.2.1 2).toInt)) (gB D (va_A [(a0, .inr (2, [.ref a1, .ref a2, .ref a3, .int x0, .int x1, .int x2, .int x3, .int x4])), (a1, .inr (8, [.ref a4])), (a4, .inl (cI, 30, .inl f0)), (a3, .inl (cI, 120, .inl f1)), (a2, .inl (cJ, 25, .inr (.inl g0)))] sz) (fun u : gEx => [(a0, .inr (2, [.ref a1, .ref a2, .ref a3, .int x0, .int (u.2.2.2.1 0), .int (u.2.2.2.1 1), .int (u.2.2.2.1 2), .int (u.2.2.2.1 3)])), (a1, .inr (8, [.ref a4])), (a4, .inl (cI, 30, .inl (u.2.1 0))), (a3, .inl (cI, 120, .inl (u.2.1 1))), (a2, .inl (cJ, 25, .inr (.inl (u.2.2.1 0))))])) (va_A [(a0, .inr (2, [.ref a1, .ref a2, .ref a3, .int x0, .int x1, .int x2, .int x3, .int x4])), (a1, .inr (8, [.ref a4])), (a4, .inl (cI, 30, .inl f0)), (a3, .inl (cI, 120, .inl f1)), (a2, .inl (cJ, 25, .inr (.inl g0)))] sz)) 0 0 (va_A [(a0, .inr (2, [.ref a1, .ref a2, .ref a3, .int x0, .int x1, .int x2, .int x3, .int x4])), (a1, .inr (8, [.ref a4])), (a4, .inl (cI, 30, .inl f0)), (a3, .inl (cI, 120, .inl f1)), (a2, .inl (cJ, 25, .inr (.inl g0)))] sz) := by
  refine gOf_z (by decide +kernel) (Nat.le_of_ble_eq_true rfl) ?_
  intro p e s m args below meth c ls A Q hx hb hts hown hml hN hK hP hD hA hl hret
  have hown : s.vm.findClass RX2 = some m.cls := hown
  have hS : va_S A s.heap s.heap [] := va_S.rf
  have hP : va_P D gcl [(a0, .inr (2, [.ref a1, .ref a2, .ref a3, .int x0, .int x1, .int x2, .int x3, .int x4])), (a1, .inr (8, [.ref a4])), (a4, .inl (cI, 30, .inl f0)), (a3, .inl (cI, 120, .inl f1)), (a2, .inl (cJ, 25, .inr (.inl g0)))] s.heap := hP
  have hl : lv_has ls 4 [(0, .ref a0)] := hl
  have rx4 := n_rng x4
  refine lv_aload_n (pc := 0) hx hb dX2_makeStep_0 rfl (lv_at hl 0 rfl) ?_
  refine va_get (pc := 1) (ci := 2) (v := .int x4) (C := RX2) (T := TX2) (N := 8) hx hb hts iX2 hown hK hP 0 rfl rfl 7 (by decide) (hts _ tw_401) (fun _ h9 => h9) rfl dX2_makeStep_1 ?_
  refine lv_sipush (pc := 4) (v := 200) hx hb dX2_makeStep_4 (by decide) ?_
  refine b_icmp_lt (pc := 7) (tgt := 12) hx hb rfl tI_200  dX2_makeStep_7 (by decide) (fun c_1 => ?_) (fun c_1 => ?_)
  ·
    refine lv_iconst (pc := 12) (v := 0) hx hb dX2_makeStep_12 (by decide) ?_
    refine lv_istore_n (pc := 13) (lv' := [(1, .int 0), (0, .ref a0)]) hx hb dX2_makeStep_13 rfl hl (by decide) rfl (fun ls hl => ?_)
    have lp_4 : ∀ (n : Nat) (x_2 : Int32) (H : Heap) (locs : List Loc) (ls : Array Slot), (0 ≤ x_2.toInt ∧ x_2.toInt ≤ 2147483647) → (2147483647 - x_2.toInt).toNat < n → va_P D gcl [(a0, .inr (2, [.ref a1, .ref a2, .ref a3, .int x0, .int x1, .int x2, .int x3, .int x4])), (a1, .inr (8, [.ref a4])), (a4, .inl (cI, 30, .inl f0)), (a3, .inl (cI, 120, .inl f1)), (a2, .inl (cJ, 25, .inr (.inl g0)))] H → va_D A [(a0, .inr (2, [.ref a1, .ref a2, .ref a3, .int x0, .int x1, .int x2, .int x3, .int x4])), (a1, .inr (8, [.ref a4])), (a4, .inl (cI, 30, .inl f0)), (a3, .inl (cI, 120, .inl f1)), (a2, .inl (cJ, 25, .inr (.inl g0)))] → va_S A s.heap H locs → lv_has ls 4 [(1, .int x_2), (0, .ref a0)] → W p l e ({ frames := 3, cells := 0, slots := 0, locals := 71 }) s m args below meth c H locs 0 0 Q (F0 m 14 ls []) := by
      intro n
      induction n with
      | zero => intro x_2 H locs ls hi_3 hmu; exact absurd hmu (Nat.not_lt_zero _)
      | succ n ih_lp_4 =>
        intro x_2 H locs ls hi_3 hmu_lp_4 hP hD hS hl
        refine lv_iload_n (pc := 14) hx hb dX2_makeStep_14 rfl (lv_at hl 0 rfl) ?_
        refine lv_aload_n (pc := 15) hx hb dX2_makeStep_15 rfl (lv_at hl 1 rfl) ?_
        refine va_get (pc := 16) (ci := 2) (v := .int x0) (C := RX2) (T := TX2) (N := 8) hx hb hts iX2 hown hK hP 0 rfl rfl 3 (by decide) (hts _ tw_395) (fun _ h9 => h9) rfl dX2_makeStep_16 ?_
        refine b_icmp_ge (pc := 19) (tgt := 90) hx hb rfl rfl  dX2_makeStep_19 (by decide) (fun c_5 => ?_) (fun c_5 => ?_)
        ·
          refine lv_iconst (pc := 90) (v := 0) hx hb dX2_makeStep_90 (by decide) ?_
          have k9 := tI_0
          exact hret 0 ((fun _ => 0), (fun k => [f0, f1].getD k (fun _ => 0)), (fun k => [g0].getD k (fun _ => 0)), (fun k => [x1, x2, x3, x4].getD k 0), (fun _ => 0)) dX2_makeStep_91 ⟨(by have k9 := tI_0; omega), ⟨(show (0 ≤ (0 : Int32).toInt ∧ (0 : Int32).toInt ≤ 1) from (n_c tI_0 (by decide))), (show (0 ≤ (x1 : Int32).toInt ∧ (x1 : Int32).toInt ≤ 39) from h_x1), (show (0 ≤ (x2 : Int32).toInt ∧ (x2 : Int32).toInt ≤ 40) from h_x2), (show (0 ≤ (x3 : Int32).toInt ∧ (x3 : Int32).toInt ≤ 40) from h_x3), (show ((x2 : Int32).toInt + (x3 : Int32).toInt ≤ 40) from hr_a0_0), (show LedOK f0 f1 x1.toInt x2.toInt x3.toInt from hg_led)⟩⟩ (g_psub (wc := [(a0, .inr (2, [.ref a1, .ref a2, .ref a3, .int x0, .int x1, .int x2, .int x3, .int x4])), (a1, .inr (8, [.ref a4])), (a4, .inl (cI, 30, .inl f0)), (a3, .inl (cI, 120, .inl f1)), (a2, .inl (cJ, 25, .inr (.inl g0)))]) hP [0, 1, 2, 3, 4] rfl) (hD.sub (ws' := [(a0, .inr (2, [.ref a1, .ref a2, .ref a3, .int x0, .int x1, .int x2, .int x3, .int x4])), (a1, .inr (8, [.ref a4])), (a4, .inl (cI, 30, .inl f0)), (a3, .inl (cI, 120, .inl f1)), (a2, .inl (cJ, 25, .inr (.inl g0)))]) [0, 1, 2, 3, 4] (by decide) rfl) hS
        ·
          refine lv_iconst (pc := 22) (v := 0) hx hb dX2_makeStep_22 (by decide) ?_
          refine lv_istore_n (pc := 23) (lv' := [(2, .int 0), (1, .int x_2), (0, .ref a0)]) hx hb dX2_makeStep_23 rfl hl (by decide) rfl (fun ls hl => ?_)
          have lp_8 : ∀ (n : Nat) (x_6 : Int32) (H : Heap) (locs : List Loc) (ls : Array Slot), (0 ≤ x_6.toInt ∧ x_6.toInt ≤ 2147483647) → (2147483647 - x_6.toInt).toNat < n → va_P D gcl [(a0, .inr (2, [.ref a1, .ref a2, .ref a3, .int x0, .int x1, .int x2, .int x3, .int x4])), (a1, .inr (8, [.ref a4])), (a4, .inl (cI, 30, .inl f0)), (a3, .inl (cI, 120, .inl f1)), (a2, .inl (cJ, 25, .inr (.inl g0)))] H → va_D A [(a0, .inr (2, [.ref a1, .ref a2, .ref a3, .int x0, .int x1, .int x2, .int x3, .int x4])), (a1, .inr (8, [.ref a4])), (a4, .inl (cI, 30, .inl f0)), (a3, .inl (cI, 120, .inl f1)), (a2, .inl (cJ, 25, .inr (.inl g0)))] → va_S A s.heap H locs → lv_has ls 4 [(2, .int x_6), (1, .int x_2), (0, .ref a0)] → W p l e ({ frames := 3, cells := 0, slots := 0, locals := 71 }) s m args below meth c H locs 0 0 Q (F0 m 24 ls []) := by
            intro n
            induction n with
            | zero => intro x_6 H locs ls hi_7 hmu; exact absurd hmu (Nat.not_lt_zero _)
            | succ n ih_lp_8 =>
              intro x_6 H locs ls hi_7 hmu_lp_8 hP hD hS hl
              refine lv_iload_n (pc := 24) hx hb dX2_makeStep_24 rfl (lv_at hl 0 rfl) ?_
              refine lv_aload_n (pc := 25) hx hb dX2_makeStep_25 rfl (lv_at hl 2 rfl) ?_
              refine va_get (pc := 26) (ci := 2) (v := .int x0) (C := RX2) (T := TX2) (N := 8) hx hb hts iX2 hown hK hP 0 rfl rfl 3 (by decide) (hts _ tw_395) (fun _ h9 => h9) rfl dX2_makeStep_26 ?_
              refine b_icmp_ge (pc := 29) (tgt := 84) hx hb rfl rfl  dX2_makeStep_29 (by decide) (fun c_9 => ?_) (fun c_9 => ?_)
              ·
                refine b_iinc (pc := 84) hx hb dX2_makeStep_84 hl (k := 1) rfl rfl tI_1 (by omega) (by omega) (by decide) (fun x_10 ex_10 ls hl => ?_)
                have hl : lv_has ls 4 [(1, .int x_10), (2, .int x_6), (0, .ref a0)] := hl
                refine lv_goto (pc := 87) (tgt := 14) hx hb dX2_makeStep_87 (by decide) ?_
                exact ih_lp_4 x_10 _ _ ls (by omega) (by omega) hP hD hS (lv_sub hl [0, 2] rfl)
              ·
                refine lv_iload_n (pc := 32) hx hb dX2_makeStep_32 rfl (lv_at hl 1 rfl) ?_
                refine lv_iload_n (pc := 33) hx hb dX2_makeStep_33 rfl (lv_at hl 0 rfl) ?_
                refine b_icmp_ne (pc := 34) (tgt := 41) hx hb rfl rfl  dX2_makeStep_34 (by decide) (fun c_11 => ?_) (fun c_11 => ?_)
                ·
                  refine lv_aload_n (pc := 41) hx hb dX2_makeStep_41 rfl (lv_at hl 2 rfl) ?_
                  refine lv_iload_n (pc := 42) hx hb dX2_makeStep_42 rfl (lv_at hl 1 rfl) ?_
                  refine lv_iload_n (pc := 43) hx hb dX2_makeStep_43 rfl (lv_at hl 0 rfl) ?_
                  refine gc_i (pc := 44) (wc := [(a0, .inr (2, [.ref a1, .ref a2, .ref a3, .int x0, .int x1, .int x2, .int x3, .int x4])), (a1, .inr (8, [.ref a4])), (a4, .inl (cI, 30, .inl f0))]) (wr := [(a3, .inl (cI, 120, .inl f1)), (a2, .inl (cJ, 25, .inr (.inl g0)))]) hP hD hS hA [0, 1, 2] [3, 4] rfl rfl (by decide) (by decide) (by decide) (fun hPc hDc => va_runV (As := [.int x_2, .int x_6]) (rest := []) ⟨hx, hb, hml, hown, hts⟩ (k_X2_timesIn l D cB cC cI cJ _ a0 a1 a2 a3 a4 x_2 x_6 x0 x1 x2 x3 x4 f0 (by  omega) (by  omega) h_x0 h_x1 h_x2 h_x3 hr_a0_0 (Led_SH hg_led (by omega) (by omega))) ⟨gcwB hts tw_1047 tw_13 tw_1044 hd_yX2_timesIn ⟨Nat.le_of_ble_eq_true rfl, Nat.le_of_ble_eq_true rfl⟩, hts _ tw_1046, hts _ tp_41⟩ ⟨gblind, va_recv hK hPc (ci := 2) (q0 := 0) rfl rfl, (gpreS hPc hK hDc hN).2⟩ rfl rfl hl.1 rfl (lv_room (Nat.le_of_ble_eq_true rfl)) dX2_makeStep_44 ⟨Nat.le_of_ble_eq_true rfl, Nat.le_of_ble_eq_true rfl⟩) (fun r_13 u_12 H locs hw_14 hP hD hS => ?_)
                  have hP : va_P D gcl [(a3, .inl (cI, 120, .inl f1)), (a2, .inl (cJ, 25, .inr (.inl g0))), (a0, .inr (2, [.ref a1, .ref a2, .ref a3, .int x0, .int x1, .int x2, .int x3, .int x4])), (a1, .inr (8, [.ref a4])), (a4, .inl (cI, 30, .inl f0))] H := hP
                  have hD : va_D A [(a3, .inl (cI, 120, .inl f1)), (a2, .inl (cJ, 25, .inr (.inl g0))), (a0, .inr (2, [.ref a1, .ref a2, .ref a3, .int x0, .int x1, .int x2, .int x3, .int x4])), (a1, .inr (8, [.ref a4])), (a4, .inl (cI, 30, .inl f0))] := hD
                  obtain ⟨hw_15, hw_16⟩ := hw_14
                  have hw_15 : ((-1199999) ≤ r_13.toInt ∧ r_13.toInt ≤ 1199999) := hw_15
                  have hw_16 : (tmQ (dtn f0 x_2.toInt x_6.toInt 6) (dtn f0 x_6.toInt x_6.toInt 6) r_13.toInt) := hw_16
                  have rr_13 := n_rng r_13
                  refine lv_istore_n (pc := 47) (lv' := [(3, .int r_13), (2, .int x_6), (1, .int x_2), (0, .ref a0)]) hx hb dX2_makeStep_47 rfl hl (by decide) rfl (fun ls hl => ?_)
                  refine lv_iload_n (pc := 48) hx hb dX2_makeStep_48 rfl (lv_at hl 0 rfl) ?_
                  refine b_if_eq (pc := 49) (tgt := 78) hx hb rfl  dX2_makeStep_49 (by decide) (fun c_17 => ?_) (fun c_17 => ?_)
                  ·
                    refine b_iinc (pc := 78) hx hb dX2_makeStep_78 hl (k := 1) rfl rfl tI_1 (by omega) (by omega) (by decide) (fun x_18 ex_18 ls hl => ?_)
                    have hl : lv_has ls 4 [(2, .int x_18), (3, .int r_13), (1, .int x_2), (0, .ref a0)] := hl
                    refine lv_goto (pc := 81) (tgt := 24) hx hb dX2_makeStep_81 (by decide) ?_
                    exact ih_lp_8 x_18 _ _ ls (by omega) (by omega) (g_psub hP [2, 3, 4, 0, 1] rfl) (hD.sub [2, 3, 4, 0, 1] (by decide) rfl) hS (lv_sub hl [0, 2, 3] rfl)
                  ·
                    refine lv_aload_n (pc := 52) hx hb dX2_makeStep_52 rfl (lv_at hl 3 rfl) ?_
                    refine lv_iload_n (pc := 53) hx hb dX2_makeStep_53 rfl (lv_at hl 2 rfl) ?_
                    refine lv_iload_n (pc := 54) hx hb dX2_makeStep_54 rfl (lv_at hl 1 rfl) ?_
                    refine lv_iload_n (pc := 55) hx hb dX2_makeStep_55 rfl (lv_at hl 0 rfl) ?_
                    refine gc_v (pc := 56) (wc := [(a0, .inr (2, [.ref a1, .ref a2, .ref a3, .int x0, .int x1, .int x2, .int x3, .int x4])), (a3, .inl (cI, 120, .inl f1))]) (wr := [(a2, .inl (cJ, 25, .inr (.inl g0))), (a1, .inr (8, [.ref a4])), (a4, .inl (cI, 30, .inl f0))]) hP hD hS hA [2, 0] [1, 3, 4] rfl rfl (by decide) (by decide) (by decide) (fun hPc hDc => va_runV (As := [.int x_2, .int x_6, .int r_13]) (rest := []) ⟨hx, hb, hml, hown, hts⟩ (k_X2_remember l D cB cC cI cJ _ a0 a1 a2 a3 x_2 x_6 r_13 x0 x1 x2 x3 x4 f1 (by  omega) (by  omega) h_x0 h_x1 h_x2 h_x3 hr_a0_0) ⟨gcwB hts tw_1053 tw_13 tw_1050 hd_yX2_remember ⟨Nat.le_of_ble_eq_true rfl, Nat.le_of_ble_eq_true rfl⟩, hts _ tw_1052, hts _ tp_42⟩ ⟨gblind, va_recv hK hPc (ci := 2) (q0 := 0) rfl rfl, (gpreS hPc hK hDc hN).2⟩ rfl rfl hl.1 rfl (lv_room (Nat.le_of_ble_eq_true rfl)) dX2_makeStep_56 ⟨Nat.le_of_ble_eq_true rfl, Nat.le_of_ble_eq_true rfl⟩) (fun u_19 H locs hw_21 hP hD hS => ?_)
                    have hP : va_P D gcl [(a2, .inl (cJ, 25, .inr (.inl g0))), (a1, .inr (8, [.ref a4])), (a4, .inl (cI, 30, .inl f0)), (a0, .inr (2, [.ref a1, .ref a2, .ref a3, .int x0, .int (u_19.2.2.2.1 0), .int (u_19.2.2.2.1 1), .int 0, .int x4])), (a3, .inl (cI, 120, .inl (u_19.2.1 0)))] H := hP
                    have hD : va_D A [(a2, .inl (cJ, 25, .inr (.inl g0))), (a1, .inr (8, [.ref a4])), (a4, .inl (cI, 30, .inl f0)), (a0, .inr (2, [.ref a1, .ref a2, .ref a3, .int x0, .int (u_19.2.2.2.1 0), .int (u_19.2.2.2.1 1), .int 0, .int x4])), (a3, .inl (cI, 120, .inl (u_19.2.1 0)))] := hD
                    obtain ⟨hw_22, hw_23, hw_24, hw_25, hw_26⟩ := hw_21
                    have hw_22 : (0 ≤ (u_19.2.2.2.1 0).toInt ∧ (u_19.2.2.2.1 0).toInt ≤ 39) := hw_22
                    have hw_23 : (0 ≤ (u_19.2.2.2.1 1).toInt ∧ (u_19.2.2.2.1 1).toInt ≤ 40) := hw_23
                    have hw_24 : ((u_19.2.2.2.1 1).toInt + (0 : Int32).toInt ≤ 40) := hw_24
                    have hw_25 : (remQ f1 (u_19.2.1 0) x1.toInt (u_19.2.2.2.1 0).toInt x2.toInt (u_19.2.2.2.1 1).toInt x_2 x_6 r_13) := hw_25
                    have hw_26 : ((0 : Int32).toInt = 0) := hw_26
                    refine lv_aload_n (pc := 59) hx hb dX2_makeStep_59 rfl (lv_at hl 3 rfl) ?_
                    refine lv_iload_n (pc := 60) hx hb dX2_makeStep_60 rfl (lv_at hl 2 rfl) ?_
                    refine lv_iload_n (pc := 61) hx hb dX2_makeStep_61 rfl (lv_at hl 1 rfl) ?_
                    refine lv_iload_n (pc := 62) hx hb dX2_makeStep_62 rfl (lv_at hl 0 rfl) ?_
                    refine gc_v (pc := 63) (wc := [(a0, .inr (2, [.ref a1, .ref a2, .ref a3, .int x0, .int (u_19.2.2.2.1 0), .int (u_19.2.2.2.1 1), .int 0, .int x4])), (a1, .inr (8, [.ref a4])), (a4, .inl (cI, 30, .inl f0)), (a2, .inl (cJ, 25, .inr (.inl g0)))]) (wr := [(a3, .inl (cI, 120, .inl (u_19.2.1 0)))]) hP hD hS hA [3, 1, 2, 0] [4] rfl rfl (by decide) (by decide) (by decide) (fun hPc hDc => va_runV (As := [.int x_2, .int x_6, .int r_13]) (rest := []) ⟨hx, hb, hml, hown, hts⟩ (k_X2_takeAway_e l D cB cC cI cJ _ a0 a1 a2 a3 a4 x_2 x_6 r_13 x0 (u_19.2.2.2.1 0) (u_19.2.2.2.1 1) 0 x4 f0 g0 (by have k0 := tI_0; omega) (by have k0 := tI_0; omega) h_x0 hw_22 hw_23 (n_c tI_0 (by decide)) hw_24 (by have k0 := tI_0; omega)) ⟨gcwB hts tw_1061 tw_13 tw_1058 hd_yX2_takeAway ⟨Nat.le_of_ble_eq_true rfl, Nat.le_of_ble_eq_true rfl⟩, hts _ tw_1060, hts _ tp_44⟩ ⟨gblind, va_recv hK hPc (ci := 2) (q0 := 0) rfl rfl, (gpreS hPc hK hDc hN).2⟩ rfl rfl hl.1 rfl (lv_room (Nat.le_of_ble_eq_true rfl)) dX2_makeStep_63 ⟨Nat.le_of_ble_eq_true rfl, Nat.le_of_ble_eq_true rfl⟩) (fun u_27 H locs hw_29 hP hD hS => ?_)
                    have hP : va_P D gcl [(a3, .inl (cI, 120, .inl (u_19.2.1 0))), (a0, .inr (2, [.ref a1, .ref a2, .ref a3, .int x0, .int (u_19.2.2.2.1 0), .int (u_19.2.2.2.1 1), .int 0, .int x4])), (a1, .inr (8, [.ref a4])), (a4, .inl (cI, 30, .inl (u_27.2.1 0))), (a2, .inl (cJ, 25, .inr (.inl (u_27.2.2.1 0))))] H := hP
                    have hD : va_D A [(a3, .inl (cI, 120, .inl (u_19.2.1 0))), (a0, .inr (2, [.ref a1, .ref a2, .ref a3, .int x0, .int (u_19.2.2.2.1 0), .int (u_19.2.2.2.1 1), .int 0, .int x4])), (a1, .inr (8, [.ref a4])), (a4, .inl (cI, 30, .inl (u_27.2.1 0))), (a2, .inl (cJ, 25, .inr (.inl (u_27.2.2.1 0))))] := hD
                    have hw_30 : (taQ f0 (u_27.2.1 0) x_2.toInt x_6.toInt r_13 6) := hw_29
                    have kk0_r_28 := tI_0
                    refine lv_aload_n (pc := 66) hx hb dX2_makeStep_66 rfl (lv_at hl 3 rfl) ?_
                    refine lv_dup (pc := 67) hx hb dX2_makeStep_67 rfl ?_
                    refine va_get (pc := 68) (ci := 2) (v := .int x4) (C := RX2) (T := TX2) (N := 8) hx hb hts iX2 hown hK hP 1 rfl rfl 7 (by decide) (hts _ tw_401) (fun _ h9 => h9) rfl dX2_makeStep_68 ?_
                    refine lv_iconst (pc := 71) (v := 1) hx hb dX2_makeStep_71 (by decide) ?_
                    refine b_iadd (pc := 72) hx hb rfl tI_1 (by omega) (by omega) dX2_makeStep_72 (fun x_31 ex_31 => ?_)
                    refine va_put (pc := 73) (ci := 2) (v := .int x_31) (ty := .int) (C := RX2) (T := TX2) (N := 8) hx hb hts iX2 tyX2 tyX2_ok nmX2 hown hK hP hD hS 1 rfl rfl 7 (by decide) (hts _ tw_401) (fun _ h9 => h9) rfl (by decide +kernel) rfl rfl (Nat.le_of_ble_eq_true rfl) dX2_makeStep_73 (fun H locs hP hD hS => ?_)
                    have hP : va_P D gcl [(a3, .inl (cI, 120, .inl (u_19.2.1 0))), (a0, .inr (2, [.ref a1, .ref a2, .ref a3, .int x0, .int (u_19.2.2.2.1 0), .int (u_19.2.2.2.1 1), .int 0, .int x_31])), (a1, .inr (8, [.ref a4])), (a4, .inl (cI, 30, .inl (u_27.2.1 0))), (a2, .inl (cJ, 25, .inr (.inl (u_27.2.2.1 0))))] H := hP
                    have hD : va_D A [(a3, .inl (cI, 120, .inl (u_19.2.1 0))), (a0, .inr (2, [.ref a1, .ref a2, .ref a3, .int x0, .int (u_19.2.2.2.1 0), .int (u_19.2.2.2.1 1), .int 0, .int x_31])), (a1, .inr (8, [.ref a4])), (a4, .inl (cI, 30, .inl (u_27.2.1 0))), (a2, .inl (cJ, 25, .inr (.inl (u_27.2.2.1 0))))] := hD
                    refine lv_iconst (pc := 76) (v := 1) hx hb dX2_makeStep_76 (by decide) ?_
                    have k9 := tI_1
                    have k8_0 := tI_0
                    exact hret 1 ((fun _ => 0), (fun k => [(u_27.2.1 0), (u_19.2.1 0)].getD k (fun _ => 0)), (fun k => [(u_27.2.2.1 0)].getD k (fun _ => 0)), (fun k => [(u_19.2.2.2.1 0), (u_19.2.2.2.1 1), 0, x_31].getD k 0), (fun _ => 0)) dX2_makeStep_77 ⟨(by have k9 := tI_1; have k8_0 := tI_0; omega), ⟨(show (0 ≤ (1 : Int32).toInt ∧ (1 : Int32).toInt ≤ 1) from (n_c tI_1 (by decide))), (show (0 ≤ ((u_19.2.2.2.1 0) : Int32).toInt ∧ ((u_19.2.2.2.1 0) : Int32).toInt ≤ 39) from hw_22), (show (0 ≤ ((u_19.2.2.2.1 1) : Int32).toInt ∧ ((u_19.2.2.2.1 1) : Int32).toInt ≤ 40) from hw_23), (show (0 ≤ (0 : Int32).toInt ∧ (0 : Int32).toInt ≤ 40) from (n_c tI_0 (by decide))), (show (((u_19.2.2.2.1 1) : Int32).toInt + (0 : Int32).toInt ≤ 40) from hw_24), (show LedOK (u_27.2.1 0) (u_19.2.1 0) (u_19.2.2.2.1 0).toInt (u_19.2.2.2.1 1).toInt (0 : Int32).toInt from Led_push hg_led hw_25 (by omega) (by omega) (by omega) (by omega) (by omega) (by omega) (by omega) hw_30 hw_16)⟩⟩ (g_psub (wc := [(a0, .inr (2, [.ref a1, .ref a2, .ref a3, .int x0, .int (u_19.2.2.2.1 0), .int (u_19.2.2.2.1 1), .int 0, .int x_31])), (a1, .inr (8, [.ref a4])), (a4, .inl (cI, 30, .inl (u_27.2.1 0))), (a3, .inl (cI, 120, .inl (u_19.2.1 0))), (a2, .inl (cJ, 25, .inr (.inl (u_27.2.2.1 0))))]) hP [1, 2, 3, 0, 4] rfl) (hD.sub (ws' := [(a0, .inr (2, [.ref a1, .ref a2, .ref a3, .int x0, .int (u_19.2.2.2.1 0), .int (u_19.2.2.2.1 1), .int 0, .int x_31])), (a1, .inr (8, [.ref a4])), (a4, .inl (cI, 30, .inl (u_27.2.1 0))), (a3, .inl (cI, 120, .inl (u_19.2.1 0))), (a2, .inl (cJ, 25, .inr (.inl (u_27.2.2.1 0))))]) [1, 2, 3, 0, 4] (by decide) rfl) hS
                ·
                  refine lv_iconst (pc := 37) (v := 0) hx hb dX2_makeStep_37 (by decide) ?_
                  refine lv_goto (pc := 38) (tgt := 47) hx hb dX2_makeStep_38 (by decide) ?_
                  refine lv_istore_n (pc := 47) (lv' := [(3, .int 0), (2, .int x_6), (1, .int x_2), (0, .ref a0)]) hx hb dX2_makeStep_47 rfl hl (by decide) rfl (fun ls hl => ?_)
                  refine lv_iload_n (pc := 48) hx hb dX2_makeStep_48 rfl (lv_at hl 0 rfl) ?_
                  refine b_if_eq (pc := 49) (tgt := 78) hx hb tI_0  dX2_makeStep_49 (by decide) (fun c_32 => ?_) (fun c_32 => absurd c_32 (by omega))
                  refine b_iinc (pc := 78) hx hb dX2_makeStep_78 hl (k := 1) rfl rfl tI_1 (by omega) (by omega) (by decide) (fun x_33 ex_33 ls hl => ?_)
                  have hl : lv_has ls 4 [(2, .int x_33), (3, .int 0), (1, .int x_2), (0, .ref a0)] := hl
                  refine lv_goto (pc := 81) (tgt := 24) hx hb dX2_makeStep_81 (by decide) ?_
                  exact ih_lp_8 x_33 _ _ ls (by omega) (by omega) hP hD hS (lv_sub hl [0, 2, 3] rfl)
          exact lp_8 _ 0 _ _ ls (n_c tI_0 (by decide)) (Nat.lt_succ_self _) hP hD hS (lv_sub hl [0, 1, 2] rfl)
    exact lp_4 _ 0 _ _ ls (n_c tI_0 (by decide)) (Nat.lt_succ_self _) hP hD hS (lv_sub hl [0, 1] rfl)
  ·
    refine lv_iconst (pc := 10) (v := 0) hx hb dX2_makeStep_10 (by decide) ?_
    have k9 := tI_0
    exact hret 0 ((fun _ => 0), (fun k => [f0, f1].getD k (fun _ => 0)), (fun k => [g0].getD k (fun _ => 0)), (fun k => [x1, x2, x3, x4].getD k 0), (fun _ => 0)) dX2_makeStep_11 ⟨(by have k9 := tI_0; omega), ⟨(show (0 ≤ (0 : Int32).toInt ∧ (0 : Int32).toInt ≤ 1) from (n_c tI_0 (by decide))), (show (0 ≤ (x1 : Int32).toInt ∧ (x1 : Int32).toInt ≤ 39) from h_x1), (show (0 ≤ (x2 : Int32).toInt ∧ (x2 : Int32).toInt ≤ 40) from h_x2), (show (0 ≤ (x3 : Int32).toInt ∧ (x3 : Int32).toInt ≤ 40) from h_x3), (show ((x2 : Int32).toInt + (x3 : Int32).toInt ≤ 40) from hr_a0_0), (show LedOK f0 f1 x1.toInt x2.toInt x3.toInt from hg_led)⟩⟩ (g_psub (wc := [(a0, .inr (2, [.ref a1, .ref a2, .ref a3, .int x0, .int x1, .int x2, .int x3, .int x4])), (a1, .inr (8, [.ref a4])), (a4, .inl (cI, 30, .inl f0)), (a3, .inl (cI, 120, .inl f1)), (a2, .inl (cJ, 25, .inr (.inl g0)))]) hP [0, 1, 2, 3, 4] rfl) (hD.sub (ws' := [(a0, .inr (2, [.ref a1, .ref a2, .ref a3, .int x0, .int x1, .int x2, .int x3, .int x4])), (a1, .inr (8, [.ref a4])), (a4, .inl (cI, 30, .inl f0)), (a3, .inl (cI, 120, .inl f1)), (a2, .inl (cJ, 25, .inr (.inl g0)))]) [0, 1, 2, 3, 4] (by decide) rfl) hS
set_option maxHeartbeats 4000000 in
set_option maxRecDepth 100000 in
theorem k_X2_makeSteps (l : Launch) (D : va_G) (cB cC cI cJ : ClassId) (sz : Nat) (a0 a1 a2 a3 a4 : Nat) (x0 x1 x2 x3 x4 x5 : Int32) (f0 f1 : Nat → Int32) (g0 : Nat → Int64) (h_x1 : ((-1) ≤ x1.toInt ∧ x1.toInt ≤ 5)) (h_x2 : (0 ≤ x2.toInt ∧ x2.toInt ≤ 39)) (h_x3 : (0 ≤ x3.toInt ∧ x3.toInt ≤ 40)) (h_x4 : (0 ≤ x4.toInt ∧ x4.toInt ≤ 40)) (hr_a0_0 : (x3.toInt + x4.toInt ≤ 40)) (hg_led : LedOK f0 f1 x2.toInt x3.toInt x4.toInt) : Met l yX2_makeSteps (.code yX2_makeSteps cX2_makeSteps 3 (some .int) :: lw_gd) ({ frames := 4, cells := 0, slots := 0, locals := 94 }) (gPre D [(cB, .byte), (cC, .char), (cI, .int), (cJ, .long)] [.ref a0, .int x0] [(a0, .inr (2, [.ref a1, .ref a2, .ref a3, .int x1, .int x2, .int x3, .int x4, .int x5])), (a1, .inr (8, [.ref a4])), (a4, .inl (cI, 30, .inl f0)), (a3, .inl (cI, 120, .inl f1)), (a2, .inl (cJ, 25, .inr (.inl g0)))] sz) (va_Qi (fun r u => (0 ≤ r.toInt ∧ r.toInt ≤ 2147483647) ∧ (0 ≤ (u.2.2.2.1 0).toInt ∧ (u.2.2.2.1 0).toInt ≤ 39) ∧ (0 ≤ (u.2.2.2.1 1).toInt ∧ (u.2.2.2.1 1).toInt ≤ 40) ∧ (0 ≤ (u.2.2.2.1 2).toInt ∧ (u.2.2.2.1 2).toInt ≤ 40) ∧ ((u.2.2.2.1 1).toInt + (u.2.2.2.1 2).toInt ≤ 40) ∧ (LedOK (u.2.1 0) (u.2.1 1) (u.2.2.2.1 0).toInt (u.2.2.2.1 1).toInt (u.2.2.2.1 2).toInt)) (gB D (va_A [(a0, .inr (2, [.ref a1, .ref a2, .ref a3, .int x1, .int x2, .int x3, .int x4, .int x5])), (a1, .inr (8, [.ref a4])), (a4, .inl (cI, 30, .inl f0)), (a3, .inl (cI, 120, .inl f1)), (a2, .inl (cJ, 25, .inr (.inl g0)))] sz) (fun u : gEx => [(a0, .inr (2, [.ref a1, .ref a2, .ref a3, .int x1, .int (u.2.2.2.1 0), .int (u.2.2.2.1 1), .int (u.2.2.2.1 2), .int (u.2.2.2.1 3)])), (a1, .inr (8, [.ref a4])), (a4, .inl (cI, 30, .inl (u.2.1 0))), (a3, .inl (cI, 120, .inl (u.2.1 1))), (a2, .inl (cJ, 25, .inr (.inl (u.2.2.1 0))))])) (va_A [(a0, .inr (2, [.ref a1, .ref a2, .ref a3, .int x1, .int x2, .int x3, .int x4, .int x5])), (a1, .inr (8, [.ref a4])), (a4, .inl (cI, 30, .inl f0)), (a3, .inl (cI, 120, .inl f1)), (a2, .inl (cJ, 25, .inr (.inl g0)))] sz)) 0 0 (va_A [(a0, .inr (2, [.ref a1, .ref a2, .ref a3, .int x1, .int x2, .int x3, .int x4, .int x5])), (a1, .inr (8, [.ref a4])), (a4, .inl (cI, 30, .inl f0)), (a3, .inl (cI, 120, .inl f1)), (a2, .inl (cJ, 25, .inr (.inl g0)))] sz) := by
  refine gOf_i (by decide +kernel) (Nat.le_of_ble_eq_true rfl) ?_
  intro p e s m args below meth c ls A Q hx hb hts hown hml hN hK hP hD hA hl hret
  have hown : s.vm.findClass RX2 = some m.cls := hown
  have hS : va_S A s.heap s.heap [] := va_S.rf
  have hP : va_P D gcl [(a0, .inr (2, [.ref a1, .ref a2, .ref a3, .int x1, .int x2, .int x3, .int x4, .int x5])), (a1, .inr (8, [.ref a4])), (a4, .inl (cI, 30, .inl f0)), (a3, .inl (cI, 120, .inl f1)), (a2, .inl (cJ, 25, .inr (.inl g0)))] s.heap := hP
  have hl : lv_has ls 3 [(0, .ref a0), (1, .int x0)] := hl
  have rx0 := n_rng x0
  have rx5 := n_rng x5
  refine lv_iconst (pc := 0) (v := 0) hx hb dX2_makeSteps_0 (by decide) ?_
  refine lv_istore_n (pc := 1) (lv' := [(2, .int 0), (0, .ref a0), (1, .int x0)]) hx hb dX2_makeSteps_1 rfl hl (by decide) rfl (fun ls hl => ?_)
  have lp_16 : ∀ (n : Nat) (x_1 x_3 x_5 x_7 x_9 : Int32) (f_12 f_13 : Nat → Int32) (g_14 : Nat → Int64) (H : Heap) (locs : List Loc) (ls : Array Slot), (0 ≤ x_1.toInt ∧ x_1.toInt ≤ 2147483647) → (0 ≤ x_3.toInt ∧ x_3.toInt ≤ 39) → (0 ≤ x_5.toInt ∧ x_5.toInt ≤ 40) → (0 ≤ x_7.toInt ∧ x_7.toInt ≤ 40) → (x_5.toInt + x_7.toInt ≤ 40) → (LedOK f_12 f_13 x_3.toInt x_5.toInt x_7.toInt) → (2147483647 - x_1.toInt).toNat < n → va_P D gcl [(a0, .inr (2, [.ref a1, .ref a2, .ref a3, .int x1, .int x_3, .int x_5, .int x_7, .int x_9])), (a1, .inr (8, [.ref a4])), (a4, .inl (cI, 30, .inl f_12)), (a3, .inl (cI, 120, .inl f_13)), (a2, .inl (cJ, 25, .inr (.inl g_14)))] H → va_D A [(a0, .inr (2, [.ref a1, .ref a2, .ref a3, .int x1, .int x_3, .int x_5, .int x_7, .int x_9])), (a1, .inr (8, [.ref a4])), (a4, .inl (cI, 30, .inl f_12)), (a3, .inl (cI, 120, .inl f_13)), (a2, .inl (cJ, 25, .inr (.inl g_14)))] → va_S A s.heap H locs → lv_has ls 3 [(2, .int x_1), (0, .ref a0), (1, .int x0)] → W p l e ({ frames := 4, cells := 0, slots := 0, locals := 94 }) s m args below meth c H locs 0 0 Q (F0 m 2 ls []) := by
    intro n
    induction n with
    | zero => intro x_1 x_3 x_5 x_7 x_9 f_12 f_13 g_14 H locs ls hi_2 hi_4 hi_6 hi_8 hi_11 hi_15 hmu; exact absurd hmu (Nat.not_lt_zero _)
    | succ n ih_lp_16 =>
      intro x_1 x_3 x_5 x_7 x_9 f_12 f_13 g_14 H locs ls hi_2 hi_4 hi_6 hi_8 hi_11 hi_15 hmu_lp_16 hP hD hS hl
      have hi_10 := n_rng x_9
      refine lv_iload_n (pc := 2) hx hb dX2_makeSteps_2 rfl (lv_at hl 0 rfl) ?_
      refine lv_iload_n (pc := 3) hx hb dX2_makeSteps_3 rfl (lv_at hl 2 rfl) ?_
      refine b_icmp_ge (pc := 4) (tgt := 20) hx hb rfl rfl  dX2_makeSteps_4 (by decide) (fun c_17 => ?_) (fun c_17 => ?_)
      ·
        refine lv_iload_n (pc := 20) hx hb dX2_makeSteps_20 rfl (lv_at hl 0 rfl) ?_
        exact hret x_1 ((fun _ => 0), (fun k => [f_12, f_13].getD k (fun _ => 0)), (fun k => [g_14].getD k (fun _ => 0)), (fun k => [x_3, x_5, x_7, x_9].getD k 0), (fun _ => 0)) dX2_makeSteps_21 ⟨(show (0 ≤ x_1.toInt ∧ x_1.toInt ≤ 2147483647) from hi_2), (show (0 ≤ (x_3 : Int32).toInt ∧ (x_3 : Int32).toInt ≤ 39) from hi_4), (show (0 ≤ (x_5 : Int32).toInt ∧ (x_5 : Int32).toInt ≤ 40) from hi_6), (show (0 ≤ (x_7 : Int32).toInt ∧ (x_7 : Int32).toInt ≤ 40) from hi_8), (show ((x_5 : Int32).toInt + (x_7 : Int32).toInt ≤ 40) from hi_11), (show LedOK f_12 f_13 x_3.toInt x_5.toInt x_7.toInt from hi_15)⟩ (g_psub (wc := [(a0, .inr (2, [.ref a1, .ref a2, .ref a3, .int x1, .int x_3, .int x_5, .int x_7, .int x_9])), (a1, .inr (8, [.ref a4])), (a4, .inl (cI, 30, .inl f_12)), (a3, .inl (cI, 120, .inl f_13)), (a2, .inl (cJ, 25, .inr (.inl g_14)))]) hP [0, 1, 2, 3, 4] rfl) (hD.sub (ws' := [(a0, .inr (2, [.ref a1, .ref a2, .ref a3, .int x1, .int x_3, .int x_5, .int x_7, .int x_9])), (a1, .inr (8, [.ref a4])), (a4, .inl (cI, 30, .inl f_12)), (a3, .inl (cI, 120, .inl f_13)), (a2, .inl (cJ, 25, .inr (.inl g_14)))]) [0, 1, 2, 3, 4] (by decide) rfl) hS
      ·
        refine lv_aload_n (pc := 7) hx hb dX2_makeSteps_7 rfl (lv_at hl 1 rfl) ?_
        refine gc_i (pc := 8) (wc := [(a0, .inr (2, [.ref a1, .ref a2, .ref a3, .int x1, .int x_3, .int x_5, .int x_7, .int x_9])), (a1, .inr (8, [.ref a4])), (a4, .inl (cI, 30, .inl f_12)), (a3, .inl (cI, 120, .inl f_13)), (a2, .inl (cJ, 25, .inr (.inl g_14)))]) (wr := []) hP hD hS hA [0, 1, 2, 3, 4] [] rfl rfl (by decide) (by decide) (by decide) (fun hPc hDc => va_runV (As := []) (rest := []) ⟨hx, hb, hml, hown, hts⟩ (k_X2_makeStep l D cB cC cI cJ _ a0 a1 a2 a3 a4 x1 x_3 x_5 x_7 x_9 f_12 f_13 g_14 h_x1 hi_4 hi_6 hi_8 hi_11 (hi_15)) ⟨gcwB hts tw_1043 tw_13 tw_1040 hd_yX2_makeStep ⟨Nat.le_of_ble_eq_true rfl, Nat.le_of_ble_eq_true rfl⟩, hts _ tw_1042, hts _ tp_40⟩ ⟨gblind, va_recv hK hPc (ci := 2) (q0 := 0) rfl rfl, (gpreS hPc hK hDc hN).2⟩ rfl rfl hl.1 rfl (lv_room (Nat.le_of_ble_eq_true rfl)) dX2_makeSteps_8 ⟨Nat.le_of_ble_eq_true rfl, Nat.le_of_ble_eq_true rfl⟩) (fun r_19 u_18 H locs hw_20 hP hD hS => ?_)
        have hP : va_P D gcl [(a0, .inr (2, [.ref a1, .ref a2, .ref a3, .int x1, .int (u_18.2.2.2.1 0), .int (u_18.2.2.2.1 1), .int (u_18.2.2.2.1 2), .int (u_18.2.2.2.1 3)])), (a1, .inr (8, [.ref a4])), (a4, .inl (cI, 30, .inl (u_18.2.1 0))), (a3, .inl (cI, 120, .inl (u_18.2.1 1))), (a2, .inl (cJ, 25, .inr (.inl (u_18.2.2.1 0))))] H := hP
        have hD : va_D A [(a0, .inr (2, [.ref a1, .ref a2, .ref a3, .int x1, .int (u_18.2.2.2.1 0), .int (u_18.2.2.2.1 1), .int (u_18.2.2.2.1 2), .int (u_18.2.2.2.1 3)])), (a1, .inr (8, [.ref a4])), (a4, .inl (cI, 30, .inl (u_18.2.1 0))), (a3, .inl (cI, 120, .inl (u_18.2.1 1))), (a2, .inl (cJ, 25, .inr (.inl (u_18.2.2.1 0))))] := hD
        have ru_18_0 := n_rng (u_18.2.2.2.1 3)
        obtain ⟨hw_21, hw_22, hw_23, hw_24, hw_25, hw_26⟩ := hw_20
        have hw_21 : (0 ≤ r_19.toInt ∧ r_19.toInt ≤ 1) := hw_21
        have hw_22 : (0 ≤ (u_18.2.2.2.1 0).toInt ∧ (u_18.2.2.2.1 0).toInt ≤ 39) := hw_22
        have hw_23 : (0 ≤ (u_18.2.2.2.1 1).toInt ∧ (u_18.2.2.2.1 1).toInt ≤ 40) := hw_23
        have hw_24 : (0 ≤ (u_18.2.2.2.1 2).toInt ∧ (u_18.2.2.2.1 2).toInt ≤ 40) := hw_24
        have hw_25 : ((u_18.2.2.2.1 1).toInt + (u_18.2.2.2.1 2).toInt ≤ 40) := hw_25
        have hw_26 : (LedOK (u_18.2.1 0) (u_18.2.1 1) (u_18.2.2.2.1 0).toInt (u_18.2.2.2.1 1).toInt (u_18.2.2.2.1 2).toInt) := hw_26
        have rr_19 := n_rng r_19
        refine b_if_eq (pc := 11) (tgt := 20) hx hb rfl  dX2_makeSteps_11 (by decide) (fun c_27 => ?_) (fun c_27 => ?_)
        ·
          refine lv_iload_n (pc := 20) hx hb dX2_makeSteps_20 rfl (lv_at hl 0 rfl) ?_
          exact hret x_1 ((fun _ => 0), (fun k => [(u_18.2.1 0), (u_18.2.1 1)].getD k (fun _ => 0)), (fun k => [(u_18.2.2.1 0)].getD k (fun _ => 0)), (fun k => [(u_18.2.2.2.1 0), (u_18.2.2.2.1 1), (u_18.2.2.2.1 2), (u_18.2.2.2.1 3)].getD k 0), (fun _ => 0)) dX2_makeSteps_21 ⟨(show (0 ≤ x_1.toInt ∧ x_1.toInt ≤ 2147483647) from hi_2), (show (0 ≤ ((u_18.2.2.2.1 0) : Int32).toInt ∧ ((u_18.2.2.2.1 0) : Int32).toInt ≤ 39) from hw_22), (show (0 ≤ ((u_18.2.2.2.1 1) : Int32).toInt ∧ ((u_18.2.2.2.1 1) : Int32).toInt ≤ 40) from hw_23), (show (0 ≤ ((u_18.2.2.2.1 2) : Int32).toInt ∧ ((u_18.2.2.2.1 2) : Int32).toInt ≤ 40) from hw_24), (show (((u_18.2.2.2.1 1) : Int32).toInt + ((u_18.2.2.2.1 2) : Int32).toInt ≤ 40) from hw_25), (show LedOK (u_18.2.1 0) (u_18.2.1 1) (u_18.2.2.2.1 0).toInt (u_18.2.2.2.1 1).toInt (u_18.2.2.2.1 2).toInt from hw_26)⟩ (g_psub (wc := [(a0, .inr (2, [.ref a1, .ref a2, .ref a3, .int x1, .int (u_18.2.2.2.1 0), .int (u_18.2.2.2.1 1), .int (u_18.2.2.2.1 2), .int (u_18.2.2.2.1 3)])), (a1, .inr (8, [.ref a4])), (a4, .inl (cI, 30, .inl (u_18.2.1 0))), (a3, .inl (cI, 120, .inl (u_18.2.1 1))), (a2, .inl (cJ, 25, .inr (.inl (u_18.2.2.1 0))))]) hP [0, 1, 2, 3, 4] rfl) (hD.sub (ws' := [(a0, .inr (2, [.ref a1, .ref a2, .ref a3, .int x1, .int (u_18.2.2.2.1 0), .int (u_18.2.2.2.1 1), .int (u_18.2.2.2.1 2), .int (u_18.2.2.2.1 3)])), (a1, .inr (8, [.ref a4])), (a4, .inl (cI, 30, .inl (u_18.2.1 0))), (a3, .inl (cI, 120, .inl (u_18.2.1 1))), (a2, .inl (cJ, 25, .inr (.inl (u_18.2.2.1 0))))]) [0, 1, 2, 3, 4] (by decide) rfl) hS
        ·
          refine b_iinc (pc := 14) hx hb dX2_makeSteps_14 hl (k := 0) rfl rfl tI_1 (by omega) (by omega) (by decide) (fun x_28 ex_28 ls hl => ?_)
          have hl : lv_has ls 3 [(2, .int x_28), (0, .ref a0), (1, .int x0)] := hl
          refine lv_goto (pc := 17) (tgt := 2) hx hb dX2_makeSteps_17 (by decide) ?_
          exact ih_lp_16 x_28 (u_18.2.2.2.1 0) (u_18.2.2.2.1 1) (u_18.2.2.2.1 2) (u_18.2.2.2.1 3) (u_18.2.1 0) (u_18.2.1 1) (u_18.2.2.1 0) _ _ ls (by omega) hw_22 hw_23 hw_24 hw_25 (hw_26) (by omega) hP hD hS (lv_sub hl [0, 1, 2] rfl)
  exact lp_16 _ 0 x2 x3 x4 x5 f0 f1 g0 _ _ ls (n_c tI_0 (by decide)) h_x2 h_x3 h_x4 hr_a0_0 (hg_led) (Nat.lt_succ_self _) hP hD hS (lv_sub hl [0, 1, 2] rfl)
set_option maxHeartbeats 4000000 in
set_option maxRecDepth 100000 in
theorem k_X11_lead (l : Launch) (D : va_G) (cB cC cI cJ : ClassId) (sz : Nat) (a0 a1 a2 a3 a4 a5 a6 a7 a8 a9 a10 a11 a12 a13 a14 a15 a16 a17 : Nat) (x0 x1 x2 x3 x4 x5 x6 : Int32) (f0 f1 : Nat → Int32) (g0 : Nat → Int64) (h_x1 : (0 ≤ x1.toInt ∧ x1.toInt ≤ 14)) (h_x2 : ((-1) ≤ x2.toInt ∧ x2.toInt ≤ 5)) (h_x3 : (0 ≤ x3.toInt ∧ x3.toInt ≤ 39)) (h_x4 : (0 ≤ x4.toInt ∧ x4.toInt ≤ 40)) (h_x5 : (0 ≤ x5.toInt ∧ x5.toInt ≤ 40)) (hr_a12_0 : (x4.toInt + x5.toInt ≤ 40)) (hg_led : LedOK f0 f1 x3.toInt x4.toInt x5.toInt) : Met l yX11_lead (.code yX11_lead cX11_lead 2 (some .int) :: lw_gd) ({ frames := 5, cells := 0, slots := 0, locals := 116 }) (gPre D [(cB, .byte), (cC, .char), (cI, .int), (cJ, .long)] [.ref a0, .int x0] [(a0, .inr (11, [.ref a1, .ref a2, .ref a3, .ref a4, .ref a5, .ref a6, .ref a7, .ref a8, .ref a9, .ref a10, .int x1, .ref a11, .ref a12, .ref a13])), (a12, .inr (2, [.ref a14, .ref a15, .ref a16, .int x2, .int x3, .int x4, .int x5, .int x6])), (a14, .inr (8, [.ref a17])), (a17, .inl (cI, 30, .inl f0)), (a16, .inl (cI, 120, .inl f1)), (a15, .inl (cJ, 25, .inr (.inl g0)))] sz) (va_Qi (fun r u => ((-1) ≤ r.toInt ∧ r.toInt ≤ 2147483647) ∧ (0 ≤ (u.2.2.2.1 0).toInt ∧ (u.2.2.2.1 0).toInt ≤ 39) ∧ (0 ≤ (u.2.2.2.1 1).toInt ∧ (u.2.2.2.1 1).toInt ≤ 40) ∧ (0 ≤ (u.2.2.2.1 2).toInt ∧ (u.2.2.2.1 2).toInt ≤ 40) ∧ ((u.2.2.2.1 1).toInt + (u.2.2.2.1 2).toInt ≤ 40) ∧ (LedOK (u.2.1 0) (u.2.1 1) (u.2.2.2.1 0).toInt (u.2.2.2.1 1).toInt (u.2.2.2.1 2).toInt)) (gB D (va_A [(a0, .inr (11, [.ref a1, .ref a2, .ref a3, .ref a4, .ref a5, .ref a6, .ref a7, .ref a8, .ref a9, .ref a10, .int x1, .ref a11, .ref a12, .ref a13])), (a12, .inr (2, [.ref a14, .ref a15, .ref a16, .int x2, .int x3, .int x4, .int x5, .int x6])), (a14, .inr (8, [.ref a17])), (a17, .inl (cI, 30, .inl f0)), (a16, .inl (cI, 120, .inl f1)), (a15, .inl (cJ, 25, .inr (.inl g0)))] sz) (fun u : gEx => [(a0, .inr (11, [.ref a1, .ref a2, .ref a3, .ref a4, .ref a5, .ref a6, .ref a7, .ref a8, .ref a9, .ref a10, .int x1, .ref a11, .ref a12, .ref a13])), (a12, .inr (2, [.ref a14, .ref a15, .ref a16, .int x2, .int (u.2.2.2.1 0), .int (u.2.2.2.1 1), .int (u.2.2.2.1 2), .int (u.2.2.2.1 3)])), (a14, .inr (8, [.ref a17])), (a17, .inl (cI, 30, .inl (u.2.1 0))), (a16, .inl (cI, 120, .inl (u.2.1 1))), (a15, .inl (cJ, 25, .inr (.inl (u.2.2.1 0))))])) (va_A [(a0, .inr (11, [.ref a1, .ref a2, .ref a3, .ref a4, .ref a5, .ref a6, .ref a7, .ref a8, .ref a9, .ref a10, .int x1, .ref a11, .ref a12, .ref a13])), (a12, .inr (2, [.ref a14, .ref a15, .ref a16, .int x2, .int x3, .int x4, .int x5, .int x6])), (a14, .inr (8, [.ref a17])), (a17, .inl (cI, 30, .inl f0)), (a16, .inl (cI, 120, .inl f1)), (a15, .inl (cJ, 25, .inr (.inl g0)))] sz)) 0 0 (va_A [(a0, .inr (11, [.ref a1, .ref a2, .ref a3, .ref a4, .ref a5, .ref a6, .ref a7, .ref a8, .ref a9, .ref a10, .int x1, .ref a11, .ref a12, .ref a13])), (a12, .inr (2, [.ref a14, .ref a15, .ref a16, .int x2, .int x3, .int x4, .int x5, .int x6])), (a14, .inr (8, [.ref a17])), (a17, .inl (cI, 30, .inl f0)), (a16, .inl (cI, 120, .inl f1)), (a15, .inl (cJ, 25, .inr (.inl g0)))] sz) := by
  refine gOf_i (by decide +kernel) (Nat.le_of_ble_eq_true rfl) ?_
  intro p e s m args below meth c ls A Q hx hb hts hown hml hN hK hP hD hA hl hret
  have hown : s.vm.findClass RX11 = some m.cls := hown
  have hS : va_S A s.heap s.heap [] := va_S.rf
  have hP : va_P D gcl [(a0, .inr (11, [.ref a1, .ref a2, .ref a3, .ref a4, .ref a5, .ref a6, .ref a7, .ref a8, .ref a9, .ref a10, .int x1, .ref a11, .ref a12, .ref a13])), (a12, .inr (2, [.ref a14, .ref a15, .ref a16, .int x2, .int x3, .int x4, .int x5, .int x6])), (a14, .inr (8, [.ref a17])), (a17, .inl (cI, 30, .inl f0)), (a16, .inl (cI, 120, .inl f1)), (a15, .inl (cJ, 25, .inr (.inl g0)))] s.heap := hP
  have hl : lv_has ls 2 [(0, .ref a0), (1, .int x0)] := hl
  have rx0 := n_rng x0
  have rx6 := n_rng x6
  refine lv_iload_n (pc := 0) hx hb dX11_lead_0 rfl (lv_at hl 1 rfl) ?_
  refine lv_iconst (pc := 1) (v := 1) hx hb dX11_lead_1 (by decide) ?_
  refine b_icmp_lt (pc := 2) (tgt := 11) hx hb rfl tI_1  dX11_lead_2 (by decide) (fun c_1 => ?_) (fun c_1 => ?_)
  ·
    refine lv_iconst (pc := 11) (v := (-1)) hx hb dX11_lead_11 (by decide) ?_
    refine lv_goto (pc := 12) (tgt := 23) hx hb dX11_lead_12 (by decide) ?_
    have k9 := tI_m1
    exact hret (-1) ((fun _ => 0), (fun k => [f0, f1].getD k (fun _ => 0)), (fun k => [g0].getD k (fun _ => 0)), (fun k => [x3, x4, x5, x6].getD k 0), (fun _ => 0)) dX11_lead_23 ⟨(show ((-1) ≤ ((-1) : Int32).toInt ∧ ((-1) : Int32).toInt ≤ 2147483647) from (n_c tI_m1 (by decide))), (show (0 ≤ (x3 : Int32).toInt ∧ (x3 : Int32).toInt ≤ 39) from h_x3), (show (0 ≤ (x4 : Int32).toInt ∧ (x4 : Int32).toInt ≤ 40) from h_x4), (show (0 ≤ (x5 : Int32).toInt ∧ (x5 : Int32).toInt ≤ 40) from h_x5), (show ((x4 : Int32).toInt + (x5 : Int32).toInt ≤ 40) from hr_a12_0), (show LedOK f0 f1 x3.toInt x4.toInt x5.toInt from hg_led)⟩ (g_psub (wc := [(a0, .inr (11, [.ref a1, .ref a2, .ref a3, .ref a4, .ref a5, .ref a6, .ref a7, .ref a8, .ref a9, .ref a10, .int x1, .ref a11, .ref a12, .ref a13])), (a12, .inr (2, [.ref a14, .ref a15, .ref a16, .int x2, .int x3, .int x4, .int x5, .int x6])), (a14, .inr (8, [.ref a17])), (a17, .inl (cI, 30, .inl f0)), (a16, .inl (cI, 120, .inl f1)), (a15, .inl (cJ, 25, .inr (.inl g0)))]) hP [0, 1, 2, 3, 4, 5] rfl) (hD.sub (ws' := [(a0, .inr (11, [.ref a1, .ref a2, .ref a3, .ref a4, .ref a5, .ref a6, .ref a7, .ref a8, .ref a9, .ref a10, .int x1, .ref a11, .ref a12, .ref a13])), (a12, .inr (2, [.ref a14, .ref a15, .ref a16, .int x2, .int x3, .int x4, .int x5, .int x6])), (a14, .inr (8, [.ref a17])), (a17, .inl (cI, 30, .inl f0)), (a16, .inl (cI, 120, .inl f1)), (a15, .inl (cJ, 25, .inr (.inl g0)))]) [0, 1, 2, 3, 4, 5] (by decide) rfl) hS
  ·
    refine lv_iload_n (pc := 5) hx hb dX11_lead_5 rfl (lv_at hl 1 rfl) ?_
    refine lv_bipush (pc := 6) (v := 100) hx hb dX11_lead_6 (by decide) ?_
    refine b_icmp_le (pc := 8) (tgt := 15) hx hb rfl tI_100  dX11_lead_8 (by decide) (fun c_2 => ?_) (fun c_2 => ?_)
    ·
      refine lv_aload_n (pc := 15) hx hb dX11_lead_15 rfl (lv_at hl 0 rfl) ?_
      refine va_get (pc := 16) (ci := 11) (v := .ref a12) (C := RX11) (T := TX11) (N := 14) hx hb hts iX11 hown hK hP 0 rfl rfl 12 (by decide) (hts _ tw_432) (fun _ h9 => h9) rfl dX11_lead_16 ?_
      refine lv_iload_n (pc := 19) hx hb dX11_lead_19 rfl (lv_at hl 1 rfl) ?_
      refine gc_i (pc := 20) (wc := [(a12, .inr (2, [.ref a14, .ref a15, .ref a16, .int x2, .int x3, .int x4, .int x5, .int x6])), (a14, .inr (8, [.ref a17])), (a17, .inl (cI, 30, .inl f0)), (a16, .inl (cI, 120, .inl f1)), (a15, .inl (cJ, 25, .inr (.inl g0)))]) (wr := [(a0, .inr (11, [.ref a1, .ref a2, .ref a3, .ref a4, .ref a5, .ref a6, .ref a7, .ref a8, .ref a9, .ref a10, .int x1, .ref a11, .ref a12, .ref a13]))]) hP hD hS hA [1, 2, 3, 4, 5] [0] rfl rfl (by decide) (by decide) (by decide) (fun hPc hDc => va_runV (As := [.int x0]) (rest := []) ⟨hx, hb, hml, hown, hts⟩ (k_X2_makeSteps l D cB cC cI cJ _ a12 a14 a15 a16 a17 x0 x2 x3 x4 x5 x6 f0 f1 g0 h_x2 h_x3 h_x4 h_x5 hr_a12_0 (hg_led)) ⟨gcwB hts tw_1039 tw_13 tw_1036 hd_yX2_makeSteps ⟨Nat.le_of_ble_eq_true rfl, Nat.le_of_ble_eq_true rfl⟩, hts _ tw_1037, hts _ tw_1038⟩ ⟨gblind, va_recv hK hPc (ci := 2) (q0 := 0) rfl rfl, (gpreS hPc hK hDc hN).2⟩ rfl rfl hl.1 rfl (lv_room (Nat.le_of_ble_eq_true rfl)) dX11_lead_20 ⟨Nat.le_of_ble_eq_true rfl, Nat.le_of_ble_eq_true rfl⟩) (fun r_4 u_3 H locs hw_5 hP hD hS => ?_)
      have hP : va_P D gcl [(a0, .inr (11, [.ref a1, .ref a2, .ref a3, .ref a4, .ref a5, .ref a6, .ref a7, .ref a8, .ref a9, .ref a10, .int x1, .ref a11, .ref a12, .ref a13])), (a12, .inr (2, [.ref a14, .ref a15, .ref a16, .int x2, .int (u_3.2.2.2.1 0), .int (u_3.2.2.2.1 1), .int (u_3.2.2.2.1 2), .int (u_3.2.2.2.1 3)])), (a14, .inr (8, [.ref a17])), (a17, .inl (cI, 30, .inl (u_3.2.1 0))), (a16, .inl (cI, 120, .inl (u_3.2.1 1))), (a15, .inl (cJ, 25, .inr (.inl (u_3.2.2.1 0))))] H := hP
      have hD : va_D A [(a0, .inr (11, [.ref a1, .ref a2, .ref a3, .ref a4, .ref a5, .ref a6, .ref a7, .ref a8, .ref a9, .ref a10, .int x1, .ref a11, .ref a12, .ref a13])), (a12, .inr (2, [.ref a14, .ref a15, .ref a16, .int x2, .int (u_3.2.2.2.1 0), .int (u_3.2.2.2.1 1), .int (u_3.2.2.2.1 2), .int (u_3.2.2.2.1 3)])), (a14, .inr (8, [.ref a17])), (a17, .inl (cI, 30, .inl (u_3.2.1 0))), (a16, .inl (cI, 120, .inl (u_3.2.1 1))), (a15, .inl (cJ, 25, .inr (.inl (u_3.2.2.1 0))))] := hD
      have ru_3_0 := n_rng (u_3.2.2.2.1 3)
      obtain ⟨hw_6, hw_7, hw_8, hw_9, hw_10, hw_11⟩ := hw_5
      have hw_6 : (0 ≤ r_4.toInt ∧ r_4.toInt ≤ 2147483647) := hw_6
      have hw_7 : (0 ≤ (u_3.2.2.2.1 0).toInt ∧ (u_3.2.2.2.1 0).toInt ≤ 39) := hw_7
      have hw_8 : (0 ≤ (u_3.2.2.2.1 1).toInt ∧ (u_3.2.2.2.1 1).toInt ≤ 40) := hw_8
      have hw_9 : (0 ≤ (u_3.2.2.2.1 2).toInt ∧ (u_3.2.2.2.1 2).toInt ≤ 40) := hw_9
      have hw_10 : ((u_3.2.2.2.1 1).toInt + (u_3.2.2.2.1 2).toInt ≤ 40) := hw_10
      have hw_11 : (LedOK (u_3.2.1 0) (u_3.2.1 1) (u_3.2.2.2.1 0).toInt (u_3.2.2.2.1 1).toInt (u_3.2.2.2.1 2).toInt) := hw_11
      have rr_4 := n_rng r_4
      exact hret r_4 ((fun _ => 0), (fun k => [(u_3.2.1 0), (u_3.2.1 1)].getD k (fun _ => 0)), (fun k => [(u_3.2.2.1 0)].getD k (fun _ => 0)), (fun k => [(u_3.2.2.2.1 0), (u_3.2.2.2.1 1), (u_3.2.2.2.1 2), (u_3.2.2.2.1 3)].getD k 0), (fun _ => 0)) dX11_lead_23 ⟨(show ((-1) ≤ r_4.toInt ∧ r_4.toInt ≤ 2147483647) by omega), (show (0 ≤ ((u_3.2.2.2.1 0) : Int32).toInt ∧ ((u_3.2.2.2.1 0) : Int32).toInt ≤ 39) from hw_7), (show (0 ≤ ((u_3.2.2.2.1 1) : Int32).toInt ∧ ((u_3.2.2.2.1 1) : Int32).toInt ≤ 40) from hw_8), (show (0 ≤ ((u_3.2.2.2.1 2) : Int32).toInt ∧ ((u_3.2.2.2.1 2) : Int32).toInt ≤ 40) from hw_9), (show (((u_3.2.2.2.1 1) : Int32).toInt + ((u_3.2.2.2.1 2) : Int32).toInt ≤ 40) from hw_10), (show LedOK (u_3.2.1 0) (u_3.2.1 1) (u_3.2.2.2.1 0).toInt (u_3.2.2.2.1 1).toInt (u_3.2.2.2.1 2).toInt from hw_11)⟩ (g_psub (wc := [(a0, .inr (11, [.ref a1, .ref a2, .ref a3, .ref a4, .ref a5, .ref a6, .ref a7, .ref a8, .ref a9, .ref a10, .int x1, .ref a11, .ref a12, .ref a13])), (a12, .inr (2, [.ref a14, .ref a15, .ref a16, .int x2, .int (u_3.2.2.2.1 0), .int (u_3.2.2.2.1 1), .int (u_3.2.2.2.1 2), .int (u_3.2.2.2.1 3)])), (a14, .inr (8, [.ref a17])), (a17, .inl (cI, 30, .inl (u_3.2.1 0))), (a16, .inl (cI, 120, .inl (u_3.2.1 1))), (a15, .inl (cJ, 25, .inr (.inl (u_3.2.2.1 0))))]) hP [0, 1, 2, 3, 4, 5] rfl) (hD.sub (ws' := [(a0, .inr (11, [.ref a1, .ref a2, .ref a3, .ref a4, .ref a5, .ref a6, .ref a7, .ref a8, .ref a9, .ref a10, .int x1, .ref a11, .ref a12, .ref a13])), (a12, .inr (2, [.ref a14, .ref a15, .ref a16, .int x2, .int (u_3.2.2.2.1 0), .int (u_3.2.2.2.1 1), .int (u_3.2.2.2.1 2), .int (u_3.2.2.2.1 3)])), (a14, .inr (8, [.ref a17])), (a17, .inl (cI, 30, .inl (u_3.2.1 0))), (a16, .inl (cI, 120, .inl (u_3.2.1 1))), (a15, .inl (cJ, 25, .inr (.inl (u_3.2.2.1 0))))]) [0, 1, 2, 3, 4, 5] (by decide) rfl) hS
    ·
      refine lv_iconst (pc := 11) (v := (-1)) hx hb dX11_lead_11 (by decide) ?_
      refine lv_goto (pc := 12) (tgt := 23) hx hb dX11_lead_12 (by decide) ?_
      have k9 := tI_m1
      exact hret (-1) ((fun _ => 0), (fun k => [f0, f1].getD k (fun _ => 0)), (fun k => [g0].getD k (fun _ => 0)), (fun k => [x3, x4, x5, x6].getD k 0), (fun _ => 0)) dX11_lead_23 ⟨(show ((-1) ≤ ((-1) : Int32).toInt ∧ ((-1) : Int32).toInt ≤ 2147483647) from (n_c tI_m1 (by decide))), (show (0 ≤ (x3 : Int32).toInt ∧ (x3 : Int32).toInt ≤ 39) from h_x3), (show (0 ≤ (x4 : Int32).toInt ∧ (x4 : Int32).toInt ≤ 40) from h_x4), (show (0 ≤ (x5 : Int32).toInt ∧ (x5 : Int32).toInt ≤ 40) from h_x5), (show ((x4 : Int32).toInt + (x5 : Int32).toInt ≤ 40) from hr_a12_0), (show LedOK f0 f1 x3.toInt x4.toInt x5.toInt from hg_led)⟩ (g_psub (wc := [(a0, .inr (11, [.ref a1, .ref a2, .ref a3, .ref a4, .ref a5, .ref a6, .ref a7, .ref a8, .ref a9, .ref a10, .int x1, .ref a11, .ref a12, .ref a13])), (a12, .inr (2, [.ref a14, .ref a15, .ref a16, .int x2, .int x3, .int x4, .int x5, .int x6])), (a14, .inr (8, [.ref a17])), (a17, .inl (cI, 30, .inl f0)), (a16, .inl (cI, 120, .inl f1)), (a15, .inl (cJ, 25, .inr (.inl g0)))]) hP [0, 1, 2, 3, 4, 5] rfl) (hD.sub (ws' := [(a0, .inr (11, [.ref a1, .ref a2, .ref a3, .ref a4, .ref a5, .ref a6, .ref a7, .ref a8, .ref a9, .ref a10, .int x1, .ref a11, .ref a12, .ref a13])), (a12, .inr (2, [.ref a14, .ref a15, .ref a16, .int x2, .int x3, .int x4, .int x5, .int x6])), (a14, .inr (8, [.ref a17])), (a17, .inl (cI, 30, .inl f0)), (a16, .inl (cI, 120, .inl f1)), (a15, .inl (cJ, 25, .inr (.inl g0)))]) [0, 1, 2, 3, 4, 5] (by decide) rfl) hS
set_option maxHeartbeats 4000000 in
set_option maxRecDepth 100000 in
theorem k_X2_undoStep (l : Launch) (D : va_G) (cB cC cI cJ : ClassId) (sz : Nat) (a0 a1 a2 a3 a4 : Nat) (x0 x1 x2 x3 x4 : Int32) (f0 f1 : Nat → Int32) (g0 : Nat → Int64) (h_x0 : ((-1) ≤ x0.toInt ∧ x0.toInt ≤ 5)) (h_x1 : (0 ≤ x1.toInt ∧ x1.toInt ≤ 39)) (h_x2 : (0 ≤ x2.toInt ∧ x2.toInt ≤ 40)) (h_x3 : (0 ≤ x3.toInt ∧ x3.toInt ≤ 40)) (hr_a0_0 : (x2.toInt + x3.toInt ≤ 40)) (hg_led : LedOK f0 f1 x1.toInt x2.toInt x3.toInt) : Met l yX2_undoStep (.code yX2_undoStep cX2_undoStep 2 (some .boolean) :: lw_gd) ({ frames := 3, cells := 0, slots := 0, locals := 71 }) (gPre D [(cB, .byte), (cC, .char), (cI, .int), (cJ, .long)] [.ref a0] [(a0, .inr (2, [.ref a1, .ref a2, .ref a3, .int x0, .int x1, .int x2, .int x3, .int x4])), (a1, .inr (8, [.ref a4])), (a4, .inl (cI, 30, .inl f0)), (a3, .inl (cI, 120, .inl f1)), (a2, .inl (cJ, 25, .inr (.inl g0)))] sz) (va_Qi (fun r u => (0 ≤ r.toInt ∧ r.toInt ≤ 1) ∧ (0 ≤ (u.2.2.2.1 0).toInt ∧ (u.2.2.2.1 0).toInt ≤ 40) ∧ (0 ≤ (u.2.2.2.1 1).toInt ∧ (u.2.2.2.1 1).toInt ≤ 40) ∧ ((u.2.2.2.1 0).toInt + (u.2.2.2.1 1).toInt ≤ 40) ∧ (LedOK (u.2.1 0) f1 x1.toInt (u.2.2.2.1 0).toInt (u.2.2.2.1 1).toInt)) (gB D (va_A [(a0, .inr (2, [.ref a1, .ref a2, .ref a3, .int x0, .int x1, .int x2, .int x3, .int x4])), (a1, .inr (8, [.ref a4])), (a4, .inl (cI, 30, .inl f0)), (a3, .inl (cI, 120, .inl f1)), (a2, .inl (cJ, 25, .inr (.inl g0)))] sz) (fun u : gEx => [(a0, .inr (2, [.ref a1, .ref a2, .ref a3, .int x0, .int x1, .int (u.2.2.2.1 0), .int (u.2.2.2.1 1), .int (u.2.2.2.1 2)])), (a1, .inr (8, [.ref a4])), (a4, .inl (cI, 30, .inl (u.2.1 0))), (a3, .inl (cI, 120, .inl f1)), (a2, .inl (cJ, 25, .inr (.inl (u.2.2.1 0))))])) (va_A [(a0, .inr (2, [.ref a1, .ref a2, .ref a3, .int x0, .int x1, .int x2, .int x3, .int x4])), (a1, .inr (8, [.ref a4])), (a4, .inl (cI, 30, .inl f0)), (a3, .inl (cI, 120, .inl f1)), (a2, .inl (cJ, 25, .inr (.inl g0)))] sz)) 0 0 (va_A [(a0, .inr (2, [.ref a1, .ref a2, .ref a3, .int x0, .int x1, .int x2, .int x3, .int x4])), (a1, .inr (8, [.ref a4])), (a4, .inl (cI, 30, .inl f0)), (a3, .inl (cI, 120, .inl f1)), (a2, .inl (cJ, 25, .inr (.inl g0)))] sz) := by
  refine gOf_z (by decide +kernel) (Nat.le_of_ble_eq_true rfl) ?_
  intro p e s m args below meth c ls A Q hx hb hts hown hml hN hK hP hD hA hl hret
  have hown : s.vm.findClass RX2 = some m.cls := hown
  have hS : va_S A s.heap s.heap [] := va_S.rf
  have hP : va_P D gcl [(a0, .inr (2, [.ref a1, .ref a2, .ref a3, .int x0, .int x1, .int x2, .int x3, .int x4])), (a1, .inr (8, [.ref a4])), (a4, .inl (cI, 30, .inl f0)), (a3, .inl (cI, 120, .inl f1)), (a2, .inl (cJ, 25, .inr (.inl g0)))] s.heap := hP
  have hl : lv_has ls 2 [(0, .ref a0)] := hl
  have rx4 := n_rng x4
  refine lv_aload_n (pc := 0) hx hb dX2_undoStep_0 rfl (lv_at hl 0 rfl) ?_
  refine va_get (pc := 1) (ci := 2) (v := .int x2) (C := RX2) (T := TX2) (N := 8) hx hb hts iX2 hown hK hP 0 rfl rfl 5 (by decide) (hts _ tw_397) (fun _ h9 => h9) rfl dX2_undoStep_1 ?_
  refine b_if_ne (pc := 4) (tgt := 9) hx hb rfl  dX2_undoStep_4 (by decide) (fun c_1 => ?_) (fun c_1 => ?_)
  ·
    refine lv_aload_n (pc := 9) hx hb dX2_undoStep_9 rfl (lv_at hl 0 rfl) ?_
    refine lv_dup (pc := 10) hx hb dX2_undoStep_10 rfl ?_
    refine va_get (pc := 11) (ci := 2) (v := .int x2) (C := RX2) (T := TX2) (N := 8) hx hb hts iX2 hown hK hP 0 rfl rfl 5 (by decide) (hts _ tw_397) (fun _ h9 => h9) rfl dX2_undoStep_11 ?_
    refine lv_iconst (pc := 14) (v := 1) hx hb dX2_undoStep_14 (by decide) ?_
    refine b_isub (pc := 15) hx hb rfl tI_1 (by omega) (by omega) dX2_undoStep_15 (fun x_2 ex_2 => ?_)
    refine va_put (pc := 16) (ci := 2) (v := .int x_2) (ty := .int) (C := RX2) (T := TX2) (N := 8) hx hb hts iX2 tyX2 tyX2_ok nmX2 hown hK hP hD hS 0 rfl rfl 5 (by decide) (hts _ tw_397) (fun _ h9 => h9) rfl (by decide +kernel) rfl rfl (Nat.le_of_ble_eq_true rfl) dX2_undoStep_16 (fun H locs hP hD hS => ?_)
    have hP : va_P D gcl [(a0, .inr (2, [.ref a1, .ref a2, .ref a3, .int x0, .int x1, .int x_2, .int x3, .int x4])), (a1, .inr (8, [.ref a4])), (a4, .inl (cI, 30, .inl f0)), (a3, .inl (cI, 120, .inl f1)), (a2, .inl (cJ, 25, .inr (.inl g0)))] H := hP
    have hD : va_D A [(a0, .inr (2, [.ref a1, .ref a2, .ref a3, .int x0, .int x1, .int x_2, .int x3, .int x4])), (a1, .inr (8, [.ref a4])), (a4, .inl (cI, 30, .inl f0)), (a3, .inl (cI, 120, .inl f1)), (a2, .inl (cJ, 25, .inr (.inl g0)))] := hD
    refine lv_aload_n (pc := 19) hx hb dX2_undoStep_19 rfl (lv_at hl 0 rfl) ?_
    refine lv_dup (pc := 20) hx hb dX2_undoStep_20 rfl ?_
    refine va_get (pc := 21) (ci := 2) (v := .int x3) (C := RX2) (T := TX2) (N := 8) hx hb hts iX2 hown hK hP 0 rfl rfl 6 (by decide) (hts _ tw_399) (fun _ h9 => h9) rfl dX2_undoStep_21 ?_
    refine lv_iconst (pc := 24) (v := 1) hx hb dX2_undoStep_24 (by decide) ?_
    refine b_iadd (pc := 25) hx hb rfl tI_1 (by omega) (by omega) dX2_undoStep_25 (fun x_3 ex_3 => ?_)
    refine va_put (pc := 26) (ci := 2) (v := .int x_3) (ty := .int) (C := RX2) (T := TX2) (N := 8) hx hb hts iX2 tyX2 tyX2_ok nmX2 hown hK hP hD hS 0 rfl rfl 6 (by decide) (hts _ tw_399) (fun _ h9 => h9) rfl (by decide +kernel) rfl rfl (Nat.le_of_ble_eq_true rfl) dX2_undoStep_26 (fun H locs hP hD hS => ?_)
    have hP : va_P D gcl [(a0, .inr (2, [.ref a1, .ref a2, .ref a3, .int x0, .int x1, .int x_2, .int x_3, .int x4])), (a1, .inr (8, [.ref a4])), (a4, .inl (cI, 30, .inl f0)), (a3, .inl (cI, 120, .inl f1)), (a2, .inl (cJ, 25, .inr (.inl g0)))] H := hP
    have hD : va_D A [(a0, .inr (2, [.ref a1, .ref a2, .ref a3, .int x0, .int x1, .int x_2, .int x_3, .int x4])), (a1, .inr (8, [.ref a4])), (a4, .inl (cI, 30, .inl f0)), (a3, .inl (cI, 120, .inl f1)), (a2, .inl (cJ, 25, .inr (.inl g0)))] := hD
    refine lv_aload_n (pc := 29) hx hb dX2_undoStep_29 rfl (lv_at hl 0 rfl) ?_
    refine lv_dup (pc := 30) hx hb dX2_undoStep_30 rfl ?_
    refine va_get (pc := 31) (ci := 2) (v := .int x4) (C := RX2) (T := TX2) (N := 8) hx hb hts iX2 hown hK hP 0 rfl rfl 7 (by decide) (hts _ tw_401) (fun _ h9 => h9) rfl dX2_undoStep_31 ?_
    refine lv_iconst (pc := 34) (v := 1) hx hb dX2_undoStep_34 (by decide) ?_
    refine lv_isub (pc := 35) hx hb dX2_undoStep_35 ?_
    refine lv_topi (fun x_4 ex_4 => ?_)
    have rx_4 := n_rng x_4
    refine va_put (pc := 36) (ci := 2) (v := .int x_4) (ty := .int) (C := RX2) (T := TX2) (N := 8) hx hb hts iX2 tyX2 tyX2_ok nmX2 hown hK hP hD hS 0 rfl rfl 7 (by decide) (hts _ tw_401) (fun _ h9 => h9) rfl (by decide +kernel) rfl rfl (Nat.le_of_ble_eq_true rfl) dX2_undoStep_36 (fun H locs hP hD hS => ?_)
    have hP : va_P D gcl [(a0, .inr (2, [.ref a1, .ref a2, .ref a3, .int x0, .int x1, .int x_2, .int x_3, .int x_4])), (a1, .inr (8, [.ref a4])), (a4, .inl (cI, 30, .inl f0)), (a3, .inl (cI, 120, .inl f1)), (a2, .inl (cJ, 25, .inr (.inl g0)))] H := hP
    have hD : va_D A [(a0, .inr (2, [.ref a1, .ref a2, .ref a3, .int x0, .int x1, .int x_2, .int x_3, .int x_4])), (a1, .inr (8, [.ref a4])), (a4, .inl (cI, 30, .inl f0)), (a3, .inl (cI, 120, .inl f1)), (a2, .inl (cJ, 25, .inr (.inl g0)))] := hD
    refine lv_aload_n (pc := 39) hx hb dX2_undoStep_39 rfl (lv_at hl 0 rfl) ?_
    refine lv_aload_n (pc := 40) hx hb dX2_undoStep_40 rfl (lv_at hl 0 rfl) ?_
    refine va_get (pc := 41) (ci := 2) (v := .int x_2) (C := RX2) (T := TX2) (N := 8) hx hb hts iX2 hown hK hP 0 rfl rfl 5 (by decide) (hts _ tw_397) (fun _ h9 => h9) rfl dX2_undoStep_41 ?_
    refine gc_i (pc := 44) (wc := [(a0, .inr (2, [.ref a1, .ref a2, .ref a3, .int x0, .int x1, .int x_2, .int x_3, .int x_4]))]) (wr := [(a1, .inr (8, [.ref a4])), (a4, .inl (cI, 30, .inl f0)), (a3, .inl (cI, 120, .inl f1)), (a2, .inl (cJ, 25, .inr (.inl g0)))]) hP hD hS hA [0] [1, 2, 3, 4] rfl rfl (by decide) (by decide) (by decide) (fun hPc hDc => va_runV (As := [.int x_2]) (rest := []) ⟨hx, hb, hml, hown, hts⟩ (k_X2_slot_x l D cB cC cI cJ _ a0 a1 a2 a3 x_2 x0 x1 x_2 x_3 x_4 (by  omega) h_x0 h_x1 (by  omega) (by  omega) (by  omega)) ⟨gcwB hts tw_1057 tw_13 tw_1054 hd_yX2_slot ⟨Nat.le_of_ble_eq_true rfl, Nat.le_of_ble_eq_true rfl⟩, hts _ tw_1056, hts _ tp_43⟩ ⟨gblind, va_recv hK hPc (ci := 2) (q0 := 0) rfl rfl, (gpreS hPc hK hDc hN).2⟩ rfl rfl hl.1 rfl (lv_room (Nat.le_of_ble_eq_true rfl)) dX2_undoStep_44 ⟨Nat.le_of_ble_eq_true rfl, Nat.le_of_ble_eq_true rfl⟩) (fun r_6 u_5 H locs hw_7 hP hD hS => ?_)
    have hP : va_P D gcl [(a1, .inr (8, [.ref a4])), (a4, .inl (cI, 30, .inl f0)), (a3, .inl (cI, 120, .inl f1)), (a2, .inl (cJ, 25, .inr (.inl g0))), (a0, .inr (2, [.ref a1, .ref a2, .ref a3, .int x0, .int x1, .int x_2, .int x_3, .int x_4]))] H := hP
    have hD : va_D A [(a1, .inr (8, [.ref a4])), (a4, .inl (cI, 30, .inl f0)), (a3, .inl (cI, 120, .inl f1)), (a2, .inl (cJ, 25, .inr (.inl g0))), (a0, .inr (2, [.ref a1, .ref a2, .ref a3, .int x0, .int x1, .int x_2, .int x_3, .int x_4]))] := hD
    obtain ⟨hw_8, hw_9⟩ := hw_7
    have hw_8 : (0 ≤ r_6.toInt ∧ r_6.toInt ≤ 117) := hw_8
    have hw_9 : (r_6.toInt = ((x1.toInt + x_2.toInt) % 40) * 3) := hw_9
    have rr_6 := n_rng r_6
    refine lv_istore_n (pc := 47) (lv' := [(1, .int r_6), (0, .ref a0)]) hx hb dX2_undoStep_47 rfl hl (by decide) rfl (fun ls hl => ?_)
    refine lv_aload_n (pc := 48) hx hb dX2_undoStep_48 rfl (lv_at hl 1 rfl) ?_
    refine lv_aload_n (pc := 49) hx hb dX2_undoStep_49 rfl (lv_at hl 1 rfl) ?_
    refine va_get (pc := 50) (ci := 2) (v := .ref a3) (C := RX2) (T := TX2) (N := 8) hx hb hts iX2 hown hK hP 4 rfl rfl 2 (by decide) (hts _ tw_394) (fun _ h9 => h9) rfl dX2_undoStep_50 ?_
    refine lv_iload_n (pc := 53) hx hb dX2_undoStep_53 rfl (lv_at hl 0 rfl) ?_
    refine va_iald (pc := 54) hx hb hK hP 2 2 rfl rfl (n_in rfl (by omega) (by omega)) dX2_undoStep_54 ?_
    refine lv_topi (fun x_10 ex_10 => ?_)
    have rx_10 := n_rng x_10
    have ex_10 : x_10 = f1 (r_6.toInt).toNat := ex_10
    have tx_10 := congrArg Int32.toInt ex_10
    refine lv_aload_n (pc := 55) hx hb dX2_undoStep_55 rfl (lv_at hl 1 rfl) ?_
    refine va_get (pc := 56) (ci := 2) (v := .ref a3) (C := RX2) (T := TX2) (N := 8) hx hb hts iX2 hown hK hP 4 rfl rfl 2 (by decide) (hts _ tw_394) (fun _ h9 => h9) rfl dX2_undoStep_56 ?_
    refine lv_iload_n (pc := 59) hx hb dX2_undoStep_59 rfl (lv_at hl 0 rfl) ?_
    refine lv_iconst (pc := 60) (v := 1) hx hb dX2_undoStep_60 (by decide) ?_
    refine b_iadd (pc := 61) hx hb rfl tI_1 (by omega) (by omega) dX2_undoStep_61 (fun x_11 ex_11 => ?_)
    refine va_iald (pc := 62) hx hb hK hP 2 2 rfl rfl (n_in rfl (by omega) (by omega)) dX2_undoStep_62 ?_
    refine lv_topi (fun x_12 ex_12 => ?_)
    have rx_12 := n_rng x_12
    have ex_12 : x_12 = f1 (x_11.toInt).toNat := ex_12
    have tx_12 := congrArg Int32.toInt ex_12
    refine lv_aload_n (pc := 63) hx hb dX2_undoStep_63 rfl (lv_at hl 1 rfl) ?_
    refine va_get (pc := 64) (ci := 2) (v := .ref a3) (C := RX2) (T := TX2) (N := 8) hx hb hts iX2 hown hK hP 4 rfl rfl 2 (by decide) (hts _ tw_394) (fun _ h9 => h9) rfl dX2_undoStep_64 ?_
    refine lv_iload_n (pc := 67) hx hb dX2_undoStep_67 rfl (lv_at hl 0 rfl) ?_
    refine lv_iconst (pc := 68) (v := 2) hx hb dX2_undoStep_68 (by decide) ?_
    refine b_iadd (pc := 69) hx hb rfl tI_2 (by omega) (by omega) dX2_undoStep_69 (fun x_13 ex_13 => ?_)
    refine va_iald (pc := 70) hx hb hK hP 2 2 rfl rfl (n_in rfl (by omega) (by omega)) dX2_undoStep_70 ?_
    refine lv_topi (fun x_14 ex_14 => ?_)
    have rx_14 := n_rng x_14
    have ex_14 : x_14 = f1 (x_13.toInt).toNat := ex_14
    have tx_14 := congrArg Int32.toInt ex_14
    refine lv_ineg (pc := 71) hx hb dX2_undoStep_71 ?_
    refine lv_topi (fun x_15 ex_15 => ?_)
    have rx_15 := n_rng x_15
    have hh_16 := Led_at (k := x_2.toInt) hg_led (by omega) (by omega) hw_9
    have hh_17 := congrArg Int32.toInt (e_ld ex_12 (show _ = r_6.toInt + 1 by omega))
    refine gc_v (pc := 72) (wc := [(a0, .inr (2, [.ref a1, .ref a2, .ref a3, .int x0, .int x1, .int x_2, .int x_3, .int x_4])), (a1, .inr (8, [.ref a4])), (a4, .inl (cI, 30, .inl f0)), (a2, .inl (cJ, 25, .inr (.inl g0)))]) (wr := [(a3, .inl (cI, 120, .inl f1))]) hP hD hS hA [4, 0, 1, 3] [2] rfl rfl (by decide) (by decide) (by decide) (fun hPc hDc => va_runV (As := [.int x_10, .int x_12, .int x_15]) (rest := []) ⟨hx, hb, hml, hown, hts⟩ (k_X2_takeAway_e l D cB cC cI cJ _ a0 a1 a2 a3 a4 x_10 x_12 x_15 x0 x1 x_2 x_3 x_4 f0 g0 (by  omega) (by  omega) h_x0 h_x1 (by  omega) (by  omega) (by  omega) (by  omega)) ⟨gcwB hts tw_1061 tw_13 tw_1058 hd_yX2_takeAway ⟨Nat.le_of_ble_eq_true rfl, Nat.le_of_ble_eq_true rfl⟩, hts _ tw_1060, hts _ tp_44⟩ ⟨gblind, va_recv hK hPc (ci := 2) (q0 := 0) rfl rfl, (gpreS hPc hK hDc hN).2⟩ rfl rfl hl.1 rfl (lv_room (Nat.le_of_ble_eq_true rfl)) dX2_undoStep_72 ⟨Nat.le_of_ble_eq_true rfl, Nat.le_of_ble_eq_true rfl⟩) (fun u_18 H locs hw_20 hP hD hS => ?_)
    have hP : va_P D gcl [(a3, .inl (cI, 120, .inl f1)), (a0, .inr (2, [.ref a1, .ref a2, .ref a3, .int x0, .int x1, .int x_2, .int x_3, .int x_4])), (a1, .inr (8, [.ref a4])), (a4, .inl (cI, 30, .inl (u_18.2.1 0))), (a2, .inl (cJ, 25, .inr (.inl (u_18.2.2.1 0))))] H := hP
    have hD : va_D A [(a3, .inl (cI, 120, .inl f1)), (a0, .inr (2, [.ref a1, .ref a2, .ref a3, .int x0, .int x1, .int x_2, .int x_3, .int x_4])), (a1, .inr (8, [.ref a4])), (a4, .inl (cI, 30, .inl (u_18.2.1 0))), (a2, .inl (cJ, 25, .inr (.inl (u_18.2.2.1 0))))] := hD
    have hw_21 : (taQ f0 (u_18.2.1 0) x_10.toInt x_12.toInt x_15 6) := hw_20
    refine lv_iconst (pc := 75) (v := 1) hx hb dX2_undoStep_75 (by decide) ?_
    have k9 := tI_1
    exact hret 1 ((fun _ => 0), (fun k => [(u_18.2.1 0)].getD k (fun _ => 0)), (fun k => [(u_18.2.2.1 0)].getD k (fun _ => 0)), (fun k => [x_2, x_3, x_4].getD k 0), (fun _ => 0)) dX2_undoStep_76 ⟨(by have k9 := tI_1; omega), ⟨(show (0 ≤ (1 : Int32).toInt ∧ (1 : Int32).toInt ≤ 1) from (n_c tI_1 (by decide))), (show (0 ≤ (x_2 : Int32).toInt ∧ (x_2 : Int32).toInt ≤ 40) by have k9 := tI_1; omega), (show (0 ≤ (x_3 : Int32).toInt ∧ (x_3 : Int32).toInt ≤ 40) by have k9 := tI_1; omega), (show ((x_2 : Int32).toInt + (x_3 : Int32).toInt ≤ 40) by have k9 := tI_1; omega), (show LedOK (u_18.2.1 0) f1 x1.toInt x_2.toInt x_3.toInt from Led_undo hg_led (by omega) (by omega) (by omega) (by omega) hw_9 ex_10 (e_ld ex_12 (show _ = r_6.toInt + 1 by omega)).symm (e_ld ex_14 (show _ = r_6.toInt + 2 by omega)).symm ex_15 hw_21)⟩⟩ (g_psub (wc := [(a0, .inr (2, [.ref a1, .ref a2, .ref a3, .int x0, .int x1, .int x_2, .int x_3, .int x_4])), (a1, .inr (8, [.ref a4])), (a4, .inl (cI, 30, .inl (u_18.2.1 0))), (a3, .inl (cI, 120, .inl f1)), (a2, .inl (cJ, 25, .inr (.inl (u_18.2.2.1 0))))]) hP [1, 2, 3, 0, 4] rfl) (hD.sub (ws' := [(a0, .inr (2, [.ref a1, .ref a2, .ref a3, .int x0, .int x1, .int x_2, .int x_3, .int x_4])), (a1, .inr (8, [.ref a4])), (a4, .inl (cI, 30, .inl (u_18.2.1 0))), (a3, .inl (cI, 120, .inl f1)), (a2, .inl (cJ, 25, .inr (.inl (u_18.2.2.1 0))))]) [1, 2, 3, 0, 4] (by decide) rfl) hS
  ·
    refine lv_iconst (pc := 7) (v := 0) hx hb dX2_undoStep_7 (by decide) ?_
    have k9 := tI_0
    exact hret 0 ((fun _ => 0), (fun k => [f0].getD k (fun _ => 0)), (fun k => [g0].getD k (fun _ => 0)), (fun k => [x2, x3, x4].getD k 0), (fun _ => 0)) dX2_undoStep_8 ⟨(by have k9 := tI_0; omega), ⟨(show (0 ≤ (0 : Int32).toInt ∧ (0 : Int32).toInt ≤ 1) from (n_c tI_0 (by decide))), (show (0 ≤ (x2 : Int32).toInt ∧ (x2 : Int32).toInt ≤ 40) from h_x2), (show (0 ≤ (x3 : Int32).toInt ∧ (x3 : Int32).toInt ≤ 40) from h_x3), (show ((x2 : Int32).toInt + (x3 : Int32).toInt ≤ 40) from hr_a0_0), (show LedOK f0 f1 x1.toInt x2.toInt x3.toInt from hg_led)⟩⟩ (g_psub (wc := [(a0, .inr (2, [.ref a1, .ref a2, .ref a3, .int x0, .int x1, .int x2, .int x3, .int x4])), (a1, .inr (8, [.ref a4])), (a4, .inl (cI, 30, .inl f0)), (a3, .inl (cI, 120, .inl f1)), (a2, .inl (cJ, 25, .inr (.inl g0)))]) hP [0, 1, 2, 3, 4] rfl) (hD.sub (ws' := [(a0, .inr (2, [.ref a1, .ref a2, .ref a3, .int x0, .int x1, .int x2, .int x3, .int x4])), (a1, .inr (8, [.ref a4])), (a4, .inl (cI, 30, .inl f0)), (a3, .inl (cI, 120, .inl f1)), (a2, .inl (cJ, 25, .inr (.inl g0)))]) [0, 1, 2, 3, 4] (by decide) rfl) hS
