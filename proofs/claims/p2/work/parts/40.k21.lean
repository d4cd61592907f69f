set_option maxHeartbeats 4000000 in
set_option maxRecDepth 100000 in
theorem k_J7_fill_d0a16_25 (l : Launch) (D : va_G) (cB cC cI cJ : ClassId) (sz : Nat) (a0 : Nat) (y0 : Int64) (g0 : Nat → Int64) : Met l yJ7_fill_d0a16 (.code yJ7_fill_d0a16 cJ7_fill_d0a16 5 none :: lw_gd) ({ frames := 0, cells := 0, slots := 0, locals := 0 }) (gPre D [(cB, .byte), (cC, .char), (cI, .int), (cJ, .long)] [.ref a0, .long y0] [(a0, .inl (cJ, 25, .inr (.inl g0)))] sz) (va_Qv (fun u => True) (gB D (va_A [(a0, .inl (cJ, 25, .inr (.inl g0)))] sz) (fun u : gEx => [(a0, .inl (cJ, 25, .inr (.inl (u.2.2.1 0))))])) (va_A [(a0, .inl (cJ, 25, .inr (.inl g0)))] sz)) 0 0 (va_A [(a0, .inl (cJ, 25, .inr (.inl g0)))] sz) := by
  refine gOf_v (by decide +kernel) (Nat.le_of_ble_eq_true rfl) ?_
  intro p e s m args below meth c ls A Q hx hb hts hown hml hN hK hP hD hA hl hret
  have hown : s.vm.findClass RJ7 = some m.cls := hown
  have hS : va_S A s.heap s.heap [] := va_S.rf
  have hP : va_P D gcl [(a0, .inl (cJ, 25, .inr (.inl g0)))] s.heap := hP
  have hl : lv_has ls 5 [(0, .ref a0), (1, .long y0)] := hl
  have ry0 := n_rngL y0
  refine lv_iconst (pc := 0) (v := 0) hx hb dJ7_fill_d0a16_0 (by decide) ?_
  refine lv_istore_n (pc := 1) (lv' := [(3, .int 0), (0, .ref a0), (1, .long y0)]) hx hb dJ7_fill_d0a16_1 rfl hl (by decide) rfl (fun ls hl => ?_)
  refine lv_aload_n (pc := 2) hx hb dJ7_fill_d0a16_2 rfl (lv_at hl 1 rfl) ?_
  refine va_alen (pc := 3) (v := 25) hx hb hK hP 0 3 rfl rfl rfl dJ7_fill_d0a16_3 ?_
  refine lv_istore (pc := 4) (lv' := [(4, .int 25), (3, .int 0), (0, .ref a0), (1, .long y0)]) hx hb dJ7_fill_d0a16_4 hl (by decide) rfl (fun ls hl => ?_)
  have lp_4 : ∀ (n : Nat) (x_1 : Int32) (g_3 : Nat → Int64) (H : Heap) (locs : List Loc) (ls : Array Slot), (0 ≤ x_1.toInt ∧ x_1.toInt ≤ 2147483647) → (2147483647 - x_1.toInt).toNat < n → va_P D gcl [(a0, .inl (cJ, 25, .inr (.inl g_3)))] H → va_D A [(a0, .inl (cJ, 25, .inr (.inl g_3)))] → va_S A s.heap H locs → lv_has ls 5 [(4, .int 25), (3, .int x_1), (0, .ref a0), (1, .long y0)] → W p l e ({ frames := 0, cells := 0, slots := 0, locals := 0 }) s m args below meth c H locs 0 0 Q (F0 m 6 ls []) := by
    intro n
    induction n with
    | zero => intro x_1 g_3 H locs ls hi_2 hmu; exact absurd hmu (Nat.not_lt_zero _)
    | succ n ih_lp_4 =>
      intro x_1 g_3 H locs ls hi_2 hmu_lp_4 hP hD hS hl
      refine lv_iload_n (pc := 6) hx hb dJ7_fill_d0a16_6 rfl (lv_at hl 1 rfl) ?_
      refine lv_iload (pc := 7) hx hb dJ7_fill_d0a16_7 (lv_at hl 0 rfl) ?_
      refine b_icmp_ge (pc := 9) (tgt := 22) hx hb rfl tI_25  dJ7_fill_d0a16_9 (by decide) (fun c_5 => ?_) (fun c_5 => ?_)
      ·
        exact hret ((fun _ => 0), (fun _ => (fun _ => 0)), (fun k => [g_3].getD k (fun _ => 0)), (fun _ => 0), (fun _ => 0)) dJ7_fill_d0a16_22 trivial (g_psub (wc := [(a0, .inl (cJ, 25, .inr (.inl g_3)))]) hP [0] rfl) (hD.sub (ws' := [(a0, .inl (cJ, 25, .inr (.inl g_3)))]) [0] (by decide) rfl) hS
      ·
        refine lv_aload_n (pc := 12) hx hb dJ7_fill_d0a16_12 rfl (lv_at hl 2 rfl) ?_
        refine lv_iload_n (pc := 13) hx hb dJ7_fill_d0a16_13 rfl (lv_at hl 1 rfl) ?_
        refine lv_lload_n (pc := 14) hx hb dJ7_fill_d0a16_14 rfl (lv_at hl 3 rfl) ?_
        refine g_lastore (pc := 15) hx hb hK hP hD hS 0 3 rfl rfl (n_in rfl (by omega) (by omega)) dJ7_fill_d0a16_15 (fun g_6 H locs hP hD hS => ?_)
        have hP : va_P D gcl [(a0, .inl (cJ, 25, .inr (.inl g_6)))] H := hP
        have hD : va_D A [(a0, .inl (cJ, 25, .inr (.inl g_6)))] := hD
        refine b_iinc (pc := 16) hx hb dJ7_fill_d0a16_16 hl (k := 1) rfl rfl tI_1 (by omega) (by omega) (by decide) (fun x_7 ex_7 ls hl => ?_)
        have hl : lv_has ls 5 [(3, .int x_7), (4, .int 25), (0, .ref a0), (1, .long y0)] := hl
        refine lv_goto (pc := 19) (tgt := 6) hx hb dJ7_fill_d0a16_19 (by decide) ?_
        exact ih_lp_4 x_7 g_6 _ _ ls (by omega) (by omega) hP hD hS (lv_sub hl [1, 0, 2, 3] rfl)
  exact lp_4 _ 0 g0 _ _ ls (by have k0 := tI_0; omega) (Nat.lt_succ_self _) hP hD hS (lv_sub hl [0, 1, 2, 3] rfl)
set_option maxHeartbeats 4000000 in
set_option maxRecDepth 100000 in
theorem k_X2_start (l : Launch) (D : va_G) (cB cC cI cJ : ClassId) (sz : Nat) (a0 a1 a2 a3 a4 a5 a6 a7 a8 a9 : Nat) (x0 x1 x2 x3 x4 x5 x6 x7 x8 x9 x10 x11 : Int32) (f0 f1 : Nat → Int32) (g0 : Nat → Int64) (h_x0 : ((-1) ≤ x0.toInt ∧ x0.toInt ≤ 5)) (h_x1 : (0 ≤ x1.toInt ∧ x1.toInt ≤ 39)) (h_x2 : (0 ≤ x2.toInt ∧ x2.toInt ≤ 40)) (h_x3 : (0 ≤ x3.toInt ∧ x3.toInt ≤ 40)) (h_x5 : ((-1) ≤ x5.toInt ∧ x5.toInt ≤ 8)) (h_x6 : ((-1) ≤ x6.toInt ∧ x6.toInt ≤ 5)) (h_x7 : ((-1) ≤ x7.toInt ∧ x7.toInt ≤ 6)) (h_x8 : (0 ≤ x8.toInt ∧ x8.toInt ≤ 6)) (h_x9 : (0 ≤ x9.toInt ∧ x9.toInt ≤ 16)) : Met l yX2_start (.code yX2_start cX2_start 3 none :: lw_gd) ({ frames := 2, cells := 0, slots := 0, locals := 81 }) (gPre D [(cB, .byte), (cC, .char), (cI, .int), (cJ, .long)] [.ref a0, .ref a1] [(a0, .inr (2, [.ref a2, .ref a3, .ref a4, .int x0, .int x1, .int x2, .int x3, .int x4])), (a1, .inr (1, [.ref a5, .ref a6, .ref a7, .int x5, .int x6, .int x7, .int x8, .int x9, .int x10, .int x11])), (a2, .inr (8, [.ref a8])), (a5, .inr (8, [.ref a9])), (a8, .inl (cI, 30, .inl f0)), (a9, .inl (cI, 30, .inl f1)), (a3, .inl (cJ, 25, .inr (.inl g0)))] sz) (va_Qv (fun u => True) (gB D (va_A [(a0, .inr (2, [.ref a2, .ref a3, .ref a4, .int x0, .int x1, .int x2, .int x3, .int x4])), (a1, .inr (1, [.ref a5, .ref a6, .ref a7, .int x5, .int x6, .int x7, .int x8, .int x9, .int x10, .int x11])), (a2, .inr (8, [.ref a8])), (a5, .inr (8, [.ref a9])), (a8, .inl (cI, 30, .inl f0)), (a9, .inl (cI, 30, .inl f1)), (a3, .inl (cJ, 25, .inr (.inl g0)))] sz) (fun u : gEx => [(a0, .inr (2, [.ref a2, .ref a3, .ref a4, .int x6, .int 0, .int 0, .int 0, .int 0])), (a1, .inr (1, [.ref a5, .ref a6, .ref a7, .int x5, .int x6, .int x7, .int x8, .int x9, .int x10, .int x11])), (a2, .inr (8, [.ref a8])), (a5, .inr (8, [.ref a9])), (a8, .inl (cI, 30, .inl (u.2.1 0))), (a9, .inl (cI, 30, .inl f1)), (a3, .inl (cJ, 25, .inr (.inl (u.2.2.1 0))))])) (va_A [(a0, .inr (2, [.ref a2, .ref a3, .ref a4, .int x0, .int x1, .int x2, .int x3, .int x4])), (a1, .inr (1, [.ref a5, .ref a6, .ref a7, .int x5, .int x6, .int x7, .int x8, .int x9, .int x10, .int x11])), (a2, .inr (8, [.ref a8])), (a5, .inr (8, [.ref a9])), (a8, .inl (cI, 30, .inl f0)), (a9, .inl (cI, 30, .inl f1)), (a3, .inl (cJ, 25, .inr (.inl g0)))] sz)) 0 0 (va_A [(a0, .inr (2, [.ref a2, .ref a3, .ref a4, .int x0, .int x1, .int x2, .int x3, .int x4])), (a1, .inr (1, [.ref a5, .ref a6, .ref a7, .int x5, .int x6, .int x7, .int x8, .int x9, .int x10, .int x11])), (a2, .inr (8, [.ref a8])), (a5, .inr (8, [.ref a9])), (a8, .inl (cI, 30, .inl f0)), (a9, .inl (cI, 30, .inl f1)), (a3, .inl (cJ, 25, .inr (.inl g0)))] sz) := by
  refine gOf_v (by decide +kernel) (Nat.le_of_ble_eq_true rfl) ?_
  intro p e s m args below meth c ls A Q hx hb hts hown hml hN hK hP hD hA hl hret
  have hown : s.vm.findClass RX2 = some m.cls := hown
  have hS : va_S A s.heap s.heap [] := va_S.rf
  have hP : va_P D gcl [(a0, .inr (2, [.ref a2, .ref a3, .ref a4, .int x0, .int x1, .int x2, .int x3, .int x4])), (a1, .inr (1, [.ref a5, .ref a6, .ref a7, .int x5, .int x6, .int x7, .int x8, .int x9, .int x10, .int x11])), (a2, .inr (8, [.ref a8])), (a5, .inr (8, [.ref a9])), (a8, .inl (cI, 30, .inl f0)), (a9, .inl (cI, 30, .inl f1)), (a3, .inl (cJ, 25, .inr (.inl g0)))] s.heap := hP
  have hl : lv_has ls 3 [(0, .ref a0), (1, .ref a1)] := hl
  have rx4 := n_rng x4
  have rx10 := n_rng x10
  have rx11 := n_rng x11
  refine lv_aload_n (pc := 0) hx hb dX2_start_0 rfl (lv_at hl 0 rfl) ?_
  refine va_get (pc := 1) (ci := 2) (v := .ref a2) (C := RX2) (T := TX2) (N := 8) hx hb hts iX2 hown hK hP 0 rfl rfl 0 (by decide) (hts _ tw_391) (fun _ h9 => h9) rfl dX2_start_1 ?_
  refine lv_aload_n (pc := 4) hx hb dX2_start_4 rfl (lv_at hl 1 rfl) ?_
  refine va_getN (pc := 5) (ci := 1) (v := .ref a5) (C := RX1) (T := TX1) (N := 10) hx hb hts iX1 hown hK hP 1 rfl rfl 0 (by decide) (va_Nw.use rfl (hN _ tn_98)) (fun _ h9 => h9) rfl dX2_start_5 ?_
  refine gc_v (pc := 8) (wc := [(a2, .inr (8, [.ref a8])), (a5, .inr (8, [.ref a9])), (a8, .inl (cI, 30, .inl f0)), (a9, .inl (cI, 30, .inl f1))]) (wr := [(a0, .inr (2, [.ref a2, .ref a3, .ref a4, .int x0, .int x1, .int x2, .int x3, .int x4])), (a1, .inr (1, [.ref a5, .ref a6, .ref a7, .int x5, .int x6, .int x7, .int x8, .int x9, .int x10, .int x11])), (a3, .inl (cJ, 25, .inr (.inl g0)))]) hP hD hS hA [2, 3, 4, 5] [0, 1, 6] rfl rfl (by decide) (by decide) (by decide) (fun hPc hDc => va_runV (As := [.ref a5]) (rest := []) ⟨hx, hb, hml, hown, hts⟩ (k_X8_copyFrom l D cB cC cI cJ _ a2 a5 a8 a9 f0 f1) ⟨gcwB hts tw_742 tw_5 tw_739 hd_yX8_copyFrom ⟨Nat.le_of_ble_eq_true rfl, Nat.le_of_ble_eq_true rfl⟩, hts _ tw_740, hts _ tw_741⟩ ⟨gblind, va_recv hK hPc (ci := 8) (q0 := 0) rfl rfl, (gpreS hPc hK hDc hN).2⟩ rfl rfl hl.1 rfl (lv_room (Nat.le_of_ble_eq_true rfl)) dX2_start_8 ⟨Nat.le_of_ble_eq_true rfl, Nat.le_of_ble_eq_true rfl⟩) (fun u_1 H locs hw_3 hP hD hS => ?_)
  have hP : va_P D gcl [(a0, .inr (2, [.ref a2, .ref a3, .ref a4, .int x0, .int x1, .int x2, .int x3, .int x4])), (a1, .inr (1, [.ref a5, .ref a6, .ref a7, .int x5, .int x6, .int x7, .int x8, .int x9, .int x10, .int x11])), (a3, .inl (cJ, 25, .inr (.inl g0))), (a2, .inr (8, [.ref a8])), (a5, .inr (8, [.ref a9])), (a8, .inl (cI, 30, .inl (u_1.2.1 0))), (a9, .inl (cI, 30, .inl f1))] H := hP
  have hD : va_D A [(a0, .inr (2, [.ref a2, .ref a3, .ref a4, .int x0, .int x1, .int x2, .int x3, .int x4])), (a1, .inr (1, [.ref a5, .ref a6, .ref a7, .int x5, .int x6, .int x7, .int x8, .int x9, .int x10, .int x11])), (a3, .inl (cJ, 25, .inr (.inl g0))), (a2, .inr (8, [.ref a8])), (a5, .inr (8, [.ref a9])), (a8, .inl (cI, 30, .inl (u_1.2.1 0))), (a9, .inl (cI, 30, .inl f1))] := hD
  refine lv_aload_n (pc := 11) hx hb dX2_start_11 rfl (lv_at hl 0 rfl) ?_
  refine lv_aload_n (pc := 12) hx hb dX2_start_12 rfl (lv_at hl 1 rfl) ?_
  refine va_getN (pc := 13) (ci := 1) (v := .int x6) (C := RX1) (T := TX1) (N := 10) hx hb hts iX1 hown hK hP 1 rfl rfl 4 (by decide) (va_Nw.use rfl (hN _ tn_118)) (fun _ h9 => h9) rfl dX2_start_13 ?_
  refine va_put (pc := 16) (ci := 2) (v := .int x6) (ty := .int) (C := RX2) (T := TX2) (N := 8) hx hb hts iX2 tyX2 tyX2_ok nmX2 hown hK hP hD hS 0 rfl rfl 3 (by decide) (hts _ tw_395) (fun _ h9 => h9) rfl (by decide +kernel) rfl rfl (Nat.le_of_ble_eq_true rfl) dX2_start_16 (fun H locs hP hD hS => ?_)
  have hP : va_P D gcl [(a0, .inr (2, [.ref a2, .ref a3, .ref a4, .int x6, .int x1, .int x2, .int x3, .int x4])), (a1, .inr (1, [.ref a5, .ref a6, .ref a7, .int x5, .int x6, .int x7, .int x8, .int x9, .int x10, .int x11])), (a3, .inl (cJ, 25, .inr (.inl g0))), (a2, .inr (8, [.ref a8])), (a5, .inr (8, [.ref a9])), (a8, .inl (cI, 30, .inl (u_1.2.1 0))), (a9, .inl (cI, 30, .inl f1))] H := hP
  have hD : va_D A [(a0, .inr (2, [.ref a2, .ref a3, .ref a4, .int x6, .int x1, .int x2, .int x3, .int x4])), (a1, .inr (1, [.ref a5, .ref a6, .ref a7, .int x5, .int x6, .int x7, .int x8, .int x9, .int x10, .int x11])), (a3, .inl (cJ, 25, .inr (.inl g0))), (a2, .inr (8, [.ref a8])), (a5, .inr (8, [.ref a9])), (a8, .inl (cI, 30, .inl (u_1.2.1 0))), (a9, .inl (cI, 30, .inl f1))] := hD
  refine lv_aload_n (pc := 19) hx hb dX2_start_19 rfl (lv_at hl 0 rfl) ?_
  refine va_get (pc := 20) (ci := 2) (v := .ref a3) (C := RX2) (T := TX2) (N := 8) hx hb hts iX2 hown hK hP 0 rfl rfl 1 (by decide) (hts _ tw_393) (fun _ h9 => h9) rfl dX2_start_20 ?_
  refine lv_lconst (pc := 23) (v := 0) hx hb dX2_start_23 (by decide) ?_
  refine gc_v (pc := 24) (wc := [(a3, .inl (cJ, 25, .inr (.inl g0)))]) (wr := [(a0, .inr (2, [.ref a2, .ref a3, .ref a4, .int x6, .int x1, .int x2, .int x3, .int x4])), (a1, .inr (1, [.ref a5, .ref a6, .ref a7, .int x5, .int x6, .int x7, .int x8, .int x9, .int x10, .int x11])), (a2, .inr (8, [.ref a8])), (a5, .inr (8, [.ref a9])), (a8, .inl (cI, 30, .inl (u_1.2.1 0))), (a9, .inl (cI, 30, .inl f1))]) hP hD hS hA [2] [0, 1, 3, 4, 5, 6] rfl rfl (by decide) (by decide) (by decide) (fun hPc hDc => va_runS (As := [.ref a3, .long 0]) (rest := []) ⟨hx, hb, hml, hown, hts⟩ (k_J7_fill_d0a16_25 l D cB cC cI cJ _ a3 0 g0) ⟨gcwB hts tw_292 tw_10 tw_746 hd_yJ7_fill_d0a16 ⟨Nat.le_of_ble_eq_true rfl, Nat.le_of_ble_eq_true rfl⟩, hts _ tw_291⟩ (gpreS hPc hK hDc hN) rfl rfl hl.1 rfl (lv_room (Nat.le_of_ble_eq_true rfl)) dX2_start_24 ⟨Nat.le_of_ble_eq_true rfl, Nat.le_of_ble_eq_true rfl⟩) (fun u_4 H locs hw_6 hP hD hS => ?_)
  have hP : va_P D gcl [(a0, .inr (2, [.ref a2, .ref a3, .ref a4, .int x6, .int x1, .int x2, .int x3, .int x4])), (a1, .inr (1, [.ref a5, .ref a6, .ref a7, .int x5, .int x6, .int x7, .int x8, .int x9, .int x10, .int x11])), (a2, .inr (8, [.ref a8])), (a5, .inr (8, [.ref a9])), (a8, .inl (cI, 30, .inl (u_1.2.1 0))), (a9, .inl (cI, 30, .inl f1)), (a3, .inl (cJ, 25, .inr (.inl (u_4.2.2.1 0))))] H := hP
  have hD : va_D A [(a0, .inr (2, [.ref a2, .ref a3, .ref a4, .int x6, .int x1, .int x2, .int x3, .int x4])), (a1, .inr (1, [.ref a5, .ref a6, .ref a7, .int x5, .int x6, .int x7, .int x8, .int x9, .int x10, .int x11])), (a2, .inr (8, [.ref a8])), (a5, .inr (8, [.ref a9])), (a8, .inl (cI, 30, .inl (u_1.2.1 0))), (a9, .inl (cI, 30, .inl f1)), (a3, .inl (cJ, 25, .inr (.inl (u_4.2.2.1 0))))] := hD
  refine lv_iconst (pc := 27) (v := 0) hx hb dX2_start_27 (by decide) ?_
  refine lv_istore_n (pc := 28) (lv' := [(2, .int 0), (0, .ref a0), (1, .ref a1)]) hx hb dX2_start_28 rfl hl (by decide) rfl (fun ls hl => ?_)
  have lp_10 : ∀ (n : Nat) (x_7 : Int32) (g_9 : Nat → Int64) (H : Heap) (locs : List Loc) (ls : Array Slot), (0 ≤ x_7.toInt ∧ x_7.toInt ≤ 2147483647) → (2147483647 - x_7.toInt).toNat < n → va_P D gcl [(a0, .inr (2, [.ref a2, .ref a3, .ref a4, .int x6, .int x1, .int x2, .int x3, .int x4])), (a1, .inr (1, [.ref a5, .ref a6, .ref a7, .int x5, .int x6, .int x7, .int x8, .int x9, .int x10, .int x11])), (a2, .inr (8, [.ref a8])), (a5, .inr (8, [.ref a9])), (a8, .inl (cI, 30, .inl (u_1.2.1 0))), (a9, .inl (cI, 30, .inl f1)), (a3, .inl (cJ, 25, .inr (.inl g_9)))] H → va_D A [(a0, .inr (2, [.ref a2, .ref a3, .ref a4, .int x6, .int x1, .int x2, .int x3, .int x4])), (a1, .inr (1, [.ref a5, .ref a6, .ref a7, .int x5, .int x6, .int x7, .int x8, .int x9, .int x10, .int x11])), (a2, .inr (8, [.ref a8])), (a5, .inr (8, [.ref a9])), (a8, .inl (cI, 30, .inl (u_1.2.1 0))), (a9, .inl (cI, 30, .inl f1)), (a3, .inl (cJ, 25, .inr (.inl g_9)))] → va_S A s.heap H locs → lv_has ls 3 [(2, .int x_7), (0, .ref a0), (1, .ref a1)] → W p l e ({ frames := 2, cells := 0, slots := 0, locals := 81 }) s m args below meth c H locs 0 0 Q (F0 m 29 ls []) := by
    intro n
    induction n with
    | zero => intro x_7 g_9 H locs ls hi_8 hmu; exact absurd hmu (Nat.not_lt_zero _)
    | succ n ih_lp_10 =>
      intro x_7 g_9 H locs ls hi_8 hmu_lp_10 hP hD hS hl
      refine lv_iload_n (pc := 29) hx hb dX2_start_29 rfl (lv_at hl 0 rfl) ?_
      refine lv_iconst (pc := 30) (v := 5) hx hb dX2_start_30 (by decide) ?_
      refine b_icmp_ge (pc := 31) (tgt := 51) hx hb rfl tI_5  dX2_start_31 (by decide) (fun c_11 => ?_) (fun c_11 => ?_)
      ·
        refine lv_aload_n (pc := 51) hx hb dX2_start_51 rfl (lv_at hl 1 rfl) ?_
        refine lv_iconst (pc := 52) (v := 0) hx hb dX2_start_52 (by decide) ?_
        refine va_put (pc := 53) (ci := 2) (v := .int 0) (ty := .int) (C := RX2) (T := TX2) (N := 8) hx hb hts iX2 tyX2 tyX2_ok nmX2 hown hK hP hD hS 0 rfl rfl 4 (by decide) (hts _ tw_396) (fun _ h9 => h9) rfl (by decide +kernel) (by decide +kernel) (by decide +kernel) (Nat.le_of_ble_eq_true rfl) dX2_start_53 (fun H locs hP hD hS => ?_)
        have hP : va_P D gcl [(a0, .inr (2, [.ref a2, .ref a3, .ref a4, .int x6, .int 0, .int x2, .int x3, .int x4])), (a1, .inr (1, [.ref a5, .ref a6, .ref a7, .int x5, .int x6, .int x7, .int x8, .int x9, .int x10, .int x11])), (a2, .inr (8, [.ref a8])), (a5, .inr (8, [.ref a9])), (a8, .inl (cI, 30, .inl (u_1.2.1 0))), (a9, .inl (cI, 30, .inl f1)), (a3, .inl (cJ, 25, .inr (.inl g_9)))] H := hP
        have hD : va_D A [(a0, .inr (2, [.ref a2, .ref a3, .ref a4, .int x6, .int 0, .int x2, .int x3, .int x4])), (a1, .inr (1, [.ref a5, .ref a6, .ref a7, .int x5, .int x6, .int x7, .int x8, .int x9, .int x10, .int x11])), (a2, .inr (8, [.ref a8])), (a5, .inr (8, [.ref a9])), (a8, .inl (cI, 30, .inl (u_1.2.1 0))), (a9, .inl (cI, 30, .inl f1)), (a3, .inl (cJ, 25, .inr (.inl g_9)))] := hD
        refine lv_aload_n (pc := 56) hx hb dX2_start_56 rfl (lv_at hl 1 rfl) ?_
        refine lv_iconst (pc := 57) (v := 0) hx hb dX2_start_57 (by decide) ?_
        refine va_put (pc := 58) (ci := 2) (v := .int 0) (ty := .int) (C := RX2) (T := TX2) (N := 8) hx hb hts iX2 tyX2 tyX2_ok nmX2 hown hK hP hD hS 0 rfl rfl 5 (by decide) (hts _ tw_397) (fun _ h9 => h9) rfl (by decide +kernel) (by decide +kernel) (by decide +kernel) (Nat.le_of_ble_eq_true rfl) dX2_start_58 (fun H locs hP hD hS => ?_)
        have hP : va_P D gcl [(a0, .inr (2, [.ref a2, .ref a3, .ref a4, .int x6, .int 0, .int 0, .int x3, .int x4])), (a1, .inr (1, [.ref a5, .ref a6, .ref a7, .int x5, .int x6, .int x7, .int x8, .int x9, .int x10, .int x11])), (a2, .inr (8, [.ref a8])), (a5, .inr (8, [.ref a9])), (a8, .inl (cI, 30, .inl (u_1.2.1 0))), (a9, .inl (cI, 30, .inl f1)), (a3, .inl (cJ, 25, .inr (.inl g_9)))] H := hP
        have hD : va_D A [(a0, .inr (2, [.ref a2, .ref a3, .ref a4, .int x6, .int 0, .int 0, .int x3, .int x4])), (a1, .inr (1, [.ref a5, .ref a6, .ref a7, .int x5, .int x6, .int x7, .int x8, .int x9, .int x10, .int x11])), (a2, .inr (8, [.ref a8])), (a5, .inr (8, [.ref a9])), (a8, .inl (cI, 30, .inl (u_1.2.1 0))), (a9, .inl (cI, 30, .inl f1)), (a3, .inl (cJ, 25, .inr (.inl g_9)))] := hD
        refine lv_aload_n (pc := 61) hx hb dX2_start_61 rfl (lv_at hl 1 rfl) ?_
        refine lv_iconst (pc := 62) (v := 0) hx hb dX2_start_62 (by decide) ?_
        refine va_put (pc := 63) (ci := 2) (v := .int 0) (ty := .int) (C := RX2) (T := TX2) (N := 8) hx hb hts iX2 tyX2 tyX2_ok nmX2 hown hK hP hD hS 0 rfl rfl 6 (by decide) (hts _ tw_399) (fun _ h9 => h9) rfl (by decide +kernel) (by decide +kernel) (by decide +kernel) (Nat.le_of_ble_eq_true rfl) dX2_start_63 (fun H locs hP hD hS => ?_)
        have hP : va_P D gcl [(a0, .inr (2, [.ref a2, .ref a3, .ref a4, .int x6, .int 0, .int 0, .int 0, .int x4])), (a1, .inr (1, [.ref a5, .ref a6, .ref a7, .int x5, .int x6, .int x7, .int x8, .int x9, .int x10, .int x11])), (a2, .inr (8, [.ref a8])), (a5, .inr (8, [.ref a9])), (a8, .inl (cI, 30, .inl (u_1.2.1 0))), (a9, .inl (cI, 30, .inl f1)), (a3, .inl (cJ, 25, .inr (.inl g_9)))] H := hP
        have hD : va_D A [(a0, .inr (2, [.ref a2, .ref a3, .ref a4, .int x6, .int 0, .int 0, .int 0, .int x4])), (a1, .inr (1, [.ref a5, .ref a6, .ref a7, .int x5, .int x6, .int x7, .int x8, .int x9, .int x10, .int x11])), (a2, .inr (8, [.ref a8])), (a5, .inr (8, [.ref a9])), (a8, .inl (cI, 30, .inl (u_1.2.1 0))), (a9, .inl (cI, 30, .inl f1)), (a3, .inl (cJ, 25, .inr (.inl g_9)))] := hD
        refine lv_aload_n (pc := 66) hx hb dX2_start_66 rfl (lv_at hl 1 rfl) ?_
        refine lv_iconst (pc := 67) (v := 0) hx hb dX2_start_67 (by decide) ?_
        refine va_put (pc := 68) (ci := 2) (v := .int 0) (ty := .int) (C := RX2) (T := TX2) (N := 8) hx hb hts iX2 tyX2 tyX2_ok nmX2 hown hK hP hD hS 0 rfl rfl 7 (by decide) (hts _ tw_401) (fun _ h9 => h9) rfl (by decide +kernel) (by decide +kernel) (by decide +kernel) (Nat.le_of_ble_eq_true rfl) dX2_start_68 (fun H locs hP hD hS => ?_)
        have hP : va_P D gcl [(a0, .inr (2, [.ref a2, .ref a3, .ref a4, .int x6, .int 0, .int 0, .int 0, .int 0])), (a1, .inr (1, [.ref a5, .ref a6, .ref a7, .int x5, .int x6, .int x7, .int x8, .int x9, .int x10, .int x11])), (a2, .inr (8, [.ref a8])), (a5, .inr (8, [.ref a9])), (a8, .inl (cI, 30, .inl (u_1.2.1 0))), (a9, .inl (cI, 30, .inl f1)), (a3, .inl (cJ, 25, .inr (.inl g_9)))] H := hP
        have hD : va_D A [(a0, .inr (2, [.ref a2, .ref a3, .ref a4, .int x6, .int 0, .int 0, .int 0, .int 0])), (a1, .inr (1, [.ref a5, .ref a6, .ref a7, .int x5, .int x6, .int x7, .int x8, .int x9, .int x10, .int x11])), (a2, .inr (8, [.ref a8])), (a5, .inr (8, [.ref a9])), (a8, .inl (cI, 30, .inl (u_1.2.1 0))), (a9, .inl (cI, 30, .inl f1)), (a3, .inl (cJ, 25, .inr (.inl g_9)))] := hD
        exact hret ((fun _ => 0), (fun k => [(u_1.2.1 0)].getD k (fun _ => 0)), (fun k => [g_9].getD k (fun _ => 0)), (fun _ => 0), (fun _ => 0)) dX2_start_71 trivial (g_psub (wc := [(a0, .inr (2, [.ref a2, .ref a3, .ref a4, .int x6, .int 0, .int 0, .int 0, .int 0])), (a1, .inr (1, [.ref a5, .ref a6, .ref a7, .int x5, .int x6, .int x7, .int x8, .int x9, .int x10, .int x11])), (a2, .inr (8, [.ref a8])), (a5, .inr (8, [.ref a9])), (a8, .inl (cI, 30, .inl (u_1.2.1 0))), (a9, .inl (cI, 30, .inl f1)), (a3, .inl (cJ, 25, .inr (.inl g_9)))]) hP [0, 1, 2, 3, 4, 5, 6] rfl) (hD.sub (ws' := [(a0, .inr (2, [.ref a2, .ref a3, .ref a4, .int x6, .int 0, .int 0, .int 0, .int 0])), (a1, .inr (1, [.ref a5, .ref a6, .ref a7, .int x5, .int x6, .int x7, .int x8, .int x9, .int x10, .int x11])), (a2, .inr (8, [.ref a8])), (a5, .inr (8, [.ref a9])), (a8, .inl (cI, 30, .inl (u_1.2.1 0))), (a9, .inl (cI, 30, .inl f1)), (a3, .inl (cJ, 25, .inr (.inl g_9)))]) [0, 1, 2, 3, 4, 5, 6] (by decide) rfl) hS
      ·
        refine lv_aload_n (pc := 34) hx hb dX2_start_34 rfl (lv_at hl 1 rfl) ?_
        refine va_get (pc := 35) (ci := 2) (v := .ref a3) (C := RX2) (T := TX2) (N := 8) hx hb hts iX2 hown hK hP 0 rfl rfl 1 (by decide) (hts _ tw_393) (fun _ h9 => h9) rfl dX2_start_35 ?_
        refine lv_iload_n (pc := 38) hx hb dX2_start_38 rfl (lv_at hl 0 rfl) ?_
        refine lv_iconst (pc := 39) (v := 5) hx hb dX2_start_39 (by decide) ?_
        refine b_imul (pc := 40) hx hb rfl tI_5 (by omega) (by omega) dX2_start_40 (fun x_12 ex_12 => ?_)
        refine lv_iload_n (pc := 41) hx hb dX2_start_41 rfl (lv_at hl 0 rfl) ?_
        refine b_iadd (pc := 42) hx hb rfl rfl (by omega) (by omega) dX2_start_42 (fun x_13 ex_13 => ?_)
        refine lv_lconst (pc := 43) (v := 1) hx hb dX2_start_43 (by decide) ?_
        refine g_lastore (pc := 44) hx hb hK hP hD hS 6 3 rfl rfl (n_in rfl (by omega) (by omega)) dX2_start_44 (fun g_14 H locs hP hD hS => ?_)
        have hP : va_P D gcl [(a0, .inr (2, [.ref a2, .ref a3, .ref a4, .int x6, .int x1, .int x2, .int x3, .int x4])), (a1, .inr (1, [.ref a5, .ref a6, .ref a7, .int x5, .int x6, .int x7, .int x8, .int x9, .int x10, .int x11])), (a2, .inr (8, [.ref a8])), (a5, .inr (8, [.ref a9])), (a8, .inl (cI, 30, .inl (u_1.2.1 0))), (a9, .inl (cI, 30, .inl f1)), (a3, .inl (cJ, 25, .inr (.inl g_14)))] H := hP
        have hD : va_D A [(a0, .inr (2, [.ref a2, .ref a3, .ref a4, .int x6, .int x1, .int x2, .int x3, .int x4])), (a1, .inr (1, [.ref a5, .ref a6, .ref a7, .int x5, .int x6, .int x7, .int x8, .int x9, .int x10, .int x11])), (a2, .inr (8, [.ref a8])), (a5, .inr (8, [.ref a9])), (a8, .inl (cI, 30, .inl (u_1.2.1 0))), (a9, .inl (cI, 30, .inl f1)), (a3, .inl (cJ, 25, .inr (.inl g_14)))] := hD
        refine b_iinc (pc := 45) hx hb dX2_start_45 hl (k := 0) rfl rfl tI_1 (by omega) (by omega) (by decide) (fun x_15 ex_15 ls hl => ?_)
        have hl : lv_has ls 3 [(2, .int x_15), (0, .ref a0), (1, .ref a1)] := hl
        refine lv_goto (pc := 48) (tgt := 29) hx hb dX2_start_48 (by decide) ?_
        exact ih_lp_10 x_15 g_14 _ _ ls (by omega) (by omega) hP hD hS (lv_sub hl [0, 1, 2] rfl)
  exact lp_10 _ 0 (u_4.2.2.1 0) _ _ ls (by have k0 := tI_0; omega) (Nat.lt_succ_self _) hP hD hS (lv_sub hl [0, 1, 2] rfl)
