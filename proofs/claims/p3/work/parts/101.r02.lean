set_option maxHeartbeats 4000000 in
set_option maxRecDepth 100000 in
theorem k_J7_fill_53178_30_x (l : Launch) (D : va_G) (cB cC cI cJ : ClassId) (sz : Nat) (a0 : Nat) (x0 : Int32) (f0 : Nat → Int32) : Met l yJ7_fill_53178 (.code yJ7_fill_53178 cJ7_fill_53178 4 none :: lw_gd) ({ frames := 0, cells := 0, slots := 0, locals := 0 }) (gPre D [(cB, .byte), (cC, .char), (cI, .int), (cJ, .long)] [.ref a0, .int x0] [(a0, .inl (cI, 30, .inl f0))] sz) (va_Qv (fun u => (fillQ (u.2.1 0) x0 30)) (gB D (va_A [(a0, .inl (cI, 30, .inl f0))] sz) (fun u : gEx => [(a0, .inl (cI, 30, .inl (u.2.1 0)))])) (va_A [(a0, .inl (cI, 30, .inl f0))] sz)) 0 0 (va_A [(a0, .inl (cI, 30, .inl f0))] sz) := by
  refine gOf_v (by decide +kernel) (Nat.le_of_ble_eq_true rfl) ?_
  intro p e s m args below meth c ls A Q hx hb hts hown hml hN hK hP hD hA hl hret
  have hown : s.vm.findClass RJ7 = some m.cls := hown
  have hS : va_S A s.heap s.heap [] := va_S.rf
  have hP : va_P D gcl [(a0, .inl (cI, 30, .inl f0))] s.heap := hP
  have hl : lv_has ls 4 [(0, .ref a0), (1, .int x0)] := hl
  have rx0 := n_rng x0
  refine lv_iconst (pc := 0) (v := 0) hx hb dJ7_fill_53178_0 (by decide) ?_
  refine lv_istore_n (pc := 1) (lv' := [(2, .int 0), (0, .ref a0), (1, .int x0)]) hx hb dJ7_fill_53178_1 rfl hl (by decide) rfl (fun ls hl => ?_)
  refine lv_aload_n (pc := 2) hx hb dJ7_fill_53178_2 rfl (lv_at hl 1 rfl) ?_
  refine va_alen (pc := 3) (v := 30) hx hb hK hP 0 2 rfl rfl rfl dJ7_fill_53178_3 ?_
  refine lv_istore_n (pc := 4) (lv' := [(3, .int 30), (2, .int 0), (0, .ref a0), (1, .int x0)]) hx hb dJ7_fill_53178_4 rfl hl (by decide) rfl (fun ls hl => ?_)
  have lp_5 : ∀ (n : Nat) (x_1 : Int32) (f_3 : Nat → Int32) (H : Heap) (locs : List Loc) (ls : Array Slot), (0 ≤ x_1.toInt ∧ x_1.toInt ≤ 2147483647) → (fillQ f_3 x0 x_1.toInt) → (2147483647 - x_1.toInt).toNat < n → va_P D gcl [(a0, .inl (cI, 30, .inl f_3))] H → va_D A [(a0, .inl (cI, 30, .inl f_3))] → va_S A s.heap H locs → lv_has ls 4 [(3, .int 30), (2, .int x_1), (0, .ref a0), (1, .int x0)] → W p l e ({ frames := 0, cells := 0, slots := 0, locals := 0 }) s m args below meth c H locs 0 0 Q (F0 m 5 ls []) := by
    intro n
    induction n with
    | zero => intro x_1 f_3 H locs ls hi_2 hi_4 hmu; exact absurd hmu (Nat.not_lt_zero _)
    | succ n ih_lp_5 =>
      intro x_1 f_3 H locs ls hi_2 hi_4 hmu_lp_5 hP hD hS hl
      refine lv_iload_n (pc := 5) hx hb dJ7_fill_53178_5 rfl (lv_at hl 1 rfl) ?_
      refine lv_iload_n (pc := 6) hx hb dJ7_fill_53178_6 rfl (lv_at hl 0 rfl) ?_
      refine b_icmp_ge (pc := 7) (tgt := 20) hx hb rfl tI_30  dJ7_fill_53178_7 (by decide) (fun c_6 => ?_) (fun c_6 => ?_)
      ·
        exact hret ((fun _ => 0), (fun k => [f_3].getD k (fun _ => 0)), (fun _ => (fun _ => 0)), (fun _ => 0), (fun _ => 0)) dJ7_fill_53178_20 (show fillQ f_3 x0 30 from (fun j hj => hi_4 j (by omega))) (g_psub (wc := [(a0, .inl (cI, 30, .inl f_3))]) hP [0] rfl) (hD.sub (ws' := [(a0, .inl (cI, 30, .inl f_3))]) [0] (by decide) rfl) hS
      ·
        refine lv_aload_n (pc := 10) hx hb dJ7_fill_53178_10 rfl (lv_at hl 2 rfl) ?_
        refine lv_iload_n (pc := 11) hx hb dJ7_fill_53178_11 rfl (lv_at hl 1 rfl) ?_
        refine lv_iload_n (pc := 12) hx hb dJ7_fill_53178_12 rfl (lv_at hl 3 rfl) ?_
        refine e_iastore (pc := 13) hx hb hK hP hD hS 0 2 rfl rfl (n_in rfl (by omega) (by omega)) dJ7_fill_53178_13 (fun f_7 ef_7 H locs hP hD hS => ?_)
        have hP : va_P D gcl [(a0, .inl (cI, 30, .inl f_7))] H := hP
        have hD : va_D A [(a0, .inl (cI, 30, .inl f_7))] := hD
        refine b_iinc (pc := 14) hx hb dJ7_fill_53178_14 hl (k := 1) rfl rfl tI_1 (by omega) (by omega) (by decide) (fun x_8 ex_8 ls hl => ?_)
        have hl : lv_has ls 4 [(2, .int x_8), (3, .int 30), (0, .ref a0), (1, .int x0)] := hl
        refine lv_goto (pc := 17) (tgt := 5) hx hb dJ7_fill_53178_17 (by decide) ?_
        exact ih_lp_5 x_8 f_7 _ _ ls (by omega) (fill_step hi_4 ef_7 rfl (by omega) (by omega)) (by omega) hP hD hS (lv_sub hl [1, 0, 2, 3] rfl)
  exact lp_5 _ 0 f0 _ _ ls (by have k0 := tI_0; omega) (fun j hj => absurd hj (by have q := tI_0; omega)) (Nat.lt_succ_self _) hP hD hS (lv_sub hl [0, 1, 2, 3] rfl)
set_option maxHeartbeats 4000000 in
set_option maxRecDepth 100000 in
theorem k_X8_clear_x (l : Launch) (D : va_G) (cB cC cI cJ : ClassId) (sz : Nat) (a0 a1 : Nat) (f0 : Nat → Int32) : Met l yX8_clear (.code yX8_clear cX8_clear 1 none :: lw_gd) ({ frames := 1, cells := 0, slots := 0, locals := 23 }) (gPre D [(cB, .byte), (cC, .char), (cI, .int), (cJ, .long)] [.ref a0] [(a0, .inr (8, [.ref a1])), (a1, .inl (cI, 30, .inl f0))] sz) (va_Qv (fun u => (TB (u.2.1 0) 99)) (gB D (va_A [(a0, .inr (8, [.ref a1])), (a1, .inl (cI, 30, .inl f0))] sz) (fun u : gEx => [(a0, .inr (8, [.ref a1])), (a1, .inl (cI, 30, .inl (u.2.1 0)))])) (va_A [(a0, .inr (8, [.ref a1])), (a1, .inl (cI, 30, .inl f0))] sz)) 0 0 (va_A [(a0, .inr (8, [.ref a1])), (a1, .inl (cI, 30, .inl f0))] sz) := by
  refine gOf_v (by decide +kernel) (Nat.le_of_ble_eq_true rfl) ?_
  intro p e s m args below meth c ls A Q hx hb hts hown hml hN hK hP hD hA hl hret
  have hown : s.vm.findClass RX8 = some m.cls := hown
  have hS : va_S A s.heap s.heap [] := va_S.rf
  have hP : va_P D gcl [(a0, .inr (8, [.ref a1])), (a1, .inl (cI, 30, .inl f0))] s.heap := hP
  have hl : lv_has ls 1 [(0, .ref a0)] := hl
  refine lv_aload_n (pc := 0) hx hb dX8_clear_0 rfl (lv_at hl 0 rfl) ?_
  refine va_get (pc := 1) (ci := 8) (v := .ref a1) (C := RX8) (T := TX8) (N := 1) hx hb hts iX8 hown hK hP 0 rfl rfl 0 (by decide) (hts _ tw_62) (fun _ h9 => h9) rfl dX8_clear_1 ?_
  refine lv_iconst (pc := 4) (v := 0) hx hb dX8_clear_4 (by decide) ?_
  refine gc_v (pc := 5) (wc := [(a1, .inl (cI, 30, .inl f0))]) (wr := [(a0, .inr (8, [.ref a1]))]) hP hD hS hA [1] [0] rfl rfl (by decide) (by decide) (by decide) (fun hPc hDc => va_runS (As := [.ref a1, .int 0]) (rest := []) ⟨hx, hb, hml, hown, hts⟩ (k_J7_fill_53178_30_x l D cB cC cI cJ _ a1 0 f0) ⟨gcwB hts tw_505 tw_10 tw_503 hd_yJ7_fill_53178 ⟨Nat.le_of_ble_eq_true rfl, Nat.le_of_ble_eq_true rfl⟩, hts _ tw_504⟩ (gpreS hPc hK hDc hN) rfl rfl hl.1 rfl (lv_room (Nat.le_of_ble_eq_true rfl)) dX8_clear_5 ⟨Nat.le_of_ble_eq_true rfl, Nat.le_of_ble_eq_true rfl⟩) (fun u_1 H locs hw_3 hP hD hS => ?_)
  have hP : va_P D gcl [(a0, .inr (8, [.ref a1])), (a1, .inl (cI, 30, .inl (u_1.2.1 0)))] H := hP
  have hD : va_D A [(a0, .inr (8, [.ref a1])), (a1, .inl (cI, 30, .inl (u_1.2.1 0)))] := hD
  have hw_4 : (fillQ (u_1.2.1 0) (0 : Int32) 30) := hw_3
  have kk0_r_2 := tI_0
  exact hret ((fun _ => 0), (fun k => [(u_1.2.1 0)].getD k (fun _ => 0)), (fun _ => (fun _ => 0)), (fun _ => 0), (fun _ => 0)) dX8_clear_8 (show TB (u_1.2.1 0) 99 from fill_TB hw_4 (by omega) (by decide)) (g_psub (wc := [(a0, .inr (8, [.ref a1])), (a1, .inl (cI, 30, .inl (u_1.2.1 0)))]) hP [0, 1] rfl) (hD.sub (ws' := [(a0, .inr (8, [.ref a1])), (a1, .inl (cI, 30, .inl (u_1.2.1 0)))]) [0, 1] (by decide) rfl) hS
set_option maxHeartbeats 4000000 in
set_option maxRecDepth 100000 in
theorem k_X1_clear_x (l : Launch) (D : va_G) (cB cC cI cJ : ClassId) (sz : Nat) (a0 a1 a2 a3 a4 a5 a6 a7 a8 a9 : Nat) (x0 x1 x2 x3 x4 x5 x6 x7 x8 : Int32) (f0 : Nat → Int32) (h_x0 : ((-1) ≤ x0.toInt ∧ x0.toInt ≤ 8)) (h_x1 : ((-1) ≤ x1.toInt ∧ x1.toInt ≤ 5)) (h_x2 : ((-1) ≤ x2.toInt ∧ x2.toInt ≤ 6)) (h_x3 : (0 ≤ x3.toInt ∧ x3.toInt ≤ 6)) (h_x4 : (0 ≤ x4.toInt ∧ x4.toInt ≤ 16)) (h_x7 : (0 ≤ x7.toInt ∧ x7.toInt ≤ 1600)) (h_x8 : (0 ≤ x8.toInt ∧ x8.toInt ≤ 8)) : Met l yX1_clear (.code yX1_clear cX1_clear 1 none :: lw_gd) ({ frames := 2, cells := 0, slots := 0, locals := 43 }) (gPre D [(cB, .byte), (cC, .char), (cI, .int), (cJ, .long)] [.ref a0] [(a0, .inr (1, [.ref a1, .ref a2, .ref a3, .int x0, .int x1, .int x2, .int x3, .int x4, .int x5, .int x6])), (a1, .inr (8, [.ref a4])), (a4, .inl (cI, 30, .inl f0)), (a2, .inr (5, [.ref a5, .ref a6, .ref a7, .ref a8, .ref a9, .int x7, .int x8]))] sz) (va_Qv (fun u => (TB (u.2.1 0) 99)) (gB D (va_A [(a0, .inr (1, [.ref a1, .ref a2, .ref a3, .int x0, .int x1, .int x2, .int x3, .int x4, .int x5, .int x6])), (a1, .inr (8, [.ref a4])), (a4, .inl (cI, 30, .inl f0)), (a2, .inr (5, [.ref a5, .ref a6, .ref a7, .ref a8, .ref a9, .int x7, .int x8]))] sz) (fun u : gEx => [(a0, .inr (1, [.ref a1, .ref a2, .ref a3, .int 0, .int 0, .int 0, .int 0, .int 0, .int 9999, .int 0])), (a1, .inr (8, [.ref a4])), (a4, .inl (cI, 30, .inl (u.2.1 0))), (a2, .inr (5, [.ref a5, .ref a6, .ref a7, .ref a8, .ref a9, .int 0, .int 0]))])) (va_A [(a0, .inr (1, [.ref a1, .ref a2, .ref a3, .int x0, .int x1, .int x2, .int x3, .int x4, .int x5, .int x6])), (a1, .inr (8, [.ref a4])), (a4, .inl (cI, 30, .inl f0)), (a2, .inr (5, [.ref a5, .ref a6, .ref a7, .ref a8, .ref a9, .int x7, .int x8]))] sz)) 0 0 (va_A [(a0, .inr (1, [.ref a1, .ref a2, .ref a3, .int x0, .int x1, .int x2, .int x3, .int x4, .int x5, .int x6])), (a1, .inr (8, [.ref a4])), (a4, .inl (cI, 30, .inl f0)), (a2, .inr (5, [.ref a5, .ref a6, .ref a7, .ref a8, .ref a9, .int x7, .int x8]))] sz) := by
  refine gOf_v (by decide +kernel) (Nat.le_of_ble_eq_true rfl) ?_
  intro p e s m args below meth c ls A Q hx hb hts hown hml hN hK hP hD hA hl hret
  have hown : s.vm.findClass RX1 = some m.cls := hown
  have hS : va_S A s.heap s.heap [] := va_S.rf
  have hP : va_P D gcl [(a0, .inr (1, [.ref a1, .ref a2, .ref a3, .int x0, .int x1, .int x2, .int x3, .int x4, .int x5, .int x6])), (a1, .inr (8, [.ref a4])), (a4, .inl (cI, 30, .inl f0)), (a2, .inr (5, [.ref a5, .ref a6, .ref a7, .ref a8, .ref a9, .int x7, .int x8]))] s.heap := hP
  have hl : lv_has ls 1 [(0, .ref a0)] := hl
  have rx5 := n_rng x5
  have rx6 := n_rng x6
  refine lv_aload_n (pc := 0) hx hb dX1_clear_0 rfl (lv_at hl 0 rfl) ?_
  refine va_get (pc := 1) (ci := 1) (v := .ref a1) (C := RX1) (T := TX1) (N := 10) hx hb hts iX1 hown hK hP 0 rfl rfl 0 (by decide) (hts _ tw_97) (fun _ h9 => h9) rfl dX1_clear_1 ?_
  refine gc_v (pc := 4) (wc := [(a1, .inr (8, [.ref a4])), (a4, .inl (cI, 30, .inl f0))]) (wr := [(a0, .inr (1, [.ref a1, .ref a2, .ref a3, .int x0, .int x1, .int x2, .int x3, .int x4, .int x5, .int x6])), (a2, .inr (5, [.ref a5, .ref a6, .ref a7, .ref a8, .ref a9, .int x7, .int x8]))]) hP hD hS hA [1, 2] [0, 3] rfl rfl (by decide) (by decide) (by decide) (fun hPc hDc => va_runV (As := []) (rest := []) ⟨hx, hb, hml, hown, hts⟩ (k_X8_clear_x l D cB cC cI cJ _ a1 a4 f0) ⟨gcwB hts tw_502 tw_5 tw_499 hd_yX8_clear ⟨Nat.le_of_ble_eq_true rfl, Nat.le_of_ble_eq_true rfl⟩, hts _ tw_500, hts _ tw_501⟩ ⟨gblind, va_recv hK hPc (ci := 8) (q0 := 0) rfl rfl, (gpreS hPc hK hDc hN).2⟩ rfl rfl hl.1 rfl (lv_room (Nat.le_of_ble_eq_true rfl)) dX1_clear_4 ⟨Nat.le_of_ble_eq_true rfl, Nat.le_of_ble_eq_true rfl⟩) (fun u_1 H locs hw_3 hP hD hS => ?_)
  have hP : va_P D gcl [(a0, .inr (1, [.ref a1, .ref a2, .ref a3, .int x0, .int x1, .int x2, .int x3, .int x4, .int x5, .int x6])), (a2, .inr (5, [.ref a5, .ref a6, .ref a7, .ref a8, .ref a9, .int x7, .int x8])), (a1, .inr (8, [.ref a4])), (a4, .inl (cI, 30, .inl (u_1.2.1 0)))] H := hP
  have hD : va_D A [(a0, .inr (1, [.ref a1, .ref a2, .ref a3, .int x0, .int x1, .int x2, .int x3, .int x4, .int x5, .int x6])), (a2, .inr (5, [.ref a5, .ref a6, .ref a7, .ref a8, .ref a9, .int x7, .int x8])), (a1, .inr (8, [.ref a4])), (a4, .inl (cI, 30, .inl (u_1.2.1 0)))] := hD
  have hw_4 : (TB (u_1.2.1 0) 99) := hw_3
  refine lv_aload_n (pc := 7) hx hb dX1_clear_7 rfl (lv_at hl 0 rfl) ?_
  refine va_get (pc := 8) (ci := 1) (v := .ref a2) (C := RX1) (T := TX1) (N := 10) hx hb hts iX1 hown hK hP 0 rfl rfl 1 (by decide) (hts _ tw_105) (fun _ h9 => h9) rfl dX1_clear_8 ?_
  refine gc_v (pc := 11) (wc := [(a2, .inr (5, [.ref a5, .ref a6, .ref a7, .ref a8, .ref a9, .int x7, .int x8]))]) (wr := [(a0, .inr (1, [.ref a1, .ref a2, .ref a3, .int x0, .int x1, .int x2, .int x3, .int x4, .int x5, .int x6])), (a1, .inr (8, [.ref a4])), (a4, .inl (cI, 30, .inl (u_1.2.1 0)))]) hP hD hS hA [1] [0, 2, 3] rfl rfl (by decide) (by decide) (by decide) (fun hPc hDc => va_runV (As := []) (rest := []) ⟨hx, hb, hml, hown, hts⟩ (k_X5_clear l D cB cC cI cJ _ a2 a5 a6 a7 a8 a9 x7 x8 (by  omega) (by  omega)) ⟨gcwB hts tw_509 tw_6 tw_506 hd_yX5_clear ⟨Nat.le_of_ble_eq_true rfl, Nat.le_of_ble_eq_true rfl⟩, hts _ tw_507, hts _ tw_508⟩ ⟨gblind, va_recv hK hPc (ci := 5) (q0 := 0) rfl rfl, (gpreS hPc hK hDc hN).2⟩ rfl rfl hl.1 rfl (lv_room (Nat.le_of_ble_eq_true rfl)) dX1_clear_11 ⟨Nat.le_of_ble_eq_true rfl, Nat.le_of_ble_eq_true rfl⟩) (fun u_5 H locs hw_7 hP hD hS => ?_)
  have hP : va_P D gcl [(a0, .inr (1, [.ref a1, .ref a2, .ref a3, .int x0, .int x1, .int x2, .int x3, .int x4, .int x5, .int x6])), (a1, .inr (8, [.ref a4])), (a4, .inl (cI, 30, .inl (u_1.2.1 0))), (a2, .inr (5, [.ref a5, .ref a6, .ref a7, .ref a8, .ref a9, .int 0, .int 0]))] H := hP
  have hD : va_D A [(a0, .inr (1, [.ref a1, .ref a2, .ref a3, .int x0, .int x1, .int x2, .int x3, .int x4, .int x5, .int x6])), (a1, .inr (8, [.ref a4])), (a4, .inl (cI, 30, .inl (u_1.2.1 0))), (a2, .inr (5, [.ref a5, .ref a6, .ref a7, .ref a8, .ref a9, .int 0, .int 0]))] := hD
  refine lv_aload_n (pc := 14) hx hb dX1_clear_14 rfl (lv_at hl 0 rfl) ?_
  refine lv_iconst (pc := 15) (v := 0) hx hb dX1_clear_15 (by decide) ?_
  refine va_put (pc := 16) (ci := 1) (v := .int 0) (ty := .int) (C := RX1) (T := TX1) (N := 10) hx hb hts iX1 tyX1 tyX1_ok nmX1 hown hK hP hD hS 0 rfl rfl 3 (by decide) (hts _ tw_110) (fun _ h9 => h9) rfl (by decide +kernel) (by decide +kernel) (by decide +kernel) (Nat.le_of_ble_eq_true rfl) dX1_clear_16 (fun H locs hP hD hS => ?_)
  have hP : va_P D gcl [(a0, .inr (1, [.ref a1, .ref a2, .ref a3, .int 0, .int x1, .int x2, .int x3, .int x4, .int x5, .int x6])), (a1, .inr (8, [.ref a4])), (a4, .inl (cI, 30, .inl (u_1.2.1 0))), (a2, .inr (5, [.ref a5, .ref a6, .ref a7, .ref a8, .ref a9, .int 0, .int 0]))] H := hP
  have hD : va_D A [(a0, .inr (1, [.ref a1, .ref a2, .ref a3, .int 0, .int x1, .int x2, .int x3, .int x4, .int x5, .int x6])), (a1, .inr (8, [.ref a4])), (a4, .inl (cI, 30, .inl (u_1.2.1 0))), (a2, .inr (5, [.ref a5, .ref a6, .ref a7, .ref a8, .ref a9, .int 0, .int 0]))] := hD
  refine lv_aload_n (pc := 19) hx hb dX1_clear_19 rfl (lv_at hl 0 rfl) ?_
  refine lv_iconst (pc := 20) (v := 0) hx hb dX1_clear_20 (by decide) ?_
  refine va_put (pc := 21) (ci := 1) (v := .int 0) (ty := .int) (C := RX1) (T := TX1) (N := 10) hx hb hts iX1 tyX1 tyX1_ok nmX1 hown hK hP hD hS 0 rfl rfl 4 (by decide) (hts _ tw_116) (fun _ h9 => h9) rfl (by decide +kernel) (by decide +kernel) (by decide +kernel) (Nat.le_of_ble_eq_true rfl) dX1_clear_21 (fun H locs hP hD hS => ?_)
  have hP : va_P D gcl [(a0, .inr (1, [.ref a1, .ref a2, .ref a3, .int 0, .int 0, .int x2, .int x3, .int x4, .int x5, .int x6])), (a1, .inr (8, [.ref a4])), (a4, .inl (cI, 30, .inl (u_1.2.1 0))), (a2, .inr (5, [.ref a5, .ref a6, .ref a7, .ref a8, .ref a9, .int 0, .int 0]))] H := hP
  have hD : va_D A [(a0, .inr (1, [.ref a1, .ref a2, .ref a3, .int 0, .int 0, .int x2, .int x3, .int x4, .int x5, .int x6])), (a1, .inr (8, [.ref a4])), (a4, .inl (cI, 30, .inl (u_1.2.1 0))), (a2, .inr (5, [.ref a5, .ref a6, .ref a7, .ref a8, .ref a9, .int 0, .int 0]))] := hD
  refine lv_aload_n (pc := 24) hx hb dX1_clear_24 rfl (lv_at hl 0 rfl) ?_
  refine lv_iconst (pc := 25) (v := 0) hx hb dX1_clear_25 (by decide) ?_
  refine va_put (pc := 26) (ci := 1) (v := .int 0) (ty := .int) (C := RX1) (T := TX1) (N := 10) hx hb hts iX1 tyX1 tyX1_ok nmX1 hown hK hP hD hS 0 rfl rfl 5 (by decide) (hts _ tw_125) (fun _ h9 => h9) rfl (by decide +kernel) (by decide +kernel) (by decide +kernel) (Nat.le_of_ble_eq_true rfl) dX1_clear_26 (fun H locs hP hD hS => ?_)
  have hP : va_P D gcl [(a0, .inr (1, [.ref a1, .ref a2, .ref a3, .int 0, .int 0, .int 0, .int x3, .int x4, .int x5, .int x6])), (a1, .inr (8, [.ref a4])), (a4, .inl (cI, 30, .inl (u_1.2.1 0))), (a2, .inr (5, [.ref a5, .ref a6, .ref a7, .ref a8, .ref a9, .int 0, .int 0]))] H := hP
  have hD : va_D A [(a0, .inr (1, [.ref a1, .ref a2, .ref a3, .int 0, .int 0, .int 0, .int x3, .int x4, .int x5, .int x6])), (a1, .inr (8, [.ref a4])), (a4, .inl (cI, 30, .inl (u_1.2.1 0))), (a2, .inr (5, [.ref a5, .ref a6, .ref a7, .ref a8, .ref a9, .int 0, .int 0]))] := hD
  refine lv_aload_n (pc := 29) hx hb dX1_clear_29 rfl (lv_at hl 0 rfl) ?_
  refine lv_iconst (pc := 30) (v := 0) hx hb dX1_clear_30 (by decide) ?_
  refine va_put (pc := 31) (ci := 1) (v := .int 0) (ty := .int) (C := RX1) (T := TX1) (N := 10) hx hb hts iX1 tyX1 tyX1_ok nmX1 hown hK hP hD hS 0 rfl rfl 6 (by decide) (hts _ tw_132) (fun _ h9 => h9) rfl (by decide +kernel) (by decide +kernel) (by decide +kernel) (Nat.le_of_ble_eq_true rfl) dX1_clear_31 (fun H locs hP hD hS => ?_)
  have hP : va_P D gcl [(a0, .inr (1, [.ref a1, .ref a2, .ref a3, .int 0, .int 0, .int 0, .int 0, .int x4, .int x5, .int x6])), (a1, .inr (8, [.ref a4])), (a4, .inl (cI, 30, .inl (u_1.2.1 0))), (a2, .inr (5, [.ref a5, .ref a6, .ref a7, .ref a8, .ref a9, .int 0, .int 0]))] H := hP
  have hD : va_D A [(a0, .inr (1, [.ref a1, .ref a2, .ref a3, .int 0, .int 0, .int 0, .int 0, .int x4, .int x5, .int x6])), (a1, .inr (8, [.ref a4])), (a4, .inl (cI, 30, .inl (u_1.2.1 0))), (a2, .inr (5, [.ref a5, .ref a6, .ref a7, .ref a8, .ref a9, .int 0, .int 0]))] := hD
  refine lv_aload_n (pc := 34) hx hb dX1_clear_34 rfl (lv_at hl 0 rfl) ?_
  refine lv_iconst (pc := 35) (v := 0) hx hb dX1_clear_35 (by decide) ?_
  refine va_put (pc := 36) (ci := 1) (v := .int 0) (ty := .int) (C := RX1) (T := TX1) (N := 10) hx hb hts iX1 tyX1 tyX1_ok nmX1 hown hK hP hD hS 0 rfl rfl 7 (by decide) (hts _ tw_135) (fun _ h9 => h9) rfl (by decide +kernel) (by decide +kernel) (by decide +kernel) (Nat.le_of_ble_eq_true rfl) dX1_clear_36 (fun H locs hP hD hS => ?_)
  have hP : va_P D gcl [(a0, .inr (1, [.ref a1, .ref a2, .ref a3, .int 0, .int 0, .int 0, .int 0, .int 0, .int x5, .int x6])), (a1, .inr (8, [.ref a4])), (a4, .inl (cI, 30, .inl (u_1.2.1 0))), (a2, .inr (5, [.ref a5, .ref a6, .ref a7, .ref a8, .ref a9, .int 0, .int 0]))] H := hP
  have hD : va_D A [(a0, .inr (1, [.ref a1, .ref a2, .ref a3, .int 0, .int 0, .int 0, .int 0, .int 0, .int x5, .int x6])), (a1, .inr (8, [.ref a4])), (a4, .inl (cI, 30, .inl (u_1.2.1 0))), (a2, .inr (5, [.ref a5, .ref a6, .ref a7, .ref a8, .ref a9, .int 0, .int 0]))] := hD
  refine lv_aload_n (pc := 39) hx hb dX1_clear_39 rfl (lv_at hl 0 rfl) ?_
  refine lv_sipush (pc := 40) (v := 9999) hx hb dX1_clear_40 (by decide) ?_
  refine va_put (pc := 43) (ci := 1) (v := .int 9999) (ty := .int) (C := RX1) (T := TX1) (N := 10) hx hb hts iX1 tyX1 tyX1_ok nmX1 hown hK hP hD hS 0 rfl rfl 8 (by decide) (hts _ tw_139) (fun _ h9 => h9) rfl (by decide +kernel) (by decide +kernel) (by decide +kernel) (Nat.le_of_ble_eq_true rfl) dX1_clear_43 (fun H locs hP hD hS => ?_)
  have hP : va_P D gcl [(a0, .inr (1, [.ref a1, .ref a2, .ref a3, .int 0, .int 0, .int 0, .int 0, .int 0, .int 9999, .int x6])), (a1, .inr (8, [.ref a4])), (a4, .inl (cI, 30, .inl (u_1.2.1 0))), (a2, .inr (5, [.ref a5, .ref a6, .ref a7, .ref a8, .ref a9, .int 0, .int 0]))] H := hP
  have hD : va_D A [(a0, .inr (1, [.ref a1, .ref a2, .ref a3, .int 0, .int 0, .int 0, .int 0, .int 0, .int 9999, .int x6])), (a1, .inr (8, [.ref a4])), (a4, .inl (cI, 30, .inl (u_1.2.1 0))), (a2, .inr (5, [.ref a5, .ref a6, .ref a7, .ref a8, .ref a9, .int 0, .int 0]))] := hD
  refine lv_aload_n (pc := 46) hx hb dX1_clear_46 rfl (lv_at hl 0 rfl) ?_
  refine lv_iconst (pc := 47) (v := 0) hx hb dX1_clear_47 (by decide) ?_
  refine va_put (pc := 48) (ci := 1) (v := .int 0) (ty := .int) (C := RX1) (T := TX1) (N := 10) hx hb hts iX1 tyX1 tyX1_ok nmX1 hown hK hP hD hS 0 rfl rfl 9 (by decide) (hts _ tw_143) (fun _ h9 => h9) rfl (by decide +kernel) (by decide +kernel) (by decide +kernel) (Nat.le_of_ble_eq_true rfl) dX1_clear_48 (fun H locs hP hD hS => ?_)
  have hP : va_P D gcl [(a0, .inr (1, [.ref a1, .ref a2, .ref a3, .int 0, .int 0, .int 0, .int 0, .int 0, .int 9999, .int 0])), (a1, .inr (8, [.ref a4])), (a4, .inl (cI, 30, .inl (u_1.2.1 0))), (a2, .inr (5, [.ref a5, .ref a6, .ref a7, .ref a8, .ref a9, .int 0, .int 0]))] H := hP
  have hD : va_D A [(a0, .inr (1, [.ref a1, .ref a2, .ref a3, .int 0, .int 0, .int 0, .int 0, .int 0, .int 9999, .int 0])), (a1, .inr (8, [.ref a4])), (a4, .inl (cI, 30, .inl (u_1.2.1 0))), (a2, .inr (5, [.ref a5, .ref a6, .ref a7, .ref a8, .ref a9, .int 0, .int 0]))] := hD
  exact hret ((fun _ => 0), (fun k => [(u_1.2.1 0)].getD k (fun _ => 0)), (fun _ => (fun _ => 0)), (fun _ => 0), (fun _ => 0)) dX1_clear_51 (show TB (u_1.2.1 0) 99 from hw_4) (g_psub (wc := [(a0, .inr (1, [.ref a1, .ref a2, .ref a3, .int 0, .int 0, .int 0, .int 0, .int 0, .int 9999, .int 0])), (a1, .inr (8, [.ref a4])), (a4, .inl (cI, 30, .inl (u_1.2.1 0))), (a2, .inr (5, [.ref a5, .ref a6, .ref a7, .ref a8, .ref a9, .int 0, .int 0]))]) hP [0, 1, 2, 3] rfl) (hD.sub (ws' := [(a0, .inr (1, [.ref a1, .ref a2, .ref a3, .int 0, .int 0, .int 0, .int 0, .int 0, .int 9999, .int 0])), (a1, .inr (8, [.ref a4])), (a4, .inl (cI, 30, .inl (u_1.2.1 0))), (a2, .inr (5, [.ref a5, .ref a6, .ref a7, .ref a8, .ref a9, .int 0, .int 0]))]) [0, 1, 2, 3] (by decide) rfl) hS
set_option maxHeartbeats 4000000 in
set_option maxRecDepth 100000 in
theorem k_X4_isSmall (l : Launch) (D : va_G) (cB cC cI cJ : ClassId) (sz : Nat) (x0 : Int32) : Met l yX4_isSmall (.code yX4_isSmall cX4_isSmall 1 (some .boolean) :: lw_gd) ({ frames := 0, cells := 0, slots := 0, locals := 0 }) (gPre D [(cB, .byte), (cC, .char), (cI, .int), (cJ, .long)] [.int x0] [] sz) (va_Qi (fun r u => ((r.toInt = 0 ∧ x0.toInt < 97) ∨ (r.toInt = 0 ∧ x0.toInt ≥ 97 ∧ x0.toInt > 122) ∨ (r.toInt = 1 ∧ x0.toInt ≥ 97 ∧ x0.toInt ≤ 122))) (gB D (va_A [] sz) (fun u : gEx => [])) (va_A [] sz)) 0 0 (va_A [] sz) := by
  refine gOf_z (by decide +kernel) (Nat.le_of_ble_eq_true rfl) ?_
  intro p e s m args below meth c ls A Q hx hb hts hown hml hN hK hP hD hA hl hret
  have hown : s.vm.findClass RX4 = some m.cls := hown
  have hS : va_S A s.heap s.heap [] := va_S.rf
  have hP : va_P D gcl [] s.heap := hP
  have hl : lv_has ls 1 [(0, .int x0)] := hl
  have rx0 := n_rng x0
  refine lv_iload_n (pc := 0) hx hb dX4_isSmall_0 rfl (lv_at hl 0 rfl) ?_
  refine lv_bipush (pc := 1) (v := 97) hx hb dX4_isSmall_1 (by decide) ?_
  refine b_icmp_lt (pc := 3) (tgt := 16) hx hb rfl tI_97  dX4_isSmall_3 (by decide) (fun c_1 => ?_) (fun c_1 => ?_)
  ·
    refine lv_iconst (pc := 16) (v := 0) hx hb dX4_isSmall_16 (by decide) ?_
    exact hret 0 ((fun _ => 0), (fun _ => (fun _ => 0)), (fun _ => (fun _ => 0)), (fun _ => 0), (fun _ => 0)) dX4_isSmall_17 ⟨(by have k9 := tI_0; omega), (show (((0 : Int32).toInt = 0 ∧ x0.toInt < 97) ∨ ((0 : Int32).toInt = 0 ∧ x0.toInt ≥ 97 ∧ x0.toInt > 122) ∨ ((0 : Int32).toInt = 1 ∧ x0.toInt ≥ 97 ∧ x0.toInt ≤ 122)) by have k9 := tI_0; omega)⟩ (g_psub (wc := []) hP [] rfl) (hD.sub (ws' := []) [] (by decide) rfl) hS
  ·
    refine lv_iload_n (pc := 6) hx hb dX4_isSmall_6 rfl (lv_at hl 0 rfl) ?_
    refine lv_bipush (pc := 7) (v := 122) hx hb dX4_isSmall_7 (by decide) ?_
    refine b_icmp_gt (pc := 9) (tgt := 16) hx hb rfl tI_122  dX4_isSmall_9 (by decide) (fun c_2 => ?_) (fun c_2 => ?_)
    ·
      refine lv_iconst (pc := 16) (v := 0) hx hb dX4_isSmall_16 (by decide) ?_
      exact hret 0 ((fun _ => 0), (fun _ => (fun _ => 0)), (fun _ => (fun _ => 0)), (fun _ => 0), (fun _ => 0)) dX4_isSmall_17 ⟨(by have k9 := tI_0; omega), (show (((0 : Int32).toInt = 0 ∧ x0.toInt < 97) ∨ ((0 : Int32).toInt = 0 ∧ x0.toInt ≥ 97 ∧ x0.toInt > 122) ∨ ((0 : Int32).toInt = 1 ∧ x0.toInt ≥ 97 ∧ x0.toInt ≤ 122)) by have k9 := tI_0; omega)⟩ (g_psub (wc := []) hP [] rfl) (hD.sub (ws' := []) [] (by decide) rfl) hS
    ·
      refine lv_iconst (pc := 12) (v := 1) hx hb dX4_isSmall_12 (by decide) ?_
      refine lv_goto (pc := 13) (tgt := 17) hx hb dX4_isSmall_13 (by decide) ?_
      exact hret 1 ((fun _ => 0), (fun _ => (fun _ => 0)), (fun _ => (fun _ => 0)), (fun _ => 0), (fun _ => 0)) dX4_isSmall_17 ⟨(by have k9 := tI_1; omega), (show (((1 : Int32).toInt = 0 ∧ x0.toInt < 97) ∨ ((1 : Int32).toInt = 0 ∧ x0.toInt ≥ 97 ∧ x0.toInt > 122) ∨ ((1 : Int32).toInt = 1 ∧ x0.toInt ≥ 97 ∧ x0.toInt ≤ 122)) by have k9 := tI_1; omega)⟩ (g_psub (wc := []) hP [] rfl) (hD.sub (ws' := []) [] (by decide) rfl) hS
set_option maxHeartbeats 4000000 in
set_option maxRecDepth 100000 in
theorem k_X4_isDigit (l : Launch) (D : va_G) (cB cC cI cJ : ClassId) (sz : Nat) (x0 : Int32) : Met l yX4_isDigit (.code yX4_isDigit cX4_isDigit 1 (some .boolean) :: lw_gd) ({ frames := 0, cells := 0, slots := 0, locals := 0 }) (gPre D [(cB, .byte), (cC, .char), (cI, .int), (cJ, .long)] [.int x0] [] sz) (va_Qi (fun r u => ((r.toInt = 0 ∧ x0.toInt < 48) ∨ (r.toInt = 0 ∧ x0.toInt ≥ 48 ∧ x0.toInt > 57) ∨ (r.toInt = 1 ∧ x0.toInt ≥ 48 ∧ x0.toInt ≤ 57))) (gB D (va_A [] sz) (fun u : gEx => [])) (va_A [] sz)) 0 0 (va_A [] sz) := by
  refine gOf_z (by decide +kernel) (Nat.le_of_ble_eq_true rfl) ?_
  intro p e s m args below meth c ls A Q hx hb hts hown hml hN hK hP hD hA hl hret
  have hown : s.vm.findClass RX4 = some m.cls := hown
  have hS : va_S A s.heap s.heap [] := va_S.rf
  have hP : va_P D gcl [] s.heap := hP
  have hl : lv_has ls 1 [(0, .int x0)] := hl
  have rx0 := n_rng x0
  refine lv_iload_n (pc := 0) hx hb dX4_isDigit_0 rfl (lv_at hl 0 rfl) ?_
  refine lv_bipush (pc := 1) (v := 48) hx hb dX4_isDigit_1 (by decide) ?_
  refine b_icmp_lt (pc := 3) (tgt := 16) hx hb rfl tI_48  dX4_isDigit_3 (by decide) (fun c_1 => ?_) (fun c_1 => ?_)
  ·
    refine lv_iconst (pc := 16) (v := 0) hx hb dX4_isDigit_16 (by decide) ?_
    exact hret 0 ((fun _ => 0), (fun _ => (fun _ => 0)), (fun _ => (fun _ => 0)), (fun _ => 0), (fun _ => 0)) dX4_isDigit_17 ⟨(by have k9 := tI_0; omega), (show (((0 : Int32).toInt = 0 ∧ x0.toInt < 48) ∨ ((0 : Int32).toInt = 0 ∧ x0.toInt ≥ 48 ∧ x0.toInt > 57) ∨ ((0 : Int32).toInt = 1 ∧ x0.toInt ≥ 48 ∧ x0.toInt ≤ 57)) by have k9 := tI_0; omega)⟩ (g_psub (wc := []) hP [] rfl) (hD.sub (ws' := []) [] (by decide) rfl) hS
  ·
    refine lv_iload_n (pc := 6) hx hb dX4_isDigit_6 rfl (lv_at hl 0 rfl) ?_
    refine lv_bipush (pc := 7) (v := 57) hx hb dX4_isDigit_7 (by decide) ?_
    refine b_icmp_gt (pc := 9) (tgt := 16) hx hb rfl tI_57  dX4_isDigit_9 (by decide) (fun c_2 => ?_) (fun c_2 => ?_)
    ·
      refine lv_iconst (pc := 16) (v := 0) hx hb dX4_isDigit_16 (by decide) ?_
      exact hret 0 ((fun _ => 0), (fun _ => (fun _ => 0)), (fun _ => (fun _ => 0)), (fun _ => 0), (fun _ => 0)) dX4_isDigit_17 ⟨(by have k9 := tI_0; omega), (show (((0 : Int32).toInt = 0 ∧ x0.toInt < 48) ∨ ((0 : Int32).toInt = 0 ∧ x0.toInt ≥ 48 ∧ x0.toInt > 57) ∨ ((0 : Int32).toInt = 1 ∧ x0.toInt ≥ 48 ∧ x0.toInt ≤ 57)) by have k9 := tI_0; omega)⟩ (g_psub (wc := []) hP [] rfl) (hD.sub (ws' := []) [] (by decide) rfl) hS
    ·
      refine lv_iconst (pc := 12) (v := 1) hx hb dX4_isDigit_12 (by decide) ?_
      refine lv_goto (pc := 13) (tgt := 17) hx hb dX4_isDigit_13 (by decide) ?_
      exact hret 1 ((fun _ => 0), (fun _ => (fun _ => 0)), (fun _ => (fun _ => 0)), (fun _ => 0), (fun _ => 0)) dX4_isDigit_17 ⟨(by have k9 := tI_1; omega), (show (((1 : Int32).toInt = 0 ∧ x0.toInt < 48) ∨ ((1 : Int32).toInt = 0 ∧ x0.toInt ≥ 48 ∧ x0.toInt > 57) ∨ ((1 : Int32).toInt = 1 ∧ x0.toInt ≥ 48 ∧ x0.toInt ≤ 57)) by have k9 := tI_1; omega)⟩ (g_psub (wc := []) hP [] rfl) (hD.sub (ws' := []) [] (by decide) rfl) hS
set_option maxHeartbeats 4000000 in
set_option maxRecDepth 100000 in
theorem k_X4_isBlank (l : Launch) (D : va_G) (cB cC cI cJ : ClassId) (sz : Nat) (x0 : Int32) : Met l yX4_isBlank (.code yX4_isBlank cX4_isBlank 1 (some .boolean) :: lw_gd) ({ frames := 0, cells := 0, slots := 0, locals := 0 }) (gPre D [(cB, .byte), (cC, .char), (cI, .int), (cJ, .long)] [.int x0] [] sz) (va_Qi (fun r u => ((r.toInt = 1 ∧ x0.toInt = 10) ∨ (r.toInt = 0 ∧ ¬ x0.toInt = 10 ∧ ¬ x0.toInt = 32) ∨ (r.toInt = 1 ∧ ¬ x0.toInt = 10 ∧ x0.toInt = 32))) (gB D (va_A [] sz) (fun u : gEx => [])) (va_A [] sz)) 0 0 (va_A [] sz) := by
  refine gOf_z (by decide +kernel) (Nat.le_of_ble_eq_true rfl) ?_
  intro p e s m args below meth c ls A Q hx hb hts hown hml hN hK hP hD hA hl hret
  have hown : s.vm.findClass RX4 = some m.cls := hown
  have hS : va_S A s.heap s.heap [] := va_S.rf
  have hP : va_P D gcl [] s.heap := hP
  have hl : lv_has ls 1 [(0, .int x0)] := hl
  have rx0 := n_rng x0
  refine lv_iload_n (pc := 0) hx hb dX4_isBlank_0 rfl (lv_at hl 0 rfl) ?_
  refine lv_bipush (pc := 1) (v := 10) hx hb dX4_isBlank_1 (by decide) ?_
  refine b_icmp_eq (pc := 3) (tgt := 12) hx hb rfl tI_10  dX4_isBlank_3 (by decide) (fun c_1 => ?_) (fun c_1 => ?_)
  ·
    refine lv_iconst (pc := 12) (v := 1) hx hb dX4_isBlank_12 (by decide) ?_
    refine lv_goto (pc := 13) (tgt := 17) hx hb dX4_isBlank_13 (by decide) ?_
    exact hret 1 ((fun _ => 0), (fun _ => (fun _ => 0)), (fun _ => (fun _ => 0)), (fun _ => 0), (fun _ => 0)) dX4_isBlank_17 ⟨(by have k9 := tI_1; omega), (show (((1 : Int32).toInt = 1 ∧ x0.toInt = 10) ∨ ((1 : Int32).toInt = 0 ∧ ¬ x0.toInt = 10 ∧ ¬ x0.toInt = 32) ∨ ((1 : Int32).toInt = 1 ∧ ¬ x0.toInt = 10 ∧ x0.toInt = 32)) by have k9 := tI_1; omega)⟩ (g_psub (wc := []) hP [] rfl) (hD.sub (ws' := []) [] (by decide) rfl) hS
  ·
    refine lv_iload_n (pc := 6) hx hb dX4_isBlank_6 rfl (lv_at hl 0 rfl) ?_
    refine lv_bipush (pc := 7) (v := 32) hx hb dX4_isBlank_7 (by decide) ?_
    refine b_icmp_ne (pc := 9) (tgt := 16) hx hb rfl tI_32  dX4_isBlank_9 (by decide) (fun c_2 => ?_) (fun c_2 => ?_)
    ·
      refine lv_iconst (pc := 16) (v := 0) hx hb dX4_isBlank_16 (by decide) ?_
      exact hret 0 ((fun _ => 0), (fun _ => (fun _ => 0)), (fun _ => (fun _ => 0)), (fun _ => 0), (fun _ => 0)) dX4_isBlank_17 ⟨(by have k9 := tI_0; omega), (show (((0 : Int32).toInt = 1 ∧ x0.toInt = 10) ∨ ((0 : Int32).toInt = 0 ∧ ¬ x0.toInt = 10 ∧ ¬ x0.toInt = 32) ∨ ((0 : Int32).toInt = 1 ∧ ¬ x0.toInt = 10 ∧ x0.toInt = 32)) by have k9 := tI_0; omega)⟩ (g_psub (wc := []) hP [] rfl) (hD.sub (ws' := []) [] (by decide) rfl) hS
    ·
      refine lv_iconst (pc := 12) (v := 1) hx hb dX4_isBlank_12 (by decide) ?_
      refine lv_goto (pc := 13) (tgt := 17) hx hb dX4_isBlank_13 (by decide) ?_
      exact hret 1 ((fun _ => 0), (fun _ => (fun _ => 0)), (fun _ => (fun _ => 0)), (fun _ => 0), (fun _ => 0)) dX4_isBlank_17 ⟨(by have k9 := tI_1; omega), (show (((1 : Int32).toInt = 1 ∧ x0.toInt = 10) ∨ ((1 : Int32).toInt = 0 ∧ ¬ x0.toInt = 10 ∧ ¬ x0.toInt = 32) ∨ ((1 : Int32).toInt = 1 ∧ ¬ x0.toInt = 10 ∧ x0.toInt = 32)) by have k9 := tI_1; omega)⟩ (g_psub (wc := []) hP [] rfl) (hD.sub (ws' := []) [] (by decide) rfl) hS
set_option maxHeartbeats 4000000 in
set_option maxRecDepth 100000 in
theorem k_X4_goOn (l : Launch) (D : va_G) (cB cC cI cJ : ClassId) (sz : Nat) (a0 a1 a2 a3 : Nat) (x0 x1 x2 x3 x4 x5 x6 x7 x8 : Int32) (f0 : Nat → Int32) (hp2 : (0 ≤ x1.toInt ∧ x1.toInt ≤ 1)) (h_x8 : (0 ≤ x8.toInt ∧ x8.toInt ≤ 1600)) : Met l yX4_goOn (.code yX4_goOn cX4_goOn 3 none :: lw_gd) ({ frames := 1, cells := 0, slots := 0, locals := 21 }) (gPre D [(cB, .byte), (cC, .char), (cI, .int), (cJ, .long)] [.ref a0, .int x0, .int x1] [(a0, .inr (4, [.ref a1, .ref a2, .int x2, .int x3, .int x4, .int x5, .int x6, .int x7])), (a1, .inr (9, [.ref a3, .int x8])), (a3, .inl (cB, 1600, .inl f0))] sz) (va_Qv (fun u => True) (gB D (va_A [(a0, .inr (4, [.ref a1, .ref a2, .int x2, .int x3, .int x4, .int x5, .int x6, .int x7])), (a1, .inr (9, [.ref a3, .int x8])), (a3, .inl (cB, 1600, .inl f0))] sz) (fun u : gEx => [(a0, .inr (4, [.ref a1, .ref a2, .int (u.2.2.2.1 0), .int (u.2.2.2.1 1), .int x4, .int x5, .int x6, .int x7])), (a1, .inr (9, [.ref a3, .int x8])), (a3, .inl (cB, 1600, .inl f0))])) (va_A [(a0, .inr (4, [.ref a1, .ref a2, .int x2, .int x3, .int x4, .int x5, .int x6, .int x7])), (a1, .inr (9, [.ref a3, .int x8])), (a3, .inl (cB, 1600, .inl f0))] sz)) 0 0 (va_A [(a0, .inr (4, [.ref a1, .ref a2, .int x2, .int x3, .int x4, .int x5, .int x6, .int x7])), (a1, .inr (9, [.ref a3, .int x8])), (a3, .inl (cB, 1600, .inl f0))] sz) := by
  refine gOf_v (by decide +kernel) (Nat.le_of_ble_eq_true rfl) ?_
  intro p e s m args below meth c ls A Q hx hb hts hown hml hN hK hP hD hA hl hret
  have hown : s.vm.findClass RX4 = some m.cls := hown
  have hS : va_S A s.heap s.heap [] := va_S.rf
  have hP : va_P D gcl [(a0, .inr (4, [.ref a1, .ref a2, .int x2, .int x3, .int x4, .int x5, .int x6, .int x7])), (a1, .inr (9, [.ref a3, .int x8])), (a3, .inl (cB, 1600, .inl f0))] s.heap := hP
  have hl : lv_has ls 3 [(0, .ref a0), (1, .int x0), (2, .int x1)] := hl
  have rx0 := n_rng x0
  have rx2 := n_rng x2
  have rx3 := n_rng x3
  have rx4 := n_rng x4
  have rx5 := n_rng x5
  have rx6 := n_rng x6
  have rx7 := n_rng x7
  refine lv_aload_n (pc := 0) hx hb dX4_goOn_0 rfl (lv_at hl 0 rfl) ?_
  refine lv_iload_n (pc := 1) hx hb dX4_goOn_1 rfl (lv_at hl 1 rfl) ?_
  refine va_put (pc := 2) (ci := 4) (v := .int x0) (ty := .int) (C := RX4) (T := TX4) (N := 8) hx hb hts iX4 tyX4 tyX4_ok nmX4 hown hK hP hD hS 0 rfl rfl 2 (by decide) (hts _ tw_170) (fun _ h9 => h9) rfl (by decide +kernel) rfl rfl (Nat.le_of_ble_eq_true rfl) dX4_goOn_2 (fun H locs hP hD hS => ?_)
  have hP : va_P D gcl [(a0, .inr (4, [.ref a1, .ref a2, .int x0, .int x3, .int x4, .int x5, .int x6, .int x7])), (a1, .inr (9, [.ref a3, .int x8])), (a3, .inl (cB, 1600, .inl f0))] H := hP
  have hD : va_D A [(a0, .inr (4, [.ref a1, .ref a2, .int x0, .int x3, .int x4, .int x5, .int x6, .int x7])), (a1, .inr (9, [.ref a3, .int x8])), (a3, .inl (cB, 1600, .inl f0))] := hD
  have lp_3 : ∀ (n : Nat) (x_1 : Int32) (H : Heap) (locs : List Loc) (ls : Array Slot), (2147483647 - x_1.toInt).toNat < n → va_P D gcl [(a0, .inr (4, [.ref a1, .ref a2, .int x_1, .int x3, .int x4, .int x5, .int x6, .int x7])), (a1, .inr (9, [.ref a3, .int x8])), (a3, .inl (cB, 1600, .inl f0))] H → va_D A [(a0, .inr (4, [.ref a1, .ref a2, .int x_1, .int x3, .int x4, .int x5, .int x6, .int x7])), (a1, .inr (9, [.ref a3, .int x8])), (a3, .inl (cB, 1600, .inl f0))] → va_S A s.heap H locs → lv_has ls 3 [(0, .ref a0), (1, .int x0), (2, .int x1)] → W p l e ({ frames := 1, cells := 0, slots := 0, locals := 21 }) s m args below meth c H locs 0 0 Q (F0 m 5 ls []) := by
    intro n
    induction n with
    | zero => intro x_1 H locs ls  hmu; exact absurd hmu (Nat.not_lt_zero _)
    | succ n ih_lp_3 =>
      intro x_1 H locs ls  hmu_lp_3 hP hD hS hl
      have hi_2 := n_rng x_1
      refine lv_aload_n (pc := 5) hx hb dX4_goOn_5 rfl (lv_at hl 0 rfl) ?_
      refine va_get (pc := 6) (ci := 4) (v := .int x_1) (C := RX4) (T := TX4) (N := 8) hx hb hts iX4 hown hK hP 0 rfl rfl 2 (by decide) (hts _ tw_170) (fun _ h9 => h9) rfl dX4_goOn_6 ?_
      refine lv_aload_n (pc := 9) hx hb dX4_goOn_9 rfl (lv_at hl 0 rfl) ?_
      refine va_get (pc := 10) (ci := 4) (v := .ref a1) (C := RX4) (T := TX4) (N := 8) hx hb hts iX4 hown hK hP 0 rfl rfl 0 (by decide) (hts _ tw_167) (fun _ h9 => h9) rfl dX4_goOn_10 ?_
      refine gc_i (pc := 13) (wc := [(a1, .inr (9, [.ref a3, .int x8]))]) (wr := [(a0, .inr (4, [.ref a1, .ref a2, .int x_1, .int x3, .int x4, .int x5, .int x6, .int x7])), (a3, .inl (cB, 1600, .inl f0))]) hP hD hS hA [1] [0, 2] rfl rfl (by decide) (by decide) (by decide) (fun hPc hDc => va_runV (As := []) (rest := [.int x_1]) ⟨hx, hb, hml, hown, hts⟩ (k_X9_length l D cB cC cI cJ _ a1 a3 x8 (by  omega)) ⟨gcwB hts tw_478 tw_3 tw_514 hd_yX9_length ⟨Nat.le_of_ble_eq_true rfl, Nat.le_of_ble_eq_true rfl⟩, hts _ tw_476, hts _ tw_477⟩ ⟨gblind, va_recv hK hPc (ci := 9) (q0 := 0) rfl rfl, (gpreS hPc hK hDc hN).2⟩ rfl rfl hl.1 rfl (lv_room (Nat.le_of_ble_eq_true rfl)) dX4_goOn_13 ⟨Nat.le_of_ble_eq_true rfl, Nat.le_of_ble_eq_true rfl⟩) (fun r_5 u_4 H locs hw_6 hP hD hS => ?_)
      have hP : va_P D gcl [(a0, .inr (4, [.ref a1, .ref a2, .int x_1, .int x3, .int x4, .int x5, .int x6, .int x7])), (a3, .inl (cB, 1600, .inl f0)), (a1, .inr (9, [.ref a3, .int x8]))] H := hP
      have hD : va_D A [(a0, .inr (4, [.ref a1, .ref a2, .int x_1, .int x3, .int x4, .int x5, .int x6, .int x7])), (a3, .inl (cB, 1600, .inl f0)), (a1, .inr (9, [.ref a3, .int x8]))] := hD
      have hw_7 : ((r_5.toInt = x8.toInt)) := hw_6
      have rr_5 := n_rng r_5
      refine b_icmp_ge (pc := 16) (tgt := 49) hx hb rfl rfl  dX4_goOn_16 (by decide) (fun c_8 => ?_) (fun c_8 => ?_)
      ·
        refine lv_aload_n (pc := 49) hx hb dX4_goOn_49 rfl (lv_at hl 0 rfl) ?_
        refine lv_aload_n (pc := 50) hx hb dX4_goOn_50 rfl (lv_at hl 0 rfl) ?_
        refine va_get (pc := 51) (ci := 4) (v := .ref a1) (C := RX4) (T := TX4) (N := 8) hx hb hts iX4 hown hK hP 0 rfl rfl 0 (by decide) (hts _ tw_167) (fun _ h9 => h9) rfl dX4_goOn_51 ?_
        refine lv_aload_n (pc := 54) hx hb dX4_goOn_54 rfl (lv_at hl 0 rfl) ?_
        refine va_get (pc := 55) (ci := 4) (v := .int x_1) (C := RX4) (T := TX4) (N := 8) hx hb hts iX4 hown hK hP 0 rfl rfl 2 (by decide) (hts _ tw_170) (fun _ h9 => h9) rfl dX4_goOn_55 ?_
        refine gc_i (pc := 58) (wc := [(a1, .inr (9, [.ref a3, .int x8])), (a3, .inl (cB, 1600, .inl f0))]) (wr := [(a0, .inr (4, [.ref a1, .ref a2, .int x_1, .int x3, .int x4, .int x5, .int x6, .int x7]))]) hP hD hS hA [2, 1] [0] rfl rfl (by decide) (by decide) (by decide) (fun hPc hDc => va_runV (As := [.int x_1]) (rest := [.ref a0]) ⟨hx, hb, hml, hown, hts⟩ (k_X9_at l D cB cC cI cJ _ a1 a3 x_1 x8 f0 (by  omega)) ⟨gcwB hts tw_518 tw_3 tw_515 hd_yX9_at ⟨Nat.le_of_ble_eq_true rfl, Nat.le_of_ble_eq_true rfl⟩, hts _ tw_516, hts _ tw_517⟩ ⟨gblind, va_recv hK hPc (ci := 9) (q0 := 0) rfl rfl, (gpreS hPc hK hDc hN).2⟩ rfl rfl hl.1 rfl (lv_room (Nat.le_of_ble_eq_true rfl)) dX4_goOn_58 ⟨Nat.le_of_ble_eq_true rfl, Nat.le_of_ble_eq_true rfl⟩) (fun r_10 u_9 H locs hw_11 hP hD hS => ?_)
        have hP : va_P D gcl [(a0, .inr (4, [.ref a1, .ref a2, .int x_1, .int x3, .int x4, .int x5, .int x6, .int x7])), (a1, .inr (9, [.ref a3, .int x8])), (a3, .inl (cB, 1600, .inl f0))] H := hP
        have hD : va_D A [(a0, .inr (4, [.ref a1, .ref a2, .int x_1, .int x3, .int x4, .int x5, .int x6, .int x7])), (a1, .inr (9, [.ref a3, .int x8])), (a3, .inl (cB, 1600, .inl f0))] := hD
        have hw_12 : ((r_10.toInt = (-1) ∧ x_1.toInt < 0) ∨ (r_10.toInt = (-1) ∧ x_1.toInt ≥ 0 ∧ x_1.toInt ≥ x8.toInt) ∨ ((0 ≤ r_10.toInt ∧ r_10.toInt ≤ 255) ∧ x_1.toInt ≥ 0 ∧ x_1.toInt < x8.toInt)) := hw_11
        have rr_10 := n_rng r_10
        refine va_put (pc := 61) (ci := 4) (v := .int r_10) (ty := .int) (C := RX4) (T := TX4) (N := 8) hx hb hts iX4 tyX4 tyX4_ok nmX4 hown hK hP hD hS 0 rfl rfl 3 (by decide) (hts _ tw_171) (fun _ h9 => h9) rfl (by decide +kernel) rfl rfl (Nat.le_of_ble_eq_true rfl) dX4_goOn_61 (fun H locs hP hD hS => ?_)
        have hP : va_P D gcl [(a0, .inr (4, [.ref a1, .ref a2, .int x_1, .int r_10, .int x4, .int x5, .int x6, .int x7])), (a1, .inr (9, [.ref a3, .int x8])), (a3, .inl (cB, 1600, .inl f0))] H := hP
        have hD : va_D A [(a0, .inr (4, [.ref a1, .ref a2, .int x_1, .int r_10, .int x4, .int x5, .int x6, .int x7])), (a1, .inr (9, [.ref a3, .int x8])), (a3, .inl (cB, 1600, .inl f0))] := hD
        refine lv_iload_n (pc := 64) hx hb dX4_goOn_64 rfl (lv_at hl 2 rfl) ?_
        refine b_if_eq (pc := 65) (tgt := 101) hx hb rfl  dX4_goOn_65 (by decide) (fun c_13 => ?_) (fun c_13 => ?_)
        ·
          exact hret ((fun _ => 0), (fun _ => (fun _ => 0)), (fun _ => (fun _ => 0)), (fun k => [x_1, r_10].getD k 0), (fun _ => 0)) dX4_goOn_101 trivial (g_psub (wc := [(a0, .inr (4, [.ref a1, .ref a2, .int x_1, .int r_10, .int x4, .int x5, .int x6, .int x7])), (a1, .inr (9, [.ref a3, .int x8])), (a3, .inl (cB, 1600, .inl f0))]) hP [0, 1, 2] rfl) (hD.sub (ws' := [(a0, .inr (4, [.ref a1, .ref a2, .int x_1, .int r_10, .int x4, .int x5, .int x6, .int x7])), (a1, .inr (9, [.ref a3, .int x8])), (a3, .inl (cB, 1600, .inl f0))]) [0, 1, 2] (by decide) rfl) hS
        ·
          refine lv_aload_n (pc := 68) hx hb dX4_goOn_68 rfl (lv_at hl 0 rfl) ?_
          refine va_get (pc := 69) (ci := 4) (v := .int x_1) (C := RX4) (T := TX4) (N := 8) hx hb hts iX4 hown hK hP 0 rfl rfl 2 (by decide) (hts _ tw_170) (fun _ h9 => h9) rfl dX4_goOn_69 ?_
          refine lv_iload_n (pc := 72) hx hb dX4_goOn_72 rfl (lv_at hl 1 rfl) ?_
          refine b_icmp_ne (pc := 73) (tgt := 101) hx hb rfl rfl  dX4_goOn_73 (by decide) (fun c_14 => ?_) (fun c_14 => ?_)
          ·
            exact hret ((fun _ => 0), (fun _ => (fun _ => 0)), (fun _ => (fun _ => 0)), (fun k => [x_1, r_10].getD k 0), (fun _ => 0)) dX4_goOn_101 trivial (g_psub (wc := [(a0, .inr (4, [.ref a1, .ref a2, .int x_1, .int r_10, .int x4, .int x5, .int x6, .int x7])), (a1, .inr (9, [.ref a3, .int x8])), (a3, .inl (cB, 1600, .inl f0))]) hP [0, 1, 2] rfl) (hD.sub (ws' := [(a0, .inr (4, [.ref a1, .ref a2, .int x_1, .int r_10, .int x4, .int x5, .int x6, .int x7])), (a1, .inr (9, [.ref a3, .int x8])), (a3, .inl (cB, 1600, .inl f0))]) [0, 1, 2] (by decide) rfl) hS
          ·
            refine lv_aload_n (pc := 76) hx hb dX4_goOn_76 rfl (lv_at hl 0 rfl) ?_
            refine va_get (pc := 77) (ci := 4) (v := .int r_10) (C := RX4) (T := TX4) (N := 8) hx hb hts iX4 hown hK hP 0 rfl rfl 3 (by decide) (hts _ tw_171) (fun _ h9 => h9) rfl dX4_goOn_77 ?_
            refine gc_i (pc := 80) (wc := []) (wr := [(a0, .inr (4, [.ref a1, .ref a2, .int x_1, .int r_10, .int x4, .int x5, .int x6, .int x7])), (a1, .inr (9, [.ref a3, .int x8])), (a3, .inl (cB, 1600, .inl f0))]) hP hD hS hA [] [0, 1, 2] rfl rfl (by decide) (by decide) (by decide) (fun hPc hDc => va_runS (As := [.int r_10]) (rest := []) ⟨hx, hb, hml, hown, hts⟩ (k_X4_isSmall l D cB cC cI cJ _ r_10) ⟨gcwB hts tw_524 tw_2 tw_522 hd_yX4_isSmall ⟨Nat.le_of_ble_eq_true rfl, Nat.le_of_ble_eq_true rfl⟩, hts _ tw_523⟩ (gpreS hPc hK hDc hN) rfl rfl hl.1 rfl (lv_room (Nat.le_of_ble_eq_true rfl)) dX4_goOn_80 ⟨Nat.le_of_ble_eq_true rfl, Nat.le_of_ble_eq_true rfl⟩) (fun r_16 u_15 H locs hw_17 hP hD hS => ?_)
            have hP : va_P D gcl [(a0, .inr (4, [.ref a1, .ref a2, .int x_1, .int r_10, .int x4, .int x5, .int x6, .int x7])), (a1, .inr (9, [.ref a3, .int x8])), (a3, .inl (cB, 1600, .inl f0))] H := hP
            have hD : va_D A [(a0, .inr (4, [.ref a1, .ref a2, .int x_1, .int r_10, .int x4, .int x5, .int x6, .int x7])), (a1, .inr (9, [.ref a3, .int x8])), (a3, .inl (cB, 1600, .inl f0))] := hD
            have hw_18 : ((r_16.toInt = 0 ∧ r_10.toInt < 97) ∨ (r_16.toInt = 0 ∧ r_10.toInt ≥ 97 ∧ r_10.toInt > 122) ∨ (r_16.toInt = 1 ∧ r_10.toInt ≥ 97 ∧ r_10.toInt ≤ 122)) := hw_17
            have rr_16 := n_rng r_16
            refine b_if_ne (pc := 83) (tgt := 96) hx hb rfl  dX4_goOn_83 (by decide) (fun c_19 => ?_) (fun c_19 => ?_)
            ·
              refine lv_aload_n (pc := 96) hx hb dX4_goOn_96 rfl (lv_at hl 0 rfl) ?_
              refine lv_iconst (pc := 97) (v := 0) hx hb dX4_goOn_97 (by decide) ?_
              refine va_put (pc := 98) (ci := 4) (v := .int 0) (ty := .int) (C := RX4) (T := TX4) (N := 8) hx hb hts iX4 tyX4 tyX4_ok nmX4 hown hK hP hD hS 0 rfl rfl 3 (by decide) (hts _ tw_171) (fun _ h9 => h9) rfl (by decide +kernel) (by decide +kernel) (by decide +kernel) (Nat.le_of_ble_eq_true rfl) dX4_goOn_98 (fun H locs hP hD hS => ?_)
              have hP : va_P D gcl [(a0, .inr (4, [.ref a1, .ref a2, .int x_1, .int 0, .int x4, .int x5, .int x6, .int x7])), (a1, .inr (9, [.ref a3, .int x8])), (a3, .inl (cB, 1600, .inl f0))] H := hP
              have hD : va_D A [(a0, .inr (4, [.ref a1, .ref a2, .int x_1, .int 0, .int x4, .int x5, .int x6, .int x7])), (a1, .inr (9, [.ref a3, .int x8])), (a3, .inl (cB, 1600, .inl f0))] := hD
              exact hret ((fun _ => 0), (fun _ => (fun _ => 0)), (fun _ => (fun _ => 0)), (fun k => [x_1, 0].getD k 0), (fun _ => 0)) dX4_goOn_101 trivial (g_psub (wc := [(a0, .inr (4, [.ref a1, .ref a2, .int x_1, .int 0, .int x4, .int x5, .int x6, .int x7])), (a1, .inr (9, [.ref a3, .int x8])), (a3, .inl (cB, 1600, .inl f0))]) hP [0, 1, 2] rfl) (hD.sub (ws' := [(a0, .inr (4, [.ref a1, .ref a2, .int x_1, .int 0, .int x4, .int x5, .int x6, .int x7])), (a1, .inr (9, [.ref a3, .int x8])), (a3, .inl (cB, 1600, .inl f0))]) [0, 1, 2] (by decide) rfl) hS
            ·
              refine lv_aload_n (pc := 86) hx hb dX4_goOn_86 rfl (lv_at hl 0 rfl) ?_
              refine va_get (pc := 87) (ci := 4) (v := .int r_10) (C := RX4) (T := TX4) (N := 8) hx hb hts iX4 hown hK hP 0 rfl rfl 3 (by decide) (hts _ tw_171) (fun _ h9 => h9) rfl dX4_goOn_87 ?_
              refine gc_i (pc := 90) (wc := []) (wr := [(a0, .inr (4, [.ref a1, .ref a2, .int x_1, .int r_10, .int x4, .int x5, .int x6, .int x7])), (a1, .inr (9, [.ref a3, .int x8])), (a3, .inl (cB, 1600, .inl f0))]) hP hD hS hA [] [0, 1, 2] rfl rfl (by decide) (by decide) (by decide) (fun hPc hDc => va_runS (As := [.int r_10]) (rest := []) ⟨hx, hb, hml, hown, hts⟩ (k_X4_isDigit l D cB cC cI cJ _ r_10) ⟨gcwB hts tw_527 tw_2 tw_525 hd_yX4_isDigit ⟨Nat.le_of_ble_eq_true rfl, Nat.le_of_ble_eq_true rfl⟩, hts _ tw_526⟩ (gpreS hPc hK hDc hN) rfl rfl hl.1 rfl (lv_room (Nat.le_of_ble_eq_true rfl)) dX4_goOn_90 ⟨Nat.le_of_ble_eq_true rfl, Nat.le_of_ble_eq_true rfl⟩) (fun r_21 u_20 H locs hw_22 hP hD hS => ?_)
              have hP : va_P D gcl [(a0, .inr (4, [.ref a1, .ref a2, .int x_1, .int r_10, .int x4, .int x5, .int x6, .int x7])), (a1, .inr (9, [.ref a3, .int x8])), (a3, .inl (cB, 1600, .inl f0))] H := hP
              have hD : va_D A [(a0, .inr (4, [.ref a1, .ref a2, .int x_1, .int r_10, .int x4, .int x5, .int x6, .int x7])), (a1, .inr (9, [.ref a3, .int x8])), (a3, .inl (cB, 1600, .inl f0))] := hD
              have hw_23 : ((r_21.toInt = 0 ∧ r_10.toInt < 48) ∨ (r_21.toInt = 0 ∧ r_10.toInt ≥ 48 ∧ r_10.toInt > 57) ∨ (r_21.toInt = 1 ∧ r_10.toInt ≥ 48 ∧ r_10.toInt ≤ 57)) := hw_22
              have rr_21 := n_rng r_21
              refine b_if_eq (pc := 93) (tgt := 101) hx hb rfl  dX4_goOn_93 (by decide) (fun c_24 => ?_) (fun c_24 => ?_)
              ·
                exact hret ((fun _ => 0), (fun _ => (fun _ => 0)), (fun _ => (fun _ => 0)), (fun k => [x_1, r_10].getD k 0), (fun _ => 0)) dX4_goOn_101 trivial (g_psub (wc := [(a0, .inr (4, [.ref a1, .ref a2, .int x_1, .int r_10, .int x4, .int x5, .int x6, .int x7])), (a1, .inr (9, [.ref a3, .int x8])), (a3, .inl (cB, 1600, .inl f0))]) hP [0, 1, 2] rfl) (hD.sub (ws' := [(a0, .inr (4, [.ref a1, .ref a2, .int x_1, .int r_10, .int x4, .int x5, .int x6, .int x7])), (a1, .inr (9, [.ref a3, .int x8])), (a3, .inl (cB, 1600, .inl f0))]) [0, 1, 2] (by decide) rfl) hS
              ·
                refine lv_aload_n (pc := 96) hx hb dX4_goOn_96 rfl (lv_at hl 0 rfl) ?_
                refine lv_iconst (pc := 97) (v := 0) hx hb dX4_goOn_97 (by decide) ?_
                refine va_put (pc := 98) (ci := 4) (v := .int 0) (ty := .int) (C := RX4) (T := TX4) (N := 8) hx hb hts iX4 tyX4 tyX4_ok nmX4 hown hK hP hD hS 0 rfl rfl 3 (by decide) (hts _ tw_171) (fun _ h9 => h9) rfl (by decide +kernel) (by decide +kernel) (by decide +kernel) (Nat.le_of_ble_eq_true rfl) dX4_goOn_98 (fun H locs hP hD hS => ?_)
                have hP : va_P D gcl [(a0, .inr (4, [.ref a1, .ref a2, .int x_1, .int 0, .int x4, .int x5, .int x6, .int x7])), (a1, .inr (9, [.ref a3, .int x8])), (a3, .inl (cB, 1600, .inl f0))] H := hP
                have hD : va_D A [(a0, .inr (4, [.ref a1, .ref a2, .int x_1, .int 0, .int x4, .int x5, .int x6, .int x7])), (a1, .inr (9, [.ref a3, .int x8])), (a3, .inl (cB, 1600, .inl f0))] := hD
                exact hret ((fun _ => 0), (fun _ => (fun _ => 0)), (fun _ => (fun _ => 0)), (fun k => [x_1, 0].getD k 0), (fun _ => 0)) dX4_goOn_101 trivial (g_psub (wc := [(a0, .inr (4, [.ref a1, .ref a2, .int x_1, .int 0, .int x4, .int x5, .int x6, .int x7])), (a1, .inr (9, [.ref a3, .int x8])), (a3, .inl (cB, 1600, .inl f0))]) hP [0, 1, 2] rfl) (hD.sub (ws' := [(a0, .inr (4, [.ref a1, .ref a2, .int x_1, .int 0, .int x4, .int x5, .int x6, .int x7])), (a1, .inr (9, [.ref a3, .int x8])), (a3, .inl (cB, 1600, .inl f0))]) [0, 1, 2] (by decide) rfl) hS
      ·
        refine lv_aload_n (pc := 19) hx hb dX4_goOn_19 rfl (lv_at hl 0 rfl) ?_
        refine va_get (pc := 20) (ci := 4) (v := .ref a1) (C := RX4) (T := TX4) (N := 8) hx hb hts iX4 hown hK hP 0 rfl rfl 0 (by decide) (hts _ tw_167) (fun _ h9 => h9) rfl dX4_goOn_20 ?_
        refine lv_aload_n (pc := 23) hx hb dX4_goOn_23 rfl (lv_at hl 0 rfl) ?_
        refine va_get (pc := 24) (ci := 4) (v := .int x_1) (C := RX4) (T := TX4) (N := 8) hx hb hts iX4 hown hK hP 0 rfl rfl 2 (by decide) (hts _ tw_170) (fun _ h9 => h9) rfl dX4_goOn_24 ?_
        refine gc_i (pc := 27) (wc := [(a1, .inr (9, [.ref a3, .int x8])), (a3, .inl (cB, 1600, .inl f0))]) (wr := [(a0, .inr (4, [.ref a1, .ref a2, .int x_1, .int x3, .int x4, .int x5, .int x6, .int x7]))]) hP hD hS hA [2, 1] [0] rfl rfl (by decide) (by decide) (by decide) (fun hPc hDc => va_runV (As := [.int x_1]) (rest := []) ⟨hx, hb, hml, hown, hts⟩ (k_X9_at l D cB cC cI cJ _ a1 a3 x_1 x8 f0 (by  omega)) ⟨gcwB hts tw_518 tw_3 tw_515 hd_yX9_at ⟨Nat.le_of_ble_eq_true rfl, Nat.le_of_ble_eq_true rfl⟩, hts _ tw_516, hts _ tw_517⟩ ⟨gblind, va_recv hK hPc (ci := 9) (q0 := 0) rfl rfl, (gpreS hPc hK hDc hN).2⟩ rfl rfl hl.1 rfl (lv_room (Nat.le_of_ble_eq_true rfl)) dX4_goOn_27 ⟨Nat.le_of_ble_eq_true rfl, Nat.le_of_ble_eq_true rfl⟩) (fun r_26 u_25 H locs hw_27 hP hD hS => ?_)
        have hP : va_P D gcl [(a0, .inr (4, [.ref a1, .ref a2, .int x_1, .int x3, .int x4, .int x5, .int x6, .int x7])), (a1, .inr (9, [.ref a3, .int x8])), (a3, .inl (cB, 1600, .inl f0))] H := hP
        have hD : va_D A [(a0, .inr (4, [.ref a1, .ref a2, .int x_1, .int x3, .int x4, .int x5, .int x6, .int x7])), (a1, .inr (9, [.ref a3, .int x8])), (a3, .inl (cB, 1600, .inl f0))] := hD
        have hw_28 : ((r_26.toInt = (-1) ∧ x_1.toInt < 0) ∨ (r_26.toInt = (-1) ∧ x_1.toInt ≥ 0 ∧ x_1.toInt ≥ x8.toInt) ∨ ((0 ≤ r_26.toInt ∧ r_26.toInt ≤ 255) ∧ x_1.toInt ≥ 0 ∧ x_1.toInt < x8.toInt)) := hw_27
        have rr_26 := n_rng r_26
        refine gc_i (pc := 30) (wc := []) (wr := [(a0, .inr (4, [.ref a1, .ref a2, .int x_1, .int x3, .int x4, .int x5, .int x6, .int x7])), (a1, .inr (9, [.ref a3, .int x8])), (a3, .inl (cB, 1600, .inl f0))]) hP hD hS hA [] [0, 1, 2] rfl rfl (by decide) (by decide) (by decide) (fun hPc hDc => va_runS (As := [.int r_26]) (rest := []) ⟨hx, hb, hml, hown, hts⟩ (k_X4_isBlank l D cB cC cI cJ _ r_26) ⟨gcwB hts tw_521 tw_2 tw_519 hd_yX4_isBlank ⟨Nat.le_of_ble_eq_true rfl, Nat.le_of_ble_eq_true rfl⟩, hts _ tw_520⟩ (gpreS hPc hK hDc hN) rfl rfl hl.1 rfl (lv_room (Nat.le_of_ble_eq_true rfl)) dX4_goOn_30 ⟨Nat.le_of_ble_eq_true rfl, Nat.le_of_ble_eq_true rfl⟩) (fun r_30 u_29 H locs hw_31 hP hD hS => ?_)
        have hP : va_P D gcl [(a0, .inr (4, [.ref a1, .ref a2, .int x_1, .int x3, .int x4, .int x5, .int x6, .int x7])), (a1, .inr (9, [.ref a3, .int x8])), (a3, .inl (cB, 1600, .inl f0))] H := hP
        have hD : va_D A [(a0, .inr (4, [.ref a1, .ref a2, .int x_1, .int x3, .int x4, .int x5, .int x6, .int x7])), (a1, .inr (9, [.ref a3, .int x8])), (a3, .inl (cB, 1600, .inl f0))] := hD
        have hw_32 : ((r_30.toInt = 1 ∧ r_26.toInt = 10) ∨ (r_30.toInt = 0 ∧ ¬ r_26.toInt = 10 ∧ ¬ r_26.toInt = 32) ∨ (r_30.toInt = 1 ∧ ¬ r_26.toInt = 10 ∧ r_26.toInt = 32)) := hw_31
        have rr_30 := n_rng r_30
        refine b_if_eq (pc := 33) (tgt := 49) hx hb rfl  dX4_goOn_33 (by decide) (fun c_33 => ?_) (fun c_33 => ?_)
        ·
          refine lv_aload_n (pc := 49) hx hb dX4_goOn_49 rfl (lv_at hl 0 rfl) ?_
          refine lv_aload_n (pc := 50) hx hb dX4_goOn_50 rfl (lv_at hl 0 rfl) ?_
          refine va_get (pc := 51) (ci := 4) (v := .ref a1) (C := RX4) (T := TX4) (N := 8) hx hb hts iX4 hown hK hP 0 rfl rfl 0 (by decide) (hts _ tw_167) (fun _ h9 => h9) rfl dX4_goOn_51 ?_
          refine lv_aload_n (pc := 54) hx hb dX4_goOn_54 rfl (lv_at hl 0 rfl) ?_
          refine va_get (pc := 55) (ci := 4) (v := .int x_1) (C := RX4) (T := TX4) (N := 8) hx hb hts iX4 hown hK hP 0 rfl rfl 2 (by decide) (hts _ tw_170) (fun _ h9 => h9) rfl dX4_goOn_55 ?_
          refine gc_i (pc := 58) (wc := [(a1, .inr (9, [.ref a3, .int x8])), (a3, .inl (cB, 1600, .inl f0))]) (wr := [(a0, .inr (4, [.ref a1, .ref a2, .int x_1, .int x3, .int x4, .int x5, .int x6, .int x7]))]) hP hD hS hA [1, 2] [0] rfl rfl (by decide) (by decide) (by decide) (fun hPc hDc => va_runV (As := [.int x_1]) (rest := [.ref a0]) ⟨hx, hb, hml, hown, hts⟩ (k_X9_at l D cB cC cI cJ _ a1 a3 x_1 x8 f0 (by  omega)) ⟨gcwB hts tw_518 tw_3 tw_515 hd_yX9_at ⟨Nat.le_of_ble_eq_true rfl, Nat.le_of_ble_eq_true rfl⟩, hts _ tw_516, hts _ tw_517⟩ ⟨gblind, va_recv hK hPc (ci := 9) (q0 := 0) rfl rfl, (gpreS hPc hK hDc hN).2⟩ rfl rfl hl.1 rfl (lv_room (Nat.le_of_ble_eq_true rfl)) dX4_goOn_58 ⟨Nat.le_of_ble_eq_true rfl, Nat.le_of_ble_eq_true rfl⟩) (fun r_35 u_34 H locs hw_36 hP hD hS => ?_)
          have hP : va_P D gcl [(a0, .inr (4, [.ref a1, .ref a2, .int x_1, .int x3, .int x4, .int x5, .int x6, .int x7])), (a1, .inr (9, [.ref a3, .int x8])), (a3, .inl (cB, 1600, .inl f0))] H := hP
          have hD : va_D A [(a0, .inr (4, [.ref a1, .ref a2, .int x_1, .int x3, .int x4, .int x5, .int x6, .int x7])), (a1, .inr (9, [.ref a3, .int x8])), (a3, .inl (cB, 1600, .inl f0))] := hD
          have hw_37 : ((r_35.toInt = (-1) ∧ x_1.toInt < 0) ∨ (r_35.toInt = (-1) ∧ x_1.toInt ≥ 0 ∧ x_1.toInt ≥ x8.toInt) ∨ ((0 ≤ r_35.toInt ∧ r_35.toInt ≤ 255) ∧ x_1.toInt ≥ 0 ∧ x_1.toInt < x8.toInt)) := hw_36
          have rr_35 := n_rng r_35
          refine va_put (pc := 61) (ci := 4) (v := .int r_35) (ty := .int) (C := RX4) (T := TX4) (N := 8) hx hb hts iX4 tyX4 tyX4_ok nmX4 hown hK hP hD hS 0 rfl rfl 3 (by decide) (hts _ tw_171) (fun _ h9 => h9) rfl (by decide +kernel) rfl rfl (Nat.le_of_ble_eq_true rfl) dX4_goOn_61 (fun H locs hP hD hS => ?_)
          have hP : va_P D gcl [(a0, .inr (4, [.ref a1, .ref a2, .int x_1, .int r_35, .int x4, .int x5, .int x6, .int x7])), (a1, .inr (9, [.ref a3, .int x8])), (a3, .inl (cB, 1600, .inl f0))] H := hP
          have hD : va_D A [(a0, .inr (4, [.ref a1, .ref a2, .int x_1, .int r_35, .int x4, .int x5, .int x6, .int x7])), (a1, .inr (9, [.ref a3, .int x8])), (a3, .inl (cB, 1600, .inl f0))] := hD
          refine lv_iload_n (pc := 64) hx hb dX4_goOn_64 rfl (lv_at hl 2 rfl) ?_
          refine b_if_eq (pc := 65) (tgt := 101) hx hb rfl  dX4_goOn_65 (by decide) (fun c_38 => ?_) (fun c_38 => ?_)
          ·
            exact hret ((fun _ => 0), (fun _ => (fun _ => 0)), (fun _ => (fun _ => 0)), (fun k => [x_1, r_35].getD k 0), (fun _ => 0)) dX4_goOn_101 trivial (g_psub (wc := [(a0, .inr (4, [.ref a1, .ref a2, .int x_1, .int r_35, .int x4, .int x5, .int x6, .int x7])), (a1, .inr (9, [.ref a3, .int x8])), (a3, .inl (cB, 1600, .inl f0))]) hP [0, 1, 2] rfl) (hD.sub (ws' := [(a0, .inr (4, [.ref a1, .ref a2, .int x_1, .int r_35, .int x4, .int x5, .int x6, .int x7])), (a1, .inr (9, [.ref a3, .int x8])), (a3, .inl (cB, 1600, .inl f0))]) [0, 1, 2] (by decide) rfl) hS
          ·
            refine lv_aload_n (pc := 68) hx hb dX4_goOn_68 rfl (lv_at hl 0 rfl) ?_
            refine va_get (pc := 69) (ci := 4) (v := .int x_1) (C := RX4) (T := TX4) (N := 8) hx hb hts iX4 hown hK hP 0 rfl rfl 2 (by decide) (hts _ tw_170) (fun _ h9 => h9) rfl dX4_goOn_69 ?_
            refine lv_iload_n (pc := 72) hx hb dX4_goOn_72 rfl (lv_at hl 1 rfl) ?_
            refine b_icmp_ne (pc := 73) (tgt := 101) hx hb rfl rfl  dX4_goOn_73 (by decide) (fun c_39 => ?_) (fun c_39 => ?_)
            ·
              exact hret ((fun _ => 0), (fun _ => (fun _ => 0)), (fun _ => (fun _ => 0)), (fun k => [x_1, r_35].getD k 0), (fun _ => 0)) dX4_goOn_101 trivial (g_psub (wc := [(a0, .inr (4, [.ref a1, .ref a2, .int x_1, .int r_35, .int x4, .int x5, .int x6, .int x7])), (a1, .inr (9, [.ref a3, .int x8])), (a3, .inl (cB, 1600, .inl f0))]) hP [0, 1, 2] rfl) (hD.sub (ws' := [(a0, .inr (4, [.ref a1, .ref a2, .int x_1, .int r_35, .int x4, .int x5, .int x6, .int x7])), (a1, .inr (9, [.ref a3, .int x8])), (a3, .inl (cB, 1600, .inl f0))]) [0, 1, 2] (by decide) rfl) hS
            ·
              refine lv_aload_n (pc := 76) hx hb dX4_goOn_76 rfl (lv_at hl 0 rfl) ?_
              refine va_get (pc := 77) (ci := 4) (v := .int r_35) (C := RX4) (T := TX4) (N := 8) hx hb hts iX4 hown hK hP 0 rfl rfl 3 (by decide) (hts _ tw_171) (fun _ h9 => h9) rfl dX4_goOn_77 ?_
              refine gc_i (pc := 80) (wc := []) (wr := [(a0, .inr (4, [.ref a1, .ref a2, .int x_1, .int r_35, .int x4, .int x5, .int x6, .int x7])), (a1, .inr (9, [.ref a3, .int x8])), (a3, .inl (cB, 1600, .inl f0))]) hP hD hS hA [] [0, 1, 2] rfl rfl (by decide) (by decide) (by decide) (fun hPc hDc => va_runS (As := [.int r_35]) (rest := []) ⟨hx, hb, hml, hown, hts⟩ (k_X4_isSmall l D cB cC cI cJ _ r_35) ⟨gcwB hts tw_524 tw_2 tw_522 hd_yX4_isSmall ⟨Nat.le_of_ble_eq_true rfl, Nat.le_of_ble_eq_true rfl⟩, hts _ tw_523⟩ (gpreS hPc hK hDc hN) rfl rfl hl.1 rfl (lv_room (Nat.le_of_ble_eq_true rfl)) dX4_goOn_80 ⟨Nat.le_of_ble_eq_true rfl, Nat.le_of_ble_eq_true rfl⟩) (fun r_41 u_40 H locs hw_42 hP hD hS => ?_)
              have hP : va_P D gcl [(a0, .inr (4, [.ref a1, .ref a2, .int x_1, .int r_35, .int x4, .int x5, .int x6, .int x7])), (a1, .inr (9, [.ref a3, .int x8])), (a3, .inl (cB, 1600, .inl f0))] H := hP
              have hD : va_D A [(a0, .inr (4, [.ref a1, .ref a2, .int x_1, .int r_35, .int x4, .int x5, .int x6, .int x7])), (a1, .inr (9, [.ref a3, .int x8])), (a3, .inl (cB, 1600, .inl f0))] := hD
              have hw_43 : ((r_41.toInt = 0 ∧ r_35.toInt < 97) ∨ (r_41.toInt = 0 ∧ r_35.toInt ≥ 97 ∧ r_35.toInt > 122) ∨ (r_41.toInt = 1 ∧ r_35.toInt ≥ 97 ∧ r_35.toInt ≤ 122)) := hw_42
              have rr_41 := n_rng r_41
              refine b_if_ne (pc := 83) (tgt := 96) hx hb rfl  dX4_goOn_83 (by decide) (fun c_44 => ?_) (fun c_44 => ?_)
              ·
                refine lv_aload_n (pc := 96) hx hb dX4_goOn_96 rfl (lv_at hl 0 rfl) ?_
                refine lv_iconst (pc := 97) (v := 0) hx hb dX4_goOn_97 (by decide) ?_
                refine va_put (pc := 98) (ci := 4) (v := .int 0) (ty := .int) (C := RX4) (T := TX4) (N := 8) hx hb hts iX4 tyX4 tyX4_ok nmX4 hown hK hP hD hS 0 rfl rfl 3 (by decide) (hts _ tw_171) (fun _ h9 => h9) rfl (by decide +kernel) (by decide +kernel) (by decide +kernel) (Nat.le_of_ble_eq_true rfl) dX4_goOn_98 (fun H locs hP hD hS => ?_)
                have hP : va_P D gcl [(a0, .inr (4, [.ref a1, .ref a2, .int x_1, .int 0, .int x4, .int x5, .int x6, .int x7])), (a1, .inr (9, [.ref a3, .int x8])), (a3, .inl (cB, 1600, .inl f0))] H := hP
                have hD : va_D A [(a0, .inr (4, [.ref a1, .ref a2, .int x_1, .int 0, .int x4, .int x5, .int x6, .int x7])), (a1, .inr (9, [.ref a3, .int x8])), (a3, .inl (cB, 1600, .inl f0))] := hD
                exact hret ((fun _ => 0), (fun _ => (fun _ => 0)), (fun _ => (fun _ => 0)), (fun k => [x_1, 0].getD k 0), (fun _ => 0)) dX4_goOn_101 trivial (g_psub (wc := [(a0, .inr (4, [.ref a1, .ref a2, .int x_1, .int 0, .int x4, .int x5, .int x6, .int x7])), (a1, .inr (9, [.ref a3, .int x8])), (a3, .inl (cB, 1600, .inl f0))]) hP [0, 1, 2] rfl) (hD.sub (ws' := [(a0, .inr (4, [.ref a1, .ref a2, .int x_1, .int 0, .int x4, .int x5, .int x6, .int x7])), (a1, .inr (9, [.ref a3, .int x8])), (a3, .inl (cB, 1600, .inl f0))]) [0, 1, 2] (by decide) rfl) hS
              ·
                refine lv_aload_n (pc := 86) hx hb dX4_goOn_86 rfl (lv_at hl 0 rfl) ?_
                refine va_get (pc := 87) (ci := 4) (v := .int r_35) (C := RX4) (T := TX4) (N := 8) hx hb hts iX4 hown hK hP 0 rfl rfl 3 (by decide) (hts _ tw_171) (fun _ h9 => h9) rfl dX4_goOn_87 ?_
                refine gc_i (pc := 90) (wc := []) (wr := [(a0, .inr (4, [.ref a1, .ref a2, .int x_1, .int r_35, .int x4, .int x5, .int x6, .int x7])), (a1, .inr (9, [.ref a3, .int x8])), (a3, .inl (cB, 1600, .inl f0))]) hP hD hS hA [] [0, 1, 2] rfl rfl (by decide) (by decide) (by decide) (fun hPc hDc => va_runS (As := [.int r_35]) (rest := []) ⟨hx, hb, hml, hown, hts⟩ (k_X4_isDigit l D cB cC cI cJ _ r_35) ⟨gcwB hts tw_527 tw_2 tw_525 hd_yX4_isDigit ⟨Nat.le_of_ble_eq_true rfl, Nat.le_of_ble_eq_true rfl⟩, hts _ tw_526⟩ (gpreS hPc hK hDc hN) rfl rfl hl.1 rfl (lv_room (Nat.le_of_ble_eq_true rfl)) dX4_goOn_90 ⟨Nat.le_of_ble_eq_true rfl, Nat.le_of_ble_eq_true rfl⟩) (fun r_46 u_45 H locs hw_47 hP hD hS => ?_)
                have hP : va_P D gcl [(a0, .inr (4, [.ref a1, .ref a2, .int x_1, .int r_35, .int x4, .int x5, .int x6, .int x7])), (a1, .inr (9, [.ref a3, .int x8])), (a3, .inl (cB, 1600, .inl f0))] H := hP
                have hD : va_D A [(a0, .inr (4, [.ref a1, .ref a2, .int x_1, .int r_35, .int x4, .int x5, .int x6, .int x7])), (a1, .inr (9, [.ref a3, .int x8])), (a3, .inl (cB, 1600, .inl f0))] := hD
                have hw_48 : ((r_46.toInt = 0 ∧ r_35.toInt < 48) ∨ (r_46.toInt = 0 ∧ r_35.toInt ≥ 48 ∧ r_35.toInt > 57) ∨ (r_46.toInt = 1 ∧ r_35.toInt ≥ 48 ∧ r_35.toInt ≤ 57)) := hw_47
                have rr_46 := n_rng r_46
                refine b_if_eq (pc := 93) (tgt := 101) hx hb rfl  dX4_goOn_93 (by decide) (fun c_49 => ?_) (fun c_49 => ?_)
                ·
                  exact hret ((fun _ => 0), (fun _ => (fun _ => 0)), (fun _ => (fun _ => 0)), (fun k => [x_1, r_35].getD k 0), (fun _ => 0)) dX4_goOn_101 trivial (g_psub (wc := [(a0, .inr (4, [.ref a1, .ref a2, .int x_1, .int r_35, .int x4, .int x5, .int x6, .int x7])), (a1, .inr (9, [.ref a3, .int x8])), (a3, .inl (cB, 1600, .inl f0))]) hP [0, 1, 2] rfl) (hD.sub (ws' := [(a0, .inr (4, [.ref a1, .ref a2, .int x_1, .int r_35, .int x4, .int x5, .int x6, .int x7])), (a1, .inr (9, [.ref a3, .int x8])), (a3, .inl (cB, 1600, .inl f0))]) [0, 1, 2] (by decide) rfl) hS
                ·
                  refine lv_aload_n (pc := 96) hx hb dX4_goOn_96 rfl (lv_at hl 0 rfl) ?_
                  refine lv_iconst (pc := 97) (v := 0) hx hb dX4_goOn_97 (by decide) ?_
                  refine va_put (pc := 98) (ci := 4) (v := .int 0) (ty := .int) (C := RX4) (T := TX4) (N := 8) hx hb hts iX4 tyX4 tyX4_ok nmX4 hown hK hP hD hS 0 rfl rfl 3 (by decide) (hts _ tw_171) (fun _ h9 => h9) rfl (by decide +kernel) (by decide +kernel) (by decide +kernel) (Nat.le_of_ble_eq_true rfl) dX4_goOn_98 (fun H locs hP hD hS => ?_)
                  have hP : va_P D gcl [(a0, .inr (4, [.ref a1, .ref a2, .int x_1, .int 0, .int x4, .int x5, .int x6, .int x7])), (a1, .inr (9, [.ref a3, .int x8])), (a3, .inl (cB, 1600, .inl f0))] H := hP
                  have hD : va_D A [(a0, .inr (4, [.ref a1, .ref a2, .int x_1, .int 0, .int x4, .int x5, .int x6, .int x7])), (a1, .inr (9, [.ref a3, .int x8])), (a3, .inl (cB, 1600, .inl f0))] := hD
                  exact hret ((fun _ => 0), (fun _ => (fun _ => 0)), (fun _ => (fun _ => 0)), (fun k => [x_1, 0].getD k 0), (fun _ => 0)) dX4_goOn_101 trivial (g_psub (wc := [(a0, .inr (4, [.ref a1, .ref a2, .int x_1, .int 0, .int x4, .int x5, .int x6, .int x7])), (a1, .inr (9, [.ref a3, .int x8])), (a3, .inl (cB, 1600, .inl f0))]) hP [0, 1, 2] rfl) (hD.sub (ws' := [(a0, .inr (4, [.ref a1, .ref a2, .int x_1, .int 0, .int x4, .int x5, .int x6, .int x7])), (a1, .inr (9, [.ref a3, .int x8])), (a3, .inl (cB, 1600, .inl f0))]) [0, 1, 2] (by decide) rfl) hS
        ·
          refine lv_aload_n (pc := 36) hx hb dX4_goOn_36 rfl (lv_at hl 0 rfl) ?_
          refine lv_dup (pc := 37) hx hb dX4_goOn_37 rfl ?_
          refine va_get (pc := 38) (ci := 4) (v := .int x_1) (C := RX4) (T := TX4) (N := 8) hx hb hts iX4 hown hK hP 0 rfl rfl 2 (by decide) (hts _ tw_170) (fun _ h9 => h9) rfl dX4_goOn_38 ?_
          refine lv_iconst (pc := 41) (v := 1) hx hb dX4_goOn_41 (by decide) ?_
          refine b_iadd (pc := 42) hx hb rfl tI_1 (by omega) (by omega) dX4_goOn_42 (fun x_50 ex_50 => ?_)
          refine va_put (pc := 43) (ci := 4) (v := .int x_50) (ty := .int) (C := RX4) (T := TX4) (N := 8) hx hb hts iX4 tyX4 tyX4_ok nmX4 hown hK hP hD hS 0 rfl rfl 2 (by decide) (hts _ tw_170) (fun _ h9 => h9) rfl (by decide +kernel) rfl rfl (Nat.le_of_ble_eq_true rfl) dX4_goOn_43 (fun H locs hP hD hS => ?_)
          have hP : va_P D gcl [(a0, .inr (4, [.ref a1, .ref a2, .int x_50, .int x3, .int x4, .int x5, .int x6, .int x7])), (a1, .inr (9, [.ref a3, .int x8])), (a3, .inl (cB, 1600, .inl f0))] H := hP
          have hD : va_D A [(a0, .inr (4, [.ref a1, .ref a2, .int x_50, .int x3, .int x4, .int x5, .int x6, .int x7])), (a1, .inr (9, [.ref a3, .int x8])), (a3, .inl (cB, 1600, .inl f0))] := hD
          refine lv_goto (pc := 46) (tgt := 5) hx hb dX4_goOn_46 (by decide) ?_
          exact ih_lp_3 x_50 _ _ ls  (by omega) hP hD hS (lv_sub hl [0, 1, 2] rfl)
  exact lp_3 _ x0 _ _ ls  (Nat.lt_succ_self _) hP hD hS (lv_sub hl [0, 1, 2] rfl)
set_option maxHeartbeats 4000000 in
set_option maxRecDepth 100000 in
theorem k_J0_coder_7d493 (l : Launch) (D : va_G) (cB cC cI cJ : ClassId) (sz : Nat) (adK adV : Nat → Nat) (i : Nat) (hi : i < 15) : Met l yJ0_coder_7d493 (.code yJ0_coder_7d493 cJ0_coder_7d493 1 (some .byte) :: lw_gd) ({ frames := 0, cells := 0, slots := 0, locals := 0 }) (gPreT D [(cB, .byte), (cC, .char), (cI, .int), (cJ, .long)] [.ref (adK i)] [] sz adK adV) (va_Qi (fun r u => (0 ≤ r.toInt ∧ r.toInt ≤ 0)) (gB D (va_A [] sz) (fun u : gEx => [])) (va_A [] sz)) 0 0 (va_A [] sz) := by
  refine gOfT_b (by decide +kernel) (Nat.le_of_ble_eq_true rfl) ?_
  intro p e s m args below meth c ls A Q hx hb hts hown hml hN hK hP hD hA hl hF hret
  have hlen := s_len hi
  have hown : s.vm.findClass RJ0 = some m.cls := hown
  have hS : va_S A s.heap s.heap [] := va_S.rf
  have hP : va_P D gcl [] s.heap := hP
  have hl : lv_has ls 1 [(0, .ref (adK i))] := hl
  refine va_gets (pc := 0) (v := .int 1) hx hb hF.2.2.1 hS hown (hts _ tw_561) (fun _ h9 => h9) dJ0_coder_7d493_0 ?_
  refine b_if_eq (pc := 3) (tgt := 13) hx hb tI_1  dJ0_coder_7d493_3 (by decide) (fun c_1 => absurd c_1 (by omega)) (fun c_1 => ?_)
  refine lv_aload_n (pc := 6) hx hb dJ0_coder_7d493_6 rfl (lv_at hl 0 rfl) ?_
  refine vk_getf (pc := 7) (v := .int 0) hx hb (hF.1.1 i hi).2.1 hS hown (hts _ tw_2111) (fun _ h9 => h9) dJ0_coder_7d493_7 ?_
  refine lv_goto (pc := 10) (tgt := 14) hx hb dJ0_coder_7d493_10 (by decide) ?_
  exact hret 0 ((fun _ => 0), (fun _ => (fun _ => 0)), (fun _ => (fun _ => 0)), (fun _ => 0), (fun _ => 0)) dJ0_coder_7d493_14 ⟨(by have k9 := tI_0; omega), (show (0 ≤ (0 : Int32).toInt ∧ (0 : Int32).toInt ≤ 0) by have k9 := tI_0; omega)⟩ (g_psub (wc := []) hP [] rfl) (hD.sub (ws' := []) [] (by decide) rfl) hS
set_option maxHeartbeats 4000000 in
set_option maxRecDepth 100000 in
theorem k_J0_length_8abf5 (l : Launch) (D : va_G) (cB cC cI cJ : ClassId) (sz : Nat) (adK adV : Nat → Nat) (i : Nat) (hi : i < 15) : Met l yJ0_length_8abf5 (.code yJ0_length_8abf5 cJ0_length_8abf5 1 (some .int) :: lw_gd) ({ frames := 1, cells := 0, slots := 0, locals := 20 }) (gPreT D [(cB, .byte), (cC, .char), (cI, .int), (cJ, .long)] [.ref (adK i)] [] sz adK adV) (va_Qi (fun r u => (0 ≤ r.toInt ∧ r.toInt ≤ 6) ∧ (r.toInt = ((lenS.getD i 0 : Nat) : Int))) (gB D (va_A [] sz) (fun u : gEx => [])) (va_A [] sz)) 0 0 (va_A [] sz) := by
  refine gOfT_i (by decide +kernel) (Nat.le_of_ble_eq_true rfl) ?_
  intro p e s m args below meth c ls A Q hx hb hts hown hml hN hK hP hD hA hl hF hret
  have hlen := s_len hi
  have hown : s.vm.findClass RJ0 = some m.cls := hown
  have hS : va_S A s.heap s.heap [] := va_S.rf
  have hP : va_P D gcl [] s.heap := hP
  have hl : lv_has ls 1 [(0, .ref (adK i))] := hl
  refine lv_aload_n (pc := 0) hx hb dJ0_length_8abf5_0 rfl (lv_at hl 0 rfl) ?_
  refine vk_getf (pc := 1) (v := .ref (adV i)) hx hb (hF.1.1 i hi).2.2.1 hS hown (hts _ tw_2110) (fun _ h9 => h9) dJ0_length_8abf5_1 ?_
  refine va_tlen (pc := 4) hx hb (hF.1.1 i hi).2.2.2 hS rfl dJ0_length_8abf5_4 ?_
  refine lv_aload_n (pc := 5) hx hb dJ0_length_8abf5_5 rfl (lv_at hl 0 rfl) ?_
  refine gc_i (pc := 6) (wc := []) (wr := []) hP hD hS hA [] [] rfl rfl (by decide) (by decide) (by decide) (fun hPc hDc => va_runV (As := []) (rest := [.int (Int32.ofNat (lenS.getD i 0))]) ⟨hx, hb, hml, hown, hts⟩ (k_J0_coder_7d493 l D cB cC cI cJ _ adK adV i hi) ⟨gcwB hts tw_560 tw_15 tw_557 hd_yJ0_coder_7d493 ⟨Nat.le_of_ble_eq_true rfl, Nat.le_of_ble_eq_true rfl⟩, hts _ tw_558, hts _ tw_559⟩ ⟨gblindT, vk_recv hF.1 hi hS, (gpreT hPc hK hDc hN hF hS (va_free (wc := []) hD hS hA [] rfl)).2⟩ rfl rfl hl.1 rfl (lv_room (Nat.le_of_ble_eq_true rfl)) dJ0_length_8abf5_6 ⟨Nat.le_of_ble_eq_true rfl, Nat.le_of_ble_eq_true rfl⟩) (fun r_2 u_1 H locs hw_3 hP hD hS => ?_)
  have hP : va_P D gcl [] H := hP
  have hD : va_D A [] := hD
  have hw_4 : (0 ≤ r_2.toInt ∧ r_2.toInt ≤ 0) := hw_3
  have rr_2 := n_rng r_2
  have h_5 : r_2 = 0 := Int32.toInt_inj.mp ((show r_2.toInt = 0 by omega).trans tI_0.symm)
  subst h_5
  refine lv_ishr (pc := 9) hx hb dJ0_length_8abf5_9 ?_
  refine gI (y := (Int32.ofNat (lenS.getD i 0))) (s_shr hi) ?_
  exact hret (Int32.ofNat (lenS.getD i 0)) ((fun _ => 0), (fun _ => (fun _ => 0)), (fun _ => (fun _ => 0)), (fun _ => 0), (fun _ => 0)) dJ0_length_8abf5_10 ⟨(show (0 ≤ (Int32.ofNat (lenS.getD i 0)).toInt ∧ (Int32.ofNat (lenS.getD i 0)).toInt ≤ 6) by omega), (show (Int32.ofNat (lenS.getD i 0)).toInt = ((lenS.getD i 0 : Nat) : Int) by omega)⟩ (g_psub (wc := []) hP [] rfl) (hD.sub (ws' := []) [] (by decide) rfl) hS
set_option maxHeartbeats 4000000 in
set_option maxRecDepth 100000 in
theorem k_J0_isLatin1_aae02 (l : Launch) (D : va_G) (cB cC cI cJ : ClassId) (sz : Nat) (adK adV : Nat → Nat) (i : Nat) (hi : i < 15) : Met l yJ0_isLatin1_aae02 (.code yJ0_isLatin1_aae02 cJ0_isLatin1_aae02 1 (some .boolean) :: lw_gd) ({ frames := 0, cells := 0, slots := 0, locals := 0 }) (gPreT D [(cB, .byte), (cC, .char), (cI, .int), (cJ, .long)] [.ref (adK i)] [] sz adK adV) (va_Qi (fun r u => (1 ≤ r.toInt ∧ r.toInt ≤ 1) ∧ (r.toInt = 1)) (gB D (va_A [] sz) (fun u : gEx => [])) (va_A [] sz)) 0 0 (va_A [] sz) := by
  refine gOfT_z (by decide +kernel) (Nat.le_of_ble_eq_true rfl) ?_
  intro p e s m args below meth c ls A Q hx hb hts hown hml hN hK hP hD hA hl hF hret
  have hlen := s_len hi
  have hown : s.vm.findClass RJ0 = some m.cls := hown
  have hS : va_S A s.heap s.heap [] := va_S.rf
  have hP : va_P D gcl [] s.heap := hP
  have hl : lv_has ls 1 [(0, .ref (adK i))] := hl
  refine va_gets (pc := 0) (v := .int 1) hx hb hF.2.2.1 hS hown (hts _ tw_561) (fun _ h9 => h9) dJ0_isLatin1_aae02_0 ?_
  refine b_if_eq (pc := 3) (tgt := 17) hx hb tI_1  dJ0_isLatin1_aae02_3 (by decide) (fun c_1 => absurd c_1 (by omega)) (fun c_1 => ?_)
  refine lv_aload_n (pc := 6) hx hb dJ0_isLatin1_aae02_6 rfl (lv_at hl 0 rfl) ?_
  refine vk_getf (pc := 7) (v := .int 0) hx hb (hF.1.1 i hi).2.1 hS hown (hts _ tw_2111) (fun _ h9 => h9) dJ0_isLatin1_aae02_7 ?_
  refine b_if_ne (pc := 10) (tgt := 17) hx hb tI_0  dJ0_isLatin1_aae02_10 (by decide) (fun c_2 => absurd c_2 (by omega)) (fun c_2 => ?_)
  refine lv_iconst (pc := 13) (v := 1) hx hb dJ0_isLatin1_aae02_13 (by decide) ?_
  refine lv_goto (pc := 14) (tgt := 18) hx hb dJ0_isLatin1_aae02_14 (by decide) ?_
  have k9 := tI_1
  exact hret 1 ((fun _ => 0), (fun _ => (fun _ => 0)), (fun _ => (fun _ => 0)), (fun _ => 0), (fun _ => 0)) dJ0_isLatin1_aae02_18 ⟨(by have k9 := tI_1; omega), ⟨(show (1 ≤ (1 : Int32).toInt ∧ (1 : Int32).toInt ≤ 1) by have k9 := tI_1; omega), (show (1 : Int32).toInt = 1 by have k9 := tI_1; omega)⟩⟩ (g_psub (wc := []) hP [] rfl) (hD.sub (ws' := []) [] (by decide) rfl) hS
set_option maxHeartbeats 4000000 in
set_option maxRecDepth 100000 in
theorem k_J3_checkIndex_8e157_n (l : Launch) (D : va_G) (cB cC cI cJ : ClassId) (sz : Nat) (x0 x1 : Int32) (hg__k : 0 ≤ x0.toInt ∧ x0.toInt < x1.toInt) : Met l yJ3_checkIndex_8e157 (.code yJ3_checkIndex_8e157 cJ3_checkIndex_8e157 3 (some .int) :: lw_gd) ({ frames := 0, cells := 0, slots := 0, locals := 0 }) (gPre D [(cB, .byte), (cC, .char), (cI, .int), (cJ, .long)] [.int x0, .int x1, .null] [] sz) (va_Qi (fun r u => (0 ≤ r.toInt ∧ r.toInt ≤ 2147483646)) (gB D (va_A [] sz) (fun u : gEx => [])) (va_A [] sz)) 0 0 (va_A [] sz) := by
  refine gOf_i (by decide +kernel) (Nat.le_of_ble_eq_true rfl) ?_
  intro p e s m args below meth c ls A Q hx hb hts hown hml hN hK hP hD hA hl hret
  have hown : s.vm.findClass RJ3 = some m.cls := hown
  have hS : va_S A s.heap s.heap [] := va_S.rf
  have hP : va_P D gcl [] s.heap := hP
  have hl : lv_has ls 3 [(0, .int x0), (1, .int x1), (2, .null)] := hl
  have rx0 := n_rng x0
  have rx1 := n_rng x1
  refine lv_iload_n (pc := 0) hx hb dJ3_checkIndex_8e157_0 rfl (lv_at hl 0 rfl) ?_
  refine b_if_lt (pc := 1) (tgt := 9) hx hb rfl  dJ3_checkIndex_8e157_1 (by decide) (fun c_1 => ?_) (fun c_1 => ?_)
  ·
    exact False.elim (by omega)
  ·
    refine lv_iload_n (pc := 4) hx hb dJ3_checkIndex_8e157_4 rfl (lv_at hl 0 rfl) ?_
    refine lv_iload_n (pc := 5) hx hb dJ3_checkIndex_8e157_5 rfl (lv_at hl 1 rfl) ?_
    refine b_icmp_lt (pc := 6) (tgt := 16) hx hb rfl rfl  dJ3_checkIndex_8e157_6 (by decide) (fun c_2 => ?_) (fun c_2 => ?_)
    ·
      refine lv_iload_n (pc := 16) hx hb dJ3_checkIndex_8e157_16 rfl (lv_at hl 0 rfl) ?_
      exact hret x0 ((fun _ => 0), (fun _ => (fun _ => 0)), (fun _ => (fun _ => 0)), (fun _ => 0), (fun _ => 0)) dJ3_checkIndex_8e157_17 (show (0 ≤ x0.toInt ∧ x0.toInt ≤ 2147483646) by omega) (g_psub (wc := []) hP [] rfl) (hD.sub (ws' := []) [] (by decide) rfl) hS
    ·
      exact False.elim (by omega)
set_option maxHeartbeats 4000000 in
set_option maxRecDepth 100000 in
theorem k_J3_checkIndex_8e157 (l : Launch) (D : va_G) (cB cC cI cJ : ClassId) (sz : Nat) (a0 : Nat) (x0 x1 : Int32) (hg__k : 0 ≤ x0.toInt ∧ x0.toInt < x1.toInt) : Met l yJ3_checkIndex_8e157 (.code yJ3_checkIndex_8e157 cJ3_checkIndex_8e157 3 (some .int) :: lw_gd) ({ frames := 0, cells := 0, slots := 0, locals := 0 }) (gPre D [(cB, .byte), (cC, .char), (cI, .int), (cJ, .long)] [.int x0, .int x1, .ref a0] [] sz) (va_Qi (fun r u => (0 ≤ r.toInt ∧ r.toInt ≤ 2147483646)) (gB D (va_A [] sz) (fun u : gEx => [])) (va_A [] sz)) 0 0 (va_A [] sz) := by
  refine gOf_i (by decide +kernel) (Nat.le_of_ble_eq_true rfl) ?_
  intro p e s m args below meth c ls A Q hx hb hts hown hml hN hK hP hD hA hl hret
  have hown : s.vm.findClass RJ3 = some m.cls := hown
  have hS : va_S A s.heap s.heap [] := va_S.rf
  have hP : va_P D gcl [] s.heap := hP
  have hl : lv_has ls 3 [(0, .int x0), (1, .int x1), (2, .ref a0)] := hl
  have rx0 := n_rng x0
  have rx1 := n_rng x1
  refine lv_iload_n (pc := 0) hx hb dJ3_checkIndex_8e157_0 rfl (lv_at hl 0 rfl) ?_
  refine b_if_lt (pc := 1) (tgt := 9) hx hb rfl  dJ3_checkIndex_8e157_1 (by decide) (fun c_1 => ?_) (fun c_1 => ?_)
  ·
    exact False.elim (by omega)
  ·
    refine lv_iload_n (pc := 4) hx hb dJ3_checkIndex_8e157_4 rfl (lv_at hl 0 rfl) ?_
    refine lv_iload_n (pc := 5) hx hb dJ3_checkIndex_8e157_5 rfl (lv_at hl 1 rfl) ?_
    refine b_icmp_lt (pc := 6) (tgt := 16) hx hb rfl rfl  dJ3_checkIndex_8e157_6 (by decide) (fun c_2 => ?_) (fun c_2 => ?_)
    ·
      refine lv_iload_n (pc := 16) hx hb dJ3_checkIndex_8e157_16 rfl (lv_at hl 0 rfl) ?_
      exact hret x0 ((fun _ => 0), (fun _ => (fun _ => 0)), (fun _ => (fun _ => 0)), (fun _ => 0), (fun _ => 0)) dJ3_checkIndex_8e157_17 (show (0 ≤ x0.toInt ∧ x0.toInt ≤ 2147483646) by omega) (g_psub (wc := []) hP [] rfl) (hD.sub (ws' := []) [] (by decide) rfl) hS
    ·
      exact False.elim (by omega)
set_option maxHeartbeats 4000000 in
set_option maxRecDepth 100000 in
theorem k_J0_checkIndex_df160 (l : Launch) (D : va_G) (cB cC cI cJ : ClassId) (sz : Nat) (adK adV : Nat → Nat) (x0 x1 : Int32) (hg__k : 0 ≤ x0.toInt ∧ x0.toInt < x1.toInt) : Met l yJ0_checkIndex_df160 (.code yJ0_checkIndex_df160 cJ0_checkIndex_df160 2 none :: lw_gd) ({ frames := 1, cells := 0, slots := 0, locals := 22 }) (gPreT D [(cB, .byte), (cC, .char), (cI, .int), (cJ, .long)] [.int x0, .int x1] [] sz adK adV) (va_Qv (fun u => True) (gB D (va_A [] sz) (fun u : gEx => [])) (va_A [] sz)) 0 0 (va_A [] sz) := by
  refine gOfT_v (by decide +kernel) (Nat.le_of_ble_eq_true rfl) ?_
  intro p e s m args below meth c ls A Q hx hb hts hown hml hN hK hP hD hA hl hF hret
  have hown : s.vm.findClass RJ0 = some m.cls := hown
  have hS : va_S A s.heap s.heap [] := va_S.rf
  have hP : va_P D gcl [] s.heap := hP
  have hl : lv_has ls 2 [(0, .int x0), (1, .int x1)] := hl
  have rx0 := n_rng x0
  have rx1 := n_rng x1
  refine lv_iload_n (pc := 0) hx hb dJ0_checkIndex_df160_0 rfl (lv_at hl 0 rfl) ?_
  refine lv_iload_n (pc := 1) hx hb dJ0_checkIndex_df160_1 rfl (lv_at hl 1 rfl) ?_
  rcases hF.2.2.2 with hz_1 | ⟨zt_2, hz_1⟩
  ·
    refine va_gets (pc := 2) (v := .null) hx hb hz_1 hS hown (hts _ tw_577) (fun _ h9 => h9) dJ0_checkIndex_df160_2 ?_
    refine gc_i (pc := 5) (wc := []) (wr := []) hP hD hS hA [] [] rfl rfl (by decide) (by decide) (by decide) (fun hPc hDc => va_runS (As := [.int x0, .int x1, .null]) (rest := []) ⟨hx, hb, hml, hown, hts⟩ (k_J3_checkIndex_8e157_n l D cB cC cI cJ _ x0 x1 (by  omega)) ⟨gcwB hts tw_581 tw_17 tw_579 hd_yJ3_checkIndex_8e157 ⟨Nat.le_of_ble_eq_true rfl, Nat.le_of_ble_eq_true rfl⟩, hts _ tw_580⟩ (gpreS hPc hK hDc hN) rfl rfl hl.1 rfl (lv_room (Nat.le_of_ble_eq_true rfl)) dJ0_checkIndex_df160_5 ⟨Nat.le_of_ble_eq_true rfl, Nat.le_of_ble_eq_true rfl⟩) (fun r_4 u_3 H locs hw_5 hP hD hS => ?_)
    have hP : va_P D gcl [] H := hP
    have hD : va_D A [] := hD
    have hw_6 : (0 ≤ r_4.toInt ∧ r_4.toInt ≤ 2147483646) := hw_5
    have rr_4 := n_rng r_4
    refine lv_pop (pc := 8) hx hb dJ0_checkIndex_df160_8 rfl ?_
    exact hret ((fun _ => 0), (fun _ => (fun _ => 0)), (fun _ => (fun _ => 0)), (fun _ => 0), (fun _ => 0)) dJ0_checkIndex_df160_9 trivial (g_psub (wc := []) hP [] rfl) (hD.sub (ws' := []) [] (by decide) rfl) hS
  ·
    refine va_gets (pc := 2) (v := .ref zt_2) hx hb hz_1 hS hown (hts _ tw_577) (fun _ h9 => h9) dJ0_checkIndex_df160_2 ?_
    refine gc_i (pc := 5) (wc := []) (wr := []) hP hD hS hA [] [] rfl rfl (by decide) (by decide) (by decide) (fun hPc hDc => va_runS (As := [.int x0, .int x1, .ref zt_2]) (rest := []) ⟨hx, hb, hml, hown, hts⟩ (k_J3_checkIndex_8e157 l D cB cC cI cJ _ zt_2 x0 x1 (by  omega)) ⟨gcwB hts tw_581 tw_17 tw_579 hd_yJ3_checkIndex_8e157 ⟨Nat.le_of_ble_eq_true rfl, Nat.le_of_ble_eq_true rfl⟩, hts _ tw_580⟩ (gpreS hPc hK hDc hN) rfl rfl hl.1 rfl (lv_room (Nat.le_of_ble_eq_true rfl)) dJ0_checkIndex_df160_5 ⟨Nat.le_of_ble_eq_true rfl, Nat.le_of_ble_eq_true rfl⟩) (fun r_8 u_7 H locs hw_9 hP hD hS => ?_)
    have hP : va_P D gcl [] H := hP
    have hD : va_D A [] := hD
    have hw_10 : (0 ≤ r_8.toInt ∧ r_8.toInt ≤ 2147483646) := hw_9
    have rr_8 := n_rng r_8
    refine lv_pop (pc := 8) hx hb dJ0_checkIndex_df160_8 rfl ?_
    exact hret ((fun _ => 0), (fun _ => (fun _ => 0)), (fun _ => (fun _ => 0)), (fun _ => 0), (fun _ => 0)) dJ0_checkIndex_df160_9 trivial (g_psub (wc := []) hP [] rfl) (hD.sub (ws' := []) [] (by decide) rfl) hS
set_option maxHeartbeats 4000000 in
set_option maxRecDepth 100000 in
theorem k_J1_charAt_3b067 (l : Launch) (D : va_G) (cB cC cI cJ : ClassId) (sz : Nat) (adK adV : Nat → Nat) (i : Nat) (hi : i < 15) (x0 : Int32) (hg__k : 0 ≤ x0.toInt ∧ x0.toInt < ((lenS.getD i 0 : Nat) : Int)) : Met l yJ1_charAt_3b067 (.code yJ1_charAt_3b067 cJ1_charAt_3b067 2 (some .char) :: lw_gd) ({ frames := 2, cells := 0, slots := 0, locals := 43 }) (gPreT D [(cB, .byte), (cC, .char), (cI, .int), (cJ, .long)] [.ref (adV i), .int x0] [] sz adK adV) (va_Qi (fun r u => (narrow .char (.int r) = (.int r : Value))) (gB D (va_A [] sz) (fun u : gEx => [])) (va_A [] sz)) 0 0 (va_A [] sz) := by
  refine gOfT_c (by decide +kernel) (Nat.le_of_ble_eq_true rfl) ?_
  intro p e s m args below meth c ls A Q hx hb hts hown hml hN hK hP hD hA hl hF hret
  have hlen := s_len hi
  have hown : s.vm.findClass RJ1 = some m.cls := hown
  have hS : va_S A s.heap s.heap [] := va_S.rf
  have hP : va_P D gcl [] s.heap := hP
  have hl : lv_has ls 2 [(0, .ref (adV i)), (1, .int x0)] := hl
  have rx0 := n_rng x0
  refine lv_iload_n (pc := 0) hx hb dJ1_charAt_3b067_0 rfl (lv_at hl 1 rfl) ?_
  refine lv_aload_n (pc := 1) hx hb dJ1_charAt_3b067_1 rfl (lv_at hl 0 rfl) ?_
  refine va_tlen (pc := 2) hx hb (hF.1.1 i hi).2.2.2 hS rfl dJ1_charAt_3b067_2 ?_
  refine gc_v (pc := 3) (wc := []) (wr := []) hP hD hS hA [] [] rfl rfl (by decide) (by decide) (by decide) (fun hPc hDc => va_runS (As := [.int x0, .int (Int32.ofNat (lenS.getD i 0))]) (rest := []) ⟨hx, hb, hml, hown, hts⟩ (k_J0_checkIndex_df160 l D cB cC cI cJ _ adK adV x0 (Int32.ofNat (lenS.getD i 0)) (by  omega)) ⟨gcwB hts tw_576 tw_15 tw_574 hd_yJ0_checkIndex_df160 ⟨Nat.le_of_ble_eq_true rfl, Nat.le_of_ble_eq_true rfl⟩, hts _ tw_575⟩ (gpreT hPc hK hDc hN hF hS (va_free (wc := []) hD hS hA [] rfl)) rfl rfl hl.1 rfl (lv_room (Nat.le_of_ble_eq_true rfl)) dJ1_charAt_3b067_3 ⟨Nat.le_of_ble_eq_true rfl, Nat.le_of_ble_eq_true rfl⟩) (fun u_1 H locs hw_3 hP hD hS => ?_)
  have hP : va_P D gcl [] H := hP
  have hD : va_D A [] := hD
  refine lv_aload_n (pc := 6) hx hb dJ1_charAt_3b067_6 rfl (lv_at hl 0 rfl) ?_
  refine lv_iload_n (pc := 7) hx hb dJ1_charAt_3b067_7 rfl (lv_at hl 1 rfl) ?_
  refine va_tb (pc := 8) hx hb (hF.1.1 i hi).2.2.2 hS (n_in rfl (by omega) (by omega)) rfl dJ1_charAt_3b067_8 ?_
  refine lv_sipush (pc := 9) (v := 255) hx hb dJ1_charAt_3b067_9 (by decide) ?_
  refine lv_iand (pc := 12) hx hb dJ1_charAt_3b067_12 ?_
  refine lv_i2c (pc := 13) hx hb dJ1_charAt_3b067_13 rfl ?_
  refine lv_topi (fun x_4 ex_4 => ?_)
  have rx_4 := n_rng x_4
  have nrx_4 : narrow .char (.int x_4) = .int x_4 := by rw [ex_4]; exact s_nar hi (show x0.toInt.toNat < 6 by omega)
  exact hret x_4 ((fun _ => 0), (fun _ => (fun _ => 0)), (fun _ => (fun _ => 0)), (fun _ => 0), (fun _ => 0)) dJ1_charAt_3b067_14 ⟨nrx_4, (show narrow .char (.int x_4) = (.int x_4 : Value) from nrx_4)⟩ (g_psub (wc := []) hP [] rfl) (hD.sub (ws' := []) [] (by decide) rfl) hS
set_option maxHeartbeats 4000000 in
set_option maxRecDepth 100000 in
theorem k_J0_charAt_5068e (l : Launch) (D : va_G) (cB cC cI cJ : ClassId) (sz : Nat) (adK adV : Nat → Nat) (i : Nat) (hi : i < 15) (x0 : Int32) (hg__k : 0 ≤ x0.toInt ∧ x0.toInt < ((lenS.getD i 0 : Nat) : Int)) : Met l yJ0_charAt_5068e (.code yJ0_charAt_5068e cJ0_charAt_5068e 2 (some .char) :: lw_gd) ({ frames := 3, cells := 0, slots := 0, locals := 64 }) (gPreT D [(cB, .byte), (cC, .char), (cI, .int), (cJ, .long)] [.ref (adK i), .int x0] [] sz adK adV) (va_Qi (fun r u => True) (gB D (va_A [] sz) (fun u : gEx => [])) (va_A [] sz)) 0 0 (va_A [] sz) := by
  refine gOfT_c (by decide +kernel) (Nat.le_of_ble_eq_true rfl) ?_
  intro p e s m args below meth c ls A Q hx hb hts hown hml hN hK hP hD hA hl hF hret
  have hlen := s_len hi
  have hown : s.vm.findClass RJ0 = some m.cls := hown
  have hS : va_S A s.heap s.heap [] := va_S.rf
  have hP : va_P D gcl [] s.heap := hP
  have hl : lv_has ls 2 [(0, .ref (adK i)), (1, .int x0)] := hl
  have rx0 := n_rng x0
  refine lv_aload_n (pc := 0) hx hb dJ0_charAt_5068e_0 rfl (lv_at hl 0 rfl) ?_
  refine gc_i (pc := 1) (wc := []) (wr := []) hP hD hS hA [] [] rfl rfl (by decide) (by decide) (by decide) (fun hPc hDc => va_runV (As := []) (rest := []) ⟨hx, hb, hml, hown, hts⟩ (k_J0_isLatin1_aae02 l D cB cC cI cJ _ adK adV i hi) ⟨gcwB hts tw_570 tw_15 tw_567 hd_yJ0_isLatin1_aae02 ⟨Nat.le_of_ble_eq_true rfl, Nat.le_of_ble_eq_true rfl⟩, hts _ tw_568, hts _ tw_569⟩ ⟨gblindT, vk_recv hF.1 hi hS, (gpreT hPc hK hDc hN hF hS (va_free (wc := []) hD hS hA [] rfl)).2⟩ rfl rfl hl.1 rfl (lv_room (Nat.le_of_ble_eq_true rfl)) dJ0_charAt_5068e_1 ⟨Nat.le_of_ble_eq_true rfl, Nat.le_of_ble_eq_true rfl⟩) (fun r_2 u_1 H locs hw_3 hP hD hS => ?_)
  have hP : va_P D gcl [] H := hP
  have hD : va_D A [] := hD
  obtain ⟨hw_4, hw_5⟩ := hw_3
  have hw_4 : (1 ≤ r_2.toInt ∧ r_2.toInt ≤ 1) := hw_4
  have hw_5 : (r_2.toInt = 1) := hw_5
  have rr_2 := n_rng r_2
  refine b_if_eq (pc := 4) (tgt := 16) hx hb rfl  dJ0_charAt_5068e_4 (by decide) (fun c_6 => absurd c_6 (by omega)) (fun c_6 => ?_)
  refine lv_aload_n (pc := 7) hx hb dJ0_charAt_5068e_7 rfl (lv_at hl 0 rfl) ?_
  refine vk_getf (pc := 8) (v := .ref (adV i)) hx hb (hF.1.1 i hi).2.2.1 hS hown (hts _ tw_2110) (fun _ h9 => h9) dJ0_charAt_5068e_8 ?_
  refine lv_iload_n (pc := 11) hx hb dJ0_charAt_5068e_11 rfl (lv_at hl 1 rfl) ?_
  refine gc_i (pc := 12) (wc := []) (wr := []) hP hD hS hA [] [] rfl rfl (by decide) (by decide) (by decide) (fun hPc hDc => va_runS (As := [.ref (adV i), .int x0]) (rest := []) ⟨hx, hb, hml, hown, hts⟩ (k_J1_charAt_3b067 l D cB cC cI cJ _ adK adV i hi x0 (by  omega)) ⟨gcwB hts tw_573 tw_16 tw_571 hd_yJ1_charAt_3b067 ⟨Nat.le_of_ble_eq_true rfl, Nat.le_of_ble_eq_true rfl⟩, hts _ tw_572⟩ (gpreT hPc hK hDc hN hF hS (va_free (wc := []) hD hS hA [] rfl)) rfl rfl hl.1 rfl (lv_room (Nat.le_of_ble_eq_true rfl)) dJ0_charAt_5068e_12 ⟨Nat.le_of_ble_eq_true rfl, Nat.le_of_ble_eq_true rfl⟩) (fun r_8 u_7 H locs hw_9 hP hD hS => ?_)
  have hP : va_P D gcl [] H := hP
  have hD : va_D A [] := hD
  have hw_10 : (narrow .char (.int r_8) = (.int r_8 : Value)) := hw_9
  have rr_8 := n_rng r_8
  exact hret r_8 ((fun _ => 0), (fun _ => (fun _ => 0)), (fun _ => (fun _ => 0)), (fun _ => 0), (fun _ => 0)) dJ0_charAt_5068e_15 ⟨hw_10, trivial⟩ (g_psub (wc := []) hP [] rfl) (hD.sub (ws' := []) [] (by decide) rfl) hS
set_option maxHeartbeats 4000000 in
set_option maxRecDepth 100000 in
theorem k_X4_isWordAhead (l : Launch) (D : va_G) (cB cC cI cJ : ClassId) (sz : Nat) (adK adV : Nat → Nat) (i : Nat) (hi : i < 15) (a0 a1 a2 a3 : Nat) (x0 x1 x2 x3 x4 x5 x6 : Int32) (f0 : Nat → Int32) (h_x6 : (0 ≤ x6.toInt ∧ x6.toInt ≤ 1600)) : Met l yX4_isWordAhead (.code yX4_isWordAhead cX4_isWordAhead 4 (some .boolean) :: lw_gd) ({ frames := 4, cells := 0, slots := 0, locals := 85 }) (gPreT D [(cB, .byte), (cC, .char), (cI, .int), (cJ, .long)] [.ref a0, .ref (adK i)] [(a0, .inr (4, [.ref a1, .ref a2, .int x0, .int x1, .int x2, .int x3, .int x4, .int x5])), (a1, .inr (9, [.ref a3, .int x6])), (a3, .inl (cB, 1600, .inl f0))] sz adK adV) (va_Qi (fun r u => (0 ≤ r.toInt ∧ r.toInt ≤ 1)) (gB D (va_A [(a0, .inr (4, [.ref a1, .ref a2, .int x0, .int x1, .int x2, .int x3, .int x4, .int x5])), (a1, .inr (9, [.ref a3, .int x6])), (a3, .inl (cB, 1600, .inl f0))] sz) (fun u : gEx => [(a0, .inr (4, [.ref a1, .ref a2, .int x0, .int x1, .int x2, .int x3, .int x4, .int x5])), (a1, .inr (9, [.ref a3, .int x6])), (a3, .inl (cB, 1600, .inl f0))])) (va_A [(a0, .inr (4, [.ref a1, .ref a2, .int x0, .int x1, .int x2, .int x3, .int x4, .int x5])), (a1, .inr (9, [.ref a3, .int x6])), (a3, .inl (cB, 1600, .inl f0))] sz)) 0 0 (va_A [(a0, .inr (4, [.ref a1, .ref a2, .int x0, .int x1, .int x2, .int x3, .int x4, .int x5])), (a1, .inr (9, [.ref a3, .int x6])), (a3, .inl (cB, 1600, .inl f0))] sz) := by
  refine gOfT_z (by decide +kernel) (Nat.le_of_ble_eq_true rfl) ?_
  intro p e s m args below meth c ls A Q hx hb hts hown hml hN hK hP hD hA hl hF hret
  have hlen := s_len hi
  have hown : s.vm.findClass RX4 = some m.cls := hown
  have hS : va_S A s.heap s.heap [] := va_S.rf
  have hP : va_P D gcl [(a0, .inr (4, [.ref a1, .ref a2, .int x0, .int x1, .int x2, .int x3, .int x4, .int x5])), (a1, .inr (9, [.ref a3, .int x6])), (a3, .inl (cB, 1600, .inl f0))] s.heap := hP
  have hl : lv_has ls 4 [(0, .ref a0), (1, .ref (adK i))] := hl
  have rx0 := n_rng x0
  have rx1 := n_rng x1
  have rx2 := n_rng x2
  have rx3 := n_rng x3
  have rx4 := n_rng x4
  have rx5 := n_rng x5
  refine lv_aload_n (pc := 0) hx hb dX4_isWordAhead_0 rfl (lv_at hl 1 rfl) ?_
  refine gc_i (pc := 1) (wc := []) (wr := [(a0, .inr (4, [.ref a1, .ref a2, .int x0, .int x1, .int x2, .int x3, .int x4, .int x5])), (a1, .inr (9, [.ref a3, .int x6])), (a3, .inl (cB, 1600, .inl f0))]) hP hD hS hA [] [0, 1, 2] rfl rfl (by decide) (by decide) (by decide) (fun hPc hDc => va_runV (As := []) (rest := []) ⟨hx, hb, hml, hown, hts⟩ (k_J0_length_8abf5 l D cB cC cI cJ _ adK adV i hi) ⟨gcwB hts tw_556 tw_15 tw_553 hd_yJ0_length_8abf5 ⟨Nat.le_of_ble_eq_true rfl, Nat.le_of_ble_eq_true rfl⟩, hts _ tw_554, hts _ tw_555⟩ ⟨gblindT, vk_recv hF.1 hi hS, (gpreT hPc hK hDc hN hF hS (va_free (wc := []) hD hS hA [] rfl)).2⟩ rfl rfl hl.1 rfl (lv_room (Nat.le_of_ble_eq_true rfl)) dX4_isWordAhead_1 ⟨Nat.le_of_ble_eq_true rfl, Nat.le_of_ble_eq_true rfl⟩) (fun r_2 u_1 H locs hw_3 hP hD hS => ?_)
  have hP : va_P D gcl [(a0, .inr (4, [.ref a1, .ref a2, .int x0, .int x1, .int x2, .int x3, .int x4, .int x5])), (a1, .inr (9, [.ref a3, .int x6])), (a3, .inl (cB, 1600, .inl f0))] H := hP
  have hD : va_D A [(a0, .inr (4, [.ref a1, .ref a2, .int x0, .int x1, .int x2, .int x3, .int x4, .int x5])), (a1, .inr (9, [.ref a3, .int x6])), (a3, .inl (cB, 1600, .inl f0))] := hD
  obtain ⟨hw_4, hw_5⟩ := hw_3
  have hw_4 : (0 ≤ r_2.toInt ∧ r_2.toInt ≤ 6) := hw_4
  have hw_5 : (r_2.toInt = ((lenS.getD i 0 : Nat) : Int)) := hw_5
  have rr_2 := n_rng r_2
  refine lv_istore_n (pc := 4) (lv' := [(2, .int r_2), (0, .ref a0), (1, .ref (adK i))]) hx hb dX4_isWordAhead_4 rfl hl (by decide) rfl (fun ls hl => ?_)
  refine lv_iconst (pc := 5) (v := 0) hx hb dX4_isWordAhead_5 (by decide) ?_
  refine lv_istore_n (pc := 6) (lv' := [(3, .int 0), (2, .int r_2), (0, .ref a0), (1, .ref (adK i))]) hx hb dX4_isWordAhead_6 rfl hl (by decide) rfl (fun ls hl => ?_)
  have lp_8 : ∀ (n : Nat) (x_6 : Int32) (H : Heap) (locs : List Loc) (ls : Array Slot), (0 ≤ x_6.toInt ∧ x_6.toInt ≤ 2147483647) → (2147483647 - x_6.toInt).toNat < n → va_P D gcl [(a0, .inr (4, [.ref a1, .ref a2, .int x0, .int x1, .int x2, .int x3, .int x4, .int x5])), (a1, .inr (9, [.ref a3, .int x6])), (a3, .inl (cB, 1600, .inl f0))] H → va_D A [(a0, .inr (4, [.ref a1, .ref a2, .int x0, .int x1, .int x2, .int x3, .int x4, .int x5])), (a1, .inr (9, [.ref a3, .int x6])), (a3, .inl (cB, 1600, .inl f0))] → va_S A s.heap H locs → lv_has ls 4 [(3, .int x_6), (2, .int r_2), (0, .ref a0), (1, .ref (adK i))] → W p l e ({ frames := 4, cells := 0, slots := 0, locals := 85 }) s m args below meth c H locs 0 0 Q (F0 m 7 ls []) := by
    intro n
    induction n with
    | zero => intro x_6 H locs ls hi_7 hmu; exact absurd hmu (Nat.not_lt_zero _)
    | succ n ih_lp_8 =>
      intro x_6 H locs ls hi_7 hmu_lp_8 hP hD hS hl
      refine lv_iload_n (pc := 7) hx hb dX4_isWordAhead_7 rfl (lv_at hl 0 rfl) ?_
      refine lv_iload_n (pc := 8) hx hb dX4_isWordAhead_8 rfl (lv_at hl 1 rfl) ?_
      refine b_icmp_ge (pc := 9) (tgt := 41) hx hb rfl rfl  dX4_isWordAhead_9 (by decide) (fun c_9 => ?_) (fun c_9 => ?_)
      ·
        refine lv_aload_n (pc := 41) hx hb dX4_isWordAhead_41 rfl (lv_at hl 2 rfl) ?_
        refine va_get (pc := 42) (ci := 4) (v := .int x1) (C := RX4) (T := TX4) (N := 8) hx hb hts iX4 hown hK hP 0 rfl rfl 3 (by decide) (hts _ tw_171) (fun _ h9 => h9) rfl dX4_isWordAhead_42 ?_
        refine b_if_eq (pc := 45) (tgt := 71) hx hb rfl  dX4_isWordAhead_45 (by decide) (fun c_10 => ?_) (fun c_10 => ?_)
        ·
          refine lv_iconst (pc := 71) (v := 0) hx hb dX4_isWordAhead_71 (by decide) ?_
          exact hret 0 ((fun _ => 0), (fun _ => (fun _ => 0)), (fun _ => (fun _ => 0)), (fun _ => 0), (fun _ => 0)) dX4_isWordAhead_72 ⟨(by have k9 := tI_0; omega), (show (0 ≤ (0 : Int32).toInt ∧ (0 : Int32).toInt ≤ 1) by have k9 := tI_0; omega)⟩ (g_psub (wc := [(a0, .inr (4, [.ref a1, .ref a2, .int x0, .int x1, .int x2, .int x3, .int x4, .int x5])), (a1, .inr (9, [.ref a3, .int x6])), (a3, .inl (cB, 1600, .inl f0))]) hP [0, 1, 2] rfl) (hD.sub (ws' := [(a0, .inr (4, [.ref a1, .ref a2, .int x0, .int x1, .int x2, .int x3, .int x4, .int x5])), (a1, .inr (9, [.ref a3, .int x6])), (a3, .inl (cB, 1600, .inl f0))]) [0, 1, 2] (by decide) rfl) hS
        ·
          refine lv_aload_n (pc := 48) hx hb dX4_isWordAhead_48 rfl (lv_at hl 2 rfl) ?_
          refine va_get (pc := 49) (ci := 4) (v := .ref a1) (C := RX4) (T := TX4) (N := 8) hx hb hts iX4 hown hK hP 0 rfl rfl 0 (by decide) (hts _ tw_167) (fun _ h9 => h9) rfl dX4_isWordAhead_49 ?_
          refine lv_aload_n (pc := 52) hx hb dX4_isWordAhead_52 rfl (lv_at hl 2 rfl) ?_
          refine va_get (pc := 53) (ci := 4) (v := .int x0) (C := RX4) (T := TX4) (N := 8) hx hb hts iX4 hown hK hP 0 rfl rfl 2 (by decide) (hts _ tw_170) (fun _ h9 => h9) rfl dX4_isWordAhead_53 ?_
          refine lv_iload_n (pc := 56) hx hb dX4_isWordAhead_56 rfl (lv_at hl 1 rfl) ?_
          refine lv_iadd (pc := 57) hx hb dX4_isWordAhead_57 ?_
          refine lv_topi (fun x_11 _ => ?_)
          have rx_11 := n_rng x_11
          refine gc_i (pc := 58) (wc := [(a1, .inr (9, [.ref a3, .int x6])), (a3, .inl (cB, 1600, .inl f0))]) (wr := [(a0, .inr (4, [.ref a1, .ref a2, .int x0, .int x1, .int x2, .int x3, .int x4, .int x5]))]) hP hD hS hA [1, 2] [0] rfl rfl (by decide) (by decide) (by decide) (fun hPc hDc => va_runV (As := [.int x_11]) (rest := []) ⟨hx, hb, hml, hown, hts⟩ (k_X9_at l D cB cC cI cJ _ a1 a3 x_11 x6 f0 (by  omega)) ⟨gcwB hts tw_518 tw_3 tw_515 hd_yX9_at ⟨Nat.le_of_ble_eq_true rfl, Nat.le_of_ble_eq_true rfl⟩, hts _ tw_516, hts _ tw_517⟩ ⟨gblind, va_recv hK hPc (ci := 9) (q0 := 0) rfl rfl, (gpreS hPc hK hDc hN).2⟩ rfl rfl hl.1 rfl (lv_room (Nat.le_of_ble_eq_true rfl)) dX4_isWordAhead_58 ⟨Nat.le_of_ble_eq_true rfl, Nat.le_of_ble_eq_true rfl⟩) (fun r_13 u_12 H locs hw_14 hP hD hS => ?_)
          have hP : va_P D gcl [(a0, .inr (4, [.ref a1, .ref a2, .int x0, .int x1, .int x2, .int x3, .int x4, .int x5])), (a1, .inr (9, [.ref a3, .int x6])), (a3, .inl (cB, 1600, .inl f0))] H := hP
          have hD : va_D A [(a0, .inr (4, [.ref a1, .ref a2, .int x0, .int x1, .int x2, .int x3, .int x4, .int x5])), (a1, .inr (9, [.ref a3, .int x6])), (a3, .inl (cB, 1600, .inl f0))] := hD
          have hw_15 : ((r_13.toInt = (-1) ∧ x_11.toInt < 0) ∨ (r_13.toInt = (-1) ∧ x_11.toInt ≥ 0 ∧ x_11.toInt ≥ x6.toInt) ∨ ((0 ≤ r_13.toInt ∧ r_13.toInt ≤ 255) ∧ x_11.toInt ≥ 0 ∧ x_11.toInt < x6.toInt)) := hw_14
          have rr_13 := n_rng r_13
          refine gc_i (pc := 61) (wc := []) (wr := [(a0, .inr (4, [.ref a1, .ref a2, .int x0, .int x1, .int x2, .int x3, .int x4, .int x5])), (a1, .inr (9, [.ref a3, .int x6])), (a3, .inl (cB, 1600, .inl f0))]) hP hD hS hA [] [0, 1, 2] rfl rfl (by decide) (by decide) (by decide) (fun hPc hDc => va_runS (As := [.int r_13]) (rest := []) ⟨hx, hb, hml, hown, hts⟩ (k_X4_isSmall l D cB cC cI cJ _ r_13) ⟨gcwB hts tw_524 tw_2 tw_522 hd_yX4_isSmall ⟨Nat.le_of_ble_eq_true rfl, Nat.le_of_ble_eq_true rfl⟩, hts _ tw_523⟩ (gpreS hPc hK hDc hN) rfl rfl hl.1 rfl (lv_room (Nat.le_of_ble_eq_true rfl)) dX4_isWordAhead_61 ⟨Nat.le_of_ble_eq_true rfl, Nat.le_of_ble_eq_true rfl⟩) (fun r_17 u_16 H locs hw_18 hP hD hS => ?_)
          have hP : va_P D gcl [(a0, .inr (4, [.ref a1, .ref a2, .int x0, .int x1, .int x2, .int x3, .int x4, .int x5])), (a1, .inr (9, [.ref a3, .int x6])), (a3, .inl (cB, 1600, .inl f0))] H := hP
          have hD : va_D A [(a0, .inr (4, [.ref a1, .ref a2, .int x0, .int x1, .int x2, .int x3, .int x4, .int x5])), (a1, .inr (9, [.ref a3, .int x6])), (a3, .inl (cB, 1600, .inl f0))] := hD
          have hw_19 : ((r_17.toInt = 0 ∧ r_13.toInt < 97) ∨ (r_17.toInt = 0 ∧ r_13.toInt ≥ 97 ∧ r_13.toInt > 122) ∨ (r_17.toInt = 1 ∧ r_13.toInt ≥ 97 ∧ r_13.toInt ≤ 122)) := hw_18
          have rr_17 := n_rng r_17
          refine b_if_ne (pc := 64) (tgt := 71) hx hb rfl  dX4_isWordAhead_64 (by decide) (fun c_20 => ?_) (fun c_20 => ?_)
          ·
            refine lv_iconst (pc := 71) (v := 0) hx hb dX4_isWordAhead_71 (by decide) ?_
            exact hret 0 ((fun _ => 0), (fun _ => (fun _ => 0)), (fun _ => (fun _ => 0)), (fun _ => 0), (fun _ => 0)) dX4_isWordAhead_72 ⟨(by have k9 := tI_0; omega), (show (0 ≤ (0 : Int32).toInt ∧ (0 : Int32).toInt ≤ 1) by have k9 := tI_0; omega)⟩ (g_psub (wc := [(a0, .inr (4, [.ref a1, .ref a2, .int x0, .int x1, .int x2, .int x3, .int x4, .int x5])), (a1, .inr (9, [.ref a3, .int x6])), (a3, .inl (cB, 1600, .inl f0))]) hP [0, 1, 2] rfl) (hD.sub (ws' := [(a0, .inr (4, [.ref a1, .ref a2, .int x0, .int x1, .int x2, .int x3, .int x4, .int x5])), (a1, .inr (9, [.ref a3, .int x6])), (a3, .inl (cB, 1600, .inl f0))]) [0, 1, 2] (by decide) rfl) hS
          ·
            refine lv_iconst (pc := 67) (v := 1) hx hb dX4_isWordAhead_67 (by decide) ?_
            refine lv_goto (pc := 68) (tgt := 72) hx hb dX4_isWordAhead_68 (by decide) ?_
            exact hret 1 ((fun _ => 0), (fun _ => (fun _ => 0)), (fun _ => (fun _ => 0)), (fun _ => 0), (fun _ => 0)) dX4_isWordAhead_72 ⟨(by have k9 := tI_1; omega), (show (0 ≤ (1 : Int32).toInt ∧ (1 : Int32).toInt ≤ 1) by have k9 := tI_1; omega)⟩ (g_psub (wc := [(a0, .inr (4, [.ref a1, .ref a2, .int x0, .int x1, .int x2, .int x3, .int x4, .int x5])), (a1, .inr (9, [.ref a3, .int x6])), (a3, .inl (cB, 1600, .inl f0))]) hP [0, 1, 2] rfl) (hD.sub (ws' := [(a0, .inr (4, [.ref a1, .ref a2, .int x0, .int x1, .int x2, .int x3, .int x4, .int x5])), (a1, .inr (9, [.ref a3, .int x6])), (a3, .inl (cB, 1600, .inl f0))]) [0, 1, 2] (by decide) rfl) hS
      ·
        refine lv_aload_n (pc := 12) hx hb dX4_isWordAhead_12 rfl (lv_at hl 2 rfl) ?_
        refine va_get (pc := 13) (ci := 4) (v := .ref a1) (C := RX4) (T := TX4) (N := 8) hx hb hts iX4 hown hK hP 0 rfl rfl 0 (by decide) (hts _ tw_167) (fun _ h9 => h9) rfl dX4_isWordAhead_13 ?_
        refine lv_aload_n (pc := 16) hx hb dX4_isWordAhead_16 rfl (lv_at hl 2 rfl) ?_
        refine va_get (pc := 17) (ci := 4) (v := .int x0) (C := RX4) (T := TX4) (N := 8) hx hb hts iX4 hown hK hP 0 rfl rfl 2 (by decide) (hts _ tw_170) (fun _ h9 => h9) rfl dX4_isWordAhead_17 ?_
        refine lv_iload_n (pc := 20) hx hb dX4_isWordAhead_20 rfl (lv_at hl 0 rfl) ?_
        refine lv_iadd (pc := 21) hx hb dX4_isWordAhead_21 ?_
        refine lv_topi (fun x_21 _ => ?_)
        have rx_21 := n_rng x_21
        refine gc_i (pc := 22) (wc := [(a1, .inr (9, [.ref a3, .int x6])), (a3, .inl (cB, 1600, .inl f0))]) (wr := [(a0, .inr (4, [.ref a1, .ref a2, .int x0, .int x1, .int x2, .int x3, .int x4, .int x5]))]) hP hD hS hA [1, 2] [0] rfl rfl (by decide) (by decide) (by decide) (fun hPc hDc => va_runV (As := [.int x_21]) (rest := []) ⟨hx, hb, hml, hown, hts⟩ (k_X9_at l D cB cC cI cJ _ a1 a3 x_21 x6 f0 (by  omega)) ⟨gcwB hts tw_518 tw_3 tw_515 hd_yX9_at ⟨Nat.le_of_ble_eq_true rfl, Nat.le_of_ble_eq_true rfl⟩, hts _ tw_516, hts _ tw_517⟩ ⟨gblind, va_recv hK hPc (ci := 9) (q0 := 0) rfl rfl, (gpreS hPc hK hDc hN).2⟩ rfl rfl hl.1 rfl (lv_room (Nat.le_of_ble_eq_true rfl)) dX4_isWordAhead_22 ⟨Nat.le_of_ble_eq_true rfl, Nat.le_of_ble_eq_true rfl⟩) (fun r_23 u_22 H locs hw_24 hP hD hS => ?_)
        have hP : va_P D gcl [(a0, .inr (4, [.ref a1, .ref a2, .int x0, .int x1, .int x2, .int x3, .int x4, .int x5])), (a1, .inr (9, [.ref a3, .int x6])), (a3, .inl (cB, 1600, .inl f0))] H := hP
        have hD : va_D A [(a0, .inr (4, [.ref a1, .ref a2, .int x0, .int x1, .int x2, .int x3, .int x4, .int x5])), (a1, .inr (9, [.ref a3, .int x6])), (a3, .inl (cB, 1600, .inl f0))] := hD
        have hw_25 : ((r_23.toInt = (-1) ∧ x_21.toInt < 0) ∨ (r_23.toInt = (-1) ∧ x_21.toInt ≥ 0 ∧ x_21.toInt ≥ x6.toInt) ∨ ((0 ≤ r_23.toInt ∧ r_23.toInt ≤ 255) ∧ x_21.toInt ≥ 0 ∧ x_21.toInt < x6.toInt)) := hw_24
        have rr_23 := n_rng r_23
        refine lv_aload_n (pc := 25) hx hb dX4_isWordAhead_25 rfl (lv_at hl 3 rfl) ?_
        refine lv_iload_n (pc := 26) hx hb dX4_isWordAhead_26 rfl (lv_at hl 0 rfl) ?_
        refine gc_i (pc := 27) (wc := []) (wr := [(a0, .inr (4, [.ref a1, .ref a2, .int x0, .int x1, .int x2, .int x3, .int x4, .int x5])), (a1, .inr (9, [.ref a3, .int x6])), (a3, .inl (cB, 1600, .inl f0))]) hP hD hS hA [] [0, 1, 2] rfl rfl (by decide) (by decide) (by decide) (fun hPc hDc => va_runV (As := [.int x_6]) (rest := [.int r_23]) ⟨hx, hb, hml, hown, hts⟩ (k_J0_charAt_5068e l D cB cC cI cJ _ adK adV i hi x_6 (by  omega)) ⟨gcwB hts tw_566 tw_15 tw_563 hd_yJ0_charAt_5068e ⟨Nat.le_of_ble_eq_true rfl, Nat.le_of_ble_eq_true rfl⟩, hts _ tw_564, hts _ tw_565⟩ ⟨gblindT, vk_recv hF.1 hi hS, (gpreT hPc hK hDc hN hF hS (va_free (wc := []) hD hS hA [] rfl)).2⟩ rfl rfl hl.1 rfl (lv_room (Nat.le_of_ble_eq_true rfl)) dX4_isWordAhead_27 ⟨Nat.le_of_ble_eq_true rfl, Nat.le_of_ble_eq_true rfl⟩) (fun r_27 u_26 H locs hw_28 hP hD hS => ?_)
        have hP : va_P D gcl [(a0, .inr (4, [.ref a1, .ref a2, .int x0, .int x1, .int x2, .int x3, .int x4, .int x5])), (a1, .inr (9, [.ref a3, .int x6])), (a3, .inl (cB, 1600, .inl f0))] H := hP
        have hD : va_D A [(a0, .inr (4, [.ref a1, .ref a2, .int x0, .int x1, .int x2, .int x3, .int x4, .int x5])), (a1, .inr (9, [.ref a3, .int x6])), (a3, .inl (cB, 1600, .inl f0))] := hD
        have rr_27 := n_rng r_27
        refine b_icmp_eq (pc := 30) (tgt := 35) hx hb rfl rfl  dX4_isWordAhead_30 (by decide) (fun c_29 => ?_) (fun c_29 => ?_)
        ·
          refine b_iinc (pc := 35) hx hb dX4_isWordAhead_35 hl (k := 0) rfl rfl tI_1 (by omega) (by omega) (by decide) (fun x_30 ex_30 ls hl => ?_)
          have hl : lv_has ls 4 [(3, .int x_30), (2, .int r_2), (0, .ref a0), (1, .ref (adK i))] := hl
          refine lv_goto (pc := 38) (tgt := 7) hx hb dX4_isWordAhead_38 (by decide) ?_
          exact ih_lp_8 x_30 _ _ ls (by omega) (by omega) hP hD hS (lv_sub hl [0, 1, 2, 3] rfl)
        ·
          refine lv_iconst (pc := 33) (v := 0) hx hb dX4_isWordAhead_33 (by decide) ?_
          exact hret 0 ((fun _ => 0), (fun _ => (fun _ => 0)), (fun _ => (fun _ => 0)), (fun _ => 0), (fun _ => 0)) dX4_isWordAhead_34 ⟨(by have k9 := tI_0; omega), (show (0 ≤ (0 : Int32).toInt ∧ (0 : Int32).toInt ≤ 1) by have k9 := tI_0; omega)⟩ (g_psub (wc := [(a0, .inr (4, [.ref a1, .ref a2, .int x0, .int x1, .int x2, .int x3, .int x4, .int x5])), (a1, .inr (9, [.ref a3, .int x6])), (a3, .inl (cB, 1600, .inl f0))]) hP [0, 1, 2] rfl) (hD.sub (ws' := [(a0, .inr (4, [.ref a1, .ref a2, .int x0, .int x1, .int x2, .int x3, .int x4, .int x5])), (a1, .inr (9, [.ref a3, .int x6])), (a3, .inl (cB, 1600, .inl f0))]) [0, 1, 2] (by decide) rfl) hS
  exact lp_8 _ 0 _ _ ls (by have k0 := tI_0; omega) (Nat.lt_succ_self _) hP hD hS (lv_sub hl [0, 1, 2, 3] rfl)
set_option maxHeartbeats 4000000 in
set_option maxRecDepth 100000 in
theorem k_X4_takesWord (l : Launch) (D : va_G) (cB cC cI cJ : ClassId) (sz : Nat) (adK adV : Nat → Nat) (i : Nat) (hi : i < 15) (a0 a1 a2 a3 : Nat) (x0 x1 x2 x3 x4 x5 x6 : Int32) (f0 : Nat → Int32) (h_x6 : (0 ≤ x6.toInt ∧ x6.toInt ≤ 1600)) : Met l yX4_takesWord (.code yX4_takesWord cX4_takesWord 3 (some .boolean) :: lw_gd) ({ frames := 5, cells := 0, slots := 0, locals := 108 }) (gPreT D [(cB, .byte), (cC, .char), (cI, .int), (cJ, .long)] [.ref a0, .ref (adK i)] [(a0, .inr (4, [.ref a1, .ref a2, .int x0, .int x1, .int x2, .int x3, .int x4, .int x5])), (a1, .inr (9, [.ref a3, .int x6])), (a3, .inl (cB, 1600, .inl f0))] sz adK adV) (va_Qi (fun r u => (0 ≤ r.toInt ∧ r.toInt ≤ 1)) (gB D (va_A [(a0, .inr (4, [.ref a1, .ref a2, .int x0, .int x1, .int x2, .int x3, .int x4, .int x5])), (a1, .inr (9, [.ref a3, .int x6])), (a3, .inl (cB, 1600, .inl f0))] sz) (fun u : gEx => [(a0, .inr (4, [.ref a1, .ref a2, .int (u.2.2.2.1 0), .int (u.2.2.2.1 1), .int x2, .int x3, .int x4, .int x5])), (a1, .inr (9, [.ref a3, .int x6])), (a3, .inl (cB, 1600, .inl f0))])) (va_A [(a0, .inr (4, [.ref a1, .ref a2, .int x0, .int x1, .int x2, .int x3, .int x4, .int x5])), (a1, .inr (9, [.ref a3, .int x6])), (a3, .inl (cB, 1600, .inl f0))] sz)) 0 0 (va_A [(a0, .inr (4, [.ref a1, .ref a2, .int x0, .int x1, .int x2, .int x3, .int x4, .int x5])), (a1, .inr (9, [.ref a3, .int x6])), (a3, .inl (cB, 1600, .inl f0))] sz) := by
  refine gOfT_z (by decide +kernel) (Nat.le_of_ble_eq_true rfl) ?_
  intro p e s m args below meth c ls A Q hx hb hts hown hml hN hK hP hD hA hl hF hret
  have hlen := s_len hi
  have hown : s.vm.findClass RX4 = some m.cls := hown
  have hS : va_S A s.heap s.heap [] := va_S.rf
  have hP : va_P D gcl [(a0, .inr (4, [.ref a1, .ref a2, .int x0, .int x1, .int x2, .int x3, .int x4, .int x5])), (a1, .inr (9, [.ref a3, .int x6])), (a3, .inl (cB, 1600, .inl f0))] s.heap := hP
  have hl : lv_has ls 3 [(0, .ref a0), (1, .ref (adK i))] := hl
  have rx0 := n_rng x0
  have rx1 := n_rng x1
  have rx2 := n_rng x2
  have rx3 := n_rng x3
  have rx4 := n_rng x4
  have rx5 := n_rng x5
  refine lv_aload_n (pc := 0) hx hb dX4_takesWord_0 rfl (lv_at hl 0 rfl) ?_
  refine lv_aload_n (pc := 1) hx hb dX4_takesWord_1 rfl (lv_at hl 1 rfl) ?_
  refine gc_i (pc := 2) (wc := [(a0, .inr (4, [.ref a1, .ref a2, .int x0, .int x1, .int x2, .int x3, .int x4, .int x5])), (a1, .inr (9, [.ref a3, .int x6])), (a3, .inl (cB, 1600, .inl f0))]) (wr := []) hP hD hS hA [0, 1, 2] [] rfl rfl (by decide) (by decide) (by decide) (fun hPc hDc => va_runV (As := [.ref (adK i)]) (rest := []) ⟨hx, hb, hml, hown, hts⟩ (k_X4_isWordAhead l D cB cC cI cJ _ adK adV i hi a0 a1 a2 a3 x0 x1 x2 x3 x4 x5 x6 f0 (by  omega)) ⟨gcwB hts tw_552 tw_2 tw_549 hd_yX4_isWordAhead ⟨Nat.le_of_ble_eq_true rfl, Nat.le_of_ble_eq_true rfl⟩, hts _ tw_551, hts _ tp_6⟩ ⟨gblindT, va_recv hK hPc (ci := 4) (q0 := 0) rfl rfl, (gpreT hPc hK hDc hN hF hS (va_free (wc := [(a0, .inr (4, [.ref a1, .ref a2, .int x0, .int x1, .int x2, .int x3, .int x4, .int x5])), (a1, .inr (9, [.ref a3, .int x6])), (a3, .inl (cB, 1600, .inl f0))]) hD hS hA [0, 1, 2] rfl)).2⟩ rfl rfl hl.1 rfl (lv_room (Nat.le_of_ble_eq_true rfl)) dX4_takesWord_2 ⟨Nat.le_of_ble_eq_true rfl, Nat.le_of_ble_eq_true rfl⟩) (fun r_2 u_1 H locs hw_3 hP hD hS => ?_)
  have hP : va_P D gcl [(a0, .inr (4, [.ref a1, .ref a2, .int x0, .int x1, .int x2, .int x3, .int x4, .int x5])), (a1, .inr (9, [.ref a3, .int x6])), (a3, .inl (cB, 1600, .inl f0))] H := hP
  have hD : va_D A [(a0, .inr (4, [.ref a1, .ref a2, .int x0, .int x1, .int x2, .int x3, .int x4, .int x5])), (a1, .inr (9, [.ref a3, .int x6])), (a3, .inl (cB, 1600, .inl f0))] := hD
  have hw_4 : (0 ≤ r_2.toInt ∧ r_2.toInt ≤ 1) := hw_3
  have rr_2 := n_rng r_2
  refine lv_istore_n (pc := 5) (lv' := [(2, .int r_2), (0, .ref a0), (1, .ref (adK i))]) hx hb dX4_takesWord_5 rfl hl (by decide) rfl (fun ls hl => ?_)
  refine lv_iload_n (pc := 6) hx hb dX4_takesWord_6 rfl (lv_at hl 0 rfl) ?_
  refine b_if_eq (pc := 7) (tgt := 24) hx hb rfl  dX4_takesWord_7 (by decide) (fun c_5 => ?_) (fun c_5 => ?_)
  ·
    refine lv_iload_n (pc := 24) hx hb dX4_takesWord_24 rfl (lv_at hl 0 rfl) ?_
    exact hret r_2 ((fun _ => 0), (fun _ => (fun _ => 0)), (fun _ => (fun _ => 0)), (fun k => [x0, x1].getD k 0), (fun _ => 0)) dX4_takesWord_25 ⟨(by omega), (show (0 ≤ r_2.toInt ∧ r_2.toInt ≤ 1) by omega)⟩ (g_psub (wc := [(a0, .inr (4, [.ref a1, .ref a2, .int x0, .int x1, .int x2, .int x3, .int x4, .int x5])), (a1, .inr (9, [.ref a3, .int x6])), (a3, .inl (cB, 1600, .inl f0))]) hP [0, 1, 2] rfl) (hD.sub (ws' := [(a0, .inr (4, [.ref a1, .ref a2, .int x0, .int x1, .int x2, .int x3, .int x4, .int x5])), (a1, .inr (9, [.ref a3, .int x6])), (a3, .inl (cB, 1600, .inl f0))]) [0, 1, 2] (by decide) rfl) hS
  ·
    refine lv_aload_n (pc := 10) hx hb dX4_takesWord_10 rfl (lv_at hl 1 rfl) ?_
    refine lv_aload_n (pc := 11) hx hb dX4_takesWord_11 rfl (lv_at hl 1 rfl) ?_
    refine va_get (pc := 12) (ci := 4) (v := .int x0) (C := RX4) (T := TX4) (N := 8) hx hb hts iX4 hown hK hP 0 rfl rfl 2 (by decide) (hts _ tw_170) (fun _ h9 => h9) rfl dX4_takesWord_12 ?_
    refine lv_aload_n (pc := 15) hx hb dX4_takesWord_15 rfl (lv_at hl 2 rfl) ?_
    refine gc_i (pc := 16) (wc := []) (wr := [(a0, .inr (4, [.ref a1, .ref a2, .int x0, .int x1, .int x2, .int x3, .int x4, .int x5])), (a1, .inr (9, [.ref a3, .int x6])), (a3, .inl (cB, 1600, .inl f0))]) hP hD hS hA [] [0, 1, 2] rfl rfl (by decide) (by decide) (by decide) (fun hPc hDc => va_runV (As := []) (rest := [.int x0, .ref a0]) ⟨hx, hb, hml, hown, hts⟩ (k_J0_length_8abf5 l D cB cC cI cJ _ adK adV i hi) ⟨gcwB hts tw_556 tw_15 tw_553 hd_yJ0_length_8abf5 ⟨Nat.le_of_ble_eq_true rfl, Nat.le_of_ble_eq_true rfl⟩, hts _ tw_554, hts _ tw_555⟩ ⟨gblindT, vk_recv hF.1 hi hS, (gpreT hPc hK hDc hN hF hS (va_free (wc := []) hD hS hA [] rfl)).2⟩ rfl rfl hl.1 rfl (lv_room (Nat.le_of_ble_eq_true rfl)) dX4_takesWord_16 ⟨Nat.le_of_ble_eq_true rfl, Nat.le_of_ble_eq_true rfl⟩) (fun r_7 u_6 H locs hw_8 hP hD hS => ?_)
    have hP : va_P D gcl [(a0, .inr (4, [.ref a1, .ref a2, .int x0, .int x1, .int x2, .int x3, .int x4, .int x5])), (a1, .inr (9, [.ref a3, .int x6])), (a3, .inl (cB, 1600, .inl f0))] H := hP
    have hD : va_D A [(a0, .inr (4, [.ref a1, .ref a2, .int x0, .int x1, .int x2, .int x3, .int x4, .int x5])), (a1, .inr (9, [.ref a3, .int x6])), (a3, .inl (cB, 1600, .inl f0))] := hD
    obtain ⟨hw_9, hw_10⟩ := hw_8
    have hw_9 : (0 ≤ r_7.toInt ∧ r_7.toInt ≤ 6) := hw_9
    have hw_10 : (r_7.toInt = ((lenS.getD i 0 : Nat) : Int)) := hw_10
    have rr_7 := n_rng r_7
    refine lv_iadd (pc := 19) hx hb dX4_takesWord_19 ?_
    refine lv_topi (fun x_11 _ => ?_)
    have rx_11 := n_rng x_11
    refine lv_iconst (pc := 20) (v := 1) hx hb dX4_takesWord_20 (by decide) ?_
    refine gc_v (pc := 21) (wc := [(a0, .inr (4, [.ref a1, .ref a2, .int x0, .int x1, .int x2, .int x3, .int x4, .int x5])), (a1, .inr (9, [.ref a3, .int x6])), (a3, .inl (cB, 1600, .inl f0))]) (wr := []) hP hD hS hA [0, 1, 2] [] rfl rfl (by decide) (by decide) (by decide) (fun hPc hDc => va_runV (As := [.int x_11, .int 1]) (rest := []) ⟨hx, hb, hml, hown, hts⟩ (k_X4_goOn l D cB cC cI cJ _ a0 a1 a2 a3 x_11 1 x0 x1 x2 x3 x4 x5 x6 f0 (by have k0 := tI_1; omega) (by have k0 := tI_1; omega)) ⟨gcwB hts tw_513 tw_2 tw_510 hd_yX4_goOn ⟨Nat.le_of_ble_eq_true rfl, Nat.le_of_ble_eq_true rfl⟩, hts _ tw_512, hts _ tp_0⟩ ⟨gblind, va_recv hK hPc (ci := 4) (q0 := 0) rfl rfl, (gpreS hPc hK hDc hN).2⟩ rfl rfl hl.1 rfl (lv_room (Nat.le_of_ble_eq_true rfl)) dX4_takesWord_21 ⟨Nat.le_of_ble_eq_true rfl, Nat.le_of_ble_eq_true rfl⟩) (fun u_12 H locs hw_14 hP hD hS => ?_)
    have hP : va_P D gcl [(a0, .inr (4, [.ref a1, .ref a2, .int (u_12.2.2.2.1 0), .int (u_12.2.2.2.1 1), .int x2, .int x3, .int x4, .int x5])), (a1, .inr (9, [.ref a3, .int x6])), (a3, .inl (cB, 1600, .inl f0))] H := hP
    have hD : va_D A [(a0, .inr (4, [.ref a1, .ref a2, .int (u_12.2.2.2.1 0), .int (u_12.2.2.2.1 1), .int x2, .int x3, .int x4, .int x5])), (a1, .inr (9, [.ref a3, .int x6])), (a3, .inl (cB, 1600, .inl f0))] := hD
    have ru_12_0 := n_rng (u_12.2.2.2.1 0)
    have ru_12_1 := n_rng (u_12.2.2.2.1 1)
    refine lv_iload_n (pc := 24) hx hb dX4_takesWord_24 rfl (lv_at hl 0 rfl) ?_
    exact hret r_2 ((fun _ => 0), (fun _ => (fun _ => 0)), (fun _ => (fun _ => 0)), (fun k => [(u_12.2.2.2.1 0), (u_12.2.2.2.1 1)].getD k 0), (fun _ => 0)) dX4_takesWord_25 ⟨(by omega), (show (0 ≤ r_2.toInt ∧ r_2.toInt ≤ 1) by omega)⟩ (g_psub (wc := [(a0, .inr (4, [.ref a1, .ref a2, .int (u_12.2.2.2.1 0), .int (u_12.2.2.2.1 1), .int x2, .int x3, .int x4, .int x5])), (a1, .inr (9, [.ref a3, .int x6])), (a3, .inl (cB, 1600, .inl f0))]) hP [0, 1, 2] rfl) (hD.sub (ws' := [(a0, .inr (4, [.ref a1, .ref a2, .int (u_12.2.2.2.1 0), .int (u_12.2.2.2.1 1), .int x2, .int x3, .int x4, .int x5])), (a1, .inr (9, [.ref a3, .int x6])), (a3, .inl (cB, 1600, .inl f0))]) [0, 1, 2] (by decide) rfl) hS
