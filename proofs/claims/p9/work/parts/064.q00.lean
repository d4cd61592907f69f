set_option maxHeartbeats 4000000 in
set_option maxRecDepth 100000 in
theorem k_J7_fill_53178_30_x (l : Launch) (D : va_G) (cB cC cI cJ : ClassId) (sz : Nat) (a0 : Nat) (x0 : Int32) (f0 : Nat → Int32) : Met l yJ7_fill_53178 (.code yJ7_fill_53178 cJ7_fill_53178 4 none :: lw_gd) ({ frames := 0, cells := 0, slots := 0, locals := 0 }) (gPre D [(cB, .byte), (cC, .char), (cI, .int), (cJ, .long)] [.ref a0, .int x0] [(a0, .inl (cI, 30, .inl f0))] sz) (va_Qv (fun u => (fillQ (u.2.1 0) x0 30)) (gB D (va_A [(a0, .inl (cI, 30, .inl f0))] sz) (fun u : gEx => [(a0, .inl (cI, 30, .inl (u.2.1 0)))])) (va_A [(a0, .inl (cI, 30, .inl f0))] sz)) 0 0 (va_A [(a0, .inl (cI, 30, .inl f0))] sz) := by
  refine gOf_v (by decide +kernel) (Nat.le_of_ble_eq_true rfl) ?_
  intro p e s m args below meth c ls A Q hx hb hts hown hml hN hK hP hD hA hl hret
  have hown : s.vm.findClass RJ7 = some m.cls := hown
  have hS : va_S A s.heap s.heap [] := va_S.rf
  have hP : va_P D gcl [(a0, .inl (cI, 30, .inl f0))] s.heap := hP
  have hl : lv_has ls 4 [(0, .ref a0), (1, .int x0)] := hl
  have rx0 := n_rng x0
  refine lv_iconst (pc := 0) (v := 0) hx hb dJ7_fill_53178_0 (by decide) ?_
  refine lv_istore_n (pc := 1) (lv' := [(2, .int 0), (0, .ref a0), (1, .int x0)]) hx hb dJ7_fill_53178_1 rfl hl (by decide) rfl (fun ls hl => ?_)
  refine lv_aload_n (pc := 2) hx hb dJ7_fill_53178_2 rfl (lv_at hl 1 rfl) ?_
  refine va_alen (pc := 3) (v := 30) hx hb hK hP 0 2 rfl rfl rfl dJ7_fill_53178_3 ?_
  refine lv_istore_n (pc := 4) (lv' := [(3, .int 30), (2, .int 0), (0, .ref a0), (1, .int x0)]) hx hb dJ7_fill_53178_4 rfl hl (by decide) rfl (fun ls hl => ?_)
  have lp_5 : ∀ (n : Nat) (x_1 : Int32) (f_3 : Nat → Int32) (H : Heap) (locs : List Loc) (ls : Array Slot), (0 ≤ x_1.toInt ∧ x_1.toInt ≤ 2147483647) → (fillQ f_3 x0 x_1.toInt) → (2147483647 - x_1.toInt).toNat < n → va_P D gcl [(a0, .inl (cI, 30, .inl f_3))] H → va_D A [(a0, .inl (cI, 30, .inl f_3))] → va_S A s.heap H locs → lv_has ls 4 [(3, .int 30), (2, .int x_1), (0, .ref a0), (1, .int x0)] → W p l e ({ frames := 0, cells := 0, slots := 0, locals := 0 }) s m args below meth c H locs 0 0 Q (F0 m 5 ls []) := by
    intro n
    induction n with
    | zero => intro x_1 f_3 H locs ls hi_2 hi_4 hmu; exact absurd hmu (Nat.not_lt_zero _)
    | succ n ih_lp_5 =>
      intro x_1 f_3 H locs ls hi_2 hi_4 hmu_lp_5 hP hD hS hl
      refine lv_iload_n (pc := 5) hx hb dJ7_fill_53178_5 rfl (lv_at hl 1 rfl) ?_
      refine lv_iload_n (pc := 6) hx hb dJ7_fill_53178_6 rfl (lv_at hl 0 rfl) ?_
      refine b_icmp_ge (pc := 7) (tgt := 20) hx hb rfl tI_30  dJ7_fill_53178_7 (by decide) (fun c_6 => ?_) (fun c_6 => ?_)
      ·
        exact hret ((fun _ => 0), (fun k => [f_3].getD k (fun _ => 0)), (fun _ => (fun _ => 0)), (fun _ => 0), (fun _ => 0)) dJ7_fill_53178_20 (show fillQ f_3 x0 30 from (fun j hj => hi_4 j (by omega))) (g_psub (wc := [(a0, .inl (cI, 30, .inl f_3))]) hP [0] rfl) (hD.sub (ws' := [(a0, .inl (cI, 30, .inl f_3))]) [0] (by decide) rfl) hS
      ·
        refine lv_aload_n (pc := 10) hx hb dJ7_fill_53178_10 rfl (lv_at hl 2 rfl) ?_
        refine lv_iload_n (pc := 11) hx hb dJ7_fill_53178_11 rfl (lv_at hl 1 rfl) ?_
        refine lv_iload_n (pc := 12) hx hb dJ7_fill_53178_12 rfl (lv_at hl 3 rfl) ?_
        refine e_iastore (pc := 13) hx hb hK hP hD hS 0 2 rfl rfl (n_in rfl (by omega) (by omega)) dJ7_fill_53178_13 (fun f_7 ef_7 H locs hP hD hS => ?_)
        have hP : va_P D gcl [(a0, .inl (cI, 30, .inl f_7))] H := hP
        have hD : va_D A [(a0, .inl (cI, 30, .inl f_7))] := hD
        refine b_iinc (pc := 14) hx hb dJ7_fill_53178_14 hl (k := 1) rfl rfl tI_1 (by omega) (by omega) (by decide) (fun x_8 ex_8 ls hl => ?_)
        have hl : lv_has ls 4 [(2, .int x_8), (3, .int 30), (0, .ref a0), (1, .int x0)] := hl
        refine lv_goto (pc := 17) (tgt := 5) hx hb dJ7_fill_53178_17 (by decide) ?_
        exact ih_lp_5 x_8 f_7 _ _ ls (by omega) (fill_step hi_4 ef_7 rfl (by omega) (by omega)) (by omega) hP hD hS (lv_sub hl [1, 0, 2, 3] rfl)
  exact lp_5 _ 0 f0 _ _ ls (n_c tI_0 (by decide)) (fun j hj => absurd hj (by have q := tI_0; omega)) (Nat.lt_succ_self _) hP hD hS (lv_sub hl [0, 1, 2, 3] rfl)
set_option maxHeartbeats 4000000 in
set_option maxRecDepth 100000 in
theorem k_X8_clear_x (l : Launch) (D : va_G) (cB cC cI cJ : ClassId) (sz : Nat) (a0 a1 : Nat) (f0 : Nat → Int32) : Met l yX8_clear (.code yX8_clear cX8_clear 1 none :: lw_gd) ({ frames := 1, cells := 0, slots := 0, locals := 23 }) (gPre D [(cB, .byte), (cC, .char), (cI, .int), (cJ, .long)] [.ref a0] [(a0, .inr (8, [.ref a1])), (a1, .inl (cI, 30, .inl f0))] sz) (va_Qv (fun u => (TB (u.2.1 0) 99) ∧ (∀ j : Nat, j < 30 → (u.2.1 0) j = 0)) (gB D (va_A [(a0, .inr (8, [.ref a1])), (a1, .inl (cI, 30, .inl f0))] sz) (fun u : gEx => [(a0, .inr (8, [.ref a1])), (a1, .inl (cI, 30, .inl (u.2.1 0)))])) (va_A [(a0, .inr (8, [.ref a1])), (a1, .inl (cI, 30, .inl f0))] sz)) 0 0 (va_A [(a0, .inr (8, [.ref a1])), (a1, .inl (cI, 30, .inl f0))] sz) := by
  refine gOf_v (by decide +kernel) (Nat.le_of_ble_eq_true rfl) ?_
  intro p e s m args below meth c ls A Q hx hb hts hown hml hN hK hP hD hA hl hret
  have hown : s.vm.findClass RX8 = some m.cls := hown
  have hS : va_S A s.heap s.heap [] := va_S.rf
  have hP : va_P D gcl [(a0, .inr (8, [.ref a1])), (a1, .inl (cI, 30, .inl f0))] s.heap := hP
  have hl : lv_has ls 1 [(0, .ref a0)] := hl
  refine lv_aload_n (pc := 0) hx hb dX8_clear_0 rfl (lv_at hl 0 rfl) ?_
  refine va_get (pc := 1) (ci := 8) (v := .ref a1) (C := RX8) (T := TX8) (N := 1) hx hb hts iX8 hown hK hP 0 rfl rfl 0 (by decide) (hts _ tw_62) (fun _ h9 => h9) rfl dX8_clear_1 ?_
  refine lv_iconst (pc := 4) (v := 0) hx hb dX8_clear_4 (by decide) ?_
  refine gc_v (pc := 5) (wc := [(a1, .inl (cI, 30, .inl f0))]) (wr := [(a0, .inr (8, [.ref a1]))]) hP hD hS hA [1] [0] rfl rfl (by decide) (by decide) (by decide) (fun hPc hDc => va_runS (As := [.ref a1, .int 0]) (rest := []) ⟨hx, hb, hml, hown, hts⟩ (k_J7_fill_53178_30_x l D cB cC cI cJ _ a1 0 f0) ⟨gcwB hts tw_505 tw_10 tw_503 hd_yJ7_fill_53178 ⟨Nat.le_of_ble_eq_true rfl, Nat.le_of_ble_eq_true rfl⟩, hts _ tw_504⟩ (gpreS hPc hK hDc hN) rfl rfl hl.1 rfl (lv_room (Nat.le_of_ble_eq_true rfl)) dX8_clear_5 ⟨Nat.le_of_ble_eq_true rfl, Nat.le_of_ble_eq_true rfl⟩) (fun u_1 H locs hw_3 hP hD hS => ?_)
  have hP : va_P D gcl [(a0, .inr (8, [.ref a1])), (a1, .inl (cI, 30, .inl (u_1.2.1 0)))] H := hP
  have hD : va_D A [(a0, .inr (8, [.ref a1])), (a1, .inl (cI, 30, .inl (u_1.2.1 0)))] := hD
  have hw_4 : (fillQ (u_1.2.1 0) (0 : Int32) 30) := hw_3
  have kk0_r_2 := tI_0
  exact hret ((fun _ => 0), (fun k => [(u_1.2.1 0)].getD k (fun _ => 0)), (fun _ => (fun _ => 0)), (fun _ => 0), (fun _ => 0)) dX8_clear_8 ⟨(show TB (u_1.2.1 0) 99 from fill_TB hw_4 (by omega) (by decide)), (show ∀ j : Nat, j < 30 → (u_1.2.1 0) j = 0 from fun j hj => hw_4 j (by omega))⟩ (g_psub (wc := [(a0, .inr (8, [.ref a1])), (a1, .inl (cI, 30, .inl (u_1.2.1 0)))]) hP [0, 1] rfl) (hD.sub (ws' := [(a0, .inr (8, [.ref a1])), (a1, .inl (cI, 30, .inl (u_1.2.1 0)))]) [0, 1] (by decide) rfl) hS
set_option maxHeartbeats 4000000 in
set_option maxRecDepth 100000 in
theorem k_X5_clear (l : Launch) (D : va_G) (cB cC cI cJ : ClassId) (sz : Nat) (a0 a1 a2 a3 a4 a5 : Nat) (x0 x1 : Int32) (h_x0 : (0 ≤ x0.toInt ∧ x0.toInt ≤ 1600)) (h_x1 : (0 ≤ x1.toInt ∧ x1.toInt ≤ 8)) : Met l yX5_clear (.code yX5_clear cX5_clear 1 none :: lw_gd) ({ frames := 0, cells := 0, slots := 0, locals := 0 }) (gPre D [(cB, .byte), (cC, .char), (cI, .int), (cJ, .long)] [.ref a0] [(a0, .inr (5, [.ref a1, .ref a2, .ref a3, .ref a4, .ref a5, .int x0, .int x1]))] sz) (va_Qv (fun u => True) (gB D (va_A [(a0, .inr (5, [.ref a1, .ref a2, .ref a3, .ref a4, .ref a5, .int x0, .int x1]))] sz) (fun u : gEx => [(a0, .inr (5, [.ref a1, .ref a2, .ref a3, .ref a4, .ref a5, .int 0, .int 0]))])) (va_A [(a0, .inr (5, [.ref a1, .ref a2, .ref a3, .ref a4, .ref a5, .int x0, .int x1]))] sz)) 0 0 (va_A [(a0, .inr (5, [.ref a1, .ref a2, .ref a3, .ref a4, .ref a5, .int x0, .int x1]))] sz) := by
  refine gOf_v (by decide +kernel) (Nat.le_of_ble_eq_true rfl) ?_
  intro p e s m args below meth c ls A Q hx hb hts hown hml hN hK hP hD hA hl hret
  have hown : s.vm.findClass RX5 = some m.cls := hown
  have hS : va_S A s.heap s.heap [] := va_S.rf
  have hP : va_P D gcl [(a0, .inr (5, [.ref a1, .ref a2, .ref a3, .ref a4, .ref a5, .int x0, .int x1]))] s.heap := hP
  have hl : lv_has ls 1 [(0, .ref a0)] := hl
  refine lv_aload_n (pc := 0) hx hb dX5_clear_0 rfl (lv_at hl 0 rfl) ?_
  refine lv_iconst (pc := 1) (v := 0) hx hb dX5_clear_1 (by decide) ?_
  refine va_put (pc := 2) (ci := 5) (v := .int 0) (ty := .int) (C := RX5) (T := TX5) (N := 7) hx hb hts iX5 tyX5 tyX5_ok nmX5 hown hK hP hD hS 0 rfl rfl 5 (by decide) (hts _ tw_78) (fun _ h9 => h9) rfl (by decide +kernel) (by decide +kernel) (by decide +kernel) (Nat.le_of_ble_eq_true rfl) dX5_clear_2 (fun H locs hP hD hS => ?_)
  have hP : va_P D gcl [(a0, .inr (5, [.ref a1, .ref a2, .ref a3, .ref a4, .ref a5, .int 0, .int x1]))] H := hP
  have hD : va_D A [(a0, .inr (5, [.ref a1, .ref a2, .ref a3, .ref a4, .ref a5, .int 0, .int x1]))] := hD
  refine lv_aload_n (pc := 5) hx hb dX5_clear_5 rfl (lv_at hl 0 rfl) ?_
  refine lv_iconst (pc := 6) (v := 0) hx hb dX5_clear_6 (by decide) ?_
  refine va_put (pc := 7) (ci := 5) (v := .int 0) (ty := .int) (C := RX5) (T := TX5) (N := 7) hx hb hts iX5 tyX5 tyX5_ok nmX5 hown hK hP hD hS 0 rfl rfl 6 (by decide) (hts _ tw_79) (fun _ h9 => h9) rfl (by decide +kernel) (by decide +kernel) (by decide +kernel) (Nat.le_of_ble_eq_true rfl) dX5_clear_7 (fun H locs hP hD hS => ?_)
  have hP : va_P D gcl [(a0, .inr (5, [.ref a1, .ref a2, .ref a3, .ref a4, .ref a5, .int 0, .int 0]))] H := hP
  have hD : va_D A [(a0, .inr (5, [.ref a1, .ref a2, .ref a3, .ref a4, .ref a5, .int 0, .int 0]))] := hD
  exact hret ((fun _ => 0), (fun _ => (fun _ => 0)), (fun _ => (fun _ => 0)), (fun _ => 0), (fun _ => 0)) dX5_clear_10 trivial (g_psub (wc := [(a0, .inr (5, [.ref a1, .ref a2, .ref a3, .ref a4, .ref a5, .int 0, .int 0]))]) hP [0] rfl) (hD.sub (ws' := [(a0, .inr (5, [.ref a1, .ref a2, .ref a3, .ref a4, .ref a5, .int 0, .int 0]))]) [0] (by decide) rfl) hS
set_option maxHeartbeats 4000000 in
set_option maxRecDepth 100000 in
theorem k_X1_clear_x (l : Launch) (D : va_G) (cB cC cI cJ : ClassId) (sz : Nat) (a0 a1 a2 a3 a4 a5 a6 a7 a8 a9 : Nat) (x0 x1 x2 x3 x4 x5 x6 x7 x8 : Int32) (f0 : Nat → Int32) (h_x0 : ((-1) ≤ x0.toInt ∧ x0.toInt ≤ 8)) (h_x1 : ((-1) ≤ x1.toInt ∧ x1.toInt ≤ 5)) (h_x2 : ((-1) ≤ x2.toInt ∧ x2.toInt ≤ 6)) (h_x3 : (0 ≤ x3.toInt ∧ x3.toInt ≤ 6)) (h_x4 : (0 ≤ x4.toInt ∧ x4.toInt ≤ 16)) (h_x7 : (0 ≤ x7.toInt ∧ x7.toInt ≤ 1600)) (h_x8 : (0 ≤ x8.toInt ∧ x8.toInt ≤ 8)) : Met l yX1_clear (.code yX1_clear cX1_clear 1 none :: lw_gd) ({ frames := 2, cells := 0, slots := 0, locals := 43 }) (gPre D [(cB, .byte), (cC, .char), (cI, .int), (cJ, .long)] [.ref a0] [(a0, .inr (1, [.ref a1, .ref a2, .ref a3, .int x0, .int x1, .int x2, .int x3, .int x4, .int x5, .int x6])), (a1, .inr (8, [.ref a4])), (a4, .inl (cI, 30, .inl f0)), (a2, .inr (5, [.ref a5, .ref a6, .ref a7, .ref a8, .ref a9, .int x7, .int x8]))] sz) (va_Qv (fun u => (TB (u.2.1 0) 99) ∧ (∀ j : Nat, j < 30 → (u.2.1 0) j = 0)) (gB D (va_A [(a0, .inr (1, [.ref a1, .ref a2, .ref a3, .int x0, .int x1, .int x2, .int x3, .int x4, .int x5, .int x6])), (a1, .inr (8, [.ref a4])), (a4, .inl (cI, 30, .inl f0)), (a2, .inr (5, [.ref a5, .ref a6, .ref a7, .ref a8, .ref a9, .int x7, .int x8]))] sz) (fun u : gEx => [(a0, .inr (1, [.ref a1, .ref a2, .ref a3, .int 0, .int 0, .int 0, .int 0, .int 0, .int 9999, .int 0])), (a1, .inr (8, [.ref a4])), (a4, .inl (cI, 30, .inl (u.2.1 0))), (a2, .inr (5, [.ref a5, .ref a6, .ref a7, .ref a8, .ref a9, .int 0, .int 0]))])) (va_A [(a0, .inr (1, [.ref a1, .ref a2, .ref a3, .int x0, .int x1, .int x2, .int x3, .int x4, .int x5, .int x6])), (a1, .inr (8, [.ref a4])), (a4, .inl (cI, 30, .inl f0)), (a2, .inr (5, [.ref a5, .ref a6, .ref a7, .ref a8, .ref a9, .int x7, .int x8]))] sz)) 0 0 (va_A [(a0, .inr (1, [.ref a1, .ref a2, .ref a3, .int x0, .int x1, .int x2, .int x3, .int x4, .int x5, .int x6])), (a1, .inr (8, [.ref a4])), (a4, .inl (cI, 30, .inl f0)), (a2, .inr (5, [.ref a5, .ref a6, .ref a7, .ref a8, .ref a9, .int x7, .int x8]))] sz) := by
  refine gOf_v (by decide +kernel) (Nat.le_of_ble_eq_true rfl) ?_
  intro p e s m args below meth c ls A Q hx hb hts hown hml hN hK hP hD hA hl hret
  have hown : s.vm.findClass RX1 = some m.cls := hown
  have hS : va_S A s.heap s.heap [] := va_S.rf
  have hP : va_P D gcl [(a0, .inr (1, [.ref a1, .ref a2, .ref a3, .int x0, .int x1, .int x2, .int x3, .int x4, .int x5, .int x6])), (a1, .inr (8, [.ref a4])), (a4, .inl (cI, 30, .inl f0)), (a2, .inr (5, [.ref a5, .ref a6, .ref a7, .ref a8, .ref a9, .int x7, .int x8]))] s.heap := hP
  have hl : lv_has ls 1 [(0, .ref a0)] := hl
  have rx5 := n_rng x5
  have rx6 := n_rng x6
  refine lv_aload_n (pc := 0) hx hb dX1_clear_0 rfl (lv_at hl 0 rfl) ?_
  refine va_get (pc := 1) (ci := 1) (v := .ref a1) (C := RX1) (T := TX1) (N := 10) hx hb hts iX1 hown hK hP 0 rfl rfl 0 (by decide) (hts _ tw_97) (fun _ h9 => h9) rfl dX1_clear_1 ?_
  refine gc_v (pc := 4) (wc := [(a1, .inr (8, [.ref a4])), (a4, .inl (cI, 30, .inl f0))]) (wr := [(a0, .inr (1, [.ref a1, .ref a2, .ref a3, .int x0, .int x1, .int x2, .int x3, .int x4, .int x5, .int x6])), (a2, .inr (5, [.ref a5, .ref a6, .ref a7, .ref a8, .ref a9, .int x7, .int x8]))]) hP hD hS hA [1, 2] [0, 3] rfl rfl (by decide) (by decide) (by decide) (fun hPc hDc => va_runV (As := []) (rest := []) ⟨hx, hb, hml, hown, hts⟩ (k_X8_clear_x l D cB cC cI cJ _ a1 a4 f0) ⟨gcwB hts tw_502 tw_5 tw_499 hd_yX8_clear ⟨Nat.le_of_ble_eq_true rfl, Nat.le_of_ble_eq_true rfl⟩, hts _ tw_500, hts _ tw_501⟩ ⟨gblind, va_recv hK hPc (ci := 8) (q0 := 0) rfl rfl, (gpreS hPc hK hDc hN).2⟩ rfl rfl hl.1 rfl (lv_room (Nat.le_of_ble_eq_true rfl)) dX1_clear_4 ⟨Nat.le_of_ble_eq_true rfl, Nat.le_of_ble_eq_true rfl⟩) (fun u_1 H locs hw_3 hP hD hS => ?_)
  have hP : va_P D gcl [(a0, .inr (1, [.ref a1, .ref a2, .ref a3, .int x0, .int x1, .int x2, .int x3, .int x4, .int x5, .int x6])), (a2, .inr (5, [.ref a5, .ref a6, .ref a7, .ref a8, .ref a9, .int x7, .int x8])), (a1, .inr (8, [.ref a4])), (a4, .inl (cI, 30, .inl (u_1.2.1 0)))] H := hP
  have hD : va_D A [(a0, .inr (1, [.ref a1, .ref a2, .ref a3, .int x0, .int x1, .int x2, .int x3, .int x4, .int x5, .int x6])), (a2, .inr (5, [.ref a5, .ref a6, .ref a7, .ref a8, .ref a9, .int x7, .int x8])), (a1, .inr (8, [.ref a4])), (a4, .inl (cI, 30, .inl (u_1.2.1 0)))] := hD
  obtain ⟨hw_4, hw_5⟩ := hw_3
  have hw_4 : (TB (u_1.2.1 0) 99) := hw_4
  have hw_5 : (∀ j : Nat, j < 30 → (u_1.2.1 0) j = 0) := hw_5
  refine lv_aload_n (pc := 7) hx hb dX1_clear_7 rfl (lv_at hl 0 rfl) ?_
  refine va_get (pc := 8) (ci := 1) (v := .ref a2) (C := RX1) (T := TX1) (N := 10) hx hb hts iX1 hown hK hP 0 rfl rfl 1 (by decide) (hts _ tw_105) (fun _ h9 => h9) rfl dX1_clear_8 ?_
  refine gc_v (pc := 11) (wc := [(a2, .inr (5, [.ref a5, .ref a6, .ref a7, .ref a8, .ref a9, .int x7, .int x8]))]) (wr := [(a0, .inr (1, [.ref a1, .ref a2, .ref a3, .int x0, .int x1, .int x2, .int x3, .int x4, .int x5, .int x6])), (a1, .inr (8, [.ref a4])), (a4, .inl (cI, 30, .inl (u_1.2.1 0)))]) hP hD hS hA [1] [0, 2, 3] rfl rfl (by decide) (by decide) (by decide) (fun hPc hDc => va_runV (As := []) (rest := []) ⟨hx, hb, hml, hown, hts⟩ (k_X5_clear l D cB cC cI cJ _ a2 a5 a6 a7 a8 a9 x7 x8 h_x7 h_x8) ⟨gcwB hts tw_509 tw_6 tw_506 hd_yX5_clear ⟨Nat.le_of_ble_eq_true rfl, Nat.le_of_ble_eq_true rfl⟩, hts _ tw_507, hts _ tw_508⟩ ⟨gblind, va_recv hK hPc (ci := 5) (q0 := 0) rfl rfl, (gpreS hPc hK hDc hN).2⟩ rfl rfl hl.1 rfl (lv_room (Nat.le_of_ble_eq_true rfl)) dX1_clear_11 ⟨Nat.le_of_ble_eq_true rfl, Nat.le_of_ble_eq_true rfl⟩) (fun u_6 H locs hw_8 hP hD hS => ?_)
  have hP : va_P D gcl [(a0, .inr (1, [.ref a1, .ref a2, .ref a3, .int x0, .int x1, .int x2, .int x3, .int x4, .int x5, .int x6])), (a1, .inr (8, [.ref a4])), (a4, .inl (cI, 30, .inl (u_1.2.1 0))), (a2, .inr (5, [.ref a5, .ref a6, .ref a7, .ref a8, .ref a9, .int 0, .int 0]))] H := hP
  have hD : va_D A [(a0, .inr (1, [.ref a1, .ref a2, .ref a3, .int x0, .int x1, .int x2, .int x3, .int x4, .int x5, .int x6])), (a1, .inr (8, [.ref a4])), (a4, .inl (cI, 30, .inl (u_1.2.1 0))), (a2, .inr (5, [.ref a5, .ref a6, .ref a7, .ref a8, .ref a9, .int 0, .int 0]))] := hD
  refine lv_aload_n (pc := 14) hx hb dX1_clear_14 rfl (lv_at hl 0 rfl) ?_
  refine lv_iconst (pc := 15) (v := 0) hx hb dX1_clear_15 (by decide) ?_
  refine va_put (pc := 16) (ci := 1) (v := .int 0) (ty := .int) (C := RX1) (T := TX1) (N := 10) hx hb hts iX1 tyX1 tyX1_ok nmX1 hown hK hP hD hS 0 rfl rfl 3 (by decide) (hts _ tw_110) (fun _ h9 => h9) rfl (by decide +kernel) (by decide +kernel) (by decide +kernel) (Nat.le_of_ble_eq_true rfl) dX1_clear_16 (fun H locs hP hD hS => ?_)
  have hP : va_P D gcl [(a0, .inr (1, [.ref a1, .ref a2, .ref a3, .int 0, .int x1, .int x2, .int x3, .int x4, .int x5, .int x6])), (a1, .inr (8, [.ref a4])), (a4, .inl (cI, 30, .inl (u_1.2.1 0))), (a2, .inr (5, [.ref a5, .ref a6, .ref a7, .ref a8, .ref a9, .int 0, .int 0]))] H := hP
  have hD : va_D A [(a0, .inr (1, [.ref a1, .ref a2, .ref a3, .int 0, .int x1, .int x2, .int x3, .int x4, .int x5, .int x6])), (a1, .inr (8, [.ref a4])), (a4, .inl (cI, 30, .inl (u_1.2.1 0))), (a2, .inr (5, [.ref a5, .ref a6, .ref a7, .ref a8, .ref a9, .int 0, .int 0]))] := hD
  refine lv_aload_n (pc := 19) hx hb dX1_clear_19 rfl (lv_at hl 0 rfl) ?_
  refine lv_iconst (pc := 20) (v := 0) hx hb dX1_clear_20 (by decide) ?_
  refine va_put (pc := 21) (ci := 1) (v := .int 0) (ty := .int) (C := RX1) (T := TX1) (N := 10) hx hb hts iX1 tyX1 tyX1_ok nmX1 hown hK hP hD hS 0 rfl rfl 4 (by decide) (hts _ tw_116) (fun _ h9 => h9) rfl (by decide +kernel) (by decide +kernel) (by decide +kernel) (Nat.le_of_ble_eq_true rfl) dX1_clear_21 (fun H locs hP hD hS => ?_)
  have hP : va_P D gcl [(a0, .inr (1, [.ref a1, .ref a2, .ref a3, .int 0, .int 0, .int x2, .int x3, .int x4, .int x5, .int x6])), (a1, .inr (8, [.ref a4])), (a4, .inl (cI, 30, .inl (u_1.2.1 0))), (a2, .inr (5, [.ref a5, .ref a6, .ref a7, .ref a8, .ref a9, .int 0, .int 0]))] H := hP
  have hD : va_D A [(a0, .inr (1, [.ref a1, .ref a2, .ref a3, .int 0, .int 0, .int x2, .int x3, .int x4, .int x5, .int x6])), (a1, .inr (8, [.ref a4])), (a4, .inl (cI, 30, .inl (u_1.2.1 0))), (a2, .inr (5, [.ref a5, .ref a6, .ref a7, .ref a8, .ref a9, .int 0, .int 0]))] := hD
  refine lv_aload_n (pc := 24) hx hb dX1_clear_24 rfl (lv_at hl 0 rfl) ?_
  refine lv_iconst (pc := 25) (v := 0) hx hb dX1_clear_25 (by decide) ?_
  refine va_put (pc := 26) (ci := 1) (v := .int 0) (ty := .int) (C := RX1) (T := TX1) (N := 10) hx hb hts iX1 tyX1 tyX1_ok nmX1 hown hK hP hD hS 0 rfl rfl 5 (by decide) (hts _ tw_125) (fun _ h9 => h9) rfl (by decide +kernel) (by decide +kernel) (by decide +kernel) (Nat.le_of_ble_eq_true rfl) dX1_clear_26 (fun H locs hP hD hS => ?_)
  have hP : va_P D gcl [(a0, .inr (1, [.ref a1, .ref a2, .ref a3, .int 0, .int 0, .int 0, .int x3, .int x4, .int x5, .int x6])), (a1, .inr (8, [.ref a4])), (a4, .inl (cI, 30, .inl (u_1.2.1 0))), (a2, .inr (5, [.ref a5, .ref a6, .ref a7, .ref a8, .ref a9, .int 0, .int 0]))] H := hP
  have hD : va_D A [(a0, .inr (1, [.ref a1, .ref a2, .ref a3, .int 0, .int 0, .int 0, .int x3, .int x4, .int x5, .int x6])), (a1, .inr (8, [.ref a4])), (a4, .inl (cI, 30, .inl (u_1.2.1 0))), (a2, .inr (5, [.ref a5, .ref a6, .ref a7, .ref a8, .ref a9, .int 0, .int 0]))] := hD
  refine lv_aload_n (pc := 29) hx hb dX1_clear_29 rfl (lv_at hl 0 rfl) ?_
  refine lv_iconst (pc := 30) (v := 0) hx hb dX1_clear_30 (by decide) ?_
  refine va_put (pc := 31) (ci := 1) (v := .int 0) (ty := .int) (C := RX1) (T := TX1) (N := 10) hx hb hts iX1 tyX1 tyX1_ok nmX1 hown hK hP hD hS 0 rfl rfl 6 (by decide) (hts _ tw_132) (fun _ h9 => h9) rfl (by decide +kernel) (by decide +kernel) (by decide +kernel) (Nat.le_of_ble_eq_true rfl) dX1_clear_31 (fun H locs hP hD hS => ?_)
  have hP : va_P D gcl [(a0, .inr (1, [.ref a1, .ref a2, .ref a3, .int 0, .int 0, .int 0, .int 0, .int x4, .int x5, .int x6])), (a1, .inr (8, [.ref a4])), (a4, .inl (cI, 30, .inl (u_1.2.1 0))), (a2, .inr (5, [.ref a5, .ref a6, .ref a7, .ref a8, .ref a9, .int 0, .int 0]))] H := hP
  have hD : va_D A [(a0, .inr (1, [.ref a1, .ref a2, .ref a3, .int 0, .int 0, .int 0, .int 0, .int x4, .int x5, .int x6])), (a1, .inr (8, [.ref a4])), (a4, .inl (cI, 30, .inl (u_1.2.1 0))), (a2, .inr (5, [.ref a5, .ref a6, .ref a7, .ref a8, .ref a9, .int 0, .int 0]))] := hD
  refine lv_aload_n (pc := 34) hx hb dX1_clear_34 rfl (lv_at hl 0 rfl) ?_
  refine lv_iconst (pc := 35) (v := 0) hx hb dX1_clear_35 (by decide) ?_
  refine va_put (pc := 36) (ci := 1) (v := .int 0) (ty := .int) (C := RX1) (T := TX1) (N := 10) hx hb hts iX1 tyX1 tyX1_ok nmX1 hown hK hP hD hS 0 rfl rfl 7 (by decide) (hts _ tw_135) (fun _ h9 => h9) rfl (by decide +kernel) (by decide +kernel) (by decide +kernel) (Nat.le_of_ble_eq_true rfl) dX1_clear_36 (fun H locs hP hD hS => ?_)
  have hP : va_P D gcl [(a0, .inr (1, [.ref a1, .ref a2, .ref a3, .int 0, .int 0, .int 0, .int 0, .int 0, .int x5, .int x6])), (a1, .inr (8, [.ref a4])), (a4, .inl (cI, 30, .inl (u_1.2.1 0))), (a2, .inr (5, [.ref a5, .ref a6, .ref a7, .ref a8, .ref a9, .int 0, .int 0]))] H := hP
  have hD : va_D A [(a0, .inr (1, [.ref a1, .ref a2, .ref a3, .int 0, .int 0, .int 0, .int 0, .int 0, .int x5, .int x6])), (a1, .inr (8, [.ref a4])), (a4, .inl (cI, 30, .inl (u_1.2.1 0))), (a2, .inr (5, [.ref a5, .ref a6, .ref a7, .ref a8, .ref a9, .int 0, .int 0]))] := hD
  refine lv_aload_n (pc := 39) hx hb dX1_clear_39 rfl (lv_at hl 0 rfl) ?_
  refine lv_sipush (pc := 40) (v := 9999) hx hb dX1_clear_40 (by decide) ?_
  refine va_put (pc := 43) (ci := 1) (v := .int 9999) (ty := .int) (C := RX1) (T := TX1) (N := 10) hx hb hts iX1 tyX1 tyX1_ok nmX1 hown hK hP hD hS 0 rfl rfl 8 (by decide) (hts _ tw_139) (fun _ h9 => h9) rfl (by decide +kernel) (by decide +kernel) (by decide +kernel) (Nat.le_of_ble_eq_true rfl) dX1_clear_43 (fun H locs hP hD hS => ?_)
  have hP : va_P D gcl [(a0, .inr (1, [.ref a1, .ref a2, .ref a3, .int 0, .int 0, .int 0, .int 0, .int 0, .int 9999, .int x6])), (a1, .inr (8, [.ref a4])), (a4, .inl (cI, 30, .inl (u_1.2.1 0))), (a2, .inr (5, [.ref a5, .ref a6, .ref a7, .ref a8, .ref a9, .int 0, .int 0]))] H := hP
  have hD : va_D A [(a0, .inr (1, [.ref a1, .ref a2, .ref a3, .int 0, .int 0, .int 0, .int 0, .int 0, .int 9999, .int x6])), (a1, .inr (8, [.ref a4])), (a4, .inl (cI, 30, .inl (u_1.2.1 0))), (a2, .inr (5, [.ref a5, .ref a6, .ref a7, .ref a8, .ref a9, .int 0, .int 0]))] := hD
  refine lv_aload_n (pc := 46) hx hb dX1_clear_46 rfl (lv_at hl 0 rfl) ?_
  refine lv_iconst (pc := 47) (v := 0) hx hb dX1_clear_47 (by decide) ?_
  refine va_put (pc := 48) (ci := 1) (v := .int 0) (ty := .int) (C := RX1) (T := TX1) (N := 10) hx hb hts iX1 tyX1 tyX1_ok nmX1 hown hK hP hD hS 0 rfl rfl 9 (by decide) (hts _ tw_143) (fun _ h9 => h9) rfl (by decide +kernel) (by decide +kernel) (by decide +kernel) (Nat.le_of_ble_eq_true rfl) dX1_clear_48 (fun H locs hP hD hS => ?_)
  have hP : va_P D gcl [(a0, .inr (1, [.ref a1, .ref a2, .ref a3, .int 0, .int 0, .int 0, .int 0, .int 0, .int 9999, .int 0])), (a1, .inr (8, [.ref a4])), (a4, .inl (cI, 30, .inl (u_1.2.1 0))), (a2, .inr (5, [.ref a5, .ref a6, .ref a7, .ref a8, .ref a9, .int 0, .int 0]))] H := hP
  have hD : va_D A [(a0, .inr (1, [.ref a1, .ref a2, .ref a3, .int 0, .int 0, .int 0, .int 0, .int 0, .int 9999, .int 0])), (a1, .inr (8, [.ref a4])), (a4, .inl (cI, 30, .inl (u_1.2.1 0))), (a2, .inr (5, [.ref a5, .ref a6, .ref a7, .ref a8, .ref a9, .int 0, .int 0]))] := hD
  exact hret ((fun _ => 0), (fun k => [(u_1.2.1 0)].getD k (fun _ => 0)), (fun _ => (fun _ => 0)), (fun _ => 0), (fun _ => 0)) dX1_clear_51 ⟨(show TB (u_1.2.1 0) 99 from hw_4), (show ∀ j : Nat, j < 30 → (u_1.2.1 0) j = 0 from hw_5)⟩ (g_psub (wc := [(a0, .inr (1, [.ref a1, .ref a2, .ref a3, .int 0, .int 0, .int 0, .int 0, .int 0, .int 9999, .int 0])), (a1, .inr (8, [.ref a4])), (a4, .inl (cI, 30, .inl (u_1.2.1 0))), (a2, .inr (5, [.ref a5, .ref a6, .ref a7, .ref a8, .ref a9, .int 0, .int 0]))]) hP [0, 1, 2, 3] rfl) (hD.sub (ws' := [(a0, .inr (1, [.ref a1, .ref a2, .ref a3, .int 0, .int 0, .int 0, .int 0, .int 0, .int 9999, .int 0])), (a1, .inr (8, [.ref a4])), (a4, .inl (cI, 30, .inl (u_1.2.1 0))), (a2, .inr (5, [.ref a5, .ref a6, .ref a7, .ref a8, .ref a9, .int 0, .int 0]))]) [0, 1, 2, 3] (by decide) rfl) hS
set_option maxHeartbeats 4000000 in
set_option maxRecDepth 100000 in
theorem k_X9_length (l : Launch) (D : va_G) (cB cC cI cJ : ClassId) (sz : Nat) (a0 a1 : Nat) (x0 : Int32) (h_x0 : (0 ≤ x0.toInt ∧ x0.toInt ≤ 1600)) : Met l yX9_length (.code yX9_length cX9_length 1 (some .int) :: lw_gd) ({ frames := 0, cells := 0, slots := 0, locals := 0 }) (gPre D [(cB, .byte), (cC, .char), (cI, .int), (cJ, .long)] [.ref a0] [(a0, .inr (9, [.ref a1, .int x0]))] sz) (va_Qi (fun r u => ((r.toInt = x0.toInt))) (gB D (va_A [(a0, .inr (9, [.ref a1, .int x0]))] sz) (fun u : gEx => [(a0, .inr (9, [.ref a1, .int x0]))])) (va_A [(a0, .inr (9, [.ref a1, .int x0]))] sz)) 0 0 (va_A [(a0, .inr (9, [.ref a1, .int x0]))] sz) := by
  refine gOf_i (by decide +kernel) (Nat.le_of_ble_eq_true rfl) ?_
  intro p e s m args below meth c ls A Q hx hb hts hown hml hN hK hP hD hA hl hret
  have hown : s.vm.findClass RX9 = some m.cls := hown
  have hS : va_S A s.heap s.heap [] := va_S.rf
  have hP : va_P D gcl [(a0, .inr (9, [.ref a1, .int x0]))] s.heap := hP
  have hl : lv_has ls 1 [(0, .ref a0)] := hl
  refine lv_aload_n (pc := 0) hx hb dX9_length_0 rfl (lv_at hl 0 rfl) ?_
  refine va_get (pc := 1) (ci := 9) (v := .int x0) (C := RX9) (T := TX9) (N := 2) hx hb hts iX9 hown hK hP 0 rfl rfl 1 (by decide) (hts _ tw_43) (fun _ h9 => h9) rfl dX9_length_1 ?_
  exact hret x0 ((fun _ => 0), (fun _ => (fun _ => 0)), (fun _ => (fun _ => 0)), (fun _ => 0), (fun _ => 0)) dX9_length_4 (show ((x0.toInt = x0.toInt)) by omega) (g_psub (wc := [(a0, .inr (9, [.ref a1, .int x0]))]) hP [0] rfl) (hD.sub (ws' := [(a0, .inr (9, [.ref a1, .int x0]))]) [0] (by decide) rfl) hS
set_option maxHeartbeats 4000000 in
set_option maxRecDepth 100000 in
theorem k_X9_at_E (l : Launch) (D : va_G) (cB cC cI cJ : ClassId) (sz : Nat) (a0 a1 : Nat) (x0 x1 : Int32) (f0 : Nat → Int32) (h_x1 : (0 ≤ x1.toInt ∧ x1.toInt ≤ 1600)) : Met l yX9_at (.code yX9_at cX9_at 2 (some .int) :: lw_gd) ({ frames := 0, cells := 0, slots := 0, locals := 0 }) (gPre D [(cB, .byte), (cC, .char), (cI, .int), (cJ, .long)] [.ref a0, .int x0] [(a0, .inr (9, [.ref a1, .int x1])), (a1, .inl (cB, 1600, .inl f0))] sz) (va_Qi (fun r u => ((r.toInt = (-1) ∧ x0.toInt < 0) ∨ (r.toInt = (-1) ∧ x0.toInt ≥ 0 ∧ x0.toInt ≥ x1.toInt) ∨ ((0 ≤ r.toInt ∧ r.toInt ≤ 255) ∧ x0.toInt ≥ 0 ∧ x0.toInt < x1.toInt)) ∧ (r.toInt = taub f0 x1.toInt x0.toInt)) (gB D (va_A [(a0, .inr (9, [.ref a1, .int x1])), (a1, .inl (cB, 1600, .inl f0))] sz) (fun u : gEx => [(a0, .inr (9, [.ref a1, .int x1])), (a1, .inl (cB, 1600, .inl f0))])) (va_A [(a0, .inr (9, [.ref a1, .int x1])), (a1, .inl (cB, 1600, .inl f0))] sz)) 0 0 (va_A [(a0, .inr (9, [.ref a1, .int x1])), (a1, .inl (cB, 1600, .inl f0))] sz) := by
  refine gOf_i (by decide +kernel) (Nat.le_of_ble_eq_true rfl) ?_
  intro p e s m args below meth c ls A Q hx hb hts hown hml hN hK hP hD hA hl hret
  have hown : s.vm.findClass RX9 = some m.cls := hown
  have hS : va_S A s.heap s.heap [] := va_S.rf
  have hP : va_P D gcl [(a0, .inr (9, [.ref a1, .int x1])), (a1, .inl (cB, 1600, .inl f0))] s.heap := hP
  have hl : lv_has ls 2 [(0, .ref a0), (1, .int x0)] := hl
  have rx0 := n_rng x0
  refine lv_iload_n (pc := 0) hx hb dX9_at_0 rfl (lv_at hl 1 rfl) ?_
  refine b_if_lt (pc := 1) (tgt := 25) hx hb rfl  dX9_at_1 (by decide) (fun c_1 => ?_) (fun c_1 => ?_)
  ·
    refine lv_iconst (pc := 25) (v := (-1)) hx hb dX9_at_25 (by decide) ?_
    have k9 := tI_m1
    exact hret (-1) ((fun _ => 0), (fun _ => (fun _ => 0)), (fun _ => (fun _ => 0)), (fun _ => 0), (fun _ => 0)) dX9_at_26 ⟨(show ((((-1) : Int32).toInt = (-1) ∧ x0.toInt < 0) ∨ (((-1) : Int32).toInt = (-1) ∧ x0.toInt ≥ 0 ∧ x0.toInt ≥ x1.toInt) ∨ ((0 ≤ ((-1) : Int32).toInt ∧ ((-1) : Int32).toInt ≤ 255) ∧ x0.toInt ≥ 0 ∧ x0.toInt < x1.toInt)) by have k9 := tI_m1; omega), (show ((-1) : Int32).toInt = taub f0 x1.toInt x0.toInt from (by have q := taub_out (f := f0) (n := x1.toInt) (i := x0.toInt) (by omega); omega))⟩ (g_psub (wc := [(a0, .inr (9, [.ref a1, .int x1])), (a1, .inl (cB, 1600, .inl f0))]) hP [0, 1] rfl) (hD.sub (ws' := [(a0, .inr (9, [.ref a1, .int x1])), (a1, .inl (cB, 1600, .inl f0))]) [0, 1] (by decide) rfl) hS
  ·
    refine lv_iload_n (pc := 4) hx hb dX9_at_4 rfl (lv_at hl 1 rfl) ?_
    refine lv_aload_n (pc := 5) hx hb dX9_at_5 rfl (lv_at hl 0 rfl) ?_
    refine va_get (pc := 6) (ci := 9) (v := .int x1) (C := RX9) (T := TX9) (N := 2) hx hb hts iX9 hown hK hP 0 rfl rfl 1 (by decide) (hts _ tw_43) (fun _ h9 => h9) rfl dX9_at_6 ?_
    refine b_icmp_ge (pc := 9) (tgt := 25) hx hb rfl rfl  dX9_at_9 (by decide) (fun c_2 => ?_) (fun c_2 => ?_)
    ·
      refine lv_iconst (pc := 25) (v := (-1)) hx hb dX9_at_25 (by decide) ?_
      have k9 := tI_m1
      exact hret (-1) ((fun _ => 0), (fun _ => (fun _ => 0)), (fun _ => (fun _ => 0)), (fun _ => 0), (fun _ => 0)) dX9_at_26 ⟨(show ((((-1) : Int32).toInt = (-1) ∧ x0.toInt < 0) ∨ (((-1) : Int32).toInt = (-1) ∧ x0.toInt ≥ 0 ∧ x0.toInt ≥ x1.toInt) ∨ ((0 ≤ ((-1) : Int32).toInt ∧ ((-1) : Int32).toInt ≤ 255) ∧ x0.toInt ≥ 0 ∧ x0.toInt < x1.toInt)) by have k9 := tI_m1; omega), (show ((-1) : Int32).toInt = taub f0 x1.toInt x0.toInt from (by have q := taub_out (f := f0) (n := x1.toInt) (i := x0.toInt) (by omega); omega))⟩ (g_psub (wc := [(a0, .inr (9, [.ref a1, .int x1])), (a1, .inl (cB, 1600, .inl f0))]) hP [0, 1] rfl) (hD.sub (ws' := [(a0, .inr (9, [.ref a1, .int x1])), (a1, .inl (cB, 1600, .inl f0))]) [0, 1] (by decide) rfl) hS
    ·
      refine lv_aload_n (pc := 12) hx hb dX9_at_12 rfl (lv_at hl 0 rfl) ?_
      refine va_get (pc := 13) (ci := 9) (v := .ref a1) (C := RX9) (T := TX9) (N := 2) hx hb hts iX9 hown hK hP 0 rfl rfl 0 (by decide) (hts _ tw_42) (fun _ h9 => h9) rfl dX9_at_13 ?_
      refine lv_iload_n (pc := 16) hx hb dX9_at_16 rfl (lv_at hl 1 rfl) ?_
      refine va_bald (pc := 17) hx hb hK hP 1 0 rfl rfl (n_in rfl (by omega) (by omega)) dX9_at_17 ?_
      refine lv_topi (fun x_3 ex_3 => ?_)
      have rx_3 := n_rng x_3
      have ex_3 : x_3 = f0 (x0.toInt).toNat := ex_3
      have tx_3 := congrArg Int32.toInt ex_3
      refine lv_sipush (pc := 18) (v := 255) hx hb dX9_at_18 (by decide) ?_
      refine lv_iand (pc := 21) hx hb dX9_at_21 ?_
      refine lv_topi (fun x_4 ex_4 => ?_)
      have tx_4 := and255 ex_4
      refine lv_goto (pc := 22) (tgt := 26) hx hb dX9_at_22 (by decide) ?_
      exact hret x_4 ((fun _ => 0), (fun _ => (fun _ => 0)), (fun _ => (fun _ => 0)), (fun _ => 0), (fun _ => 0)) dX9_at_26 ⟨(show ((x_4.toInt = (-1) ∧ x0.toInt < 0) ∨ (x_4.toInt = (-1) ∧ x0.toInt ≥ 0 ∧ x0.toInt ≥ x1.toInt) ∨ ((0 ≤ x_4.toInt ∧ x_4.toInt ≤ 255) ∧ x0.toInt ≥ 0 ∧ x0.toInt < x1.toInt)) by omega), (show x_4.toInt = taub f0 x1.toInt x0.toInt from (by have q := taub_in (f := f0) (n := x1.toInt) (i := x0.toInt) (by omega) (by omega); omega))⟩ (g_psub (wc := [(a0, .inr (9, [.ref a1, .int x1])), (a1, .inl (cB, 1600, .inl f0))]) hP [0, 1] rfl) (hD.sub (ws' := [(a0, .inr (9, [.ref a1, .int x1])), (a1, .inl (cB, 1600, .inl f0))]) [0, 1] (by decide) rfl) hS
set_option maxHeartbeats 4000000 in
set_option maxRecDepth 100000 in
theorem k_X4_isSmall (l : Launch) (D : va_G) (cB cC cI cJ : ClassId) (sz : Nat) (x0 : Int32) : Met l yX4_isSmall (.code yX4_isSmall cX4_isSmall 1 (some .boolean) :: lw_gd) ({ frames := 0, cells := 0, slots := 0, locals := 0 }) (gPre D [(cB, .byte), (cC, .char), (cI, .int), (cJ, .long)] [.int x0] [] sz) (va_Qi (fun r u => ((r.toInt = 0 ∧ x0.toInt < 97) ∨ (r.toInt = 0 ∧ x0.toInt ≥ 97 ∧ x0.toInt > 122) ∨ (r.toInt = 1 ∧ x0.toInt ≥ 97 ∧ x0.toInt ≤ 122))) (gB D (va_A [] sz) (fun u : gEx => [])) (va_A [] sz)) 0 0 (va_A [] sz) := by
  refine gOf_z (by decide +kernel) (Nat.le_of_ble_eq_true rfl) ?_
  intro p e s m args below meth c ls A Q hx hb hts hown hml hN hK hP hD hA hl hret
  have hown : s.vm.findClass RX4 = some m.cls := hown
  have hS : va_S A s.heap s.heap [] := va_S.rf
  have hP : va_P D gcl [] s.heap := hP
  have hl : lv_has ls 1 [(0, .int x0)] := hl
  have rx0 := n_rng x0
  refine lv_iload_n (pc := 0) hx hb dX4_isSmall_0 rfl (lv_at hl 0 rfl) ?_
  refine lv_bipush (pc := 1) (v := 97) hx hb dX4_isSmall_1 (by decide) ?_
  refine b_icmp_lt (pc := 3) (tgt := 16) hx hb rfl tI_97  dX4_isSmall_3 (by decide) (fun c_1 => ?_) (fun c_1 => ?_)
  ·
    refine lv_iconst (pc := 16) (v := 0) hx hb dX4_isSmall_16 (by decide) ?_
    exact hret 0 ((fun _ => 0), (fun _ => (fun _ => 0)), (fun _ => (fun _ => 0)), (fun _ => 0), (fun _ => 0)) dX4_isSmall_17 ⟨(by have k9 := tI_0; omega), (show (((0 : Int32).toInt = 0 ∧ x0.toInt < 97) ∨ ((0 : Int32).toInt = 0 ∧ x0.toInt ≥ 97 ∧ x0.toInt > 122) ∨ ((0 : Int32).toInt = 1 ∧ x0.toInt ≥ 97 ∧ x0.toInt ≤ 122)) by have k9 := tI_0; omega)⟩ (g_psub (wc := []) hP [] rfl) (hD.sub (ws' := []) [] (by decide) rfl) hS
  ·
    refine lv_iload_n (pc := 6) hx hb dX4_isSmall_6 rfl (lv_at hl 0 rfl) ?_
    refine lv_bipush (pc := 7) (v := 122) hx hb dX4_isSmall_7 (by decide) ?_
    refine b_icmp_gt (pc := 9) (tgt := 16) hx hb rfl tI_122  dX4_isSmall_9 (by decide) (fun c_2 => ?_) (fun c_2 => ?_)
    ·
      refine lv_iconst (pc := 16) (v := 0) hx hb dX4_isSmall_16 (by decide) ?_
      exact hret 0 ((fun _ => 0), (fun _ => (fun _ => 0)), (fun _ => (fun _ => 0)), (fun _ => 0), (fun _ => 0)) dX4_isSmall_17 ⟨(by have k9 := tI_0; omega), (show (((0 : Int32).toInt = 0 ∧ x0.toInt < 97) ∨ ((0 : Int32).toInt = 0 ∧ x0.toInt ≥ 97 ∧ x0.toInt > 122) ∨ ((0 : Int32).toInt = 1 ∧ x0.toInt ≥ 97 ∧ x0.toInt ≤ 122)) by have k9 := tI_0; omega)⟩ (g_psub (wc := []) hP [] rfl) (hD.sub (ws' := []) [] (by decide) rfl) hS
    ·
      refine lv_iconst (pc := 12) (v := 1) hx hb dX4_isSmall_12 (by decide) ?_
      refine lv_goto (pc := 13) (tgt := 17) hx hb dX4_isSmall_13 (by decide) ?_
      exact hret 1 ((fun _ => 0), (fun _ => (fun _ => 0)), (fun _ => (fun _ => 0)), (fun _ => 0), (fun _ => 0)) dX4_isSmall_17 ⟨(by have k9 := tI_1; omega), (show (((1 : Int32).toInt = 0 ∧ x0.toInt < 97) ∨ ((1 : Int32).toInt = 0 ∧ x0.toInt ≥ 97 ∧ x0.toInt > 122) ∨ ((1 : Int32).toInt = 1 ∧ x0.toInt ≥ 97 ∧ x0.toInt ≤ 122)) by have k9 := tI_1; omega)⟩ (g_psub (wc := []) hP [] rfl) (hD.sub (ws' := []) [] (by decide) rfl) hS
set_option maxHeartbeats 4000000 in
set_option maxRecDepth 100000 in
theorem k_X4_isDigit (l : Launch) (D : va_G) (cB cC cI cJ : ClassId) (sz : Nat) (x0 : Int32) : Met l yX4_isDigit (.code yX4_isDigit cX4_isDigit 1 (some .boolean) :: lw_gd) ({ frames := 0, cells := 0, slots := 0, locals := 0 }) (gPre D [(cB, .byte), (cC, .char), (cI, .int), (cJ, .long)] [.int x0] [] sz) (va_Qi (fun r u => ((r.toInt = 0 ∧ x0.toInt < 48) ∨ (r.toInt = 0 ∧ x0.toInt ≥ 48 ∧ x0.toInt > 57) ∨ (r.toInt = 1 ∧ x0.toInt ≥ 48 ∧ x0.toInt ≤ 57))) (gB D (va_A [] sz) (fun u : gEx => [])) (va_A [] sz)) 0 0 (va_A [] sz) := by
  refine gOf_z (by decide +kernel) (Nat.le_of_ble_eq_true rfl) ?_
  intro p e s m args below meth c ls A Q hx hb hts hown hml hN hK hP hD hA hl hret
  have hown : s.vm.findClass RX4 = some m.cls := hown
  have hS : va_S A s.heap s.heap [] := va_S.rf
  have hP : va_P D gcl [] s.heap := hP
  have hl : lv_has ls 1 [(0, .int x0)] := hl
  have rx0 := n_rng x0
  refine lv_iload_n (pc := 0) hx hb dX4_isDigit_0 rfl (lv_at hl 0 rfl) ?_
  refine lv_bipush (pc := 1) (v := 48) hx hb dX4_isDigit_1 (by decide) ?_
  refine b_icmp_lt (pc := 3) (tgt := 16) hx hb rfl tI_48  dX4_isDigit_3 (by decide) (fun c_1 => ?_) (fun c_1 => ?_)
  ·
    refine lv_iconst (pc := 16) (v := 0) hx hb dX4_isDigit_16 (by decide) ?_
    exact hret 0 ((fun _ => 0), (fun _ => (fun _ => 0)), (fun _ => (fun _ => 0)), (fun _ => 0), (fun _ => 0)) dX4_isDigit_17 ⟨(by have k9 := tI_0; omega), (show (((0 : Int32).toInt = 0 ∧ x0.toInt < 48) ∨ ((0 : Int32).toInt = 0 ∧ x0.toInt ≥ 48 ∧ x0.toInt > 57) ∨ ((0 : Int32).toInt = 1 ∧ x0.toInt ≥ 48 ∧ x0.toInt ≤ 57)) by have k9 := tI_0; omega)⟩ (g_psub (wc := []) hP [] rfl) (hD.sub (ws' := []) [] (by decide) rfl) hS
  ·
    refine lv_iload_n (pc := 6) hx hb dX4_isDigit_6 rfl (lv_at hl 0 rfl) ?_
    refine lv_bipush (pc := 7) (v := 57) hx hb dX4_isDigit_7 (by decide) ?_
    refine b_icmp_gt (pc := 9) (tgt := 16) hx hb rfl tI_57  dX4_isDigit_9 (by decide) (fun c_2 => ?_) (fun c_2 => ?_)
    ·
      refine lv_iconst (pc := 16) (v := 0) hx hb dX4_isDigit_16 (by decide) ?_
      exact hret 0 ((fun _ => 0), (fun _ => (fun _ => 0)), (fun _ => (fun _ => 0)), (fun _ => 0), (fun _ => 0)) dX4_isDigit_17 ⟨(by have k9 := tI_0; omega), (show (((0 : Int32).toInt = 0 ∧ x0.toInt < 48) ∨ ((0 : Int32).toInt = 0 ∧ x0.toInt ≥ 48 ∧ x0.toInt > 57) ∨ ((0 : Int32).toInt = 1 ∧ x0.toInt ≥ 48 ∧ x0.toInt ≤ 57)) by have k9 := tI_0; omega)⟩ (g_psub (wc := []) hP [] rfl) (hD.sub (ws' := []) [] (by decide) rfl) hS
    ·
      refine lv_iconst (pc := 12) (v := 1) hx hb dX4_isDigit_12 (by decide) ?_
      refine lv_goto (pc := 13) (tgt := 17) hx hb dX4_isDigit_13 (by decide) ?_
      exact hret 1 ((fun _ => 0), (fun _ => (fun _ => 0)), (fun _ => (fun _ => 0)), (fun _ => 0), (fun _ => 0)) dX4_isDigit_17 ⟨(by have k9 := tI_1; omega), (show (((1 : Int32).toInt = 0 ∧ x0.toInt < 48) ∨ ((1 : Int32).toInt = 0 ∧ x0.toInt ≥ 48 ∧ x0.toInt > 57) ∨ ((1 : Int32).toInt = 1 ∧ x0.toInt ≥ 48 ∧ x0.toInt ≤ 57)) by have k9 := tI_1; omega)⟩ (g_psub (wc := []) hP [] rfl) (hD.sub (ws' := []) [] (by decide) rfl) hS
set_option maxHeartbeats 4000000 in
set_option maxRecDepth 100000 in
theorem k_X4_isBlank (l : Launch) (D : va_G) (cB cC cI cJ : ClassId) (sz : Nat) (x0 : Int32) : Met l yX4_isBlank (.code yX4_isBlank cX4_isBlank 1 (some .boolean) :: lw_gd) ({ frames := 0, cells := 0, slots := 0, locals := 0 }) (gPre D [(cB, .byte), (cC, .char), (cI, .int), (cJ, .long)] [.int x0] [] sz) (va_Qi (fun r u => ((r.toInt = 1 ∧ x0.toInt = 10) ∨ (r.toInt = 0 ∧ ¬ x0.toInt = 10 ∧ ¬ x0.toInt = 32) ∨ (r.toInt = 1 ∧ ¬ x0.toInt = 10 ∧ x0.toInt = 32))) (gB D (va_A [] sz) (fun u : gEx => [])) (va_A [] sz)) 0 0 (va_A [] sz) := by
  refine gOf_z (by decide +kernel) (Nat.le_of_ble_eq_true rfl) ?_
  intro p e s m args below meth c ls A Q hx hb hts hown hml hN hK hP hD hA hl hret
  have hown : s.vm.findClass RX4 = some m.cls := hown
  have hS : va_S A s.heap s.heap [] := va_S.rf
  have hP : va_P D gcl [] s.heap := hP
  have hl : lv_has ls 1 [(0, .int x0)] := hl
  have rx0 := n_rng x0
  refine lv_iload_n (pc := 0) hx hb dX4_isBlank_0 rfl (lv_at hl 0 rfl) ?_
  refine lv_bipush (pc := 1) (v := 10) hx hb dX4_isBlank_1 (by decide) ?_
  refine b_icmp_eq (pc := 3) (tgt := 12) hx hb rfl tI_10  dX4_isBlank_3 (by decide) (fun c_1 => ?_) (fun c_1 => ?_)
  ·
    refine lv_iconst (pc := 12) (v := 1) hx hb dX4_isBlank_12 (by decide) ?_
    refine lv_goto (pc := 13) (tgt := 17) hx hb dX4_isBlank_13 (by decide) ?_
    exact hret 1 ((fun _ => 0), (fun _ => (fun _ => 0)), (fun _ => (fun _ => 0)), (fun _ => 0), (fun _ => 0)) dX4_isBlank_17 ⟨(by have k9 := tI_1; omega), (show (((1 : Int32).toInt = 1 ∧ x0.toInt = 10) ∨ ((1 : Int32).toInt = 0 ∧ ¬ x0.toInt = 10 ∧ ¬ x0.toInt = 32) ∨ ((1 : Int32).toInt = 1 ∧ ¬ x0.toInt = 10 ∧ x0.toInt = 32)) by have k9 := tI_1; omega)⟩ (g_psub (wc := []) hP [] rfl) (hD.sub (ws' := []) [] (by decide) rfl) hS
  ·
    refine lv_iload_n (pc := 6) hx hb dX4_isBlank_6 rfl (lv_at hl 0 rfl) ?_
    refine lv_bipush (pc := 7) (v := 32) hx hb dX4_isBlank_7 (by decide) ?_
    refine b_icmp_ne (pc := 9) (tgt := 16) hx hb rfl tI_32  dX4_isBlank_9 (by decide) (fun c_2 => ?_) (fun c_2 => ?_)
    ·
      refine lv_iconst (pc := 16) (v := 0) hx hb dX4_isBlank_16 (by decide) ?_
      exact hret 0 ((fun _ => 0), (fun _ => (fun _ => 0)), (fun _ => (fun _ => 0)), (fun _ => 0), (fun _ => 0)) dX4_isBlank_17 ⟨(by have k9 := tI_0; omega), (show (((0 : Int32).toInt = 1 ∧ x0.toInt = 10) ∨ ((0 : Int32).toInt = 0 ∧ ¬ x0.toInt = 10 ∧ ¬ x0.toInt = 32) ∨ ((0 : Int32).toInt = 1 ∧ ¬ x0.toInt = 10 ∧ x0.toInt = 32)) by have k9 := tI_0; omega)⟩ (g_psub (wc := []) hP [] rfl) (hD.sub (ws' := []) [] (by decide) rfl) hS
    ·
      refine lv_iconst (pc := 12) (v := 1) hx hb dX4_isBlank_12 (by decide) ?_
      refine lv_goto (pc := 13) (tgt := 17) hx hb dX4_isBlank_13 (by decide) ?_
      exact hret 1 ((fun _ => 0), (fun _ => (fun _ => 0)), (fun _ => (fun _ => 0)), (fun _ => 0), (fun _ => 0)) dX4_isBlank_17 ⟨(by have k9 := tI_1; omega), (show (((1 : Int32).toInt = 1 ∧ x0.toInt = 10) ∨ ((1 : Int32).toInt = 0 ∧ ¬ x0.toInt = 10 ∧ ¬ x0.toInt = 32) ∨ ((1 : Int32).toInt = 1 ∧ ¬ x0.toInt = 10 ∧ x0.toInt = 32)) by have k9 := tI_1; omega)⟩ (g_psub (wc := []) hP [] rfl) (hD.sub (ws' := []) [] (by decide) rfl) hS
set_option maxHeartbeats 4000000 in
set_option maxRecDepth 100000 in
theorem k_X4_goOn (l : Launch) (D : va_G) (cB cC cI cJ : ClassId) (sz : Nat) (a0 a1 a2 a3 : Nat) (x0 x1 x2 x3 x4 x5 x6 x7 x8 : Int32) (f0 : Nat → Int32) (hp1 : (0 ≤ x0.toInt ∧ x0.toInt ≤ 1600)) (hp2 : (0 ≤ x1.toInt ∧ x1.toInt ≤ 1)) (h_x2 : (0 ≤ x2.toInt ∧ x2.toInt ≤ 1600)) (h_x3 : ((-1) ≤ x3.toInt ∧ x3.toInt ≤ 255)) (h_x4 : (0 ≤ x4.toInt ∧ x4.toInt ≤ 1600)) (h_x6 : (0 ≤ x6.toInt ∧ x6.toInt ≤ 4)) (h_x7 : ((-1) ≤ x7.toInt ∧ x7.toInt ≤ 1600)) (h_x8 : (0 ≤ x8.toInt ∧ x8.toInt ≤ 1600)) : Met l yX4_goOn (.code yX4_goOn cX4_goOn 3 none :: lw_gd) ({ frames := 1, cells := 0, slots := 0, locals := 21 }) (gPre D [(cB, .byte), (cC, .char), (cI, .int), (cJ, .long)] [.ref a0, .int x0, .int x1] [(a0, .inr (4, [.ref a1, .ref a2, .int x2, .int x3, .int x4, .int x5, .int x6, .int x7])), (a1, .inr (9, [.ref a3, .int x8])), (a3, .inl (cB, 1600, .inl f0))] sz) (va_Qv (fun u => (0 ≤ (u.2.2.2.1 0).toInt ∧ (u.2.2.2.1 0).toInt ≤ 1600) ∧ ((-1) ≤ (u.2.2.2.1 1).toInt ∧ (u.2.2.2.1 1).toInt ≤ 255) ∧ ((u.2.2.2.1 0).toInt = skp (taub f0 x8.toInt) x0.toInt) ∧ ((u.2.2.2.1 1).toInt = gsn (taub f0 x8.toInt) x0.toInt (u.2.2.2.1 0).toInt x1.toInt) ∧ (x0.toInt ≤ (u.2.2.2.1 0).toInt)) (gB D (va_A [(a0, .inr (4, [.ref a1, .ref a2, .int x2, .int x3, .int x4, .int x5, .int x6, .int x7])), (a1, .inr (9, [.ref a3, .int x8])), (a3, .inl (cB, 1600, .inl f0))] sz) (fun u : gEx => [(a0, .inr (4, [.ref a1, .ref a2, .int (u.2.2.2.1 0), .int (u.2.2.2.1 1), .int x4, .int x5, .int x6, .int x7])), (a1, .inr (9, [.ref a3, .int x8])), (a3, .inl (cB, 1600, .inl f0))])) (va_A [(a0, .inr (4, [.ref a1, .ref a2, .int x2, .int x3, .int x4, .int x5, .int x6, .int x7])), (a1, .inr (9, [.ref a3, .int x8])), (a3, .inl (cB, 1600, .inl f0))] sz)) 0 0 (va_A [(a0, .inr (4, [.ref a1, .ref a2, .int x2, .int x3, .int x4, .int x5, .int x6, .int x7])), (a1, .inr (9, [.ref a3, .int x8])), (a3, .inl (cB, 1600, .inl f0))] sz) := by
  refine gOf_v (by decide +kernel) (Nat.le_of_ble_eq_true rfl) ?_
  intro p e s m args below meth c ls A Q hx hb hts hown hml hN hK hP hD hA hl hret
  have hown : s.vm.findClass RX4 = some m.cls := hown
  have hS : va_S A s.heap s.heap [] := va_S.rf
  have hP : va_P D gcl [(a0, .inr (4, [.ref a1, .ref a2, .int x2, .int x3, .int x4, .int x5, .int x6, .int x7])), (a1, .inr (9, [.ref a3, .int x8])), (a3, .inl (cB, 1600, .inl f0))] s.heap := hP
  have hl : lv_has ls 3 [(0, .ref a0), (1, .int x0), (2, .int x1)] := hl
  have rx5 := n_rng x5
  refine lv_aload_n (pc := 0) hx hb dX4_goOn_0 rfl (lv_at hl 0 rfl) ?_
  refine lv_iload_n (pc := 1) hx hb dX4_goOn_1 rfl (lv_at hl 1 rfl) ?_
  refine va_put (pc := 2) (ci := 4) (v := .int x0) (ty := .int) (C := RX4) (T := TX4) (N := 8) hx hb hts iX4 tyX4 tyX4_ok nmX4 hown hK hP hD hS 0 rfl rfl 2 (by decide) (hts _ tw_170) (fun _ h9 => h9) rfl (by decide +kernel) rfl rfl (Nat.le_of_ble_eq_true rfl) dX4_goOn_2 (fun H locs hP hD hS => ?_)
  have hP : va_P D gcl [(a0, .inr (4, [.ref a1, .ref a2, .int x0, .int x3, .int x4, .int x5, .int x6, .int x7])), (a1, .inr (9, [.ref a3, .int x8])), (a3, .inl (cB, 1600, .inl f0))] H := hP
  have hD : va_D A [(a0, .inr (4, [.ref a1, .ref a2, .int x0, .int x3, .int x4, .int x5, .int x6, .int x7])), (a1, .inr (9, [.ref a3, .int x8])), (a3, .inl (cB, 1600, .inl f0))] := hD
  have lp_4 : ∀ (n : Nat) (x_1 : Int32) (H : Heap) (locs : List Loc) (ls : Array Slot), (0 ≤ x_1.toInt ∧ x_1.toInt ≤ 1600) → (bls (taub f0 x8.toInt) x0.toInt x_1.toInt) → (2147483647 - x_1.toInt).toNat < n → va_P D gcl [(a0, .inr (4, [.ref a1, .ref a2, .int x_1, .int x3, .int x4, .int x5, .int x6, .int x7])), (a1, .inr (9, [.ref a3, .int x8])), (a3, .inl (cB, 1600, .inl f0))] H → va_D A [(a0, .inr (4, [.ref a1, .ref a2, .int x_1, .int x3, .int x4, .int x5, .int x6, .int x7])), (a1, .inr (9, [.ref a3, .int x8])), (a3, .inl (cB, 1600, .inl f0))] → va_S A s.heap H locs → lv_has ls 3 [(0, .ref a0), (1, .int x0), (2, .int x1)] → W p l e ({ frames := 1, cells := 0, slots := 0, locals := 21 }) s m args below meth c H locs 0 0 Q (F0 m 5 ls []) := by
    intro n
    induction n with
    | zero => intro x_1 H locs ls hi_2 hi_3 hmu; exact absurd hmu (Nat.not_lt_zero _)
    | succ n ih_lp_4 =>
      intro x_1 H locs ls hi_2 hi_3 hmu_lp_4 hP hD hS hl
      refine lv_aload_n (pc := 5) hx hb dX4_goOn_5 rfl (lv_at hl 0 rfl) ?_
      refine va_get (pc := 6) (ci := 4) (v := .int x_1) (C := RX4) (T := TX4) (N := 8) hx hb hts iX4 hown hK hP 0 rfl rfl 2 (by decide) (hts _ tw_170) (fun _ h9 => h9) rfl dX4_goOn_6 ?_
      refine lv_aload_n (pc := 9) hx hb dX4_goOn_9 rfl (lv_at hl 0 rfl) ?_
      refine va_get (pc := 10) (ci := 4) (v := .ref a1) (C := RX4) (T := TX4) (N := 8) hx hb hts iX4 hown hK hP 0 rfl rfl 0 (by decide) (hts _ tw_167) (fun _ h9 => h9) rfl dX4_goOn_10 ?_
      refine gc_i (pc := 13) (wc := [(a1, .inr (9, [.ref a3, .int x8]))]) (wr := [(a0, .inr (4, [.ref a1, .ref a2, .int x_1, .int x3, .int x4, .int x5, .int x6, .int x7])), (a3, .inl (cB, 1600, .inl f0))]) hP hD hS hA [1] [0, 2] rfl rfl (by decide) (by decide) (by decide) (fun hPc hDc => va_runV (As := []) (rest := [.int x_1]) ⟨hx, hb, hml, hown, hts⟩ (k_X9_length l D cB cC cI cJ _ a1 a3 x8 h_x8) ⟨gcwB hts tw_478 tw_3 tw_514 hd_yX9_length ⟨Nat.le_of_ble_eq_true rfl, Nat.le_of_ble_eq_true rfl⟩, hts _ tw_476, hts _ tw_477⟩ ⟨gblind, va_recv hK hPc (ci := 9) (q0 := 0) rfl rfl, (gpreS hPc hK hDc hN).2⟩ rfl rfl hl.1 rfl (lv_room (Nat.le_of_ble_eq_true rfl)) dX4_goOn_13 ⟨Nat.le_of_ble_eq_true rfl, Nat.le_of_ble_eq_true rfl⟩) (fun r_6 u_5 H locs hw_7 hP hD hS => ?_)
      have hP : va_P D gcl [(a0, .inr (4, [.ref a1, .ref a2, .int x_1, .int x3, .int x4, .int x5, .int x6, .int x7])), (a3, .inl (cB, 1600, .inl f0)), (a1, .inr (9, [.ref a3, .int x8]))] H := hP
      have hD : va_D A [(a0, .inr (4, [.ref a1, .ref a2, .int x_1, .int x3, .int x4, .int x5, .int x6, .int x7])), (a3, .inl (cB, 1600, .inl f0)), (a1, .inr (9, [.ref a3, .int x8]))] := hD
      have hw_8 : ((r_6.toInt = x8.toInt)) := hw_7
      have rr_6 := n_rng r_6
      refine b_icmp_ge (pc := 16) (tgt := 49) hx hb rfl rfl  dX4_goOn_16 (by decide) (fun c_9 => ?_) (fun c_9 => ?_)
      ·
        refine lv_aload_n (pc := 49) hx hb dX4_goOn_49 rfl (lv_at hl 0 rfl) ?_
        refine lv_aload_n (pc := 50) hx hb dX4_goOn_50 rfl (lv_at hl 0 rfl) ?_
        refine va_get (pc := 51) (ci := 4) (v := .ref a1) (C := RX4) (T := TX4) (N := 8) hx hb hts iX4 hown hK hP 0 rfl rfl 0 (by decide) (hts _ tw_167) (fun _ h9 => h9) rfl dX4_goOn_51 ?_
        refine lv_aload_n (pc := 54) hx hb dX4_goOn_54 rfl (lv_at hl 0 rfl) ?_
        refine va_get (pc := 55) (ci := 4) (v := .int x_1) (C := RX4) (T := TX4) (N := 8) hx hb hts iX4 hown hK hP 0 rfl rfl 2 (by decide) (hts _ tw_170) (fun _ h9 => h9) rfl dX4_goOn_55 ?_
        refine gc_i (pc := 58) (wc := [(a1, .inr (9, [.ref a3, .int x8])), (a3, .inl (cB, 1600, .inl f0))]) (wr := [(a0, .inr (4, [.ref a1, .ref a2, .int x_1, .int x3, .int x4, .int x5, .int x6, .int x7]))]) hP hD hS hA [2, 1] [0] rfl rfl (by decide) (by decide) (by decide) (fun hPc hDc => va_runV (As := [.int x_1]) (rest := [.ref a0]) ⟨hx, hb, hml, hown, hts⟩ (k_X9_at_E l D cB cC cI cJ _ a1 a3 x_1 x8 f0 h_x8) ⟨gcwB hts tw_518 tw_3 tw_515 hd_yX9_at ⟨Nat.le_of_ble_eq_true rfl, Nat.le_of_ble_eq_true rfl⟩, hts _ tw_516, hts _ tw_517⟩ ⟨gblind, va_recv hK hPc (ci := 9) (q0 := 0) rfl rfl, (gpreS hPc hK hDc hN).2⟩ rfl rfl hl.1 rfl (lv_room (Nat.le_of_ble_eq_true rfl)) dX4_goOn_58 ⟨Nat.le_of_ble_eq_true rfl, Nat.le_of_ble_eq_true rfl⟩) (fun r_11 u_10 H locs hw_12 hP hD hS => ?_)
        have hP : va_P D gcl [(a0, .inr (4, [.ref a1, .ref a2, .int x_1, .int x3, .int x4, .int x5, .int x6, .int x7])), (a1, .inr (9, [.ref a3, .int x8])), (a3, .inl (cB, 1600, .inl f0))] H := hP
        have hD : va_D A [(a0, .inr (4, [.ref a1, .ref a2, .int x_1, .int x3, .int x4, .int x5, .int x6, .int x7])), (a1, .inr (9, [.ref a3, .int x8])), (a3, .inl (cB, 1600, .inl f0))] := hD
        obtain ⟨hw_13, hw_14⟩ := hw_12
        have hw_13 : ((r_11.toInt = (-1) ∧ x_1.toInt < 0) ∨ (r_11.toInt = (-1) ∧ x_1.toInt ≥ 0 ∧ x_1.toInt ≥ x8.toInt) ∨ ((0 ≤ r_11.toInt ∧ r_11.toInt ≤ 255) ∧ x_1.toInt ≥ 0 ∧ x_1.toInt < x8.toInt)) := hw_13
        have hw_14 : (r_11.toInt = taub f0 x8.toInt x_1.toInt) := hw_14
        have rr_11 := n_rng r_11
        refine va_put (pc := 61) (ci := 4) (v := .int r_11) (ty := .int) (C := RX4) (T := TX4) (N := 8) hx hb hts iX4 tyX4 tyX4_ok nmX4 hown hK hP hD hS 0 rfl rfl 3 (by decide) (hts _ tw_171) (fun _ h9 => h9) rfl (by decide +kernel) rfl rfl (Nat.le_of_ble_eq_true rfl) dX4_goOn_61 (fun H locs hP hD hS => ?_)
        have hP : va_P D gcl [(a0, .inr (4, [.ref a1, .ref a2, .int x_1, .int r_11, .int x4, .int x5, .int x6, .int x7])), (a1, .inr (9, [.ref a3, .int x8])), (a3, .inl (cB, 1600, .inl f0))] H := hP
        have hD : va_D A [(a0, .inr (4, [.ref a1, .ref a2, .int x_1, .int r_11, .int x4, .int x5, .int x6, .int x7])), (a1, .inr (9, [.ref a3, .int x8])), (a3, .inl (cB, 1600, .inl f0))] := hD
        refine lv_iload_n (pc := 64) hx hb dX4_goOn_64 rfl (lv_at hl 2 rfl) ?_
        refine b_if_eq (pc := 65) (tgt := 101) hx hb rfl  dX4_goOn_65 (by decide) (fun c_15 => ?_) (fun c_15 => ?_)
        ·
          exact hret ((fun _ => 0), (fun _ => (fun _ => 0)), (fun _ => (fun _ => 0)), (fun k => [x_1, r_11].getD k 0), (fun _ => 0)) dX4_goOn_101 ⟨(show (0 ≤ (x_1 : Int32).toInt ∧ (x_1 : Int32).toInt ≤ 1600) from hi_2), (show ((-1) ≤ (r_11 : Int32).toInt ∧ (r_11 : Int32).toInt ≤ 255) by omega), (show x_1.toInt = skp (taub f0 x8.toInt) x0.toInt from (skp_at hi_3 (by unfold isBl; first | omega | (have q := taub_out (f := f0) (n := x8.toInt) (i := x_1.toInt) (by omega); omega)) (by omega)).symm), (show r_11.toInt = gsn (taub f0 x8.toInt) x0.toInt x_1.toInt x1.toInt from (by have q := gsn_t (t := (taub f0 x8.toInt)) (p := x0.toInt) (q := x_1.toInt) (nb := x1.toInt) (by unfold isSm isDg; omega); omega)), (show x0.toInt ≤ x_1.toInt from hi_3.1)⟩ (g_psub (wc := [(a0, .inr (4, [.ref a1, .ref a2, .int x_1, .int r_11, .int x4, .int x5, .int x6, .int x7])), (a1, .inr (9, [.ref a3, .int x8])), (a3, .inl (cB, 1600, .inl f0))]) hP [0, 1, 2] rfl) (hD.sub (ws' := [(a0, .inr (4, [.ref a1, .ref a2, .int x_1, .int r_11, .int x4, .int x5, .int x6, .int x7])), (a1, .inr (9, [.ref a3, .int x8])), (a3, .inl (cB, 1600, .inl f0))]) [0, 1, 2] (by decide) rfl) hS
        ·
          refine lv_aload_n (pc := 68) hx hb dX4_goOn_68 rfl (lv_at hl 0 rfl) ?_
          refine va_get (pc := 69) (ci := 4) (v := .int x_1) (C := RX4) (T := TX4) (N := 8) hx hb hts iX4 hown hK hP 0 rfl rfl 2 (by decide) (hts _ tw_170) (fun _ h9 => h9) rfl dX4_goOn_69 ?_
          refine lv_iload_n (pc := 72) hx hb dX4_goOn_72 rfl (lv_at hl 1 rfl) ?_
          refine b_icmp_ne (pc := 73) (tgt := 101) hx hb rfl rfl  dX4_goOn_73 (by decide) (fun c_16 => ?_) (fun c_16 => ?_)
          ·
            exact hret ((fun _ => 0), (fun _ => (fun _ => 0)), (fun _ => (fun _ => 0)), (fun k => [x_1, r_11].getD k 0), (fun _ => 0)) dX4_goOn_101 ⟨(show (0 ≤ (x_1 : Int32).toInt ∧ (x_1 : Int32).toInt ≤ 1600) from hi_2), (show ((-1) ≤ (r_11 : Int32).toInt ∧ (r_11 : Int32).toInt ≤ 255) by omega), (show x_1.toInt = skp (taub f0 x8.toInt) x0.toInt from (skp_at hi_3 (by unfold isBl; first | omega | (have q := taub_out (f := f0) (n := x8.toInt) (i := x_1.toInt) (by omega); omega)) (by omega)).symm), (show r_11.toInt = gsn (taub f0 x8.toInt) x0.toInt x_1.toInt x1.toInt from (by have q := gsn_t (t := (taub f0 x8.toInt)) (p := x0.toInt) (q := x_1.toInt) (nb := x1.toInt) (by unfold isSm isDg; omega); omega)), (show x0.toInt ≤ x_1.toInt from hi_3.1)⟩ (g_psub (wc := [(a0, .inr (4, [.ref a1, .ref a2, .int x_1, .int r_11, .int x4, .int x5, .int x6, .int x7])), (a1, .inr (9, [.ref a3, .int x8])), (a3, .inl (cB, 1600, .inl f0))]) hP [0, 1, 2] rfl) (hD.sub (ws' := [(a0, .inr (4, [.ref a1, .ref a2, .int x_1, .int r_11, .int x4, .int x5, .int x6, .int x7])), (a1, .inr (9, [.ref a3, .int x8])), (a3, .inl (cB, 1600, .inl f0))]) [0, 1, 2] (by decide) rfl) hS
          ·
            refine lv_aload_n (pc := 76) hx hb dX4_goOn_76 rfl (lv_at hl 0 rfl) ?_
            refine va_get (pc := 77) (ci := 4) (v := .int r_11) (C := RX4) (T := TX4) (N := 8) hx hb hts iX4 hown hK hP 0 rfl rfl 3 (by decide) (hts _ tw_171) (fun _ h9 => h9) rfl dX4_goOn_77 ?_
            refine gc_i (pc := 80) (wc := []) (wr := [(a0, .inr (4, [.ref a1, .ref a2, .int x_1, .int r_11, .int x4, .int x5, .int x6, .int x7])), (a1, .inr (9, [.ref a3, .int x8])), (a3, .inl (cB, 1600, .inl f0))]) hP hD hS hA [] [0, 1, 2] rfl rfl (by decide) (by decide) (by decide) (fun hPc hDc => va_runS (As := [.int r_11]) (rest := []) ⟨hx, hb, hml, hown, hts⟩ (k_X4_isSmall l D cB cC cI cJ _ r_11) ⟨gcwB hts tw_524 tw_2 tw_522 hd_yX4_isSmall ⟨Nat.le_of_ble_eq_true rfl, Nat.le_of_ble_eq_true rfl⟩, hts _ tw_523⟩ (gpreS hPc hK hDc hN) rfl rfl hl.1 rfl (lv_room (Nat.le_of_ble_eq_true rfl)) dX4_goOn_80 ⟨Nat.le_of_ble_eq_true rfl, Nat.le_of_ble_eq_true rfl⟩) (fun r_18 u_17 H locs hw_19 hP hD hS => ?_)
            have hP : va_P D gcl [(a0, .inr (4, [.ref a1, .ref a2, .int x_1, .int r_11, .int x4, .int x5, .int x6, .int x7])), (a1, .inr (9, [.ref a3, .int x8])), (a3, .inl (cB, 1600, .inl f0))] H := hP
            have hD : va_D A [(a0, .inr (4, [.ref a1, .ref a2, .int x_1, .int r_11, .int x4, .int x5, .int x6, .int x7])), (a1, .inr (9, [.ref a3, .int x8])), (a3, .inl (cB, 1600, .inl f0))] := hD
            have hw_20 : ((r_18.toInt = 0 ∧ r_11.toInt < 97) ∨ (r_18.toInt = 0 ∧ r_11.toInt ≥ 97 ∧ r_11.toInt > 122) ∨ (r_18.toInt = 1 ∧ r_11.toInt ≥ 97 ∧ r_11.toInt ≤ 122)) := hw_19
            have rr_18 := n_rng r_18
            refine b_if_ne (pc := 83) (tgt := 96) hx hb rfl  dX4_goOn_83 (by decide) (fun c_21 => ?_) (fun c_21 => ?_)
            ·
              refine lv_aload_n (pc := 96) hx hb dX4_goOn_96 rfl (lv_at hl 0 rfl) ?_
              refine lv_iconst (pc := 97) (v := 0) hx hb dX4_goOn_97 (by decide) ?_
              refine va_put (pc := 98) (ci := 4) (v := .int 0) (ty := .int) (C := RX4) (T := TX4) (N := 8) hx hb hts iX4 tyX4 tyX4_ok nmX4 hown hK hP hD hS 0 rfl rfl 3 (by decide) (hts _ tw_171) (fun _ h9 => h9) rfl (by decide +kernel) (by decide +kernel) (by decide +kernel) (Nat.le_of_ble_eq_true rfl) dX4_goOn_98 (fun H locs hP hD hS => ?_)
              have hP : va_P D gcl [(a0, .inr (4, [.ref a1, .ref a2, .int x_1, .int 0, .int x4, .int x5, .int x6, .int x7])), (a1, .inr (9, [.ref a3, .int x8])), (a3, .inl (cB, 1600, .inl f0))] H := hP
              have hD : va_D A [(a0, .inr (4, [.ref a1, .ref a2, .int x_1, .int 0, .int x4, .int x5, .int x6, .int x7])), (a1, .inr (9, [.ref a3, .int x8])), (a3, .inl (cB, 1600, .inl f0))] := hD
              have k8_0 := tI_0
              exact hret ((fun _ => 0), (fun _ => (fun _ => 0)), (fun _ => (fun _ => 0)), (fun k => [x_1, 0].getD k 0), (fun _ => 0)) dX4_goOn_101 ⟨(show (0 ≤ (x_1 : Int32).toInt ∧ (x_1 : Int32).toInt ≤ 1600) from hi_2), (show ((-1) ≤ (0 : Int32).toInt ∧ (0 : Int32).toInt ≤ 255) from (n_c tI_0 (by decide))), (show x_1.toInt = skp (taub f0 x8.toInt) x0.toInt from (skp_at hi_3 (by unfold isBl; first | omega | (have q := taub_out (f := f0) (n := x8.toInt) (i := x_1.toInt) (by omega); omega)) (by omega)).symm), (show (0 : Int32).toInt = gsn (taub f0 x8.toInt) x0.toInt x_1.toInt x1.toInt from (by have q := gsn_g (t := (taub f0 x8.toInt)) (p := x0.toInt) (q := x_1.toInt) (nb := x1.toInt) (by omega) (by omega) (by unfold isSm isDg; omega); omega)), (show x0.toInt ≤ x_1.toInt from hi_3.1)⟩ (g_psub (wc := [(a0, .inr (4, [.ref a1, .ref a2, .int x_1, .int 0, .int x4, .int x5, .int x6, .int x7])), (a1, .inr (9, [.ref a3, .int x8])), (a3, .inl (cB, 1600, .inl f0))]) hP [0, 1, 2] rfl) (hD.sub (ws' := [(a0, .inr (4, [.ref a1, .ref a2, .int x_1, .int 0, .int x4, .int x5, .int x6, .int x7])), (a1, .inr (9, [.ref a3, .int x8])), (a3, .inl (cB, 1600, .inl f0))]) [0, 1, 2] (by decide) rfl) hS
            ·
              refine lv_aload_n (pc := 86) hx hb dX4_goOn_86 rfl (lv_at hl 0 rfl) ?_
              refine va_get (pc := 87) (ci := 4) (v := .int r_11) (C := RX4) (T := TX4) (N := 8) hx hb hts iX4 hown hK hP 0 rfl rfl 3 (by decide) (hts _ tw_171) (fun _ h9 => h9) rfl dX4_goOn_87 ?_
              refine gc_i (pc := 90) (wc := []) (wr := [(a0, .inr (4, [.ref a1, .ref a2, .int x_1, .int r_11, .int x4, .int x5, .int x6, .int x7])), (a1, .inr (9, [.ref a3, .int x8])), (a3, .inl (cB, 1600, .inl f0))]) hP hD hS hA [] [0, 1, 2] rfl rfl (by decide) (by decide) (by decide) (fun hPc hDc => va_runS (As := [.int r_11]) (rest := []) ⟨hx, hb, hml, hown, hts⟩ (k_X4_isDigit l D cB cC cI cJ _ r_11) ⟨gcwB hts tw_527 tw_2 tw_525 hd_yX4_isDigit ⟨Nat.le_of_ble_eq_true rfl, Nat.le_of_ble_eq_true rfl⟩, hts _ tw_526⟩ (gpreS hPc hK hDc hN) rfl rfl hl.1 rfl (lv_room (Nat.le_of_ble_eq_true rfl)) dX4_goOn_90 ⟨Nat.le_of_ble_eq_true rfl, Nat.le_of_ble_eq_true rfl⟩) (fun r_23 u_22 H locs hw_24 hP hD hS => ?_)
              have hP : va_P D gcl [(a0, .inr (4, [.ref a1, .ref a2, .int x_1, .int r_11, .int x4, .int x5, .int x6, .int x7])), (a1, .inr (9, [.ref a3, .int x8])), (a3, .inl (cB, 1600, .inl f0))] H := hP
              have hD : va_D A [(a0, .inr (4, [.ref a1, .ref a2, .int x_1, .int r_11, .int x4, .int x5, .int x6, .int x7])), (a1, .inr (9, [.ref a3, .int x8])), (a3, .inl (cB, 1600, .inl f0))] := hD
              have hw_25 : ((r_23.toInt = 0 ∧ r_11.toInt < 48) ∨ (r_23.toInt = 0 ∧ r_11.toInt ≥ 48 ∧ r_11.toInt > 57) ∨ (r_23.toInt = 1 ∧ r_11.toInt ≥ 48 ∧ r_11.toInt ≤ 57)) := hw_24
              have rr_23 := n_rng r_23
              refine b_if_eq (pc := 93) (tgt := 101) hx hb rfl  dX4_goOn_93 (by decide) (fun c_26 => ?_) (fun c_26 => ?_)
              ·
                exact hret ((fun _ => 0), (fun _ => (fun _ => 0)), (fun _ => (fun _ => 0)), (fun k => [x_1, r_11].getD k 0), (fun _ => 0)) dX4_goOn_101 ⟨(show (0 ≤ (x_1 : Int32).toInt ∧ (x_1 : Int32).toInt ≤ 1600) from hi_2), (show ((-1) ≤ (r_11 : Int32).toInt ∧ (r_11 : Int32).toInt ≤ 255) by omega), (show x_1.toInt = skp (taub f0 x8.toInt) x0.toInt from (skp_at hi_3 (by unfold isBl; first | omega | (have q := taub_out (f := f0) (n := x8.toInt) (i := x_1.toInt) (by omega); omega)) (by omega)).symm), (show r_11.toInt = gsn (taub f0 x8.toInt) x0.toInt x_1.toInt x1.toInt from (by have q := gsn_t (t := (taub f0 x8.toInt)) (p := x0.toInt) (q := x_1.toInt) (nb := x1.toInt) (by unfold isSm isDg; omega); omega)), (show x0.toInt ≤ x_1.toInt from hi_3.1)⟩ (g_psub (wc := [(a0, .inr (4, [.ref a1, .ref a2, .int x_1, .int r_11, .int x4, .int x5, .int x6, .int x7])), (a1, .inr (9, [.ref a3, .int x8])), (a3, .inl (cB, 1600, .inl f0))]) hP [0, 1, 2] rfl) (hD.sub (ws' := [(a0, .inr (4, [.ref a1, .ref a2, .int x_1, .int r_11, .int x4, .int x5, .int x6, .int x7])), (a1, .inr (9, [.ref a3, .int x8])), (a3, .inl (cB, 1600, .inl f0))]) [0, 1, 2] (by decide) rfl) hS
              ·
                refine lv_aload_n (pc := 96) hx hb dX4_goOn_96 rfl (lv_at hl 0 rfl) ?_
                refine lv_iconst (pc := 97) (v := 0) hx hb dX4_goOn_97 (by decide) ?_
                refine va_put (pc := 98) (ci := 4) (v := .int 0) (ty := .int) (C := RX4) (T := TX4) (N := 8) hx hb hts iX4 tyX4 tyX4_ok nmX4 hown hK hP hD hS 0 rfl rfl 3 (by decide) (hts _ tw_171) (fun _ h9 => h9) rfl (by decide +kernel) (by decide +kernel) (by decide +kernel) (Nat.le_of_ble_eq_true rfl) dX4_goOn_98 (fun H locs hP hD hS => ?_)
                have hP : va_P D gcl [(a0, .inr (4, [.ref a1, .ref a2, .int x_1, .int 0, .int x4, .int x5, .int x6, .int x7])), (a1, .inr (9, [.ref a3, .int x8])), (a3, .inl (cB, 1600, .inl f0))] H := hP
                have hD : va_D A [(a0, .inr (4, [.ref a1, .ref a2, .int x_1, .int 0, .int x4, .int x5, .int x6, .int x7])), (a1, .inr (9, [.ref a3, .int x8])), (a3, .inl (cB, 1600, .inl f0))] := hD
                have k8_0 := tI_0
                exact hret ((fun _ => 0), (fun _ => (fun _ => 0)), (fun _ => (fun _ => 0)), (fun k => [x_1, 0].getD k 0), (fun _ => 0)) dX4_goOn_101 ⟨(show (0 ≤ (x_1 : Int32).toInt ∧ (x_1 : Int32).toInt ≤ 1600) from hi_2), (show ((-1) ≤ (0 : Int32).toInt ∧ (0 : Int32).toInt ≤ 255) from (n_c tI_0 (by decide))), (show x_1.toInt = skp (taub f0 x8.toInt) x0.toInt from (skp_at hi_3 (by unfold isBl; first | omega | (have q := taub_out (f := f0) (n := x8.toInt) (i := x_1.toInt) (by omega); omega)) (by omega)).symm), (show (0 : Int32).toInt = gsn (taub f0 x8.toInt) x0.toInt x_1.toInt x1.toInt from (by have q := gsn_g (t := (taub f0 x8.toInt)) (p := x0.toInt) (q := x_1.toInt) (nb := x1.toInt) (by omega) (by omega) (by unfold isSm isDg; omega); omega)), (show x0.toInt ≤ x_1.toInt from hi_3.1)⟩ (g_psub (wc := [(a0, .inr (4, [.ref a1, .ref a2, .int x_1, .int 0, .int x4, .int x5, .int x6, .int x7])), (a1, .inr (9, [.ref a3, .int x8])), (a3, .inl (cB, 1600, .inl f0))]) hP [0, 1, 2] rfl) (hD.sub (ws' := [(a0, .inr (4, [.ref a1, .ref a2, .int x_1, .int 0, .int x4, .int x5, .int x6, .int x7])), (a1, .inr (9, [.ref a3, .int x8])), (a3, .inl (cB, 1600, .inl f0))]) [0, 1, 2] (by decide) rfl) hS
      ·
        refine lv_aload_n (pc := 19) hx hb dX4_goOn_19 rfl (lv_at hl 0 rfl) ?_
        refine va_get (pc := 20) (ci := 4) (v := .ref a1) (C := RX4) (T := TX4) (N := 8) hx hb hts iX4 hown hK hP 0 rfl rfl 0 (by decide) (hts _ tw_167) (fun _ h9 => h9) rfl dX4_goOn_20 ?_
        refine lv_aload_n (pc := 23) hx hb dX4_goOn_23 rfl (lv_at hl 0 rfl) ?_
        refine va_get (pc := 24) (ci := 4) (v := .int x_1) (C := RX4) (T := TX4) (N := 8) hx hb hts iX4 hown hK hP 0 rfl rfl 2 (by decide) (hts _ tw_170) (fun _ h9 => h9) rfl dX4_goOn_24 ?_
        refine gc_i (pc := 27) (wc := [(a1, .inr (9, [.ref a3, .int x8])), (a3, .inl (cB, 1600, .inl f0))]) (wr := [(a0, .inr (4, [.ref a1, .ref a2, .int x_1, .int x3, .int x4, .int x5, .int x6, .int x7]))]) hP hD hS hA [2, 1] [0] rfl rfl (by decide) (by decide) (by decide) (fun hPc hDc => va_runV (As := [.int x_1]) (rest := []) ⟨hx, hb, hml, hown, hts⟩ (k_X9_at_E l D cB cC cI cJ _ a1 a3 x_1 x8 f0 h_x8) ⟨gcwB hts tw_518 tw_3 tw_515 hd_yX9_at ⟨Nat.le_of_ble_eq_true rfl, Nat.le_of_ble_eq_true rfl⟩, hts _ tw_516, hts _ tw_517⟩ ⟨gblind, va_recv hK hPc (ci := 9) (q0 := 0) rfl rfl, (gpreS hPc hK hDc hN).2⟩ rfl rfl hl.1 rfl (lv_room (Nat.le_of_ble_eq_true rfl)) dX4_goOn_27 ⟨Nat.le_of_ble_eq_true rfl, Nat.le_of_ble_eq_true rfl⟩) (fun r_28 u_27 H locs hw_29 hP hD hS => ?_)
        have hP : va_P D gcl [(a0, .inr (4, [.ref a1, .ref a2, .int x_1, .int x3, .int x4, .int x5, .int x6, .int x7])), (a1, .inr (9, [.ref a3, .int x8])), (a3, .inl (cB, 1600, .inl f0))] H := hP
        have hD : va_D A [(a0, .inr (4, [.ref a1, .ref a2, .int x_1, .int x3, .int x4, .int x5, .int x6, .int x7])), (a1, .inr (9, [.ref a3, .int x8])), (a3, .inl (cB, 1600, .inl f0))] := hD
        obtain ⟨hw_30, hw_31⟩ := hw_29
        have hw_30 : ((r_28.toInt = (-1) ∧ x_1.toInt < 0) ∨ (r_28.toInt = (-1) ∧ x_1.toInt ≥ 0 ∧ x_1.toInt ≥ x8.toInt) ∨ ((0 ≤ r_28.toInt ∧ r_28.toInt ≤ 255) ∧ x_1.toInt ≥ 0 ∧ x_1.toInt < x8.toInt)) := hw_30
        have hw_31 : (r_28.toInt = taub f0 x8.toInt x_1.toInt) := hw_31
        have rr_28 := n_rng r_28
        refine gc_i (pc := 30) (wc := []) (wr := [(a0, .inr (4, [.ref a1, .ref a2, .int x_1, .int x3, .int x4, .int x5, .int x6, .int x7])), (a1, .inr (9, [.ref a3, .int x8])), (a3, .inl (cB, 1600, .inl f0))]) hP hD hS hA [] [0, 1, 2] rfl rfl (by decide) (by decide) (by decide) (fun hPc hDc => va_runS (As := [.int r_28]) (rest := []) ⟨hx, hb, hml, hown, hts⟩ (k_X4_isBlank l D cB cC cI cJ _ r_28) ⟨gcwB hts tw_521 tw_2 tw_519 hd_yX4_isBlank ⟨Nat.le_of_ble_eq_true rfl, Nat.le_of_ble_eq_true rfl⟩, hts _ tw_520⟩ (gpreS hPc hK hDc hN) rfl rfl hl.1 rfl (lv_room (Nat.le_of_ble_eq_true rfl)) dX4_goOn_30 ⟨Nat.le_of_ble_eq_true rfl, Nat.le_of_ble_eq_true rfl⟩) (fun r_33 u_32 H locs hw_34 hP hD hS => ?_)
        have hP : va_P D gcl [(a0, .inr (4, [.ref a1, .ref a2, .int x_1, .int x3, .int x4, .int x5, .int x6, .int x7])), (a1, .inr (9, [.ref a3, .int x8])), (a3, .inl (cB, 1600, .inl f0))] H := hP
        have hD : va_D A [(a0, .inr (4, [.ref a1, .ref a2, .int x_1, .int x3, .int x4, .int x5, .int x6, .int x7])), (a1, .inr (9, [.ref a3, .int x8])), (a3, .inl (cB, 1600, .inl f0))] := hD
        have hw_35 : ((r_33.toInt = 1 ∧ r_28.toInt = 10) ∨ (r_33.toInt = 0 ∧ ¬ r_28.toInt = 10 ∧ ¬ r_28.toInt = 32) ∨ (r_33.toInt = 1 ∧ ¬ r_28.toInt = 10 ∧ r_28.toInt = 32)) := hw_34
        have rr_33 := n_rng r_33
        refine b_if_eq (pc := 33) (tgt := 49) hx hb rfl  dX4_goOn_33 (by decide) (fun c_36 => ?_) (fun c_36 => ?_)
        ·
          refine lv_aload_n (pc := 49) hx hb dX4_goOn_49 rfl (lv_at hl 0 rfl) ?_
          refine lv_aload_n (pc := 50) hx hb dX4_goOn_50 rfl (lv_at hl 0 rfl) ?_
          refine va_get (pc := 51) (ci := 4) (v := .ref a1) (C := RX4) (T := TX4) (N := 8) hx hb hts iX4 hown hK hP 0 rfl rfl 0 (by decide) (hts _ tw_167) (fun _ h9 => h9) rfl dX4_goOn_51 ?_
          refine lv_aload_n (pc := 54) hx hb dX4_goOn_54 rfl (lv_at hl 0 rfl) ?_
          refine va_get (pc := 55) (ci := 4) (v := .int x_1) (C := RX4) (T := TX4) (N := 8) hx hb hts iX4 hown hK hP 0 rfl rfl 2 (by decide) (hts _ tw_170) (fun _ h9 => h9) rfl dX4_goOn_55 ?_
          refine gc_i (pc := 58) (wc := [(a1, .inr (9, [.ref a3, .int x8])), (a3, .inl (cB, 1600, .inl f0))]) (wr := [(a0, .inr (4, [.ref a1, .ref a2, .int x_1, .int x3, .int x4, .int x5, .int x6, .int x7]))]) hP hD hS hA [1, 2] [0] rfl rfl (by decide) (by decide) (by decide) (fun hPc hDc => va_runV (As := [.int x_1]) (rest := [.ref a0]) ⟨hx, hb, hml, hown, hts⟩ (k_X9_at_E l D cB cC cI cJ _ a1 a3 x_1 x8 f0 h_x8) ⟨gcwB hts tw_518 tw_3 tw_515 hd_yX9_at ⟨Nat.le_of_ble_eq_true rfl, Nat.le_of_ble_eq_true rfl⟩, hts _ tw_516, hts _ tw_517⟩ ⟨gblind, va_recv hK hPc (ci := 9) (q0 := 0) rfl rfl, (gpreS hPc hK hDc hN).2⟩ rfl rfl hl.1 rfl (lv_room (Nat.le_of_ble_eq_true rfl)) dX4_goOn_58 ⟨Nat.le_of_ble_eq_true rfl, Nat.le_of_ble_eq_true rfl⟩) (fun r_38 u_37 H locs hw_39 hP hD hS => ?_)
          have hP : va_P D gcl [(a0, .inr (4, [.ref a1, .ref a2, .int x_1, .int x3, .int x4, .int x5, .int x6, .int x7])), (a1, .inr (9, [.ref a3, .int x8])), (a3, .inl (cB, 1600, .inl f0))] H := hP
          have hD : va_D A [(a0, .inr (4, [.ref a1, .ref a2, .int x_1, .int x3, .int x4, .int x5, .int x6, .int x7])), (a1, .inr (9, [.ref a3, .int x8])), (a3, .inl (cB, 1600, .inl f0))] := hD
          obtain ⟨hw_40, hw_41⟩ := hw_39
          have hw_40 : ((r_38.toInt = (-1) ∧ x_1.toInt < 0) ∨ (r_38.toInt = (-1) ∧ x_1.toInt ≥ 0 ∧ x_1.toInt ≥ x8.toInt) ∨ ((0 ≤ r_38.toInt ∧ r_38.toInt ≤ 255) ∧ x_1.toInt ≥ 0 ∧ x_1.toInt < x8.toInt)) := hw_40
          have hw_41 : (r_38.toInt = taub f0 x8.toInt x_1.toInt) := hw_41
          have rr_38 := n_rng r_38
          refine va_put (pc := 61) (ci := 4) (v := .int r_38) (ty := .int) (C := RX4) (T := TX4) (N := 8) hx hb hts iX4 tyX4 tyX4_ok nmX4 hown hK hP hD hS 0 rfl rfl 3 (by decide) (hts _ tw_171) (fun _ h9 => h9) rfl (by decide +kernel) rfl rfl (Nat.le_of_ble_eq_true rfl) dX4_goOn_61 (fun H locs hP hD hS => ?_)
          have hP : va_P D gcl [(a0, .inr (4, [.ref a1, .ref a2, .int x_1, .int r_38, .int x4, .int x5, .int x6, .int x7])), (a1, .inr (9, [.ref a3, .int x8])), (a3, .inl (cB, 1600, .inl f0))] H := hP
          have hD : va_D A [(a0, .inr (4, [.ref a1, .ref a2, .int x_1, .int r_38, .int x4, .int x5, .int x6, .int x7])), (a1, .inr (9, [.ref a3, .int x8])), (a3, .inl (cB, 1600, .inl f0))] := hD
          refine lv_iload_n (pc := 64) hx hb dX4_goOn_64 rfl (lv_at hl 2 rfl) ?_
          refine b_if_eq (pc := 65) (tgt := 101) hx hb rfl  dX4_goOn_65 (by decide) (fun c_42 => ?_) (fun c_42 => ?_)
          ·
            exact hret ((fun _ => 0), (fun _ => (fun _ => 0)), (fun _ => (fun _ => 0)), (fun k => [x_1, r_38].getD k 0), (fun _ => 0)) dX4_goOn_101 ⟨(show (0 ≤ (x_1 : Int32).toInt ∧ (x_1 : Int32).toInt ≤ 1600) from hi_2), (show ((-1) ≤ (r_38 : Int32).toInt ∧ (r_38 : Int32).toInt ≤ 255) by omega), (show x_1.toInt = skp (taub f0 x8.toInt) x0.toInt from (skp_at hi_3 (by unfold isBl; first | omega | (have q := taub_out (f := f0) (n := x8.toInt) (i := x_1.toInt) (by omega); omega)) (by omega)).symm), (show r_38.toInt = gsn (taub f0 x8.toInt) x0.toInt x_1.toInt x1.toInt from (by have q := gsn_t (t := (taub f0 x8.toInt)) (p := x0.toInt) (q := x_1.toInt) (nb := x1.toInt) (by unfold isSm isDg; omega); omega)), (show x0.toInt ≤ x_1.toInt from hi_3.1)⟩ (g_psub (wc := [(a0, .inr (4, [.ref a1, .ref a2, .int x_1, .int r_38, .int x4, .int x5, .int x6, .int x7])), (a1, .inr (9, [.ref a3, .int x8])), (a3, .inl (cB, 1600, .inl f0))]) hP [0, 1, 2] rfl) (hD.sub (ws' := [(a0, .inr (4, [.ref a1, .ref a2, .int x_1, .int r_38, .int x4, .int x5, .int x6, .int x7])), (a1, .inr (9, [.ref a3, .int x8])), (a3, .inl (cB, 1600, .inl f0))]) [0, 1, 2] (by decide) rfl) hS
          ·
            refine lv_aload_n (pc := 68) hx hb dX4_goOn_68 rfl (lv_at hl 0 rfl) ?_
            refine va_get (pc := 69) (ci := 4) (v := .int x_1) (C := RX4) (T := TX4) (N := 8) hx hb hts iX4 hown hK hP 0 rfl rfl 2 (by decide) (hts _ tw_170) (fun _ h9 => h9) rfl dX4_goOn_69 ?_
            refine lv_iload_n (pc := 72) hx hb dX4_goOn_72 rfl (lv_at hl 1 rfl) ?_
            refine b_icmp_ne (pc := 73) (tgt := 101) hx hb rfl rfl  dX4_goOn_73 (by decide) (fun c_43 => ?_) (fun c_43 => ?_)
            ·
              exact hret ((fun _ => 0), (fun _ => (fun _ => 0)), (fun _ => (fun _ => 0)), (fun k => [x_1, r_38].getD k 0), (fun _ => 0)) dX4_goOn_101 ⟨(show (0 ≤ (x_1 : Int32).toInt ∧ (x_1 : Int32).toInt ≤ 1600) from hi_2), (show ((-1) ≤ (r_38 : Int32).toInt ∧ (r_38 : Int32).toInt ≤ 255) by omega), (show x_1.toInt = skp (taub f0 x8.toInt) x0.toInt from (skp_at hi_3 (by unfold isBl; first | omega | (have q := taub_out (f := f0) (n := x8.toInt) (i := x_1.toInt) (by omega); omega)) (by omega)).symm), (show r_38.toInt = gsn (taub f0 x8.toInt) x0.toInt x_1.toInt x1.toInt from (by have q := gsn_t (t := (taub f0 x8.toInt)) (p := x0.toInt) (q := x_1.toInt) (nb := x1.toInt) (by unfold isSm isDg; omega); omega)), (show x0.toInt ≤ x_1.toInt from hi_3.1)⟩ (g_psub (wc := [(a0, .inr (4, [.ref a1, .ref a2, .int x_1, .int r_38, .int x4, .int x5, .int x6, .int x7])), (a1, .inr (9, [.ref a3, .int x8])), (a3, .inl (cB, 1600, .inl f0))]) hP [0, 1, 2] rfl) (hD.sub (ws' := [(a0, .inr (4, [.ref a1, .ref a2, .int x_1, .int r_38, .int x4, .int x5, .int x6, .int x7])), (a1, .inr (9, [.ref a3, .int x8])), (a3, .inl (cB, 1600, .inl f0))]) [0, 1, 2] (by decide) rfl) hS
            ·
              refine lv_aload_n (pc := 76) hx hb dX4_goOn_76 rfl (lv_at hl 0 rfl) ?_
              refine va_get (pc := 77) (ci := 4) (v := .int r_38) (C := RX4) (T := TX4) (N := 8) hx hb hts iX4 hown hK hP 0 rfl rfl 3 (by decide) (hts _ tw_171) (fun _ h9 => h9) rfl dX4_goOn_77 ?_
              refine gc_i (pc := 80) (wc := []) (wr := [(a0, .inr (4, [.ref a1, .ref a2, .int x_1, .int r_38, .int x4, .int x5, .int x6, .int x7])), (a1, .inr (9, [.ref a3, .int x8])), (a3, .inl (cB, 1600, .inl f0))]) hP hD hS hA [] [0, 1, 2] rfl rfl (by decide) (by decide) (by decide) (fun hPc hDc => va_runS (As := [.int r_38]) (rest := []) ⟨hx, hb, hml, hown, hts⟩ (k_X4_isSmall l D cB cC cI cJ _ r_38) ⟨gcwB hts tw_524 tw_2 tw_522 hd_yX4_isSmall ⟨Nat.le_of_ble_eq_true rfl, Nat.le_of_ble_eq_true rfl⟩, hts _ tw_523⟩ (gpreS hPc hK hDc hN) rfl rfl hl.1 rfl (lv_room (Nat.le_of_ble_eq_true rfl)) dX4_goOn_80 ⟨Nat.le_of_ble_eq_true rfl, Nat.le_of_ble_eq_true rfl⟩) (fun r_45 u_44 H locs hw_46 hP hD hS => ?_)
              have hP : va_P D gcl [(a0, .inr (4, [.ref a1, .ref a2, .int x_1, .int r_38, .int x4, .int x5, .int x6, .int x7])), (a1, .inr (9, [.ref a3, .int x8])), (a3, .inl (cB, 1600, .inl f0))] H := hP
              have hD : va_D A [(a0, .inr (4, [.ref a1, .ref a2, .int x_1, .int r_38, .int x4, .int x5, .int x6, .int x7])), (a1, .inr (9, [.ref a3, .int x8])), (a3, .inl (cB, 1600, .inl f0))] := hD
              have hw_47 : ((r_45.toInt = 0 ∧ r_38.toInt < 97) ∨ (r_45.toInt = 0 ∧ r_38.toInt ≥ 97 ∧ r_38.toInt > 122) ∨ (r_45.toInt = 1 ∧ r_38.toInt ≥ 97 ∧ r_38.toInt ≤ 122)) := hw_46
              have rr_45 := n_rng r_45
              refine b_if_ne (pc := 83) (tgt := 96) hx hb rfl  dX4_goOn_83 (by decide) (fun c_48 => ?_) (fun c_48 => ?_)
              ·
                refine lv_aload_n (pc := 96) hx hb dX4_goOn_96 rfl (lv_at hl 0 rfl) ?_
                refine lv_iconst (pc := 97) (v := 0) hx hb dX4_goOn_97 (by decide) ?_
                refine va_put (pc := 98) (ci := 4) (v := .int 0) (ty := .int) (C := RX4) (T := TX4) (N := 8) hx hb hts iX4 tyX4 tyX4_ok nmX4 hown hK hP hD hS 0 rfl rfl 3 (by decide) (hts _ tw_171) (fun _ h9 => h9) rfl (by decide +kernel) (by decide +kernel) (by decide +kernel) (Nat.le_of_ble_eq_true rfl) dX4_goOn_98 (fun H locs hP hD hS => ?_)
                have hP : va_P D gcl [(a0, .inr (4, [.ref a1, .ref a2, .int x_1, .int 0, .int x4, .int x5, .int x6, .int x7])), (a1, .inr (9, [.ref a3, .int x8])), (a3, .inl (cB, 1600, .inl f0))] H := hP
                have hD : va_D A [(a0, .inr (4, [.ref a1, .ref a2, .int x_1, .int 0, .int x4, .int x5, .int x6, .int x7])), (a1, .inr (9, [.ref a3, .int x8])), (a3, .inl (cB, 1600, .inl f0))] := hD
                have k8_0 := tI_0
                exact hret ((fun _ => 0), (fun _ => (fun _ => 0)), (fun _ => (fun _ => 0)), (fun k => [x_1, 0].getD k 0), (fun _ => 0)) dX4_goOn_101 ⟨(show (0 ≤ (x_1 : Int32).toInt ∧ (x_1 : Int32).toInt ≤ 1600) from hi_2), (show ((-1) ≤ (0 : Int32).toInt ∧ (0 : Int32).toInt ≤ 255) from (n_c tI_0 (by decide))), (show x_1.toInt = skp (taub f0 x8.toInt) x0.toInt from (skp_at hi_3 (by unfold isBl; first | omega | (have q := taub_out (f := f0) (n := x8.toInt) (i := x_1.toInt) (by omega); omega)) (by omega)).symm), (show (0 : Int32).toInt = gsn (taub f0 x8.toInt) x0.toInt x_1.toInt x1.toInt from (by have q := gsn_g (t := (taub f0 x8.toInt)) (p := x0.toInt) (q := x_1.toInt) (nb := x1.toInt) (by omega) (by omega) (by unfold isSm isDg; omega); omega)), (show x0.toInt ≤ x_1.toInt from hi_3.1)⟩ (g_psub (wc := [(a0, .inr (4, [.ref a1, .ref a2, .int x_1, .int 0, .int x4, .int x5, .int x6, .int x7])), (a1, .inr (9, [.ref a3, .int x8])), (a3, .inl (cB, 1600, .inl f0))]) hP [0, 1, 2] rfl) (hD.sub (ws' := [(a0, .inr (4, [.ref a1, .ref a2, .int x_1, .int 0, .int x4, .int x5, .int x6, .int x7])), (a1, .inr (9, [.ref a3, .int x8])), (a3, .inl (cB, 1600, .inl f0))]) [0, 1, 2] (by decide) rfl) hS
              ·
                refine lv_aload_n (pc := 86) hx hb dX4_goOn_86 rfl (lv_at hl 0 rfl) ?_
                refine va_get (pc := 87) (ci := 4) (v := .int r_38) (C := RX4) (T := TX4) (N := 8) hx hb hts iX4 hown hK hP 0 rfl rfl 3 (by decide) (hts _ tw_171) (fun _ h9 => h9) rfl dX4_goOn_87 ?_
                refine gc_i (pc := 90) (wc := []) (wr := [(a0, .inr (4, [.ref a1, .ref a2, .int x_1, .int r_38, .int x4, .int x5, .int x6, .int x7])), (a1, .inr (9, [.ref a3, .int x8])), (a3, .inl (cB, 1600, .inl f0))]) hP hD hS hA [] [0, 1, 2] rfl rfl (by decide) (by decide) (by decide) (fun hPc hDc => va_runS (As := [.int r_38]) (rest := []) ⟨hx, hb, hml, hown, hts⟩ (k_X4_isDigit l D cB cC cI cJ _ r_38) ⟨gcwB hts tw_527 tw_2 tw_525 hd_yX4_isDigit ⟨Nat.le_of_ble_eq_true rfl, Nat.le_of_ble_eq_true rfl⟩, hts _ tw_526⟩ (gpreS hPc hK hDc hN) rfl rfl hl.1 rfl (lv_room (Nat.le_of_ble_eq_true rfl)) dX4_goOn_90 ⟨Nat.le_of_ble_eq_true rfl, Nat.le_of_ble_eq_true rfl⟩) (fun r_50 u_49 H locs hw_51 hP hD hS => ?_)
                have hP : va_P D gcl [(a0, .inr (4, [.ref a1, .ref a2, .int x_1, .int r_38, .int x4, .int x5, .int x6, .int x7])), (a1, .inr (9, [.ref a3, .int x8])), (a3, .inl (cB, 1600, .inl f0))] H := hP
                have hD : va_D A [(a0, .inr (4, [.ref a1, .ref a2, .int x_1, .int r_38, .int x4, .int x5, .int x6, .int x7])), (a1, .inr (9, [.ref a3, .int x8])), (a3, .inl (cB, 1600, .inl f0))] := hD
                have hw_52 : ((r_50.toInt = 0 ∧ r_38.toInt < 48) ∨ (r_50.toInt = 0 ∧ r_38.toInt ≥ 48 ∧ r_38.toInt > 57) ∨ (r_50.toInt = 1 ∧ r_38.toInt ≥ 48 ∧ r_38.toInt ≤ 57)) := hw_51
                have rr_50 := n_rng r_50
                refine b_if_eq (pc := 93) (tgt := 101) hx hb rfl  dX4_goOn_93 (by decide) (fun c_53 => ?_) (fun c_53 => ?_)
                ·
                  exact hret ((fun _ => 0), (fun _ => (fun _ => 0)), (fun _ => (fun _ => 0)), (fun k => [x_1, r_38].getD k 0), (fun _ => 0)) dX4_goOn_101 ⟨(show (0 ≤ (x_1 : Int32).toInt ∧ (x_1 : Int32).toInt ≤ 1600) from hi_2), (show ((-1) ≤ (r_38 : Int32).toInt ∧ (r_38 : Int32).toInt ≤ 255) by omega), (show x_1.toInt = skp (taub f0 x8.toInt) x0.toInt from (skp_at hi_3 (by unfold isBl; first | omega | (have q := taub_out (f := f0) (n := x8.toInt) (i := x_1.toInt) (by omega); omega)) (by omega)).symm), (show r_38.toInt = gsn (taub f0 x8.toInt) x0.toInt x_1.toInt x1.toInt from (by have q := gsn_t (t := (taub f0 x8.toInt)) (p := x0.toInt) (q := x_1.toInt) (nb := x1.toInt) (by unfold isSm isDg; omega); omega)), (show x0.toInt ≤ x_1.toInt from hi_3.1)⟩ (g_psub (wc := [(a0, .inr (4, [.ref a1, .ref a2, .int x_1, .int r_38, .int x4, .int x5, .int x6, .int x7])), (a1, .inr (9, [.ref a3, .int x8])), (a3, .inl (cB, 1600, .inl f0))]) hP [0, 1, 2] rfl) (hD.sub (ws' := [(a0, .inr (4, [.ref a1, .ref a2, .int x_1, .int r_38, .int x4, .int x5, .int x6, .int x7])), (a1, .inr (9, [.ref a3, .int x8])), (a3, .inl (cB, 1600, .inl f0))]) [0, 1, 2] (by decide) rfl) hS
                ·
                  refine lv_aload_n (pc := 96) hx hb dX4_goOn_96 rfl (lv_at hl 0 rfl) ?_
                  refine lv_iconst (pc := 97) (v := 0) hx hb dX4_goOn_97 (by decide) ?_
                  refine va_put (pc := 98) (ci := 4) (v := .int 0) (ty := .int) (C := RX4) (T := TX4) (N := 8) hx hb hts iX4 tyX4 tyX4_ok nmX4 hown hK hP hD hS 0 rfl rfl 3 (by decide) (hts _ tw_171) (fun _ h9 => h9) rfl (by decide +kernel) (by decide +kernel) (by decide +kernel) (Nat.le_of_ble_eq_true rfl) dX4_goOn_98 (fun H locs hP hD hS => ?_)
                  have hP : va_P D gcl [(a0, .inr (4, [.ref a1, .ref a2, .int x_1, .int 0, .int x4, .int x5, .int x6, .int x7])), (a1, .inr (9, [.ref a3, .int x8])), (a3, .inl (cB, 1600, .inl f0))] H := hP
                  have hD : va_D A [(a0, .inr (4, [.ref a1, .ref a2, .int x_1, .int 0, .int x4, .int x5, .int x6, .int x7])), (a1, .inr (9, [.ref a3, .int x8])), (a3, .inl (cB, 1600, .inl f0))] := hD
                  have k8_0 := tI_0
                  exact hret ((fun _ => 0), (fun _ => (fun _ => 0)), (fun _ => (fun _ => 0)), (fun k => [x_1, 0].getD k 0), (fun _ => 0)) dX4_goOn_101 ⟨(show (0 ≤ (x_1 : Int32).toInt ∧ (x_1 : Int32).toInt ≤ 1600) from hi_2), (show ((-1) ≤ (0 : Int32).toInt ∧ (0 : Int32).toInt ≤ 255) from (n_c tI_0 (by decide))), (show x_1.toInt = skp (taub f0 x8.toInt) x0.toInt from (skp_at hi_3 (by unfold isBl; first | omega | (have q := taub_out (f := f0) (n := x8.toInt) (i := x_1.toInt) (by omega); omega)) (by omega)).symm), (show (0 : Int32).toInt = gsn (taub f0 x8.toInt) x0.toInt x_1.toInt x1.toInt from (by have q := gsn_g (t := (taub f0 x8.toInt)) (p := x0.toInt) (q := x_1.toInt) (nb := x1.toInt) (by omega) (by omega) (by unfold isSm isDg; omega); omega)), (show x0.toInt ≤ x_1.toInt from hi_3.1)⟩ (g_psub (wc := [(a0, .inr (4, [.ref a1, .ref a2, .int x_1, .int 0, .int x4, .int x5, .int x6, .int x7])), (a1, .inr (9, [.ref a3, .int x8])), (a3, .inl (cB, 1600, .inl f0))]) hP [0, 1, 2] rfl) (hD.sub (ws' := [(a0, .inr (4, [.ref a1, .ref a2, .int x_1, .int 0, .int x4, .int x5, .int x6, .int x7])), (a1, .inr (9, [.ref a3, .int x8])), (a3, .inl (cB, 1600, .inl f0))]) [0, 1, 2] (by decide) rfl) hS
        ·
          refine lv_aload_n (pc := 36) hx hb dX4_goOn_36 rfl (lv_at hl 0 rfl) ?_
          refine lv_dup (pc := 37) hx hb dX4_goOn_37 rfl ?_
          refine va_get (pc := 38) (ci := 4) (v := .int x_1) (C := RX4) (T := TX4) (N := 8) hx hb hts iX4 hown hK hP 0 rfl rfl 2 (by decide) (hts _ tw_170) (fun _ h9 => h9) rfl dX4_goOn_38 ?_
          refine lv_iconst (pc := 41) (v := 1) hx hb dX4_goOn_41 (by decide) ?_
          refine b_iadd (pc := 42) hx hb rfl tI_1 (by omega) (by omega) dX4_goOn_42 (fun x_54 ex_54 => ?_)
          refine va_put (pc := 43) (ci := 4) (v := .int x_54) (ty := .int) (C := RX4) (T := TX4) (N := 8) hx hb hts iX4 tyX4 tyX4_ok nmX4 hown hK hP hD hS 0 rfl rfl 2 (by decide) (hts _ tw_170) (fun _ h9 => h9) rfl (by decide +kernel) rfl rfl (Nat.le_of_ble_eq_true rfl) dX4_goOn_43 (fun H locs hP hD hS => ?_)
          have hP : va_P D gcl [(a0, .inr (4, [.ref a1, .ref a2, .int x_54, .int x3, .int x4, .int x5, .int x6, .int x7])), (a1, .inr (9, [.ref a3, .int x8])), (a3, .inl (cB, 1600, .inl f0))] H := hP
          have hD : va_D A [(a0, .inr (4, [.ref a1, .ref a2, .int x_54, .int x3, .int x4, .int x5, .int x6, .int x7])), (a1, .inr (9, [.ref a3, .int x8])), (a3, .inl (cB, 1600, .inl f0))] := hD
          refine lv_goto (pc := 46) (tgt := 5) hx hb dX4_goOn_46 (by decide) ?_
          exact ih_lp_4 x_54 _ _ ls (by omega) (bls_up hi_3 (by unfold isBl; omega) (by omega)) (by omega) hP hD hS (lv_sub hl [0, 1, 2] rfl)
  exact lp_4 _ x0 _ _ ls hp1 (bls_nil) (Nat.lt_succ_self _) hP hD hS (lv_sub hl [0, 1, 2] rfl)
