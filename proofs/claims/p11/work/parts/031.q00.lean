theorem om_0 {a : Int} (h0 : (0 ≤ a)) : (0 ≤ a) := by omega
theorem om_1 {a : Int} (h0 : (a < 30)) : (a < (30 : Nat)) := by omega
theorem om_2 {a : Int} (h0 : (0 ≤ a)) : (-2147483648 ≤ a + 1) := by omega
theorem om_3 {a : Int} (h0 : (a < 30)) : (a + 1 ≤ 2147483647) := by omega
theorem om_4 {a b : Int} (h0 : (a = b + 1)) (h1 : (0 ≤ b)) (h2 : (b < 30)) : ((0 ≤ a ∧ a ≤ 2147483647)) := by omega
theorem om_5 {a b : Int} (h0 : (a = b + 1)) : (a = b + 1) := by omega
set_option maxHeartbeats 4000000 in
set_option maxRecDepth 100000 in
theorem k_J7_fill_53178_30_x (l : Launch) (D : va_G) (cB cC cI cJ : ClassId) (sz : Nat) (a0 : Nat) (x0 : Int32) (f0 : Nat → Int32) : Met l yJ7_fill_53178 (.code yJ7_fill_53178 cJ7_fill_53178 4 none :: lw_gd) ({ frames := 0, cells := 0, slots := 0, locals := 0 }) (gPre D [(cB, .byte), (cC, .char), (cI, .int), (cJ, .long)] [.ref a0, .int x0] [(a0, .inl (cI, 30, .inl f0))] sz) (va_Qv (fun u => (fillQ (u.2.1 0) x0 30)) (gB D (va_A [(a0, .inl (cI, 30, .inl f0))] sz) (fun u : gEx => [(a0, .inl (cI, 30, .inl (u.2.1 0)))])) (va_A [(a0, .inl (cI, 30, .inl f0))] sz)) 0 0 (va_A [(a0, .inl (cI, 30, .inl f0))] sz) := by
  refine gOf_v (by decide +kernel) (Nat.le_of_ble_eq_true rfl) ?_
  intro p e s m args below meth c ls A Q hx hb hts hown hml hN hK hP hD hA hl hret
  replace hown : s.vm.findClass RJ7 = some m.cls := hown
  have hS : va_S A s.heap s.heap [] := va_S.rf
  replace hP : va_P D gcl [(a0, .inl (cI, 30, .inl f0))] s.heap := hP
  replace hl : lv_has ls 4 [(0, .ref a0), (1, .int x0)] := hl
  have rx0 := n_rng x0
  refine lv_iconst (pc := 0) (v := 0) hx hb dJ7_fill_53178_0 (by decide) ?_
  refine lv_istore_n (pc := 1) (lv' := [(2, .int 0), (0, .ref a0), (1, .int x0)]) hx hb dJ7_fill_53178_1 rfl hl (by decide) rfl (fun ls hl => ?_)
  refine lv_aload_n (pc := 2) hx hb dJ7_fill_53178_2 rfl (lv_at hl 1 rfl) ?_
  refine va_alen (pc := 3) (v := 30) hx hb hK hP 0 2 rfl rfl rfl dJ7_fill_53178_3 ?_
  refine lv_istore_n (pc := 4) (lv' := [(3, .int 30), (2, .int 0), (0, .ref a0), (1, .int x0)]) hx hb dJ7_fill_53178_4 rfl hl (by decide) rfl (fun ls hl => ?_)
  have lp_5 : ∀ (n : Nat) (x_1 : Int32) (f_3 : Nat → Int32) (H : Heap) (locs : List Loc) (ls : Array Slot), (0 ≤ x_1.toInt ∧ x_1.toInt ≤ 2147483647) → (fillQ f_3 x0 x_1.toInt) → (2147483647 - x_1.toInt).toNat < n → va_P D gcl [(a0, .inl (cI, 30, .inl f_3))] H → va_D A [(a0, .inl (cI, 30, .inl f_3))] → va_S A s.heap H locs → lv_has ls 4 [(3, .int 30), (2, .int x_1), (0, .ref a0), (1, .int x0)] → W p l e ({ frames := 0, cells := 0, slots := 0, locals := 0 }) s m args below meth c H locs 0 0 Q (F0 m 5 ls []) := by
    intro n
    induction n with
    | zero => intro x_1 f_3 H locs ls hi_2 hi_4 hmu; exact absurd hmu (Nat.not_lt_zero _)
    | succ n ih_lp_5 =>
      intro x_1 f_3 H locs ls hi_2 hi_4 hmu_lp_5 hP hD hS hl
      refine lv_iload_n (pc := 5) hx hb dJ7_fill_53178_5 rfl (lv_at hl 1 rfl) ?_
      refine lv_iload_n (pc := 6) hx hb dJ7_fill_53178_6 rfl (lv_at hl 0 rfl) ?_
      refine b_icmp_ge (pc := 7) (tgt := 20) hx hb rfl tI_30  dJ7_fill_53178_7 (by decide) (fun c_6 => ?_) (fun c_6 => ?_)
      ·
        exact hret ((fun _ => 0), (fun k => [f_3].getD k (fun _ => 0)), (fun _ => (fun _ => 0)), (fun _ => 0), (fun _ => 0)) dJ7_fill_53178_20 (show fillQ f_3 x0 30 from (fun j hj => hi_4 j (by omega))) (g_psub (wc := [(a0, .inl (cI, 30, .inl f_3))]) hP [0] rfl) (hD.sub (ws' := [(a0, .inl (cI, 30, .inl f_3))]) [0] (by decide) rfl) hS
      ·
        refine lv_aload_n (pc := 10) hx hb dJ7_fill_53178_10 rfl (lv_at hl 2 rfl) ?_
        refine lv_iload_n (pc := 11) hx hb dJ7_fill_53178_11 rfl (lv_at hl 1 rfl) ?_
        refine lv_iload_n (pc := 12) hx hb dJ7_fill_53178_12 rfl (lv_at hl 3 rfl) ?_
        refine e_iastore (pc := 13) hx hb hK hP hD hS 0 2 rfl rfl (n_in rfl (by first | exact (om_0 hi_2.1) | (omega)) (by first | exact (om_1 c_6) | (omega))) dJ7_fill_53178_13 (fun f_7 ef_7 H locs hP hD hS => ?_)
        replace hP : va_P D gcl [(a0, .inl (cI, 30, .inl f_7))] H := hP
        replace hD : va_D A [(a0, .inl (cI, 30, .inl f_7))] := hD
        refine b_iinc (pc := 14) hx hb dJ7_fill_53178_14 hl (k := 1) rfl rfl tI_1 (by first | exact (om_2 hi_2.1) | (omega)) (by first | exact (om_3 c_6) | (omega)) (by decide) (fun x_8 ex_8 ls hl => ?_)
        replace hl : lv_has ls 4 [(2, .int x_8), (3, .int 30), (0, .ref a0), (1, .int x0)] := hl
        refine lv_goto (pc := 17) (tgt := 5) hx hb dJ7_fill_53178_17 (by decide) ?_
        exact ih_lp_5 x_8 f_7 _ _ ls (by first | exact (om_4 ex_8 hi_2.1 c_6) | (omega)) (fill_step hi_4 ef_7 rfl (by first | exact (om_0 hi_2.1) | (omega)) (by first | exact (om_5 ex_8) | (omega))) (by omega) hP hD hS (lv_sub hl [1, 0, 2, 3] rfl)
  exact lp_5 _ 0 f0 _ _ ls (n_c tI_0 (by decide)) (fun j hj => absurd hj (by have q := tI_0; omega)) (Nat.lt_succ_self _) hP hD hS (lv_sub hl [0, 1, 2, 3] rfl)
theorem om_6 : (30 ≤ 30) := by omega
set_option maxHeartbeats 4000000 in
set_option maxRecDepth 100000 in
theorem k_X8_clear_x (l : Launch) (D : va_G) (cB cC cI cJ : ClassId) (sz : Nat) (a0 a1 : Nat) (f0 : Nat → Int32) : Met l yX8_clear (.code yX8_clear cX8_clear 1 none :: lw_gd) ({ frames := 1, cells := 0, slots := 0, locals := 23 }) (gPre D [(cB, .byte), (cC, .char), (cI, .int), (cJ, .long)] [.ref a0] [(a0, .inr (8, [.ref a1])), (a1, .inl (cI, 30, .inl f0))] sz) (va_Qv (fun u => (TB (u.2.1 0) 99) ∧ (∀ j : Nat, j < 30 → (u.2.1 0) j = 0)) (gB D (va_A [(a0, .inr (8, [.ref a1])), (a1, .inl (cI, 30, .inl f0))] sz) (fun u : gEx => [(a0, .inr (8, [.ref a1])), (a1, .inl (cI, 30, .inl (u.2.1 0)))])) (va_A [(a0, .inr (8, [.ref a1])), (a1, .inl (cI, 30, .inl f0))] sz)) 0 0 (va_A [(a0, .inr (8, [.ref a1])), (a1, .inl (cI, 30, .inl f0))] sz) := by
  refine gOf_v (by decide +kernel) (Nat.le_of_ble_eq_true rfl) ?_
  intro p e s m args below meth c ls A Q hx hb hts hown hml hN hK hP hD hA hl hret
  replace hown : s.vm.findClass RX8 = some m.cls := hown
  have hS : va_S A s.heap s.heap [] := va_S.rf
  replace hP : va_P D gcl [(a0, .inr (8, [.ref a1])), (a1, .inl (cI, 30, .inl f0))] s.heap := hP
  replace hl : lv_has ls 1 [(0, .ref a0)] := hl
  refine lv_aload_n (pc := 0) hx hb dX8_clear_0 rfl (lv_at hl 0 rfl) ?_
  refine va_get (pc := 1) (ci := 8) (v := .ref a1) (C := RX8) (T := TX8) (N := 1) hx hb hts iX8 hown hK hP 0 rfl rfl 0 (by decide) (hts _ tw_62) (fun _ h9 => h9) rfl dX8_clear_1 ?_
  refine lv_iconst (pc := 4) (v := 0) hx hb dX8_clear_4 (by decide) ?_
  refine gd_v (pc := 5) (wc := [(a1, .inl (cI, 30, .inl f0))]) hP hD hS hA [1] rfl (by decide +kernel) (fun _ => by rfl) (fun hPc hDc => va_runS (As := [.ref a1, .int 0]) (rest := []) ⟨hx, hb, hml, hown, hts⟩ (k_J7_fill_53178_30_x l D cB cC cI cJ _ a1 0 f0) ⟨gcwB hts tw_505 tw_10 tw_503 hd_yJ7_fill_53178 ⟨Nat.le_of_ble_eq_true rfl, Nat.le_of_ble_eq_true rfl⟩, hts _ tw_504⟩ (gpreS hPc hK hDc hN) rfl rfl hl.1 rfl (lv_room (Nat.le_of_ble_eq_true rfl)) dX8_clear_5 ⟨Nat.le_of_ble_eq_true rfl, Nat.le_of_ble_eq_true rfl⟩) (fun u_1 H locs hw_3 hP hD hS => ?_)
  replace hP : va_P D gcl [(a0, .inr (8, [.ref a1])), (a1, .inl (cI, 30, .inl (u_1.2.1 0)))] H := hP
  replace hD : va_D A [(a0, .inr (8, [.ref a1])), (a1, .inl (cI, 30, .inl (u_1.2.1 0)))] := hD
  have hw_4 : (fillQ (u_1.2.1 0) (0 : Int32) 30) := hw_3
  have kk0_r_2 := tI_0
  exact hret ((fun _ => 0), (fun k => [(u_1.2.1 0)].getD k (fun _ => 0)), (fun _ => (fun _ => 0)), (fun _ => 0), (fun _ => 0)) dX8_clear_8 ⟨(show TB (u_1.2.1 0) 99 from fill_TB hw_4 (by first | exact (om_6) | (omega)) (by decide)), (show ∀ j : Nat, j < 30 → (u_1.2.1 0) j = 0 from fun j hj => hw_4 j (by omega))⟩ (g_psub (wc := [(a0, .inr (8, [.ref a1])), (a1, .inl (cI, 30, .inl (u_1.2.1 0)))]) hP [0, 1] rfl) (hD.sub (ws' := [(a0, .inr (8, [.ref a1])), (a1, .inl (cI, 30, .inl (u_1.2.1 0)))]) [0, 1] (by decide) rfl) hS
set_option maxHeartbeats 4000000 in
set_option maxRecDepth 100000 in
theorem k_X5_clear (l : Launch) (D : va_G) (cB cC cI cJ : ClassId) (sz : Nat) (a0 a1 a2 a3 a4 a5 : Nat) (x0 x1 : Int32) (h_x0 : (0 ≤ x0.toInt ∧ x0.toInt ≤ 1600)) (h_x1 : (0 ≤ x1.toInt ∧ x1.toInt ≤ 8)) : Met l yX5_clear (.code yX5_clear cX5_clear 1 none :: lw_gd) ({ frames := 0, cells := 0, slots := 0, locals := 0 }) (gPre D [(cB, .byte), (cC, .char), (cI, .int), (cJ, .long)] [.ref a0] [(a0, .inr (5, [.ref a1, .ref a2, .ref a3, .ref a4, .ref a5, .int x0, .int x1]))] sz) (va_Qv (fun u => True) (gB D (va_A [(a0, .inr (5, [.ref a1, .ref a2, .ref a3, .ref a4, .ref a5, .int x0, .int x1]))] sz) (fun u : gEx => [(a0, .inr (5, [.ref a1, .ref a2, .ref a3, .ref a4, .ref a5, .int 0, .int 0]))])) (va_A [(a0, .inr (5, [.ref a1, .ref a2, .ref a3, .ref a4, .ref a5, .int x0, .int x1]))] sz)) 0 0 (va_A [(a0, .inr (5, [.ref a1, .ref a2, .ref a3, .ref a4, .ref a5, .int x0, .int x1]))] sz) := by
  refine gOf_v (by decide +kernel) (Nat.le_of_ble_eq_true rfl) ?_
  intro p e s m args below meth c ls A Q hx hb hts hown hml hN hK hP hD hA hl hret
  replace hown : s.vm.findClass RX5 = some m.cls := hown
  have hS : va_S A s.heap s.heap [] := va_S.rf
  replace hP : va_P D gcl [(a0, .inr (5, [.ref a1, .ref a2, .ref a3, .ref a4, .ref a5, .int x0, .int x1]))] s.heap := hP
  replace hl : lv_has ls 1 [(0, .ref a0)] := hl
  refine lv_aload_n (pc := 0) hx hb dX5_clear_0 rfl (lv_at hl 0 rfl) ?_
  refine lv_iconst (pc := 1) (v := 0) hx hb dX5_clear_1 (by decide) ?_
  refine va_put (pc := 2) (ci := 5) (v := .int 0) (ty := .int) (C := RX5) (T := TX5) (N := 7) hx hb hts iX5 tyX5 tyX5_ok nmX5 hown hK hP hD hS 0 rfl rfl 5 (by decide) (hts _ tw_78) (fun _ h9 => h9) rfl (by decide +kernel) (by decide +kernel) (by decide +kernel) (Nat.le_of_ble_eq_true rfl) dX5_clear_2 (fun H locs hP hD hS => ?_)
  replace hP : va_P D gcl [(a0, .inr (5, [.ref a1, .ref a2, .ref a3, .ref a4, .ref a5, .int 0, .int x1]))] H := hP
  replace hD : va_D A [(a0, .inr (5, [.ref a1, .ref a2, .ref a3, .ref a4, .ref a5, .int 0, .int x1]))] := hD
  refine lv_aload_n (pc := 5) hx hb dX5_clear_5 rfl (lv_at hl 0 rfl) ?_
  refine lv_iconst (pc := 6) (v := 0) hx hb dX5_clear_6 (by decide) ?_
  refine va_put (pc := 7) (ci := 5) (v := .int 0) (ty := .int) (C := RX5) (T := TX5) (N := 7) hx hb hts iX5 tyX5 tyX5_ok nmX5 hown hK hP hD hS 0 rfl rfl 6 (by decide) (hts _ tw_79) (fun _ h9 => h9) rfl (by decide +kernel) (by decide +kernel) (by decide +kernel) (Nat.le_of_ble_eq_true rfl) dX5_clear_7 (fun H locs hP hD hS => ?_)
  replace hP : va_P D gcl [(a0, .inr (5, [.ref a1, .ref a2, .ref a3, .ref a4, .ref a5, .int 0, .int 0]))] H := hP
  replace hD : va_D A [(a0, .inr (5, [.ref a1, .ref a2, .ref a3, .ref a4, .ref a5, .int 0, .int 0]))] := hD
  exact hret ((fun _ => 0), (fun _ => (fun _ => 0)), (fun _ => (fun _ => 0)), (fun _ => 0), (fun _ => 0)) dX5_clear_10 trivial (g_psub (wc := [(a0, .inr (5, [.ref a1, .ref a2, .ref a3, .ref a4, .ref a5, .int 0, .int 0]))]) hP [0] rfl) (hD.sub (ws' := [(a0, .inr (5, [.ref a1, .ref a2, .ref a3, .ref a4, .ref a5, .int 0, .int 0]))]) [0] (by decide) rfl) hS
set_option maxHeartbeats 4000000 in
set_option maxRecDepth 100000 in
theorem k_X1_clear_x (l : Launch) (D : va_G) (cB cC cI cJ : ClassId) (sz : Nat) (a0 a1 a2 a3 a4 a5 a6 a7 a8 a9 : Nat) (x0 x1 x2 x3 x4 x5 x6 x7 x8 : Int32) (f0 : Nat → Int32) (h_x0 : ((-1) ≤ x0.toInt ∧ x0.toInt ≤ 8)) (h_x1 : ((-1) ≤ x1.toInt ∧ x1.toInt ≤ 5)) (h_x2 : ((-1) ≤ x2.toInt ∧ x2.toInt ≤ 6)) (h_x3 : (0 ≤ x3.toInt ∧ x3.toInt ≤ 6)) (h_x4 : (0 ≤ x4.toInt ∧ x4.toInt ≤ 16)) (h_x7 : (0 ≤ x7.toInt ∧ x7.toInt ≤ 1600)) (h_x8 : (0 ≤ x8.toInt ∧ x8.toInt ≤ 8)) : Met l yX1_clear (.code yX1_clear cX1_clear 1 none :: lw_gd) ({ frames := 2, cells := 0, slots := 0, locals := 43 }) (gPre D [(cB, .byte), (cC, .char), (cI, .int), (cJ, .long)] [.ref a0] [(a0, .inr (1, [.ref a1, .ref a2, .ref a3, .int x0, .int x1, .int x2, .int x3, .int x4, .int x5, .int x6])), (a1, .inr (8, [.ref a4])), (a4, .inl (cI, 30, .inl f0)), (a2, .inr (5, [.ref a5, .ref a6, .ref a7, .ref a8, .ref a9, .int x7, .int x8]))] sz) (va_Qv (fun u => (TB (u.2.1 0) 99) ∧ (∀ j : Nat, j < 30 → (u.2.1 0) j = 0)) (gB D (va_A [(a0, .inr (1, [.ref a1, .ref a2, .ref a3, .int x0, .int x1, .int x2, .int x3, .int x4, .int x5, .int x6])), (a1, .inr (8, [.ref a4])), (a4, .inl (cI, 30, .inl f0)), (a2, .inr (5, [.ref a5, .ref a6, .ref a7, .ref a8, .ref a9, .int x7, .int x8]))] sz) (fun u : gEx => [(a0, .inr (1, [.ref a1, .ref a2, .ref a3, .int 0, .int 0, .int 0, .int 0, .int 0, .int 9999, .int 0])), (a1, .inr (8, [.ref a4])), (a4, .inl (cI, 30, .inl (u.2.1 0))), (a2, .inr (5, [.ref a5, .ref a6, .ref a7, .ref a8, .ref a9, .int 0, .int 0]))])) (va_A [(a0, .inr (1, [.ref a1, .ref a2, .ref a3, .int x0, .int x1, .int x2, .int x3, .int x4, .int x5, .int x6])), (a1, .inr (8, [.ref a4])), (a4, .inl (cI, 30, .inl f0)), (a2, .inr (5, [.ref a5, .ref a6, .ref a7, .ref a8, .ref a9, .int x7, .int x8]))] sz)) 0 0 (va_A [(a0, .inr (1, [.ref a1, .ref a2, .ref a3, .int x0, .int x1, .int x2, .int x3, .int x4, .int x5, .int x6])), (a1, .inr (8, [.ref a4])), (a4, .inl (cI, 30, .inl f0)), (a2, .inr (5, [.ref a5, .ref a6, .ref a7, .ref a8, .ref a9, .int x7, .int x8]))] sz) := by
  refine gOf_v (by decide +kernel) (Nat.le_of_ble_eq_true rfl) ?_
  intro p e s m args below meth c ls A Q hx hb hts hown hml hN hK hP hD hA hl hret
  replace hown : s.vm.findClass RX1 = some m.cls := hown
  have hS : va_S A s.heap s.heap [] := va_S.rf
  replace hP : va_P D gcl [(a0, .inr (1, [.ref a1, .ref a2, .ref a3, .int x0, .int x1, .int x2, .int x3, .int x4, .int x5, .int x6])), (a1, .inr (8, [.ref a4])), (a4, .inl (cI, 30, .inl f0)), (a2, .inr (5, [.ref a5, .ref a6, .ref a7, .ref a8, .ref a9, .int x7, .int x8]))] s.heap := hP
  replace hl : lv_has ls 1 [(0, .ref a0)] := hl
  have rx5 := n_rng x5
  have rx6 := n_rng x6
  refine lv_aload_n (pc := 0) hx hb dX1_clear_0 rfl (lv_at hl 0 rfl) ?_
  refine va_get (pc := 1) (ci := 1) (v := .ref a1) (C := RX1) (T := TX1) (N := 10) hx hb hts iX1 hown hK hP 0 rfl rfl 0 (by decide) (hts _ tw_97) (fun _ h9 => h9) rfl dX1_clear_1 ?_
  refine gd_v (pc := 4) (wc := [(a1, .inr (8, [.ref a4])), (a4, .inl (cI, 30, .inl f0))]) hP hD hS hA [1, 2] rfl (by decide +kernel) (fun _ => by rfl) (fun hPc hDc => va_runV (As := []) (rest := []) ⟨hx, hb, hml, hown, hts⟩ (k_X8_clear_x l D cB cC cI cJ _ a1 a4 f0) ⟨gcwB hts tw_502 tw_5 tw_499 hd_yX8_clear ⟨Nat.le_of_ble_eq_true rfl, Nat.le_of_ble_eq_true rfl⟩, hts _ tw_500, hts _ tw_501⟩ ⟨gblind, va_recv hK hPc (ci := 8) (q0 := 0) rfl rfl, (gpreS hPc hK hDc hN).2⟩ rfl rfl hl.1 rfl (lv_room (Nat.le_of_ble_eq_true rfl)) dX1_clear_4 ⟨Nat.le_of_ble_eq_true rfl, Nat.le_of_ble_eq_true rfl⟩) (fun u_1 H locs hw_3 hP hD hS => ?_)
  replace hP : va_P D gcl [(a0, .inr (1, [.ref a1, .ref a2, .ref a3, .int x0, .int x1, .int x2, .int x3, .int x4, .int x5, .int x6])), (a1, .inr (8, [.ref a4])), (a4, .inl (cI, 30, .inl (u_1.2.1 0))), (a2, .inr (5, [.ref a5, .ref a6, .ref a7, .ref a8, .ref a9, .int x7, .int x8]))] H := hP
  replace hD : va_D A [(a0, .inr (1, [.ref a1, .ref a2, .ref a3, .int x0, .int x1, .int x2, .int x3, .int x4, .int x5, .int x6])), (a1, .inr (8, [.ref a4])), (a4, .inl (cI, 30, .inl (u_1.2.1 0))), (a2, .inr (5, [.ref a5, .ref a6, .ref a7, .ref a8, .ref a9, .int x7, .int x8]))] := hD
  obtain ⟨hw_4, hw_5⟩ := hw_3
  replace hw_4 : (TB (u_1.2.1 0) 99) := hw_4
  replace hw_5 : (∀ j : Nat, j < 30 → (u_1.2.1 0) j = 0) := hw_5
  refine lv_aload_n (pc := 7) hx hb dX1_clear_7 rfl (lv_at hl 0 rfl) ?_
  refine va_get (pc := 8) (ci := 1) (v := .ref a2) (C := RX1) (T := TX1) (N := 10) hx hb hts iX1 hown hK hP 0 rfl rfl 1 (by decide) (hts _ tw_105) (fun _ h9 => h9) rfl dX1_clear_8 ?_
  refine gd_v (pc := 11) (wc := [(a2, .inr (5, [.ref a5, .ref a6, .ref a7, .ref a8, .ref a9, .int x7, .int x8]))]) hP hD hS hA [3] rfl (by decide +kernel) (fun _ => by rfl) (fun hPc hDc => va_runV (As := []) (rest := []) ⟨hx, hb, hml, hown, hts⟩ (k_X5_clear l D cB cC cI cJ _ a2 a5 a6 a7 a8 a9 x7 x8 h_x7 h_x8) ⟨gcwB hts tw_509 tw_6 tw_506 hd_yX5_clear ⟨Nat.le_of_ble_eq_true rfl, Nat.le_of_ble_eq_true rfl⟩, hts _ tw_507, hts _ tw_508⟩ ⟨gblind, va_recv hK hPc (ci := 5) (q0 := 0) rfl rfl, (gpreS hPc hK hDc hN).2⟩ rfl rfl hl.1 rfl (lv_room (Nat.le_of_ble_eq_true rfl)) dX1_clear_11 ⟨Nat.le_of_ble_eq_true rfl, Nat.le_of_ble_eq_true rfl⟩) (fun u_6 H locs hw_8 hP hD hS => ?_)
  replace hP : va_P D gcl [(a0, .inr (1, [.ref a1, .ref a2, .ref a3, .int x0, .int x1, .int x2, .int x3, .int x4, .int x5, .int x6])), (a1, .inr (8, [.ref a4])), (a4, .inl (cI, 30, .inl (u_1.2.1 0))), (a2, .inr (5, [.ref a5, .ref a6, .ref a7, .ref a8, .ref a9, .int 0, .int 0]))] H := hP
  replace hD : va_D A [(a0, .inr (1, [.ref a1, .ref a2, .ref a3, .int x0, .int x1, .int x2, .int x3, .int x4, .int x5, .int x6])), (a1, .inr (8, [.ref a4])), (a4, .inl (cI, 30, .inl (u_1.2.1 0))), (a2, .inr (5, [.ref a5, .ref a6, .ref a7, .ref a8, .ref a9, .int 0, .int 0]))] := hD
  refine lv_aload_n (pc := 14) hx hb dX1_clear_14 rfl (lv_at hl 0 rfl) ?_
  refine lv_iconst (pc := 15) (v := 0) hx hb dX1_clear_15 (by decide) ?_
  refine va_put (pc := 16) (ci := 1) (v := .int 0) (ty := .int) (C := RX1) (T := TX1) (N := 10) hx hb hts iX1 tyX1 tyX1_ok nmX1 hown hK hP hD hS 0 rfl rfl 3 (by decide) (hts _ tw_110) (fun _ h9 => h9) rfl (by decide +kernel) (by decide +kernel) (by decide +kernel) (Nat.le_of_ble_eq_true rfl) dX1_clear_16 (fun H locs hP hD hS => ?_)
  replace hP : va_P D gcl [(a0, .inr (1, [.ref a1, .ref a2, .ref a3, .int 0, .int x1, .int x2, .int x3, .int x4, .int x5, .int x6])), (a1, .inr (8, [.ref a4])), (a4, .inl (cI, 30, .inl (u_1.2.1 0))), (a2, .inr (5, [.ref a5, .ref a6, .ref a7, .ref a8, .ref a9, .int 0, .int 0]))] H := hP
  replace hD : va_D A [(a0, .inr (1, [.ref a1, .ref a2, .ref a3, .int 0, .int x1, .int x2, .int x3, .int x4, .int x5, .int x6])), (a1, .inr (8, [.ref a4])), (a4, .inl (cI, 30, .inl (u_1.2.1 0))), (a2, .inr (5, [.ref a5, .ref a6, .ref a7, .ref a8, .ref a9, .int 0, .int 0]))] := hD
  refine lv_aload_n (pc := 19) hx hb dX1_clear_19 rfl (lv_at hl 0 rfl) ?_
  refine lv_iconst (pc := 20) (v := 0) hx hb dX1_clear_20 (by decide) ?_
  refine va_put (pc := 21) (ci := 1) (v := .int 0) (ty := .int) (C := RX1) (T := TX1) (N := 10) hx hb hts iX1 tyX1 tyX1_ok nmX1 hown hK hP hD hS 0 rfl rfl 4 (by decide) (hts _ tw_116) (fun _ h9 => h9) rfl (by decide +kernel) (by decide +kernel) (by decide +kernel) (Nat.le_of_ble_eq_true rfl) dX1_clear_21 (fun H locs hP hD hS => ?_)
  replace hP : va_P D gcl [(a0, .inr (1, [.ref a1, .ref a2, .ref a3, .int 0, .int 0, .int x2, .int x3, .int x4, .int x5, .int x6])), (a1, .inr (8, [.ref a4])), (a4, .inl (cI, 30, .inl (u_1.2.1 0))), (a2, .inr (5, [.ref a5, .ref a6, .ref a7, .ref a8, .ref a9, .int 0, .int 0]))] H := hP
  replace hD : va_D A [(a0, .inr (1, [.ref a1, .ref a2, .ref a3, .int 0, .int 0, .int x2, .int x3, .int x4, .int x5, .int x6])), (a1, .inr (8, [.ref a4])), (a4, .inl (cI, 30, .inl (u_1.2.1 0))), (a2, .inr (5, [.ref a5, .ref a6, .ref a7, .ref a8, .ref a9, .int 0, .int 0]))] := hD
  refine lv_aload_n (pc := 24) hx hb dX1_clear_24 rfl (lv_at hl 0 rfl) ?_
  refine lv_iconst (pc := 25) (v := 0) hx hb dX1_clear_25 (by decide) ?_
  refine va_put (pc := 26) (ci := 1) (v := .int 0) (ty := .int) (C := RX1) (T := TX1) (N := 10) hx hb hts iX1 tyX1 tyX1_ok nmX1 hown hK hP hD hS 0 rfl rfl 5 (by decide) (hts _ tw_125) (fun _ h9 => h9) rfl (by decide +kernel) (by decide +kernel) (by decide +kernel) (Nat.le_of_ble_eq_true rfl) dX1_clear_26 (fun H locs hP hD hS => ?_)
  replace hP : va_P D gcl [(a0, .inr (1, [.ref a1, .ref a2, .ref a3, .int 0, .int 0, .int 0, .int x3, .int x4, .int x5, .int x6])), (a1, .inr (8, [.ref a4])), (a4, .inl (cI, 30, .inl (u_1.2.1 0))), (a2, .inr (5, [.ref a5, .ref a6, .ref a7, .ref a8, .ref a9, .int 0, .int 0]))] H := hP
  replace hD : va_D A [(a0, .inr (1, [.ref a1, .ref a2, .ref a3, .int 0, .int 0, .int 0, .int x3, .int x4, .int x5, .int x6])), (a1, .inr (8, [.ref a4])), (a4, .inl (cI, 30, .inl (u_1.2.1 0))), (a2, .inr (5, [.ref a5, .ref a6, .ref a7, .ref a8, .ref a9, .int 0, .int 0]))] := hD
  refine lv_aload_n (pc := 29) hx hb dX1_clear_29 rfl (lv_at hl 0 rfl) ?_
  refine lv_iconst (pc := 30) (v := 0) hx hb dX1_clear_30 (by decide) ?_
  refine va_put (pc := 31) (ci := 1) (v := .int 0) (ty := .int) (C := RX1) (T := TX1) (N := 10) hx hb hts iX1 tyX1 tyX1_ok nmX1 hown hK hP hD hS 0 rfl rfl 6 (by decide) (hts _ tw_132) (fun _ h9 => h9) rfl (by decide +kernel) (by decide +kernel) (by decide +kernel) (Nat.le_of_ble_eq_true rfl) dX1_clear_31 (fun H locs hP hD hS => ?_)
  replace hP : va_P D gcl [(a0, .inr (1, [.ref a1, .ref a2, .ref a3, .int 0, .int 0, .int 0, .int 0, .int x4, .int x5, .int x6])), (a1, .inr (8, [.ref a4])), (a4, .inl (cI, 30, .inl (u_1.2.1 0))), (a2, .inr (5, [.ref a5, .ref a6, .ref a7, .ref a8, .ref a9, .int 0, .int 0]))] H := hP
  replace hD : va_D A [(a0, .inr (1, [.ref a1, .ref a2, .ref a3, .int 0, .int 0, .int 0, .int 0, .int x4, .int x5, .int x6])), (a1, .inr (8, [.ref a4])), (a4, .inl (cI, 30, .inl (u_1.2.1 0))), (a2, .inr (5, [.ref a5, .ref a6, .ref a7, .ref a8, .ref a9, .int 0, .int 0]))] := hD
  refine lv_aload_n (pc := 34) hx hb dX1_clear_34 rfl (lv_at hl 0 rfl) ?_
  refine lv_iconst (pc := 35) (v := 0) hx hb dX1_clear_35 (by decide) ?_
  refine va_put (pc := 36) (ci := 1) (v := .int 0) (ty := .int) (C := RX1) (T := TX1) (N := 10) hx hb hts iX1 tyX1 tyX1_ok nmX1 hown hK hP hD hS 0 rfl rfl 7 (by decide) (hts _ tw_135) (fun _ h9 => h9) rfl (by decide +kernel) (by decide +kernel) (by decide +kernel) (Nat.le_of_ble_eq_true rfl) dX1_clear_36 (fun H locs hP hD hS => ?_)
  replace hP : va_P D gcl [(a0, .inr (1, [.ref a1, .ref a2, .ref a3, .int 0, .int 0, .int 0, .int 0, .int 0, .int x5, .int x6])), (a1, .inr (8, [.ref a4])), (a4, .inl (cI, 30, .inl (u_1.2.1 0))), (a2, .inr (5, [.ref a5, .ref a6, .ref a7, .ref a8, .ref a9, .int 0, .int 0]))] H := hP
  replace hD : va_D A [(a0, .inr (1, [.ref a1, .ref a2, .ref a3, .int 0, .int 0, .int 0, .int 0, .int 0, .int x5, .int x6])), (a1, .inr (8, [.ref a4])), (a4, .inl (cI, 30, .inl (u_1.2.1 0))), (a2, .inr (5, [.ref a5, .ref a6, .ref a7, .ref a8, .ref a9, .int 0, .int 0]))] := hD
  refine lv_aload_n (pc := 39) hx hb dX1_clear_39 rfl (lv_at hl 0 rfl) ?_
  refine lv_sipush (pc := 40) (v := 9999) hx hb dX1_clear_40 (by decide) ?_
  refine va_put (pc := 43) (ci := 1) (v := .int 9999) (ty := .int) (C := RX1) (T := TX1) (N := 10) hx hb hts iX1 tyX1 tyX1_ok nmX1 hown hK hP hD hS 0 rfl rfl 8 (by decide) (hts _ tw_139) (fun _ h9 => h9) rfl (by decide +kernel) (by decide +kernel) (by decide +kernel) (Nat.le_of_ble_eq_true rfl) dX1_clear_43 (fun H locs hP hD hS => ?_)
  replace hP : va_P D gcl [(a0, .inr (1, [.ref a1, .ref a2, .ref a3, .int 0, .int 0, .int 0, .int 0, .int 0, .int 9999, .int x6])), (a1, .inr (8, [.ref a4])), (a4, .inl (cI, 30, .inl (u_1.2.1 0))), (a2, .inr (5, [.ref a5, .ref a6, .ref a7, .ref a8, .ref a9, .int 0, .int 0]))] H := hP
  replace hD : va_D A [(a0, .inr (1, [.ref a1, .ref a2, .ref a3, .int 0, .int 0, .int 0, .int 0, .int 0, .int 9999, .int x6])), (a1, .inr (8, [.ref a4])), (a4, .inl (cI, 30, .inl (u_1.2.1 0))), (a2, .inr (5, [.ref a5, .ref a6, .ref a7, .ref a8, .ref a9, .int 0, .int 0]))] := hD
  refine lv_aload_n (pc := 46) hx hb dX1_clear_46 rfl (lv_at hl 0 rfl) ?_
  refine lv_iconst (pc := 47) (v := 0) hx hb dX1_clear_47 (by decide) ?_
  refine va_put (pc := 48) (ci := 1) (v := .int 0) (ty := .int) (C := RX1) (T := TX1) (N := 10) hx hb hts iX1 tyX1 tyX1_ok nmX1 hown hK hP hD hS 0 rfl rfl 9 (by decide) (hts _ tw_143) (fun _ h9 => h9) rfl (by decide +kernel) (by decide +kernel) (by decide +kernel) (Nat.le_of_ble_eq_true rfl) dX1_clear_48 (fun H locs hP hD hS => ?_)
  replace hP : va_P D gcl [(a0, .inr (1, [.ref a1, .ref a2, .ref a3, .int 0, .int 0, .int 0, .int 0, .int 0, .int 9999, .int 0])), (a1, .inr (8, [.ref a4])), (a4, .inl (cI, 30, .inl (u_1.2.1 0))), (a2, .inr (5, [.ref a5, .ref a6, .ref a7, .ref a8, .ref a9, .int 0, .int 0]))] H := hP
  replace hD : va_D A [(a0, .inr (1, [.ref a1, .ref a2, .ref a3, .int 0, .int 0, .int 0, .int 0, .int 0, .int 9999, .int 0])), (a1, .inr (8, [.ref a4])), (a4, .inl (cI, 30, .inl (u_1.2.1 0))), (a2, .inr (5, [.ref a5, .ref a6, .ref a7, .ref a8, .ref a9, .int 0, .int 0]))] := hD
  exact hret ((fun _ => 0), (fun k => [(u_1.2.1 0)].getD k (fun _ => 0)), (fun _ => (fun _ => 0)), (fun _ => 0), (fun _ => 0)) dX1_clear_51 ⟨(show TB (u_1.2.1 0) 99 from hw_4), (show ∀ j : Nat, j < 30 → (u_1.2.1 0) j = 0 from hw_5)⟩ (g_psub (wc := [(a0, .inr (1, [.ref a1, .ref a2, .ref a3, .int 0, .int 0, .int 0, .int 0, .int 0, .int 9999, .int 0])), (a1, .inr (8, [.ref a4])), (a4, .inl (cI, 30, .inl (u_1.2.1 0))), (a2, .inr (5, [.ref a5, .ref a6, .ref a7, .ref a8, .ref a9, .int 0, .int 0]))]) hP [0, 1, 2, 3] rfl) (hD.sub (ws' := [(a0, .inr (1, [.ref a1, .ref a2, .ref a3, .int 0, .int 0, .int 0, .int 0, .int 0, .int 9999, .int 0])), (a1, .inr (8, [.ref a4])), (a4, .inl (cI, 30, .inl (u_1.2.1 0))), (a2, .inr (5, [.ref a5, .ref a6, .ref a7, .ref a8, .ref a9, .int 0, .int 0]))]) [0, 1, 2, 3] (by decide) rfl) hS
theorem om_7 {a : Int} : (((a = a))) := by omega
set_option maxHeartbeats 4000000 in
set_option maxRecDepth 100000 in
theorem k_X9_length (l : Launch) (D : va_G) (cB cC cI cJ : ClassId) (sz : Nat) (a0 a1 : Nat) (x0 : Int32) (h_x0 : (0 ≤ x0.toInt ∧ x0.toInt ≤ 1600)) : Met l yX9_length (.code yX9_length cX9_length 1 (some .int) :: lw_gd) ({ frames := 0, cells := 0, slots := 0, locals := 0 }) (gPre D [(cB, .byte), (cC, .char), (cI, .int), (cJ, .long)] [.ref a0] [(a0, .inr (9, [.ref a1, .int x0]))] sz) (va_Qi (fun r u => ((r.toInt = x0.toInt))) (gB D (va_A [(a0, .inr (9, [.ref a1, .int x0]))] sz) (fun u : gEx => [(a0, .inr (9, [.ref a1, .int x0]))])) (va_A [(a0, .inr (9, [.ref a1, .int x0]))] sz)) 0 0 (va_A [(a0, .inr (9, [.ref a1, .int x0]))] sz) := by
  refine gOf_i (by decide +kernel) (Nat.le_of_ble_eq_true rfl) ?_
  intro p e s m args below meth c ls A Q hx hb hts hown hml hN hK hP hD hA hl hret
  replace hown : s.vm.findClass RX9 = some m.cls := hown
  have hS : va_S A s.heap s.heap [] := va_S.rf
  replace hP : va_P D gcl [(a0, .inr (9, [.ref a1, .int x0]))] s.heap := hP
  replace hl : lv_has ls 1 [(0, .ref a0)] := hl
  refine lv_aload_n (pc := 0) hx hb dX9_length_0 rfl (lv_at hl 0 rfl) ?_
  refine va_get (pc := 1) (ci := 9) (v := .int x0) (C := RX9) (T := TX9) (N := 2) hx hb hts iX9 hown hK hP 0 rfl rfl 1 (by decide) (hts _ tw_43) (fun _ h9 => h9) rfl dX9_length_1 ?_
  exact hret x0 ((fun _ => 0), (fun _ => (fun _ => 0)), (fun _ => (fun _ => 0)), (fun _ => 0), (fun _ => 0)) dX9_length_4 (show ((x0.toInt = x0.toInt)) from (by first | exact (om_7) | (omega))) (g_psub (wc := [(a0, .inr (9, [.ref a1, .int x0]))]) hP [0] rfl) (hD.sub (ws' := [(a0, .inr (9, [.ref a1, .int x0]))]) [0] (by decide) rfl) hS
theorem om_8 {a b c : Int} (h0 : (a = (-1))) (h1 : (b < 0)) : (((a = (-1) ∧ b < 0) ∨ (a = (-1) ∧ b ≥ 0 ∧ b ≥ c) ∨ ((0 ≤ a ∧ a ≤ 255) ∧ b ≥ 0 ∧ b < c))) := by omega
theorem om_9 {a b c : Int} (h0 : (a = (-1))) (h1 : (b ≥ c)) : (((a = (-1) ∧ b < 0) ∨ (a = (-1) ∧ b ≥ 0 ∧ b ≥ c) ∨ ((0 ≤ a ∧ a ≤ 255) ∧ b ≥ 0 ∧ b < c))) := by omega
theorem om_10 {a : Int} (h0 : (a ≥ 0)) : (0 ≤ a) := by omega
theorem om_11 {a b : Int} (h0 : (a < b)) (h1 : (b ≤ 1600)) : (a < (1600 : Nat)) := by omega
set_option maxHeartbeats 4000000 in
set_option maxRecDepth 100000 in
theorem k_X9_at_E (l : Launch) (D : va_G) (cB cC cI cJ : ClassId) (sz : Nat) (a0 a1 : Nat) (x0 x1 : Int32) (f0 : Nat → Int32) (h_x1 : (0 ≤ x1.toInt ∧ x1.toInt ≤ 1600)) : Met l yX9_at (.code yX9_at cX9_at 2 (some .int) :: lw_gd) ({ frames := 0, cells := 0, slots := 0, locals := 0 }) (gPre D [(cB, .byte), (cC, .char), (cI, .int), (cJ, .long)] [.ref a0, .int x0] [(a0, .inr (9, [.ref a1, .int x1])), (a1, .inl (cB, 1600, .inl f0))] sz) (va_Qi (fun r u => ((r.toInt = (-1) ∧ x0.toInt < 0) ∨ (r.toInt = (-1) ∧ x0.toInt ≥ 0 ∧ x0.toInt ≥ x1.toInt) ∨ ((0 ≤ r.toInt ∧ r.toInt ≤ 255) ∧ x0.toInt ≥ 0 ∧ x0.toInt < x1.toInt)) ∧ (r.toInt = taub f0 x1.toInt x0.toInt)) (gB D (va_A [(a0, .inr (9, [.ref a1, .int x1])), (a1, .inl (cB, 1600, .inl f0))] sz) (fun u : gEx => [(a0, .inr (9, [.ref a1, .int x1])), (a1, .inl (cB, 1600, .inl f0))])) (va_A [(a0, .inr (9, [.ref a1, .int x1])), (a1, .inl (cB, 1600, .inl f0))] sz)) 0 0 (va_A [(a0, .inr (9, [.ref a1, .int x1])), (a1, .inl (cB, 1600, .inl f0))] sz) := by
  refine gOf_i (by decide +kernel) (Nat.le_of_ble_eq_true rfl) ?_
  intro p e s m args below meth c ls A Q hx hb hts hown hml hN hK hP hD hA hl hret
  replace hown : s.vm.findClass RX9 = some m.cls := hown
  have hS : va_S A s.heap s.heap [] := va_S.rf
  replace hP : va_P D gcl [(a0, .inr (9, [.ref a1, .int x1])), (a1, .inl (cB, 1600, .inl f0))] s.heap := hP
  replace hl : lv_has ls 2 [(0, .ref a0), (1, .int x0)] := hl
  have rx0 := n_rng x0
  refine lv_iload_n (pc := 0) hx hb dX9_at_0 rfl (lv_at hl 1 rfl) ?_
  refine b_if_lt (pc := 1) (tgt := 25) hx hb rfl  dX9_at_1 (by decide) (fun c_1 => ?_) (fun c_1 => ?_)
  ·
    refine lv_iconst (pc := 25) (v := (-1)) hx hb dX9_at_25 (by decide) ?_
    have k9 := tI_m1
    exact hret (-1) ((fun _ => 0), (fun _ => (fun _ => 0)), (fun _ => (fun _ => 0)), (fun _ => 0), (fun _ => 0)) dX9_at_26 ⟨(show ((((-1) : Int32).toInt = (-1) ∧ x0.toInt < 0) ∨ (((-1) : Int32).toInt = (-1) ∧ x0.toInt ≥ 0 ∧ x0.toInt ≥ x1.toInt) ∨ ((0 ≤ ((-1) : Int32).toInt ∧ ((-1) : Int32).toInt ≤ 255) ∧ x0.toInt ≥ 0 ∧ x0.toInt < x1.toInt)) from (by first | exact (om_8 tI_m1 c_1) | (have k9 := tI_m1; omega))), (show ((-1) : Int32).toInt = taub f0 x1.toInt x0.toInt from (by have q := taub_out (f := f0) (n := x1.toInt) (i := x0.toInt) (by omega); omega))⟩ (g_psub (wc := [(a0, .inr (9, [.ref a1, .int x1])), (a1, .inl (cB, 1600, .inl f0))]) hP [0, 1] rfl) (hD.sub (ws' := [(a0, .inr (9, [.ref a1, .int x1])), (a1, .inl (cB, 1600, .inl f0))]) [0, 1] (by decide) rfl) hS
  ·
    refine lv_iload_n (pc := 4) hx hb dX9_at_4 rfl (lv_at hl 1 rfl) ?_
    refine lv_aload_n (pc := 5) hx hb dX9_at_5 rfl (lv_at hl 0 rfl) ?_
    refine va_get (pc := 6) (ci := 9) (v := .int x1) (C := RX9) (T := TX9) (N := 2) hx hb hts iX9 hown hK hP 0 rfl rfl 1 (by decide) (hts _ tw_43) (fun _ h9 => h9) rfl dX9_at_6 ?_
    refine b_icmp_ge (pc := 9) (tgt := 25) hx hb rfl rfl  dX9_at_9 (by decide) (fun c_2 => ?_) (fun c_2 => ?_)
    ·
      refine lv_iconst (pc := 25) (v := (-1)) hx hb dX9_at_25 (by decide) ?_
      have k9 := tI_m1
      exact hret (-1) ((fun _ => 0), (fun _ => (fun _ => 0)), (fun _ => (fun _ => 0)), (fun _ => 0), (fun _ => 0)) dX9_at_26 ⟨(show ((((-1) : Int32).toInt = (-1) ∧ x0.toInt < 0) ∨ (((-1) : Int32).toInt = (-1) ∧ x0.toInt ≥ 0 ∧ x0.toInt ≥ x1.toInt) ∨ ((0 ≤ ((-1) : Int32).toInt ∧ ((-1) : Int32).toInt ≤ 255) ∧ x0.toInt ≥ 0 ∧ x0.toInt < x1.toInt)) from (by first | exact (om_9 tI_m1 c_2) | (have k9 := tI_m1; omega))), (show ((-1) : Int32).toInt = taub f0 x1.toInt x0.toInt from (by have q := taub_out (f := f0) (n := x1.toInt) (i := x0.toInt) (by omega); omega))⟩ (g_psub (wc := [(a0, .inr (9, [.ref a1, .int x1])), (a1, .inl (cB, 1600, .inl f0))]) hP [0, 1] rfl) (hD.sub (ws' := [(a0, .inr (9, [.ref a1, .int x1])), (a1, .inl (cB, 1600, .inl f0))]) [0, 1] (by decide) rfl) hS
    ·
      refine lv_aload_n (pc := 12) hx hb dX9_at_12 rfl (lv_at hl 0 rfl) ?_
      refine va_get (pc := 13) (ci := 9) (v := .ref a1) (C := RX9) (T := TX9) (N := 2) hx hb hts iX9 hown hK hP 0 rfl rfl 0 (by decide) (hts _ tw_42) (fun _ h9 => h9) rfl dX9_at_13 ?_
      refine lv_iload_n (pc := 16) hx hb dX9_at_16 rfl (lv_at hl 1 rfl) ?_
      refine va_bald (pc := 17) hx hb hK hP 1 0 rfl rfl (n_in rfl (by first | exact (om_10 c_1) | (omega)) (by first | exact (om_11 c_2 h_x1.2) | (omega))) dX9_at_17 ?_
      refine lv_topi (fun x_3 ex_3 => ?_)
      have rx_3 := n_rng x_3
      replace ex_3 : x_3 = f0 (x0.toInt).toNat := ex_3
      have tx_3 := congrArg Int32.toInt ex_3
      refine lv_sipush (pc := 18) (v := 255) hx hb dX9_at_18 (by decide) ?_
      refine lv_iand (pc := 21) hx hb dX9_at_21 ?_
      refine lv_topi (fun x_4 ex_4 => ?_)
      have tx_4 := and255 ex_4
      refine lv_goto (pc := 22) (tgt := 26) hx hb dX9_at_22 (by decide) ?_
      exact hret x_4 ((fun _ => 0), (fun _ => (fun _ => 0)), (fun _ => (fun _ => 0)), (fun _ => 0), (fun _ => 0)) dX9_at_26 ⟨(show ((x_4.toInt = (-1) ∧ x0.toInt < 0) ∨ (x_4.toInt = (-1) ∧ x0.toInt ≥ 0 ∧ x0.toInt ≥ x1.toInt) ∨ ((0 ≤ x_4.toInt ∧ x_4.toInt ≤ 255) ∧ x0.toInt ≥ 0 ∧ x0.toInt < x1.toInt)) from (by omega)), (show x_4.toInt = taub f0 x1.toInt x0.toInt from (by have q := taub_in (f := f0) (n := x1.toInt) (i := x0.toInt) (by omega) (by omega); omega))⟩ (g_psub (wc := [(a0, .inr (9, [.ref a1, .int x1])), (a1, .inl (cB, 1600, .inl f0))]) hP [0, 1] rfl) (hD.sub (ws' := [(a0, .inr (9, [.ref a1, .int x1])), (a1, .inl (cB, 1600, .inl f0))]) [0, 1] (by decide) rfl) hS
theorem om_12 {a b : Int} (h0 : (a = 0)) (h1 : (b < 97)) : (((a = 0 ∧ b < 97) ∨ (a = 0 ∧ b ≥ 97 ∧ b > 122) ∨ (a = 1 ∧ b ≥ 97 ∧ b ≤ 122))) := by omega
theorem om_13 {a b : Int} (h0 : (a = 0)) (h1 : (b > 122)) : (((a = 0 ∧ b < 97) ∨ (a = 0 ∧ b ≥ 97 ∧ b > 122) ∨ (a = 1 ∧ b ≥ 97 ∧ b ≤ 122))) := by omega
theorem om_14 {a b : Int} (h0 : (a = 1)) (h1 : (b ≥ 97)) (h2 : (b ≤ 122)) : (((a = 0 ∧ b < 97) ∨ (a = 0 ∧ b ≥ 97 ∧ b > 122) ∨ (a = 1 ∧ b ≥ 97 ∧ b ≤ 122))) := by omega
set_option maxHeartbeats 4000000 in
set_option maxRecDepth 100000 in
theorem k_X4_isSmall (l : Launch) (D : va_G) (cB cC cI cJ : ClassId) (sz : Nat) (x0 : Int32) : Met l yX4_isSmall (.code yX4_isSmall cX4_isSmall 1 (some .boolean) :: lw_gd) ({ frames := 0, cells := 0, slots := 0, locals := 0 }) (gPre D [(cB, .byte), (cC, .char), (cI, .int), (cJ, .long)] [.int x0] [] sz) (va_Qi (fun r u => ((r.toInt = 0 ∧ x0.toInt < 97) ∨ (r.toInt = 0 ∧ x0.toInt ≥ 97 ∧ x0.toInt > 122) ∨ (r.toInt = 1 ∧ x0.toInt ≥ 97 ∧ x0.toInt ≤ 122))) (gB D (va_A [] sz) (fun u : gEx => [])) (va_A [] sz)) 0 0 (va_A [] sz) := by
  refine gOf_z (by decide +kernel) (Nat.le_of_ble_eq_true rfl) ?_
  intro p e s m args below meth c ls A Q hx hb hts hown hml hN hK hP hD hA hl hret
  replace hown : s.vm.findClass RX4 = some m.cls := hown
  have hS : va_S A s.heap s.heap [] := va_S.rf
  replace hP : va_P D gcl [] s.heap := hP
  replace hl : lv_has ls 1 [(0, .int x0)] := hl
  have rx0 := n_rng x0
  refine lv_iload_n (pc := 0) hx hb dX4_isSmall_0 rfl (lv_at hl 0 rfl) ?_
  refine lv_bipush (pc := 1) (v := 97) hx hb dX4_isSmall_1 (by decide) ?_
  refine b_icmp_lt (pc := 3) (tgt := 16) hx hb rfl tI_97  dX4_isSmall_3 (by decide) (fun c_1 => ?_) (fun c_1 => ?_)
  ·
    refine lv_iconst (pc := 16) (v := 0) hx hb dX4_isSmall_16 (by decide) ?_
    exact hret 0 ((fun _ => 0), (fun _ => (fun _ => 0)), (fun _ => (fun _ => 0)), (fun _ => 0), (fun _ => 0)) dX4_isSmall_17 ⟨(Or.inl tI_0), (show (((0 : Int32).toInt = 0 ∧ x0.toInt < 97) ∨ ((0 : Int32).toInt = 0 ∧ x0.toInt ≥ 97 ∧ x0.toInt > 122) ∨ ((0 : Int32).toInt = 1 ∧ x0.toInt ≥ 97 ∧ x0.toInt ≤ 122)) from (by first | exact (om_12 tI_0 c_1) | (have k9 := tI_0; omega)))⟩ (g_psub (wc := []) hP [] rfl) (hD.sub (ws' := []) [] (by decide) rfl) hS
  ·
    refine lv_iload_n (pc := 6) hx hb dX4_isSmall_6 rfl (lv_at hl 0 rfl) ?_
    refine lv_bipush (pc := 7) (v := 122) hx hb dX4_isSmall_7 (by decide) ?_
    refine b_icmp_gt (pc := 9) (tgt := 16) hx hb rfl tI_122  dX4_isSmall_9 (by decide) (fun c_2 => ?_) (fun c_2 => ?_)
    ·
      refine lv_iconst (pc := 16) (v := 0) hx hb dX4_isSmall_16 (by decide) ?_
      exact hret 0 ((fun _ => 0), (fun _ => (fun _ => 0)), (fun _ => (fun _ => 0)), (fun _ => 0), (fun _ => 0)) dX4_isSmall_17 ⟨(Or.inl tI_0), (show (((0 : Int32).toInt = 0 ∧ x0.toInt < 97) ∨ ((0 : Int32).toInt = 0 ∧ x0.toInt ≥ 97 ∧ x0.toInt > 122) ∨ ((0 : Int32).toInt = 1 ∧ x0.toInt ≥ 97 ∧ x0.toInt ≤ 122)) from (by first | exact (om_13 tI_0 c_2) | (have k9 := tI_0; omega)))⟩ (g_psub (wc := []) hP [] rfl) (hD.sub (ws' := []) [] (by decide) rfl) hS
    ·
      refine lv_iconst (pc := 12) (v := 1) hx hb dX4_isSmall_12 (by decide) ?_
      refine lv_goto (pc := 13) (tgt := 17) hx hb dX4_isSmall_13 (by decide) ?_
      exact hret 1 ((fun _ => 0), (fun _ => (fun _ => 0)), (fun _ => (fun _ => 0)), (fun _ => 0), (fun _ => 0)) dX4_isSmall_17 ⟨(Or.inr tI_1), (show (((1 : Int32).toInt = 0 ∧ x0.toInt < 97) ∨ ((1 : Int32).toInt = 0 ∧ x0.toInt ≥ 97 ∧ x0.toInt > 122) ∨ ((1 : Int32).toInt = 1 ∧ x0.toInt ≥ 97 ∧ x0.toInt ≤ 122)) from (by first | exact (om_14 tI_1 c_1 c_2) | (have k9 := tI_1; omega)))⟩ (g_psub (wc := []) hP [] rfl) (hD.sub (ws' := []) [] (by decide) rfl) hS
theorem om_15 {a b : Int} (h0 : (a = 0)) (h1 : (b < 48)) : (((a = 0 ∧ b < 48) ∨ (a = 0 ∧ b ≥ 48 ∧ b > 57) ∨ (a = 1 ∧ b ≥ 48 ∧ b ≤ 57))) := by omega
theorem om_16 {a b : Int} (h0 : (a = 0)) (h1 : (b > 57)) : (((a = 0 ∧ b < 48) ∨ (a = 0 ∧ b ≥ 48 ∧ b > 57) ∨ (a = 1 ∧ b ≥ 48 ∧ b ≤ 57))) := by omega
theorem om_17 {a b : Int} (h0 : (a = 1)) (h1 : (b ≥ 48)) (h2 : (b ≤ 57)) : (((a = 0 ∧ b < 48) ∨ (a = 0 ∧ b ≥ 48 ∧ b > 57) ∨ (a = 1 ∧ b ≥ 48 ∧ b ≤ 57))) := by omega
set_option maxHeartbeats 4000000 in
set_option maxRecDepth 100000 in
theorem k_X4_isDigit (l : Launch) (D : va_G) (cB cC cI cJ : ClassId) (sz : Nat) (x0 : Int32) : Met l yX4_isDigit (.code yX4_isDigit cX4_isDigit 1 (some .boolean) :: lw_gd) ({ frames := 0, cells := 0, slots := 0, locals := 0 }) (gPre D [(cB, .byte), (cC, .char), (cI, .int), (cJ, .long)] [.int x0] [] sz) (va_Qi (fun r u => ((r.toInt = 0 ∧ x0.toInt < 48) ∨ (r.toInt = 0 ∧ x0.toInt ≥ 48 ∧ x0.toInt > 57) ∨ (r.toInt = 1 ∧ x0.toInt ≥ 48 ∧ x0.toInt ≤ 57))) (gB D (va_A [] sz) (fun u : gEx => [])) (va_A [] sz)) 0 0 (va_A [] sz) := by
  refine gOf_z (by decide +kernel) (Nat.le_of_ble_eq_true rfl) ?_
  intro p e s m args below meth c ls A Q hx hb hts hown hml hN hK hP hD hA hl hret
  replace hown : s.vm.findClass RX4 = some m.cls := hown
  have hS : va_S A s.heap s.heap [] := va_S.rf
  replace hP : va_P D gcl [] s.heap := hP
  replace hl : lv_has ls 1 [(0, .int x0)] := hl
  have rx0 := n_rng x0
  refine lv_iload_n (pc := 0) hx hb dX4_isDigit_0 rfl (lv_at hl 0 rfl) ?_
  refine lv_bipush (pc := 1) (v := 48) hx hb dX4_isDigit_1 (by decide) ?_
  refine b_icmp_lt (pc := 3) (tgt := 16) hx hb rfl tI_48  dX4_isDigit_3 (by decide) (fun c_1 => ?_) (fun c_1 => ?_)
  ·
    refine lv_iconst (pc := 16) (v := 0) hx hb dX4_isDigit_16 (by decide) ?_
    exact hret 0 ((fun _ => 0), (fun _ => (fun _ => 0)), (fun _ => (fun _ => 0)), (fun _ => 0), (fun _ => 0)) dX4_isDigit_17 ⟨(Or.inl tI_0), (show (((0 : Int32).toInt = 0 ∧ x0.toInt < 48) ∨ ((0 : Int32).toInt = 0 ∧ x0.toInt ≥ 48 ∧ x0.toInt > 57) ∨ ((0 : Int32).toInt = 1 ∧ x0.toInt ≥ 48 ∧ x0.toInt ≤ 57)) from (by first | exact (om_15 tI_0 c_1) | (have k9 := tI_0; omega)))⟩ (g_psub (wc := []) hP [] rfl) (hD.sub (ws' := []) [] (by decide) rfl) hS
  ·
    refine lv_iload_n (pc := 6) hx hb dX4_isDigit_6 rfl (lv_at hl 0 rfl) ?_
    refine lv_bipush (pc := 7) (v := 57) hx hb dX4_isDigit_7 (by decide) ?_
    refine b_icmp_gt (pc := 9) (tgt := 16) hx hb rfl tI_57  dX4_isDigit_9 (by decide) (fun c_2 => ?_) (fun c_2 => ?_)
    ·
      refine lv_iconst (pc := 16) (v := 0) hx hb dX4_isDigit_16 (by decide) ?_
      exact hret 0 ((fun _ => 0), (fun _ => (fun _ => 0)), (fun _ => (fun _ => 0)), (fun _ => 0), (fun _ => 0)) dX4_isDigit_17 ⟨(Or.inl tI_0), (show (((0 : Int32).toInt = 0 ∧ x0.toInt < 48) ∨ ((0 : Int32).toInt = 0 ∧ x0.toInt ≥ 48 ∧ x0.toInt > 57) ∨ ((0 : Int32).toInt = 1 ∧ x0.toInt ≥ 48 ∧ x0.toInt ≤ 57)) from (by first | exact (om_16 tI_0 c_2) | (have k9 := tI_0; omega)))⟩ (g_psub (wc := []) hP [] rfl) (hD.sub (ws' := []) [] (by decide) rfl) hS
    ·
      refine lv_iconst (pc := 12) (v := 1) hx hb dX4_isDigit_12 (by decide) ?_
      refine lv_goto (pc := 13) (tgt := 17) hx hb dX4_isDigit_13 (by decide) ?_
      exact hret 1 ((fun _ => 0), (fun _ => (fun _ => 0)), (fun _ => (fun _ => 0)), (fun _ => 0), (fun _ => 0)) dX4_isDigit_17 ⟨(Or.inr tI_1), (show (((1 : Int32).toInt = 0 ∧ x0.toInt < 48) ∨ ((1 : Int32).toInt = 0 ∧ x0.toInt ≥ 48 ∧ x0.toInt > 57) ∨ ((1 : Int32).toInt = 1 ∧ x0.toInt ≥ 48 ∧ x0.toInt ≤ 57)) from (by first | exact (om_17 tI_1 c_1 c_2) | (have k9 := tI_1; omega)))⟩ (g_psub (wc := []) hP [] rfl) (hD.sub (ws' := []) [] (by decide) rfl) hS
theorem om_18 {a b : Int} (h0 : (a = 1)) (h1 : (b = 10)) : (((a = 1 ∧ b = 10) ∨ (a = 0 ∧ ¬ b = 10 ∧ ¬ b = 32) ∨ (a = 1 ∧ ¬ b = 10 ∧ b = 32))) := by omega
theorem om_19 {a b : Int} (h0 : (a = 0)) (h1 : (¬ b = 10)) (h2 : (¬ b = 32)) : (((a = 1 ∧ b = 10) ∨ (a = 0 ∧ ¬ b = 10 ∧ ¬ b = 32) ∨ (a = 1 ∧ ¬ b = 10 ∧ b = 32))) := by omega
theorem om_20 {a b : Int} (h0 : (a = 1)) (h1 : (b = 32)) : (((a = 1 ∧ b = 10) ∨ (a = 0 ∧ ¬ b = 10 ∧ ¬ b = 32) ∨ (a = 1 ∧ ¬ b = 10 ∧ b = 32))) := by omega
set_option maxHeartbeats 4000000 in
set_option maxRecDepth 100000 in
theorem k_X4_isBlank (l : Launch) (D : va_G) (cB cC cI cJ : ClassId) (sz : Nat) (x0 : Int32) : Met l yX4_isBlank (.code yX4_isBlank cX4_isBlank 1 (some .boolean) :: lw_gd) ({ frames := 0, cells := 0, slots := 0, locals := 0 }) (gPre D [(cB, .byte), (cC, .char), (cI, .int), (cJ, .long)] [.int x0] [] sz) (va_Qi (fun r u => ((r.toInt = 1 ∧ x0.toInt = 10) ∨ (r.toInt = 0 ∧ ¬ x0.toInt = 10 ∧ ¬ x0.toInt = 32) ∨ (r.toInt = 1 ∧ ¬ x0.toInt = 10 ∧ x0.toInt = 32))) (gB D (va_A [] sz) (fun u : gEx => [])) (va_A [] sz)) 0 0 (va_A [] sz) := by
  refine gOf_z (by decide +kernel) (Nat.le_of_ble_eq_true rfl) ?_
  intro p e s m args below meth c ls A Q hx hb hts hown hml hN hK hP hD hA hl hret
  replace hown : s.vm.findClass RX4 = some m.cls := hown
  have hS : va_S A s.heap s.heap [] := va_S.rf
  replace hP : va_P D gcl [] s.heap := hP
  replace hl : lv_has ls 1 [(0, .int x0)] := hl
  have rx0 := n_rng x0
  refine lv_iload_n (pc := 0) hx hb dX4_isBlank_0 rfl (lv_at hl 0 rfl) ?_
  refine lv_bipush (pc := 1) (v := 10) hx hb dX4_isBlank_1 (by decide) ?_
  refine b_icmp_eq (pc := 3) (tgt := 12) hx hb rfl tI_10  dX4_isBlank_3 (by decide) (fun c_1 => ?_) (fun c_1 => ?_)
  ·
    refine lv_iconst (pc := 12) (v := 1) hx hb dX4_isBlank_12 (by decide) ?_
    refine lv_goto (pc := 13) (tgt := 17) hx hb dX4_isBlank_13 (by decide) ?_
    exact hret 1 ((fun _ => 0), (fun _ => (fun _ => 0)), (fun _ => (fun _ => 0)), (fun _ => 0), (fun _ => 0)) dX4_isBlank_17 ⟨(Or.inr tI_1), (show (((1 : Int32).toInt = 1 ∧ x0.toInt = 10) ∨ ((1 : Int32).toInt = 0 ∧ ¬ x0.toInt = 10 ∧ ¬ x0.toInt = 32) ∨ ((1 : Int32).toInt = 1 ∧ ¬ x0.toInt = 10 ∧ x0.toInt = 32)) from (by first | exact (om_18 tI_1 c_1) | (have k9 := tI_1; omega)))⟩ (g_psub (wc := []) hP [] rfl) (hD.sub (ws' := []) [] (by decide) rfl) hS
  ·
    refine lv_iload_n (pc := 6) hx hb dX4_isBlank_6 rfl (lv_at hl 0 rfl) ?_
    refine lv_bipush (pc := 7) (v := 32) hx hb dX4_isBlank_7 (by decide) ?_
    refine b_icmp_ne (pc := 9) (tgt := 16) hx hb rfl tI_32  dX4_isBlank_9 (by decide) (fun c_2 => ?_) (fun c_2 => ?_)
    ·
      refine lv_iconst (pc := 16) (v := 0) hx hb dX4_isBlank_16 (by decide) ?_
      exact hret 0 ((fun _ => 0), (fun _ => (fun _ => 0)), (fun _ => (fun _ => 0)), (fun _ => 0), (fun _ => 0)) dX4_isBlank_17 ⟨(Or.inl tI_0), (show (((0 : Int32).toInt = 1 ∧ x0.toInt = 10) ∨ ((0 : Int32).toInt = 0 ∧ ¬ x0.toInt = 10 ∧ ¬ x0.toInt = 32) ∨ ((0 : Int32).toInt = 1 ∧ ¬ x0.toInt = 10 ∧ x0.toInt = 32)) from (by first | exact (om_19 tI_0 c_1 c_2) | (have k9 := tI_0; omega)))⟩ (g_psub (wc := []) hP [] rfl) (hD.sub (ws' := []) [] (by decide) rfl) hS
    ·
      refine lv_iconst (pc := 12) (v := 1) hx hb dX4_isBlank_12 (by decide) ?_
      refine lv_goto (pc := 13) (tgt := 17) hx hb dX4_isBlank_13 (by decide) ?_
      exact hret 1 ((fun _ => 0), (fun _ => (fun _ => 0)), (fun _ => (fun _ => 0)), (fun _ => 0), (fun _ => 0)) dX4_isBlank_17 ⟨(Or.inr tI_1), (show (((1 : Int32).toInt = 1 ∧ x0.toInt = 10) ∨ ((1 : Int32).toInt = 0 ∧ ¬ x0.toInt = 10 ∧ ¬ x0.toInt = 32) ∨ ((1 : Int32).toInt = 1 ∧ ¬ x0.toInt = 10 ∧ x0.toInt = 32)) from (by first | exact (om_20 tI_1 c_2) | (have k9 := tI_1; omega)))⟩ (g_psub (wc := []) hP [] rfl) (hD.sub (ws' := []) [] (by decide) rfl) hS
theorem om_21 {a b c : Int} (h0 : ((a = (-1) ∧ b < 0) ∨ (a = (-1) ∧ b ≥ 0 ∧ b ≥ c) ∨ ((0 ≤ a ∧ a ≤ 255) ∧ b ≥ 0 ∧ b < c))) : (((-1) ≤ a ∧ a ≤ 255)) := by omega
theorem om_22 {a b : Int} (h0 : (a ≤ 1600)) (h1 : (0 ≤ b)) : (a - b ≤ 1700) := by omega
theorem om_23 {a b : Int} (h0 : (a = b)) : (a - b ≤ 1700) := by omega
theorem om_24 {a : Int} (h0 : (a ≤ 1600)) : (a + 1 ≤ 2147483647) := by omega
theorem om_25 {a b c d : Int} (h0 : (a = b + 1)) (h1 : (0 ≤ b)) (h2 : (b < c)) (h3 : (c = d)) (h4 : (d ≤ 1600)) : ((0 ≤ a ∧ a ≤ 1600)) := by omega
set_option maxHeartbeats 4000000 in
set_option maxRecDepth 100000 in
theorem k_X4_goOn (l : Launch) (D : va_G) (cB cC cI cJ : ClassId) (sz : Nat) (a0 a1 a2 a3 : Nat) (x0 x1 x2 x3 x4 x5 x6 x7 x8 : Int32) (f0 : Nat → Int32) (hp1 : (0 ≤ x0.toInt ∧ x0.toInt ≤ 1600)) (hp2 : (0 ≤ x1.toInt ∧ x1.toInt ≤ 1)) (h_x2 : (0 ≤ x2.toInt ∧ x2.toInt ≤ 1600)) (h_x3 : ((-1) ≤ x3.toInt ∧ x3.toInt ≤ 255)) (h_x4 : (0 ≤ x4.toInt ∧ x4.toInt ≤ 1600)) (h_x6 : (0 ≤ x6.toInt ∧ x6.toInt ≤ 4)) (h_x7 : ((-1) ≤ x7.toInt ∧ x7.toInt ≤ 1600)) (h_x8 : (0 ≤ x8.toInt ∧ x8.toInt ≤ 1600)) : Met l yX4_goOn (.code yX4_goOn cX4_goOn 3 none :: lw_gd) ({ frames := 1, cells := 0, slots := 0, locals := 21 }) (gPre D [(cB, .byte), (cC, .char), (cI, .int), (cJ, .long)] [.ref a0, .int x0, .int x1] [(a0, .inr (4, [.ref a1, .ref a2, .int x2, .int x3, .int x4, .int x5, .int x6, .int x7])), (a1, .inr (9, [.ref a3, .int x8])), (a3, .inl (cB, 1600, .inl f0))] sz) (va_Qv (fun u => (0 ≤ (u.2.2.2.1 0).toInt ∧ (u.2.2.2.1 0).toInt ≤ 1600) ∧ ((-1) ≤ (u.2.2.2.1 1).toInt ∧ (u.2.2.2.1 1).toInt ≤ 255) ∧ ((u.2.2.2.1 0).toInt = skp (taub f0 x8.toInt) x0.toInt) ∧ ((u.2.2.2.1 1).toInt = gsn (taub f0 x8.toInt) x0.toInt (u.2.2.2.1 0).toInt x1.toInt) ∧ (x0.toInt ≤ (u.2.2.2.1 0).toInt)) (gB D (va_A [(a0, .inr (4, [.ref a1, .ref a2, .int x2, .int x3, .int x4, .int x5, .int x6, .int x7])), (a1, .inr (9, [.ref a3, .int x8])), (a3, .inl (cB, 1600, .inl f0))] sz) (fun u : gEx => [(a0, .inr (4, [.ref a1, .ref a2, .int (u.2.2.2.1 0), .int (u.2.2.2.1 1), .int x4, .int x5, .int x6, .int x7])), (a1, .inr (9, [.ref a3, .int x8])), (a3, .inl (cB, 1600, .inl f0))])) (va_A [(a0, .inr (4, [.ref a1, .ref a2, .int x2, .int x3, .int x4, .int x5, .int x6, .int x7])), (a1, .inr (9, [.ref a3, .int x8])), (a3, .inl (cB, 1600, .inl f0))] sz)) 0 0 (va_A [(a0, .inr (4, [.ref a1, .ref a2, .int x2, .int x3, .int x4, .int x5, .int x6, .int x7])), (a1, .inr (9, [.ref a3, .int x8])), (a3, .inl (cB, 1600, .inl f0))] sz) := by
  refine gOf_v (by decide +kernel) (Nat.le_of_ble_eq_true rfl) ?_
  intro p e s m args below meth c ls A Q hx hb hts hown hml hN hK hP hD hA hl hret
  replace hown : s.vm.findClass RX4 = some m.cls := hown
  have hS : va_S A s.heap s.heap [] := va_S.rf
  replace hP : va_P D gcl [(a0, .inr (4, [.ref a1, .ref a2, .int x2, .int x3, .int x4, .int x5, .int x6, .int x7])), (a1, .inr (9, [.ref a3, .int x8])), (a3, .inl (cB, 1600, .inl f0))] s.heap := hP
  replace hl : lv_has ls 3 [(0, .ref a0), (1, .int x0), (2, .int x1)] := hl
  have rx5 := n_rng x5
  refine lv_aload_n (pc := 0) hx hb dX4_goOn_0 rfl (lv_at hl 0 rfl) ?_
  refine lv_iload_n (pc := 1) hx hb dX4_goOn_1 rfl (lv_at hl 1 rfl) ?_
  refine va_put (pc := 2) (ci := 4) (v := .int x0) (ty := .int) (C := RX4) (T := TX4) (N := 8) hx hb hts iX4 tyX4 tyX4_ok nmX4 hown hK hP hD hS 0 rfl rfl 2 (by decide) (hts _ tw_170) (fun _ h9 => h9) rfl (by decide +kernel) rfl rfl (Nat.le_of_ble_eq_true rfl) dX4_goOn_2 (fun H locs hP hD hS => ?_)
  replace hP : va_P D gcl [(a0, .inr (4, [.ref a1, .ref a2, .int x0, .int x3, .int x4, .int x5, .int x6, .int x7])), (a1, .inr (9, [.ref a3, .int x8])), (a3, .inl (cB, 1600, .inl f0))] H := hP
  replace hD : va_D A [(a0, .inr (4, [.ref a1, .ref a2, .int x0, .int x3, .int x4, .int x5, .int x6, .int x7])), (a1, .inr (9, [.ref a3, .int x8])), (a3, .inl (cB, 1600, .inl f0))] := hD
  have lp_4 : ∀ (n : Nat) (x_1 : Int32) (H : Heap) (locs : List Loc) (ls : Array Slot), (0 ≤ x_1.toInt ∧ x_1.toInt ≤ 1600) → (bls (taub f0 x8.toInt) x0.toInt x_1.toInt) → (2147483647 - x_1.toInt).toNat < n → va_P D gcl [(a0, .inr (4, [.ref a1, .ref a2, .int x_1, .int x3, .int x4, .int x5, .int x6, .int x7])), (a1, .inr (9, [.ref a3, .int x8])), (a3, .inl (cB, 1600, .inl f0))] H → va_D A [(a0, .inr (4, [.ref a1, .ref a2, .int x_1, .int x3, .int x4, .int x5, .int x6, .int x7])), (a1, .inr (9, [.ref a3, .int x8])), (a3, .inl (cB, 1600, .inl f0))] → va_S A s.heap H locs → lv_has ls 3 [(0, .ref a0), (1, .int x0), (2, .int x1)] → W p l e ({ frames := 1, cells := 0, slots := 0, locals := 21 }) s m args below meth c H locs 0 0 Q (F0 m 5 ls []) := by
    intro n
    induction n with
    | zero => intro x_1 H locs ls hi_2 hi_3 hmu; exact absurd hmu (Nat.not_lt_zero _)
    | succ n ih_lp_4 =>
      intro x_1 H locs ls hi_2 hi_3 hmu_lp_4 hP hD hS hl
      refine lv_aload_n (pc := 5) hx hb dX4_goOn_5 rfl (lv_at hl 0 rfl) ?_
      refine va_get (pc := 6) (ci := 4) (v := .int x_1) (C := RX4) (T := TX4) (N := 8) hx hb hts iX4 hown hK hP 0 rfl rfl 2 (by decide) (hts _ tw_170) (fun _ h9 => h9) rfl dX4_goOn_6 ?_
      refine lv_aload_n (pc := 9) hx hb dX4_goOn_9 rfl (lv_at hl 0 rfl) ?_
      refine va_get (pc := 10) (ci := 4) (v := .ref a1) (C := RX4) (T := TX4) (N := 8) hx hb hts iX4 hown hK hP 0 rfl rfl 0 (by decide) (hts _ tw_167) (fun _ h9 => h9) rfl dX4_goOn_10 ?_
      refine gd_i (pc := 13) (wc := [(a1, .inr (9, [.ref a3, .int x8]))]) hP hD hS hA [1] rfl (by decide +kernel) (fun _ => by rfl) (fun hPc hDc => va_runV (As := []) (rest := [.int x_1]) ⟨hx, hb, hml, hown, hts⟩ (k_X9_length l D cB cC cI cJ _ a1 a3 x8 h_x8) ⟨gcwB hts tw_478 tw_3 tw_514 hd_yX9_length ⟨Nat.le_of_ble_eq_true rfl, Nat.le_of_ble_eq_true rfl⟩, hts _ tw_476, hts _ tw_477⟩ ⟨gblind, va_recv hK hPc (ci := 9) (q0 := 0) rfl rfl, (gpreS hPc hK hDc hN).2⟩ rfl rfl hl.1 rfl (lv_room (Nat.le_of_ble_eq_true rfl)) dX4_goOn_13 ⟨Nat.le_of_ble_eq_true rfl, Nat.le_of_ble_eq_true rfl⟩) (fun r_6 u_5 H locs hw_7 hP hD hS => ?_)
      replace hP : va_P D gcl [(a0, .inr (4, [.ref a1, .ref a2, .int x_1, .int x3, .int x4, .int x5, .int x6, .int x7])), (a1, .inr (9, [.ref a3, .int x8])), (a3, .inl (cB, 1600, .inl f0))] H := hP
      replace hD : va_D A [(a0, .inr (4, [.ref a1, .ref a2, .int x_1, .int x3, .int x4, .int x5, .int x6, .int x7])), (a1, .inr (9, [.ref a3, .int x8])), (a3, .inl (cB, 1600, .inl f0))] := hD
      have hw_8 : ((r_6.toInt = x8.toInt)) := hw_7
      have rr_6 := n_rng r_6
      refine b_icmp_ge (pc := 16) (tgt := 49) hx hb rfl rfl  dX4_goOn_16 (by decide) (fun c_9 => ?_) (fun c_9 => ?_)
      ·
        refine lv_aload_n (pc := 49) hx hb dX4_goOn_49 rfl (lv_at hl 0 rfl) ?_
        refine lv_aload_n (pc := 50) hx hb dX4_goOn_50 rfl (lv_at hl 0 rfl) ?_
        refine va_get (pc := 51) (ci := 4) (v := .ref a1) (C := RX4) (T := TX4) (N := 8) hx hb hts iX4 hown hK hP 0 rfl rfl 0 (by decide) (hts _ tw_167) (fun _ h9 => h9) rfl dX4_goOn_51 ?_
        refine lv_aload_n (pc := 54) hx hb dX4_goOn_54 rfl (lv_at hl 0 rfl) ?_
        refine va_get (pc := 55) (ci := 4) (v := .int x_1) (C := RX4) (T := TX4) (N := 8) hx hb hts iX4 hown hK hP 0 rfl rfl 2 (by decide) (hts _ tw_170) (fun _ h9 => h9) rfl dX4_goOn_55 ?_
        refine gd_i (pc := 58) (wc := [(a1, .inr (9, [.ref a3, .int x8])), (a3, .inl (cB, 1600, .inl f0))]) hP hD hS hA [1, 2] rfl (by decide +kernel) (fun _ => by rfl) (fun hPc hDc => va_runV (As := [.int x_1]) (rest := [.ref a0]) ⟨hx, hb, hml, hown, hts⟩ (k_X9_at_E l D cB cC cI cJ _ a1 a3 x_1 x8 f0 h_x8) ⟨gcwB hts tw_518 tw_3 tw_515 hd_yX9_at ⟨Nat.le_of_ble_eq_true rfl, Nat.le_of_ble_eq_true rfl⟩, hts _ tw_516, hts _ tw_517⟩ ⟨gblind, va_recv hK hPc (ci := 9) (q0 := 0) rfl rfl, (gpreS hPc hK hDc hN).2⟩ rfl rfl hl.1 rfl (lv_room (Nat.le_of_ble_eq_true rfl)) dX4_goOn_58 ⟨Nat.le_of_ble_eq_true rfl, Nat.le_of_ble_eq_true rfl⟩) (fun r_11 u_10 H locs hw_12 hP hD hS => ?_)
        replace hP : va_P D gcl [(a0, .inr (4, [.ref a1, .ref a2, .int x_1, .int x3, .int x4, .int x5, .int x6, .int x7])), (a1, .inr (9, [.ref a3, .int x8])), (a3, .inl (cB, 1600, .inl f0))] H := hP
        replace hD : va_D A [(a0, .inr (4, [.ref a1, .ref a2, .int x_1, .int x3, .int x4, .int x5, .int x6, .int x7])), (a1, .inr (9, [.ref a3, .int x8])), (a3, .inl (cB, 1600, .inl f0))] := hD
        obtain ⟨hw_13, hw_14⟩ := hw_12
        replace hw_13 : ((r_11.toInt = (-1) ∧ x_1.toInt < 0) ∨ (r_11.toInt = (-1) ∧ x_1.toInt ≥ 0 ∧ x_1.toInt ≥ x8.toInt) ∨ ((0 ≤ r_11.toInt ∧ r_11.toInt ≤ 255) ∧ x_1.toInt ≥ 0 ∧ x_1.toInt < x8.toInt)) := hw_13
        replace hw_14 : (r_11.toInt = taub f0 x8.toInt x_1.toInt) := hw_14
        have rr_11 := n_rng r_11
        refine va_put (pc := 61) (ci := 4) (v := .int r_11) (ty := .int) (C := RX4) (T := TX4) (N := 8) hx hb hts iX4 tyX4 tyX4_ok nmX4 hown hK hP hD hS 0 rfl rfl 3 (by decide) (hts _ tw_171) (fun _ h9 => h9) rfl (by decide +kernel) rfl rfl (Nat.le_of_ble_eq_true rfl) dX4_goOn_61 (fun H locs hP hD hS => ?_)
        replace hP : va_P D gcl [(a0, .inr (4, [.ref a1, .ref a2, .int x_1, .int r_11, .int x4, .int x5, .int x6, .int x7])), (a1, .inr (9, [.ref a3, .int x8])), (a3, .inl (cB, 1600, .inl f0))] H := hP
        replace hD : va_D A [(a0, .inr (4, [.ref a1, .ref a2, .int x_1, .int r_11, .int x4, .int x5, .int x6, .int x7])), (a1, .inr (9, [.ref a3, .int x8])), (a3, .inl (cB, 1600, .inl f0))] := hD
        refine lv_iload_n (pc := 64) hx hb dX4_goOn_64 rfl (lv_at hl 2 rfl) ?_
        refine b_if_eq (pc := 65) (tgt := 101) hx hb rfl  dX4_goOn_65 (by decide) (fun c_15 => ?_) (fun c_15 => ?_)
        ·
          exact hret ((fun _ => 0), (fun _ => (fun _ => 0)), (fun _ => (fun _ => 0)), (fun k => [x_1, r_11].getD k 0), (fun _ => 0)) dX4_goOn_101 ⟨(show (0 ≤ (x_1 : Int32).toInt ∧ (x_1 : Int32).toInt ≤ 1600) from hi_2), (show ((-1) ≤ (r_11 : Int32).toInt ∧ (r_11 : Int32).toInt ≤ 255) from (by first | exact (om_21 hw_13) | (omega))), (show x_1.toInt = skp (taub f0 x8.toInt) x0.toInt from (skp_at hi_3 (by unfold isBl; first | omega | (have q := taub_out (f := f0) (n := x8.toInt) (i := x_1.toInt) (by omega); omega)) (by first | exact (om_22 hi_2.2 hp1.1) | (omega))).symm), (show r_11.toInt = gsn (taub f0 x8.toInt) x0.toInt x_1.toInt x1.toInt from (by have q := gsn_t (t := (taub f0 x8.toInt)) (p := x0.toInt) (q := x_1.toInt) (nb := x1.toInt) (by unfold isSm isDg; omega); omega)), (show x0.toInt ≤ x_1.toInt from hi_3.1)⟩ (g_psub (wc := [(a0, .inr (4, [.ref a1, .ref a2, .int x_1, .int r_11, .int x4, .int x5, .int x6, .int x7])), (a1, .inr (9, [.ref a3, .int x8])), (a3, .inl (cB, 1600, .inl f0))]) hP [0, 1, 2] rfl) (hD.sub (ws' := [(a0, .inr (4, [.ref a1, .ref a2, .int x_1, .int r_11, .int x4, .int x5, .int x6, .int x7])), (a1, .inr (9, [.ref a3, .int x8])), (a3, .inl (cB, 1600, .inl f0))]) [0, 1, 2] (by decide) rfl) hS
        ·
          refine lv_aload_n (pc := 68) hx hb dX4_goOn_68 rfl (lv_at hl 0 rfl) ?_
          refine va_get (pc := 69) (ci := 4) (v := .int x_1) (C := RX4) (T := TX4) (N := 8) hx hb hts iX4 hown hK hP 0 rfl rfl 2 (by decide) (hts _ tw_170) (fun _ h9 => h9) rfl dX4_goOn_69 ?_
          refine lv_iload_n (pc := 72) hx hb dX4_goOn_72 rfl (lv_at hl 1 rfl) ?_
          refine b_icmp_ne (pc := 73) (tgt := 101) hx hb rfl rfl  dX4_goOn_73 (by decide) (fun c_16 => ?_) (fun c_16 => ?_)
          ·
            exact hret ((fun _ => 0), (fun _ => (fun _ => 0)), (fun _ => (fun _ => 0)), (fun k => [x_1, r_11].getD k 0), (fun _ => 0)) dX4_goOn_101 ⟨(show (0 ≤ (x_1 : Int32).toInt ∧ (x_1 : Int32).toInt ≤ 1600) from hi_2), (show ((-1) ≤ (r_11 : Int32).toInt ∧ (r_11 : Int32).toInt ≤ 255) from (by first | exact (om_21 hw_13) | (omega))), (show x_1.toInt = skp (taub f0 x8.toInt) x0.toInt from (skp_at hi_3 (by unfold isBl; first | omega | (have q := taub_out (f := f0) (n := x8.toInt) (i := x_1.toInt) (by omega); omega)) (by first | exact (om_22 hi_2.2 hp1.1) | (omega))).symm), (show r_11.toInt = gsn (taub f0 x8.toInt) x0.toInt x_1.toInt x1.toInt from (by have q := gsn_t (t := (taub f0 x8.toInt)) (p := x0.toInt) (q := x_1.toInt) (nb := x1.toInt) (by unfold isSm isDg; omega); omega)), (show x0.toInt ≤ x_1.toInt from hi_3.1)⟩ (g_psub (wc := [(a0, .inr (4, [.ref a1, .ref a2, .int x_1, .int r_11, .int x4, .int x5, .int x6, .int x7])), (a1, .inr (9, [.ref a3, .int x8])), (a3, .inl (cB, 1600, .inl f0))]) hP [0, 1, 2] rfl) (hD.sub (ws' := [(a0, .inr (4, [.ref a1, .ref a2, .int x_1, .int r_11, .int x4, .int x5, .int x6, .int x7])), (a1, .inr (9, [.ref a3, .int x8])), (a3, .inl (cB, 1600, .inl f0))]) [0, 1, 2] (by decide) rfl) hS
          ·
            refine lv_aload_n (pc := 76) hx hb dX4_goOn_76 rfl (lv_at hl 0 rfl) ?_
            refine va_get (pc := 77) (ci := 4) (v := .int r_11) (C := RX4) (T := TX4) (N := 8) hx hb hts iX4 hown hK hP 0 rfl rfl 3 (by decide) (hts _ tw_171) (fun _ h9 => h9) rfl dX4_goOn_77 ?_
            refine gd_i (pc := 80) (wc := []) hP hD hS hA [] rfl (by decide +kernel) (fun _ => by rfl) (fun hPc hDc => va_runS (As := [.int r_11]) (rest := []) ⟨hx, hb, hml, hown, hts⟩ (k_X4_isSmall l D cB cC cI cJ _ r_11) ⟨gcwB hts tw_524 tw_2 tw_522 hd_yX4_isSmall ⟨Nat.le_of_ble_eq_true rfl, Nat.le_of_ble_eq_true rfl⟩, hts _ tw_523⟩ (gpreS hPc hK hDc hN) rfl rfl hl.1 rfl (lv_room (Nat.le_of_ble_eq_true rfl)) dX4_goOn_80 ⟨Nat.le_of_ble_eq_true rfl, Nat.le_of_ble_eq_true rfl⟩) (fun r_18 u_17 H locs hw_19 hP hD hS => ?_)
            replace hP : va_P D gcl [(a0, .inr (4, [.ref a1, .ref a2, .int x_1, .int r_11, .int x4, .int x5, .int x6, .int x7])), (a1, .inr (9, [.ref a3, .int x8])), (a3, .inl (cB, 1600, .inl f0))] H := hP
            replace hD : va_D A [(a0, .inr (4, [.ref a1, .ref a2, .int x_1, .int r_11, .int x4, .int x5, .int x6, .int x7])), (a1, .inr (9, [.ref a3, .int x8])), (a3, .inl (cB, 1600, .inl f0))] := hD
            have hw_20 : ((r_18.toInt = 0 ∧ r_11.toInt < 97) ∨ (r_18.toInt = 0 ∧ r_11.toInt ≥ 97 ∧ r_11.toInt > 122) ∨ (r_18.toInt = 1 ∧ r_11.toInt ≥ 97 ∧ r_11.toInt ≤ 122)) := hw_19
            have rr_18 := n_rng r_18
            refine b_if_ne (pc := 83) (tgt := 96) hx hb rfl  dX4_goOn_83 (by decide) (fun c_21 => ?_) (fun c_21 => ?_)
            ·
              refine lv_aload_n (pc := 96) hx hb dX4_goOn_96 rfl (lv_at hl 0 rfl) ?_
              refine lv_iconst (pc := 97) (v := 0) hx hb dX4_goOn_97 (by decide) ?_
              refine va_put (pc := 98) (ci := 4) (v := .int 0) (ty := .int) (C := RX4) (T := TX4) (N := 8) hx hb hts iX4 tyX4 tyX4_ok nmX4 hown hK hP hD hS 0 rfl rfl 3 (by decide) (hts _ tw_171) (fun _ h9 => h9) rfl (by decide +kernel) (by decide +kernel) (by decide +kernel) (Nat.le_of_ble_eq_true rfl) dX4_goOn_98 (fun H locs hP hD hS => ?_)
              replace hP : va_P D gcl [(a0, .inr (4, [.ref a1, .ref a2, .int x_1, .int 0, .int x4, .int x5, .int x6, .int x7])), (a1, .inr (9, [.ref a3, .int x8])), (a3, .inl (cB, 1600, .inl f0))] H := hP
              replace hD : va_D A [(a0, .inr (4, [.ref a1, .ref a2, .int x_1, .int 0, .int x4, .int x5, .int x6, .int x7])), (a1, .inr (9, [.ref a3, .int x8])), (a3, .inl (cB, 1600, .inl f0))] := hD
              have k8_0 := tI_0
              exact hret ((fun _ => 0), (fun _ => (fun _ => 0)), (fun _ => (fun _ => 0)), (fun k => [x_1, 0].getD k 0), (fun _ => 0)) dX4_goOn_101 ⟨(show (0 ≤ (x_1 : Int32).toInt ∧ (x_1 : Int32).toInt ≤ 1600) from hi_2), (show ((-1) ≤ (0 : Int32).toInt ∧ (0 : Int32).toInt ≤ 255) from (n_c tI_0 (by decide))), (show x_1.toInt = skp (taub f0 x8.toInt) x0.toInt from (skp_at hi_3 (by unfold isBl; first | omega | (have q := taub_out (f := f0) (n := x8.toInt) (i := x_1.toInt) (by omega); omega)) (by first | exact (om_23 c_16) | (omega))).symm), (show (0 : Int32).toInt = gsn (taub f0 x8.toInt) x0.toInt x_1.toInt x1.toInt from (by have q := gsn_g (t := (taub f0 x8.toInt)) (p := x0.toInt) (q := x_1.toInt) (nb := x1.toInt) (by omega) (by omega) (by unfold isSm isDg; omega); omega)), (show x0.toInt ≤ x_1.toInt from hi_3.1)⟩ (g_psub (wc := [(a0, .inr (4, [.ref a1, .ref a2, .int x_1, .int 0, .int x4, .int x5, .int x6, .int x7])), (a1, .inr (9, [.ref a3, .int x8])), (a3, .inl (cB, 1600, .inl f0))]) hP [0, 1, 2] rfl) (hD.sub (ws' := [(a0, .inr (4, [.ref a1, .ref a2, .int x_1, .int 0, .int x4, .int x5, .int x6, .int x7])), (a1, .inr (9, [.ref a3, .int x8])), (a3, .inl (cB, 1600, .inl f0))]) [0, 1, 2] (by decide) rfl) hS
            ·
              refine lv_aload_n (pc := 86) hx hb dX4_goOn_86 rfl (lv_at hl 0 rfl) ?_
              refine va_get (pc := 87) (ci := 4) (v := .int r_11) (C := RX4) (T := TX4) (N := 8) hx hb hts iX4 hown hK hP 0 rfl rfl 3 (by decide) (hts _ tw_171) (fun _ h9 => h9) rfl dX4_goOn_87 ?_
              refine gd_i (pc := 90) (wc := []) hP hD hS hA [] rfl (by decide +kernel) (fun _ => by rfl) (fun hPc hDc => va_runS (As := [.int r_11]) (rest := []) ⟨hx, hb, hml, hown, hts⟩ (k_X4_isDigit l D cB cC cI cJ _ r_11) ⟨gcwB hts tw_527 tw_2 tw_525 hd_yX4_isDigit ⟨Nat.le_of_ble_eq_true rfl, Nat.le_of_ble_eq_true rfl⟩, hts _ tw_526⟩ (gpreS hPc hK hDc hN) rfl rfl hl.1 rfl (lv_room (Nat.le_of_ble_eq_true rfl)) dX4_goOn_90 ⟨Nat.le_of_ble_eq_true rfl, Nat.le_of_ble_eq_true rfl⟩) (fun r_23 u_22 H locs hw_24 hP hD hS => ?_)
              replace hP : va_P D gcl [(a0, .inr (4, [.ref a1, .ref a2, .int x_1, .int r_11, .int x4, .int x5, .int x6, .int x7])), (a1, .inr (9, [.ref a3, .int x8])), (a3, .inl (cB, 1600, .inl f0))] H := hP
              replace hD : va_D A [(a0, .inr (4, [.ref a1, .ref a2, .int x_1, .int r_11, .int x4, .int x5, .int x6, .int x7])), (a1, .inr (9, [.ref a3, .int x8])), (a3, .inl (cB, 1600, .inl f0))] := hD
              have hw_25 : ((r_23.toInt = 0 ∧ r_11.toInt < 48) ∨ (r_23.toInt = 0 ∧ r_11.toInt ≥ 48 ∧ r_11.toInt > 57) ∨ (r_23.toInt = 1 ∧ r_11.toInt ≥ 48 ∧ r_11.toInt ≤ 57)) := hw_24
              have rr_23 := n_rng r_23
              refine b_if_eq (pc := 93) (tgt := 101) hx hb rfl  dX4_goOn_93 (by decide) (fun c_26 => ?_) (fun c_26 => ?_)
              ·
                exact hret ((fun _ => 0), (fun _ => (fun _ => 0)), (fun _ => (fun _ => 0)), (fun k => [x_1, r_11].getD k 0), (fun _ => 0)) dX4_goOn_101 ⟨(show (0 ≤ (x_1 : Int32).toInt ∧ (x_1 : Int32).toInt ≤ 1600) from hi_2), (show ((-1) ≤ (r_11 : Int32).toInt ∧ (r_11 : Int32).toInt ≤ 255) from (by first | exact (om_21 hw_13) | (omega))), (show x_1.toInt = skp (taub f0 x8.toInt) x0.toInt from (skp_at hi_3 (by unfold isBl; first | omega | (have q := taub_out (f := f0) (n := x8.toInt) (i := x_1.toInt) (by omega); omega)) (by first | exact (om_23 c_16) | (omega))).symm), (show r_11.toInt = gsn (taub f0 x8.toInt) x0.toInt x_1.toInt x1.toInt from (by have q := gsn_t (t := (taub f0 x8.toInt)) (p := x0.toInt) (q := x_1.toInt) (nb := x1.toInt) (by unfold isSm isDg; omega); omega)), (show x0.toInt ≤ x_1.toInt from hi_3.1)⟩ (g_psub (wc := [(a0, .inr (4, [.ref a1, .ref a2, .int x_1, .int r_11, .int x4, .int x5, .int x6, .int x7])), (a1, .inr (9, [.ref a3, .int x8])), (a3, .inl (cB, 1600, .inl f0))]) hP [0, 1, 2] rfl) (hD.sub (ws' := [(a0, .inr (4, [.ref a1, .ref a2, .int x_1, .int r_11, .int x4, .int x5, .int x6, .int x7])), (a1, .inr (9, [.ref a3, .int x8])), (a3, .inl (cB, 1600, .inl f0))]) [0, 1, 2] (by decide) rfl) hS
              ·
                refine lv_aload_n (pc := 96) hx hb dX4_goOn_96 rfl (lv_at hl 0 rfl) ?_
                refine lv_iconst (pc := 97) (v := 0) hx hb dX4_goOn_97 (by decide) ?_
                refine va_put (pc := 98) (ci := 4) (v := .int 0) (ty := .int) (C := RX4) (T := TX4) (N := 8) hx hb hts iX4 tyX4 tyX4_ok nmX4 hown hK hP hD hS 0 rfl rfl 3 (by decide) (hts _ tw_171) (fun _ h9 => h9) rfl (by decide +kernel) (by decide +kernel) (by decide +kernel) (Nat.le_of_ble_eq_true rfl) dX4_goOn_98 (fun H locs hP hD hS => ?_)
                replace hP : va_P D gcl [(a0, .inr (4, [.ref a1, .ref a2, .int x_1, .int 0, .int x4, .int x5, .int x6, .int x7])), (a1, .inr (9, [.ref a3, .int x8])), (a3, .inl (cB, 1600, .inl f0))] H := hP
                replace hD : va_D A [(a0, .inr (4, [.ref a1, .ref a2, .int x_1, .int 0, .int x4, .int x5, .int x6, .int x7])), (a1, .inr (9, [.ref a3, .int x8])), (a3, .inl (cB, 1600, .inl f0))] := hD
                have k8_0 := tI_0
                exact hret ((fun _ => 0), (fun _ => (fun _ => 0)), (fun _ => (fun _ => 0)), (fun k => [x_1, 0].getD k 0), (fun _ => 0)) dX4_goOn_101 ⟨(show (0 ≤ (x_1 : Int32).toInt ∧ (x_1 : Int32).toInt ≤ 1600) from hi_2), (show ((-1) ≤ (0 : Int32).toInt ∧ (0 : Int32).toInt ≤ 255) from (n_c tI_0 (by decide))), (show x_1.toInt = skp (taub f0 x8.toInt) x0.toInt from (skp_at hi_3 (by unfold isBl; first | omega | (have q := taub_out (f := f0) (n := x8.toInt) (i := x_1.toInt) (by omega); omega)) (by first | exact (om_23 c_16) | (omega))).symm), (show (0 : Int32).toInt = gsn (taub f0 x8.toInt) x0.toInt x_1.toInt x1.toInt from (by have q := gsn_g (t := (taub f0 x8.toInt)) (p := x0.toInt) (q := x_1.toInt) (nb := x1.toInt) (by omega) (by omega) (by unfold isSm isDg; omega); omega)), (show x0.toInt ≤ x_1.toInt from hi_3.1)⟩ (g_psub (wc := [(a0, .inr (4, [.ref a1, .ref a2, .int x_1, .int 0, .int x4, .int x5, .int x6, .int x7])), (a1, .inr (9, [.ref a3, .int x8])), (a3, .inl (cB, 1600, .inl f0))]) hP [0, 1, 2] rfl) (hD.sub (ws' := [(a0, .inr (4, [.ref a1, .ref a2, .int x_1, .int 0, .int x4, .int x5, .int x6, .int x7])), (a1, .inr (9, [.ref a3, .int x8])), (a3, .inl (cB, 1600, .inl f0))]) [0, 1, 2] (by decide) rfl) hS
      ·
        refine lv_aload_n (pc := 19) hx hb dX4_goOn_19 rfl (lv_at hl 0 rfl) ?_
        refine va_get (pc := 20) (ci := 4) (v := .ref a1) (C := RX4) (T := TX4) (N := 8) hx hb hts iX4 hown hK hP 0 rfl rfl 0 (by decide) (hts _ tw_167) (fun _ h9 => h9) rfl dX4_goOn_20 ?_
        refine lv_aload_n (pc := 23) hx hb dX4_goOn_23 rfl (lv_at hl 0 rfl) ?_
        refine va_get (pc := 24) (ci := 4) (v := .int x_1) (C := RX4) (T := TX4) (N := 8) hx hb hts iX4 hown hK hP 0 rfl rfl 2 (by decide) (hts _ tw_170) (fun _ h9 => h9) rfl dX4_goOn_24 ?_
        refine gd_i (pc := 27) (wc := [(a1, .inr (9, [.ref a3, .int x8])), (a3, .inl (cB, 1600, .inl f0))]) hP hD hS hA [1, 2] rfl (by decide +kernel) (fun _ => by rfl) (fun hPc hDc => va_runV (As := [.int x_1]) (rest := []) ⟨hx, hb, hml, hown, hts⟩ (k_X9_at_E l D cB cC cI cJ _ a1 a3 x_1 x8 f0 h_x8) ⟨gcwB hts tw_518 tw_3 tw_515 hd_yX9_at ⟨Nat.le_of_ble_eq_true rfl, Nat.le_of_ble_eq_true rfl⟩, hts _ tw_516, hts _ tw_517⟩ ⟨gblind, va_recv hK hPc (ci := 9) (q0 := 0) rfl rfl, (gpreS hPc hK hDc hN).2⟩ rfl rfl hl.1 rfl (lv_room (Nat.le_of_ble_eq_true rfl)) dX4_goOn_27 ⟨Nat.le_of_ble_eq_true rfl, Nat.le_of_ble_eq_true rfl⟩) (fun r_28 u_27 H locs hw_29 hP hD hS => ?_)
        replace hP : va_P D gcl [(a0, .inr (4, [.ref a1, .ref a2, .int x_1, .int x3, .int x4, .int x5, .int x6, .int x7])), (a1, .inr (9, [.ref a3, .int x8])), (a3, .inl (cB, 1600, .inl f0))] H := hP
        replace hD : va_D A [(a0, .inr (4, [.ref a1, .ref a2, .int x_1, .int x3, .int x4, .int x5, .int x6, .int x7])), (a1, .inr (9, [.ref a3, .int x8])), (a3, .inl (cB, 1600, .inl f0))] := hD
        obtain ⟨hw_30, hw_31⟩ := hw_29
        replace hw_30 : ((r_28.toInt = (-1) ∧ x_1.toInt < 0) ∨ (r_28.toInt = (-1) ∧ x_1.toInt ≥ 0 ∧ x_1.toInt ≥ x8.toInt) ∨ ((0 ≤ r_28.toInt ∧ r_28.toInt ≤ 255) ∧ x_1.toInt ≥ 0 ∧ x_1.toInt < x8.toInt)) := hw_30
        replace hw_31 : (r_28.toInt = taub f0 x8.toInt x_1.toInt) := hw_31
        have rr_28 := n_rng r_28
        refine gd_i (pc := 30) (wc := []) hP hD hS hA [] rfl (by decide +kernel) (fun _ => by rfl) (fun hPc hDc => va_runS (As := [.int r_28]) (rest := []) ⟨hx, hb, hml, hown, hts⟩ (k_X4_isBlank l D cB cC cI cJ _ r_28) ⟨gcwB hts tw_521 tw_2 tw_519 hd_yX4_isBlank ⟨Nat.le_of_ble_eq_true rfl, Nat.le_of_ble_eq_true rfl⟩, hts _ tw_520⟩ (gpreS hPc hK hDc hN) rfl rfl hl.1 rfl (lv_room (Nat.le_of_ble_eq_true rfl)) dX4_goOn_30 ⟨Nat.le_of_ble_eq_true rfl, Nat.le_of_ble_eq_true rfl⟩) (fun r_33 u_32 H locs hw_34 hP hD hS => ?_)
        replace hP : va_P D gcl [(a0, .inr (4, [.ref a1, .ref a2, .int x_1, .int x3, .int x4, .int x5, .int x6, .int x7])), (a1, .inr (9, [.ref a3, .int x8])), (a3, .inl (cB, 1600, .inl f0))] H := hP
        replace hD : va_D A [(a0, .inr (4, [.ref a1, .ref a2, .int x_1, .int x3, .int x4, .int x5, .int x6, .int x7])), (a1, .inr (9, [.ref a3, .int x8])), (a3, .inl (cB, 1600, .inl f0))] := hD
        have hw_35 : ((r_33.toInt = 1 ∧ r_28.toInt = 10) ∨ (r_33.toInt = 0 ∧ ¬ r_28.toInt = 10 ∧ ¬ r_28.toInt = 32) ∨ (r_33.toInt = 1 ∧ ¬ r_28.toInt = 10 ∧ r_28.toInt = 32)) := hw_34
        have rr_33 := n_rng r_33
        refine b_if_eq (pc := 33) (tgt := 49) hx hb rfl  dX4_goOn_33 (by decide) (fun c_36 => ?_) (fun c_36 => ?_)
        ·
          refine lv_aload_n (pc := 49) hx hb dX4_goOn_49 rfl (lv_at hl 0 rfl) ?_
          refine lv_aload_n (pc := 50) hx hb dX4_goOn_50 rfl (lv_at hl 0 rfl) ?_
          refine va_get (pc := 51) (ci := 4) (v := .ref a1) (C := RX4) (T := TX4) (N := 8) hx hb hts iX4 hown hK hP 0 rfl rfl 0 (by decide) (hts _ tw_167) (fun _ h9 => h9) rfl dX4_goOn_51 ?_
          refine lv_aload_n (pc := 54) hx hb dX4_goOn_54 rfl (lv_at hl 0 rfl) ?_
          refine va_get (pc := 55) (ci := 4) (v := .int x_1) (C := RX4) (T := TX4) (N := 8) hx hb hts iX4 hown hK hP 0 rfl rfl 2 (by decide) (hts _ tw_170) (fun _ h9 => h9) rfl dX4_goOn_55 ?_
          refine gd_i (pc := 58) (wc := [(a1, .inr (9, [.ref a3, .int x8])), (a3, .inl (cB, 1600, .inl f0))]) hP hD hS hA [1, 2] rfl (by decide +kernel) (fun _ => by rfl) (fun hPc hDc => va_runV (As := [.int x_1]) (rest := [.ref a0]) ⟨hx, hb, hml, hown, hts⟩ (k_X9_at_E l D cB cC cI cJ _ a1 a3 x_1 x8 f0 h_x8) ⟨gcwB hts tw_518 tw_3 tw_515 hd_yX9_at ⟨Nat.le_of_ble_eq_true rfl, Nat.le_of_ble_eq_true rfl⟩, hts _ tw_516, hts _ tw_517⟩ ⟨gblind, va_recv hK hPc (ci := 9) (q0 := 0) rfl rfl, (gpreS hPc hK hDc hN).2⟩ rfl rfl hl.1 rfl (lv_room (Nat.le_of_ble_eq_true rfl)) dX4_goOn_58 ⟨Nat.le_of_ble_eq_true rfl, Nat.le_of_ble_eq_true rfl⟩) (fun r_38 u_37 H locs hw_39 hP hD hS => ?_)
          replace hP : va_P D gcl [(a0, .inr (4, [.ref a1, .ref a2, .int x_1, .int x3, .int x4, .int x5, .int x6, .int x7])), (a1, .inr (9, [.ref a3, .int x8])), (a3, .inl (cB, 1600, .inl f0))] H := hP
          replace hD : va_D A [(a0, .inr (4, [.ref a1, .ref a2, .int x_1, .int x3, .int x4, .int x5, .int x6, .int x7])), (a1, .inr (9, [.ref a3, .int x8])), (a3, .inl (cB, 1600, .inl f0))] := hD
          obtain ⟨hw_40, hw_41⟩ := hw_39
          replace hw_40 : ((r_38.toInt = (-1) ∧ x_1.toInt < 0) ∨ (r_38.toInt = (-1) ∧ x_1.toInt ≥ 0 ∧ x_1.toInt ≥ x8.toInt) ∨ ((0 ≤ r_38.toInt ∧ r_38.toInt ≤ 255) ∧ x_1.toInt ≥ 0 ∧ x_1.toInt < x8.toInt)) := hw_40
          replace hw_41 : (r_38.toInt = taub f0 x8.toInt x_1.toInt) := hw_41
          have rr_38 := n_rng r_38
          refine va_put (pc := 61) (ci := 4) (v := .int r_38) (ty := .int) (C := RX4) (T := TX4) (N := 8) hx hb hts iX4 tyX4 tyX4_ok nmX4 hown hK hP hD hS 0 rfl rfl 3 (by decide) (hts _ tw_171) (fun _ h9 => h9) rfl (by decide +kernel) rfl rfl (Nat.le_of_ble_eq_true rfl) dX4_goOn_61 (fun H locs hP hD hS => ?_)
          replace hP : va_P D gcl [(a0, .inr (4, [.ref a1, .ref a2, .int x_1, .int r_38, .int x4, .int x5, .int x6, .int x7])), (a1, .inr (9, [.ref a3, .int x8])), (a3, .inl (cB, 1600, .inl f0))] H := hP
          replace hD : va_D A [(a0, .inr (4, [.ref a1, .ref a2, .int x_1, .int r_38, .int x4, .int x5, .int x6, .int x7])), (a1, .inr (9, [.ref a3, .int x8])), (a3, .inl (cB, 1600, .inl f0))] := hD
          refine lv_iload_n (pc := 64) hx hb dX4_goOn_64 rfl (lv_at hl 2 rfl) ?_
          refine b_if_eq (pc := 65) (tgt := 101) hx hb rfl  dX4_goOn_65 (by decide) (fun c_42 => ?_) (fun c_42 => ?_)
          ·
            exact hret ((fun _ => 0), (fun _ => (fun _ => 0)), (fun _ => (fun _ => 0)), (fun k => [x_1, r_38].getD k 0), (fun _ => 0)) dX4_goOn_101 ⟨(show (0 ≤ (x_1 : Int32).toInt ∧ (x_1 : Int32).toInt ≤ 1600) from hi_2), (show ((-1) ≤ (r_38 : Int32).toInt ∧ (r_38 : Int32).toInt ≤ 255) from (by first | exact (om_21 hw_40) | (omega))), (show x_1.toInt = skp (taub f0 x8.toInt) x0.toInt from (skp_at hi_3 (by unfold isBl; first | omega | (have q := taub_out (f := f0) (n := x8.toInt) (i := x_1.toInt) (by omega); omega)) (by first | exact (om_22 hi_2.2 hp1.1) | (omega))).symm), (show r_38.toInt = gsn (taub f0 x8.toInt) x0.toInt x_1.toInt x1.toInt from (by have q := gsn_t (t := (taub f0 x8.toInt)) (p := x0.toInt) (q := x_1.toInt) (nb := x1.toInt) (by unfold isSm isDg; omega); omega)), (show x0.toInt ≤ x_1.toInt from hi_3.1)⟩ (g_psub (wc := [(a0, .inr (4, [.ref a1, .ref a2, .int x_1, .int r_38, .int x4, .int x5, .int x6, .int x7])), (a1, .inr (9, [.ref a3, .int x8])), (a3, .inl (cB, 1600, .inl f0))]) hP [0, 1, 2] rfl) (hD.sub (ws' := [(a0, .inr (4, [.ref a1, .ref a2, .int x_1, .int r_38, .int x4, .int x5, .int x6, .int x7])), (a1, .inr (9, [.ref a3, .int x8])), (a3, .inl (cB, 1600, .inl f0))]) [0, 1, 2] (by decide) rfl) hS
          ·
            refine lv_aload_n (pc := 68) hx hb dX4_goOn_68 rfl (lv_at hl 0 rfl) ?_
            refine va_get (pc := 69) (ci := 4) (v := .int x_1) (C := RX4) (T := TX4) (N := 8) hx hb hts iX4 hown hK hP 0 rfl rfl 2 (by decide) (hts _ tw_170) (fun _ h9 => h9) rfl dX4_goOn_69 ?_
            refine lv_iload_n (pc := 72) hx hb dX4_goOn_72 rfl (lv_at hl 1 rfl) ?_
            refine b_icmp_ne (pc := 73) (tgt := 101) hx hb rfl rfl  dX4_goOn_73 (by decide) (fun c_43 => ?_) (fun c_43 => ?_)
            ·
              exact hret ((fun _ => 0), (fun _ => (fun _ => 0)), (fun _ => (fun _ => 0)), (fun k => [x_1, r_38].getD k 0), (fun _ => 0)) dX4_goOn_101 ⟨(show (0 ≤ (x_1 : Int32).toInt ∧ (x_1 : Int32).toInt ≤ 1600) from hi_2), (show ((-1) ≤ (r_38 : Int32).toInt ∧ (r_38 : Int32).toInt ≤ 255) from (by first | exact (om_21 hw_40) | (omega))), (show x_1.toInt = skp (taub f0 x8.toInt) x0.toInt from (skp_at hi_3 (by unfold isBl; first | omega | (have q := taub_out (f := f0) (n := x8.toInt) (i := x_1.toInt) (by omega); omega)) (by first | exact (om_22 hi_2.2 hp1.1) | (omega))).symm), (show r_38.toInt = gsn (taub f0 x8.toInt) x0.toInt x_1.toInt x1.toInt from (by have q := gsn_t (t := (taub f0 x8.toInt)) (p := x0.toInt) (q := x_1.toInt) (nb := x1.toInt) (by unfold isSm isDg; omega); omega)), (show x0.toInt ≤ x_1.toInt from hi_3.1)⟩ (g_psub (wc := [(a0, .inr (4, [.ref a1, .ref a2, .int x_1, .int r_38, .int x4, .int x5, .int x6, .int x7])), (a1, .inr (9, [.ref a3, .int x8])), (a3, .inl (cB, 1600, .inl f0))]) hP [0, 1, 2] rfl) (hD.sub (ws' := [(a0, .inr (4, [.ref a1, .ref a2, .int x_1, .int r_38, .int x4, .int x5, .int x6, .int x7])), (a1, .inr (9, [.ref a3, .int x8])), (a3, .inl (cB, 1600, .inl f0))]) [0, 1, 2] (by decide) rfl) hS
            ·
              refine lv_aload_n (pc := 76) hx hb dX4_goOn_76 rfl (lv_at hl 0 rfl) ?_
              refine va_get (pc := 77) (ci := 4) (v := .int r_38) (C := RX4) (T := TX4) (N := 8) hx hb hts iX4 hown hK hP 0 rfl rfl 3 (by decide) (hts _ tw_171) (fun _ h9 => h9) rfl dX4_goOn_77 ?_
              refine gd_i (pc := 80) (wc := []) hP hD hS hA [] rfl (by decide +kernel) (fun _ => by rfl) (fun hPc hDc => va_runS (As := [.int r_38]) (rest := []) ⟨hx, hb, hml, hown, hts⟩ (k_X4_isSmall l D cB cC cI cJ _ r_38) ⟨gcwB hts tw_524 tw_2 tw_522 hd_yX4_isSmall ⟨Nat.le_of_ble_eq_true rfl, Nat.le_of_ble_eq_true rfl⟩, hts _ tw_523⟩ (gpreS hPc hK hDc hN) rfl rfl hl.1 rfl (lv_room (Nat.le_of_ble_eq_true rfl)) dX4_goOn_80 ⟨Nat.le_of_ble_eq_true rfl, Nat.le_of_ble_eq_true rfl⟩) (fun r_45 u_44 H locs hw_46 hP hD hS => ?_)
              replace hP : va_P D gcl [(a0, .inr (4, [.ref a1, .ref a2, .int x_1, .int r_38, .int x4, .int x5, .int x6, .int x7])), (a1, .inr (9, [.ref a3, .int x8])), (a3, .inl (cB, 1600, .inl f0))] H := hP
              replace hD : va_D A [(a0, .inr (4, [.ref a1, .ref a2, .int x_1, .int r_38, .int x4, .int x5, .int x6, .int x7])), (a1, .inr (9, [.ref a3, .int x8])), (a3, .inl (cB, 1600, .inl f0))] := hD
              have hw_47 : ((r_45.toInt = 0 ∧ r_38.toInt < 97) ∨ (r_45.toInt = 0 ∧ r_38.toInt ≥ 97 ∧ r_38.toInt > 122) ∨ (r_45.toInt = 1 ∧ r_38.toInt ≥ 97 ∧ r_38.toInt ≤ 122)) := hw_46
              have rr_45 := n_rng r_45
              refine b_if_ne (pc := 83) (tgt := 96) hx hb rfl  dX4_goOn_83 (by decide) (fun c_48 => ?_) (fun c_48 => ?_)
              ·
                refine lv_aload_n (pc := 96) hx hb dX4_goOn_96 rfl (lv_at hl 0 rfl) ?_
                refine lv_iconst (pc := 97) (v := 0) hx hb dX4_goOn_97 (by decide) ?_
                refine va_put (pc := 98) (ci := 4) (v := .int 0) (ty := .int) (C := RX4) (T := TX4) (N := 8) hx hb hts iX4 tyX4 tyX4_ok nmX4 hown hK hP hD hS 0 rfl rfl 3 (by decide) (hts _ tw_171) (fun _ h9 => h9) rfl (by decide +kernel) (by decide +kernel) (by decide +kernel) (Nat.le_of_ble_eq_true rfl) dX4_goOn_98 (fun H locs hP hD hS => ?_)
                replace hP : va_P D gcl [(a0, .inr (4, [.ref a1, .ref a2, .int x_1, .int 0, .int x4, .int x5, .int x6, .int x7])), (a1, .inr (9, [.ref a3, .int x8])), (a3, .inl (cB, 1600, .inl f0))] H := hP
                replace hD : va_D A [(a0, .inr (4, [.ref a1, .ref a2, .int x_1, .int 0, .int x4, .int x5, .int x6, .int x7])), (a1, .inr (9, [.ref a3, .int x8])), (a3, .inl (cB, 1600, .inl f0))] := hD
                have k8_0 := tI_0
                exact hret ((fun _ => 0), (fun _ => (fun _ => 0)), (fun _ => (fun _ => 0)), (fun k => [x_1, 0].getD k 0), (fun _ => 0)) dX4_goOn_101 ⟨(show (0 ≤ (x_1 : Int32).toInt ∧ (x_1 : Int32).toInt ≤ 1600) from hi_2), (show ((-1) ≤ (0 : Int32).toInt ∧ (0 : Int32).toInt ≤ 255) from (n_c tI_0 (by decide))), (show x_1.toInt = skp (taub f0 x8.toInt) x0.toInt from (skp_at hi_3 (by unfold isBl; first | omega | (have q := taub_out (f := f0) (n := x8.toInt) (i := x_1.toInt) (by omega); omega)) (by first | exact (om_23 c_43) | (omega))).symm), (show (0 : Int32).toInt = gsn (taub f0 x8.toInt) x0.toInt x_1.toInt x1.toInt from (by have q := gsn_g (t := (taub f0 x8.toInt)) (p := x0.toInt) (q := x_1.toInt) (nb := x1.toInt) (by omega) (by omega) (by unfold isSm isDg; omega); omega)), (show x0.toInt ≤ x_1.toInt from hi_3.1)⟩ (g_psub (wc := [(a0, .inr (4, [.ref a1, .ref a2, .int x_1, .int 0, .int x4, .int x5, .int x6, .int x7])), (a1, .inr (9, [.ref a3, .int x8])), (a3, .inl (cB, 1600, .inl f0))]) hP [0, 1, 2] rfl) (hD.sub (ws' := [(a0, .inr (4, [.ref a1, .ref a2, .int x_1, .int 0, .int x4, .int x5, .int x6, .int x7])), (a1, .inr (9, [.ref a3, .int x8])), (a3, .inl (cB, 1600, .inl f0))]) [0, 1, 2] (by decide) rfl) hS
              ·
                refine lv_aload_n (pc := 86) hx hb dX4_goOn_86 rfl (lv_at hl 0 rfl) ?_
                refine va_get (pc := 87) (ci := 4) (v := .int r_38) (C := RX4) (T := TX4) (N := 8) hx hb hts iX4 hown hK hP 0 rfl rfl 3 (by decide) (hts _ tw_171) (fun _ h9 => h9) rfl dX4_goOn_87 ?_
                refine gd_i (pc := 90) (wc := []) hP hD hS hA [] rfl (by decide +kernel) (fun _ => by rfl) (fun hPc hDc => va_runS (As := [.int r_38]) (rest := []) ⟨hx, hb, hml, hown, hts⟩ (k_X4_isDigit l D cB cC cI cJ _ r_38) ⟨gcwB hts tw_527 tw_2 tw_525 hd_yX4_isDigit ⟨Nat.le_of_ble_eq_true rfl, Nat.le_of_ble_eq_true rfl⟩, hts _ tw_526⟩ (gpreS hPc hK hDc hN) rfl rfl hl.1 rfl (lv_room (Nat.le_of_ble_eq_true rfl)) dX4_goOn_90 ⟨Nat.le_of_ble_eq_true rfl, Nat.le_of_ble_eq_true rfl⟩) (fun r_50 u_49 H locs hw_51 hP hD hS => ?_)
                replace hP : va_P D gcl [(a0, .inr (4, [.ref a1, .ref a2, .int x_1, .int r_38, .int x4, .int x5, .int x6, .int x7])), (a1, .inr (9, [.ref a3, .int x8])), (a3, .inl (cB, 1600, .inl f0))] H := hP
                replace hD : va_D A [(a0, .inr (4, [.ref a1, .ref a2, .int x_1, .int r_38, .int x4, .int x5, .int x6, .int x7])), (a1, .inr (9, [.ref a3, .int x8])), (a3, .inl (cB, 1600, .inl f0))] := hD
                have hw_52 : ((r_50.toInt = 0 ∧ r_38.toInt < 48) ∨ (r_50.toInt = 0 ∧ r_38.toInt ≥ 48 ∧ r_38.toInt > 57) ∨ (r_50.toInt = 1 ∧ r_38.toInt ≥ 48 ∧ r_38.toInt ≤ 57)) := hw_51
                have rr_50 := n_rng r_50
                refine b_if_eq (pc := 93) (tgt := 101) hx hb rfl  dX4_goOn_93 (by decide) (fun c_53 => ?_) (fun c_53 => ?_)
                ·
                  exact hret ((fun _ => 0), (fun _ => (fun _ => 0)), (fun _ => (fun _ => 0)), (fun k => [x_1, r_38].getD k 0), (fun _ => 0)) dX4_goOn_101 ⟨(show (0 ≤ (x_1 : Int32).toInt ∧ (x_1 : Int32).toInt ≤ 1600) from hi_2), (show ((-1) ≤ (r_38 : Int32).toInt ∧ (r_38 : Int32).toInt ≤ 255) from (by first | exact (om_21 hw_40) | (omega))), (show x_1.toInt = skp (taub f0 x8.toInt) x0.toInt from (skp_at hi_3 (by unfold isBl; first | omega | (have q := taub_out (f := f0) (n := x8.toInt) (i := x_1.toInt) (by omega); omega)) (by first | exact (om_23 c_43) | (omega))).symm), (show r_38.toInt = gsn (taub f0 x8.toInt) x0.toInt x_1.toInt x1.toInt from (by have q := gsn_t (t := (taub f0 x8.toInt)) (p := x0.toInt) (q := x_1.toInt) (nb := x1.toInt) (by unfold isSm isDg; omega); omega)), (show x0.toInt ≤ x_1.toInt from hi_3.1)⟩ (g_psub (wc := [(a0, .inr (4, [.ref a1, .ref a2, .int x_1, .int r_38, .int x4, .int x5, .int x6, .int x7])), (a1, .inr (9, [.ref a3, .int x8])), (a3, .inl (cB, 1600, .inl f0))]) hP [0, 1, 2] rfl) (hD.sub (ws' := [(a0, .inr (4, [.ref a1, .ref a2, .int x_1, .int r_38, .int x4, .int x5, .int x6, .int x7])), (a1, .inr (9, [.ref a3, .int x8])), (a3, .inl (cB, 1600, .inl f0))]) [0, 1, 2] (by decide) rfl) hS
                ·
                  refine lv_aload_n (pc := 96) hx hb dX4_goOn_96 rfl (lv_at hl 0 rfl) ?_
                  refine lv_iconst (pc := 97) (v := 0) hx hb dX4_goOn_97 (by decide) ?_
                  refine va_put (pc := 98) (ci := 4) (v := .int 0) (ty := .int) (C := RX4) (T := TX4) (N := 8) hx hb hts iX4 tyX4 tyX4_ok nmX4 hown hK hP hD hS 0 rfl rfl 3 (by decide) (hts _ tw_171) (fun _ h9 => h9) rfl (by decide +kernel) (by decide +kernel) (by decide +kernel) (Nat.le_of_ble_eq_true rfl) dX4_goOn_98 (fun H locs hP hD hS => ?_)
                  replace hP : va_P D gcl [(a0, .inr (4, [.ref a1, .ref a2, .int x_1, .int 0, .int x4, .int x5, .int x6, .int x7])), (a1, .inr (9, [.ref a3, .int x8])), (a3, .inl (cB, 1600, .inl f0))] H := hP
                  replace hD : va_D A [(a0, .inr (4, [.ref a1, .ref a2, .int x_1, .int 0, .int x4, .int x5, .int x6, .int x7])), (a1, .inr (9, [.ref a3, .int x8])), (a3, .inl (cB, 1600, .inl f0))] := hD
                  have k8_0 := tI_0
                  exact hret ((fun _ => 0), (fun _ => (fun _ => 0)), (fun _ => (fun _ => 0)), (fun k => [x_1, 0].getD k 0), (fun _ => 0)) dX4_goOn_101 ⟨(show (0 ≤ (x_1 : Int32).toInt ∧ (x_1 : Int32).toInt ≤ 1600) from hi_2), (show ((-1) ≤ (0 : Int32).toInt ∧ (0 : Int32).toInt ≤ 255) from (n_c tI_0 (by decide))), (show x_1.toInt = skp (taub f0 x8.toInt) x0.toInt from (skp_at hi_3 (by unfold isBl; first | omega | (have q := taub_out (f := f0) (n := x8.toInt) (i := x_1.toInt) (by omega); omega)) (by first | exact (om_23 c_43) | (omega))).symm), (show (0 : Int32).toInt = gsn (taub f0 x8.toInt) x0.toInt x_1.toInt x1.toInt from (by have q := gsn_g (t := (taub f0 x8.toInt)) (p := x0.toInt) (q := x_1.toInt) (nb := x1.toInt) (by omega) (by omega) (by unfold isSm isDg; omega); omega)), (show x0.toInt ≤ x_1.toInt from hi_3.1)⟩ (g_psub (wc := [(a0, .inr (4, [.ref a1, .ref a2, .int x_1, .int 0, .int x4, .int x5, .int x6, .int x7])), (a1, .inr (9, [.ref a3, .int x8])), (a3, .inl (cB, 1600, .inl f0))]) hP [0, 1, 2] rfl) (hD.sub (ws' := [(a0, .inr (4, [.ref a1, .ref a2, .int x_1, .int 0, .int x4, .int x5, .int x6, .int x7])), (a1, .inr (9, [.ref a3, .int x8])), (a3, .inl (cB, 1600, .inl f0))]) [0, 1, 2] (by decide) rfl) hS
        ·
          refine lv_aload_n (pc := 36) hx hb dX4_goOn_36 rfl (lv_at hl 0 rfl) ?_
          refine lv_dup (pc := 37) hx hb dX4_goOn_37 rfl ?_
          refine va_get (pc := 38) (ci := 4) (v := .int x_1) (C := RX4) (T := TX4) (N := 8) hx hb hts iX4 hown hK hP 0 rfl rfl 2 (by decide) (hts _ tw_170) (fun _ h9 => h9) rfl dX4_goOn_38 ?_
          refine lv_iconst (pc := 41) (v := 1) hx hb dX4_goOn_41 (by decide) ?_
          refine b_iadd (pc := 42) hx hb rfl tI_1 (by first | exact (om_2 hi_2.1) | (omega)) (by first | exact (om_24 hi_2.2) | (omega)) dX4_goOn_42 (fun x_54 ex_54 => ?_)
          refine va_put (pc := 43) (ci := 4) (v := .int x_54) (ty := .int) (C := RX4) (T := TX4) (N := 8) hx hb hts iX4 tyX4 tyX4_ok nmX4 hown hK hP hD hS 0 rfl rfl 2 (by decide) (hts _ tw_170) (fun _ h9 => h9) rfl (by decide +kernel) rfl rfl (Nat.le_of_ble_eq_true rfl) dX4_goOn_43 (fun H locs hP hD hS => ?_)
          replace hP : va_P D gcl [(a0, .inr (4, [.ref a1, .ref a2, .int x_54, .int x3, .int x4, .int x5, .int x6, .int x7])), (a1, .inr (9, [.ref a3, .int x8])), (a3, .inl (cB, 1600, .inl f0))] H := hP
          replace hD : va_D A [(a0, .inr (4, [.ref a1, .ref a2, .int x_54, .int x3, .int x4, .int x5, .int x6, .int x7])), (a1, .inr (9, [.ref a3, .int x8])), (a3, .inl (cB, 1600, .inl f0))] := hD
          refine lv_goto (pc := 46) (tgt := 5) hx hb dX4_goOn_46 (by decide) ?_
          exact ih_lp_4 x_54 _ _ ls (by first | exact (om_25 ex_54 hi_2.1 c_9 hw_8 h_x8.2) | (omega)) (bls_up hi_3 (by unfold isBl; omega) (by first | exact (om_5 ex_54) | (omega))) (by omega) hP hD hS (lv_sub hl [0, 1, 2] rfl)
  exact lp_4 _ x0 _ _ ls hp1 (bls_nil) (Nat.lt_succ_self _) hP hD hS (lv_sub hl [0, 1, 2] rfl)
theorem om_26 : (¬ (1 = 0)) := by omega
set_option maxHeartbeats 4000000 in
set_option maxRecDepth 100000 in
theorem k_J0_coder_7d493 (l : Launch) (D : va_G) (cB cC cI cJ : ClassId) (sz : Nat) (adK adV : Nat → Nat) (i : Nat) (hi : i < 15) : Met l yJ0_coder_7d493 (.code yJ0_coder_7d493 cJ0_coder_7d493 1 (some .byte) :: lw_gd) ({ frames := 0, cells := 0, slots := 0, locals := 0 }) (gPreT D [(cB, .byte), (cC, .char), (cI, .int), (cJ, .long)] [.ref (adK i)] [] sz adK adV) (va_Qi (fun r u => (0 ≤ r.toInt ∧ r.toInt ≤ 0)) (gB D (va_A [] sz) (fun u : gEx => [])) (va_A [] sz)) 0 0 (va_A [] sz) := by
  refine gOfT_b (by decide +kernel) (Nat.le_of_ble_eq_true rfl) ?_
  intro p e s m args below meth c ls A Q hx hb hts hown hml hN hK hP hD hA hl hF hret
  have hlen := s_len hi
  replace hown : s.vm.findClass RJ0 = some m.cls := hown
  have hS : va_S A s.heap s.heap [] := va_S.rf
  replace hP : va_P D gcl [] s.heap := hP
  replace hl : lv_has ls 1 [(0, .ref (adK i))] := hl
  refine va_gets (pc := 0) (v := .int 1) hx hb hF.2.2.1 hS hown (hts _ tw_561) (fun _ h9 => h9) dJ0_coder_7d493_0 ?_
  refine b_if_eq (pc := 3) (tgt := 13) hx hb tI_1  dJ0_coder_7d493_3 (by decide) (fun c_1 => absurd c_1 (by first | exact (om_26) | (omega))) (fun c_1 => ?_)
  refine lv_aload_n (pc := 6) hx hb dJ0_coder_7d493_6 rfl (lv_at hl 0 rfl) ?_
  refine vk_getf (pc := 7) (v := .int 0) hx hb (hF.1.1 i hi).2.1 hS hown (hts _ tw_2111) (fun _ h9 => h9) dJ0_coder_7d493_7 ?_
  refine lv_goto (pc := 10) (tgt := 14) hx hb dJ0_coder_7d493_10 (by decide) ?_
  exact hret 0 ((fun _ => 0), (fun _ => (fun _ => 0)), (fun _ => (fun _ => 0)), (fun _ => 0), (fun _ => 0)) dJ0_coder_7d493_14 ⟨(by have k9 := tI_0; omega), (show (0 ≤ (0 : Int32).toInt ∧ (0 : Int32).toInt ≤ 0) from (n_c tI_0 (by decide)))⟩ (g_psub (wc := []) hP [] rfl) (hD.sub (ws' := []) [] (by decide) rfl) hS
set_option maxHeartbeats 4000000 in
set_option maxRecDepth 100000 in
theorem k_J0_length_8abf5 (l : Launch) (D : va_G) (cB cC cI cJ : ClassId) (sz : Nat) (adK adV : Nat → Nat) (i : Nat) (hi : i < 15) : Met l yJ0_length_8abf5 (.code yJ0_length_8abf5 cJ0_length_8abf5 1 (some .int) :: lw_gd) ({ frames := 1, cells := 0, slots := 0, locals := 20 }) (gPreT D [(cB, .byte), (cC, .char), (cI, .int), (cJ, .long)] [.ref (adK i)] [] sz adK adV) (va_Qi (fun r u => (0 ≤ r.toInt ∧ r.toInt ≤ 6) ∧ (r.toInt = ((lenS.getD i 0 : Nat) : Int))) (gB D (va_A [] sz) (fun u : gEx => [])) (va_A [] sz)) 0 0 (va_A [] sz) := by
  refine gOfT_i (by decide +kernel) (Nat.le_of_ble_eq_true rfl) ?_
  intro p e s m args below meth c ls A Q hx hb hts hown hml hN hK hP hD hA hl hF hret
  have hlen := s_len hi
  replace hown : s.vm.findClass RJ0 = some m.cls := hown
  have hS : va_S A s.heap s.heap [] := va_S.rf
  replace hP : va_P D gcl [] s.heap := hP
  replace hl : lv_has ls 1 [(0, .ref (adK i))] := hl
  refine lv_aload_n (pc := 0) hx hb dJ0_length_8abf5_0 rfl (lv_at hl 0 rfl) ?_
  refine vk_getf (pc := 1) (v := .ref (adV i)) hx hb (hF.1.1 i hi).2.2.1 hS hown (hts _ tw_2110) (fun _ h9 => h9) dJ0_length_8abf5_1 ?_
  refine va_tlen (pc := 4) hx hb (hF.1.1 i hi).2.2.2 hS rfl dJ0_length_8abf5_4 ?_
  refine lv_aload_n (pc := 5) hx hb dJ0_length_8abf5_5 rfl (lv_at hl 0 rfl) ?_
  refine gd_i (pc := 6) (wc := []) hP hD hS hA [] rfl (by decide +kernel) (fun _ => by rfl) (fun hPc hDc => va_runV (As := []) (rest := [.int (Int32.ofNat (lenS.getD i 0))]) ⟨hx, hb, hml, hown, hts⟩ (k_J0_coder_7d493 l D cB cC cI cJ _ adK adV i hi) ⟨gcwB hts tw_560 tw_15 tw_557 hd_yJ0_coder_7d493 ⟨Nat.le_of_ble_eq_true rfl, Nat.le_of_ble_eq_true rfl⟩, hts _ tw_558, hts _ tw_559⟩ ⟨gblindT, vk_recv hF.1 hi hS, (gpreT hPc hK hDc hN hF hS (va_free (wc := []) hD hS hA [] rfl)).2⟩ rfl rfl hl.1 rfl (lv_room (Nat.le_of_ble_eq_true rfl)) dJ0_length_8abf5_6 ⟨Nat.le_of_ble_eq_true rfl, Nat.le_of_ble_eq_true rfl⟩) (fun r_2 u_1 H locs hw_3 hP hD hS => ?_)
  replace hP : va_P D gcl [] H := hP
  replace hD : va_D A [] := hD
  have hw_4 : (0 ≤ r_2.toInt ∧ r_2.toInt ≤ 0) := hw_3
  have rr_2 := n_rng r_2
  have h_5 : r_2 = 0 := Int32.toInt_inj.mp ((show r_2.toInt = 0 by omega).trans tI_0.symm)
  subst h_5
  refine lv_ishr (pc := 9) hx hb dJ0_length_8abf5_9 ?_
  refine gI (y := (Int32.ofNat (lenS.getD i 0))) (s_shr hi) ?_
  exact hret (Int32.ofNat (lenS.getD i 0)) ((fun _ => 0), (fun _ => (fun _ => 0)), (fun _ => (fun _ => 0)), (fun _ => 0), (fun _ => 0)) dJ0_length_8abf5_10 ⟨(show (0 ≤ (Int32.ofNat (lenS.getD i 0)).toInt ∧ (Int32.ofNat (lenS.getD i 0)).toInt ≤ 6) from (by omega)), (show (Int32.ofNat (lenS.getD i 0)).toInt = ((lenS.getD i 0 : Nat) : Int) from (by omega))⟩ (g_psub (wc := []) hP [] rfl) (hD.sub (ws' := []) [] (by decide) rfl) hS
theorem om_27 : (¬ (¬ 0 = 0)) := by omega
theorem om_28 {a : Int} (h0 : (a = 1)) : (a = 1) := by omega
set_option maxHeartbeats 4000000 in
set_option maxRecDepth 100000 in
theorem k_J0_isLatin1_aae02 (l : Launch) (D : va_G) (cB cC cI cJ : ClassId) (sz : Nat) (adK adV : Nat → Nat) (i : Nat) (hi : i < 15) : Met l yJ0_isLatin1_aae02 (.code yJ0_isLatin1_aae02 cJ0_isLatin1_aae02 1 (some .boolean) :: lw_gd) ({ frames := 0, cells := 0, slots := 0, locals := 0 }) (gPreT D [(cB, .byte), (cC, .char), (cI, .int), (cJ, .long)] [.ref (adK i)] [] sz adK adV) (va_Qi (fun r u => (1 ≤ r.toInt ∧ r.toInt ≤ 1) ∧ (r.toInt = 1)) (gB D (va_A [] sz) (fun u : gEx => [])) (va_A [] sz)) 0 0 (va_A [] sz) := by
  refine gOfT_z (by decide +kernel) (Nat.le_of_ble_eq_true rfl) ?_
  intro p e s m args below meth c ls A Q hx hb hts hown hml hN hK hP hD hA hl hF hret
  have hlen := s_len hi
  replace hown : s.vm.findClass RJ0 = some m.cls := hown
  have hS : va_S A s.heap s.heap [] := va_S.rf
  replace hP : va_P D gcl [] s.heap := hP
  replace hl : lv_has ls 1 [(0, .ref (adK i))] := hl
  refine va_gets (pc := 0) (v := .int 1) hx hb hF.2.2.1 hS hown (hts _ tw_561) (fun _ h9 => h9) dJ0_isLatin1_aae02_0 ?_
  refine b_if_eq (pc := 3) (tgt := 17) hx hb tI_1  dJ0_isLatin1_aae02_3 (by decide) (fun c_1 => absurd c_1 (by first | exact (om_26) | (omega))) (fun c_1 => ?_)
  refine lv_aload_n (pc := 6) hx hb dJ0_isLatin1_aae02_6 rfl (lv_at hl 0 rfl) ?_
  refine vk_getf (pc := 7) (v := .int 0) hx hb (hF.1.1 i hi).2.1 hS hown (hts _ tw_2111) (fun _ h9 => h9) dJ0_isLatin1_aae02_7 ?_
  refine b_if_ne (pc := 10) (tgt := 17) hx hb tI_0  dJ0_isLatin1_aae02_10 (by decide) (fun c_2 => absurd c_2 (by first | exact (om_27) | (omega))) (fun c_2 => ?_)
  refine lv_iconst (pc := 13) (v := 1) hx hb dJ0_isLatin1_aae02_13 (by decide) ?_
  refine lv_goto (pc := 14) (tgt := 18) hx hb dJ0_isLatin1_aae02_14 (by decide) ?_
  have k9 := tI_1
  exact hret 1 ((fun _ => 0), (fun _ => (fun _ => 0)), (fun _ => (fun _ => 0)), (fun _ => 0), (fun _ => 0)) dJ0_isLatin1_aae02_18 ⟨(Or.inr tI_1), ⟨(show (1 ≤ (1 : Int32).toInt ∧ (1 : Int32).toInt ≤ 1) from (n_c tI_1 (by decide))), (show (1 : Int32).toInt = 1 from (by first | exact (om_28 tI_1) | (have k9 := tI_1; omega)))⟩⟩ (g_psub (wc := []) hP [] rfl) (hD.sub (ws' := []) [] (by decide) rfl) hS
theorem om_29 {a b : Int} (h0 : (a ≥ 0)) (h1 : (a < b)) (h2 : (b ≤ 2147483647)) : ((0 ≤ a ∧ a ≤ 2147483646)) := by omega
set_option maxHeartbeats 4000000 in
set_option maxRecDepth 100000 in
theorem k_J3_checkIndex_8e157_n (l : Launch) (D : va_G) (cB cC cI cJ : ClassId) (sz : Nat) (x0 x1 : Int32) (hg__k : 0 ≤ x0.toInt ∧ x0.toInt < x1.toInt) : Met l yJ3_checkIndex_8e157 (.code yJ3_checkIndex_8e157 cJ3_checkIndex_8e157 3 (some .int) :: lw_gd) ({ frames := 0, cells := 0, slots := 0, locals := 0 }) (gPre D [(cB, .byte), (cC, .char), (cI, .int), (cJ, .long)] [.int x0, .int x1, .null] [] sz) (va_Qi (fun r u => (0 ≤ r.toInt ∧ r.toInt ≤ 2147483646)) (gB D (va_A [] sz) (fun u : gEx => [])) (va_A [] sz)) 0 0 (va_A [] sz) := by
  refine gOf_i (by decide +kernel) (Nat.le_of_ble_eq_true rfl) ?_
  intro p e s m args below meth c ls A Q hx hb hts hown hml hN hK hP hD hA hl hret
  replace hown : s.vm.findClass RJ3 = some m.cls := hown
  have hS : va_S A s.heap s.heap [] := va_S.rf
  replace hP : va_P D gcl [] s.heap := hP
  replace hl : lv_has ls 3 [(0, .int x0), (1, .int x1), (2, .null)] := hl
  have rx0 := n_rng x0
  have rx1 := n_rng x1
  refine lv_iload_n (pc := 0) hx hb dJ3_checkIndex_8e157_0 rfl (lv_at hl 0 rfl) ?_
  refine b_if_lt (pc := 1) (tgt := 9) hx hb rfl  dJ3_checkIndex_8e157_1 (by decide) (fun c_1 => ?_) (fun c_1 => ?_)
  ·
    exact False.elim (by omega)
  ·
    refine lv_iload_n (pc := 4) hx hb dJ3_checkIndex_8e157_4 rfl (lv_at hl 0 rfl) ?_
    refine lv_iload_n (pc := 5) hx hb dJ3_checkIndex_8e157_5 rfl (lv_at hl 1 rfl) ?_
    refine b_icmp_lt (pc := 6) (tgt := 16) hx hb rfl rfl  dJ3_checkIndex_8e157_6 (by decide) (fun c_2 => ?_) (fun c_2 => ?_)
    ·
      refine lv_iload_n (pc := 16) hx hb dJ3_checkIndex_8e157_16 rfl (lv_at hl 0 rfl) ?_
      exact hret x0 ((fun _ => 0), (fun _ => (fun _ => 0)), (fun _ => (fun _ => 0)), (fun _ => 0), (fun _ => 0)) dJ3_checkIndex_8e157_17 (show (0 ≤ x0.toInt ∧ x0.toInt ≤ 2147483646) from (by first | exact (om_29 c_1 c_2 rx1.2) | (omega))) (g_psub (wc := []) hP [] rfl) (hD.sub (ws' := []) [] (by decide) rfl) hS
    ·
      exact False.elim (by omega)
set_option maxHeartbeats 4000000 in
set_option maxRecDepth 100000 in
theorem k_J3_checkIndex_8e157 (l : Launch) (D : va_G) (cB cC cI cJ : ClassId) (sz : Nat) (a0 : Nat) (x0 x1 : Int32) (hg__k : 0 ≤ x0.toInt ∧ x0.toInt < x1.toInt) : Met l yJ3_checkIndex_8e157 (.code yJ3_checkIndex_8e157 cJ3_checkIndex_8e157 3 (some .int) :: lw_gd) ({ frames := 0, cells := 0, slots := 0, locals := 0 }) (gPre D [(cB, .byte), (cC, .char), (cI, .int), (cJ, .long)] [.int x0, .int x1, .ref a0] [] sz) (va_Qi (fun r u => (0 ≤ r.toInt ∧ r.toInt ≤ 2147483646)) (gB D (va_A [] sz) (fun u : gEx => [])) (va_A [] sz)) 0 0 (va_A [] sz) := by
  refine gOf_i (by decide +kernel) (Nat.le_of_ble_eq_true rfl) ?_
  intro p e s m args below meth c ls A Q hx hb hts hown hml hN hK hP hD hA hl hret
  replace hown : s.vm.findClass RJ3 = some m.cls := hown
  have hS : va_S A s.heap s.heap [] := va_S.rf
  replace hP : va_P D gcl [] s.heap := hP
  replace hl : lv_has ls 3 [(0, .int x0), (1, .int x1), (2, .ref a0)] := hl
  have rx0 := n_rng x0
  have rx1 := n_rng x1
  refine lv_iload_n (pc := 0) hx hb dJ3_checkIndex_8e157_0 rfl (lv_at hl 0 rfl) ?_
  refine b_if_lt (pc := 1) (tgt := 9) hx hb rfl  dJ3_checkIndex_8e157_1 (by decide) (fun c_1 => ?_) (fun c_1 => ?_)
  ·
    exact False.elim (by omega)
  ·
    refine lv_iload_n (pc := 4) hx hb dJ3_checkIndex_8e157_4 rfl (lv_at hl 0 rfl) ?_
    refine lv_iload_n (pc := 5) hx hb dJ3_checkIndex_8e157_5 rfl (lv_at hl 1 rfl) ?_
    refine b_icmp_lt (pc := 6) (tgt := 16) hx hb rfl rfl  dJ3_checkIndex_8e157_6 (by decide) (fun c_2 => ?_) (fun c_2 => ?_)
    ·
      refine lv_iload_n (pc := 16) hx hb dJ3_checkIndex_8e157_16 rfl (lv_at hl 0 rfl) ?_
      exact hret x0 ((fun _ => 0), (fun _ => (fun _ => 0)), (fun _ => (fun _ => 0)), (fun _ => 0), (fun _ => 0)) dJ3_checkIndex_8e157_17 (show (0 ≤ x0.toInt ∧ x0.toInt ≤ 2147483646) from (by first | exact (om_29 c_1 c_2 rx1.2) | (omega))) (g_psub (wc := []) hP [] rfl) (hD.sub (ws' := []) [] (by decide) rfl) hS
    ·
      exact False.elim (by omega)
set_option maxHeartbeats 4000000 in
set_option maxRecDepth 100000 in
theorem k_J0_checkIndex_df160 (l : Launch) (D : va_G) (cB cC cI cJ : ClassId) (sz : Nat) (adK adV : Nat → Nat) (x0 x1 : Int32) (hg__k : 0 ≤ x0.toInt ∧ x0.toInt < x1.toInt) : Met l yJ0_checkIndex_df160 (.code yJ0_checkIndex_df160 cJ0_checkIndex_df160 2 none :: lw_gd) ({ frames := 1, cells := 0, slots := 0, locals := 22 }) (gPreT D [(cB, .byte), (cC, .char), (cI, .int), (cJ, .long)] [.int x0, .int x1] [] sz adK adV) (va_Qv (fun u => True) (gB D (va_A [] sz) (fun u : gEx => [])) (va_A [] sz)) 0 0 (va_A [] sz) := by
  refine gOfT_v (by decide +kernel) (Nat.le_of_ble_eq_true rfl) ?_
  intro p e s m args below meth c ls A Q hx hb hts hown hml hN hK hP hD hA hl hF hret
  replace hown : s.vm.findClass RJ0 = some m.cls := hown
  have hS : va_S A s.heap s.heap [] := va_S.rf
  replace hP : va_P D gcl [] s.heap := hP
  replace hl : lv_has ls 2 [(0, .int x0), (1, .int x1)] := hl
  have rx0 := n_rng x0
  have rx1 := n_rng x1
  refine lv_iload_n (pc := 0) hx hb dJ0_checkIndex_df160_0 rfl (lv_at hl 0 rfl) ?_
  refine lv_iload_n (pc := 1) hx hb dJ0_checkIndex_df160_1 rfl (lv_at hl 1 rfl) ?_
  rcases hF.2.2.2 with hz_1 | ⟨zt_2, hz_1⟩
  ·
    refine va_gets (pc := 2) (v := .null) hx hb hz_1 hS hown (hts _ tw_577) (fun _ h9 => h9) dJ0_checkIndex_df160_2 ?_
    refine gd_i (pc := 5) (wc := []) hP hD hS hA [] rfl (by decide +kernel) (fun _ => by rfl) (fun hPc hDc => va_runS (As := [.int x0, .int x1, .null]) (rest := []) ⟨hx, hb, hml, hown, hts⟩ (k_J3_checkIndex_8e157_n l D cB cC cI cJ _ x0 x1 hg__k) ⟨gcwB hts tw_581 tw_17 tw_579 hd_yJ3_checkIndex_8e157 ⟨Nat.le_of_ble_eq_true rfl, Nat.le_of_ble_eq_true rfl⟩, hts _ tw_580⟩ (gpreS hPc hK hDc hN) rfl rfl hl.1 rfl (lv_room (Nat.le_of_ble_eq_true rfl)) dJ0_checkIndex_df160_5 ⟨Nat.le_of_ble_eq_true rfl, Nat.le_of_ble_eq_true rfl⟩) (fun r_4 u_3 H locs hw_5 hP hD hS => ?_)
    replace hP : va_P D gcl [] H := hP
    replace hD : va_D A [] := hD
    have hw_6 : (0 ≤ r_4.toInt ∧ r_4.toInt ≤ 2147483646) := hw_5
    have rr_4 := n_rng r_4
    refine lv_pop (pc := 8) hx hb dJ0_checkIndex_df160_8 rfl ?_
    exact hret ((fun _ => 0), (fun _ => (fun _ => 0)), (fun _ => (fun _ => 0)), (fun _ => 0), (fun _ => 0)) dJ0_checkIndex_df160_9 trivial (g_psub (wc := []) hP [] rfl) (hD.sub (ws' := []) [] (by decide) rfl) hS
  ·
    refine va_gets (pc := 2) (v := .ref zt_2) hx hb hz_1 hS hown (hts _ tw_577) (fun _ h9 => h9) dJ0_checkIndex_df160_2 ?_
    refine gd_i (pc := 5) (wc := []) hP hD hS hA [] rfl (by decide +kernel) (fun _ => by rfl) (fun hPc hDc => va_runS (As := [.int x0, .int x1, .ref zt_2]) (rest := []) ⟨hx, hb, hml, hown, hts⟩ (k_J3_checkIndex_8e157 l D cB cC cI cJ _ zt_2 x0 x1 hg__k) ⟨gcwB hts tw_581 tw_17 tw_579 hd_yJ3_checkIndex_8e157 ⟨Nat.le_of_ble_eq_true rfl, Nat.le_of_ble_eq_true rfl⟩, hts _ tw_580⟩ (gpreS hPc hK hDc hN) rfl rfl hl.1 rfl (lv_room (Nat.le_of_ble_eq_true rfl)) dJ0_checkIndex_df160_5 ⟨Nat.le_of_ble_eq_true rfl, Nat.le_of_ble_eq_true rfl⟩) (fun r_8 u_7 H locs hw_9 hP hD hS => ?_)
    replace hP : va_P D gcl [] H := hP
    replace hD : va_D A [] := hD
    have hw_10 : (0 ≤ r_8.toInt ∧ r_8.toInt ≤ 2147483646) := hw_9
    have rr_8 := n_rng r_8
    refine lv_pop (pc := 8) hx hb dJ0_checkIndex_df160_8 rfl ?_
    exact hret ((fun _ => 0), (fun _ => (fun _ => 0)), (fun _ => (fun _ => 0)), (fun _ => 0), (fun _ => 0)) dJ0_checkIndex_df160_9 trivial (g_psub (wc := []) hP [] rfl) (hD.sub (ws' := []) [] (by decide) rfl) hS
set_option maxHeartbeats 4000000 in
set_option maxRecDepth 100000 in
theorem k_J1_charAt_3b067 (l : Launch) (D : va_G) (cB cC cI cJ : ClassId) (sz : Nat) (adK adV : Nat → Nat) (i : Nat) (hi : i < 15) (x0 : Int32) (hg__k : 0 ≤ x0.toInt ∧ x0.toInt < ((lenS.getD i 0 : Nat) : Int)) : Met l yJ1_charAt_3b067 (.code yJ1_charAt_3b067 cJ1_charAt_3b067 2 (some .char) :: lw_gd) ({ frames := 2, cells := 0, slots := 0, locals := 43 }) (gPreT D [(cB, .byte), (cC, .char), (cI, .int), (cJ, .long)] [.ref (adV i), .int x0] [] sz adK adV) (va_Qi (fun r u => (narrow .char (.int r) = (.int r : Value)) ∧ (r.toInt = (wL.getD i []).getD (x0.toInt).toNat 0)) (gB D (va_A [] sz) (fun u : gEx => [])) (va_A [] sz)) 0 0 (va_A [] sz) := by
  refine gOfT_c (by decide +kernel) (Nat.le_of_ble_eq_true rfl) ?_
  intro p e s m args below meth c ls A Q hx hb hts hown hml hN hK hP hD hA hl hF hret
  have hlen := s_len hi
  replace hown : s.vm.findClass RJ1 = some m.cls := hown
  have hS : va_S A s.heap s.heap [] := va_S.rf
  replace hP : va_P D gcl [] s.heap := hP
  replace hl : lv_has ls 2 [(0, .ref (adV i)), (1, .int x0)] := hl
  have rx0 := n_rng x0
  refine lv_iload_n (pc := 0) hx hb dJ1_charAt_3b067_0 rfl (lv_at hl 1 rfl) ?_
  refine lv_aload_n (pc := 1) hx hb dJ1_charAt_3b067_1 rfl (lv_at hl 0 rfl) ?_
  refine va_tlen (pc := 2) hx hb (hF.1.1 i hi).2.2.2 hS rfl dJ1_charAt_3b067_2 ?_
  refine gd_v (pc := 3) (wc := []) hP hD hS hA [] rfl (by decide +kernel) (fun _ => by rfl) (fun hPc hDc => va_runS (As := [.int x0, .int (Int32.ofNat (lenS.getD i 0))]) (rest := []) ⟨hx, hb, hml, hown, hts⟩ (k_J0_checkIndex_df160 l D cB cC cI cJ _ adK adV x0 (Int32.ofNat (lenS.getD i 0)) (by omega)) ⟨gcwB hts tw_576 tw_15 tw_574 hd_yJ0_checkIndex_df160 ⟨Nat.le_of_ble_eq_true rfl, Nat.le_of_ble_eq_true rfl⟩, hts _ tw_575⟩ (gpreT hPc hK hDc hN hF hS (va_free (wc := []) hD hS hA [] rfl)) rfl rfl hl.1 rfl (lv_room (Nat.le_of_ble_eq_true rfl)) dJ1_charAt_3b067_3 ⟨Nat.le_of_ble_eq_true rfl, Nat.le_of_ble_eq_true rfl⟩) (fun u_1 H locs hw_3 hP hD hS => ?_)
  replace hP : va_P D gcl [] H := hP
  replace hD : va_D A [] := hD
  refine lv_aload_n (pc := 6) hx hb dJ1_charAt_3b067_6 rfl (lv_at hl 0 rfl) ?_
  refine lv_iload_n (pc := 7) hx hb dJ1_charAt_3b067_7 rfl (lv_at hl 1 rfl) ?_
  refine va_tb (pc := 8) hx hb (hF.1.1 i hi).2.2.2 hS (n_in rfl (by omega) (by omega)) rfl dJ1_charAt_3b067_8 ?_
  refine lv_sipush (pc := 9) (v := 255) hx hb dJ1_charAt_3b067_9 (by decide) ?_
  refine lv_iand (pc := 12) hx hb dJ1_charAt_3b067_12 ?_
  refine lv_i2c (pc := 13) hx hb dJ1_charAt_3b067_13 rfl ?_
  refine lv_topi (fun x_4 ex_4 => ?_)
  have rx_4 := n_rng x_4
  have nrx_4 : narrow .char (.int x_4) = .int x_4 := (by rw [ex_4]; exact s_nar hi (show x0.toInt.toNat < 6 by omega))
  exact hret x_4 ((fun _ => 0), (fun _ => (fun _ => 0)), (fun _ => (fun _ => 0)), (fun _ => 0), (fun _ => 0)) dJ1_charAt_3b067_14 ⟨nrx_4, ⟨(show narrow .char (.int x_4) = (.int x_4 : Value) from nrx_4), (show x_4.toInt = (wL.getD i []).getD (x0.toInt).toNat 0 from (s_ch hi (show (x0.toInt).toNat < 6 by omega) ex_4))⟩⟩ (g_psub (wc := []) hP [] rfl) (hD.sub (ws' := []) [] (by decide) rfl) hS
theorem om_30 {a : Int} (h0 : (a = 1)) : (¬ (a = 0)) := by omega
set_option maxHeartbeats 4000000 in
set_option maxRecDepth 100000 in
theorem k_J0_charAt_5068e (l : Launch) (D : va_G) (cB cC cI cJ : ClassId) (sz : Nat) (adK adV : Nat → Nat) (i : Nat) (hi : i < 15) (x0 : Int32) (hg__k : 0 ≤ x0.toInt ∧ x0.toInt < ((lenS.getD i 0 : Nat) : Int)) : Met l yJ0_charAt_5068e (.code yJ0_charAt_5068e cJ0_charAt_5068e 2 (some .char) :: lw_gd) ({ frames := 3, cells := 0, slots := 0, locals := 64 }) (gPreT D [(cB, .byte), (cC, .char), (cI, .int), (cJ, .long)] [.ref (adK i), .int x0] [] sz adK adV) (va_Qi (fun r u => (r.toInt = (wL.getD i []).getD (x0.toInt).toNat 0)) (gB D (va_A [] sz) (fun u : gEx => [])) (va_A [] sz)) 0 0 (va_A [] sz) := by
  refine gOfT_c (by decide +kernel) (Nat.le_of_ble_eq_true rfl) ?_
  intro p e s m args below meth c ls A Q hx hb hts hown hml hN hK hP hD hA hl hF hret
  have hlen := s_len hi
  replace hown : s.vm.findClass RJ0 = some m.cls := hown
  have hS : va_S A s.heap s.heap [] := va_S.rf
  replace hP : va_P D gcl [] s.heap := hP
  replace hl : lv_has ls 2 [(0, .ref (adK i)), (1, .int x0)] := hl
  have rx0 := n_rng x0
  refine lv_aload_n (pc := 0) hx hb dJ0_charAt_5068e_0 rfl (lv_at hl 0 rfl) ?_
  refine gd_i (pc := 1) (wc := []) hP hD hS hA [] rfl (by decide +kernel) (fun _ => by rfl) (fun hPc hDc => va_runV (As := []) (rest := []) ⟨hx, hb, hml, hown, hts⟩ (k_J0_isLatin1_aae02 l D cB cC cI cJ _ adK adV i hi) ⟨gcwB hts tw_570 tw_15 tw_567 hd_yJ0_isLatin1_aae02 ⟨Nat.le_of_ble_eq_true rfl, Nat.le_of_ble_eq_true rfl⟩, hts _ tw_568, hts _ tw_569⟩ ⟨gblindT, vk_recv hF.1 hi hS, (gpreT hPc hK hDc hN hF hS (va_free (wc := []) hD hS hA [] rfl)).2⟩ rfl rfl hl.1 rfl (lv_room (Nat.le_of_ble_eq_true rfl)) dJ0_charAt_5068e_1 ⟨Nat.le_of_ble_eq_true rfl, Nat.le_of_ble_eq_true rfl⟩) (fun r_2 u_1 H locs hw_3 hP hD hS => ?_)
  replace hP : va_P D gcl [] H := hP
  replace hD : va_D A [] := hD
  obtain ⟨hw_4, hw_5⟩ := hw_3
  replace hw_4 : (1 ≤ r_2.toInt ∧ r_2.toInt ≤ 1) := hw_4
  replace hw_5 : (r_2.toInt = 1) := hw_5
  have rr_2 := n_rng r_2
  refine b_if_eq (pc := 4) (tgt := 16) hx hb rfl  dJ0_charAt_5068e_4 (by decide) (fun c_6 => absurd c_6 (by first | exact (om_30 hw_5) | (omega))) (fun c_6 => ?_)
  refine lv_aload_n (pc := 7) hx hb dJ0_charAt_5068e_7 rfl (lv_at hl 0 rfl) ?_
  refine vk_getf (pc := 8) (v := .ref (adV i)) hx hb (hF.1.1 i hi).2.2.1 hS hown (hts _ tw_2110) (fun _ h9 => h9) dJ0_charAt_5068e_8 ?_
  refine lv_iload_n (pc := 11) hx hb dJ0_charAt_5068e_11 rfl (lv_at hl 1 rfl) ?_
  refine gd_i (pc := 12) (wc := []) hP hD hS hA [] rfl (by decide +kernel) (fun _ => by rfl) (fun hPc hDc => va_runS (As := [.ref (adV i), .int x0]) (rest := []) ⟨hx, hb, hml, hown, hts⟩ (k_J1_charAt_3b067 l D cB cC cI cJ _ adK adV i hi x0 hg__k) ⟨gcwB hts tw_573 tw_16 tw_571 hd_yJ1_charAt_3b067 ⟨Nat.le_of_ble_eq_true rfl, Nat.le_of_ble_eq_true rfl⟩, hts _ tw_572⟩ (gpreT hPc hK hDc hN hF hS (va_free (wc := []) hD hS hA [] rfl)) rfl rfl hl.1 rfl (lv_room (Nat.le_of_ble_eq_true rfl)) dJ0_charAt_5068e_12 ⟨Nat.le_of_ble_eq_true rfl, Nat.le_of_ble_eq_true rfl⟩) (fun r_8 u_7 H locs hw_9 hP hD hS => ?_)
  replace hP : va_P D gcl [] H := hP
  replace hD : va_D A [] := hD
  obtain ⟨hw_10, hw_11⟩ := hw_9
  replace hw_10 : (narrow .char (.int r_8) = (.int r_8 : Value)) := hw_10
  replace hw_11 : (r_8.toInt = (wL.getD i []).getD (x0.toInt).toNat 0) := hw_11
  have rr_8 := n_rng r_8
  exact hret r_8 ((fun _ => 0), (fun _ => (fun _ => 0)), (fun _ => (fun _ => 0)), (fun _ => 0), (fun _ => 0)) dJ0_charAt_5068e_15 ⟨hw_10, (show r_8.toInt = (wL.getD i []).getD (x0.toInt).toNat 0 from hw_11)⟩ (g_psub (wc := []) hP [] rfl) (hD.sub (ws' := []) [] (by decide) rfl) hS
theorem om_31 {a : Int} (h0 : (a = 0)) : (a = 0) := by omega
theorem om_32 {a b : Int} (h0 : ((-2147483648) ≤ b)) (h1 : (0 ≤ a)) : (-2147483648 ≤ a + b) := by omega
theorem om_33 {a b : Int} (h0 : (b ≤ 6)) (h1 : (a ≤ 1600)) : (a + b ≤ 2147483647) := by omega
theorem om_34 {a : Int} (h0 : (¬ a = 0)) : (¬ a = 0) := by omega
theorem om_35 {a b : Int} (h0 : ((b = 0 ∧ a < 97) ∨ (b = 0 ∧ a ≥ 97 ∧ a > 122) ∨ (b = 1 ∧ a ≥ 97 ∧ a ≤ 122))) (h1 : (b = 0)) : (¬ (97 ≤ a ∧ a ≤ 122)) := by omega
theorem om_36 {a : Int} (h0 : (a = 1)) : (¬ a = 0) := by omega
theorem om_37 {a b : Int} (h0 : (0 ≤ b)) (h1 : (0 ≤ a)) : (-2147483648 ≤ a + b) := by omega
theorem om_38 {a : Int} (h0 : (a ≤ 6)) : (a + 1 ≤ 2147483647) := by omega
theorem om_39 {a b c : Int} (h0 : (a = b + 1)) (h1 : (0 ≤ b)) (h2 : (b < c)) (h3 : (c ≤ 6)) : ((0 ≤ a ∧ a ≤ 6)) := by omega
theorem om_40 {a b c : Int} (h0 : (a = c + 1)) (h1 : (c < b)) : ((a ≤ b)) := by omega
theorem om_41 {a b : Int} (h0 : (a = b)) : (a = b) := by omega
theorem om_42 {a b : Int} (h0 : (0 ≤ b)) (h1 : (a = 0)) : ((a ≤ b)) := by omega
theorem om_43 {a : Int} (h0 : (a = 0)) : (a ≤ 0) := by omega
set_option maxHeartbeats 4000000 in
set_option maxRecDepth 100000 in
theorem k_X4_isWordAhead (l : Launch) (D : va_G) (cB cC cI cJ : ClassId) (sz : Nat) (adK adV : Nat → Nat) (i : Nat) (hi : i < 15) (a0 a1 a2 a3 : Nat) (x0 x1 x2 x3 x4 x5 x6 : Int32) (f0 : Nat → Int32) (h_x0 : (0 ≤ x0.toInt ∧ x0.toInt ≤ 1600)) (h_x1 : ((-1) ≤ x1.toInt ∧ x1.toInt ≤ 255)) (h_x2 : (0 ≤ x2.toInt ∧ x2.toInt ≤ 1600)) (h_x4 : (0 ≤ x4.toInt ∧ x4.toInt ≤ 4)) (h_x5 : ((-1) ≤ x5.toInt ∧ x5.toInt ≤ 1600)) (h_x6 : (0 ≤ x6.toInt ∧ x6.toInt ≤ 1600)) : Met l yX4_isWordAhead (.code yX4_isWordAhead cX4_isWordAhead 4 (some .boolean) :: lw_gd) ({ frames := 4, cells := 0, slots := 0, locals := 85 }) (gPreT D [(cB, .byte), (cC, .char), (cI, .int), (cJ, .long)] [.ref a0, .ref (adK i)] [(a0, .inr (4, [.ref a1, .ref a2, .int x0, .int x1, .int x2, .int x3, .int x4, .int x5])), (a1, .inr (9, [.ref a3, .int x6])), (a3, .inl (cB, 1600, .inl f0))] sz adK adV) (va_Qi (fun r u => (0 ≤ r.toInt ∧ r.toInt ≤ 1) ∧ (waQ (taub f0 x6.toInt) x0.toInt x1.toInt (wL.getD i []) r.toInt)) (gB D (va_A [(a0, .inr (4, [.ref a1, .ref a2, .int x0, .int x1, .int x2, .int x3, .int x4, .int x5])), (a1, .inr (9, [.ref a3, .int x6])), (a3, .inl (cB, 1600, .inl f0))] sz) (fun u : gEx => [(a0, .inr (4, [.ref a1, .ref a2, .int x0, .int x1, .int x2, .int x3, .int x4, .int x5])), (a1, .inr (9, [.ref a3, .int x6])), (a3, .inl (cB, 1600, .inl f0))])) (va_A [(a0, .inr (4, [.ref a1, .ref a2, .int x0, .int x1, .int x2, .int x3, .int x4, .int x5])), (a1, .inr (9, [.ref a3, .int x6])), (a3, .inl (cB, 1600, .inl f0))] sz)) 0 0 (va_A [(a0, .inr (4, [.ref a1, .ref a2, .int x0, .int x1, .int x2, .int x3, .int x4, .int x5])), (a1, .inr (9, [.ref a3, .int x6])), (a3, .inl (cB, 1600, .inl f0))] sz) := by
  refine gOfT_z (by decide +kernel) (Nat.le_of_ble_eq_true rfl) ?_
  intro p e s m args below meth c ls A Q hx hb hts hown hml hN hK hP hD hA hl hF hret
  have hlen := s_len hi
  replace hown : s.vm.findClass RX4 = some m.cls := hown
  have hS : va_S A s.heap s.heap [] := va_S.rf
  replace hP : va_P D gcl [(a0, .inr (4, [.ref a1, .ref a2, .int x0, .int x1, .int x2, .int x3, .int x4, .int x5])), (a1, .inr (9, [.ref a3, .int x6])), (a3, .inl (cB, 1600, .inl f0))] s.heap := hP
  replace hl : lv_has ls 4 [(0, .ref a0), (1, .ref (adK i))] := hl
  have rx3 := n_rng x3
  refine lv_aload_n (pc := 0) hx hb dX4_isWordAhead_0 rfl (lv_at hl 1 rfl) ?_
  refine gd_i (pc := 1) (wc := []) hP hD hS hA [] rfl (by decide +kernel) (fun _ => by rfl) (fun hPc hDc => va_runV (As := []) (rest := []) ⟨hx, hb, hml, hown, hts⟩ (k_J0_length_8abf5 l D cB cC cI cJ _ adK adV i hi) ⟨gcwB hts tw_556 tw_15 tw_553 hd_yJ0_length_8abf5 ⟨Nat.le_of_ble_eq_true rfl, Nat.le_of_ble_eq_true rfl⟩, hts _ tw_554, hts _ tw_555⟩ ⟨gblindT, vk_recv hF.1 hi hS, (gpreT hPc hK hDc hN hF hS (va_free (wc := []) hD hS hA [] rfl)).2⟩ rfl rfl hl.1 rfl (lv_room (Nat.le_of_ble_eq_true rfl)) dX4_isWordAhead_1 ⟨Nat.le_of_ble_eq_true rfl, Nat.le_of_ble_eq_true rfl⟩) (fun r_2 u_1 H locs hw_3 hP hD hS => ?_)
  replace hP : va_P D gcl [(a0, .inr (4, [.ref a1, .ref a2, .int x0, .int x1, .int x2, .int x3, .int x4, .int x5])), (a1, .inr (9, [.ref a3, .int x6])), (a3, .inl (cB, 1600, .inl f0))] H := hP
  replace hD : va_D A [(a0, .inr (4, [.ref a1, .ref a2, .int x0, .int x1, .int x2, .int x3, .int x4, .int x5])), (a1, .inr (9, [.ref a3, .int x6])), (a3, .inl (cB, 1600, .inl f0))] := hD
  obtain ⟨hw_4, hw_5⟩ := hw_3
  replace hw_4 : (0 ≤ r_2.toInt ∧ r_2.toInt ≤ 6) := hw_4
  replace hw_5 : (r_2.toInt = ((lenS.getD i 0 : Nat) : Int)) := hw_5
  have rr_2 := n_rng r_2
  refine lv_istore_n (pc := 4) (lv' := [(2, .int r_2), (0, .ref a0), (1, .ref (adK i))]) hx hb dX4_isWordAhead_4 rfl hl (by decide) rfl (fun ls hl => ?_)
  refine lv_iconst (pc := 5) (v := 0) hx hb dX4_isWordAhead_5 (by decide) ?_
  refine lv_istore_n (pc := 6) (lv' := [(3, .int 0), (2, .int r_2), (0, .ref a0), (1, .ref (adK i))]) hx hb dX4_isWordAhead_6 rfl hl (by decide) rfl (fun ls hl => ?_)
  have lp_10 : ∀ (n : Nat) (x_6 : Int32) (H : Heap) (locs : List Loc) (ls : Array Slot), (0 ≤ x_6.toInt ∧ x_6.toInt ≤ 6) → (x_6.toInt ≤ r_2.toInt) → (mtk (taub f0 x6.toInt) x0.toInt (wL.getD i []) x_6.toInt) → (2147483647 - x_6.toInt).toNat < n → va_P D gcl [(a0, .inr (4, [.ref a1, .ref a2, .int x0, .int x1, .int x2, .int x3, .int x4, .int x5])), (a1, .inr (9, [.ref a3, .int x6])), (a3, .inl (cB, 1600, .inl f0))] H → va_D A [(a0, .inr (4, [.ref a1, .ref a2, .int x0, .int x1, .int x2, .int x3, .int x4, .int x5])), (a1, .inr (9, [.ref a3, .int x6])), (a3, .inl (cB, 1600, .inl f0))] → va_S A s.heap H locs → lv_has ls 4 [(3, .int x_6), (2, .int r_2), (0, .ref a0), (1, .ref (adK i))] → W p l e ({ frames := 4, cells := 0, slots := 0, locals := 85 }) s m args below meth c H locs 0 0 Q (F0 m 7 ls []) := by
    intro n
    induction n with
    | zero => intro x_6 H locs ls hi_7 hi_8 hi_9 hmu; exact absurd hmu (Nat.not_lt_zero _)
    | succ n ih_lp_10 =>
      intro x_6 H locs ls hi_7 hi_8 hi_9 hmu_lp_10 hP hD hS hl
      refine lv_iload_n (pc := 7) hx hb dX4_isWordAhead_7 rfl (lv_at hl 0 rfl) ?_
      refine lv_iload_n (pc := 8) hx hb dX4_isWordAhead_8 rfl (lv_at hl 1 rfl) ?_
      refine b_icmp_ge (pc := 9) (tgt := 41) hx hb rfl rfl  dX4_isWordAhead_9 (by decide) (fun c_11 => ?_) (fun c_11 => ?_)
      ·
        refine lv_aload_n (pc := 41) hx hb dX4_isWordAhead_41 rfl (lv_at hl 2 rfl) ?_
        refine va_get (pc := 42) (ci := 4) (v := .int x1) (C := RX4) (T := TX4) (N := 8) hx hb hts iX4 hown hK hP 0 rfl rfl 3 (by decide) (hts _ tw_171) (fun _ h9 => h9) rfl dX4_isWordAhead_42 ?_
        refine b_if_eq (pc := 45) (tgt := 71) hx hb rfl  dX4_isWordAhead_45 (by decide) (fun c_12 => ?_) (fun c_12 => ?_)
        ·
          refine lv_iconst (pc := 71) (v := 0) hx hb dX4_isWordAhead_71 (by decide) ?_
          have k9 := tI_0
          exact hret 0 ((fun _ => 0), (fun _ => (fun _ => 0)), (fun _ => (fun _ => 0)), (fun _ => 0), (fun _ => 0)) dX4_isWordAhead_72 ⟨(Or.inl tI_0), ⟨(show (0 ≤ (0 : Int32).toInt ∧ (0 : Int32).toInt ≤ 1) from (n_c tI_0 (by decide))), (show waQ (taub f0 x6.toInt) x0.toInt x1.toInt (wL.getD i []) (0 : Int32).toInt from wa_no0 (by first | exact (om_31 c_12) | (omega)) (by first | exact (om_31 tI_0) | (omega)))⟩⟩ (g_psub (wc := [(a0, .inr (4, [.ref a1, .ref a2, .int x0, .int x1, .int x2, .int x3, .int x4, .int x5])), (a1, .inr (9, [.ref a3, .int x6])), (a3, .inl (cB, 1600, .inl f0))]) hP [0, 1, 2] rfl) (hD.sub (ws' := [(a0, .inr (4, [.ref a1, .ref a2, .int x0, .int x1, .int x2, .int x3, .int x4, .int x5])), (a1, .inr (9, [.ref a3, .int x6])), (a3, .inl (cB, 1600, .inl f0))]) [0, 1, 2] (by decide) rfl) hS
        ·
          refine lv_aload_n (pc := 48) hx hb dX4_isWordAhead_48 rfl (lv_at hl 2 rfl) ?_
          refine va_get (pc := 49) (ci := 4) (v := .ref a1) (C := RX4) (T := TX4) (N := 8) hx hb hts iX4 hown hK hP 0 rfl rfl 0 (by decide) (hts _ tw_167) (fun _ h9 => h9) rfl dX4_isWordAhead_49 ?_
          refine lv_aload_n (pc := 52) hx hb dX4_isWordAhead_52 rfl (lv_at hl 2 rfl) ?_
          refine va_get (pc := 53) (ci := 4) (v := .int x0) (C := RX4) (T := TX4) (N := 8) hx hb hts iX4 hown hK hP 0 rfl rfl 2 (by decide) (hts _ tw_170) (fun _ h9 => h9) rfl dX4_isWordAhead_53 ?_
          refine lv_iload_n (pc := 56) hx hb dX4_isWordAhead_56 rfl (lv_at hl 1 rfl) ?_
          refine b_iadd (pc := 57) hx hb rfl rfl (by first | exact (om_32 rr_2.1 h_x0.1) | (omega)) (by first | exact (om_33 hw_4.2 h_x0.2) | (omega)) dX4_isWordAhead_57 (fun x_13 ex_13 => ?_)
          refine gd_i (pc := 58) (wc := [(a1, .inr (9, [.ref a3, .int x6])), (a3, .inl (cB, 1600, .inl f0))]) hP hD hS hA [1, 2] rfl (by decide +kernel) (fun _ => by rfl) (fun hPc hDc => va_runV (As := [.int x_13]) (rest := []) ⟨hx, hb, hml, hown, hts⟩ (k_X9_at_E l D cB cC cI cJ _ a1 a3 x_13 x6 f0 h_x6) ⟨gcwB hts tw_518 tw_3 tw_515 hd_yX9_at ⟨Nat.le_of_ble_eq_true rfl, Nat.le_of_ble_eq_true rfl⟩, hts _ tw_516, hts _ tw_517⟩ ⟨gblind, va_recv hK hPc (ci := 9) (q0 := 0) rfl rfl, (gpreS hPc hK hDc hN).2⟩ rfl rfl hl.1 rfl (lv_room (Nat.le_of_ble_eq_true rfl)) dX4_isWordAhead_58 ⟨Nat.le_of_ble_eq_true rfl, Nat.le_of_ble_eq_true rfl⟩) (fun r_15 u_14 H locs hw_16 hP hD hS => ?_)
          replace hP : va_P D gcl [(a0, .inr (4, [.ref a1, .ref a2, .int x0, .int x1, .int x2, .int x3, .int x4, .int x5])), (a1, .inr (9, [.ref a3, .int x6])), (a3, .inl (cB, 1600, .inl f0))] H := hP
          replace hD : va_D A [(a0, .inr (4, [.ref a1, .ref a2, .int x0, .int x1, .int x2, .int x3, .int x4, .int x5])), (a1, .inr (9, [.ref a3, .int x6])), (a3, .inl (cB, 1600, .inl f0))] := hD
          obtain ⟨hw_17, hw_18⟩ := hw_16
          replace hw_17 : ((r_15.toInt = (-1) ∧ x_13.toInt < 0) ∨ (r_15.toInt = (-1) ∧ x_13.toInt ≥ 0 ∧ x_13.toInt ≥ x6.toInt) ∨ ((0 ≤ r_15.toInt ∧ r_15.toInt ≤ 255) ∧ x_13.toInt ≥ 0 ∧ x_13.toInt < x6.toInt)) := hw_17
          replace hw_18 : (r_15.toInt = taub f0 x6.toInt x_13.toInt) := hw_18
          have rr_15 := n_rng r_15
          refine gd_i (pc := 61) (wc := []) hP hD hS hA [] rfl (by decide +kernel) (fun _ => by rfl) (fun hPc hDc => va_runS (As := [.int r_15]) (rest := []) ⟨hx, hb, hml, hown, hts⟩ (k_X4_isSmall l D cB cC cI cJ _ r_15) ⟨gcwB hts tw_524 tw_2 tw_522 hd_yX4_isSmall ⟨Nat.le_of_ble_eq_true rfl, Nat.le_of_ble_eq_true rfl⟩, hts _ tw_523⟩ (gpreS hPc hK hDc hN) rfl rfl hl.1 rfl (lv_room (Nat.le_of_ble_eq_true rfl)) dX4_isWordAhead_61 ⟨Nat.le_of_ble_eq_true rfl, Nat.le_of_ble_eq_true rfl⟩) (fun r_20 u_19 H locs hw_21 hP hD hS => ?_)
          replace hP : va_P D gcl [(a0, .inr (4, [.ref a1, .ref a2, .int x0, .int x1, .int x2, .int x3, .int x4, .int x5])), (a1, .inr (9, [.ref a3, .int x6])), (a3, .inl (cB, 1600, .inl f0))] H := hP
          replace hD : va_D A [(a0, .inr (4, [.ref a1, .ref a2, .int x0, .int x1, .int x2, .int x3, .int x4, .int x5])), (a1, .inr (9, [.ref a3, .int x6])), (a3, .inl (cB, 1600, .inl f0))] := hD
          have hw_22 : ((r_20.toInt = 0 ∧ r_15.toInt < 97) ∨ (r_20.toInt = 0 ∧ r_15.toInt ≥ 97 ∧ r_15.toInt > 122) ∨ (r_20.toInt = 1 ∧ r_15.toInt ≥ 97 ∧ r_15.toInt ≤ 122)) := hw_21
          have rr_20 := n_rng r_20
          refine b_if_ne (pc := 64) (tgt := 71) hx hb rfl  dX4_isWordAhead_64 (by decide) (fun c_23 => ?_) (fun c_23 => ?_)
          ·
            refine lv_iconst (pc := 71) (v := 0) hx hb dX4_isWordAhead_71 (by decide) ?_
            have k9 := tI_0
            exact hret 0 ((fun _ => 0), (fun _ => (fun _ => 0)), (fun _ => (fun _ => 0)), (fun _ => 0), (fun _ => 0)) dX4_isWordAhead_72 ⟨(Or.inl tI_0), ⟨(show (0 ≤ (0 : Int32).toInt ∧ (0 : Int32).toInt ≤ 1) from (n_c tI_0 (by decide))), (show waQ (taub f0 x6.toInt) x0.toInt x1.toInt (wL.getD i []) (0 : Int32).toInt from wa_more (n := r_2.toInt) (by have q := s_wl hi; omega) (show _ = x0.toInt + r_2.toInt by omega) hw_18 (by first | exact (om_31 tI_0) | (omega)) (by omega))⟩⟩ (g_psub (wc := [(a0, .inr (4, [.ref a1, .ref a2, .int x0, .int x1, .int x2, .int x3, .int x4, .int x5])), (a1, .inr (9, [.ref a3, .int x6])), (a3, .inl (cB, 1600, .inl f0))]) hP [0, 1, 2] rfl) (hD.sub (ws' := [(a0, .inr (4, [.ref a1, .ref a2, .int x0, .int x1, .int x2, .int x3, .int x4, .int x5])), (a1, .inr (9, [.ref a3, .int x6])), (a3, .inl (cB, 1600, .inl f0))]) [0, 1, 2] (by decide) rfl) hS
          ·
            refine lv_iconst (pc := 67) (v := 1) hx hb dX4_isWordAhead_67 (by decide) ?_
            refine lv_goto (pc := 68) (tgt := 72) hx hb dX4_isWordAhead_68 (by decide) ?_
            have k9 := tI_1
            exact hret 1 ((fun _ => 0), (fun _ => (fun _ => 0)), (fun _ => (fun _ => 0)), (fun _ => 0), (fun _ => 0)) dX4_isWordAhead_72 ⟨(Or.inr tI_1), ⟨(show (0 ≤ (1 : Int32).toInt ∧ (1 : Int32).toInt ≤ 1) from (n_c tI_1 (by decide))), (show waQ (taub f0 x6.toInt) x0.toInt x1.toInt (wL.getD i []) (1 : Int32).toInt from wa_yes hi_9 (by have q := s_wl hi; omega) (by first | exact (om_34 c_12) | (omega)) (show _ = x0.toInt + x_6.toInt by omega) hw_18 (by first | exact (om_35 hw_22 c_23) | (omega)) (by first | exact (om_36 tI_1) | (omega)))⟩⟩ (g_psub (wc := [(a0, .inr (4, [.ref a1, .ref a2, .int x0, .int x1, .int x2, .int x3, .int x4, .int x5])), (a1, .inr (9, [.ref a3, .int x6])), (a3, .inl (cB, 1600, .inl f0))]) hP [0, 1, 2] rfl) (hD.sub (ws' := [(a0, .inr (4, [.ref a1, .ref a2, .int x0, .int x1, .int x2, .int x3, .int x4, .int x5])), (a1, .inr (9, [.ref a3, .int x6])), (a3, .inl (cB, 1600, .inl f0))]) [0, 1, 2] (by decide) rfl) hS
      ·
        refine lv_aload_n (pc := 12) hx hb dX4_isWordAhead_12 rfl (lv_at hl 2 rfl) ?_
        refine va_get (pc := 13) (ci := 4) (v := .ref a1) (C := RX4) (T := TX4) (N := 8) hx hb hts iX4 hown hK hP 0 rfl rfl 0 (by decide) (hts _ tw_167) (fun _ h9 => h9) rfl dX4_isWordAhead_13 ?_
        refine lv_aload_n (pc := 16) hx hb dX4_isWordAhead_16 rfl (lv_at hl 2 rfl) ?_
        refine va_get (pc := 17) (ci := 4) (v := .int x0) (C := RX4) (T := TX4) (N := 8) hx hb hts iX4 hown hK hP 0 rfl rfl 2 (by decide) (hts _ tw_170) (fun _ h9 => h9) rfl dX4_isWordAhead_17 ?_
        refine lv_iload_n (pc := 20) hx hb dX4_isWordAhead_20 rfl (lv_at hl 0 rfl) ?_
        refine b_iadd (pc := 21) hx hb rfl rfl (by first | exact (om_37 hi_7.1 h_x0.1) | (omega)) (by first | exact (om_33 hi_7.2 h_x0.2) | (omega)) dX4_isWordAhead_21 (fun x_24 ex_24 => ?_)
        refine gd_i (pc := 22) (wc := [(a1, .inr (9, [.ref a3, .int x6])), (a3, .inl (cB, 1600, .inl f0))]) hP hD hS hA [1, 2] rfl (by decide +kernel) (fun _ => by rfl) (fun hPc hDc => va_runV (As := [.int x_24]) (rest := []) ⟨hx, hb, hml, hown, hts⟩ (k_X9_at_E l D cB cC cI cJ _ a1 a3 x_24 x6 f0 h_x6) ⟨gcwB hts tw_518 tw_3 tw_515 hd_yX9_at ⟨Nat.le_of_ble_eq_true rfl, Nat.le_of_ble_eq_true rfl⟩, hts _ tw_516, hts _ tw_517⟩ ⟨gblind, va_recv hK hPc (ci := 9) (q0 := 0) rfl rfl, (gpreS hPc hK hDc hN).2⟩ rfl rfl hl.1 rfl (lv_room (Nat.le_of_ble_eq_true rfl)) dX4_isWordAhead_22 ⟨Nat.le_of_ble_eq_true rfl, Nat.le_of_ble_eq_true rfl⟩) (fun r_26 u_25 H locs hw_27 hP hD hS => ?_)
        replace hP : va_P D gcl [(a0, .inr (4, [.ref a1, .ref a2, .int x0, .int x1, .int x2, .int x3, .int x4, .int x5])), (a1, .inr (9, [.ref a3, .int x6])), (a3, .inl (cB, 1600, .inl f0))] H := hP
        replace hD : va_D A [(a0, .inr (4, [.ref a1, .ref a2, .int x0, .int x1, .int x2, .int x3, .int x4, .int x5])), (a1, .inr (9, [.ref a3, .int x6])), (a3, .inl (cB, 1600, .inl f0))] := hD
        obtain ⟨hw_28, hw_29⟩ := hw_27
        replace hw_28 : ((r_26.toInt = (-1) ∧ x_24.toInt < 0) ∨ (r_26.toInt = (-1) ∧ x_24.toInt ≥ 0 ∧ x_24.toInt ≥ x6.toInt) ∨ ((0 ≤ r_26.toInt ∧ r_26.toInt ≤ 255) ∧ x_24.toInt ≥ 0 ∧ x_24.toInt < x6.toInt)) := hw_28
        replace hw_29 : (r_26.toInt = taub f0 x6.toInt x_24.toInt) := hw_29
        have rr_26 := n_rng r_26
        refine lv_aload_n (pc := 25) hx hb dX4_isWordAhead_25 rfl (lv_at hl 3 rfl) ?_
        refine lv_iload_n (pc := 26) hx hb dX4_isWordAhead_26 rfl (lv_at hl 0 rfl) ?_
        refine gd_i (pc := 27) (wc := []) hP hD hS hA [] rfl (by decide +kernel) (fun _ => by rfl) (fun hPc hDc => va_runV (As := [.int x_6]) (rest := [.int r_26]) ⟨hx, hb, hml, hown, hts⟩ (k_J0_charAt_5068e l D cB cC cI cJ _ adK adV i hi x_6 (by omega)) ⟨gcwB hts tw_566 tw_15 tw_563 hd_yJ0_charAt_5068e ⟨Nat.le_of_ble_eq_true rfl, Nat.le_of_ble_eq_true rfl⟩, hts _ tw_564, hts _ tw_565⟩ ⟨gblindT, vk_recv hF.1 hi hS, (gpreT hPc hK hDc hN hF hS (va_free (wc := []) hD hS hA [] rfl)).2⟩ rfl rfl hl.1 rfl (lv_room (Nat.le_of_ble_eq_true rfl)) dX4_isWordAhead_27 ⟨Nat.le_of_ble_eq_true rfl, Nat.le_of_ble_eq_true rfl⟩) (fun r_31 u_30 H locs hw_32 hP hD hS => ?_)
        replace hP : va_P D gcl [(a0, .inr (4, [.ref a1, .ref a2, .int x0, .int x1, .int x2, .int x3, .int x4, .int x5])), (a1, .inr (9, [.ref a3, .int x6])), (a3, .inl (cB, 1600, .inl f0))] H := hP
        replace hD : va_D A [(a0, .inr (4, [.ref a1, .ref a2, .int x0, .int x1, .int x2, .int x3, .int x4, .int x5])), (a1, .inr (9, [.ref a3, .int x6])), (a3, .inl (cB, 1600, .inl f0))] := hD
        have hw_33 : (r_31.toInt = (wL.getD i []).getD (x_6.toInt).toNat 0) := hw_32
        have rr_31 := n_rng r_31
        refine b_icmp_eq (pc := 30) (tgt := 35) hx hb rfl rfl  dX4_isWordAhead_30 (by decide) (fun c_34 => ?_) (fun c_34 => ?_)
        ·
          refine b_iinc (pc := 35) hx hb dX4_isWordAhead_35 hl (k := 0) rfl rfl tI_1 (by first | exact (om_2 hi_7.1) | (omega)) (by first | exact (om_38 hi_7.2) | (omega)) (by decide) (fun x_35 ex_35 ls hl => ?_)
          replace hl : lv_has ls 4 [(3, .int x_35), (2, .int r_2), (0, .ref a0), (1, .ref (adK i))] := hl
          refine lv_goto (pc := 38) (tgt := 7) hx hb dX4_isWordAhead_38 (by decide) ?_
          exact ih_lp_10 x_35 _ _ ls (by first | exact (om_39 ex_35 hi_7.1 c_11 hw_4.2) | (omega)) (by first | exact (om_40 ex_35 c_11) | (omega)) (mtk_up hi_9 (by first | exact (om_0 hi_7.1) | (omega)) (by first | exact (om_5 ex_35) | (omega)) (by omega) hw_29 hw_33 (by first | exact (om_41 c_34) | (omega))) (by omega) hP hD hS (lv_sub hl [0, 1, 2, 3] rfl)
        ·
          refine lv_iconst (pc := 33) (v := 0) hx hb dX4_isWordAhead_33 (by decide) ?_
          have k9 := tI_0
          exact hret 0 ((fun _ => 0), (fun _ => (fun _ => 0)), (fun _ => (fun _ => 0)), (fun _ => 0), (fun _ => 0)) dX4_isWordAhead_34 ⟨(Or.inl tI_0), ⟨(show (0 ≤ (0 : Int32).toInt ∧ (0 : Int32).toInt ≤ 1) from (n_c tI_0 (by decide))), (show waQ (taub f0 x6.toInt) x0.toInt x1.toInt (wL.getD i []) (0 : Int32).toInt from wa_diff (k := x_6.toInt) (by omega) (by have q := s_wl hi; omega) (show _ = x0.toInt + x_6.toInt by omega) hw_29 hw_33 (by first | exact (om_31 tI_0) | (omega)) (by omega))⟩⟩ (g_psub (wc := [(a0, .inr (4, [.ref a1, .ref a2, .int x0, .int x1, .int x2, .int x3, .int x4, .int x5])), (a1, .inr (9, [.ref a3, .int x6])), (a3, .inl (cB, 1600, .inl f0))]) hP [0, 1, 2] rfl) (hD.sub (ws' := [(a0, .inr (4, [.ref a1, .ref a2, .int x0, .int x1, .int x2, .int x3, .int x4, .int x5])), (a1, .inr (9, [.ref a3, .int x6])), (a3, .inl (cB, 1600, .inl f0))]) [0, 1, 2] (by decide) rfl) hS
  exact lp_10 _ 0 _ _ ls (n_c tI_0 (by decide)) (by first | exact (om_42 hw_4.1 tI_0) | (have k0 := tI_0; omega)) (mtk_0 (by first | exact (om_43 tI_0) | (have q := tI_0; omega))) (Nat.lt_succ_self _) hP hD hS (lv_sub hl [0, 1, 2, 3] rfl)
theorem om_44 {a b : Int} (h0 : (b = 0)) : (a + b ≤ a) := by omega
theorem om_45 {a : Int} (h0 : (a = 0)) : ((a = 0 ∨ a = 1)) := by omega
theorem om_46 {a : Int} (h0 : (0 ≤ a)) (h1 : (a ≤ 1)) : ((a = 0 ∨ a = 1)) := by omega
set_option maxHeartbeats 4000000 in
set_option maxRecDepth 100000 in
theorem k_X4_takesWord (l : Launch) (D : va_G) (cB cC cI cJ : ClassId) (sz : Nat) (adK adV : Nat → Nat) (i : Nat) (hi : i < 15) (a0 a1 a2 a3 : Nat) (x0 x1 x2 x3 x4 x5 x6 : Int32) (f0 : Nat → Int32) (h_x0 : (0 ≤ x0.toInt ∧ x0.toInt ≤ 1600)) (h_x1 : ((-1) ≤ x1.toInt ∧ x1.toInt ≤ 255)) (h_x2 : (0 ≤ x2.toInt ∧ x2.toInt ≤ 1600)) (h_x4 : (0 ≤ x4.toInt ∧ x4.toInt ≤ 4)) (h_x5 : ((-1) ≤ x5.toInt ∧ x5.toInt ≤ 1600)) (h_x6 : (0 ≤ x6.toInt ∧ x6.toInt ≤ 1600)) (hg_sv : svQ (taub f0 x6.toInt) x0.toInt x1.toInt) : Met l yX4_takesWord (.code yX4_takesWord cX4_takesWord 3 (some .boolean) :: lw_gd) ({ frames := 5, cells := 0, slots := 0, locals := 108 }) (gPreT D [(cB, .byte), (cC, .char), (cI, .int), (cJ, .long)] [.ref a0, .ref (adK i)] [(a0, .inr (4, [.ref a1, .ref a2, .int x0, .int x1, .int x2, .int x3, .int x4, .int x5])), (a1, .inr (9, [.ref a3, .int x6])), (a3, .inl (cB, 1600, .inl f0))] sz adK adV) (va_Qi (fun r u => (0 ≤ r.toInt ∧ r.toInt ≤ 1) ∧ (0 ≤ (u.2.2.2.1 0).toInt ∧ (u.2.2.2.1 0).toInt ≤ 1600) ∧ ((-1) ≤ (u.2.2.2.1 1).toInt ∧ (u.2.2.2.1 1).toInt ≤ 255) ∧ (twQ (taub f0 x6.toInt) x0.toInt x1.toInt (wL.getD i []) (u.2.2.2.1 0).toInt (u.2.2.2.1 1).toInt r.toInt) ∧ (svQ (taub f0 x6.toInt) (u.2.2.2.1 0).toInt (u.2.2.2.1 1).toInt) ∧ (x0.toInt + r.toInt ≤ (u.2.2.2.1 0).toInt)) (gB D (va_A [(a0, .inr (4, [.ref a1, .ref a2, .int x0, .int x1, .int x2, .int x3, .int x4, .int x5])), (a1, .inr (9, [.ref a3, .int x6])), (a3, .inl (cB, 1600, .inl f0))] sz) (fun u : gEx => [(a0, .inr (4, [.ref a1, .ref a2, .int (u.2.2.2.1 0), .int (u.2.2.2.1 1), .int x2, .int x3, .int x4, .int x5])), (a1, .inr (9, [.ref a3, .int x6])), (a3, .inl (cB, 1600, .inl f0))])) (va_A [(a0, .inr (4, [.ref a1, .ref a2, .int x0, .int x1, .int x2, .int x3, .int x4, .int x5])), (a1, .inr (9, [.ref a3, .int x6])), (a3, .inl (cB, 1600, .inl f0))] sz)) 0 0 (va_A [(a0, .inr (4, [.ref a1, .ref a2, .int x0, .int x1, .int x2, .int x3, .int x4, .int x5])), (a1, .inr (9, [.ref a3, .int x6])), (a3, .inl (cB, 1600, .inl f0))] sz) := by
  refine gOfT_z (by decide +kernel) (Nat.le_of_ble_eq_true rfl) ?_
  intro p e s m args below meth c ls A Q hx hb hts hown hml hN hK hP hD hA hl hF hret
  have hlen := s_len hi
  replace hown : s.vm.findClass RX4 = some m.cls := hown
  have hS : va_S A s.heap s.heap [] := va_S.rf
  replace hP : va_P D gcl [(a0, .inr (4, [.ref a1, .ref a2, .int x0, .int x1, .int x2, .int x3, .int x4, .int x5])), (a1, .inr (9, [.ref a3, .int x6])), (a3, .inl (cB, 1600, .inl f0))] s.heap := hP
  replace hl : lv_has ls 3 [(0, .ref a0), (1, .ref (adK i))] := hl
  have rx3 := n_rng x3
  refine lv_aload_n (pc := 0) hx hb dX4_takesWord_0 rfl (lv_at hl 0 rfl) ?_
  refine lv_aload_n (pc := 1) hx hb dX4_takesWord_1 rfl (lv_at hl 1 rfl) ?_
  refine gd_i (pc := 2) (wc := [(a0, .inr (4, [.ref a1, .ref a2, .int x0, .int x1, .int x2, .int x3, .int x4, .int x5])), (a1, .inr (9, [.ref a3, .int x6])), (a3, .inl (cB, 1600, .inl f0))]) hP hD hS hA [0, 1, 2] rfl (by decide +kernel) (fun _ => by rfl) (fun hPc hDc => va_runV (As := [.ref (adK i)]) (rest := []) ⟨hx, hb, hml, hown, hts⟩ (k_X4_isWordAhead l D cB cC cI cJ _ adK adV i hi a0 a1 a2 a3 x0 x1 x2 x3 x4 x5 x6 f0 h_x0 h_x1 h_x2 h_x4 h_x5 h_x6) ⟨gcwB hts tw_552 tw_2 tw_549 hd_yX4_isWordAhead ⟨Nat.le_of_ble_eq_true rfl, Nat.le_of_ble_eq_true rfl⟩, hts _ tw_551, hts _ tp_6⟩ ⟨gblindT, va_recv hK hPc (ci := 4) (q0 := 0) rfl rfl, (gpreT hPc hK hDc hN hF hS (va_free (wc := [(a0, .inr (4, [.ref a1, .ref a2, .int x0, .int x1, .int x2, .int x3, .int x4, .int x5])), (a1, .inr (9, [.ref a3, .int x6])), (a3, .inl (cB, 1600, .inl f0))]) hD hS hA [0, 1, 2] rfl)).2⟩ rfl rfl hl.1 rfl (lv_room (Nat.le_of_ble_eq_true rfl)) dX4_takesWord_2 ⟨Nat.le_of_ble_eq_true rfl, Nat.le_of_ble_eq_true rfl⟩) (fun r_2 u_1 H locs hw_3 hP hD hS => ?_)
  replace hP : va_P D gcl [(a0, .inr (4, [.ref a1, .ref a2, .int x0, .int x1, .int x2, .int x3, .int x4, .int x5])), (a1, .inr (9, [.ref a3, .int x6])), (a3, .inl (cB, 1600, .inl f0))] H := hP
  replace hD : va_D A [(a0, .inr (4, [.ref a1, .ref a2, .int x0, .int x1, .int x2, .int x3, .int x4, .int x5])), (a1, .inr (9, [.ref a3, .int x6])), (a3, .inl (cB, 1600, .inl f0))] := hD
  obtain ⟨hw_4, hw_5⟩ := hw_3
  replace hw_4 : (0 ≤ r_2.toInt ∧ r_2.toInt ≤ 1) := hw_4
  replace hw_5 : (waQ (taub f0 x6.toInt) x0.toInt x1.toInt (wL.getD i []) r_2.toInt) := hw_5
  have rr_2 := n_rng r_2
  refine lv_istore_n (pc := 5) (lv' := [(2, .int r_2), (0, .ref a0), (1, .ref (adK i))]) hx hb dX4_takesWord_5 rfl hl (by decide) rfl (fun ls hl => ?_)
  refine lv_iload_n (pc := 6) hx hb dX4_takesWord_6 rfl (lv_at hl 0 rfl) ?_
  refine b_if_eq (pc := 7) (tgt := 24) hx hb rfl  dX4_takesWord_7 (by decide) (fun c_6 => ?_) (fun c_6 => ?_)
  ·
    refine lv_iload_n (pc := 24) hx hb dX4_takesWord_24 rfl (lv_at hl 0 rfl) ?_
    exact hret r_2 ((fun _ => 0), (fun _ => (fun _ => 0)), (fun _ => (fun _ => 0)), (fun k => [x0, x1].getD k 0), (fun _ => 0)) dX4_takesWord_25 ⟨(by first | exact (om_45 c_6) | (omega)), ⟨(show (0 ≤ r_2.toInt ∧ r_2.toInt ≤ 1) from hw_4), (show (0 ≤ (x0 : Int32).toInt ∧ (x0 : Int32).toInt ≤ 1600) from h_x0), (show ((-1) ≤ (x1 : Int32).toInt ∧ (x1 : Int32).toInt ≤ 255) from h_x1), (show twQ (taub f0 x6.toInt) x0.toInt x1.toInt (wL.getD i []) x0.toInt x1.toInt r_2.toInt from tw_no hw_5 (by first | exact (om_31 c_6) | (omega)) (by first | exact (om_31 c_6) | (omega))), (show svQ (taub f0 x6.toInt) x0.toInt x1.toInt from hg_sv), (show x0.toInt + r_2.toInt ≤ x0.toInt from (by first | exact (om_44 c_6) | (omega)))⟩⟩ (g_psub (wc := [(a0, .inr (4, [.ref a1, .ref a2, .int x0, .int x1, .int x2, .int x3, .int x4, .int x5])), (a1, .inr (9, [.ref a3, .int x6])), (a3, .inl (cB, 1600, .inl f0))]) hP [0, 1, 2] rfl) (hD.sub (ws' := [(a0, .inr (4, [.ref a1, .ref a2, .int x0, .int x1, .int x2, .int x3, .int x4, .int x5])), (a1, .inr (9, [.ref a3, .int x6])), (a3, .inl (cB, 1600, .inl f0))]) [0, 1, 2] (by decide) rfl) hS
  ·
    have hh_7 := wd_lt (hw_5.1 (by omega)) (s_pos hi) (s_ne hi)
    have hh_8 := s_wl hi
    have hh_9 := s_l1 hi
    refine lv_aload_n (pc := 10) hx hb dX4_takesWord_10 rfl (lv_at hl 1 rfl) ?_
    refine lv_aload_n (pc := 11) hx hb dX4_takesWord_11 rfl (lv_at hl 1 rfl) ?_
    refine va_get (pc := 12) (ci := 4) (v := .int x0) (C := RX4) (T := TX4) (N := 8) hx hb hts iX4 hown hK hP 0 rfl rfl 2 (by decide) (hts _ tw_170) (fun _ h9 => h9) rfl dX4_takesWord_12 ?_
    refine lv_aload_n (pc := 15) hx hb dX4_takesWord_15 rfl (lv_at hl 2 rfl) ?_
    refine gd_i (pc := 16) (wc := []) hP hD hS hA [] rfl (by decide +kernel) (fun _ => by rfl) (fun hPc hDc => va_runV (As := []) (rest := [.int x0, .ref a0]) ⟨hx, hb, hml, hown, hts⟩ (k_J0_length_8abf5 l D cB cC cI cJ _ adK adV i hi) ⟨gcwB hts tw_556 tw_15 tw_553 hd_yJ0_length_8abf5 ⟨Nat.le_of_ble_eq_true rfl, Nat.le_of_ble_eq_true rfl⟩, hts _ tw_554, hts _ tw_555⟩ ⟨gblindT, vk_recv hF.1 hi hS, (gpreT hPc hK hDc hN hF hS (va_free (wc := []) hD hS hA [] rfl)).2⟩ rfl rfl hl.1 rfl (lv_room (Nat.le_of_ble_eq_true rfl)) dX4_takesWord_16 ⟨Nat.le_of_ble_eq_true rfl, Nat.le_of_ble_eq_true rfl⟩) (fun r_11 u_10 H locs hw_12 hP hD hS => ?_)
    replace hP : va_P D gcl [(a0, .inr (4, [.ref a1, .ref a2, .int x0, .int x1, .int x2, .int x3, .int x4, .int x5])), (a1, .inr (9, [.ref a3, .int x6])), (a3, .inl (cB, 1600, .inl f0))] H := hP
    replace hD : va_D A [(a0, .inr (4, [.ref a1, .ref a2, .int x0, .int x1, .int x2, .int x3, .int x4, .int x5])), (a1, .inr (9, [.ref a3, .int x6])), (a3, .inl (cB, 1600, .inl f0))] := hD
    obtain ⟨hw_13, hw_14⟩ := hw_12
    replace hw_13 : (0 ≤ r_11.toInt ∧ r_11.toInt ≤ 6) := hw_13
    replace hw_14 : (r_11.toInt = ((lenS.getD i 0 : Nat) : Int)) := hw_14
    have rr_11 := n_rng r_11
    refine b_iadd (pc := 19) hx hb rfl rfl (by first | exact (om_32 rr_11.1 h_x0.1) | (omega)) (by first | exact (om_33 hw_13.2 h_x0.2) | (omega)) dX4_takesWord_19 (fun x_15 ex_15 => ?_)
    refine lv_iconst (pc := 20) (v := 1) hx hb dX4_takesWord_20 (by decide) ?_
    refine gd_v (pc := 21) (wc := [(a0, .inr (4, [.ref a1, .ref a2, .int x0, .int x1, .int x2, .int x3, .int x4, .int x5])), (a1, .inr (9, [.ref a3, .int x6])), (a3, .inl (cB, 1600, .inl f0))]) hP hD hS hA [0, 1, 2] rfl (by decide +kernel) (fun _ => by rfl) (fun hPc hDc => va_runV (As := [.int x_15, .int 1]) (rest := []) ⟨hx, hb, hml, hown, hts⟩ (k_X4_goOn l D cB cC cI cJ _ a0 a1 a2 a3 x_15 1 x0 x1 x2 x3 x4 x5 x6 f0 (by have k0 := tI_1; omega) (n_c tI_1 (by decide)) h_x0 h_x1 h_x2 h_x4 h_x5 h_x6) ⟨gcwB hts tw_513 tw_2 tw_510 hd_yX4_goOn ⟨Nat.le_of_ble_eq_true rfl, Nat.le_of_ble_eq_true rfl⟩, hts _ tw_512, hts _ tp_0⟩ ⟨gblind, va_recv hK hPc (ci := 4) (q0 := 0) rfl rfl, (gpreS hPc hK hDc hN).2⟩ rfl rfl hl.1 rfl (lv_room (Nat.le_of_ble_eq_true rfl)) dX4_takesWord_21 ⟨Nat.le_of_ble_eq_true rfl, Nat.le_of_ble_eq_true rfl⟩) (fun u_16 H locs hw_18 hP hD hS => ?_)
    replace hP : va_P D gcl [(a0, .inr (4, [.ref a1, .ref a2, .int (u_16.2.2.2.1 0), .int (u_16.2.2.2.1 1), .int x2, .int x3, .int x4, .int x5])), (a1, .inr (9, [.ref a3, .int x6])), (a3, .inl (cB, 1600, .inl f0))] H := hP
    replace hD : va_D A [(a0, .inr (4, [.ref a1, .ref a2, .int (u_16.2.2.2.1 0), .int (u_16.2.2.2.1 1), .int x2, .int x3, .int x4, .int x5])), (a1, .inr (9, [.ref a3, .int x6])), (a3, .inl (cB, 1600, .inl f0))] := hD
    obtain ⟨hw_19, hw_20, hw_21, hw_22, hw_23⟩ := hw_18
    replace hw_19 : (0 ≤ (u_16.2.2.2.1 0).toInt ∧ (u_16.2.2.2.1 0).toInt ≤ 1600) := hw_19
    replace hw_20 : ((-1) ≤ (u_16.2.2.2.1 1).toInt ∧ (u_16.2.2.2.1 1).toInt ≤ 255) := hw_20
    replace hw_21 : ((u_16.2.2.2.1 0).toInt = skp (taub f0 x6.toInt) x_15.toInt) := hw_21
    replace hw_22 : ((u_16.2.2.2.1 1).toInt = gsn (taub f0 x6.toInt) x_15.toInt (u_16.2.2.2.1 0).toInt (1 : Int32).toInt) := hw_22
    replace hw_23 : (x_15.toInt ≤ (u_16.2.2.2.1 0).toInt) := hw_23
    have kk0_r_17 := tI_1
    refine lv_iload_n (pc := 24) hx hb dX4_takesWord_24 rfl (lv_at hl 0 rfl) ?_
    exact hret r_2 ((fun _ => 0), (fun _ => (fun _ => 0)), (fun _ => (fun _ => 0)), (fun k => [(u_16.2.2.2.1 0), (u_16.2.2.2.1 1)].getD k 0), (fun _ => 0)) dX4_takesWord_25 ⟨(by first | exact (om_46 hw_4.1 hw_4.2) | (omega)), ⟨(show (0 ≤ r_2.toInt ∧ r_2.toInt ≤ 1) from hw_4), (show (0 ≤ ((u_16.2.2.2.1 0) : Int32).toInt ∧ ((u_16.2.2.2.1 0) : Int32).toInt ≤ 1600) from hw_19), (show ((-1) ≤ ((u_16.2.2.2.1 1) : Int32).toInt ∧ ((u_16.2.2.2.1 1) : Int32).toInt ≤ 255) from hw_20), (show twQ (taub f0 x6.toInt) x0.toInt x1.toInt (wL.getD i []) (u_16.2.2.2.1 0).toInt (u_16.2.2.2.1 1).toInt r_2.toInt from tw_yes hw_5 (by first | exact (om_34 c_6) | (omega)) (show _ = x0.toInt + ((lenS.getD i 0 : Nat) : Int) by omega) hh_8.symm hw_21 hw_22 (by first | exact (om_36 tI_1) | (omega)) (by first | exact (om_34 c_6) | (omega))), (show svQ (taub f0 x6.toInt) (u_16.2.2.2.1 0).toInt (u_16.2.2.2.1 1).toInt from (by rw [hw_22, gsn_w (by omega)]; exact sgn_sv)), (show x0.toInt + r_2.toInt ≤ (u_16.2.2.2.1 0).toInt from (by omega))⟩⟩ (g_psub (wc := [(a0, .inr (4, [.ref a1, .ref a2, .int (u_16.2.2.2.1 0), .int (u_16.2.2.2.1 1), .int x2, .int x3, .int x4, .int x5])), (a1, .inr (9, [.ref a3, .int x6])), (a3, .inl (cB, 1600, .inl f0))]) hP [0, 1, 2] rfl) (hD.sub (ws' := [(a0, .inr (4, [.ref a1, .ref a2, .int (u_16.2.2.2.1 0), .int (u_16.2.2.2.1 1), .int x2, .int x3, .int x4, .int x5])), (a1, .inr (9, [.ref a3, .int x6])), (a3, .inl (cB, 1600, .inl f0))]) [0, 1, 2] (by decide) rfl) hS
theorem om_47 {a : Int} (h0 : (a = 0)) : (((a = 0))) := by omega
set_option maxHeartbeats 4000000 in
set_option maxRecDepth 100000 in
theorem k_X4_fail (l : Launch) (D : va_G) (cB cC cI cJ : ClassId) (sz : Nat) (a0 a1 a2 : Nat) (x0 x1 x2 x3 x4 x5 x6 x7 : Int32) (hp1 : (1 ≤ x0.toInt ∧ x0.toInt ≤ 4)) (hp2 : (0 ≤ x1.toInt ∧ x1.toInt ≤ 1600)) (h_x2 : (0 ≤ x2.toInt ∧ x2.toInt ≤ 1600)) (h_x3 : ((-1) ≤ x3.toInt ∧ x3.toInt ≤ 255)) (h_x4 : (0 ≤ x4.toInt ∧ x4.toInt ≤ 1600)) (h_x6 : (0 ≤ x6.toInt ∧ x6.toInt ≤ 4)) (h_x7 : ((-1) ≤ x7.toInt ∧ x7.toInt ≤ 1600)) : Met l yX4_fail (.code yX4_fail cX4_fail 3 (some .boolean) :: lw_gd) ({ frames := 0, cells := 0, slots := 0, locals := 0 }) (gPre D [(cB, .byte), (cC, .char), (cI, .int), (cJ, .long)] [.ref a0, .int x0, .int x1] [(a0, .inr (4, [.ref a1, .ref a2, .int x2, .int x3, .int x4, .int x5, .int x6, .int x7]))] sz) (va_Qi (fun r u => ((r.toInt = 0))) (gB D (va_A [(a0, .inr (4, [.ref a1, .ref a2, .int x2, .int x3, .int x4, .int x5, .int x6, .int x7]))] sz) (fun u : gEx => [(a0, .inr (4, [.ref a1, .ref a2, .int x2, .int x3, .int x4, .int x5, .int x0, .int x1]))])) (va_A [(a0, .inr (4, [.ref a1, .ref a2, .int x2, .int x3, .int x4, .int x5, .int x6, .int x7]))] sz)) 0 0 (va_A [(a0, .inr (4, [.ref a1, .ref a2, .int x2, .int x3, .int x4, .int x5, .int x6, .int x7]))] sz) := by
  refine gOf_z (by decide +kernel) (Nat.le_of_ble_eq_true rfl) ?_
  intro p e s m args below meth c ls A Q hx hb hts hown hml hN hK hP hD hA hl hret
  replace hown : s.vm.findClass RX4 = some m.cls := hown
  have hS : va_S A s.heap s.heap [] := va_S.rf
  replace hP : va_P D gcl [(a0, .inr (4, [.ref a1, .ref a2, .int x2, .int x3, .int x4, .int x5, .int x6, .int x7]))] s.heap := hP
  replace hl : lv_has ls 3 [(0, .ref a0), (1, .int x0), (2, .int x1)] := hl
  have rx5 := n_rng x5
  refine lv_aload_n (pc := 0) hx hb dX4_fail_0 rfl (lv_at hl 0 rfl) ?_
  refine lv_iload_n (pc := 1) hx hb dX4_fail_1 rfl (lv_at hl 1 rfl) ?_
  refine va_put (pc := 2) (ci := 4) (v := .int x0) (ty := .int) (C := RX4) (T := TX4) (N := 8) hx hb hts iX4 tyX4 tyX4_ok nmX4 hown hK hP hD hS 0 rfl rfl 6 (by decide) (hts _ tw_174) (fun _ h9 => h9) rfl (by decide +kernel) rfl rfl (Nat.le_of_ble_eq_true rfl) dX4_fail_2 (fun H locs hP hD hS => ?_)
  replace hP : va_P D gcl [(a0, .inr (4, [.ref a1, .ref a2, .int x2, .int x3, .int x4, .int x5, .int x0, .int x7]))] H := hP
  replace hD : va_D A [(a0, .inr (4, [.ref a1, .ref a2, .int x2, .int x3, .int x4, .int x5, .int x0, .int x7]))] := hD
  refine lv_aload_n (pc := 5) hx hb dX4_fail_5 rfl (lv_at hl 0 rfl) ?_
  refine lv_iload_n (pc := 6) hx hb dX4_fail_6 rfl (lv_at hl 2 rfl) ?_
  refine va_put (pc := 7) (ci := 4) (v := .int x1) (ty := .int) (C := RX4) (T := TX4) (N := 8) hx hb hts iX4 tyX4 tyX4_ok nmX4 hown hK hP hD hS 0 rfl rfl 7 (by decide) (hts _ tw_176) (fun _ h9 => h9) rfl (by decide +kernel) rfl rfl (Nat.le_of_ble_eq_true rfl) dX4_fail_7 (fun H locs hP hD hS => ?_)
  replace hP : va_P D gcl [(a0, .inr (4, [.ref a1, .ref a2, .int x2, .int x3, .int x4, .int x5, .int x0, .int x1]))] H := hP
  replace hD : va_D A [(a0, .inr (4, [.ref a1, .ref a2, .int x2, .int x3, .int x4, .int x5, .int x0, .int x1]))] := hD
  refine lv_iconst (pc := 10) (v := 0) hx hb dX4_fail_10 (by decide) ?_
  exact hret 0 ((fun _ => 0), (fun _ => (fun _ => 0)), (fun _ => (fun _ => 0)), (fun _ => 0), (fun _ => 0)) dX4_fail_11 ⟨(Or.inl tI_0), (show (((0 : Int32).toInt = 0)) from (by first | exact (om_47 tI_0) | (have k9 := tI_0; omega)))⟩ (g_psub (wc := [(a0, .inr (4, [.ref a1, .ref a2, .int x2, .int x3, .int x4, .int x5, .int x0, .int x1]))]) hP [0] rfl) (hD.sub (ws' := [(a0, .inr (4, [.ref a1, .ref a2, .int x2, .int x3, .int x4, .int x5, .int x0, .int x1]))]) [0] (by decide) rfl) hS
theorem om_48 {a : Int} (h0 : (a = 0)) : ((0 ≤ a ∧ a ≤ 0)) := by omega
set_option maxHeartbeats 4000000 in
set_option maxRecDepth 100000 in
theorem k_X4_failHere (l : Launch) (D : va_G) (cB cC cI cJ : ClassId) (sz : Nat) (a0 a1 a2 : Nat) (x0 x1 x2 x3 x4 x5 : Int32) (h_x0 : (0 ≤ x0.toInt ∧ x0.toInt ≤ 1600)) (h_x1 : ((-1) ≤ x1.toInt ∧ x1.toInt ≤ 255)) (h_x2 : (0 ≤ x2.toInt ∧ x2.toInt ≤ 1600)) (h_x4 : (0 ≤ x4.toInt ∧ x4.toInt ≤ 4)) (h_x5 : ((-1) ≤ x5.toInt ∧ x5.toInt ≤ 1600)) : Met l yX4_failHere (.code yX4_failHere cX4_failHere 1 (some .boolean) :: lw_gd) ({ frames := 1, cells := 0, slots := 0, locals := 22 }) (gPre D [(cB, .byte), (cC, .char), (cI, .int), (cJ, .long)] [.ref a0] [(a0, .inr (4, [.ref a1, .ref a2, .int x0, .int x1, .int x2, .int x3, .int x4, .int x5]))] sz) (va_Qi (fun r u => (0 ≤ r.toInt ∧ r.toInt ≤ 0)) (gB D (va_A [(a0, .inr (4, [.ref a1, .ref a2, .int x0, .int x1, .int x2, .int x3, .int x4, .int x5]))] sz) (fun u : gEx => [(a0, .inr (4, [.ref a1, .ref a2, .int x0, .int x1, .int x2, .int x3, .int 1, .int x0]))])) (va_A [(a0, .inr (4, [.ref a1, .ref a2, .int x0, .int x1, .int x2, .int x3, .int x4, .int x5]))] sz)) 0 0 (va_A [(a0, .inr (4, [.ref a1, .ref a2, .int x0, .int x1, .int x2, .int x3, .int x4, .int x5]))] sz) := by
  refine gOf_z (by decide +kernel) (Nat.le_of_ble_eq_true rfl) ?_
  intro p e s m args below meth c ls A Q hx hb hts hown hml hN hK hP hD hA hl hret
  replace hown : s.vm.findClass RX4 = some m.cls := hown
  have hS : va_S A s.heap s.heap [] := va_S.rf
  replace hP : va_P D gcl [(a0, .inr (4, [.ref a1, .ref a2, .int x0, .int x1, .int x2, .int x3, .int x4, .int x5]))] s.heap := hP
  replace hl : lv_has ls 1 [(0, .ref a0)] := hl
  have rx3 := n_rng x3
  refine lv_aload_n (pc := 0) hx hb dX4_failHere_0 rfl (lv_at hl 0 rfl) ?_
  refine lv_iconst (pc := 1) (v := 1) hx hb dX4_failHere_1 (by decide) ?_
  refine lv_aload_n (pc := 2) hx hb dX4_failHere_2 rfl (lv_at hl 0 rfl) ?_
  refine va_get (pc := 3) (ci := 4) (v := .int x0) (C := RX4) (T := TX4) (N := 8) hx hb hts iX4 hown hK hP 0 rfl rfl 2 (by decide) (hts _ tw_170) (fun _ h9 => h9) rfl dX4_failHere_3 ?_
  refine gd_i (pc := 6) (wc := [(a0, .inr (4, [.ref a1, .ref a2, .int x0, .int x1, .int x2, .int x3, .int x4, .int x5]))]) hP hD hS hA [0] rfl (by decide +kernel) (fun _ => by rfl) (fun hPc hDc => va_runV (As := [.int 1, .int x0]) (rest := []) ⟨hx, hb, hml, hown, hts⟩ (k_X4_fail l D cB cC cI cJ _ a0 a1 a2 1 x0 x0 x1 x2 x3 x4 x5 (n_c tI_1 (by decide)) h_x0 h_x0 h_x1 h_x2 h_x4 h_x5) ⟨gcwB hts tw_535 tw_2 tw_532 hd_yX4_fail ⟨Nat.le_of_ble_eq_true rfl, Nat.le_of_ble_eq_true rfl⟩, hts _ tw_534, hts _ tp_2⟩ ⟨gblind, va_recv hK hPc (ci := 4) (q0 := 0) rfl rfl, (gpreS hPc hK hDc hN).2⟩ rfl rfl hl.1 rfl (lv_room (Nat.le_of_ble_eq_true rfl)) dX4_failHere_6 ⟨Nat.le_of_ble_eq_true rfl, Nat.le_of_ble_eq_true rfl⟩) (fun r_2 u_1 H locs hw_3 hP hD hS => ?_)
  replace hP : va_P D gcl [(a0, .inr (4, [.ref a1, .ref a2, .int x0, .int x1, .int x2, .int x3, .int 1, .int x0]))] H := hP
  replace hD : va_D A [(a0, .inr (4, [.ref a1, .ref a2, .int x0, .int x1, .int x2, .int x3, .int 1, .int x0]))] := hD
  have hw_4 : ((r_2.toInt = 0)) := hw_3
  have kk0_r_2 := tI_1
  have rr_2 := n_rng r_2
  exact hret r_2 ((fun _ => 0), (fun _ => (fun _ => 0)), (fun _ => (fun _ => 0)), (fun _ => 0), (fun _ => 0)) dX4_failHere_9 ⟨(by first | exact (om_45 hw_4) | (omega)), (show (0 ≤ r_2.toInt ∧ r_2.toInt ≤ 0) from (by first | exact (om_48 hw_4) | (omega)))⟩ (g_psub (wc := [(a0, .inr (4, [.ref a1, .ref a2, .int x0, .int x1, .int x2, .int x3, .int 1, .int x0]))]) hP [0] rfl) (hD.sub (ws' := [(a0, .inr (4, [.ref a1, .ref a2, .int x0, .int x1, .int x2, .int x3, .int 1, .int x0]))]) [0] (by decide) rfl) hS
theorem om_49 {a b c d : Int} (h0 : (¬ d = 0)) (h1 : (0 ≤ d)) (h2 : (a + d ≤ c)) (h3 : (b = 1)) : (a + b ≤ c) := by omega
theorem om_50 {a b c : Int} (h0 : (a = 0)) (h1 : (b = 1)) (h2 : (c = -1)) : (a ≤ 4 - 4 * b ∧ c ≤ 1600 - 1601 * b) := by omega
theorem om_51 {a : Int} (h0 : (0 ≤ a)) (h1 : (a ≤ 0)) : (¬ (¬ a = 0)) := by omega
theorem om_52 {a : Int} (h0 : (0 ≤ a)) (h1 : (a ≤ 1600)) : (((-1) ≤ a ∧ a ≤ 1600)) := by omega
theorem om_53 {a : Int} : (a = a) := by omega
theorem om_54 {a b c d : Int} (h0 : (a + d ≤ c)) (h1 : (b = 0)) (h2 : (d = 0)) : (a + b ≤ c) := by omega
theorem om_55 {a b c : Int} (h0 : (a = 1)) (h1 : (b = 0)) (h2 : (c ≤ 1600)) : (a ≤ 4 - 4 * b ∧ c ≤ 1600 - 1601 * b) := by omega
set_option maxHeartbeats 4000000 in
set_option maxRecDepth 100000 in
theorem k_X4_readWord (l : Launch) (D : va_G) (cB cC cI cJ : ClassId) (sz : Nat) (adK adV : Nat → Nat) (i : Nat) (hi : i < 15) (a0 a1 a2 a3 : Nat) (x0 x1 x2 x3 x4 x5 x6 : Int32) (f0 : Nat → Int32) (h_x0 : (0 ≤ x0.toInt ∧ x0.toInt ≤ 1600)) (h_x1 : ((-1) ≤ x1.toInt ∧ x1.toInt ≤ 255)) (h_x2 : (0 ≤ x2.toInt ∧ x2.toInt ≤ 1600)) (h_x4 : (0 ≤ x4.toInt ∧ x4.toInt ≤ 4)) (h_x5 : ((-1) ≤ x5.toInt ∧ x5.toInt ≤ 1600)) (h_x6 : (0 ≤ x6.toInt ∧ x6.toInt ≤ 1600)) (hg_sv : svQ (taub f0 x6.toInt) x0.toInt x1.toInt) (hg__ff : x4.toInt = 0 ∧ x5.toInt = -1) : Met l yX4_readWord (.code yX4_readWord cX4_readWord 2 (some .boolean) :: lw_gd) ({ frames := 6, cells := 0, slots := 0, locals := 130 }) (gPreT D [(cB, .byte), (cC, .char), (cI, .int), (cJ, .long)] [.ref a0, .ref (adK i)] [(a0, .inr (4, [.ref a1, .ref a2, .int x0, .int x1, .int x2, .int x3, .int x4, .int x5])), (a1, .inr (9, [.ref a3, .int x6])), (a3, .inl (cB, 1600, .inl f0))] sz adK adV) (va_Qi (fun r u => (0 ≤ r.toInt ∧ r.toInt ≤ 1) ∧ (0 ≤ (u.2.2.2.1 0).toInt ∧ (u.2.2.2.1 0).toInt ≤ 1600) ∧ ((-1) ≤ (u.2.2.2.1 1).toInt ∧ (u.2.2.2.1 1).toInt ≤ 255) ∧ (0 ≤ (u.2.2.2.1 2).toInt ∧ (u.2.2.2.1 2).toInt ≤ 4) ∧ ((-1) ≤ (u.2.2.2.1 3).toInt ∧ (u.2.2.2.1 3).toInt ≤ 1600) ∧ (rwQ (taub f0 x6.toInt) x0.toInt x1.toInt (wL.getD i []) (u.2.2.2.1 0).toInt (u.2.2.2.1 1).toInt r.toInt (u.2.2.2.1 2).toInt (u.2.2.2.1 3).toInt) ∧ (svQ (taub f0 x6.toInt) (u.2.2.2.1 0).toInt (u.2.2.2.1 1).toInt) ∧ (x0.toInt + r.toInt ≤ (u.2.2.2.1 0).toInt) ∧ ((u.2.2.2.1 2).toInt ≤ 4 - 4 * r.toInt ∧ (u.2.2.2.1 3).toInt ≤ 1600 - 1601 * r.toInt)) (gB D (va_A [(a0, .inr (4, [.ref a1, .ref a2, .int x0, .int x1, .int x2, .int x3, .int x4, .int x5])), (a1, .inr (9, [.ref a3, .int x6])), (a3, .inl (cB, 1600, .inl f0))] sz) (fun u : gEx => [(a0, .inr (4, [.ref a1, .ref a2, .int (u.2.2.2.1 0), .int (u.2.2.2.1 1), .int x2, .int x3, .int (u.2.2.2.1 2), .int (u.2.2.2.1 3)])), (a1, .inr (9, [.ref a3, .int x6])), (a3, .inl (cB, 1600, .inl f0))])) (va_A [(a0, .inr (4, [.ref a1, .ref a2, .int x0, .int x1, .int x2, .int x3, .int x4, .int x5])), (a1, .inr (9, [.ref a3, .int x6])), (a3, .inl (cB, 1600, .inl f0))] sz)) 0 0 (va_A [(a0, .inr (4, [.ref a1, .ref a2, .int x0, .int x1, .int x2, .int x3, .int x4, .int x5])), (a1, .inr (9, [.ref a3, .int x6])), (a3, .inl (cB, 1600, .inl f0))] sz) := by
  refine gOfT_z (by decide +kernel) (Nat.le_of_ble_eq_true rfl) ?_
  intro p e s m args below meth c ls A Q hx hb hts hown hml hN hK hP hD hA hl hF hret
  have hlen := s_len hi
  replace hown : s.vm.findClass RX4 = some m.cls := hown
  have hS : va_S A s.heap s.heap [] := va_S.rf
  replace hP : va_P D gcl [(a0, .inr (4, [.ref a1, .ref a2, .int x0, .int x1, .int x2, .int x3, .int x4, .int x5])), (a1, .inr (9, [.ref a3, .int x6])), (a3, .inl (cB, 1600, .inl f0))] s.heap := hP
  replace hl : lv_has ls 2 [(0, .ref a0), (1, .ref (adK i))] := hl
  have rx3 := n_rng x3
  refine lv_aload_n (pc := 0) hx hb dX4_readWord_0 rfl (lv_at hl 0 rfl) ?_
  refine lv_aload_n (pc := 1) hx hb dX4_readWord_1 rfl (lv_at hl 1 rfl) ?_
  refine gd_i (pc := 2) (wc := [(a0, .inr (4, [.ref a1, .ref a2, .int x0, .int x1, .int x2, .int x3, .int x4, .int x5])), (a1, .inr (9, [.ref a3, .int x6])), (a3, .inl (cB, 1600, .inl f0))]) hP hD hS hA [0, 1, 2] rfl (by decide +kernel) (fun _ => by rfl) (fun hPc hDc => va_runV (As := [.ref (adK i)]) (rest := []) ⟨hx, hb, hml, hown, hts⟩ (k_X4_takesWord l D cB cC cI cJ _ adK adV i hi a0 a1 a2 a3 x0 x1 x2 x3 x4 x5 x6 f0 h_x0 h_x1 h_x2 h_x4 h_x5 h_x6 (hg_sv)) ⟨gcwB hts tw_548 tw_2 tw_545 hd_yX4_takesWord ⟨Nat.le_of_ble_eq_true rfl, Nat.le_of_ble_eq_true rfl⟩, hts _ tw_547, hts _ tp_5⟩ ⟨gblindT, va_recv hK hPc (ci := 4) (q0 := 0) rfl rfl, (gpreT hPc hK hDc hN hF hS (va_free (wc := [(a0, .inr (4, [.ref a1, .ref a2, .int x0, .int x1, .int x2, .int x3, .int x4, .int x5])), (a1, .inr (9, [.ref a3, .int x6])), (a3, .inl (cB, 1600, .inl f0))]) hD hS hA [0, 1, 2] rfl)).2⟩ rfl rfl hl.1 rfl (lv_room (Nat.le_of_ble_eq_true rfl)) dX4_readWord_2 ⟨Nat.le_of_ble_eq_true rfl, Nat.le_of_ble_eq_true rfl⟩) (fun r_2 u_1 H locs hw_3 hP hD hS => ?_)
  replace hP : va_P D gcl [(a0, .inr (4, [.ref a1, .ref a2, .int (u_1.2.2.2.1 0), .int (u_1.2.2.2.1 1), .int x2, .int x3, .int x4, .int x5])), (a1, .inr (9, [.ref a3, .int x6])), (a3, .inl (cB, 1600, .inl f0))] H := hP
  replace hD : va_D A [(a0, .inr (4, [.ref a1, .ref a2, .int (u_1.2.2.2.1 0), .int (u_1.2.2.2.1 1), .int x2, .int x3, .int x4, .int x5])), (a1, .inr (9, [.ref a3, .int x6])), (a3, .inl (cB, 1600, .inl f0))] := hD
  obtain ⟨hw_4, hw_5, hw_6, hw_7, hw_8, hw_9⟩ := hw_3
  replace hw_4 : (0 ≤ r_2.toInt ∧ r_2.toInt ≤ 1) := hw_4
  replace hw_5 : (0 ≤ (u_1.2.2.2.1 0).toInt ∧ (u_1.2.2.2.1 0).toInt ≤ 1600) := hw_5
  replace hw_6 : ((-1) ≤ (u_1.2.2.2.1 1).toInt ∧ (u_1.2.2.2.1 1).toInt ≤ 255) := hw_6
  replace hw_7 : (twQ (taub f0 x6.toInt) x0.toInt x1.toInt (wL.getD i []) (u_1.2.2.2.1 0).toInt (u_1.2.2.2.1 1).toInt r_2.toInt) := hw_7
  replace hw_8 : (svQ (taub f0 x6.toInt) (u_1.2.2.2.1 0).toInt (u_1.2.2.2.1 1).toInt) := hw_8
  replace hw_9 : (x0.toInt + r_2.toInt ≤ (u_1.2.2.2.1 0).toInt) := hw_9
  have rr_2 := n_rng r_2
  refine b_if_ne (pc := 5) (tgt := 15) hx hb rfl  dX4_readWord_5 (by decide) (fun c_10 => ?_) (fun c_10 => ?_)
  ·
    refine lv_iconst (pc := 15) (v := 1) hx hb dX4_readWord_15 (by decide) ?_
    refine lv_goto (pc := 16) (tgt := 20) hx hb dX4_readWord_16 (by decide) ?_
    have k9 := tI_1
    exact hret 1 ((fun _ => 0), (fun _ => (fun _ => 0)), (fun _ => (fun _ => 0)), (fun k => [(u_1.2.2.2.1 0), (u_1.2.2.2.1 1), x4, x5].getD k 0), (fun _ => 0)) dX4_readWord_20 ⟨(Or.inr tI_1), ⟨(show (0 ≤ (1 : Int32).toInt ∧ (1 : Int32).toInt ≤ 1) from (n_c tI_1 (by decide))), (show (0 ≤ ((u_1.2.2.2.1 0) : Int32).toInt ∧ ((u_1.2.2.2.1 0) : Int32).toInt ≤ 1600) from hw_5), (show ((-1) ≤ ((u_1.2.2.2.1 1) : Int32).toInt ∧ ((u_1.2.2.2.1 1) : Int32).toInt ≤ 255) from hw_6), (show (0 ≤ (x4 : Int32).toInt ∧ (x4 : Int32).toInt ≤ 4) from h_x4), (show ((-1) ≤ (x5 : Int32).toInt ∧ (x5 : Int32).toInt ≤ 1600) from h_x5), (show rwQ (taub f0 x6.toInt) x0.toInt x1.toInt (wL.getD i []) (u_1.2.2.2.1 0).toInt (u_1.2.2.2.1 1).toInt (1 : Int32).toInt x4.toInt x5.toInt from rw_yes hw_7 (by first | exact (om_34 c_10) | (omega)) (by first | exact (om_36 tI_1) | (omega))), (show svQ (taub f0 x6.toInt) (u_1.2.2.2.1 0).toInt (u_1.2.2.2.1 1).toInt from hw_8), (show x0.toInt + (1 : Int32).toInt ≤ (u_1.2.2.2.1 0).toInt from (by first | exact (om_49 c_10 hw_4.1 hw_9 tI_1) | (have k9 := tI_1; omega))), (show x4.toInt ≤ 4 - 4 * (1 : Int32).toInt ∧ x5.toInt ≤ 1600 - 1601 * (1 : Int32).toInt from (by first | exact (om_50 hg__ff.1 tI_1 hg__ff.2) | (have k9 := tI_1; omega)))⟩⟩ (g_psub (wc := [(a0, .inr (4, [.ref a1, .ref a2, .int (u_1.2.2.2.1 0), .int (u_1.2.2.2.1 1), .int x2, .int x3, .int x4, .int x5])), (a1, .inr (9, [.ref a3, .int x6])), (a3, .inl (cB, 1600, .inl f0))]) hP [0, 1, 2] rfl) (hD.sub (ws' := [(a0, .inr (4, [.ref a1, .ref a2, .int (u_1.2.2.2.1 0), .int (u_1.2.2.2.1 1), .int x2, .int x3, .int x4, .int x5])), (a1, .inr (9, [.ref a3, .int x6])), (a3, .inl (cB, 1600, .inl f0))]) [0, 1, 2] (by decide) rfl) hS
  ·
    refine lv_aload_n (pc := 8) hx hb dX4_readWord_8 rfl (lv_at hl 0 rfl) ?_
    refine gd_i (pc := 9) (wc := [(a0, .inr (4, [.ref a1, .ref a2, .int (u_1.2.2.2.1 0), .int (u_1.2.2.2.1 1), .int x2, .int x3, .int x4, .int x5]))]) hP hD hS hA [0] rfl (by decide +kernel) (fun _ => by rfl) (fun hPc hDc => va_runV (As := []) (rest := []) ⟨hx, hb, hml, hown, hts⟩ (k_X4_failHere l D cB cC cI cJ _ a0 a1 a2 (u_1.2.2.2.1 0) (u_1.2.2.2.1 1) x2 x3 x4 x5 hw_5 hw_6 h_x2 h_x4 h_x5) ⟨gcwB hts tw_531 tw_2 tw_528 hd_yX4_failHere ⟨Nat.le_of_ble_eq_true rfl, Nat.le_of_ble_eq_true rfl⟩, hts _ tw_530, hts _ tp_1⟩ ⟨gblind, va_recv hK hPc (ci := 4) (q0 := 0) rfl rfl, (gpreS hPc hK hDc hN).2⟩ rfl rfl hl.1 rfl (lv_room (Nat.le_of_ble_eq_true rfl)) dX4_readWord_9 ⟨Nat.le_of_ble_eq_true rfl, Nat.le_of_ble_eq_true rfl⟩) (fun r_12 u_11 H locs hw_13 hP hD hS => ?_)
    replace hP : va_P D gcl [(a0, .inr (4, [.ref a1, .ref a2, .int (u_1.2.2.2.1 0), .int (u_1.2.2.2.1 1), .int x2, .int x3, .int 1, .int (u_1.2.2.2.1 0)])), (a1, .inr (9, [.ref a3, .int x6])), (a3, .inl (cB, 1600, .inl f0))] H := hP
    replace hD : va_D A [(a0, .inr (4, [.ref a1, .ref a2, .int (u_1.2.2.2.1 0), .int (u_1.2.2.2.1 1), .int x2, .int x3, .int 1, .int (u_1.2.2.2.1 0)])), (a1, .inr (9, [.ref a3, .int x6])), (a3, .inl (cB, 1600, .inl f0))] := hD
    have hw_14 : (0 ≤ r_12.toInt ∧ r_12.toInt ≤ 0) := hw_13
    have rr_12 := n_rng r_12
    refine b_if_eq (pc := 12) (tgt := 19) hx hb rfl  dX4_readWord_12 (by decide) (fun c_15 => ?_) (fun c_15 => absurd c_15 (by first | exact (om_51 hw_14.1 hw_14.2) | (omega)))
    refine lv_iconst (pc := 19) (v := 0) hx hb dX4_readWord_19 (by decide) ?_
    have k9 := tI_0
    have k8_0 := tI_1
    exact hret 0 ((fun _ => 0), (fun _ => (fun _ => 0)), (fun _ => (fun _ => 0)), (fun k => [(u_1.2.2.2.1 0), (u_1.2.2.2.1 1), 1, (u_1.2.2.2.1 0)].getD k 0), (fun _ => 0)) dX4_readWord_20 ⟨(Or.inl tI_0), ⟨(show (0 ≤ (0 : Int32).toInt ∧ (0 : Int32).toInt ≤ 1) from (n_c tI_0 (by decide))), (show (0 ≤ ((u_1.2.2.2.1 0) : Int32).toInt ∧ ((u_1.2.2.2.1 0) : Int32).toInt ≤ 1600) from hw_5), (show ((-1) ≤ ((u_1.2.2.2.1 1) : Int32).toInt ∧ ((u_1.2.2.2.1 1) : Int32).toInt ≤ 255) from hw_6), (show (0 ≤ (1 : Int32).toInt ∧ (1 : Int32).toInt ≤ 4) from (n_c tI_1 (by decide))), (show ((-1) ≤ ((u_1.2.2.2.1 0) : Int32).toInt ∧ ((u_1.2.2.2.1 0) : Int32).toInt ≤ 1600) from (by first | exact (om_52 hw_5.1 hw_5.2) | (have k9 := tI_0; have k8_0 := tI_1; omega))), (show rwQ (taub f0 x6.toInt) x0.toInt x1.toInt (wL.getD i []) (u_1.2.2.2.1 0).toInt (u_1.2.2.2.1 1).toInt (0 : Int32).toInt (1 : Int32).toInt (u_1.2.2.2.1 0).toInt from rw_no hw_7 (by first | exact (om_31 c_10) | (omega)) (by first | exact (om_31 tI_0) | (omega)) (by first | exact (om_28 tI_1) | (omega)) (by first | exact (om_53) | (omega))), (show svQ (taub f0 x6.toInt) (u_1.2.2.2.1 0).toInt (u_1.2.2.2.1 1).toInt from hw_8), (show x0.toInt + (0 : Int32).toInt ≤ (u_1.2.2.2.1 0).toInt from (by first | exact (om_54 hw_9 tI_0 c_10) | (have k9 := tI_0; have k8_0 := tI_1; omega))), (show (1 : Int32).toInt ≤ 4 - 4 * (0 : Int32).toInt ∧ (u_1.2.2.2.1 0).toInt ≤ 1600 - 1601 * (0 : Int32).toInt from (by first | exact (om_55 tI_1 tI_0 hw_5.2) | (have k9 := tI_0; have k8_0 := tI_1; omega)))⟩⟩ (g_psub (wc := [(a0, .inr (4, [.ref a1, .ref a2, .int (u_1.2.2.2.1 0), .int (u_1.2.2.2.1 1), .int x2, .int x3, .int 1, .int (u_1.2.2.2.1 0)])), (a1, .inr (9, [.ref a3, .int x6])), (a3, .inl (cB, 1600, .inl f0))]) hP [0, 1, 2] rfl) (hD.sub (ws' := [(a0, .inr (4, [.ref a1, .ref a2, .int (u_1.2.2.2.1 0), .int (u_1.2.2.2.1 1), .int x2, .int x3, .int 1, .int (u_1.2.2.2.1 0)])), (a1, .inr (9, [.ref a3, .int x6])), (a3, .inl (cB, 1600, .inl f0))]) [0, 1, 2] (by decide) rfl) hS
theorem om_56 {a : Int} (h0 : (0 ≤ a)) (h1 : (a ≤ 9999)) : (((-1) ≤ a ∧ a ≤ 9999)) := by omega
theorem om_57 {a b : Int} (h0 : ((b = 0 ∧ a < 48) ∨ (b = 0 ∧ a ≥ 48 ∧ a > 57) ∨ (b = 1 ∧ a ≥ 48 ∧ a ≤ 57))) (h1 : (¬ b = 0)) : (48 ≤ a ∧ a ≤ 57) := by omega
theorem om_58 {a : Int} (h0 : (a ≤ 4)) : (a ≤ 4) := by omega
theorem om_59 {a b : Int} (h0 : ((b = 0 ∧ a < 48) ∨ (b = 0 ∧ a ≥ 48 ∧ a > 57) ∨ (b = 1 ∧ a ≥ 48 ∧ a ≤ 57))) (h1 : (b = 0)) : (¬ (48 ≤ a ∧ a ≤ 57)) := by omega
theorem om_60 {a b c d : Int} (h0 : (c ≤ b)) (h1 : (c = a + d)) (h2 : (d ≥ 4)) : (a ≤ b) := by omega
theorem om_61 {a b c : Int} (h0 : (b = 0)) (h1 : (c = -1)) : (a = -1 ∨ (b = 0 ∧ c = -1)) := by omega
theorem om_62 {a : Int} (h0 : (a ≥ 4)) (h1 : (a ≤ 4)) : (a = 4) := by omega
theorem om_63 {a b c : Int} (h0 : (a = b + c)) : (a = b + c) := by omega
theorem om_64 {a b c d : Int} (h0 : ((b = 0 ∧ a < 48) ∨ (b = 0 ∧ a ≥ 48 ∧ a > 57) ∨ (b = 1 ∧ a ≥ 48 ∧ a ≤ 57))) (h1 : ((a = (-1) ∧ c < 0) ∨ (a = (-1) ∧ c ≥ 0 ∧ c ≥ d) ∨ ((0 ≤ a ∧ a ≤ 255) ∧ c ≥ 0 ∧ c < d))) (h2 : (¬ b = 0)) : (48 ≤ a ∧ a ≤ 57) := by omega
theorem om_65 {a : Int} (h0 : (a = (-1))) : (a = -1) := by omega
theorem om_66 {a b c : Int} (h0 : (b = a + c)) (h1 : (c ≥ 4)) : (a ≤ b) := by omega
theorem om_67 {a b c : Int} (h0 : (a = (-1))) : (a = -1 ∨ (b = 0 ∧ c = -1)) := by omega
theorem om_68 {a : Int} (h0 : (a < 4)) : (a ≤ 4) := by omega
theorem om_69 {a b c d : Int} (h0 : (c ≤ b)) (h1 : (c = a + d)) (h2 : (0 ≤ d)) : (a ≤ b) := by omega
theorem om_70 {a b c : Int} (h0 : (b = a + c)) (h1 : (0 ≤ c)) : (a ≤ b) := by omega
theorem om_71 {a : Int} (h0 : (0 ≤ a)) : (-2147483648 ≤ 10 * a) := by omega
theorem om_72 {a : Int} (h0 : (a ≤ 9999)) : (10 * a ≤ 2147483647) := by omega
theorem om_73 {a b c : Int} (h0 : ((-2147483648) ≤ b)) (h1 : (a = 10 * c)) (h2 : (0 ≤ c)) : (-2147483648 ≤ a + b) := by omega
theorem om_74 {a b c d e : Int} (h0 : ((b = (-1) ∧ c < 0) ∨ (b = (-1) ∧ c ≥ 0 ∧ c ≥ d) ∨ ((0 ≤ b ∧ b ≤ 255) ∧ c ≥ 0 ∧ c < d))) (h1 : (0 ≤ c)) (h2 : (a = 10 * e)) (h3 : (e ≤ 9999)) : (a + b ≤ 2147483647) := by omega
theorem om_75 {a b c d e f : Int} (h0 : ((b = (-1) ∧ c < 0) ∨ (b = (-1) ∧ c ≥ 0 ∧ c ≥ d) ∨ ((0 ≤ b ∧ b ≤ 255) ∧ c ≥ 0 ∧ c < d))) (h1 : (a = e + b)) (h2 : (e = 10 * f)) (h3 : (0 ≤ f)) : (-2147483648 ≤ a - 48) := by omega
theorem om_76 {a b c d e f : Int} (h0 : ((b = (-1) ∧ c < 0) ∨ (b = (-1) ∧ c ≥ 0 ∧ c ≥ d) ∨ ((0 ≤ b ∧ b ≤ 255) ∧ c ≥ 0 ∧ c < d))) (h1 : (a = e + b)) (h2 : (e = 10 * f)) (h3 : (f ≤ 9999)) : (a - 48 ≤ 2147483647) := by omega
theorem om_77 {a : Int} (h0 : (a < 4)) : (a + 1 ≤ 2147483647) := by omega
theorem om_78 {a b : Int} (h0 : (a = b + 1)) (h1 : (0 ≤ b)) (h2 : (b < 4)) : ((0 ≤ a ∧ a ≤ 4)) := by omega
theorem om_79 {a b c d e : Int} (h0 : (c = d + 1)) (h1 : (a = e + 1)) (h2 : (e = b + d)) : ((a = b + c)) := by omega
theorem om_80 {a b c d e : Int} (h0 : (a = d - 48)) (h1 : (d = e + c)) (h2 : (e = 10 * b)) : (a = 10 * b + c - 48) := by omega
theorem om_81 {a : Int} : (a ≤ a) := by omega
set_option maxHeartbeats 4000000 in
set_option maxRecDepth 100000 in
theorem k_X4_readNumber (l : Launch) (D : va_G) (cB cC cI cJ : ClassId) (sz : Nat) (a0 a1 a2 a3 : Nat) (x0 x1 x2 x3 x4 x5 x6 : Int32) (f0 : Nat → Int32) (h_x0 : (0 ≤ x0.toInt ∧ x0.toInt ≤ 1600)) (h_x1 : ((-1) ≤ x1.toInt ∧ x1.toInt ≤ 255)) (h_x2 : (0 ≤ x2.toInt ∧ x2.toInt ≤ 1600)) (h_x4 : (0 ≤ x4.toInt ∧ x4.toInt ≤ 4)) (h_x5 : ((-1) ≤ x5.toInt ∧ x5.toInt ≤ 1600)) (h_x6 : (0 ≤ x6.toInt ∧ x6.toInt ≤ 1600)) (hg_sv : svQ (taub f0 x6.toInt) x0.toInt x1.toInt) (hg__ff : x4.toInt = 0 ∧ x5.toInt = -1) : Met l yX4_readNumber (.code yX4_readNumber cX4_readNumber 3 (some .int) :: lw_gd) ({ frames := 2, cells := 0, slots := 0, locals := 43 }) (gPre D [(cB, .byte), (cC, .char), (cI, .int), (cJ, .long)] [.ref a0] [(a0, .inr (4, [.ref a1, .ref a2, .int x0, .int x1, .int x2, .int x3, .int x4, .int x5])), (a1, .inr (9, [.ref a3, .int x6])), (a3, .inl (cB, 1600, .inl f0))] sz) (va_Qi (fun r u => ((-1) ≤ r.toInt ∧ r.toInt ≤ 9999) ∧ (0 ≤ (u.2.2.2.1 0).toInt ∧ (u.2.2.2.1 0).toInt ≤ 1600) ∧ ((-1) ≤ (u.2.2.2.1 1).toInt ∧ (u.2.2.2.1 1).toInt ≤ 255) ∧ (0 ≤ (u.2.2.2.1 2).toInt ∧ (u.2.2.2.1 2).toInt ≤ 1600) ∧ (0 ≤ (u.2.2.2.1 3).toInt ∧ (u.2.2.2.1 3).toInt ≤ 4) ∧ ((-1) ≤ (u.2.2.2.1 4).toInt ∧ (u.2.2.2.1 4).toInt ≤ 1600) ∧ (nuQ (taub f0 x6.toInt) x0.toInt x1.toInt r.toInt (u.2.2.2.1 0).toInt (u.2.2.2.1 1).toInt (u.2.2.2.1 2).toInt (u.2.2.2.1 3).toInt (u.2.2.2.1 4).toInt) ∧ (x0.toInt ≤ (u.2.2.2.1 0).toInt) ∧ (r.toInt = -1 ∨ ((u.2.2.2.1 3).toInt = 0 ∧ (u.2.2.2.1 4).toInt = -1))) (gB D (va_A [(a0, .inr (4, [.ref a1, .ref a2, .int x0, .int x1, .int x2, .int x3, .int x4, .int x5])), (a1, .inr (9, [.ref a3, .int x6])), (a3, .inl (cB, 1600, .inl f0))] sz) (fun u : gEx => [(a0, .inr (4, [.ref a1, .ref a2, .int (u.2.2.2.1 0), .int (u.2.2.2.1 1), .int (u.2.2.2.1 2), .int x3, .int (u.2.2.2.1 3), .int (u.2.2.2.1 4)])), (a1, .inr (9, [.ref a3, .int x6])), (a3, .inl (cB, 1600, .inl f0))])) (va_A [(a0, .inr (4, [.ref a1, .ref a2, .int x0, .int x1, .int x2, .int x3, .int x4, .int x5])), (a1, .inr (9, [.ref a3, .int x6])), (a3, .inl (cB, 1600, .inl f0))] sz)) 0 0 (va_A [(a0, .inr (4, [.ref a1, .ref a2, .int x0, .int x1, .int x2, .int x3, .int x4, .int x5])), (a1, .inr (9, [.ref a3, .int x6])), (a3, .inl (cB, 1600, .inl f0))] sz) := by
  refine gOf_i (by decide +kernel) (Nat.le_of_ble_eq_true rfl) ?_
  intro p e s m args below meth c ls A Q hx hb hts hown hml hN hK hP hD hA hl hret
  replace hown : s.vm.findClass RX4 = some m.cls := hown
  have hS : va_S A s.heap s.heap [] := va_S.rf
  replace hP : va_P D gcl [(a0, .inr (4, [.ref a1, .ref a2, .int x0, .int x1, .int x2, .int x3, .int x4, .int x5])), (a1, .inr (9, [.ref a3, .int x6])), (a3, .inl (cB, 1600, .inl f0))] s.heap := hP
  replace hl : lv_has ls 3 [(0, .ref a0)] := hl
  have rx3 := n_rng x3
  refine lv_aload_n (pc := 0) hx hb dX4_readNumber_0 rfl (lv_at hl 0 rfl) ?_
  refine va_get (pc := 1) (ci := 4) (v := .int x1) (C := RX4) (T := TX4) (N := 8) hx hb hts iX4 hown hK hP 0 rfl rfl 3 (by decide) (hts _ tw_171) (fun _ h9 => h9) rfl dX4_readNumber_1 ?_
  refine gd_i (pc := 4) (wc := []) hP hD hS hA [] rfl (by decide +kernel) (fun _ => by rfl) (fun hPc hDc => va_runS (As := [.int x1]) (rest := []) ⟨hx, hb, hml, hown, hts⟩ (k_X4_isDigit l D cB cC cI cJ _ x1) ⟨gcwB hts tw_527 tw_2 tw_525 hd_yX4_isDigit ⟨Nat.le_of_ble_eq_true rfl, Nat.le_of_ble_eq_true rfl⟩, hts _ tw_526⟩ (gpreS hPc hK hDc hN) rfl rfl hl.1 rfl (lv_room (Nat.le_of_ble_eq_true rfl)) dX4_readNumber_4 ⟨Nat.le_of_ble_eq_true rfl, Nat.le_of_ble_eq_true rfl⟩) (fun r_2 u_1 H locs hw_3 hP hD hS => ?_)
  replace hP : va_P D gcl [(a0, .inr (4, [.ref a1, .ref a2, .int x0, .int x1, .int x2, .int x3, .int x4, .int x5])), (a1, .inr (9, [.ref a3, .int x6])), (a3, .inl (cB, 1600, .inl f0))] H := hP
  replace hD : va_D A [(a0, .inr (4, [.ref a1, .ref a2, .int x0, .int x1, .int x2, .int x3, .int x4, .int x5])), (a1, .inr (9, [.ref a3, .int x6])), (a3, .inl (cB, 1600, .inl f0))] := hD
  have hw_4 : ((r_2.toInt = 0 ∧ x1.toInt < 48) ∨ (r_2.toInt = 0 ∧ x1.toInt ≥ 48 ∧ x1.toInt > 57) ∨ (r_2.toInt = 1 ∧ x1.toInt ≥ 48 ∧ x1.toInt ≤ 57)) := hw_3
  have rr_2 := n_rng r_2
  refine b_if_ne (pc := 7) (tgt := 17) hx hb rfl  dX4_readNumber_7 (by decide) (fun c_5 => ?_) (fun c_5 => ?_)
  ·
    refine lv_aload_n (pc := 17) hx hb dX4_readNumber_17 rfl (lv_at hl 0 rfl) ?_
    refine lv_aload_n (pc := 18) hx hb dX4_readNumber_18 rfl (lv_at hl 0 rfl) ?_
    refine va_get (pc := 19) (ci := 4) (v := .int x0) (C := RX4) (T := TX4) (N := 8) hx hb hts iX4 hown hK hP 0 rfl rfl 2 (by decide) (hts _ tw_170) (fun _ h9 => h9) rfl dX4_readNumber_19 ?_
    refine va_put (pc := 22) (ci := 4) (v := .int x0) (ty := .int) (C := RX4) (T := TX4) (N := 8) hx hb hts iX4 tyX4 tyX4_ok nmX4 hown hK hP hD hS 0 rfl rfl 4 (by decide) (hts _ tw_172) (fun _ h9 => h9) rfl (by decide +kernel) rfl rfl (Nat.le_of_ble_eq_true rfl) dX4_readNumber_22 (fun H locs hP hD hS => ?_)
    replace hP : va_P D gcl [(a0, .inr (4, [.ref a1, .ref a2, .int x0, .int x1, .int x0, .int x3, .int x4, .int x5])), (a1, .inr (9, [.ref a3, .int x6])), (a3, .inl (cB, 1600, .inl f0))] H := hP
    replace hD : va_D A [(a0, .inr (4, [.ref a1, .ref a2, .int x0, .int x1, .int x0, .int x3, .int x4, .int x5])), (a1, .inr (9, [.ref a3, .int x6])), (a3, .inl (cB, 1600, .inl f0))] := hD
    refine lv_iconst (pc := 25) (v := 0) hx hb dX4_readNumber_25 (by decide) ?_
    refine lv_istore_n (pc := 26) (lv' := [(1, .int 0), (0, .ref a0)]) hx hb dX4_readNumber_26 rfl hl (by decide) rfl (fun ls hl => ?_)
    refine lv_iconst (pc := 27) (v := 0) hx hb dX4_readNumber_27 (by decide) ?_
    refine lv_istore_n (pc := 28) (lv' := [(2, .int 0), (1, .int 0), (0, .ref a0)]) hx hb dX4_readNumber_28 rfl hl (by decide) rfl (fun ls hl => ?_)
    have lp_16 : ∀ (n : Nat) (x_6 x_8 x_10 : Int32) (H : Heap) (locs : List Loc) (ls : Array Slot), (0 ≤ x_6.toInt ∧ x_6.toInt ≤ 4) → (0 ≤ x_8.toInt ∧ x_8.toInt ≤ 9999) → (0 ≤ x_10.toInt ∧ x_10.toInt ≤ 1600) → (x_10.toInt = x0.toInt + x_6.toInt) → (dgs (taub f0 x6.toInt) x0.toInt x_6.toInt) → (x_8.toInt = nvk (taub f0 x6.toInt) x0.toInt (x_6.toInt).toNat) → ((x_6.toInt = 0 ∧ x_8.toInt = 0) ∨ (x_6.toInt = 1 ∧ x_8.toInt ≤ 9) ∨ (x_6.toInt = 2 ∧ x_8.toInt ≤ 99) ∨ (x_6.toInt = 3 ∧ x_8.toInt ≤ 999) ∨ x_6.toInt = 4) → (2147483647 - x_6.toInt).toNat < n → va_P D gcl [(a0, .inr (4, [.ref a1, .ref a2, .int x_10, .int x1, .int x0, .int x3, .int x4, .int x5])), (a1, .inr (9, [.ref a3, .int x6])), (a3, .inl (cB, 1600, .inl f0))] H → va_D A [(a0, .inr (4, [.ref a1, .ref a2, .int x_10, .int x1, .int x0, .int x3, .int x4, .int x5])), (a1, .inr (9, [.ref a3, .int x6])), (a3, .inl (cB, 1600, .inl f0))] → va_S A s.heap H locs → lv_has ls 3 [(2, .int x_6), (1, .int x_8), (0, .ref a0)] → W p l e ({ frames := 2, cells := 0, slots := 0, locals := 43 }) s m args below meth c H locs 0 0 Q (F0 m 29 ls []) := by
      intro n
      induction n with
      | zero => intro x_6 x_8 x_10 H locs ls hi_7 hi_9 hi_11 hi_12 hi_13 hi_14 hi_15 hmu; exact absurd hmu (Nat.not_lt_zero _)
      | succ n ih_lp_16 =>
        intro x_6 x_8 x_10 H locs ls hi_7 hi_9 hi_11 hi_12 hi_13 hi_14 hi_15 hmu_lp_16 hP hD hS hl
        refine lv_iload_n (pc := 29) hx hb dX4_readNumber_29 rfl (lv_at hl 0 rfl) ?_
        refine lv_iconst (pc := 30) (v := 4) hx hb dX4_readNumber_30 (by decide) ?_
        refine b_icmp_ge (pc := 31) (tgt := 87) hx hb rfl tI_4  dX4_readNumber_31 (by decide) (fun c_17 => ?_) (fun c_17 => ?_)
        ·
          refine lv_aload_n (pc := 87) hx hb dX4_readNumber_87 rfl (lv_at hl 2 rfl) ?_
          refine va_get (pc := 88) (ci := 4) (v := .ref a1) (C := RX4) (T := TX4) (N := 8) hx hb hts iX4 hown hK hP 0 rfl rfl 0 (by decide) (hts _ tw_167) (fun _ h9 => h9) rfl dX4_readNumber_88 ?_
          refine lv_aload_n (pc := 91) hx hb dX4_readNumber_91 rfl (lv_at hl 2 rfl) ?_
          refine va_get (pc := 92) (ci := 4) (v := .int x_10) (C := RX4) (T := TX4) (N := 8) hx hb hts iX4 hown hK hP 0 rfl rfl 2 (by decide) (hts _ tw_170) (fun _ h9 => h9) rfl dX4_readNumber_92 ?_
          refine gd_i (pc := 95) (wc := [(a1, .inr (9, [.ref a3, .int x6])), (a3, .inl (cB, 1600, .inl f0))]) hP hD hS hA [1, 2] rfl (by decide +kernel) (fun _ => by rfl) (fun hPc hDc => va_runV (As := [.int x_10]) (rest := []) ⟨hx, hb, hml, hown, hts⟩ (k_X9_at_E l D cB cC cI cJ _ a1 a3 x_10 x6 f0 h_x6) ⟨gcwB hts tw_518 tw_3 tw_515 hd_yX9_at ⟨Nat.le_of_ble_eq_true rfl, Nat.le_of_ble_eq_true rfl⟩, hts _ tw_516, hts _ tw_517⟩ ⟨gblind, va_recv hK hPc (ci := 9) (q0 := 0) rfl rfl, (gpreS hPc hK hDc hN).2⟩ rfl rfl hl.1 rfl (lv_room (Nat.le_of_ble_eq_true rfl)) dX4_readNumber_95 ⟨Nat.le_of_ble_eq_true rfl, Nat.le_of_ble_eq_true rfl⟩) (fun r_19 u_18 H locs hw_20 hP hD hS => ?_)
          replace hP : va_P D gcl [(a0, .inr (4, [.ref a1, .ref a2, .int x_10, .int x1, .int x0, .int x3, .int x4, .int x5])), (a1, .inr (9, [.ref a3, .int x6])), (a3, .inl (cB, 1600, .inl f0))] H := hP
          replace hD : va_D A [(a0, .inr (4, [.ref a1, .ref a2, .int x_10, .int x1, .int x0, .int x3, .int x4, .int x5])), (a1, .inr (9, [.ref a3, .int x6])), (a3, .inl (cB, 1600, .inl f0))] := hD
          obtain ⟨hw_21, hw_22⟩ := hw_20
          replace hw_21 : ((r_19.toInt = (-1) ∧ x_10.toInt < 0) ∨ (r_19.toInt = (-1) ∧ x_10.toInt ≥ 0 ∧ x_10.toInt ≥ x6.toInt) ∨ ((0 ≤ r_19.toInt ∧ r_19.toInt ≤ 255) ∧ x_10.toInt ≥ 0 ∧ x_10.toInt < x6.toInt)) := hw_21
          replace hw_22 : (r_19.toInt = taub f0 x6.toInt x_10.toInt) := hw_22
          have rr_19 := n_rng r_19
          refine gd_i (pc := 98) (wc := []) hP hD hS hA [] rfl (by decide +kernel) (fun _ => by rfl) (fun hPc hDc => va_runS (As := [.int r_19]) (rest := []) ⟨hx, hb, hml, hown, hts⟩ (k_X4_isDigit l D cB cC cI cJ _ r_19) ⟨gcwB hts tw_527 tw_2 tw_525 hd_yX4_isDigit ⟨Nat.le_of_ble_eq_true rfl, Nat.le_of_ble_eq_true rfl⟩, hts _ tw_526⟩ (gpreS hPc hK hDc hN) rfl rfl hl.1 rfl (lv_room (Nat.le_of_ble_eq_true rfl)) dX4_readNumber_98 ⟨Nat.le_of_ble_eq_true rfl, Nat.le_of_ble_eq_true rfl⟩) (fun r_24 u_23 H locs hw_25 hP hD hS => ?_)
          replace hP : va_P D gcl [(a0, .inr (4, [.ref a1, .ref a2, .int x_10, .int x1, .int x0, .int x3, .int x4, .int x5])), (a1, .inr (9, [.ref a3, .int x6])), (a3, .inl (cB, 1600, .inl f0))] H := hP
          replace hD : va_D A [(a0, .inr (4, [.ref a1, .ref a2, .int x_10, .int x1, .int x0, .int x3, .int x4, .int x5])), (a1, .inr (9, [.ref a3, .int x6])), (a3, .inl (cB, 1600, .inl f0))] := hD
          have hw_26 : ((r_24.toInt = 0 ∧ r_19.toInt < 48) ∨ (r_24.toInt = 0 ∧ r_19.toInt ≥ 48 ∧ r_19.toInt > 57) ∨ (r_24.toInt = 1 ∧ r_19.toInt ≥ 48 ∧ r_19.toInt ≤ 57)) := hw_25
          have rr_24 := n_rng r_24
          refine b_if_eq (pc := 101) (tgt := 111) hx hb rfl  dX4_readNumber_101 (by decide) (fun c_27 => ?_) (fun c_27 => ?_)
          ·
            refine lv_aload_n (pc := 111) hx hb dX4_readNumber_111 rfl (lv_at hl 2 rfl) ?_
            refine lv_aload_n (pc := 112) hx hb dX4_readNumber_112 rfl (lv_at hl 2 rfl) ?_
            refine va_get (pc := 113) (ci := 4) (v := .int x_10) (C := RX4) (T := TX4) (N := 8) hx hb hts iX4 hown hK hP 0 rfl rfl 2 (by decide) (hts _ tw_170) (fun _ h9 => h9) rfl dX4_readNumber_113 ?_
            refine lv_iconst (pc := 116) (v := 1) hx hb dX4_readNumber_116 (by decide) ?_
            refine gd_v (pc := 117) (wc := [(a0, .inr (4, [.ref a1, .ref a2, .int x_10, .int x1, .int x0, .int x3, .int x4, .int x5])), (a1, .inr (9, [.ref a3, .int x6])), (a3, .inl (cB, 1600, .inl f0))]) hP hD hS hA [0, 1, 2] rfl (by decide +kernel) (fun _ => by rfl) (fun hPc hDc => va_runV (As := [.int x_10, .int 1]) (rest := []) ⟨hx, hb, hml, hown, hts⟩ (k_X4_goOn l D cB cC cI cJ _ a0 a1 a2 a3 x_10 1 x_10 x1 x0 x3 x4 x5 x6 f0 hi_11 (n_c tI_1 (by decide)) hi_11 h_x1 h_x0 h_x4 h_x5 h_x6) ⟨gcwB hts tw_513 tw_2 tw_510 hd_yX4_goOn ⟨Nat.le_of_ble_eq_true rfl, Nat.le_of_ble_eq_true rfl⟩, hts _ tw_512, hts _ tp_0⟩ ⟨gblind, va_recv hK hPc (ci := 4) (q0 := 0) rfl rfl, (gpreS hPc hK hDc hN).2⟩ rfl rfl hl.1 rfl (lv_room (Nat.le_of_ble_eq_true rfl)) dX4_readNumber_117 ⟨Nat.le_of_ble_eq_true rfl, Nat.le_of_ble_eq_true rfl⟩) (fun u_28 H locs hw_30 hP hD hS => ?_)
            replace hP : va_P D gcl [(a0, .inr (4, [.ref a1, .ref a2, .int (u_28.2.2.2.1 0), .int (u_28.2.2.2.1 1), .int x0, .int x3, .int x4, .int x5])), (a1, .inr (9, [.ref a3, .int x6])), (a3, .inl (cB, 1600, .inl f0))] H := hP
            replace hD : va_D A [(a0, .inr (4, [.ref a1, .ref a2, .int (u_28.2.2.2.1 0), .int (u_28.2.2.2.1 1), .int x0, .int x3, .int x4, .int x5])), (a1, .inr (9, [.ref a3, .int x6])), (a3, .inl (cB, 1600, .inl f0))] := hD
            obtain ⟨hw_31, hw_32, hw_33, hw_34, hw_35⟩ := hw_30
            replace hw_31 : (0 ≤ (u_28.2.2.2.1 0).toInt ∧ (u_28.2.2.2.1 0).toInt ≤ 1600) := hw_31
            replace hw_32 : ((-1) ≤ (u_28.2.2.2.1 1).toInt ∧ (u_28.2.2.2.1 1).toInt ≤ 255) := hw_32
            replace hw_33 : ((u_28.2.2.2.1 0).toInt = skp (taub f0 x6.toInt) x_10.toInt) := hw_33
            replace hw_34 : ((u_28.2.2.2.1 1).toInt = gsn (taub f0 x6.toInt) x_10.toInt (u_28.2.2.2.1 0).toInt (1 : Int32).toInt) := hw_34
            replace hw_35 : (x_10.toInt ≤ (u_28.2.2.2.1 0).toInt) := hw_35
            have kk0_r_29 := tI_1
            refine lv_iload_n (pc := 120) hx hb dX4_readNumber_120 rfl (lv_at hl 1 rfl) ?_
            exact hret x_8 ((fun _ => 0), (fun _ => (fun _ => 0)), (fun _ => (fun _ => 0)), (fun k => [(u_28.2.2.2.1 0), (u_28.2.2.2.1 1), x0, x4, x5].getD k 0), (fun _ => 0)) dX4_readNumber_121 ⟨(show ((-1) ≤ x_8.toInt ∧ x_8.toInt ≤ 9999) from (by first | exact (om_56 hi_9.1 hi_9.2) | (omega))), (show (0 ≤ ((u_28.2.2.2.1 0) : Int32).toInt ∧ ((u_28.2.2.2.1 0) : Int32).toInt ≤ 1600) from hw_31), (show ((-1) ≤ ((u_28.2.2.2.1 1) : Int32).toInt ∧ ((u_28.2.2.2.1 1) : Int32).toInt ≤ 255) from hw_32), (show (0 ≤ (x0 : Int32).toInt ∧ (x0 : Int32).toInt ≤ 1600) from h_x0), (show (0 ≤ (x4 : Int32).toInt ∧ (x4 : Int32).toInt ≤ 4) from h_x4), (show ((-1) ≤ (x5 : Int32).toInt ∧ (x5 : Int32).toInt ≤ 1600) from h_x5), (show nuQ (taub f0 x6.toInt) x0.toInt x1.toInt x_8.toInt (u_28.2.2.2.1 0).toInt (u_28.2.2.2.1 1).toInt x0.toInt x4.toInt x5.toInt from nu_yes (by first | exact (om_57 hw_4 c_5) | (omega)) hi_13 (by first | exact (om_58 hi_7.2) | (omega)) hi_12 hw_22 (by first | exact (om_59 hw_26 c_27) | (omega)) hi_14 (by first | exact (om_0 hi_9.1) | (omega)) hw_33 hw_34 (by first | exact (om_36 tI_1) | (omega)) (by first | exact (om_53) | (omega))), (show x0.toInt ≤ (u_28.2.2.2.1 0).toInt from (by first | exact (om_60 hw_35 hi_12 c_17) | (omega))), (show x_8.toInt = -1 ∨ (x4.toInt = 0 ∧ x5.toInt = -1) from (by first | exact (om_61 hg__ff.1 hg__ff.2) | (omega)))⟩ (g_psub (wc := [(a0, .inr (4, [.ref a1, .ref a2, .int (u_28.2.2.2.1 0), .int (u_28.2.2.2.1 1), .int x0, .int x3, .int x4, .int x5])), (a1, .inr (9, [.ref a3, .int x6])), (a3, .inl (cB, 1600, .inl f0))]) hP [0, 1, 2] rfl) (hD.sub (ws' := [(a0, .inr (4, [.ref a1, .ref a2, .int (u_28.2.2.2.1 0), .int (u_28.2.2.2.1 1), .int x0, .int x3, .int x4, .int x5])), (a1, .inr (9, [.ref a3, .int x6])), (a3, .inl (cB, 1600, .inl f0))]) [0, 1, 2] (by decide) rfl) hS
          ·
            refine lv_aload_n (pc := 104) hx hb dX4_readNumber_104 rfl (lv_at hl 2 rfl) ?_
            refine gd_i (pc := 105) (wc := [(a0, .inr (4, [.ref a1, .ref a2, .int x_10, .int x1, .int x0, .int x3, .int x4, .int x5]))]) hP hD hS hA [0] rfl (by decide +kernel) (fun _ => by rfl) (fun hPc hDc => va_runV (As := []) (rest := []) ⟨hx, hb, hml, hown, hts⟩ (k_X4_failHere l D cB cC cI cJ _ a0 a1 a2 x_10 x1 x0 x3 x4 x5 hi_11 h_x1 h_x0 h_x4 h_x5) ⟨gcwB hts tw_531 tw_2 tw_528 hd_yX4_failHere ⟨Nat.le_of_ble_eq_true rfl, Nat.le_of_ble_eq_true rfl⟩, hts _ tw_530, hts _ tp_1⟩ ⟨gblind, va_recv hK hPc (ci := 4) (q0 := 0) rfl rfl, (gpreS hPc hK hDc hN).2⟩ rfl rfl hl.1 rfl (lv_room (Nat.le_of_ble_eq_true rfl)) dX4_readNumber_105 ⟨Nat.le_of_ble_eq_true rfl, Nat.le_of_ble_eq_true rfl⟩) (fun r_37 u_36 H locs hw_38 hP hD hS => ?_)
            replace hP : va_P D gcl [(a0, .inr (4, [.ref a1, .ref a2, .int x_10, .int x1, .int x0, .int x3, .int 1, .int x_10])), (a1, .inr (9, [.ref a3, .int x6])), (a3, .inl (cB, 1600, .inl f0))] H := hP
            replace hD : va_D A [(a0, .inr (4, [.ref a1, .ref a2, .int x_10, .int x1, .int x0, .int x3, .int 1, .int x_10])), (a1, .inr (9, [.ref a3, .int x6])), (a3, .inl (cB, 1600, .inl f0))] := hD
            have hw_39 : (0 ≤ r_37.toInt ∧ r_37.toInt ≤ 0) := hw_38
            have rr_37 := n_rng r_37
            refine lv_pop (pc := 108) hx hb dX4_readNumber_108 rfl ?_
            refine lv_iconst (pc := 109) (v := (-1)) hx hb dX4_readNumber_109 (by decide) ?_
            have k9 := tI_m1
            have k8_0 := tI_1
            exact hret (-1) ((fun _ => 0), (fun _ => (fun _ => 0)), (fun _ => (fun _ => 0)), (fun k => [x_10, x1, x0, 1, x_10].getD k 0), (fun _ => 0)) dX4_readNumber_110 ⟨(show ((-1) ≤ ((-1) : Int32).toInt ∧ ((-1) : Int32).toInt ≤ 9999) from (n_c tI_m1 (by decide))), (show (0 ≤ (x_10 : Int32).toInt ∧ (x_10 : Int32).toInt ≤ 1600) from hi_11), (show ((-1) ≤ (x1 : Int32).toInt ∧ (x1 : Int32).toInt ≤ 255) from h_x1), (show (0 ≤ (x0 : Int32).toInt ∧ (x0 : Int32).toInt ≤ 1600) from h_x0), (show (0 ≤ (1 : Int32).toInt ∧ (1 : Int32).toInt ≤ 4) from (n_c tI_1 (by decide))), (show ((-1) ≤ (x_10 : Int32).toInt ∧ (x_10 : Int32).toInt ≤ 1600) from (by first | exact (om_52 hi_11.1 hi_11.2) | (have k9 := tI_m1; have k8_0 := tI_1; omega))), (show nuQ (taub f0 x6.toInt) x0.toInt x1.toInt ((-1) : Int32).toInt x_10.toInt x1.toInt x0.toInt (1 : Int32).toInt x_10.toInt from nu_five (by first | exact (om_57 hw_4 c_5) | (omega)) hi_13 (by first | exact (om_62 c_17 hi_7.2) | (omega)) (by first | exact (om_63 hi_12) | (omega)) hw_22 (by first | exact (om_64 hw_26 hw_21 c_27) | (omega)) (by first | exact (om_65 tI_m1) | (omega)) (by first | exact (om_28 tI_1) | (omega))), (show x0.toInt ≤ x_10.toInt from (by first | exact (om_66 hi_12 c_17) | (have k9 := tI_m1; have k8_0 := tI_1; omega))), (show ((-1) : Int32).toInt = -1 ∨ ((1 : Int32).toInt = 0 ∧ x_10.toInt = -1) from (by first | exact (om_67 tI_m1) | (have k9 := tI_m1; have k8_0 := tI_1; omega)))⟩ (g_psub (wc := [(a0, .inr (4, [.ref a1, .ref a2, .int x_10, .int x1, .int x0, .int x3, .int 1, .int x_10])), (a1, .inr (9, [.ref a3, .int x6])), (a3, .inl (cB, 1600, .inl f0))]) hP [0, 1, 2] rfl) (hD.sub (ws' := [(a0, .inr (4, [.ref a1, .ref a2, .int x_10, .int x1, .int x0, .int x3, .int 1, .int x_10])), (a1, .inr (9, [.ref a3, .int x6])), (a3, .inl (cB, 1600, .inl f0))]) [0, 1, 2] (by decide) rfl) hS
        ·
          refine lv_aload_n (pc := 34) hx hb dX4_readNumber_34 rfl (lv_at hl 2 rfl) ?_
          refine va_get (pc := 35) (ci := 4) (v := .ref a1) (C := RX4) (T := TX4) (N := 8) hx hb hts iX4 hown hK hP 0 rfl rfl 0 (by decide) (hts _ tw_167) (fun _ h9 => h9) rfl dX4_readNumber_35 ?_
          refine lv_aload_n (pc := 38) hx hb dX4_readNumber_38 rfl (lv_at hl 2 rfl) ?_
          refine va_get (pc := 39) (ci := 4) (v := .int x_10) (C := RX4) (T := TX4) (N := 8) hx hb hts iX4 hown hK hP 0 rfl rfl 2 (by decide) (hts _ tw_170) (fun _ h9 => h9) rfl dX4_readNumber_39 ?_
          refine gd_i (pc := 42) (wc := [(a1, .inr (9, [.ref a3, .int x6])), (a3, .inl (cB, 1600, .inl f0))]) hP hD hS hA [1, 2] rfl (by decide +kernel) (fun _ => by rfl) (fun hPc hDc => va_runV (As := [.int x_10]) (rest := []) ⟨hx, hb, hml, hown, hts⟩ (k_X9_at_E l D cB cC cI cJ _ a1 a3 x_10 x6 f0 h_x6) ⟨gcwB hts tw_518 tw_3 tw_515 hd_yX9_at ⟨Nat.le_of_ble_eq_true rfl, Nat.le_of_ble_eq_true rfl⟩, hts _ tw_516, hts _ tw_517⟩ ⟨gblind, va_recv hK hPc (ci := 9) (q0 := 0) rfl rfl, (gpreS hPc hK hDc hN).2⟩ rfl rfl hl.1 rfl (lv_room (Nat.le_of_ble_eq_true rfl)) dX4_readNumber_42 ⟨Nat.le_of_ble_eq_true rfl, Nat.le_of_ble_eq_true rfl⟩) (fun r_41 u_40 H locs hw_42 hP hD hS => ?_)
          replace hP : va_P D gcl [(a0, .inr (4, [.ref a1, .ref a2, .int x_10, .int x1, .int x0, .int x3, .int x4, .int x5])), (a1, .inr (9, [.ref a3, .int x6])), (a3, .inl (cB, 1600, .inl f0))] H := hP
          replace hD : va_D A [(a0, .inr (4, [.ref a1, .ref a2, .int x_10, .int x1, .int x0, .int x3, .int x4, .int x5])), (a1, .inr (9, [.ref a3, .int x6])), (a3, .inl (cB, 1600, .inl f0))] := hD
          obtain ⟨hw_43, hw_44⟩ := hw_42
          replace hw_43 : ((r_41.toInt = (-1) ∧ x_10.toInt < 0) ∨ (r_41.toInt = (-1) ∧ x_10.toInt ≥ 0 ∧ x_10.toInt ≥ x6.toInt) ∨ ((0 ≤ r_41.toInt ∧ r_41.toInt ≤ 255) ∧ x_10.toInt ≥ 0 ∧ x_10.toInt < x6.toInt)) := hw_43
          replace hw_44 : (r_41.toInt = taub f0 x6.toInt x_10.toInt) := hw_44
          have rr_41 := n_rng r_41
          refine gd_i (pc := 45) (wc := []) hP hD hS hA [] rfl (by decide +kernel) (fun _ => by rfl) (fun hPc hDc => va_runS (As := [.int r_41]) (rest := []) ⟨hx, hb, hml, hown, hts⟩ (k_X4_isDigit l D cB cC cI cJ _ r_41) ⟨gcwB hts tw_527 tw_2 tw_525 hd_yX4_isDigit ⟨Nat.le_of_ble_eq_true rfl, Nat.le_of_ble_eq_true rfl⟩, hts _ tw_526⟩ (gpreS hPc hK hDc hN) rfl rfl hl.1 rfl (lv_room (Nat.le_of_ble_eq_true rfl)) dX4_readNumber_45 ⟨Nat.le_of_ble_eq_true rfl, Nat.le_of_ble_eq_true rfl⟩) (fun r_46 u_45 H locs hw_47 hP hD hS => ?_)
          replace hP : va_P D gcl [(a0, .inr (4, [.ref a1, .ref a2, .int x_10, .int x1, .int x0, .int x3, .int x4, .int x5])), (a1, .inr (9, [.ref a3, .int x6])), (a3, .inl (cB, 1600, .inl f0))] H := hP
          replace hD : va_D A [(a0, .inr (4, [.ref a1, .ref a2, .int x_10, .int x1, .int x0, .int x3, .int x4, .int x5])), (a1, .inr (9, [.ref a3, .int x6])), (a3, .inl (cB, 1600, .inl f0))] := hD
          have hw_48 : ((r_46.toInt = 0 ∧ r_41.toInt < 48) ∨ (r_46.toInt = 0 ∧ r_41.toInt ≥ 48 ∧ r_41.toInt > 57) ∨ (r_46.toInt = 1 ∧ r_41.toInt ≥ 48 ∧ r_41.toInt ≤ 57)) := hw_47
          have rr_46 := n_rng r_46
          refine b_if_eq (pc := 48) (tgt := 87) hx hb rfl  dX4_readNumber_48 (by decide) (fun c_49 => ?_) (fun c_49 => ?_)
          ·
            refine lv_aload_n (pc := 87) hx hb dX4_readNumber_87 rfl (lv_at hl 2 rfl) ?_
            refine va_get (pc := 88) (ci := 4) (v := .ref a1) (C := RX4) (T := TX4) (N := 8) hx hb hts iX4 hown hK hP 0 rfl rfl 0 (by decide) (hts _ tw_167) (fun _ h9 => h9) rfl dX4_readNumber_88 ?_
            refine lv_aload_n (pc := 91) hx hb dX4_readNumber_91 rfl (lv_at hl 2 rfl) ?_
            refine va_get (pc := 92) (ci := 4) (v := .int x_10) (C := RX4) (T := TX4) (N := 8) hx hb hts iX4 hown hK hP 0 rfl rfl 2 (by decide) (hts _ tw_170) (fun _ h9 => h9) rfl dX4_readNumber_92 ?_
            refine gd_i (pc := 95) (wc := [(a1, .inr (9, [.ref a3, .int x6])), (a3, .inl (cB, 1600, .inl f0))]) hP hD hS hA [1, 2] rfl (by decide +kernel) (fun _ => by rfl) (fun hPc hDc => va_runV (As := [.int x_10]) (rest := []) ⟨hx, hb, hml, hown, hts⟩ (k_X9_at_E l D cB cC cI cJ _ a1 a3 x_10 x6 f0 h_x6) ⟨gcwB hts tw_518 tw_3 tw_515 hd_yX9_at ⟨Nat.le_of_ble_eq_true rfl, Nat.le_of_ble_eq_true rfl⟩, hts _ tw_516, hts _ tw_517⟩ ⟨gblind, va_recv hK hPc (ci := 9) (q0 := 0) rfl rfl, (gpreS hPc hK hDc hN).2⟩ rfl rfl hl.1 rfl (lv_room (Nat.le_of_ble_eq_true rfl)) dX4_readNumber_95 ⟨Nat.le_of_ble_eq_true rfl, Nat.le_of_ble_eq_true rfl⟩) (fun r_51 u_50 H locs hw_52 hP hD hS => ?_)
            replace hP : va_P D gcl [(a0, .inr (4, [.ref a1, .ref a2, .int x_10, .int x1, .int x0, .int x3, .int x4, .int x5])), (a1, .inr (9, [.ref a3, .int x6])), (a3, .inl (cB, 1600, .inl f0))] H := hP
            replace hD : va_D A [(a0, .inr (4, [.ref a1, .ref a2, .int x_10, .int x1, .int x0, .int x3, .int x4, .int x5])), (a1, .inr (9, [.ref a3, .int x6])), (a3, .inl (cB, 1600, .inl f0))] := hD
            obtain ⟨hw_53, hw_54⟩ := hw_52
            replace hw_53 : ((r_51.toInt = (-1) ∧ x_10.toInt < 0) ∨ (r_51.toInt = (-1) ∧ x_10.toInt ≥ 0 ∧ x_10.toInt ≥ x6.toInt) ∨ ((0 ≤ r_51.toInt ∧ r_51.toInt ≤ 255) ∧ x_10.toInt ≥ 0 ∧ x_10.toInt < x6.toInt)) := hw_53
            replace hw_54 : (r_51.toInt = taub f0 x6.toInt x_10.toInt) := hw_54
            have rr_51 := n_rng r_51
            refine gd_i (pc := 98) (wc := []) hP hD hS hA [] rfl (by decide +kernel) (fun _ => by rfl) (fun hPc hDc => va_runS (As := [.int r_51]) (rest := []) ⟨hx, hb, hml, hown, hts⟩ (k_X4_isDigit l D cB cC cI cJ _ r_51) ⟨gcwB hts tw_527 tw_2 tw_525 hd_yX4_isDigit ⟨Nat.le_of_ble_eq_true rfl, Nat.le_of_ble_eq_true rfl⟩, hts _ tw_526⟩ (gpreS hPc hK hDc hN) rfl rfl hl.1 rfl (lv_room (Nat.le_of_ble_eq_true rfl)) dX4_readNumber_98 ⟨Nat.le_of_ble_eq_true rfl, Nat.le_of_ble_eq_true rfl⟩) (fun r_56 u_55 H locs hw_57 hP hD hS => ?_)
            replace hP : va_P D gcl [(a0, .inr (4, [.ref a1, .ref a2, .int x_10, .int x1, .int x0, .int x3, .int x4, .int x5])), (a1, .inr (9, [.ref a3, .int x6])), (a3, .inl (cB, 1600, .inl f0))] H := hP
            replace hD : va_D A [(a0, .inr (4, [.ref a1, .ref a2, .int x_10, .int x1, .int x0, .int x3, .int x4, .int x5])), (a1, .inr (9, [.ref a3, .int x6])), (a3, .inl (cB, 1600, .inl f0))] := hD
            have hw_58 : ((r_56.toInt = 0 ∧ r_51.toInt < 48) ∨ (r_56.toInt = 0 ∧ r_51.toInt ≥ 48 ∧ r_51.toInt > 57) ∨ (r_56.toInt = 1 ∧ r_51.toInt ≥ 48 ∧ r_51.toInt ≤ 57)) := hw_57
            have rr_56 := n_rng r_56
            refine b_if_eq (pc := 101) (tgt := 111) hx hb rfl  dX4_readNumber_101 (by decide) (fun c_59 => ?_) (fun c_59 => ?_)
            ·
              refine lv_aload_n (pc := 111) hx hb dX4_readNumber_111 rfl (lv_at hl 2 rfl) ?_
              refine lv_aload_n (pc := 112) hx hb dX4_readNumber_112 rfl (lv_at hl 2 rfl) ?_
              refine va_get (pc := 113) (ci := 4) (v := .int x_10) (C := RX4) (T := TX4) (N := 8) hx hb hts iX4 hown hK hP 0 rfl rfl 2 (by decide) (hts _ tw_170) (fun _ h9 => h9) rfl dX4_readNumber_113 ?_
              refine lv_iconst (pc := 116) (v := 1) hx hb dX4_readNumber_116 (by decide) ?_
              refine gd_v (pc := 117) (wc := [(a0, .inr (4, [.ref a1, .ref a2, .int x_10, .int x1, .int x0, .int x3, .int x4, .int x5])), (a1, .inr (9, [.ref a3, .int x6])), (a3, .inl (cB, 1600, .inl f0))]) hP hD hS hA [0, 1, 2] rfl (by decide +kernel) (fun _ => by rfl) (fun hPc hDc => va_runV (As := [.int x_10, .int 1]) (rest := []) ⟨hx, hb, hml, hown, hts⟩ (k_X4_goOn l D cB cC cI cJ _ a0 a1 a2 a3 x_10 1 x_10 x1 x0 x3 x4 x5 x6 f0 hi_11 (n_c tI_1 (by decide)) hi_11 h_x1 h_x0 h_x4 h_x5 h_x6) ⟨gcwB hts tw_513 tw_2 tw_510 hd_yX4_goOn ⟨Nat.le_of_ble_eq_true rfl, Nat.le_of_ble_eq_true rfl⟩, hts _ tw_512, hts _ tp_0⟩ ⟨gblind, va_recv hK hPc (ci := 4) (q0 := 0) rfl rfl, (gpreS hPc hK hDc hN).2⟩ rfl rfl hl.1 rfl (lv_room (Nat.le_of_ble_eq_true rfl)) dX4_readNumber_117 ⟨Nat.le_of_ble_eq_true rfl, Nat.le_of_ble_eq_true rfl⟩) (fun u_60 H locs hw_62 hP hD hS => ?_)
              replace hP : va_P D gcl [(a0, .inr (4, [.ref a1, .ref a2, .int (u_60.2.2.2.1 0), .int (u_60.2.2.2.1 1), .int x0, .int x3, .int x4, .int x5])), (a1, .inr (9, [.ref a3, .int x6])), (a3, .inl (cB, 1600, .inl f0))] H := hP
              replace hD : va_D A [(a0, .inr (4, [.ref a1, .ref a2, .int (u_60.2.2.2.1 0), .int (u_60.2.2.2.1 1), .int x0, .int x3, .int x4, .int x5])), (a1, .inr (9, [.ref a3, .int x6])), (a3, .inl (cB, 1600, .inl f0))] := hD
              obtain ⟨hw_63, hw_64, hw_65, hw_66, hw_67⟩ := hw_62
              replace hw_63 : (0 ≤ (u_60.2.2.2.1 0).toInt ∧ (u_60.2.2.2.1 0).toInt ≤ 1600) := hw_63
              replace hw_64 : ((-1) ≤ (u_60.2.2.2.1 1).toInt ∧ (u_60.2.2.2.1 1).toInt ≤ 255) := hw_64
              replace hw_65 : ((u_60.2.2.2.1 0).toInt = skp (taub f0 x6.toInt) x_10.toInt) := hw_65
              replace hw_66 : ((u_60.2.2.2.1 1).toInt = gsn (taub f0 x6.toInt) x_10.toInt (u_60.2.2.2.1 0).toInt (1 : Int32).toInt) := hw_66
              replace hw_67 : (x_10.toInt ≤ (u_60.2.2.2.1 0).toInt) := hw_67
              have kk0_r_61 := tI_1
              refine lv_iload_n (pc := 120) hx hb dX4_readNumber_120 rfl (lv_at hl 1 rfl) ?_
              exact hret x_8 ((fun _ => 0), (fun _ => (fun _ => 0)), (fun _ => (fun _ => 0)), (fun k => [(u_60.2.2.2.1 0), (u_60.2.2.2.1 1), x0, x4, x5].getD k 0), (fun _ => 0)) dX4_readNumber_121 ⟨(show ((-1) ≤ x_8.toInt ∧ x_8.toInt ≤ 9999) from (by first | exact (om_56 hi_9.1 hi_9.2) | (omega))), (show (0 ≤ ((u_60.2.2.2.1 0) : Int32).toInt ∧ ((u_60.2.2.2.1 0) : Int32).toInt ≤ 1600) from hw_63), (show ((-1) ≤ ((u_60.2.2.2.1 1) : Int32).toInt ∧ ((u_60.2.2.2.1 1) : Int32).toInt ≤ 255) from hw_64), (show (0 ≤ (x0 : Int32).toInt ∧ (x0 : Int32).toInt ≤ 1600) from h_x0), (show (0 ≤ (x4 : Int32).toInt ∧ (x4 : Int32).toInt ≤ 4) from h_x4), (show ((-1) ≤ (x5 : Int32).toInt ∧ (x5 : Int32).toInt ≤ 1600) from h_x5), (show nuQ (taub f0 x6.toInt) x0.toInt x1.toInt x_8.toInt (u_60.2.2.2.1 0).toInt (u_60.2.2.2.1 1).toInt x0.toInt x4.toInt x5.toInt from nu_yes (by first | exact (om_57 hw_4 c_5) | (omega)) hi_13 (by first | exact (om_68 c_17) | (omega)) hi_12 hw_54 (by first | exact (om_59 hw_58 c_59) | (omega)) hi_14 (by first | exact (om_0 hi_9.1) | (omega)) hw_65 hw_66 (by first | exact (om_36 tI_1) | (omega)) (by first | exact (om_53) | (omega))), (show x0.toInt ≤ (u_60.2.2.2.1 0).toInt from (by first | exact (om_69 hw_67 hi_12 hi_7.1) | (omega))), (show x_8.toInt = -1 ∨ (x4.toInt = 0 ∧ x5.toInt = -1) from (by first | exact (om_61 hg__ff.1 hg__ff.2) | (omega)))⟩ (g_psub (wc := [(a0, .inr (4, [.ref a1, .ref a2, .int (u_60.2.2.2.1 0), .int (u_60.2.2.2.1 1), .int x0, .int x3, .int x4, .int x5])), (a1, .inr (9, [.ref a3, .int x6])), (a3, .inl (cB, 1600, .inl f0))]) hP [0, 1, 2] rfl) (hD.sub (ws' := [(a0, .inr (4, [.ref a1, .ref a2, .int (u_60.2.2.2.1 0), .int (u_60.2.2.2.1 1), .int x0, .int x3, .int x4, .int x5])), (a1, .inr (9, [.ref a3, .int x6])), (a3, .inl (cB, 1600, .inl f0))]) [0, 1, 2] (by decide) rfl) hS
            ·
              refine lv_aload_n (pc := 104) hx hb dX4_readNumber_104 rfl (lv_at hl 2 rfl) ?_
              refine gd_i (pc := 105) (wc := [(a0, .inr (4, [.ref a1, .ref a2, .int x_10, .int x1, .int x0, .int x3, .int x4, .int x5]))]) hP hD hS hA [0] rfl (by decide +kernel) (fun _ => by rfl) (fun hPc hDc => va_runV (As := []) (rest := []) ⟨hx, hb, hml, hown, hts⟩ (k_X4_failHere l D cB cC cI cJ _ a0 a1 a2 x_10 x1 x0 x3 x4 x5 hi_11 h_x1 h_x0 h_x4 h_x5) ⟨gcwB hts tw_531 tw_2 tw_528 hd_yX4_failHere ⟨Nat.le_of_ble_eq_true rfl, Nat.le_of_ble_eq_true rfl⟩, hts _ tw_530, hts _ tp_1⟩ ⟨gblind, va_recv hK hPc (ci := 4) (q0 := 0) rfl rfl, (gpreS hPc hK hDc hN).2⟩ rfl rfl hl.1 rfl (lv_room (Nat.le_of_ble_eq_true rfl)) dX4_readNumber_105 ⟨Nat.le_of_ble_eq_true rfl, Nat.le_of_ble_eq_true rfl⟩) (fun r_69 u_68 H locs hw_70 hP hD hS => ?_)
              replace hP : va_P D gcl [(a0, .inr (4, [.ref a1, .ref a2, .int x_10, .int x1, .int x0, .int x3, .int 1, .int x_10])), (a1, .inr (9, [.ref a3, .int x6])), (a3, .inl (cB, 1600, .inl f0))] H := hP
              replace hD : va_D A [(a0, .inr (4, [.ref a1, .ref a2, .int x_10, .int x1, .int x0, .int x3, .int 1, .int x_10])), (a1, .inr (9, [.ref a3, .int x6])), (a3, .inl (cB, 1600, .inl f0))] := hD
              have hw_71 : (0 ≤ r_69.toInt ∧ r_69.toInt ≤ 0) := hw_70
              have rr_69 := n_rng r_69
              refine lv_pop (pc := 108) hx hb dX4_readNumber_108 rfl ?_
              refine lv_iconst (pc := 109) (v := (-1)) hx hb dX4_readNumber_109 (by decide) ?_
              have k9 := tI_m1
              have k8_0 := tI_1
              exact hret (-1) ((fun _ => 0), (fun _ => (fun _ => 0)), (fun _ => (fun _ => 0)), (fun k => [x_10, x1, x0, 1, x_10].getD k 0), (fun _ => 0)) dX4_readNumber_110 ⟨(show ((-1) ≤ ((-1) : Int32).toInt ∧ ((-1) : Int32).toInt ≤ 9999) from (n_c tI_m1 (by decide))), (show (0 ≤ (x_10 : Int32).toInt ∧ (x_10 : Int32).toInt ≤ 1600) from hi_11), (show ((-1) ≤ (x1 : Int32).toInt ∧ (x1 : Int32).toInt ≤ 255) from h_x1), (show (0 ≤ (x0 : Int32).toInt ∧ (x0 : Int32).toInt ≤ 1600) from h_x0), (show (0 ≤ (1 : Int32).toInt ∧ (1 : Int32).toInt ≤ 4) from (n_c tI_1 (by decide))), (show ((-1) ≤ (x_10 : Int32).toInt ∧ (x_10 : Int32).toInt ≤ 1600) from (by first | exact (om_52 hi_11.1 hi_11.2) | (have k9 := tI_m1; have k8_0 := tI_1; omega))), (show nuQ (taub f0 x6.toInt) x0.toInt x1.toInt ((-1) : Int32).toInt x_10.toInt x1.toInt x0.toInt (1 : Int32).toInt x_10.toInt from nu_five (by first | exact (om_57 hw_4 c_5) | (omega)) hi_13 (by omega) (by first | exact (om_63 hi_12) | (omega)) hw_54 (by first | exact (om_64 hw_58 hw_53 c_59) | (omega)) (by first | exact (om_65 tI_m1) | (omega)) (by first | exact (om_28 tI_1) | (omega))), (show x0.toInt ≤ x_10.toInt from (by first | exact (om_70 hi_12 hi_7.1) | (have k9 := tI_m1; have k8_0 := tI_1; omega))), (show ((-1) : Int32).toInt = -1 ∨ ((1 : Int32).toInt = 0 ∧ x_10.toInt = -1) from (by first | exact (om_67 tI_m1) | (have k9 := tI_m1; have k8_0 := tI_1; omega)))⟩ (g_psub (wc := [(a0, .inr (4, [.ref a1, .ref a2, .int x_10, .int x1, .int x0, .int x3, .int 1, .int x_10])), (a1, .inr (9, [.ref a3, .int x6])), (a3, .inl (cB, 1600, .inl f0))]) hP [0, 1, 2] rfl) (hD.sub (ws' := [(a0, .inr (4, [.ref a1, .ref a2, .int x_10, .int x1, .int x0, .int x3, .int 1, .int x_10])), (a1, .inr (9, [.ref a3, .int x6])), (a3, .inl (cB, 1600, .inl f0))]) [0, 1, 2] (by decide) rfl) hS
          ·
            refine lv_bipush (pc := 51) (v := 10) hx hb dX4_readNumber_51 (by decide) ?_
            refine lv_iload_n (pc := 53) hx hb dX4_readNumber_53 rfl (lv_at hl 1 rfl) ?_
            refine b_imul (pc := 54) hx hb tI_10 rfl (by first | exact (om_71 hi_9.1) | (omega)) (by first | exact (om_72 hi_9.2) | (omega)) dX4_readNumber_54 (fun x_72 ex_72 => ?_)
            refine lv_aload_n (pc := 55) hx hb dX4_readNumber_55 rfl (lv_at hl 2 rfl) ?_
            refine va_get (pc := 56) (ci := 4) (v := .ref a1) (C := RX4) (T := TX4) (N := 8) hx hb hts iX4 hown hK hP 0 rfl rfl 0 (by decide) (hts _ tw_167) (fun _ h9 => h9) rfl dX4_readNumber_56 ?_
            refine lv_aload_n (pc := 59) hx hb dX4_readNumber_59 rfl (lv_at hl 2 rfl) ?_
            refine va_get (pc := 60) (ci := 4) (v := .int x_10) (C := RX4) (T := TX4) (N := 8) hx hb hts iX4 hown hK hP 0 rfl rfl 2 (by decide) (hts _ tw_170) (fun _ h9 => h9) rfl dX4_readNumber_60 ?_
            refine gd_i (pc := 63) (wc := [(a1, .inr (9, [.ref a3, .int x6])), (a3, .inl (cB, 1600, .inl f0))]) hP hD hS hA [1, 2] rfl (by decide +kernel) (fun _ => by rfl) (fun hPc hDc => va_runV (As := [.int x_10]) (rest := [.int x_72]) ⟨hx, hb, hml, hown, hts⟩ (k_X9_at_E l D cB cC cI cJ _ a1 a3 x_10 x6 f0 h_x6) ⟨gcwB hts tw_518 tw_3 tw_515 hd_yX9_at ⟨Nat.le_of_ble_eq_true rfl, Nat.le_of_ble_eq_true rfl⟩, hts _ tw_516, hts _ tw_517⟩ ⟨gblind, va_recv hK hPc (ci := 9) (q0 := 0) rfl rfl, (gpreS hPc hK hDc hN).2⟩ rfl rfl hl.1 rfl (lv_room (Nat.le_of_ble_eq_true rfl)) dX4_readNumber_63 ⟨Nat.le_of_ble_eq_true rfl, Nat.le_of_ble_eq_true rfl⟩) (fun r_74 u_73 H locs hw_75 hP hD hS => ?_)
            replace hP : va_P D gcl [(a0, .inr (4, [.ref a1, .ref a2, .int x_10, .int x1, .int x0, .int x3, .int x4, .int x5])), (a1, .inr (9, [.ref a3, .int x6])), (a3, .inl (cB, 1600, .inl f0))] H := hP
            replace hD : va_D A [(a0, .inr (4, [.ref a1, .ref a2, .int x_10, .int x1, .int x0, .int x3, .int x4, .int x5])), (a1, .inr (9, [.ref a3, .int x6])), (a3, .inl (cB, 1600, .inl f0))] := hD
            obtain ⟨hw_76, hw_77⟩ := hw_75
            replace hw_76 : ((r_74.toInt = (-1) ∧ x_10.toInt < 0) ∨ (r_74.toInt = (-1) ∧ x_10.toInt ≥ 0 ∧ x_10.toInt ≥ x6.toInt) ∨ ((0 ≤ r_74.toInt ∧ r_74.toInt ≤ 255) ∧ x_10.toInt ≥ 0 ∧ x_10.toInt < x6.toInt)) := hw_76
            replace hw_77 : (r_74.toInt = taub f0 x6.toInt x_10.toInt) := hw_77
            have rr_74 := n_rng r_74
            refine b_iadd (pc := 66) hx hb rfl rfl (by first | exact (om_73 rr_74.1 ex_72 hi_9.1) | (omega)) (by first | exact (om_74 hw_76 hi_11.1 ex_72 hi_9.2) | (omega)) dX4_readNumber_66 (fun x_78 ex_78 => ?_)
            refine lv_bipush (pc := 67) (v := 48) hx hb dX4_readNumber_67 (by decide) ?_
            refine b_isub (pc := 69) hx hb rfl tI_48 (by first | exact (om_75 hw_76 ex_78 ex_72 hi_9.1) | (omega)) (by first | exact (om_76 hw_76 ex_78 ex_72 hi_9.2) | (omega)) dX4_readNumber_69 (fun x_79 ex_79 => ?_)
            refine lv_istore_n (pc := 70) (lv' := [(1, .int x_79), (2, .int x_6), (0, .ref a0)]) hx hb dX4_readNumber_70 rfl hl (by decide) rfl (fun ls hl => ?_)
            refine lv_aload_n (pc := 71) hx hb dX4_readNumber_71 rfl (lv_at hl 2 rfl) ?_
            refine lv_dup (pc := 72) hx hb dX4_readNumber_72 rfl ?_
            refine va_get (pc := 73) (ci := 4) (v := .int x_10) (C := RX4) (T := TX4) (N := 8) hx hb hts iX4 hown hK hP 0 rfl rfl 2 (by decide) (hts _ tw_170) (fun _ h9 => h9) rfl dX4_readNumber_73 ?_
            refine lv_iconst (pc := 76) (v := 1) hx hb dX4_readNumber_76 (by decide) ?_
            refine b_iadd (pc := 77) hx hb rfl tI_1 (by first | exact (om_2 hi_11.1) | (omega)) (by first | exact (om_24 hi_11.2) | (omega)) dX4_readNumber_77 (fun x_80 ex_80 => ?_)
            refine va_put (pc := 78) (ci := 4) (v := .int x_80) (ty := .int) (C := RX4) (T := TX4) (N := 8) hx hb hts iX4 tyX4 tyX4_ok nmX4 hown hK hP hD hS 0 rfl rfl 2 (by decide) (hts _ tw_170) (fun _ h9 => h9) rfl (by decide +kernel) rfl rfl (Nat.le_of_ble_eq_true rfl) dX4_readNumber_78 (fun H locs hP hD hS => ?_)
            replace hP : va_P D gcl [(a0, .inr (4, [.ref a1, .ref a2, .int x_80, .int x1, .int x0, .int x3, .int x4, .int x5])), (a1, .inr (9, [.ref a3, .int x6])), (a3, .inl (cB, 1600, .inl f0))] H := hP
            replace hD : va_D A [(a0, .inr (4, [.ref a1, .ref a2, .int x_80, .int x1, .int x0, .int x3, .int x4, .int x5])), (a1, .inr (9, [.ref a3, .int x6])), (a3, .inl (cB, 1600, .inl f0))] := hD
            refine b_iinc (pc := 81) hx hb dX4_readNumber_81 hl (k := 1) rfl rfl tI_1 (by first | exact (om_2 hi_7.1) | (omega)) (by first | exact (om_77 c_17) | (omega)) (by decide) (fun x_81 ex_81 ls hl => ?_)
            replace hl : lv_has ls 3 [(2, .int x_81), (1, .int x_79), (0, .ref a0)] := hl
            refine lv_goto (pc := 84) (tgt := 29) hx hb dX4_readNumber_84 (by decide) ?_
            exact ih_lp_16 x_81 x_79 x_80 _ _ ls (by first | exact (om_78 ex_81 hi_7.1 c_17) | (omega)) (by omega) (by omega) (by first | exact (om_79 ex_81 ex_80 hi_12) | (omega)) (dgs_up hi_13 (by first | exact (om_5 ex_81) | (omega)) (by omega) hw_77 (by omega)) (nvk_up hi_14 (by first | exact (om_0 hi_7.1) | (omega)) (by first | exact (om_5 ex_81) | (omega)) (by omega) hw_77 (by first | exact (om_80 ex_79 ex_78 ex_72) | (omega))) (by omega) (by omega) hP hD hS (lv_sub hl [0, 1, 2] rfl)
    exact lp_16 _ 0 0 x0 _ _ ls (n_c tI_0 (by decide)) (n_c tI_0 (by decide)) h_x0 (by have q := tI_0; omega) (dgs_0 tI_0) (by rw [tI_0]; rfl) (by have q := tI_0; omega) (Nat.lt_succ_self _) hP hD hS (lv_sub hl [0, 1, 2] rfl)
  ·
    refine lv_aload_n (pc := 10) hx hb dX4_readNumber_10 rfl (lv_at hl 0 rfl) ?_
    refine gd_i (pc := 11) (wc := [(a0, .inr (4, [.ref a1, .ref a2, .int x0, .int x1, .int x2, .int x3, .int x4, .int x5]))]) hP hD hS hA [0] rfl (by decide +kernel) (fun _ => by rfl) (fun hPc hDc => va_runV (As := []) (rest := []) ⟨hx, hb, hml, hown, hts⟩ (k_X4_failHere l D cB cC cI cJ _ a0 a1 a2 x0 x1 x2 x3 x4 x5 h_x0 h_x1 h_x2 h_x4 h_x5) ⟨gcwB hts tw_531 tw_2 tw_528 hd_yX4_failHere ⟨Nat.le_of_ble_eq_true rfl, Nat.le_of_ble_eq_true rfl⟩, hts _ tw_530, hts _ tp_1⟩ ⟨gblind, va_recv hK hPc (ci := 4) (q0 := 0) rfl rfl, (gpreS hPc hK hDc hN).2⟩ rfl rfl hl.1 rfl (lv_room (Nat.le_of_ble_eq_true rfl)) dX4_readNumber_11 ⟨Nat.le_of_ble_eq_true rfl, Nat.le_of_ble_eq_true rfl⟩) (fun r_83 u_82 H locs hw_84 hP hD hS => ?_)
    replace hP : va_P D gcl [(a0, .inr (4, [.ref a1, .ref a2, .int x0, .int x1, .int x2, .int x3, .int 1, .int x0])), (a1, .inr (9, [.ref a3, .int x6])), (a3, .inl (cB, 1600, .inl f0))] H := hP
    replace hD : va_D A [(a0, .inr (4, [.ref a1, .ref a2, .int x0, .int x1, .int x2, .int x3, .int 1, .int x0])), (a1, .inr (9, [.ref a3, .int x6])), (a3, .inl (cB, 1600, .inl f0))] := hD
    have hw_85 : (0 ≤ r_83.toInt ∧ r_83.toInt ≤ 0) := hw_84
    have rr_83 := n_rng r_83
    refine lv_pop (pc := 14) hx hb dX4_readNumber_14 rfl ?_
    refine lv_iconst (pc := 15) (v := (-1)) hx hb dX4_readNumber_15 (by decide) ?_
    have k9 := tI_m1
    have k8_0 := tI_1
    exact hret (-1) ((fun _ => 0), (fun _ => (fun _ => 0)), (fun _ => (fun _ => 0)), (fun k => [x0, x1, x2, 1, x0].getD k 0), (fun _ => 0)) dX4_readNumber_16 ⟨(show ((-1) ≤ ((-1) : Int32).toInt ∧ ((-1) : Int32).toInt ≤ 9999) from (n_c tI_m1 (by decide))), (show (0 ≤ (x0 : Int32).toInt ∧ (x0 : Int32).toInt ≤ 1600) from h_x0), (show ((-1) ≤ (x1 : Int32).toInt ∧ (x1 : Int32).toInt ≤ 255) from h_x1), (show (0 ≤ (x2 : Int32).toInt ∧ (x2 : Int32).toInt ≤ 1600) from h_x2), (show (0 ≤ (1 : Int32).toInt ∧ (1 : Int32).toInt ≤ 4) from (n_c tI_1 (by decide))), (show ((-1) ≤ (x0 : Int32).toInt ∧ (x0 : Int32).toInt ≤ 1600) from (by first | exact (om_52 h_x0.1 h_x0.2) | (have k9 := tI_m1; have k8_0 := tI_1; omega))), (show nuQ (taub f0 x6.toInt) x0.toInt x1.toInt ((-1) : Int32).toInt x0.toInt x1.toInt x2.toInt (1 : Int32).toInt x0.toInt from nu_none (by first | exact (om_59 hw_4 c_5) | (omega)) (by first | exact (om_65 tI_m1) | (omega)) (by first | exact (om_28 tI_1) | (omega)) (by first | exact (om_53) | (omega))), (show x0.toInt ≤ x0.toInt from (by first | exact (om_81) | (have k9 := tI_m1; have k8_0 := tI_1; omega))), (show ((-1) : Int32).toInt = -1 ∨ ((1 : Int32).toInt = 0 ∧ x0.toInt = -1) from (by first | exact (om_67 tI_m1) | (have k9 := tI_m1; have k8_0 := tI_1; omega)))⟩ (g_psub (wc := [(a0, .inr (4, [.ref a1, .ref a2, .int x0, .int x1, .int x2, .int x3, .int 1, .int x0])), (a1, .inr (9, [.ref a3, .int x6])), (a3, .inl (cB, 1600, .inl f0))]) hP [0, 1, 2] rfl) (hD.sub (ws' := [(a0, .inr (4, [.ref a1, .ref a2, .int x0, .int x1, .int x2, .int x3, .int 1, .int x0])), (a1, .inr (9, [.ref a3, .int x6])), (a3, .inl (cB, 1600, .inl f0))]) [0, 1, 2] (by decide) rfl) hS
theorem om_82 {a b : Int} (h0 : (a = (-1))) (h1 : (0 ≤ b)) : (-1 ≤ a ∧ a ≤ b) := by omega
theorem om_83 {a : Int} (h0 : (¬ a = (-1))) : (¬ a = -1) := by omega
theorem om_84 {a b c : Int} (h0 : (b < a)) : (¬ (a ≤ b ∧ b ≤ c)) := by omega
theorem om_85 {a : Int} (h0 : (a = 2)) : (a = 2) := by omega
theorem om_86 {a b : Int} (h0 : ((-1) ≤ a)) (h1 : (a ≤ b)) : (-1 ≤ a ∧ a ≤ b) := by omega
theorem om_87 {a b c : Int} (h0 : (b ≥ a)) (h1 : (b ≤ c)) : (a ≤ b ∧ b ≤ c) := by omega
theorem om_88 {a b c : Int} (h0 : (b > c)) : (¬ (a ≤ b ∧ b ≤ c)) := by omega
set_option maxHeartbeats 4000000 in
set_option maxRecDepth 100000 in
theorem k_X4_readBetween (l : Launch) (D : va_G) (cB cC cI cJ : ClassId) (sz : Nat) (a0 a1 a2 a3 : Nat) (x0 x1 x2 x3 x4 x5 x6 x7 x8 : Int32) (f0 : Nat → Int32) (hp1 : (0 ≤ x0.toInt ∧ x0.toInt ≤ 9999)) (hp2 : (0 ≤ x1.toInt ∧ x1.toInt ≤ 9999)) (h_x2 : (0 ≤ x2.toInt ∧ x2.toInt ≤ 1600)) (h_x3 : ((-1) ≤ x3.toInt ∧ x3.toInt ≤ 255)) (h_x4 : (0 ≤ x4.toInt ∧ x4.toInt ≤ 1600)) (h_x6 : (0 ≤ x6.toInt ∧ x6.toInt ≤ 4)) (h_x7 : ((-1) ≤ x7.toInt ∧ x7.toInt ≤ 1600)) (h_x8 : (0 ≤ x8.toInt ∧ x8.toInt ≤ 1600)) (hg_sv : svQ (taub f0 x8.toInt) x2.toInt x3.toInt) (hg__ff : x6.toInt = 0 ∧ x7.toInt = -1) : Met l yX4_readBetween (.code yX4_readBetween cX4_readBetween 4 (some .int) :: lw_gd) ({ frames := 3, cells := 0, slots := 0, locals := 65 }) (gPre D [(cB, .byte), (cC, .char), (cI, .int), (cJ, .long)] [.ref a0, .int x0, .int x1] [(a0, .inr (4, [.ref a1, .ref a2, .int x2, .int x3, .int x4, .int x5, .int x6, .int x7])), (a1, .inr (9, [.ref a3, .int x8])), (a3, .inl (cB, 1600, .inl f0))] sz) (va_Qi (fun r u => ((-1) ≤ r.toInt ∧ r.toInt ≤ 9999) ∧ (0 ≤ (u.2.2.2.1 0).toInt ∧ (u.2.2.2.1 0).toInt ≤ 1600) ∧ ((-1) ≤ (u.2.2.2.1 1).toInt ∧ (u.2.2.2.1 1).toInt ≤ 255) ∧ (0 ≤ (u.2.2.2.1 2).toInt ∧ (u.2.2.2.1 2).toInt ≤ 1600) ∧ (0 ≤ (u.2.2.2.1 3).toInt ∧ (u.2.2.2.1 3).toInt ≤ 4) ∧ ((-1) ≤ (u.2.2.2.1 4).toInt ∧ (u.2.2.2.1 4).toInt ≤ 1600) ∧ (-1 ≤ r.toInt ∧ r.toInt ≤ x1.toInt) ∧ (fnQ (btF (taub f0 x8.toInt) x2.toInt x3.toInt x0.toInt x1.toInt) (taub f0 x8.toInt) r.toInt (-1) (u.2.2.2.1 0).toInt (u.2.2.2.1 1).toInt (u.2.2.2.1 3).toInt (u.2.2.2.1 4).toInt) ∧ (r.toInt = -1 ∨ ((u.2.2.2.1 3).toInt = 0 ∧ (u.2.2.2.1 4).toInt = -1))) (gB D (va_A [(a0, .inr (4, [.ref a1, .ref a2, .int x2, .int x3, .int x4, .int x5, .int x6, .int x7])), (a1, .inr (9, [.ref a3, .int x8])), (a3, .inl (cB, 1600, .inl f0))] sz) (fun u : gEx => [(a0, .inr (4, [.ref a1, .ref a2, .int (u.2.2.2.1 0), .int (u.2.2.2.1 1), .int (u.2.2.2.1 2), .int x5, .int (u.2.2.2.1 3), .int (u.2.2.2.1 4)])), (a1, .inr (9, [.ref a3, .int x8])), (a3, .inl (cB, 1600, .inl f0))])) (va_A [(a0, .inr (4, [.ref a1, .ref a2, .int x2, .int x3, .int x4, .int x5, .int x6, .int x7])), (a1, .inr (9, [.ref a3, .int x8])), (a3, .inl (cB, 1600, .inl f0))] sz)) 0 0 (va_A [(a0, .inr (4, [.ref a1, .ref a2, .int x2, .int x3, .int x4, .int x5, .int x6, .int x7])), (a1, .inr (9, [.ref a3, .int x8])), (a3, .inl (cB, 1600, .inl f0))] sz) := by
  refine gOf_i (by decide +kernel) (Nat.le_of_ble_eq_true rfl) ?_
  intro p e s m args below meth c ls A Q hx hb hts hown hml hN hK hP hD hA hl hret
  replace hown : s.vm.findClass RX4 = some m.cls := hown
  have hS : va_S A s.heap s.heap [] := va_S.rf
  replace hP : va_P D gcl [(a0, .inr (4, [.ref a1, .ref a2, .int x2, .int x3, .int x4, .int x5, .int x6, .int x7])), (a1, .inr (9, [.ref a3, .int x8])), (a3, .inl (cB, 1600, .inl f0))] s.heap := hP
  replace hl : lv_has ls 4 [(0, .ref a0), (1, .int x0), (2, .int x1)] := hl
  have rx5 := n_rng x5
  refine lv_aload_n (pc := 0) hx hb dX4_readBetween_0 rfl (lv_at hl 0 rfl) ?_
  refine gd_i (pc := 1) (wc := [(a0, .inr (4, [.ref a1, .ref a2, .int x2, .int x3, .int x4, .int x5, .int x6, .int x7])), (a1, .inr (9, [.ref a3, .int x8])), (a3, .inl (cB, 1600, .inl f0))]) hP hD hS hA [0, 1, 2] rfl (by decide +kernel) (fun _ => by rfl) (fun hPc hDc => va_runV (As := []) (rest := []) ⟨hx, hb, hml, hown, hts⟩ (k_X4_readNumber l D cB cC cI cJ _ a0 a1 a2 a3 x2 x3 x4 x5 x6 x7 x8 f0 h_x2 h_x3 h_x4 h_x6 h_x7 h_x8 (hg_sv) hg__ff) ⟨gcwB hts tw_612 tw_2 tw_609 hd_yX4_readNumber ⟨Nat.le_of_ble_eq_true rfl, Nat.le_of_ble_eq_true rfl⟩, hts _ tw_611, hts _ tp_9⟩ ⟨gblind, va_recv hK hPc (ci := 4) (q0 := 0) rfl rfl, (gpreS hPc hK hDc hN).2⟩ rfl rfl hl.1 rfl (lv_room (Nat.le_of_ble_eq_true rfl)) dX4_readBetween_1 ⟨Nat.le_of_ble_eq_true rfl, Nat.le_of_ble_eq_true rfl⟩) (fun r_2 u_1 H locs hw_3 hP hD hS => ?_)
  replace hP : va_P D gcl [(a0, .inr (4, [.ref a1, .ref a2, .int (u_1.2.2.2.1 0), .int (u_1.2.2.2.1 1), .int (u_1.2.2.2.1 2), .int x5, .int (u_1.2.2.2.1 3), .int (u_1.2.2.2.1 4)])), (a1, .inr (9, [.ref a3, .int x8])), (a3, .inl (cB, 1600, .inl f0))] H := hP
  replace hD : va_D A [(a0, .inr (4, [.ref a1, .ref a2, .int (u_1.2.2.2.1 0), .int (u_1.2.2.2.1 1), .int (u_1.2.2.2.1 2), .int x5, .int (u_1.2.2.2.1 3), .int (u_1.2.2.2.1 4)])), (a1, .inr (9, [.ref a3, .int x8])), (a3, .inl (cB, 1600, .inl f0))] := hD
  obtain ⟨hw_4, hw_5, hw_6, hw_7, hw_8, hw_9, hw_10, hw_11, hw_12⟩ := hw_3
  replace hw_4 : ((-1) ≤ r_2.toInt ∧ r_2.toInt ≤ 9999) := hw_4
  replace hw_5 : (0 ≤ (u_1.2.2.2.1 0).toInt ∧ (u_1.2.2.2.1 0).toInt ≤ 1600) := hw_5
  replace hw_6 : ((-1) ≤ (u_1.2.2.2.1 1).toInt ∧ (u_1.2.2.2.1 1).toInt ≤ 255) := hw_6
  replace hw_7 : (0 ≤ (u_1.2.2.2.1 2).toInt ∧ (u_1.2.2.2.1 2).toInt ≤ 1600) := hw_7
  replace hw_8 : (0 ≤ (u_1.2.2.2.1 3).toInt ∧ (u_1.2.2.2.1 3).toInt ≤ 4) := hw_8
  replace hw_9 : ((-1) ≤ (u_1.2.2.2.1 4).toInt ∧ (u_1.2.2.2.1 4).toInt ≤ 1600) := hw_9
  replace hw_10 : (nuQ (taub f0 x8.toInt) x2.toInt x3.toInt r_2.toInt (u_1.2.2.2.1 0).toInt (u_1.2.2.2.1 1).toInt (u_1.2.2.2.1 2).toInt (u_1.2.2.2.1 3).toInt (u_1.2.2.2.1 4).toInt) := hw_10
  replace hw_11 : (x2.toInt ≤ (u_1.2.2.2.1 0).toInt) := hw_11
  replace hw_12 : (r_2.toInt = -1 ∨ ((u_1.2.2.2.1 3).toInt = 0 ∧ (u_1.2.2.2.1 4).toInt = -1)) := hw_12
  have rr_2 := n_rng r_2
  refine lv_istore_n (pc := 4) (lv' := [(3, .int r_2), (0, .ref a0), (1, .int x0), (2, .int x1)]) hx hb dX4_readBetween_4 rfl hl (by decide) rfl (fun ls hl => ?_)
  refine lv_iload_n (pc := 5) hx hb dX4_readBetween_5 rfl (lv_at hl 0 rfl) ?_
  refine lv_iconst (pc := 6) (v := (-1)) hx hb dX4_readBetween_6 (by decide) ?_
  refine b_icmp_eq (pc := 7) (tgt := 32) hx hb rfl tI_m1  dX4_readBetween_7 (by decide) (fun c_13 => ?_) (fun c_13 => ?_)
  ·
    refine lv_iload_n (pc := 32) hx hb dX4_readBetween_32 rfl (lv_at hl 0 rfl) ?_
    exact hret r_2 ((fun _ => 0), (fun _ => (fun _ => 0)), (fun _ => (fun _ => 0)), (fun k => [(u_1.2.2.2.1 0), (u_1.2.2.2.1 1), (u_1.2.2.2.1 2), (u_1.2.2.2.1 3), (u_1.2.2.2.1 4)].getD k 0), (fun _ => 0)) dX4_readBetween_33 ⟨(show ((-1) ≤ r_2.toInt ∧ r_2.toInt ≤ 9999) from hw_4), (show (0 ≤ ((u_1.2.2.2.1 0) : Int32).toInt ∧ ((u_1.2.2.2.1 0) : Int32).toInt ≤ 1600) from hw_5), (show ((-1) ≤ ((u_1.2.2.2.1 1) : Int32).toInt ∧ ((u_1.2.2.2.1 1) : Int32).toInt ≤ 255) from hw_6), (show (0 ≤ ((u_1.2.2.2.1 2) : Int32).toInt ∧ ((u_1.2.2.2.1 2) : Int32).toInt ≤ 1600) from hw_7), (show (0 ≤ ((u_1.2.2.2.1 3) : Int32).toInt ∧ ((u_1.2.2.2.1 3) : Int32).toInt ≤ 4) from hw_8), (show ((-1) ≤ ((u_1.2.2.2.1 4) : Int32).toInt ∧ ((u_1.2.2.2.1 4) : Int32).toInt ≤ 1600) from hw_9), (show -1 ≤ r_2.toInt ∧ r_2.toInt ≤ x1.toInt from (by first | exact (om_82 c_13 hp2.1) | (omega))), (show fnQ (btF (taub f0 x8.toInt) x2.toInt x3.toInt x0.toInt x1.toInt) (taub f0 x8.toInt) r_2.toInt (-1) (u_1.2.2.2.1 0).toInt (u_1.2.2.2.1 1).toInt (u_1.2.2.2.1 3).toInt (u_1.2.2.2.1 4).toInt from bt_no hw_10 (by first | exact (om_65 c_13) | (omega)) (by first | exact (om_65 c_13) | (omega))), (show r_2.toInt = -1 ∨ ((u_1.2.2.2.1 3).toInt = 0 ∧ (u_1.2.2.2.1 4).toInt = -1) from hw_12)⟩ (g_psub (wc := [(a0, .inr (4, [.ref a1, .ref a2, .int (u_1.2.2.2.1 0), .int (u_1.2.2.2.1 1), .int (u_1.2.2.2.1 2), .int x5, .int (u_1.2.2.2.1 3), .int (u_1.2.2.2.1 4)])), (a1, .inr (9, [.ref a3, .int x8])), (a3, .inl (cB, 1600, .inl f0))]) hP [0, 1, 2] rfl) (hD.sub (ws' := [(a0, .inr (4, [.ref a1, .ref a2, .int (u_1.2.2.2.1 0), .int (u_1.2.2.2.1 1), .int (u_1.2.2.2.1 2), .int x5, .int (u_1.2.2.2.1 3), .int (u_1.2.2.2.1 4)])), (a1, .inr (9, [.ref a3, .int x8])), (a3, .inl (cB, 1600, .inl f0))]) [0, 1, 2] (by decide) rfl) hS
  ·
    refine lv_iload_n (pc := 10) hx hb dX4_readBetween_10 rfl (lv_at hl 0 rfl) ?_
    refine lv_iload_n (pc := 11) hx hb dX4_readBetween_11 rfl (lv_at hl 2 rfl) ?_
    refine b_icmp_lt (pc := 12) (tgt := 20) hx hb rfl rfl  dX4_readBetween_12 (by decide) (fun c_14 => ?_) (fun c_14 => ?_)
    ·
      refine lv_aload_n (pc := 20) hx hb dX4_readBetween_20 rfl (lv_at hl 1 rfl) ?_
      refine lv_iconst (pc := 21) (v := 2) hx hb dX4_readBetween_21 (by decide) ?_
      refine lv_aload_n (pc := 22) hx hb dX4_readBetween_22 rfl (lv_at hl 1 rfl) ?_
      refine va_get (pc := 23) (ci := 4) (v := .int (u_1.2.2.2.1 2)) (C := RX4) (T := TX4) (N := 8) hx hb hts iX4 hown hK hP 0 rfl rfl 4 (by decide) (hts _ tw_172) (fun _ h9 => h9) rfl dX4_readBetween_23 ?_
      refine gd_i (pc := 26) (wc := [(a0, .inr (4, [.ref a1, .ref a2, .int (u_1.2.2.2.1 0), .int (u_1.2.2.2.1 1), .int (u_1.2.2.2.1 2), .int x5, .int (u_1.2.2.2.1 3), .int (u_1.2.2.2.1 4)]))]) hP hD hS hA [0] rfl (by decide +kernel) (fun _ => by rfl) (fun hPc hDc => va_runV (As := [.int 2, .int (u_1.2.2.2.1 2)]) (rest := []) ⟨hx, hb, hml, hown, hts⟩ (k_X4_fail l D cB cC cI cJ _ a0 a1 a2 2 (u_1.2.2.2.1 2) (u_1.2.2.2.1 0) (u_1.2.2.2.1 1) (u_1.2.2.2.1 2) x5 (u_1.2.2.2.1 3) (u_1.2.2.2.1 4) (n_c tI_2 (by decide)) hw_7 hw_5 hw_6 hw_7 hw_8 hw_9) ⟨gcwB hts tw_535 tw_2 tw_532 hd_yX4_fail ⟨Nat.le_of_ble_eq_true rfl, Nat.le_of_ble_eq_true rfl⟩, hts _ tw_534, hts _ tp_2⟩ ⟨gblind, va_recv hK hPc (ci := 4) (q0 := 0) rfl rfl, (gpreS hPc hK hDc hN).2⟩ rfl rfl hl.1 rfl (lv_room (Nat.le_of_ble_eq_true rfl)) dX4_readBetween_26 ⟨Nat.le_of_ble_eq_true rfl, Nat.le_of_ble_eq_true rfl⟩) (fun r_16 u_15 H locs hw_17 hP hD hS => ?_)
      replace hP : va_P D gcl [(a0, .inr (4, [.ref a1, .ref a2, .int (u_1.2.2.2.1 0), .int (u_1.2.2.2.1 1), .int (u_1.2.2.2.1 2), .int x5, .int 2, .int (u_1.2.2.2.1 2)])), (a1, .inr (9, [.ref a3, .int x8])), (a3, .inl (cB, 1600, .inl f0))] H := hP
      replace hD : va_D A [(a0, .inr (4, [.ref a1, .ref a2, .int (u_1.2.2.2.1 0), .int (u_1.2.2.2.1 1), .int (u_1.2.2.2.1 2), .int x5, .int 2, .int (u_1.2.2.2.1 2)])), (a1, .inr (9, [.ref a3, .int x8])), (a3, .inl (cB, 1600, .inl f0))] := hD
      have hw_18 : ((r_16.toInt = 0)) := hw_17
      have kk0_r_16 := tI_2
      have rr_16 := n_rng r_16
      refine lv_pop (pc := 29) hx hb dX4_readBetween_29 rfl ?_
      refine lv_iconst (pc := 30) (v := (-1)) hx hb dX4_readBetween_30 (by decide) ?_
      have k9 := tI_m1
      have k8_0 := tI_2
      exact hret (-1) ((fun _ => 0), (fun _ => (fun _ => 0)), (fun _ => (fun _ => 0)), (fun k => [(u_1.2.2.2.1 0), (u_1.2.2.2.1 1), (u_1.2.2.2.1 2), 2, (u_1.2.2.2.1 2)].getD k 0), (fun _ => 0)) dX4_readBetween_31 ⟨(show ((-1) ≤ ((-1) : Int32).toInt ∧ ((-1) : Int32).toInt ≤ 9999) from (n_c tI_m1 (by decide))), (show (0 ≤ ((u_1.2.2.2.1 0) : Int32).toInt ∧ ((u_1.2.2.2.1 0) : Int32).toInt ≤ 1600) from hw_5), (show ((-1) ≤ ((u_1.2.2.2.1 1) : Int32).toInt ∧ ((u_1.2.2.2.1 1) : Int32).toInt ≤ 255) from hw_6), (show (0 ≤ ((u_1.2.2.2.1 2) : Int32).toInt ∧ ((u_1.2.2.2.1 2) : Int32).toInt ≤ 1600) from hw_7), (show (0 ≤ (2 : Int32).toInt ∧ (2 : Int32).toInt ≤ 4) from (n_c tI_2 (by decide))), (show ((-1) ≤ ((u_1.2.2.2.1 2) : Int32).toInt ∧ ((u_1.2.2.2.1 2) : Int32).toInt ≤ 1600) from (by first | exact (om_52 hw_7.1 hw_7.2) | (have k9 := tI_m1; have k8_0 := tI_2; omega))), (show -1 ≤ ((-1) : Int32).toInt ∧ ((-1) : Int32).toInt ≤ x1.toInt from (by first | exact (om_82 tI_m1 hp2.1) | (have k9 := tI_m1; have k8_0 := tI_2; omega))), (show fnQ (btF (taub f0 x8.toInt) x2.toInt x3.toInt x0.toInt x1.toInt) (taub f0 x8.toInt) ((-1) : Int32).toInt (-1) (u_1.2.2.2.1 0).toInt (u_1.2.2.2.1 1).toInt (2 : Int32).toInt (u_1.2.2.2.1 2).toInt from bt_out hw_10 (by first | exact (om_83 c_13) | (omega)) (by first | exact (om_84 c_14) | (omega)) (by first | exact (om_65 tI_m1) | (omega)) (by first | exact (om_85 tI_2) | (omega)) (by have q := (hw_10.1 (by omega)).2.2.2.2.2.1; omega)), (show ((-1) : Int32).toInt = -1 ∨ ((2 : Int32).toInt = 0 ∧ (u_1.2.2.2.1 2).toInt = -1) from (by first | exact (om_67 tI_m1) | (have k9 := tI_m1; have k8_0 := tI_2; omega)))⟩ (g_psub (wc := [(a0, .inr (4, [.ref a1, .ref a2, .int (u_1.2.2.2.1 0), .int (u_1.2.2.2.1 1), .int (u_1.2.2.2.1 2), .int x5, .int 2, .int (u_1.2.2.2.1 2)])), (a1, .inr (9, [.ref a3, .int x8])), (a3, .inl (cB, 1600, .inl f0))]) hP [0, 1, 2] rfl) (hD.sub (ws' := [(a0, .inr (4, [.ref a1, .ref a2, .int (u_1.2.2.2.1 0), .int (u_1.2.2.2.1 1), .int (u_1.2.2.2.1 2), .int x5, .int 2, .int (u_1.2.2.2.1 2)])), (a1, .inr (9, [.ref a3, .int x8])), (a3, .inl (cB, 1600, .inl f0))]) [0, 1, 2] (by decide) rfl) hS
    ·
      refine lv_iload_n (pc := 15) hx hb dX4_readBetween_15 rfl (lv_at hl 0 rfl) ?_
      refine lv_iload_n (pc := 16) hx hb dX4_readBetween_16 rfl (lv_at hl 3 rfl) ?_
      refine b_icmp_le (pc := 17) (tgt := 32) hx hb rfl rfl  dX4_readBetween_17 (by decide) (fun c_19 => ?_) (fun c_19 => ?_)
      ·
        refine lv_iload_n (pc := 32) hx hb dX4_readBetween_32 rfl (lv_at hl 0 rfl) ?_
        exact hret r_2 ((fun _ => 0), (fun _ => (fun _ => 0)), (fun _ => (fun _ => 0)), (fun k => [(u_1.2.2.2.1 0), (u_1.2.2.2.1 1), (u_1.2.2.2.1 2), (u_1.2.2.2.1 3), (u_1.2.2.2.1 4)].getD k 0), (fun _ => 0)) dX4_readBetween_33 ⟨(show ((-1) ≤ r_2.toInt ∧ r_2.toInt ≤ 9999) from hw_4), (show (0 ≤ ((u_1.2.2.2.1 0) : Int32).toInt ∧ ((u_1.2.2.2.1 0) : Int32).toInt ≤ 1600) from hw_5), (show ((-1) ≤ ((u_1.2.2.2.1 1) : Int32).toInt ∧ ((u_1.2.2.2.1 1) : Int32).toInt ≤ 255) from hw_6), (show (0 ≤ ((u_1.2.2.2.1 2) : Int32).toInt ∧ ((u_1.2.2.2.1 2) : Int32).toInt ≤ 1600) from hw_7), (show (0 ≤ ((u_1.2.2.2.1 3) : Int32).toInt ∧ ((u_1.2.2.2.1 3) : Int32).toInt ≤ 4) from hw_8), (show ((-1) ≤ ((u_1.2.2.2.1 4) : Int32).toInt ∧ ((u_1.2.2.2.1 4) : Int32).toInt ≤ 1600) from hw_9), (show -1 ≤ r_2.toInt ∧ r_2.toInt ≤ x1.toInt from (by first | exact (om_86 hw_4.1 c_19) | (omega))), (show fnQ (btF (taub f0 x8.toInt) x2.toInt x3.toInt x0.toInt x1.toInt) (taub f0 x8.toInt) r_2.toInt (-1) (u_1.2.2.2.1 0).toInt (u_1.2.2.2.1 1).toInt (u_1.2.2.2.1 3).toInt (u_1.2.2.2.1 4).toInt from bt_yes hw_10 (by first | exact (om_83 c_13) | (omega)) (by first | exact (om_87 c_14 c_19) | (omega))), (show r_2.toInt = -1 ∨ ((u_1.2.2.2.1 3).toInt = 0 ∧ (u_1.2.2.2.1 4).toInt = -1) from hw_12)⟩ (g_psub (wc := [(a0, .inr (4, [.ref a1, .ref a2, .int (u_1.2.2.2.1 0), .int (u_1.2.2.2.1 1), .int (u_1.2.2.2.1 2), .int x5, .int (u_1.2.2.2.1 3), .int (u_1.2.2.2.1 4)])), (a1, .inr (9, [.ref a3, .int x8])), (a3, .inl (cB, 1600, .inl f0))]) hP [0, 1, 2] rfl) (hD.sub (ws' := [(a0, .inr (4, [.ref a1, .ref a2, .int (u_1.2.2.2.1 0), .int (u_1.2.2.2.1 1), .int (u_1.2.2.2.1 2), .int x5, .int (u_1.2.2.2.1 3), .int (u_1.2.2.2.1 4)])), (a1, .inr (9, [.ref a3, .int x8])), (a3, .inl (cB, 1600, .inl f0))]) [0, 1, 2] (by decide) rfl) hS
      ·
        refine lv_aload_n (pc := 20) hx hb dX4_readBetween_20 rfl (lv_at hl 1 rfl) ?_
        refine lv_iconst (pc := 21) (v := 2) hx hb dX4_readBetween_21 (by decide) ?_
        refine lv_aload_n (pc := 22) hx hb dX4_readBetween_22 rfl (lv_at hl 1 rfl) ?_
        refine va_get (pc := 23) (ci := 4) (v := .int (u_1.2.2.2.1 2)) (C := RX4) (T := TX4) (N := 8) hx hb hts iX4 hown hK hP 0 rfl rfl 4 (by decide) (hts _ tw_172) (fun _ h9 => h9) rfl dX4_readBetween_23 ?_
        refine gd_i (pc := 26) (wc := [(a0, .inr (4, [.ref a1, .ref a2, .int (u_1.2.2.2.1 0), .int (u_1.2.2.2.1 1), .int (u_1.2.2.2.1 2), .int x5, .int (u_1.2.2.2.1 3), .int (u_1.2.2.2.1 4)]))]) hP hD hS hA [0] rfl (by decide +kernel) (fun _ => by rfl) (fun hPc hDc => va_runV (As := [.int 2, .int (u_1.2.2.2.1 2)]) (rest := []) ⟨hx, hb, hml, hown, hts⟩ (k_X4_fail l D cB cC cI cJ _ a0 a1 a2 2 (u_1.2.2.2.1 2) (u_1.2.2.2.1 0) (u_1.2.2.2.1 1) (u_1.2.2.2.1 2) x5 (u_1.2.2.2.1 3) (u_1.2.2.2.1 4) (n_c tI_2 (by decide)) hw_7 hw_5 hw_6 hw_7 hw_8 hw_9) ⟨gcwB hts tw_535 tw_2 tw_532 hd_yX4_fail ⟨Nat.le_of_ble_eq_true rfl, Nat.le_of_ble_eq_true rfl⟩, hts _ tw_534, hts _ tp_2⟩ ⟨gblind, va_recv hK hPc (ci := 4) (q0 := 0) rfl rfl, (gpreS hPc hK hDc hN).2⟩ rfl rfl hl.1 rfl (lv_room (Nat.le_of_ble_eq_true rfl)) dX4_readBetween_26 ⟨Nat.le_of_ble_eq_true rfl, Nat.le_of_ble_eq_true rfl⟩) (fun r_21 u_20 H locs hw_22 hP hD hS => ?_)
        replace hP : va_P D gcl [(a0, .inr (4, [.ref a1, .ref a2, .int (u_1.2.2.2.1 0), .int (u_1.2.2.2.1 1), .int (u_1.2.2.2.1 2), .int x5, .int 2, .int (u_1.2.2.2.1 2)])), (a1, .inr (9, [.ref a3, .int x8])), (a3, .inl (cB, 1600, .inl f0))] H := hP
        replace hD : va_D A [(a0, .inr (4, [.ref a1, .ref a2, .int (u_1.2.2.2.1 0), .int (u_1.2.2.2.1 1), .int (u_1.2.2.2.1 2), .int x5, .int 2, .int (u_1.2.2.2.1 2)])), (a1, .inr (9, [.ref a3, .int x8])), (a3, .inl (cB, 1600, .inl f0))] := hD
        have hw_23 : ((r_21.toInt = 0)) := hw_22
        have kk0_r_21 := tI_2
        have rr_21 := n_rng r_21
        refine lv_pop (pc := 29) hx hb dX4_readBetween_29 rfl ?_
        refine lv_iconst (pc := 30) (v := (-1)) hx hb dX4_readBetween_30 (by decide) ?_
        have k9 := tI_m1
        have k8_0 := tI_2
        exact hret (-1) ((fun _ => 0), (fun _ => (fun _ => 0)), (fun _ => (fun _ => 0)), (fun k => [(u_1.2.2.2.1 0), (u_1.2.2.2.1 1), (u_1.2.2.2.1 2), 2, (u_1.2.2.2.1 2)].getD k 0), (fun _ => 0)) dX4_readBetween_31 ⟨(show ((-1) ≤ ((-1) : Int32).toInt ∧ ((-1) : Int32).toInt ≤ 9999) from (n_c tI_m1 (by decide))), (show (0 ≤ ((u_1.2.2.2.1 0) : Int32).toInt ∧ ((u_1.2.2.2.1 0) : Int32).toInt ≤ 1600) from hw_5), (show ((-1) ≤ ((u_1.2.2.2.1 1) : Int32).toInt ∧ ((u_1.2.2.2.1 1) : Int32).toInt ≤ 255) from hw_6), (show (0 ≤ ((u_1.2.2.2.1 2) : Int32).toInt ∧ ((u_1.2.2.2.1 2) : Int32).toInt ≤ 1600) from hw_7), (show (0 ≤ (2 : Int32).toInt ∧ (2 : Int32).toInt ≤ 4) from (n_c tI_2 (by decide))), (show ((-1) ≤ ((u_1.2.2.2.1 2) : Int32).toInt ∧ ((u_1.2.2.2.1 2) : Int32).toInt ≤ 1600) from (by first | exact (om_52 hw_7.1 hw_7.2) | (have k9 := tI_m1; have k8_0 := tI_2; omega))), (show -1 ≤ ((-1) : Int32).toInt ∧ ((-1) : Int32).toInt ≤ x1.toInt from (by first | exact (om_82 tI_m1 hp2.1) | (have k9 := tI_m1; have k8_0 := tI_2; omega))), (show fnQ (btF (taub f0 x8.toInt) x2.toInt x3.toInt x0.toInt x1.toInt) (taub f0 x8.toInt) ((-1) : Int32).toInt (-1) (u_1.2.2.2.1 0).toInt (u_1.2.2.2.1 1).toInt (2 : Int32).toInt (u_1.2.2.2.1 2).toInt from bt_out hw_10 (by first | exact (om_83 c_13) | (omega)) (by first | exact (om_88 c_19) | (omega)) (by first | exact (om_65 tI_m1) | (omega)) (by first | exact (om_85 tI_2) | (omega)) (by have q := (hw_10.1 (by omega)).2.2.2.2.2.1; omega)), (show ((-1) : Int32).toInt = -1 ∨ ((2 : Int32).toInt = 0 ∧ (u_1.2.2.2.1 2).toInt = -1) from (by first | exact (om_67 tI_m1) | (have k9 := tI_m1; have k8_0 := tI_2; omega)))⟩ (g_psub (wc := [(a0, .inr (4, [.ref a1, .ref a2, .int (u_1.2.2.2.1 0), .int (u_1.2.2.2.1 1), .int (u_1.2.2.2.1 2), .int x5, .int 2, .int (u_1.2.2.2.1 2)])), (a1, .inr (9, [.ref a3, .int x8])), (a3, .inl (cB, 1600, .inl f0))]) hP [0, 1, 2] rfl) (hD.sub (ws' := [(a0, .inr (4, [.ref a1, .ref a2, .int (u_1.2.2.2.1 0), .int (u_1.2.2.2.1 1), .int (u_1.2.2.2.1 2), .int x5, .int 2, .int (u_1.2.2.2.1 2)])), (a1, .inr (9, [.ref a3, .int x8])), (a3, .inl (cB, 1600, .inl f0))]) [0, 1, 2] (by decide) rfl) hS
