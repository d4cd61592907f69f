theorem om_0 {a : Int} (h0 : (0 ≤ a)) : (0 ≤ a) := by omega
theorem om_1 {a : Int} (h0 : (a < 30)) : (a < (30 : Nat)) := by omega
theorem om_2 {a : Int} (h0 : (0 ≤ a)) : (-2147483648 ≤ a + 1) := by omega
theorem om_3 {a : Int} (h0 : (a < 30)) : (a + 1 ≤ 2147483647) := by omega
theorem om_4 {a b : Int} (h0 : (a = b + 1)) (h1 : (0 ≤ b)) (h2 : (b < 30)) : ((0 ≤ a ∧ a ≤ 2147483647)) := by omega
theorem om_5 {a b : Int} (h0 : (a = b + 1)) : (a = b + 1) := by omega
set_option maxHeartbeats 4000000 in
set_option maxRecDepth 100000 in
theorem k_J7_fill_53178_30_x (l : Launch) (D : va_G) (cB cC cI cJ : ClassId) (sz : Nat) (a0 : Nat) (x0 : Int32) (f0 : Nat → Int32) : Met l yJ7_fill_53178 (.code yJ7_fill_53178 cJ7_fill_53178 4 none :: lw_gd) ({ frames := 0, cells := 0, slots := 0, locals := 0 }) (gPre D [(cB, .byte), (cC, .char), (cI, .int), (cJ, .long)] [.ref a0, .int x0] [(a0, .inl (cI, 30, .inl f0))] sz) (va_Qv (fun u => (fillQ (u.2.1 0) x0 30)) (gB D (va_A [(a0, .inl (cI, 30, .inl f0))] sz) (fun u : gEx => [(a0, .inl (cI, 30, .inl (u.2.1 0)))])) (va_A [(a0, .inl (cI, 30, .inl f0))] sz)) 0 0 (va_A [(a0, .inl (cI, 30, .inl f0))] sz) := by
  refine gOf_v (by decide +kernel) (Nat.le_of_ble_eq_true rfl) ?_
  intro p e s m args below meth c ls A Q hx hb hts hown hml hN hK hP hD hA hl hret
  replace hown : s.vm.findClass RJ7 = some m.cls := hown
  have hS : va_S A s.heap s.heap [] := va_S.rf
  replace hP : va_P D gcl [(a0, .inl (cI, 30, .inl f0))] s.heap := hP
  replace hl : lv_has ls 4 [(0, .ref a0), (1, .int x0)] := hl
  have rx0 := n_rng x0
  refine lv_iconst (pc := 0) (v := 0) hx hb dJ7_fill_53178_0 (by decide) ?_
  refine lv_istore_n (pc := 1) (lv' := [(2, .int 0), (0, .ref a0), (1, .int x0)]) hx hb dJ7_fill_53178_1 rfl hl (by decide) rfl (fun ls hl => ?_)
  refine lv_aload_n (pc := 2) hx hb dJ7_fill_53178_2 rfl (lv_at hl 1 rfl) ?_
  refine va_alen (pc := 3) (v := 30) hx hb hK hP 0 2 rfl rfl rfl dJ7_fill_53178_3 ?_
  refine lv_istore_n (pc := 4) (lv' := [(3, .int 30), (2, .int 0), (0, .ref a0), (1, .int x0)]) hx hb dJ7_fill_53178_4 rfl hl (by decide) rfl (fun ls hl => ?_)
  have lp_5 : ∀ (n : Nat) (x_1 : Int32) (f_3 : Nat → Int32) (H : Heap) (locs : List Loc) (ls : Array Slot), (0 ≤ x_1.toInt ∧ x_1.toInt ≤ 2147483647) → (fillQ f_3 x0 x_1.toInt) → (2147483647 - x_1.toInt).toNat < n → va_P D gcl [(a0, .inl (cI, 30, .inl f_3))] H → va_D A [(a0, .inl (cI, 30, .inl f_3))] → va_S A s.heap H locs → lv_has ls 4 [(3, .int 30), (2, .int x_1), (0, .ref a0), (1, .int x0)] → W p l e ({ frames := 0, cells := 0, slots := 0, locals := 0 }) s m args below meth c H locs 0 0 Q (F0 m 5 ls []) := by
    intro n
    induction n with
    | zero => intro x_1 f_3 H locs ls hi_2 hi_4 hmu; exact absurd hmu (Nat.not_lt_zero _)
    | succ n ih_lp_5 =>
      intro x_1 f_3 H locs ls hi_2 hi_4 hmu_lp_5 hP hD hS hl
      refine lv_iload_n (pc := 5) hx hb dJ7_fill_53178_5 rfl (lv_at hl 1 rfl) ?_
      refine lv_iload_n (pc := 6) hx hb dJ7_fill_53178_6 rfl (lv_at hl 0 rfl) ?_
      refine b_icmp_ge (pc := 7) (tgt := 20) hx hb rfl tI_30  dJ7_fill_53178_7 (by decide) (fun c_6 => ?_) (fun c_6 => ?_)
      ·
        exact hret ((fun _ => 0), (fun k => [f_3].getD k (fun _ => 0)), (fun _ => (fun _ => 0)), (fun _ => 0), (fun _ => 0)) dJ7_fill_53178_20 (show fillQ f_3 x0 30 from (fun j hj => hi_4 j (by omega))) (g_psub (wc := [(a0, .inl (cI, 30, .inl f_3))]) hP [0] rfl) (hD.sub (ws' := [(a0, .inl (cI, 30, .inl f_3))]) [0] (by decide) rfl) hS
      ·
        refine lv_aload_n (pc := 10) hx hb dJ7_fill_53178_10 rfl (lv_at hl 2 rfl) ?_
        refine lv_iload_n (pc := 11) hx hb dJ7_fill_53178_11 rfl (lv_at hl 1 rfl) ?_
        refine lv_iload_n (pc := 12) hx hb dJ7_fill_53178_12 rfl (lv_at hl 3 rfl) ?_
        refine e_iastore (pc := 13) hx hb hK hP hD hS 0 2 rfl rfl (n_in rfl (by first | exact (om_0 hi_2.1) | (omega)) (by first | exact (om_1 c_6) | (omega))) dJ7_fill_53178_13 (fun f_7 ef_7 H locs hP hD hS => ?_)
        replace hP : va_P D gcl [(a0, .inl (cI, 30, .inl f_7))] H := hP
        replace hD : va_D A [(a0, .inl (cI, 30, .inl f_7))] := hD
        refine b_iinc (pc := 14) hx hb dJ7_fill_53178_14 hl (k := 1) rfl rfl tI_1 (by first | exact (om_2 hi_2.1) | (omega)) (by first | exact (om_3 c_6) | (omega)) (by decide) (fun x_8 ex_8 ls hl => ?_)
        replace hl : lv_has ls 4 [(2, .int x_8), (3, .int 30), (0, .ref a0), (1, .int x0)] := hl
        refine lv_goto (pc := 17) (tgt := 5) hx hb dJ7_fill_53178_17 (by decide) ?_
        exact ih_lp_5 x_8 f_7 _ _ ls (by first | exact (om_4 ex_8 hi_2.1 c_6) | (omega)) (fill_step hi_4 ef_7 rfl (by first | exact (om_0 hi_2.1) | (omega)) (by first | exact (om_5 ex_8) | (omega))) (by omega) hP hD hS (lv_sub hl [1, 0, 2, 3] rfl)
  exact lp_5 _ 0 f0 _ _ ls (n_c tI_0 (by decide)) (fun j hj => absurd hj (by have q := tI_0; omega)) (Nat.lt_succ_self _) hP hD hS (lv_sub hl [0, 1, 2, 3] rfl)
theorem om_6 : (30 ≤ 30) := by omega
set_option maxHeartbeats 4000000 in
set_option maxRecDepth 100000 in
theorem k_X8_clear_x (l : Launch) (D : va_G) (cB cC cI cJ : ClassId) (sz : Nat) (a0 a1 : Nat) (f0 : Nat → Int32) : Met l yX8_clear (.code yX8_clear cX8_clear 1 none :: lw_gd) ({ frames := 1, cells := 0, slots := 0, locals := 23 }) (gPre D [(cB, .byte), (cC, .char), (cI, .int), (cJ, .long)] [.ref a0] [(a0, .inr (8, [.ref a1])), (a1, .inl (cI, 30, .inl f0))] sz) (va_Qv (fun u => (TB (u.2.1 0) 99) ∧ (∀ j : Nat, j < 30 → (u.2.1 0) j = 0)) (gB D (va_A [(a0, .inr (8, [.ref a1])), (a1, .inl (cI, 30, .inl f0))] sz) (fun u : gEx => [(a0, .inr (8, [.ref a1])), (a1, .inl (cI, 30, .inl (u.2.1 0)))])) (va_A [(a0, .inr (8, [.ref a1])), (a1, .inl (cI, 30, .inl f0))] sz)) 0 0 (va_A [(a0, .inr (8, [.ref a1])), (a1, .inl (cI, 30, .inl f0))] sz) := by
  refine gOf_v (by decide +kernel) (Nat.le_of_ble_eq_true rfl) ?_
  intro p e s m args below meth c ls A Q hx hb hts hown hml hN hK hP hD hA hl hret
  replace hown : s.vm.findClass RX8 = some m.cls := hown
  have hS : va_S A s.heap s.heap [] := va_S.rf
  replace hP : va_P D gcl [(a0, .inr (8, [.ref a1])), (a1, .inl (cI, 30, .inl f0))] s.heap := hP
  replace hl : lv_has ls 1 [(0, .ref a0)] := hl
  refine lv_aload_n (pc := 0) hx hb dX8_clear_0 rfl (lv_at hl 0 rfl) ?_
  refine va_get (pc := 1) (ci := 8) (v := .ref a1) (C := RX8) (T := TX8) (N := 1) hx hb hts iX8 hown hK hP 0 rfl rfl 0 (by decide) (hts _ tw_62) (fun _ h9 => h9) rfl dX8_clear_1 ?_
  refine lv_iconst (pc := 4) (v := 0) hx hb dX8_clear_4 (by decide) ?_
  refine gd_v (pc := 5) (wc := [(a1, .inl (cI, 30, .inl f0))]) hP hD hS hA [1] rfl (by decide +kernel) (fun _ => by rfl) (fun hPc hDc => va_runS (As := [.ref a1, .int 0]) (rest := []) ⟨hx, hb, hml, hown, hts⟩ (k_J7_fill_53178_30_x l D cB cC cI cJ _ a1 0 f0) ⟨gcwB hts tw_505 tw_10 tw_503 hd_yJ7_fill_53178 ⟨Nat.le_of_ble_eq_true rfl, Nat.le_of_ble_eq_true rfl⟩, hts _ tw_504⟩ (gpreS hPc hK hDc hN) rfl rfl hl.1 rfl (lv_room (Nat.le_of_ble_eq_true rfl)) dX8_clear_5 ⟨Nat.le_of_ble_eq_true rfl, Nat.le_of_ble_eq_true rfl⟩) (fun u_1 H locs hw_3 hP hD hS => ?_)
  replace hP : va_P D gcl [(a0, .inr (8, [.ref a1])), (a1, .inl (cI, 30, .inl (u_1.2.1 0)))] H := hP
  replace hD : va_D A [(a0, .inr (8, [.ref a1])), (a1, .inl (cI, 30, .inl (u_1.2.1 0)))] := hD
  have hw_4 : (fillQ (u_1.2.1 0) (0 : Int32) 30) := hw_3
  have kk0_r_2 := tI_0
  exact hret ((fun _ => 0), (fun k => [(u_1.2.1 0)].getD k (fun _ => 0)), (fun _ => (fun _ => 0)), (fun _ => 0), (fun _ => 0)) dX8_clear_8 ⟨(show TB (u_1.2.1 0) 99 from fill_TB hw_4 (by first | exact (om_6) | (omega)) (by decide)), (show ∀ j : Nat, j < 30 → (u_1.2.1 0) j = 0 from fun j hj => hw_4 j (by omega))⟩ (g_psub (wc := [(a0, .inr (8, [.ref a1])), (a1, .inl (cI, 30, .inl (u_1.2.1 0)))]) hP [0, 1] rfl) (hD.sub (ws' := [(a0, .inr (8, [.ref a1])), (a1, .inl (cI, 30, .inl (u_1.2.1 0)))]) [0, 1] (by decide) rfl) hS
set_option maxHeartbeats 4000000 in
set_option maxRecDepth 100000 in
theorem k_X5_clear (l : Launch) (D : va_G) (cB cC cI cJ : ClassId) (sz : Nat) (a0 a1 a2 a3 a4 a5 : Nat) (x0 x1 : Int32) (h_x0 : (0 ≤ x0.toInt ∧ x0.toInt ≤ 1600)) (h_x1 : (0 ≤ x1.toInt ∧ x1.toInt ≤ 8)) : Met l yX5_clear (.code yX5_clear cX5_clear 1 none :: lw_gd) ({ frames := 0, cells := 0, slots := 0, locals := 0 }) (gPre D [(cB, .byte), (cC, .char), (cI, .int), (cJ, .long)] [.ref a0] (zS_157 cB cC cI cJ a0 a1 a2 a3 a4 a5 x0 x1) sz) (va_Qv (fun u => True) (gB D (va_A (zS_157 cB cC cI cJ a0 a1 a2 a3 a4 a5 x0 x1) sz) (fun u : gEx => (zS_157 cB cC cI cJ a0 a1 a2 a3 a4 a5 0 0))) (va_A (zS_157 cB cC cI cJ a0 a1 a2 a3 a4 a5 x0 x1) sz)) 0 0 (va_A (zS_157 cB cC cI cJ a0 a1 a2 a3 a4 a5 x0 x1) sz) := by
  refine gOf_v (by decide +kernel) (Nat.le_of_ble_eq_true rfl) ?_
  intro p e s m args below meth c ls A Q hx hb hts hown hml hN hK hP hD hA hl hret
  replace hown : s.vm.findClass RX5 = some m.cls := hown
  have hS : va_S A s.heap s.heap [] := va_S.rf
  replace hP : va_P D gcl (zS_157 cB cC cI cJ a0 a1 a2 a3 a4 a5 x0 x1) s.heap := hP
  replace hl : lv_has ls 1 [(0, .ref a0)] := hl
  refine lv_aload_n (pc := 0) hx hb dX5_clear_0 rfl (lv_at hl 0 rfl) ?_
  refine lv_iconst (pc := 1) (v := 0) hx hb dX5_clear_1 (by decide) ?_
  refine va_put (pc := 2) (ci := 5) (v := .int 0) (ty := .int) (C := RX5) (T := TX5) (N := 7) hx hb hts iX5 tyX5 tyX5_ok nmX5 hown hK hP hD hS 0 rfl rfl 5 (by decide) (hts _ tw_78) (fun _ h9 => h9) rfl (by decide +kernel) (by decide +kernel) (by decide +kernel) (Nat.le_of_ble_eq_true rfl) dX5_clear_2 (fun H locs hP hD hS => ?_)
  replace hP : va_P D gcl (zS_157 cB cC cI cJ a0 a1 a2 a3 a4 a5 0 x1) H := hP
  replace hD : va_D A (zS_157 cB cC cI cJ a0 a1 a2 a3 a4 a5 0 x1) := hD
  refine lv_aload_n (pc := 5) hx hb dX5_clear_5 rfl (lv_at hl 0 rfl) ?_
  refine lv_iconst (pc := 6) (v := 0) hx hb dX5_clear_6 (by decide) ?_
  refine va_put (pc := 7) (ci := 5) (v := .int 0) (ty := .int) (C := RX5) (T := TX5) (N := 7) hx hb hts iX5 tyX5 tyX5_ok nmX5 hown hK hP hD hS 0 rfl rfl 6 (by decide) (hts _ tw_79) (fun _ h9 => h9) rfl (by decide +kernel) (by decide +kernel) (by decide +kernel) (Nat.le_of_ble_eq_true rfl) dX5_clear_7 (fun H locs hP hD hS => ?_)
  replace hP : va_P D gcl (zS_157 cB cC cI cJ a0 a1 a2 a3 a4 a5 0 0) H := hP
  replace hD : va_D A (zS_157 cB cC cI cJ a0 a1 a2 a3 a4 a5 0 0) := hD
  exact hret ((fun _ => 0), (fun _ => (fun _ => 0)), (fun _ => (fun _ => 0)), (fun _ => 0), (fun _ => 0)) dX5_clear_10 trivial (g_psub (wc := (zS_157 cB cC cI cJ a0 a1 a2 a3 a4 a5 0 0)) hP [0] rfl) (hD.sub (ws' := (zS_157 cB cC cI cJ a0 a1 a2 a3 a4 a5 0 0)) [0] (by decide) rfl) hS
set_option maxHeartbeats 4000000 in
set_option maxRecDepth 100000 in
theorem k_X1_clear_x (l : Launch) (D : va_G) (cB cC cI cJ : ClassId) (sz : Nat) (a0 a1 a2 a3 a4 a5 a6 a7 a8 a9 : Nat) (x0 x1 x2 x3 x4 x5 x6 x7 x8 : Int32) (f0 : Nat → Int32) (h_x0 : ((-1) ≤ x0.toInt ∧ x0.toInt ≤ 8)) (h_x1 : ((-1) ≤ x1.toInt ∧ x1.toInt ≤ 5)) (h_x2 : ((-1) ≤ x2.toInt ∧ x2.toInt ≤ 6)) (h_x3 : (0 ≤ x3.toInt ∧ x3.toInt ≤ 6)) (h_x4 : (0 ≤ x4.toInt ∧ x4.toInt ≤ 16)) (h_x7 : (0 ≤ x7.toInt ∧ x7.toInt ≤ 1600)) (h_x8 : (0 ≤ x8.toInt ∧ x8.toInt ≤ 8)) : Met l yX1_clear (.code yX1_clear cX1_clear 1 none :: lw_gd) ({ frames := 2, cells := 0, slots := 0, locals := 43 }) (gPre D [(cB, .byte), (cC, .char), (cI, .int), (cJ, .long)] [.ref a0] (zS_76 cB cC cI cJ a0 a1 a2 a3 x0 x1 x2 x3 x4 x5 x6 a1 a4 a4 f0 a2 a5 a6 a7 a8 a9 x7 x8) sz) (va_Qv (fun u => (TB (u.2.1 0) 99) ∧ (∀ j : Nat, j < 30 → (u.2.1 0) j = 0)) (gB D (va_A (zS_76 cB cC cI cJ a0 a1 a2 a3 x0 x1 x2 x3 x4 x5 x6 a1 a4 a4 f0 a2 a5 a6 a7 a8 a9 x7 x8) sz) (fun u : gEx => (zS_76 cB cC cI cJ a0 a1 a2 a3 0 0 0 0 0 9999 0 a1 a4 a4 (u.2.1 0) a2 a5 a6 a7 a8 a9 0 0))) (va_A (zS_76 cB cC cI cJ a0 a1 a2 a3 x0 x1 x2 x3 x4 x5 x6 a1 a4 a4 f0 a2 a5 a6 a7 a8 a9 x7 x8) sz)) 0 0 (va_A (zS_76 cB cC cI cJ a0 a1 a2 a3 x0 x1 x2 x3 x4 x5 x6 a1 a4 a4 f0 a2 a5 a6 a7 a8 a9 x7 x8) sz) := by
  refine gOf_v (by decide +kernel) (Nat.le_of_ble_eq_true rfl) ?_
  intro p e s m args below meth c ls A Q hx hb hts hown hml hN hK hP hD hA hl hret
  replace hown : s.vm.findClass RX1 = some m.cls := hown
  have hS : va_S A s.heap s.heap [] := va_S.rf
  replace hP : va_P D gcl (zS_76 cB cC cI cJ a0 a1 a2 a3 x0 x1 x2 x3 x4 x5 x6 a1 a4 a4 f0 a2 a5 a6 a7 a8 a9 x7 x8) s.heap := hP
  replace hl : lv_has ls 1 [(0, .ref a0)] := hl
  have rx5 := n_rng x5
  have rx6 := n_rng x6
  refine lv_aload_n (pc := 0) hx hb dX1_clear_0 rfl (lv_at hl 0 rfl) ?_
  refine va_get (pc := 1) (ci := 1) (v := .ref a1) (C := RX1) (T := TX1) (N := 10) hx hb hts iX1 hown hK hP 0 rfl rfl 0 (by decide) (hts _ tw_97) (fun _ h9 => h9) rfl dX1_clear_1 ?_
  refine gd_v (pc := 4) (wc := [(a1, .inr (8, [.ref a4])), (a4, .inl (cI, 30, .inl f0))]) hP hD hS hA [1, 2] rfl (by decide +kernel) (fun _ => by rfl) (fun hPc hDc => va_runV (As := []) (rest := []) ⟨hx, hb, hml, hown, hts⟩ (k_X8_clear_x l D cB cC cI cJ _ a1 a4 f0) ⟨gcwB hts tw_502 tw_5 tw_499 hd_yX8_clear ⟨Nat.le_of_ble_eq_true rfl, Nat.le_of_ble_eq_true rfl⟩, hts _ tw_500, hts _ tw_501⟩ ⟨gblind, va_recv hK hPc (ci := 8) (q0 := 0) rfl rfl, (gpreS hPc hK hDc hN).2⟩ rfl rfl hl.1 rfl (lv_room (Nat.le_of_ble_eq_true rfl)) dX1_clear_4 ⟨Nat.le_of_ble_eq_true rfl, Nat.le_of_ble_eq_true rfl⟩) (fun u_1 H locs hw_3 hP hD hS => ?_)
  replace hP : va_P D gcl (zS_76 cB cC cI cJ a0 a1 a2 a3 x0 x1 x2 x3 x4 x5 x6 a1 a4 a4 (u_1.2.1 0) a2 a5 a6 a7 a8 a9 x7 x8) H := hP
  replace hD : va_D A (zS_76 cB cC cI cJ a0 a1 a2 a3 x0 x1 x2 x3 x4 x5 x6 a1 a4 a4 (u_1.2.1 0) a2 a5 a6 a7 a8 a9 x7 x8) := hD
  obtain ⟨hw_4, hw_5⟩ := hw_3
  replace hw_4 : (TB (u_1.2.1 0) 99) := hw_4
  replace hw_5 : (∀ j : Nat, j < 30 → (u_1.2.1 0) j = 0) := hw_5
  refine lv_aload_n (pc := 7) hx hb dX1_clear_7 rfl (lv_at hl 0 rfl) ?_
  refine va_get (pc := 8) (ci := 1) (v := .ref a2) (C := RX1) (T := TX1) (N := 10) hx hb hts iX1 hown hK hP 0 rfl rfl 1 (by decide) (hts _ tw_105) (fun _ h9 => h9) rfl dX1_clear_8 ?_
  refine gd_v (pc := 11) (wc := (zS_157 cB cC cI cJ a2 a5 a6 a7 a8 a9 x7 x8)) hP hD hS hA [3] rfl (by decide +kernel) (fun _ => by rfl) (fun hPc hDc => va_runV (As := []) (rest := []) ⟨hx, hb, hml, hown, hts⟩ (k_X5_clear l D cB cC cI cJ _ a2 a5 a6 a7 a8 a9 x7 x8 h_x7 h_x8) ⟨gcwB hts tw_509 tw_6 tw_506 hd_yX5_clear ⟨Nat.le_of_ble_eq_true rfl, Nat.le_of_ble_eq_true rfl⟩, hts _ tw_507, hts _ tw_508⟩ ⟨gblind, va_recv hK hPc (ci := 5) (q0 := 0) rfl rfl, (gpreS hPc hK hDc hN).2⟩ rfl rfl hl.1 rfl (lv_room (Nat.le_of_ble_eq_true rfl)) dX1_clear_11 ⟨Nat.le_of_ble_eq_true rfl, Nat.le_of_ble_eq_true rfl⟩) (fun u_6 H locs hw_8 hP hD hS => ?_)
  replace hP : va_P D gcl (zS_76 cB cC cI cJ a0 a1 a2 a3 x0 x1 x2 x3 x4 x5 x6 a1 a4 a4 (u_1.2.1 0) a2 a5 a6 a7 a8 a9 0 0) H := hP
  replace hD : va_D A (zS_76 cB cC cI cJ a0 a1 a2 a3 x0 x1 x2 x3 x4 x5 x6 a1 a4 a4 (u_1.2.1 0) a2 a5 a6 a7 a8 a9 0 0) := hD
  refine lv_aload_n (pc := 14) hx hb dX1_clear_14 rfl (lv_at hl 0 rfl) ?_
  refine lv_iconst (pc := 15) (v := 0) hx hb dX1_clear_15 (by decide) ?_
  refine va_put (pc := 16) (ci := 1) (v := .int 0) (ty := .int) (C := RX1) (T := TX1) (N := 10) hx hb hts iX1 tyX1 tyX1_ok nmX1 hown hK hP hD hS 0 rfl rfl 3 (by decide) (hts _ tw_110) (fun _ h9 => h9) rfl (by decide +kernel) (by decide +kernel) (by decide +kernel) (Nat.le_of_ble_eq_true rfl) dX1_clear_16 (fun H locs hP hD hS => ?_)
  replace hP : va_P D gcl (zS_76 cB cC cI cJ a0 a1 a2 a3 0 x1 x2 x3 x4 x5 x6 a1 a4 a4 (u_1.2.1 0) a2 a5 a6 a7 a8 a9 0 0) H := hP
  replace hD : va_D A (zS_76 cB cC cI cJ a0 a1 a2 a3 0 x1 x2 x3 x4 x5 x6 a1 a4 a4 (u_1.2.1 0) a2 a5 a6 a7 a8 a9 0 0) := hD
  refine lv_aload_n (pc := 19) hx hb dX1_clear_19 rfl (lv_at hl 0 rfl) ?_
  refine lv_iconst (pc := 20) (v := 0) hx hb dX1_clear_20 (by decide) ?_
  refine va_put (pc := 21) (ci := 1) (v := .int 0) (ty := .int) (C := RX1) (T := TX1) (N := 10) hx hb hts iX1 tyX1 tyX1_ok nmX1 hown hK hP hD hS 0 rfl rfl 4 (by decide) (hts _ tw_116) (fun _ h9 => h9) rfl (by decide +kernel) (by decide +kernel) (by decide +kernel) (Nat.le_of_ble_eq_true rfl) dX1_clear_21 (fun H locs hP hD hS => ?_)
  replace hP : va_P D gcl (zS_76 cB cC cI cJ a0 a1 a2 a3 0 0 x2 x3 x4 x5 x6 a1 a4 a4 (u_1.2.1 0) a2 a5 a6 a7 a8 a9 0 0) H := hP
  replace hD : va_D A (zS_76 cB cC cI cJ a0 a1 a2 a3 0 0 x2 x3 x4 x5 x6 a1 a4 a4 (u_1.2.1 0) a2 a5 a6 a7 a8 a9 0 0) := hD
  refine lv_aload_n (pc := 24) hx hb dX1_clear_24 rfl (lv_at hl 0 rfl) ?_
  refine lv_iconst (pc := 25) (v := 0) hx hb dX1_clear_25 (by decide) ?_
  refine va_put (pc := 26) (ci := 1) (v := .int 0) (ty := .int) (C := RX1) (T := TX1) (N := 10) hx hb hts iX1 tyX1 tyX1_ok nmX1 hown hK hP hD hS 0 rfl rfl 5 (by decide) (hts _ tw_125) (fun _ h9 => h9) rfl (by decide +kernel) (by decide +kernel) (by decide +kernel) (Nat.le_of_ble_eq_true rfl) dX1_clear_26 (fun H locs hP hD hS => ?_)
  replace hP : va_P D gcl (zS_76 cB cC cI cJ a0 a1 a2 a3 0 0 0 x3 x4 x5 x6 a1 a4 a4 (u_1.2.1 0) a2 a5 a6 a7 a8 a9 0 0) H := hP
  replace hD : va_D A (zS_76 cB cC cI cJ a0 a1 a2 a3 0 0 0 x3 x4 x5 x6 a1 a4 a4 (u_1.2.1 0) a2 a5 a6 a7 a8 a9 0 0) := hD
  refine lv_aload_n (pc := 29) hx hb dX1_clear_29 rfl (lv_at hl 0 rfl) ?_
  refine lv_iconst (pc := 30) (v := 0) hx hb dX1_clear_30 (by decide) ?_
  refine va_put (pc := 31) (ci := 1) (v := .int 0) (ty := .int) (C := RX1) (T := TX1) (N := 10) hx hb hts iX1 tyX1 tyX1_ok nmX1 hown hK hP hD hS 0 rfl rfl 6 (by decide) (hts _ tw_132) (fun _ h9 => h9) rfl (by decide +kernel) (by decide +kernel) (by decide +kernel) (Nat.le_of_ble_eq_true rfl) dX1_clear_31 (fun H locs hP hD hS => ?_)
  replace hP : va_P D gcl (zS_76 cB cC cI cJ a0 a1 a2 a3 0 0 0 0 x4 x5 x6 a1 a4 a4 (u_1.2.1 0) a2 a5 a6 a7 a8 a9 0 0) H := hP
  replace hD : va_D A (zS_76 cB cC cI cJ a0 a1 a2 a3 0 0 0 0 x4 x5 x6 a1 a4 a4 (u_1.2.1 0) a2 a5 a6 a7 a8 a9 0 0) := hD
  refine lv_aload_n (pc := 34) hx hb dX1_clear_34 rfl (lv_at hl 0 rfl) ?_
  refine lv_iconst (pc := 35) (v := 0) hx hb dX1_clear_35 (by decide) ?_
  refine va_put (pc := 36) (ci := 1) (v := .int 0) (ty := .int) (C := RX1) (T := TX1) (N := 10) hx hb hts iX1 tyX1 tyX1_ok nmX1 hown hK hP hD hS 0 rfl rfl 7 (by decide) (hts _ tw_135) (fun _ h9 => h9) rfl (by decide +kernel) (by decide +kernel) (by decide +kernel) (Nat.le_of_ble_eq_true rfl) dX1_clear_36 (fun H locs hP hD hS => ?_)
  replace hP : va_P D gcl (zS_76 cB cC cI cJ a0 a1 a2 a3 0 0 0 0 0 x5 x6 a1 a4 a4 (u_1.2.1 0) a2 a5 a6 a7 a8 a9 0 0) H := hP
  replace hD : va_D A (zS_76 cB cC cI cJ a0 a1 a2 a3 0 0 0 0 0 x5 x6 a1 a4 a4 (u_1.2.1 0) a2 a5 a6 a7 a8 a9 0 0) := hD
  refine lv_aload_n (pc := 39) hx hb dX1_clear_39 rfl (lv_at hl 0 rfl) ?_
  refine lv_sipush (pc := 40) (v := 9999) hx hb dX1_clear_40 (by decide) ?_
  refine va_put (pc := 43) (ci := 1) (v := .int 9999) (ty := .int) (C := RX1) (T := TX1) (N := 10) hx hb hts iX1 tyX1 tyX1_ok nmX1 hown hK hP hD hS 0 rfl rfl 8 (by decide) (hts _ tw_139) (fun _ h9 => h9) rfl (by decide +kernel) (by decide +kernel) (by decide +kernel) (Nat.le_of_ble_eq_true rfl) dX1_clear_43 (fun H locs hP hD hS => ?_)
  replace hP : va_P D gcl (zS_76 cB cC cI cJ a0 a1 a2 a3 0 0 0 0 0 9999 x6 a1 a4 a4 (u_1.2.1 0) a2 a5 a6 a7 a8 a9 0 0) H := hP
  replace hD : va_D A (zS_76 cB cC cI cJ a0 a1 a2 a3 0 0 0 0 0 9999 x6 a1 a4 a4 (u_1.2.1 0) a2 a5 a6 a7 a8 a9 0 0) := hD
  refine lv_aload_n (pc := 46) hx hb dX1_clear_46 rfl (lv_at hl 0 rfl) ?_
  refine lv_iconst (pc := 47) (v := 0) hx hb dX1_clear_47 (by decide) ?_
  refine va_put (pc := 48) (ci := 1) (v := .int 0) (ty := .int) (C := RX1) (T := TX1) (N := 10) hx hb hts iX1 tyX1 tyX1_ok nmX1 hown hK hP hD hS 0 rfl rfl 9 (by decide) (hts _ tw_143) (fun _ h9 => h9) rfl (by decide +kernel) (by decide +kernel) (by decide +kernel) (Nat.le_of_ble_eq_true rfl) dX1_clear_48 (fun H locs hP hD hS => ?_)
  replace hP : va_P D gcl (zS_76 cB cC cI cJ a0 a1 a2 a3 0 0 0 0 0 9999 0 a1 a4 a4 (u_1.2.1 0) a2 a5 a6 a7 a8 a9 0 0) H := hP
  replace hD : va_D A (zS_76 cB cC cI cJ a0 a1 a2 a3 0 0 0 0 0 9999 0 a1 a4 a4 (u_1.2.1 0) a2 a5 a6 a7 a8 a9 0 0) := hD
  exact hret ((fun _ => 0), (fun k => [(u_1.2.1 0)].getD k (fun _ => 0)), (fun _ => (fun _ => 0)), (fun _ => 0), (fun _ => 0)) dX1_clear_51 ⟨(show TB (u_1.2.1 0) 99 from hw_4), (show ∀ j : Nat, j < 30 → (u_1.2.1 0) j = 0 from hw_5)⟩ (g_psub (wc := (zS_76 cB cC cI cJ a0 a1 a2 a3 0 0 0 0 0 9999 0 a1 a4 a4 (u_1.2.1 0) a2 a5 a6 a7 a8 a9 0 0)) hP [0, 1, 2, 3] rfl) (hD.sub (ws' := (zS_76 cB cC cI cJ a0 a1 a2 a3 0 0 0 0 0 9999 0 a1 a4 a4 (u_1.2.1 0) a2 a5 a6 a7 a8 a9 0 0)) [0, 1, 2, 3] (by decide) rfl) hS
theorem om_7 {a : Int} : (((a = a))) := by omega
set_option maxHeartbeats 4000000 in
set_option maxRecDepth 100000 in
theorem k_X9_length (l : Launch) (D : va_G) (cB cC cI cJ : ClassId) (sz : Nat) (a0 a1 : Nat) (x0 : Int32) (h_x0 : (0 ≤ x0.toInt ∧ x0.toInt ≤ 1600)) : Met l yX9_length (.code yX9_length cX9_length 1 (some .int) :: lw_gd) ({ frames := 0, cells := 0, slots := 0, locals := 0 }) (gPre D [(cB, .byte), (cC, .char), (cI, .int), (cJ, .long)] [.ref a0] [(a0, .inr (9, [.ref a1, .int x0]))] sz) (va_Qi (fun r u => ((r.toInt = x0.toInt))) (gB D (va_A [(a0, .inr (9, [.ref a1, .int x0]))] sz) (fun u : gEx => [(a0, .inr (9, [.ref a1, .int x0]))])) (va_A [(a0, .inr (9, [.ref a1, .int x0]))] sz)) 0 0 (va_A [(a0, .inr (9, [.ref a1, .int x0]))] sz) := by
  refine gOf_i (by decide +kernel) (Nat.le_of_ble_eq_true rfl) ?_
  intro p e s m args below meth c ls A Q hx hb hts hown hml hN hK hP hD hA hl hret
  replace hown : s.vm.findClass RX9 = some m.cls := hown
  have hS : va_S A s.heap s.heap [] := va_S.rf
  replace hP : va_P D gcl [(a0, .inr (9, [.ref a1, .int x0]))] s.heap := hP
  replace hl : lv_has ls 1 [(0, .ref a0)] := hl
  refine lv_aload_n (pc := 0) hx hb dX9_length_0 rfl (lv_at hl 0 rfl) ?_
  refine va_get (pc := 1) (ci := 9) (v := .int x0) (C := RX9) (T := TX9) (N := 2) hx hb hts iX9 hown hK hP 0 rfl rfl 1 (by decide) (hts _ tw_43) (fun _ h9 => h9) rfl dX9_length_1 ?_
  exact hret x0 ((fun _ => 0), (fun _ => (fun _ => 0)), (fun _ => (fun _ => 0)), (fun _ => 0), (fun _ => 0)) dX9_length_4 (show ((x0.toInt = x0.toInt)) from (by first | exact (om_7) | (omega))) (g_psub (wc := [(a0, .inr (9, [.ref a1, .int x0]))]) hP [0] rfl) (hD.sub (ws' := [(a0, .inr (9, [.ref a1, .int x0]))]) [0] (by decide) rfl) hS
theorem om_8 {a b c : Int} (h0 : (a = (-1))) (h1 : (b < 0)) : (((a = (-1) ∧ b < 0) ∨ (a = (-1) ∧ b ≥ 0 ∧ b ≥ c) ∨ ((0 ≤ a ∧ a ≤ 255) ∧ b ≥ 0 ∧ b < c))) := by omega
theorem om_9 {a b c : Int} (h0 : (a = (-1))) (h1 : (b ≥ c)) : (((a = (-1) ∧ b < 0) ∨ (a = (-1) ∧ b ≥ 0 ∧ b ≥ c) ∨ ((0 ≤ a ∧ a ≤ 255) ∧ b ≥ 0 ∧ b < c))) := by omega
theorem om_10 {a : Int} (h0 : (a ≥ 0)) : (0 ≤ a) := by omega
theorem om_11 {a b : Int} (h0 : (a < b)) (h1 : (b ≤ 1600)) : (a < (1600 : Nat)) := by omega
set_option maxHeartbeats 4000000 in
set_option maxRecDepth 100000 in
theorem k_X9_at_E (l : Launch) (D : va_G) (cB cC cI cJ : ClassId) (sz : Nat) (a0 a1 : Nat) (x0 x1 : Int32) (f0 : Nat → Int32) (h_x1 : (0 ≤ x1.toInt ∧ x1.toInt ≤ 1600)) : Met l yX9_at (.code yX9_at cX9_at 2 (some .int) :: lw_gd) ({ frames := 0, cells := 0, slots := 0, locals := 0 }) (gPre D [(cB, .byte), (cC, .char), (cI, .int), (cJ, .long)] [.ref a0, .int x0] [(a0, .inr (9, [.ref a1, .int x1])), (a1, .inl (cB, 1600, .inl f0))] sz) (va_Qi (fun r u => ((r.toInt = (-1) ∧ x0.toInt < 0) ∨ (r.toInt = (-1) ∧ x0.toInt ≥ 0 ∧ x0.toInt ≥ x1.toInt) ∨ ((0 ≤ r.toInt ∧ r.toInt ≤ 255) ∧ x0.toInt ≥ 0 ∧ x0.toInt < x1.toInt)) ∧ (r.toInt = taub f0 x1.toInt x0.toInt)) (gB D (va_A [(a0, .inr (9, [.ref a1, .int x1])), (a1, .inl (cB, 1600, .inl f0))] sz) (fun u : gEx => [(a0, .inr (9, [.ref a1, .int x1])), (a1, .inl (cB, 1600, .inl f0))])) (va_A [(a0, .inr (9, [.ref a1, .int x1])), (a1, .inl (cB, 1600, .inl f0))] sz)) 0 0 (va_A [(a0, .inr (9, [.ref a1, .int x1])), (a1, .inl (cB, 1600, .inl f0))] sz) := by
  refine gOf_i (by decide +kernel) (Nat.le_of_ble_eq_true rfl) ?_
  intro p e s m args below meth c ls A Q hx hb hts hown hml hN hK hP hD hA hl hret
  replace hown : s.vm.findClass RX9 = some m.cls := hown
  have hS : va_S A s.heap s.heap [] := va_S.rf
  replace hP : va_P D gcl [(a0, .inr (9, [.ref a1, .int x1])), (a1, .inl (cB, 1600, .inl f0))] s.heap := hP
  replace hl : lv_has ls 2 [(0, .ref a0), (1, .int x0)] := hl
  have rx0 := n_rng x0
  refine lv_iload_n (pc := 0) hx hb dX9_at_0 rfl (lv_at hl 1 rfl) ?_
  refine b_if_lt (pc := 1) (tgt := 25) hx hb rfl  dX9_at_1 (by decide) (fun c_1 => ?_) (fun c_1 => ?_)
  ·
    refine lv_iconst (pc := 25) (v := (-1)) hx hb dX9_at_25 (by decide) ?_
    have k9 := tI_m1
    exact hret (-1) ((fun _ => 0), (fun _ => (fun _ => 0)), (fun _ => (fun _ => 0)), (fun _ => 0), (fun _ => 0)) dX9_at_26 ⟨(show ((((-1) : Int32).toInt = (-1) ∧ x0.toInt < 0) ∨ (((-1) : Int32).toInt = (-1) ∧ x0.toInt ≥ 0 ∧ x0.toInt ≥ x1.toInt) ∨ ((0 ≤ ((-1) : Int32).toInt ∧ ((-1) : Int32).toInt ≤ 255) ∧ x0.toInt ≥ 0 ∧ x0.toInt < x1.toInt)) from (by first | exact (om_8 tI_m1 c_1) | (have k9 := tI_m1; omega))), (show ((-1) : Int32).toInt = taub f0 x1.toInt x0.toInt from (by have q := taub_out (f := f0) (n := x1.toInt) (i := x0.toInt) (by omega); omega))⟩ (g_psub (wc := [(a0, .inr (9, [.ref a1, .int x1])), (a1, .inl (cB, 1600, .inl f0))]) hP [0, 1] rfl) (hD.sub (ws' := [(a0, .inr (9, [.ref a1, .int x1])), (a1, .inl (cB, 1600, .inl f0))]) [0, 1] (by decide) rfl) hS
  ·
    refine lv_iload_n (pc := 4) hx hb dX9_at_4 rfl (lv_at hl 1 rfl) ?_
    refine lv_aload_n (pc := 5) hx hb dX9_at_5 rfl (lv_at hl 0 rfl) ?_
    refine va_get (pc := 6) (ci := 9) (v := .int x1) (C := RX9) (T := TX9) (N := 2) hx hb hts iX9 hown hK hP 0 rfl rfl 1 (by decide) (hts _ tw_43) (fun _ h9 => h9) rfl dX9_at_6 ?_
    refine b_icmp_ge (pc := 9) (tgt := 25) hx hb rfl rfl  dX9_at_9 (by decide) (fun c_2 => ?_) (fun c_2 => ?_)
    ·
      refine lv_iconst (pc := 25) (v := (-1)) hx hb dX9_at_25 (by decide) ?_
      have k9 := tI_m1
      exact hret (-1) ((fun _ => 0), (fun _ => (fun _ => 0)), (fun _ => (fun _ => 0)), (fun _ => 0), (fun _ => 0)) dX9_at_26 ⟨(show ((((-1) : Int32).toInt = (-1) ∧ x0.toInt < 0) ∨ (((-1) : Int32).toInt = (-1) ∧ x0.toInt ≥ 0 ∧ x0.toInt ≥ x1.toInt) ∨ ((0 ≤ ((-1) : Int32).toInt ∧ ((-1) : Int32).toInt ≤ 255) ∧ x0.toInt ≥ 0 ∧ x0.toInt < x1.toInt)) from (by first | exact (om_9 tI_m1 c_2) | (have k9 := tI_m1; omega))), (show ((-1) : Int32).toInt = taub f0 x1.toInt x0.toInt from (by have q := taub_out (f := f0) (n := x1.toInt) (i := x0.toInt) (by omega); omega))⟩ (g_psub (wc := [(a0, .inr (9, [.ref a1, .int x1])), (a1, .inl (cB, 1600, .inl f0))]) hP [0, 1] rfl) (hD.sub (ws' := [(a0, .inr (9, [.ref a1, .int x1])), (a1, .inl (cB, 1600, .inl f0))]) [0, 1] (by decide) rfl) hS
    ·
      refine lv_aload_n (pc := 12) hx hb dX9_at_12 rfl (lv_at hl 0 rfl) ?_
      refine va_get (pc := 13) (ci := 9) (v := .ref a1) (C := RX9) (T := TX9) (N := 2) hx hb hts iX9 hown hK hP 0 rfl rfl 0 (by decide) (hts _ tw_42) (fun _ h9 => h9) rfl dX9_at_13 ?_
      refine lv_iload_n (pc := 16) hx hb dX9_at_16 rfl (lv_at hl 1 rfl) ?_
      refine va_bald (pc := 17) hx hb hK hP 1 0 rfl rfl (n_in rfl (by first | exact (om_10 c_1) | (omega)) (by first | exact (om_11 c_2 h_x1.2) | (omega))) dX9_at_17 ?_
      refine lv_topi (fun x_3 ex_3 => ?_)
      have rx_3 := n_rng x_3
      replace ex_3 : x_3 = f0 (x0.toInt).toNat := ex_3
      have tx_3 := congrArg Int32.toInt ex_3
      refine lv_sipush (pc := 18) (v := 255) hx hb dX9_at_18 (by decide) ?_
      refine lv_iand (pc := 21) hx hb dX9_at_21 ?_
      refine lv_topi (fun x_4 ex_4 => ?_)
      have tx_4 := and255 ex_4
      refine lv_goto (pc := 22) (tgt := 26) hx hb dX9_at_22 (by decide) ?_
      exact hret x_4 ((fun _ => 0), (fun _ => (fun _ => 0)), (fun _ => (fun _ => 0)), (fun _ => 0), (fun _ => 0)) dX9_at_26 ⟨(show ((x_4.toInt = (-1) ∧ x0.toInt < 0) ∨ (x_4.toInt = (-1) ∧ x0.toInt ≥ 0 ∧ x0.toInt ≥ x1.toInt) ∨ ((0 ≤ x_4.toInt ∧ x_4.toInt ≤ 255) ∧ x0.toInt ≥ 0 ∧ x0.toInt < x1.toInt)) from (by omega)), (show x_4.toInt = taub f0 x1.toInt x0.toInt from (by have q := taub_in (f := f0) (n := x1.toInt) (i := x0.toInt) (by omega) (by omega); omega))⟩ (g_psub (wc := [(a0, .inr (9, [.ref a1, .int x1])), (a1, .inl (cB, 1600, .inl f0))]) hP [0, 1] rfl) (hD.sub (ws' := [(a0, .inr (9, [.ref a1, .int x1])), (a1, .inl (cB, 1600, .inl f0))]) [0, 1] (by decide) rfl) hS
theorem om_12 {a b : Int} (h0 : (a = 0)) (h1 : (b < 97)) : (((a = 0 ∧ b < 97) ∨ (a = 0 ∧ b ≥ 97 ∧ b > 122) ∨ (a = 1 ∧ b ≥ 97 ∧ b ≤ 122))) := by omega
theorem om_13 {a b : Int} (h0 : (a = 0)) (h1 : (b > 122)) : (((a = 0 ∧ b < 97) ∨ (a = 0 ∧ b ≥ 97 ∧ b > 122) ∨ (a = 1 ∧ b ≥ 97 ∧ b ≤ 122))) := by omega
theorem om_14 {a b : Int} (h0 : (a = 1)) (h1 : (b ≥ 97)) (h2 : (b ≤ 122)) : (((a = 0 ∧ b < 97) ∨ (a = 0 ∧ b ≥ 97 ∧ b > 122) ∨ (a = 1 ∧ b ≥ 97 ∧ b ≤ 122))) := by omega
set_option maxHeartbeats 4000000 in
set_option maxRecDepth 100000 in
theorem k_X4_isSmall (l : Launch) (D : va_G) (cB cC cI cJ : ClassId) (sz : Nat) (x0 : Int32) : Met l yX4_isSmall (.code yX4_isSmall cX4_isSmall 1 (some .boolean) :: lw_gd) ({ frames := 0, cells := 0, slots := 0, locals := 0 }) (gPre D [(cB, .byte), (cC, .char), (cI, .int), (cJ, .long)] [.int x0] [] sz) (va_Qi (fun r u => ((r.toInt = 0 ∧ x0.toInt < 97) ∨ (r.toInt = 0 ∧ x0.toInt ≥ 97 ∧ x0.toInt > 122) ∨ (r.toInt = 1 ∧ x0.toInt ≥ 97 ∧ x0.toInt ≤ 122))) (gB D (va_A [] sz) (fun u : gEx => [])) (va_A [] sz)) 0 0 (va_A [] sz) := by
  refine gOf_z (by decide +kernel) (Nat.le_of_ble_eq_true rfl) ?_
  intro p e s m args below meth c ls A Q hx hb hts hown hml hN hK hP hD hA hl hret
  replace hown : s.vm.findClass RX4 = some m.cls := hown
  have hS : va_S A s.heap s.heap [] := va_S.rf
  replace hP : va_P D gcl [] s.heap := hP
  replace hl : lv_has ls 1 [(0, .int x0)] := hl
  have rx0 := n_rng x0
  refine lv_iload_n (pc := 0) hx hb dX4_isSmall_0 rfl (lv_at hl 0 rfl) ?_
  refine lv_bipush (pc := 1) (v := 97) hx hb dX4_isSmall_1 (by decide) ?_
  refine b_icmp_lt (pc := 3) (tgt := 16) hx hb rfl tI_97  dX4_isSmall_3 (by decide) (fun c_1 => ?_) (fun c_1 => ?_)
  ·
    refine lv_iconst (pc := 16) (v := 0) hx hb dX4_isSmall_16 (by decide) ?_
    exact hret 0 ((fun _ => 0), (fun _ => (fun _ => 0)), (fun _ => (fun _ => 0)), (fun _ => 0), (fun _ => 0)) dX4_isSmall_17 ⟨(Or.inl tI_0), (show (((0 : Int32).toInt = 0 ∧ x0.toInt < 97) ∨ ((0 : Int32).toInt = 0 ∧ x0.toInt ≥ 97 ∧ x0.toInt > 122) ∨ ((0 : Int32).toInt = 1 ∧ x0.toInt ≥ 97 ∧ x0.toInt ≤ 122)) from (by first | exact (om_12 tI_0 c_1) | (have k9 := tI_0; omega)))⟩ (g_psub (wc := []) hP [] rfl) (hD.sub (ws' := []) [] (by decide) rfl) hS
  ·
    refine lv_iload_n (pc := 6) hx hb dX4_isSmall_6 rfl (lv_at hl 0 rfl) ?_
    refine lv_bipush (pc := 7) (v := 122) hx hb dX4_isSmall_7 (by decide) ?_
    refine b_icmp_gt (pc := 9) (tgt := 16) hx hb rfl tI_122  dX4_isSmall_9 (by decide) (fun c_2 => ?_) (fun c_2 => ?_)
    ·
      refine lv_iconst (pc := 16) (v := 0) hx hb dX4_isSmall_16 (by decide) ?_
      exact hret 0 ((fun _ => 0), (fun _ => (fun _ => 0)), (fun _ => (fun _ => 0)), (fun _ => 0), (fun _ => 0)) dX4_isSmall_17 ⟨(Or.inl tI_0), (show (((0 : Int32).toInt = 0 ∧ x0.toInt < 97) ∨ ((0 : Int32).toInt = 0 ∧ x0.toInt ≥ 97 ∧ x0.toInt > 122) ∨ ((0 : Int32).toInt = 1 ∧ x0.toInt ≥ 97 ∧ x0.toInt ≤ 122)) from (by first | exact (om_13 tI_0 c_2) | (have k9 := tI_0; omega)))⟩ (g_psub (wc := []) hP [] rfl) (hD.sub (ws' := []) [] (by decide) rfl) hS
    ·
      refine lv_iconst (pc := 12) (v := 1) hx hb dX4_isSmall_12 (by decide) ?_
      refine lv_goto (pc := 13) (tgt := 17) hx hb dX4_isSmall_13 (by decide) ?_
      exact hret 1 ((fun _ => 0), (fun _ => (fun _ => 0)), (fun _ => (fun _ => 0)), (fun _ => 0), (fun _ => 0)) dX4_isSmall_17 ⟨(Or.inr tI_1), (show (((1 : Int32).toInt = 0 ∧ x0.toInt < 97) ∨ ((1 : Int32).toInt = 0 ∧ x0.toInt ≥ 97 ∧ x0.toInt > 122) ∨ ((1 : Int32).toInt = 1 ∧ x0.toInt ≥ 97 ∧ x0.toInt ≤ 122)) from (by first | exact (om_14 tI_1 c_1 c_2) | (have k9 := tI_1; omega)))⟩ (g_psub (wc := []) hP [] rfl) (hD.sub (ws' := []) [] (by decide) rfl) hS
theorem om_15 {a b : Int} (h0 : (a = 0)) (h1 : (b < 48)) : (((a = 0 ∧ b < 48) ∨ (a = 0 ∧ b ≥ 48 ∧ b > 57) ∨ (a = 1 ∧ b ≥ 48 ∧ b ≤ 57))) := by omega
theorem om_16 {a b : Int} (h0 : (a = 0)) (h1 : (b > 57)) : (((a = 0 ∧ b < 48) ∨ (a = 0 ∧ b ≥ 48 ∧ b > 57) ∨ (a = 1 ∧ b ≥ 48 ∧ b ≤ 57))) := by omega
theorem om_17 {a b : Int} (h0 : (a = 1)) (h1 : (b ≥ 48)) (h2 : (b ≤ 57)) : (((a = 0 ∧ b < 48) ∨ (a = 0 ∧ b ≥ 48 ∧ b > 57) ∨ (a = 1 ∧ b ≥ 48 ∧ b ≤ 57))) := by omega
set_option maxHeartbeats 4000000 in
set_option maxRecDepth 100000 in
theorem k_X4_isDigit (l : Launch) (D : va_G) (cB cC cI cJ : ClassId) (sz : Nat) (x0 : Int32) : Met l yX4_isDigit (.code yX4_isDigit cX4_isDigit 1 (some .boolean) :: lw_gd) ({ frames := 0, cells := 0, slots := 0, locals := 0 }) (gPre D [(cB, .byte), (cC, .char), (cI, .int), (cJ, .long)] [.int x0] [] sz) (va_Qi (fun r u => ((r.toInt = 0 ∧ x0.toInt < 48) ∨ (r.toInt = 0 ∧ x0.toInt ≥ 48 ∧ x0.toInt > 57) ∨ (r.toInt = 1 ∧ x0.toInt ≥ 48 ∧ x0.toInt ≤ 57))) (gB D (va_A [] sz) (fun u : gEx => [])) (va_A [] sz)) 0 0 (va_A [] sz) := by
  refine gOf_z (by decide +kernel) (Nat.le_of_ble_eq_true rfl) ?_
  intro p e s m args below meth c ls A Q hx hb hts hown hml hN hK hP hD hA hl hret
  replace hown : s.vm.findClass RX4 = some m.cls := hown
  have hS : va_S A s.heap s.heap [] := va_S.rf
  replace hP : va_P D gcl [] s.heap := hP
  replace hl : lv_has ls 1 [(0, .int x0)] := hl
  have rx0 := n_rng x0
  refine lv_iload_n (pc := 0) hx hb dX4_isDigit_0 rfl (lv_at hl 0 rfl) ?_
  refine lv_bipush (pc := 1) (v := 48) hx hb dX4_isDigit_1 (by decide) ?_
  refine b_icmp_lt (pc := 3) (tgt := 16) hx hb rfl tI_48  dX4_isDigit_3 (by decide) (fun c_1 => ?_) (fun c_1 => ?_)
  ·
    refine lv_iconst (pc := 16) (v := 0) hx hb dX4_isDigit_16 (by decide) ?_
    exact hret 0 ((fun _ => 0), (fun _ => (fun _ => 0)), (fun _ => (fun _ => 0)), (fun _ => 0), (fun _ => 0)) dX4_isDigit_17 ⟨(Or.inl tI_0), (show (((0 : Int32).toInt = 0 ∧ x0.toInt < 48) ∨ ((0 : Int32).toInt = 0 ∧ x0.toInt ≥ 48 ∧ x0.toInt > 57) ∨ ((0 : Int32).toInt = 1 ∧ x0.toInt ≥ 48 ∧ x0.toInt ≤ 57)) from (by first | exact (om_15 tI_0 c_1) | (have k9 := tI_0; omega)))⟩ (g_psub (wc := []) hP [] rfl) (hD.sub (ws' := []) [] (by decide) rfl) hS
  ·
    refine lv_iload_n (pc := 6) hx hb dX4_isDigit_6 rfl (lv_at hl 0 rfl) ?_
    refine lv_bipush (pc := 7) (v := 57) hx hb dX4_isDigit_7 (by decide) ?_
    refine b_icmp_gt (pc := 9) (tgt := 16) hx hb rfl tI_57  dX4_isDigit_9 (by decide) (fun c_2 => ?_) (fun c_2 => ?_)
    ·
      refine lv_iconst (pc := 16) (v := 0) hx hb dX4_isDigit_16 (by decide) ?_
      exact hret 0 ((fun _ => 0), (fun _ => (fun _ => 0)), (fun _ => (fun _ => 0)), (fun _ => 0), (fun _ => 0)) dX4_isDigit_17 ⟨(Or.inl tI_0), (show (((0 : Int32).toInt = 0 ∧ x0.toInt < 48) ∨ ((0 : Int32).toInt = 0 ∧ x0.toInt ≥ 48 ∧ x0.toInt > 57) ∨ ((0 : Int32).toInt = 1 ∧ x0.toInt ≥ 48 ∧ x0.toInt ≤ 57)) from (by first | exact (om_16 tI_0 c_2) | (have k9 := tI_0; omega)))⟩ (g_psub (wc := []) hP [] rfl) (hD.sub (ws' := []) [] (by decide) rfl) hS
    ·
      refine lv_iconst (pc := 12) (v := 1) hx hb dX4_isDigit_12 (by decide) ?_
      refine lv_goto (pc := 13) (tgt := 17) hx hb dX4_isDigit_13 (by decide) ?_
      exact hret 1 ((fun _ => 0), (fun _ => (fun _ => 0)), (fun _ => (fun _ => 0)), (fun _ => 0), (fun _ => 0)) dX4_isDigit_17 ⟨(Or.inr tI_1), (show (((1 : Int32).toInt = 0 ∧ x0.toInt < 48) ∨ ((1 : Int32).toInt = 0 ∧ x0.toInt ≥ 48 ∧ x0.toInt > 57) ∨ ((1 : Int32).toInt = 1 ∧ x0.toInt ≥ 48 ∧ x0.toInt ≤ 57)) from (by first | exact (om_17 tI_1 c_1 c_2) | (have k9 := tI_1; omega)))⟩ (g_psub (wc := []) hP [] rfl) (hD.sub (ws' := []) [] (by decide) rfl) hS
theorem om_18 {a b : Int} (h0 : (a = 1)) (h1 : (b = 10)) : (((a = 1 ∧ b = 10) ∨ (a = 0 ∧ ¬ b = 10 ∧ ¬ b = 32) ∨ (a = 1 ∧ ¬ b = 10 ∧ b = 32))) := by omega
theorem om_19 {a b : Int} (h0 : (a = 0)) (h1 : (¬ b = 10)) (h2 : (¬ b = 32)) : (((a = 1 ∧ b = 10) ∨ (a = 0 ∧ ¬ b = 10 ∧ ¬ b = 32) ∨ (a = 1 ∧ ¬ b = 10 ∧ b = 32))) := by omega
theorem om_20 {a b : Int} (h0 : (a = 1)) (h1 : (b = 32)) : (((a = 1 ∧ b = 10) ∨ (a = 0 ∧ ¬ b = 10 ∧ ¬ b = 32) ∨ (a = 1 ∧ ¬ b = 10 ∧ b = 32))) := by omega
set_option maxHeartbeats 4000000 in
set_option maxRecDepth 100000 in
theorem k_X4_isBlank (l : Launch) (D : va_G) (cB cC cI cJ : ClassId) (sz : Nat) (x0 : Int32) : Met l yX4_isBlank (.code yX4_isBlank cX4_isBlank 1 (some .boolean) :: lw_gd) ({ frames := 0, cells := 0, slots := 0, locals := 0 }) (gPre D [(cB, .byte), (cC, .char), (cI, .int), (cJ, .long)] [.int x0] [] sz) (va_Qi (fun r u => ((r.toInt = 1 ∧ x0.toInt = 10) ∨ (r.toInt = 0 ∧ ¬ x0.toInt = 10 ∧ ¬ x0.toInt = 32) ∨ (r.toInt = 1 ∧ ¬ x0.toInt = 10 ∧ x0.toInt = 32))) (gB D (va_A [] sz) (fun u : gEx => [])) (va_A [] sz)) 0 0 (va_A [] sz) := by
  refine gOf_z (by decide +kernel) (Nat.le_of_ble_eq_true rfl) ?_
  intro p e s m args below meth c ls A Q hx hb hts hown hml hN hK hP hD hA hl hret
  replace hown : s.vm.findClass RX4 = some m.cls := hown
  have hS : va_S A s.heap s.heap [] := va_S.rf
  replace hP : va_P D gcl [] s.heap := hP
  replace hl : lv_has ls 1 [(0, .int x0)] := hl
  have rx0 := n_rng x0
  refine lv_iload_n (pc := 0) hx hb dX4_isBlank_0 rfl (lv_at hl 0 rfl) ?_
  refine lv_bipush (pc := 1) (v := 10) hx hb dX4_isBlank_1 (by decide) ?_
  refine b_icmp_eq (pc := 3) (tgt := 12) hx hb rfl tI_10  dX4_isBlank_3 (by decide) (fun c_1 => ?_) (fun c_1 => ?_)
  ·
    refine lv_iconst (pc := 12) (v := 1) hx hb dX4_isBlank_12 (by decide) ?_
    refine lv_goto (pc := 13) (tgt := 17) hx hb dX4_isBlank_13 (by decide) ?_
    exact hret 1 ((fun _ => 0), (fun _ => (fun _ => 0)), (fun _ => (fun _ => 0)), (fun _ => 0), (fun _ => 0)) dX4_isBlank_17 ⟨(Or.inr tI_1), (show (((1 : Int32).toInt = 1 ∧ x0.toInt = 10) ∨ ((1 : Int32).toInt = 0 ∧ ¬ x0.toInt = 10 ∧ ¬ x0.toInt = 32) ∨ ((1 : Int32).toInt = 1 ∧ ¬ x0.toInt = 10 ∧ x0.toInt = 32)) from (by first | exact (om_18 tI_1 c_1) | (have k9 := tI_1; omega)))⟩ (g_psub (wc := []) hP [] rfl) (hD.sub (ws' := []) [] (by decide) rfl) hS
  ·
    refine lv_iload_n (pc := 6) hx hb dX4_isBlank_6 rfl (lv_at hl 0 rfl) ?_
    refine lv_bipush (pc := 7) (v := 32) hx hb dX4_isBlank_7 (by decide) ?_
    refine b_icmp_ne (pc := 9) (tgt := 16) hx hb rfl tI_32  dX4_isBlank_9 (by decide) (fun c_2 => ?_) (fun c_2 => ?_)
    ·
      refine lv_iconst (pc := 16) (v := 0) hx hb dX4_isBlank_16 (by decide) ?_
      exact hret 0 ((fun _ => 0), (fun _ => (fun _ => 0)), (fun _ => (fun _ => 0)), (fun _ => 0), (fun _ => 0)) dX4_isBlank_17 ⟨(Or.inl tI_0), (show (((0 : Int32).toInt = 1 ∧ x0.toInt = 10) ∨ ((0 : Int32).toInt = 0 ∧ ¬ x0.toInt = 10 ∧ ¬ x0.toInt = 32) ∨ ((0 : Int32).toInt = 1 ∧ ¬ x0.toInt = 10 ∧ x0.toInt = 32)) from (by first | exact (om_19 tI_0 c_1 c_2) | (have k9 := tI_0; omega)))⟩ (g_psub (wc := []) hP [] rfl) (hD.sub (ws' := []) [] (by decide) rfl) hS
    ·
      refine lv_iconst (pc := 12) (v := 1) hx hb dX4_isBlank_12 (by decide) ?_
      refine lv_goto (pc := 13) (tgt := 17) hx hb dX4_isBlank_13 (by decide) ?_
      exact hret 1 ((fun _ => 0), (fun _ => (fun _ => 0)), (fun _ => (fun _ => 0)), (fun _ => 0), (fun _ => 0)) dX4_isBlank_17 ⟨(Or.inr tI_1), (show (((1 : Int32).toInt = 1 ∧ x0.toInt = 10) ∨ ((1 : Int32).toInt = 0 ∧ ¬ x0.toInt = 10 ∧ ¬ x0.toInt = 32) ∨ ((1 : Int32).toInt = 1 ∧ ¬ x0.toInt = 10 ∧ x0.toInt = 32)) from (by first | exact (om_20 tI_1 c_2) | (have k9 := tI_1; omega)))⟩ (g_psub (wc := []) hP [] rfl) (hD.sub (ws' := []) [] (by decide) rfl) hS
theorem om_21 {a b c : Int} (h0 : ((a = (-1) ∧ b < 0) ∨ (a = (-1) ∧ b ≥ 0 ∧ b ≥ c) ∨ ((0 ≤ a ∧ a ≤ 255) ∧ b ≥ 0 ∧ b < c))) : (((-1) ≤ a ∧ a ≤ 255)) := by omega
theorem om_22 {a b : Int} (h0 : (a ≤ 1600)) (h1 : (0 ≤ b)) : (a - b ≤ 1700) := by omega
theorem om_23 {a b : Int} (h0 : (a = b)) : (a - b ≤ 1700) := by omega
theorem om_24 {a : Int} (h0 : (a ≤ 1600)) : (a + 1 ≤ 2147483647) := by omega
theorem om_25 {a b c d : Int} (h0 : (a = b + 1)) (h1 : (0 ≤ b)) (h2 : (b < c)) (h3 : (c = d)) (h4 : (d ≤ 1600)) : ((0 ≤ a ∧ a ≤ 1600)) := by omega
set_option maxHeartbeats 4000000 in
set_option maxRecDepth 100000 in
theorem k_X4_goOn (l : Launch) (D : va_G) (cB cC cI cJ : ClassId) (sz : Nat) (a0 a1 a2 a3 : Nat) (x0 x1 x2 x3 x4 x5 x6 x7 x8 : Int32) (f0 : Nat → Int32) (hp1 : (0 ≤ x0.toInt ∧ x0.toInt ≤ 1600)) (hp2 : (0 ≤ x1.toInt ∧ x1.toInt ≤ 1)) (h_x2 : (0 ≤ x2.toInt ∧ x2.toInt ≤ 1600)) (h_x3 : ((-1) ≤ x3.toInt ∧ x3.toInt ≤ 255)) (h_x4 : (0 ≤ x4.toInt ∧ x4.toInt ≤ 1600)) (h_x6 : (0 ≤ x6.toInt ∧ x6.toInt ≤ 4)) (h_x7 : ((-1) ≤ x7.toInt ∧ x7.toInt ≤ 1600)) (h_x8 : (0 ≤ x8.toInt ∧ x8.toInt ≤ 1600)) : Met l yX4_goOn (.code yX4_goOn cX4_goOn 3 none :: lw_gd) ({ frames := 1, cells := 0, slots := 0, locals := 21 }) (gPre D [(cB, .byte), (cC, .char), (cI, .int), (cJ, .long)] [.ref a0, .int x0, .int x1] (zS_1 cB cC cI cJ a0 a1 a2 x2 x3 x4 x5 x6 x7 a1 a3 x8 a3 f0) sz) (va_Qv (fun u => (0 ≤ (u.2.2.2.1 0).toInt ∧ (u.2.2.2.1 0).toInt ≤ 1600) ∧ ((-1) ≤ (u.2.2.2.1 1).toInt ∧ (u.2.2.2.1 1).toInt ≤ 255) ∧ ((u.2.2.2.1 0).toInt = skp (taub f0 x8.toInt) x0.toInt) ∧ ((u.2.2.2.1 1).toInt = gsn (taub f0 x8.toInt) x0.toInt (u.2.2.2.1 0).toInt x1.toInt) ∧ (x0.toInt ≤ (u.2.2.2.1 0).toInt)) (gB D (va_A (zS_1 cB cC cI cJ a0 a1 a2 x2 x3 x4 x5 x6 x7 a1 a3 x8 a3 f0) sz) (fun u : gEx => (zS_1 cB cC cI cJ a0 a1 a2 (u.2.2.2.1 0) (u.2.2.2.1 1) x4 x5 x6 x7 a1 a3 x8 a3 f0))) (va_A (zS_1 cB cC cI cJ a0 a1 a2 x2 x3 x4 x5 x6 x7 a1 a3 x8 a3 f0) sz)) 0 0 (va_A (zS_1 cB cC cI cJ a0 a1 a2 x2 x3 x4 x5 x6 x7 a1 a3 x8 a3 f0) sz) := by
  refine gOf_v (by decide +kernel) (Nat.le_of_ble_eq_true rfl) ?_
  intro p e s m args below meth c ls A Q hx hb hts hown hml hN hK hP hD hA hl hret
  replace hown : s.vm.findClass RX4 = some m.cls := hown
  have hS : va_S A s.heap s.heap [] := va_S.rf
  replace hP : va_P D gcl (zS_1 cB cC cI cJ a0 a1 a2 x2 x3 x4 x5 x6 x7 a1 a3 x8 a3 f0) s.heap := hP
  replace hl : lv_has ls 3 [(0, .ref a0), (1, .int x0), (2, .int x1)] := hl
  have rx5 := n_rng x5
  refine lv_aload_n (pc := 0) hx hb dX4_goOn_0 rfl (lv_at hl 0 rfl) ?_
  refine lv_iload_n (pc := 1) hx hb dX4_goOn_1 rfl (lv_at hl 1 rfl) ?_
  refine va_put (pc := 2) (ci := 4) (v := .int x0) (ty := .int) (C := RX4) (T := TX4) (N := 8) hx hb hts iX4 tyX4 tyX4_ok nmX4 hown hK hP hD hS 0 rfl rfl 2 (by decide) (hts _ tw_170) (fun _ h9 => h9) rfl (by decide +kernel) rfl rfl (Nat.le_of_ble_eq_true rfl) dX4_goOn_2 (fun H locs hP hD hS => ?_)
  replace hP : va_P D gcl (zS_1 cB cC cI cJ a0 a1 a2 x0 x3 x4 x5 x6 x7 a1 a3 x8 a3 f0) H := hP
  replace hD : va_D A (zS_1 cB cC cI cJ a0 a1 a2 x0 x3 x4 x5 x6 x7 a1 a3 x8 a3 f0) := hD
  have lp_4 : ∀ (n : Nat) (x_1 : Int32) (H : Heap) (locs : List Loc) (ls : Array Slot), (0 ≤ x_1.toInt ∧ x_1.toInt ≤ 1600) → (bls (taub f0 x8.toInt) x0.toInt x_1.toInt) → (2147483647 - x_1.toInt).toNat < n → va_P D gcl (zS_1 cB cC cI cJ a0 a1 a2 x_1 x3 x4 x5 x6 x7 a1 a3 x8 a3 f0) H → va_D A (zS_1 cB cC cI cJ a0 a1 a2 x_1 x3 x4 x5 x6 x7 a1 a3 x8 a3 f0) → va_S A s.heap H locs → lv_has ls 3 [(0, .ref a0), (1, .int x0), (2, .int x1)] → W p l e ({ frames := 1, cells := 0, slots := 0, locals := 21 }) s m args below meth c H locs 0 0 Q (F0 m 5 ls []) := by
    intro n
    induction n with
    | zero => intro x_1 H locs ls hi_2 hi_3 hmu; exact absurd hmu (Nat.not_lt_zero _)
    | succ n ih_lp_4 =>
      intro x_1 H locs ls hi_2 hi_3 hmu_lp_4 hP hD hS hl
      refine lv_aload_n (pc := 5) hx hb dX4_goOn_5 rfl (lv_at hl 0 rfl) ?_
      refine va_get (pc := 6) (ci := 4) (v := .int x_1) (C := RX4) (T := TX4) (N := 8) hx hb hts iX4 hown hK hP 0 rfl rfl 2 (by decide) (hts _ tw_170) (fun _ h9 => h9) rfl dX4_goOn_6 ?_
      refine lv_aload_n (pc := 9) hx hb dX4_goOn_9 rfl (lv_at hl 0 rfl) ?_
      refine va_get (pc := 10) (ci := 4) (v := .ref a1) (C := RX4) (T := TX4) (N := 8) hx hb hts iX4 hown hK hP 0 rfl rfl 0 (by decide) (hts _ tw_167) (fun _ h9 => h9) rfl dX4_goOn_10 ?_
      refine gd_i (pc := 13) (wc := [(a1, .inr (9, [.ref a3, .int x8]))]) hP hD hS hA [1] rfl (by decide +kernel) (fun _ => by rfl) (fun hPc hDc => va_runV (As := []) (rest := [.int x_1]) ⟨hx, hb, hml, hown, hts⟩ (k_X9_length l D cB cC cI cJ _ a1 a3 x8 h_x8) ⟨gcwB hts tw_478 tw_3 tw_514 hd_yX9_length ⟨Nat.le_of_ble_eq_true rfl, Nat.le_of_ble_eq_true rfl⟩, hts _ tw_476, hts _ tw_477⟩ ⟨gblind, va_recv hK hPc (ci := 9) (q0 := 0) rfl rfl, (gpreS hPc hK hDc hN).2⟩ rfl rfl hl.1 rfl (lv_room (Nat.le_of_ble_eq_true rfl)) dX4_goOn_13 ⟨Nat.le_of_ble_eq_true rfl, Nat.le_of_ble_eq_true rfl⟩) (fun r_6 u_5 H locs hw_7 hP hD hS => ?_)
      replace hP : va_P D gcl (zS_1 cB cC cI cJ a0 a1 a2 x_1 x3 x4 x5 x6 x7 a1 a3 x8 a3 f0) H := hP
      replace hD : va_D A (zS_1 cB cC cI cJ a0 a1 a2 x_1 x3 x4 x5 x6 x7 a1 a3 x8 a3 f0) := hD
      have hw_8 : ((r_6.toInt = x8.toInt)) := hw_7
      have rr_6 := n_rng r_6
      refine b_icmp_ge (pc := 16) (tgt := 49) hx hb rfl rfl  dX4_goOn_16 (by decide) (fun c_9 => ?_) (fun c_9 => ?_)
      ·
        refine lv_aload_n (pc := 49) hx hb dX4_goOn_49 rfl (lv_at hl 0 rfl) ?_
        refine lv_aload_n (pc := 50) hx hb dX4_goOn_50 rfl (lv_at hl 0 rfl) ?_
        refine va_get (pc := 51) (ci := 4) (v := .ref a1) (C := RX4) (T := TX4) (N := 8) hx hb hts iX4 hown hK hP 0 rfl rfl 0 (by decide) (hts _ tw_167) (fun _ h9 => h9) rfl dX4_goOn_51 ?_
        refine lv_aload_n (pc := 54) hx hb dX4_goOn_54 rfl (lv_at hl 0 rfl) ?_
        refine va_get (pc := 55) (ci := 4) (v := .int x_1) (C := RX4) (T := TX4) (N := 8) hx hb hts iX4 hown hK hP 0 rfl rfl 2 (by decide) (hts _ tw_170) (fun _ h9 => h9) rfl dX4_goOn_55 ?_
        refine gd_i (pc := 58) (wc := [(a1, .inr (9, [.ref a3, .int x8])), (a3, .inl (cB, 1600, .inl f0))]) hP hD hS hA [1, 2] rfl (by decide +kernel) (fun _ => by rfl) (fun hPc hDc => va_runV (As := [.int x_1]) (rest := [.ref a0]) ⟨hx, hb, hml, hown, hts⟩ (k_X9_at_E l D cB cC cI cJ _ a1 a3 x_1 x8 f0 h_x8) ⟨gcwB hts tw_518 tw_3 tw_515 hd_yX9_at ⟨Nat.le_of_ble_eq_true rfl, Nat.le_of_ble_eq_true rfl⟩, hts _ tw_516, hts _ tw_517⟩ ⟨gblind, va_recv hK hPc (ci := 9) (q0 := 0) rfl rfl, (gpreS hPc hK hDc hN).2⟩ rfl rfl hl.1 rfl (lv_room (Nat.le_of_ble_eq_true rfl)) dX4_goOn_58 ⟨Nat.le_of_ble_eq_true rfl, Nat.le_of_ble_eq_true rfl⟩) (fun r_11 u_10 H locs hw_12 hP hD hS => ?_)
        replace hP : va_P D gcl (zS_1 cB cC cI cJ a0 a1 a2 x_1 x3 x4 x5 x6 x7 a1 a3 x8 a3 f0) H := hP
        replace hD : va_D A (zS_1 cB cC cI cJ a0 a1 a2 x_1 x3 x4 x5 x6 x7 a1 a3 x8 a3 f0) := hD
        obtain ⟨hw_13, hw_14⟩ := hw_12
        replace hw_13 : ((r_11.toInt = (-1) ∧ x_1.toInt < 0) ∨ (r_11.toInt = (-1) ∧ x_1.toInt ≥ 0 ∧ x_1.toInt ≥ x8.toInt) ∨ ((0 ≤ r_11.toInt ∧ r_11.toInt ≤ 255) ∧ x_1.toInt ≥ 0 ∧ x_1.toInt < x8.toInt)) := hw_13
        replace hw_14 : (r_11.toInt = taub f0 x8.toInt x_1.toInt) := hw_14
        have rr_11 := n_rng r_11
        refine va_put (pc := 61) (ci := 4) (v := .int r_11) (ty := .int) (C := RX4) (T := TX4) (N := 8) hx hb hts iX4 tyX4 tyX4_ok nmX4 hown hK hP hD hS 0 rfl rfl 3 (by decide) (hts _ tw_171) (fun _ h9 => h9) rfl (by decide +kernel) rfl rfl (Nat.le_of_ble_eq_true rfl) dX4_goOn_61 (fun H locs hP hD hS => ?_)
        replace hP : va_P D gcl (zS_1 cB cC cI cJ a0 a1 a2 x_1 r_11 x4 x5 x6 x7 a1 a3 x8 a3 f0) H := hP
        replace hD : va_D A (zS_1 cB cC cI cJ a0 a1 a2 x_1 r_11 x4 x5 x6 x7 a1 a3 x8 a3 f0) := hD
        refine lv_iload_n (pc := 64) hx hb dX4_goOn_64 rfl (lv_at hl 2 rfl) ?_
        refine b_if_eq (pc := 65) (tgt := 101) hx hb rfl  dX4_goOn_65 (by decide) (fun c_15 => ?_) (fun c_15 => ?_)
        ·
          exact hret ((fun _ => 0), (fun _ => (fun _ => 0)), (fun _ => (fun _ => 0)), (fun k => [x_1, r_11].getD k 0), (fun _ => 0)) dX4_goOn_101 ⟨(show (0 ≤ (x_1 : Int32).toInt ∧ (x_1 : Int32).toInt ≤ 1600) from hi_2), (show ((-1) ≤ (r_11 : Int32).toInt ∧ (r_11 : Int32).toInt ≤ 255) from (by first | exact (om_21 hw_13) | (omega))), (show x_1.toInt = skp (taub f0 x8.toInt) x0.toInt from (skp_at hi_3 (by unfold isBl; first | omega | (have q := taub_out (f := f0) (n := x8.toInt) (i := x_1.toInt) (by omega); omega)) (by first | exact (om_22 hi_2.2 hp1.1) | (omega))).symm), (show r_11.toInt = gsn (taub f0 x8.toInt) x0.toInt x_1.toInt x1.toInt from (by have q := gsn_t (t := (taub f0 x8.toInt)) (p := x0.toInt) (q := x_1.toInt) (nb := x1.toInt) (by unfold isSm isDg; omega); omega)), (show x0.toInt ≤ x_1.toInt from hi_3.1)⟩ (g_psub (wc := (zS_1 cB cC cI cJ a0 a1 a2 x_1 r_11 x4 x5 x6 x7 a1 a3 x8 a3 f0)) hP [0, 1, 2] rfl) (hD.sub (ws' := (zS_1 cB cC cI cJ a0 a1 a2 x_1 r_11 x4 x5 x6 x7 a1 a3 x8 a3 f0)) [0, 1, 2] (by decide) rfl) hS
        ·
          refine lv_aload_n (pc := 68) hx hb dX4_goOn_68 rfl (lv_at hl 0 rfl) ?_
          refine va_get (pc := 69) (ci := 4) (v := .int x_1) (C := RX4) (T := TX4) (N := 8) hx hb hts iX4 hown hK hP 0 rfl rfl 2 (by decide) (hts _ tw_170) (fun _ h9 => h9) rfl dX4_goOn_69 ?_
          refine lv_iload_n (pc := 72) hx hb dX4_goOn_72 rfl (lv_at hl 1 rfl) ?_
          refine b_icmp_ne (pc := 73) (tgt := 101) hx hb rfl rfl  dX4_goOn_73 (by decide) (fun c_16 => ?_) (fun c_16 => ?_)
          ·
            exact hret ((fun _ => 0), (fun _ => (fun _ => 0)), (fun _ => (fun _ => 0)), (fun k => [x_1, r_11].getD k 0), (fun _ => 0)) dX4_goOn_101 ⟨(show (0 ≤ (x_1 : Int32).toInt ∧ (x_1 : Int32).toInt ≤ 1600) from hi_2), (show ((-1) ≤ (r_11 : Int32).toInt ∧ (r_11 : Int32).toInt ≤ 255) from (by first | exact (om_21 hw_13) | (omega))), (show x_1.toInt = skp (taub f0 x8.toInt) x0.toInt from (skp_at hi_3 (by unfold isBl; first | omega | (have q := taub_out (f := f0) (n := x8.toInt) (i := x_1.toInt) (by omega); omega)) (by first | exact (om_22 hi_2.2 hp1.1) | (omega))).symm), (show r_11.toInt = gsn (taub f0 x8.toInt) x0.toInt x_1.toInt x1.toInt from (by have q := gsn_t (t := (taub f0 x8.toInt)) (p := x0.toInt) (q := x_1.toInt) (nb := x1.toInt) (by unfold isSm isDg; omega); omega)), (show x0.toInt ≤ x_1.toInt from hi_3.1)⟩ (g_psub (wc := (zS_1 cB cC cI cJ a0 a1 a2 x_1 r_11 x4 x5 x6 x7 a1 a3 x8 a3 f0)) hP [0, 1, 2] rfl) (hD.sub (ws' := (zS_1 cB cC cI cJ a0 a1 a2 x_1 r_11 x4 x5 x6 x7 a1 a3 x8 a3 f0)) [0, 1, 2] (by decide) rfl) hS
          ·
            refine lv_aload_n (pc := 76) hx hb dX4_goOn_76 rfl (lv_at hl 0 rfl) ?_
            refine va_get (pc := 77) (ci := 4) (v := .int r_11) (C := RX4) (T := TX4) (N := 8) hx hb hts iX4 hown hK hP 0 rfl rfl 3 (by decide) (hts _ tw_171) (fun _ h9 => h9) rfl dX4_goOn_77 ?_
            refine gd_i (pc := 80) (wc := []) hP hD hS hA [] rfl (by decide +kernel) (fun _ => by rfl) (fun hPc hDc => va_runS (As := [.int r_11]) (rest := []) ⟨hx, hb, hml, hown, hts⟩ (k_X4_isSmall l D cB cC cI cJ _ r_11) ⟨gcwB hts tw_524 tw_2 tw_522 hd_yX4_isSmall ⟨Nat.le_of_ble_eq_true rfl, Nat.le_of_ble_eq_true rfl⟩, hts _ tw_523⟩ (gpreS hPc hK hDc hN) rfl rfl hl.1 rfl (lv_room (Nat.le_of_ble_eq_true rfl)) dX4_goOn_80 ⟨Nat.le_of_ble_eq_true rfl, Nat.le_of_ble_eq_true rfl⟩) (fun r_18 u_17 H locs hw_19 hP hD hS => ?_)
            replace hP : va_P D gcl (zS_1 cB cC cI cJ a0 a1 a2 x_1 r_11 x4 x5 x6 x7 a1 a3 x8 a3 f0) H := hP
            replace hD : va_D A (zS_1 cB cC cI cJ a0 a1 a2 x_1 r_11 x4 x5 x6 x7 a1 a3 x8 a3 f0) := hD
            have hw_20 : ((r_18.toInt = 0 ∧ r_11.toInt < 97) ∨ (r_18.toInt = 0 ∧ r_11.toInt ≥ 97 ∧ r_11.toInt > 122) ∨ (r_18.toInt = 1 ∧ r_11.toInt ≥ 97 ∧ r_11.toInt ≤ 122)) := hw_19
            have rr_18 := n_rng r_18
            refine b_if_ne (pc := 83) (tgt := 96) hx hb rfl  dX4_goOn_83 (by decide) (fun c_21 => ?_) (fun c_21 => ?_)
            ·
              refine lv_aload_n (pc := 96) hx hb dX4_goOn_96 rfl (lv_at hl 0 rfl) ?_
              refine lv_iconst (pc := 97) (v := 0) hx hb dX4_goOn_97 (by decide) ?_
              refine va_put (pc := 98) (ci := 4) (v := .int 0) (ty := .int) (C := RX4) (T := TX4) (N := 8) hx hb hts iX4 tyX4 tyX4_ok nmX4 hown hK hP hD hS 0 rfl rfl 3 (by decide) (hts _ tw_171) (fun _ h9 => h9) rfl (by decide +kernel) (by decide +kernel) (by decide +kernel) (Nat.le_of_ble_eq_true rfl) dX4_goOn_98 (fun H locs hP hD hS => ?_)
              replace hP : va_P D gcl (zS_1 cB cC cI cJ a0 a1 a2 x_1 0 x4 x5 x6 x7 a1 a3 x8 a3 f0) H := hP
              replace hD : va_D A (zS_1 cB cC cI cJ a0 a1 a2 x_1 0 x4 x5 x6 x7 a1 a3 x8 a3 f0) := hD
              have k8_0 := tI_0
              exact hret ((fun _ => 0), (fun _ => (fun _ => 0)), (fun _ => (fun _ => 0)), (fun k => [x_1, 0].getD k 0), (fun _ => 0)) dX4_goOn_101 ⟨(show (0 ≤ (x_1 : Int32).toInt ∧ (x_1 : Int32).toInt ≤ 1600) from hi_2), (show ((-1) ≤ (0 : Int32).toInt ∧ (0 : Int32).toInt ≤ 255) from (n_c tI_0 (by decide))), (show x_1.toInt = skp (taub f0 x8.toInt) x0.toInt from (skp_at hi_3 (by unfold isBl; first | omega | (have q := taub_out (f := f0) (n := x8.toInt) (i := x_1.toInt) (by omega); omega)) (by first | exact (om_23 c_16) | (omega))).symm), (show (0 : Int32).toInt = gsn (taub f0 x8.toInt) x0.toInt x_1.toInt x1.toInt from (by have q := gsn_g (t := (taub f0 x8.toInt)) (p := x0.toInt) (q := x_1.toInt) (nb := x1.toInt) (by omega) (by omega) (by unfold isSm isDg; omega); omega)), (show x0.toInt ≤ x_1.toInt from hi_3.1)⟩ (g_psub (wc := (zS_1 cB cC cI cJ a0 a1 a2 x_1 0 x4 x5 x6 x7 a1 a3 x8 a3 f0)) hP [0, 1, 2] rfl) (hD.sub (ws' := (zS_1 cB cC cI cJ a0 a1 a2 x_1 0 x4 x5 x6 x7 a1 a3 x8 a3 f0)) [0, 1, 2] (by decide) rfl) hS
            ·
              refine lv_aload_n (pc := 86) hx hb dX4_goOn_86 rfl (lv_at hl 0 rfl) ?_
              refine va_get (pc := 87) (ci := 4) (v := .int r_11) (C := RX4) (T := TX4) (N := 8) hx hb hts iX4 hown hK hP 0 rfl rfl 3 (by decide) (hts _ tw_171) (fun _ h9 => h9) rfl dX4_goOn_87 ?_
              refine gd_i (pc := 90) (wc := []) hP hD hS hA [] rfl (by decide +kernel) (fun _ => by rfl) (fun hPc hDc => va_runS (As := [.int r_11]) (rest := []) ⟨hx, hb, hml, hown, hts⟩ (k_X4_isDigit l D cB cC cI cJ _ r_11) ⟨gcwB hts tw_527 tw_2 tw_525 hd_yX4_isDigit ⟨Nat.le_of_ble_eq_true rfl, Nat.le_of_ble_eq_true rfl⟩, hts _ tw_526⟩ (gpreS hPc hK hDc hN) rfl rfl hl.1 rfl (lv_room (Nat.le_of_ble_eq_true rfl)) dX4_goOn_90 ⟨Nat.le_of_ble_eq_true rfl, Nat.le_of_ble_eq_true rfl⟩) (fun r_23 u_22 H locs hw_24 hP hD hS => ?_)
              replace hP : va_P D gcl (zS_1 cB cC cI cJ a0 a1 a2 x_1 r_11 x4 x5 x6 x7 a1 a3 x8 a3 f0) H := hP
              replace hD : va_D A (zS_1 cB cC cI cJ a0 a1 a2 x_1 r_11 x4 x5 x6 x7 a1 a3 x8 a3 f0) := hD
              have hw_25 : ((r_23.toInt = 0 ∧ r_11.toInt < 48) ∨ (r_23.toInt = 0 ∧ r_11.toInt ≥ 48 ∧ r_11.toInt > 57) ∨ (r_23.toInt = 1 ∧ r_11.toInt ≥ 48 ∧ r_11.toInt ≤ 57)) := hw_24
              have rr_23 := n_rng r_23
              refine b_if_eq (pc := 93) (tgt := 101) hx hb rfl  dX4_goOn_93 (by decide) (fun c_26 => ?_) (fun c_26 => ?_)
              ·
                exact hret ((fun _ => 0), (fun _ => (fun _ => 0)), (fun _ => (fun _ => 0)), (fun k => [x_1, r_11].getD k 0), (fun _ => 0)) dX4_goOn_101 ⟨(show (0 ≤ (x_1 : Int32).toInt ∧ (x_1 : Int32).toInt ≤ 1600) from hi_2), (show ((-1) ≤ (r_11 : Int32).toInt ∧ (r_11 : Int32).toInt ≤ 255) from (by first | exact (om_21 hw_13) | (omega))), (show x_1.toInt = skp (taub f0 x8.toInt) x0.toInt from (skp_at hi_3 (by unfold isBl; first | omega | (have q := taub_out (f := f0) (n := x8.toInt) (i := x_1.toInt) (by omega); omega)) (by first | exact (om_23 c_16) | (omega))).symm), (show r_11.toInt = gsn (taub f0 x8.toInt) x0.toInt x_1.toInt x1.toInt from (by have q := gsn_t (t := (taub f0 x8.toInt)) (p := x0.toInt) (q := x_1.toInt) (nb := x1.toInt) (by unfold isSm isDg; omega); omega)), (show x0.toInt ≤ x_1.toInt from hi_3.1)⟩ (g_psub (wc := (zS_1 cB cC cI cJ a0 a1 a2 x_1 r_11 x4 x5 x6 x7 a1 a3 x8 a3 f0)) hP [0, 1, 2] rfl) (hD.sub (ws' := (zS_1 cB cC cI cJ a0 a1 a2 x_1 r_11 x4 x5 x6 x7 a1 a3 x8 a3 f0)) [0, 1, 2] (by decide) rfl) hS
              ·
                refine lv_aload_n (pc := 96) hx hb dX4_goOn_96 rfl (lv_at hl 0 rfl) ?_
                refine lv_iconst (pc := 97) (v := 0) hx hb dX4_goOn_97 (by decide) ?_
                refine va_put (pc := 98) (ci := 4) (v := .int 0) (ty := .int) (C := RX4) (T := TX4) (N := 8) hx hb hts iX4 tyX4 tyX4_ok nmX4 hown hK hP hD hS 0 rfl rfl 3 (by decide) (hts _ tw_171) (fun _ h9 => h9) rfl (by decide +kernel) (by decide +kernel) (by decide +kernel) (Nat.le_of_ble_eq_true rfl) dX4_goOn_98 (fun H locs hP hD hS => ?_)
                replace hP : va_P D gcl (zS_1 cB cC cI cJ a0 a1 a2 x_1 0 x4 x5 x6 x7 a1 a3 x8 a3 f0) H := hP
                replace hD : va_D A (zS_1 cB cC cI cJ a0 a1 a2 x_1 0 x4 x5 x6 x7 a1 a3 x8 a3 f0) := hD
                have k8_0 := tI_0
                exact hret ((fun _ => 0), (fun _ => (fun _ => 0)), (fun _ => (fun _ => 0)), (fun k => [x_1, 0].getD k 0), (fun _ => 0)) dX4_goOn_101 ⟨(show (0 ≤ (x_1 : Int32).toInt ∧ (x_1 : Int32).toInt ≤ 1600) from hi_2), (show ((-1) ≤ (0 : Int32).toInt ∧ (0 : Int32).toInt ≤ 255) from (n_c tI_0 (by decide))), (show x_1.toInt = skp (taub f0 x8.toInt) x0.toInt from (skp_at hi_3 (by unfold isBl; first | omega | (have q := taub_out (f := f0) (n := x8.toInt) (i := x_1.toInt) (by omega); omega)) (by first | exact (om_23 c_16) | (omega))).symm), (show (0 : Int32).toInt = gsn (taub f0 x8.toInt) x0.toInt x_1.toInt x1.toInt from (by have q := gsn_g (t := (taub f0 x8.toInt)) (p := x0.toInt) (q := x_1.toInt) (nb := x1.toInt) (by omega) (by omega) (by unfold isSm isDg; omega); omega)), (show x0.toInt ≤ x_1.toInt from hi_3.1)⟩ (g_psub (wc := (zS_1 cB cC cI cJ a0 a1 a2 x_1 0 x4 x5 x6 x7 a1 a3 x8 a3 f0)) hP [0, 1, 2] rfl) (hD.sub (ws' := (zS_1 cB cC cI cJ a0 a1 a2 x_1 0 x4 x5 x6 x7 a1 a3 x8 a3 f0)) [0, 1, 2] (by decide) rfl) hS
      ·
        refine lv_aload_n (pc := 19) hx hb dX4_goOn_19 rfl (lv_at hl 0 rfl) ?_
        refine va_get (pc := 20) (ci := 4) (v := .ref a1) (C := RX4) (T := TX4) (N := 8) hx hb hts iX4 hown hK hP 0 rfl rfl 0 (by decide) (hts _ tw_167) (fun _ h9 => h9) rfl dX4_goOn_20 ?_
        refine lv_aload_n (pc := 23) hx hb dX4_goOn_23 rfl (lv_at hl 0 rfl) ?_
        refine va_get (pc := 24) (ci := 4) (v := .int x_1) (C := RX4) (T := TX4) (N := 8) hx hb hts iX4 hown hK hP 0 rfl rfl 2 (by decide) (hts _ tw_170) (fun _ h9 => h9) rfl dX4_goOn_24 ?_
        refine gd_i (pc := 27) (wc := [(a1, .inr (9, [.ref a3, .int x8])), (a3, .inl (cB, 1600, .inl f0))]) hP hD hS hA [1, 2] rfl (by decide +kernel) (fun _ => by rfl) (fun hPc hDc => va_runV (As := [.int x_1]) (rest := []) ⟨hx, hb, hml, hown, hts⟩ (k_X9_at_E l D cB cC cI cJ _ a1 a3 x_1 x8 f0 h_x8) ⟨gcwB hts tw_518 tw_3 tw_515 hd_yX9_at ⟨Nat.le_of_ble_eq_true rfl, Nat.le_of_ble_eq_true rfl⟩, hts _ tw_516, hts _ tw_517⟩ ⟨gblind, va_recv hK hPc (ci := 9) (q0 := 0) rfl rfl, (gpreS hPc hK hDc hN).2⟩ rfl rfl hl.1 rfl (lv_room (Nat.le_of_ble_eq_true rfl)) dX4_goOn_27 ⟨Nat.le_of_ble_eq_true rfl, Nat.le_of_ble_eq_true rfl⟩) (fun r_28 u_27 H locs hw_29 hP hD hS => ?_)
        replace hP : va_P D gcl (zS_1 cB cC cI cJ a0 a1 a2 x_1 x3 x4 x5 x6 x7 a1 a3 x8 a3 f0) H := hP
        replace hD : va_D A (zS_1 cB cC cI cJ a0 a1 a2 x_1 x3 x4 x5 x6 x7 a1 a3 x8 a3 f0) := hD
        obtain ⟨hw_30, hw_31⟩ := hw_29
        replace hw_30 : ((r_28.toInt = (-1) ∧ x_1.toInt < 0) ∨ (r_28.toInt = (-1) ∧ x_1.toInt ≥ 0 ∧ x_1.toInt ≥ x8.toInt) ∨ ((0 ≤ r_28.toInt ∧ r_28.toInt ≤ 255) ∧ x_1.toInt ≥ 0 ∧ x_1.toInt < x8.toInt)) := hw_30
        replace hw_31 : (r_28.toInt = taub f0 x8.toInt x_1.toInt) := hw_31
        have rr_28 := n_rng r_28
        refine gd_i (pc := 30) (wc := []) hP hD hS hA [] rfl (by decide +kernel) (fun _ => by rfl) (fun hPc hDc => va_runS (As := [.int r_28]) (rest := []) ⟨hx, hb, hml, hown, hts⟩ (k_X4_isBlank l D cB cC cI cJ _ r_28) ⟨gcwB hts tw_521 tw_2 tw_519 hd_yX4_isBlank ⟨Nat.le_of_ble_eq_true rfl, Nat.le_of_ble_eq_true rfl⟩, hts _ tw_520⟩ (gpreS hPc hK hDc hN) rfl rfl hl.1 rfl (lv_room (Nat.le_of_ble_eq_true rfl)) dX4_goOn_30 ⟨Nat.le_of_ble_eq_true rfl, Nat.le_of_ble_eq_true rfl⟩) (fun r_33 u_32 H locs hw_34 hP hD hS => ?_)
        replace hP : va_P D gcl (zS_1 cB cC cI cJ a0 a1 a2 x_1 x3 x4 x5 x6 x7 a1 a3 x8 a3 f0) H := hP
        replace hD : va_D A (zS_1 cB cC cI cJ a0 a1 a2 x_1 x3 x4 x5 x6 x7 a1 a3 x8 a3 f0) := hD
        have hw_35 : ((r_33.toInt = 1 ∧ r_28.toInt = 10) ∨ (r_33.toInt = 0 ∧ ¬ r_28.toInt = 10 ∧ ¬ r_28.toInt = 32) ∨ (r_33.toInt = 1 ∧ ¬ r_28.toInt = 10 ∧ r_28.toInt = 32)) := hw_34
        have rr_33 := n_rng r_33
        refine b_if_eq (pc := 33) (tgt := 49) hx hb rfl  dX4_goOn_33 (by decide) (fun c_36 => ?_) (fun c_36 => ?_)
        ·
          refine lv_aload_n (pc := 49) hx hb dX4_goOn_49 rfl (lv_at hl 0 rfl) ?_
          refine lv_aload_n (pc := 50) hx hb dX4_goOn_50 rfl (lv_at hl 0 rfl) ?_
          refine va_get (pc := 51) (ci := 4) (v := .ref a1) (C := RX4) (T := TX4) (N := 8) hx hb hts iX4 hown hK hP 0 rfl rfl 0 (by decide) (hts _ tw_167) (fun _ h9 => h9) rfl dX4_goOn_51 ?_
          refine lv_aload_n (pc := 54) hx hb dX4_goOn_54 rfl (lv_at hl 0 rfl) ?_
          refine va_get (pc := 55) (ci := 4) (v := .int x_1) (C := RX4) (T := TX4) (N := 8) hx hb hts iX4 hown hK hP 0 rfl rfl 2 (by decide) (hts _ tw_170) (fun _ h9 => h9) rfl dX4_goOn_55 ?_
          refine gd_i (pc := 58) (wc := [(a1, .inr (9, [.ref a3, .int x8])), (a3, .inl (cB, 1600, .inl f0))]) hP hD hS hA [1, 2] rfl (by decide +kernel) (fun _ => by rfl) (fun hPc hDc => va_runV (As := [.int x_1]) (rest := [.ref a0]) ⟨hx, hb, hml, hown, hts⟩ (k_X9_at_E l D cB cC cI cJ _ a1 a3 x_1 x8 f0 h_x8) ⟨gcwB hts tw_518 tw_3 tw_515 hd_yX9_at ⟨Nat.le_of_ble_eq_true rfl, Nat.le_of_ble_eq_true rfl⟩, hts _ tw_516, hts _ tw_517⟩ ⟨gblind, va_recv hK hPc (ci := 9) (q0 := 0) rfl rfl, (gpreS hPc hK hDc hN).2⟩ rfl rfl hl.1 rfl (lv_room (Nat.le_of_ble_eq_true rfl)) dX4_goOn_58 ⟨Nat.le_of_ble_eq_true rfl, Nat.le_of_ble_eq_true rfl⟩) (fun r_38 u_37 H locs hw_39 hP hD hS => ?_)
          replace hP : va_P D gcl (zS_1 cB cC cI cJ a0 a1 a2 x_1 x3 x4 x5 x6 x7 a1 a3 x8 a3 f0) H := hP
          replace hD : va_D A (zS_1 cB cC cI cJ a0 a1 a2 x_1 x3 x4 x5 x6 x7 a1 a3 x8 a3 f0) := hD
          obtain ⟨hw_40, hw_41⟩ := hw_39
          replace hw_40 : ((r_38.toInt = (-1) ∧ x_1.toInt < 0) ∨ (r_38.toInt = (-1) ∧ x_1.toInt ≥ 0 ∧ x_1.toInt ≥ x8.toInt) ∨ ((0 ≤ r_38.toInt ∧ r_38.toInt ≤ 255) ∧ x_1.toInt ≥ 0 ∧ x_1.toInt < x8.toInt)) := hw_40
          replace hw_41 : (r_38.toInt = taub f0 x8.toInt x_1.toInt) := hw_41
          have rr_38 := n_rng r_38
          refine va_put (pc := 61) (ci := 4) (v := .int r_38) (ty := .int) (C := RX4) (T := TX4) (N := 8) hx hb hts iX4 tyX4 tyX4_ok nmX4 hown hK hP hD hS 0 rfl rfl 3 (by decide) (hts _ tw_171) (fun _ h9 => h9) rfl (by decide +kernel) rfl rfl (Nat.le_of_ble_eq_true rfl) dX4_goOn_61 (fun H locs hP hD hS => ?_)
          replace hP : va_P D gcl (zS_1 cB cC cI cJ a0 a1 a2 x_1 r_38 x4 x5 x6 x7 a1 a3 x8 a3 f0) H := hP
          replace hD : va_D A (zS_1 cB cC cI cJ a0 a1 a2 x_1 r_38 x4 x5 x6 x7 a1 a3 x8 a3 f0) := hD
          refine lv_iload_n (pc := 64) hx hb dX4_goOn_64 rfl (lv_at hl 2 rfl) ?_
          refine b_if_eq (pc := 65) (tgt := 101) hx hb rfl  dX4_goOn_65 (by decide) (fun c_42 => ?_) (fun c_42 => ?_)
          ·
            exact hret ((fun _ => 0), (fun _ => (fun _ => 0)), (fun _ => (fun _ => 0)), (fun k => [x_1, r_38].getD k 0), (fun _ => 0)) dX4_goOn_101 ⟨(show (0 ≤ (x_1 : Int32).toInt ∧ (x_1 : Int32).toInt ≤ 1600) from hi_2), (show ((-1) ≤ (r_38 : Int32).toInt ∧ (r_38 : Int32).toInt ≤ 255) from (by first | exact (om_21 hw_40) | (omega))), (show x_1.toInt = skp (taub f0 x8.toInt) x0.toInt from (skp_at hi_3 (by unfold isBl; first | omega | (have q := taub_out (f := f0) (n := x8.toInt) (i := x_1.toInt) (by omega); omega)) (by first | exact (om_22 hi_2.2 hp1.1) | (omega))).symm), (show r_38.toInt = gsn (taub f0 x8.toInt) x0.toInt x_1.toInt x1.toInt from (by have q := gsn_t (t := (taub f0 x8.toInt)) (p := x0.toInt) (q := x_1.toInt) (nb := x1.toInt) (by unfold isSm isDg; omega); omega)), (show x0.toInt ≤ x_1.toInt from hi_3.1)⟩ (g_psub (wc := (zS_1 cB cC cI cJ a0 a1 a2 x_1 r_38 x4 x5 x6 x7 a1 a3 x8 a3 f0)) hP [0, 1, 2] rfl) (hD.sub (ws' := (zS_1 cB cC cI cJ a0 a1 a2 x_1 r_38 x4 x5 x6 x7 a1 a3 x8 a3 f0)) [0, 1, 2] (by decide) rfl) hS
          ·
            refine lv_aload_n (pc := 68) hx hb dX4_goOn_68 rfl (lv_at hl 0 rfl) ?_
            refine va_get (pc := 69) (ci := 4) (v := .int x_1) (C := RX4) (T := TX4) (N := 8) hx hb hts iX4 hown hK hP 0 rfl rfl 2 (by decide) (hts _ tw_170) (fun _ h9 => h9) rfl dX4_goOn_69 ?_
            refine lv_iload_n (pc := 72) hx hb dX4_goOn_72 rfl (lv_at hl 1 rfl) ?_
            refine b_icmp_ne (pc := 73) (tgt := 101) hx hb rfl rfl  dX4_goOn_73 (by decide) (fun c_43 => ?_) (fun c_43 => ?_)
            ·
              exact hret ((fun _ => 0), (fun _ => (fun _ => 0)), (fun _ => (fun _ => 0)), (fun k => [x_1, r_38].getD k 0), (fun _ => 0)) dX4_goOn_101 ⟨(show (0 ≤ (x_1 : Int32).toInt ∧ (x_1 : Int32).toInt ≤ 1600) from hi_2), (show ((-1) ≤ (r_38 : Int32).toInt ∧ (r_38 : Int32).toInt ≤ 255) from (by first | exact (om_21 hw_40) | (omega))), (show x_1.toInt = skp (taub f0 x8.toInt) x0.toInt from (skp_at hi_3 (by unfold isBl; first | omega | (have q := taub_out (f := f0) (n := x8.toInt) (i := x_1.toInt) (by omega); omega)) (by first | exact (om_22 hi_2.2 hp1.1) | (omega))).symm), (show r_38.toInt = gsn (taub f0 x8.toInt) x0.toInt x_1.toInt x1.toInt from (by have q := gsn_t (t := (taub f0 x8.toInt)) (p := x0.toInt) (q := x_1.toInt) (nb := x1.toInt) (by unfold isSm isDg; omega); omega)), (show x0.toInt ≤ x_1.toInt from hi_3.1)⟩ (g_psub (wc := (zS_1 cB cC cI cJ a0 a1 a2 x_1 r_38 x4 x5 x6 x7 a1 a3 x8 a3 f0)) hP [0, 1, 2] rfl) (hD.sub (ws' := (zS_1 cB cC cI cJ a0 a1 a2 x_1 r_38 x4 x5 x6 x7 a1 a3 x8 a3 f0)) [0, 1, 2] (by decide) rfl) hS
            ·
              refine lv_aload_n (pc := 76) hx hb dX4_goOn_76 rfl (lv_at hl 0 rfl) ?_
              refine va_get (pc := 77) (ci := 4) (v := .int r_38) (C := RX4) (T := TX4) (N := 8) hx hb hts iX4 hown hK hP 0 rfl rfl 3 (by decide) (hts _ tw_171) (fun _ h9 => h9) rfl dX4_goOn_77 ?_
              refine gd_i (pc := 80) (wc := []) hP hD hS hA [] rfl (by decide +kernel) (fun _ => by rfl) (fun hPc hDc => va_runS (As := [.int r_38]) (rest := []) ⟨hx, hb, hml, hown, hts⟩ (k_X4_isSmall l D cB cC cI cJ _ r_38) ⟨gcwB hts tw_524 tw_2 tw_522 hd_yX4_isSmall ⟨Nat.le_of_ble_eq_true rfl, Nat.le_of_ble_eq_true rfl⟩, hts _ tw_523⟩ (gpreS hPc hK hDc hN) rfl rfl hl.1 rfl (lv_room (Nat.le_of_ble_eq_true rfl)) dX4_goOn_80 ⟨Nat.le_of_ble_eq_true rfl, Nat.le_of_ble_eq_true rfl⟩) (fun r_45 u_44 H locs hw_46 hP hD hS => ?_)
              replace hP : va_P D gcl (zS_1 cB cC cI cJ a0 a1 a2 x_1 r_38 x4 x5 x6 x7 a1 a3 x8 a3 f0) H := hP
              replace hD : va_D A (zS_1 cB cC cI cJ a0 a1 a2 x_1 r_38 x4 x5 x6 x7 a1 a3 x8 a3 f0) := hD
              have hw_47 : ((r_45.toInt = 0 ∧ r_38.toInt < 97) ∨ (r_45.toInt = 0 ∧ r_38.toInt ≥ 97 ∧ r_38.toInt > 122) ∨ (r_45.toInt = 1 ∧ r_38.toInt ≥ 97 ∧ r_38.toInt ≤ 122)) := hw_46
              have rr_45 := n_rng r_45
              refine b_if_ne (pc := 83) (tgt := 96) hx hb rfl  dX4_goOn_83 (by decide) (fun c_48 => ?_) (fun c_48 => ?_)
              ·
                refine lv_aload_n (pc := 96) hx hb dX4_goOn_96 rfl (lv_at hl 0 rfl) ?_
                refine lv_iconst (pc := 97) (v := 0) hx hb dX4_goOn_97 (by decide) ?_
                refine va_put (pc := 98) (ci := 4) (v := .int 0) (ty := .int) (C := RX4) (T := TX4) (N := 8) hx hb hts iX4 tyX4 tyX4_ok nmX4 hown hK hP hD hS 0 rfl rfl 3 (by decide) (hts _ tw_171) (fun _ h9 => h9) rfl (by decide +kernel) (by decide +kernel) (by decide +kernel) (Nat.le_of_ble_eq_true rfl) dX4_goOn_98 (fun H locs hP hD hS => ?_)
                replace hP : va_P D gcl (zS_1 cB cC cI cJ a0 a1 a2 x_1 0 x4 x5 x6 x7 a1 a3 x8 a3 f0) H := hP
                replace hD : va_D A (zS_1 cB cC cI cJ a0 a1 a2 x_1 0 x4 x5 x6 x7 a1 a3 x8 a3 f0) := hD
                have k8_0 := tI_0
                exact hret ((fun _ => 0), (fun _ => (fun _ => 0)), (fun _ => (fun _ => 0)), (fun k => [x_1, 0].getD k 0), (fun _ => 0)) dX4_goOn_101 ⟨(show (0 ≤ (x_1 : Int32).toInt ∧ (x_1 : Int32).toInt ≤ 1600) from hi_2), (show ((-1) ≤ (0 : Int32).toInt ∧ (0 : Int32).toInt ≤ 255) from (n_c tI_0 (by decide))), (show x_1.toInt = skp (taub f0 x8.toInt) x0.toInt from (skp_at hi_3 (by unfold isBl; first | omega | (have q := taub_out (f := f0) (n := x8.toInt) (i := x_1.toInt) (by omega); omega)) (by first | exact (om_23 c_43) | (omega))).symm), (show (0 : Int32).toInt = gsn (taub f0 x8.toInt) x0.toInt x_1.toInt x1.toInt from (by have q := gsn_g (t := (taub f0 x8.toInt)) (p := x0.toInt) (q := x_1.toInt) (nb := x1.toInt) (by omega) (by omega) (by unfold isSm isDg; omega); omega)), (show x0.toInt ≤ x_1.toInt from hi_3.1)⟩ (g_psub (wc := (zS_1 cB cC cI cJ a0 a1 a2 x_1 0 x4 x5 x6 x7 a1 a3 x8 a3 f0)) hP [0, 1, 2] rfl) (hD.sub (ws' := (zS_1 cB cC cI cJ a0 a1 a2 x_1 0 x4 x5 x6 x7 a1 a3 x8 a3 f0)) [0, 1, 2] (by decide) rfl) hS
              ·
                refine lv_aload_n (pc := 86) hx hb dX4_goOn_86 rfl (lv_at hl 0 rfl) ?_
                refine va_get (pc := 87) (ci := 4) (v := .int r_38) (C := RX4) (T := TX4) (N := 8) hx hb hts iX4 hown hK hP 0 rfl rfl 3 (by decide) (hts _ tw_171) (fun _ h9 => h9) rfl dX4_goOn_87 ?_
                refine gd_i (pc := 90) (wc := []) hP hD hS hA [] rfl (by decide +kernel) (fun _ => by rfl) (fun hPc hDc => va_runS (As := [.int r_38]) (rest := []) ⟨hx, hb, hml, hown, hts⟩ (k_X4_isDigit l D cB cC cI cJ _ r_38) ⟨gcwB hts tw_527 tw_2 tw_525 hd_yX4_isDigit ⟨Nat.le_of_ble_eq_true rfl, Nat.le_of_ble_eq_true rfl⟩, hts _ tw_526⟩ (gpreS hPc hK hDc hN) rfl rfl hl.1 rfl (lv_room (Nat.le_of_ble_eq_true rfl)) dX4_goOn_90 ⟨Nat.le_of_ble_eq_true rfl, Nat.le_of_ble_eq_true rfl⟩) (fun r_50 u_49 H locs hw_51 hP hD hS => ?_)
                replace hP : va_P D gcl (zS_1 cB cC cI cJ a0 a1 a2 x_1 r_38 x4 x5 x6 x7 a1 a3 x8 a3 f0) H := hP
                replace hD : va_D A (zS_1 cB cC cI cJ a0 a1 a2 x_1 r_38 x4 x5 x6 x7 a1 a3 x8 a3 f0) := hD
                have hw_52 : ((r_50.toInt = 0 ∧ r_38.toInt < 48) ∨ (r_50.toInt = 0 ∧ r_38.toInt ≥ 48 ∧ r_38.toInt > 57) ∨ (r_50.toInt = 1 ∧ r_38.toInt ≥ 48 ∧ r_38.toInt ≤ 57)) := hw_51
                have rr_50 := n_rng r_50
                refine b_if_eq (pc := 93) (tgt := 101) hx hb rfl  dX4_goOn_93 (by decide) (fun c_53 => ?_) (fun c_53 => ?_)
                ·
                  exact hret ((fun _ => 0), (fun _ => (fun _ => 0)), (fun _ => (fun _ => 0)), (fun k => [x_1, r_38].getD k 0), (fun _ => 0)) dX4_goOn_101 ⟨(show (0 ≤ (x_1 : Int32).toInt ∧ (x_1 : Int32).toInt ≤ 1600) from hi_2), (show ((-1) ≤ (r_38 : Int32).toInt ∧ (r_38 : Int32).toInt ≤ 255) from (by first | exact (om_21 hw_40) | (omega))), (show x_1.toInt = skp (taub f0 x8.toInt) x0.toInt from (skp_at hi_3 (by unfold isBl; first | omega | (have q := taub_out (f := f0) (n := x8.toInt) (i := x_1.toInt) (by omega); omega)) (by first | exact (om_23 c_43) | (omega))).symm), (show r_38.toInt = gsn (taub f0 x8.toInt) x0.toInt x_1.toInt x1.toInt from (by have q := gsn_t (t := (taub f0 x8.toInt)) (p := x0.toInt) (q := x_1.toInt) (nb := x1.toInt) (by unfold isSm isDg; omega); omega)), (show x0.toInt ≤ x_1.toInt from hi_3.1)⟩ (g_psub (wc := (zS_1 cB cC cI cJ a0 a1 a2 x_1 r_38 x4 x5 x6 x7 a1 a3 x8 a3 f0)) hP [0, 1, 2] rfl) (hD.sub (ws' := (zS_1 cB cC cI cJ a0 a1 a2 x_1 r_38 x4 x5 x6 x7 a1 a3 x8 a3 f0)) [0, 1, 2] (by decide) rfl) hS
                ·
                  refine lv_aload_n (pc := 96) hx hb dX4_goOn_96 rfl (lv_at hl 0 rfl) ?_
                  refine lv_iconst (pc := 97) (v := 0) hx hb dX4_goOn_97 (by decide) ?_
                  refine va_put (pc := 98) (ci := 4) (v := .int 0) (ty := .int) (C := RX4) (T := TX4) (N := 8) hx hb hts iX4 tyX4 tyX4_ok nmX4 hown hK hP hD hS 0 rfl rfl 3 (by decide) (hts _ tw_171) (fun _ h9 => h9) rfl (by decide +kernel) (by decide +kernel) (by decide +kernel) (Nat.le_of_ble_eq_true rfl) dX4_goOn_98 (fun H locs hP hD hS => ?_)
                  replace hP : va_P D gcl (zS_1 cB cC cI cJ a0 a1 a2 x_1 0 x4 x5 x6 x7 a1 a3 x8 a3 f0) H := hP
                  replace hD : va_D A (zS_1 cB cC cI cJ a0 a1 a2 x_1 0 x4 x5 x6 x7 a1 a3 x8 a3 f0) := hD
                  have k8_0 := tI_0
                  exact hret ((fun _ => 0), (fun _ => (fun _ => 0)), (fun _ => (fun _ => 0)), (fun k => [x_1, 0].getD k 0), (fun _ => 0)) dX4_goOn_101 ⟨(show (0 ≤ (x_1 : Int32).toInt ∧ (x_1 : Int32).toInt ≤ 1600) from hi_2), (show ((-1) ≤ (0 : Int32).toInt ∧ (0 : Int32).toInt ≤ 255) from (n_c tI_0 (by decide))), (show x_1.toInt = skp (taub f0 x8.toInt) x0.toInt from (skp_at hi_3 (by unfold isBl; first | omega | (have q := taub_out (f := f0) (n := x8.toInt) (i := x_1.toInt) (by omega); omega)) (by first | exact (om_23 c_43) | (omega))).symm), (show (0 : Int32).toInt = gsn (taub f0 x8.toInt) x0.toInt x_1.toInt x1.toInt from (by have q := gsn_g (t := (taub f0 x8.toInt)) (p := x0.toInt) (q := x_1.toInt) (nb := x1.toInt) (by omega) (by omega) (by unfold isSm isDg; omega); omega)), (show x0.toInt ≤ x_1.toInt from hi_3.1)⟩ (g_psub (wc := (zS_1 cB cC cI cJ a0 a1 a2 x_1 0 x4 x5 x6 x7 a1 a3 x8 a3 f0)) hP [0, 1, 2] rfl) (hD.sub (ws' := (zS_1 cB cC cI cJ a0 a1 a2 x_1 0 x4 x5 x6 x7 a1 a3 x8 a3 f0)) [0, 1, 2] (by decide) rfl) hS
        ·
          refine lv_aload_n (pc := 36) hx hb dX4_goOn_36 rfl (lv_at hl 0 rfl) ?_
          refine lv_dup (pc := 37) hx hb dX4_goOn_37 rfl ?_
          refine va_get (pc := 38) (ci := 4) (v := .int x_1) (C := RX4) (T := TX4) (N := 8) hx hb hts iX4 hown hK hP 0 rfl rfl 2 (by decide) (hts _ tw_170) (fun _ h9 => h9) rfl dX4_goOn_38 ?_
          refine lv_iconst (pc := 41) (v := 1) hx hb dX4_goOn_41 (by decide) ?_
          refine b_iadd (pc := 42) hx hb rfl tI_1 (by first | exact (om_2 hi_2.1) | (omega)) (by first | exact (om_24 hi_2.2) | (omega)) dX4_goOn_42 (fun x_54 ex_54 => ?_)
          refine va_put (pc := 43) (ci := 4) (v := .int x_54) (ty := .int) (C := RX4) (T := TX4) (N := 8) hx hb hts iX4 tyX4 tyX4_ok nmX4 hown hK hP hD hS 0 rfl rfl 2 (by decide) (hts _ tw_170) (fun _ h9 => h9) rfl (by decide +kernel) rfl rfl (Nat.le_of_ble_eq_true rfl) dX4_goOn_43 (fun H locs hP hD hS => ?_)
          replace hP : va_P D gcl (zS_1 cB cC cI cJ a0 a1 a2 x_54 x3 x4 x5 x6 x7 a1 a3 x8 a3 f0) H := hP
          replace hD : va_D A (zS_1 cB cC cI cJ a0 a1 a2 x_54 x3 x4 x5 x6 x7 a1 a3 x8 a3 f0) := hD
          refine lv_goto (pc := 46) (tgt := 5) hx hb dX4_goOn_46 (by decide) ?_
          exact ih_lp_4 x_54 _ _ ls (by first | exact (om_25 ex_54 hi_2.1 c_9 hw_8 h_x8.2) | (omega)) (bls_up hi_3 (by unfold isBl; omega) (by first | exact (om_5 ex_54) | (omega))) (by omega) hP hD hS (lv_sub hl [0, 1, 2] rfl)
  exact lp_4 _ x0 _ _ ls hp1 (bls_nil) (Nat.lt_succ_self _) hP hD hS (lv_sub hl [0, 1, 2] rfl)
theorem om_26 : (¬ (1 = 0)) := by omega
set_option maxHeartbeats 4000000 in
set_option maxRecDepth 100000 in
theorem k_J0_coder_7d493 (l : Launch) (D : va_G) (cB cC cI cJ : ClassId) (sz : Nat) (adK adV : Nat → Nat) (i : Nat) (hi : i < 15) : Met l yJ0_coder_7d493 (.code yJ0_coder_7d493 cJ0_coder_7d493 1 (some .byte) :: lw_gd) ({ frames := 0, cells := 0, slots := 0, locals := 0 }) (gPreT D [(cB, .byte), (cC, .char), (cI, .int), (cJ, .long)] [.ref (adK i)] [] sz adK adV) (va_Qi (fun r u => (0 ≤ r.toInt ∧ r.toInt ≤ 0)) (gB D (va_A [] sz) (fun u : gEx => [])) (va_A [] sz)) 0 0 (va_A [] sz) := by
  refine gOfT_b (by decide +kernel) (Nat.le_of_ble_eq_true rfl) ?_
  intro p e s m args below meth c ls A Q hx hb hts hown hml hN hK hP hD hA hl hF hret
  have hlen := s_len hi
  replace hown : s.vm.findClass RJ0 = some m.cls := hown
  have hS : va_S A s.heap s.heap [] := va_S.rf
  replace hP : va_P D gcl [] s.heap := hP
  replace hl : lv_has ls 1 [(0, .ref (adK i))] := hl
  refine va_gets (pc := 0) (v := .int 1) hx hb hF.2.2.1 hS hown (hts _ tw_561) (fun _ h9 => h9) dJ0_coder_7d493_0 ?_
  refine b_if_eq (pc := 3) (tgt := 13) hx hb tI_1  dJ0_coder_7d493_3 (by decide) (fun c_1 => absurd c_1 (by first | exact (om_26) | (omega))) (fun c_1 => ?_)
  refine lv_aload_n (pc := 6) hx hb dJ0_coder_7d493_6 rfl (lv_at hl 0 rfl) ?_
  refine vk_getf (pc := 7) (v := .int 0) hx hb (hF.1.1 i hi).2.1 hS hown (hts _ tw_2111) (fun _ h9 => h9) dJ0_coder_7d493_7 ?_
  refine lv_goto (pc := 10) (tgt := 14) hx hb dJ0_coder_7d493_10 (by decide) ?_
  exact hret 0 ((fun _ => 0), (fun _ => (fun _ => 0)), (fun _ => (fun _ => 0)), (fun _ => 0), (fun _ => 0)) dJ0_coder_7d493_14 ⟨(by have k9 := tI_0; omega), (show (0 ≤ (0 : Int32).toInt ∧ (0 : Int32).toInt ≤ 0) from (n_c tI_0 (by decide)))⟩ (g_psub (wc := []) hP [] rfl) (hD.sub (ws' := []) [] (by decide) rfl) hS
set_option maxHeartbeats 4000000 in
set_option maxRecDepth 100000 in
theorem k_J0_length_8abf5 (l : Launch) (D : va_G) (cB cC cI cJ : ClassId) (sz : Nat) (adK adV : Nat → Nat) (i : Nat) (hi : i < 15) : Met l yJ0_length_8abf5 (.code yJ0_length_8abf5 cJ0_length_8abf5 1 (some .int) :: lw_gd) ({ frames := 1, cells := 0, slots := 0, locals := 20 }) (gPreT D [(cB, .byte), (cC, .char), (cI, .int), (cJ, .long)] [.ref (adK i)] [] sz adK adV) (va_Qi (fun r u => (0 ≤ r.toInt ∧ r.toInt ≤ 6) ∧ (r.toInt = ((lenS.getD i 0 : Nat) : Int))) (gB D (va_A [] sz) (fun u : gEx => [])) (va_A [] sz)) 0 0 (va_A [] sz) := by
  refine gOfT_i (by decide +kernel) (Nat.le_of_ble_eq_true rfl) ?_
  intro p e s m args below meth c ls A Q hx hb hts hown hml hN hK hP hD hA hl hF hret
  have hlen := s_len hi
  replace hown : s.vm.findClass RJ0 = some m.cls := hown
  have hS : va_S A s.heap s.heap [] := va_S.rf
  replace hP : va_P D gcl [] s.heap := hP
  replace hl : lv_has ls 1 [(0, .ref (adK i))] := hl
  refine lv_aload_n (pc := 0) hx hb dJ0_length_8abf5_0 rfl (lv_at hl 0 rfl) ?_
  refine vk_getf (pc := 1) (v := .ref (adV i)) hx hb (hF.1.1 i hi).2.2.1 hS hown (hts _ tw_2110) (fun _ h9 => h9) dJ0_length_8abf5_1 ?_
  refine va_tlen (pc := 4) hx hb (hF.1.1 i hi).2.2.2 hS rfl dJ0_length_8abf5_4 ?_
  refine lv_aload_n (pc := 5) hx hb dJ0_length_8abf5_5 rfl (lv_at hl 0 rfl) ?_
  refine gd_i (pc := 6) (wc := []) hP hD hS hA [] rfl (by decide +kernel) (fun _ => by rfl) (fun hPc hDc => va_runV (As := []) (rest := [.int (Int32.ofNat (lenS.getD i 0))]) ⟨hx, hb, hml, hown, hts⟩ (k_J0_coder_7d493 l D cB cC cI cJ _ adK adV i hi) ⟨gcwB hts tw_560 tw_15 tw_557 hd_yJ0_coder_7d493 ⟨Nat.le_of_ble_eq_true rfl, Nat.le_of_ble_eq_true rfl⟩, hts _ tw_558, hts _ tw_559⟩ ⟨gblindT, vk_recv hF.1 hi hS, (gpreT hPc hK hDc hN hF hS (va_free (wc := []) hD hS hA [] rfl)).2⟩ rfl rfl hl.1 rfl (lv_room (Nat.le_of_ble_eq_true rfl)) dJ0_length_8abf5_6 ⟨Nat.le_of_ble_eq_true rfl, Nat.le_of_ble_eq_true rfl⟩) (fun r_2 u_1 H locs hw_3 hP hD hS => ?_)
  replace hP : va_P D gcl [] H := hP
  replace hD : va_D A [] := hD
  have hw_4 : (0 ≤ r_2.toInt ∧ r_2.toInt ≤ 0) := hw_3
  have rr_2 := n_rng r_2
  have h_5 : r_2 = 0 := Int32.toInt_inj.mp ((show r_2.toInt = 0 by omega).trans tI_0.symm)
  subst h_5
  refine lv_ishr (pc := 9) hx hb dJ0_length_8abf5_9 ?_
  refine gI (y := (Int32.ofNat (lenS.getD i 0))) (s_shr hi) ?_
  exact hret (Int32.ofNat (lenS.getD i 0)) ((fun _ => 0), (fun _ => (fun _ => 0)), (fun _ => (fun _ => 0)), (fun _ => 0), (fun _ => 0)) dJ0_length_8abf5_10 ⟨(show (0 ≤ (Int32.ofNat (lenS.getD i 0)).toInt ∧ (Int32.ofNat (lenS.getD i 0)).toInt ≤ 6) from (by omega)), (show (Int32.ofNat (lenS.getD i 0)).toInt = ((lenS.getD i 0 : Nat) : Int) from (by omega))⟩ (g_psub (wc := []) hP [] rfl) (hD.sub (ws' := []) [] (by decide) rfl) hS
theorem om_27 : (¬ (¬ 0 = 0)) := by omega
theorem om_28 {a : Int} (h0 : (a = 1)) : (a = 1) := by omega
set_option maxHeartbeats 4000000 in
set_option maxRecDepth 100000 in
theorem k_J0_isLatin1_aae02 (l : Launch) (D : va_G) (cB cC cI cJ : ClassId) (sz : Nat) (adK adV : Nat → Nat) (i : Nat) (hi : i < 15) : Met l yJ0_isLatin1_aae02 (.code yJ0_isLatin1_aae02 cJ0_isLatin1_aae02 1 (some .boolean) :: lw_gd) ({ frames := 0, cells := 0, slots := 0, locals := 0 }) (gPreT D [(cB, .byte), (cC, .char), (cI, .int), (cJ, .long)] [.ref (adK i)] [] sz adK adV) (va_Qi (fun r u => (1 ≤ r.toInt ∧ r.toInt ≤ 1) ∧ (r.toInt = 1)) (gB D (va_A [] sz) (fun u : gEx => [])) (va_A [] sz)) 0 0 (va_A [] sz) := by
  refine gOfT_z (by decide +kernel) (Nat.le_of_ble_eq_true rfl) ?_
  intro p e s m args below meth c ls A Q hx hb hts hown hml hN hK hP hD hA hl hF hret
  have hlen := s_len hi
  replace hown : s.vm.findClass RJ0 = some m.cls := hown
  have hS : va_S A s.heap s.heap [] := va_S.rf
  replace hP : va_P D gcl [] s.heap := hP
  replace hl : lv_has ls 1 [(0, .ref (adK i))] := hl
  refine va_gets (pc := 0) (v := .int 1) hx hb hF.2.2.1 hS hown (hts _ tw_561) (fun _ h9 => h9) dJ0_isLatin1_aae02_0 ?_
  refine b_if_eq (pc := 3) (tgt := 17) hx hb tI_1  dJ0_isLatin1_aae02_3 (by decide) (fun c_1 => absurd c_1 (by first | exact (om_26) | (omega))) (fun c_1 => ?_)
  refine lv_aload_n (pc := 6) hx hb dJ0_isLatin1_aae02_6 rfl (lv_at hl 0 rfl) ?_
  refine vk_getf (pc := 7) (v := .int 0) hx hb (hF.1.1 i hi).2.1 hS hown (hts _ tw_2111) (fun _ h9 => h9) dJ0_isLatin1_aae02_7 ?_
  refine b_if_ne (pc := 10) (tgt := 17) hx hb tI_0  dJ0_isLatin1_aae02_10 (by decide) (fun c_2 => absurd c_2 (by first | exact (om_27) | (omega))) (fun c_2 => ?_)
  refine lv_iconst (pc := 13) (v := 1) hx hb dJ0_isLatin1_aae02_13 (by decide) ?_
  refine lv_goto (pc := 14) (tgt := 18) hx hb dJ0_isLatin1_aae02_14 (by decide) ?_
  have k9 := tI_1
  exact hret 1 ((fun _ => 0), (fun _ => (fun _ => 0)), (fun _ => (fun _ => 0)), (fun _ => 0), (fun _ => 0)) dJ0_isLatin1_aae02_18 ⟨(Or.inr tI_1), ⟨(show (1 ≤ (1 : Int32).toInt ∧ (1 : Int32).toInt ≤ 1) from (n_c tI_1 (by decide))), (show (1 : Int32).toInt = 1 from (by first | exact (om_28 tI_1) | (have k9 := tI_1; omega)))⟩⟩ (g_psub (wc := []) hP [] rfl) (hD.sub (ws' := []) [] (by decide) rfl) hS
theorem om_29 {a b : Int} (h0 : (a ≥ 0)) (h1 : (a < b)) (h2 : (b ≤ 2147483647)) : ((0 ≤ a ∧ a ≤ 2147483646)) := by omega
set_option maxHeartbeats 4000000 in
set_option maxRecDepth 100000 in
theorem k_J3_checkIndex_8e157_n (l : Launch) (D : va_G) (cB cC cI cJ : ClassId) (sz : Nat) (x0 x1 : Int32) (hg__k : 0 ≤ x0.toInt ∧ x0.toInt < x1.toInt) : Met l yJ3_checkIndex_8e157 (.code yJ3_checkIndex_8e157 cJ3_checkIndex_8e157 3 (some .int) :: lw_gd) ({ frames := 0, cells := 0, slots := 0, locals := 0 }) (gPre D [(cB, .byte), (cC, .char), (cI, .int), (cJ, .long)] [.int x0, .int x1, .null] [] sz) (va_Qi (fun r u => (0 ≤ r.toInt ∧ r.toInt ≤ 2147483646)) (gB D (va_A [] sz) (fun u : gEx => [])) (va_A [] sz)) 0 0 (va_A [] sz) := by
  refine gOf_i (by decide +kernel) (Nat.le_of_ble_eq_true rfl) ?_
  intro p e s m args below meth c ls A Q hx hb hts hown hml hN hK hP hD hA hl hret
  replace hown : s.vm.findClass RJ3 = some m.cls := hown
  have hS : va_S A s.heap s.heap [] := va_S.rf
  replace hP : va_P D gcl [] s.heap := hP
  replace hl : lv_has ls 3 [(0, .int x0), (1, .int x1), (2, .null)] := hl
  have rx0 := n_rng x0
  have rx1 := n_rng x1
  refine lv_iload_n (pc := 0) hx hb dJ3_checkIndex_8e157_0 rfl (lv_at hl 0 rfl) ?_
  refine b_if_lt (pc := 1) (tgt := 9) hx hb rfl  dJ3_checkIndex_8e157_1 (by decide) (fun c_1 => ?_) (fun c_1 => ?_)
  ·
    exact False.elim (by omega)
  ·
    refine lv_iload_n (pc := 4) hx hb dJ3_checkIndex_8e157_4 rfl (lv_at hl 0 rfl) ?_
    refine lv_iload_n (pc := 5) hx hb dJ3_checkIndex_8e157_5 rfl (lv_at hl 1 rfl) ?_
    refine b_icmp_lt (pc := 6) (tgt := 16) hx hb rfl rfl  dJ3_checkIndex_8e157_6 (by decide) (fun c_2 => ?_) (fun c_2 => ?_)
    ·
      refine lv_iload_n (pc := 16) hx hb dJ3_checkIndex_8e157_16 rfl (lv_at hl 0 rfl) ?_
      exact hret x0 ((fun _ => 0), (fun _ => (fun _ => 0)), (fun _ => (fun _ => 0)), (fun _ => 0), (fun _ => 0)) dJ3_checkIndex_8e157_17 (show (0 ≤ x0.toInt ∧ x0.toInt ≤ 2147483646) from (by first | exact (om_29 c_1 c_2 rx1.2) | (omega))) (g_psub (wc := []) hP [] rfl) (hD.sub (ws' := []) [] (by decide) rfl) hS
    ·
      exact False.elim (by omega)
set_option maxHeartbeats 4000000 in
set_option maxRecDepth 100000 in
theorem k_J3_checkIndex_8e157 (l : Launch) (D : va_G) (cB cC cI cJ : ClassId) (sz : Nat) (a0 : Nat) (x0 x1 : Int32) (hg__k : 0 ≤ x0.toInt ∧ x0.toInt < x1.toInt) : Met l yJ3_checkIndex_8e157 (.code yJ3_checkIndex_8e157 cJ3_checkIndex_8e157 3 (some .int) :: lw_gd) ({ frames := 0, cells := 0, slots := 0, locals := 0 }) (gPre D [(cB, .byte), (cC, .char), (cI, .int), (cJ, .long)] [.int x0, .int x1, .ref a0] [] sz) (va_Qi (fun r u => (0 ≤ r.toInt ∧ r.toInt ≤ 2147483646)) (gB D (va_A [] sz) (fun u : gEx => [])) (va_A [] sz)) 0 0 (va_A [] sz) := by
  refine gOf_i (by decide +kernel) (Nat.le_of_ble_eq_true rfl) ?_
  intro p e s m args below meth c ls A Q hx hb hts hown hml hN hK hP hD hA hl hret
  replace hown : s.vm.findClass RJ3 = some m.cls := hown
  have hS : va_S A s.heap s.heap [] := va_S.rf
  replace hP : va_P D gcl [] s.heap := hP
  replace hl : lv_has ls 3 [(0, .int x0), (1, .int x1), (2, .ref a0)] := hl
  have rx0 := n_rng x0
  have rx1 := n_rng x1
  refine lv_iload_n (pc := 0) hx hb dJ3_checkIndex_8e157_0 rfl (lv_at hl 0 rfl) ?_
  refine b_if_lt (pc := 1) (tgt := 9) hx hb rfl  dJ3_checkIndex_8e157_1 (by decide) (fun c_1 => ?_) (fun c_1 => ?_)
  ·
    exact False.elim (by omega)
  ·
    refine lv_iload_n (pc := 4) hx hb dJ3_checkIndex_8e157_4 rfl (lv_at hl 0 rfl) ?_
    refine lv_iload_n (pc := 5) hx hb dJ3_checkIndex_8e157_5 rfl (lv_at hl 1 rfl) ?_
    refine b_icmp_lt (pc := 6) (tgt := 16) hx hb rfl rfl  dJ3_checkIndex_8e157_6 (by decide) (fun c_2 => ?_) (fun c_2 => ?_)
    ·
      refine lv_iload_n (pc := 16) hx hb dJ3_checkIndex_8e157_16 rfl (lv_at hl 0 rfl) ?_
      exact hret x0 ((fun _ => 0), (fun _ => (fun _ => 0)), (fun _ => (fun _ => 0)), (fun _ => 0), (fun _ => 0)) dJ3_checkIndex_8e157_17 (show (0 ≤ x0.toInt ∧ x0.toInt ≤ 2147483646) from (by first | exact (om_29 c_1 c_2 rx1.2) | (omega))) (g_psub (wc := []) hP [] rfl) (hD.sub (ws' := []) [] (by decide) rfl) hS
    ·
      exact False.elim (by omega)
set_option maxHeartbeats 4000000 in
set_option maxRecDepth 100000 in
theorem k_J0_checkIndex_df160 (l : Launch) (D : va_G) (cB cC cI cJ : ClassId) (sz : Nat) (adK adV : Nat → Nat) (x0 x1 : Int32) (hg__k : 0 ≤ x0.toInt ∧ x0.toInt < x1.toInt) : Met l yJ0_checkIndex_df160 (.code yJ0_checkIndex_df160 cJ0_checkIndex_df160 2 none :: lw_gd) ({ frames := 1, cells := 0, slots := 0, locals := 22 }) (gPreT D [(cB, .byte), (cC, .char), (cI, .int), (cJ, .long)] [.int x0, .int x1] [] sz adK adV) (va_Qv (fun u => True) (gB D (va_A [] sz) (fun u : gEx => [])) (va_A [] sz)) 0 0 (va_A [] sz) := by
  refine gOfT_v (by decide +kernel) (Nat.le_of_ble_eq_true rfl) ?_
  intro p e s m args below meth c ls A Q hx hb hts hown hml hN hK hP hD hA hl hF hret
  replace hown : s.vm.findClass RJ0 = some m.cls := hown
  have hS : va_S A s.heap s.heap [] := va_S.rf
  replace hP : va_P D gcl [] s.heap := hP
  replace hl : lv_has ls 2 [(0, .int x0), (1, .int x1)] := hl
  have rx0 := n_rng x0
  have rx1 := n_rng x1
  refine lv_iload_n (pc := 0) hx hb dJ0_checkIndex_df160_0 rfl (lv_at hl 0 rfl) ?_
  refine lv_iload_n (pc := 1) hx hb dJ0_checkIndex_df160_1 rfl (lv_at hl 1 rfl) ?_
  rcases hF.2.2.2 with hz_1 | ⟨zt_2, hz_1⟩
  ·
    refine va_gets (pc := 2) (v := .null) hx hb hz_1 hS hown (hts _ tw_577) (fun _ h9 => h9) dJ0_checkIndex_df160_2 ?_
    refine gd_i (pc := 5) (wc := []) hP hD hS hA [] rfl (by decide +kernel) (fun _ => by rfl) (fun hPc hDc => va_runS (As := [.int x0, .int x1, .null]) (rest := []) ⟨hx, hb, hml, hown, hts⟩ (k_J3_checkIndex_8e157_n l D cB cC cI cJ _ x0 x1 hg__k) ⟨gcwB hts tw_581 tw_17 tw_579 hd_yJ3_checkIndex_8e157 ⟨Nat.le_of_ble_eq_true rfl, Nat.le_of_ble_eq_true rfl⟩, hts _ tw_580⟩ (gpreS hPc hK hDc hN) rfl rfl hl.1 rfl (lv_room (Nat.le_of_ble_eq_true rfl)) dJ0_checkIndex_df160_5 ⟨Nat.le_of_ble_eq_true rfl, Nat.le_of_ble_eq_true rfl⟩) (fun r_4 u_3 H locs hw_5 hP hD hS => ?_)
    replace hP : va_P D gcl [] H := hP
    replace hD : va_D A [] := hD
    have hw_6 : (0 ≤ r_4.toInt ∧ r_4.toInt ≤ 2147483646) := hw_5
    have rr_4 := n_rng r_4
    refine lv_pop (pc := 8) hx hb dJ0_checkIndex_df160_8 rfl ?_
    exact hret ((fun _ => 0), (fun _ => (fun _ => 0)), (fun _ => (fun _ => 0)), (fun _ => 0), (fun _ => 0)) dJ0_checkIndex_df160_9 trivial (g_psub (wc := []) hP [] rfl) (hD.sub (ws' := []) [] (by decide) rfl) hS
  ·
    refine va_gets (pc := 2) (v := .ref zt_2) hx hb hz_1 hS hown (hts _ tw_577) (fun _ h9 => h9) dJ0_checkIndex_df160_2 ?_
    refine gd_i (pc := 5) (wc := []) hP hD hS hA [] rfl (by decide +kernel) (fun _ => by rfl) (fun hPc hDc => va_runS (As := [.int x0, .int x1, .ref zt_2]) (rest := []) ⟨hx, hb, hml, hown, hts⟩ (k_J3_checkIndex_8e157 l D cB cC cI cJ _ zt_2 x0 x1 hg__k) ⟨gcwB hts tw_581 tw_17 tw_579 hd_yJ3_checkIndex_8e157 ⟨Nat.le_of_ble_eq_true rfl, Nat.le_of_ble_eq_true rfl⟩, hts _ tw_580⟩ (gpreS hPc hK hDc hN) rfl rfl hl.1 rfl (lv_room (Nat.le_of_ble_eq_true rfl)) dJ0_checkIndex_df160_5 ⟨Nat.le_of_ble_eq_true rfl, Nat.le_of_ble_eq_true rfl⟩) (fun r_8 u_7 H locs hw_9 hP hD hS => ?_)
    replace hP : va_P D gcl [] H := hP
    replace hD : va_D A [] := hD
    have hw_10 : (0 ≤ r_8.toInt ∧ r_8.toInt ≤ 2147483646) := hw_9
    have rr_8 := n_rng r_8
    refine lv_pop (pc := 8) hx hb dJ0_checkIndex_df160_8 rfl ?_
    exact hret ((fun _ => 0), (fun _ => (fun _ => 0)), (fun _ => (fun _ => 0)), (fun _ => 0), (fun _ => 0)) dJ0_checkIndex_df160_9 trivial (g_psub (wc := []) hP [] rfl) (hD.sub (ws' := []) [] (by decide) rfl) hS
set_option maxHeartbeats 4000000 in
set_option maxRecDepth 100000 in
theorem k_J1_charAt_3b067 (l : Launch) (D : va_G) (cB cC cI cJ : ClassId) (sz : Nat) (adK adV : Nat → Nat) (i : Nat) (hi : i < 15) (x0 : Int32) (hg__k : 0 ≤ x0.toInt ∧ x0.toInt < ((lenS.getD i 0 : Nat) : Int)) : Met l yJ1_charAt_3b067 (.code yJ1_charAt_3b067 cJ1_charAt_3b067 2 (some .char) :: lw_gd) ({ frames := 2, cells := 0, slots := 0, locals := 43 }) (gPreT D [(cB, .byte), (cC, .char), (cI, .int), (cJ, .long)] [.ref (adV i), .int x0] [] sz adK adV) (va_Qi (fun r u => (narrow .char (.int r) = (.int r : Value)) ∧ (r.toInt = (wL.getD i []).getD (x0.toInt).toNat 0)) (gB D (va_A [] sz) (fun u : gEx => [])) (va_A [] sz)) 0 0 (va_A [] sz) := by
  refine gOfT_c (by decide +kernel) (Nat.le_of_ble_eq_true rfl) ?_
  intro p e s m args below meth c ls A Q hx hb hts hown hml hN hK hP hD hA hl hF hret
  have hlen := s_len hi
  replace hown : s.vm.findClass RJ1 = some m.cls := hown
  have hS : va_S A s.heap s.heap [] := va_S.rf
  replace hP : va_P D gcl [] s.heap := hP
  replace hl : lv_has ls 2 [(0, .ref (adV i)), (1, .int x0)] := hl
  have rx0 := n_rng x0
  refine lv_iload_n (pc := 0) hx hb dJ1_charAt_3b067_0 rfl (lv_at hl 1 rfl) ?_
  refine lv_aload_n (pc := 1) hx hb dJ1_charAt_3b067_1 rfl (lv_at hl 0 rfl) ?_
  refine va_tlen (pc := 2) hx hb (hF.1.1 i hi).2.2.2 hS rfl dJ1_charAt_3b067_2 ?_
  refine gd_v (pc := 3) (wc := []) hP hD hS hA [] rfl (by decide +kernel) (fun _ => by rfl) (fun hPc hDc => va_runS (As := [.int x0, .int (Int32.ofNat (lenS.getD i 0))]) (rest := []) ⟨hx, hb, hml, hown, hts⟩ (k_J0_checkIndex_df160 l D cB cC cI cJ _ adK adV x0 (Int32.ofNat (lenS.getD i 0)) (by omega)) ⟨gcwB hts tw_576 tw_15 tw_574 hd_yJ0_checkIndex_df160 ⟨Nat.le_of_ble_eq_true rfl, Nat.le_of_ble_eq_true rfl⟩, hts _ tw_575⟩ (gpreT hPc hK hDc hN hF hS (va_free (wc := []) hD hS hA [] rfl)) rfl rfl hl.1 rfl (lv_room (Nat.le_of_ble_eq_true rfl)) dJ1_charAt_3b067_3 ⟨Nat.le_of_ble_eq_true rfl, Nat.le_of_ble_eq_true rfl⟩) (fun u_1 H locs hw_3 hP hD hS => ?_)
  replace hP : va_P D gcl [] H := hP
  replace hD : va_D A [] := hD
  refine lv_aload_n (pc := 6) hx hb dJ1_charAt_3b067_6 rfl (lv_at hl 0 rfl) ?_
  refine lv_iload_n (pc := 7) hx hb dJ1_charAt_3b067_7 rfl (lv_at hl 1 rfl) ?_
  refine va_tb (pc := 8) hx hb (hF.1.1 i hi).2.2.2 hS (n_in rfl (by omega) (by omega)) rfl dJ1_charAt_3b067_8 ?_
  refine lv_sipush (pc := 9) (v := 255) hx hb dJ1_charAt_3b067_9 (by decide) ?_
  refine lv_iand (pc := 12) hx hb dJ1_charAt_3b067_12 ?_
  refine lv_i2c (pc := 13) hx hb dJ1_charAt_3b067_13 rfl ?_
  refine lv_topi (fun x_4 ex_4 => ?_)
  have rx_4 := n_rng x_4
  have nrx_4 : narrow .char (.int x_4) = .int x_4 := (by rw [ex_4]; exact s_nar hi (show x0.toInt.toNat < 6 by omega))
  exact hret x_4 ((fun _ => 0), (fun _ => (fun _ => 0)), (fun _ => (fun _ => 0)), (fun _ => 0), (fun _ => 0)) dJ1_charAt_3b067_14 ⟨nrx_4, ⟨(show narrow .char (.int x_4) = (.int x_4 : Value) from nrx_4), (show x_4.toInt = (wL.getD i []).getD (x0.toInt).toNat 0 from (s_ch hi (show (x0.toInt).toNat < 6 by omega) ex_4))⟩⟩ (g_psub (wc := []) hP [] rfl) (hD.sub (ws' := []) [] (by decide) rfl) hS
theorem om_30 {a : Int} (h0 : (a = 1)) : (¬ (a = 0)) := by omega
set_option maxHeartbeats 4000000 in
set_option maxRecDepth 100000 in
theorem k_J0_charAt_5068e (l : Launch) (D : va_G) (cB cC cI cJ : ClassId) (sz : Nat) (adK adV : Nat → Nat) (i : Nat) (hi : i < 15) (x0 : Int32) (hg__k : 0 ≤ x0.toInt ∧ x0.toInt < ((lenS.getD i 0 : Nat) : Int)) : Met l yJ0_charAt_5068e (.code yJ0_charAt_5068e cJ0_charAt_5068e 2 (some .char) :: lw_gd) ({ frames := 3, cells := 0, slots := 0, locals := 64 }) (gPreT D [(cB, .byte), (cC, .char), (cI, .int), (cJ, .long)] [.ref (adK i), .int x0] [] sz adK adV) (va_Qi (fun r u => (r.toInt = (wL.getD i []).getD (x0.toInt).toNat 0)) (gB D (va_A [] sz) (fun u : gEx => [])) (va_A [] sz)) 0 0 (va_A [] sz) := by
  refine gOfT_c (by decide +kernel) (Nat.le_of_ble_eq_true rfl) ?_
  intro p e s m args below meth c ls A Q hx hb hts hown hml hN hK hP hD hA hl hF hret
  have hlen := s_len hi
  replace hown : s.vm.findClass RJ0 = some m.cls := hown
  have hS : va_S A s.heap s.heap [] := va_S.rf
  replace hP : va_P D gcl [] s.heap := hP
  replace hl : lv_has ls 2 [(0, .ref (adK i)), (1, .int x0)] := hl
  have rx0 := n_rng x0
  refine lv_aload_n (pc := 0) hx hb dJ0_charAt_5068e_0 rfl (lv_at hl 0 rfl) ?_
  refine gd_i (pc := 1) (wc := []) hP hD hS hA [] rfl (by decide +kernel) (fun _ => by rfl) (fun hPc hDc => va_runV (As := []) (rest := []) ⟨hx, hb, hml, hown, hts⟩ (k_J0_isLatin1_aae02 l D cB cC cI cJ _ adK adV i hi) ⟨gcwB hts tw_570 tw_15 tw_567 hd_yJ0_isLatin1_aae02 ⟨Nat.le_of_ble_eq_true rfl, Nat.le_of_ble_eq_true rfl⟩, hts _ tw_568, hts _ tw_569⟩ ⟨gblindT, vk_recv hF.1 hi hS, (gpreT hPc hK hDc hN hF hS (va_free (wc := []) hD hS hA [] rfl)).2⟩ rfl rfl hl.1 rfl (lv_room (Nat.le_of_ble_eq_true rfl)) dJ0_charAt_5068e_1 ⟨Nat.le_of_ble_eq_true rfl, Nat.le_of_ble_eq_true rfl⟩) (fun r_2 u_1 H locs hw_3 hP hD hS => ?_)
  replace hP : va_P D gcl [] H := hP
  replace hD : va_D A [] := hD
  obtain ⟨hw_4, hw_5⟩ := hw_3
  replace hw_4 : (1 ≤ r_2.toInt ∧ r_2.toInt ≤ 1) := hw_4
  replace hw_5 : (r_2.toInt = 1) := hw_5
  have rr_2 := n_rng r_2
  refine b_if_eq (pc := 4) (tgt := 16) hx hb rfl  dJ0_charAt_5068e_4 (by decide) (fun c_6 => absurd c_6 (by first | exact (om_30 hw_5) | (omega))) (fun c_6 => ?_)
  refine lv_aload_n (pc := 7) hx hb dJ0_charAt_5068e_7 rfl (lv_at hl 0 rfl) ?_
  refine vk_getf (pc := 8) (v := .ref (adV i)) hx hb (hF.1.1 i hi).2.2.1 hS hown (hts _ tw_2110) (fun _ h9 => h9) dJ0_charAt_5068e_8 ?_
  refine lv_iload_n (pc := 11) hx hb dJ0_charAt_5068e_11 rfl (lv_at hl 1 rfl) ?_
  refine gd_i (pc := 12) (wc := []) hP hD hS hA [] rfl (by decide +kernel) (fun _ => by rfl) (fun hPc hDc => va_runS (As := [.ref (adV i), .int x0]) (rest := []) ⟨hx, hb, hml, hown, hts⟩ (k_J1_charAt_3b067 l D cB cC cI cJ _ adK adV i hi x0 hg__k) ⟨gcwB hts tw_573 tw_16 tw_571 hd_yJ1_charAt_3b067 ⟨Nat.le_of_ble_eq_true rfl, Nat.le_of_ble_eq_true rfl⟩, hts _ tw_572⟩ (gpreT hPc hK hDc hN hF hS (va_free (wc := []) hD hS hA [] rfl)) rfl rfl hl.1 rfl (lv_room (Nat.le_of_ble_eq_true rfl)) dJ0_charAt_5068e_12 ⟨Nat.le_of_ble_eq_true rfl, Nat.le_of_ble_eq_true rfl⟩) (fun r_8 u_7 H locs hw_9 hP hD hS => ?_)
  replace hP : va_P D gcl [] H := hP
  replace hD : va_D A [] := hD
  obtain ⟨hw_10, hw_11⟩ := hw_9
  replace hw_10 : (narrow .char (.int r_8) = (.int r_8 : Value)) := hw_10
  replace hw_11 : (r_8.toInt = (wL.getD i []).getD (x0.toInt).toNat 0) := hw_11
  have rr_8 := n_rng r_8
  exact hret r_8 ((fun _ => 0), (fun _ => (fun _ => 0)), (fun _ => (fun _ => 0)), (fun _ => 0), (fun _ => 0)) dJ0_charAt_5068e_15 ⟨hw_10, (show r_8.toInt = (wL.getD i []).getD (x0.toInt).toNat 0 from hw_11)⟩ (g_psub (wc := []) hP [] rfl) (hD.sub (ws' := []) [] (by decide) rfl) hS
theorem om_31 {a : Int} (h0 : (a = 0)) : (a = 0) := by omega
theorem om_32 {a b : Int} (h0 : ((-2147483648) ≤ b)) (h1 : (0 ≤ a)) : (-2147483648 ≤ a + b) := by omega
theorem om_33 {a b : Int} (h0 : (b ≤ 6)) (h1 : (a ≤ 1600)) : (a + b ≤ 2147483647) := by omega
theorem om_34 {a : Int} (h0 : (¬ a = 0)) : (¬ a = 0) := by omega
theorem om_35 {a b : Int} (h0 : ((b = 0 ∧ a < 97) ∨ (b = 0 ∧ a ≥ 97 ∧ a > 122) ∨ (b = 1 ∧ a ≥ 97 ∧ a ≤ 122))) (h1 : (b = 0)) : (¬ (97 ≤ a ∧ a ≤ 122)) := by omega
theorem om_36 {a : Int} (h0 : (a = 1)) : (¬ a = 0) := by omega
theorem om_37 {a b : Int} (h0 : (0 ≤ b)) (h1 : (0 ≤ a)) : (-2147483648 ≤ a + b) := by omega
theorem om_38 {a : Int} (h0 : (a ≤ 6)) : (a + 1 ≤ 2147483647) := by omega
theorem om_39 {a b c : Int} (h0 : (a = b + 1)) (h1 : (0 ≤ b)) (h2 : (b < c)) (h3 : (c ≤ 6)) : ((0 ≤ a ∧ a ≤ 6)) := by omega
theorem om_40 {a b c : Int} (h0 : (a = c + 1)) (h1 : (c < b)) : ((a ≤ b)) := by omega
theorem om_41 {a b : Int} (h0 : (a = b)) : (a = b) := by omega
theorem om_42 {a b : Int} (h0 : (0 ≤ b)) (h1 : (a = 0)) : ((a ≤ b)) := by omega
theorem om_43 {a : Int} (h0 : (a = 0)) : (a ≤ 0) := by omega
set_option maxHeartbeats 4000000 in
set_option maxRecDepth 100000 in
theorem k_X4_isWordAhead (l : Launch) (D : va_G) (cB cC cI cJ : ClassId) (sz : Nat) (adK adV : Nat → Nat) (i : Nat) (hi : i < 15) (a0 a1 a2 a3 : Nat) (x0 x1 x2 x3 x4 x5 x6 : Int32) (f0 : Nat → Int32) (h_x0 : (0 ≤ x0.toInt ∧ x0.toInt ≤ 1600)) (h_x1 : ((-1) ≤ x1.toInt ∧ x1.toInt ≤ 255)) (h_x2 : (0 ≤ x2.toInt ∧ x2.toInt ≤ 1600)) (h_x4 : (0 ≤ x4.toInt ∧ x4.toInt ≤ 4)) (h_x5 : ((-1) ≤ x5.toInt ∧ x5.toInt ≤ 1600)) (h_x6 : (0 ≤ x6.toInt ∧ x6.toInt ≤ 1600)) : Met l yX4_isWordAhead (.code yX4_isWordAhead cX4_isWordAhead 4 (some .boolean) :: lw_gd) ({ frames := 4, cells := 0, slots := 0, locals := 85 }) (gPreT D [(cB, .byte), (cC, .char), (cI, .int), (cJ, .long)] [.ref a0, .ref (adK i)] (zS_1 cB cC cI cJ a0 a1 a2 x0 x1 x2 x3 x4 x5 a1 a3 x6 a3 f0) sz adK adV) (va_Qi (fun r u => (0 ≤ r.toInt ∧ r.toInt ≤ 1) ∧ (waQ (taub f0 x6.toInt) x0.toInt x1.toInt (wL.getD i []) r.toInt)) (gB D (va_A (zS_1 cB cC cI cJ a0 a1 a2 x0 x1 x2 x3 x4 x5 a1 a3 x6 a3 f0) sz) (fun u : gEx => (zS_1 cB cC cI cJ a0 a1 a2 x0 x1 x2 x3 x4 x5 a1 a3 x6 a3 f0))) (va_A (zS_1 cB cC cI cJ a0 a1 a2 x0 x1 x2 x3 x4 x5 a1 a3 x6 a3 f0) sz)) 0 0 (va_A (zS_1 cB cC cI cJ a0 a1 a2 x0 x1 x2 x3 x4 x5 a1 a3 x6 a3 f0) sz) := by
  refine gOfT_z (by decide +kernel) (Nat.le_of_ble_eq_true rfl) ?_
  intro p e s m args below meth c ls A Q hx hb hts hown hml hN hK hP hD hA hl hF hret
  have hlen := s_len hi
  replace hown : s.vm.findClass RX4 = some m.cls := hown
  have hS : va_S A s.heap s.heap [] := va_S.rf
  replace hP : va_P D gcl (zS_1 cB cC cI cJ a0 a1 a2 x0 x1 x2 x3 x4 x5 a1 a3 x6 a3 f0) s.heap := hP
  replace hl : lv_has ls 4 [(0, .ref a0), (1, .ref (adK i))] := hl
  have rx3 := n_rng x3
  refine lv_aload_n (pc := 0) hx hb dX4_isWordAhead_0 rfl (lv_at hl 1 rfl) ?_
  refine gd_i (pc := 1) (wc := []) hP hD hS hA [] rfl (by decide +kernel) (fun _ => by rfl) (fun hPc hDc => va_runV (As := []) (rest := []) ⟨hx, hb, hml, hown, hts⟩ (k_J0_length_8abf5 l D cB cC cI cJ _ adK adV i hi) ⟨gcwB hts tw_556 tw_15 tw_553 hd_yJ0_length_8abf5 ⟨Nat.le_of_ble_eq_true rfl, Nat.le_of_ble_eq_true rfl⟩, hts _ tw_554, hts _ tw_555⟩ ⟨gblindT, vk_recv hF.1 hi hS, (gpreT hPc hK hDc hN hF hS (va_free (wc := []) hD hS hA [] rfl)).2⟩ rfl rfl hl.1 rfl (lv_room (Nat.le_of_ble_eq_true rfl)) dX4_isWordAhead_1 ⟨Nat.le_of_ble_eq_true rfl, Nat.le_of_ble_eq_true rfl⟩) (fun r_2 u_1 H locs hw_3 hP hD hS => ?_)
  replace hP : va_P D gcl (zS_1 cB cC cI cJ a0 a1 a2 x0 x1 x2 x3 x4 x5 a1 a3 x6 a3 f0) H := hP
  replace hD : va_D A (zS_1 cB cC cI cJ a0 a1 a2 x0 x1 x2 x3 x4 x5 a1 a3 x6 a3 f0) := hD
  obtain ⟨hw_4, hw_5⟩ := hw_3
  replace hw_4 : (0 ≤ r_2.toInt ∧ r_2.toInt ≤ 6) := hw_4
  replace hw_5 : (r_2.toInt = ((lenS.getD i 0 : Nat) : Int)) := hw_5
  have rr_2 := n_rng r_2
  refine lv_istore_n (pc := 4) (lv' := [(2, .int r_2), (0, .ref a0), (1, .ref (adK i))]) hx hb dX4_isWordAhead_4 rfl hl (by decide) rfl (fun ls hl => ?_)
  refine lv_iconst (pc := 5) (v := 0) hx hb dX4_isWordAhead_5 (by decide) ?_
  refine lv_istore_n (pc := 6) (lv' := [(3, .int 0), (2, .int r_2), (0, .ref a0), (1, .ref (adK i))]) hx hb dX4_isWordAhead_6 rfl hl (by decide) rfl (fun ls hl => ?_)
  have lp_10 : ∀ (n : Nat) (x_6 : Int32) (H : Heap) (locs : List Loc) (ls : Array Slot), (0 ≤ x_6.toInt ∧ x_6.toInt ≤ 6) → (x_6.toInt ≤ r_2.toInt) → (mtk (taub f0 x6.toInt) x0.toInt (wL.getD i []) x_6.toInt) → (2147483647 - x_6.toInt).toNat < n → va_P D gcl (zS_1 cB cC cI cJ a0 a1 a2 x0 x1 x2 x3 x4 x5 a1 a3 x6 a3 f0) H → va_D A (zS_1 cB cC cI cJ a0 a1 a2 x0 x1 x2 x3 x4 x5 a1 a3 x6 a3 f0) → va_S A s.heap H locs → lv_has ls 4 [(3, .int x_6), (2, .int r_2), (0, .ref a0), (1, .ref (adK i))] → W p l e ({ frames := 4, cells := 0, slots := 0, locals := 85 }) s m args below meth c H locs 0 0 Q (F0 m 7 ls []) := by
    intro n
    induction n with
    | zero => intro x_6 H locs ls hi_7 hi_8 hi_9 hmu; exact absurd hmu (Nat.not_lt_zero _)
    | succ n ih_lp_10 =>
      intro x_6 H locs ls hi_7 hi_8 hi_9 hmu_lp_10 hP hD hS hl
      refine lv_iload_n (pc := 7) hx hb dX4_isWordAhead_7 rfl (lv_at hl 0 rfl) ?_
      refine lv_iload_n (pc := 8) hx hb dX4_isWordAhead_8 rfl (lv_at hl 1 rfl) ?_
      refine b_icmp_ge (pc := 9) (tgt := 41) hx hb rfl rfl  dX4_isWordAhead_9 (by decide) (fun c_11 => ?_) (fun c_11 => ?_)
      ·
        refine lv_aload_n (pc := 41) hx hb dX4_isWordAhead_41 rfl (lv_at hl 2 rfl) ?_
        refine va_get (pc := 42) (ci := 4) (v := .int x1) (C := RX4) (T := TX4) (N := 8) hx hb hts iX4 hown hK hP 0 rfl rfl 3 (by decide) (hts _ tw_171) (fun _ h9 => h9) rfl dX4_isWordAhead_42 ?_
        refine b_if_eq (pc := 45) (tgt := 71) hx hb rfl  dX4_isWordAhead_45 (by decide) (fun c_12 => ?_) (fun c_12 => ?_)
        ·
          refine lv_iconst (pc := 71) (v := 0) hx hb dX4_isWordAhead_71 (by decide) ?_
          have k9 := tI_0
          exact hret 0 ((fun _ => 0), (fun _ => (fun _ => 0)), (fun _ => (fun _ => 0)), (fun _ => 0), (fun _ => 0)) dX4_isWordAhead_72 ⟨(Or.inl tI_0), ⟨(show (0 ≤ (0 : Int32).toInt ∧ (0 : Int32).toInt ≤ 1) from (n_c tI_0 (by decide))), (show waQ (taub f0 x6.toInt) x0.toInt x1.toInt (wL.getD i []) (0 : Int32).toInt from wa_no0 (by first | exact (om_31 c_12) | (omega)) (by first | exact (om_31 tI_0) | (omega)))⟩⟩ (g_psub (wc := (zS_1 cB cC cI cJ a0 a1 a2 x0 x1 x2 x3 x4 x5 a1 a3 x6 a3 f0)) hP [0, 1, 2] rfl) (hD.sub (ws' := (zS_1 cB cC cI cJ a0 a1 a2 x0 x1 x2 x3 x4 x5 a1 a3 x6 a3 f0)) [0, 1, 2] (by decide) rfl) hS
        ·
          refine lv_aload_n (pc := 48) hx hb dX4_isWordAhead_48 rfl (lv_at hl 2 rfl) ?_
          refine va_get (pc := 49) (ci := 4) (v := .ref a1) (C := RX4) (T := TX4) (N := 8) hx hb hts iX4 hown hK hP 0 rfl rfl 0 (by decide) (hts _ tw_167) (fun _ h9 => h9) rfl dX4_isWordAhead_49 ?_
          refine lv_aload_n (pc := 52) hx hb dX4_isWordAhead_52 rfl (lv_at hl 2 rfl) ?_
          refine va_get (pc := 53) (ci := 4) (v := .int x0) (C := RX4) (T := TX4) (N := 8) hx hb hts iX4 hown hK hP 0 rfl rfl 2 (by decide) (hts _ tw_170) (fun _ h9 => h9) rfl dX4_isWordAhead_53 ?_
          refine lv_iload_n (pc := 56) hx hb dX4_isWordAhead_56 rfl (lv_at hl 1 rfl) ?_
          refine b_iadd (pc := 57) hx hb rfl rfl (by first | exact (om_32 rr_2.1 h_x0.1) | (omega)) (by first | exact (om_33 hw_4.2 h_x0.2) | (omega)) dX4_isWordAhead_57 (fun x_13 ex_13 => ?_)
          refine gd_i (pc := 58) (wc := [(a1, .inr (9, [.ref a3, .int x6])), (a3, .inl (cB, 1600, .inl f0))]) hP hD hS hA [1, 2] rfl (by decide +kernel) (fun _ => by rfl) (fun hPc hDc => va_runV (As := [.int x_13]) (rest := []) ⟨hx, hb, hml, hown, hts⟩ (k_X9_at_E l D cB cC cI cJ _ a1 a3 x_13 x6 f0 h_x6) ⟨gcwB hts tw_518 tw_3 tw_515 hd_yX9_at ⟨Nat.le_of_ble_eq_true rfl, Nat.le_of_ble_eq_true rfl⟩, hts _ tw_516, hts _ tw_517⟩ ⟨gblind, va_recv hK hPc (ci := 9) (q0 := 0) rfl rfl, (gpreS hPc hK hDc hN).2⟩ rfl rfl hl.1 rfl (lv_room (Nat.le_of_ble_eq_true rfl)) dX4_isWordAhead_58 ⟨Nat.le_of_ble_eq_true rfl, Nat.le_of_ble_eq_true rfl⟩) (fun r_15 u_14 H locs hw_16 hP hD hS => ?_)
          replace hP : va_P D gcl (zS_1 cB cC cI cJ a0 a1 a2 x0 x1 x2 x3 x4 x5 a1 a3 x6 a3 f0) H := hP
          replace hD : va_D A (zS_1 cB cC cI cJ a0 a1 a2 x0 x1 x2 x3 x4 x5 a1 a3 x6 a3 f0) := hD
          obtain ⟨hw_17, hw_18⟩ := hw_16
          replace hw_17 : ((r_15.toInt = (-1) ∧ x_13.toInt < 0) ∨ (r_15.toInt = (-1) ∧ x_13.toInt ≥ 0 ∧ x_13.toInt ≥ x6.toInt) ∨ ((0 ≤ r_15.toInt ∧ r_15.toInt ≤ 255) ∧ x_13.toInt ≥ 0 ∧ x_13.toInt < x6.toInt)) := hw_17
          replace hw_18 : (r_15.toInt = taub f0 x6.toInt x_13.toInt) := hw_18
          have rr_15 := n_rng r_15
          refine gd_i (pc := 61) (wc := []) hP hD hS hA [] rfl (by decide +kernel) (fun _ => by rfl) (fun hPc hDc => va_runS (As := [.int r_15]) (rest := []) ⟨hx, hb, hml, hown, hts⟩ (k_X4_isSmall l D cB cC cI cJ _ r_15) ⟨gcwB hts tw_524 tw_2 tw_522 hd_yX4_isSmall ⟨Nat.le_of_ble_eq_true rfl, Nat.le_of_ble_eq_true rfl⟩, hts _ tw_523⟩ (gpreS hPc hK hDc hN) rfl rfl hl.1 rfl (lv_room (Nat.le_of_ble_eq_true rfl)) dX4_isWordAhead_61 ⟨Nat.le_of_ble_eq_true rfl, Nat.le_of_ble_eq_true rfl⟩) (fun r_20 u_19 H locs hw_21 hP hD hS => ?_)
          replace hP : va_P D gcl (zS_1 cB cC cI cJ a0 a1 a2 x0 x1 x2 x3 x4 x5 a1 a3 x6 a3 f0) H := hP
          replace hD : va_D A (zS_1 cB cC cI cJ a0 a1 a2 x0 x1 x2 x3 x4 x5 a1 a3 x6 a3 f0) := hD
          have hw_22 : ((r_20.toInt = 0 ∧ r_15.toInt < 97) ∨ (r_20.toInt = 0 ∧ r_15.toInt ≥ 97 ∧ r_15.toInt > 122) ∨ (r_20.toInt = 1 ∧ r_15.toInt ≥ 97 ∧ r_15.toInt ≤ 122)) := hw_21
          have rr_20 := n_rng r_20
          refine b_if_ne (pc := 64) (tgt := 71) hx hb rfl  dX4_isWordAhead_64 (by decide) (fun c_23 => ?_) (fun c_23 => ?_)
          ·
            refine lv_iconst (pc := 71) (v := 0) hx hb dX4_isWordAhead_71 (by decide) ?_
            have k9 := tI_0
            exact hret 0 ((fun _ => 0), (fun _ => (fun _ => 0)), (fun _ => (fun _ => 0)), (fun _ => 0), (fun _ => 0)) dX4_isWordAhead_72 ⟨(Or.inl tI_0), ⟨(show (0 ≤ (0 : Int32).toInt ∧ (0 : Int32).toInt ≤ 1) from (n_c tI_0 (by decide))), (show waQ (taub f0 x6.toInt) x0.toInt x1.toInt (wL.getD i []) (0 : Int32).toInt from wa_more (n := r_2.toInt) (by have q := s_wl hi; omega) (show _ = x0.toInt + r_2.toInt by omega) hw_18 (by first | exact (om_31 tI_0) | (omega)) (by omega))⟩⟩ (g_psub (wc := (zS_1 cB cC cI cJ a0 a1 a2 x0 x1 x2 x3 x4 x5 a1 a3 x6 a3 f0)) hP [0, 1, 2] rfl) (hD.sub (ws' := (zS_1 cB cC cI cJ a0 a1 a2 x0 x1 x2 x3 x4 x5 a1 a3 x6 a3 f0)) [0, 1, 2] (by decide) rfl) hS
          ·
            refine lv_iconst (pc := 67) (v := 1) hx hb dX4_isWordAhead_67 (by decide) ?_
            refine lv_goto (pc := 68) (tgt := 72) hx hb dX4_isWordAhead_68 (by decide) ?_
            have k9 := tI_1
            exact hret 1 ((fun _ => 0), (fun _ => (fun _ => 0)), (fun _ => (fun _ => 0)), (fun _ => 0), (fun _ => 0)) dX4_isWordAhead_72 ⟨(Or.inr tI_1), ⟨(show (0 ≤ (1 : Int32).toInt ∧ (1 : Int32).toInt ≤ 1) from (n_c tI_1 (by decide))), (show waQ (taub f0 x6.toInt) x0.toInt x1.toInt (wL.getD i []) (1 : Int32).toInt from wa_yes hi_9 (by have q := s_wl hi; omega) (by first | exact (om_34 c_12) | (omega)) (show _ = x0.toInt + x_6.toInt by omega) hw_18 (by first | exact (om_35 hw_22 c_23) | (omega)) (by first | exact (om_36 tI_1) | (omega)))⟩⟩ (g_psub (wc := (zS_1 cB cC cI cJ a0 a1 a2 x0 x1 x2 x3 x4 x5 a1 a3 x6 a3 f0)) hP [0, 1, 2] rfl) (hD.sub (ws' := (zS_1 cB cC cI cJ a0 a1 a2 x0 x1 x2 x3 x4 x5 a1 a3 x6 a3 f0)) [0, 1, 2] (by decide) rfl) hS
      ·
        refine lv_aload_n (pc := 12) hx hb dX4_isWordAhead_12 rfl (lv_at hl 2 rfl) ?_
        refine va_get (pc := 13) (ci := 4) (v := .ref a1) (C := RX4) (T := TX4) (N := 8) hx hb hts iX4 hown hK hP 0 rfl rfl 0 (by decide) (hts _ tw_167) (fun _ h9 => h9) rfl dX4_isWordAhead_13 ?_
        refine lv_aload_n (pc := 16) hx hb dX4_isWordAhead_16 rfl (lv_at hl 2 rfl) ?_
        refine va_get (pc := 17) (ci := 4) (v := .int x0) (C := RX4) (T := TX4) (N := 8) hx hb hts iX4 hown hK hP 0 rfl rfl 2 (by decide) (hts _ tw_170) (fun _ h9 => h9) rfl dX4_isWordAhead_17 ?_
        refine lv_iload_n (pc := 20) hx hb dX4_isWordAhead_20 rfl (lv_at hl 0 rfl) ?_
        refine b_iadd (pc := 21) hx hb rfl rfl (by first | exact (om_37 hi_7.1 h_x0.1) | (omega)) (by first | exact (om_33 hi_7.2 h_x0.2) | (omega)) dX4_isWordAhead_21 (fun x_24 ex_24 => ?_)
        refine gd_i (pc := 22) (wc := [(a1, .inr (9, [.ref a3, .int x6])), (a3, .inl (cB, 1600, .inl f0))]) hP hD hS hA [1, 2] rfl (by decide +kernel) (fun _ => by rfl) (fun hPc hDc => va_runV (As := [.int x_24]) (rest := []) ⟨hx, hb, hml, hown, hts⟩ (k_X9_at_E l D cB cC cI cJ _ a1 a3 x_24 x6 f0 h_x6) ⟨gcwB hts tw_518 tw_3 tw_515 hd_yX9_at ⟨Nat.le_of_ble_eq_true rfl, Nat.le_of_ble_eq_true rfl⟩, hts _ tw_516, hts _ tw_517⟩ ⟨gblind, va_recv hK hPc (ci := 9) (q0 := 0) rfl rfl, (gpreS hPc hK hDc hN).2⟩ rfl rfl hl.1 rfl (lv_room (Nat.le_of_ble_eq_true rfl)) dX4_isWordAhead_22 ⟨Nat.le_of_ble_eq_true rfl, Nat.le_of_ble_eq_true rfl⟩) (fun r_26 u_25 H locs hw_27 hP hD hS => ?_)
        replace hP : va_P D gcl (zS_1 cB cC cI cJ a0 a1 a2 x0 x1 x2 x3 x4 x5 a1 a3 x6 a3 f0) H := hP
        replace hD : va_D A (zS_1 cB cC cI cJ a0 a1 a2 x0 x1 x2 x3 x4 x5 a1 a3 x6 a3 f0) := hD
        obtain ⟨hw_28, hw_29⟩ := hw_27
        replace hw_28 : ((r_26.toInt = (-1) ∧ x_24.toInt < 0) ∨ (r_26.toInt = (-1) ∧ x_24.toInt ≥ 0 ∧ x_24.toInt ≥ x6.toInt) ∨ ((0 ≤ r_26.toInt ∧ r_26.toInt ≤ 255) ∧ x_24.toInt ≥ 0 ∧ x_24.toInt < x6.toInt)) := hw_28
        replace hw_29 : (r_26.toInt = taub f0 x6.toInt x_24.toInt) := hw_29
        have rr_26 := n_rng r_26
        refine lv_aload_n (pc := 25) hx hb dX4_isWordAhead_25 rfl (lv_at hl 3 rfl) ?_
        refine lv_iload_n (pc := 26) hx hb dX4_isWordAhead_26 rfl (lv_at hl 0 rfl) ?_
        refine gd_i (pc := 27) (wc := []) hP hD hS hA [] rfl (by decide +kernel) (fun _ => by rfl) (fun hPc hDc => va_runV (As := [.int x_6]) (rest := [.int r_26]) ⟨hx, hb, hml, hown, hts⟩ (k_J0_charAt_5068e l D cB cC cI cJ _ adK adV i hi x_6 (by omega)) ⟨gcwB hts tw_566 tw_15 tw_563 hd_yJ0_charAt_5068e ⟨Nat.le_of_ble_eq_true rfl, Nat.le_of_ble_eq_true rfl⟩, hts _ tw_564, hts _ tw_565⟩ ⟨gblindT, vk_recv hF.1 hi hS, (gpreT hPc hK hDc hN hF hS (va_free (wc := []) hD hS hA [] rfl)).2⟩ rfl rfl hl.1 rfl (lv_room (Nat.le_of_ble_eq_true rfl)) dX4_isWordAhead_27 ⟨Nat.le_of_ble_eq_true rfl, Nat.le_of_ble_eq_true rfl⟩) (fun r_31 u_30 H locs hw_32 hP hD hS => ?_)
        replace hP : va_P D gcl (zS_1 cB cC cI cJ a0 a1 a2 x0 x1 x2 x3 x4 x5 a1 a3 x6 a3 f0) H := hP
        replace hD : va_D A (zS_1 cB cC cI cJ a0 a1 a2 x0 x1 x2 x3 x4 x5 a1 a3 x6 a3 f0) := hD
        have hw_33 : (r_31.toInt = (wL.getD i []).getD (x_6.toInt).toNat 0) := hw_32
        have rr_31 := n_rng r_31
        refine b_icmp_eq (pc := 30) (tgt := 35) hx hb rfl rfl  dX4_isWordAhead_30 (by decide) (fun c_34 => ?_) (fun c_34 => ?_)
        ·
          refine b_iinc (pc := 35) hx hb dX4_isWordAhead_35 hl (k := 0) rfl rfl tI_1 (by first | exact (om_2 hi_7.1) | (omega)) (by first | exact (om_38 hi_7.2) | (omega)) (by decide) (fun x_35 ex_35 ls hl => ?_)
          replace hl : lv_has ls 4 [(3, .int x_35), (2, .int r_2), (0, .ref a0), (1, .ref (adK i))] := hl
          refine lv_goto (pc := 38) (tgt := 7) hx hb dX4_isWordAhead_38 (by decide) ?_
          exact ih_lp_10 x_35 _ _ ls (by first | exact (om_39 ex_35 hi_7.1 c_11 hw_4.2) | (omega)) (by first | exact (om_40 ex_35 c_11) | (omega)) (mtk_up hi_9 (by first | exact (om_0 hi_7.1) | (omega)) (by first | exact (om_5 ex_35) | (omega)) (by omega) hw_29 hw_33 (by first | exact (om_41 c_34) | (omega))) (by omega) hP hD hS (lv_sub hl [0, 1, 2, 3] rfl)
        ·
          refine lv_iconst (pc := 33) (v := 0) hx hb dX4_isWordAhead_33 (by decide) ?_
          have k9 := tI_0
          exact hret 0 ((fun _ => 0), (fun _ => (fun _ => 0)), (fun _ => (fun _ => 0)), (fun _ => 0), (fun _ => 0)) dX4_isWordAhead_34 ⟨(Or.inl tI_0), ⟨(show (0 ≤ (0 : Int32).toInt ∧ (0 : Int32).toInt ≤ 1) from (n_c tI_0 (by decide))), (show waQ (taub f0 x6.toInt) x0.toInt x1.toInt (wL.getD i []) (0 : Int32).toInt from wa_diff (k := x_6.toInt) (by omega) (by have q := s_wl hi; omega) (show _ = x0.toInt + x_6.toInt by omega) hw_29 hw_33 (by first | exact (om_31 tI_0) | (omega)) (by omega))⟩⟩ (g_psub (wc := (zS_1 cB cC cI cJ a0 a1 a2 x0 x1 x2 x3 x4 x5 a1 a3 x6 a3 f0)) hP [0, 1, 2] rfl) (hD.sub (ws' := (zS_1 cB cC cI cJ a0 a1 a2 x0 x1 x2 x3 x4 x5 a1 a3 x6 a3 f0)) [0, 1, 2] (by decide) rfl) hS
  exact lp_10 _ 0 _ _ ls (n_c tI_0 (by decide)) (by first | exact (om_42 hw_4.1 tI_0) | (have k0 := tI_0; omega)) (mtk_0 (by first | exact (om_43 tI_0) | (have q := tI_0; omega))) (Nat.lt_succ_self _) hP hD hS (lv_sub hl [0, 1, 2, 3] rfl)
theorem om_44 {a b : Int} (h0 : (b = 0)) : (a + b ≤ a) := by omega
theorem om_45 {a : Int} (h0 : (a = 0)) : ((a = 0 ∨ a = 1)) := by omega
theorem om_46 {a : Int} (h0 : (0 ≤ a)) (h1 : (a ≤ 1)) : ((a = 0 ∨ a = 1)) := by omega
set_option maxHeartbeats 4000000 in
set_option maxRecDepth 100000 in
theorem k_X4_takesWord (l : Launch) (D : va_G) (cB cC cI cJ : ClassId) (sz : Nat) (adK adV : Nat → Nat) (i : Nat) (hi : i < 15) (a0 a1 a2 a3 : Nat) (x0 x1 x2 x3 x4 x5 x6 : Int32) (f0 : Nat → Int32) (h_x0 : (0 ≤ x0.toInt ∧ x0.toInt ≤ 1600)) (h_x1 : ((-1) ≤ x1.toInt ∧ x1.toInt ≤ 255)) (h_x2 : (0 ≤ x2.toInt ∧ x2.toInt ≤ 1600)) (h_x4 : (0 ≤ x4.toInt ∧ x4.toInt ≤ 4)) (h_x5 : ((-1) ≤ x5.toInt ∧ x5.toInt ≤ 1600)) (h_x6 : (0 ≤ x6.toInt ∧ x6.toInt ≤ 1600)) (hg_sv : svQ (taub f0 x6.toInt) x0.toInt x1.toInt) : Met l yX4_takesWord (.code yX4_takesWord cX4_takesWord 3 (some .boolean) :: lw_gd) ({ frames := 5, cells := 0, slots := 0, locals := 108 }) (gPreT D [(cB, .byte), (cC, .char), (cI, .int), (cJ, .long)] [.ref a0, .ref (adK i)] (zS_1 cB cC cI cJ a0 a1 a2 x0 x1 x2 x3 x4 x5 a1 a3 x6 a3 f0) sz adK adV) (va_Qi (fun r u => (0 ≤ r.toInt ∧ r.toInt ≤ 1) ∧ (0 ≤ (u.2.2.2.1 0).toInt ∧ (u.2.2.2.1 0).toInt ≤ 1600) ∧ ((-1) ≤ (u.2.2.2.1 1).toInt ∧ (u.2.2.2.1 1).toInt ≤ 255) ∧ (twQ (taub f0 x6.toInt) x0.toInt x1.toInt (wL.getD i []) (u.2.2.2.1 0).toInt (u.2.2.2.1 1).toInt r.toInt) ∧ (svQ (taub f0 x6.toInt) (u.2.2.2.1 0).toInt (u.2.2.2.1 1).toInt) ∧ (x0.toInt + r.toInt ≤ (u.2.2.2.1 0).toInt)) (gB D (va_A (zS_1 cB cC cI cJ a0 a1 a2 x0 x1 x2 x3 x4 x5 a1 a3 x6 a3 f0) sz) (fun u : gEx => (zS_1 cB cC cI cJ a0 a1 a2 (u.2.2.2.1 0) (u.2.2.2.1 1) x2 x3 x4 x5 a1 a3 x6 a3 f0))) (va_A (zS_1 cB cC cI cJ a0 a1 a2 x0 x1 x2 x3 x4 x5 a1 a3 x6 a3 f0) sz)) 0 0 (va_A (zS_1 cB cC cI cJ a0 a1 a2 x0 x1 x2 x3 x4 x5 a1 a3 x6 a3 f0) sz) := by
  refine gOfT_z (by decide +kernel) (Nat.le_of_ble_eq_true rfl) ?_
  intro p e s m args below meth c ls A Q hx hb hts hown hml hN hK hP hD hA hl hF hret
  have hlen := s_len hi
  replace hown : s.vm.findClass RX4 = some m.cls := hown
  have hS : va_S A s.heap s.heap [] := va_S.rf
  replace hP : va_P D gcl (zS_1 cB cC cI cJ a0 a1 a2 x0 x1 x2 x3 x4 x5 a1 a3 x6 a3 f0) s.heap := hP
  replace hl : lv_has ls 3 [(0, .ref a0), (1, .ref (adK i))] := hl
  have rx3 := n_rng x3
  refine lv_aload_n (pc := 0) hx hb dX4_takesWord_0 rfl (lv_at hl 0 rfl) ?_
  refine lv_aload_n (pc := 1) hx hb dX4_takesWord_1 rfl (lv_at hl 1 rfl) ?_
  refine gd_i (pc := 2) (wc := (zS_1 cB cC cI cJ a0 a1 a2 x0 x1 x2 x3 x4 x5 a1 a3 x6 a3 f0)) hP hD hS hA [0, 1, 2] rfl (by decide +kernel) (fun _ => by rfl) (fun hPc hDc => va_runV (As := [.ref (adK i)]) (rest := []) ⟨hx, hb, hml, hown, hts⟩ (k_X4_isWordAhead l D cB cC cI cJ _ adK adV i hi a0 a1 a2 a3 x0 x1 x2 x3 x4 x5 x6 f0 h_x0 h_x1 h_x2 h_x4 h_x5 h_x6) ⟨gcwB hts tw_552 tw_2 tw_549 hd_yX4_isWordAhead ⟨Nat.le_of_ble_eq_true rfl, Nat.le_of_ble_eq_true rfl⟩, hts _ tw_551, hts _ tp_6⟩ ⟨gblindT, va_recv hK hPc (ci := 4) (q0 := 0) rfl rfl, (gpreT hPc hK hDc hN hF hS (va_free (wc := (zS_1 cB cC cI cJ a0 a1 a2 x0 x1 x2 x3 x4 x5 a1 a3 x6 a3 f0)) hD hS hA [0, 1, 2] rfl)).2⟩ rfl rfl hl.1 rfl (lv_room (Nat.le_of_ble_eq_true rfl)) dX4_takesWord_2 ⟨Nat.le_of_ble_eq_true rfl, Nat.le_of_ble_eq_true rfl⟩) (fun r_2 u_1 H locs hw_3 hP hD hS => ?_)
  replace hP : va_P D gcl (zS_1 cB cC cI cJ a0 a1 a2 x0 x1 x2 x3 x4 x5 a1 a3 x6 a3 f0) H := hP
  replace hD : va_D A (zS_1 cB cC cI cJ a0 a1 a2 x0 x1 x2 x3 x4 x5 a1 a3 x6 a3 f0) := hD
  obtain ⟨hw_4, hw_5⟩ := hw_3
  replace hw_4 : (0 ≤ r_2.toInt ∧ r_2.toInt ≤ 1) := hw_4
  replace hw_5 : (waQ (taub f0 x6.toInt) x0.toInt x1.toInt (wL.getD i []) r_2.toInt) := hw_5
  have rr_2 := n_rng r_2
  refine lv_istore_n (pc := 5) (lv' := [(2, .int r_2), (0, .ref a0), (1, .ref (adK i))]) hx hb dX4_takesWord_5 rfl hl (by decide) rfl (fun ls hl => ?_)
  refine lv_iload_n (pc := 6) hx hb dX4_takesWord_6 rfl (lv_at hl 0 rfl) ?_
  refine b_if_eq (pc := 7) (tgt := 24) hx hb rfl  dX4_takesWord_7 (by decide) (fun c_6 => ?_) (fun c_6 => ?_)
  ·
    refine lv_iload_n (pc := 24) hx hb dX4_takesWord_24 rfl (lv_at hl 0 rfl) ?_
    exact hret r_2 ((fun _ => 0), (fun _ => (fun _ => 0)), (fun _ => (fun _ => 0)), (fun k => [x0, x1].getD k 0), (fun _ => 0)) dX4_takesWord_25 ⟨(by first | exact (om_45 c_6) | (omega)), ⟨(show (0 ≤ r_2.toInt ∧ r_2.toInt ≤ 1) from hw_4), (show (0 ≤ (x0 : Int32).toInt ∧ (x0 : Int32).toInt ≤ 1600) from h_x0), (show ((-1) ≤ (x1 : Int32).toInt ∧ (x1 : Int32).toInt ≤ 255) from h_x1), (show twQ (taub f0 x6.toInt) x0.toInt x1.toInt (wL.getD i []) x0.toInt x1.toInt r_2.toInt from tw_no hw_5 (by first | exact (om_31 c_6) | (omega)) (by first | exact (om_31 c_6) | (omega))), (show svQ (taub f0 x6.toInt) x0.toInt x1.toInt from hg_sv), (show x0.toInt + r_2.toInt ≤ x0.toInt from (by first | exact (om_44 c_6) | (omega)))⟩⟩ (g_psub (wc := (zS_1 cB cC cI cJ a0 a1 a2 x0 x1 x2 x3 x4 x5 a1 a3 x6 a3 f0)) hP [0, 1, 2] rfl) (hD.sub (ws' := (zS_1 cB cC cI cJ a0 a1 a2 x0 x1 x2 x3 x4 x5 a1 a3 x6 a3 f0)) [0, 1, 2] (by decide) rfl) hS
  ·
    have hh_7 := wd_lt (hw_5.1 (by omega)) (s_pos hi) (s_ne hi)
    have hh_8 := s_wl hi
    have hh_9 := s_l1 hi
    refine lv_aload_n (pc := 10) hx hb dX4_takesWord_10 rfl (lv_at hl 1 rfl) ?_
    refine lv_aload_n (pc := 11) hx hb dX4_takesWord_11 rfl (lv_at hl 1 rfl) ?_
    refine va_get (pc := 12) (ci := 4) (v := .int x0) (C := RX4) (T := TX4) (N := 8) hx hb hts iX4 hown hK hP 0 rfl rfl 2 (by decide) (hts _ tw_170) (fun _ h9 => h9) rfl dX4_takesWord_12 ?_
    refine lv_aload_n (pc := 15) hx hb dX4_takesWord_15 rfl (lv_at hl 2 rfl) ?_
    refine gd_i (pc := 16) (wc := []) hP hD hS hA [] rfl (by decide +kernel) (fun _ => by rfl) (fun hPc hDc => va_runV (As := []) (rest := [.int x0, .ref a0]) ⟨hx, hb, hml, hown, hts⟩ (k_J0_length_8abf5 l D cB cC cI cJ _ adK adV i hi) ⟨gcwB hts tw_556 tw_15 tw_553 hd_yJ0_length_8abf5 ⟨Nat.le_of_ble_eq_true rfl, Nat.le_of_ble_eq_true rfl⟩, hts _ tw_554, hts _ tw_555⟩ ⟨gblindT, vk_recv hF.1 hi hS, (gpreT hPc hK hDc hN hF hS (va_free (wc := []) hD hS hA [] rfl)).2⟩ rfl rfl hl.1 rfl (lv_room (Nat.le_of_ble_eq_true rfl)) dX4_takesWord_16 ⟨Nat.le_of_ble_eq_true rfl, Nat.le_of_ble_eq_true rfl⟩) (fun r_11 u_10 H locs hw_12 hP hD hS => ?_)
    replace hP : va_P D gcl (zS_1 cB cC cI cJ a0 a1 a2 x0 x1 x2 x3 x4 x5 a1 a3 x6 a3 f0) H := hP
    replace hD : va_D A (zS_1 cB cC cI cJ a0 a1 a2 x0 x1 x2 x3 x4 x5 a1 a3 x6 a3 f0) := hD
    obtain ⟨hw_13, hw_14⟩ := hw_12
    replace hw_13 : (0 ≤ r_11.toInt ∧ r_11.toInt ≤ 6) := hw_13
    replace hw_14 : (r_11.toInt = ((lenS.getD i 0 : Nat) : Int)) := hw_14
    have rr_11 := n_rng r_11
    refine b_iadd (pc := 19) hx hb rfl rfl (by first | exact (om_32 rr_11.1 h_x0.1) | (omega)) (by first | exact (om_33 hw_13.2 h_x0.2) | (omega)) dX4_takesWord_19 (fun x_15 ex_15 => ?_)
    refine lv_iconst (pc := 20) (v := 1) hx hb dX4_takesWord_20 (by decide) ?_
    refine gd_v (pc := 21) (wc := (zS_1 cB cC cI cJ a0 a1 a2 x0 x1 x2 x3 x4 x5 a1 a3 x6 a3 f0)) hP hD hS hA [0, 1, 2] rfl (by decide +kernel) (fun _ => by rfl) (fun hPc hDc => va_runV (As := [.int x_15, .int 1]) (rest := []) ⟨hx, hb, hml, hown, hts⟩ (k_X4_goOn l D cB cC cI cJ _ a0 a1 a2 a3 x_15 1 x0 x1 x2 x3 x4 x5 x6 f0 (by have k0 := tI_1; omega) (n_c tI_1 (by decide)) h_x0 h_x1 h_x2 h_x4 h_x5 h_x6) ⟨gcwB hts tw_513 tw_2 tw_510 hd_yX4_goOn ⟨Nat.le_of_ble_eq_true rfl, Nat.le_of_ble_eq_true rfl⟩, hts _ tw_512, hts _ tp_0⟩ ⟨gblind, va_recv hK hPc (ci := 4) (q0 := 0) rfl rfl, (gpreS hPc hK hDc hN).2⟩ rfl rfl hl.1 rfl (lv_room (Nat.le_of_ble_eq_true rfl)) dX4_takesWord_21 ⟨Nat.le_of_ble_eq_true rfl, Nat.le_of_ble_eq_true rfl⟩) (fun u_16 H locs hw_18 hP hD hS => ?_)
    replace hP : va_P D gcl (zS_1 cB cC cI cJ a0 a1 a2 (u_16.2.2.2.1 0) (u_16.2.2.2.1 1) x2 x3 x4 x5 a1 a3 x6 a3 f0) H := hP
    replace hD : va_D A (zS_1 cB cC cI cJ a0 a1 a2 (u_16.2.2.2.1 0) (u_16.2.2.2.1 1) x2 x3 x4 x5 a1 a3 x6 a3 f0) := hD
    obtain ⟨hw_19, hw_20, hw_21, hw_22, hw_23⟩ := hw_18
    replace hw_19 : (0 ≤ (u_16.2.2.2.1 0).toInt ∧ (u_16.2.2.2.1 0).toInt ≤ 1600) := hw_19
    replace hw_20 : ((-1) ≤ (u_16.2.2.2.1 1).toInt ∧ (u_16.2.2.2.1 1).toInt ≤ 255) := hw_20
    replace hw_21 : ((u_16.2.2.2.1 0).toInt = skp (taub f0 x6.toInt) x_15.toInt) := hw_21
    replace hw_22 : ((u_16.2.2.2.1 1).toInt = gsn (taub f0 x6.toInt) x_15.toInt (u_16.2.2.2.1 0).toInt (1 : Int32).toInt) := hw_22
    replace hw_23 : (x_15.toInt ≤ (u_16.2.2.2.1 0).toInt) := hw_23
    have kk0_r_17 := tI_1
    refine lv_iload_n (pc := 24) hx hb dX4_takesWord_24 rfl (lv_at hl 0 rfl) ?_
    exact hret r_2 ((fun _ => 0), (fun _ => (fun _ => 0)), (fun _ => (fun _ => 0)), (fun k => [(u_16.2.2.2.1 0), (u_16.2.2.2.1 1)].getD k 0), (fun _ => 0)) dX4_takesWord_25 ⟨(by first | exact (om_46 hw_4.1 hw_4.2) | (omega)), ⟨(show (0 ≤ r_2.toInt ∧ r_2.toInt ≤ 1) from hw_4), (show (0 ≤ ((u_16.2.2.2.1 0) : Int32).toInt ∧ ((u_16.2.2.2.1 0) : Int32).toInt ≤ 1600) from hw_19), (show ((-1) ≤ ((u_16.2.2.2.1 1) : Int32).toInt ∧ ((u_16.2.2.2.1 1) : Int32).toInt ≤ 255) from hw_20), (show twQ (taub f0 x6.toInt) x0.toInt x1.toInt (wL.getD i []) (u_16.2.2.2.1 0).toInt (u_16.2.2.2.1 1).toInt r_2.toInt from tw_yes hw_5 (by first | exact (om_34 c_6) | (omega)) (show _ = x0.toInt + ((lenS.getD i 0 : Nat) : Int) by omega) hh_8.symm hw_21 hw_22 (by first | exact (om_36 tI_1) | (omega)) (by first | exact (om_34 c_6) | (omega))), (show svQ (taub f0 x6.toInt) (u_16.2.2.2.1 0).toInt (u_16.2.2.2.1 1).toInt from (by rw [hw_22, gsn_w (by omega)]; exact sgn_sv)), (show x0.toInt + r_2.toInt ≤ (u_16.2.2.2.1 0).toInt from (by omega))⟩⟩ (g_psub (wc := (zS_1 cB cC cI cJ a0 a1 a2 (u_16.2.2.2.1 0) (u_16.2.2.2.1 1) x2 x3 x4 x5 a1 a3 x6 a3 f0)) hP [0, 1, 2] rfl) (hD.sub (ws' := (zS_1 cB cC cI cJ a0 a1 a2 (u_16.2.2.2.1 0) (u_16.2.2.2.1 1) x2 x3 x4 x5 a1 a3 x6 a3 f0)) [0, 1, 2] (by decide) rfl) hS
theorem om_47 {a : Int} (h0 : (a = 0)) : (((a = 0))) := by omega
set_option maxHeartbeats 4000000 in
set_option maxRecDepth 100000 in
theorem k_X4_fail (l : Launch) (D : va_G) (cB cC cI cJ : ClassId) (sz : Nat) (a0 a1 a2 : Nat) (x0 x1 x2 x3 x4 x5 x6 x7 : Int32) (hp1 : (1 ≤ x0.toInt ∧ x0.toInt ≤ 4)) (hp2 : (0 ≤ x1.toInt ∧ x1.toInt ≤ 1600)) (h_x2 : (0 ≤ x2.toInt ∧ x2.toInt ≤ 1600)) (h_x3 : ((-1) ≤ x3.toInt ∧ x3.toInt ≤ 255)) (h_x4 : (0 ≤ x4.toInt ∧ x4.toInt ≤ 1600)) (h_x6 : (0 ≤ x6.toInt ∧ x6.toInt ≤ 4)) (h_x7 : ((-1) ≤ x7.toInt ∧ x7.toInt ≤ 1600)) : Met l yX4_fail (.code yX4_fail cX4_fail 3 (some .boolean) :: lw_gd) ({ frames := 0, cells := 0, slots := 0, locals := 0 }) (gPre D [(cB, .byte), (cC, .char), (cI, .int), (cJ, .long)] [.ref a0, .int x0, .int x1] (zS_2 cB cC cI cJ a0 a1 a2 x2 x3 x4 x5 x6 x7) sz) (va_Qi (fun r u => ((r.toInt = 0))) (gB D (va_A (zS_2 cB cC cI cJ a0 a1 a2 x2 x3 x4 x5 x6 x7) sz) (fun u : gEx => (zS_2 cB cC cI cJ a0 a1 a2 x2 x3 x4 x5 x0 x1))) (va_A (zS_2 cB cC cI cJ a0 a1 a2 x2 x3 x4 x5 x6 x7) sz)) 0 0 (va_A (zS_2 cB cC cI cJ a0 a1 a2 x2 x3 x4 x5 x6 x7) sz) := by
  refine gOf_z (by decide +kernel) (Nat.le_of_ble_eq_true rfl) ?_
  intro p e s m args below meth c ls A Q hx hb hts hown hml hN hK hP hD hA hl hret
  replace hown : s.vm.findClass RX4 = some m.cls := hown
  have hS : va_S A s.heap s.heap [] := va_S.rf
  replace hP : va_P D gcl (zS_2 cB cC cI cJ a0 a1 a2 x2 x3 x4 x5 x6 x7) s.heap := hP
  replace hl : lv_has ls 3 [(0, .ref a0), (1, .int x0), (2, .int x1)] := hl
  have rx5 := n_rng x5
  refine lv_aload_n (pc := 0) hx hb dX4_fail_0 rfl (lv_at hl 0 rfl) ?_
  refine lv_iload_n (pc := 1) hx hb dX4_fail_1 rfl (lv_at hl 1 rfl) ?_
  refine va_put (pc := 2) (ci := 4) (v := .int x0) (ty := .int) (C := RX4) (T := TX4) (N := 8) hx hb hts iX4 tyX4 tyX4_ok nmX4 hown hK hP hD hS 0 rfl rfl 6 (by decide) (hts _ tw_174) (fun _ h9 => h9) rfl (by decide +kernel) rfl rfl (Nat.le_of_ble_eq_true rfl) dX4_fail_2 (fun H locs hP hD hS => ?_)
  replace hP : va_P D gcl (zS_2 cB cC cI cJ a0 a1 a2 x2 x3 x4 x5 x0 x7) H := hP
  replace hD : va_D A (zS_2 cB cC cI cJ a0 a1 a2 x2 x3 x4 x5 x0 x7) := hD
  refine lv_aload_n (pc := 5) hx hb dX4_fail_5 rfl (lv_at hl 0 rfl) ?_
  refine lv_iload_n (pc := 6) hx hb dX4_fail_6 rfl (lv_at hl 2 rfl) ?_
  refine va_put (pc := 7) (ci := 4) (v := .int x1) (ty := .int) (C := RX4) (T := TX4) (N := 8) hx hb hts iX4 tyX4 tyX4_ok nmX4 hown hK hP hD hS 0 rfl rfl 7 (by decide) (hts _ tw_176) (fun _ h9 => h9) rfl (by decide +kernel) rfl rfl (Nat.le_of_ble_eq_true rfl) dX4_fail_7 (fun H locs hP hD hS => ?_)
  replace hP : va_P D gcl (zS_2 cB cC cI cJ a0 a1 a2 x2 x3 x4 x5 x0 x1) H := hP
  replace hD : va_D A (zS_2 cB cC cI cJ a0 a1 a2 x2 x3 x4 x5 x0 x1) := hD
  refine lv_iconst (pc := 10) (v := 0) hx hb dX4_fail_10 (by decide) ?_
  exact hret 0 ((fun _ => 0), (fun _ => (fun _ => 0)), (fun _ => (fun _ => 0)), (fun _ => 0), (fun _ => 0)) dX4_fail_11 ⟨(Or.inl tI_0), (show (((0 : Int32).toInt = 0)) from (by first | exact (om_47 tI_0) | (have k9 := tI_0; omega)))⟩ (g_psub (wc := (zS_2 cB cC cI cJ a0 a1 a2 x2 x3 x4 x5 x0 x1)) hP [0] rfl) (hD.sub (ws' := (zS_2 cB cC cI cJ a0 a1 a2 x2 x3 x4 x5 x0 x1)) [0] (by decide) rfl) hS
theorem om_48 {a : Int} (h0 : (a = 0)) : ((0 ≤ a ∧ a ≤ 0)) := by omega
set_option maxHeartbeats 4000000 in
set_option maxRecDepth 100000 in
theorem k_X4_failHere (l : Launch) (D : va_G) (cB cC cI cJ : ClassId) (sz : Nat) (a0 a1 a2 : Nat) (x0 x1 x2 x3 x4 x5 : Int32) (h_x0 : (0 ≤ x0.toInt ∧ x0.toInt ≤ 1600)) (h_x1 : ((-1) ≤ x1.toInt ∧ x1.toInt ≤ 255)) (h_x2 : (0 ≤ x2.toInt ∧ x2.toInt ≤ 1600)) (h_x4 : (0 ≤ x4.toInt ∧ x4.toInt ≤ 4)) (h_x5 : ((-1) ≤ x5.toInt ∧ x5.toInt ≤ 1600)) : Met l yX4_failHere (.code yX4_failHere cX4_failHere 1 (some .boolean) :: lw_gd) ({ frames := 1, cells := 0, slots := 0, locals := 22 }) (gPre D [(cB, .byte), (cC, .char), (cI, .int), (cJ, .long)] [.ref a0] (zS_2 cB cC cI cJ a0 a1 a2 x0 x1 x2 x3 x4 x5) sz) (va_Qi (fun r u => (0 ≤ r.toInt ∧ r.toInt ≤ 0)) (gB D (va_A (zS_2 cB cC cI cJ a0 a1 a2 x0 x1 x2 x3 x4 x5) sz) (fun u : gEx => (zS_2 cB cC cI cJ a0 a1 a2 x0 x1 x2 x3 1 x0))) (va_A (zS_2 cB cC cI cJ a0 a1 a2 x0 x1 x2 x3 x4 x5) sz)) 0 0 (va_A (zS_2 cB cC cI cJ a0 a1 a2 x0 x1 x2 x3 x4 x5) sz) := by
  refine gOf_z (by decide +kernel) (Nat.le_of_ble_eq_true rfl) ?_
  intro p e s m args below meth c ls A Q hx hb hts hown hml hN hK hP hD hA hl hret
  replace hown : s.vm.findClass RX4 = some m.cls := hown
  have hS : va_S A s.heap s.heap [] := va_S.rf
  replace hP : va_P D gcl (zS_2 cB cC cI cJ a0 a1 a2 x0 x1 x2 x3 x4 x5) s.heap := hP
  replace hl : lv_has ls 1 [(0, .ref a0)] := hl
  have rx3 := n_rng x3
  refine lv_aload_n (pc := 0) hx hb dX4_failHere_0 rfl (lv_at hl 0 rfl) ?_
  refine lv_iconst (pc := 1) (v := 1) hx hb dX4_failHere_1 (by decide) ?_
  refine lv_aload_n (pc := 2) hx hb dX4_failHere_2 rfl (lv_at hl 0 rfl) ?_
  refine va_get (pc := 3) (ci := 4) (v := .int x0) (C := RX4) (T := TX4) (N := 8) hx hb hts iX4 hown hK hP 0 rfl rfl 2 (by decide) (hts _ tw_170) (fun _ h9 => h9) rfl dX4_failHere_3 ?_
  refine gd_i (pc := 6) (wc := (zS_2 cB cC cI cJ a0 a1 a2 x0 x1 x2 x3 x4 x5)) hP hD hS hA [0] rfl (by decide +kernel) (fun _ => by rfl) (fun hPc hDc => va_runV (As := [.int 1, .int x0]) (rest := []) ⟨hx, hb, hml, hown, hts⟩ (k_X4_fail l D cB cC cI cJ _ a0 a1 a2 1 x0 x0 x1 x2 x3 x4 x5 (n_c tI_1 (by decide)) h_x0 h_x0 h_x1 h_x2 h_x4 h_x5) ⟨gcwB hts tw_535 tw_2 tw_532 hd_yX4_fail ⟨Nat.le_of_ble_eq_true rfl, Nat.le_of_ble_eq_true rfl⟩, hts _ tw_534, hts _ tp_2⟩ ⟨gblind, va_recv hK hPc (ci := 4) (q0 := 0) rfl rfl, (gpreS hPc hK hDc hN).2⟩ rfl rfl hl.1 rfl (lv_room (Nat.le_of_ble_eq_true rfl)) dX4_failHere_6 ⟨Nat.le_of_ble_eq_true rfl, Nat.le_of_ble_eq_true rfl⟩) (fun r_2 u_1 H locs hw_3 hP hD hS => ?_)
  replace hP : va_P D gcl (zS_2 cB cC cI cJ a0 a1 a2 x0 x1 x2 x3 1 x0) H := hP
  replace hD : va_D A (zS_2 cB cC cI cJ a0 a1 a2 x0 x1 x2 x3 1 x0) := hD
  have hw_4 : ((r_2.toInt = 0)) := hw_3
  have kk0_r_2 := tI_1
  have rr_2 := n_rng r_2
  exact hret r_2 ((fun _ => 0), (fun _ => (fun _ => 0)), (fun _ => (fun _ => 0)), (fun _ => 0), (fun _ => 0)) dX4_failHere_9 ⟨(by first | exact (om_45 hw_4) | (omega)), (show (0 ≤ r_2.toInt ∧ r_2.toInt ≤ 0) from (by first | exact (om_48 hw_4) | (omega)))⟩ (g_psub (wc := (zS_2 cB cC cI cJ a0 a1 a2 x0 x1 x2 x3 1 x0)) hP [0] rfl) (hD.sub (ws' := (zS_2 cB cC cI cJ a0 a1 a2 x0 x1 x2 x3 1 x0)) [0] (by decide) rfl) hS
theorem om_49 {a b c d : Int} (h0 : (¬ d = 0)) (h1 : (0 ≤ d)) (h2 : (a + d ≤ c)) (h3 : (b = 1)) : (a + b ≤ c) := by omega
theorem om_50 {a b c : Int} (h0 : (a = 0)) (h1 : (b = 1)) (h2 : (c = -1)) : (a ≤ 4 - 4 * b ∧ c ≤ 1600 - 1601 * b) := by omega
theorem om_51 {a : Int} (h0 : (0 ≤ a)) (h1 : (a ≤ 0)) : (¬ (¬ a = 0)) := by omega
theorem om_52 {a : Int} (h0 : (0 ≤ a)) (h1 : (a ≤ 1600)) : (((-1) ≤ a ∧ a ≤ 1600)) := by omega
theorem om_53 {a : Int} : (a = a) := by omega
theorem om_54 {a b c d : Int} (h0 : (a + d ≤ c)) (h1 : (b = 0)) (h2 : (d = 0)) : (a + b ≤ c) := by omega
theorem om_55 {a b c : Int} (h0 : (b = 0)) (h1 : (a = 1)) (h2 : (c ≤ 1600)) : (a ≤ 4 - 4 * b ∧ c ≤ 1600 - 1601 * b) := by omega
set_option maxHeartbeats 4000000 in
set_option maxRecDepth 100000 in
theorem k_X4_readWord (l : Launch) (D : va_G) (cB cC cI cJ : ClassId) (sz : Nat) (adK adV : Nat → Nat) (i : Nat) (hi : i < 15) (a0 a1 a2 a3 : Nat) (x0 x1 x2 x3 x4 x5 x6 : Int32) (f0 : Nat → Int32) (h_x0 : (0 ≤ x0.toInt ∧ x0.toInt ≤ 1600)) (h_x1 : ((-1) ≤ x1.toInt ∧ x1.toInt ≤ 255)) (h_x2 : (0 ≤ x2.toInt ∧ x2.toInt ≤ 1600)) (h_x4 : (0 ≤ x4.toInt ∧ x4.toInt ≤ 4)) (h_x5 : ((-1) ≤ x5.toInt ∧ x5.toInt ≤ 1600)) (h_x6 : (0 ≤ x6.toInt ∧ x6.toInt ≤ 1600)) (hg_sv : svQ (taub f0 x6.toInt) x0.toInt x1.toInt) (hg__ff : x4.toInt = 0 ∧ x5.toInt = -1) : Met l yX4_readWord (.code yX4_readWord cX4_readWord 2 (some .boolean) :: lw_gd) ({ frames := 6, cells := 0, slots := 0, locals := 130 }) (gPreT D [(cB, .byte), (cC, .char), (cI, .int), (cJ, .long)] [.ref a0, .ref (adK i)] (zS_1 cB cC cI cJ a0 a1 a2 x0 x1 x2 x3 x4 x5 a1 a3 x6 a3 f0) sz adK adV) (va_Qi (fun r u => (0 ≤ r.toInt ∧ r.toInt ≤ 1) ∧ (0 ≤ (u.2.2.2.1 0).toInt ∧ (u.2.2.2.1 0).toInt ≤ 1600) ∧ ((-1) ≤ (u.2.2.2.1 1).toInt ∧ (u.2.2.2.1 1).toInt ≤ 255) ∧ (0 ≤ (u.2.2.2.1 2).toInt ∧ (u.2.2.2.1 2).toInt ≤ 4) ∧ ((-1) ≤ (u.2.2.2.1 3).toInt ∧ (u.2.2.2.1 3).toInt ≤ 1600) ∧ (rwQ (taub f0 x6.toInt) x0.toInt x1.toInt (wL.getD i []) (u.2.2.2.1 0).toInt (u.2.2.2.1 1).toInt r.toInt (u.2.2.2.1 2).toInt (u.2.2.2.1 3).toInt) ∧ (svQ (taub f0 x6.toInt) (u.2.2.2.1 0).toInt (u.2.2.2.1 1).toInt) ∧ (x0.toInt + r.toInt ≤ (u.2.2.2.1 0).toInt) ∧ ((u.2.2.2.1 2).toInt ≤ 4 - 4 * r.toInt ∧ (u.2.2.2.1 3).toInt ≤ 1600 - 1601 * r.toInt)) (gB D (va_A (zS_1 cB cC cI cJ a0 a1 a2 x0 x1 x2 x3 x4 x5 a1 a3 x6 a3 f0) sz) (fun u : gEx => (zS_1 cB cC cI cJ a0 a1 a2 (u.2.2.2.1 0) (u.2.2.2.1 1) x2 x3 (u.2.2.2.1 2) (u.2.2.2.1 3) a1 a3 x6 a3 f0))) (va_A (zS_1 cB cC cI cJ a0 a1 a2 x0 x1 x2 x3 x4 x5 a1 a3 x6 a3 f0) sz)) 0 0 (va_A (zS_1 cB cC cI cJ a0 a1 a2 x0 x1 x2 x3 x4 x5 a1 a3 x6 a3 f0) sz) := by
  refine gOfT_z (by decide +kernel) (Nat.le_of_ble_eq_true rfl) ?_
  intro p e s m args below meth c ls A Q hx hb hts hown hml hN hK hP hD hA hl hF hret
  have hlen := s_len hi
  replace hown : s.vm.findClass RX4 = some m.cls := hown
  have hS : va_S A s.heap s.heap [] := va_S.rf
  replace hP : va_P D gcl (zS_1 cB cC cI cJ a0 a1 a2 x0 x1 x2 x3 x4 x5 a1 a3 x6 a3 f0) s.heap := hP
  replace hl : lv_has ls 2 [(0, .ref a0), (1, .ref (adK i))] := hl
  have rx3 := n_rng x3
  refine lv_aload_n (pc := 0) hx hb dX4_readWord_0 rfl (lv_at hl 0 rfl) ?_
  refine lv_aload_n (pc := 1) hx hb dX4_readWord_1 rfl (lv_at hl 1 rfl) ?_
  refine gd_i (pc := 2) (wc := (zS_1 cB cC cI cJ a0 a1 a2 x0 x1 x2 x3 x4 x5 a1 a3 x6 a3 f0)) hP hD hS hA [0, 1, 2] rfl (by decide +kernel) (fun _ => by rfl) (fun hPc hDc => va_runV (As := [.ref (adK i)]) (rest := []) ⟨hx, hb, hml, hown, hts⟩ (k_X4_takesWord l D cB cC cI cJ _ adK adV i hi a0 a1 a2 a3 x0 x1 x2 x3 x4 x5 x6 f0 h_x0 h_x1 h_x2 h_x4 h_x5 h_x6 (hg_sv)) ⟨gcwB hts tw_548 tw_2 tw_545 hd_yX4_takesWord ⟨Nat.le_of_ble_eq_true rfl, Nat.le_of_ble_eq_true rfl⟩, hts _ tw_547, hts _ tp_5⟩ ⟨gblindT, va_recv hK hPc (ci := 4) (q0 := 0) rfl rfl, (gpreT hPc hK hDc hN hF hS (va_free (wc := (zS_1 cB cC cI cJ a0 a1 a2 x0 x1 x2 x3 x4 x5 a1 a3 x6 a3 f0)) hD hS hA [0, 1, 2] rfl)).2⟩ rfl rfl hl.1 rfl (lv_room (Nat.le_of_ble_eq_true rfl)) dX4_readWord_2 ⟨Nat.le_of_ble_eq_true rfl, Nat.le_of_ble_eq_true rfl⟩) (fun r_2 u_1 H locs hw_3 hP hD hS => ?_)
  replace hP : va_P D gcl (zS_1 cB cC cI cJ a0 a1 a2 (u_1.2.2.2.1 0) (u_1.2.2.2.1 1) x2 x3 x4 x5 a1 a3 x6 a3 f0) H := hP
  replace hD : va_D A (zS_1 cB cC cI cJ a0 a1 a2 (u_1.2.2.2.1 0) (u_1.2.2.2.1 1) x2 x3 x4 x5 a1 a3 x6 a3 f0) := hD
  obtain ⟨hw_4, hw_5, hw_6, hw_7, hw_8, hw_9⟩ := hw_3
  replace hw_4 : (0 ≤ r_2.toInt ∧ r_2.toInt ≤ 1) := hw_4
  replace hw_5 : (0 ≤ (u_1.2.2.2.1 0).toInt ∧ (u_1.2.2.2.1 0).toInt ≤ 1600) := hw_5
  replace hw_6 : ((-1) ≤ (u_1.2.2.2.1 1).toInt ∧ (u_1.2.2.2.1 1).toInt ≤ 255) := hw_6
  replace hw_7 : (twQ (taub f0 x6.toInt) x0.toInt x1.toInt (wL.getD i []) (u_1.2.2.2.1 0).toInt (u_1.2.2.2.1 1).toInt r_2.toInt) := hw_7
  replace hw_8 : (svQ (taub f0 x6.toInt) (u_1.2.2.2.1 0).toInt (u_1.2.2.2.1 1).toInt) := hw_8
  replace hw_9 : (x0.toInt + r_2.toInt ≤ (u_1.2.2.2.1 0).toInt) := hw_9
  have rr_2 := n_rng r_2
  refine b_if_ne (pc := 5) (tgt := 15) hx hb rfl  dX4_readWord_5 (by decide) (fun c_10 => ?_) (fun c_10 => ?_)
  ·
    refine lv_iconst (pc := 15) (v := 1) hx hb dX4_readWord_15 (by decide) ?_
    refine lv_goto (pc := 16) (tgt := 20) hx hb dX4_readWord_16 (by decide) ?_
    have k9 := tI_1
    exact hret 1 ((fun _ => 0), (fun _ => (fun _ => 0)), (fun _ => (fun _ => 0)), (fun k => [(u_1.2.2.2.1 0), (u_1.2.2.2.1 1), x4, x5].getD k 0), (fun _ => 0)) dX4_readWord_20 ⟨(Or.inr tI_1), ⟨(show (0 ≤ (1 : Int32).toInt ∧ (1 : Int32).toInt ≤ 1) from (n_c tI_1 (by decide))), (show (0 ≤ ((u_1.2.2.2.1 0) : Int32).toInt ∧ ((u_1.2.2.2.1 0) : Int32).toInt ≤ 1600) from hw_5), (show ((-1) ≤ ((u_1.2.2.2.1 1) : Int32).toInt ∧ ((u_1.2.2.2.1 1) : Int32).toInt ≤ 255) from hw_6), (show (0 ≤ (x4 : Int32).toInt ∧ (x4 : Int32).toInt ≤ 4) from h_x4), (show ((-1) ≤ (x5 : Int32).toInt ∧ (x5 : Int32).toInt ≤ 1600) from h_x5), (show rwQ (taub f0 x6.toInt) x0.toInt x1.toInt (wL.getD i []) (u_1.2.2.2.1 0).toInt (u_1.2.2.2.1 1).toInt (1 : Int32).toInt x4.toInt x5.toInt from rw_yes hw_7 (by first | exact (om_34 c_10) | (omega)) (by first | exact (om_36 tI_1) | (omega))), (show svQ (taub f0 x6.toInt) (u_1.2.2.2.1 0).toInt (u_1.2.2.2.1 1).toInt from hw_8), (show x0.toInt + (1 : Int32).toInt ≤ (u_1.2.2.2.1 0).toInt from (by first | exact (om_49 c_10 hw_4.1 hw_9 tI_1) | (have k9 := tI_1; omega))), (show x4.toInt ≤ 4 - 4 * (1 : Int32).toInt ∧ x5.toInt ≤ 1600 - 1601 * (1 : Int32).toInt from (by first | exact (om_50 hg__ff.1 tI_1 hg__ff.2) | (have k9 := tI_1; omega)))⟩⟩ (g_psub (wc := (zS_1 cB cC cI cJ a0 a1 a2 (u_1.2.2.2.1 0) (u_1.2.2.2.1 1) x2 x3 x4 x5 a1 a3 x6 a3 f0)) hP [0, 1, 2] rfl) (hD.sub (ws' := (zS_1 cB cC cI cJ a0 a1 a2 (u_1.2.2.2.1 0) (u_1.2.2.2.1 1) x2 x3 x4 x5 a1 a3 x6 a3 f0)) [0, 1, 2] (by decide) rfl) hS
  ·
    refine lv_aload_n (pc := 8) hx hb dX4_readWord_8 rfl (lv_at hl 0 rfl) ?_
    refine gd_i (pc := 9) (wc := (zS_2 cB cC cI cJ a0 a1 a2 (u_1.2.2.2.1 0) (u_1.2.2.2.1 1) x2 x3 x4 x5)) hP hD hS hA [0] rfl (by decide +kernel) (fun _ => by rfl) (fun hPc hDc => va_runV (As := []) (rest := []) ⟨hx, hb, hml, hown, hts⟩ (k_X4_failHere l D cB cC cI cJ _ a0 a1 a2 (u_1.2.2.2.1 0) (u_1.2.2.2.1 1) x2 x3 x4 x5 hw_5 hw_6 h_x2 h_x4 h_x5) ⟨gcwB hts tw_531 tw_2 tw_528 hd_yX4_failHere ⟨Nat.le_of_ble_eq_true rfl, Nat.le_of_ble_eq_true rfl⟩, hts _ tw_530, hts _ tp_1⟩ ⟨gblind, va_recv hK hPc (ci := 4) (q0 := 0) rfl rfl, (gpreS hPc hK hDc hN).2⟩ rfl rfl hl.1 rfl (lv_room (Nat.le_of_ble_eq_true rfl)) dX4_readWord_9 ⟨Nat.le_of_ble_eq_true rfl, Nat.le_of_ble_eq_true rfl⟩) (fun r_12 u_11 H locs hw_13 hP hD hS => ?_)
    replace hP : va_P D gcl (zS_1 cB cC cI cJ a0 a1 a2 (u_1.2.2.2.1 0) (u_1.2.2.2.1 1) x2 x3 1 (u_1.2.2.2.1 0) a1 a3 x6 a3 f0) H := hP
    replace hD : va_D A (zS_1 cB cC cI cJ a0 a1 a2 (u_1.2.2.2.1 0) (u_1.2.2.2.1 1) x2 x3 1 (u_1.2.2.2.1 0) a1 a3 x6 a3 f0) := hD
    have hw_14 : (0 ≤ r_12.toInt ∧ r_12.toInt ≤ 0) := hw_13
    have rr_12 := n_rng r_12
    refine b_if_eq (pc := 12) (tgt := 19) hx hb rfl  dX4_readWord_12 (by decide) (fun c_15 => ?_) (fun c_15 => absurd c_15 (by first | exact (om_51 hw_14.1 hw_14.2) | (omega)))
    refine lv_iconst (pc := 19) (v := 0) hx hb dX4_readWord_19 (by decide) ?_
    have k9 := tI_0
    have k8_0 := tI_1
    exact hret 0 ((fun _ => 0), (fun _ => (fun _ => 0)), (fun _ => (fun _ => 0)), (fun k => [(u_1.2.2.2.1 0), (u_1.2.2.2.1 1), 1, (u_1.2.2.2.1 0)].getD k 0), (fun _ => 0)) dX4_readWord_20 ⟨(Or.inl tI_0), ⟨(show (0 ≤ (0 : Int32).toInt ∧ (0 : Int32).toInt ≤ 1) from (n_c tI_0 (by decide))), (show (0 ≤ ((u_1.2.2.2.1 0) : Int32).toInt ∧ ((u_1.2.2.2.1 0) : Int32).toInt ≤ 1600) from hw_5), (show ((-1) ≤ ((u_1.2.2.2.1 1) : Int32).toInt ∧ ((u_1.2.2.2.1 1) : Int32).toInt ≤ 255) from hw_6), (show (0 ≤ (1 : Int32).toInt ∧ (1 : Int32).toInt ≤ 4) from (n_c tI_1 (by decide))), (show ((-1) ≤ ((u_1.2.2.2.1 0) : Int32).toInt ∧ ((u_1.2.2.2.1 0) : Int32).toInt ≤ 1600) from (by first | exact (om_52 hw_5.1 hw_5.2) | (have k9 := tI_0; have k8_0 := tI_1; omega))), (show rwQ (taub f0 x6.toInt) x0.toInt x1.toInt (wL.getD i []) (u_1.2.2.2.1 0).toInt (u_1.2.2.2.1 1).toInt (0 : Int32).toInt (1 : Int32).toInt (u_1.2.2.2.1 0).toInt from rw_no hw_7 (by first | exact (om_31 c_10) | (omega)) (by first | exact (om_31 tI_0) | (omega)) (by first | exact (om_28 tI_1) | (omega)) (by first | exact (om_53) | (omega))), (show svQ (taub f0 x6.toInt) (u_1.2.2.2.1 0).toInt (u_1.2.2.2.1 1).toInt from hw_8), (show x0.toInt + (0 : Int32).toInt ≤ (u_1.2.2.2.1 0).toInt from (by first | exact (om_54 hw_9 tI_0 c_10) | (have k9 := tI_0; have k8_0 := tI_1; omega))), (show (1 : Int32).toInt ≤ 4 - 4 * (0 : Int32).toInt ∧ (u_1.2.2.2.1 0).toInt ≤ 1600 - 1601 * (0 : Int32).toInt from (by first | exact (om_55 tI_0 tI_1 hw_5.2) | (have k9 := tI_0; have k8_0 := tI_1; omega)))⟩⟩ (g_psub (wc := (zS_1 cB cC cI cJ a0 a1 a2 (u_1.2.2.2.1 0) (u_1.2.2.2.1 1) x2 x3 1 (u_1.2.2.2.1 0) a1 a3 x6 a3 f0)) hP [0, 1, 2] rfl) (hD.sub (ws' := (zS_1 cB cC cI cJ a0 a1 a2 (u_1.2.2.2.1 0) (u_1.2.2.2.1 1) x2 x3 1 (u_1.2.2.2.1 0) a1 a3 x6 a3 f0)) [0, 1, 2] (by decide) rfl) hS
theorem om_56 {a : Int} (h0 : (0 ≤ a)) (h1 : (a ≤ 9999)) : (((-1) ≤ a ∧ a ≤ 9999)) := by omega
theorem om_57 {a b : Int} (h0 : ((b = 0 ∧ a < 48) ∨ (b = 0 ∧ a ≥ 48 ∧ a > 57) ∨ (b = 1 ∧ a ≥ 48 ∧ a ≤ 57))) (h1 : (¬ b = 0)) : (48 ≤ a ∧ a ≤ 57) := by omega
theorem om_58 {a : Int} (h0 : (a ≤ 4)) : (a ≤ 4) := by omega
theorem om_59 {a b : Int} (h0 : ((b = 0 ∧ a < 48) ∨ (b = 0 ∧ a ≥ 48 ∧ a > 57) ∨ (b = 1 ∧ a ≥ 48 ∧ a ≤ 57))) (h1 : (b = 0)) : (¬ (48 ≤ a ∧ a ≤ 57)) := by omega
theorem om_60 {a b c d : Int} (h0 : (c ≤ b)) (h1 : (c = a + d)) (h2 : (d ≥ 4)) : (a ≤ b) := by omega
theorem om_61 {a b c : Int} (h0 : (b = 0)) (h1 : (c = -1)) : (a = -1 ∨ (b = 0 ∧ c = -1)) := by omega
theorem om_62 {a : Int} (h0 : (a ≥ 4)) (h1 : (a ≤ 4)) : (a = 4) := by omega
theorem om_63 {a b c : Int} (h0 : (a = b + c)) : (a = b + c) := by omega
theorem om_64 {a b c d : Int} (h0 : ((b = 0 ∧ a < 48) ∨ (b = 0 ∧ a ≥ 48 ∧ a > 57) ∨ (b = 1 ∧ a ≥ 48 ∧ a ≤ 57))) (h1 : ((a = (-1) ∧ c < 0) ∨ (a = (-1) ∧ c ≥ 0 ∧ c ≥ d) ∨ ((0 ≤ a ∧ a ≤ 255) ∧ c ≥ 0 ∧ c < d))) (h2 : (¬ b = 0)) : (48 ≤ a ∧ a ≤ 57) := by omega
theorem om_65 {a : Int} (h0 : (a = (-1))) : (a = -1) := by omega
theorem om_66 {a b c : Int} (h0 : (b = a + c)) (h1 : (c ≥ 4)) : (a ≤ b) := by omega
theorem om_67 {a b c : Int} (h0 : (a = (-1))) : (a = -1 ∨ (b = 0 ∧ c = -1)) := by omega
theorem om_68 {a : Int} (h0 : (a < 4)) : (a ≤ 4) := by omega
theorem om_69 {a b c d : Int} (h0 : (c ≤ b)) (h1 : (c = a + d)) (h2 : (0 ≤ d)) : (a ≤ b) := by omega
theorem om_70 {a b c : Int} (h0 : (b = a + c)) (h1 : (0 ≤ c)) : (a ≤ b) := by omega
theorem om_71 {a : Int} (h0 : (0 ≤ a)) : (-2147483648 ≤ 10 * a) := by omega
theorem om_72 {a : Int} (h0 : (a ≤ 9999)) : (10 * a ≤ 2147483647) := by omega
theorem om_73 {a b c : Int} (h0 : ((-2147483648) ≤ b)) (h1 : (a = 10 * c)) (h2 : (0 ≤ c)) : (-2147483648 ≤ a + b) := by omega
theorem om_74 {a b c d e : Int} (h0 : ((b = (-1) ∧ c < 0) ∨ (b = (-1) ∧ c ≥ 0 ∧ c ≥ d) ∨ ((0 ≤ b ∧ b ≤ 255) ∧ c ≥ 0 ∧ c < d))) (h1 : (0 ≤ c)) (h2 : (a = 10 * e)) (h3 : (e ≤ 9999)) : (a + b ≤ 2147483647) := by omega
theorem om_75 {a b c d e f : Int} (h0 : ((b = (-1) ∧ c < 0) ∨ (b = (-1) ∧ c ≥ 0 ∧ c ≥ d) ∨ ((0 ≤ b ∧ b ≤ 255) ∧ c ≥ 0 ∧ c < d))) (h1 : (a = e + b)) (h2 : (e = 10 * f)) (h3 : (0 ≤ f)) : (-2147483648 ≤ a - 48) := by omega
theorem om_76 {a b c d e f : Int} (h0 : ((b = (-1) ∧ c < 0) ∨ (b = (-1) ∧ c ≥ 0 ∧ c ≥ d) ∨ ((0 ≤ b ∧ b ≤ 255) ∧ c ≥ 0 ∧ c < d))) (h1 : (a = e + b)) (h2 : (e = 10 * f)) (h3 : (f ≤ 9999)) : (a - 48 ≤ 2147483647) := by omega
theorem om_77 {a : Int} (h0 : (a < 4)) : (a + 1 ≤ 2147483647) := by omega
theorem om_78 {a b : Int} (h0 : (a = b + 1)) (h1 : (0 ≤ b)) (h2 : (b < 4)) : ((0 ≤ a ∧ a ≤ 4)) := by omega
theorem om_79 {a b c d e : Int} (h0 : (c = d + 1)) (h1 : (a = e + 1)) (h2 : (e = b + d)) : ((a = b + c)) := by omega
theorem om_80 {a b c d e : Int} (h0 : (a = d - 48)) (h1 : (d = e + c)) (h2 : (e = 10 * b)) : (a = 10 * b + c - 48) := by omega
theorem om_81 {a : Int} : (a ≤ a) := by omega
set_option maxHeartbeats 4000000 in
set_option maxRecDepth 100000 in
theorem k_X4_readNumber (l : Launch) (D : va_G) (cB cC cI cJ : ClassId) (sz : Nat) (a0 a1 a2 a3 : Nat) (x0 x1 x2 x3 x4 x5 x6 : Int32) (f0 : Nat → Int32) (h_x0 : (0 ≤ x0.toInt ∧ x0.toInt ≤ 1600)) (h_x1 : ((-1) ≤ x1.toInt ∧ x1.toInt ≤ 255)) (h_x2 : (0 ≤ x2.toInt ∧ x2.toInt ≤ 1600)) (h_x4 : (0 ≤ x4.toInt ∧ x4.toInt ≤ 4)) (h_x5 : ((-1) ≤ x5.toInt ∧ x5.toInt ≤ 1600)) (h_x6 : (0 ≤ x6.toInt ∧ x6.toInt ≤ 1600)) (hg_sv : svQ (taub f0 x6.toInt) x0.toInt x1.toInt) (hg__ff : x4.toInt = 0 ∧ x5.toInt = -1) : Met l yX4_readNumber (.code yX4_readNumber cX4_readNumber 3 (some .int) :: lw_gd) ({ frames := 2, cells := 0, slots := 0, locals := 43 }) (gPre D [(cB, .byte), (cC, .char), (cI, .int), (cJ, .long)] [.ref a0] (zS_1 cB cC cI cJ a0 a1 a2 x0 x1 x2 x3 x4 x5 a1 a3 x6 a3 f0) sz) (va_Qi (fun r u => ((-1) ≤ r.toInt ∧ r.toInt ≤ 9999) ∧ (0 ≤ (u.2.2.2.1 0).toInt ∧ (u.2.2.2.1 0).toInt ≤ 1600) ∧ ((-1) ≤ (u.2.2.2.1 1).toInt ∧ (u.2.2.2.1 1).toInt ≤ 255) ∧ (0 ≤ (u.2.2.2.1 2).toInt ∧ (u.2.2.2.1 2).toInt ≤ 1600) ∧ (0 ≤ (u.2.2.2.1 3).toInt ∧ (u.2.2.2.1 3).toInt ≤ 4) ∧ ((-1) ≤ (u.2.2.2.1 4).toInt ∧ (u.2.2.2.1 4).toInt ≤ 1600) ∧ (nuQ (taub f0 x6.toInt) x0.toInt x1.toInt r.toInt (u.2.2.2.1 0).toInt (u.2.2.2.1 1).toInt (u.2.2.2.1 2).toInt (u.2.2.2.1 3).toInt (u.2.2.2.1 4).toInt) ∧ (x0.toInt ≤ (u.2.2.2.1 0).toInt) ∧ (r.toInt = -1 ∨ ((u.2.2.2.1 3).toInt = 0 ∧ (u.2.2.2.1 4).toInt = -1))) (gB D (va_A (zS_1 cB cC cI cJ a0 a1 a2 x0 x1 x2 x3 x4 x5 a1 a3 x6 a3 f0) sz) (fun u : gEx => (zS_1 cB cC cI cJ a0 a1 a2 (u.2.2.2.1 0) (u.2.2.2.1 1) (u.2.2.2.1 2) x3 (u.2.2.2.1 3) (u.2.2.2.1 4) a1 a3 x6 a3 f0))) (va_A (zS_1 cB cC cI cJ a0 a1 a2 x0 x1 x2 x3 x4 x5 a1 a3 x6 a3 f0) sz)) 0 0 (va_A (zS_1 cB cC cI cJ a0 a1 a2 x0 x1 x2 x3 x4 x5 a1 a3 x6 a3 f0) sz) := by
  refine gOf_i (by decide +kernel) (Nat.le_of_ble_eq_true rfl) ?_
  intro p e s m args below meth c ls A Q hx hb hts hown hml hN hK hP hD hA hl hret
  replace hown : s.vm.findClass RX4 = some m.cls := hown
  have hS : va_S A s.heap s.heap [] := va_S.rf
  replace hP : va_P D gcl (zS_1 cB cC cI cJ a0 a1 a2 x0 x1 x2 x3 x4 x5 a1 a3 x6 a3 f0) s.heap := hP
  replace hl : lv_has ls 3 [(0, .ref a0)] := hl
  have rx3 := n_rng x3
  refine lv_aload_n (pc := 0) hx hb dX4_readNumber_0 rfl (lv_at hl 0 rfl) ?_
  refine va_get (pc := 1) (ci := 4) (v := .int x1) (C := RX4) (T := TX4) (N := 8) hx hb hts iX4 hown hK hP 0 rfl rfl 3 (by decide) (hts _ tw_171) (fun _ h9 => h9) rfl dX4_readNumber_1 ?_
  refine gd_i (pc := 4) (wc := []) hP hD hS hA [] rfl (by decide +kernel) (fun _ => by rfl) (fun hPc hDc => va_runS (As := [.int x1]) (rest := []) ⟨hx, hb, hml, hown, hts⟩ (k_X4_isDigit l D cB cC cI cJ _ x1) ⟨gcwB hts tw_527 tw_2 tw_525 hd_yX4_isDigit ⟨Nat.le_of_ble_eq_true rfl, Nat.le_of_ble_eq_true rfl⟩, hts _ tw_526⟩ (gpreS hPc hK hDc hN) rfl rfl hl.1 rfl (lv_room (Nat.le_of_ble_eq_true rfl)) dX4_readNumber_4 ⟨Nat.le_of_ble_eq_true rfl, Nat.le_of_ble_eq_true rfl⟩) (fun r_2 u_1 H locs hw_3 hP hD hS => ?_)
  replace hP : va_P D gcl (zS_1 cB cC cI cJ a0 a1 a2 x0 x1 x2 x3 x4 x5 a1 a3 x6 a3 f0) H := hP
  replace hD : va_D A (zS_1 cB cC cI cJ a0 a1 a2 x0 x1 x2 x3 x4 x5 a1 a3 x6 a3 f0) := hD
  have hw_4 : ((r_2.toInt = 0 ∧ x1.toInt < 48) ∨ (r_2.toInt = 0 ∧ x1.toInt ≥ 48 ∧ x1.toInt > 57) ∨ (r_2.toInt = 1 ∧ x1.toInt ≥ 48 ∧ x1.toInt ≤ 57)) := hw_3
  have rr_2 := n_rng r_2
  refine b_if_ne (pc := 7) (tgt := 17) hx hb rfl  dX4_readNumber_7 (by decide) (fun c_5 => ?_) (fun c_5 => ?_)
  ·
    refine lv_aload_n (pc := 17) hx hb dX4_readNumber_17 rfl (lv_at hl 0 rfl) ?_
    refine lv_aload_n (pc := 18) hx hb dX4_readNumber_18 rfl (lv_at hl 0 rfl) ?_
    refine va_get (pc := 19) (ci := 4) (v := .int x0) (C := RX4) (T := TX4) (N := 8) hx hb hts iX4 hown hK hP 0 rfl rfl 2 (by decide) (hts _ tw_170) (fun _ h9 => h9) rfl dX4_readNumber_19 ?_
    refine va_put (pc := 22) (ci := 4) (v := .int x0) (ty := .int) (C := RX4) (T := TX4) (N := 8) hx hb hts iX4 tyX4 tyX4_ok nmX4 hown hK hP hD hS 0 rfl rfl 4 (by decide) (hts _ tw_172) (fun _ h9 => h9) rfl (by decide +kernel) rfl rfl (Nat.le_of_ble_eq_true rfl) dX4_readNumber_22 (fun H locs hP hD hS => ?_)
    replace hP : va_P D gcl (zS_1 cB cC cI cJ a0 a1 a2 x0 x1 x0 x3 x4 x5 a1 a3 x6 a3 f0) H := hP
    replace hD : va_D A (zS_1 cB cC cI cJ a0 a1 a2 x0 x1 x0 x3 x4 x5 a1 a3 x6 a3 f0) := hD
    refine lv_iconst (pc := 25) (v := 0) hx hb dX4_readNumber_25 (by decide) ?_
    refine lv_istore_n (pc := 26) (lv' := [(1, .int 0), (0, .ref a0)]) hx hb dX4_readNumber_26 rfl hl (by decide) rfl (fun ls hl => ?_)
    refine lv_iconst (pc := 27) (v := 0) hx hb dX4_readNumber_27 (by decide) ?_
    refine lv_istore_n (pc := 28) (lv' := [(2, .int 0), (1, .int 0), (0, .ref a0)]) hx hb dX4_readNumber_28 rfl hl (by decide) rfl (fun ls hl => ?_)
    have lp_16 : ∀ (n : Nat) (x_6 x_8 x_10 : Int32) (H : Heap) (locs : List Loc) (ls : Array Slot), (0 ≤ x_6.toInt ∧ x_6.toInt ≤ 4) → (0 ≤ x_8.toInt ∧ x_8.toInt ≤ 9999) → (0 ≤ x_10.toInt ∧ x_10.toInt ≤ 1600) → (x_10.toInt = x0.toInt + x_6.toInt) → (dgs (taub f0 x6.toInt) x0.toInt x_6.toInt) → (x_8.toInt = nvk (taub f0 x6.toInt) x0.toInt (x_6.toInt).toNat) → ((x_6.toInt = 0 ∧ x_8.toInt = 0) ∨ (x_6.toInt = 1 ∧ x_8.toInt ≤ 9) ∨ (x_6.toInt = 2 ∧ x_8.toInt ≤ 99) ∨ (x_6.toInt = 3 ∧ x_8.toInt ≤ 999) ∨ x_6.toInt = 4) → (2147483647 - x_6.toInt).toNat < n → va_P D gcl (zS_1 cB cC cI cJ a0 a1 a2 x_10 x1 x0 x3 x4 x5 a1 a3 x6 a3 f0) H → va_D A (zS_1 cB cC cI cJ a0 a1 a2 x_10 x1 x0 x3 x4 x5 a1 a3 x6 a3 f0) → va_S A s.heap H locs → lv_has ls 3 [(2, .int x_6), (1, .int x_8), (0, .ref a0)] → W p l e ({ frames := 2, cells := 0, slots := 0, locals := 43 }) s m args below meth c H locs 0 0 Q (F0 m 29 ls []) := by
      intro n
      induction n with
      | zero => intro x_6 x_8 x_10 H locs ls hi_7 hi_9 hi_11 hi_12 hi_13 hi_14 hi_15 hmu; exact absurd hmu (Nat.not_lt_zero _)
      | succ n ih_lp_16 =>
        intro x_6 x_8 x_10 H locs ls hi_7 hi_9 hi_11 hi_12 hi_13 hi_14 hi_15 hmu_lp_16 hP hD hS hl
        refine lv_iload_n (pc := 29) hx hb dX4_readNumber_29 rfl (lv_at hl 0 rfl) ?_
        refine lv_iconst (pc := 30) (v := 4) hx hb dX4_readNumber_30 (by decide) ?_
        refine b_icmp_ge (pc := 31) (tgt := 87) hx hb rfl tI_4  dX4_readNumber_31 (by decide) (fun c_17 => ?_) (fun c_17 => ?_)
        ·
          refine lv_aload_n (pc := 87) hx hb dX4_readNumber_87 rfl (lv_at hl 2 rfl) ?_
          refine va_get (pc := 88) (ci := 4) (v := .ref a1) (C := RX4) (T := TX4) (N := 8) hx hb hts iX4 hown hK hP 0 rfl rfl 0 (by decide) (hts _ tw_167) (fun _ h9 => h9) rfl dX4_readNumber_88 ?_
          refine lv_aload_n (pc := 91) hx hb dX4_readNumber_91 rfl (lv_at hl 2 rfl) ?_
          refine va_get (pc := 92) (ci := 4) (v := .int x_10) (C := RX4) (T := TX4) (N := 8) hx hb hts iX4 hown hK hP 0 rfl rfl 2 (by decide) (hts _ tw_170) (fun _ h9 => h9) rfl dX4_readNumber_92 ?_
          refine gd_i (pc := 95) (wc := [(a1, .inr (9, [.ref a3, .int x6])), (a3, .inl (cB, 1600, .inl f0))]) hP hD hS hA [1, 2] rfl (by decide +kernel) (fun _ => by rfl) (fun hPc hDc => va_runV (As := [.int x_10]) (rest := []) ⟨hx, hb, hml, hown, hts⟩ (k_X9_at_E l D cB cC cI cJ _ a1 a3 x_10 x6 f0 h_x6) ⟨gcwB hts tw_518 tw_3 tw_515 hd_yX9_at ⟨Nat.le_of_ble_eq_true rfl, Nat.le_of_ble_eq_true rfl⟩, hts _ tw_516, hts _ tw_517⟩ ⟨gblind, va_recv hK hPc (ci := 9) (q0 := 0) rfl rfl, (gpreS hPc hK hDc hN).2⟩ rfl rfl hl.1 rfl (lv_room (Nat.le_of_ble_eq_true rfl)) dX4_readNumber_95 ⟨Nat.le_of_ble_eq_true rfl, Nat.le_of_ble_eq_true rfl⟩) (fun r_19 u_18 H locs hw_20 hP hD hS => ?_)
          replace hP : va_P D gcl (zS_1 cB cC cI cJ a0 a1 a2 x_10 x1 x0 x3 x4 x5 a1 a3 x6 a3 f0) H := hP
          replace hD : va_D A (zS_1 cB cC cI cJ a0 a1 a2 x_10 x1 x0 x3 x4 x5 a1 a3 x6 a3 f0) := hD
          obtain ⟨hw_21, hw_22⟩ := hw_20
          replace hw_21 : ((r_19.toInt = (-1) ∧ x_10.toInt < 0) ∨ (r_19.toInt = (-1) ∧ x_10.toInt ≥ 0 ∧ x_10.toInt ≥ x6.toInt) ∨ ((0 ≤ r_19.toInt ∧ r_19.toInt ≤ 255) ∧ x_10.toInt ≥ 0 ∧ x_10.toInt < x6.toInt)) := hw_21
          replace hw_22 : (r_19.toInt = taub f0 x6.toInt x_10.toInt) := hw_22
          have rr_19 := n_rng r_19
          refine gd_i (pc := 98) (wc := []) hP hD hS hA [] rfl (by decide +kernel) (fun _ => by rfl) (fun hPc hDc => va_runS (As := [.int r_19]) (rest := []) ⟨hx, hb, hml, hown, hts⟩ (k_X4_isDigit l D cB cC cI cJ _ r_19) ⟨gcwB hts tw_527 tw_2 tw_525 hd_yX4_isDigit ⟨Nat.le_of_ble_eq_true rfl, Nat.le_of_ble_eq_true rfl⟩, hts _ tw_526⟩ (gpreS hPc hK hDc hN) rfl rfl hl.1 rfl (lv_room (Nat.le_of_ble_eq_true rfl)) dX4_readNumber_98 ⟨Nat.le_of_ble_eq_true rfl, Nat.le_of_ble_eq_true rfl⟩) (fun r_24 u_23 H locs hw_25 hP hD hS => ?_)
          replace hP : va_P D gcl (zS_1 cB cC cI cJ a0 a1 a2 x_10 x1 x0 x3 x4 x5 a1 a3 x6 a3 f0) H := hP
          replace hD : va_D A (zS_1 cB cC cI cJ a0 a1 a2 x_10 x1 x0 x3 x4 x5 a1 a3 x6 a3 f0) := hD
          have hw_26 : ((r_24.toInt = 0 ∧ r_19.toInt < 48) ∨ (r_24.toInt = 0 ∧ r_19.toInt ≥ 48 ∧ r_19.toInt > 57) ∨ (r_24.toInt = 1 ∧ r_19.toInt ≥ 48 ∧ r_19.toInt ≤ 57)) := hw_25
          have rr_24 := n_rng r_24
          refine b_if_eq (pc := 101) (tgt := 111) hx hb rfl  dX4_readNumber_101 (by decide) (fun c_27 => ?_) (fun c_27 => ?_)
          ·
            refine lv_aload_n (pc := 111) hx hb dX4_readNumber_111 rfl (lv_at hl 2 rfl) ?_
            refine lv_aload_n (pc := 112) hx hb dX4_readNumber_112 rfl (lv_at hl 2 rfl) ?_
            refine va_get (pc := 113) (ci := 4) (v := .int x_10) (C := RX4) (T := TX4) (N := 8) hx hb hts iX4 hown hK hP 0 rfl rfl 2 (by decide) (hts _ tw_170) (fun _ h9 => h9) rfl dX4_readNumber_113 ?_
            refine lv_iconst (pc := 116) (v := 1) hx hb dX4_readNumber_116 (by decide) ?_
            refine gd_v (pc := 117) (wc := (zS_1 cB cC cI cJ a0 a1 a2 x_10 x1 x0 x3 x4 x5 a1 a3 x6 a3 f0)) hP hD hS hA [0, 1, 2] rfl (by decide +kernel) (fun _ => by rfl) (fun hPc hDc => va_runV (As := [.int x_10, .int 1]) (rest := []) ⟨hx, hb, hml, hown, hts⟩ (k_X4_goOn l D cB cC cI cJ _ a0 a1 a2 a3 x_10 1 x_10 x1 x0 x3 x4 x5 x6 f0 hi_11 (n_c tI_1 (by decide)) hi_11 h_x1 h_x0 h_x4 h_x5 h_x6) ⟨gcwB hts tw_513 tw_2 tw_510 hd_yX4_goOn ⟨Nat.le_of_ble_eq_true rfl, Nat.le_of_ble_eq_true rfl⟩, hts _ tw_512, hts _ tp_0⟩ ⟨gblind, va_recv hK hPc (ci := 4) (q0 := 0) rfl rfl, (gpreS hPc hK hDc hN).2⟩ rfl rfl hl.1 rfl (lv_room (Nat.le_of_ble_eq_true rfl)) dX4_readNumber_117 ⟨Nat.le_of_ble_eq_true rfl, Nat.le_of_ble_eq_true rfl⟩) (fun u_28 H locs hw_30 hP hD hS => ?_)
            replace hP : va_P D gcl (zS_1 cB cC cI cJ a0 a1 a2 (u_28.2.2.2.1 0) (u_28.2.2.2.1 1) x0 x3 x4 x5 a1 a3 x6 a3 f0) H := hP
            replace hD : va_D A (zS_1 cB cC cI cJ a0 a1 a2 (u_28.2.2.2.1 0) (u_28.2.2.2.1 1) x0 x3 x4 x5 a1 a3 x6 a3 f0) := hD
            obtain ⟨hw_31, hw_32, hw_33, hw_34, hw_35⟩ := hw_30
            replace hw_31 : (0 ≤ (u_28.2.2.2.1 0).toInt ∧ (u_28.2.2.2.1 0).toInt ≤ 1600) := hw_31
            replace hw_32 : ((-1) ≤ (u_28.2.2.2.1 1).toInt ∧ (u_28.2.2.2.1 1).toInt ≤ 255) := hw_32
            replace hw_33 : ((u_28.2.2.2.1 0).toInt = skp (taub f0 x6.toInt) x_10.toInt) := hw_33
            replace hw_34 : ((u_28.2.2.2.1 1).toInt = gsn (taub f0 x6.toInt) x_10.toInt (u_28.2.2.2.1 0).toInt (1 : Int32).toInt) := hw_34
            replace hw_35 : (x_10.toInt ≤ (u_28.2.2.2.1 0).toInt) := hw_35
            have kk0_r_29 := tI_1
            refine lv_iload_n (pc := 120) hx hb dX4_readNumber_120 rfl (lv_at hl 1 rfl) ?_
            exact hret x_8 ((fun _ => 0), (fun _ => (fun _ => 0)), (fun _ => (fun _ => 0)), (fun k => [(u_28.2.2.2.1 0), (u_28.2.2.2.1 1), x0, x4, x5].getD k 0), (fun _ => 0)) dX4_readNumber_121 ⟨(show ((-1) ≤ x_8.toInt ∧ x_8.toInt ≤ 9999) from (by first | exact (om_56 hi_9.1 hi_9.2) | (omega))), (show (0 ≤ ((u_28.2.2.2.1 0) : Int32).toInt ∧ ((u_28.2.2.2.1 0) : Int32).toInt ≤ 1600) from hw_31), (show ((-1) ≤ ((u_28.2.2.2.1 1) : Int32).toInt ∧ ((u_28.2.2.2.1 1) : Int32).toInt ≤ 255) from hw_32), (show (0 ≤ (x0 : Int32).toInt ∧ (x0 : Int32).toInt ≤ 1600) from h_x0), (show (0 ≤ (x4 : Int32).toInt ∧ (x4 : Int32).toInt ≤ 4) from h_x4), (show ((-1) ≤ (x5 : Int32).toInt ∧ (x5 : Int32).toInt ≤ 1600) from h_x5), (show nuQ (taub f0 x6.toInt) x0.toInt x1.toInt x_8.toInt (u_28.2.2.2.1 0).toInt (u_28.2.2.2.1 1).toInt x0.toInt x4.toInt x5.toInt from nu_yes (by first | exact (om_57 hw_4 c_5) | (omega)) hi_13 (by first | exact (om_58 hi_7.2) | (omega)) hi_12 hw_22 (by first | exact (om_59 hw_26 c_27) | (omega)) hi_14 (by first | exact (om_0 hi_9.1) | (omega)) hw_33 hw_34 (by first | exact (om_36 tI_1) | (omega)) (by first | exact (om_53) | (omega))), (show x0.toInt ≤ (u_28.2.2.2.1 0).toInt from (by first | exact (om_60 hw_35 hi_12 c_17) | (omega))), (show x_8.toInt = -1 ∨ (x4.toInt = 0 ∧ x5.toInt = -1) from (by first | exact (om_61 hg__ff.1 hg__ff.2) | (omega)))⟩ (g_psub (wc := (zS_1 cB cC cI cJ a0 a1 a2 (u_28.2.2.2.1 0) (u_28.2.2.2.1 1) x0 x3 x4 x5 a1 a3 x6 a3 f0)) hP [0, 1, 2] rfl) (hD.sub (ws' := (zS_1 cB cC cI cJ a0 a1 a2 (u_28.2.2.2.1 0) (u_28.2.2.2.1 1) x0 x3 x4 x5 a1 a3 x6 a3 f0)) [0, 1, 2] (by decide) rfl) hS
          ·
            refine lv_aload_n (pc := 104) hx hb dX4_readNumber_104 rfl (lv_at hl 2 rfl) ?_
            refine gd_i (pc := 105) (wc := (zS_2 cB cC cI cJ a0 a1 a2 x_10 x1 x0 x3 x4 x5)) hP hD hS hA [0] rfl (by decide +kernel) (fun _ => by rfl) (fun hPc hDc => va_runV (As := []) (rest := []) ⟨hx, hb, hml, hown, hts⟩ (k_X4_failHere l D cB cC cI cJ _ a0 a1 a2 x_10 x1 x0 x3 x4 x5 hi_11 h_x1 h_x0 h_x4 h_x5) ⟨gcwB hts tw_531 tw_2 tw_528 hd_yX4_failHere ⟨Nat.le_of_ble_eq_true rfl, Nat.le_of_ble_eq_true rfl⟩, hts _ tw_530, hts _ tp_1⟩ ⟨gblind, va_recv hK hPc (ci := 4) (q0 := 0) rfl rfl, (gpreS hPc hK hDc hN).2⟩ rfl rfl hl.1 rfl (lv_room (Nat.le_of_ble_eq_true rfl)) dX4_readNumber_105 ⟨Nat.le_of_ble_eq_true rfl, Nat.le_of_ble_eq_true rfl⟩) (fun r_37 u_36 H locs hw_38 hP hD hS => ?_)
            replace hP : va_P D gcl (zS_1 cB cC cI cJ a0 a1 a2 x_10 x1 x0 x3 1 x_10 a1 a3 x6 a3 f0) H := hP
            replace hD : va_D A (zS_1 cB cC cI cJ a0 a1 a2 x_10 x1 x0 x3 1 x_10 a1 a3 x6 a3 f0) := hD
            have hw_39 : (0 ≤ r_37.toInt ∧ r_37.toInt ≤ 0) := hw_38
            have rr_37 := n_rng r_37
            refine lv_pop (pc := 108) hx hb dX4_readNumber_108 rfl ?_
            refine lv_iconst (pc := 109) (v := (-1)) hx hb dX4_readNumber_109 (by decide) ?_
            have k9 := tI_m1
            have k8_0 := tI_1
            exact hret (-1) ((fun _ => 0), (fun _ => (fun _ => 0)), (fun _ => (fun _ => 0)), (fun k => [x_10, x1, x0, 1, x_10].getD k 0), (fun _ => 0)) dX4_readNumber_110 ⟨(show ((-1) ≤ ((-1) : Int32).toInt ∧ ((-1) : Int32).toInt ≤ 9999) from (n_c tI_m1 (by decide))), (show (0 ≤ (x_10 : Int32).toInt ∧ (x_10 : Int32).toInt ≤ 1600) from hi_11), (show ((-1) ≤ (x1 : Int32).toInt ∧ (x1 : Int32).toInt ≤ 255) from h_x1), (show (0 ≤ (x0 : Int32).toInt ∧ (x0 : Int32).toInt ≤ 1600) from h_x0), (show (0 ≤ (1 : Int32).toInt ∧ (1 : Int32).toInt ≤ 4) from (n_c tI_1 (by decide))), (show ((-1) ≤ (x_10 : Int32).toInt ∧ (x_10 : Int32).toInt ≤ 1600) from (by first | exact (om_52 hi_11.1 hi_11.2) | (have k9 := tI_m1; have k8_0 := tI_1; omega))), (show nuQ (taub f0 x6.toInt) x0.toInt x1.toInt ((-1) : Int32).toInt x_10.toInt x1.toInt x0.toInt (1 : Int32).toInt x_10.toInt from nu_five (by first | exact (om_57 hw_4 c_5) | (omega)) hi_13 (by first | exact (om_62 c_17 hi_7.2) | (omega)) (by first | exact (om_63 hi_12) | (omega)) hw_22 (by first | exact (om_64 hw_26 hw_21 c_27) | (omega)) (by first | exact (om_65 tI_m1) | (omega)) (by first | exact (om_28 tI_1) | (omega))), (show x0.toInt ≤ x_10.toInt from (by first | exact (om_66 hi_12 c_17) | (have k9 := tI_m1; have k8_0 := tI_1; omega))), (show ((-1) : Int32).toInt = -1 ∨ ((1 : Int32).toInt = 0 ∧ x_10.toInt = -1) from (by first | exact (om_67 tI_m1) | (have k9 := tI_m1; have k8_0 := tI_1; omega)))⟩ (g_psub (wc := (zS_1 cB cC cI cJ a0 a1 a2 x_10 x1 x0 x3 1 x_10 a1 a3 x6 a3 f0)) hP [0, 1, 2] rfl) (hD.sub (ws' := (zS_1 cB cC cI cJ a0 a1 a2 x_10 x1 x0 x3 1 x_10 a1 a3 x6 a3 f0)) [0, 1, 2] (by decide) rfl) hS
        ·
          refine lv_aload_n (pc := 34) hx hb dX4_readNumber_34 rfl (lv_at hl 2 rfl) ?_
          refine va_get (pc := 35) (ci := 4) (v := .ref a1) (C := RX4) (T := TX4) (N := 8) hx hb hts iX4 hown hK hP 0 rfl rfl 0 (by decide) (hts _ tw_167) (fun _ h9 => h9) rfl dX4_readNumber_35 ?_
          refine lv_aload_n (pc := 38) hx hb dX4_readNumber_38 rfl (lv_at hl 2 rfl) ?_
          refine va_get (pc := 39) (ci := 4) (v := .int x_10) (C := RX4) (T := TX4) (N := 8) hx hb hts iX4 hown hK hP 0 rfl rfl 2 (by decide) (hts _ tw_170) (fun _ h9 => h9) rfl dX4_readNumber_39 ?_
          refine gd_i (pc := 42) (wc := [(a1, .inr (9, [.ref a3, .int x6])), (a3, .inl (cB, 1600, .inl f0))]) hP hD hS hA [1, 2] rfl (by decide +kernel) (fun _ => by rfl) (fun hPc hDc => va_runV (As := [.int x_10]) (rest := []) ⟨hx, hb, hml, hown, hts⟩ (k_X9_at_E l D cB cC cI cJ _ a1 a3 x_10 x6 f0 h_x6) ⟨gcwB hts tw_518 tw_3 tw_515 hd_yX9_at ⟨Nat.le_of_ble_eq_true rfl, Nat.le_of_ble_eq_true rfl⟩, hts _ tw_516, hts _ tw_517⟩ ⟨gblind, va_recv hK hPc (ci := 9) (q0 := 0) rfl rfl, (gpreS hPc hK hDc hN).2⟩ rfl rfl hl.1 rfl (lv_room (Nat.le_of_ble_eq_true rfl)) dX4_readNumber_42 ⟨Nat.le_of_ble_eq_true rfl, Nat.le_of_ble_eq_true rfl⟩) (fun r_41 u_40 H locs hw_42 hP hD hS => ?_)
          replace hP : va_P D gcl (zS_1 cB cC cI cJ a0 a1 a2 x_10 x1 x0 x3 x4 x5 a1 a3 x6 a3 f0) H := hP
          replace hD : va_D A (zS_1 cB cC cI cJ a0 a1 a2 x_10 x1 x0 x3 x4 x5 a1 a3 x6 a3 f0) := hD
          obtain ⟨hw_43, hw_44⟩ := hw_42
          replace hw_43 : ((r_41.toInt = (-1) ∧ x_10.toInt < 0) ∨ (r_41.toInt = (-1) ∧ x_10.toInt ≥ 0 ∧ x_10.toInt ≥ x6.toInt) ∨ ((0 ≤ r_41.toInt ∧ r_41.toInt ≤ 255) ∧ x_10.toInt ≥ 0 ∧ x_10.toInt < x6.toInt)) := hw_43
          replace hw_44 : (r_41.toInt = taub f0 x6.toInt x_10.toInt) := hw_44
          have rr_41 := n_rng r_41
          refine gd_i (pc := 45) (wc := []) hP hD hS hA [] rfl (by decide +kernel) (fun _ => by rfl) (fun hPc hDc => va_runS (As := [.int r_41]) (rest := []) ⟨hx, hb, hml, hown, hts⟩ (k_X4_isDigit l D cB cC cI cJ _ r_41) ⟨gcwB hts tw_527 tw_2 tw_525 hd_yX4_isDigit ⟨Nat.le_of_ble_eq_true rfl, Nat.le_of_ble_eq_true rfl⟩, hts _ tw_526⟩ (gpreS hPc hK hDc hN) rfl rfl hl.1 rfl (lv_room (Nat.le_of_ble_eq_true rfl)) dX4_readNumber_45 ⟨Nat.le_of_ble_eq_true rfl, Nat.le_of_ble_eq_true rfl⟩) (fun r_46 u_45 H locs hw_47 hP hD hS => ?_)
          replace hP : va_P D gcl (zS_1 cB cC cI cJ a0 a1 a2 x_10 x1 x0 x3 x4 x5 a1 a3 x6 a3 f0) H := hP
          replace hD : va_D A (zS_1 cB cC cI cJ a0 a1 a2 x_10 x1 x0 x3 x4 x5 a1 a3 x6 a3 f0) := hD
          have hw_48 : ((r_46.toInt = 0 ∧ r_41.toInt < 48) ∨ (r_46.toInt = 0 ∧ r_41.toInt ≥ 48 ∧ r_41.toInt > 57) ∨ (r_46.toInt = 1 ∧ r_41.toInt ≥ 48 ∧ r_41.toInt ≤ 57)) := hw_47
          have rr_46 := n_rng r_46
          refine b_if_eq (pc := 48) (tgt := 87) hx hb rfl  dX4_readNumber_48 (by decide) (fun c_49 => ?_) (fun c_49 => ?_)
          ·
            refine lv_aload_n (pc := 87) hx hb dX4_readNumber_87 rfl (lv_at hl 2 rfl) ?_
            refine va_get (pc := 88) (ci := 4) (v := .ref a1) (C := RX4) (T := TX4) (N := 8) hx hb hts iX4 hown hK hP 0 rfl rfl 0 (by decide) (hts _ tw_167) (fun _ h9 => h9) rfl dX4_readNumber_88 ?_
            refine lv_aload_n (pc := 91) hx hb dX4_readNumber_91 rfl (lv_at hl 2 rfl) ?_
            refine va_get (pc := 92) (ci := 4) (v := .int x_10) (C := RX4) (T := TX4) (N := 8) hx hb hts iX4 hown hK hP 0 rfl rfl 2 (by decide) (hts _ tw_170) (fun _ h9 => h9) rfl dX4_readNumber_92 ?_
            refine gd_i (pc := 95) (wc := [(a1, .inr (9, [.ref a3, .int x6])), (a3, .inl (cB, 1600, .inl f0))]) hP hD hS hA [1, 2] rfl (by decide +kernel) (fun _ => by rfl) (fun hPc hDc => va_runV (As := [.int x_10]) (rest := []) ⟨hx, hb, hml, hown, hts⟩ (k_X9_at_E l D cB cC cI cJ _ a1 a3 x_10 x6 f0 h_x6) ⟨gcwB hts tw_518 tw_3 tw_515 hd_yX9_at ⟨Nat.le_of_ble_eq_true rfl, Nat.le_of_ble_eq_true rfl⟩, hts _ tw_516, hts _ tw_517⟩ ⟨gblind, va_recv hK hPc (ci := 9) (q0 := 0) rfl rfl, (gpreS hPc hK hDc hN).2⟩ rfl rfl hl.1 rfl (lv_room (Nat.le_of_ble_eq_true rfl)) dX4_readNumber_95 ⟨Nat.le_of_ble_eq_true rfl, Nat.le_of_ble_eq_true rfl⟩) (fun r_51 u_50 H locs hw_52 hP hD hS => ?_)
            replace hP : va_P D gcl (zS_1 cB cC cI cJ a0 a1 a2 x_10 x1 x0 x3 x4 x5 a1 a3 x6 a3 f0) H := hP
            replace hD : va_D A (zS_1 cB cC cI cJ a0 a1 a2 x_10 x1 x0 x3 x4 x5 a1 a3 x6 a3 f0) := hD
            obtain ⟨hw_53, hw_54⟩ := hw_52
            replace hw_53 : ((r_51.toInt = (-1) ∧ x_10.toInt < 0) ∨ (r_51.toInt = (-1) ∧ x_10.toInt ≥ 0 ∧ x_10.toInt ≥ x6.toInt) ∨ ((0 ≤ r_51.toInt ∧ r_51.toInt ≤ 255) ∧ x_10.toInt ≥ 0 ∧ x_10.toInt < x6.toInt)) := hw_53
            replace hw_54 : (r_51.toInt = taub f0 x6.toInt x_10.toInt) := hw_54
            have rr_51 := n_rng r_51
            refine gd_i (pc := 98) (wc := []) hP hD hS hA [] rfl (by decide +kernel) (fun _ => by rfl) (fun hPc hDc => va_runS (As := [.int r_51]) (rest := []) ⟨hx, hb, hml, hown, hts⟩ (k_X4_isDigit l D cB cC cI cJ _ r_51) ⟨gcwB hts tw_527 tw_2 tw_525 hd_yX4_isDigit ⟨Nat.le_of_ble_eq_true rfl, Nat.le_of_ble_eq_true rfl⟩, hts _ tw_526⟩ (gpreS hPc hK hDc hN) rfl rfl hl.1 rfl (lv_room (Nat.le_of_ble_eq_true rfl)) dX4_readNumber_98 ⟨Nat.le_of_ble_eq_true rfl, Nat.le_of_ble_eq_true rfl⟩) (fun r_56 u_55 H locs hw_57 hP hD hS => ?_)
            replace hP : va_P D gcl (zS_1 cB cC cI cJ a0 a1 a2 x_10 x1 x0 x3 x4 x5 a1 a3 x6 a3 f0) H := hP
            replace hD : va_D A (zS_1 cB cC cI cJ a0 a1 a2 x_10 x1 x0 x3 x4 x5 a1 a3 x6 a3 f0) := hD
            have hw_58 : ((r_56.toInt = 0 ∧ r_51.toInt < 48) ∨ (r_56.toInt = 0 ∧ r_51.toInt ≥ 48 ∧ r_51.toInt > 57) ∨ (r_56.toInt = 1 ∧ r_51.toInt ≥ 48 ∧ r_51.toInt ≤ 57)) := hw_57
            have rr_56 := n_rng r_56
            refine b_if_eq (pc := 101) (tgt := 111) hx hb rfl  dX4_readNumber_101 (by decide) (fun c_59 => ?_) (fun c_59 => ?_)
            ·
              refine lv_aload_n (pc := 111) hx hb dX4_readNumber_111 rfl (lv_at hl 2 rfl) ?_
              refine lv_aload_n (pc := 112) hx hb dX4_readNumber_112 rfl (lv_at hl 2 rfl) ?_
              refine va_get (pc := 113) (ci := 4) (v := .int x_10) (C := RX4) (T := TX4) (N := 8) hx hb hts iX4 hown hK hP 0 rfl rfl 2 (by decide) (hts _ tw_170) (fun _ h9 => h9) rfl dX4_readNumber_113 ?_
              refine lv_iconst (pc := 116) (v := 1) hx hb dX4_readNumber_116 (by decide) ?_
              refine gd_v (pc := 117) (wc := (zS_1 cB cC cI cJ a0 a1 a2 x_10 x1 x0 x3 x4 x5 a1 a3 x6 a3 f0)) hP hD hS hA [0, 1, 2] rfl (by decide +kernel) (fun _ => by rfl) (fun hPc hDc => va_runV (As := [.int x_10, .int 1]) (rest := []) ⟨hx, hb, hml, hown, hts⟩ (k_X4_goOn l D cB cC cI cJ _ a0 a1 a2 a3 x_10 1 x_10 x1 x0 x3 x4 x5 x6 f0 hi_11 (n_c tI_1 (by decide)) hi_11 h_x1 h_x0 h_x4 h_x5 h_x6) ⟨gcwB hts tw_513 tw_2 tw_510 hd_yX4_goOn ⟨Nat.le_of_ble_eq_true rfl, Nat.le_of_ble_eq_true rfl⟩, hts _ tw_512, hts _ tp_0⟩ ⟨gblind, va_recv hK hPc (ci := 4) (q0 := 0) rfl rfl, (gpreS hPc hK hDc hN).2⟩ rfl rfl hl.1 rfl (lv_room (Nat.le_of_ble_eq_true rfl)) dX4_readNumber_117 ⟨Nat.le_of_ble_eq_true rfl, Nat.le_of_ble_eq_true rfl⟩) (fun u_60 H locs hw_62 hP hD hS => ?_)
              replace hP : va_P D gcl (zS_1 cB cC cI cJ a0 a1 a2 (u_60.2.2.2.1 0) (u_60.2.2.2.1 1) x0 x3 x4 x5 a1 a3 x6 a3 f0) H := hP
              replace hD : va_D A (zS_1 cB cC cI cJ a0 a1 a2 (u_60.2.2.2.1 0) (u_60.2.2.2.1 1) x0 x3 x4 x5 a1 a3 x6 a3 f0) := hD
              obtain ⟨hw_63, hw_64, hw_65, hw_66, hw_67⟩ := hw_62
              replace hw_63 : (0 ≤ (u_60.2.2.2.1 0).toInt ∧ (u_60.2.2.2.1 0).toInt ≤ 1600) := hw_63
              replace hw_64 : ((-1) ≤ (u_60.2.2.2.1 1).toInt ∧ (u_60.2.2.2.1 1).toInt ≤ 255) := hw_64
              replace hw_65 : ((u_60.2.2.2.1 0).toInt = skp (taub f0 x6.toInt) x_10.toInt) := hw_65
              replace hw_66 : ((u_60.2.2.2.1 1).toInt = gsn (taub f0 x6.toInt) x_10.toInt (u_60.2.2.2.1 0).toInt (1 : Int32).toInt) := hw_66
              replace hw_67 : (x_10.toInt ≤ (u_60.2.2.2.1 0).toInt) := hw_67
              have kk0_r_61 := tI_1
              refine lv_iload_n (pc := 120) hx hb dX4_readNumber_120 rfl (lv_at hl 1 rfl) ?_
              exact hret x_8 ((fun _ => 0), (fun _ => (fun _ => 0)), (fun _ => (fun _ => 0)), (fun k => [(u_60.2.2.2.1 0), (u_60.2.2.2.1 1), x0, x4, x5].getD k 0), (fun _ => 0)) dX4_readNumber_121 ⟨(show ((-1) ≤ x_8.toInt ∧ x_8.toInt ≤ 9999) from (by first | exact (om_56 hi_9.1 hi_9.2) | (omega))), (show (0 ≤ ((u_60.2.2.2.1 0) : Int32).toInt ∧ ((u_60.2.2.2.1 0) : Int32).toInt ≤ 1600) from hw_63), (show ((-1) ≤ ((u_60.2.2.2.1 1) : Int32).toInt ∧ ((u_60.2.2.2.1 1) : Int32).toInt ≤ 255) from hw_64), (show (0 ≤ (x0 : Int32).toInt ∧ (x0 : Int32).toInt ≤ 1600) from h_x0), (show (0 ≤ (x4 : Int32).toInt ∧ (x4 : Int32).toInt ≤ 4) from h_x4), (show ((-1) ≤ (x5 : Int32).toInt ∧ (x5 : Int32).toInt ≤ 1600) from h_x5), (show nuQ (taub f0 x6.toInt) x0.toInt x1.toInt x_8.toInt (u_60.2.2.2.1 0).toInt (u_60.2.2.2.1 1).toInt x0.toInt x4.toInt x5.toInt from nu_yes (by first | exact (om_57 hw_4 c_5) | (omega)) hi_13 (by first | exact (om_68 c_17) | (omega)) hi_12 hw_54 (by first | exact (om_59 hw_58 c_59) | (omega)) hi_14 (by first | exact (om_0 hi_9.1) | (omega)) hw_65 hw_66 (by first | exact (om_36 tI_1) | (omega)) (by first | exact (om_53) | (omega))), (show x0.toInt ≤ (u_60.2.2.2.1 0).toInt from (by first | exact (om_69 hw_67 hi_12 hi_7.1) | (omega))), (show x_8.toInt = -1 ∨ (x4.toInt = 0 ∧ x5.toInt = -1) from (by first | exact (om_61 hg__ff.1 hg__ff.2) | (omega)))⟩ (g_psub (wc := (zS_1 cB cC cI cJ a0 a1 a2 (u_60.2.2.2.1 0) (u_60.2.2.2.1 1) x0 x3 x4 x5 a1 a3 x6 a3 f0)) hP [0, 1, 2] rfl) (hD.sub (ws' := (zS_1 cB cC cI cJ a0 a1 a2 (u_60.2.2.2.1 0) (u_60.2.2.2.1 1) x0 x3 x4 x5 a1 a3 x6 a3 f0)) [0, 1, 2] (by decide) rfl) hS
            ·
              refine lv_aload_n (pc := 104) hx hb dX4_readNumber_104 rfl (lv_at hl 2 rfl) ?_
              refine gd_i (pc := 105) (wc := (zS_2 cB cC cI cJ a0 a1 a2 x_10 x1 x0 x3 x4 x5)) hP hD hS hA [0] rfl (by decide +kernel) (fun _ => by rfl) (fun hPc hDc => va_runV (As := []) (rest := []) ⟨hx, hb, hml, hown, hts⟩ (k_X4_failHere l D cB cC cI cJ _ a0 a1 a2 x_10 x1 x0 x3 x4 x5 hi_11 h_x1 h_x0 h_x4 h_x5) ⟨gcwB hts tw_531 tw_2 tw_528 hd_yX4_failHere ⟨Nat.le_of_ble_eq_true rfl, Nat.le_of_ble_eq_true rfl⟩, hts _ tw_530, hts _ tp_1⟩ ⟨gblind, va_recv hK hPc (ci := 4) (q0 := 0) rfl rfl, (gpreS hPc hK hDc hN).2⟩ rfl rfl hl.1 rfl (lv_room (Nat.le_of_ble_eq_true rfl)) dX4_readNumber_105 ⟨Nat.le_of_ble_eq_true rfl, Nat.le_of_ble_eq_true rfl⟩) (fun r_69 u_68 H locs hw_70 hP hD hS => ?_)
              replace hP : va_P D gcl (zS_1 cB cC cI cJ a0 a1 a2 x_10 x1 x0 x3 1 x_10 a1 a3 x6 a3 f0) H := hP
              replace hD : va_D A (zS_1 cB cC cI cJ a0 a1 a2 x_10 x1 x0 x3 1 x_10 a1 a3 x6 a3 f0) := hD
              have hw_71 : (0 ≤ r_69.toInt ∧ r_69.toInt ≤ 0) := hw_70
              have rr_69 := n_rng r_69
              refine lv_pop (pc := 108) hx hb dX4_readNumber_108 rfl ?_
              refine lv_iconst (pc := 109) (v := (-1)) hx hb dX4_readNumber_109 (by decide) ?_
              have k9 := tI_m1
              have k8_0 := tI_1
              exact hret (-1) ((fun _ => 0), (fun _ => (fun _ => 0)), (fun _ => (fun _ => 0)), (fun k => [x_10, x1, x0, 1, x_10].getD k 0), (fun _ => 0)) dX4_readNumber_110 ⟨(show ((-1) ≤ ((-1) : Int32).toInt ∧ ((-1) : Int32).toInt ≤ 9999) from (n_c tI_m1 (by decide))), (show (0 ≤ (x_10 : Int32).toInt ∧ (x_10 : Int32).toInt ≤ 1600) from hi_11), (show ((-1) ≤ (x1 : Int32).toInt ∧ (x1 : Int32).toInt ≤ 255) from h_x1), (show (0 ≤ (x0 : Int32).toInt ∧ (x0 : Int32).toInt ≤ 1600) from h_x0), (show (0 ≤ (1 : Int32).toInt ∧ (1 : Int32).toInt ≤ 4) from (n_c tI_1 (by decide))), (show ((-1) ≤ (x_10 : Int32).toInt ∧ (x_10 : Int32).toInt ≤ 1600) from (by first | exact (om_52 hi_11.1 hi_11.2) | (have k9 := tI_m1; have k8_0 := tI_1; omega))), (show nuQ (taub f0 x6.toInt) x0.toInt x1.toInt ((-1) : Int32).toInt x_10.toInt x1.toInt x0.toInt (1 : Int32).toInt x_10.toInt from nu_five (by first | exact (om_57 hw_4 c_5) | (omega)) hi_13 (by omega) (by first | exact (om_63 hi_12) | (omega)) hw_54 (by first | exact (om_64 hw_58 hw_53 c_59) | (omega)) (by first | exact (om_65 tI_m1) | (omega)) (by first | exact (om_28 tI_1) | (omega))), (show x0.toInt ≤ x_10.toInt from (by first | exact (om_70 hi_12 hi_7.1) | (have k9 := tI_m1; have k8_0 := tI_1; omega))), (show ((-1) : Int32).toInt = -1 ∨ ((1 : Int32).toInt = 0 ∧ x_10.toInt = -1) from (by first | exact (om_67 tI_m1) | (have k9 := tI_m1; have k8_0 := tI_1; omega)))⟩ (g_psub (wc := (zS_1 cB cC cI cJ a0 a1 a2 x_10 x1 x0 x3 1 x_10 a1 a3 x6 a3 f0)) hP [0, 1, 2] rfl) (hD.sub (ws' := (zS_1 cB cC cI cJ a0 a1 a2 x_10 x1 x0 x3 1 x_10 a1 a3 x6 a3 f0)) [0, 1, 2] (by decide) rfl) hS
          ·
            refine lv_bipush (pc := 51) (v := 10) hx hb dX4_readNumber_51 (by decide) ?_
            refine lv_iload_n (pc := 53) hx hb dX4_readNumber_53 rfl (lv_at hl 1 rfl) ?_
            refine b_imul (pc := 54) hx hb tI_10 rfl (by first | exact (om_71 hi_9.1) | (omega)) (by first | exact (om_72 hi_9.2) | (omega)) dX4_readNumber_54 (fun x_72 ex_72 => ?_)
            refine lv_aload_n (pc := 55) hx hb dX4_readNumber_55 rfl (lv_at hl 2 rfl) ?_
            refine va_get (pc := 56) (ci := 4) (v := .ref a1) (C := RX4) (T := TX4) (N := 8) hx hb hts iX4 hown hK hP 0 rfl rfl 0 (by decide) (hts _ tw_167) (fun _ h9 => h9) rfl dX4_readNumber_56 ?_
            refine lv_aload_n (pc := 59) hx hb dX4_readNumber_59 rfl (lv_at hl 2 rfl) ?_
            refine va_get (pc := 60) (ci := 4) (v := .int x_10) (C := RX4) (T := TX4) (N := 8) hx hb hts iX4 hown hK hP 0 rfl rfl 2 (by decide) (hts _ tw_170) (fun _ h9 => h9) rfl dX4_readNumber_60 ?_
            refine gd_i (pc := 63) (wc := [(a1, .inr (9, [.ref a3, .int x6])), (a3, .inl (cB, 1600, .inl f0))]) hP hD hS hA [1, 2] rfl (by decide +kernel) (fun _ => by rfl) (fun hPc hDc => va_runV (As := [.int x_10]) (rest := [.int x_72]) ⟨hx, hb, hml, hown, hts⟩ (k_X9_at_E l D cB cC cI cJ _ a1 a3 x_10 x6 f0 h_x6) ⟨gcwB hts tw_518 tw_3 tw_515 hd_yX9_at ⟨Nat.le_of_ble_eq_true rfl, Nat.le_of_ble_eq_true rfl⟩, hts _ tw_516, hts _ tw_517⟩ ⟨gblind, va_recv hK hPc (ci := 9) (q0 := 0) rfl rfl, (gpreS hPc hK hDc hN).2⟩ rfl rfl hl.1 rfl (lv_room (Nat.le_of_ble_eq_true rfl)) dX4_readNumber_63 ⟨Nat.le_of_ble_eq_true rfl, Nat.le_of_ble_eq_true rfl⟩) (fun r_74 u_73 H locs hw_75 hP hD hS => ?_)
            replace hP : va_P D gcl (zS_1 cB cC cI cJ a0 a1 a2 x_10 x1 x0 x3 x4 x5 a1 a3 x6 a3 f0) H := hP
            replace hD : va_D A (zS_1 cB cC cI cJ a0 a1 a2 x_10 x1 x0 x3 x4 x5 a1 a3 x6 a3 f0) := hD
            obtain ⟨hw_76, hw_77⟩ := hw_75
            replace hw_76 : ((r_74.toInt = (-1) ∧ x_10.toInt < 0) ∨ (r_74.toInt = (-1) ∧ x_10.toInt ≥ 0 ∧ x_10.toInt ≥ x6.toInt) ∨ ((0 ≤ r_74.toInt ∧ r_74.toInt ≤ 255) ∧ x_10.toInt ≥ 0 ∧ x_10.toInt < x6.toInt)) := hw_76
            replace hw_77 : (r_74.toInt = taub f0 x6.toInt x_10.toInt) := hw_77
            have rr_74 := n_rng r_74
            refine b_iadd (pc := 66) hx hb rfl rfl (by first | exact (om_73 rr_74.1 ex_72 hi_9.1) | (omega)) (by first | exact (om_74 hw_76 hi_11.1 ex_72 hi_9.2) | (omega)) dX4_readNumber_66 (fun x_78 ex_78 => ?_)
            refine lv_bipush (pc := 67) (v := 48) hx hb dX4_readNumber_67 (by decide) ?_
            refine b_isub (pc := 69) hx hb rfl tI_48 (by first | exact (om_75 hw_76 ex_78 ex_72 hi_9.1) | (omega)) (by first | exact (om_76 hw_76 ex_78 ex_72 hi_9.2) | (omega)) dX4_readNumber_69 (fun x_79 ex_79 => ?_)
            refine lv_istore_n (pc := 70) (lv' := [(1, .int x_79), (2, .int x_6), (0, .ref a0)]) hx hb dX4_readNumber_70 rfl hl (by decide) rfl (fun ls hl => ?_)
            refine lv_aload_n (pc := 71) hx hb dX4_readNumber_71 rfl (lv_at hl 2 rfl) ?_
            refine lv_dup (pc := 72) hx hb dX4_readNumber_72 rfl ?_
            refine va_get (pc := 73) (ci := 4) (v := .int x_10) (C := RX4) (T := TX4) (N := 8) hx hb hts iX4 hown hK hP 0 rfl rfl 2 (by decide) (hts _ tw_170) (fun _ h9 => h9) rfl dX4_readNumber_73 ?_
            refine lv_iconst (pc := 76) (v := 1) hx hb dX4_readNumber_76 (by decide) ?_
            refine b_iadd (pc := 77) hx hb rfl tI_1 (by first | exact (om_2 hi_11.1) | (omega)) (by first | exact (om_24 hi_11.2) | (omega)) dX4_readNumber_77 (fun x_80 ex_80 => ?_)
            refine va_put (pc := 78) (ci := 4) (v := .int x_80) (ty := .int) (C := RX4) (T := TX4) (N := 8) hx hb hts iX4 tyX4 tyX4_ok nmX4 hown hK hP hD hS 0 rfl rfl 2 (by decide) (hts _ tw_170) (fun _ h9 => h9) rfl (by decide +kernel) rfl rfl (Nat.le_of_ble_eq_true rfl) dX4_readNumber_78 (fun H locs hP hD hS => ?_)
            replace hP : va_P D gcl (zS_1 cB cC cI cJ a0 a1 a2 x_80 x1 x0 x3 x4 x5 a1 a3 x6 a3 f0) H := hP
            replace hD : va_D A (zS_1 cB cC cI cJ a0 a1 a2 x_80 x1 x0 x3 x4 x5 a1 a3 x6 a3 f0) := hD
            refine b_iinc (pc := 81) hx hb dX4_readNumber_81 hl (k := 1) rfl rfl tI_1 (by first | exact (om_2 hi_7.1) | (omega)) (by first | exact (om_77 c_17) | (omega)) (by decide) (fun x_81 ex_81 ls hl => ?_)
            replace hl : lv_has ls 3 [(2, .int x_81), (1, .int x_79), (0, .ref a0)] := hl
            refine lv_goto (pc := 84) (tgt := 29) hx hb dX4_readNumber_84 (by decide) ?_
            exact ih_lp_16 x_81 x_79 x_80 _ _ ls (by first | exact (om_78 ex_81 hi_7.1 c_17) | (omega)) (by omega) (by omega) (by first | exact (om_79 ex_81 ex_80 hi_12) | (omega)) (dgs_up hi_13 (by first | exact (om_5 ex_81) | (omega)) (by omega) hw_77 (by omega)) (nvk_up hi_14 (by first | exact (om_0 hi_7.1) | (omega)) (by first | exact (om_5 ex_81) | (omega)) (by omega) hw_77 (by first | exact (om_80 ex_79 ex_78 ex_72) | (omega))) (by omega) (by omega) hP hD hS (lv_sub hl [0, 1, 2] rfl)
    exact lp_16 _ 0 0 x0 _ _ ls (n_c tI_0 (by decide)) (n_c tI_0 (by decide)) h_x0 (by have q := tI_0; omega) (dgs_0 tI_0) (by rw [tI_0]; rfl) (by have q := tI_0; omega) (Nat.lt_succ_self _) hP hD hS (lv_sub hl [0, 1, 2] rfl)
  ·
    refine lv_aload_n (pc := 10) hx hb dX4_readNumber_10 rfl (lv_at hl 0 rfl) ?_
    refine gd_i (pc := 11) (wc := (zS_2 cB cC cI cJ a0 a1 a2 x0 x1 x2 x3 x4 x5)) hP hD hS hA [0] rfl (by decide +kernel) (fun _ => by rfl) (fun hPc hDc => va_runV (As := []) (rest := []) ⟨hx, hb, hml, hown, hts⟩ (k_X4_failHere l D cB cC cI cJ _ a0 a1 a2 x0 x1 x2 x3 x4 x5 h_x0 h_x1 h_x2 h_x4 h_x5) ⟨gcwB hts tw_531 tw_2 tw_528 hd_yX4_failHere ⟨Nat.le_of_ble_eq_true rfl, Nat.le_of_ble_eq_true rfl⟩, hts _ tw_530, hts _ tp_1⟩ ⟨gblind, va_recv hK hPc (ci := 4) (q0 := 0) rfl rfl, (gpreS hPc hK hDc hN).2⟩ rfl rfl hl.1 rfl (lv_room (Nat.le_of_ble_eq_true rfl)) dX4_readNumber_11 ⟨Nat.le_of_ble_eq_true rfl, Nat.le_of_ble_eq_true rfl⟩) (fun r_83 u_82 H locs hw_84 hP hD hS => ?_)
    replace hP : va_P D gcl (zS_1 cB cC cI cJ a0 a1 a2 x0 x1 x2 x3 1 x0 a1 a3 x6 a3 f0) H := hP
    replace hD : va_D A (zS_1 cB cC cI cJ a0 a1 a2 x0 x1 x2 x3 1 x0 a1 a3 x6 a3 f0) := hD
    have hw_85 : (0 ≤ r_83.toInt ∧ r_83.toInt ≤ 0) := hw_84
    have rr_83 := n_rng r_83
    refine lv_pop (pc := 14) hx hb dX4_readNumber_14 rfl ?_
    refine lv_iconst (pc := 15) (v := (-1)) hx hb dX4_readNumber_15 (by decide) ?_
    have k9 := tI_m1
    have k8_0 := tI_1
    exact hret (-1) ((fun _ => 0), (fun _ => (fun _ => 0)), (fun _ => (fun _ => 0)), (fun k => [x0, x1, x2, 1, x0].getD k 0), (fun _ => 0)) dX4_readNumber_16 ⟨(show ((-1) ≤ ((-1) : Int32).toInt ∧ ((-1) : Int32).toInt ≤ 9999) from (n_c tI_m1 (by decide))), (show (0 ≤ (x0 : Int32).toInt ∧ (x0 : Int32).toInt ≤ 1600) from h_x0), (show ((-1) ≤ (x1 : Int32).toInt ∧ (x1 : Int32).toInt ≤ 255) from h_x1), (show (0 ≤ (x2 : Int32).toInt ∧ (x2 : Int32).toInt ≤ 1600) from h_x2), (show (0 ≤ (1 : Int32).toInt ∧ (1 : Int32).toInt ≤ 4) from (n_c tI_1 (by decide))), (show ((-1) ≤ (x0 : Int32).toInt ∧ (x0 : Int32).toInt ≤ 1600) from (by first | exact (om_52 h_x0.1 h_x0.2) | (have k9 := tI_m1; have k8_0 := tI_1; omega))), (show nuQ (taub f0 x6.toInt) x0.toInt x1.toInt ((-1) : Int32).toInt x0.toInt x1.toInt x2.toInt (1 : Int32).toInt x0.toInt from nu_none (by first | exact (om_59 hw_4 c_5) | (omega)) (by first | exact (om_65 tI_m1) | (omega)) (by first | exact (om_28 tI_1) | (omega)) (by first | exact (om_53) | (omega))), (show x0.toInt ≤ x0.toInt from (by first | exact (om_81) | (have k9 := tI_m1; have k8_0 := tI_1; omega))), (show ((-1) : Int32).toInt = -1 ∨ ((1 : Int32).toInt = 0 ∧ x0.toInt = -1) from (by first | exact (om_67 tI_m1) | (have k9 := tI_m1; have k8_0 := tI_1; omega)))⟩ (g_psub (wc := (zS_1 cB cC cI cJ a0 a1 a2 x0 x1 x2 x3 1 x0 a1 a3 x6 a3 f0)) hP [0, 1, 2] rfl) (hD.sub (ws' := (zS_1 cB cC cI cJ a0 a1 a2 x0 x1 x2 x3 1 x0 a1 a3 x6 a3 f0)) [0, 1, 2] (by decide) rfl) hS
theorem om_82 {a b : Int} (h0 : (a = (-1))) (h1 : (0 ≤ b)) : (-1 ≤ a ∧ a ≤ b) := by omega
theorem om_83 {a : Int} (h0 : (¬ a = (-1))) : (¬ a = -1) := by omega
theorem om_84 {a b c : Int} (h0 : (b < a)) : (¬ (a ≤ b ∧ b ≤ c)) := by omega
theorem om_85 {a : Int} (h0 : (a = 2)) : (a = 2) := by omega
theorem om_86 {a b : Int} (h0 : ((-1) ≤ a)) (h1 : (a ≤ b)) : (-1 ≤ a ∧ a ≤ b) := by omega
theorem om_87 {a b c : Int} (h0 : (b ≥ a)) (h1 : (b ≤ c)) : (a ≤ b ∧ b ≤ c) := by omega
theorem om_88 {a b c : Int} (h0 : (b > c)) : (¬ (a ≤ b ∧ b ≤ c)) := by omega
set_option maxHeartbeats 4000000 in
set_option maxRecDepth 100000 in
theorem k_X4_readBetween (l : Launch) (D : va_G) (cB cC cI cJ : ClassId) (sz : Nat) (a0 a1 a2 a3 : Nat) (x0 x1 x2 x3 x4 x5 x6 x7 x8 : Int32) (f0 : Nat → Int32) (hp1 : (0 ≤ x0.toInt ∧ x0.toInt ≤ 9999)) (hp2 : (0 ≤ x1.toInt ∧ x1.toInt ≤ 9999)) (h_x2 : (0 ≤ x2.toInt ∧ x2.toInt ≤ 1600)) (h_x3 : ((-1) ≤ x3.toInt ∧ x3.toInt ≤ 255)) (h_x4 : (0 ≤ x4.toInt ∧ x4.toInt ≤ 1600)) (h_x6 : (0 ≤ x6.toInt ∧ x6.toInt ≤ 4)) (h_x7 : ((-1) ≤ x7.toInt ∧ x7.toInt ≤ 1600)) (h_x8 : (0 ≤ x8.toInt ∧ x8.toInt ≤ 1600)) (hg_sv : svQ (taub f0 x8.toInt) x2.toInt x3.toInt) (hg__ff : x6.toInt = 0 ∧ x7.toInt = -1) : Met l yX4_readBetween (.code yX4_readBetween cX4_readBetween 4 (some .int) :: lw_gd) ({ frames := 3, cells := 0, slots := 0, locals := 65 }) (gPre D [(cB, .byte), (cC, .char), (cI, .int), (cJ, .long)] [.ref a0, .int x0, .int x1] (zS_1 cB cC cI cJ a0 a1 a2 x2 x3 x4 x5 x6 x7 a1 a3 x8 a3 f0) sz) (va_Qi (fun r u => ((-1) ≤ r.toInt ∧ r.toInt ≤ 9999) ∧ (0 ≤ (u.2.2.2.1 0).toInt ∧ (u.2.2.2.1 0).toInt ≤ 1600) ∧ ((-1) ≤ (u.2.2.2.1 1).toInt ∧ (u.2.2.2.1 1).toInt ≤ 255) ∧ (0 ≤ (u.2.2.2.1 2).toInt ∧ (u.2.2.2.1 2).toInt ≤ 1600) ∧ (0 ≤ (u.2.2.2.1 3).toInt ∧ (u.2.2.2.1 3).toInt ≤ 4) ∧ ((-1) ≤ (u.2.2.2.1 4).toInt ∧ (u.2.2.2.1 4).toInt ≤ 1600) ∧ (-1 ≤ r.toInt ∧ r.toInt ≤ x1.toInt) ∧ (fnQ (btF (taub f0 x8.toInt) x2.toInt x3.toInt x0.toInt x1.toInt) (taub f0 x8.toInt) r.toInt (-1) (u.2.2.2.1 0).toInt (u.2.2.2.1 1).toInt (u.2.2.2.1 3).toInt (u.2.2.2.1 4).toInt) ∧ (r.toInt = -1 ∨ ((u.2.2.2.1 3).toInt = 0 ∧ (u.2.2.2.1 4).toInt = -1))) (gB D (va_A (zS_1 cB cC cI cJ a0 a1 a2 x2 x3 x4 x5 x6 x7 a1 a3 x8 a3 f0) sz) (fun u : gEx => (zS_1 cB cC cI cJ a0 a1 a2 (u.2.2.2.1 0) (u.2.2.2.1 1) (u.2.2.2.1 2) x5 (u.2.2.2.1 3) (u.2.2.2.1 4) a1 a3 x8 a3 f0))) (va_A (zS_1 cB cC cI cJ a0 a1 a2 x2 x3 x4 x5 x6 x7 a1 a3 x8 a3 f0) sz)) 0 0 (va_A (zS_1 cB cC cI cJ a0 a1 a2 x2 x3 x4 x5 x6 x7 a1 a3 x8 a3 f0) sz) := by
  refine gOf_i (by decide +kernel) (Nat.le_of_ble_eq_true rfl) ?_
  intro p e s m args below meth c ls A Q hx hb hts hown hml hN hK hP hD hA hl hret
  replace hown : s.vm.findClass RX4 = some m.cls := hown
  have hS : va_S A s.heap s.heap [] := va_S.rf
  replace hP : va_P D gcl (zS_1 cB cC cI cJ a0 a1 a2 x2 x3 x4 x5 x6 x7 a1 a3 x8 a3 f0) s.heap := hP
  replace hl : lv_has ls 4 [(0, .ref a0), (1, .int x0), (2, .int x1)] := hl
  have rx5 := n_rng x5
  refine lv_aload_n (pc := 0) hx hb dX4_readBetween_0 rfl (lv_at hl 0 rfl) ?_
  refine gd_i (pc := 1) (wc := (zS_1 cB cC cI cJ a0 a1 a2 x2 x3 x4 x5 x6 x7 a1 a3 x8 a3 f0)) hP hD hS hA [0, 1, 2] rfl (by decide +kernel) (fun _ => by rfl) (fun hPc hDc => va_runV (As := []) (rest := []) ⟨hx, hb, hml, hown, hts⟩ (k_X4_readNumber l D cB cC cI cJ _ a0 a1 a2 a3 x2 x3 x4 x5 x6 x7 x8 f0 h_x2 h_x3 h_x4 h_x6 h_x7 h_x8 (hg_sv) hg__ff) ⟨gcwB hts tw_612 tw_2 tw_609 hd_yX4_readNumber ⟨Nat.le_of_ble_eq_true rfl, Nat.le_of_ble_eq_true rfl⟩, hts _ tw_611, hts _ tp_9⟩ ⟨gblind, va_recv hK hPc (ci := 4) (q0 := 0) rfl rfl, (gpreS hPc hK hDc hN).2⟩ rfl rfl hl.1 rfl (lv_room (Nat.le_of_ble_eq_true rfl)) dX4_readBetween_1 ⟨Nat.le_of_ble_eq_true rfl, Nat.le_of_ble_eq_true rfl⟩) (fun r_2 u_1 H locs hw_3 hP hD hS => ?_)
  replace hP : va_P D gcl (zS_1 cB cC cI cJ a0 a1 a2 (u_1.2.2.2.1 0) (u_1.2.2.2.1 1) (u_1.2.2.2.1 2) x5 (u_1.2.2.2.1 3) (u_1.2.2.2.1 4) a1 a3 x8 a3 f0) H := hP
  replace hD : va_D A (zS_1 cB cC cI cJ a0 a1 a2 (u_1.2.2.2.1 0) (u_1.2.2.2.1 1) (u_1.2.2.2.1 2) x5 (u_1.2.2.2.1 3) (u_1.2.2.2.1 4) a1 a3 x8 a3 f0) := hD
  obtain ⟨hw_4, hw_5, hw_6, hw_7, hw_8, hw_9, hw_10, hw_11, hw_12⟩ := hw_3
  replace hw_4 : ((-1) ≤ r_2.toInt ∧ r_2.toInt ≤ 9999) := hw_4
  replace hw_5 : (0 ≤ (u_1.2.2.2.1 0).toInt ∧ (u_1.2.2.2.1 0).toInt ≤ 1600) := hw_5
  replace hw_6 : ((-1) ≤ (u_1.2.2.2.1 1).toInt ∧ (u_1.2.2.2.1 1).toInt ≤ 255) := hw_6
  replace hw_7 : (0 ≤ (u_1.2.2.2.1 2).toInt ∧ (u_1.2.2.2.1 2).toInt ≤ 1600) := hw_7
  replace hw_8 : (0 ≤ (u_1.2.2.2.1 3).toInt ∧ (u_1.2.2.2.1 3).toInt ≤ 4) := hw_8
  replace hw_9 : ((-1) ≤ (u_1.2.2.2.1 4).toInt ∧ (u_1.2.2.2.1 4).toInt ≤ 1600) := hw_9
  replace hw_10 : (nuQ (taub f0 x8.toInt) x2.toInt x3.toInt r_2.toInt (u_1.2.2.2.1 0).toInt (u_1.2.2.2.1 1).toInt (u_1.2.2.2.1 2).toInt (u_1.2.2.2.1 3).toInt (u_1.2.2.2.1 4).toInt) := hw_10
  replace hw_11 : (x2.toInt ≤ (u_1.2.2.2.1 0).toInt) := hw_11
  replace hw_12 : (r_2.toInt = -1 ∨ ((u_1.2.2.2.1 3).toInt = 0 ∧ (u_1.2.2.2.1 4).toInt = -1)) := hw_12
  have rr_2 := n_rng r_2
  refine lv_istore_n (pc := 4) (lv' := [(3, .int r_2), (0, .ref a0), (1, .int x0), (2, .int x1)]) hx hb dX4_readBetween_4 rfl hl (by decide) rfl (fun ls hl => ?_)
  refine lv_iload_n (pc := 5) hx hb dX4_readBetween_5 rfl (lv_at hl 0 rfl) ?_
  refine lv_iconst (pc := 6) (v := (-1)) hx hb dX4_readBetween_6 (by decide) ?_
  refine b_icmp_eq (pc := 7) (tgt := 32) hx hb rfl tI_m1  dX4_readBetween_7 (by decide) (fun c_13 => ?_) (fun c_13 => ?_)
  ·
    refine lv_iload_n (pc := 32) hx hb dX4_readBetween_32 rfl (lv_at hl 0 rfl) ?_
    exact hret r_2 ((fun _ => 0), (fun _ => (fun _ => 0)), (fun _ => (fun _ => 0)), (fun k => [(u_1.2.2.2.1 0), (u_1.2.2.2.1 1), (u_1.2.2.2.1 2), (u_1.2.2.2.1 3), (u_1.2.2.2.1 4)].getD k 0), (fun _ => 0)) dX4_readBetween_33 ⟨(show ((-1) ≤ r_2.toInt ∧ r_2.toInt ≤ 9999) from hw_4), (show (0 ≤ ((u_1.2.2.2.1 0) : Int32).toInt ∧ ((u_1.2.2.2.1 0) : Int32).toInt ≤ 1600) from hw_5), (show ((-1) ≤ ((u_1.2.2.2.1 1) : Int32).toInt ∧ ((u_1.2.2.2.1 1) : Int32).toInt ≤ 255) from hw_6), (show (0 ≤ ((u_1.2.2.2.1 2) : Int32).toInt ∧ ((u_1.2.2.2.1 2) : Int32).toInt ≤ 1600) from hw_7), (show (0 ≤ ((u_1.2.2.2.1 3) : Int32).toInt ∧ ((u_1.2.2.2.1 3) : Int32).toInt ≤ 4) from hw_8), (show ((-1) ≤ ((u_1.2.2.2.1 4) : Int32).toInt ∧ ((u_1.2.2.2.1 4) : Int32).toInt ≤ 1600) from hw_9), (show -1 ≤ r_2.toInt ∧ r_2.toInt ≤ x1.toInt from (by first | exact (om_82 c_13 hp2.1) | (omega))), (show fnQ (btF (taub f0 x8.toInt) x2.toInt x3.toInt x0.toInt x1.toInt) (taub f0 x8.toInt) r_2.toInt (-1) (u_1.2.2.2.1 0).toInt (u_1.2.2.2.1 1).toInt (u_1.2.2.2.1 3).toInt (u_1.2.2.2.1 4).toInt from bt_no hw_10 (by first | exact (om_65 c_13) | (omega)) (by first | exact (om_65 c_13) | (omega))), (show r_2.toInt = -1 ∨ ((u_1.2.2.2.1 3).toInt = 0 ∧ (u_1.2.2.2.1 4).toInt = -1) from hw_12)⟩ (g_psub (wc := (zS_1 cB cC cI cJ a0 a1 a2 (u_1.2.2.2.1 0) (u_1.2.2.2.1 1) (u_1.2.2.2.1 2) x5 (u_1.2.2.2.1 3) (u_1.2.2.2.1 4) a1 a3 x8 a3 f0)) hP [0, 1, 2] rfl) (hD.sub (ws' := (zS_1 cB cC cI cJ a0 a1 a2 (u_1.2.2.2.1 0) (u_1.2.2.2.1 1) (u_1.2.2.2.1 2) x5 (u_1.2.2.2.1 3) (u_1.2.2.2.1 4) a1 a3 x8 a3 f0)) [0, 1, 2] (by decide) rfl) hS
  ·
    refine lv_iload_n (pc := 10) hx hb dX4_readBetween_10 rfl (lv_at hl 0 rfl) ?_
    refine lv_iload_n (pc := 11) hx hb dX4_readBetween_11 rfl (lv_at hl 2 rfl) ?_
    refine b_icmp_lt (pc := 12) (tgt := 20) hx hb rfl rfl  dX4_readBetween_12 (by decide) (fun c_14 => ?_) (fun c_14 => ?_)
    ·
      refine lv_aload_n (pc := 20) hx hb dX4_readBetween_20 rfl (lv_at hl 1 rfl) ?_
      refine lv_iconst (pc := 21) (v := 2) hx hb dX4_readBetween_21 (by decide) ?_
      refine lv_aload_n (pc := 22) hx hb dX4_readBetween_22 rfl (lv_at hl 1 rfl) ?_
      refine va_get (pc := 23) (ci := 4) (v := .int (u_1.2.2.2.1 2)) (C := RX4) (T := TX4) (N := 8) hx hb hts iX4 hown hK hP 0 rfl rfl 4 (by decide) (hts _ tw_172) (fun _ h9 => h9) rfl dX4_readBetween_23 ?_
      refine gd_i (pc := 26) (wc := (zS_2 cB cC cI cJ a0 a1 a2 (u_1.2.2.2.1 0) (u_1.2.2.2.1 1) (u_1.2.2.2.1 2) x5 (u_1.2.2.2.1 3) (u_1.2.2.2.1 4))) hP hD hS hA [0] rfl (by decide +kernel) (fun _ => by rfl) (fun hPc hDc => va_runV (As := [.int 2, .int (u_1.2.2.2.1 2)]) (rest := []) ⟨hx, hb, hml, hown, hts⟩ (k_X4_fail l D cB cC cI cJ _ a0 a1 a2 2 (u_1.2.2.2.1 2) (u_1.2.2.2.1 0) (u_1.2.2.2.1 1) (u_1.2.2.2.1 2) x5 (u_1.2.2.2.1 3) (u_1.2.2.2.1 4) (n_c tI_2 (by decide)) hw_7 hw_5 hw_6 hw_7 hw_8 hw_9) ⟨gcwB hts tw_535 tw_2 tw_532 hd_yX4_fail ⟨Nat.le_of_ble_eq_true rfl, Nat.le_of_ble_eq_true rfl⟩, hts _ tw_534, hts _ tp_2⟩ ⟨gblind, va_recv hK hPc (ci := 4) (q0 := 0) rfl rfl, (gpreS hPc hK hDc hN).2⟩ rfl rfl hl.1 rfl (lv_room (Nat.le_of_ble_eq_true rfl)) dX4_readBetween_26 ⟨Nat.le_of_ble_eq_true rfl, Nat.le_of_ble_eq_true rfl⟩) (fun r_16 u_15 H locs hw_17 hP hD hS => ?_)
      replace hP : va_P D gcl (zS_1 cB cC cI cJ a0 a1 a2 (u_1.2.2.2.1 0) (u_1.2.2.2.1 1) (u_1.2.2.2.1 2) x5 2 (u_1.2.2.2.1 2) a1 a3 x8 a3 f0) H := hP
      replace hD : va_D A (zS_1 cB cC cI cJ a0 a1 a2 (u_1.2.2.2.1 0) (u_1.2.2.2.1 1) (u_1.2.2.2.1 2) x5 2 (u_1.2.2.2.1 2) a1 a3 x8 a3 f0) := hD
      have hw_18 : ((r_16.toInt = 0)) := hw_17
      have kk0_r_16 := tI_2
      have rr_16 := n_rng r_16
      refine lv_pop (pc := 29) hx hb dX4_readBetween_29 rfl ?_
      refine lv_iconst (pc := 30) (v := (-1)) hx hb dX4_readBetween_30 (by decide) ?_
      have k9 := tI_m1
      have k8_0 := tI_2
      exact hret (-1) ((fun _ => 0), (fun _ => (fun _ => 0)), (fun _ => (fun _ => 0)), (fun k => [(u_1.2.2.2.1 0), (u_1.2.2.2.1 1), (u_1.2.2.2.1 2), 2, (u_1.2.2.2.1 2)].getD k 0), (fun _ => 0)) dX4_readBetween_31 ⟨(show ((-1) ≤ ((-1) : Int32).toInt ∧ ((-1) : Int32).toInt ≤ 9999) from (n_c tI_m1 (by decide))), (show (0 ≤ ((u_1.2.2.2.1 0) : Int32).toInt ∧ ((u_1.2.2.2.1 0) : Int32).toInt ≤ 1600) from hw_5), (show ((-1) ≤ ((u_1.2.2.2.1 1) : Int32).toInt ∧ ((u_1.2.2.2.1 1) : Int32).toInt ≤ 255) from hw_6), (show (0 ≤ ((u_1.2.2.2.1 2) : Int32).toInt ∧ ((u_1.2.2.2.1 2) : Int32).toInt ≤ 1600) from hw_7), (show (0 ≤ (2 : Int32).toInt ∧ (2 : Int32).toInt ≤ 4) from (n_c tI_2 (by decide))), (show ((-1) ≤ ((u_1.2.2.2.1 2) : Int32).toInt ∧ ((u_1.2.2.2.1 2) : Int32).toInt ≤ 1600) from (by first | exact (om_52 hw_7.1 hw_7.2) | (have k9 := tI_m1; have k8_0 := tI_2; omega))), (show -1 ≤ ((-1) : Int32).toInt ∧ ((-1) : Int32).toInt ≤ x1.toInt from (by first | exact (om_82 tI_m1 hp2.1) | (have k9 := tI_m1; have k8_0 := tI_2; omega))), (show fnQ (btF (taub f0 x8.toInt) x2.toInt x3.toInt x0.toInt x1.toInt) (taub f0 x8.toInt) ((-1) : Int32).toInt (-1) (u_1.2.2.2.1 0).toInt (u_1.2.2.2.1 1).toInt (2 : Int32).toInt (u_1.2.2.2.1 2).toInt from bt_out hw_10 (by first | exact (om_83 c_13) | (omega)) (by first | exact (om_84 c_14) | (omega)) (by first | exact (om_65 tI_m1) | (omega)) (by first | exact (om_85 tI_2) | (omega)) (by have q := (hw_10.1 (by omega)).2.2.2.2.2.1; omega)), (show ((-1) : Int32).toInt = -1 ∨ ((2 : Int32).toInt = 0 ∧ (u_1.2.2.2.1 2).toInt = -1) from (by first | exact (om_67 tI_m1) | (have k9 := tI_m1; have k8_0 := tI_2; omega)))⟩ (g_psub (wc := (zS_1 cB cC cI cJ a0 a1 a2 (u_1.2.2.2.1 0) (u_1.2.2.2.1 1) (u_1.2.2.2.1 2) x5 2 (u_1.2.2.2.1 2) a1 a3 x8 a3 f0)) hP [0, 1, 2] rfl) (hD.sub (ws' := (zS_1 cB cC cI cJ a0 a1 a2 (u_1.2.2.2.1 0) (u_1.2.2.2.1 1) (u_1.2.2.2.1 2) x5 2 (u_1.2.2.2.1 2) a1 a3 x8 a3 f0)) [0, 1, 2] (by decide) rfl) hS
    ·
      refine lv_iload_n (pc := 15) hx hb dX4_readBetween_15 rfl (lv_at hl 0 rfl) ?_
      refine lv_iload_n (pc := 16) hx hb dX4_readBetween_16 rfl (lv_at hl 3 rfl) ?_
      refine b_icmp_le (pc := 17) (tgt := 32) hx hb rfl rfl  dX4_readBetween_17 (by decide) (fun c_19 => ?_) (fun c_19 => ?_)
      ·
        refine lv_iload_n (pc := 32) hx hb dX4_readBetween_32 rfl (lv_at hl 0 rfl) ?_
        exact hret r_2 ((fun _ => 0), (fun _ => (fun _ => 0)), (fun _ => (fun _ => 0)), (fun k => [(u_1.2.2.2.1 0), (u_1.2.2.2.1 1), (u_1.2.2.2.1 2), (u_1.2.2.2.1 3), (u_1.2.2.2.1 4)].getD k 0), (fun _ => 0)) dX4_readBetween_33 ⟨(show ((-1) ≤ r_2.toInt ∧ r_2.toInt ≤ 9999) from hw_4), (show (0 ≤ ((u_1.2.2.2.1 0) : Int32).toInt ∧ ((u_1.2.2.2.1 0) : Int32).toInt ≤ 1600) from hw_5), (show ((-1) ≤ ((u_1.2.2.2.1 1) : Int32).toInt ∧ ((u_1.2.2.2.1 1) : Int32).toInt ≤ 255) from hw_6), (show (0 ≤ ((u_1.2.2.2.1 2) : Int32).toInt ∧ ((u_1.2.2.2.1 2) : Int32).toInt ≤ 1600) from hw_7), (show (0 ≤ ((u_1.2.2.2.1 3) : Int32).toInt ∧ ((u_1.2.2.2.1 3) : Int32).toInt ≤ 4) from hw_8), (show ((-1) ≤ ((u_1.2.2.2.1 4) : Int32).toInt ∧ ((u_1.2.2.2.1 4) : Int32).toInt ≤ 1600) from hw_9), (show -1 ≤ r_2.toInt ∧ r_2.toInt ≤ x1.toInt from (by first | exact (om_86 hw_4.1 c_19) | (omega))), (show fnQ (btF (taub f0 x8.toInt) x2.toInt x3.toInt x0.toInt x1.toInt) (taub f0 x8.toInt) r_2.toInt (-1) (u_1.2.2.2.1 0).toInt (u_1.2.2.2.1 1).toInt (u_1.2.2.2.1 3).toInt (u_1.2.2.2.1 4).toInt from bt_yes hw_10 (by first | exact (om_83 c_13) | (omega)) (by first | exact (om_87 c_14 c_19) | (omega))), (show r_2.toInt = -1 ∨ ((u_1.2.2.2.1 3).toInt = 0 ∧ (u_1.2.2.2.1 4).toInt = -1) from hw_12)⟩ (g_psub (wc := (zS_1 cB cC cI cJ a0 a1 a2 (u_1.2.2.2.1 0) (u_1.2.2.2.1 1) (u_1.2.2.2.1 2) x5 (u_1.2.2.2.1 3) (u_1.2.2.2.1 4) a1 a3 x8 a3 f0)) hP [0, 1, 2] rfl) (hD.sub (ws' := (zS_1 cB cC cI cJ a0 a1 a2 (u_1.2.2.2.1 0) (u_1.2.2.2.1 1) (u_1.2.2.2.1 2) x5 (u_1.2.2.2.1 3) (u_1.2.2.2.1 4) a1 a3 x8 a3 f0)) [0, 1, 2] (by decide) rfl) hS
      ·
        refine lv_aload_n (pc := 20) hx hb dX4_readBetween_20 rfl (lv_at hl 1 rfl) ?_
        refine lv_iconst (pc := 21) (v := 2) hx hb dX4_readBetween_21 (by decide) ?_
        refine lv_aload_n (pc := 22) hx hb dX4_readBetween_22 rfl (lv_at hl 1 rfl) ?_
        refine va_get (pc := 23) (ci := 4) (v := .int (u_1.2.2.2.1 2)) (C := RX4) (T := TX4) (N := 8) hx hb hts iX4 hown hK hP 0 rfl rfl 4 (by decide) (hts _ tw_172) (fun _ h9 => h9) rfl dX4_readBetween_23 ?_
        refine gd_i (pc := 26) (wc := (zS_2 cB cC cI cJ a0 a1 a2 (u_1.2.2.2.1 0) (u_1.2.2.2.1 1) (u_1.2.2.2.1 2) x5 (u_1.2.2.2.1 3) (u_1.2.2.2.1 4))) hP hD hS hA [0] rfl (by decide +kernel) (fun _ => by rfl) (fun hPc hDc => va_runV (As := [.int 2, .int (u_1.2.2.2.1 2)]) (rest := []) ⟨hx, hb, hml, hown, hts⟩ (k_X4_fail l D cB cC cI cJ _ a0 a1 a2 2 (u_1.2.2.2.1 2) (u_1.2.2.2.1 0) (u_1.2.2.2.1 1) (u_1.2.2.2.1 2) x5 (u_1.2.2.2.1 3) (u_1.2.2.2.1 4) (n_c tI_2 (by decide)) hw_7 hw_5 hw_6 hw_7 hw_8 hw_9) ⟨gcwB hts tw_535 tw_2 tw_532 hd_yX4_fail ⟨Nat.le_of_ble_eq_true rfl, Nat.le_of_ble_eq_true rfl⟩, hts _ tw_534, hts _ tp_2⟩ ⟨gblind, va_recv hK hPc (ci := 4) (q0 := 0) rfl rfl, (gpreS hPc hK hDc hN).2⟩ rfl rfl hl.1 rfl (lv_room (Nat.le_of_ble_eq_true rfl)) dX4_readBetween_26 ⟨Nat.le_of_ble_eq_true rfl, Nat.le_of_ble_eq_true rfl⟩) (fun r_21 u_20 H locs hw_22 hP hD hS => ?_)
        replace hP : va_P D gcl (zS_1 cB cC cI cJ a0 a1 a2 (u_1.2.2.2.1 0) (u_1.2.2.2.1 1) (u_1.2.2.2.1 2) x5 2 (u_1.2.2.2.1 2) a1 a3 x8 a3 f0) H := hP
        replace hD : va_D A (zS_1 cB cC cI cJ a0 a1 a2 (u_1.2.2.2.1 0) (u_1.2.2.2.1 1) (u_1.2.2.2.1 2) x5 2 (u_1.2.2.2.1 2) a1 a3 x8 a3 f0) := hD
        have hw_23 : ((r_21.toInt = 0)) := hw_22
        have kk0_r_21 := tI_2
        have rr_21 := n_rng r_21
        refine lv_pop (pc := 29) hx hb dX4_readBetween_29 rfl ?_
        refine lv_iconst (pc := 30) (v := (-1)) hx hb dX4_readBetween_30 (by decide) ?_
        have k9 := tI_m1
        have k8_0 := tI_2
        exact hret (-1) ((fun _ => 0), (fun _ => (fun _ => 0)), (fun _ => (fun _ => 0)), (fun k => [(u_1.2.2.2.1 0), (u_1.2.2.2.1 1), (u_1.2.2.2.1 2), 2, (u_1.2.2.2.1 2)].getD k 0), (fun _ => 0)) dX4_readBetween_31 ⟨(show ((-1) ≤ ((-1) : Int32).toInt ∧ ((-1) : Int32).toInt ≤ 9999) from (n_c tI_m1 (by decide))), (show (0 ≤ ((u_1.2.2.2.1 0) : Int32).toInt ∧ ((u_1.2.2.2.1 0) : Int32).toInt ≤ 1600) from hw_5), (show ((-1) ≤ ((u_1.2.2.2.1 1) : Int32).toInt ∧ ((u_1.2.2.2.1 1) : Int32).toInt ≤ 255) from hw_6), (show (0 ≤ ((u_1.2.2.2.1 2) : Int32).toInt ∧ ((u_1.2.2.2.1 2) : Int32).toInt ≤ 1600) from hw_7), (show (0 ≤ (2 : Int32).toInt ∧ (2 : Int32).toInt ≤ 4) from (n_c tI_2 (by decide))), (show ((-1) ≤ ((u_1.2.2.2.1 2) : Int32).toInt ∧ ((u_1.2.2.2.1 2) : Int32).toInt ≤ 1600) from (by first | exact (om_52 hw_7.1 hw_7.2) | (have k9 := tI_m1; have k8_0 := tI_2; omega))), (show -1 ≤ ((-1) : Int32).toInt ∧ ((-1) : Int32).toInt ≤ x1.toInt from (by first | exact (om_82 tI_m1 hp2.1) | (have k9 := tI_m1; have k8_0 := tI_2; omega))), (show fnQ (btF (taub f0 x8.toInt) x2.toInt x3.toInt x0.toInt x1.toInt) (taub f0 x8.toInt) ((-1) : Int32).toInt (-1) (u_1.2.2.2.1 0).toInt (u_1.2.2.2.1 1).toInt (2 : Int32).toInt (u_1.2.2.2.1 2).toInt from bt_out hw_10 (by first | exact (om_83 c_13) | (omega)) (by first | exact (om_88 c_19) | (omega)) (by first | exact (om_65 tI_m1) | (omega)) (by first | exact (om_85 tI_2) | (omega)) (by have q := (hw_10.1 (by omega)).2.2.2.2.2.1; omega)), (show ((-1) : Int32).toInt = -1 ∨ ((2 : Int32).toInt = 0 ∧ (u_1.2.2.2.1 2).toInt = -1) from (by first | exact (om_67 tI_m1) | (have k9 := tI_m1; have k8_0 := tI_2; omega)))⟩ (g_psub (wc := (zS_1 cB cC cI cJ a0 a1 a2 (u_1.2.2.2.1 0) (u_1.2.2.2.1 1) (u_1.2.2.2.1 2) x5 2 (u_1.2.2.2.1 2) a1 a3 x8 a3 f0)) hP [0, 1, 2] rfl) (hD.sub (ws' := (zS_1 cB cC cI cJ a0 a1 a2 (u_1.2.2.2.1 0) (u_1.2.2.2.1 1) (u_1.2.2.2.1 2) x5 2 (u_1.2.2.2.1 2) a1 a3 x8 a3 f0)) [0, 1, 2] (by decide) rfl) hS
theorem om_89 {a b c : Int} (h0 : (0 ≤ a)) (h1 : (c = -1 ∨ (a = 0 ∧ b = -1))) (h2 : (¬ c = (-1))) (h3 : ((-1) ≤ b)) : (a = 0 ∧ b = -1) := by omega
theorem om_90 {a b : Int} (h0 : (-1 ≤ a)) (h1 : (a ≤ b)) (h2 : (b = 8)) : (((-1) ≤ a ∧ a ≤ 8)) := by omega
theorem om_91 {a b : Int} (h0 : (-1 ≤ a)) (h1 : (a ≤ b)) (h2 : (b = 5)) : (((-1) ≤ a ∧ a ≤ 5)) := by omega
theorem om_92 {a : Int} (h0 : (a = (-1))) : (((-1) ≤ a ∧ a ≤ 6)) := by omega
theorem om_93 {a : Int} (h0 : (a = 8)) : (a = 8) := by omega
theorem om_94 {a : Int} (h0 : (a = 5)) : (a = 5) := by omega
theorem om_95 {a : Int} (h0 : (a = 6)) : (a = 6) := by omega
theorem om_96 {a b c : Int} (h0 : (a ≤ 4)) (h1 : (b = 0)) (h2 : (c ≤ 1600)) : (a ≤ 4 - 4 * b ∧ c ≤ 1600 - 1601 * b) := by omega
theorem om_97 {a b : Int} (h0 : (-1 ≤ a)) (h1 : (a ≤ b)) (h2 : (b = 6)) : (((-1) ≤ a ∧ a ≤ 6)) := by omega
theorem om_98 {a b c d : Int} (h0 : (d = -1 ∨ (a = 0 ∧ c = -1))) (h1 : (¬ d = (-1))) (h2 : (b = 1)) : (a ≤ 4 - 4 * b ∧ c ≤ 1600 - 1601 * b) := by omega
theorem om_99 {a : Int} (h0 : (a = (-1))) : (((-1) ≤ a ∧ a ≤ 5)) := by omega
theorem om_100 {a : Int} (h0 : (a = (-1))) : (((-1) ≤ a ∧ a ≤ 8)) := by omega
set_option maxHeartbeats 4000000 in
set_option maxRecDepth 100000 in
theorem k_X4_readSizes (l : Launch) (D : va_G) (cB cC cI cJ : ClassId) (sz : Nat) (a0 a1 a2 a3 a4 a5 a6 : Nat) (x0 x1 x2 x3 x4 x5 x6 x7 x8 x9 x10 x11 x12 x13 : Int32) (f0 : Nat → Int32) (h_x0 : (0 ≤ x0.toInt ∧ x0.toInt ≤ 1600)) (h_x1 : ((-1) ≤ x1.toInt ∧ x1.toInt ≤ 255)) (h_x2 : (0 ≤ x2.toInt ∧ x2.toInt ≤ 1600)) (h_x4 : (0 ≤ x4.toInt ∧ x4.toInt ≤ 4)) (h_x5 : ((-1) ≤ x5.toInt ∧ x5.toInt ≤ 1600)) (h_x6 : (0 ≤ x6.toInt ∧ x6.toInt ≤ 1600)) (h_x7 : ((-1) ≤ x7.toInt ∧ x7.toInt ≤ 8)) (h_x8 : ((-1) ≤ x8.toInt ∧ x8.toInt ≤ 5)) (h_x9 : ((-1) ≤ x9.toInt ∧ x9.toInt ≤ 6)) (h_x10 : (0 ≤ x10.toInt ∧ x10.toInt ≤ 6)) (h_x11 : (0 ≤ x11.toInt ∧ x11.toInt ≤ 16)) (hg_sv : svQ (taub f0 x6.toInt) x0.toInt x1.toInt) (hg__ff : x4.toInt = 0 ∧ x5.toInt = -1) : Met l yX4_readSizes (.code yX4_readSizes cX4_readSizes 1 (some .boolean) :: lw_gd) ({ frames := 4, cells := 0, slots := 0, locals := 88 }) (gPre D [(cB, .byte), (cC, .char), (cI, .int), (cJ, .long)] [.ref a0] (zS_48 cB cC cI cJ a0 a1 a2 x0 x1 x2 x3 x4 x5 a1 a3 x6 a3 f0 a2 a4 a5 a6 x7 x8 x9 x10 x11 x12 x13) sz) (va_Qi (fun r u => (0 ≤ r.toInt ∧ r.toInt ≤ 1) ∧ (0 ≤ (u.2.2.2.1 0).toInt ∧ (u.2.2.2.1 0).toInt ≤ 1600) ∧ ((-1) ≤ (u.2.2.2.1 1).toInt ∧ (u.2.2.2.1 1).toInt ≤ 255) ∧ (0 ≤ (u.2.2.2.1 2).toInt ∧ (u.2.2.2.1 2).toInt ≤ 1600) ∧ (0 ≤ (u.2.2.2.1 3).toInt ∧ (u.2.2.2.1 3).toInt ≤ 4) ∧ ((-1) ≤ (u.2.2.2.1 4).toInt ∧ (u.2.2.2.1 4).toInt ≤ 1600) ∧ ((-1) ≤ (u.2.2.2.1 5).toInt ∧ (u.2.2.2.1 5).toInt ≤ 8) ∧ ((-1) ≤ (u.2.2.2.1 6).toInt ∧ (u.2.2.2.1 6).toInt ≤ 5) ∧ ((-1) ≤ (u.2.2.2.1 7).toInt ∧ (u.2.2.2.1 7).toInt ≤ 6) ∧ (szQ (szF (taub f0 x6.toInt) x0.toInt x1.toInt) (taub f0 x6.toInt) r.toInt (u.2.2.2.1 5).toInt (u.2.2.2.1 6).toInt (u.2.2.2.1 7).toInt (u.2.2.2.1 0).toInt (u.2.2.2.1 1).toInt (u.2.2.2.1 3).toInt (u.2.2.2.1 4).toInt) ∧ ((u.2.2.2.1 3).toInt ≤ 4 - 4 * r.toInt ∧ (u.2.2.2.1 4).toInt ≤ 1600 - 1601 * r.toInt)) (gB D (va_A (zS_48 cB cC cI cJ a0 a1 a2 x0 x1 x2 x3 x4 x5 a1 a3 x6 a3 f0 a2 a4 a5 a6 x7 x8 x9 x10 x11 x12 x13) sz) (fun u : gEx => (zS_48 cB cC cI cJ a0 a1 a2 (u.2.2.2.1 0) (u.2.2.2.1 1) (u.2.2.2.1 2) x3 (u.2.2.2.1 3) (u.2.2.2.1 4) a1 a3 x6 a3 f0 a2 a4 a5 a6 (u.2.2.2.1 5) (u.2.2.2.1 6) (u.2.2.2.1 7) x10 x11 x12 x13))) (va_A (zS_48 cB cC cI cJ a0 a1 a2 x0 x1 x2 x3 x4 x5 a1 a3 x6 a3 f0 a2 a4 a5 a6 x7 x8 x9 x10 x11 x12 x13) sz)) 0 0 (va_A (zS_48 cB cC cI cJ a0 a1 a2 x0 x1 x2 x3 x4 x5 a1 a3 x6 a3 f0 a2 a4 a5 a6 x7 x8 x9 x10 x11 x12 x13) sz) := by
  refine gOf_z (by decide +kernel) (Nat.le_of_ble_eq_true rfl) ?_
  intro p e s m args below meth c ls A Q hx hb hts hown hml hN hK hP hD hA hl hret
  replace hown : s.vm.findClass RX4 = some m.cls := hown
  have hS : va_S A s.heap s.heap [] := va_S.rf
  replace hP : va_P D gcl (zS_48 cB cC cI cJ a0 a1 a2 x0 x1 x2 x3 x4 x5 a1 a3 x6 a3 f0 a2 a4 a5 a6 x7 x8 x9 x10 x11 x12 x13) s.heap := hP
  replace hl : lv_has ls 1 [(0, .ref a0)] := hl
  have rx3 := n_rng x3
  have rx12 := n_rng x12
  have rx13 := n_rng x13
  refine lv_aload_n (pc := 0) hx hb dX4_readSizes_0 rfl (lv_at hl 0 rfl) ?_
  refine va_get (pc := 1) (ci := 4) (v := .ref a2) (C := RX4) (T := TX4) (N := 8) hx hb hts iX4 hown hK hP 0 rfl rfl 1 (by decide) (hts _ tw_169) (fun _ h9 => h9) rfl dX4_readSizes_1 ?_
  refine lv_aload_n (pc := 4) hx hb dX4_readSizes_4 rfl (lv_at hl 0 rfl) ?_
  refine lv_iconst (pc := 5) (v := 2) hx hb dX4_readSizes_5 (by decide) ?_
  refine lv_bipush (pc := 6) (v := 8) hx hb dX4_readSizes_6 (by decide) ?_
  refine gd_i (pc := 8) (wc := (zS_1 cB cC cI cJ a0 a1 a2 x0 x1 x2 x3 x4 x5 a1 a3 x6 a3 f0)) hP hD hS hA [0, 1, 2] rfl (by decide +kernel) (fun _ => by rfl) (fun hPc hDc => va_runV (As := [.int 2, .int 8]) (rest := [.ref a2]) ⟨hx, hb, hml, hown, hts⟩ (k_X4_readBetween l D cB cC cI cJ _ a0 a1 a2 a3 2 8 x0 x1 x2 x3 x4 x5 x6 f0 (n_c tI_2 (by decide)) (n_c tI_8 (by decide)) h_x0 h_x1 h_x2 h_x4 h_x5 h_x6 (hg_sv) hg__ff) ⟨gcwB hts tw_608 tw_2 tw_605 hd_yX4_readBetween ⟨Nat.le_of_ble_eq_true rfl, Nat.le_of_ble_eq_true rfl⟩, hts _ tw_607, hts _ tp_8⟩ ⟨gblind, va_recv hK hPc (ci := 4) (q0 := 0) rfl rfl, (gpreS hPc hK hDc hN).2⟩ rfl rfl hl.1 rfl (lv_room (Nat.le_of_ble_eq_true rfl)) dX4_readSizes_8 ⟨Nat.le_of_ble_eq_true rfl, Nat.le_of_ble_eq_true rfl⟩) (fun r_2 u_1 H locs hw_3 hP hD hS => ?_)
  replace hP : va_P D gcl (zS_48 cB cC cI cJ a0 a1 a2 (u_1.2.2.2.1 0) (u_1.2.2.2.1 1) (u_1.2.2.2.1 2) x3 (u_1.2.2.2.1 3) (u_1.2.2.2.1 4) a1 a3 x6 a3 f0 a2 a4 a5 a6 x7 x8 x9 x10 x11 x12 x13) H := hP
  replace hD : va_D A (zS_48 cB cC cI cJ a0 a1 a2 (u_1.2.2.2.1 0) (u_1.2.2.2.1 1) (u_1.2.2.2.1 2) x3 (u_1.2.2.2.1 3) (u_1.2.2.2.1 4) a1 a3 x6 a3 f0 a2 a4 a5 a6 x7 x8 x9 x10 x11 x12 x13) := hD
  obtain ⟨hw_4, hw_5, hw_6, hw_7, hw_8, hw_9, hw_10, hw_11, hw_12⟩ := hw_3
  replace hw_4 : ((-1) ≤ r_2.toInt ∧ r_2.toInt ≤ 9999) := hw_4
  replace hw_5 : (0 ≤ (u_1.2.2.2.1 0).toInt ∧ (u_1.2.2.2.1 0).toInt ≤ 1600) := hw_5
  replace hw_6 : ((-1) ≤ (u_1.2.2.2.1 1).toInt ∧ (u_1.2.2.2.1 1).toInt ≤ 255) := hw_6
  replace hw_7 : (0 ≤ (u_1.2.2.2.1 2).toInt ∧ (u_1.2.2.2.1 2).toInt ≤ 1600) := hw_7
  replace hw_8 : (0 ≤ (u_1.2.2.2.1 3).toInt ∧ (u_1.2.2.2.1 3).toInt ≤ 4) := hw_8
  replace hw_9 : ((-1) ≤ (u_1.2.2.2.1 4).toInt ∧ (u_1.2.2.2.1 4).toInt ≤ 1600) := hw_9
  replace hw_10 : (-1 ≤ r_2.toInt ∧ r_2.toInt ≤ (8 : Int32).toInt) := hw_10
  replace hw_11 : (fnQ (btF (taub f0 x6.toInt) x0.toInt x1.toInt (2 : Int32).toInt (8 : Int32).toInt) (taub f0 x6.toInt) r_2.toInt (-1) (u_1.2.2.2.1 0).toInt (u_1.2.2.2.1 1).toInt (u_1.2.2.2.1 3).toInt (u_1.2.2.2.1 4).toInt) := hw_11
  replace hw_12 : (r_2.toInt = -1 ∨ ((u_1.2.2.2.1 3).toInt = 0 ∧ (u_1.2.2.2.1 4).toInt = -1)) := hw_12
  have kk0_r_2 := tI_2
  have kk1_r_2 := tI_8
  have rr_2 := n_rng r_2
  refine va_putN (pc := 11) (ci := 1) (v := .int r_2) (ty := .int) (C := RX1) (T := TX1) (N := 10) hx hb hts iX1 tyX1 tyX1_ok nmX1 hown hK hP hD hS 3 rfl rfl 3 (by decide) (va_Nw.use rfl (hN _ tn_115)) (fun _ h9 => h9) rfl (by decide +kernel) rfl rfl (Nat.le_of_ble_eq_true rfl) dX4_readSizes_11 (fun H locs hP hD hS => ?_)
  replace hP : va_P D gcl (zS_48 cB cC cI cJ a0 a1 a2 (u_1.2.2.2.1 0) (u_1.2.2.2.1 1) (u_1.2.2.2.1 2) x3 (u_1.2.2.2.1 3) (u_1.2.2.2.1 4) a1 a3 x6 a3 f0 a2 a4 a5 a6 r_2 x8 x9 x10 x11 x12 x13) H := hP
  replace hD : va_D A (zS_48 cB cC cI cJ a0 a1 a2 (u_1.2.2.2.1 0) (u_1.2.2.2.1 1) (u_1.2.2.2.1 2) x3 (u_1.2.2.2.1 3) (u_1.2.2.2.1 4) a1 a3 x6 a3 f0 a2 a4 a5 a6 r_2 x8 x9 x10 x11 x12 x13) := hD
  refine lv_aload_n (pc := 14) hx hb dX4_readSizes_14 rfl (lv_at hl 0 rfl) ?_
  refine va_get (pc := 15) (ci := 4) (v := .ref a2) (C := RX4) (T := TX4) (N := 8) hx hb hts iX4 hown hK hP 0 rfl rfl 1 (by decide) (hts _ tw_169) (fun _ h9 => h9) rfl dX4_readSizes_15 ?_
  refine va_getN (pc := 18) (ci := 1) (v := .int r_2) (C := RX1) (T := TX1) (N := 10) hx hb hts iX1 hown hK hP 3 rfl rfl 3 (by decide) (va_Nw.use rfl (hN _ tn_115)) (fun _ h9 => h9) rfl dX4_readSizes_18 ?_
  refine lv_iconst (pc := 21) (v := (-1)) hx hb dX4_readSizes_21 (by decide) ?_
  refine b_icmp_ne (pc := 22) (tgt := 27) hx hb rfl tI_m1  dX4_readSizes_22 (by decide) (fun c_13 => ?_) (fun c_13 => ?_)
  ·
    refine lv_aload_n (pc := 27) hx hb dX4_readSizes_27 rfl (lv_at hl 0 rfl) ?_
    refine va_get (pc := 28) (ci := 4) (v := .ref a2) (C := RX4) (T := TX4) (N := 8) hx hb hts iX4 hown hK hP 0 rfl rfl 1 (by decide) (hts _ tw_169) (fun _ h9 => h9) rfl dX4_readSizes_28 ?_
    refine lv_aload_n (pc := 31) hx hb dX4_readSizes_31 rfl (lv_at hl 0 rfl) ?_
    refine lv_iconst (pc := 32) (v := 1) hx hb dX4_readSizes_32 (by decide) ?_
    refine lv_iconst (pc := 33) (v := 5) hx hb dX4_readSizes_33 (by decide) ?_
    refine gd_i (pc := 34) (wc := (zS_1 cB cC cI cJ a0 a1 a2 (u_1.2.2.2.1 0) (u_1.2.2.2.1 1) (u_1.2.2.2.1 2) x3 (u_1.2.2.2.1 3) (u_1.2.2.2.1 4) a1 a3 x6 a3 f0)) hP hD hS hA [0, 1, 2] rfl (by decide +kernel) (fun _ => by rfl) (fun hPc hDc => va_runV (As := [.int 1, .int 5]) (rest := [.ref a2]) ⟨hx, hb, hml, hown, hts⟩ (k_X4_readBetween l D cB cC cI cJ _ a0 a1 a2 a3 1 5 (u_1.2.2.2.1 0) (u_1.2.2.2.1 1) (u_1.2.2.2.1 2) x3 (u_1.2.2.2.1 3) (u_1.2.2.2.1 4) x6 f0 (n_c tI_1 (by decide)) (n_c tI_5 (by decide)) hw_5 hw_6 hw_7 hw_8 hw_9 h_x6 ((hw_11.1 (by omega)).2) (by first | exact (om_89 hw_8.1 hw_12 c_13 hw_9.1) | (have k0 := tI_1; have k1 := tI_5; omega))) ⟨gcwB hts tw_608 tw_2 tw_605 hd_yX4_readBetween ⟨Nat.le_of_ble_eq_true rfl, Nat.le_of_ble_eq_true rfl⟩, hts _ tw_607, hts _ tp_8⟩ ⟨gblind, va_recv hK hPc (ci := 4) (q0 := 0) rfl rfl, (gpreS hPc hK hDc hN).2⟩ rfl rfl hl.1 rfl (lv_room (Nat.le_of_ble_eq_true rfl)) dX4_readSizes_34 ⟨Nat.le_of_ble_eq_true rfl, Nat.le_of_ble_eq_true rfl⟩) (fun r_15 u_14 H locs hw_16 hP hD hS => ?_)
    replace hP : va_P D gcl (zS_48 cB cC cI cJ a0 a1 a2 (u_14.2.2.2.1 0) (u_14.2.2.2.1 1) (u_14.2.2.2.1 2) x3 (u_14.2.2.2.1 3) (u_14.2.2.2.1 4) a1 a3 x6 a3 f0 a2 a4 a5 a6 r_2 x8 x9 x10 x11 x12 x13) H := hP
    replace hD : va_D A (zS_48 cB cC cI cJ a0 a1 a2 (u_14.2.2.2.1 0) (u_14.2.2.2.1 1) (u_14.2.2.2.1 2) x3 (u_14.2.2.2.1 3) (u_14.2.2.2.1 4) a1 a3 x6 a3 f0 a2 a4 a5 a6 r_2 x8 x9 x10 x11 x12 x13) := hD
    obtain ⟨hw_17, hw_18, hw_19, hw_20, hw_21, hw_22, hw_23, hw_24, hw_25⟩ := hw_16
    replace hw_17 : ((-1) ≤ r_15.toInt ∧ r_15.toInt ≤ 9999) := hw_17
    replace hw_18 : (0 ≤ (u_14.2.2.2.1 0).toInt ∧ (u_14.2.2.2.1 0).toInt ≤ 1600) := hw_18
    replace hw_19 : ((-1) ≤ (u_14.2.2.2.1 1).toInt ∧ (u_14.2.2.2.1 1).toInt ≤ 255) := hw_19
    replace hw_20 : (0 ≤ (u_14.2.2.2.1 2).toInt ∧ (u_14.2.2.2.1 2).toInt ≤ 1600) := hw_20
    replace hw_21 : (0 ≤ (u_14.2.2.2.1 3).toInt ∧ (u_14.2.2.2.1 3).toInt ≤ 4) := hw_21
    replace hw_22 : ((-1) ≤ (u_14.2.2.2.1 4).toInt ∧ (u_14.2.2.2.1 4).toInt ≤ 1600) := hw_22
    replace hw_23 : (-1 ≤ r_15.toInt ∧ r_15.toInt ≤ (5 : Int32).toInt) := hw_23
    replace hw_24 : (fnQ (btF (taub f0 x6.toInt) (u_1.2.2.2.1 0).toInt (u_1.2.2.2.1 1).toInt (1 : Int32).toInt (5 : Int32).toInt) (taub f0 x6.toInt) r_15.toInt (-1) (u_14.2.2.2.1 0).toInt (u_14.2.2.2.1 1).toInt (u_14.2.2.2.1 3).toInt (u_14.2.2.2.1 4).toInt) := hw_24
    replace hw_25 : (r_15.toInt = -1 ∨ ((u_14.2.2.2.1 3).toInt = 0 ∧ (u_14.2.2.2.1 4).toInt = -1)) := hw_25
    have kk0_r_15 := tI_1
    have kk1_r_15 := tI_5
    have rr_15 := n_rng r_15
    refine va_putN (pc := 37) (ci := 1) (v := .int r_15) (ty := .int) (C := RX1) (T := TX1) (N := 10) hx hb hts iX1 tyX1 tyX1_ok nmX1 hown hK hP hD hS 3 rfl rfl 4 (by decide) (va_Nw.use rfl (hN _ tn_124)) (fun _ h9 => h9) rfl (by decide +kernel) rfl rfl (Nat.le_of_ble_eq_true rfl) dX4_readSizes_37 (fun H locs hP hD hS => ?_)
    replace hP : va_P D gcl (zS_48 cB cC cI cJ a0 a1 a2 (u_14.2.2.2.1 0) (u_14.2.2.2.1 1) (u_14.2.2.2.1 2) x3 (u_14.2.2.2.1 3) (u_14.2.2.2.1 4) a1 a3 x6 a3 f0 a2 a4 a5 a6 r_2 r_15 x9 x10 x11 x12 x13) H := hP
    replace hD : va_D A (zS_48 cB cC cI cJ a0 a1 a2 (u_14.2.2.2.1 0) (u_14.2.2.2.1 1) (u_14.2.2.2.1 2) x3 (u_14.2.2.2.1 3) (u_14.2.2.2.1 4) a1 a3 x6 a3 f0 a2 a4 a5 a6 r_2 r_15 x9 x10 x11 x12 x13) := hD
    refine lv_aload_n (pc := 40) hx hb dX4_readSizes_40 rfl (lv_at hl 0 rfl) ?_
    refine va_get (pc := 41) (ci := 4) (v := .ref a2) (C := RX4) (T := TX4) (N := 8) hx hb hts iX4 hown hK hP 0 rfl rfl 1 (by decide) (hts _ tw_169) (fun _ h9 => h9) rfl dX4_readSizes_41 ?_
    refine va_getN (pc := 44) (ci := 1) (v := .int r_15) (C := RX1) (T := TX1) (N := 10) hx hb hts iX1 hown hK hP 3 rfl rfl 4 (by decide) (va_Nw.use rfl (hN _ tn_124)) (fun _ h9 => h9) rfl dX4_readSizes_44 ?_
    refine lv_iconst (pc := 47) (v := (-1)) hx hb dX4_readSizes_47 (by decide) ?_
    refine b_icmp_ne (pc := 48) (tgt := 53) hx hb rfl tI_m1  dX4_readSizes_48 (by decide) (fun c_26 => ?_) (fun c_26 => ?_)
    ·
      refine lv_aload_n (pc := 53) hx hb dX4_readSizes_53 rfl (lv_at hl 0 rfl) ?_
      refine va_get (pc := 54) (ci := 4) (v := .ref a2) (C := RX4) (T := TX4) (N := 8) hx hb hts iX4 hown hK hP 0 rfl rfl 1 (by decide) (hts _ tw_169) (fun _ h9 => h9) rfl dX4_readSizes_54 ?_
      refine lv_aload_n (pc := 57) hx hb dX4_readSizes_57 rfl (lv_at hl 0 rfl) ?_
      refine lv_iconst (pc := 58) (v := 1) hx hb dX4_readSizes_58 (by decide) ?_
      refine lv_bipush (pc := 59) (v := 6) hx hb dX4_readSizes_59 (by decide) ?_
      refine gd_i (pc := 61) (wc := (zS_1 cB cC cI cJ a0 a1 a2 (u_14.2.2.2.1 0) (u_14.2.2.2.1 1) (u_14.2.2.2.1 2) x3 (u_14.2.2.2.1 3) (u_14.2.2.2.1 4) a1 a3 x6 a3 f0)) hP hD hS hA [0, 1, 2] rfl (by decide +kernel) (fun _ => by rfl) (fun hPc hDc => va_runV (As := [.int 1, .int 6]) (rest := [.ref a2]) ⟨hx, hb, hml, hown, hts⟩ (k_X4_readBetween l D cB cC cI cJ _ a0 a1 a2 a3 1 6 (u_14.2.2.2.1 0) (u_14.2.2.2.1 1) (u_14.2.2.2.1 2) x3 (u_14.2.2.2.1 3) (u_14.2.2.2.1 4) x6 f0 (n_c tI_1 (by decide)) (n_c tI_6 (by decide)) hw_18 hw_19 hw_20 hw_21 hw_22 h_x6 ((hw_24.1 (by omega)).2) (by first | exact (om_89 hw_21.1 hw_25 c_26 hw_22.1) | (have k0 := tI_1; have k1 := tI_6; omega))) ⟨gcwB hts tw_608 tw_2 tw_605 hd_yX4_readBetween ⟨Nat.le_of_ble_eq_true rfl, Nat.le_of_ble_eq_true rfl⟩, hts _ tw_607, hts _ tp_8⟩ ⟨gblind, va_recv hK hPc (ci := 4) (q0 := 0) rfl rfl, (gpreS hPc hK hDc hN).2⟩ rfl rfl hl.1 rfl (lv_room (Nat.le_of_ble_eq_true rfl)) dX4_readSizes_61 ⟨Nat.le_of_ble_eq_true rfl, Nat.le_of_ble_eq_true rfl⟩) (fun r_28 u_27 H locs hw_29 hP hD hS => ?_)
      replace hP : va_P D gcl (zS_48 cB cC cI cJ a0 a1 a2 (u_27.2.2.2.1 0) (u_27.2.2.2.1 1) (u_27.2.2.2.1 2) x3 (u_27.2.2.2.1 3) (u_27.2.2.2.1 4) a1 a3 x6 a3 f0 a2 a4 a5 a6 r_2 r_15 x9 x10 x11 x12 x13) H := hP
      replace hD : va_D A (zS_48 cB cC cI cJ a0 a1 a2 (u_27.2.2.2.1 0) (u_27.2.2.2.1 1) (u_27.2.2.2.1 2) x3 (u_27.2.2.2.1 3) (u_27.2.2.2.1 4) a1 a3 x6 a3 f0 a2 a4 a5 a6 r_2 r_15 x9 x10 x11 x12 x13) := hD
      obtain ⟨hw_30, hw_31, hw_32, hw_33, hw_34, hw_35, hw_36, hw_37, hw_38⟩ := hw_29
      replace hw_30 : ((-1) ≤ r_28.toInt ∧ r_28.toInt ≤ 9999) := hw_30
      replace hw_31 : (0 ≤ (u_27.2.2.2.1 0).toInt ∧ (u_27.2.2.2.1 0).toInt ≤ 1600) := hw_31
      replace hw_32 : ((-1) ≤ (u_27.2.2.2.1 1).toInt ∧ (u_27.2.2.2.1 1).toInt ≤ 255) := hw_32
      replace hw_33 : (0 ≤ (u_27.2.2.2.1 2).toInt ∧ (u_27.2.2.2.1 2).toInt ≤ 1600) := hw_33
      replace hw_34 : (0 ≤ (u_27.2.2.2.1 3).toInt ∧ (u_27.2.2.2.1 3).toInt ≤ 4) := hw_34
      replace hw_35 : ((-1) ≤ (u_27.2.2.2.1 4).toInt ∧ (u_27.2.2.2.1 4).toInt ≤ 1600) := hw_35
      replace hw_36 : (-1 ≤ r_28.toInt ∧ r_28.toInt ≤ (6 : Int32).toInt) := hw_36
      replace hw_37 : (fnQ (btF (taub f0 x6.toInt) (u_14.2.2.2.1 0).toInt (u_14.2.2.2.1 1).toInt (1 : Int32).toInt (6 : Int32).toInt) (taub f0 x6.toInt) r_28.toInt (-1) (u_27.2.2.2.1 0).toInt (u_27.2.2.2.1 1).toInt (u_27.2.2.2.1 3).toInt (u_27.2.2.2.1 4).toInt) := hw_37
      replace hw_38 : (r_28.toInt = -1 ∨ ((u_27.2.2.2.1 3).toInt = 0 ∧ (u_27.2.2.2.1 4).toInt = -1)) := hw_38
      have kk0_r_28 := tI_1
      have kk1_r_28 := tI_6
      have rr_28 := n_rng r_28
      refine va_putN (pc := 64) (ci := 1) (v := .int r_28) (ty := .int) (C := RX1) (T := TX1) (N := 10) hx hb hts iX1 tyX1 tyX1_ok nmX1 hown hK hP hD hS 3 rfl rfl 5 (by decide) (va_Nw.use rfl (hN _ tn_131)) (fun _ h9 => h9) rfl (by decide +kernel) rfl rfl (Nat.le_of_ble_eq_true rfl) dX4_readSizes_64 (fun H locs hP hD hS => ?_)
      replace hP : va_P D gcl (zS_48 cB cC cI cJ a0 a1 a2 (u_27.2.2.2.1 0) (u_27.2.2.2.1 1) (u_27.2.2.2.1 2) x3 (u_27.2.2.2.1 3) (u_27.2.2.2.1 4) a1 a3 x6 a3 f0 a2 a4 a5 a6 r_2 r_15 r_28 x10 x11 x12 x13) H := hP
      replace hD : va_D A (zS_48 cB cC cI cJ a0 a1 a2 (u_27.2.2.2.1 0) (u_27.2.2.2.1 1) (u_27.2.2.2.1 2) x3 (u_27.2.2.2.1 3) (u_27.2.2.2.1 4) a1 a3 x6 a3 f0 a2 a4 a5 a6 r_2 r_15 r_28 x10 x11 x12 x13) := hD
      refine lv_aload_n (pc := 67) hx hb dX4_readSizes_67 rfl (lv_at hl 0 rfl) ?_
      refine va_get (pc := 68) (ci := 4) (v := .ref a2) (C := RX4) (T := TX4) (N := 8) hx hb hts iX4 hown hK hP 0 rfl rfl 1 (by decide) (hts _ tw_169) (fun _ h9 => h9) rfl dX4_readSizes_68 ?_
      refine va_getN (pc := 71) (ci := 1) (v := .int r_28) (C := RX1) (T := TX1) (N := 10) hx hb hts iX1 hown hK hP 3 rfl rfl 5 (by decide) (va_Nw.use rfl (hN _ tn_131)) (fun _ h9 => h9) rfl dX4_readSizes_71 ?_
      refine lv_iconst (pc := 74) (v := (-1)) hx hb dX4_readSizes_74 (by decide) ?_
      refine b_icmp_eq (pc := 75) (tgt := 82) hx hb rfl tI_m1  dX4_readSizes_75 (by decide) (fun c_39 => ?_) (fun c_39 => ?_)
      ·
        refine lv_iconst (pc := 82) (v := 0) hx hb dX4_readSizes_82 (by decide) ?_
        have k9 := tI_0
        exact hret 0 ((fun _ => 0), (fun _ => (fun _ => 0)), (fun _ => (fun _ => 0)), (fun k => [(u_27.2.2.2.1 0), (u_27.2.2.2.1 1), (u_27.2.2.2.1 2), (u_27.2.2.2.1 3), (u_27.2.2.2.1 4), r_2, r_15, r_28].getD k 0), (fun _ => 0)) dX4_readSizes_83 ⟨(Or.inl tI_0), ⟨(show (0 ≤ (0 : Int32).toInt ∧ (0 : Int32).toInt ≤ 1) from (n_c tI_0 (by decide))), (show (0 ≤ ((u_27.2.2.2.1 0) : Int32).toInt ∧ ((u_27.2.2.2.1 0) : Int32).toInt ≤ 1600) from hw_31), (show ((-1) ≤ ((u_27.2.2.2.1 1) : Int32).toInt ∧ ((u_27.2.2.2.1 1) : Int32).toInt ≤ 255) from hw_32), (show (0 ≤ ((u_27.2.2.2.1 2) : Int32).toInt ∧ ((u_27.2.2.2.1 2) : Int32).toInt ≤ 1600) from hw_33), (show (0 ≤ ((u_27.2.2.2.1 3) : Int32).toInt ∧ ((u_27.2.2.2.1 3) : Int32).toInt ≤ 4) from hw_34), (show ((-1) ≤ ((u_27.2.2.2.1 4) : Int32).toInt ∧ ((u_27.2.2.2.1 4) : Int32).toInt ≤ 1600) from hw_35), (show ((-1) ≤ (r_2 : Int32).toInt ∧ (r_2 : Int32).toInt ≤ 8) from (by first | exact (om_90 hw_10.1 hw_10.2 tI_8) | (have k9 := tI_0; omega))), (show ((-1) ≤ (r_15 : Int32).toInt ∧ (r_15 : Int32).toInt ≤ 5) from (by first | exact (om_91 hw_23.1 hw_23.2 tI_5) | (have k9 := tI_0; omega))), (show ((-1) ≤ (r_28 : Int32).toInt ∧ (r_28 : Int32).toInt ≤ 6) from (by first | exact (om_92 c_39) | (have k9 := tI_0; omega))), (show szQ (szF (taub f0 x6.toInt) x0.toInt x1.toInt) (taub f0 x6.toInt) (0 : Int32).toInt r_2.toInt r_15.toInt r_28.toInt (u_27.2.2.2.1 0).toInt (u_27.2.2.2.1 1).toInt (u_27.2.2.2.1 3).toInt (u_27.2.2.2.1 4).toInt from sz_3 hw_11 (by first | exact (om_85 tI_2) | (omega)) (by first | exact (om_93 tI_8) | (omega)) (by first | exact (om_83 c_13) | (omega)) hw_24 (by first | exact (om_28 tI_1) | (omega)) (by first | exact (om_94 tI_5) | (omega)) (by first | exact (om_83 c_26) | (omega)) hw_37 (by first | exact (om_28 tI_1) | (omega)) (by first | exact (om_95 tI_6) | (omega)) (by first | exact (om_65 c_39) | (omega)) (by first | exact (om_31 tI_0) | (omega))), (show (u_27.2.2.2.1 3).toInt ≤ 4 - 4 * (0 : Int32).toInt ∧ (u_27.2.2.2.1 4).toInt ≤ 1600 - 1601 * (0 : Int32).toInt from (by first | exact (om_96 hw_34.2 tI_0 hw_35.2) | (have k9 := tI_0; omega)))⟩⟩ (g_psub (wc := (zS_48 cB cC cI cJ a0 a1 a2 (u_27.2.2.2.1 0) (u_27.2.2.2.1 1) (u_27.2.2.2.1 2) x3 (u_27.2.2.2.1 3) (u_27.2.2.2.1 4) a1 a3 x6 a3 f0 a2 a4 a5 a6 r_2 r_15 r_28 x10 x11 x12 x13)) hP [0, 1, 2, 3] rfl) (hD.sub (ws' := (zS_48 cB cC cI cJ a0 a1 a2 (u_27.2.2.2.1 0) (u_27.2.2.2.1 1) (u_27.2.2.2.1 2) x3 (u_27.2.2.2.1 3) (u_27.2.2.2.1 4) a1 a3 x6 a3 f0 a2 a4 a5 a6 r_2 r_15 r_28 x10 x11 x12 x13)) [0, 1, 2, 3] (by decide) rfl) hS
      ·
        refine lv_iconst (pc := 78) (v := 1) hx hb dX4_readSizes_78 (by decide) ?_
        refine lv_goto (pc := 79) (tgt := 83) hx hb dX4_readSizes_79 (by decide) ?_
        have k9 := tI_1
        exact hret 1 ((fun _ => 0), (fun _ => (fun _ => 0)), (fun _ => (fun _ => 0)), (fun k => [(u_27.2.2.2.1 0), (u_27.2.2.2.1 1), (u_27.2.2.2.1 2), (u_27.2.2.2.1 3), (u_27.2.2.2.1 4), r_2, r_15, r_28].getD k 0), (fun _ => 0)) dX4_readSizes_83 ⟨(Or.inr tI_1), ⟨(show (0 ≤ (1 : Int32).toInt ∧ (1 : Int32).toInt ≤ 1) from (n_c tI_1 (by decide))), (show (0 ≤ ((u_27.2.2.2.1 0) : Int32).toInt ∧ ((u_27.2.2.2.1 0) : Int32).toInt ≤ 1600) from hw_31), (show ((-1) ≤ ((u_27.2.2.2.1 1) : Int32).toInt ∧ ((u_27.2.2.2.1 1) : Int32).toInt ≤ 255) from hw_32), (show (0 ≤ ((u_27.2.2.2.1 2) : Int32).toInt ∧ ((u_27.2.2.2.1 2) : Int32).toInt ≤ 1600) from hw_33), (show (0 ≤ ((u_27.2.2.2.1 3) : Int32).toInt ∧ ((u_27.2.2.2.1 3) : Int32).toInt ≤ 4) from hw_34), (show ((-1) ≤ ((u_27.2.2.2.1 4) : Int32).toInt ∧ ((u_27.2.2.2.1 4) : Int32).toInt ≤ 1600) from hw_35), (show ((-1) ≤ (r_2 : Int32).toInt ∧ (r_2 : Int32).toInt ≤ 8) from (by first | exact (om_90 hw_10.1 hw_10.2 tI_8) | (have k9 := tI_1; omega))), (show ((-1) ≤ (r_15 : Int32).toInt ∧ (r_15 : Int32).toInt ≤ 5) from (by first | exact (om_91 hw_23.1 hw_23.2 tI_5) | (have k9 := tI_1; omega))), (show ((-1) ≤ (r_28 : Int32).toInt ∧ (r_28 : Int32).toInt ≤ 6) from (by first | exact (om_97 hw_36.1 hw_36.2 tI_6) | (have k9 := tI_1; omega))), (show szQ (szF (taub f0 x6.toInt) x0.toInt x1.toInt) (taub f0 x6.toInt) (1 : Int32).toInt r_2.toInt r_15.toInt r_28.toInt (u_27.2.2.2.1 0).toInt (u_27.2.2.2.1 1).toInt (u_27.2.2.2.1 3).toInt (u_27.2.2.2.1 4).toInt from sz_ok hw_11 (by first | exact (om_85 tI_2) | (omega)) (by first | exact (om_93 tI_8) | (omega)) (by first | exact (om_83 c_13) | (omega)) hw_24 (by first | exact (om_28 tI_1) | (omega)) (by first | exact (om_94 tI_5) | (omega)) (by first | exact (om_83 c_26) | (omega)) hw_37 (by first | exact (om_28 tI_1) | (omega)) (by first | exact (om_95 tI_6) | (omega)) (by first | exact (om_83 c_39) | (omega)) (by first | exact (om_36 tI_1) | (omega))), (show (u_27.2.2.2.1 3).toInt ≤ 4 - 4 * (1 : Int32).toInt ∧ (u_27.2.2.2.1 4).toInt ≤ 1600 - 1601 * (1 : Int32).toInt from (by first | exact (om_98 hw_38 c_39 tI_1) | (have k9 := tI_1; omega)))⟩⟩ (g_psub (wc := (zS_48 cB cC cI cJ a0 a1 a2 (u_27.2.2.2.1 0) (u_27.2.2.2.1 1) (u_27.2.2.2.1 2) x3 (u_27.2.2.2.1 3) (u_27.2.2.2.1 4) a1 a3 x6 a3 f0 a2 a4 a5 a6 r_2 r_15 r_28 x10 x11 x12 x13)) hP [0, 1, 2, 3] rfl) (hD.sub (ws' := (zS_48 cB cC cI cJ a0 a1 a2 (u_27.2.2.2.1 0) (u_27.2.2.2.1 1) (u_27.2.2.2.1 2) x3 (u_27.2.2.2.1 3) (u_27.2.2.2.1 4) a1 a3 x6 a3 f0 a2 a4 a5 a6 r_2 r_15 r_28 x10 x11 x12 x13)) [0, 1, 2, 3] (by decide) rfl) hS
    ·
      refine lv_iconst (pc := 51) (v := 0) hx hb dX4_readSizes_51 (by decide) ?_
      have k9 := tI_0
      exact hret 0 ((fun _ => 0), (fun _ => (fun _ => 0)), (fun _ => (fun _ => 0)), (fun k => [(u_14.2.2.2.1 0), (u_14.2.2.2.1 1), (u_14.2.2.2.1 2), (u_14.2.2.2.1 3), (u_14.2.2.2.1 4), r_2, r_15, x9].getD k 0), (fun _ => 0)) dX4_readSizes_52 ⟨(Or.inl tI_0), ⟨(show (0 ≤ (0 : Int32).toInt ∧ (0 : Int32).toInt ≤ 1) from (n_c tI_0 (by decide))), (show (0 ≤ ((u_14.2.2.2.1 0) : Int32).toInt ∧ ((u_14.2.2.2.1 0) : Int32).toInt ≤ 1600) from hw_18), (show ((-1) ≤ ((u_14.2.2.2.1 1) : Int32).toInt ∧ ((u_14.2.2.2.1 1) : Int32).toInt ≤ 255) from hw_19), (show (0 ≤ ((u_14.2.2.2.1 2) : Int32).toInt ∧ ((u_14.2.2.2.1 2) : Int32).toInt ≤ 1600) from hw_20), (show (0 ≤ ((u_14.2.2.2.1 3) : Int32).toInt ∧ ((u_14.2.2.2.1 3) : Int32).toInt ≤ 4) from hw_21), (show ((-1) ≤ ((u_14.2.2.2.1 4) : Int32).toInt ∧ ((u_14.2.2.2.1 4) : Int32).toInt ≤ 1600) from hw_22), (show ((-1) ≤ (r_2 : Int32).toInt ∧ (r_2 : Int32).toInt ≤ 8) from (by first | exact (om_90 hw_10.1 hw_10.2 tI_8) | (have k9 := tI_0; omega))), (show ((-1) ≤ (r_15 : Int32).toInt ∧ (r_15 : Int32).toInt ≤ 5) from (by first | exact (om_99 c_26) | (have k9 := tI_0; omega))), (show ((-1) ≤ (x9 : Int32).toInt ∧ (x9 : Int32).toInt ≤ 6) from h_x9), (show szQ (szF (taub f0 x6.toInt) x0.toInt x1.toInt) (taub f0 x6.toInt) (0 : Int32).toInt r_2.toInt r_15.toInt x9.toInt (u_14.2.2.2.1 0).toInt (u_14.2.2.2.1 1).toInt (u_14.2.2.2.1 3).toInt (u_14.2.2.2.1 4).toInt from sz_2 hw_11 (by first | exact (om_85 tI_2) | (omega)) (by first | exact (om_93 tI_8) | (omega)) (by first | exact (om_83 c_13) | (omega)) hw_24 (by first | exact (om_28 tI_1) | (omega)) (by first | exact (om_94 tI_5) | (omega)) (by first | exact (om_65 c_26) | (omega)) (by first | exact (om_31 tI_0) | (omega))), (show (u_14.2.2.2.1 3).toInt ≤ 4 - 4 * (0 : Int32).toInt ∧ (u_14.2.2.2.1 4).toInt ≤ 1600 - 1601 * (0 : Int32).toInt from (by first | exact (om_96 hw_21.2 tI_0 hw_22.2) | (have k9 := tI_0; omega)))⟩⟩ (g_psub (wc := (zS_48 cB cC cI cJ a0 a1 a2 (u_14.2.2.2.1 0) (u_14.2.2.2.1 1) (u_14.2.2.2.1 2) x3 (u_14.2.2.2.1 3) (u_14.2.2.2.1 4) a1 a3 x6 a3 f0 a2 a4 a5 a6 r_2 r_15 x9 x10 x11 x12 x13)) hP [0, 1, 2, 3] rfl) (hD.sub (ws' := (zS_48 cB cC cI cJ a0 a1 a2 (u_14.2.2.2.1 0) (u_14.2.2.2.1 1) (u_14.2.2.2.1 2) x3 (u_14.2.2.2.1 3) (u_14.2.2.2.1 4) a1 a3 x6 a3 f0 a2 a4 a5 a6 r_2 r_15 x9 x10 x11 x12 x13)) [0, 1, 2, 3] (by decide) rfl) hS
  ·
    refine lv_iconst (pc := 25) (v := 0) hx hb dX4_readSizes_25 (by decide) ?_
    have k9 := tI_0
    exact hret 0 ((fun _ => 0), (fun _ => (fun _ => 0)), (fun _ => (fun _ => 0)), (fun k => [(u_1.2.2.2.1 0), (u_1.2.2.2.1 1), (u_1.2.2.2.1 2), (u_1.2.2.2.1 3), (u_1.2.2.2.1 4), r_2, x8, x9].getD k 0), (fun _ => 0)) dX4_readSizes_26 ⟨(Or.inl tI_0), ⟨(show (0 ≤ (0 : Int32).toInt ∧ (0 : Int32).toInt ≤ 1) from (n_c tI_0 (by decide))), (show (0 ≤ ((u_1.2.2.2.1 0) : Int32).toInt ∧ ((u_1.2.2.2.1 0) : Int32).toInt ≤ 1600) from hw_5), (show ((-1) ≤ ((u_1.2.2.2.1 1) : Int32).toInt ∧ ((u_1.2.2.2.1 1) : Int32).toInt ≤ 255) from hw_6), (show (0 ≤ ((u_1.2.2.2.1 2) : Int32).toInt ∧ ((u_1.2.2.2.1 2) : Int32).toInt ≤ 1600) from hw_7), (show (0 ≤ ((u_1.2.2.2.1 3) : Int32).toInt ∧ ((u_1.2.2.2.1 3) : Int32).toInt ≤ 4) from hw_8), (show ((-1) ≤ ((u_1.2.2.2.1 4) : Int32).toInt ∧ ((u_1.2.2.2.1 4) : Int32).toInt ≤ 1600) from hw_9), (show ((-1) ≤ (r_2 : Int32).toInt ∧ (r_2 : Int32).toInt ≤ 8) from (by first | exact (om_100 c_13) | (have k9 := tI_0; omega))), (show ((-1) ≤ (x8 : Int32).toInt ∧ (x8 : Int32).toInt ≤ 5) from h_x8), (show ((-1) ≤ (x9 : Int32).toInt ∧ (x9 : Int32).toInt ≤ 6) from h_x9), (show szQ (szF (taub f0 x6.toInt) x0.toInt x1.toInt) (taub f0 x6.toInt) (0 : Int32).toInt r_2.toInt x8.toInt x9.toInt (u_1.2.2.2.1 0).toInt (u_1.2.2.2.1 1).toInt (u_1.2.2.2.1 3).toInt (u_1.2.2.2.1 4).toInt from sz_1 hw_11 (by first | exact (om_85 tI_2) | (omega)) (by first | exact (om_93 tI_8) | (omega)) (by first | exact (om_65 c_13) | (omega)) (by first | exact (om_31 tI_0) | (omega))), (show (u_1.2.2.2.1 3).toInt ≤ 4 - 4 * (0 : Int32).toInt ∧ (u_1.2.2.2.1 4).toInt ≤ 1600 - 1601 * (0 : Int32).toInt from (by first | exact (om_96 hw_8.2 tI_0 hw_9.2) | (have k9 := tI_0; omega)))⟩⟩ (g_psub (wc := (zS_48 cB cC cI cJ a0 a1 a2 (u_1.2.2.2.1 0) (u_1.2.2.2.1 1) (u_1.2.2.2.1 2) x3 (u_1.2.2.2.1 3) (u_1.2.2.2.1 4) a1 a3 x6 a3 f0 a2 a4 a5 a6 r_2 x8 x9 x10 x11 x12 x13)) hP [0, 1, 2, 3] rfl) (hD.sub (ws' := (zS_48 cB cC cI cJ a0 a1 a2 (u_1.2.2.2.1 0) (u_1.2.2.2.1 1) (u_1.2.2.2.1 2) x3 (u_1.2.2.2.1 3) (u_1.2.2.2.1 4) a1 a3 x6 a3 f0 a2 a4 a5 a6 r_2 x8 x9 x10 x11 x12 x13)) [0, 1, 2, 3] (by decide) rfl) hS
theorem om_101 {a b : Int} (h0 : (0 ≤ a)) (h1 : (a ≤ 0)) (h2 : (b = 0)) : (0 ≤ a ∧ a ≤ 6 ∧ a ≤ a + 7 - 7 * b ∧ a ≤ a + 7 - 7 * b) := by omega
theorem om_102 {a b c : Int} : (a = a ∧ b = b ∧ c = c) := by omega
theorem om_103 {a b c : Int} (h0 : (0 ≤ a)) (h1 : (¬ c = 0)) (h2 : (0 ≤ c)) (h3 : (a ≤ 4 - 4 * c)) (h4 : ((-1) ≤ b)) (h5 : (b ≤ 1600 - 1601 * c)) : (a = 0 ∧ b = -1) := by omega
theorem om_104 {a b : Int} (h0 : (a = 0)) (h1 : (b = 0)) : (a = 0 ↔ b = 0) := by omega
theorem om_105 {a b : Int} (h0 : (0 ≤ a)) (h1 : (a ≤ 0)) (h2 : (b = 1)) : (0 ≤ a ∧ a ≤ 6 ∧ a ≤ a + 7 - 7 * b ∧ a ≤ a + 7 - 7 * b) := by omega
theorem om_106 {a b : Int} (h0 : (a = 1)) (h1 : (¬ b = 0)) : (a = 0 ↔ b = 0) := by omega
theorem om_107 {a b c d : Int} (h0 : (¬ d = 0)) (h1 : (0 ≤ d)) (h2 : (a ≤ 4 - 4 * d)) (h3 : (b = 1)) (h4 : (c ≤ 1600 - 1601 * d)) : (a ≤ 4 - 4 * b ∧ c ≤ 1600 - 1601 * b) := by omega
set_option maxHeartbeats 4000000 in
set_option maxRecDepth 100000 in
theorem k_X4_readStatement_0_1_c1 (l : Launch) (D : va_G) (cB cC cI cJ : ClassId) (sz : Nat) (adK adV : Nat → Nat) (a0 a1 a2 a3 a4 a5 a6 a7 a8 a9 a10 a11 a12 : Nat) (x0 x1 x2 x3 x4 x5 x6 x7 x8 x9 x10 x11 x12 x13 x14 x15 : Int32) (f0 f1 f2 : Nat → Int32) (h_x0 : (0 ≤ x0.toInt ∧ x0.toInt ≤ 1600)) (h_x1 : ((-1) ≤ x1.toInt ∧ x1.toInt ≤ 255)) (h_x2 : (0 ≤ x2.toInt ∧ x2.toInt ≤ 1600)) (h_x3 : (0 ≤ x3.toInt ∧ x3.toInt ≤ 0)) (h_x4 : (0 ≤ x4.toInt ∧ x4.toInt ≤ 4)) (h_x5 : ((-1) ≤ x5.toInt ∧ x5.toInt ≤ 1600)) (h_x6 : (0 ≤ x6.toInt ∧ x6.toInt ≤ 1600)) (h_x7 : ((-1) ≤ x7.toInt ∧ x7.toInt ≤ 8)) (h_x8 : ((-1) ≤ x8.toInt ∧ x8.toInt ≤ 5)) (h_x9 : ((-1) ≤ x9.toInt ∧ x9.toInt ≤ 6)) (h_x10 : (0 ≤ x10.toInt ∧ x10.toInt ≤ 6)) (h_x11 : (0 ≤ x11.toInt ∧ x11.toInt ≤ 16)) (h_x14 : (0 ≤ x14.toInt ∧ x14.toInt ≤ 1600)) (h_x15 : (0 ≤ x15.toInt ∧ x15.toInt ≤ 8)) (hf_f2 : (∀ j, (-7) ≤ (f2 j).toInt ∧ (f2 j).toInt ≤ 7)) (hg_sv : svQ (taub f0 x6.toInt) x0.toInt x1.toInt) (hg_tb : TB f1 99) (hg__ff : x4.toInt = 0 ∧ x5.toInt = -1) : Met l yX4_readStatement (.code yX4_readStatement cX4_readStatement 2 (some .boolean) :: lw_gd) ({ frames := 7, cells := 0, slots := 0, locals := 151 }) (gPreT D [(cB, .byte), (cC, .char), (cI, .int), (cJ, .long)] [.ref a0, .int 1] (zS_126 cB cC cI cJ a0 a1 a2 x0 x1 x2 x3 x4 x5 a1 a3 x6 a3 f0 a2 a4 a5 a6 x7 x8 x9 x10 x11 x12 x13 a4 a7 a7 f1 a5 a8 a9 a10 a11 a12 x14 x15 a6 f2) sz adK adV) (va_Qi (fun r u => (0 ≤ r.toInt ∧ r.toInt ≤ 1) ∧ (0 ≤ (u.2.2.2.1 0).toInt ∧ (u.2.2.2.1 0).toInt ≤ 1600) ∧ ((-1) ≤ (u.2.2.2.1 1).toInt ∧ (u.2.2.2.1 1).toInt ≤ 255) ∧ (0 ≤ (u.2.2.2.1 2).toInt ∧ (u.2.2.2.1 2).toInt ≤ 1600) ∧ (0 ≤ (u.2.2.2.1 3).toInt ∧ (u.2.2.2.1 3).toInt ≤ 4) ∧ ((-1) ≤ (u.2.2.2.1 4).toInt ∧ (u.2.2.2.1 4).toInt ≤ 1600) ∧ ((-1) ≤ (u.2.2.2.1 5).toInt ∧ (u.2.2.2.1 5).toInt ≤ 8) ∧ ((-1) ≤ (u.2.2.2.1 6).toInt ∧ (u.2.2.2.1 6).toInt ≤ 5) ∧ ((-1) ≤ (u.2.2.2.1 7).toInt ∧ (u.2.2.2.1 7).toInt ≤ 6) ∧ (0 ≤ x3.toInt ∧ x3.toInt ≤ 6 ∧ x3.toInt ≤ x3.toInt + 7 - 7 * r.toInt ∧ x3.toInt ≤ x3.toInt + 7 - 7 * r.toInt) ∧ (TB f1 99) ∧ (szQ (hsF (taub f0 x6.toInt) x0.toInt x1.toInt) (taub f0 x6.toInt) r.toInt (u.2.2.2.1 5).toInt (u.2.2.2.1 6).toInt (u.2.2.2.1 7).toInt (u.2.2.2.1 0).toInt (u.2.2.2.1 1).toInt (u.2.2.2.1 3).toInt (u.2.2.2.1 4).toInt) ∧ (x10.toInt = x10.toInt ∧ x11.toInt = x11.toInt ∧ x15.toInt = x15.toInt) ∧ ((u.2.2.2.1 3).toInt ≤ 4 - 4 * r.toInt ∧ (u.2.2.2.1 4).toInt ≤ 1600 - 1601 * r.toInt)) (gB D (va_A (zS_126 cB cC cI cJ a0 a1 a2 x0 x1 x2 x3 x4 x5 a1 a3 x6 a3 f0 a2 a4 a5 a6 x7 x8 x9 x10 x11 x12 x13 a4 a7 a7 f1 a5 a8 a9 a10 a11 a12 x14 x15 a6 f2) sz) (fun u : gEx => (zS_126 cB cC cI cJ a0 a1 a2 (u.2.2.2.1 0) (u.2.2.2.1 1) (u.2.2.2.1 2) x3 (u.2.2.2.1 3) (u.2.2.2.1 4) a1 a3 x6 a3 f0 a2 a4 a5 a6 (u.2.2.2.1 5) (u.2.2.2.1 6) (u.2.2.2.1 7) x10 x11 x12 x13 a4 a7 a7 f1 a5 a8 a9 a10 a11 a12 x14 x15 a6 f2))) (va_A (zS_126 cB cC cI cJ a0 a1 a2 x0 x1 x2 x3 x4 x5 a1 a3 x6 a3 f0 a2 a4 a5 a6 x7 x8 x9 x10 x11 x12 x13 a4 a7 a7 f1 a5 a8 a9 a10 a11 a12 x14 x15 a6 f2) sz)) 0 0 (va_A (zS_126 cB cC cI cJ a0 a1 a2 x0 x1 x2 x3 x4 x5 a1 a3 x6 a3 f0 a2 a4 a5 a6 x7 x8 x9 x10 x11 x12 x13 a4 a7 a7 f1 a5 a8 a9 a10 a11 a12 x14 x15 a6 f2) sz) := by
  refine gOfT_z (by decide +kernel) (Nat.le_of_ble_eq_true rfl) ?_
  intro p e s m args below meth c ls A Q hx hb hts hown hml hN hK hP hD hA hl hF hret
  replace hown : s.vm.findClass RX4 = some m.cls := hown
  have hS : va_S A s.heap s.heap [] := va_S.rf
  replace hP : va_P D gcl (zS_126 cB cC cI cJ a0 a1 a2 x0 x1 x2 x3 x4 x5 a1 a3 x6 a3 f0 a2 a4 a5 a6 x7 x8 x9 x10 x11 x12 x13 a4 a7 a7 f1 a5 a8 a9 a10 a11 a12 x14 x15 a6 f2) s.heap := hP
  replace hl : lv_has ls 2 [(0, .ref a0), (1, .int 1)] := hl
  have rx12 := n_rng x12
  have rx13 := n_rng x13
  refine lv_iload_n (pc := 0) hx hb dX4_readStatement_0 rfl (lv_at hl 1 rfl) ?_
  refine b_if_eq (pc := 1) (tgt := 26) hx hb tI_1  dX4_readStatement_1 (by decide) (fun c_1 => absurd c_1 (by first | exact (om_26) | (omega))) (fun c_1 => ?_)
  refine lv_aload_n (pc := 4) hx hb dX4_readStatement_4 rfl (lv_at hl 0 rfl) ?_
  refine va_ldcS (pc := 5) hx hb hown (hF.2.1 0 (by decide)) dX4_readStatement_5 ?_
  refine gd_i (pc := 7) (wc := (zS_1 cB cC cI cJ a0 a1 a2 x0 x1 x2 x3 x4 x5 a1 a3 x6 a3 f0)) hP hD hS hA [0, 1, 2] rfl (by decide +kernel) (fun _ => by rfl) (fun hPc hDc => va_runV (As := [.ref (adK 0)]) (rest := []) ⟨hx, hb, hml, hown, hts⟩ (k_X4_readWord l D cB cC cI cJ _ adK adV 0 (by decide) a0 a1 a2 a3 x0 x1 x2 x3 x4 x5 x6 f0 h_x0 h_x1 h_x2 h_x4 h_x5 h_x6 (hg_sv) hg__ff) ⟨gcwB hts tw_544 tw_2 tw_541 hd_yX4_readWord ⟨Nat.le_of_ble_eq_true rfl, Nat.le_of_ble_eq_true rfl⟩, hts _ tw_543, hts _ tp_4⟩ ⟨gblindT, va_recv hK hPc (ci := 4) (q0 := 0) rfl rfl, (gpreT hPc hK hDc hN hF hS (va_free (wc := (zS_1 cB cC cI cJ a0 a1 a2 x0 x1 x2 x3 x4 x5 a1 a3 x6 a3 f0)) hD hS hA [0, 1, 2] rfl)).2⟩ rfl rfl hl.1 rfl (lv_room (Nat.le_of_ble_eq_true rfl)) dX4_readStatement_7 ⟨Nat.le_of_ble_eq_true rfl, Nat.le_of_ble_eq_true rfl⟩) (fun r_3 u_2 H locs hw_4 hP hD hS => ?_)
  replace hP : va_P D gcl (zS_126 cB cC cI cJ a0 a1 a2 (u_2.2.2.2.1 0) (u_2.2.2.2.1 1) x2 x3 (u_2.2.2.2.1 2) (u_2.2.2.2.1 3) a1 a3 x6 a3 f0 a2 a4 a5 a6 x7 x8 x9 x10 x11 x12 x13 a4 a7 a7 f1 a5 a8 a9 a10 a11 a12 x14 x15 a6 f2) H := hP
  replace hD : va_D A (zS_126 cB cC cI cJ a0 a1 a2 (u_2.2.2.2.1 0) (u_2.2.2.2.1 1) x2 x3 (u_2.2.2.2.1 2) (u_2.2.2.2.1 3) a1 a3 x6 a3 f0 a2 a4 a5 a6 x7 x8 x9 x10 x11 x12 x13 a4 a7 a7 f1 a5 a8 a9 a10 a11 a12 x14 x15 a6 f2) := hD
  obtain ⟨hw_5, hw_6, hw_7, hw_8, hw_9, hw_10, hw_11, hw_12, hw_13⟩ := hw_4
  replace hw_5 : (0 ≤ r_3.toInt ∧ r_3.toInt ≤ 1) := hw_5
  replace hw_6 : (0 ≤ (u_2.2.2.2.1 0).toInt ∧ (u_2.2.2.2.1 0).toInt ≤ 1600) := hw_6
  replace hw_7 : ((-1) ≤ (u_2.2.2.2.1 1).toInt ∧ (u_2.2.2.2.1 1).toInt ≤ 255) := hw_7
  replace hw_8 : (0 ≤ (u_2.2.2.2.1 2).toInt ∧ (u_2.2.2.2.1 2).toInt ≤ 4) := hw_8
  replace hw_9 : ((-1) ≤ (u_2.2.2.2.1 3).toInt ∧ (u_2.2.2.2.1 3).toInt ≤ 1600) := hw_9
  replace hw_10 : (rwQ (taub f0 x6.toInt) x0.toInt x1.toInt (wL.getD 0 []) (u_2.2.2.2.1 0).toInt (u_2.2.2.2.1 1).toInt r_3.toInt (u_2.2.2.2.1 2).toInt (u_2.2.2.2.1 3).toInt) := hw_10
  replace hw_11 : (svQ (taub f0 x6.toInt) (u_2.2.2.2.1 0).toInt (u_2.2.2.2.1 1).toInt) := hw_11
  replace hw_12 : (x0.toInt + r_3.toInt ≤ (u_2.2.2.2.1 0).toInt) := hw_12
  replace hw_13 : ((u_2.2.2.2.1 2).toInt ≤ 4 - 4 * r_3.toInt ∧ (u_2.2.2.2.1 3).toInt ≤ 1600 - 1601 * r_3.toInt) := hw_13
  have rr_3 := n_rng r_3
  refine b_if_eq (pc := 10) (tgt := 24) hx hb rfl  dX4_readStatement_10 (by decide) (fun c_14 => ?_) (fun c_14 => ?_)
  ·
    refine lv_iconst (pc := 24) (v := 0) hx hb dX4_readStatement_24 (by decide) ?_
    have k9 := tI_0
    exact hret 0 ((fun _ => 0), (fun _ => (fun _ => 0)), (fun _ => (fun _ => 0)), (fun k => [(u_2.2.2.2.1 0), (u_2.2.2.2.1 1), x2, (u_2.2.2.2.1 2), (u_2.2.2.2.1 3), x7, x8, x9].getD k 0), (fun _ => 0)) dX4_readStatement_25 ⟨(Or.inl tI_0), ⟨(show (0 ≤ (0 : Int32).toInt ∧ (0 : Int32).toInt ≤ 1) from (n_c tI_0 (by decide))), (show (0 ≤ ((u_2.2.2.2.1 0) : Int32).toInt ∧ ((u_2.2.2.2.1 0) : Int32).toInt ≤ 1600) from hw_6), (show ((-1) ≤ ((u_2.2.2.2.1 1) : Int32).toInt ∧ ((u_2.2.2.2.1 1) : Int32).toInt ≤ 255) from hw_7), (show (0 ≤ (x2 : Int32).toInt ∧ (x2 : Int32).toInt ≤ 1600) from h_x2), (show (0 ≤ ((u_2.2.2.2.1 2) : Int32).toInt ∧ ((u_2.2.2.2.1 2) : Int32).toInt ≤ 4) from hw_8), (show ((-1) ≤ ((u_2.2.2.2.1 3) : Int32).toInt ∧ ((u_2.2.2.2.1 3) : Int32).toInt ≤ 1600) from hw_9), (show ((-1) ≤ (x7 : Int32).toInt ∧ (x7 : Int32).toInt ≤ 8) from h_x7), (show ((-1) ≤ (x8 : Int32).toInt ∧ (x8 : Int32).toInt ≤ 5) from h_x8), (show ((-1) ≤ (x9 : Int32).toInt ∧ (x9 : Int32).toInt ≤ 6) from h_x9), (show 0 ≤ x3.toInt ∧ x3.toInt ≤ 6 ∧ x3.toInt ≤ x3.toInt + 7 - 7 * (0 : Int32).toInt ∧ x3.toInt ≤ x3.toInt + 7 - 7 * (0 : Int32).toInt from (by first | exact (om_101 h_x3.1 h_x3.2 tI_0) | (have k9 := tI_0; omega))), (show TB f1 99 from hg_tb), (show szQ (hsF (taub f0 x6.toInt) x0.toInt x1.toInt) (taub f0 x6.toInt) (0 : Int32).toInt x7.toInt x8.toInt x9.toInt (u_2.2.2.2.1 0).toInt (u_2.2.2.2.1 1).toInt (u_2.2.2.2.1 2).toInt (u_2.2.2.2.1 3).toInt from hs_no hw_10 (by first | exact (om_31 c_14) | (omega)) (by first | exact (om_31 tI_0) | (omega))), (show x10.toInt = x10.toInt ∧ x11.toInt = x11.toInt ∧ x15.toInt = x15.toInt from (by first | exact (om_102) | (have k9 := tI_0; omega))), (show (u_2.2.2.2.1 2).toInt ≤ 4 - 4 * (0 : Int32).toInt ∧ (u_2.2.2.2.1 3).toInt ≤ 1600 - 1601 * (0 : Int32).toInt from (by first | exact (om_96 hw_8.2 tI_0 hw_9.2) | (have k9 := tI_0; omega)))⟩⟩ (g_psub (wc := (zS_126 cB cC cI cJ a0 a1 a2 (u_2.2.2.2.1 0) (u_2.2.2.2.1 1) x2 x3 (u_2.2.2.2.1 2) (u_2.2.2.2.1 3) a1 a3 x6 a3 f0 a2 a4 a5 a6 x7 x8 x9 x10 x11 x12 x13 a4 a7 a7 f1 a5 a8 a9 a10 a11 a12 x14 x15 a6 f2)) hP [0, 1, 2, 3, 4, 5, 6, 7] rfl) (hD.sub (ws' := (zS_126 cB cC cI cJ a0 a1 a2 (u_2.2.2.2.1 0) (u_2.2.2.2.1 1) x2 x3 (u_2.2.2.2.1 2) (u_2.2.2.2.1 3) a1 a3 x6 a3 f0 a2 a4 a5 a6 x7 x8 x9 x10 x11 x12 x13 a4 a7 a7 f1 a5 a8 a9 a10 a11 a12 x14 x15 a6 f2)) [0, 1, 2, 3, 4, 5, 6, 7] (by decide) rfl) hS
  ·
    refine lv_aload_n (pc := 13) hx hb dX4_readStatement_13 rfl (lv_at hl 0 rfl) ?_
    refine gd_i (pc := 14) (wc := (zS_48 cB cC cI cJ a0 a1 a2 (u_2.2.2.2.1 0) (u_2.2.2.2.1 1) x2 x3 (u_2.2.2.2.1 2) (u_2.2.2.2.1 3) a1 a3 x6 a3 f0 a2 a4 a5 a6 x7 x8 x9 x10 x11 x12 x13)) hP hD hS hA [0, 1, 2, 3] rfl (by decide +kernel) (fun _ => by rfl) (fun hPc hDc => va_runV (As := []) (rest := []) ⟨hx, hb, hml, hown, hts⟩ (k_X4_readSizes l D cB cC cI cJ _ a0 a1 a2 a3 a4 a5 a6 (u_2.2.2.2.1 0) (u_2.2.2.2.1 1) x2 x3 (u_2.2.2.2.1 2) (u_2.2.2.2.1 3) x6 x7 x8 x9 x10 x11 x12 x13 f0 hw_6 hw_7 h_x2 hw_8 hw_9 h_x6 h_x7 h_x8 h_x9 h_x10 h_x11 (hw_11) (by first | exact (om_103 hw_8.1 c_14 hw_5.1 hw_13.1 hw_9.1 hw_13.2) | (omega))) ⟨gcwB hts tw_604 tw_2 tw_601 hd_yX4_readSizes ⟨Nat.le_of_ble_eq_true rfl, Nat.le_of_ble_eq_true rfl⟩, hts _ tw_603, hts _ tp_7⟩ ⟨gblind, va_recv hK hPc (ci := 4) (q0 := 0) rfl rfl, (gpreS hPc hK hDc hN).2⟩ rfl rfl hl.1 rfl (lv_room (Nat.le_of_ble_eq_true rfl)) dX4_readStatement_14 ⟨Nat.le_of_ble_eq_true rfl, Nat.le_of_ble_eq_true rfl⟩) (fun r_16 u_15 H locs hw_17 hP hD hS => ?_)
    replace hP : va_P D gcl (zS_126 cB cC cI cJ a0 a1 a2 (u_15.2.2.2.1 0) (u_15.2.2.2.1 1) (u_15.2.2.2.1 2) x3 (u_15.2.2.2.1 3) (u_15.2.2.2.1 4) a1 a3 x6 a3 f0 a2 a4 a5 a6 (u_15.2.2.2.1 5) (u_15.2.2.2.1 6) (u_15.2.2.2.1 7) x10 x11 x12 x13 a4 a7 a7 f1 a5 a8 a9 a10 a11 a12 x14 x15 a6 f2) H := hP
    replace hD : va_D A (zS_126 cB cC cI cJ a0 a1 a2 (u_15.2.2.2.1 0) (u_15.2.2.2.1 1) (u_15.2.2.2.1 2) x3 (u_15.2.2.2.1 3) (u_15.2.2.2.1 4) a1 a3 x6 a3 f0 a2 a4 a5 a6 (u_15.2.2.2.1 5) (u_15.2.2.2.1 6) (u_15.2.2.2.1 7) x10 x11 x12 x13 a4 a7 a7 f1 a5 a8 a9 a10 a11 a12 x14 x15 a6 f2) := hD
    obtain ⟨hw_18, hw_19, hw_20, hw_21, hw_22, hw_23, hw_24, hw_25, hw_26, hw_27, hw_28⟩ := hw_17
    replace hw_18 : (0 ≤ r_16.toInt ∧ r_16.toInt ≤ 1) := hw_18
    replace hw_19 : (0 ≤ (u_15.2.2.2.1 0).toInt ∧ (u_15.2.2.2.1 0).toInt ≤ 1600) := hw_19
    replace hw_20 : ((-1) ≤ (u_15.2.2.2.1 1).toInt ∧ (u_15.2.2.2.1 1).toInt ≤ 255) := hw_20
    replace hw_21 : (0 ≤ (u_15.2.2.2.1 2).toInt ∧ (u_15.2.2.2.1 2).toInt ≤ 1600) := hw_21
    replace hw_22 : (0 ≤ (u_15.2.2.2.1 3).toInt ∧ (u_15.2.2.2.1 3).toInt ≤ 4) := hw_22
    replace hw_23 : ((-1) ≤ (u_15.2.2.2.1 4).toInt ∧ (u_15.2.2.2.1 4).toInt ≤ 1600) := hw_23
    replace hw_24 : ((-1) ≤ (u_15.2.2.2.1 5).toInt ∧ (u_15.2.2.2.1 5).toInt ≤ 8) := hw_24
    replace hw_25 : ((-1) ≤ (u_15.2.2.2.1 6).toInt ∧ (u_15.2.2.2.1 6).toInt ≤ 5) := hw_25
    replace hw_26 : ((-1) ≤ (u_15.2.2.2.1 7).toInt ∧ (u_15.2.2.2.1 7).toInt ≤ 6) := hw_26
    replace hw_27 : (szQ (szF (taub f0 x6.toInt) (u_2.2.2.2.1 0).toInt (u_2.2.2.2.1 1).toInt) (taub f0 x6.toInt) r_16.toInt (u_15.2.2.2.1 5).toInt (u_15.2.2.2.1 6).toInt (u_15.2.2.2.1 7).toInt (u_15.2.2.2.1 0).toInt (u_15.2.2.2.1 1).toInt (u_15.2.2.2.1 3).toInt (u_15.2.2.2.1 4).toInt) := hw_27
    replace hw_28 : ((u_15.2.2.2.1 3).toInt ≤ 4 - 4 * r_16.toInt ∧ (u_15.2.2.2.1 4).toInt ≤ 1600 - 1601 * r_16.toInt) := hw_28
    have rr_16 := n_rng r_16
    refine b_if_eq (pc := 17) (tgt := 24) hx hb rfl  dX4_readStatement_17 (by decide) (fun c_29 => ?_) (fun c_29 => ?_)
    ·
      refine lv_iconst (pc := 24) (v := 0) hx hb dX4_readStatement_24 (by decide) ?_
      have k9 := tI_0
      exact hret 0 ((fun _ => 0), (fun _ => (fun _ => 0)), (fun _ => (fun _ => 0)), (fun k => [(u_15.2.2.2.1 0), (u_15.2.2.2.1 1), (u_15.2.2.2.1 2), (u_15.2.2.2.1 3), (u_15.2.2.2.1 4), (u_15.2.2.2.1 5), (u_15.2.2.2.1 6), (u_15.2.2.2.1 7)].getD k 0), (fun _ => 0)) dX4_readStatement_25 ⟨(Or.inl tI_0), ⟨(show (0 ≤ (0 : Int32).toInt ∧ (0 : Int32).toInt ≤ 1) from (n_c tI_0 (by decide))), (show (0 ≤ ((u_15.2.2.2.1 0) : Int32).toInt ∧ ((u_15.2.2.2.1 0) : Int32).toInt ≤ 1600) from hw_19), (show ((-1) ≤ ((u_15.2.2.2.1 1) : Int32).toInt ∧ ((u_15.2.2.2.1 1) : Int32).toInt ≤ 255) from hw_20), (show (0 ≤ ((u_15.2.2.2.1 2) : Int32).toInt ∧ ((u_15.2.2.2.1 2) : Int32).toInt ≤ 1600) from hw_21), (show (0 ≤ ((u_15.2.2.2.1 3) : Int32).toInt ∧ ((u_15.2.2.2.1 3) : Int32).toInt ≤ 4) from hw_22), (show ((-1) ≤ ((u_15.2.2.2.1 4) : Int32).toInt ∧ ((u_15.2.2.2.1 4) : Int32).toInt ≤ 1600) from hw_23), (show ((-1) ≤ ((u_15.2.2.2.1 5) : Int32).toInt ∧ ((u_15.2.2.2.1 5) : Int32).toInt ≤ 8) from hw_24), (show ((-1) ≤ ((u_15.2.2.2.1 6) : Int32).toInt ∧ ((u_15.2.2.2.1 6) : Int32).toInt ≤ 5) from hw_25), (show ((-1) ≤ ((u_15.2.2.2.1 7) : Int32).toInt ∧ ((u_15.2.2.2.1 7) : Int32).toInt ≤ 6) from hw_26), (show 0 ≤ x3.toInt ∧ x3.toInt ≤ 6 ∧ x3.toInt ≤ x3.toInt + 7 - 7 * (0 : Int32).toInt ∧ x3.toInt ≤ x3.toInt + 7 - 7 * (0 : Int32).toInt from (by first | exact (om_101 h_x3.1 h_x3.2 tI_0) | (have k9 := tI_0; omega))), (show TB f1 99 from hg_tb), (show szQ (hsF (taub f0 x6.toInt) x0.toInt x1.toInt) (taub f0 x6.toInt) (0 : Int32).toInt (u_15.2.2.2.1 5).toInt (u_15.2.2.2.1 6).toInt (u_15.2.2.2.1 7).toInt (u_15.2.2.2.1 0).toInt (u_15.2.2.2.1 1).toInt (u_15.2.2.2.1 3).toInt (u_15.2.2.2.1 4).toInt from hs_go hw_10 (by first | exact (om_34 c_14) | (omega)) hw_27 (by first | exact (om_104 tI_0 c_29) | (omega))), (show x10.toInt = x10.toInt ∧ x11.toInt = x11.toInt ∧ x15.toInt = x15.toInt from (by first | exact (om_102) | (have k9 := tI_0; omega))), (show (u_15.2.2.2.1 3).toInt ≤ 4 - 4 * (0 : Int32).toInt ∧ (u_15.2.2.2.1 4).toInt ≤ 1600 - 1601 * (0 : Int32).toInt from (by first | exact (om_96 hw_22.2 tI_0 hw_23.2) | (have k9 := tI_0; omega)))⟩⟩ (g_psub (wc := (zS_126 cB cC cI cJ a0 a1 a2 (u_15.2.2.2.1 0) (u_15.2.2.2.1 1) (u_15.2.2.2.1 2) x3 (u_15.2.2.2.1 3) (u_15.2.2.2.1 4) a1 a3 x6 a3 f0 a2 a4 a5 a6 (u_15.2.2.2.1 5) (u_15.2.2.2.1 6) (u_15.2.2.2.1 7) x10 x11 x12 x13 a4 a7 a7 f1 a5 a8 a9 a10 a11 a12 x14 x15 a6 f2)) hP [0, 1, 2, 3, 4, 5, 6, 7] rfl) (hD.sub (ws' := (zS_126 cB cC cI cJ a0 a1 a2 (u_15.2.2.2.1 0) (u_15.2.2.2.1 1) (u_15.2.2.2.1 2) x3 (u_15.2.2.2.1 3) (u_15.2.2.2.1 4) a1 a3 x6 a3 f0 a2 a4 a5 a6 (u_15.2.2.2.1 5) (u_15.2.2.2.1 6) (u_15.2.2.2.1 7) x10 x11 x12 x13 a4 a7 a7 f1 a5 a8 a9 a10 a11 a12 x14 x15 a6 f2)) [0, 1, 2, 3, 4, 5, 6, 7] (by decide) rfl) hS
    ·
      refine lv_iconst (pc := 20) (v := 1) hx hb dX4_readStatement_20 (by decide) ?_
      refine lv_goto (pc := 21) (tgt := 25) hx hb dX4_readStatement_21 (by decide) ?_
      have k9 := tI_1
      exact hret 1 ((fun _ => 0), (fun _ => (fun _ => 0)), (fun _ => (fun _ => 0)), (fun k => [(u_15.2.2.2.1 0), (u_15.2.2.2.1 1), (u_15.2.2.2.1 2), (u_15.2.2.2.1 3), (u_15.2.2.2.1 4), (u_15.2.2.2.1 5), (u_15.2.2.2.1 6), (u_15.2.2.2.1 7)].getD k 0), (fun _ => 0)) dX4_readStatement_25 ⟨(Or.inr tI_1), ⟨(show (0 ≤ (1 : Int32).toInt ∧ (1 : Int32).toInt ≤ 1) from (n_c tI_1 (by decide))), (show (0 ≤ ((u_15.2.2.2.1 0) : Int32).toInt ∧ ((u_15.2.2.2.1 0) : Int32).toInt ≤ 1600) from hw_19), (show ((-1) ≤ ((u_15.2.2.2.1 1) : Int32).toInt ∧ ((u_15.2.2.2.1 1) : Int32).toInt ≤ 255) from hw_20), (show (0 ≤ ((u_15.2.2.2.1 2) : Int32).toInt ∧ ((u_15.2.2.2.1 2) : Int32).toInt ≤ 1600) from hw_21), (show (0 ≤ ((u_15.2.2.2.1 3) : Int32).toInt ∧ ((u_15.2.2.2.1 3) : Int32).toInt ≤ 4) from hw_22), (show ((-1) ≤ ((u_15.2.2.2.1 4) : Int32).toInt ∧ ((u_15.2.2.2.1 4) : Int32).toInt ≤ 1600) from hw_23), (show ((-1) ≤ ((u_15.2.2.2.1 5) : Int32).toInt ∧ ((u_15.2.2.2.1 5) : Int32).toInt ≤ 8) from hw_24), (show ((-1) ≤ ((u_15.2.2.2.1 6) : Int32).toInt ∧ ((u_15.2.2.2.1 6) : Int32).toInt ≤ 5) from hw_25), (show ((-1) ≤ ((u_15.2.2.2.1 7) : Int32).toInt ∧ ((u_15.2.2.2.1 7) : Int32).toInt ≤ 6) from hw_26), (show 0 ≤ x3.toInt ∧ x3.toInt ≤ 6 ∧ x3.toInt ≤ x3.toInt + 7 - 7 * (1 : Int32).toInt ∧ x3.toInt ≤ x3.toInt + 7 - 7 * (1 : Int32).toInt from (by first | exact (om_105 h_x3.1 h_x3.2 tI_1) | (have k9 := tI_1; omega))), (show TB f1 99 from hg_tb), (show szQ (hsF (taub f0 x6.toInt) x0.toInt x1.toInt) (taub f0 x6.toInt) (1 : Int32).toInt (u_15.2.2.2.1 5).toInt (u_15.2.2.2.1 6).toInt (u_15.2.2.2.1 7).toInt (u_15.2.2.2.1 0).toInt (u_15.2.2.2.1 1).toInt (u_15.2.2.2.1 3).toInt (u_15.2.2.2.1 4).toInt from hs_go hw_10 (by first | exact (om_34 c_14) | (omega)) hw_27 (by first | exact (om_106 tI_1 c_29) | (omega))), (show x10.toInt = x10.toInt ∧ x11.toInt = x11.toInt ∧ x15.toInt = x15.toInt from (by first | exact (om_102) | (have k9 := tI_1; omega))), (show (u_15.2.2.2.1 3).toInt ≤ 4 - 4 * (1 : Int32).toInt ∧ (u_15.2.2.2.1 4).toInt ≤ 1600 - 1601 * (1 : Int32).toInt from (by first | exact (om_107 c_29 hw_18.1 hw_28.1 tI_1 hw_28.2) | (have k9 := tI_1; omega)))⟩⟩ (g_psub (wc := (zS_126 cB cC cI cJ a0 a1 a2 (u_15.2.2.2.1 0) (u_15.2.2.2.1 1) (u_15.2.2.2.1 2) x3 (u_15.2.2.2.1 3) (u_15.2.2.2.1 4) a1 a3 x6 a3 f0 a2 a4 a5 a6 (u_15.2.2.2.1 5) (u_15.2.2.2.1 6) (u_15.2.2.2.1 7) x10 x11 x12 x13 a4 a7 a7 f1 a5 a8 a9 a10 a11 a12 x14 x15 a6 f2)) hP [0, 1, 2, 3, 4, 5, 6, 7] rfl) (hD.sub (ws' := (zS_126 cB cC cI cJ a0 a1 a2 (u_15.2.2.2.1 0) (u_15.2.2.2.1 1) (u_15.2.2.2.1 2) x3 (u_15.2.2.2.1 3) (u_15.2.2.2.1 4) a1 a3 x6 a3 f0 a2 a4 a5 a6 (u_15.2.2.2.1 5) (u_15.2.2.2.1 6) (u_15.2.2.2.1 7) x10 x11 x12 x13 a4 a7 a7 f1 a5 a8 a9 a10 a11 a12 x14 x15 a6 f2)) [0, 1, 2, 3, 4, 5, 6, 7] (by decide) rfl) hS
theorem om_108 {a b : Int} (h0 : (a = b)) (h1 : (33 ≤ b)) : (1 ≤ a) := by omega
theorem om_109 {a b c : Int} (h0 : (a = b + 1)) (h1 : (0 ≤ b)) (h2 : (b < c)) (h3 : (c ≤ 1600)) : ((0 ≤ a ∧ a ≤ 1600)) := by omega
theorem om_110 {a b c d : Int} (h0 : (d ≤ c)) (h1 : (d = a + 1)) (h2 : (b = 1)) : (a + b ≤ c) := by omega
theorem om_111 {a : Int} (h0 : (0 ≤ a)) (h1 : (a ≤ 0)) : ((0 ≤ a ∧ a ≤ 1)) := by omega
theorem om_112 {a b : Int} (h0 : (¬ a = b)) : (¬ a = b) := by omega
theorem om_113 {a : Int} (h0 : (0 ≤ a)) (h1 : (a ≤ 0)) : (a = 0) := by omega
theorem om_114 {a b : Int} (h0 : (b ≤ 0)) : (a + b ≤ a) := by omega
theorem om_115 {a b c : Int} (h0 : (b ≤ 0)) (h1 : (a = 1)) (h2 : (c ≤ 1600)) : (a ≤ 4 - 4 * b ∧ c ≤ 1600 - 1601 * b) := by omega
theorem om_116 {a : Int} (h0 : (0 ≤ a)) (h1 : (a ≤ 0)) : ((a = 0 ∨ a = 1)) := by omega
set_option maxHeartbeats 4000000 in
set_option maxRecDepth 100000 in
theorem k_X4_readSign (l : Launch) (D : va_G) (cB cC cI cJ : ClassId) (sz : Nat) (a0 a1 a2 a3 : Nat) (x0 x1 x2 x3 x4 x5 x6 x7 : Int32) (f0 : Nat → Int32) (hp1 : (33 ≤ x0.toInt ∧ x0.toInt ≤ 125)) (h_x1 : (0 ≤ x1.toInt ∧ x1.toInt ≤ 1600)) (h_x2 : ((-1) ≤ x2.toInt ∧ x2.toInt ≤ 255)) (h_x3 : (0 ≤ x3.toInt ∧ x3.toInt ≤ 1600)) (h_x5 : (0 ≤ x5.toInt ∧ x5.toInt ≤ 4)) (h_x6 : ((-1) ≤ x6.toInt ∧ x6.toInt ≤ 1600)) (h_x7 : (0 ≤ x7.toInt ∧ x7.toInt ≤ 1600)) (hg_sv : svQ (taub f0 x7.toInt) x1.toInt x2.toInt) (hg__ff : x5.toInt = 0 ∧ x6.toInt = -1) : Met l yX4_readSign (.code yX4_readSign cX4_readSign 2 (some .boolean) :: lw_gd) ({ frames := 2, cells := 0, slots := 0, locals := 43 }) (gPre D [(cB, .byte), (cC, .char), (cI, .int), (cJ, .long)] [.ref a0, .int x0] (zS_1 cB cC cI cJ a0 a1 a2 x1 x2 x3 x4 x5 x6 a1 a3 x7 a3 f0) sz) (va_Qi (fun r u => (0 ≤ r.toInt ∧ r.toInt ≤ 1) ∧ (0 ≤ (u.2.2.2.1 0).toInt ∧ (u.2.2.2.1 0).toInt ≤ 1600) ∧ ((-1) ≤ (u.2.2.2.1 1).toInt ∧ (u.2.2.2.1 1).toInt ≤ 255) ∧ (0 ≤ (u.2.2.2.1 2).toInt ∧ (u.2.2.2.1 2).toInt ≤ 4) ∧ ((-1) ≤ (u.2.2.2.1 3).toInt ∧ (u.2.2.2.1 3).toInt ≤ 1600) ∧ (rsQ (taub f0 x7.toInt) x1.toInt x2.toInt x0.toInt (u.2.2.2.1 0).toInt (u.2.2.2.1 1).toInt r.toInt (u.2.2.2.1 2).toInt (u.2.2.2.1 3).toInt) ∧ (svQ (taub f0 x7.toInt) (u.2.2.2.1 0).toInt (u.2.2.2.1 1).toInt) ∧ (x1.toInt + r.toInt ≤ (u.2.2.2.1 0).toInt) ∧ ((u.2.2.2.1 2).toInt ≤ 4 - 4 * r.toInt ∧ (u.2.2.2.1 3).toInt ≤ 1600 - 1601 * r.toInt)) (gB D (va_A (zS_1 cB cC cI cJ a0 a1 a2 x1 x2 x3 x4 x5 x6 a1 a3 x7 a3 f0) sz) (fun u : gEx => (zS_1 cB cC cI cJ a0 a1 a2 (u.2.2.2.1 0) (u.2.2.2.1 1) x3 x4 (u.2.2.2.1 2) (u.2.2.2.1 3) a1 a3 x7 a3 f0))) (va_A (zS_1 cB cC cI cJ a0 a1 a2 x1 x2 x3 x4 x5 x6 a1 a3 x7 a3 f0) sz)) 0 0 (va_A (zS_1 cB cC cI cJ a0 a1 a2 x1 x2 x3 x4 x5 x6 a1 a3 x7 a3 f0) sz) := by
  refine gOf_z (by decide +kernel) (Nat.le_of_ble_eq_true rfl) ?_
  intro p e s m args below meth c ls A Q hx hb hts hown hml hN hK hP hD hA hl hret
  replace hown : s.vm.findClass RX4 = some m.cls := hown
  have hS : va_S A s.heap s.heap [] := va_S.rf
  replace hP : va_P D gcl (zS_1 cB cC cI cJ a0 a1 a2 x1 x2 x3 x4 x5 x6 a1 a3 x7 a3 f0) s.heap := hP
  replace hl : lv_has ls 2 [(0, .ref a0), (1, .int x0)] := hl
  have rx4 := n_rng x4
  refine lv_aload_n (pc := 0) hx hb dX4_readSign_0 rfl (lv_at hl 0 rfl) ?_
  refine va_get (pc := 1) (ci := 4) (v := .int x2) (C := RX4) (T := TX4) (N := 8) hx hb hts iX4 hown hK hP 0 rfl rfl 3 (by decide) (hts _ tw_171) (fun _ h9 => h9) rfl dX4_readSign_1 ?_
  refine lv_iload_n (pc := 4) hx hb dX4_readSign_4 rfl (lv_at hl 1 rfl) ?_
  refine b_icmp_eq (pc := 5) (tgt := 13) hx hb rfl rfl  dX4_readSign_5 (by decide) (fun c_1 => ?_) (fun c_1 => ?_)
  ·
    have hh_2 := sv_lt hg_sv (by first | exact (om_108 c_1 hp1.1) | (omega))
    refine lv_aload_n (pc := 13) hx hb dX4_readSign_13 rfl (lv_at hl 0 rfl) ?_
    refine lv_aload_n (pc := 14) hx hb dX4_readSign_14 rfl (lv_at hl 0 rfl) ?_
    refine va_get (pc := 15) (ci := 4) (v := .int x1) (C := RX4) (T := TX4) (N := 8) hx hb hts iX4 hown hK hP 0 rfl rfl 2 (by decide) (hts _ tw_170) (fun _ h9 => h9) rfl dX4_readSign_15 ?_
    refine lv_iconst (pc := 18) (v := 1) hx hb dX4_readSign_18 (by decide) ?_
    refine b_iadd (pc := 19) hx hb rfl tI_1 (by first | exact (om_2 hh_2.1) | (omega)) (by first | exact (om_24 h_x1.2) | (omega)) dX4_readSign_19 (fun x_3 ex_3 => ?_)
    refine lv_iconst (pc := 20) (v := 0) hx hb dX4_readSign_20 (by decide) ?_
    refine gd_v (pc := 21) (wc := (zS_1 cB cC cI cJ a0 a1 a2 x1 x2 x3 x4 x5 x6 a1 a3 x7 a3 f0)) hP hD hS hA [0, 1, 2] rfl (by decide +kernel) (fun _ => by rfl) (fun hPc hDc => va_runV (As := [.int x_3, .int 0]) (rest := []) ⟨hx, hb, hml, hown, hts⟩ (k_X4_goOn l D cB cC cI cJ _ a0 a1 a2 a3 x_3 0 x1 x2 x3 x4 x5 x6 x7 f0 (by first | exact (om_109 ex_3 hh_2.1 hh_2.2 h_x7.2) | (have k0 := tI_0; omega)) (n_c tI_0 (by decide)) h_x1 h_x2 h_x3 h_x5 h_x6 h_x7) ⟨gcwB hts tw_513 tw_2 tw_510 hd_yX4_goOn ⟨Nat.le_of_ble_eq_true rfl, Nat.le_of_ble_eq_true rfl⟩, hts _ tw_512, hts _ tp_0⟩ ⟨gblind, va_recv hK hPc (ci := 4) (q0 := 0) rfl rfl, (gpreS hPc hK hDc hN).2⟩ rfl rfl hl.1 rfl (lv_room (Nat.le_of_ble_eq_true rfl)) dX4_readSign_21 ⟨Nat.le_of_ble_eq_true rfl, Nat.le_of_ble_eq_true rfl⟩) (fun u_4 H locs hw_6 hP hD hS => ?_)
    replace hP : va_P D gcl (zS_1 cB cC cI cJ a0 a1 a2 (u_4.2.2.2.1 0) (u_4.2.2.2.1 1) x3 x4 x5 x6 a1 a3 x7 a3 f0) H := hP
    replace hD : va_D A (zS_1 cB cC cI cJ a0 a1 a2 (u_4.2.2.2.1 0) (u_4.2.2.2.1 1) x3 x4 x5 x6 a1 a3 x7 a3 f0) := hD
    obtain ⟨hw_7, hw_8, hw_9, hw_10, hw_11⟩ := hw_6
    replace hw_7 : (0 ≤ (u_4.2.2.2.1 0).toInt ∧ (u_4.2.2.2.1 0).toInt ≤ 1600) := hw_7
    replace hw_8 : ((-1) ≤ (u_4.2.2.2.1 1).toInt ∧ (u_4.2.2.2.1 1).toInt ≤ 255) := hw_8
    replace hw_9 : ((u_4.2.2.2.1 0).toInt = skp (taub f0 x7.toInt) x_3.toInt) := hw_9
    replace hw_10 : ((u_4.2.2.2.1 1).toInt = gsn (taub f0 x7.toInt) x_3.toInt (u_4.2.2.2.1 0).toInt (0 : Int32).toInt) := hw_10
    replace hw_11 : (x_3.toInt ≤ (u_4.2.2.2.1 0).toInt) := hw_11
    have kk0_r_5 := tI_0
    refine lv_iconst (pc := 24) (v := 1) hx hb dX4_readSign_24 (by decide) ?_
    have k9 := tI_1
    exact hret 1 ((fun _ => 0), (fun _ => (fun _ => 0)), (fun _ => (fun _ => 0)), (fun k => [(u_4.2.2.2.1 0), (u_4.2.2.2.1 1), x5, x6].getD k 0), (fun _ => 0)) dX4_readSign_25 ⟨(Or.inr tI_1), ⟨(show (0 ≤ (1 : Int32).toInt ∧ (1 : Int32).toInt ≤ 1) from (n_c tI_1 (by decide))), (show (0 ≤ ((u_4.2.2.2.1 0) : Int32).toInt ∧ ((u_4.2.2.2.1 0) : Int32).toInt ≤ 1600) from hw_7), (show ((-1) ≤ ((u_4.2.2.2.1 1) : Int32).toInt ∧ ((u_4.2.2.2.1 1) : Int32).toInt ≤ 255) from hw_8), (show (0 ≤ (x5 : Int32).toInt ∧ (x5 : Int32).toInt ≤ 4) from h_x5), (show ((-1) ≤ (x6 : Int32).toInt ∧ (x6 : Int32).toInt ≤ 1600) from h_x6), (show rsQ (taub f0 x7.toInt) x1.toInt x2.toInt x0.toInt (u_4.2.2.2.1 0).toInt (u_4.2.2.2.1 1).toInt (1 : Int32).toInt x5.toInt x6.toInt from rs_yes (by first | exact (om_41 c_1) | (omega)) (by first | exact (om_5 ex_3) | (omega)) hw_9 hw_10 (by first | exact (om_31 tI_0) | (omega)) (by first | exact (om_36 tI_1) | (omega))), (show svQ (taub f0 x7.toInt) (u_4.2.2.2.1 0).toInt (u_4.2.2.2.1 1).toInt from (by rw [hw_10, gsn_t (Or.inl (by omega))]; exact tsv)), (show x1.toInt + (1 : Int32).toInt ≤ (u_4.2.2.2.1 0).toInt from (by first | exact (om_110 hw_11 ex_3 tI_1) | (have k9 := tI_1; omega))), (show x5.toInt ≤ 4 - 4 * (1 : Int32).toInt ∧ x6.toInt ≤ 1600 - 1601 * (1 : Int32).toInt from (by first | exact (om_50 hg__ff.1 tI_1 hg__ff.2) | (have k9 := tI_1; omega)))⟩⟩ (g_psub (wc := (zS_1 cB cC cI cJ a0 a1 a2 (u_4.2.2.2.1 0) (u_4.2.2.2.1 1) x3 x4 x5 x6 a1 a3 x7 a3 f0)) hP [0, 1, 2] rfl) (hD.sub (ws' := (zS_1 cB cC cI cJ a0 a1 a2 (u_4.2.2.2.1 0) (u_4.2.2.2.1 1) x3 x4 x5 x6 a1 a3 x7 a3 f0)) [0, 1, 2] (by decide) rfl) hS
  ·
    refine lv_aload_n (pc := 8) hx hb dX4_readSign_8 rfl (lv_at hl 0 rfl) ?_
    refine gd_i (pc := 9) (wc := (zS_2 cB cC cI cJ a0 a1 a2 x1 x2 x3 x4 x5 x6)) hP hD hS hA [0] rfl (by decide +kernel) (fun _ => by rfl) (fun hPc hDc => va_runV (As := []) (rest := []) ⟨hx, hb, hml, hown, hts⟩ (k_X4_failHere l D cB cC cI cJ _ a0 a1 a2 x1 x2 x3 x4 x5 x6 h_x1 h_x2 h_x3 h_x5 h_x6) ⟨gcwB hts tw_531 tw_2 tw_528 hd_yX4_failHere ⟨Nat.le_of_ble_eq_true rfl, Nat.le_of_ble_eq_true rfl⟩, hts _ tw_530, hts _ tp_1⟩ ⟨gblind, va_recv hK hPc (ci := 4) (q0 := 0) rfl rfl, (gpreS hPc hK hDc hN).2⟩ rfl rfl hl.1 rfl (lv_room (Nat.le_of_ble_eq_true rfl)) dX4_readSign_9 ⟨Nat.le_of_ble_eq_true rfl, Nat.le_of_ble_eq_true rfl⟩) (fun r_13 u_12 H locs hw_14 hP hD hS => ?_)
    replace hP : va_P D gcl (zS_1 cB cC cI cJ a0 a1 a2 x1 x2 x3 x4 1 x1 a1 a3 x7 a3 f0) H := hP
    replace hD : va_D A (zS_1 cB cC cI cJ a0 a1 a2 x1 x2 x3 x4 1 x1 a1 a3 x7 a3 f0) := hD
    have hw_15 : (0 ≤ r_13.toInt ∧ r_13.toInt ≤ 0) := hw_14
    have rr_13 := n_rng r_13
    have k8_0 := tI_1
    exact hret r_13 ((fun _ => 0), (fun _ => (fun _ => 0)), (fun _ => (fun _ => 0)), (fun k => [x1, x2, 1, x1].getD k 0), (fun _ => 0)) dX4_readSign_12 ⟨(by first | exact (om_116 hw_15.1 hw_15.2) | (have k8_0 := tI_1; omega)), ⟨(show (0 ≤ r_13.toInt ∧ r_13.toInt ≤ 1) from (by first | exact (om_111 hw_15.1 hw_15.2) | (have k8_0 := tI_1; omega))), (show (0 ≤ (x1 : Int32).toInt ∧ (x1 : Int32).toInt ≤ 1600) from h_x1), (show ((-1) ≤ (x2 : Int32).toInt ∧ (x2 : Int32).toInt ≤ 255) from h_x2), (show (0 ≤ (1 : Int32).toInt ∧ (1 : Int32).toInt ≤ 4) from (n_c tI_1 (by decide))), (show ((-1) ≤ (x1 : Int32).toInt ∧ (x1 : Int32).toInt ≤ 1600) from (by first | exact (om_52 h_x1.1 h_x1.2) | (have k8_0 := tI_1; omega))), (show rsQ (taub f0 x7.toInt) x1.toInt x2.toInt x0.toInt x1.toInt x2.toInt r_13.toInt (1 : Int32).toInt x1.toInt from rs_no (by first | exact (om_112 c_1) | (omega)) (by first | exact (om_113 hw_15.1 hw_15.2) | (omega)) (by first | exact (om_28 tI_1) | (omega)) (by first | exact (om_53) | (omega))), (show svQ (taub f0 x7.toInt) x1.toInt x2.toInt from hg_sv), (show x1.toInt + r_13.toInt ≤ x1.toInt from (by first | exact (om_114 hw_15.2) | (have k8_0 := tI_1; omega))), (show (1 : Int32).toInt ≤ 4 - 4 * r_13.toInt ∧ x1.toInt ≤ 1600 - 1601 * r_13.toInt from (by first | exact (om_115 hw_15.2 tI_1 h_x1.2) | (have k8_0 := tI_1; omega)))⟩⟩ (g_psub (wc := (zS_1 cB cC cI cJ a0 a1 a2 x1 x2 x3 x4 1 x1 a1 a3 x7 a3 f0)) hP [0, 1, 2] rfl) (hD.sub (ws' := (zS_1 cB cC cI cJ a0 a1 a2 x1 x2 x3 x4 1 x1 a1 a3 x7 a3 f0)) [0, 1, 2] (by decide) rfl) hS
theorem om_117 {a : Int} (h0 : (a = 9999)) : (a = 9999) := by omega
theorem om_118 {a b : Int} (h0 : (a = 0)) (h1 : (b = (-1))) : (a = 0 ↔ b = -1) := by omega
theorem om_119 {a b : Int} (h0 : (a = 1)) (h1 : (¬ b = (-1))) : (a = 0 ↔ b = -1) := by omega
set_option maxHeartbeats 4000000 in
set_option maxRecDepth 100000 in
theorem k_X4_readLimit (l : Launch) (D : va_G) (cB cC cI cJ : ClassId) (sz : Nat) (a0 a1 a2 a3 a4 a5 a6 : Nat) (x0 x1 x2 x3 x4 x5 x6 x7 x8 x9 x10 x11 x12 x13 : Int32) (f0 : Nat → Int32) (h_x0 : (0 ≤ x0.toInt ∧ x0.toInt ≤ 1600)) (h_x1 : ((-1) ≤ x1.toInt ∧ x1.toInt ≤ 255)) (h_x2 : (0 ≤ x2.toInt ∧ x2.toInt ≤ 1600)) (h_x4 : (0 ≤ x4.toInt ∧ x4.toInt ≤ 4)) (h_x5 : ((-1) ≤ x5.toInt ∧ x5.toInt ≤ 1600)) (h_x6 : (0 ≤ x6.toInt ∧ x6.toInt ≤ 1600)) (h_x7 : ((-1) ≤ x7.toInt ∧ x7.toInt ≤ 8)) (h_x8 : ((-1) ≤ x8.toInt ∧ x8.toInt ≤ 5)) (h_x9 : ((-1) ≤ x9.toInt ∧ x9.toInt ≤ 6)) (h_x10 : (0 ≤ x10.toInt ∧ x10.toInt ≤ 6)) (h_x11 : (0 ≤ x11.toInt ∧ x11.toInt ≤ 16)) (hg_sv : svQ (taub f0 x6.toInt) x0.toInt x1.toInt) (hg__ff : x4.toInt = 0 ∧ x5.toInt = -1) : Met l yX4_readLimit (.code yX4_readLimit cX4_readLimit 1 (some .boolean) :: lw_gd) ({ frames := 4, cells := 0, slots := 0, locals := 88 }) (gPre D [(cB, .byte), (cC, .char), (cI, .int), (cJ, .long)] [.ref a0] (zS_48 cB cC cI cJ a0 a1 a2 x0 x1 x2 x3 x4 x5 a1 a3 x6 a3 f0 a2 a4 a5 a6 x7 x8 x9 x10 x11 x12 x13) sz) (va_Qi (fun r u => (0 ≤ r.toInt ∧ r.toInt ≤ 1) ∧ (0 ≤ (u.2.2.2.1 0).toInt ∧ (u.2.2.2.1 0).toInt ≤ 1600) ∧ ((-1) ≤ (u.2.2.2.1 1).toInt ∧ (u.2.2.2.1 1).toInt ≤ 255) ∧ (0 ≤ (u.2.2.2.1 2).toInt ∧ (u.2.2.2.1 2).toInt ≤ 1600) ∧ (0 ≤ (u.2.2.2.1 3).toInt ∧ (u.2.2.2.1 3).toInt ≤ 4) ∧ ((-1) ≤ (u.2.2.2.1 4).toInt ∧ (u.2.2.2.1 4).toInt ≤ 1600) ∧ (boQ (limF (taub f0 x6.toInt) x0.toInt x1.toInt) (taub f0 x6.toInt) r.toInt (u.2.2.2.1 0).toInt (u.2.2.2.1 1).toInt (u.2.2.2.1 3).toInt (u.2.2.2.1 4).toInt) ∧ ((u.2.2.2.1 3).toInt ≤ 4 - 4 * r.toInt ∧ (u.2.2.2.1 4).toInt ≤ 1600 - 1601 * r.toInt) ∧ (¬ r.toInt = 0 → (u.2.2.2.1 5).toInt = (btF (taub f0 x6.toInt) x0.toInt x1.toInt 0 9999).2.2.1)) (gB D (va_A (zS_48 cB cC cI cJ a0 a1 a2 x0 x1 x2 x3 x4 x5 a1 a3 x6 a3 f0 a2 a4 a5 a6 x7 x8 x9 x10 x11 x12 x13) sz) (fun u : gEx => (zS_48 cB cC cI cJ a0 a1 a2 (u.2.2.2.1 0) (u.2.2.2.1 1) (u.2.2.2.1 2) x3 (u.2.2.2.1 3) (u.2.2.2.1 4) a1 a3 x6 a3 f0 a2 a4 a5 a6 x7 x8 x9 x10 x11 (u.2.2.2.1 5) x13))) (va_A (zS_48 cB cC cI cJ a0 a1 a2 x0 x1 x2 x3 x4 x5 a1 a3 x6 a3 f0 a2 a4 a5 a6 x7 x8 x9 x10 x11 x12 x13) sz)) 0 0 (va_A (zS_48 cB cC cI cJ a0 a1 a2 x0 x1 x2 x3 x4 x5 a1 a3 x6 a3 f0 a2 a4 a5 a6 x7 x8 x9 x10 x11 x12 x13) sz) := by
  refine gOf_z (by decide +kernel) (Nat.le_of_ble_eq_true rfl) ?_
  intro p e s m args below meth c ls A Q hx hb hts hown hml hN hK hP hD hA hl hret
  replace hown : s.vm.findClass RX4 = some m.cls := hown
  have hS : va_S A s.heap s.heap [] := va_S.rf
  replace hP : va_P D gcl (zS_48 cB cC cI cJ a0 a1 a2 x0 x1 x2 x3 x4 x5 a1 a3 x6 a3 f0 a2 a4 a5 a6 x7 x8 x9 x10 x11 x12 x13) s.heap := hP
  replace hl : lv_has ls 1 [(0, .ref a0)] := hl
  have rx3 := n_rng x3
  have rx12 := n_rng x12
  have rx13 := n_rng x13
  refine lv_aload_n (pc := 0) hx hb dX4_readLimit_0 rfl (lv_at hl 0 rfl) ?_
  refine va_get (pc := 1) (ci := 4) (v := .ref a2) (C := RX4) (T := TX4) (N := 8) hx hb hts iX4 hown hK hP 0 rfl rfl 1 (by decide) (hts _ tw_169) (fun _ h9 => h9) rfl dX4_readLimit_1 ?_
  refine lv_aload_n (pc := 4) hx hb dX4_readLimit_4 rfl (lv_at hl 0 rfl) ?_
  refine lv_iconst (pc := 5) (v := 0) hx hb dX4_readLimit_5 (by decide) ?_
  refine lv_sipush (pc := 6) (v := 9999) hx hb dX4_readLimit_6 (by decide) ?_
  refine gd_i (pc := 9) (wc := (zS_1 cB cC cI cJ a0 a1 a2 x0 x1 x2 x3 x4 x5 a1 a3 x6 a3 f0)) hP hD hS hA [0, 1, 2] rfl (by decide +kernel) (fun _ => by rfl) (fun hPc hDc => va_runV (As := [.int 0, .int 9999]) (rest := [.ref a2]) ⟨hx, hb, hml, hown, hts⟩ (k_X4_readBetween l D cB cC cI cJ _ a0 a1 a2 a3 0 9999 x0 x1 x2 x3 x4 x5 x6 f0 (n_c tI_0 (by decide)) (n_c tI_9999 (by decide)) h_x0 h_x1 h_x2 h_x4 h_x5 h_x6 (hg_sv) hg__ff) ⟨gcwB hts tw_608 tw_2 tw_605 hd_yX4_readBetween ⟨Nat.le_of_ble_eq_true rfl, Nat.le_of_ble_eq_true rfl⟩, hts _ tw_607, hts _ tp_8⟩ ⟨gblind, va_recv hK hPc (ci := 4) (q0 := 0) rfl rfl, (gpreS hPc hK hDc hN).2⟩ rfl rfl hl.1 rfl (lv_room (Nat.le_of_ble_eq_true rfl)) dX4_readLimit_9 ⟨Nat.le_of_ble_eq_true rfl, Nat.le_of_ble_eq_true rfl⟩) (fun r_2 u_1 H locs hw_3 hP hD hS => ?_)
  replace hP : va_P D gcl (zS_48 cB cC cI cJ a0 a1 a2 (u_1.2.2.2.1 0) (u_1.2.2.2.1 1) (u_1.2.2.2.1 2) x3 (u_1.2.2.2.1 3) (u_1.2.2.2.1 4) a1 a3 x6 a3 f0 a2 a4 a5 a6 x7 x8 x9 x10 x11 x12 x13) H := hP
  replace hD : va_D A (zS_48 cB cC cI cJ a0 a1 a2 (u_1.2.2.2.1 0) (u_1.2.2.2.1 1) (u_1.2.2.2.1 2) x3 (u_1.2.2.2.1 3) (u_1.2.2.2.1 4) a1 a3 x6 a3 f0 a2 a4 a5 a6 x7 x8 x9 x10 x11 x12 x13) := hD
  obtain ⟨hw_4, hw_5, hw_6, hw_7, hw_8, hw_9, hw_10, hw_11, hw_12⟩ := hw_3
  replace hw_4 : ((-1) ≤ r_2.toInt ∧ r_2.toInt ≤ 9999) := hw_4
  replace hw_5 : (0 ≤ (u_1.2.2.2.1 0).toInt ∧ (u_1.2.2.2.1 0).toInt ≤ 1600) := hw_5
  replace hw_6 : ((-1) ≤ (u_1.2.2.2.1 1).toInt ∧ (u_1.2.2.2.1 1).toInt ≤ 255) := hw_6
  replace hw_7 : (0 ≤ (u_1.2.2.2.1 2).toInt ∧ (u_1.2.2.2.1 2).toInt ≤ 1600) := hw_7
  replace hw_8 : (0 ≤ (u_1.2.2.2.1 3).toInt ∧ (u_1.2.2.2.1 3).toInt ≤ 4) := hw_8
  replace hw_9 : ((-1) ≤ (u_1.2.2.2.1 4).toInt ∧ (u_1.2.2.2.1 4).toInt ≤ 1600) := hw_9
  replace hw_10 : (-1 ≤ r_2.toInt ∧ r_2.toInt ≤ (9999 : Int32).toInt) := hw_10
  replace hw_11 : (fnQ (btF (taub f0 x6.toInt) x0.toInt x1.toInt (0 : Int32).toInt (9999 : Int32).toInt) (taub f0 x6.toInt) r_2.toInt (-1) (u_1.2.2.2.1 0).toInt (u_1.2.2.2.1 1).toInt (u_1.2.2.2.1 3).toInt (u_1.2.2.2.1 4).toInt) := hw_11
  replace hw_12 : (r_2.toInt = -1 ∨ ((u_1.2.2.2.1 3).toInt = 0 ∧ (u_1.2.2.2.1 4).toInt = -1)) := hw_12
  have kk0_r_2 := tI_0
  have kk1_r_2 := tI_9999
  have rr_2 := n_rng r_2
  refine va_putN (pc := 12) (ci := 1) (v := .int r_2) (ty := .int) (C := RX1) (T := TX1) (N := 10) hx hb hts iX1 tyX1 tyX1_ok nmX1 hown hK hP hD hS 3 rfl rfl 8 (by decide) (va_Nw.use rfl (hN _ tn_142)) (fun _ h9 => h9) rfl (by decide +kernel) rfl rfl (Nat.le_of_ble_eq_true rfl) dX4_readLimit_12 (fun H locs hP hD hS => ?_)
  replace hP : va_P D gcl (zS_48 cB cC cI cJ a0 a1 a2 (u_1.2.2.2.1 0) (u_1.2.2.2.1 1) (u_1.2.2.2.1 2) x3 (u_1.2.2.2.1 3) (u_1.2.2.2.1 4) a1 a3 x6 a3 f0 a2 a4 a5 a6 x7 x8 x9 x10 x11 r_2 x13) H := hP
  replace hD : va_D A (zS_48 cB cC cI cJ a0 a1 a2 (u_1.2.2.2.1 0) (u_1.2.2.2.1 1) (u_1.2.2.2.1 2) x3 (u_1.2.2.2.1 3) (u_1.2.2.2.1 4) a1 a3 x6 a3 f0 a2 a4 a5 a6 x7 x8 x9 x10 x11 r_2 x13) := hD
  refine lv_aload_n (pc := 15) hx hb dX4_readLimit_15 rfl (lv_at hl 0 rfl) ?_
  refine va_get (pc := 16) (ci := 4) (v := .ref a2) (C := RX4) (T := TX4) (N := 8) hx hb hts iX4 hown hK hP 0 rfl rfl 1 (by decide) (hts _ tw_169) (fun _ h9 => h9) rfl dX4_readLimit_16 ?_
  refine va_getN (pc := 19) (ci := 1) (v := .int r_2) (C := RX1) (T := TX1) (N := 10) hx hb hts iX1 hown hK hP 3 rfl rfl 8 (by decide) (va_Nw.use rfl (hN _ tn_142)) (fun _ h9 => h9) rfl dX4_readLimit_19 ?_
  refine lv_iconst (pc := 22) (v := (-1)) hx hb dX4_readLimit_22 (by decide) ?_
  refine b_icmp_eq (pc := 23) (tgt := 30) hx hb rfl tI_m1  dX4_readLimit_23 (by decide) (fun c_13 => ?_) (fun c_13 => ?_)
  ·
    refine lv_iconst (pc := 30) (v := 0) hx hb dX4_readLimit_30 (by decide) ?_
    have k9 := tI_0
    exact hret 0 ((fun _ => 0), (fun _ => (fun _ => 0)), (fun _ => (fun _ => 0)), (fun k => [(u_1.2.2.2.1 0), (u_1.2.2.2.1 1), (u_1.2.2.2.1 2), (u_1.2.2.2.1 3), (u_1.2.2.2.1 4), r_2].getD k 0), (fun _ => 0)) dX4_readLimit_31 ⟨(Or.inl tI_0), ⟨(show (0 ≤ (0 : Int32).toInt ∧ (0 : Int32).toInt ≤ 1) from (n_c tI_0 (by decide))), (show (0 ≤ ((u_1.2.2.2.1 0) : Int32).toInt ∧ ((u_1.2.2.2.1 0) : Int32).toInt ≤ 1600) from hw_5), (show ((-1) ≤ ((u_1.2.2.2.1 1) : Int32).toInt ∧ ((u_1.2.2.2.1 1) : Int32).toInt ≤ 255) from hw_6), (show (0 ≤ ((u_1.2.2.2.1 2) : Int32).toInt ∧ ((u_1.2.2.2.1 2) : Int32).toInt ≤ 1600) from hw_7), (show (0 ≤ ((u_1.2.2.2.1 3) : Int32).toInt ∧ ((u_1.2.2.2.1 3) : Int32).toInt ≤ 4) from hw_8), (show ((-1) ≤ ((u_1.2.2.2.1 4) : Int32).toInt ∧ ((u_1.2.2.2.1 4) : Int32).toInt ≤ 1600) from hw_9), (show boQ (limF (taub f0 x6.toInt) x0.toInt x1.toInt) (taub f0 x6.toInt) (0 : Int32).toInt (u_1.2.2.2.1 0).toInt (u_1.2.2.2.1 1).toInt (u_1.2.2.2.1 3).toInt (u_1.2.2.2.1 4).toInt from bo_bt hw_11 (by first | exact (om_31 tI_0) | (omega)) (by first | exact (om_117 tI_9999) | (omega)) (by first | exact (om_118 tI_0 c_13) | (omega))), (show (u_1.2.2.2.1 3).toInt ≤ 4 - 4 * (0 : Int32).toInt ∧ (u_1.2.2.2.1 4).toInt ≤ 1600 - 1601 * (0 : Int32).toInt from (by first | exact (om_96 hw_8.2 tI_0 hw_9.2) | (have k9 := tI_0; omega))), (show ¬ (0 : Int32).toInt = 0 → r_2.toInt = (btF (taub f0 x6.toInt) x0.toInt x1.toInt 0 9999).2.2.1 from fun h => absurd tI_0 h)⟩⟩ (g_psub (wc := (zS_48 cB cC cI cJ a0 a1 a2 (u_1.2.2.2.1 0) (u_1.2.2.2.1 1) (u_1.2.2.2.1 2) x3 (u_1.2.2.2.1 3) (u_1.2.2.2.1 4) a1 a3 x6 a3 f0 a2 a4 a5 a6 x7 x8 x9 x10 x11 r_2 x13)) hP [0, 1, 2, 3] rfl) (hD.sub (ws' := (zS_48 cB cC cI cJ a0 a1 a2 (u_1.2.2.2.1 0) (u_1.2.2.2.1 1) (u_1.2.2.2.1 2) x3 (u_1.2.2.2.1 3) (u_1.2.2.2.1 4) a1 a3 x6 a3 f0 a2 a4 a5 a6 x7 x8 x9 x10 x11 r_2 x13)) [0, 1, 2, 3] (by decide) rfl) hS
  ·
    refine lv_iconst (pc := 26) (v := 1) hx hb dX4_readLimit_26 (by decide) ?_
    refine lv_goto (pc := 27) (tgt := 31) hx hb dX4_readLimit_27 (by decide) ?_
    have k9 := tI_1
    exact hret 1 ((fun _ => 0), (fun _ => (fun _ => 0)), (fun _ => (fun _ => 0)), (fun k => [(u_1.2.2.2.1 0), (u_1.2.2.2.1 1), (u_1.2.2.2.1 2), (u_1.2.2.2.1 3), (u_1.2.2.2.1 4), r_2].getD k 0), (fun _ => 0)) dX4_readLimit_31 ⟨(Or.inr tI_1), ⟨(show (0 ≤ (1 : Int32).toInt ∧ (1 : Int32).toInt ≤ 1) from (n_c tI_1 (by decide))), (show (0 ≤ ((u_1.2.2.2.1 0) : Int32).toInt ∧ ((u_1.2.2.2.1 0) : Int32).toInt ≤ 1600) from hw_5), (show ((-1) ≤ ((u_1.2.2.2.1 1) : Int32).toInt ∧ ((u_1.2.2.2.1 1) : Int32).toInt ≤ 255) from hw_6), (show (0 ≤ ((u_1.2.2.2.1 2) : Int32).toInt ∧ ((u_1.2.2.2.1 2) : Int32).toInt ≤ 1600) from hw_7), (show (0 ≤ ((u_1.2.2.2.1 3) : Int32).toInt ∧ ((u_1.2.2.2.1 3) : Int32).toInt ≤ 4) from hw_8), (show ((-1) ≤ ((u_1.2.2.2.1 4) : Int32).toInt ∧ ((u_1.2.2.2.1 4) : Int32).toInt ≤ 1600) from hw_9), (show boQ (limF (taub f0 x6.toInt) x0.toInt x1.toInt) (taub f0 x6.toInt) (1 : Int32).toInt (u_1.2.2.2.1 0).toInt (u_1.2.2.2.1 1).toInt (u_1.2.2.2.1 3).toInt (u_1.2.2.2.1 4).toInt from bo_bt hw_11 (by first | exact (om_31 tI_0) | (omega)) (by first | exact (om_117 tI_9999) | (omega)) (by first | exact (om_119 tI_1 c_13) | (omega))), (show (u_1.2.2.2.1 3).toInt ≤ 4 - 4 * (1 : Int32).toInt ∧ (u_1.2.2.2.1 4).toInt ≤ 1600 - 1601 * (1 : Int32).toInt from (by first | exact (om_98 hw_12 c_13 tI_1) | (have k9 := tI_1; omega))), (show ¬ (1 : Int32).toInt = 0 → r_2.toInt = (btF (taub f0 x6.toInt) x0.toInt x1.toInt 0 9999).2.2.1 from fun _ => lm_bt hw_11 (by first | exact (om_31 tI_0) | (omega)) (by first | exact (om_117 tI_9999) | (omega)) (by first | exact (om_83 c_13) | (omega)) (by first | exact (om_53) | (omega)))⟩⟩ (g_psub (wc := (zS_48 cB cC cI cJ a0 a1 a2 (u_1.2.2.2.1 0) (u_1.2.2.2.1 1) (u_1.2.2.2.1 2) x3 (u_1.2.2.2.1 3) (u_1.2.2.2.1 4) a1 a3 x6 a3 f0 a2 a4 a5 a6 x7 x8 x9 x10 x11 r_2 x13)) hP [0, 1, 2, 3] rfl) (hD.sub (ws' := (zS_48 cB cC cI cJ a0 a1 a2 (u_1.2.2.2.1 0) (u_1.2.2.2.1 1) (u_1.2.2.2.1 2) x3 (u_1.2.2.2.1 3) (u_1.2.2.2.1 4) a1 a3 x6 a3 f0 a2 a4 a5 a6 x7 x8 x9 x10 x11 r_2 x13)) [0, 1, 2, 3] (by decide) rfl) hS
theorem om_120 {a b c : Int} (h0 : (a < c)) (h1 : (b = 1)) : (a + 1 + 100 * b ≤ c + 100) := by omega
theorem om_121 {a b c d e f : Int} (h0 : (a = 1)) (h1 : (c < b)) (h2 : (d = 0)) (h3 : (e = -1)) (h4 : (0 ≤ f)) : ((a = 0 ∧ b ≤ c ∧ d = 4 ∧ e = f) ∨ (a = 1 ∧ c < b)) := by omega
theorem om_122 {a : Int} (h0 : (a = 0)) : (¬ (¬ a = 0)) := by omega
theorem om_123 {a b c : Int} (h0 : ((-1) ≤ c)) (h1 : (a ≤ 16)) (h2 : (b = 0)) : (a + 1 + 100 * b ≤ c + 100) := by omega
theorem om_124 {a b c d e : Int} (h0 : (a = 0)) (h1 : (c ≥ b)) (h2 : (d = 4)) : ((a = 0 ∧ b ≤ c ∧ d = 4 ∧ e = e) ∨ (a = 1 ∧ c < b)) := by omega
theorem om_125 {a b c : Int} (h0 : (b = 0)) (h1 : (a = 4)) (h2 : (c ≤ 1600)) : (a ≤ 4 - 4 * b ∧ c ≤ 1600 - 1601 * b) := by omega
set_option maxHeartbeats 4000000 in
set_option maxRecDepth 100000 in
theorem k_X4_hasRoom (l : Launch) (D : va_G) (cB cC cI cJ : ClassId) (sz : Nat) (a0 a1 a2 : Nat) (x0 x1 x2 x3 x4 x5 x6 x7 : Int32) (hp1 : (0 ≤ x0.toInt ∧ x0.toInt ≤ 16)) (hp2 : ((-1) ≤ x1.toInt ∧ x1.toInt ≤ 16)) (h_x2 : (0 ≤ x2.toInt ∧ x2.toInt ≤ 1600)) (h_x3 : ((-1) ≤ x3.toInt ∧ x3.toInt ≤ 255)) (h_x4 : (0 ≤ x4.toInt ∧ x4.toInt ≤ 1600)) (h_x6 : (0 ≤ x6.toInt ∧ x6.toInt ≤ 4)) (h_x7 : ((-1) ≤ x7.toInt ∧ x7.toInt ≤ 1600)) (hg__ff : x6.toInt = 0 ∧ x7.toInt = -1) : Met l yX4_hasRoom (.code yX4_hasRoom cX4_hasRoom 3 (some .boolean) :: lw_gd) ({ frames := 1, cells := 0, slots := 0, locals := 22 }) (gPre D [(cB, .byte), (cC, .char), (cI, .int), (cJ, .long)] [.ref a0, .int x0, .int x1] (zS_2 cB cC cI cJ a0 a1 a2 x2 x3 x4 x5 x6 x7) sz) (va_Qi (fun r u => (0 ≤ r.toInt ∧ r.toInt ≤ 1) ∧ (0 ≤ (u.2.2.2.1 0).toInt ∧ (u.2.2.2.1 0).toInt ≤ 4) ∧ ((-1) ≤ (u.2.2.2.1 1).toInt ∧ (u.2.2.2.1 1).toInt ≤ 1600) ∧ (x0.toInt + 1 + 100 * r.toInt ≤ x1.toInt + 100) ∧ ((r.toInt = 0 ∧ x1.toInt ≤ x0.toInt ∧ (u.2.2.2.1 0).toInt = 4 ∧ (u.2.2.2.1 1).toInt = x2.toInt) ∨ (r.toInt = 1 ∧ x0.toInt < x1.toInt)) ∧ ((u.2.2.2.1 0).toInt ≤ 4 - 4 * r.toInt ∧ (u.2.2.2.1 1).toInt ≤ 1600 - 1601 * r.toInt)) (gB D (va_A (zS_2 cB cC cI cJ a0 a1 a2 x2 x3 x4 x5 x6 x7) sz) (fun u : gEx => (zS_2 cB cC cI cJ a0 a1 a2 x2 x3 x4 x5 (u.2.2.2.1 0) (u.2.2.2.1 1)))) (va_A (zS_2 cB cC cI cJ a0 a1 a2 x2 x3 x4 x5 x6 x7) sz)) 0 0 (va_A (zS_2 cB cC cI cJ a0 a1 a2 x2 x3 x4 x5 x6 x7) sz) := by
  refine gOf_z (by decide +kernel) (Nat.le_of_ble_eq_true rfl) ?_
  intro p e s m args below meth c ls A Q hx hb hts hown hml hN hK hP hD hA hl hret
  replace hown : s.vm.findClass RX4 = some m.cls := hown
  have hS : va_S A s.heap s.heap [] := va_S.rf
  replace hP : va_P D gcl (zS_2 cB cC cI cJ a0 a1 a2 x2 x3 x4 x5 x6 x7) s.heap := hP
  replace hl : lv_has ls 3 [(0, .ref a0), (1, .int x0), (2, .int x1)] := hl
  have rx5 := n_rng x5
  refine lv_iload_n (pc := 0) hx hb dX4_hasRoom_0 rfl (lv_at hl 1 rfl) ?_
  refine lv_iload_n (pc := 1) hx hb dX4_hasRoom_1 rfl (lv_at hl 2 rfl) ?_
  refine b_icmp_lt (pc := 2) (tgt := 17) hx hb rfl rfl  dX4_hasRoom_2 (by decide) (fun c_1 => ?_) (fun c_1 => ?_)
  ·
    refine lv_iconst (pc := 17) (v := 1) hx hb dX4_hasRoom_17 (by decide) ?_
    refine lv_goto (pc := 18) (tgt := 22) hx hb dX4_hasRoom_18 (by decide) ?_
    have k9 := tI_1
    exact hret 1 ((fun _ => 0), (fun _ => (fun _ => 0)), (fun _ => (fun _ => 0)), (fun k => [x6, x7].getD k 0), (fun _ => 0)) dX4_hasRoom_22 ⟨(Or.inr tI_1), ⟨(show (0 ≤ (1 : Int32).toInt ∧ (1 : Int32).toInt ≤ 1) from (n_c tI_1 (by decide))), (show (0 ≤ (x6 : Int32).toInt ∧ (x6 : Int32).toInt ≤ 4) from h_x6), (show ((-1) ≤ (x7 : Int32).toInt ∧ (x7 : Int32).toInt ≤ 1600) from h_x7), (show x0.toInt + 1 + 100 * (1 : Int32).toInt ≤ x1.toInt + 100 from (by first | exact (om_120 c_1 tI_1) | (have k9 := tI_1; omega))), (show ((1 : Int32).toInt = 0 ∧ x1.toInt ≤ x0.toInt ∧ x6.toInt = 4 ∧ x7.toInt = x2.toInt) ∨ ((1 : Int32).toInt = 1 ∧ x0.toInt < x1.toInt) from (by first | exact (om_121 tI_1 c_1 hg__ff.1 hg__ff.2 h_x2.1) | (have k9 := tI_1; omega))), (show x6.toInt ≤ 4 - 4 * (1 : Int32).toInt ∧ x7.toInt ≤ 1600 - 1601 * (1 : Int32).toInt from (by first | exact (om_50 hg__ff.1 tI_1 hg__ff.2) | (have k9 := tI_1; omega)))⟩⟩ (g_psub (wc := (zS_2 cB cC cI cJ a0 a1 a2 x2 x3 x4 x5 x6 x7)) hP [0] rfl) (hD.sub (ws' := (zS_2 cB cC cI cJ a0 a1 a2 x2 x3 x4 x5 x6 x7)) [0] (by decide) rfl) hS
  ·
    refine lv_aload_n (pc := 5) hx hb dX4_hasRoom_5 rfl (lv_at hl 0 rfl) ?_
    refine lv_iconst (pc := 6) (v := 4) hx hb dX4_hasRoom_6 (by decide) ?_
    refine lv_aload_n (pc := 7) hx hb dX4_hasRoom_7 rfl (lv_at hl 0 rfl) ?_
    refine va_get (pc := 8) (ci := 4) (v := .int x2) (C := RX4) (T := TX4) (N := 8) hx hb hts iX4 hown hK hP 0 rfl rfl 2 (by decide) (hts _ tw_170) (fun _ h9 => h9) rfl dX4_hasRoom_8 ?_
    refine gd_i (pc := 11) (wc := (zS_2 cB cC cI cJ a0 a1 a2 x2 x3 x4 x5 x6 x7)) hP hD hS hA [0] rfl (by decide +kernel) (fun _ => by rfl) (fun hPc hDc => va_runV (As := [.int 4, .int x2]) (rest := []) ⟨hx, hb, hml, hown, hts⟩ (k_X4_fail l D cB cC cI cJ _ a0 a1 a2 4 x2 x2 x3 x4 x5 x6 x7 (n_c tI_4 (by decide)) h_x2 h_x2 h_x3 h_x4 h_x6 h_x7) ⟨gcwB hts tw_535 tw_2 tw_532 hd_yX4_fail ⟨Nat.le_of_ble_eq_true rfl, Nat.le_of_ble_eq_true rfl⟩, hts _ tw_534, hts _ tp_2⟩ ⟨gblind, va_recv hK hPc (ci := 4) (q0 := 0) rfl rfl, (gpreS hPc hK hDc hN).2⟩ rfl rfl hl.1 rfl (lv_room (Nat.le_of_ble_eq_true rfl)) dX4_hasRoom_11 ⟨Nat.le_of_ble_eq_true rfl, Nat.le_of_ble_eq_true rfl⟩) (fun r_3 u_2 H locs hw_4 hP hD hS => ?_)
    replace hP : va_P D gcl (zS_2 cB cC cI cJ a0 a1 a2 x2 x3 x4 x5 4 x2) H := hP
    replace hD : va_D A (zS_2 cB cC cI cJ a0 a1 a2 x2 x3 x4 x5 4 x2) := hD
    have hw_5 : ((r_3.toInt = 0)) := hw_4
    have kk0_r_3 := tI_4
    have rr_3 := n_rng r_3
    refine b_if_eq (pc := 14) (tgt := 21) hx hb rfl  dX4_hasRoom_14 (by decide) (fun c_6 => ?_) (fun c_6 => absurd c_6 (by first | exact (om_122 hw_5) | (omega)))
    refine lv_iconst (pc := 21) (v := 0) hx hb dX4_hasRoom_21 (by decide) ?_
    have k9 := tI_0
    have k8_0 := tI_4
    exact hret 0 ((fun _ => 0), (fun _ => (fun _ => 0)), (fun _ => (fun _ => 0)), (fun k => [4, x2].getD k 0), (fun _ => 0)) dX4_hasRoom_22 ⟨(Or.inl tI_0), ⟨(show (0 ≤ (0 : Int32).toInt ∧ (0 : Int32).toInt ≤ 1) from (n_c tI_0 (by decide))), (show (0 ≤ (4 : Int32).toInt ∧ (4 : Int32).toInt ≤ 4) from (n_c tI_4 (by decide))), (show ((-1) ≤ (x2 : Int32).toInt ∧ (x2 : Int32).toInt ≤ 1600) from (by first | exact (om_52 h_x2.1 h_x2.2) | (have k9 := tI_0; have k8_0 := tI_4; omega))), (show x0.toInt + 1 + 100 * (0 : Int32).toInt ≤ x1.toInt + 100 from (by first | exact (om_123 hp2.1 hp1.2 tI_0) | (have k9 := tI_0; have k8_0 := tI_4; omega))), (show ((0 : Int32).toInt = 0 ∧ x1.toInt ≤ x0.toInt ∧ (4 : Int32).toInt = 4 ∧ x2.toInt = x2.toInt) ∨ ((0 : Int32).toInt = 1 ∧ x0.toInt < x1.toInt) from (by first | exact (om_124 tI_0 c_1 tI_4) | (have k9 := tI_0; have k8_0 := tI_4; omega))), (show (4 : Int32).toInt ≤ 4 - 4 * (0 : Int32).toInt ∧ x2.toInt ≤ 1600 - 1601 * (0 : Int32).toInt from (by first | exact (om_125 tI_0 tI_4 h_x2.2) | (have k9 := tI_0; have k8_0 := tI_4; omega)))⟩⟩ (g_psub (wc := (zS_2 cB cC cI cJ a0 a1 a2 x2 x3 x4 x5 4 x2)) hP [0] rfl) (hD.sub (ws' := (zS_2 cB cC cI cJ a0 a1 a2 x2 x3 x4 x5 4 x2)) [0] (by decide) rfl) hS
theorem om_126 {a : Int} : (((a ≥ 8) ∨ (a < 8))) := by omega
theorem om_127 {a : Int} (h0 : (a < 8)) : (a < (8 : Nat)) := by omega
theorem om_128 {a : Int} (h0 : (a ≤ 1600)) : (a ≤ 1600) := by omega
set_option maxHeartbeats 4000000 in
set_option maxRecDepth 100000 in
theorem k_X5_beginRule (l : Launch) (D : va_G) (cB cC cI cJ : ClassId) (sz : Nat) (a0 a1 a2 a3 a4 a5 : Nat) (x0 x1 : Int32) (f0 : Nat → Int32) (h_x0 : (0 ≤ x0.toInt ∧ x0.toInt ≤ 1600)) (h_x1 : (0 ≤ x1.toInt ∧ x1.toInt ≤ 8)) (hf_f0 : (∀ j, 0 ≤ (f0 j).toInt ∧ (f0 j).toInt ≤ 1600)) : Met l yX5_beginRule (.code yX5_beginRule cX5_beginRule 1 none :: lw_gd) ({ frames := 0, cells := 0, slots := 0, locals := 0 }) (gPre D [(cB, .byte), (cC, .char), (cI, .int), (cJ, .long)] [.ref a0] (zS_49 cB cC cI cJ a0 a1 a2 a3 a4 a5 x0 x1 a2 f0) sz) (va_Qv (fun u => ((x1.toInt ≥ 8) ∨ (x1.toInt < 8)) ∧ (∀ j, 0 ≤ ((u.2.1 0) j).toInt ∧ ((u.2.1 0) j).toInt ≤ 1600)) (gB D (va_A (zS_49 cB cC cI cJ a0 a1 a2 a3 a4 a5 x0 x1 a2 f0) sz) (fun u : gEx => (zS_49 cB cC cI cJ a0 a1 a2 a3 a4 a5 x0 x1 a2 (u.2.1 0)))) (va_A (zS_49 cB cC cI cJ a0 a1 a2 a3 a4 a5 x0 x1 a2 f0) sz)) 0 0 (va_A (zS_49 cB cC cI cJ a0 a1 a2 a3 a4 a5 x0 x1 a2 f0) sz) := by
  refine gOf_v (by decide +kernel) (Nat.le_of_ble_eq_true rfl) ?_
  intro p e s m args below meth c ls A Q hx hb hts hown hml hN hK hP hD hA hl hret
  replace hown : s.vm.findClass RX5 = some m.cls := hown
  have hS : va_S A s.heap s.heap [] := va_S.rf
  replace hP : va_P D gcl (zS_49 cB cC cI cJ a0 a1 a2 a3 a4 a5 x0 x1 a2 f0) s.heap := hP
  replace hl : lv_has ls 1 [(0, .ref a0)] := hl
  refine lv_aload_n (pc := 0) hx hb dX5_beginRule_0 rfl (lv_at hl 0 rfl) ?_
  refine va_get (pc := 1) (ci := 5) (v := .int x1) (C := RX5) (T := TX5) (N := 7) hx hb hts iX5 hown hK hP 0 rfl rfl 6 (by decide) (hts _ tw_79) (fun _ h9 => h9) rfl dX5_beginRule_1 ?_
  refine lv_bipush (pc := 4) (v := 8) hx hb dX5_beginRule_4 (by decide) ?_
  refine b_icmp_ge (pc := 6) (tgt := 22) hx hb rfl tI_8  dX5_beginRule_6 (by decide) (fun c_1 => ?_) (fun c_1 => ?_)
  ·
    exact hret ((fun _ => 0), (fun k => [f0].getD k (fun _ => 0)), (fun _ => (fun _ => 0)), (fun _ => 0), (fun _ => 0)) dX5_beginRule_22 ⟨(show ((x1.toInt ≥ 8) ∨ (x1.toInt < 8)) from (by first | exact (om_126) | (omega))), hf_f0⟩ (g_psub (wc := (zS_49 cB cC cI cJ a0 a1 a2 a3 a4 a5 x0 x1 a2 f0)) hP [0, 1] rfl) (hD.sub (ws' := (zS_49 cB cC cI cJ a0 a1 a2 a3 a4 a5 x0 x1 a2 f0)) [0, 1] (by decide) rfl) hS
  ·
    refine lv_aload_n (pc := 9) hx hb dX5_beginRule_9 rfl (lv_at hl 0 rfl) ?_
    refine va_get (pc := 10) (ci := 5) (v := .ref a2) (C := RX5) (T := TX5) (N := 7) hx hb hts iX5 hown hK hP 0 rfl rfl 1 (by decide) (hts _ tw_74) (fun _ h9 => h9) rfl dX5_beginRule_10 ?_
    refine lv_aload_n (pc := 13) hx hb dX5_beginRule_13 rfl (lv_at hl 0 rfl) ?_
    refine va_get (pc := 14) (ci := 5) (v := .int x1) (C := RX5) (T := TX5) (N := 7) hx hb hts iX5 hown hK hP 0 rfl rfl 6 (by decide) (hts _ tw_79) (fun _ h9 => h9) rfl dX5_beginRule_14 ?_
    refine lv_aload_n (pc := 17) hx hb dX5_beginRule_17 rfl (lv_at hl 0 rfl) ?_
    refine va_get (pc := 18) (ci := 5) (v := .int x0) (C := RX5) (T := TX5) (N := 7) hx hb hts iX5 hown hK hP 0 rfl rfl 5 (by decide) (hts _ tw_78) (fun _ h9 => h9) rfl dX5_beginRule_18 ?_
    refine h_iastore (pc := 21) hx hb hK hP hD hS 1 2 rfl rfl (n_in rfl (by first | exact (om_0 h_x1.1) | (omega)) (by first | exact (om_127 c_1) | (omega))) dX5_beginRule_21 hf_f0 (by first | exact (om_0 h_x0.1) | (omega)) (by first | exact (om_128 h_x0.2) | (omega)) (fun f_2 hf_2 H locs hP hD hS => ?_)
    replace hP : va_P D gcl (zS_49 cB cC cI cJ a0 a1 a2 a3 a4 a5 x0 x1 a2 f_2) H := hP
    replace hD : va_D A (zS_49 cB cC cI cJ a0 a1 a2 a3 a4 a5 x0 x1 a2 f_2) := hD
    exact hret ((fun _ => 0), (fun k => [f_2].getD k (fun _ => 0)), (fun _ => (fun _ => 0)), (fun _ => 0), (fun _ => 0)) dX5_beginRule_22 ⟨(show ((x1.toInt ≥ 8) ∨ (x1.toInt < 8)) from (by first | exact (om_126) | (omega))), hf_2⟩ (g_psub (wc := (zS_49 cB cC cI cJ a0 a1 a2 a3 a4 a5 x0 x1 a2 f_2)) hP [0, 1] rfl) (hD.sub (ws' := (zS_49 cB cC cI cJ a0 a1 a2 a3 a4 a5 x0 x1 a2 f_2)) [0, 1] (by decide) rfl) hS
theorem om_129 {a : Int} (h0 : (a ≥ 1600)) : (((a ≥ 1600 ∧ a = a) ∨ (a < 1600 ∧ a = (a) + (1)))) := by omega
theorem om_130 {a : Int} (h0 : (a < 1600)) : (a < (1600 : Nat)) := by omega
theorem om_131 {a : Int} (h0 : (a < 1600)) : (a + 1 ≤ 2147483647) := by omega
theorem om_132 {a b : Int} (h0 : (b = a + 1)) (h1 : (a < 1600)) : (((a ≥ 1600 ∧ b = a) ∨ (a < 1600 ∧ b = (a) + (1)))) := by omega
theorem om_133 {a b : Int} (h0 : (a = b + 1)) (h1 : (0 ≤ b)) (h2 : (b < 1600)) : ((0 ≤ a ∧ a ≤ 1600)) := by omega
set_option maxHeartbeats 4000000 in
set_option maxRecDepth 100000 in
theorem k_X5_add (l : Launch) (D : va_G) (cB cC cI cJ : ClassId) (sz : Nat) (a0 a1 a2 a3 a4 a5 : Nat) (x0 x1 x2 : Int32) (f0 : Nat → Int32) (h_x1 : (0 ≤ x1.toInt ∧ x1.toInt ≤ 1600)) (h_x2 : (0 ≤ x2.toInt ∧ x2.toInt ≤ 8)) : Met l yX5_add (.code yX5_add cX5_add 2 none :: lw_gd) ({ frames := 0, cells := 0, slots := 0, locals := 0 }) (gPre D [(cB, .byte), (cC, .char), (cI, .int), (cJ, .long)] [.ref a0, .int x0] (zS_143 cB cC cI cJ a0 a1 a2 a3 a4 a5 x1 x2 a1 f0) sz) (va_Qv (fun u => ((x1.toInt ≥ 1600 ∧ (u.2.2.2.1 0).toInt = x1.toInt) ∨ (x1.toInt < 1600 ∧ (u.2.2.2.1 0).toInt = (x1.toInt) + (1))) ∧ (0 ≤ (u.2.2.2.1 0).toInt ∧ (u.2.2.2.1 0).toInt ≤ 1600)) (gB D (va_A (zS_143 cB cC cI cJ a0 a1 a2 a3 a4 a5 x1 x2 a1 f0) sz) (fun u : gEx => (zS_143 cB cC cI cJ a0 a1 a2 a3 a4 a5 (u.2.2.2.1 0) x2 a1 (u.2.1 0)))) (va_A (zS_143 cB cC cI cJ a0 a1 a2 a3 a4 a5 x1 x2 a1 f0) sz)) 0 0 (va_A (zS_143 cB cC cI cJ a0 a1 a2 a3 a4 a5 x1 x2 a1 f0) sz) := by
  refine gOf_v (by decide +kernel) (Nat.le_of_ble_eq_true rfl) ?_
  intro p e s m args below meth c ls A Q hx hb hts hown hml hN hK hP hD hA hl hret
  replace hown : s.vm.findClass RX5 = some m.cls := hown
  have hS : va_S A s.heap s.heap [] := va_S.rf
  replace hP : va_P D gcl (zS_143 cB cC cI cJ a0 a1 a2 a3 a4 a5 x1 x2 a1 f0) s.heap := hP
  replace hl : lv_has ls 2 [(0, .ref a0), (1, .int x0)] := hl
  have rx0 := n_rng x0
  refine lv_aload_n (pc := 0) hx hb dX5_add_0 rfl (lv_at hl 0 rfl) ?_
  refine va_get (pc := 1) (ci := 5) (v := .int x1) (C := RX5) (T := TX5) (N := 7) hx hb hts iX5 hown hK hP 0 rfl rfl 5 (by decide) (hts _ tw_78) (fun _ h9 => h9) rfl dX5_add_1 ?_
  refine lv_aload_n (pc := 4) hx hb dX5_add_4 rfl (lv_at hl 0 rfl) ?_
  refine va_get (pc := 5) (ci := 5) (v := .ref a1) (C := RX5) (T := TX5) (N := 7) hx hb hts iX5 hown hK hP 0 rfl rfl 0 (by decide) (hts _ tw_73) (fun _ h9 => h9) rfl dX5_add_5 ?_
  refine va_alen (pc := 8) (v := 1600) hx hb hK hP 1 2 rfl rfl rfl dX5_add_8 ?_
  refine b_icmp_ge (pc := 9) (tgt := 32) hx hb rfl tI_1600  dX5_add_9 (by decide) (fun c_1 => ?_) (fun c_1 => ?_)
  ·
    exact hret ((fun _ => 0), (fun k => [f0].getD k (fun _ => 0)), (fun _ => (fun _ => 0)), (fun k => [x1].getD k 0), (fun _ => 0)) dX5_add_32 ⟨(show ((x1.toInt ≥ 1600 ∧ (x1 : Int32).toInt = x1.toInt) ∨ (x1.toInt < 1600 ∧ (x1 : Int32).toInt = (x1.toInt) + (1))) from (by first | exact (om_129 c_1) | (omega))), (show (0 ≤ (x1 : Int32).toInt ∧ (x1 : Int32).toInt ≤ 1600) from h_x1)⟩ (g_psub (wc := (zS_143 cB cC cI cJ a0 a1 a2 a3 a4 a5 x1 x2 a1 f0)) hP [0, 1] rfl) (hD.sub (ws' := (zS_143 cB cC cI cJ a0 a1 a2 a3 a4 a5 x1 x2 a1 f0)) [0, 1] (by decide) rfl) hS
  ·
    refine lv_aload_n (pc := 12) hx hb dX5_add_12 rfl (lv_at hl 0 rfl) ?_
    refine va_get (pc := 13) (ci := 5) (v := .ref a1) (C := RX5) (T := TX5) (N := 7) hx hb hts iX5 hown hK hP 0 rfl rfl 0 (by decide) (hts _ tw_73) (fun _ h9 => h9) rfl dX5_add_13 ?_
    refine lv_aload_n (pc := 16) hx hb dX5_add_16 rfl (lv_at hl 0 rfl) ?_
    refine va_get (pc := 17) (ci := 5) (v := .int x1) (C := RX5) (T := TX5) (N := 7) hx hb hts iX5 hown hK hP 0 rfl rfl 5 (by decide) (hts _ tw_78) (fun _ h9 => h9) rfl dX5_add_17 ?_
    refine lv_iload_n (pc := 20) hx hb dX5_add_20 rfl (lv_at hl 1 rfl) ?_
    refine g_iastore (pc := 21) hx hb hK hP hD hS 1 2 rfl rfl (n_in rfl (by first | exact (om_0 h_x1.1) | (omega)) (by first | exact (om_130 c_1) | (omega))) dX5_add_21 (fun f_2 H locs hP hD hS => ?_)
    replace hP : va_P D gcl (zS_143 cB cC cI cJ a0 a1 a2 a3 a4 a5 x1 x2 a1 f_2) H := hP
    replace hD : va_D A (zS_143 cB cC cI cJ a0 a1 a2 a3 a4 a5 x1 x2 a1 f_2) := hD
    refine lv_aload_n (pc := 22) hx hb dX5_add_22 rfl (lv_at hl 0 rfl) ?_
    refine lv_dup (pc := 23) hx hb dX5_add_23 rfl ?_
    refine va_get (pc := 24) (ci := 5) (v := .int x1) (C := RX5) (T := TX5) (N := 7) hx hb hts iX5 hown hK hP 0 rfl rfl 5 (by decide) (hts _ tw_78) (fun _ h9 => h9) rfl dX5_add_24 ?_
    refine lv_iconst (pc := 27) (v := 1) hx hb dX5_add_27 (by decide) ?_
    refine b_iadd (pc := 28) hx hb rfl tI_1 (by first | exact (om_2 h_x1.1) | (omega)) (by first | exact (om_131 c_1) | (omega)) dX5_add_28 (fun x_3 ex_3 => ?_)
    refine va_put (pc := 29) (ci := 5) (v := .int x_3) (ty := .int) (C := RX5) (T := TX5) (N := 7) hx hb hts iX5 tyX5 tyX5_ok nmX5 hown hK hP hD hS 0 rfl rfl 5 (by decide) (hts _ tw_78) (fun _ h9 => h9) rfl (by decide +kernel) rfl rfl (Nat.le_of_ble_eq_true rfl) dX5_add_29 (fun H locs hP hD hS => ?_)
    replace hP : va_P D gcl (zS_143 cB cC cI cJ a0 a1 a2 a3 a4 a5 x_3 x2 a1 f_2) H := hP
    replace hD : va_D A (zS_143 cB cC cI cJ a0 a1 a2 a3 a4 a5 x_3 x2 a1 f_2) := hD
    exact hret ((fun _ => 0), (fun k => [f_2].getD k (fun _ => 0)), (fun _ => (fun _ => 0)), (fun k => [x_3].getD k 0), (fun _ => 0)) dX5_add_32 ⟨(show ((x1.toInt ≥ 1600 ∧ (x_3 : Int32).toInt = x1.toInt) ∨ (x1.toInt < 1600 ∧ (x_3 : Int32).toInt = (x1.toInt) + (1))) from (by first | exact (om_132 ex_3 c_1) | (omega))), (show (0 ≤ (x_3 : Int32).toInt ∧ (x_3 : Int32).toInt ≤ 1600) from (by first | exact (om_133 ex_3 h_x1.1 c_1) | (omega)))⟩ (g_psub (wc := (zS_143 cB cC cI cJ a0 a1 a2 a3 a4 a5 x_3 x2 a1 f_2)) hP [0, 1] rfl) (hD.sub (ws' := (zS_143 cB cC cI cJ a0 a1 a2 a3 a4 a5 x_3 x2 a1 f_2)) [0, 1] (by decide) rfl) hS
theorem om_134 {a : Int} (h0 : (a = 1)) : (((a = 1))) := by omega
set_option maxHeartbeats 4000000 in
set_option maxRecDepth 100000 in
theorem k_X4_adds (l : Launch) (D : va_G) (cB cC cI cJ : ClassId) (sz : Nat) (a0 a1 a2 a3 a4 a5 a6 a7 a8 a9 a10 : Nat) (x0 x1 x2 x3 x4 x5 x6 x7 x8 x9 x10 x11 x12 x13 x14 x15 : Int32) (f0 : Nat → Int32) (h_x1 : (0 ≤ x1.toInt ∧ x1.toInt ≤ 1600)) (h_x2 : ((-1) ≤ x2.toInt ∧ x2.toInt ≤ 255)) (h_x3 : (0 ≤ x3.toInt ∧ x3.toInt ≤ 1600)) (h_x5 : (0 ≤ x5.toInt ∧ x5.toInt ≤ 4)) (h_x6 : ((-1) ≤ x6.toInt ∧ x6.toInt ≤ 1600)) (h_x7 : ((-1) ≤ x7.toInt ∧ x7.toInt ≤ 8)) (h_x8 : ((-1) ≤ x8.toInt ∧ x8.toInt ≤ 5)) (h_x9 : ((-1) ≤ x9.toInt ∧ x9.toInt ≤ 6)) (h_x10 : (0 ≤ x10.toInt ∧ x10.toInt ≤ 6)) (h_x11 : (0 ≤ x11.toInt ∧ x11.toInt ≤ 16)) (h_x14 : (0 ≤ x14.toInt ∧ x14.toInt ≤ 1600)) (h_x15 : (0 ≤ x15.toInt ∧ x15.toInt ≤ 8)) : Met l yX4_adds (.code yX4_adds cX4_adds 2 (some .boolean) :: lw_gd) ({ frames := 1, cells := 0, slots := 0, locals := 21 }) (gPre D [(cB, .byte), (cC, .char), (cI, .int), (cJ, .long)] [.ref a0, .int x0] (zS_31 cB cC cI cJ a0 a1 a2 x1 x2 x3 x4 x5 x6 a2 a3 a4 a5 x7 x8 x9 x10 x11 x12 x13 a4 a6 a7 a8 a9 a10 x14 x15 a6 f0) sz) (va_Qi (fun r u => ((r.toInt = 1)) ∧ (0 ≤ (u.2.2.2.1 0).toInt ∧ (u.2.2.2.1 0).toInt ≤ 1600)) (gB D (va_A (zS_31 cB cC cI cJ a0 a1 a2 x1 x2 x3 x4 x5 x6 a2 a3 a4 a5 x7 x8 x9 x10 x11 x12 x13 a4 a6 a7 a8 a9 a10 x14 x15 a6 f0) sz) (fun u : gEx => (zS_31 cB cC cI cJ a0 a1 a2 x1 x2 x3 x4 x5 x6 a2 a3 a4 a5 x7 x8 x9 x10 x11 x12 x13 a4 a6 a7 a8 a9 a10 (u.2.2.2.1 0) x15 a6 (u.2.1 0)))) (va_A (zS_31 cB cC cI cJ a0 a1 a2 x1 x2 x3 x4 x5 x6 a2 a3 a4 a5 x7 x8 x9 x10 x11 x12 x13 a4 a6 a7 a8 a9 a10 x14 x15 a6 f0) sz)) 0 0 (va_A (zS_31 cB cC cI cJ a0 a1 a2 x1 x2 x3 x4 x5 x6 a2 a3 a4 a5 x7 x8 x9 x10 x11 x12 x13 a4 a6 a7 a8 a9 a10 x14 x15 a6 f0) sz) := by
  refine gOf_z (by decide +kernel) (Nat.le_of_ble_eq_true rfl) ?_
  intro p e s m args below meth c ls A Q hx hb hts hown hml hN hK hP hD hA hl hret
  replace hown : s.vm.findClass RX4 = some m.cls := hown
  have hS : va_S A s.heap s.heap [] := va_S.rf
  replace hP : va_P D gcl (zS_31 cB cC cI cJ a0 a1 a2 x1 x2 x3 x4 x5 x6 a2 a3 a4 a5 x7 x8 x9 x10 x11 x12 x13 a4 a6 a7 a8 a9 a10 x14 x15 a6 f0) s.heap := hP
  replace hl : lv_has ls 2 [(0, .ref a0), (1, .int x0)] := hl
  have rx0 := n_rng x0
  have rx4 := n_rng x4
  have rx12 := n_rng x12
  have rx13 := n_rng x13
  refine lv_aload_n (pc := 0) hx hb dX4_adds_0 rfl (lv_at hl 0 rfl) ?_
  refine va_get (pc := 1) (ci := 4) (v := .ref a2) (C := RX4) (T := TX4) (N := 8) hx hb hts iX4 hown hK hP 0 rfl rfl 1 (by decide) (hts _ tw_169) (fun _ h9 => h9) rfl dX4_adds_1 ?_
  refine va_getN (pc := 4) (ci := 1) (v := .ref a4) (C := RX1) (T := TX1) (N := 10) hx hb hts iX1 hown hK hP 1 rfl rfl 1 (by decide) (va_Nw.use rfl (hN _ tn_107)) (fun _ h9 => h9) rfl dX4_adds_4 ?_
  refine lv_iload_n (pc := 7) hx hb dX4_adds_7 rfl (lv_at hl 1 rfl) ?_
  refine gd_v (pc := 8) (wc := (zS_143 cB cC cI cJ a4 a6 a7 a8 a9 a10 x14 x15 a6 f0)) hP hD hS hA [2, 3] rfl (by decide +kernel) (fun _ => by rfl) (fun hPc hDc => va_runV (As := [.int x0]) (rest := []) ⟨hx, hb, hml, hown, hts⟩ (k_X5_add l D cB cC cI cJ _ a4 a6 a7 a8 a9 a10 x0 x14 x15 f0 h_x14 h_x15) ⟨gcwB hts tw_688 tw_6 tw_685 hd_yX5_add ⟨Nat.le_of_ble_eq_true rfl, Nat.le_of_ble_eq_true rfl⟩, hts _ tw_686, hts _ tw_687⟩ ⟨gblind, va_recv hK hPc (ci := 5) (q0 := 0) rfl rfl, (gpreS hPc hK hDc hN).2⟩ rfl rfl hl.1 rfl (lv_room (Nat.le_of_ble_eq_true rfl)) dX4_adds_8 ⟨Nat.le_of_ble_eq_true rfl, Nat.le_of_ble_eq_true rfl⟩) (fun u_1 H locs hw_3 hP hD hS => ?_)
  replace hP : va_P D gcl (zS_31 cB cC cI cJ a0 a1 a2 x1 x2 x3 x4 x5 x6 a2 a3 a4 a5 x7 x8 x9 x10 x11 x12 x13 a4 a6 a7 a8 a9 a10 (u_1.2.2.2.1 0) x15 a6 (u_1.2.1 0)) H := hP
  replace hD : va_D A (zS_31 cB cC cI cJ a0 a1 a2 x1 x2 x3 x4 x5 x6 a2 a3 a4 a5 x7 x8 x9 x10 x11 x12 x13 a4 a6 a7 a8 a9 a10 (u_1.2.2.2.1 0) x15 a6 (u_1.2.1 0)) := hD
  obtain ⟨hw_4, hw_5⟩ := hw_3
  replace hw_4 : ((x14.toInt ≥ 1600 ∧ (u_1.2.2.2.1 0).toInt = x14.toInt) ∨ (x14.toInt < 1600 ∧ (u_1.2.2.2.1 0).toInt = (x14.toInt) + (1))) := hw_4
  replace hw_5 : (0 ≤ (u_1.2.2.2.1 0).toInt ∧ (u_1.2.2.2.1 0).toInt ≤ 1600) := hw_5
  refine lv_iconst (pc := 11) (v := 1) hx hb dX4_adds_11 (by decide) ?_
  exact hret 1 ((fun _ => 0), (fun k => [(u_1.2.1 0)].getD k (fun _ => 0)), (fun _ => (fun _ => 0)), (fun k => [(u_1.2.2.2.1 0)].getD k 0), (fun _ => 0)) dX4_adds_12 ⟨(Or.inr tI_1), ⟨(show (((1 : Int32).toInt = 1)) from (by first | exact (om_134 tI_1) | (have k9 := tI_1; omega))), (show (0 ≤ ((u_1.2.2.2.1 0) : Int32).toInt ∧ ((u_1.2.2.2.1 0) : Int32).toInt ≤ 1600) from hw_5)⟩⟩ (g_psub (wc := (zS_31 cB cC cI cJ a0 a1 a2 x1 x2 x3 x4 x5 x6 a2 a3 a4 a5 x7 x8 x9 x10 x11 x12 x13 a4 a6 a7 a8 a9 a10 (u_1.2.2.2.1 0) x15 a6 (u_1.2.1 0))) hP [0, 1, 2, 3] rfl) (hD.sub (ws' := (zS_31 cB cC cI cJ a0 a1 a2 x1 x2 x3 x4 x5 x6 a2 a3 a4 a5 x7 x8 x9 x10 x11 x12 x13 a4 a6 a7 a8 a9 a10 (u_1.2.2.2.1 0) x15 a6 (u_1.2.1 0))) [0, 1, 2, 3] (by decide) rfl) hS
theorem om_135 {a : Int} (h0 : (a ≤ 0)) : (¬ (a ≥ 6)) := by omega
theorem om_136 {a : Int} (h0 : (a < 6)) : (a + 1 ≤ 2147483647) := by omega
theorem om_137 {a b c : Int} (h0 : (a = 1)) (h1 : (b < 6)) (h2 : (c = b + 1)) : (((a = 1 ∧ b < 6 ∧ c = (b) + (1)))) := by omega
theorem zom_0 {o o1 : Int} (b0 : 0 ≤ o) (b1 : o1 ≤ 6) (ho : o1 = o + 1) {a : Int} (h0 : (a ≤ o)) : (¬ (a ≥ 6)) := by omega
theorem zom_1 {o o1 : Int} (b0 : 0 ≤ o) (b1 : o1 ≤ 6) (ho : o1 = o + 1) {a : Int} (h0 : (o ≤ a)) : (-2147483648 ≤ a + 1) := by omega
set_option maxHeartbeats 4000000 in
set_option maxRecDepth 100000 in
theorem zG_opens {o o1 : Int} {fr lc : Nat} (b0 : 0 ≤ o) (b1 : o1 ≤ 6) (ho : o1 = o + 1)   (l : Launch) (D : va_G) (cB cC cI cJ : ClassId) (sz : Nat) (a0 a1 a2 : Nat) (x0 x1 x2 x3 x4 x5 : Int32) (h_x0 : (0 ≤ x0.toInt ∧ x0.toInt ≤ 1600)) (h_x1 : ((-1) ≤ x1.toInt ∧ x1.toInt ≤ 255)) (h_x2 : (0 ≤ x2.toInt ∧ x2.toInt ≤ 1600)) (h_x3 : (o ≤ x3.toInt ∧ x3.toInt ≤ o)) (h_x4 : (0 ≤ x4.toInt ∧ x4.toInt ≤ 4)) (h_x5 : ((-1) ≤ x5.toInt ∧ x5.toInt ≤ 1600)) : Met l yX4_opens (.code yX4_opens cX4_opens 1 (some .boolean) :: lw_gd) ({ frames := 0, cells := 0, slots := 0, locals := 0 }) (gPre D [(cB, .byte), (cC, .char), (cI, .int), (cJ, .long)] [.ref a0] (zS_2 cB cC cI cJ a0 a1 a2 x0 x1 x2 x3 x4 x5) sz) (va_Qi (fun r u => ((r.toInt = 1 ∧ x3.toInt < 6 ∧ (u.2.2.2.1 0).toInt = (x3.toInt) + (1)))) (gB D (va_A (zS_2 cB cC cI cJ a0 a1 a2 x0 x1 x2 x3 x4 x5) sz) (fun u : gEx => (zS_2 cB cC cI cJ a0 a1 a2 x0 x1 x2 (u.2.2.2.1 0) x4 x5))) (va_A (zS_2 cB cC cI cJ a0 a1 a2 x0 x1 x2 x3 x4 x5) sz)) 0 0 (va_A (zS_2 cB cC cI cJ a0 a1 a2 x0 x1 x2 x3 x4 x5) sz) := by
  refine gOf_z (by decide +kernel) (Nat.le_of_ble_eq_true rfl) ?_
  intro p e s m args below meth c ls A Q hx hb hts hown hml hN hK hP hD hA hl hret
  replace hown : s.vm.findClass RX4 = some m.cls := hown
  have hS : va_S A s.heap s.heap [] := va_S.rf
  replace hP : va_P D gcl (zS_2 cB cC cI cJ a0 a1 a2 x0 x1 x2 x3 x4 x5) s.heap := hP
  replace hl : lv_has ls 1 [(0, .ref a0)] := hl
  refine lv_aload_n (pc := 0) hx hb dX4_opens_0 rfl (lv_at hl 0 rfl) ?_
  refine va_get (pc := 1) (ci := 4) (v := .int x3) (C := RX4) (T := TX4) (N := 8) hx hb hts iX4 hown hK hP 0 rfl rfl 5 (by decide) (hts _ tw_173) (fun _ h9 => h9) rfl dX4_opens_1 ?_
  refine lv_bipush (pc := 4) (v := 6) hx hb dX4_opens_4 (by decide) ?_
  refine b_icmp_lt (pc := 6) (tgt := 19) hx hb rfl tI_6  dX4_opens_6 (by decide) (fun c_1 => ?_) (fun c_1 => absurd c_1 (by first | exact (zom_0 b0 b1 ho h_x3.2) | (omega)))
  refine lv_aload_n (pc := 19) hx hb dX4_opens_19 rfl (lv_at hl 0 rfl) ?_
  refine lv_dup (pc := 20) hx hb dX4_opens_20 rfl ?_
  refine va_get (pc := 21) (ci := 4) (v := .int x3) (C := RX4) (T := TX4) (N := 8) hx hb hts iX4 hown hK hP 0 rfl rfl 5 (by decide) (hts _ tw_173) (fun _ h9 => h9) rfl dX4_opens_21 ?_
  refine lv_iconst (pc := 24) (v := 1) hx hb dX4_opens_24 (by decide) ?_
  refine b_iadd (pc := 25) hx hb rfl tI_1 (by first | exact (zom_1 b0 b1 ho h_x3.1) | (omega)) (by first | exact (om_136 c_1) | (omega)) dX4_opens_25 (fun x_2 ex_2 => ?_)
  refine va_put (pc := 26) (ci := 4) (v := .int x_2) (ty := .int) (C := RX4) (T := TX4) (N := 8) hx hb hts iX4 tyX4 tyX4_ok nmX4 hown hK hP hD hS 0 rfl rfl 5 (by decide) (hts _ tw_173) (fun _ h9 => h9) rfl (by decide +kernel) rfl rfl (Nat.le_of_ble_eq_true rfl) dX4_opens_26 (fun H locs hP hD hS => ?_)
  replace hP : va_P D gcl (zS_2 cB cC cI cJ a0 a1 a2 x0 x1 x2 x_2 x4 x5) H := hP
  replace hD : va_D A (zS_2 cB cC cI cJ a0 a1 a2 x0 x1 x2 x_2 x4 x5) := hD
  refine lv_iconst (pc := 29) (v := 1) hx hb dX4_opens_29 (by decide) ?_
  exact hret 1 ((fun _ => 0), (fun _ => (fun _ => 0)), (fun _ => (fun _ => 0)), (fun k => [x_2].getD k 0), (fun _ => 0)) dX4_opens_30 ⟨(Or.inr tI_1), (show (((1 : Int32).toInt = 1 ∧ x3.toInt < 6 ∧ (x_2 : Int32).toInt = (x3.toInt) + (1))) from (by first | exact (om_137 tI_1 c_1 ex_2) | (have k9 := tI_1; omega)))⟩ (g_psub (wc := (zS_2 cB cC cI cJ a0 a1 a2 x0 x1 x2 x_2 x4 x5)) hP [0] rfl) (hD.sub (ws' := (zS_2 cB cC cI cJ a0 a1 a2 x0 x1 x2 x_2 x4 x5)) [0] (by decide) rfl) hS
theorem k_X4_opens_0 (l : Launch) (D : va_G) (cB cC cI cJ : ClassId) (sz : Nat) (a0 a1 a2 : Nat) (x0 x1 x2 x3 x4 x5 : Int32) (h_x0 : (0 ≤ x0.toInt ∧ x0.toInt ≤ 1600)) (h_x1 : ((-1) ≤ x1.toInt ∧ x1.toInt ≤ 255)) (h_x2 : (0 ≤ x2.toInt ∧ x2.toInt ≤ 1600)) (h_x3 : (0 ≤ x3.toInt ∧ x3.toInt ≤ 0)) (h_x4 : (0 ≤ x4.toInt ∧ x4.toInt ≤ 4)) (h_x5 : ((-1) ≤ x5.toInt ∧ x5.toInt ≤ 1600)) : Met l yX4_opens (.code yX4_opens cX4_opens 1 (some .boolean) :: lw_gd) ({ frames := 0, cells := 0, slots := 0, locals := 0 }) (gPre D [(cB, .byte), (cC, .char), (cI, .int), (cJ, .long)] [.ref a0] (zS_2 cB cC cI cJ a0 a1 a2 x0 x1 x2 x3 x4 x5) sz) (va_Qi (fun r u => ((r.toInt = 1 ∧ x3.toInt < 6 ∧ (u.2.2.2.1 0).toInt = (x3.toInt) + (1)))) (gB D (va_A (zS_2 cB cC cI cJ a0 a1 a2 x0 x1 x2 x3 x4 x5) sz) (fun u : gEx => (zS_2 cB cC cI cJ a0 a1 a2 x0 x1 x2 (u.2.2.2.1 0) x4 x5))) (va_A (zS_2 cB cC cI cJ a0 a1 a2 x0 x1 x2 x3 x4 x5) sz)) 0 0 (va_A (zS_2 cB cC cI cJ a0 a1 a2 x0 x1 x2 x3 x4 x5) sz) :=
  zG_opens (o := 0) (o1 := 1) (fr := 0) (lc := 0)  (by decide) (by decide) (by decide)   l D cB cC cI cJ sz a0 a1 a2 x0 x1 x2 x3 x4 x5 h_x0 h_x1 h_x2 h_x3 h_x4 h_x5
theorem om_138 {a : Int} (h0 : (a ≤ 1)) : (¬ (a ≥ 6)) := by omega
theorem om_139 {a : Int} (h0 : (1 ≤ a)) : (-2147483648 ≤ a + 1) := by omega
theorem k_X4_opens_1 (l : Launch) (D : va_G) (cB cC cI cJ : ClassId) (sz : Nat) (a0 a1 a2 : Nat) (x0 x1 x2 x3 x4 x5 : Int32) (h_x0 : (0 ≤ x0.toInt ∧ x0.toInt ≤ 1600)) (h_x1 : ((-1) ≤ x1.toInt ∧ x1.toInt ≤ 255)) (h_x2 : (0 ≤ x2.toInt ∧ x2.toInt ≤ 1600)) (h_x3 : (1 ≤ x3.toInt ∧ x3.toInt ≤ 1)) (h_x4 : (0 ≤ x4.toInt ∧ x4.toInt ≤ 4)) (h_x5 : ((-1) ≤ x5.toInt ∧ x5.toInt ≤ 1600)) : Met l yX4_opens (.code yX4_opens cX4_opens 1 (some .boolean) :: lw_gd) ({ frames := 0, cells := 0, slots := 0, locals := 0 }) (gPre D [(cB, .byte), (cC, .char), (cI, .int), (cJ, .long)] [.ref a0] (zS_2 cB cC cI cJ a0 a1 a2 x0 x1 x2 x3 x4 x5) sz) (va_Qi (fun r u => ((r.toInt = 1 ∧ x3.toInt < 6 ∧ (u.2.2.2.1 0).toInt = (x3.toInt) + (1)))) (gB D (va_A (zS_2 cB cC cI cJ a0 a1 a2 x0 x1 x2 x3 x4 x5) sz) (fun u : gEx => (zS_2 cB cC cI cJ a0 a1 a2 x0 x1 x2 (u.2.2.2.1 0) x4 x5))) (va_A (zS_2 cB cC cI cJ a0 a1 a2 x0 x1 x2 x3 x4 x5) sz)) 0 0 (va_A (zS_2 cB cC cI cJ a0 a1 a2 x0 x1 x2 x3 x4 x5) sz) :=
  zG_opens (o := 1) (o1 := 2) (fr := 0) (lc := 0)  (by decide) (by decide) (by decide)   l D cB cC cI cJ sz a0 a1 a2 x0 x1 x2 x3 x4 x5 h_x0 h_x1 h_x2 h_x3 h_x4 h_x5
theorem om_140 {a : Int} (h0 : (a ≤ 2)) : (¬ (a ≥ 6)) := by omega
theorem om_141 {a : Int} (h0 : (2 ≤ a)) : (-2147483648 ≤ a + 1) := by omega
theorem k_X4_opens_2 (l : Launch) (D : va_G) (cB cC cI cJ : ClassId) (sz : Nat) (a0 a1 a2 : Nat) (x0 x1 x2 x3 x4 x5 : Int32) (h_x0 : (0 ≤ x0.toInt ∧ x0.toInt ≤ 1600)) (h_x1 : ((-1) ≤ x1.toInt ∧ x1.toInt ≤ 255)) (h_x2 : (0 ≤ x2.toInt ∧ x2.toInt ≤ 1600)) (h_x3 : (2 ≤ x3.toInt ∧ x3.toInt ≤ 2)) (h_x4 : (0 ≤ x4.toInt ∧ x4.toInt ≤ 4)) (h_x5 : ((-1) ≤ x5.toInt ∧ x5.toInt ≤ 1600)) : Met l yX4_opens (.code yX4_opens cX4_opens 1 (some .boolean) :: lw_gd) ({ frames := 0, cells := 0, slots := 0, locals := 0 }) (gPre D [(cB, .byte), (cC, .char), (cI, .int), (cJ, .long)] [.ref a0] (zS_2 cB cC cI cJ a0 a1 a2 x0 x1 x2 x3 x4 x5) sz) (va_Qi (fun r u => ((r.toInt = 1 ∧ x3.toInt < 6 ∧ (u.2.2.2.1 0).toInt = (x3.toInt) + (1)))) (gB D (va_A (zS_2 cB cC cI cJ a0 a1 a2 x0 x1 x2 x3 x4 x5) sz) (fun u : gEx => (zS_2 cB cC cI cJ a0 a1 a2 x0 x1 x2 (u.2.2.2.1 0) x4 x5))) (va_A (zS_2 cB cC cI cJ a0 a1 a2 x0 x1 x2 x3 x4 x5) sz)) 0 0 (va_A (zS_2 cB cC cI cJ a0 a1 a2 x0 x1 x2 x3 x4 x5) sz) :=
  zG_opens (o := 2) (o1 := 3) (fr := 0) (lc := 0)  (by decide) (by decide) (by decide)   l D cB cC cI cJ sz a0 a1 a2 x0 x1 x2 x3 x4 x5 h_x0 h_x1 h_x2 h_x3 h_x4 h_x5
theorem om_142 {a : Int} (h0 : (a ≤ 3)) : (¬ (a ≥ 6)) := by omega
theorem om_143 {a : Int} (h0 : (3 ≤ a)) : (-2147483648 ≤ a + 1) := by omega
theorem k_X4_opens_3 (l : Launch) (D : va_G) (cB cC cI cJ : ClassId) (sz : Nat) (a0 a1 a2 : Nat) (x0 x1 x2 x3 x4 x5 : Int32) (h_x0 : (0 ≤ x0.toInt ∧ x0.toInt ≤ 1600)) (h_x1 : ((-1) ≤ x1.toInt ∧ x1.toInt ≤ 255)) (h_x2 : (0 ≤ x2.toInt ∧ x2.toInt ≤ 1600)) (h_x3 : (3 ≤ x3.toInt ∧ x3.toInt ≤ 3)) (h_x4 : (0 ≤ x4.toInt ∧ x4.toInt ≤ 4)) (h_x5 : ((-1) ≤ x5.toInt ∧ x5.toInt ≤ 1600)) : Met l yX4_opens (.code yX4_opens cX4_opens 1 (some .boolean) :: lw_gd) ({ frames := 0, cells := 0, slots := 0, locals := 0 }) (gPre D [(cB, .byte), (cC, .char), (cI, .int), (cJ, .long)] [.ref a0] (zS_2 cB cC cI cJ a0 a1 a2 x0 x1 x2 x3 x4 x5) sz) (va_Qi (fun r u => ((r.toInt = 1 ∧ x3.toInt < 6 ∧ (u.2.2.2.1 0).toInt = (x3.toInt) + (1)))) (gB D (va_A (zS_2 cB cC cI cJ a0 a1 a2 x0 x1 x2 x3 x4 x5) sz) (fun u : gEx => (zS_2 cB cC cI cJ a0 a1 a2 x0 x1 x2 (u.2.2.2.1 0) x4 x5))) (va_A (zS_2 cB cC cI cJ a0 a1 a2 x0 x1 x2 x3 x4 x5) sz)) 0 0 (va_A (zS_2 cB cC cI cJ a0 a1 a2 x0 x1 x2 x3 x4 x5) sz) :=
  zG_opens (o := 3) (o1 := 4) (fr := 0) (lc := 0)  (by decide) (by decide) (by decide)   l D cB cC cI cJ sz a0 a1 a2 x0 x1 x2 x3 x4 x5 h_x0 h_x1 h_x2 h_x3 h_x4 h_x5
theorem om_144 {a : Int} (h0 : (a ≤ 4)) : (¬ (a ≥ 6)) := by omega
theorem om_145 {a : Int} (h0 : (4 ≤ a)) : (-2147483648 ≤ a + 1) := by omega
theorem k_X4_opens_4 (l : Launch) (D : va_G) (cB cC cI cJ : ClassId) (sz : Nat) (a0 a1 a2 : Nat) (x0 x1 x2 x3 x4 x5 : Int32) (h_x0 : (0 ≤ x0.toInt ∧ x0.toInt ≤ 1600)) (h_x1 : ((-1) ≤ x1.toInt ∧ x1.toInt ≤ 255)) (h_x2 : (0 ≤ x2.toInt ∧ x2.toInt ≤ 1600)) (h_x3 : (4 ≤ x3.toInt ∧ x3.toInt ≤ 4)) (h_x4 : (0 ≤ x4.toInt ∧ x4.toInt ≤ 4)) (h_x5 : ((-1) ≤ x5.toInt ∧ x5.toInt ≤ 1600)) : Met l yX4_opens (.code yX4_opens cX4_opens 1 (some .boolean) :: lw_gd) ({ frames := 0, cells := 0, slots := 0, locals := 0 }) (gPre D [(cB, .byte), (cC, .char), (cI, .int), (cJ, .long)] [.ref a0] (zS_2 cB cC cI cJ a0 a1 a2 x0 x1 x2 x3 x4 x5) sz) (va_Qi (fun r u => ((r.toInt = 1 ∧ x3.toInt < 6 ∧ (u.2.2.2.1 0).toInt = (x3.toInt) + (1)))) (gB D (va_A (zS_2 cB cC cI cJ a0 a1 a2 x0 x1 x2 x3 x4 x5) sz) (fun u : gEx => (zS_2 cB cC cI cJ a0 a1 a2 x0 x1 x2 (u.2.2.2.1 0) x4 x5))) (va_A (zS_2 cB cC cI cJ a0 a1 a2 x0 x1 x2 x3 x4 x5) sz)) 0 0 (va_A (zS_2 cB cC cI cJ a0 a1 a2 x0 x1 x2 x3 x4 x5) sz) :=
  zG_opens (o := 4) (o1 := 5) (fr := 0) (lc := 0)  (by decide) (by decide) (by decide)   l D cB cC cI cJ sz a0 a1 a2 x0 x1 x2 x3 x4 x5 h_x0 h_x1 h_x2 h_x3 h_x4 h_x5
theorem om_146 {a : Int} (h0 : (a ≤ 5)) : (¬ (a ≥ 6)) := by omega
theorem om_147 {a : Int} (h0 : (5 ≤ a)) : (-2147483648 ≤ a + 1) := by omega
theorem k_X4_opens_5 (l : Launch) (D : va_G) (cB cC cI cJ : ClassId) (sz : Nat) (a0 a1 a2 : Nat) (x0 x1 x2 x3 x4 x5 : Int32) (h_x0 : (0 ≤ x0.toInt ∧ x0.toInt ≤ 1600)) (h_x1 : ((-1) ≤ x1.toInt ∧ x1.toInt ≤ 255)) (h_x2 : (0 ≤ x2.toInt ∧ x2.toInt ≤ 1600)) (h_x3 : (5 ≤ x3.toInt ∧ x3.toInt ≤ 5)) (h_x4 : (0 ≤ x4.toInt ∧ x4.toInt ≤ 4)) (h_x5 : ((-1) ≤ x5.toInt ∧ x5.toInt ≤ 1600)) : Met l yX4_opens (.code yX4_opens cX4_opens 1 (some .boolean) :: lw_gd) ({ frames := 0, cells := 0, slots := 0, locals := 0 }) (gPre D [(cB, .byte), (cC, .char), (cI, .int), (cJ, .long)] [.ref a0] (zS_2 cB cC cI cJ a0 a1 a2 x0 x1 x2 x3 x4 x5) sz) (va_Qi (fun r u => ((r.toInt = 1 ∧ x3.toInt < 6 ∧ (u.2.2.2.1 0).toInt = (x3.toInt) + (1)))) (gB D (va_A (zS_2 cB cC cI cJ a0 a1 a2 x0 x1 x2 x3 x4 x5) sz) (fun u : gEx => (zS_2 cB cC cI cJ a0 a1 a2 x0 x1 x2 (u.2.2.2.1 0) x4 x5))) (va_A (zS_2 cB cC cI cJ a0 a1 a2 x0 x1 x2 x3 x4 x5) sz)) 0 0 (va_A (zS_2 cB cC cI cJ a0 a1 a2 x0 x1 x2 x3 x4 x5) sz) :=
  zG_opens (o := 5) (o1 := 6) (fr := 0) (lc := 0)  (by decide) (by decide) (by decide)   l D cB cC cI cJ sz a0 a1 a2 x0 x1 x2 x3 x4 x5 h_x0 h_x1 h_x2 h_x3 h_x4 h_x5
theorem g_ldcSw {p : Program} {l : Launch} {e : Env} {R : Room} {s : State} {m : MethodId} {args : Array Value} {below : List Frame} {meth : Method} {c : Code} {T : State} {locs : List Loc} {cells slots : Nat} (X : Stand p l e R s m args below meth c T locs cells slots) (hexec : p.tables.exec = Jvm.exec) {own text : String} {index : Nat} {a : Addr} (hown : s.vm.findClass own = some m.cls) (hconst : (Cond.stringRef own index text).before args s = true) (hev : (Term.string own index).eval args s none [] s = some (.ref a)) {g : JFrame} (hg : g.method = m) (hdg : decode c.code g.pc = .ok (.ldc_w index, 3)) : ∀ target, Steps p.tables e below (T.setTop { g with pc := g.pc + 3, stack := .ref a :: g.stack }) target → Steps p.tables e below (T.setTop g) target := by
  obtain ⟨k, cf, i, a', hk, hcf, hcp, -, hr, hev'⟩ := Cond.stringRef_spec hown hconst
  have ea := hev.symm.trans hev'
  cases ea
  obtain ⟨k', hk', he⟩ := X.warmed.alike.2.2 _ _ hk
  have hr' : k'.resolved[index]? = some (some (.string a)) := by
    rcases X.warmed.entry hk hk' index with h | ⟨h, -⟩
    · rw [h]; exact hr
    · rw [hr] at h; cases h
  intro target hrest
  subst hg
  jvm_step X.here [hexec, hdg, ldc_w.wp_string (e := e) (s := T) (f := g) X.here.top hk' (by rw [he]; exact hcf) hcp hr']
  exact hrest
theorem va_ldcSw {p : Program} {l : Launch} {e : Env} {R : Room} {s : State} {m : MethodId} {args : Array Value} {below : List Frame} {meth : Method} {c : Code} {H : Heap} {locs : List Loc} {cells slots : Nat} {Q : State → Prop} {cc : ByteArray} {pc : Nat} {ls : Array Slot} {rest : List Value} (hexec : p.tables.exec = Jvm.exec) (hb : c.code = cc) {own tx : String} {index q : Nat} (hown : s.vm.findClass own = some m.cls) (hZ : vk_R own index tx q s) (hdg : decode cc pc = .ok (.ldc_w index, 3)) (k : W p l e R s m args below meth c H locs cells slots Q (F0 m (pc + 3) ls (.ref q :: rest))) : W p l e R s m args below meth c H locs cells slots Q (F0 m pc ls rest) := by
  intro T hT X
  obtain ⟨t, a1, b1⟩ := k T hT X
  exact ⟨t, g_ldcSw X hexec hown (text := tx) (a := q) hZ.1 hZ.2 (g := F0 m pc ls rest) rfl (by rw [hb]; exact hdg) t a1, b1⟩
theorem om_148 {a : Int} (h0 : (6 ≤ a)) : (¬ (a < 6)) := by omega
theorem om_149 {a b : Int} (h0 : (a = 0)) (h1 : (b ≥ 6)) : ((((0 ≤ a ∧ a ≤ 0) ∧ b ≥ 6))) := by omega
set_option maxHeartbeats 4000000 in
set_option maxRecDepth 100000 in
theorem k_X4_opens_6 (l : Launch) (D : va_G) (cB cC cI cJ : ClassId) (sz : Nat) (a0 a1 a2 : Nat) (x0 x1 x2 x3 x4 x5 : Int32) (h_x0 : (0 ≤ x0.toInt ∧ x0.toInt ≤ 1600)) (h_x1 : ((-1) ≤ x1.toInt ∧ x1.toInt ≤ 255)) (h_x2 : (0 ≤ x2.toInt ∧ x2.toInt ≤ 1600)) (h_x3 : (6 ≤ x3.toInt ∧ x3.toInt ≤ 6)) (h_x4 : (0 ≤ x4.toInt ∧ x4.toInt ≤ 4)) (h_x5 : ((-1) ≤ x5.toInt ∧ x5.toInt ≤ 1600)) : Met l yX4_opens (.code yX4_opens cX4_opens 1 (some .boolean) :: lw_gd) ({ frames := 1, cells := 0, slots := 0, locals := 22 }) (gPre D [(cB, .byte), (cC, .char), (cI, .int), (cJ, .long)] [.ref a0] (zS_2 cB cC cI cJ a0 a1 a2 x0 x1 x2 x3 x4 x5) sz) (va_Qi (fun r u => (((0 ≤ r.toInt ∧ r.toInt ≤ 0) ∧ x3.toInt ≥ 6))) (gB D (va_A (zS_2 cB cC cI cJ a0 a1 a2 x0 x1 x2 x3 x4 x5) sz) (fun u : gEx => (zS_2 cB cC cI cJ a0 a1 a2 x0 x1 x2 x3 3 x0))) (va_A (zS_2 cB cC cI cJ a0 a1 a2 x0 x1 x2 x3 x4 x5) sz)) 0 0 (va_A (zS_2 cB cC cI cJ a0 a1 a2 x0 x1 x2 x3 x4 x5) sz) := by
  refine gOf_z (by decide +kernel) (Nat.le_of_ble_eq_true rfl) ?_
  intro p e s m args below meth c ls A Q hx hb hts hown hml hN hK hP hD hA hl hret
  replace hown : s.vm.findClass RX4 = some m.cls := hown
  have hS : va_S A s.heap s.heap [] := va_S.rf
  replace hP : va_P D gcl (zS_2 cB cC cI cJ a0 a1 a2 x0 x1 x2 x3 x4 x5) s.heap := hP
  replace hl : lv_has ls 1 [(0, .ref a0)] := hl
  refine lv_aload_n (pc := 0) hx hb dX4_opens_0 rfl (lv_at hl 0 rfl) ?_
  refine va_get (pc := 1) (ci := 4) (v := .int x3) (C := RX4) (T := TX4) (N := 8) hx hb hts iX4 hown hK hP 0 rfl rfl 5 (by decide) (hts _ tw_173) (fun _ h9 => h9) rfl dX4_opens_1 ?_
  refine lv_bipush (pc := 4) (v := 6) hx hb dX4_opens_4 (by decide) ?_
  refine b_icmp_lt (pc := 6) (tgt := 19) hx hb rfl tI_6  dX4_opens_6 (by decide) (fun c_1 => absurd c_1 (by first | exact (om_148 h_x3.1) | (omega))) (fun c_1 => ?_)
  refine lv_aload_n (pc := 9) hx hb dX4_opens_9 rfl (lv_at hl 0 rfl) ?_
  refine lv_iconst (pc := 10) (v := 3) hx hb dX4_opens_10 (by decide) ?_
  refine lv_aload_n (pc := 11) hx hb dX4_opens_11 rfl (lv_at hl 0 rfl) ?_
  refine va_get (pc := 12) (ci := 4) (v := .int x0) (C := RX4) (T := TX4) (N := 8) hx hb hts iX4 hown hK hP 0 rfl rfl 2 (by decide) (hts _ tw_170) (fun _ h9 => h9) rfl dX4_opens_12 ?_
  refine gd_i (pc := 15) (wc := (zS_2 cB cC cI cJ a0 a1 a2 x0 x1 x2 x3 x4 x5)) hP hD hS hA [0] rfl (by decide +kernel) (fun _ => by rfl) (fun hPc hDc => va_runV (As := [.int 3, .int x0]) (rest := []) ⟨hx, hb, hml, hown, hts⟩ (k_X4_fail l D cB cC cI cJ _ a0 a1 a2 3 x0 x0 x1 x2 x3 x4 x5 (n_c tI_3 (by decide)) h_x0 h_x0 h_x1 h_x2 h_x4 h_x5) ⟨gcwB hts tw_535 tw_2 tw_532 hd_yX4_fail ⟨Nat.le_of_ble_eq_true rfl, Nat.le_of_ble_eq_true rfl⟩, hts _ tw_534, hts _ tp_2⟩ ⟨gblind, va_recv hK hPc (ci := 4) (q0 := 0) rfl rfl, (gpreS hPc hK hDc hN).2⟩ rfl rfl hl.1 rfl (lv_room (Nat.le_of_ble_eq_true rfl)) dX4_opens_15 ⟨Nat.le_of_ble_eq_true rfl, Nat.le_of_ble_eq_true rfl⟩) (fun r_3 u_2 H locs hw_4 hP hD hS => ?_)
  replace hP : va_P D gcl (zS_2 cB cC cI cJ a0 a1 a2 x0 x1 x2 x3 3 x0) H := hP
  replace hD : va_D A (zS_2 cB cC cI cJ a0 a1 a2 x0 x1 x2 x3 3 x0) := hD
  have hw_5 : ((r_3.toInt = 0)) := hw_4
  have kk0_r_3 := tI_3
  have rr_3 := n_rng r_3
  exact hret r_3 ((fun _ => 0), (fun _ => (fun _ => 0)), (fun _ => (fun _ => 0)), (fun _ => 0), (fun _ => 0)) dX4_opens_18 ⟨(by first | exact (om_45 hw_5) | (omega)), (show (((0 ≤ r_3.toInt ∧ r_3.toInt ≤ 0) ∧ x3.toInt ≥ 6)) from (by first | exact (om_149 hw_5 c_1) | (omega)))⟩ (g_psub (wc := (zS_2 cB cC cI cJ a0 a1 a2 x0 x1 x2 x3 3 x0)) hP [0] rfl) (hD.sub (ws' := (zS_2 cB cC cI cJ a0 a1 a2 x0 x1 x2 x3 3 x0)) [0] (by decide) rfl) hS
theorem om_150 {a b : Int} (h0 : (a ≥ 6)) (h1 : (a ≤ 6)) (h2 : (b = 0)) : (0 ≤ a ∧ a ≤ 6 ∧ a ≤ a + 7 - 7 * b ∧ a ≤ a + 7 - 7 * b) := by omega
theorem om_151 {a : Int} (h0 : (a = 40)) : (a = 40) := by omega
theorem om_152 {a : Int} (h0 : (a ≥ 6)) (h1 : (a ≤ 6)) : (a = 6) := by omega
theorem om_153 {a : Int} (h0 : (a = 3)) : (a = 3) := by omega
theorem om_154 {a b : Int} (h0 : (b = 0)) : (a ≤ a + 1700 - 1700 * b) := by omega
theorem om_155 {a b c : Int} (h0 : (b = 0)) (h1 : (a = 3)) (h2 : (c ≤ 1600)) : (a ≤ 4 - 4 * b ∧ c ≤ 1600 - 1601 * b) := by omega
theorem om_156 {a b : Int} (h0 : (6 ≤ a)) (h1 : (a ≤ 6)) (h2 : (b ≤ 0)) : (0 ≤ a ∧ a ≤ 6 ∧ a ≤ a + 7 - 7 * b ∧ a ≤ a + 7 - 7 * b) := by omega
theorem om_157 {a : Int} (h0 : (¬ a = 40)) : (¬ a = 40) := by omega
theorem om_158 {a b : Int} (h0 : (b ≤ 0)) : (a ≤ a + 1700 - 1700 * b) := by omega
set_option maxHeartbeats 4000000 in
set_option maxRecDepth 100000 in
theorem k_X4_readPair_6 (l : Launch) (D : va_G) (cB cC cI cJ : ClassId) (sz : Nat) (adK adV : Nat → Nat) (a0 a1 a2 a3 : Nat) (x0 x1 x2 x3 x4 x5 x6 : Int32) (f0 : Nat → Int32) (h_x0 : (0 ≤ x0.toInt ∧ x0.toInt ≤ 1600)) (h_x1 : ((-1) ≤ x1.toInt ∧ x1.toInt ≤ 255)) (h_x2 : (0 ≤ x2.toInt ∧ x2.toInt ≤ 1600)) (h_x3 : (6 ≤ x3.toInt ∧ x3.toInt ≤ 6)) (h_x4 : (0 ≤ x4.toInt ∧ x4.toInt ≤ 4)) (h_x5 : ((-1) ≤ x5.toInt ∧ x5.toInt ≤ 1600)) (h_x6 : (0 ≤ x6.toInt ∧ x6.toInt ≤ 1600)) (hg_sv : svQ (taub f0 x6.toInt) x0.toInt x1.toInt) (hg__ff : x4.toInt = 0 ∧ x5.toInt = -1) : Met l yX4_readPair (.code yX4_readPair cX4_readPair 1 (some .boolean) :: lw_gd) ({ frames := 2, cells := 0, slots := 0, locals := 42 }) (gPreT D [(cB, .byte), (cC, .char), (cI, .int), (cJ, .long)] [.ref a0] (zS_1 cB cC cI cJ a0 a1 a2 x0 x1 x2 x3 x4 x5 a1 a3 x6 a3 f0) sz adK adV) (va_Qi (fun r u => (0 ≤ r.toInt ∧ r.toInt ≤ 0) ∧ (0 ≤ (u.2.2.2.1 0).toInt ∧ (u.2.2.2.1 0).toInt ≤ 4) ∧ (0 ≤ x3.toInt ∧ x3.toInt ≤ 6 ∧ x3.toInt ≤ x3.toInt + 7 - 7 * r.toInt ∧ x3.toInt ≤ x3.toInt + 7 - 7 * r.toInt) ∧ (paQ (taub f0 x6.toInt) x0.toInt x1.toInt x3.toInt x0.toInt x1.toInt r.toInt (u.2.2.2.1 0).toInt x0.toInt) ∧ (x0.toInt ≤ x0.toInt + 1700 - 1700 * r.toInt) ∧ ((u.2.2.2.1 0).toInt ≤ 4 - 4 * r.toInt ∧ x0.toInt ≤ 1600 - 1601 * r.toInt)) (gB D (va_A (zS_1 cB cC cI cJ a0 a1 a2 x0 x1 x2 x3 x4 x5 a1 a3 x6 a3 f0) sz) (fun u : gEx => (zS_1 cB cC cI cJ a0 a1 a2 x0 x1 x2 x3 (u.2.2.2.1 0) x0 a1 a3 x6 a3 f0))) (va_A (zS_1 cB cC cI cJ a0 a1 a2 x0 x1 x2 x3 x4 x5 a1 a3 x6 a3 f0) sz)) 0 0 (va_A (zS_1 cB cC cI cJ a0 a1 a2 x0 x1 x2 x3 x4 x5 a1 a3 x6 a3 f0) sz) := by
  refine gOfT_z (by decide +kernel) (Nat.le_of_ble_eq_true rfl) ?_
  intro p e s m args below meth c ls A Q hx hb hts hown hml hN hK hP hD hA hl hF hret
  replace hown : s.vm.findClass RX4 = some m.cls := hown
  have hS : va_S A s.heap s.heap [] := va_S.rf
  replace hP : va_P D gcl (zS_1 cB cC cI cJ a0 a1 a2 x0 x1 x2 x3 x4 x5 a1 a3 x6 a3 f0) s.heap := hP
  replace hl : lv_has ls 1 [(0, .ref a0)] := hl
  refine lv_aload_n (pc := 0) hx hb dX4_readPair_0 rfl (lv_at hl 0 rfl) ?_
  refine va_get (pc := 1) (ci := 4) (v := .int x1) (C := RX4) (T := TX4) (N := 8) hx hb hts iX4 hown hK hP 0 rfl rfl 3 (by decide) (hts _ tw_171) (fun _ h9 => h9) rfl dX4_readPair_1 ?_
  refine lv_bipush (pc := 4) (v := 40) hx hb dX4_readPair_4 (by decide) ?_
  refine b_icmp_eq (pc := 6) (tgt := 14) hx hb rfl tI_40  dX4_readPair_6 (by decide) (fun c_1 => ?_) (fun c_1 => ?_)
  ·
    refine lv_aload_n (pc := 14) hx hb dX4_readPair_14 rfl (lv_at hl 0 rfl) ?_
    refine gd_i (pc := 15) (wc := (zS_2 cB cC cI cJ a0 a1 a2 x0 x1 x2 x3 x4 x5)) hP hD hS hA [0] rfl (by decide +kernel) (fun _ => by rfl) (fun hPc hDc => va_runV (As := []) (rest := []) ⟨hx, hb, hml, hown, hts⟩ (k_X4_opens_6 l D cB cC cI cJ _ a0 a1 a2 x0 x1 x2 x3 x4 x5 h_x0 h_x1 h_x2 h_x3 h_x4 h_x5) ⟨gcwB hts tw_671 tw_2 tw_668 hd_yX4_opens ⟨Nat.le_of_ble_eq_true rfl, Nat.le_of_ble_eq_true rfl⟩, hts _ tw_670, hts _ tp_19⟩ ⟨gblind, va_recv hK hPc (ci := 4) (q0 := 0) rfl rfl, (gpreS hPc hK hDc hN).2⟩ rfl rfl hl.1 rfl (lv_room (Nat.le_of_ble_eq_true rfl)) dX4_readPair_15 ⟨Nat.le_of_ble_eq_true rfl, Nat.le_of_ble_eq_true rfl⟩) (fun r_3 u_2 H locs hw_4 hP hD hS => ?_)
    replace hP : va_P D gcl (zS_1 cB cC cI cJ a0 a1 a2 x0 x1 x2 x3 3 x0 a1 a3 x6 a3 f0) H := hP
    replace hD : va_D A (zS_1 cB cC cI cJ a0 a1 a2 x0 x1 x2 x3 3 x0 a1 a3 x6 a3 f0) := hD
    have hw_5 : (((0 ≤ r_3.toInt ∧ r_3.toInt ≤ 0) ∧ x3.toInt ≥ 6)) := hw_4
    have rr_3 := n_rng r_3
    refine b_if_eq (pc := 18) (tgt := 73) hx hb rfl  dX4_readPair_18 (by decide) (fun c_6 => ?_) (fun c_6 => absurd c_6 (by first | exact (om_51 hw_5.1.1 hw_5.1.2) | (omega)))
    refine lv_iconst (pc := 73) (v := 0) hx hb dX4_readPair_73 (by decide) ?_
    have k9 := tI_0
    have k8_0 := tI_3
    exact hret 0 ((fun _ => 0), (fun _ => (fun _ => 0)), (fun _ => (fun _ => 0)), (fun k => [3].getD k 0), (fun _ => 0)) dX4_readPair_74 ⟨(Or.inl tI_0), ⟨(show (0 ≤ (0 : Int32).toInt ∧ (0 : Int32).toInt ≤ 0) from (n_c tI_0 (by decide))), (show (0 ≤ (3 : Int32).toInt ∧ (3 : Int32).toInt ≤ 4) from (n_c tI_3 (by decide))), (show 0 ≤ x3.toInt ∧ x3.toInt ≤ 6 ∧ x3.toInt ≤ x3.toInt + 7 - 7 * (0 : Int32).toInt ∧ x3.toInt ≤ x3.toInt + 7 - 7 * (0 : Int32).toInt from (by first | exact (om_150 hw_5.2 h_x3.2 tI_0) | (have k9 := tI_0; have k8_0 := tI_3; omega))), (show paQ (taub f0 x6.toInt) x0.toInt x1.toInt x3.toInt x0.toInt x1.toInt (0 : Int32).toInt (3 : Int32).toInt x0.toInt from pa_F3 (by first | exact (om_151 c_1) | (omega)) (by first | exact (om_152 hw_5.2 h_x3.2) | (omega)) (by first | exact (om_31 tI_0) | (omega)) (by first | exact (om_153 tI_3) | (omega)) (by first | exact (om_53) | (omega))), (show x0.toInt ≤ x0.toInt + 1700 - 1700 * (0 : Int32).toInt from (by first | exact (om_154 tI_0) | (have k9 := tI_0; have k8_0 := tI_3; omega))), (show (3 : Int32).toInt ≤ 4 - 4 * (0 : Int32).toInt ∧ x0.toInt ≤ 1600 - 1601 * (0 : Int32).toInt from (by first | exact (om_155 tI_0 tI_3 h_x0.2) | (have k9 := tI_0; have k8_0 := tI_3; omega)))⟩⟩ (g_psub (wc := (zS_1 cB cC cI cJ a0 a1 a2 x0 x1 x2 x3 3 x0 a1 a3 x6 a3 f0)) hP [0, 1, 2] rfl) (hD.sub (ws' := (zS_1 cB cC cI cJ a0 a1 a2 x0 x1 x2 x3 3 x0 a1 a3 x6 a3 f0)) [0, 1, 2] (by decide) rfl) hS
  ·
    refine lv_aload_n (pc := 9) hx hb dX4_readPair_9 rfl (lv_at hl 0 rfl) ?_
    refine gd_i (pc := 10) (wc := (zS_2 cB cC cI cJ a0 a1 a2 x0 x1 x2 x3 x4 x5)) hP hD hS hA [0] rfl (by decide +kernel) (fun _ => by rfl) (fun hPc hDc => va_runV (As := []) (rest := []) ⟨hx, hb, hml, hown, hts⟩ (k_X4_failHere l D cB cC cI cJ _ a0 a1 a2 x0 x1 x2 x3 x4 x5 h_x0 h_x1 h_x2 h_x4 h_x5) ⟨gcwB hts tw_531 tw_2 tw_528 hd_yX4_failHere ⟨Nat.le_of_ble_eq_true rfl, Nat.le_of_ble_eq_true rfl⟩, hts _ tw_530, hts _ tp_1⟩ ⟨gblind, va_recv hK hPc (ci := 4) (q0 := 0) rfl rfl, (gpreS hPc hK hDc hN).2⟩ rfl rfl hl.1 rfl (lv_room (Nat.le_of_ble_eq_true rfl)) dX4_readPair_10 ⟨Nat.le_of_ble_eq_true rfl, Nat.le_of_ble_eq_true rfl⟩) (fun r_8 u_7 H locs hw_9 hP hD hS => ?_)
    replace hP : va_P D gcl (zS_1 cB cC cI cJ a0 a1 a2 x0 x1 x2 x3 1 x0 a1 a3 x6 a3 f0) H := hP
    replace hD : va_D A (zS_1 cB cC cI cJ a0 a1 a2 x0 x1 x2 x3 1 x0 a1 a3 x6 a3 f0) := hD
    have hw_10 : (0 ≤ r_8.toInt ∧ r_8.toInt ≤ 0) := hw_9
    have rr_8 := n_rng r_8
    have k8_0 := tI_1
    exact hret r_8 ((fun _ => 0), (fun _ => (fun _ => 0)), (fun _ => (fun _ => 0)), (fun k => [1].getD k 0), (fun _ => 0)) dX4_readPair_13 ⟨(by first | exact (om_116 hw_10.1 hw_10.2) | (have k8_0 := tI_1; omega)), ⟨(show (0 ≤ r_8.toInt ∧ r_8.toInt ≤ 0) from hw_10), (show (0 ≤ (1 : Int32).toInt ∧ (1 : Int32).toInt ≤ 4) from (n_c tI_1 (by decide))), (show 0 ≤ x3.toInt ∧ x3.toInt ≤ 6 ∧ x3.toInt ≤ x3.toInt + 7 - 7 * r_8.toInt ∧ x3.toInt ≤ x3.toInt + 7 - 7 * r_8.toInt from (by first | exact (om_156 h_x3.1 h_x3.2 hw_10.2) | (have k8_0 := tI_1; omega))), (show paQ (taub f0 x6.toInt) x0.toInt x1.toInt x3.toInt x0.toInt x1.toInt r_8.toInt (1 : Int32).toInt x0.toInt from pa_F1 (by first | exact (om_157 c_1) | (omega)) (by first | exact (om_113 hw_10.1 hw_10.2) | (omega)) (by first | exact (om_28 tI_1) | (omega)) (by first | exact (om_53) | (omega))), (show x0.toInt ≤ x0.toInt + 1700 - 1700 * r_8.toInt from (by first | exact (om_158 hw_10.2) | (have k8_0 := tI_1; omega))), (show (1 : Int32).toInt ≤ 4 - 4 * r_8.toInt ∧ x0.toInt ≤ 1600 - 1601 * r_8.toInt from (by first | exact (om_115 hw_10.2 tI_1 h_x0.2) | (have k8_0 := tI_1; omega)))⟩⟩ (g_psub (wc := (zS_1 cB cC cI cJ a0 a1 a2 x0 x1 x2 x3 1 x0 a1 a3 x6 a3 f0)) hP [0, 1, 2] rfl) (hD.sub (ws' := (zS_1 cB cC cI cJ a0 a1 a2 x0 x1 x2 x3 1 x0 a1 a3 x6 a3 f0)) [0, 1, 2] (by decide) rfl) hS
theorem om_159 {a b : Int} (h0 : (6 ≤ a)) (h1 : (a ≤ 6)) (h2 : (b = 0)) : (0 ≤ a ∧ a ≤ 6 ∧ a ≤ a + 7 - 7 * b ∧ a ≤ a + 7 - 7 * b) := by omega
theorem om_160 {a b c : Int} (h0 : (0 ≤ b)) (h1 : (a ≤ 1600)) (h2 : (c = 0)) : (a ≤ b + 1700 - 1700 * c) := by omega
theorem om_161 {a b : Int} (h0 : (6 ≤ a)) (h1 : (a ≤ 6)) (h2 : (b = 1)) : (0 ≤ a ∧ a ≤ 6 ∧ a ≤ a + 7 - 7 * b ∧ a ≤ a + 7 - 7 * b) := by omega
theorem om_162 {a b c d e f g h i j k m n : Int} (h0 : (d ≤ b)) (h1 : (a + e ≤ f)) (h2 : (c = 1)) (h3 : (g + h ≤ d)) (h4 : (f + i ≤ j)) (h5 : (e = 0)) (h6 : (h = 0)) (h7 : (k + m ≤ g)) (h8 : (j + n ≤ k)) (h9 : (i = 0)) (h10 : (m = 0)) (h11 : (n = 0)) : (a ≤ b + 1700 - 1700 * c) := by omega
theorem om_163 {a b : Int} (h0 : (0 ≤ a)) (h1 : (a ≤ 6)) (h2 : (b = 0)) : (0 ≤ a ∧ a ≤ 6 ∧ a ≤ a + 7 - 7 * b ∧ a ≤ a + 7 - 7 * b) := by omega
theorem om_164 {a : Int} (h0 : (a = 1)) : ((0 ≤ a ∧ a ≤ 1)) := by omega
theorem om_165 {a b c d e f g h : Int} (h0 : (c = 1)) (h1 : (d + e ≤ b)) (h2 : (a + f ≤ g)) (h3 : (0 ≤ e)) (h4 : (g + h ≤ d)) (h5 : (f = 0)) (h6 : (h = 0)) : (a ≤ b + 1700 - 1700 * c) := by omega
theorem om_166 {a b c : Int} (h0 : (b = 1)) (h1 : (a = 0)) (h2 : (c = -1)) : (a ≤ 4 - 4 * b ∧ c ≤ 1600 - 1601 * b) := by omega
theorem om_167 {a : Int} (h0 : (a = 1)) : ((a = 0 ∨ a = 1)) := by omega
theorem om_168 {a b c d e f : Int} (h0 : (c = 1)) (h1 : (d + e ≤ b)) (h2 : (a + f ≤ d)) (h3 : (0 ≤ e)) (h4 : (f = 0)) : (a ≤ b + 1700 - 1700 * c) := by omega
theorem om_169 {a b c d : Int} (h0 : (c = 1)) (h1 : (a + d ≤ b)) (h2 : (0 ≤ d)) : (a ≤ b + 1700 - 1700 * c) := by omega
set_option maxHeartbeats 4000000 in
set_option maxRecDepth 100000 in
theorem k_X4_readPart_6 (l : Launch) (D : va_G) (cB cC cI cJ : ClassId) (sz : Nat) (adK adV : Nat → Nat) (a0 a1 a2 a3 a4 a5 a6 a7 a8 a9 a10 a11 : Nat) (x0 x1 x2 x3 x4 x5 x6 x7 x8 x9 x10 x11 x12 x13 x14 x15 : Int32) (f0 f1 : Nat → Int32) (h_x0 : (0 ≤ x0.toInt ∧ x0.toInt ≤ 1600)) (h_x1 : ((-1) ≤ x1.toInt ∧ x1.toInt ≤ 255)) (h_x2 : (0 ≤ x2.toInt ∧ x2.toInt ≤ 1600)) (h_x3 : (6 ≤ x3.toInt ∧ x3.toInt ≤ 6)) (h_x4 : (0 ≤ x4.toInt ∧ x4.toInt ≤ 4)) (h_x5 : ((-1) ≤ x5.toInt ∧ x5.toInt ≤ 1600)) (h_x6 : (0 ≤ x6.toInt ∧ x6.toInt ≤ 1600)) (hg_sv : svQ (taub f0 x6.toInt) x0.toInt x1.toInt) (hg__ff : x4.toInt = 0 ∧ x5.toInt = -1) (h_x7 : ((-1) ≤ x7.toInt ∧ x7.toInt ≤ 8)) (h_x8 : ((-1) ≤ x8.toInt ∧ x8.toInt ≤ 5)) (h_x9 : ((-1) ≤ x9.toInt ∧ x9.toInt ≤ 6)) (h_x10 : (0 ≤ x10.toInt ∧ x10.toInt ≤ 6)) (h_x11 : (0 ≤ x11.toInt ∧ x11.toInt ≤ 16)) (h_x14 : (0 ≤ x14.toInt ∧ x14.toInt ≤ 1600)) (h_x15 : (0 ≤ x15.toInt ∧ x15.toInt ≤ 8)) : Met l yX4_readPart (.code yX4_readPart cX4_readPart 2 (some .boolean) :: lw_gd) ({ frames := 6, cells := 0, slots := 0, locals := 130 }) (gPreT D [(cB, .byte), (cC, .char), (cI, .int), (cJ, .long)] [.ref a0] (zS_0 cB cC cI cJ a0 a1 a2 x0 x1 x2 x3 x4 x5 a1 a3 x6 a3 f0 a2 a4 a5 a6 x7 x8 x9 x10 x11 x12 x13 a5 a7 a8 a9 a10 a11 x14 x15 a7 f1) sz adK adV) (va_Qi (fun r u => (0 ≤ r.toInt ∧ r.toInt ≤ 1) ∧ (0 ≤ (u.2.2.2.1 0).toInt ∧ (u.2.2.2.1 0).toInt ≤ 1600) ∧ ((-1) ≤ (u.2.2.2.1 1).toInt ∧ (u.2.2.2.1 1).toInt ≤ 255) ∧ (0 ≤ (u.2.2.2.1 2).toInt ∧ (u.2.2.2.1 2).toInt ≤ 1600) ∧ (0 ≤ (u.2.2.2.1 3).toInt ∧ (u.2.2.2.1 3).toInt ≤ 4) ∧ ((-1) ≤ (u.2.2.2.1 4).toInt ∧ (u.2.2.2.1 4).toInt ≤ 1600) ∧ (0 ≤ (u.2.2.2.1 5).toInt ∧ (u.2.2.2.1 5).toInt ≤ 1600) ∧ (0 ≤ x3.toInt ∧ x3.toInt ≤ 6 ∧ x3.toInt ≤ x3.toInt + 7 - 7 * r.toInt ∧ x3.toInt ≤ x3.toInt + 7 - 7 * r.toInt) ∧ (prQ (taub f0 x6.toInt) 1 2 x0.toInt x1.toInt x3.toInt (u.2.2.2.1 0).toInt (u.2.2.2.1 1).toInt r.toInt (u.2.2.2.1 3).toInt (u.2.2.2.1 4).toInt) ∧ (x0.toInt ≤ (u.2.2.2.1 0).toInt + 1700 - 1700 * r.toInt) ∧ ((u.2.2.2.1 3).toInt ≤ 4 - 4 * r.toInt ∧ (u.2.2.2.1 4).toInt ≤ 1600 - 1601 * r.toInt)) (gB D (va_A (zS_0 cB cC cI cJ a0 a1 a2 x0 x1 x2 x3 x4 x5 a1 a3 x6 a3 f0 a2 a4 a5 a6 x7 x8 x9 x10 x11 x12 x13 a5 a7 a8 a9 a10 a11 x14 x15 a7 f1) sz) (fun u : gEx => (zS_0 cB cC cI cJ a0 a1 a2 (u.2.2.2.1 0) (u.2.2.2.1 1) (u.2.2.2.1 2) x3 (u.2.2.2.1 3) (u.2.2.2.1 4) a1 a3 x6 a3 f0 a2 a4 a5 a6 x7 x8 x9 x10 x11 x12 x13 a5 a7 a8 a9 a10 a11 (u.2.2.2.1 5) x15 a7 (u.2.1 0)))) (va_A (zS_0 cB cC cI cJ a0 a1 a2 x0 x1 x2 x3 x4 x5 a1 a3 x6 a3 f0 a2 a4 a5 a6 x7 x8 x9 x10 x11 x12 x13 a5 a7 a8 a9 a10 a11 x14 x15 a7 f1) sz)) 0 0 (va_A (zS_0 cB cC cI cJ a0 a1 a2 x0 x1 x2 x3 x4 x5 a1 a3 x6 a3 f0 a2 a4 a5 a6 x7 x8 x9 x10 x11 x12 x13 a5 a7 a8 a9 a10 a11 x14 x15 a7 f1) sz) := by
  refine gOfT_z (by decide +kernel) (Nat.le_of_ble_eq_true rfl) ?_
  intro p e s m args below meth c ls A Q hx hb hts hown hml hN hK hP hD hA hl hF hret
  replace hown : s.vm.findClass RX4 = some m.cls := hown
  have hS : va_S A s.heap s.heap [] := va_S.rf
  replace hP : va_P D gcl (zS_0 cB cC cI cJ a0 a1 a2 x0 x1 x2 x3 x4 x5 a1 a3 x6 a3 f0 a2 a4 a5 a6 x7 x8 x9 x10 x11 x12 x13 a5 a7 a8 a9 a10 a11 x14 x15 a7 f1) s.heap := hP
  replace hl : lv_has ls 2 [(0, .ref a0)] := hl
  have rx12 := n_rng x12
  have rx13 := n_rng x13
  refine lv_aload_n (pc := 0) hx hb dX4_readPart_0 rfl (lv_at hl 0 rfl) ?_
  refine va_get (pc := 1) (ci := 4) (v := .int x1) (C := RX4) (T := TX4) (N := 8) hx hb hts iX4 hown hK hP 0 rfl rfl 3 (by decide) (hts _ tw_171) (fun _ h9 => h9) rfl dX4_readPart_1 ?_
  refine lv_bipush (pc := 4) (v := 40) hx hb dX4_readPart_4 (by decide) ?_
  refine b_icmp_ne (pc := 6) (tgt := 54) hx hb rfl tI_40  dX4_readPart_6 (by decide) (fun c_1 => ?_) (fun c_1 => ?_)
  ·
    refine lv_aload_n (pc := 54) hx hb dX4_readPart_54 rfl (lv_at hl 0 rfl) ?_
    refine va_ldcS (pc := 55) hx hb hown (hF.2.1 4 (by decide)) dX4_readPart_55 ?_
    refine gd_i (pc := 57) (wc := (zS_1 cB cC cI cJ a0 a1 a2 x0 x1 x2 x3 x4 x5 a1 a3 x6 a3 f0)) hP hD hS hA [0, 1, 2] rfl (by decide +kernel) (fun _ => by rfl) (fun hPc hDc => va_runV (As := [.ref (adK 4)]) (rest := []) ⟨hx, hb, hml, hown, hts⟩ (k_X4_takesWord l D cB cC cI cJ _ adK adV 4 (by decide) a0 a1 a2 a3 x0 x1 x2 x3 x4 x5 x6 f0 h_x0 h_x1 h_x2 h_x4 h_x5 h_x6 (hg_sv)) ⟨gcwB hts tw_548 tw_2 tw_545 hd_yX4_takesWord ⟨Nat.le_of_ble_eq_true rfl, Nat.le_of_ble_eq_true rfl⟩, hts _ tw_547, hts _ tp_5⟩ ⟨gblindT, va_recv hK hPc (ci := 4) (q0 := 0) rfl rfl, (gpreT hPc hK hDc hN hF hS (va_free (wc := (zS_1 cB cC cI cJ a0 a1 a2 x0 x1 x2 x3 x4 x5 a1 a3 x6 a3 f0)) hD hS hA [0, 1, 2] rfl)).2⟩ rfl rfl hl.1 rfl (lv_room (Nat.le_of_ble_eq_true rfl)) dX4_readPart_57 ⟨Nat.le_of_ble_eq_true rfl, Nat.le_of_ble_eq_true rfl⟩) (fun r_3 u_2 H locs hw_4 hP hD hS => ?_)
    replace hP : va_P D gcl (zS_0 cB cC cI cJ a0 a1 a2 (u_2.2.2.2.1 0) (u_2.2.2.2.1 1) x2 x3 x4 x5 a1 a3 x6 a3 f0 a2 a4 a5 a6 x7 x8 x9 x10 x11 x12 x13 a5 a7 a8 a9 a10 a11 x14 x15 a7 f1) H := hP
    replace hD : va_D A (zS_0 cB cC cI cJ a0 a1 a2 (u_2.2.2.2.1 0) (u_2.2.2.2.1 1) x2 x3 x4 x5 a1 a3 x6 a3 f0 a2 a4 a5 a6 x7 x8 x9 x10 x11 x12 x13 a5 a7 a8 a9 a10 a11 x14 x15 a7 f1) := hD
    obtain ⟨hw_5, hw_6, hw_7, hw_8, hw_9, hw_10⟩ := hw_4
    replace hw_5 : (0 ≤ r_3.toInt ∧ r_3.toInt ≤ 1) := hw_5
    replace hw_6 : (0 ≤ (u_2.2.2.2.1 0).toInt ∧ (u_2.2.2.2.1 0).toInt ≤ 1600) := hw_6
    replace hw_7 : ((-1) ≤ (u_2.2.2.2.1 1).toInt ∧ (u_2.2.2.2.1 1).toInt ≤ 255) := hw_7
    replace hw_8 : (twQ (taub f0 x6.toInt) x0.toInt x1.toInt (wL.getD 4 []) (u_2.2.2.2.1 0).toInt (u_2.2.2.2.1 1).toInt r_3.toInt) := hw_8
    replace hw_9 : (svQ (taub f0 x6.toInt) (u_2.2.2.2.1 0).toInt (u_2.2.2.2.1 1).toInt) := hw_9
    replace hw_10 : (x0.toInt + r_3.toInt ≤ (u_2.2.2.2.1 0).toInt) := hw_10
    have rr_3 := n_rng r_3
    refine b_if_eq (pc := 60) (tgt := 69) hx hb rfl  dX4_readPart_60 (by decide) (fun c_11 => ?_) (fun c_11 => ?_)
    ·
      have hh_12 := hw_8.2 (by omega)
      refine lv_aload_n (pc := 69) hx hb dX4_readPart_69 rfl (lv_at hl 0 rfl) ?_
      refine va_ldcS (pc := 70) hx hb hown (hF.2.1 5 (by decide)) dX4_readPart_70 ?_
      refine gd_i (pc := 72) (wc := (zS_1 cB cC cI cJ a0 a1 a2 (u_2.2.2.2.1 0) (u_2.2.2.2.1 1) x2 x3 x4 x5 a1 a3 x6 a3 f0)) hP hD hS hA [0, 1, 2] rfl (by decide +kernel) (fun _ => by rfl) (fun hPc hDc => va_runV (As := [.ref (adK 5)]) (rest := []) ⟨hx, hb, hml, hown, hts⟩ (k_X4_takesWord l D cB cC cI cJ _ adK adV 5 (by decide) a0 a1 a2 a3 (u_2.2.2.2.1 0) (u_2.2.2.2.1 1) x2 x3 x4 x5 x6 f0 hw_6 hw_7 h_x2 h_x4 h_x5 h_x6 (hw_9)) ⟨gcwB hts tw_548 tw_2 tw_545 hd_yX4_takesWord ⟨Nat.le_of_ble_eq_true rfl, Nat.le_of_ble_eq_true rfl⟩, hts _ tw_547, hts _ tp_5⟩ ⟨gblindT, va_recv hK hPc (ci := 4) (q0 := 0) rfl rfl, (gpreT hPc hK hDc hN hF hS (va_free (wc := (zS_1 cB cC cI cJ a0 a1 a2 (u_2.2.2.2.1 0) (u_2.2.2.2.1 1) x2 x3 x4 x5 a1 a3 x6 a3 f0)) hD hS hA [0, 1, 2] rfl)).2⟩ rfl rfl hl.1 rfl (lv_room (Nat.le_of_ble_eq_true rfl)) dX4_readPart_72 ⟨Nat.le_of_ble_eq_true rfl, Nat.le_of_ble_eq_true rfl⟩) (fun r_14 u_13 H locs hw_15 hP hD hS => ?_)
      replace hP : va_P D gcl (zS_0 cB cC cI cJ a0 a1 a2 (u_13.2.2.2.1 0) (u_13.2.2.2.1 1) x2 x3 x4 x5 a1 a3 x6 a3 f0 a2 a4 a5 a6 x7 x8 x9 x10 x11 x12 x13 a5 a7 a8 a9 a10 a11 x14 x15 a7 f1) H := hP
      replace hD : va_D A (zS_0 cB cC cI cJ a0 a1 a2 (u_13.2.2.2.1 0) (u_13.2.2.2.1 1) x2 x3 x4 x5 a1 a3 x6 a3 f0 a2 a4 a5 a6 x7 x8 x9 x10 x11 x12 x13 a5 a7 a8 a9 a10 a11 x14 x15 a7 f1) := hD
      obtain ⟨hw_16, hw_17, hw_18, hw_19, hw_20, hw_21⟩ := hw_15
      replace hw_16 : (0 ≤ r_14.toInt ∧ r_14.toInt ≤ 1) := hw_16
      replace hw_17 : (0 ≤ (u_13.2.2.2.1 0).toInt ∧ (u_13.2.2.2.1 0).toInt ≤ 1600) := hw_17
      replace hw_18 : ((-1) ≤ (u_13.2.2.2.1 1).toInt ∧ (u_13.2.2.2.1 1).toInt ≤ 255) := hw_18
      replace hw_19 : (twQ (taub f0 x6.toInt) (u_2.2.2.2.1 0).toInt (u_2.2.2.2.1 1).toInt (wL.getD 5 []) (u_13.2.2.2.1 0).toInt (u_13.2.2.2.1 1).toInt r_14.toInt) := hw_19
      replace hw_20 : (svQ (taub f0 x6.toInt) (u_13.2.2.2.1 0).toInt (u_13.2.2.2.1 1).toInt) := hw_20
      replace hw_21 : ((u_2.2.2.2.1 0).toInt + r_14.toInt ≤ (u_13.2.2.2.1 0).toInt) := hw_21
      have rr_14 := n_rng r_14
      refine b_if_eq (pc := 75) (tgt := 85) hx hb rfl  dX4_readPart_75 (by decide) (fun c_22 => ?_) (fun c_22 => ?_)
      ·
        have hh_23 := hw_19.2 (by omega)
        refine lv_aload_n (pc := 85) hx hb dX4_readPart_85 rfl (lv_at hl 0 rfl) ?_
        refine va_ldcS (pc := 86) hx hb hown (hF.2.1 6 (by decide)) dX4_readPart_86 ?_
        refine gd_i (pc := 88) (wc := (zS_1 cB cC cI cJ a0 a1 a2 (u_13.2.2.2.1 0) (u_13.2.2.2.1 1) x2 x3 x4 x5 a1 a3 x6 a3 f0)) hP hD hS hA [0, 1, 2] rfl (by decide +kernel) (fun _ => by rfl) (fun hPc hDc => va_runV (As := [.ref (adK 6)]) (rest := []) ⟨hx, hb, hml, hown, hts⟩ (k_X4_takesWord l D cB cC cI cJ _ adK adV 6 (by decide) a0 a1 a2 a3 (u_13.2.2.2.1 0) (u_13.2.2.2.1 1) x2 x3 x4 x5 x6 f0 hw_17 hw_18 h_x2 h_x4 h_x5 h_x6 (hw_20)) ⟨gcwB hts tw_548 tw_2 tw_545 hd_yX4_takesWord ⟨Nat.le_of_ble_eq_true rfl, Nat.le_of_ble_eq_true rfl⟩, hts _ tw_547, hts _ tp_5⟩ ⟨gblindT, va_recv hK hPc (ci := 4) (q0 := 0) rfl rfl, (gpreT hPc hK hDc hN hF hS (va_free (wc := (zS_1 cB cC cI cJ a0 a1 a2 (u_13.2.2.2.1 0) (u_13.2.2.2.1 1) x2 x3 x4 x5 a1 a3 x6 a3 f0)) hD hS hA [0, 1, 2] rfl)).2⟩ rfl rfl hl.1 rfl (lv_room (Nat.le_of_ble_eq_true rfl)) dX4_readPart_88 ⟨Nat.le_of_ble_eq_true rfl, Nat.le_of_ble_eq_true rfl⟩) (fun r_25 u_24 H locs hw_26 hP hD hS => ?_)
        replace hP : va_P D gcl (zS_0 cB cC cI cJ a0 a1 a2 (u_24.2.2.2.1 0) (u_24.2.2.2.1 1) x2 x3 x4 x5 a1 a3 x6 a3 f0 a2 a4 a5 a6 x7 x8 x9 x10 x11 x12 x13 a5 a7 a8 a9 a10 a11 x14 x15 a7 f1) H := hP
        replace hD : va_D A (zS_0 cB cC cI cJ a0 a1 a2 (u_24.2.2.2.1 0) (u_24.2.2.2.1 1) x2 x3 x4 x5 a1 a3 x6 a3 f0 a2 a4 a5 a6 x7 x8 x9 x10 x11 x12 x13 a5 a7 a8 a9 a10 a11 x14 x15 a7 f1) := hD
        obtain ⟨hw_27, hw_28, hw_29, hw_30, hw_31, hw_32⟩ := hw_26
        replace hw_27 : (0 ≤ r_25.toInt ∧ r_25.toInt ≤ 1) := hw_27
        replace hw_28 : (0 ≤ (u_24.2.2.2.1 0).toInt ∧ (u_24.2.2.2.1 0).toInt ≤ 1600) := hw_28
        replace hw_29 : ((-1) ≤ (u_24.2.2.2.1 1).toInt ∧ (u_24.2.2.2.1 1).toInt ≤ 255) := hw_29
        replace hw_30 : (twQ (taub f0 x6.toInt) (u_13.2.2.2.1 0).toInt (u_13.2.2.2.1 1).toInt (wL.getD 6 []) (u_24.2.2.2.1 0).toInt (u_24.2.2.2.1 1).toInt r_25.toInt) := hw_30
        replace hw_31 : (svQ (taub f0 x6.toInt) (u_24.2.2.2.1 0).toInt (u_24.2.2.2.1 1).toInt) := hw_31
        replace hw_32 : ((u_13.2.2.2.1 0).toInt + r_25.toInt ≤ (u_24.2.2.2.1 0).toInt) := hw_32
        have rr_25 := n_rng r_25
        refine b_if_eq (pc := 91) (tgt := 101) hx hb rfl  dX4_readPart_91 (by decide) (fun c_33 => ?_) (fun c_33 => ?_)
        ·
          have hh_34 := hw_30.2 (by omega)
          refine lv_aload_n (pc := 101) hx hb dX4_readPart_101 rfl (lv_at hl 0 rfl) ?_
          refine va_ldcS (pc := 102) hx hb hown (hF.2.1 7 (by decide)) dX4_readPart_102 ?_
          refine gd_i (pc := 104) (wc := (zS_1 cB cC cI cJ a0 a1 a2 (u_24.2.2.2.1 0) (u_24.2.2.2.1 1) x2 x3 x4 x5 a1 a3 x6 a3 f0)) hP hD hS hA [0, 1, 2] rfl (by decide +kernel) (fun _ => by rfl) (fun hPc hDc => va_runV (As := [.ref (adK 7)]) (rest := []) ⟨hx, hb, hml, hown, hts⟩ (k_X4_takesWord l D cB cC cI cJ _ adK adV 7 (by decide) a0 a1 a2 a3 (u_24.2.2.2.1 0) (u_24.2.2.2.1 1) x2 x3 x4 x5 x6 f0 hw_28 hw_29 h_x2 h_x4 h_x5 h_x6 (hw_31)) ⟨gcwB hts tw_548 tw_2 tw_545 hd_yX4_takesWord ⟨Nat.le_of_ble_eq_true rfl, Nat.le_of_ble_eq_true rfl⟩, hts _ tw_547, hts _ tp_5⟩ ⟨gblindT, va_recv hK hPc (ci := 4) (q0 := 0) rfl rfl, (gpreT hPc hK hDc hN hF hS (va_free (wc := (zS_1 cB cC cI cJ a0 a1 a2 (u_24.2.2.2.1 0) (u_24.2.2.2.1 1) x2 x3 x4 x5 a1 a3 x6 a3 f0)) hD hS hA [0, 1, 2] rfl)).2⟩ rfl rfl hl.1 rfl (lv_room (Nat.le_of_ble_eq_true rfl)) dX4_readPart_104 ⟨Nat.le_of_ble_eq_true rfl, Nat.le_of_ble_eq_true rfl⟩) (fun r_36 u_35 H locs hw_37 hP hD hS => ?_)
          replace hP : va_P D gcl (zS_0 cB cC cI cJ a0 a1 a2 (u_35.2.2.2.1 0) (u_35.2.2.2.1 1) x2 x3 x4 x5 a1 a3 x6 a3 f0 a2 a4 a5 a6 x7 x8 x9 x10 x11 x12 x13 a5 a7 a8 a9 a10 a11 x14 x15 a7 f1) H := hP
          replace hD : va_D A (zS_0 cB cC cI cJ a0 a1 a2 (u_35.2.2.2.1 0) (u_35.2.2.2.1 1) x2 x3 x4 x5 a1 a3 x6 a3 f0 a2 a4 a5 a6 x7 x8 x9 x10 x11 x12 x13 a5 a7 a8 a9 a10 a11 x14 x15 a7 f1) := hD
          obtain ⟨hw_38, hw_39, hw_40, hw_41, hw_42, hw_43⟩ := hw_37
          replace hw_38 : (0 ≤ r_36.toInt ∧ r_36.toInt ≤ 1) := hw_38
          replace hw_39 : (0 ≤ (u_35.2.2.2.1 0).toInt ∧ (u_35.2.2.2.1 0).toInt ≤ 1600) := hw_39
          replace hw_40 : ((-1) ≤ (u_35.2.2.2.1 1).toInt ∧ (u_35.2.2.2.1 1).toInt ≤ 255) := hw_40
          replace hw_41 : (twQ (taub f0 x6.toInt) (u_24.2.2.2.1 0).toInt (u_24.2.2.2.1 1).toInt (wL.getD 7 []) (u_35.2.2.2.1 0).toInt (u_35.2.2.2.1 1).toInt r_36.toInt) := hw_41
          replace hw_42 : (svQ (taub f0 x6.toInt) (u_35.2.2.2.1 0).toInt (u_35.2.2.2.1 1).toInt) := hw_42
          replace hw_43 : ((u_24.2.2.2.1 0).toInt + r_36.toInt ≤ (u_35.2.2.2.1 0).toInt) := hw_43
          have rr_36 := n_rng r_36
          refine b_if_eq (pc := 107) (tgt := 132) hx hb rfl  dX4_readPart_107 (by decide) (fun c_44 => ?_) (fun c_44 => ?_)
          ·
            have hh_45 := hw_41.2 (by omega)
            refine lv_aload_n (pc := 132) hx hb dX4_readPart_132 rfl (lv_at hl 0 rfl) ?_
            refine va_ldcSw (pc := 133) hx hb hown (hF.2.1 8 (by decide)) dX4_readPart_133 ?_
            refine gd_i (pc := 136) (wc := (zS_1 cB cC cI cJ a0 a1 a2 (u_35.2.2.2.1 0) (u_35.2.2.2.1 1) x2 x3 x4 x5 a1 a3 x6 a3 f0)) hP hD hS hA [0, 1, 2] rfl (by decide +kernel) (fun _ => by rfl) (fun hPc hDc => va_runV (As := [.ref (adK 8)]) (rest := []) ⟨hx, hb, hml, hown, hts⟩ (k_X4_takesWord l D cB cC cI cJ _ adK adV 8 (by decide) a0 a1 a2 a3 (u_35.2.2.2.1 0) (u_35.2.2.2.1 1) x2 x3 x4 x5 x6 f0 hw_39 hw_40 h_x2 h_x4 h_x5 h_x6 (hw_42)) ⟨gcwB hts tw_548 tw_2 tw_545 hd_yX4_takesWord ⟨Nat.le_of_ble_eq_true rfl, Nat.le_of_ble_eq_true rfl⟩, hts _ tw_547, hts _ tp_5⟩ ⟨gblindT, va_recv hK hPc (ci := 4) (q0 := 0) rfl rfl, (gpreT hPc hK hDc hN hF hS (va_free (wc := (zS_1 cB cC cI cJ a0 a1 a2 (u_35.2.2.2.1 0) (u_35.2.2.2.1 1) x2 x3 x4 x5 a1 a3 x6 a3 f0)) hD hS hA [0, 1, 2] rfl)).2⟩ rfl rfl hl.1 rfl (lv_room (Nat.le_of_ble_eq_true rfl)) dX4_readPart_136 ⟨Nat.le_of_ble_eq_true rfl, Nat.le_of_ble_eq_true rfl⟩) (fun r_47 u_46 H locs hw_48 hP hD hS => ?_)
            replace hP : va_P D gcl (zS_0 cB cC cI cJ a0 a1 a2 (u_46.2.2.2.1 0) (u_46.2.2.2.1 1) x2 x3 x4 x5 a1 a3 x6 a3 f0 a2 a4 a5 a6 x7 x8 x9 x10 x11 x12 x13 a5 a7 a8 a9 a10 a11 x14 x15 a7 f1) H := hP
            replace hD : va_D A (zS_0 cB cC cI cJ a0 a1 a2 (u_46.2.2.2.1 0) (u_46.2.2.2.1 1) x2 x3 x4 x5 a1 a3 x6 a3 f0 a2 a4 a5 a6 x7 x8 x9 x10 x11 x12 x13 a5 a7 a8 a9 a10 a11 x14 x15 a7 f1) := hD
            obtain ⟨hw_49, hw_50, hw_51, hw_52, hw_53, hw_54⟩ := hw_48
            replace hw_49 : (0 ≤ r_47.toInt ∧ r_47.toInt ≤ 1) := hw_49
            replace hw_50 : (0 ≤ (u_46.2.2.2.1 0).toInt ∧ (u_46.2.2.2.1 0).toInt ≤ 1600) := hw_50
            replace hw_51 : ((-1) ≤ (u_46.2.2.2.1 1).toInt ∧ (u_46.2.2.2.1 1).toInt ≤ 255) := hw_51
            replace hw_52 : (twQ (taub f0 x6.toInt) (u_35.2.2.2.1 0).toInt (u_35.2.2.2.1 1).toInt (wL.getD 8 []) (u_46.2.2.2.1 0).toInt (u_46.2.2.2.1 1).toInt r_47.toInt) := hw_52
            replace hw_53 : (svQ (taub f0 x6.toInt) (u_46.2.2.2.1 0).toInt (u_46.2.2.2.1 1).toInt) := hw_53
            replace hw_54 : ((u_35.2.2.2.1 0).toInt + r_47.toInt ≤ (u_46.2.2.2.1 0).toInt) := hw_54
            have rr_47 := n_rng r_47
            refine b_if_eq (pc := 139) (tgt := 164) hx hb rfl  dX4_readPart_139 (by decide) (fun c_55 => ?_) (fun c_55 => ?_)
            ·
              have hh_56 := hw_52.2 (by omega)
              refine lv_aload_n (pc := 164) hx hb dX4_readPart_164 rfl (lv_at hl 0 rfl) ?_
              refine gd_i (pc := 165) (wc := (zS_1 cB cC cI cJ a0 a1 a2 (u_46.2.2.2.1 0) (u_46.2.2.2.1 1) x2 x3 x4 x5 a1 a3 x6 a3 f0)) hP hD hS hA [0, 1, 2] rfl (by decide +kernel) (fun _ => by rfl) (fun hPc hDc => va_runV (As := []) (rest := []) ⟨hx, hb, hml, hown, hts⟩ (k_X4_readNumber l D cB cC cI cJ _ a0 a1 a2 a3 (u_46.2.2.2.1 0) (u_46.2.2.2.1 1) x2 x3 x4 x5 x6 f0 hw_50 hw_51 h_x2 h_x4 h_x5 h_x6 (hw_53) hg__ff) ⟨gcwB hts tw_612 tw_2 tw_609 hd_yX4_readNumber ⟨Nat.le_of_ble_eq_true rfl, Nat.le_of_ble_eq_true rfl⟩, hts _ tw_611, hts _ tp_9⟩ ⟨gblind, va_recv hK hPc (ci := 4) (q0 := 0) rfl rfl, (gpreS hPc hK hDc hN).2⟩ rfl rfl hl.1 rfl (lv_room (Nat.le_of_ble_eq_true rfl)) dX4_readPart_165 ⟨Nat.le_of_ble_eq_true rfl, Nat.le_of_ble_eq_true rfl⟩) (fun r_58 u_57 H locs hw_59 hP hD hS => ?_)
              replace hP : va_P D gcl (zS_0 cB cC cI cJ a0 a1 a2 (u_57.2.2.2.1 0) (u_57.2.2.2.1 1) (u_57.2.2.2.1 2) x3 (u_57.2.2.2.1 3) (u_57.2.2.2.1 4) a1 a3 x6 a3 f0 a2 a4 a5 a6 x7 x8 x9 x10 x11 x12 x13 a5 a7 a8 a9 a10 a11 x14 x15 a7 f1) H := hP
              replace hD : va_D A (zS_0 cB cC cI cJ a0 a1 a2 (u_57.2.2.2.1 0) (u_57.2.2.2.1 1) (u_57.2.2.2.1 2) x3 (u_57.2.2.2.1 3) (u_57.2.2.2.1 4) a1 a3 x6 a3 f0 a2 a4 a5 a6 x7 x8 x9 x10 x11 x12 x13 a5 a7 a8 a9 a10 a11 x14 x15 a7 f1) := hD
              obtain ⟨hw_60, hw_61, hw_62, hw_63, hw_64, hw_65, hw_66, hw_67, hw_68⟩ := hw_59
              replace hw_60 : ((-1) ≤ r_58.toInt ∧ r_58.toInt ≤ 9999) := hw_60
              replace hw_61 : (0 ≤ (u_57.2.2.2.1 0).toInt ∧ (u_57.2.2.2.1 0).toInt ≤ 1600) := hw_61
              replace hw_62 : ((-1) ≤ (u_57.2.2.2.1 1).toInt ∧ (u_57.2.2.2.1 1).toInt ≤ 255) := hw_62
              replace hw_63 : (0 ≤ (u_57.2.2.2.1 2).toInt ∧ (u_57.2.2.2.1 2).toInt ≤ 1600) := hw_63
              replace hw_64 : (0 ≤ (u_57.2.2.2.1 3).toInt ∧ (u_57.2.2.2.1 3).toInt ≤ 4) := hw_64
              replace hw_65 : ((-1) ≤ (u_57.2.2.2.1 4).toInt ∧ (u_57.2.2.2.1 4).toInt ≤ 1600) := hw_65
              replace hw_66 : (nuQ (taub f0 x6.toInt) (u_46.2.2.2.1 0).toInt (u_46.2.2.2.1 1).toInt r_58.toInt (u_57.2.2.2.1 0).toInt (u_57.2.2.2.1 1).toInt (u_57.2.2.2.1 2).toInt (u_57.2.2.2.1 3).toInt (u_57.2.2.2.1 4).toInt) := hw_66
              replace hw_67 : ((u_46.2.2.2.1 0).toInt ≤ (u_57.2.2.2.1 0).toInt) := hw_67
              replace hw_68 : (r_58.toInt = -1 ∨ ((u_57.2.2.2.1 3).toInt = 0 ∧ (u_57.2.2.2.1 4).toInt = -1)) := hw_68
              have rr_58 := n_rng r_58
              refine lv_istore_n (pc := 168) (lv' := [(1, .int r_58), (0, .ref a0)]) hx hb dX4_readPart_168 rfl hl (by decide) rfl (fun ls hl => ?_)
              refine lv_iload_n (pc := 169) hx hb dX4_readPart_169 rfl (lv_at hl 0 rfl) ?_
              refine lv_iconst (pc := 170) (v := (-1)) hx hb dX4_readPart_170 (by decide) ?_
              refine b_icmp_eq (pc := 171) (tgt := 186) hx hb rfl tI_m1  dX4_readPart_171 (by decide) (fun c_69 => ?_) (fun c_69 => ?_)
              ·
                refine lv_iconst (pc := 186) (v := 0) hx hb dX4_readPart_186 (by decide) ?_
                have k9 := tI_0
                exact hret 0 ((fun _ => 0), (fun k => [f1].getD k (fun _ => 0)), (fun _ => (fun _ => 0)), (fun k => [(u_57.2.2.2.1 0), (u_57.2.2.2.1 1), (u_57.2.2.2.1 2), (u_57.2.2.2.1 3), (u_57.2.2.2.1 4), x14].getD k 0), (fun _ => 0)) dX4_readPart_187 ⟨(Or.inl tI_0), ⟨(show (0 ≤ (0 : Int32).toInt ∧ (0 : Int32).toInt ≤ 1) from (n_c tI_0 (by decide))), (show (0 ≤ ((u_57.2.2.2.1 0) : Int32).toInt ∧ ((u_57.2.2.2.1 0) : Int32).toInt ≤ 1600) from hw_61), (show ((-1) ≤ ((u_57.2.2.2.1 1) : Int32).toInt ∧ ((u_57.2.2.2.1 1) : Int32).toInt ≤ 255) from hw_62), (show (0 ≤ ((u_57.2.2.2.1 2) : Int32).toInt ∧ ((u_57.2.2.2.1 2) : Int32).toInt ≤ 1600) from hw_63), (show (0 ≤ ((u_57.2.2.2.1 3) : Int32).toInt ∧ ((u_57.2.2.2.1 3) : Int32).toInt ≤ 4) from hw_64), (show ((-1) ≤ ((u_57.2.2.2.1 4) : Int32).toInt ∧ ((u_57.2.2.2.1 4) : Int32).toInt ≤ 1600) from hw_65), (show (0 ≤ (x14 : Int32).toInt ∧ (x14 : Int32).toInt ≤ 1600) from h_x14), (show 0 ≤ x3.toInt ∧ x3.toInt ≤ 6 ∧ x3.toInt ≤ x3.toInt + 7 - 7 * (0 : Int32).toInt ∧ x3.toInt ≤ x3.toInt + 7 - 7 * (0 : Int32).toInt from (by first | exact (om_159 h_x3.1 h_x3.2 tI_0) | (have k9 := tI_0; omega))), (show prQ (taub f0 x6.toInt) 1 2 x0.toInt x1.toInt x3.toInt (u_57.2.2.2.1 0).toInt (u_57.2.2.2.1 1).toInt (0 : Int32).toInt (u_57.2.2.2.1 3).toInt (u_57.2.2.2.1 4).toInt from pr_at (by omega) (by omega) (pr_num hw_66 (by omega) (pr_wd hh_45.1 (by omega) (by omega)) (pr_wd hh_56.1 (by omega) (by omega)) (pr_wd hh_12.1 (by omega) (by omega)) (pr_wd hh_23.1 (by omega) (by omega)) (pr_wd hh_34.1 (by omega) (by omega)) hw_53 (by first | exact (om_118 tI_0 c_69) | (omega)))), (show x0.toInt ≤ (u_57.2.2.2.1 0).toInt + 1700 - 1700 * (0 : Int32).toInt from (by first | exact (om_160 hw_61.1 h_x0.2 tI_0) | (have k9 := tI_0; omega))), (show (u_57.2.2.2.1 3).toInt ≤ 4 - 4 * (0 : Int32).toInt ∧ (u_57.2.2.2.1 4).toInt ≤ 1600 - 1601 * (0 : Int32).toInt from (by first | exact (om_96 hw_64.2 tI_0 hw_65.2) | (have k9 := tI_0; omega)))⟩⟩ (g_psub (wc := (zS_0 cB cC cI cJ a0 a1 a2 (u_57.2.2.2.1 0) (u_57.2.2.2.1 1) (u_57.2.2.2.1 2) x3 (u_57.2.2.2.1 3) (u_57.2.2.2.1 4) a1 a3 x6 a3 f0 a2 a4 a5 a6 x7 x8 x9 x10 x11 x12 x13 a5 a7 a8 a9 a10 a11 x14 x15 a7 f1)) hP [0, 1, 2, 3, 4, 5] rfl) (hD.sub (ws' := (zS_0 cB cC cI cJ a0 a1 a2 (u_57.2.2.2.1 0) (u_57.2.2.2.1 1) (u_57.2.2.2.1 2) x3 (u_57.2.2.2.1 3) (u_57.2.2.2.1 4) a1 a3 x6 a3 f0 a2 a4 a5 a6 x7 x8 x9 x10 x11 x12 x13 a5 a7 a8 a9 a10 a11 x14 x15 a7 f1)) [0, 1, 2, 3, 4, 5] (by decide) rfl) hS
              ·
                refine lv_aload_n (pc := 174) hx hb dX4_readPart_174 rfl (lv_at hl 1 rfl) ?_
                refine lv_iload_n (pc := 175) hx hb dX4_readPart_175 rfl (lv_at hl 0 rfl) ?_
                refine gd_i (pc := 176) (wc := (zS_31 cB cC cI cJ a0 a1 a2 (u_57.2.2.2.1 0) (u_57.2.2.2.1 1) (u_57.2.2.2.1 2) x3 (u_57.2.2.2.1 3) (u_57.2.2.2.1 4) a2 a4 a5 a6 x7 x8 x9 x10 x11 x12 x13 a5 a7 a8 a9 a10 a11 x14 x15 a7 f1)) hP hD hS hA [0, 3, 4, 5] rfl (by decide +kernel) (fun _ => by rfl) (fun hPc hDc => va_runV (As := [.int r_58]) (rest := []) ⟨hx, hb, hml, hown, hts⟩ (k_X4_adds l D cB cC cI cJ _ a0 a1 a2 a4 a5 a6 a7 a8 a9 a10 a11 r_58 (u_57.2.2.2.1 0) (u_57.2.2.2.1 1) (u_57.2.2.2.1 2) x3 (u_57.2.2.2.1 3) (u_57.2.2.2.1 4) x7 x8 x9 x10 x11 x12 x13 x14 x15 f1 hw_61 hw_62 hw_63 hw_64 hw_65 h_x7 h_x8 h_x9 h_x10 h_x11 h_x14 h_x15) ⟨gcwB hts tw_684 tw_2 tw_681 hd_yX4_adds ⟨Nat.le_of_ble_eq_true rfl, Nat.le_of_ble_eq_true rfl⟩, hts _ tw_683, hts _ tp_22⟩ ⟨gblind, va_recv hK hPc (ci := 4) (q0 := 0) rfl rfl, (gpreS hPc hK hDc hN).2⟩ rfl rfl hl.1 rfl (lv_room (Nat.le_of_ble_eq_true rfl)) dX4_readPart_176 ⟨Nat.le_of_ble_eq_true rfl, Nat.le_of_ble_eq_true rfl⟩) (fun r_71 u_70 H locs hw_72 hP hD hS => ?_)
                replace hP : va_P D gcl (zS_0 cB cC cI cJ a0 a1 a2 (u_57.2.2.2.1 0) (u_57.2.2.2.1 1) (u_57.2.2.2.1 2) x3 (u_57.2.2.2.1 3) (u_57.2.2.2.1 4) a1 a3 x6 a3 f0 a2 a4 a5 a6 x7 x8 x9 x10 x11 x12 x13 a5 a7 a8 a9 a10 a11 (u_70.2.2.2.1 0) x15 a7 (u_70.2.1 0)) H := hP
                replace hD : va_D A (zS_0 cB cC cI cJ a0 a1 a2 (u_57.2.2.2.1 0) (u_57.2.2.2.1 1) (u_57.2.2.2.1 2) x3 (u_57.2.2.2.1 3) (u_57.2.2.2.1 4) a1 a3 x6 a3 f0 a2 a4 a5 a6 x7 x8 x9 x10 x11 x12 x13 a5 a7 a8 a9 a10 a11 (u_70.2.2.2.1 0) x15 a7 (u_70.2.1 0)) := hD
                obtain ⟨hw_73, hw_74⟩ := hw_72
                replace hw_73 : ((r_71.toInt = 1)) := hw_73
                replace hw_74 : (0 ≤ (u_70.2.2.2.1 0).toInt ∧ (u_70.2.2.2.1 0).toInt ≤ 1600) := hw_74
                have rr_71 := n_rng r_71
                refine b_if_eq (pc := 179) (tgt := 186) hx hb rfl  dX4_readPart_179 (by decide) (fun c_75 => absurd c_75 (by first | exact (om_30 hw_73) | (omega))) (fun c_75 => ?_)
                refine lv_iconst (pc := 182) (v := 1) hx hb dX4_readPart_182 (by decide) ?_
                refine lv_goto (pc := 183) (tgt := 187) hx hb dX4_readPart_183 (by decide) ?_
                have k9 := tI_1
                exact hret 1 ((fun _ => 0), (fun k => [(u_70.2.1 0)].getD k (fun _ => 0)), (fun _ => (fun _ => 0)), (fun k => [(u_57.2.2.2.1 0), (u_57.2.2.2.1 1), (u_57.2.2.2.1 2), (u_57.2.2.2.1 3), (u_57.2.2.2.1 4), (u_70.2.2.2.1 0)].getD k 0), (fun _ => 0)) dX4_readPart_187 ⟨(Or.inr tI_1), ⟨(show (0 ≤ (1 : Int32).toInt ∧ (1 : Int32).toInt ≤ 1) from (n_c tI_1 (by decide))), (show (0 ≤ ((u_57.2.2.2.1 0) : Int32).toInt ∧ ((u_57.2.2.2.1 0) : Int32).toInt ≤ 1600) from hw_61), (show ((-1) ≤ ((u_57.2.2.2.1 1) : Int32).toInt ∧ ((u_57.2.2.2.1 1) : Int32).toInt ≤ 255) from hw_62), (show (0 ≤ ((u_57.2.2.2.1 2) : Int32).toInt ∧ ((u_57.2.2.2.1 2) : Int32).toInt ≤ 1600) from hw_63), (show (0 ≤ ((u_57.2.2.2.1 3) : Int32).toInt ∧ ((u_57.2.2.2.1 3) : Int32).toInt ≤ 4) from hw_64), (show ((-1) ≤ ((u_57.2.2.2.1 4) : Int32).toInt ∧ ((u_57.2.2.2.1 4) : Int32).toInt ≤ 1600) from hw_65), (show (0 ≤ ((u_70.2.2.2.1 0) : Int32).toInt ∧ ((u_70.2.2.2.1 0) : Int32).toInt ≤ 1600) from hw_74), (show 0 ≤ x3.toInt ∧ x3.toInt ≤ 6 ∧ x3.toInt ≤ x3.toInt + 7 - 7 * (1 : Int32).toInt ∧ x3.toInt ≤ x3.toInt + 7 - 7 * (1 : Int32).toInt from (by first | exact (om_161 h_x3.1 h_x3.2 tI_1) | (have k9 := tI_1; omega))), (show prQ (taub f0 x6.toInt) 1 2 x0.toInt x1.toInt x3.toInt (u_57.2.2.2.1 0).toInt (u_57.2.2.2.1 1).toInt (1 : Int32).toInt (u_57.2.2.2.1 3).toInt (u_57.2.2.2.1 4).toInt from pr_at (by omega) (by omega) (pr_num hw_66 (by omega) (pr_wd hh_45.1 (by omega) (by omega)) (pr_wd hh_56.1 (by omega) (by omega)) (pr_wd hh_12.1 (by omega) (by omega)) (pr_wd hh_23.1 (by omega) (by omega)) (pr_wd hh_34.1 (by omega) (by omega)) hw_53 (by first | exact (om_119 tI_1 c_69) | (omega)))), (show x0.toInt ≤ (u_57.2.2.2.1 0).toInt + 1700 - 1700 * (1 : Int32).toInt from (by first | exact (om_162 hw_67 hw_10 tI_1 hw_54 hw_21 c_11 c_55 hw_43 hw_32 c_22 c_44 c_33) | (have k9 := tI_1; omega))), (show (u_57.2.2.2.1 3).toInt ≤ 4 - 4 * (1 : Int32).toInt ∧ (u_57.2.2.2.1 4).toInt ≤ 1600 - 1601 * (1 : Int32).toInt from (by first | exact (om_98 hw_68 c_69 tI_1) | (have k9 := tI_1; omega)))⟩⟩ (g_psub (wc := (zS_0 cB cC cI cJ a0 a1 a2 (u_57.2.2.2.1 0) (u_57.2.2.2.1 1) (u_57.2.2.2.1 2) x3 (u_57.2.2.2.1 3) (u_57.2.2.2.1 4) a1 a3 x6 a3 f0 a2 a4 a5 a6 x7 x8 x9 x10 x11 x12 x13 a5 a7 a8 a9 a10 a11 (u_70.2.2.2.1 0) x15 a7 (u_70.2.1 0))) hP [0, 1, 2, 3, 4, 5] rfl) (hD.sub (ws' := (zS_0 cB cC cI cJ a0 a1 a2 (u_57.2.2.2.1 0) (u_57.2.2.2.1 1) (u_57.2.2.2.1 2) x3 (u_57.2.2.2.1 3) (u_57.2.2.2.1 4) a1 a3 x6 a3 f0 a2 a4 a5 a6 x7 x8 x9 x10 x11 x12 x13 a5 a7 a8 a9 a10 a11 (u_70.2.2.2.1 0) x15 a7 (u_70.2.1 0))) [0, 1, 2, 3, 4, 5] (by decide) rfl) hS
            ·
              refine lv_aload_n (pc := 142) hx hb dX4_readPart_142 rfl (lv_at hl 0 rfl) ?_
              refine gd_i (pc := 143) (wc := (zS_1 cB cC cI cJ a0 a1 a2 (u_46.2.2.2.1 0) (u_46.2.2.2.1 1) x2 x3 x4 x5 a1 a3 x6 a3 f0)) hP hD hS hA [0, 1, 2] rfl (by decide +kernel) (fun _ => by rfl) (fun hPc hDc => va_runV (As := []) (rest := []) ⟨hx, hb, hml, hown, hts⟩ (k_X4_readPair_6 l D cB cC cI cJ _ adK adV a0 a1 a2 a3 (u_46.2.2.2.1 0) (u_46.2.2.2.1 1) x2 x3 x4 x5 x6 f0 hw_50 hw_51 h_x2 h_x3 h_x4 h_x5 h_x6 (hw_53) hg__ff) ⟨gcwB hts tw_695 tw_2 tw_692 hd_yX4_readPair ⟨Nat.le_of_ble_eq_true rfl, Nat.le_of_ble_eq_true rfl⟩, hts _ tw_694, hts _ tp_23⟩ ⟨gblindT, va_recv hK hPc (ci := 4) (q0 := 0) rfl rfl, (gpreT hPc hK hDc hN hF hS (va_free (wc := (zS_1 cB cC cI cJ a0 a1 a2 (u_46.2.2.2.1 0) (u_46.2.2.2.1 1) x2 x3 x4 x5 a1 a3 x6 a3 f0)) hD hS hA [0, 1, 2] rfl)).2⟩ rfl rfl hl.1 rfl (lv_room (Nat.le_of_ble_eq_true rfl)) dX4_readPart_143 ⟨Nat.le_of_ble_eq_true rfl, Nat.le_of_ble_eq_true rfl⟩) (fun r_77 u_76 H locs hw_78 hP hD hS => ?_)
              replace hP : va_P D gcl (zS_0 cB cC cI cJ a0 a1 a2 (u_46.2.2.2.1 0) (u_46.2.2.2.1 1) x2 x3 (u_76.2.2.2.1 0) (u_46.2.2.2.1 0) a1 a3 x6 a3 f0 a2 a4 a5 a6 x7 x8 x9 x10 x11 x12 x13 a5 a7 a8 a9 a10 a11 x14 x15 a7 f1) H := hP
              replace hD : va_D A (zS_0 cB cC cI cJ a0 a1 a2 (u_46.2.2.2.1 0) (u_46.2.2.2.1 1) x2 x3 (u_76.2.2.2.1 0) (u_46.2.2.2.1 0) a1 a3 x6 a3 f0 a2 a4 a5 a6 x7 x8 x9 x10 x11 x12 x13 a5 a7 a8 a9 a10 a11 x14 x15 a7 f1) := hD
              obtain ⟨hw_79, hw_80, hw_81, hw_82, hw_83, hw_84⟩ := hw_78
              replace hw_79 : (0 ≤ r_77.toInt ∧ r_77.toInt ≤ 0) := hw_79
              replace hw_80 : (0 ≤ (u_76.2.2.2.1 0).toInt ∧ (u_76.2.2.2.1 0).toInt ≤ 4) := hw_80
              replace hw_81 : (0 ≤ x3.toInt ∧ x3.toInt ≤ 6 ∧ x3.toInt ≤ x3.toInt + 7 - 7 * r_77.toInt ∧ x3.toInt ≤ x3.toInt + 7 - 7 * r_77.toInt) := hw_81
              replace hw_82 : (paQ (taub f0 x6.toInt) (u_46.2.2.2.1 0).toInt (u_46.2.2.2.1 1).toInt x3.toInt (u_46.2.2.2.1 0).toInt (u_46.2.2.2.1 1).toInt r_77.toInt (u_76.2.2.2.1 0).toInt (u_46.2.2.2.1 0).toInt) := hw_82
              replace hw_83 : ((u_46.2.2.2.1 0).toInt ≤ (u_46.2.2.2.1 0).toInt + 1700 - 1700 * r_77.toInt) := hw_83
              replace hw_84 : ((u_76.2.2.2.1 0).toInt ≤ 4 - 4 * r_77.toInt ∧ (u_46.2.2.2.1 0).toInt ≤ 1600 - 1601 * r_77.toInt) := hw_84
              have rr_77 := n_rng r_77
              refine b_if_eq (pc := 146) (tgt := 162) hx hb rfl  dX4_readPart_146 (by decide) (fun c_85 => ?_) (fun c_85 => absurd c_85 (by first | exact (om_51 hw_79.1 hw_79.2) | (omega)))
              refine lv_iconst (pc := 162) (v := 0) hx hb dX4_readPart_162 (by decide) ?_
              have k9 := tI_0
              exact hret 0 ((fun _ => 0), (fun k => [f1].getD k (fun _ => 0)), (fun _ => (fun _ => 0)), (fun k => [(u_46.2.2.2.1 0), (u_46.2.2.2.1 1), x2, (u_76.2.2.2.1 0), (u_46.2.2.2.1 0), x14].getD k 0), (fun _ => 0)) dX4_readPart_163 ⟨(Or.inl tI_0), ⟨(show (0 ≤ (0 : Int32).toInt ∧ (0 : Int32).toInt ≤ 1) from (n_c tI_0 (by decide))), (show (0 ≤ ((u_46.2.2.2.1 0) : Int32).toInt ∧ ((u_46.2.2.2.1 0) : Int32).toInt ≤ 1600) from hw_50), (show ((-1) ≤ ((u_46.2.2.2.1 1) : Int32).toInt ∧ ((u_46.2.2.2.1 1) : Int32).toInt ≤ 255) from hw_51), (show (0 ≤ (x2 : Int32).toInt ∧ (x2 : Int32).toInt ≤ 1600) from h_x2), (show (0 ≤ ((u_76.2.2.2.1 0) : Int32).toInt ∧ ((u_76.2.2.2.1 0) : Int32).toInt ≤ 4) from hw_80), (show ((-1) ≤ ((u_46.2.2.2.1 0) : Int32).toInt ∧ ((u_46.2.2.2.1 0) : Int32).toInt ≤ 1600) from (by first | exact (om_52 hw_50.1 hw_50.2) | (have k9 := tI_0; omega))), (show (0 ≤ (x14 : Int32).toInt ∧ (x14 : Int32).toInt ≤ 1600) from h_x14), (show 0 ≤ x3.toInt ∧ x3.toInt ≤ 6 ∧ x3.toInt ≤ x3.toInt + 7 - 7 * (0 : Int32).toInt ∧ x3.toInt ≤ x3.toInt + 7 - 7 * (0 : Int32).toInt from (by first | exact (om_163 hw_81.1 hw_81.2.1 tI_0) | (have k9 := tI_0; omega))), (show prQ (taub f0 x6.toInt) 1 2 x0.toInt x1.toInt x3.toInt (u_46.2.2.2.1 0).toInt (u_46.2.2.2.1 1).toInt (0 : Int32).toInt (u_76.2.2.2.1 0).toInt (u_46.2.2.2.1 0).toInt from pr_at (by omega) (by omega) (pr_max hw_52 (by first | exact (om_34 c_55) | (omega)) hw_82 hw_42 (by first | exact (om_104 tI_0 c_85) | (omega)))), (show x0.toInt ≤ (u_46.2.2.2.1 0).toInt + 1700 - 1700 * (0 : Int32).toInt from (by first | exact (om_160 hw_50.1 h_x0.2 tI_0) | (have k9 := tI_0; omega))), (show (u_76.2.2.2.1 0).toInt ≤ 4 - 4 * (0 : Int32).toInt ∧ (u_46.2.2.2.1 0).toInt ≤ 1600 - 1601 * (0 : Int32).toInt from (by first | exact (om_96 hw_80.2 tI_0 hw_50.2) | (have k9 := tI_0; omega)))⟩⟩ (g_psub (wc := (zS_0 cB cC cI cJ a0 a1 a2 (u_46.2.2.2.1 0) (u_46.2.2.2.1 1) x2 x3 (u_76.2.2.2.1 0) (u_46.2.2.2.1 0) a1 a3 x6 a3 f0 a2 a4 a5 a6 x7 x8 x9 x10 x11 x12 x13 a5 a7 a8 a9 a10 a11 x14 x15 a7 f1)) hP [0, 1, 2, 3, 4, 5] rfl) (hD.sub (ws' := (zS_0 cB cC cI cJ a0 a1 a2 (u_46.2.2.2.1 0) (u_46.2.2.2.1 1) x2 x3 (u_76.2.2.2.1 0) (u_46.2.2.2.1 0) a1 a3 x6 a3 f0 a2 a4 a5 a6 x7 x8 x9 x10 x11 x12 x13 a5 a7 a8 a9 a10 a11 x14 x15 a7 f1)) [0, 1, 2, 3, 4, 5] (by decide) rfl) hS
          ·
            refine lv_aload_n (pc := 110) hx hb dX4_readPart_110 rfl (lv_at hl 0 rfl) ?_
            refine gd_i (pc := 111) (wc := (zS_1 cB cC cI cJ a0 a1 a2 (u_35.2.2.2.1 0) (u_35.2.2.2.1 1) x2 x3 x4 x5 a1 a3 x6 a3 f0)) hP hD hS hA [0, 1, 2] rfl (by decide +kernel) (fun _ => by rfl) (fun hPc hDc => va_runV (As := []) (rest := []) ⟨hx, hb, hml, hown, hts⟩ (k_X4_readPair_6 l D cB cC cI cJ _ adK adV a0 a1 a2 a3 (u_35.2.2.2.1 0) (u_35.2.2.2.1 1) x2 x3 x4 x5 x6 f0 hw_39 hw_40 h_x2 h_x3 h_x4 h_x5 h_x6 (hw_42) hg__ff) ⟨gcwB hts tw_695 tw_2 tw_692 hd_yX4_readPair ⟨Nat.le_of_ble_eq_true rfl, Nat.le_of_ble_eq_true rfl⟩, hts _ tw_694, hts _ tp_23⟩ ⟨gblindT, va_recv hK hPc (ci := 4) (q0 := 0) rfl rfl, (gpreT hPc hK hDc hN hF hS (va_free (wc := (zS_1 cB cC cI cJ a0 a1 a2 (u_35.2.2.2.1 0) (u_35.2.2.2.1 1) x2 x3 x4 x5 a1 a3 x6 a3 f0)) hD hS hA [0, 1, 2] rfl)).2⟩ rfl rfl hl.1 rfl (lv_room (Nat.le_of_ble_eq_true rfl)) dX4_readPart_111 ⟨Nat.le_of_ble_eq_true rfl, Nat.le_of_ble_eq_true rfl⟩) (fun r_87 u_86 H locs hw_88 hP hD hS => ?_)
            replace hP : va_P D gcl (zS_0 cB cC cI cJ a0 a1 a2 (u_35.2.2.2.1 0) (u_35.2.2.2.1 1) x2 x3 (u_86.2.2.2.1 0) (u_35.2.2.2.1 0) a1 a3 x6 a3 f0 a2 a4 a5 a6 x7 x8 x9 x10 x11 x12 x13 a5 a7 a8 a9 a10 a11 x14 x15 a7 f1) H := hP
            replace hD : va_D A (zS_0 cB cC cI cJ a0 a1 a2 (u_35.2.2.2.1 0) (u_35.2.2.2.1 1) x2 x3 (u_86.2.2.2.1 0) (u_35.2.2.2.1 0) a1 a3 x6 a3 f0 a2 a4 a5 a6 x7 x8 x9 x10 x11 x12 x13 a5 a7 a8 a9 a10 a11 x14 x15 a7 f1) := hD
            obtain ⟨hw_89, hw_90, hw_91, hw_92, hw_93, hw_94⟩ := hw_88
            replace hw_89 : (0 ≤ r_87.toInt ∧ r_87.toInt ≤ 0) := hw_89
            replace hw_90 : (0 ≤ (u_86.2.2.2.1 0).toInt ∧ (u_86.2.2.2.1 0).toInt ≤ 4) := hw_90
            replace hw_91 : (0 ≤ x3.toInt ∧ x3.toInt ≤ 6 ∧ x3.toInt ≤ x3.toInt + 7 - 7 * r_87.toInt ∧ x3.toInt ≤ x3.toInt + 7 - 7 * r_87.toInt) := hw_91
            replace hw_92 : (paQ (taub f0 x6.toInt) (u_35.2.2.2.1 0).toInt (u_35.2.2.2.1 1).toInt x3.toInt (u_35.2.2.2.1 0).toInt (u_35.2.2.2.1 1).toInt r_87.toInt (u_86.2.2.2.1 0).toInt (u_35.2.2.2.1 0).toInt) := hw_92
            replace hw_93 : ((u_35.2.2.2.1 0).toInt ≤ (u_35.2.2.2.1 0).toInt + 1700 - 1700 * r_87.toInt) := hw_93
            replace hw_94 : ((u_86.2.2.2.1 0).toInt ≤ 4 - 4 * r_87.toInt ∧ (u_35.2.2.2.1 0).toInt ≤ 1600 - 1601 * r_87.toInt) := hw_94
            have rr_87 := n_rng r_87
            refine b_if_eq (pc := 114) (tgt := 130) hx hb rfl  dX4_readPart_114 (by decide) (fun c_95 => ?_) (fun c_95 => absurd c_95 (by first | exact (om_51 hw_89.1 hw_89.2) | (omega)))
            refine lv_iconst (pc := 130) (v := 0) hx hb dX4_readPart_130 (by decide) ?_
            have k9 := tI_0
            exact hret 0 ((fun _ => 0), (fun k => [f1].getD k (fun _ => 0)), (fun _ => (fun _ => 0)), (fun k => [(u_35.2.2.2.1 0), (u_35.2.2.2.1 1), x2, (u_86.2.2.2.1 0), (u_35.2.2.2.1 0), x14].getD k 0), (fun _ => 0)) dX4_readPart_131 ⟨(Or.inl tI_0), ⟨(show (0 ≤ (0 : Int32).toInt ∧ (0 : Int32).toInt ≤ 1) from (n_c tI_0 (by decide))), (show (0 ≤ ((u_35.2.2.2.1 0) : Int32).toInt ∧ ((u_35.2.2.2.1 0) : Int32).toInt ≤ 1600) from hw_39), (show ((-1) ≤ ((u_35.2.2.2.1 1) : Int32).toInt ∧ ((u_35.2.2.2.1 1) : Int32).toInt ≤ 255) from hw_40), (show (0 ≤ (x2 : Int32).toInt ∧ (x2 : Int32).toInt ≤ 1600) from h_x2), (show (0 ≤ ((u_86.2.2.2.1 0) : Int32).toInt ∧ ((u_86.2.2.2.1 0) : Int32).toInt ≤ 4) from hw_90), (show ((-1) ≤ ((u_35.2.2.2.1 0) : Int32).toInt ∧ ((u_35.2.2.2.1 0) : Int32).toInt ≤ 1600) from (by first | exact (om_52 hw_39.1 hw_39.2) | (have k9 := tI_0; omega))), (show (0 ≤ (x14 : Int32).toInt ∧ (x14 : Int32).toInt ≤ 1600) from h_x14), (show 0 ≤ x3.toInt ∧ x3.toInt ≤ 6 ∧ x3.toInt ≤ x3.toInt + 7 - 7 * (0 : Int32).toInt ∧ x3.toInt ≤ x3.toInt + 7 - 7 * (0 : Int32).toInt from (by first | exact (om_163 hw_91.1 hw_91.2.1 tI_0) | (have k9 := tI_0; omega))), (show prQ (taub f0 x6.toInt) 1 2 x0.toInt x1.toInt x3.toInt (u_35.2.2.2.1 0).toInt (u_35.2.2.2.1 1).toInt (0 : Int32).toInt (u_86.2.2.2.1 0).toInt (u_35.2.2.2.1 0).toInt from pr_at (by omega) (by omega) (pr_min hw_41 (by first | exact (om_34 c_44) | (omega)) hw_92 hw_31 (by first | exact (om_104 tI_0 c_95) | (omega)))), (show x0.toInt ≤ (u_35.2.2.2.1 0).toInt + 1700 - 1700 * (0 : Int32).toInt from (by first | exact (om_160 hw_39.1 h_x0.2 tI_0) | (have k9 := tI_0; omega))), (show (u_86.2.2.2.1 0).toInt ≤ 4 - 4 * (0 : Int32).toInt ∧ (u_35.2.2.2.1 0).toInt ≤ 1600 - 1601 * (0 : Int32).toInt from (by first | exact (om_96 hw_90.2 tI_0 hw_39.2) | (have k9 := tI_0; omega)))⟩⟩ (g_psub (wc := (zS_0 cB cC cI cJ a0 a1 a2 (u_35.2.2.2.1 0) (u_35.2.2.2.1 1) x2 x3 (u_86.2.2.2.1 0) (u_35.2.2.2.1 0) a1 a3 x6 a3 f0 a2 a4 a5 a6 x7 x8 x9 x10 x11 x12 x13 a5 a7 a8 a9 a10 a11 x14 x15 a7 f1)) hP [0, 1, 2, 3, 4, 5] rfl) (hD.sub (ws' := (zS_0 cB cC cI cJ a0 a1 a2 (u_35.2.2.2.1 0) (u_35.2.2.2.1 1) x2 x3 (u_86.2.2.2.1 0) (u_35.2.2.2.1 0) a1 a3 x6 a3 f0 a2 a4 a5 a6 x7 x8 x9 x10 x11 x12 x13 a5 a7 a8 a9 a10 a11 x14 x15 a7 f1)) [0, 1, 2, 3, 4, 5] (by decide) rfl) hS
        ·
          refine lv_aload_n (pc := 94) hx hb dX4_readPart_94 rfl (lv_at hl 0 rfl) ?_
          refine lv_bipush (pc := 95) (v := (-3)) hx hb dX4_readPart_95 (by decide) ?_
          refine gd_i (pc := 97) (wc := (zS_31 cB cC cI cJ a0 a1 a2 (u_24.2.2.2.1 0) (u_24.2.2.2.1 1) x2 x3 x4 x5 a2 a4 a5 a6 x7 x8 x9 x10 x11 x12 x13 a5 a7 a8 a9 a10 a11 x14 x15 a7 f1)) hP hD hS hA [0, 3, 4, 5] rfl (by decide +kernel) (fun _ => by rfl) (fun hPc hDc => va_runV (As := [.int (-3)]) (rest := []) ⟨hx, hb, hml, hown, hts⟩ (k_X4_adds l D cB cC cI cJ _ a0 a1 a2 a4 a5 a6 a7 a8 a9 a10 a11 (-3) (u_24.2.2.2.1 0) (u_24.2.2.2.1 1) x2 x3 x4 x5 x7 x8 x9 x10 x11 x12 x13 x14 x15 f1 hw_28 hw_29 h_x2 h_x4 h_x5 h_x7 h_x8 h_x9 h_x10 h_x11 h_x14 h_x15) ⟨gcwB hts tw_684 tw_2 tw_681 hd_yX4_adds ⟨Nat.le_of_ble_eq_true rfl, Nat.le_of_ble_eq_true rfl⟩, hts _ tw_683, hts _ tp_22⟩ ⟨gblind, va_recv hK hPc (ci := 4) (q0 := 0) rfl rfl, (gpreS hPc hK hDc hN).2⟩ rfl rfl hl.1 rfl (lv_room (Nat.le_of_ble_eq_true rfl)) dX4_readPart_97 ⟨Nat.le_of_ble_eq_true rfl, Nat.le_of_ble_eq_true rfl⟩) (fun r_97 u_96 H locs hw_98 hP hD hS => ?_)
          replace hP : va_P D gcl (zS_0 cB cC cI cJ a0 a1 a2 (u_24.2.2.2.1 0) (u_24.2.2.2.1 1) x2 x3 x4 x5 a1 a3 x6 a3 f0 a2 a4 a5 a6 x7 x8 x9 x10 x11 x12 x13 a5 a7 a8 a9 a10 a11 (u_96.2.2.2.1 0) x15 a7 (u_96.2.1 0)) H := hP
          replace hD : va_D A (zS_0 cB cC cI cJ a0 a1 a2 (u_24.2.2.2.1 0) (u_24.2.2.2.1 1) x2 x3 x4 x5 a1 a3 x6 a3 f0 a2 a4 a5 a6 x7 x8 x9 x10 x11 x12 x13 a5 a7 a8 a9 a10 a11 (u_96.2.2.2.1 0) x15 a7 (u_96.2.1 0)) := hD
          obtain ⟨hw_99, hw_100⟩ := hw_98
          replace hw_99 : ((r_97.toInt = 1)) := hw_99
          replace hw_100 : (0 ≤ (u_96.2.2.2.1 0).toInt ∧ (u_96.2.2.2.1 0).toInt ≤ 1600) := hw_100
          have kk0_r_97 := tI_m3
          have rr_97 := n_rng r_97
          exact hret r_97 ((fun _ => 0), (fun k => [(u_96.2.1 0)].getD k (fun _ => 0)), (fun _ => (fun _ => 0)), (fun k => [(u_24.2.2.2.1 0), (u_24.2.2.2.1 1), x2, x4, x5, (u_96.2.2.2.1 0)].getD k 0), (fun _ => 0)) dX4_readPart_100 ⟨(by first | exact (om_167 hw_99) | (omega)), ⟨(show (0 ≤ r_97.toInt ∧ r_97.toInt ≤ 1) from (by first | exact (om_164 hw_99) | (omega))), (show (0 ≤ ((u_24.2.2.2.1 0) : Int32).toInt ∧ ((u_24.2.2.2.1 0) : Int32).toInt ≤ 1600) from hw_28), (show ((-1) ≤ ((u_24.2.2.2.1 1) : Int32).toInt ∧ ((u_24.2.2.2.1 1) : Int32).toInt ≤ 255) from hw_29), (show (0 ≤ (x2 : Int32).toInt ∧ (x2 : Int32).toInt ≤ 1600) from h_x2), (show (0 ≤ (x4 : Int32).toInt ∧ (x4 : Int32).toInt ≤ 4) from h_x4), (show ((-1) ≤ (x5 : Int32).toInt ∧ (x5 : Int32).toInt ≤ 1600) from h_x5), (show (0 ≤ ((u_96.2.2.2.1 0) : Int32).toInt ∧ ((u_96.2.2.2.1 0) : Int32).toInt ≤ 1600) from hw_100), (show 0 ≤ x3.toInt ∧ x3.toInt ≤ 6 ∧ x3.toInt ≤ x3.toInt + 7 - 7 * r_97.toInt ∧ x3.toInt ≤ x3.toInt + 7 - 7 * r_97.toInt from (by first | exact (om_161 h_x3.1 h_x3.2 hw_99) | (omega))), (show prQ (taub f0 x6.toInt) 1 2 x0.toInt x1.toInt x3.toInt (u_24.2.2.2.1 0).toInt (u_24.2.2.2.1 1).toInt r_97.toInt x4.toInt x5.toInt from pr_at (by omega) (by omega) (pr_peak hw_30 (by first | exact (om_34 c_33) | (omega)) hw_20 (by first | exact (om_36 hw_99) | (omega)))), (show x0.toInt ≤ (u_24.2.2.2.1 0).toInt + 1700 - 1700 * r_97.toInt from (by first | exact (om_165 hw_99 hw_32 hw_10 hw_27.1 hw_21 c_11 c_22) | (omega))), (show x4.toInt ≤ 4 - 4 * r_97.toInt ∧ x5.toInt ≤ 1600 - 1601 * r_97.toInt from (by first | exact (om_166 hw_99 hg__ff.1 hg__ff.2) | (omega)))⟩⟩ (g_psub (wc := (zS_0 cB cC cI cJ a0 a1 a2 (u_24.2.2.2.1 0) (u_24.2.2.2.1 1) x2 x3 x4 x5 a1 a3 x6 a3 f0 a2 a4 a5 a6 x7 x8 x9 x10 x11 x12 x13 a5 a7 a8 a9 a10 a11 (u_96.2.2.2.1 0) x15 a7 (u_96.2.1 0))) hP [0, 1, 2, 3, 4, 5] rfl) (hD.sub (ws' := (zS_0 cB cC cI cJ a0 a1 a2 (u_24.2.2.2.1 0) (u_24.2.2.2.1 1) x2 x3 x4 x5 a1 a3 x6 a3 f0 a2 a4 a5 a6 x7 x8 x9 x10 x11 x12 x13 a5 a7 a8 a9 a10 a11 (u_96.2.2.2.1 0) x15 a7 (u_96.2.1 0))) [0, 1, 2, 3, 4, 5] (by decide) rfl) hS
      ·
        refine lv_aload_n (pc := 78) hx hb dX4_readPart_78 rfl (lv_at hl 0 rfl) ?_
        refine lv_bipush (pc := 79) (v := (-2)) hx hb dX4_readPart_79 (by decide) ?_
        refine gd_i (pc := 81) (wc := (zS_31 cB cC cI cJ a0 a1 a2 (u_13.2.2.2.1 0) (u_13.2.2.2.1 1) x2 x3 x4 x5 a2 a4 a5 a6 x7 x8 x9 x10 x11 x12 x13 a5 a7 a8 a9 a10 a11 x14 x15 a7 f1)) hP hD hS hA [0, 3, 4, 5] rfl (by decide +kernel) (fun _ => by rfl) (fun hPc hDc => va_runV (As := [.int (-2)]) (rest := []) ⟨hx, hb, hml, hown, hts⟩ (k_X4_adds l D cB cC cI cJ _ a0 a1 a2 a4 a5 a6 a7 a8 a9 a10 a11 (-2) (u_13.2.2.2.1 0) (u_13.2.2.2.1 1) x2 x3 x4 x5 x7 x8 x9 x10 x11 x12 x13 x14 x15 f1 hw_17 hw_18 h_x2 h_x4 h_x5 h_x7 h_x8 h_x9 h_x10 h_x11 h_x14 h_x15) ⟨gcwB hts tw_684 tw_2 tw_681 hd_yX4_adds ⟨Nat.le_of_ble_eq_true rfl, Nat.le_of_ble_eq_true rfl⟩, hts _ tw_683, hts _ tp_22⟩ ⟨gblind, va_recv hK hPc (ci := 4) (q0 := 0) rfl rfl, (gpreS hPc hK hDc hN).2⟩ rfl rfl hl.1 rfl (lv_room (Nat.le_of_ble_eq_true rfl)) dX4_readPart_81 ⟨Nat.le_of_ble_eq_true rfl, Nat.le_of_ble_eq_true rfl⟩) (fun r_102 u_101 H locs hw_103 hP hD hS => ?_)
        replace hP : va_P D gcl (zS_0 cB cC cI cJ a0 a1 a2 (u_13.2.2.2.1 0) (u_13.2.2.2.1 1) x2 x3 x4 x5 a1 a3 x6 a3 f0 a2 a4 a5 a6 x7 x8 x9 x10 x11 x12 x13 a5 a7 a8 a9 a10 a11 (u_101.2.2.2.1 0) x15 a7 (u_101.2.1 0)) H := hP
        replace hD : va_D A (zS_0 cB cC cI cJ a0 a1 a2 (u_13.2.2.2.1 0) (u_13.2.2.2.1 1) x2 x3 x4 x5 a1 a3 x6 a3 f0 a2 a4 a5 a6 x7 x8 x9 x10 x11 x12 x13 a5 a7 a8 a9 a10 a11 (u_101.2.2.2.1 0) x15 a7 (u_101.2.1 0)) := hD
        obtain ⟨hw_104, hw_105⟩ := hw_103
        replace hw_104 : ((r_102.toInt = 1)) := hw_104
        replace hw_105 : (0 ≤ (u_101.2.2.2.1 0).toInt ∧ (u_101.2.2.2.1 0).toInt ≤ 1600) := hw_105
        have kk0_r_102 := tI_m2
        have rr_102 := n_rng r_102
        exact hret r_102 ((fun _ => 0), (fun k => [(u_101.2.1 0)].getD k (fun _ => 0)), (fun _ => (fun _ => 0)), (fun k => [(u_13.2.2.2.1 0), (u_13.2.2.2.1 1), x2, x4, x5, (u_101.2.2.2.1 0)].getD k 0), (fun _ => 0)) dX4_readPart_84 ⟨(by first | exact (om_167 hw_104) | (omega)), ⟨(show (0 ≤ r_102.toInt ∧ r_102.toInt ≤ 1) from (by first | exact (om_164 hw_104) | (omega))), (show (0 ≤ ((u_13.2.2.2.1 0) : Int32).toInt ∧ ((u_13.2.2.2.1 0) : Int32).toInt ≤ 1600) from hw_17), (show ((-1) ≤ ((u_13.2.2.2.1 1) : Int32).toInt ∧ ((u_13.2.2.2.1 1) : Int32).toInt ≤ 255) from hw_18), (show (0 ≤ (x2 : Int32).toInt ∧ (x2 : Int32).toInt ≤ 1600) from h_x2), (show (0 ≤ (x4 : Int32).toInt ∧ (x4 : Int32).toInt ≤ 4) from h_x4), (show ((-1) ≤ (x5 : Int32).toInt ∧ (x5 : Int32).toInt ≤ 1600) from h_x5), (show (0 ≤ ((u_101.2.2.2.1 0) : Int32).toInt ∧ ((u_101.2.2.2.1 0) : Int32).toInt ≤ 1600) from hw_105), (show 0 ≤ x3.toInt ∧ x3.toInt ≤ 6 ∧ x3.toInt ≤ x3.toInt + 7 - 7 * r_102.toInt ∧ x3.toInt ≤ x3.toInt + 7 - 7 * r_102.toInt from (by first | exact (om_161 h_x3.1 h_x3.2 hw_104) | (omega))), (show prQ (taub f0 x6.toInt) 1 2 x0.toInt x1.toInt x3.toInt (u_13.2.2.2.1 0).toInt (u_13.2.2.2.1 1).toInt r_102.toInt x4.toInt x5.toInt from pr_at (by omega) (by omega) (pr_six hw_19 (by first | exact (om_34 c_22) | (omega)) (Or.inr rfl) hw_9 (by first | exact (om_36 hw_104) | (omega)))), (show x0.toInt ≤ (u_13.2.2.2.1 0).toInt + 1700 - 1700 * r_102.toInt from (by first | exact (om_168 hw_104 hw_21 hw_10 hw_16.1 c_11) | (omega))), (show x4.toInt ≤ 4 - 4 * r_102.toInt ∧ x5.toInt ≤ 1600 - 1601 * r_102.toInt from (by first | exact (om_166 hw_104 hg__ff.1 hg__ff.2) | (omega)))⟩⟩ (g_psub (wc := (zS_0 cB cC cI cJ a0 a1 a2 (u_13.2.2.2.1 0) (u_13.2.2.2.1 1) x2 x3 x4 x5 a1 a3 x6 a3 f0 a2 a4 a5 a6 x7 x8 x9 x10 x11 x12 x13 a5 a7 a8 a9 a10 a11 (u_101.2.2.2.1 0) x15 a7 (u_101.2.1 0))) hP [0, 1, 2, 3, 4, 5] rfl) (hD.sub (ws' := (zS_0 cB cC cI cJ a0 a1 a2 (u_13.2.2.2.1 0) (u_13.2.2.2.1 1) x2 x3 x4 x5 a1 a3 x6 a3 f0 a2 a4 a5 a6 x7 x8 x9 x10 x11 x12 x13 a5 a7 a8 a9 a10 a11 (u_101.2.2.2.1 0) x15 a7 (u_101.2.1 0))) [0, 1, 2, 3, 4, 5] (by decide) rfl) hS
    ·
      refine lv_aload_n (pc := 63) hx hb dX4_readPart_63 rfl (lv_at hl 0 rfl) ?_
      refine lv_iconst (pc := 64) (v := (-1)) hx hb dX4_readPart_64 (by decide) ?_
      refine gd_i (pc := 65) (wc := (zS_31 cB cC cI cJ a0 a1 a2 (u_2.2.2.2.1 0) (u_2.2.2.2.1 1) x2 x3 x4 x5 a2 a4 a5 a6 x7 x8 x9 x10 x11 x12 x13 a5 a7 a8 a9 a10 a11 x14 x15 a7 f1)) hP hD hS hA [0, 3, 4, 5] rfl (by decide +kernel) (fun _ => by rfl) (fun hPc hDc => va_runV (As := [.int (-1)]) (rest := []) ⟨hx, hb, hml, hown, hts⟩ (k_X4_adds l D cB cC cI cJ _ a0 a1 a2 a4 a5 a6 a7 a8 a9 a10 a11 (-1) (u_2.2.2.2.1 0) (u_2.2.2.2.1 1) x2 x3 x4 x5 x7 x8 x9 x10 x11 x12 x13 x14 x15 f1 hw_6 hw_7 h_x2 h_x4 h_x5 h_x7 h_x8 h_x9 h_x10 h_x11 h_x14 h_x15) ⟨gcwB hts tw_684 tw_2 tw_681 hd_yX4_adds ⟨Nat.le_of_ble_eq_true rfl, Nat.le_of_ble_eq_true rfl⟩, hts _ tw_683, hts _ tp_22⟩ ⟨gblind, va_recv hK hPc (ci := 4) (q0 := 0) rfl rfl, (gpreS hPc hK hDc hN).2⟩ rfl rfl hl.1 rfl (lv_room (Nat.le_of_ble_eq_true rfl)) dX4_readPart_65 ⟨Nat.le_of_ble_eq_true rfl, Nat.le_of_ble_eq_true rfl⟩) (fun r_107 u_106 H locs hw_108 hP hD hS => ?_)
      replace hP : va_P D gcl (zS_0 cB cC cI cJ a0 a1 a2 (u_2.2.2.2.1 0) (u_2.2.2.2.1 1) x2 x3 x4 x5 a1 a3 x6 a3 f0 a2 a4 a5 a6 x7 x8 x9 x10 x11 x12 x13 a5 a7 a8 a9 a10 a11 (u_106.2.2.2.1 0) x15 a7 (u_106.2.1 0)) H := hP
      replace hD : va_D A (zS_0 cB cC cI cJ a0 a1 a2 (u_2.2.2.2.1 0) (u_2.2.2.2.1 1) x2 x3 x4 x5 a1 a3 x6 a3 f0 a2 a4 a5 a6 x7 x8 x9 x10 x11 x12 x13 a5 a7 a8 a9 a10 a11 (u_106.2.2.2.1 0) x15 a7 (u_106.2.1 0)) := hD
      obtain ⟨hw_109, hw_110⟩ := hw_108
      replace hw_109 : ((r_107.toInt = 1)) := hw_109
      replace hw_110 : (0 ≤ (u_106.2.2.2.1 0).toInt ∧ (u_106.2.2.2.1 0).toInt ≤ 1600) := hw_110
      have kk0_r_107 := tI_m1
      have rr_107 := n_rng r_107
      exact hret r_107 ((fun _ => 0), (fun k => [(u_106.2.1 0)].getD k (fun _ => 0)), (fun _ => (fun _ => 0)), (fun k => [(u_2.2.2.2.1 0), (u_2.2.2.2.1 1), x2, x4, x5, (u_106.2.2.2.1 0)].getD k 0), (fun _ => 0)) dX4_readPart_68 ⟨(by first | exact (om_167 hw_109) | (omega)), ⟨(show (0 ≤ r_107.toInt ∧ r_107.toInt ≤ 1) from (by first | exact (om_164 hw_109) | (omega))), (show (0 ≤ ((u_2.2.2.2.1 0) : Int32).toInt ∧ ((u_2.2.2.2.1 0) : Int32).toInt ≤ 1600) from hw_6), (show ((-1) ≤ ((u_2.2.2.2.1 1) : Int32).toInt ∧ ((u_2.2.2.2.1 1) : Int32).toInt ≤ 255) from hw_7), (show (0 ≤ (x2 : Int32).toInt ∧ (x2 : Int32).toInt ≤ 1600) from h_x2), (show (0 ≤ (x4 : Int32).toInt ∧ (x4 : Int32).toInt ≤ 4) from h_x4), (show ((-1) ≤ (x5 : Int32).toInt ∧ (x5 : Int32).toInt ≤ 1600) from h_x5), (show (0 ≤ ((u_106.2.2.2.1 0) : Int32).toInt ∧ ((u_106.2.2.2.1 0) : Int32).toInt ≤ 1600) from hw_110), (show 0 ≤ x3.toInt ∧ x3.toInt ≤ 6 ∧ x3.toInt ≤ x3.toInt + 7 - 7 * r_107.toInt ∧ x3.toInt ≤ x3.toInt + 7 - 7 * r_107.toInt from (by first | exact (om_161 h_x3.1 h_x3.2 hw_109) | (omega))), (show prQ (taub f0 x6.toInt) 1 2 x0.toInt x1.toInt x3.toInt (u_2.2.2.2.1 0).toInt (u_2.2.2.2.1 1).toInt r_107.toInt x4.toInt x5.toInt from pr_six hw_8 (by first | exact (om_34 c_11) | (omega)) (Or.inl rfl) hg_sv (by first | exact (om_36 hw_109) | (omega))), (show x0.toInt ≤ (u_2.2.2.2.1 0).toInt + 1700 - 1700 * r_107.toInt from (by first | exact (om_169 hw_109 hw_10 hw_5.1) | (omega))), (show x4.toInt ≤ 4 - 4 * r_107.toInt ∧ x5.toInt ≤ 1600 - 1601 * r_107.toInt from (by first | exact (om_166 hw_109 hg__ff.1 hg__ff.2) | (omega)))⟩⟩ (g_psub (wc := (zS_0 cB cC cI cJ a0 a1 a2 (u_2.2.2.2.1 0) (u_2.2.2.2.1 1) x2 x3 x4 x5 a1 a3 x6 a3 f0 a2 a4 a5 a6 x7 x8 x9 x10 x11 x12 x13 a5 a7 a8 a9 a10 a11 (u_106.2.2.2.1 0) x15 a7 (u_106.2.1 0))) hP [0, 1, 2, 3, 4, 5] rfl) (hD.sub (ws' := (zS_0 cB cC cI cJ a0 a1 a2 (u_2.2.2.2.1 0) (u_2.2.2.2.1 1) x2 x3 x4 x5 a1 a3 x6 a3 f0 a2 a4 a5 a6 x7 x8 x9 x10 x11 x12 x13 a5 a7 a8 a9 a10 a11 (u_106.2.2.2.1 0) x15 a7 (u_106.2.1 0))) [0, 1, 2, 3, 4, 5] (by decide) rfl) hS
  ·
    refine lv_aload_n (pc := 9) hx hb dX4_readPart_9 rfl (lv_at hl 0 rfl) ?_
    refine gd_i (pc := 10) (wc := (zS_2 cB cC cI cJ a0 a1 a2 x0 x1 x2 x3 x4 x5)) hP hD hS hA [0] rfl (by decide +kernel) (fun _ => by rfl) (fun hPc hDc => va_runV (As := []) (rest := []) ⟨hx, hb, hml, hown, hts⟩ (k_X4_opens_6 l D cB cC cI cJ _ a0 a1 a2 x0 x1 x2 x3 x4 x5 h_x0 h_x1 h_x2 h_x3 h_x4 h_x5) ⟨gcwB hts tw_671 tw_2 tw_668 hd_yX4_opens ⟨Nat.le_of_ble_eq_true rfl, Nat.le_of_ble_eq_true rfl⟩, hts _ tw_670, hts _ tp_19⟩ ⟨gblind, va_recv hK hPc (ci := 4) (q0 := 0) rfl rfl, (gpreS hPc hK hDc hN).2⟩ rfl rfl hl.1 rfl (lv_room (Nat.le_of_ble_eq_true rfl)) dX4_readPart_10 ⟨Nat.le_of_ble_eq_true rfl, Nat.le_of_ble_eq_true rfl⟩) (fun r_112 u_111 H locs hw_113 hP hD hS => ?_)
    replace hP : va_P D gcl (zS_0 cB cC cI cJ a0 a1 a2 x0 x1 x2 x3 3 x0 a1 a3 x6 a3 f0 a2 a4 a5 a6 x7 x8 x9 x10 x11 x12 x13 a5 a7 a8 a9 a10 a11 x14 x15 a7 f1) H := hP
    replace hD : va_D A (zS_0 cB cC cI cJ a0 a1 a2 x0 x1 x2 x3 3 x0 a1 a3 x6 a3 f0 a2 a4 a5 a6 x7 x8 x9 x10 x11 x12 x13 a5 a7 a8 a9 a10 a11 x14 x15 a7 f1) := hD
    have hw_114 : (((0 ≤ r_112.toInt ∧ r_112.toInt ≤ 0) ∧ x3.toInt ≥ 6)) := hw_113
    have rr_112 := n_rng r_112
    refine b_if_eq (pc := 13) (tgt := 52) hx hb rfl  dX4_readPart_13 (by decide) (fun c_115 => ?_) (fun c_115 => absurd c_115 (by first | exact (om_51 hw_114.1.1 hw_114.1.2) | (omega)))
    refine lv_iconst (pc := 52) (v := 0) hx hb dX4_readPart_52 (by decide) ?_
    have k9 := tI_0
    have k8_0 := tI_3
    exact hret 0 ((fun _ => 0), (fun k => [f1].getD k (fun _ => 0)), (fun _ => (fun _ => 0)), (fun k => [x0, x1, x2, 3, x0, x14].getD k 0), (fun _ => 0)) dX4_readPart_53 ⟨(Or.inl tI_0), ⟨(show (0 ≤ (0 : Int32).toInt ∧ (0 : Int32).toInt ≤ 1) from (n_c tI_0 (by decide))), (show (0 ≤ (x0 : Int32).toInt ∧ (x0 : Int32).toInt ≤ 1600) from h_x0), (show ((-1) ≤ (x1 : Int32).toInt ∧ (x1 : Int32).toInt ≤ 255) from h_x1), (show (0 ≤ (x2 : Int32).toInt ∧ (x2 : Int32).toInt ≤ 1600) from h_x2), (show (0 ≤ (3 : Int32).toInt ∧ (3 : Int32).toInt ≤ 4) from (n_c tI_3 (by decide))), (show ((-1) ≤ (x0 : Int32).toInt ∧ (x0 : Int32).toInt ≤ 1600) from (by first | exact (om_52 h_x0.1 h_x0.2) | (have k9 := tI_0; have k8_0 := tI_3; omega))), (show (0 ≤ (x14 : Int32).toInt ∧ (x14 : Int32).toInt ≤ 1600) from h_x14), (show 0 ≤ x3.toInt ∧ x3.toInt ≤ 6 ∧ x3.toInt ≤ x3.toInt + 7 - 7 * (0 : Int32).toInt ∧ x3.toInt ≤ x3.toInt + 7 - 7 * (0 : Int32).toInt from (by first | exact (om_150 hw_114.2 h_x3.2 tI_0) | (have k9 := tI_0; have k8_0 := tI_3; omega))), (show prQ (taub f0 x6.toInt) 1 2 x0.toInt x1.toInt x3.toInt x0.toInt x1.toInt (0 : Int32).toInt (3 : Int32).toInt x0.toInt from pr_parF3 (by first | exact (om_151 c_1) | (omega)) (by first | exact (om_152 hw_114.2 h_x3.2) | (omega)) (by first | exact (om_31 tI_0) | (omega)) (by first | exact (om_153 tI_3) | (omega)) (by first | exact (om_53) | (omega))), (show x0.toInt ≤ x0.toInt + 1700 - 1700 * (0 : Int32).toInt from (by first | exact (om_154 tI_0) | (have k9 := tI_0; have k8_0 := tI_3; omega))), (show (3 : Int32).toInt ≤ 4 - 4 * (0 : Int32).toInt ∧ x0.toInt ≤ 1600 - 1601 * (0 : Int32).toInt from (by first | exact (om_155 tI_0 tI_3 h_x0.2) | (have k9 := tI_0; have k8_0 := tI_3; omega)))⟩⟩ (g_psub (wc := (zS_0 cB cC cI cJ a0 a1 a2 x0 x1 x2 x3 3 x0 a1 a3 x6 a3 f0 a2 a4 a5 a6 x7 x8 x9 x10 x11 x12 x13 a5 a7 a8 a9 a10 a11 x14 x15 a7 f1)) hP [0, 1, 2, 3, 4, 5] rfl) (hD.sub (ws' := (zS_0 cB cC cI cJ a0 a1 a2 x0 x1 x2 x3 3 x0 a1 a3 x6 a3 f0 a2 a4 a5 a6 x7 x8 x9 x10 x11 x12 x13 a5 a7 a8 a9 a10 a11 x14 x15 a7 f1)) [0, 1, 2, 3, 4, 5] (by decide) rfl) hS
