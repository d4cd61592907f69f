theorem om_1933 {a b c : Int} (h0 : (a = 0)) (h1 : (b < 0)) : ((a = 0 ∧ (b < 0 ∨ b > c) ∧ c = c) ∨ (a = 1 ∧ 0 ≤ b ∧ b ≤ c ∧ c = b)) := by omega
theorem om_1934 {a b c d : Int} (h0 : (a = 1)) (h1 : (b ≥ 0)) (h2 : (b ≤ d)) (h3 : (d = c)) : ((a = 0 ∧ (b < 0 ∨ b > c) ∧ b = c) ∨ (a = 1 ∧ 0 ≤ b ∧ b ≤ c ∧ b = b)) := by omega
theorem om_1935 {a b c d : Int} (h0 : (a = 0)) (h1 : (b > d)) (h2 : (d = c)) : ((a = 0 ∧ (b < 0 ∨ b > c) ∧ c = c) ∨ (a = 1 ∧ 0 ≤ b ∧ b ≤ c ∧ c = b)) := by omega
set_option maxHeartbeats 4000000 in
set_option maxRecDepth 100000 in
theorem k_X11_end_x (l : Launch) (D : va_G) (cB cC cI cJ : ClassId) (sz : Nat) (a0 a1 a2 a3 a4 a5 a6 a7 a8 a9 a10 a11 a12 a13 a14 : Nat) (x0 x1 x2 : Int32) (h_x1 : zBd x1.toInt 0 14) (h_x2 : zBd x2.toInt 0 1600) : Met l yX11_end (.code yX11_end cX11_end 2 (some .boolean) :: lw_gd) ({ frames := 1, cells := 0, slots := 0, locals := 21 }) (gPre D [(cB, .byte), (cC, .char), (cI, .int), (cJ, .long)] [.ref a0, .int x0] [(a0, .inr (11, [.ref a1, .ref a2, .ref a3, .ref a4, .ref a5, .ref a6, .ref a7, .ref a8, .ref a9, .ref a10, .int x1, .ref a11, .ref a12, .ref a13])), (a2, .inr (9, [.ref a14, .int x2]))] sz) (va_Qi (fun r u => (0 ≤ r.toInt ∧ r.toInt ≤ 1) ∧ (0 ≤ (u.2.2.2.1 0).toInt ∧ (u.2.2.2.1 0).toInt ≤ 1600) ∧ ((r.toInt = 0 ∧ (x0.toInt < 0 ∨ x0.toInt > x2.toInt) ∧ (u.2.2.2.1 0).toInt = x2.toInt) ∨ (r.toInt = 1 ∧ 0 ≤ x0.toInt ∧ x0.toInt ≤ x2.toInt ∧ (u.2.2.2.1 0).toInt = x0.toInt))) (gB D (va_A [(a0, .inr (11, [.ref a1, .ref a2, .ref a3, .ref a4, .ref a5, .ref a6, .ref a7, .ref a8, .ref a9, .ref a10, .int x1, .ref a11, .ref a12, .ref a13])), (a2, .inr (9, [.ref a14, .int x2]))] sz) (fun u : gEx => [(a0, .inr (11, [.ref a1, .ref a2, .ref a3, .ref a4, .ref a5, .ref a6, .ref a7, .ref a8, .ref a9, .ref a10, .int x1, .ref a11, .ref a12, .ref a13])), (a2, .inr (9, [.ref a14, .int (u.2.2.2.1 0)]))])) (va_A [(a0, .inr (11, [.ref a1, .ref a2, .ref a3, .ref a4, .ref a5, .ref a6, .ref a7, .ref a8, .ref a9, .ref a10, .int x1, .ref a11, .ref a12, .ref a13])), (a2, .inr (9, [.ref a14, .int x2]))] sz)) 0 0 (va_A [(a0, .inr (11, [.ref a1, .ref a2, .ref a3, .ref a4, .ref a5, .ref a6, .ref a7, .ref a8, .ref a9, .ref a10, .int x1, .ref a11, .ref a12, .ref a13])), (a2, .inr (9, [.ref a14, .int x2]))] sz) := by
  refine gOf_z (by decide +kernel) (Nat.le_of_ble_eq_true rfl) ?_
  intro p e s m args below meth c ls A Q hx hb hts hown hml hN hK hP hD hA hl hret
  replace hown : s.vm.findClass RX11 = some m.cls := hown
  have hS : va_S A s.heap s.heap [] := va_S.rf
  replace hP : va_P D gcl [(a0, .inr (11, [.ref a1, .ref a2, .ref a3, .ref a4, .ref a5, .ref a6, .ref a7, .ref a8, .ref a9, .ref a10, .int x1, .ref a11, .ref a12, .ref a13])), (a2, .inr (9, [.ref a14, .int x2]))] s.heap := hP
  replace hl : lv_has ls 2 [(0, .ref a0), (1, .int x0)] := hl
  have rx0 : zBd x0.toInt (-2147483648) 2147483647 := n_rng x0
  refine lv_iload_n (pc := 0) hx hb dX11_end_0 rfl (lv_at hl 1 rfl) ?_
  refine b_if_lt (pc := 1) (tgt := 15) hx hb rfl  dX11_end_1 (by decide) (fun c_1 => ?_) (fun c_1 => ?_)
  ·
    refine lv_iconst (pc := 15) (v := 0) hx hb dX11_end_15 (by decide) ?_
    have k9 := tI_0
    exact hret 0 ((fun _ => 0), (fun _ => (fun _ => 0)), (fun _ => (fun _ => 0)), (fun k => [x2].getD k 0), (fun _ => 0)) dX11_end_16 ⟨(Or.inl tI_0), ⟨(show (0 ≤ (0 : Int32).toInt ∧ (0 : Int32).toInt ≤ 1) from (n_c tI_0 (by decide))), (show (0 ≤ (x2 : Int32).toInt ∧ (x2 : Int32).toInt ≤ 1600) from h_x2), (show ((0 : Int32).toInt = 0 ∧ (x0.toInt < 0 ∨ x0.toInt > x2.toInt) ∧ x2.toInt = x2.toInt) ∨ ((0 : Int32).toInt = 1 ∧ 0 ≤ x0.toInt ∧ x0.toInt ≤ x2.toInt ∧ x2.toInt = x0.toInt) from (by first | exact (om_1933 tI_0 c_1) | (have k9 := tI_0; (first | omega | (unfold zBd at *; omega)))))⟩⟩ (g_psub (wc := [(a0, .inr (11, [.ref a1, .ref a2, .ref a3, .ref a4, .ref a5, .ref a6, .ref a7, .ref a8, .ref a9, .ref a10, .int x1, .ref a11, .ref a12, .ref a13])), (a2, .inr (9, [.ref a14, .int x2]))]) hP [0, 1] rfl) (hD.sub (ws' := [(a0, .inr (11, [.ref a1, .ref a2, .ref a3, .ref a4, .ref a5, .ref a6, .ref a7, .ref a8, .ref a9, .ref a10, .int x1, .ref a11, .ref a12, .ref a13])), (a2, .inr (9, [.ref a14, .int x2]))]) [0, 1] (by decide) rfl) hS
  ·
    refine lv_iload_n (pc := 4) hx hb dX11_end_4 rfl (lv_at hl 1 rfl) ?_
    refine lv_aload_n (pc := 5) hx hb dX11_end_5 rfl (lv_at hl 0 rfl) ?_
    refine va_get (pc := 6) (ci := 11) (v := .ref a2) (C := RX11) (T := TX11) (N := 14) hx hb hts iX11 hown hK hP 0 rfl rfl 1 (by decide) (hts _ tw_421) (fun _ h9 => h9) rfl dX11_end_6 ?_
    refine gd_i (pc := 9) (wc := [(a2, .inr (9, [.ref a14, .int x2]))]) hP hD hS hA [1] rfl (by decide +kernel) (fun _ => by rfl) (fun hPc hDc => va_runV (As := []) (rest := [.int x0]) ⟨hx, hb, hml, hown, hts⟩ (k_X9_length l D cB cC cI cJ _ a2 a14 x2 h_x2) ⟨gcwB hts tw_478 tw_3 tw_475 hd_yX9_length ⟨Nat.le_of_ble_eq_true rfl, Nat.le_of_ble_eq_true rfl⟩, hts _ tw_476, hts _ tw_477⟩ ⟨gblind, va_recv hK hPc (ci := 9) (q0 := 0) rfl rfl, (gpreS hPc hK hDc hN).2⟩ rfl rfl hl.1 rfl (lv_room (Nat.le_of_ble_eq_true rfl)) dX11_end_9 ⟨Nat.le_of_ble_eq_true rfl, Nat.le_of_ble_eq_true rfl⟩) (fun r_3 u_2 H locs hw_4 hP hD hS => ?_)
    replace hP : va_P D gcl [(a0, .inr (11, [.ref a1, .ref a2, .ref a3, .ref a4, .ref a5, .ref a6, .ref a7, .ref a8, .ref a9, .ref a10, .int x1, .ref a11, .ref a12, .ref a13])), (a2, .inr (9, [.ref a14, .int x2]))] H := hP
    replace hD : va_D A [(a0, .inr (11, [.ref a1, .ref a2, .ref a3, .ref a4, .ref a5, .ref a6, .ref a7, .ref a8, .ref a9, .ref a10, .int x1, .ref a11, .ref a12, .ref a13])), (a2, .inr (9, [.ref a14, .int x2]))] := hD
    have hw_5 : ((r_3.toInt = x2.toInt)) := hw_4
    have rr_3 : zBd r_3.toInt (-2147483648) 2147483647 := n_rng r_3
    refine b_icmp_le (pc := 12) (tgt := 17) hx hb rfl rfl  dX11_end_12 (by decide) (fun c_6 => ?_) (fun c_6 => ?_)
    ·
      refine lv_aload_n (pc := 17) hx hb dX11_end_17 rfl (lv_at hl 0 rfl) ?_
      refine va_get (pc := 18) (ci := 11) (v := .ref a2) (C := RX11) (T := TX11) (N := 14) hx hb hts iX11 hown hK hP 0 rfl rfl 1 (by decide) (hts _ tw_421) (fun _ h9 => h9) rfl dX11_end_18 ?_
      refine lv_iload_n (pc := 21) hx hb dX11_end_21 rfl (lv_at hl 1 rfl) ?_
      refine gd_v (pc := 22) (wc := [(a2, .inr (9, [.ref a14, .int x2]))]) hP hD hS hA [1] rfl (by decide +kernel) (fun _ => by rfl) (fun hPc hDc => va_runV (As := [.int x0]) (rest := []) ⟨hx, hb, hml, hown, hts⟩ (k_X9_cutTo l D cB cC cI cJ _ a2 a14 x0 x2 (by first | exact (om_1327 c_1 c_6 hw_5 h_x2.2) | ((first | omega | (unfold zBd at *; omega)))) h_x2) ⟨gcwB hts tw_486 tw_3 tw_483 hd_yX9_cutTo ⟨Nat.le_of_ble_eq_true rfl, Nat.le_of_ble_eq_true rfl⟩, hts _ tw_484, hts _ tw_485⟩ ⟨gblind, va_recv hK hPc (ci := 9) (q0 := 0) rfl rfl, (gpreS hPc hK hDc hN).2⟩ rfl rfl hl.1 rfl (lv_room (Nat.le_of_ble_eq_true rfl)) dX11_end_22 ⟨Nat.le_of_ble_eq_true rfl, Nat.le_of_ble_eq_true rfl⟩) (fun u_7 H locs hw_9 hP hD hS => ?_)
      replace hP : va_P D gcl [(a0, .inr (11, [.ref a1, .ref a2, .ref a3, .ref a4, .ref a5, .ref a6, .ref a7, .ref a8, .ref a9, .ref a10, .int x1, .ref a11, .ref a12, .ref a13])), (a2, .inr (9, [.ref a14, .int x0]))] H := hP
      replace hD : va_D A [(a0, .inr (11, [.ref a1, .ref a2, .ref a3, .ref a4, .ref a5, .ref a6, .ref a7, .ref a8, .ref a9, .ref a10, .int x1, .ref a11, .ref a12, .ref a13])), (a2, .inr (9, [.ref a14, .int x0]))] := hD
      refine lv_iconst (pc := 25) (v := 1) hx hb dX11_end_25 (by decide) ?_
      have k9 := tI_1
      exact hret 1 ((fun _ => 0), (fun _ => (fun _ => 0)), (fun _ => (fun _ => 0)), (fun k => [x0].getD k 0), (fun _ => 0)) dX11_end_26 ⟨(Or.inr tI_1), ⟨(show (0 ≤ (1 : Int32).toInt ∧ (1 : Int32).toInt ≤ 1) from (n_c tI_1 (by decide))), (show (0 ≤ (x0 : Int32).toInt ∧ (x0 : Int32).toInt ≤ 1600) from (by first | exact (om_1327 c_1 c_6 hw_5 h_x2.2) | (have k9 := tI_1; (first | omega | (unfold zBd at *; omega))))), (show ((1 : Int32).toInt = 0 ∧ (x0.toInt < 0 ∨ x0.toInt > x2.toInt) ∧ x0.toInt = x2.toInt) ∨ ((1 : Int32).toInt = 1 ∧ 0 ≤ x0.toInt ∧ x0.toInt ≤ x2.toInt ∧ x0.toInt = x0.toInt) from (by first | exact (om_1934 tI_1 c_1 c_6 hw_5) | (have k9 := tI_1; (first | omega | (unfold zBd at *; omega)))))⟩⟩ (g_psub (wc := [(a0, .inr (11, [.ref a1, .ref a2, .ref a3, .ref a4, .ref a5, .ref a6, .ref a7, .ref a8, .ref a9, .ref a10, .int x1, .ref a11, .ref a12, .ref a13])), (a2, .inr (9, [.ref a14, .int x0]))]) hP [0, 1] rfl) (hD.sub (ws' := [(a0, .inr (11, [.ref a1, .ref a2, .ref a3, .ref a4, .ref a5, .ref a6, .ref a7, .ref a8, .ref a9, .ref a10, .int x1, .ref a11, .ref a12, .ref a13])), (a2, .inr (9, [.ref a14, .int x0]))]) [0, 1] (by decide) rfl) hS
    ·
      refine lv_iconst (pc := 15) (v := 0) hx hb dX11_end_15 (by decide) ?_
      have k9 := tI_0
      exact hret 0 ((fun _ => 0), (fun _ => (fun _ => 0)), (fun _ => (fun _ => 0)), (fun k => [x2].getD k 0), (fun _ => 0)) dX11_end_16 ⟨(Or.inl tI_0), ⟨(show (0 ≤ (0 : Int32).toInt ∧ (0 : Int32).toInt ≤ 1) from (n_c tI_0 (by decide))), (show (0 ≤ (x2 : Int32).toInt ∧ (x2 : Int32).toInt ≤ 1600) from h_x2), (show ((0 : Int32).toInt = 0 ∧ (x0.toInt < 0 ∨ x0.toInt > x2.toInt) ∧ x2.toInt = x2.toInt) ∨ ((0 : Int32).toInt = 1 ∧ 0 ≤ x0.toInt ∧ x0.toInt ≤ x2.toInt ∧ x2.toInt = x0.toInt) from (by first | exact (om_1935 tI_0 c_6 hw_5) | (have k9 := tI_0; (first | omega | (unfold zBd at *; omega)))))⟩⟩ (g_psub (wc := [(a0, .inr (11, [.ref a1, .ref a2, .ref a3, .ref a4, .ref a5, .ref a6, .ref a7, .ref a8, .ref a9, .ref a10, .int x1, .ref a11, .ref a12, .ref a13])), (a2, .inr (9, [.ref a14, .int x2]))]) hP [0, 1] rfl) (hD.sub (ws' := [(a0, .inr (11, [.ref a1, .ref a2, .ref a3, .ref a4, .ref a5, .ref a6, .ref a7, .ref a8, .ref a9, .ref a10, .int x1, .ref a11, .ref a12, .ref a13])), (a2, .inr (9, [.ref a14, .int x2]))]) [0, 1] (by decide) rfl) hS
theorem om_1936 {a : Int} (h0 : ((-242) ≤ a)) (h1 : (a ≤ 242)) : (((-242) ≤ a ∧ a ≤ 242)) := by omega
theorem om_1937 {a : Int} (h0 : ((-242) ≤ a)) (h1 : (a ≤ 242)) : (-242 ≤ a ∧ a ≤ 242) := by omega
set_option maxHeartbeats 4000000 in
set_option maxRecDepth 100000 in
theorem k_X8_at_x (l : Launch) (D : va_G) (cB cC cI cJ : ClassId) (sz : Nat) (a0 a1 : Nat) (x0 x1 : Int32) (f0 : Nat → Int32) (hp1 : (0 ≤ x0.toInt ∧ x0.toInt ≤ 5)) (hp2 : (0 ≤ x1.toInt ∧ x1.toInt ≤ 4)) (hg_tb : TB f0 242) : Met l yX8_at (.code yX8_at cX8_at 3 (some .int) :: lw_gd) ({ frames := 0, cells := 0, slots := 0, locals := 0 }) (gPre D [(cB, .byte), (cC, .char), (cI, .int), (cJ, .long)] [.ref a0, .int x0, .int x1] [(a0, .inr (8, [.ref a1])), (a1, .inl (cI, 30, .inl f0))] sz) (va_Qi (fun r u => ((-242) ≤ r.toInt ∧ r.toInt ≤ 242) ∧ (r = f0 (6 * x1.toInt + x0.toInt).toNat) ∧ (-242 ≤ r.toInt ∧ r.toInt ≤ 242)) (gB D (va_A [(a0, .inr (8, [.ref a1])), (a1, .inl (cI, 30, .inl f0))] sz) (fun u : gEx => [(a0, .inr (8, [.ref a1])), (a1, .inl (cI, 30, .inl f0))])) (va_A [(a0, .inr (8, [.ref a1])), (a1, .inl (cI, 30, .inl f0))] sz)) 0 0 (va_A [(a0, .inr (8, [.ref a1])), (a1, .inl (cI, 30, .inl f0))] sz) := by
  refine gOf_i (by decide +kernel) (Nat.le_of_ble_eq_true rfl) ?_
  intro p e s m args below meth c ls A Q hx hb hts hown hml hN hK hP hD hA hl hret
  replace hown : s.vm.findClass RX8 = some m.cls := hown
  have hS : va_S A s.heap s.heap [] := va_S.rf
  replace hP : va_P D gcl [(a0, .inr (8, [.ref a1])), (a1, .inl (cI, 30, .inl f0))] s.heap := hP
  replace hl : lv_has ls 3 [(0, .ref a0), (1, .int x0), (2, .int x1)] := hl
  refine lv_aload_n (pc := 0) hx hb dX8_at_0 rfl (lv_at hl 0 rfl) ?_
  refine va_get (pc := 1) (ci := 8) (v := .ref a1) (C := RX8) (T := TX8) (N := 1) hx hb hts iX8 hown hK hP 0 rfl rfl 0 (by decide) (hts _ tw_62) (fun _ h9 => h9) rfl dX8_at_1 ?_
  refine lv_iload_n (pc := 4) hx hb dX8_at_4 rfl (lv_at hl 2 rfl) ?_
  refine lv_bipush (pc := 5) (v := 6) hx hb dX8_at_5 (by decide) ?_
  refine b_imul (pc := 7) hx hb rfl tI_6 (by first | exact (om_351 hp2.1) | ((first | omega | (unfold zBd at *; omega)))) (by first | exact (om_352 hp2.2) | ((first | omega | (unfold zBd at *; omega)))) dX8_at_7 (fun x_1 ex_1 => ?_)
  refine lv_iload_n (pc := 8) hx hb dX8_at_8 rfl (lv_at hl 1 rfl) ?_
  refine b_iadd (pc := 9) hx hb rfl rfl (by first | exact (om_353 ex_1 hp1.1 hp2.1) | ((first | omega | (unfold zBd at *; omega)))) (by first | exact (om_354 ex_1 hp1.2 hp2.2) | ((first | omega | (unfold zBd at *; omega)))) dX8_at_9 (fun x_2 ex_2 => ?_)
  refine va_iald (pc := 10) hx hb hK hP 1 2 rfl rfl (n_in rfl (by first | exact (om_355 ex_2 ex_1 hp1.1 hp2.1) | ((first | omega | (unfold zBd at *; omega)))) (by first | exact (om_356 ex_2 ex_1 hp1.2 hp2.2) | ((first | omega | (unfold zBd at *; omega))))) dX8_at_10 ?_
  refine lv_topi (fun x_3 ex_3 => ?_)
  have rx_3 : zBd x_3.toInt (-2147483648) 2147483647 := n_rng x_3
  replace ex_3 : x_3 = f0 (x_2.toInt).toNat := ex_3
  have tx_3 := congrArg Int32.toInt ex_3
  have rrx_3 : ((-242) ≤ x_3.toInt ∧ x_3.toInt ≤ 242) := (by rw [ex_3]; exact hg_tb _ (by (first | omega | (unfold zBd at *; omega))))
  exact hret x_3 ((fun _ => 0), (fun _ => (fun _ => 0)), (fun _ => (fun _ => 0)), (fun _ => 0), (fun _ => 0)) dX8_at_11 ⟨(show ((-242) ≤ x_3.toInt ∧ x_3.toInt ≤ 242) from (by first | exact (om_1936 rrx_3.1 rrx_3.2) | ((first | omega | (unfold zBd at *; omega))))), (show x_3 = f0 (6 * x1.toInt + x0.toInt).toNat from (e_ld ex_3 (by (first | omega | (unfold zBd at *; omega)))).symm), (show -242 ≤ x_3.toInt ∧ x_3.toInt ≤ 242 from (by first | exact (om_1937 rrx_3.1 rrx_3.2) | ((first | omega | (unfold zBd at *; omega)))))⟩ (g_psub (wc := [(a0, .inr (8, [.ref a1])), (a1, .inl (cI, 30, .inl f0))]) hP [0, 1] rfl) (hD.sub (ws' := [(a0, .inr (8, [.ref a1])), (a1, .inl (cI, 30, .inl f0))]) [0, 1] (by decide) rfl) hS
theorem om_1938 {a : Int} (h0 : (-242 ≤ a)) (h1 : (a ≤ 242)) : (-242 ≤ a ∧ a ≤ 242) := by omega
theorem om_1939 {a b : Int} (h0 : (-(242 * 242) ≤ a * b)) : (-2147483648 ≤ a * b) := by omega
theorem om_1940 {a b : Int} (h0 : (a * b ≤ 242 * 242)) : (a * b ≤ 2147483647) := by omega
theorem om_1941 {a b c : Int} (h0 : (a = b * c)) (h1 : (-(242 * 242) ≤ b * c)) (h2 : (b * c ≤ 242 * 242)) : (((-58564) ≤ a ∧ a ≤ 58564)) := by omega
theorem om_1942 {a b : Int} (h0 : ((-58564) ≤ b)) (h1 : ((-400000) ≤ a)) : (-2147483648 ≤ a + b) := by omega
theorem om_1943 {a b : Int} (h0 : (b ≤ 58564)) (h1 : (a ≤ 400000)) : (a + b ≤ 2147483647) := by omega
theorem om_1944 {a b c d : Int} (h0 : (a = b + c)) (h1 : ((-58564) ≤ c)) (h2 : (-58564 * d ≤ b)) (h3 : (d < 6)) (h4 : (c ≤ 58564)) (h5 : (b ≤ 58564 * d)) : (((-400000) ≤ a ∧ a ≤ 400000)) := by omega
theorem om_1945 {a b c d e : Int} (h0 : (a = b + e)) (h1 : (e = c * d)) : (a = b + c * d) := by omega
theorem om_1946 {a b c d e : Int} (h0 : (a = c + 1)) (h1 : (b = d + e)) (h2 : ((-58564) ≤ e)) (h3 : (-58564 * c ≤ d)) (h4 : (e ≤ 58564)) (h5 : (d ≤ 58564 * c)) : ((-58564 * a ≤ b ∧ b ≤ 58564 * a)) := by omega
set_option maxHeartbeats 4000000 in
set_option maxRecDepth 100000 in
theorem k_X8_productOf_x (l : Launch) (D : va_G) (cB cC cI cJ : ClassId) (sz : Nat) (a0 a1 : Nat) (x0 x1 : Int32) (f0 : Nat → Int32) (hp1 : (0 ≤ x0.toInt ∧ x0.toInt ≤ 4)) (hp2 : (0 ≤ x1.toInt ∧ x1.toInt ≤ 4)) (hg_tb : TB f0 242) : Met l yX8_productOf (.code yX8_productOf cX8_productOf 5 (some .int) :: lw_gd) ({ frames := 1, cells := 0, slots := 0, locals := 22 }) (gPre D [(cB, .byte), (cC, .char), (cI, .int), (cJ, .long)] [.ref a0, .int x0, .int x1] [(a0, .inr (8, [.ref a1])), (a1, .inl (cI, 30, .inl f0))] sz) (va_Qi (fun r u => ((-400000) ≤ r.toInt ∧ r.toInt ≤ 400000) ∧ (r.toInt = dtn f0 x0.toInt x1.toInt 6)) (gB D (va_A [(a0, .inr (8, [.ref a1])), (a1, .inl (cI, 30, .inl f0))] sz) (fun u : gEx => [(a0, .inr (8, [.ref a1])), (a1, .inl (cI, 30, .inl f0))])) (va_A [(a0, .inr (8, [.ref a1])), (a1, .inl (cI, 30, .inl f0))] sz)) 0 0 (va_A [(a0, .inr (8, [.ref a1])), (a1, .inl (cI, 30, .inl f0))] sz) := by
  refine gOf_i (by decide +kernel) (Nat.le_of_ble_eq_true rfl) ?_
  intro p e s m args below meth c ls A Q hx hb hts hown hml hN hK hP hD hA hl hret
  replace hown : s.vm.findClass RX8 = some m.cls := hown
  have hS : va_S A s.heap s.heap [] := va_S.rf
  replace hP : va_P D gcl [(a0, .inr (8, [.ref a1])), (a1, .inl (cI, 30, .inl f0))] s.heap := hP
  replace hl : lv_has ls 5 [(0, .ref a0), (1, .int x0), (2, .int x1)] := hl
  refine lv_iconst (pc := 0) (v := 0) hx hb dX8_productOf_0 (by decide) ?_
  refine lv_istore_n (pc := 1) (lv' := [(3, .int 0), (0, .ref a0), (1, .int x0), (2, .int x1)]) hx hb dX8_productOf_1 rfl hl (by decide) rfl (fun ls hl => ?_)
  refine lv_iconst (pc := 2) (v := 0) hx hb dX8_productOf_2 (by decide) ?_
  refine lv_istore (pc := 3) (lv' := [(4, .int 0), (3, .int 0), (0, .ref a0), (1, .int x0), (2, .int x1)]) hx hb dX8_productOf_3 hl (by decide) rfl (fun ls hl => ?_)
  have lp_7 : ∀ (n : Nat) (x_1 x_3 : Int32) (H : Heap) (locs : List Loc) (ls : Array Slot), (0 ≤ x_1.toInt ∧ x_1.toInt ≤ 6) → ((-400000) ≤ x_3.toInt ∧ x_3.toInt ≤ 400000) → (x_3.toInt = dtn f0 x0.toInt x1.toInt (x_1.toInt).toNat) → (-58564 * x_1.toInt ≤ x_3.toInt ∧ x_3.toInt ≤ 58564 * x_1.toInt) → (2147483647 - x_1.toInt).toNat < n → va_P D gcl [(a0, .inr (8, [.ref a1])), (a1, .inl (cI, 30, .inl f0))] H → va_D A [(a0, .inr (8, [.ref a1])), (a1, .inl (cI, 30, .inl f0))] → va_S A s.heap H locs → lv_has ls 5 [(4, .int x_1), (3, .int x_3), (0, .ref a0), (1, .int x0), (2, .int x1)] → W p l e ({ frames := 1, cells := 0, slots := 0, locals := 22 }) s m args below meth c H locs 0 0 Q (F0 m 5 ls []) := by
    intro n
    induction n with
    | zero => intro x_1 x_3 H locs ls hi_2 hi_4 hi_5 hi_6 hmu; exact absurd hmu (Nat.not_lt_zero _)
    | succ n ih_lp_7 =>
      intro x_1 x_3 H locs ls hi_2 hi_4 hi_5 hi_6 hmu_lp_7 hP hD hS hl
      refine lv_iload (pc := 5) hx hb dX8_productOf_5 (lv_at hl 0 rfl) ?_
      refine lv_bipush (pc := 7) (v := 6) hx hb dX8_productOf_7 (by decide) ?_
      refine b_icmp_ge (pc := 9) (tgt := 36) hx hb rfl tI_6  dX8_productOf_9 (by decide) (fun c_8 => ?_) (fun c_8 => ?_)
      ·
        refine lv_iload_n (pc := 36) hx hb dX8_productOf_36 rfl (lv_at hl 1 rfl) ?_
        exact hret x_3 ((fun _ => 0), (fun _ => (fun _ => 0)), (fun _ => (fun _ => 0)), (fun _ => 0), (fun _ => 0)) dX8_productOf_37 ⟨(show ((-400000) ≤ x_3.toInt ∧ x_3.toInt ≤ 400000) from hi_4), (show x_3.toInt = dtn f0 x0.toInt x1.toInt 6 from (by have e9 : x_1.toInt = 6 := (by (first | omega | (unfold zBd at *; omega))); have q9 := hi_5; rw [e9] at q9; exact q9))⟩ (g_psub (wc := [(a0, .inr (8, [.ref a1])), (a1, .inl (cI, 30, .inl f0))]) hP [0, 1] rfl) (hD.sub (ws' := [(a0, .inr (8, [.ref a1])), (a1, .inl (cI, 30, .inl f0))]) [0, 1] (by decide) rfl) hS
      ·
        refine lv_iload_n (pc := 12) hx hb dX8_productOf_12 rfl (lv_at hl 1 rfl) ?_
        refine lv_aload_n (pc := 13) hx hb dX8_productOf_13 rfl (lv_at hl 2 rfl) ?_
        refine lv_iload (pc := 14) hx hb dX8_productOf_14 (lv_at hl 0 rfl) ?_
        refine lv_iload_n (pc := 16) hx hb dX8_productOf_16 rfl (lv_at hl 3 rfl) ?_
        refine gd_i (pc := 17) (wc := [(a0, .inr (8, [.ref a1])), (a1, .inl (cI, 30, .inl f0))]) hP hD hS hA [0, 1] rfl (by decide +kernel) (fun _ => by rfl) (fun hPc hDc => va_runV (As := [.int x_1, .int x0]) (rest := [.int x_3]) ⟨hx, hb, hml, hown, hts⟩ (k_X8_at_x l D cB cC cI cJ _ a0 a1 x_1 x0 f0 (by first | exact (om_1019 hi_2.1 c_8) | ((first | omega | (unfold zBd at *; omega)))) hp1 (hg_tb)) ⟨gcwB hts tw_791 tw_5 tw_800 hd_yX8_at ⟨Nat.le_of_ble_eq_true rfl, Nat.le_of_ble_eq_true rfl⟩, hts _ tw_789, hts _ tw_790⟩ ⟨gblind, va_recv hK hPc (ci := 8) (q0 := 0) rfl rfl, (gpreS hPc hK hDc hN).2⟩ rfl rfl hl.1 rfl (lv_room (Nat.le_of_ble_eq_true rfl)) dX8_productOf_17 ⟨Nat.le_of_ble_eq_true rfl, Nat.le_of_ble_eq_true rfl⟩) (fun r_10 u_9 H locs hw_11 hP hD hS => ?_)
        replace hP : va_P D gcl [(a0, .inr (8, [.ref a1])), (a1, .inl (cI, 30, .inl f0))] H := hP
        replace hD : va_D A [(a0, .inr (8, [.ref a1])), (a1, .inl (cI, 30, .inl f0))] := hD
        obtain ⟨hw_12, hw_13, hw_14⟩ := hw_11
        replace hw_12 : ((-242) ≤ r_10.toInt ∧ r_10.toInt ≤ 242) := hw_12
        replace hw_13 : (r_10 = f0 (6 * x0.toInt + x_1.toInt).toNat) := hw_13
        replace hw_14 : (-242 ≤ r_10.toInt ∧ r_10.toInt ≤ 242) := hw_14
        have rr_10 : zBd r_10.toInt (-2147483648) 2147483647 := n_rng r_10
        refine lv_aload_n (pc := 20) hx hb dX8_productOf_20 rfl (lv_at hl 2 rfl) ?_
        refine lv_iload (pc := 21) hx hb dX8_productOf_21 (lv_at hl 0 rfl) ?_
        refine lv_iload_n (pc := 23) hx hb dX8_productOf_23 rfl (lv_at hl 4 rfl) ?_
        refine gd_i (pc := 24) (wc := [(a0, .inr (8, [.ref a1])), (a1, .inl (cI, 30, .inl f0))]) hP hD hS hA [0, 1] rfl (by decide +kernel) (fun _ => by rfl) (fun hPc hDc => va_runV (As := [.int x_1, .int x1]) (rest := [.int r_10, .int x_3]) ⟨hx, hb, hml, hown, hts⟩ (k_X8_at_x l D cB cC cI cJ _ a0 a1 x_1 x1 f0 (by first | exact (om_1019 hi_2.1 c_8) | ((first | omega | (unfold zBd at *; omega)))) hp2 (hg_tb)) ⟨gcwB hts tw_791 tw_5 tw_800 hd_yX8_at ⟨Nat.le_of_ble_eq_true rfl, Nat.le_of_ble_eq_true rfl⟩, hts _ tw_789, hts _ tw_790⟩ ⟨gblind, va_recv hK hPc (ci := 8) (q0 := 0) rfl rfl, (gpreS hPc hK hDc hN).2⟩ rfl rfl hl.1 rfl (lv_room (Nat.le_of_ble_eq_true rfl)) dX8_productOf_24 ⟨Nat.le_of_ble_eq_true rfl, Nat.le_of_ble_eq_true rfl⟩) (fun r_16 u_15 H locs hw_17 hP hD hS => ?_)
        replace hP : va_P D gcl [(a0, .inr (8, [.ref a1])), (a1, .inl (cI, 30, .inl f0))] H := hP
        replace hD : va_D A [(a0, .inr (8, [.ref a1])), (a1, .inl (cI, 30, .inl f0))] := hD
        obtain ⟨hw_18, hw_19, hw_20⟩ := hw_17
        replace hw_18 : ((-242) ≤ r_16.toInt ∧ r_16.toInt ≤ 242) := hw_18
        replace hw_19 : (r_16 = f0 (6 * x1.toInt + x_1.toInt).toNat) := hw_19
        replace hw_20 : (-242 ≤ r_16.toInt ∧ r_16.toInt ≤ 242) := hw_20
        have rr_16 : zBd r_16.toInt (-2147483648) 2147483647 := n_rng r_16
        have qx_21 := n_mulb (A := 242) (B := 242) (by decide) (by decide) (show -242 ≤ r_10.toInt ∧ r_10.toInt ≤ 242 from (by first | exact (om_1938 hw_14.1 hw_14.2) | ((first | omega | (unfold zBd at *; omega))))) (show -242 ≤ r_16.toInt ∧ r_16.toInt ≤ 242 from (by first | exact (om_1938 hw_20.1 hw_20.2) | ((first | omega | (unfold zBd at *; omega)))))
        refine b_imul (pc := 27) hx hb rfl rfl (by first | exact (om_1939 qx_21.1) | ((first | omega | (unfold zBd at *; omega)))) (by first | exact (om_1940 qx_21.2) | ((first | omega | (unfold zBd at *; omega)))) dX8_productOf_27 (fun x_21 ex_21 => ?_)
        have rx_21 : ((-58564) ≤ x_21.toInt ∧ x_21.toInt ≤ 58564) := (by first | exact (om_1941 ex_21 qx_21.1 qx_21.2) | ((first | omega | (unfold zBd at *; omega))))
        refine b_iadd (pc := 28) hx hb rfl rfl (by first | exact (om_1942 rx_21.1 hi_4.1) | ((first | omega | (unfold zBd at *; omega)))) (by first | exact (om_1943 rx_21.2 hi_4.2) | ((first | omega | (unfold zBd at *; omega)))) dX8_productOf_28 (fun x_22 ex_22 => ?_)
        refine lv_istore_n (pc := 29) (lv' := [(3, .int x_22), (4, .int x_1), (0, .ref a0), (1, .int x0), (2, .int x1)]) hx hb dX8_productOf_29 rfl hl (by decide) rfl (fun ls hl => ?_)
        refine b_iinc (pc := 30) hx hb dX8_productOf_30 hl (k := 1) rfl rfl tI_1 (by first | exact (om_2 hi_2.1) | ((first | omega | (unfold zBd at *; omega)))) (by first | exact (om_136 c_8) | ((first | omega | (unfold zBd at *; omega)))) (by decide) (fun x_23 ex_23 ls hl => ?_)
        replace hl : lv_has ls 5 [(4, .int x_23), (3, .int x_22), (0, .ref a0), (1, .int x0), (2, .int x1)] := hl
        refine lv_goto (pc := 33) (tgt := 5) hx hb dX8_productOf_33 (by decide) ?_
        exact ih_lp_7 x_23 x_22 _ _ ls (by first | exact (om_574 ex_23 hi_2.1 c_8) | ((first | omega | (unfold zBd at *; omega)))) (by first | exact (om_1944 ex_22 rx_21.1 hi_6.1 c_8 rx_21.2 hi_6.2) | ((first | omega | (unfold zBd at *; omega)))) (dtn_step hi_5 hw_13 hw_19 (by first | exact (om_0 hi_2.1) | ((first | omega | (unfold zBd at *; omega)))) (by first | exact (om_1945 ex_22 ex_21) | ((first | omega | (unfold zBd at *; omega)))) (by first | exact (om_5 ex_23) | ((first | omega | (unfold zBd at *; omega))))) (by first | exact (om_1946 ex_23 ex_22 rx_21.1 hi_6.1 rx_21.2 hi_6.2) | ((first | omega | (unfold zBd at *; omega)))) (by (first | omega | (unfold zBd at *; omega))) hP hD hS (lv_sub hl [0, 1, 2, 3, 4] rfl)
  exact lp_7 _ 0 0 _ _ ls (n_c tI_0 (by decide)) (n_c tI_0 (by decide)) (tI_0) (by have q := tI_0; (first | omega | (unfold zBd at *; omega))) (Nat.lt_succ_self _) hP hD hS (lv_sub hl [0, 1, 2, 3, 4] rfl)
theorem om_1947 {a b : Int} (h0 : ((0 ≤ b ∧ a = b) ∨ (b < 0 ∧ ¬ b = -2147483648 ∧ a = -b) ∨ (b = -2147483648 ∧ a = -2147483648))) (h1 : ((-400000) ≤ b)) (h2 : ((-2147483648) ≤ b)) (h3 : (b ≤ 400000)) : (-2147483648 ≤ 2 * a) := by omega
theorem om_1948 {a b : Int} (h0 : ((0 ≤ b ∧ a = b) ∨ (b < 0 ∧ ¬ b = -2147483648 ∧ a = -b) ∨ (b = -2147483648 ∧ a = -2147483648))) (h1 : (b ≤ 400000)) (h2 : ((-2147483648) ≤ b)) (h3 : ((-400000) ≤ b)) : (2 * a ≤ 2147483647) := by omega
theorem om_1949 {a b c d : Int} (h0 : ((0 ≤ c ∧ d = c) ∨ (c < 0 ∧ ¬ c = -2147483648 ∧ d = -c) ∨ (c = -2147483648 ∧ d = -2147483648))) (h1 : (a = 2 * d)) (h2 : (0 ≤ b)) (h3 : ((-400000) ≤ c)) (h4 : ((-2147483648) ≤ c)) (h5 : (c ≤ 400000)) : (-2147483648 ≤ a + b) := by omega
theorem om_1950 {a b c d : Int} (h0 : ((0 ≤ c ∧ d = c) ∨ (c < 0 ∧ ¬ c = -2147483648 ∧ d = -c) ∨ (c = -2147483648 ∧ d = -2147483648))) (h1 : (a = 2 * d)) (h2 : (b ≤ 400000)) (h3 : (c ≤ 400000)) (h4 : ((-2147483648) ≤ c)) (h5 : ((-400000) ≤ c)) : (a + b ≤ 2147483647) := by omega
theorem om_1951 {a b c d e : Int} (h0 : ((0 ≤ b ∧ c = b) ∨ (b < 0 ∧ ¬ b = -2147483648 ∧ c = -b) ∨ (b = -2147483648 ∧ c = -2147483648))) (h1 : (a = d + e)) (h2 : (d = 2 * c)) (h3 : (0 ≤ e)) (h4 : ((-400000) ≤ b)) (h5 : ((-2147483648) ≤ b)) (h6 : (b ≤ 400000)) : (-2147483648 ≤ a - 1) := by omega
theorem om_1952 {a b c d e : Int} (h0 : ((0 ≤ b ∧ c = b) ∨ (b < 0 ∧ ¬ b = -2147483648 ∧ c = -b) ∨ (b = -2147483648 ∧ c = -2147483648))) (h1 : (a = d + e)) (h2 : (d = 2 * c)) (h3 : (e ≤ 400000)) (h4 : (b ≤ 400000)) (h5 : ((-2147483648) ≤ b)) (h6 : ((-400000) ≤ b)) : (a - 1 ≤ 2147483647) := by omega
theorem om_1953 {a : Int} (h0 : (a ≤ 400000)) : (2 * a ≤ 2147483647) := by omega
theorem om_1954 {a b : Int} (h0 : (¬ b = 0)) (h1 : (0 ≤ b)) (h2 : (a = 2 * b)) : (0 < a) := by omega
theorem om_1955 {a b c d e f : Int} (h0 : (¬ b = 0)) (h1 : ((0 ≤ c ∧ d = c) ∨ (c < 0 ∧ ¬ c = -2147483648 ∧ d = -c) ∨ (c = -2147483648 ∧ d = -2147483648))) (h2 : (0 ≤ b)) (h3 : ((-400000) ≤ c)) (h4 : (a = e - 1)) (h5 : (e = f + b)) (h6 : (f = 2 * d)) (h7 : ((-2147483648) ≤ c)) : (0 ≤ a) := by omega
theorem om_1956 {a b c d e f g : Int} (h0 : (0 ≤ a)) (h1 : ((0 ≤ b ∧ c = b) ∨ (b < 0 ∧ ¬ b = -2147483648 ∧ c = -b) ∨ (b = -2147483648 ∧ c = -2147483648))) (h2 : (a ≤ d)) (h3 : (d = e - 1)) (h4 : (e = f + g)) (h5 : (f = 2 * c)) (h6 : (g ≤ 400000)) (h7 : (b ≤ 400000)) (h8 : (b ≥ 0)) : (((-1199999) ≤ a ∧ a ≤ 1199999)) := by omega
set_option maxHeartbeats 4000000 in
set_option maxRecDepth 100000 in
theorem k_X2_timesIn (l : Launch) (D : va_G) (cB cC cI cJ : ClassId) (sz : Nat) (a0 a1 a2 a3 a4 : Nat) (x0 x1 x2 x3 x4 x5 x6 : Int32) (f0 : Nat → Int32) (hp1 : (0 ≤ x0.toInt ∧ x0.toInt ≤ 4)) (hp2 : (0 ≤ x1.toInt ∧ x1.toInt ≤ 4)) (h_x2 : zBd x2.toInt (-1) 5) (h_x3 : zBd x3.toInt 0 39) (h_x4 : zBd x4.toInt 0 40) (h_x5 : zBd x5.toInt 0 40) (hr_a0_0 : (x4.toInt + x5.toInt ≤ 40)) (hg_sh : SH f0) : Met l yX2_timesIn (.code yX2_timesIn cX2_timesIn 6 (some .int) :: lw_gd) ({ frames := 2, cells := 0, slots := 0, locals := 46 }) (gPre D [(cB, .byte), (cC, .char), (cI, .int), (cJ, .long)] [.ref a0, .int x0, .int x1] [(a0, .inr (2, [.ref a1, .ref a2, .ref a3, .int x2, .int x3, .int x4, .int x5, .int x6])), (a1, .inr (8, [.ref a4])), (a4, .inl (cI, 30, .inl f0))] sz) (va_Qi (fun r u => ((-1199999) ≤ r.toInt ∧ r.toInt ≤ 1199999) ∧ (tmQ (dtn f0 x0.toInt x1.toInt 6) (dtn f0 x1.toInt x1.toInt 6) r.toInt) ∧ (xtQ f0 x0.toInt x1.toInt r)) (gB D (va_A [(a0, .inr (2, [.ref a1, .ref a2, .ref a3, .int x2, .int x3, .int x4, .int x5, .int x6])), (a1, .inr (8, [.ref a4])), (a4, .inl (cI, 30, .inl f0))] sz) (fun u : gEx => [(a0, .inr (2, [.ref a1, .ref a2, .ref a3, .int x2, .int x3, .int x4, .int x5, .int x6])), (a1, .inr (8, [.ref a4])), (a4, .inl (cI, 30, .inl f0))])) (va_A [(a0, .inr (2, [.ref a1, .ref a2, .ref a3, .int x2, .int x3, .int x4, .int x5, .int x6])), (a1, .inr (8, [.ref a4])), (a4, .inl (cI, 30, .inl f0))] sz)) 0 0 (va_A [(a0, .inr (2, [.ref a1, .ref a2, .ref a3, .int x2, .int x3, .int x4, .int x5, .int x6])), (a1, .inr (8, [.ref a4])), (a4, .inl (cI, 30, .inl f0))] sz) := by
  refine gOf_i (by decide +kernel) (Nat.le_of_ble_eq_true rfl) ?_
  intro p e s m args below meth c ls A Q hx hb hts hown hml hN hK hP hD hA hl hret
  replace hown : s.vm.findClass RX2 = some m.cls := hown
  have hS : va_S A s.heap s.heap [] := va_S.rf
  replace hP : va_P D gcl [(a0, .inr (2, [.ref a1, .ref a2, .ref a3, .int x2, .int x3, .int x4, .int x5, .int x6])), (a1, .inr (8, [.ref a4])), (a4, .inl (cI, 30, .inl f0))] s.heap := hP
  replace hl : lv_has ls 6 [(0, .ref a0), (1, .int x0), (2, .int x1)] := hl
  have rx6 : zBd x6.toInt (-2147483648) 2147483647 := n_rng x6
  refine lv_aload_n (pc := 0) hx hb dX2_timesIn_0 rfl (lv_at hl 0 rfl) ?_
  refine va_get (pc := 1) (ci := 2) (v := .ref a1) (C := RX2) (T := TX2) (N := 8) hx hb hts iX2 hown hK hP 0 rfl rfl 0 (by decide) (hts _ tw_391) (fun _ h9 => h9) rfl dX2_timesIn_1 ?_
  refine lv_iload_n (pc := 4) hx hb dX2_timesIn_4 rfl (lv_at hl 2 rfl) ?_
  refine lv_iload_n (pc := 5) hx hb dX2_timesIn_5 rfl (lv_at hl 2 rfl) ?_
  refine gd_i (pc := 6) (wc := [(a1, .inr (8, [.ref a4])), (a4, .inl (cI, 30, .inl f0))]) hP hD hS hA [1, 2] rfl (by decide +kernel) (fun _ => by rfl) (fun hPc hDc => va_runV (As := [.int x1, .int x1]) (rest := []) ⟨hx, hb, hml, hown, hts⟩ (k_X8_productOf_x l D cB cC cI cJ _ a1 a4 x1 x1 f0 hp2 hp2 (SH_TB hg_sh)) ⟨gcwB hts tw_799 tw_5 tw_1048 hd_yX8_productOf ⟨Nat.le_of_ble_eq_true rfl, Nat.le_of_ble_eq_true rfl⟩, hts _ tw_797, hts _ tw_798⟩ ⟨gblind, va_recv hK hPc (ci := 8) (q0 := 0) rfl rfl, (gpreS hPc hK hDc hN).2⟩ rfl rfl hl.1 rfl (lv_room (Nat.le_of_ble_eq_true rfl)) dX2_timesIn_6 ⟨Nat.le_of_ble_eq_true rfl, Nat.le_of_ble_eq_true rfl⟩) (fun r_2 u_1 H locs hw_3 hP hD hS => ?_)
  replace hP : va_P D gcl [(a0, .inr (2, [.ref a1, .ref a2, .ref a3, .int x2, .int x3, .int x4, .int x5, .int x6])), (a1, .inr (8, [.ref a4])), (a4, .inl (cI, 30, .inl f0))] H := hP
  replace hD : va_D A [(a0, .inr (2, [.ref a1, .ref a2, .ref a3, .int x2, .int x3, .int x4, .int x5, .int x6])), (a1, .inr (8, [.ref a4])), (a4, .inl (cI, 30, .inl f0))] := hD
  obtain ⟨hw_4, hw_5⟩ := hw_3
  replace hw_4 : ((-400000) ≤ r_2.toInt ∧ r_2.toInt ≤ 400000) := hw_4
  replace hw_5 : (r_2.toInt = dtn f0 x1.toInt x1.toInt 6) := hw_5
  have rr_2 : zBd r_2.toInt (-2147483648) 2147483647 := n_rng r_2
  have hh_6 : 0 ≤ r_2.toInt := (by have q := hw_5; have q2 := dtn_nn (f := f0) (a := x1.toInt) 6; (first | omega | (unfold zBd at *; omega)))
  refine lv_istore_n (pc := 9) (lv' := [(3, .int r_2), (0, .ref a0), (1, .int x0), (2, .int x1)]) hx hb dX2_timesIn_9 rfl hl (by decide) rfl (fun ls hl => ?_)
  refine lv_iload_n (pc := 10) hx hb dX2_timesIn_10 rfl (lv_at hl 0 rfl) ?_
  refine b_if_ne (pc := 11) (tgt := 16) hx hb rfl  dX2_timesIn_11 (by decide) (fun c_7 => ?_) (fun c_7 => ?_)
  ·
    refine lv_aload_n (pc := 16) hx hb dX2_timesIn_16 rfl (lv_at hl 1 rfl) ?_
    refine va_get (pc := 17) (ci := 2) (v := .ref a1) (C := RX2) (T := TX2) (N := 8) hx hb hts iX2 hown hK hP 0 rfl rfl 0 (by decide) (hts _ tw_391) (fun _ h9 => h9) rfl dX2_timesIn_17 ?_
    refine lv_iload_n (pc := 20) hx hb dX2_timesIn_20 rfl (lv_at hl 2 rfl) ?_
    refine lv_iload_n (pc := 21) hx hb dX2_timesIn_21 rfl (lv_at hl 3 rfl) ?_
    refine gd_i (pc := 22) (wc := [(a1, .inr (8, [.ref a4])), (a4, .inl (cI, 30, .inl f0))]) hP hD hS hA [1, 2] rfl (by decide +kernel) (fun _ => by rfl) (fun hPc hDc => va_runV (As := [.int x0, .int x1]) (rest := []) ⟨hx, hb, hml, hown, hts⟩ (k_X8_productOf_x l D cB cC cI cJ _ a1 a4 x0 x1 f0 hp1 hp2 (SH_TB hg_sh)) ⟨gcwB hts tw_799 tw_5 tw_1048 hd_yX8_productOf ⟨Nat.le_of_ble_eq_true rfl, Nat.le_of_ble_eq_true rfl⟩, hts _ tw_797, hts _ tw_798⟩ ⟨gblind, va_recv hK hPc (ci := 8) (q0 := 0) rfl rfl, (gpreS hPc hK hDc hN).2⟩ rfl rfl hl.1 rfl (lv_room (Nat.le_of_ble_eq_true rfl)) dX2_timesIn_22 ⟨Nat.le_of_ble_eq_true rfl, Nat.le_of_ble_eq_true rfl⟩) (fun r_9 u_8 H locs hw_10 hP hD hS => ?_)
    replace hP : va_P D gcl [(a0, .inr (2, [.ref a1, .ref a2, .ref a3, .int x2, .int x3, .int x4, .int x5, .int x6])), (a1, .inr (8, [.ref a4])), (a4, .inl (cI, 30, .inl f0))] H := hP
    replace hD : va_D A [(a0, .inr (2, [.ref a1, .ref a2, .ref a3, .int x2, .int x3, .int x4, .int x5, .int x6])), (a1, .inr (8, [.ref a4])), (a4, .inl (cI, 30, .inl f0))] := hD
    obtain ⟨hw_11, hw_12⟩ := hw_10
    replace hw_11 : ((-400000) ≤ r_9.toInt ∧ r_9.toInt ≤ 400000) := hw_11
    replace hw_12 : (r_9.toInt = dtn f0 x0.toInt x1.toInt 6) := hw_12
    have rr_9 : zBd r_9.toInt (-2147483648) 2147483647 := n_rng r_9
    refine lv_istore (pc := 25) (lv' := [(4, .int r_9), (3, .int r_2), (0, .ref a0), (1, .int x0), (2, .int x1)]) hx hb dX2_timesIn_25 hl (by decide) rfl (fun ls hl => ?_)
    refine lv_iconst (pc := 27) (v := 2) hx hb dX2_timesIn_27 (by decide) ?_
    refine lv_iload (pc := 28) hx hb dX2_timesIn_28 (lv_at hl 0 rfl) ?_
    refine va_mabs (pc := 30) hx hb (hml.trans hl.1.symm) hown (hts _ tw_1049) (hts _ tw_632) (hts _ tw_19) (hts _ tw_633) (Nat.le_of_ble_eq_true rfl) (Nat.le_of_ble_eq_true rfl) (Nat.le_of_ble_eq_true rfl) (Nat.le_of_ble_eq_true rfl) dX2_timesIn_30 ?_
    refine lv_topi (fun x_13 ex_13 => ?_)
    have ex_13 := n_abs rfl ex_13
    have rx_13 : zBd x_13.toInt (-2147483648) 2147483647 := n_rng x_13
    refine b_imul (pc := 33) hx hb tI_2 rfl (by first | exact (om_1947 ex_13 hw_11.1 rr_9.1 hw_11.2) | ((first | omega | (unfold zBd at *; omega)))) (by first | exact (om_1948 ex_13 hw_11.2 rr_9.1 hw_11.1) | ((first | omega | (unfold zBd at *; omega)))) dX2_timesIn_33 (fun x_14 ex_14 => ?_)
    refine lv_iload_n (pc := 34) hx hb dX2_timesIn_34 rfl (lv_at hl 1 rfl) ?_
    refine b_iadd (pc := 35) hx hb rfl rfl (by first | exact (om_1949 ex_13 ex_14 hh_6 hw_11.1 rr_9.1 hw_11.2) | ((first | omega | (unfold zBd at *; omega)))) (by first | exact (om_1950 ex_13 ex_14 hw_4.2 hw_11.2 rr_9.1 hw_11.1) | ((first | omega | (unfold zBd at *; omega)))) dX2_timesIn_35 (fun x_15 ex_15 => ?_)
    refine lv_iconst (pc := 36) (v := 1) hx hb dX2_timesIn_36 (by decide) ?_
    refine b_isub (pc := 37) hx hb rfl tI_1 (by first | exact (om_1951 ex_13 ex_15 ex_14 hh_6 hw_11.1 rr_9.1 hw_11.2) | ((first | omega | (unfold zBd at *; omega)))) (by first | exact (om_1952 ex_13 ex_15 ex_14 hw_4.2 hw_11.2 rr_9.1 hw_11.1) | ((first | omega | (unfold zBd at *; omega)))) dX2_timesIn_37 (fun x_16 ex_16 => ?_)
    refine lv_iconst (pc := 38) (v := 2) hx hb dX2_timesIn_38 (by decide) ?_
    refine lv_iload_n (pc := 39) hx hb dX2_timesIn_39 rfl (lv_at hl 1 rfl) ?_
    refine b_imul (pc := 40) hx hb tI_2 rfl (by first | exact (om_1338 hh_6) | ((first | omega | (unfold zBd at *; omega)))) (by first | exact (om_1953 hw_4.2) | ((first | omega | (unfold zBd at *; omega)))) dX2_timesIn_40 (fun x_17 ex_17 => ?_)
    refine b_idiv (pc := 41) hx hb rfl rfl (by first | exact (om_1954 c_7 hh_6 ex_17) | ((first | omega | (unfold zBd at *; omega)))) (by first | exact (om_1955 c_7 ex_13 hh_6 hw_11.1 ex_16 ex_15 ex_14 rr_9.1) | ((first | omega | (unfold zBd at *; omega)))) dX2_timesIn_41 (fun x_18 ex_18 => ?_)
    refine lv_istore (pc := 42) (lv' := [(5, .int x_18), (4, .int r_9), (3, .int r_2), (0, .ref a0), (1, .int x0), (2, .int x1)]) hx hb dX2_timesIn_42 hl (by decide) rfl (fun ls hl => ?_)
    refine lv_iload (pc := 44) hx hb dX2_timesIn_44 (lv_at hl 1 rfl) ?_
    refine b_if_ge (pc := 46) (tgt := 55) hx hb rfl  dX2_timesIn_46 (by decide) (fun c_19 => ?_) (fun c_19 => ?_)
    ·
      refine lv_iload (pc := 55) hx hb dX2_timesIn_55 (lv_at hl 0 rfl) ?_
      exact hret x_18 ((fun _ => 0), (fun _ => (fun _ => 0)), (fun _ => (fun _ => 0)), (fun _ => 0), (fun _ => 0)) dX2_timesIn_57 ⟨(show ((-1199999) ≤ x_18.toInt ∧ x_18.toInt ≤ 1199999) from (by first | exact (om_1956 ex_18.1 ex_13 ex_18.2.1 ex_16 ex_15 ex_14 hw_4.2 hw_11.2 c_19) | ((first | omega | (unfold zBd at *; omega))))), (show tmQ (dtn f0 x0.toInt x1.toInt 6) (dtn f0 x1.toInt x1.toInt 6) x_18.toInt from tm_ok (P := x_13.toInt) (m := x_18.toInt) (y := x_17.toInt) (by (first | omega | (unfold zBd at *; omega))) (by (first | omega | (unfold zBd at *; omega))) (by (first | omega | (unfold zBd at *; omega))) (by (first | omega | (unfold zBd at *; omega))) (by (first | omega | (unfold zBd at *; omega))) (by (first | omega | (unfold zBd at *; omega))) (by (first | omega | (unfold zBd at *; omega)))), (show xtQ f0 x0.toInt x1.toInt x_18 from xt_ok hg_sh hw_5 hw_12 (P := x_13.toInt) (m := x_18.toInt) (y := x_17.toInt) (by (first | omega | (unfold zBd at *; omega))) (by (first | omega | (unfold zBd at *; omega))) (by (first | omega | (unfold zBd at *; omega))) (by (first | omega | (unfold zBd at *; omega))) (by (first | omega | (unfold zBd at *; omega))) (by (first | omega | (unfold zBd at *; omega))) (by (first | omega | (unfold zBd at *; omega))) (by (first | omega | (unfold zBd at *; omega))))⟩ (g_psub (wc := [(a0, .inr (2, [.ref a1, .ref a2, .ref a3, .int x2, .int x3, .int x4, .int x5, .int x6])), (a1, .inr (8, [.ref a4])), (a4, .inl (cI, 30, .inl f0))]) hP [0, 1, 2] rfl) (hD.sub (ws' := [(a0, .inr (2, [.ref a1, .ref a2, .ref a3, .int x2, .int x3, .int x4, .int x5, .int x6])), (a1, .inr (8, [.ref a4])), (a4, .inl (cI, 30, .inl f0))]) [0, 1, 2] (by decide) rfl) hS
    ·
      refine lv_iload (pc := 49) hx hb dX2_timesIn_49 (lv_at hl 0 rfl) ?_
      refine b_ineg (pc := 51) hx hb rfl (by first | exact (om_934 ex_18.1) | ((first | omega | (unfold zBd at *; omega)))) dX2_timesIn_51 (fun x_20 ex_20 => ?_)
      refine lv_goto (pc := 52) (tgt := 57) hx hb dX2_timesIn_52 (by decide) ?_
      exact hret x_20 ((fun _ => 0), (fun _ => (fun _ => 0)), (fun _ => (fun _ => 0)), (fun _ => 0), (fun _ => 0)) dX2_timesIn_57 ⟨(show ((-1199999) ≤ x_20.toInt ∧ x_20.toInt ≤ 1199999) from (by (first | omega | (unfold zBd at *; omega)))), (show tmQ (dtn f0 x0.toInt x1.toInt 6) (dtn f0 x1.toInt x1.toInt 6) x_20.toInt from tm_ok (P := x_13.toInt) (m := x_18.toInt) (y := x_17.toInt) (by (first | omega | (unfold zBd at *; omega))) (by (first | omega | (unfold zBd at *; omega))) (by (first | omega | (unfold zBd at *; omega))) (by (first | omega | (unfold zBd at *; omega))) (by (first | omega | (unfold zBd at *; omega))) (by (first | omega | (unfold zBd at *; omega))) (by (first | omega | (unfold zBd at *; omega)))), (show xtQ f0 x0.toInt x1.toInt x_20 from xt_ok hg_sh hw_5 hw_12 (P := x_13.toInt) (m := x_18.toInt) (y := x_17.toInt) (by (first | omega | (unfold zBd at *; omega))) (by (first | omega | (unfold zBd at *; omega))) (by (first | omega | (unfold zBd at *; omega))) (by (first | omega | (unfold zBd at *; omega))) (by (first | omega | (unfold zBd at *; omega))) (by (first | omega | (unfold zBd at *; omega))) (by (first | omega | (unfold zBd at *; omega))) (by (first | omega | (unfold zBd at *; omega))))⟩ (g_psub (wc := [(a0, .inr (2, [.ref a1, .ref a2, .ref a3, .int x2, .int x3, .int x4, .int x5, .int x6])), (a1, .inr (8, [.ref a4])), (a4, .inl (cI, 30, .inl f0))]) hP [0, 1, 2] rfl) (hD.sub (ws' := [(a0, .inr (2, [.ref a1, .ref a2, .ref a3, .int x2, .int x3, .int x4, .int x5, .int x6])), (a1, .inr (8, [.ref a4])), (a4, .inl (cI, 30, .inl f0))]) [0, 1, 2] (by decide) rfl) hS
  ·
    refine lv_iconst (pc := 14) (v := 0) hx hb dX2_timesIn_14 (by decide) ?_
    have k9 := tI_0
    exact hret 0 ((fun _ => 0), (fun _ => (fun _ => 0)), (fun _ => (fun _ => 0)), (fun _ => 0), (fun _ => 0)) dX2_timesIn_15 ⟨(show ((-1199999) ≤ (0 : Int32).toInt ∧ (0 : Int32).toInt ≤ 1199999) from (n_c tI_0 (by decide))), (show tmQ (dtn f0 x0.toInt x1.toInt 6) (dtn f0 x1.toInt x1.toInt 6) (0 : Int32).toInt from tm_0 (by first | exact (om_31 tI_0) | ((first | omega | (unfold zBd at *; omega))))), (show xtQ f0 x0.toInt x1.toInt 0 from xt_0 hg_sh hw_5 (by first | exact (om_1695 hp2.1 hp2.2) | ((first | omega | (unfold zBd at *; omega)))) (by first | exact (om_31 c_7) | ((first | omega | (unfold zBd at *; omega)))) tI_0)⟩ (g_psub (wc := [(a0, .inr (2, [.ref a1, .ref a2, .ref a3, .int x2, .int x3, .int x4, .int x5, .int x6])), (a1, .inr (8, [.ref a4])), (a4, .inl (cI, 30, .inl f0))]) hP [0, 1, 2] rfl) (hD.sub (ws' := [(a0, .inr (2, [.ref a1, .ref a2, .ref a3, .int x2, .int x3, .int x4, .int x5, .int x6])), (a1, .inr (8, [.ref a4])), (a4, .inl (cI, 30, .inl f0))]) [0, 1, 2] (by decide) rfl) hS
theorem om_1957 {a : Int} (h0 : (a ≤ 117)) : (a < (120 : Nat)) := by omega
theorem om_1958 {a : Int} (h0 : (a ≤ 117)) : (a + 1 ≤ 2147483647) := by omega
theorem om_1959 {a b : Int} (h0 : (a = b + 1)) (h1 : (b ≤ 117)) : (a < (120 : Nat)) := by omega
theorem om_1960 {a : Int} (h0 : ((-2147483648) ≤ a)) : (-2147483648 ≤ a + 2) := by omega
theorem om_1961 {a : Int} (h0 : (a ≤ 117)) : (a + 2 ≤ 2147483647) := by omega
theorem om_1962 {a b : Int} (h0 : (a = b + 2)) (h1 : (0 ≤ b)) : (0 ≤ a) := by omega
theorem om_1963 {a b : Int} (h0 : (a = b + 2)) (h1 : (b ≤ 117)) : (a < (120 : Nat)) := by omega
theorem om_1964 {a b : Int} (h0 : (a = b + 1)) (h1 : (0 ≤ b)) (h2 : (¬ b = 40)) (h3 : (b ≤ 40)) : ((0 ≤ a ∧ a ≤ 40)) := by omega
theorem om_1965 {a b c : Int} (h0 : (¬ c = 40)) (h1 : (a = c + 1)) (h2 : (b = 0)) (h3 : (c ≤ 40)) : ((a + b ≤ 40)) := by omega
theorem om_1966 {a : Int} (h0 : (a ≤ 39)) : (a + 1 ≤ 2147483647) := by omega
theorem om_1967 {a : Int} (h0 : (a = 40)) : (-2147483648 ≤ a - 1) := by omega
theorem om_1968 {a : Int} (h0 : (a = 40)) : (a - 1 ≤ 2147483647) := by omega
theorem om_1969 {a b : Int} (h0 : (a = b - 1)) (h1 : (b = 40)) : ((0 ≤ a ∧ a ≤ 40)) := by omega
theorem om_1970 {a b c : Int} (h0 : (a = c - 1)) (h1 : (b = 0)) (h2 : (c = 40)) : ((a + b ≤ 40)) := by omega
theorem om_1971 {a b : Int} (h0 : (a = b - 1)) (h1 : (b = 40)) : (-2147483648 ≤ a + 1) := by omega
theorem om_1972 {a b : Int} (h0 : (a = b - 1)) (h1 : (b = 40)) : (a + 1 ≤ 2147483647) := by omega
theorem om_1973 {a b c : Int} (h0 : (a = b + 1)) (h1 : (b = c - 1)) (h2 : (c = 40)) : ((0 ≤ a ∧ a ≤ 40)) := by omega
theorem om_1974 {a b c d : Int} (h0 : (a = c + 1)) (h1 : (b = 0)) (h2 : (c = d - 1)) (h3 : (d = 40)) : ((a + b ≤ 40)) := by omega
set_option maxHeartbeats 4000000 in
set_option maxRecDepth 100000 in
theorem k_X2_remember (l : Launch) (D : va_G) (cB cC cI cJ : ClassId) (sz : Nat) (a0 a1 a2 a3 : Nat) (x0 x1 x2 x3 x4 x5 x6 x7 : Int32) (f0 : Nat → Int32) (hp1 : (0 ≤ x0.toInt ∧ x0.toInt ≤ 4)) (hp2 : (0 ≤ x1.toInt ∧ x1.toInt ≤ 4)) (h_x3 : zBd x3.toInt (-1) 5) (h_x4 : zBd x4.toInt 0 39) (h_x5 : zBd x5.toInt 0 40) (h_x6 : zBd x6.toInt 0 40) (hr_a0_0 : (x5.toInt + x6.toInt ≤ 40)) : Met l yX2_remember (.code yX2_remember cX2_remember 5 none :: lw_gd) ({ frames := 1, cells := 0, slots := 0, locals := 21 }) (gPre D [(cB, .byte), (cC, .char), (cI, .int), (cJ, .long)] [.ref a0, .int x0, .int x1, .int x2] [(a0, .inr (2, [.ref a1, .ref a2, .ref a3, .int x3, .int x4, .int x5, .int x6, .int x7])), (a3, .inl (cI, 120, .inl f0))] sz) (va_Qv (fun u => (0 ≤ (u.2.2.2.1 0).toInt ∧ (u.2.2.2.1 0).toInt ≤ 39) ∧ (0 ≤ (u.2.2.2.1 1).toInt ∧ (u.2.2.2.1 1).toInt ≤ 40) ∧ ((u.2.2.2.1 1).toInt + (0 : Int32).toInt ≤ 40) ∧ (remQ f0 (u.2.1 0) x4.toInt (u.2.2.2.1 0).toInt x5.toInt (u.2.2.2.1 1).toInt x0 x1 x2) ∧ ((0 : Int32).toInt = 0)) (gB D (va_A [(a0, .inr (2, [.ref a1, .ref a2, .ref a3, .int x3, .int x4, .int x5, .int x6, .int x7])), (a3, .inl (cI, 120, .inl f0))] sz) (fun u : gEx => [(a0, .inr (2, [.ref a1, .ref a2, .ref a3, .int x3, .int (u.2.2.2.1 0), .int (u.2.2.2.1 1), .int 0, .int x7])), (a3, .inl (cI, 120, .inl (u.2.1 0)))])) (va_A [(a0, .inr (2, [.ref a1, .ref a2, .ref a3, .int x3, .int x4, .int x5, .int x6, .int x7])), (a3, .inl (cI, 120, .inl f0))] sz)) 0 0 (va_A [(a0, .inr (2, [.ref a1, .ref a2, .ref a3, .int x3, .int x4, .int x5, .int x6, .int x7])), (a3, .inl (cI, 120, .inl f0))] sz) := by
  refine gOf_v (by decide +kernel) (Nat.le_of_ble_eq_true rfl) ?_
  intro p e s m args below meth c ls A Q hx hb hts hown hml hN hK hP hD hA hl hret
  replace hown : s.vm.findClass RX2 = some m.cls := hown
  have hS : va_S A s.heap s.heap [] := va_S.rf
  replace hP : va_P D gcl [(a0, .inr (2, [.ref a1, .ref a2, .ref a3, .int x3, .int x4, .int x5, .int x6, .int x7])), (a3, .inl (cI, 120, .inl f0))] s.heap := hP
  replace hl : lv_has ls 5 [(0, .ref a0), (1, .int x0), (2, .int x1), (3, .int x2)] := hl
  have rx2 : zBd x2.toInt (-2147483648) 2147483647 := n_rng x2
  have rx7 : zBd x7.toInt (-2147483648) 2147483647 := n_rng x7
  refine lv_aload_n (pc := 0) hx hb dX2_remember_0 rfl (lv_at hl 0 rfl) ?_
  refine lv_iconst (pc := 1) (v := 0) hx hb dX2_remember_1 (by decide) ?_
  refine va_put (pc := 2) (ci := 2) (v := .int 0) (ty := .int) (C := RX2) (T := TX2) (N := 8) hx hb hts iX2 tyX2 tyX2_ok nmX2 hown hK hP hD hS 0 rfl rfl 6 (by decide) (hts _ tw_399) (fun _ h9 => h9) rfl (by decide +kernel) (by decide +kernel) (by decide +kernel) (Nat.le_of_ble_eq_true rfl) dX2_remember_2 (fun H locs hP hD hS => ?_)
  replace hP : va_P D gcl [(a0, .inr (2, [.ref a1, .ref a2, .ref a3, .int x3, .int x4, .int x5, .int 0, .int x7])), (a3, .inl (cI, 120, .inl f0))] H := hP
  replace hD : va_D A [(a0, .inr (2, [.ref a1, .ref a2, .ref a3, .int x3, .int x4, .int x5, .int 0, .int x7])), (a3, .inl (cI, 120, .inl f0))] := hD
  refine lv_aload_n (pc := 5) hx hb dX2_remember_5 rfl (lv_at hl 0 rfl) ?_
  refine va_get (pc := 6) (ci := 2) (v := .int x5) (C := RX2) (T := TX2) (N := 8) hx hb hts iX2 hown hK hP 0 rfl rfl 5 (by decide) (hts _ tw_397) (fun _ h9 => h9) rfl dX2_remember_6 ?_
  have bd_h_x5 : 0 ≤ x5.toInt ∧ x5.toInt ≤ 40 := h_x5
  refine lv_bipush (pc := 9) (v := 40) hx hb dX2_remember_9 (by decide) ?_
  refine b_icmp_ne (pc := 11) (tgt := 37) hx hb rfl tI_40  dX2_remember_11 (by decide) (fun c_1 => ?_) (fun c_1 => ?_)
  ·
    refine lv_aload_n (pc := 37) hx hb dX2_remember_37 rfl (lv_at hl 0 rfl) ?_
    refine lv_aload_n (pc := 38) hx hb dX2_remember_38 rfl (lv_at hl 0 rfl) ?_
    refine va_get (pc := 39) (ci := 2) (v := .int x5) (C := RX2) (T := TX2) (N := 8) hx hb hts iX2 hown hK hP 0 rfl rfl 5 (by decide) (hts _ tw_397) (fun _ h9 => h9) rfl dX2_remember_39 ?_
    refine gd_i (pc := 42) (wc := [(a0, .inr (2, [.ref a1, .ref a2, .ref a3, .int x3, .int x4, .int x5, .int 0, .int x7]))]) hP hD hS hA [0] rfl (by decide +kernel) (fun _ => by rfl) (fun hPc hDc => va_runV (As := [.int x5]) (rest := []) ⟨hx, hb, hml, hown, hts⟩ (k_X2_slot_x l D cB cC cI cJ _ a0 a1 a2 a3 x5 x3 x4 x5 0 x7 h_x5 h_x3 h_x4 h_x5 (n_c tI_0 (by decide)) (by first | exact (om_1705 h_x5.2 tI_0) | (have k0 := tI_0; (first | omega | (unfold zBd at *; omega))))) ⟨gcwB hts tw_1057 tw_13 tw_1054 hd_yX2_slot ⟨Nat.le_of_ble_eq_true rfl, Nat.le_of_ble_eq_true rfl⟩, hts _ tw_1056, hts _ tp_43⟩ ⟨gblind, va_recv hK hPc (ci := 2) (q0 := 0) rfl rfl, (gpreS hPc hK hDc hN).2⟩ rfl rfl hl.1 rfl (lv_room (Nat.le_of_ble_eq_true rfl)) dX2_remember_42 ⟨Nat.le_of_ble_eq_true rfl, Nat.le_of_ble_eq_true rfl⟩) (fun r_3 u_2 H locs hw_4 hP hD hS => ?_)
    replace hP : va_P D gcl [(a0, .inr (2, [.ref a1, .ref a2, .ref a3, .int x3, .int x4, .int x5, .int 0, .int x7])), (a3, .inl (cI, 120, .inl f0))] H := hP
    replace hD : va_D A [(a0, .inr (2, [.ref a1, .ref a2, .ref a3, .int x3, .int x4, .int x5, .int 0, .int x7])), (a3, .inl (cI, 120, .inl f0))] := hD
    obtain ⟨hw_5, hw_6⟩ := hw_4
    replace hw_5 : (0 ≤ r_3.toInt ∧ r_3.toInt ≤ 117) := hw_5
    replace hw_6 : (r_3.toInt = ((x4.toInt + x5.toInt) % 40) * 3) := hw_6
    have kk0_r_3 := tI_0
    have rr_3 : zBd r_3.toInt (-2147483648) 2147483647 := n_rng r_3
    refine lv_istore (pc := 45) (lv' := [(4, .int r_3), (0, .ref a0), (1, .int x0), (2, .int x1), (3, .int x2)]) hx hb dX2_remember_45 hl (by decide) rfl (fun ls hl => ?_)
    refine lv_aload_n (pc := 47) hx hb dX2_remember_47 rfl (lv_at hl 1 rfl) ?_
    refine va_get (pc := 48) (ci := 2) (v := .ref a3) (C := RX2) (T := TX2) (N := 8) hx hb hts iX2 hown hK hP 0 rfl rfl 2 (by decide) (hts _ tw_394) (fun _ h9 => h9) rfl dX2_remember_48 ?_
    refine lv_iload (pc := 51) hx hb dX2_remember_51 (lv_at hl 0 rfl) ?_
    refine lv_iload_n (pc := 53) hx hb dX2_remember_53 rfl (lv_at hl 2 rfl) ?_
    refine e_iastore (pc := 54) hx hb hK hP hD hS 1 2 rfl rfl (n_in rfl (by first | exact (om_0 hw_5.1) | ((first | omega | (unfold zBd at *; omega)))) (by first | exact (om_1957 hw_5.2) | ((first | omega | (unfold zBd at *; omega))))) dX2_remember_54 (fun f_7 ef_7 H locs hP hD hS => ?_)
    replace hP : va_P D gcl [(a0, .inr (2, [.ref a1, .ref a2, .ref a3, .int x3, .int x4, .int x5, .int 0, .int x7])), (a3, .inl (cI, 120, .inl f_7))] H := hP
    replace hD : va_D A [(a0, .inr (2, [.ref a1, .ref a2, .ref a3, .int x3, .int x4, .int x5, .int 0, .int x7])), (a3, .inl (cI, 120, .inl f_7))] := hD
    refine lv_aload_n (pc := 55) hx hb dX2_remember_55 rfl (lv_at hl 1 rfl) ?_
    refine va_get (pc := 56) (ci := 2) (v := .ref a3) (C := RX2) (T := TX2) (N := 8) hx hb hts iX2 hown hK hP 0 rfl rfl 2 (by decide) (hts _ tw_394) (fun _ h9 => h9) rfl dX2_remember_56 ?_
    refine lv_iload (pc := 59) hx hb dX2_remember_59 (lv_at hl 0 rfl) ?_
    refine lv_iconst (pc := 61) (v := 1) hx hb dX2_remember_61 (by decide) ?_
    refine b_iadd (pc := 62) hx hb rfl tI_1 (by first | exact (om_562 rr_3.1) | ((first | omega | (unfold zBd at *; omega)))) (by first | exact (om_1958 hw_5.2) | ((first | omega | (unfold zBd at *; omega)))) dX2_remember_62 (fun x_8 ex_8 => ?_)
    refine lv_iload_n (pc := 63) hx hb dX2_remember_63 rfl (lv_at hl 3 rfl) ?_
    refine e_iastore (pc := 64) hx hb hK hP hD hS 1 2 rfl rfl (n_in rfl (by first | exact (om_918 ex_8 hw_5.1) | ((first | omega | (unfold zBd at *; omega)))) (by first | exact (om_1959 ex_8 hw_5.2) | ((first | omega | (unfold zBd at *; omega))))) dX2_remember_64 (fun f_9 ef_9 H locs hP hD hS => ?_)
    replace hP : va_P D gcl [(a0, .inr (2, [.ref a1, .ref a2, .ref a3, .int x3, .int x4, .int x5, .int 0, .int x7])), (a3, .inl (cI, 120, .inl f_9))] H := hP
    replace hD : va_D A [(a0, .inr (2, [.ref a1, .ref a2, .ref a3, .int x3, .int x4, .int x5, .int 0, .int x7])), (a3, .inl (cI, 120, .inl f_9))] := hD
    refine lv_aload_n (pc := 65) hx hb dX2_remember_65 rfl (lv_at hl 1 rfl) ?_
    refine va_get (pc := 66) (ci := 2) (v := .ref a3) (C := RX2) (T := TX2) (N := 8) hx hb hts iX2 hown hK hP 0 rfl rfl 2 (by decide) (hts _ tw_394) (fun _ h9 => h9) rfl dX2_remember_66 ?_
    refine lv_iload (pc := 69) hx hb dX2_remember_69 (lv_at hl 0 rfl) ?_
    refine lv_iconst (pc := 71) (v := 2) hx hb dX2_remember_71 (by decide) ?_
    refine b_iadd (pc := 72) hx hb rfl tI_2 (by first | exact (om_1960 rr_3.1) | ((first | omega | (unfold zBd at *; omega)))) (by first | exact (om_1961 hw_5.2) | ((first | omega | (unfold zBd at *; omega)))) dX2_remember_72 (fun x_10 ex_10 => ?_)
    refine lv_iload_n (pc := 73) hx hb dX2_remember_73 rfl (lv_at hl 4 rfl) ?_
    refine e_iastore (pc := 74) hx hb hK hP hD hS 1 2 rfl rfl (n_in rfl (by first | exact (om_1962 ex_10 hw_5.1) | ((first | omega | (unfold zBd at *; omega)))) (by first | exact (om_1963 ex_10 hw_5.2) | ((first | omega | (unfold zBd at *; omega))))) dX2_remember_74 (fun f_11 ef_11 H locs hP hD hS => ?_)
    replace hP : va_P D gcl [(a0, .inr (2, [.ref a1, .ref a2, .ref a3, .int x3, .int x4, .int x5, .int 0, .int x7])), (a3, .inl (cI, 120, .inl f_11))] H := hP
    replace hD : va_D A [(a0, .inr (2, [.ref a1, .ref a2, .ref a3, .int x3, .int x4, .int x5, .int 0, .int x7])), (a3, .inl (cI, 120, .inl f_11))] := hD
    refine lv_aload_n (pc := 75) hx hb dX2_remember_75 rfl (lv_at hl 1 rfl) ?_
    refine lv_dup (pc := 76) hx hb dX2_remember_76 rfl ?_
    refine va_get (pc := 77) (ci := 2) (v := .int x5) (C := RX2) (T := TX2) (N := 8) hx hb hts iX2 hown hK hP 0 rfl rfl 5 (by decide) (hts _ tw_397) (fun _ h9 => h9) rfl dX2_remember_77 ?_
    refine lv_iconst (pc := 80) (v := 1) hx hb dX2_remember_80 (by decide) ?_
    refine b_iadd (pc := 81) hx hb rfl tI_1 (by first | exact (om_2 h_x5.1) | ((first | omega | (unfold zBd at *; omega)))) (by first | exact (om_1721 h_x5.2) | ((first | omega | (unfold zBd at *; omega)))) dX2_remember_81 (fun x_12 ex_12 => ?_)
    refine va_put (pc := 82) (ci := 2) (v := .int x_12) (ty := .int) (C := RX2) (T := TX2) (N := 8) hx hb hts iX2 tyX2 tyX2_ok nmX2 hown hK hP hD hS 0 rfl rfl 5 (by decide) (hts _ tw_397) (fun _ h9 => h9) rfl (by decide +kernel) rfl rfl (Nat.le_of_ble_eq_true rfl) dX2_remember_82 (fun H locs hP hD hS => ?_)
    replace hP : va_P D gcl [(a0, .inr (2, [.ref a1, .ref a2, .ref a3, .int x3, .int x4, .int x_12, .int 0, .int x7])), (a3, .inl (cI, 120, .inl f_11))] H := hP
    replace hD : va_D A [(a0, .inr (2, [.ref a1, .ref a2, .ref a3, .int x3, .int x4, .int x_12, .int 0, .int x7])), (a3, .inl (cI, 120, .inl f_11))] := hD
    have k8_0 := tI_0
    exact hret ((fun _ => 0), (fun k => [f_11].getD k (fun _ => 0)), (fun _ => (fun _ => 0)), (fun k => [x4, x_12].getD k 0), (fun _ => 0)) dX2_remember_85 ⟨(show (0 ≤ (x4 : Int32).toInt ∧ (x4 : Int32).toInt ≤ 39) from h_x4), (show (0 ≤ (x_12 : Int32).toInt ∧ (x_12 : Int32).toInt ≤ 40) from (by first | exact (om_1964 ex_12 h_x5.1 c_1 h_x5.2) | (have k8_0 := tI_0; (first | omega | (unfold zBd at *; omega))))), (show ((x_12 : Int32).toInt + (0 : Int32).toInt ≤ 40) from (by first | exact (om_1965 c_1 ex_12 tI_0 h_x5.2) | (have k8_0 := tI_0; (first | omega | (unfold zBd at *; omega))))), (show remQ f0 f_11 x4.toInt x4.toInt x5.toInt x_12.toInt x0 x1 x2 from ⟨r_3.toInt, (by rw [e_at ef_11 (show _ = r_3.toInt + 2 by (first | omega | (unfold zBd at *; omega))), e_at ef_9 (show _ = r_3.toInt + 1 by (first | omega | (unfold zBd at *; omega))), ef_7]), (by (first | omega | (unfold zBd at *; omega)))⟩), (show (0 : Int32).toInt = 0 from (by first | exact (om_31 tI_0) | (have k8_0 := tI_0; (first | omega | (unfold zBd at *; omega)))))⟩ (g_psub (wc := [(a0, .inr (2, [.ref a1, .ref a2, .ref a3, .int x3, .int x4, .int x_12, .int 0, .int x7])), (a3, .inl (cI, 120, .inl f_11))]) hP [0, 1] rfl) (hD.sub (ws' := [(a0, .inr (2, [.ref a1, .ref a2, .ref a3, .int x3, .int x4, .int x_12, .int 0, .int x7])), (a3, .inl (cI, 120, .inl f_11))]) [0, 1] (by decide) rfl) hS
  ·
    refine lv_aload_n (pc := 14) hx hb dX2_remember_14 rfl (lv_at hl 0 rfl) ?_
    refine lv_aload_n (pc := 15) hx hb dX2_remember_15 rfl (lv_at hl 0 rfl) ?_
    refine va_get (pc := 16) (ci := 2) (v := .int x4) (C := RX2) (T := TX2) (N := 8) hx hb hts iX2 hown hK hP 0 rfl rfl 4 (by decide) (hts _ tw_396) (fun _ h9 => h9) rfl dX2_remember_16 ?_
    have bd_h_x4 : 0 ≤ x4.toInt ∧ x4.toInt ≤ 39 := h_x4
    refine lv_iconst (pc := 19) (v := 1) hx hb dX2_remember_19 (by decide) ?_
    refine b_iadd (pc := 20) hx hb rfl tI_1 (by first | exact (om_2 h_x4.1) | ((first | omega | (unfold zBd at *; omega)))) (by first | exact (om_1966 h_x4.2) | ((first | omega | (unfold zBd at *; omega)))) dX2_remember_20 (fun x_13 ex_13 => ?_)
    refine lv_bipush (pc := 21) (v := 40) hx hb dX2_remember_21 (by decide) ?_
    refine c_irem (pc := 23) hx hb rfl tI_40 (by first | exact (om_1388) | ((first | omega | (unfold zBd at *; omega)))) (by first | exact (om_918 ex_13 h_x4.1) | ((first | omega | (unfold zBd at *; omega)))) dX2_remember_23 (fun x_14 ex_14 => ?_)
    refine va_put (pc := 24) (ci := 2) (v := .int x_14) (ty := .int) (C := RX2) (T := TX2) (N := 8) hx hb hts iX2 tyX2 tyX2_ok nmX2 hown hK hP hD hS 0 rfl rfl 4 (by decide) (hts _ tw_396) (fun _ h9 => h9) rfl (by decide +kernel) rfl rfl (Nat.le_of_ble_eq_true rfl) dX2_remember_24 (fun H locs hP hD hS => ?_)
    replace hP : va_P D gcl [(a0, .inr (2, [.ref a1, .ref a2, .ref a3, .int x3, .int x_14, .int x5, .int 0, .int x7])), (a3, .inl (cI, 120, .inl f0))] H := hP
    replace hD : va_D A [(a0, .inr (2, [.ref a1, .ref a2, .ref a3, .int x3, .int x_14, .int x5, .int 0, .int x7])), (a3, .inl (cI, 120, .inl f0))] := hD
    refine lv_aload_n (pc := 27) hx hb dX2_remember_27 rfl (lv_at hl 0 rfl) ?_
    refine lv_dup (pc := 28) hx hb dX2_remember_28 rfl ?_
    refine va_get (pc := 29) (ci := 2) (v := .int x5) (C := RX2) (T := TX2) (N := 8) hx hb hts iX2 hown hK hP 0 rfl rfl 5 (by decide) (hts _ tw_397) (fun _ h9 => h9) rfl dX2_remember_29 ?_
    refine lv_iconst (pc := 32) (v := 1) hx hb dX2_remember_32 (by decide) ?_
    refine b_isub (pc := 33) hx hb rfl tI_1 (by first | exact (om_1967 c_1) | ((first | omega | (unfold zBd at *; omega)))) (by first | exact (om_1968 c_1) | ((first | omega | (unfold zBd at *; omega)))) dX2_remember_33 (fun x_15 ex_15 => ?_)
    refine va_put (pc := 34) (ci := 2) (v := .int x_15) (ty := .int) (C := RX2) (T := TX2) (N := 8) hx hb hts iX2 tyX2 tyX2_ok nmX2 hown hK hP hD hS 0 rfl rfl 5 (by decide) (hts _ tw_397) (fun _ h9 => h9) rfl (by decide +kernel) rfl rfl (Nat.le_of_ble_eq_true rfl) dX2_remember_34 (fun H locs hP hD hS => ?_)
    replace hP : va_P D gcl [(a0, .inr (2, [.ref a1, .ref a2, .ref a3, .int x3, .int x_14, .int x_15, .int 0, .int x7])), (a3, .inl (cI, 120, .inl f0))] H := hP
    replace hD : va_D A [(a0, .inr (2, [.ref a1, .ref a2, .ref a3, .int x3, .int x_14, .int x_15, .int 0, .int x7])), (a3, .inl (cI, 120, .inl f0))] := hD
    refine lv_aload_n (pc := 37) hx hb dX2_remember_37 rfl (lv_at hl 0 rfl) ?_
    refine lv_aload_n (pc := 38) hx hb dX2_remember_38 rfl (lv_at hl 0 rfl) ?_
    refine va_get (pc := 39) (ci := 2) (v := .int x_15) (C := RX2) (T := TX2) (N := 8) hx hb hts iX2 hown hK hP 0 rfl rfl 5 (by decide) (hts _ tw_397) (fun _ h9 => h9) rfl dX2_remember_39 ?_
    refine gd_i (pc := 42) (wc := [(a0, .inr (2, [.ref a1, .ref a2, .ref a3, .int x3, .int x_14, .int x_15, .int 0, .int x7]))]) hP hD hS hA [0] rfl (by decide +kernel) (fun _ => by rfl) (fun hPc hDc => va_runV (As := [.int x_15]) (rest := []) ⟨hx, hb, hml, hown, hts⟩ (k_X2_slot_x l D cB cC cI cJ _ a0 a1 a2 a3 x_15 x3 x_14 x_15 0 x7 (by first | exact (om_1969 ex_15 c_1) | (have k0 := tI_0; (first | omega | (unfold zBd at *; omega)))) h_x3 (by have k0 := tI_0; (first | omega | (unfold zBd at *; omega))) (by first | exact (om_1969 ex_15 c_1) | (have k0 := tI_0; (first | omega | (unfold zBd at *; omega)))) (n_c tI_0 (by decide)) (by first | exact (om_1970 ex_15 tI_0 c_1) | (have k0 := tI_0; (first | omega | (unfold zBd at *; omega))))) ⟨gcwB hts tw_1057 tw_13 tw_1054 hd_yX2_slot ⟨Nat.le_of_ble_eq_true rfl, Nat.le_of_ble_eq_true rfl⟩, hts _ tw_1056, hts _ tp_43⟩ ⟨gblind, va_recv hK hPc (ci := 2) (q0 := 0) rfl rfl, (gpreS hPc hK hDc hN).2⟩ rfl rfl hl.1 rfl (lv_room (Nat.le_of_ble_eq_true rfl)) dX2_remember_42 ⟨Nat.le_of_ble_eq_true rfl, Nat.le_of_ble_eq_true rfl⟩) (fun r_17 u_16 H locs hw_18 hP hD hS => ?_)
    replace hP : va_P D gcl [(a0, .inr (2, [.ref a1, .ref a2, .ref a3, .int x3, .int x_14, .int x_15, .int 0, .int x7])), (a3, .inl (cI, 120, .inl f0))] H := hP
    replace hD : va_D A [(a0, .inr (2, [.ref a1, .ref a2, .ref a3, .int x3, .int x_14, .int x_15, .int 0, .int x7])), (a3, .inl (cI, 120, .inl f0))] := hD
    obtain ⟨hw_19, hw_20⟩ := hw_18
    replace hw_19 : (0 ≤ r_17.toInt ∧ r_17.toInt ≤ 117) := hw_19
    replace hw_20 : (r_17.toInt = ((x_14.toInt + x_15.toInt) % 40) * 3) := hw_20
    have kk0_r_17 := tI_0
    have rr_17 : zBd r_17.toInt (-2147483648) 2147483647 := n_rng r_17
    refine lv_istore (pc := 45) (lv' := [(4, .int r_17), (0, .ref a0), (1, .int x0), (2, .int x1), (3, .int x2)]) hx hb dX2_remember_45 hl (by decide) rfl (fun ls hl => ?_)
    refine lv_aload_n (pc := 47) hx hb dX2_remember_47 rfl (lv_at hl 1 rfl) ?_
    refine va_get (pc := 48) (ci := 2) (v := .ref a3) (C := RX2) (T := TX2) (N := 8) hx hb hts iX2 hown hK hP 0 rfl rfl 2 (by decide) (hts _ tw_394) (fun _ h9 => h9) rfl dX2_remember_48 ?_
    refine lv_iload (pc := 51) hx hb dX2_remember_51 (lv_at hl 0 rfl) ?_
    refine lv_iload_n (pc := 53) hx hb dX2_remember_53 rfl (lv_at hl 2 rfl) ?_
    refine e_iastore (pc := 54) hx hb hK hP hD hS 1 2 rfl rfl (n_in rfl (by first | exact (om_0 hw_19.1) | ((first | omega | (unfold zBd at *; omega)))) (by first | exact (om_1957 hw_19.2) | ((first | omega | (unfold zBd at *; omega))))) dX2_remember_54 (fun f_21 ef_21 H locs hP hD hS => ?_)
    replace hP : va_P D gcl [(a0, .inr (2, [.ref a1, .ref a2, .ref a3, .int x3, .int x_14, .int x_15, .int 0, .int x7])), (a3, .inl (cI, 120, .inl f_21))] H := hP
    replace hD : va_D A [(a0, .inr (2, [.ref a1, .ref a2, .ref a3, .int x3, .int x_14, .int x_15, .int 0, .int x7])), (a3, .inl (cI, 120, .inl f_21))] := hD
    refine lv_aload_n (pc := 55) hx hb dX2_remember_55 rfl (lv_at hl 1 rfl) ?_
    refine va_get (pc := 56) (ci := 2) (v := .ref a3) (C := RX2) (T := TX2) (N := 8) hx hb hts iX2 hown hK hP 0 rfl rfl 2 (by decide) (hts _ tw_394) (fun _ h9 => h9) rfl dX2_remember_56 ?_
    refine lv_iload (pc := 59) hx hb dX2_remember_59 (lv_at hl 0 rfl) ?_
    refine lv_iconst (pc := 61) (v := 1) hx hb dX2_remember_61 (by decide) ?_
    refine b_iadd (pc := 62) hx hb rfl tI_1 (by first | exact (om_562 rr_17.1) | ((first | omega | (unfold zBd at *; omega)))) (by first | exact (om_1958 hw_19.2) | ((first | omega | (unfold zBd at *; omega)))) dX2_remember_62 (fun x_22 ex_22 => ?_)
    refine lv_iload_n (pc := 63) hx hb dX2_remember_63 rfl (lv_at hl 3 rfl) ?_
    refine e_iastore (pc := 64) hx hb hK hP hD hS 1 2 rfl rfl (n_in rfl (by first | exact (om_918 ex_22 hw_19.1) | ((first | omega | (unfold zBd at *; omega)))) (by first | exact (om_1959 ex_22 hw_19.2) | ((first | omega | (unfold zBd at *; omega))))) dX2_remember_64 (fun f_23 ef_23 H locs hP hD hS => ?_)
    replace hP : va_P D gcl [(a0, .inr (2, [.ref a1, .ref a2, .ref a3, .int x3, .int x_14, .int x_15, .int 0, .int x7])), (a3, .inl (cI, 120, .inl f_23))] H := hP
    replace hD : va_D A [(a0, .inr (2, [.ref a1, .ref a2, .ref a3, .int x3, .int x_14, .int x_15, .int 0, .int x7])), (a3, .inl (cI, 120, .inl f_23))] := hD
    refine lv_aload_n (pc := 65) hx hb dX2_remember_65 rfl (lv_at hl 1 rfl) ?_
    refine va_get (pc := 66) (ci := 2) (v := .ref a3) (C := RX2) (T := TX2) (N := 8) hx hb hts iX2 hown hK hP 0 rfl rfl 2 (by decide) (hts _ tw_394) (fun _ h9 => h9) rfl dX2_remember_66 ?_
    refine lv_iload (pc := 69) hx hb dX2_remember_69 (lv_at hl 0 rfl) ?_
    refine lv_iconst (pc := 71) (v := 2) hx hb dX2_remember_71 (by decide) ?_
    refine b_iadd (pc := 72) hx hb rfl tI_2 (by first | exact (om_1960 rr_17.1) | ((first | omega | (unfold zBd at *; omega)))) (by first | exact (om_1961 hw_19.2) | ((first | omega | (unfold zBd at *; omega)))) dX2_remember_72 (fun x_24 ex_24 => ?_)
    refine lv_iload_n (pc := 73) hx hb dX2_remember_73 rfl (lv_at hl 4 rfl) ?_
    refine e_iastore (pc := 74) hx hb hK hP hD hS 1 2 rfl rfl (n_in rfl (by first | exact (om_1962 ex_24 hw_19.1) | ((first | omega | (unfold zBd at *; omega)))) (by first | exact (om_1963 ex_24 hw_19.2) | ((first | omega | (unfold zBd at *; omega))))) dX2_remember_74 (fun f_25 ef_25 H locs hP hD hS => ?_)
    replace hP : va_P D gcl [(a0, .inr (2, [.ref a1, .ref a2, .ref a3, .int x3, .int x_14, .int x_15, .int 0, .int x7])), (a3, .inl (cI, 120, .inl f_25))] H := hP
    replace hD : va_D A [(a0, .inr (2, [.ref a1, .ref a2, .ref a3, .int x3, .int x_14, .int x_15, .int 0, .int x7])), (a3, .inl (cI, 120, .inl f_25))] := hD
    refine lv_aload_n (pc := 75) hx hb dX2_remember_75 rfl (lv_at hl 1 rfl) ?_
    refine lv_dup (pc := 76) hx hb dX2_remember_76 rfl ?_
    refine va_get (pc := 77) (ci := 2) (v := .int x_15) (C := RX2) (T := TX2) (N := 8) hx hb hts iX2 hown hK hP 0 rfl rfl 5 (by decide) (hts _ tw_397) (fun _ h9 => h9) rfl dX2_remember_77 ?_
    refine lv_iconst (pc := 80) (v := 1) hx hb dX2_remember_80 (by decide) ?_
    refine b_iadd (pc := 81) hx hb rfl tI_1 (by first | exact (om_1971 ex_15 c_1) | ((first | omega | (unfold zBd at *; omega)))) (by first | exact (om_1972 ex_15 c_1) | ((first | omega | (unfold zBd at *; omega)))) dX2_remember_81 (fun x_26 ex_26 => ?_)
    refine va_put (pc := 82) (ci := 2) (v := .int x_26) (ty := .int) (C := RX2) (T := TX2) (N := 8) hx hb hts iX2 tyX2 tyX2_ok nmX2 hown hK hP hD hS 0 rfl rfl 5 (by decide) (hts _ tw_397) (fun _ h9 => h9) rfl (by decide +kernel) rfl rfl (Nat.le_of_ble_eq_true rfl) dX2_remember_82 (fun H locs hP hD hS => ?_)
    replace hP : va_P D gcl [(a0, .inr (2, [.ref a1, .ref a2, .ref a3, .int x3, .int x_14, .int x_26, .int 0, .int x7])), (a3, .inl (cI, 120, .inl f_25))] H := hP
    replace hD : va_D A [(a0, .inr (2, [.ref a1, .ref a2, .ref a3, .int x3, .int x_14, .int x_26, .int 0, .int x7])), (a3, .inl (cI, 120, .inl f_25))] := hD
    have k8_0 := tI_0
    exact hret ((fun _ => 0), (fun k => [f_25].getD k (fun _ => 0)), (fun _ => (fun _ => 0)), (fun k => [x_14, x_26].getD k 0), (fun _ => 0)) dX2_remember_85 ⟨(show (0 ≤ (x_14 : Int32).toInt ∧ (x_14 : Int32).toInt ≤ 39) from (by have k8_0 := tI_0; (first | omega | (unfold zBd at *; omega)))), (show (0 ≤ (x_26 : Int32).toInt ∧ (x_26 : Int32).toInt ≤ 40) from (by first | exact (om_1973 ex_26 ex_15 c_1) | (have k8_0 := tI_0; (first | omega | (unfold zBd at *; omega))))), (show ((x_26 : Int32).toInt + (0 : Int32).toInt ≤ 40) from (by first | exact (om_1974 ex_26 tI_0 ex_15 c_1) | (have k8_0 := tI_0; (first | omega | (unfold zBd at *; omega))))), (show remQ f0 f_25 x4.toInt x_14.toInt x5.toInt x_26.toInt x0 x1 x2 from ⟨r_17.toInt, (by rw [e_at ef_25 (show _ = r_17.toInt + 2 by (first | omega | (unfold zBd at *; omega))), e_at ef_23 (show _ = r_17.toInt + 1 by (first | omega | (unfold zBd at *; omega))), ef_21]), (by (first | omega | (unfold zBd at *; omega)))⟩), (show (0 : Int32).toInt = 0 from (by first | exact (om_31 tI_0) | (have k8_0 := tI_0; (first | omega | (unfold zBd at *; omega)))))⟩ (g_psub (wc := [(a0, .inr (2, [.ref a1, .ref a2, .ref a3, .int x3, .int x_14, .int x_26, .int 0, .int x7])), (a3, .inl (cI, 120, .inl f_25))]) hP [0, 1] rfl) (hD.sub (ws' := [(a0, .inr (2, [.ref a1, .ref a2, .ref a3, .int x3, .int x_14, .int x_26, .int 0, .int x7])), (a3, .inl (cI, 120, .inl f_25))]) [0, 1] (by decide) rfl) hS
theorem om_1975 {a : Int} (h0 : (a < 6)) : (a < 6) := by omega
set_option maxHeartbeats 4000000 in
set_option maxRecDepth 100000 in
theorem k_X8_takeAway_e (l : Launch) (D : va_G) (cB cC cI cJ : ClassId) (sz : Nat) (a0 a1 : Nat) (x0 x1 x2 : Int32) (f0 : Nat → Int32) (hp1 : (0 ≤ x0.toInt ∧ x0.toInt ≤ 4)) (hp2 : (0 ≤ x1.toInt ∧ x1.toInt ≤ 4)) (hg__ne : ¬ x0.toInt = x1.toInt) : Met l yX8_takeAway (.code yX8_takeAway cX8_takeAway 5 none :: lw_gd) ({ frames := 1, cells := 0, slots := 0, locals := 23 }) (gPre D [(cB, .byte), (cC, .char), (cI, .int), (cJ, .long)] [.ref a0, .int x0, .int x1, .int x2] [(a0, .inr (8, [.ref a1])), (a1, .inl (cI, 30, .inl f0))] sz) (va_Qv (fun u => (taQ f0 (u.2.1 0) x0.toInt x1.toInt x2 6)) (gB D (va_A [(a0, .inr (8, [.ref a1])), (a1, .inl (cI, 30, .inl f0))] sz) (fun u : gEx => [(a0, .inr (8, [.ref a1])), (a1, .inl (cI, 30, .inl (u.2.1 0)))])) (va_A [(a0, .inr (8, [.ref a1])), (a1, .inl (cI, 30, .inl f0))] sz)) 0 0 (va_A [(a0, .inr (8, [.ref a1])), (a1, .inl (cI, 30, .inl f0))] sz) := by
  refine gOf_v (by decide +kernel) (Nat.le_of_ble_eq_true rfl) ?_
  intro p e s m args below meth c ls A Q hx hb hts hown hml hN hK hP hD hA hl hret
  replace hown : s.vm.findClass RX8 = some m.cls := hown
  have hS : va_S A s.heap s.heap [] := va_S.rf
  replace hP : va_P D gcl [(a0, .inr (8, [.ref a1])), (a1, .inl (cI, 30, .inl f0))] s.heap := hP
  replace hl : lv_has ls 5 [(0, .ref a0), (1, .int x0), (2, .int x1), (3, .int x2)] := hl
  have rx2 : zBd x2.toInt (-2147483648) 2147483647 := n_rng x2
  refine lv_iconst (pc := 0) (v := 0) hx hb dX8_takeAway_0 (by decide) ?_
  refine lv_istore (pc := 1) (lv' := [(4, .int 0), (0, .ref a0), (1, .int x0), (2, .int x1), (3, .int x2)]) hx hb dX8_takeAway_1 hl (by decide) rfl (fun ls hl => ?_)
  have lp_5 : ∀ (n : Nat) (x_1 : Int32) (f_3 : Nat → Int32) (H : Heap) (locs : List Loc) (ls : Array Slot), (0 ≤ x_1.toInt ∧ x_1.toInt ≤ 6) → (taQ f0 f_3 x0.toInt x1.toInt x2 x_1.toInt) → (2147483647 - x_1.toInt).toNat < n → va_P D gcl [(a0, .inr (8, [.ref a1])), (a1, .inl (cI, 30, .inl f_3))] H → va_D A [(a0, .inr (8, [.ref a1])), (a1, .inl (cI, 30, .inl f_3))] → va_S A s.heap H locs → lv_has ls 5 [(4, .int x_1), (0, .ref a0), (1, .int x0), (2, .int x1), (3, .int x2)] → W p l e ({ frames := 1, cells := 0, slots := 0, locals := 23 }) s m args below meth c H locs 0 0 Q (F0 m 3 ls []) := by
    intro n
    induction n with
    | zero => intro x_1 f_3 H locs ls hi_2 hi_4 hmu; exact absurd hmu (Nat.not_lt_zero _)
    | succ n ih_lp_5 =>
      intro x_1 f_3 H locs ls hi_2 hi_4 hmu_lp_5 hP hD hS hl
      refine lv_iload (pc := 3) hx hb dX8_takeAway_3 (lv_at hl 0 rfl) ?_
      refine lv_bipush (pc := 5) (v := 6) hx hb dX8_takeAway_5 (by decide) ?_
      refine b_icmp_ge (pc := 7) (tgt := 40) hx hb rfl tI_6  dX8_takeAway_7 (by decide) (fun c_6 => ?_) (fun c_6 => ?_)
      ·
        exact hret ((fun _ => 0), (fun k => [f_3].getD k (fun _ => 0)), (fun _ => (fun _ => 0)), (fun _ => 0), (fun _ => 0)) dX8_takeAway_40 (show taQ f0 f_3 x0.toInt x1.toInt x2 6 from (by have e9 : x_1.toInt = 6 := (by (first | omega | (unfold zBd at *; omega))); have q9 := hi_4; rw [e9] at q9; exact q9)) (g_psub (wc := [(a0, .inr (8, [.ref a1])), (a1, .inl (cI, 30, .inl f_3))]) hP [0, 1] rfl) (hD.sub (ws' := [(a0, .inr (8, [.ref a1])), (a1, .inl (cI, 30, .inl f_3))]) [0, 1] (by decide) rfl) hS
      ·
        refine lv_aload_n (pc := 10) hx hb dX8_takeAway_10 rfl (lv_at hl 1 rfl) ?_
        refine lv_iload (pc := 11) hx hb dX8_takeAway_11 (lv_at hl 0 rfl) ?_
        refine lv_iload_n (pc := 13) hx hb dX8_takeAway_13 rfl (lv_at hl 2 rfl) ?_
        refine lv_aload_n (pc := 14) hx hb dX8_takeAway_14 rfl (lv_at hl 1 rfl) ?_
        refine lv_iload (pc := 15) hx hb dX8_takeAway_15 (lv_at hl 0 rfl) ?_
        refine lv_iload_n (pc := 17) hx hb dX8_takeAway_17 rfl (lv_at hl 2 rfl) ?_
        refine gd_i (pc := 18) (wc := [(a0, .inr (8, [.ref a1])), (a1, .inl (cI, 30, .inl f_3))]) hP hD hS hA [0, 1] rfl (by decide +kernel) (fun _ => by rfl) (fun hPc hDc => va_runV (As := [.int x_1, .int x0]) (rest := [.int x0, .int x_1, .ref a0]) ⟨hx, hb, hml, hown, hts⟩ (k_X8_at_e l D cB cC cI cJ _ a0 a1 x_1 x0 f_3 (by first | exact (om_1019 hi_2.1 c_6) | ((first | omega | (unfold zBd at *; omega)))) hp1) ⟨gcwB hts tw_791 tw_5 tw_800 hd_yX8_at ⟨Nat.le_of_ble_eq_true rfl, Nat.le_of_ble_eq_true rfl⟩, hts _ tw_789, hts _ tw_790⟩ ⟨gblind, va_recv hK hPc (ci := 8) (q0 := 0) rfl rfl, (gpreS hPc hK hDc hN).2⟩ rfl rfl hl.1 rfl (lv_room (Nat.le_of_ble_eq_true rfl)) dX8_takeAway_18 ⟨Nat.le_of_ble_eq_true rfl, Nat.le_of_ble_eq_true rfl⟩) (fun r_8 u_7 H locs hw_9 hP hD hS => ?_)
        replace hP : va_P D gcl [(a0, .inr (8, [.ref a1])), (a1, .inl (cI, 30, .inl f_3))] H := hP
        replace hD : va_D A [(a0, .inr (8, [.ref a1])), (a1, .inl (cI, 30, .inl f_3))] := hD
        have hw_10 : (r_8 = f_3 (6 * x0.toInt + x_1.toInt).toNat) := hw_9
        have rr_8 : zBd r_8.toInt (-2147483648) 2147483647 := n_rng r_8
        refine lv_iload_n (pc := 21) hx hb dX8_takeAway_21 rfl (lv_at hl 4 rfl) ?_
        refine lv_aload_n (pc := 22) hx hb dX8_takeAway_22 rfl (lv_at hl 1 rfl) ?_
        refine lv_iload (pc := 23) hx hb dX8_takeAway_23 (lv_at hl 0 rfl) ?_
        refine lv_iload_n (pc := 25) hx hb dX8_takeAway_25 rfl (lv_at hl 3 rfl) ?_
        refine gd_i (pc := 26) (wc := [(a0, .inr (8, [.ref a1])), (a1, .inl (cI, 30, .inl f_3))]) hP hD hS hA [0, 1] rfl (by decide +kernel) (fun _ => by rfl) (fun hPc hDc => va_runV (As := [.int x_1, .int x1]) (rest := [.int x2, .int r_8, .int x0, .int x_1, .ref a0]) ⟨hx, hb, hml, hown, hts⟩ (k_X8_at_e l D cB cC cI cJ _ a0 a1 x_1 x1 f_3 (by first | exact (om_1019 hi_2.1 c_6) | ((first | omega | (unfold zBd at *; omega)))) hp2) ⟨gcwB hts tw_791 tw_5 tw_800 hd_yX8_at ⟨Nat.le_of_ble_eq_true rfl, Nat.le_of_ble_eq_true rfl⟩, hts _ tw_789, hts _ tw_790⟩ ⟨gblind, va_recv hK hPc (ci := 8) (q0 := 0) rfl rfl, (gpreS hPc hK hDc hN).2⟩ rfl rfl hl.1 rfl (lv_room (Nat.le_of_ble_eq_true rfl)) dX8_takeAway_26 ⟨Nat.le_of_ble_eq_true rfl, Nat.le_of_ble_eq_true rfl⟩) (fun r_12 u_11 H locs hw_13 hP hD hS => ?_)
        replace hP : va_P D gcl [(a0, .inr (8, [.ref a1])), (a1, .inl (cI, 30, .inl f_3))] H := hP
        replace hD : va_D A [(a0, .inr (8, [.ref a1])), (a1, .inl (cI, 30, .inl f_3))] := hD
        have hw_14 : (r_12 = f_3 (6 * x1.toInt + x_1.toInt).toNat) := hw_13
        have rr_12 : zBd r_12.toInt (-2147483648) 2147483647 := n_rng r_12
        refine lv_imul (pc := 29) hx hb dX8_takeAway_29 ?_
        refine lv_topi (fun x_15 ex_15 => ?_)
        have rx_15 : zBd x_15.toInt (-2147483648) 2147483647 := n_rng x_15
        refine lv_isub (pc := 30) hx hb dX8_takeAway_30 ?_
        refine lv_topi (fun x_16 ex_16 => ?_)
        have rx_16 : zBd x_16.toInt (-2147483648) 2147483647 := n_rng x_16
        refine gd_v (pc := 31) (wc := [(a0, .inr (8, [.ref a1])), (a1, .inl (cI, 30, .inl f_3))]) hP hD hS hA [0, 1] rfl (by decide +kernel) (fun _ => by rfl) (fun hPc hDc => va_runV (As := [.int x_1, .int x0, .int x_16]) (rest := []) ⟨hx, hb, hml, hown, hts⟩ (k_X8_setAt_e l D cB cC cI cJ _ a0 a1 x_1 x0 x_16 f_3 (by first | exact (om_1019 hi_2.1 c_6) | ((first | omega | (unfold zBd at *; omega)))) hp1) ⟨gcwB hts tw_637 tw_5 tw_1066 hd_yX8_setAt ⟨Nat.le_of_ble_eq_true rfl, Nat.le_of_ble_eq_true rfl⟩, hts _ tw_635, hts _ tw_636⟩ ⟨gblind, va_recv hK hPc (ci := 8) (q0 := 0) rfl rfl, (gpreS hPc hK hDc hN).2⟩ rfl rfl hl.1 rfl (lv_room (Nat.le_of_ble_eq_true rfl)) dX8_takeAway_31 ⟨Nat.le_of_ble_eq_true rfl, Nat.le_of_ble_eq_true rfl⟩) (fun u_17 H locs hw_19 hP hD hS => ?_)
        replace hP : va_P D gcl [(a0, .inr (8, [.ref a1])), (a1, .inl (cI, 30, .inl (u_17.2.1 0)))] H := hP
        replace hD : va_D A [(a0, .inr (8, [.ref a1])), (a1, .inl (cI, 30, .inl (u_17.2.1 0)))] := hD
        have hw_20 : ((u_17.2.1 0) = upd f_3 (6 * x0.toInt + x_1.toInt).toNat x_16) := hw_19
        refine b_iinc (pc := 34) hx hb dX8_takeAway_34 hl (k := 0) rfl rfl tI_1 (by first | exact (om_2 hi_2.1) | ((first | omega | (unfold zBd at *; omega)))) (by first | exact (om_136 c_6) | ((first | omega | (unfold zBd at *; omega)))) (by decide) (fun x_21 ex_21 ls hl => ?_)
        replace hl : lv_has ls 5 [(4, .int x_21), (0, .ref a0), (1, .int x0), (2, .int x1), (3, .int x2)] := hl
        refine lv_goto (pc := 37) (tgt := 3) hx hb dX8_takeAway_37 (by decide) ?_
        exact ih_lp_5 x_21 (u_17.2.1 0) _ _ ls (by first | exact (om_574 ex_21 hi_2.1 c_6) | ((first | omega | (unfold zBd at *; omega)))) (ta_step hi_4 hw_10 hw_14 ex_15 ex_16 hw_20 rfl (by first | exact (om_0 hp1.1) | ((first | omega | (unfold zBd at *; omega)))) (by first | exact (om_0 hp2.1) | ((first | omega | (unfold zBd at *; omega)))) hg__ne (by first | exact (om_0 hi_2.1) | ((first | omega | (unfold zBd at *; omega)))) (by first | exact (om_1975 c_6) | ((first | omega | (unfold zBd at *; omega)))) (by first | exact (om_5 ex_21) | ((first | omega | (unfold zBd at *; omega))))) (by (first | omega | (unfold zBd at *; omega))) hP hD hS (lv_sub hl [0, 1, 2, 3, 4] rfl)
  exact lp_5 _ 0 f0 _ _ ls (n_c tI_0 (by decide)) (ta_0 (by decide)) (Nat.lt_succ_self _) hP hD hS (lv_sub hl [0, 1, 2, 3, 4] rfl)
theorem om_1976 {a b c : Int} (h0 : (a = c * 5)) (h1 : (b < 5)) (h2 : (c ≤ 4)) : (a + b ≤ 2147483647) := by omega
theorem om_1977 {a b c d : Int} (h0 : (a = b + c)) (h1 : (b = d * 5)) (h2 : (c < 5)) (h3 : (d ≤ 4)) : (a < (25 : Nat)) := by omega
set_option maxHeartbeats 4000000 in
set_option maxRecDepth 100000 in
theorem k_X2_takeAway_e (l : Launch) (D : va_G) (cB cC cI cJ : ClassId) (sz : Nat) (a0 a1 a2 a3 a4 : Nat) (x0 x1 x2 x3 x4 x5 x6 x7 : Int32) (f0 : Nat → Int32) (g0 : Nat → Int64) (hp1 : (0 ≤ x0.toInt ∧ x0.toInt ≤ 4)) (hp2 : (0 ≤ x1.toInt ∧ x1.toInt ≤ 4)) (h_x3 : zBd x3.toInt (-1) 5) (h_x4 : zBd x4.toInt 0 39) (h_x5 : zBd x5.toInt 0 40) (h_x6 : zBd x6.toInt 0 40) (hr_a0_0 : (x5.toInt + x6.toInt ≤ 40)) (hg__ne : ¬ x0.toInt = x1.toInt) : Met l yX2_takeAway (.code yX2_takeAway cX2_takeAway 5 none :: lw_gd) ({ frames := 2, cells := 0, slots := 0, locals := 47 }) (gPre D [(cB, .byte), (cC, .char), (cI, .int), (cJ, .long)] [.ref a0, .int x0, .int x1, .int x2] [(a0, .inr (2, [.ref a1, .ref a2, .ref a3, .int x3, .int x4, .int x5, .int x6, .int x7])), (a1, .inr (8, [.ref a4])), (a4, .inl (cI, 30, .inl f0)), (a2, .inl (cJ, 25, .inr (.inl g0)))] sz) (va_Qv (fun u => (taQ f0 (u.2.1 0) x0.toInt x1.toInt x2 6)) (gB D (va_A [(a0, .inr (2, [.ref a1, .ref a2, .ref a3, .int x3, .int x4, .int x5, .int x6, .int x7])), (a1, .inr (8, [.ref a4])), (a4, .inl (cI, 30, .inl f0)), (a2, .inl (cJ, 25, .inr (.inl g0)))] sz) (fun u : gEx => [(a0, .inr (2, [.ref a1, .ref a2, .ref a3, .int x3, .int x4, .int x5, .int x6, .int x7])), (a1, .inr (8, [.ref a4])), (a4, .inl (cI, 30, .inl (u.2.1 0))), (a2, .inl (cJ, 25, .inr (.inl (u.2.2.1 0))))])) (va_A [(a0, .inr (2, [.ref a1, .ref a2, .ref a3, .int x3, .int x4, .int x5, .int x6, .int x7])), (a1, .inr (8, [.ref a4])), (a4, .inl (cI, 30, .inl f0)), (a2, .inl (cJ, 25, .inr (.inl g0)))] sz)) 0 0 (va_A [(a0, .inr (2, [.ref a1, .ref a2, .ref a3, .int x3, .int x4, .int x5, .int x6, .int x7])), (a1, .inr (8, [.ref a4])), (a4, .inl (cI, 30, .inl f0)), (a2, .inl (cJ, 25, .inr (.inl g0)))] sz) := by
  refine gOf_v (by decide +kernel) (Nat.le_of_ble_eq_true rfl) ?_
  intro p e s m args below meth c ls A Q hx hb hts hown hml hN hK hP hD hA hl hret
  replace hown : s.vm.findClass RX2 = some m.cls := hown
  have hS : va_S A s.heap s.heap [] := va_S.rf
  replace hP : va_P D gcl [(a0, .inr (2, [.ref a1, .ref a2, .ref a3, .int x3, .int x4, .int x5, .int x6, .int x7])), (a1, .inr (8, [.ref a4])), (a4, .inl (cI, 30, .inl f0)), (a2, .inl (cJ, 25, .inr (.inl g0)))] s.heap := hP
  replace hl : lv_has ls 5 [(0, .ref a0), (1, .int x0), (2, .int x1), (3, .int x2)] := hl
  have rx2 : zBd x2.toInt (-2147483648) 2147483647 := n_rng x2
  have rx7 : zBd x7.toInt (-2147483648) 2147483647 := n_rng x7
  refine lv_aload_n (pc := 0) hx hb dX2_takeAway_0 rfl (lv_at hl 0 rfl) ?_
  refine va_get (pc := 1) (ci := 2) (v := .ref a1) (C := RX2) (T := TX2) (N := 8) hx hb hts iX2 hown hK hP 0 rfl rfl 0 (by decide) (hts _ tw_391) (fun _ h9 => h9) rfl dX2_takeAway_1 ?_
  refine lv_iload_n (pc := 4) hx hb dX2_takeAway_4 rfl (lv_at hl 1 rfl) ?_
  refine lv_iload_n (pc := 5) hx hb dX2_takeAway_5 rfl (lv_at hl 2 rfl) ?_
  refine lv_iload_n (pc := 6) hx hb dX2_takeAway_6 rfl (lv_at hl 3 rfl) ?_
  refine gd_v (pc := 7) (wc := [(a1, .inr (8, [.ref a4])), (a4, .inl (cI, 30, .inl f0))]) hP hD hS hA [1, 2] rfl (by decide +kernel) (fun _ => by rfl) (fun hPc hDc => va_runV (As := [.int x0, .int x1, .int x2]) (rest := []) ⟨hx, hb, hml, hown, hts⟩ (k_X8_takeAway_e l D cB cC cI cJ _ a1 a4 x0 x1 x2 f0 hp1 hp2 hg__ne) ⟨gcwB hts tw_1065 tw_5 tw_1062 hd_yX8_takeAway ⟨Nat.le_of_ble_eq_true rfl, Nat.le_of_ble_eq_true rfl⟩, hts _ tw_1063, hts _ tw_1064⟩ ⟨gblind, va_recv hK hPc (ci := 8) (q0 := 0) rfl rfl, (gpreS hPc hK hDc hN).2⟩ rfl rfl hl.1 rfl (lv_room (Nat.le_of_ble_eq_true rfl)) dX2_takeAway_7 ⟨Nat.le_of_ble_eq_true rfl, Nat.le_of_ble_eq_true rfl⟩) (fun u_1 H locs hw_3 hP hD hS => ?_)
  replace hP : va_P D gcl [(a0, .inr (2, [.ref a1, .ref a2, .ref a3, .int x3, .int x4, .int x5, .int x6, .int x7])), (a1, .inr (8, [.ref a4])), (a4, .inl (cI, 30, .inl (u_1.2.1 0))), (a2, .inl (cJ, 25, .inr (.inl g0)))] H := hP
  replace hD : va_D A [(a0, .inr (2, [.ref a1, .ref a2, .ref a3, .int x3, .int x4, .int x5, .int x6, .int x7])), (a1, .inr (8, [.ref a4])), (a4, .inl (cI, 30, .inl (u_1.2.1 0))), (a2, .inl (cJ, 25, .inr (.inl g0)))] := hD
  have hw_4 : (taQ f0 (u_1.2.1 0) x0.toInt x1.toInt x2 6) := hw_3
  refine lv_iconst (pc := 10) (v := 0) hx hb dX2_takeAway_10 (by decide) ?_
  refine lv_istore (pc := 11) (lv' := [(4, .int 0), (0, .ref a0), (1, .int x0), (2, .int x1), (3, .int x2)]) hx hb dX2_takeAway_11 hl (by decide) rfl (fun ls hl => ?_)
  have lp_8 : ∀ (n : Nat) (x_5 : Int32) (g_7 : Nat → Int64) (H : Heap) (locs : List Loc) (ls : Array Slot), (0 ≤ x_5.toInt ∧ x_5.toInt ≤ 2147483647) → (2147483647 - x_5.toInt).toNat < n → va_P D gcl [(a0, .inr (2, [.ref a1, .ref a2, .ref a3, .int x3, .int x4, .int x5, .int x6, .int x7])), (a1, .inr (8, [.ref a4])), (a4, .inl (cI, 30, .inl (u_1.2.1 0))), (a2, .inl (cJ, 25, .inr (.inl g_7)))] H → va_D A [(a0, .inr (2, [.ref a1, .ref a2, .ref a3, .int x3, .int x4, .int x5, .int x6, .int x7])), (a1, .inr (8, [.ref a4])), (a4, .inl (cI, 30, .inl (u_1.2.1 0))), (a2, .inl (cJ, 25, .inr (.inl g_7)))] → va_S A s.heap H locs → lv_has ls 5 [(4, .int x_5), (0, .ref a0), (1, .int x0), (2, .int x1), (3, .int x2)] → W p l e ({ frames := 2, cells := 0, slots := 0, locals := 47 }) s m args below meth c H locs 0 0 Q (F0 m 13 ls []) := by
    intro n
    induction n with
    | zero => intro x_5 g_7 H locs ls hi_6 hmu; exact absurd hmu (Nat.not_lt_zero _)
    | succ n ih_lp_8 =>
      intro x_5 g_7 H locs ls hi_6 hmu_lp_8 hP hD hS hl
      refine lv_iload (pc := 13) hx hb dX2_takeAway_13 (lv_at hl 0 rfl) ?_
      refine lv_iconst (pc := 15) (v := 5) hx hb dX2_takeAway_15 (by decide) ?_
      refine b_icmp_ge (pc := 16) (tgt := 53) hx hb rfl tI_5  dX2_takeAway_16 (by decide) (fun c_9 => ?_) (fun c_9 => ?_)
      ·
        exact hret ((fun _ => 0), (fun k => [(u_1.2.1 0)].getD k (fun _ => 0)), (fun k => [g_7].getD k (fun _ => 0)), (fun _ => 0), (fun _ => 0)) dX2_takeAway_53 (show taQ f0 (u_1.2.1 0) x0.toInt x1.toInt x2 6 from hw_4) (g_psub (wc := [(a0, .inr (2, [.ref a1, .ref a2, .ref a3, .int x3, .int x4, .int x5, .int x6, .int x7])), (a1, .inr (8, [.ref a4])), (a4, .inl (cI, 30, .inl (u_1.2.1 0))), (a2, .inl (cJ, 25, .inr (.inl g_7)))]) hP [0, 1, 2, 3] rfl) (hD.sub (ws' := [(a0, .inr (2, [.ref a1, .ref a2, .ref a3, .int x3, .int x4, .int x5, .int x6, .int x7])), (a1, .inr (8, [.ref a4])), (a4, .inl (cI, 30, .inl (u_1.2.1 0))), (a2, .inl (cJ, 25, .inr (.inl g_7)))]) [0, 1, 2, 3] (by decide) rfl) hS
      ·
        refine lv_aload_n (pc := 19) hx hb dX2_takeAway_19 rfl (lv_at hl 1 rfl) ?_
        refine va_get (pc := 20) (ci := 2) (v := .ref a2) (C := RX2) (T := TX2) (N := 8) hx hb hts iX2 hown hK hP 0 rfl rfl 1 (by decide) (hts _ tw_393) (fun _ h9 => h9) rfl dX2_takeAway_20 ?_
        refine lv_iload_n (pc := 23) hx hb dX2_takeAway_23 rfl (lv_at hl 2 rfl) ?_
        refine lv_iconst (pc := 24) (v := 5) hx hb dX2_takeAway_24 (by decide) ?_
        refine b_imul (pc := 25) hx hb rfl tI_5 (by first | exact (om_330 hp1.1) | ((first | omega | (unfold zBd at *; omega)))) (by first | exact (om_1162 hp1.2) | ((first | omega | (unfold zBd at *; omega)))) dX2_takeAway_25 (fun x_10 ex_10 => ?_)
        refine lv_iload (pc := 26) hx hb dX2_takeAway_26 (lv_at hl 0 rfl) ?_
        refine b_iadd (pc := 28) hx hb rfl rfl (by first | exact (om_332 ex_10 hi_6.1 hp1.1) | ((first | omega | (unfold zBd at *; omega)))) (by first | exact (om_1976 ex_10 c_9 hp1.2) | ((first | omega | (unfold zBd at *; omega)))) dX2_takeAway_28 (fun x_11 ex_11 => ?_)
        refine lv_dup2_11 (pc := 29) hx hb dX2_takeAway_29 rfl rfl ?_
        refine va_lald (pc := 30) hx hb hK hP 3 3 rfl rfl (n_in rfl (by first | exact (om_334 ex_11 ex_10 hi_6.1 hp1.1) | ((first | omega | (unfold zBd at *; omega)))) (by first | exact (om_1977 ex_11 ex_10 c_9 hp1.2) | ((first | omega | (unfold zBd at *; omega))))) dX2_takeAway_30 ?_
        refine lv_topl (fun y_12 ey_12 => ?_)
        have ry_12 := n_rngL y_12
        refine lv_iload_n (pc := 31) hx hb dX2_takeAway_31 rfl (lv_at hl 4 rfl) ?_
        refine b_i2l (pc := 32) hx hb rfl dX2_takeAway_32 (fun y_13 ey_13 => ?_)
        have ry_13 : zBd x2.toInt (-2147483648) 2147483647 := n_rng x2
        refine lv_aload_n (pc := 33) hx hb dX2_takeAway_33 rfl (lv_at hl 1 rfl) ?_
        refine va_get (pc := 34) (ci := 2) (v := .ref a2) (C := RX2) (T := TX2) (N := 8) hx hb hts iX2 hown hK hP 0 rfl rfl 1 (by decide) (hts _ tw_393) (fun _ h9 => h9) rfl dX2_takeAway_34 ?_
        refine lv_iload_n (pc := 37) hx hb dX2_takeAway_37 rfl (lv_at hl 3 rfl) ?_
        refine lv_iconst (pc := 38) (v := 5) hx hb dX2_takeAway_38 (by decide) ?_
        refine b_imul (pc := 39) hx hb rfl tI_5 (by first | exact (om_330 hp2.1) | ((first | omega | (unfold zBd at *; omega)))) (by first | exact (om_1162 hp2.2) | ((first | omega | (unfold zBd at *; omega)))) dX2_takeAway_39 (fun x_14 ex_14 => ?_)
        refine lv_iload (pc := 40) hx hb dX2_takeAway_40 (lv_at hl 0 rfl) ?_
        refine b_iadd (pc := 42) hx hb rfl rfl (by first | exact (om_332 ex_14 hi_6.1 hp2.1) | ((first | omega | (unfold zBd at *; omega)))) (by first | exact (om_1976 ex_14 c_9 hp2.2) | ((first | omega | (unfold zBd at *; omega)))) dX2_takeAway_42 (fun x_15 ex_15 => ?_)
        refine va_lald (pc := 43) hx hb hK hP 3 3 rfl rfl (n_in rfl (by first | exact (om_334 ex_15 ex_14 hi_6.1 hp2.1) | ((first | omega | (unfold zBd at *; omega)))) (by first | exact (om_1977 ex_15 ex_14 c_9 hp2.2) | ((first | omega | (unfold zBd at *; omega))))) dX2_takeAway_43 ?_
        refine lv_topl (fun y_16 ey_16 => ?_)
        have ry_16 := n_rngL y_16
        refine lv_lmul (pc := 44) hx hb dX2_takeAway_44 ?_
        refine lv_topl (fun y_17 _ => ?_)
        have ry_17 := n_rngL y_17
        refine lv_lsub (pc := 45) hx hb dX2_takeAway_45 ?_
        refine lv_topl (fun y_18 _ => ?_)
        have ry_18 := n_rngL y_18
        refine g_lastore (pc := 46) hx hb hK hP hD hS 3 3 rfl rfl (n_in rfl (by first | exact (om_334 ex_11 ex_10 hi_6.1 hp1.1) | ((first | omega | (unfold zBd at *; omega)))) (by first | exact (om_1977 ex_11 ex_10 c_9 hp1.2) | ((first | omega | (unfold zBd at *; omega))))) dX2_takeAway_46 (fun g_19 H locs hP hD hS => ?_)
        replace hP : va_P D gcl [(a0, .inr (2, [.ref a1, .ref a2, .ref a3, .int x3, .int x4, .int x5, .int x6, .int x7])), (a1, .inr (8, [.ref a4])), (a4, .inl (cI, 30, .inl (u_1.2.1 0))), (a2, .inl (cJ, 25, .inr (.inl g_19)))] H := hP
        replace hD : va_D A [(a0, .inr (2, [.ref a1, .ref a2, .ref a3, .int x3, .int x4, .int x5, .int x6, .int x7])), (a1, .inr (8, [.ref a4])), (a4, .inl (cI, 30, .inl (u_1.2.1 0))), (a2, .inl (cJ, 25, .inr (.inl g_19)))] := hD
        refine b_iinc (pc := 47) hx hb dX2_takeAway_47 hl (k := 0) rfl rfl tI_1 (by first | exact (om_2 hi_6.1) | ((first | omega | (unfold zBd at *; omega)))) (by first | exact (om_410 c_9) | ((first | omega | (unfold zBd at *; omega)))) (by decide) (fun x_20 ex_20 ls hl => ?_)
        replace hl : lv_has ls 5 [(4, .int x_20), (0, .ref a0), (1, .int x0), (2, .int x1), (3, .int x2)] := hl
        refine lv_goto (pc := 50) (tgt := 13) hx hb dX2_takeAway_50 (by decide) ?_
        exact ih_lp_8 x_20 g_19 _ _ ls (by first | exact (om_411 ex_20 hi_6.1 c_9) | ((first | omega | (unfold zBd at *; omega)))) (by (first | omega | (unfold zBd at *; omega))) hP hD hS (lv_sub hl [0, 1, 2, 3, 4] rfl)
  exact lp_8 _ 0 g0 _ _ ls (n_c tI_0 (by decide)) (Nat.lt_succ_self _) hP hD hS (lv_sub hl [0, 1, 2, 3, 4] rfl)
theorem om_1978 {a : Int} (h0 : (a < 200)) : (a + 1 ≤ 2147483647) := by omega
theorem om_1979 {a : Int} (h0 : (0 ≤ a)) (h1 : (a ≤ 39)) : (0 ≤ a ∧ a < 40) := by omega
theorem om_1980 {a b : Int} (h0 : (0 ≤ a)) (h1 : (a < b)) (h2 : (b ≤ 5)) : (0 ≤ a ∧ a ≤ 4) := by omega
theorem om_1981 {a : Int} (h0 : (a < 200)) : (a < 200) := by omega
theorem om_1982 {a b c : Int} (h0 : (0 ≤ a)) (h1 : (a < b)) (h2 : (0 ≤ c)) (h3 : (c < b)) (h4 : (b ≤ 5)) : (0 ≤ a ∧ a < b ∧ 0 ≤ c ∧ c < b ∧ b ≤ 5) := by omega
theorem om_1983 {a : Int} (h0 : (a ≥ 200)) : (200 ≤ a) := by omega
set_option maxHeartbeats 4000000 in
set_option maxRecDepth 100000 in
theorem k_X2_makeStep (l : Launch) (D : va_G) (cB cC cI cJ : ClassId) (sz : Nat) (a0 a1 a2 a3 a4 : Nat) (x0 x1 x2 x3 x4 : Int32) (f0 f1 : Nat → Int32) (g0 : Nat → Int64) (h_x0 : zBd x0.toInt (-1) 5) (h_x1 : zBd x1.toInt 0 39) (h_x2 : zBd x2.toInt 0 40) (h_x3 : zBd x3.toInt 0 40) (hr_a0_0 : (x2.toInt + x3.toInt ≤ 40)) (hg_led : LedOK f0 f1 x1.toInt x2.toInt x3.toInt) : Met l yX2_makeStep (.code yX2_makeStep cX2_makeStep 4 (some .boolean) :: lw_gd) ({ frames := 3, cells := 0, slots := 0, locals := 71 }) (gPre D [(cB, .byte), (cC, .char), (cI, .int), (cJ, .long)] [.ref a0] [(a0, .inr (2, [.ref a1, .ref a2, .ref a3, .int x0, .int x1, .int x2, .int x3, .int x4])), (a1, .inr (8, [.ref a4])), (a4, .inl (cI, 30, .inl f0)), (a3, .inl (cI, 120, .inl f1)), (a2, .inl (cJ, 25, .inr (.inl g0)))] sz) (va_Qi (fun r u => (0 ≤ r.toInt ∧ r.toInt ≤ 1) ∧ (0 ≤ (u.2.2.2.1 0).toInt ∧ (u.2.2.2.1 0).toInt ≤ 39) ∧ (0 ≤ (u.2.2.2.1 1).toInt ∧ (u.2.2.2.1 1).toInt ≤ 40) ∧ (0 ≤ (u.2.2.2.1 2).toInt ∧ (u.2.2.2.1 2).toInt ≤ 40) ∧ ((u.2.2.2.1 1).toInt + (u.2.2.2.1 2).toInt ≤ 40) ∧ (LedOK (u.2.1 0) (u.2.1 1) (u.2.2.2.1 0).toInt (u.2.2.2.1 1).toInt (u.2.2.2.1 2).toInt) ∧ (isX f0 (u.2.1 0) f1 (u.2.1 1) x1.toInt (u.2.2.2.1 0).toInt x2.toInt (u.2.2.2.1 1).toInt x3.toInt (u.2.2.2.1 2).toInt x4.toInt (u.2.2.2.1 3).toInt x0.toInt r.toInt)) (gB D (va_A [(a0, .inr (2, [.ref a1, .ref a2, .ref a3, .int x0, .int x1, .int x2, .int x3, .int x4])), (a1, .inr (8, [.ref a4])), (a4, .inl (cI, 30, .inl f0)), (a3, .inl (cI, 120, .inl f1)), (a2, .inl (cJ, 25, .inr (.inl g0)))] sz) (fun u : gEx => [(a0, .inr (2, [.ref a1, .ref a2, .ref a3, .int x0, .int (u.2.2.2.1 0), .int (u.2.2.2.1 1), .int (u.2.2.2.1 2), .int (u.2.2.2.1 3)])), (a1, .inr (8, [.ref a4])), (a4, .inl (cI, 30, .inl (u.2.1 0))), (a3, .inl (cI, 120, .inl (u.2.1 1))), (a2, .inl (cJ, 25, .inr (.inl (u.2.2.1 0))))])) (va_A [(a0, .inr (2, [.ref a1, .ref a2, .ref a3, .int x0, .int x1, .int x2, .int x3, .int x4])), (a1, .inr (8, [.ref a4])), (a4, .inl (cI, 30, .inl f0)), (a3, .inl (cI, 120, .inl f1)), (a2, .inl (cJ, 25, .inr (.inl g0)))] sz)) 0 0 (va_A [(a0, .inr (2, [.ref a1, .ref a2, .ref a3, .int x0, .int x1, .int x2, .int x3, .int x4])), (a1, .inr (8, [.ref a4])), (a4, .inl (cI, 30, .inl f0)), (a3, .inl (cI, 120, .inl f1)), (a2, .inl (cJ, 25, .inr (.inl g0)))] sz) := by
  refine gOf_z (by decide +kernel) (Nat.le_of_ble_eq_true rfl) ?_
  intro p e s m args below meth c ls A Q hx hb hts hown hml hN hK hP hD hA hl hret
  replace hown : s.vm.findClass RX2 = some m.cls := hown
  have hS : va_S A s.heap s.heap [] := va_S.rf
  replace hP : va_P D gcl [(a0, .inr (2, [.ref a1, .ref a2, .ref a3, .int x0, .int x1, .int x2, .int x3, .int x4])), (a1, .inr (8, [.ref a4])), (a4, .inl (cI, 30, .inl f0)), (a3, .inl (cI, 120, .inl f1)), (a2, .inl (cJ, 25, .inr (.inl g0)))] s.heap := hP
  replace hl : lv_has ls 4 [(0, .ref a0)] := hl
  have rx4 : zBd x4.toInt (-2147483648) 2147483647 := n_rng x4
  refine lv_aload_n (pc := 0) hx hb dX2_makeStep_0 rfl (lv_at hl 0 rfl) ?_
  refine va_get (pc := 1) (ci := 2) (v := .int x4) (C := RX2) (T := TX2) (N := 8) hx hb hts iX2 hown hK hP 0 rfl rfl 7 (by decide) (hts _ tw_401) (fun _ h9 => h9) rfl dX2_makeStep_1 ?_
  refine lv_sipush (pc := 4) (v := 200) hx hb dX2_makeStep_4 (by decide) ?_
  refine b_icmp_lt (pc := 7) (tgt := 12) hx hb rfl tI_200  dX2_makeStep_7 (by decide) (fun c_1 => ?_) (fun c_1 => ?_)
  ·
    refine lv_iconst (pc := 12) (v := 0) hx hb dX2_makeStep_12 (by decide) ?_
    refine lv_istore_n (pc := 13) (lv' := [(1, .int 0), (0, .ref a0)]) hx hb dX2_makeStep_13 rfl hl (by decide) rfl (fun ls hl => ?_)
    have lp_5 : ∀ (n : Nat) (x_2 : Int32) (H : Heap) (locs : List Loc) (ls : Array Slot), (0 ≤ x_2.toInt ∧ x_2.toInt ≤ 2147483647) → (noq (trT f0) 6 x0.toInt x_2.toInt 0) → (2147483647 - x_2.toInt).toNat < n → va_P D gcl [(a0, .inr (2, [.ref a1, .ref a2, .ref a3, .int x0, .int x1, .int x2, .int x3, .int x4])), (a1, .inr (8, [.ref a4])), (a4, .inl (cI, 30, .inl f0)), (a3, .inl (cI, 120, .inl f1)), (a2, .inl (cJ, 25, .inr (.inl g0)))] H → va_D A [(a0, .inr (2, [.ref a1, .ref a2, .ref a3, .int x0, .int x1, .int x2, .int x3, .int x4])), (a1, .inr (8, [.ref a4])), (a4, .inl (cI, 30, .inl f0)), (a3, .inl (cI, 120, .inl f1)), (a2, .inl (cJ, 25, .inr (.inl g0)))] → va_S A s.heap H locs → lv_has ls 4 [(1, .int x_2), (0, .ref a0)] → W p l e ({ frames := 3, cells := 0, slots := 0, locals := 71 }) s m args below meth c H locs 0 0 Q (F0 m 14 ls []) := by
      intro n
      induction n with
      | zero => intro x_2 H locs ls hi_3 hi_4 hmu; exact absurd hmu (Nat.not_lt_zero _)
      | succ n ih_lp_5 =>
        intro x_2 H locs ls hi_3 hi_4 hmu_lp_5 hP hD hS hl
        refine lv_iload_n (pc := 14) hx hb dX2_makeStep_14 rfl (lv_at hl 0 rfl) ?_
        refine lv_aload_n (pc := 15) hx hb dX2_makeStep_15 rfl (lv_at hl 1 rfl) ?_
        refine va_get (pc := 16) (ci := 2) (v := .int x0) (C := RX2) (T := TX2) (N := 8) hx hb hts iX2 hown hK hP 0 rfl rfl 3 (by decide) (hts _ tw_395) (fun _ h9 => h9) rfl dX2_makeStep_16 ?_
        have bd_h_x0 : (-1) ≤ x0.toInt ∧ x0.toInt ≤ 5 := h_x0
        refine b_icmp_ge (pc := 19) (tgt := 90) hx hb rfl rfl  dX2_makeStep_19 (by decide) (fun c_6 => ?_) (fun c_6 => ?_)
        ·
          refine lv_iconst (pc := 90) (v := 0) hx hb dX2_makeStep_90 (by decide) ?_
          have k9 := tI_0
          exact hret 0 ((fun _ => 0), (fun k => [f0, f1].getD k (fun _ => 0)), (fun k => [g0].getD k (fun _ => 0)), (fun k => [x1, x2, x3, x4].getD k 0), (fun _ => 0)) dX2_makeStep_91 ⟨(Or.inl tI_0), ⟨(show (0 ≤ (0 : Int32).toInt ∧ (0 : Int32).toInt ≤ 1) from (n_c tI_0 (by decide))), (show (0 ≤ (x1 : Int32).toInt ∧ (x1 : Int32).toInt ≤ 39) from h_x1), (show (0 ≤ (x2 : Int32).toInt ∧ (x2 : Int32).toInt ≤ 40) from h_x2), (show (0 ≤ (x3 : Int32).toInt ∧ (x3 : Int32).toInt ≤ 40) from h_x3), (show ((x2 : Int32).toInt + (x3 : Int32).toInt ≤ 40) from hr_a0_0), (show LedOK f0 f1 x1.toInt x2.toInt x3.toInt from hg_led), (show isX f0 f0 f1 f1 x1.toInt x1.toInt x2.toInt x2.toInt x3.toInt x3.toInt x4.toInt x4.toInt x0.toInt (0 : Int32).toInt from isX_no (by first | exact (om_31 tI_0) | ((first | omega | (unfold zBd at *; omega)))) (Or.inr (noq_all hi_4 (by first | exact (om_504 c_6) | ((first | omega | (unfold zBd at *; omega)))))))⟩⟩ (g_psub (wc := [(a0, .inr (2, [.ref a1, .ref a2, .ref a3, .int x0, .int x1, .int x2, .int x3, .int x4])), (a1, .inr (8, [.ref a4])), (a4, .inl (cI, 30, .inl f0)), (a3, .inl (cI, 120, .inl f1)), (a2, .inl (cJ, 25, .inr (.inl g0)))]) hP [0, 1, 2, 3, 4] rfl) (hD.sub (ws' := [(a0, .inr (2, [.ref a1, .ref a2, .ref a3, .int x0, .int x1, .int x2, .int x3, .int x4])), (a1, .inr (8, [.ref a4])), (a4, .inl (cI, 30, .inl f0)), (a3, .inl (cI, 120, .inl f1)), (a2, .inl (cJ, 25, .inr (.inl g0)))]) [0, 1, 2, 3, 4] (by decide) rfl) hS
        ·
          refine lv_iconst (pc := 22) (v := 0) hx hb dX2_makeStep_22 (by decide) ?_
          refine lv_istore_n (pc := 23) (lv' := [(2, .int 0), (1, .int x_2), (0, .ref a0)]) hx hb dX2_makeStep_23 rfl hl (by decide) rfl (fun ls hl => ?_)
          have lp_10 : ∀ (n : Nat) (x_7 : Int32) (H : Heap) (locs : List Loc) (ls : Array Slot), (0 ≤ x_7.toInt ∧ x_7.toInt ≤ 2147483647) → (noq (trT f0) 6 x0.toInt x_2.toInt x_7.toInt) → (2147483647 - x_7.toInt).toNat < n → va_P D gcl [(a0, .inr (2, [.ref a1, .ref a2, .ref a3, .int x0, .int x1, .int x2, .int x3, .int x4])), (a1, .inr (8, [.ref a4])), (a4, .inl (cI, 30, .inl f0)), (a3, .inl (cI, 120, .inl f1)), (a2, .inl (cJ, 25, .inr (.inl g0)))] H → va_D A [(a0, .inr (2, [.ref a1, .ref a2, .ref a3, .int x0, .int x1, .int x2, .int x3, .int x4])), (a1, .inr (8, [.ref a4])), (a4, .inl (cI, 30, .inl f0)), (a3, .inl (cI, 120, .inl f1)), (a2, .inl (cJ, 25, .inr (.inl g0)))] → va_S A s.heap H locs → lv_has ls 4 [(2, .int x_7), (1, .int x_2), (0, .ref a0)] → W p l e ({ frames := 3, cells := 0, slots := 0, locals := 71 }) s m args below meth c H locs 0 0 Q (F0 m 24 ls []) := by
            intro n
            induction n with
            | zero => intro x_7 H locs ls hi_8 hi_9 hmu; exact absurd hmu (Nat.not_lt_zero _)
            | succ n ih_lp_10 =>
              intro x_7 H locs ls hi_8 hi_9 hmu_lp_10 hP hD hS hl
              refine lv_iload_n (pc := 24) hx hb dX2_makeStep_24 rfl (lv_at hl 0 rfl) ?_
              refine lv_aload_n (pc := 25) hx hb dX2_makeStep_25 rfl (lv_at hl 2 rfl) ?_
              refine va_get (pc := 26) (ci := 2) (v := .int x0) (C := RX2) (T := TX2) (N := 8) hx hb hts iX2 hown hK hP 0 rfl rfl 3 (by decide) (hts _ tw_395) (fun _ h9 => h9) rfl dX2_makeStep_26 ?_
              refine b_icmp_ge (pc := 29) (tgt := 84) hx hb rfl rfl  dX2_makeStep_29 (by decide) (fun c_11 => ?_) (fun c_11 => ?_)
              ·
                refine b_iinc (pc := 84) hx hb dX2_makeStep_84 hl (k := 1) rfl rfl tI_1 (by first | exact (om_2 hi_3.1) | ((first | omega | (unfold zBd at *; omega)))) (by first | exact (om_338 c_6 h_x0.2) | ((first | omega | (unfold zBd at *; omega)))) (by decide) (fun x_12 ex_12 ls hl => ?_)
                replace hl : lv_has ls 4 [(1, .int x_12), (2, .int x_7), (0, .ref a0)] := hl
                refine lv_goto (pc := 87) (tgt := 14) hx hb dX2_makeStep_87 (by decide) ?_
                exact ih_lp_5 x_12 _ _ ls (by first | exact (om_339 ex_12 hi_3.1 c_6 h_x0.2) | ((first | omega | (unfold zBd at *; omega)))) (noq_i hi_9 (by first | exact (om_504 c_11) | ((first | omega | (unfold zBd at *; omega)))) (by first | exact (om_5 ex_12) | ((first | omega | (unfold zBd at *; omega)))) rfl) (by (first | omega | (unfold zBd at *; omega))) hP hD hS (lv_sub hl [0, 2] rfl)
              ·
                refine lv_iload_n (pc := 32) hx hb dX2_makeStep_32 rfl (lv_at hl 1 rfl) ?_
                refine lv_iload_n (pc := 33) hx hb dX2_makeStep_33 rfl (lv_at hl 0 rfl) ?_
                refine b_icmp_ne (pc := 34) (tgt := 41) hx hb rfl rfl  dX2_makeStep_34 (by decide) (fun c_13 => ?_) (fun c_13 => ?_)
                ·
                  refine lv_aload_n (pc := 41) hx hb dX2_makeStep_41 rfl (lv_at hl 2 rfl) ?_
                  refine lv_iload_n (pc := 42) hx hb dX2_makeStep_42 rfl (lv_at hl 1 rfl) ?_
                  refine lv_iload_n (pc := 43) hx hb dX2_makeStep_43 rfl (lv_at hl 0 rfl) ?_
                  refine gd_i (pc := 44) (wc := [(a0, .inr (2, [.ref a1, .ref a2, .ref a3, .int x0, .int x1, .int x2, .int x3, .int x4])), (a1, .inr (8, [.ref a4])), (a4, .inl (cI, 30, .inl f0))]) hP hD hS hA [0, 1, 2] rfl (by decide +kernel) (fun _ => by rfl) (fun hPc hDc => va_runV (As := [.int x_2, .int x_7]) (rest := []) ⟨hx, hb, hml, hown, hts⟩ (k_X2_timesIn l D cB cC cI cJ _ a0 a1 a2 a3 a4 x_2 x_7 x0 x1 x2 x3 x4 f0 (by first | exact (om_360 hi_3.1 c_6 h_x0.2) | ((first | omega | (unfold zBd at *; omega)))) (by first | exact (om_360 hi_8.1 c_11 h_x0.2) | ((first | omega | (unfold zBd at *; omega)))) h_x0 h_x1 h_x2 h_x3 hr_a0_0 (Led_SH hg_led (by first | exact (om_0 h_x2.1) | ((first | omega | (unfold zBd at *; omega)))) (by first | exact (om_0 h_x3.1) | ((first | omega | (unfold zBd at *; omega)))))) ⟨gcwB hts tw_1047 tw_13 tw_1044 hd_yX2_timesIn ⟨Nat.le_of_ble_eq_true rfl, Nat.le_of_ble_eq_true rfl⟩, hts _ tw_1046, hts _ tp_41⟩ ⟨gblind, va_recv hK hPc (ci := 2) (q0 := 0) rfl rfl, (gpreS hPc hK hDc hN).2⟩ rfl rfl hl.1 rfl (lv_room (Nat.le_of_ble_eq_true rfl)) dX2_makeStep_44 ⟨Nat.le_of_ble_eq_true rfl, Nat.le_of_ble_eq_true rfl⟩) (fun r_15 u_14 H locs hw_16 hP hD hS => ?_)
                  replace hP : va_P D gcl [(a0, .inr (2, [.ref a1, .ref a2, .ref a3, .int x0, .int x1, .int x2, .int x3, .int x4])), (a1, .inr (8, [.ref a4])), (a4, .inl (cI, 30, .inl f0)), (a3, .inl (cI, 120, .inl f1)), (a2, .inl (cJ, 25, .inr (.inl g0)))] H := hP
                  replace hD : va_D A [(a0, .inr (2, [.ref a1, .ref a2, .ref a3, .int x0, .int x1, .int x2, .int x3, .int x4])), (a1, .inr (8, [.ref a4])), (a4, .inl (cI, 30, .inl f0)), (a3, .inl (cI, 120, .inl f1)), (a2, .inl (cJ, 25, .inr (.inl g0)))] := hD
                  obtain ⟨hw_17, hw_18, hw_19⟩ := hw_16
                  replace hw_17 : ((-1199999) ≤ r_15.toInt ∧ r_15.toInt ≤ 1199999) := hw_17
                  replace hw_18 : (tmQ (dtn f0 x_2.toInt x_7.toInt 6) (dtn f0 x_7.toInt x_7.toInt 6) r_15.toInt) := hw_18
                  replace hw_19 : (xtQ f0 x_2.toInt x_7.toInt r_15) := hw_19
                  have rr_15 : zBd r_15.toInt (-2147483648) 2147483647 := n_rng r_15
                  refine lv_istore_n (pc := 47) (lv' := [(3, .int r_15), (2, .int x_7), (1, .int x_2), (0, .ref a0)]) hx hb dX2_makeStep_47 rfl hl (by decide) rfl (fun ls hl => ?_)
                  refine lv_iload_n (pc := 48) hx hb dX2_makeStep_48 rfl (lv_at hl 0 rfl) ?_
                  refine b_if_eq (pc := 49) (tgt := 78) hx hb rfl  dX2_makeStep_49 (by decide) (fun c_20 => ?_) (fun c_20 => ?_)
                  ·
                    refine b_iinc (pc := 78) hx hb dX2_makeStep_78 hl (k := 1) rfl rfl tI_1 (by first | exact (om_2 hi_8.1) | ((first | omega | (unfold zBd at *; omega)))) (by first | exact (om_338 c_11 h_x0.2) | ((first | omega | (unfold zBd at *; omega)))) (by decide) (fun x_21 ex_21 ls hl => ?_)
                    replace hl : lv_has ls 4 [(2, .int x_21), (3, .int r_15), (1, .int x_2), (0, .ref a0)] := hl
                    refine lv_goto (pc := 81) (tgt := 24) hx hb dX2_makeStep_81 (by decide) ?_
                    exact ih_lp_10 x_21 _ _ ls (by first | exact (om_339 ex_21 hi_8.1 c_11 h_x0.2) | ((first | omega | (unfold zBd at *; omega)))) (noq_j hi_9 (xt_nql hw_19 (by first | exact (om_31 c_20) | ((first | omega | (unfold zBd at *; omega))))) (by first | exact (om_5 ex_21) | ((first | omega | (unfold zBd at *; omega))))) (by (first | omega | (unfold zBd at *; omega))) hP hD hS (lv_sub hl [0, 2, 3] rfl)
                  ·
                    refine lv_aload_n (pc := 52) hx hb dX2_makeStep_52 rfl (lv_at hl 3 rfl) ?_
                    refine lv_iload_n (pc := 53) hx hb dX2_makeStep_53 rfl (lv_at hl 2 rfl) ?_
                    refine lv_iload_n (pc := 54) hx hb dX2_makeStep_54 rfl (lv_at hl 1 rfl) ?_
                    refine lv_iload_n (pc := 55) hx hb dX2_makeStep_55 rfl (lv_at hl 0 rfl) ?_
                    refine gd_v (pc := 56) (wc := [(a0, .inr (2, [.ref a1, .ref a2, .ref a3, .int x0, .int x1, .int x2, .int x3, .int x4])), (a3, .inl (cI, 120, .inl f1))]) hP hD hS hA [0, 3] rfl (by decide +kernel) (fun _ => by rfl) (fun hPc hDc => va_runV (As := [.int x_2, .int x_7, .int r_15]) (rest := []) ⟨hx, hb, hml, hown, hts⟩ (k_X2_remember l D cB cC cI cJ _ a0 a1 a2 a3 x_2 x_7 r_15 x0 x1 x2 x3 x4 f1 (by first | exact (om_360 hi_3.1 c_6 h_x0.2) | ((first | omega | (unfold zBd at *; omega)))) (by first | exact (om_360 hi_8.1 c_11 h_x0.2) | ((first | omega | (unfold zBd at *; omega)))) h_x0 h_x1 h_x2 h_x3 hr_a0_0) ⟨gcwB hts tw_1053 tw_13 tw_1050 hd_yX2_remember ⟨Nat.le_of_ble_eq_true rfl, Nat.le_of_ble_eq_true rfl⟩, hts _ tw_1052, hts _ tp_42⟩ ⟨gblind, va_recv hK hPc (ci := 2) (q0 := 0) rfl rfl, (gpreS hPc hK hDc hN).2⟩ rfl rfl hl.1 rfl (lv_room (Nat.le_of_ble_eq_true rfl)) dX2_makeStep_56 ⟨Nat.le_of_ble_eq_true rfl, Nat.le_of_ble_eq_true rfl⟩) (fun u_22 H locs hw_24 hP hD hS => ?_)
                    replace hP : va_P D gcl [(a0, .inr (2, [.ref a1, .ref a2, .ref a3, .int x0, .int (u_22.2.2.2.1 0), .int (u_22.2.2.2.1 1), .int 0, .int x4])), (a1, .inr (8, [.ref a4])), (a4, .inl (cI, 30, .inl f0)), (a3, .inl (cI, 120, .inl (u_22.2.1 0))), (a2, .inl (cJ, 25, .inr (.inl g0)))] H := hP
                    replace hD : va_D A [(a0, .inr (2, [.ref a1, .ref a2, .ref a3, .int x0, .int (u_22.2.2.2.1 0), .int (u_22.2.2.2.1 1), .int 0, .int x4])), (a1, .inr (8, [.ref a4])), (a4, .inl (cI, 30, .inl f0)), (a3, .inl (cI, 120, .inl (u_22.2.1 0))), (a2, .inl (cJ, 25, .inr (.inl g0)))] := hD
                    obtain ⟨hw_25, hw_26, hw_27, hw_28, hw_29⟩ := hw_24
                    replace hw_25 : zBd (u_22.2.2.2.1 0).toInt 0 39 := hw_25
                    replace hw_26 : zBd (u_22.2.2.2.1 1).toInt 0 40 := hw_26
                    replace hw_27 : ((u_22.2.2.2.1 1).toInt + (0 : Int32).toInt ≤ 40) := hw_27
                    replace hw_28 : (remQ f1 (u_22.2.1 0) x1.toInt (u_22.2.2.2.1 0).toInt x2.toInt (u_22.2.2.2.1 1).toInt x_2 x_7 r_15) := hw_28
                    replace hw_29 : ((0 : Int32).toInt = 0) := hw_29
                    refine lv_aload_n (pc := 59) hx hb dX2_makeStep_59 rfl (lv_at hl 3 rfl) ?_
                    refine lv_iload_n (pc := 60) hx hb dX2_makeStep_60 rfl (lv_at hl 2 rfl) ?_
                    refine lv_iload_n (pc := 61) hx hb dX2_makeStep_61 rfl (lv_at hl 1 rfl) ?_
                    refine lv_iload_n (pc := 62) hx hb dX2_makeStep_62 rfl (lv_at hl 0 rfl) ?_
                    refine gd_v (pc := 63) (wc := [(a0, .inr (2, [.ref a1, .ref a2, .ref a3, .int x0, .int (u_22.2.2.2.1 0), .int (u_22.2.2.2.1 1), .int 0, .int x4])), (a1, .inr (8, [.ref a4])), (a4, .inl (cI, 30, .inl f0)), (a2, .inl (cJ, 25, .inr (.inl g0)))]) hP hD hS hA [0, 1, 2, 4] rfl (by decide +kernel) (fun _ => by rfl) (fun hPc hDc => va_runV (As := [.int x_2, .int x_7, .int r_15]) (rest := []) ⟨hx, hb, hml, hown, hts⟩ (k_X2_takeAway_e l D cB cC cI cJ _ a0 a1 a2 a3 a4 x_2 x_7 r_15 x0 (u_22.2.2.2.1 0) (u_22.2.2.2.1 1) 0 x4 f0 g0 (by first | exact (om_360 hi_3.1 c_6 h_x0.2) | (have k0 := tI_0; (first | omega | (unfold zBd at *; omega)))) (by first | exact (om_360 hi_8.1 c_11 h_x0.2) | (have k0 := tI_0; (first | omega | (unfold zBd at *; omega)))) h_x0 hw_25 hw_26 (n_c tI_0 (by decide)) hw_27 (by first | exact (om_112 c_13) | (have k0 := tI_0; (first | omega | (unfold zBd at *; omega))))) ⟨gcwB hts tw_1061 tw_13 tw_1058 hd_yX2_takeAway ⟨Nat.le_of_ble_eq_true rfl, Nat.le_of_ble_eq_true rfl⟩, hts _ tw_1060, hts _ tp_44⟩ ⟨gblind, va_recv hK hPc (ci := 2) (q0 := 0) rfl rfl, (gpreS hPc hK hDc hN).2⟩ rfl rfl hl.1 rfl (lv_room (Nat.le_of_ble_eq_true rfl)) dX2_makeStep_63 ⟨Nat.le_of_ble_eq_true rfl, Nat.le_of_ble_eq_true rfl⟩) (fun u_30 H locs hw_32 hP hD hS => ?_)
                    replace hP : va_P D gcl [(a0, .inr (2, [.ref a1, .ref a2, .ref a3, .int x0, .int (u_22.2.2.2.1 0), .int (u_22.2.2.2.1 1), .int 0, .int x4])), (a1, .inr (8, [.ref a4])), (a4, .inl (cI, 30, .inl (u_30.2.1 0))), (a3, .inl (cI, 120, .inl (u_22.2.1 0))), (a2, .inl (cJ, 25, .inr (.inl (u_30.2.2.1 0))))] H := hP
                    replace hD : va_D A [(a0, .inr (2, [.ref a1, .ref a2, .ref a3, .int x0, .int (u_22.2.2.2.1 0), .int (u_22.2.2.2.1 1), .int 0, .int x4])), (a1, .inr (8, [.ref a4])), (a4, .inl (cI, 30, .inl (u_30.2.1 0))), (a3, .inl (cI, 120, .inl (u_22.2.1 0))), (a2, .inl (cJ, 25, .inr (.inl (u_30.2.2.1 0))))] := hD
                    have hw_33 : (taQ f0 (u_30.2.1 0) x_2.toInt x_7.toInt r_15 6) := hw_32
                    have kk0_r_31 := tI_0
                    refine lv_aload_n (pc := 66) hx hb dX2_makeStep_66 rfl (lv_at hl 3 rfl) ?_
                    refine lv_dup (pc := 67) hx hb dX2_makeStep_67 rfl ?_
                    refine va_get (pc := 68) (ci := 2) (v := .int x4) (C := RX2) (T := TX2) (N := 8) hx hb hts iX2 hown hK hP 0 rfl rfl 7 (by decide) (hts _ tw_401) (fun _ h9 => h9) rfl dX2_makeStep_68 ?_
                    refine lv_iconst (pc := 71) (v := 1) hx hb dX2_makeStep_71 (by decide) ?_
                    refine b_iadd (pc := 72) hx hb rfl tI_1 (by first | exact (om_562 rx4.1) | ((first | omega | (unfold zBd at *; omega)))) (by first | exact (om_1978 c_1) | ((first | omega | (unfold zBd at *; omega)))) dX2_makeStep_72 (fun x_34 ex_34 => ?_)
                    refine va_put (pc := 73) (ci := 2) (v := .int x_34) (ty := .int) (C := RX2) (T := TX2) (N := 8) hx hb hts iX2 tyX2 tyX2_ok nmX2 hown hK hP hD hS 0 rfl rfl 7 (by decide) (hts _ tw_401) (fun _ h9 => h9) rfl (by decide +kernel) rfl rfl (Nat.le_of_ble_eq_true rfl) dX2_makeStep_73 (fun H locs hP hD hS => ?_)
                    replace hP : va_P D gcl [(a0, .inr (2, [.ref a1, .ref a2, .ref a3, .int x0, .int (u_22.2.2.2.1 0), .int (u_22.2.2.2.1 1), .int 0, .int x_34])), (a1, .inr (8, [.ref a4])), (a4, .inl (cI, 30, .inl (u_30.2.1 0))), (a3, .inl (cI, 120, .inl (u_22.2.1 0))), (a2, .inl (cJ, 25, .inr (.inl (u_30.2.2.1 0))))] H := hP
                    replace hD : va_D A [(a0, .inr (2, [.ref a1, .ref a2, .ref a3, .int x0, .int (u_22.2.2.2.1 0), .int (u_22.2.2.2.1 1), .int 0, .int x_34])), (a1, .inr (8, [.ref a4])), (a4, .inl (cI, 30, .inl (u_30.2.1 0))), (a3, .inl (cI, 120, .inl (u_22.2.1 0))), (a2, .inl (cJ, 25, .inr (.inl (u_30.2.2.1 0))))] := hD
                    refine lv_iconst (pc := 76) (v := 1) hx hb dX2_makeStep_76 (by decide) ?_
                    have k9 := tI_1
                    have k8_0 := tI_0
                    exact hret 1 ((fun _ => 0), (fun k => [(u_30.2.1 0), (u_22.2.1 0)].getD k (fun _ => 0)), (fun k => [(u_30.2.2.1 0)].getD k (fun _ => 0)), (fun k => [(u_22.2.2.2.1 0), (u_22.2.2.2.1 1), 0, x_34].getD k 0), (fun _ => 0)) dX2_makeStep_77 ⟨(Or.inr tI_1), ⟨(show (0 ≤ (1 : Int32).toInt ∧ (1 : Int32).toInt ≤ 1) from (n_c tI_1 (by decide))), (show (0 ≤ ((u_22.2.2.2.1 0) : Int32).toInt ∧ ((u_22.2.2.2.1 0) : Int32).toInt ≤ 39) from hw_25), (show (0 ≤ ((u_22.2.2.2.1 1) : Int32).toInt ∧ ((u_22.2.2.2.1 1) : Int32).toInt ≤ 40) from hw_26), (show (0 ≤ (0 : Int32).toInt ∧ (0 : Int32).toInt ≤ 40) from (n_c tI_0 (by decide))), (show (((u_22.2.2.2.1 1) : Int32).toInt + (0 : Int32).toInt ≤ 40) from hw_27), (show LedOK (u_30.2.1 0) (u_22.2.1 0) (u_22.2.2.2.1 0).toInt (u_22.2.2.2.1 1).toInt (0 : Int32).toInt from Led_push hg_led hw_28 (by first | exact (om_1708 h_x2.1 h_x2.2) | ((first | omega | (unfold zBd at *; omega)))) (by first | exact (om_0 h_x3.1) | ((first | omega | (unfold zBd at *; omega)))) (by first | exact (om_31 hw_29) | ((first | omega | (unfold zBd at *; omega)))) (by first | exact (om_1979 h_x1.1 h_x1.2) | ((first | omega | (unfold zBd at *; omega)))) (by first | exact (om_1980 hi_3.1 c_6 h_x0.2) | ((first | omega | (unfold zBd at *; omega)))) (by first | exact (om_1980 hi_8.1 c_11 h_x0.2) | ((first | omega | (unfold zBd at *; omega)))) (by first | exact (om_112 c_13) | ((first | omega | (unfold zBd at *; omega)))) hw_33 hw_18), (show isX f0 (u_30.2.1 0) f1 (u_22.2.1 0) x1.toInt (u_22.2.2.2.1 0).toInt x2.toInt (u_22.2.2.2.1 1).toInt x3.toInt (0 : Int32).toInt x4.toInt x_34.toInt x0.toInt (1 : Int32).toInt from isX_yes (by first | exact (om_28 tI_1) | ((first | omega | (unfold zBd at *; omega)))) (by first | exact (om_31 hw_29) | ((first | omega | (unfold zBd at *; omega)))) (by first | exact (om_5 ex_34) | ((first | omega | (unfold zBd at *; omega)))) (by first | exact (om_1981 c_1) | ((first | omega | (unfold zBd at *; omega)))) hw_19 (by first | exact (om_34 c_20) | ((first | omega | (unfold zBd at *; omega)))) (by first | exact (om_1982 hi_3.1 c_6 hi_8.1 c_11 h_x0.2) | ((first | omega | (unfold zBd at *; omega)))) (by first | exact (om_112 c_13) | ((first | omega | (unfold zBd at *; omega)))) hi_9 hw_33 hw_28)⟩⟩ (g_psub (wc := [(a0, .inr (2, [.ref a1, .ref a2, .ref a3, .int x0, .int (u_22.2.2.2.1 0), .int (u_22.2.2.2.1 1), .int 0, .int x_34])), (a1, .inr (8, [.ref a4])), (a4, .inl (cI, 30, .inl (u_30.2.1 0))), (a3, .inl (cI, 120, .inl (u_22.2.1 0))), (a2, .inl (cJ, 25, .inr (.inl (u_30.2.2.1 0))))]) hP [0, 1, 2, 3, 4] rfl) (hD.sub (ws' := [(a0, .inr (2, [.ref a1, .ref a2, .ref a3, .int x0, .int (u_22.2.2.2.1 0), .int (u_22.2.2.2.1 1), .int 0, .int x_34])), (a1, .inr (8, [.ref a4])), (a4, .inl (cI, 30, .inl (u_30.2.1 0))), (a3, .inl (cI, 120, .inl (u_22.2.1 0))), (a2, .inl (cJ, 25, .inr (.inl (u_30.2.2.1 0))))]) [0, 1, 2, 3, 4] (by decide) rfl) hS
                ·
                  refine lv_iconst (pc := 37) (v := 0) hx hb dX2_makeStep_37 (by decide) ?_
                  refine lv_goto (pc := 38) (tgt := 47) hx hb dX2_makeStep_38 (by decide) ?_
                  refine lv_istore_n (pc := 47) (lv' := [(3, .int 0), (2, .int x_7), (1, .int x_2), (0, .ref a0)]) hx hb dX2_makeStep_47 rfl hl (by decide) rfl (fun ls hl => ?_)
                  refine lv_iload_n (pc := 48) hx hb dX2_makeStep_48 rfl (lv_at hl 0 rfl) ?_
                  refine b_if_eq (pc := 49) (tgt := 78) hx hb tI_0  dX2_makeStep_49 (by decide) (fun c_35 => ?_) (fun c_35 => absurd c_35 (by first | exact (om_27) | ((first | omega | (unfold zBd at *; omega)))))
                  refine b_iinc (pc := 78) hx hb dX2_makeStep_78 hl (k := 1) rfl rfl tI_1 (by first | exact (om_2 hi_8.1) | ((first | omega | (unfold zBd at *; omega)))) (by first | exact (om_338 c_11 h_x0.2) | ((first | omega | (unfold zBd at *; omega)))) (by decide) (fun x_36 ex_36 ls hl => ?_)
                  replace hl : lv_has ls 4 [(2, .int x_36), (3, .int 0), (1, .int x_2), (0, .ref a0)] := hl
                  refine lv_goto (pc := 81) (tgt := 24) hx hb dX2_makeStep_81 (by decide) ?_
                  exact ih_lp_10 x_36 _ _ ls (by first | exact (om_339 ex_36 hi_8.1 c_11 h_x0.2) | ((first | omega | (unfold zBd at *; omega)))) (noq_j hi_9 (fun q => q.1 (by (first | omega | (unfold zBd at *; omega)))) (by first | exact (om_5 ex_36) | ((first | omega | (unfold zBd at *; omega))))) (by (first | omega | (unfold zBd at *; omega))) hP hD hS (lv_sub hl [0, 2, 3] rfl)
          exact lp_10 _ 0 _ _ ls (n_c tI_0 (by decide)) (noq_to hi_4 tI_0.symm) (Nat.lt_succ_self _) hP hD hS (lv_sub hl [0, 1, 2] rfl)
    exact lp_5 _ 0 _ _ ls (n_c tI_0 (by decide)) (noq_0 tI_0 rfl) (Nat.lt_succ_self _) hP hD hS (lv_sub hl [0, 1] rfl)
  ·
    refine lv_iconst (pc := 10) (v := 0) hx hb dX2_makeStep_10 (by decide) ?_
    have k9 := tI_0
    exact hret 0 ((fun _ => 0), (fun k => [f0, f1].getD k (fun _ => 0)), (fun k => [g0].getD k (fun _ => 0)), (fun k => [x1, x2, x3, x4].getD k 0), (fun _ => 0)) dX2_makeStep_11 ⟨(Or.inl tI_0), ⟨(show (0 ≤ (0 : Int32).toInt ∧ (0 : Int32).toInt ≤ 1) from (n_c tI_0 (by decide))), (show (0 ≤ (x1 : Int32).toInt ∧ (x1 : Int32).toInt ≤ 39) from h_x1), (show (0 ≤ (x2 : Int32).toInt ∧ (x2 : Int32).toInt ≤ 40) from h_x2), (show (0 ≤ (x3 : Int32).toInt ∧ (x3 : Int32).toInt ≤ 40) from h_x3), (show ((x2 : Int32).toInt + (x3 : Int32).toInt ≤ 40) from hr_a0_0), (show LedOK f0 f1 x1.toInt x2.toInt x3.toInt from hg_led), (show isX f0 f0 f1 f1 x1.toInt x1.toInt x2.toInt x2.toInt x3.toInt x3.toInt x4.toInt x4.toInt x0.toInt (0 : Int32).toInt from isX_no (by first | exact (om_31 tI_0) | ((first | omega | (unfold zBd at *; omega)))) (Or.inl (by first | exact (om_1983 c_1) | ((first | omega | (unfold zBd at *; omega))))))⟩⟩ (g_psub (wc := [(a0, .inr (2, [.ref a1, .ref a2, .ref a3, .int x0, .int x1, .int x2, .int x3, .int x4])), (a1, .inr (8, [.ref a4])), (a4, .inl (cI, 30, .inl f0)), (a3, .inl (cI, 120, .inl f1)), (a2, .inl (cJ, 25, .inr (.inl g0)))]) hP [0, 1, 2, 3, 4] rfl) (hD.sub (ws' := [(a0, .inr (2, [.ref a1, .ref a2, .ref a3, .int x0, .int x1, .int x2, .int x3, .int x4])), (a1, .inr (8, [.ref a4])), (a4, .inl (cI, 30, .inl f0)), (a3, .inl (cI, 120, .inl f1)), (a2, .inl (cJ, 25, .inr (.inl g0)))]) [0, 1, 2, 3, 4] (by decide) rfl) hS
theorem om_1984 {a b : Int} (h0 : (a < b)) (h1 : (b ≤ 255)) : (a + 1 ≤ 2147483647) := by omega
theorem om_1985 {a b c : Int} (h0 : (a = b + 1)) (h1 : (0 ≤ b)) (h2 : (b < c)) (h3 : (c ≤ 255)) : ((0 ≤ a ∧ a ≤ 2147483647)) := by omega
set_option maxHeartbeats 4000000 in
set_option maxRecDepth 100000 in
theorem k_X2_makeSteps (l : Launch) (D : va_G) (cB cC cI cJ : ClassId) (sz : Nat) (a0 a1 a2 a3 a4 : Nat) (x0 x1 x2 x3 x4 x5 : Int32) (f0 f1 : Nat → Int32) (g0 : Nat → Int64) (hp1 : (0 ≤ x0.toInt ∧ x0.toInt ≤ 255)) (h_x1 : zBd x1.toInt (-1) 5) (h_x2 : zBd x2.toInt 0 39) (h_x3 : zBd x3.toInt 0 40) (h_x4 : zBd x4.toInt 0 40) (hr_a0_0 : (x3.toInt + x4.toInt ≤ 40)) (hg_led : LedOK f0 f1 x2.toInt x3.toInt x4.toInt) : Met l yX2_makeSteps (.code yX2_makeSteps cX2_makeSteps 3 (some .int) :: lw_gd) ({ frames := 4, cells := 0, slots := 0, locals := 94 }) (gPre D [(cB, .byte), (cC, .char), (cI, .int), (cJ, .long)] [.ref a0, .int x0] [(a0, .inr (2, [.ref a1, .ref a2, .ref a3, .int x1, .int x2, .int x3, .int x4, .int x5])), (a1, .inr (8, [.ref a4])), (a4, .inl (cI, 30, .inl f0)), (a3, .inl (cI, 120, .inl f1)), (a2, .inl (cJ, 25, .inr (.inl g0)))] sz) (va_Qi (fun r u => (0 ≤ r.toInt ∧ r.toInt ≤ 2147483647) ∧ (0 ≤ (u.2.2.2.1 0).toInt ∧ (u.2.2.2.1 0).toInt ≤ 39) ∧ (0 ≤ (u.2.2.2.1 1).toInt ∧ (u.2.2.2.1 1).toInt ≤ 40) ∧ (0 ≤ (u.2.2.2.1 2).toInt ∧ (u.2.2.2.1 2).toInt ≤ 40) ∧ ((u.2.2.2.1 1).toInt + (u.2.2.2.1 2).toInt ≤ 40) ∧ (LedOK (u.2.1 0) (u.2.1 1) (u.2.2.2.1 0).toInt (u.2.2.2.1 1).toInt (u.2.2.2.1 2).toInt) ∧ (0 ≤ r.toInt ∧ r.toInt ≤ x0.toInt) ∧ ((u.2.2.2.1 3).toInt = x5.toInt + r.toInt) ∧ (urQ x3.toInt x4.toInt (u.2.2.2.1 1).toInt (u.2.2.2.1 2).toInt r.toInt) ∧ (∀ T : Nat → Int32, XOK T f0 f1 x1.toInt x2.toInt x3.toInt x4.toInt x5.toInt → XOK T (u.2.1 0) (u.2.1 1) x1.toInt (u.2.2.2.1 0).toInt (u.2.2.2.1 1).toInt (u.2.2.2.1 2).toInt (u.2.2.2.1 3).toInt) ∧ (r.toInt = x0.toInt ∨ 200 ≤ (u.2.2.2.1 3).toInt ∨ noq (trT (u.2.1 0)) 6 x1.toInt x1.toInt 0)) (gB D (va_A [(a0, .inr (2, [.ref a1, .ref a2, .ref a3, .int x1, .int x2, .int x3, .int x4, .int x5])), (a1, .inr (8, [.ref a4])), (a4, .inl (cI, 30, .inl f0)), (a3, .inl (cI, 120, .inl f1)), (a2, .inl (cJ, 25, .inr (.inl g0)))] sz) (fun u : gEx => [(a0, .inr (2, [.ref a1, .ref a2, .ref a3, .int x1, .int (u.2.2.2.1 0), .int (u.2.2.2.1 1), .int (u.2.2.2.1 2), .int (u.2.2.2.1 3)])), (a1, .inr (8, [.ref a4])), (a4, .inl (cI, 30, .inl (u.2.1 0))), (a3, .inl (cI, 120, .inl (u.2.1 1))), (a2, .inl (cJ, 25, .inr (.inl (u.2.2.1 0))))])) (va_A [(a0, .inr (2, [.ref a1, .ref a2, .ref a3, .int x1, .int x2, .int x3, .int x4, .int x5])), (a1, .inr (8, [.ref a4])), (a4, .inl (cI, 30, .inl f0)), (a3, .inl (cI, 120, .inl f1)), (a2, .inl (cJ, 25, .inr (.inl g0)))] sz)) 0 0 (va_A [(a0, .inr (2, [.ref a1, .ref a2, .ref a3, .int x1, .int x2, .int x3, .int x4, .int x5])), (a1, .inr (8, [.ref a4])), (a4, .inl (cI, 30, .inl f0)), (a3, .inl (cI, 120, .inl f1)), (a2, .inl (cJ, 25, .inr (.inl g0)))] sz) := by
  refine gOf_i (by decide +kernel) (Nat.le_of_ble_eq_true rfl) ?_
  intro p e s m args below meth c ls A Q hx hb hts hown hml hN hK hP hD hA hl hret
  replace hown : s.vm.findClass RX2 = some m.cls := hown
  have hS : va_S A s.heap s.heap [] := va_S.rf
  replace hP : va_P D gcl [(a0, .inr (2, [.ref a1, .ref a2, .ref a3, .int x1, .int x2, .int x3, .int x4, .int x5])), (a1, .inr (8, [.ref a4])), (a4, .inl (cI, 30, .inl f0)), (a3, .inl (cI, 120, .inl f1)), (a2, .inl (cJ, 25, .inr (.inl g0)))] s.heap := hP
  replace hl : lv_has ls 3 [(0, .ref a0), (1, .int x0)] := hl
  have rx5 : zBd x5.toInt (-2147483648) 2147483647 := n_rng x5
  refine lv_iconst (pc := 0) (v := 0) hx hb dX2_makeSteps_0 (by decide) ?_
  refine lv_istore_n (pc := 1) (lv' := [(2, .int 0), (0, .ref a0), (1, .int x0)]) hx hb dX2_makeSteps_1 rfl hl (by decide) rfl (fun ls hl => ?_)
  have lp_20 : ∀ (n : Nat) (x_1 x_3 x_5 x_7 x_9 : Int32) (f_12 f_13 : Nat → Int32) (g_14 : Nat → Int64) (H : Heap) (locs : List Loc) (ls : Array Slot), (0 ≤ x_1.toInt ∧ x_1.toInt ≤ 2147483647) → (0 ≤ x_3.toInt ∧ x_3.toInt ≤ 39) → (0 ≤ x_5.toInt ∧ x_5.toInt ≤ 40) → (0 ≤ x_7.toInt ∧ x_7.toInt ≤ 40) → (x_5.toInt + x_7.toInt ≤ 40) → (LedOK f_12 f_13 x_3.toInt x_5.toInt x_7.toInt) → (x_1.toInt ≤ x0.toInt) → (x_9.toInt = x5.toInt + x_1.toInt) → (urQ x3.toInt x4.toInt x_5.toInt x_7.toInt x_1.toInt) → (∀ T : Nat → Int32, XOK T f0 f1 x1.toInt x2.toInt x3.toInt x4.toInt x5.toInt → XOK T f_12 f_13 x1.toInt x_3.toInt x_5.toInt x_7.toInt x_9.toInt) → (2147483647 - x_1.toInt).toNat < n → va_P D gcl [(a0, .inr (2, [.ref a1, .ref a2, .ref a3, .int x1, .int x_3, .int x_5, .int x_7, .int x_9])), (a1, .inr (8, [.ref a4])), (a4, .inl (cI, 30, .inl f_12)), (a3, .inl (cI, 120, .inl f_13)), (a2, .inl (cJ, 25, .inr (.inl g_14)))] H → va_D A [(a0, .inr (2, [.ref a1, .ref a2, .ref a3, .int x1, .int x_3, .int x_5, .int x_7, .int x_9])), (a1, .inr (8, [.ref a4])), (a4, .inl (cI, 30, .inl f_12)), (a3, .inl (cI, 120, .inl f_13)), (a2, .inl (cJ, 25, .inr (.inl g_14)))] → va_S A s.heap H locs → lv_has ls 3 [(2, .int x_1), (0, .ref a0), (1, .int x0)] → W p l e ({ frames := 4, cells := 0, slots := 0, locals := 94 }) s m args below meth c H locs 0 0 Q (F0 m 2 ls []) := by
    intro n
    induction n with
    | zero => intro x_1 x_3 x_5 x_7 x_9 f_12 f_13 g_14 H locs ls hi_2 hi_4 hi_6 hi_8 hi_11 hi_15 hi_16 hi_17 hi_18 hi_19 hmu; exact absurd hmu (Nat.not_lt_zero _)
    | succ n ih_lp_20 =>
      intro x_1 x_3 x_5 x_7 x_9 f_12 f_13 g_14 H locs ls hi_2 hi_4 hi_6 hi_8 hi_11 hi_15 hi_16 hi_17 hi_18 hi_19 hmu_lp_20 hP hD hS hl
      have hi_10 := n_rng x_9
      refine lv_iload_n (pc := 2) hx hb dX2_makeSteps_2 rfl (lv_at hl 0 rfl) ?_
      refine lv_iload_n (pc := 3) hx hb dX2_makeSteps_3 rfl (lv_at hl 2 rfl) ?_
      refine b_icmp_ge (pc := 4) (tgt := 20) hx hb rfl rfl  dX2_makeSteps_4 (by decide) (fun c_21 => ?_) (fun c_21 => ?_)
      ·
        refine lv_iload_n (pc := 20) hx hb dX2_makeSteps_20 rfl (lv_at hl 0 rfl) ?_
        exact hret x_1 ((fun _ => 0), (fun k => [f_12, f_13].getD k (fun _ => 0)), (fun k => [g_14].getD k (fun _ => 0)), (fun k => [x_3, x_5, x_7, x_9].getD k 0), (fun _ => 0)) dX2_makeSteps_21 ⟨(show (0 ≤ x_1.toInt ∧ x_1.toInt ≤ 2147483647) from hi_2), (show (0 ≤ (x_3 : Int32).toInt ∧ (x_3 : Int32).toInt ≤ 39) from hi_4), (show (0 ≤ (x_5 : Int32).toInt ∧ (x_5 : Int32).toInt ≤ 40) from hi_6), (show (0 ≤ (x_7 : Int32).toInt ∧ (x_7 : Int32).toInt ≤ 40) from hi_8), (show ((x_5 : Int32).toInt + (x_7 : Int32).toInt ≤ 40) from hi_11), (show LedOK f_12 f_13 x_3.toInt x_5.toInt x_7.toInt from hi_15), (show 0 ≤ x_1.toInt ∧ x_1.toInt ≤ x0.toInt from (by first | exact (om_794 hi_2.1 hi_16) | ((first | omega | (unfold zBd at *; omega))))), (show x_9.toInt = x5.toInt + x_1.toInt from (by first | exact (om_63 hi_17) | ((first | omega | (unfold zBd at *; omega))))), (show urQ x3.toInt x4.toInt x_5.toInt x_7.toInt x_1.toInt from hi_18), (show ∀ T : Nat → Int32, XOK T f0 f1 x1.toInt x2.toInt x3.toInt x4.toInt x5.toInt → XOK T f_12 f_13 x1.toInt x_3.toInt x_5.toInt x_7.toInt x_9.toInt from hi_19), (show x_1.toInt = x0.toInt ∨ 200 ≤ x_9.toInt ∨ noq (trT f_12) 6 x1.toInt x1.toInt 0 from Or.inl (by first | exact (om_1418 c_21 hi_16) | ((first | omega | (unfold zBd at *; omega)))))⟩ (g_psub (wc := [(a0, .inr (2, [.ref a1, .ref a2, .ref a3, .int x1, .int x_3, .int x_5, .int x_7, .int x_9])), (a1, .inr (8, [.ref a4])), (a4, .inl (cI, 30, .inl f_12)), (a3, .inl (cI, 120, .inl f_13)), (a2, .inl (cJ, 25, .inr (.inl g_14)))]) hP [0, 1, 2, 3, 4] rfl) (hD.sub (ws' := [(a0, .inr (2, [.ref a1, .ref a2, .ref a3, .int x1, .int x_3, .int x_5, .int x_7, .int x_9])), (a1, .inr (8, [.ref a4])), (a4, .inl (cI, 30, .inl f_12)), (a3, .inl (cI, 120, .inl f_13)), (a2, .inl (cJ, 25, .inr (.inl g_14)))]) [0, 1, 2, 3, 4] (by decide) rfl) hS
      ·
        refine lv_aload_n (pc := 7) hx hb dX2_makeSteps_7 rfl (lv_at hl 1 rfl) ?_
        refine gd_i (pc := 8) (wc := [(a0, .inr (2, [.ref a1, .ref a2, .ref a3, .int x1, .int x_3, .int x_5, .int x_7, .int x_9])), (a1, .inr (8, [.ref a4])), (a4, .inl (cI, 30, .inl f_12)), (a3, .inl (cI, 120, .inl f_13)), (a2, .inl (cJ, 25, .inr (.inl g_14)))]) hP hD hS hA [0, 1, 2, 3, 4] rfl (by decide +kernel) (fun _ => by rfl) (fun hPc hDc => va_runV (As := []) (rest := []) ⟨hx, hb, hml, hown, hts⟩ (k_X2_makeStep l D cB cC cI cJ _ a0 a1 a2 a3 a4 x1 x_3 x_5 x_7 x_9 f_12 f_13 g_14 h_x1 hi_4 hi_6 hi_8 hi_11 (hi_15)) ⟨gcwB hts tw_1043 tw_13 tw_1040 hd_yX2_makeStep ⟨Nat.le_of_ble_eq_true rfl, Nat.le_of_ble_eq_true rfl⟩, hts _ tw_1042, hts _ tp_40⟩ ⟨gblind, va_recv hK hPc (ci := 2) (q0 := 0) rfl rfl, (gpreS hPc hK hDc hN).2⟩ rfl rfl hl.1 rfl (lv_room (Nat.le_of_ble_eq_true rfl)) dX2_makeSteps_8 ⟨Nat.le_of_ble_eq_true rfl, Nat.le_of_ble_eq_true rfl⟩) (fun r_23 u_22 H locs hw_24 hP hD hS => ?_)
        replace hP : va_P D gcl [(a0, .inr (2, [.ref a1, .ref a2, .ref a3, .int x1, .int (u_22.2.2.2.1 0), .int (u_22.2.2.2.1 1), .int (u_22.2.2.2.1 2), .int (u_22.2.2.2.1 3)])), (a1, .inr (8, [.ref a4])), (a4, .inl (cI, 30, .inl (u_22.2.1 0))), (a3, .inl (cI, 120, .inl (u_22.2.1 1))), (a2, .inl (cJ, 25, .inr (.inl (u_22.2.2.1 0))))] H := hP
        replace hD : va_D A [(a0, .inr (2, [.ref a1, .ref a2, .ref a3, .int x1, .int (u_22.2.2.2.1 0), .int (u_22.2.2.2.1 1), .int (u_22.2.2.2.1 2), .int (u_22.2.2.2.1 3)])), (a1, .inr (8, [.ref a4])), (a4, .inl (cI, 30, .inl (u_22.2.1 0))), (a3, .inl (cI, 120, .inl (u_22.2.1 1))), (a2, .inl (cJ, 25, .inr (.inl (u_22.2.2.1 0))))] := hD
        have ru_22_0 : zBd (u_22.2.2.2.1 3).toInt (-2147483648) 2147483647 := n_rng (u_22.2.2.2.1 3)
        obtain ⟨hw_25, hw_26, hw_27, hw_28, hw_29, hw_30, hw_31⟩ := hw_24
        replace hw_25 : (0 ≤ r_23.toInt ∧ r_23.toInt ≤ 1) := hw_25
        replace hw_26 : zBd (u_22.2.2.2.1 0).toInt 0 39 := hw_26
        replace hw_27 : zBd (u_22.2.2.2.1 1).toInt 0 40 := hw_27
        replace hw_28 : zBd (u_22.2.2.2.1 2).toInt 0 40 := hw_28
        replace hw_29 : ((u_22.2.2.2.1 1).toInt + (u_22.2.2.2.1 2).toInt ≤ 40) := hw_29
        replace hw_30 : (LedOK (u_22.2.1 0) (u_22.2.1 1) (u_22.2.2.2.1 0).toInt (u_22.2.2.2.1 1).toInt (u_22.2.2.2.1 2).toInt) := hw_30
        replace hw_31 : (isX f_12 (u_22.2.1 0) f_13 (u_22.2.1 1) x_3.toInt (u_22.2.2.2.1 0).toInt x_5.toInt (u_22.2.2.2.1 1).toInt x_7.toInt (u_22.2.2.2.1 2).toInt x_9.toInt (u_22.2.2.2.1 3).toInt x1.toInt r_23.toInt) := hw_31
        have rr_23 : zBd r_23.toInt (-2147483648) 2147483647 := n_rng r_23
        refine b_if_eq (pc := 11) (tgt := 20) hx hb rfl  dX2_makeSteps_11 (by decide) (fun c_32 => ?_) (fun c_32 => ?_)
        ·
          refine lv_iload_n (pc := 20) hx hb dX2_makeSteps_20 rfl (lv_at hl 0 rfl) ?_
          exact hret x_1 ((fun _ => 0), (fun k => [(u_22.2.1 0), (u_22.2.1 1)].getD k (fun _ => 0)), (fun k => [(u_22.2.2.1 0)].getD k (fun _ => 0)), (fun k => [(u_22.2.2.2.1 0), (u_22.2.2.2.1 1), (u_22.2.2.2.1 2), (u_22.2.2.2.1 3)].getD k 0), (fun _ => 0)) dX2_makeSteps_21 ⟨(show (0 ≤ x_1.toInt ∧ x_1.toInt ≤ 2147483647) from hi_2), (show (0 ≤ ((u_22.2.2.2.1 0) : Int32).toInt ∧ ((u_22.2.2.2.1 0) : Int32).toInt ≤ 39) from hw_26), (show (0 ≤ ((u_22.2.2.2.1 1) : Int32).toInt ∧ ((u_22.2.2.2.1 1) : Int32).toInt ≤ 40) from hw_27), (show (0 ≤ ((u_22.2.2.2.1 2) : Int32).toInt ∧ ((u_22.2.2.2.1 2) : Int32).toInt ≤ 40) from hw_28), (show (((u_22.2.2.2.1 1) : Int32).toInt + ((u_22.2.2.2.1 2) : Int32).toInt ≤ 40) from hw_29), (show LedOK (u_22.2.1 0) (u_22.2.1 1) (u_22.2.2.2.1 0).toInt (u_22.2.2.2.1 1).toInt (u_22.2.2.2.1 2).toInt from hw_30), (show 0 ≤ x_1.toInt ∧ x_1.toInt ≤ x0.toInt from (by first | exact (om_1702 hi_2.1 c_21) | ((first | omega | (unfold zBd at *; omega))))), (show (u_22.2.2.2.1 3).toInt = x5.toInt + x_1.toInt from (by have q := isX_end hw_31 (by (first | omega | (unfold zBd at *; omega))); (first | omega | (unfold zBd at *; omega)))), (show urQ x3.toInt x4.toInt (u_22.2.2.2.1 1).toInt (u_22.2.2.2.1 2).toInt x_1.toInt from ur_X0 hi_18 hw_31 (by first | exact (om_31 c_32) | ((first | omega | (unfold zBd at *; omega))))), (show ∀ T : Nat → Int32, XOK T f0 f1 x1.toInt x2.toInt x3.toInt x4.toInt x5.toInt → XOK T (u_22.2.1 0) (u_22.2.1 1) x1.toInt (u_22.2.2.2.1 0).toInt (u_22.2.2.2.1 1).toInt (u_22.2.2.2.1 2).toInt (u_22.2.2.2.1 3).toInt from fun T h => X_same (hi_19 T h) hw_31 (by first | exact (om_31 c_32) | ((first | omega | (unfold zBd at *; omega))))), (show x_1.toInt = x0.toInt ∨ 200 ≤ (u_22.2.2.2.1 3).toInt ∨ noq (trT (u_22.2.1 0)) 6 x1.toInt x1.toInt 0 from Or.inr (isX_end hw_31 (by first | exact (om_31 c_32) | ((first | omega | (unfold zBd at *; omega))))).2)⟩ (g_psub (wc := [(a0, .inr (2, [.ref a1, .ref a2, .ref a3, .int x1, .int (u_22.2.2.2.1 0), .int (u_22.2.2.2.1 1), .int (u_22.2.2.2.1 2), .int (u_22.2.2.2.1 3)])), (a1, .inr (8, [.ref a4])), (a4, .inl (cI, 30, .inl (u_22.2.1 0))), (a3, .inl (cI, 120, .inl (u_22.2.1 1))), (a2, .inl (cJ, 25, .inr (.inl (u_22.2.2.1 0))))]) hP [0, 1, 2, 3, 4] rfl) (hD.sub (ws' := [(a0, .inr (2, [.ref a1, .ref a2, .ref a3, .int x1, .int (u_22.2.2.2.1 0), .int (u_22.2.2.2.1 1), .int (u_22.2.2.2.1 2), .int (u_22.2.2.2.1 3)])), (a1, .inr (8, [.ref a4])), (a4, .inl (cI, 30, .inl (u_22.2.1 0))), (a3, .inl (cI, 120, .inl (u_22.2.1 1))), (a2, .inl (cJ, 25, .inr (.inl (u_22.2.2.1 0))))]) [0, 1, 2, 3, 4] (by decide) rfl) hS
        ·
          refine b_iinc (pc := 14) hx hb dX2_makeSteps_14 hl (k := 0) rfl rfl tI_1 (by first | exact (om_2 hi_2.1) | ((first | omega | (unfold zBd at *; omega)))) (by first | exact (om_1984 c_21 hp1.2) | ((first | omega | (unfold zBd at *; omega)))) (by decide) (fun x_33 ex_33 ls hl => ?_)
          replace hl : lv_has ls 3 [(2, .int x_33), (0, .ref a0), (1, .int x0)] := hl
          refine lv_goto (pc := 17) (tgt := 2) hx hb dX2_makeSteps_17 (by decide) ?_
          exact ih_lp_20 x_33 (u_22.2.2.2.1 0) (u_22.2.2.2.1 1) (u_22.2.2.2.1 2) (u_22.2.2.2.1 3) (u_22.2.1 0) (u_22.2.1 1) (u_22.2.2.1 0) _ _ ls (by first | exact (om_1985 ex_33 hi_2.1 c_21 hp1.2) | ((first | omega | (unfold zBd at *; omega)))) hw_26 hw_27 hw_28 hw_29 (hw_30) (by first | exact (om_40 ex_33 c_21) | ((first | omega | (unfold zBd at *; omega)))) (by have q := isX_d hw_31 (by (first | omega | (unfold zBd at *; omega))); (first | omega | (unfold zBd at *; omega))) (ur_X hi_18 hw_31 (by first | exact (om_34 c_32) | ((first | omega | (unfold zBd at *; omega)))) (by first | exact (om_0 hi_2.1) | ((first | omega | (unfold zBd at *; omega)))) (by first | exact (om_1708 h_x3.1 h_x3.2) | ((first | omega | (unfold zBd at *; omega)))) (by first | exact (om_5 ex_33) | ((first | omega | (unfold zBd at *; omega))))) (fun T h => X_push (hi_19 T h) hw_31 (by first | exact (om_34 c_32) | ((first | omega | (unfold zBd at *; omega))))) (by (first | omega | (unfold zBd at *; omega))) hP hD hS (lv_sub hl [0, 1, 2] rfl)
  exact lp_20 _ 0 x2 x3 x4 x5 f0 f1 g0 _ _ ls (n_c tI_0 (by decide)) h_x2 h_x3 h_x4 hr_a0_0 (hg_led) (by have q := tI_0; (first | omega | (unfold zBd at *; omega))) (by have q := tI_0; (first | omega | (unfold zBd at *; omega))) (ur_0 tI_0) (fun _ h => h) (Nat.lt_succ_self _) hP hD hS (lv_sub hl [0, 1, 2] rfl)
theorem om_1986 {a : Int} (h0 : (a < 1)) : (¬ (1 ≤ a ∧ a ≤ 100)) := by omega
theorem om_1987 {a : Int} (h0 : (a ≥ 1)) (h1 : (a ≤ 100)) : ((0 ≤ a ∧ a ≤ 255)) := by omega
theorem om_1988 {a : Int} (h0 : (0 ≤ a)) (h1 : (a ≤ 2147483647)) : (((-1) ≤ a ∧ a ≤ 2147483647)) := by omega
theorem om_1989 {a : Int} (h0 : (a ≥ 1)) (h1 : (a ≤ 100)) : (1 ≤ a ∧ a ≤ 100) := by omega
theorem om_1990 {a : Int} (h0 : (a > 100)) : (¬ (1 ≤ a ∧ a ≤ 100)) := by omega
set_option maxHeartbeats 4000000 in
set_option maxRecDepth 100000 in
theorem k_X11_lead (l : Launch) (D : va_G) (cB cC cI cJ : ClassId) (sz : Nat) (a0 a1 a2 a3 a4 a5 a6 a7 a8 a9 a10 a11 a12 a13 a14 a15 a16 a17 a18 a19 a20 a21 : Nat) (x0 x1 x2 x3 x4 x5 x6 x7 x8 x9 x10 x11 x12 x13 : Int32) (f0 f1 f2 : Nat → Int32) (g0 : Nat → Int64) (h_x1 : zBd x1.toInt 0 14) (h_x2 : zBd x2.toInt (-1) 5) (h_x3 : zBd x3.toInt 0 39) (h_x4 : zBd x4.toInt 0 40) (h_x5 : zBd x5.toInt 0 40) (hr_a12_0 : (x4.toInt + x5.toInt ≤ 40)) (h_x7 : zBd x7.toInt (-1) 8) (h_x8 : zBd x8.toInt (-1) 5) (h_x9 : zBd x9.toInt (-1) 6) (h_x10 : zBd x10.toInt 0 6) (h_x11 : zBd x11.toInt 0 16) (hg_led : LedOK f0 f1 x3.toInt x4.toInt x5.toInt) (hg_xk : XOK f2 f0 f1 x2.toInt x3.toInt x4.toInt x5.toInt x6.toInt) (hg_se : x2.toInt = x8.toInt) : Met l yX11_lead (.code yX11_lead cX11_lead 2 (some .int) :: lw_gd) ({ frames := 5, cells := 0, slots := 0, locals := 116 }) (gPre D [(cB, .byte), (cC, .char), (cI, .int), (cJ, .long)] [.ref a0, .int x0] [(a0, .inr (11, [.ref a1, .ref a2, .ref a3, .ref a4, .ref a5, .ref a6, .ref a7, .ref a8, .ref a9, .ref a10, .int x1, .ref a11, .ref a12, .ref a13])), (a12, .inr (2, [.ref a14, .ref a15, .ref a16, .int x2, .int x3, .int x4, .int x5, .int x6])), (a14, .inr (8, [.ref a17])), (a17, .inl (cI, 30, .inl f0)), (a16, .inl (cI, 120, .inl f1)), (a11, .inr (1, [.ref a18, .ref a19, .ref a20, .int x7, .int x8, .int x9, .int x10, .int x11, .int x12, .int x13])), (a18, .inr (8, [.ref a21])), (a21, .inl (cI, 30, .inl f2)), (a15, .inl (cJ, 25, .inr (.inl g0)))] sz) (va_Qi (fun r u => ((-1) ≤ r.toInt ∧ r.toInt ≤ 2147483647) ∧ (0 ≤ (u.2.2.2.1 0).toInt ∧ (u.2.2.2.1 0).toInt ≤ 39) ∧ (0 ≤ (u.2.2.2.1 1).toInt ∧ (u.2.2.2.1 1).toInt ≤ 40) ∧ (0 ≤ (u.2.2.2.1 2).toInt ∧ (u.2.2.2.1 2).toInt ≤ 40) ∧ ((u.2.2.2.1 1).toInt + (u.2.2.2.1 2).toInt ≤ 40) ∧ (LedOK (u.2.1 0) (u.2.1 1) (u.2.2.2.1 0).toInt (u.2.2.2.1 1).toInt (u.2.2.2.1 2).toInt) ∧ (XOK f2 (u.2.1 0) (u.2.1 1) x2.toInt (u.2.2.2.1 0).toInt (u.2.2.2.1 1).toInt (u.2.2.2.1 2).toInt (u.2.2.2.1 3).toInt) ∧ (ldQ r.toInt x0.toInt x4.toInt x5.toInt x6.toInt (u.2.2.2.1 1).toInt (u.2.2.2.1 2).toInt (u.2.2.2.1 3).toInt (trT (u.2.1 0)) 6 x2.toInt)) (gB D (va_A [(a0, .inr (11, [.ref a1, .ref a2, .ref a3, .ref a4, .ref a5, .ref a6, .ref a7, .ref a8, .ref a9, .ref a10, .int x1, .ref a11, .ref a12, .ref a13])), (a12, .inr (2, [.ref a14, .ref a15, .ref a16, .int x2, .int x3, .int x4, .int x5, .int x6])), (a14, .inr (8, [.ref a17])), (a17, .inl (cI, 30, .inl f0)), (a16, .inl (cI, 120, .inl f1)), (a11, .inr (1, [.ref a18, .ref a19, .ref a20, .int x7, .int x8, .int x9, .int x10, .int x11, .int x12, .int x13])), (a18, .inr (8, [.ref a21])), (a21, .inl (cI, 30, .inl f2)), (a15, .inl (cJ, 25, .inr (.inl g0)))] sz) (fun u : gEx => [(a0, .inr (11, [.ref a1, .ref a2, .ref a3, .ref a4, .ref a5, .ref a6, .ref a7, .ref a8, .ref a9, .ref a10, .int x1, .ref a11, .ref a12, .ref a13])), (a12, .inr (2, [.ref a14, .ref a15, .ref a16, .int x2, .int (u.2.2.2.1 0), .int (u.2.2.2.1 1), .int (u.2.2.2.1 2), .int (u.2.2.2.1 3)])), (a14, .inr (8, [.ref a17])), (a17, .inl (cI, 30, .inl (u.2.1 0))), (a16, .inl (cI, 120, .inl (u.2.1 1))), (a11, .inr (1, [.ref a18, .ref a19, .ref a20, .int x7, .int x8, .int x9, .int x10, .int x11, .int x12, .int x13])), (a18, .inr (8, [.ref a21])), (a21, .inl (cI, 30, .inl f2)), (a15, .inl (cJ, 25, .inr (.inl (u.2.2.1 0))))])) (va_A [(a0, .inr (11, [.ref a1, .ref a2, .ref a3, .ref a4, .ref a5, .ref a6, .ref a7, .ref a8, .ref a9, .ref a10, .int x1, .ref a11, .ref a12, .ref a13])), (a12, .inr (2, [.ref a14, .ref a15, .ref a16, .int x2, .int x3, .int x4, .int x5, .int x6])), (a14, .inr (8, [.ref a17])), (a17, .inl (cI, 30, .inl f0)), (a16, .inl (cI, 120, .inl f1)), (a11, .inr (1, [.ref a18, .ref a19, .ref a20, .int x7, .int x8, .int x9, .int x10, .int x11, .int x12, .int x13])), (a18, .inr (8, [.ref a21])), (a21, .inl (cI, 30, .inl f2)), (a15, .inl (cJ, 25, .inr (.inl g0)))] sz)) 0 0 (va_A [(a0, .inr (11, [.ref a1, .ref a2, .ref a3, .ref a4, .ref a5, .ref a6, .ref a7, .ref a8, .ref a9, .ref a10, .int x1, .ref a11, .ref a12, .ref a13])), (a12, .inr (2, [.ref a14, .ref a15, .ref a16, .int x2, .int x3, .int x4, .int x5, .int x6])), (a14, .inr (8, [.ref a17])), (a17, .inl (cI, 30, .inl f0)), (a16, .inl (cI, 120, .inl f1)), (a11, .inr (1, [.ref a18, .ref a19, .ref a20, .int x7, .int x8, .int x9, .int x10, .int x11, .int x12, .int x13])), (a18, .inr (8, [.ref a21])), (a21, .inl (cI, 30, .inl f2)), (a15, .inl (cJ, 25, .inr (.inl g0)))] sz) := by
  refine gOf_i (by decide +kernel) (Nat.le_of_ble_eq_true rfl) ?_
  intro p e s m args below meth c ls A Q hx hb hts hown hml hN hK hP hD hA hl hret
  replace hown : s.vm.findClass RX11 = some m.cls := hown
  have hS : va_S A s.heap s.heap [] := va_S.rf
  replace hP : va_P D gcl [(a0, .inr (11, [.ref a1, .ref a2, .ref a3, .ref a4, .ref a5, .ref a6, .ref a7, .ref a8, .ref a9, .ref a10, .int x1, .ref a11, .ref a12, .ref a13])), (a12, .inr (2, [.ref a14, .ref a15, .ref a16, .int x2, .int x3, .int x4, .int x5, .int x6])), (a14, .inr (8, [.ref a17])), (a17, .inl (cI, 30, .inl f0)), (a16, .inl (cI, 120, .inl f1)), (a11, .inr (1, [.ref a18, .ref a19, .ref a20, .int x7, .int x8, .int x9, .int x10, .int x11, .int x12, .int x13])), (a18, .inr (8, [.ref a21])), (a21, .inl (cI, 30, .inl f2)), (a15, .inl (cJ, 25, .inr (.inl g0)))] s.heap := hP
  replace hl : lv_has ls 2 [(0, .ref a0), (1, .int x0)] := hl
  have rx0 : zBd x0.toInt (-2147483648) 2147483647 := n_rng x0
  have rx6 : zBd x6.toInt (-2147483648) 2147483647 := n_rng x6
  have rx12 : zBd x12.toInt (-2147483648) 2147483647 := n_rng x12
  have rx13 : zBd x13.toInt (-2147483648) 2147483647 := n_rng x13
  refine lv_iload_n (pc := 0) hx hb dX11_lead_0 rfl (lv_at hl 1 rfl) ?_
  refine lv_iconst (pc := 1) (v := 1) hx hb dX11_lead_1 (by decide) ?_
  refine b_icmp_lt (pc := 2) (tgt := 11) hx hb rfl tI_1  dX11_lead_2 (by decide) (fun c_1 => ?_) (fun c_1 => ?_)
  ·
    refine lv_iconst (pc := 11) (v := (-1)) hx hb dX11_lead_11 (by decide) ?_
    refine lv_goto (pc := 12) (tgt := 23) hx hb dX11_lead_12 (by decide) ?_
    have k9 := tI_m1
    exact hret (-1) ((fun _ => 0), (fun k => [f0, f1].getD k (fun _ => 0)), (fun k => [g0].getD k (fun _ => 0)), (fun k => [x3, x4, x5, x6].getD k 0), (fun _ => 0)) dX11_lead_23 ⟨(show ((-1) ≤ ((-1) : Int32).toInt ∧ ((-1) : Int32).toInt ≤ 2147483647) from (n_c tI_m1 (by decide))), (show (0 ≤ (x3 : Int32).toInt ∧ (x3 : Int32).toInt ≤ 39) from h_x3), (show (0 ≤ (x4 : Int32).toInt ∧ (x4 : Int32).toInt ≤ 40) from h_x4), (show (0 ≤ (x5 : Int32).toInt ∧ (x5 : Int32).toInt ≤ 40) from h_x5), (show ((x4 : Int32).toInt + (x5 : Int32).toInt ≤ 40) from hr_a12_0), (show LedOK f0 f1 x3.toInt x4.toInt x5.toInt from hg_led), (show XOK f2 f0 f1 x2.toInt x3.toInt x4.toInt x5.toInt x6.toInt from hg_xk), (show ldQ ((-1) : Int32).toInt x0.toInt x4.toInt x5.toInt x6.toInt x4.toInt x5.toInt x6.toInt (trT f0) 6 x2.toInt from ld_no (by first | exact (om_65 tI_m1) | ((first | omega | (unfold zBd at *; omega)))) (by first | exact (om_1986 c_1) | ((first | omega | (unfold zBd at *; omega)))))⟩ (g_psub (wc := [(a0, .inr (11, [.ref a1, .ref a2, .ref a3, .ref a4, .ref a5, .ref a6, .ref a7, .ref a8, .ref a9, .ref a10, .int x1, .ref a11, .ref a12, .ref a13])), (a12, .inr (2, [.ref a14, .ref a15, .ref a16, .int x2, .int x3, .int x4, .int x5, .int x6])), (a14, .inr (8, [.ref a17])), (a17, .inl (cI, 30, .inl f0)), (a16, .inl (cI, 120, .inl f1)), (a11, .inr (1, [.ref a18, .ref a19, .ref a20, .int x7, .int x8, .int x9, .int x10, .int x11, .int x12, .int x13])), (a18, .inr (8, [.ref a21])), (a21, .inl (cI, 30, .inl f2)), (a15, .inl (cJ, 25, .inr (.inl g0)))]) hP [0, 1, 2, 3, 4, 5, 6, 7, 8] rfl) (hD.sub (ws' := [(a0, .inr (11, [.ref a1, .ref a2, .ref a3, .ref a4, .ref a5, .ref a6, .ref a7, .ref a8, .ref a9, .ref a10, .int x1, .ref a11, .ref a12, .ref a13])), (a12, .inr (2, [.ref a14, .ref a15, .ref a16, .int x2, .int x3, .int x4, .int x5, .int x6])), (a14, .inr (8, [.ref a17])), (a17, .inl (cI, 30, .inl f0)), (a16, .inl (cI, 120, .inl f1)), (a11, .inr (1, [.ref a18, .ref a19, .ref a20, .int x7, .int x8, .int x9, .int x10, .int x11, .int x12, .int x13])), (a18, .inr (8, [.ref a21])), (a21, .inl (cI, 30, .inl f2)), (a15, .inl (cJ, 25, .inr (.inl g0)))]) [0, 1, 2, 3, 4, 5, 6, 7, 8] (by decide) rfl) hS
  ·
    refine lv_iload_n (pc := 5) hx hb dX11_lead_5 rfl (lv_at hl 1 rfl) ?_
    refine lv_bipush (pc := 6) (v := 100) hx hb dX11_lead_6 (by decide) ?_
    refine b_icmp_le (pc := 8) (tgt := 15) hx hb rfl tI_100  dX11_lead_8 (by decide) (fun c_2 => ?_) (fun c_2 => ?_)
    ·
      refine lv_aload_n (pc := 15) hx hb dX11_lead_15 rfl (lv_at hl 0 rfl) ?_
      refine va_get (pc := 16) (ci := 11) (v := .ref a12) (C := RX11) (T := TX11) (N := 14) hx hb hts iX11 hown hK hP 0 rfl rfl 12 (by decide) (hts _ tw_432) (fun _ h9 => h9) rfl dX11_lead_16 ?_
      refine lv_iload_n (pc := 19) hx hb dX11_lead_19 rfl (lv_at hl 1 rfl) ?_
      refine gd_i (pc := 20) (wc := [(a12, .inr (2, [.ref a14, .ref a15, .ref a16, .int x2, .int x3, .int x4, .int x5, .int x6])), (a14, .inr (8, [.ref a17])), (a17, .inl (cI, 30, .inl f0)), (a16, .inl (cI, 120, .inl f1)), (a15, .inl (cJ, 25, .inr (.inl g0)))]) hP hD hS hA [1, 2, 3, 4, 8] rfl (by decide +kernel) (fun _ => by rfl) (fun hPc hDc => va_runV (As := [.int x0]) (rest := []) ⟨hx, hb, hml, hown, hts⟩ (k_X2_makeSteps l D cB cC cI cJ _ a12 a14 a15 a16 a17 x0 x2 x3 x4 x5 x6 f0 f1 g0 (by first | exact (om_1987 c_1 c_2) | ((first | omega | (unfold zBd at *; omega)))) h_x2 h_x3 h_x4 h_x5 hr_a12_0 (hg_led)) ⟨gcwB hts tw_1039 tw_13 tw_1036 hd_yX2_makeSteps ⟨Nat.le_of_ble_eq_true rfl, Nat.le_of_ble_eq_true rfl⟩, hts _ tw_1037, hts _ tw_1038⟩ ⟨gblind, va_recv hK hPc (ci := 2) (q0 := 0) rfl rfl, (gpreS hPc hK hDc hN).2⟩ rfl rfl hl.1 rfl (lv_room (Nat.le_of_ble_eq_true rfl)) dX11_lead_20 ⟨Nat.le_of_ble_eq_true rfl, Nat.le_of_ble_eq_true rfl⟩) (fun r_4 u_3 H locs hw_5 hP hD hS => ?_)
      replace hP : va_P D gcl [(a0, .inr (11, [.ref a1, .ref a2, .ref a3, .ref a4, .ref a5, .ref a6, .ref a7, .ref a8, .ref a9, .ref a10, .int x1, .ref a11, .ref a12, .ref a13])), (a12, .inr (2, [.ref a14, .ref a15, .ref a16, .int x2, .int (u_3.2.2.2.1 0), .int (u_3.2.2.2.1 1), .int (u_3.2.2.2.1 2), .int (u_3.2.2.2.1 3)])), (a14, .inr (8, [.ref a17])), (a17, .inl (cI, 30, .inl (u_3.2.1 0))), (a16, .inl (cI, 120, .inl (u_3.2.1 1))), (a11, .inr (1, [.ref a18, .ref a19, .ref a20, .int x7, .int x8, .int x9, .int x10, .int x11, .int x12, .int x13])), (a18, .inr (8, [.ref a21])), (a21, .inl (cI, 30, .inl f2)), (a15, .inl (cJ, 25, .inr (.inl (u_3.2.2.1 0))))] H := hP
      replace hD : va_D A [(a0, .inr (11, [.ref a1, .ref a2, .ref a3, .ref a4, .ref a5, .ref a6, .ref a7, .ref a8, .ref a9, .ref a10, .int x1, .ref a11, .ref a12, .ref a13])), (a12, .inr (2, [.ref a14, .ref a15, .ref a16, .int x2, .int (u_3.2.2.2.1 0), .int (u_3.2.2.2.1 1), .int (u_3.2.2.2.1 2), .int (u_3.2.2.2.1 3)])), (a14, .inr (8, [.ref a17])), (a17, .inl (cI, 30, .inl (u_3.2.1 0))), (a16, .inl (cI, 120, .inl (u_3.2.1 1))), (a11, .inr (1, [.ref a18, .ref a19, .ref a20, .int x7, .int x8, .int x9, .int x10, .int x11, .int x12, .int x13])), (a18, .inr (8, [.ref a21])), (a21, .inl (cI, 30, .inl f2)), (a15, .inl (cJ, 25, .inr (.inl (u_3.2.2.1 0))))] := hD
      have ru_3_0 : zBd (u_3.2.2.2.1 3).toInt (-2147483648) 2147483647 := n_rng (u_3.2.2.2.1 3)
      obtain ⟨hw_6, hw_7, hw_8, hw_9, hw_10, hw_11, hw_12, hw_13, hw_14, hw_15, hw_16⟩ := hw_5
      replace hw_6 : (0 ≤ r_4.toInt ∧ r_4.toInt ≤ 2147483647) := hw_6
      replace hw_7 : zBd (u_3.2.2.2.1 0).toInt 0 39 := hw_7
      replace hw_8 : zBd (u_3.2.2.2.1 1).toInt 0 40 := hw_8
      replace hw_9 : zBd (u_3.2.2.2.1 2).toInt 0 40 := hw_9
      replace hw_10 : ((u_3.2.2.2.1 1).toInt + (u_3.2.2.2.1 2).toInt ≤ 40) := hw_10
      replace hw_11 : (LedOK (u_3.2.1 0) (u_3.2.1 1) (u_3.2.2.2.1 0).toInt (u_3.2.2.2.1 1).toInt (u_3.2.2.2.1 2).toInt) := hw_11
      replace hw_12 : (0 ≤ r_4.toInt ∧ r_4.toInt ≤ x0.toInt) := hw_12
      replace hw_13 : ((u_3.2.2.2.1 3).toInt = x6.toInt + r_4.toInt) := hw_13
      replace hw_14 : (urQ x4.toInt x5.toInt (u_3.2.2.2.1 1).toInt (u_3.2.2.2.1 2).toInt r_4.toInt) := hw_14
      replace hw_15 : (∀ T : Nat → Int32, XOK T f0 f1 x2.toInt x3.toInt x4.toInt x5.toInt x6.toInt → XOK T (u_3.2.1 0) (u_3.2.1 1) x2.toInt (u_3.2.2.2.1 0).toInt (u_3.2.2.2.1 1).toInt (u_3.2.2.2.1 2).toInt (u_3.2.2.2.1 3).toInt) := hw_15
      replace hw_16 : (r_4.toInt = x0.toInt ∨ 200 ≤ (u_3.2.2.2.1 3).toInt ∨ noq (trT (u_3.2.1 0)) 6 x2.toInt x2.toInt 0) := hw_16
      have rr_4 : zBd r_4.toInt (-2147483648) 2147483647 := n_rng r_4
      exact hret r_4 ((fun _ => 0), (fun k => [(u_3.2.1 0), (u_3.2.1 1)].getD k (fun _ => 0)), (fun k => [(u_3.2.2.1 0)].getD k (fun _ => 0)), (fun k => [(u_3.2.2.2.1 0), (u_3.2.2.2.1 1), (u_3.2.2.2.1 2), (u_3.2.2.2.1 3)].getD k 0), (fun _ => 0)) dX11_lead_23 ⟨(show ((-1) ≤ r_4.toInt ∧ r_4.toInt ≤ 2147483647) from (by first | exact (om_1988 hw_12.1 rr_4.2) | ((first | omega | (unfold zBd at *; omega))))), (show (0 ≤ ((u_3.2.2.2.1 0) : Int32).toInt ∧ ((u_3.2.2.2.1 0) : Int32).toInt ≤ 39) from hw_7), (show (0 ≤ ((u_3.2.2.2.1 1) : Int32).toInt ∧ ((u_3.2.2.2.1 1) : Int32).toInt ≤ 40) from hw_8), (show (0 ≤ ((u_3.2.2.2.1 2) : Int32).toInt ∧ ((u_3.2.2.2.1 2) : Int32).toInt ≤ 40) from hw_9), (show (((u_3.2.2.2.1 1) : Int32).toInt + ((u_3.2.2.2.1 2) : Int32).toInt ≤ 40) from hw_10), (show LedOK (u_3.2.1 0) (u_3.2.1 1) (u_3.2.2.2.1 0).toInt (u_3.2.2.2.1 1).toInt (u_3.2.2.2.1 2).toInt from hw_11), (show XOK f2 (u_3.2.1 0) (u_3.2.1 1) x2.toInt (u_3.2.2.2.1 0).toInt (u_3.2.2.2.1 1).toInt (u_3.2.2.2.1 2).toInt (u_3.2.2.2.1 3).toInt from hw_15 _ hg_xk), (show ldQ r_4.toInt x0.toInt x4.toInt x5.toInt x6.toInt (u_3.2.2.2.1 1).toInt (u_3.2.2.2.1 2).toInt (u_3.2.2.2.1 3).toInt (trT (u_3.2.1 0)) 6 x2.toInt from ld_yes (by first | exact (om_1989 c_1 c_2) | ((first | omega | (unfold zBd at *; omega)))) hw_12 hw_13 hw_14 hw_16)⟩ (g_psub (wc := [(a0, .inr (11, [.ref a1, .ref a2, .ref a3, .ref a4, .ref a5, .ref a6, .ref a7, .ref a8, .ref a9, .ref a10, .int x1, .ref a11, .ref a12, .ref a13])), (a12, .inr (2, [.ref a14, .ref a15, .ref a16, .int x2, .int (u_3.2.2.2.1 0), .int (u_3.2.2.2.1 1), .int (u_3.2.2.2.1 2), .int (u_3.2.2.2.1 3)])), (a14, .inr (8, [.ref a17])), (a17, .inl (cI, 30, .inl (u_3.2.1 0))), (a16, .inl (cI, 120, .inl (u_3.2.1 1))), (a11, .inr (1, [.ref a18, .ref a19, .ref a20, .int x7, .int x8, .int x9, .int x10, .int x11, .int x12, .int x13])), (a18, .inr (8, [.ref a21])), (a21, .inl (cI, 30, .inl f2)), (a15, .inl (cJ, 25, .inr (.inl (u_3.2.2.1 0))))]) hP [0, 1, 2, 3, 4, 5, 6, 7, 8] rfl) (hD.sub (ws' := [(a0, .inr (11, [.ref a1, .ref a2, .ref a3, .ref a4, .ref a5, .ref a6, .ref a7, .ref a8, .ref a9, .ref a10, .int x1, .ref a11, .ref a12, .ref a13])), (a12, .inr (2, [.ref a14, .ref a15, .ref a16, .int x2, .int (u_3.2.2.2.1 0), .int (u_3.2.2.2.1 1), .int (u_3.2.2.2.1 2), .int (u_3.2.2.2.1 3)])), (a14, .inr (8, [.ref a17])), (a17, .inl (cI, 30, .inl (u_3.2.1 0))), (a16, .inl (cI, 120, .inl (u_3.2.1 1))), (a11, .inr (1, [.ref a18, .ref a19, .ref a20, .int x7, .int x8, .int x9, .int x10, .int x11, .int x12, .int x13])), (a18, .inr (8, [.ref a21])), (a21, .inl (cI, 30, .inl f2)), (a15, .inl (cJ, 25, .inr (.inl (u_3.2.2.1 0))))]) [0, 1, 2, 3, 4, 5, 6, 7, 8] (by decide) rfl) hS
    ·
      refine lv_iconst (pc := 11) (v := (-1)) hx hb dX11_lead_11 (by decide) ?_
      refine lv_goto (pc := 12) (tgt := 23) hx hb dX11_lead_12 (by decide) ?_
      have k9 := tI_m1
      exact hret (-1) ((fun _ => 0), (fun k => [f0, f1].getD k (fun _ => 0)), (fun k => [g0].getD k (fun _ => 0)), (fun k => [x3, x4, x5, x6].getD k 0), (fun _ => 0)) dX11_lead_23 ⟨(show ((-1) ≤ ((-1) : Int32).toInt ∧ ((-1) : Int32).toInt ≤ 2147483647) from (n_c tI_m1 (by decide))), (show (0 ≤ (x3 : Int32).toInt ∧ (x3 : Int32).toInt ≤ 39) from h_x3), (show (0 ≤ (x4 : Int32).toInt ∧ (x4 : Int32).toInt ≤ 40) from h_x4), (show (0 ≤ (x5 : Int32).toInt ∧ (x5 : Int32).toInt ≤ 40) from h_x5), (show ((x4 : Int32).toInt + (x5 : Int32).toInt ≤ 40) from hr_a12_0), (show LedOK f0 f1 x3.toInt x4.toInt x5.toInt from hg_led), (show XOK f2 f0 f1 x2.toInt x3.toInt x4.toInt x5.toInt x6.toInt from hg_xk), (show ldQ ((-1) : Int32).toInt x0.toInt x4.toInt x5.toInt x6.toInt x4.toInt x5.toInt x6.toInt (trT f0) 6 x2.toInt from ld_no (by first | exact (om_65 tI_m1) | ((first | omega | (unfold zBd at *; omega)))) (by first | exact (om_1990 c_2) | ((first | omega | (unfold zBd at *; omega)))))⟩ (g_psub (wc := [(a0, .inr (11, [.ref a1, .ref a2, .ref a3, .ref a4, .ref a5, .ref a6, .ref a7, .ref a8, .ref a9, .ref a10, .int x1, .ref a11, .ref a12, .ref a13])), (a12, .inr (2, [.ref a14, .ref a15, .ref a16, .int x2, .int x3, .int x4, .int x5, .int x6])), (a14, .inr (8, [.ref a17])), (a17, .inl (cI, 30, .inl f0)), (a16, .inl (cI, 120, .inl f1)), (a11, .inr (1, [.ref a18, .ref a19, .ref a20, .int x7, .int x8, .int x9, .int x10, .int x11, .int x12, .int x13])), (a18, .inr (8, [.ref a21])), (a21, .inl (cI, 30, .inl f2)), (a15, .inl (cJ, 25, .inr (.inl g0)))]) hP [0, 1, 2, 3, 4, 5, 6, 7, 8] rfl) (hD.sub (ws' := [(a0, .inr (11, [.ref a1, .ref a2, .ref a3, .ref a4, .ref a5, .ref a6, .ref a7, .ref a8, .ref a9, .ref a10, .int x1, .ref a11, .ref a12, .ref a13])), (a12, .inr (2, [.ref a14, .ref a15, .ref a16, .int x2, .int x3, .int x4, .int x5, .int x6])), (a14, .inr (8, [.ref a17])), (a17, .inl (cI, 30, .inl f0)), (a16, .inl (cI, 120, .inl f1)), (a11, .inr (1, [.ref a18, .ref a19, .ref a20, .int x7, .int x8, .int x9, .int x10, .int x11, .int x12, .int x13])), (a18, .inr (8, [.ref a21])), (a21, .inl (cI, 30, .inl f2)), (a15, .inl (cJ, 25, .inr (.inl g0)))]) [0, 1, 2, 3, 4, 5, 6, 7, 8] (by decide) rfl) hS
