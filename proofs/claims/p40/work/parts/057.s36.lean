set_option maxHeartbeats 4000000 in
set_option maxRecDepth 100000 in
theorem k_X10_firstLine_e (l : Launch) (D : va_G) (cB cC cI cJ : ClassId) (sz : Nat) (a0 a1 a2 a3 a4 a5 a6 a7 : Nat) (x0 : Int32) (f0 f1 f2 : Nat → Int32) (g0 g1 g2 : Nat → Int64) (h_x0 : zBd x0.toInt 0 4) (hf_f2 : (∀ j, 0 ≤ (f2 j).toInt ∧ (f2 j).toInt ≤ 23)) : Met l yX10_firstLine (.code yX10_firstLine cX10_firstLine 1 none :: lw_gd) ({ frames := 1, cells := 0, slots := 0, locals := 26 }) (gPre D [(cB, .byte), (cC, .char), (cI, .int), (cJ, .long)] [.ref a0] (zS_31 cB cC cI cJ a0 a1 a2 a3 a4 a5 a6 a7 x0 a1 g0 a2 g1 a3 g2 a4 f0 a5 f1 a7 f2) sz) (va_Qv (fun u => (∀ j, 0 ≤ ((u.2.1 0) j).toInt ∧ ((u.2.1 0) j).toInt ≤ 23) ∧ (∀ s : Int, 0 ≤ s → s < 5 → ((u.2.1 0) s.toNat).toInt = 0) ∧ (∀ T : Nat → Int32, prW g0 T x0.toInt → z0W g1 g2 x0.toInt → seW T (xW f0 f1 (u.2.1 0)) (u.2.2.1 0) (u.2.2.1 1) x0.toInt x0.toInt)) (gB D (va_A (zS_31 cB cC cI cJ a0 a1 a2 a3 a4 a5 a6 a7 x0 a1 g0 a2 g1 a3 g2 a4 f0 a5 f1 a7 f2) sz) (fun u : gEx => (zS_31 cB cC cI cJ a0 a1 a2 a3 a4 a5 a6 a7 x0 a1 g0 a2 (u.2.2.1 0) a3 (u.2.2.1 1) a4 f0 a5 f1 a7 (u.2.1 0)))) (va_A (zS_31 cB cC cI cJ a0 a1 a2 a3 a4 a5 a6 a7 x0 a1 g0 a2 g1 a3 g2 a4 f0 a5 f1 a7 f2) sz)) 0 0 (va_A (zS_31 cB cC cI cJ a0 a1 a2 a3 a4 a5 a6 a7 x0 a1 g0 a2 g1 a3 g2 a4 f0 a5 f1 a7 f2) sz) := by
  refine gOf_v (by decide +kernel) (Nat.le_of_ble_eq_true rfl) ?_
  intro p e s m args below meth c ls A Q hx hb hts hown hml hN hK hP hD hA hl hret
  replace hown : s.vm.findClass RX10 = some m.cls := hown
  have hS : va_S A s.heap s.heap [] := va_S.rf
  replace hP : va_P D gcl (zS_31 cB cC cI cJ a0 a1 a2 a3 a4 a5 a6 a7 x0 a1 g0 a2 g1 a3 g2 a4 f0 a5 f1 a7 f2) s.heap := hP
  replace hl : lv_has ls 1 [(0, .ref a0)] := hl
  refine lv_aload_n (pc := 0) hx hb dX10_firstLine_0 rfl (lv_at hl 0 rfl) ?_
  refine va_get (pc := 1) (ci := 10) (v := .ref a7) (C := RX10) (T := TX10) (N := 8) hx hb hts iX10 hown hK hP 0 rfl rfl 6 (by decide) (hts _ tw_216) (fun _ h9 => h9) rfl dX10_firstLine_1 ?_
  refine lv_iconst (pc := 4) (v := 0) hx hb dX10_firstLine_4 (by decide) ?_
  refine gd_v (pc := 5) (wc := [(a7, .inl (cI, 5, .inl f2))]) hP hD hS hA [6] rfl (by decide +kernel) (fun _ => by rfl) (fun hPc hDc => va_runS (As := [.ref a7, .int 0]) (rest := []) ⟨hx, hb, hml, hown, hts⟩ (k_J7_fill_53178_5r0_23_n l D cB cC cI cJ _ a7 0 f2 (n_c tI_0 (by decide)) hf_f2) ⟨gcwB hts tw_505 tw_10 tw_905 hd_yJ7_fill_53178 ⟨Nat.le_of_ble_eq_true rfl, Nat.le_of_ble_eq_true rfl⟩, hts _ tw_504⟩ (gpreS hPc hK hDc hN) rfl rfl hl.1 rfl (lv_room (Nat.le_of_ble_eq_true rfl)) dX10_firstLine_5 ⟨Nat.le_of_ble_eq_true rfl, Nat.le_of_ble_eq_true rfl⟩) (fun u_1 H locs hw_3 hP hD hS => ?_)
  replace hP : va_P D gcl (zS_31 cB cC cI cJ a0 a1 a2 a3 a4 a5 a6 a7 x0 a1 g0 a2 g1 a3 g2 a4 f0 a5 f1 a7 (u_1.2.1 0)) H := hP
  replace hD : va_D A (zS_31 cB cC cI cJ a0 a1 a2 a3 a4 a5 a6 a7 x0 a1 g0 a2 g1 a3 g2 a4 f0 a5 f1 a7 (u_1.2.1 0)) := hD
  obtain ⟨hw_4, hw_5⟩ := hw_3
  replace hw_4 : (∀ j, 0 ≤ ((u_1.2.1 0) j).toInt ∧ ((u_1.2.1 0) j).toInt ≤ 23) := hw_4
  replace hw_5 : (fillQ (u_1.2.1 0) (0 : Int32) 5) := hw_5
  have kk0_r_2 := tI_0
  refine lv_aload_n (pc := 8) hx hb dX10_firstLine_8 rfl (lv_at hl 0 rfl) ?_
  refine lv_iconst (pc := 9) (v := 0) hx hb dX10_firstLine_9 (by decide) ?_
  refine gd_v (pc := 10) (wc := (zS_31 cB cC cI cJ a0 a1 a2 a3 a4 a5 a6 a7 x0 a1 g0 a2 g1 a3 g2 a4 f0 a5 f1 a7 (u_1.2.1 0))) hP hD hS hA [0, 1, 2, 3, 4, 5, 6] rfl (by decide +kernel) (fun _ => by rfl) (fun hPc hDc => va_runV (As := [.int 0]) (rest := []) ⟨hx, hb, hml, hown, hts⟩ (k_X10_settle_e l D cB cC cI cJ _ a0 a1 a2 a3 a4 a5 a6 a7 0 x0 f0 f1 (u_1.2.1 0) g0 g1 g2 (n_c tI_0 (by decide)) h_x0 hw_4 (by first | exact (om_596 h_x0.1 tI_0) | (have k0 := tI_0; (first | omega | (unfold zBd at *; omega))))) ⟨gcwB hts tw_909 tw_8 tw_906 hd_yX10_settle ⟨Nat.le_of_ble_eq_true rfl, Nat.le_of_ble_eq_true rfl⟩, hts _ tw_908, hts _ tp_33⟩ ⟨gblind, va_recv hK hPc (ci := 10) (q0 := 0) rfl rfl, (gpreS hPc hK hDc hN).2⟩ rfl rfl hl.1 rfl (lv_room (Nat.le_of_ble_eq_true rfl)) dX10_firstLine_10 ⟨Nat.le_of_ble_eq_true rfl, Nat.le_of_ble_eq_true rfl⟩) (fun u_6 H locs hw_8 hP hD hS => ?_)
  replace hP : va_P D gcl (zS_31 cB cC cI cJ a0 a1 a2 a3 a4 a5 a6 a7 x0 a1 g0 a2 (u_6.2.2.1 0) a3 (u_6.2.2.1 1) a4 f0 a5 f1 a7 (u_1.2.1 0)) H := hP
  replace hD : va_D A (zS_31 cB cC cI cJ a0 a1 a2 a3 a4 a5 a6 a7 x0 a1 g0 a2 (u_6.2.2.1 0) a3 (u_6.2.2.1 1) a4 f0 a5 f1 a7 (u_1.2.1 0)) := hD
  have hw_9 : (∀ T : Nat → Int32, prW g0 T x0.toInt → seW T (xW f0 f1 (u_1.2.1 0)) g1 g2 x0.toInt (0 : Int32).toInt → seW T (xW f0 f1 (u_1.2.1 0)) (u_6.2.2.1 0) (u_6.2.2.1 1) x0.toInt x0.toInt) := hw_8
  have kk0_r_7 := tI_0
  exact hret ((fun _ => 0), (fun k => [(u_1.2.1 0)].getD k (fun _ => 0)), (fun k => [(u_6.2.2.1 0), (u_6.2.2.1 1)].getD k (fun _ => 0)), (fun _ => 0), (fun _ => 0)) dX10_firstLine_13 ⟨hw_4, (show ∀ s : Int, 0 ≤ s → s < 5 → ((u_1.2.1 0) s.toNat).toInt = 0 from (fun s a b => by rw [hw_5 s.toNat (by (first | omega | (unfold zBd at *; omega)))]; exact tI_0)), (show ∀ T : Nat → Int32, prW g0 T x0.toInt → z0W g1 g2 x0.toInt → seW T (xW f0 f1 (u_1.2.1 0)) (u_6.2.2.1 0) (u_6.2.2.1 1) x0.toInt x0.toInt from fun T p z => hw_9 T p (se_0 z))⟩ (g_psub (wc := (zS_31 cB cC cI cJ a0 a1 a2 a3 a4 a5 a6 a7 x0 a1 g0 a2 (u_6.2.2.1 0) a3 (u_6.2.2.1 1) a4 f0 a5 f1 a7 (u_1.2.1 0))) hP [0, 1, 2, 3, 4, 5, 6] rfl) (hD.sub (ws' := (zS_31 cB cC cI cJ a0 a1 a2 a3 a4 a5 a6 a7 x0 a1 g0 a2 (u_6.2.2.1 0) a3 (u_6.2.2.1 1) a4 f0 a5 f1 a7 (u_1.2.1 0))) [0, 1, 2, 3, 4, 5, 6] (by decide) rfl) hS
theorem om_1469 {a : Int} (h0 : (1 ≤ a)) (h1 : (a ≤ 331776)) : (-331776 ≤ a ∧ a ≤ 331776) := by omega
theorem om_1470 {a : Int} (h0 : ((-3) ≤ a)) (h1 : (a ≤ 24)) : (-24 ≤ a ∧ a ≤ 24) := by omega
theorem om_1471 {a b : Int} (h0 : (-(331776 * 24) ≤ a * b)) : (-2147483648 ≤ a * b) := by omega
theorem om_1472 {a b : Int} (h0 : (a * b ≤ 331776 * 24)) : (a * b ≤ 2147483647) := by omega
theorem om_1473 {a b c : Int} (h0 : (a = b * c)) (h1 : (-(331776 * 24) ≤ b * c)) (h2 : (b * c ≤ 331776 * 24)) : (((-7962624) ≤ a ∧ a ≤ 7962624)) := by omega
theorem om_1474 {a b c : Int} (h0 : (a = b * c)) : (a = b * c) := by omega
set_option maxHeartbeats 4000000 in
set_option maxRecDepth 100000 in
theorem k_X10_lineCount_e (l : Launch) (D : va_G) (cB cC cI cJ : ClassId) (sz : Nat) (a0 a1 a2 a3 a4 a5 a6 a7 : Nat) (x0 : Int32) (f0 : Nat → Int32) (h_x0 : zBd x0.toInt 0 4) (hf_f0 : (∀ j, (-3) ≤ (f0 j).toInt ∧ (f0 j).toInt ≤ 24)) (hg_cn : ∀ s : Int, 0 ≤ s → s < x0.toInt → 1 ≤ cW f0 s ∧ cW f0 s ≤ 24) : Met l yX10_lineCount (.code yX10_lineCount cX10_lineCount 3 (some .int) :: lw_gd) ({ frames := 0, cells := 0, slots := 0, locals := 0 }) (gPre D [(cB, .byte), (cC, .char), (cI, .int), (cJ, .long)] [.ref a0] (zS_52 cB cC cI cJ a0 a1 a2 a3 a4 a5 a6 a7 x0 a6 f0) sz) (va_Qi (fun r u => (1 ≤ r.toInt ∧ r.toInt ≤ 331776) ∧ (r.toInt = nmK (cW f0) (x0.toInt).toNat) ∧ (1 ≤ r.toInt ∧ r.toInt ≤ 331776)) (gB D (va_A (zS_52 cB cC cI cJ a0 a1 a2 a3 a4 a5 a6 a7 x0 a6 f0) sz) (fun u : gEx => (zS_52 cB cC cI cJ a0 a1 a2 a3 a4 a5 a6 a7 x0 a6 f0))) (va_A (zS_52 cB cC cI cJ a0 a1 a2 a3 a4 a5 a6 a7 x0 a6 f0) sz)) 0 0 (va_A (zS_52 cB cC cI cJ a0 a1 a2 a3 a4 a5 a6 a7 x0 a6 f0) sz) := by
  refine gOf_i (by decide +kernel) (Nat.le_of_ble_eq_true rfl) ?_
  intro p e s m args below meth c ls A Q hx hb hts hown hml hN hK hP hD hA hl hret
  replace hown : s.vm.findClass RX10 = some m.cls := hown
  have hS : va_S A s.heap s.heap [] := va_S.rf
  replace hP : va_P D gcl (zS_52 cB cC cI cJ a0 a1 a2 a3 a4 a5 a6 a7 x0 a6 f0) s.heap := hP
  replace hl : lv_has ls 3 [(0, .ref a0)] := hl
  refine lv_iconst (pc := 0) (v := 1) hx hb dX10_lineCount_0 (by decide) ?_
  refine lv_istore_n (pc := 1) (lv' := [(1, .int 1), (0, .ref a0)]) hx hb dX10_lineCount_1 rfl hl (by decide) rfl (fun ls hl => ?_)
  refine lv_iconst (pc := 2) (v := 0) hx hb dX10_lineCount_2 (by decide) ?_
  refine lv_istore_n (pc := 3) (lv' := [(2, .int 0), (1, .int 1), (0, .ref a0)]) hx hb dX10_lineCount_3 rfl hl (by decide) rfl (fun ls hl => ?_)
  have lp_8 : ∀ (n : Nat) (x_1 x_3 : Int32) (H : Heap) (locs : List Loc) (ls : Array Slot), (0 ≤ x_1.toInt ∧ x_1.toInt ≤ 4) → (1 ≤ x_3.toInt ∧ x_3.toInt ≤ 331776) → (x_1.toInt ≤ x0.toInt) → ((x_1.toInt = 0 ∧ x_3.toInt = 1) ∨ (x_1.toInt = 1 ∧ x_3.toInt ≤ 24) ∨ (x_1.toInt = 2 ∧ x_3.toInt ≤ 576) ∨ (x_1.toInt = 3 ∧ x_3.toInt ≤ 13824) ∨ (x_1.toInt = 4 ∧ x_3.toInt ≤ 331776)) → (x_3.toInt = nmK (cW f0) (x_1.toInt).toNat) → (2147483647 - x_1.toInt).toNat < n → va_P D gcl (zS_52 cB cC cI cJ a0 a1 a2 a3 a4 a5 a6 a7 x0 a6 f0) H → va_D A (zS_52 cB cC cI cJ a0 a1 a2 a3 a4 a5 a6 a7 x0 a6 f0) → va_S A s.heap H locs → lv_has ls 3 [(2, .int x_1), (1, .int x_3), (0, .ref a0)] → W p l e ({ frames := 0, cells := 0, slots := 0, locals := 0 }) s m args below meth c H locs 0 0 Q (F0 m 4 ls []) := by
    intro n
    induction n with
    | zero => intro x_1 x_3 H locs ls hi_2 hi_4 hi_5 hi_6 hi_7 hmu; exact absurd hmu (Nat.not_lt_zero _)
    | succ n ih_lp_8 =>
      intro x_1 x_3 H locs ls hi_2 hi_4 hi_5 hi_6 hi_7 hmu_lp_8 hP hD hS hl
      refine lv_iload_n (pc := 4) hx hb dX10_lineCount_4 rfl (lv_at hl 0 rfl) ?_
      refine lv_aload_n (pc := 5) hx hb dX10_lineCount_5 rfl (lv_at hl 2 rfl) ?_
      refine va_get (pc := 6) (ci := 10) (v := .int x0) (C := RX10) (T := TX10) (N := 8) hx hb hts iX10 hown hK hP 0 rfl rfl 7 (by decide) (hts _ tw_220) (fun _ h9 => h9) rfl dX10_lineCount_6 ?_
      have bd_h_x0 : 0 ≤ x0.toInt ∧ x0.toInt ≤ 4 := h_x0
      refine b_icmp_ge (pc := 9) (tgt := 27) hx hb rfl rfl  dX10_lineCount_9 (by decide) (fun c_9 => ?_) (fun c_9 => ?_)
      ·
        as_aux_lemma =>
          refine lv_iload_n (pc := 27) hx hb dX10_lineCount_27 rfl (lv_at hl 1 rfl) ?_
          exact hret x_3 ((fun _ => 0), (fun _ => (fun _ => 0)), (fun _ => (fun _ => 0)), (fun _ => 0), (fun _ => 0)) dX10_lineCount_28 ⟨(show (1 ≤ x_3.toInt ∧ x_3.toInt ≤ 331776) from hi_4), (show x_3.toInt = nmK (cW f0) (x0.toInt).toNat from (by have e9 : (x_1.toInt).toNat = (x0.toInt).toNat := (by (first | omega | (unfold zBd at *; omega))); have q9 := hi_7; rw [e9] at q9; exact q9)), (show 1 ≤ x_3.toInt ∧ x_3.toInt ≤ 331776 from hi_4)⟩ (g_psub (wc := (zS_52 cB cC cI cJ a0 a1 a2 a3 a4 a5 a6 a7 x0 a6 f0)) hP [0, 1] rfl) (hD.sub (ws' := (zS_52 cB cC cI cJ a0 a1 a2 a3 a4 a5 a6 a7 x0 a6 f0)) [0, 1] (by decide) rfl) hS
      ·
        as_aux_lemma =>
          refine lv_iload_n (pc := 12) hx hb dX10_lineCount_12 rfl (lv_at hl 1 rfl) ?_
          refine lv_aload_n (pc := 13) hx hb dX10_lineCount_13 rfl (lv_at hl 2 rfl) ?_
          refine va_get (pc := 14) (ci := 10) (v := .ref a6) (C := RX10) (T := TX10) (N := 8) hx hb hts iX10 hown hK hP 0 rfl rfl 5 (by decide) (hts _ tw_214) (fun _ h9 => h9) rfl dX10_lineCount_14 ?_
          refine lv_iload_n (pc := 17) hx hb dX10_lineCount_17 rfl (lv_at hl 0 rfl) ?_
          refine va_iald (pc := 18) hx hb hK hP 1 2 rfl rfl (n_in rfl (by first | exact (om_0 hi_2.1) | ((first | omega | (unfold zBd at *; omega)))) (by first | exact (om_1137 hi_2.2) | ((first | omega | (unfold zBd at *; omega))))) dX10_lineCount_18 ?_
          refine lv_topi (fun x_10 ex_10 => ?_)
          have rx_10 : ((-3) ≤ x_10.toInt ∧ x_10.toInt ≤ 24) := by rw [ex_10]; exact hf_f0 _
          replace ex_10 : x_10 = f0 (x_1.toInt).toNat := ex_10
          have tx_10 := congrArg Int32.toInt ex_10
          have hh_11 : x_10.toInt = cW f0 x_1.toInt := congrArg Int32.toInt ex_10
          have hh_12 := lc_m (a := x_3.toInt) (c := x_10.toInt) (by (first | omega | (unfold zBd at *; omega))) (by have q1 := hg_cn x_1.toInt (by (first | omega | (unfold zBd at *; omega))) (by (first | omega | (unfold zBd at *; omega))); rw [← hh_11] at q1; exact q1)
          have qx_13 := n_mulb (A := 331776) (B := 24) (by decide) (by decide) (show -331776 ≤ x_3.toInt ∧ x_3.toInt ≤ 331776 from (by first | exact (om_1469 hi_4.1 hi_4.2) | ((first | omega | (unfold zBd at *; omega))))) (show -24 ≤ x_10.toInt ∧ x_10.toInt ≤ 24 from (by first | exact (om_1470 rx_10.1 rx_10.2) | ((first | omega | (unfold zBd at *; omega)))))
          refine b_imul (pc := 19) hx hb rfl rfl (by first | exact (om_1471 qx_13.1) | ((first | omega | (unfold zBd at *; omega)))) (by first | exact (om_1472 qx_13.2) | ((first | omega | (unfold zBd at *; omega)))) dX10_lineCount_19 (fun x_13 ex_13 => ?_)
          have rx_13 : ((-7962624) ≤ x_13.toInt ∧ x_13.toInt ≤ 7962624) := (by first | exact (om_1473 ex_13 qx_13.1 qx_13.2) | ((first | omega | (unfold zBd at *; omega))))
          refine lv_istore_n (pc := 20) (lv' := [(1, .int x_13), (2, .int x_1), (0, .ref a0)]) hx hb dX10_lineCount_20 rfl hl (by decide) rfl (fun ls hl => ?_)
          refine b_iinc (pc := 21) hx hb dX10_lineCount_21 hl (k := 1) rfl rfl tI_1 (by first | exact (om_2 hi_2.1) | ((first | omega | (unfold zBd at *; omega)))) (by first | exact (om_1457 hi_2.2) | ((first | omega | (unfold zBd at *; omega)))) (by decide) (fun x_14 ex_14 ls hl => ?_)
          replace hl : lv_has ls 3 [(2, .int x_14), (1, .int x_13), (0, .ref a0)] := hl
          refine lv_goto (pc := 24) (tgt := 4) hx hb dX10_lineCount_24 (by decide) ?_
          exact ih_lp_8 x_14 x_13 _ _ ls (by first | exact (om_1458 ex_14 hi_2.1 c_9 h_x0.2) | ((first | omega | (unfold zBd at *; omega)))) (by (first | omega | (unfold zBd at *; omega))) (by first | exact (om_40 ex_14 c_9) | ((first | omega | (unfold zBd at *; omega)))) (by (first | omega | (unfold zBd at *; omega))) (nm_step hi_7 (by first | exact (om_0 hi_2.1) | ((first | omega | (unfold zBd at *; omega)))) hh_11 (by first | exact (om_1474 ex_13) | ((first | omega | (unfold zBd at *; omega)))) (by first | exact (om_5 ex_14) | ((first | omega | (unfold zBd at *; omega))))) (by (first | omega | (unfold zBd at *; omega))) hP hD hS (lv_sub hl [0, 1, 2] rfl)
  exact lp_8 _ 0 1 _ _ ls (n_c tI_0 (by decide)) (n_c tI_1 (by decide)) (by have q := tI_0; (first | omega | (unfold zBd at *; omega))) (by have q := tI_0; have q1 := tI_1; (first | omega | (unfold zBd at *; omega))) ((by rw [show ((0 : Int32).toInt).toNat = 0 by rw [tI_0]; rfl]; exact tI_1)) (Nat.lt_succ_self _) hP hD hS (lv_sub hl [0, 1, 2] rfl)
set_option maxHeartbeats 4000000 in
set_option maxRecDepth 100000 in
theorem k_X10_squaresAt_e (l : Launch) (D : va_G) (cB cC cI cJ : ClassId) (sz : Nat) (a0 a1 a2 a3 a4 a5 a6 a7 : Nat) (x0 x1 : Int32) (f0 f1 f2 : Nat → Int32) (g0 g1 g2 : Nat → Int64) (h_x1 : zBd x1.toInt 0 4) (hf_f2 : (∀ j, 0 ≤ (f2 j).toInt ∧ (f2 j).toInt ≤ 23)) : Met l yX10_squaresAt (.code yX10_squaresAt cX10_squaresAt 5 (some .long) :: lw_gd) ({ frames := 0, cells := 0, slots := 0, locals := 0 }) (gPre D [(cB, .byte), (cC, .char), (cI, .int), (cJ, .long)] [.ref a0, .int x0] (zS_31 cB cC cI cJ a0 a1 a2 a3 a4 a5 a6 a7 x1 a1 g0 a2 g1 a3 g2 a4 f0 a5 f1 a7 f2) sz) (va_Ql (fun r u => (∀ T : Nat → Int32, prW g0 T x1.toInt → seW T (xW f0 f1 f2) g1 g2 x1.toInt x1.toInt → r = I6 (qdK (bsK T (xW f0 f1 f2) (x1.toInt).toNat 6) (dtn T x1.toInt x1.toInt 6) (crK T (xW f0 f1 f2) (x1.toInt).toNat x1.toInt 6) (f0 (x1.toInt).toNat + f1 (x1.toInt).toNat * x0).toInt))) (gB D (va_A (zS_31 cB cC cI cJ a0 a1 a2 a3 a4 a5 a6 a7 x1 a1 g0 a2 g1 a3 g2 a4 f0 a5 f1 a7 f2) sz) (fun u : gEx => (zS_31 cB cC cI cJ a0 a1 a2 a3 a4 a5 a6 a7 x1 a1 g0 a2 g1 a3 g2 a4 f0 a5 f1 a7 f2))) (va_A (zS_31 cB cC cI cJ a0 a1 a2 a3 a4 a5 a6 a7 x1 a1 g0 a2 g1 a3 g2 a4 f0 a5 f1 a7 f2) sz)) 0 0 (va_A (zS_31 cB cC cI cJ a0 a1 a2 a3 a4 a5 a6 a7 x1 a1 g0 a2 g1 a3 g2 a4 f0 a5 f1 a7 f2) sz) := by
  refine gOf_l (by decide +kernel) (Nat.le_of_ble_eq_true rfl) ?_
  intro p e s m args below meth c ls A Q hx hb hts hown hml hN hK hP hD hA hl hret
  replace hown : s.vm.findClass RX10 = some m.cls := hown
  have hS : va_S A s.heap s.heap [] := va_S.rf
  replace hP : va_P D gcl (zS_31 cB cC cI cJ a0 a1 a2 a3 a4 a5 a6 a7 x1 a1 g0 a2 g1 a3 g2 a4 f0 a5 f1 a7 f2) s.heap := hP
  replace hl : lv_has ls 5 [(0, .ref a0), (1, .int x0)] := hl
  have rx0 : zBd x0.toInt (-2147483648) 2147483647 := n_rng x0
  refine lv_aload_n (pc := 0) hx hb dX10_squaresAt_0 rfl (lv_at hl 0 rfl) ?_
  refine va_get (pc := 1) (ci := 10) (v := .int x1) (C := RX10) (T := TX10) (N := 8) hx hb hts iX10 hown hK hP 0 rfl rfl 7 (by decide) (hts _ tw_220) (fun _ h9 => h9) rfl dX10_squaresAt_1 ?_
  have bd_h_x1 : 0 ≤ x1.toInt ∧ x1.toInt ≤ 4 := h_x1
  refine lv_iconst (pc := 4) (v := 5) hx hb dX10_squaresAt_4 (by decide) ?_
  refine b_imul (pc := 5) hx hb rfl tI_5 (by first | exact (om_330 h_x1.1) | ((first | omega | (unfold zBd at *; omega)))) (by first | exact (om_1162 h_x1.2) | ((first | omega | (unfold zBd at *; omega)))) dX10_squaresAt_5 (fun x_1 ex_1 => ?_)
  refine lv_aload_n (pc := 6) hx hb dX10_squaresAt_6 rfl (lv_at hl 0 rfl) ?_
  refine va_get (pc := 7) (ci := 10) (v := .int x1) (C := RX10) (T := TX10) (N := 8) hx hb hts iX10 hown hK hP 0 rfl rfl 7 (by decide) (hts _ tw_220) (fun _ h9 => h9) rfl dX10_squaresAt_7 ?_
  refine b_iadd (pc := 10) hx hb rfl rfl (by first | exact (om_406 ex_1 h_x1.1) | ((first | omega | (unfold zBd at *; omega)))) (by first | exact (om_1163 ex_1 h_x1.2) | ((first | omega | (unfold zBd at *; omega)))) dX10_squaresAt_10 (fun x_2 ex_2 => ?_)
  refine lv_istore_n (pc := 11) (lv' := [(2, .int x_2), (0, .ref a0), (1, .int x0)]) hx hb dX10_squaresAt_11 rfl hl (by decide) rfl (fun ls hl => ?_)
  refine lv_aload_n (pc := 12) hx hb dX10_squaresAt_12 rfl (lv_at hl 1 rfl) ?_
  as_aux_lemma =>
    refine va_get (pc := 13) (ci := 10) (v := .ref a4) (C := RX10) (T := TX10) (N := 8) hx hb hts iX10 hown hK hP 0 rfl rfl 3 (by decide) (hts _ tw_211) (fun _ h9 => h9) rfl dX10_squaresAt_13 ?_
    refine lv_aload_n (pc := 16) hx hb dX10_squaresAt_16 rfl (lv_at hl 1 rfl) ?_
    refine va_get (pc := 17) (ci := 10) (v := .int x1) (C := RX10) (T := TX10) (N := 8) hx hb hts iX10 hown hK hP 0 rfl rfl 7 (by decide) (hts _ tw_220) (fun _ h9 => h9) rfl dX10_squaresAt_17 ?_
    refine va_iald (pc := 20) hx hb hK hP 4 2 rfl rfl (n_in rfl (by first | exact (om_0 h_x1.1) | ((first | omega | (unfold zBd at *; omega)))) (by first | exact (om_1137 h_x1.2) | ((first | omega | (unfold zBd at *; omega))))) dX10_squaresAt_20 ?_
    refine lv_topi (fun x_3 ex_3 => ?_)
    have rx_3 : zBd x_3.toInt (-2147483648) 2147483647 := n_rng x_3
    replace ex_3 : x_3 = f0 (x1.toInt).toNat := ex_3
    have tx_3 := congrArg Int32.toInt ex_3
    refine lv_aload_n (pc := 21) hx hb dX10_squaresAt_21 rfl (lv_at hl 1 rfl) ?_
    refine va_get (pc := 22) (ci := 10) (v := .ref a5) (C := RX10) (T := TX10) (N := 8) hx hb hts iX10 hown hK hP 0 rfl rfl 4 (by decide) (hts _ tw_213) (fun _ h9 => h9) rfl dX10_squaresAt_22 ?_
    refine lv_aload_n (pc := 25) hx hb dX10_squaresAt_25 rfl (lv_at hl 1 rfl) ?_
    refine va_get (pc := 26) (ci := 10) (v := .int x1) (C := RX10) (T := TX10) (N := 8) hx hb hts iX10 hown hK hP 0 rfl rfl 7 (by decide) (hts _ tw_220) (fun _ h9 => h9) rfl dX10_squaresAt_26 ?_
    refine va_iald (pc := 29) hx hb hK hP 5 2 rfl rfl (n_in rfl (by first | exact (om_0 h_x1.1) | ((first | omega | (unfold zBd at *; omega)))) (by first | exact (om_1137 h_x1.2) | ((first | omega | (unfold zBd at *; omega))))) dX10_squaresAt_29 ?_
    as_aux_lemma =>
      refine lv_topi (fun x_4 ex_4 => ?_)
      have rx_4 : zBd x_4.toInt (-2147483648) 2147483647 := n_rng x_4
      replace ex_4 : x_4 = f1 (x1.toInt).toNat := ex_4
      have tx_4 := congrArg Int32.toInt ex_4
      refine lv_iload_n (pc := 30) hx hb dX10_squaresAt_30 rfl (lv_at hl 2 rfl) ?_
      refine lv_imul (pc := 31) hx hb dX10_squaresAt_31 ?_
      refine lv_topi (fun x_5 ex_5 => ?_)
      have rx_5 : zBd x_5.toInt (-2147483648) 2147483647 := n_rng x_5
      refine lv_iadd (pc := 32) hx hb dX10_squaresAt_32 ?_
      refine lv_topi (fun x_6 ex_6 => ?_)
      have rx_6 : zBd x_6.toInt (-2147483648) 2147483647 := n_rng x_6
      refine b_i2l (pc := 33) hx hb rfl dX10_squaresAt_33 (fun y_7 ey_7 => ?_)
      have ry_7 : zBd x_6.toInt (-2147483648) 2147483647 := n_rng x_6
      refine lv_lstore_n (pc := 34) (lv' := [(3, .long y_7), (2, .int x_2), (0, .ref a0), (1, .int x0)]) hx hb dX10_squaresAt_34 rfl hl (by decide) rfl (fun ls hl => ?_)
      have hh_8 : y_7 = I6 (f0 (x1.toInt).toNat + f1 (x1.toInt).toNat * x0).toInt := xW_v ex_3 ex_4 ex_5 ex_6 ey_7
      refine lv_aload_n (pc := 35) hx hb dX10_squaresAt_35 rfl (lv_at hl 2 rfl) ?_
      refine va_get (pc := 36) (ci := 10) (v := .ref a2) (C := RX10) (T := TX10) (N := 8) hx hb hts iX10 hown hK hP 0 rfl rfl 1 (by decide) (hts _ tw_209) (fun _ h9 => h9) rfl dX10_squaresAt_36 ?_
      as_aux_lemma =>
        refine lv_aload_n (pc := 39) hx hb dX10_squaresAt_39 rfl (lv_at hl 2 rfl) ?_
        refine va_get (pc := 40) (ci := 10) (v := .int x1) (C := RX10) (T := TX10) (N := 8) hx hb hts iX10 hown hK hP 0 rfl rfl 7 (by decide) (hts _ tw_220) (fun _ h9 => h9) rfl dX10_squaresAt_40 ?_
        refine va_lald (pc := 43) hx hb hK hP 2 3 rfl rfl (n_in rfl (by first | exact (om_0 h_x1.1) | ((first | omega | (unfold zBd at *; omega)))) (by first | exact (om_1137 h_x1.2) | ((first | omega | (unfold zBd at *; omega))))) dX10_squaresAt_43 ?_
        refine lv_topl (fun y_9 ey_9 => ?_)
        have ry_9 := n_rngL y_9
        replace ey_9 : y_9 = g1 (x1.toInt).toNat := ey_9
        have ty_9 := congrArg Int64.toInt ey_9
        refine lv_lload_n (pc := 44) hx hb dX10_squaresAt_44 rfl (lv_at hl 0 rfl) ?_
        refine lv_lload_n (pc := 45) hx hb dX10_squaresAt_45 rfl (lv_at hl 0 rfl) ?_
        refine lv_aload_n (pc := 46) hx hb dX10_squaresAt_46 rfl (lv_at hl 2 rfl) ?_
        refine va_get (pc := 47) (ci := 10) (v := .ref a1) (C := RX10) (T := TX10) (N := 8) hx hb hts iX10 hown hK hP 0 rfl rfl 0 (by decide) (hts _ tw_207) (fun _ h9 => h9) rfl dX10_squaresAt_47 ?_
        refine lv_iload_n (pc := 50) hx hb dX10_squaresAt_50 rfl (lv_at hl 1 rfl) ?_
        refine va_lald (pc := 51) hx hb hK hP 1 3 rfl rfl (n_in rfl (by first | exact (om_408 ex_2 ex_1 h_x1.1) | ((first | omega | (unfold zBd at *; omega)))) (by first | exact (om_1164 ex_2 ex_1 h_x1.2) | ((first | omega | (unfold zBd at *; omega))))) dX10_squaresAt_51 ?_
        as_aux_lemma =>
          refine lv_topl (fun y_10 ey_10 => ?_)
          have ry_10 := n_rngL y_10
          replace ey_10 : y_10 = g0 (x_2.toInt).toNat := ey_10
          have ty_10 := congrArg Int64.toInt ey_10
          refine lv_lmul (pc := 52) hx hb dX10_squaresAt_52 ?_
          refine lv_topl (fun y_11 ey_11 => ?_)
          have ry_11 := n_rngL y_11
          refine lv_ldc2 (pc := 53) hx hb hown (hts _ tw_910) dX10_squaresAt_53 ?_
          refine lv_aload_n (pc := 56) hx hb dX10_squaresAt_56 rfl (lv_at hl 2 rfl) ?_
          refine va_get (pc := 57) (ci := 10) (v := .ref a3) (C := RX10) (T := TX10) (N := 8) hx hb hts iX10 hown hK hP 0 rfl rfl 2 (by decide) (hts _ tw_210) (fun _ h9 => h9) rfl dX10_squaresAt_57 ?_
          refine lv_iload_n (pc := 60) hx hb dX10_squaresAt_60 rfl (lv_at hl 1 rfl) ?_
          refine va_lald (pc := 61) hx hb hK hP 3 3 rfl rfl (n_in rfl (by first | exact (om_408 ex_2 ex_1 h_x1.1) | ((first | omega | (unfold zBd at *; omega)))) (by first | exact (om_1164 ex_2 ex_1 h_x1.2) | ((first | omega | (unfold zBd at *; omega))))) dX10_squaresAt_61 ?_
          refine lv_topl (fun y_12 ey_12 => ?_)
          have ry_12 := n_rngL y_12
          replace ey_12 : y_12 = g2 (x_2.toInt).toNat := ey_12
          have ty_12 := congrArg Int64.toInt ey_12
          refine lv_lmul (pc := 62) hx hb dX10_squaresAt_62 ?_
          as_aux_lemma =>
            refine lv_topl (fun y_13 ey_13 => ?_)
            have ry_13 := n_rngL y_13
            refine lv_lsub (pc := 63) hx hb dX10_squaresAt_63 ?_
            refine lv_topl (fun y_14 ey_14 => ?_)
            have ry_14 := n_rngL y_14
            refine lv_lmul (pc := 64) hx hb dX10_squaresAt_64 ?_
            refine lv_topl (fun y_15 ey_15 => ?_)
            have ry_15 := n_rngL y_15
            refine lv_ladd (pc := 65) hx hb dX10_squaresAt_65 ?_
            refine lv_topl (fun y_16 ey_16 => ?_)
            have ry_16 := n_rngL y_16
            exact hret y_16 ((fun _ => 0), (fun _ => (fun _ => 0)), (fun _ => (fun _ => 0)), (fun _ => 0), (fun _ => 0)) dX10_squaresAt_66 (show ∀ T : Nat → Int32, prW g0 T x1.toInt → seW T (xW f0 f1 f2) g1 g2 x1.toInt x1.toInt → y_16 = I6 (qdK (bsK T (xW f0 f1 f2) (x1.toInt).toNat 6) (dtn T x1.toInt x1.toInt 6) (crK T (xW f0 f1 f2) (x1.toInt).toNat x1.toInt 6) (f0 (x1.toInt).toNat + f1 (x1.toInt).toNat * x0).toInt) from fun T p h => sq_at h p (by first | exact (om_0 h_x1.1) | ((first | omega | (unfold zBd at *; omega)))) ey_9 hh_8 (lW ey_10 (by first | exact (om_1468 ex_2 ex_1) | ((first | omega | (unfold zBd at *; omega))))) (lW ey_12 (by first | exact (om_1468 ex_2 ex_1) | ((first | omega | (unfold zBd at *; omega))))) rfl ey_11 ey_13 ey_14 ey_15 ey_16) (g_psub (wc := (zS_31 cB cC cI cJ a0 a1 a2 a3 a4 a5 a6 a7 x1 a1 g0 a2 g1 a3 g2 a4 f0 a5 f1 a7 f2)) hP [0, 1, 2, 3, 4, 5, 6] rfl) (hD.sub (ws' := (zS_31 cB cC cI cJ a0 a1 a2 a3 a4 a5 a6 a7 x1 a1 g0 a2 g1 a3 g2 a4 f0 a5 f1 a7 f2)) [0, 1, 2, 3, 4, 5, 6] (by decide) rfl) hS
theorem om_1475 {a b c d e : Int} (h0 : ((a = 0 ∧ b ≤ 0) ∨ (a = b ∧ 0 ≤ b))) (h1 : ((b = c ∧ c ≤ d) ∨ (b = d ∧ d ≤ c))) (h2 : (c = e)) (h3 : (e ≤ 2147483647)) : (-2147483648 ≤ a ∧ a ≤ 2147483647) := by omega
theorem om_1476 {a b c d e f g : Int} (h0 : ((c = 0 ∧ d ≤ 0) ∨ (c = d ∧ 0 ≤ d))) (h1 : (a = c)) (h2 : ((d = e ∧ e ≤ f) ∨ (d = f ∧ f ≤ e))) (h3 : (1 ≤ b)) (h4 : (g = b - 1)) (h5 : (e = g)) : (0 ≤ a ∧ a ≤ b - 1) := by omega
theorem om_1477 {a b : Int} (h0 : (a ≤ b - 1)) (h1 : (b ≤ 24)) : (a + 1 ≤ 2147483647) := by omega
theorem om_1478 {a b : Int} (h0 : (0 ≤ a)) (h1 : (a ≤ b - 1)) (h2 : (b ≤ 24)) : ((0 ≤ a ∧ a ≤ 24)) := by omega
theorem om_1479 {a b : Int} (h0 : (0 ≤ a)) (h1 : (a ≤ b - 1)) : (0 ≤ a ∧ a < b) := by omega
theorem om_1480 {a b c : Int} (h0 : (a = b + 1)) (h1 : (0 ≤ b)) (h2 : (b ≤ c - 1)) (h3 : (c ≤ 24)) : ((0 ≤ a ∧ a ≤ 24)) := by omega
theorem om_1481 {a b c d : Int} (h0 : (a = c + 1)) (h1 : (0 ≤ c)) (h2 : (d < b)) (h3 : (d = c + 1)) : (0 ≤ a ∧ a < b) := by omega
theorem om_1482 {a b : Int} (h0 : (a = 0)) (h1 : (1 ≤ b)) : (0 ≤ a ∧ a < b) := by omega
set_option maxHeartbeats 4000000 in
set_option maxRecDepth 100000 in
theorem k_X10_bestDigit_e (l : Launch) (D : va_G) (cB cC cI cJ : ClassId) (sz : Nat) (a0 a1 a2 a3 a4 a5 a6 a7 : Nat) (x0 x1 : Int32) (f0 f1 f2 : Nat → Int32) (g0 g1 g2 : Nat → Int64) (hp1 : (1 ≤ x0.toInt ∧ x0.toInt ≤ 24)) (h_x1 : zBd x1.toInt 0 4) (hf_f2 : (∀ j, 0 ≤ (f2 j).toInt ∧ (f2 j).toInt ≤ 23)) (hg__g : 1 ≤ (f1 (x1.toInt).toNat).toInt ∧ (f1 (x1.toInt).toNat).toInt ≤ 64) (hg__l : -30 ≤ (f0 (x1.toInt).toNat).toInt ∧ (f0 (x1.toInt).toNat).toInt + (f1 (x1.toInt).toNat).toInt * (x0.toInt - 1) ≤ 30) : Met l yX10_bestDigit (.code yX10_bestDigit cX10_bestDigit 8 (some .int) :: lw_gd) ({ frames := 1, cells := 0, slots := 0, locals := 25 }) (gPre D [(cB, .byte), (cC, .char), (cI, .int), (cJ, .long)] [.ref a0, .int x0] (zS_31 cB cC cI cJ a0 a1 a2 a3 a4 a5 a6 a7 x1 a1 g0 a2 g1 a3 g2 a4 f0 a5 f1 a7 f2) sz) (va_Qi (fun r u => (0 ≤ r.toInt ∧ r.toInt ≤ 24) ∧ (∀ T : Nat → Int32, prW g0 T x1.toInt → seW T (xW f0 f1 f2) g1 g2 x1.toInt x1.toInt → TB T 99 → xbW (xW f0 f1 f2) x1.toInt → fmQ (fun k => qdK (bsK T (xW f0 f1 f2) (x1.toInt).toNat 6) (dtn T x1.toInt x1.toInt 6) (crK T (xW f0 f1 f2) (x1.toInt).toNat x1.toInt 6) ((f0 (x1.toInt).toNat).toInt + (f1 (x1.toInt).toNat).toInt * k)) x0.toInt r.toInt) ∧ (0 ≤ r.toInt ∧ r.toInt < x0.toInt)) (gB D (va_A (zS_31 cB cC cI cJ a0 a1 a2 a3 a4 a5 a6 a7 x1 a1 g0 a2 g1 a3 g2 a4 f0 a5 f1 a7 f2) sz) (fun u : gEx => (zS_31 cB cC cI cJ a0 a1 a2 a3 a4 a5 a6 a7 x1 a1 g0 a2 g1 a3 g2 a4 f0 a5 f1 a7 f2))) (va_A (zS_31 cB cC cI cJ a0 a1 a2 a3 a4 a5 a6 a7 x1 a1 g0 a2 g1 a3 g2 a4 f0 a5 f1 a7 f2) sz)) 0 0 (va_A (zS_31 cB cC cI cJ a0 a1 a2 a3 a4 a5 a6 a7 x1 a1 g0 a2 g1 a3 g2 a4 f0 a5 f1 a7 f2) sz) := by
  refine gOf_i (by decide +kernel) (Nat.le_of_ble_eq_true rfl) ?_
  intro p e s m args below meth c ls A Q hx hb hts hown hml hN hK hP hD hA hl hret
  replace hown : s.vm.findClass RX10 = some m.cls := hown
  have hS : va_S A s.heap s.heap [] := va_S.rf
  replace hP : va_P D gcl (zS_31 cB cC cI cJ a0 a1 a2 a3 a4 a5 a6 a7 x1 a1 g0 a2 g1 a3 g2 a4 f0 a5 f1 a7 f2) s.heap := hP
  replace hl : lv_has ls 8 [(0, .ref a0), (1, .int x0)] := hl
  refine lv_aload_n (pc := 0) hx hb dX10_bestDigit_0 rfl (lv_at hl 0 rfl) ?_
  refine va_get (pc := 1) (ci := 10) (v := .int x1) (C := RX10) (T := TX10) (N := 8) hx hb hts iX10 hown hK hP 0 rfl rfl 7 (by decide) (hts _ tw_220) (fun _ h9 => h9) rfl dX10_bestDigit_1 ?_
  have bd_h_x1 : 0 ≤ x1.toInt ∧ x1.toInt ≤ 4 := h_x1
  refine lv_iconst (pc := 4) (v := 5) hx hb dX10_bestDigit_4 (by decide) ?_
  refine b_imul (pc := 5) hx hb rfl tI_5 (by first | exact (om_330 h_x1.1) | ((first | omega | (unfold zBd at *; omega)))) (by first | exact (om_1162 h_x1.2) | ((first | omega | (unfold zBd at *; omega)))) dX10_bestDigit_5 (fun x_1 ex_1 => ?_)
  refine lv_aload_n (pc := 6) hx hb dX10_bestDigit_6 rfl (lv_at hl 0 rfl) ?_
  refine va_get (pc := 7) (ci := 10) (v := .int x1) (C := RX10) (T := TX10) (N := 8) hx hb hts iX10 hown hK hP 0 rfl rfl 7 (by decide) (hts _ tw_220) (fun _ h9 => h9) rfl dX10_bestDigit_7 ?_
  refine b_iadd (pc := 10) hx hb rfl rfl (by first | exact (om_406 ex_1 h_x1.1) | ((first | omega | (unfold zBd at *; omega)))) (by first | exact (om_1163 ex_1 h_x1.2) | ((first | omega | (unfold zBd at *; omega)))) dX10_bestDigit_10 (fun x_2 ex_2 => ?_)
  refine lv_istore_n (pc := 11) (lv' := [(2, .int x_2), (0, .ref a0), (1, .int x0)]) hx hb dX10_bestDigit_11 rfl hl (by decide) rfl (fun ls hl => ?_)
  refine lv_aload_n (pc := 12) hx hb dX10_bestDigit_12 rfl (lv_at hl 1 rfl) ?_
  as_aux_lemma =>
    refine va_get (pc := 13) (ci := 10) (v := .ref a1) (C := RX10) (T := TX10) (N := 8) hx hb hts iX10 hown hK hP 0 rfl rfl 0 (by decide) (hts _ tw_207) (fun _ h9 => h9) rfl dX10_bestDigit_13 ?_
    refine lv_iload_n (pc := 16) hx hb dX10_bestDigit_16 rfl (lv_at hl 0 rfl) ?_
    refine va_lald (pc := 17) hx hb hK hP 1 3 rfl rfl (n_in rfl (by first | exact (om_408 ex_2 ex_1 h_x1.1) | ((first | omega | (unfold zBd at *; omega)))) (by first | exact (om_1164 ex_2 ex_1 h_x1.2) | ((first | omega | (unfold zBd at *; omega))))) dX10_bestDigit_17 ?_
    refine lv_topl (fun y_3 ey_3 => ?_)
    have ry_3 := n_rngL y_3
    replace ey_3 : y_3 = g0 (x_2.toInt).toNat := ey_3
    have ty_3 := congrArg Int64.toInt ey_3
    refine lv_aload_n (pc := 18) hx hb dX10_bestDigit_18 rfl (lv_at hl 1 rfl) ?_
    refine va_get (pc := 19) (ci := 10) (v := .ref a5) (C := RX10) (T := TX10) (N := 8) hx hb hts iX10 hown hK hP 0 rfl rfl 4 (by decide) (hts _ tw_213) (fun _ h9 => h9) rfl dX10_bestDigit_19 ?_
    refine lv_aload_n (pc := 22) hx hb dX10_bestDigit_22 rfl (lv_at hl 1 rfl) ?_
    refine va_get (pc := 23) (ci := 10) (v := .int x1) (C := RX10) (T := TX10) (N := 8) hx hb hts iX10 hown hK hP 0 rfl rfl 7 (by decide) (hts _ tw_220) (fun _ h9 => h9) rfl dX10_bestDigit_23 ?_
    refine va_iald (pc := 26) hx hb hK hP 5 2 rfl rfl (n_in rfl (by first | exact (om_0 h_x1.1) | ((first | omega | (unfold zBd at *; omega)))) (by first | exact (om_1137 h_x1.2) | ((first | omega | (unfold zBd at *; omega))))) dX10_bestDigit_26 ?_
    refine lv_topi (fun x_4 ex_4 => ?_)
    have rx_4 : zBd x_4.toInt (-2147483648) 2147483647 := n_rng x_4
    replace ex_4 : x_4 = f1 (x1.toInt).toNat := ex_4
    have tx_4 := congrArg Int32.toInt ex_4
    as_aux_lemma =>
      refine b_i2l (pc := 27) hx hb rfl dX10_bestDigit_27 (fun y_5 ey_5 => ?_)
      have ry_5 : zBd x_4.toInt (-2147483648) 2147483647 := n_rng x_4
      refine lv_lmul (pc := 28) hx hb dX10_bestDigit_28 ?_
      refine lv_topl (fun y_6 ey_6 => ?_)
      have ry_6 := n_rngL y_6
      refine lv_lstore_n (pc := 29) (lv' := [(3, .long y_6), (2, .int x_2), (0, .ref a0), (1, .int x0)]) hx hb dX10_bestDigit_29 rfl hl (by decide) rfl (fun ls hl => ?_)
      refine lv_lload_n (pc := 30) hx hb dX10_bestDigit_30 rfl (lv_at hl 0 rfl) ?_
      refine lv_lconst (pc := 31) (v := 0) hx hb dX10_bestDigit_31 (by decide) ?_
      refine b_lcmp_gt (pc := 32) (tgt := 38) hx hb rfl tL_0 dX10_bestDigit_32 dX10_bestDigit_33 (by decide) (fun c_7 => ?_) (fun c_7 => ?_)
      ·
        as_aux_lemma =>
          refine lv_aload_n (pc := 38) hx hb dX10_bestDigit_38 rfl (lv_at hl 2 rfl) ?_
          refine va_get (pc := 39) (ci := 10) (v := .ref a3) (C := RX10) (T := TX10) (N := 8) hx hb hts iX10 hown hK hP 0 rfl rfl 2 (by decide) (hts _ tw_210) (fun _ h9 => h9) rfl dX10_bestDigit_39 ?_
          refine lv_iload_n (pc := 42) hx hb dX10_bestDigit_42 rfl (lv_at hl 1 rfl) ?_
          refine va_lald (pc := 43) hx hb hK hP 3 3 rfl rfl (n_in rfl (by first | exact (om_408 ex_2 ex_1 h_x1.1) | ((first | omega | (unfold zBd at *; omega)))) (by first | exact (om_1164 ex_2 ex_1 h_x1.2) | ((first | omega | (unfold zBd at *; omega))))) dX10_bestDigit_43 ?_
          refine lv_topl (fun y_8 ey_8 => ?_)
          have ry_8 := n_rngL y_8
          replace ey_8 : y_8 = g2 (x_2.toInt).toNat := ey_8
          have ty_8 := congrArg Int64.toInt ey_8
          refine lv_aload_n (pc := 44) hx hb dX10_bestDigit_44 rfl (lv_at hl 2 rfl) ?_
          refine va_get (pc := 45) (ci := 10) (v := .ref a4) (C := RX10) (T := TX10) (N := 8) hx hb hts iX10 hown hK hP 0 rfl rfl 3 (by decide) (hts _ tw_211) (fun _ h9 => h9) rfl dX10_bestDigit_45 ?_
          refine lv_aload_n (pc := 48) hx hb dX10_bestDigit_48 rfl (lv_at hl 2 rfl) ?_
          refine va_get (pc := 49) (ci := 10) (v := .int x1) (C := RX10) (T := TX10) (N := 8) hx hb hts iX10 hown hK hP 0 rfl rfl 7 (by decide) (hts _ tw_220) (fun _ h9 => h9) rfl dX10_bestDigit_49 ?_
          refine va_iald (pc := 52) hx hb hK hP 4 2 rfl rfl (n_in rfl (by first | exact (om_0 h_x1.1) | ((first | omega | (unfold zBd at *; omega)))) (by first | exact (om_1137 h_x1.2) | ((first | omega | (unfold zBd at *; omega))))) dX10_bestDigit_52 ?_
          as_aux_lemma =>
            refine lv_topi (fun x_9 ex_9 => ?_)
            have rx_9 : zBd x_9.toInt (-2147483648) 2147483647 := n_rng x_9
            replace ex_9 : x_9 = f0 (x1.toInt).toNat := ex_9
            have tx_9 := congrArg Int32.toInt ex_9
            refine b_i2l (pc := 53) hx hb rfl dX10_bestDigit_53 (fun y_10 ey_10 => ?_)
            have ry_10 : zBd x_9.toInt (-2147483648) 2147483647 := n_rng x_9
            refine lv_aload_n (pc := 54) hx hb dX10_bestDigit_54 rfl (lv_at hl 2 rfl) ?_
            refine va_get (pc := 55) (ci := 10) (v := .ref a1) (C := RX10) (T := TX10) (N := 8) hx hb hts iX10 hown hK hP 0 rfl rfl 0 (by decide) (hts _ tw_207) (fun _ h9 => h9) rfl dX10_bestDigit_55 ?_
            refine lv_iload_n (pc := 58) hx hb dX10_bestDigit_58 rfl (lv_at hl 1 rfl) ?_
            refine va_lald (pc := 59) hx hb hK hP 1 3 rfl rfl (n_in rfl (by first | exact (om_408 ex_2 ex_1 h_x1.1) | ((first | omega | (unfold zBd at *; omega)))) (by first | exact (om_1164 ex_2 ex_1 h_x1.2) | ((first | omega | (unfold zBd at *; omega))))) dX10_bestDigit_59 ?_
            refine gL (y := y_3) ey_3.symm ?_
            refine lv_lmul (pc := 60) hx hb dX10_bestDigit_60 ?_
            refine lv_topl (fun y_11 ey_11 => ?_)
            have ry_11 := n_rngL y_11
            refine lv_lsub (pc := 61) hx hb dX10_bestDigit_61 ?_
            as_aux_lemma =>
              refine lv_topl (fun y_12 ey_12 => ?_)
              have ry_12 := n_rngL y_12
              refine lv_lload_n (pc := 62) hx hb dX10_bestDigit_62 rfl (lv_at hl 0 rfl) ?_
              refine va_fdlE (pc := 63) hx hb (hml.trans hl.1.symm) hown (hts _ tw_1152) (hts _ tw_1153) (hts _ tw_19) (hts _ tw_1154) (Nat.le_of_ble_eq_true rfl) (Nat.le_of_ble_eq_true rfl) (Nat.le_of_ble_eq_true rfl) (Nat.le_of_ble_eq_true rfl) (fun h => by have q := congrArg Int64.toInt h; have k := tL_0; (first | omega | (unfold zBd at *; omega))) dX10_bestDigit_63 (fun y_13 ey_13 => ?_)
              have ry_13 := n_rngL y_13
              refine lv_lstore (pc := 66) (lv' := [(5, .long y_13), (3, .long y_6), (2, .int x_2), (0, .ref a0), (1, .int x0)]) hx hb dX10_bestDigit_66 hl (by decide) rfl (fun ls hl => ?_)
              refine lv_lconst (pc := 68) (v := 0) hx hb dX10_bestDigit_68 (by decide) ?_
              refine lv_iload_n (pc := 69) hx hb dX10_bestDigit_69 rfl (lv_at hl 4 rfl) ?_
              refine lv_iconst (pc := 70) (v := 1) hx hb dX10_bestDigit_70 (by decide) ?_
              refine b_isub (pc := 71) hx hb rfl tI_1 (by first | exact (om_266 hp1.1) | ((first | omega | (unfold zBd at *; omega)))) (by first | exact (om_1207 hp1.2) | ((first | omega | (unfold zBd at *; omega)))) dX10_bestDigit_71 (fun x_14 ex_14 => ?_)
              refine b_i2l (pc := 72) hx hb rfl dX10_bestDigit_72 (fun y_15 ey_15 => ?_)
              have ry_15 : zBd x_14.toInt (-2147483648) 2147483647 := n_rng x_14
              refine lv_lload (pc := 73) hx hb dX10_bestDigit_73 (lv_at hl 0 rfl) ?_
              as_aux_lemma =>
                refine va_mmin_long (pc := 75) hx hb (hml.trans hl.1.symm) hown (hts _ tw_1155) (hts _ tw_857) (hts _ tw_19) (hts _ tw_858) (Nat.le_of_ble_eq_true rfl) (Nat.le_of_ble_eq_true rfl) (Nat.le_of_ble_eq_true rfl) (Nat.le_of_ble_eq_true rfl) dX10_bestDigit_75 ?_
                refine lv_topl (fun y_16 ey_16 => ?_)
                have ey_16 := n_minL rfl rfl ey_16
                have ry_16 := n_rngL y_16
                refine va_mmax_long (pc := 78) hx hb (hml.trans hl.1.symm) hown (hts _ tw_1156) (hts _ tw_860) (hts _ tw_19) (hts _ tw_861) (Nat.le_of_ble_eq_true rfl) (Nat.le_of_ble_eq_true rfl) (Nat.le_of_ble_eq_true rfl) (Nat.le_of_ble_eq_true rfl) dX10_bestDigit_78 ?_
                refine lv_topl (fun y_17 ey_17 => ?_)
                have ey_17 := n_maxL tL_0 rfl ey_17
                have ry_17 := n_rngL y_17
                refine lv_l2i (pc := 81) hx hb dX10_bestDigit_81 rfl ?_
                refine lv_topi (fun x_18 ex_18 => ?_)
                have rx_18 : zBd x_18.toInt (-2147483648) 2147483647 := n_rng x_18
                refine lv_istore (pc := 82) (lv' := [(7, .int x_18), (5, .long y_13), (3, .long y_6), (2, .int x_2), (0, .ref a0), (1, .int x0)]) hx hb dX10_bestDigit_82 hl (by decide) rfl (fun ls hl => ?_)
                have hh_19 : x_18.toInt = y_17.toInt := l2i_e ex_18 (by first | exact (om_1475 ey_17 ey_16 ey_15 ry_15.2) | ((first | omega | (unfold zBd at *; omega))))
                have rhh_19 : (0 ≤ x_18.toInt ∧ x_18.toInt ≤ x0.toInt - 1) := (by first | exact (om_1476 ey_17 hh_19 ey_16 hp1.1 ex_14 ey_15) | ((first | omega | (unfold zBd at *; omega))))
                refine lv_iload (pc := 84) hx hb dX10_bestDigit_84 (lv_at hl 0 rfl) ?_
                refine lv_iconst (pc := 86) (v := 1) hx hb dX10_bestDigit_86 (by decide) ?_
                refine b_iadd (pc := 87) hx hb rfl tI_1 (by first | exact (om_2 rhh_19.1) | ((first | omega | (unfold zBd at *; omega)))) (by first | exact (om_1477 rhh_19.2 hp1.2) | ((first | omega | (unfold zBd at *; omega)))) dX10_bestDigit_87 (fun x_20 ex_20 => ?_)
                as_aux_lemma =>
                  refine lv_iload_n (pc := 88) hx hb dX10_bestDigit_88 rfl (lv_at hl 5 rfl) ?_
                  refine b_icmp_ge (pc := 89) (tgt := 117) hx hb rfl rfl  dX10_bestDigit_89 (by decide) (fun c_21 => ?_) (fun c_21 => ?_)
                  ·
                    as_aux_lemma =>
                      refine lv_iload (pc := 117) hx hb dX10_bestDigit_117 (lv_at hl 0 rfl) ?_
                      exact hret x_18 ((fun _ => 0), (fun _ => (fun _ => 0)), (fun _ => (fun _ => 0)), (fun _ => 0), (fun _ => 0)) dX10_bestDigit_119 ⟨(show (0 ≤ x_18.toInt ∧ x_18.toInt ≤ 24) from (by first | exact (om_1478 rhh_19.1 rhh_19.2 hp1.2) | ((first | omega | (unfold zBd at *; omega))))), (show ∀ T : Nat → Int32, prW g0 T x1.toInt → seW T (xW f0 f1 f2) g1 g2 x1.toInt x1.toInt → TB T 99 → xbW (xW f0 f1 f2) x1.toInt → fmQ (fun k => qdK (bsK T (xW f0 f1 f2) (x1.toInt).toNat 6) (dtn T x1.toInt x1.toInt 6) (crK T (xW f0 f1 f2) (x1.toInt).toNat x1.toInt 6) ((f0 (x1.toInt).toNat).toInt + (f1 (x1.toInt).toNat).toInt * k)) x0.toInt x_18.toInt from fun T p h tb hx => bd_best (d0 := x_18.toInt) h p tb hx (by (first | omega | (unfold zBd at *; omega))) (by (first | omega | (unfold zBd at *; omega))) (lW ey_3 (by (first | omega | (unfold zBd at *; omega)))) (ey_5.trans (congrArg Int32.toInt ex_4)) hg__g ey_6 (by (first | omega | (unfold zBd at *; omega))) (by (first | omega | (unfold zBd at *; omega))) (lW ey_8 (by (first | omega | (unfold zBd at *; omega)))) (ey_10.trans (congrArg Int32.toInt ex_9)) (lo30 hg__g.1 hg__l (by first | exact (om_453 hp1.1) | ((first | omega | (unfold zBd at *; omega))))) (lW ey_3 (by (first | omega | (unfold zBd at *; omega)))) ey_11 ey_12 ey_13 (by (first | omega | (unfold zBd at *; omega))) (hd_b (Q := (fun k => qdK (bsK T (xW f0 f1 f2) (x1.toInt).toNat 6) (dtn T x1.toInt x1.toInt 6) (crK T (xW f0 f1 f2) (x1.toInt).toNat x1.toInt 6) ((f0 (x1.toInt).toNat).toInt + (f1 (x1.toInt).toNat).toInt * k))) (d0 := x_18.toInt) (by (first | omega | (unfold zBd at *; omega))) (by (first | omega | (unfold zBd at *; omega))))), (show 0 ≤ x_18.toInt ∧ x_18.toInt < x0.toInt from (by first | exact (om_1479 rhh_19.1 rhh_19.2) | ((first | omega | (unfold zBd at *; omega)))))⟩ (g_psub (wc := (zS_31 cB cC cI cJ a0 a1 a2 a3 a4 a5 a6 a7 x1 a1 g0 a2 g1 a3 g2 a4 f0 a5 f1 a7 f2)) hP [0, 1, 2, 3, 4, 5, 6] rfl) (hD.sub (ws' := (zS_31 cB cC cI cJ a0 a1 a2 a3 a4 a5 a6 a7 x1 a1 g0 a2 g1 a3 g2 a4 f0 a5 f1 a7 f2)) [0, 1, 2, 3, 4, 5, 6] (by decide) rfl) hS
                  ·
                    as_aux_lemma =>
                      refine lv_aload_n (pc := 92) hx hb dX10_bestDigit_92 rfl (lv_at hl 4 rfl) ?_
                      refine lv_iload (pc := 93) hx hb dX10_bestDigit_93 (lv_at hl 0 rfl) ?_
                      refine lv_iconst (pc := 95) (v := 1) hx hb dX10_bestDigit_95 (by decide) ?_
                      refine b_iadd (pc := 96) hx hb rfl tI_1 (by first | exact (om_2 rhh_19.1) | ((first | omega | (unfold zBd at *; omega)))) (by first | exact (om_1477 rhh_19.2 hp1.2) | ((first | omega | (unfold zBd at *; omega)))) dX10_bestDigit_96 (fun x_22 ex_22 => ?_)
                      refine gd_l (pc := 97) (wc := (zS_31 cB cC cI cJ a0 a1 a2 a3 a4 a5 a6 a7 x1 a1 g0 a2 g1 a3 g2 a4 f0 a5 f1 a7 f2)) hP hD hS hA [0, 1, 2, 3, 4, 5, 6] rfl (by decide +kernel) (fun _ => by rfl) (fun hPc hDc => va_runV (As := [.int x_22]) (rest := []) ⟨hx, hb, hml, hown, hts⟩ (k_X10_squaresAt_e l D cB cC cI cJ _ a0 a1 a2 a3 a4 a5 a6 a7 x_22 x1 f0 f1 f2 g0 g1 g2 h_x1 hf_f2) ⟨gcwB hts tw_922 tw_8 tw_1157 hd_yX10_squaresAt ⟨Nat.le_of_ble_eq_true rfl, Nat.le_of_ble_eq_true rfl⟩, hts _ tw_920, hts _ tw_921⟩ ⟨gblind, va_recv hK hPc (ci := 10) (q0 := 0) rfl rfl, (gpreS hPc hK hDc hN).2⟩ rfl rfl hl.1 rfl (lv_room (Nat.le_of_ble_eq_true rfl)) dX10_bestDigit_97 ⟨Nat.le_of_ble_eq_true rfl, Nat.le_of_ble_eq_true rfl⟩) (fun r_24 u_23 H locs hw_25 hP hD hS => ?_)
                      replace hP : va_P D gcl (zS_31 cB cC cI cJ a0 a1 a2 a3 a4 a5 a6 a7 x1 a1 g0 a2 g1 a3 g2 a4 f0 a5 f1 a7 f2) H := hP
                      replace hD : va_D A (zS_31 cB cC cI cJ a0 a1 a2 a3 a4 a5 a6 a7 x1 a1 g0 a2 g1 a3 g2 a4 f0 a5 f1 a7 f2) := hD
                      have hw_26 : (∀ T : Nat → Int32, prW g0 T x1.toInt → seW T (xW f0 f1 f2) g1 g2 x1.toInt x1.toInt → r_24 = I6 (qdK (bsK T (xW f0 f1 f2) (x1.toInt).toNat 6) (dtn T x1.toInt x1.toInt 6) (crK T (xW f0 f1 f2) (x1.toInt).toNat x1.toInt 6) (f0 (x1.toInt).toNat + f1 (x1.toInt).toNat * x_22).toInt)) := hw_25
                      have rr_24 := n_rngL r_24
                      refine lv_aload_n (pc := 100) hx hb dX10_bestDigit_100 rfl (lv_at hl 4 rfl) ?_
                      refine lv_iload (pc := 101) hx hb dX10_bestDigit_101 (lv_at hl 0 rfl) ?_
                      refine gd_l (pc := 103) (wc := (zS_31 cB cC cI cJ a0 a1 a2 a3 a4 a5 a6 a7 x1 a1 g0 a2 g1 a3 g2 a4 f0 a5 f1 a7 f2)) hP hD hS hA [0, 1, 2, 3, 4, 5, 6] rfl (by decide +kernel) (fun _ => by rfl) (fun hPc hDc => va_runV (As := [.int x_18]) (rest := [.long r_24]) ⟨hx, hb, hml, hown, hts⟩ (k_X10_squaresAt_e l D cB cC cI cJ _ a0 a1 a2 a3 a4 a5 a6 a7 x_18 x1 f0 f1 f2 g0 g1 g2 h_x1 hf_f2) ⟨gcwB hts tw_922 tw_8 tw_1157 hd_yX10_squaresAt ⟨Nat.le_of_ble_eq_true rfl, Nat.le_of_ble_eq_true rfl⟩, hts _ tw_920, hts _ tw_921⟩ ⟨gblind, va_recv hK hPc (ci := 10) (q0 := 0) rfl rfl, (gpreS hPc hK hDc hN).2⟩ rfl rfl hl.1 rfl (lv_room (Nat.le_of_ble_eq_true rfl)) dX10_bestDigit_103 ⟨Nat.le_of_ble_eq_true rfl, Nat.le_of_ble_eq_true rfl⟩) (fun r_28 u_27 H locs hw_29 hP hD hS => ?_)
                      replace hP : va_P D gcl (zS_31 cB cC cI cJ a0 a1 a2 a3 a4 a5 a6 a7 x1 a1 g0 a2 g1 a3 g2 a4 f0 a5 f1 a7 f2) H := hP
                      replace hD : va_D A (zS_31 cB cC cI cJ a0 a1 a2 a3 a4 a5 a6 a7 x1 a1 g0 a2 g1 a3 g2 a4 f0 a5 f1 a7 f2) := hD
                      have hw_30 : (∀ T : Nat → Int32, prW g0 T x1.toInt → seW T (xW f0 f1 f2) g1 g2 x1.toInt x1.toInt → r_28 = I6 (qdK (bsK T (xW f0 f1 f2) (x1.toInt).toNat 6) (dtn T x1.toInt x1.toInt 6) (crK T (xW f0 f1 f2) (x1.toInt).toNat x1.toInt 6) (f0 (x1.toInt).toNat + f1 (x1.toInt).toNat * x_18).toInt)) := hw_29
                      have rr_28 := n_rngL r_28
                      refine b_lcmp_ge (pc := 106) (tgt := 117) hx hb rfl rfl dX10_bestDigit_106 dX10_bestDigit_107 (by decide) (fun c_31 => ?_) (fun c_31 => ?_)
                      ·
                        as_aux_lemma =>
                          refine lv_iload (pc := 117) hx hb dX10_bestDigit_117 (lv_at hl 0 rfl) ?_
                          exact hret x_18 ((fun _ => 0), (fun _ => (fun _ => 0)), (fun _ => (fun _ => 0)), (fun _ => 0), (fun _ => 0)) dX10_bestDigit_119 ⟨(show (0 ≤ x_18.toInt ∧ x_18.toInt ≤ 24) from (by first | exact (om_1478 rhh_19.1 rhh_19.2 hp1.2) | ((first | omega | (unfold zBd at *; omega))))), (show ∀ T : Nat → Int32, prW g0 T x1.toInt → seW T (xW f0 f1 f2) g1 g2 x1.toInt x1.toInt → TB T 99 → xbW (xW f0 f1 f2) x1.toInt → fmQ (fun k => qdK (bsK T (xW f0 f1 f2) (x1.toInt).toNat 6) (dtn T x1.toInt x1.toInt 6) (crK T (xW f0 f1 f2) (x1.toInt).toNat x1.toInt 6) ((f0 (x1.toInt).toNat).toInt + (f1 (x1.toInt).toNat).toInt * k)) x0.toInt x_18.toInt from fun T p h tb hx => bd_best (d0 := x_18.toInt) h p tb hx (by (first | omega | (unfold zBd at *; omega))) (by (first | omega | (unfold zBd at *; omega))) (lW ey_3 (by (first | omega | (unfold zBd at *; omega)))) (ey_5.trans (congrArg Int32.toInt ex_4)) hg__g ey_6 (by (first | omega | (unfold zBd at *; omega))) (by (first | omega | (unfold zBd at *; omega))) (lW ey_8 (by (first | omega | (unfold zBd at *; omega)))) (ey_10.trans (congrArg Int32.toInt ex_9)) (lo30 hg__g.1 hg__l (by first | exact (om_453 hp1.1) | ((first | omega | (unfold zBd at *; omega))))) (lW ey_3 (by (first | omega | (unfold zBd at *; omega)))) ey_11 ey_12 ey_13 (by (first | omega | (unfold zBd at *; omega))) (hd_c (Q := (fun k => qdK (bsK T (xW f0 f1 f2) (x1.toInt).toNat 6) (dtn T x1.toInt x1.toInt 6) (crK T (xW f0 f1 f2) (x1.toInt).toNat x1.toInt 6) ((f0 (x1.toInt).toNat).toInt + (f1 (x1.toInt).toNat).toInt * k))) (bd_q (hw_26 T p h) tb hx (by (first | omega | (unfold zBd at *; omega))) (by (first | omega | (unfold zBd at *; omega))) rfl rfl (by (first | omega | (unfold zBd at *; omega))) hg__g.1 (by (first | omega | (unfold zBd at *; omega))) hg__l.1 hg__l.2) (bd_q (hw_30 T p h) tb hx (by (first | omega | (unfold zBd at *; omega))) (by (first | omega | (unfold zBd at *; omega))) rfl rfl rfl hg__g.1 (by (first | omega | (unfold zBd at *; omega))) hg__l.1 hg__l.2) (by (first | omega | (unfold zBd at *; omega))) (by (first | omega | (unfold zBd at *; omega))))), (show 0 ≤ x_18.toInt ∧ x_18.toInt < x0.toInt from (by first | exact (om_1479 rhh_19.1 rhh_19.2) | ((first | omega | (unfold zBd at *; omega)))))⟩ (g_psub (wc := (zS_31 cB cC cI cJ a0 a1 a2 a3 a4 a5 a6 a7 x1 a1 g0 a2 g1 a3 g2 a4 f0 a5 f1 a7 f2)) hP [0, 1, 2, 3, 4, 5, 6] rfl) (hD.sub (ws' := (zS_31 cB cC cI cJ a0 a1 a2 a3 a4 a5 a6 a7 x1 a1 g0 a2 g1 a3 g2 a4 f0 a5 f1 a7 f2)) [0, 1, 2, 3, 4, 5, 6] (by decide) rfl) hS
                      ·
                        as_aux_lemma =>
                          refine lv_iload (pc := 110) hx hb dX10_bestDigit_110 (lv_at hl 0 rfl) ?_
                          refine lv_iconst (pc := 112) (v := 1) hx hb dX10_bestDigit_112 (by decide) ?_
                          refine b_iadd (pc := 113) hx hb rfl tI_1 (by first | exact (om_2 rhh_19.1) | ((first | omega | (unfold zBd at *; omega)))) (by first | exact (om_1477 rhh_19.2 hp1.2) | ((first | omega | (unfold zBd at *; omega)))) dX10_bestDigit_113 (fun x_32 ex_32 => ?_)
                          refine lv_goto (pc := 114) (tgt := 119) hx hb dX10_bestDigit_114 (by decide) ?_
                          exact hret x_32 ((fun _ => 0), (fun _ => (fun _ => 0)), (fun _ => (fun _ => 0)), (fun _ => 0), (fun _ => 0)) dX10_bestDigit_119 ⟨(show (0 ≤ x_32.toInt ∧ x_32.toInt ≤ 24) from (by first | exact (om_1480 ex_32 rhh_19.1 rhh_19.2 hp1.2) | ((first | omega | (unfold zBd at *; omega))))), (show ∀ T : Nat → Int32, prW g0 T x1.toInt → seW T (xW f0 f1 f2) g1 g2 x1.toInt x1.toInt → TB T 99 → xbW (xW f0 f1 f2) x1.toInt → fmQ (fun k => qdK (bsK T (xW f0 f1 f2) (x1.toInt).toNat 6) (dtn T x1.toInt x1.toInt 6) (crK T (xW f0 f1 f2) (x1.toInt).toNat x1.toInt 6) ((f0 (x1.toInt).toNat).toInt + (f1 (x1.toInt).toNat).toInt * k)) x0.toInt x_32.toInt from fun T p h tb hx => bd_best (d0 := x_18.toInt) h p tb hx (by (first | omega | (unfold zBd at *; omega))) (by (first | omega | (unfold zBd at *; omega))) (lW ey_3 (by (first | omega | (unfold zBd at *; omega)))) (ey_5.trans (congrArg Int32.toInt ex_4)) hg__g ey_6 (by (first | omega | (unfold zBd at *; omega))) (by (first | omega | (unfold zBd at *; omega))) (lW ey_8 (by (first | omega | (unfold zBd at *; omega)))) (ey_10.trans (congrArg Int32.toInt ex_9)) (lo30 hg__g.1 hg__l (by first | exact (om_453 hp1.1) | ((first | omega | (unfold zBd at *; omega))))) (lW ey_3 (by (first | omega | (unfold zBd at *; omega)))) ey_11 ey_12 ey_13 (by (first | omega | (unfold zBd at *; omega))) (hd_a (Q := (fun k => qdK (bsK T (xW f0 f1 f2) (x1.toInt).toNat 6) (dtn T x1.toInt x1.toInt 6) (crK T (xW f0 f1 f2) (x1.toInt).toNat x1.toInt 6) ((f0 (x1.toInt).toNat).toInt + (f1 (x1.toInt).toNat).toInt * k))) (bd_q (hw_26 T p h) tb hx (by (first | omega | (unfold zBd at *; omega))) (by (first | omega | (unfold zBd at *; omega))) rfl rfl (by (first | omega | (unfold zBd at *; omega))) hg__g.1 (by (first | omega | (unfold zBd at *; omega))) hg__l.1 hg__l.2) (bd_q (hw_30 T p h) tb hx (by (first | omega | (unfold zBd at *; omega))) (by (first | omega | (unfold zBd at *; omega))) rfl rfl rfl hg__g.1 (by (first | omega | (unfold zBd at *; omega))) hg__l.1 hg__l.2) (by (first | omega | (unfold zBd at *; omega))) (by (first | omega | (unfold zBd at *; omega))) (by (first | omega | (unfold zBd at *; omega))))), (show 0 ≤ x_32.toInt ∧ x_32.toInt < x0.toInt from (by first | exact (om_1481 ex_32 rhh_19.1 c_21 ex_20) | ((first | omega | (unfold zBd at *; omega)))))⟩ (g_psub (wc := (zS_31 cB cC cI cJ a0 a1 a2 a3 a4 a5 a6 a7 x1 a1 g0 a2 g1 a3 g2 a4 f0 a5 f1 a7 f2)) hP [0, 1, 2, 3, 4, 5, 6] rfl) (hD.sub (ws' := (zS_31 cB cC cI cJ a0 a1 a2 a3 a4 a5 a6 a7 x1 a1 g0 a2 g1 a3 g2 a4 f0 a5 f1 a7 f2)) [0, 1, 2, 3, 4, 5, 6] (by decide) rfl) hS
      ·
        as_aux_lemma =>
          refine lv_iconst (pc := 36) (v := 0) hx hb dX10_bestDigit_36 (by decide) ?_
          have k9 := tI_0
          exact hret 0 ((fun _ => 0), (fun _ => (fun _ => 0)), (fun _ => (fun _ => 0)), (fun _ => 0), (fun _ => 0)) dX10_bestDigit_37 ⟨(show (0 ≤ (0 : Int32).toInt ∧ (0 : Int32).toInt ≤ 24) from (n_c tI_0 (by decide))), (show ∀ T : Nat → Int32, prW g0 T x1.toInt → seW T (xW f0 f1 f2) g1 g2 x1.toInt x1.toInt → TB T 99 → xbW (xW f0 f1 f2) x1.toInt → fmQ (fun k => qdK (bsK T (xW f0 f1 f2) (x1.toInt).toNat 6) (dtn T x1.toInt x1.toInt 6) (crK T (xW f0 f1 f2) (x1.toInt).toNat x1.toInt 6) ((f0 (x1.toInt).toNat).toInt + (f1 (x1.toInt).toNat).toInt * k)) x0.toInt (0 : Int32).toInt from fun T p h tb hx => bd_flat p tb (by (first | omega | (unfold zBd at *; omega))) (by (first | omega | (unfold zBd at *; omega))) (lW ey_3 (by (first | omega | (unfold zBd at *; omega)))) (ey_5.trans (congrArg Int32.toInt ex_4)) hg__g ey_6 (by (first | omega | (unfold zBd at *; omega))) (by (first | omega | (unfold zBd at *; omega))) (by have q := tI_0; (first | omega | (unfold zBd at *; omega)))), (show 0 ≤ (0 : Int32).toInt ∧ (0 : Int32).toInt < x0.toInt from (by first | exact (om_1482 tI_0 hp1.1) | (have k9 := tI_0; (first | omega | (unfold zBd at *; omega)))))⟩ (g_psub (wc := (zS_31 cB cC cI cJ a0 a1 a2 a3 a4 a5 a6 a7 x1 a1 g0 a2 g1 a3 g2 a4 f0 a5 f1 a7 f2)) hP [0, 1, 2, 3, 4, 5, 6] rfl) (hD.sub (ws' := (zS_31 cB cC cI cJ a0 a1 a2 a3 a4 a5 a6 a7 x1 a1 g0 a2 g1 a3 g2 a4 f0 a5 f1 a7 f2)) [0, 1, 2, 3, 4, 5, 6] (by decide) rfl) hS
theorem om_1483 {a : Int} (h0 : (a < 0)) : (a < 0) := by omega
theorem om_1484 {a b : Int} (h0 : (a ≤ b - 1)) : (a ≤ b) := by omega
theorem om_1485 {a b : Int} (h0 : (a ≤ b - 1)) : (a < b) := by omega
theorem om_1486 {a b c : Int} (h0 : (c < b)) (h1 : (c = a + 1)) : (a + 1 < b) := by omega
theorem om_1487 {a b : Int} (h0 : (a = b + (-1))) (h1 : (b ≥ 0)) (h2 : (b ≤ 3)) : (((-1) ≤ a ∧ a ≤ 3)) := by omega
theorem om_1488 {a b c : Int} (h0 : (a = c + (-1))) (h1 : (c ≤ b - 1)) : ((a ≤ b - 1)) := by omega
theorem om_1489 {a b c : Int} (h0 : (c ≥ a)) (h1 : (c = b + 1)) : (a ≤ b + 1) := by omega
theorem om_1490 {a b : Int} (h0 : (a = b - 1)) (h1 : (0 ≤ b)) (h2 : (b ≤ 4)) : (((-1) ≤ a ∧ a ≤ 3)) := by omega
theorem om_1491 {a b : Int} (h0 : (a = b - 1)) : ((a ≤ b - 1)) := by omega
set_option maxHeartbeats 4000000 in
set_option maxRecDepth 100000 in
theorem k_X10_nextLine_e (l : Launch) (D : va_G) (cB cC cI cJ : ClassId) (sz : Nat) (a0 a1 a2 a3 a4 a5 a6 a7 : Nat) (x0 : Int32) (f0 f1 f2 f3 : Nat → Int32) (g0 g1 g2 : Nat → Int64) (h_x0 : zBd x0.toInt 0 4) (hf_f2 : (∀ j, 0 ≤ (f2 j).toInt ∧ (f2 j).toInt ≤ 23)) (hf_f3 : (∀ j, (-3) ≤ (f3 j).toInt ∧ (f3 j).toInt ≤ 24)) : Met l yX10_nextLine (.code yX10_nextLine cX10_nextLine 2 none :: lw_gd) ({ frames := 1, cells := 0, slots := 0, locals := 26 }) (gPre D [(cB, .byte), (cC, .char), (cI, .int), (cJ, .long)] [.ref a0] (zS_86 cB cC cI cJ a0 a1 a2 a3 a4 a5 a6 a7 x0 a1 g0 a2 g1 a3 g2 a4 f0 a5 f1 a7 f2 a6 f3) sz) (va_Qv (fun u => (∀ j, 0 ≤ ((u.2.1 0) j).toInt ∧ ((u.2.1 0) j).toInt ≤ 23) ∧ (∀ T : Nat → Int32, prW g0 T x0.toInt → seW T (xW f0 f1 f2) g1 g2 x0.toInt x0.toInt → diW f2 f3 x0.toInt → nlW T f0 f1 f3 f2 (u.2.1 0) (u.2.2.1 0) (u.2.2.1 1) x0.toInt)) (gB D (va_A (zS_86 cB cC cI cJ a0 a1 a2 a3 a4 a5 a6 a7 x0 a1 g0 a2 g1 a3 g2 a4 f0 a5 f1 a7 f2 a6 f3) sz) (fun u : gEx => (zS_86 cB cC cI cJ a0 a1 a2 a3 a4 a5 a6 a7 x0 a1 g0 a2 (u.2.2.1 0) a3 (u.2.2.1 1) a4 f0 a5 f1 a7 (u.2.1 0) a6 f3))) (va_A (zS_86 cB cC cI cJ a0 a1 a2 a3 a4 a5 a6 a7 x0 a1 g0 a2 g1 a3 g2 a4 f0 a5 f1 a7 f2 a6 f3) sz)) 0 0 (va_A (zS_86 cB cC cI cJ a0 a1 a2 a3 a4 a5 a6 a7 x0 a1 g0 a2 g1 a3 g2 a4 f0 a5 f1 a7 f2 a6 f3) sz) := by
  refine gOf_v (by decide +kernel) (Nat.le_of_ble_eq_true rfl) ?_
  intro p e s m args below meth c ls A Q hx hb hts hown hml hN hK hP hD hA hl hret
  replace hown : s.vm.findClass RX10 = some m.cls := hown
  have hS : va_S A s.heap s.heap [] := va_S.rf
  replace hP : va_P D gcl (zS_86 cB cC cI cJ a0 a1 a2 a3 a4 a5 a6 a7 x0 a1 g0 a2 g1 a3 g2 a4 f0 a5 f1 a7 f2 a6 f3) s.heap := hP
  replace hl : lv_has ls 2 [(0, .ref a0)] := hl
  refine lv_aload_n (pc := 0) hx hb dX10_nextLine_0 rfl (lv_at hl 0 rfl) ?_
  refine va_get (pc := 1) (ci := 10) (v := .int x0) (C := RX10) (T := TX10) (N := 8) hx hb hts iX10 hown hK hP 0 rfl rfl 7 (by decide) (hts _ tw_220) (fun _ h9 => h9) rfl dX10_nextLine_1 ?_
  have bd_h_x0 : 0 ≤ x0.toInt ∧ x0.toInt ≤ 4 := h_x0
  refine lv_iconst (pc := 4) (v := 1) hx hb dX10_nextLine_4 (by decide) ?_
  refine b_isub (pc := 5) hx hb rfl tI_1 (by first | exact (om_660 h_x0.1) | ((first | omega | (unfold zBd at *; omega)))) (by first | exact (om_222 h_x0.2) | ((first | omega | (unfold zBd at *; omega)))) dX10_nextLine_5 (fun x_1 ex_1 => ?_)
  refine lv_istore_n (pc := 6) (lv' := [(1, .int x_1), (0, .ref a0)]) hx hb dX10_nextLine_6 rfl hl (by decide) rfl (fun ls hl => ?_)
  have lp_8 : ∀ (n : Nat) (x_2 : Int32) (f_4 : Nat → Int32) (H : Heap) (locs : List Loc) (ls : Array Slot), ((-1) ≤ x_2.toInt ∧ x_2.toInt ≤ 3) → (∀ j, 0 ≤ (f_4 j).toInt ∧ (f_4 j).toInt ≤ 23) → (x_2.toInt ≤ x0.toInt - 1) → (dzW f2 f_4 f3 x0.toInt x_2.toInt) → (x_2.toInt + 2147483648).toNat < n → va_P D gcl (zS_86 cB cC cI cJ a0 a1 a2 a3 a4 a5 a6 a7 x0 a1 g0 a2 g1 a3 g2 a4 f0 a5 f1 a7 f_4 a6 f3) H → va_D A (zS_86 cB cC cI cJ a0 a1 a2 a3 a4 a5 a6 a7 x0 a1 g0 a2 g1 a3 g2 a4 f0 a5 f1 a7 f_4 a6 f3) → va_S A s.heap H locs → lv_has ls 2 [(1, .int x_2), (0, .ref a0)] → W p l e ({ frames := 1, cells := 0, slots := 0, locals := 26 }) s m args below meth c H locs 0 0 Q (F0 m 7 ls []) := by
    intro n
    induction n with
    | zero => intro x_2 f_4 H locs ls hi_3 hi_5 hi_6 hi_7 hmu; exact absurd hmu (Nat.not_lt_zero _)
    | succ n ih_lp_8 =>
      intro x_2 f_4 H locs ls hi_3 hi_5 hi_6 hi_7 hmu_lp_8 hP hD hS hl
      refine lv_iload_n (pc := 7) hx hb dX10_nextLine_7 rfl (lv_at hl 0 rfl) ?_
      refine b_if_lt (pc := 8) (tgt := 41) hx hb rfl  dX10_nextLine_8 (by decide) (fun c_9 => ?_) (fun c_9 => ?_)
      ·
        as_aux_lemma =>
          refine lv_iload_n (pc := 41) hx hb dX10_nextLine_41 rfl (lv_at hl 0 rfl) ?_
          refine b_if_lt (pc := 42) (tgt := 60) hx hb rfl  dX10_nextLine_42 (by decide) (fun c_10 => ?_) (fun c_10 => absurd c_10 (by first | exact (om_1166 c_9) | ((first | omega | (unfold zBd at *; omega)))))
          exact hret ((fun _ => 0), (fun k => [f_4].getD k (fun _ => 0)), (fun k => [g1, g2].getD k (fun _ => 0)), (fun _ => 0), (fun _ => 0)) dX10_nextLine_60 ⟨hi_5, (show ∀ T : Nat → Int32, prW g0 T x0.toInt → seW T (xW f0 f1 f2) g1 g2 x0.toInt x0.toInt → diW f2 f3 x0.toInt → nlW T f0 f1 f3 f2 f_4 g1 g2 x0.toInt from fun T p q d => nl_no hi_7 d (by first | exact (om_1483 c_10) | ((first | omega | (unfold zBd at *; omega)))) (by first | exact (om_0 h_x0.1) | ((first | omega | (unfold zBd at *; omega)))))⟩ (g_psub (wc := (zS_86 cB cC cI cJ a0 a1 a2 a3 a4 a5 a6 a7 x0 a1 g0 a2 g1 a3 g2 a4 f0 a5 f1 a7 f_4 a6 f3)) hP [0, 1, 2, 3, 4, 5, 6, 7] rfl) (hD.sub (ws' := (zS_86 cB cC cI cJ a0 a1 a2 a3 a4 a5 a6 a7 x0 a1 g0 a2 g1 a3 g2 a4 f0 a5 f1 a7 f_4 a6 f3)) [0, 1, 2, 3, 4, 5, 6, 7] (by decide) rfl) hS
      ·
        as_aux_lemma =>
          refine lv_aload_n (pc := 11) hx hb dX10_nextLine_11 rfl (lv_at hl 1 rfl) ?_
          refine va_get (pc := 12) (ci := 10) (v := .ref a7) (C := RX10) (T := TX10) (N := 8) hx hb hts iX10 hown hK hP 0 rfl rfl 6 (by decide) (hts _ tw_216) (fun _ h9 => h9) rfl dX10_nextLine_12 ?_
          refine lv_iload_n (pc := 15) hx hb dX10_nextLine_15 rfl (lv_at hl 0 rfl) ?_
          refine va_iald (pc := 16) hx hb hK hP 6 2 rfl rfl (n_in rfl (by first | exact (om_10 c_9) | ((first | omega | (unfold zBd at *; omega)))) (by first | exact (om_1167 hi_3.2) | ((first | omega | (unfold zBd at *; omega))))) dX10_nextLine_16 ?_
          refine lv_topi (fun x_11 ex_11 => ?_)
          have rx_11 : (0 ≤ x_11.toInt ∧ x_11.toInt ≤ 23) := by rw [ex_11]; exact hi_5 _
          replace ex_11 : x_11 = f_4 (x_2.toInt).toNat := ex_11
          have tx_11 := congrArg Int32.toInt ex_11
          refine lv_iconst (pc := 17) (v := 1) hx hb dX10_nextLine_17 (by decide) ?_
          refine b_iadd (pc := 18) hx hb rfl tI_1 (by first | exact (om_2 rx_11.1) | ((first | omega | (unfold zBd at *; omega)))) (by first | exact (om_1168 rx_11.2) | ((first | omega | (unfold zBd at *; omega)))) dX10_nextLine_18 (fun x_12 ex_12 => ?_)
          refine lv_aload_n (pc := 19) hx hb dX10_nextLine_19 rfl (lv_at hl 1 rfl) ?_
          refine va_get (pc := 20) (ci := 10) (v := .ref a6) (C := RX10) (T := TX10) (N := 8) hx hb hts iX10 hown hK hP 0 rfl rfl 5 (by decide) (hts _ tw_214) (fun _ h9 => h9) rfl dX10_nextLine_20 ?_
          refine lv_iload_n (pc := 23) hx hb dX10_nextLine_23 rfl (lv_at hl 0 rfl) ?_
          as_aux_lemma =>
            refine va_iald (pc := 24) hx hb hK hP 7 2 rfl rfl (n_in rfl (by first | exact (om_10 c_9) | ((first | omega | (unfold zBd at *; omega)))) (by first | exact (om_1167 hi_3.2) | ((first | omega | (unfold zBd at *; omega))))) dX10_nextLine_24 ?_
            refine lv_topi (fun x_13 ex_13 => ?_)
            have rx_13 : ((-3) ≤ x_13.toInt ∧ x_13.toInt ≤ 24) := by rw [ex_13]; exact hf_f3 _
            replace ex_13 : x_13 = f3 (x_2.toInt).toNat := ex_13
            have tx_13 := congrArg Int32.toInt ex_13
            refine b_icmp_lt (pc := 25) (tgt := 41) hx hb rfl rfl  dX10_nextLine_25 (by decide) (fun c_14 => ?_) (fun c_14 => ?_)
            ·
              as_aux_lemma =>
                refine lv_iload_n (pc := 41) hx hb dX10_nextLine_41 rfl (lv_at hl 0 rfl) ?_
                refine b_if_lt (pc := 42) (tgt := 60) hx hb rfl  dX10_nextLine_42 (by decide) (fun c_15 => absurd c_15 (by first | exact (om_1169 c_9) | ((first | omega | (unfold zBd at *; omega))))) (fun c_15 => ?_)
                refine lv_aload_n (pc := 45) hx hb dX10_nextLine_45 rfl (lv_at hl 1 rfl) ?_
                refine va_get (pc := 46) (ci := 10) (v := .ref a7) (C := RX10) (T := TX10) (N := 8) hx hb hts iX10 hown hK hP 0 rfl rfl 6 (by decide) (hts _ tw_216) (fun _ h9 => h9) rfl dX10_nextLine_46 ?_
                refine lv_iload_n (pc := 49) hx hb dX10_nextLine_49 rfl (lv_at hl 0 rfl) ?_
                refine lv_dup2_11 (pc := 50) hx hb dX10_nextLine_50 rfl rfl ?_
                refine va_iald (pc := 51) hx hb hK hP 6 2 rfl rfl (n_in rfl (by first | exact (om_10 c_15) | ((first | omega | (unfold zBd at *; omega)))) (by first | exact (om_1167 hi_3.2) | ((first | omega | (unfold zBd at *; omega))))) dX10_nextLine_51 ?_
                refine gI (y := x_11) ex_11.symm ?_
                refine lv_iconst (pc := 52) (v := 1) hx hb dX10_nextLine_52 (by decide) ?_
                refine b_iadd (pc := 53) hx hb rfl tI_1 (by first | exact (om_2 rx_11.1) | ((first | omega | (unfold zBd at *; omega)))) (by first | exact (om_1168 rx_11.2) | ((first | omega | (unfold zBd at *; omega)))) dX10_nextLine_53 (fun x_16 ex_16 => ?_)
                as_aux_lemma =>
                  refine e_iastore (pc := 54) hx hb hK hP hD hS 6 2 rfl rfl (n_in rfl (by first | exact (om_10 c_15) | ((first | omega | (unfold zBd at *; omega)))) (by first | exact (om_1167 hi_3.2) | ((first | omega | (unfold zBd at *; omega))))) dX10_nextLine_54 (fun f_17 ef_17 H locs hP hD hS => ?_)
                  have hf_17 : (∀ j, 0 ≤ (f_17 j).toInt ∧ (f_17 j).toInt ≤ 23) := (by rw [ef_17]; exact n_upd hi_5 (by first | exact (om_918 ex_16 rx_11.1) | ((first | omega | (unfold zBd at *; omega)))) (by first | exact (om_1170 ex_16 ex_12 c_14 rx_13.2) | ((first | omega | (unfold zBd at *; omega)))))
                  replace hP : va_P D gcl (zS_86 cB cC cI cJ a0 a1 a2 a3 a4 a5 a6 a7 x0 a1 g0 a2 g1 a3 g2 a4 f0 a5 f1 a7 f_17 a6 f3) H := hP
                  replace hD : va_D A (zS_86 cB cC cI cJ a0 a1 a2 a3 a4 a5 a6 a7 x0 a1 g0 a2 g1 a3 g2 a4 f0 a5 f1 a7 f_17 a6 f3) := hD
                  refine lv_aload_n (pc := 55) hx hb dX10_nextLine_55 rfl (lv_at hl 1 rfl) ?_
                  refine lv_iload_n (pc := 56) hx hb dX10_nextLine_56 rfl (lv_at hl 0 rfl) ?_
                  refine gd_v (pc := 57) (wc := (zS_31 cB cC cI cJ a0 a1 a2 a3 a4 a5 a6 a7 x0 a1 g0 a2 g1 a3 g2 a4 f0 a5 f1 a7 f_17)) hP hD hS hA [0, 1, 2, 3, 4, 5, 6] rfl (by decide +kernel) (fun _ => by rfl) (fun hPc hDc => va_runV (As := [.int x_2]) (rest := []) ⟨hx, hb, hml, hown, hts⟩ (k_X10_settle_e l D cB cC cI cJ _ a0 a1 a2 a3 a4 a5 a6 a7 x_2 x0 f0 f1 f_17 g0 g1 g2 (by first | exact (om_1171 c_15 hi_3.2) | ((first | omega | (unfold zBd at *; omega)))) h_x0 hf_17 (by first | exact (om_1484 hi_6) | ((first | omega | (unfold zBd at *; omega))))) ⟨gcwB hts tw_909 tw_8 tw_906 hd_yX10_settle ⟨Nat.le_of_ble_eq_true rfl, Nat.le_of_ble_eq_true rfl⟩, hts _ tw_908, hts _ tp_33⟩ ⟨gblind, va_recv hK hPc (ci := 10) (q0 := 0) rfl rfl, (gpreS hPc hK hDc hN).2⟩ rfl rfl hl.1 rfl (lv_room (Nat.le_of_ble_eq_true rfl)) dX10_nextLine_57 ⟨Nat.le_of_ble_eq_true rfl, Nat.le_of_ble_eq_true rfl⟩) (fun u_18 H locs hw_20 hP hD hS => ?_)
                  replace hP : va_P D gcl (zS_86 cB cC cI cJ a0 a1 a2 a3 a4 a5 a6 a7 x0 a1 g0 a2 (u_18.2.2.1 0) a3 (u_18.2.2.1 1) a4 f0 a5 f1 a7 f_17 a6 f3) H := hP
                  replace hD : va_D A (zS_86 cB cC cI cJ a0 a1 a2 a3 a4 a5 a6 a7 x0 a1 g0 a2 (u_18.2.2.1 0) a3 (u_18.2.2.1 1) a4 f0 a5 f1 a7 f_17 a6 f3) := hD
                  have hw_21 : (∀ T : Nat → Int32, prW g0 T x0.toInt → seW T (xW f0 f1 f_17) g1 g2 x0.toInt x_2.toInt → seW T (xW f0 f1 f_17) (u_18.2.2.1 0) (u_18.2.2.1 1) x0.toInt x0.toInt) := hw_20
                  exact hret ((fun _ => 0), (fun k => [f_17].getD k (fun _ => 0)), (fun k => [(u_18.2.2.1 0), (u_18.2.2.1 1)].getD k (fun _ => 0)), (fun _ => 0), (fun _ => 0)) dX10_nextLine_60 ⟨hf_17, (show ∀ T : Nat → Int32, prW g0 T x0.toInt → seW T (xW f0 f1 f2) g1 g2 x0.toInt x0.toInt → diW f2 f3 x0.toInt → nlW T f0 f1 f3 f2 f_17 (u_18.2.2.1 0) (u_18.2.2.1 1) x0.toInt from fun T p q d => nl_yes hi_7 d (by first | exact (om_10 c_15) | ((first | omega | (unfold zBd at *; omega)))) (by first | exact (om_1485 hi_6) | ((first | omega | (unfold zBd at *; omega)))) ex_11 ex_13 (by first | exact (om_1486 c_14 ex_12) | ((first | omega | (unfold zBd at *; omega)))) (by (first | omega | (unfold zBd at *; omega))) ef_17 (hw_21 T p (nl_pre q hi_7 ef_17 (by first | exact (om_1484 hi_6) | ((first | omega | (unfold zBd at *; omega)))))))⟩ (g_psub (wc := (zS_86 cB cC cI cJ a0 a1 a2 a3 a4 a5 a6 a7 x0 a1 g0 a2 (u_18.2.2.1 0) a3 (u_18.2.2.1 1) a4 f0 a5 f1 a7 f_17 a6 f3)) hP [0, 1, 2, 3, 4, 5, 6, 7] rfl) (hD.sub (ws' := (zS_86 cB cC cI cJ a0 a1 a2 a3 a4 a5 a6 a7 x0 a1 g0 a2 (u_18.2.2.1 0) a3 (u_18.2.2.1 1) a4 f0 a5 f1 a7 f_17 a6 f3)) [0, 1, 2, 3, 4, 5, 6, 7] (by decide) rfl) hS
            ·
              as_aux_lemma =>
                refine lv_aload_n (pc := 28) hx hb dX10_nextLine_28 rfl (lv_at hl 1 rfl) ?_
                refine va_get (pc := 29) (ci := 10) (v := .ref a7) (C := RX10) (T := TX10) (N := 8) hx hb hts iX10 hown hK hP 0 rfl rfl 6 (by decide) (hts _ tw_216) (fun _ h9 => h9) rfl dX10_nextLine_29 ?_
                refine lv_iload_n (pc := 32) hx hb dX10_nextLine_32 rfl (lv_at hl 0 rfl) ?_
                refine lv_iconst (pc := 33) (v := 0) hx hb dX10_nextLine_33 (by decide) ?_
                refine e_iastore (pc := 34) hx hb hK hP hD hS 6 2 rfl rfl (n_in rfl (by first | exact (om_10 c_9) | ((first | omega | (unfold zBd at *; omega)))) (by first | exact (om_1167 hi_3.2) | ((first | omega | (unfold zBd at *; omega))))) dX10_nextLine_34 (fun f_22 ef_22 H locs hP hD hS => ?_)
                have hf_22 : (∀ j, 0 ≤ (f_22 j).toInt ∧ (f_22 j).toInt ≤ 23) := (by rw [ef_22]; exact n_upd hi_5 (by first | exact (om_976 tI_0) | (have k_f_22 := tI_0; (first | omega | (unfold zBd at *; omega)))) (by first | exact (om_1172 tI_0) | (have k_f_22 := tI_0; (first | omega | (unfold zBd at *; omega)))))
                replace hP : va_P D gcl (zS_86 cB cC cI cJ a0 a1 a2 a3 a4 a5 a6 a7 x0 a1 g0 a2 g1 a3 g2 a4 f0 a5 f1 a7 f_22 a6 f3) H := hP
                replace hD : va_D A (zS_86 cB cC cI cJ a0 a1 a2 a3 a4 a5 a6 a7 x0 a1 g0 a2 g1 a3 g2 a4 f0 a5 f1 a7 f_22 a6 f3) := hD
                refine b_iinc (pc := 35) hx hb dX10_nextLine_35 hl (k := 0) rfl rfl tI_m1 (by first | exact (om_1173 c_9) | ((first | omega | (unfold zBd at *; omega)))) (by first | exact (om_1174 hi_3.2) | ((first | omega | (unfold zBd at *; omega)))) (by decide) (fun x_23 ex_23 ls hl => ?_)
                replace hl : lv_has ls 2 [(1, .int x_23), (0, .ref a0)] := hl
                refine lv_goto (pc := 38) (tgt := 7) hx hb dX10_nextLine_38 (by decide) ?_
                exact ih_lp_8 x_23 f_22 _ _ ls (by first | exact (om_1487 ex_23 c_9 hi_3.2) | ((first | omega | (unfold zBd at *; omega)))) hf_22 (by first | exact (om_1488 ex_23 hi_6) | ((first | omega | (unfold zBd at *; omega)))) (dz_step hi_7 ex_11 ex_13 (by first | exact (om_1489 c_14 ex_12) | ((first | omega | (unfold zBd at *; omega)))) ef_22 tI_0 (by first | exact (om_10 c_9) | ((first | omega | (unfold zBd at *; omega)))) (by first | exact (om_1265 ex_23) | ((first | omega | (unfold zBd at *; omega))))) (by (first | omega | (unfold zBd at *; omega))) hP hD hS (lv_sub hl [0, 1] rfl)
  exact lp_8 _ x_1 f2 _ _ ls (by first | exact (om_1490 ex_1 h_x0.1 h_x0.2) | ((first | omega | (unfold zBd at *; omega)))) hf_f2 (by first | exact (om_1491 ex_1) | ((first | omega | (unfold zBd at *; omega)))) (dz_0 (by first | exact (om_683 ex_1) | ((first | omega | (unfold zBd at *; omega))))) (Nat.lt_succ_self _) hP hD hS (lv_sub hl [0, 1] rfl)
set_option maxHeartbeats 4000000 in
set_option maxRecDepth 100000 in
theorem k_X3_keepFound_e (l : Launch) (D : va_G) (cB cC cI cJ : ClassId) (sz : Nat) (a0 a1 a2 a3 a4 a5 a6 a7 a8 a9 a10 a11 a12 a13 : Nat) (x0 x1 x2 : Int32) (y0 y1 y2 : Int64) (f0 f1 : Nat → Int32) (hp1 : (0 ≤ x0.toInt ∧ x0.toInt ≤ 24)) (h_x1 : zBd x1.toInt 0 1) (h_x2 : zBd x2.toInt 0 4) (hf_f1 : (∀ j, 0 ≤ (f1 j).toInt ∧ (f1 j).toInt ≤ 23)) : Met l yX3_keepFound (.code yX3_keepFound cX3_keepFound 3 none :: lw_gd) ({ frames := 0, cells := 0, slots := 0, locals := 0 }) (gPre D [(cB, .byte), (cC, .char), (cI, .int), (cJ, .long)] [.ref a0, .int x0] (zS_153 cB cC cI cJ a0 a1 a2 a3 a4 a5 a6 y0 x1 y1 y2 a3 f0 a1 a7 a8 a9 a10 a11 a12 a13 x2 a13 f1) sz) (va_Qv (fun u => (kfW (u.2.1 0) f1 x2.toInt x0.toInt)) (gB D (va_A (zS_153 cB cC cI cJ a0 a1 a2 a3 a4 a5 a6 y0 x1 y1 y2 a3 f0 a1 a7 a8 a9 a10 a11 a12 a13 x2 a13 f1) sz) (fun u : gEx => (zS_153 cB cC cI cJ a0 a1 a2 a3 a4 a5 a6 y0 x1 y1 y2 a3 (u.2.1 0) a1 a7 a8 a9 a10 a11 a12 a13 x2 a13 f1))) (va_A (zS_153 cB cC cI cJ a0 a1 a2 a3 a4 a5 a6 y0 x1 y1 y2 a3 f0 a1 a7 a8 a9 a10 a11 a12 a13 x2 a13 f1) sz)) 0 0 (va_A (zS_153 cB cC cI cJ a0 a1 a2 a3 a4 a5 a6 y0 x1 y1 y2 a3 f0 a1 a7 a8 a9 a10 a11 a12 a13 x2 a13 f1) sz) := by
  refine gOf_v (by decide +kernel) (Nat.le_of_ble_eq_true rfl) ?_
  intro p e s m args below meth c ls A Q hx hb hts hown hml hN hK hP hD hA hl hret
  replace hown : s.vm.findClass RX3 = some m.cls := hown
  have hS : va_S A s.heap s.heap [] := va_S.rf
  replace hP : va_P D gcl (zS_153 cB cC cI cJ a0 a1 a2 a3 a4 a5 a6 y0 x1 y1 y2 a3 f0 a1 a7 a8 a9 a10 a11 a12 a13 x2 a13 f1) s.heap := hP
  replace hl : lv_has ls 3 [(0, .ref a0), (1, .int x0)] := hl
  have ry0 := n_rngL y0
  have ry1 := n_rngL y1
  have ry2 := n_rngL y2
  refine lv_iconst (pc := 0) (v := 0) hx hb dX3_keepFound_0 (by decide) ?_
  refine lv_istore_n (pc := 1) (lv' := [(2, .int 0), (0, .ref a0), (1, .int x0)]) hx hb dX3_keepFound_1 rfl hl (by decide) rfl (fun ls hl => ?_)
  have lp_6 : ∀ (n : Nat) (x_1 : Int32) (f_3 : Nat → Int32) (H : Heap) (locs : List Loc) (ls : Array Slot), (0 ≤ x_1.toInt ∧ x_1.toInt ≤ 4) → (x_1.toInt ≤ x2.toInt) → (∀ s : Int, 0 ≤ s → s < x_1.toInt → (f_3 s.toNat).toInt = (f1 s.toNat).toInt - 1) → (2147483647 - x_1.toInt).toNat < n → va_P D gcl (zS_153 cB cC cI cJ a0 a1 a2 a3 a4 a5 a6 y0 x1 y1 y2 a3 f_3 a1 a7 a8 a9 a10 a11 a12 a13 x2 a13 f1) H → va_D A (zS_153 cB cC cI cJ a0 a1 a2 a3 a4 a5 a6 y0 x1 y1 y2 a3 f_3 a1 a7 a8 a9 a10 a11 a12 a13 x2 a13 f1) → va_S A s.heap H locs → lv_has ls 3 [(2, .int x_1), (0, .ref a0), (1, .int x0)] → W p l e ({ frames := 0, cells := 0, slots := 0, locals := 0 }) s m args below meth c H locs 0 0 Q (F0 m 2 ls []) := by
    intro n
    induction n with
    | zero => intro x_1 f_3 H locs ls hi_2 hi_4 hi_5 hmu; exact absurd hmu (Nat.not_lt_zero _)
    | succ n ih_lp_6 =>
      intro x_1 f_3 H locs ls hi_2 hi_4 hi_5 hmu_lp_6 hP hD hS hl
      refine lv_iload_n (pc := 2) hx hb dX3_keepFound_2 rfl (lv_at hl 0 rfl) ?_
      refine lv_aload_n (pc := 3) hx hb dX3_keepFound_3 rfl (lv_at hl 1 rfl) ?_
      refine va_get (pc := 4) (ci := 3) (v := .ref a1) (C := RX3) (T := TX3) (N := 10) hx hb hts iX3 hown hK hP 0 rfl rfl 0 (by decide) (hts _ tw_348) (fun _ h9 => h9) rfl dX3_keepFound_4 ?_
      refine va_getN (pc := 7) (ci := 10) (v := .int x2) (C := RX10) (T := TX10) (N := 8) hx hb hts iX10 hown hK hP 2 rfl rfl 7 (by decide) (va_Nw.use rfl (hN _ tn_223)) (fun _ h9 => h9) rfl dX3_keepFound_7 ?_
      refine b_icmp_ge (pc := 10) (tgt := 36) hx hb rfl rfl  dX3_keepFound_10 (by decide) (fun c_7 => ?_) (fun c_7 => ?_)
      ·
        as_aux_lemma =>
          refine lv_aload_n (pc := 36) hx hb dX3_keepFound_36 rfl (lv_at hl 1 rfl) ?_
          refine va_get (pc := 37) (ci := 3) (v := .ref a3) (C := RX3) (T := TX3) (N := 10) hx hb hts iX3 hown hK hP 0 rfl rfl 2 (by decide) (hts _ tw_351) (fun _ h9 => h9) rfl dX3_keepFound_37 ?_
          refine lv_aload_n (pc := 40) hx hb dX3_keepFound_40 rfl (lv_at hl 1 rfl) ?_
          refine va_get (pc := 41) (ci := 3) (v := .ref a1) (C := RX3) (T := TX3) (N := 10) hx hb hts iX3 hown hK hP 0 rfl rfl 0 (by decide) (hts _ tw_348) (fun _ h9 => h9) rfl dX3_keepFound_41 ?_
          refine va_getN (pc := 44) (ci := 10) (v := .int x2) (C := RX10) (T := TX10) (N := 8) hx hb hts iX10 hown hK hP 2 rfl rfl 7 (by decide) (va_Nw.use rfl (hN _ tn_223)) (fun _ h9 => h9) rfl dX3_keepFound_44 ?_
          refine lv_iload_n (pc := 47) hx hb dX3_keepFound_47 rfl (lv_at hl 2 rfl) ?_
          refine lv_iconst (pc := 48) (v := 1) hx hb dX3_keepFound_48 (by decide) ?_
          refine b_isub (pc := 49) hx hb rfl tI_1 (by first | exact (om_660 hp1.1) | ((first | omega | (unfold zBd at *; omega)))) (by first | exact (om_1207 hp1.2) | ((first | omega | (unfold zBd at *; omega)))) dX3_keepFound_49 (fun x_8 ex_8 => ?_)
          refine e_iastore (pc := 50) hx hb hK hP hD hS 1 2 rfl rfl (n_in rfl (by first | exact (om_0 h_x2.1) | ((first | omega | (unfold zBd at *; omega)))) (by first | exact (om_1137 h_x2.2) | ((first | omega | (unfold zBd at *; omega))))) dX3_keepFound_50 (fun f_9 ef_9 H locs hP hD hS => ?_)
          replace hP : va_P D gcl (zS_153 cB cC cI cJ a0 a1 a2 a3 a4 a5 a6 y0 x1 y1 y2 a3 f_9 a1 a7 a8 a9 a10 a11 a12 a13 x2 a13 f1) H := hP
          replace hD : va_D A (zS_153 cB cC cI cJ a0 a1 a2 a3 a4 a5 a6 y0 x1 y1 y2 a3 f_9 a1 a7 a8 a9 a10 a11 a12 a13 x2 a13 f1) := hD
          exact hret ((fun _ => 0), (fun k => [f_9].getD k (fun _ => 0)), (fun _ => (fun _ => 0)), (fun _ => 0), (fun _ => 0)) dX3_keepFound_51 (show kfW f_9 f1 x2.toInt x0.toInt from kf_end hi_5 (by (first | omega | (unfold zBd at *; omega))) ef_9 (by (first | omega | (unfold zBd at *; omega)))) (g_psub (wc := (zS_153 cB cC cI cJ a0 a1 a2 a3 a4 a5 a6 y0 x1 y1 y2 a3 f_9 a1 a7 a8 a9 a10 a11 a12 a13 x2 a13 f1)) hP [0, 1, 2, 3] rfl) (hD.sub (ws' := (zS_153 cB cC cI cJ a0 a1 a2 a3 a4 a5 a6 y0 x1 y1 y2 a3 f_9 a1 a7 a8 a9 a10 a11 a12 a13 x2 a13 f1)) [0, 1, 2, 3] (by decide) rfl) hS
      ·
        as_aux_lemma =>
          refine lv_aload_n (pc := 13) hx hb dX3_keepFound_13 rfl (lv_at hl 1 rfl) ?_
          refine va_get (pc := 14) (ci := 3) (v := .ref a3) (C := RX3) (T := TX3) (N := 10) hx hb hts iX3 hown hK hP 0 rfl rfl 2 (by decide) (hts _ tw_351) (fun _ h9 => h9) rfl dX3_keepFound_14 ?_
          refine lv_iload_n (pc := 17) hx hb dX3_keepFound_17 rfl (lv_at hl 0 rfl) ?_
          refine lv_aload_n (pc := 18) hx hb dX3_keepFound_18 rfl (lv_at hl 1 rfl) ?_
          refine va_get (pc := 19) (ci := 3) (v := .ref a1) (C := RX3) (T := TX3) (N := 10) hx hb hts iX3 hown hK hP 0 rfl rfl 0 (by decide) (hts _ tw_348) (fun _ h9 => h9) rfl dX3_keepFound_19 ?_
          refine va_getN (pc := 22) (ci := 10) (v := .ref a13) (C := RX10) (T := TX10) (N := 8) hx hb hts iX10 hown hK hP 2 rfl rfl 6 (by decide) (va_Nw.use rfl (hN _ tn_219)) (fun _ h9 => h9) rfl dX3_keepFound_22 ?_
          refine lv_iload_n (pc := 25) hx hb dX3_keepFound_25 rfl (lv_at hl 0 rfl) ?_
          refine va_iald (pc := 26) hx hb hK hP 3 2 rfl rfl (n_in rfl (by first | exact (om_0 hi_2.1) | ((first | omega | (unfold zBd at *; omega)))) (by first | exact (om_1137 hi_2.2) | ((first | omega | (unfold zBd at *; omega))))) dX3_keepFound_26 ?_
          refine lv_topi (fun x_10 ex_10 => ?_)
          have rx_10 : (0 ≤ x_10.toInt ∧ x_10.toInt ≤ 23) := by rw [ex_10]; exact hf_f1 _
          replace ex_10 : x_10 = f1 (x_1.toInt).toNat := ex_10
          have tx_10 := congrArg Int32.toInt ex_10
          refine lv_iconst (pc := 27) (v := 1) hx hb dX3_keepFound_27 (by decide) ?_
          as_aux_lemma =>
            refine b_isub (pc := 28) hx hb rfl tI_1 (by first | exact (om_660 rx_10.1) | ((first | omega | (unfold zBd at *; omega)))) (by first | exact (om_1287 rx_10.2) | ((first | omega | (unfold zBd at *; omega)))) dX3_keepFound_28 (fun x_11 ex_11 => ?_)
            refine e_iastore (pc := 29) hx hb hK hP hD hS 1 2 rfl rfl (n_in rfl (by first | exact (om_0 hi_2.1) | ((first | omega | (unfold zBd at *; omega)))) (by first | exact (om_1137 hi_2.2) | ((first | omega | (unfold zBd at *; omega))))) dX3_keepFound_29 (fun f_12 ef_12 H locs hP hD hS => ?_)
            replace hP : va_P D gcl (zS_153 cB cC cI cJ a0 a1 a2 a3 a4 a5 a6 y0 x1 y1 y2 a3 f_12 a1 a7 a8 a9 a10 a11 a12 a13 x2 a13 f1) H := hP
            replace hD : va_D A (zS_153 cB cC cI cJ a0 a1 a2 a3 a4 a5 a6 y0 x1 y1 y2 a3 f_12 a1 a7 a8 a9 a10 a11 a12 a13 x2 a13 f1) := hD
            refine b_iinc (pc := 30) hx hb dX3_keepFound_30 hl (k := 0) rfl rfl tI_1 (by first | exact (om_2 hi_2.1) | ((first | omega | (unfold zBd at *; omega)))) (by first | exact (om_1457 hi_2.2) | ((first | omega | (unfold zBd at *; omega)))) (by decide) (fun x_13 ex_13 ls hl => ?_)
            replace hl : lv_has ls 3 [(2, .int x_13), (0, .ref a0), (1, .int x0)] := hl
            refine lv_goto (pc := 33) (tgt := 2) hx hb dX3_keepFound_33 (by decide) ?_
            exact ih_lp_6 x_13 f_12 _ _ ls (by first | exact (om_1458 ex_13 hi_2.1 c_7 h_x2.2) | ((first | omega | (unfold zBd at *; omega)))) (by first | exact (om_40 ex_13 c_7) | ((first | omega | (unfold zBd at *; omega)))) (kf_put hi_5 ex_10 (by (first | omega | (unfold zBd at *; omega))) ef_12 (by first | exact (om_0 hi_2.1) | ((first | omega | (unfold zBd at *; omega)))) (by (first | omega | (unfold zBd at *; omega)))) (by (first | omega | (unfold zBd at *; omega))) hP hD hS (lv_sub hl [0, 1, 2] rfl)
  exact lp_6 _ 0 f0 _ _ ls (n_c tI_0 (by decide)) (by have q := tI_0; (first | omega | (unfold zBd at *; omega))) (fun s a b => absurd b (by have q := tI_0; (first | omega | (unfold zBd at *; omega)))) (Nat.lt_succ_self _) hP hD hS (lv_sub hl [0, 1, 2] rfl)
set_option maxHeartbeats 4000000 in
set_option maxRecDepth 100000 in
theorem k_X10_setNumbers_e (l : Launch) (D : va_G) (cB cC cI cJ : ClassId) (sz : Nat) (a0 a1 a2 a3 a4 a5 a6 a7 : Nat) (x0 x1 x2 x3 x4 : Int32) (f0 f1 f2 : Nat → Int32) (hp1 : (0 ≤ x0.toInt ∧ x0.toInt ≤ 4)) (hp4 : ((-3) ≤ x3.toInt ∧ x3.toInt ≤ 24)) (h_x4 : zBd x4.toInt 0 4) (hf_f2 : (∀ j, (-3) ≤ (f2 j).toInt ∧ (f2 j).toInt ≤ 24)) : Met l yX10_setNumbers (.code yX10_setNumbers cX10_setNumbers 5 none :: lw_gd) ({ frames := 0, cells := 0, slots := 0, locals := 0 }) (gPre D [(cB, .byte), (cC, .char), (cI, .int), (cJ, .long)] [.ref a0, .int x0, .int x1, .int x2, .int x3] (zS_22 cB cC cI cJ a0 a1 a2 a3 a4 a5 a6 a7 x4 a4 f0 a5 f1 a6 f2) sz) (va_Qv (fun u => (∀ j, (-3) ≤ ((u.2.1 2) j).toInt ∧ ((u.2.1 2) j).toInt ≤ 24) ∧ ((u.2.1 0) = upd f0 (x0.toInt).toNat x1) ∧ ((u.2.1 1) = upd f1 (x0.toInt).toNat x2) ∧ ((u.2.1 2) = upd f2 (x0.toInt).toNat x3)) (gB D (va_A (zS_22 cB cC cI cJ a0 a1 a2 a3 a4 a5 a6 a7 x4 a4 f0 a5 f1 a6 f2) sz) (fun u : gEx => (zS_22 cB cC cI cJ a0 a1 a2 a3 a4 a5 a6 a7 x4 a4 (u.2.1 0) a5 (u.2.1 1) a6 (u.2.1 2)))) (va_A (zS_22 cB cC cI cJ a0 a1 a2 a3 a4 a5 a6 a7 x4 a4 f0 a5 f1 a6 f2) sz)) 0 0 (va_A (zS_22 cB cC cI cJ a0 a1 a2 a3 a4 a5 a6 a7 x4 a4 f0 a5 f1 a6 f2) sz) := by
  refine gOf_v (by decide +kernel) (Nat.le_of_ble_eq_true rfl) ?_
  intro p e s m args below meth c ls A Q hx hb hts hown hml hN hK hP hD hA hl hret
  replace hown : s.vm.findClass RX10 = some m.cls := hown
  have hS : va_S A s.heap s.heap [] := va_S.rf
  replace hP : va_P D gcl (zS_22 cB cC cI cJ a0 a1 a2 a3 a4 a5 a6 a7 x4 a4 f0 a5 f1 a6 f2) s.heap := hP
  replace hl : lv_has ls 5 [(0, .ref a0), (1, .int x0), (2, .int x1), (3, .int x2), (4, .int x3)] := hl
  have rx1 : zBd x1.toInt (-2147483648) 2147483647 := n_rng x1
  have rx2 : zBd x2.toInt (-2147483648) 2147483647 := n_rng x2
  refine lv_aload_n (pc := 0) hx hb dX10_setNumbers_0 rfl (lv_at hl 0 rfl) ?_
  refine va_get (pc := 1) (ci := 10) (v := .ref a4) (C := RX10) (T := TX10) (N := 8) hx hb hts iX10 hown hK hP 0 rfl rfl 3 (by decide) (hts _ tw_211) (fun _ h9 => h9) rfl dX10_setNumbers_1 ?_
  refine lv_iload_n (pc := 4) hx hb dX10_setNumbers_4 rfl (lv_at hl 1 rfl) ?_
  refine lv_iload_n (pc := 5) hx hb dX10_setNumbers_5 rfl (lv_at hl 2 rfl) ?_
  refine e_iastore (pc := 6) hx hb hK hP hD hS 1 2 rfl rfl (n_in rfl (by first | exact (om_0 hp1.1) | ((first | omega | (unfold zBd at *; omega)))) (by first | exact (om_1137 hp1.2) | ((first | omega | (unfold zBd at *; omega))))) dX10_setNumbers_6 (fun f_1 ef_1 H locs hP hD hS => ?_)
  replace hP : va_P D gcl (zS_22 cB cC cI cJ a0 a1 a2 a3 a4 a5 a6 a7 x4 a4 f_1 a5 f1 a6 f2) H := hP
  replace hD : va_D A (zS_22 cB cC cI cJ a0 a1 a2 a3 a4 a5 a6 a7 x4 a4 f_1 a5 f1 a6 f2) := hD
  refine lv_aload_n (pc := 7) hx hb dX10_setNumbers_7 rfl (lv_at hl 0 rfl) ?_
  refine va_get (pc := 8) (ci := 10) (v := .ref a5) (C := RX10) (T := TX10) (N := 8) hx hb hts iX10 hown hK hP 0 rfl rfl 4 (by decide) (hts _ tw_213) (fun _ h9 => h9) rfl dX10_setNumbers_8 ?_
  refine lv_iload_n (pc := 11) hx hb dX10_setNumbers_11 rfl (lv_at hl 1 rfl) ?_
  refine lv_iload_n (pc := 12) hx hb dX10_setNumbers_12 rfl (lv_at hl 3 rfl) ?_
  refine e_iastore (pc := 13) hx hb hK hP hD hS 2 2 rfl rfl (n_in rfl (by first | exact (om_0 hp1.1) | ((first | omega | (unfold zBd at *; omega)))) (by first | exact (om_1137 hp1.2) | ((first | omega | (unfold zBd at *; omega))))) dX10_setNumbers_13 (fun f_2 ef_2 H locs hP hD hS => ?_)
  replace hP : va_P D gcl (zS_22 cB cC cI cJ a0 a1 a2 a3 a4 a5 a6 a7 x4 a4 f_1 a5 f_2 a6 f2) H := hP
  replace hD : va_D A (zS_22 cB cC cI cJ a0 a1 a2 a3 a4 a5 a6 a7 x4 a4 f_1 a5 f_2 a6 f2) := hD
  refine lv_aload_n (pc := 14) hx hb dX10_setNumbers_14 rfl (lv_at hl 0 rfl) ?_
  refine va_get (pc := 15) (ci := 10) (v := .ref a6) (C := RX10) (T := TX10) (N := 8) hx hb hts iX10 hown hK hP 0 rfl rfl 5 (by decide) (hts _ tw_214) (fun _ h9 => h9) rfl dX10_setNumbers_15 ?_
  refine lv_iload_n (pc := 18) hx hb dX10_setNumbers_18 rfl (lv_at hl 1 rfl) ?_
  refine lv_iload (pc := 19) hx hb dX10_setNumbers_19 (lv_at hl 4 rfl) ?_
  refine e_iastore (pc := 21) hx hb hK hP hD hS 3 2 rfl rfl (n_in rfl (by first | exact (om_0 hp1.1) | ((first | omega | (unfold zBd at *; omega)))) (by first | exact (om_1137 hp1.2) | ((first | omega | (unfold zBd at *; omega))))) dX10_setNumbers_21 (fun f_3 ef_3 H locs hP hD hS => ?_)
  have hf_3 : (∀ j, (-3) ≤ (f_3 j).toInt ∧ (f_3 j).toInt ≤ 24) := (by rw [ef_3]; exact n_upd hf_f2 (by first | exact (om_1138 hp4.1) | ((first | omega | (unfold zBd at *; omega)))) (by first | exact (om_1139 hp4.2) | ((first | omega | (unfold zBd at *; omega)))))
  replace hP : va_P D gcl (zS_22 cB cC cI cJ a0 a1 a2 a3 a4 a5 a6 a7 x4 a4 f_1 a5 f_2 a6 f_3) H := hP
  replace hD : va_D A (zS_22 cB cC cI cJ a0 a1 a2 a3 a4 a5 a6 a7 x4 a4 f_1 a5 f_2 a6 f_3) := hD
  exact hret ((fun _ => 0), (fun k => [f_1, f_2, f_3].getD k (fun _ => 0)), (fun _ => (fun _ => 0)), (fun _ => 0), (fun _ => 0)) dX10_setNumbers_22 ⟨hf_3, (show f_1 = upd f0 (x0.toInt).toNat x1 from ef_1), (show f_2 = upd f1 (x0.toInt).toNat x2 from ef_2), (show f_3 = upd f2 (x0.toInt).toNat x3 from ef_3)⟩ (g_psub (wc := (zS_22 cB cC cI cJ a0 a1 a2 a3 a4 a5 a6 a7 x4 a4 f_1 a5 f_2 a6 f_3)) hP [0, 1, 2, 3] rfl) (hD.sub (ws' := (zS_22 cB cC cI cJ a0 a1 a2 a3 a4 a5 a6 a7 x4 a4 f_1 a5 f_2 a6 f_3)) [0, 1, 2, 3] (by decide) rfl) hS
theorem om_1492 {a : Int} (h0 : (1 ≤ a)) : (-2147483648 ≤ 2 * a) := by omega
theorem om_1493 {a b : Int} (h0 : (a ≥ b)) (h1 : (a ≤ b)) : (3 * a = 3 * b) := by omega
theorem om_1494 {a b c : Int} (h0 : (b ≥ c)) (h1 : (a = c - 1)) : (a ≤ b) := by omega
theorem om_1495 {a b : Int} (h0 : (a = 2 * b)) : (a = 2 * b) := by omega
theorem om_1496 {a b c : Int} (h0 : (b ≥ c)) (h1 : (a = c - 1)) : (a < b) := by omega
theorem om_1497 {a b : Int} (h0 : (a = 2 * b)) (h1 : (1 ≤ b)) (h2 : (b ≤ 8)) : (2 ≤ a ∧ a ≤ 16) := by omega
theorem om_1498 {a b c : Int} (h0 : (a ≥ c)) (h1 : (b = c - 1)) (h2 : (a ≤ c)) : (a = b + 1) := by omega
theorem om_1499 {a : Int} (h0 : (0 ≤ a)) (h1 : (a ≤ 4)) : (0 ≤ a ∧ a ≤ 4) := by omega
theorem om_1500 {a b : Int} (h0 : (0 ≤ a)) (h1 : (a < b)) (h2 : (b = 3)) : (0 ≤ a ∧ a < 3) := by omega
theorem om_1501 {a b : Int} (h0 : (a = b + 1)) : (3 * a = 3 * b + 3) := by omega
theorem om_1502 {a : Int} (h0 : (0 ≤ a)) (h1 : (a ≤ 1323135000)) : ((0 ≤ a ∧ a ≤ 1000000000000000)) := by omega
theorem om_1503 {a : Int} (h0 : (a = 1000000000000000)) : ((0 ≤ a ∧ a ≤ 1000000000000000)) := by omega
theorem om_1504 {a : Int} (h0 : (a = 0)) : (3 * a = 0) := by omega
theorem om_1505 {a b c : Int} (h0 : ((-7) ≤ a)) (h1 : (b = 2 * c)) (h2 : (c ≤ 8)) : (-2147483648 ≤ a - b) := by omega
theorem om_1506 {a b c : Int} (h0 : (a ≤ 7)) (h1 : (b = 2 * c)) (h2 : (1 ≤ c)) : (a - b ≤ 2147483647) := by omega
set_option maxHeartbeats 4000000 in
set_option maxRecDepth 100000 in
theorem k_X3_leastFor_5_e (l : Launch) (D : va_G) (cB cC cI cJ : ClassId) (sz : Nat) (a0 a1 a2 a3 a4 a5 a6 a7 a8 a9 a10 a11 a12 a13 a14 a15 a16 a17 a18 a19 : Nat) (x0 x1 x2 x3 x4 x5 x6 x7 x8 : Int32) (y0 y1 y2 y3 : Int64) (f0 f1 f2 f3 f4 f5 f6 : Nat → Int32) (g0 g1 g2 : Nat → Int64) (h_x0 : zBd x0.toInt 0 1) (h_x1 : zBd x1.toInt 0 4) (hf_f3 : (∀ j, (-3) ≤ (f3 j).toInt ∧ (f3 j).toInt ≤ 24)) (hf_f4 : (∀ j, 0 ≤ (f4 j).toInt ∧ (f4 j).toInt ≤ 23)) (h_x2 : zBd x2.toInt (-1) 8) (h_x3 : zBd x3.toInt (-1) 5) (h_x4 : zBd x4.toInt (-1) 6) (h_x5 : zBd x5.toInt 0 6) (h_x6 : zBd x6.toInt 0 16) (hg_tb : TB f5 99) (hg_pr : prW g0 f5 x1.toInt) (hg_z0 : z0W g1 g2 x1.toInt) (hg_la : x1.toInt = x3.toInt - 1 ∧ 1 ≤ x3.toInt) (hg_lt : 1 ≤ x2.toInt ∧ x2.toInt ≤ 8) (hg_rb : ∀ s : Int, 0 ≤ s → s < x3.toInt → -7 ≤ (f6 s.toNat).toInt ∧ (f6 s.toNat).toInt ≤ 7) (hg_en : y0.toInt = -1) : Met l yX3_leastFor (.code yX3_leastFor cX3_leastFor 13 (some .long) :: lw_gd) ({ frames := 2, cells := 0, slots := 0, locals := 52 }) (gPre D [(cB, .byte), (cC, .char), (cI, .int), (cJ, .long)] [.ref a0, .ref a1, .ref a2, .long y0] (zS_66 cB cC cI cJ a0 a3 a4 a5 a6 a7 a8 y1 x0 y2 y3 a5 f0 a3 a9 a10 a11 a12 a13 a14 a15 x1 a9 g0 a10 g1 a11 g2 a12 f1 a13 f2 a14 f3 a15 f4 a1 a16 a17 a18 x2 x3 x4 x5 x6 x7 x8 a16 a19 a19 f5 a2 f6) sz) (va_Ql (fun r u => (0 ≤ r.toInt ∧ r.toInt ≤ 1000000000000000) ∧ (∀ j, (-3) ≤ ((u.2.1 3) j).toInt ∧ ((u.2.1 3) j).toInt ≤ 24) ∧ (∀ j, 0 ≤ ((u.2.1 4) j).toInt ∧ ((u.2.1 4) j).toInt ≤ 23) ∧ (bfW (rowF f5 f6 (2 * x2.toInt) (x3.toInt).toNat) (u.2.1 0) (x3.toInt).toNat (3 * nmK (fun _ => 3) (x1.toInt).toNat) r.toInt) ∧ (0 ≤ r.toInt)) (gB D (va_A (zS_66 cB cC cI cJ a0 a3 a4 a5 a6 a7 a8 y1 x0 y2 y3 a5 f0 a3 a9 a10 a11 a12 a13 a14 a15 x1 a9 g0 a10 g1 a11 g2 a12 f1 a13 f2 a14 f3 a15 f4 a1 a16 a17 a18 x2 x3 x4 x5 x6 x7 x8 a16 a19 a19 f5 a2 f6) sz) (fun u : gEx => (zS_66 cB cC cI cJ a0 a3 a4 a5 a6 a7 a8 y1 x0 y2 y3 a5 (u.2.1 0) a3 a9 a10 a11 a12 a13 a14 a15 x1 a9 g0 a10 (u.2.2.1 0) a11 (u.2.2.1 1) a12 (u.2.1 1) a13 (u.2.1 2) a14 (u.2.1 3) a15 (u.2.1 4) a1 a16 a17 a18 x2 x3 x4 x5 x6 x7 x8 a16 a19 a19 f5 a2 f6))) (va_A (zS_66 cB cC cI cJ a0 a3 a4 a5 a6 a7 a8 y1 x0 y2 y3 a5 f0 a3 a9 a10 a11 a12 a13 a14 a15 x1 a9 g0 a10 g1 a11 g2 a12 f1 a13 f2 a14 f3 a15 f4 a1 a16 a17 a18 x2 x3 x4 x5 x6 x7 x8 a16 a19 a19 f5 a2 f6) sz)) 0 0 (va_A (zS_66 cB cC cI cJ a0 a3 a4 a5 a6 a7 a8 y1 x0 y2 y3 a5 f0 a3 a9 a10 a11 a12 a13 a14 a15 x1 a9 g0 a10 g1 a11 g2 a12 f1 a13 f2 a14 f3 a15 f4 a1 a16 a17 a18 x2 x3 x4 x5 x6 x7 x8 a16 a19 a19 f5 a2 f6) sz) := by
  refine gOf_l (by decide +kernel) (Nat.le_of_ble_eq_true rfl) ?_
  intro p e s m args below meth c ls A Q hx hb hts hown hml hN hK hP hD hA hl hret
  replace hown : s.vm.findClass RX3 = some m.cls := hown
  have hS : va_S A s.heap s.heap [] := va_S.rf
  replace hP : va_P D gcl (zS_66 cB cC cI cJ a0 a3 a4 a5 a6 a7 a8 y1 x0 y2 y3 a5 f0 a3 a9 a10 a11 a12 a13 a14 a15 x1 a9 g0 a10 g1 a11 g2 a12 f1 a13 f2 a14 f3 a15 f4 a1 a16 a17 a18 x2 x3 x4 x5 x6 x7 x8 a16 a19 a19 f5 a2 f6) s.heap := hP
  replace hl : lv_has ls 13 [(0, .ref a0), (1, .ref a1), (2, .ref a2), (3, .long y0)] := hl
  have ry0 := n_rngL y0
  have ry1 := n_rngL y1
  have ry2 := n_rngL y2
  have ry3 := n_rngL y3
  have rx7 : zBd x7.toInt (-2147483648) 2147483647 := n_rng x7
  have rx8 : zBd x8.toInt (-2147483648) 2147483647 := n_rng x8
  refine lv_iconst (pc := 0) (v := 2) hx hb dX3_leastFor_0 (by decide) ?_
  refine lv_aload_n (pc := 1) hx hb dX3_leastFor_1 rfl (lv_at hl 1 rfl) ?_
  refine va_getN (pc := 2) (ci := 1) (v := .int x2) (C := RX1) (T := TX1) (N := 10) hx hb hts iX1 hown hK hP 10 rfl rfl 3 (by decide) (va_Nw.use rfl (hN _ tn_113)) (fun _ h9 => h9) rfl dX3_leastFor_2 ?_
  refine b_imul (pc := 5) hx hb tI_2 rfl (by first | exact (om_1492 hg_lt.1) | ((first | omega | (unfold zBd at *; omega)))) (by first | exact (om_1280 hg_lt.2) | ((first | omega | (unfold zBd at *; omega)))) dX3_leastFor_5 (fun x_1 ex_1 => ?_)
  refine lv_istore (pc := 6) (lv' := [(5, .int x_1), (0, .ref a0), (1, .ref a1), (2, .ref a2), (3, .long y0)]) hx hb dX3_leastFor_6 hl (by decide) rfl (fun ls hl => ?_)
  refine lv_iconst (pc := 8) (v := 0) hx hb dX3_leastFor_8 (by decide) ?_
  refine lv_istore (pc := 9) (lv' := [(6, .int 0), (5, .int x_1), (0, .ref a0), (1, .ref a1), (2, .ref a2), (3, .long y0)]) hx hb dX3_leastFor_9 hl (by decide) rfl (fun ls hl => ?_)
  have lp_10 : ∀ (n : Nat) (x_2 : Int32) (f_4 f_5 f_6 : Nat → Int32) (H : Heap) (locs : List Loc) (ls : Array Slot), (0 ≤ x_2.toInt ∧ x_2.toInt ≤ 5) → (∀ j, (-3) ≤ (f_6 j).toInt ∧ (f_6 j).toInt ≤ 24) → (x_2.toInt ≤ x3.toInt) → (snW f_4 f_5 f_6 f6 x_1.toInt x_2.toInt) → (2147483647 - x_2.toInt).toNat < n → va_P D gcl (zS_66 cB cC cI cJ a0 a3 a4 a5 a6 a7 a8 y1 x0 y2 y3 a5 f0 a3 a9 a10 a11 a12 a13 a14 a15 x1 a9 g0 a10 g1 a11 g2 a12 f_4 a13 f_5 a14 f_6 a15 f4 a1 a16 a17 a18 x2 x3 x4 x5 x6 x7 x8 a16 a19 a19 f5 a2 f6) H → va_D A (zS_66 cB cC cI cJ a0 a3 a4 a5 a6 a7 a8 y1 x0 y2 y3 a5 f0 a3 a9 a10 a11 a12 a13 a14 a15 x1 a9 g0 a10 g1 a11 g2 a12 f_4 a13 f_5 a14 f_6 a15 f4 a1 a16 a17 a18 x2 x3 x4 x5 x6 x7 x8 a16 a19 a19 f5 a2 f6) → va_S A s.heap H locs → lv_has ls 13 [(6, .int x_2), (5, .int x_1), (0, .ref a0), (1, .ref a1), (2, .ref a2), (3, .long y0)] → W p l e ({ frames := 2, cells := 0, slots := 0, locals := 52 }) s m args below meth c H locs 0 0 Q (F0 m 11 ls []) := by
    intro n
    induction n with
    | zero => intro x_2 f_4 f_5 f_6 H locs ls hi_3 hi_7 hi_8 hi_9 hmu; exact absurd hmu (Nat.not_lt_zero _)
    | succ n ih_lp_10 =>
      intro x_2 f_4 f_5 f_6 H locs ls hi_3 hi_7 hi_8 hi_9 hmu_lp_10 hP hD hS hl
      refine lv_iload (pc := 11) hx hb dX3_leastFor_11 (lv_at hl 0 rfl) ?_
      refine lv_aload_n (pc := 13) hx hb dX3_leastFor_13 rfl (lv_at hl 3 rfl) ?_
      refine va_getN (pc := 14) (ci := 1) (v := .int x3) (C := RX1) (T := TX1) (N := 10) hx hb hts iX1 hown hK hP 10 rfl rfl 4 (by decide) (va_Nw.use rfl (hN _ tn_122)) (fun _ h9 => h9) rfl dX3_leastFor_14 ?_
      refine b_icmp_ge (pc := 17) (tgt := 45) hx hb rfl rfl  dX3_leastFor_17 (by decide) (fun c_11 => ?_) (fun c_11 => ?_)
      ·
        as_aux_lemma =>
          refine lv_aload_n (pc := 45) hx hb dX3_leastFor_45 rfl (lv_at hl 2 rfl) ?_
          refine va_get (pc := 46) (ci := 3) (v := .ref a3) (C := RX3) (T := TX3) (N := 10) hx hb hts iX3 hown hK hP 0 rfl rfl 0 (by decide) (hts _ tw_348) (fun _ h9 => h9) rfl dX3_leastFor_46 ?_
          refine gd_v (pc := 49) (wc := (zS_31 cB cC cI cJ a3 a9 a10 a11 a12 a13 a14 a15 x1 a9 g0 a10 g1 a11 g2 a12 f_4 a13 f_5 a15 f4)) hP hD hS hA [2, 3, 4, 5, 6, 7, 9] rfl (by decide +kernel) (fun _ => by rfl) (fun hPc hDc => va_runV (As := []) (rest := []) ⟨hx, hb, hml, hown, hts⟩ (k_X10_firstLine_e l D cB cC cI cJ _ a3 a9 a10 a11 a12 a13 a14 a15 x1 f_4 f_5 f4 g0 g1 g2 h_x1 hf_f4) ⟨gcwB hts tw_904 tw_8 tw_1270 hd_yX10_firstLine ⟨Nat.le_of_ble_eq_true rfl, Nat.le_of_ble_eq_true rfl⟩, hts _ tw_902, hts _ tw_903⟩ ⟨gblind, va_recv hK hPc (ci := 10) (q0 := 0) rfl rfl, (gpreS hPc hK hDc hN).2⟩ rfl rfl hl.1 rfl (lv_room (Nat.le_of_ble_eq_true rfl)) dX3_leastFor_49 ⟨Nat.le_of_ble_eq_true rfl, Nat.le_of_ble_eq_true rfl⟩) (fun u_12 H locs hw_14 hP hD hS => ?_)
          replace hP : va_P D gcl (zS_66 cB cC cI cJ a0 a3 a4 a5 a6 a7 a8 y1 x0 y2 y3 a5 f0 a3 a9 a10 a11 a12 a13 a14 a15 x1 a9 g0 a10 (u_12.2.2.1 0) a11 (u_12.2.2.1 1) a12 f_4 a13 f_5 a14 f_6 a15 (u_12.2.1 0) a1 a16 a17 a18 x2 x3 x4 x5 x6 x7 x8 a16 a19 a19 f5 a2 f6) H := hP
          replace hD : va_D A (zS_66 cB cC cI cJ a0 a3 a4 a5 a6 a7 a8 y1 x0 y2 y3 a5 f0 a3 a9 a10 a11 a12 a13 a14 a15 x1 a9 g0 a10 (u_12.2.2.1 0) a11 (u_12.2.2.1 1) a12 f_4 a13 f_5 a14 f_6 a15 (u_12.2.1 0) a1 a16 a17 a18 x2 x3 x4 x5 x6 x7 x8 a16 a19 a19 f5 a2 f6) := hD
          obtain ⟨hw_15, hw_16, hw_17⟩ := hw_14
          replace hw_15 : (∀ j, 0 ≤ ((u_12.2.1 0) j).toInt ∧ ((u_12.2.1 0) j).toInt ≤ 23) := hw_15
          replace hw_16 : (∀ s : Int, 0 ≤ s → s < 5 → ((u_12.2.1 0) s.toNat).toInt = 0) := hw_16
          replace hw_17 : (∀ T : Nat → Int32, prW g0 T x1.toInt → z0W g1 g2 x1.toInt → seW T (xW f_4 f_5 (u_12.2.1 0)) (u_12.2.2.1 0) (u_12.2.2.1 1) x1.toInt x1.toInt) := hw_17
          refine lv_ldc2 (pc := 52) hx hb hown (hts _ tw_1271) dX3_leastFor_52 ?_
          refine lv_lstore (pc := 55) (lv' := [(6, .long 1000000000000000), (5, .int x_1), (0, .ref a0), (1, .ref a1), (2, .ref a2), (3, .long y0)]) hx hb dX3_leastFor_55 hl (by decide) rfl (fun ls hl => ?_)
          refine lv_aload_n (pc := 57) hx hb dX3_leastFor_57 rfl (lv_at hl 2 rfl) ?_
          refine va_get (pc := 58) (ci := 3) (v := .ref a3) (C := RX3) (T := TX3) (N := 10) hx hb hts iX3 hown hK hP 0 rfl rfl 0 (by decide) (hts _ tw_348) (fun _ h9 => h9) rfl dX3_leastFor_58 ?_
          refine gd_i (pc := 61) (wc := (zS_52 cB cC cI cJ a3 a9 a10 a11 a12 a13 a14 a15 x1 a14 f_6)) hP hD hS hA [2, 8] rfl (by decide +kernel) (fun _ => by rfl) (fun hPc hDc => va_runV (As := []) (rest := []) ⟨hx, hb, hml, hown, hts⟩ (k_X10_lineCount_e l D cB cC cI cJ _ a3 a9 a10 a11 a12 a13 a14 a15 x1 f_6 h_x1 hi_7 (sn_cn hi_9 (by (first | omega | (unfold zBd at *; omega))))) ⟨gcwB hts tw_914 tw_8 tw_1272 hd_yX10_lineCount ⟨Nat.le_of_ble_eq_true rfl, Nat.le_of_ble_eq_true rfl⟩, hts _ tw_912, hts _ tw_913⟩ ⟨gblind, va_recv hK hPc (ci := 10) (q0 := 0) rfl rfl, (gpreS hPc hK hDc hN).2⟩ rfl rfl hl.1 rfl (lv_room (Nat.le_of_ble_eq_true rfl)) dX3_leastFor_61 ⟨Nat.le_of_ble_eq_true rfl, Nat.le_of_ble_eq_true rfl⟩) (fun r_19 u_18 H locs hw_20 hP hD hS => ?_)
          replace hP : va_P D gcl (zS_66 cB cC cI cJ a0 a3 a4 a5 a6 a7 a8 y1 x0 y2 y3 a5 f0 a3 a9 a10 a11 a12 a13 a14 a15 x1 a9 g0 a10 (u_12.2.2.1 0) a11 (u_12.2.2.1 1) a12 f_4 a13 f_5 a14 f_6 a15 (u_12.2.1 0) a1 a16 a17 a18 x2 x3 x4 x5 x6 x7 x8 a16 a19 a19 f5 a2 f6) H := hP
          replace hD : va_D A (zS_66 cB cC cI cJ a0 a3 a4 a5 a6 a7 a8 y1 x0 y2 y3 a5 f0 a3 a9 a10 a11 a12 a13 a14 a15 x1 a9 g0 a10 (u_12.2.2.1 0) a11 (u_12.2.2.1 1) a12 f_4 a13 f_5 a14 f_6 a15 (u_12.2.1 0) a1 a16 a17 a18 x2 x3 x4 x5 x6 x7 x8 a16 a19 a19 f5 a2 f6) := hD
          obtain ⟨hw_21, hw_22, hw_23⟩ := hw_20
          replace hw_21 : (1 ≤ r_19.toInt ∧ r_19.toInt ≤ 331776) := hw_21
          replace hw_22 : (r_19.toInt = nmK (cW f_6) (x1.toInt).toNat) := hw_22
          replace hw_23 : (1 ≤ r_19.toInt ∧ r_19.toInt ≤ 331776) := hw_23
          have rr_19 : zBd r_19.toInt (-2147483648) 2147483647 := n_rng r_19
          refine lv_istore (pc := 64) (lv' := [(8, .int r_19), (6, .long 1000000000000000), (5, .int x_1), (0, .ref a0), (1, .ref a1), (2, .ref a2), (3, .long y0)]) hx hb dX3_leastFor_64 hl (by decide) rfl (fun ls hl => ?_)
          refine lv_iconst (pc := 66) (v := 0) hx hb dX3_leastFor_66 (by decide) ?_
          as_aux_lemma =>
            refine lv_istore (pc := 67) (lv' := [(9, .int 0), (8, .int r_19), (6, .long 1000000000000000), (5, .int x_1), (0, .ref a0), (1, .ref a1), (2, .ref a2), (3, .long y0)]) hx hb dX3_leastFor_67 hl (by decide) rfl (fun ls hl => ?_)
            have lp_36 : ∀ (n : Nat) (x_24 : Int32) (y_26 : Int64) (f_28 f_31 : Nat → Int32) (g_29 g_30 : Nat → Int64) (H : Heap) (locs : List Loc) (ls : Array Slot), (0 ≤ x_24.toInt ∧ x_24.toInt ≤ 2147483647) → (0 ≤ y_26.toInt ∧ y_26.toInt ≤ 1000000000000000) → (∀ j, 0 ≤ (f_31 j).toInt ∧ (f_31 j).toInt ≤ 23) → (x_24.toInt ≤ r_19.toInt) → (x_24.toInt < r_19.toInt → cuW f5 f6 f_4 f_5 f_6 f_31 g_29 g_30 x1.toInt x_24.toInt) → (bfW (rowF f5 f6 x_1.toInt (x3.toInt).toNat) f_28 (x3.toInt).toNat (3 * x_24.toInt) y_26.toInt) → (2147483647 - x_24.toInt).toNat < n → va_P D gcl (zS_66 cB cC cI cJ a0 a3 a4 a5 a6 a7 a8 y1 x0 y2 y3 a5 f_28 a3 a9 a10 a11 a12 a13 a14 a15 x1 a9 g0 a10 g_29 a11 g_30 a12 f_4 a13 f_5 a14 f_6 a15 f_31 a1 a16 a17 a18 x2 x3 x4 x5 x6 x7 x8 a16 a19 a19 f5 a2 f6) H → va_D A (zS_66 cB cC cI cJ a0 a3 a4 a5 a6 a7 a8 y1 x0 y2 y3 a5 f_28 a3 a9 a10 a11 a12 a13 a14 a15 x1 a9 g0 a10 g_29 a11 g_30 a12 f_4 a13 f_5 a14 f_6 a15 f_31 a1 a16 a17 a18 x2 x3 x4 x5 x6 x7 x8 a16 a19 a19 f5 a2 f6) → va_S A s.heap H locs → lv_has ls 13 [(9, .int x_24), (8, .int r_19), (6, .long y_26), (5, .int x_1), (0, .ref a0), (1, .ref a1), (2, .ref a2), (3, .long y0)] → W p l e ({ frames := 2, cells := 0, slots := 0, locals := 52 }) s m args below meth c H locs 0 0 Q (F0 m 69 ls []) := by
              intro n
              induction n with
              | zero => intro x_24 y_26 f_28 f_31 g_29 g_30 H locs ls hi_25 hi_27 hi_32 hi_33 hi_34 hi_35 hmu; exact absurd hmu (Nat.not_lt_zero _)
              | succ n ih_lp_36 =>
                intro x_24 y_26 f_28 f_31 g_29 g_30 H locs ls hi_25 hi_27 hi_32 hi_33 hi_34 hi_35 hmu_lp_36 hP hD hS hl
                refine lv_iload (pc := 69) hx hb dX3_leastFor_69 (lv_at hl 0 rfl) ?_
                refine lv_iload (pc := 71) hx hb dX3_leastFor_71 (lv_at hl 1 rfl) ?_
                refine b_icmp_ge (pc := 73) (tgt := 135) hx hb rfl rfl  dX3_leastFor_73 (by decide) (fun c_37 => ?_) (fun c_37 => ?_)
                ·
                  as_aux_lemma =>
                    refine lv_lload (pc := 135) hx hb dX3_leastFor_135 (lv_at hl 2 rfl) ?_
                    exact hret y_26 ((fun _ => 0), (fun k => [f_28, f_4, f_5, f_6, f_31].getD k (fun _ => 0)), (fun k => [g_29, g_30].getD k (fun _ => 0)), (fun _ => 0), (fun _ => 0)) dX3_leastFor_137 ⟨(show (0 ≤ y_26.toInt ∧ y_26.toInt ≤ 1000000000000000) from hi_27), hi_7, hi_32, (show bfW (rowF f5 f6 (2 * x2.toInt) (x3.toInt).toNat) f_28 (x3.toInt).toNat (3 * nmK (fun _ => 3) (x1.toInt).toNat) y_26.toInt from bf_end hi_35 (by first | exact (om_1493 c_37 hi_33) | ((first | omega | (unfold zBd at *; omega)))) (lf_nm hi_9 hw_22 (by first | exact (om_1494 c_11 hg_la.1) | ((first | omega | (unfold zBd at *; omega)))) (by first | exact (om_0 h_x1.1) | ((first | omega | (unfold zBd at *; omega))))) (by first | exact (om_1495 ex_1) | ((first | omega | (unfold zBd at *; omega))))), (show 0 ≤ y_26.toInt from (by first | exact (om_0 hi_27.1) | ((first | omega | (unfold zBd at *; omega)))))⟩ (g_psub (wc := (zS_66 cB cC cI cJ a0 a3 a4 a5 a6 a7 a8 y1 x0 y2 y3 a5 f_28 a3 a9 a10 a11 a12 a13 a14 a15 x1 a9 g0 a10 g_29 a11 g_30 a12 f_4 a13 f_5 a14 f_6 a15 f_31 a1 a16 a17 a18 x2 x3 x4 x5 x6 x7 x8 a16 a19 a19 f5 a2 f6)) hP [0, 1, 2, 3, 4, 5, 6, 7, 8, 9, 10, 11, 12, 13] rfl) (hD.sub (ws' := (zS_66 cB cC cI cJ a0 a3 a4 a5 a6 a7 a8 y1 x0 y2 y3 a5 f_28 a3 a9 a10 a11 a12 a13 a14 a15 x1 a9 g0 a10 g_29 a11 g_30 a12 f_4 a13 f_5 a14 f_6 a15 f_31 a1 a16 a17 a18 x2 x3 x4 x5 x6 x7 x8 a16 a19 a19 f5 a2 f6)) [0, 1, 2, 3, 4, 5, 6, 7, 8, 9, 10, 11, 12, 13] (by decide) rfl) hS
                ·
                  as_aux_lemma =>
                    refine lv_lload (pc := 76) hx hb dX3_leastFor_76 (lv_at hl 2 rfl) ?_
                    refine lv_lload_n (pc := 78) hx hb dX3_leastFor_78 rfl (lv_at hl 7 rfl) ?_
                    refine b_lcmp_le (pc := 79) (tgt := 135) hx hb rfl rfl dX3_leastFor_79 dX3_leastFor_80 (by decide) (fun c_38 => ?_) (fun c_38 => ?_)
                    ·
                      as_aux_lemma =>
                        refine lv_lload (pc := 135) hx hb dX3_leastFor_135 (lv_at hl 2 rfl) ?_
                        exact hret y_26 ((fun _ => 0), (fun k => [f_28, f_4, f_5, f_6, f_31].getD k (fun _ => 0)), (fun k => [g_29, g_30].getD k (fun _ => 0)), (fun _ => 0), (fun _ => 0)) dX3_leastFor_137 ⟨(show (0 ≤ y_26.toInt ∧ y_26.toInt ≤ 1000000000000000) from hi_27), hi_7, hi_32, (show bfW (rowF f5 f6 (2 * x2.toInt) (x3.toInt).toNat) f_28 (x3.toInt).toNat (3 * nmK (fun _ => 3) (x1.toInt).toNat) y_26.toInt from bf_end hi_35 (by (first | omega | (unfold zBd at *; omega))) (lf_nm hi_9 hw_22 (by first | exact (om_1494 c_11 hg_la.1) | ((first | omega | (unfold zBd at *; omega)))) (by first | exact (om_0 h_x1.1) | ((first | omega | (unfold zBd at *; omega))))) (by first | exact (om_1495 ex_1) | ((first | omega | (unfold zBd at *; omega))))), (show 0 ≤ y_26.toInt from (by first | exact (om_0 hi_27.1) | ((first | omega | (unfold zBd at *; omega)))))⟩ (g_psub (wc := (zS_66 cB cC cI cJ a0 a3 a4 a5 a6 a7 a8 y1 x0 y2 y3 a5 f_28 a3 a9 a10 a11 a12 a13 a14 a15 x1 a9 g0 a10 g_29 a11 g_30 a12 f_4 a13 f_5 a14 f_6 a15 f_31 a1 a16 a17 a18 x2 x3 x4 x5 x6 x7 x8 a16 a19 a19 f5 a2 f6)) hP [0, 1, 2, 3, 4, 5, 6, 7, 8, 9, 10, 11, 12, 13] rfl) (hD.sub (ws' := (zS_66 cB cC cI cJ a0 a3 a4 a5 a6 a7 a8 y1 x0 y2 y3 a5 f_28 a3 a9 a10 a11 a12 a13 a14 a15 x1 a9 g0 a10 g_29 a11 g_30 a12 f_4 a13 f_5 a14 f_6 a15 f_31 a1 a16 a17 a18 x2 x3 x4 x5 x6 x7 x8 a16 a19 a19 f5 a2 f6)) [0, 1, 2, 3, 4, 5, 6, 7, 8, 9, 10, 11, 12, 13] (by decide) rfl) hS
                    ·
                      as_aux_lemma =>
                        refine lv_aload_n (pc := 83) hx hb dX3_leastFor_83 rfl (lv_at hl 4 rfl) ?_
                        refine va_get (pc := 84) (ci := 3) (v := .ref a3) (C := RX3) (T := TX3) (N := 10) hx hb hts iX3 hown hK hP 0 rfl rfl 0 (by decide) (hts _ tw_348) (fun _ h9 => h9) rfl dX3_leastFor_84 ?_
                        refine lv_iconst (pc := 87) (v := 3) hx hb dX3_leastFor_87 (by decide) ?_
                        refine gd_i (pc := 88) (wc := (zS_31 cB cC cI cJ a3 a9 a10 a11 a12 a13 a14 a15 x1 a9 g0 a10 g_29 a11 g_30 a12 f_4 a13 f_5 a15 f_31)) hP hD hS hA [2, 3, 4, 5, 6, 7, 9] rfl (by decide +kernel) (fun _ => by rfl) (fun hPc hDc => va_runV (As := [.int 3]) (rest := []) ⟨hx, hb, hml, hown, hts⟩ (k_X10_bestDigit_e l D cB cC cI cJ _ a3 a9 a10 a11 a12 a13 a14 a15 3 x1 f_4 f_5 f_31 g0 g_29 g_30 (n_c tI_3 (by decide)) h_x1 hi_32 (sn_g hi_9 (by first | exact (om_1496 c_11 hg_la.1) | ((first | omega | (unfold zBd at *; omega)))) (by first | exact (om_0 h_x1.1) | ((first | omega | (unfold zBd at *; omega)))) (by first | exact (om_1497 ex_1 hg_lt.1 hg_lt.2) | ((first | omega | (unfold zBd at *; omega))))) (sn_l hi_9 (by first | exact (om_1496 c_11 hg_la.1) | ((first | omega | (unfold zBd at *; omega)))) (by first | exact (om_0 h_x1.1) | ((first | omega | (unfold zBd at *; omega)))) (by first | exact (om_1497 ex_1 hg_lt.1 hg_lt.2) | ((first | omega | (unfold zBd at *; omega)))) (fun s a b => hg_rb s a (by (first | omega | (unfold zBd at *; omega)))) tI_3)) ⟨gcwB hts tw_1151 tw_8 tw_1273 hd_yX10_bestDigit ⟨Nat.le_of_ble_eq_true rfl, Nat.le_of_ble_eq_true rfl⟩, hts _ tw_1149, hts _ tw_1150⟩ ⟨gblind, va_recv hK hPc (ci := 10) (q0 := 0) rfl rfl, (gpreS hPc hK hDc hN).2⟩ rfl rfl hl.1 rfl (lv_room (Nat.le_of_ble_eq_true rfl)) dX3_leastFor_88 ⟨Nat.le_of_ble_eq_true rfl, Nat.le_of_ble_eq_true rfl⟩) (fun r_40 u_39 H locs hw_41 hP hD hS => ?_)
                        replace hP : va_P D gcl (zS_66 cB cC cI cJ a0 a3 a4 a5 a6 a7 a8 y1 x0 y2 y3 a5 f_28 a3 a9 a10 a11 a12 a13 a14 a15 x1 a9 g0 a10 g_29 a11 g_30 a12 f_4 a13 f_5 a14 f_6 a15 f_31 a1 a16 a17 a18 x2 x3 x4 x5 x6 x7 x8 a16 a19 a19 f5 a2 f6) H := hP
                        replace hD : va_D A (zS_66 cB cC cI cJ a0 a3 a4 a5 a6 a7 a8 y1 x0 y2 y3 a5 f_28 a3 a9 a10 a11 a12 a13 a14 a15 x1 a9 g0 a10 g_29 a11 g_30 a12 f_4 a13 f_5 a14 f_6 a15 f_31 a1 a16 a17 a18 x2 x3 x4 x5 x6 x7 x8 a16 a19 a19 f5 a2 f6) := hD
                        obtain ⟨hw_42, hw_43, hw_44⟩ := hw_41
                        replace hw_42 : (0 ≤ r_40.toInt ∧ r_40.toInt ≤ 24) := hw_42
                        replace hw_43 : (∀ T : Nat → Int32, prW g0 T x1.toInt → seW T (xW f_4 f_5 f_31) g_29 g_30 x1.toInt x1.toInt → TB T 99 → xbW (xW f_4 f_5 f_31) x1.toInt → fmQ (fun k => qdK (bsK T (xW f_4 f_5 f_31) (x1.toInt).toNat 6) (dtn T x1.toInt x1.toInt 6) (crK T (xW f_4 f_5 f_31) (x1.toInt).toNat x1.toInt 6) ((f_4 (x1.toInt).toNat).toInt + (f_5 (x1.toInt).toNat).toInt * k)) (3 : Int32).toInt r_40.toInt) := hw_43
                        replace hw_44 : (0 ≤ r_40.toInt ∧ r_40.toInt < (3 : Int32).toInt) := hw_44
                        have kk0_r_40 := tI_3
                        have rr_40 : zBd r_40.toInt (-2147483648) 2147483647 := n_rng r_40
                        refine lv_istore (pc := 91) (lv' := [(10, .int r_40), (9, .int x_24), (8, .int r_19), (6, .long y_26), (5, .int x_1), (0, .ref a0), (1, .ref a1), (2, .ref a2), (3, .long y0)]) hx hb dX3_leastFor_91 hl (by decide) rfl (fun ls hl => ?_)
                        refine lv_aload_n (pc := 93) hx hb dX3_leastFor_93 rfl (lv_at hl 5 rfl) ?_
                        refine va_get (pc := 94) (ci := 3) (v := .ref a3) (C := RX3) (T := TX3) (N := 10) hx hb hts iX3 hown hK hP 0 rfl rfl 0 (by decide) (hts _ tw_348) (fun _ h9 => h9) rfl dX3_leastFor_94 ?_
                        refine lv_iload (pc := 97) hx hb dX3_leastFor_97 (lv_at hl 0 rfl) ?_
                        refine gd_l (pc := 99) (wc := (zS_31 cB cC cI cJ a3 a9 a10 a11 a12 a13 a14 a15 x1 a9 g0 a10 g_29 a11 g_30 a12 f_4 a13 f_5 a15 f_31)) hP hD hS hA [2, 3, 4, 5, 6, 7, 9] rfl (by decide +kernel) (fun _ => by rfl) (fun hPc hDc => va_runV (As := [.int r_40]) (rest := []) ⟨hx, hb, hml, hown, hts⟩ (k_X10_squaresAt_e l D cB cC cI cJ _ a3 a9 a10 a11 a12 a13 a14 a15 r_40 x1 f_4 f_5 f_31 g0 g_29 g_30 h_x1 hi_32) ⟨gcwB hts tw_922 tw_8 tw_1274 hd_yX10_squaresAt ⟨Nat.le_of_ble_eq_true rfl, Nat.le_of_ble_eq_true rfl⟩, hts _ tw_920, hts _ tw_921⟩ ⟨gblind, va_recv hK hPc (ci := 10) (q0 := 0) rfl rfl, (gpreS hPc hK hDc hN).2⟩ rfl rfl hl.1 rfl (lv_room (Nat.le_of_ble_eq_true rfl)) dX3_leastFor_99 ⟨Nat.le_of_ble_eq_true rfl, Nat.le_of_ble_eq_true rfl⟩) (fun r_46 u_45 H locs hw_47 hP hD hS => ?_)
                        replace hP : va_P D gcl (zS_66 cB cC cI cJ a0 a3 a4 a5 a6 a7 a8 y1 x0 y2 y3 a5 f_28 a3 a9 a10 a11 a12 a13 a14 a15 x1 a9 g0 a10 g_29 a11 g_30 a12 f_4 a13 f_5 a14 f_6 a15 f_31 a1 a16 a17 a18 x2 x3 x4 x5 x6 x7 x8 a16 a19 a19 f5 a2 f6) H := hP
                        replace hD : va_D A (zS_66 cB cC cI cJ a0 a3 a4 a5 a6 a7 a8 y1 x0 y2 y3 a5 f_28 a3 a9 a10 a11 a12 a13 a14 a15 x1 a9 g0 a10 g_29 a11 g_30 a12 f_4 a13 f_5 a14 f_6 a15 f_31 a1 a16 a17 a18 x2 x3 x4 x5 x6 x7 x8 a16 a19 a19 f5 a2 f6) := hD
                        have hw_48 : (∀ T : Nat → Int32, prW g0 T x1.toInt → seW T (xW f_4 f_5 f_31) g_29 g_30 x1.toInt x1.toInt → r_46 = I6 (qdK (bsK T (xW f_4 f_5 f_31) (x1.toInt).toNat 6) (dtn T x1.toInt x1.toInt 6) (crK T (xW f_4 f_5 f_31) (x1.toInt).toNat x1.toInt 6) (f_4 (x1.toInt).toNat + f_5 (x1.toInt).toNat * r_40).toInt)) := hw_47
                        have rr_46 := n_rngL r_46
                        have hh_49 : r_46.toInt = rowF f5 f6 x_1.toInt (x3.toInt).toNat (3 * x_24.toInt + r_40.toInt) := lf_q hw_48 hg_pr (hi_34 (by first | exact (om_1030 c_37) | ((first | omega | (unfold zBd at *; omega))))) hi_9 hg_tb (fun s a b => hg_rb s a (by (first | omega | (unfold zBd at *; omega)))) (by first | exact (om_1498 c_11 hg_la.1 hi_8) | ((first | omega | (unfold zBd at *; omega)))) (by first | exact (om_1499 h_x1.1 h_x1.2) | ((first | omega | (unfold zBd at *; omega)))) (by first | exact (om_1497 ex_1 hg_lt.1 hg_lt.2) | ((first | omega | (unfold zBd at *; omega)))) (by first | exact (om_1500 hw_44.1 hw_44.2 tI_3) | ((first | omega | (unfold zBd at *; omega)))) (by (first | omega | (unfold zBd at *; omega))) (by (first | omega | (unfold zBd at *; omega)))
                        have hh_50 : 0 ≤ r_46.toInt ∧ r_46.toInt ≤ 1323135000 := (by rw [hh_49]; exact rowF_bd hg_tb (by (first | omega | (unfold zBd at *; omega))) (fun s a b => hg_rb s a (by (first | omega | (unfold zBd at *; omega)))) (by (first | omega | (unfold zBd at *; omega))))
                        refine lv_lstore (pc := 102) (lv' := [(11, .long r_46), (10, .int r_40), (9, .int x_24), (8, .int r_19), (6, .long y_26), (5, .int x_1), (0, .ref a0), (1, .ref a1), (2, .ref a2), (3, .long y0)]) hx hb dX3_leastFor_102 hl (by decide) rfl (fun ls hl => ?_)
                        as_aux_lemma =>
                          refine lv_lload (pc := 104) hx hb dX3_leastFor_104 (lv_at hl 0 rfl) ?_
                          refine lv_lload (pc := 106) hx hb dX3_leastFor_106 (lv_at hl 4 rfl) ?_
                          refine b_lcmp_ge (pc := 108) (tgt := 122) hx hb rfl rfl dX3_leastFor_108 dX3_leastFor_109 (by decide) (fun c_51 => ?_) (fun c_51 => ?_)
                          ·
                            as_aux_lemma =>
                              refine lv_aload_n (pc := 122) hx hb dX3_leastFor_122 rfl (lv_at hl 6 rfl) ?_
                              refine va_get (pc := 123) (ci := 3) (v := .ref a3) (C := RX3) (T := TX3) (N := 10) hx hb hts iX3 hown hK hP 0 rfl rfl 0 (by decide) (hts _ tw_348) (fun _ h9 => h9) rfl dX3_leastFor_123 ?_
                              refine gd_v (pc := 126) (wc := (zS_86 cB cC cI cJ a3 a9 a10 a11 a12 a13 a14 a15 x1 a9 g0 a10 g_29 a11 g_30 a12 f_4 a13 f_5 a15 f_31 a14 f_6)) hP hD hS hA [2, 3, 4, 5, 6, 7, 9, 8] rfl (by decide +kernel) (fun _ => by rfl) (fun hPc hDc => va_runV (As := []) (rest := []) ⟨hx, hb, hml, hown, hts⟩ (k_X10_nextLine_e l D cB cC cI cJ _ a3 a9 a10 a11 a12 a13 a14 a15 x1 f_4 f_5 f_31 f_6 g0 g_29 g_30 h_x1 hi_32 hi_7) ⟨gcwB hts tw_936 tw_8 tw_1279 hd_yX10_nextLine ⟨Nat.le_of_ble_eq_true rfl, Nat.le_of_ble_eq_true rfl⟩, hts _ tw_934, hts _ tw_935⟩ ⟨gblind, va_recv hK hPc (ci := 10) (q0 := 0) rfl rfl, (gpreS hPc hK hDc hN).2⟩ rfl rfl hl.1 rfl (lv_room (Nat.le_of_ble_eq_true rfl)) dX3_leastFor_126 ⟨Nat.le_of_ble_eq_true rfl, Nat.le_of_ble_eq_true rfl⟩) (fun u_52 H locs hw_54 hP hD hS => ?_)
                              replace hP : va_P D gcl (zS_66 cB cC cI cJ a0 a3 a4 a5 a6 a7 a8 y1 x0 y2 y3 a5 f_28 a3 a9 a10 a11 a12 a13 a14 a15 x1 a9 g0 a10 (u_52.2.2.1 0) a11 (u_52.2.2.1 1) a12 f_4 a13 f_5 a14 f_6 a15 (u_52.2.1 0) a1 a16 a17 a18 x2 x3 x4 x5 x6 x7 x8 a16 a19 a19 f5 a2 f6) H := hP
                              replace hD : va_D A (zS_66 cB cC cI cJ a0 a3 a4 a5 a6 a7 a8 y1 x0 y2 y3 a5 f_28 a3 a9 a10 a11 a12 a13 a14 a15 x1 a9 g0 a10 (u_52.2.2.1 0) a11 (u_52.2.2.1 1) a12 f_4 a13 f_5 a14 f_6 a15 (u_52.2.1 0) a1 a16 a17 a18 x2 x3 x4 x5 x6 x7 x8 a16 a19 a19 f5 a2 f6) := hD
                              obtain ⟨hw_55, hw_56⟩ := hw_54
                              replace hw_55 : (∀ j, 0 ≤ ((u_52.2.1 0) j).toInt ∧ ((u_52.2.1 0) j).toInt ≤ 23) := hw_55
                              replace hw_56 : (∀ T : Nat → Int32, prW g0 T x1.toInt → seW T (xW f_4 f_5 f_31) g_29 g_30 x1.toInt x1.toInt → diW f_31 f_6 x1.toInt → nlW T f_4 f_5 f_6 f_31 (u_52.2.1 0) (u_52.2.2.1 0) (u_52.2.2.1 1) x1.toInt) := hw_56
                              refine b_iinc (pc := 129) hx hb dX3_leastFor_129 hl (k := 2) rfl rfl tI_1 (by first | exact (om_2 hi_25.1) | ((first | omega | (unfold zBd at *; omega)))) (by first | exact (om_1088 c_37 rr_19.2) | ((first | omega | (unfold zBd at *; omega)))) (by decide) (fun x_57 ex_57 ls hl => ?_)
                              replace hl : lv_has ls 13 [(9, .int x_57), (11, .long r_46), (10, .int r_40), (8, .int r_19), (6, .long y_26), (5, .int x_1), (0, .ref a0), (1, .ref a1), (2, .ref a2), (3, .long y0)] := hl
                              refine lv_goto (pc := 132) (tgt := 69) hx hb dX3_leastFor_132 (by decide) ?_
                              exact ih_lp_36 x_57 y_26 f_28 (u_52.2.1 0) (u_52.2.2.1 0) (u_52.2.2.1 1) _ _ ls (by first | exact (om_1089 ex_57 hi_25.1 c_37 rr_19.2) | ((first | omega | (unfold zBd at *; omega)))) hi_27 hw_55 (by first | exact (om_40 ex_57 c_37) | ((first | omega | (unfold zBd at *; omega)))) (fun q => cu_next (hi_34 (by first | exact (om_1030 c_37) | ((first | omega | (unfold zBd at *; omega))))) (hw_56 f5 hg_pr (hi_34 (by first | exact (om_1030 c_37) | ((first | omega | (unfold zBd at *; omega))))).1 (hi_34 (by first | exact (om_1030 c_37) | ((first | omega | (unfold zBd at *; omega))))).2.1) hw_22 (by (first | omega | (unfold zBd at *; omega))) (by first | exact (om_5 ex_57) | ((first | omega | (unfold zBd at *; omega))))) (bf_line hi_35 rfl (by first | exact (om_1501 ex_57) | ((first | omega | (unfold zBd at *; omega)))) (by first | exact (om_0 hi_25.1) | ((first | omega | (unfold zBd at *; omega)))) (fm_congr (hw_43 f5 hg_pr (hi_34 (by first | exact (om_1030 c_37) | ((first | omega | (unfold zBd at *; omega))))).1 hg_tb (lf_xb (hi_34 (by first | exact (om_1030 c_37) | ((first | omega | (unfold zBd at *; omega))))) hi_9 (fun s a b => hg_rb s a (by (first | omega | (unfold zBd at *; omega)))) (by first | exact (om_1494 c_11 hg_la.1) | ((first | omega | (unfold zBd at *; omega)))) (by first | exact (om_1497 ex_1 hg_lt.1 hg_lt.2) | ((first | omega | (unfold zBd at *; omega)))))) (lf_fm (hi_34 (by first | exact (om_1030 c_37) | ((first | omega | (unfold zBd at *; omega))))) hi_9 (by first | exact (om_1498 c_11 hg_la.1 hi_8) | ((first | omega | (unfold zBd at *; omega)))) (by first | exact (om_0 h_x1.1) | ((first | omega | (unfold zBd at *; omega)))) (fun s a b => hg_rb s a (by (first | omega | (unfold zBd at *; omega)))) (by first | exact (om_1497 ex_1 hg_lt.1 hg_lt.2) | ((first | omega | (unfold zBd at *; omega)))) rfl (by (first | omega | (unfold zBd at *; omega))))) hh_49 (fun k => (by have q9 := rowF_bd (k := k) hg_tb (show (x3.toInt).toNat ≤ 5 by (first | omega | (unfold zBd at *; omega))) (fun s a b => hg_rb s a (by (first | omega | (unfold zBd at *; omega)))) (show 2 ≤ x_1.toInt ∧ x_1.toInt ≤ 16 by (first | omega | (unfold zBd at *; omega))); (first | omega | (unfold zBd at *; omega)))) (Or.inr ⟨by (first | omega | (unfold zBd at *; omega)), rfl, rfl⟩)) (by (first | omega | (unfold zBd at *; omega))) hP hD hS (lv_sub hl [0, 3, 4, 5, 6, 7, 8, 9] rfl)
                          ·
                            as_aux_lemma =>
                              refine lv_lload (pc := 112) hx hb dX3_leastFor_112 (lv_at hl 0 rfl) ?_
                              refine lv_lstore (pc := 114) (lv' := [(6, .long r_46), (11, .long r_46), (10, .int r_40), (9, .int x_24), (8, .int r_19), (5, .int x_1), (0, .ref a0), (1, .ref a1), (2, .ref a2), (3, .long y0)]) hx hb dX3_leastFor_114 hl (by decide) rfl (fun ls hl => ?_)
                              refine lv_aload_n (pc := 116) hx hb dX3_leastFor_116 rfl (lv_at hl 6 rfl) ?_
                              refine lv_iload (pc := 117) hx hb dX3_leastFor_117 (lv_at hl 2 rfl) ?_
                              refine gd_v (pc := 119) (wc := (zS_153 cB cC cI cJ a0 a3 a4 a5 a6 a7 a8 y1 x0 y2 y3 a5 f_28 a3 a9 a10 a11 a12 a13 a14 a15 x1 a15 f_31)) hP hD hS hA [0, 1, 2, 9] rfl (by decide +kernel) (fun _ => by rfl) (fun hPc hDc => va_runV (As := [.int r_40]) (rest := []) ⟨hx, hb, hml, hown, hts⟩ (k_X3_keepFound_e l D cB cC cI cJ _ a0 a3 a4 a5 a6 a7 a8 a9 a10 a11 a12 a13 a14 a15 r_40 x0 x1 y1 y2 y3 f_28 f_31 hw_42 h_x0 h_x1 hi_32) ⟨gcwB hts tw_1278 tw_12 tw_1275 hd_yX3_keepFound ⟨Nat.le_of_ble_eq_true rfl, Nat.le_of_ble_eq_true rfl⟩, hts _ tw_1277, hts _ tp_53⟩ ⟨gblind, va_recv hK hPc (ci := 3) (q0 := 0) rfl rfl, (gpreS hPc hK hDc hN).2⟩ rfl rfl hl.1 rfl (lv_room (Nat.le_of_ble_eq_true rfl)) dX3_leastFor_119 ⟨Nat.le_of_ble_eq_true rfl, Nat.le_of_ble_eq_true rfl⟩) (fun u_58 H locs hw_60 hP hD hS => ?_)
                              replace hP : va_P D gcl (zS_66 cB cC cI cJ a0 a3 a4 a5 a6 a7 a8 y1 x0 y2 y3 a5 (u_58.2.1 0) a3 a9 a10 a11 a12 a13 a14 a15 x1 a9 g0 a10 g_29 a11 g_30 a12 f_4 a13 f_5 a14 f_6 a15 f_31 a1 a16 a17 a18 x2 x3 x4 x5 x6 x7 x8 a16 a19 a19 f5 a2 f6) H := hP
                              replace hD : va_D A (zS_66 cB cC cI cJ a0 a3 a4 a5 a6 a7 a8 y1 x0 y2 y3 a5 (u_58.2.1 0) a3 a9 a10 a11 a12 a13 a14 a15 x1 a9 g0 a10 g_29 a11 g_30 a12 f_4 a13 f_5 a14 f_6 a15 f_31 a1 a16 a17 a18 x2 x3 x4 x5 x6 x7 x8 a16 a19 a19 f5 a2 f6) := hD
                              have hw_61 : (kfW (u_58.2.1 0) f_31 x1.toInt r_40.toInt) := hw_60
                              refine lv_aload_n (pc := 122) hx hb dX3_leastFor_122 rfl (lv_at hl 6 rfl) ?_
                              refine va_get (pc := 123) (ci := 3) (v := .ref a3) (C := RX3) (T := TX3) (N := 10) hx hb hts iX3 hown hK hP 0 rfl rfl 0 (by decide) (hts _ tw_348) (fun _ h9 => h9) rfl dX3_leastFor_123 ?_
                              refine gd_v (pc := 126) (wc := (zS_86 cB cC cI cJ a3 a9 a10 a11 a12 a13 a14 a15 x1 a9 g0 a10 g_29 a11 g_30 a12 f_4 a13 f_5 a15 f_31 a14 f_6)) hP hD hS hA [2, 3, 4, 5, 6, 7, 9, 8] rfl (by decide +kernel) (fun _ => by rfl) (fun hPc hDc => va_runV (As := []) (rest := []) ⟨hx, hb, hml, hown, hts⟩ (k_X10_nextLine_e l D cB cC cI cJ _ a3 a9 a10 a11 a12 a13 a14 a15 x1 f_4 f_5 f_31 f_6 g0 g_29 g_30 h_x1 hi_32 hi_7) ⟨gcwB hts tw_936 tw_8 tw_1279 hd_yX10_nextLine ⟨Nat.le_of_ble_eq_true rfl, Nat.le_of_ble_eq_true rfl⟩, hts _ tw_934, hts _ tw_935⟩ ⟨gblind, va_recv hK hPc (ci := 10) (q0 := 0) rfl rfl, (gpreS hPc hK hDc hN).2⟩ rfl rfl hl.1 rfl (lv_room (Nat.le_of_ble_eq_true rfl)) dX3_leastFor_126 ⟨Nat.le_of_ble_eq_true rfl, Nat.le_of_ble_eq_true rfl⟩) (fun u_62 H locs hw_64 hP hD hS => ?_)
                              replace hP : va_P D gcl (zS_66 cB cC cI cJ a0 a3 a4 a5 a6 a7 a8 y1 x0 y2 y3 a5 (u_58.2.1 0) a3 a9 a10 a11 a12 a13 a14 a15 x1 a9 g0 a10 (u_62.2.2.1 0) a11 (u_62.2.2.1 1) a12 f_4 a13 f_5 a14 f_6 a15 (u_62.2.1 0) a1 a16 a17 a18 x2 x3 x4 x5 x6 x7 x8 a16 a19 a19 f5 a2 f6) H := hP
                              replace hD : va_D A (zS_66 cB cC cI cJ a0 a3 a4 a5 a6 a7 a8 y1 x0 y2 y3 a5 (u_58.2.1 0) a3 a9 a10 a11 a12 a13 a14 a15 x1 a9 g0 a10 (u_62.2.2.1 0) a11 (u_62.2.2.1 1) a12 f_4 a13 f_5 a14 f_6 a15 (u_62.2.1 0) a1 a16 a17 a18 x2 x3 x4 x5 x6 x7 x8 a16 a19 a19 f5 a2 f6) := hD
                              obtain ⟨hw_65, hw_66⟩ := hw_64
                              replace hw_65 : (∀ j, 0 ≤ ((u_62.2.1 0) j).toInt ∧ ((u_62.2.1 0) j).toInt ≤ 23) := hw_65
                              replace hw_66 : (∀ T : Nat → Int32, prW g0 T x1.toInt → seW T (xW f_4 f_5 f_31) g_29 g_30 x1.toInt x1.toInt → diW f_31 f_6 x1.toInt → nlW T f_4 f_5 f_6 f_31 (u_62.2.1 0) (u_62.2.2.1 0) (u_62.2.2.1 1) x1.toInt) := hw_66
                              refine b_iinc (pc := 129) hx hb dX3_leastFor_129 hl (k := 3) rfl rfl tI_1 (by first | exact (om_2 hi_25.1) | ((first | omega | (unfold zBd at *; omega)))) (by first | exact (om_1088 c_37 rr_19.2) | ((first | omega | (unfold zBd at *; omega)))) (by decide) (fun x_67 ex_67 ls hl => ?_)
                              replace hl : lv_has ls 13 [(9, .int x_67), (6, .long r_46), (11, .long r_46), (10, .int r_40), (8, .int r_19), (5, .int x_1), (0, .ref a0), (1, .ref a1), (2, .ref a2), (3, .long y0)] := hl
                              refine lv_goto (pc := 132) (tgt := 69) hx hb dX3_leastFor_132 (by decide) ?_
                              exact ih_lp_36 x_67 r_46 (u_58.2.1 0) (u_62.2.1 0) (u_62.2.2.1 0) (u_62.2.2.1 1) _ _ ls (by first | exact (om_1089 ex_67 hi_25.1 c_37 rr_19.2) | ((first | omega | (unfold zBd at *; omega)))) (by first | exact (om_1502 hh_50.1 hh_50.2) | ((first | omega | (unfold zBd at *; omega)))) hw_65 (by first | exact (om_40 ex_67 c_37) | ((first | omega | (unfold zBd at *; omega)))) (fun q => cu_next (hi_34 (by first | exact (om_1030 c_37) | ((first | omega | (unfold zBd at *; omega))))) (hw_66 f5 hg_pr (hi_34 (by first | exact (om_1030 c_37) | ((first | omega | (unfold zBd at *; omega))))).1 (hi_34 (by first | exact (om_1030 c_37) | ((first | omega | (unfold zBd at *; omega))))).2.1) hw_22 (by (first | omega | (unfold zBd at *; omega))) (by first | exact (om_5 ex_67) | ((first | omega | (unfold zBd at *; omega))))) (bf_line hi_35 rfl (by first | exact (om_1501 ex_67) | ((first | omega | (unfold zBd at *; omega)))) (by first | exact (om_0 hi_25.1) | ((first | omega | (unfold zBd at *; omega)))) (fm_congr (hw_43 f5 hg_pr (hi_34 (by first | exact (om_1030 c_37) | ((first | omega | (unfold zBd at *; omega))))).1 hg_tb (lf_xb (hi_34 (by first | exact (om_1030 c_37) | ((first | omega | (unfold zBd at *; omega))))) hi_9 (fun s a b => hg_rb s a (by (first | omega | (unfold zBd at *; omega)))) (by first | exact (om_1494 c_11 hg_la.1) | ((first | omega | (unfold zBd at *; omega)))) (by first | exact (om_1497 ex_1 hg_lt.1 hg_lt.2) | ((first | omega | (unfold zBd at *; omega)))))) (lf_fm (hi_34 (by first | exact (om_1030 c_37) | ((first | omega | (unfold zBd at *; omega))))) hi_9 (by first | exact (om_1498 c_11 hg_la.1 hi_8) | ((first | omega | (unfold zBd at *; omega)))) (by first | exact (om_0 h_x1.1) | ((first | omega | (unfold zBd at *; omega)))) (fun s a b => hg_rb s a (by (first | omega | (unfold zBd at *; omega)))) (by first | exact (om_1497 ex_1 hg_lt.1 hg_lt.2) | ((first | omega | (unfold zBd at *; omega)))) rfl (by (first | omega | (unfold zBd at *; omega))))) hh_49 (fun k => (by have q9 := rowF_bd (k := k) hg_tb (show (x3.toInt).toNat ≤ 5 by (first | omega | (unfold zBd at *; omega))) (fun s a b => hg_rb s a (by (first | omega | (unfold zBd at *; omega)))) (show 2 ≤ x_1.toInt ∧ x_1.toInt ≤ 16 by (first | omega | (unfold zBd at *; omega))); (first | omega | (unfold zBd at *; omega)))) (Or.inl ⟨by (first | omega | (unfold zBd at *; omega)), rfl, kf_fd hw_61 (by first | exact (om_0 h_x1.1) | ((first | omega | (unfold zBd at *; omega)))) (by first | exact (om_1500 hw_44.1 hw_44.2 tI_3) | ((first | omega | (unfold zBd at *; omega)))) (fun s a b => lf_d (hi_34 (by first | exact (om_1030 c_37) | ((first | omega | (unfold zBd at *; omega))))) hi_9 (by first | exact (om_1494 c_11 hg_la.1) | ((first | omega | (unfold zBd at *; omega)))) s a b) (lf_L (hi_34 (by first | exact (om_1030 c_37) | ((first | omega | (unfold zBd at *; omega))))) hi_9 (by first | exact (om_1494 c_11 hg_la.1) | ((first | omega | (unfold zBd at *; omega)))) (by first | exact (om_0 h_x1.1) | ((first | omega | (unfold zBd at *; omega))))) (by (first | omega | (unfold zBd at *; omega)))⟩)) (by (first | omega | (unfold zBd at *; omega))) hP hD hS (lv_sub hl [0, 4, 1, 5, 6, 7, 8, 9] rfl)
            exact lp_36 _ 0 1000000000000000 f0 (u_12.2.1 0) (u_12.2.2.1 0) (u_12.2.2.1 1) _ _ ls (n_c tI_0 (by decide)) (by first | exact (om_1503 tL_1000000000000000) | (have k0 := tI_0; have k1 := tL_1000000000000000; (first | omega | (unfold zBd at *; omega)))) hw_15 (by have q := tI_0; (first | omega | (unfold zBd at *; omega))) (fun _ => cu_0 (hw_17 f5 hg_pr hg_z0) hi_9 (by first | exact (om_1494 c_11 hg_la.1) | ((first | omega | (unfold zBd at *; omega)))) (by first | exact (om_0 h_x1.1) | ((first | omega | (unfold zBd at *; omega)))) (by first | exact (om_58 h_x1.2) | ((first | omega | (unfold zBd at *; omega)))) hw_16 tI_0) (bf_0 (by first | exact (om_1504 tI_0) | (have q := tI_0; (first | omega | (unfold zBd at *; omega)))) tL_1000000000000000) (Nat.lt_succ_self _) hP hD hS (lv_sub hl [0, 1, 2, 3, 4, 5, 6, 7] rfl)
      ·
        as_aux_lemma =>
          refine lv_aload_n (pc := 20) hx hb dX3_leastFor_20 rfl (lv_at hl 2 rfl) ?_
          refine va_get (pc := 21) (ci := 3) (v := .ref a3) (C := RX3) (T := TX3) (N := 10) hx hb hts iX3 hown hK hP 0 rfl rfl 0 (by decide) (hts _ tw_348) (fun _ h9 => h9) rfl dX3_leastFor_21 ?_
          refine lv_iload (pc := 24) hx hb dX3_leastFor_24 (lv_at hl 0 rfl) ?_
          refine lv_aload_n (pc := 26) hx hb dX3_leastFor_26 rfl (lv_at hl 4 rfl) ?_
          refine lv_iload (pc := 27) hx hb dX3_leastFor_27 (lv_at hl 0 rfl) ?_
          refine va_iald (pc := 29) hx hb hK hP 13 2 rfl rfl (n_in rfl (by first | exact (om_0 hi_3.1) | ((first | omega | (unfold zBd at *; omega)))) (by first | exact (om_1021 c_11 h_x3.2) | ((first | omega | (unfold zBd at *; omega))))) dX3_leastFor_29 ?_
          refine lv_topi (fun x_68 ex_68 => ?_)
          have rx_68 : zBd x_68.toInt (-2147483648) 2147483647 := n_rng x_68
          replace ex_68 : x_68 = f6 (x_2.toInt).toNat := ex_68
          have tx_68 := congrArg Int32.toInt ex_68
          have rrx_68 : ((-7) ≤ x_68.toInt ∧ x_68.toInt ≤ 7) := (by have q := hg_rb x_2.toInt (by (first | omega | (unfold zBd at *; omega))) (by (first | omega | (unfold zBd at *; omega))); rw [ex_68]; exact q)
          refine lv_iload (pc := 30) hx hb dX3_leastFor_30 (lv_at hl 1 rfl) ?_
          refine b_isub (pc := 32) hx hb rfl rfl (by first | exact (om_1505 rrx_68.1 ex_1 hg_lt.2) | ((first | omega | (unfold zBd at *; omega)))) (by first | exact (om_1506 rrx_68.2 ex_1 hg_lt.1) | ((first | omega | (unfold zBd at *; omega)))) dX3_leastFor_32 (fun x_69 ex_69 => ?_)
          refine lv_iload (pc := 33) hx hb dX3_leastFor_33 (lv_at hl 1 rfl) ?_
          as_aux_lemma =>
            refine lv_iconst (pc := 35) (v := 3) hx hb dX3_leastFor_35 (by decide) ?_
            refine gd_v (pc := 36) (wc := (zS_22 cB cC cI cJ a3 a9 a10 a11 a12 a13 a14 a15 x1 a12 f_4 a13 f_5 a14 f_6)) hP hD hS hA [2, 6, 7, 8] rfl (by decide +kernel) (fun _ => by rfl) (fun hPc hDc => va_runV (As := [.int x_2, .int x_69, .int x_1, .int 3]) (rest := []) ⟨hx, hb, hml, hown, hts⟩ (k_X10_setNumbers_e l D cB cC cI cJ _ a3 a9 a10 a11 a12 a13 a14 a15 x_2 x_69 x_1 3 x1 f_4 f_5 f_6 (by first | exact (om_360 hi_3.1 c_11 h_x3.2) | (have k0 := tI_3; (first | omega | (unfold zBd at *; omega)))) (n_c tI_3 (by decide)) h_x1 hi_7) ⟨gcwB hts tw_900 tw_8 tw_1269 hd_yX10_setNumbers ⟨Nat.le_of_ble_eq_true rfl, Nat.le_of_ble_eq_true rfl⟩, hts _ tw_898, hts _ tw_899⟩ ⟨gblind, va_recv hK hPc (ci := 10) (q0 := 0) rfl rfl, (gpreS hPc hK hDc hN).2⟩ rfl rfl hl.1 rfl (lv_room (Nat.le_of_ble_eq_true rfl)) dX3_leastFor_36 ⟨Nat.le_of_ble_eq_true rfl, Nat.le_of_ble_eq_true rfl⟩) (fun u_70 H locs hw_72 hP hD hS => ?_)
            replace hP : va_P D gcl (zS_66 cB cC cI cJ a0 a3 a4 a5 a6 a7 a8 y1 x0 y2 y3 a5 f0 a3 a9 a10 a11 a12 a13 a14 a15 x1 a9 g0 a10 g1 a11 g2 a12 (u_70.2.1 0) a13 (u_70.2.1 1) a14 (u_70.2.1 2) a15 f4 a1 a16 a17 a18 x2 x3 x4 x5 x6 x7 x8 a16 a19 a19 f5 a2 f6) H := hP
            replace hD : va_D A (zS_66 cB cC cI cJ a0 a3 a4 a5 a6 a7 a8 y1 x0 y2 y3 a5 f0 a3 a9 a10 a11 a12 a13 a14 a15 x1 a9 g0 a10 g1 a11 g2 a12 (u_70.2.1 0) a13 (u_70.2.1 1) a14 (u_70.2.1 2) a15 f4 a1 a16 a17 a18 x2 x3 x4 x5 x6 x7 x8 a16 a19 a19 f5 a2 f6) := hD
            obtain ⟨hw_73, hw_74, hw_75, hw_76⟩ := hw_72
            replace hw_73 : (∀ j, (-3) ≤ ((u_70.2.1 2) j).toInt ∧ ((u_70.2.1 2) j).toInt ≤ 24) := hw_73
            replace hw_74 : ((u_70.2.1 0) = upd f_4 (x_2.toInt).toNat x_69) := hw_74
            replace hw_75 : ((u_70.2.1 1) = upd f_5 (x_2.toInt).toNat x_1) := hw_75
            replace hw_76 : ((u_70.2.1 2) = upd f_6 (x_2.toInt).toNat (3 : Int32)) := hw_76
            have kk0_r_71 := tI_3
            refine b_iinc (pc := 39) hx hb dX3_leastFor_39 hl (k := 0) rfl rfl tI_1 (by first | exact (om_2 hi_3.1) | ((first | omega | (unfold zBd at *; omega)))) (by first | exact (om_357 hi_3.2) | ((first | omega | (unfold zBd at *; omega)))) (by decide) (fun x_77 ex_77 ls hl => ?_)
            replace hl : lv_has ls 13 [(6, .int x_77), (5, .int x_1), (0, .ref a0), (1, .ref a1), (2, .ref a2), (3, .long y0)] := hl
            refine lv_goto (pc := 42) (tgt := 11) hx hb dX3_leastFor_42 (by decide) ?_
            exact ih_lp_10 x_77 (u_70.2.1 0) (u_70.2.1 1) (u_70.2.1 2) _ _ ls (by first | exact (om_1027 ex_77 hi_3.1 c_11 h_x3.2) | ((first | omega | (unfold zBd at *; omega)))) hw_73 (by first | exact (om_40 ex_77 c_11) | ((first | omega | (unfold zBd at *; omega)))) (sn_put hi_9 hw_74 hw_75 hw_76 ex_68 rfl (by (first | omega | (unfold zBd at *; omega))) rfl tI_3 (by first | exact (om_0 hi_3.1) | ((first | omega | (unfold zBd at *; omega)))) (by first | exact (om_5 ex_77) | ((first | omega | (unfold zBd at *; omega))))) (by (first | omega | (unfold zBd at *; omega))) hP hD hS (lv_sub hl [0, 1, 2, 3, 4, 5] rfl)
  exact lp_10 _ 0 f1 f2 f3 _ _ ls (n_c tI_0 (by decide)) hf_f3 (by have q := tI_0; (first | omega | (unfold zBd at *; omega))) (sn_0 tI_0) (Nat.lt_succ_self _) hP hD hS (lv_sub hl [0, 1, 2, 3, 4, 5] rfl)
theorem om_1507 {a b : Int} (h0 : ((a = b - 1 ∧ 1 ≤ b) ∨ (a = 0 ∧ b ≤ 0))) (h1 : (1 ≤ b)) : (a = b - 1 ∧ 1 ≤ b) := by omega
theorem om_1508 {a b c d : Int} (h0 : (0 ≤ a)) (h1 : (a ≤ c)) (h2 : (d = b)) (h3 : (c = 1000 * d)) : (a ≤ 1000 * b ∧ a = a ∨ 1000 * b < a ∧ a = -1) := by omega
theorem om_1509 {a b : Int} (h0 : (0 ≤ a)) (h1 : ((a = b - 1 ∧ 1 ≤ b) ∨ (a = 0 ∧ b ≤ 0))) (h2 : (1 ≤ b)) : (0 ≤ a ∧ b = a + 1) := by omega
theorem om_1510 {a : Int} (h0 : (a = -1)) : (((-1) ≤ a ∧ a ≤ 2147483647000)) := by omega
theorem om_1511 {a b c d e : Int} (h0 : (c = -1)) (h1 : (a > d)) (h2 : (e = b)) (h3 : (d = 1000 * e)) (h4 : (0 ≤ a)) : (a ≤ 1000 * b ∧ c = a ∨ 1000 * b < a ∧ c = -1) := by omega
set_option maxHeartbeats 4000000 in
set_option maxRecDepth 100000 in
theorem k_X3_putAhead_5_e (l : Launch) (D : va_G) (cB cC cI cJ : ClassId) (sz : Nat) (a0 a1 a2 a3 a4 a5 a6 a7 a8 a9 a10 a11 a12 a13 a14 a15 a16 a17 a18 a19 : Nat) (x0 x1 x2 x3 x4 x5 x6 x7 x8 : Int32) (y0 y1 y2 : Int64) (f0 f1 f2 f3 f4 f5 f6 f7 : Nat → Int32) (g0 g1 g2 : Nat → Int64) (h_x0 : zBd x0.toInt 0 1) (h_x1 : zBd x1.toInt 0 4) (h_x2 : zBd x2.toInt (-1) 8) (h_x3 : zBd x3.toInt (-1) 5) (h_x4 : zBd x4.toInt (-1) 6) (h_x5 : zBd x5.toInt 0 6) (h_x6 : zBd x6.toInt 0 16) (hg_tb : TB f2 99) (hg_lt : 1 ≤ x2.toInt ∧ x2.toInt ≤ 8) (hg_s1 : 1 ≤ x3.toInt) (hg_rb : ∀ s : Int, 0 ≤ s → s < x3.toInt → -7 ≤ (f3 s.toNat).toInt ∧ (f3 s.toNat).toInt ≤ 7) (hf_f6 : (∀ j, (-3) ≤ (f6 j).toInt ∧ (f6 j).toInt ≤ 24)) (hf_f7 : (∀ j, 0 ≤ (f7 j).toInt ∧ (f7 j).toInt ≤ 23)) : Met l yX3_putAhead (.code yX3_putAhead cX3_putAhead 5 (some .long) :: lw_gd) ({ frames := 3, cells := 0, slots := 0, locals := 84 }) (gPre D [(cB, .byte), (cC, .char), (cI, .int), (cJ, .long)] [.ref a0, .ref a1, .ref a2] (zS_172 cB cC cI cJ a0 a3 a4 a5 a6 a7 a8 y0 x0 y1 y2 a5 f0 a4 f1 a3 a9 a10 a11 a12 a13 a14 a15 x1 a9 g0 a10 g1 a11 g2 a1 a16 a17 a18 x2 x3 x4 x5 x6 x7 x8 a16 a19 a19 f2 a2 f3 a12 f4 a13 f5 a14 f6 a15 f7) sz) (va_Ql (fun r u => ((-1) ≤ r.toInt ∧ r.toInt ≤ 2147483647000) ∧ (0 ≤ (u.2.2.2.1 0).toInt ∧ (u.2.2.2.1 0).toInt ≤ 1) ∧ (0 ≤ (u.2.2.2.1 1).toInt ∧ (u.2.2.2.1 1).toInt ≤ 4) ∧ (∀ j, (-3) ≤ ((u.2.1 4) j).toInt ∧ ((u.2.1 4) j).toInt ≤ 24) ∧ (∀ j, 0 ≤ ((u.2.1 5) j).toInt ∧ ((u.2.1 5) j).toInt ≤ 23) ∧ (paA9 (rowF f2 f3 (2 * x2.toInt) (x3.toInt).toNat) (3 * nmK (fun _ => 3) ((u.2.2.2.1 1).toInt).toNat) (1000 * x7.toInt) r.toInt) ∧ (0 ≤ (u.2.2.2.1 1).toInt ∧ x3.toInt = (u.2.2.2.1 1).toInt + 1)) (gB D (va_A (zS_172 cB cC cI cJ a0 a3 a4 a5 a6 a7 a8 y0 x0 y1 y2 a5 f0 a4 f1 a3 a9 a10 a11 a12 a13 a14 a15 x1 a9 g0 a10 g1 a11 g2 a1 a16 a17 a18 x2 x3 x4 x5 x6 x7 x8 a16 a19 a19 f2 a2 f3 a12 f4 a13 f5 a14 f6 a15 f7) sz) (fun u : gEx => (zS_172 cB cC cI cJ a0 a3 a4 a5 a6 a7 a8 y0 (u.2.2.2.1 0) y1 y2 a5 (u.2.1 0) a4 (u.2.1 1) a3 a9 a10 a11 a12 a13 a14 a15 (u.2.2.2.1 1) a9 (u.2.2.1 0) a10 (u.2.2.1 1) a11 (u.2.2.1 2) a1 a16 a17 a18 x2 x3 x4 x5 x6 x7 x8 a16 a19 a19 f2 a2 f3 a12 (u.2.1 2) a13 (u.2.1 3) a14 (u.2.1 4) a15 (u.2.1 5)))) (va_A (zS_172 cB cC cI cJ a0 a3 a4 a5 a6 a7 a8 y0 x0 y1 y2 a5 f0 a4 f1 a3 a9 a10 a11 a12 a13 a14 a15 x1 a9 g0 a10 g1 a11 g2 a1 a16 a17 a18 x2 x3 x4 x5 x6 x7 x8 a16 a19 a19 f2 a2 f3 a12 f4 a13 f5 a14 f6 a15 f7) sz)) 0 0 (va_A (zS_172 cB cC cI cJ a0 a3 a4 a5 a6 a7 a8 y0 x0 y1 y2 a5 f0 a4 f1 a3 a9 a10 a11 a12 a13 a14 a15 x1 a9 g0 a10 g1 a11 g2 a1 a16 a17 a18 x2 x3 x4 x5 x6 x7 x8 a16 a19 a19 f2 a2 f3 a12 f4 a13 f5 a14 f6 a15 f7) sz) := by
  refine gOf_l (by decide +kernel) (Nat.le_of_ble_eq_true rfl) ?_
  intro p e s m args below meth c ls A Q hx hb hts hown hml hN hK hP hD hA hl hret
  replace hown : s.vm.findClass RX3 = some m.cls := hown
  have hS : va_S A s.heap s.heap [] := va_S.rf
  replace hP : va_P D gcl (zS_172 cB cC cI cJ a0 a3 a4 a5 a6 a7 a8 y0 x0 y1 y2 a5 f0 a4 f1 a3 a9 a10 a11 a12 a13 a14 a15 x1 a9 g0 a10 g1 a11 g2 a1 a16 a17 a18 x2 x3 x4 x5 x6 x7 x8 a16 a19 a19 f2 a2 f3 a12 f4 a13 f5 a14 f6 a15 f7) s.heap := hP
  replace hl : lv_has ls 5 [(0, .ref a0), (1, .ref a1), (2, .ref a2)] := hl
  have ry0 := n_rngL y0
  have ry1 := n_rngL y1
  have ry2 := n_rngL y2
  have rx7 : zBd x7.toInt (-2147483648) 2147483647 := n_rng x7
  have rx8 : zBd x8.toInt (-2147483648) 2147483647 := n_rng x8
  refine lv_aload_n (pc := 0) hx hb dX3_putAhead_0 rfl (lv_at hl 0 rfl) ?_
  refine va_get (pc := 1) (ci := 3) (v := .ref a3) (C := RX3) (T := TX3) (N := 10) hx hb hts iX3 hown hK hP 0 rfl rfl 0 (by decide) (hts _ tw_348) (fun _ h9 => h9) rfl dX3_putAhead_1 ?_
  refine lv_aload_n (pc := 4) hx hb dX3_putAhead_4 rfl (lv_at hl 1 rfl) ?_
  refine gd_v (pc := 5) (wc := (zS_107 cB cC cI cJ a3 a9 a10 a11 a12 a13 a14 a15 x1 a9 g0 a10 g1 a11 g2 a1 a16 a17 a18 x2 x3 x4 x5 x6 x7 x8 a16 a19 a19 f2)) hP hD hS hA [3, 4, 5, 6, 7, 8, 9] rfl (by decide +kernel) (fun _ => by rfl) (fun hPc hDc => va_runV (As := [.ref a1]) (rest := []) ⟨hx, hb, hml, hown, hts⟩ (k_X10_start_e l D cB cC cI cJ _ a3 a1 a9 a10 a11 a12 a13 a14 a15 a16 a17 a18 a19 x1 x2 x3 x4 x5 x6 x7 x8 f2 g0 g1 g2 h_x1 h_x2 h_x3 h_x4 h_x5 h_x6 (hg_tb)) ⟨gcwB hts tw_883 tw_8 tw_1244 hd_yX10_start ⟨Nat.le_of_ble_eq_true rfl, Nat.le_of_ble_eq_true rfl⟩, hts _ tw_881, hts _ tw_882⟩ ⟨gblind, va_recv hK hPc (ci := 10) (q0 := 0) rfl rfl, (gpreS hPc hK hDc hN).2⟩ rfl rfl hl.1 rfl (lv_room (Nat.le_of_ble_eq_true rfl)) dX3_putAhead_5 ⟨Nat.le_of_ble_eq_true rfl, Nat.le_of_ble_eq_true rfl⟩) (fun u_1 H locs hw_3 hP hD hS => ?_)
  replace hP : va_P D gcl (zS_172 cB cC cI cJ a0 a3 a4 a5 a6 a7 a8 y0 x0 y1 y2 a5 f0 a4 f1 a3 a9 a10 a11 a12 a13 a14 a15 (u_1.2.2.2.1 0) a9 (u_1.2.2.1 0) a10 (u_1.2.2.1 1) a11 (u_1.2.2.1 2) a1 a16 a17 a18 x2 x3 x4 x5 x6 x7 x8 a16 a19 a19 f2 a2 f3 a12 f4 a13 f5 a14 f6 a15 f7) H := hP
  replace hD : va_D A (zS_172 cB cC cI cJ a0 a3 a4 a5 a6 a7 a8 y0 x0 y1 y2 a5 f0 a4 f1 a3 a9 a10 a11 a12 a13 a14 a15 (u_1.2.2.2.1 0) a9 (u_1.2.2.1 0) a10 (u_1.2.2.1 1) a11 (u_1.2.2.1 2) a1 a16 a17 a18 x2 x3 x4 x5 x6 x7 x8 a16 a19 a19 f2 a2 f3 a12 f4 a13 f5 a14 f6 a15 f7) := hD
  obtain ⟨hw_4, hw_5, hw_6, hw_7⟩ := hw_3
  replace hw_4 : zBd (u_1.2.2.2.1 0).toInt 0 4 := hw_4
  replace hw_5 : (prW (u_1.2.2.1 0) f2 (u_1.2.2.2.1 0).toInt) := hw_5
  replace hw_6 : (z0W (u_1.2.2.1 1) (u_1.2.2.1 2) (u_1.2.2.2.1 0).toInt) := hw_6
  replace hw_7 : (((u_1.2.2.2.1 0).toInt = x3.toInt - 1 ∧ 1 ≤ x3.toInt) ∨ ((u_1.2.2.2.1 0).toInt = 0 ∧ x3.toInt ≤ 0)) := hw_7
  refine lv_aload_n (pc := 8) hx hb dX3_putAhead_8 rfl (lv_at hl 0 rfl) ?_
  refine lv_aload_n (pc := 9) hx hb dX3_putAhead_9 rfl (lv_at hl 1 rfl) ?_
  refine lv_aload_n (pc := 10) hx hb dX3_putAhead_10 rfl (lv_at hl 2 rfl) ?_
  refine lv_ldc2 (pc := 11) hx hb hown (hts _ tw_347) dX3_putAhead_11 ?_
  refine gc_l (pc := 14) (wc := (zS_66 cB cC cI cJ a0 a3 a4 a5 a6 a7 a8 y0 x0 y1 y2 a5 f0 a3 a9 a10 a11 a12 a13 a14 a15 (u_1.2.2.2.1 0) a9 (u_1.2.2.1 0) a10 (u_1.2.2.1 1) a11 (u_1.2.2.1 2) a12 f4 a13 f5 a14 f6 a15 f7 a1 a16 a17 a18 x2 x3 x4 x5 x6 x7 x8 a16 a19 a19 f2 a2 f3)) (wr := [(a4, .inl (cI, 5, .inl f1))]) hP hD hS hA [0, 1, 3, 4, 5, 6, 11, 12, 13, 14, 7, 8, 9, 10] [2] rfl rfl (by decide +kernel) (by decide +kernel) (by decide +kernel) (fun hPc hDc => va_runV (As := [.ref a1, .ref a2, .long (-1)]) (rest := []) ⟨hx, hb, hml, hown, hts⟩ (k_X3_leastFor_5_e l D cB cC cI cJ _ a0 a1 a2 a3 a4 a5 a6 a7 a8 a9 a10 a11 a12 a13 a14 a15 a16 a17 a18 a19 x0 (u_1.2.2.2.1 0) x2 x3 x4 x5 x6 x7 x8 (-1) y0 y1 y2 f0 f4 f5 f6 f7 f2 f3 (u_1.2.2.1 0) (u_1.2.2.1 1) (u_1.2.2.1 2) h_x0 hw_4 hf_f6 hf_f7 h_x2 h_x3 h_x4 h_x5 h_x6 (hg_tb) (hw_5) (hw_6) ((by first | exact (om_1507 hw_7 hg_s1) | ((first | omega | (unfold zBd at *; omega))))) (hg_lt) (hg_rb) (tL_m1)) ⟨gcwB hts tw_1268 tw_12 tw_1265 hd_yX3_leastFor ⟨Nat.le_of_ble_eq_true rfl, Nat.le_of_ble_eq_true rfl⟩, hts _ tw_1267, hts _ tp_52⟩ ⟨gblind, va_recv hK hPc (ci := 3) (q0 := 0) rfl rfl, (gpreS hPc hK hDc hN).2⟩ rfl rfl hl.1 rfl (lv_room (Nat.le_of_ble_eq_true rfl)) dX3_putAhead_14 ⟨Nat.le_of_ble_eq_true rfl, Nat.le_of_ble_eq_true rfl⟩) (fun r_9 u_8 H locs hw_10 hP hD hS => ?_)
  replace hP : va_P D gcl (zS_189 cB cC cI cJ a4 f1 a0 a3 a4 a5 a6 a7 a8 y0 x0 y1 y2 a5 (u_8.2.1 0) a3 a9 a10 a11 a12 a13 a14 a15 (u_1.2.2.2.1 0) a9 (u_1.2.2.1 0) a10 (u_8.2.2.1 0) a11 (u_8.2.2.1 1) a12 (u_8.2.1 1) a13 (u_8.2.1 2) a14 (u_8.2.1 3) a15 (u_8.2.1 4) a1 a16 a17 a18 x2 x3 x4 x5 x6 x7 x8 a16 a19 a19 f2 a2 f3) H := hP
  replace hD : va_D A (zS_189 cB cC cI cJ a4 f1 a0 a3 a4 a5 a6 a7 a8 y0 x0 y1 y2 a5 (u_8.2.1 0) a3 a9 a10 a11 a12 a13 a14 a15 (u_1.2.2.2.1 0) a9 (u_1.2.2.1 0) a10 (u_8.2.2.1 0) a11 (u_8.2.2.1 1) a12 (u_8.2.1 1) a13 (u_8.2.1 2) a14 (u_8.2.1 3) a15 (u_8.2.1 4) a1 a16 a17 a18 x2 x3 x4 x5 x6 x7 x8 a16 a19 a19 f2 a2 f3) := hD
  obtain ⟨hw_11, hw_12, hw_13, hw_14, hw_15⟩ := hw_10
  replace hw_11 : (0 ≤ r_9.toInt ∧ r_9.toInt ≤ 1000000000000000) := hw_11
  replace hw_12 : (∀ j, (-3) ≤ ((u_8.2.1 3) j).toInt ∧ ((u_8.2.1 3) j).toInt ≤ 24) := hw_12
  replace hw_13 : (∀ j, 0 ≤ ((u_8.2.1 4) j).toInt ∧ ((u_8.2.1 4) j).toInt ≤ 23) := hw_13
  replace hw_14 : (bfW (rowF f2 f3 (2 * x2.toInt) (x3.toInt).toNat) (u_8.2.1 0) (x3.toInt).toNat (3 * nmK (fun _ => 3) ((u_1.2.2.2.1 0).toInt).toNat) r_9.toInt) := hw_14
  replace hw_15 : (0 ≤ r_9.toInt) := hw_15
  have kk0_r_9 := tL_m1
  have rr_9 := n_rngL r_9
  as_aux_lemma =>
    refine lv_lstore_n (pc := 17) (lv' := [(3, .long r_9), (0, .ref a0), (1, .ref a1), (2, .ref a2)]) hx hb dX3_putAhead_17 rfl hl (by decide) rfl (fun ls hl => ?_)
    refine lv_lload_n (pc := 18) hx hb dX3_putAhead_18 rfl (lv_at hl 0 rfl) ?_
    refine lv_ldc2 (pc := 19) hx hb hown (hts _ tw_1307) dX3_putAhead_19 ?_
    refine lv_aload_n (pc := 22) hx hb dX3_putAhead_22 rfl (lv_at hl 2 rfl) ?_
    refine va_getN (pc := 23) (ci := 1) (v := .int x7) (C := RX1) (T := TX1) (N := 10) hx hb hts iX1 hown hK hP 11 rfl rfl 8 (by decide) (va_Nw.use rfl (hN _ tn_140)) (fun _ h9 => h9) rfl dX3_putAhead_23 ?_
    refine b_i2l (pc := 26) hx hb rfl dX3_putAhead_26 (fun y_16 ey_16 => ?_)
    have ry_16 : zBd x7.toInt (-2147483648) 2147483647 := n_rng x7
    refine b_lmul (pc := 27) hx hb tL_1000 rfl (by first | exact (om_1022 ey_16 ry_16.1) | ((first | omega | (unfold zBd at *; omega)))) (by first | exact (om_1023 ey_16 ry_16.2) | ((first | omega | (unfold zBd at *; omega)))) dX3_putAhead_27 (fun y_17 ey_17 => ?_)
    refine b_lcmp_le (pc := 28) (tgt := 37) hx hb rfl rfl dX3_putAhead_28 dX3_putAhead_29 (by decide) (fun c_18 => ?_) (fun c_18 => ?_)
    ·
      as_aux_lemma =>
        refine lv_aload_n (pc := 37) hx hb dX3_putAhead_37 rfl (lv_at hl 1 rfl) ?_
        refine va_get (pc := 38) (ci := 3) (v := .ref a5) (C := RX3) (T := TX3) (N := 10) hx hb hts iX3 hown hK hP 1 rfl rfl 2 (by decide) (hts _ tw_351) (fun _ h9 => h9) rfl dX3_putAhead_38 ?_
        refine lv_iconst (pc := 41) (v := 0) hx hb dX3_putAhead_41 (by decide) ?_
        refine lv_aload_n (pc := 42) hx hb dX3_putAhead_42 rfl (lv_at hl 1 rfl) ?_
        refine va_get (pc := 43) (ci := 3) (v := .ref a4) (C := RX3) (T := TX3) (N := 10) hx hb hts iX3 hown hK hP 1 rfl rfl 1 (by decide) (hts _ tw_349) (fun _ h9 => h9) rfl dX3_putAhead_43 ?_
        refine lv_iconst (pc := 46) (v := 0) hx hb dX3_putAhead_46 (by decide) ?_
        refine lv_iconst (pc := 47) (v := 5) hx hb dX3_putAhead_47 (by decide) ?_
        refine g_copyi (pc := 48) hx hb (hml.trans hl.1.symm) hown (hts _ tw_1312) (hts _ tw_745) (hts _ tw_744) (hts _ tw_20) hK hP hD hS 2 0 2 2 rfl rfl rfl rfl rfl (by decide +kernel) (by decide +kernel) (by decide +kernel) (by decide +kernel) (by decide +kernel) (fun _ _ => rfl) (Nat.le_of_ble_eq_true rfl) (Nat.le_of_ble_eq_true rfl) dX3_putAhead_48 (fun f_19 H locs hP hD hS => ?_)
        replace hP : va_P D gcl (zS_189 cB cC cI cJ a4 f_19 a0 a3 a4 a5 a6 a7 a8 y0 x0 y1 y2 a5 (u_8.2.1 0) a3 a9 a10 a11 a12 a13 a14 a15 (u_1.2.2.2.1 0) a9 (u_1.2.2.1 0) a10 (u_8.2.2.1 0) a11 (u_8.2.2.1 1) a12 (u_8.2.1 1) a13 (u_8.2.1 2) a14 (u_8.2.1 3) a15 (u_8.2.1 4) a1 a16 a17 a18 x2 x3 x4 x5 x6 x7 x8 a16 a19 a19 f2 a2 f3) H := hP
        replace hD : va_D A (zS_189 cB cC cI cJ a4 f_19 a0 a3 a4 a5 a6 a7 a8 y0 x0 y1 y2 a5 (u_8.2.1 0) a3 a9 a10 a11 a12 a13 a14 a15 (u_1.2.2.2.1 0) a9 (u_1.2.2.1 0) a10 (u_8.2.2.1 0) a11 (u_8.2.2.1 1) a12 (u_8.2.1 1) a13 (u_8.2.1 2) a14 (u_8.2.1 3) a15 (u_8.2.1 4) a1 a16 a17 a18 x2 x3 x4 x5 x6 x7 x8 a16 a19 a19 f2 a2 f3) := hD
        refine lv_aload_n (pc := 51) hx hb dX3_putAhead_51 rfl (lv_at hl 1 rfl) ?_
        refine lv_iconst (pc := 52) (v := 1) hx hb dX3_putAhead_52 (by decide) ?_
        as_aux_lemma =>
          refine va_put (pc := 53) (ci := 3) (v := .int 1) (ty := .boolean) (C := RX3) (T := TX3) (N := 10) hx hb hts iX3 tyX3 tyX3_ok nmX3 hown hK hP hD hS 1 rfl rfl 7 (by decide) (hts _ tw_356) (fun _ h9 => h9) rfl (by decide +kernel) (by decide +kernel) (by decide +kernel) (Nat.le_of_ble_eq_true rfl) dX3_putAhead_53 (fun H locs hP hD hS => ?_)
          replace hP : va_P D gcl (zS_189 cB cC cI cJ a4 f_19 a0 a3 a4 a5 a6 a7 a8 y0 1 y1 y2 a5 (u_8.2.1 0) a3 a9 a10 a11 a12 a13 a14 a15 (u_1.2.2.2.1 0) a9 (u_1.2.2.1 0) a10 (u_8.2.2.1 0) a11 (u_8.2.2.1 1) a12 (u_8.2.1 1) a13 (u_8.2.1 2) a14 (u_8.2.1 3) a15 (u_8.2.1 4) a1 a16 a17 a18 x2 x3 x4 x5 x6 x7 x8 a16 a19 a19 f2 a2 f3) H := hP
          replace hD : va_D A (zS_189 cB cC cI cJ a4 f_19 a0 a3 a4 a5 a6 a7 a8 y0 1 y1 y2 a5 (u_8.2.1 0) a3 a9 a10 a11 a12 a13 a14 a15 (u_1.2.2.2.1 0) a9 (u_1.2.2.1 0) a10 (u_8.2.2.1 0) a11 (u_8.2.2.1 1) a12 (u_8.2.1 1) a13 (u_8.2.1 2) a14 (u_8.2.1 3) a15 (u_8.2.1 4) a1 a16 a17 a18 x2 x3 x4 x5 x6 x7 x8 a16 a19 a19 f2 a2 f3) := hD
          refine lv_lload_n (pc := 56) hx hb dX3_putAhead_56 rfl (lv_at hl 0 rfl) ?_
          have k8_0 := tI_1
          exact hret r_9 ((fun _ => 0), (fun k => [(u_8.2.1 0), f_19, (u_8.2.1 1), (u_8.2.1 2), (u_8.2.1 3), (u_8.2.1 4)].getD k (fun _ => 0)), (fun k => [(u_1.2.2.1 0), (u_8.2.2.1 0), (u_8.2.2.1 1)].getD k (fun _ => 0)), (fun k => [1, (u_1.2.2.2.1 0)].getD k 0), (fun _ => 0)) dX3_putAhead_57 ⟨(show ((-1) ≤ r_9.toInt ∧ r_9.toInt ≤ 2147483647000) from (by have k8_0 := tI_1; (first | omega | (unfold zBd at *; omega)))), (show (0 ≤ (1 : Int32).toInt ∧ (1 : Int32).toInt ≤ 1) from (n_c tI_1 (by decide))), (show (0 ≤ ((u_1.2.2.2.1 0) : Int32).toInt ∧ ((u_1.2.2.2.1 0) : Int32).toInt ≤ 4) from hw_4), hw_12, hw_13, (show paA9 (rowF f2 f3 (2 * x2.toInt) (x3.toInt).toNat) (3 * nmK (fun _ => 3) ((u_1.2.2.2.1 0).toInt).toNat) (1000 * x7.toInt) r_9.toInt from pa_of hw_14 (by first | exact (om_1508 hw_15 c_18 ey_16 ey_17) | ((first | omega | (unfold zBd at *; omega))))), (show 0 ≤ (u_1.2.2.2.1 0).toInt ∧ x3.toInt = (u_1.2.2.2.1 0).toInt + 1 from (by first | exact (om_1509 hw_4.1 hw_7 hg_s1) | (have k8_0 := tI_1; (first | omega | (unfold zBd at *; omega)))))⟩ (g_psub (wc := (zS_172 cB cC cI cJ a0 a3 a4 a5 a6 a7 a8 y0 1 y1 y2 a5 (u_8.2.1 0) a4 f_19 a3 a9 a10 a11 a12 a13 a14 a15 (u_1.2.2.2.1 0) a9 (u_1.2.2.1 0) a10 (u_8.2.2.1 0) a11 (u_8.2.2.1 1) a1 a16 a17 a18 x2 x3 x4 x5 x6 x7 x8 a16 a19 a19 f2 a2 f3 a12 (u_8.2.1 1) a13 (u_8.2.1 2) a14 (u_8.2.1 3) a15 (u_8.2.1 4))) hP [1, 2, 0, 3, 4, 5, 6, 11, 12, 13, 14, 7, 8, 9, 10] rfl) (hD.sub (ws' := (zS_172 cB cC cI cJ a0 a3 a4 a5 a6 a7 a8 y0 1 y1 y2 a5 (u_8.2.1 0) a4 f_19 a3 a9 a10 a11 a12 a13 a14 a15 (u_1.2.2.2.1 0) a9 (u_1.2.2.1 0) a10 (u_8.2.2.1 0) a11 (u_8.2.2.1 1) a1 a16 a17 a18 x2 x3 x4 x5 x6 x7 x8 a16 a19 a19 f2 a2 f3 a12 (u_8.2.1 1) a13 (u_8.2.1 2) a14 (u_8.2.1 3) a15 (u_8.2.1 4))) [1, 2, 0, 3, 4, 5, 6, 11, 12, 13, 14, 7, 8, 9, 10] (by decide) rfl) hS
    ·
      as_aux_lemma =>
        refine lv_aload_n (pc := 32) hx hb dX3_putAhead_32 rfl (lv_at hl 1 rfl) ?_
        refine gd_l (pc := 33) (wc := (zS_80 cB cC cI cJ a0 a3 a4 a5 a6 a7 a8 y0 x0 y1 y2)) hP hD hS hA [1] rfl (by decide +kernel) (fun _ => by rfl) (fun hPc hDc => va_runV (As := []) (rest := []) ⟨hx, hb, hml, hown, hts⟩ (k_X3_refuse l D cB cC cI cJ _ a0 a3 a4 a5 a6 a7 a8 x0 y0 y1 y2 h_x0) ⟨gcwB hts tw_1311 tw_12 tw_1308 hd_yX3_refuse ⟨Nat.le_of_ble_eq_true rfl, Nat.le_of_ble_eq_true rfl⟩, hts _ tw_1309, hts _ tw_1310⟩ ⟨gblind, va_recv hK hPc (ci := 3) (q0 := 0) rfl rfl, (gpreS hPc hK hDc hN).2⟩ rfl rfl hl.1 rfl (lv_room (Nat.le_of_ble_eq_true rfl)) dX3_putAhead_33 ⟨Nat.le_of_ble_eq_true rfl, Nat.le_of_ble_eq_true rfl⟩) (fun r_21 u_20 H locs hw_22 hP hD hS => ?_)
        replace hP : va_P D gcl (zS_189 cB cC cI cJ a4 f1 a0 a3 a4 a5 a6 a7 a8 y0 0 y1 y2 a5 (u_8.2.1 0) a3 a9 a10 a11 a12 a13 a14 a15 (u_1.2.2.2.1 0) a9 (u_1.2.2.1 0) a10 (u_8.2.2.1 0) a11 (u_8.2.2.1 1) a12 (u_8.2.1 1) a13 (u_8.2.1 2) a14 (u_8.2.1 3) a15 (u_8.2.1 4) a1 a16 a17 a18 x2 x3 x4 x5 x6 x7 x8 a16 a19 a19 f2 a2 f3) H := hP
        replace hD : va_D A (zS_189 cB cC cI cJ a4 f1 a0 a3 a4 a5 a6 a7 a8 y0 0 y1 y2 a5 (u_8.2.1 0) a3 a9 a10 a11 a12 a13 a14 a15 (u_1.2.2.2.1 0) a9 (u_1.2.2.1 0) a10 (u_8.2.2.1 0) a11 (u_8.2.2.1 1) a12 (u_8.2.1 1) a13 (u_8.2.1 2) a14 (u_8.2.1 3) a15 (u_8.2.1 4) a1 a16 a17 a18 x2 x3 x4 x5 x6 x7 x8 a16 a19 a19 f2 a2 f3) := hD
        obtain ⟨hw_23, hw_24⟩ := hw_22
        replace hw_23 : ((-1) ≤ r_21.toInt ∧ r_21.toInt ≤ (-1)) := hw_23
        replace hw_24 : (r_21.toInt = -1) := hw_24
        have rr_21 := n_rngL r_21
        have k8_0 := tI_0
        exact hret r_21 ((fun _ => 0), (fun k => [(u_8.2.1 0), f1, (u_8.2.1 1), (u_8.2.1 2), (u_8.2.1 3), (u_8.2.1 4)].getD k (fun _ => 0)), (fun k => [(u_1.2.2.1 0), (u_8.2.2.1 0), (u_8.2.2.1 1)].getD k (fun _ => 0)), (fun k => [0, (u_1.2.2.2.1 0)].getD k 0), (fun _ => 0)) dX3_putAhead_36 ⟨(show ((-1) ≤ r_21.toInt ∧ r_21.toInt ≤ 2147483647000) from (by first | exact (om_1510 hw_24) | (have k8_0 := tI_0; (first | omega | (unfold zBd at *; omega))))), (show (0 ≤ (0 : Int32).toInt ∧ (0 : Int32).toInt ≤ 1) from (n_c tI_0 (by decide))), (show (0 ≤ ((u_1.2.2.2.1 0) : Int32).toInt ∧ ((u_1.2.2.2.1 0) : Int32).toInt ≤ 4) from hw_4), hw_12, hw_13, (show paA9 (rowF f2 f3 (2 * x2.toInt) (x3.toInt).toNat) (3 * nmK (fun _ => 3) ((u_1.2.2.2.1 0).toInt).toNat) (1000 * x7.toInt) r_21.toInt from pa_of hw_14 (by first | exact (om_1511 hw_24 c_18 ey_16 ey_17 hw_15) | ((first | omega | (unfold zBd at *; omega))))), (show 0 ≤ (u_1.2.2.2.1 0).toInt ∧ x3.toInt = (u_1.2.2.2.1 0).toInt + 1 from (by first | exact (om_1509 hw_4.1 hw_7 hg_s1) | (have k8_0 := tI_0; (first | omega | (unfold zBd at *; omega)))))⟩ (g_psub (wc := (zS_172 cB cC cI cJ a0 a3 a4 a5 a6 a7 a8 y0 0 y1 y2 a5 (u_8.2.1 0) a4 f1 a3 a9 a10 a11 a12 a13 a14 a15 (u_1.2.2.2.1 0) a9 (u_1.2.2.1 0) a10 (u_8.2.2.1 0) a11 (u_8.2.2.1 1) a1 a16 a17 a18 x2 x3 x4 x5 x6 x7 x8 a16 a19 a19 f2 a2 f3 a12 (u_8.2.1 1) a13 (u_8.2.1 2) a14 (u_8.2.1 3) a15 (u_8.2.1 4))) hP [1, 2, 0, 3, 4, 5, 6, 11, 12, 13, 14, 7, 8, 9, 10] rfl) (hD.sub (ws' := (zS_172 cB cC cI cJ a0 a3 a4 a5 a6 a7 a8 y0 0 y1 y2 a5 (u_8.2.1 0) a4 f1 a3 a9 a10 a11 a12 a13 a14 a15 (u_1.2.2.2.1 0) a9 (u_1.2.2.1 0) a10 (u_8.2.2.1 0) a11 (u_8.2.2.1 1) a1 a16 a17 a18 x2 x3 x4 x5 x6 x7 x8 a16 a19 a19 f2 a2 f3 a12 (u_8.2.1 1) a13 (u_8.2.1 2) a14 (u_8.2.1 3) a15 (u_8.2.1 4))) [1, 2, 0, 3, 4, 5, 6, 11, 12, 13, 14, 7, 8, 9, 10] (by decide) rfl) hS
theorem om_1512 {a : Int} (h0 : (a = -1)) : (a = -1) := by omega
theorem om_1513 {a b : Int} (h0 : (0 ≤ a)) (h1 : (b = a + 1)) : (0 ≤ a ∧ b = a + 1) := by omega
set_option maxHeartbeats 4000000 in
set_option maxRecDepth 100000 in
theorem k_X11_ahead (l : Launch) (D : va_G) (cB cC cI cJ : ClassId) (sz : Nat) (a0 a1 a2 a3 a4 a5 a6 a7 a8 a9 a10 a11 a12 a13 a14 a15 a16 a17 a18 a19 a20 a21 a22 a23 a24 a25 a26 a27 a28 a29 a30 a31 : Nat) (x0 x1 x2 x3 x4 x5 x6 x7 x8 x9 x10 : Int32) (y0 y1 y2 : Int64) (f0 f1 f2 f3 f4 f5 f6 f7 f8 : Nat → Int32) (g0 g1 g2 : Nat → Int64) (h_x0 : zBd x0.toInt 0 14) (h_x1 : zBd x1.toInt 0 1600) (h_x2 : zBd x2.toInt (-1) 8) (h_x3 : zBd x3.toInt (-1) 5) (h_x4 : zBd x4.toInt (-1) 6) (h_x5 : zBd x5.toInt 0 6) (h_x6 : zBd x6.toInt 0 16) (hg_tb : TB f2 99) (h_x9 : zBd x9.toInt 0 1) (h_x10 : zBd x10.toInt 0 4) (hf_f7 : (∀ j, (-3) ≤ (f7 j).toInt ∧ (f7 j).toInt ≤ 24)) (hf_f8 : (∀ j, 0 ≤ (f8 j).toInt ∧ (f8 j).toInt ≤ 23)) : Met l yX11_ahead (.code yX11_ahead cX11_ahead 1 (some .long) :: lw_gd) ({ frames := 4, cells := 0, slots := 0, locals := 108 }) (gPre D [(cB, .byte), (cC, .char), (cI, .int), (cJ, .long)] [.ref a0] (zS_154 cB cC cI cJ a0 a1 a2 a3 a4 a5 a6 a7 a8 a9 a10 x0 a11 a12 a13 a2 a14 x1 a14 f0 a11 a15 a16 a17 x2 x3 x4 x5 x6 x7 x8 a8 f1 a15 a18 a18 f2 a6 a19 a20 a21 a22 a23 a24 y0 x9 y1 y2 a21 f3 a20 f4 a19 a25 a26 a27 a28 a29 a30 a31 x10 a25 g0 a26 g1 a27 g2 a28 f5 a29 f6 a30 f7 a31 f8) sz) (va_Ql (fun r u => ((-1) ≤ r.toInt ∧ r.toInt ≤ 2147483647000) ∧ (0 ≤ (u.2.2.2.1 0).toInt ∧ (u.2.2.2.1 0).toInt ≤ 1) ∧ (0 ≤ (u.2.2.2.1 1).toInt ∧ (u.2.2.2.1 1).toInt ≤ 4) ∧ (∀ j, (-3) ≤ ((u.2.1 5) j).toInt ∧ ((u.2.1 5) j).toInt ≤ 24) ∧ (∀ j, 0 ≤ ((u.2.1 6) j).toInt ∧ ((u.2.1 6) j).toInt ≤ 23) ∧ ((0 : Int32).toInt = 0) ∧ (ahQ r.toInt x1.toInt (taub f0 x1.toInt) x2.toInt x3.toInt x7.toInt f2 6)) (gB D (va_A (zS_154 cB cC cI cJ a0 a1 a2 a3 a4 a5 a6 a7 a8 a9 a10 x0 a11 a12 a13 a2 a14 x1 a14 f0 a11 a15 a16 a17 x2 x3 x4 x5 x6 x7 x8 a8 f1 a15 a18 a18 f2 a6 a19 a20 a21 a22 a23 a24 y0 x9 y1 y2 a21 f3 a20 f4 a19 a25 a26 a27 a28 a29 a30 a31 x10 a25 g0 a26 g1 a27 g2 a28 f5 a29 f6 a30 f7 a31 f8) sz) (fun u : gEx => (zS_154 cB cC cI cJ a0 a1 a2 a3 a4 a5 a6 a7 a8 a9 a10 x0 a11 a12 a13 a2 a14 0 a14 f0 a11 a15 a16 a17 x2 x3 x4 x5 x6 x7 x8 a8 (u.2.1 0) a15 a18 a18 f2 a6 a19 a20 a21 a22 a23 a24 y0 (u.2.2.2.1 0) y1 y2 a21 (u.2.1 1) a20 (u.2.1 2) a19 a25 a26 a27 a28 a29 a30 a31 (u.2.2.2.1 1) a25 (u.2.2.1 0) a26 (u.2.2.1 1) a27 (u.2.2.1 2) a28 (u.2.1 3) a29 (u.2.1 4) a30 (u.2.1 5) a31 (u.2.1 6)))) (va_A (zS_154 cB cC cI cJ a0 a1 a2 a3 a4 a5 a6 a7 a8 a9 a10 x0 a11 a12 a13 a2 a14 x1 a14 f0 a11 a15 a16 a17 x2 x3 x4 x5 x6 x7 x8 a8 f1 a15 a18 a18 f2 a6 a19 a20 a21 a22 a23 a24 y0 x9 y1 y2 a21 f3 a20 f4 a19 a25 a26 a27 a28 a29 a30 a31 x10 a25 g0 a26 g1 a27 g2 a28 f5 a29 f6 a30 f7 a31 f8) sz)) 0 0 (va_A (zS_154 cB cC cI cJ a0 a1 a2 a3 a4 a5 a6 a7 a8 a9 a10 x0 a11 a12 a13 a2 a14 x1 a14 f0 a11 a15 a16 a17 x2 x3 x4 x5 x6 x7 x8 a8 f1 a15 a18 a18 f2 a6 a19 a20 a21 a22 a23 a24 y0 x9 y1 y2 a21 f3 a20 f4 a19 a25 a26 a27 a28 a29 a30 a31 x10 a25 g0 a26 g1 a27 g2 a28 f5 a29 f6 a30 f7 a31 f8) sz) := by
  refine gOf_l (by decide +kernel) (Nat.le_of_ble_eq_true rfl) ?_
  intro p e s m args below meth c ls A Q hx hb hts hown hml hN hK hP hD hA hl hret
  replace hown : s.vm.findClass RX11 = some m.cls := hown
  have hS : va_S A s.heap s.heap [] := va_S.rf
  replace hP : va_P D gcl (zS_154 cB cC cI cJ a0 a1 a2 a3 a4 a5 a6 a7 a8 a9 a10 x0 a11 a12 a13 a2 a14 x1 a14 f0 a11 a15 a16 a17 x2 x3 x4 x5 x6 x7 x8 a8 f1 a15 a18 a18 f2 a6 a19 a20 a21 a22 a23 a24 y0 x9 y1 y2 a21 f3 a20 f4 a19 a25 a26 a27 a28 a29 a30 a31 x10 a25 g0 a26 g1 a27 g2 a28 f5 a29 f6 a30 f7 a31 f8) s.heap := hP
  replace hl : lv_has ls 1 [(0, .ref a0)] := hl
  have rx7 : zBd x7.toInt (-2147483648) 2147483647 := n_rng x7
  have rx8 : zBd x8.toInt (-2147483648) 2147483647 := n_rng x8
  have ry0 := n_rngL y0
  have ry1 := n_rngL y1
  have ry2 := n_rngL y2
  refine lv_aload_n (pc := 0) hx hb dX11_ahead_0 rfl (lv_at hl 0 rfl) ?_
  refine gd_i (pc := 1) (wc := (zS_56 cB cC cI cJ a0 a1 a2 a3 a4 a5 a6 a7 a8 a9 a10 x0 a11 a12 a13 a2 a14 x1 a14 f0 a11 a15 a16 a17 x2 x3 x4 x5 x6 x7 x8 a8 f1)) hP hD hS hA [0, 1, 2, 3, 4] rfl (by decide +kernel) (fun _ => by rfl) (fun hPc hDc => va_runV (As := []) (rest := []) ⟨hx, hb, hml, hown, hts⟩ (k_X11_takeRow l D cB cC cI cJ _ a0 a1 a2 a3 a4 a5 a6 a7 a8 a9 a10 a11 a12 a13 a14 a15 a16 a17 x0 x1 x2 x3 x4 x5 x6 x7 x8 f0 f1 h_x0 h_x1 h_x2 h_x3 h_x4 h_x5 h_x6) ⟨gcwB hts tw_825 tw_1 tw_822 hd_yX11_takeRow ⟨Nat.le_of_ble_eq_true rfl, Nat.le_of_ble_eq_true rfl⟩, hts _ tw_824, hts _ tp_30⟩ ⟨gblind, va_recv hK hPc (ci := 11) (q0 := 0) rfl rfl, (gpreS hPc hK hDc hN).2⟩ rfl rfl hl.1 rfl (lv_room (Nat.le_of_ble_eq_true rfl)) dX11_ahead_1 ⟨Nat.le_of_ble_eq_true rfl, Nat.le_of_ble_eq_true rfl⟩) (fun r_2 u_1 H locs hw_3 hP hD hS => ?_)
  replace hP : va_P D gcl (zS_154 cB cC cI cJ a0 a1 a2 a3 a4 a5 a6 a7 a8 a9 a10 x0 a11 a12 a13 a2 a14 0 a14 f0 a11 a15 a16 a17 x2 x3 x4 x5 x6 x7 x8 a8 (u_1.2.1 0) a15 a18 a18 f2 a6 a19 a20 a21 a22 a23 a24 y0 x9 y1 y2 a21 f3 a20 f4 a19 a25 a26 a27 a28 a29 a30 a31 x10 a25 g0 a26 g1 a27 g2 a28 f5 a29 f6 a30 f7 a31 f8) H := hP
  replace hD : va_D A (zS_154 cB cC cI cJ a0 a1 a2 a3 a4 a5 a6 a7 a8 a9 a10 x0 a11 a12 a13 a2 a14 0 a14 f0 a11 a15 a16 a17 x2 x3 x4 x5 x6 x7 x8 a8 (u_1.2.1 0) a15 a18 a18 f2 a6 a19 a20 a21 a22 a23 a24 y0 x9 y1 y2 a21 f3 a20 f4 a19 a25 a26 a27 a28 a29 a30 a31 x10 a25 g0 a26 g1 a27 g2 a28 f5 a29 f6 a30 f7 a31 f8) := hD
  obtain ⟨hw_4, hw_5, hw_6, hw_7⟩ := hw_3
  replace hw_4 : (0 ≤ r_2.toInt ∧ r_2.toInt ≤ 1) := hw_4
  replace hw_5 : (swQ r_2.toInt x1.toInt (taub f0 x1.toInt) x2.toInt x3.toInt) := hw_5
  replace hw_6 : ((0 : Int32).toInt = 0) := hw_6
  replace hw_7 : (¬ r_2.toInt = 0 → rlQ (u_1.2.1 0) (taub f0 x1.toInt) x3.toInt) := hw_7
  have rr_2 : zBd r_2.toInt (-2147483648) 2147483647 := n_rng r_2
  refine b_if_eq (pc := 4) (tgt := 25) hx hb rfl  dX11_ahead_4 (by decide) (fun c_8 => ?_) (fun c_8 => ?_)
  ·
    as_aux_lemma =>
      refine lv_aload_n (pc := 25) hx hb dX11_ahead_25 rfl (lv_at hl 0 rfl) ?_
      refine va_get (pc := 26) (ci := 11) (v := .ref a6) (C := RX11) (T := TX11) (N := 14) hx hb hts iX11 hown hK hP 0 rfl rfl 5 (by decide) (hts _ tw_425) (fun _ h9 => h9) rfl dX11_ahead_26 ?_
      refine gd_l (pc := 29) (wc := (zS_80 cB cC cI cJ a6 a19 a20 a21 a22 a23 a24 y0 x9 y1 y2)) hP hD hS hA [7] rfl (by decide +kernel) (fun _ => by rfl) (fun hPc hDc => va_runV (As := []) (rest := []) ⟨hx, hb, hml, hown, hts⟩ (k_X3_refuse l D cB cC cI cJ _ a6 a19 a20 a21 a22 a23 a24 x9 y0 y1 y2 h_x9) ⟨gcwB hts tw_1311 tw_12 tw_1313 hd_yX3_refuse ⟨Nat.le_of_ble_eq_true rfl, Nat.le_of_ble_eq_true rfl⟩, hts _ tw_1309, hts _ tw_1310⟩ ⟨gblind, va_recv hK hPc (ci := 3) (q0 := 0) rfl rfl, (gpreS hPc hK hDc hN).2⟩ rfl rfl hl.1 rfl (lv_room (Nat.le_of_ble_eq_true rfl)) dX11_ahead_29 ⟨Nat.le_of_ble_eq_true rfl, Nat.le_of_ble_eq_true rfl⟩) (fun r_10 u_9 H locs hw_11 hP hD hS => ?_)
      replace hP : va_P D gcl (zS_154 cB cC cI cJ a0 a1 a2 a3 a4 a5 a6 a7 a8 a9 a10 x0 a11 a12 a13 a2 a14 0 a14 f0 a11 a15 a16 a17 x2 x3 x4 x5 x6 x7 x8 a8 (u_1.2.1 0) a15 a18 a18 f2 a6 a19 a20 a21 a22 a23 a24 y0 0 y1 y2 a21 f3 a20 f4 a19 a25 a26 a27 a28 a29 a30 a31 x10 a25 g0 a26 g1 a27 g2 a28 f5 a29 f6 a30 f7 a31 f8) H := hP
      replace hD : va_D A (zS_154 cB cC cI cJ a0 a1 a2 a3 a4 a5 a6 a7 a8 a9 a10 x0 a11 a12 a13 a2 a14 0 a14 f0 a11 a15 a16 a17 x2 x3 x4 x5 x6 x7 x8 a8 (u_1.2.1 0) a15 a18 a18 f2 a6 a19 a20 a21 a22 a23 a24 y0 0 y1 y2 a21 f3 a20 f4 a19 a25 a26 a27 a28 a29 a30 a31 x10 a25 g0 a26 g1 a27 g2 a28 f5 a29 f6 a30 f7 a31 f8) := hD
      obtain ⟨hw_12, hw_13⟩ := hw_11
      replace hw_12 : ((-1) ≤ r_10.toInt ∧ r_10.toInt ≤ (-1)) := hw_12
      replace hw_13 : (r_10.toInt = -1) := hw_13
      have rr_10 := n_rngL r_10
      have k8_0 := tI_0
      exact hret r_10 ((fun _ => 0), (fun k => [(u_1.2.1 0), f3, f4, f5, f6, f7, f8].getD k (fun _ => 0)), (fun k => [g0, g1, g2].getD k (fun _ => 0)), (fun k => [0, x10].getD k 0), (fun _ => 0)) dX11_ahead_32 ⟨(show ((-1) ≤ r_10.toInt ∧ r_10.toInt ≤ 2147483647000) from (by first | exact (om_1510 hw_13) | (have k8_0 := tI_0; (first | omega | (unfold zBd at *; omega))))), (show (0 ≤ (0 : Int32).toInt ∧ (0 : Int32).toInt ≤ 1) from (n_c tI_0 (by decide))), (show (0 ≤ (x10 : Int32).toInt ∧ (x10 : Int32).toInt ≤ 4) from h_x10), hf_f7, hf_f8, (show (0 : Int32).toInt = 0 from hw_6), (show ahQ r_10.toInt x1.toInt (taub f0 x1.toInt) x2.toInt x3.toInt x7.toInt f2 6 from ah_no hw_5 (by first | exact (om_31 c_8) | ((first | omega | (unfold zBd at *; omega)))) (by first | exact (om_1512 hw_13) | ((first | omega | (unfold zBd at *; omega)))))⟩ (g_psub (wc := (zS_154 cB cC cI cJ a0 a1 a2 a3 a4 a5 a6 a7 a8 a9 a10 x0 a11 a12 a13 a2 a14 0 a14 f0 a11 a15 a16 a17 x2 x3 x4 x5 x6 x7 x8 a8 (u_1.2.1 0) a15 a18 a18 f2 a6 a19 a20 a21 a22 a23 a24 y0 0 y1 y2 a21 f3 a20 f4 a19 a25 a26 a27 a28 a29 a30 a31 x10 a25 g0 a26 g1 a27 g2 a28 f5 a29 f6 a30 f7 a31 f8)) hP [0, 1, 2, 3, 4, 5, 6, 7, 8, 9, 10, 11, 12, 13, 14, 15, 16, 17] rfl) (hD.sub (ws' := (zS_154 cB cC cI cJ a0 a1 a2 a3 a4 a5 a6 a7 a8 a9 a10 x0 a11 a12 a13 a2 a14 0 a14 f0 a11 a15 a16 a17 x2 x3 x4 x5 x6 x7 x8 a8 (u_1.2.1 0) a15 a18 a18 f2 a6 a19 a20 a21 a22 a23 a24 y0 0 y1 y2 a21 f3 a20 f4 a19 a25 a26 a27 a28 a29 a30 a31 x10 a25 g0 a26 g1 a27 g2 a28 f5 a29 f6 a30 f7 a31 f8)) [0, 1, 2, 3, 4, 5, 6, 7, 8, 9, 10, 11, 12, 13, 14, 15, 16, 17] (by decide) rfl) hS
  ·
    as_aux_lemma =>
      refine lv_aload_n (pc := 7) hx hb dX11_ahead_7 rfl (lv_at hl 0 rfl) ?_
      refine va_get (pc := 8) (ci := 11) (v := .ref a6) (C := RX11) (T := TX11) (N := 14) hx hb hts iX11 hown hK hP 0 rfl rfl 5 (by decide) (hts _ tw_425) (fun _ h9 => h9) rfl dX11_ahead_8 ?_
      refine lv_aload_n (pc := 11) hx hb dX11_ahead_11 rfl (lv_at hl 0 rfl) ?_
      refine va_get (pc := 12) (ci := 11) (v := .ref a11) (C := RX11) (T := TX11) (N := 14) hx hb hts iX11 hown hK hP 0 rfl rfl 11 (by decide) (hts _ tw_431) (fun _ h9 => h9) rfl dX11_ahead_12 ?_
      refine lv_aload_n (pc := 15) hx hb dX11_ahead_15 rfl (lv_at hl 0 rfl) ?_
      refine va_get (pc := 16) (ci := 11) (v := .ref a8) (C := RX11) (T := TX11) (N := 14) hx hb hts iX11 hown hK hP 0 rfl rfl 7 (by decide) (hts _ tw_427) (fun _ h9 => h9) rfl dX11_ahead_16 ?_
      refine gc_l (pc := 19) (wc := (zS_172 cB cC cI cJ a6 a19 a20 a21 a22 a23 a24 y0 x9 y1 y2 a21 f3 a20 f4 a19 a25 a26 a27 a28 a29 a30 a31 x10 a25 g0 a26 g1 a27 g2 a11 a15 a16 a17 x2 x3 x4 x5 x6 x7 x8 a15 a18 a18 f2 a8 (u_1.2.1 0) a28 f5 a29 f6 a30 f7 a31 f8)) (wr := (zS_84 cB cC cI cJ a0 a1 a2 a3 a4 a5 a6 a7 a8 a9 a10 x0 a11 a12 a13 a2 a14 0 a14 f0)) hP hD hS hA [7, 8, 9, 10, 11, 12, 13, 3, 5, 6, 4, 14, 15, 16, 17] [0, 1, 2] rfl rfl (by decide +kernel) (by decide +kernel) (by decide +kernel) (fun hPc hDc => va_runV (As := [.ref a11, .ref a8]) (rest := []) ⟨hx, hb, hml, hown, hts⟩ (k_X3_putAhead_5_e l D cB cC cI cJ _ a6 a11 a8 a19 a20 a21 a22 a23 a24 a25 a26 a27 a28 a29 a30 a31 a15 a16 a17 a18 x9 x10 x2 x3 x4 x5 x6 x7 x8 y0 y1 y2 f3 f4 f2 (u_1.2.1 0) f5 f6 f7 f8 g0 g1 g2 h_x9 h_x10 h_x2 h_x3 h_x4 h_x5 h_x6 (hg_tb) ((by have q := rw_L1 (hw_5.1 (by (first | omega | (unfold zBd at *; omega)))); (first | omega | (unfold zBd at *; omega)))) ((by have q := rw_L1 (hw_5.1 (by (first | omega | (unfold zBd at *; omega)))); (first | omega | (unfold zBd at *; omega)))) (rl_bd hw_5 (by first | exact (om_34 c_8) | ((first | omega | (unfold zBd at *; omega)))) (hw_7 (by first | exact (om_34 c_8) | ((first | omega | (unfold zBd at *; omega))))) (by first | exact (om_503 h_x2.2) | ((first | omega | (unfold zBd at *; omega))))) hf_f7 hf_f8) ⟨gcwB hts tw_1306 tw_12 tw_1303 hd_yX3_putAhead ⟨Nat.le_of_ble_eq_true rfl, Nat.le_of_ble_eq_true rfl⟩, hts _ tw_1304, hts _ tw_1305⟩ ⟨gblind, va_recv hK hPc (ci := 3) (q0 := 0) rfl rfl, (gpreS hPc hK hDc hN).2⟩ rfl rfl hl.1 rfl (lv_room (Nat.le_of_ble_eq_true rfl)) dX11_ahead_19 ⟨Nat.le_of_ble_eq_true rfl, Nat.le_of_ble_eq_true rfl⟩) (fun r_15 u_14 H locs hw_16 hP hD hS => ?_)
      replace hP : va_P D gcl [(a0, .inr (11, [.ref a1, .ref a2, .ref a3, .ref a4, .ref a5, .ref a6, .ref a7, .ref a8, .ref a9, .ref a10, .int x0, .ref a11, .ref a12, .ref a13])), (a2, .inr (9, [.ref a14, .int 0])), (a14, .inl (cB, 1600, .inl f0)), (a6, .inr (3, [.ref a19, .ref a20, .ref a21, .ref a22, .ref a23, .ref a24, .long y0, .int (u_14.2.2.2.1 0), .long y1, .long y2])), (a21, .inl (cI, 5, .inl (u_14.2.1 0))), (a20, .inl (cI, 5, .inl (u_14.2.1 1))), (a19, .inr (10, [.ref a25, .ref a26, .ref a27, .ref a28, .ref a29, .ref a30, .ref a31, .int (u_14.2.2.2.1 1)])), (a25, .inl (cJ, 25, .inr (.inl (u_14.2.2.1 0)))), (a26, .inl (cJ, 5, .inr (.inl (u_14.2.2.1 1)))), (a27, .inl (cJ, 25, .inr (.inl (u_14.2.2.1 2)))), (a11, .inr (1, [.ref a15, .ref a16, .ref a17, .int x2, .int x3, .int x4, .int x5, .int x6, .int x7, .int x8])), (a15, .inr (8, [.ref a18])), (a18, .inl (cI, 30, .inl f2)), (a8, .inl (cI, 5, .inl (u_1.2.1 0))), (a28, .inl (cI, 5, .inl (u_14.2.1 2))), (a29, .inl (cI, 5, .inl (u_14.2.1 3))), (a30, .inl (cI, 5, .inl (u_14.2.1 4))), (a31, .inl (cI, 5, .inl (u_14.2.1 5)))] H := hP
      replace hD : va_D A [(a0, .inr (11, [.ref a1, .ref a2, .ref a3, .ref a4, .ref a5, .ref a6, .ref a7, .ref a8, .ref a9, .ref a10, .int x0, .ref a11, .ref a12, .ref a13])), (a2, .inr (9, [.ref a14, .int 0])), (a14, .inl (cB, 1600, .inl f0)), (a6, .inr (3, [.ref a19, .ref a20, .ref a21, .ref a22, .ref a23, .ref a24, .long y0, .int (u_14.2.2.2.1 0), .long y1, .long y2])), (a21, .inl (cI, 5, .inl (u_14.2.1 0))), (a20, .inl (cI, 5, .inl (u_14.2.1 1))), (a19, .inr (10, [.ref a25, .ref a26, .ref a27, .ref a28, .ref a29, .ref a30, .ref a31, .int (u_14.2.2.2.1 1)])), (a25, .inl (cJ, 25, .inr (.inl (u_14.2.2.1 0)))), (a26, .inl (cJ, 5, .inr (.inl (u_14.2.2.1 1)))), (a27, .inl (cJ, 25, .inr (.inl (u_14.2.2.1 2)))), (a11, .inr (1, [.ref a15, .ref a16, .ref a17, .int x2, .int x3, .int x4, .int x5, .int x6, .int x7, .int x8])), (a15, .inr (8, [.ref a18])), (a18, .inl (cI, 30, .inl f2)), (a8, .inl (cI, 5, .inl (u_1.2.1 0))), (a28, .inl (cI, 5, .inl (u_14.2.1 2))), (a29, .inl (cI, 5, .inl (u_14.2.1 3))), (a30, .inl (cI, 5, .inl (u_14.2.1 4))), (a31, .inl (cI, 5, .inl (u_14.2.1 5)))] := hD
      obtain ⟨hw_17, hw_18, hw_19, hw_20, hw_21, hw_22, hw_23⟩ := hw_16
      replace hw_17 : ((-1) ≤ r_15.toInt ∧ r_15.toInt ≤ 2147483647000) := hw_17
      replace hw_18 : zBd (u_14.2.2.2.1 0).toInt 0 1 := hw_18
      replace hw_19 : zBd (u_14.2.2.2.1 1).toInt 0 4 := hw_19
      replace hw_20 : (∀ j, (-3) ≤ ((u_14.2.1 4) j).toInt ∧ ((u_14.2.1 4) j).toInt ≤ 24) := hw_20
      replace hw_21 : (∀ j, 0 ≤ ((u_14.2.1 5) j).toInt ∧ ((u_14.2.1 5) j).toInt ≤ 23) := hw_21
      replace hw_22 : (paA9 (rowF f2 (u_1.2.1 0) (2 * x2.toInt) (x3.toInt).toNat) (3 * nmK (fun _ => 3) ((u_14.2.2.2.1 1).toInt).toNat) (1000 * x7.toInt) r_15.toInt) := hw_22
      replace hw_23 : (0 ≤ (u_14.2.2.2.1 1).toInt ∧ x3.toInt = (u_14.2.2.2.1 1).toInt + 1) := hw_23
      have rr_15 := n_rngL r_15
      refine lv_goto (pc := 22) (tgt := 32) hx hb dX11_ahead_22 (by decide) ?_
      have k8_0 := tI_0
      exact hret r_15 ((fun _ => 0), (fun k => [(u_1.2.1 0), (u_14.2.1 0), (u_14.2.1 1), (u_14.2.1 2), (u_14.2.1 3), (u_14.2.1 4), (u_14.2.1 5)].getD k (fun _ => 0)), (fun k => [(u_14.2.2.1 0), (u_14.2.2.1 1), (u_14.2.2.1 2)].getD k (fun _ => 0)), (fun k => [(u_14.2.2.2.1 0), (u_14.2.2.2.1 1)].getD k 0), (fun _ => 0)) dX11_ahead_32 ⟨(show ((-1) ≤ r_15.toInt ∧ r_15.toInt ≤ 2147483647000) from hw_17), (show (0 ≤ ((u_14.2.2.2.1 0) : Int32).toInt ∧ ((u_14.2.2.2.1 0) : Int32).toInt ≤ 1) from hw_18), (show (0 ≤ ((u_14.2.2.2.1 1) : Int32).toInt ∧ ((u_14.2.2.2.1 1) : Int32).toInt ≤ 4) from hw_19), hw_20, hw_21, (show (0 : Int32).toInt = 0 from hw_6), (show ahQ r_15.toInt x1.toInt (taub f0 x1.toInt) x2.toInt x3.toInt x7.toInt f2 6 from ah_yes hw_5 (by first | exact (om_34 c_8) | ((first | omega | (unfold zBd at *; omega)))) (hw_7 (by first | exact (om_34 c_8) | ((first | omega | (unfold zBd at *; omega))))) hw_22 (by first | exact (om_1513 hw_23.1 hw_23.2) | ((first | omega | (unfold zBd at *; omega)))))⟩ (g_psub (wc := (zS_154 cB cC cI cJ a0 a1 a2 a3 a4 a5 a6 a7 a8 a9 a10 x0 a11 a12 a13 a2 a14 0 a14 f0 a11 a15 a16 a17 x2 x3 x4 x5 x6 x7 x8 a8 (u_1.2.1 0) a15 a18 a18 f2 a6 a19 a20 a21 a22 a23 a24 y0 (u_14.2.2.2.1 0) y1 y2 a21 (u_14.2.1 0) a20 (u_14.2.1 1) a19 a25 a26 a27 a28 a29 a30 a31 (u_14.2.2.2.1 1) a25 (u_14.2.2.1 0) a26 (u_14.2.2.1 1) a27 (u_14.2.2.1 2) a28 (u_14.2.1 2) a29 (u_14.2.1 3) a30 (u_14.2.1 4) a31 (u_14.2.1 5))) hP [0, 1, 2, 10, 13, 11, 12, 3, 4, 5, 6, 7, 8, 9, 14, 15, 16, 17] rfl) (hD.sub (ws' := (zS_154 cB cC cI cJ a0 a1 a2 a3 a4 a5 a6 a7 a8 a9 a10 x0 a11 a12 a13 a2 a14 0 a14 f0 a11 a15 a16 a17 x2 x3 x4 x5 x6 x7 x8 a8 (u_1.2.1 0) a15 a18 a18 f2 a6 a19 a20 a21 a22 a23 a24 y0 (u_14.2.2.2.1 0) y1 y2 a21 (u_14.2.1 0) a20 (u_14.2.1 1) a19 a25 a26 a27 a28 a29 a30 a31 (u_14.2.2.2.1 1) a25 (u_14.2.2.1 0) a26 (u_14.2.2.1 1) a27 (u_14.2.2.1 2) a28 (u_14.2.1 2) a29 (u_14.2.1 3) a30 (u_14.2.1 4) a31 (u_14.2.1 5))) [0, 1, 2, 10, 13, 11, 12, 3, 4, 5, 6, 7, 8, 9, 14, 15, 16, 17] (by decide) rfl) hS
theorem om_1514 {a b : Int} (h0 : (a = (-1000000000))) : (((a = (-1000000000)) ∨ (a = (-1000000000) ∧ b = 0) ∨ (((-2147483648) ≤ a ∧ a ≤ 2147483647) ∧ ¬ b = 0))) := by omega
theorem om_1515 {a b : Int} (h0 : ((-2147483648) ≤ a)) (h1 : (¬ b = 0)) (h2 : (0 ≤ b)) (h3 : (a ≤ 2147483647)) : (((a = (-1000000000)) ∨ (a = (-1000000000) ∧ b = 0) ∨ (((-2147483648) ≤ a ∧ a ≤ 2147483647) ∧ ¬ b = 0))) := by omega
set_option maxHeartbeats 4000000 in
set_option maxRecDepth 100000 in
theorem k_X11_put (l : Launch) (D : va_G) (cB cC cI cJ : ClassId) (sz : Nat) (a0 a1 a2 a3 a4 a5 a6 a7 a8 a9 a10 a11 a12 a13 a14 a15 a16 a17 a18 a19 a20 a21 a22 : Nat) (x0 x1 x2 x3 x4 x5 x6 x7 x8 x9 : Int32) (y0 y1 y2 : Int64) (f0 : Nat → Int32) (h_x1 : zBd x1.toInt 0 14) (h_x2 : zBd x2.toInt (-1) 8) (h_x3 : zBd x3.toInt (-1) 5) (h_x4 : zBd x4.toInt (-1) 6) (h_x5 : zBd x5.toInt 0 6) (h_x6 : zBd x6.toInt 0 16) (h_x9 : zBd x9.toInt 0 1) : Met l yX11_put (.code yX11_put cX11_put 2 (some .int) :: lw_gd) ({ frames := 1, cells := 0, slots := 0, locals := 21 }) (gPre D [(cB, .byte), (cC, .char), (cI, .int), (cJ, .long)] [.ref a0, .int x0] (zS_147 cB cC cI cJ a0 a1 a2 a3 a4 a5 a6 a7 a8 a9 a10 x1 a11 a12 a13 a11 a14 a15 a16 x2 x3 x4 x5 x6 x7 x8 a6 a17 a18 a19 a20 a21 a22 y0 x9 y1 y2 a18 f0) sz) (va_Qi (fun r u => ((r.toInt = (-1000000000)) ∨ (r.toInt = (-1000000000) ∧ x9.toInt = 0) ∨ (((-2147483648) ≤ r.toInt ∧ r.toInt ≤ 2147483647) ∧ ¬ x9.toInt = 0))) (gB D (va_A (zS_147 cB cC cI cJ a0 a1 a2 a3 a4 a5 a6 a7 a8 a9 a10 x1 a11 a12 a13 a11 a14 a15 a16 x2 x3 x4 x5 x6 x7 x8 a6 a17 a18 a19 a20 a21 a22 y0 x9 y1 y2 a18 f0) sz) (fun u : gEx => (zS_147 cB cC cI cJ a0 a1 a2 a3 a4 a5 a6 a7 a8 a9 a10 x1 a11 a12 a13 a11 a14 a15 a16 x2 x3 x4 x5 x6 x7 x8 a6 a17 a18 a19 a20 a21 a22 y0 x9 y1 y2 a18 f0))) (va_A (zS_147 cB cC cI cJ a0 a1 a2 a3 a4 a5 a6 a7 a8 a9 a10 x1 a11 a12 a13 a11 a14 a15 a16 x2 x3 x4 x5 x6 x7 x8 a6 a17 a18 a19 a20 a21 a22 y0 x9 y1 y2 a18 f0) sz)) 0 0 (va_A (zS_147 cB cC cI cJ a0 a1 a2 a3 a4 a5 a6 a7 a8 a9 a10 x1 a11 a12 a13 a11 a14 a15 a16 x2 x3 x4 x5 x6 x7 x8 a6 a17 a18 a19 a20 a21 a22 y0 x9 y1 y2 a18 f0) sz) := by
  refine gOf_i (by decide +kernel) (Nat.le_of_ble_eq_true rfl) ?_
  intro p e s m args below meth c ls A Q hx hb hts hown hml hN hK hP hD hA hl hret
  replace hown : s.vm.findClass RX11 = some m.cls := hown
  have hS : va_S A s.heap s.heap [] := va_S.rf
  replace hP : va_P D gcl (zS_147 cB cC cI cJ a0 a1 a2 a3 a4 a5 a6 a7 a8 a9 a10 x1 a11 a12 a13 a11 a14 a15 a16 x2 x3 x4 x5 x6 x7 x8 a6 a17 a18 a19 a20 a21 a22 y0 x9 y1 y2 a18 f0) s.heap := hP
  replace hl : lv_has ls 2 [(0, .ref a0), (1, .int x0)] := hl
  have rx0 : zBd x0.toInt (-2147483648) 2147483647 := n_rng x0
  have rx7 : zBd x7.toInt (-2147483648) 2147483647 := n_rng x7
  have rx8 : zBd x8.toInt (-2147483648) 2147483647 := n_rng x8
  have ry0 := n_rngL y0
  have ry1 := n_rngL y1
  have ry2 := n_rngL y2
  refine lv_aload_n (pc := 0) hx hb dX11_put_0 rfl (lv_at hl 0 rfl) ?_
  refine va_get (pc := 1) (ci := 11) (v := .ref a11) (C := RX11) (T := TX11) (N := 14) hx hb hts iX11 hown hK hP 0 rfl rfl 11 (by decide) (hts _ tw_431) (fun _ h9 => h9) rfl dX11_put_1 ?_
  refine lv_iload_n (pc := 4) hx hb dX11_put_4 rfl (lv_at hl 1 rfl) ?_
  refine gd_i (pc := 5) (wc := (zS_5 cB cC cI cJ a11 a14 a15 a16 x2 x3 x4 x5 x6 x7 x8)) hP hD hS hA [1] rfl (by decide +kernel) (fun _ => by rfl) (fun hPc hDc => va_runV (As := [.int x0]) (rest := []) ⟨hx, hb, hml, hown, hts⟩ (k_X1_isSender l D cB cC cI cJ _ a11 a14 a15 a16 x0 x2 x3 x4 x5 x6 x7 x8 h_x2 h_x3 h_x4 h_x5 h_x6) ⟨gcwB hts tw_782 tw_4 tw_779 hd_yX1_isSender ⟨Nat.le_of_ble_eq_true rfl, Nat.le_of_ble_eq_true rfl⟩, hts _ tw_780, hts _ tw_781⟩ ⟨gblind, va_recv hK hPc (ci := 1) (q0 := 0) rfl rfl, (gpreS hPc hK hDc hN).2⟩ rfl rfl hl.1 rfl (lv_room (Nat.le_of_ble_eq_true rfl)) dX11_put_5 ⟨Nat.le_of_ble_eq_true rfl, Nat.le_of_ble_eq_true rfl⟩) (fun r_2 u_1 H locs hw_3 hP hD hS => ?_)
  replace hP : va_P D gcl (zS_147 cB cC cI cJ a0 a1 a2 a3 a4 a5 a6 a7 a8 a9 a10 x1 a11 a12 a13 a11 a14 a15 a16 x2 x3 x4 x5 x6 x7 x8 a6 a17 a18 a19 a20 a21 a22 y0 x9 y1 y2 a18 f0) H := hP
  replace hD : va_D A (zS_147 cB cC cI cJ a0 a1 a2 a3 a4 a5 a6 a7 a8 a9 a10 x1 a11 a12 a13 a11 a14 a15 a16 x2 x3 x4 x5 x6 x7 x8 a6 a17 a18 a19 a20 a21 a22 y0 x9 y1 y2 a18 f0) := hD
  have hw_4 : ((r_2.toInt = 0 ∧ x0.toInt < 0) ∨ (r_2.toInt = 0 ∧ x0.toInt ≥ 0 ∧ x0.toInt ≥ x3.toInt) ∨ (r_2.toInt = 1 ∧ x0.toInt ≥ 0 ∧ x0.toInt < x3.toInt)) := hw_3
  have rr_2 : zBd r_2.toInt (-2147483648) 2147483647 := n_rng r_2
  refine b_if_eq (pc := 8) (tgt := 33) hx hb rfl  dX11_put_8 (by decide) (fun c_5 => ?_) (fun c_5 => ?_)
  ·
    as_aux_lemma =>
      refine lv_ldc (pc := 33) hx hb hown (hts _ tw_783) dX11_put_33 ?_
      exact hret (-1000000000) ((fun _ => 0), (fun _ => (fun _ => 0)), (fun _ => (fun _ => 0)), (fun _ => 0), (fun _ => 0)) dX11_put_35 (show ((((-1000000000) : Int32).toInt = (-1000000000)) ∨ (((-1000000000) : Int32).toInt = (-1000000000) ∧ x9.toInt = 0) ∨ (((-2147483648) ≤ ((-1000000000) : Int32).toInt ∧ ((-1000000000) : Int32).toInt ≤ 2147483647) ∧ ¬ x9.toInt = 0)) from (by first | exact (om_1514 tI_m1000000000) | (have k9 := tI_m1000000000; (first | omega | (unfold zBd at *; omega))))) (g_psub (wc := (zS_147 cB cC cI cJ a0 a1 a2 a3 a4 a5 a6 a7 a8 a9 a10 x1 a11 a12 a13 a11 a14 a15 a16 x2 x3 x4 x5 x6 x7 x8 a6 a17 a18 a19 a20 a21 a22 y0 x9 y1 y2 a18 f0)) hP [0, 1, 2, 3] rfl) (hD.sub (ws' := (zS_147 cB cC cI cJ a0 a1 a2 a3 a4 a5 a6 a7 a8 a9 a10 x1 a11 a12 a13 a11 a14 a15 a16 x2 x3 x4 x5 x6 x7 x8 a6 a17 a18 a19 a20 a21 a22 y0 x9 y1 y2 a18 f0)) [0, 1, 2, 3] (by decide) rfl) hS
  ·
    as_aux_lemma =>
      refine lv_aload_n (pc := 11) hx hb dX11_put_11 rfl (lv_at hl 0 rfl) ?_
      refine va_get (pc := 12) (ci := 11) (v := .ref a6) (C := RX11) (T := TX11) (N := 14) hx hb hts iX11 hown hK hP 0 rfl rfl 5 (by decide) (hts _ tw_425) (fun _ h9 => h9) rfl dX11_put_12 ?_
      refine va_getN (pc := 15) (ci := 3) (v := .int x9) (C := RX3) (T := TX3) (N := 10) hx hb hts iX3 hown hK hP 2 rfl rfl 7 (by decide) (va_Nw.use rfl (hN _ tn_357)) (fun _ h9 => h9) rfl dX11_put_15 ?_
      refine b_if_eq (pc := 18) (tgt := 33) hx hb rfl  dX11_put_18 (by decide) (fun c_6 => ?_) (fun c_6 => ?_)
      ·
        as_aux_lemma =>
          refine lv_ldc (pc := 33) hx hb hown (hts _ tw_783) dX11_put_33 ?_
          exact hret (-1000000000) ((fun _ => 0), (fun _ => (fun _ => 0)), (fun _ => (fun _ => 0)), (fun _ => 0), (fun _ => 0)) dX11_put_35 (show ((((-1000000000) : Int32).toInt = (-1000000000)) ∨ (((-1000000000) : Int32).toInt = (-1000000000) ∧ x9.toInt = 0) ∨ (((-2147483648) ≤ ((-1000000000) : Int32).toInt ∧ ((-1000000000) : Int32).toInt ≤ 2147483647) ∧ ¬ x9.toInt = 0)) from (by first | exact (om_1514 tI_m1000000000) | (have k9 := tI_m1000000000; (first | omega | (unfold zBd at *; omega))))) (g_psub (wc := (zS_147 cB cC cI cJ a0 a1 a2 a3 a4 a5 a6 a7 a8 a9 a10 x1 a11 a12 a13 a11 a14 a15 a16 x2 x3 x4 x5 x6 x7 x8 a6 a17 a18 a19 a20 a21 a22 y0 x9 y1 y2 a18 f0)) hP [0, 1, 2, 3] rfl) (hD.sub (ws' := (zS_147 cB cC cI cJ a0 a1 a2 a3 a4 a5 a6 a7 a8 a9 a10 x1 a11 a12 a13 a11 a14 a15 a16 x2 x3 x4 x5 x6 x7 x8 a6 a17 a18 a19 a20 a21 a22 y0 x9 y1 y2 a18 f0)) [0, 1, 2, 3] (by decide) rfl) hS
      ·
        as_aux_lemma =>
          refine lv_aload_n (pc := 21) hx hb dX11_put_21 rfl (lv_at hl 0 rfl) ?_
          refine va_get (pc := 22) (ci := 11) (v := .ref a6) (C := RX11) (T := TX11) (N := 14) hx hb hts iX11 hown hK hP 0 rfl rfl 5 (by decide) (hts _ tw_425) (fun _ h9 => h9) rfl dX11_put_22 ?_
          refine va_getN (pc := 25) (ci := 3) (v := .ref a18) (C := RX3) (T := TX3) (N := 10) hx hb hts iX3 hown hK hP 2 rfl rfl 1 (by decide) (va_Nw.use rfl (hN _ tn_350)) (fun _ h9 => h9) rfl dX11_put_25 ?_
          refine lv_iload_n (pc := 28) hx hb dX11_put_28 rfl (lv_at hl 1 rfl) ?_
          refine va_iald (pc := 29) hx hb hK hP 3 2 rfl rfl (n_in rfl (by first | exact (om_1345 hw_4 c_5) | ((first | omega | (unfold zBd at *; omega)))) (by first | exact (om_1367 hw_4 c_5 h_x3.2) | ((first | omega | (unfold zBd at *; omega))))) dX11_put_29 ?_
          refine lv_topi (fun x_7 ex_7 => ?_)
          have rx_7 : zBd x_7.toInt (-2147483648) 2147483647 := n_rng x_7
          refine lv_goto (pc := 30) (tgt := 35) hx hb dX11_put_30 (by decide) ?_
          exact hret x_7 ((fun _ => 0), (fun _ => (fun _ => 0)), (fun _ => (fun _ => 0)), (fun _ => 0), (fun _ => 0)) dX11_put_35 (show ((x_7.toInt = (-1000000000)) ∨ (x_7.toInt = (-1000000000) ∧ x9.toInt = 0) ∨ (((-2147483648) ≤ x_7.toInt ∧ x_7.toInt ≤ 2147483647) ∧ ¬ x9.toInt = 0)) from (by first | exact (om_1515 rx_7.1 c_6 h_x9.1 rx_7.2) | ((first | omega | (unfold zBd at *; omega))))) (g_psub (wc := (zS_147 cB cC cI cJ a0 a1 a2 a3 a4 a5 a6 a7 a8 a9 a10 x1 a11 a12 a13 a11 a14 a15 a16 x2 x3 x4 x5 x6 x7 x8 a6 a17 a18 a19 a20 a21 a22 y0 x9 y1 y2 a18 f0)) hP [0, 1, 2, 3] rfl) (hD.sub (ws' := (zS_147 cB cC cI cJ a0 a1 a2 a3 a4 a5 a6 a7 a8 a9 a10 x1 a11 a12 a13 a11 a14 a15 a16 x2 x3 x4 x5 x6 x7 x8 a6 a17 a18 a19 a20 a21 a22 y0 x9 y1 y2 a18 f0)) [0, 1, 2, 3] (by decide) rfl) hS
set_option maxHeartbeats 4000000 in
set_option maxRecDepth 100000 in
theorem k_X11_worth (l : Launch) (D : va_G) (cB cC cI cJ : ClassId) (sz : Nat) (a0 a1 a2 a3 a4 a5 a6 a7 a8 a9 a10 a11 a12 a13 a14 a15 a16 a17 a18 a19 a20 a21 a22 : Nat) (x0 x1 x2 x3 x4 x5 x6 x7 x8 x9 x10 : Int32) (f0 f1 f2 f3 f4 f5 : Nat → Int32) (h_x1 : zBd x1.toInt 0 14) (h_x2 : zBd x2.toInt (-1) 8) (h_x3 : zBd x3.toInt (-1) 5) (h_x4 : zBd x4.toInt (-1) 6) (h_x5 : zBd x5.toInt 0 6) (h_x6 : zBd x6.toInt 0 16) (h_x9 : zBd x9.toInt 0 1600) (h_x10 : zBd x10.toInt 0 8) (hf_f1 : (∀ j, 0 ≤ (f1 j).toInt ∧ (f1 j).toInt ≤ 1600)) (hf_f2 : (∀ j, 0 ≤ (f2 j).toInt ∧ (f2 j).toInt ≤ 1600)) (hf_f5 : (∀ j, 0 ≤ (f5 j).toInt ∧ (f5 j).toInt ≤ 1600)) : Met l yX11_worth (.code yX11_worth cX11_worth 2 (some .int) :: lw_gd) ({ frames := 6, cells := 0, slots := 0, locals := 138 }) (gPre D [(cB, .byte), (cC, .char), (cI, .int), (cJ, .long)] [.ref a0, .int x0] (zS_155 cB cC cI cJ a0 a1 a2 a3 a4 a5 a6 a7 a8 a9 a10 x1 a11 a12 a13 a11 a14 a15 a16 x2 x3 x4 x5 x6 x7 x8 a14 a17 a17 f0 a15 a18 a19 a20 a21 a22 x9 x10 a20 f1 a21 f2 a22 f3 a18 f4 a19 f5) sz) (va_Qi (fun r u => ((r.toInt = (-1000000000)) ∨ (((-2147483648) ≤ r.toInt ∧ r.toInt ≤ 2147483647)))) (gB D (va_A (zS_155 cB cC cI cJ a0 a1 a2 a3 a4 a5 a6 a7 a8 a9 a10 x1 a11 a12 a13 a11 a14 a15 a16 x2 x3 x4 x5 x6 x7 x8 a14 a17 a17 f0 a15 a18 a19 a20 a21 a22 x9 x10 a20 f1 a21 f2 a22 f3 a18 f4 a19 f5) sz) (fun u : gEx => (zS_155 cB cC cI cJ a0 a1 a2 a3 a4 a5 a6 a7 a8 a9 a10 x1 a11 a12 a13 a11 a14 a15 a16 x2 x3 x4 x5 x6 x7 x8 a14 a17 a17 f0 a15 a18 a19 a20 a21 a22 x9 x10 a20 f1 a21 f2 a22 (u.2.1 0) a18 f4 a19 f5))) (va_A (zS_155 cB cC cI cJ a0 a1 a2 a3 a4 a5 a6 a7 a8 a9 a10 x1 a11 a12 a13 a11 a14 a15 a16 x2 x3 x4 x5 x6 x7 x8 a14 a17 a17 f0 a15 a18 a19 a20 a21 a22 x9 x10 a20 f1 a21 f2 a22 f3 a18 f4 a19 f5) sz)) 0 0 (va_A (zS_155 cB cC cI cJ a0 a1 a2 a3 a4 a5 a6 a7 a8 a9 a10 x1 a11 a12 a13 a11 a14 a15 a16 x2 x3 x4 x5 x6 x7 x8 a14 a17 a17 f0 a15 a18 a19 a20 a21 a22 x9 x10 a20 f1 a21 f2 a22 f3 a18 f4 a19 f5) sz) := by
  refine gOf_i (by decide +kernel) (Nat.le_of_ble_eq_true rfl) ?_
  intro p e s m args below meth c ls A Q hx hb hts hown hml hN hK hP hD hA hl hret
  replace hown : s.vm.findClass RX11 = some m.cls := hown
  have hS : va_S A s.heap s.heap [] := va_S.rf
  replace hP : va_P D gcl (zS_155 cB cC cI cJ a0 a1 a2 a3 a4 a5 a6 a7 a8 a9 a10 x1 a11 a12 a13 a11 a14 a15 a16 x2 x3 x4 x5 x6 x7 x8 a14 a17 a17 f0 a15 a18 a19 a20 a21 a22 x9 x10 a20 f1 a21 f2 a22 f3 a18 f4 a19 f5) s.heap := hP
  replace hl : lv_has ls 2 [(0, .ref a0), (1, .int x0)] := hl
  have rx0 : zBd x0.toInt (-2147483648) 2147483647 := n_rng x0
  have rx7 : zBd x7.toInt (-2147483648) 2147483647 := n_rng x7
  have rx8 : zBd x8.toInt (-2147483648) 2147483647 := n_rng x8
  refine lv_aload_n (pc := 0) hx hb dX11_worth_0 rfl (lv_at hl 0 rfl) ?_
  refine va_get (pc := 1) (ci := 11) (v := .ref a11) (C := RX11) (T := TX11) (N := 14) hx hb hts iX11 hown hK hP 0 rfl rfl 11 (by decide) (hts _ tw_431) (fun _ h9 => h9) rfl dX11_worth_1 ?_
  refine lv_iload_n (pc := 4) hx hb dX11_worth_4 rfl (lv_at hl 1 rfl) ?_
  refine gd_i (pc := 5) (wc := (zS_5 cB cC cI cJ a11 a14 a15 a16 x2 x3 x4 x5 x6 x7 x8)) hP hD hS hA [1] rfl (by decide +kernel) (fun _ => by rfl) (fun hPc hDc => va_runV (As := [.int x0]) (rest := []) ⟨hx, hb, hml, hown, hts⟩ (k_X1_isSender l D cB cC cI cJ _ a11 a14 a15 a16 x0 x2 x3 x4 x5 x6 x7 x8 h_x2 h_x3 h_x4 h_x5 h_x6) ⟨gcwB hts tw_782 tw_4 tw_779 hd_yX1_isSender ⟨Nat.le_of_ble_eq_true rfl, Nat.le_of_ble_eq_true rfl⟩, hts _ tw_780, hts _ tw_781⟩ ⟨gblind, va_recv hK hPc (ci := 1) (q0 := 0) rfl rfl, (gpreS hPc hK hDc hN).2⟩ rfl rfl hl.1 rfl (lv_room (Nat.le_of_ble_eq_true rfl)) dX11_worth_5 ⟨Nat.le_of_ble_eq_true rfl, Nat.le_of_ble_eq_true rfl⟩) (fun r_2 u_1 H locs hw_3 hP hD hS => ?_)
  replace hP : va_P D gcl (zS_155 cB cC cI cJ a0 a1 a2 a3 a4 a5 a6 a7 a8 a9 a10 x1 a11 a12 a13 a11 a14 a15 a16 x2 x3 x4 x5 x6 x7 x8 a14 a17 a17 f0 a15 a18 a19 a20 a21 a22 x9 x10 a20 f1 a21 f2 a22 f3 a18 f4 a19 f5) H := hP
  replace hD : va_D A (zS_155 cB cC cI cJ a0 a1 a2 a3 a4 a5 a6 a7 a8 a9 a10 x1 a11 a12 a13 a11 a14 a15 a16 x2 x3 x4 x5 x6 x7 x8 a14 a17 a17 f0 a15 a18 a19 a20 a21 a22 x9 x10 a20 f1 a21 f2 a22 f3 a18 f4 a19 f5) := hD
  have hw_4 : ((r_2.toInt = 0 ∧ x0.toInt < 0) ∨ (r_2.toInt = 0 ∧ x0.toInt ≥ 0 ∧ x0.toInt ≥ x3.toInt) ∨ (r_2.toInt = 1 ∧ x0.toInt ≥ 0 ∧ x0.toInt < x3.toInt)) := hw_3
  have rr_2 : zBd r_2.toInt (-2147483648) 2147483647 := n_rng r_2
  refine b_if_eq (pc := 8) (tgt := 22) hx hb rfl  dX11_worth_8 (by decide) (fun c_5 => ?_) (fun c_5 => ?_)
  ·
    refine lv_ldc (pc := 22) hx hb hown (hts _ tw_783) dX11_worth_22 ?_
    exact hret (-1000000000) ((fun _ => 0), (fun k => [f3].getD k (fun _ => 0)), (fun _ => (fun _ => 0)), (fun _ => 0), (fun _ => 0)) dX11_worth_24 (show ((((-1000000000) : Int32).toInt = (-1000000000)) ∨ (((-2147483648) ≤ ((-1000000000) : Int32).toInt ∧ ((-1000000000) : Int32).toInt ≤ 2147483647))) from (by first | exact (om_1344 tI_m1000000000) | (have k9 := tI_m1000000000; (first | omega | (unfold zBd at *; omega))))) (g_psub (wc := (zS_155 cB cC cI cJ a0 a1 a2 a3 a4 a5 a6 a7 a8 a9 a10 x1 a11 a12 a13 a11 a14 a15 a16 x2 x3 x4 x5 x6 x7 x8 a14 a17 a17 f0 a15 a18 a19 a20 a21 a22 x9 x10 a20 f1 a21 f2 a22 f3 a18 f4 a19 f5)) hP [0, 1, 2, 3, 4, 5, 6, 7, 8, 9] rfl) (hD.sub (ws' := (zS_155 cB cC cI cJ a0 a1 a2 a3 a4 a5 a6 a7 a8 a9 a10 x1 a11 a12 a13 a11 a14 a15 a16 x2 x3 x4 x5 x6 x7 x8 a14 a17 a17 f0 a15 a18 a19 a20 a21 a22 x9 x10 a20 f1 a21 f2 a22 f3 a18 f4 a19 f5)) [0, 1, 2, 3, 4, 5, 6, 7, 8, 9] (by decide) rfl) hS
  ·
    refine lv_aload_n (pc := 11) hx hb dX11_worth_11 rfl (lv_at hl 0 rfl) ?_
    refine va_get (pc := 12) (ci := 11) (v := .ref a11) (C := RX11) (T := TX11) (N := 14) hx hb hts iX11 hown hK hP 0 rfl rfl 11 (by decide) (hts _ tw_431) (fun _ h9 => h9) rfl dX11_worth_12 ?_
    refine lv_iload_n (pc := 15) hx hb dX11_worth_15 rfl (lv_at hl 1 rfl) ?_
    refine gc_i (pc := 16) (wc := (zS_142 cB cC cI cJ a11 a14 a15 a16 x2 x3 x4 x5 x6 x7 x8 a14 a17 a17 f0 a15 a18 a19 a20 a21 a22 x9 x10 a20 f1 a21 f2 a22 f3 a18 f4 a19 f5)) (wr := (zS_183 cB cC cI cJ a0 a1 a2 a3 a4 a5 a6 a7 a8 a9 a10 x1 a11 a12 a13)) hP hD hS hA [1, 2, 3, 4, 5, 6, 7, 8, 9] [0] rfl rfl (by decide +kernel) (by decide +kernel) (by decide +kernel) (fun hPc hDc => va_runV (As := [.int x0]) (rest := []) ⟨hx, hb, hml, hown, hts⟩ (k_X1_worthOf l D cB cC cI cJ _ a11 a14 a15 a16 a17 a18 a19 a20 a21 a22 x0 x2 x3 x4 x5 x6 x7 x8 x9 x10 f0 f1 f2 f3 f4 f5 (by first | exact (om_1337 hw_4 c_5 h_x3.2) | ((first | omega | (unfold zBd at *; omega)))) h_x2 h_x3 h_x4 h_x5 h_x6 h_x9 h_x10 hf_f1 hf_f2 hf_f5) ⟨gcwB hts tw_1325 tw_4 tw_1322 hd_yX1_worthOf ⟨Nat.le_of_ble_eq_true rfl, Nat.le_of_ble_eq_true rfl⟩, hts _ tw_1323, hts _ tw_1324⟩ ⟨gblind, va_recv hK hPc (ci := 1) (q0 := 0) rfl rfl, (gpreS hPc hK hDc hN).2⟩ rfl rfl hl.1 rfl (lv_room (Nat.le_of_ble_eq_true rfl)) dX11_worth_16 ⟨Nat.le_of_ble_eq_true rfl, Nat.le_of_ble_eq_true rfl⟩) (fun r_7 u_6 H locs hw_8 hP hD hS => ?_)
    replace hP : va_P D gcl (zS_155 cB cC cI cJ a0 a1 a2 a3 a4 a5 a6 a7 a8 a9 a10 x1 a11 a12 a13 a11 a14 a15 a16 x2 x3 x4 x5 x6 x7 x8 a14 a17 a17 f0 a15 a18 a19 a20 a21 a22 x9 x10 a20 f1 a21 f2 a22 (u_6.2.1 0) a18 f4 a19 f5) H := hP
    replace hD : va_D A (zS_155 cB cC cI cJ a0 a1 a2 a3 a4 a5 a6 a7 a8 a9 a10 x1 a11 a12 a13 a11 a14 a15 a16 x2 x3 x4 x5 x6 x7 x8 a14 a17 a17 f0 a15 a18 a19 a20 a21 a22 x9 x10 a20 f1 a21 f2 a22 (u_6.2.1 0) a18 f4 a19 f5) := hD
    have hw_9 : ((((-2147483648) ≤ r_7.toInt ∧ r_7.toInt ≤ 2147483647))) := hw_8
    have rr_7 : zBd r_7.toInt (-2147483648) 2147483647 := n_rng r_7
    refine lv_goto (pc := 19) (tgt := 24) hx hb dX11_worth_19 (by decide) ?_
    exact hret r_7 ((fun _ => 0), (fun k => [(u_6.2.1 0)].getD k (fun _ => 0)), (fun _ => (fun _ => 0)), (fun _ => 0), (fun _ => 0)) dX11_worth_24 (show ((r_7.toInt = (-1000000000)) ∨ (((-2147483648) ≤ r_7.toInt ∧ r_7.toInt ≤ 2147483647))) from (by first | exact (om_1347 rr_7.1 rr_7.2) | ((first | omega | (unfold zBd at *; omega))))) (g_psub (wc := (zS_155 cB cC cI cJ a0 a1 a2 a3 a4 a5 a6 a7 a8 a9 a10 x1 a11 a12 a13 a11 a14 a15 a16 x2 x3 x4 x5 x6 x7 x8 a14 a17 a17 f0 a15 a18 a19 a20 a21 a22 x9 x10 a20 f1 a21 f2 a22 (u_6.2.1 0) a18 f4 a19 f5)) hP [0, 1, 2, 3, 4, 5, 6, 7, 8, 9] rfl) (hD.sub (ws' := (zS_155 cB cC cI cJ a0 a1 a2 a3 a4 a5 a6 a7 a8 a9 a10 x1 a11 a12 a13 a11 a14 a15 a16 x2 x3 x4 x5 x6 x7 x8 a14 a17 a17 f0 a15 a18 a19 a20 a21 a22 x9 x10 a20 f1 a21 f2 a22 (u_6.2.1 0) a18 f4 a19 f5)) [0, 1, 2, 3, 4, 5, 6, 7, 8, 9] (by decide) rfl) hS
set_option maxHeartbeats 4000000 in
set_option maxRecDepth 100000 in
theorem k_X11_worthTogether (l : Launch) (D : va_G) (cB cC cI cJ : ClassId) (sz : Nat) (a0 a1 a2 a3 a4 a5 a6 a7 a8 a9 a10 a11 a12 a13 a14 a15 a16 : Nat) (x0 x1 x2 x3 x4 x5 x6 x7 x8 : Int32) (f0 : Nat → Int32) (h_x1 : zBd x1.toInt 0 14) (h_x2 : zBd x2.toInt (-1) 8) (h_x3 : zBd x3.toInt (-1) 5) (h_x4 : zBd x4.toInt (-1) 6) (h_x5 : zBd x5.toInt 0 6) (h_x6 : zBd x6.toInt 0 16) : Met l yX11_worthTogether (.code yX11_worthTogether cX11_worthTogether 4 (some .int) :: lw_gd) ({ frames := 0, cells := 0, slots := 0, locals := 0 }) (gPre D [(cB, .byte), (cC, .char), (cI, .int), (cJ, .long)] [.ref a0, .int x0] (zS_181 cB cC cI cJ a0 a1 a2 a3 a4 a5 a6 a7 a8 a9 a10 x1 a11 a12 a13 a11 a14 a15 a16 x2 x3 x4 x5 x6 x7 x8 a9 f0) sz) (va_Qi (fun r u => ((((-2147483648) ≤ r.toInt ∧ r.toInt ≤ 2147483647) ∧ ((-1) ≤ x3.toInt ∧ x3.toInt ≤ 5)))) (gB D (va_A (zS_181 cB cC cI cJ a0 a1 a2 a3 a4 a5 a6 a7 a8 a9 a10 x1 a11 a12 a13 a11 a14 a15 a16 x2 x3 x4 x5 x6 x7 x8 a9 f0) sz) (fun u : gEx => (zS_181 cB cC cI cJ a0 a1 a2 a3 a4 a5 a6 a7 a8 a9 a10 x1 a11 a12 a13 a11 a14 a15 a16 x2 x3 x4 x5 x6 x7 x8 a9 f0))) (va_A (zS_181 cB cC cI cJ a0 a1 a2 a3 a4 a5 a6 a7 a8 a9 a10 x1 a11 a12 a13 a11 a14 a15 a16 x2 x3 x4 x5 x6 x7 x8 a9 f0) sz)) 0 0 (va_A (zS_181 cB cC cI cJ a0 a1 a2 a3 a4 a5 a6 a7 a8 a9 a10 x1 a11 a12 a13 a11 a14 a15 a16 x2 x3 x4 x5 x6 x7 x8 a9 f0) sz) := by
  refine gOf_i (by decide +kernel) (Nat.le_of_ble_eq_true rfl) ?_
  intro p e s m args below meth c ls A Q hx hb hts hown hml hN hK hP hD hA hl hret
  replace hown : s.vm.findClass RX11 = some m.cls := hown
  have hS : va_S A s.heap s.heap [] := va_S.rf
  replace hP : va_P D gcl (zS_181 cB cC cI cJ a0 a1 a2 a3 a4 a5 a6 a7 a8 a9 a10 x1 a11 a12 a13 a11 a14 a15 a16 x2 x3 x4 x5 x6 x7 x8 a9 f0) s.heap := hP
  replace hl : lv_has ls 4 [(0, .ref a0), (1, .int x0)] := hl
  have rx0 : zBd x0.toInt (-2147483648) 2147483647 := n_rng x0
  have rx7 : zBd x7.toInt (-2147483648) 2147483647 := n_rng x7
  have rx8 : zBd x8.toInt (-2147483648) 2147483647 := n_rng x8
  refine lv_iconst (pc := 0) (v := 0) hx hb dX11_worthTogether_0 (by decide) ?_
  refine lv_istore_n (pc := 1) (lv' := [(2, .int 0), (0, .ref a0), (1, .int x0)]) hx hb dX11_worthTogether_1 rfl hl (by decide) rfl (fun ls hl => ?_)
  refine lv_iconst (pc := 2) (v := 0) hx hb dX11_worthTogether_2 (by decide) ?_
  refine lv_istore_n (pc := 3) (lv' := [(3, .int 0), (2, .int 0), (0, .ref a0), (1, .int x0)]) hx hb dX11_worthTogether_3 rfl hl (by decide) rfl (fun ls hl => ?_)
  have lp_5 : ∀ (n : Nat) (x_1 x_3 : Int32) (H : Heap) (locs : List Loc) (ls : Array Slot), (0 ≤ x_1.toInt ∧ x_1.toInt ≤ 2147483647) → (2147483647 - x_1.toInt).toNat < n → va_P D gcl (zS_181 cB cC cI cJ a0 a1 a2 a3 a4 a5 a6 a7 a8 a9 a10 x1 a11 a12 a13 a11 a14 a15 a16 x2 x3 x4 x5 x6 x7 x8 a9 f0) H → va_D A (zS_181 cB cC cI cJ a0 a1 a2 a3 a4 a5 a6 a7 a8 a9 a10 x1 a11 a12 a13 a11 a14 a15 a16 x2 x3 x4 x5 x6 x7 x8 a9 f0) → va_S A s.heap H locs → lv_has ls 4 [(3, .int x_1), (2, .int x_3), (0, .ref a0), (1, .int x0)] → W p l e ({ frames := 0, cells := 0, slots := 0, locals := 0 }) s m args below meth c H locs 0 0 Q (F0 m 4 ls []) := by
    intro n
    induction n with
    | zero => intro x_1 x_3 H locs ls hi_2 hmu; exact absurd hmu (Nat.not_lt_zero _)
    | succ n ih_lp_5 =>
      intro x_1 x_3 H locs ls hi_2 hmu_lp_5 hP hD hS hl
      have hi_4 := n_rng x_3
      refine lv_iload_n (pc := 4) hx hb dX11_worthTogether_4 rfl (lv_at hl 0 rfl) ?_
      refine lv_aload_n (pc := 5) hx hb dX11_worthTogether_5 rfl (lv_at hl 2 rfl) ?_
      refine va_get (pc := 6) (ci := 11) (v := .ref a11) (C := RX11) (T := TX11) (N := 14) hx hb hts iX11 hown hK hP 0 rfl rfl 11 (by decide) (hts _ tw_431) (fun _ h9 => h9) rfl dX11_worthTogether_6 ?_
      refine va_getN (pc := 9) (ci := 1) (v := .int x3) (C := RX1) (T := TX1) (N := 10) hx hb hts iX1 hown hK hP 1 rfl rfl 4 (by decide) (va_Nw.use rfl (hN _ tn_123)) (fun _ h9 => h9) rfl dX11_worthTogether_9 ?_
      refine b_icmp_ge (pc := 12) (tgt := 39) hx hb rfl rfl  dX11_worthTogether_12 (by decide) (fun c_6 => ?_) (fun c_6 => ?_)
      ·
        as_aux_lemma =>
          refine lv_iload_n (pc := 39) hx hb dX11_worthTogether_39 rfl (lv_at hl 1 rfl) ?_
          exact hret x_3 ((fun _ => 0), (fun _ => (fun _ => 0)), (fun _ => (fun _ => 0)), (fun _ => 0), (fun _ => 0)) dX11_worthTogether_40 (show ((((-2147483648) ≤ x_3.toInt ∧ x_3.toInt ≤ 2147483647) ∧ ((-1) ≤ x3.toInt ∧ x3.toInt ≤ 5))) from (by first | exact (om_1020 hi_4.1 hi_4.2 h_x3.1 h_x3.2) | ((first | omega | (unfold zBd at *; omega))))) (g_psub (wc := (zS_181 cB cC cI cJ a0 a1 a2 a3 a4 a5 a6 a7 a8 a9 a10 x1 a11 a12 a13 a11 a14 a15 a16 x2 x3 x4 x5 x6 x7 x8 a9 f0)) hP [0, 1, 2] rfl) (hD.sub (ws' := (zS_181 cB cC cI cJ a0 a1 a2 a3 a4 a5 a6 a7 a8 a9 a10 x1 a11 a12 a13 a11 a14 a15 a16 x2 x3 x4 x5 x6 x7 x8 a9 f0)) [0, 1, 2] (by decide) rfl) hS
      ·
        as_aux_lemma =>
          refine lv_iload_n (pc := 15) hx hb dX11_worthTogether_15 rfl (lv_at hl 3 rfl) ?_
          refine lv_iload_n (pc := 16) hx hb dX11_worthTogether_16 rfl (lv_at hl 0 rfl) ?_
          refine lv_ishr (pc := 17) hx hb dX11_worthTogether_17 ?_
          refine lv_topi (fun x_7 _ => ?_)
          have rx_7 : zBd x_7.toInt (-2147483648) 2147483647 := n_rng x_7
          refine lv_iconst (pc := 18) (v := 1) hx hb dX11_worthTogether_18 (by decide) ?_
          refine b_iand (pc := 19) (M := 1) hx hb 1 (by decide +kernel) (by decide) (by decide) dX11_worthTogether_19 (fun x_8 ex_8 => ?_)
          have rx_8 : (0 ≤ x_8.toInt ∧ x_8.toInt ≤ 1) := ex_8
          refine lv_iconst (pc := 20) (v := 1) hx hb dX11_worthTogether_20 (by decide) ?_
          refine b_icmp_ne (pc := 21) (tgt := 33) hx hb rfl tI_1  dX11_worthTogether_21 (by decide) (fun c_9 => ?_) (fun c_9 => ?_)
          ·
            as_aux_lemma =>
              refine b_iinc (pc := 33) hx hb dX11_worthTogether_33 hl (k := 0) rfl rfl tI_1 (by first | exact (om_2 hi_2.1) | ((first | omega | (unfold zBd at *; omega)))) (by first | exact (om_338 c_6 h_x3.2) | ((first | omega | (unfold zBd at *; omega)))) (by decide) (fun x_10 ex_10 ls hl => ?_)
              replace hl : lv_has ls 4 [(3, .int x_10), (2, .int x_3), (0, .ref a0), (1, .int x0)] := hl
              refine lv_goto (pc := 36) (tgt := 4) hx hb dX11_worthTogether_36 (by decide) ?_
              exact ih_lp_5 x_10 x_3 _ _ ls (by first | exact (om_339 ex_10 hi_2.1 c_6 h_x3.2) | ((first | omega | (unfold zBd at *; omega)))) (by (first | omega | (unfold zBd at *; omega))) hP hD hS (lv_sub hl [0, 1, 2, 3] rfl)
          ·
            as_aux_lemma =>
              refine lv_iload_n (pc := 24) hx hb dX11_worthTogether_24 rfl (lv_at hl 1 rfl) ?_
              refine lv_aload_n (pc := 25) hx hb dX11_worthTogether_25 rfl (lv_at hl 2 rfl) ?_
              refine va_get (pc := 26) (ci := 11) (v := .ref a9) (C := RX11) (T := TX11) (N := 14) hx hb hts iX11 hown hK hP 0 rfl rfl 8 (by decide) (hts _ tw_428) (fun _ h9 => h9) rfl dX11_worthTogether_26 ?_
              refine lv_iload_n (pc := 29) hx hb dX11_worthTogether_29 rfl (lv_at hl 0 rfl) ?_
              refine va_iald (pc := 30) hx hb hK hP 2 2 rfl rfl (n_in rfl (by first | exact (om_0 hi_2.1) | ((first | omega | (unfold zBd at *; omega)))) (by first | exact (om_1021 c_6 h_x3.2) | ((first | omega | (unfold zBd at *; omega))))) dX11_worthTogether_30 ?_
              refine lv_topi (fun x_11 ex_11 => ?_)
              have rx_11 : zBd x_11.toInt (-2147483648) 2147483647 := n_rng x_11
              refine lv_iadd (pc := 31) hx hb dX11_worthTogether_31 ?_
              refine lv_topi (fun x_12 _ => ?_)
              have rx_12 : zBd x_12.toInt (-2147483648) 2147483647 := n_rng x_12
              refine lv_istore_n (pc := 32) (lv' := [(2, .int x_12), (3, .int x_1), (0, .ref a0), (1, .int x0)]) hx hb dX11_worthTogether_32 rfl hl (by decide) rfl (fun ls hl => ?_)
              refine b_iinc (pc := 33) hx hb dX11_worthTogether_33 hl (k := 1) rfl rfl tI_1 (by first | exact (om_2 hi_2.1) | ((first | omega | (unfold zBd at *; omega)))) (by first | exact (om_338 c_6 h_x3.2) | ((first | omega | (unfold zBd at *; omega)))) (by decide) (fun x_13 ex_13 ls hl => ?_)
              replace hl : lv_has ls 4 [(3, .int x_13), (2, .int x_12), (0, .ref a0), (1, .int x0)] := hl
              as_aux_lemma =>
                refine lv_goto (pc := 36) (tgt := 4) hx hb dX11_worthTogether_36 (by decide) ?_
                exact ih_lp_5 x_13 x_12 _ _ ls (by first | exact (om_339 ex_13 hi_2.1 c_6 h_x3.2) | ((first | omega | (unfold zBd at *; omega)))) (by (first | omega | (unfold zBd at *; omega))) hP hD hS (lv_sub hl [0, 1, 2, 3] rfl)
  exact lp_5 _ 0 0 _ _ ls (n_c tI_0 (by decide)) (Nat.lt_succ_self _) hP hD hS (lv_sub hl [0, 1, 2, 3] rfl)
theorem om_1516 {a : Int} (h0 : (0 ≤ a)) (h1 : (a ≤ 63)) : ((((0 ≤ a ∧ a ≤ 63)))) := by omega
set_option maxHeartbeats 4000000 in
set_option maxRecDepth 100000 in
theorem k_J6_bitCount_0f7a4 (l : Launch) (D : va_G) (cB cC cI cJ : ClassId) (sz : Nat) (x0 : Int32) : Met l yJ6_bitCount_0f7a4 (.code yJ6_bitCount_0f7a4 cJ6_bitCount_0f7a4 1 (some .int) :: lw_gd) ({ frames := 0, cells := 0, slots := 0, locals := 0 }) (gPre D [(cB, .byte), (cC, .char), (cI, .int), (cJ, .long)] [.int x0] [] sz) (va_Qi (fun r u => (((0 ≤ r.toInt ∧ r.toInt ≤ 63)))) (gB D (va_A [] sz) (fun u : gEx => [])) (va_A [] sz)) 0 0 (va_A [] sz) := by
  refine gOf_i (by decide +kernel) (Nat.le_of_ble_eq_true rfl) ?_
  intro p e s m args below meth c ls A Q hx hb hts hown hml hN hK hP hD hA hl hret
  replace hown : s.vm.findClass RJ6 = some m.cls := hown
  have hS : va_S A s.heap s.heap [] := va_S.rf
  replace hP : va_P D gcl [] s.heap := hP
  replace hl : lv_has ls 1 [(0, .int x0)] := hl
  have rx0 : zBd x0.toInt (-2147483648) 2147483647 := n_rng x0
  refine lv_iload_n (pc := 0) hx hb dJ6_bitCount_0f7a4_0 rfl (lv_at hl 0 rfl) ?_
  refine lv_iload_n (pc := 1) hx hb dJ6_bitCount_0f7a4_1 rfl (lv_at hl 0 rfl) ?_
  refine lv_iconst (pc := 2) (v := 1) hx hb dJ6_bitCount_0f7a4_2 (by decide) ?_
  refine lv_iushr (pc := 3) hx hb dJ6_bitCount_0f7a4_3 rfl ?_
  refine lv_topi (fun x_1 _ => ?_)
  have rx_1 : zBd x_1.toInt (-2147483648) 2147483647 := n_rng x_1
  refine lv_ldcw (pc := 4) hx hb hown (hts _ tw_1372) dJ6_bitCount_0f7a4_4 ?_
  refine lv_iand (pc := 7) hx hb dJ6_bitCount_0f7a4_7 ?_
  refine lv_topi (fun x_2 _ => ?_)
  have rx_2 : zBd x_2.toInt (-2147483648) 2147483647 := n_rng x_2
  refine lv_isub (pc := 8) hx hb dJ6_bitCount_0f7a4_8 ?_
  as_aux_lemma =>
    refine lv_topi (fun x_3 _ => ?_)
    have rx_3 : zBd x_3.toInt (-2147483648) 2147483647 := n_rng x_3
    refine lv_istore_n (pc := 9) (lv' := [(0, .int x_3)]) hx hb dJ6_bitCount_0f7a4_9 rfl hl (by decide) rfl (fun ls hl => ?_)
    refine lv_iload_n (pc := 10) hx hb dJ6_bitCount_0f7a4_10 rfl (lv_at hl 0 rfl) ?_
    refine lv_ldcw (pc := 11) hx hb hown (hts _ tw_1373) dJ6_bitCount_0f7a4_11 ?_
    refine lv_iand (pc := 14) hx hb dJ6_bitCount_0f7a4_14 ?_
    refine lv_topi (fun x_4 _ => ?_)
    have rx_4 : zBd x_4.toInt (-2147483648) 2147483647 := n_rng x_4
    refine lv_iload_n (pc := 15) hx hb dJ6_bitCount_0f7a4_15 rfl (lv_at hl 0 rfl) ?_
    refine lv_iconst (pc := 16) (v := 2) hx hb dJ6_bitCount_0f7a4_16 (by decide) ?_
    refine lv_iushr (pc := 17) hx hb dJ6_bitCount_0f7a4_17 rfl ?_
    refine lv_topi (fun x_5 _ => ?_)
    have rx_5 : zBd x_5.toInt (-2147483648) 2147483647 := n_rng x_5
    as_aux_lemma =>
      refine lv_ldcw (pc := 18) hx hb hown (hts _ tw_1373) dJ6_bitCount_0f7a4_18 ?_
      refine lv_iand (pc := 21) hx hb dJ6_bitCount_0f7a4_21 ?_
      refine lv_topi (fun x_6 _ => ?_)
      have rx_6 : zBd x_6.toInt (-2147483648) 2147483647 := n_rng x_6
      refine lv_iadd (pc := 22) hx hb dJ6_bitCount_0f7a4_22 ?_
      refine lv_topi (fun x_7 _ => ?_)
      have rx_7 : zBd x_7.toInt (-2147483648) 2147483647 := n_rng x_7
      refine lv_istore_n (pc := 23) (lv' := [(0, .int x_7)]) hx hb dJ6_bitCount_0f7a4_23 rfl hl (by decide) rfl (fun ls hl => ?_)
      refine lv_iload_n (pc := 24) hx hb dJ6_bitCount_0f7a4_24 rfl (lv_at hl 0 rfl) ?_
      refine lv_iload_n (pc := 25) hx hb dJ6_bitCount_0f7a4_25 rfl (lv_at hl 0 rfl) ?_
      refine lv_iconst (pc := 26) (v := 4) hx hb dJ6_bitCount_0f7a4_26 (by decide) ?_
      refine lv_iushr (pc := 27) hx hb dJ6_bitCount_0f7a4_27 rfl ?_
      as_aux_lemma =>
        refine lv_topi (fun x_8 _ => ?_)
        have rx_8 : zBd x_8.toInt (-2147483648) 2147483647 := n_rng x_8
        refine lv_iadd (pc := 28) hx hb dJ6_bitCount_0f7a4_28 ?_
        refine lv_topi (fun x_9 _ => ?_)
        have rx_9 : zBd x_9.toInt (-2147483648) 2147483647 := n_rng x_9
        refine lv_ldcw (pc := 29) hx hb hown (hts _ tw_1374) dJ6_bitCount_0f7a4_29 ?_
        refine lv_iand (pc := 32) hx hb dJ6_bitCount_0f7a4_32 ?_
        refine lv_topi (fun x_10 _ => ?_)
        have rx_10 : zBd x_10.toInt (-2147483648) 2147483647 := n_rng x_10
        refine lv_istore_n (pc := 33) (lv' := [(0, .int x_10)]) hx hb dJ6_bitCount_0f7a4_33 rfl hl (by decide) rfl (fun ls hl => ?_)
        refine lv_iload_n (pc := 34) hx hb dJ6_bitCount_0f7a4_34 rfl (lv_at hl 0 rfl) ?_
        refine lv_iload_n (pc := 35) hx hb dJ6_bitCount_0f7a4_35 rfl (lv_at hl 0 rfl) ?_
        refine lv_bipush (pc := 36) (v := 8) hx hb dJ6_bitCount_0f7a4_36 (by decide) ?_
        as_aux_lemma =>
          refine lv_iushr (pc := 38) hx hb dJ6_bitCount_0f7a4_38 rfl ?_
          refine lv_topi (fun x_11 _ => ?_)
          have rx_11 : zBd x_11.toInt (-2147483648) 2147483647 := n_rng x_11
          refine lv_iadd (pc := 39) hx hb dJ6_bitCount_0f7a4_39 ?_
          refine lv_topi (fun x_12 _ => ?_)
          have rx_12 : zBd x_12.toInt (-2147483648) 2147483647 := n_rng x_12
          refine lv_istore_n (pc := 40) (lv' := [(0, .int x_12)]) hx hb dJ6_bitCount_0f7a4_40 rfl hl (by decide) rfl (fun ls hl => ?_)
          refine lv_iload_n (pc := 41) hx hb dJ6_bitCount_0f7a4_41 rfl (lv_at hl 0 rfl) ?_
          refine lv_iload_n (pc := 42) hx hb dJ6_bitCount_0f7a4_42 rfl (lv_at hl 0 rfl) ?_
          refine lv_bipush (pc := 43) (v := 16) hx hb dJ6_bitCount_0f7a4_43 (by decide) ?_
          refine lv_iushr (pc := 45) hx hb dJ6_bitCount_0f7a4_45 rfl ?_
          refine lv_topi (fun x_13 _ => ?_)
          have rx_13 : zBd x_13.toInt (-2147483648) 2147483647 := n_rng x_13
          as_aux_lemma =>
            refine lv_iadd (pc := 46) hx hb dJ6_bitCount_0f7a4_46 ?_
            refine lv_topi (fun x_14 _ => ?_)
            have rx_14 : zBd x_14.toInt (-2147483648) 2147483647 := n_rng x_14
            refine lv_istore_n (pc := 47) (lv' := [(0, .int x_14)]) hx hb dJ6_bitCount_0f7a4_47 rfl hl (by decide) rfl (fun ls hl => ?_)
            refine lv_iload_n (pc := 48) hx hb dJ6_bitCount_0f7a4_48 rfl (lv_at hl 0 rfl) ?_
            refine lv_bipush (pc := 49) (v := 63) hx hb dJ6_bitCount_0f7a4_49 (by decide) ?_
            refine b_iand (pc := 51) (M := 63) hx hb 6 (by decide +kernel) (by decide) (by decide) dJ6_bitCount_0f7a4_51 (fun x_15 ex_15 => ?_)
            have rx_15 : (0 ≤ x_15.toInt ∧ x_15.toInt ≤ 63) := ex_15
            exact hret x_15 ((fun _ => 0), (fun _ => (fun _ => 0)), (fun _ => (fun _ => 0)), (fun _ => 0), (fun _ => 0)) dJ6_bitCount_0f7a4_52 (show (((0 ≤ x_15.toInt ∧ x_15.toInt ≤ 63))) from (by first | exact (om_1516 rx_15.1 rx_15.2) | ((first | omega | (unfold zBd at *; omega))))) (g_psub (wc := []) hP [] rfl) (hD.sub (ws' := []) [] (by decide) rfl) hS
theorem om_1517 {a b c : Int} (h0 : (a = b + 1)) (h1 : (1 ≤ b)) (h2 : (b < c)) (h3 : (c ≤ 2147483647)) : ((1 ≤ a ∧ a ≤ 2147483647)) := by omega
theorem om_1518 {a b : Int} (h0 : (1 ≤ a)) (h1 : (a < b)) (h2 : (b ≤ 32)) : ((0 ≤ a ∧ a ≤ 31)) := by omega
set_option maxHeartbeats 4000000 in
set_option maxRecDepth 100000 in
theorem k_X11_chosen (l : Launch) (D : va_G) (cB cC cI cJ : ClassId) (sz : Nat) (a0 a1 a2 a3 a4 a5 a6 a7 a8 a9 a10 a11 a12 a13 a14 a15 a16 a17 a18 a19 a20 a21 a22 a23 a24 a25 a26 a27 a28 a29 a30 a31 a32 : Nat) (x0 x1 x2 x3 x4 x5 x6 x7 x8 x9 x10 x11 : Int32) (y0 y1 : Int64) (f0 f1 f2 f3 f4 f5 f6 f7 f8 f9 f10 f11 : Nat → Int32) (g0 g1 g2 g3 : Nat → Int64) (h_x1 : zBd x1.toInt 0 14) (h_x2 : zBd x2.toInt (-1) 8) (h_x3 : zBd x3.toInt (-1) 5) (h_x4 : zBd x4.toInt (-1) 6) (h_x5 : zBd x5.toInt 0 6) (h_x6 : zBd x6.toInt 0 16) (h_x9 : zBd x9.toInt 0 1600) (h_x10 : zBd x10.toInt 0 8) (hf_f1 : (∀ j, 0 ≤ (f1 j).toInt ∧ (f1 j).toInt ≤ 1600)) (hf_f2 : (∀ j, 0 ≤ (f2 j).toInt ∧ (f2 j).toInt ≤ 1600)) (hf_f5 : (∀ j, 0 ≤ (f5 j).toInt ∧ (f5 j).toInt ≤ 1600)) (h_x11 : zBd x11.toInt 0 4) (hf_f7 : (∀ j, (-3) ≤ (f7 j).toInt ∧ (f7 j).toInt ≤ 24)) (hf_f8 : (∀ j, 0 ≤ (f8 j).toInt ∧ (f8 j).toInt ≤ 23)) : Met l yX11_chosen (.code yX11_chosen cX11_chosen 9 (some .int) :: lw_gd) ({ frames := 6, cells := 0, slots := 0, locals := 138 }) (gPre D [(cB, .byte), (cC, .char), (cI, .int), (cJ, .long)] [.ref a0, .int x0, .long y0] (zS_108 cB cC cI cJ a0 a1 a2 a3 a4 a5 a6 a7 a8 a9 a10 x1 a11 a12 a13 a11 a14 a15 a16 x2 x3 x4 x5 x6 x7 x8 a14 a17 a17 f0 a15 a18 a19 a20 a21 a22 x9 x10 a20 f1 a21 f2 a22 f3 a18 f4 a19 f5 a9 f6 a4 a23 a24 a25 y1 a25 g0 a23 a26 a27 a28 a29 a30 a31 a32 x11 a26 g1 a28 g2 a27 g3 a31 f7 a32 f8 a29 f9 a30 f10 a24 f11) sz) (va_Qi (fun r u => ((r.toInt = (-1) ∧ x0.toInt < 1) ∨ (r.toInt = (-1) ∧ x0.toInt ≥ 1 ∧ x0.toInt > x3.toInt) ∨ (((-2147483648) ≤ r.toInt ∧ r.toInt ≤ 2147483647) ∧ x0.toInt ≥ 1 ∧ x0.toInt ≤ x3.toInt ∧ y0.toInt ≥ 0 ∧ (1 ≤ x3.toInt ∧ x3.toInt ≤ 5)) ∨ (r.toInt = (-1) ∧ x0.toInt ≥ 1 ∧ x0.toInt ≤ x3.toInt ∧ y0.toInt < 0)) ∧ (0 ≤ (u.2.2.2.1 0).toInt ∧ (u.2.2.2.1 0).toInt ≤ 4) ∧ (∀ j, (-3) ≤ ((u.2.1 2) j).toInt ∧ ((u.2.1 2) j).toInt ≤ 24) ∧ (∀ j, 0 ≤ ((u.2.1 3) j).toInt ∧ ((u.2.1 3) j).toInt ≤ 23)) (gB D (va_A (zS_108 cB cC cI cJ a0 a1 a2 a3 a4 a5 a6 a7 a8 a9 a10 x1 a11 a12 a13 a11 a14 a15 a16 x2 x3 x4 x5 x6 x7 x8 a14 a17 a17 f0 a15 a18 a19 a20 a21 a22 x9 x10 a20 f1 a21 f2 a22 f3 a18 f4 a19 f5 a9 f6 a4 a23 a24 a25 y1 a25 g0 a23 a26 a27 a28 a29 a30 a31 a32 x11 a26 g1 a28 g2 a27 g3 a31 f7 a32 f8 a29 f9 a30 f10 a24 f11) sz) (fun u : gEx => (zS_108 cB cC cI cJ a0 a1 a2 a3 a4 a5 a6 a7 a8 a9 a10 x1 a11 a12 a13 a11 a14 a15 a16 x2 x3 x4 x5 x6 x7 x8 a14 a17 a17 f0 a15 a18 a19 a20 a21 a22 x9 x10 a20 f1 a21 f2 a22 (u.2.1 0) a18 f4 a19 f5 a9 (u.2.1 1) a4 a23 a24 a25 (u.2.2.2.2 0) a25 (u.2.2.1 0) a23 a26 a27 a28 a29 a30 a31 a32 (u.2.2.2.1 0) a26 (u.2.2.1 1) a28 (u.2.2.1 2) a27 (u.2.2.1 3) a31 (u.2.1 2) a32 (u.2.1 3) a29 (u.2.1 4) a30 (u.2.1 5) a24 (u.2.1 6)))) (va_A (zS_108 cB cC cI cJ a0 a1 a2 a3 a4 a5 a6 a7 a8 a9 a10 x1 a11 a12 a13 a11 a14 a15 a16 x2 x3 x4 x5 x6 x7 x8 a14 a17 a17 f0 a15 a18 a19 a20 a21 a22 x9 x10 a20 f1 a21 f2 a22 f3 a18 f4 a19 f5 a9 f6 a4 a23 a24 a25 y1 a25 g0 a23 a26 a27 a28 a29 a30 a31 a32 x11 a26 g1 a28 g2 a27 g3 a31 f7 a32 f8 a29 f9 a30 f10 a24 f11) sz)) 0 0 (va_A (zS_108 cB cC cI cJ a0 a1 a2 a3 a4 a5 a6 a7 a8 a9 a10 x1 a11 a12 a13 a11 a14 a15 a16 x2 x3 x4 x5 x6 x7 x8 a14 a17 a17 f0 a15 a18 a19 a20 a21 a22 x9 x10 a20 f1 a21 f2 a22 f3 a18 f4 a19 f5 a9 f6 a4 a23 a24 a25 y1 a25 g0 a23 a26 a27 a28 a29 a30 a31 a32 x11 a26 g1 a28 g2 a27 g3 a31 f7 a32 f8 a29 f9 a30 f10 a24 f11) sz) := by
  refine gOf_i (by decide +kernel) (Nat.le_of_ble_eq_true rfl) ?_
  intro p e s m args below meth c ls A Q hx hb hts hown hml hN hK hP hD hA hl hret
  replace hown : s.vm.findClass RX11 = some m.cls := hown
  have hS : va_S A s.heap s.heap [] := va_S.rf
  replace hP : va_P D gcl (zS_108 cB cC cI cJ a0 a1 a2 a3 a4 a5 a6 a7 a8 a9 a10 x1 a11 a12 a13 a11 a14 a15 a16 x2 x3 x4 x5 x6 x7 x8 a14 a17 a17 f0 a15 a18 a19 a20 a21 a22 x9 x10 a20 f1 a21 f2 a22 f3 a18 f4 a19 f5 a9 f6 a4 a23 a24 a25 y1 a25 g0 a23 a26 a27 a28 a29 a30 a31 a32 x11 a26 g1 a28 g2 a27 g3 a31 f7 a32 f8 a29 f9 a30 f10 a24 f11) s.heap := hP
  replace hl : lv_has ls 9 [(0, .ref a0), (1, .int x0), (2, .long y0)] := hl
  have rx0 : zBd x0.toInt (-2147483648) 2147483647 := n_rng x0
  have ry0 := n_rngL y0
  have rx7 : zBd x7.toInt (-2147483648) 2147483647 := n_rng x7
  have rx8 : zBd x8.toInt (-2147483648) 2147483647 := n_rng x8
  have ry1 := n_rngL y1
  refine lv_iload_n (pc := 0) hx hb dX11_chosen_0 rfl (lv_at hl 1 rfl) ?_
  refine lv_iconst (pc := 1) (v := 1) hx hb dX11_chosen_1 (by decide) ?_
  refine b_icmp_lt (pc := 2) (tgt := 22) hx hb rfl tI_1  dX11_chosen_2 (by decide) (fun c_1 => ?_) (fun c_1 => ?_)
  ·
    as_aux_lemma =>
      refine lv_iconst (pc := 22) (v := (-1)) hx hb dX11_chosen_22 (by decide) ?_
      exact hret (-1) ((fun _ => 0), (fun k => [f3, f6, f7, f8, f9, f10, f11].getD k (fun _ => 0)), (fun k => [g0, g1, g2, g3].getD k (fun _ => 0)), (fun k => [x11].getD k 0), (fun k => [y1].getD k 0)) dX11_chosen_23 ⟨(show ((((-1) : Int32).toInt = (-1) ∧ x0.toInt < 1) ∨ (((-1) : Int32).toInt = (-1) ∧ x0.toInt ≥ 1 ∧ x0.toInt > x3.toInt) ∨ (((-2147483648) ≤ ((-1) : Int32).toInt ∧ ((-1) : Int32).toInt ≤ 2147483647) ∧ x0.toInt ≥ 1 ∧ x0.toInt ≤ x3.toInt ∧ y0.toInt ≥ 0 ∧ (1 ≤ x3.toInt ∧ x3.toInt ≤ 5)) ∨ (((-1) : Int32).toInt = (-1) ∧ x0.toInt ≥ 1 ∧ x0.toInt ≤ x3.toInt ∧ y0.toInt < 0)) from (by have k9 := tI_m1; (first | omega | (unfold zBd at *; omega)))), (show (0 ≤ (x11 : Int32).toInt ∧ (x11 : Int32).toInt ≤ 4) from h_x11), hf_f7, hf_f8⟩ (g_psub (wc := (zS_108 cB cC cI cJ a0 a1 a2 a3 a4 a5 a6 a7 a8 a9 a10 x1 a11 a12 a13 a11 a14 a15 a16 x2 x3 x4 x5 x6 x7 x8 a14 a17 a17 f0 a15 a18 a19 a20 a21 a22 x9 x10 a20 f1 a21 f2 a22 f3 a18 f4 a19 f5 a9 f6 a4 a23 a24 a25 y1 a25 g0 a23 a26 a27 a28 a29 a30 a31 a32 x11 a26 g1 a28 g2 a27 g3 a31 f7 a32 f8 a29 f9 a30 f10 a24 f11)) hP [0, 1, 2, 3, 4, 5, 6, 7, 8, 9, 10, 11, 12, 13, 14, 15, 16, 17, 18, 19, 20, 21] rfl) (hD.sub (ws' := (zS_108 cB cC cI cJ a0 a1 a2 a3 a4 a5 a6 a7 a8 a9 a10 x1 a11 a12 a13 a11 a14 a15 a16 x2 x3 x4 x5 x6 x7 x8 a14 a17 a17 f0 a15 a18 a19 a20 a21 a22 x9 x10 a20 f1 a21 f2 a22 f3 a18 f4 a19 f5 a9 f6 a4 a23 a24 a25 y1 a25 g0 a23 a26 a27 a28 a29 a30 a31 a32 x11 a26 g1 a28 g2 a27 g3 a31 f7 a32 f8 a29 f9 a30 f10 a24 f11)) [0, 1, 2, 3, 4, 5, 6, 7, 8, 9, 10, 11, 12, 13, 14, 15, 16, 17, 18, 19, 20, 21] (by decide) rfl) hS
  ·
    as_aux_lemma =>
      refine lv_iload_n (pc := 5) hx hb dX11_chosen_5 rfl (lv_at hl 1 rfl) ?_
      refine lv_aload_n (pc := 6) hx hb dX11_chosen_6 rfl (lv_at hl 0 rfl) ?_
      refine va_get (pc := 7) (ci := 11) (v := .ref a11) (C := RX11) (T := TX11) (N := 14) hx hb hts iX11 hown hK hP 0 rfl rfl 11 (by decide) (hts _ tw_431) (fun _ h9 => h9) rfl dX11_chosen_7 ?_
      refine va_getN (pc := 10) (ci := 1) (v := .int x3) (C := RX1) (T := TX1) (N := 10) hx hb hts iX1 hown hK hP 1 rfl rfl 4 (by decide) (va_Nw.use rfl (hN _ tn_123)) (fun _ h9 => h9) rfl dX11_chosen_10 ?_
      refine b_icmp_gt (pc := 13) (tgt := 22) hx hb rfl rfl  dX11_chosen_13 (by decide) (fun c_2 => ?_) (fun c_2 => ?_)
      ·
        as_aux_lemma =>
          refine lv_iconst (pc := 22) (v := (-1)) hx hb dX11_chosen_22 (by decide) ?_
          exact hret (-1) ((fun _ => 0), (fun k => [f3, f6, f7, f8, f9, f10, f11].getD k (fun _ => 0)), (fun k => [g0, g1, g2, g3].getD k (fun _ => 0)), (fun k => [x11].getD k 0), (fun k => [y1].getD k 0)) dX11_chosen_23 ⟨(show ((((-1) : Int32).toInt = (-1) ∧ x0.toInt < 1) ∨ (((-1) : Int32).toInt = (-1) ∧ x0.toInt ≥ 1 ∧ x0.toInt > x3.toInt) ∨ (((-2147483648) ≤ ((-1) : Int32).toInt ∧ ((-1) : Int32).toInt ≤ 2147483647) ∧ x0.toInt ≥ 1 ∧ x0.toInt ≤ x3.toInt ∧ y0.toInt ≥ 0 ∧ (1 ≤ x3.toInt ∧ x3.toInt ≤ 5)) ∨ (((-1) : Int32).toInt = (-1) ∧ x0.toInt ≥ 1 ∧ x0.toInt ≤ x3.toInt ∧ y0.toInt < 0)) from (by have k9 := tI_m1; (first | omega | (unfold zBd at *; omega)))), (show (0 ≤ (x11 : Int32).toInt ∧ (x11 : Int32).toInt ≤ 4) from h_x11), hf_f7, hf_f8⟩ (g_psub (wc := (zS_108 cB cC cI cJ a0 a1 a2 a3 a4 a5 a6 a7 a8 a9 a10 x1 a11 a12 a13 a11 a14 a15 a16 x2 x3 x4 x5 x6 x7 x8 a14 a17 a17 f0 a15 a18 a19 a20 a21 a22 x9 x10 a20 f1 a21 f2 a22 f3 a18 f4 a19 f5 a9 f6 a4 a23 a24 a25 y1 a25 g0 a23 a26 a27 a28 a29 a30 a31 a32 x11 a26 g1 a28 g2 a27 g3 a31 f7 a32 f8 a29 f9 a30 f10 a24 f11)) hP [0, 1, 2, 3, 4, 5, 6, 7, 8, 9, 10, 11, 12, 13, 14, 15, 16, 17, 18, 19, 20, 21] rfl) (hD.sub (ws' := (zS_108 cB cC cI cJ a0 a1 a2 a3 a4 a5 a6 a7 a8 a9 a10 x1 a11 a12 a13 a11 a14 a15 a16 x2 x3 x4 x5 x6 x7 x8 a14 a17 a17 f0 a15 a18 a19 a20 a21 a22 x9 x10 a20 f1 a21 f2 a22 f3 a18 f4 a19 f5 a9 f6 a4 a23 a24 a25 y1 a25 g0 a23 a26 a27 a28 a29 a30 a31 a32 x11 a26 g1 a28 g2 a27 g3 a31 f7 a32 f8 a29 f9 a30 f10 a24 f11)) [0, 1, 2, 3, 4, 5, 6, 7, 8, 9, 10, 11, 12, 13, 14, 15, 16, 17, 18, 19, 20, 21] (by decide) rfl) hS
      ·
        as_aux_lemma =>
          refine lv_lload_n (pc := 16) hx hb dX11_chosen_16 rfl (lv_at hl 2 rfl) ?_
          refine lv_lconst (pc := 17) (v := 0) hx hb dX11_chosen_17 (by decide) ?_
          refine b_lcmp_ge (pc := 18) (tgt := 24) hx hb rfl tL_0 dX11_chosen_18 dX11_chosen_19 (by decide) (fun c_3 => ?_) (fun c_3 => ?_)
          ·
            as_aux_lemma =>
              refine lv_iconst (pc := 24) (v := 0) hx hb dX11_chosen_24 (by decide) ?_
              refine lv_istore (pc := 25) (lv' := [(4, .int 0), (0, .ref a0), (1, .int x0), (2, .long y0)]) hx hb dX11_chosen_25 hl (by decide) rfl (fun ls hl => ?_)
              have lp_8 : ∀ (n : Nat) (x_4 : Int32) (f_6 f_7 : Nat → Int32) (H : Heap) (locs : List Loc) (ls : Array Slot), (0 ≤ x_4.toInt ∧ x_4.toInt ≤ 2147483647) → (2147483647 - x_4.toInt).toNat < n → va_P D gcl (zS_108 cB cC cI cJ a0 a1 a2 a3 a4 a5 a6 a7 a8 a9 a10 x1 a11 a12 a13 a11 a14 a15 a16 x2 x3 x4 x5 x6 x7 x8 a14 a17 a17 f0 a15 a18 a19 a20 a21 a22 x9 x10 a20 f1 a21 f2 a22 f_6 a18 f4 a19 f5 a9 f_7 a4 a23 a24 a25 y1 a25 g0 a23 a26 a27 a28 a29 a30 a31 a32 x11 a26 g1 a28 g2 a27 g3 a31 f7 a32 f8 a29 f9 a30 f10 a24 f11) H → va_D A (zS_108 cB cC cI cJ a0 a1 a2 a3 a4 a5 a6 a7 a8 a9 a10 x1 a11 a12 a13 a11 a14 a15 a16 x2 x3 x4 x5 x6 x7 x8 a14 a17 a17 f0 a15 a18 a19 a20 a21 a22 x9 x10 a20 f1 a21 f2 a22 f_6 a18 f4 a19 f5 a9 f_7 a4 a23 a24 a25 y1 a25 g0 a23 a26 a27 a28 a29 a30 a31 a32 x11 a26 g1 a28 g2 a27 g3 a31 f7 a32 f8 a29 f9 a30 f10 a24 f11) → va_S A s.heap H locs → lv_has ls 9 [(4, .int x_4), (0, .ref a0), (1, .int x0), (2, .long y0)] → W p l e ({ frames := 6, cells := 0, slots := 0, locals := 138 }) s m args below meth c H locs 0 0 Q (F0 m 27 ls []) := by
                intro n
                induction n with
                | zero => intro x_4 f_6 f_7 H locs ls hi_5 hmu; exact absurd hmu (Nat.not_lt_zero _)
                | succ n ih_lp_8 =>
                  intro x_4 f_6 f_7 H locs ls hi_5 hmu_lp_8 hP hD hS hl
                  refine lv_iload (pc := 27) hx hb dX11_chosen_27 (lv_at hl 0 rfl) ?_
                  refine lv_aload_n (pc := 29) hx hb dX11_chosen_29 rfl (lv_at hl 1 rfl) ?_
                  refine va_get (pc := 30) (ci := 11) (v := .ref a11) (C := RX11) (T := TX11) (N := 14) hx hb hts iX11 hown hK hP 0 rfl rfl 11 (by decide) (hts _ tw_431) (fun _ h9 => h9) rfl dX11_chosen_30 ?_
                  refine va_getN (pc := 33) (ci := 1) (v := .int x3) (C := RX1) (T := TX1) (N := 10) hx hb hts iX1 hown hK hP 1 rfl rfl 4 (by decide) (va_Nw.use rfl (hN _ tn_123)) (fun _ h9 => h9) rfl dX11_chosen_33 ?_
                  refine b_icmp_ge (pc := 36) (tgt := 61) hx hb rfl rfl  dX11_chosen_36 (by decide) (fun c_9 => ?_) (fun c_9 => ?_)
                  ·
                    as_aux_lemma =>
                      refine lv_iconst (pc := 61) (v := (-1)) hx hb dX11_chosen_61 (by decide) ?_
                      refine lv_istore (pc := 62) (lv' := [(4, .int (-1)), (0, .ref a0), (1, .int x0), (2, .long y0)]) hx hb dX11_chosen_62 hl (by decide) rfl (fun ls hl => ?_)
                      refine lv_iconst (pc := 64) (v := 0) hx hb dX11_chosen_64 (by decide) ?_
                      refine lv_istore (pc := 65) (lv' := [(5, .int 0), (4, .int (-1)), (0, .ref a0), (1, .int x0), (2, .long y0)]) hx hb dX11_chosen_65 hl (by decide) rfl (fun ls hl => ?_)
                      refine lv_iconst (pc := 67) (v := 1) hx hb dX11_chosen_67 (by decide) ?_
                      refine lv_istore (pc := 68) (lv' := [(6, .int 1), (5, .int 0), (4, .int (-1)), (0, .ref a0), (1, .int x0), (2, .long y0)]) hx hb dX11_chosen_68 hl (by decide) rfl (fun ls hl => ?_)
                      have lp_31 : ∀ (n : Nat) (x_10 x_12 x_14 x_19 : Int32) (y_16 : Int64) (f_24 f_26 f_28 f_29 f_30 : Nat → Int32) (g_18 g_21 g_22 g_23 : Nat → Int64) (H : Heap) (locs : List Loc) (ls : Array Slot), (1 ≤ x_10.toInt ∧ x_10.toInt ≤ 2147483647) → (0 ≤ x_19.toInt ∧ x_19.toInt ≤ 4) → (∀ j, (-3) ≤ (f_24 j).toInt ∧ (f_24 j).toInt ≤ 24) → (∀ j, 0 ≤ (f_26 j).toInt ∧ (f_26 j).toInt ≤ 23) → (2147483647 - x_10.toInt).toNat < n → va_P D gcl (zS_108 cB cC cI cJ a0 a1 a2 a3 a4 a5 a6 a7 a8 a9 a10 x1 a11 a12 a13 a11 a14 a15 a16 x2 x3 x4 x5 x6 x7 x8 a14 a17 a17 f0 a15 a18 a19 a20 a21 a22 x9 x10 a20 f1 a21 f2 a22 f_6 a18 f4 a19 f5 a9 f_7 a4 a23 a24 a25 y_16 a25 g_18 a23 a26 a27 a28 a29 a30 a31 a32 x_19 a26 g_21 a28 g_22 a27 g_23 a31 f_24 a32 f_26 a29 f_28 a30 f_29 a24 f_30) H → va_D A (zS_108 cB cC cI cJ a0 a1 a2 a3 a4 a5 a6 a7 a8 a9 a10 x1 a11 a12 a13 a11 a14 a15 a16 x2 x3 x4 x5 x6 x7 x8 a14 a17 a17 f0 a15 a18 a19 a20 a21 a22 x9 x10 a20 f1 a21 f2 a22 f_6 a18 f4 a19 f5 a9 f_7 a4 a23 a24 a25 y_16 a25 g_18 a23 a26 a27 a28 a29 a30 a31 a32 x_19 a26 g_21 a28 g_22 a27 g_23 a31 f_24 a32 f_26 a29 f_28 a30 f_29 a24 f_30) → va_S A s.heap H locs → lv_has ls 9 [(6, .int x_10), (5, .int x_12), (4, .int x_14), (0, .ref a0), (1, .int x0), (2, .long y0)] → W p l e ({ frames := 6, cells := 0, slots := 0, locals := 138 }) s m args below meth c H locs 0 0 Q (F0 m 70 ls []) := by
                        intro n
                        induction n with
                        | zero => intro x_10 x_12 x_14 x_19 y_16 f_24 f_26 f_28 f_29 f_30 g_18 g_21 g_22 g_23 H locs ls hi_11 hi_20 hi_25 hi_27 hmu; exact absurd hmu (Nat.not_lt_zero _)
                        | succ n ih_lp_31 =>
                          intro x_10 x_12 x_14 x_19 y_16 f_24 f_26 f_28 f_29 f_30 g_18 g_21 g_22 g_23 H locs ls hi_11 hi_20 hi_25 hi_27 hmu_lp_31 hP hD hS hl
                          have hi_13 := n_rng x_12
                          have hi_15 := n_rng x_14
                          have hi_17 := n_rngL y_16
                          refine lv_iload (pc := 70) hx hb dX11_chosen_70 (lv_at hl 0 rfl) ?_
                          refine lv_iconst (pc := 72) (v := 1) hx hb dX11_chosen_72 (by decide) ?_
                          refine lv_aload_n (pc := 73) hx hb dX11_chosen_73 rfl (lv_at hl 3 rfl) ?_
                          refine va_get (pc := 74) (ci := 11) (v := .ref a11) (C := RX11) (T := TX11) (N := 14) hx hb hts iX11 hown hK hP 0 rfl rfl 11 (by decide) (hts _ tw_431) (fun _ h9 => h9) rfl dX11_chosen_74 ?_
                          refine va_getN (pc := 77) (ci := 1) (v := .int x3) (C := RX1) (T := TX1) (N := 10) hx hb hts iX1 hown hK hP 1 rfl rfl 4 (by decide) (va_Nw.use rfl (hN _ tn_123)) (fun _ h9 => h9) rfl dX11_chosen_77 ?_
                          refine b_shl1 (pc := 80) hx hb rfl (by first | exact (om_1106 h_x3.1) | ((first | omega | (unfold zBd at *; omega)))) (by first | exact (om_372 h_x3.2) | ((first | omega | (unfold zBd at *; omega)))) dX11_chosen_80 (fun x_32 ex_32 => ?_)
                          have rx_32 : zBd x_32.toInt (-2147483648) 2147483647 := n_rng x_32
                          refine b_icmp_ge (pc := 81) (tgt := 158) hx hb rfl rfl  dX11_chosen_81 (by decide) (fun c_33 => ?_) (fun c_33 => ?_)
                          ·
                            as_aux_lemma =>
                              refine lv_iload (pc := 158) hx hb dX11_chosen_158 (lv_at hl 2 rfl) ?_
                              exact hret x_14 ((fun _ => 0), (fun k => [f_6, f_7, f_24, f_26, f_28, f_29, f_30].getD k (fun _ => 0)), (fun k => [g_18, g_21, g_22, g_23].getD k (fun _ => 0)), (fun k => [x_19].getD k 0), (fun k => [y_16].getD k 0)) dX11_chosen_160 ⟨(show ((x_14.toInt = (-1) ∧ x0.toInt < 1) ∨ (x_14.toInt = (-1) ∧ x0.toInt ≥ 1 ∧ x0.toInt > x3.toInt) ∨ (((-2147483648) ≤ x_14.toInt ∧ x_14.toInt ≤ 2147483647) ∧ x0.toInt ≥ 1 ∧ x0.toInt ≤ x3.toInt ∧ y0.toInt ≥ 0 ∧ (1 ≤ x3.toInt ∧ x3.toInt ≤ 5)) ∨ (x_14.toInt = (-1) ∧ x0.toInt ≥ 1 ∧ x0.toInt ≤ x3.toInt ∧ y0.toInt < 0)) from (by (first | omega | (unfold zBd at *; omega)))), (show (0 ≤ (x_19 : Int32).toInt ∧ (x_19 : Int32).toInt ≤ 4) from hi_20), hi_25, hi_27⟩ (g_psub (wc := (zS_108 cB cC cI cJ a0 a1 a2 a3 a4 a5 a6 a7 a8 a9 a10 x1 a11 a12 a13 a11 a14 a15 a16 x2 x3 x4 x5 x6 x7 x8 a14 a17 a17 f0 a15 a18 a19 a20 a21 a22 x9 x10 a20 f1 a21 f2 a22 f_6 a18 f4 a19 f5 a9 f_7 a4 a23 a24 a25 y_16 a25 g_18 a23 a26 a27 a28 a29 a30 a31 a32 x_19 a26 g_21 a28 g_22 a27 g_23 a31 f_24 a32 f_26 a29 f_28 a30 f_29 a24 f_30)) hP [0, 1, 2, 3, 4, 5, 6, 7, 8, 9, 10, 11, 12, 13, 14, 15, 16, 17, 18, 19, 20, 21] rfl) (hD.sub (ws' := (zS_108 cB cC cI cJ a0 a1 a2 a3 a4 a5 a6 a7 a8 a9 a10 x1 a11 a12 a13 a11 a14 a15 a16 x2 x3 x4 x5 x6 x7 x8 a14 a17 a17 f0 a15 a18 a19 a20 a21 a22 x9 x10 a20 f1 a21 f2 a22 f_6 a18 f4 a19 f5 a9 f_7 a4 a23 a24 a25 y_16 a25 g_18 a23 a26 a27 a28 a29 a30 a31 a32 x_19 a26 g_21 a28 g_22 a27 g_23 a31 f_24 a32 f_26 a29 f_28 a30 f_29 a24 f_30)) [0, 1, 2, 3, 4, 5, 6, 7, 8, 9, 10, 11, 12, 13, 14, 15, 16, 17, 18, 19, 20, 21] (by decide) rfl) hS
                          ·
                            as_aux_lemma =>
                              refine lv_aload_n (pc := 84) hx hb dX11_chosen_84 rfl (lv_at hl 3 rfl) ?_
                              refine lv_iload (pc := 85) hx hb dX11_chosen_85 (lv_at hl 0 rfl) ?_
                              refine gd_i (pc := 87) (wc := (zS_181 cB cC cI cJ a0 a1 a2 a3 a4 a5 a6 a7 a8 a9 a10 x1 a11 a12 a13 a11 a14 a15 a16 x2 x3 x4 x5 x6 x7 x8 a9 f_7)) hP hD hS hA [0, 1, 10] rfl (by decide +kernel) (fun _ => by rfl) (fun hPc hDc => va_runV (As := [.int x_10]) (rest := []) ⟨hx, hb, hml, hown, hts⟩ (k_X11_worthTogether l D cB cC cI cJ _ a0 a1 a2 a3 a4 a5 a6 a7 a8 a9 a10 a11 a12 a13 a14 a15 a16 x_10 x1 x2 x3 x4 x5 x6 x7 x8 f_7 h_x1 h_x2 h_x3 h_x4 h_x5 h_x6) ⟨gcwB hts tw_1368 tw_1 tw_1365 hd_yX11_worthTogether ⟨Nat.le_of_ble_eq_true rfl, Nat.le_of_ble_eq_true rfl⟩, hts _ tw_1367, hts _ tp_57⟩ ⟨gblind, va_recv hK hPc (ci := 11) (q0 := 0) rfl rfl, (gpreS hPc hK hDc hN).2⟩ rfl rfl hl.1 rfl (lv_room (Nat.le_of_ble_eq_true rfl)) dX11_chosen_87 ⟨Nat.le_of_ble_eq_true rfl, Nat.le_of_ble_eq_true rfl⟩) (fun r_35 u_34 H locs hw_36 hP hD hS => ?_)
                              replace hP : va_P D gcl (zS_108 cB cC cI cJ a0 a1 a2 a3 a4 a5 a6 a7 a8 a9 a10 x1 a11 a12 a13 a11 a14 a15 a16 x2 x3 x4 x5 x6 x7 x8 a14 a17 a17 f0 a15 a18 a19 a20 a21 a22 x9 x10 a20 f1 a21 f2 a22 f_6 a18 f4 a19 f5 a9 f_7 a4 a23 a24 a25 y_16 a25 g_18 a23 a26 a27 a28 a29 a30 a31 a32 x_19 a26 g_21 a28 g_22 a27 g_23 a31 f_24 a32 f_26 a29 f_28 a30 f_29 a24 f_30) H := hP
                              replace hD : va_D A (zS_108 cB cC cI cJ a0 a1 a2 a3 a4 a5 a6 a7 a8 a9 a10 x1 a11 a12 a13 a11 a14 a15 a16 x2 x3 x4 x5 x6 x7 x8 a14 a17 a17 f0 a15 a18 a19 a20 a21 a22 x9 x10 a20 f1 a21 f2 a22 f_6 a18 f4 a19 f5 a9 f_7 a4 a23 a24 a25 y_16 a25 g_18 a23 a26 a27 a28 a29 a30 a31 a32 x_19 a26 g_21 a28 g_22 a27 g_23 a31 f_24 a32 f_26 a29 f_28 a30 f_29 a24 f_30) := hD
                              have hw_37 : ((((-2147483648) ≤ r_35.toInt ∧ r_35.toInt ≤ 2147483647) ∧ ((-1) ≤ x3.toInt ∧ x3.toInt ≤ 5))) := hw_36
                              have rr_35 : zBd r_35.toInt (-2147483648) 2147483647 := n_rng r_35
                              refine lv_istore (pc := 90) (lv' := [(7, .int r_35), (6, .int x_10), (5, .int x_12), (4, .int x_14), (0, .ref a0), (1, .int x0), (2, .long y0)]) hx hb dX11_chosen_90 hl (by decide) rfl (fun ls hl => ?_)
                              refine lv_iload (pc := 92) hx hb dX11_chosen_92 (lv_at hl 1 rfl) ?_
                              refine gd_i (pc := 94) (wc := []) hP hD hS hA [] rfl (by decide +kernel) (fun _ => by rfl) (fun hPc hDc => va_runS (As := [.int x_10]) (rest := []) ⟨hx, hb, hml, hown, hts⟩ (k_J6_bitCount_0f7a4 l D cB cC cI cJ _ x_10) ⟨gcwB hts tw_1371 tw_21 tw_1369 hd_yJ6_bitCount_0f7a4 ⟨Nat.le_of_ble_eq_true rfl, Nat.le_of_ble_eq_true rfl⟩, hts _ tw_1370⟩ (gpreS hPc hK hDc hN) rfl rfl hl.1 rfl (lv_room (Nat.le_of_ble_eq_true rfl)) dX11_chosen_94 ⟨Nat.le_of_ble_eq_true rfl, Nat.le_of_ble_eq_true rfl⟩) (fun r_39 u_38 H locs hw_40 hP hD hS => ?_)
                              replace hP : va_P D gcl (zS_108 cB cC cI cJ a0 a1 a2 a3 a4 a5 a6 a7 a8 a9 a10 x1 a11 a12 a13 a11 a14 a15 a16 x2 x3 x4 x5 x6 x7 x8 a14 a17 a17 f0 a15 a18 a19 a20 a21 a22 x9 x10 a20 f1 a21 f2 a22 f_6 a18 f4 a19 f5 a9 f_7 a4 a23 a24 a25 y_16 a25 g_18 a23 a26 a27 a28 a29 a30 a31 a32 x_19 a26 g_21 a28 g_22 a27 g_23 a31 f_24 a32 f_26 a29 f_28 a30 f_29 a24 f_30) H := hP
                              replace hD : va_D A (zS_108 cB cC cI cJ a0 a1 a2 a3 a4 a5 a6 a7 a8 a9 a10 x1 a11 a12 a13 a11 a14 a15 a16 x2 x3 x4 x5 x6 x7 x8 a14 a17 a17 f0 a15 a18 a19 a20 a21 a22 x9 x10 a20 f1 a21 f2 a22 f_6 a18 f4 a19 f5 a9 f_7 a4 a23 a24 a25 y_16 a25 g_18 a23 a26 a27 a28 a29 a30 a31 a32 x_19 a26 g_21 a28 g_22 a27 g_23 a31 f_24 a32 f_26 a29 f_28 a30 f_29 a24 f_30) := hD
                              have hw_41 : (((0 ≤ r_39.toInt ∧ r_39.toInt ≤ 63))) := hw_40
                              have rr_39 : zBd r_39.toInt (-2147483648) 2147483647 := n_rng r_39
                              refine lv_iload_n (pc := 97) hx hb dX11_chosen_97 rfl (lv_at hl 5 rfl) ?_
                              refine b_icmp_ne (pc := 98) (tgt := 118) hx hb rfl rfl  dX11_chosen_98 (by decide) (fun c_42 => ?_) (fun c_42 => ?_)
                              ·
                                as_aux_lemma =>
                                  refine lv_iconst (pc := 118) (v := 0) hx hb dX11_chosen_118 (by decide) ?_
                                  refine lv_istore (pc := 119) (lv' := [(8, .int 0), (7, .int r_35), (6, .int x_10), (5, .int x_12), (4, .int x_14), (0, .ref a0), (1, .int x0), (2, .long y0)]) hx hb dX11_chosen_119 hl (by decide) rfl (fun ls hl => ?_)
                                  refine lv_iload (pc := 121) hx hb dX11_chosen_121 (lv_at hl 0 rfl) ?_
                                  refine b_if_eq (pc := 123) (tgt := 152) hx hb tI_0  dX11_chosen_123 (by decide) (fun c_43 => ?_) (fun c_43 => absurd c_43 (by first | exact (om_27) | ((first | omega | (unfold zBd at *; omega)))))
                                  refine b_iinc (pc := 152) hx hb dX11_chosen_152 hl (k := 2) rfl rfl tI_1 (by first | exact (om_139 hi_11.1) | ((first | omega | (unfold zBd at *; omega)))) (by first | exact (om_1088 c_33 rx_32.2) | ((first | omega | (unfold zBd at *; omega)))) (by decide) (fun x_44 ex_44 ls hl => ?_)
                                  replace hl : lv_has ls 9 [(6, .int x_44), (8, .int 0), (7, .int r_35), (5, .int x_12), (4, .int x_14), (0, .ref a0), (1, .int x0), (2, .long y0)] := hl
                                  refine lv_goto (pc := 155) (tgt := 70) hx hb dX11_chosen_155 (by decide) ?_
                                  exact ih_lp_31 x_44 x_12 x_14 x_19 y_16 f_24 f_26 f_28 f_29 f_30 g_18 g_21 g_22 g_23 _ _ ls (by first | exact (om_1517 ex_44 hi_11.1 c_33 rx_32.2) | ((first | omega | (unfold zBd at *; omega)))) hi_20 hi_25 hi_27 (by (first | omega | (unfold zBd at *; omega))) hP hD hS (lv_sub hl [0, 3, 4, 5, 6, 7] rfl)
                              ·
                                as_aux_lemma =>
                                  refine lv_iload (pc := 101) hx hb dX11_chosen_101 (lv_at hl 3 rfl) ?_
                                  refine lv_iconst (pc := 103) (v := (-1)) hx hb dX11_chosen_103 (by decide) ?_
                                  refine b_icmp_eq (pc := 104) (tgt := 114) hx hb rfl tI_m1  dX11_chosen_104 (by decide) (fun c_45 => ?_) (fun c_45 => ?_)
                                  ·
                                    as_aux_lemma =>
                                      refine lv_iconst (pc := 114) (v := 1) hx hb dX11_chosen_114 (by decide) ?_
                                      refine lv_goto (pc := 115) (tgt := 119) hx hb dX11_chosen_115 (by decide) ?_
                                      refine lv_istore (pc := 119) (lv' := [(8, .int 1), (7, .int r_35), (6, .int x_10), (5, .int x_12), (4, .int x_14), (0, .ref a0), (1, .int x0), (2, .long y0)]) hx hb dX11_chosen_119 hl (by decide) rfl (fun ls hl => ?_)
                                      refine lv_iload (pc := 121) hx hb dX11_chosen_121 (lv_at hl 0 rfl) ?_
                                      refine b_if_eq (pc := 123) (tgt := 152) hx hb tI_1  dX11_chosen_123 (by decide) (fun c_46 => absurd c_46 (by first | exact (om_26) | ((first | omega | (unfold zBd at *; omega))))) (fun c_46 => ?_)
                                      refine lv_aload_n (pc := 126) hx hb dX11_chosen_126 rfl (lv_at hl 5 rfl) ?_
                                      refine va_get (pc := 127) (ci := 11) (v := .ref a4) (C := RX11) (T := TX11) (N := 14) hx hb hts iX11 hown hK hP 0 rfl rfl 3 (by decide) (hts _ tw_423) (fun _ h9 => h9) rfl dX11_chosen_127 ?_
                                      refine lv_aload_n (pc := 130) hx hb dX11_chosen_130 rfl (lv_at hl 5 rfl) ?_
                                      refine va_get (pc := 131) (ci := 11) (v := .ref a11) (C := RX11) (T := TX11) (N := 14) hx hb hts iX11 hown hK hP 0 rfl rfl 11 (by decide) (hts _ tw_431) (fun _ h9 => h9) rfl dX11_chosen_131 ?_
                                      refine lv_iload (pc := 134) hx hb dX11_chosen_134 (lv_at hl 2 rfl) ?_
                                      as_aux_lemma =>
                                        refine gc_l (pc := 136) (wc := (zS_164 cB cC cI cJ a4 a23 a24 a25 y_16 a25 g_18 a11 a14 a15 a16 x2 x3 x4 x5 x6 x7 x8 a23 a26 a27 a28 a29 a30 a31 a32 x_19 a14 a17 a17 f0 a26 g_21 a28 g_22 a27 g_23 a31 f_24 a32 f_26 a29 f_28 a30 f_29 a24 f_30)) (wr := [(a0, .inr (11, [.ref a1, .ref a2, .ref a3, .ref a4, .ref a5, .ref a6, .ref a7, .ref a8, .ref a9, .ref a10, .int x1, .ref a11, .ref a12, .ref a13])), (a15, .inr (5, [.ref a18, .ref a19, .ref a20, .ref a21, .ref a22, .int x9, .int x10])), (a20, .inl (cI, 8, .inl f1)), (a21, .inl (cI, 8, .inl f2)), (a22, .inl (cI, 64, .inl f_6)), (a18, .inl (cI, 1600, .inl f4)), (a19, .inl (cI, 8, .inl f5)), (a9, .inl (cI, 5, .inl f_7))]) hP hD hS hA [11, 12, 1, 13, 2, 3, 14, 15, 16, 17, 18, 19, 20, 21] [0, 4, 5, 6, 7, 8, 9, 10] rfl rfl (by decide +kernel) (by decide +kernel) (by decide +kernel) (fun hPc hDc => va_runV (As := [.ref a11, .int x_10]) (rest := []) ⟨hx, hb, hml, hown, hts⟩ (k_X6_apartOf l D cB cC cI cJ _ a4 a11 a23 a24 a25 a14 a15 a16 a26 a27 a28 a29 a30 a31 a32 a17 x_10 x2 x3 x4 x5 x6 x7 x8 x_19 y_16 f0 f_24 f_26 f_28 f_29 f_30 g_18 g_21 g_22 g_23 (by first | exact (om_1518 hi_11.1 c_33 ex_32) | ((first | omega | (unfold zBd at *; omega)))) h_x2 h_x3 h_x4 h_x5 h_x6 hi_20 hi_25 hi_27) ⟨gcwB hts tw_1167 tw_9 tw_1164 hd_yX6_apartOf ⟨Nat.le_of_ble_eq_true rfl, Nat.le_of_ble_eq_true rfl⟩, hts _ tw_1165, hts _ tw_1166⟩ ⟨gblind, va_recv hK hPc (ci := 6) (q0 := 0) rfl rfl, (gpreS hPc hK hDc hN).2⟩ rfl rfl hl.1 rfl (lv_room (Nat.le_of_ble_eq_true rfl)) dX11_chosen_136 ⟨Nat.le_of_ble_eq_true rfl, Nat.le_of_ble_eq_true rfl⟩) (fun r_48 u_47 H locs hw_49 hP hD hS => ?_)
                                        replace hP : va_P D gcl (zS_205 cB cC cI cJ a0 a1 a2 a3 a4 a5 a6 a7 a8 a9 a10 x1 a11 a12 a13 a15 a18 a19 a20 a21 a22 x9 x10 a20 f1 a21 f2 a22 f_6 a18 f4 a19 f5 a9 f_7 a4 a23 a24 a25 (u_47.2.2.2.2 0) a25 (u_47.2.2.1 0) a11 a14 a15 a16 x2 x3 x4 x5 x6 x7 x8 a23 a26 a27 a28 a29 a30 a31 a32 (u_47.2.2.2.1 0) a14 a17 a17 f0 a26 (u_47.2.2.1 1) a28 (u_47.2.2.1 2) a27 (u_47.2.2.1 3) a31 (u_47.2.1 0) a32 (u_47.2.1 1) a29 (u_47.2.1 2) a30 (u_47.2.1 3) a24 (u_47.2.1 4)) H := hP
                                        replace hD : va_D A (zS_205 cB cC cI cJ a0 a1 a2 a3 a4 a5 a6 a7 a8 a9 a10 x1 a11 a12 a13 a15 a18 a19 a20 a21 a22 x9 x10 a20 f1 a21 f2 a22 f_6 a18 f4 a19 f5 a9 f_7 a4 a23 a24 a25 (u_47.2.2.2.2 0) a25 (u_47.2.2.1 0) a11 a14 a15 a16 x2 x3 x4 x5 x6 x7 x8 a23 a26 a27 a28 a29 a30 a31 a32 (u_47.2.2.2.1 0) a14 a17 a17 f0 a26 (u_47.2.2.1 1) a28 (u_47.2.2.1 2) a27 (u_47.2.2.1 3) a31 (u_47.2.1 0) a32 (u_47.2.1 1) a29 (u_47.2.1 2) a30 (u_47.2.1 3) a24 (u_47.2.1 4)) := hD
                                        have ru_47_0 := n_rngL (u_47.2.2.2.2 0)
                                        obtain ⟨hw_50, hw_51, hw_52, hw_53⟩ := hw_49
                                        replace hw_50 : (((0 ≤ r_48.toInt ∧ r_48.toInt ≤ 9223372036854775807) ∧ (u_47.2.2.2.1 0).toInt = x_19.toInt) ∨ (((-9223372036854775808) ≤ r_48.toInt ∧ r_48.toInt ≤ 9223372036854775807))) := hw_50
                                        replace hw_51 : zBd (u_47.2.2.2.1 0).toInt 0 4 := hw_51
                                        replace hw_52 : (∀ j, (-3) ≤ ((u_47.2.1 0) j).toInt ∧ ((u_47.2.1 0) j).toInt ≤ 24) := hw_52
                                        replace hw_53 : (∀ j, 0 ≤ ((u_47.2.1 1) j).toInt ∧ ((u_47.2.1 1) j).toInt ≤ 23) := hw_53
                                        have rr_48 := n_rngL r_48
                                        refine lv_lload_n (pc := 139) hx hb dX11_chosen_139 rfl (lv_at hl 7 rfl) ?_
                                        refine b_lcmp_lt (pc := 140) (tgt := 152) hx hb rfl rfl dX11_chosen_140 dX11_chosen_141 (by decide) (fun c_54 => ?_) (fun c_54 => ?_)
                                        ·
                                          as_aux_lemma =>
                                            refine b_iinc (pc := 152) hx hb dX11_chosen_152 hl (k := 2) rfl rfl tI_1 (by first | exact (om_139 hi_11.1) | ((first | omega | (unfold zBd at *; omega)))) (by first | exact (om_1088 c_33 rx_32.2) | ((first | omega | (unfold zBd at *; omega)))) (by decide) (fun x_55 ex_55 ls hl => ?_)
                                            replace hl : lv_has ls 9 [(6, .int x_55), (8, .int 1), (7, .int r_35), (5, .int x_12), (4, .int x_14), (0, .ref a0), (1, .int x0), (2, .long y0)] := hl
                                            refine lv_goto (pc := 155) (tgt := 70) hx hb dX11_chosen_155 (by decide) ?_
                                            exact ih_lp_31 x_55 x_12 x_14 (u_47.2.2.2.1 0) (u_47.2.2.2.2 0) (u_47.2.1 0) (u_47.2.1 1) (u_47.2.1 2) (u_47.2.1 3) (u_47.2.1 4) (u_47.2.2.1 0) (u_47.2.2.1 1) (u_47.2.2.1 2) (u_47.2.2.1 3) _ _ ls (by first | exact (om_1517 ex_55 hi_11.1 c_33 rx_32.2) | ((first | omega | (unfold zBd at *; omega)))) hw_51 hw_52 hw_53 (by (first | omega | (unfold zBd at *; omega))) (g_psub hP [0, 10, 12, 13, 1, 2, 3, 4, 5, 6, 7, 8, 9, 11, 14, 15, 16, 17, 18, 19, 20, 21] rfl) (hD.sub [0, 10, 12, 13, 1, 2, 3, 4, 5, 6, 7, 8, 9, 11, 14, 15, 16, 17, 18, 19, 20, 21] (by decide) rfl) hS (lv_sub hl [0, 3, 4, 5, 6, 7] rfl)
                                        ·
                                          as_aux_lemma =>
                                            refine lv_iload (pc := 144) hx hb dX11_chosen_144 (lv_at hl 2 rfl) ?_
                                            refine lv_istore (pc := 146) (lv' := [(4, .int x_10), (8, .int 1), (7, .int r_35), (6, .int x_10), (5, .int x_12), (0, .ref a0), (1, .int x0), (2, .long y0)]) hx hb dX11_chosen_146 hl (by decide) rfl (fun ls hl => ?_)
                                            refine lv_iload (pc := 148) hx hb dX11_chosen_148 (lv_at hl 2 rfl) ?_
                                            refine lv_istore (pc := 150) (lv' := [(5, .int r_35), (4, .int x_10), (8, .int 1), (7, .int r_35), (6, .int x_10), (0, .ref a0), (1, .int x0), (2, .long y0)]) hx hb dX11_chosen_150 hl (by decide) rfl (fun ls hl => ?_)
                                            refine b_iinc (pc := 152) hx hb dX11_chosen_152 hl (k := 4) rfl rfl tI_1 (by first | exact (om_139 hi_11.1) | ((first | omega | (unfold zBd at *; omega)))) (by first | exact (om_1088 c_33 rx_32.2) | ((first | omega | (unfold zBd at *; omega)))) (by decide) (fun x_56 ex_56 ls hl => ?_)
                                            replace hl : lv_has ls 9 [(6, .int x_56), (5, .int r_35), (4, .int x_10), (8, .int 1), (7, .int r_35), (0, .ref a0), (1, .int x0), (2, .long y0)] := hl
                                            refine lv_goto (pc := 155) (tgt := 70) hx hb dX11_chosen_155 (by decide) ?_
                                            exact ih_lp_31 x_56 r_35 x_10 (u_47.2.2.2.1 0) (u_47.2.2.2.2 0) (u_47.2.1 0) (u_47.2.1 1) (u_47.2.1 2) (u_47.2.1 3) (u_47.2.1 4) (u_47.2.2.1 0) (u_47.2.2.1 1) (u_47.2.2.1 2) (u_47.2.2.1 3) _ _ ls (by first | exact (om_1517 ex_56 hi_11.1 c_33 rx_32.2) | ((first | omega | (unfold zBd at *; omega)))) hw_51 hw_52 hw_53 (by (first | omega | (unfold zBd at *; omega))) (g_psub hP [0, 10, 12, 13, 1, 2, 3, 4, 5, 6, 7, 8, 9, 11, 14, 15, 16, 17, 18, 19, 20, 21] rfl) (hD.sub [0, 10, 12, 13, 1, 2, 3, 4, 5, 6, 7, 8, 9, 11, 14, 15, 16, 17, 18, 19, 20, 21] (by decide) rfl) hS (lv_sub hl [0, 1, 2, 5, 6, 7] rfl)
                                  ·
                                    as_aux_lemma =>
                                      refine lv_iload (pc := 107) hx hb dX11_chosen_107 (lv_at hl 0 rfl) ?_
                                      refine lv_iload (pc := 109) hx hb dX11_chosen_109 (lv_at hl 2 rfl) ?_
                                      refine b_icmp_le (pc := 111) (tgt := 118) hx hb rfl rfl  dX11_chosen_111 (by decide) (fun c_57 => ?_) (fun c_57 => ?_)
                                      ·
                                        as_aux_lemma =>
                                          refine lv_iconst (pc := 118) (v := 0) hx hb dX11_chosen_118 (by decide) ?_
                                          refine lv_istore (pc := 119) (lv' := [(8, .int 0), (7, .int r_35), (6, .int x_10), (5, .int x_12), (4, .int x_14), (0, .ref a0), (1, .int x0), (2, .long y0)]) hx hb dX11_chosen_119 hl (by decide) rfl (fun ls hl => ?_)
                                          refine lv_iload (pc := 121) hx hb dX11_chosen_121 (lv_at hl 0 rfl) ?_
                                          refine b_if_eq (pc := 123) (tgt := 152) hx hb tI_0  dX11_chosen_123 (by decide) (fun c_58 => ?_) (fun c_58 => absurd c_58 (by first | exact (om_27) | ((first | omega | (unfold zBd at *; omega)))))
                                          refine b_iinc (pc := 152) hx hb dX11_chosen_152 hl (k := 2) rfl rfl tI_1 (by first | exact (om_139 hi_11.1) | ((first | omega | (unfold zBd at *; omega)))) (by first | exact (om_1088 c_33 rx_32.2) | ((first | omega | (unfold zBd at *; omega)))) (by decide) (fun x_59 ex_59 ls hl => ?_)
                                          replace hl : lv_has ls 9 [(6, .int x_59), (8, .int 0), (7, .int r_35), (5, .int x_12), (4, .int x_14), (0, .ref a0), (1, .int x0), (2, .long y0)] := hl
                                          refine lv_goto (pc := 155) (tgt := 70) hx hb dX11_chosen_155 (by decide) ?_
                                          exact ih_lp_31 x_59 x_12 x_14 x_19 y_16 f_24 f_26 f_28 f_29 f_30 g_18 g_21 g_22 g_23 _ _ ls (by first | exact (om_1517 ex_59 hi_11.1 c_33 rx_32.2) | ((first | omega | (unfold zBd at *; omega)))) hi_20 hi_25 hi_27 (by (first | omega | (unfold zBd at *; omega))) hP hD hS (lv_sub hl [0, 3, 4, 5, 6, 7] rfl)
                                      ·
                                        as_aux_lemma =>
                                          refine lv_iconst (pc := 114) (v := 1) hx hb dX11_chosen_114 (by decide) ?_
                                          refine lv_goto (pc := 115) (tgt := 119) hx hb dX11_chosen_115 (by decide) ?_
                                          refine lv_istore (pc := 119) (lv' := [(8, .int 1), (7, .int r_35), (6, .int x_10), (5, .int x_12), (4, .int x_14), (0, .ref a0), (1, .int x0), (2, .long y0)]) hx hb dX11_chosen_119 hl (by decide) rfl (fun ls hl => ?_)
                                          refine lv_iload (pc := 121) hx hb dX11_chosen_121 (lv_at hl 0 rfl) ?_
                                          refine b_if_eq (pc := 123) (tgt := 152) hx hb tI_1  dX11_chosen_123 (by decide) (fun c_60 => absurd c_60 (by first | exact (om_26) | ((first | omega | (unfold zBd at *; omega))))) (fun c_60 => ?_)
                                          refine lv_aload_n (pc := 126) hx hb dX11_chosen_126 rfl (lv_at hl 5 rfl) ?_
                                          refine va_get (pc := 127) (ci := 11) (v := .ref a4) (C := RX11) (T := TX11) (N := 14) hx hb hts iX11 hown hK hP 0 rfl rfl 3 (by decide) (hts _ tw_423) (fun _ h9 => h9) rfl dX11_chosen_127 ?_
                                          refine lv_aload_n (pc := 130) hx hb dX11_chosen_130 rfl (lv_at hl 5 rfl) ?_
                                          refine va_get (pc := 131) (ci := 11) (v := .ref a11) (C := RX11) (T := TX11) (N := 14) hx hb hts iX11 hown hK hP 0 rfl rfl 11 (by decide) (hts _ tw_431) (fun _ h9 => h9) rfl dX11_chosen_131 ?_
                                          refine lv_iload (pc := 134) hx hb dX11_chosen_134 (lv_at hl 2 rfl) ?_
                                          as_aux_lemma =>
                                            refine gc_l (pc := 136) (wc := (zS_164 cB cC cI cJ a4 a23 a24 a25 y_16 a25 g_18 a11 a14 a15 a16 x2 x3 x4 x5 x6 x7 x8 a23 a26 a27 a28 a29 a30 a31 a32 x_19 a14 a17 a17 f0 a26 g_21 a28 g_22 a27 g_23 a31 f_24 a32 f_26 a29 f_28 a30 f_29 a24 f_30)) (wr := [(a0, .inr (11, [.ref a1, .ref a2, .ref a3, .ref a4, .ref a5, .ref a6, .ref a7, .ref a8, .ref a9, .ref a10, .int x1, .ref a11, .ref a12, .ref a13])), (a15, .inr (5, [.ref a18, .ref a19, .ref a20, .ref a21, .ref a22, .int x9, .int x10])), (a20, .inl (cI, 8, .inl f1)), (a21, .inl (cI, 8, .inl f2)), (a22, .inl (cI, 64, .inl f_6)), (a18, .inl (cI, 1600, .inl f4)), (a19, .inl (cI, 8, .inl f5)), (a9, .inl (cI, 5, .inl f_7))]) hP hD hS hA [11, 12, 1, 13, 2, 3, 14, 15, 16, 17, 18, 19, 20, 21] [0, 4, 5, 6, 7, 8, 9, 10] rfl rfl (by decide +kernel) (by decide +kernel) (by decide +kernel) (fun hPc hDc => va_runV (As := [.ref a11, .int x_10]) (rest := []) ⟨hx, hb, hml, hown, hts⟩ (k_X6_apartOf l D cB cC cI cJ _ a4 a11 a23 a24 a25 a14 a15 a16 a26 a27 a28 a29 a30 a31 a32 a17 x_10 x2 x3 x4 x5 x6 x7 x8 x_19 y_16 f0 f_24 f_26 f_28 f_29 f_30 g_18 g_21 g_22 g_23 (by first | exact (om_1518 hi_11.1 c_33 ex_32) | ((first | omega | (unfold zBd at *; omega)))) h_x2 h_x3 h_x4 h_x5 h_x6 hi_20 hi_25 hi_27) ⟨gcwB hts tw_1167 tw_9 tw_1164 hd_yX6_apartOf ⟨Nat.le_of_ble_eq_true rfl, Nat.le_of_ble_eq_true rfl⟩, hts _ tw_1165, hts _ tw_1166⟩ ⟨gblind, va_recv hK hPc (ci := 6) (q0 := 0) rfl rfl, (gpreS hPc hK hDc hN).2⟩ rfl rfl hl.1 rfl (lv_room (Nat.le_of_ble_eq_true rfl)) dX11_chosen_136 ⟨Nat.le_of_ble_eq_true rfl, Nat.le_of_ble_eq_true rfl⟩) (fun r_62 u_61 H locs hw_63 hP hD hS => ?_)
                                            replace hP : va_P D gcl (zS_205 cB cC cI cJ a0 a1 a2 a3 a4 a5 a6 a7 a8 a9 a10 x1 a11 a12 a13 a15 a18 a19 a20 a21 a22 x9 x10 a20 f1 a21 f2 a22 f_6 a18 f4 a19 f5 a9 f_7 a4 a23 a24 a25 (u_61.2.2.2.2 0) a25 (u_61.2.2.1 0) a11 a14 a15 a16 x2 x3 x4 x5 x6 x7 x8 a23 a26 a27 a28 a29 a30 a31 a32 (u_61.2.2.2.1 0) a14 a17 a17 f0 a26 (u_61.2.2.1 1) a28 (u_61.2.2.1 2) a27 (u_61.2.2.1 3) a31 (u_61.2.1 0) a32 (u_61.2.1 1) a29 (u_61.2.1 2) a30 (u_61.2.1 3) a24 (u_61.2.1 4)) H := hP
                                            replace hD : va_D A (zS_205 cB cC cI cJ a0 a1 a2 a3 a4 a5 a6 a7 a8 a9 a10 x1 a11 a12 a13 a15 a18 a19 a20 a21 a22 x9 x10 a20 f1 a21 f2 a22 f_6 a18 f4 a19 f5 a9 f_7 a4 a23 a24 a25 (u_61.2.2.2.2 0) a25 (u_61.2.2.1 0) a11 a14 a15 a16 x2 x3 x4 x5 x6 x7 x8 a23 a26 a27 a28 a29 a30 a31 a32 (u_61.2.2.2.1 0) a14 a17 a17 f0 a26 (u_61.2.2.1 1) a28 (u_61.2.2.1 2) a27 (u_61.2.2.1 3) a31 (u_61.2.1 0) a32 (u_61.2.1 1) a29 (u_61.2.1 2) a30 (u_61.2.1 3) a24 (u_61.2.1 4)) := hD
                                            have ru_61_0 := n_rngL (u_61.2.2.2.2 0)
                                            obtain ⟨hw_64, hw_65, hw_66, hw_67⟩ := hw_63
                                            replace hw_64 : (((0 ≤ r_62.toInt ∧ r_62.toInt ≤ 9223372036854775807) ∧ (u_61.2.2.2.1 0).toInt = x_19.toInt) ∨ (((-9223372036854775808) ≤ r_62.toInt ∧ r_62.toInt ≤ 9223372036854775807))) := hw_64
                                            replace hw_65 : zBd (u_61.2.2.2.1 0).toInt 0 4 := hw_65
                                            replace hw_66 : (∀ j, (-3) ≤ ((u_61.2.1 0) j).toInt ∧ ((u_61.2.1 0) j).toInt ≤ 24) := hw_66
                                            replace hw_67 : (∀ j, 0 ≤ ((u_61.2.1 1) j).toInt ∧ ((u_61.2.1 1) j).toInt ≤ 23) := hw_67
                                            have rr_62 := n_rngL r_62
                                            refine lv_lload_n (pc := 139) hx hb dX11_chosen_139 rfl (lv_at hl 7 rfl) ?_
                                            refine b_lcmp_lt (pc := 140) (tgt := 152) hx hb rfl rfl dX11_chosen_140 dX11_chosen_141 (by decide) (fun c_68 => ?_) (fun c_68 => ?_)
                                            ·
                                              as_aux_lemma =>
                                                refine b_iinc (pc := 152) hx hb dX11_chosen_152 hl (k := 2) rfl rfl tI_1 (by first | exact (om_139 hi_11.1) | ((first | omega | (unfold zBd at *; omega)))) (by first | exact (om_1088 c_33 rx_32.2) | ((first | omega | (unfold zBd at *; omega)))) (by decide) (fun x_69 ex_69 ls hl => ?_)
                                                replace hl : lv_has ls 9 [(6, .int x_69), (8, .int 1), (7, .int r_35), (5, .int x_12), (4, .int x_14), (0, .ref a0), (1, .int x0), (2, .long y0)] := hl
                                                refine lv_goto (pc := 155) (tgt := 70) hx hb dX11_chosen_155 (by decide) ?_
                                                exact ih_lp_31 x_69 x_12 x_14 (u_61.2.2.2.1 0) (u_61.2.2.2.2 0) (u_61.2.1 0) (u_61.2.1 1) (u_61.2.1 2) (u_61.2.1 3) (u_61.2.1 4) (u_61.2.2.1 0) (u_61.2.2.1 1) (u_61.2.2.1 2) (u_61.2.2.1 3) _ _ ls (by first | exact (om_1517 ex_69 hi_11.1 c_33 rx_32.2) | ((first | omega | (unfold zBd at *; omega)))) hw_65 hw_66 hw_67 (by (first | omega | (unfold zBd at *; omega))) (g_psub hP [0, 10, 12, 13, 1, 2, 3, 4, 5, 6, 7, 8, 9, 11, 14, 15, 16, 17, 18, 19, 20, 21] rfl) (hD.sub [0, 10, 12, 13, 1, 2, 3, 4, 5, 6, 7, 8, 9, 11, 14, 15, 16, 17, 18, 19, 20, 21] (by decide) rfl) hS (lv_sub hl [0, 3, 4, 5, 6, 7] rfl)
                                            ·
                                              as_aux_lemma =>
                                                refine lv_iload (pc := 144) hx hb dX11_chosen_144 (lv_at hl 2 rfl) ?_
                                                refine lv_istore (pc := 146) (lv' := [(4, .int x_10), (8, .int 1), (7, .int r_35), (6, .int x_10), (5, .int x_12), (0, .ref a0), (1, .int x0), (2, .long y0)]) hx hb dX11_chosen_146 hl (by decide) rfl (fun ls hl => ?_)
                                                refine lv_iload (pc := 148) hx hb dX11_chosen_148 (lv_at hl 2 rfl) ?_
                                                refine lv_istore (pc := 150) (lv' := [(5, .int r_35), (4, .int x_10), (8, .int 1), (7, .int r_35), (6, .int x_10), (0, .ref a0), (1, .int x0), (2, .long y0)]) hx hb dX11_chosen_150 hl (by decide) rfl (fun ls hl => ?_)
                                                refine b_iinc (pc := 152) hx hb dX11_chosen_152 hl (k := 4) rfl rfl tI_1 (by first | exact (om_139 hi_11.1) | ((first | omega | (unfold zBd at *; omega)))) (by first | exact (om_1088 c_33 rx_32.2) | ((first | omega | (unfold zBd at *; omega)))) (by decide) (fun x_70 ex_70 ls hl => ?_)
                                                replace hl : lv_has ls 9 [(6, .int x_70), (5, .int r_35), (4, .int x_10), (8, .int 1), (7, .int r_35), (0, .ref a0), (1, .int x0), (2, .long y0)] := hl
                                                refine lv_goto (pc := 155) (tgt := 70) hx hb dX11_chosen_155 (by decide) ?_
                                                exact ih_lp_31 x_70 r_35 x_10 (u_61.2.2.2.1 0) (u_61.2.2.2.2 0) (u_61.2.1 0) (u_61.2.1 1) (u_61.2.1 2) (u_61.2.1 3) (u_61.2.1 4) (u_61.2.2.1 0) (u_61.2.2.1 1) (u_61.2.2.1 2) (u_61.2.2.1 3) _ _ ls (by first | exact (om_1517 ex_70 hi_11.1 c_33 rx_32.2) | ((first | omega | (unfold zBd at *; omega)))) hw_65 hw_66 hw_67 (by (first | omega | (unfold zBd at *; omega))) (g_psub hP [0, 10, 12, 13, 1, 2, 3, 4, 5, 6, 7, 8, 9, 11, 14, 15, 16, 17, 18, 19, 20, 21] rfl) (hD.sub [0, 10, 12, 13, 1, 2, 3, 4, 5, 6, 7, 8, 9, 11, 14, 15, 16, 17, 18, 19, 20, 21] (by decide) rfl) hS (lv_sub hl [0, 1, 2, 5, 6, 7] rfl)
                      exact lp_31 _ 1 0 (-1) x11 y1 f7 f8 f9 f10 f11 g0 g1 g2 g3 _ _ ls (n_c tI_1 (by decide)) h_x11 hf_f7 hf_f8 (Nat.lt_succ_self _) hP hD hS (lv_sub hl [0, 1, 2, 3, 4, 5] rfl)
                  ·
                    as_aux_lemma =>
                      refine lv_aload_n (pc := 39) hx hb dX11_chosen_39 rfl (lv_at hl 1 rfl) ?_
                      refine va_get (pc := 40) (ci := 11) (v := .ref a9) (C := RX11) (T := TX11) (N := 14) hx hb hts iX11 hown hK hP 0 rfl rfl 8 (by decide) (hts _ tw_428) (fun _ h9 => h9) rfl dX11_chosen_40 ?_
                      refine lv_iload (pc := 43) hx hb dX11_chosen_43 (lv_at hl 0 rfl) ?_
                      refine lv_aload_n (pc := 45) hx hb dX11_chosen_45 rfl (lv_at hl 1 rfl) ?_
                      refine va_get (pc := 46) (ci := 11) (v := .ref a11) (C := RX11) (T := TX11) (N := 14) hx hb hts iX11 hown hK hP 0 rfl rfl 11 (by decide) (hts _ tw_431) (fun _ h9 => h9) rfl dX11_chosen_46 ?_
                      refine lv_iload (pc := 49) hx hb dX11_chosen_49 (lv_at hl 0 rfl) ?_
                      refine gc_i (pc := 51) (wc := (zS_142 cB cC cI cJ a11 a14 a15 a16 x2 x3 x4 x5 x6 x7 x8 a14 a17 a17 f0 a15 a18 a19 a20 a21 a22 x9 x10 a20 f1 a21 f2 a22 f_6 a18 f4 a19 f5)) (wr := [(a0, .inr (11, [.ref a1, .ref a2, .ref a3, .ref a4, .ref a5, .ref a6, .ref a7, .ref a8, .ref a9, .ref a10, .int x1, .ref a11, .ref a12, .ref a13])), (a9, .inl (cI, 5, .inl f_7)), (a4, .inr (6, [.ref a23, .ref a24, .ref a25, .long y1])), (a25, .inl (cJ, 32, .inr (.inl g0))), (a23, .inr (10, [.ref a26, .ref a27, .ref a28, .ref a29, .ref a30, .ref a31, .ref a32, .int x11])), (a26, .inl (cJ, 25, .inr (.inl g1))), (a28, .inl (cJ, 25, .inr (.inl g2))), (a27, .inl (cJ, 5, .inr (.inl g3))), (a31, .inl (cI, 5, .inl f7)), (a32, .inl (cI, 5, .inl f8)), (a29, .inl (cI, 5, .inl f9)), (a30, .inl (cI, 5, .inl f10)), (a24, .inl (cI, 5, .inl f11))]) hP hD hS hA [1, 2, 3, 4, 5, 6, 7, 8, 9] [0, 10, 11, 12, 13, 14, 15, 16, 17, 18, 19, 20, 21] rfl rfl (by decide +kernel) (by decide +kernel) (by decide +kernel) (fun hPc hDc => va_runV (As := [.int x_4]) (rest := [.int x_4, .ref a9]) ⟨hx, hb, hml, hown, hts⟩ (k_X1_worthOf l D cB cC cI cJ _ a11 a14 a15 a16 a17 a18 a19 a20 a21 a22 x_4 x2 x3 x4 x5 x6 x7 x8 x9 x10 f0 f1 f2 f_6 f4 f5 (by first | exact (om_360 hi_5.1 c_9 h_x3.2) | ((first | omega | (unfold zBd at *; omega)))) h_x2 h_x3 h_x4 h_x5 h_x6 h_x9 h_x10 hf_f1 hf_f2 hf_f5) ⟨gcwB hts tw_1325 tw_4 tw_1322 hd_yX1_worthOf ⟨Nat.le_of_ble_eq_true rfl, Nat.le_of_ble_eq_true rfl⟩, hts _ tw_1323, hts _ tw_1324⟩ ⟨gblind, va_recv hK hPc (ci := 1) (q0 := 0) rfl rfl, (gpreS hPc hK hDc hN).2⟩ rfl rfl hl.1 rfl (lv_room (Nat.le_of_ble_eq_true rfl)) dX11_chosen_51 ⟨Nat.le_of_ble_eq_true rfl, Nat.le_of_ble_eq_true rfl⟩) (fun r_72 u_71 H locs hw_73 hP hD hS => ?_)
                      replace hP : va_P D gcl (zS_206 cB cC cI cJ a0 a1 a2 a3 a4 a5 a6 a7 a8 a9 a10 x1 a11 a12 a13 a9 f_7 a4 a23 a24 a25 y1 a25 g0 a23 a26 a27 a28 a29 a30 a31 a32 x11 a26 g1 a28 g2 a27 g3 a31 f7 a32 f8 a29 f9 a30 f10 a24 f11 a11 a14 a15 a16 x2 x3 x4 x5 x6 x7 x8 a14 a17 a17 f0 a15 a18 a19 a20 a21 a22 x9 x10 a20 f1 a21 f2 a22 (u_71.2.1 0) a18 f4 a19 f5) H := hP
                      replace hD : va_D A (zS_206 cB cC cI cJ a0 a1 a2 a3 a4 a5 a6 a7 a8 a9 a10 x1 a11 a12 a13 a9 f_7 a4 a23 a24 a25 y1 a25 g0 a23 a26 a27 a28 a29 a30 a31 a32 x11 a26 g1 a28 g2 a27 g3 a31 f7 a32 f8 a29 f9 a30 f10 a24 f11 a11 a14 a15 a16 x2 x3 x4 x5 x6 x7 x8 a14 a17 a17 f0 a15 a18 a19 a20 a21 a22 x9 x10 a20 f1 a21 f2 a22 (u_71.2.1 0) a18 f4 a19 f5) := hD
                      have hw_74 : ((((-2147483648) ≤ r_72.toInt ∧ r_72.toInt ≤ 2147483647))) := hw_73
                      have rr_72 : zBd r_72.toInt (-2147483648) 2147483647 := n_rng r_72
                      refine g_iastore (pc := 54) hx hb hK hP hD hS 1 2 rfl rfl (n_in rfl (by first | exact (om_0 hi_5.1) | ((first | omega | (unfold zBd at *; omega)))) (by first | exact (om_1021 c_9 h_x3.2) | ((first | omega | (unfold zBd at *; omega))))) dX11_chosen_54 (fun f_75 H locs hP hD hS => ?_)
                      replace hP : va_P D gcl (zS_206 cB cC cI cJ a0 a1 a2 a3 a4 a5 a6 a7 a8 a9 a10 x1 a11 a12 a13 a9 f_75 a4 a23 a24 a25 y1 a25 g0 a23 a26 a27 a28 a29 a30 a31 a32 x11 a26 g1 a28 g2 a27 g3 a31 f7 a32 f8 a29 f9 a30 f10 a24 f11 a11 a14 a15 a16 x2 x3 x4 x5 x6 x7 x8 a14 a17 a17 f0 a15 a18 a19 a20 a21 a22 x9 x10 a20 f1 a21 f2 a22 (u_71.2.1 0) a18 f4 a19 f5) H := hP
                      replace hD : va_D A (zS_206 cB cC cI cJ a0 a1 a2 a3 a4 a5 a6 a7 a8 a9 a10 x1 a11 a12 a13 a9 f_75 a4 a23 a24 a25 y1 a25 g0 a23 a26 a27 a28 a29 a30 a31 a32 x11 a26 g1 a28 g2 a27 g3 a31 f7 a32 f8 a29 f9 a30 f10 a24 f11 a11 a14 a15 a16 x2 x3 x4 x5 x6 x7 x8 a14 a17 a17 f0 a15 a18 a19 a20 a21 a22 x9 x10 a20 f1 a21 f2 a22 (u_71.2.1 0) a18 f4 a19 f5) := hD
                      refine b_iinc (pc := 55) hx hb dX11_chosen_55 hl (k := 0) rfl rfl tI_1 (by first | exact (om_2 hi_5.1) | ((first | omega | (unfold zBd at *; omega)))) (by first | exact (om_338 c_9 h_x3.2) | ((first | omega | (unfold zBd at *; omega)))) (by decide) (fun x_76 ex_76 ls hl => ?_)
                      replace hl : lv_has ls 9 [(4, .int x_76), (0, .ref a0), (1, .int x0), (2, .long y0)] := hl
                      refine lv_goto (pc := 58) (tgt := 27) hx hb dX11_chosen_58 (by decide) ?_
                      exact ih_lp_8 x_76 (u_71.2.1 0) f_75 _ _ ls (by first | exact (om_339 ex_76 hi_5.1 c_9 h_x3.2) | ((first | omega | (unfold zBd at *; omega)))) (by (first | omega | (unfold zBd at *; omega))) (g_psub hP [0, 13, 14, 15, 16, 17, 18, 19, 20, 21, 1, 2, 3, 4, 5, 6, 7, 8, 9, 10, 11, 12] rfl) (hD.sub [0, 13, 14, 15, 16, 17, 18, 19, 20, 21, 1, 2, 3, 4, 5, 6, 7, 8, 9, 10, 11, 12] (by decide) rfl) hS (lv_sub hl [0, 1, 2, 3] rfl)
              exact lp_8 _ 0 f3 f6 _ _ ls (n_c tI_0 (by decide)) (Nat.lt_succ_self _) hP hD hS (lv_sub hl [0, 1, 2, 3] rfl)
          ·
            as_aux_lemma =>
              refine lv_iconst (pc := 22) (v := (-1)) hx hb dX11_chosen_22 (by decide) ?_
              exact hret (-1) ((fun _ => 0), (fun k => [f3, f6, f7, f8, f9, f10, f11].getD k (fun _ => 0)), (fun k => [g0, g1, g2, g3].getD k (fun _ => 0)), (fun k => [x11].getD k 0), (fun k => [y1].getD k 0)) dX11_chosen_23 ⟨(show ((((-1) : Int32).toInt = (-1) ∧ x0.toInt < 1) ∨ (((-1) : Int32).toInt = (-1) ∧ x0.toInt ≥ 1 ∧ x0.toInt > x3.toInt) ∨ (((-2147483648) ≤ ((-1) : Int32).toInt ∧ ((-1) : Int32).toInt ≤ 2147483647) ∧ x0.toInt ≥ 1 ∧ x0.toInt ≤ x3.toInt ∧ y0.toInt ≥ 0 ∧ (1 ≤ x3.toInt ∧ x3.toInt ≤ 5)) ∨ (((-1) : Int32).toInt = (-1) ∧ x0.toInt ≥ 1 ∧ x0.toInt ≤ x3.toInt ∧ y0.toInt < 0)) from (by have k9 := tI_m1; (first | omega | (unfold zBd at *; omega)))), (show (0 ≤ (x11 : Int32).toInt ∧ (x11 : Int32).toInt ≤ 4) from h_x11), hf_f7, hf_f8⟩ (g_psub (wc := (zS_108 cB cC cI cJ a0 a1 a2 a3 a4 a5 a6 a7 a8 a9 a10 x1 a11 a12 a13 a11 a14 a15 a16 x2 x3 x4 x5 x6 x7 x8 a14 a17 a17 f0 a15 a18 a19 a20 a21 a22 x9 x10 a20 f1 a21 f2 a22 f3 a18 f4 a19 f5 a9 f6 a4 a23 a24 a25 y1 a25 g0 a23 a26 a27 a28 a29 a30 a31 a32 x11 a26 g1 a28 g2 a27 g3 a31 f7 a32 f8 a29 f9 a30 f10 a24 f11)) hP [0, 1, 2, 3, 4, 5, 6, 7, 8, 9, 10, 11, 12, 13, 14, 15, 16, 17, 18, 19, 20, 21] rfl) (hD.sub (ws' := (zS_108 cB cC cI cJ a0 a1 a2 a3 a4 a5 a6 a7 a8 a9 a10 x1 a11 a12 a13 a11 a14 a15 a16 x2 x3 x4 x5 x6 x7 x8 a14 a17 a17 f0 a15 a18 a19 a20 a21 a22 x9 x10 a20 f1 a21 f2 a22 f3 a18 f4 a19 f5 a9 f6 a4 a23 a24 a25 y1 a25 g0 a23 a26 a27 a28 a29 a30 a31 a32 x11 a26 g1 a28 g2 a27 g3 a31 f7 a32 f8 a29 f9 a30 f10 a24 f11)) [0, 1, 2, 3, 4, 5, 6, 7, 8, 9, 10, 11, 12, 13, 14, 15, 16, 17, 18, 19, 20, 21] (by decide) rfl) hS
theorem om_1519 : (0 < 253) := by omega
theorem om_1520 {a : Int} (h0 : (-253 < a)) (h1 : (a < 253)) : (((-252) ≤ a ∧ a ≤ 252)) := by omega
theorem om_1521 {a : Int} (h0 : ((-252) ≤ a)) (h1 : (a ≤ 252)) : (((((-252) ≤ a ∧ a ≤ 252)))) := by omega
set_option maxHeartbeats 4000000 in
set_option maxRecDepth 100000 in
theorem k_X11_checkWith (l : Launch) (D : va_G) (cB cC cI cJ : ClassId) (sz : Nat) (x0 x1 : Int32) : Met l yX11_checkWith (.code yX11_checkWith cX11_checkWith 2 (some .int) :: lw_gd) ({ frames := 0, cells := 0, slots := 0, locals := 0 }) (gPre D [(cB, .byte), (cC, .char), (cI, .int), (cJ, .long)] [.int x0, .int x1] [] sz) (va_Qi (fun r u => ((((-252) ≤ r.toInt ∧ r.toInt ≤ 252)))) (gB D (va_A [] sz) (fun u : gEx => [])) (va_A [] sz)) 0 0 (va_A [] sz) := by
  refine gOf_i (by decide +kernel) (Nat.le_of_ble_eq_true rfl) ?_
  intro p e s m args below meth c ls A Q hx hb hts hown hml hN hK hP hD hA hl hret
  replace hown : s.vm.findClass RX11 = some m.cls := hown
  have hS : va_S A s.heap s.heap [] := va_S.rf
  replace hP : va_P D gcl [] s.heap := hP
  replace hl : lv_has ls 2 [(0, .int x0), (1, .int x1)] := hl
  have rx0 : zBd x0.toInt (-2147483648) 2147483647 := n_rng x0
  have rx1 : zBd x1.toInt (-2147483648) 2147483647 := n_rng x1
  refine lv_bipush (pc := 0) (v := 7) hx hb dX11_checkWith_0 (by decide) ?_
  refine lv_iload_n (pc := 2) hx hb dX11_checkWith_2 rfl (lv_at hl 0 rfl) ?_
  refine lv_imul (pc := 3) hx hb dX11_checkWith_3 ?_
  refine lv_topi (fun x_1 _ => ?_)
  have rx_1 : zBd x_1.toInt (-2147483648) 2147483647 := n_rng x_1
  refine lv_iload_n (pc := 4) hx hb dX11_checkWith_4 rfl (lv_at hl 1 rfl) ?_
  refine lv_iadd (pc := 5) hx hb dX11_checkWith_5 ?_
  refine lv_topi (fun x_2 _ => ?_)
  have rx_2 : zBd x_2.toInt (-2147483648) 2147483647 := n_rng x_2
  refine lv_sipush (pc := 6) (v := 253) hx hb dX11_checkWith_6 (by decide) ?_
  refine b_irem (pc := 9) hx hb rfl tI_253 (by first | exact (om_1519) | ((first | omega | (unfold zBd at *; omega)))) dX11_checkWith_9 (fun x_3 ex_3 => ?_)
  have rx_3 : ((-252) ≤ x_3.toInt ∧ x_3.toInt ≤ 252) := (by first | exact (om_1520 ex_3.1 ex_3.2.1) | ((first | omega | (unfold zBd at *; omega))))
  exact hret x_3 ((fun _ => 0), (fun _ => (fun _ => 0)), (fun _ => (fun _ => 0)), (fun _ => 0), (fun _ => 0)) dX11_checkWith_10 (show ((((-252) ≤ x_3.toInt ∧ x_3.toInt ≤ 252))) from (by first | exact (om_1521 rx_3.1 rx_3.2) | ((first | omega | (unfold zBd at *; omega))))) (g_psub (wc := []) hP [] rfl) (hD.sub (ws' := []) [] (by decide) rfl) hS
theorem om_1522 {a : Int} (h0 : (a ≤ 12)) : (a < (14 : Nat)) := by omega
theorem om_1523 {a : Int} (h0 : (a ≤ 12)) : (a + 1 ≤ 2147483647) := by omega
theorem om_1524 {a b : Int} (h0 : (a = b + 1)) (h1 : (b ≤ 12)) : (a < (14 : Nat)) := by omega
theorem om_1525 {a b : Int} (h0 : (a = b + 1)) (h1 : (b ≤ 12)) : (a + 1 ≤ 2147483647) := by omega
theorem om_1526 {a b c : Int} (h0 : (a = b + 1)) (h1 : (b = c + 1)) (h2 : (0 ≤ c)) (h3 : (c ≤ 12)) : ((2 ≤ a ∧ a ≤ 14)) := by omega
theorem om_1527 {a b c : Int} (h0 : (a = b + 1)) (h1 : (b = c + 1)) (h2 : (0 ≤ c)) (h3 : (c ≤ 12)) : ((0 ≤ a ∧ a ≤ 14)) := by omega
theorem om_1528 {a b c d e : Int} (h0 : (a = c + 1)) (h1 : (d ≥ b)) (h2 : (c = e + 1)) (h3 : (e = 2 * d)) (h4 : (d ≤ b ∨ d = 0)) : (a = 2 * b + 2 ∨ b < 0) := by omega
theorem om_1529 {a b c : Int} (h0 : (a < b)) (h1 : (b = c + 1)) (h2 : (c ≤ 12)) : (a < (14 : Nat)) := by omega
theorem om_1530 {a b c : Int} (h0 : (a < b)) (h1 : (b = c + 1)) (h2 : (c ≤ 12)) : (a + 1 ≤ 2147483647) := by omega
theorem om_1531 {a b c d : Int} (h0 : (a = b + 1)) (h1 : (0 ≤ b)) (h2 : (b < c)) (h3 : (c = d + 1)) (h4 : (d ≤ 12)) : ((0 ≤ a ∧ a ≤ 2147483647)) := by omega
theorem om_1532 {a : Int} (h0 : (a ≤ 12)) : (a + 2 ≤ 2147483647) := by omega
theorem om_1533 {a b : Int} (h0 : (a = b + 1)) (h1 : (0 ≤ b)) (h2 : (b ≤ 6)) : ((0 ≤ a ∧ a ≤ 2147483647)) := by omega
theorem om_1534 {a b c d : Int} (h0 : (a = b + 2)) (h1 : (0 ≤ b)) (h2 : (b = 2 * c)) (h3 : (c < d)) (h4 : (d ≤ 6)) : ((0 ≤ a ∧ a ≤ 12)) := by omega
theorem om_1535 {a b c d : Int} (h0 : (b = c + 1)) (h1 : (a = d + 2)) (h2 : (d = 2 * c)) : (a = 2 * b) := by omega
theorem om_1536 {a b c : Int} (h0 : (a = b + 1)) (h1 : (b < c)) (h2 : (c ≤ 6)) : (a ≤ 6) := by omega
theorem om_1537 {a : Int} (h0 : (a = 0)) : (a = 2 * a) := by omega
theorem om_1538 {a : Int} (h0 : (a = 0)) : (a ≤ 6) := by omega
set_option maxHeartbeats 4000000 in
set_option maxRecDepth 100000 in
theorem k_X11_image (l : Launch) (D : va_G) (cB cC cI cJ : ClassId) (sz : Nat) (a0 a1 a2 a3 a4 a5 a6 a7 a8 a9 a10 a11 a12 a13 a14 a15 a16 a17 a18 a19 : Nat) (x0 x1 x2 x3 x4 x5 x6 x7 x8 x9 x10 x11 x12 : Int32) (f0 f1 : Nat → Int32) (h_x0 : zBd x0.toInt 0 14) (h_x1 : zBd x1.toInt (-1) 8) (h_x2 : zBd x2.toInt (-1) 5) (h_x3 : zBd x3.toInt (-1) 6) (h_x4 : zBd x4.toInt 0 6) (h_x5 : zBd x5.toInt 0 16) (h_x8 : zBd x8.toInt (-1) 5) (h_x9 : zBd x9.toInt 0 39) (h_x10 : zBd x10.toInt 0 40) (h_x11 : zBd x11.toInt 0 40) (hr_a12_0 : (x10.toInt + x11.toInt ≤ 40)) : Met l yX11_image (.code yX11_image cX11_image 4 (some .int) :: lw_gd) ({ frames := 1, cells := 0, slots := 0, locals := 21 }) (gPre D [(cB, .byte), (cC, .char), (cI, .int), (cJ, .long)] [.ref a0] (zS_89 cB cC cI cJ a0 a1 a2 a3 a4 a5 a6 a7 a8 a9 a10 x0 a11 a12 a13 a11 a14 a15 a16 x1 x2 x3 x4 x5 x6 x7 a12 a17 a18 a19 x8 x9 x10 x11 x12 a10 f0 a7 f1) sz) (va_Qi (fun r u => (2 ≤ r.toInt ∧ r.toInt ≤ 14) ∧ (0 ≤ (u.2.2.2.1 0).toInt ∧ (u.2.2.2.1 0).toInt ≤ 14) ∧ (r.toInt = 2 * x3.toInt + 2 ∨ x3.toInt < 0)) (gB D (va_A (zS_89 cB cC cI cJ a0 a1 a2 a3 a4 a5 a6 a7 a8 a9 a10 x0 a11 a12 a13 a11 a14 a15 a16 x1 x2 x3 x4 x5 x6 x7 a12 a17 a18 a19 x8 x9 x10 x11 x12 a10 f0 a7 f1) sz) (fun u : gEx => (zS_89 cB cC cI cJ a0 a1 a2 a3 a4 a5 a6 a7 a8 a9 a10 (u.2.2.2.1 0) a11 a12 a13 a11 a14 a15 a16 x1 x2 x3 x4 x5 x6 x7 a12 a17 a18 a19 x8 x9 x10 x11 x12 a10 (u.2.1 0) a7 f1))) (va_A (zS_89 cB cC cI cJ a0 a1 a2 a3 a4 a5 a6 a7 a8 a9 a10 x0 a11 a12 a13 a11 a14 a15 a16 x1 x2 x3 x4 x5 x6 x7 a12 a17 a18 a19 x8 x9 x10 x11 x12 a10 f0 a7 f1) sz)) 0 0 (va_A (zS_89 cB cC cI cJ a0 a1 a2 a3 a4 a5 a6 a7 a8 a9 a10 x0 a11 a12 a13 a11 a14 a15 a16 x1 x2 x3 x4 x5 x6 x7 a12 a17 a18 a19 x8 x9 x10 x11 x12 a10 f0 a7 f1) sz) := by
  refine gOf_i (by decide +kernel) (Nat.le_of_ble_eq_true rfl) ?_
  intro p e s m args below meth c ls A Q hx hb hts hown hml hN hK hP hD hA hl hret
  replace hown : s.vm.findClass RX11 = some m.cls := hown
  have hS : va_S A s.heap s.heap [] := va_S.rf
  replace hP : va_P D gcl (zS_89 cB cC cI cJ a0 a1 a2 a3 a4 a5 a6 a7 a8 a9 a10 x0 a11 a12 a13 a11 a14 a15 a16 x1 x2 x3 x4 x5 x6 x7 a12 a17 a18 a19 x8 x9 x10 x11 x12 a10 f0 a7 f1) s.heap := hP
  replace hl : lv_has ls 4 [(0, .ref a0)] := hl
  have rx6 : zBd x6.toInt (-2147483648) 2147483647 := n_rng x6
  have rx7 : zBd x7.toInt (-2147483648) 2147483647 := n_rng x7
  have rx12 : zBd x12.toInt (-2147483648) 2147483647 := n_rng x12
  refine lv_iconst (pc := 0) (v := 0) hx hb dX11_image_0 (by decide) ?_
  refine lv_istore_n (pc := 1) (lv' := [(1, .int 0), (0, .ref a0)]) hx hb dX11_image_1 rfl hl (by decide) rfl (fun ls hl => ?_)
  refine lv_iconst (pc := 2) (v := 0) hx hb dX11_image_2 (by decide) ?_
  refine lv_istore_n (pc := 3) (lv' := [(2, .int 0), (1, .int 0), (0, .ref a0)]) hx hb dX11_image_3 rfl hl (by decide) rfl (fun ls hl => ?_)
  have lp_9 : ∀ (n : Nat) (x_1 x_3 : Int32) (f_5 : Nat → Int32) (H : Heap) (locs : List Loc) (ls : Array Slot), (0 ≤ x_1.toInt ∧ x_1.toInt ≤ 2147483647) → (0 ≤ x_3.toInt ∧ x_3.toInt ≤ 12) → x_3.toInt = 2 * x_1.toInt → x_1.toInt ≤ 6 → (x_1.toInt ≤ x3.toInt ∨ x_1.toInt = 0) → (2147483647 - x_1.toInt).toNat < n → va_P D gcl (zS_89 cB cC cI cJ a0 a1 a2 a3 a4 a5 a6 a7 a8 a9 a10 x0 a11 a12 a13 a11 a14 a15 a16 x1 x2 x3 x4 x5 x6 x7 a12 a17 a18 a19 x8 x9 x10 x11 x12 a10 f_5 a7 f1) H → va_D A (zS_89 cB cC cI cJ a0 a1 a2 a3 a4 a5 a6 a7 a8 a9 a10 x0 a11 a12 a13 a11 a14 a15 a16 x1 x2 x3 x4 x5 x6 x7 a12 a17 a18 a19 x8 x9 x10 x11 x12 a10 f_5 a7 f1) → va_S A s.heap H locs → lv_has ls 4 [(2, .int x_1), (1, .int x_3), (0, .ref a0)] → W p l e ({ frames := 1, cells := 0, slots := 0, locals := 21 }) s m args below meth c H locs 0 0 Q (F0 m 4 ls []) := by
    intro n
    induction n with
    | zero => intro x_1 x_3 f_5 H locs ls hi_2 hi_4 hi_6 hi_7 hi_8 hmu; exact absurd hmu (Nat.not_lt_zero _)
    | succ n ih_lp_9 =>
      intro x_1 x_3 f_5 H locs ls hi_2 hi_4 hi_6 hi_7 hi_8 hmu_lp_9 hP hD hS hl
      refine lv_iload_n (pc := 4) hx hb dX11_image_4 rfl (lv_at hl 0 rfl) ?_
      refine lv_aload_n (pc := 5) hx hb dX11_image_5 rfl (lv_at hl 2 rfl) ?_
      refine va_get (pc := 6) (ci := 11) (v := .ref a11) (C := RX11) (T := TX11) (N := 14) hx hb hts iX11 hown hK hP 0 rfl rfl 11 (by decide) (hts _ tw_431) (fun _ h9 => h9) rfl dX11_image_6 ?_
      refine va_getN (pc := 9) (ci := 1) (v := .int x3) (C := RX1) (T := TX1) (N := 10) hx hb hts iX1 hown hK hP 1 rfl rfl 5 (by decide) (va_Nw.use rfl (hN _ tn_128)) (fun _ h9 => h9) rfl dX11_image_9 ?_
      refine b_icmp_ge (pc := 12) (tgt := 61) hx hb rfl rfl  dX11_image_12 (by decide) (fun c_10 => ?_) (fun c_10 => ?_)
      ·
        as_aux_lemma =>
          refine lv_aload_n (pc := 61) hx hb dX11_image_61 rfl (lv_at hl 2 rfl) ?_
          refine va_get (pc := 62) (ci := 11) (v := .ref a10) (C := RX11) (T := TX11) (N := 14) hx hb hts iX11 hown hK hP 0 rfl rfl 9 (by decide) (hts _ tw_429) (fun _ h9 => h9) rfl dX11_image_62 ?_
          refine lv_iload_n (pc := 65) hx hb dX11_image_65 rfl (lv_at hl 1 rfl) ?_
          refine lv_aload_n (pc := 66) hx hb dX11_image_66 rfl (lv_at hl 2 rfl) ?_
          refine va_get (pc := 67) (ci := 11) (v := .ref a12) (C := RX11) (T := TX11) (N := 14) hx hb hts iX11 hown hK hP 0 rfl rfl 12 (by decide) (hts _ tw_432) (fun _ h9 => h9) rfl dX11_image_67 ?_
          refine va_getN (pc := 70) (ci := 2) (v := .int x12) (C := RX2) (T := TX2) (N := 8) hx hb hts iX2 hown hK hP 2 rfl rfl 7 (by decide) (va_Nw.use rfl (hN _ tn_402)) (fun _ h9 => h9) rfl dX11_image_70 ?_
          refine g_iastore (pc := 73) hx hb hK hP hD hS 3 2 rfl rfl (n_in rfl (by first | exact (om_0 hi_4.1) | ((first | omega | (unfold zBd at *; omega)))) (by first | exact (om_1522 hi_4.2) | ((first | omega | (unfold zBd at *; omega))))) dX11_image_73 (fun f_11 H locs hP hD hS => ?_)
          replace hP : va_P D gcl (zS_89 cB cC cI cJ a0 a1 a2 a3 a4 a5 a6 a7 a8 a9 a10 x0 a11 a12 a13 a11 a14 a15 a16 x1 x2 x3 x4 x5 x6 x7 a12 a17 a18 a19 x8 x9 x10 x11 x12 a10 f_11 a7 f1) H := hP
          replace hD : va_D A (zS_89 cB cC cI cJ a0 a1 a2 a3 a4 a5 a6 a7 a8 a9 a10 x0 a11 a12 a13 a11 a14 a15 a16 x1 x2 x3 x4 x5 x6 x7 a12 a17 a18 a19 x8 x9 x10 x11 x12 a10 f_11 a7 f1) := hD
          refine b_iinc (pc := 74) hx hb dX11_image_74 hl (k := 1) rfl rfl tI_1 (by first | exact (om_2 hi_4.1) | ((first | omega | (unfold zBd at *; omega)))) (by first | exact (om_1523 hi_4.2) | ((first | omega | (unfold zBd at *; omega)))) (by decide) (fun x_12 ex_12 ls hl => ?_)
          replace hl : lv_has ls 4 [(1, .int x_12), (2, .int x_1), (0, .ref a0)] := hl
          refine lv_bipush (pc := 77) (v := 51) hx hb dX11_image_77 (by decide) ?_
          refine lv_istore_n (pc := 79) (lv' := [(2, .int 51), (1, .int x_12), (0, .ref a0)]) hx hb dX11_image_79 rfl hl (by decide) rfl (fun ls hl => ?_)
          as_aux_lemma =>
            refine lv_iconst (pc := 80) (v := 0) hx hb dX11_image_80 (by decide) ?_
            refine lv_istore_n (pc := 81) (lv' := [(3, .int 0), (2, .int 51), (1, .int x_12), (0, .ref a0)]) hx hb dX11_image_81 rfl hl (by decide) rfl (fun ls hl => ?_)
            have lp_17 : ∀ (n : Nat) (x_13 x_15 : Int32) (H : Heap) (locs : List Loc) (ls : Array Slot), (0 ≤ x_13.toInt ∧ x_13.toInt ≤ 2147483647) → (2147483647 - x_13.toInt).toNat < n → va_P D gcl (zS_89 cB cC cI cJ a0 a1 a2 a3 a4 a5 a6 a7 a8 a9 a10 x0 a11 a12 a13 a11 a14 a15 a16 x1 x2 x3 x4 x5 x6 x7 a12 a17 a18 a19 x8 x9 x10 x11 x12 a10 f_11 a7 f1) H → va_D A (zS_89 cB cC cI cJ a0 a1 a2 a3 a4 a5 a6 a7 a8 a9 a10 x0 a11 a12 a13 a11 a14 a15 a16 x1 x2 x3 x4 x5 x6 x7 a12 a17 a18 a19 x8 x9 x10 x11 x12 a10 f_11 a7 f1) → va_S A s.heap H locs → lv_has ls 4 [(3, .int x_13), (2, .int x_15), (1, .int x_12), (0, .ref a0)] → W p l e ({ frames := 1, cells := 0, slots := 0, locals := 21 }) s m args below meth c H locs 0 0 Q (F0 m 82 ls []) := by
              intro n
              induction n with
              | zero => intro x_13 x_15 H locs ls hi_14 hmu; exact absurd hmu (Nat.not_lt_zero _)
              | succ n ih_lp_17 =>
                intro x_13 x_15 H locs ls hi_14 hmu_lp_17 hP hD hS hl
                have hi_16 := n_rng x_15
                refine lv_iload_n (pc := 82) hx hb dX11_image_82 rfl (lv_at hl 0 rfl) ?_
                refine lv_iload_n (pc := 83) hx hb dX11_image_83 rfl (lv_at hl 2 rfl) ?_
                refine b_icmp_ge (pc := 84) (tgt := 104) hx hb rfl rfl  dX11_image_84 (by decide) (fun c_18 => ?_) (fun c_18 => ?_)
                ·
                  as_aux_lemma =>
                    refine lv_aload_n (pc := 104) hx hb dX11_image_104 rfl (lv_at hl 3 rfl) ?_
                    refine va_get (pc := 105) (ci := 11) (v := .ref a10) (C := RX11) (T := TX11) (N := 14) hx hb hts iX11 hown hK hP 0 rfl rfl 9 (by decide) (hts _ tw_429) (fun _ h9 => h9) rfl dX11_image_105 ?_
                    refine lv_iload_n (pc := 108) hx hb dX11_image_108 rfl (lv_at hl 2 rfl) ?_
                    refine lv_iload_n (pc := 109) hx hb dX11_image_109 rfl (lv_at hl 1 rfl) ?_
                    refine g_iastore (pc := 110) hx hb hK hP hD hS 3 2 rfl rfl (n_in rfl (by first | exact (om_918 ex_12 hi_4.1) | ((first | omega | (unfold zBd at *; omega)))) (by first | exact (om_1524 ex_12 hi_4.2) | ((first | omega | (unfold zBd at *; omega))))) dX11_image_110 (fun f_19 H locs hP hD hS => ?_)
                    replace hP : va_P D gcl (zS_89 cB cC cI cJ a0 a1 a2 a3 a4 a5 a6 a7 a8 a9 a10 x0 a11 a12 a13 a11 a14 a15 a16 x1 x2 x3 x4 x5 x6 x7 a12 a17 a18 a19 x8 x9 x10 x11 x12 a10 f_19 a7 f1) H := hP
                    replace hD : va_D A (zS_89 cB cC cI cJ a0 a1 a2 a3 a4 a5 a6 a7 a8 a9 a10 x0 a11 a12 a13 a11 a14 a15 a16 x1 x2 x3 x4 x5 x6 x7 a12 a17 a18 a19 x8 x9 x10 x11 x12 a10 f_19 a7 f1) := hD
                    refine lv_aload_n (pc := 111) hx hb dX11_image_111 rfl (lv_at hl 3 rfl) ?_
                    refine lv_iload_n (pc := 112) hx hb dX11_image_112 rfl (lv_at hl 2 rfl) ?_
                    refine lv_iconst (pc := 113) (v := 1) hx hb dX11_image_113 (by decide) ?_
                    refine b_iadd (pc := 114) hx hb rfl tI_1 (by first | exact (om_1007 ex_12 hi_4.1) | ((first | omega | (unfold zBd at *; omega)))) (by first | exact (om_1525 ex_12 hi_4.2) | ((first | omega | (unfold zBd at *; omega)))) dX11_image_114 (fun x_20 ex_20 => ?_)
                    refine va_put (pc := 115) (ci := 11) (v := .int x_20) (ty := .int) (C := RX11) (T := TX11) (N := 14) hx hb hts iX11 tyX11 tyX11_ok nmX11 hown hK hP hD hS 0 rfl rfl 10 (by decide) (hts _ tw_430) (fun _ h9 => h9) rfl (by decide +kernel) rfl rfl (Nat.le_of_ble_eq_true rfl) dX11_image_115 (fun H locs hP hD hS => ?_)
                    replace hP : va_P D gcl (zS_89 cB cC cI cJ a0 a1 a2 a3 a4 a5 a6 a7 a8 a9 a10 x_20 a11 a12 a13 a11 a14 a15 a16 x1 x2 x3 x4 x5 x6 x7 a12 a17 a18 a19 x8 x9 x10 x11 x12 a10 f_19 a7 f1) H := hP
                    replace hD : va_D A (zS_89 cB cC cI cJ a0 a1 a2 a3 a4 a5 a6 a7 a8 a9 a10 x_20 a11 a12 a13 a11 a14 a15 a16 x1 x2 x3 x4 x5 x6 x7 a12 a17 a18 a19 x8 x9 x10 x11 x12 a10 f_19 a7 f1) := hD
                    as_aux_lemma =>
                      refine lv_aload_n (pc := 118) hx hb dX11_image_118 rfl (lv_at hl 3 rfl) ?_
                      refine va_get (pc := 119) (ci := 11) (v := .int x_20) (C := RX11) (T := TX11) (N := 14) hx hb hts iX11 hown hK hP 0 rfl rfl 10 (by decide) (hts _ tw_430) (fun _ h9 => h9) rfl dX11_image_119 ?_
                      exact hret x_20 ((fun _ => 0), (fun k => [f_19].getD k (fun _ => 0)), (fun _ => (fun _ => 0)), (fun k => [x_20].getD k 0), (fun _ => 0)) dX11_image_122 ⟨(show (2 ≤ x_20.toInt ∧ x_20.toInt ≤ 14) from (by first | exact (om_1526 ex_20 ex_12 hi_4.1 hi_4.2) | ((first | omega | (unfold zBd at *; omega))))), (show (0 ≤ (x_20 : Int32).toInt ∧ (x_20 : Int32).toInt ≤ 14) from (by first | exact (om_1527 ex_20 ex_12 hi_4.1 hi_4.2) | ((first | omega | (unfold zBd at *; omega))))), (show x_20.toInt = 2 * x3.toInt + 2 ∨ x3.toInt < 0 from (by first | exact (om_1528 ex_20 c_10 ex_12 hi_6 hi_8) | ((first | omega | (unfold zBd at *; omega)))))⟩ (g_psub (wc := (zS_89 cB cC cI cJ a0 a1 a2 a3 a4 a5 a6 a7 a8 a9 a10 x_20 a11 a12 a13 a11 a14 a15 a16 x1 x2 x3 x4 x5 x6 x7 a12 a17 a18 a19 x8 x9 x10 x11 x12 a10 f_19 a7 f1)) hP [0, 1, 2, 3, 4] rfl) (hD.sub (ws' := (zS_89 cB cC cI cJ a0 a1 a2 a3 a4 a5 a6 a7 a8 a9 a10 x_20 a11 a12 a13 a11 a14 a15 a16 x1 x2 x3 x4 x5 x6 x7 a12 a17 a18 a19 x8 x9 x10 x11 x12 a10 f_19 a7 f1)) [0, 1, 2, 3, 4] (by decide) rfl) hS
                ·
                  as_aux_lemma =>
                    refine lv_iload_n (pc := 87) hx hb dX11_image_87 rfl (lv_at hl 1 rfl) ?_
                    refine lv_aload_n (pc := 88) hx hb dX11_image_88 rfl (lv_at hl 3 rfl) ?_
                    refine va_get (pc := 89) (ci := 11) (v := .ref a10) (C := RX11) (T := TX11) (N := 14) hx hb hts iX11 hown hK hP 0 rfl rfl 9 (by decide) (hts _ tw_429) (fun _ h9 => h9) rfl dX11_image_89 ?_
                    refine lv_iload_n (pc := 92) hx hb dX11_image_92 rfl (lv_at hl 0 rfl) ?_
                    refine va_iald (pc := 93) hx hb hK hP 3 2 rfl rfl (n_in rfl (by first | exact (om_0 hi_14.1) | ((first | omega | (unfold zBd at *; omega)))) (by first | exact (om_1529 c_18 ex_12 hi_4.2) | ((first | omega | (unfold zBd at *; omega))))) dX11_image_93 ?_
                    refine lv_topi (fun x_21 ex_21 => ?_)
                    have rx_21 : zBd x_21.toInt (-2147483648) 2147483647 := n_rng x_21
                    refine gd_i (pc := 94) (wc := []) hP hD hS hA [] rfl (by decide +kernel) (fun _ => by rfl) (fun hPc hDc => va_runS (As := [.int x_15, .int x_21]) (rest := []) ⟨hx, hb, hml, hown, hts⟩ (k_X11_checkWith l D cB cC cI cJ _ x_15 x_21) ⟨gcwB hts tw_1381 tw_1 tw_1379 hd_yX11_checkWith ⟨Nat.le_of_ble_eq_true rfl, Nat.le_of_ble_eq_true rfl⟩, hts _ tw_1380⟩ (gpreS hPc hK hDc hN) rfl rfl hl.1 rfl (lv_room (Nat.le_of_ble_eq_true rfl)) dX11_image_94 ⟨Nat.le_of_ble_eq_true rfl, Nat.le_of_ble_eq_true rfl⟩) (fun r_23 u_22 H locs hw_24 hP hD hS => ?_)
                    replace hP : va_P D gcl (zS_89 cB cC cI cJ a0 a1 a2 a3 a4 a5 a6 a7 a8 a9 a10 x0 a11 a12 a13 a11 a14 a15 a16 x1 x2 x3 x4 x5 x6 x7 a12 a17 a18 a19 x8 x9 x10 x11 x12 a10 f_11 a7 f1) H := hP
                    replace hD : va_D A (zS_89 cB cC cI cJ a0 a1 a2 a3 a4 a5 a6 a7 a8 a9 a10 x0 a11 a12 a13 a11 a14 a15 a16 x1 x2 x3 x4 x5 x6 x7 a12 a17 a18 a19 x8 x9 x10 x11 x12 a10 f_11 a7 f1) := hD
                    have hw_25 : ((((-252) ≤ r_23.toInt ∧ r_23.toInt ≤ 252))) := hw_24
                    have rr_23 : zBd r_23.toInt (-2147483648) 2147483647 := n_rng r_23
                    refine lv_istore_n (pc := 97) (lv' := [(2, .int r_23), (3, .int x_13), (1, .int x_12), (0, .ref a0)]) hx hb dX11_image_97 rfl hl (by decide) rfl (fun ls hl => ?_)
                    refine b_iinc (pc := 98) hx hb dX11_image_98 hl (k := 1) rfl rfl tI_1 (by first | exact (om_2 hi_14.1) | ((first | omega | (unfold zBd at *; omega)))) (by first | exact (om_1530 c_18 ex_12 hi_4.2) | ((first | omega | (unfold zBd at *; omega)))) (by decide) (fun x_26 ex_26 ls hl => ?_)
                    replace hl : lv_has ls 4 [(3, .int x_26), (2, .int r_23), (1, .int x_12), (0, .ref a0)] := hl
                    refine lv_goto (pc := 101) (tgt := 82) hx hb dX11_image_101 (by decide) ?_
                    exact ih_lp_17 x_26 r_23 _ _ ls (by first | exact (om_1531 ex_26 hi_14.1 c_18 ex_12 hi_4.2) | ((first | omega | (unfold zBd at *; omega)))) (by (first | omega | (unfold zBd at *; omega))) hP hD hS (lv_sub hl [0, 1, 2, 3] rfl)
            exact lp_17 _ 0 51 _ _ ls (n_c tI_0 (by decide)) (Nat.lt_succ_self _) hP hD hS (lv_sub hl [0, 1, 2, 3] rfl)
      ·
        as_aux_lemma =>
          refine lv_aload_n (pc := 15) hx hb dX11_image_15 rfl (lv_at hl 2 rfl) ?_
          refine va_get (pc := 16) (ci := 11) (v := .ref a10) (C := RX11) (T := TX11) (N := 14) hx hb hts iX11 hown hK hP 0 rfl rfl 9 (by decide) (hts _ tw_429) (fun _ h9 => h9) rfl dX11_image_16 ?_
          refine lv_iload_n (pc := 19) hx hb dX11_image_19 rfl (lv_at hl 1 rfl) ?_
          refine lv_aload_n (pc := 20) hx hb dX11_image_20 rfl (lv_at hl 2 rfl) ?_
          refine va_get (pc := 21) (ci := 11) (v := .ref a7) (C := RX11) (T := TX11) (N := 14) hx hb hts iX11 hown hK hP 0 rfl rfl 6 (by decide) (hts _ tw_426) (fun _ h9 => h9) rfl dX11_image_21 ?_
          refine lv_iload_n (pc := 24) hx hb dX11_image_24 rfl (lv_at hl 0 rfl) ?_
          refine va_iald (pc := 25) hx hb hK hP 4 2 rfl rfl (n_in rfl (by first | exact (om_0 hi_2.1) | ((first | omega | (unfold zBd at *; omega)))) (by first | exact (om_1083 c_10 h_x3.2) | ((first | omega | (unfold zBd at *; omega))))) dX11_image_25 ?_
          refine lv_topi (fun x_27 ex_27 => ?_)
          have rx_27 : zBd x_27.toInt (-2147483648) 2147483647 := n_rng x_27
          refine lv_bipush (pc := 26) (v := 8) hx hb dX11_image_26 (by decide) ?_
          refine lv_ishr (pc := 28) hx hb dX11_image_28 ?_
          as_aux_lemma =>
            refine lv_topi (fun x_28 _ => ?_)
            have rx_28 : zBd x_28.toInt (-2147483648) 2147483647 := n_rng x_28
            refine lv_sipush (pc := 29) (v := 255) hx hb dX11_image_29 (by decide) ?_
            refine b_iand (pc := 32) (M := 255) hx hb 8 (by decide +kernel) (by decide) (by decide) dX11_image_32 (fun x_29 ex_29 => ?_)
            have rx_29 : (0 ≤ x_29.toInt ∧ x_29.toInt ≤ 255) := ex_29
            refine g_iastore (pc := 33) hx hb hK hP hD hS 3 2 rfl rfl (n_in rfl (by first | exact (om_0 hi_4.1) | ((first | omega | (unfold zBd at *; omega)))) (by first | exact (om_1522 hi_4.2) | ((first | omega | (unfold zBd at *; omega))))) dX11_image_33 (fun f_30 H locs hP hD hS => ?_)
            replace hP : va_P D gcl (zS_89 cB cC cI cJ a0 a1 a2 a3 a4 a5 a6 a7 a8 a9 a10 x0 a11 a12 a13 a11 a14 a15 a16 x1 x2 x3 x4 x5 x6 x7 a12 a17 a18 a19 x8 x9 x10 x11 x12 a10 f_30 a7 f1) H := hP
            replace hD : va_D A (zS_89 cB cC cI cJ a0 a1 a2 a3 a4 a5 a6 a7 a8 a9 a10 x0 a11 a12 a13 a11 a14 a15 a16 x1 x2 x3 x4 x5 x6 x7 a12 a17 a18 a19 x8 x9 x10 x11 x12 a10 f_30 a7 f1) := hD
            refine lv_aload_n (pc := 34) hx hb dX11_image_34 rfl (lv_at hl 2 rfl) ?_
            refine va_get (pc := 35) (ci := 11) (v := .ref a10) (C := RX11) (T := TX11) (N := 14) hx hb hts iX11 hown hK hP 0 rfl rfl 9 (by decide) (hts _ tw_429) (fun _ h9 => h9) rfl dX11_image_35 ?_
            refine lv_iload_n (pc := 38) hx hb dX11_image_38 rfl (lv_at hl 1 rfl) ?_
            refine lv_iconst (pc := 39) (v := 1) hx hb dX11_image_39 (by decide) ?_
            refine b_iadd (pc := 40) hx hb rfl tI_1 (by first | exact (om_2 hi_4.1) | ((first | omega | (unfold zBd at *; omega)))) (by first | exact (om_1523 hi_4.2) | ((first | omega | (unfold zBd at *; omega)))) dX11_image_40 (fun x_31 ex_31 => ?_)
            refine lv_aload_n (pc := 41) hx hb dX11_image_41 rfl (lv_at hl 2 rfl) ?_
            as_aux_lemma =>
              refine va_get (pc := 42) (ci := 11) (v := .ref a7) (C := RX11) (T := TX11) (N := 14) hx hb hts iX11 hown hK hP 0 rfl rfl 6 (by decide) (hts _ tw_426) (fun _ h9 => h9) rfl dX11_image_42 ?_
              refine lv_iload_n (pc := 45) hx hb dX11_image_45 rfl (lv_at hl 0 rfl) ?_
              refine va_iald (pc := 46) hx hb hK hP 4 2 rfl rfl (n_in rfl (by first | exact (om_0 hi_2.1) | ((first | omega | (unfold zBd at *; omega)))) (by first | exact (om_1083 c_10 h_x3.2) | ((first | omega | (unfold zBd at *; omega))))) dX11_image_46 ?_
              refine gI (y := x_27) ex_27.symm ?_
              refine lv_sipush (pc := 47) (v := 255) hx hb dX11_image_47 (by decide) ?_
              refine b_iand (pc := 50) (M := 255) hx hb 8 (by decide +kernel) (by decide) (by decide) dX11_image_50 (fun x_32 ex_32 => ?_)
              have rx_32 : (0 ≤ x_32.toInt ∧ x_32.toInt ≤ 255) := ex_32
              refine g_iastore (pc := 51) hx hb hK hP hD hS 3 2 rfl rfl (n_in rfl (by first | exact (om_918 ex_31 hi_4.1) | ((first | omega | (unfold zBd at *; omega)))) (by first | exact (om_1524 ex_31 hi_4.2) | ((first | omega | (unfold zBd at *; omega))))) dX11_image_51 (fun f_33 H locs hP hD hS => ?_)
              replace hP : va_P D gcl (zS_89 cB cC cI cJ a0 a1 a2 a3 a4 a5 a6 a7 a8 a9 a10 x0 a11 a12 a13 a11 a14 a15 a16 x1 x2 x3 x4 x5 x6 x7 a12 a17 a18 a19 x8 x9 x10 x11 x12 a10 f_33 a7 f1) H := hP
              replace hD : va_D A (zS_89 cB cC cI cJ a0 a1 a2 a3 a4 a5 a6 a7 a8 a9 a10 x0 a11 a12 a13 a11 a14 a15 a16 x1 x2 x3 x4 x5 x6 x7 a12 a17 a18 a19 x8 x9 x10 x11 x12 a10 f_33 a7 f1) := hD
              refine b_iinc (pc := 52) hx hb dX11_image_52 hl (k := 1) rfl rfl tI_2 (by first | exact (om_854 hi_4.1) | ((first | omega | (unfold zBd at *; omega)))) (by first | exact (om_1532 hi_4.2) | ((first | omega | (unfold zBd at *; omega)))) (by decide) (fun x_34 ex_34 ls hl => ?_)
              replace hl : lv_has ls 4 [(1, .int x_34), (2, .int x_1), (0, .ref a0)] := hl
              refine b_iinc (pc := 55) hx hb dX11_image_55 hl (k := 1) rfl rfl tI_1 (by first | exact (om_2 hi_2.1) | ((first | omega | (unfold zBd at *; omega)))) (by first | exact (om_38 hi_7) | ((first | omega | (unfold zBd at *; omega)))) (by decide) (fun x_35 ex_35 ls hl => ?_)
              replace hl : lv_has ls 4 [(2, .int x_35), (1, .int x_34), (0, .ref a0)] := hl
              refine lv_goto (pc := 58) (tgt := 4) hx hb dX11_image_58 (by decide) ?_
              exact ih_lp_9 x_35 x_34 f_33 _ _ ls (by first | exact (om_1533 ex_35 hi_2.1 hi_7) | ((first | omega | (unfold zBd at *; omega)))) (by first | exact (om_1534 ex_34 hi_4.1 hi_6 c_10 h_x3.2) | ((first | omega | (unfold zBd at *; omega)))) (by first | exact (om_1535 ex_35 ex_34 hi_6) | ((first | omega | (unfold zBd at *; omega)))) (by first | exact (om_1536 ex_35 c_10 h_x3.2) | ((first | omega | (unfold zBd at *; omega)))) (by first | exact (om_344 ex_35 c_10) | ((first | omega | (unfold zBd at *; omega)))) (by (first | omega | (unfold zBd at *; omega))) hP hD hS (lv_sub hl [0, 1, 2] rfl)
  exact lp_9 _ 0 0 f0 _ _ ls (n_c tI_0 (by decide)) (n_c tI_0 (by decide)) (by first | exact (om_1537 tI_0) | (have k0 := tI_0; (first | omega | (unfold zBd at *; omega)))) (by first | exact (om_1538 tI_0) | (have k0 := tI_0; (first | omega | (unfold zBd at *; omega)))) (by have q := tI_0; (first | omega | (unfold zBd at *; omega))) (Nat.lt_succ_self _) hP hD hS (lv_sub hl [0, 1, 2] rfl)
theorem om_1539 {a b c : Int} (h0 : (a = (-1))) : (((a = (-1) ∧ b < 0) ∨ (a = (-1) ∧ b ≥ 0 ∧ b ≥ c) ∨ (((-2147483648) ≤ a ∧ a ≤ 2147483647) ∧ b ≥ 0 ∧ b < c))) := by omega
theorem om_1540 {a b c : Int} (h0 : (a = (-1))) (h1 : (b ≥ c)) : (((a = (-1) ∧ b < 0) ∨ (a = (-1) ∧ b ≥ 0 ∧ b ≥ c) ∨ (((-2147483648) ≤ a ∧ a ≤ 2147483647) ∧ b ≥ 0 ∧ b < c))) := by omega
theorem om_1541 {a b : Int} (h0 : (a < b)) (h1 : (b ≤ 14)) : (a < (14 : Nat)) := by omega
theorem om_1542 {a b c : Int} (h0 : ((-2147483648) ≤ a)) (h1 : (b ≥ 0)) (h2 : (b < c)) (h3 : (a ≤ 2147483647)) : (((a = (-1) ∧ b < 0) ∨ (a = (-1) ∧ b ≥ 0 ∧ b ≥ c) ∨ (((-2147483648) ≤ a ∧ a ≤ 2147483647) ∧ b ≥ 0 ∧ b < c))) := by omega
set_option maxHeartbeats 4000000 in
set_option maxRecDepth 100000 in
theorem k_X11_octet (l : Launch) (D : va_G) (cB cC cI cJ : ClassId) (sz : Nat) (a0 a1 a2 a3 a4 a5 a6 a7 a8 a9 a10 a11 a12 a13 : Nat) (x0 x1 : Int32) (f0 : Nat → Int32) (h_x1 : zBd x1.toInt 0 14) : Met l yX11_octet (.code yX11_octet cX11_octet 2 (some .int) :: lw_gd) ({ frames := 0, cells := 0, slots := 0, locals := 0 }) (gPre D [(cB, .byte), (cC, .char), (cI, .int), (cJ, .long)] [.ref a0, .int x0] (zS_162 cB cC cI cJ a0 a1 a2 a3 a4 a5 a6 a7 a8 a9 a10 x1 a11 a12 a13 a10 f0) sz) (va_Qi (fun r u => ((r.toInt = (-1) ∧ x0.toInt < 0) ∨ (r.toInt = (-1) ∧ x0.toInt ≥ 0 ∧ x0.toInt ≥ x1.toInt) ∨ (((-2147483648) ≤ r.toInt ∧ r.toInt ≤ 2147483647) ∧ x0.toInt ≥ 0 ∧ x0.toInt < x1.toInt))) (gB D (va_A (zS_162 cB cC cI cJ a0 a1 a2 a3 a4 a5 a6 a7 a8 a9 a10 x1 a11 a12 a13 a10 f0) sz) (fun u : gEx => (zS_162 cB cC cI cJ a0 a1 a2 a3 a4 a5 a6 a7 a8 a9 a10 x1 a11 a12 a13 a10 f0))) (va_A (zS_162 cB cC cI cJ a0 a1 a2 a3 a4 a5 a6 a7 a8 a9 a10 x1 a11 a12 a13 a10 f0) sz)) 0 0 (va_A (zS_162 cB cC cI cJ a0 a1 a2 a3 a4 a5 a6 a7 a8 a9 a10 x1 a11 a12 a13 a10 f0) sz) := by
  refine gOf_i (by decide +kernel) (Nat.le_of_ble_eq_true rfl) ?_
  intro p e s m args below meth c ls A Q hx hb hts hown hml hN hK hP hD hA hl hret
  replace hown : s.vm.findClass RX11 = some m.cls := hown
  have hS : va_S A s.heap s.heap [] := va_S.rf
  replace hP : va_P D gcl (zS_162 cB cC cI cJ a0 a1 a2 a3 a4 a5 a6 a7 a8 a9 a10 x1 a11 a12 a13 a10 f0) s.heap := hP
  replace hl : lv_has ls 2 [(0, .ref a0), (1, .int x0)] := hl
  have rx0 : zBd x0.toInt (-2147483648) 2147483647 := n_rng x0
  refine lv_iload_n (pc := 0) hx hb dX11_octet_0 rfl (lv_at hl 1 rfl) ?_
  refine b_if_lt (pc := 1) (tgt := 21) hx hb rfl  dX11_octet_1 (by decide) (fun c_1 => ?_) (fun c_1 => ?_)
  ·
    refine lv_iconst (pc := 21) (v := (-1)) hx hb dX11_octet_21 (by decide) ?_
    exact hret (-1) ((fun _ => 0), (fun _ => (fun _ => 0)), (fun _ => (fun _ => 0)), (fun _ => 0), (fun _ => 0)) dX11_octet_22 (show ((((-1) : Int32).toInt = (-1) ∧ x0.toInt < 0) ∨ (((-1) : Int32).toInt = (-1) ∧ x0.toInt ≥ 0 ∧ x0.toInt ≥ x1.toInt) ∨ (((-2147483648) ≤ ((-1) : Int32).toInt ∧ ((-1) : Int32).toInt ≤ 2147483647) ∧ x0.toInt ≥ 0 ∧ x0.toInt < x1.toInt)) from (by first | exact (om_1539 tI_m1) | (have k9 := tI_m1; (first | omega | (unfold zBd at *; omega))))) (g_psub (wc := (zS_162 cB cC cI cJ a0 a1 a2 a3 a4 a5 a6 a7 a8 a9 a10 x1 a11 a12 a13 a10 f0)) hP [0, 1] rfl) (hD.sub (ws' := (zS_162 cB cC cI cJ a0 a1 a2 a3 a4 a5 a6 a7 a8 a9 a10 x1 a11 a12 a13 a10 f0)) [0, 1] (by decide) rfl) hS
  ·
    refine lv_iload_n (pc := 4) hx hb dX11_octet_4 rfl (lv_at hl 1 rfl) ?_
    refine lv_aload_n (pc := 5) hx hb dX11_octet_5 rfl (lv_at hl 0 rfl) ?_
    refine va_get (pc := 6) (ci := 11) (v := .int x1) (C := RX11) (T := TX11) (N := 14) hx hb hts iX11 hown hK hP 0 rfl rfl 10 (by decide) (hts _ tw_430) (fun _ h9 => h9) rfl dX11_octet_6 ?_
    have bd_h_x1 : 0 ≤ x1.toInt ∧ x1.toInt ≤ 14 := h_x1
    refine b_icmp_ge (pc := 9) (tgt := 21) hx hb rfl rfl  dX11_octet_9 (by decide) (fun c_2 => ?_) (fun c_2 => ?_)
    ·
      refine lv_iconst (pc := 21) (v := (-1)) hx hb dX11_octet_21 (by decide) ?_
      exact hret (-1) ((fun _ => 0), (fun _ => (fun _ => 0)), (fun _ => (fun _ => 0)), (fun _ => 0), (fun _ => 0)) dX11_octet_22 (show ((((-1) : Int32).toInt = (-1) ∧ x0.toInt < 0) ∨ (((-1) : Int32).toInt = (-1) ∧ x0.toInt ≥ 0 ∧ x0.toInt ≥ x1.toInt) ∨ (((-2147483648) ≤ ((-1) : Int32).toInt ∧ ((-1) : Int32).toInt ≤ 2147483647) ∧ x0.toInt ≥ 0 ∧ x0.toInt < x1.toInt)) from (by first | exact (om_1540 tI_m1 c_2) | (have k9 := tI_m1; (first | omega | (unfold zBd at *; omega))))) (g_psub (wc := (zS_162 cB cC cI cJ a0 a1 a2 a3 a4 a5 a6 a7 a8 a9 a10 x1 a11 a12 a13 a10 f0)) hP [0, 1] rfl) (hD.sub (ws' := (zS_162 cB cC cI cJ a0 a1 a2 a3 a4 a5 a6 a7 a8 a9 a10 x1 a11 a12 a13 a10 f0)) [0, 1] (by decide) rfl) hS
    ·
      refine lv_aload_n (pc := 12) hx hb dX11_octet_12 rfl (lv_at hl 0 rfl) ?_
      refine va_get (pc := 13) (ci := 11) (v := .ref a10) (C := RX11) (T := TX11) (N := 14) hx hb hts iX11 hown hK hP 0 rfl rfl 9 (by decide) (hts _ tw_429) (fun _ h9 => h9) rfl dX11_octet_13 ?_
      refine lv_iload_n (pc := 16) hx hb dX11_octet_16 rfl (lv_at hl 1 rfl) ?_
      refine va_iald (pc := 17) hx hb hK hP 1 2 rfl rfl (n_in rfl (by first | exact (om_10 c_1) | ((first | omega | (unfold zBd at *; omega)))) (by first | exact (om_1541 c_2 h_x1.2) | ((first | omega | (unfold zBd at *; omega))))) dX11_octet_17 ?_
      refine lv_topi (fun x_3 ex_3 => ?_)
      have rx_3 : zBd x_3.toInt (-2147483648) 2147483647 := n_rng x_3
      refine lv_goto (pc := 18) (tgt := 22) hx hb dX11_octet_18 (by decide) ?_
      exact hret x_3 ((fun _ => 0), (fun _ => (fun _ => 0)), (fun _ => (fun _ => 0)), (fun _ => 0), (fun _ => 0)) dX11_octet_22 (show ((x_3.toInt = (-1) ∧ x0.toInt < 0) ∨ (x_3.toInt = (-1) ∧ x0.toInt ≥ 0 ∧ x0.toInt ≥ x1.toInt) ∨ (((-2147483648) ≤ x_3.toInt ∧ x_3.toInt ≤ 2147483647) ∧ x0.toInt ≥ 0 ∧ x0.toInt < x1.toInt)) from (by first | exact (om_1542 rx_3.1 c_1 c_2 rx_3.2) | ((first | omega | (unfold zBd at *; omega))))) (g_psub (wc := (zS_162 cB cC cI cJ a0 a1 a2 a3 a4 a5 a6 a7 a8 a9 a10 x1 a11 a12 a13 a10 f0)) hP [0, 1] rfl) (hD.sub (ws' := (zS_162 cB cC cI cJ a0 a1 a2 a3 a4 a5 a6 a7 a8 a9 a10 x1 a11 a12 a13 a10 f0)) [0, 1] (by decide) rfl) hS
theorem om_1543 {a : Int} (h0 : (0 ≤ a)) : (-2147483648 ≤ 7 * a) := by omega
theorem om_1544 {a : Int} (h0 : (a ≤ 252)) : (7 * a ≤ 2147483647) := by omega
theorem om_1545 {a b c : Int} (h0 : (a = 7 * c)) (h1 : (0 ≤ b)) (h2 : (0 ≤ c)) : (-2147483648 ≤ a + b) := by omega
theorem om_1546 {a b c : Int} (h0 : (a = 7 * c)) (h1 : (b ≤ 255)) (h2 : (c ≤ 252)) : (a + b ≤ 2147483647) := by omega
theorem om_1547 {a b c d : Int} (h0 : (a = b + c)) (h1 : (b = 7 * d)) (h2 : (0 ≤ c)) (h3 : (0 ≤ d)) : (0 ≤ a) := by omega
set_option maxHeartbeats 4000000 in
set_option maxRecDepth 100000 in
theorem k_X11_checkWith_E (l : Launch) (D : va_G) (cB cC cI cJ : ClassId) (sz : Nat) (x0 x1 : Int32) (hp0 : (0 ≤ x0.toInt ∧ x0.toInt ≤ 252)) (hp1 : (0 ≤ x1.toInt ∧ x1.toInt ≤ 255)) : Met l yX11_checkWith (.code yX11_checkWith cX11_checkWith 2 (some .int) :: lw_gd) ({ frames := 0, cells := 0, slots := 0, locals := 0 }) (gPre D [(cB, .byte), (cC, .char), (cI, .int), (cJ, .long)] [.int x0, .int x1] [] sz) (va_Qi (fun r u => (0 ≤ r.toInt ∧ r.toInt ≤ 252) ∧ (r.toInt = (7 * x0.toInt + x1.toInt) % 253)) (gB D (va_A [] sz) (fun u : gEx => [])) (va_A [] sz)) 0 0 (va_A [] sz) := by
  refine gOf_i (by decide +kernel) (Nat.le_of_ble_eq_true rfl) ?_
  intro p e s m args below meth c ls A Q hx hb hts hown hml hN hK hP hD hA hl hret
  replace hown : s.vm.findClass RX11 = some m.cls := hown
  have hS : va_S A s.heap s.heap [] := va_S.rf
  replace hP : va_P D gcl [] s.heap := hP
  replace hl : lv_has ls 2 [(0, .int x0), (1, .int x1)] := hl
  refine lv_bipush (pc := 0) (v := 7) hx hb dX11_checkWith_0 (by decide) ?_
  refine lv_iload_n (pc := 2) hx hb dX11_checkWith_2 rfl (lv_at hl 0 rfl) ?_
  refine b_imul (pc := 3) hx hb tI_7 rfl (by first | exact (om_1543 hp0.1) | ((first | omega | (unfold zBd at *; omega)))) (by first | exact (om_1544 hp0.2) | ((first | omega | (unfold zBd at *; omega)))) dX11_checkWith_3 (fun x_1 ex_1 => ?_)
  refine lv_iload_n (pc := 4) hx hb dX11_checkWith_4 rfl (lv_at hl 1 rfl) ?_
  refine b_iadd (pc := 5) hx hb rfl rfl (by first | exact (om_1545 ex_1 hp1.1 hp0.1) | ((first | omega | (unfold zBd at *; omega)))) (by first | exact (om_1546 ex_1 hp1.2 hp0.2) | ((first | omega | (unfold zBd at *; omega)))) dX11_checkWith_5 (fun x_2 ex_2 => ?_)
  refine lv_sipush (pc := 6) (v := 253) hx hb dX11_checkWith_6 (by decide) ?_
  refine c_irem (pc := 9) hx hb rfl tI_253 (by first | exact (om_1519) | ((first | omega | (unfold zBd at *; omega)))) (by first | exact (om_1547 ex_2 ex_1 hp1.1 hp0.1) | ((first | omega | (unfold zBd at *; omega)))) dX11_checkWith_9 (fun x_3 ex_3 => ?_)
  exact hret x_3 ((fun _ => 0), (fun _ => (fun _ => 0)), (fun _ => (fun _ => 0)), (fun _ => 0), (fun _ => 0)) dX11_checkWith_10 ⟨(show (0 ≤ x_3.toInt ∧ x_3.toInt ≤ 252) from (by (first | omega | (unfold zBd at *; omega)))), (show x_3.toInt = (7 * x0.toInt + x1.toInt) % 253 from (by (first | omega | (unfold zBd at *; omega))))⟩ (g_psub (wc := []) hP [] rfl) (hD.sub (ws' := []) [] (by decide) rfl) hS
theorem om_1548 {a b : Int} (h0 : (a = 2 * b)) (h1 : ((-1) ≤ b)) : (-2147483648 ≤ a + 1) := by omega
theorem om_1549 {a b : Int} (h0 : (a = 2 * b)) (h1 : (b ≤ 6)) : (a + 1 ≤ 2147483647) := by omega
theorem om_1550 {a b c : Int} (h0 : (a = b + 1)) (h1 : (b = 2 * c)) (h2 : ((-1) ≤ c)) : (-2147483648 ≤ a + 1) := by omega
theorem om_1551 {a b c : Int} (h0 : (a = b + 1)) (h1 : (b = 2 * c)) (h2 : (c ≤ 6)) : (a + 1 ≤ 2147483647) := by omega
theorem om_1552 {a b c d e f : Int} (h0 : ((a = (-1) ∧ b < 0) ∨ (a = (-1) ∧ b ≥ 0 ∧ b ≥ c) ∨ ((0 ≤ a ∧ a ≤ 255) ∧ b ≥ 0 ∧ b < c))) (h1 : (0 ≤ b)) (h2 : (b < d)) (h3 : (e = c)) (h4 : (e = f)) (h5 : (f = d + 1)) : (0 ≤ a ∧ a ≤ 255) := by omega
theorem om_1553 {a : Int} (h0 : (0 ≤ a)) (h1 : (a ≤ 255)) : ((0 ≤ a ∧ a ≤ 255)) := by omega
theorem om_1554 {a b c d e : Int} (h0 : (a < b)) (h1 : (c = b + 1)) (h2 : (d = e)) (h3 : (e ≤ 1600)) (h4 : (d = c)) : (a + 1 ≤ 2147483647) := by omega
theorem om_1555 {a b c d e : Int} (h0 : (a = b + 1)) (h1 : (0 ≤ b)) (h2 : (b < c)) (h3 : (c = d + 1)) (h4 : (d = 2 * e)) (h5 : (e ≤ 6)) : ((0 ≤ a ∧ a ≤ 2147483647)) := by omega
theorem om_1556 {a b c d e f : Int} (h0 : (¬ c = d)) (h1 : (c = a)) (h2 : (e = 2 * b)) (h3 : (f = e + 1)) (h4 : (d = f + 1)) : (¬ a = 2 * b + 2) := by omega
set_option maxHeartbeats 4000000 in
set_option maxRecDepth 100000 in
theorem k_X11_isImage (l : Launch) (D : va_G) (cB cC cI cJ : ClassId) (sz : Nat) (a0 a1 a2 a3 a4 a5 a6 a7 a8 a9 a10 a11 a12 a13 a14 a15 a16 a17 : Nat) (x0 x1 x2 x3 x4 x5 x6 x7 x8 : Int32) (f0 : Nat → Int32) (h_x0 : zBd x0.toInt 0 14) (h_x1 : zBd x1.toInt (-1) 8) (h_x2 : zBd x2.toInt (-1) 5) (h_x3 : zBd x3.toInt (-1) 6) (h_x4 : zBd x4.toInt 0 6) (h_x5 : zBd x5.toInt 0 16) (h_x8 : zBd x8.toInt 0 1600) : Met l yX11_isImage (.code yX11_isImage cX11_isImage 4 (some .boolean) :: lw_gd) ({ frames := 1, cells := 0, slots := 0, locals := 21 }) (gPre D [(cB, .byte), (cC, .char), (cI, .int), (cJ, .long)] [.ref a0] (zS_109 cB cC cI cJ a0 a1 a2 a3 a4 a5 a6 a7 a8 a9 a10 x0 a11 a12 a13 a11 a14 a15 a16 x1 x2 x3 x4 x5 x6 x7 a2 a17 x8 a17 f0) sz) (va_Qi (fun r u => (0 ≤ r.toInt ∧ r.toInt ≤ 1) ∧ ((r.toInt = 1 ∧ imgQ (taub f0 x8.toInt) x8.toInt x3.toInt) ∨ (r.toInt = 0 ∧ ¬ imgQ (taub f0 x8.toInt) x8.toInt x3.toInt))) (gB D (va_A (zS_109 cB cC cI cJ a0 a1 a2 a3 a4 a5 a6 a7 a8 a9 a10 x0 a11 a12 a13 a11 a14 a15 a16 x1 x2 x3 x4 x5 x6 x7 a2 a17 x8 a17 f0) sz) (fun u : gEx => (zS_109 cB cC cI cJ a0 a1 a2 a3 a4 a5 a6 a7 a8 a9 a10 x0 a11 a12 a13 a11 a14 a15 a16 x1 x2 x3 x4 x5 x6 x7 a2 a17 x8 a17 f0))) (va_A (zS_109 cB cC cI cJ a0 a1 a2 a3 a4 a5 a6 a7 a8 a9 a10 x0 a11 a12 a13 a11 a14 a15 a16 x1 x2 x3 x4 x5 x6 x7 a2 a17 x8 a17 f0) sz)) 0 0 (va_A (zS_109 cB cC cI cJ a0 a1 a2 a3 a4 a5 a6 a7 a8 a9 a10 x0 a11 a12 a13 a11 a14 a15 a16 x1 x2 x3 x4 x5 x6 x7 a2 a17 x8 a17 f0) sz) := by
  refine gOf_z (by decide +kernel) (Nat.le_of_ble_eq_true rfl) ?_
  intro p e s m args below meth c ls A Q hx hb hts hown hml hN hK hP hD hA hl hret
  replace hown : s.vm.findClass RX11 = some m.cls := hown
  have hS : va_S A s.heap s.heap [] := va_S.rf
  replace hP : va_P D gcl (zS_109 cB cC cI cJ a0 a1 a2 a3 a4 a5 a6 a7 a8 a9 a10 x0 a11 a12 a13 a11 a14 a15 a16 x1 x2 x3 x4 x5 x6 x7 a2 a17 x8 a17 f0) s.heap := hP
  replace hl : lv_has ls 4 [(0, .ref a0)] := hl
  have rx6 : zBd x6.toInt (-2147483648) 2147483647 := n_rng x6
  have rx7 : zBd x7.toInt (-2147483648) 2147483647 := n_rng x7
  refine lv_iconst (pc := 0) (v := 2) hx hb dX11_isImage_0 (by decide) ?_
  refine lv_aload_n (pc := 1) hx hb dX11_isImage_1 rfl (lv_at hl 0 rfl) ?_
  refine va_get (pc := 2) (ci := 11) (v := .ref a11) (C := RX11) (T := TX11) (N := 14) hx hb hts iX11 hown hK hP 0 rfl rfl 11 (by decide) (hts _ tw_431) (fun _ h9 => h9) rfl dX11_isImage_2 ?_
  refine va_getN (pc := 5) (ci := 1) (v := .int x3) (C := RX1) (T := TX1) (N := 10) hx hb hts iX1 hown hK hP 1 rfl rfl 5 (by decide) (va_Nw.use rfl (hN _ tn_128)) (fun _ h9 => h9) rfl dX11_isImage_5 ?_
  refine b_imul (pc := 8) hx hb tI_2 rfl (by first | exact (om_1279 h_x3.1) | ((first | omega | (unfold zBd at *; omega)))) (by first | exact (om_1341 h_x3.2) | ((first | omega | (unfold zBd at *; omega)))) dX11_isImage_8 (fun x_1 ex_1 => ?_)
  refine lv_iconst (pc := 9) (v := 1) hx hb dX11_isImage_9 (by decide) ?_
  refine b_iadd (pc := 10) hx hb rfl tI_1 (by first | exact (om_1548 ex_1 h_x3.1) | ((first | omega | (unfold zBd at *; omega)))) (by first | exact (om_1549 ex_1 h_x3.2) | ((first | omega | (unfold zBd at *; omega)))) dX11_isImage_10 (fun x_2 ex_2 => ?_)
  refine lv_istore_n (pc := 11) (lv' := [(1, .int x_2), (0, .ref a0)]) hx hb dX11_isImage_11 rfl hl (by decide) rfl (fun ls hl => ?_)
  refine lv_aload_n (pc := 12) hx hb dX11_isImage_12 rfl (lv_at hl 1 rfl) ?_
  as_aux_lemma =>
    refine va_get (pc := 13) (ci := 11) (v := .ref a2) (C := RX11) (T := TX11) (N := 14) hx hb hts iX11 hown hK hP 0 rfl rfl 1 (by decide) (hts _ tw_421) (fun _ h9 => h9) rfl dX11_isImage_13 ?_
    refine gd_i (pc := 16) (wc := [(a2, .inr (9, [.ref a17, .int x8]))]) hP hD hS hA [2] rfl (by decide +kernel) (fun _ => by rfl) (fun hPc hDc => va_runV (As := []) (rest := []) ⟨hx, hb, hml, hown, hts⟩ (k_X9_length l D cB cC cI cJ _ a2 a17 x8 h_x8) ⟨gcwB hts tw_478 tw_3 tw_475 hd_yX9_length ⟨Nat.le_of_ble_eq_true rfl, Nat.le_of_ble_eq_true rfl⟩, hts _ tw_476, hts _ tw_477⟩ ⟨gblind, va_recv hK hPc (ci := 9) (q0 := 0) rfl rfl, (gpreS hPc hK hDc hN).2⟩ rfl rfl hl.1 rfl (lv_room (Nat.le_of_ble_eq_true rfl)) dX11_isImage_16 ⟨Nat.le_of_ble_eq_true rfl, Nat.le_of_ble_eq_true rfl⟩) (fun r_4 u_3 H locs hw_5 hP hD hS => ?_)
    replace hP : va_P D gcl (zS_109 cB cC cI cJ a0 a1 a2 a3 a4 a5 a6 a7 a8 a9 a10 x0 a11 a12 a13 a11 a14 a15 a16 x1 x2 x3 x4 x5 x6 x7 a2 a17 x8 a17 f0) H := hP
    replace hD : va_D A (zS_109 cB cC cI cJ a0 a1 a2 a3 a4 a5 a6 a7 a8 a9 a10 x0 a11 a12 a13 a11 a14 a15 a16 x1 x2 x3 x4 x5 x6 x7 a2 a17 x8 a17 f0) := hD
    have hw_6 : ((r_4.toInt = x8.toInt)) := hw_5
    have rr_4 : zBd r_4.toInt (-2147483648) 2147483647 := n_rng r_4
    refine lv_iload_n (pc := 19) hx hb dX11_isImage_19 rfl (lv_at hl 0 rfl) ?_
    refine lv_iconst (pc := 20) (v := 1) hx hb dX11_isImage_20 (by decide) ?_
    refine b_iadd (pc := 21) hx hb rfl tI_1 (by first | exact (om_1550 ex_2 ex_1 h_x3.1) | ((first | omega | (unfold zBd at *; omega)))) (by first | exact (om_1551 ex_2 ex_1 h_x3.2) | ((first | omega | (unfold zBd at *; omega)))) dX11_isImage_21 (fun x_7 ex_7 => ?_)
    refine b_icmp_eq (pc := 22) (tgt := 27) hx hb rfl rfl  dX11_isImage_22 (by decide) (fun c_8 => ?_) (fun c_8 => ?_)
    ·
      as_aux_lemma =>
        refine lv_bipush (pc := 27) (v := 51) hx hb dX11_isImage_27 (by decide) ?_
        refine lv_istore_n (pc := 29) (lv' := [(2, .int 51), (1, .int x_2), (0, .ref a0)]) hx hb dX11_isImage_29 rfl hl (by decide) rfl (fun ls hl => ?_)
        refine lv_iconst (pc := 30) (v := 0) hx hb dX11_isImage_30 (by decide) ?_
        refine lv_istore_n (pc := 31) (lv' := [(3, .int 0), (2, .int 51), (1, .int x_2), (0, .ref a0)]) hx hb dX11_isImage_31 rfl hl (by decide) rfl (fun ls hl => ?_)
        have lp_15 : ∀ (n : Nat) (x_9 x_11 : Int32) (H : Heap) (locs : List Loc) (ls : Array Slot), (0 ≤ x_9.toInt ∧ x_9.toInt ≤ 2147483647) → (0 ≤ x_11.toInt ∧ x_11.toInt ≤ 252) → (x_9.toInt ≤ x_2.toInt ∨ x_9.toInt = 0) → (x_11.toInt = ckF (taub f0 x8.toInt) (x_9.toInt).toNat) → (2147483647 - x_9.toInt).toNat < n → va_P D gcl (zS_109 cB cC cI cJ a0 a1 a2 a3 a4 a5 a6 a7 a8 a9 a10 x0 a11 a12 a13 a11 a14 a15 a16 x1 x2 x3 x4 x5 x6 x7 a2 a17 x8 a17 f0) H → va_D A (zS_109 cB cC cI cJ a0 a1 a2 a3 a4 a5 a6 a7 a8 a9 a10 x0 a11 a12 a13 a11 a14 a15 a16 x1 x2 x3 x4 x5 x6 x7 a2 a17 x8 a17 f0) → va_S A s.heap H locs → lv_has ls 4 [(3, .int x_9), (2, .int x_11), (1, .int x_2), (0, .ref a0)] → W p l e ({ frames := 1, cells := 0, slots := 0, locals := 21 }) s m args below meth c H locs 0 0 Q (F0 m 32 ls []) := by
          intro n
          induction n with
          | zero => intro x_9 x_11 H locs ls hi_10 hi_12 hi_13 hi_14 hmu; exact absurd hmu (Nat.not_lt_zero _)
          | succ n ih_lp_15 =>
            intro x_9 x_11 H locs ls hi_10 hi_12 hi_13 hi_14 hmu_lp_15 hP hD hS hl
            refine lv_iload_n (pc := 32) hx hb dX11_isImage_32 rfl (lv_at hl 0 rfl) ?_
            refine lv_iload_n (pc := 33) hx hb dX11_isImage_33 rfl (lv_at hl 2 rfl) ?_
            refine b_icmp_ge (pc := 34) (tgt := 56) hx hb rfl rfl  dX11_isImage_34 (by decide) (fun c_16 => ?_) (fun c_16 => ?_)
            ·
              as_aux_lemma =>
                have hh_17 : x_11.toInt = ckF (taub f0 x8.toInt) (x_2.toInt).toNat := (by have e9 : (x_9.toInt).toNat = (x_2.toInt).toNat := (by (first | omega | (unfold zBd at *; omega))); have q9 := hi_14; rw [e9] at q9; exact q9)
                refine lv_aload_n (pc := 56) hx hb dX11_isImage_56 rfl (lv_at hl 3 rfl) ?_
                refine va_get (pc := 57) (ci := 11) (v := .ref a2) (C := RX11) (T := TX11) (N := 14) hx hb hts iX11 hown hK hP 0 rfl rfl 1 (by decide) (hts _ tw_421) (fun _ h9 => h9) rfl dX11_isImage_57 ?_
                refine lv_iload_n (pc := 60) hx hb dX11_isImage_60 rfl (lv_at hl 2 rfl) ?_
                refine gd_i (pc := 61) (wc := [(a2, .inr (9, [.ref a17, .int x8])), (a17, .inl (cB, 1600, .inl f0))]) hP hD hS hA [2, 3] rfl (by decide +kernel) (fun _ => by rfl) (fun hPc hDc => va_runV (As := [.int x_2]) (rest := []) ⟨hx, hb, hml, hown, hts⟩ (k_X9_at_E l D cB cC cI cJ _ a2 a17 x_2 x8 f0 h_x8) ⟨gcwB hts tw_518 tw_3 tw_1394 hd_yX9_at ⟨Nat.le_of_ble_eq_true rfl, Nat.le_of_ble_eq_true rfl⟩, hts _ tw_516, hts _ tw_517⟩ ⟨gblind, va_recv hK hPc (ci := 9) (q0 := 0) rfl rfl, (gpreS hPc hK hDc hN).2⟩ rfl rfl hl.1 rfl (lv_room (Nat.le_of_ble_eq_true rfl)) dX11_isImage_61 ⟨Nat.le_of_ble_eq_true rfl, Nat.le_of_ble_eq_true rfl⟩) (fun r_19 u_18 H locs hw_20 hP hD hS => ?_)
                replace hP : va_P D gcl (zS_109 cB cC cI cJ a0 a1 a2 a3 a4 a5 a6 a7 a8 a9 a10 x0 a11 a12 a13 a11 a14 a15 a16 x1 x2 x3 x4 x5 x6 x7 a2 a17 x8 a17 f0) H := hP
                replace hD : va_D A (zS_109 cB cC cI cJ a0 a1 a2 a3 a4 a5 a6 a7 a8 a9 a10 x0 a11 a12 a13 a11 a14 a15 a16 x1 x2 x3 x4 x5 x6 x7 a2 a17 x8 a17 f0) := hD
                obtain ⟨hw_21, hw_22⟩ := hw_20
                replace hw_21 : ((r_19.toInt = (-1) ∧ x_2.toInt < 0) ∨ (r_19.toInt = (-1) ∧ x_2.toInt ≥ 0 ∧ x_2.toInt ≥ x8.toInt) ∨ ((0 ≤ r_19.toInt ∧ r_19.toInt ≤ 255) ∧ x_2.toInt ≥ 0 ∧ x_2.toInt < x8.toInt)) := hw_21
                replace hw_22 : (r_19.toInt = taub f0 x8.toInt x_2.toInt) := hw_22
                have rr_19 : zBd r_19.toInt (-2147483648) 2147483647 := n_rng r_19
                refine lv_iload_n (pc := 64) hx hb dX11_isImage_64 rfl (lv_at hl 1 rfl) ?_
                refine b_icmp_ne (pc := 65) (tgt := 72) hx hb rfl rfl  dX11_isImage_65 (by decide) (fun c_23 => ?_) (fun c_23 => ?_)
                ·
                  as_aux_lemma =>
                    refine lv_iconst (pc := 72) (v := 0) hx hb dX11_isImage_72 (by decide) ?_
                    have k9 := tI_0
                    exact hret 0 ((fun _ => 0), (fun _ => (fun _ => 0)), (fun _ => (fun _ => 0)), (fun _ => 0), (fun _ => 0)) dX11_isImage_73 ⟨(Or.inl tI_0), ⟨(show (0 ≤ (0 : Int32).toInt ∧ (0 : Int32).toInt ≤ 1) from (n_c tI_0 (by decide))), (show ((0 : Int32).toInt = 1 ∧ imgQ (taub f0 x8.toInt) x8.toInt x3.toInt) ∨ ((0 : Int32).toInt = 0 ∧ ¬ imgQ (taub f0 x8.toInt) x8.toInt x3.toInt) from Or.inr ⟨by (first | omega | (unfold zBd at *; omega)), img_no (k := x_2.toInt) (by (first | omega | (unfold zBd at *; omega))) hw_22 hh_17 (by (first | omega | (unfold zBd at *; omega)))⟩)⟩⟩ (g_psub (wc := (zS_109 cB cC cI cJ a0 a1 a2 a3 a4 a5 a6 a7 a8 a9 a10 x0 a11 a12 a13 a11 a14 a15 a16 x1 x2 x3 x4 x5 x6 x7 a2 a17 x8 a17 f0)) hP [0, 1, 2, 3] rfl) (hD.sub (ws' := (zS_109 cB cC cI cJ a0 a1 a2 a3 a4 a5 a6 a7 a8 a9 a10 x0 a11 a12 a13 a11 a14 a15 a16 x1 x2 x3 x4 x5 x6 x7 a2 a17 x8 a17 f0)) [0, 1, 2, 3] (by decide) rfl) hS
                ·
                  as_aux_lemma =>
                    refine lv_iconst (pc := 68) (v := 1) hx hb dX11_isImage_68 (by decide) ?_
                    refine lv_goto (pc := 69) (tgt := 73) hx hb dX11_isImage_69 (by decide) ?_
                    have k9 := tI_1
                    exact hret 1 ((fun _ => 0), (fun _ => (fun _ => 0)), (fun _ => (fun _ => 0)), (fun _ => 0), (fun _ => 0)) dX11_isImage_73 ⟨(Or.inr tI_1), ⟨(show (0 ≤ (1 : Int32).toInt ∧ (1 : Int32).toInt ≤ 1) from (n_c tI_1 (by decide))), (show ((1 : Int32).toInt = 1 ∧ imgQ (taub f0 x8.toInt) x8.toInt x3.toInt) ∨ ((1 : Int32).toInt = 0 ∧ ¬ imgQ (taub f0 x8.toInt) x8.toInt x3.toInt) from Or.inl ⟨by (first | omega | (unfold zBd at *; omega)), img_yes (k := x_2.toInt) (by (first | omega | (unfold zBd at *; omega))) (by (first | omega | (unfold zBd at *; omega))) hw_22 hh_17 (by (first | omega | (unfold zBd at *; omega)))⟩)⟩⟩ (g_psub (wc := (zS_109 cB cC cI cJ a0 a1 a2 a3 a4 a5 a6 a7 a8 a9 a10 x0 a11 a12 a13 a11 a14 a15 a16 x1 x2 x3 x4 x5 x6 x7 a2 a17 x8 a17 f0)) hP [0, 1, 2, 3] rfl) (hD.sub (ws' := (zS_109 cB cC cI cJ a0 a1 a2 a3 a4 a5 a6 a7 a8 a9 a10 x0 a11 a12 a13 a11 a14 a15 a16 x1 x2 x3 x4 x5 x6 x7 a2 a17 x8 a17 f0)) [0, 1, 2, 3] (by decide) rfl) hS
            ·
              as_aux_lemma =>
                refine lv_iload_n (pc := 37) hx hb dX11_isImage_37 rfl (lv_at hl 1 rfl) ?_
                refine lv_aload_n (pc := 38) hx hb dX11_isImage_38 rfl (lv_at hl 3 rfl) ?_
                refine va_get (pc := 39) (ci := 11) (v := .ref a2) (C := RX11) (T := TX11) (N := 14) hx hb hts iX11 hown hK hP 0 rfl rfl 1 (by decide) (hts _ tw_421) (fun _ h9 => h9) rfl dX11_isImage_39 ?_
                refine lv_iload_n (pc := 42) hx hb dX11_isImage_42 rfl (lv_at hl 0 rfl) ?_
                refine gd_i (pc := 43) (wc := [(a2, .inr (9, [.ref a17, .int x8])), (a17, .inl (cB, 1600, .inl f0))]) hP hD hS hA [2, 3] rfl (by decide +kernel) (fun _ => by rfl) (fun hPc hDc => va_runV (As := [.int x_9]) (rest := [.int x_11]) ⟨hx, hb, hml, hown, hts⟩ (k_X9_at_E l D cB cC cI cJ _ a2 a17 x_9 x8 f0 h_x8) ⟨gcwB hts tw_518 tw_3 tw_1394 hd_yX9_at ⟨Nat.le_of_ble_eq_true rfl, Nat.le_of_ble_eq_true rfl⟩, hts _ tw_516, hts _ tw_517⟩ ⟨gblind, va_recv hK hPc (ci := 9) (q0 := 0) rfl rfl, (gpreS hPc hK hDc hN).2⟩ rfl rfl hl.1 rfl (lv_room (Nat.le_of_ble_eq_true rfl)) dX11_isImage_43 ⟨Nat.le_of_ble_eq_true rfl, Nat.le_of_ble_eq_true rfl⟩) (fun r_25 u_24 H locs hw_26 hP hD hS => ?_)
                replace hP : va_P D gcl (zS_109 cB cC cI cJ a0 a1 a2 a3 a4 a5 a6 a7 a8 a9 a10 x0 a11 a12 a13 a11 a14 a15 a16 x1 x2 x3 x4 x5 x6 x7 a2 a17 x8 a17 f0) H := hP
                replace hD : va_D A (zS_109 cB cC cI cJ a0 a1 a2 a3 a4 a5 a6 a7 a8 a9 a10 x0 a11 a12 a13 a11 a14 a15 a16 x1 x2 x3 x4 x5 x6 x7 a2 a17 x8 a17 f0) := hD
                obtain ⟨hw_27, hw_28⟩ := hw_26
                replace hw_27 : ((r_25.toInt = (-1) ∧ x_9.toInt < 0) ∨ (r_25.toInt = (-1) ∧ x_9.toInt ≥ 0 ∧ x_9.toInt ≥ x8.toInt) ∨ ((0 ≤ r_25.toInt ∧ r_25.toInt ≤ 255) ∧ x_9.toInt ≥ 0 ∧ x_9.toInt < x8.toInt)) := hw_27
                replace hw_28 : (r_25.toInt = taub f0 x8.toInt x_9.toInt) := hw_28
                have rr_25 : zBd r_25.toInt (-2147483648) 2147483647 := n_rng r_25
                have hh_29 : 0 ≤ r_25.toInt ∧ r_25.toInt ≤ 255 := (by first | exact (om_1552 hw_27 hi_10.1 c_16 hw_6 c_8 ex_7) | ((first | omega | (unfold zBd at *; omega))))
                refine gd_i (pc := 46) (wc := []) hP hD hS hA [] rfl (by decide +kernel) (fun _ => by rfl) (fun hPc hDc => va_runS (As := [.int x_11, .int r_25]) (rest := []) ⟨hx, hb, hml, hown, hts⟩ (k_X11_checkWith_E l D cB cC cI cJ _ x_11 r_25 hi_12 (by first | exact (om_1553 hh_29.1 hh_29.2) | ((first | omega | (unfold zBd at *; omega))))) ⟨gcwB hts tw_1381 tw_1 tw_1379 hd_yX11_checkWith ⟨Nat.le_of_ble_eq_true rfl, Nat.le_of_ble_eq_true rfl⟩, hts _ tw_1380⟩ (gpreS hPc hK hDc hN) rfl rfl hl.1 rfl (lv_room (Nat.le_of_ble_eq_true rfl)) dX11_isImage_46 ⟨Nat.le_of_ble_eq_true rfl, Nat.le_of_ble_eq_true rfl⟩) (fun r_31 u_30 H locs hw_32 hP hD hS => ?_)
                replace hP : va_P D gcl (zS_109 cB cC cI cJ a0 a1 a2 a3 a4 a5 a6 a7 a8 a9 a10 x0 a11 a12 a13 a11 a14 a15 a16 x1 x2 x3 x4 x5 x6 x7 a2 a17 x8 a17 f0) H := hP
                replace hD : va_D A (zS_109 cB cC cI cJ a0 a1 a2 a3 a4 a5 a6 a7 a8 a9 a10 x0 a11 a12 a13 a11 a14 a15 a16 x1 x2 x3 x4 x5 x6 x7 a2 a17 x8 a17 f0) := hD
                obtain ⟨hw_33, hw_34⟩ := hw_32
                replace hw_33 : (0 ≤ r_31.toInt ∧ r_31.toInt ≤ 252) := hw_33
                replace hw_34 : (r_31.toInt = (7 * x_11.toInt + r_25.toInt) % 253) := hw_34
                have rr_31 : zBd r_31.toInt (-2147483648) 2147483647 := n_rng r_31
                refine lv_istore_n (pc := 49) (lv' := [(2, .int r_31), (3, .int x_9), (1, .int x_2), (0, .ref a0)]) hx hb dX11_isImage_49 rfl hl (by decide) rfl (fun ls hl => ?_)
                refine b_iinc (pc := 50) hx hb dX11_isImage_50 hl (k := 1) rfl rfl tI_1 (by first | exact (om_2 hi_10.1) | ((first | omega | (unfold zBd at *; omega)))) (by first | exact (om_1554 c_16 ex_7 hw_6 h_x8.2 c_8) | ((first | omega | (unfold zBd at *; omega)))) (by decide) (fun x_35 ex_35 ls hl => ?_)
                replace hl : lv_has ls 4 [(3, .int x_35), (2, .int r_31), (1, .int x_2), (0, .ref a0)] := hl
                refine lv_goto (pc := 53) (tgt := 32) hx hb dX11_isImage_53 (by decide) ?_
                exact ih_lp_15 x_35 r_31 _ _ ls (by first | exact (om_1555 ex_35 hi_10.1 c_16 ex_2 ex_1 h_x3.2) | ((first | omega | (unfold zBd at *; omega)))) hw_33 (by first | exact (om_344 ex_35 c_16) | ((first | omega | (unfold zBd at *; omega)))) (ck_step hi_14 hw_28 hw_34 (by first | exact (om_0 hi_10.1) | ((first | omega | (unfold zBd at *; omega)))) (by first | exact (om_5 ex_35) | ((first | omega | (unfold zBd at *; omega))))) (by (first | omega | (unfold zBd at *; omega))) hP hD hS (lv_sub hl [0, 1, 2, 3] rfl)
        exact lp_15 _ 0 51 _ _ ls (n_c tI_0 (by decide)) (n_c tI_51 (by decide)) (by have q := tI_0; (first | omega | (unfold zBd at *; omega))) (tI_51) (Nat.lt_succ_self _) hP hD hS (lv_sub hl [0, 1, 2, 3] rfl)
    ·
      as_aux_lemma =>
        refine lv_iconst (pc := 25) (v := 0) hx hb dX11_isImage_25 (by decide) ?_
        have k9 := tI_0
        exact hret 0 ((fun _ => 0), (fun _ => (fun _ => 0)), (fun _ => (fun _ => 0)), (fun _ => 0), (fun _ => 0)) dX11_isImage_26 ⟨(Or.inl tI_0), ⟨(show (0 ≤ (0 : Int32).toInt ∧ (0 : Int32).toInt ≤ 1) from (n_c tI_0 (by decide))), (show ((0 : Int32).toInt = 1 ∧ imgQ (taub f0 x8.toInt) x8.toInt x3.toInt) ∨ ((0 : Int32).toInt = 0 ∧ ¬ imgQ (taub f0 x8.toInt) x8.toInt x3.toInt) from Or.inr ⟨by (first | omega | (unfold zBd at *; omega)), img_noN (by first | exact (om_1556 c_8 hw_6 ex_1 ex_2 ex_7) | ((first | omega | (unfold zBd at *; omega))))⟩)⟩⟩ (g_psub (wc := (zS_109 cB cC cI cJ a0 a1 a2 a3 a4 a5 a6 a7 a8 a9 a10 x0 a11 a12 a13 a11 a14 a15 a16 x1 x2 x3 x4 x5 x6 x7 a2 a17 x8 a17 f0)) hP [0, 1, 2, 3] rfl) (hD.sub (ws' := (zS_109 cB cC cI cJ a0 a1 a2 a3 a4 a5 a6 a7 a8 a9 a10 x0 a11 a12 a13 a11 a14 a15 a16 x1 x2 x3 x4 x5 x6 x7 a2 a17 x8 a17 f0)) [0, 1, 2, 3] (by decide) rfl) hS
theorem om_1557 {a : Int} (h0 : (0 ≤ a)) : (-2147483648 ≤ a + 20) := by omega
theorem om_1558 {a : Int} (h0 : (a ≤ 1600)) : (a + 20 ≤ 2147483647) := by omega
theorem om_1559 {a b c : Int} (h0 : (0 ≤ a)) (h1 : (a ≤ 1600)) (h2 : (c = b + 20)) (h3 : (c ≤ 1600)) : ((((0 ≤ a ∧ a ≤ 1600) ∧ (b) + (20) ≤ 1600) ∨ (a = (-1) ∧ (b) + (20) > 1600 ∧ a = b))) := by omega
theorem om_1560 {a b c d : Int} (h0 : (0 ≤ a)) (h1 : (a = b + c)) (h2 : (c ≥ 20)) (h3 : (c ≤ 20)) (h4 : (d = b + 20)) (h5 : (d ≤ 1600)) : (((a = -1 ∧ b + 20 > 1600 ∧ a = b) ∨ (a = b + 20 ∧ b + 20 ≤ 1600 ∧ a = b + 20))) := by omega
theorem om_1561 : (0 < 4) := by omega
theorem om_1562 {a : Int} (h0 : (a ≥ 16)) : (0 ≤ a) := by omega
theorem om_1563 {a b c d : Int} (h0 : (a = b + c)) (h1 : (c < 20)) (h2 : (d = b + 20)) (h3 : (d ≤ 1600)) : (a < (1600 : Nat)) := by omega
theorem om_1564 {a : Int} (h0 : (a ≥ 16)) : (-2147483648 ≤ a + 1) := by omega
theorem om_1565 {a : Int} (h0 : (a < 20)) : (a + 1 ≤ 2147483647) := by omega
theorem om_1566 {a b : Int} (h0 : (a = b + 1)) (h1 : (b ≥ 16)) (h2 : (b < 20)) : ((0 ≤ a ∧ a ≤ 20)) := by omega
theorem om_1567 {a b c d e : Int} (h0 : (a = b + 1)) (h1 : (0 ≤ b)) (h2 : (b = c + d)) (h3 : (d < 20)) (h4 : (e = c + 20)) (h5 : (e ≤ 1600)) : ((0 ≤ a ∧ a ≤ 1600)) := by omega
theorem om_1568 {a : Int} (h0 : (a ≥ 12)) : (0 ≤ a) := by omega
theorem om_1569 {a b c d : Int} (h0 : (a = b + c)) (h1 : (c < 16)) (h2 : (d = b + 20)) (h3 : (d ≤ 1600)) : (a < (1600 : Nat)) := by omega
theorem om_1570 {a : Int} (h0 : (a ≥ 12)) : (-2147483648 ≤ a + 1) := by omega
theorem om_1571 {a : Int} (h0 : (a < 16)) : (a + 1 ≤ 2147483647) := by omega
theorem om_1572 {a b : Int} (h0 : (a = b + 1)) (h1 : (b ≥ 12)) (h2 : (b < 16)) : ((0 ≤ a ∧ a ≤ 20)) := by omega
theorem om_1573 {a b c d e : Int} (h0 : (a = b + 1)) (h1 : (0 ≤ b)) (h2 : (b = c + d)) (h3 : (d < 16)) (h4 : (e = c + 20)) (h5 : (e ≤ 1600)) : ((0 ≤ a ∧ a ≤ 1600)) := by omega
theorem om_1574 {a : Int} (h0 : (a ≥ 8)) : (0 ≤ a) := by omega
theorem om_1575 {a b c d : Int} (h0 : (a = b + c)) (h1 : (c < 12)) (h2 : (d = b + 20)) (h3 : (d ≤ 1600)) : (a < (1600 : Nat)) := by omega
theorem om_1576 {a : Int} (h0 : (a ≥ 8)) : (-2147483648 ≤ a + 1) := by omega
theorem om_1577 {a : Int} (h0 : (a < 12)) : (a + 1 ≤ 2147483647) := by omega
theorem om_1578 {a b : Int} (h0 : (a = b + 1)) (h1 : (b ≥ 8)) (h2 : (b < 12)) : ((0 ≤ a ∧ a ≤ 20)) := by omega
theorem om_1579 {a b c d e : Int} (h0 : (a = b + 1)) (h1 : (0 ≤ b)) (h2 : (b = c + d)) (h3 : (d < 12)) (h4 : (e = c + 20)) (h5 : (e ≤ 1600)) : ((0 ≤ a ∧ a ≤ 1600)) := by omega
theorem om_1580 {a : Int} (h0 : (a ≥ 4)) : (0 ≤ a) := by omega
theorem om_1581 {a b c d : Int} (h0 : (a = b + c)) (h1 : (c < 8)) (h2 : (d = b + 20)) (h3 : (d ≤ 1600)) : (a < (1600 : Nat)) := by omega
theorem om_1582 {a : Int} (h0 : (a ≥ 4)) : (-2147483648 ≤ a + 1) := by omega
theorem om_1583 {a b : Int} (h0 : (a = b + 1)) (h1 : (b ≥ 4)) (h2 : (b < 8)) : ((0 ≤ a ∧ a ≤ 20)) := by omega
theorem om_1584 {a b c d e : Int} (h0 : (a = b + 1)) (h1 : (0 ≤ b)) (h2 : (b = c + d)) (h3 : (d < 8)) (h4 : (e = c + 20)) (h5 : (e ≤ 1600)) : ((0 ≤ a ∧ a ≤ 1600)) := by omega
theorem om_1585 {a b c d : Int} (h0 : (a = b + c)) (h1 : (c < 4)) (h2 : (d = b + 20)) (h3 : (d ≤ 1600)) : (a < (1600 : Nat)) := by omega
theorem om_1586 {a b : Int} (h0 : (a = b + 1)) (h1 : (0 ≤ b)) (h2 : (b < 4)) : ((0 ≤ a ∧ a ≤ 20)) := by omega
theorem om_1587 {a b c d e : Int} (h0 : (a = b + 1)) (h1 : (0 ≤ b)) (h2 : (b = c + d)) (h3 : (d < 4)) (h4 : (e = c + 20)) (h5 : (e ≤ 1600)) : ((0 ≤ a ∧ a ≤ 1600)) := by omega
theorem om_1588 {a b c : Int} (h0 : (a = (-1))) (h1 : (c = b + 20)) (h2 : (c > 1600)) : ((((0 ≤ a ∧ a ≤ 1600) ∧ (b) + (20) ≤ 1600) ∨ (a = (-1) ∧ (b) + (20) > 1600 ∧ b = b))) := by omega
theorem om_1589 {a b c : Int} (h0 : (a = (-1))) (h1 : (c = b + 20)) (h2 : (c > 1600)) (h3 : (0 ≤ b)) : (((a = -1 ∧ b + 20 > 1600 ∧ b = b) ∨ (a = b + 20 ∧ b + 20 ≤ 1600 ∧ b = b + 20))) := by omega
set_option maxHeartbeats 4000000 in
set_option maxRecDepth 100000 in
theorem k_X12_feed (l : Launch) (D : va_G) (cB cC cI cJ : ClassId) (sz : Nat) (a0 a1 a2 a3 a4 a5 a6 a7 a8 a9 a10 a11 a12 a13 a14 a15 a16 a17 a18 a19 a20 a21 a22 a23 a24 a25 a26 a27 a28 a29 a30 a31 a32 a33 a34 a35 a36 a37 a38 a39 a40 a41 a42 a43 : Nat) (x0 x1 x2 x3 x4 x5 x6 x7 x8 x9 x10 x11 x12 x13 x14 x15 x16 x17 x18 x19 x20 x21 x22 x23 x24 x25 x26 x27 x28 x29 x30 x31 x32 : Int32) (y0 y1 : Int64) (f0 : Nat → Int32) (h_x5 : zBd x5.toInt 0 1600) (h_x6 : zBd x6.toInt 0 1600) (h_x7 : zBd x7.toInt 0 1600) (h_x8 : zBd x8.toInt (-1) 1600) (h_x9 : zBd x9.toInt 0 4) (h_x10 : zBd x10.toInt (-1) 1600) (h_x13 : zBd x13.toInt 0 8) (h_x14 : zBd x14.toInt 0 5) (h_x15 : zBd x15.toInt 0 6) (h_x16 : zBd x16.toInt 0 6) (h_x17 : zBd x17.toInt 0 16) (h_x19 : zBd x19.toInt 0 60) (h_x20 : zBd x20.toInt 0 1600) (h_x21 : zBd x21.toInt 0 1700) (h_x23 : zBd x23.toInt 0 1700) (h_x24 : zBd x24.toInt 0 1700) (h_x25 : zBd x25.toInt 0 200) (h_x26 : zBd x26.toInt 0 40) (h_x27 : zBd x27.toInt 0 40) (h_x28 : zBd x28.toInt 0 1) (h_x29 : zBd x29.toInt 0 14) (h_x30 : zBd x30.toInt 0 200) (h_x31 : zBd x31.toInt 0 40) (h_x32 : zBd x32.toInt 0 40) (hr_a0_0 : (x26.toInt ≤ x25.toInt)) (hr_a0_1 : (x25.toInt + x27.toInt ≤ 200)) (hr_a0_2 : (x14.toInt = 0 ∨ 2 ≤ x13.toInt)) (hf_f0 : (∀ j, 0 ≤ (f0 j).toInt ∧ (f0 j).toInt ≤ 255)) : Met l yX12_feed (.code yX12_feed cX12_feed 8 (some .int) :: lw_gd) ({ frames := 0, cells := 0, slots := 0, locals := 0 }) (gPre D [(cB, .byte), (cC, .char), (cI, .int), (cJ, .long)] [.ref a0, .int x0, .int x1, .int x2, .int x3, .int x4] (zS_3 cB cC cI cJ a0 a1 x5 x6 x7 x8 x9 x10 x11 x12 a2 a3 a4 a5 a6 a7 a8 a9 a10 a11 a12 a13 a14 a15 a16 x13 x14 x15 x16 x17 x18 a17 a18 a19 x19 a20 x20 a21 x21 x22 a22 a23 a24 a25 x23 a26 x24 a27 a28 a29 y0 a30 a31 a32 a33 a34 a35 a36 a37 a38 x25 x26 x27 y1 a39 x28 a40 a41 a42 a43 x29 x30 x31 x32 a1 f0) sz) (va_Qi (fun r u => (((0 ≤ r.toInt ∧ r.toInt ≤ 1600) ∧ (x5.toInt) + (20) ≤ 1600) ∨ (r.toInt = (-1) ∧ (x5.toInt) + (20) > 1600 ∧ (u.2.2.2.1 0).toInt = x5.toInt)) ∧ (0 ≤ (u.2.2.2.1 0).toInt ∧ (u.2.2.2.1 0).toInt ≤ 1600) ∧ (∀ j, 0 ≤ ((u.2.1 0) j).toInt ∧ ((u.2.1 0) j).toInt ≤ 255) ∧ ((r.toInt = -1 ∧ x5.toInt + 20 > 1600 ∧ (u.2.2.2.1 0).toInt = x5.toInt) ∨ (r.toInt = x5.toInt + 20 ∧ x5.toInt + 20 ≤ 1600 ∧ (u.2.2.2.1 0).toInt = x5.toInt + 20)) ∧ (fqQ r.toInt (tau (u.2.1 0) (u.2.2.2.1 0).toInt) (tau f0 x5.toInt) x5.toInt (bys x0 x1 x2 x3 x4))) (gB D (va_A (zS_3 cB cC cI cJ a0 a1 x5 x6 x7 x8 x9 x10 x11 x12 a2 a3 a4 a5 a6 a7 a8 a9 a10 a11 a12 a13 a14 a15 a16 x13 x14 x15 x16 x17 x18 a17 a18 a19 x19 a20 x20 a21 x21 x22 a22 a23 a24 a25 x23 a26 x24 a27 a28 a29 y0 a30 a31 a32 a33 a34 a35 a36 a37 a38 x25 x26 x27 y1 a39 x28 a40 a41 a42 a43 x29 x30 x31 x32 a1 f0) sz) (fun u : gEx => (zS_3 cB cC cI cJ a0 a1 (u.2.2.2.1 0) x6 x7 x8 x9 x10 x11 x12 a2 a3 a4 a5 a6 a7 a8 a9 a10 a11 a12 a13 a14 a15 a16 x13 x14 x15 x16 x17 x18 a17 a18 a19 x19 a20 x20 a21 x21 x22 a22 a23 a24 a25 x23 a26 x24 a27 a28 a29 y0 a30 a31 a32 a33 a34 a35 a36 a37 a38 x25 x26 x27 y1 a39 x28 a40 a41 a42 a43 x29 x30 x31 x32 a1 (u.2.1 0)))) (va_A (zS_3 cB cC cI cJ a0 a1 x5 x6 x7 x8 x9 x10 x11 x12 a2 a3 a4 a5 a6 a7 a8 a9 a10 a11 a12 a13 a14 a15 a16 x13 x14 x15 x16 x17 x18 a17 a18 a19 x19 a20 x20 a21 x21 x22 a22 a23 a24 a25 x23 a26 x24 a27 a28 a29 y0 a30 a31 a32 a33 a34 a35 a36 a37 a38 x25 x26 x27 y1 a39 x28 a40 a41 a42 a43 x29 x30 x31 x32 a1 f0) sz)) 0 0 (va_A (zS_3 cB cC cI cJ a0 a1 x5 x6 x7 x8 x9 x10 x11 x12 a2 a3 a4 a5 a6 a7 a8 a9 a10 a11 a12 a13 a14 a15 a16 x13 x14 x15 x16 x17 x18 a17 a18 a19 x19 a20 x20 a21 x21 x22 a22 a23 a24 a25 x23 a26 x24 a27 a28 a29 y0 a30 a31 a32 a33 a34 a35 a36 a37 a38 x25 x26 x27 y1 a39 x28 a40 a41 a42 a43 x29 x30 x31 x32 a1 f0) sz) := by
  refine gOf_i (by decide +kernel) (Nat.le_of_ble_eq_true rfl) ?_
  intro p e s m args below meth c ls A Q hx hb hts hown hml hN hK hP hD hA hl hret
  replace hown : s.vm.findClass RX12 = some m.cls := hown
  have hS : va_S A s.heap s.heap [] := va_S.rf
  replace hP : va_P D gcl (zS_3 cB cC cI cJ a0 a1 x5 x6 x7 x8 x9 x10 x11 x12 a2 a3 a4 a5 a6 a7 a8 a9 a10 a11 a12 a13 a14 a15 a16 x13 x14 x15 x16 x17 x18 a17 a18 a19 x19 a20 x20 a21 x21 x22 a22 a23 a24 a25 x23 a26 x24 a27 a28 a29 y0 a30 a31 a32 a33 a34 a35 a36 a37 a38 x25 x26 x27 y1 a39 x28 a40 a41 a42 a43 x29 x30 x31 x32 a1 f0) s.heap := hP
  replace hl : lv_has ls 8 [(0, .ref a0), (1, .int x0), (2, .int x1), (3, .int x2), (4, .int x3), (5, .int x4)] := hl
  have rx0 : zBd x0.toInt (-2147483648) 2147483647 := n_rng x0
  have rx1 : zBd x1.toInt (-2147483648) 2147483647 := n_rng x1
  have rx2 : zBd x2.toInt (-2147483648) 2147483647 := n_rng x2
  have rx3 : zBd x3.toInt (-2147483648) 2147483647 := n_rng x3
  have rx4 : zBd x4.toInt (-2147483648) 2147483647 := n_rng x4
  have rx11 : zBd x11.toInt (-2147483648) 2147483647 := n_rng x11
  have rx12 : zBd x12.toInt (-2147483648) 2147483647 := n_rng x12
  have rx18 : zBd x18.toInt (-2147483648) 2147483647 := n_rng x18
  have rx22 : zBd x22.toInt (-2147483648) 2147483647 := n_rng x22
  have ry0 := n_rngL y0
  have ry1 := n_rngL y1
  refine lv_aload_n (pc := 0) hx hb dX12_feed_0 rfl (lv_at hl 0 rfl) ?_
  refine va_get (pc := 1) (ci := 12) (v := .int x5) (C := RX12) (T := TX12) (N := 73) hx hb hts iX12 hown hK hP 0 rfl rfl 1 (by decide) (hts _ tw_1402) (fun _ h9 => h9) rfl dX12_feed_1 ?_
  have bd_h_x5 : 0 ≤ x5.toInt ∧ x5.toInt ≤ 1600 := h_x5
  refine lv_bipush (pc := 4) (v := 20) hx hb dX12_feed_4 (by decide) ?_
  refine b_iadd (pc := 6) hx hb rfl tI_20 (by first | exact (om_1557 h_x5.1) | ((first | omega | (unfold zBd at *; omega)))) (by first | exact (om_1558 h_x5.2) | ((first | omega | (unfold zBd at *; omega)))) dX12_feed_6 (fun x_1 ex_1 => ?_)
  refine lv_sipush (pc := 7) (v := 1600) hx hb dX12_feed_7 (by decide) ?_
  refine b_icmp_le (pc := 10) (tgt := 15) hx hb rfl tI_1600  dX12_feed_10 (by decide) (fun c_2 => ?_) (fun c_2 => ?_)
  ·
    as_aux_lemma =>
      refine lv_iconst (pc := 15) (v := 0) hx hb dX12_feed_15 (by decide) ?_
      refine lv_istore (pc := 16) (lv' := [(6, .int 0), (0, .ref a0), (1, .int x0), (2, .int x1), (3, .int x2), (4, .int x3), (5, .int x4)]) hx hb dX12_feed_16 hl (by decide) rfl (fun ls hl => ?_)
      have lp_11 : ∀ (n : Nat) (x_3 x_5 : Int32) (f_7 : Nat → Int32) (H : Heap) (locs : List Loc) (ls : Array Slot), (0 ≤ x_3.toInt ∧ x_3.toInt ≤ 20) → (0 ≤ x_5.toInt ∧ x_5.toInt ≤ 1600) → (∀ j, 0 ≤ (f_7 j).toInt ∧ (f_7 j).toInt ≤ 255) → (x_5.toInt = x5.toInt + x_3.toInt) → (fdQ9 (tau f_7 x_5.toInt) (tau f0 x5.toInt) x5.toInt (bys x0 x1 x2 x3 x4) x_3.toInt) → (2147483647 - x_3.toInt).toNat < n → va_P D gcl (zS_3 cB cC cI cJ a0 a1 x_5 x6 x7 x8 x9 x10 x11 x12 a2 a3 a4 a5 a6 a7 a8 a9 a10 a11 a12 a13 a14 a15 a16 x13 x14 x15 x16 x17 x18 a17 a18 a19 x19 a20 x20 a21 x21 x22 a22 a23 a24 a25 x23 a26 x24 a27 a28 a29 y0 a30 a31 a32 a33 a34 a35 a36 a37 a38 x25 x26 x27 y1 a39 x28 a40 a41 a42 a43 x29 x30 x31 x32 a1 f_7) H → va_D A (zS_3 cB cC cI cJ a0 a1 x_5 x6 x7 x8 x9 x10 x11 x12 a2 a3 a4 a5 a6 a7 a8 a9 a10 a11 a12 a13 a14 a15 a16 x13 x14 x15 x16 x17 x18 a17 a18 a19 x19 a20 x20 a21 x21 x22 a22 a23 a24 a25 x23 a26 x24 a27 a28 a29 y0 a30 a31 a32 a33 a34 a35 a36 a37 a38 x25 x26 x27 y1 a39 x28 a40 a41 a42 a43 x29 x30 x31 x32 a1 f_7) → va_S A s.heap H locs → lv_has ls 8 [(6, .int x_3), (0, .ref a0), (1, .int x0), (2, .int x1), (3, .int x2), (4, .int x3), (5, .int x4)] → W p l e ({ frames := 0, cells := 0, slots := 0, locals := 0 }) s m args below meth c H locs 0 0 Q (F0 m 18 ls []) := by
        intro n
        induction n with
        | zero => intro x_3 x_5 f_7 H locs ls hi_4 hi_6 hi_8 hi_9 hi_10 hmu; exact absurd hmu (Nat.not_lt_zero _)
        | succ n ih_lp_11 =>
          intro x_3 x_5 f_7 H locs ls hi_4 hi_6 hi_8 hi_9 hi_10 hmu_lp_11 hP hD hS hl
          refine lv_iload (pc := 18) hx hb dX12_feed_18 (lv_at hl 0 rfl) ?_
          refine lv_bipush (pc := 20) (v := 20) hx hb dX12_feed_20 (by decide) ?_
          refine b_icmp_ge (pc := 22) (tgt := 114) hx hb rfl tI_20  dX12_feed_22 (by decide) (fun c_12 => ?_) (fun c_12 => ?_)
          ·
            as_aux_lemma =>
              refine lv_aload_n (pc := 114) hx hb dX12_feed_114 rfl (lv_at hl 1 rfl) ?_
              refine va_get (pc := 115) (ci := 12) (v := .int x_5) (C := RX12) (T := TX12) (N := 73) hx hb hts iX12 hown hK hP 0 rfl rfl 1 (by decide) (hts _ tw_1402) (fun _ h9 => h9) rfl dX12_feed_115 ?_
              have hP9 : va_P D gcl (zS_3 cB cC cI cJ a0 a1 x_5 x6 x7 x8 x9 x10 x11 x12 a2 a3 a4 a5 a6 a7 a8 a9 a10 a11 a12 a13 a14 a15 a16 x13 x14 x15 x16 x17 x18 a17 a18 a19 x19 a20 x20 a21 x21 x22 a22 a23 a24 a25 x23 a26 x24 a27 a28 a29 y0 a30 a31 a32 a33 a34 a35 a36 a37 a38 x25 x26 x27 y1 a39 x28 a40 a41 a42 a43 x29 x30 x31 x32 a1 f_7) H := g_psub hP [0, 1] rfl
              have hD9 : va_D A (zS_3 cB cC cI cJ a0 a1 x_5 x6 x7 x8 x9 x10 x11 x12 a2 a3 a4 a5 a6 a7 a8 a9 a10 a11 a12 a13 a14 a15 a16 x13 x14 x15 x16 x17 x18 a17 a18 a19 x19 a20 x20 a21 x21 x22 a22 a23 a24 a25 x23 a26 x24 a27 a28 a29 y0 a30 a31 a32 a33 a34 a35 a36 a37 a38 x25 x26 x27 y1 a39 x28 a40 a41 a42 a43 x29 x30 x31 x32 a1 f_7) := hD.sub [0, 1] (by decide) rfl
              exact hret x_5 ((fun _ => 0), (fun k => [f_7].getD k (fun _ => 0)), (fun _ => (fun _ => 0)), (fun k => [x_5].getD k 0), (fun _ => 0)) dX12_feed_118 ⟨(show (((0 ≤ x_5.toInt ∧ x_5.toInt ≤ 1600) ∧ (x5.toInt) + (20) ≤ 1600) ∨ (x_5.toInt = (-1) ∧ (x5.toInt) + (20) > 1600 ∧ (x_5 : Int32).toInt = x5.toInt)) from (by first | exact (om_1559 hi_6.1 hi_6.2 ex_1 c_2) | ((first | omega | (unfold zBd at *; omega))))), (show (0 ≤ (x_5 : Int32).toInt ∧ (x_5 : Int32).toInt ≤ 1600) from hi_6), hi_8, (show ((x_5.toInt = -1 ∧ x5.toInt + 20 > 1600 ∧ (x_5 : Int32).toInt = x5.toInt) ∨ (x_5.toInt = x5.toInt + 20 ∧ x5.toInt + 20 ≤ 1600 ∧ (x_5 : Int32).toInt = x5.toInt + 20)) from (by first | exact (om_1560 hi_6.1 hi_9 c_12 hi_4.2 ex_1 c_2) | ((first | omega | (unfold zBd at *; omega))))), (show fqQ x_5.toInt (tau f_7 x_5.toInt) (tau f0 x5.toInt) x5.toInt (bys x0 x1 x2 x3 x4) from (by have e9 : x_3.toInt = 20 := (by (first | omega | (unfold zBd at *; omega))); have q9 := hi_10; rw [e9] at q9; exact fq_yes (by (first | omega | (unfold zBd at *; omega))) q9))⟩ hP9 hD9 hS
          ·
            as_aux_lemma =>
              refine lv_iload (pc := 25) hx hb dX12_feed_25 (lv_at hl 0 rfl) ?_
              refine lv_iconst (pc := 27) (v := 4) hx hb dX12_feed_27 (by decide) ?_
              refine b_icmp_ge (pc := 28) (tgt := 35) hx hb rfl tI_4  dX12_feed_28 (by decide) (fun c_13 => ?_) (fun c_13 => ?_)
              ·
                as_aux_lemma =>
                  refine lv_iload (pc := 35) hx hb dX12_feed_35 (lv_at hl 0 rfl) ?_
                  refine lv_bipush (pc := 37) (v := 8) hx hb dX12_feed_37 (by decide) ?_
                  refine b_icmp_ge (pc := 39) (tgt := 46) hx hb rfl tI_8  dX12_feed_39 (by decide) (fun c_14 => ?_) (fun c_14 => ?_)
                  ·
                    as_aux_lemma =>
                      refine lv_iload (pc := 46) hx hb dX12_feed_46 (lv_at hl 0 rfl) ?_
                      refine lv_bipush (pc := 48) (v := 12) hx hb dX12_feed_48 (by decide) ?_
                      refine b_icmp_ge (pc := 50) (tgt := 57) hx hb rfl tI_12  dX12_feed_50 (by decide) (fun c_15 => ?_) (fun c_15 => ?_)
                      ·
                        as_aux_lemma =>
                          refine lv_iload (pc := 57) hx hb dX12_feed_57 (lv_at hl 0 rfl) ?_
                          refine lv_bipush (pc := 59) (v := 16) hx hb dX12_feed_59 (by decide) ?_
                          refine b_icmp_ge (pc := 61) (tgt := 69) hx hb rfl tI_16  dX12_feed_61 (by decide) (fun c_16 => ?_) (fun c_16 => ?_)
                          ·
                            as_aux_lemma =>
                              refine lv_iload (pc := 69) hx hb dX12_feed_69 (lv_at hl 6 rfl) ?_
                              refine lv_istore (pc := 71) (lv' := [(7, .int x4), (6, .int x_3), (0, .ref a0), (1, .int x0), (2, .int x1), (3, .int x2), (4, .int x3), (5, .int x4)]) hx hb dX12_feed_71 hl (by decide) rfl (fun ls hl => ?_)
                              refine lv_aload_n (pc := 73) hx hb dX12_feed_73 rfl (lv_at hl 2 rfl) ?_
                              refine va_get (pc := 74) (ci := 12) (v := .ref a1) (C := RX12) (T := TX12) (N := 73) hx hb hts iX12 hown hK hP 0 rfl rfl 0 (by decide) (hts _ tw_1401) (fun _ h9 => h9) rfl dX12_feed_74 ?_
                              refine lv_aload_n (pc := 77) hx hb dX12_feed_77 rfl (lv_at hl 2 rfl) ?_
                              refine va_get (pc := 78) (ci := 12) (v := .int x_5) (C := RX12) (T := TX12) (N := 73) hx hb hts iX12 hown hK hP 0 rfl rfl 1 (by decide) (hts _ tw_1402) (fun _ h9 => h9) rfl dX12_feed_78 ?_
                              refine lv_iload (pc := 81) hx hb dX12_feed_81 (lv_at hl 0 rfl) ?_
                              refine lv_bipush (pc := 83) (v := 8) hx hb dX12_feed_83 (by decide) ?_
                              refine lv_iconst (pc := 85) (v := 3) hx hb dX12_feed_85 (by decide) ?_
                              refine lv_iload (pc := 86) hx hb dX12_feed_86 (lv_at hl 1 rfl) ?_
                              as_aux_lemma =>
                                refine lv_iconst (pc := 88) (v := 4) hx hb dX12_feed_88 (by decide) ?_
                                refine c_irem (pc := 89) hx hb rfl tI_4 (by first | exact (om_1561) | ((first | omega | (unfold zBd at *; omega)))) (by first | exact (om_1562 c_16) | ((first | omega | (unfold zBd at *; omega)))) dX12_feed_89 (fun x_17 ex_17 => ?_)
                                refine b_isub (pc := 90) hx hb tI_3 rfl (by (first | omega | (unfold zBd at *; omega))) (by (first | omega | (unfold zBd at *; omega))) dX12_feed_90 (fun x_18 ex_18 => ?_)
                                refine b_imul (pc := 91) hx hb tI_8 rfl (by (first | omega | (unfold zBd at *; omega))) (by (first | omega | (unfold zBd at *; omega))) dX12_feed_91 (fun x_19 ex_19 => ?_)
                                refine lv_ishr (pc := 92) hx hb dX12_feed_92 ?_
                                refine lv_topi (fun x_20 ex_20 => ?_)
                                have rx_20 : zBd x_20.toInt (-2147483648) 2147483647 := n_rng x_20
                                refine lv_sipush (pc := 93) (v := 255) hx hb dX12_feed_93 (by decide) ?_
                                refine lv_iand (pc := 96) hx hb dX12_feed_96 ?_
                                refine lv_topi (fun x_21 ex_21 => ?_)
                                have tx_21 := and255 ex_21
                                refine e_iastore (pc := 97) hx hb hK hP hD hS 1 2 rfl rfl (n_in rfl (by first | exact (om_0 hi_6.1) | ((first | omega | (unfold zBd at *; omega)))) (by first | exact (om_1563 hi_9 c_12 ex_1 c_2) | ((first | omega | (unfold zBd at *; omega))))) dX12_feed_97 (fun f_22 ef_22 H locs hP hD hS => ?_)
                                have hf_22 : (∀ j, 0 ≤ (f_22 j).toInt ∧ (f_22 j).toInt ≤ 255) := (by rw [ef_22]; exact n_upd hi_8 (by (first | omega | (unfold zBd at *; omega))) (by (first | omega | (unfold zBd at *; omega))))
                                replace hP : va_P D gcl (zS_3 cB cC cI cJ a0 a1 x_5 x6 x7 x8 x9 x10 x11 x12 a2 a3 a4 a5 a6 a7 a8 a9 a10 a11 a12 a13 a14 a15 a16 x13 x14 x15 x16 x17 x18 a17 a18 a19 x19 a20 x20 a21 x21 x22 a22 a23 a24 a25 x23 a26 x24 a27 a28 a29 y0 a30 a31 a32 a33 a34 a35 a36 a37 a38 x25 x26 x27 y1 a39 x28 a40 a41 a42 a43 x29 x30 x31 x32 a1 f_22) H := hP
                                replace hD : va_D A (zS_3 cB cC cI cJ a0 a1 x_5 x6 x7 x8 x9 x10 x11 x12 a2 a3 a4 a5 a6 a7 a8 a9 a10 a11 a12 a13 a14 a15 a16 x13 x14 x15 x16 x17 x18 a17 a18 a19 x19 a20 x20 a21 x21 x22 a22 a23 a24 a25 x23 a26 x24 a27 a28 a29 y0 a30 a31 a32 a33 a34 a35 a36 a37 a38 x25 x26 x27 y1 a39 x28 a40 a41 a42 a43 x29 x30 x31 x32 a1 f_22) := hD
                                as_aux_lemma =>
                                  refine lv_aload_n (pc := 98) hx hb dX12_feed_98 rfl (lv_at hl 2 rfl) ?_
                                  refine lv_dup (pc := 99) hx hb dX12_feed_99 rfl ?_
                                  refine va_get (pc := 100) (ci := 12) (v := .int x_5) (C := RX12) (T := TX12) (N := 73) hx hb hts iX12 hown hK hP 0 rfl rfl 1 (by decide) (hts _ tw_1402) (fun _ h9 => h9) rfl dX12_feed_100 ?_
                                  refine lv_iconst (pc := 103) (v := 1) hx hb dX12_feed_103 (by decide) ?_
                                  refine b_iadd (pc := 104) hx hb rfl tI_1 (by first | exact (om_2 hi_6.1) | ((first | omega | (unfold zBd at *; omega)))) (by first | exact (om_24 hi_6.2) | ((first | omega | (unfold zBd at *; omega)))) dX12_feed_104 (fun x_23 ex_23 => ?_)
                                  refine va_put (pc := 105) (ci := 12) (v := .int x_23) (ty := .int) (C := RX12) (T := TX12) (N := 73) hx hb hts iX12 tyX12 tyX12_ok nmX12 hown hK hP hD hS 0 rfl rfl 1 (by decide) (hts _ tw_1402) (fun _ h9 => h9) rfl (by decide +kernel) rfl rfl (Nat.le_of_ble_eq_true rfl) dX12_feed_105 (fun H locs hP hD hS => ?_)
                                  replace hP : va_P D gcl (zS_3 cB cC cI cJ a0 a1 x_23 x6 x7 x8 x9 x10 x11 x12 a2 a3 a4 a5 a6 a7 a8 a9 a10 a11 a12 a13 a14 a15 a16 x13 x14 x15 x16 x17 x18 a17 a18 a19 x19 a20 x20 a21 x21 x22 a22 a23 a24 a25 x23 a26 x24 a27 a28 a29 y0 a30 a31 a32 a33 a34 a35 a36 a37 a38 x25 x26 x27 y1 a39 x28 a40 a41 a42 a43 x29 x30 x31 x32 a1 f_22) H := hP
                                  replace hD : va_D A (zS_3 cB cC cI cJ a0 a1 x_23 x6 x7 x8 x9 x10 x11 x12 a2 a3 a4 a5 a6 a7 a8 a9 a10 a11 a12 a13 a14 a15 a16 x13 x14 x15 x16 x17 x18 a17 a18 a19 x19 a20 x20 a21 x21 x22 a22 a23 a24 a25 x23 a26 x24 a27 a28 a29 y0 a30 a31 a32 a33 a34 a35 a36 a37 a38 x25 x26 x27 y1 a39 x28 a40 a41 a42 a43 x29 x30 x31 x32 a1 f_22) := hD
                                  refine b_iinc (pc := 108) hx hb dX12_feed_108 hl (k := 1) rfl rfl tI_1 (by first | exact (om_1564 c_16) | ((first | omega | (unfold zBd at *; omega)))) (by first | exact (om_1565 c_12) | ((first | omega | (unfold zBd at *; omega)))) (by decide) (fun x_24 ex_24 ls hl => ?_)
                                  replace hl : lv_has ls 8 [(6, .int x_24), (7, .int x4), (0, .ref a0), (1, .int x0), (2, .int x1), (3, .int x2), (4, .int x3), (5, .int x4)] := hl
                                  refine lv_goto (pc := 111) (tgt := 18) hx hb dX12_feed_111 (by decide) ?_
                                  exact ih_lp_11 x_24 x_23 f_22 _ _ ls (by first | exact (om_1566 ex_24 c_16 c_12) | ((first | omega | (unfold zBd at *; omega)))) (by first | exact (om_1567 ex_23 hi_6.1 hi_9 c_12 ex_1 c_2) | ((first | omega | (unfold zBd at *; omega)))) hf_22 (by first | exact (om_79 ex_24 ex_23 hi_9) | ((first | omega | (unfold zBd at *; omega)))) (fdm_step hi_10 (by first | exact (om_63 hi_9) | ((first | omega | (unfold zBd at *; omega)))) (by first | exact (om_0 h_x5.1) | ((first | omega | (unfold zBd at *; omega)))) (by first | exact (om_1562 c_16) | ((first | omega | (unfold zBd at *; omega)))) (by first | exact (om_5 ex_24) | ((first | omega | (unfold zBd at *; omega)))) (e_at ef_22 (by (first | omega | (unfold zBd at *; omega)))) (by first | exact (om_5 ex_23) | ((first | omega | (unfold zBd at *; omega)))) (bm ex_20 tx_21) (bys_at (by (first | omega | (unfold zBd at *; omega))) (by (first | omega | (unfold zBd at *; omega))) (Or.inr (Or.inr (Or.inr (Or.inr (⟨by (first | omega | (unfold zBd at *; omega)), rfl⟩))))))) (by (first | omega | (unfold zBd at *; omega))) hP hD hS (lv_sub hl [0, 2, 3, 4, 5, 6, 7] rfl)
                          ·
                            as_aux_lemma =>
                              refine lv_iload (pc := 64) hx hb dX12_feed_64 (lv_at hl 5 rfl) ?_
                              refine lv_goto (pc := 66) (tgt := 71) hx hb dX12_feed_66 (by decide) ?_
                              refine lv_istore (pc := 71) (lv' := [(7, .int x3), (6, .int x_3), (0, .ref a0), (1, .int x0), (2, .int x1), (3, .int x2), (4, .int x3), (5, .int x4)]) hx hb dX12_feed_71 hl (by decide) rfl (fun ls hl => ?_)
                              refine lv_aload_n (pc := 73) hx hb dX12_feed_73 rfl (lv_at hl 2 rfl) ?_
                              refine va_get (pc := 74) (ci := 12) (v := .ref a1) (C := RX12) (T := TX12) (N := 73) hx hb hts iX12 hown hK hP 0 rfl rfl 0 (by decide) (hts _ tw_1401) (fun _ h9 => h9) rfl dX12_feed_74 ?_
                              refine lv_aload_n (pc := 77) hx hb dX12_feed_77 rfl (lv_at hl 2 rfl) ?_
                              refine va_get (pc := 78) (ci := 12) (v := .int x_5) (C := RX12) (T := TX12) (N := 73) hx hb hts iX12 hown hK hP 0 rfl rfl 1 (by decide) (hts _ tw_1402) (fun _ h9 => h9) rfl dX12_feed_78 ?_
                              refine lv_iload (pc := 81) hx hb dX12_feed_81 (lv_at hl 0 rfl) ?_
                              refine lv_bipush (pc := 83) (v := 8) hx hb dX12_feed_83 (by decide) ?_
                              refine lv_iconst (pc := 85) (v := 3) hx hb dX12_feed_85 (by decide) ?_
                              as_aux_lemma =>
                                refine lv_iload (pc := 86) hx hb dX12_feed_86 (lv_at hl 1 rfl) ?_
                                refine lv_iconst (pc := 88) (v := 4) hx hb dX12_feed_88 (by decide) ?_
                                refine c_irem (pc := 89) hx hb rfl tI_4 (by first | exact (om_1561) | ((first | omega | (unfold zBd at *; omega)))) (by first | exact (om_1568 c_15) | ((first | omega | (unfold zBd at *; omega)))) dX12_feed_89 (fun x_25 ex_25 => ?_)
                                refine b_isub (pc := 90) hx hb tI_3 rfl (by (first | omega | (unfold zBd at *; omega))) (by (first | omega | (unfold zBd at *; omega))) dX12_feed_90 (fun x_26 ex_26 => ?_)
                                refine b_imul (pc := 91) hx hb tI_8 rfl (by (first | omega | (unfold zBd at *; omega))) (by (first | omega | (unfold zBd at *; omega))) dX12_feed_91 (fun x_27 ex_27 => ?_)
                                refine lv_ishr (pc := 92) hx hb dX12_feed_92 ?_
                                refine lv_topi (fun x_28 ex_28 => ?_)
                                have rx_28 : zBd x_28.toInt (-2147483648) 2147483647 := n_rng x_28
                                refine lv_sipush (pc := 93) (v := 255) hx hb dX12_feed_93 (by decide) ?_
                                refine lv_iand (pc := 96) hx hb dX12_feed_96 ?_
                                refine lv_topi (fun x_29 ex_29 => ?_)
                                have tx_29 := and255 ex_29
                                as_aux_lemma =>
                                  refine e_iastore (pc := 97) hx hb hK hP hD hS 1 2 rfl rfl (n_in rfl (by first | exact (om_0 hi_6.1) | ((first | omega | (unfold zBd at *; omega)))) (by first | exact (om_1569 hi_9 c_16 ex_1 c_2) | ((first | omega | (unfold zBd at *; omega))))) dX12_feed_97 (fun f_30 ef_30 H locs hP hD hS => ?_)
                                  have hf_30 : (∀ j, 0 ≤ (f_30 j).toInt ∧ (f_30 j).toInt ≤ 255) := (by rw [ef_30]; exact n_upd hi_8 (by (first | omega | (unfold zBd at *; omega))) (by (first | omega | (unfold zBd at *; omega))))
                                  replace hP : va_P D gcl (zS_3 cB cC cI cJ a0 a1 x_5 x6 x7 x8 x9 x10 x11 x12 a2 a3 a4 a5 a6 a7 a8 a9 a10 a11 a12 a13 a14 a15 a16 x13 x14 x15 x16 x17 x18 a17 a18 a19 x19 a20 x20 a21 x21 x22 a22 a23 a24 a25 x23 a26 x24 a27 a28 a29 y0 a30 a31 a32 a33 a34 a35 a36 a37 a38 x25 x26 x27 y1 a39 x28 a40 a41 a42 a43 x29 x30 x31 x32 a1 f_30) H := hP
                                  replace hD : va_D A (zS_3 cB cC cI cJ a0 a1 x_5 x6 x7 x8 x9 x10 x11 x12 a2 a3 a4 a5 a6 a7 a8 a9 a10 a11 a12 a13 a14 a15 a16 x13 x14 x15 x16 x17 x18 a17 a18 a19 x19 a20 x20 a21 x21 x22 a22 a23 a24 a25 x23 a26 x24 a27 a28 a29 y0 a30 a31 a32 a33 a34 a35 a36 a37 a38 x25 x26 x27 y1 a39 x28 a40 a41 a42 a43 x29 x30 x31 x32 a1 f_30) := hD
                                  refine lv_aload_n (pc := 98) hx hb dX12_feed_98 rfl (lv_at hl 2 rfl) ?_
                                  refine lv_dup (pc := 99) hx hb dX12_feed_99 rfl ?_
                                  refine va_get (pc := 100) (ci := 12) (v := .int x_5) (C := RX12) (T := TX12) (N := 73) hx hb hts iX12 hown hK hP 0 rfl rfl 1 (by decide) (hts _ tw_1402) (fun _ h9 => h9) rfl dX12_feed_100 ?_
                                  refine lv_iconst (pc := 103) (v := 1) hx hb dX12_feed_103 (by decide) ?_
                                  refine b_iadd (pc := 104) hx hb rfl tI_1 (by first | exact (om_2 hi_6.1) | ((first | omega | (unfold zBd at *; omega)))) (by first | exact (om_24 hi_6.2) | ((first | omega | (unfold zBd at *; omega)))) dX12_feed_104 (fun x_31 ex_31 => ?_)
                                  refine va_put (pc := 105) (ci := 12) (v := .int x_31) (ty := .int) (C := RX12) (T := TX12) (N := 73) hx hb hts iX12 tyX12 tyX12_ok nmX12 hown hK hP hD hS 0 rfl rfl 1 (by decide) (hts _ tw_1402) (fun _ h9 => h9) rfl (by decide +kernel) rfl rfl (Nat.le_of_ble_eq_true rfl) dX12_feed_105 (fun H locs hP hD hS => ?_)
                                  replace hP : va_P D gcl (zS_3 cB cC cI cJ a0 a1 x_31 x6 x7 x8 x9 x10 x11 x12 a2 a3 a4 a5 a6 a7 a8 a9 a10 a11 a12 a13 a14 a15 a16 x13 x14 x15 x16 x17 x18 a17 a18 a19 x19 a20 x20 a21 x21 x22 a22 a23 a24 a25 x23 a26 x24 a27 a28 a29 y0 a30 a31 a32 a33 a34 a35 a36 a37 a38 x25 x26 x27 y1 a39 x28 a40 a41 a42 a43 x29 x30 x31 x32 a1 f_30) H := hP
                                  replace hD : va_D A (zS_3 cB cC cI cJ a0 a1 x_31 x6 x7 x8 x9 x10 x11 x12 a2 a3 a4 a5 a6 a7 a8 a9 a10 a11 a12 a13 a14 a15 a16 x13 x14 x15 x16 x17 x18 a17 a18 a19 x19 a20 x20 a21 x21 x22 a22 a23 a24 a25 x23 a26 x24 a27 a28 a29 y0 a30 a31 a32 a33 a34 a35 a36 a37 a38 x25 x26 x27 y1 a39 x28 a40 a41 a42 a43 x29 x30 x31 x32 a1 f_30) := hD
                                  refine b_iinc (pc := 108) hx hb dX12_feed_108 hl (k := 1) rfl rfl tI_1 (by first | exact (om_1570 c_15) | ((first | omega | (unfold zBd at *; omega)))) (by first | exact (om_1571 c_16) | ((first | omega | (unfold zBd at *; omega)))) (by decide) (fun x_32 ex_32 ls hl => ?_)
                                  replace hl : lv_has ls 8 [(6, .int x_32), (7, .int x3), (0, .ref a0), (1, .int x0), (2, .int x1), (3, .int x2), (4, .int x3), (5, .int x4)] := hl
                                  refine lv_goto (pc := 111) (tgt := 18) hx hb dX12_feed_111 (by decide) ?_
                                  exact ih_lp_11 x_32 x_31 f_30 _ _ ls (by first | exact (om_1572 ex_32 c_15 c_16) | ((first | omega | (unfold zBd at *; omega)))) (by first | exact (om_1573 ex_31 hi_6.1 hi_9 c_16 ex_1 c_2) | ((first | omega | (unfold zBd at *; omega)))) hf_30 (by first | exact (om_79 ex_32 ex_31 hi_9) | ((first | omega | (unfold zBd at *; omega)))) (fdm_step hi_10 (by first | exact (om_63 hi_9) | ((first | omega | (unfold zBd at *; omega)))) (by first | exact (om_0 h_x5.1) | ((first | omega | (unfold zBd at *; omega)))) (by first | exact (om_1568 c_15) | ((first | omega | (unfold zBd at *; omega)))) (by first | exact (om_5 ex_32) | ((first | omega | (unfold zBd at *; omega)))) (e_at ef_30 (by (first | omega | (unfold zBd at *; omega)))) (by first | exact (om_5 ex_31) | ((first | omega | (unfold zBd at *; omega)))) (bm ex_28 tx_29) (bys_at (by (first | omega | (unfold zBd at *; omega))) (by (first | omega | (unfold zBd at *; omega))) (Or.inr (Or.inr (Or.inr (Or.inl ⟨by (first | omega | (unfold zBd at *; omega)), by (first | omega | (unfold zBd at *; omega)), rfl⟩)))))) (by (first | omega | (unfold zBd at *; omega))) hP hD hS (lv_sub hl [0, 2, 3, 4, 5, 6, 7] rfl)
                      ·
                        as_aux_lemma =>
                          refine lv_iload_n (pc := 53) hx hb dX12_feed_53 rfl (lv_at hl 4 rfl) ?_
                          refine lv_goto (pc := 54) (tgt := 71) hx hb dX12_feed_54 (by decide) ?_
                          refine lv_istore (pc := 71) (lv' := [(7, .int x2), (6, .int x_3), (0, .ref a0), (1, .int x0), (2, .int x1), (3, .int x2), (4, .int x3), (5, .int x4)]) hx hb dX12_feed_71 hl (by decide) rfl (fun ls hl => ?_)
                          refine lv_aload_n (pc := 73) hx hb dX12_feed_73 rfl (lv_at hl 2 rfl) ?_
                          refine va_get (pc := 74) (ci := 12) (v := .ref a1) (C := RX12) (T := TX12) (N := 73) hx hb hts iX12 hown hK hP 0 rfl rfl 0 (by decide) (hts _ tw_1401) (fun _ h9 => h9) rfl dX12_feed_74 ?_
                          refine lv_aload_n (pc := 77) hx hb dX12_feed_77 rfl (lv_at hl 2 rfl) ?_
                          refine va_get (pc := 78) (ci := 12) (v := .int x_5) (C := RX12) (T := TX12) (N := 73) hx hb hts iX12 hown hK hP 0 rfl rfl 1 (by decide) (hts _ tw_1402) (fun _ h9 => h9) rfl dX12_feed_78 ?_
                          refine lv_iload (pc := 81) hx hb dX12_feed_81 (lv_at hl 0 rfl) ?_
                          refine lv_bipush (pc := 83) (v := 8) hx hb dX12_feed_83 (by decide) ?_
                          refine lv_iconst (pc := 85) (v := 3) hx hb dX12_feed_85 (by decide) ?_
                          as_aux_lemma =>
                            refine lv_iload (pc := 86) hx hb dX12_feed_86 (lv_at hl 1 rfl) ?_
                            refine lv_iconst (pc := 88) (v := 4) hx hb dX12_feed_88 (by decide) ?_
                            refine c_irem (pc := 89) hx hb rfl tI_4 (by first | exact (om_1561) | ((first | omega | (unfold zBd at *; omega)))) (by first | exact (om_1574 c_14) | ((first | omega | (unfold zBd at *; omega)))) dX12_feed_89 (fun x_33 ex_33 => ?_)
                            refine b_isub (pc := 90) hx hb tI_3 rfl (by (first | omega | (unfold zBd at *; omega))) (by (first | omega | (unfold zBd at *; omega))) dX12_feed_90 (fun x_34 ex_34 => ?_)
                            refine b_imul (pc := 91) hx hb tI_8 rfl (by (first | omega | (unfold zBd at *; omega))) (by (first | omega | (unfold zBd at *; omega))) dX12_feed_91 (fun x_35 ex_35 => ?_)
                            refine lv_ishr (pc := 92) hx hb dX12_feed_92 ?_
                            refine lv_topi (fun x_36 ex_36 => ?_)
                            have rx_36 : zBd x_36.toInt (-2147483648) 2147483647 := n_rng x_36
                            refine lv_sipush (pc := 93) (v := 255) hx hb dX12_feed_93 (by decide) ?_
                            refine lv_iand (pc := 96) hx hb dX12_feed_96 ?_
                            refine lv_topi (fun x_37 ex_37 => ?_)
                            have tx_37 := and255 ex_37
                            as_aux_lemma =>
                              refine e_iastore (pc := 97) hx hb hK hP hD hS 1 2 rfl rfl (n_in rfl (by first | exact (om_0 hi_6.1) | ((first | omega | (unfold zBd at *; omega)))) (by first | exact (om_1575 hi_9 c_15 ex_1 c_2) | ((first | omega | (unfold zBd at *; omega))))) dX12_feed_97 (fun f_38 ef_38 H locs hP hD hS => ?_)
                              have hf_38 : (∀ j, 0 ≤ (f_38 j).toInt ∧ (f_38 j).toInt ≤ 255) := (by rw [ef_38]; exact n_upd hi_8 (by (first | omega | (unfold zBd at *; omega))) (by (first | omega | (unfold zBd at *; omega))))
                              replace hP : va_P D gcl (zS_3 cB cC cI cJ a0 a1 x_5 x6 x7 x8 x9 x10 x11 x12 a2 a3 a4 a5 a6 a7 a8 a9 a10 a11 a12 a13 a14 a15 a16 x13 x14 x15 x16 x17 x18 a17 a18 a19 x19 a20 x20 a21 x21 x22 a22 a23 a24 a25 x23 a26 x24 a27 a28 a29 y0 a30 a31 a32 a33 a34 a35 a36 a37 a38 x25 x26 x27 y1 a39 x28 a40 a41 a42 a43 x29 x30 x31 x32 a1 f_38) H := hP
                              replace hD : va_D A (zS_3 cB cC cI cJ a0 a1 x_5 x6 x7 x8 x9 x10 x11 x12 a2 a3 a4 a5 a6 a7 a8 a9 a10 a11 a12 a13 a14 a15 a16 x13 x14 x15 x16 x17 x18 a17 a18 a19 x19 a20 x20 a21 x21 x22 a22 a23 a24 a25 x23 a26 x24 a27 a28 a29 y0 a30 a31 a32 a33 a34 a35 a36 a37 a38 x25 x26 x27 y1 a39 x28 a40 a41 a42 a43 x29 x30 x31 x32 a1 f_38) := hD
                              refine lv_aload_n (pc := 98) hx hb dX12_feed_98 rfl (lv_at hl 2 rfl) ?_
                              refine lv_dup (pc := 99) hx hb dX12_feed_99 rfl ?_
                              refine va_get (pc := 100) (ci := 12) (v := .int x_5) (C := RX12) (T := TX12) (N := 73) hx hb hts iX12 hown hK hP 0 rfl rfl 1 (by decide) (hts _ tw_1402) (fun _ h9 => h9) rfl dX12_feed_100 ?_
                              refine lv_iconst (pc := 103) (v := 1) hx hb dX12_feed_103 (by decide) ?_
                              refine b_iadd (pc := 104) hx hb rfl tI_1 (by first | exact (om_2 hi_6.1) | ((first | omega | (unfold zBd at *; omega)))) (by first | exact (om_24 hi_6.2) | ((first | omega | (unfold zBd at *; omega)))) dX12_feed_104 (fun x_39 ex_39 => ?_)
                              refine va_put (pc := 105) (ci := 12) (v := .int x_39) (ty := .int) (C := RX12) (T := TX12) (N := 73) hx hb hts iX12 tyX12 tyX12_ok nmX12 hown hK hP hD hS 0 rfl rfl 1 (by decide) (hts _ tw_1402) (fun _ h9 => h9) rfl (by decide +kernel) rfl rfl (Nat.le_of_ble_eq_true rfl) dX12_feed_105 (fun H locs hP hD hS => ?_)
                              replace hP : va_P D gcl (zS_3 cB cC cI cJ a0 a1 x_39 x6 x7 x8 x9 x10 x11 x12 a2 a3 a4 a5 a6 a7 a8 a9 a10 a11 a12 a13 a14 a15 a16 x13 x14 x15 x16 x17 x18 a17 a18 a19 x19 a20 x20 a21 x21 x22 a22 a23 a24 a25 x23 a26 x24 a27 a28 a29 y0 a30 a31 a32 a33 a34 a35 a36 a37 a38 x25 x26 x27 y1 a39 x28 a40 a41 a42 a43 x29 x30 x31 x32 a1 f_38) H := hP
                              replace hD : va_D A (zS_3 cB cC cI cJ a0 a1 x_39 x6 x7 x8 x9 x10 x11 x12 a2 a3 a4 a5 a6 a7 a8 a9 a10 a11 a12 a13 a14 a15 a16 x13 x14 x15 x16 x17 x18 a17 a18 a19 x19 a20 x20 a21 x21 x22 a22 a23 a24 a25 x23 a26 x24 a27 a28 a29 y0 a30 a31 a32 a33 a34 a35 a36 a37 a38 x25 x26 x27 y1 a39 x28 a40 a41 a42 a43 x29 x30 x31 x32 a1 f_38) := hD
                              refine b_iinc (pc := 108) hx hb dX12_feed_108 hl (k := 1) rfl rfl tI_1 (by first | exact (om_1576 c_14) | ((first | omega | (unfold zBd at *; omega)))) (by first | exact (om_1577 c_15) | ((first | omega | (unfold zBd at *; omega)))) (by decide) (fun x_40 ex_40 ls hl => ?_)
                              replace hl : lv_has ls 8 [(6, .int x_40), (7, .int x2), (0, .ref a0), (1, .int x0), (2, .int x1), (3, .int x2), (4, .int x3), (5, .int x4)] := hl
                              refine lv_goto (pc := 111) (tgt := 18) hx hb dX12_feed_111 (by decide) ?_
                              exact ih_lp_11 x_40 x_39 f_38 _ _ ls (by first | exact (om_1578 ex_40 c_14 c_15) | ((first | omega | (unfold zBd at *; omega)))) (by first | exact (om_1579 ex_39 hi_6.1 hi_9 c_15 ex_1 c_2) | ((first | omega | (unfold zBd at *; omega)))) hf_38 (by first | exact (om_79 ex_40 ex_39 hi_9) | ((first | omega | (unfold zBd at *; omega)))) (fdm_step hi_10 (by first | exact (om_63 hi_9) | ((first | omega | (unfold zBd at *; omega)))) (by first | exact (om_0 h_x5.1) | ((first | omega | (unfold zBd at *; omega)))) (by first | exact (om_1574 c_14) | ((first | omega | (unfold zBd at *; omega)))) (by first | exact (om_5 ex_40) | ((first | omega | (unfold zBd at *; omega)))) (e_at ef_38 (by (first | omega | (unfold zBd at *; omega)))) (by first | exact (om_5 ex_39) | ((first | omega | (unfold zBd at *; omega)))) (bm ex_36 tx_37) (bys_at (by (first | omega | (unfold zBd at *; omega))) (by (first | omega | (unfold zBd at *; omega))) (Or.inr (Or.inr (Or.inl ⟨by (first | omega | (unfold zBd at *; omega)), by (first | omega | (unfold zBd at *; omega)), rfl⟩))))) (by (first | omega | (unfold zBd at *; omega))) hP hD hS (lv_sub hl [0, 2, 3, 4, 5, 6, 7] rfl)
                  ·
                    as_aux_lemma =>
                      refine lv_iload_n (pc := 42) hx hb dX12_feed_42 rfl (lv_at hl 3 rfl) ?_
                      refine lv_goto (pc := 43) (tgt := 71) hx hb dX12_feed_43 (by decide) ?_
                      refine lv_istore (pc := 71) (lv' := [(7, .int x1), (6, .int x_3), (0, .ref a0), (1, .int x0), (2, .int x1), (3, .int x2), (4, .int x3), (5, .int x4)]) hx hb dX12_feed_71 hl (by decide) rfl (fun ls hl => ?_)
                      refine lv_aload_n (pc := 73) hx hb dX12_feed_73 rfl (lv_at hl 2 rfl) ?_
                      refine va_get (pc := 74) (ci := 12) (v := .ref a1) (C := RX12) (T := TX12) (N := 73) hx hb hts iX12 hown hK hP 0 rfl rfl 0 (by decide) (hts _ tw_1401) (fun _ h9 => h9) rfl dX12_feed_74 ?_
                      refine lv_aload_n (pc := 77) hx hb dX12_feed_77 rfl (lv_at hl 2 rfl) ?_
                      refine va_get (pc := 78) (ci := 12) (v := .int x_5) (C := RX12) (T := TX12) (N := 73) hx hb hts iX12 hown hK hP 0 rfl rfl 1 (by decide) (hts _ tw_1402) (fun _ h9 => h9) rfl dX12_feed_78 ?_
                      refine lv_iload (pc := 81) hx hb dX12_feed_81 (lv_at hl 0 rfl) ?_
                      refine lv_bipush (pc := 83) (v := 8) hx hb dX12_feed_83 (by decide) ?_
                      refine lv_iconst (pc := 85) (v := 3) hx hb dX12_feed_85 (by decide) ?_
                      as_aux_lemma =>
                        refine lv_iload (pc := 86) hx hb dX12_feed_86 (lv_at hl 1 rfl) ?_
                        refine lv_iconst (pc := 88) (v := 4) hx hb dX12_feed_88 (by decide) ?_
                        refine c_irem (pc := 89) hx hb rfl tI_4 (by first | exact (om_1561) | ((first | omega | (unfold zBd at *; omega)))) (by first | exact (om_1580 c_13) | ((first | omega | (unfold zBd at *; omega)))) dX12_feed_89 (fun x_41 ex_41 => ?_)
                        refine b_isub (pc := 90) hx hb tI_3 rfl (by (first | omega | (unfold zBd at *; omega))) (by (first | omega | (unfold zBd at *; omega))) dX12_feed_90 (fun x_42 ex_42 => ?_)
                        refine b_imul (pc := 91) hx hb tI_8 rfl (by (first | omega | (unfold zBd at *; omega))) (by (first | omega | (unfold zBd at *; omega))) dX12_feed_91 (fun x_43 ex_43 => ?_)
                        refine lv_ishr (pc := 92) hx hb dX12_feed_92 ?_
                        refine lv_topi (fun x_44 ex_44 => ?_)
                        have rx_44 : zBd x_44.toInt (-2147483648) 2147483647 := n_rng x_44
                        refine lv_sipush (pc := 93) (v := 255) hx hb dX12_feed_93 (by decide) ?_
                        refine lv_iand (pc := 96) hx hb dX12_feed_96 ?_
                        refine lv_topi (fun x_45 ex_45 => ?_)
                        have tx_45 := and255 ex_45
                        as_aux_lemma =>
                          refine e_iastore (pc := 97) hx hb hK hP hD hS 1 2 rfl rfl (n_in rfl (by first | exact (om_0 hi_6.1) | ((first | omega | (unfold zBd at *; omega)))) (by first | exact (om_1581 hi_9 c_14 ex_1 c_2) | ((first | omega | (unfold zBd at *; omega))))) dX12_feed_97 (fun f_46 ef_46 H locs hP hD hS => ?_)
                          have hf_46 : (∀ j, 0 ≤ (f_46 j).toInt ∧ (f_46 j).toInt ≤ 255) := (by rw [ef_46]; exact n_upd hi_8 (by (first | omega | (unfold zBd at *; omega))) (by (first | omega | (unfold zBd at *; omega))))
                          replace hP : va_P D gcl (zS_3 cB cC cI cJ a0 a1 x_5 x6 x7 x8 x9 x10 x11 x12 a2 a3 a4 a5 a6 a7 a8 a9 a10 a11 a12 a13 a14 a15 a16 x13 x14 x15 x16 x17 x18 a17 a18 a19 x19 a20 x20 a21 x21 x22 a22 a23 a24 a25 x23 a26 x24 a27 a28 a29 y0 a30 a31 a32 a33 a34 a35 a36 a37 a38 x25 x26 x27 y1 a39 x28 a40 a41 a42 a43 x29 x30 x31 x32 a1 f_46) H := hP
                          replace hD : va_D A (zS_3 cB cC cI cJ a0 a1 x_5 x6 x7 x8 x9 x10 x11 x12 a2 a3 a4 a5 a6 a7 a8 a9 a10 a11 a12 a13 a14 a15 a16 x13 x14 x15 x16 x17 x18 a17 a18 a19 x19 a20 x20 a21 x21 x22 a22 a23 a24 a25 x23 a26 x24 a27 a28 a29 y0 a30 a31 a32 a33 a34 a35 a36 a37 a38 x25 x26 x27 y1 a39 x28 a40 a41 a42 a43 x29 x30 x31 x32 a1 f_46) := hD
                          refine lv_aload_n (pc := 98) hx hb dX12_feed_98 rfl (lv_at hl 2 rfl) ?_
                          refine lv_dup (pc := 99) hx hb dX12_feed_99 rfl ?_
                          refine va_get (pc := 100) (ci := 12) (v := .int x_5) (C := RX12) (T := TX12) (N := 73) hx hb hts iX12 hown hK hP 0 rfl rfl 1 (by decide) (hts _ tw_1402) (fun _ h9 => h9) rfl dX12_feed_100 ?_
                          refine lv_iconst (pc := 103) (v := 1) hx hb dX12_feed_103 (by decide) ?_
                          refine b_iadd (pc := 104) hx hb rfl tI_1 (by first | exact (om_2 hi_6.1) | ((first | omega | (unfold zBd at *; omega)))) (by first | exact (om_24 hi_6.2) | ((first | omega | (unfold zBd at *; omega)))) dX12_feed_104 (fun x_47 ex_47 => ?_)
                          refine va_put (pc := 105) (ci := 12) (v := .int x_47) (ty := .int) (C := RX12) (T := TX12) (N := 73) hx hb hts iX12 tyX12 tyX12_ok nmX12 hown hK hP hD hS 0 rfl rfl 1 (by decide) (hts _ tw_1402) (fun _ h9 => h9) rfl (by decide +kernel) rfl rfl (Nat.le_of_ble_eq_true rfl) dX12_feed_105 (fun H locs hP hD hS => ?_)
                          replace hP : va_P D gcl (zS_3 cB cC cI cJ a0 a1 x_47 x6 x7 x8 x9 x10 x11 x12 a2 a3 a4 a5 a6 a7 a8 a9 a10 a11 a12 a13 a14 a15 a16 x13 x14 x15 x16 x17 x18 a17 a18 a19 x19 a20 x20 a21 x21 x22 a22 a23 a24 a25 x23 a26 x24 a27 a28 a29 y0 a30 a31 a32 a33 a34 a35 a36 a37 a38 x25 x26 x27 y1 a39 x28 a40 a41 a42 a43 x29 x30 x31 x32 a1 f_46) H := hP
                          replace hD : va_D A (zS_3 cB cC cI cJ a0 a1 x_47 x6 x7 x8 x9 x10 x11 x12 a2 a3 a4 a5 a6 a7 a8 a9 a10 a11 a12 a13 a14 a15 a16 x13 x14 x15 x16 x17 x18 a17 a18 a19 x19 a20 x20 a21 x21 x22 a22 a23 a24 a25 x23 a26 x24 a27 a28 a29 y0 a30 a31 a32 a33 a34 a35 a36 a37 a38 x25 x26 x27 y1 a39 x28 a40 a41 a42 a43 x29 x30 x31 x32 a1 f_46) := hD
                          refine b_iinc (pc := 108) hx hb dX12_feed_108 hl (k := 1) rfl rfl tI_1 (by first | exact (om_1582 c_13) | ((first | omega | (unfold zBd at *; omega)))) (by first | exact (om_303 c_14) | ((first | omega | (unfold zBd at *; omega)))) (by decide) (fun x_48 ex_48 ls hl => ?_)
                          replace hl : lv_has ls 8 [(6, .int x_48), (7, .int x1), (0, .ref a0), (1, .int x0), (2, .int x1), (3, .int x2), (4, .int x3), (5, .int x4)] := hl
                          refine lv_goto (pc := 111) (tgt := 18) hx hb dX12_feed_111 (by decide) ?_
                          exact ih_lp_11 x_48 x_47 f_46 _ _ ls (by first | exact (om_1583 ex_48 c_13 c_14) | ((first | omega | (unfold zBd at *; omega)))) (by first | exact (om_1584 ex_47 hi_6.1 hi_9 c_14 ex_1 c_2) | ((first | omega | (unfold zBd at *; omega)))) hf_46 (by first | exact (om_79 ex_48 ex_47 hi_9) | ((first | omega | (unfold zBd at *; omega)))) (fdm_step hi_10 (by first | exact (om_63 hi_9) | ((first | omega | (unfold zBd at *; omega)))) (by first | exact (om_0 h_x5.1) | ((first | omega | (unfold zBd at *; omega)))) (by first | exact (om_1580 c_13) | ((first | omega | (unfold zBd at *; omega)))) (by first | exact (om_5 ex_48) | ((first | omega | (unfold zBd at *; omega)))) (e_at ef_46 (by (first | omega | (unfold zBd at *; omega)))) (by first | exact (om_5 ex_47) | ((first | omega | (unfold zBd at *; omega)))) (bm ex_44 tx_45) (bys_at (by (first | omega | (unfold zBd at *; omega))) (by (first | omega | (unfold zBd at *; omega))) (Or.inr (Or.inl ⟨by (first | omega | (unfold zBd at *; omega)), by (first | omega | (unfold zBd at *; omega)), rfl⟩)))) (by (first | omega | (unfold zBd at *; omega))) hP hD hS (lv_sub hl [0, 2, 3, 4, 5, 6, 7] rfl)
              ·
                as_aux_lemma =>
                  refine lv_iload_n (pc := 31) hx hb dX12_feed_31 rfl (lv_at hl 2 rfl) ?_
                  refine lv_goto (pc := 32) (tgt := 71) hx hb dX12_feed_32 (by decide) ?_
                  refine lv_istore (pc := 71) (lv' := [(7, .int x0), (6, .int x_3), (0, .ref a0), (1, .int x0), (2, .int x1), (3, .int x2), (4, .int x3), (5, .int x4)]) hx hb dX12_feed_71 hl (by decide) rfl (fun ls hl => ?_)
                  refine lv_aload_n (pc := 73) hx hb dX12_feed_73 rfl (lv_at hl 2 rfl) ?_
                  refine va_get (pc := 74) (ci := 12) (v := .ref a1) (C := RX12) (T := TX12) (N := 73) hx hb hts iX12 hown hK hP 0 rfl rfl 0 (by decide) (hts _ tw_1401) (fun _ h9 => h9) rfl dX12_feed_74 ?_
                  refine lv_aload_n (pc := 77) hx hb dX12_feed_77 rfl (lv_at hl 2 rfl) ?_
                  refine va_get (pc := 78) (ci := 12) (v := .int x_5) (C := RX12) (T := TX12) (N := 73) hx hb hts iX12 hown hK hP 0 rfl rfl 1 (by decide) (hts _ tw_1402) (fun _ h9 => h9) rfl dX12_feed_78 ?_
                  refine lv_iload (pc := 81) hx hb dX12_feed_81 (lv_at hl 0 rfl) ?_
                  refine lv_bipush (pc := 83) (v := 8) hx hb dX12_feed_83 (by decide) ?_
                  refine lv_iconst (pc := 85) (v := 3) hx hb dX12_feed_85 (by decide) ?_
                  as_aux_lemma =>
                    refine lv_iload (pc := 86) hx hb dX12_feed_86 (lv_at hl 1 rfl) ?_
                    refine lv_iconst (pc := 88) (v := 4) hx hb dX12_feed_88 (by decide) ?_
                    refine c_irem (pc := 89) hx hb rfl tI_4 (by first | exact (om_1561) | ((first | omega | (unfold zBd at *; omega)))) (by first | exact (om_0 hi_4.1) | ((first | omega | (unfold zBd at *; omega)))) dX12_feed_89 (fun x_49 ex_49 => ?_)
                    refine b_isub (pc := 90) hx hb tI_3 rfl (by (first | omega | (unfold zBd at *; omega))) (by (first | omega | (unfold zBd at *; omega))) dX12_feed_90 (fun x_50 ex_50 => ?_)
                    refine b_imul (pc := 91) hx hb tI_8 rfl (by (first | omega | (unfold zBd at *; omega))) (by (first | omega | (unfold zBd at *; omega))) dX12_feed_91 (fun x_51 ex_51 => ?_)
                    refine lv_ishr (pc := 92) hx hb dX12_feed_92 ?_
                    refine lv_topi (fun x_52 ex_52 => ?_)
                    have rx_52 : zBd x_52.toInt (-2147483648) 2147483647 := n_rng x_52
                    refine lv_sipush (pc := 93) (v := 255) hx hb dX12_feed_93 (by decide) ?_
                    refine lv_iand (pc := 96) hx hb dX12_feed_96 ?_
                    refine lv_topi (fun x_53 ex_53 => ?_)
                    have tx_53 := and255 ex_53
                    as_aux_lemma =>
                      refine e_iastore (pc := 97) hx hb hK hP hD hS 1 2 rfl rfl (n_in rfl (by first | exact (om_0 hi_6.1) | ((first | omega | (unfold zBd at *; omega)))) (by first | exact (om_1585 hi_9 c_13 ex_1 c_2) | ((first | omega | (unfold zBd at *; omega))))) dX12_feed_97 (fun f_54 ef_54 H locs hP hD hS => ?_)
                      have hf_54 : (∀ j, 0 ≤ (f_54 j).toInt ∧ (f_54 j).toInt ≤ 255) := (by rw [ef_54]; exact n_upd hi_8 (by (first | omega | (unfold zBd at *; omega))) (by (first | omega | (unfold zBd at *; omega))))
                      replace hP : va_P D gcl (zS_3 cB cC cI cJ a0 a1 x_5 x6 x7 x8 x9 x10 x11 x12 a2 a3 a4 a5 a6 a7 a8 a9 a10 a11 a12 a13 a14 a15 a16 x13 x14 x15 x16 x17 x18 a17 a18 a19 x19 a20 x20 a21 x21 x22 a22 a23 a24 a25 x23 a26 x24 a27 a28 a29 y0 a30 a31 a32 a33 a34 a35 a36 a37 a38 x25 x26 x27 y1 a39 x28 a40 a41 a42 a43 x29 x30 x31 x32 a1 f_54) H := hP
                      replace hD : va_D A (zS_3 cB cC cI cJ a0 a1 x_5 x6 x7 x8 x9 x10 x11 x12 a2 a3 a4 a5 a6 a7 a8 a9 a10 a11 a12 a13 a14 a15 a16 x13 x14 x15 x16 x17 x18 a17 a18 a19 x19 a20 x20 a21 x21 x22 a22 a23 a24 a25 x23 a26 x24 a27 a28 a29 y0 a30 a31 a32 a33 a34 a35 a36 a37 a38 x25 x26 x27 y1 a39 x28 a40 a41 a42 a43 x29 x30 x31 x32 a1 f_54) := hD
                      refine lv_aload_n (pc := 98) hx hb dX12_feed_98 rfl (lv_at hl 2 rfl) ?_
                      refine lv_dup (pc := 99) hx hb dX12_feed_99 rfl ?_
                      refine va_get (pc := 100) (ci := 12) (v := .int x_5) (C := RX12) (T := TX12) (N := 73) hx hb hts iX12 hown hK hP 0 rfl rfl 1 (by decide) (hts _ tw_1402) (fun _ h9 => h9) rfl dX12_feed_100 ?_
                      refine lv_iconst (pc := 103) (v := 1) hx hb dX12_feed_103 (by decide) ?_
                      refine b_iadd (pc := 104) hx hb rfl tI_1 (by first | exact (om_2 hi_6.1) | ((first | omega | (unfold zBd at *; omega)))) (by first | exact (om_24 hi_6.2) | ((first | omega | (unfold zBd at *; omega)))) dX12_feed_104 (fun x_55 ex_55 => ?_)
                      refine va_put (pc := 105) (ci := 12) (v := .int x_55) (ty := .int) (C := RX12) (T := TX12) (N := 73) hx hb hts iX12 tyX12 tyX12_ok nmX12 hown hK hP hD hS 0 rfl rfl 1 (by decide) (hts _ tw_1402) (fun _ h9 => h9) rfl (by decide +kernel) rfl rfl (Nat.le_of_ble_eq_true rfl) dX12_feed_105 (fun H locs hP hD hS => ?_)
                      replace hP : va_P D gcl (zS_3 cB cC cI cJ a0 a1 x_55 x6 x7 x8 x9 x10 x11 x12 a2 a3 a4 a5 a6 a7 a8 a9 a10 a11 a12 a13 a14 a15 a16 x13 x14 x15 x16 x17 x18 a17 a18 a19 x19 a20 x20 a21 x21 x22 a22 a23 a24 a25 x23 a26 x24 a27 a28 a29 y0 a30 a31 a32 a33 a34 a35 a36 a37 a38 x25 x26 x27 y1 a39 x28 a40 a41 a42 a43 x29 x30 x31 x32 a1 f_54) H := hP
                      replace hD : va_D A (zS_3 cB cC cI cJ a0 a1 x_55 x6 x7 x8 x9 x10 x11 x12 a2 a3 a4 a5 a6 a7 a8 a9 a10 a11 a12 a13 a14 a15 a16 x13 x14 x15 x16 x17 x18 a17 a18 a19 x19 a20 x20 a21 x21 x22 a22 a23 a24 a25 x23 a26 x24 a27 a28 a29 y0 a30 a31 a32 a33 a34 a35 a36 a37 a38 x25 x26 x27 y1 a39 x28 a40 a41 a42 a43 x29 x30 x31 x32 a1 f_54) := hD
                      refine b_iinc (pc := 108) hx hb dX12_feed_108 hl (k := 1) rfl rfl tI_1 (by first | exact (om_2 hi_4.1) | ((first | omega | (unfold zBd at *; omega)))) (by first | exact (om_77 c_13) | ((first | omega | (unfold zBd at *; omega)))) (by decide) (fun x_56 ex_56 ls hl => ?_)
                      replace hl : lv_has ls 8 [(6, .int x_56), (7, .int x0), (0, .ref a0), (1, .int x0), (2, .int x1), (3, .int x2), (4, .int x3), (5, .int x4)] := hl
                      refine lv_goto (pc := 111) (tgt := 18) hx hb dX12_feed_111 (by decide) ?_
                      exact ih_lp_11 x_56 x_55 f_54 _ _ ls (by first | exact (om_1586 ex_56 hi_4.1 c_13) | ((first | omega | (unfold zBd at *; omega)))) (by first | exact (om_1587 ex_55 hi_6.1 hi_9 c_13 ex_1 c_2) | ((first | omega | (unfold zBd at *; omega)))) hf_54 (by first | exact (om_79 ex_56 ex_55 hi_9) | ((first | omega | (unfold zBd at *; omega)))) (fdm_step hi_10 (by first | exact (om_63 hi_9) | ((first | omega | (unfold zBd at *; omega)))) (by first | exact (om_0 h_x5.1) | ((first | omega | (unfold zBd at *; omega)))) (by first | exact (om_0 hi_4.1) | ((first | omega | (unfold zBd at *; omega)))) (by first | exact (om_5 ex_56) | ((first | omega | (unfold zBd at *; omega)))) (e_at ef_54 (by (first | omega | (unfold zBd at *; omega)))) (by first | exact (om_5 ex_55) | ((first | omega | (unfold zBd at *; omega)))) (bm ex_52 tx_53) (bys_at (by (first | omega | (unfold zBd at *; omega))) (by (first | omega | (unfold zBd at *; omega))) (Or.inl ⟨by (first | omega | (unfold zBd at *; omega)), rfl⟩))) (by (first | omega | (unfold zBd at *; omega))) hP hD hS (lv_sub hl [0, 2, 3, 4, 5, 6, 7] rfl)
      exact lp_11 _ 0 x5 f0 _ _ ls (n_c tI_0 (by decide)) h_x5 hf_f0 (by have q := tI_0; (first | omega | (unfold zBd at *; omega))) (fd_0k tI_0) (Nat.lt_succ_self _) hP hD hS (lv_sub hl [0, 1, 2, 3, 4, 5, 6] rfl)
  ·
    as_aux_lemma =>
      refine lv_iconst (pc := 13) (v := (-1)) hx hb dX12_feed_13 (by decide) ?_
      have hP9 : va_P D gcl (zS_3 cB cC cI cJ a0 a1 x5 x6 x7 x8 x9 x10 x11 x12 a2 a3 a4 a5 a6 a7 a8 a9 a10 a11 a12 a13 a14 a15 a16 x13 x14 x15 x16 x17 x18 a17 a18 a19 x19 a20 x20 a21 x21 x22 a22 a23 a24 a25 x23 a26 x24 a27 a28 a29 y0 a30 a31 a32 a33 a34 a35 a36 a37 a38 x25 x26 x27 y1 a39 x28 a40 a41 a42 a43 x29 x30 x31 x32 a1 f0) s.heap := g_psub hP [0, 1] rfl
      have hD9 : va_D A (zS_3 cB cC cI cJ a0 a1 x5 x6 x7 x8 x9 x10 x11 x12 a2 a3 a4 a5 a6 a7 a8 a9 a10 a11 a12 a13 a14 a15 a16 x13 x14 x15 x16 x17 x18 a17 a18 a19 x19 a20 x20 a21 x21 x22 a22 a23 a24 a25 x23 a26 x24 a27 a28 a29 y0 a30 a31 a32 a33 a34 a35 a36 a37 a38 x25 x26 x27 y1 a39 x28 a40 a41 a42 a43 x29 x30 x31 x32 a1 f0) := hD.sub [0, 1] (by decide) rfl
      have k9 := tI_m1
      exact hret (-1) ((fun _ => 0), (fun k => [f0].getD k (fun _ => 0)), (fun _ => (fun _ => 0)), (fun k => [x5].getD k 0), (fun _ => 0)) dX12_feed_14 ⟨(show (((0 ≤ ((-1) : Int32).toInt ∧ ((-1) : Int32).toInt ≤ 1600) ∧ (x5.toInt) + (20) ≤ 1600) ∨ (((-1) : Int32).toInt = (-1) ∧ (x5.toInt) + (20) > 1600 ∧ (x5 : Int32).toInt = x5.toInt)) from (by first | exact (om_1588 tI_m1 ex_1 c_2) | (have k9 := tI_m1; (first | omega | (unfold zBd at *; omega))))), (show (0 ≤ (x5 : Int32).toInt ∧ (x5 : Int32).toInt ≤ 1600) from h_x5), hf_f0, (show ((((-1) : Int32).toInt = -1 ∧ x5.toInt + 20 > 1600 ∧ (x5 : Int32).toInt = x5.toInt) ∨ (((-1) : Int32).toInt = x5.toInt + 20 ∧ x5.toInt + 20 ≤ 1600 ∧ (x5 : Int32).toInt = x5.toInt + 20)) from (by first | exact (om_1589 tI_m1 ex_1 c_2 h_x5.1) | (have k9 := tI_m1; (first | omega | (unfold zBd at *; omega))))), (show fqQ ((-1) : Int32).toInt (tau f0 x5.toInt) (tau f0 x5.toInt) x5.toInt (bys x0 x1 x2 x3 x4) from fq_no (by first | exact (om_65 tI_m1) | ((first | omega | (unfold zBd at *; omega)))))⟩ hP9 hD9 hS
