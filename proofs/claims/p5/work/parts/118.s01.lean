set_option maxHeartbeats 4000000 in
set_option maxRecDepth 100000 in
theorem k_X8_sentTo (l : Launch) (D : va_G) (cB cC cI cJ : ClassId) (sz : Nat) (a0 a1 a2 : Nat) (x0 x1 : Int32) (f0 f1 : Nat → Int32) (hp1 : (0 ≤ x0.toInt ∧ x0.toInt ≤ 5)) (hp3 : ((-1) ≤ x1.toInt ∧ x1.toInt ≤ 5)) : Met l yX8_sentTo (.code yX8_sentTo cX8_sentTo 6 (some .int) :: lw_gd) ({ frames := 1, cells := 0, slots := 0, locals := 22 }) (gPre D [(cB, .byte), (cC, .char), (cI, .int), (cJ, .long)] [.ref a0, .int x0, .ref a1, .int x1] [(a0, .inr (8, [.ref a2])), (a2, .inl (cI, 30, .inl f0)), (a1, .inl (cI, 5, .inl f1))] sz) (va_Qi (fun r u => ((((-2147483648) ≤ r.toInt ∧ r.toInt ≤ 2147483647) ∧ ((-1) ≤ x1.toInt ∧ x1.toInt ≤ 5)))) (gB D (va_A [(a0, .inr (8, [.ref a2])), (a2, .inl (cI, 30, .inl f0)), (a1, .inl (cI, 5, .inl f1))] sz) (fun u : gEx => [(a0, .inr (8, [.ref a2])), (a2, .inl (cI, 30, .inl f0)), (a1, .inl (cI, 5, .inl f1))])) (va_A [(a0, .inr (8, [.ref a2])), (a2, .inl (cI, 30, .inl f0)), (a1, .inl (cI, 5, .inl f1))] sz)) 0 0 (va_A [(a0, .inr (8, [.ref a2])), (a2, .inl (cI, 30, .inl f0)), (a1, .inl (cI, 5, .inl f1))] sz) := by
  refine gOf_i (by decide +kernel) (Nat.le_of_ble_eq_true rfl) ?_
  intro p e s m args below meth c ls A Q hx hb hts hown hml hN hK hP hD hA hl hret
  have hown : s.vm.findClass RX8 = some m.cls := hown
  have hS : va_S A s.heap s.heap [] := va_S.rf
  have hP : va_P D gcl [(a0, .inr (8, [.ref a2])), (a2, .inl (cI, 30, .inl f0)), (a1, .inl (cI, 5, .inl f1))] s.heap := hP
  have hl : lv_has ls 6 [(0, .ref a0), (1, .int x0), (2, .ref a1), (3, .int x1)] := hl
  refine lv_iconst (pc := 0) (v := 0) hx hb dX8_sentTo_0 (by decide) ?_
  refine lv_istore (pc := 1) (lv' := [(4, .int 0), (0, .ref a0), (1, .int x0), (2, .ref a1), (3, .int x1)]) hx hb dX8_sentTo_1 hl (by decide) rfl (fun ls hl => ?_)
  refine lv_iconst (pc := 3) (v := 0) hx hb dX8_sentTo_3 (by decide) ?_
  refine lv_istore (pc := 4) (lv' := [(5, .int 0), (4, .int 0), (0, .ref a0), (1, .int x0), (2, .ref a1), (3, .int x1)]) hx hb dX8_sentTo_4 hl (by decide) rfl (fun ls hl => ?_)
  have lp_5 : ∀ (n : Nat) (x_1 x_3 : Int32) (H : Heap) (locs : List Loc) (ls : Array Slot), (0 ≤ x_1.toInt ∧ x_1.toInt ≤ 2147483647) → (2147483647 - x_1.toInt).toNat < n → va_P D gcl [(a0, .inr (8, [.ref a2])), (a2, .inl (cI, 30, .inl f0)), (a1, .inl (cI, 5, .inl f1))] H → va_D A [(a0, .inr (8, [.ref a2])), (a2, .inl (cI, 30, .inl f0)), (a1, .inl (cI, 5, .inl f1))] → va_S A s.heap H locs → lv_has ls 6 [(5, .int x_1), (4, .int x_3), (0, .ref a0), (1, .int x0), (2, .ref a1), (3, .int x1)] → W p l e ({ frames := 1, cells := 0, slots := 0, locals := 22 }) s m args below meth c H locs 0 0 Q (F0 m 6 ls []) := by
    intro n
    induction n with
    | zero => intro x_1 x_3 H locs ls hi_2 hmu; exact absurd hmu (Nat.not_lt_zero _)
    | succ n ih_lp_5 =>
      intro x_1 x_3 H locs ls hi_2 hmu_lp_5 hP hD hS hl
      have hi_4 := n_rng x_3
      refine lv_iload (pc := 6) hx hb dX8_sentTo_6 (lv_at hl 0 rfl) ?_
      refine lv_iload_n (pc := 8) hx hb dX8_sentTo_8 rfl (lv_at hl 5 rfl) ?_
      refine b_icmp_ge (pc := 9) (tgt := 35) hx hb rfl rfl  dX8_sentTo_9 (by decide) (fun c_6 => ?_) (fun c_6 => ?_)
      ·
        refine lv_iload (pc := 35) hx hb dX8_sentTo_35 (lv_at hl 1 rfl) ?_
        exact hret x_3 ((fun _ => 0), (fun _ => (fun _ => 0)), (fun _ => (fun _ => 0)), (fun _ => 0), (fun _ => 0)) dX8_sentTo_37 (show ((((-2147483648) ≤ x_3.toInt ∧ x_3.toInt ≤ 2147483647) ∧ ((-1) ≤ x1.toInt ∧ x1.toInt ≤ 5))) by omega) (g_psub (wc := [(a0, .inr (8, [.ref a2])), (a2, .inl (cI, 30, .inl f0)), (a1, .inl (cI, 5, .inl f1))]) hP [0, 1, 2] rfl) (hD.sub (ws' := [(a0, .inr (8, [.ref a2])), (a2, .inl (cI, 30, .inl f0)), (a1, .inl (cI, 5, .inl f1))]) [0, 1, 2] (by decide) rfl) hS
      ·
        refine lv_iload (pc := 12) hx hb dX8_sentTo_12 (lv_at hl 1 rfl) ?_
        refine lv_aload_n (pc := 14) hx hb dX8_sentTo_14 rfl (lv_at hl 2 rfl) ?_
        refine lv_iload_n (pc := 15) hx hb dX8_sentTo_15 rfl (lv_at hl 3 rfl) ?_
        refine lv_iload (pc := 16) hx hb dX8_sentTo_16 (lv_at hl 0 rfl) ?_
        refine gc_i (pc := 18) (wc := [(a0, .inr (8, [.ref a2])), (a2, .inl (cI, 30, .inl f0))]) (wr := [(a1, .inl (cI, 5, .inl f1))]) hP hD hS hA [0, 1] [2] rfl rfl (by decide) (by decide) (by decide) (fun hPc hDc => va_runV (As := [.int x0, .int x_1]) (rest := [.int x_3]) ⟨hx, hb, hml, hown, hts⟩ (k_X8_at l D cB cC cI cJ _ a0 a2 x0 x_1 f0 hp1 (by  omega)) ⟨gcwB hts tw_791 tw_5 tw_800 hd_yX8_at ⟨Nat.le_of_ble_eq_true rfl, Nat.le_of_ble_eq_true rfl⟩, hts _ tw_789, hts _ tw_790⟩ ⟨gblind, va_recv hK hPc (ci := 8) (q0 := 0) rfl rfl, (gpreS hPc hK hDc hN).2⟩ rfl rfl hl.1 rfl (lv_room (Nat.le_of_ble_eq_true rfl)) dX8_sentTo_18 ⟨Nat.le_of_ble_eq_true rfl, Nat.le_of_ble_eq_true rfl⟩) (fun r_8 u_7 H locs hw_9 hP hD hS => ?_)
        have hP : va_P D gcl [(a1, .inl (cI, 5, .inl f1)), (a0, .inr (8, [.ref a2])), (a2, .inl (cI, 30, .inl f0))] H := hP
        have hD : va_D A [(a1, .inl (cI, 5, .inl f1)), (a0, .inr (8, [.ref a2])), (a2, .inl (cI, 30, .inl f0))] := hD
        have hw_10 : ((((-2147483648) ≤ r_8.toInt ∧ r_8.toInt ≤ 2147483647))) := hw_9
        have rr_8 := n_rng r_8
        refine lv_aload_n (pc := 21) hx hb dX8_sentTo_21 rfl (lv_at hl 4 rfl) ?_
        refine lv_iload (pc := 22) hx hb dX8_sentTo_22 (lv_at hl 0 rfl) ?_
        refine va_iald (pc := 24) hx hb hK hP 0 2 rfl rfl (n_in rfl (by omega) (by omega)) dX8_sentTo_24 ?_
        refine lv_topi (fun x_11 ex_11 => ?_)
        have rx_11 := n_rng x_11
        refine lv_imul (pc := 25) hx hb dX8_sentTo_25 ?_
        refine lv_topi (fun x_12 _ => ?_)
        have rx_12 := n_rng x_12
        refine lv_iadd (pc := 26) hx hb dX8_sentTo_26 ?_
        refine lv_topi (fun x_13 _ => ?_)
        have rx_13 := n_rng x_13
        refine lv_istore (pc := 27) (lv' := [(4, .int x_13), (5, .int x_1), (0, .ref a0), (1, .int x0), (2, .ref a1), (3, .int x1)]) hx hb dX8_sentTo_27 hl (by decide) rfl (fun ls hl => ?_)
        refine b_iinc (pc := 29) hx hb dX8_sentTo_29 hl (k := 1) rfl rfl tI_1 (by omega) (by omega) (by decide) (fun x_14 ex_14 ls hl => ?_)
        have hl : lv_has ls 6 [(5, .int x_14), (4, .int x_13), (0, .ref a0), (1, .int x0), (2, .ref a1), (3, .int x1)] := hl
        refine lv_goto (pc := 32) (tgt := 6) hx hb dX8_sentTo_32 (by decide) ?_
        exact ih_lp_5 x_14 x_13 _ _ ls (by omega) (by omega) (g_psub hP [1, 2, 0] rfl) (hD.sub [1, 2, 0] (by decide) rfl) hS (lv_sub hl [0, 1, 2, 3, 4, 5] rfl)
  exact lp_5 _ 0 0 _ _ ls (n_c tI_0 (by decide)) (Nat.lt_succ_self _) hP hD hS (lv_sub hl [0, 1, 2, 3, 4, 5] rfl)
set_option maxHeartbeats 4000000 in
set_option maxRecDepth 100000 in
theorem k_X8_takeAway (l : Launch) (D : va_G) (cB cC cI cJ : ClassId) (sz : Nat) (a0 a1 : Nat) (x0 x1 x2 : Int32) (f0 : Nat → Int32) (hp1 : (0 ≤ x0.toInt ∧ x0.toInt ≤ 4)) (hp2 : (0 ≤ x1.toInt ∧ x1.toInt ≤ 4)) : Met l yX8_takeAway (.code yX8_takeAway cX8_takeAway 5 none :: lw_gd) ({ frames := 1, cells := 0, slots := 0, locals := 23 }) (gPre D [(cB, .byte), (cC, .char), (cI, .int), (cJ, .long)] [.ref a0, .int x0, .int x1, .int x2] [(a0, .inr (8, [.ref a1])), (a1, .inl (cI, 30, .inl f0))] sz) (va_Qv (fun u => True) (gB D (va_A [(a0, .inr (8, [.ref a1])), (a1, .inl (cI, 30, .inl f0))] sz) (fun u : gEx => [(a0, .inr (8, [.ref a1])), (a1, .inl (cI, 30, .inl (u.2.1 0)))])) (va_A [(a0, .inr (8, [.ref a1])), (a1, .inl (cI, 30, .inl f0))] sz)) 0 0 (va_A [(a0, .inr (8, [.ref a1])), (a1, .inl (cI, 30, .inl f0))] sz) := by
  refine gOf_v (by decide +kernel) (Nat.le_of_ble_eq_true rfl) ?_
  intro p e s m args below meth c ls A Q hx hb hts hown hml hN hK hP hD hA hl hret
  have hown : s.vm.findClass RX8 = some m.cls := hown
  have hS : va_S A s.heap s.heap [] := va_S.rf
  have hP : va_P D gcl [(a0, .inr (8, [.ref a1])), (a1, .inl (cI, 30, .inl f0))] s.heap := hP
  have hl : lv_has ls 5 [(0, .ref a0), (1, .int x0), (2, .int x1), (3, .int x2)] := hl
  have rx2 := n_rng x2
  refine lv_iconst (pc := 0) (v := 0) hx hb dX8_takeAway_0 (by decide) ?_
  refine lv_istore (pc := 1) (lv' := [(4, .int 0), (0, .ref a0), (1, .int x0), (2, .int x1), (3, .int x2)]) hx hb dX8_takeAway_1 hl (by decide) rfl (fun ls hl => ?_)
  have lp_4 : ∀ (n : Nat) (x_1 : Int32) (f_3 : Nat → Int32) (H : Heap) (locs : List Loc) (ls : Array Slot), (0 ≤ x_1.toInt ∧ x_1.toInt ≤ 2147483647) → (2147483647 - x_1.toInt).toNat < n → va_P D gcl [(a0, .inr (8, [.ref a1])), (a1, .inl (cI, 30, .inl f_3))] H → va_D A [(a0, .inr (8, [.ref a1])), (a1, .inl (cI, 30, .inl f_3))] → va_S A s.heap H locs → lv_has ls 5 [(4, .int x_1), (0, .ref a0), (1, .int x0), (2, .int x1), (3, .int x2)] → W p l e ({ frames := 1, cells := 0, slots := 0, locals := 23 }) s m args below meth c H locs 0 0 Q (F0 m 3 ls []) := by
    intro n
    induction n with
    | zero => intro x_1 f_3 H locs ls hi_2 hmu; exact absurd hmu (Nat.not_lt_zero _)
    | succ n ih_lp_4 =>
      intro x_1 f_3 H locs ls hi_2 hmu_lp_4 hP hD hS hl
      refine lv_iload (pc := 3) hx hb dX8_takeAway_3 (lv_at hl 0 rfl) ?_
      refine lv_bipush (pc := 5) (v := 6) hx hb dX8_takeAway_5 (by decide) ?_
      refine b_icmp_ge (pc := 7) (tgt := 40) hx hb rfl tI_6  dX8_takeAway_7 (by decide) (fun c_5 => ?_) (fun c_5 => ?_)
      ·
        exact hret ((fun _ => 0), (fun k => [f_3].getD k (fun _ => 0)), (fun _ => (fun _ => 0)), (fun _ => 0), (fun _ => 0)) dX8_takeAway_40 trivial (g_psub (wc := [(a0, .inr (8, [.ref a1])), (a1, .inl (cI, 30, .inl f_3))]) hP [0, 1] rfl) (hD.sub (ws' := [(a0, .inr (8, [.ref a1])), (a1, .inl (cI, 30, .inl f_3))]) [0, 1] (by decide) rfl) hS
      ·
        refine lv_aload_n (pc := 10) hx hb dX8_takeAway_10 rfl (lv_at hl 1 rfl) ?_
        refine lv_iload (pc := 11) hx hb dX8_takeAway_11 (lv_at hl 0 rfl) ?_
        refine lv_iload_n (pc := 13) hx hb dX8_takeAway_13 rfl (lv_at hl 2 rfl) ?_
        refine lv_aload_n (pc := 14) hx hb dX8_takeAway_14 rfl (lv_at hl 1 rfl) ?_
        refine lv_iload (pc := 15) hx hb dX8_takeAway_15 (lv_at hl 0 rfl) ?_
        refine lv_iload_n (pc := 17) hx hb dX8_takeAway_17 rfl (lv_at hl 2 rfl) ?_
        refine gc_i (pc := 18) (wc := [(a0, .inr (8, [.ref a1])), (a1, .inl (cI, 30, .inl f_3))]) (wr := []) hP hD hS hA [0, 1] [] rfl rfl (by decide) (by decide) (by decide) (fun hPc hDc => va_runV (As := [.int x_1, .int x0]) (rest := [.int x0, .int x_1, .ref a0]) ⟨hx, hb, hml, hown, hts⟩ (k_X8_at l D cB cC cI cJ _ a0 a1 x_1 x0 f_3 (by  omega) hp1) ⟨gcwB hts tw_791 tw_5 tw_800 hd_yX8_at ⟨Nat.le_of_ble_eq_true rfl, Nat.le_of_ble_eq_true rfl⟩, hts _ tw_789, hts _ tw_790⟩ ⟨gblind, va_recv hK hPc (ci := 8) (q0 := 0) rfl rfl, (gpreS hPc hK hDc hN).2⟩ rfl rfl hl.1 rfl (lv_room (Nat.le_of_ble_eq_true rfl)) dX8_takeAway_18 ⟨Nat.le_of_ble_eq_true rfl, Nat.le_of_ble_eq_true rfl⟩) (fun r_7 u_6 H locs hw_8 hP hD hS => ?_)
        have hP : va_P D gcl [(a0, .inr (8, [.ref a1])), (a1, .inl (cI, 30, .inl f_3))] H := hP
        have hD : va_D A [(a0, .inr (8, [.ref a1])), (a1, .inl (cI, 30, .inl f_3))] := hD
        have hw_9 : ((((-2147483648) ≤ r_7.toInt ∧ r_7.toInt ≤ 2147483647))) := hw_8
        have rr_7 := n_rng r_7
        refine lv_iload_n (pc := 21) hx hb dX8_takeAway_21 rfl (lv_at hl 4 rfl) ?_
        refine lv_aload_n (pc := 22) hx hb dX8_takeAway_22 rfl (lv_at hl 1 rfl) ?_
        refine lv_iload (pc := 23) hx hb dX8_takeAway_23 (lv_at hl 0 rfl) ?_
        refine lv_iload_n (pc := 25) hx hb dX8_takeAway_25 rfl (lv_at hl 3 rfl) ?_
        refine gc_i (pc := 26) (wc := [(a0, .inr (8, [.ref a1])), (a1, .inl (cI, 30, .inl f_3))]) (wr := []) hP hD hS hA [0, 1] [] rfl rfl (by decide) (by decide) (by decide) (fun hPc hDc => va_runV (As := [.int x_1, .int x1]) (rest := [.int x2, .int r_7, .int x0, .int x_1, .ref a0]) ⟨hx, hb, hml, hown, hts⟩ (k_X8_at l D cB cC cI cJ _ a0 a1 x_1 x1 f_3 (by  omega) hp2) ⟨gcwB hts tw_791 tw_5 tw_800 hd_yX8_at ⟨Nat.le_of_ble_eq_true rfl, Nat.le_of_ble_eq_true rfl⟩, hts _ tw_789, hts _ tw_790⟩ ⟨gblind, va_recv hK hPc (ci := 8) (q0 := 0) rfl rfl, (gpreS hPc hK hDc hN).2⟩ rfl rfl hl.1 rfl (lv_room (Nat.le_of_ble_eq_true rfl)) dX8_takeAway_26 ⟨Nat.le_of_ble_eq_true rfl, Nat.le_of_ble_eq_true rfl⟩) (fun r_11 u_10 H locs hw_12 hP hD hS => ?_)
        have hP : va_P D gcl [(a0, .inr (8, [.ref a1])), (a1, .inl (cI, 30, .inl f_3))] H := hP
        have hD : va_D A [(a0, .inr (8, [.ref a1])), (a1, .inl (cI, 30, .inl f_3))] := hD
        have hw_13 : ((((-2147483648) ≤ r_11.toInt ∧ r_11.toInt ≤ 2147483647))) := hw_12
        have rr_11 := n_rng r_11
        refine lv_imul (pc := 29) hx hb dX8_takeAway_29 ?_
        refine lv_topi (fun x_14 _ => ?_)
        have rx_14 := n_rng x_14
        refine lv_isub (pc := 30) hx hb dX8_takeAway_30 ?_
        refine lv_topi (fun x_15 _ => ?_)
        have rx_15 := n_rng x_15
        refine gc_v (pc := 31) (wc := [(a0, .inr (8, [.ref a1])), (a1, .inl (cI, 30, .inl f_3))]) (wr := []) hP hD hS hA [0, 1] [] rfl rfl (by decide) (by decide) (by decide) (fun hPc hDc => va_runV (As := [.int x_1, .int x0, .int x_15]) (rest := []) ⟨hx, hb, hml, hown, hts⟩ (k_X8_setAt l D cB cC cI cJ _ a0 a1 x_1 x0 x_15 f_3 (by  omega) hp1) ⟨gcwB hts tw_637 tw_5 tw_1066 hd_yX8_setAt ⟨Nat.le_of_ble_eq_true rfl, Nat.le_of_ble_eq_true rfl⟩, hts _ tw_635, hts _ tw_636⟩ ⟨gblind, va_recv hK hPc (ci := 8) (q0 := 0) rfl rfl, (gpreS hPc hK hDc hN).2⟩ rfl rfl hl.1 rfl (lv_room (Nat.le_of_ble_eq_true rfl)) dX8_takeAway_31 ⟨Nat.le_of_ble_eq_true rfl, Nat.le_of_ble_eq_true rfl⟩) (fun u_16 H locs hw_18 hP hD hS => ?_)
        have hP : va_P D gcl [(a0, .inr (8, [.ref a1])), (a1, .inl (cI, 30, .inl (u_16.2.1 0)))] H := hP
        have hD : va_D A [(a0, .inr (8, [.ref a1])), (a1, .inl (cI, 30, .inl (u_16.2.1 0)))] := hD
        refine b_iinc (pc := 34) hx hb dX8_takeAway_34 hl (k := 0) rfl rfl tI_1 (by omega) (by omega) (by decide) (fun x_19 ex_19 ls hl => ?_)
        have hl : lv_has ls 5 [(4, .int x_19), (0, .ref a0), (1, .int x0), (2, .int x1), (3, .int x2)] := hl
        refine lv_goto (pc := 37) (tgt := 3) hx hb dX8_takeAway_37 (by decide) ?_
        exact ih_lp_4 x_19 (u_16.2.1 0) _ _ ls (by omega) (by omega) hP hD hS (lv_sub hl [0, 1, 2, 3, 4] rfl)
  exact lp_4 _ 0 f0 _ _ ls (n_c tI_0 (by decide)) (Nat.lt_succ_self _) hP hD hS (lv_sub hl [0, 1, 2, 3, 4] rfl)
set_option maxHeartbeats 4000000 in
set_option maxRecDepth 100000 in
theorem k_X8_clashOf (l : Launch) (D : va_G) (cB cC cI cJ : ClassId) (sz : Nat) (a0 a1 : Nat) (x0 x1 : Int32) (f0 : Nat → Int32) (hp1 : (0 ≤ x0.toInt ∧ x0.toInt ≤ 4)) (hp2 : (0 ≤ x1.toInt ∧ x1.toInt ≤ 4)) : Met l yX8_clashOf (.code yX8_clashOf cX8_clashOf 7 (some .int) :: lw_gd) ({ frames := 2, cells := 0, slots := 0, locals := 46 }) (gPre D [(cB, .byte), (cC, .char), (cI, .int), (cJ, .long)] [.ref a0, .int x0, .int x1] [(a0, .inr (8, [.ref a1])), (a1, .inl (cI, 30, .inl f0))] sz) (va_Qi (fun r u => ((((-2147483648) ≤ r.toInt ∧ r.toInt ≤ 2147483647)) ∨ (r.toInt = 0))) (gB D (va_A [(a0, .inr (8, [.ref a1])), (a1, .inl (cI, 30, .inl f0))] sz) (fun u : gEx => [(a0, .inr (8, [.ref a1])), (a1, .inl (cI, 30, .inl f0))])) (va_A [(a0, .inr (8, [.ref a1])), (a1, .inl (cI, 30, .inl f0))] sz)) 0 0 (va_A [(a0, .inr (8, [.ref a1])), (a1, .inl (cI, 30, .inl f0))] sz) := by
  refine gOf_i (by decide +kernel) (Nat.le_of_ble_eq_true rfl) ?_
  intro p e s m args below meth c ls A Q hx hb hts hown hml hN hK hP hD hA hl hret
  have hown : s.vm.findClass RX8 = some m.cls := hown
  have hS : va_S A s.heap s.heap [] := va_S.rf
  have hP : va_P D gcl [(a0, .inr (8, [.ref a1])), (a1, .inl (cI, 30, .inl f0))] s.heap := hP
  have hl : lv_has ls 7 [(0, .ref a0), (1, .int x0), (2, .int x1)] := hl
  refine lv_aload_n (pc := 0) hx hb dX8_clashOf_0 rfl (lv_at hl 0 rfl) ?_
  refine lv_iload_n (pc := 1) hx hb dX8_clashOf_1 rfl (lv_at hl 1 rfl) ?_
  refine lv_iload_n (pc := 2) hx hb dX8_clashOf_2 rfl (lv_at hl 2 rfl) ?_
  refine gc_i (pc := 3) (wc := [(a0, .inr (8, [.ref a1])), (a1, .inl (cI, 30, .inl f0))]) (wr := []) hP hD hS hA [0, 1] [] rfl rfl (by decide) (by decide) (by decide) (fun hPc hDc => va_runV (As := [.int x0, .int x1]) (rest := []) ⟨hx, hb, hml, hown, hts⟩ (k_X8_productOf l D cB cC cI cJ _ a0 a1 x0 x1 f0 hp1 hp2) ⟨gcwB hts tw_799 tw_5 tw_1108 hd_yX8_productOf ⟨Nat.le_of_ble_eq_true rfl, Nat.le_of_ble_eq_true rfl⟩, hts _ tw_797, hts _ tw_798⟩ ⟨gblind, va_recv hK hPc (ci := 8) (q0 := 0) rfl rfl, (gpreS hPc hK hDc hN).2⟩ rfl rfl hl.1 rfl (lv_room (Nat.le_of_ble_eq_true rfl)) dX8_clashOf_3 ⟨Nat.le_of_ble_eq_true rfl, Nat.le_of_ble_eq_true rfl⟩) (fun r_2 u_1 H locs hw_3 hP hD hS => ?_)
  have hP : va_P D gcl [(a0, .inr (8, [.ref a1])), (a1, .inl (cI, 30, .inl f0))] H := hP
  have hD : va_D A [(a0, .inr (8, [.ref a1])), (a1, .inl (cI, 30, .inl f0))] := hD
  have hw_4 : ((((-2147483648) ≤ r_2.toInt ∧ r_2.toInt ≤ 2147483647))) := hw_3
  have rr_2 := n_rng r_2
  refine b_i2l (pc := 6) hx hb rfl dX8_clashOf_6 (fun y_5 ey_5 => ?_)
  have ry_5 := n_rng r_2
  refine lv_lstore_n (pc := 7) (lv' := [(3, .long y_5), (0, .ref a0), (1, .int x0), (2, .int x1)]) hx hb dX8_clashOf_7 rfl hl (by decide) rfl (fun ls hl => ?_)
  refine lv_aload_n (pc := 8) hx hb dX8_clashOf_8 rfl (lv_at hl 1 rfl) ?_
  refine lv_iload_n (pc := 9) hx hb dX8_clashOf_9 rfl (lv_at hl 2 rfl) ?_
  refine lv_iload_n (pc := 10) hx hb dX8_clashOf_10 rfl (lv_at hl 2 rfl) ?_
  refine gc_i (pc := 11) (wc := [(a0, .inr (8, [.ref a1])), (a1, .inl (cI, 30, .inl f0))]) (wr := []) hP hD hS hA [0, 1] [] rfl rfl (by decide) (by decide) (by decide) (fun hPc hDc => va_runV (As := [.int x0, .int x0]) (rest := []) ⟨hx, hb, hml, hown, hts⟩ (k_X8_productOf l D cB cC cI cJ _ a0 a1 x0 x0 f0 hp1 hp1) ⟨gcwB hts tw_799 tw_5 tw_1108 hd_yX8_productOf ⟨Nat.le_of_ble_eq_true rfl, Nat.le_of_ble_eq_true rfl⟩, hts _ tw_797, hts _ tw_798⟩ ⟨gblind, va_recv hK hPc (ci := 8) (q0 := 0) rfl rfl, (gpreS hPc hK hDc hN).2⟩ rfl rfl hl.1 rfl (lv_room (Nat.le_of_ble_eq_true rfl)) dX8_clashOf_11 ⟨Nat.le_of_ble_eq_true rfl, Nat.le_of_ble_eq_true rfl⟩) (fun r_7 u_6 H locs hw_8 hP hD hS => ?_)
  have hP : va_P D gcl [(a0, .inr (8, [.ref a1])), (a1, .inl (cI, 30, .inl f0))] H := hP
  have hD : va_D A [(a0, .inr (8, [.ref a1])), (a1, .inl (cI, 30, .inl f0))] := hD
  have hw_9 : ((((-2147483648) ≤ r_7.toInt ∧ r_7.toInt ≤ 2147483647))) := hw_8
  have rr_7 := n_rng r_7
  refine b_i2l (pc := 14) hx hb rfl dX8_clashOf_14 (fun y_10 ey_10 => ?_)
  have ry_10 := n_rng r_7
  refine lv_aload_n (pc := 15) hx hb dX8_clashOf_15 rfl (lv_at hl 1 rfl) ?_
  refine lv_iload_n (pc := 16) hx hb dX8_clashOf_16 rfl (lv_at hl 3 rfl) ?_
  refine lv_iload_n (pc := 17) hx hb dX8_clashOf_17 rfl (lv_at hl 3 rfl) ?_
  refine gc_i (pc := 18) (wc := [(a0, .inr (8, [.ref a1])), (a1, .inl (cI, 30, .inl f0))]) (wr := []) hP hD hS hA [0, 1] [] rfl rfl (by decide) (by decide) (by decide) (fun hPc hDc => va_runV (As := [.int x1, .int x1]) (rest := [.long y_10]) ⟨hx, hb, hml, hown, hts⟩ (k_X8_productOf l D cB cC cI cJ _ a0 a1 x1 x1 f0 hp2 hp2) ⟨gcwB hts tw_799 tw_5 tw_1108 hd_yX8_productOf ⟨Nat.le_of_ble_eq_true rfl, Nat.le_of_ble_eq_true rfl⟩, hts _ tw_797, hts _ tw_798⟩ ⟨gblind, va_recv hK hPc (ci := 8) (q0 := 0) rfl rfl, (gpreS hPc hK hDc hN).2⟩ rfl rfl hl.1 rfl (lv_room (Nat.le_of_ble_eq_true rfl)) dX8_clashOf_18 ⟨Nat.le_of_ble_eq_true rfl, Nat.le_of_ble_eq_true rfl⟩) (fun r_12 u_11 H locs hw_13 hP hD hS => ?_)
  have hP : va_P D gcl [(a0, .inr (8, [.ref a1])), (a1, .inl (cI, 30, .inl f0))] H := hP
  have hD : va_D A [(a0, .inr (8, [.ref a1])), (a1, .inl (cI, 30, .inl f0))] := hD
  have hw_14 : ((((-2147483648) ≤ r_12.toInt ∧ r_12.toInt ≤ 2147483647))) := hw_13
  have rr_12 := n_rng r_12
  refine b_i2l (pc := 21) hx hb rfl dX8_clashOf_21 (fun y_15 ey_15 => ?_)
  have ry_15 := n_rng r_12
  refine lv_lmul (pc := 22) hx hb dX8_clashOf_22 ?_
  refine lv_topl (fun y_16 _ => ?_)
  have ry_16 := n_rngL y_16
  refine lv_lstore (pc := 23) (lv' := [(5, .long y_16), (3, .long y_5), (0, .ref a0), (1, .int x0), (2, .int x1)]) hx hb dX8_clashOf_23 hl (by decide) rfl (fun ls hl => ?_)
  refine lv_lload (pc := 25) hx hb dX8_clashOf_25 (lv_at hl 0 rfl) ?_
  refine lv_lconst (pc := 27) (v := 0) hx hb dX8_clashOf_27 (by decide) ?_
  refine b_lcmp_ne (pc := 28) (tgt := 36) hx hb rfl tL_0 dX8_clashOf_28 dX8_clashOf_29 (by decide) (fun c_17 => ?_) (fun c_17 => ?_)
  ·
    refine lv_ldc2 (pc := 36) hx hb hown (hts _ tw_1109) dX8_clashOf_36 ?_
    refine lv_lload_n (pc := 39) hx hb dX8_clashOf_39 rfl (lv_at hl 1 rfl) ?_
    refine b_lmul (pc := 40) hx hb tL_1000 rfl (by omega) (by omega) dX8_clashOf_40 (fun y_18 ey_18 => ?_)
    refine lv_lload_n (pc := 41) hx hb dX8_clashOf_41 rfl (lv_at hl 1 rfl) ?_
    refine lv_lmul (pc := 42) hx hb dX8_clashOf_42 ?_
    refine lv_topl (fun y_19 _ => ?_)
    have ry_19 := n_rngL y_19
    refine lv_lload (pc := 43) hx hb dX8_clashOf_43 (lv_at hl 0 rfl) ?_
    refine lv_ldiv (pc := 45) hx hb dX8_clashOf_45 (fun h => by have q := congrArg Int64.toInt h; have k := tL_0; omega) ?_
    refine lv_topl (fun y_20 _ => ?_)
    have ry_20 := n_rngL y_20
    refine lv_l2i (pc := 46) hx hb dX8_clashOf_46 rfl ?_
    refine lv_topi (fun x_21 _ => ?_)
    have rx_21 := n_rng x_21
    exact hret x_21 ((fun _ => 0), (fun _ => (fun _ => 0)), (fun _ => (fun _ => 0)), (fun _ => 0), (fun _ => 0)) dX8_clashOf_47 (show ((((-2147483648) ≤ x_21.toInt ∧ x_21.toInt ≤ 2147483647)) ∨ (x_21.toInt = 0)) by omega) (g_psub (wc := [(a0, .inr (8, [.ref a1])), (a1, .inl (cI, 30, .inl f0))]) hP [0, 1] rfl) (hD.sub (ws' := [(a0, .inr (8, [.ref a1])), (a1, .inl (cI, 30, .inl f0))]) [0, 1] (by decide) rfl) hS
  ·
    refine lv_iconst (pc := 32) (v := 0) hx hb dX8_clashOf_32 (by decide) ?_
    refine lv_goto (pc := 33) (tgt := 47) hx hb dX8_clashOf_33 (by decide) ?_
    exact hret 0 ((fun _ => 0), (fun _ => (fun _ => 0)), (fun _ => (fun _ => 0)), (fun _ => 0), (fun _ => 0)) dX8_clashOf_47 (show ((((-2147483648) ≤ (0 : Int32).toInt ∧ (0 : Int32).toInt ≤ 2147483647)) ∨ ((0 : Int32).toInt = 0)) by have k9 := tI_0; omega) (g_psub (wc := [(a0, .inr (8, [.ref a1])), (a1, .inl (cI, 30, .inl f0))]) hP [0, 1] rfl) (hD.sub (ws' := [(a0, .inr (8, [.ref a1])), (a1, .inl (cI, 30, .inl f0))]) [0, 1] (by decide) rfl) hS
set_option maxHeartbeats 4000000 in
set_option maxRecDepth 100000 in
theorem k_X8_worstPair (l : Launch) (D : va_G) (cB cC cI cJ : ClassId) (sz : Nat) (a0 a1 : Nat) (x0 : Int32) (f0 : Nat → Int32) (hp1 : ((-1) ≤ x0.toInt ∧ x0.toInt ≤ 5)) : Met l yX8_worstPair (.code yX8_worstPair cX8_worstPair 7 (some .int) :: lw_gd) ({ frames := 3, cells := 0, slots := 0, locals := 72 }) (gPre D [(cB, .byte), (cC, .char), (cI, .int), (cJ, .long)] [.ref a0, .int x0] [(a0, .inr (8, [.ref a1])), (a1, .inl (cI, 30, .inl f0))] sz) (va_Qi (fun r u => ((((-2147483648) ≤ r.toInt ∧ r.toInt ≤ 2147483647) ∧ ((-1) ≤ x0.toInt ∧ x0.toInt ≤ 5)))) (gB D (va_A [(a0, .inr (8, [.ref a1])), (a1, .inl (cI, 30, .inl f0))] sz) (fun u : gEx => [(a0, .inr (8, [.ref a1])), (a1, .inl (cI, 30, .inl f0))])) (va_A [(a0, .inr (8, [.ref a1])), (a1, .inl (cI, 30, .inl f0))] sz)) 0 0 (va_A [(a0, .inr (8, [.ref a1])), (a1, .inl (cI, 30, .inl f0))] sz) := by
  refine gOf_i (by decide +kernel) (Nat.le_of_ble_eq_true rfl) ?_
  intro p e s m args below meth c ls A Q hx hb hts hown hml hN hK hP hD hA hl hret
  have hown : s.vm.findClass RX8 = some m.cls := hown
  have hS : va_S A s.heap s.heap [] := va_S.rf
  have hP : va_P D gcl [(a0, .inr (8, [.ref a1])), (a1, .inl (cI, 30, .inl f0))] s.heap := hP
  have hl : lv_has ls 7 [(0, .ref a0), (1, .int x0)] := hl
  refine lv_iconst (pc := 0) (v := (-1)) hx hb dX8_worstPair_0 (by decide) ?_
  refine lv_istore_n (pc := 1) (lv' := [(2, .int (-1)), (0, .ref a0), (1, .int x0)]) hx hb dX8_worstPair_1 rfl hl (by decide) rfl (fun ls hl => ?_)
  refine lv_iconst (pc := 2) (v := (-1)) hx hb dX8_worstPair_2 (by decide) ?_
  refine lv_istore_n (pc := 3) (lv' := [(3, .int (-1)), (2, .int (-1)), (0, .ref a0), (1, .int x0)]) hx hb dX8_worstPair_3 rfl hl (by decide) rfl (fun ls hl => ?_)
  refine lv_iconst (pc := 4) (v := 0) hx hb dX8_worstPair_4 (by decide) ?_
  refine lv_istore (pc := 5) (lv' := [(4, .int 0), (3, .int (-1)), (2, .int (-1)), (0, .ref a0), (1, .int x0)]) hx hb dX8_worstPair_5 hl (by decide) rfl (fun ls hl => ?_)
  have lp_7 : ∀ (n : Nat) (x_1 x_3 x_5 : Int32) (H : Heap) (locs : List Loc) (ls : Array Slot), (0 ≤ x_1.toInt ∧ x_1.toInt ≤ 2147483647) → (2147483647 - x_1.toInt).toNat < n → va_P D gcl [(a0, .inr (8, [.ref a1])), (a1, .inl (cI, 30, .inl f0))] H → va_D A [(a0, .inr (8, [.ref a1])), (a1, .inl (cI, 30, .inl f0))] → va_S A s.heap H locs → lv_has ls 7 [(4, .int x_1), (3, .int x_3), (2, .int x_5), (0, .ref a0), (1, .int x0)] → W p l e ({ frames := 3, cells := 0, slots := 0, locals := 72 }) s m args below meth c H locs 0 0 Q (F0 m 7 ls []) := by
    intro n
    induction n with
    | zero => intro x_1 x_3 x_5 H locs ls hi_2 hmu; exact absurd hmu (Nat.not_lt_zero _)
    | succ n ih_lp_7 =>
      intro x_1 x_3 x_5 H locs ls hi_2 hmu_lp_7 hP hD hS hl
      have hi_4 := n_rng x_3
      have hi_6 := n_rng x_5
      refine lv_iload (pc := 7) hx hb dX8_worstPair_7 (lv_at hl 0 rfl) ?_
      refine lv_iload_n (pc := 9) hx hb dX8_worstPair_9 rfl (lv_at hl 4 rfl) ?_
      refine b_icmp_ge (pc := 10) (tgt := 65) hx hb rfl rfl  dX8_worstPair_10 (by decide) (fun c_8 => ?_) (fun c_8 => ?_)
      ·
        refine lv_iload_n (pc := 65) hx hb dX8_worstPair_65 rfl (lv_at hl 2 rfl) ?_
        exact hret x_5 ((fun _ => 0), (fun _ => (fun _ => 0)), (fun _ => (fun _ => 0)), (fun _ => 0), (fun _ => 0)) dX8_worstPair_66 (show ((((-2147483648) ≤ x_5.toInt ∧ x_5.toInt ≤ 2147483647) ∧ ((-1) ≤ x0.toInt ∧ x0.toInt ≤ 5))) by omega) (g_psub (wc := [(a0, .inr (8, [.ref a1])), (a1, .inl (cI, 30, .inl f0))]) hP [0, 1] rfl) (hD.sub (ws' := [(a0, .inr (8, [.ref a1])), (a1, .inl (cI, 30, .inl f0))]) [0, 1] (by decide) rfl) hS
      ·
        refine lv_iload (pc := 13) hx hb dX8_worstPair_13 (lv_at hl 0 rfl) ?_
        refine lv_iconst (pc := 15) (v := 1) hx hb dX8_worstPair_15 (by decide) ?_
        refine b_iadd (pc := 16) hx hb rfl tI_1 (by omega) (by omega) dX8_worstPair_16 (fun x_9 ex_9 => ?_)
        refine lv_istore (pc := 17) (lv' := [(5, .int x_9), (4, .int x_1), (3, .int x_3), (2, .int x_5), (0, .ref a0), (1, .int x0)]) hx hb dX8_worstPair_17 hl (by decide) rfl (fun ls hl => ?_)
        have lp_16 : ∀ (n : Nat) (x_10 x_12 x_14 : Int32) (H : Heap) (locs : List Loc) (ls : Array Slot), (1 ≤ x_10.toInt ∧ x_10.toInt ≤ 2147483647) → (2147483647 - x_10.toInt).toNat < n → va_P D gcl [(a0, .inr (8, [.ref a1])), (a1, .inl (cI, 30, .inl f0))] H → va_D A [(a0, .inr (8, [.ref a1])), (a1, .inl (cI, 30, .inl f0))] → va_S A s.heap H locs → lv_has ls 7 [(5, .int x_10), (4, .int x_1), (3, .int x_12), (2, .int x_14), (0, .ref a0), (1, .int x0)] → W p l e ({ frames := 3, cells := 0, slots := 0, locals := 72 }) s m args below meth c H locs 0 0 Q (F0 m 19 ls []) := by
          intro n
          induction n with
          | zero => intro x_10 x_12 x_14 H locs ls hi_11 hmu; exact absurd hmu (Nat.not_lt_zero _)
          | succ n ih_lp_16 =>
            intro x_10 x_12 x_14 H locs ls hi_11 hmu_lp_16 hP hD hS hl
            have hi_13 := n_rng x_12
            have hi_15 := n_rng x_14
            refine lv_iload (pc := 19) hx hb dX8_worstPair_19 (lv_at hl 0 rfl) ?_
            refine lv_iload_n (pc := 21) hx hb dX8_worstPair_21 rfl (lv_at hl 5 rfl) ?_
            refine b_icmp_ge (pc := 22) (tgt := 59) hx hb rfl rfl  dX8_worstPair_22 (by decide) (fun c_17 => ?_) (fun c_17 => ?_)
            ·
              refine b_iinc (pc := 59) hx hb dX8_worstPair_59 hl (k := 1) rfl rfl tI_1 (by omega) (by omega) (by decide) (fun x_18 ex_18 ls hl => ?_)
              have hl : lv_has ls 7 [(4, .int x_18), (5, .int x_10), (3, .int x_12), (2, .int x_14), (0, .ref a0), (1, .int x0)] := hl
              refine lv_goto (pc := 62) (tgt := 7) hx hb dX8_worstPair_62 (by decide) ?_
              exact ih_lp_7 x_18 x_12 x_14 _ _ ls (by omega) (by omega) hP hD hS (lv_sub hl [0, 2, 3, 4, 5] rfl)
            ·
              refine lv_aload_n (pc := 25) hx hb dX8_worstPair_25 rfl (lv_at hl 4 rfl) ?_
              refine lv_iload (pc := 26) hx hb dX8_worstPair_26 (lv_at hl 1 rfl) ?_
              refine lv_iload (pc := 28) hx hb dX8_worstPair_28 (lv_at hl 0 rfl) ?_
              refine gc_i (pc := 30) (wc := [(a0, .inr (8, [.ref a1])), (a1, .inl (cI, 30, .inl f0))]) (wr := []) hP hD hS hA [0, 1] [] rfl rfl (by decide) (by decide) (by decide) (fun hPc hDc => va_runV (As := [.int x_1, .int x_10]) (rest := []) ⟨hx, hb, hml, hown, hts⟩ (k_X8_clashOf l D cB cC cI cJ _ a0 a1 x_1 x_10 f0 (by  omega) (by  omega)) ⟨gcwB hts tw_1107 tw_5 tw_1118 hd_yX8_clashOf ⟨Nat.le_of_ble_eq_true rfl, Nat.le_of_ble_eq_true rfl⟩, hts _ tw_1105, hts _ tw_1106⟩ ⟨gblind, va_recv hK hPc (ci := 8) (q0 := 0) rfl rfl, (gpreS hPc hK hDc hN).2⟩ rfl rfl hl.1 rfl (lv_room (Nat.le_of_ble_eq_true rfl)) dX8_worstPair_30 ⟨Nat.le_of_ble_eq_true rfl, Nat.le_of_ble_eq_true rfl⟩) (fun r_20 u_19 H locs hw_21 hP hD hS => ?_)
              have hP : va_P D gcl [(a0, .inr (8, [.ref a1])), (a1, .inl (cI, 30, .inl f0))] H := hP
              have hD : va_D A [(a0, .inr (8, [.ref a1])), (a1, .inl (cI, 30, .inl f0))] := hD
              have hw_22 : ((((-2147483648) ≤ r_20.toInt ∧ r_20.toInt ≤ 2147483647)) ∨ (r_20.toInt = 0)) := hw_21
              have rr_20 := n_rng r_20
              refine lv_istore (pc := 33) (lv' := [(6, .int r_20), (5, .int x_10), (4, .int x_1), (3, .int x_12), (2, .int x_14), (0, .ref a0), (1, .int x0)]) hx hb dX8_worstPair_33 hl (by decide) rfl (fun ls hl => ?_)
              refine lv_iload (pc := 35) hx hb dX8_worstPair_35 (lv_at hl 0 rfl) ?_
              refine lv_iload_n (pc := 37) hx hb dX8_worstPair_37 rfl (lv_at hl 3 rfl) ?_
              refine b_icmp_le (pc := 38) (tgt := 53) hx hb rfl rfl  dX8_worstPair_38 (by decide) (fun c_23 => ?_) (fun c_23 => ?_)
              ·
                refine b_iinc (pc := 53) hx hb dX8_worstPair_53 hl (k := 1) rfl rfl tI_1 (by omega) (by omega) (by decide) (fun x_24 ex_24 ls hl => ?_)
                have hl : lv_has ls 7 [(5, .int x_24), (6, .int r_20), (4, .int x_1), (3, .int x_12), (2, .int x_14), (0, .ref a0), (1, .int x0)] := hl
                refine lv_goto (pc := 56) (tgt := 19) hx hb dX8_worstPair_56 (by decide) ?_
                exact ih_lp_16 x_24 x_12 x_14 _ _ ls (by omega) (by omega) hP hD hS (lv_sub hl [0, 2, 3, 4, 5, 6] rfl)
              ·
                refine lv_iload (pc := 41) hx hb dX8_worstPair_41 (lv_at hl 0 rfl) ?_
                refine lv_istore_n (pc := 43) (lv' := [(3, .int r_20), (6, .int r_20), (5, .int x_10), (4, .int x_1), (2, .int x_14), (0, .ref a0), (1, .int x0)]) hx hb dX8_worstPair_43 rfl hl (by decide) rfl (fun ls hl => ?_)
                refine lv_bipush (pc := 44) (v := 100) hx hb dX8_worstPair_44 (by decide) ?_
                refine lv_iload (pc := 46) hx hb dX8_worstPair_46 (lv_at hl 3 rfl) ?_
                refine b_imul (pc := 48) hx hb tI_100 rfl (by omega) (by omega) dX8_worstPair_48 (fun x_25 ex_25 => ?_)
                refine lv_iload (pc := 49) hx hb dX8_worstPair_49 (lv_at hl 2 rfl) ?_
                refine b_iadd (pc := 51) hx hb rfl rfl (by omega) (by omega) dX8_worstPair_51 (fun x_26 ex_26 => ?_)
                refine lv_istore_n (pc := 52) (lv' := [(2, .int x_26), (3, .int r_20), (6, .int r_20), (5, .int x_10), (4, .int x_1), (0, .ref a0), (1, .int x0)]) hx hb dX8_worstPair_52 rfl hl (by decide) rfl (fun ls hl => ?_)
                refine b_iinc (pc := 53) hx hb dX8_worstPair_53 hl (k := 3) rfl rfl tI_1 (by omega) (by omega) (by decide) (fun x_27 ex_27 ls hl => ?_)
                have hl : lv_has ls 7 [(5, .int x_27), (2, .int x_26), (3, .int r_20), (6, .int r_20), (4, .int x_1), (0, .ref a0), (1, .int x0)] := hl
                refine lv_goto (pc := 56) (tgt := 19) hx hb dX8_worstPair_56 (by decide) ?_
                exact ih_lp_16 x_27 r_20 x_26 _ _ ls (by omega) (by omega) hP hD hS (lv_sub hl [0, 4, 2, 1, 5, 6] rfl)
        exact lp_16 _ x_9 x_3 x_5 _ _ ls (by omega) (Nat.lt_succ_self _) hP hD hS (lv_sub hl [0, 1, 2, 3, 4, 5] rfl)
  exact lp_7 _ 0 (-1) (-1) _ _ ls (n_c tI_0 (by decide)) (Nat.lt_succ_self _) hP hD hS (lv_sub hl [0, 1, 2, 3, 4] rfl)
set_option maxHeartbeats 4000000 in
set_option maxRecDepth 100000 in
theorem k_X8_allSquares (l : Launch) (D : va_G) (cB cC cI cJ : ClassId) (sz : Nat) (a0 a1 : Nat) (f0 : Nat → Int32) : Met l yX8_allSquares (.code yX8_allSquares cX8_allSquares 4 (some .long) :: lw_gd) ({ frames := 2, cells := 0, slots := 0, locals := 46 }) (gPre D [(cB, .byte), (cC, .char), (cI, .int), (cJ, .long)] [.ref a0] [(a0, .inr (8, [.ref a1])), (a1, .inl (cI, 30, .inl f0))] sz) (va_Ql (fun r u => ((((-9223372036854775808) ≤ r.toInt ∧ r.toInt ≤ 9223372036854775807)))) (gB D (va_A [(a0, .inr (8, [.ref a1])), (a1, .inl (cI, 30, .inl f0))] sz) (fun u : gEx => [(a0, .inr (8, [.ref a1])), (a1, .inl (cI, 30, .inl f0))])) (va_A [(a0, .inr (8, [.ref a1])), (a1, .inl (cI, 30, .inl f0))] sz)) 0 0 (va_A [(a0, .inr (8, [.ref a1])), (a1, .inl (cI, 30, .inl f0))] sz) := by
  refine gOf_l (by decide +kernel) (Nat.le_of_ble_eq_true rfl) ?_
  intro p e s m args below meth c ls A Q hx hb hts hown hml hN hK hP hD hA hl hret
  have hown : s.vm.findClass RX8 = some m.cls := hown
  have hS : va_S A s.heap s.heap [] := va_S.rf
  have hP : va_P D gcl [(a0, .inr (8, [.ref a1])), (a1, .inl (cI, 30, .inl f0))] s.heap := hP
  have hl : lv_has ls 4 [(0, .ref a0)] := hl
  refine lv_lconst (pc := 0) (v := 0) hx hb dX8_allSquares_0 (by decide) ?_
  refine lv_lstore_n (pc := 1) (lv' := [(1, .long 0), (0, .ref a0)]) hx hb dX8_allSquares_1 rfl hl (by decide) rfl (fun ls hl => ?_)
  refine lv_iconst (pc := 2) (v := 0) hx hb dX8_allSquares_2 (by decide) ?_
  refine lv_istore_n (pc := 3) (lv' := [(3, .int 0), (1, .long 0), (0, .ref a0)]) hx hb dX8_allSquares_3 rfl hl (by decide) rfl (fun ls hl => ?_)
  have lp_5 : ∀ (n : Nat) (x_1 : Int32) (y_3 : Int64) (H : Heap) (locs : List Loc) (ls : Array Slot), (0 ≤ x_1.toInt ∧ x_1.toInt ≤ 2147483647) → (2147483647 - x_1.toInt).toNat < n → va_P D gcl [(a0, .inr (8, [.ref a1])), (a1, .inl (cI, 30, .inl f0))] H → va_D A [(a0, .inr (8, [.ref a1])), (a1, .inl (cI, 30, .inl f0))] → va_S A s.heap H locs → lv_has ls 4 [(3, .int x_1), (1, .long y_3), (0, .ref a0)] → W p l e ({ frames := 2, cells := 0, slots := 0, locals := 46 }) s m args below meth c H locs 0 0 Q (F0 m 4 ls []) := by
    intro n
    induction n with
    | zero => intro x_1 y_3 H locs ls hi_2 hmu; exact absurd hmu (Nat.not_lt_zero _)
    | succ n ih_lp_5 =>
      intro x_1 y_3 H locs ls hi_2 hmu_lp_5 hP hD hS hl
      have hi_4 := n_rngL y_3
      refine lv_iload_n (pc := 4) hx hb dX8_allSquares_4 rfl (lv_at hl 0 rfl) ?_
      refine lv_iconst (pc := 5) (v := 5) hx hb dX8_allSquares_5 (by decide) ?_
      refine b_icmp_ge (pc := 6) (tgt := 25) hx hb rfl tI_5  dX8_allSquares_6 (by decide) (fun c_6 => ?_) (fun c_6 => ?_)
      ·
        refine lv_lload_n (pc := 25) hx hb dX8_allSquares_25 rfl (lv_at hl 1 rfl) ?_
        exact hret y_3 ((fun _ => 0), (fun _ => (fun _ => 0)), (fun _ => (fun _ => 0)), (fun _ => 0), (fun _ => 0)) dX8_allSquares_26 (show ((((-9223372036854775808) ≤ y_3.toInt ∧ y_3.toInt ≤ 9223372036854775807))) by omega) (g_psub (wc := [(a0, .inr (8, [.ref a1])), (a1, .inl (cI, 30, .inl f0))]) hP [0, 1] rfl) (hD.sub (ws' := [(a0, .inr (8, [.ref a1])), (a1, .inl (cI, 30, .inl f0))]) [0, 1] (by decide) rfl) hS
      ·
        refine lv_lload_n (pc := 9) hx hb dX8_allSquares_9 rfl (lv_at hl 1 rfl) ?_
        refine lv_aload_n (pc := 10) hx hb dX8_allSquares_10 rfl (lv_at hl 2 rfl) ?_
        refine lv_iload_n (pc := 11) hx hb dX8_allSquares_11 rfl (lv_at hl 0 rfl) ?_
        refine lv_iload_n (pc := 12) hx hb dX8_allSquares_12 rfl (lv_at hl 0 rfl) ?_
        refine gc_i (pc := 13) (wc := [(a0, .inr (8, [.ref a1])), (a1, .inl (cI, 30, .inl f0))]) (wr := []) hP hD hS hA [0, 1] [] rfl rfl (by decide) (by decide) (by decide) (fun hPc hDc => va_runV (As := [.int x_1, .int x_1]) (rest := [.long y_3]) ⟨hx, hb, hml, hown, hts⟩ (k_X8_productOf l D cB cC cI cJ _ a0 a1 x_1 x_1 f0 (by  omega) (by  omega)) ⟨gcwB hts tw_799 tw_5 tw_1108 hd_yX8_productOf ⟨Nat.le_of_ble_eq_true rfl, Nat.le_of_ble_eq_true rfl⟩, hts _ tw_797, hts _ tw_798⟩ ⟨gblind, va_recv hK hPc (ci := 8) (q0 := 0) rfl rfl, (gpreS hPc hK hDc hN).2⟩ rfl rfl hl.1 rfl (lv_room (Nat.le_of_ble_eq_true rfl)) dX8_allSquares_13 ⟨Nat.le_of_ble_eq_true rfl, Nat.le_of_ble_eq_true rfl⟩) (fun r_8 u_7 H locs hw_9 hP hD hS => ?_)
        have hP : va_P D gcl [(a0, .inr (8, [.ref a1])), (a1, .inl (cI, 30, .inl f0))] H := hP
        have hD : va_D A [(a0, .inr (8, [.ref a1])), (a1, .inl (cI, 30, .inl f0))] := hD
        have hw_10 : ((((-2147483648) ≤ r_8.toInt ∧ r_8.toInt ≤ 2147483647))) := hw_9
        have rr_8 := n_rng r_8
        refine b_i2l (pc := 16) hx hb rfl dX8_allSquares_16 (fun y_11 ey_11 => ?_)
        have ry_11 := n_rng r_8
        refine lv_ladd (pc := 17) hx hb dX8_allSquares_17 ?_
        refine lv_topl (fun y_12 _ => ?_)
        have ry_12 := n_rngL y_12
        refine lv_lstore_n (pc := 18) (lv' := [(1, .long y_12), (3, .int x_1), (0, .ref a0)]) hx hb dX8_allSquares_18 rfl hl (by decide) rfl (fun ls hl => ?_)
        refine b_iinc (pc := 19) hx hb dX8_allSquares_19 hl (k := 1) rfl rfl tI_1 (by omega) (by omega) (by decide) (fun x_13 ex_13 ls hl => ?_)
        have hl : lv_has ls 4 [(3, .int x_13), (1, .long y_12), (0, .ref a0)] := hl
        refine lv_goto (pc := 22) (tgt := 4) hx hb dX8_allSquares_22 (by decide) ?_
        exact ih_lp_5 x_13 y_12 _ _ ls (by omega) (by omega) hP hD hS (lv_sub hl [0, 1, 2] rfl)
  exact lp_5 _ 0 0 _ _ ls (n_c tI_0 (by decide)) (Nat.lt_succ_self _) hP hD hS (lv_sub hl [0, 1, 2] rfl)
set_option maxHeartbeats 4000000 in
set_option maxRecDepth 100000 in
theorem k_X8_peakOf (l : Launch) (D : va_G) (cB cC cI cJ : ClassId) (sz : Nat) (a0 a1 : Nat) (x0 : Int32) (f0 : Nat → Int32) (hp1 : (0 ≤ x0.toInt ∧ x0.toInt ≤ 4)) : Met l yX8_peakOf (.code yX8_peakOf cX8_peakOf 4 (some .int) :: lw_gd) ({ frames := 1, cells := 0, slots := 0, locals := 22 }) (gPre D [(cB, .byte), (cC, .char), (cI, .int), (cJ, .long)] [.ref a0, .int x0] [(a0, .inr (8, [.ref a1])), (a1, .inl (cI, 30, .inl f0))] sz) (va_Qi (fun r u => ((((-2147483648) ≤ r.toInt ∧ r.toInt ≤ 2147483647)))) (gB D (va_A [(a0, .inr (8, [.ref a1])), (a1, .inl (cI, 30, .inl f0))] sz) (fun u : gEx => [(a0, .inr (8, [.ref a1])), (a1, .inl (cI, 30, .inl f0))])) (va_A [(a0, .inr (8, [.ref a1])), (a1, .inl (cI, 30, .inl f0))] sz)) 0 0 (va_A [(a0, .inr (8, [.ref a1])), (a1, .inl (cI, 30, .inl f0))] sz) := by
  refine gOf_i (by decide +kernel) (Nat.le_of_ble_eq_true rfl) ?_
  intro p e s m args below meth c ls A Q hx hb hts hown hml hN hK hP hD hA hl hret
  have hown : s.vm.findClass RX8 = some m.cls := hown
  have hS : va_S A s.heap s.heap [] := va_S.rf
  have hP : va_P D gcl [(a0, .inr (8, [.ref a1])), (a1, .inl (cI, 30, .inl f0))] s.heap := hP
  have hl : lv_has ls 4 [(0, .ref a0), (1, .int x0)] := hl
  refine lv_iconst (pc := 0) (v := 0) hx hb dX8_peakOf_0 (by decide) ?_
  refine lv_istore_n (pc := 1) (lv' := [(2, .int 0), (0, .ref a0), (1, .int x0)]) hx hb dX8_peakOf_1 rfl hl (by decide) rfl (fun ls hl => ?_)
  refine lv_iconst (pc := 2) (v := 0) hx hb dX8_peakOf_2 (by decide) ?_
  refine lv_istore_n (pc := 3) (lv' := [(3, .int 0), (2, .int 0), (0, .ref a0), (1, .int x0)]) hx hb dX8_peakOf_3 rfl hl (by decide) rfl (fun ls hl => ?_)
  have lp_5 : ∀ (n : Nat) (x_1 x_3 : Int32) (H : Heap) (locs : List Loc) (ls : Array Slot), (0 ≤ x_1.toInt ∧ x_1.toInt ≤ 2147483647) → (2147483647 - x_1.toInt).toNat < n → va_P D gcl [(a0, .inr (8, [.ref a1])), (a1, .inl (cI, 30, .inl f0))] H → va_D A [(a0, .inr (8, [.ref a1])), (a1, .inl (cI, 30, .inl f0))] → va_S A s.heap H locs → lv_has ls 4 [(3, .int x_1), (2, .int x_3), (0, .ref a0), (1, .int x0)] → W p l e ({ frames := 1, cells := 0, slots := 0, locals := 22 }) s m args below meth c H locs 0 0 Q (F0 m 4 ls []) := by
    intro n
    induction n with
    | zero => intro x_1 x_3 H locs ls hi_2 hmu; exact absurd hmu (Nat.not_lt_zero _)
    | succ n ih_lp_5 =>
      intro x_1 x_3 H locs ls hi_2 hmu_lp_5 hP hD hS hl
      have hi_4 := n_rng x_3
      refine lv_iload_n (pc := 4) hx hb dX8_peakOf_4 rfl (lv_at hl 0 rfl) ?_
      refine lv_bipush (pc := 5) (v := 6) hx hb dX8_peakOf_5 (by decide) ?_
      refine b_icmp_ge (pc := 7) (tgt := 30) hx hb rfl tI_6  dX8_peakOf_7 (by decide) (fun c_6 => ?_) (fun c_6 => ?_)
      ·
        refine lv_iload_n (pc := 30) hx hb dX8_peakOf_30 rfl (lv_at hl 1 rfl) ?_
        exact hret x_3 ((fun _ => 0), (fun _ => (fun _ => 0)), (fun _ => (fun _ => 0)), (fun _ => 0), (fun _ => 0)) dX8_peakOf_31 (show ((((-2147483648) ≤ x_3.toInt ∧ x_3.toInt ≤ 2147483647))) by omega) (g_psub (wc := [(a0, .inr (8, [.ref a1])), (a1, .inl (cI, 30, .inl f0))]) hP [0, 1] rfl) (hD.sub (ws' := [(a0, .inr (8, [.ref a1])), (a1, .inl (cI, 30, .inl f0))]) [0, 1] (by decide) rfl) hS
      ·
        refine lv_iload_n (pc := 10) hx hb dX8_peakOf_10 rfl (lv_at hl 1 rfl) ?_
        refine lv_aload_n (pc := 11) hx hb dX8_peakOf_11 rfl (lv_at hl 2 rfl) ?_
        refine lv_iload_n (pc := 12) hx hb dX8_peakOf_12 rfl (lv_at hl 0 rfl) ?_
        refine lv_iload_n (pc := 13) hx hb dX8_peakOf_13 rfl (lv_at hl 3 rfl) ?_
        refine gc_i (pc := 14) (wc := [(a0, .inr (8, [.ref a1])), (a1, .inl (cI, 30, .inl f0))]) (wr := []) hP hD hS hA [0, 1] [] rfl rfl (by decide) (by decide) (by decide) (fun hPc hDc => va_runV (As := [.int x_1, .int x0]) (rest := [.int x_3]) ⟨hx, hb, hml, hown, hts⟩ (k_X8_at l D cB cC cI cJ _ a0 a1 x_1 x0 f0 (by  omega) hp1) ⟨gcwB hts tw_791 tw_5 tw_800 hd_yX8_at ⟨Nat.le_of_ble_eq_true rfl, Nat.le_of_ble_eq_true rfl⟩, hts _ tw_789, hts _ tw_790⟩ ⟨gblind, va_recv hK hPc (ci := 8) (q0 := 0) rfl rfl, (gpreS hPc hK hDc hN).2⟩ rfl rfl hl.1 rfl (lv_room (Nat.le_of_ble_eq_true rfl)) dX8_peakOf_14 ⟨Nat.le_of_ble_eq_true rfl, Nat.le_of_ble_eq_true rfl⟩) (fun r_8 u_7 H locs hw_9 hP hD hS => ?_)
        have hP : va_P D gcl [(a0, .inr (8, [.ref a1])), (a1, .inl (cI, 30, .inl f0))] H := hP
        have hD : va_D A [(a0, .inr (8, [.ref a1])), (a1, .inl (cI, 30, .inl f0))] := hD
        have hw_10 : ((((-2147483648) ≤ r_8.toInt ∧ r_8.toInt ≤ 2147483647))) := hw_9
        have rr_8 := n_rng r_8
        refine va_mabs (pc := 17) hx hb (hml.trans hl.1.symm) hown (hts _ tw_1331) (hts _ tw_632) (hts _ tw_19) (hts _ tw_633) (Nat.le_of_ble_eq_true rfl) (Nat.le_of_ble_eq_true rfl) (Nat.le_of_ble_eq_true rfl) (Nat.le_of_ble_eq_true rfl) dX8_peakOf_17 ?_
        refine lv_topi (fun x_11 ex_11 => ?_)
        have ex_11 := n_abs rfl ex_11
        have rx_11 := n_rng x_11
        refine va_mmax (pc := 20) hx hb (hml.trans hl.1.symm) hown (hts _ tw_1332) (hts _ tw_885) (hts _ tw_19) (hts _ tw_886) (Nat.le_of_ble_eq_true rfl) (Nat.le_of_ble_eq_true rfl) (Nat.le_of_ble_eq_true rfl) (Nat.le_of_ble_eq_true rfl) dX8_peakOf_20 ?_
        refine lv_topi (fun x_12 ex_12 => ?_)
        have ex_12 := n_max rfl rfl ex_12
        have rx_12 := n_rng x_12
        refine lv_istore_n (pc := 23) (lv' := [(2, .int x_12), (3, .int x_1), (0, .ref a0), (1, .int x0)]) hx hb dX8_peakOf_23 rfl hl (by decide) rfl (fun ls hl => ?_)
        refine b_iinc (pc := 24) hx hb dX8_peakOf_24 hl (k := 1) rfl rfl tI_1 (by omega) (by omega) (by decide) (fun x_13 ex_13 ls hl => ?_)
        have hl : lv_has ls 4 [(3, .int x_13), (2, .int x_12), (0, .ref a0), (1, .int x0)] := hl
        refine lv_goto (pc := 27) (tgt := 4) hx hb dX8_peakOf_27 (by decide) ?_
        exact ih_lp_5 x_13 x_12 _ _ ls (by omega) (by omega) hP hD hS (lv_sub hl [0, 1, 2, 3] rfl)
  exact lp_5 _ 0 0 _ _ ls (n_c tI_0 (by decide)) (Nat.lt_succ_self _) hP hD hS (lv_sub hl [0, 1, 2, 3] rfl)
set_option maxHeartbeats 4000000 in
set_option maxRecDepth 100000 in
theorem k_X5_partBy (l : Launch) (D : va_G) (cB cC cI cJ : ClassId) (sz : Nat) (x0 x1 x2 x3 : Int32) : Met l yX5_partBy (.code yX5_partBy cX5_partBy 4 (some .int) :: lw_gd) ({ frames := 0, cells := 0, slots := 0, locals := 0 }) (gPre D [(cB, .byte), (cC, .char), (cI, .int), (cJ, .long)] [.int x0, .int x1, .int x2, .int x3] [] sz) (va_Qi (fun r u => ((r.toInt = x3.toInt ∧ x0.toInt = (-3)) ∨ (r.toInt = x2.toInt ∧ x0.toInt = (-2)) ∨ (r.toInt = x1.toInt ∧ x0.toInt = (-1)) ∨ (r.toInt = x0.toInt ∧ (x0.toInt < (-3) ∨ (-1) < x0.toInt)))) (gB D (va_A [] sz) (fun u : gEx => [])) (va_A [] sz)) 0 0 (va_A [] sz) := by
  refine gOf_i (by decide +kernel) (Nat.le_of_ble_eq_true rfl) ?_
  intro p e s m args below meth c ls A Q hx hb hts hown hml hN hK hP hD hA hl hret
  have hown : s.vm.findClass RX5 = some m.cls := hown
  have hS : va_S A s.heap s.heap [] := va_S.rf
  have hP : va_P D gcl [] s.heap := hP
  have hl : lv_has ls 4 [(0, .int x0), (1, .int x1), (2, .int x2), (3, .int x3)] := hl
  have rx0 := n_rng x0
  have rx1 := n_rng x1
  have rx2 := n_rng x2
  have rx3 := n_rng x3
  refine lv_iload_n (pc := 0) hx hb dX5_partBy_0 rfl (lv_at hl 0 rfl) ?_
  by_cases h_1 : x0.toInt = (-3)
  ·
    refine lv_tableIn (pc := 1) (off := 31) (tgt := 32) hx hb dX5_partBy_1 (by rw [h_1]; decide) (by rw [h_1]; decide) (by rw [h_1]; decide +kernel) (by decide) ?_
    refine lv_iload_n (pc := 32) hx hb dX5_partBy_32 rfl (lv_at hl 3 rfl) ?_
    exact hret x3 ((fun _ => 0), (fun _ => (fun _ => 0)), (fun _ => (fun _ => 0)), (fun _ => 0), (fun _ => 0)) dX5_partBy_33 (show ((x3.toInt = x3.toInt ∧ x0.toInt = (-3)) ∨ (x3.toInt = x2.toInt ∧ x0.toInt = (-2)) ∨ (x3.toInt = x1.toInt ∧ x0.toInt = (-1)) ∨ (x3.toInt = x0.toInt ∧ (x0.toInt < (-3) ∨ (-1) < x0.toInt))) by omega) (g_psub (wc := []) hP [] rfl) (hD.sub (ws' := []) [] (by decide) rfl) hS
  by_cases h_2 : x0.toInt = (-2)
  ·
    refine lv_tableIn (pc := 1) (off := 29) (tgt := 30) hx hb dX5_partBy_1 (by rw [h_2]; decide) (by rw [h_2]; decide) (by rw [h_2]; decide +kernel) (by decide) ?_
    refine lv_iload_n (pc := 30) hx hb dX5_partBy_30 rfl (lv_at hl 2 rfl) ?_
    exact hret x2 ((fun _ => 0), (fun _ => (fun _ => 0)), (fun _ => (fun _ => 0)), (fun _ => 0), (fun _ => 0)) dX5_partBy_31 (show ((x2.toInt = x3.toInt ∧ x0.toInt = (-3)) ∨ (x2.toInt = x2.toInt ∧ x0.toInt = (-2)) ∨ (x2.toInt = x1.toInt ∧ x0.toInt = (-1)) ∨ (x2.toInt = x0.toInt ∧ (x0.toInt < (-3) ∨ (-1) < x0.toInt))) by omega) (g_psub (wc := []) hP [] rfl) (hD.sub (ws' := []) [] (by decide) rfl) hS
  by_cases h_3 : x0.toInt = (-1)
  ·
    refine lv_tableIn (pc := 1) (off := 27) (tgt := 28) hx hb dX5_partBy_1 (by rw [h_3]; decide) (by rw [h_3]; decide) (by rw [h_3]; decide +kernel) (by decide) ?_
    refine lv_iload_n (pc := 28) hx hb dX5_partBy_28 rfl (lv_at hl 1 rfl) ?_
    exact hret x1 ((fun _ => 0), (fun _ => (fun _ => 0)), (fun _ => (fun _ => 0)), (fun _ => 0), (fun _ => 0)) dX5_partBy_29 (show ((x1.toInt = x3.toInt ∧ x0.toInt = (-3)) ∨ (x1.toInt = x2.toInt ∧ x0.toInt = (-2)) ∨ (x1.toInt = x1.toInt ∧ x0.toInt = (-1)) ∨ (x1.toInt = x0.toInt ∧ (x0.toInt < (-3) ∨ (-1) < x0.toInt))) by omega) (g_psub (wc := []) hP [] rfl) (hD.sub (ws' := []) [] (by decide) rfl) hS
  refine lv_tableOut (pc := 1) (tgt := 34) hx hb dX5_partBy_1 (by omega) (by decide) ?_
  refine lv_iload_n (pc := 34) hx hb dX5_partBy_34 rfl (lv_at hl 0 rfl) ?_
  exact hret x0 ((fun _ => 0), (fun _ => (fun _ => 0)), (fun _ => (fun _ => 0)), (fun _ => 0), (fun _ => 0)) dX5_partBy_35 (show ((x0.toInt = x3.toInt ∧ x0.toInt = (-3)) ∨ (x0.toInt = x2.toInt ∧ x0.toInt = (-2)) ∨ (x0.toInt = x1.toInt ∧ x0.toInt = (-1)) ∨ (x0.toInt = x0.toInt ∧ (x0.toInt < (-3) ∨ (-1) < x0.toInt))) by omega) (g_psub (wc := []) hP [] rfl) (hD.sub (ws' := []) [] (by decide) rfl) hS
set_option maxHeartbeats 4000000 in
set_option maxRecDepth 100000 in
theorem k_X5_bounded (l : Launch) (D : va_G) (cB cC cI cJ : ClassId) (sz : Nat) (y0 : Int64) : Met l yX5_bounded (.code yX5_bounded cX5_bounded 2 (some .int) :: lw_gd) ({ frames := 1, cells := 0, slots := 0, locals := 22 }) (gPre D [(cB, .byte), (cC, .char), (cI, .int), (cJ, .long)] [.long y0] [] sz) (va_Qi (fun r u => ((((-2147483648) ≤ r.toInt ∧ r.toInt ≤ 2147483647)))) (gB D (va_A [] sz) (fun u : gEx => [])) (va_A [] sz)) 0 0 (va_A [] sz) := by
  refine gOf_i (by decide +kernel) (Nat.le_of_ble_eq_true rfl) ?_
  intro p e s m args below meth c ls A Q hx hb hts hown hml hN hK hP hD hA hl hret
  have hown : s.vm.findClass RX5 = some m.cls := hown
  have hS : va_S A s.heap s.heap [] := va_S.rf
  have hP : va_P D gcl [] s.heap := hP
  have hl : lv_has ls 2 [(0, .long y0)] := hl
  have ry0 := n_rngL y0
  refine lv_ldc2 (pc := 0) hx hb hown (hts _ tw_1350) dX5_bounded_0 ?_
  refine lv_ldc2 (pc := 3) hx hb hown (hts _ tw_1351) dX5_bounded_3 ?_
  refine lv_lload_n (pc := 6) hx hb dX5_bounded_6 rfl (lv_at hl 0 rfl) ?_
  refine va_mmin_long (pc := 7) hx hb (hml.trans hl.1.symm) hown (hts _ tw_1352) (hts _ tw_857) (hts _ tw_19) (hts _ tw_858) (Nat.le_of_ble_eq_true rfl) (Nat.le_of_ble_eq_true rfl) (Nat.le_of_ble_eq_true rfl) (Nat.le_of_ble_eq_true rfl) dX5_bounded_7 ?_
  refine lv_topl (fun y_1 ey_1 => ?_)
  have ey_1 := n_minL tL_1000000 rfl ey_1
  have ry_1 := n_rngL y_1
  refine va_mmax_long (pc := 10) hx hb (hml.trans hl.1.symm) hown (hts _ tw_1353) (hts _ tw_860) (hts _ tw_19) (hts _ tw_861) (Nat.le_of_ble_eq_true rfl) (Nat.le_of_ble_eq_true rfl) (Nat.le_of_ble_eq_true rfl) (Nat.le_of_ble_eq_true rfl) dX5_bounded_10 ?_
  refine lv_topl (fun y_2 ey_2 => ?_)
  have ey_2 := n_maxL tL_m1000000 rfl ey_2
  have ry_2 := n_rngL y_2
  refine lv_l2i (pc := 13) hx hb dX5_bounded_13 rfl ?_
  refine lv_topi (fun x_3 _ => ?_)
  have rx_3 := n_rng x_3
  exact hret x_3 ((fun _ => 0), (fun _ => (fun _ => 0)), (fun _ => (fun _ => 0)), (fun _ => 0), (fun _ => 0)) dX5_bounded_14 (show ((((-2147483648) ≤ x_3.toInt ∧ x_3.toInt ≤ 2147483647))) by omega) (g_psub (wc := []) hP [] rfl) (hD.sub (ws' := []) [] (by decide) rfl) hS
set_option maxHeartbeats 4000000 in
set_option maxRecDepth 100000 in
theorem k_X5_joined (l : Launch) (D : va_G) (cB cC cI cJ : ClassId) (sz : Nat) (x0 x1 x2 : Int32) : Met l yX5_joined (.code yX5_joined cX5_joined 3 (some .int) :: lw_gd) ({ frames := 2, cells := 0, slots := 0, locals := 43 }) (gPre D [(cB, .byte), (cC, .char), (cI, .int), (cJ, .long)] [.int x0, .int x1, .int x2] [] sz) (va_Qi (fun r u => True) (gB D (va_A [] sz) (fun u : gEx => [])) (va_A [] sz)) 0 0 (va_A [] sz) := by
  refine gOf_i (by decide +kernel) (Nat.le_of_ble_eq_true rfl) ?_
  intro p e s m args below meth c ls A Q hx hb hts hown hml hN hK hP hD hA hl hret
  have hown : s.vm.findClass RX5 = some m.cls := hown
  have hS : va_S A s.heap s.heap [] := va_S.rf
  have hP : va_P D gcl [] s.heap := hP
  have hl : lv_has ls 3 [(0, .int x0), (1, .int x1), (2, .int x2)] := hl
  have rx0 := n_rng x0
  have rx1 := n_rng x1
  have rx2 := n_rng x2
  refine lv_iload_n (pc := 0) hx hb dX5_joined_0 rfl (lv_at hl 0 rfl) ?_
  by_cases h_1 : x0.toInt = (-15)
  ·
    refine lv_tableIn (pc := 1) (off := 149) (tgt := 150) hx hb dX5_joined_1 (by rw [h_1]; decide) (by rw [h_1]; decide) (by rw [h_1]; decide +kernel) (by decide) ?_
    refine lv_iload_n (pc := 150) hx hb dX5_joined_150 rfl (lv_at hl 1 rfl) ?_
    refine lv_iload_n (pc := 151) hx hb dX5_joined_151 rfl (lv_at hl 2 rfl) ?_
    refine lv_ior (pc := 152) hx hb dX5_joined_152 ?_
    refine lv_topi (fun x_2 _ => ?_)
    have rx_2 := n_rng x_2
    exact hret x_2 ((fun _ => 0), (fun _ => (fun _ => 0)), (fun _ => (fun _ => 0)), (fun _ => 0), (fun _ => 0)) dX5_joined_153 trivial (g_psub (wc := []) hP [] rfl) (hD.sub (ws' := []) [] (by decide) rfl) hS
  by_cases h_3 : x0.toInt = (-14)
  ·
    refine lv_tableIn (pc := 1) (off := 145) (tgt := 146) hx hb dX5_joined_1 (by rw [h_3]; decide) (by rw [h_3]; decide) (by rw [h_3]; decide +kernel) (by decide) ?_
    refine lv_iload_n (pc := 146) hx hb dX5_joined_146 rfl (lv_at hl 1 rfl) ?_
    refine lv_iload_n (pc := 147) hx hb dX5_joined_147 rfl (lv_at hl 2 rfl) ?_
    refine lv_iand (pc := 148) hx hb dX5_joined_148 ?_
    refine lv_topi (fun x_4 _ => ?_)
    have rx_4 := n_rng x_4
    exact hret x_4 ((fun _ => 0), (fun _ => (fun _ => 0)), (fun _ => (fun _ => 0)), (fun _ => 0), (fun _ => 0)) dX5_joined_149 trivial (g_psub (wc := []) hP [] rfl) (hD.sub (ws' := []) [] (by decide) rfl) hS
  by_cases h_5 : x0.toInt = (-13)
  ·
    refine lv_tableIn (pc := 1) (off := 134) (tgt := 135) hx hb dX5_joined_1 (by rw [h_5]; decide) (by rw [h_5]; decide) (by rw [h_5]; decide +kernel) (by decide) ?_
    refine lv_iload_n (pc := 135) hx hb dX5_joined_135 rfl (lv_at hl 1 rfl) ?_
    refine lv_iload_n (pc := 136) hx hb dX5_joined_136 rfl (lv_at hl 2 rfl) ?_
    refine b_icmp_ne (pc := 137) (tgt := 144) hx hb rfl rfl  dX5_joined_137 (by decide) (fun c_6 => ?_) (fun c_6 => ?_)
    ·
      refine lv_iconst (pc := 144) (v := 0) hx hb dX5_joined_144 (by decide) ?_
      exact hret 0 ((fun _ => 0), (fun _ => (fun _ => 0)), (fun _ => (fun _ => 0)), (fun _ => 0), (fun _ => 0)) dX5_joined_145 trivial (g_psub (wc := []) hP [] rfl) (hD.sub (ws' := []) [] (by decide) rfl) hS
    ·
      refine lv_iconst (pc := 140) (v := 1) hx hb dX5_joined_140 (by decide) ?_
      refine lv_goto (pc := 141) (tgt := 145) hx hb dX5_joined_141 (by decide) ?_
      exact hret 1 ((fun _ => 0), (fun _ => (fun _ => 0)), (fun _ => (fun _ => 0)), (fun _ => 0), (fun _ => 0)) dX5_joined_145 trivial (g_psub (wc := []) hP [] rfl) (hD.sub (ws' := []) [] (by decide) rfl) hS
  by_cases h_7 : x0.toInt = (-12)
  ·
    refine lv_tableIn (pc := 1) (off := 123) (tgt := 124) hx hb dX5_joined_1 (by rw [h_7]; decide) (by rw [h_7]; decide) (by rw [h_7]; decide +kernel) (by decide) ?_
    refine lv_iload_n (pc := 124) hx hb dX5_joined_124 rfl (lv_at hl 1 rfl) ?_
    refine lv_iload_n (pc := 125) hx hb dX5_joined_125 rfl (lv_at hl 2 rfl) ?_
    refine b_icmp_le (pc := 126) (tgt := 133) hx hb rfl rfl  dX5_joined_126 (by decide) (fun c_8 => ?_) (fun c_8 => ?_)
    ·
      refine lv_iconst (pc := 133) (v := 0) hx hb dX5_joined_133 (by decide) ?_
      exact hret 0 ((fun _ => 0), (fun _ => (fun _ => 0)), (fun _ => (fun _ => 0)), (fun _ => 0), (fun _ => 0)) dX5_joined_134 trivial (g_psub (wc := []) hP [] rfl) (hD.sub (ws' := []) [] (by decide) rfl) hS
    ·
      refine lv_iconst (pc := 129) (v := 1) hx hb dX5_joined_129 (by decide) ?_
      refine lv_goto (pc := 130) (tgt := 134) hx hb dX5_joined_130 (by decide) ?_
      exact hret 1 ((fun _ => 0), (fun _ => (fun _ => 0)), (fun _ => (fun _ => 0)), (fun _ => 0), (fun _ => 0)) dX5_joined_134 trivial (g_psub (wc := []) hP [] rfl) (hD.sub (ws' := []) [] (by decide) rfl) hS
  by_cases h_9 : x0.toInt = (-11)
  ·
    refine lv_tableIn (pc := 1) (off := 112) (tgt := 113) hx hb dX5_joined_1 (by rw [h_9]; decide) (by rw [h_9]; decide) (by rw [h_9]; decide +kernel) (by decide) ?_
    refine lv_iload_n (pc := 113) hx hb dX5_joined_113 rfl (lv_at hl 1 rfl) ?_
    refine lv_iload_n (pc := 114) hx hb dX5_joined_114 rfl (lv_at hl 2 rfl) ?_
    refine b_icmp_ge (pc := 115) (tgt := 122) hx hb rfl rfl  dX5_joined_115 (by decide) (fun c_10 => ?_) (fun c_10 => ?_)
    ·
      refine lv_iconst (pc := 122) (v := 0) hx hb dX5_joined_122 (by decide) ?_
      exact hret 0 ((fun _ => 0), (fun _ => (fun _ => 0)), (fun _ => (fun _ => 0)), (fun _ => 0), (fun _ => 0)) dX5_joined_123 trivial (g_psub (wc := []) hP [] rfl) (hD.sub (ws' := []) [] (by decide) rfl) hS
    ·
      refine lv_iconst (pc := 118) (v := 1) hx hb dX5_joined_118 (by decide) ?_
      refine lv_goto (pc := 119) (tgt := 123) hx hb dX5_joined_119 (by decide) ?_
      exact hret 1 ((fun _ => 0), (fun _ => (fun _ => 0)), (fun _ => (fun _ => 0)), (fun _ => 0), (fun _ => 0)) dX5_joined_123 trivial (g_psub (wc := []) hP [] rfl) (hD.sub (ws' := []) [] (by decide) rfl) hS
  by_cases h_11 : x0.toInt = (-10)
  ·
    refine lv_tableIn (pc := 1) (off := 106) (tgt := 107) hx hb dX5_joined_1 (by rw [h_11]; decide) (by rw [h_11]; decide) (by rw [h_11]; decide +kernel) (by decide) ?_
    refine lv_iload_n (pc := 107) hx hb dX5_joined_107 rfl (lv_at hl 1 rfl) ?_
    refine lv_iload_n (pc := 108) hx hb dX5_joined_108 rfl (lv_at hl 2 rfl) ?_
    refine va_mmax (pc := 109) hx hb (hml.trans hl.1.symm) hown (hts _ tw_1360) (hts _ tw_885) (hts _ tw_19) (hts _ tw_886) (Nat.le_of_ble_eq_true rfl) (Nat.le_of_ble_eq_true rfl) (Nat.le_of_ble_eq_true rfl) (Nat.le_of_ble_eq_true rfl) dX5_joined_109 ?_
    refine lv_topi (fun x_12 ex_12 => ?_)
    have ex_12 := n_max rfl rfl ex_12
    have rx_12 := n_rng x_12
    exact hret x_12 ((fun _ => 0), (fun _ => (fun _ => 0)), (fun _ => (fun _ => 0)), (fun _ => 0), (fun _ => 0)) dX5_joined_112 trivial (g_psub (wc := []) hP [] rfl) (hD.sub (ws' := []) [] (by decide) rfl) hS
  by_cases h_13 : x0.toInt = (-9)
  ·
    refine lv_tableIn (pc := 1) (off := 100) (tgt := 101) hx hb dX5_joined_1 (by rw [h_13]; decide) (by rw [h_13]; decide) (by rw [h_13]; decide +kernel) (by decide) ?_
    refine lv_iload_n (pc := 101) hx hb dX5_joined_101 rfl (lv_at hl 1 rfl) ?_
    refine lv_iload_n (pc := 102) hx hb dX5_joined_102 rfl (lv_at hl 2 rfl) ?_
    refine va_mmin (pc := 103) hx hb (hml.trans hl.1.symm) hown (hts _ tw_1357) (hts _ tw_1358) (hts _ tw_19) (hts _ tw_1359) (Nat.le_of_ble_eq_true rfl) (Nat.le_of_ble_eq_true rfl) (Nat.le_of_ble_eq_true rfl) (Nat.le_of_ble_eq_true rfl) dX5_joined_103 ?_
    refine lv_topi (fun x_14 ex_14 => ?_)
    have ex_14 := n_min rfl rfl ex_14
    have rx_14 := n_rng x_14
    exact hret x_14 ((fun _ => 0), (fun _ => (fun _ => 0)), (fun _ => (fun _ => 0)), (fun _ => 0), (fun _ => 0)) dX5_joined_106 trivial (g_psub (wc := []) hP [] rfl) (hD.sub (ws' := []) [] (by decide) rfl) hS
  by_cases h_15 : x0.toInt = (-8)
  ·
    refine lv_tableIn (pc := 1) (off := 86) (tgt := 87) hx hb dX5_joined_1 (by rw [h_15]; decide) (by rw [h_15]; decide) (by rw [h_15]; decide +kernel) (by decide) ?_
    refine lv_iload_n (pc := 87) hx hb dX5_joined_87 rfl (lv_at hl 2 rfl) ?_
    refine b_if_ne (pc := 88) (tgt := 95) hx hb rfl  dX5_joined_88 (by decide) (fun c_16 => ?_) (fun c_16 => ?_)
    ·
      refine lv_iload_n (pc := 95) hx hb dX5_joined_95 rfl (lv_at hl 1 rfl) ?_
      refine lv_iload_n (pc := 96) hx hb dX5_joined_96 rfl (lv_at hl 2 rfl) ?_
      refine va_fdi (pc := 97) hx hb (hml.trans hl.1.symm) hown (hts _ tw_1354) (hts _ tw_1355) (hts _ tw_19) (hts _ tw_1356) (Nat.le_of_ble_eq_true rfl) (Nat.le_of_ble_eq_true rfl) (Nat.le_of_ble_eq_true rfl) (Nat.le_of_ble_eq_true rfl) (fun h => by have q := congrArg Int32.toInt h; have k := tI_0; omega) dX5_joined_97 (fun x_17 => ?_)
      have rx_17 := n_rng x_17
      exact hret x_17 ((fun _ => 0), (fun _ => (fun _ => 0)), (fun _ => (fun _ => 0)), (fun _ => 0), (fun _ => 0)) dX5_joined_100 trivial (g_psub (wc := []) hP [] rfl) (hD.sub (ws' := []) [] (by decide) rfl) hS
    ·
      refine lv_iconst (pc := 91) (v := 0) hx hb dX5_joined_91 (by decide) ?_
      refine lv_goto (pc := 92) (tgt := 100) hx hb dX5_joined_92 (by decide) ?_
      exact hret 0 ((fun _ => 0), (fun _ => (fun _ => 0)), (fun _ => (fun _ => 0)), (fun _ => 0), (fun _ => 0)) dX5_joined_100 trivial (g_psub (wc := []) hP [] rfl) (hD.sub (ws' := []) [] (by decide) rfl) hS
  by_cases h_18 : x0.toInt = (-7)
  ·
    refine lv_tableIn (pc := 1) (off := 77) (tgt := 78) hx hb dX5_joined_1 (by rw [h_18]; decide) (by rw [h_18]; decide) (by rw [h_18]; decide +kernel) (by decide) ?_
    refine lv_iload_n (pc := 78) hx hb dX5_joined_78 rfl (lv_at hl 1 rfl) ?_
    refine b_i2l (pc := 79) hx hb rfl dX5_joined_79 (fun y_19 ey_19 => ?_)
    have ry_19 := n_rng x1
    refine lv_iload_n (pc := 80) hx hb dX5_joined_80 rfl (lv_at hl 2 rfl) ?_
    refine b_i2l (pc := 81) hx hb rfl dX5_joined_81 (fun y_20 ey_20 => ?_)
    have ry_20 := n_rng x2
    refine lv_lmul (pc := 82) hx hb dX5_joined_82 ?_
    refine lv_topl (fun y_21 _ => ?_)
    have ry_21 := n_rngL y_21
    refine gc_i (pc := 83) (wc := []) (wr := []) hP hD hS hA [] [] rfl rfl (by decide) (by decide) (by decide) (fun hPc hDc => va_runS (As := [.long y_21]) (rest := []) ⟨hx, hb, hml, hown, hts⟩ (k_X5_bounded l D cB cC cI cJ _ y_21) ⟨gcwB hts tw_1349 tw_6 tw_1347 hd_yX5_bounded ⟨Nat.le_of_ble_eq_true rfl, Nat.le_of_ble_eq_true rfl⟩, hts _ tw_1348⟩ (gpreS hPc hK hDc hN) rfl rfl hl.1 rfl (lv_room (Nat.le_of_ble_eq_true rfl)) dX5_joined_83 ⟨Nat.le_of_ble_eq_true rfl, Nat.le_of_ble_eq_true rfl⟩) (fun r_23 u_22 H locs hw_24 hP hD hS => ?_)
    have hP : va_P D gcl [] H := hP
    have hD : va_D A [] := hD
    have hw_25 : ((((-2147483648) ≤ r_23.toInt ∧ r_23.toInt ≤ 2147483647))) := hw_24
    have rr_23 := n_rng r_23
    exact hret r_23 ((fun _ => 0), (fun _ => (fun _ => 0)), (fun _ => (fun _ => 0)), (fun _ => 0), (fun _ => 0)) dX5_joined_86 trivial (g_psub (wc := []) hP [] rfl) (hD.sub (ws' := []) [] (by decide) rfl) hS
  by_cases h_26 : x0.toInt = (-6)
  ·
    refine lv_tableIn (pc := 1) (off := 68) (tgt := 69) hx hb dX5_joined_1 (by rw [h_26]; decide) (by rw [h_26]; decide) (by rw [h_26]; decide +kernel) (by decide) ?_
    refine lv_iload_n (pc := 69) hx hb dX5_joined_69 rfl (lv_at hl 1 rfl) ?_
    refine b_i2l (pc := 70) hx hb rfl dX5_joined_70 (fun y_27 ey_27 => ?_)
    have ry_27 := n_rng x1
    refine lv_iload_n (pc := 71) hx hb dX5_joined_71 rfl (lv_at hl 2 rfl) ?_
    refine b_i2l (pc := 72) hx hb rfl dX5_joined_72 (fun y_28 ey_28 => ?_)
    have ry_28 := n_rng x2
    refine b_lsub (pc := 73) hx hb rfl rfl (by omega) (by omega) dX5_joined_73 (fun y_29 ey_29 => ?_)
    refine gc_i (pc := 74) (wc := []) (wr := []) hP hD hS hA [] [] rfl rfl (by decide) (by decide) (by decide) (fun hPc hDc => va_runS (As := [.long y_29]) (rest := []) ⟨hx, hb, hml, hown, hts⟩ (k_X5_bounded l D cB cC cI cJ _ y_29) ⟨gcwB hts tw_1349 tw_6 tw_1347 hd_yX5_bounded ⟨Nat.le_of_ble_eq_true rfl, Nat.le_of_ble_eq_true rfl⟩, hts _ tw_1348⟩ (gpreS hPc hK hDc hN) rfl rfl hl.1 rfl (lv_room (Nat.le_of_ble_eq_true rfl)) dX5_joined_74 ⟨Nat.le_of_ble_eq_true rfl, Nat.le_of_ble_eq_true rfl⟩) (fun r_31 u_30 H locs hw_32 hP hD hS => ?_)
    have hP : va_P D gcl [] H := hP
    have hD : va_D A [] := hD
    have hw_33 : ((((-2147483648) ≤ r_31.toInt ∧ r_31.toInt ≤ 2147483647))) := hw_32
    have rr_31 := n_rng r_31
    exact hret r_31 ((fun _ => 0), (fun _ => (fun _ => 0)), (fun _ => (fun _ => 0)), (fun _ => 0), (fun _ => 0)) dX5_joined_77 trivial (g_psub (wc := []) hP [] rfl) (hD.sub (ws' := []) [] (by decide) rfl) hS
  by_cases h_34 : x0.toInt = (-5)
  ·
    refine lv_tableIn (pc := 1) (off := 59) (tgt := 60) hx hb dX5_joined_1 (by rw [h_34]; decide) (by rw [h_34]; decide) (by rw [h_34]; decide +kernel) (by decide) ?_
    refine lv_iload_n (pc := 60) hx hb dX5_joined_60 rfl (lv_at hl 1 rfl) ?_
    refine b_i2l (pc := 61) hx hb rfl dX5_joined_61 (fun y_35 ey_35 => ?_)
    have ry_35 := n_rng x1
    refine lv_iload_n (pc := 62) hx hb dX5_joined_62 rfl (lv_at hl 2 rfl) ?_
    refine b_i2l (pc := 63) hx hb rfl dX5_joined_63 (fun y_36 ey_36 => ?_)
    have ry_36 := n_rng x2
    refine b_ladd (pc := 64) hx hb rfl rfl (by omega) (by omega) dX5_joined_64 (fun y_37 ey_37 => ?_)
    refine gc_i (pc := 65) (wc := []) (wr := []) hP hD hS hA [] [] rfl rfl (by decide) (by decide) (by decide) (fun hPc hDc => va_runS (As := [.long y_37]) (rest := []) ⟨hx, hb, hml, hown, hts⟩ (k_X5_bounded l D cB cC cI cJ _ y_37) ⟨gcwB hts tw_1349 tw_6 tw_1347 hd_yX5_bounded ⟨Nat.le_of_ble_eq_true rfl, Nat.le_of_ble_eq_true rfl⟩, hts _ tw_1348⟩ (gpreS hPc hK hDc hN) rfl rfl hl.1 rfl (lv_room (Nat.le_of_ble_eq_true rfl)) dX5_joined_65 ⟨Nat.le_of_ble_eq_true rfl, Nat.le_of_ble_eq_true rfl⟩) (fun r_39 u_38 H locs hw_40 hP hD hS => ?_)
    have hP : va_P D gcl [] H := hP
    have hD : va_D A [] := hD
    have hw_41 : ((((-2147483648) ≤ r_39.toInt ∧ r_39.toInt ≤ 2147483647))) := hw_40
    have rr_39 := n_rng r_39
    exact hret r_39 ((fun _ => 0), (fun _ => (fun _ => 0)), (fun _ => (fun _ => 0)), (fun _ => 0), (fun _ => 0)) dX5_joined_68 trivial (g_psub (wc := []) hP [] rfl) (hD.sub (ws' := []) [] (by decide) rfl) hS
  refine lv_tableOut (pc := 1) (tgt := 154) hx hb dX5_joined_1 (by omega) (by decide) ?_
  refine lv_iconst (pc := 154) (v := 0) hx hb dX5_joined_154 (by decide) ?_
  exact hret 0 ((fun _ => 0), (fun _ => (fun _ => 0)), (fun _ => (fun _ => 0)), (fun _ => 0), (fun _ => 0)) dX5_joined_155 trivial (g_psub (wc := []) hP [] rfl) (hD.sub (ws' := []) [] (by decide) rfl) hS
