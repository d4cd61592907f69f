set_option maxHeartbeats 4000000 in
set_option maxRecDepth 100000 in
theorem k_X8_sentTo (l : Launch) (D : va_G) (cB cC cI cJ : ClassId) (sz : Nat) (a0 a1 a2 : Nat) (x0 x1 : Int32) (f0 f1 : Nat → Int32) (hp1 : (0 ≤ x0.toInt ∧ x0.toInt ≤ 5)) (hp3 : ((-1) ≤ x1.toInt ∧ x1.toInt ≤ 5)) : Met l yX8_sentTo (.code yX8_sentTo cX8_sentTo 6 (some .int) :: lw_gd) ({ frames := 1, cells := 0, slots := 0, locals := 22 }) (gPre D [(cB, .byte), (cC, .char), (cI, .int), (cJ, .long)] [.ref a0, .int x0, .ref a1, .int x1] [(a0, .inr (8, [.ref a2])), (a2, .inl (cI, 30, .inl f0)), (a1, .inl (cI, 5, .inl f1))] sz) (va_Qi (fun r u => ((((-2147483648) ≤ r.toInt ∧ r.toInt ≤ 2147483647) ∧ ((-1) ≤ x1.toInt ∧ x1.toInt ≤ 5)))) (gB D (va_A [(a0, .inr (8, [.ref a2])), (a2, .inl (cI, 30, .inl f0)), (a1, .inl (cI, 5, .inl f1))] sz) (fun u : gEx => [(a0, .inr (8, [.ref a2])), (a2, .inl (cI, 30, .inl f0)), (a1, .inl (cI, 5, .inl f1))])) (va_A [(a0, .inr (8, [.ref a2])), (a2, .inl (cI, 30, .inl f0)), (a1, .inl (cI, 5, .inl f1))] sz)) 0 0 (va_A [(a0, .inr (8, [.ref a2])), (a2, .inl (cI, 30, .inl f0)), (a1, .inl (cI, 5, .inl f1))] sz) := by
  refine gOf_i (by decide +kernel) (Nat.le_of_ble_eq_true rfl) ?_
  intro p e s m args below meth c ls A Q hx hb hts hown hml hN hK hP hD hA hl hret
  replace hown : s.vm.findClass RX8 = some m.cls := hown
  have hS : va_S A s.heap s.heap [] := va_S.rf
  replace hP : va_P D gcl [(a0, .inr (8, [.ref a2])), (a2, .inl (cI, 30, .inl f0)), (a1, .inl (cI, 5, .inl f1))] s.heap := hP
  replace hl : lv_has ls 6 [(0, .ref a0), (1, .int x0), (2, .ref a1), (3, .int x1)] := hl
  refine lv_iconst (pc := 0) (v := 0) hx hb dX8_sentTo_0 (by decide) ?_
  refine lv_istore (pc := 1) (lv' := [(4, .int 0), (0, .ref a0), (1, .int x0), (2, .ref a1), (3, .int x1)]) hx hb dX8_sentTo_1 hl (by decide) rfl (fun ls hl => ?_)
  refine lv_iconst (pc := 3) (v := 0) hx hb dX8_sentTo_3 (by decide) ?_
  refine lv_istore (pc := 4) (lv' := [(5, .int 0), (4, .int 0), (0, .ref a0), (1, .int x0), (2, .ref a1), (3, .int x1)]) hx hb dX8_sentTo_4 hl (by decide) rfl (fun ls hl => ?_)
  have lp_5 : ∀ (n : Nat) (x_1 x_3 : Int32) (H : Heap) (locs : List Loc) (ls : Array Slot), (0 ≤ x_1.toInt ∧ x_1.toInt ≤ 2147483647) → (2147483647 - x_1.toInt).toNat < n → va_P D gcl [(a0, .inr (8, [.ref a2])), (a2, .inl (cI, 30, .inl f0)), (a1, .inl (cI, 5, .inl f1))] H → va_D A [(a0, .inr (8, [.ref a2])), (a2, .inl (cI, 30, .inl f0)), (a1, .inl (cI, 5, .inl f1))] → va_S A s.heap H locs → lv_has ls 6 [(5, .int x_1), (4, .int x_3), (0, .ref a0), (1, .int x0), (2, .ref a1), (3, .int x1)] → W p l e ({ frames := 1, cells := 0, slots := 0, locals := 22 }) s m args below meth c H locs 0 0 Q (F0 m 6 ls []) := by
    intro n
    induction n with
    | zero => intro x_1 x_3 H locs ls hi_2 hmu; exact absurd hmu (Nat.not_lt_zero _)
    | succ n ih_lp_5 =>
      intro x_1 x_3 H locs ls hi_2 hmu_lp_5 hP hD hS hl
      have hi_4 := n_rng x_3
      refine lv_iload (pc := 6) hx hb dX8_sentTo_6 (lv_at hl 0 rfl) ?_
      refine lv_iload_n (pc := 8) hx hb dX8_sentTo_8 rfl (lv_at hl 5 rfl) ?_
      refine b_icmp_ge (pc := 9) (tgt := 35) hx hb rfl rfl  dX8_sentTo_9 (by decide) (fun c_6 => ?_) (fun c_6 => ?_)
      ·
        refine lv_iload (pc := 35) hx hb dX8_sentTo_35 (lv_at hl 1 rfl) ?_
        exact hret x_3 ((fun _ => 0), (fun _ => (fun _ => 0)), (fun _ => (fun _ => 0)), (fun _ => 0), (fun _ => 0)) dX8_sentTo_37 (show ((((-2147483648) ≤ x_3.toInt ∧ x_3.toInt ≤ 2147483647) ∧ ((-1) ≤ x1.toInt ∧ x1.toInt ≤ 5))) by (first | omega | (unfold zBd at *; omega))) (g_psub (wc := [(a0, .inr (8, [.ref a2])), (a2, .inl (cI, 30, .inl f0)), (a1, .inl (cI, 5, .inl f1))]) hP [0, 1, 2] rfl) (hD.sub (ws' := [(a0, .inr (8, [.ref a2])), (a2, .inl (cI, 30, .inl f0)), (a1, .inl (cI, 5, .inl f1))]) [0, 1, 2] (by decide) rfl) hS
      ·
        refine lv_iload (pc := 12) hx hb dX8_sentTo_12 (lv_at hl 1 rfl) ?_
        refine lv_aload_n (pc := 14) hx hb dX8_sentTo_14 rfl (lv_at hl 2 rfl) ?_
        refine lv_iload_n (pc := 15) hx hb dX8_sentTo_15 rfl (lv_at hl 3 rfl) ?_
        refine lv_iload (pc := 16) hx hb dX8_sentTo_16 (lv_at hl 0 rfl) ?_
        refine gc_i (pc := 18) (wc := [(a0, .inr (8, [.ref a2])), (a2, .inl (cI, 30, .inl f0))]) (wr := [(a1, .inl (cI, 5, .inl f1))]) hP hD hS hA [0, 1] [2] rfl rfl (by decide) (by decide) (by decide) (fun hPc hDc => va_runV (As := [.int x0, .int x_1]) (rest := [.int x_3]) ⟨hx, hb, hml, hown, hts⟩ (k_X8_at l D cB cC cI cJ _ a0 a2 x0 x_1 f0 hp1 (by  (first | omega | (unfold zBd at *; omega)))) ⟨gcwB hts tw_791 tw_5 tw_800 hd_yX8_at ⟨Nat.le_of_ble_eq_true rfl, Nat.le_of_ble_eq_true rfl⟩, hts _ tw_789, hts _ tw_790⟩ ⟨gblind, va_recv hK hPc (ci := 8) (q0 := 0) rfl rfl, (gpreS hPc hK hDc hN).2⟩ rfl rfl hl.1 rfl (lv_room (Nat.le_of_ble_eq_true rfl)) dX8_sentTo_18 ⟨Nat.le_of_ble_eq_true rfl, Nat.le_of_ble_eq_true rfl⟩) (fun r_8 u_7 H locs hw_9 hP hD hS => ?_)
        replace hP : va_P D gcl [(a1, .inl (cI, 5, .inl f1)), (a0, .inr (8, [.ref a2])), (a2, .inl (cI, 30, .inl f0))] H := hP
        replace hD : va_D A [(a1, .inl (cI, 5, .inl f1)), (a0, .inr (8, [.ref a2])), (a2, .inl (cI, 30, .inl f0))] := hD
        have hw_10 : ((((-2147483648) ≤ r_8.toInt ∧ r_8.toInt ≤ 2147483647))) := hw_9
        have rr_8 : zBd r_8.toInt (-2147483648) 2147483647 := n_rng r_8
        refine lv_aload_n (pc := 21) hx hb dX8_sentTo_21 rfl (lv_at hl 4 rfl) ?_
        refine lv_iload (pc := 22) hx hb dX8_sentTo_22 (lv_at hl 0 rfl) ?_
        refine va_iald (pc := 24) hx hb hK hP 0 2 rfl rfl (n_in rfl (by (first | omega | (unfold zBd at *; omega))) (by (first | omega | (unfold zBd at *; omega)))) dX8_sentTo_24 ?_
        refine lv_topi (fun x_11 ex_11 => ?_)
        have rx_11 : zBd x_11.toInt (-2147483648) 2147483647 := n_rng x_11
        refine lv_imul (pc := 25) hx hb dX8_sentTo_25 ?_
        refine lv_topi (fun x_12 _ => ?_)
        have rx_12 : zBd x_12.toInt (-2147483648) 2147483647 := n_rng x_12
        refine lv_iadd (pc := 26) hx hb dX8_sentTo_26 ?_
        refine lv_topi (fun x_13 _ => ?_)
        have rx_13 : zBd x_13.toInt (-2147483648) 2147483647 := n_rng x_13
        refine lv_istore (pc := 27) (lv' := [(4, .int x_13), (5, .int x_1), (0, .ref a0), (1, .int x0), (2, .ref a1), (3, .int x1)]) hx hb dX8_sentTo_27 hl (by decide) rfl (fun ls hl => ?_)
        refine b_iinc (pc := 29) hx hb dX8_sentTo_29 hl (k := 1) rfl rfl tI_1 (by (first | omega | (unfold zBd at *; omega))) (by (first | omega | (unfold zBd at *; omega))) (by decide) (fun x_14 ex_14 ls hl => ?_)
        replace hl : lv_has ls 6 [(5, .int x_14), (4, .int x_13), (0, .ref a0), (1, .int x0), (2, .ref a1), (3, .int x1)] := hl
        refine lv_goto (pc := 32) (tgt := 6) hx hb dX8_sentTo_32 (by decide) ?_
        exact ih_lp_5 x_14 x_13 _ _ ls (by (first | omega | (unfold zBd at *; omega))) (by (first | omega | (unfold zBd at *; omega))) (g_psub hP [1, 2, 0] rfl) (hD.sub [1, 2, 0] (by decide) rfl) hS (lv_sub hl [0, 1, 2, 3, 4, 5] rfl)
  exact lp_5 _ 0 0 _ _ ls (n_c tI_0 (by decide)) (Nat.lt_succ_self _) hP hD hS (lv_sub hl [0, 1, 2, 3, 4, 5] rfl)
set_option maxHeartbeats 4000000 in
set_option maxRecDepth 100000 in
theorem k_X8_takeAway (l : Launch) (D : va_G) (cB cC cI cJ : ClassId) (sz : Nat) (a0 a1 : Nat) (x0 x1 x2 : Int32) (f0 : Nat → Int32) (hp1 : (0 ≤ x0.toInt ∧ x0.toInt ≤ 4)) (hp2 : (0 ≤ x1.toInt ∧ x1.toInt ≤ 4)) : Met l yX8_takeAway (.code yX8_takeAway cX8_takeAway 5 none :: lw_gd) ({ frames := 1, cells := 0, slots := 0, locals := 23 }) (gPre D [(cB, .byte), (cC, .char), (cI, .int), (cJ, .long)] [.ref a0, .int x0, .int x1, .int x2] [(a0, .inr (8, [.ref a1])), (a1, .inl (cI, 30, .inl f0))] sz) (va_Qv (fun u => True) (gB D (va_A [(a0, .inr (8, [.ref a1])), (a1, .inl (cI, 30, .inl f0))] sz) (fun u : gEx => [(a0, .inr (8, [.ref a1])), (a1, .inl (cI, 30, .inl (u.2.1 0)))])) (va_A [(a0, .inr (8, [.ref a1])), (a1, .inl (cI, 30, .inl f0))] sz)) 0 0 (va_A [(a0, .inr (8, [.ref a1])), (a1, .inl (cI, 30, .inl f0))] sz) := by
  refine gOf_v (by decide +kernel) (Nat.le_of_ble_eq_true rfl) ?_
  intro p e s m args below meth c ls A Q hx hb hts hown hml hN hK hP hD hA hl hret
  replace hown : s.vm.findClass RX8 = some m.cls := hown
  have hS : va_S A s.heap s.heap [] := va_S.rf
  replace hP : va_P D gcl [(a0, .inr (8, [.ref a1])), (a1, .inl (cI, 30, .inl f0))] s.heap := hP
  replace hl : lv_has ls 5 [(0, .ref a0), (1, .int x0), (2, .int x1), (3, .int x2)] := hl
  have rx2 : zBd x2.toInt (-2147483648) 2147483647 := n_rng x2
  refine lv_iconst (pc := 0) (v := 0) hx hb dX8_takeAway_0 (by decide) ?_
  refine lv_istore (pc := 1) (lv' := [(4, .int 0), (0, .ref a0), (1, .int x0), (2, .int x1), (3, .int x2)]) hx hb dX8_takeAway_1 hl (by decide) rfl (fun ls hl => ?_)
  have lp_4 : ∀ (n : Nat) (x_1 : Int32) (f_3 : Nat → Int32) (H : Heap) (locs : List Loc) (ls : Array Slot), (0 ≤ x_1.toInt ∧ x_1.toInt ≤ 2147483647) → (2147483647 - x_1.toInt).toNat < n → va_P D gcl [(a0, .inr (8, [.ref a1])), (a1, .inl (cI, 30, .inl f_3))] H → va_D A [(a0, .inr (8, [.ref a1])), (a1, .inl (cI, 30, .inl f_3))] → va_S A s.heap H locs → lv_has ls 5 [(4, .int x_1), (0, .ref a0), (1, .int x0), (2, .int x1), (3, .int x2)] → W p l e ({ frames := 1, cells := 0, slots := 0, locals := 23 }) s m args below meth c H locs 0 0 Q (F0 m 3 ls []) := by
    intro n
    induction n with
    | zero => intro x_1 f_3 H locs ls hi_2 hmu; exact absurd hmu (Nat.not_lt_zero _)
    | succ n ih_lp_4 =>
      intro x_1 f_3 H locs ls hi_2 hmu_lp_4 hP hD hS hl
      refine lv_iload (pc := 3) hx hb dX8_takeAway_3 (lv_at hl 0 rfl) ?_
      refine lv_bipush (pc := 5) (v := 6) hx hb dX8_takeAway_5 (by decide) ?_
      refine b_icmp_ge (pc := 7) (tgt := 40) hx hb rfl tI_6  dX8_takeAway_7 (by decide) (fun c_5 => ?_) (fun c_5 => ?_)
      ·
        exact hret ((fun _ => 0), (fun k => [f_3].getD k (fun _ => 0)), (fun _ => (fun _ => 0)), (fun _ => 0), (fun _ => 0)) dX8_takeAway_40 trivial (g_psub (wc := [(a0, .inr (8, [.ref a1])), (a1, .inl (cI, 30, .inl f_3))]) hP [0, 1] rfl) (hD.sub (ws' := [(a0, .inr (8, [.ref a1])), (a1, .inl (cI, 30, .inl f_3))]) [0, 1] (by decide) rfl) hS
      ·
        refine lv_aload_n (pc := 10) hx hb dX8_takeAway_10 rfl (lv_at hl 1 rfl) ?_
        refine lv_iload (pc := 11) hx hb dX8_takeAway_11 (lv_at hl 0 rfl) ?_
        refine lv_iload_n (pc := 13) hx hb dX8_takeAway_13 rfl (lv_at hl 2 rfl) ?_
        refine lv_aload_n (pc := 14) hx hb dX8_takeAway_14 rfl (lv_at hl 1 rfl) ?_
        refine lv_iload (pc := 15) hx hb dX8_takeAway_15 (lv_at hl 0 rfl) ?_
        refine lv_iload_n (pc := 17) hx hb dX8_takeAway_17 rfl (lv_at hl 2 rfl) ?_
        refine gc_i (pc := 18) (wc := [(a0, .inr (8, [.ref a1])), (a1, .inl (cI, 30, .inl f_3))]) (wr := []) hP hD hS hA [0, 1] [] rfl rfl (by decide) (by decide) (by decide) (fun hPc hDc => va_runV (As := [.int x_1, .int x0]) (rest := [.int x0, .int x_1, .ref a0]) ⟨hx, hb, hml, hown, hts⟩ (k_X8_at l D cB cC cI cJ _ a0 a1 x_1 x0 f_3 (by  (first | omega | (unfold zBd at *; omega))) hp1) ⟨gcwB hts tw_791 tw_5 tw_800 hd_yX8_at ⟨Nat.le_of_ble_eq_true rfl, Nat.le_of_ble_eq_true rfl⟩, hts _ tw_789, hts _ tw_790⟩ ⟨gblind, va_recv hK hPc (ci := 8) (q0 := 0) rfl rfl, (gpreS hPc hK hDc hN).2⟩ rfl rfl hl.1 rfl (lv_room (Nat.le_of_ble_eq_true rfl)) dX8_takeAway_18 ⟨Nat.le_of_ble_eq_true rfl, Nat.le_of_ble_eq_true rfl⟩) (fun r_7 u_6 H locs hw_8 hP hD hS => ?_)
        replace hP : va_P D gcl [(a0, .inr (8, [.ref a1])), (a1, .inl (cI, 30, .inl f_3))] H := hP
        replace hD : va_D A [(a0, .inr (8, [.ref a1])), (a1, .inl (cI, 30, .inl f_3))] := hD
        have hw_9 : ((((-2147483648) ≤ r_7.toInt ∧ r_7.toInt ≤ 2147483647))) := hw_8
        have rr_7 : zBd r_7.toInt (-2147483648) 2147483647 := n_rng r_7
        refine lv_iload_n (pc := 21) hx hb dX8_takeAway_21 rfl (lv_at hl 4 rfl) ?_
        refine lv_aload_n (pc := 22) hx hb dX8_takeAway_22 rfl (lv_at hl 1 rfl) ?_
        refine lv_iload (pc := 23) hx hb dX8_takeAway_23 (lv_at hl 0 rfl) ?_
        refine lv_iload_n (pc := 25) hx hb dX8_takeAway_25 rfl (lv_at hl 3 rfl) ?_
        refine gc_i (pc := 26) (wc := [(a0, .inr (8, [.ref a1])), (a1, .inl (cI, 30, .inl f_3))]) (wr := []) hP hD hS hA [0, 1] [] rfl rfl (by decide) (by decide) (by decide) (fun hPc hDc => va_runV (As := [.int x_1, .int x1]) (rest := [.int x2, .int r_7, .int x0, .int x_1, .ref a0]) ⟨hx, hb, hml, hown, hts⟩ (k_X8_at l D cB cC cI cJ _ a0 a1 x_1 x1 f_3 (by  (first | omega | (unfold zBd at *; omega))) hp2) ⟨gcwB hts tw_791 tw_5 tw_800 hd_yX8_at ⟨Nat.le_of_ble_eq_true rfl, Nat.le_of_ble_eq_true rfl⟩, hts _ tw_789, hts _ tw_790⟩ ⟨gblind, va_recv hK hPc (ci := 8) (q0 := 0) rfl rfl, (gpreS hPc hK hDc hN).2⟩ rfl rfl hl.1 rfl (lv_room (Nat.le_of_ble_eq_true rfl)) dX8_takeAway_26 ⟨Nat.le_of_ble_eq_true rfl, Nat.le_of_ble_eq_true rfl⟩) (fun r_11 u_10 H locs hw_12 hP hD hS => ?_)
        replace hP : va_P D gcl [(a0, .inr (8, [.ref a1])), (a1, .inl (cI, 30, .inl f_3))] H := hP
        replace hD : va_D A [(a0, .inr (8, [.ref a1])), (a1, .inl (cI, 30, .inl f_3))] := hD
        have hw_13 : ((((-2147483648) ≤ r_11.toInt ∧ r_11.toInt ≤ 2147483647))) := hw_12
        have rr_11 : zBd r_11.toInt (-2147483648) 2147483647 := n_rng r_11
        refine lv_imul (pc := 29) hx hb dX8_takeAway_29 ?_
        refine lv_topi (fun x_14 _ => ?_)
        have rx_14 : zBd x_14.toInt (-2147483648) 2147483647 := n_rng x_14
        refine lv_isub (pc := 30) hx hb dX8_takeAway_30 ?_
        refine lv_topi (fun x_15 _ => ?_)
        have rx_15 : zBd x_15.toInt (-2147483648) 2147483647 := n_rng x_15
        refine gc_v (pc := 31) (wc := [(a0, .inr (8, [.ref a1])), (a1, .inl (cI, 30, .inl f_3))]) (wr := []) hP hD hS hA [0, 1] [] rfl rfl (by decide) (by decide) (by decide) (fun hPc hDc => va_runV (As := [.int x_1, .int x0, .int x_15]) (rest := []) ⟨hx, hb, hml, hown, hts⟩ (k_X8_setAt l D cB cC cI cJ _ a0 a1 x_1 x0 x_15 f_3 (by  (first | omega | (unfold zBd at *; omega))) hp1) ⟨gcwB hts tw_637 tw_5 tw_1066 hd_yX8_setAt ⟨Nat.le_of_ble_eq_true rfl, Nat.le_of_ble_eq_true rfl⟩, hts _ tw_635, hts _ tw_636⟩ ⟨gblind, va_recv hK hPc (ci := 8) (q0 := 0) rfl rfl, (gpreS hPc hK hDc hN).2⟩ rfl rfl hl.1 rfl (lv_room (Nat.le_of_ble_eq_true rfl)) dX8_takeAway_31 ⟨Nat.le_of_ble_eq_true rfl, Nat.le_of_ble_eq_true rfl⟩) (fun u_16 H locs hw_18 hP hD hS => ?_)
        replace hP : va_P D gcl [(a0, .inr (8, [.ref a1])), (a1, .inl (cI, 30, .inl (u_16.2.1 0)))] H := hP
        replace hD : va_D A [(a0, .inr (8, [.ref a1])), (a1, .inl (cI, 30, .inl (u_16.2.1 0)))] := hD
        refine b_iinc (pc := 34) hx hb dX8_takeAway_34 hl (k := 0) rfl rfl tI_1 (by (first | omega | (unfold zBd at *; omega))) (by (first | omega | (unfold zBd at *; omega))) (by decide) (fun x_19 ex_19 ls hl => ?_)
        replace hl : lv_has ls 5 [(4, .int x_19), (0, .ref a0), (1, .int x0), (2, .int x1), (3, .int x2)] := hl
        refine lv_goto (pc := 37) (tgt := 3) hx hb dX8_takeAway_37 (by decide) ?_
        exact ih_lp_4 x_19 (u_16.2.1 0) _ _ ls (by (first | omega | (unfold zBd at *; omega))) (by (first | omega | (unfold zBd at *; omega))) hP hD hS (lv_sub hl [0, 1, 2, 3, 4] rfl)
  exact lp_4 _ 0 f0 _ _ ls (n_c tI_0 (by decide)) (Nat.lt_succ_self _) hP hD hS (lv_sub hl [0, 1, 2, 3, 4] rfl)
set_option maxHeartbeats 4000000 in
set_option maxRecDepth 100000 in
theorem k_X8_clashOf (l : Launch) (D : va_G) (cB cC cI cJ : ClassId) (sz : Nat) (a0 a1 : Nat) (x0 x1 : Int32) (f0 : Nat → Int32) (hp1 : (0 ≤ x0.toInt ∧ x0.toInt ≤ 4)) (hp2 : (0 ≤ x1.toInt ∧ x1.toInt ≤ 4)) : Met l yX8_clashOf (.code yX8_clashOf cX8_clashOf 7 (some .int) :: lw_gd) ({ frames := 2, cells := 0, slots := 0, locals := 46 }) (gPre D [(cB, .byte), (cC, .char), (cI, .int), (cJ, .long)] [.ref a0, .int x0, .int x1] [(a0, .inr (8, [.ref a1])), (a1, .inl (cI, 30, .inl f0))] sz) (va_Qi (fun r u => ((((-2147483648) ≤ r.toInt ∧ r.toInt ≤ 2147483647)) ∨ (r.toInt = 0))) (gB D (va_A [(a0, .inr (8, [.ref a1])), (a1, .inl (cI, 30, .inl f0))] sz) (fun u : gEx => [(a0, .inr (8, [.ref a1])), (a1, .inl (cI, 30, .inl f0))])) (va_A [(a0, .inr (8, [.ref a1])), (a1, .inl (cI, 30, .inl f0))] sz)) 0 0 (va_A [(a0, .inr (8, [.ref a1])), (a1, .inl (cI, 30, .inl f0))] sz) := by
  refine gOf_i (by decide +kernel) (Nat.le_of_ble_eq_true rfl) ?_
  intro p e s m args below meth c ls A Q hx hb hts hown hml hN hK hP hD hA hl hret
  replace hown : s.vm.findClass RX8 = some m.cls := hown
  have hS : va_S A s.heap s.heap [] := va_S.rf
  replace hP : va_P D gcl [(a0, .inr (8, [.ref a1])), (a1, .inl (cI, 30, .inl f0))] s.heap := hP
  replace hl : lv_has ls 7 [(0, .ref a0), (1, .int x0), (2, .int x1)] := hl
  refine lv_aload_n (pc := 0) hx hb dX8_clashOf_0 rfl (lv_at hl 0 rfl) ?_
  refine lv_iload_n (pc := 1) hx hb dX8_clashOf_1 rfl (lv_at hl 1 rfl) ?_
  refine lv_iload_n (pc := 2) hx hb dX8_clashOf_2 rfl (lv_at hl 2 rfl) ?_
  refine gc_i (pc := 3) (wc := [(a0, .inr (8, [.ref a1])), (a1, .inl (cI, 30, .inl f0))]) (wr := []) hP hD hS hA [0, 1] [] rfl rfl (by decide) (by decide) (by decide) (fun hPc hDc => va_runV (As := [.int x0, .int x1]) (rest := []) ⟨hx, hb, hml, hown, hts⟩ (k_X8_productOf l D cB cC cI cJ _ a0 a1 x0 x1 f0 hp1 hp2) ⟨gcwB hts tw_799 tw_5 tw_1108 hd_yX8_productOf ⟨Nat.le_of_ble_eq_true rfl, Nat.le_of_ble_eq_true rfl⟩, hts _ tw_797, hts _ tw_798⟩ ⟨gblind, va_recv hK hPc (ci := 8) (q0 := 0) rfl rfl, (gpreS hPc hK hDc hN).2⟩ rfl rfl hl.1 rfl (lv_room (Nat.le_of_ble_eq_true rfl)) dX8_clashOf_3 ⟨Nat.le_of_ble_eq_true rfl, Nat.le_of_ble_eq_true rfl⟩) (fun r_2 u_1 H locs hw_3 hP hD hS => ?_)
  replace hP : va_P D gcl [(a0, .inr (8, [.ref a1])), (a1, .inl (cI, 30, .inl f0))] H := hP
  replace hD : va_D A [(a0, .inr (8, [.ref a1])), (a1, .inl (cI, 30, .inl f0))] := hD
  have hw_4 : ((((-2147483648) ≤ r_2.toInt ∧ r_2.toInt ≤ 2147483647))) := hw_3
  have rr_2 : zBd r_2.toInt (-2147483648) 2147483647 := n_rng r_2
  refine b_i2l (pc := 6) hx hb rfl dX8_clashOf_6 (fun y_5 ey_5 => ?_)
  have ry_5 : zBd r_2.toInt (-2147483648) 2147483647 := n_rng r_2
  refine lv_lstore_n (pc := 7) (lv' := [(3, .long y_5), (0, .ref a0), (1, .int x0), (2, .int x1)]) hx hb dX8_clashOf_7 rfl hl (by decide) rfl (fun ls hl => ?_)
  refine lv_aload_n (pc := 8) hx hb dX8_clashOf_8 rfl (lv_at hl 1 rfl) ?_
  refine lv_iload_n (pc := 9) hx hb dX8_clashOf_9 rfl (lv_at hl 2 rfl) ?_
  refine lv_iload_n (pc := 10) hx hb dX8_clashOf_10 rfl (lv_at hl 2 rfl) ?_
  refine gc_i (pc := 11) (wc := [(a0, .inr (8, [.ref a1])), (a1, .inl (cI, 30, .inl f0))]) (wr := []) hP hD hS hA [0, 1] [] rfl rfl (by decide) (by decide) (by decide) (fun hPc hDc => va_runV (As := [.int x0, .int x0]) (rest := []) ⟨hx, hb, hml, hown, hts⟩ (k_X8_productOf l D cB cC cI cJ _ a0 a1 x0 x0 f0 hp1 hp1) ⟨gcwB hts tw_799 tw_5 tw_1108 hd_yX8_productOf ⟨Nat.le_of_ble_eq_true rfl, Nat.le_of_ble_eq_true rfl⟩, hts _ tw_797, hts _ tw_798⟩ ⟨gblind, va_recv hK hPc (ci := 8) (q0 := 0) rfl rfl, (gpreS hPc hK hDc hN).2⟩ rfl rfl hl.1 rfl (lv_room (Nat.le_of_ble_eq_true rfl)) dX8_clashOf_11 ⟨Nat.le_of_ble_eq_true rfl, Nat.le_of_ble_eq_true rfl⟩) (fun r_7 u_6 H locs hw_8 hP hD hS => ?_)
  replace hP : va_P D gcl [(a0, .inr (8, [.ref a1])), (a1, .inl (cI, 30, .inl f0))] H := hP
  replace hD : va_D A [(a0, .inr (8, [.ref a1])), (a1, .inl (cI, 30, .inl f0))] := hD
  have hw_9 : ((((-2147483648) ≤ r_7.toInt ∧ r_7.toInt ≤ 2147483647))) := hw_8
  have rr_7 : zBd r_7.toInt (-2147483648) 2147483647 := n_rng r_7
  refine b_i2l (pc := 14) hx hb rfl dX8_clashOf_14 (fun y_10 ey_10 => ?_)
  have ry_10 : zBd r_7.toInt (-2147483648) 2147483647 := n_rng r_7
  refine lv_aload_n (pc := 15) hx hb dX8_clashOf_15 rfl (lv_at hl 1 rfl) ?_
  refine lv_iload_n (pc := 16) hx hb dX8_clashOf_16 rfl (lv_at hl 3 rfl) ?_
  refine lv_iload_n (pc := 17) hx hb dX8_clashOf_17 rfl (lv_at hl 3 rfl) ?_
  refine gc_i (pc := 18) (wc := [(a0, .inr (8, [.ref a1])), (a1, .inl (cI, 30, .inl f0))]) (wr := []) hP hD hS hA [0, 1] [] rfl rfl (by decide) (by decide) (by decide) (fun hPc hDc => va_runV (As := [.int x1, .int x1]) (rest := [.long y_10]) ⟨hx, hb, hml, hown, hts⟩ (k_X8_productOf l D cB cC cI cJ _ a0 a1 x1 x1 f0 hp2 hp2) ⟨gcwB hts tw_799 tw_5 tw_1108 hd_yX8_productOf ⟨Nat.le_of_ble_eq_true rfl, Nat.le_of_ble_eq_true rfl⟩, hts _ tw_797, hts _ tw_798⟩ ⟨gblind, va_recv hK hPc (ci := 8) (q0 := 0) rfl rfl, (gpreS hPc hK hDc hN).2⟩ rfl rfl hl.1 rfl (lv_room (Nat.le_of_ble_eq_true rfl)) dX8_clashOf_18 ⟨Nat.le_of_ble_eq_true rfl, Nat.le_of_ble_eq_true rfl⟩) (fun r_12 u_11 H locs hw_13 hP hD hS => ?_)
  replace hP : va_P D gcl [(a0, .inr (8, [.ref a1])), (a1, .inl (cI, 30, .inl f0))] H := hP
  replace hD : va_D A [(a0, .inr (8, [.ref a1])), (a1, .inl (cI, 30, .inl f0))] := hD
  have hw_14 : ((((-2147483648) ≤ r_12.toInt ∧ r_12.toInt ≤ 2147483647))) := hw_13
  have rr_12 : zBd r_12.toInt (-2147483648) 2147483647 := n_rng r_12
  refine b_i2l (pc := 21) hx hb rfl dX8_clashOf_21 (fun y_15 ey_15 => ?_)
  have ry_15 : zBd r_12.toInt (-2147483648) 2147483647 := n_rng r_12
  refine lv_lmul (pc := 22) hx hb dX8_clashOf_22 ?_
  refine lv_topl (fun y_16 _ => ?_)
  have ry_16 := n_rngL y_16
  refine lv_lstore (pc := 23) (lv' := [(5, .long y_16), (3, .long y_5), (0, .ref a0), (1, .int x0), (2, .int x1)]) hx hb dX8_clashOf_23 hl (by decide) rfl (fun ls hl => ?_)
  refine lv_lload (pc := 25) hx hb dX8_clashOf_25 (lv_at hl 0 rfl) ?_
  refine lv_lconst (pc := 27) (v := 0) hx hb dX8_clashOf_27 (by decide) ?_
  refine b_lcmp_ne (pc := 28) (tgt := 36) hx hb rfl tL_0 dX8_clashOf_28 dX8_clashOf_29 (by decide) (fun c_17 => ?_) (fun c_17 => ?_)
  ·
    refine lv_ldc2 (pc := 36) hx hb hown (hts _ tw_1109) dX8_clashOf_36 ?_
    refine lv_lload_n (pc := 39) hx hb dX8_clashOf_39 rfl (lv_at hl 1 rfl) ?_
    refine b_lmul (pc := 40) hx hb tL_1000 rfl (by (first | omega | (unfold zBd at *; omega))) (by (first | omega | (unfold zBd at *; omega))) dX8_clashOf_40 (fun y_18 ey_18 => ?_)
    refine lv_lload_n (pc := 41) hx hb dX8_clashOf_41 rfl (lv_at hl 1 rfl) ?_
    refine lv_lmul (pc := 42) hx hb dX8_clashOf_42 ?_
    refine lv_topl (fun y_19 _ => ?_)
    have ry_19 := n_rngL y_19
    refine lv_lload (pc := 43) hx hb dX8_clashOf_43 (lv_at hl 0 rfl) ?_
    refine lv_ldiv (pc := 45) hx hb dX8_clashOf_45 (fun h => by have q := congrArg Int64.toInt h; have k := tL_0; (first | omega | (unfold zBd at *; omega))) ?_
    refine lv_topl (fun y_20 _ => ?_)
    have ry_20 := n_rngL y_20
    refine lv_l2i (pc := 46) hx hb dX8_clashOf_46 rfl ?_
    refine lv_topi (fun x_21 _ => ?_)
    have rx_21 : zBd x_21.toInt (-2147483648) 2147483647 := n_rng x_21
    exact hret x_21 ((fun _ => 0), (fun _ => (fun _ => 0)), (fun _ => (fun _ => 0)), (fun _ => 0), (fun _ => 0)) dX8_clashOf_47 (show ((((-2147483648) ≤ x_21.toInt ∧ x_21.toInt ≤ 2147483647)) ∨ (x_21.toInt = 0)) by (first | omega | (unfold zBd at *; omega))) (g_psub (wc := [(a0, .inr (8, [.ref a1])), (a1, .inl (cI, 30, .inl f0))]) hP [0, 1] rfl) (hD.sub (ws' := [(a0, .inr (8, [.ref a1])), (a1, .inl (cI, 30, .inl f0))]) [0, 1] (by decide) rfl) hS
  ·
    refine lv_iconst (pc := 32) (v := 0) hx hb dX8_clashOf_32 (by decide) ?_
    refine lv_goto (pc := 33) (tgt := 47) hx hb dX8_clashOf_33 (by decide) ?_
    exact hret 0 ((fun _ => 0), (fun _ => (fun _ => 0)), (fun _ => (fun _ => 0)), (fun _ => 0), (fun _ => 0)) dX8_clashOf_47 (show ((((-2147483648) ≤ (0 : Int32).toInt ∧ (0 : Int32).toInt ≤ 2147483647)) ∨ ((0 : Int32).toInt = 0)) by have k9 := tI_0; (first | omega | (unfold zBd at *; omega))) (g_psub (wc := [(a0, .inr (8, [.ref a1])), (a1, .inl (cI, 30, .inl f0))]) hP [0, 1] rfl) (hD.sub (ws' := [(a0, .inr (8, [.ref a1])), (a1, .inl (cI, 30, .inl f0))]) [0, 1] (by decide) rfl) hS
set_option maxHeartbeats 4000000 in
set_option maxRecDepth 100000 in
theorem k_X8_at_e (l : Launch) (D : va_G) (cB cC cI cJ : ClassId) (sz : Nat) (a0 a1 : Nat) (x0 x1 : Int32) (f0 : Nat → Int32) (hp1 : (0 ≤ x0.toInt ∧ x0.toInt ≤ 5)) (hp2 : (0 ≤ x1.toInt ∧ x1.toInt ≤ 4)) : Met l yX8_at (.code yX8_at cX8_at 3 (some .int) :: lw_gd) ({ frames := 0, cells := 0, slots := 0, locals := 0 }) (gPre D [(cB, .byte), (cC, .char), (cI, .int), (cJ, .long)] [.ref a0, .int x0, .int x1] [(a0, .inr (8, [.ref a1])), (a1, .inl (cI, 30, .inl f0))] sz) (va_Qi (fun r u => (r = f0 (6 * x1.toInt + x0.toInt).toNat)) (gB D (va_A [(a0, .inr (8, [.ref a1])), (a1, .inl (cI, 30, .inl f0))] sz) (fun u : gEx => [(a0, .inr (8, [.ref a1])), (a1, .inl (cI, 30, .inl f0))])) (va_A [(a0, .inr (8, [.ref a1])), (a1, .inl (cI, 30, .inl f0))] sz)) 0 0 (va_A [(a0, .inr (8, [.ref a1])), (a1, .inl (cI, 30, .inl f0))] sz) := by
  refine gOf_i (by decide +kernel) (Nat.le_of_ble_eq_true rfl) ?_
  intro p e s m args below meth c ls A Q hx hb hts hown hml hN hK hP hD hA hl hret
  replace hown : s.vm.findClass RX8 = some m.cls := hown
  have hS : va_S A s.heap s.heap [] := va_S.rf
  replace hP : va_P D gcl [(a0, .inr (8, [.ref a1])), (a1, .inl (cI, 30, .inl f0))] s.heap := hP
  replace hl : lv_has ls 3 [(0, .ref a0), (1, .int x0), (2, .int x1)] := hl
  refine lv_aload_n (pc := 0) hx hb dX8_at_0 rfl (lv_at hl 0 rfl) ?_
  refine va_get (pc := 1) (ci := 8) (v := .ref a1) (C := RX8) (T := TX8) (N := 1) hx hb hts iX8 hown hK hP 0 rfl rfl 0 (by decide) (hts _ tw_62) (fun _ h9 => h9) rfl dX8_at_1 ?_
  refine lv_iload_n (pc := 4) hx hb dX8_at_4 rfl (lv_at hl 2 rfl) ?_
  refine lv_bipush (pc := 5) (v := 6) hx hb dX8_at_5 (by decide) ?_
  refine b_imul (pc := 7) hx hb rfl tI_6 (by (first | omega | (unfold zBd at *; omega))) (by (first | omega | (unfold zBd at *; omega))) dX8_at_7 (fun x_1 ex_1 => ?_)
  refine lv_iload_n (pc := 8) hx hb dX8_at_8 rfl (lv_at hl 1 rfl) ?_
  refine b_iadd (pc := 9) hx hb rfl rfl (by (first | omega | (unfold zBd at *; omega))) (by (first | omega | (unfold zBd at *; omega))) dX8_at_9 (fun x_2 ex_2 => ?_)
  refine va_iald (pc := 10) hx hb hK hP 1 2 rfl rfl (n_in rfl (by (first | omega | (unfold zBd at *; omega))) (by (first | omega | (unfold zBd at *; omega)))) dX8_at_10 ?_
  refine lv_topi (fun x_3 ex_3 => ?_)
  have rx_3 : zBd x_3.toInt (-2147483648) 2147483647 := n_rng x_3
  replace ex_3 : x_3 = f0 (x_2.toInt).toNat := ex_3
  have tx_3 := congrArg Int32.toInt ex_3
  exact hret x_3 ((fun _ => 0), (fun _ => (fun _ => 0)), (fun _ => (fun _ => 0)), (fun _ => 0), (fun _ => 0)) dX8_at_11 (show x_3 = f0 (6 * x1.toInt + x0.toInt).toNat from (e_ld ex_3 (by (first | omega | (unfold zBd at *; omega)))).symm) (g_psub (wc := [(a0, .inr (8, [.ref a1])), (a1, .inl (cI, 30, .inl f0))]) hP [0, 1] rfl) (hD.sub (ws' := [(a0, .inr (8, [.ref a1])), (a1, .inl (cI, 30, .inl f0))]) [0, 1] (by decide) rfl) hS
set_option maxHeartbeats 4000000 in
set_option maxRecDepth 100000 in
theorem k_X8_productOf_w (l : Launch) (D : va_G) (cB cC cI cJ : ClassId) (sz : Nat) (a0 a1 : Nat) (x0 x1 : Int32) (f0 : Nat → Int32) (hp1 : (0 ≤ x0.toInt ∧ x0.toInt ≤ 4)) (hp2 : (0 ≤ x1.toInt ∧ x1.toInt ≤ 4)) : Met l yX8_productOf (.code yX8_productOf cX8_productOf 5 (some .int) :: lw_gd) ({ frames := 1, cells := 0, slots := 0, locals := 22 }) (gPre D [(cB, .byte), (cC, .char), (cI, .int), (cJ, .long)] [.ref a0, .int x0, .int x1] [(a0, .inr (8, [.ref a1])), (a1, .inl (cI, 30, .inl f0))] sz) (va_Qi (fun r u => (r = dw f0 x0.toInt x1.toInt 6)) (gB D (va_A [(a0, .inr (8, [.ref a1])), (a1, .inl (cI, 30, .inl f0))] sz) (fun u : gEx => [(a0, .inr (8, [.ref a1])), (a1, .inl (cI, 30, .inl f0))])) (va_A [(a0, .inr (8, [.ref a1])), (a1, .inl (cI, 30, .inl f0))] sz)) 0 0 (va_A [(a0, .inr (8, [.ref a1])), (a1, .inl (cI, 30, .inl f0))] sz) := by
  refine gOf_i (by decide +kernel) (Nat.le_of_ble_eq_true rfl) ?_
  intro p e s m args below meth c ls A Q hx hb hts hown hml hN hK hP hD hA hl hret
  replace hown : s.vm.findClass RX8 = some m.cls := hown
  have hS : va_S A s.heap s.heap [] := va_S.rf
  replace hP : va_P D gcl [(a0, .inr (8, [.ref a1])), (a1, .inl (cI, 30, .inl f0))] s.heap := hP
  replace hl : lv_has ls 5 [(0, .ref a0), (1, .int x0), (2, .int x1)] := hl
  refine lv_iconst (pc := 0) (v := 0) hx hb dX8_productOf_0 (by decide) ?_
  refine lv_istore_n (pc := 1) (lv' := [(3, .int 0), (0, .ref a0), (1, .int x0), (2, .int x1)]) hx hb dX8_productOf_1 rfl hl (by decide) rfl (fun ls hl => ?_)
  refine lv_iconst (pc := 2) (v := 0) hx hb dX8_productOf_2 (by decide) ?_
  refine lv_istore (pc := 3) (lv' := [(4, .int 0), (3, .int 0), (0, .ref a0), (1, .int x0), (2, .int x1)]) hx hb dX8_productOf_3 hl (by decide) rfl (fun ls hl => ?_)
  have lp_6 : ∀ (n : Nat) (x_1 x_3 : Int32) (H : Heap) (locs : List Loc) (ls : Array Slot), (0 ≤ x_1.toInt ∧ x_1.toInt ≤ 6) → (x_3 = dw f0 x0.toInt x1.toInt (x_1.toInt).toNat) → (2147483647 - x_1.toInt).toNat < n → va_P D gcl [(a0, .inr (8, [.ref a1])), (a1, .inl (cI, 30, .inl f0))] H → va_D A [(a0, .inr (8, [.ref a1])), (a1, .inl (cI, 30, .inl f0))] → va_S A s.heap H locs → lv_has ls 5 [(4, .int x_1), (3, .int x_3), (0, .ref a0), (1, .int x0), (2, .int x1)] → W p l e ({ frames := 1, cells := 0, slots := 0, locals := 22 }) s m args below meth c H locs 0 0 Q (F0 m 5 ls []) := by
    intro n
    induction n with
    | zero => intro x_1 x_3 H locs ls hi_2 hi_5 hmu; exact absurd hmu (Nat.not_lt_zero _)
    | succ n ih_lp_6 =>
      intro x_1 x_3 H locs ls hi_2 hi_5 hmu_lp_6 hP hD hS hl
      have hi_4 := n_rng x_3
      refine lv_iload (pc := 5) hx hb dX8_productOf_5 (lv_at hl 0 rfl) ?_
      refine lv_bipush (pc := 7) (v := 6) hx hb dX8_productOf_7 (by decide) ?_
      refine b_icmp_ge (pc := 9) (tgt := 36) hx hb rfl tI_6  dX8_productOf_9 (by decide) (fun c_7 => ?_) (fun c_7 => ?_)
      ·
        refine lv_iload_n (pc := 36) hx hb dX8_productOf_36 rfl (lv_at hl 1 rfl) ?_
        exact hret x_3 ((fun _ => 0), (fun _ => (fun _ => 0)), (fun _ => (fun _ => 0)), (fun _ => 0), (fun _ => 0)) dX8_productOf_37 (show x_3 = dw f0 x0.toInt x1.toInt 6 from (by have e9 : x_1.toInt = 6 := (by (first | omega | (unfold zBd at *; omega))); have q9 := hi_5; rw [e9] at q9; exact q9)) (g_psub (wc := [(a0, .inr (8, [.ref a1])), (a1, .inl (cI, 30, .inl f0))]) hP [0, 1] rfl) (hD.sub (ws' := [(a0, .inr (8, [.ref a1])), (a1, .inl (cI, 30, .inl f0))]) [0, 1] (by decide) rfl) hS
      ·
        refine lv_iload_n (pc := 12) hx hb dX8_productOf_12 rfl (lv_at hl 1 rfl) ?_
        refine lv_aload_n (pc := 13) hx hb dX8_productOf_13 rfl (lv_at hl 2 rfl) ?_
        refine lv_iload (pc := 14) hx hb dX8_productOf_14 (lv_at hl 0 rfl) ?_
        refine lv_iload_n (pc := 16) hx hb dX8_productOf_16 rfl (lv_at hl 3 rfl) ?_
        refine gc_i (pc := 17) (wc := [(a0, .inr (8, [.ref a1])), (a1, .inl (cI, 30, .inl f0))]) (wr := []) hP hD hS hA [0, 1] [] rfl rfl (by decide) (by decide) (by decide) (fun hPc hDc => va_runV (As := [.int x_1, .int x0]) (rest := [.int x_3]) ⟨hx, hb, hml, hown, hts⟩ (k_X8_at_e l D cB cC cI cJ _ a0 a1 x_1 x0 f0 (by  (first | omega | (unfold zBd at *; omega))) hp1) ⟨gcwB hts tw_791 tw_5 tw_800 hd_yX8_at ⟨Nat.le_of_ble_eq_true rfl, Nat.le_of_ble_eq_true rfl⟩, hts _ tw_789, hts _ tw_790⟩ ⟨gblind, va_recv hK hPc (ci := 8) (q0 := 0) rfl rfl, (gpreS hPc hK hDc hN).2⟩ rfl rfl hl.1 rfl (lv_room (Nat.le_of_ble_eq_true rfl)) dX8_productOf_17 ⟨Nat.le_of_ble_eq_true rfl, Nat.le_of_ble_eq_true rfl⟩) (fun r_9 u_8 H locs hw_10 hP hD hS => ?_)
        replace hP : va_P D gcl [(a0, .inr (8, [.ref a1])), (a1, .inl (cI, 30, .inl f0))] H := hP
        replace hD : va_D A [(a0, .inr (8, [.ref a1])), (a1, .inl (cI, 30, .inl f0))] := hD
        have hw_11 : (r_9 = f0 (6 * x0.toInt + x_1.toInt).toNat) := hw_10
        have rr_9 : zBd r_9.toInt (-2147483648) 2147483647 := n_rng r_9
        refine lv_aload_n (pc := 20) hx hb dX8_productOf_20 rfl (lv_at hl 2 rfl) ?_
        refine lv_iload (pc := 21) hx hb dX8_productOf_21 (lv_at hl 0 rfl) ?_
        refine lv_iload_n (pc := 23) hx hb dX8_productOf_23 rfl (lv_at hl 4 rfl) ?_
        refine gc_i (pc := 24) (wc := [(a0, .inr (8, [.ref a1])), (a1, .inl (cI, 30, .inl f0))]) (wr := []) hP hD hS hA [0, 1] [] rfl rfl (by decide) (by decide) (by decide) (fun hPc hDc => va_runV (As := [.int x_1, .int x1]) (rest := [.int r_9, .int x_3]) ⟨hx, hb, hml, hown, hts⟩ (k_X8_at_e l D cB cC cI cJ _ a0 a1 x_1 x1 f0 (by  (first | omega | (unfold zBd at *; omega))) hp2) ⟨gcwB hts tw_791 tw_5 tw_800 hd_yX8_at ⟨Nat.le_of_ble_eq_true rfl, Nat.le_of_ble_eq_true rfl⟩, hts _ tw_789, hts _ tw_790⟩ ⟨gblind, va_recv hK hPc (ci := 8) (q0 := 0) rfl rfl, (gpreS hPc hK hDc hN).2⟩ rfl rfl hl.1 rfl (lv_room (Nat.le_of_ble_eq_true rfl)) dX8_productOf_24 ⟨Nat.le_of_ble_eq_true rfl, Nat.le_of_ble_eq_true rfl⟩) (fun r_13 u_12 H locs hw_14 hP hD hS => ?_)
        replace hP : va_P D gcl [(a0, .inr (8, [.ref a1])), (a1, .inl (cI, 30, .inl f0))] H := hP
        replace hD : va_D A [(a0, .inr (8, [.ref a1])), (a1, .inl (cI, 30, .inl f0))] := hD
        have hw_15 : (r_13 = f0 (6 * x1.toInt + x_1.toInt).toNat) := hw_14
        have rr_13 : zBd r_13.toInt (-2147483648) 2147483647 := n_rng r_13
        refine lv_imul (pc := 27) hx hb dX8_productOf_27 ?_
        refine lv_topi (fun x_16 ex_16 => ?_)
        have rx_16 : zBd x_16.toInt (-2147483648) 2147483647 := n_rng x_16
        refine lv_iadd (pc := 28) hx hb dX8_productOf_28 ?_
        refine lv_topi (fun x_17 ex_17 => ?_)
        have rx_17 : zBd x_17.toInt (-2147483648) 2147483647 := n_rng x_17
        refine lv_istore_n (pc := 29) (lv' := [(3, .int x_17), (4, .int x_1), (0, .ref a0), (1, .int x0), (2, .int x1)]) hx hb dX8_productOf_29 rfl hl (by decide) rfl (fun ls hl => ?_)
        refine b_iinc (pc := 30) hx hb dX8_productOf_30 hl (k := 1) rfl rfl tI_1 (by (first | omega | (unfold zBd at *; omega))) (by (first | omega | (unfold zBd at *; omega))) (by decide) (fun x_18 ex_18 ls hl => ?_)
        replace hl : lv_has ls 5 [(4, .int x_18), (3, .int x_17), (0, .ref a0), (1, .int x0), (2, .int x1)] := hl
        refine lv_goto (pc := 33) (tgt := 5) hx hb dX8_productOf_33 (by decide) ?_
        exact ih_lp_6 x_18 x_17 _ _ ls (by (first | omega | (unfold zBd at *; omega))) (dw_step hi_5 hw_11 hw_15 ex_16 ex_17 (by (first | omega | (unfold zBd at *; omega))) (by (first | omega | (unfold zBd at *; omega)))) (by (first | omega | (unfold zBd at *; omega))) hP hD hS (lv_sub hl [0, 1, 2, 3, 4] rfl)
  exact lp_6 _ 0 0 _ _ ls (n_c tI_0 (by decide)) (rfl) (Nat.lt_succ_self _) hP hD hS (lv_sub hl [0, 1, 2, 3, 4] rfl)
set_option maxHeartbeats 4000000 in
set_option maxRecDepth 100000 in
theorem k_X8_clashOf_E (l : Launch) (D : va_G) (cB cC cI cJ : ClassId) (sz : Nat) (a0 a1 : Nat) (x0 x1 : Int32) (f0 : Nat → Int32) (hp1 : (0 ≤ x0.toInt ∧ x0.toInt ≤ 4)) (hp2 : (0 ≤ x1.toInt ∧ x1.toInt ≤ 4)) : Met l yX8_clashOf (.code yX8_clashOf cX8_clashOf 7 (some .int) :: lw_gd) ({ frames := 2, cells := 0, slots := 0, locals := 46 }) (gPre D [(cB, .byte), (cC, .char), (cI, .int), (cJ, .long)] [.ref a0, .int x0, .int x1] [(a0, .inr (8, [.ref a1])), (a1, .inl (cI, 30, .inl f0))] sz) (va_Qi (fun r u => (r = clF (dw f0 x0.toInt x1.toInt 6) (dw f0 x0.toInt x0.toInt 6) (dw f0 x1.toInt x1.toInt 6))) (gB D (va_A [(a0, .inr (8, [.ref a1])), (a1, .inl (cI, 30, .inl f0))] sz) (fun u : gEx => [(a0, .inr (8, [.ref a1])), (a1, .inl (cI, 30, .inl f0))])) (va_A [(a0, .inr (8, [.ref a1])), (a1, .inl (cI, 30, .inl f0))] sz)) 0 0 (va_A [(a0, .inr (8, [.ref a1])), (a1, .inl (cI, 30, .inl f0))] sz) := by
  refine gOf_i (by decide +kernel) (Nat.le_of_ble_eq_true rfl) ?_
  intro p e s m args below meth c ls A Q hx hb hts hown hml hN hK hP hD hA hl hret
  replace hown : s.vm.findClass RX8 = some m.cls := hown
  have hS : va_S A s.heap s.heap [] := va_S.rf
  replace hP : va_P D gcl [(a0, .inr (8, [.ref a1])), (a1, .inl (cI, 30, .inl f0))] s.heap := hP
  replace hl : lv_has ls 7 [(0, .ref a0), (1, .int x0), (2, .int x1)] := hl
  refine lv_aload_n (pc := 0) hx hb dX8_clashOf_0 rfl (lv_at hl 0 rfl) ?_
  refine lv_iload_n (pc := 1) hx hb dX8_clashOf_1 rfl (lv_at hl 1 rfl) ?_
  refine lv_iload_n (pc := 2) hx hb dX8_clashOf_2 rfl (lv_at hl 2 rfl) ?_
  refine gc_i (pc := 3) (wc := [(a0, .inr (8, [.ref a1])), (a1, .inl (cI, 30, .inl f0))]) (wr := []) hP hD hS hA [0, 1] [] rfl rfl (by decide) (by decide) (by decide) (fun hPc hDc => va_runV (As := [.int x0, .int x1]) (rest := []) ⟨hx, hb, hml, hown, hts⟩ (k_X8_productOf_w l D cB cC cI cJ _ a0 a1 x0 x1 f0 hp1 hp2) ⟨gcwB hts tw_799 tw_5 tw_1108 hd_yX8_productOf ⟨Nat.le_of_ble_eq_true rfl, Nat.le_of_ble_eq_true rfl⟩, hts _ tw_797, hts _ tw_798⟩ ⟨gblind, va_recv hK hPc (ci := 8) (q0 := 0) rfl rfl, (gpreS hPc hK hDc hN).2⟩ rfl rfl hl.1 rfl (lv_room (Nat.le_of_ble_eq_true rfl)) dX8_clashOf_3 ⟨Nat.le_of_ble_eq_true rfl, Nat.le_of_ble_eq_true rfl⟩) (fun r_2 u_1 H locs hw_3 hP hD hS => ?_)
  replace hP : va_P D gcl [(a0, .inr (8, [.ref a1])), (a1, .inl (cI, 30, .inl f0))] H := hP
  replace hD : va_D A [(a0, .inr (8, [.ref a1])), (a1, .inl (cI, 30, .inl f0))] := hD
  have hw_4 : (r_2 = dw f0 x0.toInt x1.toInt 6) := hw_3
  have rr_2 : zBd r_2.toInt (-2147483648) 2147483647 := n_rng r_2
  refine b_i2l (pc := 6) hx hb rfl dX8_clashOf_6 (fun y_5 ey_5 => ?_)
  have ry_5 : zBd r_2.toInt (-2147483648) 2147483647 := n_rng r_2
  refine lv_lstore_n (pc := 7) (lv' := [(3, .long y_5), (0, .ref a0), (1, .int x0), (2, .int x1)]) hx hb dX8_clashOf_7 rfl hl (by decide) rfl (fun ls hl => ?_)
  refine lv_aload_n (pc := 8) hx hb dX8_clashOf_8 rfl (lv_at hl 1 rfl) ?_
  refine lv_iload_n (pc := 9) hx hb dX8_clashOf_9 rfl (lv_at hl 2 rfl) ?_
  refine lv_iload_n (pc := 10) hx hb dX8_clashOf_10 rfl (lv_at hl 2 rfl) ?_
  refine gc_i (pc := 11) (wc := [(a0, .inr (8, [.ref a1])), (a1, .inl (cI, 30, .inl f0))]) (wr := []) hP hD hS hA [0, 1] [] rfl rfl (by decide) (by decide) (by decide) (fun hPc hDc => va_runV (As := [.int x0, .int x0]) (rest := []) ⟨hx, hb, hml, hown, hts⟩ (k_X8_productOf_w l D cB cC cI cJ _ a0 a1 x0 x0 f0 hp1 hp1) ⟨gcwB hts tw_799 tw_5 tw_1108 hd_yX8_productOf ⟨Nat.le_of_ble_eq_true rfl, Nat.le_of_ble_eq_true rfl⟩, hts _ tw_797, hts _ tw_798⟩ ⟨gblind, va_recv hK hPc (ci := 8) (q0 := 0) rfl rfl, (gpreS hPc hK hDc hN).2⟩ rfl rfl hl.1 rfl (lv_room (Nat.le_of_ble_eq_true rfl)) dX8_clashOf_11 ⟨Nat.le_of_ble_eq_true rfl, Nat.le_of_ble_eq_true rfl⟩) (fun r_7 u_6 H locs hw_8 hP hD hS => ?_)
  replace hP : va_P D gcl [(a0, .inr (8, [.ref a1])), (a1, .inl (cI, 30, .inl f0))] H := hP
  replace hD : va_D A [(a0, .inr (8, [.ref a1])), (a1, .inl (cI, 30, .inl f0))] := hD
  have hw_9 : (r_7 = dw f0 x0.toInt x0.toInt 6) := hw_8
  have rr_7 : zBd r_7.toInt (-2147483648) 2147483647 := n_rng r_7
  refine b_i2l (pc := 14) hx hb rfl dX8_clashOf_14 (fun y_10 ey_10 => ?_)
  have ry_10 : zBd r_7.toInt (-2147483648) 2147483647 := n_rng r_7
  refine lv_aload_n (pc := 15) hx hb dX8_clashOf_15 rfl (lv_at hl 1 rfl) ?_
  refine lv_iload_n (pc := 16) hx hb dX8_clashOf_16 rfl (lv_at hl 3 rfl) ?_
  refine lv_iload_n (pc := 17) hx hb dX8_clashOf_17 rfl (lv_at hl 3 rfl) ?_
  refine gc_i (pc := 18) (wc := [(a0, .inr (8, [.ref a1])), (a1, .inl (cI, 30, .inl f0))]) (wr := []) hP hD hS hA [0, 1] [] rfl rfl (by decide) (by decide) (by decide) (fun hPc hDc => va_runV (As := [.int x1, .int x1]) (rest := [.long y_10]) ⟨hx, hb, hml, hown, hts⟩ (k_X8_productOf_w l D cB cC cI cJ _ a0 a1 x1 x1 f0 hp2 hp2) ⟨gcwB hts tw_799 tw_5 tw_1108 hd_yX8_productOf ⟨Nat.le_of_ble_eq_true rfl, Nat.le_of_ble_eq_true rfl⟩, hts _ tw_797, hts _ tw_798⟩ ⟨gblind, va_recv hK hPc (ci := 8) (q0 := 0) rfl rfl, (gpreS hPc hK hDc hN).2⟩ rfl rfl hl.1 rfl (lv_room (Nat.le_of_ble_eq_true rfl)) dX8_clashOf_18 ⟨Nat.le_of_ble_eq_true rfl, Nat.le_of_ble_eq_true rfl⟩) (fun r_12 u_11 H locs hw_13 hP hD hS => ?_)
  replace hP : va_P D gcl [(a0, .inr (8, [.ref a1])), (a1, .inl (cI, 30, .inl f0))] H := hP
  replace hD : va_D A [(a0, .inr (8, [.ref a1])), (a1, .inl (cI, 30, .inl f0))] := hD
  have hw_14 : (r_12 = dw f0 x1.toInt x1.toInt 6) := hw_13
  have rr_12 : zBd r_12.toInt (-2147483648) 2147483647 := n_rng r_12
  refine b_i2l (pc := 21) hx hb rfl dX8_clashOf_21 (fun y_15 ey_15 => ?_)
  have ry_15 : zBd r_12.toInt (-2147483648) 2147483647 := n_rng r_12
  refine lv_lmul (pc := 22) hx hb dX8_clashOf_22 ?_
  refine lv_topl (fun y_16 ey_16 => ?_)
  have ry_16 := n_rngL y_16
  refine lv_lstore (pc := 23) (lv' := [(5, .long y_16), (3, .long y_5), (0, .ref a0), (1, .int x0), (2, .int x1)]) hx hb dX8_clashOf_23 hl (by decide) rfl (fun ls hl => ?_)
  refine lv_lload (pc := 25) hx hb dX8_clashOf_25 (lv_at hl 0 rfl) ?_
  refine lv_lconst (pc := 27) (v := 0) hx hb dX8_clashOf_27 (by decide) ?_
  refine b_lcmp_ne (pc := 28) (tgt := 36) hx hb rfl tL_0 dX8_clashOf_28 dX8_clashOf_29 (by decide) (fun c_17 => ?_) (fun c_17 => ?_)
  ·
    refine lv_ldc2 (pc := 36) hx hb hown (hts _ tw_1109) dX8_clashOf_36 ?_
    refine lv_lload_n (pc := 39) hx hb dX8_clashOf_39 rfl (lv_at hl 1 rfl) ?_
    refine b_lmul (pc := 40) hx hb tL_1000 rfl (by (first | omega | (unfold zBd at *; omega))) (by (first | omega | (unfold zBd at *; omega))) dX8_clashOf_40 (fun y_18 ey_18 => ?_)
    refine lv_lload_n (pc := 41) hx hb dX8_clashOf_41 rfl (lv_at hl 1 rfl) ?_
    refine lv_lmul (pc := 42) hx hb dX8_clashOf_42 ?_
    refine lv_topl (fun y_19 ey_19 => ?_)
    have ry_19 := n_rngL y_19
    refine lv_lload (pc := 43) hx hb dX8_clashOf_43 (lv_at hl 0 rfl) ?_
    refine lv_ldiv (pc := 45) hx hb dX8_clashOf_45 (fun h => by have q := congrArg Int64.toInt h; have k := tL_0; (first | omega | (unfold zBd at *; omega))) ?_
    refine lv_topl (fun y_20 ey_20 => ?_)
    have ry_20 := n_rngL y_20
    refine lv_l2i (pc := 46) hx hb dX8_clashOf_46 rfl ?_
    refine lv_topi (fun x_21 ex_21 => ?_)
    have rx_21 : zBd x_21.toInt (-2147483648) 2147483647 := n_rng x_21
    exact hret x_21 ((fun _ => 0), (fun _ => (fun _ => 0)), (fun _ => (fun _ => 0)), (fun _ => 0), (fun _ => 0)) dX8_clashOf_47 (show x_21 = clF (dw f0 x0.toInt x1.toInt 6) (dw f0 x0.toInt x0.toInt 6) (dw f0 x1.toInt x1.toInt 6) from cl_yes (by rw [← hw_4]; exact ey_5) (by rw [← hw_9]; exact ey_10) (by rw [← hw_14]; exact ey_15) ey_18 ey_19 ey_16 (by (first | omega | (unfold zBd at *; omega))) ey_20 ex_21) (g_psub (wc := [(a0, .inr (8, [.ref a1])), (a1, .inl (cI, 30, .inl f0))]) hP [0, 1] rfl) (hD.sub (ws' := [(a0, .inr (8, [.ref a1])), (a1, .inl (cI, 30, .inl f0))]) [0, 1] (by decide) rfl) hS
  ·
    refine lv_iconst (pc := 32) (v := 0) hx hb dX8_clashOf_32 (by decide) ?_
    refine lv_goto (pc := 33) (tgt := 47) hx hb dX8_clashOf_33 (by decide) ?_
    have k9 := tI_0
    exact hret 0 ((fun _ => 0), (fun _ => (fun _ => 0)), (fun _ => (fun _ => 0)), (fun _ => 0), (fun _ => 0)) dX8_clashOf_47 (show 0 = clF (dw f0 x0.toInt x1.toInt 6) (dw f0 x0.toInt x0.toInt 6) (dw f0 x1.toInt x1.toInt 6) from cl_no (by rw [← hw_9]; exact ey_10) (by rw [← hw_14]; exact ey_15) ey_16 (by (first | omega | (unfold zBd at *; omega))) rfl) (g_psub (wc := [(a0, .inr (8, [.ref a1])), (a1, .inl (cI, 30, .inl f0))]) hP [0, 1] rfl) (hD.sub (ws' := [(a0, .inr (8, [.ref a1])), (a1, .inl (cI, 30, .inl f0))]) [0, 1] (by decide) rfl) hS
set_option maxHeartbeats 4000000 in
set_option maxRecDepth 100000 in
theorem k_X8_worstPair (l : Launch) (D : va_G) (cB cC cI cJ : ClassId) (sz : Nat) (a0 a1 : Nat) (x0 : Int32) (f0 : Nat → Int32) (hp1 : ((-1) ≤ x0.toInt ∧ x0.toInt ≤ 5)) : Met l yX8_worstPair (.code yX8_worstPair cX8_worstPair 7 (some .int) :: lw_gd) ({ frames := 3, cells := 0, slots := 0, locals := 72 }) (gPre D [(cB, .byte), (cC, .char), (cI, .int), (cJ, .long)] [.ref a0, .int x0] [(a0, .inr (8, [.ref a1])), (a1, .inl (cI, 30, .inl f0))] sz) (va_Qi (fun r u => ((-1) ≤ r.toInt ∧ r.toInt ≤ 500) ∧ (r.toInt = wsW (clT f0) x0.toInt)) (gB D (va_A [(a0, .inr (8, [.ref a1])), (a1, .inl (cI, 30, .inl f0))] sz) (fun u : gEx => [(a0, .inr (8, [.ref a1])), (a1, .inl (cI, 30, .inl f0))])) (va_A [(a0, .inr (8, [.ref a1])), (a1, .inl (cI, 30, .inl f0))] sz)) 0 0 (va_A [(a0, .inr (8, [.ref a1])), (a1, .inl (cI, 30, .inl f0))] sz) := by
  refine gOf_i (by decide +kernel) (Nat.le_of_ble_eq_true rfl) ?_
  intro p e s m args below meth c ls A Q hx hb hts hown hml hN hK hP hD hA hl hret
  replace hown : s.vm.findClass RX8 = some m.cls := hown
  have hS : va_S A s.heap s.heap [] := va_S.rf
  replace hP : va_P D gcl [(a0, .inr (8, [.ref a1])), (a1, .inl (cI, 30, .inl f0))] s.heap := hP
  replace hl : lv_has ls 7 [(0, .ref a0), (1, .int x0)] := hl
  refine lv_iconst (pc := 0) (v := (-1)) hx hb dX8_worstPair_0 (by decide) ?_
  refine lv_istore_n (pc := 1) (lv' := [(2, .int (-1)), (0, .ref a0), (1, .int x0)]) hx hb dX8_worstPair_1 rfl hl (by decide) rfl (fun ls hl => ?_)
  refine lv_iconst (pc := 2) (v := (-1)) hx hb dX8_worstPair_2 (by decide) ?_
  refine lv_istore_n (pc := 3) (lv' := [(3, .int (-1)), (2, .int (-1)), (0, .ref a0), (1, .int x0)]) hx hb dX8_worstPair_3 rfl hl (by decide) rfl (fun ls hl => ?_)
  refine lv_iconst (pc := 4) (v := 0) hx hb dX8_worstPair_4 (by decide) ?_
  refine lv_istore (pc := 5) (lv' := [(4, .int 0), (3, .int (-1)), (2, .int (-1)), (0, .ref a0), (1, .int x0)]) hx hb dX8_worstPair_5 hl (by decide) rfl (fun ls hl => ?_)
  have lp_9 : ∀ (n : Nat) (x_1 x_3 x_5 : Int32) (H : Heap) (locs : List Loc) (ls : Array Slot), (0 ≤ x_1.toInt ∧ x_1.toInt ≤ 5) → ((-1) ≤ x_5.toInt ∧ x_5.toInt ≤ 500) → (x_1.toInt ≤ x0.toInt ∨ x_1.toInt = 0) → (wsE x_5.toInt x_3.toInt (clT f0) x0.toInt (5 * x_1.toInt)) → (2147483647 - x_1.toInt).toNat < n → va_P D gcl [(a0, .inr (8, [.ref a1])), (a1, .inl (cI, 30, .inl f0))] H → va_D A [(a0, .inr (8, [.ref a1])), (a1, .inl (cI, 30, .inl f0))] → va_S A s.heap H locs → lv_has ls 7 [(4, .int x_1), (3, .int x_3), (2, .int x_5), (0, .ref a0), (1, .int x0)] → W p l e ({ frames := 3, cells := 0, slots := 0, locals := 72 }) s m args below meth c H locs 0 0 Q (F0 m 7 ls []) := by
    intro n
    induction n with
    | zero => intro x_1 x_3 x_5 H locs ls hi_2 hi_6 hi_7 hi_8 hmu; exact absurd hmu (Nat.not_lt_zero _)
    | succ n ih_lp_9 =>
      intro x_1 x_3 x_5 H locs ls hi_2 hi_6 hi_7 hi_8 hmu_lp_9 hP hD hS hl
      have hi_4 := n_rng x_3
      refine lv_iload (pc := 7) hx hb dX8_worstPair_7 (lv_at hl 0 rfl) ?_
      refine lv_iload_n (pc := 9) hx hb dX8_worstPair_9 rfl (lv_at hl 4 rfl) ?_
      refine b_icmp_ge (pc := 10) (tgt := 65) hx hb rfl rfl  dX8_worstPair_10 (by decide) (fun c_10 => ?_) (fun c_10 => ?_)
      ·
        refine lv_iload_n (pc := 65) hx hb dX8_worstPair_65 rfl (lv_at hl 2 rfl) ?_
        exact hret x_5 ((fun _ => 0), (fun _ => (fun _ => 0)), (fun _ => (fun _ => 0)), (fun _ => 0), (fun _ => 0)) dX8_worstPair_66 ⟨(show ((-1) ≤ x_5.toInt ∧ x_5.toInt ≤ 500) from hi_6), (show x_5.toInt = wsW (clT f0) x0.toInt from ws_end hi_8 (by (first | omega | (unfold zBd at *; omega))) (by (first | omega | (unfold zBd at *; omega))) (by (first | omega | (unfold zBd at *; omega))) rfl)⟩ (g_psub (wc := [(a0, .inr (8, [.ref a1])), (a1, .inl (cI, 30, .inl f0))]) hP [0, 1] rfl) (hD.sub (ws' := [(a0, .inr (8, [.ref a1])), (a1, .inl (cI, 30, .inl f0))]) [0, 1] (by decide) rfl) hS
      ·
        refine lv_iload (pc := 13) hx hb dX8_worstPair_13 (lv_at hl 0 rfl) ?_
        refine lv_iconst (pc := 15) (v := 1) hx hb dX8_worstPair_15 (by decide) ?_
        refine b_iadd (pc := 16) hx hb rfl tI_1 (by (first | omega | (unfold zBd at *; omega))) (by (first | omega | (unfold zBd at *; omega))) dX8_worstPair_16 (fun x_11 ex_11 => ?_)
        refine lv_istore (pc := 17) (lv' := [(5, .int x_11), (4, .int x_1), (3, .int x_3), (2, .int x_5), (0, .ref a0), (1, .int x0)]) hx hb dX8_worstPair_17 hl (by decide) rfl (fun ls hl => ?_)
        have lp_20 : ∀ (n : Nat) (x_12 x_14 x_16 : Int32) (H : Heap) (locs : List Loc) (ls : Array Slot), (0 ≤ x_12.toInt ∧ x_12.toInt ≤ 5) → ((-1) ≤ x_16.toInt ∧ x_16.toInt ≤ 500) → (x_1.toInt < x_12.toInt ∧ (x_12.toInt ≤ x0.toInt ∨ x_12.toInt = x_1.toInt + 1)) → (wsE x_16.toInt x_14.toInt (clT f0) x0.toInt (5 * x_1.toInt + x_12.toInt)) → (2147483647 - x_12.toInt).toNat < n → va_P D gcl [(a0, .inr (8, [.ref a1])), (a1, .inl (cI, 30, .inl f0))] H → va_D A [(a0, .inr (8, [.ref a1])), (a1, .inl (cI, 30, .inl f0))] → va_S A s.heap H locs → lv_has ls 7 [(5, .int x_12), (4, .int x_1), (3, .int x_14), (2, .int x_16), (0, .ref a0), (1, .int x0)] → W p l e ({ frames := 3, cells := 0, slots := 0, locals := 72 }) s m args below meth c H locs 0 0 Q (F0 m 19 ls []) := by
          intro n
          induction n with
          | zero => intro x_12 x_14 x_16 H locs ls hi_13 hi_17 hi_18 hi_19 hmu; exact absurd hmu (Nat.not_lt_zero _)
          | succ n ih_lp_20 =>
            intro x_12 x_14 x_16 H locs ls hi_13 hi_17 hi_18 hi_19 hmu_lp_20 hP hD hS hl
            have hi_15 := n_rng x_14
            refine lv_iload (pc := 19) hx hb dX8_worstPair_19 (lv_at hl 0 rfl) ?_
            refine lv_iload_n (pc := 21) hx hb dX8_worstPair_21 rfl (lv_at hl 5 rfl) ?_
            refine b_icmp_ge (pc := 22) (tgt := 59) hx hb rfl rfl  dX8_worstPair_22 (by decide) (fun c_21 => ?_) (fun c_21 => ?_)
            ·
              refine b_iinc (pc := 59) hx hb dX8_worstPair_59 hl (k := 1) rfl rfl tI_1 (by (first | omega | (unfold zBd at *; omega))) (by (first | omega | (unfold zBd at *; omega))) (by decide) (fun x_22 ex_22 ls hl => ?_)
              replace hl : lv_has ls 7 [(4, .int x_22), (5, .int x_12), (3, .int x_14), (2, .int x_16), (0, .ref a0), (1, .int x0)] := hl
              refine lv_goto (pc := 62) (tgt := 7) hx hb dX8_worstPair_62 (by decide) ?_
              exact ih_lp_9 x_22 x_14 x_16 _ _ ls (by (first | omega | (unfold zBd at *; omega))) hi_17 (by (first | omega | (unfold zBd at *; omega))) (ws_out hi_19 (by (first | omega | (unfold zBd at *; omega))) (by (first | omega | (unfold zBd at *; omega))) (by (first | omega | (unfold zBd at *; omega))) (by (first | omega | (unfold zBd at *; omega))) rfl (by (first | omega | (unfold zBd at *; omega)))) (by (first | omega | (unfold zBd at *; omega))) hP hD hS (lv_sub hl [0, 2, 3, 4, 5] rfl)
            ·
              refine lv_aload_n (pc := 25) hx hb dX8_worstPair_25 rfl (lv_at hl 4 rfl) ?_
              refine lv_iload (pc := 26) hx hb dX8_worstPair_26 (lv_at hl 1 rfl) ?_
              refine lv_iload (pc := 28) hx hb dX8_worstPair_28 (lv_at hl 0 rfl) ?_
              refine gc_i (pc := 30) (wc := [(a0, .inr (8, [.ref a1])), (a1, .inl (cI, 30, .inl f0))]) (wr := []) hP hD hS hA [0, 1] [] rfl rfl (by decide) (by decide) (by decide) (fun hPc hDc => va_runV (As := [.int x_1, .int x_12]) (rest := []) ⟨hx, hb, hml, hown, hts⟩ (k_X8_clashOf_E l D cB cC cI cJ _ a0 a1 x_1 x_12 f0 (by  (first | omega | (unfold zBd at *; omega))) (by  (first | omega | (unfold zBd at *; omega)))) ⟨gcwB hts tw_1107 tw_5 tw_1118 hd_yX8_clashOf ⟨Nat.le_of_ble_eq_true rfl, Nat.le_of_ble_eq_true rfl⟩, hts _ tw_1105, hts _ tw_1106⟩ ⟨gblind, va_recv hK hPc (ci := 8) (q0 := 0) rfl rfl, (gpreS hPc hK hDc hN).2⟩ rfl rfl hl.1 rfl (lv_room (Nat.le_of_ble_eq_true rfl)) dX8_worstPair_30 ⟨Nat.le_of_ble_eq_true rfl, Nat.le_of_ble_eq_true rfl⟩) (fun r_24 u_23 H locs hw_25 hP hD hS => ?_)
              replace hP : va_P D gcl [(a0, .inr (8, [.ref a1])), (a1, .inl (cI, 30, .inl f0))] H := hP
              replace hD : va_D A [(a0, .inr (8, [.ref a1])), (a1, .inl (cI, 30, .inl f0))] := hD
              have hw_26 : (r_24 = clF (dw f0 x_1.toInt x_12.toInt 6) (dw f0 x_1.toInt x_1.toInt 6) (dw f0 x_12.toInt x_12.toInt 6)) := hw_25
              have rr_24 : zBd r_24.toInt (-2147483648) 2147483647 := n_rng r_24
              refine lv_istore (pc := 33) (lv' := [(6, .int r_24), (5, .int x_12), (4, .int x_1), (3, .int x_14), (2, .int x_16), (0, .ref a0), (1, .int x0)]) hx hb dX8_worstPair_33 hl (by decide) rfl (fun ls hl => ?_)
              refine lv_iload (pc := 35) hx hb dX8_worstPair_35 (lv_at hl 0 rfl) ?_
              refine lv_iload_n (pc := 37) hx hb dX8_worstPair_37 rfl (lv_at hl 3 rfl) ?_
              refine b_icmp_le (pc := 38) (tgt := 53) hx hb rfl rfl  dX8_worstPair_38 (by decide) (fun c_27 => ?_) (fun c_27 => ?_)
              ·
                refine b_iinc (pc := 53) hx hb dX8_worstPair_53 hl (k := 1) rfl rfl tI_1 (by (first | omega | (unfold zBd at *; omega))) (by (first | omega | (unfold zBd at *; omega))) (by decide) (fun x_28 ex_28 ls hl => ?_)
                replace hl : lv_has ls 7 [(5, .int x_28), (6, .int r_24), (4, .int x_1), (3, .int x_14), (2, .int x_16), (0, .ref a0), (1, .int x0)] := hl
                refine lv_goto (pc := 56) (tgt := 19) hx hb dX8_worstPair_56 (by decide) ?_
                exact ih_lp_20 x_28 x_14 x_16 _ _ ls (by (first | omega | (unfold zBd at *; omega))) hi_17 (by (first | omega | (unfold zBd at *; omega))) (ws_no hi_19 (by (first | omega | (unfold zBd at *; omega))) (by (first | omega | (unfold zBd at *; omega))) (by (first | omega | (unfold zBd at *; omega))) (by (first | omega | (unfold zBd at *; omega))) (congrArg Int32.toInt hw_26) (by (first | omega | (unfold zBd at *; omega))) rfl (by (first | omega | (unfold zBd at *; omega)))) (by (first | omega | (unfold zBd at *; omega))) hP hD hS (lv_sub hl [0, 2, 3, 4, 5, 6] rfl)
              ·
                refine lv_iload (pc := 41) hx hb dX8_worstPair_41 (lv_at hl 0 rfl) ?_
                refine lv_istore_n (pc := 43) (lv' := [(3, .int r_24), (6, .int r_24), (5, .int x_12), (4, .int x_1), (2, .int x_16), (0, .ref a0), (1, .int x0)]) hx hb dX8_worstPair_43 rfl hl (by decide) rfl (fun ls hl => ?_)
                refine lv_bipush (pc := 44) (v := 100) hx hb dX8_worstPair_44 (by decide) ?_
                refine lv_iload (pc := 46) hx hb dX8_worstPair_46 (lv_at hl 3 rfl) ?_
                refine b_imul (pc := 48) hx hb tI_100 rfl (by (first | omega | (unfold zBd at *; omega))) (by (first | omega | (unfold zBd at *; omega))) dX8_worstPair_48 (fun x_29 ex_29 => ?_)
                refine lv_iload (pc := 49) hx hb dX8_worstPair_49 (lv_at hl 2 rfl) ?_
                refine b_iadd (pc := 51) hx hb rfl rfl (by (first | omega | (unfold zBd at *; omega))) (by (first | omega | (unfold zBd at *; omega))) dX8_worstPair_51 (fun x_30 ex_30 => ?_)
                refine lv_istore_n (pc := 52) (lv' := [(2, .int x_30), (3, .int r_24), (6, .int r_24), (5, .int x_12), (4, .int x_1), (0, .ref a0), (1, .int x0)]) hx hb dX8_worstPair_52 rfl hl (by decide) rfl (fun ls hl => ?_)
                refine b_iinc (pc := 53) hx hb dX8_worstPair_53 hl (k := 3) rfl rfl tI_1 (by (first | omega | (unfold zBd at *; omega))) (by (first | omega | (unfold zBd at *; omega))) (by decide) (fun x_31 ex_31 ls hl => ?_)
                replace hl : lv_has ls 7 [(5, .int x_31), (2, .int x_30), (3, .int r_24), (6, .int r_24), (4, .int x_1), (0, .ref a0), (1, .int x0)] := hl
                refine lv_goto (pc := 56) (tgt := 19) hx hb dX8_worstPair_56 (by decide) ?_
                exact ih_lp_20 x_31 r_24 x_30 _ _ ls (by (first | omega | (unfold zBd at *; omega))) (by (first | omega | (unfold zBd at *; omega))) (by (first | omega | (unfold zBd at *; omega))) (ws_yes hi_19 (by (first | omega | (unfold zBd at *; omega))) (by (first | omega | (unfold zBd at *; omega))) (by (first | omega | (unfold zBd at *; omega))) (by (first | omega | (unfold zBd at *; omega))) (congrArg Int32.toInt hw_26) (by (first | omega | (unfold zBd at *; omega))) (by (first | omega | (unfold zBd at *; omega))) rfl (by (first | omega | (unfold zBd at *; omega)))) (by (first | omega | (unfold zBd at *; omega))) hP hD hS (lv_sub hl [0, 4, 2, 1, 5, 6] rfl)
        exact lp_20 _ x_11 x_3 x_5 _ _ ls (by (first | omega | (unfold zBd at *; omega))) hi_6 (by have q := tI_0; (first | omega | (unfold zBd at *; omega))) (ws_in hi_8 (by (first | omega | (unfold zBd at *; omega))) (by (first | omega | (unfold zBd at *; omega))) rfl rfl (by (first | omega | (unfold zBd at *; omega)))) (Nat.lt_succ_self _) hP hD hS (lv_sub hl [0, 1, 2, 3, 4, 5] rfl)
  exact lp_9 _ 0 (-1) (-1) _ _ ls (n_c tI_0 (by decide)) (n_c tI_m1 (by decide)) (by have q := tI_0; (first | omega | (unfold zBd at *; omega))) (ws_0 tI_m1 tI_m1 (by have q := tI_0; (first | omega | (unfold zBd at *; omega)))) (Nat.lt_succ_self _) hP hD hS (lv_sub hl [0, 1, 2, 3, 4] rfl)
set_option maxHeartbeats 4000000 in
set_option maxRecDepth 100000 in
theorem k_X8_allSquares (l : Launch) (D : va_G) (cB cC cI cJ : ClassId) (sz : Nat) (a0 a1 : Nat) (f0 : Nat → Int32) : Met l yX8_allSquares (.code yX8_allSquares cX8_allSquares 4 (some .long) :: lw_gd) ({ frames := 2, cells := 0, slots := 0, locals := 46 }) (gPre D [(cB, .byte), (cC, .char), (cI, .int), (cJ, .long)] [.ref a0] [(a0, .inr (8, [.ref a1])), (a1, .inl (cI, 30, .inl f0))] sz) (va_Ql (fun r u => ((-10737418240) ≤ r.toInt ∧ r.toInt ≤ 10737418240) ∧ (r.toInt = sqT f0 5)) (gB D (va_A [(a0, .inr (8, [.ref a1])), (a1, .inl (cI, 30, .inl f0))] sz) (fun u : gEx => [(a0, .inr (8, [.ref a1])), (a1, .inl (cI, 30, .inl f0))])) (va_A [(a0, .inr (8, [.ref a1])), (a1, .inl (cI, 30, .inl f0))] sz)) 0 0 (va_A [(a0, .inr (8, [.ref a1])), (a1, .inl (cI, 30, .inl f0))] sz) := by
  refine gOf_l (by decide +kernel) (Nat.le_of_ble_eq_true rfl) ?_
  intro p e s m args below meth c ls A Q hx hb hts hown hml hN hK hP hD hA hl hret
  replace hown : s.vm.findClass RX8 = some m.cls := hown
  have hS : va_S A s.heap s.heap [] := va_S.rf
  replace hP : va_P D gcl [(a0, .inr (8, [.ref a1])), (a1, .inl (cI, 30, .inl f0))] s.heap := hP
  replace hl : lv_has ls 4 [(0, .ref a0)] := hl
  refine lv_lconst (pc := 0) (v := 0) hx hb dX8_allSquares_0 (by decide) ?_
  refine lv_lstore_n (pc := 1) (lv' := [(1, .long 0), (0, .ref a0)]) hx hb dX8_allSquares_1 rfl hl (by decide) rfl (fun ls hl => ?_)
  refine lv_iconst (pc := 2) (v := 0) hx hb dX8_allSquares_2 (by decide) ?_
  refine lv_istore_n (pc := 3) (lv' := [(3, .int 0), (1, .long 0), (0, .ref a0)]) hx hb dX8_allSquares_3 rfl hl (by decide) rfl (fun ls hl => ?_)
  have lp_7 : ∀ (n : Nat) (x_1 : Int32) (y_3 : Int64) (H : Heap) (locs : List Loc) (ls : Array Slot), (0 ≤ x_1.toInt ∧ x_1.toInt ≤ 5) → ((-10737418240) ≤ y_3.toInt ∧ y_3.toInt ≤ 10737418240) → (-2147483648 * x_1.toInt ≤ y_3.toInt ∧ y_3.toInt ≤ 2147483648 * x_1.toInt) → (y_3.toInt = sqT f0 (x_1.toInt).toNat) → (2147483647 - x_1.toInt).toNat < n → va_P D gcl [(a0, .inr (8, [.ref a1])), (a1, .inl (cI, 30, .inl f0))] H → va_D A [(a0, .inr (8, [.ref a1])), (a1, .inl (cI, 30, .inl f0))] → va_S A s.heap H locs → lv_has ls 4 [(3, .int x_1), (1, .long y_3), (0, .ref a0)] → W p l e ({ frames := 2, cells := 0, slots := 0, locals := 46 }) s m args below meth c H locs 0 0 Q (F0 m 4 ls []) := by
    intro n
    induction n with
    | zero => intro x_1 y_3 H locs ls hi_2 hi_4 hi_5 hi_6 hmu; exact absurd hmu (Nat.not_lt_zero _)
    | succ n ih_lp_7 =>
      intro x_1 y_3 H locs ls hi_2 hi_4 hi_5 hi_6 hmu_lp_7 hP hD hS hl
      refine lv_iload_n (pc := 4) hx hb dX8_allSquares_4 rfl (lv_at hl 0 rfl) ?_
      refine lv_iconst (pc := 5) (v := 5) hx hb dX8_allSquares_5 (by decide) ?_
      refine b_icmp_ge (pc := 6) (tgt := 25) hx hb rfl tI_5  dX8_allSquares_6 (by decide) (fun c_8 => ?_) (fun c_8 => ?_)
      ·
        refine lv_lload_n (pc := 25) hx hb dX8_allSquares_25 rfl (lv_at hl 1 rfl) ?_
        exact hret y_3 ((fun _ => 0), (fun _ => (fun _ => 0)), (fun _ => (fun _ => 0)), (fun _ => 0), (fun _ => 0)) dX8_allSquares_26 ⟨(show ((-10737418240) ≤ y_3.toInt ∧ y_3.toInt ≤ 10737418240) from hi_4), (show y_3.toInt = sqT f0 5 from (by have e9 : x_1.toInt = 5 := (by (first | omega | (unfold zBd at *; omega))); have q9 := hi_6; rw [e9] at q9; exact q9))⟩ (g_psub (wc := [(a0, .inr (8, [.ref a1])), (a1, .inl (cI, 30, .inl f0))]) hP [0, 1] rfl) (hD.sub (ws' := [(a0, .inr (8, [.ref a1])), (a1, .inl (cI, 30, .inl f0))]) [0, 1] (by decide) rfl) hS
      ·
        refine lv_lload_n (pc := 9) hx hb dX8_allSquares_9 rfl (lv_at hl 1 rfl) ?_
        refine lv_aload_n (pc := 10) hx hb dX8_allSquares_10 rfl (lv_at hl 2 rfl) ?_
        refine lv_iload_n (pc := 11) hx hb dX8_allSquares_11 rfl (lv_at hl 0 rfl) ?_
        refine lv_iload_n (pc := 12) hx hb dX8_allSquares_12 rfl (lv_at hl 0 rfl) ?_
        refine gc_i (pc := 13) (wc := [(a0, .inr (8, [.ref a1])), (a1, .inl (cI, 30, .inl f0))]) (wr := []) hP hD hS hA [0, 1] [] rfl rfl (by decide) (by decide) (by decide) (fun hPc hDc => va_runV (As := [.int x_1, .int x_1]) (rest := [.long y_3]) ⟨hx, hb, hml, hown, hts⟩ (k_X8_productOf_w l D cB cC cI cJ _ a0 a1 x_1 x_1 f0 (by  (first | omega | (unfold zBd at *; omega))) (by  (first | omega | (unfold zBd at *; omega)))) ⟨gcwB hts tw_799 tw_5 tw_1108 hd_yX8_productOf ⟨Nat.le_of_ble_eq_true rfl, Nat.le_of_ble_eq_true rfl⟩, hts _ tw_797, hts _ tw_798⟩ ⟨gblind, va_recv hK hPc (ci := 8) (q0 := 0) rfl rfl, (gpreS hPc hK hDc hN).2⟩ rfl rfl hl.1 rfl (lv_room (Nat.le_of_ble_eq_true rfl)) dX8_allSquares_13 ⟨Nat.le_of_ble_eq_true rfl, Nat.le_of_ble_eq_true rfl⟩) (fun r_10 u_9 H locs hw_11 hP hD hS => ?_)
        replace hP : va_P D gcl [(a0, .inr (8, [.ref a1])), (a1, .inl (cI, 30, .inl f0))] H := hP
        replace hD : va_D A [(a0, .inr (8, [.ref a1])), (a1, .inl (cI, 30, .inl f0))] := hD
        have hw_12 : (r_10 = dw f0 x_1.toInt x_1.toInt 6) := hw_11
        have rr_10 : zBd r_10.toInt (-2147483648) 2147483647 := n_rng r_10
        refine b_i2l (pc := 16) hx hb rfl dX8_allSquares_16 (fun y_13 ey_13 => ?_)
        have ry_13 : zBd r_10.toInt (-2147483648) 2147483647 := n_rng r_10
        refine b_ladd (pc := 17) hx hb rfl rfl (by (first | omega | (unfold zBd at *; omega))) (by (first | omega | (unfold zBd at *; omega))) dX8_allSquares_17 (fun y_14 ey_14 => ?_)
        refine lv_lstore_n (pc := 18) (lv' := [(1, .long y_14), (3, .int x_1), (0, .ref a0)]) hx hb dX8_allSquares_18 rfl hl (by decide) rfl (fun ls hl => ?_)
        refine b_iinc (pc := 19) hx hb dX8_allSquares_19 hl (k := 1) rfl rfl tI_1 (by (first | omega | (unfold zBd at *; omega))) (by (first | omega | (unfold zBd at *; omega))) (by decide) (fun x_15 ex_15 ls hl => ?_)
        replace hl : lv_has ls 4 [(3, .int x_15), (1, .long y_14), (0, .ref a0)] := hl
        refine lv_goto (pc := 22) (tgt := 4) hx hb dX8_allSquares_22 (by decide) ?_
        exact ih_lp_7 x_15 y_14 _ _ ls (by (first | omega | (unfold zBd at *; omega))) (by (first | omega | (unfold zBd at *; omega))) (by (first | omega | (unfold zBd at *; omega))) (sqT_step hi_6 (by rw [← hw_12]; exact ey_13) (by (first | omega | (unfold zBd at *; omega))) ey_14 (by (first | omega | (unfold zBd at *; omega)))) (by (first | omega | (unfold zBd at *; omega))) hP hD hS (lv_sub hl [0, 1, 2] rfl)
  exact lp_7 _ 0 0 _ _ ls (n_c tI_0 (by decide)) (by have k0 := tI_0; have k1 := tL_0; (first | omega | (unfold zBd at *; omega))) (by have q := tI_0; have q2 := tL_0; (first | omega | (unfold zBd at *; omega))) (tL_0) (Nat.lt_succ_self _) hP hD hS (lv_sub hl [0, 1, 2] rfl)
set_option maxHeartbeats 4000000 in
set_option maxRecDepth 100000 in
theorem k_X8_peakOf (l : Launch) (D : va_G) (cB cC cI cJ : ClassId) (sz : Nat) (a0 a1 : Nat) (x0 : Int32) (f0 : Nat → Int32) (hp1 : (0 ≤ x0.toInt ∧ x0.toInt ≤ 4)) : Met l yX8_peakOf (.code yX8_peakOf cX8_peakOf 4 (some .int) :: lw_gd) ({ frames := 1, cells := 0, slots := 0, locals := 22 }) (gPre D [(cB, .byte), (cC, .char), (cI, .int), (cJ, .long)] [.ref a0, .int x0] [(a0, .inr (8, [.ref a1])), (a1, .inl (cI, 30, .inl f0))] sz) (va_Qi (fun r u => ((((-2147483648) ≤ r.toInt ∧ r.toInt ≤ 2147483647)))) (gB D (va_A [(a0, .inr (8, [.ref a1])), (a1, .inl (cI, 30, .inl f0))] sz) (fun u : gEx => [(a0, .inr (8, [.ref a1])), (a1, .inl (cI, 30, .inl f0))])) (va_A [(a0, .inr (8, [.ref a1])), (a1, .inl (cI, 30, .inl f0))] sz)) 0 0 (va_A [(a0, .inr (8, [.ref a1])), (a1, .inl (cI, 30, .inl f0))] sz) := by
  refine gOf_i (by decide +kernel) (Nat.le_of_ble_eq_true rfl) ?_
  intro p e s m args below meth c ls A Q hx hb hts hown hml hN hK hP hD hA hl hret
  replace hown : s.vm.findClass RX8 = some m.cls := hown
  have hS : va_S A s.heap s.heap [] := va_S.rf
  replace hP : va_P D gcl [(a0, .inr (8, [.ref a1])), (a1, .inl (cI, 30, .inl f0))] s.heap := hP
  replace hl : lv_has ls 4 [(0, .ref a0), (1, .int x0)] := hl
  refine lv_iconst (pc := 0) (v := 0) hx hb dX8_peakOf_0 (by decide) ?_
  refine lv_istore_n (pc := 1) (lv' := [(2, .int 0), (0, .ref a0), (1, .int x0)]) hx hb dX8_peakOf_1 rfl hl (by decide) rfl (fun ls hl => ?_)
  refine lv_iconst (pc := 2) (v := 0) hx hb dX8_peakOf_2 (by decide) ?_
  refine lv_istore_n (pc := 3) (lv' := [(3, .int 0), (2, .int 0), (0, .ref a0), (1, .int x0)]) hx hb dX8_peakOf_3 rfl hl (by decide) rfl (fun ls hl => ?_)
  have lp_5 : ∀ (n : Nat) (x_1 x_3 : Int32) (H : Heap) (locs : List Loc) (ls : Array Slot), (0 ≤ x_1.toInt ∧ x_1.toInt ≤ 2147483647) → (2147483647 - x_1.toInt).toNat < n → va_P D gcl [(a0, .inr (8, [.ref a1])), (a1, .inl (cI, 30, .inl f0))] H → va_D A [(a0, .inr (8, [.ref a1])), (a1, .inl (cI, 30, .inl f0))] → va_S A s.heap H locs → lv_has ls 4 [(3, .int x_1), (2, .int x_3), (0, .ref a0), (1, .int x0)] → W p l e ({ frames := 1, cells := 0, slots := 0, locals := 22 }) s m args below meth c H locs 0 0 Q (F0 m 4 ls []) := by
    intro n
    induction n with
    | zero => intro x_1 x_3 H locs ls hi_2 hmu; exact absurd hmu (Nat.not_lt_zero _)
    | succ n ih_lp_5 =>
      intro x_1 x_3 H locs ls hi_2 hmu_lp_5 hP hD hS hl
      have hi_4 := n_rng x_3
      refine lv_iload_n (pc := 4) hx hb dX8_peakOf_4 rfl (lv_at hl 0 rfl) ?_
      refine lv_bipush (pc := 5) (v := 6) hx hb dX8_peakOf_5 (by decide) ?_
      refine b_icmp_ge (pc := 7) (tgt := 30) hx hb rfl tI_6  dX8_peakOf_7 (by decide) (fun c_6 => ?_) (fun c_6 => ?_)
      ·
        refine lv_iload_n (pc := 30) hx hb dX8_peakOf_30 rfl (lv_at hl 1 rfl) ?_
        exact hret x_3 ((fun _ => 0), (fun _ => (fun _ => 0)), (fun _ => (fun _ => 0)), (fun _ => 0), (fun _ => 0)) dX8_peakOf_31 (show ((((-2147483648) ≤ x_3.toInt ∧ x_3.toInt ≤ 2147483647))) by (first | omega | (unfold zBd at *; omega))) (g_psub (wc := [(a0, .inr (8, [.ref a1])), (a1, .inl (cI, 30, .inl f0))]) hP [0, 1] rfl) (hD.sub (ws' := [(a0, .inr (8, [.ref a1])), (a1, .inl (cI, 30, .inl f0))]) [0, 1] (by decide) rfl) hS
      ·
        refine lv_iload_n (pc := 10) hx hb dX8_peakOf_10 rfl (lv_at hl 1 rfl) ?_
        refine lv_aload_n (pc := 11) hx hb dX8_peakOf_11 rfl (lv_at hl 2 rfl) ?_
        refine lv_iload_n (pc := 12) hx hb dX8_peakOf_12 rfl (lv_at hl 0 rfl) ?_
        refine lv_iload_n (pc := 13) hx hb dX8_peakOf_13 rfl (lv_at hl 3 rfl) ?_
        refine gc_i (pc := 14) (wc := [(a0, .inr (8, [.ref a1])), (a1, .inl (cI, 30, .inl f0))]) (wr := []) hP hD hS hA [0, 1] [] rfl rfl (by decide) (by decide) (by decide) (fun hPc hDc => va_runV (As := [.int x_1, .int x0]) (rest := [.int x_3]) ⟨hx, hb, hml, hown, hts⟩ (k_X8_at l D cB cC cI cJ _ a0 a1 x_1 x0 f0 (by  (first | omega | (unfold zBd at *; omega))) hp1) ⟨gcwB hts tw_791 tw_5 tw_800 hd_yX8_at ⟨Nat.le_of_ble_eq_true rfl, Nat.le_of_ble_eq_true rfl⟩, hts _ tw_789, hts _ tw_790⟩ ⟨gblind, va_recv hK hPc (ci := 8) (q0 := 0) rfl rfl, (gpreS hPc hK hDc hN).2⟩ rfl rfl hl.1 rfl (lv_room (Nat.le_of_ble_eq_true rfl)) dX8_peakOf_14 ⟨Nat.le_of_ble_eq_true rfl, Nat.le_of_ble_eq_true rfl⟩) (fun r_8 u_7 H locs hw_9 hP hD hS => ?_)
        replace hP : va_P D gcl [(a0, .inr (8, [.ref a1])), (a1, .inl (cI, 30, .inl f0))] H := hP
        replace hD : va_D A [(a0, .inr (8, [.ref a1])), (a1, .inl (cI, 30, .inl f0))] := hD
        have hw_10 : ((((-2147483648) ≤ r_8.toInt ∧ r_8.toInt ≤ 2147483647))) := hw_9
        have rr_8 : zBd r_8.toInt (-2147483648) 2147483647 := n_rng r_8
        refine va_mabs (pc := 17) hx hb (hml.trans hl.1.symm) hown (hts _ tw_1331) (hts _ tw_632) (hts _ tw_19) (hts _ tw_633) (Nat.le_of_ble_eq_true rfl) (Nat.le_of_ble_eq_true rfl) (Nat.le_of_ble_eq_true rfl) (Nat.le_of_ble_eq_true rfl) dX8_peakOf_17 ?_
        refine lv_topi (fun x_11 ex_11 => ?_)
        have ex_11 := n_abs rfl ex_11
        have rx_11 : zBd x_11.toInt (-2147483648) 2147483647 := n_rng x_11
        refine va_mmax (pc := 20) hx hb (hml.trans hl.1.symm) hown (hts _ tw_1332) (hts _ tw_885) (hts _ tw_19) (hts _ tw_886) (Nat.le_of_ble_eq_true rfl) (Nat.le_of_ble_eq_true rfl) (Nat.le_of_ble_eq_true rfl) (Nat.le_of_ble_eq_true rfl) dX8_peakOf_20 ?_
        refine lv_topi (fun x_12 ex_12 => ?_)
        have ex_12 := n_max rfl rfl ex_12
        have rx_12 : zBd x_12.toInt (-2147483648) 2147483647 := n_rng x_12
        refine lv_istore_n (pc := 23) (lv' := [(2, .int x_12), (3, .int x_1), (0, .ref a0), (1, .int x0)]) hx hb dX8_peakOf_23 rfl hl (by decide) rfl (fun ls hl => ?_)
        refine b_iinc (pc := 24) hx hb dX8_peakOf_24 hl (k := 1) rfl rfl tI_1 (by (first | omega | (unfold zBd at *; omega))) (by (first | omega | (unfold zBd at *; omega))) (by decide) (fun x_13 ex_13 ls hl => ?_)
        replace hl : lv_has ls 4 [(3, .int x_13), (2, .int x_12), (0, .ref a0), (1, .int x0)] := hl
        refine lv_goto (pc := 27) (tgt := 4) hx hb dX8_peakOf_27 (by decide) ?_
        exact ih_lp_5 x_13 x_12 _ _ ls (by (first | omega | (unfold zBd at *; omega))) (by (first | omega | (unfold zBd at *; omega))) hP hD hS (lv_sub hl [0, 1, 2, 3] rfl)
  exact lp_5 _ 0 0 _ _ ls (n_c tI_0 (by decide)) (Nat.lt_succ_self _) hP hD hS (lv_sub hl [0, 1, 2, 3] rfl)
