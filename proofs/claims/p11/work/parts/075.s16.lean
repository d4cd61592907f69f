theorem om_1269 {a b : Int} (h0 : ((-9223372036854775808) ≤ a)) (h1 : (a ≤ 9223372036854775807)) (h2 : ((-1) ≤ b)) (h3 : (b ≤ 8)) : (((((-9223372036854775808) ≤ a ∧ a ≤ 9223372036854775807) ∧ ((-1) ≤ b ∧ b ≤ 8)))) := by omega
set_option maxHeartbeats 4000000 in
set_option maxRecDepth 100000 in
theorem k_X7_leastWithout (l : Launch) (D : va_G) (cB cC cI cJ : ClassId) (sz : Nat) (a0 a1 a2 a3 a4 a5 a6 a7 a8 : Nat) (x0 x1 x2 x3 x4 : Int32) (y0 : Int64) (g0 : Nat → Int64) (hp1 : (0 ≤ x0.toInt ∧ x0.toInt ≤ 4)) (hp3 : ((-1) ≤ x2.toInt ∧ x2.toInt ≤ 8)) (h_x3 : zBd x3.toInt 0 10) (h_x4 : zBd x4.toInt 0 1) : Met l yX7_leastWithout (.code yX7_leastWithout cX7_leastWithout 7 (some .long) :: lw_gd) ({ frames := 1, cells := 0, slots := 0, locals := 22 }) (gPre D [(cB, .byte), (cC, .char), (cI, .int), (cJ, .long)] [.ref a0, .int x0, .int x1, .int x2] [(a0, .inr (7, [.ref a1, .ref a2, .ref a3, .ref a4, .ref a5, .ref a6, .ref a7, .ref a8, .int x3, .long y0, .int x4])), (a4, .inl (cJ, 40, .inr (.inl g0)))] sz) (va_Ql (fun r u => ((((-9223372036854775808) ≤ r.toInt ∧ r.toInt ≤ 9223372036854775807) ∧ ((-1) ≤ x2.toInt ∧ x2.toInt ≤ 8)))) (gB D (va_A [(a0, .inr (7, [.ref a1, .ref a2, .ref a3, .ref a4, .ref a5, .ref a6, .ref a7, .ref a8, .int x3, .long y0, .int x4])), (a4, .inl (cJ, 40, .inr (.inl g0)))] sz) (fun u : gEx => [(a0, .inr (7, [.ref a1, .ref a2, .ref a3, .ref a4, .ref a5, .ref a6, .ref a7, .ref a8, .int x3, .long y0, .int x4])), (a4, .inl (cJ, 40, .inr (.inl g0)))])) (va_A [(a0, .inr (7, [.ref a1, .ref a2, .ref a3, .ref a4, .ref a5, .ref a6, .ref a7, .ref a8, .int x3, .long y0, .int x4])), (a4, .inl (cJ, 40, .inr (.inl g0)))] sz)) 0 0 (va_A [(a0, .inr (7, [.ref a1, .ref a2, .ref a3, .ref a4, .ref a5, .ref a6, .ref a7, .ref a8, .int x3, .long y0, .int x4])), (a4, .inl (cJ, 40, .inr (.inl g0)))] sz) := by
  refine gOf_l (by decide +kernel) (Nat.le_of_ble_eq_true rfl) ?_
  intro p e s m args below meth c ls A Q hx hb hts hown hml hN hK hP hD hA hl hret
  replace hown : s.vm.findClass RX7 = some m.cls := hown
  have hS : va_S A s.heap s.heap [] := va_S.rf
  replace hP : va_P D gcl [(a0, .inr (7, [.ref a1, .ref a2, .ref a3, .ref a4, .ref a5, .ref a6, .ref a7, .ref a8, .int x3, .long y0, .int x4])), (a4, .inl (cJ, 40, .inr (.inl g0)))] s.heap := hP
  replace hl : lv_has ls 7 [(0, .ref a0), (1, .int x0), (2, .int x1), (3, .int x2)] := hl
  have rx1 : zBd x1.toInt (-2147483648) 2147483647 := n_rng x1
  have ry0 := n_rngL y0
  refine lv_ldc2 (pc := 0) hx hb hown (hts _ tw_874) dX7_leastWithout_0 ?_
  refine lv_lstore (pc := 3) (lv' := [(4, .long 1000000000000000), (0, .ref a0), (1, .int x0), (2, .int x1), (3, .int x2)]) hx hb dX7_leastWithout_3 hl (by decide) rfl (fun ls hl => ?_)
  refine lv_iconst (pc := 5) (v := 0) hx hb dX7_leastWithout_5 (by decide) ?_
  refine lv_istore (pc := 6) (lv' := [(6, .int 0), (4, .long 1000000000000000), (0, .ref a0), (1, .int x0), (2, .int x1), (3, .int x2)]) hx hb dX7_leastWithout_6 hl (by decide) rfl (fun ls hl => ?_)
  have lp_5 : ∀ (n : Nat) (x_1 : Int32) (y_3 : Int64) (H : Heap) (locs : List Loc) (ls : Array Slot), (0 ≤ x_1.toInt ∧ x_1.toInt ≤ 2147483647) → (2147483647 - x_1.toInt).toNat < n → va_P D gcl [(a0, .inr (7, [.ref a1, .ref a2, .ref a3, .ref a4, .ref a5, .ref a6, .ref a7, .ref a8, .int x3, .long y0, .int x4])), (a4, .inl (cJ, 40, .inr (.inl g0)))] H → va_D A [(a0, .inr (7, [.ref a1, .ref a2, .ref a3, .ref a4, .ref a5, .ref a6, .ref a7, .ref a8, .int x3, .long y0, .int x4])), (a4, .inl (cJ, 40, .inr (.inl g0)))] → va_S A s.heap H locs → lv_has ls 7 [(6, .int x_1), (4, .long y_3), (0, .ref a0), (1, .int x0), (2, .int x1), (3, .int x2)] → W p l e ({ frames := 1, cells := 0, slots := 0, locals := 22 }) s m args below meth c H locs 0 0 Q (F0 m 8 ls []) := by
    intro n
    induction n with
    | zero => intro x_1 y_3 H locs ls hi_2 hmu; exact absurd hmu (Nat.not_lt_zero _)
    | succ n ih_lp_5 =>
      intro x_1 y_3 H locs ls hi_2 hmu_lp_5 hP hD hS hl
      have hi_4 := n_rngL y_3
      refine lv_iload (pc := 8) hx hb dX7_leastWithout_8 (lv_at hl 0 rfl) ?_
      refine lv_iload_n (pc := 10) hx hb dX7_leastWithout_10 rfl (lv_at hl 5 rfl) ?_
      refine b_icmp_ge (pc := 11) (tgt := 40) hx hb rfl rfl  dX7_leastWithout_11 (by decide) (fun c_6 => ?_) (fun c_6 => ?_)
      ·
        refine lv_lload (pc := 40) hx hb dX7_leastWithout_40 (lv_at hl 1 rfl) ?_
        exact hret y_3 ((fun _ => 0), (fun _ => (fun _ => 0)), (fun _ => (fun _ => 0)), (fun _ => 0), (fun _ => 0)) dX7_leastWithout_42 (show ((((-9223372036854775808) ≤ y_3.toInt ∧ y_3.toInt ≤ 9223372036854775807) ∧ ((-1) ≤ x2.toInt ∧ x2.toInt ≤ 8))) from (by first | exact (om_1269 hi_4.1 hi_4.2 hp3.1 hp3.2) | ((first | omega | (unfold zBd at *; omega))))) (g_psub (wc := [(a0, .inr (7, [.ref a1, .ref a2, .ref a3, .ref a4, .ref a5, .ref a6, .ref a7, .ref a8, .int x3, .long y0, .int x4])), (a4, .inl (cJ, 40, .inr (.inl g0)))]) hP [0, 1] rfl) (hD.sub (ws' := [(a0, .inr (7, [.ref a1, .ref a2, .ref a3, .ref a4, .ref a5, .ref a6, .ref a7, .ref a8, .int x3, .long y0, .int x4])), (a4, .inl (cJ, 40, .inr (.inl g0)))]) [0, 1] (by decide) rfl) hS
      ·
        refine lv_iload (pc := 14) hx hb dX7_leastWithout_14 (lv_at hl 0 rfl) ?_
        refine lv_iload_n (pc := 16) hx hb dX7_leastWithout_16 rfl (lv_at hl 4 rfl) ?_
        refine b_icmp_eq (pc := 17) (tgt := 34) hx hb rfl rfl  dX7_leastWithout_17 (by decide) (fun c_7 => ?_) (fun c_7 => ?_)
        ·
          refine b_iinc (pc := 34) hx hb dX7_leastWithout_34 hl (k := 0) rfl rfl tI_1 (by first | exact (om_2 hi_2.1) | ((first | omega | (unfold zBd at *; omega)))) (by first | exact (om_1073 c_6 hp3.2) | ((first | omega | (unfold zBd at *; omega)))) (by decide) (fun x_8 ex_8 ls hl => ?_)
          replace hl : lv_has ls 7 [(6, .int x_8), (4, .long y_3), (0, .ref a0), (1, .int x0), (2, .int x1), (3, .int x2)] := hl
          refine lv_goto (pc := 37) (tgt := 8) hx hb dX7_leastWithout_37 (by decide) ?_
          exact ih_lp_5 x_8 y_3 _ _ ls (by first | exact (om_1074 ex_8 hi_2.1 c_6 hp3.2) | ((first | omega | (unfold zBd at *; omega)))) (by (first | omega | (unfold zBd at *; omega))) hP hD hS (lv_sub hl [0, 1, 2, 3, 4, 5] rfl)
        ·
          refine lv_lload (pc := 20) hx hb dX7_leastWithout_20 (lv_at hl 1 rfl) ?_
          refine lv_aload_n (pc := 22) hx hb dX7_leastWithout_22 rfl (lv_at hl 2 rfl) ?_
          refine lv_iload_n (pc := 23) hx hb dX7_leastWithout_23 rfl (lv_at hl 3 rfl) ?_
          refine lv_iload (pc := 24) hx hb dX7_leastWithout_24 (lv_at hl 0 rfl) ?_
          refine gd_l (pc := 26) (wc := [(a0, .inr (7, [.ref a1, .ref a2, .ref a3, .ref a4, .ref a5, .ref a6, .ref a7, .ref a8, .int x3, .long y0, .int x4])), (a4, .inl (cJ, 40, .inr (.inl g0)))]) hP hD hS hA [0, 1] rfl (by decide +kernel) (fun _ => by rfl) (fun hPc hDc => va_runV (As := [.int x0, .int x_1]) (rest := [.long y_3]) ⟨hx, hb, hml, hown, hts⟩ (k_X7_leastWith l D cB cC cI cJ _ a0 a1 a2 a3 a4 a5 a6 a7 a8 x0 x_1 x3 x4 y0 g0 hp1 (by first | exact (om_1248 hi_2.1 c_6 hp3.2) | ((first | omega | (unfold zBd at *; omega)))) h_x3 h_x4) ⟨gcwB hts tw_1012 tw_7 tw_1031 hd_yX7_leastWith ⟨Nat.le_of_ble_eq_true rfl, Nat.le_of_ble_eq_true rfl⟩, hts _ tw_1010, hts _ tw_1011⟩ ⟨gblind, va_recv hK hPc (ci := 7) (q0 := 0) rfl rfl, (gpreS hPc hK hDc hN).2⟩ rfl rfl hl.1 rfl (lv_room (Nat.le_of_ble_eq_true rfl)) dX7_leastWithout_26 ⟨Nat.le_of_ble_eq_true rfl, Nat.le_of_ble_eq_true rfl⟩) (fun r_10 u_9 H locs hw_11 hP hD hS => ?_)
          replace hP : va_P D gcl [(a0, .inr (7, [.ref a1, .ref a2, .ref a3, .ref a4, .ref a5, .ref a6, .ref a7, .ref a8, .int x3, .long y0, .int x4])), (a4, .inl (cJ, 40, .inr (.inl g0)))] H := hP
          replace hD : va_D A [(a0, .inr (7, [.ref a1, .ref a2, .ref a3, .ref a4, .ref a5, .ref a6, .ref a7, .ref a8, .int x3, .long y0, .int x4])), (a4, .inl (cJ, 40, .inr (.inl g0)))] := hD
          have hw_12 : ((((-9223372036854775808) ≤ r_10.toInt ∧ r_10.toInt ≤ 9223372036854775807))) := hw_11
          have rr_10 := n_rngL r_10
          refine va_mmin_long (pc := 29) hx hb (hml.trans hl.1.symm) hown (hts _ tw_928) (hts _ tw_857) (hts _ tw_19) (hts _ tw_858) (Nat.le_of_ble_eq_true rfl) (Nat.le_of_ble_eq_true rfl) (Nat.le_of_ble_eq_true rfl) (Nat.le_of_ble_eq_true rfl) dX7_leastWithout_29 ?_
          refine lv_topl (fun y_13 ey_13 => ?_)
          have ey_13 := n_minL rfl rfl ey_13
          have ry_13 := n_rngL y_13
          refine lv_lstore (pc := 32) (lv' := [(4, .long y_13), (6, .int x_1), (0, .ref a0), (1, .int x0), (2, .int x1), (3, .int x2)]) hx hb dX7_leastWithout_32 hl (by decide) rfl (fun ls hl => ?_)
          refine b_iinc (pc := 34) hx hb dX7_leastWithout_34 hl (k := 1) rfl rfl tI_1 (by first | exact (om_2 hi_2.1) | ((first | omega | (unfold zBd at *; omega)))) (by first | exact (om_1073 c_6 hp3.2) | ((first | omega | (unfold zBd at *; omega)))) (by decide) (fun x_14 ex_14 ls hl => ?_)
          replace hl : lv_has ls 7 [(6, .int x_14), (4, .long y_13), (0, .ref a0), (1, .int x0), (2, .int x1), (3, .int x2)] := hl
          refine lv_goto (pc := 37) (tgt := 8) hx hb dX7_leastWithout_37 (by decide) ?_
          exact ih_lp_5 x_14 y_13 _ _ ls (by first | exact (om_1074 ex_14 hi_2.1 c_6 hp3.2) | ((first | omega | (unfold zBd at *; omega)))) (by (first | omega | (unfold zBd at *; omega))) hP hD hS (lv_sub hl [0, 1, 2, 3, 4, 5] rfl)
  exact lp_5 _ 0 1000000000000000 _ _ ls (n_c tI_0 (by decide)) (Nat.lt_succ_self _) hP hD hS (lv_sub hl [0, 1, 2, 3, 4, 5] rfl)
set_option maxHeartbeats 4000000 in
set_option maxRecDepth 100000 in
theorem k_J7_fill_53178_5 (l : Launch) (D : va_G) (cB cC cI cJ : ClassId) (sz : Nat) (a0 : Nat) (x0 : Int32) (f0 : Nat → Int32) : Met l yJ7_fill_53178 (.code yJ7_fill_53178 cJ7_fill_53178 4 none :: lw_gd) ({ frames := 0, cells := 0, slots := 0, locals := 0 }) (gPre D [(cB, .byte), (cC, .char), (cI, .int), (cJ, .long)] [.ref a0, .int x0] [(a0, .inl (cI, 5, .inl f0))] sz) (va_Qv (fun u => True) (gB D (va_A [(a0, .inl (cI, 5, .inl f0))] sz) (fun u : gEx => [(a0, .inl (cI, 5, .inl (u.2.1 0)))])) (va_A [(a0, .inl (cI, 5, .inl f0))] sz)) 0 0 (va_A [(a0, .inl (cI, 5, .inl f0))] sz) := by
  refine gOf_v (by decide +kernel) (Nat.le_of_ble_eq_true rfl) ?_
  intro p e s m args below meth c ls A Q hx hb hts hown hml hN hK hP hD hA hl hret
  replace hown : s.vm.findClass RJ7 = some m.cls := hown
  have hS : va_S A s.heap s.heap [] := va_S.rf
  replace hP : va_P D gcl [(a0, .inl (cI, 5, .inl f0))] s.heap := hP
  replace hl : lv_has ls 4 [(0, .ref a0), (1, .int x0)] := hl
  have rx0 : zBd x0.toInt (-2147483648) 2147483647 := n_rng x0
  refine lv_iconst (pc := 0) (v := 0) hx hb dJ7_fill_53178_0 (by decide) ?_
  refine lv_istore_n (pc := 1) (lv' := [(2, .int 0), (0, .ref a0), (1, .int x0)]) hx hb dJ7_fill_53178_1 rfl hl (by decide) rfl (fun ls hl => ?_)
  refine lv_aload_n (pc := 2) hx hb dJ7_fill_53178_2 rfl (lv_at hl 1 rfl) ?_
  refine va_alen (pc := 3) (v := 5) hx hb hK hP 0 2 rfl rfl rfl dJ7_fill_53178_3 ?_
  refine lv_istore_n (pc := 4) (lv' := [(3, .int 5), (2, .int 0), (0, .ref a0), (1, .int x0)]) hx hb dJ7_fill_53178_4 rfl hl (by decide) rfl (fun ls hl => ?_)
  have lp_4 : ∀ (n : Nat) (x_1 : Int32) (f_3 : Nat → Int32) (H : Heap) (locs : List Loc) (ls : Array Slot), (0 ≤ x_1.toInt ∧ x_1.toInt ≤ 2147483647) → (2147483647 - x_1.toInt).toNat < n → va_P D gcl [(a0, .inl (cI, 5, .inl f_3))] H → va_D A [(a0, .inl (cI, 5, .inl f_3))] → va_S A s.heap H locs → lv_has ls 4 [(3, .int 5), (2, .int x_1), (0, .ref a0), (1, .int x0)] → W p l e ({ frames := 0, cells := 0, slots := 0, locals := 0 }) s m args below meth c H locs 0 0 Q (F0 m 5 ls []) := by
    intro n
    induction n with
    | zero => intro x_1 f_3 H locs ls hi_2 hmu; exact absurd hmu (Nat.not_lt_zero _)
    | succ n ih_lp_4 =>
      intro x_1 f_3 H locs ls hi_2 hmu_lp_4 hP hD hS hl
      refine lv_iload_n (pc := 5) hx hb dJ7_fill_53178_5 rfl (lv_at hl 1 rfl) ?_
      refine lv_iload_n (pc := 6) hx hb dJ7_fill_53178_6 rfl (lv_at hl 0 rfl) ?_
      refine b_icmp_ge (pc := 7) (tgt := 20) hx hb rfl tI_5  dJ7_fill_53178_7 (by decide) (fun c_5 => ?_) (fun c_5 => ?_)
      ·
        exact hret ((fun _ => 0), (fun k => [f_3].getD k (fun _ => 0)), (fun _ => (fun _ => 0)), (fun _ => 0), (fun _ => 0)) dJ7_fill_53178_20 trivial (g_psub (wc := [(a0, .inl (cI, 5, .inl f_3))]) hP [0] rfl) (hD.sub (ws' := [(a0, .inl (cI, 5, .inl f_3))]) [0] (by decide) rfl) hS
      ·
        refine lv_aload_n (pc := 10) hx hb dJ7_fill_53178_10 rfl (lv_at hl 2 rfl) ?_
        refine lv_iload_n (pc := 11) hx hb dJ7_fill_53178_11 rfl (lv_at hl 1 rfl) ?_
        refine lv_iload_n (pc := 12) hx hb dJ7_fill_53178_12 rfl (lv_at hl 3 rfl) ?_
        refine g_iastore (pc := 13) hx hb hK hP hD hS 0 2 rfl rfl (n_in rfl (by first | exact (om_0 hi_2.1) | ((first | omega | (unfold zBd at *; omega)))) (by first | exact (om_435 c_5) | ((first | omega | (unfold zBd at *; omega))))) dJ7_fill_53178_13 (fun f_6 H locs hP hD hS => ?_)
        replace hP : va_P D gcl [(a0, .inl (cI, 5, .inl f_6))] H := hP
        replace hD : va_D A [(a0, .inl (cI, 5, .inl f_6))] := hD
        refine b_iinc (pc := 14) hx hb dJ7_fill_53178_14 hl (k := 1) rfl rfl tI_1 (by first | exact (om_2 hi_2.1) | ((first | omega | (unfold zBd at *; omega)))) (by first | exact (om_410 c_5) | ((first | omega | (unfold zBd at *; omega)))) (by decide) (fun x_7 ex_7 ls hl => ?_)
        replace hl : lv_has ls 4 [(2, .int x_7), (3, .int 5), (0, .ref a0), (1, .int x0)] := hl
        refine lv_goto (pc := 17) (tgt := 5) hx hb dJ7_fill_53178_17 (by decide) ?_
        exact ih_lp_4 x_7 f_6 _ _ ls (by first | exact (om_411 ex_7 hi_2.1 c_5) | ((first | omega | (unfold zBd at *; omega)))) (by (first | omega | (unfold zBd at *; omega))) hP hD hS (lv_sub hl [1, 0, 2, 3] rfl)
  exact lp_4 _ 0 f0 _ _ ls (n_c tI_0 (by decide)) (Nat.lt_succ_self _) hP hD hS (lv_sub hl [0, 1, 2, 3] rfl)
set_option maxHeartbeats 4000000 in
set_option maxRecDepth 100000 in
theorem k_J7_fill_d0a16_5 (l : Launch) (D : va_G) (cB cC cI cJ : ClassId) (sz : Nat) (a0 : Nat) (y0 : Int64) (g0 : Nat → Int64) : Met l yJ7_fill_d0a16 (.code yJ7_fill_d0a16 cJ7_fill_d0a16 5 none :: lw_gd) ({ frames := 0, cells := 0, slots := 0, locals := 0 }) (gPre D [(cB, .byte), (cC, .char), (cI, .int), (cJ, .long)] [.ref a0, .long y0] [(a0, .inl (cJ, 5, .inr (.inl g0)))] sz) (va_Qv (fun u => True) (gB D (va_A [(a0, .inl (cJ, 5, .inr (.inl g0)))] sz) (fun u : gEx => [(a0, .inl (cJ, 5, .inr (.inl (u.2.2.1 0))))])) (va_A [(a0, .inl (cJ, 5, .inr (.inl g0)))] sz)) 0 0 (va_A [(a0, .inl (cJ, 5, .inr (.inl g0)))] sz) := by
  refine gOf_v (by decide +kernel) (Nat.le_of_ble_eq_true rfl) ?_
  intro p e s m args below meth c ls A Q hx hb hts hown hml hN hK hP hD hA hl hret
  replace hown : s.vm.findClass RJ7 = some m.cls := hown
  have hS : va_S A s.heap s.heap [] := va_S.rf
  replace hP : va_P D gcl [(a0, .inl (cJ, 5, .inr (.inl g0)))] s.heap := hP
  replace hl : lv_has ls 5 [(0, .ref a0), (1, .long y0)] := hl
  have ry0 := n_rngL y0
  refine lv_iconst (pc := 0) (v := 0) hx hb dJ7_fill_d0a16_0 (by decide) ?_
  refine lv_istore_n (pc := 1) (lv' := [(3, .int 0), (0, .ref a0), (1, .long y0)]) hx hb dJ7_fill_d0a16_1 rfl hl (by decide) rfl (fun ls hl => ?_)
  refine lv_aload_n (pc := 2) hx hb dJ7_fill_d0a16_2 rfl (lv_at hl 1 rfl) ?_
  refine va_alen (pc := 3) (v := 5) hx hb hK hP 0 3 rfl rfl rfl dJ7_fill_d0a16_3 ?_
  refine lv_istore (pc := 4) (lv' := [(4, .int 5), (3, .int 0), (0, .ref a0), (1, .long y0)]) hx hb dJ7_fill_d0a16_4 hl (by decide) rfl (fun ls hl => ?_)
  have lp_4 : ∀ (n : Nat) (x_1 : Int32) (g_3 : Nat → Int64) (H : Heap) (locs : List Loc) (ls : Array Slot), (0 ≤ x_1.toInt ∧ x_1.toInt ≤ 2147483647) → (2147483647 - x_1.toInt).toNat < n → va_P D gcl [(a0, .inl (cJ, 5, .inr (.inl g_3)))] H → va_D A [(a0, .inl (cJ, 5, .inr (.inl g_3)))] → va_S A s.heap H locs → lv_has ls 5 [(4, .int 5), (3, .int x_1), (0, .ref a0), (1, .long y0)] → W p l e ({ frames := 0, cells := 0, slots := 0, locals := 0 }) s m args below meth c H locs 0 0 Q (F0 m 6 ls []) := by
    intro n
    induction n with
    | zero => intro x_1 g_3 H locs ls hi_2 hmu; exact absurd hmu (Nat.not_lt_zero _)
    | succ n ih_lp_4 =>
      intro x_1 g_3 H locs ls hi_2 hmu_lp_4 hP hD hS hl
      refine lv_iload_n (pc := 6) hx hb dJ7_fill_d0a16_6 rfl (lv_at hl 1 rfl) ?_
      refine lv_iload (pc := 7) hx hb dJ7_fill_d0a16_7 (lv_at hl 0 rfl) ?_
      refine b_icmp_ge (pc := 9) (tgt := 22) hx hb rfl tI_5  dJ7_fill_d0a16_9 (by decide) (fun c_5 => ?_) (fun c_5 => ?_)
      ·
        exact hret ((fun _ => 0), (fun _ => (fun _ => 0)), (fun k => [g_3].getD k (fun _ => 0)), (fun _ => 0), (fun _ => 0)) dJ7_fill_d0a16_22 trivial (g_psub (wc := [(a0, .inl (cJ, 5, .inr (.inl g_3)))]) hP [0] rfl) (hD.sub (ws' := [(a0, .inl (cJ, 5, .inr (.inl g_3)))]) [0] (by decide) rfl) hS
      ·
        refine lv_aload_n (pc := 12) hx hb dJ7_fill_d0a16_12 rfl (lv_at hl 2 rfl) ?_
        refine lv_iload_n (pc := 13) hx hb dJ7_fill_d0a16_13 rfl (lv_at hl 1 rfl) ?_
        refine lv_lload_n (pc := 14) hx hb dJ7_fill_d0a16_14 rfl (lv_at hl 3 rfl) ?_
        refine g_lastore (pc := 15) hx hb hK hP hD hS 0 3 rfl rfl (n_in rfl (by first | exact (om_0 hi_2.1) | ((first | omega | (unfold zBd at *; omega)))) (by first | exact (om_435 c_5) | ((first | omega | (unfold zBd at *; omega))))) dJ7_fill_d0a16_15 (fun g_6 H locs hP hD hS => ?_)
        replace hP : va_P D gcl [(a0, .inl (cJ, 5, .inr (.inl g_6)))] H := hP
        replace hD : va_D A [(a0, .inl (cJ, 5, .inr (.inl g_6)))] := hD
        refine b_iinc (pc := 16) hx hb dJ7_fill_d0a16_16 hl (k := 1) rfl rfl tI_1 (by first | exact (om_2 hi_2.1) | ((first | omega | (unfold zBd at *; omega)))) (by first | exact (om_410 c_5) | ((first | omega | (unfold zBd at *; omega)))) (by decide) (fun x_7 ex_7 ls hl => ?_)
        replace hl : lv_has ls 5 [(3, .int x_7), (4, .int 5), (0, .ref a0), (1, .long y0)] := hl
        refine lv_goto (pc := 19) (tgt := 6) hx hb dJ7_fill_d0a16_19 (by decide) ?_
        exact ih_lp_4 x_7 g_6 _ _ ls (by first | exact (om_411 ex_7 hi_2.1 c_5) | ((first | omega | (unfold zBd at *; omega)))) (by (first | omega | (unfold zBd at *; omega))) hP hD hS (lv_sub hl [1, 0, 2, 3] rfl)
  exact lp_4 _ 0 g0 _ _ ls (n_c tI_0 (by decide)) (Nat.lt_succ_self _) hP hD hS (lv_sub hl [0, 1, 2, 3] rfl)
theorem om_1270 {a b : Int} (h0 : (a ≤ b)) (h1 : (b ≤ 4)) : (a < (5 : Nat)) := by omega
theorem om_1271 {a b c : Int} (h0 : (0 ≤ b)) (h1 : (a = c * 5)) (h2 : (0 ≤ c)) : (-2147483648 ≤ a + b) := by omega
theorem om_1272 {a b c d : Int} (h0 : (b ≤ c)) (h1 : (a = d * 5)) (h2 : (c ≤ 4)) (h3 : (d ≤ 4)) : (a + b ≤ 2147483647) := by omega
theorem om_1273 {a b c d : Int} (h0 : (a = b + c)) (h1 : (0 ≤ c)) (h2 : (b = d * 5)) (h3 : (0 ≤ d)) : (0 ≤ a) := by omega
theorem om_1274 {a b c d e : Int} (h0 : (a = b + c)) (h1 : (c ≤ d)) (h2 : (b = e * 5)) (h3 : (d ≤ 4)) (h4 : (e ≤ 4)) : (a < (25 : Nat)) := by omega
set_option maxHeartbeats 4000000 in
set_option maxRecDepth 100000 in
theorem k_X3_move (l : Launch) (D : va_G) (cB cC cI cJ : ClassId) (sz : Nat) (a0 a1 a2 a3 a4 a5 a6 a7 a8 a9 a10 a11 a12 a13 : Nat) (x0 x1 x2 : Int32) (y0 y1 y2 y3 : Int64) (g0 g1 : Nat → Int64) (hp1 : (0 ≤ x0.toInt ∧ x0.toInt ≤ 4)) (h_x1 : zBd x1.toInt 0 1) (h_x2 : zBd x2.toInt 0 4) : Met l yX3_move (.code yX3_move cX3_move 6 none :: lw_gd) ({ frames := 0, cells := 0, slots := 0, locals := 0 }) (gPre D [(cB, .byte), (cC, .char), (cI, .int), (cJ, .long)] [.ref a0, .int x0, .long y0] [(a0, .inr (3, [.ref a1, .ref a2, .ref a3, .ref a4, .ref a5, .ref a6, .long y1, .int x1, .long y2, .long y3])), (a6, .inl (cJ, 5, .inr (.inl g0))), (a1, .inr (10, [.ref a7, .ref a8, .ref a9, .ref a10, .ref a11, .ref a12, .ref a13, .int x2])), (a7, .inl (cJ, 25, .inr (.inl g1)))] sz) (va_Qv (fun u => (((0 ≤ x2.toInt ∧ x2.toInt ≤ 4)))) (gB D (va_A [(a0, .inr (3, [.ref a1, .ref a2, .ref a3, .ref a4, .ref a5, .ref a6, .long y1, .int x1, .long y2, .long y3])), (a6, .inl (cJ, 5, .inr (.inl g0))), (a1, .inr (10, [.ref a7, .ref a8, .ref a9, .ref a10, .ref a11, .ref a12, .ref a13, .int x2])), (a7, .inl (cJ, 25, .inr (.inl g1)))] sz) (fun u : gEx => [(a0, .inr (3, [.ref a1, .ref a2, .ref a3, .ref a4, .ref a5, .ref a6, .long (u.2.2.2.2 0), .int x1, .long y2, .long y3])), (a6, .inl (cJ, 5, .inr (.inl (u.2.2.1 0)))), (a1, .inr (10, [.ref a7, .ref a8, .ref a9, .ref a10, .ref a11, .ref a12, .ref a13, .int x2])), (a7, .inl (cJ, 25, .inr (.inl g1)))])) (va_A [(a0, .inr (3, [.ref a1, .ref a2, .ref a3, .ref a4, .ref a5, .ref a6, .long y1, .int x1, .long y2, .long y3])), (a6, .inl (cJ, 5, .inr (.inl g0))), (a1, .inr (10, [.ref a7, .ref a8, .ref a9, .ref a10, .ref a11, .ref a12, .ref a13, .int x2])), (a7, .inl (cJ, 25, .inr (.inl g1)))] sz)) 0 0 (va_A [(a0, .inr (3, [.ref a1, .ref a2, .ref a3, .ref a4, .ref a5, .ref a6, .long y1, .int x1, .long y2, .long y3])), (a6, .inl (cJ, 5, .inr (.inl g0))), (a1, .inr (10, [.ref a7, .ref a8, .ref a9, .ref a10, .ref a11, .ref a12, .ref a13, .int x2])), (a7, .inl (cJ, 25, .inr (.inl g1)))] sz) := by
  refine gOf_v (by decide +kernel) (Nat.le_of_ble_eq_true rfl) ?_
  intro p e s m args below meth c ls A Q hx hb hts hown hml hN hK hP hD hA hl hret
  replace hown : s.vm.findClass RX3 = some m.cls := hown
  have hS : va_S A s.heap s.heap [] := va_S.rf
  replace hP : va_P D gcl [(a0, .inr (3, [.ref a1, .ref a2, .ref a3, .ref a4, .ref a5, .ref a6, .long y1, .int x1, .long y2, .long y3])), (a6, .inl (cJ, 5, .inr (.inl g0))), (a1, .inr (10, [.ref a7, .ref a8, .ref a9, .ref a10, .ref a11, .ref a12, .ref a13, .int x2])), (a7, .inl (cJ, 25, .inr (.inl g1)))] s.heap := hP
  replace hl : lv_has ls 6 [(0, .ref a0), (1, .int x0), (2, .long y0)] := hl
  have ry0 := n_rngL y0
  have ry1 := n_rngL y1
  have ry2 := n_rngL y2
  have ry3 := n_rngL y3
  refine lv_iload_n (pc := 0) hx hb dX3_move_0 rfl (lv_at hl 1 rfl) ?_
  refine lv_iconst (pc := 1) (v := 5) hx hb dX3_move_1 (by decide) ?_
  refine b_imul (pc := 2) hx hb rfl tI_5 (by first | exact (om_330 hp1.1) | ((first | omega | (unfold zBd at *; omega)))) (by first | exact (om_1162 hp1.2) | ((first | omega | (unfold zBd at *; omega)))) dX3_move_2 (fun x_1 ex_1 => ?_)
  refine lv_istore (pc := 3) (lv' := [(4, .int x_1), (0, .ref a0), (1, .int x0), (2, .long y0)]) hx hb dX3_move_3 hl (by decide) rfl (fun ls hl => ?_)
  refine lv_aload_n (pc := 5) hx hb dX3_move_5 rfl (lv_at hl 1 rfl) ?_
  refine lv_dup (pc := 6) hx hb dX3_move_6 rfl ?_
  refine va_get (pc := 7) (ci := 3) (v := .long y1) (C := RX3) (T := TX3) (N := 10) hx hb hts iX3 hown hK hP 0 rfl rfl 6 (by decide) (hts _ tw_355) (fun _ h9 => h9) rfl dX3_move_7 ?_
  refine lv_lload_n (pc := 10) hx hb dX3_move_10 rfl (lv_at hl 3 rfl) ?_
  refine lv_ldc2 (pc := 11) hx hb hown (hts _ tw_1255) dX3_move_11 ?_
  refine lv_aload_n (pc := 14) hx hb dX3_move_14 rfl (lv_at hl 1 rfl) ?_
  refine va_get (pc := 15) (ci := 3) (v := .ref a6) (C := RX3) (T := TX3) (N := 10) hx hb hts iX3 hown hK hP 0 rfl rfl 5 (by decide) (hts _ tw_354) (fun _ h9 => h9) rfl dX3_move_15 ?_
  refine lv_iload_n (pc := 18) hx hb dX3_move_18 rfl (lv_at hl 2 rfl) ?_
  refine va_lald (pc := 19) hx hb hK hP 1 3 rfl rfl (n_in rfl (by first | exact (om_0 hp1.1) | ((first | omega | (unfold zBd at *; omega)))) (by first | exact (om_1137 hp1.2) | ((first | omega | (unfold zBd at *; omega))))) dX3_move_19 ?_
  refine lv_topl (fun y_2 ey_2 => ?_)
  have ry_2 := n_rngL y_2
  refine lv_lmul (pc := 20) hx hb dX3_move_20 ?_
  refine lv_topl (fun y_3 _ => ?_)
  have ry_3 := n_rngL y_3
  refine lv_lload_n (pc := 21) hx hb dX3_move_21 rfl (lv_at hl 3 rfl) ?_
  refine lv_aload_n (pc := 22) hx hb dX3_move_22 rfl (lv_at hl 1 rfl) ?_
  refine va_get (pc := 23) (ci := 3) (v := .ref a1) (C := RX3) (T := TX3) (N := 10) hx hb hts iX3 hown hK hP 0 rfl rfl 0 (by decide) (hts _ tw_348) (fun _ h9 => h9) rfl dX3_move_23 ?_
  refine va_getN (pc := 26) (ci := 10) (v := .ref a7) (C := RX10) (T := TX10) (N := 8) hx hb hts iX10 hown hK hP 2 rfl rfl 0 (by decide) (va_Nw.use rfl (hN _ tn_208)) (fun _ h9 => h9) rfl dX3_move_26 ?_
  refine lv_iload (pc := 29) hx hb dX3_move_29 (lv_at hl 0 rfl) ?_
  refine lv_iload_n (pc := 31) hx hb dX3_move_31 rfl (lv_at hl 2 rfl) ?_
  refine b_iadd (pc := 32) hx hb rfl rfl (by first | exact (om_406 ex_1 hp1.1) | ((first | omega | (unfold zBd at *; omega)))) (by first | exact (om_1163 ex_1 hp1.2) | ((first | omega | (unfold zBd at *; omega)))) dX3_move_32 (fun x_4 ex_4 => ?_)
  refine va_lald (pc := 33) hx hb hK hP 3 3 rfl rfl (n_in rfl (by first | exact (om_408 ex_4 ex_1 hp1.1) | ((first | omega | (unfold zBd at *; omega)))) (by first | exact (om_1164 ex_4 ex_1 hp1.2) | ((first | omega | (unfold zBd at *; omega))))) dX3_move_33 ?_
  refine lv_topl (fun y_5 ey_5 => ?_)
  have ry_5 := n_rngL y_5
  refine lv_lmul (pc := 34) hx hb dX3_move_34 ?_
  refine lv_topl (fun y_6 _ => ?_)
  have ry_6 := n_rngL y_6
  refine lv_ladd (pc := 35) hx hb dX3_move_35 ?_
  refine lv_topl (fun y_7 _ => ?_)
  have ry_7 := n_rngL y_7
  refine lv_lmul (pc := 36) hx hb dX3_move_36 ?_
  refine lv_topl (fun y_8 _ => ?_)
  have ry_8 := n_rngL y_8
  refine lv_ladd (pc := 37) hx hb dX3_move_37 ?_
  refine lv_topl (fun y_9 _ => ?_)
  have ry_9 := n_rngL y_9
  refine va_put (pc := 38) (ci := 3) (v := .long y_9) (ty := .long) (C := RX3) (T := TX3) (N := 10) hx hb hts iX3 tyX3 tyX3_ok nmX3 hown hK hP hD hS 0 rfl rfl 6 (by decide) (hts _ tw_355) (fun _ h9 => h9) rfl (by decide +kernel) rfl rfl (Nat.le_of_ble_eq_true rfl) dX3_move_38 (fun H locs hP hD hS => ?_)
  replace hP : va_P D gcl [(a0, .inr (3, [.ref a1, .ref a2, .ref a3, .ref a4, .ref a5, .ref a6, .long y_9, .int x1, .long y2, .long y3])), (a6, .inl (cJ, 5, .inr (.inl g0))), (a1, .inr (10, [.ref a7, .ref a8, .ref a9, .ref a10, .ref a11, .ref a12, .ref a13, .int x2])), (a7, .inl (cJ, 25, .inr (.inl g1)))] H := hP
  replace hD : va_D A [(a0, .inr (3, [.ref a1, .ref a2, .ref a3, .ref a4, .ref a5, .ref a6, .long y_9, .int x1, .long y2, .long y3])), (a6, .inl (cJ, 5, .inr (.inl g0))), (a1, .inr (10, [.ref a7, .ref a8, .ref a9, .ref a10, .ref a11, .ref a12, .ref a13, .int x2])), (a7, .inl (cJ, 25, .inr (.inl g1)))] := hD
  refine lv_iconst (pc := 41) (v := 0) hx hb dX3_move_41 (by decide) ?_
  refine lv_istore (pc := 42) (lv' := [(5, .int 0), (4, .int x_1), (0, .ref a0), (1, .int x0), (2, .long y0)]) hx hb dX3_move_42 hl (by decide) rfl (fun ls hl => ?_)
  have lp_13 : ∀ (n : Nat) (x_10 : Int32) (g_12 : Nat → Int64) (H : Heap) (locs : List Loc) (ls : Array Slot), (0 ≤ x_10.toInt ∧ x_10.toInt ≤ 2147483647) → (2147483647 - x_10.toInt).toNat < n → va_P D gcl [(a0, .inr (3, [.ref a1, .ref a2, .ref a3, .ref a4, .ref a5, .ref a6, .long y_9, .int x1, .long y2, .long y3])), (a6, .inl (cJ, 5, .inr (.inl g_12))), (a1, .inr (10, [.ref a7, .ref a8, .ref a9, .ref a10, .ref a11, .ref a12, .ref a13, .int x2])), (a7, .inl (cJ, 25, .inr (.inl g1)))] H → va_D A [(a0, .inr (3, [.ref a1, .ref a2, .ref a3, .ref a4, .ref a5, .ref a6, .long y_9, .int x1, .long y2, .long y3])), (a6, .inl (cJ, 5, .inr (.inl g_12))), (a1, .inr (10, [.ref a7, .ref a8, .ref a9, .ref a10, .ref a11, .ref a12, .ref a13, .int x2])), (a7, .inl (cJ, 25, .inr (.inl g1)))] → va_S A s.heap H locs → lv_has ls 6 [(5, .int x_10), (4, .int x_1), (0, .ref a0), (1, .int x0), (2, .long y0)] → W p l e ({ frames := 0, cells := 0, slots := 0, locals := 0 }) s m args below meth c H locs 0 0 Q (F0 m 44 ls []) := by
    intro n
    induction n with
    | zero => intro x_10 g_12 H locs ls hi_11 hmu; exact absurd hmu (Nat.not_lt_zero _)
    | succ n ih_lp_13 =>
      intro x_10 g_12 H locs ls hi_11 hmu_lp_13 hP hD hS hl
      refine lv_iload (pc := 44) hx hb dX3_move_44 (lv_at hl 0 rfl) ?_
      refine lv_aload_n (pc := 46) hx hb dX3_move_46 rfl (lv_at hl 2 rfl) ?_
      refine va_get (pc := 47) (ci := 3) (v := .ref a1) (C := RX3) (T := TX3) (N := 10) hx hb hts iX3 hown hK hP 0 rfl rfl 0 (by decide) (hts _ tw_348) (fun _ h9 => h9) rfl dX3_move_47 ?_
      refine va_getN (pc := 50) (ci := 10) (v := .int x2) (C := RX10) (T := TX10) (N := 8) hx hb hts iX10 hown hK hP 2 rfl rfl 7 (by decide) (va_Nw.use rfl (hN _ tn_223)) (fun _ h9 => h9) rfl dX3_move_50 ?_
      refine b_icmp_gt (pc := 53) (tgt := 87) hx hb rfl rfl  dX3_move_53 (by decide) (fun c_14 => ?_) (fun c_14 => ?_)
      ·
        exact hret ((fun _ => 0), (fun _ => (fun _ => 0)), (fun k => [g_12].getD k (fun _ => 0)), (fun _ => 0), (fun k => [y_9].getD k 0)) dX3_move_87 (show (((0 ≤ x2.toInt ∧ x2.toInt ≤ 4))) from h_x2) (g_psub (wc := [(a0, .inr (3, [.ref a1, .ref a2, .ref a3, .ref a4, .ref a5, .ref a6, .long y_9, .int x1, .long y2, .long y3])), (a6, .inl (cJ, 5, .inr (.inl g_12))), (a1, .inr (10, [.ref a7, .ref a8, .ref a9, .ref a10, .ref a11, .ref a12, .ref a13, .int x2])), (a7, .inl (cJ, 25, .inr (.inl g1)))]) hP [0, 1, 2, 3] rfl) (hD.sub (ws' := [(a0, .inr (3, [.ref a1, .ref a2, .ref a3, .ref a4, .ref a5, .ref a6, .long y_9, .int x1, .long y2, .long y3])), (a6, .inl (cJ, 5, .inr (.inl g_12))), (a1, .inr (10, [.ref a7, .ref a8, .ref a9, .ref a10, .ref a11, .ref a12, .ref a13, .int x2])), (a7, .inl (cJ, 25, .inr (.inl g1)))]) [0, 1, 2, 3] (by decide) rfl) hS
      ·
        refine lv_aload_n (pc := 56) hx hb dX3_move_56 rfl (lv_at hl 2 rfl) ?_
        refine va_get (pc := 57) (ci := 3) (v := .ref a6) (C := RX3) (T := TX3) (N := 10) hx hb hts iX3 hown hK hP 0 rfl rfl 5 (by decide) (hts _ tw_354) (fun _ h9 => h9) rfl dX3_move_57 ?_
        refine lv_iload (pc := 60) hx hb dX3_move_60 (lv_at hl 0 rfl) ?_
        refine lv_dup2_11 (pc := 62) hx hb dX3_move_62 rfl rfl ?_
        refine va_lald (pc := 63) hx hb hK hP 1 3 rfl rfl (n_in rfl (by first | exact (om_0 hi_11.1) | ((first | omega | (unfold zBd at *; omega)))) (by first | exact (om_1270 c_14 h_x2.2) | ((first | omega | (unfold zBd at *; omega))))) dX3_move_63 ?_
        refine lv_topl (fun y_15 ey_15 => ?_)
        have ry_15 := n_rngL y_15
        refine lv_lload_n (pc := 64) hx hb dX3_move_64 rfl (lv_at hl 4 rfl) ?_
        refine lv_aload_n (pc := 65) hx hb dX3_move_65 rfl (lv_at hl 2 rfl) ?_
        refine va_get (pc := 66) (ci := 3) (v := .ref a1) (C := RX3) (T := TX3) (N := 10) hx hb hts iX3 hown hK hP 0 rfl rfl 0 (by decide) (hts _ tw_348) (fun _ h9 => h9) rfl dX3_move_66 ?_
        refine va_getN (pc := 69) (ci := 10) (v := .ref a7) (C := RX10) (T := TX10) (N := 8) hx hb hts iX10 hown hK hP 2 rfl rfl 0 (by decide) (va_Nw.use rfl (hN _ tn_208)) (fun _ h9 => h9) rfl dX3_move_69 ?_
        refine lv_iload (pc := 72) hx hb dX3_move_72 (lv_at hl 1 rfl) ?_
        refine lv_iload (pc := 74) hx hb dX3_move_74 (lv_at hl 0 rfl) ?_
        refine b_iadd (pc := 76) hx hb rfl rfl (by first | exact (om_1271 hi_11.1 ex_1 hp1.1) | ((first | omega | (unfold zBd at *; omega)))) (by first | exact (om_1272 c_14 ex_1 h_x2.2 hp1.2) | ((first | omega | (unfold zBd at *; omega)))) dX3_move_76 (fun x_16 ex_16 => ?_)
        refine va_lald (pc := 77) hx hb hK hP 3 3 rfl rfl (n_in rfl (by first | exact (om_1273 ex_16 hi_11.1 ex_1 hp1.1) | ((first | omega | (unfold zBd at *; omega)))) (by first | exact (om_1274 ex_16 c_14 ex_1 h_x2.2 hp1.2) | ((first | omega | (unfold zBd at *; omega))))) dX3_move_77 ?_
        refine lv_topl (fun y_17 ey_17 => ?_)
        have ry_17 := n_rngL y_17
        refine lv_lmul (pc := 78) hx hb dX3_move_78 ?_
        refine lv_topl (fun y_18 _ => ?_)
        have ry_18 := n_rngL y_18
        refine lv_ladd (pc := 79) hx hb dX3_move_79 ?_
        refine lv_topl (fun y_19 _ => ?_)
        have ry_19 := n_rngL y_19
        refine g_lastore (pc := 80) hx hb hK hP hD hS 1 3 rfl rfl (n_in rfl (by first | exact (om_0 hi_11.1) | ((first | omega | (unfold zBd at *; omega)))) (by first | exact (om_1270 c_14 h_x2.2) | ((first | omega | (unfold zBd at *; omega))))) dX3_move_80 (fun g_20 H locs hP hD hS => ?_)
        replace hP : va_P D gcl [(a0, .inr (3, [.ref a1, .ref a2, .ref a3, .ref a4, .ref a5, .ref a6, .long y_9, .int x1, .long y2, .long y3])), (a6, .inl (cJ, 5, .inr (.inl g_20))), (a1, .inr (10, [.ref a7, .ref a8, .ref a9, .ref a10, .ref a11, .ref a12, .ref a13, .int x2])), (a7, .inl (cJ, 25, .inr (.inl g1)))] H := hP
        replace hD : va_D A [(a0, .inr (3, [.ref a1, .ref a2, .ref a3, .ref a4, .ref a5, .ref a6, .long y_9, .int x1, .long y2, .long y3])), (a6, .inl (cJ, 5, .inr (.inl g_20))), (a1, .inr (10, [.ref a7, .ref a8, .ref a9, .ref a10, .ref a11, .ref a12, .ref a13, .int x2])), (a7, .inl (cJ, 25, .inr (.inl g1)))] := hD
        refine b_iinc (pc := 81) hx hb dX3_move_81 hl (k := 0) rfl rfl tI_1 (by first | exact (om_2 hi_11.1) | ((first | omega | (unfold zBd at *; omega)))) (by first | exact (om_1134 c_14 h_x2.2) | ((first | omega | (unfold zBd at *; omega)))) (by decide) (fun x_21 ex_21 ls hl => ?_)
        replace hl : lv_has ls 6 [(5, .int x_21), (4, .int x_1), (0, .ref a0), (1, .int x0), (2, .long y0)] := hl
        refine lv_goto (pc := 84) (tgt := 44) hx hb dX3_move_84 (by decide) ?_
        exact ih_lp_13 x_21 g_20 _ _ ls (by first | exact (om_1135 ex_21 hi_11.1 c_14 h_x2.2) | ((first | omega | (unfold zBd at *; omega)))) (by (first | omega | (unfold zBd at *; omega))) hP hD hS (lv_sub hl [0, 1, 2, 3, 4] rfl)
  exact lp_13 _ 0 g0 _ _ ls (n_c tI_0 (by decide)) (Nat.lt_succ_self _) hP hD hS (lv_sub hl [0, 1, 2, 3, 4] rfl)
set_option maxHeartbeats 4000000 in
set_option maxRecDepth 100000 in
theorem k_X3_startTrying (l : Launch) (D : va_G) (cB cC cI cJ : ClassId) (sz : Nat) (a0 a1 a2 a3 a4 a5 a6 a7 a8 a9 a10 a11 a12 a13 a14 a15 a16 a17 : Nat) (x0 x1 x2 x3 x4 x5 x6 x7 x8 : Int32) (y0 y1 y2 : Int64) (f0 f1 : Nat → Int32) (g0 g1 : Nat → Int64) (h_x0 : zBd x0.toInt 0 1) (h_x1 : zBd x1.toInt (-1) 8) (h_x2 : zBd x2.toInt (-1) 5) (h_x3 : zBd x3.toInt (-1) 6) (h_x4 : zBd x4.toInt 0 6) (h_x5 : zBd x5.toInt 0 16) (h_x8 : zBd x8.toInt 0 4) : Met l yX3_startTrying (.code yX3_startTrying cX3_startTrying 3 none :: lw_gd) ({ frames := 1, cells := 0, slots := 0, locals := 25 }) (gPre D [(cB, .byte), (cC, .char), (cI, .int), (cJ, .long)] [.ref a0, .ref a1] [(a0, .inr (3, [.ref a2, .ref a3, .ref a4, .ref a5, .ref a6, .ref a7, .long y0, .int x0, .long y1, .long y2])), (a6, .inl (cI, 5, .inl f0)), (a7, .inl (cJ, 5, .inr (.inl g0))), (a1, .inr (1, [.ref a8, .ref a9, .ref a10, .int x1, .int x2, .int x3, .int x4, .int x5, .int x6, .int x7])), (a5, .inl (cI, 5, .inl f1)), (a2, .inr (10, [.ref a11, .ref a12, .ref a13, .ref a14, .ref a15, .ref a16, .ref a17, .int x8])), (a11, .inl (cJ, 25, .inr (.inl g1)))] sz) (va_Qv (fun u => ((((-1) ≤ x2.toInt ∧ x2.toInt ≤ 5)))) (gB D (va_A [(a0, .inr (3, [.ref a2, .ref a3, .ref a4, .ref a5, .ref a6, .ref a7, .long y0, .int x0, .long y1, .long y2])), (a6, .inl (cI, 5, .inl f0)), (a7, .inl (cJ, 5, .inr (.inl g0))), (a1, .inr (1, [.ref a8, .ref a9, .ref a10, .int x1, .int x2, .int x3, .int x4, .int x5, .int x6, .int x7])), (a5, .inl (cI, 5, .inl f1)), (a2, .inr (10, [.ref a11, .ref a12, .ref a13, .ref a14, .ref a15, .ref a16, .ref a17, .int x8])), (a11, .inl (cJ, 25, .inr (.inl g1)))] sz) (fun u : gEx => [(a0, .inr (3, [.ref a2, .ref a3, .ref a4, .ref a5, .ref a6, .ref a7, .long (u.2.2.2.2 0), .int x0, .long y1, .long y2])), (a6, .inl (cI, 5, .inl (u.2.1 0))), (a7, .inl (cJ, 5, .inr (.inl (u.2.2.1 0)))), (a1, .inr (1, [.ref a8, .ref a9, .ref a10, .int x1, .int x2, .int x3, .int x4, .int x5, .int x6, .int x7])), (a5, .inl (cI, 5, .inl (u.2.1 1))), (a2, .inr (10, [.ref a11, .ref a12, .ref a13, .ref a14, .ref a15, .ref a16, .ref a17, .int x8])), (a11, .inl (cJ, 25, .inr (.inl g1)))])) (va_A [(a0, .inr (3, [.ref a2, .ref a3, .ref a4, .ref a5, .ref a6, .ref a7, .long y0, .int x0, .long y1, .long y2])), (a6, .inl (cI, 5, .inl f0)), (a7, .inl (cJ, 5, .inr (.inl g0))), (a1, .inr (1, [.ref a8, .ref a9, .ref a10, .int x1, .int x2, .int x3, .int x4, .int x5, .int x6, .int x7])), (a5, .inl (cI, 5, .inl f1)), (a2, .inr (10, [.ref a11, .ref a12, .ref a13, .ref a14, .ref a15, .ref a16, .ref a17, .int x8])), (a11, .inl (cJ, 25, .inr (.inl g1)))] sz)) 0 0 (va_A [(a0, .inr (3, [.ref a2, .ref a3, .ref a4, .ref a5, .ref a6, .ref a7, .long y0, .int x0, .long y1, .long y2])), (a6, .inl (cI, 5, .inl f0)), (a7, .inl (cJ, 5, .inr (.inl g0))), (a1, .inr (1, [.ref a8, .ref a9, .ref a10, .int x1, .int x2, .int x3, .int x4, .int x5, .int x6, .int x7])), (a5, .inl (cI, 5, .inl f1)), (a2, .inr (10, [.ref a11, .ref a12, .ref a13, .ref a14, .ref a15, .ref a16, .ref a17, .int x8])), (a11, .inl (cJ, 25, .inr (.inl g1)))] sz) := by
  refine gOf_v (by decide +kernel) (Nat.le_of_ble_eq_true rfl) ?_
  intro p e s m args below meth c ls A Q hx hb hts hown hml hN hK hP hD hA hl hret
  replace hown : s.vm.findClass RX3 = some m.cls := hown
  have hS : va_S A s.heap s.heap [] := va_S.rf
  replace hP : va_P D gcl [(a0, .inr (3, [.ref a2, .ref a3, .ref a4, .ref a5, .ref a6, .ref a7, .long y0, .int x0, .long y1, .long y2])), (a6, .inl (cI, 5, .inl f0)), (a7, .inl (cJ, 5, .inr (.inl g0))), (a1, .inr (1, [.ref a8, .ref a9, .ref a10, .int x1, .int x2, .int x3, .int x4, .int x5, .int x6, .int x7])), (a5, .inl (cI, 5, .inl f1)), (a2, .inr (10, [.ref a11, .ref a12, .ref a13, .ref a14, .ref a15, .ref a16, .ref a17, .int x8])), (a11, .inl (cJ, 25, .inr (.inl g1)))] s.heap := hP
  replace hl : lv_has ls 3 [(0, .ref a0), (1, .ref a1)] := hl
  have ry0 := n_rngL y0
  have ry1 := n_rngL y1
  have ry2 := n_rngL y2
  have rx6 : zBd x6.toInt (-2147483648) 2147483647 := n_rng x6
  have rx7 : zBd x7.toInt (-2147483648) 2147483647 := n_rng x7
  refine lv_aload_n (pc := 0) hx hb dX3_startTrying_0 rfl (lv_at hl 0 rfl) ?_
  refine va_get (pc := 1) (ci := 3) (v := .ref a6) (C := RX3) (T := TX3) (N := 10) hx hb hts iX3 hown hK hP 0 rfl rfl 4 (by decide) (hts _ tw_353) (fun _ h9 => h9) rfl dX3_startTrying_1 ?_
  refine lv_iconst (pc := 4) (v := 0) hx hb dX3_startTrying_4 (by decide) ?_
  refine gd_v (pc := 5) (wc := [(a6, .inl (cI, 5, .inl f0))]) hP hD hS hA [1] rfl (by decide +kernel) (fun _ => by rfl) (fun hPc hDc => va_runS (As := [.ref a6, .int 0]) (rest := []) ⟨hx, hb, hml, hown, hts⟩ (k_J7_fill_53178_5 l D cB cC cI cJ _ a6 0 f0) ⟨gcwB hts tw_505 tw_10 tw_1249 hd_yJ7_fill_53178 ⟨Nat.le_of_ble_eq_true rfl, Nat.le_of_ble_eq_true rfl⟩, hts _ tw_504⟩ (gpreS hPc hK hDc hN) rfl rfl hl.1 rfl (lv_room (Nat.le_of_ble_eq_true rfl)) dX3_startTrying_5 ⟨Nat.le_of_ble_eq_true rfl, Nat.le_of_ble_eq_true rfl⟩) (fun u_1 H locs hw_3 hP hD hS => ?_)
  replace hP : va_P D gcl [(a0, .inr (3, [.ref a2, .ref a3, .ref a4, .ref a5, .ref a6, .ref a7, .long y0, .int x0, .long y1, .long y2])), (a6, .inl (cI, 5, .inl (u_1.2.1 0))), (a7, .inl (cJ, 5, .inr (.inl g0))), (a1, .inr (1, [.ref a8, .ref a9, .ref a10, .int x1, .int x2, .int x3, .int x4, .int x5, .int x6, .int x7])), (a5, .inl (cI, 5, .inl f1)), (a2, .inr (10, [.ref a11, .ref a12, .ref a13, .ref a14, .ref a15, .ref a16, .ref a17, .int x8])), (a11, .inl (cJ, 25, .inr (.inl g1)))] H := hP
  replace hD : va_D A [(a0, .inr (3, [.ref a2, .ref a3, .ref a4, .ref a5, .ref a6, .ref a7, .long y0, .int x0, .long y1, .long y2])), (a6, .inl (cI, 5, .inl (u_1.2.1 0))), (a7, .inl (cJ, 5, .inr (.inl g0))), (a1, .inr (1, [.ref a8, .ref a9, .ref a10, .int x1, .int x2, .int x3, .int x4, .int x5, .int x6, .int x7])), (a5, .inl (cI, 5, .inl f1)), (a2, .inr (10, [.ref a11, .ref a12, .ref a13, .ref a14, .ref a15, .ref a16, .ref a17, .int x8])), (a11, .inl (cJ, 25, .inr (.inl g1)))] := hD
  refine lv_aload_n (pc := 8) hx hb dX3_startTrying_8 rfl (lv_at hl 0 rfl) ?_
  refine va_get (pc := 9) (ci := 3) (v := .ref a7) (C := RX3) (T := TX3) (N := 10) hx hb hts iX3 hown hK hP 0 rfl rfl 5 (by decide) (hts _ tw_354) (fun _ h9 => h9) rfl dX3_startTrying_9 ?_
  refine lv_lconst (pc := 12) (v := 0) hx hb dX3_startTrying_12 (by decide) ?_
  refine gd_v (pc := 13) (wc := [(a7, .inl (cJ, 5, .inr (.inl g0)))]) hP hD hS hA [2] rfl (by decide +kernel) (fun _ => by rfl) (fun hPc hDc => va_runS (As := [.ref a7, .long 0]) (rest := []) ⟨hx, hb, hml, hown, hts⟩ (k_J7_fill_d0a16_5 l D cB cC cI cJ _ a7 0 g0) ⟨gcwB hts tw_292 tw_10 tw_1250 hd_yJ7_fill_d0a16 ⟨Nat.le_of_ble_eq_true rfl, Nat.le_of_ble_eq_true rfl⟩, hts _ tw_291⟩ (gpreS hPc hK hDc hN) rfl rfl hl.1 rfl (lv_room (Nat.le_of_ble_eq_true rfl)) dX3_startTrying_13 ⟨Nat.le_of_ble_eq_true rfl, Nat.le_of_ble_eq_true rfl⟩) (fun u_4 H locs hw_6 hP hD hS => ?_)
  replace hP : va_P D gcl [(a0, .inr (3, [.ref a2, .ref a3, .ref a4, .ref a5, .ref a6, .ref a7, .long y0, .int x0, .long y1, .long y2])), (a6, .inl (cI, 5, .inl (u_1.2.1 0))), (a7, .inl (cJ, 5, .inr (.inl (u_4.2.2.1 0)))), (a1, .inr (1, [.ref a8, .ref a9, .ref a10, .int x1, .int x2, .int x3, .int x4, .int x5, .int x6, .int x7])), (a5, .inl (cI, 5, .inl f1)), (a2, .inr (10, [.ref a11, .ref a12, .ref a13, .ref a14, .ref a15, .ref a16, .ref a17, .int x8])), (a11, .inl (cJ, 25, .inr (.inl g1)))] H := hP
  replace hD : va_D A [(a0, .inr (3, [.ref a2, .ref a3, .ref a4, .ref a5, .ref a6, .ref a7, .long y0, .int x0, .long y1, .long y2])), (a6, .inl (cI, 5, .inl (u_1.2.1 0))), (a7, .inl (cJ, 5, .inr (.inl (u_4.2.2.1 0)))), (a1, .inr (1, [.ref a8, .ref a9, .ref a10, .int x1, .int x2, .int x3, .int x4, .int x5, .int x6, .int x7])), (a5, .inl (cI, 5, .inl f1)), (a2, .inr (10, [.ref a11, .ref a12, .ref a13, .ref a14, .ref a15, .ref a16, .ref a17, .int x8])), (a11, .inl (cJ, 25, .inr (.inl g1)))] := hD
  refine lv_aload_n (pc := 16) hx hb dX3_startTrying_16 rfl (lv_at hl 0 rfl) ?_
  refine lv_lconst (pc := 17) (v := 0) hx hb dX3_startTrying_17 (by decide) ?_
  refine va_put (pc := 18) (ci := 3) (v := .long 0) (ty := .long) (C := RX3) (T := TX3) (N := 10) hx hb hts iX3 tyX3 tyX3_ok nmX3 hown hK hP hD hS 0 rfl rfl 6 (by decide) (hts _ tw_355) (fun _ h9 => h9) rfl (by decide +kernel) (by decide +kernel) (by decide +kernel) (Nat.le_of_ble_eq_true rfl) dX3_startTrying_18 (fun H locs hP hD hS => ?_)
  replace hP : va_P D gcl [(a0, .inr (3, [.ref a2, .ref a3, .ref a4, .ref a5, .ref a6, .ref a7, .long 0, .int x0, .long y1, .long y2])), (a6, .inl (cI, 5, .inl (u_1.2.1 0))), (a7, .inl (cJ, 5, .inr (.inl (u_4.2.2.1 0)))), (a1, .inr (1, [.ref a8, .ref a9, .ref a10, .int x1, .int x2, .int x3, .int x4, .int x5, .int x6, .int x7])), (a5, .inl (cI, 5, .inl f1)), (a2, .inr (10, [.ref a11, .ref a12, .ref a13, .ref a14, .ref a15, .ref a16, .ref a17, .int x8])), (a11, .inl (cJ, 25, .inr (.inl g1)))] H := hP
  replace hD : va_D A [(a0, .inr (3, [.ref a2, .ref a3, .ref a4, .ref a5, .ref a6, .ref a7, .long 0, .int x0, .long y1, .long y2])), (a6, .inl (cI, 5, .inl (u_1.2.1 0))), (a7, .inl (cJ, 5, .inr (.inl (u_4.2.2.1 0)))), (a1, .inr (1, [.ref a8, .ref a9, .ref a10, .int x1, .int x2, .int x3, .int x4, .int x5, .int x6, .int x7])), (a5, .inl (cI, 5, .inl f1)), (a2, .inr (10, [.ref a11, .ref a12, .ref a13, .ref a14, .ref a15, .ref a16, .ref a17, .int x8])), (a11, .inl (cJ, 25, .inr (.inl g1)))] := hD
  refine lv_iconst (pc := 21) (v := 0) hx hb dX3_startTrying_21 (by decide) ?_
  refine lv_istore_n (pc := 22) (lv' := [(2, .int 0), (0, .ref a0), (1, .ref a1)]) hx hb dX3_startTrying_22 rfl hl (by decide) rfl (fun ls hl => ?_)
  have lp_13 : ∀ (n : Nat) (x_7 : Int32) (y_9 : Int64) (f_12 : Nat → Int32) (g_11 : Nat → Int64) (H : Heap) (locs : List Loc) (ls : Array Slot), (0 ≤ x_7.toInt ∧ x_7.toInt ≤ 2147483647) → (2147483647 - x_7.toInt).toNat < n → va_P D gcl [(a0, .inr (3, [.ref a2, .ref a3, .ref a4, .ref a5, .ref a6, .ref a7, .long y_9, .int x0, .long y1, .long y2])), (a6, .inl (cI, 5, .inl (u_1.2.1 0))), (a7, .inl (cJ, 5, .inr (.inl g_11))), (a1, .inr (1, [.ref a8, .ref a9, .ref a10, .int x1, .int x2, .int x3, .int x4, .int x5, .int x6, .int x7])), (a5, .inl (cI, 5, .inl f_12)), (a2, .inr (10, [.ref a11, .ref a12, .ref a13, .ref a14, .ref a15, .ref a16, .ref a17, .int x8])), (a11, .inl (cJ, 25, .inr (.inl g1)))] H → va_D A [(a0, .inr (3, [.ref a2, .ref a3, .ref a4, .ref a5, .ref a6, .ref a7, .long y_9, .int x0, .long y1, .long y2])), (a6, .inl (cI, 5, .inl (u_1.2.1 0))), (a7, .inl (cJ, 5, .inr (.inl g_11))), (a1, .inr (1, [.ref a8, .ref a9, .ref a10, .int x1, .int x2, .int x3, .int x4, .int x5, .int x6, .int x7])), (a5, .inl (cI, 5, .inl f_12)), (a2, .inr (10, [.ref a11, .ref a12, .ref a13, .ref a14, .ref a15, .ref a16, .ref a17, .int x8])), (a11, .inl (cJ, 25, .inr (.inl g1)))] → va_S A s.heap H locs → lv_has ls 3 [(2, .int x_7), (0, .ref a0), (1, .ref a1)] → W p l e ({ frames := 1, cells := 0, slots := 0, locals := 25 }) s m args below meth c H locs 0 0 Q (F0 m 23 ls []) := by
    intro n
    induction n with
    | zero => intro x_7 y_9 f_12 g_11 H locs ls hi_8 hmu; exact absurd hmu (Nat.not_lt_zero _)
    | succ n ih_lp_13 =>
      intro x_7 y_9 f_12 g_11 H locs ls hi_8 hmu_lp_13 hP hD hS hl
      have hi_10 := n_rngL y_9
      refine lv_iload_n (pc := 23) hx hb dX3_startTrying_23 rfl (lv_at hl 0 rfl) ?_
      refine lv_aload_n (pc := 24) hx hb dX3_startTrying_24 rfl (lv_at hl 2 rfl) ?_
      refine va_getN (pc := 25) (ci := 1) (v := .int x2) (C := RX1) (T := TX1) (N := 10) hx hb hts iX1 hown hK hP 3 rfl rfl 4 (by decide) (va_Nw.use rfl (hN _ tn_122)) (fun _ h9 => h9) rfl dX3_startTrying_25 ?_
      refine b_icmp_ge (pc := 28) (tgt := 61) hx hb rfl rfl  dX3_startTrying_28 (by decide) (fun c_14 => ?_) (fun c_14 => ?_)
      ·
        exact hret ((fun _ => 0), (fun k => [(u_1.2.1 0), f_12].getD k (fun _ => 0)), (fun k => [g_11].getD k (fun _ => 0)), (fun _ => 0), (fun k => [y_9].getD k 0)) dX3_startTrying_61 (show ((((-1) ≤ x2.toInt ∧ x2.toInt ≤ 5))) from h_x2) (g_psub (wc := [(a0, .inr (3, [.ref a2, .ref a3, .ref a4, .ref a5, .ref a6, .ref a7, .long y_9, .int x0, .long y1, .long y2])), (a6, .inl (cI, 5, .inl (u_1.2.1 0))), (a7, .inl (cJ, 5, .inr (.inl g_11))), (a1, .inr (1, [.ref a8, .ref a9, .ref a10, .int x1, .int x2, .int x3, .int x4, .int x5, .int x6, .int x7])), (a5, .inl (cI, 5, .inl f_12)), (a2, .inr (10, [.ref a11, .ref a12, .ref a13, .ref a14, .ref a15, .ref a16, .ref a17, .int x8])), (a11, .inl (cJ, 25, .inr (.inl g1)))]) hP [0, 1, 2, 3, 4, 5, 6] rfl) (hD.sub (ws' := [(a0, .inr (3, [.ref a2, .ref a3, .ref a4, .ref a5, .ref a6, .ref a7, .long y_9, .int x0, .long y1, .long y2])), (a6, .inl (cI, 5, .inl (u_1.2.1 0))), (a7, .inl (cJ, 5, .inr (.inl g_11))), (a1, .inr (1, [.ref a8, .ref a9, .ref a10, .int x1, .int x2, .int x3, .int x4, .int x5, .int x6, .int x7])), (a5, .inl (cI, 5, .inl f_12)), (a2, .inr (10, [.ref a11, .ref a12, .ref a13, .ref a14, .ref a15, .ref a16, .ref a17, .int x8])), (a11, .inl (cJ, 25, .inr (.inl g1)))]) [0, 1, 2, 3, 4, 5, 6] (by decide) rfl) hS
      ·
        refine lv_aload_n (pc := 31) hx hb dX3_startTrying_31 rfl (lv_at hl 1 rfl) ?_
        refine va_get (pc := 32) (ci := 3) (v := .ref a5) (C := RX3) (T := TX3) (N := 10) hx hb hts iX3 hown hK hP 0 rfl rfl 3 (by decide) (hts _ tw_352) (fun _ h9 => h9) rfl dX3_startTrying_32 ?_
        refine lv_iload_n (pc := 35) hx hb dX3_startTrying_35 rfl (lv_at hl 0 rfl) ?_
        refine lv_iconst (pc := 36) (v := 1) hx hb dX3_startTrying_36 (by decide) ?_
        refine lv_aload_n (pc := 37) hx hb dX3_startTrying_37 rfl (lv_at hl 2 rfl) ?_
        refine va_getN (pc := 38) (ci := 1) (v := .int x1) (C := RX1) (T := TX1) (N := 10) hx hb hts iX1 hown hK hP 3 rfl rfl 3 (by decide) (va_Nw.use rfl (hN _ tn_113)) (fun _ h9 => h9) rfl dX3_startTrying_38 ?_
        refine b_isub (pc := 41) hx hb tI_1 rfl (by first | exact (om_1222 h_x1.2) | ((first | omega | (unfold zBd at *; omega)))) (by first | exact (om_1223 h_x1.1) | ((first | omega | (unfold zBd at *; omega)))) dX3_startTrying_41 (fun x_15 ex_15 => ?_)
        refine g_iastore (pc := 42) hx hb hK hP hD hS 4 2 rfl rfl (n_in rfl (by first | exact (om_0 hi_8.1) | ((first | omega | (unfold zBd at *; omega)))) (by first | exact (om_1021 c_14 h_x2.2) | ((first | omega | (unfold zBd at *; omega))))) dX3_startTrying_42 (fun f_16 H locs hP hD hS => ?_)
        replace hP : va_P D gcl [(a0, .inr (3, [.ref a2, .ref a3, .ref a4, .ref a5, .ref a6, .ref a7, .long y_9, .int x0, .long y1, .long y2])), (a6, .inl (cI, 5, .inl (u_1.2.1 0))), (a7, .inl (cJ, 5, .inr (.inl g_11))), (a1, .inr (1, [.ref a8, .ref a9, .ref a10, .int x1, .int x2, .int x3, .int x4, .int x5, .int x6, .int x7])), (a5, .inl (cI, 5, .inl f_16)), (a2, .inr (10, [.ref a11, .ref a12, .ref a13, .ref a14, .ref a15, .ref a16, .ref a17, .int x8])), (a11, .inl (cJ, 25, .inr (.inl g1)))] H := hP
        replace hD : va_D A [(a0, .inr (3, [.ref a2, .ref a3, .ref a4, .ref a5, .ref a6, .ref a7, .long y_9, .int x0, .long y1, .long y2])), (a6, .inl (cI, 5, .inl (u_1.2.1 0))), (a7, .inl (cJ, 5, .inr (.inl g_11))), (a1, .inr (1, [.ref a8, .ref a9, .ref a10, .int x1, .int x2, .int x3, .int x4, .int x5, .int x6, .int x7])), (a5, .inl (cI, 5, .inl f_16)), (a2, .inr (10, [.ref a11, .ref a12, .ref a13, .ref a14, .ref a15, .ref a16, .ref a17, .int x8])), (a11, .inl (cJ, 25, .inr (.inl g1)))] := hD
        refine lv_aload_n (pc := 43) hx hb dX3_startTrying_43 rfl (lv_at hl 1 rfl) ?_
        refine lv_iload_n (pc := 44) hx hb dX3_startTrying_44 rfl (lv_at hl 0 rfl) ?_
        refine lv_aload_n (pc := 45) hx hb dX3_startTrying_45 rfl (lv_at hl 1 rfl) ?_
        refine va_get (pc := 46) (ci := 3) (v := .ref a5) (C := RX3) (T := TX3) (N := 10) hx hb hts iX3 hown hK hP 0 rfl rfl 3 (by decide) (hts _ tw_352) (fun _ h9 => h9) rfl dX3_startTrying_46 ?_
        refine lv_iload_n (pc := 49) hx hb dX3_startTrying_49 rfl (lv_at hl 0 rfl) ?_
        refine va_iald (pc := 50) hx hb hK hP 4 2 rfl rfl (n_in rfl (by first | exact (om_0 hi_8.1) | ((first | omega | (unfold zBd at *; omega)))) (by first | exact (om_1021 c_14 h_x2.2) | ((first | omega | (unfold zBd at *; omega))))) dX3_startTrying_50 ?_
        refine lv_topi (fun x_17 ex_17 => ?_)
        have rx_17 : zBd x_17.toInt (-2147483648) 2147483647 := n_rng x_17
        refine b_i2l (pc := 51) hx hb rfl dX3_startTrying_51 (fun y_18 ey_18 => ?_)
        have ry_18 : zBd x_17.toInt (-2147483648) 2147483647 := n_rng x_17
        refine gd_v (pc := 52) (wc := [(a0, .inr (3, [.ref a2, .ref a3, .ref a4, .ref a5, .ref a6, .ref a7, .long y_9, .int x0, .long y1, .long y2])), (a7, .inl (cJ, 5, .inr (.inl g_11))), (a2, .inr (10, [.ref a11, .ref a12, .ref a13, .ref a14, .ref a15, .ref a16, .ref a17, .int x8])), (a11, .inl (cJ, 25, .inr (.inl g1)))]) hP hD hS hA [0, 2, 5, 6] rfl (by decide +kernel) (fun _ => by rfl) (fun hPc hDc => va_runV (As := [.int x_7, .long y_18]) (rest := []) ⟨hx, hb, hml, hown, hts⟩ (k_X3_move l D cB cC cI cJ _ a0 a2 a3 a4 a5 a6 a7 a11 a12 a13 a14 a15 a16 a17 x_7 x0 x8 y_18 y_9 y1 y2 g_11 g1 (by first | exact (om_360 hi_8.1 c_14 h_x2.2) | ((first | omega | (unfold zBd at *; omega)))) h_x0 h_x8) ⟨gcwB hts tw_1254 tw_12 tw_1251 hd_yX3_move ⟨Nat.le_of_ble_eq_true rfl, Nat.le_of_ble_eq_true rfl⟩, hts _ tw_1253, hts _ tp_49⟩ ⟨gblind, va_recv hK hPc (ci := 3) (q0 := 0) rfl rfl, (gpreS hPc hK hDc hN).2⟩ rfl rfl hl.1 rfl (lv_room (Nat.le_of_ble_eq_true rfl)) dX3_startTrying_52 ⟨Nat.le_of_ble_eq_true rfl, Nat.le_of_ble_eq_true rfl⟩) (fun u_19 H locs hw_21 hP hD hS => ?_)
        replace hP : va_P D gcl [(a0, .inr (3, [.ref a2, .ref a3, .ref a4, .ref a5, .ref a6, .ref a7, .long (u_19.2.2.2.2 0), .int x0, .long y1, .long y2])), (a6, .inl (cI, 5, .inl (u_1.2.1 0))), (a7, .inl (cJ, 5, .inr (.inl (u_19.2.2.1 0)))), (a1, .inr (1, [.ref a8, .ref a9, .ref a10, .int x1, .int x2, .int x3, .int x4, .int x5, .int x6, .int x7])), (a5, .inl (cI, 5, .inl f_16)), (a2, .inr (10, [.ref a11, .ref a12, .ref a13, .ref a14, .ref a15, .ref a16, .ref a17, .int x8])), (a11, .inl (cJ, 25, .inr (.inl g1)))] H := hP
        replace hD : va_D A [(a0, .inr (3, [.ref a2, .ref a3, .ref a4, .ref a5, .ref a6, .ref a7, .long (u_19.2.2.2.2 0), .int x0, .long y1, .long y2])), (a6, .inl (cI, 5, .inl (u_1.2.1 0))), (a7, .inl (cJ, 5, .inr (.inl (u_19.2.2.1 0)))), (a1, .inr (1, [.ref a8, .ref a9, .ref a10, .int x1, .int x2, .int x3, .int x4, .int x5, .int x6, .int x7])), (a5, .inl (cI, 5, .inl f_16)), (a2, .inr (10, [.ref a11, .ref a12, .ref a13, .ref a14, .ref a15, .ref a16, .ref a17, .int x8])), (a11, .inl (cJ, 25, .inr (.inl g1)))] := hD
        have ru_19_0 := n_rngL (u_19.2.2.2.2 0)
        have hw_22 : (((0 ≤ x8.toInt ∧ x8.toInt ≤ 4))) := hw_21
        refine b_iinc (pc := 55) hx hb dX3_startTrying_55 hl (k := 0) rfl rfl tI_1 (by first | exact (om_2 hi_8.1) | ((first | omega | (unfold zBd at *; omega)))) (by first | exact (om_338 c_14 h_x2.2) | ((first | omega | (unfold zBd at *; omega)))) (by decide) (fun x_23 ex_23 ls hl => ?_)
        replace hl : lv_has ls 3 [(2, .int x_23), (0, .ref a0), (1, .ref a1)] := hl
        refine lv_goto (pc := 58) (tgt := 23) hx hb dX3_startTrying_58 (by decide) ?_
        exact ih_lp_13 x_23 (u_19.2.2.2.2 0) f_16 (u_19.2.2.1 0) _ _ ls (by first | exact (om_339 ex_23 hi_8.1 c_14 h_x2.2) | ((first | omega | (unfold zBd at *; omega)))) (by (first | omega | (unfold zBd at *; omega))) hP hD hS (lv_sub hl [0, 1, 2] rfl)
  exact lp_13 _ 0 0 f1 (u_4.2.2.1 0) _ _ ls (n_c tI_0 (by decide)) (Nat.lt_succ_self _) hP hD hS (lv_sub hl [0, 1, 2] rfl)
theorem om_1275 {a b : Int} (h0 : (a = b)) (h1 : ((-2147483648) ≤ b)) : (-9223372036854775808 ≤ 1 * a) := by omega
theorem om_1276 {a b : Int} (h0 : (a = b)) (h1 : (b ≤ 2147483647)) : (1 * a ≤ 9223372036854775807) := by omega
theorem om_1277 {a b : Int} (h0 : (a = b)) (h1 : (b ≤ 2147483647)) : (-9223372036854775808 ≤ (-1) * a) := by omega
theorem om_1278 {a b : Int} (h0 : (a = b)) (h1 : ((-2147483648) ≤ b)) : ((-1) * a ≤ 9223372036854775807) := by omega
set_option maxHeartbeats 4000000 in
set_option maxRecDepth 100000 in
theorem k_X3_better (l : Launch) (D : va_G) (cB cC cI cJ : ClassId) (sz : Nat) (a0 a1 a2 a3 a4 a5 a6 a7 a8 a9 a10 a11 a12 a13 : Nat) (x0 x1 x2 x3 : Int32) (y0 y1 y2 : Int64) (f0 : Nat → Int32) (g0 g1 : Nat → Int64) (hp1 : (0 ≤ x0.toInt ∧ x0.toInt ≤ 4)) (h_x2 : zBd x2.toInt 0 1) (h_x3 : zBd x3.toInt 0 4) : Met l yX3_better (.code yX3_better cX3_better 6 none :: lw_gd) ({ frames := 1, cells := 0, slots := 0, locals := 25 }) (gPre D [(cB, .byte), (cC, .char), (cI, .int), (cJ, .long)] [.ref a0, .int x0, .int x1] [(a0, .inr (3, [.ref a1, .ref a2, .ref a3, .ref a4, .ref a5, .ref a6, .long y0, .int x2, .long y1, .long y2])), (a6, .inl (cJ, 5, .inr (.inl g0))), (a5, .inl (cI, 5, .inl f0)), (a1, .inr (10, [.ref a7, .ref a8, .ref a9, .ref a10, .ref a11, .ref a12, .ref a13, .int x3])), (a7, .inl (cJ, 25, .inr (.inl g1)))] sz) (va_Qv (fun u => True) (gB D (va_A [(a0, .inr (3, [.ref a1, .ref a2, .ref a3, .ref a4, .ref a5, .ref a6, .long y0, .int x2, .long y1, .long y2])), (a6, .inl (cJ, 5, .inr (.inl g0))), (a5, .inl (cI, 5, .inl f0)), (a1, .inr (10, [.ref a7, .ref a8, .ref a9, .ref a10, .ref a11, .ref a12, .ref a13, .int x3])), (a7, .inl (cJ, 25, .inr (.inl g1)))] sz) (fun u : gEx => [(a0, .inr (3, [.ref a1, .ref a2, .ref a3, .ref a4, .ref a5, .ref a6, .long (u.2.2.2.2 0), .int x2, .long y1, .long y2])), (a6, .inl (cJ, 5, .inr (.inl (u.2.2.1 0)))), (a5, .inl (cI, 5, .inl (u.2.1 0))), (a1, .inr (10, [.ref a7, .ref a8, .ref a9, .ref a10, .ref a11, .ref a12, .ref a13, .int x3])), (a7, .inl (cJ, 25, .inr (.inl g1)))])) (va_A [(a0, .inr (3, [.ref a1, .ref a2, .ref a3, .ref a4, .ref a5, .ref a6, .long y0, .int x2, .long y1, .long y2])), (a6, .inl (cJ, 5, .inr (.inl g0))), (a5, .inl (cI, 5, .inl f0)), (a1, .inr (10, [.ref a7, .ref a8, .ref a9, .ref a10, .ref a11, .ref a12, .ref a13, .int x3])), (a7, .inl (cJ, 25, .inr (.inl g1)))] sz)) 0 0 (va_A [(a0, .inr (3, [.ref a1, .ref a2, .ref a3, .ref a4, .ref a5, .ref a6, .long y0, .int x2, .long y1, .long y2])), (a6, .inl (cJ, 5, .inr (.inl g0))), (a5, .inl (cI, 5, .inl f0)), (a1, .inr (10, [.ref a7, .ref a8, .ref a9, .ref a10, .ref a11, .ref a12, .ref a13, .int x3])), (a7, .inl (cJ, 25, .inr (.inl g1)))] sz) := by
  refine gOf_v (by decide +kernel) (Nat.le_of_ble_eq_true rfl) ?_
  intro p e s m args below meth c ls A Q hx hb hts hown hml hN hK hP hD hA hl hret
  replace hown : s.vm.findClass RX3 = some m.cls := hown
  have hS : va_S A s.heap s.heap [] := va_S.rf
  replace hP : va_P D gcl [(a0, .inr (3, [.ref a1, .ref a2, .ref a3, .ref a4, .ref a5, .ref a6, .long y0, .int x2, .long y1, .long y2])), (a6, .inl (cJ, 5, .inr (.inl g0))), (a5, .inl (cI, 5, .inl f0)), (a1, .inr (10, [.ref a7, .ref a8, .ref a9, .ref a10, .ref a11, .ref a12, .ref a13, .int x3])), (a7, .inl (cJ, 25, .inr (.inl g1)))] s.heap := hP
  replace hl : lv_has ls 6 [(0, .ref a0), (1, .int x0), (2, .int x1)] := hl
  have rx1 : zBd x1.toInt (-2147483648) 2147483647 := n_rng x1
  have ry0 := n_rngL y0
  have ry1 := n_rngL y1
  have ry2 := n_rngL y2
  refine lv_aload_n (pc := 0) hx hb dX3_better_0 rfl (lv_at hl 0 rfl) ?_
  refine va_get (pc := 1) (ci := 3) (v := .ref a6) (C := RX3) (T := TX3) (N := 10) hx hb hts iX3 hown hK hP 0 rfl rfl 5 (by decide) (hts _ tw_354) (fun _ h9 => h9) rfl dX3_better_1 ?_
  refine lv_iload_n (pc := 4) hx hb dX3_better_4 rfl (lv_at hl 1 rfl) ?_
  refine va_lald (pc := 5) hx hb hK hP 1 3 rfl rfl (n_in rfl (by first | exact (om_0 hp1.1) | ((first | omega | (unfold zBd at *; omega)))) (by first | exact (om_1137 hp1.2) | ((first | omega | (unfold zBd at *; omega))))) dX3_better_5 ?_
  refine lv_topl (fun y_1 ey_1 => ?_)
  have ry_1 := n_rngL y_1
  refine lv_lconst (pc := 6) (v := 0) hx hb dX3_better_6 (by decide) ?_
  refine b_lcmp_le (pc := 7) (tgt := 15) hx hb rfl tL_0 dX3_better_7 dX3_better_8 (by decide) (fun c_2 => ?_) (fun c_2 => ?_)
  ·
    refine lv_iconst (pc := 15) (v := 1) hx hb dX3_better_15 (by decide) ?_
    refine lv_istore_n (pc := 16) (lv' := [(3, .int 1), (0, .ref a0), (1, .int x0), (2, .int x1)]) hx hb dX3_better_16 rfl hl (by decide) rfl (fun ls hl => ?_)
    refine lv_aload_n (pc := 17) hx hb dX3_better_17 rfl (lv_at hl 1 rfl) ?_
    refine va_get (pc := 18) (ci := 3) (v := .ref a5) (C := RX3) (T := TX3) (N := 10) hx hb hts iX3 hown hK hP 0 rfl rfl 4 (by decide) (hts _ tw_353) (fun _ h9 => h9) rfl dX3_better_18 ?_
    refine lv_iload_n (pc := 21) hx hb dX3_better_21 rfl (lv_at hl 2 rfl) ?_
    refine va_iald (pc := 22) hx hb hK hP 2 2 rfl rfl (n_in rfl (by first | exact (om_0 hp1.1) | ((first | omega | (unfold zBd at *; omega)))) (by first | exact (om_1137 hp1.2) | ((first | omega | (unfold zBd at *; omega))))) dX3_better_22 ?_
    refine lv_topi (fun x_3 ex_3 => ?_)
    have rx_3 : zBd x_3.toInt (-2147483648) 2147483647 := n_rng x_3
    refine lv_iload_n (pc := 23) hx hb dX3_better_23 rfl (lv_at hl 0 rfl) ?_
    refine lv_iadd (pc := 24) hx hb dX3_better_24 ?_
    refine lv_topi (fun x_4 _ => ?_)
    have rx_4 : zBd x_4.toInt (-2147483648) 2147483647 := n_rng x_4
    refine lv_iconst (pc := 25) (v := (-1)) hx hb dX3_better_25 (by decide) ?_
    refine b_icmp_lt (pc := 26) (tgt := 41) hx hb rfl tI_m1  dX3_better_26 (by decide) (fun c_5 => ?_) (fun c_5 => ?_)
    ·
      exact hret ((fun _ => 0), (fun k => [f0].getD k (fun _ => 0)), (fun k => [g0].getD k (fun _ => 0)), (fun _ => 0), (fun k => [y0].getD k 0)) dX3_better_41 trivial (g_psub (wc := [(a0, .inr (3, [.ref a1, .ref a2, .ref a3, .ref a4, .ref a5, .ref a6, .long y0, .int x2, .long y1, .long y2])), (a6, .inl (cJ, 5, .inr (.inl g0))), (a5, .inl (cI, 5, .inl f0)), (a1, .inr (10, [.ref a7, .ref a8, .ref a9, .ref a10, .ref a11, .ref a12, .ref a13, .int x3])), (a7, .inl (cJ, 25, .inr (.inl g1)))]) hP [0, 1, 2, 3, 4] rfl) (hD.sub (ws' := [(a0, .inr (3, [.ref a1, .ref a2, .ref a3, .ref a4, .ref a5, .ref a6, .long y0, .int x2, .long y1, .long y2])), (a6, .inl (cJ, 5, .inr (.inl g0))), (a5, .inl (cI, 5, .inl f0)), (a1, .inr (10, [.ref a7, .ref a8, .ref a9, .ref a10, .ref a11, .ref a12, .ref a13, .int x3])), (a7, .inl (cJ, 25, .inr (.inl g1)))]) [0, 1, 2, 3, 4] (by decide) rfl) hS
    ·
      refine lv_aload_n (pc := 29) hx hb dX3_better_29 rfl (lv_at hl 1 rfl) ?_
      refine va_get (pc := 30) (ci := 3) (v := .ref a5) (C := RX3) (T := TX3) (N := 10) hx hb hts iX3 hown hK hP 0 rfl rfl 4 (by decide) (hts _ tw_353) (fun _ h9 => h9) rfl dX3_better_30 ?_
      refine lv_iload_n (pc := 33) hx hb dX3_better_33 rfl (lv_at hl 2 rfl) ?_
      refine va_iald (pc := 34) hx hb hK hP 2 2 rfl rfl (n_in rfl (by first | exact (om_0 hp1.1) | ((first | omega | (unfold zBd at *; omega)))) (by first | exact (om_1137 hp1.2) | ((first | omega | (unfold zBd at *; omega))))) dX3_better_34 ?_
      refine gI (y := x_3) ex_3.symm ?_
      refine lv_iload_n (pc := 35) hx hb dX3_better_35 rfl (lv_at hl 0 rfl) ?_
      refine lv_iadd (pc := 36) hx hb dX3_better_36 ?_
      refine lv_topi (fun x_6 _ => ?_)
      have rx_6 : zBd x_6.toInt (-2147483648) 2147483647 := n_rng x_6
      refine lv_iconst (pc := 37) (v := 1) hx hb dX3_better_37 (by decide) ?_
      refine b_icmp_le (pc := 38) (tgt := 42) hx hb rfl tI_1  dX3_better_38 (by decide) (fun c_7 => ?_) (fun c_7 => ?_)
      ·
        refine lv_iload_n (pc := 42) hx hb dX3_better_42 rfl (lv_at hl 0 rfl) ?_
        refine lv_i2l (pc := 43) (v := 1) hx hb dX3_better_43 (by decide +kernel) ?_
        refine lv_iload_n (pc := 44) hx hb dX3_better_44 rfl (lv_at hl 3 rfl) ?_
        refine b_i2l (pc := 45) hx hb rfl dX3_better_45 (fun y_8 ey_8 => ?_)
        have ry_8 : zBd x1.toInt (-2147483648) 2147483647 := n_rng x1
        refine b_lmul (pc := 46) hx hb tL_1 rfl (by first | exact (om_1275 ey_8 ry_8.1) | ((first | omega | (unfold zBd at *; omega)))) (by first | exact (om_1276 ey_8 ry_8.2) | ((first | omega | (unfold zBd at *; omega)))) dX3_better_46 (fun y_9 ey_9 => ?_)
        refine lv_lstore (pc := 47) (lv' := [(4, .long y_9), (3, .int 1), (0, .ref a0), (1, .int x0), (2, .int x1)]) hx hb dX3_better_47 hl (by decide) rfl (fun ls hl => ?_)
        refine lv_lload (pc := 49) hx hb dX3_better_49 (lv_at hl 0 rfl) ?_
        refine lv_ldc2 (pc := 51) hx hb hown (hts _ tw_1255) dX3_better_51 ?_
        refine lv_aload_n (pc := 54) hx hb dX3_better_54 rfl (lv_at hl 2 rfl) ?_
        refine va_get (pc := 55) (ci := 3) (v := .ref a6) (C := RX3) (T := TX3) (N := 10) hx hb hts iX3 hown hK hP 0 rfl rfl 5 (by decide) (hts _ tw_354) (fun _ h9 => h9) rfl dX3_better_55 ?_
        refine lv_iload_n (pc := 58) hx hb dX3_better_58 rfl (lv_at hl 3 rfl) ?_
        refine va_lald (pc := 59) hx hb hK hP 1 3 rfl rfl (n_in rfl (by first | exact (om_0 hp1.1) | ((first | omega | (unfold zBd at *; omega)))) (by first | exact (om_1137 hp1.2) | ((first | omega | (unfold zBd at *; omega))))) dX3_better_59 ?_
        refine gL (y := y_1) ey_1.symm ?_
        refine lv_lmul (pc := 60) hx hb dX3_better_60 ?_
        refine lv_topl (fun y_10 _ => ?_)
        have ry_10 := n_rngL y_10
        refine lv_lload (pc := 61) hx hb dX3_better_61 (lv_at hl 0 rfl) ?_
        refine lv_aload_n (pc := 63) hx hb dX3_better_63 rfl (lv_at hl 2 rfl) ?_
        refine va_get (pc := 64) (ci := 3) (v := .ref a1) (C := RX3) (T := TX3) (N := 10) hx hb hts iX3 hown hK hP 0 rfl rfl 0 (by decide) (hts _ tw_348) (fun _ h9 => h9) rfl dX3_better_64 ?_
        refine va_getN (pc := 67) (ci := 10) (v := .ref a7) (C := RX10) (T := TX10) (N := 8) hx hb hts iX10 hown hK hP 3 rfl rfl 0 (by decide) (va_Nw.use rfl (hN _ tn_208)) (fun _ h9 => h9) rfl dX3_better_67 ?_
        refine lv_iload_n (pc := 70) hx hb dX3_better_70 rfl (lv_at hl 3 rfl) ?_
        refine lv_iconst (pc := 71) (v := 5) hx hb dX3_better_71 (by decide) ?_
        refine b_imul (pc := 72) hx hb rfl tI_5 (by first | exact (om_330 hp1.1) | ((first | omega | (unfold zBd at *; omega)))) (by first | exact (om_1162 hp1.2) | ((first | omega | (unfold zBd at *; omega)))) dX3_better_72 (fun x_11 ex_11 => ?_)
        refine lv_iload_n (pc := 73) hx hb dX3_better_73 rfl (lv_at hl 3 rfl) ?_
        refine b_iadd (pc := 74) hx hb rfl rfl (by first | exact (om_406 ex_11 hp1.1) | ((first | omega | (unfold zBd at *; omega)))) (by first | exact (om_1163 ex_11 hp1.2) | ((first | omega | (unfold zBd at *; omega)))) dX3_better_74 (fun x_12 ex_12 => ?_)
        refine va_lald (pc := 75) hx hb hK hP 4 3 rfl rfl (n_in rfl (by first | exact (om_408 ex_12 ex_11 hp1.1) | ((first | omega | (unfold zBd at *; omega)))) (by first | exact (om_1164 ex_12 ex_11 hp1.2) | ((first | omega | (unfold zBd at *; omega))))) dX3_better_75 ?_
        refine lv_topl (fun y_13 ey_13 => ?_)
        have ry_13 := n_rngL y_13
        refine lv_lmul (pc := 76) hx hb dX3_better_76 ?_
        refine lv_topl (fun y_14 _ => ?_)
        have ry_14 := n_rngL y_14
        refine lv_ladd (pc := 77) hx hb dX3_better_77 ?_
        refine lv_topl (fun y_15 _ => ?_)
        have ry_15 := n_rngL y_15
        refine lv_lmul (pc := 78) hx hb dX3_better_78 ?_
        refine lv_topl (fun y_16 _ => ?_)
        have ry_16 := n_rngL y_16
        refine lv_lconst (pc := 79) (v := 0) hx hb dX3_better_79 (by decide) ?_
        refine b_lcmp_ge (pc := 80) (tgt := 101) hx hb rfl tL_0 dX3_better_80 dX3_better_81 (by decide) (fun c_17 => ?_) (fun c_17 => ?_)
        ·
          exact hret ((fun _ => 0), (fun k => [f0].getD k (fun _ => 0)), (fun k => [g0].getD k (fun _ => 0)), (fun _ => 0), (fun k => [y0].getD k 0)) dX3_better_101 trivial (g_psub (wc := [(a0, .inr (3, [.ref a1, .ref a2, .ref a3, .ref a4, .ref a5, .ref a6, .long y0, .int x2, .long y1, .long y2])), (a6, .inl (cJ, 5, .inr (.inl g0))), (a5, .inl (cI, 5, .inl f0)), (a1, .inr (10, [.ref a7, .ref a8, .ref a9, .ref a10, .ref a11, .ref a12, .ref a13, .int x3])), (a7, .inl (cJ, 25, .inr (.inl g1)))]) hP [0, 1, 2, 3, 4] rfl) (hD.sub (ws' := [(a0, .inr (3, [.ref a1, .ref a2, .ref a3, .ref a4, .ref a5, .ref a6, .long y0, .int x2, .long y1, .long y2])), (a6, .inl (cJ, 5, .inr (.inl g0))), (a5, .inl (cI, 5, .inl f0)), (a1, .inr (10, [.ref a7, .ref a8, .ref a9, .ref a10, .ref a11, .ref a12, .ref a13, .int x3])), (a7, .inl (cJ, 25, .inr (.inl g1)))]) [0, 1, 2, 3, 4] (by decide) rfl) hS
        ·
          refine lv_aload_n (pc := 84) hx hb dX3_better_84 rfl (lv_at hl 2 rfl) ?_
          refine va_get (pc := 85) (ci := 3) (v := .ref a5) (C := RX3) (T := TX3) (N := 10) hx hb hts iX3 hown hK hP 0 rfl rfl 4 (by decide) (hts _ tw_353) (fun _ h9 => h9) rfl dX3_better_85 ?_
          refine lv_iload_n (pc := 88) hx hb dX3_better_88 rfl (lv_at hl 3 rfl) ?_
          refine lv_dup2_11 (pc := 89) hx hb dX3_better_89 rfl rfl ?_
          refine va_iald (pc := 90) hx hb hK hP 2 2 rfl rfl (n_in rfl (by first | exact (om_0 hp1.1) | ((first | omega | (unfold zBd at *; omega)))) (by first | exact (om_1137 hp1.2) | ((first | omega | (unfold zBd at *; omega))))) dX3_better_90 ?_
          refine gI (y := x_3) ex_3.symm ?_
          refine lv_iload_n (pc := 91) hx hb dX3_better_91 rfl (lv_at hl 1 rfl) ?_
          refine lv_iadd (pc := 92) hx hb dX3_better_92 ?_
          refine lv_topi (fun x_18 _ => ?_)
          have rx_18 : zBd x_18.toInt (-2147483648) 2147483647 := n_rng x_18
          refine g_iastore (pc := 93) hx hb hK hP hD hS 2 2 rfl rfl (n_in rfl (by first | exact (om_0 hp1.1) | ((first | omega | (unfold zBd at *; omega)))) (by first | exact (om_1137 hp1.2) | ((first | omega | (unfold zBd at *; omega))))) dX3_better_93 (fun f_19 H locs hP hD hS => ?_)
          replace hP : va_P D gcl [(a0, .inr (3, [.ref a1, .ref a2, .ref a3, .ref a4, .ref a5, .ref a6, .long y0, .int x2, .long y1, .long y2])), (a6, .inl (cJ, 5, .inr (.inl g0))), (a5, .inl (cI, 5, .inl f_19)), (a1, .inr (10, [.ref a7, .ref a8, .ref a9, .ref a10, .ref a11, .ref a12, .ref a13, .int x3])), (a7, .inl (cJ, 25, .inr (.inl g1)))] H := hP
          replace hD : va_D A [(a0, .inr (3, [.ref a1, .ref a2, .ref a3, .ref a4, .ref a5, .ref a6, .long y0, .int x2, .long y1, .long y2])), (a6, .inl (cJ, 5, .inr (.inl g0))), (a5, .inl (cI, 5, .inl f_19)), (a1, .inr (10, [.ref a7, .ref a8, .ref a9, .ref a10, .ref a11, .ref a12, .ref a13, .int x3])), (a7, .inl (cJ, 25, .inr (.inl g1)))] := hD
          refine lv_aload_n (pc := 94) hx hb dX3_better_94 rfl (lv_at hl 2 rfl) ?_
          refine lv_iload_n (pc := 95) hx hb dX3_better_95 rfl (lv_at hl 3 rfl) ?_
          refine lv_lload (pc := 96) hx hb dX3_better_96 (lv_at hl 0 rfl) ?_
          refine gd_v (pc := 98) (wc := [(a0, .inr (3, [.ref a1, .ref a2, .ref a3, .ref a4, .ref a5, .ref a6, .long y0, .int x2, .long y1, .long y2])), (a6, .inl (cJ, 5, .inr (.inl g0))), (a1, .inr (10, [.ref a7, .ref a8, .ref a9, .ref a10, .ref a11, .ref a12, .ref a13, .int x3])), (a7, .inl (cJ, 25, .inr (.inl g1)))]) hP hD hS hA [0, 1, 3, 4] rfl (by decide +kernel) (fun _ => by rfl) (fun hPc hDc => va_runV (As := [.int x0, .long y_9]) (rest := []) ⟨hx, hb, hml, hown, hts⟩ (k_X3_move l D cB cC cI cJ _ a0 a1 a2 a3 a4 a5 a6 a7 a8 a9 a10 a11 a12 a13 x0 x2 x3 y_9 y0 y1 y2 g0 g1 hp1 h_x2 h_x3) ⟨gcwB hts tw_1254 tw_12 tw_1251 hd_yX3_move ⟨Nat.le_of_ble_eq_true rfl, Nat.le_of_ble_eq_true rfl⟩, hts _ tw_1253, hts _ tp_49⟩ ⟨gblind, va_recv hK hPc (ci := 3) (q0 := 0) rfl rfl, (gpreS hPc hK hDc hN).2⟩ rfl rfl hl.1 rfl (lv_room (Nat.le_of_ble_eq_true rfl)) dX3_better_98 ⟨Nat.le_of_ble_eq_true rfl, Nat.le_of_ble_eq_true rfl⟩) (fun u_20 H locs hw_22 hP hD hS => ?_)
          replace hP : va_P D gcl [(a0, .inr (3, [.ref a1, .ref a2, .ref a3, .ref a4, .ref a5, .ref a6, .long (u_20.2.2.2.2 0), .int x2, .long y1, .long y2])), (a6, .inl (cJ, 5, .inr (.inl (u_20.2.2.1 0)))), (a5, .inl (cI, 5, .inl f_19)), (a1, .inr (10, [.ref a7, .ref a8, .ref a9, .ref a10, .ref a11, .ref a12, .ref a13, .int x3])), (a7, .inl (cJ, 25, .inr (.inl g1)))] H := hP
          replace hD : va_D A [(a0, .inr (3, [.ref a1, .ref a2, .ref a3, .ref a4, .ref a5, .ref a6, .long (u_20.2.2.2.2 0), .int x2, .long y1, .long y2])), (a6, .inl (cJ, 5, .inr (.inl (u_20.2.2.1 0)))), (a5, .inl (cI, 5, .inl f_19)), (a1, .inr (10, [.ref a7, .ref a8, .ref a9, .ref a10, .ref a11, .ref a12, .ref a13, .int x3])), (a7, .inl (cJ, 25, .inr (.inl g1)))] := hD
          have ru_20_0 := n_rngL (u_20.2.2.2.2 0)
          have hw_23 : (((0 ≤ x3.toInt ∧ x3.toInt ≤ 4))) := hw_22
          exact hret ((fun _ => 0), (fun k => [f_19].getD k (fun _ => 0)), (fun k => [(u_20.2.2.1 0)].getD k (fun _ => 0)), (fun _ => 0), (fun k => [(u_20.2.2.2.2 0)].getD k 0)) dX3_better_101 trivial (g_psub (wc := [(a0, .inr (3, [.ref a1, .ref a2, .ref a3, .ref a4, .ref a5, .ref a6, .long (u_20.2.2.2.2 0), .int x2, .long y1, .long y2])), (a6, .inl (cJ, 5, .inr (.inl (u_20.2.2.1 0)))), (a5, .inl (cI, 5, .inl f_19)), (a1, .inr (10, [.ref a7, .ref a8, .ref a9, .ref a10, .ref a11, .ref a12, .ref a13, .int x3])), (a7, .inl (cJ, 25, .inr (.inl g1)))]) hP [0, 1, 2, 3, 4] rfl) (hD.sub (ws' := [(a0, .inr (3, [.ref a1, .ref a2, .ref a3, .ref a4, .ref a5, .ref a6, .long (u_20.2.2.2.2 0), .int x2, .long y1, .long y2])), (a6, .inl (cJ, 5, .inr (.inl (u_20.2.2.1 0)))), (a5, .inl (cI, 5, .inl f_19)), (a1, .inr (10, [.ref a7, .ref a8, .ref a9, .ref a10, .ref a11, .ref a12, .ref a13, .int x3])), (a7, .inl (cJ, 25, .inr (.inl g1)))]) [0, 1, 2, 3, 4] (by decide) rfl) hS
      ·
        exact hret ((fun _ => 0), (fun k => [f0].getD k (fun _ => 0)), (fun k => [g0].getD k (fun _ => 0)), (fun _ => 0), (fun k => [y0].getD k 0)) dX3_better_41 trivial (g_psub (wc := [(a0, .inr (3, [.ref a1, .ref a2, .ref a3, .ref a4, .ref a5, .ref a6, .long y0, .int x2, .long y1, .long y2])), (a6, .inl (cJ, 5, .inr (.inl g0))), (a5, .inl (cI, 5, .inl f0)), (a1, .inr (10, [.ref a7, .ref a8, .ref a9, .ref a10, .ref a11, .ref a12, .ref a13, .int x3])), (a7, .inl (cJ, 25, .inr (.inl g1)))]) hP [0, 1, 2, 3, 4] rfl) (hD.sub (ws' := [(a0, .inr (3, [.ref a1, .ref a2, .ref a3, .ref a4, .ref a5, .ref a6, .long y0, .int x2, .long y1, .long y2])), (a6, .inl (cJ, 5, .inr (.inl g0))), (a5, .inl (cI, 5, .inl f0)), (a1, .inr (10, [.ref a7, .ref a8, .ref a9, .ref a10, .ref a11, .ref a12, .ref a13, .int x3])), (a7, .inl (cJ, 25, .inr (.inl g1)))]) [0, 1, 2, 3, 4] (by decide) rfl) hS
  ·
    refine lv_iconst (pc := 11) (v := (-1)) hx hb dX3_better_11 (by decide) ?_
    refine lv_goto (pc := 12) (tgt := 16) hx hb dX3_better_12 (by decide) ?_
    refine lv_istore_n (pc := 16) (lv' := [(3, .int (-1)), (0, .ref a0), (1, .int x0), (2, .int x1)]) hx hb dX3_better_16 rfl hl (by decide) rfl (fun ls hl => ?_)
    refine lv_aload_n (pc := 17) hx hb dX3_better_17 rfl (lv_at hl 1 rfl) ?_
    refine va_get (pc := 18) (ci := 3) (v := .ref a5) (C := RX3) (T := TX3) (N := 10) hx hb hts iX3 hown hK hP 0 rfl rfl 4 (by decide) (hts _ tw_353) (fun _ h9 => h9) rfl dX3_better_18 ?_
    refine lv_iload_n (pc := 21) hx hb dX3_better_21 rfl (lv_at hl 2 rfl) ?_
    refine va_iald (pc := 22) hx hb hK hP 2 2 rfl rfl (n_in rfl (by first | exact (om_0 hp1.1) | ((first | omega | (unfold zBd at *; omega)))) (by first | exact (om_1137 hp1.2) | ((first | omega | (unfold zBd at *; omega))))) dX3_better_22 ?_
    refine lv_topi (fun x_24 ex_24 => ?_)
    have rx_24 : zBd x_24.toInt (-2147483648) 2147483647 := n_rng x_24
    refine lv_iload_n (pc := 23) hx hb dX3_better_23 rfl (lv_at hl 0 rfl) ?_
    refine lv_iadd (pc := 24) hx hb dX3_better_24 ?_
    refine lv_topi (fun x_25 _ => ?_)
    have rx_25 : zBd x_25.toInt (-2147483648) 2147483647 := n_rng x_25
    refine lv_iconst (pc := 25) (v := (-1)) hx hb dX3_better_25 (by decide) ?_
    refine b_icmp_lt (pc := 26) (tgt := 41) hx hb rfl tI_m1  dX3_better_26 (by decide) (fun c_26 => ?_) (fun c_26 => ?_)
    ·
      exact hret ((fun _ => 0), (fun k => [f0].getD k (fun _ => 0)), (fun k => [g0].getD k (fun _ => 0)), (fun _ => 0), (fun k => [y0].getD k 0)) dX3_better_41 trivial (g_psub (wc := [(a0, .inr (3, [.ref a1, .ref a2, .ref a3, .ref a4, .ref a5, .ref a6, .long y0, .int x2, .long y1, .long y2])), (a6, .inl (cJ, 5, .inr (.inl g0))), (a5, .inl (cI, 5, .inl f0)), (a1, .inr (10, [.ref a7, .ref a8, .ref a9, .ref a10, .ref a11, .ref a12, .ref a13, .int x3])), (a7, .inl (cJ, 25, .inr (.inl g1)))]) hP [0, 1, 2, 3, 4] rfl) (hD.sub (ws' := [(a0, .inr (3, [.ref a1, .ref a2, .ref a3, .ref a4, .ref a5, .ref a6, .long y0, .int x2, .long y1, .long y2])), (a6, .inl (cJ, 5, .inr (.inl g0))), (a5, .inl (cI, 5, .inl f0)), (a1, .inr (10, [.ref a7, .ref a8, .ref a9, .ref a10, .ref a11, .ref a12, .ref a13, .int x3])), (a7, .inl (cJ, 25, .inr (.inl g1)))]) [0, 1, 2, 3, 4] (by decide) rfl) hS
    ·
      refine lv_aload_n (pc := 29) hx hb dX3_better_29 rfl (lv_at hl 1 rfl) ?_
      refine va_get (pc := 30) (ci := 3) (v := .ref a5) (C := RX3) (T := TX3) (N := 10) hx hb hts iX3 hown hK hP 0 rfl rfl 4 (by decide) (hts _ tw_353) (fun _ h9 => h9) rfl dX3_better_30 ?_
      refine lv_iload_n (pc := 33) hx hb dX3_better_33 rfl (lv_at hl 2 rfl) ?_
      refine va_iald (pc := 34) hx hb hK hP 2 2 rfl rfl (n_in rfl (by first | exact (om_0 hp1.1) | ((first | omega | (unfold zBd at *; omega)))) (by first | exact (om_1137 hp1.2) | ((first | omega | (unfold zBd at *; omega))))) dX3_better_34 ?_
      refine gI (y := x_24) ex_24.symm ?_
      refine lv_iload_n (pc := 35) hx hb dX3_better_35 rfl (lv_at hl 0 rfl) ?_
      refine lv_iadd (pc := 36) hx hb dX3_better_36 ?_
      refine lv_topi (fun x_27 _ => ?_)
      have rx_27 : zBd x_27.toInt (-2147483648) 2147483647 := n_rng x_27
      refine lv_iconst (pc := 37) (v := 1) hx hb dX3_better_37 (by decide) ?_
      refine b_icmp_le (pc := 38) (tgt := 42) hx hb rfl tI_1  dX3_better_38 (by decide) (fun c_28 => ?_) (fun c_28 => ?_)
      ·
        refine lv_iload_n (pc := 42) hx hb dX3_better_42 rfl (lv_at hl 0 rfl) ?_
        refine lv_i2l (pc := 43) (v := (-1)) hx hb dX3_better_43 (by decide +kernel) ?_
        refine lv_iload_n (pc := 44) hx hb dX3_better_44 rfl (lv_at hl 3 rfl) ?_
        refine b_i2l (pc := 45) hx hb rfl dX3_better_45 (fun y_29 ey_29 => ?_)
        have ry_29 : zBd x1.toInt (-2147483648) 2147483647 := n_rng x1
        refine b_lmul (pc := 46) hx hb tL_m1 rfl (by first | exact (om_1277 ey_29 ry_29.2) | ((first | omega | (unfold zBd at *; omega)))) (by first | exact (om_1278 ey_29 ry_29.1) | ((first | omega | (unfold zBd at *; omega)))) dX3_better_46 (fun y_30 ey_30 => ?_)
        refine lv_lstore (pc := 47) (lv' := [(4, .long y_30), (3, .int (-1)), (0, .ref a0), (1, .int x0), (2, .int x1)]) hx hb dX3_better_47 hl (by decide) rfl (fun ls hl => ?_)
        refine lv_lload (pc := 49) hx hb dX3_better_49 (lv_at hl 0 rfl) ?_
        refine lv_ldc2 (pc := 51) hx hb hown (hts _ tw_1255) dX3_better_51 ?_
        refine lv_aload_n (pc := 54) hx hb dX3_better_54 rfl (lv_at hl 2 rfl) ?_
        refine va_get (pc := 55) (ci := 3) (v := .ref a6) (C := RX3) (T := TX3) (N := 10) hx hb hts iX3 hown hK hP 0 rfl rfl 5 (by decide) (hts _ tw_354) (fun _ h9 => h9) rfl dX3_better_55 ?_
        refine lv_iload_n (pc := 58) hx hb dX3_better_58 rfl (lv_at hl 3 rfl) ?_
        refine va_lald (pc := 59) hx hb hK hP 1 3 rfl rfl (n_in rfl (by first | exact (om_0 hp1.1) | ((first | omega | (unfold zBd at *; omega)))) (by first | exact (om_1137 hp1.2) | ((first | omega | (unfold zBd at *; omega))))) dX3_better_59 ?_
        refine gL (y := y_1) ey_1.symm ?_
        refine lv_lmul (pc := 60) hx hb dX3_better_60 ?_
        refine lv_topl (fun y_31 _ => ?_)
        have ry_31 := n_rngL y_31
        refine lv_lload (pc := 61) hx hb dX3_better_61 (lv_at hl 0 rfl) ?_
        refine lv_aload_n (pc := 63) hx hb dX3_better_63 rfl (lv_at hl 2 rfl) ?_
        refine va_get (pc := 64) (ci := 3) (v := .ref a1) (C := RX3) (T := TX3) (N := 10) hx hb hts iX3 hown hK hP 0 rfl rfl 0 (by decide) (hts _ tw_348) (fun _ h9 => h9) rfl dX3_better_64 ?_
        refine va_getN (pc := 67) (ci := 10) (v := .ref a7) (C := RX10) (T := TX10) (N := 8) hx hb hts iX10 hown hK hP 3 rfl rfl 0 (by decide) (va_Nw.use rfl (hN _ tn_208)) (fun _ h9 => h9) rfl dX3_better_67 ?_
        refine lv_iload_n (pc := 70) hx hb dX3_better_70 rfl (lv_at hl 3 rfl) ?_
        refine lv_iconst (pc := 71) (v := 5) hx hb dX3_better_71 (by decide) ?_
        refine b_imul (pc := 72) hx hb rfl tI_5 (by first | exact (om_330 hp1.1) | ((first | omega | (unfold zBd at *; omega)))) (by first | exact (om_1162 hp1.2) | ((first | omega | (unfold zBd at *; omega)))) dX3_better_72 (fun x_32 ex_32 => ?_)
        refine lv_iload_n (pc := 73) hx hb dX3_better_73 rfl (lv_at hl 3 rfl) ?_
        refine b_iadd (pc := 74) hx hb rfl rfl (by first | exact (om_406 ex_32 hp1.1) | ((first | omega | (unfold zBd at *; omega)))) (by first | exact (om_1163 ex_32 hp1.2) | ((first | omega | (unfold zBd at *; omega)))) dX3_better_74 (fun x_33 ex_33 => ?_)
        refine va_lald (pc := 75) hx hb hK hP 4 3 rfl rfl (n_in rfl (by first | exact (om_408 ex_33 ex_32 hp1.1) | ((first | omega | (unfold zBd at *; omega)))) (by first | exact (om_1164 ex_33 ex_32 hp1.2) | ((first | omega | (unfold zBd at *; omega))))) dX3_better_75 ?_
        refine lv_topl (fun y_34 ey_34 => ?_)
        have ry_34 := n_rngL y_34
        refine lv_lmul (pc := 76) hx hb dX3_better_76 ?_
        refine lv_topl (fun y_35 _ => ?_)
        have ry_35 := n_rngL y_35
        refine lv_ladd (pc := 77) hx hb dX3_better_77 ?_
        refine lv_topl (fun y_36 _ => ?_)
        have ry_36 := n_rngL y_36
        refine lv_lmul (pc := 78) hx hb dX3_better_78 ?_
        refine lv_topl (fun y_37 _ => ?_)
        have ry_37 := n_rngL y_37
        refine lv_lconst (pc := 79) (v := 0) hx hb dX3_better_79 (by decide) ?_
        refine b_lcmp_ge (pc := 80) (tgt := 101) hx hb rfl tL_0 dX3_better_80 dX3_better_81 (by decide) (fun c_38 => ?_) (fun c_38 => ?_)
        ·
          exact hret ((fun _ => 0), (fun k => [f0].getD k (fun _ => 0)), (fun k => [g0].getD k (fun _ => 0)), (fun _ => 0), (fun k => [y0].getD k 0)) dX3_better_101 trivial (g_psub (wc := [(a0, .inr (3, [.ref a1, .ref a2, .ref a3, .ref a4, .ref a5, .ref a6, .long y0, .int x2, .long y1, .long y2])), (a6, .inl (cJ, 5, .inr (.inl g0))), (a5, .inl (cI, 5, .inl f0)), (a1, .inr (10, [.ref a7, .ref a8, .ref a9, .ref a10, .ref a11, .ref a12, .ref a13, .int x3])), (a7, .inl (cJ, 25, .inr (.inl g1)))]) hP [0, 1, 2, 3, 4] rfl) (hD.sub (ws' := [(a0, .inr (3, [.ref a1, .ref a2, .ref a3, .ref a4, .ref a5, .ref a6, .long y0, .int x2, .long y1, .long y2])), (a6, .inl (cJ, 5, .inr (.inl g0))), (a5, .inl (cI, 5, .inl f0)), (a1, .inr (10, [.ref a7, .ref a8, .ref a9, .ref a10, .ref a11, .ref a12, .ref a13, .int x3])), (a7, .inl (cJ, 25, .inr (.inl g1)))]) [0, 1, 2, 3, 4] (by decide) rfl) hS
        ·
          refine lv_aload_n (pc := 84) hx hb dX3_better_84 rfl (lv_at hl 2 rfl) ?_
          refine va_get (pc := 85) (ci := 3) (v := .ref a5) (C := RX3) (T := TX3) (N := 10) hx hb hts iX3 hown hK hP 0 rfl rfl 4 (by decide) (hts _ tw_353) (fun _ h9 => h9) rfl dX3_better_85 ?_
          refine lv_iload_n (pc := 88) hx hb dX3_better_88 rfl (lv_at hl 3 rfl) ?_
          refine lv_dup2_11 (pc := 89) hx hb dX3_better_89 rfl rfl ?_
          refine va_iald (pc := 90) hx hb hK hP 2 2 rfl rfl (n_in rfl (by first | exact (om_0 hp1.1) | ((first | omega | (unfold zBd at *; omega)))) (by first | exact (om_1137 hp1.2) | ((first | omega | (unfold zBd at *; omega))))) dX3_better_90 ?_
          refine gI (y := x_24) ex_24.symm ?_
          refine lv_iload_n (pc := 91) hx hb dX3_better_91 rfl (lv_at hl 1 rfl) ?_
          refine lv_iadd (pc := 92) hx hb dX3_better_92 ?_
          refine lv_topi (fun x_39 _ => ?_)
          have rx_39 : zBd x_39.toInt (-2147483648) 2147483647 := n_rng x_39
          refine g_iastore (pc := 93) hx hb hK hP hD hS 2 2 rfl rfl (n_in rfl (by first | exact (om_0 hp1.1) | ((first | omega | (unfold zBd at *; omega)))) (by first | exact (om_1137 hp1.2) | ((first | omega | (unfold zBd at *; omega))))) dX3_better_93 (fun f_40 H locs hP hD hS => ?_)
          replace hP : va_P D gcl [(a0, .inr (3, [.ref a1, .ref a2, .ref a3, .ref a4, .ref a5, .ref a6, .long y0, .int x2, .long y1, .long y2])), (a6, .inl (cJ, 5, .inr (.inl g0))), (a5, .inl (cI, 5, .inl f_40)), (a1, .inr (10, [.ref a7, .ref a8, .ref a9, .ref a10, .ref a11, .ref a12, .ref a13, .int x3])), (a7, .inl (cJ, 25, .inr (.inl g1)))] H := hP
          replace hD : va_D A [(a0, .inr (3, [.ref a1, .ref a2, .ref a3, .ref a4, .ref a5, .ref a6, .long y0, .int x2, .long y1, .long y2])), (a6, .inl (cJ, 5, .inr (.inl g0))), (a5, .inl (cI, 5, .inl f_40)), (a1, .inr (10, [.ref a7, .ref a8, .ref a9, .ref a10, .ref a11, .ref a12, .ref a13, .int x3])), (a7, .inl (cJ, 25, .inr (.inl g1)))] := hD
          refine lv_aload_n (pc := 94) hx hb dX3_better_94 rfl (lv_at hl 2 rfl) ?_
          refine lv_iload_n (pc := 95) hx hb dX3_better_95 rfl (lv_at hl 3 rfl) ?_
          refine lv_lload (pc := 96) hx hb dX3_better_96 (lv_at hl 0 rfl) ?_
          refine gd_v (pc := 98) (wc := [(a0, .inr (3, [.ref a1, .ref a2, .ref a3, .ref a4, .ref a5, .ref a6, .long y0, .int x2, .long y1, .long y2])), (a6, .inl (cJ, 5, .inr (.inl g0))), (a1, .inr (10, [.ref a7, .ref a8, .ref a9, .ref a10, .ref a11, .ref a12, .ref a13, .int x3])), (a7, .inl (cJ, 25, .inr (.inl g1)))]) hP hD hS hA [0, 1, 3, 4] rfl (by decide +kernel) (fun _ => by rfl) (fun hPc hDc => va_runV (As := [.int x0, .long y_30]) (rest := []) ⟨hx, hb, hml, hown, hts⟩ (k_X3_move l D cB cC cI cJ _ a0 a1 a2 a3 a4 a5 a6 a7 a8 a9 a10 a11 a12 a13 x0 x2 x3 y_30 y0 y1 y2 g0 g1 hp1 h_x2 h_x3) ⟨gcwB hts tw_1254 tw_12 tw_1251 hd_yX3_move ⟨Nat.le_of_ble_eq_true rfl, Nat.le_of_ble_eq_true rfl⟩, hts _ tw_1253, hts _ tp_49⟩ ⟨gblind, va_recv hK hPc (ci := 3) (q0 := 0) rfl rfl, (gpreS hPc hK hDc hN).2⟩ rfl rfl hl.1 rfl (lv_room (Nat.le_of_ble_eq_true rfl)) dX3_better_98 ⟨Nat.le_of_ble_eq_true rfl, Nat.le_of_ble_eq_true rfl⟩) (fun u_41 H locs hw_43 hP hD hS => ?_)
          replace hP : va_P D gcl [(a0, .inr (3, [.ref a1, .ref a2, .ref a3, .ref a4, .ref a5, .ref a6, .long (u_41.2.2.2.2 0), .int x2, .long y1, .long y2])), (a6, .inl (cJ, 5, .inr (.inl (u_41.2.2.1 0)))), (a5, .inl (cI, 5, .inl f_40)), (a1, .inr (10, [.ref a7, .ref a8, .ref a9, .ref a10, .ref a11, .ref a12, .ref a13, .int x3])), (a7, .inl (cJ, 25, .inr (.inl g1)))] H := hP
          replace hD : va_D A [(a0, .inr (3, [.ref a1, .ref a2, .ref a3, .ref a4, .ref a5, .ref a6, .long (u_41.2.2.2.2 0), .int x2, .long y1, .long y2])), (a6, .inl (cJ, 5, .inr (.inl (u_41.2.2.1 0)))), (a5, .inl (cI, 5, .inl f_40)), (a1, .inr (10, [.ref a7, .ref a8, .ref a9, .ref a10, .ref a11, .ref a12, .ref a13, .int x3])), (a7, .inl (cJ, 25, .inr (.inl g1)))] := hD
          have ru_41_0 := n_rngL (u_41.2.2.2.2 0)
          have hw_44 : (((0 ≤ x3.toInt ∧ x3.toInt ≤ 4))) := hw_43
          exact hret ((fun _ => 0), (fun k => [f_40].getD k (fun _ => 0)), (fun k => [(u_41.2.2.1 0)].getD k (fun _ => 0)), (fun _ => 0), (fun k => [(u_41.2.2.2.2 0)].getD k 0)) dX3_better_101 trivial (g_psub (wc := [(a0, .inr (3, [.ref a1, .ref a2, .ref a3, .ref a4, .ref a5, .ref a6, .long (u_41.2.2.2.2 0), .int x2, .long y1, .long y2])), (a6, .inl (cJ, 5, .inr (.inl (u_41.2.2.1 0)))), (a5, .inl (cI, 5, .inl f_40)), (a1, .inr (10, [.ref a7, .ref a8, .ref a9, .ref a10, .ref a11, .ref a12, .ref a13, .int x3])), (a7, .inl (cJ, 25, .inr (.inl g1)))]) hP [0, 1, 2, 3, 4] rfl) (hD.sub (ws' := [(a0, .inr (3, [.ref a1, .ref a2, .ref a3, .ref a4, .ref a5, .ref a6, .long (u_41.2.2.2.2 0), .int x2, .long y1, .long y2])), (a6, .inl (cJ, 5, .inr (.inl (u_41.2.2.1 0)))), (a5, .inl (cI, 5, .inl f_40)), (a1, .inr (10, [.ref a7, .ref a8, .ref a9, .ref a10, .ref a11, .ref a12, .ref a13, .int x3])), (a7, .inl (cJ, 25, .inr (.inl g1)))]) [0, 1, 2, 3, 4] (by decide) rfl) hS
      ·
        exact hret ((fun _ => 0), (fun k => [f0].getD k (fun _ => 0)), (fun k => [g0].getD k (fun _ => 0)), (fun _ => 0), (fun k => [y0].getD k 0)) dX3_better_41 trivial (g_psub (wc := [(a0, .inr (3, [.ref a1, .ref a2, .ref a3, .ref a4, .ref a5, .ref a6, .long y0, .int x2, .long y1, .long y2])), (a6, .inl (cJ, 5, .inr (.inl g0))), (a5, .inl (cI, 5, .inl f0)), (a1, .inr (10, [.ref a7, .ref a8, .ref a9, .ref a10, .ref a11, .ref a12, .ref a13, .int x3])), (a7, .inl (cJ, 25, .inr (.inl g1)))]) hP [0, 1, 2, 3, 4] rfl) (hD.sub (ws' := [(a0, .inr (3, [.ref a1, .ref a2, .ref a3, .ref a4, .ref a5, .ref a6, .long y0, .int x2, .long y1, .long y2])), (a6, .inl (cJ, 5, .inr (.inl g0))), (a5, .inl (cI, 5, .inl f0)), (a1, .inr (10, [.ref a7, .ref a8, .ref a9, .ref a10, .ref a11, .ref a12, .ref a13, .int x3])), (a7, .inl (cJ, 25, .inr (.inl g1)))]) [0, 1, 2, 3, 4] (by decide) rfl) hS
theorem om_1279 {a : Int} (h0 : ((-1) ≤ a)) : (-2147483648 ≤ 2 * a) := by omega
theorem om_1280 {a : Int} (h0 : (a ≤ 8)) : (2 * a ≤ 2147483647) := by omega
theorem om_1281 {a b c d : Int} (h0 : (a = 0)) (h1 : ((-9223372036854775808) ≤ b)) (h2 : (0 ≤ c)) (h3 : (c ≤ 4)) (h4 : (d > b)) (h5 : (d ≤ 9223372036854775807)) (h6 : (b ≤ 9223372036854775807)) : (((a = 0 ∧ ((-9223372036854775808) ≤ b ∧ b ≤ 9223372036854775806)) ∨ (a = 1 ∧ ((-9223372036854775808) ≤ b ∧ b ≤ 9223372036854775807)) ∨ (a = 0 ∧ ((-9223372036854775808) ≤ b ∧ b ≤ 9223372036854775806) ∧ (0 ≤ c ∧ c ≤ 4)))) := by omega
theorem om_1282 {a b c : Int} (h0 : (a = 1)) (h1 : ((-9223372036854775808) ≤ b)) (h2 : (0 ≤ c)) (h3 : (c ≤ 4)) (h4 : (b ≤ 9223372036854775807)) : (((a = 0 ∧ ((-9223372036854775808) ≤ b ∧ b ≤ 9223372036854775806)) ∨ (a = 1 ∧ ((-9223372036854775808) ≤ b ∧ b ≤ 9223372036854775807)) ∨ (a = 0 ∧ ((-9223372036854775808) ≤ b ∧ b ≤ 9223372036854775806) ∧ (0 ≤ c ∧ c ≤ 4)))) := by omega
theorem om_1283 {a b c d : Int} (h0 : (a = 0)) (h1 : (d > b)) (h2 : (d ≤ b)) (h3 : (0 ≤ c)) (h4 : (c ≤ 4)) : (((a = 0 ∧ ((-9223372036854775808) ≤ b ∧ b ≤ 9223372036854775806)) ∨ (a = 1 ∧ ((-9223372036854775808) ≤ b ∧ b ≤ 9223372036854775807)) ∨ (a = 0 ∧ ((-9223372036854775808) ≤ b ∧ b ≤ 9223372036854775806) ∧ (0 ≤ c ∧ c ≤ 4)))) := by omega
theorem om_1284 {a : Int} (h0 : (a < 243)) : (a + 1 ≤ 2147483647) := by omega
theorem om_1285 {a b : Int} (h0 : (a = b + 1)) (h1 : (0 ≤ b)) (h2 : (b < 243)) : ((0 ≤ a ∧ a ≤ 2147483647)) := by omega
theorem om_1286 {a b c d e : Int} (h0 : (a = 0)) (h1 : ((-9223372036854775808) ≤ b)) (h2 : (0 ≤ c)) (h3 : (c ≤ 4)) (h4 : (d ≤ b)) (h5 : (e > b)) (h6 : (d = e)) (h7 : (b ≤ 9223372036854775807)) : (((a = 0 ∧ ((-9223372036854775808) ≤ b ∧ b ≤ 9223372036854775806)) ∨ (a = 1 ∧ ((-9223372036854775808) ≤ b ∧ b ≤ 9223372036854775807)) ∨ (a = 0 ∧ ((-9223372036854775808) ≤ b ∧ b ≤ 9223372036854775806) ∧ (0 ≤ c ∧ c ≤ 4)))) := by omega
set_option maxHeartbeats 4000000 in
set_option maxRecDepth 100000 in
theorem k_X3_fallsTo (l : Launch) (D : va_G) (cB cC cI cJ : ClassId) (sz : Nat) (a0 a1 a2 a3 a4 a5 a6 a7 a8 a9 a10 a11 a12 a13 a14 a15 a16 a17 : Nat) (x0 x1 x2 x3 x4 x5 x6 x7 x8 : Int32) (y0 y1 y2 y3 : Int64) (f0 : Nat → Int32) (g0 g1 : Nat → Int64) (h_x0 : zBd x0.toInt 0 1) (h_x1 : zBd x1.toInt (-1) 8) (h_x2 : zBd x2.toInt (-1) 5) (h_x3 : zBd x3.toInt (-1) 6) (h_x4 : zBd x4.toInt 0 6) (h_x5 : zBd x5.toInt 0 16) (h_x8 : zBd x8.toInt 0 4) : Met l yX3_fallsTo (.code yX3_fallsTo cX3_fallsTo 9 (some .boolean) :: lw_gd) ({ frames := 2, cells := 0, slots := 0, locals := 50 }) (gPre D [(cB, .byte), (cC, .char), (cI, .int), (cJ, .long)] [.ref a0, .long y0, .ref a1] [(a0, .inr (3, [.ref a2, .ref a3, .ref a4, .ref a5, .ref a6, .ref a7, .long y1, .int x0, .long y2, .long y3])), (a1, .inr (1, [.ref a8, .ref a9, .ref a10, .int x1, .int x2, .int x3, .int x4, .int x5, .int x6, .int x7])), (a2, .inr (10, [.ref a11, .ref a12, .ref a13, .ref a14, .ref a15, .ref a16, .ref a17, .int x8])), (a7, .inl (cJ, 5, .inr (.inl g0))), (a6, .inl (cI, 5, .inl f0)), (a11, .inl (cJ, 25, .inr (.inl g1)))] sz) (va_Qi (fun r u => ((r.toInt = 0 ∧ ((-9223372036854775808) ≤ y0.toInt ∧ y0.toInt ≤ 9223372036854775806)) ∨ (r.toInt = 1 ∧ ((-9223372036854775808) ≤ y0.toInt ∧ y0.toInt ≤ 9223372036854775807)) ∨ (r.toInt = 0 ∧ ((-9223372036854775808) ≤ y0.toInt ∧ y0.toInt ≤ 9223372036854775806) ∧ (0 ≤ x8.toInt ∧ x8.toInt ≤ 4)))) (gB D (va_A [(a0, .inr (3, [.ref a2, .ref a3, .ref a4, .ref a5, .ref a6, .ref a7, .long y1, .int x0, .long y2, .long y3])), (a1, .inr (1, [.ref a8, .ref a9, .ref a10, .int x1, .int x2, .int x3, .int x4, .int x5, .int x6, .int x7])), (a2, .inr (10, [.ref a11, .ref a12, .ref a13, .ref a14, .ref a15, .ref a16, .ref a17, .int x8])), (a7, .inl (cJ, 5, .inr (.inl g0))), (a6, .inl (cI, 5, .inl f0)), (a11, .inl (cJ, 25, .inr (.inl g1)))] sz) (fun u : gEx => [(a0, .inr (3, [.ref a2, .ref a3, .ref a4, .ref a5, .ref a6, .ref a7, .long (u.2.2.2.2 0), .int x0, .long y2, .long y3])), (a1, .inr (1, [.ref a8, .ref a9, .ref a10, .int x1, .int x2, .int x3, .int x4, .int x5, .int x6, .int x7])), (a2, .inr (10, [.ref a11, .ref a12, .ref a13, .ref a14, .ref a15, .ref a16, .ref a17, .int x8])), (a7, .inl (cJ, 5, .inr (.inl (u.2.2.1 0)))), (a6, .inl (cI, 5, .inl (u.2.1 0))), (a11, .inl (cJ, 25, .inr (.inl g1)))])) (va_A [(a0, .inr (3, [.ref a2, .ref a3, .ref a4, .ref a5, .ref a6, .ref a7, .long y1, .int x0, .long y2, .long y3])), (a1, .inr (1, [.ref a8, .ref a9, .ref a10, .int x1, .int x2, .int x3, .int x4, .int x5, .int x6, .int x7])), (a2, .inr (10, [.ref a11, .ref a12, .ref a13, .ref a14, .ref a15, .ref a16, .ref a17, .int x8])), (a7, .inl (cJ, 5, .inr (.inl g0))), (a6, .inl (cI, 5, .inl f0)), (a11, .inl (cJ, 25, .inr (.inl g1)))] sz)) 0 0 (va_A [(a0, .inr (3, [.ref a2, .ref a3, .ref a4, .ref a5, .ref a6, .ref a7, .long y1, .int x0, .long y2, .long y3])), (a1, .inr (1, [.ref a8, .ref a9, .ref a10, .int x1, .int x2, .int x3, .int x4, .int x5, .int x6, .int x7])), (a2, .inr (10, [.ref a11, .ref a12, .ref a13, .ref a14, .ref a15, .ref a16, .ref a17, .int x8])), (a7, .inl (cJ, 5, .inr (.inl g0))), (a6, .inl (cI, 5, .inl f0)), (a11, .inl (cJ, 25, .inr (.inl g1)))] sz) := by
  refine gOf_z (by decide +kernel) (Nat.le_of_ble_eq_true rfl) ?_
  intro p e s m args below meth c ls A Q hx hb hts hown hml hN hK hP hD hA hl hret
  replace hown : s.vm.findClass RX3 = some m.cls := hown
  have hS : va_S A s.heap s.heap [] := va_S.rf
  replace hP : va_P D gcl [(a0, .inr (3, [.ref a2, .ref a3, .ref a4, .ref a5, .ref a6, .ref a7, .long y1, .int x0, .long y2, .long y3])), (a1, .inr (1, [.ref a8, .ref a9, .ref a10, .int x1, .int x2, .int x3, .int x4, .int x5, .int x6, .int x7])), (a2, .inr (10, [.ref a11, .ref a12, .ref a13, .ref a14, .ref a15, .ref a16, .ref a17, .int x8])), (a7, .inl (cJ, 5, .inr (.inl g0))), (a6, .inl (cI, 5, .inl f0)), (a11, .inl (cJ, 25, .inr (.inl g1)))] s.heap := hP
  replace hl : lv_has ls 9 [(0, .ref a0), (1, .long y0), (3, .ref a1)] := hl
  have ry0 := n_rngL y0
  have ry1 := n_rngL y1
  have ry2 := n_rngL y2
  have ry3 := n_rngL y3
  have rx6 : zBd x6.toInt (-2147483648) 2147483647 := n_rng x6
  have rx7 : zBd x7.toInt (-2147483648) 2147483647 := n_rng x7
  refine lv_iconst (pc := 0) (v := 2) hx hb dX3_fallsTo_0 (by decide) ?_
  refine lv_aload_n (pc := 1) hx hb dX3_fallsTo_1 rfl (lv_at hl 2 rfl) ?_
  refine va_getN (pc := 2) (ci := 1) (v := .int x1) (C := RX1) (T := TX1) (N := 10) hx hb hts iX1 hown hK hP 1 rfl rfl 3 (by decide) (va_Nw.use rfl (hN _ tn_113)) (fun _ h9 => h9) rfl dX3_fallsTo_2 ?_
  refine b_imul (pc := 5) hx hb tI_2 rfl (by first | exact (om_1279 h_x1.1) | ((first | omega | (unfold zBd at *; omega)))) (by first | exact (om_1280 h_x1.2) | ((first | omega | (unfold zBd at *; omega)))) dX3_fallsTo_5 (fun x_1 ex_1 => ?_)
  refine lv_istore (pc := 6) (lv' := [(4, .int x_1), (0, .ref a0), (1, .long y0), (3, .ref a1)]) hx hb dX3_fallsTo_6 hl (by decide) rfl (fun ls hl => ?_)
  refine lv_iconst (pc := 8) (v := 0) hx hb dX3_fallsTo_8 (by decide) ?_
  refine lv_istore (pc := 9) (lv' := [(5, .int 0), (4, .int x_1), (0, .ref a0), (1, .long y0), (3, .ref a1)]) hx hb dX3_fallsTo_9 hl (by decide) rfl (fun ls hl => ?_)
  have lp_8 : ∀ (n : Nat) (x_2 : Int32) (y_4 : Int64) (f_7 : Nat → Int32) (g_6 : Nat → Int64) (H : Heap) (locs : List Loc) (ls : Array Slot), (0 ≤ x_2.toInt ∧ x_2.toInt ≤ 2147483647) → (2147483647 - x_2.toInt).toNat < n → va_P D gcl [(a0, .inr (3, [.ref a2, .ref a3, .ref a4, .ref a5, .ref a6, .ref a7, .long y_4, .int x0, .long y2, .long y3])), (a1, .inr (1, [.ref a8, .ref a9, .ref a10, .int x1, .int x2, .int x3, .int x4, .int x5, .int x6, .int x7])), (a2, .inr (10, [.ref a11, .ref a12, .ref a13, .ref a14, .ref a15, .ref a16, .ref a17, .int x8])), (a7, .inl (cJ, 5, .inr (.inl g_6))), (a6, .inl (cI, 5, .inl f_7)), (a11, .inl (cJ, 25, .inr (.inl g1)))] H → va_D A [(a0, .inr (3, [.ref a2, .ref a3, .ref a4, .ref a5, .ref a6, .ref a7, .long y_4, .int x0, .long y2, .long y3])), (a1, .inr (1, [.ref a8, .ref a9, .ref a10, .int x1, .int x2, .int x3, .int x4, .int x5, .int x6, .int x7])), (a2, .inr (10, [.ref a11, .ref a12, .ref a13, .ref a14, .ref a15, .ref a16, .ref a17, .int x8])), (a7, .inl (cJ, 5, .inr (.inl g_6))), (a6, .inl (cI, 5, .inl f_7)), (a11, .inl (cJ, 25, .inr (.inl g1)))] → va_S A s.heap H locs → lv_has ls 9 [(5, .int x_2), (4, .int x_1), (0, .ref a0), (1, .long y0), (3, .ref a1)] → W p l e ({ frames := 2, cells := 0, slots := 0, locals := 50 }) s m args below meth c H locs 0 0 Q (F0 m 11 ls []) := by
    intro n
    induction n with
    | zero => intro x_2 y_4 f_7 g_6 H locs ls hi_3 hmu; exact absurd hmu (Nat.not_lt_zero _)
    | succ n ih_lp_8 =>
      intro x_2 y_4 f_7 g_6 H locs ls hi_3 hmu_lp_8 hP hD hS hl
      have hi_5 := n_rngL y_4
      refine lv_iload (pc := 11) hx hb dX3_fallsTo_11 (lv_at hl 0 rfl) ?_
      refine lv_sipush (pc := 13) (v := 243) hx hb dX3_fallsTo_13 (by decide) ?_
      refine b_icmp_ge (pc := 16) (tgt := 90) hx hb rfl tI_243  dX3_fallsTo_16 (by decide) (fun c_9 => ?_) (fun c_9 => ?_)
      ·
        refine lv_aload_n (pc := 90) hx hb dX3_fallsTo_90 rfl (lv_at hl 2 rfl) ?_
        refine va_get (pc := 91) (ci := 3) (v := .long y_4) (C := RX3) (T := TX3) (N := 10) hx hb hts iX3 hown hK hP 0 rfl rfl 6 (by decide) (hts _ tw_355) (fun _ h9 => h9) rfl dX3_fallsTo_91 ?_
        refine lv_lload_n (pc := 94) hx hb dX3_fallsTo_94 rfl (lv_at hl 3 rfl) ?_
        refine b_lcmp_gt (pc := 95) (tgt := 103) hx hb rfl rfl dX3_fallsTo_95 dX3_fallsTo_96 (by decide) (fun c_10 => ?_) (fun c_10 => ?_)
        ·
          refine lv_iconst (pc := 103) (v := 0) hx hb dX3_fallsTo_103 (by decide) ?_
          exact hret 0 ((fun _ => 0), (fun k => [f_7].getD k (fun _ => 0)), (fun k => [g_6].getD k (fun _ => 0)), (fun _ => 0), (fun k => [y_4].getD k 0)) dX3_fallsTo_104 ⟨(Or.inl tI_0), (show (((0 : Int32).toInt = 0 ∧ ((-9223372036854775808) ≤ y0.toInt ∧ y0.toInt ≤ 9223372036854775806)) ∨ ((0 : Int32).toInt = 1 ∧ ((-9223372036854775808) ≤ y0.toInt ∧ y0.toInt ≤ 9223372036854775807)) ∨ ((0 : Int32).toInt = 0 ∧ ((-9223372036854775808) ≤ y0.toInt ∧ y0.toInt ≤ 9223372036854775806) ∧ (0 ≤ x8.toInt ∧ x8.toInt ≤ 4))) from (by first | exact (om_1281 tI_0 ry0.1 h_x8.1 h_x8.2 c_10 hi_5.2 ry0.2) | (have k9 := tI_0; (first | omega | (unfold zBd at *; omega)))))⟩ (g_psub (wc := [(a0, .inr (3, [.ref a2, .ref a3, .ref a4, .ref a5, .ref a6, .ref a7, .long y_4, .int x0, .long y2, .long y3])), (a1, .inr (1, [.ref a8, .ref a9, .ref a10, .int x1, .int x2, .int x3, .int x4, .int x5, .int x6, .int x7])), (a2, .inr (10, [.ref a11, .ref a12, .ref a13, .ref a14, .ref a15, .ref a16, .ref a17, .int x8])), (a7, .inl (cJ, 5, .inr (.inl g_6))), (a6, .inl (cI, 5, .inl f_7)), (a11, .inl (cJ, 25, .inr (.inl g1)))]) hP [0, 1, 2, 3, 4, 5] rfl) (hD.sub (ws' := [(a0, .inr (3, [.ref a2, .ref a3, .ref a4, .ref a5, .ref a6, .ref a7, .long y_4, .int x0, .long y2, .long y3])), (a1, .inr (1, [.ref a8, .ref a9, .ref a10, .int x1, .int x2, .int x3, .int x4, .int x5, .int x6, .int x7])), (a2, .inr (10, [.ref a11, .ref a12, .ref a13, .ref a14, .ref a15, .ref a16, .ref a17, .int x8])), (a7, .inl (cJ, 5, .inr (.inl g_6))), (a6, .inl (cI, 5, .inl f_7)), (a11, .inl (cJ, 25, .inr (.inl g1)))]) [0, 1, 2, 3, 4, 5] (by decide) rfl) hS
        ·
          refine lv_iconst (pc := 99) (v := 1) hx hb dX3_fallsTo_99 (by decide) ?_
          refine lv_goto (pc := 100) (tgt := 104) hx hb dX3_fallsTo_100 (by decide) ?_
          exact hret 1 ((fun _ => 0), (fun k => [f_7].getD k (fun _ => 0)), (fun k => [g_6].getD k (fun _ => 0)), (fun _ => 0), (fun k => [y_4].getD k 0)) dX3_fallsTo_104 ⟨(Or.inr tI_1), (show (((1 : Int32).toInt = 0 ∧ ((-9223372036854775808) ≤ y0.toInt ∧ y0.toInt ≤ 9223372036854775806)) ∨ ((1 : Int32).toInt = 1 ∧ ((-9223372036854775808) ≤ y0.toInt ∧ y0.toInt ≤ 9223372036854775807)) ∨ ((1 : Int32).toInt = 0 ∧ ((-9223372036854775808) ≤ y0.toInt ∧ y0.toInt ≤ 9223372036854775806) ∧ (0 ≤ x8.toInt ∧ x8.toInt ≤ 4))) from (by first | exact (om_1282 tI_1 ry0.1 h_x8.1 h_x8.2 ry0.2) | (have k9 := tI_1; (first | omega | (unfold zBd at *; omega)))))⟩ (g_psub (wc := [(a0, .inr (3, [.ref a2, .ref a3, .ref a4, .ref a5, .ref a6, .ref a7, .long y_4, .int x0, .long y2, .long y3])), (a1, .inr (1, [.ref a8, .ref a9, .ref a10, .int x1, .int x2, .int x3, .int x4, .int x5, .int x6, .int x7])), (a2, .inr (10, [.ref a11, .ref a12, .ref a13, .ref a14, .ref a15, .ref a16, .ref a17, .int x8])), (a7, .inl (cJ, 5, .inr (.inl g_6))), (a6, .inl (cI, 5, .inl f_7)), (a11, .inl (cJ, 25, .inr (.inl g1)))]) hP [0, 1, 2, 3, 4, 5] rfl) (hD.sub (ws' := [(a0, .inr (3, [.ref a2, .ref a3, .ref a4, .ref a5, .ref a6, .ref a7, .long y_4, .int x0, .long y2, .long y3])), (a1, .inr (1, [.ref a8, .ref a9, .ref a10, .int x1, .int x2, .int x3, .int x4, .int x5, .int x6, .int x7])), (a2, .inr (10, [.ref a11, .ref a12, .ref a13, .ref a14, .ref a15, .ref a16, .ref a17, .int x8])), (a7, .inl (cJ, 5, .inr (.inl g_6))), (a6, .inl (cI, 5, .inl f_7)), (a11, .inl (cJ, 25, .inr (.inl g1)))]) [0, 1, 2, 3, 4, 5] (by decide) rfl) hS
      ·
        refine lv_aload_n (pc := 19) hx hb dX3_fallsTo_19 rfl (lv_at hl 2 rfl) ?_
        refine va_get (pc := 20) (ci := 3) (v := .long y_4) (C := RX3) (T := TX3) (N := 10) hx hb hts iX3 hown hK hP 0 rfl rfl 6 (by decide) (hts _ tw_355) (fun _ h9 => h9) rfl dX3_fallsTo_20 ?_
        refine lv_lload_n (pc := 23) hx hb dX3_fallsTo_23 rfl (lv_at hl 3 rfl) ?_
        refine b_lcmp_le (pc := 24) (tgt := 90) hx hb rfl rfl dX3_fallsTo_24 dX3_fallsTo_25 (by decide) (fun c_11 => ?_) (fun c_11 => ?_)
        ·
          refine lv_aload_n (pc := 90) hx hb dX3_fallsTo_90 rfl (lv_at hl 2 rfl) ?_
          refine va_get (pc := 91) (ci := 3) (v := .long y_4) (C := RX3) (T := TX3) (N := 10) hx hb hts iX3 hown hK hP 0 rfl rfl 6 (by decide) (hts _ tw_355) (fun _ h9 => h9) rfl dX3_fallsTo_91 ?_
          refine lv_lload_n (pc := 94) hx hb dX3_fallsTo_94 rfl (lv_at hl 3 rfl) ?_
          refine b_lcmp_gt (pc := 95) (tgt := 103) hx hb rfl rfl dX3_fallsTo_95 dX3_fallsTo_96 (by decide) (fun c_12 => ?_) (fun c_12 => ?_)
          ·
            refine lv_iconst (pc := 103) (v := 0) hx hb dX3_fallsTo_103 (by decide) ?_
            exact hret 0 ((fun _ => 0), (fun k => [f_7].getD k (fun _ => 0)), (fun k => [g_6].getD k (fun _ => 0)), (fun _ => 0), (fun k => [y_4].getD k 0)) dX3_fallsTo_104 ⟨(Or.inl tI_0), (show (((0 : Int32).toInt = 0 ∧ ((-9223372036854775808) ≤ y0.toInt ∧ y0.toInt ≤ 9223372036854775806)) ∨ ((0 : Int32).toInt = 1 ∧ ((-9223372036854775808) ≤ y0.toInt ∧ y0.toInt ≤ 9223372036854775807)) ∨ ((0 : Int32).toInt = 0 ∧ ((-9223372036854775808) ≤ y0.toInt ∧ y0.toInt ≤ 9223372036854775806) ∧ (0 ≤ x8.toInt ∧ x8.toInt ≤ 4))) from (by first | exact (om_1283 tI_0 c_12 c_11 h_x8.1 h_x8.2) | (have k9 := tI_0; (first | omega | (unfold zBd at *; omega)))))⟩ (g_psub (wc := [(a0, .inr (3, [.ref a2, .ref a3, .ref a4, .ref a5, .ref a6, .ref a7, .long y_4, .int x0, .long y2, .long y3])), (a1, .inr (1, [.ref a8, .ref a9, .ref a10, .int x1, .int x2, .int x3, .int x4, .int x5, .int x6, .int x7])), (a2, .inr (10, [.ref a11, .ref a12, .ref a13, .ref a14, .ref a15, .ref a16, .ref a17, .int x8])), (a7, .inl (cJ, 5, .inr (.inl g_6))), (a6, .inl (cI, 5, .inl f_7)), (a11, .inl (cJ, 25, .inr (.inl g1)))]) hP [0, 1, 2, 3, 4, 5] rfl) (hD.sub (ws' := [(a0, .inr (3, [.ref a2, .ref a3, .ref a4, .ref a5, .ref a6, .ref a7, .long y_4, .int x0, .long y2, .long y3])), (a1, .inr (1, [.ref a8, .ref a9, .ref a10, .int x1, .int x2, .int x3, .int x4, .int x5, .int x6, .int x7])), (a2, .inr (10, [.ref a11, .ref a12, .ref a13, .ref a14, .ref a15, .ref a16, .ref a17, .int x8])), (a7, .inl (cJ, 5, .inr (.inl g_6))), (a6, .inl (cI, 5, .inl f_7)), (a11, .inl (cJ, 25, .inr (.inl g1)))]) [0, 1, 2, 3, 4, 5] (by decide) rfl) hS
          ·
            refine lv_iconst (pc := 99) (v := 1) hx hb dX3_fallsTo_99 (by decide) ?_
            refine lv_goto (pc := 100) (tgt := 104) hx hb dX3_fallsTo_100 (by decide) ?_
            exact hret 1 ((fun _ => 0), (fun k => [f_7].getD k (fun _ => 0)), (fun k => [g_6].getD k (fun _ => 0)), (fun _ => 0), (fun k => [y_4].getD k 0)) dX3_fallsTo_104 ⟨(Or.inr tI_1), (show (((1 : Int32).toInt = 0 ∧ ((-9223372036854775808) ≤ y0.toInt ∧ y0.toInt ≤ 9223372036854775806)) ∨ ((1 : Int32).toInt = 1 ∧ ((-9223372036854775808) ≤ y0.toInt ∧ y0.toInt ≤ 9223372036854775807)) ∨ ((1 : Int32).toInt = 0 ∧ ((-9223372036854775808) ≤ y0.toInt ∧ y0.toInt ≤ 9223372036854775806) ∧ (0 ≤ x8.toInt ∧ x8.toInt ≤ 4))) from (by first | exact (om_1282 tI_1 ry0.1 h_x8.1 h_x8.2 ry0.2) | (have k9 := tI_1; (first | omega | (unfold zBd at *; omega)))))⟩ (g_psub (wc := [(a0, .inr (3, [.ref a2, .ref a3, .ref a4, .ref a5, .ref a6, .ref a7, .long y_4, .int x0, .long y2, .long y3])), (a1, .inr (1, [.ref a8, .ref a9, .ref a10, .int x1, .int x2, .int x3, .int x4, .int x5, .int x6, .int x7])), (a2, .inr (10, [.ref a11, .ref a12, .ref a13, .ref a14, .ref a15, .ref a16, .ref a17, .int x8])), (a7, .inl (cJ, 5, .inr (.inl g_6))), (a6, .inl (cI, 5, .inl f_7)), (a11, .inl (cJ, 25, .inr (.inl g1)))]) hP [0, 1, 2, 3, 4, 5] rfl) (hD.sub (ws' := [(a0, .inr (3, [.ref a2, .ref a3, .ref a4, .ref a5, .ref a6, .ref a7, .long y_4, .int x0, .long y2, .long y3])), (a1, .inr (1, [.ref a8, .ref a9, .ref a10, .int x1, .int x2, .int x3, .int x4, .int x5, .int x6, .int x7])), (a2, .inr (10, [.ref a11, .ref a12, .ref a13, .ref a14, .ref a15, .ref a16, .ref a17, .int x8])), (a7, .inl (cJ, 5, .inr (.inl g_6))), (a6, .inl (cI, 5, .inl f_7)), (a11, .inl (cJ, 25, .inr (.inl g1)))]) [0, 1, 2, 3, 4, 5] (by decide) rfl) hS
        ·
          refine lv_aload_n (pc := 28) hx hb dX3_fallsTo_28 rfl (lv_at hl 2 rfl) ?_
          refine va_get (pc := 29) (ci := 3) (v := .long y_4) (C := RX3) (T := TX3) (N := 10) hx hb hts iX3 hown hK hP 0 rfl rfl 6 (by decide) (hts _ tw_355) (fun _ h9 => h9) rfl dX3_fallsTo_29 ?_
          refine lv_lstore (pc := 32) (lv' := [(6, .long y_4), (5, .int x_2), (4, .int x_1), (0, .ref a0), (1, .long y0), (3, .ref a1)]) hx hb dX3_fallsTo_32 hl (by decide) rfl (fun ls hl => ?_)
          refine lv_iconst (pc := 34) (v := 0) hx hb dX3_fallsTo_34 (by decide) ?_
          refine lv_istore (pc := 35) (lv' := [(8, .int 0), (6, .long y_4), (5, .int x_2), (4, .int x_1), (0, .ref a0), (1, .long y0), (3, .ref a1)]) hx hb dX3_fallsTo_35 hl (by decide) rfl (fun ls hl => ?_)
          have lp_19 : ∀ (n : Nat) (x_13 : Int32) (y_15 : Int64) (f_18 : Nat → Int32) (g_17 : Nat → Int64) (H : Heap) (locs : List Loc) (ls : Array Slot), (0 ≤ x_13.toInt ∧ x_13.toInt ≤ 2147483647) → (2147483647 - x_13.toInt).toNat < n → va_P D gcl [(a0, .inr (3, [.ref a2, .ref a3, .ref a4, .ref a5, .ref a6, .ref a7, .long y_15, .int x0, .long y2, .long y3])), (a1, .inr (1, [.ref a8, .ref a9, .ref a10, .int x1, .int x2, .int x3, .int x4, .int x5, .int x6, .int x7])), (a2, .inr (10, [.ref a11, .ref a12, .ref a13, .ref a14, .ref a15, .ref a16, .ref a17, .int x8])), (a7, .inl (cJ, 5, .inr (.inl g_17))), (a6, .inl (cI, 5, .inl f_18)), (a11, .inl (cJ, 25, .inr (.inl g1)))] H → va_D A [(a0, .inr (3, [.ref a2, .ref a3, .ref a4, .ref a5, .ref a6, .ref a7, .long y_15, .int x0, .long y2, .long y3])), (a1, .inr (1, [.ref a8, .ref a9, .ref a10, .int x1, .int x2, .int x3, .int x4, .int x5, .int x6, .int x7])), (a2, .inr (10, [.ref a11, .ref a12, .ref a13, .ref a14, .ref a15, .ref a16, .ref a17, .int x8])), (a7, .inl (cJ, 5, .inr (.inl g_17))), (a6, .inl (cI, 5, .inl f_18)), (a11, .inl (cJ, 25, .inr (.inl g1)))] → va_S A s.heap H locs → lv_has ls 9 [(8, .int x_13), (6, .long y_4), (5, .int x_2), (4, .int x_1), (0, .ref a0), (1, .long y0), (3, .ref a1)] → W p l e ({ frames := 2, cells := 0, slots := 0, locals := 50 }) s m args below meth c H locs 0 0 Q (F0 m 37 ls []) := by
            intro n
            induction n with
            | zero => intro x_13 y_15 f_18 g_17 H locs ls hi_14 hmu; exact absurd hmu (Nat.not_lt_zero _)
            | succ n ih_lp_19 =>
              intro x_13 y_15 f_18 g_17 H locs ls hi_14 hmu_lp_19 hP hD hS hl
              have hi_16 := n_rngL y_15
              refine lv_iload (pc := 37) hx hb dX3_fallsTo_37 (lv_at hl 0 rfl) ?_
              refine lv_aload_n (pc := 39) hx hb dX3_fallsTo_39 rfl (lv_at hl 4 rfl) ?_
              refine va_get (pc := 40) (ci := 3) (v := .ref a2) (C := RX3) (T := TX3) (N := 10) hx hb hts iX3 hown hK hP 0 rfl rfl 0 (by decide) (hts _ tw_348) (fun _ h9 => h9) rfl dX3_fallsTo_40 ?_
              refine va_getN (pc := 43) (ci := 10) (v := .int x8) (C := RX10) (T := TX10) (N := 8) hx hb hts iX10 hown hK hP 2 rfl rfl 7 (by decide) (va_Nw.use rfl (hN _ tn_223)) (fun _ h9 => h9) rfl dX3_fallsTo_43 ?_
              refine b_icmp_gt (pc := 46) (tgt := 72) hx hb rfl rfl  dX3_fallsTo_46 (by decide) (fun c_20 => ?_) (fun c_20 => ?_)
              ·
                refine lv_aload_n (pc := 72) hx hb dX3_fallsTo_72 rfl (lv_at hl 4 rfl) ?_
                refine va_get (pc := 73) (ci := 3) (v := .long y_15) (C := RX3) (T := TX3) (N := 10) hx hb hts iX3 hown hK hP 0 rfl rfl 6 (by decide) (hts _ tw_355) (fun _ h9 => h9) rfl dX3_fallsTo_73 ?_
                refine lv_lload (pc := 76) hx hb dX3_fallsTo_76 (lv_at hl 1 rfl) ?_
                refine b_lcmp_ne (pc := 78) (tgt := 84) hx hb rfl rfl dX3_fallsTo_78 dX3_fallsTo_79 (by decide) (fun c_21 => ?_) (fun c_21 => ?_)
                ·
                  refine b_iinc (pc := 84) hx hb dX3_fallsTo_84 hl (k := 2) rfl rfl tI_1 (by first | exact (om_2 hi_3.1) | ((first | omega | (unfold zBd at *; omega)))) (by first | exact (om_1284 c_9) | ((first | omega | (unfold zBd at *; omega)))) (by decide) (fun x_22 ex_22 ls hl => ?_)
                  replace hl : lv_has ls 9 [(5, .int x_22), (8, .int x_13), (6, .long y_4), (4, .int x_1), (0, .ref a0), (1, .long y0), (3, .ref a1)] := hl
                  refine lv_goto (pc := 87) (tgt := 11) hx hb dX3_fallsTo_87 (by decide) ?_
                  exact ih_lp_8 x_22 y_15 f_18 g_17 _ _ ls (by first | exact (om_1285 ex_22 hi_3.1 c_9) | ((first | omega | (unfold zBd at *; omega)))) (by (first | omega | (unfold zBd at *; omega))) hP hD hS (lv_sub hl [0, 3, 4, 5, 6] rfl)
                ·
                  refine lv_iconst (pc := 82) (v := 0) hx hb dX3_fallsTo_82 (by decide) ?_
                  exact hret 0 ((fun _ => 0), (fun k => [f_18].getD k (fun _ => 0)), (fun k => [g_17].getD k (fun _ => 0)), (fun _ => 0), (fun k => [y_15].getD k 0)) dX3_fallsTo_83 ⟨(Or.inl tI_0), (show (((0 : Int32).toInt = 0 ∧ ((-9223372036854775808) ≤ y0.toInt ∧ y0.toInt ≤ 9223372036854775806)) ∨ ((0 : Int32).toInt = 1 ∧ ((-9223372036854775808) ≤ y0.toInt ∧ y0.toInt ≤ 9223372036854775807)) ∨ ((0 : Int32).toInt = 0 ∧ ((-9223372036854775808) ≤ y0.toInt ∧ y0.toInt ≤ 9223372036854775806) ∧ (0 ≤ x8.toInt ∧ x8.toInt ≤ 4))) from (by first | exact (om_1281 tI_0 ry0.1 h_x8.1 h_x8.2 c_11 hi_5.2 ry0.2) | (have k9 := tI_0; (first | omega | (unfold zBd at *; omega)))))⟩ (g_psub (wc := [(a0, .inr (3, [.ref a2, .ref a3, .ref a4, .ref a5, .ref a6, .ref a7, .long y_15, .int x0, .long y2, .long y3])), (a1, .inr (1, [.ref a8, .ref a9, .ref a10, .int x1, .int x2, .int x3, .int x4, .int x5, .int x6, .int x7])), (a2, .inr (10, [.ref a11, .ref a12, .ref a13, .ref a14, .ref a15, .ref a16, .ref a17, .int x8])), (a7, .inl (cJ, 5, .inr (.inl g_17))), (a6, .inl (cI, 5, .inl f_18)), (a11, .inl (cJ, 25, .inr (.inl g1)))]) hP [0, 1, 2, 3, 4, 5] rfl) (hD.sub (ws' := [(a0, .inr (3, [.ref a2, .ref a3, .ref a4, .ref a5, .ref a6, .ref a7, .long y_15, .int x0, .long y2, .long y3])), (a1, .inr (1, [.ref a8, .ref a9, .ref a10, .int x1, .int x2, .int x3, .int x4, .int x5, .int x6, .int x7])), (a2, .inr (10, [.ref a11, .ref a12, .ref a13, .ref a14, .ref a15, .ref a16, .ref a17, .int x8])), (a7, .inl (cJ, 5, .inr (.inl g_17))), (a6, .inl (cI, 5, .inl f_18)), (a11, .inl (cJ, 25, .inr (.inl g1)))]) [0, 1, 2, 3, 4, 5] (by decide) rfl) hS
              ·
                refine lv_aload_n (pc := 49) hx hb dX3_fallsTo_49 rfl (lv_at hl 4 rfl) ?_
                refine va_get (pc := 50) (ci := 3) (v := .long y_15) (C := RX3) (T := TX3) (N := 10) hx hb hts iX3 hown hK hP 0 rfl rfl 6 (by decide) (hts _ tw_355) (fun _ h9 => h9) rfl dX3_fallsTo_50 ?_
                refine lv_lload_n (pc := 53) hx hb dX3_fallsTo_53 rfl (lv_at hl 5 rfl) ?_
                refine b_lcmp_le (pc := 54) (tgt := 72) hx hb rfl rfl dX3_fallsTo_54 dX3_fallsTo_55 (by decide) (fun c_23 => ?_) (fun c_23 => ?_)
                ·
                  refine lv_aload_n (pc := 72) hx hb dX3_fallsTo_72 rfl (lv_at hl 4 rfl) ?_
                  refine va_get (pc := 73) (ci := 3) (v := .long y_15) (C := RX3) (T := TX3) (N := 10) hx hb hts iX3 hown hK hP 0 rfl rfl 6 (by decide) (hts _ tw_355) (fun _ h9 => h9) rfl dX3_fallsTo_73 ?_
                  refine lv_lload (pc := 76) hx hb dX3_fallsTo_76 (lv_at hl 1 rfl) ?_
                  refine b_lcmp_ne (pc := 78) (tgt := 84) hx hb rfl rfl dX3_fallsTo_78 dX3_fallsTo_79 (by decide) (fun c_24 => ?_) (fun c_24 => ?_)
                  ·
                    refine b_iinc (pc := 84) hx hb dX3_fallsTo_84 hl (k := 2) rfl rfl tI_1 (by first | exact (om_2 hi_3.1) | ((first | omega | (unfold zBd at *; omega)))) (by first | exact (om_1284 c_9) | ((first | omega | (unfold zBd at *; omega)))) (by decide) (fun x_25 ex_25 ls hl => ?_)
                    replace hl : lv_has ls 9 [(5, .int x_25), (8, .int x_13), (6, .long y_4), (4, .int x_1), (0, .ref a0), (1, .long y0), (3, .ref a1)] := hl
                    refine lv_goto (pc := 87) (tgt := 11) hx hb dX3_fallsTo_87 (by decide) ?_
                    exact ih_lp_8 x_25 y_15 f_18 g_17 _ _ ls (by first | exact (om_1285 ex_25 hi_3.1 c_9) | ((first | omega | (unfold zBd at *; omega)))) (by (first | omega | (unfold zBd at *; omega))) hP hD hS (lv_sub hl [0, 3, 4, 5, 6] rfl)
                  ·
                    refine lv_iconst (pc := 82) (v := 0) hx hb dX3_fallsTo_82 (by decide) ?_
                    exact hret 0 ((fun _ => 0), (fun k => [f_18].getD k (fun _ => 0)), (fun k => [g_17].getD k (fun _ => 0)), (fun _ => 0), (fun k => [y_15].getD k 0)) dX3_fallsTo_83 ⟨(Or.inl tI_0), (show (((0 : Int32).toInt = 0 ∧ ((-9223372036854775808) ≤ y0.toInt ∧ y0.toInt ≤ 9223372036854775806)) ∨ ((0 : Int32).toInt = 1 ∧ ((-9223372036854775808) ≤ y0.toInt ∧ y0.toInt ≤ 9223372036854775807)) ∨ ((0 : Int32).toInt = 0 ∧ ((-9223372036854775808) ≤ y0.toInt ∧ y0.toInt ≤ 9223372036854775806) ∧ (0 ≤ x8.toInt ∧ x8.toInt ≤ 4))) from (by first | exact (om_1286 tI_0 ry0.1 h_x8.1 h_x8.2 c_23 c_11 c_24 ry0.2) | (have k9 := tI_0; (first | omega | (unfold zBd at *; omega)))))⟩ (g_psub (wc := [(a0, .inr (3, [.ref a2, .ref a3, .ref a4, .ref a5, .ref a6, .ref a7, .long y_15, .int x0, .long y2, .long y3])), (a1, .inr (1, [.ref a8, .ref a9, .ref a10, .int x1, .int x2, .int x3, .int x4, .int x5, .int x6, .int x7])), (a2, .inr (10, [.ref a11, .ref a12, .ref a13, .ref a14, .ref a15, .ref a16, .ref a17, .int x8])), (a7, .inl (cJ, 5, .inr (.inl g_17))), (a6, .inl (cI, 5, .inl f_18)), (a11, .inl (cJ, 25, .inr (.inl g1)))]) hP [0, 1, 2, 3, 4, 5] rfl) (hD.sub (ws' := [(a0, .inr (3, [.ref a2, .ref a3, .ref a4, .ref a5, .ref a6, .ref a7, .long y_15, .int x0, .long y2, .long y3])), (a1, .inr (1, [.ref a8, .ref a9, .ref a10, .int x1, .int x2, .int x3, .int x4, .int x5, .int x6, .int x7])), (a2, .inr (10, [.ref a11, .ref a12, .ref a13, .ref a14, .ref a15, .ref a16, .ref a17, .int x8])), (a7, .inl (cJ, 5, .inr (.inl g_17))), (a6, .inl (cI, 5, .inl f_18)), (a11, .inl (cJ, 25, .inr (.inl g1)))]) [0, 1, 2, 3, 4, 5] (by decide) rfl) hS
                ·
                  refine lv_aload_n (pc := 58) hx hb dX3_fallsTo_58 rfl (lv_at hl 4 rfl) ?_
                  refine lv_iload (pc := 59) hx hb dX3_fallsTo_59 (lv_at hl 0 rfl) ?_
                  refine lv_iload (pc := 61) hx hb dX3_fallsTo_61 (lv_at hl 3 rfl) ?_
                  refine gd_v (pc := 63) (wc := [(a0, .inr (3, [.ref a2, .ref a3, .ref a4, .ref a5, .ref a6, .ref a7, .long y_15, .int x0, .long y2, .long y3])), (a7, .inl (cJ, 5, .inr (.inl g_17))), (a6, .inl (cI, 5, .inl f_18)), (a2, .inr (10, [.ref a11, .ref a12, .ref a13, .ref a14, .ref a15, .ref a16, .ref a17, .int x8])), (a11, .inl (cJ, 25, .inr (.inl g1)))]) hP hD hS hA [0, 3, 4, 2, 5] rfl (by decide +kernel) (fun _ => by rfl) (fun hPc hDc => va_runV (As := [.int x_13, .int x_1]) (rest := []) ⟨hx, hb, hml, hown, hts⟩ (k_X3_better l D cB cC cI cJ _ a0 a2 a3 a4 a5 a6 a7 a11 a12 a13 a14 a15 a16 a17 x_13 x_1 x0 x8 y_15 y2 y3 f_18 g_17 g1 (by first | exact (om_1136 hi_14.1 c_20 h_x8.2) | ((first | omega | (unfold zBd at *; omega)))) h_x0 h_x8) ⟨gcwB hts tw_1264 tw_12 tw_1261 hd_yX3_better ⟨Nat.le_of_ble_eq_true rfl, Nat.le_of_ble_eq_true rfl⟩, hts _ tw_1263, hts _ tp_51⟩ ⟨gblind, va_recv hK hPc (ci := 3) (q0 := 0) rfl rfl, (gpreS hPc hK hDc hN).2⟩ rfl rfl hl.1 rfl (lv_room (Nat.le_of_ble_eq_true rfl)) dX3_fallsTo_63 ⟨Nat.le_of_ble_eq_true rfl, Nat.le_of_ble_eq_true rfl⟩) (fun u_26 H locs hw_28 hP hD hS => ?_)
                  replace hP : va_P D gcl [(a0, .inr (3, [.ref a2, .ref a3, .ref a4, .ref a5, .ref a6, .ref a7, .long (u_26.2.2.2.2 0), .int x0, .long y2, .long y3])), (a1, .inr (1, [.ref a8, .ref a9, .ref a10, .int x1, .int x2, .int x3, .int x4, .int x5, .int x6, .int x7])), (a2, .inr (10, [.ref a11, .ref a12, .ref a13, .ref a14, .ref a15, .ref a16, .ref a17, .int x8])), (a7, .inl (cJ, 5, .inr (.inl (u_26.2.2.1 0)))), (a6, .inl (cI, 5, .inl (u_26.2.1 0))), (a11, .inl (cJ, 25, .inr (.inl g1)))] H := hP
                  replace hD : va_D A [(a0, .inr (3, [.ref a2, .ref a3, .ref a4, .ref a5, .ref a6, .ref a7, .long (u_26.2.2.2.2 0), .int x0, .long y2, .long y3])), (a1, .inr (1, [.ref a8, .ref a9, .ref a10, .int x1, .int x2, .int x3, .int x4, .int x5, .int x6, .int x7])), (a2, .inr (10, [.ref a11, .ref a12, .ref a13, .ref a14, .ref a15, .ref a16, .ref a17, .int x8])), (a7, .inl (cJ, 5, .inr (.inl (u_26.2.2.1 0)))), (a6, .inl (cI, 5, .inl (u_26.2.1 0))), (a11, .inl (cJ, 25, .inr (.inl g1)))] := hD
                  have ru_26_0 := n_rngL (u_26.2.2.2.2 0)
                  refine b_iinc (pc := 66) hx hb dX3_fallsTo_66 hl (k := 0) rfl rfl tI_1 (by first | exact (om_2 hi_14.1) | ((first | omega | (unfold zBd at *; omega)))) (by first | exact (om_1134 c_20 h_x8.2) | ((first | omega | (unfold zBd at *; omega)))) (by decide) (fun x_29 ex_29 ls hl => ?_)
                  replace hl : lv_has ls 9 [(8, .int x_29), (6, .long y_4), (5, .int x_2), (4, .int x_1), (0, .ref a0), (1, .long y0), (3, .ref a1)] := hl
                  refine lv_goto (pc := 69) (tgt := 37) hx hb dX3_fallsTo_69 (by decide) ?_
                  exact ih_lp_19 x_29 (u_26.2.2.2.2 0) (u_26.2.1 0) (u_26.2.2.1 0) _ _ ls (by first | exact (om_1135 ex_29 hi_14.1 c_20 h_x8.2) | ((first | omega | (unfold zBd at *; omega)))) (by (first | omega | (unfold zBd at *; omega))) hP hD hS (lv_sub hl [0, 1, 2, 3, 4, 5, 6] rfl)
          exact lp_19 _ 0 y_4 f_7 g_6 _ _ ls (n_c tI_0 (by decide)) (Nat.lt_succ_self _) hP hD hS (lv_sub hl [0, 1, 2, 3, 4, 5, 6] rfl)
  exact lp_8 _ 0 y1 f0 g0 _ _ ls (n_c tI_0 (by decide)) (Nat.lt_succ_self _) hP hD hS (lv_sub hl [0, 1, 2, 3, 4] rfl)
set_option maxHeartbeats 4000000 in
set_option maxRecDepth 100000 in
theorem k_X3_nextLetters (l : Launch) (D : va_G) (cB cC cI cJ : ClassId) (sz : Nat) (a0 a1 a2 a3 a4 a5 a6 a7 a8 a9 a10 a11 a12 a13 a14 a15 a16 a17 : Nat) (x0 x1 x2 x3 x4 x5 x6 x7 x8 : Int32) (y0 y1 y2 : Int64) (f0 : Nat → Int32) (g0 g1 : Nat → Int64) (h_x0 : zBd x0.toInt 0 1) (h_x1 : zBd x1.toInt 0 4) (h_x2 : zBd x2.toInt (-1) 8) (h_x3 : zBd x3.toInt (-1) 5) (h_x4 : zBd x4.toInt (-1) 6) (h_x5 : zBd x5.toInt 0 6) (h_x6 : zBd x6.toInt 0 16) : Met l yX3_nextLetters (.code yX3_nextLetters cX3_nextLetters 3 none :: lw_gd) ({ frames := 1, cells := 0, slots := 0, locals := 25 }) (gPre D [(cB, .byte), (cC, .char), (cI, .int), (cJ, .long)] [.ref a0, .ref a1] [(a0, .inr (3, [.ref a2, .ref a3, .ref a4, .ref a5, .ref a6, .ref a7, .long y0, .int x0, .long y1, .long y2])), (a2, .inr (10, [.ref a8, .ref a9, .ref a10, .ref a11, .ref a12, .ref a13, .ref a14, .int x1])), (a5, .inl (cI, 5, .inl f0)), (a7, .inl (cJ, 5, .inr (.inl g0))), (a8, .inl (cJ, 25, .inr (.inl g1))), (a1, .inr (1, [.ref a15, .ref a16, .ref a17, .int x2, .int x3, .int x4, .int x5, .int x6, .int x7, .int x8]))] sz) (va_Qv (fun u => True) (gB D (va_A [(a0, .inr (3, [.ref a2, .ref a3, .ref a4, .ref a5, .ref a6, .ref a7, .long y0, .int x0, .long y1, .long y2])), (a2, .inr (10, [.ref a8, .ref a9, .ref a10, .ref a11, .ref a12, .ref a13, .ref a14, .int x1])), (a5, .inl (cI, 5, .inl f0)), (a7, .inl (cJ, 5, .inr (.inl g0))), (a8, .inl (cJ, 25, .inr (.inl g1))), (a1, .inr (1, [.ref a15, .ref a16, .ref a17, .int x2, .int x3, .int x4, .int x5, .int x6, .int x7, .int x8]))] sz) (fun u : gEx => [(a0, .inr (3, [.ref a2, .ref a3, .ref a4, .ref a5, .ref a6, .ref a7, .long (u.2.2.2.2 0), .int x0, .long y1, .long y2])), (a2, .inr (10, [.ref a8, .ref a9, .ref a10, .ref a11, .ref a12, .ref a13, .ref a14, .int x1])), (a5, .inl (cI, 5, .inl (u.2.1 0))), (a7, .inl (cJ, 5, .inr (.inl (u.2.2.1 0)))), (a8, .inl (cJ, 25, .inr (.inl g1))), (a1, .inr (1, [.ref a15, .ref a16, .ref a17, .int x2, .int x3, .int x4, .int x5, .int x6, .int x7, .int x8]))])) (va_A [(a0, .inr (3, [.ref a2, .ref a3, .ref a4, .ref a5, .ref a6, .ref a7, .long y0, .int x0, .long y1, .long y2])), (a2, .inr (10, [.ref a8, .ref a9, .ref a10, .ref a11, .ref a12, .ref a13, .ref a14, .int x1])), (a5, .inl (cI, 5, .inl f0)), (a7, .inl (cJ, 5, .inr (.inl g0))), (a8, .inl (cJ, 25, .inr (.inl g1))), (a1, .inr (1, [.ref a15, .ref a16, .ref a17, .int x2, .int x3, .int x4, .int x5, .int x6, .int x7, .int x8]))] sz)) 0 0 (va_A [(a0, .inr (3, [.ref a2, .ref a3, .ref a4, .ref a5, .ref a6, .ref a7, .long y0, .int x0, .long y1, .long y2])), (a2, .inr (10, [.ref a8, .ref a9, .ref a10, .ref a11, .ref a12, .ref a13, .ref a14, .int x1])), (a5, .inl (cI, 5, .inl f0)), (a7, .inl (cJ, 5, .inr (.inl g0))), (a8, .inl (cJ, 25, .inr (.inl g1))), (a1, .inr (1, [.ref a15, .ref a16, .ref a17, .int x2, .int x3, .int x4, .int x5, .int x6, .int x7, .int x8]))] sz) := by
  refine gOf_v (by decide +kernel) (Nat.le_of_ble_eq_true rfl) ?_
  intro p e s m args below meth c ls A Q hx hb hts hown hml hN hK hP hD hA hl hret
  replace hown : s.vm.findClass RX3 = some m.cls := hown
  have hS : va_S A s.heap s.heap [] := va_S.rf
  replace hP : va_P D gcl [(a0, .inr (3, [.ref a2, .ref a3, .ref a4, .ref a5, .ref a6, .ref a7, .long y0, .int x0, .long y1, .long y2])), (a2, .inr (10, [.ref a8, .ref a9, .ref a10, .ref a11, .ref a12, .ref a13, .ref a14, .int x1])), (a5, .inl (cI, 5, .inl f0)), (a7, .inl (cJ, 5, .inr (.inl g0))), (a8, .inl (cJ, 25, .inr (.inl g1))), (a1, .inr (1, [.ref a15, .ref a16, .ref a17, .int x2, .int x3, .int x4, .int x5, .int x6, .int x7, .int x8]))] s.heap := hP
  replace hl : lv_has ls 3 [(0, .ref a0), (1, .ref a1)] := hl
  have ry0 := n_rngL y0
  have ry1 := n_rngL y1
  have ry2 := n_rngL y2
  have rx7 : zBd x7.toInt (-2147483648) 2147483647 := n_rng x7
  have rx8 : zBd x8.toInt (-2147483648) 2147483647 := n_rng x8
  refine lv_aload_n (pc := 0) hx hb dX3_nextLetters_0 rfl (lv_at hl 0 rfl) ?_
  refine va_get (pc := 1) (ci := 3) (v := .ref a2) (C := RX3) (T := TX3) (N := 10) hx hb hts iX3 hown hK hP 0 rfl rfl 0 (by decide) (hts _ tw_348) (fun _ h9 => h9) rfl dX3_nextLetters_1 ?_
  refine va_getN (pc := 4) (ci := 10) (v := .int x1) (C := RX10) (T := TX10) (N := 8) hx hb hts iX10 hown hK hP 1 rfl rfl 7 (by decide) (va_Nw.use rfl (hN _ tn_223)) (fun _ h9 => h9) rfl dX3_nextLetters_4 ?_
  refine lv_istore_n (pc := 7) (lv' := [(2, .int x1), (0, .ref a0), (1, .ref a1)]) hx hb dX3_nextLetters_7 rfl hl (by decide) rfl (fun ls hl => ?_)
  have lp_7 : ∀ (n : Nat) (x_1 : Int32) (y_3 : Int64) (f_5 : Nat → Int32) (g_6 : Nat → Int64) (H : Heap) (locs : List Loc) (ls : Array Slot), (0 ≤ x_1.toInt ∧ x_1.toInt ≤ 4) → (x_1.toInt + 2147483648).toNat < n → va_P D gcl [(a0, .inr (3, [.ref a2, .ref a3, .ref a4, .ref a5, .ref a6, .ref a7, .long y_3, .int x0, .long y1, .long y2])), (a2, .inr (10, [.ref a8, .ref a9, .ref a10, .ref a11, .ref a12, .ref a13, .ref a14, .int x1])), (a5, .inl (cI, 5, .inl f_5)), (a7, .inl (cJ, 5, .inr (.inl g_6))), (a8, .inl (cJ, 25, .inr (.inl g1))), (a1, .inr (1, [.ref a15, .ref a16, .ref a17, .int x2, .int x3, .int x4, .int x5, .int x6, .int x7, .int x8]))] H → va_D A [(a0, .inr (3, [.ref a2, .ref a3, .ref a4, .ref a5, .ref a6, .ref a7, .long y_3, .int x0, .long y1, .long y2])), (a2, .inr (10, [.ref a8, .ref a9, .ref a10, .ref a11, .ref a12, .ref a13, .ref a14, .int x1])), (a5, .inl (cI, 5, .inl f_5)), (a7, .inl (cJ, 5, .inr (.inl g_6))), (a8, .inl (cJ, 25, .inr (.inl g1))), (a1, .inr (1, [.ref a15, .ref a16, .ref a17, .int x2, .int x3, .int x4, .int x5, .int x6, .int x7, .int x8]))] → va_S A s.heap H locs → lv_has ls 3 [(2, .int x_1), (0, .ref a0), (1, .ref a1)] → W p l e ({ frames := 1, cells := 0, slots := 0, locals := 25 }) s m args below meth c H locs 0 0 Q (F0 m 8 ls []) := by
    intro n
    induction n with
    | zero => intro x_1 y_3 f_5 g_6 H locs ls hi_2 hmu; exact absurd hmu (Nat.not_lt_zero _)
    | succ n ih_lp_7 =>
      intro x_1 y_3 f_5 g_6 H locs ls hi_2 hmu_lp_7 hP hD hS hl
      have hi_4 := n_rngL y_3
      refine lv_iload_n (pc := 8) hx hb dX3_nextLetters_8 rfl (lv_at hl 0 rfl) ?_
      refine b_if_le (pc := 9) (tgt := 59) hx hb rfl  dX3_nextLetters_9 (by decide) (fun c_8 => ?_) (fun c_8 => ?_)
      ·
        refine lv_aload_n (pc := 59) hx hb dX3_nextLetters_59 rfl (lv_at hl 1 rfl) ?_
        refine va_get (pc := 60) (ci := 3) (v := .ref a5) (C := RX3) (T := TX3) (N := 10) hx hb hts iX3 hown hK hP 0 rfl rfl 3 (by decide) (hts _ tw_352) (fun _ h9 => h9) rfl dX3_nextLetters_60 ?_
        refine lv_iload_n (pc := 63) hx hb dX3_nextLetters_63 rfl (lv_at hl 0 rfl) ?_
        refine lv_dup2_11 (pc := 64) hx hb dX3_nextLetters_64 rfl rfl ?_
        refine va_iald (pc := 65) hx hb hK hP 2 2 rfl rfl (n_in rfl (by first | exact (om_0 hi_2.1) | ((first | omega | (unfold zBd at *; omega)))) (by first | exact (om_1257 c_8) | ((first | omega | (unfold zBd at *; omega))))) dX3_nextLetters_65 ?_
        refine lv_topi (fun x_9 ex_9 => ?_)
        have rx_9 : zBd x_9.toInt (-2147483648) 2147483647 := n_rng x_9
        refine lv_iconst (pc := 66) (v := 2) hx hb dX3_nextLetters_66 (by decide) ?_
        refine lv_iadd (pc := 67) hx hb dX3_nextLetters_67 ?_
        refine lv_topi (fun x_10 _ => ?_)
        have rx_10 : zBd x_10.toInt (-2147483648) 2147483647 := n_rng x_10
        refine g_iastore (pc := 68) hx hb hK hP hD hS 2 2 rfl rfl (n_in rfl (by first | exact (om_0 hi_2.1) | ((first | omega | (unfold zBd at *; omega)))) (by first | exact (om_1257 c_8) | ((first | omega | (unfold zBd at *; omega))))) dX3_nextLetters_68 (fun f_11 H locs hP hD hS => ?_)
        replace hP : va_P D gcl [(a0, .inr (3, [.ref a2, .ref a3, .ref a4, .ref a5, .ref a6, .ref a7, .long y_3, .int x0, .long y1, .long y2])), (a2, .inr (10, [.ref a8, .ref a9, .ref a10, .ref a11, .ref a12, .ref a13, .ref a14, .int x1])), (a5, .inl (cI, 5, .inl f_11)), (a7, .inl (cJ, 5, .inr (.inl g_6))), (a8, .inl (cJ, 25, .inr (.inl g1))), (a1, .inr (1, [.ref a15, .ref a16, .ref a17, .int x2, .int x3, .int x4, .int x5, .int x6, .int x7, .int x8]))] H := hP
        replace hD : va_D A [(a0, .inr (3, [.ref a2, .ref a3, .ref a4, .ref a5, .ref a6, .ref a7, .long y_3, .int x0, .long y1, .long y2])), (a2, .inr (10, [.ref a8, .ref a9, .ref a10, .ref a11, .ref a12, .ref a13, .ref a14, .int x1])), (a5, .inl (cI, 5, .inl f_11)), (a7, .inl (cJ, 5, .inr (.inl g_6))), (a8, .inl (cJ, 25, .inr (.inl g1))), (a1, .inr (1, [.ref a15, .ref a16, .ref a17, .int x2, .int x3, .int x4, .int x5, .int x6, .int x7, .int x8]))] := hD
        refine lv_aload_n (pc := 69) hx hb dX3_nextLetters_69 rfl (lv_at hl 1 rfl) ?_
        refine lv_iload_n (pc := 70) hx hb dX3_nextLetters_70 rfl (lv_at hl 0 rfl) ?_
        refine lv_ldc2 (pc := 71) hx hb hown (hts _ tw_1255) dX3_nextLetters_71 ?_
        refine gd_v (pc := 74) (wc := [(a0, .inr (3, [.ref a2, .ref a3, .ref a4, .ref a5, .ref a6, .ref a7, .long y_3, .int x0, .long y1, .long y2])), (a7, .inl (cJ, 5, .inr (.inl g_6))), (a2, .inr (10, [.ref a8, .ref a9, .ref a10, .ref a11, .ref a12, .ref a13, .ref a14, .int x1])), (a8, .inl (cJ, 25, .inr (.inl g1)))]) hP hD hS hA [0, 3, 1, 4] rfl (by decide +kernel) (fun _ => by rfl) (fun hPc hDc => va_runV (As := [.int x_1, .long 2]) (rest := []) ⟨hx, hb, hml, hown, hts⟩ (k_X3_move l D cB cC cI cJ _ a0 a2 a3 a4 a5 a6 a7 a8 a9 a10 a11 a12 a13 a14 x_1 x0 x1 2 y_3 y1 y2 g_6 g1 hi_2 h_x0 h_x1) ⟨gcwB hts tw_1254 tw_12 tw_1251 hd_yX3_move ⟨Nat.le_of_ble_eq_true rfl, Nat.le_of_ble_eq_true rfl⟩, hts _ tw_1253, hts _ tp_49⟩ ⟨gblind, va_recv hK hPc (ci := 3) (q0 := 0) rfl rfl, (gpreS hPc hK hDc hN).2⟩ rfl rfl hl.1 rfl (lv_room (Nat.le_of_ble_eq_true rfl)) dX3_nextLetters_74 ⟨Nat.le_of_ble_eq_true rfl, Nat.le_of_ble_eq_true rfl⟩) (fun u_12 H locs hw_14 hP hD hS => ?_)
        replace hP : va_P D gcl [(a0, .inr (3, [.ref a2, .ref a3, .ref a4, .ref a5, .ref a6, .ref a7, .long (u_12.2.2.2.2 0), .int x0, .long y1, .long y2])), (a2, .inr (10, [.ref a8, .ref a9, .ref a10, .ref a11, .ref a12, .ref a13, .ref a14, .int x1])), (a5, .inl (cI, 5, .inl f_11)), (a7, .inl (cJ, 5, .inr (.inl (u_12.2.2.1 0)))), (a8, .inl (cJ, 25, .inr (.inl g1))), (a1, .inr (1, [.ref a15, .ref a16, .ref a17, .int x2, .int x3, .int x4, .int x5, .int x6, .int x7, .int x8]))] H := hP
        replace hD : va_D A [(a0, .inr (3, [.ref a2, .ref a3, .ref a4, .ref a5, .ref a6, .ref a7, .long (u_12.2.2.2.2 0), .int x0, .long y1, .long y2])), (a2, .inr (10, [.ref a8, .ref a9, .ref a10, .ref a11, .ref a12, .ref a13, .ref a14, .int x1])), (a5, .inl (cI, 5, .inl f_11)), (a7, .inl (cJ, 5, .inr (.inl (u_12.2.2.1 0)))), (a8, .inl (cJ, 25, .inr (.inl g1))), (a1, .inr (1, [.ref a15, .ref a16, .ref a17, .int x2, .int x3, .int x4, .int x5, .int x6, .int x7, .int x8]))] := hD
        have ru_12_0 := n_rngL (u_12.2.2.2.2 0)
        have hw_15 : (((0 ≤ x1.toInt ∧ x1.toInt ≤ 4))) := hw_14
        have kk0_r_13 := tL_2
        exact hret ((fun _ => 0), (fun k => [f_11].getD k (fun _ => 0)), (fun k => [(u_12.2.2.1 0)].getD k (fun _ => 0)), (fun _ => 0), (fun k => [(u_12.2.2.2.2 0)].getD k 0)) dX3_nextLetters_77 trivial (g_psub (wc := [(a0, .inr (3, [.ref a2, .ref a3, .ref a4, .ref a5, .ref a6, .ref a7, .long (u_12.2.2.2.2 0), .int x0, .long y1, .long y2])), (a2, .inr (10, [.ref a8, .ref a9, .ref a10, .ref a11, .ref a12, .ref a13, .ref a14, .int x1])), (a5, .inl (cI, 5, .inl f_11)), (a7, .inl (cJ, 5, .inr (.inl (u_12.2.2.1 0)))), (a8, .inl (cJ, 25, .inr (.inl g1))), (a1, .inr (1, [.ref a15, .ref a16, .ref a17, .int x2, .int x3, .int x4, .int x5, .int x6, .int x7, .int x8]))]) hP [0, 1, 2, 3, 4, 5] rfl) (hD.sub (ws' := [(a0, .inr (3, [.ref a2, .ref a3, .ref a4, .ref a5, .ref a6, .ref a7, .long (u_12.2.2.2.2 0), .int x0, .long y1, .long y2])), (a2, .inr (10, [.ref a8, .ref a9, .ref a10, .ref a11, .ref a12, .ref a13, .ref a14, .int x1])), (a5, .inl (cI, 5, .inl f_11)), (a7, .inl (cJ, 5, .inr (.inl (u_12.2.2.1 0)))), (a8, .inl (cJ, 25, .inr (.inl g1))), (a1, .inr (1, [.ref a15, .ref a16, .ref a17, .int x2, .int x3, .int x4, .int x5, .int x6, .int x7, .int x8]))]) [0, 1, 2, 3, 4, 5] (by decide) rfl) hS
      ·
        refine lv_aload_n (pc := 12) hx hb dX3_nextLetters_12 rfl (lv_at hl 1 rfl) ?_
        refine va_get (pc := 13) (ci := 3) (v := .ref a5) (C := RX3) (T := TX3) (N := 10) hx hb hts iX3 hown hK hP 0 rfl rfl 3 (by decide) (hts _ tw_352) (fun _ h9 => h9) rfl dX3_nextLetters_13 ?_
        refine lv_iload_n (pc := 16) hx hb dX3_nextLetters_16 rfl (lv_at hl 0 rfl) ?_
        refine va_iald (pc := 17) hx hb hK hP 2 2 rfl rfl (n_in rfl (by first | exact (om_1234 c_8) | ((first | omega | (unfold zBd at *; omega)))) (by first | exact (om_1137 hi_2.2) | ((first | omega | (unfold zBd at *; omega))))) dX3_nextLetters_17 ?_
        refine lv_topi (fun x_16 ex_16 => ?_)
        have rx_16 : zBd x_16.toInt (-2147483648) 2147483647 := n_rng x_16
        refine lv_aload_n (pc := 18) hx hb dX3_nextLetters_18 rfl (lv_at hl 2 rfl) ?_
        refine va_getN (pc := 19) (ci := 1) (v := .int x2) (C := RX1) (T := TX1) (N := 10) hx hb hts iX1 hown hK hP 5 rfl rfl 3 (by decide) (va_Nw.use rfl (hN _ tn_113)) (fun _ h9 => h9) rfl dX3_nextLetters_19 ?_
        refine lv_iconst (pc := 22) (v := 1) hx hb dX3_nextLetters_22 (by decide) ?_
        refine b_isub (pc := 23) hx hb rfl tI_1 (by first | exact (om_1090 h_x2.1) | ((first | omega | (unfold zBd at *; omega)))) (by first | exact (om_1095 h_x2.2) | ((first | omega | (unfold zBd at *; omega)))) dX3_nextLetters_23 (fun x_17 ex_17 => ?_)
        refine b_icmp_ne (pc := 24) (tgt := 59) hx hb rfl rfl  dX3_nextLetters_24 (by decide) (fun c_18 => ?_) (fun c_18 => ?_)
        ·
          refine lv_aload_n (pc := 59) hx hb dX3_nextLetters_59 rfl (lv_at hl 1 rfl) ?_
          refine va_get (pc := 60) (ci := 3) (v := .ref a5) (C := RX3) (T := TX3) (N := 10) hx hb hts iX3 hown hK hP 0 rfl rfl 3 (by decide) (hts _ tw_352) (fun _ h9 => h9) rfl dX3_nextLetters_60 ?_
          refine lv_iload_n (pc := 63) hx hb dX3_nextLetters_63 rfl (lv_at hl 0 rfl) ?_
          refine lv_dup2_11 (pc := 64) hx hb dX3_nextLetters_64 rfl rfl ?_
          refine va_iald (pc := 65) hx hb hK hP 2 2 rfl rfl (n_in rfl (by first | exact (om_1234 c_8) | ((first | omega | (unfold zBd at *; omega)))) (by first | exact (om_1137 hi_2.2) | ((first | omega | (unfold zBd at *; omega))))) dX3_nextLetters_65 ?_
          refine gI (y := x_16) ex_16.symm ?_
          refine lv_iconst (pc := 66) (v := 2) hx hb dX3_nextLetters_66 (by decide) ?_
          refine lv_iadd (pc := 67) hx hb dX3_nextLetters_67 ?_
          refine lv_topi (fun x_19 _ => ?_)
          have rx_19 : zBd x_19.toInt (-2147483648) 2147483647 := n_rng x_19
          refine g_iastore (pc := 68) hx hb hK hP hD hS 2 2 rfl rfl (n_in rfl (by first | exact (om_1234 c_8) | ((first | omega | (unfold zBd at *; omega)))) (by first | exact (om_1137 hi_2.2) | ((first | omega | (unfold zBd at *; omega))))) dX3_nextLetters_68 (fun f_20 H locs hP hD hS => ?_)
          replace hP : va_P D gcl [(a0, .inr (3, [.ref a2, .ref a3, .ref a4, .ref a5, .ref a6, .ref a7, .long y_3, .int x0, .long y1, .long y2])), (a2, .inr (10, [.ref a8, .ref a9, .ref a10, .ref a11, .ref a12, .ref a13, .ref a14, .int x1])), (a5, .inl (cI, 5, .inl f_20)), (a7, .inl (cJ, 5, .inr (.inl g_6))), (a8, .inl (cJ, 25, .inr (.inl g1))), (a1, .inr (1, [.ref a15, .ref a16, .ref a17, .int x2, .int x3, .int x4, .int x5, .int x6, .int x7, .int x8]))] H := hP
          replace hD : va_D A [(a0, .inr (3, [.ref a2, .ref a3, .ref a4, .ref a5, .ref a6, .ref a7, .long y_3, .int x0, .long y1, .long y2])), (a2, .inr (10, [.ref a8, .ref a9, .ref a10, .ref a11, .ref a12, .ref a13, .ref a14, .int x1])), (a5, .inl (cI, 5, .inl f_20)), (a7, .inl (cJ, 5, .inr (.inl g_6))), (a8, .inl (cJ, 25, .inr (.inl g1))), (a1, .inr (1, [.ref a15, .ref a16, .ref a17, .int x2, .int x3, .int x4, .int x5, .int x6, .int x7, .int x8]))] := hD
          refine lv_aload_n (pc := 69) hx hb dX3_nextLetters_69 rfl (lv_at hl 1 rfl) ?_
          refine lv_iload_n (pc := 70) hx hb dX3_nextLetters_70 rfl (lv_at hl 0 rfl) ?_
          refine lv_ldc2 (pc := 71) hx hb hown (hts _ tw_1255) dX3_nextLetters_71 ?_
          refine gd_v (pc := 74) (wc := [(a0, .inr (3, [.ref a2, .ref a3, .ref a4, .ref a5, .ref a6, .ref a7, .long y_3, .int x0, .long y1, .long y2])), (a7, .inl (cJ, 5, .inr (.inl g_6))), (a2, .inr (10, [.ref a8, .ref a9, .ref a10, .ref a11, .ref a12, .ref a13, .ref a14, .int x1])), (a8, .inl (cJ, 25, .inr (.inl g1)))]) hP hD hS hA [0, 3, 1, 4] rfl (by decide +kernel) (fun _ => by rfl) (fun hPc hDc => va_runV (As := [.int x_1, .long 2]) (rest := []) ⟨hx, hb, hml, hown, hts⟩ (k_X3_move l D cB cC cI cJ _ a0 a2 a3 a4 a5 a6 a7 a8 a9 a10 a11 a12 a13 a14 x_1 x0 x1 2 y_3 y1 y2 g_6 g1 hi_2 h_x0 h_x1) ⟨gcwB hts tw_1254 tw_12 tw_1251 hd_yX3_move ⟨Nat.le_of_ble_eq_true rfl, Nat.le_of_ble_eq_true rfl⟩, hts _ tw_1253, hts _ tp_49⟩ ⟨gblind, va_recv hK hPc (ci := 3) (q0 := 0) rfl rfl, (gpreS hPc hK hDc hN).2⟩ rfl rfl hl.1 rfl (lv_room (Nat.le_of_ble_eq_true rfl)) dX3_nextLetters_74 ⟨Nat.le_of_ble_eq_true rfl, Nat.le_of_ble_eq_true rfl⟩) (fun u_21 H locs hw_23 hP hD hS => ?_)
          replace hP : va_P D gcl [(a0, .inr (3, [.ref a2, .ref a3, .ref a4, .ref a5, .ref a6, .ref a7, .long (u_21.2.2.2.2 0), .int x0, .long y1, .long y2])), (a2, .inr (10, [.ref a8, .ref a9, .ref a10, .ref a11, .ref a12, .ref a13, .ref a14, .int x1])), (a5, .inl (cI, 5, .inl f_20)), (a7, .inl (cJ, 5, .inr (.inl (u_21.2.2.1 0)))), (a8, .inl (cJ, 25, .inr (.inl g1))), (a1, .inr (1, [.ref a15, .ref a16, .ref a17, .int x2, .int x3, .int x4, .int x5, .int x6, .int x7, .int x8]))] H := hP
          replace hD : va_D A [(a0, .inr (3, [.ref a2, .ref a3, .ref a4, .ref a5, .ref a6, .ref a7, .long (u_21.2.2.2.2 0), .int x0, .long y1, .long y2])), (a2, .inr (10, [.ref a8, .ref a9, .ref a10, .ref a11, .ref a12, .ref a13, .ref a14, .int x1])), (a5, .inl (cI, 5, .inl f_20)), (a7, .inl (cJ, 5, .inr (.inl (u_21.2.2.1 0)))), (a8, .inl (cJ, 25, .inr (.inl g1))), (a1, .inr (1, [.ref a15, .ref a16, .ref a17, .int x2, .int x3, .int x4, .int x5, .int x6, .int x7, .int x8]))] := hD
          have ru_21_0 := n_rngL (u_21.2.2.2.2 0)
          have hw_24 : (((0 ≤ x1.toInt ∧ x1.toInt ≤ 4))) := hw_23
          have kk0_r_22 := tL_2
          exact hret ((fun _ => 0), (fun k => [f_20].getD k (fun _ => 0)), (fun k => [(u_21.2.2.1 0)].getD k (fun _ => 0)), (fun _ => 0), (fun k => [(u_21.2.2.2.2 0)].getD k 0)) dX3_nextLetters_77 trivial (g_psub (wc := [(a0, .inr (3, [.ref a2, .ref a3, .ref a4, .ref a5, .ref a6, .ref a7, .long (u_21.2.2.2.2 0), .int x0, .long y1, .long y2])), (a2, .inr (10, [.ref a8, .ref a9, .ref a10, .ref a11, .ref a12, .ref a13, .ref a14, .int x1])), (a5, .inl (cI, 5, .inl f_20)), (a7, .inl (cJ, 5, .inr (.inl (u_21.2.2.1 0)))), (a8, .inl (cJ, 25, .inr (.inl g1))), (a1, .inr (1, [.ref a15, .ref a16, .ref a17, .int x2, .int x3, .int x4, .int x5, .int x6, .int x7, .int x8]))]) hP [0, 1, 2, 3, 4, 5] rfl) (hD.sub (ws' := [(a0, .inr (3, [.ref a2, .ref a3, .ref a4, .ref a5, .ref a6, .ref a7, .long (u_21.2.2.2.2 0), .int x0, .long y1, .long y2])), (a2, .inr (10, [.ref a8, .ref a9, .ref a10, .ref a11, .ref a12, .ref a13, .ref a14, .int x1])), (a5, .inl (cI, 5, .inl f_20)), (a7, .inl (cJ, 5, .inr (.inl (u_21.2.2.1 0)))), (a8, .inl (cJ, 25, .inr (.inl g1))), (a1, .inr (1, [.ref a15, .ref a16, .ref a17, .int x2, .int x3, .int x4, .int x5, .int x6, .int x7, .int x8]))]) [0, 1, 2, 3, 4, 5] (by decide) rfl) hS
        ·
          refine lv_aload_n (pc := 27) hx hb dX3_nextLetters_27 rfl (lv_at hl 1 rfl) ?_
          refine va_get (pc := 28) (ci := 3) (v := .ref a5) (C := RX3) (T := TX3) (N := 10) hx hb hts iX3 hown hK hP 0 rfl rfl 3 (by decide) (hts _ tw_352) (fun _ h9 => h9) rfl dX3_nextLetters_28 ?_
          refine lv_iload_n (pc := 31) hx hb dX3_nextLetters_31 rfl (lv_at hl 0 rfl) ?_
          refine lv_iconst (pc := 32) (v := 1) hx hb dX3_nextLetters_32 (by decide) ?_
          refine lv_aload_n (pc := 33) hx hb dX3_nextLetters_33 rfl (lv_at hl 2 rfl) ?_
          refine va_getN (pc := 34) (ci := 1) (v := .int x2) (C := RX1) (T := TX1) (N := 10) hx hb hts iX1 hown hK hP 5 rfl rfl 3 (by decide) (va_Nw.use rfl (hN _ tn_113)) (fun _ h9 => h9) rfl dX3_nextLetters_34 ?_
          refine b_isub (pc := 37) hx hb tI_1 rfl (by first | exact (om_1222 h_x2.2) | ((first | omega | (unfold zBd at *; omega)))) (by first | exact (om_1223 h_x2.1) | ((first | omega | (unfold zBd at *; omega)))) dX3_nextLetters_37 (fun x_25 ex_25 => ?_)
          refine g_iastore (pc := 38) hx hb hK hP hD hS 2 2 rfl rfl (n_in rfl (by first | exact (om_1234 c_8) | ((first | omega | (unfold zBd at *; omega)))) (by first | exact (om_1137 hi_2.2) | ((first | omega | (unfold zBd at *; omega))))) dX3_nextLetters_38 (fun f_26 H locs hP hD hS => ?_)
          replace hP : va_P D gcl [(a0, .inr (3, [.ref a2, .ref a3, .ref a4, .ref a5, .ref a6, .ref a7, .long y_3, .int x0, .long y1, .long y2])), (a2, .inr (10, [.ref a8, .ref a9, .ref a10, .ref a11, .ref a12, .ref a13, .ref a14, .int x1])), (a5, .inl (cI, 5, .inl f_26)), (a7, .inl (cJ, 5, .inr (.inl g_6))), (a8, .inl (cJ, 25, .inr (.inl g1))), (a1, .inr (1, [.ref a15, .ref a16, .ref a17, .int x2, .int x3, .int x4, .int x5, .int x6, .int x7, .int x8]))] H := hP
          replace hD : va_D A [(a0, .inr (3, [.ref a2, .ref a3, .ref a4, .ref a5, .ref a6, .ref a7, .long y_3, .int x0, .long y1, .long y2])), (a2, .inr (10, [.ref a8, .ref a9, .ref a10, .ref a11, .ref a12, .ref a13, .ref a14, .int x1])), (a5, .inl (cI, 5, .inl f_26)), (a7, .inl (cJ, 5, .inr (.inl g_6))), (a8, .inl (cJ, 25, .inr (.inl g1))), (a1, .inr (1, [.ref a15, .ref a16, .ref a17, .int x2, .int x3, .int x4, .int x5, .int x6, .int x7, .int x8]))] := hD
          refine lv_aload_n (pc := 39) hx hb dX3_nextLetters_39 rfl (lv_at hl 1 rfl) ?_
          refine lv_iload_n (pc := 40) hx hb dX3_nextLetters_40 rfl (lv_at hl 0 rfl) ?_
          refine lv_iconst (pc := 41) (v := 2) hx hb dX3_nextLetters_41 (by decide) ?_
          refine lv_aload_n (pc := 42) hx hb dX3_nextLetters_42 rfl (lv_at hl 1 rfl) ?_
          refine va_get (pc := 43) (ci := 3) (v := .ref a5) (C := RX3) (T := TX3) (N := 10) hx hb hts iX3 hown hK hP 0 rfl rfl 3 (by decide) (hts _ tw_352) (fun _ h9 => h9) rfl dX3_nextLetters_43 ?_
          refine lv_iload_n (pc := 46) hx hb dX3_nextLetters_46 rfl (lv_at hl 0 rfl) ?_
          refine va_iald (pc := 47) hx hb hK hP 2 2 rfl rfl (n_in rfl (by first | exact (om_1234 c_8) | ((first | omega | (unfold zBd at *; omega)))) (by first | exact (om_1137 hi_2.2) | ((first | omega | (unfold zBd at *; omega))))) dX3_nextLetters_47 ?_
          refine lv_topi (fun x_27 ex_27 => ?_)
          have rx_27 : zBd x_27.toInt (-2147483648) 2147483647 := n_rng x_27
          refine lv_imul (pc := 48) hx hb dX3_nextLetters_48 ?_
          refine lv_topi (fun x_28 _ => ?_)
          have rx_28 : zBd x_28.toInt (-2147483648) 2147483647 := n_rng x_28
          refine b_i2l (pc := 49) hx hb rfl dX3_nextLetters_49 (fun y_29 ey_29 => ?_)
          have ry_29 : zBd x_28.toInt (-2147483648) 2147483647 := n_rng x_28
          refine gd_v (pc := 50) (wc := [(a0, .inr (3, [.ref a2, .ref a3, .ref a4, .ref a5, .ref a6, .ref a7, .long y_3, .int x0, .long y1, .long y2])), (a7, .inl (cJ, 5, .inr (.inl g_6))), (a2, .inr (10, [.ref a8, .ref a9, .ref a10, .ref a11, .ref a12, .ref a13, .ref a14, .int x1])), (a8, .inl (cJ, 25, .inr (.inl g1)))]) hP hD hS hA [0, 3, 1, 4] rfl (by decide +kernel) (fun _ => by rfl) (fun hPc hDc => va_runV (As := [.int x_1, .long y_29]) (rest := []) ⟨hx, hb, hml, hown, hts⟩ (k_X3_move l D cB cC cI cJ _ a0 a2 a3 a4 a5 a6 a7 a8 a9 a10 a11 a12 a13 a14 x_1 x0 x1 y_29 y_3 y1 y2 g_6 g1 hi_2 h_x0 h_x1) ⟨gcwB hts tw_1254 tw_12 tw_1251 hd_yX3_move ⟨Nat.le_of_ble_eq_true rfl, Nat.le_of_ble_eq_true rfl⟩, hts _ tw_1253, hts _ tp_49⟩ ⟨gblind, va_recv hK hPc (ci := 3) (q0 := 0) rfl rfl, (gpreS hPc hK hDc hN).2⟩ rfl rfl hl.1 rfl (lv_room (Nat.le_of_ble_eq_true rfl)) dX3_nextLetters_50 ⟨Nat.le_of_ble_eq_true rfl, Nat.le_of_ble_eq_true rfl⟩) (fun u_30 H locs hw_32 hP hD hS => ?_)
          replace hP : va_P D gcl [(a0, .inr (3, [.ref a2, .ref a3, .ref a4, .ref a5, .ref a6, .ref a7, .long (u_30.2.2.2.2 0), .int x0, .long y1, .long y2])), (a2, .inr (10, [.ref a8, .ref a9, .ref a10, .ref a11, .ref a12, .ref a13, .ref a14, .int x1])), (a5, .inl (cI, 5, .inl f_26)), (a7, .inl (cJ, 5, .inr (.inl (u_30.2.2.1 0)))), (a8, .inl (cJ, 25, .inr (.inl g1))), (a1, .inr (1, [.ref a15, .ref a16, .ref a17, .int x2, .int x3, .int x4, .int x5, .int x6, .int x7, .int x8]))] H := hP
          replace hD : va_D A [(a0, .inr (3, [.ref a2, .ref a3, .ref a4, .ref a5, .ref a6, .ref a7, .long (u_30.2.2.2.2 0), .int x0, .long y1, .long y2])), (a2, .inr (10, [.ref a8, .ref a9, .ref a10, .ref a11, .ref a12, .ref a13, .ref a14, .int x1])), (a5, .inl (cI, 5, .inl f_26)), (a7, .inl (cJ, 5, .inr (.inl (u_30.2.2.1 0)))), (a8, .inl (cJ, 25, .inr (.inl g1))), (a1, .inr (1, [.ref a15, .ref a16, .ref a17, .int x2, .int x3, .int x4, .int x5, .int x6, .int x7, .int x8]))] := hD
          have ru_30_0 := n_rngL (u_30.2.2.2.2 0)
          have hw_33 : (((0 ≤ x1.toInt ∧ x1.toInt ≤ 4))) := hw_32
          refine b_iinc (pc := 53) hx hb dX3_nextLetters_53 hl (k := 0) rfl rfl tI_m1 (by first | exact (om_1236 c_8) | ((first | omega | (unfold zBd at *; omega)))) (by first | exact (om_1262 hi_2.2) | ((first | omega | (unfold zBd at *; omega)))) (by decide) (fun x_34 ex_34 ls hl => ?_)
          replace hl : lv_has ls 3 [(2, .int x_34), (0, .ref a0), (1, .ref a1)] := hl
          refine lv_goto (pc := 56) (tgt := 8) hx hb dX3_nextLetters_56 (by decide) ?_
          exact ih_lp_7 x_34 (u_30.2.2.2.2 0) f_26 (u_30.2.2.1 0) _ _ ls (by first | exact (om_1263 ex_34 c_8 hi_2.2) | ((first | omega | (unfold zBd at *; omega)))) (by (first | omega | (unfold zBd at *; omega))) hP hD hS (lv_sub hl [0, 1, 2] rfl)
  exact lp_7 _ x1 y0 f0 g0 _ _ ls h_x1 (Nat.lt_succ_self _) hP hD hS (lv_sub hl [0, 1, 2] rfl)
theorem om_1287 {a : Int} (h0 : (a ≤ 23)) : (a - 1 ≤ 2147483647) := by omega
set_option maxHeartbeats 4000000 in
set_option maxRecDepth 100000 in
theorem k_X3_keepFound (l : Launch) (D : va_G) (cB cC cI cJ : ClassId) (sz : Nat) (a0 a1 a2 a3 a4 a5 a6 a7 a8 a9 a10 a11 a12 a13 : Nat) (x0 x1 x2 : Int32) (y0 y1 y2 : Int64) (f0 f1 : Nat → Int32) (h_x1 : zBd x1.toInt 0 1) (h_x2 : zBd x2.toInt 0 4) (hf_f1 : (∀ j, 0 ≤ (f1 j).toInt ∧ (f1 j).toInt ≤ 23)) : Met l yX3_keepFound (.code yX3_keepFound cX3_keepFound 3 none :: lw_gd) ({ frames := 0, cells := 0, slots := 0, locals := 0 }) (gPre D [(cB, .byte), (cC, .char), (cI, .int), (cJ, .long)] [.ref a0, .int x0] [(a0, .inr (3, [.ref a1, .ref a2, .ref a3, .ref a4, .ref a5, .ref a6, .long y0, .int x1, .long y1, .long y2])), (a1, .inr (10, [.ref a7, .ref a8, .ref a9, .ref a10, .ref a11, .ref a12, .ref a13, .int x2])), (a3, .inl (cI, 5, .inl f0)), (a13, .inl (cI, 5, .inl f1))] sz) (va_Qv (fun u => (((0 ≤ x2.toInt ∧ x2.toInt ≤ 4)))) (gB D (va_A [(a0, .inr (3, [.ref a1, .ref a2, .ref a3, .ref a4, .ref a5, .ref a6, .long y0, .int x1, .long y1, .long y2])), (a1, .inr (10, [.ref a7, .ref a8, .ref a9, .ref a10, .ref a11, .ref a12, .ref a13, .int x2])), (a3, .inl (cI, 5, .inl f0)), (a13, .inl (cI, 5, .inl f1))] sz) (fun u : gEx => [(a0, .inr (3, [.ref a1, .ref a2, .ref a3, .ref a4, .ref a5, .ref a6, .long y0, .int x1, .long y1, .long y2])), (a1, .inr (10, [.ref a7, .ref a8, .ref a9, .ref a10, .ref a11, .ref a12, .ref a13, .int x2])), (a3, .inl (cI, 5, .inl (u.2.1 0))), (a13, .inl (cI, 5, .inl f1))])) (va_A [(a0, .inr (3, [.ref a1, .ref a2, .ref a3, .ref a4, .ref a5, .ref a6, .long y0, .int x1, .long y1, .long y2])), (a1, .inr (10, [.ref a7, .ref a8, .ref a9, .ref a10, .ref a11, .ref a12, .ref a13, .int x2])), (a3, .inl (cI, 5, .inl f0)), (a13, .inl (cI, 5, .inl f1))] sz)) 0 0 (va_A [(a0, .inr (3, [.ref a1, .ref a2, .ref a3, .ref a4, .ref a5, .ref a6, .long y0, .int x1, .long y1, .long y2])), (a1, .inr (10, [.ref a7, .ref a8, .ref a9, .ref a10, .ref a11, .ref a12, .ref a13, .int x2])), (a3, .inl (cI, 5, .inl f0)), (a13, .inl (cI, 5, .inl f1))] sz) := by
  refine gOf_v (by decide +kernel) (Nat.le_of_ble_eq_true rfl) ?_
  intro p e s m args below meth c ls A Q hx hb hts hown hml hN hK hP hD hA hl hret
  replace hown : s.vm.findClass RX3 = some m.cls := hown
  have hS : va_S A s.heap s.heap [] := va_S.rf
  replace hP : va_P D gcl [(a0, .inr (3, [.ref a1, .ref a2, .ref a3, .ref a4, .ref a5, .ref a6, .long y0, .int x1, .long y1, .long y2])), (a1, .inr (10, [.ref a7, .ref a8, .ref a9, .ref a10, .ref a11, .ref a12, .ref a13, .int x2])), (a3, .inl (cI, 5, .inl f0)), (a13, .inl (cI, 5, .inl f1))] s.heap := hP
  replace hl : lv_has ls 3 [(0, .ref a0), (1, .int x0)] := hl
  have rx0 : zBd x0.toInt (-2147483648) 2147483647 := n_rng x0
  have ry0 := n_rngL y0
  have ry1 := n_rngL y1
  have ry2 := n_rngL y2
  refine lv_iconst (pc := 0) (v := 0) hx hb dX3_keepFound_0 (by decide) ?_
  refine lv_istore_n (pc := 1) (lv' := [(2, .int 0), (0, .ref a0), (1, .int x0)]) hx hb dX3_keepFound_1 rfl hl (by decide) rfl (fun ls hl => ?_)
  have lp_4 : ∀ (n : Nat) (x_1 : Int32) (f_3 : Nat → Int32) (H : Heap) (locs : List Loc) (ls : Array Slot), (0 ≤ x_1.toInt ∧ x_1.toInt ≤ 2147483647) → (2147483647 - x_1.toInt).toNat < n → va_P D gcl [(a0, .inr (3, [.ref a1, .ref a2, .ref a3, .ref a4, .ref a5, .ref a6, .long y0, .int x1, .long y1, .long y2])), (a1, .inr (10, [.ref a7, .ref a8, .ref a9, .ref a10, .ref a11, .ref a12, .ref a13, .int x2])), (a3, .inl (cI, 5, .inl f_3)), (a13, .inl (cI, 5, .inl f1))] H → va_D A [(a0, .inr (3, [.ref a1, .ref a2, .ref a3, .ref a4, .ref a5, .ref a6, .long y0, .int x1, .long y1, .long y2])), (a1, .inr (10, [.ref a7, .ref a8, .ref a9, .ref a10, .ref a11, .ref a12, .ref a13, .int x2])), (a3, .inl (cI, 5, .inl f_3)), (a13, .inl (cI, 5, .inl f1))] → va_S A s.heap H locs → lv_has ls 3 [(2, .int x_1), (0, .ref a0), (1, .int x0)] → W p l e ({ frames := 0, cells := 0, slots := 0, locals := 0 }) s m args below meth c H locs 0 0 Q (F0 m 2 ls []) := by
    intro n
    induction n with
    | zero => intro x_1 f_3 H locs ls hi_2 hmu; exact absurd hmu (Nat.not_lt_zero _)
    | succ n ih_lp_4 =>
      intro x_1 f_3 H locs ls hi_2 hmu_lp_4 hP hD hS hl
      refine lv_iload_n (pc := 2) hx hb dX3_keepFound_2 rfl (lv_at hl 0 rfl) ?_
      refine lv_aload_n (pc := 3) hx hb dX3_keepFound_3 rfl (lv_at hl 1 rfl) ?_
      refine va_get (pc := 4) (ci := 3) (v := .ref a1) (C := RX3) (T := TX3) (N := 10) hx hb hts iX3 hown hK hP 0 rfl rfl 0 (by decide) (hts _ tw_348) (fun _ h9 => h9) rfl dX3_keepFound_4 ?_
      refine va_getN (pc := 7) (ci := 10) (v := .int x2) (C := RX10) (T := TX10) (N := 8) hx hb hts iX10 hown hK hP 1 rfl rfl 7 (by decide) (va_Nw.use rfl (hN _ tn_223)) (fun _ h9 => h9) rfl dX3_keepFound_7 ?_
      refine b_icmp_ge (pc := 10) (tgt := 36) hx hb rfl rfl  dX3_keepFound_10 (by decide) (fun c_5 => ?_) (fun c_5 => ?_)
      ·
        refine lv_aload_n (pc := 36) hx hb dX3_keepFound_36 rfl (lv_at hl 1 rfl) ?_
        refine va_get (pc := 37) (ci := 3) (v := .ref a3) (C := RX3) (T := TX3) (N := 10) hx hb hts iX3 hown hK hP 0 rfl rfl 2 (by decide) (hts _ tw_351) (fun _ h9 => h9) rfl dX3_keepFound_37 ?_
        refine lv_aload_n (pc := 40) hx hb dX3_keepFound_40 rfl (lv_at hl 1 rfl) ?_
        refine va_get (pc := 41) (ci := 3) (v := .ref a1) (C := RX3) (T := TX3) (N := 10) hx hb hts iX3 hown hK hP 0 rfl rfl 0 (by decide) (hts _ tw_348) (fun _ h9 => h9) rfl dX3_keepFound_41 ?_
        refine va_getN (pc := 44) (ci := 10) (v := .int x2) (C := RX10) (T := TX10) (N := 8) hx hb hts iX10 hown hK hP 1 rfl rfl 7 (by decide) (va_Nw.use rfl (hN _ tn_223)) (fun _ h9 => h9) rfl dX3_keepFound_44 ?_
        refine lv_iload_n (pc := 47) hx hb dX3_keepFound_47 rfl (lv_at hl 2 rfl) ?_
        refine lv_iconst (pc := 48) (v := 1) hx hb dX3_keepFound_48 (by decide) ?_
        refine lv_isub (pc := 49) hx hb dX3_keepFound_49 ?_
        refine lv_topi (fun x_6 _ => ?_)
        have rx_6 : zBd x_6.toInt (-2147483648) 2147483647 := n_rng x_6
        refine g_iastore (pc := 50) hx hb hK hP hD hS 2 2 rfl rfl (n_in rfl (by first | exact (om_0 h_x2.1) | ((first | omega | (unfold zBd at *; omega)))) (by first | exact (om_1137 h_x2.2) | ((first | omega | (unfold zBd at *; omega))))) dX3_keepFound_50 (fun f_7 H locs hP hD hS => ?_)
        replace hP : va_P D gcl [(a0, .inr (3, [.ref a1, .ref a2, .ref a3, .ref a4, .ref a5, .ref a6, .long y0, .int x1, .long y1, .long y2])), (a1, .inr (10, [.ref a7, .ref a8, .ref a9, .ref a10, .ref a11, .ref a12, .ref a13, .int x2])), (a3, .inl (cI, 5, .inl f_7)), (a13, .inl (cI, 5, .inl f1))] H := hP
        replace hD : va_D A [(a0, .inr (3, [.ref a1, .ref a2, .ref a3, .ref a4, .ref a5, .ref a6, .long y0, .int x1, .long y1, .long y2])), (a1, .inr (10, [.ref a7, .ref a8, .ref a9, .ref a10, .ref a11, .ref a12, .ref a13, .int x2])), (a3, .inl (cI, 5, .inl f_7)), (a13, .inl (cI, 5, .inl f1))] := hD
        exact hret ((fun _ => 0), (fun k => [f_7].getD k (fun _ => 0)), (fun _ => (fun _ => 0)), (fun _ => 0), (fun _ => 0)) dX3_keepFound_51 (show (((0 ≤ x2.toInt ∧ x2.toInt ≤ 4))) from h_x2) (g_psub (wc := [(a0, .inr (3, [.ref a1, .ref a2, .ref a3, .ref a4, .ref a5, .ref a6, .long y0, .int x1, .long y1, .long y2])), (a1, .inr (10, [.ref a7, .ref a8, .ref a9, .ref a10, .ref a11, .ref a12, .ref a13, .int x2])), (a3, .inl (cI, 5, .inl f_7)), (a13, .inl (cI, 5, .inl f1))]) hP [0, 1, 2, 3] rfl) (hD.sub (ws' := [(a0, .inr (3, [.ref a1, .ref a2, .ref a3, .ref a4, .ref a5, .ref a6, .long y0, .int x1, .long y1, .long y2])), (a1, .inr (10, [.ref a7, .ref a8, .ref a9, .ref a10, .ref a11, .ref a12, .ref a13, .int x2])), (a3, .inl (cI, 5, .inl f_7)), (a13, .inl (cI, 5, .inl f1))]) [0, 1, 2, 3] (by decide) rfl) hS
      ·
        refine lv_aload_n (pc := 13) hx hb dX3_keepFound_13 rfl (lv_at hl 1 rfl) ?_
        refine va_get (pc := 14) (ci := 3) (v := .ref a3) (C := RX3) (T := TX3) (N := 10) hx hb hts iX3 hown hK hP 0 rfl rfl 2 (by decide) (hts _ tw_351) (fun _ h9 => h9) rfl dX3_keepFound_14 ?_
        refine lv_iload_n (pc := 17) hx hb dX3_keepFound_17 rfl (lv_at hl 0 rfl) ?_
        refine lv_aload_n (pc := 18) hx hb dX3_keepFound_18 rfl (lv_at hl 1 rfl) ?_
        refine va_get (pc := 19) (ci := 3) (v := .ref a1) (C := RX3) (T := TX3) (N := 10) hx hb hts iX3 hown hK hP 0 rfl rfl 0 (by decide) (hts _ tw_348) (fun _ h9 => h9) rfl dX3_keepFound_19 ?_
        refine va_getN (pc := 22) (ci := 10) (v := .ref a13) (C := RX10) (T := TX10) (N := 8) hx hb hts iX10 hown hK hP 1 rfl rfl 6 (by decide) (va_Nw.use rfl (hN _ tn_219)) (fun _ h9 => h9) rfl dX3_keepFound_22 ?_
        refine lv_iload_n (pc := 25) hx hb dX3_keepFound_25 rfl (lv_at hl 0 rfl) ?_
        refine va_iald (pc := 26) hx hb hK hP 3 2 rfl rfl (n_in rfl (by first | exact (om_0 hi_2.1) | ((first | omega | (unfold zBd at *; omega)))) (by first | exact (om_1142 c_5 h_x2.2) | ((first | omega | (unfold zBd at *; omega))))) dX3_keepFound_26 ?_
        refine lv_topi (fun x_8 ex_8 => ?_)
        have rx_8 : (0 ≤ x_8.toInt ∧ x_8.toInt ≤ 23) := by rw [ex_8]; exact hf_f1 _
        refine lv_iconst (pc := 27) (v := 1) hx hb dX3_keepFound_27 (by decide) ?_
        refine b_isub (pc := 28) hx hb rfl tI_1 (by first | exact (om_660 rx_8.1) | ((first | omega | (unfold zBd at *; omega)))) (by first | exact (om_1287 rx_8.2) | ((first | omega | (unfold zBd at *; omega)))) dX3_keepFound_28 (fun x_9 ex_9 => ?_)
        refine g_iastore (pc := 29) hx hb hK hP hD hS 2 2 rfl rfl (n_in rfl (by first | exact (om_0 hi_2.1) | ((first | omega | (unfold zBd at *; omega)))) (by first | exact (om_1142 c_5 h_x2.2) | ((first | omega | (unfold zBd at *; omega))))) dX3_keepFound_29 (fun f_10 H locs hP hD hS => ?_)
        replace hP : va_P D gcl [(a0, .inr (3, [.ref a1, .ref a2, .ref a3, .ref a4, .ref a5, .ref a6, .long y0, .int x1, .long y1, .long y2])), (a1, .inr (10, [.ref a7, .ref a8, .ref a9, .ref a10, .ref a11, .ref a12, .ref a13, .int x2])), (a3, .inl (cI, 5, .inl f_10)), (a13, .inl (cI, 5, .inl f1))] H := hP
        replace hD : va_D A [(a0, .inr (3, [.ref a1, .ref a2, .ref a3, .ref a4, .ref a5, .ref a6, .long y0, .int x1, .long y1, .long y2])), (a1, .inr (10, [.ref a7, .ref a8, .ref a9, .ref a10, .ref a11, .ref a12, .ref a13, .int x2])), (a3, .inl (cI, 5, .inl f_10)), (a13, .inl (cI, 5, .inl f1))] := hD
        refine b_iinc (pc := 30) hx hb dX3_keepFound_30 hl (k := 0) rfl rfl tI_1 (by first | exact (om_2 hi_2.1) | ((first | omega | (unfold zBd at *; omega)))) (by first | exact (om_1143 c_5 h_x2.2) | ((first | omega | (unfold zBd at *; omega)))) (by decide) (fun x_11 ex_11 ls hl => ?_)
        replace hl : lv_has ls 3 [(2, .int x_11), (0, .ref a0), (1, .int x0)] := hl
        refine lv_goto (pc := 33) (tgt := 2) hx hb dX3_keepFound_33 (by decide) ?_
        exact ih_lp_4 x_11 f_10 _ _ ls (by first | exact (om_1147 ex_11 hi_2.1 c_5 h_x2.2) | ((first | omega | (unfold zBd at *; omega)))) (by (first | omega | (unfold zBd at *; omega))) hP hD hS (lv_sub hl [0, 1, 2] rfl)
  exact lp_4 _ 0 f0 _ _ ls (n_c tI_0 (by decide)) (Nat.lt_succ_self _) hP hD hS (lv_sub hl [0, 1, 2] rfl)
theorem om_1288 {a b c : Int} (h0 : ((-9223372036854775808) ≤ a)) (h1 : ((-1) ≤ b)) (h2 : (b ≤ 5)) (h3 : ((-9223372036854775808) ≤ c)) (h4 : (c ≤ 9223372036854775807)) (h5 : (a ≤ 9223372036854775807)) : (((((-9223372036854775808) ≤ a ∧ a ≤ 9223372036854775807) ∧ ((-1) ≤ b ∧ b ≤ 5)) ∨ (((-9223372036854775808) ≤ a ∧ a ≤ 9223372036854775807) ∧ ((-1) ≤ b ∧ b ≤ 5) ∧ ((-9223372036854775808) ≤ c ∧ c ≤ 9223372036854775807)))) := by omega
theorem om_1289 {a b c : Int} (h0 : ((-9223372036854775808) ≤ a)) (h1 : ((-1) ≤ b)) (h2 : (b ≤ 5)) (h3 : (c ≤ 9223372036854775807)) (h4 : (a ≤ 9223372036854775807)) (h5 : ((-9223372036854775808) ≤ c)) : (((((-9223372036854775808) ≤ a ∧ a ≤ 9223372036854775807) ∧ ((-1) ≤ b ∧ b ≤ 5)) ∨ (((-9223372036854775808) ≤ a ∧ a ≤ 9223372036854775807) ∧ ((-1) ≤ b ∧ b ≤ 5) ∧ ((-9223372036854775808) ≤ c ∧ c ≤ 9223372036854775807)))) := by omega
set_option maxHeartbeats 4000000 in
set_option maxRecDepth 100000 in
theorem k_X3_leastFor_5 (l : Launch) (D : va_G) (cB cC cI cJ : ClassId) (sz : Nat) (a0 a1 a2 a3 a4 a5 a6 a7 a8 a9 a10 a11 a12 a13 a14 a15 a16 a17 a18 : Nat) (x0 x1 x2 x3 x4 x5 x6 x7 x8 : Int32) (y0 y1 y2 y3 : Int64) (f0 f1 f2 f3 f4 f5 : Nat → Int32) (g0 g1 g2 : Nat → Int64) (h_x0 : zBd x0.toInt 0 1) (h_x1 : zBd x1.toInt (-1) 8) (h_x2 : zBd x2.toInt (-1) 5) (h_x3 : zBd x3.toInt (-1) 6) (h_x4 : zBd x4.toInt 0 6) (h_x5 : zBd x5.toInt 0 16) (h_x8 : zBd x8.toInt 0 4) (hf_f0 : (∀ j, 0 ≤ (f0 j).toInt ∧ (f0 j).toInt ≤ 23)) (hf_f3 : (∀ j, (-3) ≤ (f3 j).toInt ∧ (f3 j).toInt ≤ 24)) : Met l yX3_leastFor (.code yX3_leastFor cX3_leastFor 13 (some .long) :: lw_gd) ({ frames := 2, cells := 0, slots := 0, locals := 52 }) (gPre D [(cB, .byte), (cC, .char), (cI, .int), (cJ, .long)] [.ref a0, .ref a1, .ref a2, .long y0] [(a0, .inr (3, [.ref a3, .ref a4, .ref a5, .ref a6, .ref a7, .ref a8, .long y1, .int x0, .long y2, .long y3])), (a1, .inr (1, [.ref a9, .ref a10, .ref a11, .int x1, .int x2, .int x3, .int x4, .int x5, .int x6, .int x7])), (a3, .inr (10, [.ref a12, .ref a13, .ref a14, .ref a15, .ref a16, .ref a17, .ref a18, .int x8])), (a18, .inl (cI, 5, .inl f0)), (a15, .inl (cI, 5, .inl f1)), (a16, .inl (cI, 5, .inl f2)), (a13, .inl (cJ, 5, .inr (.inl g0))), (a12, .inl (cJ, 25, .inr (.inl g1))), (a14, .inl (cJ, 25, .inr (.inl g2))), (a17, .inl (cI, 5, .inl f3)), (a5, .inl (cI, 5, .inl f4)), (a2, .inl (cI, 5, .inl f5))] sz) (va_Ql (fun r u => ((((-9223372036854775808) ≤ r.toInt ∧ r.toInt ≤ 9223372036854775807) ∧ ((-1) ≤ x2.toInt ∧ x2.toInt ≤ 5)) ∨ (((-9223372036854775808) ≤ r.toInt ∧ r.toInt ≤ 9223372036854775807) ∧ ((-1) ≤ x2.toInt ∧ x2.toInt ≤ 5) ∧ ((-9223372036854775808) ≤ y0.toInt ∧ y0.toInt ≤ 9223372036854775807))) ∧ (∀ j, 0 ≤ ((u.2.1 0) j).toInt ∧ ((u.2.1 0) j).toInt ≤ 23) ∧ (∀ j, (-3) ≤ ((u.2.1 3) j).toInt ∧ ((u.2.1 3) j).toInt ≤ 24)) (gB D (va_A [(a0, .inr (3, [.ref a3, .ref a4, .ref a5, .ref a6, .ref a7, .ref a8, .long y1, .int x0, .long y2, .long y3])), (a1, .inr (1, [.ref a9, .ref a10, .ref a11, .int x1, .int x2, .int x3, .int x4, .int x5, .int x6, .int x7])), (a3, .inr (10, [.ref a12, .ref a13, .ref a14, .ref a15, .ref a16, .ref a17, .ref a18, .int x8])), (a18, .inl (cI, 5, .inl f0)), (a15, .inl (cI, 5, .inl f1)), (a16, .inl (cI, 5, .inl f2)), (a13, .inl (cJ, 5, .inr (.inl g0))), (a12, .inl (cJ, 25, .inr (.inl g1))), (a14, .inl (cJ, 25, .inr (.inl g2))), (a17, .inl (cI, 5, .inl f3)), (a5, .inl (cI, 5, .inl f4)), (a2, .inl (cI, 5, .inl f5))] sz) (fun u : gEx => [(a0, .inr (3, [.ref a3, .ref a4, .ref a5, .ref a6, .ref a7, .ref a8, .long y1, .int x0, .long y2, .long y3])), (a1, .inr (1, [.ref a9, .ref a10, .ref a11, .int x1, .int x2, .int x3, .int x4, .int x5, .int x6, .int x7])), (a3, .inr (10, [.ref a12, .ref a13, .ref a14, .ref a15, .ref a16, .ref a17, .ref a18, .int x8])), (a18, .inl (cI, 5, .inl (u.2.1 0))), (a15, .inl (cI, 5, .inl (u.2.1 1))), (a16, .inl (cI, 5, .inl (u.2.1 2))), (a13, .inl (cJ, 5, .inr (.inl (u.2.2.1 0)))), (a12, .inl (cJ, 25, .inr (.inl g1))), (a14, .inl (cJ, 25, .inr (.inl (u.2.2.1 1)))), (a17, .inl (cI, 5, .inl (u.2.1 3))), (a5, .inl (cI, 5, .inl (u.2.1 4))), (a2, .inl (cI, 5, .inl f5))])) (va_A [(a0, .inr (3, [.ref a3, .ref a4, .ref a5, .ref a6, .ref a7, .ref a8, .long y1, .int x0, .long y2, .long y3])), (a1, .inr (1, [.ref a9, .ref a10, .ref a11, .int x1, .int x2, .int x3, .int x4, .int x5, .int x6, .int x7])), (a3, .inr (10, [.ref a12, .ref a13, .ref a14, .ref a15, .ref a16, .ref a17, .ref a18, .int x8])), (a18, .inl (cI, 5, .inl f0)), (a15, .inl (cI, 5, .inl f1)), (a16, .inl (cI, 5, .inl f2)), (a13, .inl (cJ, 5, .inr (.inl g0))), (a12, .inl (cJ, 25, .inr (.inl g1))), (a14, .inl (cJ, 25, .inr (.inl g2))), (a17, .inl (cI, 5, .inl f3)), (a5, .inl (cI, 5, .inl f4)), (a2, .inl (cI, 5, .inl f5))] sz)) 0 0 (va_A [(a0, .inr (3, [.ref a3, .ref a4, .ref a5, .ref a6, .ref a7, .ref a8, .long y1, .int x0, .long y2, .long y3])), (a1, .inr (1, [.ref a9, .ref a10, .ref a11, .int x1, .int x2, .int x3, .int x4, .int x5, .int x6, .int x7])), (a3, .inr (10, [.ref a12, .ref a13, .ref a14, .ref a15, .ref a16, .ref a17, .ref a18, .int x8])), (a18, .inl (cI, 5, .inl f0)), (a15, .inl (cI, 5, .inl f1)), (a16, .inl (cI, 5, .inl f2)), (a13, .inl (cJ, 5, .inr (.inl g0))), (a12, .inl (cJ, 25, .inr (.inl g1))), (a14, .inl (cJ, 25, .inr (.inl g2))), (a17, .inl (cI, 5, .inl f3)), (a5, .inl (cI, 5, .inl f4)), (a2, .inl (cI, 5, .inl f5))] sz) := by
  refine gOf_l (by decide +kernel) (Nat.le_of_ble_eq_true rfl) ?_
  intro p e s m args below meth c ls A Q hx hb hts hown hml hN hK hP hD hA hl hret
  replace hown : s.vm.findClass RX3 = some m.cls := hown
  have hS : va_S A s.heap s.heap [] := va_S.rf
  replace hP : va_P D gcl [(a0, .inr (3, [.ref a3, .ref a4, .ref a5, .ref a6, .ref a7, .ref a8, .long y1, .int x0, .long y2, .long y3])), (a1, .inr (1, [.ref a9, .ref a10, .ref a11, .int x1, .int x2, .int x3, .int x4, .int x5, .int x6, .int x7])), (a3, .inr (10, [.ref a12, .ref a13, .ref a14, .ref a15, .ref a16, .ref a17, .ref a18, .int x8])), (a18, .inl (cI, 5, .inl f0)), (a15, .inl (cI, 5, .inl f1)), (a16, .inl (cI, 5, .inl f2)), (a13, .inl (cJ, 5, .inr (.inl g0))), (a12, .inl (cJ, 25, .inr (.inl g1))), (a14, .inl (cJ, 25, .inr (.inl g2))), (a17, .inl (cI, 5, .inl f3)), (a5, .inl (cI, 5, .inl f4)), (a2, .inl (cI, 5, .inl f5))] s.heap := hP
  replace hl : lv_has ls 13 [(0, .ref a0), (1, .ref a1), (2, .ref a2), (3, .long y0)] := hl
  have ry0 := n_rngL y0
  have ry1 := n_rngL y1
  have ry2 := n_rngL y2
  have ry3 := n_rngL y3
  have rx6 : zBd x6.toInt (-2147483648) 2147483647 := n_rng x6
  have rx7 : zBd x7.toInt (-2147483648) 2147483647 := n_rng x7
  refine lv_iconst (pc := 0) (v := 2) hx hb dX3_leastFor_0 (by decide) ?_
  refine lv_aload_n (pc := 1) hx hb dX3_leastFor_1 rfl (lv_at hl 1 rfl) ?_
  refine va_getN (pc := 2) (ci := 1) (v := .int x1) (C := RX1) (T := TX1) (N := 10) hx hb hts iX1 hown hK hP 1 rfl rfl 3 (by decide) (va_Nw.use rfl (hN _ tn_113)) (fun _ h9 => h9) rfl dX3_leastFor_2 ?_
  refine b_imul (pc := 5) hx hb tI_2 rfl (by first | exact (om_1279 h_x1.1) | ((first | omega | (unfold zBd at *; omega)))) (by first | exact (om_1280 h_x1.2) | ((first | omega | (unfold zBd at *; omega)))) dX3_leastFor_5 (fun x_1 ex_1 => ?_)
  refine lv_istore (pc := 6) (lv' := [(5, .int x_1), (0, .ref a0), (1, .ref a1), (2, .ref a2), (3, .long y0)]) hx hb dX3_leastFor_6 hl (by decide) rfl (fun ls hl => ?_)
  refine lv_iconst (pc := 8) (v := 0) hx hb dX3_leastFor_8 (by decide) ?_
  refine lv_istore (pc := 9) (lv' := [(6, .int 0), (5, .int x_1), (0, .ref a0), (1, .ref a1), (2, .ref a2), (3, .long y0)]) hx hb dX3_leastFor_9 hl (by decide) rfl (fun ls hl => ?_)
  have lp_8 : ∀ (n : Nat) (x_2 : Int32) (f_4 f_5 f_6 : Nat → Int32) (H : Heap) (locs : List Loc) (ls : Array Slot), (0 ≤ x_2.toInt ∧ x_2.toInt ≤ 2147483647) → (∀ j, (-3) ≤ (f_6 j).toInt ∧ (f_6 j).toInt ≤ 24) → (2147483647 - x_2.toInt).toNat < n → va_P D gcl [(a0, .inr (3, [.ref a3, .ref a4, .ref a5, .ref a6, .ref a7, .ref a8, .long y1, .int x0, .long y2, .long y3])), (a1, .inr (1, [.ref a9, .ref a10, .ref a11, .int x1, .int x2, .int x3, .int x4, .int x5, .int x6, .int x7])), (a3, .inr (10, [.ref a12, .ref a13, .ref a14, .ref a15, .ref a16, .ref a17, .ref a18, .int x8])), (a18, .inl (cI, 5, .inl f0)), (a15, .inl (cI, 5, .inl f_4)), (a16, .inl (cI, 5, .inl f_5)), (a13, .inl (cJ, 5, .inr (.inl g0))), (a12, .inl (cJ, 25, .inr (.inl g1))), (a14, .inl (cJ, 25, .inr (.inl g2))), (a17, .inl (cI, 5, .inl f_6)), (a5, .inl (cI, 5, .inl f4)), (a2, .inl (cI, 5, .inl f5))] H → va_D A [(a0, .inr (3, [.ref a3, .ref a4, .ref a5, .ref a6, .ref a7, .ref a8, .long y1, .int x0, .long y2, .long y3])), (a1, .inr (1, [.ref a9, .ref a10, .ref a11, .int x1, .int x2, .int x3, .int x4, .int x5, .int x6, .int x7])), (a3, .inr (10, [.ref a12, .ref a13, .ref a14, .ref a15, .ref a16, .ref a17, .ref a18, .int x8])), (a18, .inl (cI, 5, .inl f0)), (a15, .inl (cI, 5, .inl f_4)), (a16, .inl (cI, 5, .inl f_5)), (a13, .inl (cJ, 5, .inr (.inl g0))), (a12, .inl (cJ, 25, .inr (.inl g1))), (a14, .inl (cJ, 25, .inr (.inl g2))), (a17, .inl (cI, 5, .inl f_6)), (a5, .inl (cI, 5, .inl f4)), (a2, .inl (cI, 5, .inl f5))] → va_S A s.heap H locs → lv_has ls 13 [(6, .int x_2), (5, .int x_1), (0, .ref a0), (1, .ref a1), (2, .ref a2), (3, .long y0)] → W p l e ({ frames := 2, cells := 0, slots := 0, locals := 52 }) s m args below meth c H locs 0 0 Q (F0 m 11 ls []) := by
    intro n
    induction n with
    | zero => intro x_2 f_4 f_5 f_6 H locs ls hi_3 hi_7 hmu; exact absurd hmu (Nat.not_lt_zero _)
    | succ n ih_lp_8 =>
      intro x_2 f_4 f_5 f_6 H locs ls hi_3 hi_7 hmu_lp_8 hP hD hS hl
      refine lv_iload (pc := 11) hx hb dX3_leastFor_11 (lv_at hl 0 rfl) ?_
      refine lv_aload_n (pc := 13) hx hb dX3_leastFor_13 rfl (lv_at hl 3 rfl) ?_
      refine va_getN (pc := 14) (ci := 1) (v := .int x2) (C := RX1) (T := TX1) (N := 10) hx hb hts iX1 hown hK hP 1 rfl rfl 4 (by decide) (va_Nw.use rfl (hN _ tn_122)) (fun _ h9 => h9) rfl dX3_leastFor_14 ?_
      refine b_icmp_ge (pc := 17) (tgt := 45) hx hb rfl rfl  dX3_leastFor_17 (by decide) (fun c_9 => ?_) (fun c_9 => ?_)
      ·
        refine lv_aload_n (pc := 45) hx hb dX3_leastFor_45 rfl (lv_at hl 2 rfl) ?_
        refine va_get (pc := 46) (ci := 3) (v := .ref a3) (C := RX3) (T := TX3) (N := 10) hx hb hts iX3 hown hK hP 0 rfl rfl 0 (by decide) (hts _ tw_348) (fun _ h9 => h9) rfl dX3_leastFor_46 ?_
        refine gd_v (pc := 49) (wc := [(a3, .inr (10, [.ref a12, .ref a13, .ref a14, .ref a15, .ref a16, .ref a17, .ref a18, .int x8])), (a18, .inl (cI, 5, .inl f0)), (a15, .inl (cI, 5, .inl f_4)), (a16, .inl (cI, 5, .inl f_5)), (a13, .inl (cJ, 5, .inr (.inl g0))), (a12, .inl (cJ, 25, .inr (.inl g1))), (a14, .inl (cJ, 25, .inr (.inl g2)))]) hP hD hS hA [2, 3, 4, 5, 6, 7, 8] rfl (by decide +kernel) (fun _ => by rfl) (fun hPc hDc => va_runV (As := []) (rest := []) ⟨hx, hb, hml, hown, hts⟩ (k_X10_firstLine l D cB cC cI cJ _ a3 a12 a13 a14 a15 a16 a17 a18 x8 f0 f_4 f_5 g0 g1 g2 h_x8 hf_f0) ⟨gcwB hts tw_904 tw_8 tw_1270 hd_yX10_firstLine ⟨Nat.le_of_ble_eq_true rfl, Nat.le_of_ble_eq_true rfl⟩, hts _ tw_902, hts _ tw_903⟩ ⟨gblind, va_recv hK hPc (ci := 10) (q0 := 0) rfl rfl, (gpreS hPc hK hDc hN).2⟩ rfl rfl hl.1 rfl (lv_room (Nat.le_of_ble_eq_true rfl)) dX3_leastFor_49 ⟨Nat.le_of_ble_eq_true rfl, Nat.le_of_ble_eq_true rfl⟩) (fun u_10 H locs hw_12 hP hD hS => ?_)
        replace hP : va_P D gcl [(a0, .inr (3, [.ref a3, .ref a4, .ref a5, .ref a6, .ref a7, .ref a8, .long y1, .int x0, .long y2, .long y3])), (a1, .inr (1, [.ref a9, .ref a10, .ref a11, .int x1, .int x2, .int x3, .int x4, .int x5, .int x6, .int x7])), (a3, .inr (10, [.ref a12, .ref a13, .ref a14, .ref a15, .ref a16, .ref a17, .ref a18, .int x8])), (a18, .inl (cI, 5, .inl (u_10.2.1 0))), (a15, .inl (cI, 5, .inl f_4)), (a16, .inl (cI, 5, .inl f_5)), (a13, .inl (cJ, 5, .inr (.inl (u_10.2.2.1 0)))), (a12, .inl (cJ, 25, .inr (.inl g1))), (a14, .inl (cJ, 25, .inr (.inl (u_10.2.2.1 1)))), (a17, .inl (cI, 5, .inl f_6)), (a5, .inl (cI, 5, .inl f4)), (a2, .inl (cI, 5, .inl f5))] H := hP
        replace hD : va_D A [(a0, .inr (3, [.ref a3, .ref a4, .ref a5, .ref a6, .ref a7, .ref a8, .long y1, .int x0, .long y2, .long y3])), (a1, .inr (1, [.ref a9, .ref a10, .ref a11, .int x1, .int x2, .int x3, .int x4, .int x5, .int x6, .int x7])), (a3, .inr (10, [.ref a12, .ref a13, .ref a14, .ref a15, .ref a16, .ref a17, .ref a18, .int x8])), (a18, .inl (cI, 5, .inl (u_10.2.1 0))), (a15, .inl (cI, 5, .inl f_4)), (a16, .inl (cI, 5, .inl f_5)), (a13, .inl (cJ, 5, .inr (.inl (u_10.2.2.1 0)))), (a12, .inl (cJ, 25, .inr (.inl g1))), (a14, .inl (cJ, 25, .inr (.inl (u_10.2.2.1 1)))), (a17, .inl (cI, 5, .inl f_6)), (a5, .inl (cI, 5, .inl f4)), (a2, .inl (cI, 5, .inl f5))] := hD
        have hw_13 : (∀ j, 0 ≤ ((u_10.2.1 0) j).toInt ∧ ((u_10.2.1 0) j).toInt ≤ 23) := hw_12
        refine lv_ldc2 (pc := 52) hx hb hown (hts _ tw_1271) dX3_leastFor_52 ?_
        refine lv_lstore (pc := 55) (lv' := [(6, .long 1000000000000000), (5, .int x_1), (0, .ref a0), (1, .ref a1), (2, .ref a2), (3, .long y0)]) hx hb dX3_leastFor_55 hl (by decide) rfl (fun ls hl => ?_)
        refine lv_aload_n (pc := 57) hx hb dX3_leastFor_57 rfl (lv_at hl 2 rfl) ?_
        refine va_get (pc := 58) (ci := 3) (v := .ref a3) (C := RX3) (T := TX3) (N := 10) hx hb hts iX3 hown hK hP 0 rfl rfl 0 (by decide) (hts _ tw_348) (fun _ h9 => h9) rfl dX3_leastFor_58 ?_
        refine gd_i (pc := 61) (wc := [(a3, .inr (10, [.ref a12, .ref a13, .ref a14, .ref a15, .ref a16, .ref a17, .ref a18, .int x8])), (a17, .inl (cI, 5, .inl f_6))]) hP hD hS hA [2, 9] rfl (by decide +kernel) (fun _ => by rfl) (fun hPc hDc => va_runV (As := []) (rest := []) ⟨hx, hb, hml, hown, hts⟩ (k_X10_lineCount l D cB cC cI cJ _ a3 a12 a13 a14 a15 a16 a17 a18 x8 f_6 h_x8 hi_7) ⟨gcwB hts tw_914 tw_8 tw_1272 hd_yX10_lineCount ⟨Nat.le_of_ble_eq_true rfl, Nat.le_of_ble_eq_true rfl⟩, hts _ tw_912, hts _ tw_913⟩ ⟨gblind, va_recv hK hPc (ci := 10) (q0 := 0) rfl rfl, (gpreS hPc hK hDc hN).2⟩ rfl rfl hl.1 rfl (lv_room (Nat.le_of_ble_eq_true rfl)) dX3_leastFor_61 ⟨Nat.le_of_ble_eq_true rfl, Nat.le_of_ble_eq_true rfl⟩) (fun r_15 u_14 H locs hw_16 hP hD hS => ?_)
        replace hP : va_P D gcl [(a0, .inr (3, [.ref a3, .ref a4, .ref a5, .ref a6, .ref a7, .ref a8, .long y1, .int x0, .long y2, .long y3])), (a1, .inr (1, [.ref a9, .ref a10, .ref a11, .int x1, .int x2, .int x3, .int x4, .int x5, .int x6, .int x7])), (a3, .inr (10, [.ref a12, .ref a13, .ref a14, .ref a15, .ref a16, .ref a17, .ref a18, .int x8])), (a18, .inl (cI, 5, .inl (u_10.2.1 0))), (a15, .inl (cI, 5, .inl f_4)), (a16, .inl (cI, 5, .inl f_5)), (a13, .inl (cJ, 5, .inr (.inl (u_10.2.2.1 0)))), (a12, .inl (cJ, 25, .inr (.inl g1))), (a14, .inl (cJ, 25, .inr (.inl (u_10.2.2.1 1)))), (a17, .inl (cI, 5, .inl f_6)), (a5, .inl (cI, 5, .inl f4)), (a2, .inl (cI, 5, .inl f5))] H := hP
        replace hD : va_D A [(a0, .inr (3, [.ref a3, .ref a4, .ref a5, .ref a6, .ref a7, .ref a8, .long y1, .int x0, .long y2, .long y3])), (a1, .inr (1, [.ref a9, .ref a10, .ref a11, .int x1, .int x2, .int x3, .int x4, .int x5, .int x6, .int x7])), (a3, .inr (10, [.ref a12, .ref a13, .ref a14, .ref a15, .ref a16, .ref a17, .ref a18, .int x8])), (a18, .inl (cI, 5, .inl (u_10.2.1 0))), (a15, .inl (cI, 5, .inl f_4)), (a16, .inl (cI, 5, .inl f_5)), (a13, .inl (cJ, 5, .inr (.inl (u_10.2.2.1 0)))), (a12, .inl (cJ, 25, .inr (.inl g1))), (a14, .inl (cJ, 25, .inr (.inl (u_10.2.2.1 1)))), (a17, .inl (cI, 5, .inl f_6)), (a5, .inl (cI, 5, .inl f4)), (a2, .inl (cI, 5, .inl f5))] := hD
        have hw_17 : ((((-2147483648) ≤ r_15.toInt ∧ r_15.toInt ≤ 2147483647) ∧ (0 ≤ x8.toInt ∧ x8.toInt ≤ 4))) := hw_16
        have rr_15 : zBd r_15.toInt (-2147483648) 2147483647 := n_rng r_15
        refine lv_istore (pc := 64) (lv' := [(8, .int r_15), (6, .long 1000000000000000), (5, .int x_1), (0, .ref a0), (1, .ref a1), (2, .ref a2), (3, .long y0)]) hx hb dX3_leastFor_64 hl (by decide) rfl (fun ls hl => ?_)
        refine lv_iconst (pc := 66) (v := 0) hx hb dX3_leastFor_66 (by decide) ?_
        refine lv_istore (pc := 67) (lv' := [(9, .int 0), (8, .int r_15), (6, .long 1000000000000000), (5, .int x_1), (0, .ref a0), (1, .ref a1), (2, .ref a2), (3, .long y0)]) hx hb dX3_leastFor_67 hl (by decide) rfl (fun ls hl => ?_)
        have lp_27 : ∀ (n : Nat) (x_18 : Int32) (y_20 : Int64) (f_22 f_26 : Nat → Int32) (g_24 g_25 : Nat → Int64) (H : Heap) (locs : List Loc) (ls : Array Slot), (0 ≤ x_18.toInt ∧ x_18.toInt ≤ 2147483647) → (∀ j, 0 ≤ (f_22 j).toInt ∧ (f_22 j).toInt ≤ 23) → (2147483647 - x_18.toInt).toNat < n → va_P D gcl [(a0, .inr (3, [.ref a3, .ref a4, .ref a5, .ref a6, .ref a7, .ref a8, .long y1, .int x0, .long y2, .long y3])), (a1, .inr (1, [.ref a9, .ref a10, .ref a11, .int x1, .int x2, .int x3, .int x4, .int x5, .int x6, .int x7])), (a3, .inr (10, [.ref a12, .ref a13, .ref a14, .ref a15, .ref a16, .ref a17, .ref a18, .int x8])), (a18, .inl (cI, 5, .inl f_22)), (a15, .inl (cI, 5, .inl f_4)), (a16, .inl (cI, 5, .inl f_5)), (a13, .inl (cJ, 5, .inr (.inl g_24))), (a12, .inl (cJ, 25, .inr (.inl g1))), (a14, .inl (cJ, 25, .inr (.inl g_25))), (a17, .inl (cI, 5, .inl f_6)), (a5, .inl (cI, 5, .inl f_26)), (a2, .inl (cI, 5, .inl f5))] H → va_D A [(a0, .inr (3, [.ref a3, .ref a4, .ref a5, .ref a6, .ref a7, .ref a8, .long y1, .int x0, .long y2, .long y3])), (a1, .inr (1, [.ref a9, .ref a10, .ref a11, .int x1, .int x2, .int x3, .int x4, .int x5, .int x6, .int x7])), (a3, .inr (10, [.ref a12, .ref a13, .ref a14, .ref a15, .ref a16, .ref a17, .ref a18, .int x8])), (a18, .inl (cI, 5, .inl f_22)), (a15, .inl (cI, 5, .inl f_4)), (a16, .inl (cI, 5, .inl f_5)), (a13, .inl (cJ, 5, .inr (.inl g_24))), (a12, .inl (cJ, 25, .inr (.inl g1))), (a14, .inl (cJ, 25, .inr (.inl g_25))), (a17, .inl (cI, 5, .inl f_6)), (a5, .inl (cI, 5, .inl f_26)), (a2, .inl (cI, 5, .inl f5))] → va_S A s.heap H locs → lv_has ls 13 [(9, .int x_18), (8, .int r_15), (6, .long y_20), (5, .int x_1), (0, .ref a0), (1, .ref a1), (2, .ref a2), (3, .long y0)] → W p l e ({ frames := 2, cells := 0, slots := 0, locals := 52 }) s m args below meth c H locs 0 0 Q (F0 m 69 ls []) := by
          intro n
          induction n with
          | zero => intro x_18 y_20 f_22 f_26 g_24 g_25 H locs ls hi_19 hi_23 hmu; exact absurd hmu (Nat.not_lt_zero _)
          | succ n ih_lp_27 =>
            intro x_18 y_20 f_22 f_26 g_24 g_25 H locs ls hi_19 hi_23 hmu_lp_27 hP hD hS hl
            have hi_21 := n_rngL y_20
            refine lv_iload (pc := 69) hx hb dX3_leastFor_69 (lv_at hl 0 rfl) ?_
            refine lv_iload (pc := 71) hx hb dX3_leastFor_71 (lv_at hl 1 rfl) ?_
            refine b_icmp_ge (pc := 73) (tgt := 135) hx hb rfl rfl  dX3_leastFor_73 (by decide) (fun c_28 => ?_) (fun c_28 => ?_)
            ·
              refine lv_lload (pc := 135) hx hb dX3_leastFor_135 (lv_at hl 2 rfl) ?_
              exact hret y_20 ((fun _ => 0), (fun k => [f_22, f_4, f_5, f_6, f_26].getD k (fun _ => 0)), (fun k => [g_24, g_25].getD k (fun _ => 0)), (fun _ => 0), (fun _ => 0)) dX3_leastFor_137 ⟨(show ((((-9223372036854775808) ≤ y_20.toInt ∧ y_20.toInt ≤ 9223372036854775807) ∧ ((-1) ≤ x2.toInt ∧ x2.toInt ≤ 5)) ∨ (((-9223372036854775808) ≤ y_20.toInt ∧ y_20.toInt ≤ 9223372036854775807) ∧ ((-1) ≤ x2.toInt ∧ x2.toInt ≤ 5) ∧ ((-9223372036854775808) ≤ y0.toInt ∧ y0.toInt ≤ 9223372036854775807))) from (by first | exact (om_1288 hi_21.1 h_x2.1 h_x2.2 ry0.1 ry0.2 hi_21.2) | ((first | omega | (unfold zBd at *; omega))))), hi_23, hi_7⟩ (g_psub (wc := [(a0, .inr (3, [.ref a3, .ref a4, .ref a5, .ref a6, .ref a7, .ref a8, .long y1, .int x0, .long y2, .long y3])), (a1, .inr (1, [.ref a9, .ref a10, .ref a11, .int x1, .int x2, .int x3, .int x4, .int x5, .int x6, .int x7])), (a3, .inr (10, [.ref a12, .ref a13, .ref a14, .ref a15, .ref a16, .ref a17, .ref a18, .int x8])), (a18, .inl (cI, 5, .inl f_22)), (a15, .inl (cI, 5, .inl f_4)), (a16, .inl (cI, 5, .inl f_5)), (a13, .inl (cJ, 5, .inr (.inl g_24))), (a12, .inl (cJ, 25, .inr (.inl g1))), (a14, .inl (cJ, 25, .inr (.inl g_25))), (a17, .inl (cI, 5, .inl f_6)), (a5, .inl (cI, 5, .inl f_26)), (a2, .inl (cI, 5, .inl f5))]) hP [0, 1, 2, 3, 4, 5, 6, 7, 8, 9, 10, 11] rfl) (hD.sub (ws' := [(a0, .inr (3, [.ref a3, .ref a4, .ref a5, .ref a6, .ref a7, .ref a8, .long y1, .int x0, .long y2, .long y3])), (a1, .inr (1, [.ref a9, .ref a10, .ref a11, .int x1, .int x2, .int x3, .int x4, .int x5, .int x6, .int x7])), (a3, .inr (10, [.ref a12, .ref a13, .ref a14, .ref a15, .ref a16, .ref a17, .ref a18, .int x8])), (a18, .inl (cI, 5, .inl f_22)), (a15, .inl (cI, 5, .inl f_4)), (a16, .inl (cI, 5, .inl f_5)), (a13, .inl (cJ, 5, .inr (.inl g_24))), (a12, .inl (cJ, 25, .inr (.inl g1))), (a14, .inl (cJ, 25, .inr (.inl g_25))), (a17, .inl (cI, 5, .inl f_6)), (a5, .inl (cI, 5, .inl f_26)), (a2, .inl (cI, 5, .inl f5))]) [0, 1, 2, 3, 4, 5, 6, 7, 8, 9, 10, 11] (by decide) rfl) hS
            ·
              refine lv_lload (pc := 76) hx hb dX3_leastFor_76 (lv_at hl 2 rfl) ?_
              refine lv_lload_n (pc := 78) hx hb dX3_leastFor_78 rfl (lv_at hl 7 rfl) ?_
              refine b_lcmp_le (pc := 79) (tgt := 135) hx hb rfl rfl dX3_leastFor_79 dX3_leastFor_80 (by decide) (fun c_29 => ?_) (fun c_29 => ?_)
              ·
                refine lv_lload (pc := 135) hx hb dX3_leastFor_135 (lv_at hl 2 rfl) ?_
                exact hret y_20 ((fun _ => 0), (fun k => [f_22, f_4, f_5, f_6, f_26].getD k (fun _ => 0)), (fun k => [g_24, g_25].getD k (fun _ => 0)), (fun _ => 0), (fun _ => 0)) dX3_leastFor_137 ⟨(show ((((-9223372036854775808) ≤ y_20.toInt ∧ y_20.toInt ≤ 9223372036854775807) ∧ ((-1) ≤ x2.toInt ∧ x2.toInt ≤ 5)) ∨ (((-9223372036854775808) ≤ y_20.toInt ∧ y_20.toInt ≤ 9223372036854775807) ∧ ((-1) ≤ x2.toInt ∧ x2.toInt ≤ 5) ∧ ((-9223372036854775808) ≤ y0.toInt ∧ y0.toInt ≤ 9223372036854775807))) from (by first | exact (om_1289 hi_21.1 h_x2.1 h_x2.2 ry0.2 hi_21.2 ry0.1) | ((first | omega | (unfold zBd at *; omega))))), hi_23, hi_7⟩ (g_psub (wc := [(a0, .inr (3, [.ref a3, .ref a4, .ref a5, .ref a6, .ref a7, .ref a8, .long y1, .int x0, .long y2, .long y3])), (a1, .inr (1, [.ref a9, .ref a10, .ref a11, .int x1, .int x2, .int x3, .int x4, .int x5, .int x6, .int x7])), (a3, .inr (10, [.ref a12, .ref a13, .ref a14, .ref a15, .ref a16, .ref a17, .ref a18, .int x8])), (a18, .inl (cI, 5, .inl f_22)), (a15, .inl (cI, 5, .inl f_4)), (a16, .inl (cI, 5, .inl f_5)), (a13, .inl (cJ, 5, .inr (.inl g_24))), (a12, .inl (cJ, 25, .inr (.inl g1))), (a14, .inl (cJ, 25, .inr (.inl g_25))), (a17, .inl (cI, 5, .inl f_6)), (a5, .inl (cI, 5, .inl f_26)), (a2, .inl (cI, 5, .inl f5))]) hP [0, 1, 2, 3, 4, 5, 6, 7, 8, 9, 10, 11] rfl) (hD.sub (ws' := [(a0, .inr (3, [.ref a3, .ref a4, .ref a5, .ref a6, .ref a7, .ref a8, .long y1, .int x0, .long y2, .long y3])), (a1, .inr (1, [.ref a9, .ref a10, .ref a11, .int x1, .int x2, .int x3, .int x4, .int x5, .int x6, .int x7])), (a3, .inr (10, [.ref a12, .ref a13, .ref a14, .ref a15, .ref a16, .ref a17, .ref a18, .int x8])), (a18, .inl (cI, 5, .inl f_22)), (a15, .inl (cI, 5, .inl f_4)), (a16, .inl (cI, 5, .inl f_5)), (a13, .inl (cJ, 5, .inr (.inl g_24))), (a12, .inl (cJ, 25, .inr (.inl g1))), (a14, .inl (cJ, 25, .inr (.inl g_25))), (a17, .inl (cI, 5, .inl f_6)), (a5, .inl (cI, 5, .inl f_26)), (a2, .inl (cI, 5, .inl f5))]) [0, 1, 2, 3, 4, 5, 6, 7, 8, 9, 10, 11] (by decide) rfl) hS
              ·
                refine lv_aload_n (pc := 83) hx hb dX3_leastFor_83 rfl (lv_at hl 4 rfl) ?_
                refine va_get (pc := 84) (ci := 3) (v := .ref a3) (C := RX3) (T := TX3) (N := 10) hx hb hts iX3 hown hK hP 0 rfl rfl 0 (by decide) (hts _ tw_348) (fun _ h9 => h9) rfl dX3_leastFor_84 ?_
                refine lv_iconst (pc := 87) (v := 3) hx hb dX3_leastFor_87 (by decide) ?_
                refine gd_i (pc := 88) (wc := [(a3, .inr (10, [.ref a12, .ref a13, .ref a14, .ref a15, .ref a16, .ref a17, .ref a18, .int x8])), (a12, .inl (cJ, 25, .inr (.inl g1))), (a16, .inl (cI, 5, .inl f_5)), (a14, .inl (cJ, 25, .inr (.inl g_25))), (a15, .inl (cI, 5, .inl f_4)), (a13, .inl (cJ, 5, .inr (.inl g_24)))]) hP hD hS hA [2, 7, 5, 8, 4, 6] rfl (by decide +kernel) (fun _ => by rfl) (fun hPc hDc => va_runV (As := [.int 3]) (rest := []) ⟨hx, hb, hml, hown, hts⟩ (k_X10_bestDigit l D cB cC cI cJ _ a3 a12 a13 a14 a15 a16 a17 a18 3 x8 f_5 f_4 g1 g_25 g_24 h_x8) ⟨gcwB hts tw_1151 tw_8 tw_1273 hd_yX10_bestDigit ⟨Nat.le_of_ble_eq_true rfl, Nat.le_of_ble_eq_true rfl⟩, hts _ tw_1149, hts _ tw_1150⟩ ⟨gblind, va_recv hK hPc (ci := 10) (q0 := 0) rfl rfl, (gpreS hPc hK hDc hN).2⟩ rfl rfl hl.1 rfl (lv_room (Nat.le_of_ble_eq_true rfl)) dX3_leastFor_88 ⟨Nat.le_of_ble_eq_true rfl, Nat.le_of_ble_eq_true rfl⟩) (fun r_31 u_30 H locs hw_32 hP hD hS => ?_)
                replace hP : va_P D gcl [(a0, .inr (3, [.ref a3, .ref a4, .ref a5, .ref a6, .ref a7, .ref a8, .long y1, .int x0, .long y2, .long y3])), (a1, .inr (1, [.ref a9, .ref a10, .ref a11, .int x1, .int x2, .int x3, .int x4, .int x5, .int x6, .int x7])), (a3, .inr (10, [.ref a12, .ref a13, .ref a14, .ref a15, .ref a16, .ref a17, .ref a18, .int x8])), (a18, .inl (cI, 5, .inl f_22)), (a15, .inl (cI, 5, .inl f_4)), (a16, .inl (cI, 5, .inl f_5)), (a13, .inl (cJ, 5, .inr (.inl g_24))), (a12, .inl (cJ, 25, .inr (.inl g1))), (a14, .inl (cJ, 25, .inr (.inl g_25))), (a17, .inl (cI, 5, .inl f_6)), (a5, .inl (cI, 5, .inl f_26)), (a2, .inl (cI, 5, .inl f5))] H := hP
                replace hD : va_D A [(a0, .inr (3, [.ref a3, .ref a4, .ref a5, .ref a6, .ref a7, .ref a8, .long y1, .int x0, .long y2, .long y3])), (a1, .inr (1, [.ref a9, .ref a10, .ref a11, .int x1, .int x2, .int x3, .int x4, .int x5, .int x6, .int x7])), (a3, .inr (10, [.ref a12, .ref a13, .ref a14, .ref a15, .ref a16, .ref a17, .ref a18, .int x8])), (a18, .inl (cI, 5, .inl f_22)), (a15, .inl (cI, 5, .inl f_4)), (a16, .inl (cI, 5, .inl f_5)), (a13, .inl (cJ, 5, .inr (.inl g_24))), (a12, .inl (cJ, 25, .inr (.inl g1))), (a14, .inl (cJ, 25, .inr (.inl g_25))), (a17, .inl (cI, 5, .inl f_6)), (a5, .inl (cI, 5, .inl f_26)), (a2, .inl (cI, 5, .inl f5))] := hD
                have hw_33 : ((((-2147483648) ≤ r_31.toInt ∧ r_31.toInt ≤ 2147483647) ∧ ((-2147483648) ≤ (3 : Int32).toInt ∧ (3 : Int32).toInt ≤ 2147483647)) ∨ (((-2147483648) ≤ r_31.toInt ∧ r_31.toInt ≤ 2147483647) ∧ ((-2147483647) ≤ (3 : Int32).toInt ∧ (3 : Int32).toInt ≤ 2147483647)) ∨ (r_31.toInt = 0)) := hw_32
                have kk0_r_31 := tI_3
                have rr_31 : zBd r_31.toInt (-2147483648) 2147483647 := n_rng r_31
                refine lv_istore (pc := 91) (lv' := [(10, .int r_31), (9, .int x_18), (8, .int r_15), (6, .long y_20), (5, .int x_1), (0, .ref a0), (1, .ref a1), (2, .ref a2), (3, .long y0)]) hx hb dX3_leastFor_91 hl (by decide) rfl (fun ls hl => ?_)
                refine lv_aload_n (pc := 93) hx hb dX3_leastFor_93 rfl (lv_at hl 5 rfl) ?_
                refine va_get (pc := 94) (ci := 3) (v := .ref a3) (C := RX3) (T := TX3) (N := 10) hx hb hts iX3 hown hK hP 0 rfl rfl 0 (by decide) (hts _ tw_348) (fun _ h9 => h9) rfl dX3_leastFor_94 ?_
                refine lv_iload (pc := 97) hx hb dX3_leastFor_97 (lv_at hl 0 rfl) ?_
                refine gd_l (pc := 99) (wc := [(a3, .inr (10, [.ref a12, .ref a13, .ref a14, .ref a15, .ref a16, .ref a17, .ref a18, .int x8])), (a15, .inl (cI, 5, .inl f_4)), (a16, .inl (cI, 5, .inl f_5)), (a13, .inl (cJ, 5, .inr (.inl g_24))), (a12, .inl (cJ, 25, .inr (.inl g1))), (a14, .inl (cJ, 25, .inr (.inl g_25)))]) hP hD hS hA [2, 4, 5, 6, 7, 8] rfl (by decide +kernel) (fun _ => by rfl) (fun hPc hDc => va_runV (As := [.int r_31]) (rest := []) ⟨hx, hb, hml, hown, hts⟩ (k_X10_squaresAt l D cB cC cI cJ _ a3 a12 a13 a14 a15 a16 a17 a18 r_31 x8 f_4 f_5 g_24 g1 g_25 h_x8) ⟨gcwB hts tw_922 tw_8 tw_1274 hd_yX10_squaresAt ⟨Nat.le_of_ble_eq_true rfl, Nat.le_of_ble_eq_true rfl⟩, hts _ tw_920, hts _ tw_921⟩ ⟨gblind, va_recv hK hPc (ci := 10) (q0 := 0) rfl rfl, (gpreS hPc hK hDc hN).2⟩ rfl rfl hl.1 rfl (lv_room (Nat.le_of_ble_eq_true rfl)) dX3_leastFor_99 ⟨Nat.le_of_ble_eq_true rfl, Nat.le_of_ble_eq_true rfl⟩) (fun r_35 u_34 H locs hw_36 hP hD hS => ?_)
                replace hP : va_P D gcl [(a0, .inr (3, [.ref a3, .ref a4, .ref a5, .ref a6, .ref a7, .ref a8, .long y1, .int x0, .long y2, .long y3])), (a1, .inr (1, [.ref a9, .ref a10, .ref a11, .int x1, .int x2, .int x3, .int x4, .int x5, .int x6, .int x7])), (a3, .inr (10, [.ref a12, .ref a13, .ref a14, .ref a15, .ref a16, .ref a17, .ref a18, .int x8])), (a18, .inl (cI, 5, .inl f_22)), (a15, .inl (cI, 5, .inl f_4)), (a16, .inl (cI, 5, .inl f_5)), (a13, .inl (cJ, 5, .inr (.inl g_24))), (a12, .inl (cJ, 25, .inr (.inl g1))), (a14, .inl (cJ, 25, .inr (.inl g_25))), (a17, .inl (cI, 5, .inl f_6)), (a5, .inl (cI, 5, .inl f_26)), (a2, .inl (cI, 5, .inl f5))] H := hP
                replace hD : va_D A [(a0, .inr (3, [.ref a3, .ref a4, .ref a5, .ref a6, .ref a7, .ref a8, .long y1, .int x0, .long y2, .long y3])), (a1, .inr (1, [.ref a9, .ref a10, .ref a11, .int x1, .int x2, .int x3, .int x4, .int x5, .int x6, .int x7])), (a3, .inr (10, [.ref a12, .ref a13, .ref a14, .ref a15, .ref a16, .ref a17, .ref a18, .int x8])), (a18, .inl (cI, 5, .inl f_22)), (a15, .inl (cI, 5, .inl f_4)), (a16, .inl (cI, 5, .inl f_5)), (a13, .inl (cJ, 5, .inr (.inl g_24))), (a12, .inl (cJ, 25, .inr (.inl g1))), (a14, .inl (cJ, 25, .inr (.inl g_25))), (a17, .inl (cI, 5, .inl f_6)), (a5, .inl (cI, 5, .inl f_26)), (a2, .inl (cI, 5, .inl f5))] := hD
                have hw_37 : ((((-9223372036854775808) ≤ r_35.toInt ∧ r_35.toInt ≤ 9223372036854775807))) := hw_36
                have rr_35 := n_rngL r_35
                refine lv_lstore (pc := 102) (lv' := [(11, .long r_35), (10, .int r_31), (9, .int x_18), (8, .int r_15), (6, .long y_20), (5, .int x_1), (0, .ref a0), (1, .ref a1), (2, .ref a2), (3, .long y0)]) hx hb dX3_leastFor_102 hl (by decide) rfl (fun ls hl => ?_)
                refine lv_lload (pc := 104) hx hb dX3_leastFor_104 (lv_at hl 0 rfl) ?_
                refine lv_lload (pc := 106) hx hb dX3_leastFor_106 (lv_at hl 4 rfl) ?_
                refine b_lcmp_ge (pc := 108) (tgt := 122) hx hb rfl rfl dX3_leastFor_108 dX3_leastFor_109 (by decide) (fun c_38 => ?_) (fun c_38 => ?_)
                ·
                  refine lv_aload_n (pc := 122) hx hb dX3_leastFor_122 rfl (lv_at hl 6 rfl) ?_
                  refine va_get (pc := 123) (ci := 3) (v := .ref a3) (C := RX3) (T := TX3) (N := 10) hx hb hts iX3 hown hK hP 0 rfl rfl 0 (by decide) (hts _ tw_348) (fun _ h9 => h9) rfl dX3_leastFor_123 ?_
                  refine gd_v (pc := 126) (wc := [(a3, .inr (10, [.ref a12, .ref a13, .ref a14, .ref a15, .ref a16, .ref a17, .ref a18, .int x8])), (a18, .inl (cI, 5, .inl f_22)), (a17, .inl (cI, 5, .inl f_6)), (a15, .inl (cI, 5, .inl f_4)), (a16, .inl (cI, 5, .inl f_5)), (a13, .inl (cJ, 5, .inr (.inl g_24))), (a12, .inl (cJ, 25, .inr (.inl g1))), (a14, .inl (cJ, 25, .inr (.inl g_25)))]) hP hD hS hA [2, 3, 9, 4, 5, 6, 7, 8] rfl (by decide +kernel) (fun _ => by rfl) (fun hPc hDc => va_runV (As := []) (rest := []) ⟨hx, hb, hml, hown, hts⟩ (k_X10_nextLine l D cB cC cI cJ _ a3 a12 a13 a14 a15 a16 a17 a18 x8 f_22 f_6 f_4 f_5 g_24 g1 g_25 h_x8 hi_23 hi_7) ⟨gcwB hts tw_936 tw_8 tw_1279 hd_yX10_nextLine ⟨Nat.le_of_ble_eq_true rfl, Nat.le_of_ble_eq_true rfl⟩, hts _ tw_934, hts _ tw_935⟩ ⟨gblind, va_recv hK hPc (ci := 10) (q0 := 0) rfl rfl, (gpreS hPc hK hDc hN).2⟩ rfl rfl hl.1 rfl (lv_room (Nat.le_of_ble_eq_true rfl)) dX3_leastFor_126 ⟨Nat.le_of_ble_eq_true rfl, Nat.le_of_ble_eq_true rfl⟩) (fun u_39 H locs hw_41 hP hD hS => ?_)
                  replace hP : va_P D gcl [(a0, .inr (3, [.ref a3, .ref a4, .ref a5, .ref a6, .ref a7, .ref a8, .long y1, .int x0, .long y2, .long y3])), (a1, .inr (1, [.ref a9, .ref a10, .ref a11, .int x1, .int x2, .int x3, .int x4, .int x5, .int x6, .int x7])), (a3, .inr (10, [.ref a12, .ref a13, .ref a14, .ref a15, .ref a16, .ref a17, .ref a18, .int x8])), (a18, .inl (cI, 5, .inl (u_39.2.1 0))), (a15, .inl (cI, 5, .inl f_4)), (a16, .inl (cI, 5, .inl f_5)), (a13, .inl (cJ, 5, .inr (.inl (u_39.2.2.1 0)))), (a12, .inl (cJ, 25, .inr (.inl g1))), (a14, .inl (cJ, 25, .inr (.inl (u_39.2.2.1 1)))), (a17, .inl (cI, 5, .inl f_6)), (a5, .inl (cI, 5, .inl f_26)), (a2, .inl (cI, 5, .inl f5))] H := hP
                  replace hD : va_D A [(a0, .inr (3, [.ref a3, .ref a4, .ref a5, .ref a6, .ref a7, .ref a8, .long y1, .int x0, .long y2, .long y3])), (a1, .inr (1, [.ref a9, .ref a10, .ref a11, .int x1, .int x2, .int x3, .int x4, .int x5, .int x6, .int x7])), (a3, .inr (10, [.ref a12, .ref a13, .ref a14, .ref a15, .ref a16, .ref a17, .ref a18, .int x8])), (a18, .inl (cI, 5, .inl (u_39.2.1 0))), (a15, .inl (cI, 5, .inl f_4)), (a16, .inl (cI, 5, .inl f_5)), (a13, .inl (cJ, 5, .inr (.inl (u_39.2.2.1 0)))), (a12, .inl (cJ, 25, .inr (.inl g1))), (a14, .inl (cJ, 25, .inr (.inl (u_39.2.2.1 1)))), (a17, .inl (cI, 5, .inl f_6)), (a5, .inl (cI, 5, .inl f_26)), (a2, .inl (cI, 5, .inl f5))] := hD
                  have hw_42 : (∀ j, 0 ≤ ((u_39.2.1 0) j).toInt ∧ ((u_39.2.1 0) j).toInt ≤ 23) := hw_41
                  refine b_iinc (pc := 129) hx hb dX3_leastFor_129 hl (k := 2) rfl rfl tI_1 (by first | exact (om_2 hi_19.1) | ((first | omega | (unfold zBd at *; omega)))) (by first | exact (om_1088 c_28 rr_15.2) | ((first | omega | (unfold zBd at *; omega)))) (by decide) (fun x_43 ex_43 ls hl => ?_)
                  replace hl : lv_has ls 13 [(9, .int x_43), (11, .long r_35), (10, .int r_31), (8, .int r_15), (6, .long y_20), (5, .int x_1), (0, .ref a0), (1, .ref a1), (2, .ref a2), (3, .long y0)] := hl
                  refine lv_goto (pc := 132) (tgt := 69) hx hb dX3_leastFor_132 (by decide) ?_
                  exact ih_lp_27 x_43 y_20 (u_39.2.1 0) f_26 (u_39.2.2.1 0) (u_39.2.2.1 1) _ _ ls (by first | exact (om_1089 ex_43 hi_19.1 c_28 rr_15.2) | ((first | omega | (unfold zBd at *; omega)))) hw_42 (by (first | omega | (unfold zBd at *; omega))) hP hD hS (lv_sub hl [0, 3, 4, 5, 6, 7, 8, 9] rfl)
                ·
                  refine lv_lload (pc := 112) hx hb dX3_leastFor_112 (lv_at hl 0 rfl) ?_
                  refine lv_lstore (pc := 114) (lv' := [(6, .long r_35), (11, .long r_35), (10, .int r_31), (9, .int x_18), (8, .int r_15), (5, .int x_1), (0, .ref a0), (1, .ref a1), (2, .ref a2), (3, .long y0)]) hx hb dX3_leastFor_114 hl (by decide) rfl (fun ls hl => ?_)
                  refine lv_aload_n (pc := 116) hx hb dX3_leastFor_116 rfl (lv_at hl 6 rfl) ?_
                  refine lv_iload (pc := 117) hx hb dX3_leastFor_117 (lv_at hl 2 rfl) ?_
                  refine gd_v (pc := 119) (wc := [(a0, .inr (3, [.ref a3, .ref a4, .ref a5, .ref a6, .ref a7, .ref a8, .long y1, .int x0, .long y2, .long y3])), (a3, .inr (10, [.ref a12, .ref a13, .ref a14, .ref a15, .ref a16, .ref a17, .ref a18, .int x8])), (a5, .inl (cI, 5, .inl f_26)), (a18, .inl (cI, 5, .inl f_22))]) hP hD hS hA [0, 2, 10, 3] rfl (by decide +kernel) (fun _ => by rfl) (fun hPc hDc => va_runV (As := [.int r_31]) (rest := []) ⟨hx, hb, hml, hown, hts⟩ (k_X3_keepFound l D cB cC cI cJ _ a0 a3 a4 a5 a6 a7 a8 a12 a13 a14 a15 a16 a17 a18 r_31 x0 x8 y1 y2 y3 f_26 f_22 h_x0 h_x8 hi_23) ⟨gcwB hts tw_1278 tw_12 tw_1275 hd_yX3_keepFound ⟨Nat.le_of_ble_eq_true rfl, Nat.le_of_ble_eq_true rfl⟩, hts _ tw_1277, hts _ tp_53⟩ ⟨gblind, va_recv hK hPc (ci := 3) (q0 := 0) rfl rfl, (gpreS hPc hK hDc hN).2⟩ rfl rfl hl.1 rfl (lv_room (Nat.le_of_ble_eq_true rfl)) dX3_leastFor_119 ⟨Nat.le_of_ble_eq_true rfl, Nat.le_of_ble_eq_true rfl⟩) (fun u_44 H locs hw_46 hP hD hS => ?_)
                  replace hP : va_P D gcl [(a0, .inr (3, [.ref a3, .ref a4, .ref a5, .ref a6, .ref a7, .ref a8, .long y1, .int x0, .long y2, .long y3])), (a1, .inr (1, [.ref a9, .ref a10, .ref a11, .int x1, .int x2, .int x3, .int x4, .int x5, .int x6, .int x7])), (a3, .inr (10, [.ref a12, .ref a13, .ref a14, .ref a15, .ref a16, .ref a17, .ref a18, .int x8])), (a18, .inl (cI, 5, .inl f_22)), (a15, .inl (cI, 5, .inl f_4)), (a16, .inl (cI, 5, .inl f_5)), (a13, .inl (cJ, 5, .inr (.inl g_24))), (a12, .inl (cJ, 25, .inr (.inl g1))), (a14, .inl (cJ, 25, .inr (.inl g_25))), (a17, .inl (cI, 5, .inl f_6)), (a5, .inl (cI, 5, .inl (u_44.2.1 0))), (a2, .inl (cI, 5, .inl f5))] H := hP
                  replace hD : va_D A [(a0, .inr (3, [.ref a3, .ref a4, .ref a5, .ref a6, .ref a7, .ref a8, .long y1, .int x0, .long y2, .long y3])), (a1, .inr (1, [.ref a9, .ref a10, .ref a11, .int x1, .int x2, .int x3, .int x4, .int x5, .int x6, .int x7])), (a3, .inr (10, [.ref a12, .ref a13, .ref a14, .ref a15, .ref a16, .ref a17, .ref a18, .int x8])), (a18, .inl (cI, 5, .inl f_22)), (a15, .inl (cI, 5, .inl f_4)), (a16, .inl (cI, 5, .inl f_5)), (a13, .inl (cJ, 5, .inr (.inl g_24))), (a12, .inl (cJ, 25, .inr (.inl g1))), (a14, .inl (cJ, 25, .inr (.inl g_25))), (a17, .inl (cI, 5, .inl f_6)), (a5, .inl (cI, 5, .inl (u_44.2.1 0))), (a2, .inl (cI, 5, .inl f5))] := hD
                  have hw_47 : (((0 ≤ x8.toInt ∧ x8.toInt ≤ 4))) := hw_46
                  refine lv_aload_n (pc := 122) hx hb dX3_leastFor_122 rfl (lv_at hl 6 rfl) ?_
                  refine va_get (pc := 123) (ci := 3) (v := .ref a3) (C := RX3) (T := TX3) (N := 10) hx hb hts iX3 hown hK hP 0 rfl rfl 0 (by decide) (hts _ tw_348) (fun _ h9 => h9) rfl dX3_leastFor_123 ?_
                  refine gd_v (pc := 126) (wc := [(a3, .inr (10, [.ref a12, .ref a13, .ref a14, .ref a15, .ref a16, .ref a17, .ref a18, .int x8])), (a18, .inl (cI, 5, .inl f_22)), (a17, .inl (cI, 5, .inl f_6)), (a15, .inl (cI, 5, .inl f_4)), (a16, .inl (cI, 5, .inl f_5)), (a13, .inl (cJ, 5, .inr (.inl g_24))), (a12, .inl (cJ, 25, .inr (.inl g1))), (a14, .inl (cJ, 25, .inr (.inl g_25)))]) hP hD hS hA [2, 3, 9, 4, 5, 6, 7, 8] rfl (by decide +kernel) (fun _ => by rfl) (fun hPc hDc => va_runV (As := []) (rest := []) ⟨hx, hb, hml, hown, hts⟩ (k_X10_nextLine l D cB cC cI cJ _ a3 a12 a13 a14 a15 a16 a17 a18 x8 f_22 f_6 f_4 f_5 g_24 g1 g_25 hw_47 hi_23 hi_7) ⟨gcwB hts tw_936 tw_8 tw_1279 hd_yX10_nextLine ⟨Nat.le_of_ble_eq_true rfl, Nat.le_of_ble_eq_true rfl⟩, hts _ tw_934, hts _ tw_935⟩ ⟨gblind, va_recv hK hPc (ci := 10) (q0 := 0) rfl rfl, (gpreS hPc hK hDc hN).2⟩ rfl rfl hl.1 rfl (lv_room (Nat.le_of_ble_eq_true rfl)) dX3_leastFor_126 ⟨Nat.le_of_ble_eq_true rfl, Nat.le_of_ble_eq_true rfl⟩) (fun u_48 H locs hw_50 hP hD hS => ?_)
                  replace hP : va_P D gcl [(a0, .inr (3, [.ref a3, .ref a4, .ref a5, .ref a6, .ref a7, .ref a8, .long y1, .int x0, .long y2, .long y3])), (a1, .inr (1, [.ref a9, .ref a10, .ref a11, .int x1, .int x2, .int x3, .int x4, .int x5, .int x6, .int x7])), (a3, .inr (10, [.ref a12, .ref a13, .ref a14, .ref a15, .ref a16, .ref a17, .ref a18, .int x8])), (a18, .inl (cI, 5, .inl (u_48.2.1 0))), (a15, .inl (cI, 5, .inl f_4)), (a16, .inl (cI, 5, .inl f_5)), (a13, .inl (cJ, 5, .inr (.inl (u_48.2.2.1 0)))), (a12, .inl (cJ, 25, .inr (.inl g1))), (a14, .inl (cJ, 25, .inr (.inl (u_48.2.2.1 1)))), (a17, .inl (cI, 5, .inl f_6)), (a5, .inl (cI, 5, .inl (u_44.2.1 0))), (a2, .inl (cI, 5, .inl f5))] H := hP
                  replace hD : va_D A [(a0, .inr (3, [.ref a3, .ref a4, .ref a5, .ref a6, .ref a7, .ref a8, .long y1, .int x0, .long y2, .long y3])), (a1, .inr (1, [.ref a9, .ref a10, .ref a11, .int x1, .int x2, .int x3, .int x4, .int x5, .int x6, .int x7])), (a3, .inr (10, [.ref a12, .ref a13, .ref a14, .ref a15, .ref a16, .ref a17, .ref a18, .int x8])), (a18, .inl (cI, 5, .inl (u_48.2.1 0))), (a15, .inl (cI, 5, .inl f_4)), (a16, .inl (cI, 5, .inl f_5)), (a13, .inl (cJ, 5, .inr (.inl (u_48.2.2.1 0)))), (a12, .inl (cJ, 25, .inr (.inl g1))), (a14, .inl (cJ, 25, .inr (.inl (u_48.2.2.1 1)))), (a17, .inl (cI, 5, .inl f_6)), (a5, .inl (cI, 5, .inl (u_44.2.1 0))), (a2, .inl (cI, 5, .inl f5))] := hD
                  have hw_51 : (∀ j, 0 ≤ ((u_48.2.1 0) j).toInt ∧ ((u_48.2.1 0) j).toInt ≤ 23) := hw_50
                  refine b_iinc (pc := 129) hx hb dX3_leastFor_129 hl (k := 3) rfl rfl tI_1 (by first | exact (om_2 hi_19.1) | ((first | omega | (unfold zBd at *; omega)))) (by first | exact (om_1088 c_28 rr_15.2) | ((first | omega | (unfold zBd at *; omega)))) (by decide) (fun x_52 ex_52 ls hl => ?_)
                  replace hl : lv_has ls 13 [(9, .int x_52), (6, .long r_35), (11, .long r_35), (10, .int r_31), (8, .int r_15), (5, .int x_1), (0, .ref a0), (1, .ref a1), (2, .ref a2), (3, .long y0)] := hl
                  refine lv_goto (pc := 132) (tgt := 69) hx hb dX3_leastFor_132 (by decide) ?_
                  exact ih_lp_27 x_52 r_35 (u_48.2.1 0) (u_44.2.1 0) (u_48.2.2.1 0) (u_48.2.2.1 1) _ _ ls (by first | exact (om_1089 ex_52 hi_19.1 c_28 rr_15.2) | ((first | omega | (unfold zBd at *; omega)))) hw_51 (by (first | omega | (unfold zBd at *; omega))) hP hD hS (lv_sub hl [0, 4, 1, 5, 6, 7, 8, 9] rfl)
        exact lp_27 _ 0 1000000000000000 (u_10.2.1 0) f4 (u_10.2.2.1 0) (u_10.2.2.1 1) _ _ ls (n_c tI_0 (by decide)) hw_13 (Nat.lt_succ_self _) hP hD hS (lv_sub hl [0, 1, 2, 3, 4, 5, 6, 7] rfl)
      ·
        refine lv_aload_n (pc := 20) hx hb dX3_leastFor_20 rfl (lv_at hl 2 rfl) ?_
        refine va_get (pc := 21) (ci := 3) (v := .ref a3) (C := RX3) (T := TX3) (N := 10) hx hb hts iX3 hown hK hP 0 rfl rfl 0 (by decide) (hts _ tw_348) (fun _ h9 => h9) rfl dX3_leastFor_21 ?_
        refine lv_iload (pc := 24) hx hb dX3_leastFor_24 (lv_at hl 0 rfl) ?_
        refine lv_aload_n (pc := 26) hx hb dX3_leastFor_26 rfl (lv_at hl 4 rfl) ?_
        refine lv_iload (pc := 27) hx hb dX3_leastFor_27 (lv_at hl 0 rfl) ?_
        refine va_iald (pc := 29) hx hb hK hP 11 2 rfl rfl (n_in rfl (by first | exact (om_0 hi_3.1) | ((first | omega | (unfold zBd at *; omega)))) (by first | exact (om_1021 c_9 h_x2.2) | ((first | omega | (unfold zBd at *; omega))))) dX3_leastFor_29 ?_
        refine lv_topi (fun x_53 ex_53 => ?_)
        have rx_53 : zBd x_53.toInt (-2147483648) 2147483647 := n_rng x_53
        refine lv_iload (pc := 30) hx hb dX3_leastFor_30 (lv_at hl 1 rfl) ?_
        refine lv_isub (pc := 32) hx hb dX3_leastFor_32 ?_
        refine lv_topi (fun x_54 _ => ?_)
        have rx_54 : zBd x_54.toInt (-2147483648) 2147483647 := n_rng x_54
        refine lv_iload (pc := 33) hx hb dX3_leastFor_33 (lv_at hl 1 rfl) ?_
        refine lv_iconst (pc := 35) (v := 3) hx hb dX3_leastFor_35 (by decide) ?_
        refine gd_v (pc := 36) (wc := [(a3, .inr (10, [.ref a12, .ref a13, .ref a14, .ref a15, .ref a16, .ref a17, .ref a18, .int x8])), (a15, .inl (cI, 5, .inl f_4)), (a16, .inl (cI, 5, .inl f_5)), (a17, .inl (cI, 5, .inl f_6))]) hP hD hS hA [2, 4, 5, 9] rfl (by decide +kernel) (fun _ => by rfl) (fun hPc hDc => va_runV (As := [.int x_2, .int x_54, .int x_1, .int 3]) (rest := []) ⟨hx, hb, hml, hown, hts⟩ (k_X10_setNumbers l D cB cC cI cJ _ a3 a12 a13 a14 a15 a16 a17 a18 x_2 x_54 x_1 3 x8 f_4 f_5 f_6 (by first | exact (om_360 hi_3.1 c_9 h_x2.2) | (have k0 := tI_3; (first | omega | (unfold zBd at *; omega)))) (n_c tI_3 (by decide)) h_x8 hi_7) ⟨gcwB hts tw_900 tw_8 tw_1269 hd_yX10_setNumbers ⟨Nat.le_of_ble_eq_true rfl, Nat.le_of_ble_eq_true rfl⟩, hts _ tw_898, hts _ tw_899⟩ ⟨gblind, va_recv hK hPc (ci := 10) (q0 := 0) rfl rfl, (gpreS hPc hK hDc hN).2⟩ rfl rfl hl.1 rfl (lv_room (Nat.le_of_ble_eq_true rfl)) dX3_leastFor_36 ⟨Nat.le_of_ble_eq_true rfl, Nat.le_of_ble_eq_true rfl⟩) (fun u_55 H locs hw_57 hP hD hS => ?_)
        replace hP : va_P D gcl [(a0, .inr (3, [.ref a3, .ref a4, .ref a5, .ref a6, .ref a7, .ref a8, .long y1, .int x0, .long y2, .long y3])), (a1, .inr (1, [.ref a9, .ref a10, .ref a11, .int x1, .int x2, .int x3, .int x4, .int x5, .int x6, .int x7])), (a3, .inr (10, [.ref a12, .ref a13, .ref a14, .ref a15, .ref a16, .ref a17, .ref a18, .int x8])), (a18, .inl (cI, 5, .inl f0)), (a15, .inl (cI, 5, .inl (u_55.2.1 0))), (a16, .inl (cI, 5, .inl (u_55.2.1 1))), (a13, .inl (cJ, 5, .inr (.inl g0))), (a12, .inl (cJ, 25, .inr (.inl g1))), (a14, .inl (cJ, 25, .inr (.inl g2))), (a17, .inl (cI, 5, .inl (u_55.2.1 2))), (a5, .inl (cI, 5, .inl f4)), (a2, .inl (cI, 5, .inl f5))] H := hP
        replace hD : va_D A [(a0, .inr (3, [.ref a3, .ref a4, .ref a5, .ref a6, .ref a7, .ref a8, .long y1, .int x0, .long y2, .long y3])), (a1, .inr (1, [.ref a9, .ref a10, .ref a11, .int x1, .int x2, .int x3, .int x4, .int x5, .int x6, .int x7])), (a3, .inr (10, [.ref a12, .ref a13, .ref a14, .ref a15, .ref a16, .ref a17, .ref a18, .int x8])), (a18, .inl (cI, 5, .inl f0)), (a15, .inl (cI, 5, .inl (u_55.2.1 0))), (a16, .inl (cI, 5, .inl (u_55.2.1 1))), (a13, .inl (cJ, 5, .inr (.inl g0))), (a12, .inl (cJ, 25, .inr (.inl g1))), (a14, .inl (cJ, 25, .inr (.inl g2))), (a17, .inl (cI, 5, .inl (u_55.2.1 2))), (a5, .inl (cI, 5, .inl f4)), (a2, .inl (cI, 5, .inl f5))] := hD
        have hw_58 : (∀ j, (-3) ≤ ((u_55.2.1 2) j).toInt ∧ ((u_55.2.1 2) j).toInt ≤ 24) := hw_57
        have kk0_r_56 := tI_3
        refine b_iinc (pc := 39) hx hb dX3_leastFor_39 hl (k := 0) rfl rfl tI_1 (by first | exact (om_2 hi_3.1) | ((first | omega | (unfold zBd at *; omega)))) (by first | exact (om_338 c_9 h_x2.2) | ((first | omega | (unfold zBd at *; omega)))) (by decide) (fun x_59 ex_59 ls hl => ?_)
        replace hl : lv_has ls 13 [(6, .int x_59), (5, .int x_1), (0, .ref a0), (1, .ref a1), (2, .ref a2), (3, .long y0)] := hl
        refine lv_goto (pc := 42) (tgt := 11) hx hb dX3_leastFor_42 (by decide) ?_
        exact ih_lp_8 x_59 (u_55.2.1 0) (u_55.2.1 1) (u_55.2.1 2) _ _ ls (by first | exact (om_339 ex_59 hi_3.1 c_9 h_x2.2) | ((first | omega | (unfold zBd at *; omega)))) hw_58 (by (first | omega | (unfold zBd at *; omega))) hP hD hS (lv_sub hl [0, 1, 2, 3, 4, 5] rfl)
  exact lp_8 _ 0 f1 f2 f3 _ _ ls (n_c tI_0 (by decide)) hf_f3 (Nat.lt_succ_self _) hP hD hS (lv_sub hl [0, 1, 2, 3, 4, 5] rfl)
theorem om_1290 {a b : Int} (h0 : (a = b)) (h1 : ((-2147483648) ≤ b)) : (-9223372036854775808 ≤ 2 * a) := by omega
theorem om_1291 {a b : Int} (h0 : (a = b)) (h1 : (b ≤ 2147483647)) : (2 * a ≤ 9223372036854775807) := by omega
set_option maxHeartbeats 4000000 in
set_option maxRecDepth 100000 in
theorem k_X3_tryFound (l : Launch) (D : va_G) (cB cC cI cJ : ClassId) (sz : Nat) (a0 a1 a2 a3 a4 a5 a6 a7 a8 a9 a10 a11 a12 a13 a14 a15 a16 a17 : Nat) (x0 x1 x2 x3 x4 x5 x6 x7 x8 : Int32) (y0 y1 y2 : Int64) (f0 f1 : Nat → Int32) (g0 g1 : Nat → Int64) (h_x0 : zBd x0.toInt 0 1) (h_x1 : zBd x1.toInt (-1) 8) (h_x2 : zBd x2.toInt (-1) 5) (h_x3 : zBd x3.toInt (-1) 6) (h_x4 : zBd x4.toInt 0 6) (h_x5 : zBd x5.toInt 0 16) (h_x8 : zBd x8.toInt 0 4) : Met l yX3_tryFound (.code yX3_tryFound cX3_tryFound 3 none :: lw_gd) ({ frames := 1, cells := 0, slots := 0, locals := 25 }) (gPre D [(cB, .byte), (cC, .char), (cI, .int), (cJ, .long)] [.ref a0, .ref a1] [(a0, .inr (3, [.ref a2, .ref a3, .ref a4, .ref a5, .ref a6, .ref a7, .long y0, .int x0, .long y1, .long y2])), (a1, .inr (1, [.ref a8, .ref a9, .ref a10, .int x1, .int x2, .int x3, .int x4, .int x5, .int x6, .int x7])), (a6, .inl (cI, 5, .inl f0)), (a4, .inl (cI, 5, .inl f1)), (a7, .inl (cJ, 5, .inr (.inl g0))), (a2, .inr (10, [.ref a11, .ref a12, .ref a13, .ref a14, .ref a15, .ref a16, .ref a17, .int x8])), (a11, .inl (cJ, 25, .inr (.inl g1)))] sz) (va_Qv (fun u => ((((-1) ≤ x2.toInt ∧ x2.toInt ≤ 5)))) (gB D (va_A [(a0, .inr (3, [.ref a2, .ref a3, .ref a4, .ref a5, .ref a6, .ref a7, .long y0, .int x0, .long y1, .long y2])), (a1, .inr (1, [.ref a8, .ref a9, .ref a10, .int x1, .int x2, .int x3, .int x4, .int x5, .int x6, .int x7])), (a6, .inl (cI, 5, .inl f0)), (a4, .inl (cI, 5, .inl f1)), (a7, .inl (cJ, 5, .inr (.inl g0))), (a2, .inr (10, [.ref a11, .ref a12, .ref a13, .ref a14, .ref a15, .ref a16, .ref a17, .int x8])), (a11, .inl (cJ, 25, .inr (.inl g1)))] sz) (fun u : gEx => [(a0, .inr (3, [.ref a2, .ref a3, .ref a4, .ref a5, .ref a6, .ref a7, .long (u.2.2.2.2 0), .int x0, .long y1, .long y2])), (a1, .inr (1, [.ref a8, .ref a9, .ref a10, .int x1, .int x2, .int x3, .int x4, .int x5, .int x6, .int x7])), (a6, .inl (cI, 5, .inl (u.2.1 0))), (a4, .inl (cI, 5, .inl f1)), (a7, .inl (cJ, 5, .inr (.inl (u.2.2.1 0)))), (a2, .inr (10, [.ref a11, .ref a12, .ref a13, .ref a14, .ref a15, .ref a16, .ref a17, .int x8])), (a11, .inl (cJ, 25, .inr (.inl g1)))])) (va_A [(a0, .inr (3, [.ref a2, .ref a3, .ref a4, .ref a5, .ref a6, .ref a7, .long y0, .int x0, .long y1, .long y2])), (a1, .inr (1, [.ref a8, .ref a9, .ref a10, .int x1, .int x2, .int x3, .int x4, .int x5, .int x6, .int x7])), (a6, .inl (cI, 5, .inl f0)), (a4, .inl (cI, 5, .inl f1)), (a7, .inl (cJ, 5, .inr (.inl g0))), (a2, .inr (10, [.ref a11, .ref a12, .ref a13, .ref a14, .ref a15, .ref a16, .ref a17, .int x8])), (a11, .inl (cJ, 25, .inr (.inl g1)))] sz)) 0 0 (va_A [(a0, .inr (3, [.ref a2, .ref a3, .ref a4, .ref a5, .ref a6, .ref a7, .long y0, .int x0, .long y1, .long y2])), (a1, .inr (1, [.ref a8, .ref a9, .ref a10, .int x1, .int x2, .int x3, .int x4, .int x5, .int x6, .int x7])), (a6, .inl (cI, 5, .inl f0)), (a4, .inl (cI, 5, .inl f1)), (a7, .inl (cJ, 5, .inr (.inl g0))), (a2, .inr (10, [.ref a11, .ref a12, .ref a13, .ref a14, .ref a15, .ref a16, .ref a17, .int x8])), (a11, .inl (cJ, 25, .inr (.inl g1)))] sz) := by
  refine gOf_v (by decide +kernel) (Nat.le_of_ble_eq_true rfl) ?_
  intro p e s m args below meth c ls A Q hx hb hts hown hml hN hK hP hD hA hl hret
  replace hown : s.vm.findClass RX3 = some m.cls := hown
  have hS : va_S A s.heap s.heap [] := va_S.rf
  replace hP : va_P D gcl [(a0, .inr (3, [.ref a2, .ref a3, .ref a4, .ref a5, .ref a6, .ref a7, .long y0, .int x0, .long y1, .long y2])), (a1, .inr (1, [.ref a8, .ref a9, .ref a10, .int x1, .int x2, .int x3, .int x4, .int x5, .int x6, .int x7])), (a6, .inl (cI, 5, .inl f0)), (a4, .inl (cI, 5, .inl f1)), (a7, .inl (cJ, 5, .inr (.inl g0))), (a2, .inr (10, [.ref a11, .ref a12, .ref a13, .ref a14, .ref a15, .ref a16, .ref a17, .int x8])), (a11, .inl (cJ, 25, .inr (.inl g1)))] s.heap := hP
  replace hl : lv_has ls 3 [(0, .ref a0), (1, .ref a1)] := hl
  have ry0 := n_rngL y0
  have ry1 := n_rngL y1
  have ry2 := n_rngL y2
  have rx6 : zBd x6.toInt (-2147483648) 2147483647 := n_rng x6
  have rx7 : zBd x7.toInt (-2147483648) 2147483647 := n_rng x7
  refine lv_iconst (pc := 0) (v := 0) hx hb dX3_tryFound_0 (by decide) ?_
  refine lv_istore_n (pc := 1) (lv' := [(2, .int 0), (0, .ref a0), (1, .ref a1)]) hx hb dX3_tryFound_1 rfl hl (by decide) rfl (fun ls hl => ?_)
  have lp_7 : ∀ (n : Nat) (x_1 : Int32) (y_3 : Int64) (f_5 : Nat → Int32) (g_6 : Nat → Int64) (H : Heap) (locs : List Loc) (ls : Array Slot), (0 ≤ x_1.toInt ∧ x_1.toInt ≤ 2147483647) → (2147483647 - x_1.toInt).toNat < n → va_P D gcl [(a0, .inr (3, [.ref a2, .ref a3, .ref a4, .ref a5, .ref a6, .ref a7, .long y_3, .int x0, .long y1, .long y2])), (a1, .inr (1, [.ref a8, .ref a9, .ref a10, .int x1, .int x2, .int x3, .int x4, .int x5, .int x6, .int x7])), (a6, .inl (cI, 5, .inl f_5)), (a4, .inl (cI, 5, .inl f1)), (a7, .inl (cJ, 5, .inr (.inl g_6))), (a2, .inr (10, [.ref a11, .ref a12, .ref a13, .ref a14, .ref a15, .ref a16, .ref a17, .int x8])), (a11, .inl (cJ, 25, .inr (.inl g1)))] H → va_D A [(a0, .inr (3, [.ref a2, .ref a3, .ref a4, .ref a5, .ref a6, .ref a7, .long y_3, .int x0, .long y1, .long y2])), (a1, .inr (1, [.ref a8, .ref a9, .ref a10, .int x1, .int x2, .int x3, .int x4, .int x5, .int x6, .int x7])), (a6, .inl (cI, 5, .inl f_5)), (a4, .inl (cI, 5, .inl f1)), (a7, .inl (cJ, 5, .inr (.inl g_6))), (a2, .inr (10, [.ref a11, .ref a12, .ref a13, .ref a14, .ref a15, .ref a16, .ref a17, .int x8])), (a11, .inl (cJ, 25, .inr (.inl g1)))] → va_S A s.heap H locs → lv_has ls 3 [(2, .int x_1), (0, .ref a0), (1, .ref a1)] → W p l e ({ frames := 1, cells := 0, slots := 0, locals := 25 }) s m args below meth c H locs 0 0 Q (F0 m 2 ls []) := by
    intro n
    induction n with
    | zero => intro x_1 y_3 f_5 g_6 H locs ls hi_2 hmu; exact absurd hmu (Nat.not_lt_zero _)
    | succ n ih_lp_7 =>
      intro x_1 y_3 f_5 g_6 H locs ls hi_2 hmu_lp_7 hP hD hS hl
      have hi_4 := n_rngL y_3
      refine lv_iload_n (pc := 2) hx hb dX3_tryFound_2 rfl (lv_at hl 0 rfl) ?_
      refine lv_aload_n (pc := 3) hx hb dX3_tryFound_3 rfl (lv_at hl 2 rfl) ?_
      refine va_getN (pc := 4) (ci := 1) (v := .int x2) (C := RX1) (T := TX1) (N := 10) hx hb hts iX1 hown hK hP 1 rfl rfl 4 (by decide) (va_Nw.use rfl (hN _ tn_122)) (fun _ h9 => h9) rfl dX3_tryFound_4 ?_
      refine b_icmp_ge (pc := 7) (tgt := 72) hx hb rfl rfl  dX3_tryFound_7 (by decide) (fun c_8 => ?_) (fun c_8 => ?_)
      ·
        exact hret ((fun _ => 0), (fun k => [f_5].getD k (fun _ => 0)), (fun k => [g_6].getD k (fun _ => 0)), (fun _ => 0), (fun k => [y_3].getD k 0)) dX3_tryFound_72 (show ((((-1) ≤ x2.toInt ∧ x2.toInt ≤ 5))) from h_x2) (g_psub (wc := [(a0, .inr (3, [.ref a2, .ref a3, .ref a4, .ref a5, .ref a6, .ref a7, .long y_3, .int x0, .long y1, .long y2])), (a1, .inr (1, [.ref a8, .ref a9, .ref a10, .int x1, .int x2, .int x3, .int x4, .int x5, .int x6, .int x7])), (a6, .inl (cI, 5, .inl f_5)), (a4, .inl (cI, 5, .inl f1)), (a7, .inl (cJ, 5, .inr (.inl g_6))), (a2, .inr (10, [.ref a11, .ref a12, .ref a13, .ref a14, .ref a15, .ref a16, .ref a17, .int x8])), (a11, .inl (cJ, 25, .inr (.inl g1)))]) hP [0, 1, 2, 3, 4, 5, 6] rfl) (hD.sub (ws' := [(a0, .inr (3, [.ref a2, .ref a3, .ref a4, .ref a5, .ref a6, .ref a7, .long y_3, .int x0, .long y1, .long y2])), (a1, .inr (1, [.ref a8, .ref a9, .ref a10, .int x1, .int x2, .int x3, .int x4, .int x5, .int x6, .int x7])), (a6, .inl (cI, 5, .inl f_5)), (a4, .inl (cI, 5, .inl f1)), (a7, .inl (cJ, 5, .inr (.inl g_6))), (a2, .inr (10, [.ref a11, .ref a12, .ref a13, .ref a14, .ref a15, .ref a16, .ref a17, .int x8])), (a11, .inl (cJ, 25, .inr (.inl g1)))]) [0, 1, 2, 3, 4, 5, 6] (by decide) rfl) hS
      ·
        refine lv_aload_n (pc := 10) hx hb dX3_tryFound_10 rfl (lv_at hl 1 rfl) ?_
        refine va_get (pc := 11) (ci := 3) (v := .ref a6) (C := RX3) (T := TX3) (N := 10) hx hb hts iX3 hown hK hP 0 rfl rfl 4 (by decide) (hts _ tw_353) (fun _ h9 => h9) rfl dX3_tryFound_11 ?_
        refine lv_iload_n (pc := 14) hx hb dX3_tryFound_14 rfl (lv_at hl 0 rfl) ?_
        refine va_iald (pc := 15) hx hb hK hP 2 2 rfl rfl (n_in rfl (by first | exact (om_0 hi_2.1) | ((first | omega | (unfold zBd at *; omega)))) (by first | exact (om_1021 c_8 h_x2.2) | ((first | omega | (unfold zBd at *; omega))))) dX3_tryFound_15 ?_
        refine lv_topi (fun x_9 ex_9 => ?_)
        have rx_9 : zBd x_9.toInt (-2147483648) 2147483647 := n_rng x_9
        refine lv_aload_n (pc := 16) hx hb dX3_tryFound_16 rfl (lv_at hl 1 rfl) ?_
        refine va_get (pc := 17) (ci := 3) (v := .ref a4) (C := RX3) (T := TX3) (N := 10) hx hb hts iX3 hown hK hP 0 rfl rfl 2 (by decide) (hts _ tw_351) (fun _ h9 => h9) rfl dX3_tryFound_17 ?_
        refine lv_iload_n (pc := 20) hx hb dX3_tryFound_20 rfl (lv_at hl 0 rfl) ?_
        refine va_iald (pc := 21) hx hb hK hP 3 2 rfl rfl (n_in rfl (by first | exact (om_0 hi_2.1) | ((first | omega | (unfold zBd at *; omega)))) (by first | exact (om_1021 c_8 h_x2.2) | ((first | omega | (unfold zBd at *; omega))))) dX3_tryFound_21 ?_
        refine lv_topi (fun x_10 ex_10 => ?_)
        have rx_10 : zBd x_10.toInt (-2147483648) 2147483647 := n_rng x_10
        refine b_icmp_eq (pc := 22) (tgt := 66) hx hb rfl rfl  dX3_tryFound_22 (by decide) (fun c_11 => ?_) (fun c_11 => ?_)
        ·
          refine b_iinc (pc := 66) hx hb dX3_tryFound_66 hl (k := 0) rfl rfl tI_1 (by first | exact (om_2 hi_2.1) | ((first | omega | (unfold zBd at *; omega)))) (by first | exact (om_338 c_8 h_x2.2) | ((first | omega | (unfold zBd at *; omega)))) (by decide) (fun x_12 ex_12 ls hl => ?_)
          replace hl : lv_has ls 3 [(2, .int x_12), (0, .ref a0), (1, .ref a1)] := hl
          refine lv_goto (pc := 69) (tgt := 2) hx hb dX3_tryFound_69 (by decide) ?_
          exact ih_lp_7 x_12 y_3 f_5 g_6 _ _ ls (by first | exact (om_339 ex_12 hi_2.1 c_8 h_x2.2) | ((first | omega | (unfold zBd at *; omega)))) (by (first | omega | (unfold zBd at *; omega))) hP hD hS (lv_sub hl [0, 1, 2] rfl)
        ·
          refine lv_aload_n (pc := 25) hx hb dX3_tryFound_25 rfl (lv_at hl 1 rfl) ?_
          refine lv_iload_n (pc := 26) hx hb dX3_tryFound_26 rfl (lv_at hl 0 rfl) ?_
          refine lv_ldc2 (pc := 27) hx hb hown (hts _ tw_1255) dX3_tryFound_27 ?_
          refine lv_aload_n (pc := 30) hx hb dX3_tryFound_30 rfl (lv_at hl 2 rfl) ?_
          refine va_getN (pc := 31) (ci := 1) (v := .int x1) (C := RX1) (T := TX1) (N := 10) hx hb hts iX1 hown hK hP 1 rfl rfl 3 (by decide) (va_Nw.use rfl (hN _ tn_113)) (fun _ h9 => h9) rfl dX3_tryFound_31 ?_
          refine b_i2l (pc := 34) hx hb rfl dX3_tryFound_34 (fun y_13 ey_13 => ?_)
          have ry_13 : zBd x1.toInt (-2147483648) 2147483647 := n_rng x1
          refine b_lmul (pc := 35) hx hb tL_2 rfl (by first | exact (om_1290 ey_13 ry_13.1) | ((first | omega | (unfold zBd at *; omega)))) (by first | exact (om_1291 ey_13 ry_13.2) | ((first | omega | (unfold zBd at *; omega)))) dX3_tryFound_35 (fun y_14 ey_14 => ?_)
          refine lv_aload_n (pc := 36) hx hb dX3_tryFound_36 rfl (lv_at hl 1 rfl) ?_
          refine va_get (pc := 37) (ci := 3) (v := .ref a4) (C := RX3) (T := TX3) (N := 10) hx hb hts iX3 hown hK hP 0 rfl rfl 2 (by decide) (hts _ tw_351) (fun _ h9 => h9) rfl dX3_tryFound_37 ?_
          refine lv_iload_n (pc := 40) hx hb dX3_tryFound_40 rfl (lv_at hl 0 rfl) ?_
          refine va_iald (pc := 41) hx hb hK hP 3 2 rfl rfl (n_in rfl (by first | exact (om_0 hi_2.1) | ((first | omega | (unfold zBd at *; omega)))) (by first | exact (om_1021 c_8 h_x2.2) | ((first | omega | (unfold zBd at *; omega))))) dX3_tryFound_41 ?_
          refine gI (y := x_10) ex_10.symm ?_
          refine lv_aload_n (pc := 42) hx hb dX3_tryFound_42 rfl (lv_at hl 1 rfl) ?_
          refine va_get (pc := 43) (ci := 3) (v := .ref a6) (C := RX3) (T := TX3) (N := 10) hx hb hts iX3 hown hK hP 0 rfl rfl 4 (by decide) (hts _ tw_353) (fun _ h9 => h9) rfl dX3_tryFound_43 ?_
          refine lv_iload_n (pc := 46) hx hb dX3_tryFound_46 rfl (lv_at hl 0 rfl) ?_
          refine va_iald (pc := 47) hx hb hK hP 2 2 rfl rfl (n_in rfl (by first | exact (om_0 hi_2.1) | ((first | omega | (unfold zBd at *; omega)))) (by first | exact (om_1021 c_8 h_x2.2) | ((first | omega | (unfold zBd at *; omega))))) dX3_tryFound_47 ?_
          refine gI (y := x_9) ex_9.symm ?_
          refine lv_isub (pc := 48) hx hb dX3_tryFound_48 ?_
          refine lv_topi (fun x_15 _ => ?_)
          have rx_15 : zBd x_15.toInt (-2147483648) 2147483647 := n_rng x_15
          refine b_i2l (pc := 49) hx hb rfl dX3_tryFound_49 (fun y_16 ey_16 => ?_)
          have ry_16 : zBd x_15.toInt (-2147483648) 2147483647 := n_rng x_15
          refine lv_lmul (pc := 50) hx hb dX3_tryFound_50 ?_
          refine lv_topl (fun y_17 _ => ?_)
          have ry_17 := n_rngL y_17
          refine gd_v (pc := 51) (wc := [(a0, .inr (3, [.ref a2, .ref a3, .ref a4, .ref a5, .ref a6, .ref a7, .long y_3, .int x0, .long y1, .long y2])), (a7, .inl (cJ, 5, .inr (.inl g_6))), (a2, .inr (10, [.ref a11, .ref a12, .ref a13, .ref a14, .ref a15, .ref a16, .ref a17, .int x8])), (a11, .inl (cJ, 25, .inr (.inl g1)))]) hP hD hS hA [0, 4, 5, 6] rfl (by decide +kernel) (fun _ => by rfl) (fun hPc hDc => va_runV (As := [.int x_1, .long y_17]) (rest := []) ⟨hx, hb, hml, hown, hts⟩ (k_X3_move l D cB cC cI cJ _ a0 a2 a3 a4 a5 a6 a7 a11 a12 a13 a14 a15 a16 a17 x_1 x0 x8 y_17 y_3 y1 y2 g_6 g1 (by first | exact (om_360 hi_2.1 c_8 h_x2.2) | ((first | omega | (unfold zBd at *; omega)))) h_x0 h_x8) ⟨gcwB hts tw_1254 tw_12 tw_1251 hd_yX3_move ⟨Nat.le_of_ble_eq_true rfl, Nat.le_of_ble_eq_true rfl⟩, hts _ tw_1253, hts _ tp_49⟩ ⟨gblind, va_recv hK hPc (ci := 3) (q0 := 0) rfl rfl, (gpreS hPc hK hDc hN).2⟩ rfl rfl hl.1 rfl (lv_room (Nat.le_of_ble_eq_true rfl)) dX3_tryFound_51 ⟨Nat.le_of_ble_eq_true rfl, Nat.le_of_ble_eq_true rfl⟩) (fun u_18 H locs hw_20 hP hD hS => ?_)
          replace hP : va_P D gcl [(a0, .inr (3, [.ref a2, .ref a3, .ref a4, .ref a5, .ref a6, .ref a7, .long (u_18.2.2.2.2 0), .int x0, .long y1, .long y2])), (a1, .inr (1, [.ref a8, .ref a9, .ref a10, .int x1, .int x2, .int x3, .int x4, .int x5, .int x6, .int x7])), (a6, .inl (cI, 5, .inl f_5)), (a4, .inl (cI, 5, .inl f1)), (a7, .inl (cJ, 5, .inr (.inl (u_18.2.2.1 0)))), (a2, .inr (10, [.ref a11, .ref a12, .ref a13, .ref a14, .ref a15, .ref a16, .ref a17, .int x8])), (a11, .inl (cJ, 25, .inr (.inl g1)))] H := hP
          replace hD : va_D A [(a0, .inr (3, [.ref a2, .ref a3, .ref a4, .ref a5, .ref a6, .ref a7, .long (u_18.2.2.2.2 0), .int x0, .long y1, .long y2])), (a1, .inr (1, [.ref a8, .ref a9, .ref a10, .int x1, .int x2, .int x3, .int x4, .int x5, .int x6, .int x7])), (a6, .inl (cI, 5, .inl f_5)), (a4, .inl (cI, 5, .inl f1)), (a7, .inl (cJ, 5, .inr (.inl (u_18.2.2.1 0)))), (a2, .inr (10, [.ref a11, .ref a12, .ref a13, .ref a14, .ref a15, .ref a16, .ref a17, .int x8])), (a11, .inl (cJ, 25, .inr (.inl g1)))] := hD
          have ru_18_0 := n_rngL (u_18.2.2.2.2 0)
          have hw_21 : (((0 ≤ x8.toInt ∧ x8.toInt ≤ 4))) := hw_20
          refine lv_aload_n (pc := 54) hx hb dX3_tryFound_54 rfl (lv_at hl 1 rfl) ?_
          refine va_get (pc := 55) (ci := 3) (v := .ref a6) (C := RX3) (T := TX3) (N := 10) hx hb hts iX3 hown hK hP 0 rfl rfl 4 (by decide) (hts _ tw_353) (fun _ h9 => h9) rfl dX3_tryFound_55 ?_
          refine lv_iload_n (pc := 58) hx hb dX3_tryFound_58 rfl (lv_at hl 0 rfl) ?_
          refine lv_aload_n (pc := 59) hx hb dX3_tryFound_59 rfl (lv_at hl 1 rfl) ?_
          refine va_get (pc := 60) (ci := 3) (v := .ref a4) (C := RX3) (T := TX3) (N := 10) hx hb hts iX3 hown hK hP 0 rfl rfl 2 (by decide) (hts _ tw_351) (fun _ h9 => h9) rfl dX3_tryFound_60 ?_
          refine lv_iload_n (pc := 63) hx hb dX3_tryFound_63 rfl (lv_at hl 0 rfl) ?_
          refine va_iald (pc := 64) hx hb hK hP 3 2 rfl rfl (n_in rfl (by first | exact (om_0 hi_2.1) | ((first | omega | (unfold zBd at *; omega)))) (by first | exact (om_1021 c_8 h_x2.2) | ((first | omega | (unfold zBd at *; omega))))) dX3_tryFound_64 ?_
          refine gI (y := x_10) ex_10.symm ?_
          refine g_iastore (pc := 65) hx hb hK hP hD hS 2 2 rfl rfl (n_in rfl (by first | exact (om_0 hi_2.1) | ((first | omega | (unfold zBd at *; omega)))) (by first | exact (om_1021 c_8 h_x2.2) | ((first | omega | (unfold zBd at *; omega))))) dX3_tryFound_65 (fun f_22 H locs hP hD hS => ?_)
          replace hP : va_P D gcl [(a0, .inr (3, [.ref a2, .ref a3, .ref a4, .ref a5, .ref a6, .ref a7, .long (u_18.2.2.2.2 0), .int x0, .long y1, .long y2])), (a1, .inr (1, [.ref a8, .ref a9, .ref a10, .int x1, .int x2, .int x3, .int x4, .int x5, .int x6, .int x7])), (a6, .inl (cI, 5, .inl f_22)), (a4, .inl (cI, 5, .inl f1)), (a7, .inl (cJ, 5, .inr (.inl (u_18.2.2.1 0)))), (a2, .inr (10, [.ref a11, .ref a12, .ref a13, .ref a14, .ref a15, .ref a16, .ref a17, .int x8])), (a11, .inl (cJ, 25, .inr (.inl g1)))] H := hP
          replace hD : va_D A [(a0, .inr (3, [.ref a2, .ref a3, .ref a4, .ref a5, .ref a6, .ref a7, .long (u_18.2.2.2.2 0), .int x0, .long y1, .long y2])), (a1, .inr (1, [.ref a8, .ref a9, .ref a10, .int x1, .int x2, .int x3, .int x4, .int x5, .int x6, .int x7])), (a6, .inl (cI, 5, .inl f_22)), (a4, .inl (cI, 5, .inl f1)), (a7, .inl (cJ, 5, .inr (.inl (u_18.2.2.1 0)))), (a2, .inr (10, [.ref a11, .ref a12, .ref a13, .ref a14, .ref a15, .ref a16, .ref a17, .int x8])), (a11, .inl (cJ, 25, .inr (.inl g1)))] := hD
          refine b_iinc (pc := 66) hx hb dX3_tryFound_66 hl (k := 0) rfl rfl tI_1 (by first | exact (om_2 hi_2.1) | ((first | omega | (unfold zBd at *; omega)))) (by first | exact (om_338 c_8 h_x2.2) | ((first | omega | (unfold zBd at *; omega)))) (by decide) (fun x_23 ex_23 ls hl => ?_)
          replace hl : lv_has ls 3 [(2, .int x_23), (0, .ref a0), (1, .ref a1)] := hl
          refine lv_goto (pc := 69) (tgt := 2) hx hb dX3_tryFound_69 (by decide) ?_
          exact ih_lp_7 x_23 (u_18.2.2.2.2 0) f_22 (u_18.2.2.1 0) _ _ ls (by first | exact (om_339 ex_23 hi_2.1 c_8 h_x2.2) | ((first | omega | (unfold zBd at *; omega)))) (by (first | omega | (unfold zBd at *; omega))) hP hD hS (lv_sub hl [0, 1, 2] rfl)
  exact lp_7 _ 0 y0 f0 g0 _ _ ls (n_c tI_0 (by decide)) (Nat.lt_succ_self _) hP hD hS (lv_sub hl [0, 1, 2] rfl)
