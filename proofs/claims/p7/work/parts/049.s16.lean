theorem om_1267 {a b : Int} (h0 : ((-9223372036854775808) ≤ a)) (h1 : (a ≤ 9223372036854775807)) (h2 : ((-1) ≤ b)) (h3 : (b ≤ 8)) : (((((-9223372036854775808) ≤ a ∧ a ≤ 9223372036854775807) ∧ ((-1) ≤ b ∧ b ≤ 8)))) := by omega
set_option maxHeartbeats 4000000 in
set_option maxRecDepth 100000 in
theorem k_X7_leastWithout (l : Launch) (D : va_G) (cB cC cI cJ : ClassId) (sz : Nat) (a0 a1 a2 a3 a4 a5 a6 a7 a8 : Nat) (x0 x1 x2 x3 x4 : Int32) (y0 : Int64) (g0 : Nat → Int64) (hp1 : (0 ≤ x0.toInt ∧ x0.toInt ≤ 4)) (hp3 : ((-1) ≤ x2.toInt ∧ x2.toInt ≤ 8)) (h_x3 : zBd x3.toInt 0 10) (h_x4 : zBd x4.toInt 0 1) : Met l yX7_leastWithout (.code yX7_leastWithout cX7_leastWithout 7 (some .long) :: lw_gd) ({ frames := 1, cells := 0, slots := 0, locals := 22 }) (gPre D [(cB, .byte), (cC, .char), (cI, .int), (cJ, .long)] [.ref a0, .int x0, .int x1, .int x2] (zS_57 cB cC cI cJ a0 a1 a2 a3 a4 a5 a6 a7 a8 x3 y0 x4 a4 g0) sz) (va_Ql (fun r u => ((((-9223372036854775808) ≤ r.toInt ∧ r.toInt ≤ 9223372036854775807) ∧ ((-1) ≤ x2.toInt ∧ x2.toInt ≤ 8)))) (gB D (va_A (zS_57 cB cC cI cJ a0 a1 a2 a3 a4 a5 a6 a7 a8 x3 y0 x4 a4 g0) sz) (fun u : gEx => (zS_57 cB cC cI cJ a0 a1 a2 a3 a4 a5 a6 a7 a8 x3 y0 x4 a4 g0))) (va_A (zS_57 cB cC cI cJ a0 a1 a2 a3 a4 a5 a6 a7 a8 x3 y0 x4 a4 g0) sz)) 0 0 (va_A (zS_57 cB cC cI cJ a0 a1 a2 a3 a4 a5 a6 a7 a8 x3 y0 x4 a4 g0) sz) := by
  refine gOf_l (by decide +kernel) (Nat.le_of_ble_eq_true rfl) ?_
  intro p e s m args below meth c ls A Q hx hb hts hown hml hN hK hP hD hA hl hret
  replace hown : s.vm.findClass RX7 = some m.cls := hown
  have hS : va_S A s.heap s.heap [] := va_S.rf
  replace hP : va_P D gcl (zS_57 cB cC cI cJ a0 a1 a2 a3 a4 a5 a6 a7 a8 x3 y0 x4 a4 g0) s.heap := hP
  replace hl : lv_has ls 7 [(0, .ref a0), (1, .int x0), (2, .int x1), (3, .int x2)] := hl
  have rx1 : zBd x1.toInt (-2147483648) 2147483647 := n_rng x1
  have ry0 := n_rngL y0
  refine lv_ldc2 (pc := 0) hx hb hown (hts _ tw_874) dX7_leastWithout_0 ?_
  refine lv_lstore (pc := 3) (lv' := [(4, .long 1000000000000000), (0, .ref a0), (1, .int x0), (2, .int x1), (3, .int x2)]) hx hb dX7_leastWithout_3 hl (by decide) rfl (fun ls hl => ?_)
  refine lv_iconst (pc := 5) (v := 0) hx hb dX7_leastWithout_5 (by decide) ?_
  refine lv_istore (pc := 6) (lv' := [(6, .int 0), (4, .long 1000000000000000), (0, .ref a0), (1, .int x0), (2, .int x1), (3, .int x2)]) hx hb dX7_leastWithout_6 hl (by decide) rfl (fun ls hl => ?_)
  have lp_5 : ∀ (n : Nat) (x_1 : Int32) (y_3 : Int64) (H : Heap) (locs : List Loc) (ls : Array Slot), (0 ≤ x_1.toInt ∧ x_1.toInt ≤ 2147483647) → (2147483647 - x_1.toInt).toNat < n → va_P D gcl (zS_57 cB cC cI cJ a0 a1 a2 a3 a4 a5 a6 a7 a8 x3 y0 x4 a4 g0) H → va_D A (zS_57 cB cC cI cJ a0 a1 a2 a3 a4 a5 a6 a7 a8 x3 y0 x4 a4 g0) → va_S A s.heap H locs → lv_has ls 7 [(6, .int x_1), (4, .long y_3), (0, .ref a0), (1, .int x0), (2, .int x1), (3, .int x2)] → W p l e ({ frames := 1, cells := 0, slots := 0, locals := 22 }) s m args below meth c H locs 0 0 Q (F0 m 8 ls []) := by
    intro n
    induction n with
    | zero => intro x_1 y_3 H locs ls hi_2 hmu; exact absurd hmu (Nat.not_lt_zero _)
    | succ n ih_lp_5 =>
      intro x_1 y_3 H locs ls hi_2 hmu_lp_5 hP hD hS hl
      have hi_4 := n_rngL y_3
      refine lv_iload (pc := 8) hx hb dX7_leastWithout_8 (lv_at hl 0 rfl) ?_
      refine lv_iload_n (pc := 10) hx hb dX7_leastWithout_10 rfl (lv_at hl 5 rfl) ?_
      refine b_icmp_ge (pc := 11) (tgt := 40) hx hb rfl rfl  dX7_leastWithout_11 (by decide) (fun c_6 => ?_) (fun c_6 => ?_)
      ·
        refine lv_lload (pc := 40) hx hb dX7_leastWithout_40 (lv_at hl 1 rfl) ?_
        exact hret y_3 ((fun _ => 0), (fun _ => (fun _ => 0)), (fun _ => (fun _ => 0)), (fun _ => 0), (fun _ => 0)) dX7_leastWithout_42 (show ((((-9223372036854775808) ≤ y_3.toInt ∧ y_3.toInt ≤ 9223372036854775807) ∧ ((-1) ≤ x2.toInt ∧ x2.toInt ≤ 8))) from (by first | exact (om_1267 hi_4.1 hi_4.2 hp3.1 hp3.2) | ((first | omega | (unfold zBd at *; omega))))) (g_psub (wc := (zS_57 cB cC cI cJ a0 a1 a2 a3 a4 a5 a6 a7 a8 x3 y0 x4 a4 g0)) hP [0, 1] rfl) (hD.sub (ws' := (zS_57 cB cC cI cJ a0 a1 a2 a3 a4 a5 a6 a7 a8 x3 y0 x4 a4 g0)) [0, 1] (by decide) rfl) hS
      ·
        refine lv_iload (pc := 14) hx hb dX7_leastWithout_14 (lv_at hl 0 rfl) ?_
        refine lv_iload_n (pc := 16) hx hb dX7_leastWithout_16 rfl (lv_at hl 4 rfl) ?_
        refine b_icmp_eq (pc := 17) (tgt := 34) hx hb rfl rfl  dX7_leastWithout_17 (by decide) (fun c_7 => ?_) (fun c_7 => ?_)
        ·
          refine b_iinc (pc := 34) hx hb dX7_leastWithout_34 hl (k := 0) rfl rfl tI_1 (by first | exact (om_2 hi_2.1) | ((first | omega | (unfold zBd at *; omega)))) (by first | exact (om_1072 c_6 hp3.2) | ((first | omega | (unfold zBd at *; omega)))) (by decide) (fun x_8 ex_8 ls hl => ?_)
          replace hl : lv_has ls 7 [(6, .int x_8), (4, .long y_3), (0, .ref a0), (1, .int x0), (2, .int x1), (3, .int x2)] := hl
          refine lv_goto (pc := 37) (tgt := 8) hx hb dX7_leastWithout_37 (by decide) ?_
          exact ih_lp_5 x_8 y_3 _ _ ls (by first | exact (om_1073 ex_8 hi_2.1 c_6 hp3.2) | ((first | omega | (unfold zBd at *; omega)))) (by (first | omega | (unfold zBd at *; omega))) hP hD hS (lv_sub hl [0, 1, 2, 3, 4, 5] rfl)
        ·
          refine lv_lload (pc := 20) hx hb dX7_leastWithout_20 (lv_at hl 1 rfl) ?_
          refine lv_aload_n (pc := 22) hx hb dX7_leastWithout_22 rfl (lv_at hl 2 rfl) ?_
          refine lv_iload_n (pc := 23) hx hb dX7_leastWithout_23 rfl (lv_at hl 3 rfl) ?_
          refine lv_iload (pc := 24) hx hb dX7_leastWithout_24 (lv_at hl 0 rfl) ?_
          refine gd_l (pc := 26) (wc := (zS_57 cB cC cI cJ a0 a1 a2 a3 a4 a5 a6 a7 a8 x3 y0 x4 a4 g0)) hP hD hS hA [0, 1] rfl (by decide +kernel) (fun _ => by rfl) (fun hPc hDc => va_runV (As := [.int x0, .int x_1]) (rest := [.long y_3]) ⟨hx, hb, hml, hown, hts⟩ (k_X7_leastWith l D cB cC cI cJ _ a0 a1 a2 a3 a4 a5 a6 a7 a8 x0 x_1 x3 x4 y0 g0 hp1 (by first | exact (om_1246 hi_2.1 c_6 hp3.2) | ((first | omega | (unfold zBd at *; omega)))) h_x3 h_x4) ⟨gcwB hts tw_1012 tw_7 tw_1031 hd_yX7_leastWith ⟨Nat.le_of_ble_eq_true rfl, Nat.le_of_ble_eq_true rfl⟩, hts _ tw_1010, hts _ tw_1011⟩ ⟨gblind, va_recv hK hPc (ci := 7) (q0 := 0) rfl rfl, (gpreS hPc hK hDc hN).2⟩ rfl rfl hl.1 rfl (lv_room (Nat.le_of_ble_eq_true rfl)) dX7_leastWithout_26 ⟨Nat.le_of_ble_eq_true rfl, Nat.le_of_ble_eq_true rfl⟩) (fun r_10 u_9 H locs hw_11 hP hD hS => ?_)
          replace hP : va_P D gcl (zS_57 cB cC cI cJ a0 a1 a2 a3 a4 a5 a6 a7 a8 x3 y0 x4 a4 g0) H := hP
          replace hD : va_D A (zS_57 cB cC cI cJ a0 a1 a2 a3 a4 a5 a6 a7 a8 x3 y0 x4 a4 g0) := hD
          have hw_12 : ((((-9223372036854775808) ≤ r_10.toInt ∧ r_10.toInt ≤ 9223372036854775807))) := hw_11
          have rr_10 := n_rngL r_10
          refine va_mmin_long (pc := 29) hx hb (hml.trans hl.1.symm) hown (hts _ tw_928) (hts _ tw_857) (hts _ tw_19) (hts _ tw_858) (Nat.le_of_ble_eq_true rfl) (Nat.le_of_ble_eq_true rfl) (Nat.le_of_ble_eq_true rfl) (Nat.le_of_ble_eq_true rfl) dX7_leastWithout_29 ?_
          refine lv_topl (fun y_13 ey_13 => ?_)
          have ey_13 := n_minL rfl rfl ey_13
          have ry_13 := n_rngL y_13
          refine lv_lstore (pc := 32) (lv' := [(4, .long y_13), (6, .int x_1), (0, .ref a0), (1, .int x0), (2, .int x1), (3, .int x2)]) hx hb dX7_leastWithout_32 hl (by decide) rfl (fun ls hl => ?_)
          refine b_iinc (pc := 34) hx hb dX7_leastWithout_34 hl (k := 1) rfl rfl tI_1 (by first | exact (om_2 hi_2.1) | ((first | omega | (unfold zBd at *; omega)))) (by first | exact (om_1072 c_6 hp3.2) | ((first | omega | (unfold zBd at *; omega)))) (by decide) (fun x_14 ex_14 ls hl => ?_)
          replace hl : lv_has ls 7 [(6, .int x_14), (4, .long y_13), (0, .ref a0), (1, .int x0), (2, .int x1), (3, .int x2)] := hl
          refine lv_goto (pc := 37) (tgt := 8) hx hb dX7_leastWithout_37 (by decide) ?_
          exact ih_lp_5 x_14 y_13 _ _ ls (by first | exact (om_1073 ex_14 hi_2.1 c_6 hp3.2) | ((first | omega | (unfold zBd at *; omega)))) (by (first | omega | (unfold zBd at *; omega))) hP hD hS (lv_sub hl [0, 1, 2, 3, 4, 5] rfl)
  exact lp_5 _ 0 1000000000000000 _ _ ls (n_c tI_0 (by decide)) (Nat.lt_succ_self _) hP hD hS (lv_sub hl [0, 1, 2, 3, 4, 5] rfl)
set_option maxHeartbeats 4000000 in
set_option maxRecDepth 100000 in
theorem k_J7_fill_53178_5 (l : Launch) (D : va_G) (cB cC cI cJ : ClassId) (sz : Nat) (a0 : Nat) (x0 : Int32) (f0 : Nat → Int32) : Met l yJ7_fill_53178 (.code yJ7_fill_53178 cJ7_fill_53178 4 none :: lw_gd) ({ frames := 0, cells := 0, slots := 0, locals := 0 }) (gPre D [(cB, .byte), (cC, .char), (cI, .int), (cJ, .long)] [.ref a0, .int x0] [(a0, .inl (cI, 5, .inl f0))] sz) (va_Qv (fun u => True) (gB D (va_A [(a0, .inl (cI, 5, .inl f0))] sz) (fun u : gEx => [(a0, .inl (cI, 5, .inl (u.2.1 0)))])) (va_A [(a0, .inl (cI, 5, .inl f0))] sz)) 0 0 (va_A [(a0, .inl (cI, 5, .inl f0))] sz) := by
  refine gOf_v (by decide +kernel) (Nat.le_of_ble_eq_true rfl) ?_
  intro p e s m args below meth c ls A Q hx hb hts hown hml hN hK hP hD hA hl hret
  replace hown : s.vm.findClass RJ7 = some m.cls := hown
  have hS : va_S A s.heap s.heap [] := va_S.rf
  replace hP : va_P D gcl [(a0, .inl (cI, 5, .inl f0))] s.heap := hP
  replace hl : lv_has ls 4 [(0, .ref a0), (1, .int x0)] := hl
  have rx0 : zBd x0.toInt (-2147483648) 2147483647 := n_rng x0
  refine lv_iconst (pc := 0) (v := 0) hx hb dJ7_fill_53178_0 (by decide) ?_
  refine lv_istore_n (pc := 1) (lv' := [(2, .int 0), (0, .ref a0), (1, .int x0)]) hx hb dJ7_fill_53178_1 rfl hl (by decide) rfl (fun ls hl => ?_)
  refine lv_aload_n (pc := 2) hx hb dJ7_fill_53178_2 rfl (lv_at hl 1 rfl) ?_
  refine va_alen (pc := 3) (v := 5) hx hb hK hP 0 2 rfl rfl rfl dJ7_fill_53178_3 ?_
  refine lv_istore_n (pc := 4) (lv' := [(3, .int 5), (2, .int 0), (0, .ref a0), (1, .int x0)]) hx hb dJ7_fill_53178_4 rfl hl (by decide) rfl (fun ls hl => ?_)
  have lp_4 : ∀ (n : Nat) (x_1 : Int32) (f_3 : Nat → Int32) (H : Heap) (locs : List Loc) (ls : Array Slot), (0 ≤ x_1.toInt ∧ x_1.toInt ≤ 2147483647) → (2147483647 - x_1.toInt).toNat < n → va_P D gcl [(a0, .inl (cI, 5, .inl f_3))] H → va_D A [(a0, .inl (cI, 5, .inl f_3))] → va_S A s.heap H locs → lv_has ls 4 [(3, .int 5), (2, .int x_1), (0, .ref a0), (1, .int x0)] → W p l e ({ frames := 0, cells := 0, slots := 0, locals := 0 }) s m args below meth c H locs 0 0 Q (F0 m 5 ls []) := by
    intro n
    induction n with
    | zero => intro x_1 f_3 H locs ls hi_2 hmu; exact absurd hmu (Nat.not_lt_zero _)
    | succ n ih_lp_4 =>
      intro x_1 f_3 H locs ls hi_2 hmu_lp_4 hP hD hS hl
      refine lv_iload_n (pc := 5) hx hb dJ7_fill_53178_5 rfl (lv_at hl 1 rfl) ?_
      refine lv_iload_n (pc := 6) hx hb dJ7_fill_53178_6 rfl (lv_at hl 0 rfl) ?_
      refine b_icmp_ge (pc := 7) (tgt := 20) hx hb rfl tI_5  dJ7_fill_53178_7 (by decide) (fun c_5 => ?_) (fun c_5 => ?_)
      ·
        exact hret ((fun _ => 0), (fun k => [f_3].getD k (fun _ => 0)), (fun _ => (fun _ => 0)), (fun _ => 0), (fun _ => 0)) dJ7_fill_53178_20 trivial (g_psub (wc := [(a0, .inl (cI, 5, .inl f_3))]) hP [0] rfl) (hD.sub (ws' := [(a0, .inl (cI, 5, .inl f_3))]) [0] (by decide) rfl) hS
      ·
        refine lv_aload_n (pc := 10) hx hb dJ7_fill_53178_10 rfl (lv_at hl 2 rfl) ?_
        refine lv_iload_n (pc := 11) hx hb dJ7_fill_53178_11 rfl (lv_at hl 1 rfl) ?_
        refine lv_iload_n (pc := 12) hx hb dJ7_fill_53178_12 rfl (lv_at hl 3 rfl) ?_
        refine g_iastore (pc := 13) hx hb hK hP hD hS 0 2 rfl rfl (n_in rfl (by first | exact (om_0 hi_2.1) | ((first | omega | (unfold zBd at *; omega)))) (by first | exact (om_434 c_5) | ((first | omega | (unfold zBd at *; omega))))) dJ7_fill_53178_13 (fun f_6 H locs hP hD hS => ?_)
        replace hP : va_P D gcl [(a0, .inl (cI, 5, .inl f_6))] H := hP
        replace hD : va_D A [(a0, .inl (cI, 5, .inl f_6))] := hD
        refine b_iinc (pc := 14) hx hb dJ7_fill_53178_14 hl (k := 1) rfl rfl tI_1 (by first | exact (om_2 hi_2.1) | ((first | omega | (unfold zBd at *; omega)))) (by first | exact (om_409 c_5) | ((first | omega | (unfold zBd at *; omega)))) (by decide) (fun x_7 ex_7 ls hl => ?_)
        replace hl : lv_has ls 4 [(2, .int x_7), (3, .int 5), (0, .ref a0), (1, .int x0)] := hl
        refine lv_goto (pc := 17) (tgt := 5) hx hb dJ7_fill_53178_17 (by decide) ?_
        exact ih_lp_4 x_7 f_6 _ _ ls (by first | exact (om_410 ex_7 hi_2.1 c_5) | ((first | omega | (unfold zBd at *; omega)))) (by (first | omega | (unfold zBd at *; omega))) hP hD hS (lv_sub hl [1, 0, 2, 3] rfl)
  exact lp_4 _ 0 f0 _ _ ls (n_c tI_0 (by decide)) (Nat.lt_succ_self _) hP hD hS (lv_sub hl [0, 1, 2, 3] rfl)
set_option maxHeartbeats 4000000 in
set_option maxRecDepth 100000 in
theorem k_J7_fill_d0a16_5 (l : Launch) (D : va_G) (cB cC cI cJ : ClassId) (sz : Nat) (a0 : Nat) (y0 : Int64) (g0 : Nat → Int64) : Met l yJ7_fill_d0a16 (.code yJ7_fill_d0a16 cJ7_fill_d0a16 5 none :: lw_gd) ({ frames := 0, cells := 0, slots := 0, locals := 0 }) (gPre D [(cB, .byte), (cC, .char), (cI, .int), (cJ, .long)] [.ref a0, .long y0] [(a0, .inl (cJ, 5, .inr (.inl g0)))] sz) (va_Qv (fun u => True) (gB D (va_A [(a0, .inl (cJ, 5, .inr (.inl g0)))] sz) (fun u : gEx => [(a0, .inl (cJ, 5, .inr (.inl (u.2.2.1 0))))])) (va_A [(a0, .inl (cJ, 5, .inr (.inl g0)))] sz)) 0 0 (va_A [(a0, .inl (cJ, 5, .inr (.inl g0)))] sz) := by
  refine gOf_v (by decide +kernel) (Nat.le_of_ble_eq_true rfl) ?_
  intro p e s m args below meth c ls A Q hx hb hts hown hml hN hK hP hD hA hl hret
  replace hown : s.vm.findClass RJ7 = some m.cls := hown
  have hS : va_S A s.heap s.heap [] := va_S.rf
  replace hP : va_P D gcl [(a0, .inl (cJ, 5, .inr (.inl g0)))] s.heap := hP
  replace hl : lv_has ls 5 [(0, .ref a0), (1, .long y0)] := hl
  have ry0 := n_rngL y0
  refine lv_iconst (pc := 0) (v := 0) hx hb dJ7_fill_d0a16_0 (by decide) ?_
  refine lv_istore_n (pc := 1) (lv' := [(3, .int 0), (0, .ref a0), (1, .long y0)]) hx hb dJ7_fill_d0a16_1 rfl hl (by decide) rfl (fun ls hl => ?_)
  refine lv_aload_n (pc := 2) hx hb dJ7_fill_d0a16_2 rfl (lv_at hl 1 rfl) ?_
  refine va_alen (pc := 3) (v := 5) hx hb hK hP 0 3 rfl rfl rfl dJ7_fill_d0a16_3 ?_
  refine lv_istore (pc := 4) (lv' := [(4, .int 5), (3, .int 0), (0, .ref a0), (1, .long y0)]) hx hb dJ7_fill_d0a16_4 hl (by decide) rfl (fun ls hl => ?_)
  have lp_4 : ∀ (n : Nat) (x_1 : Int32) (g_3 : Nat → Int64) (H : Heap) (locs : List Loc) (ls : Array Slot), (0 ≤ x_1.toInt ∧ x_1.toInt ≤ 2147483647) → (2147483647 - x_1.toInt).toNat < n → va_P D gcl [(a0, .inl (cJ, 5, .inr (.inl g_3)))] H → va_D A [(a0, .inl (cJ, 5, .inr (.inl g_3)))] → va_S A s.heap H locs → lv_has ls 5 [(4, .int 5), (3, .int x_1), (0, .ref a0), (1, .long y0)] → W p l e ({ frames := 0, cells := 0, slots := 0, locals := 0 }) s m args below meth c H locs 0 0 Q (F0 m 6 ls []) := by
    intro n
    induction n with
    | zero => intro x_1 g_3 H locs ls hi_2 hmu; exact absurd hmu (Nat.not_lt_zero _)
    | succ n ih_lp_4 =>
      intro x_1 g_3 H locs ls hi_2 hmu_lp_4 hP hD hS hl
      refine lv_iload_n (pc := 6) hx hb dJ7_fill_d0a16_6 rfl (lv_at hl 1 rfl) ?_
      refine lv_iload (pc := 7) hx hb dJ7_fill_d0a16_7 (lv_at hl 0 rfl) ?_
      refine b_icmp_ge (pc := 9) (tgt := 22) hx hb rfl tI_5  dJ7_fill_d0a16_9 (by decide) (fun c_5 => ?_) (fun c_5 => ?_)
      ·
        exact hret ((fun _ => 0), (fun _ => (fun _ => 0)), (fun k => [g_3].getD k (fun _ => 0)), (fun _ => 0), (fun _ => 0)) dJ7_fill_d0a16_22 trivial (g_psub (wc := [(a0, .inl (cJ, 5, .inr (.inl g_3)))]) hP [0] rfl) (hD.sub (ws' := [(a0, .inl (cJ, 5, .inr (.inl g_3)))]) [0] (by decide) rfl) hS
      ·
        refine lv_aload_n (pc := 12) hx hb dJ7_fill_d0a16_12 rfl (lv_at hl 2 rfl) ?_
        refine lv_iload_n (pc := 13) hx hb dJ7_fill_d0a16_13 rfl (lv_at hl 1 rfl) ?_
        refine lv_lload_n (pc := 14) hx hb dJ7_fill_d0a16_14 rfl (lv_at hl 3 rfl) ?_
        refine g_lastore (pc := 15) hx hb hK hP hD hS 0 3 rfl rfl (n_in rfl (by first | exact (om_0 hi_2.1) | ((first | omega | (unfold zBd at *; omega)))) (by first | exact (om_434 c_5) | ((first | omega | (unfold zBd at *; omega))))) dJ7_fill_d0a16_15 (fun g_6 H locs hP hD hS => ?_)
        replace hP : va_P D gcl [(a0, .inl (cJ, 5, .inr (.inl g_6)))] H := hP
        replace hD : va_D A [(a0, .inl (cJ, 5, .inr (.inl g_6)))] := hD
        refine b_iinc (pc := 16) hx hb dJ7_fill_d0a16_16 hl (k := 1) rfl rfl tI_1 (by first | exact (om_2 hi_2.1) | ((first | omega | (unfold zBd at *; omega)))) (by first | exact (om_409 c_5) | ((first | omega | (unfold zBd at *; omega)))) (by decide) (fun x_7 ex_7 ls hl => ?_)
        replace hl : lv_has ls 5 [(3, .int x_7), (4, .int 5), (0, .ref a0), (1, .long y0)] := hl
        refine lv_goto (pc := 19) (tgt := 6) hx hb dJ7_fill_d0a16_19 (by decide) ?_
        exact ih_lp_4 x_7 g_6 _ _ ls (by first | exact (om_410 ex_7 hi_2.1 c_5) | ((first | omega | (unfold zBd at *; omega)))) (by (first | omega | (unfold zBd at *; omega))) hP hD hS (lv_sub hl [1, 0, 2, 3] rfl)
  exact lp_4 _ 0 g0 _ _ ls (n_c tI_0 (by decide)) (Nat.lt_succ_self _) hP hD hS (lv_sub hl [0, 1, 2, 3] rfl)
theorem om_1268 {a b : Int} (h0 : (a ≤ b)) (h1 : (b ≤ 4)) : (a < (5 : Nat)) := by omega
theorem om_1269 {a b c : Int} (h0 : (0 ≤ b)) (h1 : (a = c * 5)) (h2 : (0 ≤ c)) : (-2147483648 ≤ a + b) := by omega
theorem om_1270 {a b c d : Int} (h0 : (b ≤ c)) (h1 : (a = d * 5)) (h2 : (c ≤ 4)) (h3 : (d ≤ 4)) : (a + b ≤ 2147483647) := by omega
theorem om_1271 {a b c d : Int} (h0 : (a = b + c)) (h1 : (0 ≤ c)) (h2 : (b = d * 5)) (h3 : (0 ≤ d)) : (0 ≤ a) := by omega
theorem om_1272 {a b c d e : Int} (h0 : (a = b + c)) (h1 : (c ≤ d)) (h2 : (b = e * 5)) (h3 : (d ≤ 4)) (h4 : (e ≤ 4)) : (a < (25 : Nat)) := by omega
set_option maxHeartbeats 4000000 in
set_option maxRecDepth 100000 in
theorem k_X3_move (l : Launch) (D : va_G) (cB cC cI cJ : ClassId) (sz : Nat) (a0 a1 a2 a3 a4 a5 a6 a7 a8 a9 a10 a11 a12 a13 : Nat) (x0 x1 x2 : Int32) (y0 y1 y2 y3 : Int64) (g0 g1 : Nat → Int64) (hp1 : (0 ≤ x0.toInt ∧ x0.toInt ≤ 4)) (h_x1 : zBd x1.toInt 0 1) (h_x2 : zBd x2.toInt 0 4) : Met l yX3_move (.code yX3_move cX3_move 6 none :: lw_gd) ({ frames := 0, cells := 0, slots := 0, locals := 0 }) (gPre D [(cB, .byte), (cC, .char), (cI, .int), (cJ, .long)] [.ref a0, .int x0, .long y0] (zS_114 cB cC cI cJ a0 a1 a2 a3 a4 a5 a6 y1 x1 y2 y3 a6 g0 a1 a7 a8 a9 a10 a11 a12 a13 x2 a7 g1) sz) (va_Qv (fun u => (((0 ≤ x2.toInt ∧ x2.toInt ≤ 4)))) (gB D (va_A (zS_114 cB cC cI cJ a0 a1 a2 a3 a4 a5 a6 y1 x1 y2 y3 a6 g0 a1 a7 a8 a9 a10 a11 a12 a13 x2 a7 g1) sz) (fun u : gEx => (zS_114 cB cC cI cJ a0 a1 a2 a3 a4 a5 a6 (u.2.2.2.2 0) x1 y2 y3 a6 (u.2.2.1 0) a1 a7 a8 a9 a10 a11 a12 a13 x2 a7 g1))) (va_A (zS_114 cB cC cI cJ a0 a1 a2 a3 a4 a5 a6 y1 x1 y2 y3 a6 g0 a1 a7 a8 a9 a10 a11 a12 a13 x2 a7 g1) sz)) 0 0 (va_A (zS_114 cB cC cI cJ a0 a1 a2 a3 a4 a5 a6 y1 x1 y2 y3 a6 g0 a1 a7 a8 a9 a10 a11 a12 a13 x2 a7 g1) sz) := by
  refine gOf_v (by decide +kernel) (Nat.le_of_ble_eq_true rfl) ?_
  intro p e s m args below meth c ls A Q hx hb hts hown hml hN hK hP hD hA hl hret
  replace hown : s.vm.findClass RX3 = some m.cls := hown
  have hS : va_S A s.heap s.heap [] := va_S.rf
  replace hP : va_P D gcl (zS_114 cB cC cI cJ a0 a1 a2 a3 a4 a5 a6 y1 x1 y2 y3 a6 g0 a1 a7 a8 a9 a10 a11 a12 a13 x2 a7 g1) s.heap := hP
  replace hl : lv_has ls 6 [(0, .ref a0), (1, .int x0), (2, .long y0)] := hl
  have ry0 := n_rngL y0
  have ry1 := n_rngL y1
  have ry2 := n_rngL y2
  have ry3 := n_rngL y3
  refine lv_iload_n (pc := 0) hx hb dX3_move_0 rfl (lv_at hl 1 rfl) ?_
  refine lv_iconst (pc := 1) (v := 5) hx hb dX3_move_1 (by decide) ?_
  refine b_imul (pc := 2) hx hb rfl tI_5 (by first | exact (om_330 hp1.1) | ((first | omega | (unfold zBd at *; omega)))) (by first | exact (om_1160 hp1.2) | ((first | omega | (unfold zBd at *; omega)))) dX3_move_2 (fun x_1 ex_1 => ?_)
  refine lv_istore (pc := 3) (lv' := [(4, .int x_1), (0, .ref a0), (1, .int x0), (2, .long y0)]) hx hb dX3_move_3 hl (by decide) rfl (fun ls hl => ?_)
  refine lv_aload_n (pc := 5) hx hb dX3_move_5 rfl (lv_at hl 1 rfl) ?_
  refine lv_dup (pc := 6) hx hb dX3_move_6 rfl ?_
  refine va_get (pc := 7) (ci := 3) (v := .long y1) (C := RX3) (T := TX3) (N := 10) hx hb hts iX3 hown hK hP 0 rfl rfl 6 (by decide) (hts _ tw_355) (fun _ h9 => h9) rfl dX3_move_7 ?_
  refine lv_lload_n (pc := 10) hx hb dX3_move_10 rfl (lv_at hl 3 rfl) ?_
  refine lv_ldc2 (pc := 11) hx hb hown (hts _ tw_1255) dX3_move_11 ?_
  refine lv_aload_n (pc := 14) hx hb dX3_move_14 rfl (lv_at hl 1 rfl) ?_
  refine va_get (pc := 15) (ci := 3) (v := .ref a6) (C := RX3) (T := TX3) (N := 10) hx hb hts iX3 hown hK hP 0 rfl rfl 5 (by decide) (hts _ tw_354) (fun _ h9 => h9) rfl dX3_move_15 ?_
  refine lv_iload_n (pc := 18) hx hb dX3_move_18 rfl (lv_at hl 2 rfl) ?_
  refine va_lald (pc := 19) hx hb hK hP 1 3 rfl rfl (n_in rfl (by first | exact (om_0 hp1.1) | ((first | omega | (unfold zBd at *; omega)))) (by first | exact (om_1135 hp1.2) | ((first | omega | (unfold zBd at *; omega))))) dX3_move_19 ?_
  refine lv_topl (fun y_2 ey_2 => ?_)
  have ry_2 := n_rngL y_2
  refine lv_lmul (pc := 20) hx hb dX3_move_20 ?_
  refine lv_topl (fun y_3 _ => ?_)
  have ry_3 := n_rngL y_3
  refine lv_lload_n (pc := 21) hx hb dX3_move_21 rfl (lv_at hl 3 rfl) ?_
  refine lv_aload_n (pc := 22) hx hb dX3_move_22 rfl (lv_at hl 1 rfl) ?_
  refine va_get (pc := 23) (ci := 3) (v := .ref a1) (C := RX3) (T := TX3) (N := 10) hx hb hts iX3 hown hK hP 0 rfl rfl 0 (by decide) (hts _ tw_348) (fun _ h9 => h9) rfl dX3_move_23 ?_
  refine va_getN (pc := 26) (ci := 10) (v := .ref a7) (C := RX10) (T := TX10) (N := 8) hx hb hts iX10 hown hK hP 2 rfl rfl 0 (by decide) (va_Nw.use rfl (hN _ tn_208)) (fun _ h9 => h9) rfl dX3_move_26 ?_
  refine lv_iload (pc := 29) hx hb dX3_move_29 (lv_at hl 0 rfl) ?_
  refine lv_iload_n (pc := 31) hx hb dX3_move_31 rfl (lv_at hl 2 rfl) ?_
  refine b_iadd (pc := 32) hx hb rfl rfl (by first | exact (om_405 ex_1 hp1.1) | ((first | omega | (unfold zBd at *; omega)))) (by first | exact (om_1161 ex_1 hp1.2) | ((first | omega | (unfold zBd at *; omega)))) dX3_move_32 (fun x_4 ex_4 => ?_)
  refine va_lald (pc := 33) hx hb hK hP 3 3 rfl rfl (n_in rfl (by first | exact (om_407 ex_4 ex_1 hp1.1) | ((first | omega | (unfold zBd at *; omega)))) (by first | exact (om_1162 ex_4 ex_1 hp1.2) | ((first | omega | (unfold zBd at *; omega))))) dX3_move_33 ?_
  refine lv_topl (fun y_5 ey_5 => ?_)
  have ry_5 := n_rngL y_5
  refine lv_lmul (pc := 34) hx hb dX3_move_34 ?_
  refine lv_topl (fun y_6 _ => ?_)
  have ry_6 := n_rngL y_6
  refine lv_ladd (pc := 35) hx hb dX3_move_35 ?_
  refine lv_topl (fun y_7 _ => ?_)
  have ry_7 := n_rngL y_7
  refine lv_lmul (pc := 36) hx hb dX3_move_36 ?_
  refine lv_topl (fun y_8 _ => ?_)
  have ry_8 := n_rngL y_8
  refine lv_ladd (pc := 37) hx hb dX3_move_37 ?_
  refine lv_topl (fun y_9 _ => ?_)
  have ry_9 := n_rngL y_9
  refine va_put (pc := 38) (ci := 3) (v := .long y_9) (ty := .long) (C := RX3) (T := TX3) (N := 10) hx hb hts iX3 tyX3 tyX3_ok nmX3 hown hK hP hD hS 0 rfl rfl 6 (by decide) (hts _ tw_355) (fun _ h9 => h9) rfl (by decide +kernel) rfl rfl (Nat.le_of_ble_eq_true rfl) dX3_move_38 (fun H locs hP hD hS => ?_)
  replace hP : va_P D gcl (zS_114 cB cC cI cJ a0 a1 a2 a3 a4 a5 a6 y_9 x1 y2 y3 a6 g0 a1 a7 a8 a9 a10 a11 a12 a13 x2 a7 g1) H := hP
  replace hD : va_D A (zS_114 cB cC cI cJ a0 a1 a2 a3 a4 a5 a6 y_9 x1 y2 y3 a6 g0 a1 a7 a8 a9 a10 a11 a12 a13 x2 a7 g1) := hD
  refine lv_iconst (pc := 41) (v := 0) hx hb dX3_move_41 (by decide) ?_
  refine lv_istore (pc := 42) (lv' := [(5, .int 0), (4, .int x_1), (0, .ref a0), (1, .int x0), (2, .long y0)]) hx hb dX3_move_42 hl (by decide) rfl (fun ls hl => ?_)
  have lp_13 : ∀ (n : Nat) (x_10 : Int32) (g_12 : Nat → Int64) (H : Heap) (locs : List Loc) (ls : Array Slot), (0 ≤ x_10.toInt ∧ x_10.toInt ≤ 2147483647) → (2147483647 - x_10.toInt).toNat < n → va_P D gcl (zS_114 cB cC cI cJ a0 a1 a2 a3 a4 a5 a6 y_9 x1 y2 y3 a6 g_12 a1 a7 a8 a9 a10 a11 a12 a13 x2 a7 g1) H → va_D A (zS_114 cB cC cI cJ a0 a1 a2 a3 a4 a5 a6 y_9 x1 y2 y3 a6 g_12 a1 a7 a8 a9 a10 a11 a12 a13 x2 a7 g1) → va_S A s.heap H locs → lv_has ls 6 [(5, .int x_10), (4, .int x_1), (0, .ref a0), (1, .int x0), (2, .long y0)] → W p l e ({ frames := 0, cells := 0, slots := 0, locals := 0 }) s m args below meth c H locs 0 0 Q (F0 m 44 ls []) := by
    intro n
    induction n with
    | zero => intro x_10 g_12 H locs ls hi_11 hmu; exact absurd hmu (Nat.not_lt_zero _)
    | succ n ih_lp_13 =>
      intro x_10 g_12 H locs ls hi_11 hmu_lp_13 hP hD hS hl
      refine lv_iload (pc := 44) hx hb dX3_move_44 (lv_at hl 0 rfl) ?_
      refine lv_aload_n (pc := 46) hx hb dX3_move_46 rfl (lv_at hl 2 rfl) ?_
      refine va_get (pc := 47) (ci := 3) (v := .ref a1) (C := RX3) (T := TX3) (N := 10) hx hb hts iX3 hown hK hP 0 rfl rfl 0 (by decide) (hts _ tw_348) (fun _ h9 => h9) rfl dX3_move_47 ?_
      refine va_getN (pc := 50) (ci := 10) (v := .int x2) (C := RX10) (T := TX10) (N := 8) hx hb hts iX10 hown hK hP 2 rfl rfl 7 (by decide) (va_Nw.use rfl (hN _ tn_223)) (fun _ h9 => h9) rfl dX3_move_50 ?_
      refine b_icmp_gt (pc := 53) (tgt := 87) hx hb rfl rfl  dX3_move_53 (by decide) (fun c_14 => ?_) (fun c_14 => ?_)
      ·
        exact hret ((fun _ => 0), (fun _ => (fun _ => 0)), (fun k => [g_12].getD k (fun _ => 0)), (fun _ => 0), (fun k => [y_9].getD k 0)) dX3_move_87 (show (((0 ≤ x2.toInt ∧ x2.toInt ≤ 4))) from h_x2) (g_psub (wc := (zS_114 cB cC cI cJ a0 a1 a2 a3 a4 a5 a6 y_9 x1 y2 y3 a6 g_12 a1 a7 a8 a9 a10 a11 a12 a13 x2 a7 g1)) hP [0, 1, 2, 3] rfl) (hD.sub (ws' := (zS_114 cB cC cI cJ a0 a1 a2 a3 a4 a5 a6 y_9 x1 y2 y3 a6 g_12 a1 a7 a8 a9 a10 a11 a12 a13 x2 a7 g1)) [0, 1, 2, 3] (by decide) rfl) hS
      ·
        refine lv_aload_n (pc := 56) hx hb dX3_move_56 rfl (lv_at hl 2 rfl) ?_
        refine va_get (pc := 57) (ci := 3) (v := .ref a6) (C := RX3) (T := TX3) (N := 10) hx hb hts iX3 hown hK hP 0 rfl rfl 5 (by decide) (hts _ tw_354) (fun _ h9 => h9) rfl dX3_move_57 ?_
        refine lv_iload (pc := 60) hx hb dX3_move_60 (lv_at hl 0 rfl) ?_
        refine lv_dup2_11 (pc := 62) hx hb dX3_move_62 rfl rfl ?_
        refine va_lald (pc := 63) hx hb hK hP 1 3 rfl rfl (n_in rfl (by first | exact (om_0 hi_11.1) | ((first | omega | (unfold zBd at *; omega)))) (by first | exact (om_1268 c_14 h_x2.2) | ((first | omega | (unfold zBd at *; omega))))) dX3_move_63 ?_
        refine lv_topl (fun y_15 ey_15 => ?_)
        have ry_15 := n_rngL y_15
        refine lv_lload_n (pc := 64) hx hb dX3_move_64 rfl (lv_at hl 4 rfl) ?_
        refine lv_aload_n (pc := 65) hx hb dX3_move_65 rfl (lv_at hl 2 rfl) ?_
        refine va_get (pc := 66) (ci := 3) (v := .ref a1) (C := RX3) (T := TX3) (N := 10) hx hb hts iX3 hown hK hP 0 rfl rfl 0 (by decide) (hts _ tw_348) (fun _ h9 => h9) rfl dX3_move_66 ?_
        refine va_getN (pc := 69) (ci := 10) (v := .ref a7) (C := RX10) (T := TX10) (N := 8) hx hb hts iX10 hown hK hP 2 rfl rfl 0 (by decide) (va_Nw.use rfl (hN _ tn_208)) (fun _ h9 => h9) rfl dX3_move_69 ?_
        refine lv_iload (pc := 72) hx hb dX3_move_72 (lv_at hl 1 rfl) ?_
        refine lv_iload (pc := 74) hx hb dX3_move_74 (lv_at hl 0 rfl) ?_
        refine b_iadd (pc := 76) hx hb rfl rfl (by first | exact (om_1269 hi_11.1 ex_1 hp1.1) | ((first | omega | (unfold zBd at *; omega)))) (by first | exact (om_1270 c_14 ex_1 h_x2.2 hp1.2) | ((first | omega | (unfold zBd at *; omega)))) dX3_move_76 (fun x_16 ex_16 => ?_)
        refine va_lald (pc := 77) hx hb hK hP 3 3 rfl rfl (n_in rfl (by first | exact (om_1271 ex_16 hi_11.1 ex_1 hp1.1) | ((first | omega | (unfold zBd at *; omega)))) (by first | exact (om_1272 ex_16 c_14 ex_1 h_x2.2 hp1.2) | ((first | omega | (unfold zBd at *; omega))))) dX3_move_77 ?_
        refine lv_topl (fun y_17 ey_17 => ?_)
        have ry_17 := n_rngL y_17
        refine lv_lmul (pc := 78) hx hb dX3_move_78 ?_
        refine lv_topl (fun y_18 _ => ?_)
        have ry_18 := n_rngL y_18
        refine lv_ladd (pc := 79) hx hb dX3_move_79 ?_
        refine lv_topl (fun y_19 _ => ?_)
        have ry_19 := n_rngL y_19
        refine g_lastore (pc := 80) hx hb hK hP hD hS 1 3 rfl rfl (n_in rfl (by first | exact (om_0 hi_11.1) | ((first | omega | (unfold zBd at *; omega)))) (by first | exact (om_1268 c_14 h_x2.2) | ((first | omega | (unfold zBd at *; omega))))) dX3_move_80 (fun g_20 H locs hP hD hS => ?_)
        replace hP : va_P D gcl (zS_114 cB cC cI cJ a0 a1 a2 a3 a4 a5 a6 y_9 x1 y2 y3 a6 g_20 a1 a7 a8 a9 a10 a11 a12 a13 x2 a7 g1) H := hP
        replace hD : va_D A (zS_114 cB cC cI cJ a0 a1 a2 a3 a4 a5 a6 y_9 x1 y2 y3 a6 g_20 a1 a7 a8 a9 a10 a11 a12 a13 x2 a7 g1) := hD
        refine b_iinc (pc := 81) hx hb dX3_move_81 hl (k := 0) rfl rfl tI_1 (by first | exact (om_2 hi_11.1) | ((first | omega | (unfold zBd at *; omega)))) (by first | exact (om_1132 c_14 h_x2.2) | ((first | omega | (unfold zBd at *; omega)))) (by decide) (fun x_21 ex_21 ls hl => ?_)
        replace hl : lv_has ls 6 [(5, .int x_21), (4, .int x_1), (0, .ref a0), (1, .int x0), (2, .long y0)] := hl
        refine lv_goto (pc := 84) (tgt := 44) hx hb dX3_move_84 (by decide) ?_
        exact ih_lp_13 x_21 g_20 _ _ ls (by first | exact (om_1133 ex_21 hi_11.1 c_14 h_x2.2) | ((first | omega | (unfold zBd at *; omega)))) (by (first | omega | (unfold zBd at *; omega))) hP hD hS (lv_sub hl [0, 1, 2, 3, 4] rfl)
  exact lp_13 _ 0 g0 _ _ ls (n_c tI_0 (by decide)) (Nat.lt_succ_self _) hP hD hS (lv_sub hl [0, 1, 2, 3, 4] rfl)
set_option maxHeartbeats 4000000 in
set_option maxRecDepth 100000 in
theorem k_X3_startTrying (l : Launch) (D : va_G) (cB cC cI cJ : ClassId) (sz : Nat) (a0 a1 a2 a3 a4 a5 a6 a7 a8 a9 a10 a11 a12 a13 a14 a15 a16 a17 : Nat) (x0 x1 x2 x3 x4 x5 x6 x7 x8 : Int32) (y0 y1 y2 : Int64) (f0 f1 : Nat → Int32) (g0 g1 : Nat → Int64) (h_x0 : zBd x0.toInt 0 1) (h_x1 : zBd x1.toInt (-1) 8) (h_x2 : zBd x2.toInt (-1) 5) (h_x3 : zBd x3.toInt (-1) 6) (h_x4 : zBd x4.toInt 0 6) (h_x5 : zBd x5.toInt 0 16) (h_x8 : zBd x8.toInt 0 4) : Met l yX3_startTrying (.code yX3_startTrying cX3_startTrying 3 none :: lw_gd) ({ frames := 1, cells := 0, slots := 0, locals := 25 }) (gPre D [(cB, .byte), (cC, .char), (cI, .int), (cJ, .long)] [.ref a0, .ref a1] (zS_115 cB cC cI cJ a0 a2 a3 a4 a5 a6 a7 y0 x0 y1 y2 a6 f0 a7 g0 a1 a8 a9 a10 x1 x2 x3 x4 x5 x6 x7 a5 f1 a2 a11 a12 a13 a14 a15 a16 a17 x8 a11 g1) sz) (va_Qv (fun u => ((((-1) ≤ x2.toInt ∧ x2.toInt ≤ 5)))) (gB D (va_A (zS_115 cB cC cI cJ a0 a2 a3 a4 a5 a6 a7 y0 x0 y1 y2 a6 f0 a7 g0 a1 a8 a9 a10 x1 x2 x3 x4 x5 x6 x7 a5 f1 a2 a11 a12 a13 a14 a15 a16 a17 x8 a11 g1) sz) (fun u : gEx => (zS_115 cB cC cI cJ a0 a2 a3 a4 a5 a6 a7 (u.2.2.2.2 0) x0 y1 y2 a6 (u.2.1 0) a7 (u.2.2.1 0) a1 a8 a9 a10 x1 x2 x3 x4 x5 x6 x7 a5 (u.2.1 1) a2 a11 a12 a13 a14 a15 a16 a17 x8 a11 g1))) (va_A (zS_115 cB cC cI cJ a0 a2 a3 a4 a5 a6 a7 y0 x0 y1 y2 a6 f0 a7 g0 a1 a8 a9 a10 x1 x2 x3 x4 x5 x6 x7 a5 f1 a2 a11 a12 a13 a14 a15 a16 a17 x8 a11 g1) sz)) 0 0 (va_A (zS_115 cB cC cI cJ a0 a2 a3 a4 a5 a6 a7 y0 x0 y1 y2 a6 f0 a7 g0 a1 a8 a9 a10 x1 x2 x3 x4 x5 x6 x7 a5 f1 a2 a11 a12 a13 a14 a15 a16 a17 x8 a11 g1) sz) := by
  refine gOf_v (by decide +kernel) (Nat.le_of_ble_eq_true rfl) ?_
  intro p e s m args below meth c ls A Q hx hb hts hown hml hN hK hP hD hA hl hret
  replace hown : s.vm.findClass RX3 = some m.cls := hown
  have hS : va_S A s.heap s.heap [] := va_S.rf
  replace hP : va_P D gcl (zS_115 cB cC cI cJ a0 a2 a3 a4 a5 a6 a7 y0 x0 y1 y2 a6 f0 a7 g0 a1 a8 a9 a10 x1 x2 x3 x4 x5 x6 x7 a5 f1 a2 a11 a12 a13 a14 a15 a16 a17 x8 a11 g1) s.heap := hP
  replace hl : lv_has ls 3 [(0, .ref a0), (1, .ref a1)] := hl
  have ry0 := n_rngL y0
  have ry1 := n_rngL y1
  have ry2 := n_rngL y2
  have rx6 : zBd x6.toInt (-2147483648) 2147483647 := n_rng x6
  have rx7 : zBd x7.toInt (-2147483648) 2147483647 := n_rng x7
  refine lv_aload_n (pc := 0) hx hb dX3_startTrying_0 rfl (lv_at hl 0 rfl) ?_
  refine va_get (pc := 1) (ci := 3) (v := .ref a6) (C := RX3) (T := TX3) (N := 10) hx hb hts iX3 hown hK hP 0 rfl rfl 4 (by decide) (hts _ tw_353) (fun _ h9 => h9) rfl dX3_startTrying_1 ?_
  refine lv_iconst (pc := 4) (v := 0) hx hb dX3_startTrying_4 (by decide) ?_
  refine gd_v (pc := 5) (wc := [(a6, .inl (cI, 5, .inl f0))]) hP hD hS hA [1] rfl (by decide +kernel) (fun _ => by rfl) (fun hPc hDc => va_runS (As := [.ref a6, .int 0]) (rest := []) ⟨hx, hb, hml, hown, hts⟩ (k_J7_fill_53178_5 l D cB cC cI cJ _ a6 0 f0) ⟨gcwB hts tw_505 tw_10 tw_1249 hd_yJ7_fill_53178 ⟨Nat.le_of_ble_eq_true rfl, Nat.le_of_ble_eq_true rfl⟩, hts _ tw_504⟩ (gpreS hPc hK hDc hN) rfl rfl hl.1 rfl (lv_room (Nat.le_of_ble_eq_true rfl)) dX3_startTrying_5 ⟨Nat.le_of_ble_eq_true rfl, Nat.le_of_ble_eq_true rfl⟩) (fun u_1 H locs hw_3 hP hD hS => ?_)
  replace hP : va_P D gcl (zS_115 cB cC cI cJ a0 a2 a3 a4 a5 a6 a7 y0 x0 y1 y2 a6 (u_1.2.1 0) a7 g0 a1 a8 a9 a10 x1 x2 x3 x4 x5 x6 x7 a5 f1 a2 a11 a12 a13 a14 a15 a16 a17 x8 a11 g1) H := hP
  replace hD : va_D A (zS_115 cB cC cI cJ a0 a2 a3 a4 a5 a6 a7 y0 x0 y1 y2 a6 (u_1.2.1 0) a7 g0 a1 a8 a9 a10 x1 x2 x3 x4 x5 x6 x7 a5 f1 a2 a11 a12 a13 a14 a15 a16 a17 x8 a11 g1) := hD
  refine lv_aload_n (pc := 8) hx hb dX3_startTrying_8 rfl (lv_at hl 0 rfl) ?_
  refine va_get (pc := 9) (ci := 3) (v := .ref a7) (C := RX3) (T := TX3) (N := 10) hx hb hts iX3 hown hK hP 0 rfl rfl 5 (by decide) (hts _ tw_354) (fun _ h9 => h9) rfl dX3_startTrying_9 ?_
  refine lv_lconst (pc := 12) (v := 0) hx hb dX3_startTrying_12 (by decide) ?_
  refine gd_v (pc := 13) (wc := [(a7, .inl (cJ, 5, .inr (.inl g0)))]) hP hD hS hA [2] rfl (by decide +kernel) (fun _ => by rfl) (fun hPc hDc => va_runS (As := [.ref a7, .long 0]) (rest := []) ⟨hx, hb, hml, hown, hts⟩ (k_J7_fill_d0a16_5 l D cB cC cI cJ _ a7 0 g0) ⟨gcwB hts tw_292 tw_10 tw_1250 hd_yJ7_fill_d0a16 ⟨Nat.le_of_ble_eq_true rfl, Nat.le_of_ble_eq_true rfl⟩, hts _ tw_291⟩ (gpreS hPc hK hDc hN) rfl rfl hl.1 rfl (lv_room (Nat.le_of_ble_eq_true rfl)) dX3_startTrying_13 ⟨Nat.le_of_ble_eq_true rfl, Nat.le_of_ble_eq_true rfl⟩) (fun u_4 H locs hw_6 hP hD hS => ?_)
  replace hP : va_P D gcl (zS_115 cB cC cI cJ a0 a2 a3 a4 a5 a6 a7 y0 x0 y1 y2 a6 (u_1.2.1 0) a7 (u_4.2.2.1 0) a1 a8 a9 a10 x1 x2 x3 x4 x5 x6 x7 a5 f1 a2 a11 a12 a13 a14 a15 a16 a17 x8 a11 g1) H := hP
  replace hD : va_D A (zS_115 cB cC cI cJ a0 a2 a3 a4 a5 a6 a7 y0 x0 y1 y2 a6 (u_1.2.1 0) a7 (u_4.2.2.1 0) a1 a8 a9 a10 x1 x2 x3 x4 x5 x6 x7 a5 f1 a2 a11 a12 a13 a14 a15 a16 a17 x8 a11 g1) := hD
  refine lv_aload_n (pc := 16) hx hb dX3_startTrying_16 rfl (lv_at hl 0 rfl) ?_
  refine lv_lconst (pc := 17) (v := 0) hx hb dX3_startTrying_17 (by decide) ?_
  refine va_put (pc := 18) (ci := 3) (v := .long 0) (ty := .long) (C := RX3) (T := TX3) (N := 10) hx hb hts iX3 tyX3 tyX3_ok nmX3 hown hK hP hD hS 0 rfl rfl 6 (by decide) (hts _ tw_355) (fun _ h9 => h9) rfl (by decide +kernel) (by decide +kernel) (by decide +kernel) (Nat.le_of_ble_eq_true rfl) dX3_startTrying_18 (fun H locs hP hD hS => ?_)
  replace hP : va_P D gcl (zS_115 cB cC cI cJ a0 a2 a3 a4 a5 a6 a7 0 x0 y1 y2 a6 (u_1.2.1 0) a7 (u_4.2.2.1 0) a1 a8 a9 a10 x1 x2 x3 x4 x5 x6 x7 a5 f1 a2 a11 a12 a13 a14 a15 a16 a17 x8 a11 g1) H := hP
  replace hD : va_D A (zS_115 cB cC cI cJ a0 a2 a3 a4 a5 a6 a7 0 x0 y1 y2 a6 (u_1.2.1 0) a7 (u_4.2.2.1 0) a1 a8 a9 a10 x1 x2 x3 x4 x5 x6 x7 a5 f1 a2 a11 a12 a13 a14 a15 a16 a17 x8 a11 g1) := hD
  refine lv_iconst (pc := 21) (v := 0) hx hb dX3_startTrying_21 (by decide) ?_
  refine lv_istore_n (pc := 22) (lv' := [(2, .int 0), (0, .ref a0), (1, .ref a1)]) hx hb dX3_startTrying_22 rfl hl (by decide) rfl (fun ls hl => ?_)
  have lp_13 : ∀ (n : Nat) (x_7 : Int32) (y_9 : Int64) (f_12 : Nat → Int32) (g_11 : Nat → Int64) (H : Heap) (locs : List Loc) (ls : Array Slot), (0 ≤ x_7.toInt ∧ x_7.toInt ≤ 2147483647) → (2147483647 - x_7.toInt).toNat < n → va_P D gcl (zS_115 cB cC cI cJ a0 a2 a3 a4 a5 a6 a7 y_9 x0 y1 y2 a6 (u_1.2.1 0) a7 g_11 a1 a8 a9 a10 x1 x2 x3 x4 x5 x6 x7 a5 f_12 a2 a11 a12 a13 a14 a15 a16 a17 x8 a11 g1) H → va_D A (zS_115 cB cC cI cJ a0 a2 a3 a4 a5 a6 a7 y_9 x0 y1 y2 a6 (u_1.2.1 0) a7 g_11 a1 a8 a9 a10 x1 x2 x3 x4 x5 x6 x7 a5 f_12 a2 a11 a12 a13 a14 a15 a16 a17 x8 a11 g1) → va_S A s.heap H locs → lv_has ls 3 [(2, .int x_7), (0, .ref a0), (1, .ref a1)] → W p l e ({ frames := 1, cells := 0, slots := 0, locals := 25 }) s m args below meth c H locs 0 0 Q (F0 m 23 ls []) := by
    intro n
    induction n with
    | zero => intro x_7 y_9 f_12 g_11 H locs ls hi_8 hmu; exact absurd hmu (Nat.not_lt_zero _)
    | succ n ih_lp_13 =>
      intro x_7 y_9 f_12 g_11 H locs ls hi_8 hmu_lp_13 hP hD hS hl
      have hi_10 := n_rngL y_9
      refine lv_iload_n (pc := 23) hx hb dX3_startTrying_23 rfl (lv_at hl 0 rfl) ?_
      refine lv_aload_n (pc := 24) hx hb dX3_startTrying_24 rfl (lv_at hl 2 rfl) ?_
      refine va_getN (pc := 25) (ci := 1) (v := .int x2) (C := RX1) (T := TX1) (N := 10) hx hb hts iX1 hown hK hP 3 rfl rfl 4 (by decide) (va_Nw.use rfl (hN _ tn_122)) (fun _ h9 => h9) rfl dX3_startTrying_25 ?_
      refine b_icmp_ge (pc := 28) (tgt := 61) hx hb rfl rfl  dX3_startTrying_28 (by decide) (fun c_14 => ?_) (fun c_14 => ?_)
      ·
        exact hret ((fun _ => 0), (fun k => [(u_1.2.1 0), f_12].getD k (fun _ => 0)), (fun k => [g_11].getD k (fun _ => 0)), (fun _ => 0), (fun k => [y_9].getD k 0)) dX3_startTrying_61 (show ((((-1) ≤ x2.toInt ∧ x2.toInt ≤ 5))) from h_x2) (g_psub (wc := (zS_115 cB cC cI cJ a0 a2 a3 a4 a5 a6 a7 y_9 x0 y1 y2 a6 (u_1.2.1 0) a7 g_11 a1 a8 a9 a10 x1 x2 x3 x4 x5 x6 x7 a5 f_12 a2 a11 a12 a13 a14 a15 a16 a17 x8 a11 g1)) hP [0, 1, 2, 3, 4, 5, 6] rfl) (hD.sub (ws' := (zS_115 cB cC cI cJ a0 a2 a3 a4 a5 a6 a7 y_9 x0 y1 y2 a6 (u_1.2.1 0) a7 g_11 a1 a8 a9 a10 x1 x2 x3 x4 x5 x6 x7 a5 f_12 a2 a11 a12 a13 a14 a15 a16 a17 x8 a11 g1)) [0, 1, 2, 3, 4, 5, 6] (by decide) rfl) hS
      ·
        refine lv_aload_n (pc := 31) hx hb dX3_startTrying_31 rfl (lv_at hl 1 rfl) ?_
        refine va_get (pc := 32) (ci := 3) (v := .ref a5) (C := RX3) (T := TX3) (N := 10) hx hb hts iX3 hown hK hP 0 rfl rfl 3 (by decide) (hts _ tw_352) (fun _ h9 => h9) rfl dX3_startTrying_32 ?_
        refine lv_iload_n (pc := 35) hx hb dX3_startTrying_35 rfl (lv_at hl 0 rfl) ?_
        refine lv_iconst (pc := 36) (v := 1) hx hb dX3_startTrying_36 (by decide) ?_
        refine lv_aload_n (pc := 37) hx hb dX3_startTrying_37 rfl (lv_at hl 2 rfl) ?_
        refine va_getN (pc := 38) (ci := 1) (v := .int x1) (C := RX1) (T := TX1) (N := 10) hx hb hts iX1 hown hK hP 3 rfl rfl 3 (by decide) (va_Nw.use rfl (hN _ tn_113)) (fun _ h9 => h9) rfl dX3_startTrying_38 ?_
        refine b_isub (pc := 41) hx hb tI_1 rfl (by first | exact (om_1220 h_x1.2) | ((first | omega | (unfold zBd at *; omega)))) (by first | exact (om_1221 h_x1.1) | ((first | omega | (unfold zBd at *; omega)))) dX3_startTrying_41 (fun x_15 ex_15 => ?_)
        refine g_iastore (pc := 42) hx hb hK hP hD hS 4 2 rfl rfl (n_in rfl (by first | exact (om_0 hi_8.1) | ((first | omega | (unfold zBd at *; omega)))) (by first | exact (om_1020 c_14 h_x2.2) | ((first | omega | (unfold zBd at *; omega))))) dX3_startTrying_42 (fun f_16 H locs hP hD hS => ?_)
        replace hP : va_P D gcl (zS_115 cB cC cI cJ a0 a2 a3 a4 a5 a6 a7 y_9 x0 y1 y2 a6 (u_1.2.1 0) a7 g_11 a1 a8 a9 a10 x1 x2 x3 x4 x5 x6 x7 a5 f_16 a2 a11 a12 a13 a14 a15 a16 a17 x8 a11 g1) H := hP
        replace hD : va_D A (zS_115 cB cC cI cJ a0 a2 a3 a4 a5 a6 a7 y_9 x0 y1 y2 a6 (u_1.2.1 0) a7 g_11 a1 a8 a9 a10 x1 x2 x3 x4 x5 x6 x7 a5 f_16 a2 a11 a12 a13 a14 a15 a16 a17 x8 a11 g1) := hD
        refine lv_aload_n (pc := 43) hx hb dX3_startTrying_43 rfl (lv_at hl 1 rfl) ?_
        refine lv_iload_n (pc := 44) hx hb dX3_startTrying_44 rfl (lv_at hl 0 rfl) ?_
        refine lv_aload_n (pc := 45) hx hb dX3_startTrying_45 rfl (lv_at hl 1 rfl) ?_
        refine va_get (pc := 46) (ci := 3) (v := .ref a5) (C := RX3) (T := TX3) (N := 10) hx hb hts iX3 hown hK hP 0 rfl rfl 3 (by decide) (hts _ tw_352) (fun _ h9 => h9) rfl dX3_startTrying_46 ?_
        refine lv_iload_n (pc := 49) hx hb dX3_startTrying_49 rfl (lv_at hl 0 rfl) ?_
        refine va_iald (pc := 50) hx hb hK hP 4 2 rfl rfl (n_in rfl (by first | exact (om_0 hi_8.1) | ((first | omega | (unfold zBd at *; omega)))) (by first | exact (om_1020 c_14 h_x2.2) | ((first | omega | (unfold zBd at *; omega))))) dX3_startTrying_50 ?_
        refine lv_topi (fun x_17 ex_17 => ?_)
        have rx_17 : zBd x_17.toInt (-2147483648) 2147483647 := n_rng x_17
        refine b_i2l (pc := 51) hx hb rfl dX3_startTrying_51 (fun y_18 ey_18 => ?_)
        have ry_18 : zBd x_17.toInt (-2147483648) 2147483647 := n_rng x_17
        refine gd_v (pc := 52) (wc := (zS_114 cB cC cI cJ a0 a2 a3 a4 a5 a6 a7 y_9 x0 y1 y2 a7 g_11 a2 a11 a12 a13 a14 a15 a16 a17 x8 a11 g1)) hP hD hS hA [0, 2, 5, 6] rfl (by decide +kernel) (fun _ => by rfl) (fun hPc hDc => va_runV (As := [.int x_7, .long y_18]) (rest := []) ⟨hx, hb, hml, hown, hts⟩ (k_X3_move l D cB cC cI cJ _ a0 a2 a3 a4 a5 a6 a7 a11 a12 a13 a14 a15 a16 a17 x_7 x0 x8 y_18 y_9 y1 y2 g_11 g1 (by first | exact (om_360 hi_8.1 c_14 h_x2.2) | ((first | omega | (unfold zBd at *; omega)))) h_x0 h_x8) ⟨gcwB hts tw_1254 tw_12 tw_1251 hd_yX3_move ⟨Nat.le_of_ble_eq_true rfl, Nat.le_of_ble_eq_true rfl⟩, hts _ tw_1253, hts _ tp_49⟩ ⟨gblind, va_recv hK hPc (ci := 3) (q0 := 0) rfl rfl, (gpreS hPc hK hDc hN).2⟩ rfl rfl hl.1 rfl (lv_room (Nat.le_of_ble_eq_true rfl)) dX3_startTrying_52 ⟨Nat.le_of_ble_eq_true rfl, Nat.le_of_ble_eq_true rfl⟩) (fun u_19 H locs hw_21 hP hD hS => ?_)
        replace hP : va_P D gcl (zS_115 cB cC cI cJ a0 a2 a3 a4 a5 a6 a7 (u_19.2.2.2.2 0) x0 y1 y2 a6 (u_1.2.1 0) a7 (u_19.2.2.1 0) a1 a8 a9 a10 x1 x2 x3 x4 x5 x6 x7 a5 f_16 a2 a11 a12 a13 a14 a15 a16 a17 x8 a11 g1) H := hP
        replace hD : va_D A (zS_115 cB cC cI cJ a0 a2 a3 a4 a5 a6 a7 (u_19.2.2.2.2 0) x0 y1 y2 a6 (u_1.2.1 0) a7 (u_19.2.2.1 0) a1 a8 a9 a10 x1 x2 x3 x4 x5 x6 x7 a5 f_16 a2 a11 a12 a13 a14 a15 a16 a17 x8 a11 g1) := hD
        have ru_19_0 := n_rngL (u_19.2.2.2.2 0)
        have hw_22 : (((0 ≤ x8.toInt ∧ x8.toInt ≤ 4))) := hw_21
        refine b_iinc (pc := 55) hx hb dX3_startTrying_55 hl (k := 0) rfl rfl tI_1 (by first | exact (om_2 hi_8.1) | ((first | omega | (unfold zBd at *; omega)))) (by first | exact (om_338 c_14 h_x2.2) | ((first | omega | (unfold zBd at *; omega)))) (by decide) (fun x_23 ex_23 ls hl => ?_)
        replace hl : lv_has ls 3 [(2, .int x_23), (0, .ref a0), (1, .ref a1)] := hl
        refine lv_goto (pc := 58) (tgt := 23) hx hb dX3_startTrying_58 (by decide) ?_
        exact ih_lp_13 x_23 (u_19.2.2.2.2 0) f_16 (u_19.2.2.1 0) _ _ ls (by first | exact (om_339 ex_23 hi_8.1 c_14 h_x2.2) | ((first | omega | (unfold zBd at *; omega)))) (by (first | omega | (unfold zBd at *; omega))) hP hD hS (lv_sub hl [0, 1, 2] rfl)
  exact lp_13 _ 0 0 f1 (u_4.2.2.1 0) _ _ ls (n_c tI_0 (by decide)) (Nat.lt_succ_self _) hP hD hS (lv_sub hl [0, 1, 2] rfl)
theorem om_1273 {a b : Int} (h0 : (a = b)) (h1 : ((-2147483648) ≤ b)) : (-9223372036854775808 ≤ 1 * a) := by omega
theorem om_1274 {a b : Int} (h0 : (a = b)) (h1 : (b ≤ 2147483647)) : (1 * a ≤ 9223372036854775807) := by omega
theorem om_1275 {a b : Int} (h0 : (a = b)) (h1 : (b ≤ 2147483647)) : (-9223372036854775808 ≤ (-1) * a) := by omega
theorem om_1276 {a b : Int} (h0 : (a = b)) (h1 : ((-2147483648) ≤ b)) : ((-1) * a ≤ 9223372036854775807) := by omega
set_option maxHeartbeats 4000000 in
set_option maxRecDepth 100000 in
theorem k_X3_better (l : Launch) (D : va_G) (cB cC cI cJ : ClassId) (sz : Nat) (a0 a1 a2 a3 a4 a5 a6 a7 a8 a9 a10 a11 a12 a13 : Nat) (x0 x1 x2 x3 : Int32) (y0 y1 y2 : Int64) (f0 : Nat → Int32) (g0 g1 : Nat → Int64) (hp1 : (0 ≤ x0.toInt ∧ x0.toInt ≤ 4)) (h_x2 : zBd x2.toInt 0 1) (h_x3 : zBd x3.toInt 0 4) : Met l yX3_better (.code yX3_better cX3_better 6 none :: lw_gd) ({ frames := 1, cells := 0, slots := 0, locals := 25 }) (gPre D [(cB, .byte), (cC, .char), (cI, .int), (cJ, .long)] [.ref a0, .int x0, .int x1] (zS_64 cB cC cI cJ a0 a1 a2 a3 a4 a5 a6 y0 x2 y1 y2 a6 g0 a5 f0 a1 a7 a8 a9 a10 a11 a12 a13 x3 a7 g1) sz) (va_Qv (fun u => True) (gB D (va_A (zS_64 cB cC cI cJ a0 a1 a2 a3 a4 a5 a6 y0 x2 y1 y2 a6 g0 a5 f0 a1 a7 a8 a9 a10 a11 a12 a13 x3 a7 g1) sz) (fun u : gEx => (zS_64 cB cC cI cJ a0 a1 a2 a3 a4 a5 a6 (u.2.2.2.2 0) x2 y1 y2 a6 (u.2.2.1 0) a5 (u.2.1 0) a1 a7 a8 a9 a10 a11 a12 a13 x3 a7 g1))) (va_A (zS_64 cB cC cI cJ a0 a1 a2 a3 a4 a5 a6 y0 x2 y1 y2 a6 g0 a5 f0 a1 a7 a8 a9 a10 a11 a12 a13 x3 a7 g1) sz)) 0 0 (va_A (zS_64 cB cC cI cJ a0 a1 a2 a3 a4 a5 a6 y0 x2 y1 y2 a6 g0 a5 f0 a1 a7 a8 a9 a10 a11 a12 a13 x3 a7 g1) sz) := by
  refine gOf_v (by decide +kernel) (Nat.le_of_ble_eq_true rfl) ?_
  intro p e s m args below meth c ls A Q hx hb hts hown hml hN hK hP hD hA hl hret
  replace hown : s.vm.findClass RX3 = some m.cls := hown
  have hS : va_S A s.heap s.heap [] := va_S.rf
  replace hP : va_P D gcl (zS_64 cB cC cI cJ a0 a1 a2 a3 a4 a5 a6 y0 x2 y1 y2 a6 g0 a5 f0 a1 a7 a8 a9 a10 a11 a12 a13 x3 a7 g1) s.heap := hP
  replace hl : lv_has ls 6 [(0, .ref a0), (1, .int x0), (2, .int x1)] := hl
  have rx1 : zBd x1.toInt (-2147483648) 2147483647 := n_rng x1
  have ry0 := n_rngL y0
  have ry1 := n_rngL y1
  have ry2 := n_rngL y2
  refine lv_aload_n (pc := 0) hx hb dX3_better_0 rfl (lv_at hl 0 rfl) ?_
  refine va_get (pc := 1) (ci := 3) (v := .ref a6) (C := RX3) (T := TX3) (N := 10) hx hb hts iX3 hown hK hP 0 rfl rfl 5 (by decide) (hts _ tw_354) (fun _ h9 => h9) rfl dX3_better_1 ?_
  refine lv_iload_n (pc := 4) hx hb dX3_better_4 rfl (lv_at hl 1 rfl) ?_
  refine va_lald (pc := 5) hx hb hK hP 1 3 rfl rfl (n_in rfl (by first | exact (om_0 hp1.1) | ((first | omega | (unfold zBd at *; omega)))) (by first | exact (om_1135 hp1.2) | ((first | omega | (unfold zBd at *; omega))))) dX3_better_5 ?_
  refine lv_topl (fun y_1 ey_1 => ?_)
  have ry_1 := n_rngL y_1
  refine lv_lconst (pc := 6) (v := 0) hx hb dX3_better_6 (by decide) ?_
  refine b_lcmp_le (pc := 7) (tgt := 15) hx hb rfl tL_0 dX3_better_7 dX3_better_8 (by decide) (fun c_2 => ?_) (fun c_2 => ?_)
  ·
    refine lv_iconst (pc := 15) (v := 1) hx hb dX3_better_15 (by decide) ?_
    refine lv_istore_n (pc := 16) (lv' := [(3, .int 1), (0, .ref a0), (1, .int x0), (2, .int x1)]) hx hb dX3_better_16 rfl hl (by decide) rfl (fun ls hl => ?_)
    refine lv_aload_n (pc := 17) hx hb dX3_better_17 rfl (lv_at hl 1 rfl) ?_
    refine va_get (pc := 18) (ci := 3) (v := .ref a5) (C := RX3) (T := TX3) (N := 10) hx hb hts iX3 hown hK hP 0 rfl rfl 4 (by decide) (hts _ tw_353) (fun _ h9 => h9) rfl dX3_better_18 ?_
    refine lv_iload_n (pc := 21) hx hb dX3_better_21 rfl (lv_at hl 2 rfl) ?_
    refine va_iald (pc := 22) hx hb hK hP 2 2 rfl rfl (n_in rfl (by first | exact (om_0 hp1.1) | ((first | omega | (unfold zBd at *; omega)))) (by first | exact (om_1135 hp1.2) | ((first | omega | (unfold zBd at *; omega))))) dX3_better_22 ?_
    refine lv_topi (fun x_3 ex_3 => ?_)
    have rx_3 : zBd x_3.toInt (-2147483648) 2147483647 := n_rng x_3
    refine lv_iload_n (pc := 23) hx hb dX3_better_23 rfl (lv_at hl 0 rfl) ?_
    refine lv_iadd (pc := 24) hx hb dX3_better_24 ?_
    refine lv_topi (fun x_4 _ => ?_)
    have rx_4 : zBd x_4.toInt (-2147483648) 2147483647 := n_rng x_4
    refine lv_iconst (pc := 25) (v := (-1)) hx hb dX3_better_25 (by decide) ?_
    refine b_icmp_lt (pc := 26) (tgt := 41) hx hb rfl tI_m1  dX3_better_26 (by decide) (fun c_5 => ?_) (fun c_5 => ?_)
    ·
      exact hret ((fun _ => 0), (fun k => [f0].getD k (fun _ => 0)), (fun k => [g0].getD k (fun _ => 0)), (fun _ => 0), (fun k => [y0].getD k 0)) dX3_better_41 trivial (g_psub (wc := (zS_64 cB cC cI cJ a0 a1 a2 a3 a4 a5 a6 y0 x2 y1 y2 a6 g0 a5 f0 a1 a7 a8 a9 a10 a11 a12 a13 x3 a7 g1)) hP [0, 1, 2, 3, 4] rfl) (hD.sub (ws' := (zS_64 cB cC cI cJ a0 a1 a2 a3 a4 a5 a6 y0 x2 y1 y2 a6 g0 a5 f0 a1 a7 a8 a9 a10 a11 a12 a13 x3 a7 g1)) [0, 1, 2, 3, 4] (by decide) rfl) hS
    ·
      refine lv_aload_n (pc := 29) hx hb dX3_better_29 rfl (lv_at hl 1 rfl) ?_
      refine va_get (pc := 30) (ci := 3) (v := .ref a5) (C := RX3) (T := TX3) (N := 10) hx hb hts iX3 hown hK hP 0 rfl rfl 4 (by decide) (hts _ tw_353) (fun _ h9 => h9) rfl dX3_better_30 ?_
      refine lv_iload_n (pc := 33) hx hb dX3_better_33 rfl (lv_at hl 2 rfl) ?_
      refine va_iald (pc := 34) hx hb hK hP 2 2 rfl rfl (n_in rfl (by first | exact (om_0 hp1.1) | ((first | omega | (unfold zBd at *; omega)))) (by first | exact (om_1135 hp1.2) | ((first | omega | (unfold zBd at *; omega))))) dX3_better_34 ?_
      refine gI (y := x_3) ex_3.symm ?_
      refine lv_iload_n (pc := 35) hx hb dX3_better_35 rfl (lv_at hl 0 rfl) ?_
      refine lv_iadd (pc := 36) hx hb dX3_better_36 ?_
      refine lv_topi (fun x_6 _ => ?_)
      have rx_6 : zBd x_6.toInt (-2147483648) 2147483647 := n_rng x_6
      refine lv_iconst (pc := 37) (v := 1) hx hb dX3_better_37 (by decide) ?_
      refine b_icmp_le (pc := 38) (tgt := 42) hx hb rfl tI_1  dX3_better_38 (by decide) (fun c_7 => ?_) (fun c_7 => ?_)
      ·
        refine lv_iload_n (pc := 42) hx hb dX3_better_42 rfl (lv_at hl 0 rfl) ?_
        refine lv_i2l (pc := 43) (v := 1) hx hb dX3_better_43 (by decide +kernel) ?_
        refine lv_iload_n (pc := 44) hx hb dX3_better_44 rfl (lv_at hl 3 rfl) ?_
        refine b_i2l (pc := 45) hx hb rfl dX3_better_45 (fun y_8 ey_8 => ?_)
        have ry_8 : zBd x1.toInt (-2147483648) 2147483647 := n_rng x1
        refine b_lmul (pc := 46) hx hb tL_1 rfl (by first | exact (om_1273 ey_8 ry_8.1) | ((first | omega | (unfold zBd at *; omega)))) (by first | exact (om_1274 ey_8 ry_8.2) | ((first | omega | (unfold zBd at *; omega)))) dX3_better_46 (fun y_9 ey_9 => ?_)
        refine lv_lstore (pc := 47) (lv' := [(4, .long y_9), (3, .int 1), (0, .ref a0), (1, .int x0), (2, .int x1)]) hx hb dX3_better_47 hl (by decide) rfl (fun ls hl => ?_)
        refine lv_lload (pc := 49) hx hb dX3_better_49 (lv_at hl 0 rfl) ?_
        refine lv_ldc2 (pc := 51) hx hb hown (hts _ tw_1255) dX3_better_51 ?_
        refine lv_aload_n (pc := 54) hx hb dX3_better_54 rfl (lv_at hl 2 rfl) ?_
        refine va_get (pc := 55) (ci := 3) (v := .ref a6) (C := RX3) (T := TX3) (N := 10) hx hb hts iX3 hown hK hP 0 rfl rfl 5 (by decide) (hts _ tw_354) (fun _ h9 => h9) rfl dX3_better_55 ?_
        refine lv_iload_n (pc := 58) hx hb dX3_better_58 rfl (lv_at hl 3 rfl) ?_
        refine va_lald (pc := 59) hx hb hK hP 1 3 rfl rfl (n_in rfl (by first | exact (om_0 hp1.1) | ((first | omega | (unfold zBd at *; omega)))) (by first | exact (om_1135 hp1.2) | ((first | omega | (unfold zBd at *; omega))))) dX3_better_59 ?_
        refine gL (y := y_1) ey_1.symm ?_
        refine lv_lmul (pc := 60) hx hb dX3_better_60 ?_
        refine lv_topl (fun y_10 _ => ?_)
        have ry_10 := n_rngL y_10
        refine lv_lload (pc := 61) hx hb dX3_better_61 (lv_at hl 0 rfl) ?_
        refine lv_aload_n (pc := 63) hx hb dX3_better_63 rfl (lv_at hl 2 rfl) ?_
        refine va_get (pc := 64) (ci := 3) (v := .ref a1) (C := RX3) (T := TX3) (N := 10) hx hb hts iX3 hown hK hP 0 rfl rfl 0 (by decide) (hts _ tw_348) (fun _ h9 => h9) rfl dX3_better_64 ?_
        refine va_getN (pc := 67) (ci := 10) (v := .ref a7) (C := RX10) (T := TX10) (N := 8) hx hb hts iX10 hown hK hP 3 rfl rfl 0 (by decide) (va_Nw.use rfl (hN _ tn_208)) (fun _ h9 => h9) rfl dX3_better_67 ?_
        refine lv_iload_n (pc := 70) hx hb dX3_better_70 rfl (lv_at hl 3 rfl) ?_
        refine lv_iconst (pc := 71) (v := 5) hx hb dX3_better_71 (by decide) ?_
        refine b_imul (pc := 72) hx hb rfl tI_5 (by first | exact (om_330 hp1.1) | ((first | omega | (unfold zBd at *; omega)))) (by first | exact (om_1160 hp1.2) | ((first | omega | (unfold zBd at *; omega)))) dX3_better_72 (fun x_11 ex_11 => ?_)
        refine lv_iload_n (pc := 73) hx hb dX3_better_73 rfl (lv_at hl 3 rfl) ?_
        refine b_iadd (pc := 74) hx hb rfl rfl (by first | exact (om_405 ex_11 hp1.1) | ((first | omega | (unfold zBd at *; omega)))) (by first | exact (om_1161 ex_11 hp1.2) | ((first | omega | (unfold zBd at *; omega)))) dX3_better_74 (fun x_12 ex_12 => ?_)
        refine va_lald (pc := 75) hx hb hK hP 4 3 rfl rfl (n_in rfl (by first | exact (om_407 ex_12 ex_11 hp1.1) | ((first | omega | (unfold zBd at *; omega)))) (by first | exact (om_1162 ex_12 ex_11 hp1.2) | ((first | omega | (unfold zBd at *; omega))))) dX3_better_75 ?_
        refine lv_topl (fun y_13 ey_13 => ?_)
        have ry_13 := n_rngL y_13
        refine lv_lmul (pc := 76) hx hb dX3_better_76 ?_
        refine lv_topl (fun y_14 _ => ?_)
        have ry_14 := n_rngL y_14
        refine lv_ladd (pc := 77) hx hb dX3_better_77 ?_
        refine lv_topl (fun y_15 _ => ?_)
        have ry_15 := n_rngL y_15
        refine lv_lmul (pc := 78) hx hb dX3_better_78 ?_
        refine lv_topl (fun y_16 _ => ?_)
        have ry_16 := n_rngL y_16
        refine lv_lconst (pc := 79) (v := 0) hx hb dX3_better_79 (by decide) ?_
        refine b_lcmp_ge (pc := 80) (tgt := 101) hx hb rfl tL_0 dX3_better_80 dX3_better_81 (by decide) (fun c_17 => ?_) (fun c_17 => ?_)
        ·
          exact hret ((fun _ => 0), (fun k => [f0].getD k (fun _ => 0)), (fun k => [g0].getD k (fun _ => 0)), (fun _ => 0), (fun k => [y0].getD k 0)) dX3_better_101 trivial (g_psub (wc := (zS_64 cB cC cI cJ a0 a1 a2 a3 a4 a5 a6 y0 x2 y1 y2 a6 g0 a5 f0 a1 a7 a8 a9 a10 a11 a12 a13 x3 a7 g1)) hP [0, 1, 2, 3, 4] rfl) (hD.sub (ws' := (zS_64 cB cC cI cJ a0 a1 a2 a3 a4 a5 a6 y0 x2 y1 y2 a6 g0 a5 f0 a1 a7 a8 a9 a10 a11 a12 a13 x3 a7 g1)) [0, 1, 2, 3, 4] (by decide) rfl) hS
        ·
          refine lv_aload_n (pc := 84) hx hb dX3_better_84 rfl (lv_at hl 2 rfl) ?_
          refine va_get (pc := 85) (ci := 3) (v := .ref a5) (C := RX3) (T := TX3) (N := 10) hx hb hts iX3 hown hK hP 0 rfl rfl 4 (by decide) (hts _ tw_353) (fun _ h9 => h9) rfl dX3_better_85 ?_
          refine lv_iload_n (pc := 88) hx hb dX3_better_88 rfl (lv_at hl 3 rfl) ?_
          refine lv_dup2_11 (pc := 89) hx hb dX3_better_89 rfl rfl ?_
          refine va_iald (pc := 90) hx hb hK hP 2 2 rfl rfl (n_in rfl (by first | exact (om_0 hp1.1) | ((first | omega | (unfold zBd at *; omega)))) (by first | exact (om_1135 hp1.2) | ((first | omega | (unfold zBd at *; omega))))) dX3_better_90 ?_
          refine gI (y := x_3) ex_3.symm ?_
          refine lv_iload_n (pc := 91) hx hb dX3_better_91 rfl (lv_at hl 1 rfl) ?_
          refine lv_iadd (pc := 92) hx hb dX3_better_92 ?_
          refine lv_topi (fun x_18 _ => ?_)
          have rx_18 : zBd x_18.toInt (-2147483648) 2147483647 := n_rng x_18
          refine g_iastore (pc := 93) hx hb hK hP hD hS 2 2 rfl rfl (n_in rfl (by first | exact (om_0 hp1.1) | ((first | omega | (unfold zBd at *; omega)))) (by first | exact (om_1135 hp1.2) | ((first | omega | (unfold zBd at *; omega))))) dX3_better_93 (fun f_19 H locs hP hD hS => ?_)
          replace hP : va_P D gcl (zS_64 cB cC cI cJ a0 a1 a2 a3 a4 a5 a6 y0 x2 y1 y2 a6 g0 a5 f_19 a1 a7 a8 a9 a10 a11 a12 a13 x3 a7 g1) H := hP
          replace hD : va_D A (zS_64 cB cC cI cJ a0 a1 a2 a3 a4 a5 a6 y0 x2 y1 y2 a6 g0 a5 f_19 a1 a7 a8 a9 a10 a11 a12 a13 x3 a7 g1) := hD
          refine lv_aload_n (pc := 94) hx hb dX3_better_94 rfl (lv_at hl 2 rfl) ?_
          refine lv_iload_n (pc := 95) hx hb dX3_better_95 rfl (lv_at hl 3 rfl) ?_
          refine lv_lload (pc := 96) hx hb dX3_better_96 (lv_at hl 0 rfl) ?_
          refine gd_v (pc := 98) (wc := (zS_114 cB cC cI cJ a0 a1 a2 a3 a4 a5 a6 y0 x2 y1 y2 a6 g0 a1 a7 a8 a9 a10 a11 a12 a13 x3 a7 g1)) hP hD hS hA [0, 1, 3, 4] rfl (by decide +kernel) (fun _ => by rfl) (fun hPc hDc => va_runV (As := [.int x0, .long y_9]) (rest := []) ⟨hx, hb, hml, hown, hts⟩ (k_X3_move l D cB cC cI cJ _ a0 a1 a2 a3 a4 a5 a6 a7 a8 a9 a10 a11 a12 a13 x0 x2 x3 y_9 y0 y1 y2 g0 g1 hp1 h_x2 h_x3) ⟨gcwB hts tw_1254 tw_12 tw_1251 hd_yX3_move ⟨Nat.le_of_ble_eq_true rfl, Nat.le_of_ble_eq_true rfl⟩, hts _ tw_1253, hts _ tp_49⟩ ⟨gblind, va_recv hK hPc (ci := 3) (q0 := 0) rfl rfl, (gpreS hPc hK hDc hN).2⟩ rfl rfl hl.1 rfl (lv_room (Nat.le_of_ble_eq_true rfl)) dX3_better_98 ⟨Nat.le_of_ble_eq_true rfl, Nat.le_of_ble_eq_true rfl⟩) (fun u_20 H locs hw_22 hP hD hS => ?_)
          replace hP : va_P D gcl (zS_64 cB cC cI cJ a0 a1 a2 a3 a4 a5 a6 (u_20.2.2.2.2 0) x2 y1 y2 a6 (u_20.2.2.1 0) a5 f_19 a1 a7 a8 a9 a10 a11 a12 a13 x3 a7 g1) H := hP
          replace hD : va_D A (zS_64 cB cC cI cJ a0 a1 a2 a3 a4 a5 a6 (u_20.2.2.2.2 0) x2 y1 y2 a6 (u_20.2.2.1 0) a5 f_19 a1 a7 a8 a9 a10 a11 a12 a13 x3 a7 g1) := hD
          have ru_20_0 := n_rngL (u_20.2.2.2.2 0)
          have hw_23 : (((0 ≤ x3.toInt ∧ x3.toInt ≤ 4))) := hw_22
          exact hret ((fun _ => 0), (fun k => [f_19].getD k (fun _ => 0)), (fun k => [(u_20.2.2.1 0)].getD k (fun _ => 0)), (fun _ => 0), (fun k => [(u_20.2.2.2.2 0)].getD k 0)) dX3_better_101 trivial (g_psub (wc := (zS_64 cB cC cI cJ a0 a1 a2 a3 a4 a5 a6 (u_20.2.2.2.2 0) x2 y1 y2 a6 (u_20.2.2.1 0) a5 f_19 a1 a7 a8 a9 a10 a11 a12 a13 x3 a7 g1)) hP [0, 1, 2, 3, 4] rfl) (hD.sub (ws' := (zS_64 cB cC cI cJ a0 a1 a2 a3 a4 a5 a6 (u_20.2.2.2.2 0) x2 y1 y2 a6 (u_20.2.2.1 0) a5 f_19 a1 a7 a8 a9 a10 a11 a12 a13 x3 a7 g1)) [0, 1, 2, 3, 4] (by decide) rfl) hS
      ·
        exact hret ((fun _ => 0), (fun k => [f0].getD k (fun _ => 0)), (fun k => [g0].getD k (fun _ => 0)), (fun _ => 0), (fun k => [y0].getD k 0)) dX3_better_41 trivial (g_psub (wc := (zS_64 cB cC cI cJ a0 a1 a2 a3 a4 a5 a6 y0 x2 y1 y2 a6 g0 a5 f0 a1 a7 a8 a9 a10 a11 a12 a13 x3 a7 g1)) hP [0, 1, 2, 3, 4] rfl) (hD.sub (ws' := (zS_64 cB cC cI cJ a0 a1 a2 a3 a4 a5 a6 y0 x2 y1 y2 a6 g0 a5 f0 a1 a7 a8 a9 a10 a11 a12 a13 x3 a7 g1)) [0, 1, 2, 3, 4] (by decide) rfl) hS
  ·
    refine lv_iconst (pc := 11) (v := (-1)) hx hb dX3_better_11 (by decide) ?_
    refine lv_goto (pc := 12) (tgt := 16) hx hb dX3_better_12 (by decide) ?_
    refine lv_istore_n (pc := 16) (lv' := [(3, .int (-1)), (0, .ref a0), (1, .int x0), (2, .int x1)]) hx hb dX3_better_16 rfl hl (by decide) rfl (fun ls hl => ?_)
    refine lv_aload_n (pc := 17) hx hb dX3_better_17 rfl (lv_at hl 1 rfl) ?_
    refine va_get (pc := 18) (ci := 3) (v := .ref a5) (C := RX3) (T := TX3) (N := 10) hx hb hts iX3 hown hK hP 0 rfl rfl 4 (by decide) (hts _ tw_353) (fun _ h9 => h9) rfl dX3_better_18 ?_
    refine lv_iload_n (pc := 21) hx hb dX3_better_21 rfl (lv_at hl 2 rfl) ?_
    refine va_iald (pc := 22) hx hb hK hP 2 2 rfl rfl (n_in rfl (by first | exact (om_0 hp1.1) | ((first | omega | (unfold zBd at *; omega)))) (by first | exact (om_1135 hp1.2) | ((first | omega | (unfold zBd at *; omega))))) dX3_better_22 ?_
    refine lv_topi (fun x_24 ex_24 => ?_)
    have rx_24 : zBd x_24.toInt (-2147483648) 2147483647 := n_rng x_24
    refine lv_iload_n (pc := 23) hx hb dX3_better_23 rfl (lv_at hl 0 rfl) ?_
    refine lv_iadd (pc := 24) hx hb dX3_better_24 ?_
    refine lv_topi (fun x_25 _ => ?_)
    have rx_25 : zBd x_25.toInt (-2147483648) 2147483647 := n_rng x_25
    refine lv_iconst (pc := 25) (v := (-1)) hx hb dX3_better_25 (by decide) ?_
    refine b_icmp_lt (pc := 26) (tgt := 41) hx hb rfl tI_m1  dX3_better_26 (by decide) (fun c_26 => ?_) (fun c_26 => ?_)
    ·
      exact hret ((fun _ => 0), (fun k => [f0].getD k (fun _ => 0)), (fun k => [g0].getD k (fun _ => 0)), (fun _ => 0), (fun k => [y0].getD k 0)) dX3_better_41 trivial (g_psub (wc := (zS_64 cB cC cI cJ a0 a1 a2 a3 a4 a5 a6 y0 x2 y1 y2 a6 g0 a5 f0 a1 a7 a8 a9 a10 a11 a12 a13 x3 a7 g1)) hP [0, 1, 2, 3, 4] rfl) (hD.sub (ws' := (zS_64 cB cC cI cJ a0 a1 a2 a3 a4 a5 a6 y0 x2 y1 y2 a6 g0 a5 f0 a1 a7 a8 a9 a10 a11 a12 a13 x3 a7 g1)) [0, 1, 2, 3, 4] (by decide) rfl) hS
    ·
      refine lv_aload_n (pc := 29) hx hb dX3_better_29 rfl (lv_at hl 1 rfl) ?_
      refine va_get (pc := 30) (ci := 3) (v := .ref a5) (C := RX3) (T := TX3) (N := 10) hx hb hts iX3 hown hK hP 0 rfl rfl 4 (by decide) (hts _ tw_353) (fun _ h9 => h9) rfl dX3_better_30 ?_
      refine lv_iload_n (pc := 33) hx hb dX3_better_33 rfl (lv_at hl 2 rfl) ?_
      refine va_iald (pc := 34) hx hb hK hP 2 2 rfl rfl (n_in rfl (by first | exact (om_0 hp1.1) | ((first | omega | (unfold zBd at *; omega)))) (by first | exact (om_1135 hp1.2) | ((first | omega | (unfold zBd at *; omega))))) dX3_better_34 ?_
      refine gI (y := x_24) ex_24.symm ?_
      refine lv_iload_n (pc := 35) hx hb dX3_better_35 rfl (lv_at hl 0 rfl) ?_
      refine lv_iadd (pc := 36) hx hb dX3_better_36 ?_
      refine lv_topi (fun x_27 _ => ?_)
      have rx_27 : zBd x_27.toInt (-2147483648) 2147483647 := n_rng x_27
      refine lv_iconst (pc := 37) (v := 1) hx hb dX3_better_37 (by decide) ?_
      refine b_icmp_le (pc := 38) (tgt := 42) hx hb rfl tI_1  dX3_better_38 (by decide) (fun c_28 => ?_) (fun c_28 => ?_)
      ·
        refine lv_iload_n (pc := 42) hx hb dX3_better_42 rfl (lv_at hl 0 rfl) ?_
        refine lv_i2l (pc := 43) (v := (-1)) hx hb dX3_better_43 (by decide +kernel) ?_
        refine lv_iload_n (pc := 44) hx hb dX3_better_44 rfl (lv_at hl 3 rfl) ?_
        refine b_i2l (pc := 45) hx hb rfl dX3_better_45 (fun y_29 ey_29 => ?_)
        have ry_29 : zBd x1.toInt (-2147483648) 2147483647 := n_rng x1
        refine b_lmul (pc := 46) hx hb tL_m1 rfl (by first | exact (om_1275 ey_29 ry_29.2) | ((first | omega | (unfold zBd at *; omega)))) (by first | exact (om_1276 ey_29 ry_29.1) | ((first | omega | (unfold zBd at *; omega)))) dX3_better_46 (fun y_30 ey_30 => ?_)
        refine lv_lstore (pc := 47) (lv' := [(4, .long y_30), (3, .int (-1)), (0, .ref a0), (1, .int x0), (2, .int x1)]) hx hb dX3_better_47 hl (by decide) rfl (fun ls hl => ?_)
        refine lv_lload (pc := 49) hx hb dX3_better_49 (lv_at hl 0 rfl) ?_
        refine lv_ldc2 (pc := 51) hx hb hown (hts _ tw_1255) dX3_better_51 ?_
        refine lv_aload_n (pc := 54) hx hb dX3_better_54 rfl (lv_at hl 2 rfl) ?_
        refine va_get (pc := 55) (ci := 3) (v := .ref a6) (C := RX3) (T := TX3) (N := 10) hx hb hts iX3 hown hK hP 0 rfl rfl 5 (by decide) (hts _ tw_354) (fun _ h9 => h9) rfl dX3_better_55 ?_
        refine lv_iload_n (pc := 58) hx hb dX3_better_58 rfl (lv_at hl 3 rfl) ?_
        refine va_lald (pc := 59) hx hb hK hP 1 3 rfl rfl (n_in rfl (by first | exact (om_0 hp1.1) | ((first | omega | (unfold zBd at *; omega)))) (by first | exact (om_1135 hp1.2) | ((first | omega | (unfold zBd at *; omega))))) dX3_better_59 ?_
        refine gL (y := y_1) ey_1.symm ?_
        refine lv_lmul (pc := 60) hx hb dX3_better_60 ?_
        refine lv_topl (fun y_31 _ => ?_)
        have ry_31 := n_rngL y_31
        refine lv_lload (pc := 61) hx hb dX3_better_61 (lv_at hl 0 rfl) ?_
        refine lv_aload_n (pc := 63) hx hb dX3_better_63 rfl (lv_at hl 2 rfl) ?_
        refine va_get (pc := 64) (ci := 3) (v := .ref a1) (C := RX3) (T := TX3) (N := 10) hx hb hts iX3 hown hK hP 0 rfl rfl 0 (by decide) (hts _ tw_348) (fun _ h9 => h9) rfl dX3_better_64 ?_
        refine va_getN (pc := 67) (ci := 10) (v := .ref a7) (C := RX10) (T := TX10) (N := 8) hx hb hts iX10 hown hK hP 3 rfl rfl 0 (by decide) (va_Nw.use rfl (hN _ tn_208)) (fun _ h9 => h9) rfl dX3_better_67 ?_
        refine lv_iload_n (pc := 70) hx hb dX3_better_70 rfl (lv_at hl 3 rfl) ?_
        refine lv_iconst (pc := 71) (v := 5) hx hb dX3_better_71 (by decide) ?_
        refine b_imul (pc := 72) hx hb rfl tI_5 (by first | exact (om_330 hp1.1) | ((first | omega | (unfold zBd at *; omega)))) (by first | exact (om_1160 hp1.2) | ((first | omega | (unfold zBd at *; omega)))) dX3_better_72 (fun x_32 ex_32 => ?_)
        refine lv_iload_n (pc := 73) hx hb dX3_better_73 rfl (lv_at hl 3 rfl) ?_
        refine b_iadd (pc := 74) hx hb rfl rfl (by first | exact (om_405 ex_32 hp1.1) | ((first | omega | (unfold zBd at *; omega)))) (by first | exact (om_1161 ex_32 hp1.2) | ((first | omega | (unfold zBd at *; omega)))) dX3_better_74 (fun x_33 ex_33 => ?_)
        refine va_lald (pc := 75) hx hb hK hP 4 3 rfl rfl (n_in rfl (by first | exact (om_407 ex_33 ex_32 hp1.1) | ((first | omega | (unfold zBd at *; omega)))) (by first | exact (om_1162 ex_33 ex_32 hp1.2) | ((first | omega | (unfold zBd at *; omega))))) dX3_better_75 ?_
        refine lv_topl (fun y_34 ey_34 => ?_)
        have ry_34 := n_rngL y_34
        refine lv_lmul (pc := 76) hx hb dX3_better_76 ?_
        refine lv_topl (fun y_35 _ => ?_)
        have ry_35 := n_rngL y_35
        refine lv_ladd (pc := 77) hx hb dX3_better_77 ?_
        refine lv_topl (fun y_36 _ => ?_)
        have ry_36 := n_rngL y_36
        refine lv_lmul (pc := 78) hx hb dX3_better_78 ?_
        refine lv_topl (fun y_37 _ => ?_)
        have ry_37 := n_rngL y_37
        refine lv_lconst (pc := 79) (v := 0) hx hb dX3_better_79 (by decide) ?_
        refine b_lcmp_ge (pc := 80) (tgt := 101) hx hb rfl tL_0 dX3_better_80 dX3_better_81 (by decide) (fun c_38 => ?_) (fun c_38 => ?_)
        ·
          exact hret ((fun _ => 0), (fun k => [f0].getD k (fun _ => 0)), (fun k => [g0].getD k (fun _ => 0)), (fun _ => 0), (fun k => [y0].getD k 0)) dX3_better_101 trivial (g_psub (wc := (zS_64 cB cC cI cJ a0 a1 a2 a3 a4 a5 a6 y0 x2 y1 y2 a6 g0 a5 f0 a1 a7 a8 a9 a10 a11 a12 a13 x3 a7 g1)) hP [0, 1, 2, 3, 4] rfl) (hD.sub (ws' := (zS_64 cB cC cI cJ a0 a1 a2 a3 a4 a5 a6 y0 x2 y1 y2 a6 g0 a5 f0 a1 a7 a8 a9 a10 a11 a12 a13 x3 a7 g1)) [0, 1, 2, 3, 4] (by decide) rfl) hS
        ·
          refine lv_aload_n (pc := 84) hx hb dX3_better_84 rfl (lv_at hl 2 rfl) ?_
          refine va_get (pc := 85) (ci := 3) (v := .ref a5) (C := RX3) (T := TX3) (N := 10) hx hb hts iX3 hown hK hP 0 rfl rfl 4 (by decide) (hts _ tw_353) (fun _ h9 => h9) rfl dX3_better_85 ?_
          refine lv_iload_n (pc := 88) hx hb dX3_better_88 rfl (lv_at hl 3 rfl) ?_
          refine lv_dup2_11 (pc := 89) hx hb dX3_better_89 rfl rfl ?_
          refine va_iald (pc := 90) hx hb hK hP 2 2 rfl rfl (n_in rfl (by first | exact (om_0 hp1.1) | ((first | omega | (unfold zBd at *; omega)))) (by first | exact (om_1135 hp1.2) | ((first | omega | (unfold zBd at *; omega))))) dX3_better_90 ?_
          refine gI (y := x_24) ex_24.symm ?_
          refine lv_iload_n (pc := 91) hx hb dX3_better_91 rfl (lv_at hl 1 rfl) ?_
          refine lv_iadd (pc := 92) hx hb dX3_better_92 ?_
          refine lv_topi (fun x_39 _ => ?_)
          have rx_39 : zBd x_39.toInt (-2147483648) 2147483647 := n_rng x_39
          refine g_iastore (pc := 93) hx hb hK hP hD hS 2 2 rfl rfl (n_in rfl (by first | exact (om_0 hp1.1) | ((first | omega | (unfold zBd at *; omega)))) (by first | exact (om_1135 hp1.2) | ((first | omega | (unfold zBd at *; omega))))) dX3_better_93 (fun f_40 H locs hP hD hS => ?_)
          replace hP : va_P D gcl (zS_64 cB cC cI cJ a0 a1 a2 a3 a4 a5 a6 y0 x2 y1 y2 a6 g0 a5 f_40 a1 a7 a8 a9 a10 a11 a12 a13 x3 a7 g1) H := hP
          replace hD : va_D A (zS_64 cB cC cI cJ a0 a1 a2 a3 a4 a5 a6 y0 x2 y1 y2 a6 g0 a5 f_40 a1 a7 a8 a9 a10 a11 a12 a13 x3 a7 g1) := hD
          refine lv_aload_n (pc := 94) hx hb dX3_better_94 rfl (lv_at hl 2 rfl) ?_
          refine lv_iload_n (pc := 95) hx hb dX3_better_95 rfl (lv_at hl 3 rfl) ?_
          refine lv_lload (pc := 96) hx hb dX3_better_96 (lv_at hl 0 rfl) ?_
          refine gd_v (pc := 98) (wc := (zS_114 cB cC cI cJ a0 a1 a2 a3 a4 a5 a6 y0 x2 y1 y2 a6 g0 a1 a7 a8 a9 a10 a11 a12 a13 x3 a7 g1)) hP hD hS hA [0, 1, 3, 4] rfl (by decide +kernel) (fun _ => by rfl) (fun hPc hDc => va_runV (As := [.int x0, .long y_30]) (rest := []) ⟨hx, hb, hml, hown, hts⟩ (k_X3_move l D cB cC cI cJ _ a0 a1 a2 a3 a4 a5 a6 a7 a8 a9 a10 a11 a12 a13 x0 x2 x3 y_30 y0 y1 y2 g0 g1 hp1 h_x2 h_x3) ⟨gcwB hts tw_1254 tw_12 tw_1251 hd_yX3_move ⟨Nat.le_of_ble_eq_true rfl, Nat.le_of_ble_eq_true rfl⟩, hts _ tw_1253, hts _ tp_49⟩ ⟨gblind, va_recv hK hPc (ci := 3) (q0 := 0) rfl rfl, (gpreS hPc hK hDc hN).2⟩ rfl rfl hl.1 rfl (lv_room (Nat.le_of_ble_eq_true rfl)) dX3_better_98 ⟨Nat.le_of_ble_eq_true rfl, Nat.le_of_ble_eq_true rfl⟩) (fun u_41 H locs hw_43 hP hD hS => ?_)
          replace hP : va_P D gcl (zS_64 cB cC cI cJ a0 a1 a2 a3 a4 a5 a6 (u_41.2.2.2.2 0) x2 y1 y2 a6 (u_41.2.2.1 0) a5 f_40 a1 a7 a8 a9 a10 a11 a12 a13 x3 a7 g1) H := hP
          replace hD : va_D A (zS_64 cB cC cI cJ a0 a1 a2 a3 a4 a5 a6 (u_41.2.2.2.2 0) x2 y1 y2 a6 (u_41.2.2.1 0) a5 f_40 a1 a7 a8 a9 a10 a11 a12 a13 x3 a7 g1) := hD
          have ru_41_0 := n_rngL (u_41.2.2.2.2 0)
          have hw_44 : (((0 ≤ x3.toInt ∧ x3.toInt ≤ 4))) := hw_43
          exact hret ((fun _ => 0), (fun k => [f_40].getD k (fun _ => 0)), (fun k => [(u_41.2.2.1 0)].getD k (fun _ => 0)), (fun _ => 0), (fun k => [(u_41.2.2.2.2 0)].getD k 0)) dX3_better_101 trivial (g_psub (wc := (zS_64 cB cC cI cJ a0 a1 a2 a3 a4 a5 a6 (u_41.2.2.2.2 0) x2 y1 y2 a6 (u_41.2.2.1 0) a5 f_40 a1 a7 a8 a9 a10 a11 a12 a13 x3 a7 g1)) hP [0, 1, 2, 3, 4] rfl) (hD.sub (ws' := (zS_64 cB cC cI cJ a0 a1 a2 a3 a4 a5 a6 (u_41.2.2.2.2 0) x2 y1 y2 a6 (u_41.2.2.1 0) a5 f_40 a1 a7 a8 a9 a10 a11 a12 a13 x3 a7 g1)) [0, 1, 2, 3, 4] (by decide) rfl) hS
      ·
        exact hret ((fun _ => 0), (fun k => [f0].getD k (fun _ => 0)), (fun k => [g0].getD k (fun _ => 0)), (fun _ => 0), (fun k => [y0].getD k 0)) dX3_better_41 trivial (g_psub (wc := (zS_64 cB cC cI cJ a0 a1 a2 a3 a4 a5 a6 y0 x2 y1 y2 a6 g0 a5 f0 a1 a7 a8 a9 a10 a11 a12 a13 x3 a7 g1)) hP [0, 1, 2, 3, 4] rfl) (hD.sub (ws' := (zS_64 cB cC cI cJ a0 a1 a2 a3 a4 a5 a6 y0 x2 y1 y2 a6 g0 a5 f0 a1 a7 a8 a9 a10 a11 a12 a13 x3 a7 g1)) [0, 1, 2, 3, 4] (by decide) rfl) hS
theorem om_1277 {a : Int} (h0 : ((-1) ≤ a)) : (-2147483648 ≤ 2 * a) := by omega
theorem om_1278 {a : Int} (h0 : (a ≤ 8)) : (2 * a ≤ 2147483647) := by omega
theorem om_1279 {a b c d : Int} (h0 : (a = 0)) (h1 : ((-9223372036854775808) ≤ b)) (h2 : (0 ≤ c)) (h3 : (c ≤ 4)) (h4 : (d > b)) (h5 : (d ≤ 9223372036854775807)) (h6 : (b ≤ 9223372036854775807)) : (((a = 0 ∧ ((-9223372036854775808) ≤ b ∧ b ≤ 9223372036854775806)) ∨ (a = 1 ∧ ((-9223372036854775808) ≤ b ∧ b ≤ 9223372036854775807)) ∨ (a = 0 ∧ ((-9223372036854775808) ≤ b ∧ b ≤ 9223372036854775806) ∧ (0 ≤ c ∧ c ≤ 4)))) := by omega
theorem om_1280 {a b c : Int} (h0 : (a = 1)) (h1 : ((-9223372036854775808) ≤ b)) (h2 : (0 ≤ c)) (h3 : (c ≤ 4)) (h4 : (b ≤ 9223372036854775807)) : (((a = 0 ∧ ((-9223372036854775808) ≤ b ∧ b ≤ 9223372036854775806)) ∨ (a = 1 ∧ ((-9223372036854775808) ≤ b ∧ b ≤ 9223372036854775807)) ∨ (a = 0 ∧ ((-9223372036854775808) ≤ b ∧ b ≤ 9223372036854775806) ∧ (0 ≤ c ∧ c ≤ 4)))) := by omega
theorem om_1281 {a b c d : Int} (h0 : (a = 0)) (h1 : (d > b)) (h2 : (d ≤ b)) (h3 : (0 ≤ c)) (h4 : (c ≤ 4)) : (((a = 0 ∧ ((-9223372036854775808) ≤ b ∧ b ≤ 9223372036854775806)) ∨ (a = 1 ∧ ((-9223372036854775808) ≤ b ∧ b ≤ 9223372036854775807)) ∨ (a = 0 ∧ ((-9223372036854775808) ≤ b ∧ b ≤ 9223372036854775806) ∧ (0 ≤ c ∧ c ≤ 4)))) := by omega
theorem om_1282 {a : Int} (h0 : (a < 243)) : (a + 1 ≤ 2147483647) := by omega
theorem om_1283 {a b : Int} (h0 : (a = b + 1)) (h1 : (0 ≤ b)) (h2 : (b < 243)) : ((0 ≤ a ∧ a ≤ 2147483647)) := by omega
theorem om_1284 {a b c d e : Int} (h0 : (a = 0)) (h1 : ((-9223372036854775808) ≤ b)) (h2 : (0 ≤ c)) (h3 : (c ≤ 4)) (h4 : (d ≤ b)) (h5 : (e > b)) (h6 : (d = e)) (h7 : (b ≤ 9223372036854775807)) : (((a = 0 ∧ ((-9223372036854775808) ≤ b ∧ b ≤ 9223372036854775806)) ∨ (a = 1 ∧ ((-9223372036854775808) ≤ b ∧ b ≤ 9223372036854775807)) ∨ (a = 0 ∧ ((-9223372036854775808) ≤ b ∧ b ≤ 9223372036854775806) ∧ (0 ≤ c ∧ c ≤ 4)))) := by omega
set_option maxHeartbeats 4000000 in
set_option maxRecDepth 100000 in
theorem k_X3_fallsTo (l : Launch) (D : va_G) (cB cC cI cJ : ClassId) (sz : Nat) (a0 a1 a2 a3 a4 a5 a6 a7 a8 a9 a10 a11 a12 a13 a14 a15 a16 a17 : Nat) (x0 x1 x2 x3 x4 x5 x6 x7 x8 : Int32) (y0 y1 y2 y3 : Int64) (f0 : Nat → Int32) (g0 g1 : Nat → Int64) (h_x0 : zBd x0.toInt 0 1) (h_x1 : zBd x1.toInt (-1) 8) (h_x2 : zBd x2.toInt (-1) 5) (h_x3 : zBd x3.toInt (-1) 6) (h_x4 : zBd x4.toInt 0 6) (h_x5 : zBd x5.toInt 0 16) (h_x8 : zBd x8.toInt 0 4) : Met l yX3_fallsTo (.code yX3_fallsTo cX3_fallsTo 9 (some .boolean) :: lw_gd) ({ frames := 2, cells := 0, slots := 0, locals := 50 }) (gPre D [(cB, .byte), (cC, .char), (cI, .int), (cJ, .long)] [.ref a0, .long y0, .ref a1] (zS_88 cB cC cI cJ a0 a2 a3 a4 a5 a6 a7 y1 x0 y2 y3 a1 a8 a9 a10 x1 x2 x3 x4 x5 x6 x7 a2 a11 a12 a13 a14 a15 a16 a17 x8 a7 g0 a6 f0 a11 g1) sz) (va_Qi (fun r u => ((r.toInt = 0 ∧ ((-9223372036854775808) ≤ y0.toInt ∧ y0.toInt ≤ 9223372036854775806)) ∨ (r.toInt = 1 ∧ ((-9223372036854775808) ≤ y0.toInt ∧ y0.toInt ≤ 9223372036854775807)) ∨ (r.toInt = 0 ∧ ((-9223372036854775808) ≤ y0.toInt ∧ y0.toInt ≤ 9223372036854775806) ∧ (0 ≤ x8.toInt ∧ x8.toInt ≤ 4)))) (gB D (va_A (zS_88 cB cC cI cJ a0 a2 a3 a4 a5 a6 a7 y1 x0 y2 y3 a1 a8 a9 a10 x1 x2 x3 x4 x5 x6 x7 a2 a11 a12 a13 a14 a15 a16 a17 x8 a7 g0 a6 f0 a11 g1) sz) (fun u : gEx => (zS_88 cB cC cI cJ a0 a2 a3 a4 a5 a6 a7 (u.2.2.2.2 0) x0 y2 y3 a1 a8 a9 a10 x1 x2 x3 x4 x5 x6 x7 a2 a11 a12 a13 a14 a15 a16 a17 x8 a7 (u.2.2.1 0) a6 (u.2.1 0) a11 g1))) (va_A (zS_88 cB cC cI cJ a0 a2 a3 a4 a5 a6 a7 y1 x0 y2 y3 a1 a8 a9 a10 x1 x2 x3 x4 x5 x6 x7 a2 a11 a12 a13 a14 a15 a16 a17 x8 a7 g0 a6 f0 a11 g1) sz)) 0 0 (va_A (zS_88 cB cC cI cJ a0 a2 a3 a4 a5 a6 a7 y1 x0 y2 y3 a1 a8 a9 a10 x1 x2 x3 x4 x5 x6 x7 a2 a11 a12 a13 a14 a15 a16 a17 x8 a7 g0 a6 f0 a11 g1) sz) := by
  refine gOf_z (by decide +kernel) (Nat.le_of_ble_eq_true rfl) ?_
  intro p e s m args below meth c ls A Q hx hb hts hown hml hN hK hP hD hA hl hret
  replace hown : s.vm.findClass RX3 = some m.cls := hown
  have hS : va_S A s.heap s.heap [] := va_S.rf
  replace hP : va_P D gcl (zS_88 cB cC cI cJ a0 a2 a3 a4 a5 a6 a7 y1 x0 y2 y3 a1 a8 a9 a10 x1 x2 x3 x4 x5 x6 x7 a2 a11 a12 a13 a14 a15 a16 a17 x8 a7 g0 a6 f0 a11 g1) s.heap := hP
  replace hl : lv_has ls 9 [(0, .ref a0), (1, .long y0), (3, .ref a1)] := hl
  have ry0 := n_rngL y0
  have ry1 := n_rngL y1
  have ry2 := n_rngL y2
  have ry3 := n_rngL y3
  have rx6 : zBd x6.toInt (-2147483648) 2147483647 := n_rng x6
  have rx7 : zBd x7.toInt (-2147483648) 2147483647 := n_rng x7
  refine lv_iconst (pc := 0) (v := 2) hx hb dX3_fallsTo_0 (by decide) ?_
  refine lv_aload_n (pc := 1) hx hb dX3_fallsTo_1 rfl (lv_at hl 2 rfl) ?_
  refine va_getN (pc := 2) (ci := 1) (v := .int x1) (C := RX1) (T := TX1) (N := 10) hx hb hts iX1 hown hK hP 1 rfl rfl 3 (by decide) (va_Nw.use rfl (hN _ tn_113)) (fun _ h9 => h9) rfl dX3_fallsTo_2 ?_
  refine b_imul (pc := 5) hx hb tI_2 rfl (by first | exact (om_1277 h_x1.1) | ((first | omega | (unfold zBd at *; omega)))) (by first | exact (om_1278 h_x1.2) | ((first | omega | (unfold zBd at *; omega)))) dX3_fallsTo_5 (fun x_1 ex_1 => ?_)
  refine lv_istore (pc := 6) (lv' := [(4, .int x_1), (0, .ref a0), (1, .long y0), (3, .ref a1)]) hx hb dX3_fallsTo_6 hl (by decide) rfl (fun ls hl => ?_)
  refine lv_iconst (pc := 8) (v := 0) hx hb dX3_fallsTo_8 (by decide) ?_
  refine lv_istore (pc := 9) (lv' := [(5, .int 0), (4, .int x_1), (0, .ref a0), (1, .long y0), (3, .ref a1)]) hx hb dX3_fallsTo_9 hl (by decide) rfl (fun ls hl => ?_)
  have lp_8 : ∀ (n : Nat) (x_2 : Int32) (y_4 : Int64) (f_7 : Nat → Int32) (g_6 : Nat → Int64) (H : Heap) (locs : List Loc) (ls : Array Slot), (0 ≤ x_2.toInt ∧ x_2.toInt ≤ 2147483647) → (2147483647 - x_2.toInt).toNat < n → va_P D gcl (zS_88 cB cC cI cJ a0 a2 a3 a4 a5 a6 a7 y_4 x0 y2 y3 a1 a8 a9 a10 x1 x2 x3 x4 x5 x6 x7 a2 a11 a12 a13 a14 a15 a16 a17 x8 a7 g_6 a6 f_7 a11 g1) H → va_D A (zS_88 cB cC cI cJ a0 a2 a3 a4 a5 a6 a7 y_4 x0 y2 y3 a1 a8 a9 a10 x1 x2 x3 x4 x5 x6 x7 a2 a11 a12 a13 a14 a15 a16 a17 x8 a7 g_6 a6 f_7 a11 g1) → va_S A s.heap H locs → lv_has ls 9 [(5, .int x_2), (4, .int x_1), (0, .ref a0), (1, .long y0), (3, .ref a1)] → W p l e ({ frames := 2, cells := 0, slots := 0, locals := 50 }) s m args below meth c H locs 0 0 Q (F0 m 11 ls []) := by
    intro n
    induction n with
    | zero => intro x_2 y_4 f_7 g_6 H locs ls hi_3 hmu; exact absurd hmu (Nat.not_lt_zero _)
    | succ n ih_lp_8 =>
      intro x_2 y_4 f_7 g_6 H locs ls hi_3 hmu_lp_8 hP hD hS hl
      have hi_5 := n_rngL y_4
      refine lv_iload (pc := 11) hx hb dX3_fallsTo_11 (lv_at hl 0 rfl) ?_
      refine lv_sipush (pc := 13) (v := 243) hx hb dX3_fallsTo_13 (by decide) ?_
      refine b_icmp_ge (pc := 16) (tgt := 90) hx hb rfl tI_243  dX3_fallsTo_16 (by decide) (fun c_9 => ?_) (fun c_9 => ?_)
      ·
        refine lv_aload_n (pc := 90) hx hb dX3_fallsTo_90 rfl (lv_at hl 2 rfl) ?_
        refine va_get (pc := 91) (ci := 3) (v := .long y_4) (C := RX3) (T := TX3) (N := 10) hx hb hts iX3 hown hK hP 0 rfl rfl 6 (by decide) (hts _ tw_355) (fun _ h9 => h9) rfl dX3_fallsTo_91 ?_
        refine lv_lload_n (pc := 94) hx hb dX3_fallsTo_94 rfl (lv_at hl 3 rfl) ?_
        refine b_lcmp_gt (pc := 95) (tgt := 103) hx hb rfl rfl dX3_fallsTo_95 dX3_fallsTo_96 (by decide) (fun c_10 => ?_) (fun c_10 => ?_)
        ·
          refine lv_iconst (pc := 103) (v := 0) hx hb dX3_fallsTo_103 (by decide) ?_
          exact hret 0 ((fun _ => 0), (fun k => [f_7].getD k (fun _ => 0)), (fun k => [g_6].getD k (fun _ => 0)), (fun _ => 0), (fun k => [y_4].getD k 0)) dX3_fallsTo_104 ⟨(Or.inl tI_0), (show (((0 : Int32).toInt = 0 ∧ ((-9223372036854775808) ≤ y0.toInt ∧ y0.toInt ≤ 9223372036854775806)) ∨ ((0 : Int32).toInt = 1 ∧ ((-9223372036854775808) ≤ y0.toInt ∧ y0.toInt ≤ 9223372036854775807)) ∨ ((0 : Int32).toInt = 0 ∧ ((-9223372036854775808) ≤ y0.toInt ∧ y0.toInt ≤ 9223372036854775806) ∧ (0 ≤ x8.toInt ∧ x8.toInt ≤ 4))) from (by first | exact (om_1279 tI_0 ry0.1 h_x8.1 h_x8.2 c_10 hi_5.2 ry0.2) | (have k9 := tI_0; (first | omega | (unfold zBd at *; omega)))))⟩ (g_psub (wc := (zS_88 cB cC cI cJ a0 a2 a3 a4 a5 a6 a7 y_4 x0 y2 y3 a1 a8 a9 a10 x1 x2 x3 x4 x5 x6 x7 a2 a11 a12 a13 a14 a15 a16 a17 x8 a7 g_6 a6 f_7 a11 g1)) hP [0, 1, 2, 3, 4, 5] rfl) (hD.sub (ws' := (zS_88 cB cC cI cJ a0 a2 a3 a4 a5 a6 a7 y_4 x0 y2 y3 a1 a8 a9 a10 x1 x2 x3 x4 x5 x6 x7 a2 a11 a12 a13 a14 a15 a16 a17 x8 a7 g_6 a6 f_7 a11 g1)) [0, 1, 2, 3, 4, 5] (by decide) rfl) hS
        ·
          refine lv_iconst (pc := 99) (v := 1) hx hb dX3_fallsTo_99 (by decide) ?_
          refine lv_goto (pc := 100) (tgt := 104) hx hb dX3_fallsTo_100 (by decide) ?_
          exact hret 1 ((fun _ => 0), (fun k => [f_7].getD k (fun _ => 0)), (fun k => [g_6].getD k (fun _ => 0)), (fun _ => 0), (fun k => [y_4].getD k 0)) dX3_fallsTo_104 ⟨(Or.inr tI_1), (show (((1 : Int32).toInt = 0 ∧ ((-9223372036854775808) ≤ y0.toInt ∧ y0.toInt ≤ 9223372036854775806)) ∨ ((1 : Int32).toInt = 1 ∧ ((-9223372036854775808) ≤ y0.toInt ∧ y0.toInt ≤ 9223372036854775807)) ∨ ((1 : Int32).toInt = 0 ∧ ((-9223372036854775808) ≤ y0.toInt ∧ y0.toInt ≤ 9223372036854775806) ∧ (0 ≤ x8.toInt ∧ x8.toInt ≤ 4))) from (by first | exact (om_1280 tI_1 ry0.1 h_x8.1 h_x8.2 ry0.2) | (have k9 := tI_1; (first | omega | (unfold zBd at *; omega)))))⟩ (g_psub (wc := (zS_88 cB cC cI cJ a0 a2 a3 a4 a5 a6 a7 y_4 x0 y2 y3 a1 a8 a9 a10 x1 x2 x3 x4 x5 x6 x7 a2 a11 a12 a13 a14 a15 a16 a17 x8 a7 g_6 a6 f_7 a11 g1)) hP [0, 1, 2, 3, 4, 5] rfl) (hD.sub (ws' := (zS_88 cB cC cI cJ a0 a2 a3 a4 a5 a6 a7 y_4 x0 y2 y3 a1 a8 a9 a10 x1 x2 x3 x4 x5 x6 x7 a2 a11 a12 a13 a14 a15 a16 a17 x8 a7 g_6 a6 f_7 a11 g1)) [0, 1, 2, 3, 4, 5] (by decide) rfl) hS
      ·
        refine lv_aload_n (pc := 19) hx hb dX3_fallsTo_19 rfl (lv_at hl 2 rfl) ?_
        refine va_get (pc := 20) (ci := 3) (v := .long y_4) (C := RX3) (T := TX3) (N := 10) hx hb hts iX3 hown hK hP 0 rfl rfl 6 (by decide) (hts _ tw_355) (fun _ h9 => h9) rfl dX3_fallsTo_20 ?_
        refine lv_lload_n (pc := 23) hx hb dX3_fallsTo_23 rfl (lv_at hl 3 rfl) ?_
        refine b_lcmp_le (pc := 24) (tgt := 90) hx hb rfl rfl dX3_fallsTo_24 dX3_fallsTo_25 (by decide) (fun c_11 => ?_) (fun c_11 => ?_)
        ·
          refine lv_aload_n (pc := 90) hx hb dX3_fallsTo_90 rfl (lv_at hl 2 rfl) ?_
          refine va_get (pc := 91) (ci := 3) (v := .long y_4) (C := RX3) (T := TX3) (N := 10) hx hb hts iX3 hown hK hP 0 rfl rfl 6 (by decide) (hts _ tw_355) (fun _ h9 => h9) rfl dX3_fallsTo_91 ?_
          refine lv_lload_n (pc := 94) hx hb dX3_fallsTo_94 rfl (lv_at hl 3 rfl) ?_
          refine b_lcmp_gt (pc := 95) (tgt := 103) hx hb rfl rfl dX3_fallsTo_95 dX3_fallsTo_96 (by decide) (fun c_12 => ?_) (fun c_12 => ?_)
          ·
            refine lv_iconst (pc := 103) (v := 0) hx hb dX3_fallsTo_103 (by decide) ?_
            exact hret 0 ((fun _ => 0), (fun k => [f_7].getD k (fun _ => 0)), (fun k => [g_6].getD k (fun _ => 0)), (fun _ => 0), (fun k => [y_4].getD k 0)) dX3_fallsTo_104 ⟨(Or.inl tI_0), (show (((0 : Int32).toInt = 0 ∧ ((-9223372036854775808) ≤ y0.toInt ∧ y0.toInt ≤ 9223372036854775806)) ∨ ((0 : Int32).toInt = 1 ∧ ((-9223372036854775808) ≤ y0.toInt ∧ y0.toInt ≤ 9223372036854775807)) ∨ ((0 : Int32).toInt = 0 ∧ ((-9223372036854775808) ≤ y0.toInt ∧ y0.toInt ≤ 9223372036854775806) ∧ (0 ≤ x8.toInt ∧ x8.toInt ≤ 4))) from (by first | exact (om_1281 tI_0 c_12 c_11 h_x8.1 h_x8.2) | (have k9 := tI_0; (first | omega | (unfold zBd at *; omega)))))⟩ (g_psub (wc := (zS_88 cB cC cI cJ a0 a2 a3 a4 a5 a6 a7 y_4 x0 y2 y3 a1 a8 a9 a10 x1 x2 x3 x4 x5 x6 x7 a2 a11 a12 a13 a14 a15 a16 a17 x8 a7 g_6 a6 f_7 a11 g1)) hP [0, 1, 2, 3, 4, 5] rfl) (hD.sub (ws' := (zS_88 cB cC cI cJ a0 a2 a3 a4 a5 a6 a7 y_4 x0 y2 y3 a1 a8 a9 a10 x1 x2 x3 x4 x5 x6 x7 a2 a11 a12 a13 a14 a15 a16 a17 x8 a7 g_6 a6 f_7 a11 g1)) [0, 1, 2, 3, 4, 5] (by decide) rfl) hS
          ·
            refine lv_iconst (pc := 99) (v := 1) hx hb dX3_fallsTo_99 (by decide) ?_
            refine lv_goto (pc := 100) (tgt := 104) hx hb dX3_fallsTo_100 (by decide) ?_
            exact hret 1 ((fun _ => 0), (fun k => [f_7].getD k (fun _ => 0)), (fun k => [g_6].getD k (fun _ => 0)), (fun _ => 0), (fun k => [y_4].getD k 0)) dX3_fallsTo_104 ⟨(Or.inr tI_1), (show (((1 : Int32).toInt = 0 ∧ ((-9223372036854775808) ≤ y0.toInt ∧ y0.toInt ≤ 9223372036854775806)) ∨ ((1 : Int32).toInt = 1 ∧ ((-9223372036854775808) ≤ y0.toInt ∧ y0.toInt ≤ 9223372036854775807)) ∨ ((1 : Int32).toInt = 0 ∧ ((-9223372036854775808) ≤ y0.toInt ∧ y0.toInt ≤ 9223372036854775806) ∧ (0 ≤ x8.toInt ∧ x8.toInt ≤ 4))) from (by first | exact (om_1280 tI_1 ry0.1 h_x8.1 h_x8.2 ry0.2) | (have k9 := tI_1; (first | omega | (unfold zBd at *; omega)))))⟩ (g_psub (wc := (zS_88 cB cC cI cJ a0 a2 a3 a4 a5 a6 a7 y_4 x0 y2 y3 a1 a8 a9 a10 x1 x2 x3 x4 x5 x6 x7 a2 a11 a12 a13 a14 a15 a16 a17 x8 a7 g_6 a6 f_7 a11 g1)) hP [0, 1, 2, 3, 4, 5] rfl) (hD.sub (ws' := (zS_88 cB cC cI cJ a0 a2 a3 a4 a5 a6 a7 y_4 x0 y2 y3 a1 a8 a9 a10 x1 x2 x3 x4 x5 x6 x7 a2 a11 a12 a13 a14 a15 a16 a17 x8 a7 g_6 a6 f_7 a11 g1)) [0, 1, 2, 3, 4, 5] (by decide) rfl) hS
        ·
          refine lv_aload_n (pc := 28) hx hb dX3_fallsTo_28 rfl (lv_at hl 2 rfl) ?_
          refine va_get (pc := 29) (ci := 3) (v := .long y_4) (C := RX3) (T := TX3) (N := 10) hx hb hts iX3 hown hK hP 0 rfl rfl 6 (by decide) (hts _ tw_355) (fun _ h9 => h9) rfl dX3_fallsTo_29 ?_
          refine lv_lstore (pc := 32) (lv' := [(6, .long y_4), (5, .int x_2), (4, .int x_1), (0, .ref a0), (1, .long y0), (3, .ref a1)]) hx hb dX3_fallsTo_32 hl (by decide) rfl (fun ls hl => ?_)
          refine lv_iconst (pc := 34) (v := 0) hx hb dX3_fallsTo_34 (by decide) ?_
          refine lv_istore (pc := 35) (lv' := [(8, .int 0), (6, .long y_4), (5, .int x_2), (4, .int x_1), (0, .ref a0), (1, .long y0), (3, .ref a1)]) hx hb dX3_fallsTo_35 hl (by decide) rfl (fun ls hl => ?_)
          have lp_19 : ∀ (n : Nat) (x_13 : Int32) (y_15 : Int64) (f_18 : Nat → Int32) (g_17 : Nat → Int64) (H : Heap) (locs : List Loc) (ls : Array Slot), (0 ≤ x_13.toInt ∧ x_13.toInt ≤ 2147483647) → (2147483647 - x_13.toInt).toNat < n → va_P D gcl (zS_88 cB cC cI cJ a0 a2 a3 a4 a5 a6 a7 y_15 x0 y2 y3 a1 a8 a9 a10 x1 x2 x3 x4 x5 x6 x7 a2 a11 a12 a13 a14 a15 a16 a17 x8 a7 g_17 a6 f_18 a11 g1) H → va_D A (zS_88 cB cC cI cJ a0 a2 a3 a4 a5 a6 a7 y_15 x0 y2 y3 a1 a8 a9 a10 x1 x2 x3 x4 x5 x6 x7 a2 a11 a12 a13 a14 a15 a16 a17 x8 a7 g_17 a6 f_18 a11 g1) → va_S A s.heap H locs → lv_has ls 9 [(8, .int x_13), (6, .long y_4), (5, .int x_2), (4, .int x_1), (0, .ref a0), (1, .long y0), (3, .ref a1)] → W p l e ({ frames := 2, cells := 0, slots := 0, locals := 50 }) s m args below meth c H locs 0 0 Q (F0 m 37 ls []) := by
            intro n
            induction n with
            | zero => intro x_13 y_15 f_18 g_17 H locs ls hi_14 hmu; exact absurd hmu (Nat.not_lt_zero _)
            | succ n ih_lp_19 =>
              intro x_13 y_15 f_18 g_17 H locs ls hi_14 hmu_lp_19 hP hD hS hl
              have hi_16 := n_rngL y_15
              refine lv_iload (pc := 37) hx hb dX3_fallsTo_37 (lv_at hl 0 rfl) ?_
              refine lv_aload_n (pc := 39) hx hb dX3_fallsTo_39 rfl (lv_at hl 4 rfl) ?_
              refine va_get (pc := 40) (ci := 3) (v := .ref a2) (C := RX3) (T := TX3) (N := 10) hx hb hts iX3 hown hK hP 0 rfl rfl 0 (by decide) (hts _ tw_348) (fun _ h9 => h9) rfl dX3_fallsTo_40 ?_
              refine va_getN (pc := 43) (ci := 10) (v := .int x8) (C := RX10) (T := TX10) (N := 8) hx hb hts iX10 hown hK hP 2 rfl rfl 7 (by decide) (va_Nw.use rfl (hN _ tn_223)) (fun _ h9 => h9) rfl dX3_fallsTo_43 ?_
              refine b_icmp_gt (pc := 46) (tgt := 72) hx hb rfl rfl  dX3_fallsTo_46 (by decide) (fun c_20 => ?_) (fun c_20 => ?_)
              ·
                refine lv_aload_n (pc := 72) hx hb dX3_fallsTo_72 rfl (lv_at hl 4 rfl) ?_
                refine va_get (pc := 73) (ci := 3) (v := .long y_15) (C := RX3) (T := TX3) (N := 10) hx hb hts iX3 hown hK hP 0 rfl rfl 6 (by decide) (hts _ tw_355) (fun _ h9 => h9) rfl dX3_fallsTo_73 ?_
                refine lv_lload (pc := 76) hx hb dX3_fallsTo_76 (lv_at hl 1 rfl) ?_
                refine b_lcmp_ne (pc := 78) (tgt := 84) hx hb rfl rfl dX3_fallsTo_78 dX3_fallsTo_79 (by decide) (fun c_21 => ?_) (fun c_21 => ?_)
                ·
                  refine b_iinc (pc := 84) hx hb dX3_fallsTo_84 hl (k := 2) rfl rfl tI_1 (by first | exact (om_2 hi_3.1) | ((first | omega | (unfold zBd at *; omega)))) (by first | exact (om_1282 c_9) | ((first | omega | (unfold zBd at *; omega)))) (by decide) (fun x_22 ex_22 ls hl => ?_)
                  replace hl : lv_has ls 9 [(5, .int x_22), (8, .int x_13), (6, .long y_4), (4, .int x_1), (0, .ref a0), (1, .long y0), (3, .ref a1)] := hl
                  refine lv_goto (pc := 87) (tgt := 11) hx hb dX3_fallsTo_87 (by decide) ?_
                  exact ih_lp_8 x_22 y_15 f_18 g_17 _ _ ls (by first | exact (om_1283 ex_22 hi_3.1 c_9) | ((first | omega | (unfold zBd at *; omega)))) (by (first | omega | (unfold zBd at *; omega))) hP hD hS (lv_sub hl [0, 3, 4, 5, 6] rfl)
                ·
                  refine lv_iconst (pc := 82) (v := 0) hx hb dX3_fallsTo_82 (by decide) ?_
                  exact hret 0 ((fun _ => 0), (fun k => [f_18].getD k (fun _ => 0)), (fun k => [g_17].getD k (fun _ => 0)), (fun _ => 0), (fun k => [y_15].getD k 0)) dX3_fallsTo_83 ⟨(Or.inl tI_0), (show (((0 : Int32).toInt = 0 ∧ ((-9223372036854775808) ≤ y0.toInt ∧ y0.toInt ≤ 9223372036854775806)) ∨ ((0 : Int32).toInt = 1 ∧ ((-9223372036854775808) ≤ y0.toInt ∧ y0.toInt ≤ 9223372036854775807)) ∨ ((0 : Int32).toInt = 0 ∧ ((-9223372036854775808) ≤ y0.toInt ∧ y0.toInt ≤ 9223372036854775806) ∧ (0 ≤ x8.toInt ∧ x8.toInt ≤ 4))) from (by first | exact (om_1279 tI_0 ry0.1 h_x8.1 h_x8.2 c_11 hi_5.2 ry0.2) | (have k9 := tI_0; (first | omega | (unfold zBd at *; omega)))))⟩ (g_psub (wc := (zS_88 cB cC cI cJ a0 a2 a3 a4 a5 a6 a7 y_15 x0 y2 y3 a1 a8 a9 a10 x1 x2 x3 x4 x5 x6 x7 a2 a11 a12 a13 a14 a15 a16 a17 x8 a7 g_17 a6 f_18 a11 g1)) hP [0, 1, 2, 3, 4, 5] rfl) (hD.sub (ws' := (zS_88 cB cC cI cJ a0 a2 a3 a4 a5 a6 a7 y_15 x0 y2 y3 a1 a8 a9 a10 x1 x2 x3 x4 x5 x6 x7 a2 a11 a12 a13 a14 a15 a16 a17 x8 a7 g_17 a6 f_18 a11 g1)) [0, 1, 2, 3, 4, 5] (by decide) rfl) hS
              ·
                refine lv_aload_n (pc := 49) hx hb dX3_fallsTo_49 rfl (lv_at hl 4 rfl) ?_
                refine va_get (pc := 50) (ci := 3) (v := .long y_15) (C := RX3) (T := TX3) (N := 10) hx hb hts iX3 hown hK hP 0 rfl rfl 6 (by decide) (hts _ tw_355) (fun _ h9 => h9) rfl dX3_fallsTo_50 ?_
                refine lv_lload_n (pc := 53) hx hb dX3_fallsTo_53 rfl (lv_at hl 5 rfl) ?_
                refine b_lcmp_le (pc := 54) (tgt := 72) hx hb rfl rfl dX3_fallsTo_54 dX3_fallsTo_55 (by decide) (fun c_23 => ?_) (fun c_23 => ?_)
                ·
                  refine lv_aload_n (pc := 72) hx hb dX3_fallsTo_72 rfl (lv_at hl 4 rfl) ?_
                  refine va_get (pc := 73) (ci := 3) (v := .long y_15) (C := RX3) (T := TX3) (N := 10) hx hb hts iX3 hown hK hP 0 rfl rfl 6 (by decide) (hts _ tw_355) (fun _ h9 => h9) rfl dX3_fallsTo_73 ?_
                  refine lv_lload (pc := 76) hx hb dX3_fallsTo_76 (lv_at hl 1 rfl) ?_
                  refine b_lcmp_ne (pc := 78) (tgt := 84) hx hb rfl rfl dX3_fallsTo_78 dX3_fallsTo_79 (by decide) (fun c_24 => ?_) (fun c_24 => ?_)
                  ·
                    refine b_iinc (pc := 84) hx hb dX3_fallsTo_84 hl (k := 2) rfl rfl tI_1 (by first | exact (om_2 hi_3.1) | ((first | omega | (unfold zBd at *; omega)))) (by first | exact (om_1282 c_9) | ((first | omega | (unfold zBd at *; omega)))) (by decide) (fun x_25 ex_25 ls hl => ?_)
                    replace hl : lv_has ls 9 [(5, .int x_25), (8, .int x_13), (6, .long y_4), (4, .int x_1), (0, .ref a0), (1, .long y0), (3, .ref a1)] := hl
                    refine lv_goto (pc := 87) (tgt := 11) hx hb dX3_fallsTo_87 (by decide) ?_
                    exact ih_lp_8 x_25 y_15 f_18 g_17 _ _ ls (by first | exact (om_1283 ex_25 hi_3.1 c_9) | ((first | omega | (unfold zBd at *; omega)))) (by (first | omega | (unfold zBd at *; omega))) hP hD hS (lv_sub hl [0, 3, 4, 5, 6] rfl)
                  ·
                    refine lv_iconst (pc := 82) (v := 0) hx hb dX3_fallsTo_82 (by decide) ?_
                    exact hret 0 ((fun _ => 0), (fun k => [f_18].getD k (fun _ => 0)), (fun k => [g_17].getD k (fun _ => 0)), (fun _ => 0), (fun k => [y_15].getD k 0)) dX3_fallsTo_83 ⟨(Or.inl tI_0), (show (((0 : Int32).toInt = 0 ∧ ((-9223372036854775808) ≤ y0.toInt ∧ y0.toInt ≤ 9223372036854775806)) ∨ ((0 : Int32).toInt = 1 ∧ ((-9223372036854775808) ≤ y0.toInt ∧ y0.toInt ≤ 9223372036854775807)) ∨ ((0 : Int32).toInt = 0 ∧ ((-9223372036854775808) ≤ y0.toInt ∧ y0.toInt ≤ 9223372036854775806) ∧ (0 ≤ x8.toInt ∧ x8.toInt ≤ 4))) from (by first | exact (om_1284 tI_0 ry0.1 h_x8.1 h_x8.2 c_23 c_11 c_24 ry0.2) | (have k9 := tI_0; (first | omega | (unfold zBd at *; omega)))))⟩ (g_psub (wc := (zS_88 cB cC cI cJ a0 a2 a3 a4 a5 a6 a7 y_15 x0 y2 y3 a1 a8 a9 a10 x1 x2 x3 x4 x5 x6 x7 a2 a11 a12 a13 a14 a15 a16 a17 x8 a7 g_17 a6 f_18 a11 g1)) hP [0, 1, 2, 3, 4, 5] rfl) (hD.sub (ws' := (zS_88 cB cC cI cJ a0 a2 a3 a4 a5 a6 a7 y_15 x0 y2 y3 a1 a8 a9 a10 x1 x2 x3 x4 x5 x6 x7 a2 a11 a12 a13 a14 a15 a16 a17 x8 a7 g_17 a6 f_18 a11 g1)) [0, 1, 2, 3, 4, 5] (by decide) rfl) hS
                ·
                  refine lv_aload_n (pc := 58) hx hb dX3_fallsTo_58 rfl (lv_at hl 4 rfl) ?_
                  refine lv_iload (pc := 59) hx hb dX3_fallsTo_59 (lv_at hl 0 rfl) ?_
                  refine lv_iload (pc := 61) hx hb dX3_fallsTo_61 (lv_at hl 3 rfl) ?_
                  refine gd_v (pc := 63) (wc := (zS_64 cB cC cI cJ a0 a2 a3 a4 a5 a6 a7 y_15 x0 y2 y3 a7 g_17 a6 f_18 a2 a11 a12 a13 a14 a15 a16 a17 x8 a11 g1)) hP hD hS hA [0, 3, 4, 2, 5] rfl (by decide +kernel) (fun _ => by rfl) (fun hPc hDc => va_runV (As := [.int x_13, .int x_1]) (rest := []) ⟨hx, hb, hml, hown, hts⟩ (k_X3_better l D cB cC cI cJ _ a0 a2 a3 a4 a5 a6 a7 a11 a12 a13 a14 a15 a16 a17 x_13 x_1 x0 x8 y_15 y2 y3 f_18 g_17 g1 (by first | exact (om_1134 hi_14.1 c_20 h_x8.2) | ((first | omega | (unfold zBd at *; omega)))) h_x0 h_x8) ⟨gcwB hts tw_1264 tw_12 tw_1261 hd_yX3_better ⟨Nat.le_of_ble_eq_true rfl, Nat.le_of_ble_eq_true rfl⟩, hts _ tw_1263, hts _ tp_51⟩ ⟨gblind, va_recv hK hPc (ci := 3) (q0 := 0) rfl rfl, (gpreS hPc hK hDc hN).2⟩ rfl rfl hl.1 rfl (lv_room (Nat.le_of_ble_eq_true rfl)) dX3_fallsTo_63 ⟨Nat.le_of_ble_eq_true rfl, Nat.le_of_ble_eq_true rfl⟩) (fun u_26 H locs hw_28 hP hD hS => ?_)
                  replace hP : va_P D gcl (zS_88 cB cC cI cJ a0 a2 a3 a4 a5 a6 a7 (u_26.2.2.2.2 0) x0 y2 y3 a1 a8 a9 a10 x1 x2 x3 x4 x5 x6 x7 a2 a11 a12 a13 a14 a15 a16 a17 x8 a7 (u_26.2.2.1 0) a6 (u_26.2.1 0) a11 g1) H := hP
                  replace hD : va_D A (zS_88 cB cC cI cJ a0 a2 a3 a4 a5 a6 a7 (u_26.2.2.2.2 0) x0 y2 y3 a1 a8 a9 a10 x1 x2 x3 x4 x5 x6 x7 a2 a11 a12 a13 a14 a15 a16 a17 x8 a7 (u_26.2.2.1 0) a6 (u_26.2.1 0) a11 g1) := hD
                  have ru_26_0 := n_rngL (u_26.2.2.2.2 0)
                  refine b_iinc (pc := 66) hx hb dX3_fallsTo_66 hl (k := 0) rfl rfl tI_1 (by first | exact (om_2 hi_14.1) | ((first | omega | (unfold zBd at *; omega)))) (by first | exact (om_1132 c_20 h_x8.2) | ((first | omega | (unfold zBd at *; omega)))) (by decide) (fun x_29 ex_29 ls hl => ?_)
                  replace hl : lv_has ls 9 [(8, .int x_29), (6, .long y_4), (5, .int x_2), (4, .int x_1), (0, .ref a0), (1, .long y0), (3, .ref a1)] := hl
                  refine lv_goto (pc := 69) (tgt := 37) hx hb dX3_fallsTo_69 (by decide) ?_
                  exact ih_lp_19 x_29 (u_26.2.2.2.2 0) (u_26.2.1 0) (u_26.2.2.1 0) _ _ ls (by first | exact (om_1133 ex_29 hi_14.1 c_20 h_x8.2) | ((first | omega | (unfold zBd at *; omega)))) (by (first | omega | (unfold zBd at *; omega))) hP hD hS (lv_sub hl [0, 1, 2, 3, 4, 5, 6] rfl)
          exact lp_19 _ 0 y_4 f_7 g_6 _ _ ls (n_c tI_0 (by decide)) (Nat.lt_succ_self _) hP hD hS (lv_sub hl [0, 1, 2, 3, 4, 5, 6] rfl)
  exact lp_8 _ 0 y1 f0 g0 _ _ ls (n_c tI_0 (by decide)) (Nat.lt_succ_self _) hP hD hS (lv_sub hl [0, 1, 2, 3, 4] rfl)
set_option maxHeartbeats 4000000 in
set_option maxRecDepth 100000 in
theorem k_X3_nextLetters (l : Launch) (D : va_G) (cB cC cI cJ : ClassId) (sz : Nat) (a0 a1 a2 a3 a4 a5 a6 a7 a8 a9 a10 a11 a12 a13 a14 a15 a16 a17 : Nat) (x0 x1 x2 x3 x4 x5 x6 x7 x8 : Int32) (y0 y1 y2 : Int64) (f0 : Nat → Int32) (g0 g1 : Nat → Int64) (h_x0 : zBd x0.toInt 0 1) (h_x1 : zBd x1.toInt 0 4) (h_x2 : zBd x2.toInt (-1) 8) (h_x3 : zBd x3.toInt (-1) 5) (h_x4 : zBd x4.toInt (-1) 6) (h_x5 : zBd x5.toInt 0 6) (h_x6 : zBd x6.toInt 0 16) : Met l yX3_nextLetters (.code yX3_nextLetters cX3_nextLetters 3 none :: lw_gd) ({ frames := 1, cells := 0, slots := 0, locals := 25 }) (gPre D [(cB, .byte), (cC, .char), (cI, .int), (cJ, .long)] [.ref a0, .ref a1] (zS_84 cB cC cI cJ a0 a2 a3 a4 a5 a6 a7 y0 x0 y1 y2 a2 a8 a9 a10 a11 a12 a13 a14 x1 a5 f0 a7 g0 a8 g1 a1 a15 a16 a17 x2 x3 x4 x5 x6 x7 x8) sz) (va_Qv (fun u => True) (gB D (va_A (zS_84 cB cC cI cJ a0 a2 a3 a4 a5 a6 a7 y0 x0 y1 y2 a2 a8 a9 a10 a11 a12 a13 a14 x1 a5 f0 a7 g0 a8 g1 a1 a15 a16 a17 x2 x3 x4 x5 x6 x7 x8) sz) (fun u : gEx => (zS_84 cB cC cI cJ a0 a2 a3 a4 a5 a6 a7 (u.2.2.2.2 0) x0 y1 y2 a2 a8 a9 a10 a11 a12 a13 a14 x1 a5 (u.2.1 0) a7 (u.2.2.1 0) a8 g1 a1 a15 a16 a17 x2 x3 x4 x5 x6 x7 x8))) (va_A (zS_84 cB cC cI cJ a0 a2 a3 a4 a5 a6 a7 y0 x0 y1 y2 a2 a8 a9 a10 a11 a12 a13 a14 x1 a5 f0 a7 g0 a8 g1 a1 a15 a16 a17 x2 x3 x4 x5 x6 x7 x8) sz)) 0 0 (va_A (zS_84 cB cC cI cJ a0 a2 a3 a4 a5 a6 a7 y0 x0 y1 y2 a2 a8 a9 a10 a11 a12 a13 a14 x1 a5 f0 a7 g0 a8 g1 a1 a15 a16 a17 x2 x3 x4 x5 x6 x7 x8) sz) := by
  refine gOf_v (by decide +kernel) (Nat.le_of_ble_eq_true rfl) ?_
  intro p e s m args below meth c ls A Q hx hb hts hown hml hN hK hP hD hA hl hret
  replace hown : s.vm.findClass RX3 = some m.cls := hown
  have hS : va_S A s.heap s.heap [] := va_S.rf
  replace hP : va_P D gcl (zS_84 cB cC cI cJ a0 a2 a3 a4 a5 a6 a7 y0 x0 y1 y2 a2 a8 a9 a10 a11 a12 a13 a14 x1 a5 f0 a7 g0 a8 g1 a1 a15 a16 a17 x2 x3 x4 x5 x6 x7 x8) s.heap := hP
  replace hl : lv_has ls 3 [(0, .ref a0), (1, .ref a1)] := hl
  have ry0 := n_rngL y0
  have ry1 := n_rngL y1
  have ry2 := n_rngL y2
  have rx7 : zBd x7.toInt (-2147483648) 2147483647 := n_rng x7
  have rx8 : zBd x8.toInt (-2147483648) 2147483647 := n_rng x8
  refine lv_aload_n (pc := 0) hx hb dX3_nextLetters_0 rfl (lv_at hl 0 rfl) ?_
  refine va_get (pc := 1) (ci := 3) (v := .ref a2) (C := RX3) (T := TX3) (N := 10) hx hb hts iX3 hown hK hP 0 rfl rfl 0 (by decide) (hts _ tw_348) (fun _ h9 => h9) rfl dX3_nextLetters_1 ?_
  refine va_getN (pc := 4) (ci := 10) (v := .int x1) (C := RX10) (T := TX10) (N := 8) hx hb hts iX10 hown hK hP 1 rfl rfl 7 (by decide) (va_Nw.use rfl (hN _ tn_223)) (fun _ h9 => h9) rfl dX3_nextLetters_4 ?_
  refine lv_istore_n (pc := 7) (lv' := [(2, .int x1), (0, .ref a0), (1, .ref a1)]) hx hb dX3_nextLetters_7 rfl hl (by decide) rfl (fun ls hl => ?_)
  have lp_7 : ∀ (n : Nat) (x_1 : Int32) (y_3 : Int64) (f_5 : Nat → Int32) (g_6 : Nat → Int64) (H : Heap) (locs : List Loc) (ls : Array Slot), (0 ≤ x_1.toInt ∧ x_1.toInt ≤ 4) → (x_1.toInt + 2147483648).toNat < n → va_P D gcl (zS_84 cB cC cI cJ a0 a2 a3 a4 a5 a6 a7 y_3 x0 y1 y2 a2 a8 a9 a10 a11 a12 a13 a14 x1 a5 f_5 a7 g_6 a8 g1 a1 a15 a16 a17 x2 x3 x4 x5 x6 x7 x8) H → va_D A (zS_84 cB cC cI cJ a0 a2 a3 a4 a5 a6 a7 y_3 x0 y1 y2 a2 a8 a9 a10 a11 a12 a13 a14 x1 a5 f_5 a7 g_6 a8 g1 a1 a15 a16 a17 x2 x3 x4 x5 x6 x7 x8) → va_S A s.heap H locs → lv_has ls 3 [(2, .int x_1), (0, .ref a0), (1, .ref a1)] → W p l e ({ frames := 1, cells := 0, slots := 0, locals := 25 }) s m args below meth c H locs 0 0 Q (F0 m 8 ls []) := by
    intro n
    induction n with
    | zero => intro x_1 y_3 f_5 g_6 H locs ls hi_2 hmu; exact absurd hmu (Nat.not_lt_zero _)
    | succ n ih_lp_7 =>
      intro x_1 y_3 f_5 g_6 H locs ls hi_2 hmu_lp_7 hP hD hS hl
      have hi_4 := n_rngL y_3
      refine lv_iload_n (pc := 8) hx hb dX3_nextLetters_8 rfl (lv_at hl 0 rfl) ?_
      refine b_if_le (pc := 9) (tgt := 59) hx hb rfl  dX3_nextLetters_9 (by decide) (fun c_8 => ?_) (fun c_8 => ?_)
      ·
        refine lv_aload_n (pc := 59) hx hb dX3_nextLetters_59 rfl (lv_at hl 1 rfl) ?_
        refine va_get (pc := 60) (ci := 3) (v := .ref a5) (C := RX3) (T := TX3) (N := 10) hx hb hts iX3 hown hK hP 0 rfl rfl 3 (by decide) (hts _ tw_352) (fun _ h9 => h9) rfl dX3_nextLetters_60 ?_
        refine lv_iload_n (pc := 63) hx hb dX3_nextLetters_63 rfl (lv_at hl 0 rfl) ?_
        refine lv_dup2_11 (pc := 64) hx hb dX3_nextLetters_64 rfl rfl ?_
        refine va_iald (pc := 65) hx hb hK hP 2 2 rfl rfl (n_in rfl (by first | exact (om_0 hi_2.1) | ((first | omega | (unfold zBd at *; omega)))) (by first | exact (om_1255 c_8) | ((first | omega | (unfold zBd at *; omega))))) dX3_nextLetters_65 ?_
        refine lv_topi (fun x_9 ex_9 => ?_)
        have rx_9 : zBd x_9.toInt (-2147483648) 2147483647 := n_rng x_9
        refine lv_iconst (pc := 66) (v := 2) hx hb dX3_nextLetters_66 (by decide) ?_
        refine lv_iadd (pc := 67) hx hb dX3_nextLetters_67 ?_
        refine lv_topi (fun x_10 _ => ?_)
        have rx_10 : zBd x_10.toInt (-2147483648) 2147483647 := n_rng x_10
        refine g_iastore (pc := 68) hx hb hK hP hD hS 2 2 rfl rfl (n_in rfl (by first | exact (om_0 hi_2.1) | ((first | omega | (unfold zBd at *; omega)))) (by first | exact (om_1255 c_8) | ((first | omega | (unfold zBd at *; omega))))) dX3_nextLetters_68 (fun f_11 H locs hP hD hS => ?_)
        replace hP : va_P D gcl (zS_84 cB cC cI cJ a0 a2 a3 a4 a5 a6 a7 y_3 x0 y1 y2 a2 a8 a9 a10 a11 a12 a13 a14 x1 a5 f_11 a7 g_6 a8 g1 a1 a15 a16 a17 x2 x3 x4 x5 x6 x7 x8) H := hP
        replace hD : va_D A (zS_84 cB cC cI cJ a0 a2 a3 a4 a5 a6 a7 y_3 x0 y1 y2 a2 a8 a9 a10 a11 a12 a13 a14 x1 a5 f_11 a7 g_6 a8 g1 a1 a15 a16 a17 x2 x3 x4 x5 x6 x7 x8) := hD
        refine lv_aload_n (pc := 69) hx hb dX3_nextLetters_69 rfl (lv_at hl 1 rfl) ?_
        refine lv_iload_n (pc := 70) hx hb dX3_nextLetters_70 rfl (lv_at hl 0 rfl) ?_
        refine lv_ldc2 (pc := 71) hx hb hown (hts _ tw_1255) dX3_nextLetters_71 ?_
        refine gd_v (pc := 74) (wc := (zS_114 cB cC cI cJ a0 a2 a3 a4 a5 a6 a7 y_3 x0 y1 y2 a7 g_6 a2 a8 a9 a10 a11 a12 a13 a14 x1 a8 g1)) hP hD hS hA [0, 3, 1, 4] rfl (by decide +kernel) (fun _ => by rfl) (fun hPc hDc => va_runV (As := [.int x_1, .long 2]) (rest := []) ⟨hx, hb, hml, hown, hts⟩ (k_X3_move l D cB cC cI cJ _ a0 a2 a3 a4 a5 a6 a7 a8 a9 a10 a11 a12 a13 a14 x_1 x0 x1 2 y_3 y1 y2 g_6 g1 hi_2 h_x0 h_x1) ⟨gcwB hts tw_1254 tw_12 tw_1251 hd_yX3_move ⟨Nat.le_of_ble_eq_true rfl, Nat.le_of_ble_eq_true rfl⟩, hts _ tw_1253, hts _ tp_49⟩ ⟨gblind, va_recv hK hPc (ci := 3) (q0 := 0) rfl rfl, (gpreS hPc hK hDc hN).2⟩ rfl rfl hl.1 rfl (lv_room (Nat.le_of_ble_eq_true rfl)) dX3_nextLetters_74 ⟨Nat.le_of_ble_eq_true rfl, Nat.le_of_ble_eq_true rfl⟩) (fun u_12 H locs hw_14 hP hD hS => ?_)
        replace hP : va_P D gcl (zS_84 cB cC cI cJ a0 a2 a3 a4 a5 a6 a7 (u_12.2.2.2.2 0) x0 y1 y2 a2 a8 a9 a10 a11 a12 a13 a14 x1 a5 f_11 a7 (u_12.2.2.1 0) a8 g1 a1 a15 a16 a17 x2 x3 x4 x5 x6 x7 x8) H := hP
        replace hD : va_D A (zS_84 cB cC cI cJ a0 a2 a3 a4 a5 a6 a7 (u_12.2.2.2.2 0) x0 y1 y2 a2 a8 a9 a10 a11 a12 a13 a14 x1 a5 f_11 a7 (u_12.2.2.1 0) a8 g1 a1 a15 a16 a17 x2 x3 x4 x5 x6 x7 x8) := hD
        have ru_12_0 := n_rngL (u_12.2.2.2.2 0)
        have hw_15 : (((0 ≤ x1.toInt ∧ x1.toInt ≤ 4))) := hw_14
        have kk0_r_13 := tL_2
        exact hret ((fun _ => 0), (fun k => [f_11].getD k (fun _ => 0)), (fun k => [(u_12.2.2.1 0)].getD k (fun _ => 0)), (fun _ => 0), (fun k => [(u_12.2.2.2.2 0)].getD k 0)) dX3_nextLetters_77 trivial (g_psub (wc := (zS_84 cB cC cI cJ a0 a2 a3 a4 a5 a6 a7 (u_12.2.2.2.2 0) x0 y1 y2 a2 a8 a9 a10 a11 a12 a13 a14 x1 a5 f_11 a7 (u_12.2.2.1 0) a8 g1 a1 a15 a16 a17 x2 x3 x4 x5 x6 x7 x8)) hP [0, 1, 2, 3, 4, 5] rfl) (hD.sub (ws' := (zS_84 cB cC cI cJ a0 a2 a3 a4 a5 a6 a7 (u_12.2.2.2.2 0) x0 y1 y2 a2 a8 a9 a10 a11 a12 a13 a14 x1 a5 f_11 a7 (u_12.2.2.1 0) a8 g1 a1 a15 a16 a17 x2 x3 x4 x5 x6 x7 x8)) [0, 1, 2, 3, 4, 5] (by decide) rfl) hS
      ·
        refine lv_aload_n (pc := 12) hx hb dX3_nextLetters_12 rfl (lv_at hl 1 rfl) ?_
        refine va_get (pc := 13) (ci := 3) (v := .ref a5) (C := RX3) (T := TX3) (N := 10) hx hb hts iX3 hown hK hP 0 rfl rfl 3 (by decide) (hts _ tw_352) (fun _ h9 => h9) rfl dX3_nextLetters_13 ?_
        refine lv_iload_n (pc := 16) hx hb dX3_nextLetters_16 rfl (lv_at hl 0 rfl) ?_
        refine va_iald (pc := 17) hx hb hK hP 2 2 rfl rfl (n_in rfl (by first | exact (om_1232 c_8) | ((first | omega | (unfold zBd at *; omega)))) (by first | exact (om_1135 hi_2.2) | ((first | omega | (unfold zBd at *; omega))))) dX3_nextLetters_17 ?_
        refine lv_topi (fun x_16 ex_16 => ?_)
        have rx_16 : zBd x_16.toInt (-2147483648) 2147483647 := n_rng x_16
        refine lv_aload_n (pc := 18) hx hb dX3_nextLetters_18 rfl (lv_at hl 2 rfl) ?_
        refine va_getN (pc := 19) (ci := 1) (v := .int x2) (C := RX1) (T := TX1) (N := 10) hx hb hts iX1 hown hK hP 5 rfl rfl 3 (by decide) (va_Nw.use rfl (hN _ tn_113)) (fun _ h9 => h9) rfl dX3_nextLetters_19 ?_
        refine lv_iconst (pc := 22) (v := 1) hx hb dX3_nextLetters_22 (by decide) ?_
        refine b_isub (pc := 23) hx hb rfl tI_1 (by first | exact (om_1089 h_x2.1) | ((first | omega | (unfold zBd at *; omega)))) (by first | exact (om_1094 h_x2.2) | ((first | omega | (unfold zBd at *; omega)))) dX3_nextLetters_23 (fun x_17 ex_17 => ?_)
        refine b_icmp_ne (pc := 24) (tgt := 59) hx hb rfl rfl  dX3_nextLetters_24 (by decide) (fun c_18 => ?_) (fun c_18 => ?_)
        ·
          refine lv_aload_n (pc := 59) hx hb dX3_nextLetters_59 rfl (lv_at hl 1 rfl) ?_
          refine va_get (pc := 60) (ci := 3) (v := .ref a5) (C := RX3) (T := TX3) (N := 10) hx hb hts iX3 hown hK hP 0 rfl rfl 3 (by decide) (hts _ tw_352) (fun _ h9 => h9) rfl dX3_nextLetters_60 ?_
          refine lv_iload_n (pc := 63) hx hb dX3_nextLetters_63 rfl (lv_at hl 0 rfl) ?_
          refine lv_dup2_11 (pc := 64) hx hb dX3_nextLetters_64 rfl rfl ?_
          refine va_iald (pc := 65) hx hb hK hP 2 2 rfl rfl (n_in rfl (by first | exact (om_1232 c_8) | ((first | omega | (unfold zBd at *; omega)))) (by first | exact (om_1135 hi_2.2) | ((first | omega | (unfold zBd at *; omega))))) dX3_nextLetters_65 ?_
          refine gI (y := x_16) ex_16.symm ?_
          refine lv_iconst (pc := 66) (v := 2) hx hb dX3_nextLetters_66 (by decide) ?_
          refine lv_iadd (pc := 67) hx hb dX3_nextLetters_67 ?_
          refine lv_topi (fun x_19 _ => ?_)
          have rx_19 : zBd x_19.toInt (-2147483648) 2147483647 := n_rng x_19
          refine g_iastore (pc := 68) hx hb hK hP hD hS 2 2 rfl rfl (n_in rfl (by first | exact (om_1232 c_8) | ((first | omega | (unfold zBd at *; omega)))) (by first | exact (om_1135 hi_2.2) | ((first | omega | (unfold zBd at *; omega))))) dX3_nextLetters_68 (fun f_20 H locs hP hD hS => ?_)
          replace hP : va_P D gcl (zS_84 cB cC cI cJ a0 a2 a3 a4 a5 a6 a7 y_3 x0 y1 y2 a2 a8 a9 a10 a11 a12 a13 a14 x1 a5 f_20 a7 g_6 a8 g1 a1 a15 a16 a17 x2 x3 x4 x5 x6 x7 x8) H := hP
          replace hD : va_D A (zS_84 cB cC cI cJ a0 a2 a3 a4 a5 a6 a7 y_3 x0 y1 y2 a2 a8 a9 a10 a11 a12 a13 a14 x1 a5 f_20 a7 g_6 a8 g1 a1 a15 a16 a17 x2 x3 x4 x5 x6 x7 x8) := hD
          refine lv_aload_n (pc := 69) hx hb dX3_nextLetters_69 rfl (lv_at hl 1 rfl) ?_
          refine lv_iload_n (pc := 70) hx hb dX3_nextLetters_70 rfl (lv_at hl 0 rfl) ?_
          refine lv_ldc2 (pc := 71) hx hb hown (hts _ tw_1255) dX3_nextLetters_71 ?_
          refine gd_v (pc := 74) (wc := (zS_114 cB cC cI cJ a0 a2 a3 a4 a5 a6 a7 y_3 x0 y1 y2 a7 g_6 a2 a8 a9 a10 a11 a12 a13 a14 x1 a8 g1)) hP hD hS hA [0, 3, 1, 4] rfl (by decide +kernel) (fun _ => by rfl) (fun hPc hDc => va_runV (As := [.int x_1, .long 2]) (rest := []) ⟨hx, hb, hml, hown, hts⟩ (k_X3_move l D cB cC cI cJ _ a0 a2 a3 a4 a5 a6 a7 a8 a9 a10 a11 a12 a13 a14 x_1 x0 x1 2 y_3 y1 y2 g_6 g1 hi_2 h_x0 h_x1) ⟨gcwB hts tw_1254 tw_12 tw_1251 hd_yX3_move ⟨Nat.le_of_ble_eq_true rfl, Nat.le_of_ble_eq_true rfl⟩, hts _ tw_1253, hts _ tp_49⟩ ⟨gblind, va_recv hK hPc (ci := 3) (q0 := 0) rfl rfl, (gpreS hPc hK hDc hN).2⟩ rfl rfl hl.1 rfl (lv_room (Nat.le_of_ble_eq_true rfl)) dX3_nextLetters_74 ⟨Nat.le_of_ble_eq_true rfl, Nat.le_of_ble_eq_true rfl⟩) (fun u_21 H locs hw_23 hP hD hS => ?_)
          replace hP : va_P D gcl (zS_84 cB cC cI cJ a0 a2 a3 a4 a5 a6 a7 (u_21.2.2.2.2 0) x0 y1 y2 a2 a8 a9 a10 a11 a12 a13 a14 x1 a5 f_20 a7 (u_21.2.2.1 0) a8 g1 a1 a15 a16 a17 x2 x3 x4 x5 x6 x7 x8) H := hP
          replace hD : va_D A (zS_84 cB cC cI cJ a0 a2 a3 a4 a5 a6 a7 (u_21.2.2.2.2 0) x0 y1 y2 a2 a8 a9 a10 a11 a12 a13 a14 x1 a5 f_20 a7 (u_21.2.2.1 0) a8 g1 a1 a15 a16 a17 x2 x3 x4 x5 x6 x7 x8) := hD
          have ru_21_0 := n_rngL (u_21.2.2.2.2 0)
          have hw_24 : (((0 ≤ x1.toInt ∧ x1.toInt ≤ 4))) := hw_23
          have kk0_r_22 := tL_2
          exact hret ((fun _ => 0), (fun k => [f_20].getD k (fun _ => 0)), (fun k => [(u_21.2.2.1 0)].getD k (fun _ => 0)), (fun _ => 0), (fun k => [(u_21.2.2.2.2 0)].getD k 0)) dX3_nextLetters_77 trivial (g_psub (wc := (zS_84 cB cC cI cJ a0 a2 a3 a4 a5 a6 a7 (u_21.2.2.2.2 0) x0 y1 y2 a2 a8 a9 a10 a11 a12 a13 a14 x1 a5 f_20 a7 (u_21.2.2.1 0) a8 g1 a1 a15 a16 a17 x2 x3 x4 x5 x6 x7 x8)) hP [0, 1, 2, 3, 4, 5] rfl) (hD.sub (ws' := (zS_84 cB cC cI cJ a0 a2 a3 a4 a5 a6 a7 (u_21.2.2.2.2 0) x0 y1 y2 a2 a8 a9 a10 a11 a12 a13 a14 x1 a5 f_20 a7 (u_21.2.2.1 0) a8 g1 a1 a15 a16 a17 x2 x3 x4 x5 x6 x7 x8)) [0, 1, 2, 3, 4, 5] (by decide) rfl) hS
        ·
          refine lv_aload_n (pc := 27) hx hb dX3_nextLetters_27 rfl (lv_at hl 1 rfl) ?_
          refine va_get (pc := 28) (ci := 3) (v := .ref a5) (C := RX3) (T := TX3) (N := 10) hx hb hts iX3 hown hK hP 0 rfl rfl 3 (by decide) (hts _ tw_352) (fun _ h9 => h9) rfl dX3_nextLetters_28 ?_
          refine lv_iload_n (pc := 31) hx hb dX3_nextLetters_31 rfl (lv_at hl 0 rfl) ?_
          refine lv_iconst (pc := 32) (v := 1) hx hb dX3_nextLetters_32 (by decide) ?_
          refine lv_aload_n (pc := 33) hx hb dX3_nextLetters_33 rfl (lv_at hl 2 rfl) ?_
          refine va_getN (pc := 34) (ci := 1) (v := .int x2) (C := RX1) (T := TX1) (N := 10) hx hb hts iX1 hown hK hP 5 rfl rfl 3 (by decide) (va_Nw.use rfl (hN _ tn_113)) (fun _ h9 => h9) rfl dX3_nextLetters_34 ?_
          refine b_isub (pc := 37) hx hb tI_1 rfl (by first | exact (om_1220 h_x2.2) | ((first | omega | (unfold zBd at *; omega)))) (by first | exact (om_1221 h_x2.1) | ((first | omega | (unfold zBd at *; omega)))) dX3_nextLetters_37 (fun x_25 ex_25 => ?_)
          refine g_iastore (pc := 38) hx hb hK hP hD hS 2 2 rfl rfl (n_in rfl (by first | exact (om_1232 c_8) | ((first | omega | (unfold zBd at *; omega)))) (by first | exact (om_1135 hi_2.2) | ((first | omega | (unfold zBd at *; omega))))) dX3_nextLetters_38 (fun f_26 H locs hP hD hS => ?_)
          replace hP : va_P D gcl (zS_84 cB cC cI cJ a0 a2 a3 a4 a5 a6 a7 y_3 x0 y1 y2 a2 a8 a9 a10 a11 a12 a13 a14 x1 a5 f_26 a7 g_6 a8 g1 a1 a15 a16 a17 x2 x3 x4 x5 x6 x7 x8) H := hP
          replace hD : va_D A (zS_84 cB cC cI cJ a0 a2 a3 a4 a5 a6 a7 y_3 x0 y1 y2 a2 a8 a9 a10 a11 a12 a13 a14 x1 a5 f_26 a7 g_6 a8 g1 a1 a15 a16 a17 x2 x3 x4 x5 x6 x7 x8) := hD
          refine lv_aload_n (pc := 39) hx hb dX3_nextLetters_39 rfl (lv_at hl 1 rfl) ?_
          refine lv_iload_n (pc := 40) hx hb dX3_nextLetters_40 rfl (lv_at hl 0 rfl) ?_
          refine lv_iconst (pc := 41) (v := 2) hx hb dX3_nextLetters_41 (by decide) ?_
          refine lv_aload_n (pc := 42) hx hb dX3_nextLetters_42 rfl (lv_at hl 1 rfl) ?_
          refine va_get (pc := 43) (ci := 3) (v := .ref a5) (C := RX3) (T := TX3) (N := 10) hx hb hts iX3 hown hK hP 0 rfl rfl 3 (by decide) (hts _ tw_352) (fun _ h9 => h9) rfl dX3_nextLetters_43 ?_
          refine lv_iload_n (pc := 46) hx hb dX3_nextLetters_46 rfl (lv_at hl 0 rfl) ?_
          refine va_iald (pc := 47) hx hb hK hP 2 2 rfl rfl (n_in rfl (by first | exact (om_1232 c_8) | ((first | omega | (unfold zBd at *; omega)))) (by first | exact (om_1135 hi_2.2) | ((first | omega | (unfold zBd at *; omega))))) dX3_nextLetters_47 ?_
          refine lv_topi (fun x_27 ex_27 => ?_)
          have rx_27 : zBd x_27.toInt (-2147483648) 2147483647 := n_rng x_27
          refine lv_imul (pc := 48) hx hb dX3_nextLetters_48 ?_
          refine lv_topi (fun x_28 _ => ?_)
          have rx_28 : zBd x_28.toInt (-2147483648) 2147483647 := n_rng x_28
          refine b_i2l (pc := 49) hx hb rfl dX3_nextLetters_49 (fun y_29 ey_29 => ?_)
          have ry_29 : zBd x_28.toInt (-2147483648) 2147483647 := n_rng x_28
          refine gd_v (pc := 50) (wc := (zS_114 cB cC cI cJ a0 a2 a3 a4 a5 a6 a7 y_3 x0 y1 y2 a7 g_6 a2 a8 a9 a10 a11 a12 a13 a14 x1 a8 g1)) hP hD hS hA [0, 3, 1, 4] rfl (by decide +kernel) (fun _ => by rfl) (fun hPc hDc => va_runV (As := [.int x_1, .long y_29]) (rest := []) ⟨hx, hb, hml, hown, hts⟩ (k_X3_move l D cB cC cI cJ _ a0 a2 a3 a4 a5 a6 a7 a8 a9 a10 a11 a12 a13 a14 x_1 x0 x1 y_29 y_3 y1 y2 g_6 g1 hi_2 h_x0 h_x1) ⟨gcwB hts tw_1254 tw_12 tw_1251 hd_yX3_move ⟨Nat.le_of_ble_eq_true rfl, Nat.le_of_ble_eq_true rfl⟩, hts _ tw_1253, hts _ tp_49⟩ ⟨gblind, va_recv hK hPc (ci := 3) (q0 := 0) rfl rfl, (gpreS hPc hK hDc hN).2⟩ rfl rfl hl.1 rfl (lv_room (Nat.le_of_ble_eq_true rfl)) dX3_nextLetters_50 ⟨Nat.le_of_ble_eq_true rfl, Nat.le_of_ble_eq_true rfl⟩) (fun u_30 H locs hw_32 hP hD hS => ?_)
          replace hP : va_P D gcl (zS_84 cB cC cI cJ a0 a2 a3 a4 a5 a6 a7 (u_30.2.2.2.2 0) x0 y1 y2 a2 a8 a9 a10 a11 a12 a13 a14 x1 a5 f_26 a7 (u_30.2.2.1 0) a8 g1 a1 a15 a16 a17 x2 x3 x4 x5 x6 x7 x8) H := hP
          replace hD : va_D A (zS_84 cB cC cI cJ a0 a2 a3 a4 a5 a6 a7 (u_30.2.2.2.2 0) x0 y1 y2 a2 a8 a9 a10 a11 a12 a13 a14 x1 a5 f_26 a7 (u_30.2.2.1 0) a8 g1 a1 a15 a16 a17 x2 x3 x4 x5 x6 x7 x8) := hD
          have ru_30_0 := n_rngL (u_30.2.2.2.2 0)
          have hw_33 : (((0 ≤ x1.toInt ∧ x1.toInt ≤ 4))) := hw_32
          refine b_iinc (pc := 53) hx hb dX3_nextLetters_53 hl (k := 0) rfl rfl tI_m1 (by first | exact (om_1234 c_8) | ((first | omega | (unfold zBd at *; omega)))) (by first | exact (om_1260 hi_2.2) | ((first | omega | (unfold zBd at *; omega)))) (by decide) (fun x_34 ex_34 ls hl => ?_)
          replace hl : lv_has ls 3 [(2, .int x_34), (0, .ref a0), (1, .ref a1)] := hl
          refine lv_goto (pc := 56) (tgt := 8) hx hb dX3_nextLetters_56 (by decide) ?_
          exact ih_lp_7 x_34 (u_30.2.2.2.2 0) f_26 (u_30.2.2.1 0) _ _ ls (by first | exact (om_1261 ex_34 c_8 hi_2.2) | ((first | omega | (unfold zBd at *; omega)))) (by (first | omega | (unfold zBd at *; omega))) hP hD hS (lv_sub hl [0, 1, 2] rfl)
  exact lp_7 _ x1 y0 f0 g0 _ _ ls h_x1 (Nat.lt_succ_self _) hP hD hS (lv_sub hl [0, 1, 2] rfl)
theorem om_1285 {a : Int} (h0 : (a ≤ 23)) : (a - 1 ≤ 2147483647) := by omega
set_option maxHeartbeats 4000000 in
set_option maxRecDepth 100000 in
theorem k_X3_keepFound (l : Launch) (D : va_G) (cB cC cI cJ : ClassId) (sz : Nat) (a0 a1 a2 a3 a4 a5 a6 a7 a8 a9 a10 a11 a12 a13 : Nat) (x0 x1 x2 : Int32) (y0 y1 y2 : Int64) (f0 f1 : Nat → Int32) (h_x1 : zBd x1.toInt 0 1) (h_x2 : zBd x2.toInt 0 4) (hf_f1 : (∀ j, 0 ≤ (f1 j).toInt ∧ (f1 j).toInt ≤ 23)) : Met l yX3_keepFound (.code yX3_keepFound cX3_keepFound 3 none :: lw_gd) ({ frames := 0, cells := 0, slots := 0, locals := 0 }) (gPre D [(cB, .byte), (cC, .char), (cI, .int), (cJ, .long)] [.ref a0, .int x0] (zS_145 cB cC cI cJ a0 a1 a2 a3 a4 a5 a6 y0 x1 y1 y2 a1 a7 a8 a9 a10 a11 a12 a13 x2 a3 f0 a13 f1) sz) (va_Qv (fun u => (((0 ≤ x2.toInt ∧ x2.toInt ≤ 4)))) (gB D (va_A (zS_145 cB cC cI cJ a0 a1 a2 a3 a4 a5 a6 y0 x1 y1 y2 a1 a7 a8 a9 a10 a11 a12 a13 x2 a3 f0 a13 f1) sz) (fun u : gEx => (zS_145 cB cC cI cJ a0 a1 a2 a3 a4 a5 a6 y0 x1 y1 y2 a1 a7 a8 a9 a10 a11 a12 a13 x2 a3 (u.2.1 0) a13 f1))) (va_A (zS_145 cB cC cI cJ a0 a1 a2 a3 a4 a5 a6 y0 x1 y1 y2 a1 a7 a8 a9 a10 a11 a12 a13 x2 a3 f0 a13 f1) sz)) 0 0 (va_A (zS_145 cB cC cI cJ a0 a1 a2 a3 a4 a5 a6 y0 x1 y1 y2 a1 a7 a8 a9 a10 a11 a12 a13 x2 a3 f0 a13 f1) sz) := by
  refine gOf_v (by decide +kernel) (Nat.le_of_ble_eq_true rfl) ?_
  intro p e s m args below meth c ls A Q hx hb hts hown hml hN hK hP hD hA hl hret
  replace hown : s.vm.findClass RX3 = some m.cls := hown
  have hS : va_S A s.heap s.heap [] := va_S.rf
  replace hP : va_P D gcl (zS_145 cB cC cI cJ a0 a1 a2 a3 a4 a5 a6 y0 x1 y1 y2 a1 a7 a8 a9 a10 a11 a12 a13 x2 a3 f0 a13 f1) s.heap := hP
  replace hl : lv_has ls 3 [(0, .ref a0), (1, .int x0)] := hl
  have rx0 : zBd x0.toInt (-2147483648) 2147483647 := n_rng x0
  have ry0 := n_rngL y0
  have ry1 := n_rngL y1
  have ry2 := n_rngL y2
  refine lv_iconst (pc := 0) (v := 0) hx hb dX3_keepFound_0 (by decide) ?_
  refine lv_istore_n (pc := 1) (lv' := [(2, .int 0), (0, .ref a0), (1, .int x0)]) hx hb dX3_keepFound_1 rfl hl (by decide) rfl (fun ls hl => ?_)
  have lp_4 : ∀ (n : Nat) (x_1 : Int32) (f_3 : Nat → Int32) (H : Heap) (locs : List Loc) (ls : Array Slot), (0 ≤ x_1.toInt ∧ x_1.toInt ≤ 2147483647) → (2147483647 - x_1.toInt).toNat < n → va_P D gcl (zS_145 cB cC cI cJ a0 a1 a2 a3 a4 a5 a6 y0 x1 y1 y2 a1 a7 a8 a9 a10 a11 a12 a13 x2 a3 f_3 a13 f1) H → va_D A (zS_145 cB cC cI cJ a0 a1 a2 a3 a4 a5 a6 y0 x1 y1 y2 a1 a7 a8 a9 a10 a11 a12 a13 x2 a3 f_3 a13 f1) → va_S A s.heap H locs → lv_has ls 3 [(2, .int x_1), (0, .ref a0), (1, .int x0)] → W p l e ({ frames := 0, cells := 0, slots := 0, locals := 0 }) s m args below meth c H locs 0 0 Q (F0 m 2 ls []) := by
    intro n
    induction n with
    | zero => intro x_1 f_3 H locs ls hi_2 hmu; exact absurd hmu (Nat.not_lt_zero _)
    | succ n ih_lp_4 =>
      intro x_1 f_3 H locs ls hi_2 hmu_lp_4 hP hD hS hl
      refine lv_iload_n (pc := 2) hx hb dX3_keepFound_2 rfl (lv_at hl 0 rfl) ?_
      refine lv_aload_n (pc := 3) hx hb dX3_keepFound_3 rfl (lv_at hl 1 rfl) ?_
      refine va_get (pc := 4) (ci := 3) (v := .ref a1) (C := RX3) (T := TX3) (N := 10) hx hb hts iX3 hown hK hP 0 rfl rfl 0 (by decide) (hts _ tw_348) (fun _ h9 => h9) rfl dX3_keepFound_4 ?_
      refine va_getN (pc := 7) (ci := 10) (v := .int x2) (C := RX10) (T := TX10) (N := 8) hx hb hts iX10 hown hK hP 1 rfl rfl 7 (by decide) (va_Nw.use rfl (hN _ tn_223)) (fun _ h9 => h9) rfl dX3_keepFound_7 ?_
      refine b_icmp_ge (pc := 10) (tgt := 36) hx hb rfl rfl  dX3_keepFound_10 (by decide) (fun c_5 => ?_) (fun c_5 => ?_)
      ·
        refine lv_aload_n (pc := 36) hx hb dX3_keepFound_36 rfl (lv_at hl 1 rfl) ?_
        refine va_get (pc := 37) (ci := 3) (v := .ref a3) (C := RX3) (T := TX3) (N := 10) hx hb hts iX3 hown hK hP 0 rfl rfl 2 (by decide) (hts _ tw_351) (fun _ h9 => h9) rfl dX3_keepFound_37 ?_
        refine lv_aload_n (pc := 40) hx hb dX3_keepFound_40 rfl (lv_at hl 1 rfl) ?_
        refine va_get (pc := 41) (ci := 3) (v := .ref a1) (C := RX3) (T := TX3) (N := 10) hx hb hts iX3 hown hK hP 0 rfl rfl 0 (by decide) (hts _ tw_348) (fun _ h9 => h9) rfl dX3_keepFound_41 ?_
        refine va_getN (pc := 44) (ci := 10) (v := .int x2) (C := RX10) (T := TX10) (N := 8) hx hb hts iX10 hown hK hP 1 rfl rfl 7 (by decide) (va_Nw.use rfl (hN _ tn_223)) (fun _ h9 => h9) rfl dX3_keepFound_44 ?_
        refine lv_iload_n (pc := 47) hx hb dX3_keepFound_47 rfl (lv_at hl 2 rfl) ?_
        refine lv_iconst (pc := 48) (v := 1) hx hb dX3_keepFound_48 (by decide) ?_
        refine lv_isub (pc := 49) hx hb dX3_keepFound_49 ?_
        refine lv_topi (fun x_6 _ => ?_)
        have rx_6 : zBd x_6.toInt (-2147483648) 2147483647 := n_rng x_6
        refine g_iastore (pc := 50) hx hb hK hP hD hS 2 2 rfl rfl (n_in rfl (by first | exact (om_0 h_x2.1) | ((first | omega | (unfold zBd at *; omega)))) (by first | exact (om_1135 h_x2.2) | ((first | omega | (unfold zBd at *; omega))))) dX3_keepFound_50 (fun f_7 H locs hP hD hS => ?_)
        replace hP : va_P D gcl (zS_145 cB cC cI cJ a0 a1 a2 a3 a4 a5 a6 y0 x1 y1 y2 a1 a7 a8 a9 a10 a11 a12 a13 x2 a3 f_7 a13 f1) H := hP
        replace hD : va_D A (zS_145 cB cC cI cJ a0 a1 a2 a3 a4 a5 a6 y0 x1 y1 y2 a1 a7 a8 a9 a10 a11 a12 a13 x2 a3 f_7 a13 f1) := hD
        exact hret ((fun _ => 0), (fun k => [f_7].getD k (fun _ => 0)), (fun _ => (fun _ => 0)), (fun _ => 0), (fun _ => 0)) dX3_keepFound_51 (show (((0 ≤ x2.toInt ∧ x2.toInt ≤ 4))) from h_x2) (g_psub (wc := (zS_145 cB cC cI cJ a0 a1 a2 a3 a4 a5 a6 y0 x1 y1 y2 a1 a7 a8 a9 a10 a11 a12 a13 x2 a3 f_7 a13 f1)) hP [0, 1, 2, 3] rfl) (hD.sub (ws' := (zS_145 cB cC cI cJ a0 a1 a2 a3 a4 a5 a6 y0 x1 y1 y2 a1 a7 a8 a9 a10 a11 a12 a13 x2 a3 f_7 a13 f1)) [0, 1, 2, 3] (by decide) rfl) hS
      ·
        refine lv_aload_n (pc := 13) hx hb dX3_keepFound_13 rfl (lv_at hl 1 rfl) ?_
        refine va_get (pc := 14) (ci := 3) (v := .ref a3) (C := RX3) (T := TX3) (N := 10) hx hb hts iX3 hown hK hP 0 rfl rfl 2 (by decide) (hts _ tw_351) (fun _ h9 => h9) rfl dX3_keepFound_14 ?_
        refine lv_iload_n (pc := 17) hx hb dX3_keepFound_17 rfl (lv_at hl 0 rfl) ?_
        refine lv_aload_n (pc := 18) hx hb dX3_keepFound_18 rfl (lv_at hl 1 rfl) ?_
        refine va_get (pc := 19) (ci := 3) (v := .ref a1) (C := RX3) (T := TX3) (N := 10) hx hb hts iX3 hown hK hP 0 rfl rfl 0 (by decide) (hts _ tw_348) (fun _ h9 => h9) rfl dX3_keepFound_19 ?_
        refine va_getN (pc := 22) (ci := 10) (v := .ref a13) (C := RX10) (T := TX10) (N := 8) hx hb hts iX10 hown hK hP 1 rfl rfl 6 (by decide) (va_Nw.use rfl (hN _ tn_219)) (fun _ h9 => h9) rfl dX3_keepFound_22 ?_
        refine lv_iload_n (pc := 25) hx hb dX3_keepFound_25 rfl (lv_at hl 0 rfl) ?_
        refine va_iald (pc := 26) hx hb hK hP 3 2 rfl rfl (n_in rfl (by first | exact (om_0 hi_2.1) | ((first | omega | (unfold zBd at *; omega)))) (by first | exact (om_1140 c_5 h_x2.2) | ((first | omega | (unfold zBd at *; omega))))) dX3_keepFound_26 ?_
        refine lv_topi (fun x_8 ex_8 => ?_)
        have rx_8 : (0 ≤ x_8.toInt ∧ x_8.toInt ≤ 23) := by rw [ex_8]; exact hf_f1 _
        refine lv_iconst (pc := 27) (v := 1) hx hb dX3_keepFound_27 (by decide) ?_
        refine b_isub (pc := 28) hx hb rfl tI_1 (by first | exact (om_659 rx_8.1) | ((first | omega | (unfold zBd at *; omega)))) (by first | exact (om_1285 rx_8.2) | ((first | omega | (unfold zBd at *; omega)))) dX3_keepFound_28 (fun x_9 ex_9 => ?_)
        refine g_iastore (pc := 29) hx hb hK hP hD hS 2 2 rfl rfl (n_in rfl (by first | exact (om_0 hi_2.1) | ((first | omega | (unfold zBd at *; omega)))) (by first | exact (om_1140 c_5 h_x2.2) | ((first | omega | (unfold zBd at *; omega))))) dX3_keepFound_29 (fun f_10 H locs hP hD hS => ?_)
        replace hP : va_P D gcl (zS_145 cB cC cI cJ a0 a1 a2 a3 a4 a5 a6 y0 x1 y1 y2 a1 a7 a8 a9 a10 a11 a12 a13 x2 a3 f_10 a13 f1) H := hP
        replace hD : va_D A (zS_145 cB cC cI cJ a0 a1 a2 a3 a4 a5 a6 y0 x1 y1 y2 a1 a7 a8 a9 a10 a11 a12 a13 x2 a3 f_10 a13 f1) := hD
        refine b_iinc (pc := 30) hx hb dX3_keepFound_30 hl (k := 0) rfl rfl tI_1 (by first | exact (om_2 hi_2.1) | ((first | omega | (unfold zBd at *; omega)))) (by first | exact (om_1141 c_5 h_x2.2) | ((first | omega | (unfold zBd at *; omega)))) (by decide) (fun x_11 ex_11 ls hl => ?_)
        replace hl : lv_has ls 3 [(2, .int x_11), (0, .ref a0), (1, .int x0)] := hl
        refine lv_goto (pc := 33) (tgt := 2) hx hb dX3_keepFound_33 (by decide) ?_
        exact ih_lp_4 x_11 f_10 _ _ ls (by first | exact (om_1145 ex_11 hi_2.1 c_5 h_x2.2) | ((first | omega | (unfold zBd at *; omega)))) (by (first | omega | (unfold zBd at *; omega))) hP hD hS (lv_sub hl [0, 1, 2] rfl)
  exact lp_4 _ 0 f0 _ _ ls (n_c tI_0 (by decide)) (Nat.lt_succ_self _) hP hD hS (lv_sub hl [0, 1, 2] rfl)
theorem om_1286 {a b c : Int} (h0 : ((-9223372036854775808) ≤ a)) (h1 : ((-1) ≤ b)) (h2 : (b ≤ 5)) (h3 : ((-9223372036854775808) ≤ c)) (h4 : (c ≤ 9223372036854775807)) (h5 : (a ≤ 9223372036854775807)) : (((((-9223372036854775808) ≤ a ∧ a ≤ 9223372036854775807) ∧ ((-1) ≤ b ∧ b ≤ 5)) ∨ (((-9223372036854775808) ≤ a ∧ a ≤ 9223372036854775807) ∧ ((-1) ≤ b ∧ b ≤ 5) ∧ ((-9223372036854775808) ≤ c ∧ c ≤ 9223372036854775807)))) := by omega
theorem om_1287 {a b c : Int} (h0 : ((-9223372036854775808) ≤ a)) (h1 : ((-1) ≤ b)) (h2 : (b ≤ 5)) (h3 : (c ≤ 9223372036854775807)) (h4 : (a ≤ 9223372036854775807)) (h5 : ((-9223372036854775808) ≤ c)) : (((((-9223372036854775808) ≤ a ∧ a ≤ 9223372036854775807) ∧ ((-1) ≤ b ∧ b ≤ 5)) ∨ (((-9223372036854775808) ≤ a ∧ a ≤ 9223372036854775807) ∧ ((-1) ≤ b ∧ b ≤ 5) ∧ ((-9223372036854775808) ≤ c ∧ c ≤ 9223372036854775807)))) := by omega
set_option maxHeartbeats 4000000 in
set_option maxRecDepth 100000 in
theorem k_X3_leastFor_5 (l : Launch) (D : va_G) (cB cC cI cJ : ClassId) (sz : Nat) (a0 a1 a2 a3 a4 a5 a6 a7 a8 a9 a10 a11 a12 a13 a14 a15 a16 a17 a18 : Nat) (x0 x1 x2 x3 x4 x5 x6 x7 x8 : Int32) (y0 y1 y2 y3 : Int64) (f0 f1 f2 f3 f4 f5 : Nat → Int32) (g0 g1 g2 : Nat → Int64) (h_x0 : zBd x0.toInt 0 1) (h_x1 : zBd x1.toInt (-1) 8) (h_x2 : zBd x2.toInt (-1) 5) (h_x3 : zBd x3.toInt (-1) 6) (h_x4 : zBd x4.toInt 0 6) (h_x5 : zBd x5.toInt 0 16) (h_x8 : zBd x8.toInt 0 4) (hf_f0 : (∀ j, 0 ≤ (f0 j).toInt ∧ (f0 j).toInt ≤ 23)) (hf_f3 : (∀ j, (-3) ≤ (f3 j).toInt ∧ (f3 j).toInt ≤ 24)) : Met l yX3_leastFor (.code yX3_leastFor cX3_leastFor 13 (some .long) :: lw_gd) ({ frames := 2, cells := 0, slots := 0, locals := 52 }) (gPre D [(cB, .byte), (cC, .char), (cI, .int), (cJ, .long)] [.ref a0, .ref a1, .ref a2, .long y0] (zS_62 cB cC cI cJ a0 a3 a4 a5 a6 a7 a8 y1 x0 y2 y3 a1 a9 a10 a11 x1 x2 x3 x4 x5 x6 x7 a3 a12 a13 a14 a15 a16 a17 a18 x8 a18 f0 a15 f1 a16 f2 a13 g0 a12 g1 a14 g2 a17 f3 a5 f4 a2 f5) sz) (va_Ql (fun r u => ((((-9223372036854775808) ≤ r.toInt ∧ r.toInt ≤ 9223372036854775807) ∧ ((-1) ≤ x2.toInt ∧ x2.toInt ≤ 5)) ∨ (((-9223372036854775808) ≤ r.toInt ∧ r.toInt ≤ 9223372036854775807) ∧ ((-1) ≤ x2.toInt ∧ x2.toInt ≤ 5) ∧ ((-9223372036854775808) ≤ y0.toInt ∧ y0.toInt ≤ 9223372036854775807))) ∧ (∀ j, 0 ≤ ((u.2.1 0) j).toInt ∧ ((u.2.1 0) j).toInt ≤ 23) ∧ (∀ j, (-3) ≤ ((u.2.1 3) j).toInt ∧ ((u.2.1 3) j).toInt ≤ 24)) (gB D (va_A (zS_62 cB cC cI cJ a0 a3 a4 a5 a6 a7 a8 y1 x0 y2 y3 a1 a9 a10 a11 x1 x2 x3 x4 x5 x6 x7 a3 a12 a13 a14 a15 a16 a17 a18 x8 a18 f0 a15 f1 a16 f2 a13 g0 a12 g1 a14 g2 a17 f3 a5 f4 a2 f5) sz) (fun u : gEx => (zS_62 cB cC cI cJ a0 a3 a4 a5 a6 a7 a8 y1 x0 y2 y3 a1 a9 a10 a11 x1 x2 x3 x4 x5 x6 x7 a3 a12 a13 a14 a15 a16 a17 a18 x8 a18 (u.2.1 0) a15 (u.2.1 1) a16 (u.2.1 2) a13 (u.2.2.1 0) a12 g1 a14 (u.2.2.1 1) a17 (u.2.1 3) a5 (u.2.1 4) a2 f5))) (va_A (zS_62 cB cC cI cJ a0 a3 a4 a5 a6 a7 a8 y1 x0 y2 y3 a1 a9 a10 a11 x1 x2 x3 x4 x5 x6 x7 a3 a12 a13 a14 a15 a16 a17 a18 x8 a18 f0 a15 f1 a16 f2 a13 g0 a12 g1 a14 g2 a17 f3 a5 f4 a2 f5) sz)) 0 0 (va_A (zS_62 cB cC cI cJ a0 a3 a4 a5 a6 a7 a8 y1 x0 y2 y3 a1 a9 a10 a11 x1 x2 x3 x4 x5 x6 x7 a3 a12 a13 a14 a15 a16 a17 a18 x8 a18 f0 a15 f1 a16 f2 a13 g0 a12 g1 a14 g2 a17 f3 a5 f4 a2 f5) sz) := by
  refine gOf_l (by decide +kernel) (Nat.le_of_ble_eq_true rfl) ?_
  intro p e s m args below meth c ls A Q hx hb hts hown hml hN hK hP hD hA hl hret
  replace hown : s.vm.findClass RX3 = some m.cls := hown
  have hS : va_S A s.heap s.heap [] := va_S.rf
  replace hP : va_P D gcl (zS_62 cB cC cI cJ a0 a3 a4 a5 a6 a7 a8 y1 x0 y2 y3 a1 a9 a10 a11 x1 x2 x3 x4 x5 x6 x7 a3 a12 a13 a14 a15 a16 a17 a18 x8 a18 f0 a15 f1 a16 f2 a13 g0 a12 g1 a14 g2 a17 f3 a5 f4 a2 f5) s.heap := hP
  replace hl : lv_has ls 13 [(0, .ref a0), (1, .ref a1), (2, .ref a2), (3, .long y0)] := hl
  have ry0 := n_rngL y0
  have ry1 := n_rngL y1
  have ry2 := n_rngL y2
  have ry3 := n_rngL y3
  have rx6 : zBd x6.toInt (-2147483648) 2147483647 := n_rng x6
  have rx7 : zBd x7.toInt (-2147483648) 2147483647 := n_rng x7
  refine lv_iconst (pc := 0) (v := 2) hx hb dX3_leastFor_0 (by decide) ?_
  refine lv_aload_n (pc := 1) hx hb dX3_leastFor_1 rfl (lv_at hl 1 rfl) ?_
  refine va_getN (pc := 2) (ci := 1) (v := .int x1) (C := RX1) (T := TX1) (N := 10) hx hb hts iX1 hown hK hP 1 rfl rfl 3 (by decide) (va_Nw.use rfl (hN _ tn_113)) (fun _ h9 => h9) rfl dX3_leastFor_2 ?_
  refine b_imul (pc := 5) hx hb tI_2 rfl (by first | exact (om_1277 h_x1.1) | ((first | omega | (unfold zBd at *; omega)))) (by first | exact (om_1278 h_x1.2) | ((first | omega | (unfold zBd at *; omega)))) dX3_leastFor_5 (fun x_1 ex_1 => ?_)
  refine lv_istore (pc := 6) (lv' := [(5, .int x_1), (0, .ref a0), (1, .ref a1), (2, .ref a2), (3, .long y0)]) hx hb dX3_leastFor_6 hl (by decide) rfl (fun ls hl => ?_)
  refine lv_iconst (pc := 8) (v := 0) hx hb dX3_leastFor_8 (by decide) ?_
  refine lv_istore (pc := 9) (lv' := [(6, .int 0), (5, .int x_1), (0, .ref a0), (1, .ref a1), (2, .ref a2), (3, .long y0)]) hx hb dX3_leastFor_9 hl (by decide) rfl (fun ls hl => ?_)
  have lp_8 : ∀ (n : Nat) (x_2 : Int32) (f_4 f_5 f_6 : Nat → Int32) (H : Heap) (locs : List Loc) (ls : Array Slot), (0 ≤ x_2.toInt ∧ x_2.toInt ≤ 2147483647) → (∀ j, (-3) ≤ (f_6 j).toInt ∧ (f_6 j).toInt ≤ 24) → (2147483647 - x_2.toInt).toNat < n → va_P D gcl (zS_62 cB cC cI cJ a0 a3 a4 a5 a6 a7 a8 y1 x0 y2 y3 a1 a9 a10 a11 x1 x2 x3 x4 x5 x6 x7 a3 a12 a13 a14 a15 a16 a17 a18 x8 a18 f0 a15 f_4 a16 f_5 a13 g0 a12 g1 a14 g2 a17 f_6 a5 f4 a2 f5) H → va_D A (zS_62 cB cC cI cJ a0 a3 a4 a5 a6 a7 a8 y1 x0 y2 y3 a1 a9 a10 a11 x1 x2 x3 x4 x5 x6 x7 a3 a12 a13 a14 a15 a16 a17 a18 x8 a18 f0 a15 f_4 a16 f_5 a13 g0 a12 g1 a14 g2 a17 f_6 a5 f4 a2 f5) → va_S A s.heap H locs → lv_has ls 13 [(6, .int x_2), (5, .int x_1), (0, .ref a0), (1, .ref a1), (2, .ref a2), (3, .long y0)] → W p l e ({ frames := 2, cells := 0, slots := 0, locals := 52 }) s m args below meth c H locs 0 0 Q (F0 m 11 ls []) := by
    intro n
    induction n with
    | zero => intro x_2 f_4 f_5 f_6 H locs ls hi_3 hi_7 hmu; exact absurd hmu (Nat.not_lt_zero _)
    | succ n ih_lp_8 =>
      intro x_2 f_4 f_5 f_6 H locs ls hi_3 hi_7 hmu_lp_8 hP hD hS hl
      refine lv_iload (pc := 11) hx hb dX3_leastFor_11 (lv_at hl 0 rfl) ?_
      refine lv_aload_n (pc := 13) hx hb dX3_leastFor_13 rfl (lv_at hl 3 rfl) ?_
      refine va_getN (pc := 14) (ci := 1) (v := .int x2) (C := RX1) (T := TX1) (N := 10) hx hb hts iX1 hown hK hP 1 rfl rfl 4 (by decide) (va_Nw.use rfl (hN _ tn_122)) (fun _ h9 => h9) rfl dX3_leastFor_14 ?_
      refine b_icmp_ge (pc := 17) (tgt := 45) hx hb rfl rfl  dX3_leastFor_17 (by decide) (fun c_9 => ?_) (fun c_9 => ?_)
      ·
        refine lv_aload_n (pc := 45) hx hb dX3_leastFor_45 rfl (lv_at hl 2 rfl) ?_
        refine va_get (pc := 46) (ci := 3) (v := .ref a3) (C := RX3) (T := TX3) (N := 10) hx hb hts iX3 hown hK hP 0 rfl rfl 0 (by decide) (hts _ tw_348) (fun _ h9 => h9) rfl dX3_leastFor_46 ?_
        refine gd_v (pc := 49) (wc := (zS_25 cB cC cI cJ a3 a12 a13 a14 a15 a16 a17 a18 x8 a18 f0 a15 f_4 a16 f_5 a13 g0 a12 g1 a14 g2)) hP hD hS hA [2, 3, 4, 5, 6, 7, 8] rfl (by decide +kernel) (fun _ => by rfl) (fun hPc hDc => va_runV (As := []) (rest := []) ⟨hx, hb, hml, hown, hts⟩ (k_X10_firstLine l D cB cC cI cJ _ a3 a12 a13 a14 a15 a16 a17 a18 x8 f0 f_4 f_5 g0 g1 g2 h_x8 hf_f0) ⟨gcwB hts tw_904 tw_8 tw_1270 hd_yX10_firstLine ⟨Nat.le_of_ble_eq_true rfl, Nat.le_of_ble_eq_true rfl⟩, hts _ tw_902, hts _ tw_903⟩ ⟨gblind, va_recv hK hPc (ci := 10) (q0 := 0) rfl rfl, (gpreS hPc hK hDc hN).2⟩ rfl rfl hl.1 rfl (lv_room (Nat.le_of_ble_eq_true rfl)) dX3_leastFor_49 ⟨Nat.le_of_ble_eq_true rfl, Nat.le_of_ble_eq_true rfl⟩) (fun u_10 H locs hw_12 hP hD hS => ?_)
        replace hP : va_P D gcl (zS_62 cB cC cI cJ a0 a3 a4 a5 a6 a7 a8 y1 x0 y2 y3 a1 a9 a10 a11 x1 x2 x3 x4 x5 x6 x7 a3 a12 a13 a14 a15 a16 a17 a18 x8 a18 (u_10.2.1 0) a15 f_4 a16 f_5 a13 (u_10.2.2.1 0) a12 g1 a14 (u_10.2.2.1 1) a17 f_6 a5 f4 a2 f5) H := hP
        replace hD : va_D A (zS_62 cB cC cI cJ a0 a3 a4 a5 a6 a7 a8 y1 x0 y2 y3 a1 a9 a10 a11 x1 x2 x3 x4 x5 x6 x7 a3 a12 a13 a14 a15 a16 a17 a18 x8 a18 (u_10.2.1 0) a15 f_4 a16 f_5 a13 (u_10.2.2.1 0) a12 g1 a14 (u_10.2.2.1 1) a17 f_6 a5 f4 a2 f5) := hD
        have hw_13 : (∀ j, 0 ≤ ((u_10.2.1 0) j).toInt ∧ ((u_10.2.1 0) j).toInt ≤ 23) := hw_12
        refine lv_ldc2 (pc := 52) hx hb hown (hts _ tw_1271) dX3_leastFor_52 ?_
        refine lv_lstore (pc := 55) (lv' := [(6, .long 1000000000000000), (5, .int x_1), (0, .ref a0), (1, .ref a1), (2, .ref a2), (3, .long y0)]) hx hb dX3_leastFor_55 hl (by decide) rfl (fun ls hl => ?_)
        refine lv_aload_n (pc := 57) hx hb dX3_leastFor_57 rfl (lv_at hl 2 rfl) ?_
        refine va_get (pc := 58) (ci := 3) (v := .ref a3) (C := RX3) (T := TX3) (N := 10) hx hb hts iX3 hown hK hP 0 rfl rfl 0 (by decide) (hts _ tw_348) (fun _ h9 => h9) rfl dX3_leastFor_58 ?_
        refine gd_i (pc := 61) (wc := (zS_83 cB cC cI cJ a3 a12 a13 a14 a15 a16 a17 a18 x8 a17 f_6)) hP hD hS hA [2, 9] rfl (by decide +kernel) (fun _ => by rfl) (fun hPc hDc => va_runV (As := []) (rest := []) ⟨hx, hb, hml, hown, hts⟩ (k_X10_lineCount l D cB cC cI cJ _ a3 a12 a13 a14 a15 a16 a17 a18 x8 f_6 h_x8 hi_7) ⟨gcwB hts tw_914 tw_8 tw_1272 hd_yX10_lineCount ⟨Nat.le_of_ble_eq_true rfl, Nat.le_of_ble_eq_true rfl⟩, hts _ tw_912, hts _ tw_913⟩ ⟨gblind, va_recv hK hPc (ci := 10) (q0 := 0) rfl rfl, (gpreS hPc hK hDc hN).2⟩ rfl rfl hl.1 rfl (lv_room (Nat.le_of_ble_eq_true rfl)) dX3_leastFor_61 ⟨Nat.le_of_ble_eq_true rfl, Nat.le_of_ble_eq_true rfl⟩) (fun r_15 u_14 H locs hw_16 hP hD hS => ?_)
        replace hP : va_P D gcl (zS_62 cB cC cI cJ a0 a3 a4 a5 a6 a7 a8 y1 x0 y2 y3 a1 a9 a10 a11 x1 x2 x3 x4 x5 x6 x7 a3 a12 a13 a14 a15 a16 a17 a18 x8 a18 (u_10.2.1 0) a15 f_4 a16 f_5 a13 (u_10.2.2.1 0) a12 g1 a14 (u_10.2.2.1 1) a17 f_6 a5 f4 a2 f5) H := hP
        replace hD : va_D A (zS_62 cB cC cI cJ a0 a3 a4 a5 a6 a7 a8 y1 x0 y2 y3 a1 a9 a10 a11 x1 x2 x3 x4 x5 x6 x7 a3 a12 a13 a14 a15 a16 a17 a18 x8 a18 (u_10.2.1 0) a15 f_4 a16 f_5 a13 (u_10.2.2.1 0) a12 g1 a14 (u_10.2.2.1 1) a17 f_6 a5 f4 a2 f5) := hD
        have hw_17 : ((((-2147483648) ≤ r_15.toInt ∧ r_15.toInt ≤ 2147483647) ∧ (0 ≤ x8.toInt ∧ x8.toInt ≤ 4))) := hw_16
        have rr_15 : zBd r_15.toInt (-2147483648) 2147483647 := n_rng r_15
        refine lv_istore (pc := 64) (lv' := [(8, .int r_15), (6, .long 1000000000000000), (5, .int x_1), (0, .ref a0), (1, .ref a1), (2, .ref a2), (3, .long y0)]) hx hb dX3_leastFor_64 hl (by decide) rfl (fun ls hl => ?_)
        refine lv_iconst (pc := 66) (v := 0) hx hb dX3_leastFor_66 (by decide) ?_
        refine lv_istore (pc := 67) (lv' := [(9, .int 0), (8, .int r_15), (6, .long 1000000000000000), (5, .int x_1), (0, .ref a0), (1, .ref a1), (2, .ref a2), (3, .long y0)]) hx hb dX3_leastFor_67 hl (by decide) rfl (fun ls hl => ?_)
        have lp_27 : ∀ (n : Nat) (x_18 : Int32) (y_20 : Int64) (f_22 f_26 : Nat → Int32) (g_24 g_25 : Nat → Int64) (H : Heap) (locs : List Loc) (ls : Array Slot), (0 ≤ x_18.toInt ∧ x_18.toInt ≤ 2147483647) → (∀ j, 0 ≤ (f_22 j).toInt ∧ (f_22 j).toInt ≤ 23) → (2147483647 - x_18.toInt).toNat < n → va_P D gcl (zS_62 cB cC cI cJ a0 a3 a4 a5 a6 a7 a8 y1 x0 y2 y3 a1 a9 a10 a11 x1 x2 x3 x4 x5 x6 x7 a3 a12 a13 a14 a15 a16 a17 a18 x8 a18 f_22 a15 f_4 a16 f_5 a13 g_24 a12 g1 a14 g_25 a17 f_6 a5 f_26 a2 f5) H → va_D A (zS_62 cB cC cI cJ a0 a3 a4 a5 a6 a7 a8 y1 x0 y2 y3 a1 a9 a10 a11 x1 x2 x3 x4 x5 x6 x7 a3 a12 a13 a14 a15 a16 a17 a18 x8 a18 f_22 a15 f_4 a16 f_5 a13 g_24 a12 g1 a14 g_25 a17 f_6 a5 f_26 a2 f5) → va_S A s.heap H locs → lv_has ls 13 [(9, .int x_18), (8, .int r_15), (6, .long y_20), (5, .int x_1), (0, .ref a0), (1, .ref a1), (2, .ref a2), (3, .long y0)] → W p l e ({ frames := 2, cells := 0, slots := 0, locals := 52 }) s m args below meth c H locs 0 0 Q (F0 m 69 ls []) := by
          intro n
          induction n with
          | zero => intro x_18 y_20 f_22 f_26 g_24 g_25 H locs ls hi_19 hi_23 hmu; exact absurd hmu (Nat.not_lt_zero _)
          | succ n ih_lp_27 =>
            intro x_18 y_20 f_22 f_26 g_24 g_25 H locs ls hi_19 hi_23 hmu_lp_27 hP hD hS hl
            have hi_21 := n_rngL y_20
            refine lv_iload (pc := 69) hx hb dX3_leastFor_69 (lv_at hl 0 rfl) ?_
            refine lv_iload (pc := 71) hx hb dX3_leastFor_71 (lv_at hl 1 rfl) ?_
            refine b_icmp_ge (pc := 73) (tgt := 135) hx hb rfl rfl  dX3_leastFor_73 (by decide) (fun c_28 => ?_) (fun c_28 => ?_)
            ·
              refine lv_lload (pc := 135) hx hb dX3_leastFor_135 (lv_at hl 2 rfl) ?_
              exact hret y_20 ((fun _ => 0), (fun k => [f_22, f_4, f_5, f_6, f_26].getD k (fun _ => 0)), (fun k => [g_24, g_25].getD k (fun _ => 0)), (fun _ => 0), (fun _ => 0)) dX3_leastFor_137 ⟨(show ((((-9223372036854775808) ≤ y_20.toInt ∧ y_20.toInt ≤ 9223372036854775807) ∧ ((-1) ≤ x2.toInt ∧ x2.toInt ≤ 5)) ∨ (((-9223372036854775808) ≤ y_20.toInt ∧ y_20.toInt ≤ 9223372036854775807) ∧ ((-1) ≤ x2.toInt ∧ x2.toInt ≤ 5) ∧ ((-9223372036854775808) ≤ y0.toInt ∧ y0.toInt ≤ 9223372036854775807))) from (by first | exact (om_1286 hi_21.1 h_x2.1 h_x2.2 ry0.1 ry0.2 hi_21.2) | ((first | omega | (unfold zBd at *; omega))))), hi_23, hi_7⟩ (g_psub (wc := (zS_62 cB cC cI cJ a0 a3 a4 a5 a6 a7 a8 y1 x0 y2 y3 a1 a9 a10 a11 x1 x2 x3 x4 x5 x6 x7 a3 a12 a13 a14 a15 a16 a17 a18 x8 a18 f_22 a15 f_4 a16 f_5 a13 g_24 a12 g1 a14 g_25 a17 f_6 a5 f_26 a2 f5)) hP [0, 1, 2, 3, 4, 5, 6, 7, 8, 9, 10, 11] rfl) (hD.sub (ws' := (zS_62 cB cC cI cJ a0 a3 a4 a5 a6 a7 a8 y1 x0 y2 y3 a1 a9 a10 a11 x1 x2 x3 x4 x5 x6 x7 a3 a12 a13 a14 a15 a16 a17 a18 x8 a18 f_22 a15 f_4 a16 f_5 a13 g_24 a12 g1 a14 g_25 a17 f_6 a5 f_26 a2 f5)) [0, 1, 2, 3, 4, 5, 6, 7, 8, 9, 10, 11] (by decide) rfl) hS
            ·
              refine lv_lload (pc := 76) hx hb dX3_leastFor_76 (lv_at hl 2 rfl) ?_
              refine lv_lload_n (pc := 78) hx hb dX3_leastFor_78 rfl (lv_at hl 7 rfl) ?_
              refine b_lcmp_le (pc := 79) (tgt := 135) hx hb rfl rfl dX3_leastFor_79 dX3_leastFor_80 (by decide) (fun c_29 => ?_) (fun c_29 => ?_)
              ·
                refine lv_lload (pc := 135) hx hb dX3_leastFor_135 (lv_at hl 2 rfl) ?_
                exact hret y_20 ((fun _ => 0), (fun k => [f_22, f_4, f_5, f_6, f_26].getD k (fun _ => 0)), (fun k => [g_24, g_25].getD k (fun _ => 0)), (fun _ => 0), (fun _ => 0)) dX3_leastFor_137 ⟨(show ((((-9223372036854775808) ≤ y_20.toInt ∧ y_20.toInt ≤ 9223372036854775807) ∧ ((-1) ≤ x2.toInt ∧ x2.toInt ≤ 5)) ∨ (((-9223372036854775808) ≤ y_20.toInt ∧ y_20.toInt ≤ 9223372036854775807) ∧ ((-1) ≤ x2.toInt ∧ x2.toInt ≤ 5) ∧ ((-9223372036854775808) ≤ y0.toInt ∧ y0.toInt ≤ 9223372036854775807))) from (by first | exact (om_1287 hi_21.1 h_x2.1 h_x2.2 ry0.2 hi_21.2 ry0.1) | ((first | omega | (unfold zBd at *; omega))))), hi_23, hi_7⟩ (g_psub (wc := (zS_62 cB cC cI cJ a0 a3 a4 a5 a6 a7 a8 y1 x0 y2 y3 a1 a9 a10 a11 x1 x2 x3 x4 x5 x6 x7 a3 a12 a13 a14 a15 a16 a17 a18 x8 a18 f_22 a15 f_4 a16 f_5 a13 g_24 a12 g1 a14 g_25 a17 f_6 a5 f_26 a2 f5)) hP [0, 1, 2, 3, 4, 5, 6, 7, 8, 9, 10, 11] rfl) (hD.sub (ws' := (zS_62 cB cC cI cJ a0 a3 a4 a5 a6 a7 a8 y1 x0 y2 y3 a1 a9 a10 a11 x1 x2 x3 x4 x5 x6 x7 a3 a12 a13 a14 a15 a16 a17 a18 x8 a18 f_22 a15 f_4 a16 f_5 a13 g_24 a12 g1 a14 g_25 a17 f_6 a5 f_26 a2 f5)) [0, 1, 2, 3, 4, 5, 6, 7, 8, 9, 10, 11] (by decide) rfl) hS
              ·
                refine lv_aload_n (pc := 83) hx hb dX3_leastFor_83 rfl (lv_at hl 4 rfl) ?_
                refine va_get (pc := 84) (ci := 3) (v := .ref a3) (C := RX3) (T := TX3) (N := 10) hx hb hts iX3 hown hK hP 0 rfl rfl 0 (by decide) (hts _ tw_348) (fun _ h9 => h9) rfl dX3_leastFor_84 ?_
                refine lv_iconst (pc := 87) (v := 3) hx hb dX3_leastFor_87 (by decide) ?_
                refine gd_i (pc := 88) (wc := (zS_106 cB cC cI cJ a3 a12 a13 a14 a15 a16 a17 a18 x8 a12 g1 a16 f_5 a14 g_25 a15 f_4 a13 g_24)) hP hD hS hA [2, 7, 5, 8, 4, 6] rfl (by decide +kernel) (fun _ => by rfl) (fun hPc hDc => va_runV (As := [.int 3]) (rest := []) ⟨hx, hb, hml, hown, hts⟩ (k_X10_bestDigit l D cB cC cI cJ _ a3 a12 a13 a14 a15 a16 a17 a18 3 x8 f_5 f_4 g1 g_25 g_24 h_x8) ⟨gcwB hts tw_1151 tw_8 tw_1273 hd_yX10_bestDigit ⟨Nat.le_of_ble_eq_true rfl, Nat.le_of_ble_eq_true rfl⟩, hts _ tw_1149, hts _ tw_1150⟩ ⟨gblind, va_recv hK hPc (ci := 10) (q0 := 0) rfl rfl, (gpreS hPc hK hDc hN).2⟩ rfl rfl hl.1 rfl (lv_room (Nat.le_of_ble_eq_true rfl)) dX3_leastFor_88 ⟨Nat.le_of_ble_eq_true rfl, Nat.le_of_ble_eq_true rfl⟩) (fun r_31 u_30 H locs hw_32 hP hD hS => ?_)
                replace hP : va_P D gcl (zS_62 cB cC cI cJ a0 a3 a4 a5 a6 a7 a8 y1 x0 y2 y3 a1 a9 a10 a11 x1 x2 x3 x4 x5 x6 x7 a3 a12 a13 a14 a15 a16 a17 a18 x8 a18 f_22 a15 f_4 a16 f_5 a13 g_24 a12 g1 a14 g_25 a17 f_6 a5 f_26 a2 f5) H := hP
                replace hD : va_D A (zS_62 cB cC cI cJ a0 a3 a4 a5 a6 a7 a8 y1 x0 y2 y3 a1 a9 a10 a11 x1 x2 x3 x4 x5 x6 x7 a3 a12 a13 a14 a15 a16 a17 a18 x8 a18 f_22 a15 f_4 a16 f_5 a13 g_24 a12 g1 a14 g_25 a17 f_6 a5 f_26 a2 f5) := hD
                have hw_33 : ((((-2147483648) ≤ r_31.toInt ∧ r_31.toInt ≤ 2147483647) ∧ ((-2147483648) ≤ (3 : Int32).toInt ∧ (3 : Int32).toInt ≤ 2147483647)) ∨ (((-2147483648) ≤ r_31.toInt ∧ r_31.toInt ≤ 2147483647) ∧ ((-2147483647) ≤ (3 : Int32).toInt ∧ (3 : Int32).toInt ≤ 2147483647)) ∨ (r_31.toInt = 0)) := hw_32
                have kk0_r_31 := tI_3
                have rr_31 : zBd r_31.toInt (-2147483648) 2147483647 := n_rng r_31
                refine lv_istore (pc := 91) (lv' := [(10, .int r_31), (9, .int x_18), (8, .int r_15), (6, .long y_20), (5, .int x_1), (0, .ref a0), (1, .ref a1), (2, .ref a2), (3, .long y0)]) hx hb dX3_leastFor_91 hl (by decide) rfl (fun ls hl => ?_)
                refine lv_aload_n (pc := 93) hx hb dX3_leastFor_93 rfl (lv_at hl 5 rfl) ?_
                refine va_get (pc := 94) (ci := 3) (v := .ref a3) (C := RX3) (T := TX3) (N := 10) hx hb hts iX3 hown hK hP 0 rfl rfl 0 (by decide) (hts _ tw_348) (fun _ h9 => h9) rfl dX3_leastFor_94 ?_
                refine lv_iload (pc := 97) hx hb dX3_leastFor_97 (lv_at hl 0 rfl) ?_
                refine gd_l (pc := 99) (wc := (zS_94 cB cC cI cJ a3 a12 a13 a14 a15 a16 a17 a18 x8 a15 f_4 a16 f_5 a13 g_24 a12 g1 a14 g_25)) hP hD hS hA [2, 4, 5, 6, 7, 8] rfl (by decide +kernel) (fun _ => by rfl) (fun hPc hDc => va_runV (As := [.int r_31]) (rest := []) ⟨hx, hb, hml, hown, hts⟩ (k_X10_squaresAt l D cB cC cI cJ _ a3 a12 a13 a14 a15 a16 a17 a18 r_31 x8 f_4 f_5 g_24 g1 g_25 h_x8) ⟨gcwB hts tw_922 tw_8 tw_1274 hd_yX10_squaresAt ⟨Nat.le_of_ble_eq_true rfl, Nat.le_of_ble_eq_true rfl⟩, hts _ tw_920, hts _ tw_921⟩ ⟨gblind, va_recv hK hPc (ci := 10) (q0 := 0) rfl rfl, (gpreS hPc hK hDc hN).2⟩ rfl rfl hl.1 rfl (lv_room (Nat.le_of_ble_eq_true rfl)) dX3_leastFor_99 ⟨Nat.le_of_ble_eq_true rfl, Nat.le_of_ble_eq_true rfl⟩) (fun r_35 u_34 H locs hw_36 hP hD hS => ?_)
                replace hP : va_P D gcl (zS_62 cB cC cI cJ a0 a3 a4 a5 a6 a7 a8 y1 x0 y2 y3 a1 a9 a10 a11 x1 x2 x3 x4 x5 x6 x7 a3 a12 a13 a14 a15 a16 a17 a18 x8 a18 f_22 a15 f_4 a16 f_5 a13 g_24 a12 g1 a14 g_25 a17 f_6 a5 f_26 a2 f5) H := hP
                replace hD : va_D A (zS_62 cB cC cI cJ a0 a3 a4 a5 a6 a7 a8 y1 x0 y2 y3 a1 a9 a10 a11 x1 x2 x3 x4 x5 x6 x7 a3 a12 a13 a14 a15 a16 a17 a18 x8 a18 f_22 a15 f_4 a16 f_5 a13 g_24 a12 g1 a14 g_25 a17 f_6 a5 f_26 a2 f5) := hD
                have hw_37 : ((((-9223372036854775808) ≤ r_35.toInt ∧ r_35.toInt ≤ 9223372036854775807))) := hw_36
                have rr_35 := n_rngL r_35
                refine lv_lstore (pc := 102) (lv' := [(11, .long r_35), (10, .int r_31), (9, .int x_18), (8, .int r_15), (6, .long y_20), (5, .int x_1), (0, .ref a0), (1, .ref a1), (2, .ref a2), (3, .long y0)]) hx hb dX3_leastFor_102 hl (by decide) rfl (fun ls hl => ?_)
                refine lv_lload (pc := 104) hx hb dX3_leastFor_104 (lv_at hl 0 rfl) ?_
                refine lv_lload (pc := 106) hx hb dX3_leastFor_106 (lv_at hl 4 rfl) ?_
                refine b_lcmp_ge (pc := 108) (tgt := 122) hx hb rfl rfl dX3_leastFor_108 dX3_leastFor_109 (by decide) (fun c_38 => ?_) (fun c_38 => ?_)
                ·
                  refine lv_aload_n (pc := 122) hx hb dX3_leastFor_122 rfl (lv_at hl 6 rfl) ?_
                  refine va_get (pc := 123) (ci := 3) (v := .ref a3) (C := RX3) (T := TX3) (N := 10) hx hb hts iX3 hown hK hP 0 rfl rfl 0 (by decide) (hts _ tw_348) (fun _ h9 => h9) rfl dX3_leastFor_123 ?_
                  refine gd_v (pc := 126) (wc := (zS_46 cB cC cI cJ a3 a12 a13 a14 a15 a16 a17 a18 x8 a18 f_22 a17 f_6 a15 f_4 a16 f_5 a13 g_24 a12 g1 a14 g_25)) hP hD hS hA [2, 3, 9, 4, 5, 6, 7, 8] rfl (by decide +kernel) (fun _ => by rfl) (fun hPc hDc => va_runV (As := []) (rest := []) ⟨hx, hb, hml, hown, hts⟩ (k_X10_nextLine l D cB cC cI cJ _ a3 a12 a13 a14 a15 a16 a17 a18 x8 f_22 f_6 f_4 f_5 g_24 g1 g_25 h_x8 hi_23 hi_7) ⟨gcwB hts tw_936 tw_8 tw_1279 hd_yX10_nextLine ⟨Nat.le_of_ble_eq_true rfl, Nat.le_of_ble_eq_true rfl⟩, hts _ tw_934, hts _ tw_935⟩ ⟨gblind, va_recv hK hPc (ci := 10) (q0 := 0) rfl rfl, (gpreS hPc hK hDc hN).2⟩ rfl rfl hl.1 rfl (lv_room (Nat.le_of_ble_eq_true rfl)) dX3_leastFor_126 ⟨Nat.le_of_ble_eq_true rfl, Nat.le_of_ble_eq_true rfl⟩) (fun u_39 H locs hw_41 hP hD hS => ?_)
                  replace hP : va_P D gcl (zS_62 cB cC cI cJ a0 a3 a4 a5 a6 a7 a8 y1 x0 y2 y3 a1 a9 a10 a11 x1 x2 x3 x4 x5 x6 x7 a3 a12 a13 a14 a15 a16 a17 a18 x8 a18 (u_39.2.1 0) a15 f_4 a16 f_5 a13 (u_39.2.2.1 0) a12 g1 a14 (u_39.2.2.1 1) a17 f_6 a5 f_26 a2 f5) H := hP
                  replace hD : va_D A (zS_62 cB cC cI cJ a0 a3 a4 a5 a6 a7 a8 y1 x0 y2 y3 a1 a9 a10 a11 x1 x2 x3 x4 x5 x6 x7 a3 a12 a13 a14 a15 a16 a17 a18 x8 a18 (u_39.2.1 0) a15 f_4 a16 f_5 a13 (u_39.2.2.1 0) a12 g1 a14 (u_39.2.2.1 1) a17 f_6 a5 f_26 a2 f5) := hD
                  have hw_42 : (∀ j, 0 ≤ ((u_39.2.1 0) j).toInt ∧ ((u_39.2.1 0) j).toInt ≤ 23) := hw_41
                  refine b_iinc (pc := 129) hx hb dX3_leastFor_129 hl (k := 2) rfl rfl tI_1 (by first | exact (om_2 hi_19.1) | ((first | omega | (unfold zBd at *; omega)))) (by first | exact (om_1087 c_28 rr_15.2) | ((first | omega | (unfold zBd at *; omega)))) (by decide) (fun x_43 ex_43 ls hl => ?_)
                  replace hl : lv_has ls 13 [(9, .int x_43), (11, .long r_35), (10, .int r_31), (8, .int r_15), (6, .long y_20), (5, .int x_1), (0, .ref a0), (1, .ref a1), (2, .ref a2), (3, .long y0)] := hl
                  refine lv_goto (pc := 132) (tgt := 69) hx hb dX3_leastFor_132 (by decide) ?_
                  exact ih_lp_27 x_43 y_20 (u_39.2.1 0) f_26 (u_39.2.2.1 0) (u_39.2.2.1 1) _ _ ls (by first | exact (om_1088 ex_43 hi_19.1 c_28 rr_15.2) | ((first | omega | (unfold zBd at *; omega)))) hw_42 (by (first | omega | (unfold zBd at *; omega))) hP hD hS (lv_sub hl [0, 3, 4, 5, 6, 7, 8, 9] rfl)
                ·
                  refine lv_lload (pc := 112) hx hb dX3_leastFor_112 (lv_at hl 0 rfl) ?_
                  refine lv_lstore (pc := 114) (lv' := [(6, .long r_35), (11, .long r_35), (10, .int r_31), (9, .int x_18), (8, .int r_15), (5, .int x_1), (0, .ref a0), (1, .ref a1), (2, .ref a2), (3, .long y0)]) hx hb dX3_leastFor_114 hl (by decide) rfl (fun ls hl => ?_)
                  refine lv_aload_n (pc := 116) hx hb dX3_leastFor_116 rfl (lv_at hl 6 rfl) ?_
                  refine lv_iload (pc := 117) hx hb dX3_leastFor_117 (lv_at hl 2 rfl) ?_
                  refine gd_v (pc := 119) (wc := (zS_145 cB cC cI cJ a0 a3 a4 a5 a6 a7 a8 y1 x0 y2 y3 a3 a12 a13 a14 a15 a16 a17 a18 x8 a5 f_26 a18 f_22)) hP hD hS hA [0, 2, 10, 3] rfl (by decide +kernel) (fun _ => by rfl) (fun hPc hDc => va_runV (As := [.int r_31]) (rest := []) ⟨hx, hb, hml, hown, hts⟩ (k_X3_keepFound l D cB cC cI cJ _ a0 a3 a4 a5 a6 a7 a8 a12 a13 a14 a15 a16 a17 a18 r_31 x0 x8 y1 y2 y3 f_26 f_22 h_x0 h_x8 hi_23) ⟨gcwB hts tw_1278 tw_12 tw_1275 hd_yX3_keepFound ⟨Nat.le_of_ble_eq_true rfl, Nat.le_of_ble_eq_true rfl⟩, hts _ tw_1277, hts _ tp_53⟩ ⟨gblind, va_recv hK hPc (ci := 3) (q0 := 0) rfl rfl, (gpreS hPc hK hDc hN).2⟩ rfl rfl hl.1 rfl (lv_room (Nat.le_of_ble_eq_true rfl)) dX3_leastFor_119 ⟨Nat.le_of_ble_eq_true rfl, Nat.le_of_ble_eq_true rfl⟩) (fun u_44 H locs hw_46 hP hD hS => ?_)
                  replace hP : va_P D gcl (zS_62 cB cC cI cJ a0 a3 a4 a5 a6 a7 a8 y1 x0 y2 y3 a1 a9 a10 a11 x1 x2 x3 x4 x5 x6 x7 a3 a12 a13 a14 a15 a16 a17 a18 x8 a18 f_22 a15 f_4 a16 f_5 a13 g_24 a12 g1 a14 g_25 a17 f_6 a5 (u_44.2.1 0) a2 f5) H := hP
                  replace hD : va_D A (zS_62 cB cC cI cJ a0 a3 a4 a5 a6 a7 a8 y1 x0 y2 y3 a1 a9 a10 a11 x1 x2 x3 x4 x5 x6 x7 a3 a12 a13 a14 a15 a16 a17 a18 x8 a18 f_22 a15 f_4 a16 f_5 a13 g_24 a12 g1 a14 g_25 a17 f_6 a5 (u_44.2.1 0) a2 f5) := hD
                  have hw_47 : (((0 ≤ x8.toInt ∧ x8.toInt ≤ 4))) := hw_46
                  refine lv_aload_n (pc := 122) hx hb dX3_leastFor_122 rfl (lv_at hl 6 rfl) ?_
                  refine va_get (pc := 123) (ci := 3) (v := .ref a3) (C := RX3) (T := TX3) (N := 10) hx hb hts iX3 hown hK hP 0 rfl rfl 0 (by decide) (hts _ tw_348) (fun _ h9 => h9) rfl dX3_leastFor_123 ?_
                  refine gd_v (pc := 126) (wc := (zS_46 cB cC cI cJ a3 a12 a13 a14 a15 a16 a17 a18 x8 a18 f_22 a17 f_6 a15 f_4 a16 f_5 a13 g_24 a12 g1 a14 g_25)) hP hD hS hA [2, 3, 9, 4, 5, 6, 7, 8] rfl (by decide +kernel) (fun _ => by rfl) (fun hPc hDc => va_runV (As := []) (rest := []) ⟨hx, hb, hml, hown, hts⟩ (k_X10_nextLine l D cB cC cI cJ _ a3 a12 a13 a14 a15 a16 a17 a18 x8 f_22 f_6 f_4 f_5 g_24 g1 g_25 hw_47 hi_23 hi_7) ⟨gcwB hts tw_936 tw_8 tw_1279 hd_yX10_nextLine ⟨Nat.le_of_ble_eq_true rfl, Nat.le_of_ble_eq_true rfl⟩, hts _ tw_934, hts _ tw_935⟩ ⟨gblind, va_recv hK hPc (ci := 10) (q0 := 0) rfl rfl, (gpreS hPc hK hDc hN).2⟩ rfl rfl hl.1 rfl (lv_room (Nat.le_of_ble_eq_true rfl)) dX3_leastFor_126 ⟨Nat.le_of_ble_eq_true rfl, Nat.le_of_ble_eq_true rfl⟩) (fun u_48 H locs hw_50 hP hD hS => ?_)
                  replace hP : va_P D gcl (zS_62 cB cC cI cJ a0 a3 a4 a5 a6 a7 a8 y1 x0 y2 y3 a1 a9 a10 a11 x1 x2 x3 x4 x5 x6 x7 a3 a12 a13 a14 a15 a16 a17 a18 x8 a18 (u_48.2.1 0) a15 f_4 a16 f_5 a13 (u_48.2.2.1 0) a12 g1 a14 (u_48.2.2.1 1) a17 f_6 a5 (u_44.2.1 0) a2 f5) H := hP
                  replace hD : va_D A (zS_62 cB cC cI cJ a0 a3 a4 a5 a6 a7 a8 y1 x0 y2 y3 a1 a9 a10 a11 x1 x2 x3 x4 x5 x6 x7 a3 a12 a13 a14 a15 a16 a17 a18 x8 a18 (u_48.2.1 0) a15 f_4 a16 f_5 a13 (u_48.2.2.1 0) a12 g1 a14 (u_48.2.2.1 1) a17 f_6 a5 (u_44.2.1 0) a2 f5) := hD
                  have hw_51 : (∀ j, 0 ≤ ((u_48.2.1 0) j).toInt ∧ ((u_48.2.1 0) j).toInt ≤ 23) := hw_50
                  refine b_iinc (pc := 129) hx hb dX3_leastFor_129 hl (k := 3) rfl rfl tI_1 (by first | exact (om_2 hi_19.1) | ((first | omega | (unfold zBd at *; omega)))) (by first | exact (om_1087 c_28 rr_15.2) | ((first | omega | (unfold zBd at *; omega)))) (by decide) (fun x_52 ex_52 ls hl => ?_)
                  replace hl : lv_has ls 13 [(9, .int x_52), (6, .long r_35), (11, .long r_35), (10, .int r_31), (8, .int r_15), (5, .int x_1), (0, .ref a0), (1, .ref a1), (2, .ref a2), (3, .long y0)] := hl
                  refine lv_goto (pc := 132) (tgt := 69) hx hb dX3_leastFor_132 (by decide) ?_
                  exact ih_lp_27 x_52 r_35 (u_48.2.1 0) (u_44.2.1 0) (u_48.2.2.1 0) (u_48.2.2.1 1) _ _ ls (by first | exact (om_1088 ex_52 hi_19.1 c_28 rr_15.2) | ((first | omega | (unfold zBd at *; omega)))) hw_51 (by (first | omega | (unfold zBd at *; omega))) hP hD hS (lv_sub hl [0, 4, 1, 5, 6, 7, 8, 9] rfl)
        exact lp_27 _ 0 1000000000000000 (u_10.2.1 0) f4 (u_10.2.2.1 0) (u_10.2.2.1 1) _ _ ls (n_c tI_0 (by decide)) hw_13 (Nat.lt_succ_self _) hP hD hS (lv_sub hl [0, 1, 2, 3, 4, 5, 6, 7] rfl)
      ·
        refine lv_aload_n (pc := 20) hx hb dX3_leastFor_20 rfl (lv_at hl 2 rfl) ?_
        refine va_get (pc := 21) (ci := 3) (v := .ref a3) (C := RX3) (T := TX3) (N := 10) hx hb hts iX3 hown hK hP 0 rfl rfl 0 (by decide) (hts _ tw_348) (fun _ h9 => h9) rfl dX3_leastFor_21 ?_
        refine lv_iload (pc := 24) hx hb dX3_leastFor_24 (lv_at hl 0 rfl) ?_
        refine lv_aload_n (pc := 26) hx hb dX3_leastFor_26 rfl (lv_at hl 4 rfl) ?_
        refine lv_iload (pc := 27) hx hb dX3_leastFor_27 (lv_at hl 0 rfl) ?_
        refine va_iald (pc := 29) hx hb hK hP 11 2 rfl rfl (n_in rfl (by first | exact (om_0 hi_3.1) | ((first | omega | (unfold zBd at *; omega)))) (by first | exact (om_1020 c_9 h_x2.2) | ((first | omega | (unfold zBd at *; omega))))) dX3_leastFor_29 ?_
        refine lv_topi (fun x_53 ex_53 => ?_)
        have rx_53 : zBd x_53.toInt (-2147483648) 2147483647 := n_rng x_53
        refine lv_iload (pc := 30) hx hb dX3_leastFor_30 (lv_at hl 1 rfl) ?_
        refine lv_isub (pc := 32) hx hb dX3_leastFor_32 ?_
        refine lv_topi (fun x_54 _ => ?_)
        have rx_54 : zBd x_54.toInt (-2147483648) 2147483647 := n_rng x_54
        refine lv_iload (pc := 33) hx hb dX3_leastFor_33 (lv_at hl 1 rfl) ?_
        refine lv_iconst (pc := 35) (v := 3) hx hb dX3_leastFor_35 (by decide) ?_
        refine gd_v (pc := 36) (wc := (zS_29 cB cC cI cJ a3 a12 a13 a14 a15 a16 a17 a18 x8 a15 f_4 a16 f_5 a17 f_6)) hP hD hS hA [2, 4, 5, 9] rfl (by decide +kernel) (fun _ => by rfl) (fun hPc hDc => va_runV (As := [.int x_2, .int x_54, .int x_1, .int 3]) (rest := []) ⟨hx, hb, hml, hown, hts⟩ (k_X10_setNumbers l D cB cC cI cJ _ a3 a12 a13 a14 a15 a16 a17 a18 x_2 x_54 x_1 3 x8 f_4 f_5 f_6 (by first | exact (om_360 hi_3.1 c_9 h_x2.2) | (have k0 := tI_3; (first | omega | (unfold zBd at *; omega)))) (n_c tI_3 (by decide)) h_x8 hi_7) ⟨gcwB hts tw_900 tw_8 tw_1269 hd_yX10_setNumbers ⟨Nat.le_of_ble_eq_true rfl, Nat.le_of_ble_eq_true rfl⟩, hts _ tw_898, hts _ tw_899⟩ ⟨gblind, va_recv hK hPc (ci := 10) (q0 := 0) rfl rfl, (gpreS hPc hK hDc hN).2⟩ rfl rfl hl.1 rfl (lv_room (Nat.le_of_ble_eq_true rfl)) dX3_leastFor_36 ⟨Nat.le_of_ble_eq_true rfl, Nat.le_of_ble_eq_true rfl⟩) (fun u_55 H locs hw_57 hP hD hS => ?_)
        replace hP : va_P D gcl (zS_62 cB cC cI cJ a0 a3 a4 a5 a6 a7 a8 y1 x0 y2 y3 a1 a9 a10 a11 x1 x2 x3 x4 x5 x6 x7 a3 a12 a13 a14 a15 a16 a17 a18 x8 a18 f0 a15 (u_55.2.1 0) a16 (u_55.2.1 1) a13 g0 a12 g1 a14 g2 a17 (u_55.2.1 2) a5 f4 a2 f5) H := hP
        replace hD : va_D A (zS_62 cB cC cI cJ a0 a3 a4 a5 a6 a7 a8 y1 x0 y2 y3 a1 a9 a10 a11 x1 x2 x3 x4 x5 x6 x7 a3 a12 a13 a14 a15 a16 a17 a18 x8 a18 f0 a15 (u_55.2.1 0) a16 (u_55.2.1 1) a13 g0 a12 g1 a14 g2 a17 (u_55.2.1 2) a5 f4 a2 f5) := hD
        have hw_58 : (∀ j, (-3) ≤ ((u_55.2.1 2) j).toInt ∧ ((u_55.2.1 2) j).toInt ≤ 24) := hw_57
        have kk0_r_56 := tI_3
        refine b_iinc (pc := 39) hx hb dX3_leastFor_39 hl (k := 0) rfl rfl tI_1 (by first | exact (om_2 hi_3.1) | ((first | omega | (unfold zBd at *; omega)))) (by first | exact (om_338 c_9 h_x2.2) | ((first | omega | (unfold zBd at *; omega)))) (by decide) (fun x_59 ex_59 ls hl => ?_)
        replace hl : lv_has ls 13 [(6, .int x_59), (5, .int x_1), (0, .ref a0), (1, .ref a1), (2, .ref a2), (3, .long y0)] := hl
        refine lv_goto (pc := 42) (tgt := 11) hx hb dX3_leastFor_42 (by decide) ?_
        exact ih_lp_8 x_59 (u_55.2.1 0) (u_55.2.1 1) (u_55.2.1 2) _ _ ls (by first | exact (om_339 ex_59 hi_3.1 c_9 h_x2.2) | ((first | omega | (unfold zBd at *; omega)))) hw_58 (by (first | omega | (unfold zBd at *; omega))) hP hD hS (lv_sub hl [0, 1, 2, 3, 4, 5] rfl)
  exact lp_8 _ 0 f1 f2 f3 _ _ ls (n_c tI_0 (by decide)) hf_f3 (Nat.lt_succ_self _) hP hD hS (lv_sub hl [0, 1, 2, 3, 4, 5] rfl)
theorem om_1288 {a b : Int} (h0 : (a = b)) (h1 : ((-2147483648) ≤ b)) : (-9223372036854775808 ≤ 2 * a) := by omega
theorem om_1289 {a b : Int} (h0 : (a = b)) (h1 : (b ≤ 2147483647)) : (2 * a ≤ 9223372036854775807) := by omega
set_option maxHeartbeats 4000000 in
set_option maxRecDepth 100000 in
theorem k_X3_tryFound (l : Launch) (D : va_G) (cB cC cI cJ : ClassId) (sz : Nat) (a0 a1 a2 a3 a4 a5 a6 a7 a8 a9 a10 a11 a12 a13 a14 a15 a16 a17 : Nat) (x0 x1 x2 x3 x4 x5 x6 x7 x8 : Int32) (y0 y1 y2 : Int64) (f0 f1 : Nat → Int32) (g0 g1 : Nat → Int64) (h_x0 : zBd x0.toInt 0 1) (h_x1 : zBd x1.toInt (-1) 8) (h_x2 : zBd x2.toInt (-1) 5) (h_x3 : zBd x3.toInt (-1) 6) (h_x4 : zBd x4.toInt 0 6) (h_x5 : zBd x5.toInt 0 16) (h_x8 : zBd x8.toInt 0 4) : Met l yX3_tryFound (.code yX3_tryFound cX3_tryFound 3 none :: lw_gd) ({ frames := 1, cells := 0, slots := 0, locals := 25 }) (gPre D [(cB, .byte), (cC, .char), (cI, .int), (cJ, .long)] [.ref a0, .ref a1] (zS_146 cB cC cI cJ a0 a2 a3 a4 a5 a6 a7 y0 x0 y1 y2 a1 a8 a9 a10 x1 x2 x3 x4 x5 x6 x7 a6 f0 a4 f1 a7 g0 a2 a11 a12 a13 a14 a15 a16 a17 x8 a11 g1) sz) (va_Qv (fun u => ((((-1) ≤ x2.toInt ∧ x2.toInt ≤ 5)))) (gB D (va_A (zS_146 cB cC cI cJ a0 a2 a3 a4 a5 a6 a7 y0 x0 y1 y2 a1 a8 a9 a10 x1 x2 x3 x4 x5 x6 x7 a6 f0 a4 f1 a7 g0 a2 a11 a12 a13 a14 a15 a16 a17 x8 a11 g1) sz) (fun u : gEx => (zS_146 cB cC cI cJ a0 a2 a3 a4 a5 a6 a7 (u.2.2.2.2 0) x0 y1 y2 a1 a8 a9 a10 x1 x2 x3 x4 x5 x6 x7 a6 (u.2.1 0) a4 f1 a7 (u.2.2.1 0) a2 a11 a12 a13 a14 a15 a16 a17 x8 a11 g1))) (va_A (zS_146 cB cC cI cJ a0 a2 a3 a4 a5 a6 a7 y0 x0 y1 y2 a1 a8 a9 a10 x1 x2 x3 x4 x5 x6 x7 a6 f0 a4 f1 a7 g0 a2 a11 a12 a13 a14 a15 a16 a17 x8 a11 g1) sz)) 0 0 (va_A (zS_146 cB cC cI cJ a0 a2 a3 a4 a5 a6 a7 y0 x0 y1 y2 a1 a8 a9 a10 x1 x2 x3 x4 x5 x6 x7 a6 f0 a4 f1 a7 g0 a2 a11 a12 a13 a14 a15 a16 a17 x8 a11 g1) sz) := by
  refine gOf_v (by decide +kernel) (Nat.le_of_ble_eq_true rfl) ?_
  intro p e s m args below meth c ls A Q hx hb hts hown hml hN hK hP hD hA hl hret
  replace hown : s.vm.findClass RX3 = some m.cls := hown
  have hS : va_S A s.heap s.heap [] := va_S.rf
  replace hP : va_P D gcl (zS_146 cB cC cI cJ a0 a2 a3 a4 a5 a6 a7 y0 x0 y1 y2 a1 a8 a9 a10 x1 x2 x3 x4 x5 x6 x7 a6 f0 a4 f1 a7 g0 a2 a11 a12 a13 a14 a15 a16 a17 x8 a11 g1) s.heap := hP
  replace hl : lv_has ls 3 [(0, .ref a0), (1, .ref a1)] := hl
  have ry0 := n_rngL y0
  have ry1 := n_rngL y1
  have ry2 := n_rngL y2
  have rx6 : zBd x6.toInt (-2147483648) 2147483647 := n_rng x6
  have rx7 : zBd x7.toInt (-2147483648) 2147483647 := n_rng x7
  refine lv_iconst (pc := 0) (v := 0) hx hb dX3_tryFound_0 (by decide) ?_
  refine lv_istore_n (pc := 1) (lv' := [(2, .int 0), (0, .ref a0), (1, .ref a1)]) hx hb dX3_tryFound_1 rfl hl (by decide) rfl (fun ls hl => ?_)
  have lp_7 : ∀ (n : Nat) (x_1 : Int32) (y_3 : Int64) (f_5 : Nat → Int32) (g_6 : Nat → Int64) (H : Heap) (locs : List Loc) (ls : Array Slot), (0 ≤ x_1.toInt ∧ x_1.toInt ≤ 2147483647) → (2147483647 - x_1.toInt).toNat < n → va_P D gcl (zS_146 cB cC cI cJ a0 a2 a3 a4 a5 a6 a7 y_3 x0 y1 y2 a1 a8 a9 a10 x1 x2 x3 x4 x5 x6 x7 a6 f_5 a4 f1 a7 g_6 a2 a11 a12 a13 a14 a15 a16 a17 x8 a11 g1) H → va_D A (zS_146 cB cC cI cJ a0 a2 a3 a4 a5 a6 a7 y_3 x0 y1 y2 a1 a8 a9 a10 x1 x2 x3 x4 x5 x6 x7 a6 f_5 a4 f1 a7 g_6 a2 a11 a12 a13 a14 a15 a16 a17 x8 a11 g1) → va_S A s.heap H locs → lv_has ls 3 [(2, .int x_1), (0, .ref a0), (1, .ref a1)] → W p l e ({ frames := 1, cells := 0, slots := 0, locals := 25 }) s m args below meth c H locs 0 0 Q (F0 m 2 ls []) := by
    intro n
    induction n with
    | zero => intro x_1 y_3 f_5 g_6 H locs ls hi_2 hmu; exact absurd hmu (Nat.not_lt_zero _)
    | succ n ih_lp_7 =>
      intro x_1 y_3 f_5 g_6 H locs ls hi_2 hmu_lp_7 hP hD hS hl
      have hi_4 := n_rngL y_3
      refine lv_iload_n (pc := 2) hx hb dX3_tryFound_2 rfl (lv_at hl 0 rfl) ?_
      refine lv_aload_n (pc := 3) hx hb dX3_tryFound_3 rfl (lv_at hl 2 rfl) ?_
      refine va_getN (pc := 4) (ci := 1) (v := .int x2) (C := RX1) (T := TX1) (N := 10) hx hb hts iX1 hown hK hP 1 rfl rfl 4 (by decide) (va_Nw.use rfl (hN _ tn_122)) (fun _ h9 => h9) rfl dX3_tryFound_4 ?_
      refine b_icmp_ge (pc := 7) (tgt := 72) hx hb rfl rfl  dX3_tryFound_7 (by decide) (fun c_8 => ?_) (fun c_8 => ?_)
      ·
        exact hret ((fun _ => 0), (fun k => [f_5].getD k (fun _ => 0)), (fun k => [g_6].getD k (fun _ => 0)), (fun _ => 0), (fun k => [y_3].getD k 0)) dX3_tryFound_72 (show ((((-1) ≤ x2.toInt ∧ x2.toInt ≤ 5))) from h_x2) (g_psub (wc := (zS_146 cB cC cI cJ a0 a2 a3 a4 a5 a6 a7 y_3 x0 y1 y2 a1 a8 a9 a10 x1 x2 x3 x4 x5 x6 x7 a6 f_5 a4 f1 a7 g_6 a2 a11 a12 a13 a14 a15 a16 a17 x8 a11 g1)) hP [0, 1, 2, 3, 4, 5, 6] rfl) (hD.sub (ws' := (zS_146 cB cC cI cJ a0 a2 a3 a4 a5 a6 a7 y_3 x0 y1 y2 a1 a8 a9 a10 x1 x2 x3 x4 x5 x6 x7 a6 f_5 a4 f1 a7 g_6 a2 a11 a12 a13 a14 a15 a16 a17 x8 a11 g1)) [0, 1, 2, 3, 4, 5, 6] (by decide) rfl) hS
      ·
        refine lv_aload_n (pc := 10) hx hb dX3_tryFound_10 rfl (lv_at hl 1 rfl) ?_
        refine va_get (pc := 11) (ci := 3) (v := .ref a6) (C := RX3) (T := TX3) (N := 10) hx hb hts iX3 hown hK hP 0 rfl rfl 4 (by decide) (hts _ tw_353) (fun _ h9 => h9) rfl dX3_tryFound_11 ?_
        refine lv_iload_n (pc := 14) hx hb dX3_tryFound_14 rfl (lv_at hl 0 rfl) ?_
        refine va_iald (pc := 15) hx hb hK hP 2 2 rfl rfl (n_in rfl (by first | exact (om_0 hi_2.1) | ((first | omega | (unfold zBd at *; omega)))) (by first | exact (om_1020 c_8 h_x2.2) | ((first | omega | (unfold zBd at *; omega))))) dX3_tryFound_15 ?_
        refine lv_topi (fun x_9 ex_9 => ?_)
        have rx_9 : zBd x_9.toInt (-2147483648) 2147483647 := n_rng x_9
        refine lv_aload_n (pc := 16) hx hb dX3_tryFound_16 rfl (lv_at hl 1 rfl) ?_
        refine va_get (pc := 17) (ci := 3) (v := .ref a4) (C := RX3) (T := TX3) (N := 10) hx hb hts iX3 hown hK hP 0 rfl rfl 2 (by decide) (hts _ tw_351) (fun _ h9 => h9) rfl dX3_tryFound_17 ?_
        refine lv_iload_n (pc := 20) hx hb dX3_tryFound_20 rfl (lv_at hl 0 rfl) ?_
        refine va_iald (pc := 21) hx hb hK hP 3 2 rfl rfl (n_in rfl (by first | exact (om_0 hi_2.1) | ((first | omega | (unfold zBd at *; omega)))) (by first | exact (om_1020 c_8 h_x2.2) | ((first | omega | (unfold zBd at *; omega))))) dX3_tryFound_21 ?_
        refine lv_topi (fun x_10 ex_10 => ?_)
        have rx_10 : zBd x_10.toInt (-2147483648) 2147483647 := n_rng x_10
        refine b_icmp_eq (pc := 22) (tgt := 66) hx hb rfl rfl  dX3_tryFound_22 (by decide) (fun c_11 => ?_) (fun c_11 => ?_)
        ·
          refine b_iinc (pc := 66) hx hb dX3_tryFound_66 hl (k := 0) rfl rfl tI_1 (by first | exact (om_2 hi_2.1) | ((first | omega | (unfold zBd at *; omega)))) (by first | exact (om_338 c_8 h_x2.2) | ((first | omega | (unfold zBd at *; omega)))) (by decide) (fun x_12 ex_12 ls hl => ?_)
          replace hl : lv_has ls 3 [(2, .int x_12), (0, .ref a0), (1, .ref a1)] := hl
          refine lv_goto (pc := 69) (tgt := 2) hx hb dX3_tryFound_69 (by decide) ?_
          exact ih_lp_7 x_12 y_3 f_5 g_6 _ _ ls (by first | exact (om_339 ex_12 hi_2.1 c_8 h_x2.2) | ((first | omega | (unfold zBd at *; omega)))) (by (first | omega | (unfold zBd at *; omega))) hP hD hS (lv_sub hl [0, 1, 2] rfl)
        ·
          refine lv_aload_n (pc := 25) hx hb dX3_tryFound_25 rfl (lv_at hl 1 rfl) ?_
          refine lv_iload_n (pc := 26) hx hb dX3_tryFound_26 rfl (lv_at hl 0 rfl) ?_
          refine lv_ldc2 (pc := 27) hx hb hown (hts _ tw_1255) dX3_tryFound_27 ?_
          refine lv_aload_n (pc := 30) hx hb dX3_tryFound_30 rfl (lv_at hl 2 rfl) ?_
          refine va_getN (pc := 31) (ci := 1) (v := .int x1) (C := RX1) (T := TX1) (N := 10) hx hb hts iX1 hown hK hP 1 rfl rfl 3 (by decide) (va_Nw.use rfl (hN _ tn_113)) (fun _ h9 => h9) rfl dX3_tryFound_31 ?_
          refine b_i2l (pc := 34) hx hb rfl dX3_tryFound_34 (fun y_13 ey_13 => ?_)
          have ry_13 : zBd x1.toInt (-2147483648) 2147483647 := n_rng x1
          refine b_lmul (pc := 35) hx hb tL_2 rfl (by first | exact (om_1288 ey_13 ry_13.1) | ((first | omega | (unfold zBd at *; omega)))) (by first | exact (om_1289 ey_13 ry_13.2) | ((first | omega | (unfold zBd at *; omega)))) dX3_tryFound_35 (fun y_14 ey_14 => ?_)
          refine lv_aload_n (pc := 36) hx hb dX3_tryFound_36 rfl (lv_at hl 1 rfl) ?_
          refine va_get (pc := 37) (ci := 3) (v := .ref a4) (C := RX3) (T := TX3) (N := 10) hx hb hts iX3 hown hK hP 0 rfl rfl 2 (by decide) (hts _ tw_351) (fun _ h9 => h9) rfl dX3_tryFound_37 ?_
          refine lv_iload_n (pc := 40) hx hb dX3_tryFound_40 rfl (lv_at hl 0 rfl) ?_
          refine va_iald (pc := 41) hx hb hK hP 3 2 rfl rfl (n_in rfl (by first | exact (om_0 hi_2.1) | ((first | omega | (unfold zBd at *; omega)))) (by first | exact (om_1020 c_8 h_x2.2) | ((first | omega | (unfold zBd at *; omega))))) dX3_tryFound_41 ?_
          refine gI (y := x_10) ex_10.symm ?_
          refine lv_aload_n (pc := 42) hx hb dX3_tryFound_42 rfl (lv_at hl 1 rfl) ?_
          refine va_get (pc := 43) (ci := 3) (v := .ref a6) (C := RX3) (T := TX3) (N := 10) hx hb hts iX3 hown hK hP 0 rfl rfl 4 (by decide) (hts _ tw_353) (fun _ h9 => h9) rfl dX3_tryFound_43 ?_
          refine lv_iload_n (pc := 46) hx hb dX3_tryFound_46 rfl (lv_at hl 0 rfl) ?_
          refine va_iald (pc := 47) hx hb hK hP 2 2 rfl rfl (n_in rfl (by first | exact (om_0 hi_2.1) | ((first | omega | (unfold zBd at *; omega)))) (by first | exact (om_1020 c_8 h_x2.2) | ((first | omega | (unfold zBd at *; omega))))) dX3_tryFound_47 ?_
          refine gI (y := x_9) ex_9.symm ?_
          refine lv_isub (pc := 48) hx hb dX3_tryFound_48 ?_
          refine lv_topi (fun x_15 _ => ?_)
          have rx_15 : zBd x_15.toInt (-2147483648) 2147483647 := n_rng x_15
          refine b_i2l (pc := 49) hx hb rfl dX3_tryFound_49 (fun y_16 ey_16 => ?_)
          have ry_16 : zBd x_15.toInt (-2147483648) 2147483647 := n_rng x_15
          refine lv_lmul (pc := 50) hx hb dX3_tryFound_50 ?_
          refine lv_topl (fun y_17 _ => ?_)
          have ry_17 := n_rngL y_17
          refine gd_v (pc := 51) (wc := (zS_114 cB cC cI cJ a0 a2 a3 a4 a5 a6 a7 y_3 x0 y1 y2 a7 g_6 a2 a11 a12 a13 a14 a15 a16 a17 x8 a11 g1)) hP hD hS hA [0, 4, 5, 6] rfl (by decide +kernel) (fun _ => by rfl) (fun hPc hDc => va_runV (As := [.int x_1, .long y_17]) (rest := []) ⟨hx, hb, hml, hown, hts⟩ (k_X3_move l D cB cC cI cJ _ a0 a2 a3 a4 a5 a6 a7 a11 a12 a13 a14 a15 a16 a17 x_1 x0 x8 y_17 y_3 y1 y2 g_6 g1 (by first | exact (om_360 hi_2.1 c_8 h_x2.2) | ((first | omega | (unfold zBd at *; omega)))) h_x0 h_x8) ⟨gcwB hts tw_1254 tw_12 tw_1251 hd_yX3_move ⟨Nat.le_of_ble_eq_true rfl, Nat.le_of_ble_eq_true rfl⟩, hts _ tw_1253, hts _ tp_49⟩ ⟨gblind, va_recv hK hPc (ci := 3) (q0 := 0) rfl rfl, (gpreS hPc hK hDc hN).2⟩ rfl rfl hl.1 rfl (lv_room (Nat.le_of_ble_eq_true rfl)) dX3_tryFound_51 ⟨Nat.le_of_ble_eq_true rfl, Nat.le_of_ble_eq_true rfl⟩) (fun u_18 H locs hw_20 hP hD hS => ?_)
          replace hP : va_P D gcl (zS_146 cB cC cI cJ a0 a2 a3 a4 a5 a6 a7 (u_18.2.2.2.2 0) x0 y1 y2 a1 a8 a9 a10 x1 x2 x3 x4 x5 x6 x7 a6 f_5 a4 f1 a7 (u_18.2.2.1 0) a2 a11 a12 a13 a14 a15 a16 a17 x8 a11 g1) H := hP
          replace hD : va_D A (zS_146 cB cC cI cJ a0 a2 a3 a4 a5 a6 a7 (u_18.2.2.2.2 0) x0 y1 y2 a1 a8 a9 a10 x1 x2 x3 x4 x5 x6 x7 a6 f_5 a4 f1 a7 (u_18.2.2.1 0) a2 a11 a12 a13 a14 a15 a16 a17 x8 a11 g1) := hD
          have ru_18_0 := n_rngL (u_18.2.2.2.2 0)
          have hw_21 : (((0 ≤ x8.toInt ∧ x8.toInt ≤ 4))) := hw_20
          refine lv_aload_n (pc := 54) hx hb dX3_tryFound_54 rfl (lv_at hl 1 rfl) ?_
          refine va_get (pc := 55) (ci := 3) (v := .ref a6) (C := RX3) (T := TX3) (N := 10) hx hb hts iX3 hown hK hP 0 rfl rfl 4 (by decide) (hts _ tw_353) (fun _ h9 => h9) rfl dX3_tryFound_55 ?_
          refine lv_iload_n (pc := 58) hx hb dX3_tryFound_58 rfl (lv_at hl 0 rfl) ?_
          refine lv_aload_n (pc := 59) hx hb dX3_tryFound_59 rfl (lv_at hl 1 rfl) ?_
          refine va_get (pc := 60) (ci := 3) (v := .ref a4) (C := RX3) (T := TX3) (N := 10) hx hb hts iX3 hown hK hP 0 rfl rfl 2 (by decide) (hts _ tw_351) (fun _ h9 => h9) rfl dX3_tryFound_60 ?_
          refine lv_iload_n (pc := 63) hx hb dX3_tryFound_63 rfl (lv_at hl 0 rfl) ?_
          refine va_iald (pc := 64) hx hb hK hP 3 2 rfl rfl (n_in rfl (by first | exact (om_0 hi_2.1) | ((first | omega | (unfold zBd at *; omega)))) (by first | exact (om_1020 c_8 h_x2.2) | ((first | omega | (unfold zBd at *; omega))))) dX3_tryFound_64 ?_
          refine gI (y := x_10) ex_10.symm ?_
          refine g_iastore (pc := 65) hx hb hK hP hD hS 2 2 rfl rfl (n_in rfl (by first | exact (om_0 hi_2.1) | ((first | omega | (unfold zBd at *; omega)))) (by first | exact (om_1020 c_8 h_x2.2) | ((first | omega | (unfold zBd at *; omega))))) dX3_tryFound_65 (fun f_22 H locs hP hD hS => ?_)
          replace hP : va_P D gcl (zS_146 cB cC cI cJ a0 a2 a3 a4 a5 a6 a7 (u_18.2.2.2.2 0) x0 y1 y2 a1 a8 a9 a10 x1 x2 x3 x4 x5 x6 x7 a6 f_22 a4 f1 a7 (u_18.2.2.1 0) a2 a11 a12 a13 a14 a15 a16 a17 x8 a11 g1) H := hP
          replace hD : va_D A (zS_146 cB cC cI cJ a0 a2 a3 a4 a5 a6 a7 (u_18.2.2.2.2 0) x0 y1 y2 a1 a8 a9 a10 x1 x2 x3 x4 x5 x6 x7 a6 f_22 a4 f1 a7 (u_18.2.2.1 0) a2 a11 a12 a13 a14 a15 a16 a17 x8 a11 g1) := hD
          refine b_iinc (pc := 66) hx hb dX3_tryFound_66 hl (k := 0) rfl rfl tI_1 (by first | exact (om_2 hi_2.1) | ((first | omega | (unfold zBd at *; omega)))) (by first | exact (om_338 c_8 h_x2.2) | ((first | omega | (unfold zBd at *; omega)))) (by decide) (fun x_23 ex_23 ls hl => ?_)
          replace hl : lv_has ls 3 [(2, .int x_23), (0, .ref a0), (1, .ref a1)] := hl
          refine lv_goto (pc := 69) (tgt := 2) hx hb dX3_tryFound_69 (by decide) ?_
          exact ih_lp_7 x_23 (u_18.2.2.2.2 0) f_22 (u_18.2.2.1 0) _ _ ls (by first | exact (om_339 ex_23 hi_2.1 c_8 h_x2.2) | ((first | omega | (unfold zBd at *; omega)))) (by (first | omega | (unfold zBd at *; omega))) hP hD hS (lv_sub hl [0, 1, 2] rfl)
  exact lp_7 _ 0 y0 f0 g0 _ _ ls (n_c tI_0 (by decide)) (Nat.lt_succ_self _) hP hD hS (lv_sub hl [0, 1, 2] rfl)
theorem om_1290 {a b c d : Int} (h0 : ((-9223372036854775808) ≤ a)) (h1 : (a ≤ 9223372036854775807)) (h2 : (b < 0)) : (((((-9223372036854775808) ≤ a ∧ a ≤ 9223372036854775807) ∧ b < 0) ∨ (a = b ∧ b ≥ 0 ∧ c = d))) := by omega
theorem om_1291 {a b : Int} (h0 : (a ≥ 0)) : (((((-9223372036854775808) ≤ a ∧ a ≤ 9223372036854775807) ∧ a < 0) ∨ (a = a ∧ a ≥ 0 ∧ b = b))) := by omega
set_option maxHeartbeats 4000000 in
set_option maxRecDepth 100000 in
theorem k_X3_mostOfAll (l : Launch) (D : va_G) (cB cC cI cJ : ClassId) (sz : Nat) (a0 a1 a2 a3 a4 a5 a6 a7 a8 a9 a10 a11 a12 a13 a14 a15 a16 a17 a18 : Nat) (x0 x1 x2 x3 x4 x5 x6 x7 x8 : Int32) (y0 y1 y2 : Int64) (f0 f1 f2 f3 f4 f5 f6 f7 : Nat → Int32) (g0 g1 g2 g3 : Nat → Int64) (h_x0 : zBd x0.toInt 0 1) (h_x1 : zBd x1.toInt 0 4) (h_x2 : zBd x2.toInt (-1) 8) (h_x3 : zBd x3.toInt (-1) 5) (h_x4 : zBd x4.toInt (-1) 6) (h_x5 : zBd x5.toInt 0 6) (h_x6 : zBd x6.toInt 0 16) (hf_f3 : (∀ j, 0 ≤ (f3 j).toInt ∧ (f3 j).toInt ≤ 23)) (hf_f6 : (∀ j, (-3) ≤ (f6 j).toInt ∧ (f6 j).toInt ≤ 24)) : Met l yX3_mostOfAll (.code yX3_mostOfAll cX3_mostOfAll 6 (some .long) :: lw_gd) ({ frames := 3, cells := 0, slots := 0, locals := 84 }) (gPre D [(cB, .byte), (cC, .char), (cI, .int), (cJ, .long)] [.ref a0, .ref a1] (zS_89 cB cC cI cJ a0 a2 a3 a4 a5 a6 a7 y0 x0 y1 y2 a2 a8 a9 a10 a11 a12 a13 a14 x1 a1 a15 a16 a17 x2 x3 x4 x5 x6 x7 x8 a15 a18 a18 f0 a8 g0 a10 g1 a9 g2 a6 f1 a7 g3 a5 f2 a14 f3 a11 f4 a12 f5 a13 f6 a4 f7) sz) (va_Ql (fun r u => ((((-9223372036854775808) ≤ r.toInt ∧ r.toInt ≤ 9223372036854775807) ∧ y2.toInt < 0) ∨ (r.toInt = y2.toInt ∧ y2.toInt ≥ 0 ∧ (u.2.2.2.1 0).toInt = x1.toInt)) ∧ (0 ≤ (u.2.2.2.1 0).toInt ∧ (u.2.2.2.1 0).toInt ≤ 4) ∧ (∀ j, 0 ≤ ((u.2.1 2) j).toInt ∧ ((u.2.1 2) j).toInt ≤ 23) ∧ (∀ j, (-3) ≤ ((u.2.1 5) j).toInt ∧ ((u.2.1 5) j).toInt ≤ 24)) (gB D (va_A (zS_89 cB cC cI cJ a0 a2 a3 a4 a5 a6 a7 y0 x0 y1 y2 a2 a8 a9 a10 a11 a12 a13 a14 x1 a1 a15 a16 a17 x2 x3 x4 x5 x6 x7 x8 a15 a18 a18 f0 a8 g0 a10 g1 a9 g2 a6 f1 a7 g3 a5 f2 a14 f3 a11 f4 a12 f5 a13 f6 a4 f7) sz) (fun u : gEx => (zS_89 cB cC cI cJ a0 a2 a3 a4 a5 a6 a7 (u.2.2.2.2 0) x0 y1 (u.2.2.2.2 1) a2 a8 a9 a10 a11 a12 a13 a14 (u.2.2.2.1 0) a1 a15 a16 a17 x2 x3 x4 x5 x6 x7 x8 a15 a18 a18 f0 a8 (u.2.2.1 0) a10 (u.2.2.1 1) a9 (u.2.2.1 2) a6 (u.2.1 0) a7 (u.2.2.1 3) a5 (u.2.1 1) a14 (u.2.1 2) a11 (u.2.1 3) a12 (u.2.1 4) a13 (u.2.1 5) a4 (u.2.1 6)))) (va_A (zS_89 cB cC cI cJ a0 a2 a3 a4 a5 a6 a7 y0 x0 y1 y2 a2 a8 a9 a10 a11 a12 a13 a14 x1 a1 a15 a16 a17 x2 x3 x4 x5 x6 x7 x8 a15 a18 a18 f0 a8 g0 a10 g1 a9 g2 a6 f1 a7 g3 a5 f2 a14 f3 a11 f4 a12 f5 a13 f6 a4 f7) sz)) 0 0 (va_A (zS_89 cB cC cI cJ a0 a2 a3 a4 a5 a6 a7 y0 x0 y1 y2 a2 a8 a9 a10 a11 a12 a13 a14 x1 a1 a15 a16 a17 x2 x3 x4 x5 x6 x7 x8 a15 a18 a18 f0 a8 g0 a10 g1 a9 g2 a6 f1 a7 g3 a5 f2 a14 f3 a11 f4 a12 f5 a13 f6 a4 f7) sz) := by
  refine gOf_l (by decide +kernel) (Nat.le_of_ble_eq_true rfl) ?_
  intro p e s m args below meth c ls A Q hx hb hts hown hml hN hK hP hD hA hl hret
  replace hown : s.vm.findClass RX3 = some m.cls := hown
  have hS : va_S A s.heap s.heap [] := va_S.rf
  replace hP : va_P D gcl (zS_89 cB cC cI cJ a0 a2 a3 a4 a5 a6 a7 y0 x0 y1 y2 a2 a8 a9 a10 a11 a12 a13 a14 x1 a1 a15 a16 a17 x2 x3 x4 x5 x6 x7 x8 a15 a18 a18 f0 a8 g0 a10 g1 a9 g2 a6 f1 a7 g3 a5 f2 a14 f3 a11 f4 a12 f5 a13 f6 a4 f7) s.heap := hP
  replace hl : lv_has ls 6 [(0, .ref a0), (1, .ref a1)] := hl
  have ry0 := n_rngL y0
  have ry1 := n_rngL y1
  have ry2 := n_rngL y2
  have rx7 : zBd x7.toInt (-2147483648) 2147483647 := n_rng x7
  have rx8 : zBd x8.toInt (-2147483648) 2147483647 := n_rng x8
  refine lv_aload_n (pc := 0) hx hb dX3_mostOfAll_0 rfl (lv_at hl 0 rfl) ?_
  refine va_get (pc := 1) (ci := 3) (v := .long y2) (C := RX3) (T := TX3) (N := 10) hx hb hts iX3 hown hK hP 0 rfl rfl 9 (by decide) (hts _ tw_359) (fun _ h9 => h9) rfl dX3_mostOfAll_1 ?_
  refine lv_lconst (pc := 4) (v := 0) hx hb dX3_mostOfAll_4 (by decide) ?_
  refine b_lcmp_lt (pc := 5) (tgt := 14) hx hb rfl tL_0 dX3_mostOfAll_5 dX3_mostOfAll_6 (by decide) (fun c_1 => ?_) (fun c_1 => ?_)
  ·
    refine lv_aload_n (pc := 14) hx hb dX3_mostOfAll_14 rfl (lv_at hl 0 rfl) ?_
    refine va_get (pc := 15) (ci := 3) (v := .ref a2) (C := RX3) (T := TX3) (N := 10) hx hb hts iX3 hown hK hP 0 rfl rfl 0 (by decide) (hts _ tw_348) (fun _ h9 => h9) rfl dX3_mostOfAll_15 ?_
    refine lv_aload_n (pc := 18) hx hb dX3_mostOfAll_18 rfl (lv_at hl 1 rfl) ?_
    refine gd_v (pc := 19) (wc := (zS_42 cB cC cI cJ a2 a8 a9 a10 a11 a12 a13 a14 x1 a1 a15 a16 a17 x2 x3 x4 x5 x6 x7 x8 a15 a18 a18 f0 a8 g0 a10 g1 a9 g2)) hP hD hS hA [1, 2, 3, 4, 5, 6, 7] rfl (by decide +kernel) (fun _ => by rfl) (fun hPc hDc => va_runV (As := [.ref a1]) (rest := []) ⟨hx, hb, hml, hown, hts⟩ (k_X10_start l D cB cC cI cJ _ a2 a1 a8 a9 a10 a11 a12 a13 a14 a15 a16 a17 a18 x1 x2 x3 x4 x5 x6 x7 x8 f0 g0 g1 g2 h_x1 h_x2 h_x3 h_x4 h_x5 h_x6) ⟨gcwB hts tw_883 tw_8 tw_1244 hd_yX10_start ⟨Nat.le_of_ble_eq_true rfl, Nat.le_of_ble_eq_true rfl⟩, hts _ tw_881, hts _ tw_882⟩ ⟨gblind, va_recv hK hPc (ci := 10) (q0 := 0) rfl rfl, (gpreS hPc hK hDc hN).2⟩ rfl rfl hl.1 rfl (lv_room (Nat.le_of_ble_eq_true rfl)) dX3_mostOfAll_19 ⟨Nat.le_of_ble_eq_true rfl, Nat.le_of_ble_eq_true rfl⟩) (fun u_2 H locs hw_4 hP hD hS => ?_)
    replace hP : va_P D gcl (zS_89 cB cC cI cJ a0 a2 a3 a4 a5 a6 a7 y0 x0 y1 y2 a2 a8 a9 a10 a11 a12 a13 a14 (u_2.2.2.2.1 0) a1 a15 a16 a17 x2 x3 x4 x5 x6 x7 x8 a15 a18 a18 f0 a8 (u_2.2.2.1 0) a10 (u_2.2.2.1 1) a9 (u_2.2.2.1 2) a6 f1 a7 g3 a5 f2 a14 f3 a11 f4 a12 f5 a13 f6 a4 f7) H := hP
    replace hD : va_D A (zS_89 cB cC cI cJ a0 a2 a3 a4 a5 a6 a7 y0 x0 y1 y2 a2 a8 a9 a10 a11 a12 a13 a14 (u_2.2.2.2.1 0) a1 a15 a16 a17 x2 x3 x4 x5 x6 x7 x8 a15 a18 a18 f0 a8 (u_2.2.2.1 0) a10 (u_2.2.2.1 1) a9 (u_2.2.2.1 2) a6 f1 a7 g3 a5 f2 a14 f3 a11 f4 a12 f5 a13 f6 a4 f7) := hD
    have hw_5 : (0 ≤ (u_2.2.2.2.1 0).toInt ∧ (u_2.2.2.2.1 0).toInt ≤ 4) := hw_4
    refine lv_aload_n (pc := 22) hx hb dX3_mostOfAll_22 rfl (lv_at hl 0 rfl) ?_
    refine lv_aload_n (pc := 23) hx hb dX3_mostOfAll_23 rfl (lv_at hl 1 rfl) ?_
    refine gd_v (pc := 24) (wc := (zS_115 cB cC cI cJ a0 a2 a3 a4 a5 a6 a7 y0 x0 y1 y2 a6 f1 a7 g3 a1 a15 a16 a17 x2 x3 x4 x5 x6 x7 x8 a5 f2 a2 a8 a9 a10 a11 a12 a13 a14 (u_2.2.2.2.1 0) a8 (u_2.2.2.1 0))) hP hD hS hA [0, 8, 9, 2, 10, 1, 5] rfl (by decide +kernel) (fun _ => by rfl) (fun hPc hDc => va_runV (As := [.ref a1]) (rest := []) ⟨hx, hb, hml, hown, hts⟩ (k_X3_startTrying l D cB cC cI cJ _ a0 a1 a2 a3 a4 a5 a6 a7 a15 a16 a17 a8 a9 a10 a11 a12 a13 a14 x0 x2 x3 x4 x5 x6 x7 x8 (u_2.2.2.2.1 0) y0 y1 y2 f1 f2 g3 (u_2.2.2.1 0) h_x0 h_x2 h_x3 h_x4 h_x5 h_x6 hw_5) ⟨gcwB hts tw_1248 tw_12 tw_1245 hd_yX3_startTrying ⟨Nat.le_of_ble_eq_true rfl, Nat.le_of_ble_eq_true rfl⟩, hts _ tw_1247, hts _ tp_48⟩ ⟨gblind, va_recv hK hPc (ci := 3) (q0 := 0) rfl rfl, (gpreS hPc hK hDc hN).2⟩ rfl rfl hl.1 rfl (lv_room (Nat.le_of_ble_eq_true rfl)) dX3_mostOfAll_24 ⟨Nat.le_of_ble_eq_true rfl, Nat.le_of_ble_eq_true rfl⟩) (fun u_6 H locs hw_8 hP hD hS => ?_)
    replace hP : va_P D gcl (zS_89 cB cC cI cJ a0 a2 a3 a4 a5 a6 a7 (u_6.2.2.2.2 0) x0 y1 y2 a2 a8 a9 a10 a11 a12 a13 a14 (u_2.2.2.2.1 0) a1 a15 a16 a17 x2 x3 x4 x5 x6 x7 x8 a15 a18 a18 f0 a8 (u_2.2.2.1 0) a10 (u_2.2.2.1 1) a9 (u_2.2.2.1 2) a6 (u_6.2.1 0) a7 (u_6.2.2.1 0) a5 (u_6.2.1 1) a14 f3 a11 f4 a12 f5 a13 f6 a4 f7) H := hP
    replace hD : va_D A (zS_89 cB cC cI cJ a0 a2 a3 a4 a5 a6 a7 (u_6.2.2.2.2 0) x0 y1 y2 a2 a8 a9 a10 a11 a12 a13 a14 (u_2.2.2.2.1 0) a1 a15 a16 a17 x2 x3 x4 x5 x6 x7 x8 a15 a18 a18 f0 a8 (u_2.2.2.1 0) a10 (u_2.2.2.1 1) a9 (u_2.2.2.1 2) a6 (u_6.2.1 0) a7 (u_6.2.2.1 0) a5 (u_6.2.1 1) a14 f3 a11 f4 a12 f5 a13 f6 a4 f7) := hD
    have ru_6_0 := n_rngL (u_6.2.2.2.2 0)
    have hw_9 : ((((-1) ≤ x3.toInt ∧ x3.toInt ≤ 5))) := hw_8
    refine lv_ldc2 (pc := 27) hx hb hown (hts _ tw_347) dX3_mostOfAll_27 ?_
    refine lv_lstore_n (pc := 30) (lv' := [(2, .long (-1)), (0, .ref a0), (1, .ref a1)]) hx hb dX3_mostOfAll_30 rfl hl (by decide) rfl (fun ls hl => ?_)
    refine lv_aload_n (pc := 31) hx hb dX3_mostOfAll_31 rfl (lv_at hl 2 rfl) ?_
    refine gd_i (pc := 32) (wc := (zS_5 cB cC cI cJ a1 a15 a16 a17 x2 x3 x4 x5 x6 x7 x8)) hP hD hS hA [2] rfl (by decide +kernel) (fun _ => by rfl) (fun hPc hDc => va_runV (As := []) (rest := []) ⟨hx, hb, hml, hown, hts⟩ (k_X1_rowCount l D cB cC cI cJ _ a1 a15 a16 a17 x2 x3 x4 x5 x6 x7 x8 h_x2 hw_9 h_x4 h_x5 h_x6) ⟨gcwB hts tw_964 tw_4 tw_1256 hd_yX1_rowCount ⟨Nat.le_of_ble_eq_true rfl, Nat.le_of_ble_eq_true rfl⟩, hts _ tw_962, hts _ tw_963⟩ ⟨gblind, va_recv hK hPc (ci := 1) (q0 := 0) rfl rfl, (gpreS hPc hK hDc hN).2⟩ rfl rfl hl.1 rfl (lv_room (Nat.le_of_ble_eq_true rfl)) dX3_mostOfAll_32 ⟨Nat.le_of_ble_eq_true rfl, Nat.le_of_ble_eq_true rfl⟩) (fun r_11 u_10 H locs hw_12 hP hD hS => ?_)
    replace hP : va_P D gcl (zS_89 cB cC cI cJ a0 a2 a3 a4 a5 a6 a7 (u_6.2.2.2.2 0) x0 y1 y2 a2 a8 a9 a10 a11 a12 a13 a14 (u_2.2.2.2.1 0) a1 a15 a16 a17 x2 x3 x4 x5 x6 x7 x8 a15 a18 a18 f0 a8 (u_2.2.2.1 0) a10 (u_2.2.2.1 1) a9 (u_2.2.2.1 2) a6 (u_6.2.1 0) a7 (u_6.2.2.1 0) a5 (u_6.2.1 1) a14 f3 a11 f4 a12 f5 a13 f6 a4 f7) H := hP
    replace hD : va_D A (zS_89 cB cC cI cJ a0 a2 a3 a4 a5 a6 a7 (u_6.2.2.2.2 0) x0 y1 y2 a2 a8 a9 a10 a11 a12 a13 a14 (u_2.2.2.2.1 0) a1 a15 a16 a17 x2 x3 x4 x5 x6 x7 x8 a15 a18 a18 f0 a8 (u_2.2.2.1 0) a10 (u_2.2.2.1 1) a9 (u_2.2.2.1 2) a6 (u_6.2.1 0) a7 (u_6.2.2.1 0) a5 (u_6.2.1 1) a14 f3 a11 f4 a12 f5 a13 f6 a4 f7) := hD
    have hw_13 : ((((-2147483648) ≤ r_11.toInt ∧ r_11.toInt ≤ 2147483647) ∧ ¬ x3.toInt = 0) ∨ (r_11.toInt = 0 ∧ x3.toInt = 0)) := hw_12
    have rr_11 : zBd r_11.toInt (-2147483648) 2147483647 := n_rng r_11
    refine lv_iconst (pc := 35) (v := 1) hx hb dX3_mostOfAll_35 (by decide) ?_
    refine lv_iadd (pc := 36) hx hb dX3_mostOfAll_36 ?_
    refine lv_topi (fun x_14 _ => ?_)
    have rx_14 : zBd x_14.toInt (-2147483648) 2147483647 := n_rng x_14
    refine lv_iconst (pc := 37) (v := 2) hx hb dX3_mostOfAll_37 (by decide) ?_
    refine lv_idiv (pc := 38) hx hb dX3_mostOfAll_38 (fun h => by have q := congrArg Int32.toInt h; have k := tI_0; have k2 := tI_2; (first | omega | (unfold zBd at *; omega))) ?_
    refine lv_topi (fun x_15 _ => ?_)
    have rx_15 : zBd x_15.toInt (-2147483648) 2147483647 := n_rng x_15
    refine lv_istore (pc := 39) (lv' := [(4, .int x_15), (2, .long (-1)), (0, .ref a0), (1, .ref a1)]) hx hb dX3_mostOfAll_39 hl (by decide) rfl (fun ls hl => ?_)
    refine lv_iconst (pc := 41) (v := 0) hx hb dX3_mostOfAll_41 (by decide) ?_
    refine lv_istore (pc := 42) (lv' := [(5, .int 0), (4, .int x_15), (2, .long (-1)), (0, .ref a0), (1, .ref a1)]) hx hb dX3_mostOfAll_42 hl (by decide) rfl (fun ls hl => ?_)
    have lp_34 : ∀ (n : Nat) (x_16 : Int32) (y_18 y_20 : Int64) (f_24 f_26 f_27 f_29 f_30 f_31 f_33 : Nat → Int32) (g_22 g_23 g_25 : Nat → Int64) (H : Heap) (locs : List Loc) (ls : Array Slot), (0 ≤ x_16.toInt ∧ x_16.toInt ≤ 2147483647) → (∀ j, 0 ≤ (f_27 j).toInt ∧ (f_27 j).toInt ≤ 23) → (∀ j, (-3) ≤ (f_31 j).toInt ∧ (f_31 j).toInt ≤ 24) → (2147483647 - x_16.toInt).toNat < n → va_P D gcl (zS_89 cB cC cI cJ a0 a2 a3 a4 a5 a6 a7 y_20 x0 y1 y2 a2 a8 a9 a10 a11 a12 a13 a14 (u_2.2.2.2.1 0) a1 a15 a16 a17 x2 x3 x4 x5 x6 x7 x8 a15 a18 a18 f0 a8 (u_2.2.2.1 0) a10 g_22 a9 g_23 a6 f_24 a7 g_25 a5 f_26 a14 f_27 a11 f_29 a12 f_30 a13 f_31 a4 f_33) H → va_D A (zS_89 cB cC cI cJ a0 a2 a3 a4 a5 a6 a7 y_20 x0 y1 y2 a2 a8 a9 a10 a11 a12 a13 a14 (u_2.2.2.2.1 0) a1 a15 a16 a17 x2 x3 x4 x5 x6 x7 x8 a15 a18 a18 f0 a8 (u_2.2.2.1 0) a10 g_22 a9 g_23 a6 f_24 a7 g_25 a5 f_26 a14 f_27 a11 f_29 a12 f_30 a13 f_31 a4 f_33) → va_S A s.heap H locs → lv_has ls 6 [(5, .int x_16), (4, .int x_15), (2, .long y_18), (0, .ref a0), (1, .ref a1)] → W p l e ({ frames := 3, cells := 0, slots := 0, locals := 84 }) s m args below meth c H locs 0 0 Q (F0 m 44 ls []) := by
      intro n
      induction n with
      | zero => intro x_16 y_18 y_20 f_24 f_26 f_27 f_29 f_30 f_31 f_33 g_22 g_23 g_25 H locs ls hi_17 hi_28 hi_32 hmu; exact absurd hmu (Nat.not_lt_zero _)
      | succ n ih_lp_34 =>
        intro x_16 y_18 y_20 f_24 f_26 f_27 f_29 f_30 f_31 f_33 g_22 g_23 g_25 H locs ls hi_17 hi_28 hi_32 hmu_lp_34 hP hD hS hl
        have hi_19 := n_rngL y_18
        have hi_21 := n_rngL y_20
        refine lv_iload (pc := 44) hx hb dX3_mostOfAll_44 (lv_at hl 0 rfl) ?_
        refine lv_iload (pc := 46) hx hb dX3_mostOfAll_46 (lv_at hl 1 rfl) ?_
        refine b_icmp_ge (pc := 48) (tgt := 91) hx hb rfl rfl  dX3_mostOfAll_48 (by decide) (fun c_35 => ?_) (fun c_35 => ?_)
        ·
          refine lv_aload_n (pc := 91) hx hb dX3_mostOfAll_91 rfl (lv_at hl 3 rfl) ?_
          refine lv_lload_n (pc := 92) hx hb dX3_mostOfAll_92 rfl (lv_at hl 2 rfl) ?_
          refine va_put (pc := 93) (ci := 3) (v := .long y_18) (ty := .long) (C := RX3) (T := TX3) (N := 10) hx hb hts iX3 tyX3 tyX3_ok nmX3 hown hK hP hD hS 0 rfl rfl 9 (by decide) (hts _ tw_359) (fun _ h9 => h9) rfl (by decide +kernel) rfl rfl (Nat.le_of_ble_eq_true rfl) dX3_mostOfAll_93 (fun H locs hP hD hS => ?_)
          replace hP : va_P D gcl (zS_89 cB cC cI cJ a0 a2 a3 a4 a5 a6 a7 y_20 x0 y1 y_18 a2 a8 a9 a10 a11 a12 a13 a14 (u_2.2.2.2.1 0) a1 a15 a16 a17 x2 x3 x4 x5 x6 x7 x8 a15 a18 a18 f0 a8 (u_2.2.2.1 0) a10 g_22 a9 g_23 a6 f_24 a7 g_25 a5 f_26 a14 f_27 a11 f_29 a12 f_30 a13 f_31 a4 f_33) H := hP
          replace hD : va_D A (zS_89 cB cC cI cJ a0 a2 a3 a4 a5 a6 a7 y_20 x0 y1 y_18 a2 a8 a9 a10 a11 a12 a13 a14 (u_2.2.2.2.1 0) a1 a15 a16 a17 x2 x3 x4 x5 x6 x7 x8 a15 a18 a18 f0 a8 (u_2.2.2.1 0) a10 g_22 a9 g_23 a6 f_24 a7 g_25 a5 f_26 a14 f_27 a11 f_29 a12 f_30 a13 f_31 a4 f_33) := hD
          refine lv_lload_n (pc := 96) hx hb dX3_mostOfAll_96 rfl (lv_at hl 2 rfl) ?_
          exact hret y_18 ((fun _ => 0), (fun k => [f_24, f_26, f_27, f_29, f_30, f_31, f_33].getD k (fun _ => 0)), (fun k => [(u_2.2.2.1 0), g_22, g_23, g_25].getD k (fun _ => 0)), (fun k => [(u_2.2.2.2.1 0)].getD k 0), (fun k => [y_20, y_18].getD k 0)) dX3_mostOfAll_97 ⟨(show ((((-9223372036854775808) ≤ y_18.toInt ∧ y_18.toInt ≤ 9223372036854775807) ∧ y2.toInt < 0) ∨ (y_18.toInt = y2.toInt ∧ y2.toInt ≥ 0 ∧ ((u_2.2.2.2.1 0) : Int32).toInt = x1.toInt)) from (by first | exact (om_1290 hi_19.1 hi_19.2 c_1) | ((first | omega | (unfold zBd at *; omega))))), (show (0 ≤ ((u_2.2.2.2.1 0) : Int32).toInt ∧ ((u_2.2.2.2.1 0) : Int32).toInt ≤ 4) from hw_5), hi_28, hi_32⟩ (g_psub (wc := (zS_89 cB cC cI cJ a0 a2 a3 a4 a5 a6 a7 y_20 x0 y1 y_18 a2 a8 a9 a10 a11 a12 a13 a14 (u_2.2.2.2.1 0) a1 a15 a16 a17 x2 x3 x4 x5 x6 x7 x8 a15 a18 a18 f0 a8 (u_2.2.2.1 0) a10 g_22 a9 g_23 a6 f_24 a7 g_25 a5 f_26 a14 f_27 a11 f_29 a12 f_30 a13 f_31 a4 f_33)) hP [0, 1, 2, 3, 4, 5, 6, 7, 8, 9, 10, 11, 12, 13, 14, 15] rfl) (hD.sub (ws' := (zS_89 cB cC cI cJ a0 a2 a3 a4 a5 a6 a7 y_20 x0 y1 y_18 a2 a8 a9 a10 a11 a12 a13 a14 (u_2.2.2.2.1 0) a1 a15 a16 a17 x2 x3 x4 x5 x6 x7 x8 a15 a18 a18 f0 a8 (u_2.2.2.1 0) a10 g_22 a9 g_23 a6 f_24 a7 g_25 a5 f_26 a14 f_27 a11 f_29 a12 f_30 a13 f_31 a4 f_33)) [0, 1, 2, 3, 4, 5, 6, 7, 8, 9, 10, 11, 12, 13, 14, 15] (by decide) rfl) hS
        ·
          refine lv_aload_n (pc := 51) hx hb dX3_mostOfAll_51 rfl (lv_at hl 3 rfl) ?_
          refine lv_lload_n (pc := 52) hx hb dX3_mostOfAll_52 rfl (lv_at hl 2 rfl) ?_
          refine lv_aload_n (pc := 53) hx hb dX3_mostOfAll_53 rfl (lv_at hl 4 rfl) ?_
          refine gd_i (pc := 54) (wc := (zS_88 cB cC cI cJ a0 a2 a3 a4 a5 a6 a7 y_20 x0 y1 y2 a1 a15 a16 a17 x2 x3 x4 x5 x6 x7 x8 a2 a8 a9 a10 a11 a12 a13 a14 (u_2.2.2.2.1 0) a7 g_25 a6 f_24 a8 (u_2.2.2.1 0))) hP hD hS hA [0, 2, 1, 9, 8, 5] rfl (by decide +kernel) (fun _ => by rfl) (fun hPc hDc => va_runV (As := [.long y_18, .ref a1]) (rest := []) ⟨hx, hb, hml, hown, hts⟩ (k_X3_fallsTo l D cB cC cI cJ _ a0 a1 a2 a3 a4 a5 a6 a7 a15 a16 a17 a8 a9 a10 a11 a12 a13 a14 x0 x2 x3 x4 x5 x6 x7 x8 (u_2.2.2.2.1 0) y_18 y_20 y1 y2 f_24 g_25 (u_2.2.2.1 0) h_x0 h_x2 hw_9 h_x4 h_x5 h_x6 hw_5) ⟨gcwB hts tw_1260 tw_12 tw_1257 hd_yX3_fallsTo ⟨Nat.le_of_ble_eq_true rfl, Nat.le_of_ble_eq_true rfl⟩, hts _ tw_1259, hts _ tp_50⟩ ⟨gblind, va_recv hK hPc (ci := 3) (q0 := 0) rfl rfl, (gpreS hPc hK hDc hN).2⟩ rfl rfl hl.1 rfl (lv_room (Nat.le_of_ble_eq_true rfl)) dX3_mostOfAll_54 ⟨Nat.le_of_ble_eq_true rfl, Nat.le_of_ble_eq_true rfl⟩) (fun r_37 u_36 H locs hw_38 hP hD hS => ?_)
          replace hP : va_P D gcl (zS_89 cB cC cI cJ a0 a2 a3 a4 a5 a6 a7 (u_36.2.2.2.2 0) x0 y1 y2 a2 a8 a9 a10 a11 a12 a13 a14 (u_2.2.2.2.1 0) a1 a15 a16 a17 x2 x3 x4 x5 x6 x7 x8 a15 a18 a18 f0 a8 (u_2.2.2.1 0) a10 g_22 a9 g_23 a6 (u_36.2.1 0) a7 (u_36.2.2.1 0) a5 f_26 a14 f_27 a11 f_29 a12 f_30 a13 f_31 a4 f_33) H := hP
          replace hD : va_D A (zS_89 cB cC cI cJ a0 a2 a3 a4 a5 a6 a7 (u_36.2.2.2.2 0) x0 y1 y2 a2 a8 a9 a10 a11 a12 a13 a14 (u_2.2.2.2.1 0) a1 a15 a16 a17 x2 x3 x4 x5 x6 x7 x8 a15 a18 a18 f0 a8 (u_2.2.2.1 0) a10 g_22 a9 g_23 a6 (u_36.2.1 0) a7 (u_36.2.2.1 0) a5 f_26 a14 f_27 a11 f_29 a12 f_30 a13 f_31 a4 f_33) := hD
          have ru_36_0 := n_rngL (u_36.2.2.2.2 0)
          have hw_39 : ((r_37.toInt = 0 ∧ ((-9223372036854775808) ≤ y_18.toInt ∧ y_18.toInt ≤ 9223372036854775806)) ∨ (r_37.toInt = 1 ∧ ((-9223372036854775808) ≤ y_18.toInt ∧ y_18.toInt ≤ 9223372036854775807)) ∨ (r_37.toInt = 0 ∧ ((-9223372036854775808) ≤ y_18.toInt ∧ y_18.toInt ≤ 9223372036854775806) ∧ (0 ≤ (u_2.2.2.2.1 0).toInt ∧ (u_2.2.2.2.1 0).toInt ≤ 4))) := hw_38
          have rr_37 : zBd r_37.toInt (-2147483648) 2147483647 := n_rng r_37
          refine b_if_ne (pc := 57) (tgt := 80) hx hb rfl  dX3_mostOfAll_57 (by decide) (fun c_40 => ?_) (fun c_40 => ?_)
          ·
            refine lv_aload_n (pc := 80) hx hb dX3_mostOfAll_80 rfl (lv_at hl 3 rfl) ?_
            refine lv_aload_n (pc := 81) hx hb dX3_mostOfAll_81 rfl (lv_at hl 4 rfl) ?_
            refine gd_v (pc := 82) (wc := (zS_84 cB cC cI cJ a0 a2 a3 a4 a5 a6 a7 (u_36.2.2.2.2 0) x0 y1 y2 a2 a8 a9 a10 a11 a12 a13 a14 (u_2.2.2.2.1 0) a5 f_26 a7 (u_36.2.2.1 0) a8 (u_2.2.2.1 0) a1 a15 a16 a17 x2 x3 x4 x5 x6 x7 x8)) hP hD hS hA [0, 1, 10, 9, 5, 2] rfl (by decide +kernel) (fun _ => by rfl) (fun hPc hDc => va_runV (As := [.ref a1]) (rest := []) ⟨hx, hb, hml, hown, hts⟩ (k_X3_nextLetters l D cB cC cI cJ _ a0 a1 a2 a3 a4 a5 a6 a7 a8 a9 a10 a11 a12 a13 a14 a15 a16 a17 x0 (u_2.2.2.2.1 0) x2 x3 x4 x5 x6 x7 x8 (u_36.2.2.2.2 0) y1 y2 f_26 (u_36.2.2.1 0) (u_2.2.2.1 0) h_x0 hw_5 h_x2 hw_9 h_x4 h_x5 h_x6) ⟨gcwB hts tw_1288 tw_12 tw_1285 hd_yX3_nextLetters ⟨Nat.le_of_ble_eq_true rfl, Nat.le_of_ble_eq_true rfl⟩, hts _ tw_1287, hts _ tp_55⟩ ⟨gblind, va_recv hK hPc (ci := 3) (q0 := 0) rfl rfl, (gpreS hPc hK hDc hN).2⟩ rfl rfl hl.1 rfl (lv_room (Nat.le_of_ble_eq_true rfl)) dX3_mostOfAll_82 ⟨Nat.le_of_ble_eq_true rfl, Nat.le_of_ble_eq_true rfl⟩) (fun u_41 H locs hw_43 hP hD hS => ?_)
            replace hP : va_P D gcl (zS_89 cB cC cI cJ a0 a2 a3 a4 a5 a6 a7 (u_41.2.2.2.2 0) x0 y1 y2 a2 a8 a9 a10 a11 a12 a13 a14 (u_2.2.2.2.1 0) a1 a15 a16 a17 x2 x3 x4 x5 x6 x7 x8 a15 a18 a18 f0 a8 (u_2.2.2.1 0) a10 g_22 a9 g_23 a6 (u_36.2.1 0) a7 (u_41.2.2.1 0) a5 (u_41.2.1 0) a14 f_27 a11 f_29 a12 f_30 a13 f_31 a4 f_33) H := hP
            replace hD : va_D A (zS_89 cB cC cI cJ a0 a2 a3 a4 a5 a6 a7 (u_41.2.2.2.2 0) x0 y1 y2 a2 a8 a9 a10 a11 a12 a13 a14 (u_2.2.2.2.1 0) a1 a15 a16 a17 x2 x3 x4 x5 x6 x7 x8 a15 a18 a18 f0 a8 (u_2.2.2.1 0) a10 g_22 a9 g_23 a6 (u_36.2.1 0) a7 (u_41.2.2.1 0) a5 (u_41.2.1 0) a14 f_27 a11 f_29 a12 f_30 a13 f_31 a4 f_33) := hD
            have ru_41_0 := n_rngL (u_41.2.2.2.2 0)
            refine b_iinc (pc := 85) hx hb dX3_mostOfAll_85 hl (k := 0) rfl rfl tI_1 (by first | exact (om_2 hi_17.1) | ((first | omega | (unfold zBd at *; omega)))) (by first | exact (om_1087 c_35 rx_15.2) | ((first | omega | (unfold zBd at *; omega)))) (by decide) (fun x_44 ex_44 ls hl => ?_)
            replace hl : lv_has ls 6 [(5, .int x_44), (4, .int x_15), (2, .long y_18), (0, .ref a0), (1, .ref a1)] := hl
            refine lv_goto (pc := 88) (tgt := 44) hx hb dX3_mostOfAll_88 (by decide) ?_
            exact ih_lp_34 x_44 y_18 (u_41.2.2.2.2 0) (u_36.2.1 0) (u_41.2.1 0) f_27 f_29 f_30 f_31 f_33 g_22 g_23 (u_41.2.2.1 0) _ _ ls (by first | exact (om_1088 ex_44 hi_17.1 c_35 rx_15.2) | ((first | omega | (unfold zBd at *; omega)))) hi_28 hi_32 (by (first | omega | (unfold zBd at *; omega))) hP hD hS (lv_sub hl [0, 1, 2, 3, 4] rfl)
          ·
            refine lv_lload_n (pc := 60) hx hb dX3_mostOfAll_60 rfl (lv_at hl 2 rfl) ?_
            refine lv_aload_n (pc := 61) hx hb dX3_mostOfAll_61 rfl (lv_at hl 3 rfl) ?_
            refine lv_aload_n (pc := 62) hx hb dX3_mostOfAll_62 rfl (lv_at hl 4 rfl) ?_
            refine lv_aload_n (pc := 63) hx hb dX3_mostOfAll_63 rfl (lv_at hl 3 rfl) ?_
            refine va_get (pc := 64) (ci := 3) (v := .ref a5) (C := RX3) (T := TX3) (N := 10) hx hb hts iX3 hown hK hP 0 rfl rfl 3 (by decide) (hts _ tw_352) (fun _ h9 => h9) rfl dX3_mostOfAll_64 ?_
            refine lv_lload_n (pc := 67) hx hb dX3_mostOfAll_67 rfl (lv_at hl 2 rfl) ?_
            refine gc_l (pc := 68) (wc := (zS_62 cB cC cI cJ a0 a2 a3 a4 a5 a6 a7 (u_36.2.2.2.2 0) x0 y1 y2 a1 a15 a16 a17 x2 x3 x4 x5 x6 x7 x8 a2 a8 a9 a10 a11 a12 a13 a14 (u_2.2.2.2.1 0) a14 f_27 a11 f_29 a12 f_30 a9 g_23 a8 (u_2.2.2.1 0) a10 g_22 a13 f_31 a4 f_33 a5 f_26)) (wr := [(a15, .inr (8, [.ref a18])), (a18, .inl (cI, 30, .inl f0)), (a6, .inl (cI, 5, .inl (u_36.2.1 0))), (a7, .inl (cJ, 5, .inr (.inl (u_36.2.2.1 0))))]) hP hD hS hA [0, 2, 1, 11, 12, 13, 7, 5, 6, 14, 15, 10] [3, 4, 8, 9] rfl rfl (by decide +kernel) (by decide +kernel) (by decide +kernel) (fun hPc hDc => va_runV (As := [.ref a1, .ref a5, .long y_18]) (rest := [.long y_18]) ⟨hx, hb, hml, hown, hts⟩ (k_X3_leastFor_5 l D cB cC cI cJ _ a0 a1 a5 a2 a3 a4 a5 a6 a7 a15 a16 a17 a8 a9 a10 a11 a12 a13 a14 x0 x2 x3 x4 x5 x6 x7 x8 (u_2.2.2.2.1 0) y_18 (u_36.2.2.2.2 0) y1 y2 f_27 f_29 f_30 f_31 f_33 f_26 g_23 (u_2.2.2.1 0) g_22 h_x0 h_x2 hw_9 h_x4 h_x5 h_x6 hw_5 hi_28 hi_32) ⟨gcwB hts tw_1268 tw_12 tw_1265 hd_yX3_leastFor ⟨Nat.le_of_ble_eq_true rfl, Nat.le_of_ble_eq_true rfl⟩, hts _ tw_1267, hts _ tp_52⟩ ⟨gblind, va_recv hK hPc (ci := 3) (q0 := 0) rfl rfl, (gpreS hPc hK hDc hN).2⟩ rfl rfl hl.1 rfl (lv_room (Nat.le_of_ble_eq_true rfl)) dX3_mostOfAll_68 ⟨Nat.le_of_ble_eq_true rfl, Nat.le_of_ble_eq_true rfl⟩) (fun r_46 u_45 H locs hw_47 hP hD hS => ?_)
            replace hP : va_P D gcl (zS_191 cB cC cI cJ a15 a18 a18 f0 a6 (u_36.2.1 0) a7 (u_36.2.2.1 0) a0 a2 a3 a4 a5 a6 a7 (u_36.2.2.2.2 0) x0 y1 y2 a1 a15 a16 a17 x2 x3 x4 x5 x6 x7 x8 a2 a8 a9 a10 a11 a12 a13 a14 (u_2.2.2.2.1 0) a14 (u_45.2.1 0) a11 (u_45.2.1 1) a12 (u_45.2.1 2) a9 (u_45.2.2.1 0) a8 (u_2.2.2.1 0) a10 (u_45.2.2.1 1) a13 (u_45.2.1 3) a4 (u_45.2.1 4) a5 f_26) H := hP
            replace hD : va_D A (zS_191 cB cC cI cJ a15 a18 a18 f0 a6 (u_36.2.1 0) a7 (u_36.2.2.1 0) a0 a2 a3 a4 a5 a6 a7 (u_36.2.2.2.2 0) x0 y1 y2 a1 a15 a16 a17 x2 x3 x4 x5 x6 x7 x8 a2 a8 a9 a10 a11 a12 a13 a14 (u_2.2.2.2.1 0) a14 (u_45.2.1 0) a11 (u_45.2.1 1) a12 (u_45.2.1 2) a9 (u_45.2.2.1 0) a8 (u_2.2.2.1 0) a10 (u_45.2.2.1 1) a13 (u_45.2.1 3) a4 (u_45.2.1 4) a5 f_26) := hD
            obtain ⟨hw_48, hw_49, hw_50⟩ := hw_47
            replace hw_48 : ((((-9223372036854775808) ≤ r_46.toInt ∧ r_46.toInt ≤ 9223372036854775807) ∧ ((-1) ≤ x3.toInt ∧ x3.toInt ≤ 5)) ∨ (((-9223372036854775808) ≤ r_46.toInt ∧ r_46.toInt ≤ 9223372036854775807) ∧ ((-1) ≤ x3.toInt ∧ x3.toInt ≤ 5) ∧ ((-9223372036854775808) ≤ y_18.toInt ∧ y_18.toInt ≤ 9223372036854775807))) := hw_48
            replace hw_49 : (∀ j, 0 ≤ ((u_45.2.1 0) j).toInt ∧ ((u_45.2.1 0) j).toInt ≤ 23) := hw_49
            replace hw_50 : (∀ j, (-3) ≤ ((u_45.2.1 3) j).toInt ∧ ((u_45.2.1 3) j).toInt ≤ 24) := hw_50
            have rr_46 := n_rngL r_46
            refine va_mmax_long (pc := 71) hx hb (hml.trans hl.1.symm) hown (hts _ tw_1280) (hts _ tw_860) (hts _ tw_19) (hts _ tw_861) (Nat.le_of_ble_eq_true rfl) (Nat.le_of_ble_eq_true rfl) (Nat.le_of_ble_eq_true rfl) (Nat.le_of_ble_eq_true rfl) dX3_mostOfAll_71 ?_
            refine lv_topl (fun y_51 ey_51 => ?_)
            have ey_51 := n_maxL rfl rfl ey_51
            have ry_51 := n_rngL y_51
            refine lv_lstore_n (pc := 74) (lv' := [(2, .long y_51), (5, .int x_16), (4, .int x_15), (0, .ref a0), (1, .ref a1)]) hx hb dX3_mostOfAll_74 rfl hl (by decide) rfl (fun ls hl => ?_)
            refine lv_aload_n (pc := 75) hx hb dX3_mostOfAll_75 rfl (lv_at hl 3 rfl) ?_
            refine lv_aload_n (pc := 76) hx hb dX3_mostOfAll_76 rfl (lv_at hl 4 rfl) ?_
            refine gd_v (pc := 77) (wc := (zS_146 cB cC cI cJ a0 a2 a3 a4 a5 a6 a7 (u_36.2.2.2.2 0) x0 y1 y2 a1 a15 a16 a17 x2 x3 x4 x5 x6 x7 x8 a6 (u_36.2.1 0) a4 (u_45.2.1 4) a7 (u_36.2.2.1 0) a2 a8 a9 a10 a11 a12 a13 a14 (u_2.2.2.2.1 0) a8 (u_2.2.2.1 0))) hP hD hS hA [4, 5, 2, 14, 3, 6, 11] rfl (by decide +kernel) (fun _ => by rfl) (fun hPc hDc => va_runV (As := [.ref a1]) (rest := []) ⟨hx, hb, hml, hown, hts⟩ (k_X3_tryFound l D cB cC cI cJ _ a0 a1 a2 a3 a4 a5 a6 a7 a15 a16 a17 a8 a9 a10 a11 a12 a13 a14 x0 x2 x3 x4 x5 x6 x7 x8 (u_2.2.2.2.1 0) (u_36.2.2.2.2 0) y1 y2 (u_36.2.1 0) (u_45.2.1 4) (u_36.2.2.1 0) (u_2.2.2.1 0) h_x0 h_x2 hw_9 h_x4 h_x5 h_x6 hw_5) ⟨gcwB hts tw_1284 tw_12 tw_1281 hd_yX3_tryFound ⟨Nat.le_of_ble_eq_true rfl, Nat.le_of_ble_eq_true rfl⟩, hts _ tw_1283, hts _ tp_54⟩ ⟨gblind, va_recv hK hPc (ci := 3) (q0 := 0) rfl rfl, (gpreS hPc hK hDc hN).2⟩ rfl rfl hl.1 rfl (lv_room (Nat.le_of_ble_eq_true rfl)) dX3_mostOfAll_77 ⟨Nat.le_of_ble_eq_true rfl, Nat.le_of_ble_eq_true rfl⟩) (fun u_52 H locs hw_54 hP hD hS => ?_)
            replace hP : va_P D gcl (zS_191 cB cC cI cJ a15 a18 a18 f0 a6 (u_52.2.1 0) a7 (u_52.2.2.1 0) a0 a2 a3 a4 a5 a6 a7 (u_52.2.2.2.2 0) x0 y1 y2 a1 a15 a16 a17 x2 x3 x4 x5 x6 x7 x8 a2 a8 a9 a10 a11 a12 a13 a14 (u_2.2.2.2.1 0) a14 (u_45.2.1 0) a11 (u_45.2.1 1) a12 (u_45.2.1 2) a9 (u_45.2.2.1 0) a8 (u_2.2.2.1 0) a10 (u_45.2.2.1 1) a13 (u_45.2.1 3) a4 (u_45.2.1 4) a5 f_26) H := hP
            replace hD : va_D A (zS_191 cB cC cI cJ a15 a18 a18 f0 a6 (u_52.2.1 0) a7 (u_52.2.2.1 0) a0 a2 a3 a4 a5 a6 a7 (u_52.2.2.2.2 0) x0 y1 y2 a1 a15 a16 a17 x2 x3 x4 x5 x6 x7 x8 a2 a8 a9 a10 a11 a12 a13 a14 (u_2.2.2.2.1 0) a14 (u_45.2.1 0) a11 (u_45.2.1 1) a12 (u_45.2.1 2) a9 (u_45.2.2.1 0) a8 (u_2.2.2.1 0) a10 (u_45.2.2.1 1) a13 (u_45.2.1 3) a4 (u_45.2.1 4) a5 f_26) := hD
            have ru_52_0 := n_rngL (u_52.2.2.2.2 0)
            have hw_55 : ((((-1) ≤ x3.toInt ∧ x3.toInt ≤ 5))) := hw_54
            refine lv_aload_n (pc := 80) hx hb dX3_mostOfAll_80 rfl (lv_at hl 3 rfl) ?_
            refine lv_aload_n (pc := 81) hx hb dX3_mostOfAll_81 rfl (lv_at hl 4 rfl) ?_
            refine gd_v (pc := 82) (wc := (zS_84 cB cC cI cJ a0 a2 a3 a4 a5 a6 a7 (u_52.2.2.2.2 0) x0 y1 y2 a2 a8 a9 a10 a11 a12 a13 a14 (u_2.2.2.2.1 0) a5 f_26 a7 (u_52.2.2.1 0) a8 (u_2.2.2.1 0) a1 a15 a16 a17 x2 x3 x4 x5 x6 x7 x8)) hP hD hS hA [4, 6, 15, 3, 11, 5] rfl (by decide +kernel) (fun _ => by rfl) (fun hPc hDc => va_runV (As := [.ref a1]) (rest := []) ⟨hx, hb, hml, hown, hts⟩ (k_X3_nextLetters l D cB cC cI cJ _ a0 a1 a2 a3 a4 a5 a6 a7 a8 a9 a10 a11 a12 a13 a14 a15 a16 a17 x0 (u_2.2.2.2.1 0) x2 x3 x4 x5 x6 x7 x8 (u_52.2.2.2.2 0) y1 y2 f_26 (u_52.2.2.1 0) (u_2.2.2.1 0) h_x0 hw_5 h_x2 hw_55 h_x4 h_x5 h_x6) ⟨gcwB hts tw_1288 tw_12 tw_1285 hd_yX3_nextLetters ⟨Nat.le_of_ble_eq_true rfl, Nat.le_of_ble_eq_true rfl⟩, hts _ tw_1287, hts _ tp_55⟩ ⟨gblind, va_recv hK hPc (ci := 3) (q0 := 0) rfl rfl, (gpreS hPc hK hDc hN).2⟩ rfl rfl hl.1 rfl (lv_room (Nat.le_of_ble_eq_true rfl)) dX3_mostOfAll_82 ⟨Nat.le_of_ble_eq_true rfl, Nat.le_of_ble_eq_true rfl⟩) (fun u_56 H locs hw_58 hP hD hS => ?_)
            replace hP : va_P D gcl (zS_191 cB cC cI cJ a15 a18 a18 f0 a6 (u_52.2.1 0) a7 (u_56.2.2.1 0) a0 a2 a3 a4 a5 a6 a7 (u_56.2.2.2.2 0) x0 y1 y2 a1 a15 a16 a17 x2 x3 x4 x5 x6 x7 x8 a2 a8 a9 a10 a11 a12 a13 a14 (u_2.2.2.2.1 0) a14 (u_45.2.1 0) a11 (u_45.2.1 1) a12 (u_45.2.1 2) a9 (u_45.2.2.1 0) a8 (u_2.2.2.1 0) a10 (u_45.2.2.1 1) a13 (u_45.2.1 3) a4 (u_45.2.1 4) a5 (u_56.2.1 0)) H := hP
            replace hD : va_D A (zS_191 cB cC cI cJ a15 a18 a18 f0 a6 (u_52.2.1 0) a7 (u_56.2.2.1 0) a0 a2 a3 a4 a5 a6 a7 (u_56.2.2.2.2 0) x0 y1 y2 a1 a15 a16 a17 x2 x3 x4 x5 x6 x7 x8 a2 a8 a9 a10 a11 a12 a13 a14 (u_2.2.2.2.1 0) a14 (u_45.2.1 0) a11 (u_45.2.1 1) a12 (u_45.2.1 2) a9 (u_45.2.2.1 0) a8 (u_2.2.2.1 0) a10 (u_45.2.2.1 1) a13 (u_45.2.1 3) a4 (u_45.2.1 4) a5 (u_56.2.1 0)) := hD
            have ru_56_0 := n_rngL (u_56.2.2.2.2 0)
            refine b_iinc (pc := 85) hx hb dX3_mostOfAll_85 hl (k := 1) rfl rfl tI_1 (by first | exact (om_2 hi_17.1) | ((first | omega | (unfold zBd at *; omega)))) (by first | exact (om_1087 c_35 rx_15.2) | ((first | omega | (unfold zBd at *; omega)))) (by decide) (fun x_59 ex_59 ls hl => ?_)
            replace hl : lv_has ls 6 [(5, .int x_59), (2, .long y_51), (4, .int x_15), (0, .ref a0), (1, .ref a1)] := hl
            refine lv_goto (pc := 88) (tgt := 44) hx hb dX3_mostOfAll_88 (by decide) ?_
            exact ih_lp_34 x_59 y_51 (u_56.2.2.2.2 0) (u_52.2.1 0) (u_56.2.1 0) (u_45.2.1 0) (u_45.2.1 1) (u_45.2.1 2) (u_45.2.1 3) (u_45.2.1 4) (u_45.2.2.1 1) (u_45.2.2.1 0) (u_56.2.2.1 0) _ _ ls (by first | exact (om_1088 ex_59 hi_17.1 c_35 rx_15.2) | ((first | omega | (unfold zBd at *; omega)))) hw_49 hw_50 (by (first | omega | (unfold zBd at *; omega))) (g_psub hP [4, 6, 5, 0, 1, 11, 12, 10, 2, 3, 15, 7, 8, 9, 13, 14] rfl) (hD.sub [4, 6, 5, 0, 1, 11, 12, 10, 2, 3, 15, 7, 8, 9, 13, 14] (by decide) rfl) hS (lv_sub hl [0, 2, 1, 3, 4] rfl)
    exact lp_34 _ 0 (-1) (u_6.2.2.2.2 0) (u_6.2.1 0) (u_6.2.1 1) f3 f4 f5 f6 f7 (u_2.2.2.1 1) (u_2.2.2.1 2) (u_6.2.2.1 0) _ _ ls (n_c tI_0 (by decide)) hf_f3 hf_f6 (Nat.lt_succ_self _) hP hD hS (lv_sub hl [0, 1, 2, 3, 4] rfl)
  ·
    refine lv_aload_n (pc := 9) hx hb dX3_mostOfAll_9 rfl (lv_at hl 0 rfl) ?_
    refine va_get (pc := 10) (ci := 3) (v := .long y2) (C := RX3) (T := TX3) (N := 10) hx hb hts iX3 hown hK hP 0 rfl rfl 9 (by decide) (hts _ tw_359) (fun _ h9 => h9) rfl dX3_mostOfAll_10 ?_
    exact hret y2 ((fun _ => 0), (fun k => [f1, f2, f3, f4, f5, f6, f7].getD k (fun _ => 0)), (fun k => [g0, g1, g2, g3].getD k (fun _ => 0)), (fun k => [x1].getD k 0), (fun k => [y0, y2].getD k 0)) dX3_mostOfAll_13 ⟨(show ((((-9223372036854775808) ≤ y2.toInt ∧ y2.toInt ≤ 9223372036854775807) ∧ y2.toInt < 0) ∨ (y2.toInt = y2.toInt ∧ y2.toInt ≥ 0 ∧ (x1 : Int32).toInt = x1.toInt)) from (by first | exact (om_1291 c_1) | ((first | omega | (unfold zBd at *; omega))))), (show (0 ≤ (x1 : Int32).toInt ∧ (x1 : Int32).toInt ≤ 4) from h_x1), hf_f3, hf_f6⟩ (g_psub (wc := (zS_89 cB cC cI cJ a0 a2 a3 a4 a5 a6 a7 y0 x0 y1 y2 a2 a8 a9 a10 a11 a12 a13 a14 x1 a1 a15 a16 a17 x2 x3 x4 x5 x6 x7 x8 a15 a18 a18 f0 a8 g0 a10 g1 a9 g2 a6 f1 a7 g3 a5 f2 a14 f3 a11 f4 a12 f5 a13 f6 a4 f7)) hP [0, 1, 2, 3, 4, 5, 6, 7, 8, 9, 10, 11, 12, 13, 14, 15] rfl) (hD.sub (ws' := (zS_89 cB cC cI cJ a0 a2 a3 a4 a5 a6 a7 y0 x0 y1 y2 a2 a8 a9 a10 a11 a12 a13 a14 x1 a1 a15 a16 a17 x2 x3 x4 x5 x6 x7 x8 a15 a18 a18 f0 a8 g0 a10 g1 a9 g2 a6 f1 a7 g3 a5 f2 a14 f3 a11 f4 a12 f5 a13 f6 a4 f7)) [0, 1, 2, 3, 4, 5, 6, 7, 8, 9, 10, 11, 12, 13, 14, 15] (by decide) rfl) hS
theorem om_1292 {a b c : Int} (h0 : (a = c)) (h1 : ((-2147483648) ≤ c)) (h2 : (b ≤ 6)) (h3 : (c ≤ 2147483647)) (h4 : ((-1) ≤ b)) : (((((-2147483648) ≤ a ∧ a ≤ 2147483647) ∧ ((-1) ≤ b ∧ b ≤ 6)) ∨ (((-2147483648) ≤ a ∧ a ≤ 2147483647) ∧ (1 ≤ b ∧ b ≤ 6)))) := by omega
theorem om_1293 {a : Int} (h0 : (-2 < a)) (h1 : (a < 2)) : (((-1) ≤ a ∧ a ≤ 1)) := by omega
theorem om_1294 {a b c d : Int} (h0 : (a = c)) (h1 : ((-2147483648) ≤ c)) (h2 : (d < b)) (h3 : (0 ≤ d)) (h4 : (b ≤ 6)) (h5 : (c ≤ 2147483647)) (h6 : ((-1) ≤ b)) : (((((-2147483648) ≤ a ∧ a ≤ 2147483647) ∧ ((-1) ≤ b ∧ b ≤ 6)) ∨ (((-2147483648) ≤ a ∧ a ≤ 2147483647) ∧ (1 ≤ b ∧ b ≤ 6)))) := by omega
set_option maxHeartbeats 4000000 in
set_option maxRecDepth 100000 in
theorem k_X3_leastThinkable (l : Launch) (D : va_G) (cB cC cI cJ : ClassId) (sz : Nat) (a0 a1 a2 a3 a4 : Nat) (x0 x1 x2 x3 x4 x5 x6 : Int32) (f0 : Nat → Int32) (h_x0 : zBd x0.toInt (-1) 8) (h_x1 : zBd x1.toInt (-1) 5) (h_x2 : zBd x2.toInt (-1) 6) (h_x3 : zBd x3.toInt 0 6) (h_x4 : zBd x4.toInt 0 16) : Met l yX3_leastThinkable (.code yX3_leastThinkable cX3_leastThinkable 5 (some .long) :: lw_gd) ({ frames := 1, cells := 0, slots := 0, locals := 22 }) (gPre D [(cB, .byte), (cC, .char), (cI, .int), (cJ, .long)] [.ref a0] (zS_132 cB cC cI cJ a0 a1 a2 a3 x0 x1 x2 x3 x4 x5 x6 a1 a4 a4 f0) sz) (va_Ql (fun r u => ((((-2147483648) ≤ r.toInt ∧ r.toInt ≤ 2147483647) ∧ ((-1) ≤ x2.toInt ∧ x2.toInt ≤ 6)) ∨ (((-2147483648) ≤ r.toInt ∧ r.toInt ≤ 2147483647) ∧ (1 ≤ x2.toInt ∧ x2.toInt ≤ 6)))) (gB D (va_A (zS_132 cB cC cI cJ a0 a1 a2 a3 x0 x1 x2 x3 x4 x5 x6 a1 a4 a4 f0) sz) (fun u : gEx => (zS_132 cB cC cI cJ a0 a1 a2 a3 x0 x1 x2 x3 x4 x5 x6 a1 a4 a4 f0))) (va_A (zS_132 cB cC cI cJ a0 a1 a2 a3 x0 x1 x2 x3 x4 x5 x6 a1 a4 a4 f0) sz)) 0 0 (va_A (zS_132 cB cC cI cJ a0 a1 a2 a3 x0 x1 x2 x3 x4 x5 x6 a1 a4 a4 f0) sz) := by
  refine gOf_l (by decide +kernel) (Nat.le_of_ble_eq_true rfl) ?_
  intro p e s m args below meth c ls A Q hx hb hts hown hml hN hK hP hD hA hl hret
  replace hown : s.vm.findClass RX3 = some m.cls := hown
  have hS : va_S A s.heap s.heap [] := va_S.rf
  replace hP : va_P D gcl (zS_132 cB cC cI cJ a0 a1 a2 a3 x0 x1 x2 x3 x4 x5 x6 a1 a4 a4 f0) s.heap := hP
  replace hl : lv_has ls 5 [(0, .ref a0)] := hl
  have rx5 : zBd x5.toInt (-2147483648) 2147483647 := n_rng x5
  have rx6 : zBd x6.toInt (-2147483648) 2147483647 := n_rng x6
  refine lv_iconst (pc := 0) (v := 0) hx hb dX3_leastThinkable_0 (by decide) ?_
  refine lv_istore_n (pc := 1) (lv' := [(1, .int 0), (0, .ref a0)]) hx hb dX3_leastThinkable_1 rfl hl (by decide) rfl (fun ls hl => ?_)
  refine lv_iconst (pc := 2) (v := 0) hx hb dX3_leastThinkable_2 (by decide) ?_
  refine lv_istore_n (pc := 3) (lv' := [(2, .int 0), (1, .int 0), (0, .ref a0)]) hx hb dX3_leastThinkable_3 rfl hl (by decide) rfl (fun ls hl => ?_)
  have lp_5 : ∀ (n : Nat) (x_1 x_3 : Int32) (H : Heap) (locs : List Loc) (ls : Array Slot), (0 ≤ x_1.toInt ∧ x_1.toInt ≤ 2147483647) → (2147483647 - x_1.toInt).toNat < n → va_P D gcl (zS_132 cB cC cI cJ a0 a1 a2 a3 x0 x1 x2 x3 x4 x5 x6 a1 a4 a4 f0) H → va_D A (zS_132 cB cC cI cJ a0 a1 a2 a3 x0 x1 x2 x3 x4 x5 x6 a1 a4 a4 f0) → va_S A s.heap H locs → lv_has ls 5 [(2, .int x_1), (1, .int x_3), (0, .ref a0)] → W p l e ({ frames := 1, cells := 0, slots := 0, locals := 22 }) s m args below meth c H locs 0 0 Q (F0 m 4 ls []) := by
    intro n
    induction n with
    | zero => intro x_1 x_3 H locs ls hi_2 hmu; exact absurd hmu (Nat.not_lt_zero _)
    | succ n ih_lp_5 =>
      intro x_1 x_3 H locs ls hi_2 hmu_lp_5 hP hD hS hl
      have hi_4 := n_rng x_3
      refine lv_iload_n (pc := 4) hx hb dX3_leastThinkable_4 rfl (lv_at hl 0 rfl) ?_
      refine lv_aload_n (pc := 5) hx hb dX3_leastThinkable_5 rfl (lv_at hl 2 rfl) ?_
      refine va_getN (pc := 6) (ci := 1) (v := .int x2) (C := RX1) (T := TX1) (N := 10) hx hb hts iX1 hown hK hP 0 rfl rfl 5 (by decide) (va_Nw.use rfl (hN _ tn_129)) (fun _ h9 => h9) rfl dX3_leastThinkable_6 ?_
      refine b_icmp_ge (pc := 9) (tgt := 66) hx hb rfl rfl  dX3_leastThinkable_9 (by decide) (fun c_6 => ?_) (fun c_6 => ?_)
      ·
        refine lv_iload_n (pc := 66) hx hb dX3_leastThinkable_66 rfl (lv_at hl 1 rfl) ?_
        refine b_i2l (pc := 67) hx hb rfl dX3_leastThinkable_67 (fun y_7 ey_7 => ?_)
        have ry_7 : zBd x_3.toInt (-2147483648) 2147483647 := n_rng x_3
        exact hret y_7 ((fun _ => 0), (fun _ => (fun _ => 0)), (fun _ => (fun _ => 0)), (fun _ => 0), (fun _ => 0)) dX3_leastThinkable_68 (show ((((-2147483648) ≤ y_7.toInt ∧ y_7.toInt ≤ 2147483647) ∧ ((-1) ≤ x2.toInt ∧ x2.toInt ≤ 6)) ∨ (((-2147483648) ≤ y_7.toInt ∧ y_7.toInt ≤ 2147483647) ∧ (1 ≤ x2.toInt ∧ x2.toInt ≤ 6))) from (by first | exact (om_1292 ey_7 ry_7.1 h_x2.2 ry_7.2 h_x2.1) | ((first | omega | (unfold zBd at *; omega))))) (g_psub (wc := (zS_132 cB cC cI cJ a0 a1 a2 a3 x0 x1 x2 x3 x4 x5 x6 a1 a4 a4 f0)) hP [0, 1, 2] rfl) (hD.sub (ws' := (zS_132 cB cC cI cJ a0 a1 a2 a3 x0 x1 x2 x3 x4 x5 x6 a1 a4 a4 f0)) [0, 1, 2] (by decide) rfl) hS
      ·
        refine lv_aload_n (pc := 12) hx hb dX3_leastThinkable_12 rfl (lv_at hl 2 rfl) ?_
        refine va_getN (pc := 13) (ci := 1) (v := .int x0) (C := RX1) (T := TX1) (N := 10) hx hb hts iX1 hown hK hP 0 rfl rfl 3 (by decide) (va_Nw.use rfl (hN _ tn_113)) (fun _ h9 => h9) rfl dX3_leastThinkable_13 ?_
        refine lv_iconst (pc := 16) (v := 2) hx hb dX3_leastThinkable_16 (by decide) ?_
        refine b_irem (pc := 17) hx hb rfl tI_2 (by first | exact (om_930) | ((first | omega | (unfold zBd at *; omega)))) dX3_leastThinkable_17 (fun x_8 ex_8 => ?_)
        have rx_8 : ((-1) ≤ x_8.toInt ∧ x_8.toInt ≤ 1) := (by first | exact (om_1293 ex_8.1 ex_8.2.1) | ((first | omega | (unfold zBd at *; omega))))
        refine b_if_ne (pc := 18) (tgt := 66) hx hb rfl  dX3_leastThinkable_18 (by decide) (fun c_9 => ?_) (fun c_9 => ?_)
        ·
          refine lv_iload_n (pc := 66) hx hb dX3_leastThinkable_66 rfl (lv_at hl 1 rfl) ?_
          refine b_i2l (pc := 67) hx hb rfl dX3_leastThinkable_67 (fun y_10 ey_10 => ?_)
          have ry_10 : zBd x_3.toInt (-2147483648) 2147483647 := n_rng x_3
          exact hret y_10 ((fun _ => 0), (fun _ => (fun _ => 0)), (fun _ => (fun _ => 0)), (fun _ => 0), (fun _ => 0)) dX3_leastThinkable_68 (show ((((-2147483648) ≤ y_10.toInt ∧ y_10.toInt ≤ 2147483647) ∧ ((-1) ≤ x2.toInt ∧ x2.toInt ≤ 6)) ∨ (((-2147483648) ≤ y_10.toInt ∧ y_10.toInt ≤ 2147483647) ∧ (1 ≤ x2.toInt ∧ x2.toInt ≤ 6))) from (by first | exact (om_1294 ey_10 ry_10.1 c_6 hi_2.1 h_x2.2 ry_10.2 h_x2.1) | ((first | omega | (unfold zBd at *; omega))))) (g_psub (wc := (zS_132 cB cC cI cJ a0 a1 a2 a3 x0 x1 x2 x3 x4 x5 x6 a1 a4 a4 f0)) hP [0, 1, 2] rfl) (hD.sub (ws' := (zS_132 cB cC cI cJ a0 a1 a2 a3 x0 x1 x2 x3 x4 x5 x6 a1 a4 a4 f0)) [0, 1, 2] (by decide) rfl) hS
        ·
          refine lv_iconst (pc := 21) (v := 0) hx hb dX3_leastThinkable_21 (by decide) ?_
          refine lv_istore_n (pc := 22) (lv' := [(3, .int 0), (2, .int x_1), (1, .int x_3), (0, .ref a0)]) hx hb dX3_leastThinkable_22 rfl hl (by decide) rfl (fun ls hl => ?_)
          refine lv_iconst (pc := 23) (v := 0) hx hb dX3_leastThinkable_23 (by decide) ?_
          refine lv_istore (pc := 24) (lv' := [(4, .int 0), (3, .int 0), (2, .int x_1), (1, .int x_3), (0, .ref a0)]) hx hb dX3_leastThinkable_24 hl (by decide) rfl (fun ls hl => ?_)
          have lp_15 : ∀ (n : Nat) (x_11 x_13 : Int32) (H : Heap) (locs : List Loc) (ls : Array Slot), (0 ≤ x_11.toInt ∧ x_11.toInt ≤ 2147483647) → (2147483647 - x_11.toInt).toNat < n → va_P D gcl (zS_132 cB cC cI cJ a0 a1 a2 a3 x0 x1 x2 x3 x4 x5 x6 a1 a4 a4 f0) H → va_D A (zS_132 cB cC cI cJ a0 a1 a2 a3 x0 x1 x2 x3 x4 x5 x6 a1 a4 a4 f0) → va_S A s.heap H locs → lv_has ls 5 [(4, .int x_11), (3, .int x_13), (2, .int x_1), (1, .int x_3), (0, .ref a0)] → W p l e ({ frames := 1, cells := 0, slots := 0, locals := 22 }) s m args below meth c H locs 0 0 Q (F0 m 26 ls []) := by
            intro n
            induction n with
            | zero => intro x_11 x_13 H locs ls hi_12 hmu; exact absurd hmu (Nat.not_lt_zero _)
            | succ n ih_lp_15 =>
              intro x_11 x_13 H locs ls hi_12 hmu_lp_15 hP hD hS hl
              have hi_14 := n_rng x_13
              refine lv_iload (pc := 26) hx hb dX3_leastThinkable_26 (lv_at hl 0 rfl) ?_
              refine lv_aload_n (pc := 28) hx hb dX3_leastThinkable_28 rfl (lv_at hl 4 rfl) ?_
              refine va_getN (pc := 29) (ci := 1) (v := .int x1) (C := RX1) (T := TX1) (N := 10) hx hb hts iX1 hown hK hP 0 rfl rfl 4 (by decide) (va_Nw.use rfl (hN _ tn_122)) (fun _ h9 => h9) rfl dX3_leastThinkable_29 ?_
              refine b_icmp_ge (pc := 32) (tgt := 54) hx hb rfl rfl  dX3_leastThinkable_32 (by decide) (fun c_16 => ?_) (fun c_16 => ?_)
              ·
                refine lv_iload_n (pc := 54) hx hb dX3_leastThinkable_54 rfl (lv_at hl 3 rfl) ?_
                refine lv_iload_n (pc := 55) hx hb dX3_leastThinkable_55 rfl (lv_at hl 1 rfl) ?_
                refine lv_iconst (pc := 56) (v := 1) hx hb dX3_leastThinkable_56 (by decide) ?_
                refine b_iand (pc := 57) (M := 1) hx hb 1 (by decide +kernel) (by decide) (by decide) dX3_leastThinkable_57 (fun x_17 ex_17 => ?_)
                have rx_17 : (0 ≤ x_17.toInt ∧ x_17.toInt ≤ 1) := ex_17
                refine lv_iadd (pc := 58) hx hb dX3_leastThinkable_58 ?_
                refine lv_topi (fun x_18 _ => ?_)
                have rx_18 : zBd x_18.toInt (-2147483648) 2147483647 := n_rng x_18
                refine lv_istore_n (pc := 59) (lv' := [(1, .int x_18), (4, .int x_11), (3, .int x_13), (2, .int x_1), (0, .ref a0)]) hx hb dX3_leastThinkable_59 rfl hl (by decide) rfl (fun ls hl => ?_)
                refine b_iinc (pc := 60) hx hb dX3_leastThinkable_60 hl (k := 3) rfl rfl tI_1 (by first | exact (om_2 hi_2.1) | ((first | omega | (unfold zBd at *; omega)))) (by first | exact (om_1084 c_6 h_x2.2) | ((first | omega | (unfold zBd at *; omega)))) (by decide) (fun x_19 ex_19 ls hl => ?_)
                replace hl : lv_has ls 5 [(2, .int x_19), (1, .int x_18), (4, .int x_11), (3, .int x_13), (0, .ref a0)] := hl
                refine lv_goto (pc := 63) (tgt := 4) hx hb dX3_leastThinkable_63 (by decide) ?_
                exact ih_lp_5 x_19 x_18 _ _ ls (by first | exact (om_1085 ex_19 hi_2.1 c_6 h_x2.2) | ((first | omega | (unfold zBd at *; omega)))) (by (first | omega | (unfold zBd at *; omega))) hP hD hS (lv_sub hl [0, 1, 4] rfl)
              ·
                refine lv_iload_n (pc := 35) hx hb dX3_leastThinkable_35 rfl (lv_at hl 1 rfl) ?_
                refine lv_aload_n (pc := 36) hx hb dX3_leastThinkable_36 rfl (lv_at hl 4 rfl) ?_
                refine va_getN (pc := 37) (ci := 1) (v := .ref a1) (C := RX1) (T := TX1) (N := 10) hx hb hts iX1 hown hK hP 0 rfl rfl 0 (by decide) (va_Nw.use rfl (hN _ tn_101)) (fun _ h9 => h9) rfl dX3_leastThinkable_37 ?_
                refine lv_iload_n (pc := 40) hx hb dX3_leastThinkable_40 rfl (lv_at hl 2 rfl) ?_
                refine lv_iload (pc := 41) hx hb dX3_leastThinkable_41 (lv_at hl 0 rfl) ?_
                refine gd_i (pc := 43) (wc := [(a1, .inr (8, [.ref a4])), (a4, .inl (cI, 30, .inl f0))]) hP hD hS hA [1, 2] rfl (by decide +kernel) (fun _ => by rfl) (fun hPc hDc => va_runV (As := [.int x_1, .int x_11]) (rest := [.int x_13]) ⟨hx, hb, hml, hown, hts⟩ (k_X8_at l D cB cC cI cJ _ a1 a4 x_1 x_11 f0 (by first | exact (om_1083 hi_2.1 c_6 h_x2.2) | ((first | omega | (unfold zBd at *; omega)))) (by first | exact (om_360 hi_12.1 c_16 h_x1.2) | ((first | omega | (unfold zBd at *; omega))))) ⟨gcwB hts tw_791 tw_5 tw_1297 hd_yX8_at ⟨Nat.le_of_ble_eq_true rfl, Nat.le_of_ble_eq_true rfl⟩, hts _ tw_789, hts _ tw_790⟩ ⟨gblind, va_recv hK hPc (ci := 8) (q0 := 0) rfl rfl, (gpreS hPc hK hDc hN).2⟩ rfl rfl hl.1 rfl (lv_room (Nat.le_of_ble_eq_true rfl)) dX3_leastThinkable_43 ⟨Nat.le_of_ble_eq_true rfl, Nat.le_of_ble_eq_true rfl⟩) (fun r_21 u_20 H locs hw_22 hP hD hS => ?_)
                replace hP : va_P D gcl (zS_132 cB cC cI cJ a0 a1 a2 a3 x0 x1 x2 x3 x4 x5 x6 a1 a4 a4 f0) H := hP
                replace hD : va_D A (zS_132 cB cC cI cJ a0 a1 a2 a3 x0 x1 x2 x3 x4 x5 x6 a1 a4 a4 f0) := hD
                have hw_23 : ((((-2147483648) ≤ r_21.toInt ∧ r_21.toInt ≤ 2147483647))) := hw_22
                have rr_21 : zBd r_21.toInt (-2147483648) 2147483647 := n_rng r_21
                refine lv_iadd (pc := 46) hx hb dX3_leastThinkable_46 ?_
                refine lv_topi (fun x_24 _ => ?_)
                have rx_24 : zBd x_24.toInt (-2147483648) 2147483647 := n_rng x_24
                refine lv_istore_n (pc := 47) (lv' := [(3, .int x_24), (4, .int x_11), (2, .int x_1), (1, .int x_3), (0, .ref a0)]) hx hb dX3_leastThinkable_47 rfl hl (by decide) rfl (fun ls hl => ?_)
                refine b_iinc (pc := 48) hx hb dX3_leastThinkable_48 hl (k := 1) rfl rfl tI_1 (by first | exact (om_2 hi_12.1) | ((first | omega | (unfold zBd at *; omega)))) (by first | exact (om_338 c_16 h_x1.2) | ((first | omega | (unfold zBd at *; omega)))) (by decide) (fun x_25 ex_25 ls hl => ?_)
                replace hl : lv_has ls 5 [(4, .int x_25), (3, .int x_24), (2, .int x_1), (1, .int x_3), (0, .ref a0)] := hl
                refine lv_goto (pc := 51) (tgt := 26) hx hb dX3_leastThinkable_51 (by decide) ?_
                exact ih_lp_15 x_25 x_24 _ _ ls (by first | exact (om_339 ex_25 hi_12.1 c_16 h_x1.2) | ((first | omega | (unfold zBd at *; omega)))) (by (first | omega | (unfold zBd at *; omega))) hP hD hS (lv_sub hl [0, 1, 2, 3, 4] rfl)
          exact lp_15 _ 0 0 _ _ ls (n_c tI_0 (by decide)) (Nat.lt_succ_self _) hP hD hS (lv_sub hl [0, 1, 2, 3, 4] rfl)
  exact lp_5 _ 0 0 _ _ ls (n_c tI_0 (by decide)) (Nat.lt_succ_self _) hP hD hS (lv_sub hl [0, 1, 2] rfl)
theorem om_1295 {a : Int} (h0 : ((-1) ≤ a)) : (-2147483648 ≤ 3 * a) := by omega
theorem om_1296 {a : Int} (h0 : (a ≤ 8)) : (3 * a ≤ 2147483647) := by omega
theorem om_1297 {a b : Int} (h0 : (a = 3 * b)) (h1 : (b ≤ 8)) : (-2147483648 ≤ 1 - a) := by omega
theorem om_1298 {a b : Int} (h0 : (a = 3 * b)) (h1 : ((-1) ≤ b)) : (1 - a ≤ 2147483647) := by omega
theorem om_1299 {a b : Int} (h0 : (a = 3 * b)) (h1 : ((-1) ≤ b)) (h2 : (b ≤ 8)) : (((-3) ≤ a ∧ a ≤ 24)) := by omega
theorem om_1300 {a b : Int} (h0 : ((-9223372036854775808) ≤ a)) (h1 : (a ≤ 9223372036854775807)) (h2 : (b < 0)) : (((((-9223372036854775808) ≤ a ∧ a ≤ 9223372036854775807) ∧ b < 0) ∨ (((-9223372036854775808) ≤ a ∧ a ≤ 2147483647) ∧ b < 0) ∨ (a = b ∧ b ≥ 0))) := by omega
theorem om_1301 {a : Int} (h0 : (a ≥ 0)) : (((((-9223372036854775808) ≤ a ∧ a ≤ 9223372036854775807) ∧ a < 0) ∨ (((-9223372036854775808) ≤ a ∧ a ≤ 2147483647) ∧ a < 0) ∨ (a = a ∧ a ≥ 0))) := by omega
set_option maxHeartbeats 4000000 in
set_option maxRecDepth 100000 in
theorem k_X3_leastOfAll (l : Launch) (D : va_G) (cB cC cI cJ : ClassId) (sz : Nat) (a0 a1 a2 a3 a4 a5 a6 a7 a8 a9 a10 a11 a12 a13 a14 a15 a16 a17 a18 : Nat) (x0 x1 x2 x3 x4 x5 x6 x7 x8 : Int32) (y0 y1 y2 : Int64) (f0 f1 f2 f3 f4 : Nat → Int32) (g0 g1 g2 : Nat → Int64) (h_x0 : zBd x0.toInt 0 1) (h_x1 : zBd x1.toInt (-1) 8) (h_x2 : zBd x2.toInt (-1) 5) (h_x3 : zBd x3.toInt (-1) 6) (h_x4 : zBd x4.toInt 0 6) (h_x5 : zBd x5.toInt 0 16) (h_x8 : zBd x8.toInt 0 4) (hf_f3 : (∀ j, (-3) ≤ (f3 j).toInt ∧ (f3 j).toInt ≤ 24)) (hf_f4 : (∀ j, 0 ≤ (f4 j).toInt ∧ (f4 j).toInt ≤ 23)) : Met l yX3_leastOfAll (.code yX3_leastOfAll cX3_leastOfAll 9 (some .long) :: lw_gd) ({ frames := 3, cells := 0, slots := 0, locals := 69 }) (gPre D [(cB, .byte), (cC, .char), (cI, .int), (cJ, .long)] [.ref a0, .ref a1] (zS_38 cB cC cI cJ a0 a2 a3 a4 a5 a6 a7 y0 x0 y1 y2 a1 a8 a9 a10 x1 x2 x3 x4 x5 x6 x7 a2 a11 a12 a13 a14 a15 a16 a17 x8 a8 a18 a18 f0 a11 g0 a13 g1 a12 g2 a14 f1 a15 f2 a16 f3 a17 f4) sz) (va_Ql (fun r u => ((((-9223372036854775808) ≤ r.toInt ∧ r.toInt ≤ 9223372036854775807) ∧ y1.toInt < 0) ∨ (((-9223372036854775808) ≤ r.toInt ∧ r.toInt ≤ 2147483647) ∧ y1.toInt < 0) ∨ (r.toInt = y1.toInt ∧ y1.toInt ≥ 0)) ∧ (0 ≤ (u.2.2.2.1 0).toInt ∧ (u.2.2.2.1 0).toInt ≤ 4) ∧ (∀ j, (-3) ≤ ((u.2.1 2) j).toInt ∧ ((u.2.1 2) j).toInt ≤ 24) ∧ (∀ j, 0 ≤ ((u.2.1 3) j).toInt ∧ ((u.2.1 3) j).toInt ≤ 23)) (gB D (va_A (zS_38 cB cC cI cJ a0 a2 a3 a4 a5 a6 a7 y0 x0 y1 y2 a1 a8 a9 a10 x1 x2 x3 x4 x5 x6 x7 a2 a11 a12 a13 a14 a15 a16 a17 x8 a8 a18 a18 f0 a11 g0 a13 g1 a12 g2 a14 f1 a15 f2 a16 f3 a17 f4) sz) (fun u : gEx => (zS_38 cB cC cI cJ a0 a2 a3 a4 a5 a6 a7 y0 x0 (u.2.2.2.2 0) y2 a1 a8 a9 a10 x1 x2 x3 x4 x5 x6 x7 a2 a11 a12 a13 a14 a15 a16 a17 (u.2.2.2.1 0) a8 a18 a18 f0 a11 (u.2.2.1 0) a13 (u.2.2.1 1) a12 (u.2.2.1 2) a14 (u.2.1 0) a15 (u.2.1 1) a16 (u.2.1 2) a17 (u.2.1 3)))) (va_A (zS_38 cB cC cI cJ a0 a2 a3 a4 a5 a6 a7 y0 x0 y1 y2 a1 a8 a9 a10 x1 x2 x3 x4 x5 x6 x7 a2 a11 a12 a13 a14 a15 a16 a17 x8 a8 a18 a18 f0 a11 g0 a13 g1 a12 g2 a14 f1 a15 f2 a16 f3 a17 f4) sz)) 0 0 (va_A (zS_38 cB cC cI cJ a0 a2 a3 a4 a5 a6 a7 y0 x0 y1 y2 a1 a8 a9 a10 x1 x2 x3 x4 x5 x6 x7 a2 a11 a12 a13 a14 a15 a16 a17 x8 a8 a18 a18 f0 a11 g0 a13 g1 a12 g2 a14 f1 a15 f2 a16 f3 a17 f4) sz) := by
  refine gOf_l (by decide +kernel) (Nat.le_of_ble_eq_true rfl) ?_
  intro p e s m args below meth c ls A Q hx hb hts hown hml hN hK hP hD hA hl hret
  replace hown : s.vm.findClass RX3 = some m.cls := hown
  have hS : va_S A s.heap s.heap [] := va_S.rf
  replace hP : va_P D gcl (zS_38 cB cC cI cJ a0 a2 a3 a4 a5 a6 a7 y0 x0 y1 y2 a1 a8 a9 a10 x1 x2 x3 x4 x5 x6 x7 a2 a11 a12 a13 a14 a15 a16 a17 x8 a8 a18 a18 f0 a11 g0 a13 g1 a12 g2 a14 f1 a15 f2 a16 f3 a17 f4) s.heap := hP
  replace hl : lv_has ls 9 [(0, .ref a0), (1, .ref a1)] := hl
  have ry0 := n_rngL y0
  have ry1 := n_rngL y1
  have ry2 := n_rngL y2
  have rx6 : zBd x6.toInt (-2147483648) 2147483647 := n_rng x6
  have rx7 : zBd x7.toInt (-2147483648) 2147483647 := n_rng x7
  refine lv_aload_n (pc := 0) hx hb dX3_leastOfAll_0 rfl (lv_at hl 0 rfl) ?_
  refine va_get (pc := 1) (ci := 3) (v := .long y1) (C := RX3) (T := TX3) (N := 10) hx hb hts iX3 hown hK hP 0 rfl rfl 8 (by decide) (hts _ tw_358) (fun _ h9 => h9) rfl dX3_leastOfAll_1 ?_
  refine lv_lconst (pc := 4) (v := 0) hx hb dX3_leastOfAll_4 (by decide) ?_
  refine b_lcmp_lt (pc := 5) (tgt := 14) hx hb rfl tL_0 dX3_leastOfAll_5 dX3_leastOfAll_6 (by decide) (fun c_1 => ?_) (fun c_1 => ?_)
  ·
    refine lv_iconst (pc := 14) (v := 3) hx hb dX3_leastOfAll_14 (by decide) ?_
    refine lv_aload_n (pc := 15) hx hb dX3_leastOfAll_15 rfl (lv_at hl 1 rfl) ?_
    refine va_getN (pc := 16) (ci := 1) (v := .int x1) (C := RX1) (T := TX1) (N := 10) hx hb hts iX1 hown hK hP 1 rfl rfl 3 (by decide) (va_Nw.use rfl (hN _ tn_113)) (fun _ h9 => h9) rfl dX3_leastOfAll_16 ?_
    refine b_imul (pc := 19) hx hb tI_3 rfl (by first | exact (om_1295 h_x1.1) | ((first | omega | (unfold zBd at *; omega)))) (by first | exact (om_1296 h_x1.2) | ((first | omega | (unfold zBd at *; omega)))) dX3_leastOfAll_19 (fun x_2 ex_2 => ?_)
    refine lv_istore_n (pc := 20) (lv' := [(2, .int x_2), (0, .ref a0), (1, .ref a1)]) hx hb dX3_leastOfAll_20 rfl hl (by decide) rfl (fun ls hl => ?_)
    refine lv_aload_n (pc := 21) hx hb dX3_leastOfAll_21 rfl (lv_at hl 1 rfl) ?_
    refine va_get (pc := 22) (ci := 3) (v := .ref a2) (C := RX3) (T := TX3) (N := 10) hx hb hts iX3 hown hK hP 0 rfl rfl 0 (by decide) (hts _ tw_348) (fun _ h9 => h9) rfl dX3_leastOfAll_22 ?_
    refine lv_aload_n (pc := 25) hx hb dX3_leastOfAll_25 rfl (lv_at hl 2 rfl) ?_
    refine gd_v (pc := 26) (wc := (zS_42 cB cC cI cJ a2 a11 a12 a13 a14 a15 a16 a17 x8 a1 a8 a9 a10 x1 x2 x3 x4 x5 x6 x7 a8 a18 a18 f0 a11 g0 a13 g1 a12 g2)) hP hD hS hA [2, 1, 3, 4, 5, 6, 7] rfl (by decide +kernel) (fun _ => by rfl) (fun hPc hDc => va_runV (As := [.ref a1]) (rest := []) ⟨hx, hb, hml, hown, hts⟩ (k_X10_start l D cB cC cI cJ _ a2 a1 a11 a12 a13 a14 a15 a16 a17 a8 a9 a10 a18 x8 x1 x2 x3 x4 x5 x6 x7 f0 g0 g1 g2 h_x8 h_x1 h_x2 h_x3 h_x4 h_x5) ⟨gcwB hts tw_883 tw_8 tw_1244 hd_yX10_start ⟨Nat.le_of_ble_eq_true rfl, Nat.le_of_ble_eq_true rfl⟩, hts _ tw_881, hts _ tw_882⟩ ⟨gblind, va_recv hK hPc (ci := 10) (q0 := 0) rfl rfl, (gpreS hPc hK hDc hN).2⟩ rfl rfl hl.1 rfl (lv_room (Nat.le_of_ble_eq_true rfl)) dX3_leastOfAll_26 ⟨Nat.le_of_ble_eq_true rfl, Nat.le_of_ble_eq_true rfl⟩) (fun u_3 H locs hw_5 hP hD hS => ?_)
    replace hP : va_P D gcl (zS_38 cB cC cI cJ a0 a2 a3 a4 a5 a6 a7 y0 x0 y1 y2 a1 a8 a9 a10 x1 x2 x3 x4 x5 x6 x7 a2 a11 a12 a13 a14 a15 a16 a17 (u_3.2.2.2.1 0) a8 a18 a18 f0 a11 (u_3.2.2.1 0) a13 (u_3.2.2.1 1) a12 (u_3.2.2.1 2) a14 f1 a15 f2 a16 f3 a17 f4) H := hP
    replace hD : va_D A (zS_38 cB cC cI cJ a0 a2 a3 a4 a5 a6 a7 y0 x0 y1 y2 a1 a8 a9 a10 x1 x2 x3 x4 x5 x6 x7 a2 a11 a12 a13 a14 a15 a16 a17 (u_3.2.2.2.1 0) a8 a18 a18 f0 a11 (u_3.2.2.1 0) a13 (u_3.2.2.1 1) a12 (u_3.2.2.1 2) a14 f1 a15 f2 a16 f3 a17 f4) := hD
    have hw_6 : (0 ≤ (u_3.2.2.2.1 0).toInt ∧ (u_3.2.2.2.1 0).toInt ≤ 4) := hw_5
    refine lv_aload_n (pc := 29) hx hb dX3_leastOfAll_29 rfl (lv_at hl 1 rfl) ?_
    refine va_get (pc := 30) (ci := 3) (v := .ref a2) (C := RX3) (T := TX3) (N := 10) hx hb hts iX3 hown hK hP 0 rfl rfl 0 (by decide) (hts _ tw_348) (fun _ h9 => h9) rfl dX3_leastOfAll_30 ?_
    refine lv_iconst (pc := 33) (v := 1) hx hb dX3_leastOfAll_33 (by decide) ?_
    refine lv_iload_n (pc := 34) hx hb dX3_leastOfAll_34 rfl (lv_at hl 0 rfl) ?_
    refine b_isub (pc := 35) hx hb tI_1 rfl (by first | exact (om_1297 ex_2 h_x1.2) | ((first | omega | (unfold zBd at *; omega)))) (by first | exact (om_1298 ex_2 h_x1.1) | ((first | omega | (unfold zBd at *; omega)))) dX3_leastOfAll_35 (fun x_7 ex_7 => ?_)
    refine lv_iconst (pc := 36) (v := 2) hx hb dX3_leastOfAll_36 (by decide) ?_
    refine lv_iload_n (pc := 37) hx hb dX3_leastOfAll_37 rfl (lv_at hl 0 rfl) ?_
    refine gd_v (pc := 38) (wc := (zS_29 cB cC cI cJ a2 a11 a12 a13 a14 a15 a16 a17 (u_3.2.2.2.1 0) a14 f1 a15 f2 a16 f3)) hP hD hS hA [2, 8, 9, 10] rfl (by decide +kernel) (fun _ => by rfl) (fun hPc hDc => va_runV (As := [.int x_7, .int 2, .int x_2]) (rest := []) ⟨hx, hb, hml, hown, hts⟩ (k_X10_setAllNumbers l D cB cC cI cJ _ a2 a11 a12 a13 a14 a15 a16 a17 x_7 2 x_2 (u_3.2.2.2.1 0) f1 f2 f3 (by first | exact (om_1299 ex_2 h_x1.1 h_x1.2) | (have k0 := tI_2; (first | omega | (unfold zBd at *; omega)))) hw_6 hf_f3) ⟨gcwB hts tw_896 tw_8 tw_1293 hd_yX10_setAllNumbers ⟨Nat.le_of_ble_eq_true rfl, Nat.le_of_ble_eq_true rfl⟩, hts _ tw_894, hts _ tw_895⟩ ⟨gblind, va_recv hK hPc (ci := 10) (q0 := 0) rfl rfl, (gpreS hPc hK hDc hN).2⟩ rfl rfl hl.1 rfl (lv_room (Nat.le_of_ble_eq_true rfl)) dX3_leastOfAll_38 ⟨Nat.le_of_ble_eq_true rfl, Nat.le_of_ble_eq_true rfl⟩) (fun u_8 H locs hw_10 hP hD hS => ?_)
    replace hP : va_P D gcl (zS_38 cB cC cI cJ a0 a2 a3 a4 a5 a6 a7 y0 x0 y1 y2 a1 a8 a9 a10 x1 x2 x3 x4 x5 x6 x7 a2 a11 a12 a13 a14 a15 a16 a17 (u_3.2.2.2.1 0) a8 a18 a18 f0 a11 (u_3.2.2.1 0) a13 (u_3.2.2.1 1) a12 (u_3.2.2.1 2) a14 (u_8.2.1 0) a15 (u_8.2.1 1) a16 (u_8.2.1 2) a17 f4) H := hP
    replace hD : va_D A (zS_38 cB cC cI cJ a0 a2 a3 a4 a5 a6 a7 y0 x0 y1 y2 a1 a8 a9 a10 x1 x2 x3 x4 x5 x6 x7 a2 a11 a12 a13 a14 a15 a16 a17 (u_3.2.2.2.1 0) a8 a18 a18 f0 a11 (u_3.2.2.1 0) a13 (u_3.2.2.1 1) a12 (u_3.2.2.1 2) a14 (u_8.2.1 0) a15 (u_8.2.1 1) a16 (u_8.2.1 2) a17 f4) := hD
    obtain ⟨hw_11, hw_12⟩ := hw_10
    replace hw_11 : (((0 ≤ (u_3.2.2.2.1 0).toInt ∧ (u_3.2.2.2.1 0).toInt ≤ 4))) := hw_11
    replace hw_12 : (∀ j, (-3) ≤ ((u_8.2.1 2) j).toInt ∧ ((u_8.2.1 2) j).toInt ≤ 24) := hw_12
    have kk0_r_9 := tI_2
    refine lv_aload_n (pc := 41) hx hb dX3_leastOfAll_41 rfl (lv_at hl 1 rfl) ?_
    refine va_get (pc := 42) (ci := 3) (v := .ref a2) (C := RX3) (T := TX3) (N := 10) hx hb hts iX3 hown hK hP 0 rfl rfl 0 (by decide) (hts _ tw_348) (fun _ h9 => h9) rfl dX3_leastOfAll_42 ?_
    refine gd_v (pc := 45) (wc := (zS_25 cB cC cI cJ a2 a11 a12 a13 a14 a15 a16 a17 (u_3.2.2.2.1 0) a17 f4 a14 (u_8.2.1 0) a15 (u_8.2.1 1) a12 (u_3.2.2.1 2) a11 (u_3.2.2.1 0) a13 (u_3.2.2.1 1))) hP hD hS hA [2, 11, 8, 9, 7, 5, 6] rfl (by decide +kernel) (fun _ => by rfl) (fun hPc hDc => va_runV (As := []) (rest := []) ⟨hx, hb, hml, hown, hts⟩ (k_X10_firstLine l D cB cC cI cJ _ a2 a11 a12 a13 a14 a15 a16 a17 (u_3.2.2.2.1 0) f4 (u_8.2.1 0) (u_8.2.1 1) (u_3.2.2.1 2) (u_3.2.2.1 0) (u_3.2.2.1 1) hw_11 hf_f4) ⟨gcwB hts tw_904 tw_8 tw_1270 hd_yX10_firstLine ⟨Nat.le_of_ble_eq_true rfl, Nat.le_of_ble_eq_true rfl⟩, hts _ tw_902, hts _ tw_903⟩ ⟨gblind, va_recv hK hPc (ci := 10) (q0 := 0) rfl rfl, (gpreS hPc hK hDc hN).2⟩ rfl rfl hl.1 rfl (lv_room (Nat.le_of_ble_eq_true rfl)) dX3_leastOfAll_45 ⟨Nat.le_of_ble_eq_true rfl, Nat.le_of_ble_eq_true rfl⟩) (fun u_13 H locs hw_15 hP hD hS => ?_)
    replace hP : va_P D gcl (zS_38 cB cC cI cJ a0 a2 a3 a4 a5 a6 a7 y0 x0 y1 y2 a1 a8 a9 a10 x1 x2 x3 x4 x5 x6 x7 a2 a11 a12 a13 a14 a15 a16 a17 (u_3.2.2.2.1 0) a8 a18 a18 f0 a11 (u_3.2.2.1 0) a13 (u_13.2.2.1 1) a12 (u_13.2.2.1 0) a14 (u_8.2.1 0) a15 (u_8.2.1 1) a16 (u_8.2.1 2) a17 (u_13.2.1 0)) H := hP
    replace hD : va_D A (zS_38 cB cC cI cJ a0 a2 a3 a4 a5 a6 a7 y0 x0 y1 y2 a1 a8 a9 a10 x1 x2 x3 x4 x5 x6 x7 a2 a11 a12 a13 a14 a15 a16 a17 (u_3.2.2.2.1 0) a8 a18 a18 f0 a11 (u_3.2.2.1 0) a13 (u_13.2.2.1 1) a12 (u_13.2.2.1 0) a14 (u_8.2.1 0) a15 (u_8.2.1 1) a16 (u_8.2.1 2) a17 (u_13.2.1 0)) := hD
    have hw_16 : (∀ j, 0 ≤ ((u_13.2.1 0) j).toInt ∧ ((u_13.2.1 0) j).toInt ≤ 23) := hw_15
    refine lv_aload_n (pc := 48) hx hb dX3_leastOfAll_48 rfl (lv_at hl 2 rfl) ?_
    refine gd_l (pc := 49) (wc := (zS_132 cB cC cI cJ a1 a8 a9 a10 x1 x2 x3 x4 x5 x6 x7 a8 a18 a18 f0)) hP hD hS hA [1, 3, 4] rfl (by decide +kernel) (fun _ => by rfl) (fun hPc hDc => va_runS (As := [.ref a1]) (rest := []) ⟨hx, hb, hml, hown, hts⟩ (k_X3_leastThinkable l D cB cC cI cJ _ a1 a8 a9 a10 a18 x1 x2 x3 x4 x5 x6 x7 f0 h_x1 h_x2 h_x3 h_x4 h_x5) ⟨gcwB hts tw_1296 tw_12 tw_1294 hd_yX3_leastThinkable ⟨Nat.le_of_ble_eq_true rfl, Nat.le_of_ble_eq_true rfl⟩, hts _ tw_1295⟩ (gpreS hPc hK hDc hN) rfl rfl hl.1 rfl (lv_room (Nat.le_of_ble_eq_true rfl)) dX3_leastOfAll_49 ⟨Nat.le_of_ble_eq_true rfl, Nat.le_of_ble_eq_true rfl⟩) (fun r_18 u_17 H locs hw_19 hP hD hS => ?_)
    replace hP : va_P D gcl (zS_38 cB cC cI cJ a0 a2 a3 a4 a5 a6 a7 y0 x0 y1 y2 a1 a8 a9 a10 x1 x2 x3 x4 x5 x6 x7 a2 a11 a12 a13 a14 a15 a16 a17 (u_3.2.2.2.1 0) a8 a18 a18 f0 a11 (u_3.2.2.1 0) a13 (u_13.2.2.1 1) a12 (u_13.2.2.1 0) a14 (u_8.2.1 0) a15 (u_8.2.1 1) a16 (u_8.2.1 2) a17 (u_13.2.1 0)) H := hP
    replace hD : va_D A (zS_38 cB cC cI cJ a0 a2 a3 a4 a5 a6 a7 y0 x0 y1 y2 a1 a8 a9 a10 x1 x2 x3 x4 x5 x6 x7 a2 a11 a12 a13 a14 a15 a16 a17 (u_3.2.2.2.1 0) a8 a18 a18 f0 a11 (u_3.2.2.1 0) a13 (u_13.2.2.1 1) a12 (u_13.2.2.1 0) a14 (u_8.2.1 0) a15 (u_8.2.1 1) a16 (u_8.2.1 2) a17 (u_13.2.1 0)) := hD
    have hw_20 : ((((-2147483648) ≤ r_18.toInt ∧ r_18.toInt ≤ 2147483647) ∧ ((-1) ≤ x3.toInt ∧ x3.toInt ≤ 6)) ∨ (((-2147483648) ≤ r_18.toInt ∧ r_18.toInt ≤ 2147483647) ∧ (1 ≤ x3.toInt ∧ x3.toInt ≤ 6))) := hw_19
    have rr_18 := n_rngL r_18
    refine lv_lstore_n (pc := 52) (lv' := [(3, .long r_18), (2, .int x_2), (0, .ref a0), (1, .ref a1)]) hx hb dX3_leastOfAll_52 rfl hl (by decide) rfl (fun ls hl => ?_)
    refine lv_aload_n (pc := 53) hx hb dX3_leastOfAll_53 rfl (lv_at hl 3 rfl) ?_
    refine va_getN (pc := 54) (ci := 1) (v := .int x1) (C := RX1) (T := TX1) (N := 10) hx hb hts iX1 hown hK hP 1 rfl rfl 3 (by decide) (va_Nw.use rfl (hN _ tn_113)) (fun _ h9 => h9) rfl dX3_leastOfAll_54 ?_
    refine lv_iconst (pc := 57) (v := 2) hx hb dX3_leastOfAll_57 (by decide) ?_
    refine b_irem (pc := 58) hx hb rfl tI_2 (by first | exact (om_930) | ((first | omega | (unfold zBd at *; omega)))) dX3_leastOfAll_58 (fun x_21 ex_21 => ?_)
    have rx_21 : ((-1) ≤ x_21.toInt ∧ x_21.toInt ≤ 1) := (by first | exact (om_1293 ex_21.1 ex_21.2.1) | ((first | omega | (unfold zBd at *; omega))))
    refine lv_iconst (pc := 59) (v := 1) hx hb dX3_leastOfAll_59 (by decide) ?_
    refine b_icmp_ne (pc := 60) (tgt := 67) hx hb rfl tI_1  dX3_leastOfAll_60 (by decide) (fun c_22 => ?_) (fun c_22 => ?_)
    ·
      refine lv_ldc2 (pc := 67) hx hb hown (hts _ tw_1271) dX3_leastOfAll_67 ?_
      refine lv_lstore (pc := 70) (lv' := [(5, .long 1000000000000000), (3, .long r_18), (2, .int x_2), (0, .ref a0), (1, .ref a1)]) hx hb dX3_leastOfAll_70 hl (by decide) rfl (fun ls hl => ?_)
      refine lv_aload_n (pc := 72) hx hb dX3_leastOfAll_72 rfl (lv_at hl 3 rfl) ?_
      refine va_get (pc := 73) (ci := 3) (v := .ref a2) (C := RX3) (T := TX3) (N := 10) hx hb hts iX3 hown hK hP 0 rfl rfl 0 (by decide) (hts _ tw_348) (fun _ h9 => h9) rfl dX3_leastOfAll_73 ?_
      refine gd_i (pc := 76) (wc := (zS_83 cB cC cI cJ a2 a11 a12 a13 a14 a15 a16 a17 (u_3.2.2.2.1 0) a16 (u_8.2.1 2))) hP hD hS hA [2, 10] rfl (by decide +kernel) (fun _ => by rfl) (fun hPc hDc => va_runV (As := []) (rest := []) ⟨hx, hb, hml, hown, hts⟩ (k_X10_lineCount l D cB cC cI cJ _ a2 a11 a12 a13 a14 a15 a16 a17 (u_3.2.2.2.1 0) (u_8.2.1 2) hw_11 hw_12) ⟨gcwB hts tw_914 tw_8 tw_1272 hd_yX10_lineCount ⟨Nat.le_of_ble_eq_true rfl, Nat.le_of_ble_eq_true rfl⟩, hts _ tw_912, hts _ tw_913⟩ ⟨gblind, va_recv hK hPc (ci := 10) (q0 := 0) rfl rfl, (gpreS hPc hK hDc hN).2⟩ rfl rfl hl.1 rfl (lv_room (Nat.le_of_ble_eq_true rfl)) dX3_leastOfAll_76 ⟨Nat.le_of_ble_eq_true rfl, Nat.le_of_ble_eq_true rfl⟩) (fun r_24 u_23 H locs hw_25 hP hD hS => ?_)
      replace hP : va_P D gcl (zS_38 cB cC cI cJ a0 a2 a3 a4 a5 a6 a7 y0 x0 y1 y2 a1 a8 a9 a10 x1 x2 x3 x4 x5 x6 x7 a2 a11 a12 a13 a14 a15 a16 a17 (u_3.2.2.2.1 0) a8 a18 a18 f0 a11 (u_3.2.2.1 0) a13 (u_13.2.2.1 1) a12 (u_13.2.2.1 0) a14 (u_8.2.1 0) a15 (u_8.2.1 1) a16 (u_8.2.1 2) a17 (u_13.2.1 0)) H := hP
      replace hD : va_D A (zS_38 cB cC cI cJ a0 a2 a3 a4 a5 a6 a7 y0 x0 y1 y2 a1 a8 a9 a10 x1 x2 x3 x4 x5 x6 x7 a2 a11 a12 a13 a14 a15 a16 a17 (u_3.2.2.2.1 0) a8 a18 a18 f0 a11 (u_3.2.2.1 0) a13 (u_13.2.2.1 1) a12 (u_13.2.2.1 0) a14 (u_8.2.1 0) a15 (u_8.2.1 1) a16 (u_8.2.1 2) a17 (u_13.2.1 0)) := hD
      have hw_26 : ((((-2147483648) ≤ r_24.toInt ∧ r_24.toInt ≤ 2147483647) ∧ (0 ≤ (u_3.2.2.2.1 0).toInt ∧ (u_3.2.2.2.1 0).toInt ≤ 4))) := hw_25
      have rr_24 : zBd r_24.toInt (-2147483648) 2147483647 := n_rng r_24
      refine lv_iconst (pc := 79) (v := 1) hx hb dX3_leastOfAll_79 (by decide) ?_
      refine lv_iadd (pc := 80) hx hb dX3_leastOfAll_80 ?_
      refine lv_topi (fun x_27 _ => ?_)
      have rx_27 : zBd x_27.toInt (-2147483648) 2147483647 := n_rng x_27
      refine lv_iconst (pc := 81) (v := 2) hx hb dX3_leastOfAll_81 (by decide) ?_
      refine lv_idiv (pc := 82) hx hb dX3_leastOfAll_82 (fun h => by have q := congrArg Int32.toInt h; have k := tI_0; have k2 := tI_2; (first | omega | (unfold zBd at *; omega))) ?_
      refine lv_topi (fun x_28 _ => ?_)
      have rx_28 : zBd x_28.toInt (-2147483648) 2147483647 := n_rng x_28
      refine lv_istore (pc := 83) (lv' := [(7, .int x_28), (5, .long 1000000000000000), (3, .long r_18), (2, .int x_2), (0, .ref a0), (1, .ref a1)]) hx hb dX3_leastOfAll_83 hl (by decide) rfl (fun ls hl => ?_)
      refine lv_iconst (pc := 85) (v := 0) hx hb dX3_leastOfAll_85 (by decide) ?_
      refine lv_istore (pc := 86) (lv' := [(8, .int 0), (7, .int x_28), (5, .long 1000000000000000), (3, .long r_18), (2, .int x_2), (0, .ref a0), (1, .ref a1)]) hx hb dX3_leastOfAll_86 hl (by decide) rfl (fun ls hl => ?_)
      have lp_37 : ∀ (n : Nat) (x_29 : Int32) (y_31 : Int64) (f_35 : Nat → Int32) (g_33 g_34 : Nat → Int64) (H : Heap) (locs : List Loc) (ls : Array Slot), (0 ≤ x_29.toInt ∧ x_29.toInt ≤ 2147483647) → (∀ j, 0 ≤ (f_35 j).toInt ∧ (f_35 j).toInt ≤ 23) → (2147483647 - x_29.toInt).toNat < n → va_P D gcl (zS_38 cB cC cI cJ a0 a2 a3 a4 a5 a6 a7 y0 x0 y1 y2 a1 a8 a9 a10 x1 x2 x3 x4 x5 x6 x7 a2 a11 a12 a13 a14 a15 a16 a17 (u_3.2.2.2.1 0) a8 a18 a18 f0 a11 (u_3.2.2.1 0) a13 g_33 a12 g_34 a14 (u_8.2.1 0) a15 (u_8.2.1 1) a16 (u_8.2.1 2) a17 f_35) H → va_D A (zS_38 cB cC cI cJ a0 a2 a3 a4 a5 a6 a7 y0 x0 y1 y2 a1 a8 a9 a10 x1 x2 x3 x4 x5 x6 x7 a2 a11 a12 a13 a14 a15 a16 a17 (u_3.2.2.2.1 0) a8 a18 a18 f0 a11 (u_3.2.2.1 0) a13 g_33 a12 g_34 a14 (u_8.2.1 0) a15 (u_8.2.1 1) a16 (u_8.2.1 2) a17 f_35) → va_S A s.heap H locs → lv_has ls 9 [(8, .int x_29), (7, .int x_28), (5, .long y_31), (3, .long r_18), (2, .int x_2), (0, .ref a0), (1, .ref a1)] → W p l e ({ frames := 3, cells := 0, slots := 0, locals := 69 }) s m args below meth c H locs 0 0 Q (F0 m 88 ls []) := by
        intro n
        induction n with
        | zero => intro x_29 y_31 f_35 g_33 g_34 H locs ls hi_30 hi_36 hmu; exact absurd hmu (Nat.not_lt_zero _)
        | succ n ih_lp_37 =>
          intro x_29 y_31 f_35 g_33 g_34 H locs ls hi_30 hi_36 hmu_lp_37 hP hD hS hl
          have hi_32 := n_rngL y_31
          refine lv_iload (pc := 88) hx hb dX3_leastOfAll_88 (lv_at hl 0 rfl) ?_
          refine lv_iload (pc := 90) hx hb dX3_leastOfAll_90 (lv_at hl 1 rfl) ?_
          refine b_icmp_ge (pc := 92) (tgt := 137) hx hb rfl rfl  dX3_leastOfAll_92 (by decide) (fun c_38 => ?_) (fun c_38 => ?_)
          ·
            refine lv_aload_n (pc := 137) hx hb dX3_leastOfAll_137 rfl (lv_at hl 5 rfl) ?_
            refine lv_lload (pc := 138) hx hb dX3_leastOfAll_138 (lv_at hl 2 rfl) ?_
            refine va_put (pc := 140) (ci := 3) (v := .long y_31) (ty := .long) (C := RX3) (T := TX3) (N := 10) hx hb hts iX3 tyX3 tyX3_ok nmX3 hown hK hP hD hS 0 rfl rfl 8 (by decide) (hts _ tw_358) (fun _ h9 => h9) rfl (by decide +kernel) rfl rfl (Nat.le_of_ble_eq_true rfl) dX3_leastOfAll_140 (fun H locs hP hD hS => ?_)
            replace hP : va_P D gcl (zS_38 cB cC cI cJ a0 a2 a3 a4 a5 a6 a7 y0 x0 y_31 y2 a1 a8 a9 a10 x1 x2 x3 x4 x5 x6 x7 a2 a11 a12 a13 a14 a15 a16 a17 (u_3.2.2.2.1 0) a8 a18 a18 f0 a11 (u_3.2.2.1 0) a13 g_33 a12 g_34 a14 (u_8.2.1 0) a15 (u_8.2.1 1) a16 (u_8.2.1 2) a17 f_35) H := hP
            replace hD : va_D A (zS_38 cB cC cI cJ a0 a2 a3 a4 a5 a6 a7 y0 x0 y_31 y2 a1 a8 a9 a10 x1 x2 x3 x4 x5 x6 x7 a2 a11 a12 a13 a14 a15 a16 a17 (u_3.2.2.2.1 0) a8 a18 a18 f0 a11 (u_3.2.2.1 0) a13 g_33 a12 g_34 a14 (u_8.2.1 0) a15 (u_8.2.1 1) a16 (u_8.2.1 2) a17 f_35) := hD
            refine lv_lload (pc := 143) hx hb dX3_leastOfAll_143 (lv_at hl 2 rfl) ?_
            exact hret y_31 ((fun _ => 0), (fun k => [(u_8.2.1 0), (u_8.2.1 1), (u_8.2.1 2), f_35].getD k (fun _ => 0)), (fun k => [(u_3.2.2.1 0), g_33, g_34].getD k (fun _ => 0)), (fun k => [(u_3.2.2.2.1 0)].getD k 0), (fun k => [y_31].getD k 0)) dX3_leastOfAll_145 ⟨(show ((((-9223372036854775808) ≤ y_31.toInt ∧ y_31.toInt ≤ 9223372036854775807) ∧ y1.toInt < 0) ∨ (((-9223372036854775808) ≤ y_31.toInt ∧ y_31.toInt ≤ 2147483647) ∧ y1.toInt < 0) ∨ (y_31.toInt = y1.toInt ∧ y1.toInt ≥ 0)) from (by first | exact (om_1300 hi_32.1 hi_32.2 c_1) | ((first | omega | (unfold zBd at *; omega))))), (show (0 ≤ ((u_3.2.2.2.1 0) : Int32).toInt ∧ ((u_3.2.2.2.1 0) : Int32).toInt ≤ 4) from hw_11), hw_12, hi_36⟩ (g_psub (wc := (zS_38 cB cC cI cJ a0 a2 a3 a4 a5 a6 a7 y0 x0 y_31 y2 a1 a8 a9 a10 x1 x2 x3 x4 x5 x6 x7 a2 a11 a12 a13 a14 a15 a16 a17 (u_3.2.2.2.1 0) a8 a18 a18 f0 a11 (u_3.2.2.1 0) a13 g_33 a12 g_34 a14 (u_8.2.1 0) a15 (u_8.2.1 1) a16 (u_8.2.1 2) a17 f_35)) hP [0, 1, 2, 3, 4, 5, 6, 7, 8, 9, 10, 11] rfl) (hD.sub (ws' := (zS_38 cB cC cI cJ a0 a2 a3 a4 a5 a6 a7 y0 x0 y_31 y2 a1 a8 a9 a10 x1 x2 x3 x4 x5 x6 x7 a2 a11 a12 a13 a14 a15 a16 a17 (u_3.2.2.2.1 0) a8 a18 a18 f0 a11 (u_3.2.2.1 0) a13 g_33 a12 g_34 a14 (u_8.2.1 0) a15 (u_8.2.1 1) a16 (u_8.2.1 2) a17 f_35)) [0, 1, 2, 3, 4, 5, 6, 7, 8, 9, 10, 11] (by decide) rfl) hS
          ·
            refine lv_lload (pc := 95) hx hb dX3_leastOfAll_95 (lv_at hl 2 rfl) ?_
            refine lv_lload_n (pc := 97) hx hb dX3_leastOfAll_97 rfl (lv_at hl 3 rfl) ?_
            refine b_lcmp_le (pc := 98) (tgt := 137) hx hb rfl rfl dX3_leastOfAll_98 dX3_leastOfAll_99 (by decide) (fun c_39 => ?_) (fun c_39 => ?_)
            ·
              refine lv_aload_n (pc := 137) hx hb dX3_leastOfAll_137 rfl (lv_at hl 5 rfl) ?_
              refine lv_lload (pc := 138) hx hb dX3_leastOfAll_138 (lv_at hl 2 rfl) ?_
              refine va_put (pc := 140) (ci := 3) (v := .long y_31) (ty := .long) (C := RX3) (T := TX3) (N := 10) hx hb hts iX3 tyX3 tyX3_ok nmX3 hown hK hP hD hS 0 rfl rfl 8 (by decide) (hts _ tw_358) (fun _ h9 => h9) rfl (by decide +kernel) rfl rfl (Nat.le_of_ble_eq_true rfl) dX3_leastOfAll_140 (fun H locs hP hD hS => ?_)
              replace hP : va_P D gcl (zS_38 cB cC cI cJ a0 a2 a3 a4 a5 a6 a7 y0 x0 y_31 y2 a1 a8 a9 a10 x1 x2 x3 x4 x5 x6 x7 a2 a11 a12 a13 a14 a15 a16 a17 (u_3.2.2.2.1 0) a8 a18 a18 f0 a11 (u_3.2.2.1 0) a13 g_33 a12 g_34 a14 (u_8.2.1 0) a15 (u_8.2.1 1) a16 (u_8.2.1 2) a17 f_35) H := hP
              replace hD : va_D A (zS_38 cB cC cI cJ a0 a2 a3 a4 a5 a6 a7 y0 x0 y_31 y2 a1 a8 a9 a10 x1 x2 x3 x4 x5 x6 x7 a2 a11 a12 a13 a14 a15 a16 a17 (u_3.2.2.2.1 0) a8 a18 a18 f0 a11 (u_3.2.2.1 0) a13 g_33 a12 g_34 a14 (u_8.2.1 0) a15 (u_8.2.1 1) a16 (u_8.2.1 2) a17 f_35) := hD
              refine lv_lload (pc := 143) hx hb dX3_leastOfAll_143 (lv_at hl 2 rfl) ?_
              exact hret y_31 ((fun _ => 0), (fun k => [(u_8.2.1 0), (u_8.2.1 1), (u_8.2.1 2), f_35].getD k (fun _ => 0)), (fun k => [(u_3.2.2.1 0), g_33, g_34].getD k (fun _ => 0)), (fun k => [(u_3.2.2.2.1 0)].getD k 0), (fun k => [y_31].getD k 0)) dX3_leastOfAll_145 ⟨(show ((((-9223372036854775808) ≤ y_31.toInt ∧ y_31.toInt ≤ 9223372036854775807) ∧ y1.toInt < 0) ∨ (((-9223372036854775808) ≤ y_31.toInt ∧ y_31.toInt ≤ 2147483647) ∧ y1.toInt < 0) ∨ (y_31.toInt = y1.toInt ∧ y1.toInt ≥ 0)) from (by first | exact (om_1300 hi_32.1 hi_32.2 c_1) | ((first | omega | (unfold zBd at *; omega))))), (show (0 ≤ ((u_3.2.2.2.1 0) : Int32).toInt ∧ ((u_3.2.2.2.1 0) : Int32).toInt ≤ 4) from hw_11), hw_12, hi_36⟩ (g_psub (wc := (zS_38 cB cC cI cJ a0 a2 a3 a4 a5 a6 a7 y0 x0 y_31 y2 a1 a8 a9 a10 x1 x2 x3 x4 x5 x6 x7 a2 a11 a12 a13 a14 a15 a16 a17 (u_3.2.2.2.1 0) a8 a18 a18 f0 a11 (u_3.2.2.1 0) a13 g_33 a12 g_34 a14 (u_8.2.1 0) a15 (u_8.2.1 1) a16 (u_8.2.1 2) a17 f_35)) hP [0, 1, 2, 3, 4, 5, 6, 7, 8, 9, 10, 11] rfl) (hD.sub (ws' := (zS_38 cB cC cI cJ a0 a2 a3 a4 a5 a6 a7 y0 x0 y_31 y2 a1 a8 a9 a10 x1 x2 x3 x4 x5 x6 x7 a2 a11 a12 a13 a14 a15 a16 a17 (u_3.2.2.2.1 0) a8 a18 a18 f0 a11 (u_3.2.2.1 0) a13 g_33 a12 g_34 a14 (u_8.2.1 0) a15 (u_8.2.1 1) a16 (u_8.2.1 2) a17 f_35)) [0, 1, 2, 3, 4, 5, 6, 7, 8, 9, 10, 11] (by decide) rfl) hS
            ·
              refine lv_lload (pc := 102) hx hb dX3_leastOfAll_102 (lv_at hl 2 rfl) ?_
              refine lv_aload_n (pc := 104) hx hb dX3_leastOfAll_104 rfl (lv_at hl 5 rfl) ?_
              refine va_get (pc := 105) (ci := 3) (v := .ref a2) (C := RX3) (T := TX3) (N := 10) hx hb hts iX3 hown hK hP 0 rfl rfl 0 (by decide) (hts _ tw_348) (fun _ h9 => h9) rfl dX3_leastOfAll_105 ?_
              refine lv_aload_n (pc := 108) hx hb dX3_leastOfAll_108 rfl (lv_at hl 5 rfl) ?_
              refine va_get (pc := 109) (ci := 3) (v := .ref a2) (C := RX3) (T := TX3) (N := 10) hx hb hts iX3 hown hK hP 0 rfl rfl 0 (by decide) (hts _ tw_348) (fun _ h9 => h9) rfl dX3_leastOfAll_109 ?_
              refine lv_iload_n (pc := 112) hx hb dX3_leastOfAll_112 rfl (lv_at hl 4 rfl) ?_
              refine gd_i (pc := 113) (wc := (zS_106 cB cC cI cJ a2 a11 a12 a13 a14 a15 a16 a17 (u_3.2.2.2.1 0) a11 (u_3.2.2.1 0) a15 (u_8.2.1 1) a13 g_33 a14 (u_8.2.1 0) a12 g_34)) hP hD hS hA [2, 5, 9, 6, 8, 7] rfl (by decide +kernel) (fun _ => by rfl) (fun hPc hDc => va_runV (As := [.int x_2]) (rest := [.ref a2, .long y_31]) ⟨hx, hb, hml, hown, hts⟩ (k_X10_bestDigit l D cB cC cI cJ _ a2 a11 a12 a13 a14 a15 a16 a17 x_2 (u_3.2.2.2.1 0) (u_8.2.1 1) (u_8.2.1 0) (u_3.2.2.1 0) g_33 g_34 hw_11) ⟨gcwB hts tw_1151 tw_8 tw_1273 hd_yX10_bestDigit ⟨Nat.le_of_ble_eq_true rfl, Nat.le_of_ble_eq_true rfl⟩, hts _ tw_1149, hts _ tw_1150⟩ ⟨gblind, va_recv hK hPc (ci := 10) (q0 := 0) rfl rfl, (gpreS hPc hK hDc hN).2⟩ rfl rfl hl.1 rfl (lv_room (Nat.le_of_ble_eq_true rfl)) dX3_leastOfAll_113 ⟨Nat.le_of_ble_eq_true rfl, Nat.le_of_ble_eq_true rfl⟩) (fun r_41 u_40 H locs hw_42 hP hD hS => ?_)
              replace hP : va_P D gcl (zS_38 cB cC cI cJ a0 a2 a3 a4 a5 a6 a7 y0 x0 y1 y2 a1 a8 a9 a10 x1 x2 x3 x4 x5 x6 x7 a2 a11 a12 a13 a14 a15 a16 a17 (u_3.2.2.2.1 0) a8 a18 a18 f0 a11 (u_3.2.2.1 0) a13 g_33 a12 g_34 a14 (u_8.2.1 0) a15 (u_8.2.1 1) a16 (u_8.2.1 2) a17 f_35) H := hP
              replace hD : va_D A (zS_38 cB cC cI cJ a0 a2 a3 a4 a5 a6 a7 y0 x0 y1 y2 a1 a8 a9 a10 x1 x2 x3 x4 x5 x6 x7 a2 a11 a12 a13 a14 a15 a16 a17 (u_3.2.2.2.1 0) a8 a18 a18 f0 a11 (u_3.2.2.1 0) a13 g_33 a12 g_34 a14 (u_8.2.1 0) a15 (u_8.2.1 1) a16 (u_8.2.1 2) a17 f_35) := hD
              have hw_43 : ((((-2147483648) ≤ r_41.toInt ∧ r_41.toInt ≤ 2147483647) ∧ ((-2147483648) ≤ x_2.toInt ∧ x_2.toInt ≤ 2147483647)) ∨ (((-2147483648) ≤ r_41.toInt ∧ r_41.toInt ≤ 2147483647) ∧ ((-2147483647) ≤ x_2.toInt ∧ x_2.toInt ≤ 2147483647)) ∨ (r_41.toInt = 0)) := hw_42
              have rr_41 : zBd r_41.toInt (-2147483648) 2147483647 := n_rng r_41
              refine gd_l (pc := 116) (wc := (zS_94 cB cC cI cJ a2 a11 a12 a13 a14 a15 a16 a17 (u_3.2.2.2.1 0) a14 (u_8.2.1 0) a15 (u_8.2.1 1) a12 g_34 a11 (u_3.2.2.1 0) a13 g_33)) hP hD hS hA [2, 8, 9, 7, 5, 6] rfl (by decide +kernel) (fun _ => by rfl) (fun hPc hDc => va_runV (As := [.int r_41]) (rest := [.long y_31]) ⟨hx, hb, hml, hown, hts⟩ (k_X10_squaresAt l D cB cC cI cJ _ a2 a11 a12 a13 a14 a15 a16 a17 r_41 (u_3.2.2.2.1 0) (u_8.2.1 0) (u_8.2.1 1) g_34 (u_3.2.2.1 0) g_33 hw_11) ⟨gcwB hts tw_922 tw_8 tw_1274 hd_yX10_squaresAt ⟨Nat.le_of_ble_eq_true rfl, Nat.le_of_ble_eq_true rfl⟩, hts _ tw_920, hts _ tw_921⟩ ⟨gblind, va_recv hK hPc (ci := 10) (q0 := 0) rfl rfl, (gpreS hPc hK hDc hN).2⟩ rfl rfl hl.1 rfl (lv_room (Nat.le_of_ble_eq_true rfl)) dX3_leastOfAll_116 ⟨Nat.le_of_ble_eq_true rfl, Nat.le_of_ble_eq_true rfl⟩) (fun r_45 u_44 H locs hw_46 hP hD hS => ?_)
              replace hP : va_P D gcl (zS_38 cB cC cI cJ a0 a2 a3 a4 a5 a6 a7 y0 x0 y1 y2 a1 a8 a9 a10 x1 x2 x3 x4 x5 x6 x7 a2 a11 a12 a13 a14 a15 a16 a17 (u_3.2.2.2.1 0) a8 a18 a18 f0 a11 (u_3.2.2.1 0) a13 g_33 a12 g_34 a14 (u_8.2.1 0) a15 (u_8.2.1 1) a16 (u_8.2.1 2) a17 f_35) H := hP
              replace hD : va_D A (zS_38 cB cC cI cJ a0 a2 a3 a4 a5 a6 a7 y0 x0 y1 y2 a1 a8 a9 a10 x1 x2 x3 x4 x5 x6 x7 a2 a11 a12 a13 a14 a15 a16 a17 (u_3.2.2.2.1 0) a8 a18 a18 f0 a11 (u_3.2.2.1 0) a13 g_33 a12 g_34 a14 (u_8.2.1 0) a15 (u_8.2.1 1) a16 (u_8.2.1 2) a17 f_35) := hD
              have hw_47 : ((((-9223372036854775808) ≤ r_45.toInt ∧ r_45.toInt ≤ 9223372036854775807))) := hw_46
              have rr_45 := n_rngL r_45
              refine va_mmin_long (pc := 119) hx hb (hml.trans hl.1.symm) hown (hts _ tw_1298) (hts _ tw_857) (hts _ tw_19) (hts _ tw_858) (Nat.le_of_ble_eq_true rfl) (Nat.le_of_ble_eq_true rfl) (Nat.le_of_ble_eq_true rfl) (Nat.le_of_ble_eq_true rfl) dX3_leastOfAll_119 ?_
              refine lv_topl (fun y_48 ey_48 => ?_)
              have ey_48 := n_minL rfl rfl ey_48
              have ry_48 := n_rngL y_48
              refine lv_lstore (pc := 122) (lv' := [(5, .long y_48), (8, .int x_29), (7, .int x_28), (3, .long r_18), (2, .int x_2), (0, .ref a0), (1, .ref a1)]) hx hb dX3_leastOfAll_122 hl (by decide) rfl (fun ls hl => ?_)
              refine lv_aload_n (pc := 124) hx hb dX3_leastOfAll_124 rfl (lv_at hl 5 rfl) ?_
              refine va_get (pc := 125) (ci := 3) (v := .ref a2) (C := RX3) (T := TX3) (N := 10) hx hb hts iX3 hown hK hP 0 rfl rfl 0 (by decide) (hts _ tw_348) (fun _ h9 => h9) rfl dX3_leastOfAll_125 ?_
              refine gd_v (pc := 128) (wc := (zS_46 cB cC cI cJ a2 a11 a12 a13 a14 a15 a16 a17 (u_3.2.2.2.1 0) a17 f_35 a16 (u_8.2.1 2) a14 (u_8.2.1 0) a15 (u_8.2.1 1) a12 g_34 a11 (u_3.2.2.1 0) a13 g_33)) hP hD hS hA [2, 11, 10, 8, 9, 7, 5, 6] rfl (by decide +kernel) (fun _ => by rfl) (fun hPc hDc => va_runV (As := []) (rest := []) ⟨hx, hb, hml, hown, hts⟩ (k_X10_nextLine l D cB cC cI cJ _ a2 a11 a12 a13 a14 a15 a16 a17 (u_3.2.2.2.1 0) f_35 (u_8.2.1 2) (u_8.2.1 0) (u_8.2.1 1) g_34 (u_3.2.2.1 0) g_33 hw_11 hi_36 hw_12) ⟨gcwB hts tw_936 tw_8 tw_1279 hd_yX10_nextLine ⟨Nat.le_of_ble_eq_true rfl, Nat.le_of_ble_eq_true rfl⟩, hts _ tw_934, hts _ tw_935⟩ ⟨gblind, va_recv hK hPc (ci := 10) (q0 := 0) rfl rfl, (gpreS hPc hK hDc hN).2⟩ rfl rfl hl.1 rfl (lv_room (Nat.le_of_ble_eq_true rfl)) dX3_leastOfAll_128 ⟨Nat.le_of_ble_eq_true rfl, Nat.le_of_ble_eq_true rfl⟩) (fun u_49 H locs hw_51 hP hD hS => ?_)
              replace hP : va_P D gcl (zS_38 cB cC cI cJ a0 a2 a3 a4 a5 a6 a7 y0 x0 y1 y2 a1 a8 a9 a10 x1 x2 x3 x4 x5 x6 x7 a2 a11 a12 a13 a14 a15 a16 a17 (u_3.2.2.2.1 0) a8 a18 a18 f0 a11 (u_3.2.2.1 0) a13 (u_49.2.2.1 1) a12 (u_49.2.2.1 0) a14 (u_8.2.1 0) a15 (u_8.2.1 1) a16 (u_8.2.1 2) a17 (u_49.2.1 0)) H := hP
              replace hD : va_D A (zS_38 cB cC cI cJ a0 a2 a3 a4 a5 a6 a7 y0 x0 y1 y2 a1 a8 a9 a10 x1 x2 x3 x4 x5 x6 x7 a2 a11 a12 a13 a14 a15 a16 a17 (u_3.2.2.2.1 0) a8 a18 a18 f0 a11 (u_3.2.2.1 0) a13 (u_49.2.2.1 1) a12 (u_49.2.2.1 0) a14 (u_8.2.1 0) a15 (u_8.2.1 1) a16 (u_8.2.1 2) a17 (u_49.2.1 0)) := hD
              have hw_52 : (∀ j, 0 ≤ ((u_49.2.1 0) j).toInt ∧ ((u_49.2.1 0) j).toInt ≤ 23) := hw_51
              refine b_iinc (pc := 131) hx hb dX3_leastOfAll_131 hl (k := 1) rfl rfl tI_1 (by first | exact (om_2 hi_30.1) | ((first | omega | (unfold zBd at *; omega)))) (by first | exact (om_1087 c_38 rx_28.2) | ((first | omega | (unfold zBd at *; omega)))) (by decide) (fun x_53 ex_53 ls hl => ?_)
              replace hl : lv_has ls 9 [(8, .int x_53), (5, .long y_48), (7, .int x_28), (3, .long r_18), (2, .int x_2), (0, .ref a0), (1, .ref a1)] := hl
              refine lv_goto (pc := 134) (tgt := 88) hx hb dX3_leastOfAll_134 (by decide) ?_
              exact ih_lp_37 x_53 y_48 (u_49.2.1 0) (u_49.2.2.1 1) (u_49.2.2.1 0) _ _ ls (by first | exact (om_1088 ex_53 hi_30.1 c_38 rx_28.2) | ((first | omega | (unfold zBd at *; omega)))) hw_52 (by (first | omega | (unfold zBd at *; omega))) hP hD hS (lv_sub hl [0, 2, 1, 3, 4, 5, 6] rfl)
      exact lp_37 _ 0 1000000000000000 (u_13.2.1 0) (u_13.2.2.1 1) (u_13.2.2.1 0) _ _ ls (n_c tI_0 (by decide)) hw_16 (Nat.lt_succ_self _) hP hD hS (lv_sub hl [0, 1, 2, 3, 4, 5, 6] rfl)
    ·
      refine lv_lconst (pc := 63) (v := 0) hx hb dX3_leastOfAll_63 (by decide) ?_
      refine lv_goto (pc := 64) (tgt := 70) hx hb dX3_leastOfAll_64 (by decide) ?_
      refine lv_lstore (pc := 70) (lv' := [(5, .long 0), (3, .long r_18), (2, .int x_2), (0, .ref a0), (1, .ref a1)]) hx hb dX3_leastOfAll_70 hl (by decide) rfl (fun ls hl => ?_)
      refine lv_aload_n (pc := 72) hx hb dX3_leastOfAll_72 rfl (lv_at hl 3 rfl) ?_
      refine va_get (pc := 73) (ci := 3) (v := .ref a2) (C := RX3) (T := TX3) (N := 10) hx hb hts iX3 hown hK hP 0 rfl rfl 0 (by decide) (hts _ tw_348) (fun _ h9 => h9) rfl dX3_leastOfAll_73 ?_
      refine gd_i (pc := 76) (wc := (zS_83 cB cC cI cJ a2 a11 a12 a13 a14 a15 a16 a17 (u_3.2.2.2.1 0) a16 (u_8.2.1 2))) hP hD hS hA [2, 10] rfl (by decide +kernel) (fun _ => by rfl) (fun hPc hDc => va_runV (As := []) (rest := []) ⟨hx, hb, hml, hown, hts⟩ (k_X10_lineCount l D cB cC cI cJ _ a2 a11 a12 a13 a14 a15 a16 a17 (u_3.2.2.2.1 0) (u_8.2.1 2) hw_11 hw_12) ⟨gcwB hts tw_914 tw_8 tw_1272 hd_yX10_lineCount ⟨Nat.le_of_ble_eq_true rfl, Nat.le_of_ble_eq_true rfl⟩, hts _ tw_912, hts _ tw_913⟩ ⟨gblind, va_recv hK hPc (ci := 10) (q0 := 0) rfl rfl, (gpreS hPc hK hDc hN).2⟩ rfl rfl hl.1 rfl (lv_room (Nat.le_of_ble_eq_true rfl)) dX3_leastOfAll_76 ⟨Nat.le_of_ble_eq_true rfl, Nat.le_of_ble_eq_true rfl⟩) (fun r_55 u_54 H locs hw_56 hP hD hS => ?_)
      replace hP : va_P D gcl (zS_38 cB cC cI cJ a0 a2 a3 a4 a5 a6 a7 y0 x0 y1 y2 a1 a8 a9 a10 x1 x2 x3 x4 x5 x6 x7 a2 a11 a12 a13 a14 a15 a16 a17 (u_3.2.2.2.1 0) a8 a18 a18 f0 a11 (u_3.2.2.1 0) a13 (u_13.2.2.1 1) a12 (u_13.2.2.1 0) a14 (u_8.2.1 0) a15 (u_8.2.1 1) a16 (u_8.2.1 2) a17 (u_13.2.1 0)) H := hP
      replace hD : va_D A (zS_38 cB cC cI cJ a0 a2 a3 a4 a5 a6 a7 y0 x0 y1 y2 a1 a8 a9 a10 x1 x2 x3 x4 x5 x6 x7 a2 a11 a12 a13 a14 a15 a16 a17 (u_3.2.2.2.1 0) a8 a18 a18 f0 a11 (u_3.2.2.1 0) a13 (u_13.2.2.1 1) a12 (u_13.2.2.1 0) a14 (u_8.2.1 0) a15 (u_8.2.1 1) a16 (u_8.2.1 2) a17 (u_13.2.1 0)) := hD
      have hw_57 : ((((-2147483648) ≤ r_55.toInt ∧ r_55.toInt ≤ 2147483647) ∧ (0 ≤ (u_3.2.2.2.1 0).toInt ∧ (u_3.2.2.2.1 0).toInt ≤ 4))) := hw_56
      have rr_55 : zBd r_55.toInt (-2147483648) 2147483647 := n_rng r_55
      refine lv_iconst (pc := 79) (v := 1) hx hb dX3_leastOfAll_79 (by decide) ?_
      refine lv_iadd (pc := 80) hx hb dX3_leastOfAll_80 ?_
      refine lv_topi (fun x_58 _ => ?_)
      have rx_58 : zBd x_58.toInt (-2147483648) 2147483647 := n_rng x_58
      refine lv_iconst (pc := 81) (v := 2) hx hb dX3_leastOfAll_81 (by decide) ?_
      refine lv_idiv (pc := 82) hx hb dX3_leastOfAll_82 (fun h => by have q := congrArg Int32.toInt h; have k := tI_0; have k2 := tI_2; (first | omega | (unfold zBd at *; omega))) ?_
      refine lv_topi (fun x_59 _ => ?_)
      have rx_59 : zBd x_59.toInt (-2147483648) 2147483647 := n_rng x_59
      refine lv_istore (pc := 83) (lv' := [(7, .int x_59), (5, .long 0), (3, .long r_18), (2, .int x_2), (0, .ref a0), (1, .ref a1)]) hx hb dX3_leastOfAll_83 hl (by decide) rfl (fun ls hl => ?_)
      refine lv_iconst (pc := 85) (v := 0) hx hb dX3_leastOfAll_85 (by decide) ?_
      refine lv_istore (pc := 86) (lv' := [(8, .int 0), (7, .int x_59), (5, .long 0), (3, .long r_18), (2, .int x_2), (0, .ref a0), (1, .ref a1)]) hx hb dX3_leastOfAll_86 hl (by decide) rfl (fun ls hl => ?_)
      have lp_68 : ∀ (n : Nat) (x_60 : Int32) (y_62 : Int64) (f_66 : Nat → Int32) (g_64 g_65 : Nat → Int64) (H : Heap) (locs : List Loc) (ls : Array Slot), (0 ≤ x_60.toInt ∧ x_60.toInt ≤ 2147483647) → (∀ j, 0 ≤ (f_66 j).toInt ∧ (f_66 j).toInt ≤ 23) → (2147483647 - x_60.toInt).toNat < n → va_P D gcl (zS_38 cB cC cI cJ a0 a2 a3 a4 a5 a6 a7 y0 x0 y1 y2 a1 a8 a9 a10 x1 x2 x3 x4 x5 x6 x7 a2 a11 a12 a13 a14 a15 a16 a17 (u_3.2.2.2.1 0) a8 a18 a18 f0 a11 (u_3.2.2.1 0) a13 g_64 a12 g_65 a14 (u_8.2.1 0) a15 (u_8.2.1 1) a16 (u_8.2.1 2) a17 f_66) H → va_D A (zS_38 cB cC cI cJ a0 a2 a3 a4 a5 a6 a7 y0 x0 y1 y2 a1 a8 a9 a10 x1 x2 x3 x4 x5 x6 x7 a2 a11 a12 a13 a14 a15 a16 a17 (u_3.2.2.2.1 0) a8 a18 a18 f0 a11 (u_3.2.2.1 0) a13 g_64 a12 g_65 a14 (u_8.2.1 0) a15 (u_8.2.1 1) a16 (u_8.2.1 2) a17 f_66) → va_S A s.heap H locs → lv_has ls 9 [(8, .int x_60), (7, .int x_59), (5, .long y_62), (3, .long r_18), (2, .int x_2), (0, .ref a0), (1, .ref a1)] → W p l e ({ frames := 3, cells := 0, slots := 0, locals := 69 }) s m args below meth c H locs 0 0 Q (F0 m 88 ls []) := by
        intro n
        induction n with
        | zero => intro x_60 y_62 f_66 g_64 g_65 H locs ls hi_61 hi_67 hmu; exact absurd hmu (Nat.not_lt_zero _)
        | succ n ih_lp_68 =>
          intro x_60 y_62 f_66 g_64 g_65 H locs ls hi_61 hi_67 hmu_lp_68 hP hD hS hl
          have hi_63 := n_rngL y_62
          refine lv_iload (pc := 88) hx hb dX3_leastOfAll_88 (lv_at hl 0 rfl) ?_
          refine lv_iload (pc := 90) hx hb dX3_leastOfAll_90 (lv_at hl 1 rfl) ?_
          refine b_icmp_ge (pc := 92) (tgt := 137) hx hb rfl rfl  dX3_leastOfAll_92 (by decide) (fun c_69 => ?_) (fun c_69 => ?_)
          ·
            refine lv_aload_n (pc := 137) hx hb dX3_leastOfAll_137 rfl (lv_at hl 5 rfl) ?_
            refine lv_lload (pc := 138) hx hb dX3_leastOfAll_138 (lv_at hl 2 rfl) ?_
            refine va_put (pc := 140) (ci := 3) (v := .long y_62) (ty := .long) (C := RX3) (T := TX3) (N := 10) hx hb hts iX3 tyX3 tyX3_ok nmX3 hown hK hP hD hS 0 rfl rfl 8 (by decide) (hts _ tw_358) (fun _ h9 => h9) rfl (by decide +kernel) rfl rfl (Nat.le_of_ble_eq_true rfl) dX3_leastOfAll_140 (fun H locs hP hD hS => ?_)
            replace hP : va_P D gcl (zS_38 cB cC cI cJ a0 a2 a3 a4 a5 a6 a7 y0 x0 y_62 y2 a1 a8 a9 a10 x1 x2 x3 x4 x5 x6 x7 a2 a11 a12 a13 a14 a15 a16 a17 (u_3.2.2.2.1 0) a8 a18 a18 f0 a11 (u_3.2.2.1 0) a13 g_64 a12 g_65 a14 (u_8.2.1 0) a15 (u_8.2.1 1) a16 (u_8.2.1 2) a17 f_66) H := hP
            replace hD : va_D A (zS_38 cB cC cI cJ a0 a2 a3 a4 a5 a6 a7 y0 x0 y_62 y2 a1 a8 a9 a10 x1 x2 x3 x4 x5 x6 x7 a2 a11 a12 a13 a14 a15 a16 a17 (u_3.2.2.2.1 0) a8 a18 a18 f0 a11 (u_3.2.2.1 0) a13 g_64 a12 g_65 a14 (u_8.2.1 0) a15 (u_8.2.1 1) a16 (u_8.2.1 2) a17 f_66) := hD
            refine lv_lload (pc := 143) hx hb dX3_leastOfAll_143 (lv_at hl 2 rfl) ?_
            exact hret y_62 ((fun _ => 0), (fun k => [(u_8.2.1 0), (u_8.2.1 1), (u_8.2.1 2), f_66].getD k (fun _ => 0)), (fun k => [(u_3.2.2.1 0), g_64, g_65].getD k (fun _ => 0)), (fun k => [(u_3.2.2.2.1 0)].getD k 0), (fun k => [y_62].getD k 0)) dX3_leastOfAll_145 ⟨(show ((((-9223372036854775808) ≤ y_62.toInt ∧ y_62.toInt ≤ 9223372036854775807) ∧ y1.toInt < 0) ∨ (((-9223372036854775808) ≤ y_62.toInt ∧ y_62.toInt ≤ 2147483647) ∧ y1.toInt < 0) ∨ (y_62.toInt = y1.toInt ∧ y1.toInt ≥ 0)) from (by first | exact (om_1300 hi_63.1 hi_63.2 c_1) | ((first | omega | (unfold zBd at *; omega))))), (show (0 ≤ ((u_3.2.2.2.1 0) : Int32).toInt ∧ ((u_3.2.2.2.1 0) : Int32).toInt ≤ 4) from hw_11), hw_12, hi_67⟩ (g_psub (wc := (zS_38 cB cC cI cJ a0 a2 a3 a4 a5 a6 a7 y0 x0 y_62 y2 a1 a8 a9 a10 x1 x2 x3 x4 x5 x6 x7 a2 a11 a12 a13 a14 a15 a16 a17 (u_3.2.2.2.1 0) a8 a18 a18 f0 a11 (u_3.2.2.1 0) a13 g_64 a12 g_65 a14 (u_8.2.1 0) a15 (u_8.2.1 1) a16 (u_8.2.1 2) a17 f_66)) hP [0, 1, 2, 3, 4, 5, 6, 7, 8, 9, 10, 11] rfl) (hD.sub (ws' := (zS_38 cB cC cI cJ a0 a2 a3 a4 a5 a6 a7 y0 x0 y_62 y2 a1 a8 a9 a10 x1 x2 x3 x4 x5 x6 x7 a2 a11 a12 a13 a14 a15 a16 a17 (u_3.2.2.2.1 0) a8 a18 a18 f0 a11 (u_3.2.2.1 0) a13 g_64 a12 g_65 a14 (u_8.2.1 0) a15 (u_8.2.1 1) a16 (u_8.2.1 2) a17 f_66)) [0, 1, 2, 3, 4, 5, 6, 7, 8, 9, 10, 11] (by decide) rfl) hS
          ·
            refine lv_lload (pc := 95) hx hb dX3_leastOfAll_95 (lv_at hl 2 rfl) ?_
            refine lv_lload_n (pc := 97) hx hb dX3_leastOfAll_97 rfl (lv_at hl 3 rfl) ?_
            refine b_lcmp_le (pc := 98) (tgt := 137) hx hb rfl rfl dX3_leastOfAll_98 dX3_leastOfAll_99 (by decide) (fun c_70 => ?_) (fun c_70 => ?_)
            ·
              refine lv_aload_n (pc := 137) hx hb dX3_leastOfAll_137 rfl (lv_at hl 5 rfl) ?_
              refine lv_lload (pc := 138) hx hb dX3_leastOfAll_138 (lv_at hl 2 rfl) ?_
              refine va_put (pc := 140) (ci := 3) (v := .long y_62) (ty := .long) (C := RX3) (T := TX3) (N := 10) hx hb hts iX3 tyX3 tyX3_ok nmX3 hown hK hP hD hS 0 rfl rfl 8 (by decide) (hts _ tw_358) (fun _ h9 => h9) rfl (by decide +kernel) rfl rfl (Nat.le_of_ble_eq_true rfl) dX3_leastOfAll_140 (fun H locs hP hD hS => ?_)
              replace hP : va_P D gcl (zS_38 cB cC cI cJ a0 a2 a3 a4 a5 a6 a7 y0 x0 y_62 y2 a1 a8 a9 a10 x1 x2 x3 x4 x5 x6 x7 a2 a11 a12 a13 a14 a15 a16 a17 (u_3.2.2.2.1 0) a8 a18 a18 f0 a11 (u_3.2.2.1 0) a13 g_64 a12 g_65 a14 (u_8.2.1 0) a15 (u_8.2.1 1) a16 (u_8.2.1 2) a17 f_66) H := hP
              replace hD : va_D A (zS_38 cB cC cI cJ a0 a2 a3 a4 a5 a6 a7 y0 x0 y_62 y2 a1 a8 a9 a10 x1 x2 x3 x4 x5 x6 x7 a2 a11 a12 a13 a14 a15 a16 a17 (u_3.2.2.2.1 0) a8 a18 a18 f0 a11 (u_3.2.2.1 0) a13 g_64 a12 g_65 a14 (u_8.2.1 0) a15 (u_8.2.1 1) a16 (u_8.2.1 2) a17 f_66) := hD
              refine lv_lload (pc := 143) hx hb dX3_leastOfAll_143 (lv_at hl 2 rfl) ?_
              exact hret y_62 ((fun _ => 0), (fun k => [(u_8.2.1 0), (u_8.2.1 1), (u_8.2.1 2), f_66].getD k (fun _ => 0)), (fun k => [(u_3.2.2.1 0), g_64, g_65].getD k (fun _ => 0)), (fun k => [(u_3.2.2.2.1 0)].getD k 0), (fun k => [y_62].getD k 0)) dX3_leastOfAll_145 ⟨(show ((((-9223372036854775808) ≤ y_62.toInt ∧ y_62.toInt ≤ 9223372036854775807) ∧ y1.toInt < 0) ∨ (((-9223372036854775808) ≤ y_62.toInt ∧ y_62.toInt ≤ 2147483647) ∧ y1.toInt < 0) ∨ (y_62.toInt = y1.toInt ∧ y1.toInt ≥ 0)) from (by first | exact (om_1300 hi_63.1 hi_63.2 c_1) | ((first | omega | (unfold zBd at *; omega))))), (show (0 ≤ ((u_3.2.2.2.1 0) : Int32).toInt ∧ ((u_3.2.2.2.1 0) : Int32).toInt ≤ 4) from hw_11), hw_12, hi_67⟩ (g_psub (wc := (zS_38 cB cC cI cJ a0 a2 a3 a4 a5 a6 a7 y0 x0 y_62 y2 a1 a8 a9 a10 x1 x2 x3 x4 x5 x6 x7 a2 a11 a12 a13 a14 a15 a16 a17 (u_3.2.2.2.1 0) a8 a18 a18 f0 a11 (u_3.2.2.1 0) a13 g_64 a12 g_65 a14 (u_8.2.1 0) a15 (u_8.2.1 1) a16 (u_8.2.1 2) a17 f_66)) hP [0, 1, 2, 3, 4, 5, 6, 7, 8, 9, 10, 11] rfl) (hD.sub (ws' := (zS_38 cB cC cI cJ a0 a2 a3 a4 a5 a6 a7 y0 x0 y_62 y2 a1 a8 a9 a10 x1 x2 x3 x4 x5 x6 x7 a2 a11 a12 a13 a14 a15 a16 a17 (u_3.2.2.2.1 0) a8 a18 a18 f0 a11 (u_3.2.2.1 0) a13 g_64 a12 g_65 a14 (u_8.2.1 0) a15 (u_8.2.1 1) a16 (u_8.2.1 2) a17 f_66)) [0, 1, 2, 3, 4, 5, 6, 7, 8, 9, 10, 11] (by decide) rfl) hS
            ·
              refine lv_lload (pc := 102) hx hb dX3_leastOfAll_102 (lv_at hl 2 rfl) ?_
              refine lv_aload_n (pc := 104) hx hb dX3_leastOfAll_104 rfl (lv_at hl 5 rfl) ?_
              refine va_get (pc := 105) (ci := 3) (v := .ref a2) (C := RX3) (T := TX3) (N := 10) hx hb hts iX3 hown hK hP 0 rfl rfl 0 (by decide) (hts _ tw_348) (fun _ h9 => h9) rfl dX3_leastOfAll_105 ?_
              refine lv_aload_n (pc := 108) hx hb dX3_leastOfAll_108 rfl (lv_at hl 5 rfl) ?_
              refine va_get (pc := 109) (ci := 3) (v := .ref a2) (C := RX3) (T := TX3) (N := 10) hx hb hts iX3 hown hK hP 0 rfl rfl 0 (by decide) (hts _ tw_348) (fun _ h9 => h9) rfl dX3_leastOfAll_109 ?_
              refine lv_iload_n (pc := 112) hx hb dX3_leastOfAll_112 rfl (lv_at hl 4 rfl) ?_
              refine gd_i (pc := 113) (wc := (zS_106 cB cC cI cJ a2 a11 a12 a13 a14 a15 a16 a17 (u_3.2.2.2.1 0) a11 (u_3.2.2.1 0) a15 (u_8.2.1 1) a13 g_64 a14 (u_8.2.1 0) a12 g_65)) hP hD hS hA [2, 5, 9, 6, 8, 7] rfl (by decide +kernel) (fun _ => by rfl) (fun hPc hDc => va_runV (As := [.int x_2]) (rest := [.ref a2, .long y_62]) ⟨hx, hb, hml, hown, hts⟩ (k_X10_bestDigit l D cB cC cI cJ _ a2 a11 a12 a13 a14 a15 a16 a17 x_2 (u_3.2.2.2.1 0) (u_8.2.1 1) (u_8.2.1 0) (u_3.2.2.1 0) g_64 g_65 hw_11) ⟨gcwB hts tw_1151 tw_8 tw_1273 hd_yX10_bestDigit ⟨Nat.le_of_ble_eq_true rfl, Nat.le_of_ble_eq_true rfl⟩, hts _ tw_1149, hts _ tw_1150⟩ ⟨gblind, va_recv hK hPc (ci := 10) (q0 := 0) rfl rfl, (gpreS hPc hK hDc hN).2⟩ rfl rfl hl.1 rfl (lv_room (Nat.le_of_ble_eq_true rfl)) dX3_leastOfAll_113 ⟨Nat.le_of_ble_eq_true rfl, Nat.le_of_ble_eq_true rfl⟩) (fun r_72 u_71 H locs hw_73 hP hD hS => ?_)
              replace hP : va_P D gcl (zS_38 cB cC cI cJ a0 a2 a3 a4 a5 a6 a7 y0 x0 y1 y2 a1 a8 a9 a10 x1 x2 x3 x4 x5 x6 x7 a2 a11 a12 a13 a14 a15 a16 a17 (u_3.2.2.2.1 0) a8 a18 a18 f0 a11 (u_3.2.2.1 0) a13 g_64 a12 g_65 a14 (u_8.2.1 0) a15 (u_8.2.1 1) a16 (u_8.2.1 2) a17 f_66) H := hP
              replace hD : va_D A (zS_38 cB cC cI cJ a0 a2 a3 a4 a5 a6 a7 y0 x0 y1 y2 a1 a8 a9 a10 x1 x2 x3 x4 x5 x6 x7 a2 a11 a12 a13 a14 a15 a16 a17 (u_3.2.2.2.1 0) a8 a18 a18 f0 a11 (u_3.2.2.1 0) a13 g_64 a12 g_65 a14 (u_8.2.1 0) a15 (u_8.2.1 1) a16 (u_8.2.1 2) a17 f_66) := hD
              have hw_74 : ((((-2147483648) ≤ r_72.toInt ∧ r_72.toInt ≤ 2147483647) ∧ ((-2147483648) ≤ x_2.toInt ∧ x_2.toInt ≤ 2147483647)) ∨ (((-2147483648) ≤ r_72.toInt ∧ r_72.toInt ≤ 2147483647) ∧ ((-2147483647) ≤ x_2.toInt ∧ x_2.toInt ≤ 2147483647)) ∨ (r_72.toInt = 0)) := hw_73
              have rr_72 : zBd r_72.toInt (-2147483648) 2147483647 := n_rng r_72
              refine gd_l (pc := 116) (wc := (zS_94 cB cC cI cJ a2 a11 a12 a13 a14 a15 a16 a17 (u_3.2.2.2.1 0) a14 (u_8.2.1 0) a15 (u_8.2.1 1) a12 g_65 a11 (u_3.2.2.1 0) a13 g_64)) hP hD hS hA [2, 8, 9, 7, 5, 6] rfl (by decide +kernel) (fun _ => by rfl) (fun hPc hDc => va_runV (As := [.int r_72]) (rest := [.long y_62]) ⟨hx, hb, hml, hown, hts⟩ (k_X10_squaresAt l D cB cC cI cJ _ a2 a11 a12 a13 a14 a15 a16 a17 r_72 (u_3.2.2.2.1 0) (u_8.2.1 0) (u_8.2.1 1) g_65 (u_3.2.2.1 0) g_64 hw_11) ⟨gcwB hts tw_922 tw_8 tw_1274 hd_yX10_squaresAt ⟨Nat.le_of_ble_eq_true rfl, Nat.le_of_ble_eq_true rfl⟩, hts _ tw_920, hts _ tw_921⟩ ⟨gblind, va_recv hK hPc (ci := 10) (q0 := 0) rfl rfl, (gpreS hPc hK hDc hN).2⟩ rfl rfl hl.1 rfl (lv_room (Nat.le_of_ble_eq_true rfl)) dX3_leastOfAll_116 ⟨Nat.le_of_ble_eq_true rfl, Nat.le_of_ble_eq_true rfl⟩) (fun r_76 u_75 H locs hw_77 hP hD hS => ?_)
              replace hP : va_P D gcl (zS_38 cB cC cI cJ a0 a2 a3 a4 a5 a6 a7 y0 x0 y1 y2 a1 a8 a9 a10 x1 x2 x3 x4 x5 x6 x7 a2 a11 a12 a13 a14 a15 a16 a17 (u_3.2.2.2.1 0) a8 a18 a18 f0 a11 (u_3.2.2.1 0) a13 g_64 a12 g_65 a14 (u_8.2.1 0) a15 (u_8.2.1 1) a16 (u_8.2.1 2) a17 f_66) H := hP
              replace hD : va_D A (zS_38 cB cC cI cJ a0 a2 a3 a4 a5 a6 a7 y0 x0 y1 y2 a1 a8 a9 a10 x1 x2 x3 x4 x5 x6 x7 a2 a11 a12 a13 a14 a15 a16 a17 (u_3.2.2.2.1 0) a8 a18 a18 f0 a11 (u_3.2.2.1 0) a13 g_64 a12 g_65 a14 (u_8.2.1 0) a15 (u_8.2.1 1) a16 (u_8.2.1 2) a17 f_66) := hD
              have hw_78 : ((((-9223372036854775808) ≤ r_76.toInt ∧ r_76.toInt ≤ 9223372036854775807))) := hw_77
              have rr_76 := n_rngL r_76
              refine va_mmin_long (pc := 119) hx hb (hml.trans hl.1.symm) hown (hts _ tw_1298) (hts _ tw_857) (hts _ tw_19) (hts _ tw_858) (Nat.le_of_ble_eq_true rfl) (Nat.le_of_ble_eq_true rfl) (Nat.le_of_ble_eq_true rfl) (Nat.le_of_ble_eq_true rfl) dX3_leastOfAll_119 ?_
              refine lv_topl (fun y_79 ey_79 => ?_)
              have ey_79 := n_minL rfl rfl ey_79
              have ry_79 := n_rngL y_79
              refine lv_lstore (pc := 122) (lv' := [(5, .long y_79), (8, .int x_60), (7, .int x_59), (3, .long r_18), (2, .int x_2), (0, .ref a0), (1, .ref a1)]) hx hb dX3_leastOfAll_122 hl (by decide) rfl (fun ls hl => ?_)
              refine lv_aload_n (pc := 124) hx hb dX3_leastOfAll_124 rfl (lv_at hl 5 rfl) ?_
              refine va_get (pc := 125) (ci := 3) (v := .ref a2) (C := RX3) (T := TX3) (N := 10) hx hb hts iX3 hown hK hP 0 rfl rfl 0 (by decide) (hts _ tw_348) (fun _ h9 => h9) rfl dX3_leastOfAll_125 ?_
              refine gd_v (pc := 128) (wc := (zS_46 cB cC cI cJ a2 a11 a12 a13 a14 a15 a16 a17 (u_3.2.2.2.1 0) a17 f_66 a16 (u_8.2.1 2) a14 (u_8.2.1 0) a15 (u_8.2.1 1) a12 g_65 a11 (u_3.2.2.1 0) a13 g_64)) hP hD hS hA [2, 11, 10, 8, 9, 7, 5, 6] rfl (by decide +kernel) (fun _ => by rfl) (fun hPc hDc => va_runV (As := []) (rest := []) ⟨hx, hb, hml, hown, hts⟩ (k_X10_nextLine l D cB cC cI cJ _ a2 a11 a12 a13 a14 a15 a16 a17 (u_3.2.2.2.1 0) f_66 (u_8.2.1 2) (u_8.2.1 0) (u_8.2.1 1) g_65 (u_3.2.2.1 0) g_64 hw_11 hi_67 hw_12) ⟨gcwB hts tw_936 tw_8 tw_1279 hd_yX10_nextLine ⟨Nat.le_of_ble_eq_true rfl, Nat.le_of_ble_eq_true rfl⟩, hts _ tw_934, hts _ tw_935⟩ ⟨gblind, va_recv hK hPc (ci := 10) (q0 := 0) rfl rfl, (gpreS hPc hK hDc hN).2⟩ rfl rfl hl.1 rfl (lv_room (Nat.le_of_ble_eq_true rfl)) dX3_leastOfAll_128 ⟨Nat.le_of_ble_eq_true rfl, Nat.le_of_ble_eq_true rfl⟩) (fun u_80 H locs hw_82 hP hD hS => ?_)
              replace hP : va_P D gcl (zS_38 cB cC cI cJ a0 a2 a3 a4 a5 a6 a7 y0 x0 y1 y2 a1 a8 a9 a10 x1 x2 x3 x4 x5 x6 x7 a2 a11 a12 a13 a14 a15 a16 a17 (u_3.2.2.2.1 0) a8 a18 a18 f0 a11 (u_3.2.2.1 0) a13 (u_80.2.2.1 1) a12 (u_80.2.2.1 0) a14 (u_8.2.1 0) a15 (u_8.2.1 1) a16 (u_8.2.1 2) a17 (u_80.2.1 0)) H := hP
              replace hD : va_D A (zS_38 cB cC cI cJ a0 a2 a3 a4 a5 a6 a7 y0 x0 y1 y2 a1 a8 a9 a10 x1 x2 x3 x4 x5 x6 x7 a2 a11 a12 a13 a14 a15 a16 a17 (u_3.2.2.2.1 0) a8 a18 a18 f0 a11 (u_3.2.2.1 0) a13 (u_80.2.2.1 1) a12 (u_80.2.2.1 0) a14 (u_8.2.1 0) a15 (u_8.2.1 1) a16 (u_8.2.1 2) a17 (u_80.2.1 0)) := hD
              have hw_83 : (∀ j, 0 ≤ ((u_80.2.1 0) j).toInt ∧ ((u_80.2.1 0) j).toInt ≤ 23) := hw_82
              refine b_iinc (pc := 131) hx hb dX3_leastOfAll_131 hl (k := 1) rfl rfl tI_1 (by first | exact (om_2 hi_61.1) | ((first | omega | (unfold zBd at *; omega)))) (by first | exact (om_1087 c_69 rx_59.2) | ((first | omega | (unfold zBd at *; omega)))) (by decide) (fun x_84 ex_84 ls hl => ?_)
              replace hl : lv_has ls 9 [(8, .int x_84), (5, .long y_79), (7, .int x_59), (3, .long r_18), (2, .int x_2), (0, .ref a0), (1, .ref a1)] := hl
              refine lv_goto (pc := 134) (tgt := 88) hx hb dX3_leastOfAll_134 (by decide) ?_
              exact ih_lp_68 x_84 y_79 (u_80.2.1 0) (u_80.2.2.1 1) (u_80.2.2.1 0) _ _ ls (by first | exact (om_1088 ex_84 hi_61.1 c_69 rx_59.2) | ((first | omega | (unfold zBd at *; omega)))) hw_83 (by (first | omega | (unfold zBd at *; omega))) hP hD hS (lv_sub hl [0, 2, 1, 3, 4, 5, 6] rfl)
      exact lp_68 _ 0 0 (u_13.2.1 0) (u_13.2.2.1 1) (u_13.2.2.1 0) _ _ ls (n_c tI_0 (by decide)) hw_16 (Nat.lt_succ_self _) hP hD hS (lv_sub hl [0, 1, 2, 3, 4, 5, 6] rfl)
  ·
    refine lv_aload_n (pc := 9) hx hb dX3_leastOfAll_9 rfl (lv_at hl 0 rfl) ?_
    refine va_get (pc := 10) (ci := 3) (v := .long y1) (C := RX3) (T := TX3) (N := 10) hx hb hts iX3 hown hK hP 0 rfl rfl 8 (by decide) (hts _ tw_358) (fun _ h9 => h9) rfl dX3_leastOfAll_10 ?_
    exact hret y1 ((fun _ => 0), (fun k => [f1, f2, f3, f4].getD k (fun _ => 0)), (fun k => [g0, g1, g2].getD k (fun _ => 0)), (fun k => [x8].getD k 0), (fun k => [y1].getD k 0)) dX3_leastOfAll_13 ⟨(show ((((-9223372036854775808) ≤ y1.toInt ∧ y1.toInt ≤ 9223372036854775807) ∧ y1.toInt < 0) ∨ (((-9223372036854775808) ≤ y1.toInt ∧ y1.toInt ≤ 2147483647) ∧ y1.toInt < 0) ∨ (y1.toInt = y1.toInt ∧ y1.toInt ≥ 0)) from (by first | exact (om_1301 c_1) | ((first | omega | (unfold zBd at *; omega))))), (show (0 ≤ (x8 : Int32).toInt ∧ (x8 : Int32).toInt ≤ 4) from h_x8), hf_f3, hf_f4⟩ (g_psub (wc := (zS_38 cB cC cI cJ a0 a2 a3 a4 a5 a6 a7 y0 x0 y1 y2 a1 a8 a9 a10 x1 x2 x3 x4 x5 x6 x7 a2 a11 a12 a13 a14 a15 a16 a17 x8 a8 a18 a18 f0 a11 g0 a13 g1 a12 g2 a14 f1 a15 f2 a16 f3 a17 f4)) hP [0, 1, 2, 3, 4, 5, 6, 7, 8, 9, 10, 11] rfl) (hD.sub (ws' := (zS_38 cB cC cI cJ a0 a2 a3 a4 a5 a6 a7 y0 x0 y1 y2 a1 a8 a9 a10 x1 x2 x3 x4 x5 x6 x7 a2 a11 a12 a13 a14 a15 a16 a17 x8 a8 a18 a18 f0 a11 g0 a13 g1 a12 g2 a14 f1 a15 f2 a16 f3 a17 f4)) [0, 1, 2, 3, 4, 5, 6, 7, 8, 9, 10, 11] (by decide) rfl) hS
theorem om_1302 {a : Int} (h0 : (a = (-1))) : (((a = (-1)))) := by omega
set_option maxHeartbeats 4000000 in
set_option maxRecDepth 100000 in
theorem k_X3_refuse (l : Launch) (D : va_G) (cB cC cI cJ : ClassId) (sz : Nat) (a0 a1 a2 a3 a4 a5 a6 : Nat) (x0 : Int32) (y0 y1 y2 : Int64) (h_x0 : zBd x0.toInt 0 1) : Met l yX3_refuse (.code yX3_refuse cX3_refuse 1 (some .long) :: lw_gd) ({ frames := 0, cells := 0, slots := 0, locals := 0 }) (gPre D [(cB, .byte), (cC, .char), (cI, .int), (cJ, .long)] [.ref a0] (zS_77 cB cC cI cJ a0 a1 a2 a3 a4 a5 a6 y0 x0 y1 y2) sz) (va_Ql (fun r u => ((r.toInt = (-1)))) (gB D (va_A (zS_77 cB cC cI cJ a0 a1 a2 a3 a4 a5 a6 y0 x0 y1 y2) sz) (fun u : gEx => (zS_77 cB cC cI cJ a0 a1 a2 a3 a4 a5 a6 y0 0 y1 y2))) (va_A (zS_77 cB cC cI cJ a0 a1 a2 a3 a4 a5 a6 y0 x0 y1 y2) sz)) 0 0 (va_A (zS_77 cB cC cI cJ a0 a1 a2 a3 a4 a5 a6 y0 x0 y1 y2) sz) := by
  refine gOf_l (by decide +kernel) (Nat.le_of_ble_eq_true rfl) ?_
  intro p e s m args below meth c ls A Q hx hb hts hown hml hN hK hP hD hA hl hret
  replace hown : s.vm.findClass RX3 = some m.cls := hown
  have hS : va_S A s.heap s.heap [] := va_S.rf
  replace hP : va_P D gcl (zS_77 cB cC cI cJ a0 a1 a2 a3 a4 a5 a6 y0 x0 y1 y2) s.heap := hP
  replace hl : lv_has ls 1 [(0, .ref a0)] := hl
  have ry0 := n_rngL y0
  have ry1 := n_rngL y1
  have ry2 := n_rngL y2
  refine lv_aload_n (pc := 0) hx hb dX3_refuse_0 rfl (lv_at hl 0 rfl) ?_
  refine lv_iconst (pc := 1) (v := 0) hx hb dX3_refuse_1 (by decide) ?_
  refine va_put (pc := 2) (ci := 3) (v := .int 0) (ty := .boolean) (C := RX3) (T := TX3) (N := 10) hx hb hts iX3 tyX3 tyX3_ok nmX3 hown hK hP hD hS 0 rfl rfl 7 (by decide) (hts _ tw_356) (fun _ h9 => h9) rfl (by decide +kernel) (by decide +kernel) (by decide +kernel) (Nat.le_of_ble_eq_true rfl) dX3_refuse_2 (fun H locs hP hD hS => ?_)
  replace hP : va_P D gcl (zS_77 cB cC cI cJ a0 a1 a2 a3 a4 a5 a6 y0 0 y1 y2) H := hP
  replace hD : va_D A (zS_77 cB cC cI cJ a0 a1 a2 a3 a4 a5 a6 y0 0 y1 y2) := hD
  refine lv_ldc2 (pc := 5) hx hb hown (hts _ tw_347) dX3_refuse_5 ?_
  exact hret (-1) ((fun _ => 0), (fun _ => (fun _ => 0)), (fun _ => (fun _ => 0)), (fun _ => 0), (fun _ => 0)) dX3_refuse_8 (show ((((-1) : Int64).toInt = (-1))) from (by first | exact (om_1302 tL_m1) | (have k9 := tL_m1; (first | omega | (unfold zBd at *; omega))))) (g_psub (wc := (zS_77 cB cC cI cJ a0 a1 a2 a3 a4 a5 a6 y0 0 y1 y2)) hP [0] rfl) (hD.sub (ws' := (zS_77 cB cC cI cJ a0 a1 a2 a3 a4 a5 a6 y0 0 y1 y2)) [0] (by decide) rfl) hS
theorem om_1303 {a b c d e f g : Int} (h0 : ((-9223372036854775808) ≤ a)) (h1 : (b = 1)) (h2 : ((((-9223372036854775808) ≤ a ∧ a ≤ 9223372036854775807) ∧ ((-1) ≤ c ∧ c ≤ 5)) ∨ (((-9223372036854775808) ≤ a ∧ a ≤ 9223372036854775807) ∧ ((-1) ≤ c ∧ c ≤ 5) ∧ ((-9223372036854775808) ≤ d ∧ d ≤ 9223372036854775807)))) (h3 : (a ≤ e)) (h4 : (e = 1000 * f)) (h5 : (f = g)) (h6 : (g ≤ 2147483647)) : (((((-9223372036854775808) ≤ a ∧ a ≤ 2147483647000) ∧ b = 1) ∨ (((-1) ≤ a ∧ a ≤ (-1)) ∧ b = 0))) := by omega
theorem om_1304 {a b : Int} (h0 : (a = (-1))) (h1 : (b = 0)) : (((((-9223372036854775808) ≤ a ∧ a ≤ 2147483647000) ∧ b = 1) ∨ (((-1) ≤ a ∧ a ≤ (-1)) ∧ b = 0))) := by omega
theorem om_1305 {a : Int} (h0 : (a ≤ 1596)) : (¬ (a ≥ 1600)) := by omega
theorem om_1306 {a b : Int} (h0 : (a = b + 1)) (h1 : (b ≤ 1596)) : (¬ (a ≥ 1600)) := by omega
theorem om_1307 {a b c : Int} (h0 : (a = b + 1)) (h1 : (b = c + 1)) (h2 : (c ≤ 1596)) : (¬ (a ≥ 1600)) := by omega
theorem om_1308 {a b c d : Int} (h0 : (a = b + 1)) (h1 : (b = c + 1)) (h2 : (c = d + 1)) (h3 : (d ≤ 1596)) : (¬ (a ≥ 1600)) := by omega
theorem om_1309 {a b c d e : Int} (h0 : (a < 1600)) (h1 : (a ≤ 1596)) (h2 : (b = c + 1)) (h3 : (d = a + 1)) (h4 : (c = e + 1)) (h5 : (e = d + 1)) : (((24 ≥ 0 ∧ a < 1600 ∧ 16 ≥ 0 ∧ (a) + (1) < 1600 ∧ 8 ≥ 0 ∧ ((a) + (1)) + (1) < 1600 ∧ 0 ≥ 0 ∧ (((a) + (1)) + (1)) + (1) < 1600 ∧ (-8) < 0 ∧ b = ((((a) + (1)) + (1)) + (1)) + (1)))) := by omega
set_option maxHeartbeats 4000000 in
set_option maxRecDepth 100000 in
theorem k_X9_addNumber_E (l : Launch) (D : va_G) (cB cC cI cJ : ClassId) (sz : Nat) (a0 a1 : Nat) (x0 x1 : Int32) (f0 : Nat → Int32) (h_x1 : zBd x1.toInt 0 1600) (hg__l : x1.toInt ≤ 1596) : Met l yX9_addNumber (.code yX9_addNumber cX9_addNumber 3 none :: lw_gd) ({ frames := 0, cells := 0, slots := 0, locals := 0 }) (gPre D [(cB, .byte), (cC, .char), (cI, .int), (cJ, .long)] [.ref a0, .int x0] [(a0, .inr (9, [.ref a1, .int x1])), (a1, .inl (cB, 1600, .inl f0))] sz) (va_Qv (fun u => ((24 ≥ 0 ∧ x1.toInt < 1600 ∧ 16 ≥ 0 ∧ (x1.toInt) + (1) < 1600 ∧ 8 ≥ 0 ∧ ((x1.toInt) + (1)) + (1) < 1600 ∧ 0 ≥ 0 ∧ (((x1.toInt) + (1)) + (1)) + (1) < 1600 ∧ (-8) < 0 ∧ (u.2.2.2.1 0).toInt = ((((x1.toInt) + (1)) + (1)) + (1)) + (1))) ∧ (0 ≤ (u.2.2.2.1 0).toInt ∧ (u.2.2.2.1 0).toInt ≤ 1600) ∧ (fdQ9 (taub (u.2.1 0) (u.2.2.2.1 0).toInt) (taub f0 x1.toInt) x1.toInt (b4 x0) 4)) (gB D (va_A [(a0, .inr (9, [.ref a1, .int x1])), (a1, .inl (cB, 1600, .inl f0))] sz) (fun u : gEx => [(a0, .inr (9, [.ref a1, .int (u.2.2.2.1 0)])), (a1, .inl (cB, 1600, .inl (u.2.1 0)))])) (va_A [(a0, .inr (9, [.ref a1, .int x1])), (a1, .inl (cB, 1600, .inl f0))] sz)) 0 0 (va_A [(a0, .inr (9, [.ref a1, .int x1])), (a1, .inl (cB, 1600, .inl f0))] sz) := by
  refine gOf_v (by decide +kernel) (Nat.le_of_ble_eq_true rfl) ?_
  intro p e s m args below meth c ls A Q hx hb hts hown hml hN hK hP hD hA hl hret
  replace hown : s.vm.findClass RX9 = some m.cls := hown
  have hS : va_S A s.heap s.heap [] := va_S.rf
  replace hP : va_P D gcl [(a0, .inr (9, [.ref a1, .int x1])), (a1, .inl (cB, 1600, .inl f0))] s.heap := hP
  replace hl : lv_has ls 3 [(0, .ref a0), (1, .int x0)] := hl
  have rx0 : zBd x0.toInt (-2147483648) 2147483647 := n_rng x0
  refine lv_bipush (pc := 0) (v := 24) hx hb dX9_addNumber_0 (by decide) ?_
  have hh_1 : fdQ9 (taub f0 x1.toInt) (taub f0 x1.toInt) x1.toInt (b4 x0) 0 := fd_0
  refine lv_istore_n (pc := 2) (lv' := [(2, .int 24), (0, .ref a0), (1, .int x0)]) hx hb dX9_addNumber_2 rfl hl (by decide) rfl (fun ls hl => ?_)
  refine lv_iload_n (pc := 3) hx hb dX9_addNumber_3 rfl (lv_at hl 0 rfl) ?_
  refine b_if_lt (pc := 4) (tgt := 46) hx hb tI_24  dX9_addNumber_4 (by decide) (fun c_2 => absurd c_2 (by first | exact (om_1003) | ((first | omega | (unfold zBd at *; omega))))) (fun c_2 => ?_)
  refine lv_aload_n (pc := 7) hx hb dX9_addNumber_7 rfl (lv_at hl 1 rfl) ?_
  refine va_get (pc := 8) (ci := 9) (v := .int x1) (C := RX9) (T := TX9) (N := 2) hx hb hts iX9 hown hK hP 0 rfl rfl 1 (by decide) (hts _ tw_43) (fun _ h9 => h9) rfl dX9_addNumber_8 ?_
  have bd_h_x1 : 0 ≤ x1.toInt ∧ x1.toInt ≤ 1600 := h_x1
  refine lv_sipush (pc := 11) (v := 1600) hx hb dX9_addNumber_11 (by decide) ?_
  refine b_icmp_ge (pc := 14) (tgt := 46) hx hb rfl tI_1600  dX9_addNumber_14 (by decide) (fun c_3 => absurd c_3 (by first | exact (om_1305 hg__l) | ((first | omega | (unfold zBd at *; omega))))) (fun c_3 => ?_)
  refine lv_aload_n (pc := 17) hx hb dX9_addNumber_17 rfl (lv_at hl 1 rfl) ?_
  refine va_get (pc := 18) (ci := 9) (v := .ref a1) (C := RX9) (T := TX9) (N := 2) hx hb hts iX9 hown hK hP 0 rfl rfl 0 (by decide) (hts _ tw_42) (fun _ h9 => h9) rfl dX9_addNumber_18 ?_
  refine lv_aload_n (pc := 21) hx hb dX9_addNumber_21 rfl (lv_at hl 1 rfl) ?_
  refine va_get (pc := 22) (ci := 9) (v := .int x1) (C := RX9) (T := TX9) (N := 2) hx hb hts iX9 hown hK hP 0 rfl rfl 1 (by decide) (hts _ tw_43) (fun _ h9 => h9) rfl dX9_addNumber_22 ?_
  refine lv_iload_n (pc := 25) hx hb dX9_addNumber_25 rfl (lv_at hl 2 rfl) ?_
  refine lv_iload_n (pc := 26) hx hb dX9_addNumber_26 rfl (lv_at hl 0 rfl) ?_
  refine lv_ishr (pc := 27) hx hb dX9_addNumber_27 ?_
  refine lv_topi (fun x_4 ex_4 => ?_)
  have rx_4 : zBd x_4.toInt (-2147483648) 2147483647 := n_rng x_4
  refine lv_i2b (pc := 28) hx hb dX9_addNumber_28 rfl ?_
  refine lv_topi (fun x_5 ex_5 => ?_)
  have rx_5 : zBd x_5.toInt (-2147483648) 2147483647 := n_rng x_5
  refine e_bastore (pc := 29) hx hb hK hP hD hS 1 0 rfl rfl (n_in rfl (by first | exact (om_0 h_x1.1) | ((first | omega | (unfold zBd at *; omega)))) (by first | exact (om_130 c_3) | ((first | omega | (unfold zBd at *; omega))))) dX9_addNumber_29 (fun f_6 ef_6 H locs hP hD hS => ?_)
  replace hP : va_P D gcl [(a0, .inr (9, [.ref a1, .int x1])), (a1, .inl (cB, 1600, .inl f_6))] H := hP
  replace hD : va_D A [(a0, .inr (9, [.ref a1, .int x1])), (a1, .inl (cB, 1600, .inl f_6))] := hD
  refine lv_aload_n (pc := 30) hx hb dX9_addNumber_30 rfl (lv_at hl 1 rfl) ?_
  refine lv_dup (pc := 31) hx hb dX9_addNumber_31 rfl ?_
  refine va_get (pc := 32) (ci := 9) (v := .int x1) (C := RX9) (T := TX9) (N := 2) hx hb hts iX9 hown hK hP 0 rfl rfl 1 (by decide) (hts _ tw_43) (fun _ h9 => h9) rfl dX9_addNumber_32 ?_
  refine lv_iconst (pc := 35) (v := 1) hx hb dX9_addNumber_35 (by decide) ?_
  refine b_iadd (pc := 36) hx hb rfl tI_1 (by first | exact (om_2 h_x1.1) | ((first | omega | (unfold zBd at *; omega)))) (by first | exact (om_131 c_3) | ((first | omega | (unfold zBd at *; omega)))) dX9_addNumber_36 (fun x_7 ex_7 => ?_)
  refine va_put (pc := 37) (ci := 9) (v := .int x_7) (ty := .int) (C := RX9) (T := TX9) (N := 2) hx hb hts iX9 tyX9 tyX9_ok nmX9 hown hK hP hD hS 0 rfl rfl 1 (by decide) (hts _ tw_43) (fun _ h9 => h9) rfl (by decide +kernel) rfl rfl (Nat.le_of_ble_eq_true rfl) dX9_addNumber_37 (fun H locs hP hD hS => ?_)
  replace hP : va_P D gcl [(a0, .inr (9, [.ref a1, .int x_7])), (a1, .inl (cB, 1600, .inl f_6))] H := hP
  replace hD : va_D A [(a0, .inr (9, [.ref a1, .int x_7])), (a1, .inl (cB, 1600, .inl f_6))] := hD
  have hh_8 : fdQ9 (taub f_6 x_7.toInt) (taub f0 x1.toInt) x1.toInt (b4 x0) 1 := fdb_step (k := 0) hh_1 (by first | exact (om_0 h_x1.1) | ((first | omega | (unfold zBd at *; omega)))) (by (first | omega | (unfold zBd at *; omega))) (by decide) (by decide) (e_at ef_6 (by (first | omega | (unfold zBd at *; omega)))) (by (first | omega | (unfold zBd at *; omega))) (bz ex_4 ex_5) rfl
  refine lv_iinc (pc := 40) (v := 16) (lv' := [(2, .int 16), (0, .ref a0), (1, .int x0)]) hx hb dX9_addNumber_40 hl (k := 0) rfl (by decide +kernel) (by decide) rfl (fun ls hl => ?_)
  refine lv_goto (pc := 43) (tgt := 3) hx hb dX9_addNumber_43 (by decide) ?_
  refine lv_iload_n (pc := 3) hx hb dX9_addNumber_3 rfl (lv_at hl 0 rfl) ?_
  refine b_if_lt (pc := 4) (tgt := 46) hx hb tI_16  dX9_addNumber_4 (by decide) (fun c_9 => absurd c_9 (by first | exact (om_1004) | ((first | omega | (unfold zBd at *; omega))))) (fun c_9 => ?_)
  refine lv_aload_n (pc := 7) hx hb dX9_addNumber_7 rfl (lv_at hl 1 rfl) ?_
  refine va_get (pc := 8) (ci := 9) (v := .int x_7) (C := RX9) (T := TX9) (N := 2) hx hb hts iX9 hown hK hP 0 rfl rfl 1 (by decide) (hts _ tw_43) (fun _ h9 => h9) rfl dX9_addNumber_8 ?_
  refine lv_sipush (pc := 11) (v := 1600) hx hb dX9_addNumber_11 (by decide) ?_
  refine b_icmp_ge (pc := 14) (tgt := 46) hx hb rfl tI_1600  dX9_addNumber_14 (by decide) (fun c_10 => absurd c_10 (by first | exact (om_1306 ex_7 hg__l) | ((first | omega | (unfold zBd at *; omega))))) (fun c_10 => ?_)
  refine lv_aload_n (pc := 17) hx hb dX9_addNumber_17 rfl (lv_at hl 1 rfl) ?_
  refine va_get (pc := 18) (ci := 9) (v := .ref a1) (C := RX9) (T := TX9) (N := 2) hx hb hts iX9 hown hK hP 0 rfl rfl 0 (by decide) (hts _ tw_42) (fun _ h9 => h9) rfl dX9_addNumber_18 ?_
  refine lv_aload_n (pc := 21) hx hb dX9_addNumber_21 rfl (lv_at hl 1 rfl) ?_
  refine va_get (pc := 22) (ci := 9) (v := .int x_7) (C := RX9) (T := TX9) (N := 2) hx hb hts iX9 hown hK hP 0 rfl rfl 1 (by decide) (hts _ tw_43) (fun _ h9 => h9) rfl dX9_addNumber_22 ?_
  refine lv_iload_n (pc := 25) hx hb dX9_addNumber_25 rfl (lv_at hl 2 rfl) ?_
  refine lv_iload_n (pc := 26) hx hb dX9_addNumber_26 rfl (lv_at hl 0 rfl) ?_
  refine lv_ishr (pc := 27) hx hb dX9_addNumber_27 ?_
  refine lv_topi (fun x_11 ex_11 => ?_)
  have rx_11 : zBd x_11.toInt (-2147483648) 2147483647 := n_rng x_11
  refine lv_i2b (pc := 28) hx hb dX9_addNumber_28 rfl ?_
  refine lv_topi (fun x_12 ex_12 => ?_)
  have rx_12 : zBd x_12.toInt (-2147483648) 2147483647 := n_rng x_12
  refine e_bastore (pc := 29) hx hb hK hP hD hS 1 0 rfl rfl (n_in rfl (by first | exact (om_917 ex_7 h_x1.1) | ((first | omega | (unfold zBd at *; omega)))) (by first | exact (om_130 c_10) | ((first | omega | (unfold zBd at *; omega))))) dX9_addNumber_29 (fun f_13 ef_13 H locs hP hD hS => ?_)
  replace hP : va_P D gcl [(a0, .inr (9, [.ref a1, .int x_7])), (a1, .inl (cB, 1600, .inl f_13))] H := hP
  replace hD : va_D A [(a0, .inr (9, [.ref a1, .int x_7])), (a1, .inl (cB, 1600, .inl f_13))] := hD
  refine lv_aload_n (pc := 30) hx hb dX9_addNumber_30 rfl (lv_at hl 1 rfl) ?_
  refine lv_dup (pc := 31) hx hb dX9_addNumber_31 rfl ?_
  refine va_get (pc := 32) (ci := 9) (v := .int x_7) (C := RX9) (T := TX9) (N := 2) hx hb hts iX9 hown hK hP 0 rfl rfl 1 (by decide) (hts _ tw_43) (fun _ h9 => h9) rfl dX9_addNumber_32 ?_
  refine lv_iconst (pc := 35) (v := 1) hx hb dX9_addNumber_35 (by decide) ?_
  refine b_iadd (pc := 36) hx hb rfl tI_1 (by first | exact (om_1006 ex_7 h_x1.1) | ((first | omega | (unfold zBd at *; omega)))) (by first | exact (om_131 c_10) | ((first | omega | (unfold zBd at *; omega)))) dX9_addNumber_36 (fun x_14 ex_14 => ?_)
  refine va_put (pc := 37) (ci := 9) (v := .int x_14) (ty := .int) (C := RX9) (T := TX9) (N := 2) hx hb hts iX9 tyX9 tyX9_ok nmX9 hown hK hP hD hS 0 rfl rfl 1 (by decide) (hts _ tw_43) (fun _ h9 => h9) rfl (by decide +kernel) rfl rfl (Nat.le_of_ble_eq_true rfl) dX9_addNumber_37 (fun H locs hP hD hS => ?_)
  replace hP : va_P D gcl [(a0, .inr (9, [.ref a1, .int x_14])), (a1, .inl (cB, 1600, .inl f_13))] H := hP
  replace hD : va_D A [(a0, .inr (9, [.ref a1, .int x_14])), (a1, .inl (cB, 1600, .inl f_13))] := hD
  have hh_15 : fdQ9 (taub f_13 x_14.toInt) (taub f0 x1.toInt) x1.toInt (b4 x0) 2 := fdb_step (k := 1) hh_8 (by first | exact (om_0 h_x1.1) | ((first | omega | (unfold zBd at *; omega)))) (by (first | omega | (unfold zBd at *; omega))) (by decide) (by decide) (e_at ef_13 (by (first | omega | (unfold zBd at *; omega)))) (by (first | omega | (unfold zBd at *; omega))) (bz ex_11 ex_12) rfl
  refine lv_iinc (pc := 40) (v := 8) (lv' := [(2, .int 8), (0, .ref a0), (1, .int x0)]) hx hb dX9_addNumber_40 hl (k := 0) rfl (by decide +kernel) (by decide) rfl (fun ls hl => ?_)
  refine lv_goto (pc := 43) (tgt := 3) hx hb dX9_addNumber_43 (by decide) ?_
  refine lv_iload_n (pc := 3) hx hb dX9_addNumber_3 rfl (lv_at hl 0 rfl) ?_
  refine b_if_lt (pc := 4) (tgt := 46) hx hb tI_8  dX9_addNumber_4 (by decide) (fun c_16 => absurd c_16 (by first | exact (om_1007) | ((first | omega | (unfold zBd at *; omega))))) (fun c_16 => ?_)
  refine lv_aload_n (pc := 7) hx hb dX9_addNumber_7 rfl (lv_at hl 1 rfl) ?_
  refine va_get (pc := 8) (ci := 9) (v := .int x_14) (C := RX9) (T := TX9) (N := 2) hx hb hts iX9 hown hK hP 0 rfl rfl 1 (by decide) (hts _ tw_43) (fun _ h9 => h9) rfl dX9_addNumber_8 ?_
  refine lv_sipush (pc := 11) (v := 1600) hx hb dX9_addNumber_11 (by decide) ?_
  refine b_icmp_ge (pc := 14) (tgt := 46) hx hb rfl tI_1600  dX9_addNumber_14 (by decide) (fun c_17 => absurd c_17 (by first | exact (om_1307 ex_14 ex_7 hg__l) | ((first | omega | (unfold zBd at *; omega))))) (fun c_17 => ?_)
  refine lv_aload_n (pc := 17) hx hb dX9_addNumber_17 rfl (lv_at hl 1 rfl) ?_
  refine va_get (pc := 18) (ci := 9) (v := .ref a1) (C := RX9) (T := TX9) (N := 2) hx hb hts iX9 hown hK hP 0 rfl rfl 0 (by decide) (hts _ tw_42) (fun _ h9 => h9) rfl dX9_addNumber_18 ?_
  refine lv_aload_n (pc := 21) hx hb dX9_addNumber_21 rfl (lv_at hl 1 rfl) ?_
  refine va_get (pc := 22) (ci := 9) (v := .int x_14) (C := RX9) (T := TX9) (N := 2) hx hb hts iX9 hown hK hP 0 rfl rfl 1 (by decide) (hts _ tw_43) (fun _ h9 => h9) rfl dX9_addNumber_22 ?_
  refine lv_iload_n (pc := 25) hx hb dX9_addNumber_25 rfl (lv_at hl 2 rfl) ?_
  refine lv_iload_n (pc := 26) hx hb dX9_addNumber_26 rfl (lv_at hl 0 rfl) ?_
  refine lv_ishr (pc := 27) hx hb dX9_addNumber_27 ?_
  refine lv_topi (fun x_18 ex_18 => ?_)
  have rx_18 : zBd x_18.toInt (-2147483648) 2147483647 := n_rng x_18
  refine lv_i2b (pc := 28) hx hb dX9_addNumber_28 rfl ?_
  refine lv_topi (fun x_19 ex_19 => ?_)
  have rx_19 : zBd x_19.toInt (-2147483648) 2147483647 := n_rng x_19
  refine e_bastore (pc := 29) hx hb hK hP hD hS 1 0 rfl rfl (n_in rfl (by first | exact (om_1008 ex_14 ex_7 h_x1.1) | ((first | omega | (unfold zBd at *; omega)))) (by first | exact (om_130 c_17) | ((first | omega | (unfold zBd at *; omega))))) dX9_addNumber_29 (fun f_20 ef_20 H locs hP hD hS => ?_)
  replace hP : va_P D gcl [(a0, .inr (9, [.ref a1, .int x_14])), (a1, .inl (cB, 1600, .inl f_20))] H := hP
  replace hD : va_D A [(a0, .inr (9, [.ref a1, .int x_14])), (a1, .inl (cB, 1600, .inl f_20))] := hD
  refine lv_aload_n (pc := 30) hx hb dX9_addNumber_30 rfl (lv_at hl 1 rfl) ?_
  refine lv_dup (pc := 31) hx hb dX9_addNumber_31 rfl ?_
  refine va_get (pc := 32) (ci := 9) (v := .int x_14) (C := RX9) (T := TX9) (N := 2) hx hb hts iX9 hown hK hP 0 rfl rfl 1 (by decide) (hts _ tw_43) (fun _ h9 => h9) rfl dX9_addNumber_32 ?_
  refine lv_iconst (pc := 35) (v := 1) hx hb dX9_addNumber_35 (by decide) ?_
  refine b_iadd (pc := 36) hx hb rfl tI_1 (by first | exact (om_1009 ex_14 ex_7 h_x1.1) | ((first | omega | (unfold zBd at *; omega)))) (by first | exact (om_131 c_17) | ((first | omega | (unfold zBd at *; omega)))) dX9_addNumber_36 (fun x_21 ex_21 => ?_)
  refine va_put (pc := 37) (ci := 9) (v := .int x_21) (ty := .int) (C := RX9) (T := TX9) (N := 2) hx hb hts iX9 tyX9 tyX9_ok nmX9 hown hK hP hD hS 0 rfl rfl 1 (by decide) (hts _ tw_43) (fun _ h9 => h9) rfl (by decide +kernel) rfl rfl (Nat.le_of_ble_eq_true rfl) dX9_addNumber_37 (fun H locs hP hD hS => ?_)
  replace hP : va_P D gcl [(a0, .inr (9, [.ref a1, .int x_21])), (a1, .inl (cB, 1600, .inl f_20))] H := hP
  replace hD : va_D A [(a0, .inr (9, [.ref a1, .int x_21])), (a1, .inl (cB, 1600, .inl f_20))] := hD
  have hh_22 : fdQ9 (taub f_20 x_21.toInt) (taub f0 x1.toInt) x1.toInt (b4 x0) 3 := fdb_step (k := 2) hh_15 (by first | exact (om_0 h_x1.1) | ((first | omega | (unfold zBd at *; omega)))) (by (first | omega | (unfold zBd at *; omega))) (by decide) (by decide) (e_at ef_20 (by (first | omega | (unfold zBd at *; omega)))) (by (first | omega | (unfold zBd at *; omega))) (bz ex_18 ex_19) rfl
  refine lv_iinc (pc := 40) (v := 0) (lv' := [(2, .int 0), (0, .ref a0), (1, .int x0)]) hx hb dX9_addNumber_40 hl (k := 0) rfl (by decide +kernel) (by decide) rfl (fun ls hl => ?_)
  refine lv_goto (pc := 43) (tgt := 3) hx hb dX9_addNumber_43 (by decide) ?_
  refine lv_iload_n (pc := 3) hx hb dX9_addNumber_3 rfl (lv_at hl 0 rfl) ?_
  refine b_if_lt (pc := 4) (tgt := 46) hx hb tI_0  dX9_addNumber_4 (by decide) (fun c_23 => absurd c_23 (by first | exact (om_1010) | ((first | omega | (unfold zBd at *; omega))))) (fun c_23 => ?_)
  refine lv_aload_n (pc := 7) hx hb dX9_addNumber_7 rfl (lv_at hl 1 rfl) ?_
  refine va_get (pc := 8) (ci := 9) (v := .int x_21) (C := RX9) (T := TX9) (N := 2) hx hb hts iX9 hown hK hP 0 rfl rfl 1 (by decide) (hts _ tw_43) (fun _ h9 => h9) rfl dX9_addNumber_8 ?_
  refine lv_sipush (pc := 11) (v := 1600) hx hb dX9_addNumber_11 (by decide) ?_
  refine b_icmp_ge (pc := 14) (tgt := 46) hx hb rfl tI_1600  dX9_addNumber_14 (by decide) (fun c_24 => absurd c_24 (by first | exact (om_1308 ex_21 ex_14 ex_7 hg__l) | ((first | omega | (unfold zBd at *; omega))))) (fun c_24 => ?_)
  refine lv_aload_n (pc := 17) hx hb dX9_addNumber_17 rfl (lv_at hl 1 rfl) ?_
  refine va_get (pc := 18) (ci := 9) (v := .ref a1) (C := RX9) (T := TX9) (N := 2) hx hb hts iX9 hown hK hP 0 rfl rfl 0 (by decide) (hts _ tw_42) (fun _ h9 => h9) rfl dX9_addNumber_18 ?_
  refine lv_aload_n (pc := 21) hx hb dX9_addNumber_21 rfl (lv_at hl 1 rfl) ?_
  refine va_get (pc := 22) (ci := 9) (v := .int x_21) (C := RX9) (T := TX9) (N := 2) hx hb hts iX9 hown hK hP 0 rfl rfl 1 (by decide) (hts _ tw_43) (fun _ h9 => h9) rfl dX9_addNumber_22 ?_
  refine lv_iload_n (pc := 25) hx hb dX9_addNumber_25 rfl (lv_at hl 2 rfl) ?_
  refine lv_iload_n (pc := 26) hx hb dX9_addNumber_26 rfl (lv_at hl 0 rfl) ?_
  refine lv_ishr (pc := 27) hx hb dX9_addNumber_27 ?_
  refine lv_topi (fun x_25 ex_25 => ?_)
  have rx_25 : zBd x_25.toInt (-2147483648) 2147483647 := n_rng x_25
  refine lv_i2b (pc := 28) hx hb dX9_addNumber_28 rfl ?_
  refine lv_topi (fun x_26 ex_26 => ?_)
  have rx_26 : zBd x_26.toInt (-2147483648) 2147483647 := n_rng x_26
  refine e_bastore (pc := 29) hx hb hK hP hD hS 1 0 rfl rfl (n_in rfl (by first | exact (om_1011 ex_21 ex_14 ex_7 h_x1.1) | ((first | omega | (unfold zBd at *; omega)))) (by first | exact (om_130 c_24) | ((first | omega | (unfold zBd at *; omega))))) dX9_addNumber_29 (fun f_27 ef_27 H locs hP hD hS => ?_)
  replace hP : va_P D gcl [(a0, .inr (9, [.ref a1, .int x_21])), (a1, .inl (cB, 1600, .inl f_27))] H := hP
  replace hD : va_D A [(a0, .inr (9, [.ref a1, .int x_21])), (a1, .inl (cB, 1600, .inl f_27))] := hD
  refine lv_aload_n (pc := 30) hx hb dX9_addNumber_30 rfl (lv_at hl 1 rfl) ?_
  refine lv_dup (pc := 31) hx hb dX9_addNumber_31 rfl ?_
  refine va_get (pc := 32) (ci := 9) (v := .int x_21) (C := RX9) (T := TX9) (N := 2) hx hb hts iX9 hown hK hP 0 rfl rfl 1 (by decide) (hts _ tw_43) (fun _ h9 => h9) rfl dX9_addNumber_32 ?_
  refine lv_iconst (pc := 35) (v := 1) hx hb dX9_addNumber_35 (by decide) ?_
  refine b_iadd (pc := 36) hx hb rfl tI_1 (by first | exact (om_1012 ex_21 ex_14 ex_7 h_x1.1) | ((first | omega | (unfold zBd at *; omega)))) (by first | exact (om_131 c_24) | ((first | omega | (unfold zBd at *; omega)))) dX9_addNumber_36 (fun x_28 ex_28 => ?_)
  refine va_put (pc := 37) (ci := 9) (v := .int x_28) (ty := .int) (C := RX9) (T := TX9) (N := 2) hx hb hts iX9 tyX9 tyX9_ok nmX9 hown hK hP hD hS 0 rfl rfl 1 (by decide) (hts _ tw_43) (fun _ h9 => h9) rfl (by decide +kernel) rfl rfl (Nat.le_of_ble_eq_true rfl) dX9_addNumber_37 (fun H locs hP hD hS => ?_)
  replace hP : va_P D gcl [(a0, .inr (9, [.ref a1, .int x_28])), (a1, .inl (cB, 1600, .inl f_27))] H := hP
  replace hD : va_D A [(a0, .inr (9, [.ref a1, .int x_28])), (a1, .inl (cB, 1600, .inl f_27))] := hD
  have hh_29 : fdQ9 (taub f_27 x_28.toInt) (taub f0 x1.toInt) x1.toInt (b4 x0) 4 := fdb_step (k := 3) hh_22 (by first | exact (om_0 h_x1.1) | ((first | omega | (unfold zBd at *; omega)))) (by (first | omega | (unfold zBd at *; omega))) (by decide) (by decide) (e_at ef_27 (by (first | omega | (unfold zBd at *; omega)))) (by (first | omega | (unfold zBd at *; omega))) (bz ex_25 ex_26) rfl
  refine lv_iinc (pc := 40) (v := (-8)) (lv' := [(2, .int (-8)), (0, .ref a0), (1, .int x0)]) hx hb dX9_addNumber_40 hl (k := 0) rfl (by decide +kernel) (by decide) rfl (fun ls hl => ?_)
  refine lv_goto (pc := 43) (tgt := 3) hx hb dX9_addNumber_43 (by decide) ?_
  refine lv_iload_n (pc := 3) hx hb dX9_addNumber_3 rfl (lv_at hl 0 rfl) ?_
  refine b_if_lt (pc := 4) (tgt := 46) hx hb tI_m8  dX9_addNumber_4 (by decide) (fun c_30 => ?_) (fun c_30 => absurd c_30 (by first | exact (om_1013) | ((first | omega | (unfold zBd at *; omega)))))
  exact hret ((fun _ => 0), (fun k => [f_27].getD k (fun _ => 0)), (fun _ => (fun _ => 0)), (fun k => [x_28].getD k 0), (fun _ => 0)) dX9_addNumber_46 ⟨(show ((24 ≥ 0 ∧ x1.toInt < 1600 ∧ 16 ≥ 0 ∧ (x1.toInt) + (1) < 1600 ∧ 8 ≥ 0 ∧ ((x1.toInt) + (1)) + (1) < 1600 ∧ 0 ≥ 0 ∧ (((x1.toInt) + (1)) + (1)) + (1) < 1600 ∧ (-8) < 0 ∧ (x_28 : Int32).toInt = ((((x1.toInt) + (1)) + (1)) + (1)) + (1))) from (by first | exact (om_1309 c_3 hg__l ex_28 ex_7 ex_21 ex_14) | ((first | omega | (unfold zBd at *; omega))))), (show (0 ≤ (x_28 : Int32).toInt ∧ (x_28 : Int32).toInt ≤ 1600) from (by first | exact (om_1014 ex_28 ex_21 ex_14 ex_7 h_x1.1 c_24) | ((first | omega | (unfold zBd at *; omega))))), (show fdQ9 (taub f_27 x_28.toInt) (taub f0 x1.toInt) x1.toInt (b4 x0) 4 from hh_29)⟩ (g_psub (wc := [(a0, .inr (9, [.ref a1, .int x_28])), (a1, .inl (cB, 1600, .inl f_27))]) hP [0, 1] rfl) (hD.sub (ws' := [(a0, .inr (9, [.ref a1, .int x_28])), (a1, .inl (cB, 1600, .inl f_27))]) [0, 1] (by decide) rfl) hS
theorem om_1310 {a b c : Int} (h0 : ((b = 0 ∧ (a) + (c) > 1600) ∨ (b = 1 ∧ (a) + (c) ≤ 1600))) (h1 : (¬ b = 0)) (h2 : (c = 20)) : (a ≤ 1596) := by omega
theorem om_1311 {a b c d : Int} (h0 : ((b = 0 ∧ (c) + (d) > 1600) ∨ (b = 1 ∧ (c) + (d) ≤ 1600))) (h1 : (¬ b = 0)) (h2 : (a = ((((c) + (1)) + (1)) + (1)) + (1))) (h3 : (d = 20)) : (a ≤ 1596) := by omega
theorem om_1312 {a b c d e : Int} (h0 : ((b = 0 ∧ (c) + (d) > 1600) ∨ (b = 1 ∧ (c) + (d) ≤ 1600))) (h1 : (¬ b = 0)) (h2 : (a = ((((e) + (1)) + (1)) + (1)) + (1))) (h3 : (e = ((((c) + (1)) + (1)) + (1)) + (1))) (h4 : (d = 20)) : (a ≤ 1596) := by omega
theorem om_1313 {a b c d e f : Int} (h0 : ((b = 0 ∧ (c) + (d) > 1600) ∨ (b = 1 ∧ (c) + (d) ≤ 1600))) (h1 : (¬ b = 0)) (h2 : (a = ((((e) + (1)) + (1)) + (1)) + (1))) (h3 : (e = ((((f) + (1)) + (1)) + (1)) + (1))) (h4 : (f = ((((c) + (1)) + (1)) + (1)) + (1))) (h5 : (d = 20)) : (a ≤ 1596) := by omega
theorem om_1314 {a b c d e f g : Int} (h0 : ((b = 0 ∧ (c) + (d) > 1600) ∨ (b = 1 ∧ (c) + (d) ≤ 1600))) (h1 : (¬ b = 0)) (h2 : (a = ((((e) + (1)) + (1)) + (1)) + (1))) (h3 : (e = ((((f) + (1)) + (1)) + (1)) + (1))) (h4 : (f = ((((g) + (1)) + (1)) + (1)) + (1))) (h5 : (g = ((((c) + (1)) + (1)) + (1)) + (1))) (h6 : (d = 20)) : (a ≤ 1596) := by omega
theorem om_1315 {a b c : Int} (h0 : (a = b)) (h1 : (0 ≤ b)) (h2 : (b ≤ 1600)) : ((((0 ≤ a ∧ a ≤ 1600)) ∨ (a = (-1) ∧ b = c))) := by omega
theorem om_1316 {a b c d e f g : Int} (h0 : (a = c)) (h1 : (0 ≤ c)) (h2 : (0 ≤ b)) (h3 : (d = ((((b) + (1)) + (1)) + (1)) + (1))) (h4 : (c = ((((e) + (1)) + (1)) + (1)) + (1))) (h5 : (f = ((((d) + (1)) + (1)) + (1)) + (1))) (h6 : (e = ((((g) + (1)) + (1)) + (1)) + (1))) (h7 : (g = ((((f) + (1)) + (1)) + (1)) + (1))) (h8 : ((((e) + (1)) + (1)) + (1) < 1600)) : (((a = -1 ∧ b + 20 > 1600 ∧ c = b) ∨ (a = b + 20 ∧ b + 20 ≤ 1600 ∧ c = b + 20))) := by omega
theorem om_1317 {a b : Int} (h0 : (a = b)) (h1 : (0 ≤ b)) : (¬ a = -1) := by omega
theorem om_1318 {a b : Int} (h0 : (a = ((((b) + (1)) + (1)) + (1)) + (1))) : (a = b + 4) := by omega
theorem om_1319 {a b c : Int} (h0 : (a = ((((c) + (1)) + (1)) + (1)) + (1))) (h1 : (c = ((((b) + (1)) + (1)) + (1)) + (1))) : (a = b + 8) := by omega
theorem om_1320 {a b c d : Int} (h0 : (a = ((((c) + (1)) + (1)) + (1)) + (1))) (h1 : (d = ((((b) + (1)) + (1)) + (1)) + (1))) (h2 : (c = ((((d) + (1)) + (1)) + (1)) + (1))) : (a = b + 12) := by omega
theorem om_1321 {a b c d e : Int} (h0 : (a = ((((c) + (1)) + (1)) + (1)) + (1))) (h1 : (d = ((((b) + (1)) + (1)) + (1)) + (1))) (h2 : (c = ((((e) + (1)) + (1)) + (1)) + (1))) (h3 : (e = ((((d) + (1)) + (1)) + (1)) + (1))) : (a = b + 16) := by omega
theorem om_1322 {a b : Int} (h0 : (a = (-1))) : ((((0 ≤ a ∧ a ≤ 1600)) ∨ (a = (-1) ∧ b = b))) := by omega
theorem om_1323 {a b c d : Int} (h0 : (a = (-1))) (h1 : ((c = 0 ∧ (b) + (d) > 1600) ∨ (c = 1 ∧ (b) + (d) ≤ 1600))) (h2 : (d = 20)) (h3 : (c = 0)) (h4 : (0 ≤ b)) : (((a = -1 ∧ b + 20 > 1600 ∧ b = b) ∨ (a = b + 20 ∧ b + 20 ≤ 1600 ∧ b = b + 20))) := by omega
set_option maxHeartbeats 4000000 in
set_option maxRecDepth 100000 in
theorem k_X11_feed (l : Launch) (D : va_G) (cB cC cI cJ : ClassId) (sz : Nat) (a0 a1 a2 a3 a4 a5 a6 a7 a8 a9 a10 a11 a12 a13 a14 : Nat) (x0 x1 x2 x3 x4 x5 x6 : Int32) (f0 : Nat → Int32) (h_x5 : zBd x5.toInt 0 14) (h_x6 : zBd x6.toInt 0 1600) : Met l yX11_feed (.code yX11_feed cX11_feed 6 (some .int) :: lw_gd) ({ frames := 1, cells := 0, slots := 0, locals := 22 }) (gPre D [(cB, .byte), (cC, .char), (cI, .int), (cJ, .long)] [.ref a0, .int x0, .int x1, .int x2, .int x3, .int x4] (zS_80 cB cC cI cJ a0 a1 a2 a3 a4 a5 a6 a7 a8 a9 a10 x5 a11 a12 a13 a2 a14 x6 a14 f0) sz) (va_Qi (fun r u => (((0 ≤ r.toInt ∧ r.toInt ≤ 1600)) ∨ (r.toInt = (-1) ∧ (u.2.2.2.1 0).toInt = x6.toInt)) ∧ (0 ≤ (u.2.2.2.1 0).toInt ∧ (u.2.2.2.1 0).toInt ≤ 1600) ∧ ((r.toInt = -1 ∧ x6.toInt + 20 > 1600 ∧ (u.2.2.2.1 0).toInt = x6.toInt) ∨ (r.toInt = x6.toInt + 20 ∧ x6.toInt + 20 ≤ 1600 ∧ (u.2.2.2.1 0).toInt = x6.toInt + 20)) ∧ (fqQ r.toInt (taub (u.2.1 0) (u.2.2.2.1 0).toInt) (taub f0 x6.toInt) x6.toInt (bys x0 x1 x2 x3 x4))) (gB D (va_A (zS_80 cB cC cI cJ a0 a1 a2 a3 a4 a5 a6 a7 a8 a9 a10 x5 a11 a12 a13 a2 a14 x6 a14 f0) sz) (fun u : gEx => (zS_80 cB cC cI cJ a0 a1 a2 a3 a4 a5 a6 a7 a8 a9 a10 x5 a11 a12 a13 a2 a14 (u.2.2.2.1 0) a14 (u.2.1 0)))) (va_A (zS_80 cB cC cI cJ a0 a1 a2 a3 a4 a5 a6 a7 a8 a9 a10 x5 a11 a12 a13 a2 a14 x6 a14 f0) sz)) 0 0 (va_A (zS_80 cB cC cI cJ a0 a1 a2 a3 a4 a5 a6 a7 a8 a9 a10 x5 a11 a12 a13 a2 a14 x6 a14 f0) sz) := by
  refine gOf_i (by decide +kernel) (Nat.le_of_ble_eq_true rfl) ?_
  intro p e s m args below meth c ls A Q hx hb hts hown hml hN hK hP hD hA hl hret
  replace hown : s.vm.findClass RX11 = some m.cls := hown
  have hS : va_S A s.heap s.heap [] := va_S.rf
  replace hP : va_P D gcl (zS_80 cB cC cI cJ a0 a1 a2 a3 a4 a5 a6 a7 a8 a9 a10 x5 a11 a12 a13 a2 a14 x6 a14 f0) s.heap := hP
  replace hl : lv_has ls 6 [(0, .ref a0), (1, .int x0), (2, .int x1), (3, .int x2), (4, .int x3), (5, .int x4)] := hl
  have rx0 : zBd x0.toInt (-2147483648) 2147483647 := n_rng x0
  have rx1 : zBd x1.toInt (-2147483648) 2147483647 := n_rng x1
  have rx2 : zBd x2.toInt (-2147483648) 2147483647 := n_rng x2
  have rx3 : zBd x3.toInt (-2147483648) 2147483647 := n_rng x3
  have rx4 : zBd x4.toInt (-2147483648) 2147483647 := n_rng x4
  refine lv_aload_n (pc := 0) hx hb dX11_feed_0 rfl (lv_at hl 0 rfl) ?_
  refine va_get (pc := 1) (ci := 11) (v := .ref a2) (C := RX11) (T := TX11) (N := 14) hx hb hts iX11 hown hK hP 0 rfl rfl 1 (by decide) (hts _ tw_421) (fun _ h9 => h9) rfl dX11_feed_1 ?_
  refine lv_bipush (pc := 4) (v := 20) hx hb dX11_feed_4 (by decide) ?_
  refine gd_i (pc := 6) (wc := [(a2, .inr (9, [.ref a14, .int x6]))]) hP hD hS hA [1] rfl (by decide +kernel) (fun _ => by rfl) (fun hPc hDc => va_runV (As := [.int 20]) (rest := []) ⟨hx, hb, hml, hown, hts⟩ (k_X9_hasRoom l D cB cC cI cJ _ a2 a14 20 x6 (n_c tI_20 (by decide)) h_x6) ⟨gcwB hts tw_470 tw_3 tw_467 hd_yX9_hasRoom ⟨Nat.le_of_ble_eq_true rfl, Nat.le_of_ble_eq_true rfl⟩, hts _ tw_468, hts _ tw_469⟩ ⟨gblind, va_recv hK hPc (ci := 9) (q0 := 0) rfl rfl, (gpreS hPc hK hDc hN).2⟩ rfl rfl hl.1 rfl (lv_room (Nat.le_of_ble_eq_true rfl)) dX11_feed_6 ⟨Nat.le_of_ble_eq_true rfl, Nat.le_of_ble_eq_true rfl⟩) (fun r_2 u_1 H locs hw_3 hP hD hS => ?_)
  replace hP : va_P D gcl (zS_80 cB cC cI cJ a0 a1 a2 a3 a4 a5 a6 a7 a8 a9 a10 x5 a11 a12 a13 a2 a14 x6 a14 f0) H := hP
  replace hD : va_D A (zS_80 cB cC cI cJ a0 a1 a2 a3 a4 a5 a6 a7 a8 a9 a10 x5 a11 a12 a13 a2 a14 x6 a14 f0) := hD
  have hw_4 : ((r_2.toInt = 0 ∧ (x6.toInt) + ((20 : Int32).toInt) > 1600) ∨ (r_2.toInt = 1 ∧ (x6.toInt) + ((20 : Int32).toInt) ≤ 1600)) := hw_3
  have kk0_r_2 := tI_20
  have rr_2 : zBd r_2.toInt (-2147483648) 2147483647 := n_rng r_2
  refine b_if_ne (pc := 9) (tgt := 14) hx hb rfl  dX11_feed_9 (by decide) (fun c_5 => ?_) (fun c_5 => ?_)
  ·
    refine lv_aload_n (pc := 14) hx hb dX11_feed_14 rfl (lv_at hl 0 rfl) ?_
    refine va_get (pc := 15) (ci := 11) (v := .ref a2) (C := RX11) (T := TX11) (N := 14) hx hb hts iX11 hown hK hP 0 rfl rfl 1 (by decide) (hts _ tw_421) (fun _ h9 => h9) rfl dX11_feed_15 ?_
    refine lv_iload_n (pc := 18) hx hb dX11_feed_18 rfl (lv_at hl 1 rfl) ?_
    refine gd_v (pc := 19) (wc := [(a2, .inr (9, [.ref a14, .int x6])), (a14, .inl (cB, 1600, .inl f0))]) hP hD hS hA [1, 2] rfl (by decide +kernel) (fun _ => by rfl) (fun hPc hDc => va_runV (As := [.int x0]) (rest := []) ⟨hx, hb, hml, hown, hts⟩ (k_X9_addNumber_E l D cB cC cI cJ _ a2 a14 x0 x6 f0 h_x6 (by first | exact (om_1310 hw_4 c_5 tI_20) | ((first | omega | (unfold zBd at *; omega))))) ⟨gcwB hts tw_474 tw_3 tw_471 hd_yX9_addNumber ⟨Nat.le_of_ble_eq_true rfl, Nat.le_of_ble_eq_true rfl⟩, hts _ tw_472, hts _ tw_473⟩ ⟨gblind, va_recv hK hPc (ci := 9) (q0 := 0) rfl rfl, (gpreS hPc hK hDc hN).2⟩ rfl rfl hl.1 rfl (lv_room (Nat.le_of_ble_eq_true rfl)) dX11_feed_19 ⟨Nat.le_of_ble_eq_true rfl, Nat.le_of_ble_eq_true rfl⟩) (fun u_6 H locs hw_8 hP hD hS => ?_)
    replace hP : va_P D gcl (zS_80 cB cC cI cJ a0 a1 a2 a3 a4 a5 a6 a7 a8 a9 a10 x5 a11 a12 a13 a2 a14 (u_6.2.2.2.1 0) a14 (u_6.2.1 0)) H := hP
    replace hD : va_D A (zS_80 cB cC cI cJ a0 a1 a2 a3 a4 a5 a6 a7 a8 a9 a10 x5 a11 a12 a13 a2 a14 (u_6.2.2.2.1 0) a14 (u_6.2.1 0)) := hD
    obtain ⟨hw_9, hw_10, hw_11⟩ := hw_8
    replace hw_9 : ((24 ≥ 0 ∧ x6.toInt < 1600 ∧ 16 ≥ 0 ∧ (x6.toInt) + (1) < 1600 ∧ 8 ≥ 0 ∧ ((x6.toInt) + (1)) + (1) < 1600 ∧ 0 ≥ 0 ∧ (((x6.toInt) + (1)) + (1)) + (1) < 1600 ∧ (-8) < 0 ∧ (u_6.2.2.2.1 0).toInt = ((((x6.toInt) + (1)) + (1)) + (1)) + (1))) := hw_9
    replace hw_10 : zBd (u_6.2.2.2.1 0).toInt 0 1600 := hw_10
    replace hw_11 : (fdQ9 (taub (u_6.2.1 0) (u_6.2.2.2.1 0).toInt) (taub f0 x6.toInt) x6.toInt (b4 x0) 4) := hw_11
    refine lv_aload_n (pc := 22) hx hb dX11_feed_22 rfl (lv_at hl 0 rfl) ?_
    refine va_get (pc := 23) (ci := 11) (v := .ref a2) (C := RX11) (T := TX11) (N := 14) hx hb hts iX11 hown hK hP 0 rfl rfl 1 (by decide) (hts _ tw_421) (fun _ h9 => h9) rfl dX11_feed_23 ?_
    refine lv_iload_n (pc := 26) hx hb dX11_feed_26 rfl (lv_at hl 2 rfl) ?_
    refine gd_v (pc := 27) (wc := [(a2, .inr (9, [.ref a14, .int (u_6.2.2.2.1 0)])), (a14, .inl (cB, 1600, .inl (u_6.2.1 0)))]) hP hD hS hA [1, 2] rfl (by decide +kernel) (fun _ => by rfl) (fun hPc hDc => va_runV (As := [.int x1]) (rest := []) ⟨hx, hb, hml, hown, hts⟩ (k_X9_addNumber_E l D cB cC cI cJ _ a2 a14 x1 (u_6.2.2.2.1 0) (u_6.2.1 0) hw_10 (by first | exact (om_1311 hw_4 c_5 hw_9.2.2.2.2.2.2.2.2.2 tI_20) | ((first | omega | (unfold zBd at *; omega))))) ⟨gcwB hts tw_474 tw_3 tw_471 hd_yX9_addNumber ⟨Nat.le_of_ble_eq_true rfl, Nat.le_of_ble_eq_true rfl⟩, hts _ tw_472, hts _ tw_473⟩ ⟨gblind, va_recv hK hPc (ci := 9) (q0 := 0) rfl rfl, (gpreS hPc hK hDc hN).2⟩ rfl rfl hl.1 rfl (lv_room (Nat.le_of_ble_eq_true rfl)) dX11_feed_27 ⟨Nat.le_of_ble_eq_true rfl, Nat.le_of_ble_eq_true rfl⟩) (fun u_12 H locs hw_14 hP hD hS => ?_)
    replace hP : va_P D gcl (zS_80 cB cC cI cJ a0 a1 a2 a3 a4 a5 a6 a7 a8 a9 a10 x5 a11 a12 a13 a2 a14 (u_12.2.2.2.1 0) a14 (u_12.2.1 0)) H := hP
    replace hD : va_D A (zS_80 cB cC cI cJ a0 a1 a2 a3 a4 a5 a6 a7 a8 a9 a10 x5 a11 a12 a13 a2 a14 (u_12.2.2.2.1 0) a14 (u_12.2.1 0)) := hD
    obtain ⟨hw_15, hw_16, hw_17⟩ := hw_14
    replace hw_15 : ((24 ≥ 0 ∧ (u_6.2.2.2.1 0).toInt < 1600 ∧ 16 ≥ 0 ∧ ((u_6.2.2.2.1 0).toInt) + (1) < 1600 ∧ 8 ≥ 0 ∧ (((u_6.2.2.2.1 0).toInt) + (1)) + (1) < 1600 ∧ 0 ≥ 0 ∧ ((((u_6.2.2.2.1 0).toInt) + (1)) + (1)) + (1) < 1600 ∧ (-8) < 0 ∧ (u_12.2.2.2.1 0).toInt = (((((u_6.2.2.2.1 0).toInt) + (1)) + (1)) + (1)) + (1))) := hw_15
    replace hw_16 : zBd (u_12.2.2.2.1 0).toInt 0 1600 := hw_16
    replace hw_17 : (fdQ9 (taub (u_12.2.1 0) (u_12.2.2.2.1 0).toInt) (taub (u_6.2.1 0) (u_6.2.2.2.1 0).toInt) (u_6.2.2.2.1 0).toInt (b4 x1) 4) := hw_17
    refine lv_aload_n (pc := 30) hx hb dX11_feed_30 rfl (lv_at hl 0 rfl) ?_
    refine va_get (pc := 31) (ci := 11) (v := .ref a2) (C := RX11) (T := TX11) (N := 14) hx hb hts iX11 hown hK hP 0 rfl rfl 1 (by decide) (hts _ tw_421) (fun _ h9 => h9) rfl dX11_feed_31 ?_
    refine lv_iload_n (pc := 34) hx hb dX11_feed_34 rfl (lv_at hl 3 rfl) ?_
    refine gd_v (pc := 35) (wc := [(a2, .inr (9, [.ref a14, .int (u_12.2.2.2.1 0)])), (a14, .inl (cB, 1600, .inl (u_12.2.1 0)))]) hP hD hS hA [1, 2] rfl (by decide +kernel) (fun _ => by rfl) (fun hPc hDc => va_runV (As := [.int x2]) (rest := []) ⟨hx, hb, hml, hown, hts⟩ (k_X9_addNumber_E l D cB cC cI cJ _ a2 a14 x2 (u_12.2.2.2.1 0) (u_12.2.1 0) hw_16 (by first | exact (om_1312 hw_4 c_5 hw_15.2.2.2.2.2.2.2.2.2 hw_9.2.2.2.2.2.2.2.2.2 tI_20) | ((first | omega | (unfold zBd at *; omega))))) ⟨gcwB hts tw_474 tw_3 tw_471 hd_yX9_addNumber ⟨Nat.le_of_ble_eq_true rfl, Nat.le_of_ble_eq_true rfl⟩, hts _ tw_472, hts _ tw_473⟩ ⟨gblind, va_recv hK hPc (ci := 9) (q0 := 0) rfl rfl, (gpreS hPc hK hDc hN).2⟩ rfl rfl hl.1 rfl (lv_room (Nat.le_of_ble_eq_true rfl)) dX11_feed_35 ⟨Nat.le_of_ble_eq_true rfl, Nat.le_of_ble_eq_true rfl⟩) (fun u_18 H locs hw_20 hP hD hS => ?_)
    replace hP : va_P D gcl (zS_80 cB cC cI cJ a0 a1 a2 a3 a4 a5 a6 a7 a8 a9 a10 x5 a11 a12 a13 a2 a14 (u_18.2.2.2.1 0) a14 (u_18.2.1 0)) H := hP
    replace hD : va_D A (zS_80 cB cC cI cJ a0 a1 a2 a3 a4 a5 a6 a7 a8 a9 a10 x5 a11 a12 a13 a2 a14 (u_18.2.2.2.1 0) a14 (u_18.2.1 0)) := hD
    obtain ⟨hw_21, hw_22, hw_23⟩ := hw_20
    replace hw_21 : ((24 ≥ 0 ∧ (u_12.2.2.2.1 0).toInt < 1600 ∧ 16 ≥ 0 ∧ ((u_12.2.2.2.1 0).toInt) + (1) < 1600 ∧ 8 ≥ 0 ∧ (((u_12.2.2.2.1 0).toInt) + (1)) + (1) < 1600 ∧ 0 ≥ 0 ∧ ((((u_12.2.2.2.1 0).toInt) + (1)) + (1)) + (1) < 1600 ∧ (-8) < 0 ∧ (u_18.2.2.2.1 0).toInt = (((((u_12.2.2.2.1 0).toInt) + (1)) + (1)) + (1)) + (1))) := hw_21
    replace hw_22 : zBd (u_18.2.2.2.1 0).toInt 0 1600 := hw_22
    replace hw_23 : (fdQ9 (taub (u_18.2.1 0) (u_18.2.2.2.1 0).toInt) (taub (u_12.2.1 0) (u_12.2.2.2.1 0).toInt) (u_12.2.2.2.1 0).toInt (b4 x2) 4) := hw_23
    refine lv_aload_n (pc := 38) hx hb dX11_feed_38 rfl (lv_at hl 0 rfl) ?_
    refine va_get (pc := 39) (ci := 11) (v := .ref a2) (C := RX11) (T := TX11) (N := 14) hx hb hts iX11 hown hK hP 0 rfl rfl 1 (by decide) (hts _ tw_421) (fun _ h9 => h9) rfl dX11_feed_39 ?_
    refine lv_iload (pc := 42) hx hb dX11_feed_42 (lv_at hl 4 rfl) ?_
    refine gd_v (pc := 44) (wc := [(a2, .inr (9, [.ref a14, .int (u_18.2.2.2.1 0)])), (a14, .inl (cB, 1600, .inl (u_18.2.1 0)))]) hP hD hS hA [1, 2] rfl (by decide +kernel) (fun _ => by rfl) (fun hPc hDc => va_runV (As := [.int x3]) (rest := []) ⟨hx, hb, hml, hown, hts⟩ (k_X9_addNumber_E l D cB cC cI cJ _ a2 a14 x3 (u_18.2.2.2.1 0) (u_18.2.1 0) hw_22 (by first | exact (om_1313 hw_4 c_5 hw_21.2.2.2.2.2.2.2.2.2 hw_15.2.2.2.2.2.2.2.2.2 hw_9.2.2.2.2.2.2.2.2.2 tI_20) | ((first | omega | (unfold zBd at *; omega))))) ⟨gcwB hts tw_474 tw_3 tw_471 hd_yX9_addNumber ⟨Nat.le_of_ble_eq_true rfl, Nat.le_of_ble_eq_true rfl⟩, hts _ tw_472, hts _ tw_473⟩ ⟨gblind, va_recv hK hPc (ci := 9) (q0 := 0) rfl rfl, (gpreS hPc hK hDc hN).2⟩ rfl rfl hl.1 rfl (lv_room (Nat.le_of_ble_eq_true rfl)) dX11_feed_44 ⟨Nat.le_of_ble_eq_true rfl, Nat.le_of_ble_eq_true rfl⟩) (fun u_24 H locs hw_26 hP hD hS => ?_)
    replace hP : va_P D gcl (zS_80 cB cC cI cJ a0 a1 a2 a3 a4 a5 a6 a7 a8 a9 a10 x5 a11 a12 a13 a2 a14 (u_24.2.2.2.1 0) a14 (u_24.2.1 0)) H := hP
    replace hD : va_D A (zS_80 cB cC cI cJ a0 a1 a2 a3 a4 a5 a6 a7 a8 a9 a10 x5 a11 a12 a13 a2 a14 (u_24.2.2.2.1 0) a14 (u_24.2.1 0)) := hD
    obtain ⟨hw_27, hw_28, hw_29⟩ := hw_26
    replace hw_27 : ((24 ≥ 0 ∧ (u_18.2.2.2.1 0).toInt < 1600 ∧ 16 ≥ 0 ∧ ((u_18.2.2.2.1 0).toInt) + (1) < 1600 ∧ 8 ≥ 0 ∧ (((u_18.2.2.2.1 0).toInt) + (1)) + (1) < 1600 ∧ 0 ≥ 0 ∧ ((((u_18.2.2.2.1 0).toInt) + (1)) + (1)) + (1) < 1600 ∧ (-8) < 0 ∧ (u_24.2.2.2.1 0).toInt = (((((u_18.2.2.2.1 0).toInt) + (1)) + (1)) + (1)) + (1))) := hw_27
    replace hw_28 : zBd (u_24.2.2.2.1 0).toInt 0 1600 := hw_28
    replace hw_29 : (fdQ9 (taub (u_24.2.1 0) (u_24.2.2.2.1 0).toInt) (taub (u_18.2.1 0) (u_18.2.2.2.1 0).toInt) (u_18.2.2.2.1 0).toInt (b4 x3) 4) := hw_29
    refine lv_aload_n (pc := 47) hx hb dX11_feed_47 rfl (lv_at hl 0 rfl) ?_
    refine va_get (pc := 48) (ci := 11) (v := .ref a2) (C := RX11) (T := TX11) (N := 14) hx hb hts iX11 hown hK hP 0 rfl rfl 1 (by decide) (hts _ tw_421) (fun _ h9 => h9) rfl dX11_feed_48 ?_
    refine lv_iload (pc := 51) hx hb dX11_feed_51 (lv_at hl 5 rfl) ?_
    refine gd_v (pc := 53) (wc := [(a2, .inr (9, [.ref a14, .int (u_24.2.2.2.1 0)])), (a14, .inl (cB, 1600, .inl (u_24.2.1 0)))]) hP hD hS hA [1, 2] rfl (by decide +kernel) (fun _ => by rfl) (fun hPc hDc => va_runV (As := [.int x4]) (rest := []) ⟨hx, hb, hml, hown, hts⟩ (k_X9_addNumber_E l D cB cC cI cJ _ a2 a14 x4 (u_24.2.2.2.1 0) (u_24.2.1 0) hw_28 (by first | exact (om_1314 hw_4 c_5 hw_27.2.2.2.2.2.2.2.2.2 hw_21.2.2.2.2.2.2.2.2.2 hw_15.2.2.2.2.2.2.2.2.2 hw_9.2.2.2.2.2.2.2.2.2 tI_20) | ((first | omega | (unfold zBd at *; omega))))) ⟨gcwB hts tw_474 tw_3 tw_471 hd_yX9_addNumber ⟨Nat.le_of_ble_eq_true rfl, Nat.le_of_ble_eq_true rfl⟩, hts _ tw_472, hts _ tw_473⟩ ⟨gblind, va_recv hK hPc (ci := 9) (q0 := 0) rfl rfl, (gpreS hPc hK hDc hN).2⟩ rfl rfl hl.1 rfl (lv_room (Nat.le_of_ble_eq_true rfl)) dX11_feed_53 ⟨Nat.le_of_ble_eq_true rfl, Nat.le_of_ble_eq_true rfl⟩) (fun u_30 H locs hw_32 hP hD hS => ?_)
    replace hP : va_P D gcl (zS_80 cB cC cI cJ a0 a1 a2 a3 a4 a5 a6 a7 a8 a9 a10 x5 a11 a12 a13 a2 a14 (u_30.2.2.2.1 0) a14 (u_30.2.1 0)) H := hP
    replace hD : va_D A (zS_80 cB cC cI cJ a0 a1 a2 a3 a4 a5 a6 a7 a8 a9 a10 x5 a11 a12 a13 a2 a14 (u_30.2.2.2.1 0) a14 (u_30.2.1 0)) := hD
    obtain ⟨hw_33, hw_34, hw_35⟩ := hw_32
    replace hw_33 : ((24 ≥ 0 ∧ (u_24.2.2.2.1 0).toInt < 1600 ∧ 16 ≥ 0 ∧ ((u_24.2.2.2.1 0).toInt) + (1) < 1600 ∧ 8 ≥ 0 ∧ (((u_24.2.2.2.1 0).toInt) + (1)) + (1) < 1600 ∧ 0 ≥ 0 ∧ ((((u_24.2.2.2.1 0).toInt) + (1)) + (1)) + (1) < 1600 ∧ (-8) < 0 ∧ (u_30.2.2.2.1 0).toInt = (((((u_24.2.2.2.1 0).toInt) + (1)) + (1)) + (1)) + (1))) := hw_33
    replace hw_34 : zBd (u_30.2.2.2.1 0).toInt 0 1600 := hw_34
    replace hw_35 : (fdQ9 (taub (u_30.2.1 0) (u_30.2.2.2.1 0).toInt) (taub (u_24.2.1 0) (u_24.2.2.2.1 0).toInt) (u_24.2.2.2.1 0).toInt (b4 x4) 4) := hw_35
    refine lv_aload_n (pc := 56) hx hb dX11_feed_56 rfl (lv_at hl 0 rfl) ?_
    refine va_get (pc := 57) (ci := 11) (v := .ref a2) (C := RX11) (T := TX11) (N := 14) hx hb hts iX11 hown hK hP 0 rfl rfl 1 (by decide) (hts _ tw_421) (fun _ h9 => h9) rfl dX11_feed_57 ?_
    refine gd_i (pc := 60) (wc := [(a2, .inr (9, [.ref a14, .int (u_30.2.2.2.1 0)]))]) hP hD hS hA [1] rfl (by decide +kernel) (fun _ => by rfl) (fun hPc hDc => va_runV (As := []) (rest := []) ⟨hx, hb, hml, hown, hts⟩ (k_X9_length l D cB cC cI cJ _ a2 a14 (u_30.2.2.2.1 0) hw_34) ⟨gcwB hts tw_478 tw_3 tw_475 hd_yX9_length ⟨Nat.le_of_ble_eq_true rfl, Nat.le_of_ble_eq_true rfl⟩, hts _ tw_476, hts _ tw_477⟩ ⟨gblind, va_recv hK hPc (ci := 9) (q0 := 0) rfl rfl, (gpreS hPc hK hDc hN).2⟩ rfl rfl hl.1 rfl (lv_room (Nat.le_of_ble_eq_true rfl)) dX11_feed_60 ⟨Nat.le_of_ble_eq_true rfl, Nat.le_of_ble_eq_true rfl⟩) (fun r_37 u_36 H locs hw_38 hP hD hS => ?_)
    replace hP : va_P D gcl (zS_80 cB cC cI cJ a0 a1 a2 a3 a4 a5 a6 a7 a8 a9 a10 x5 a11 a12 a13 a2 a14 (u_30.2.2.2.1 0) a14 (u_30.2.1 0)) H := hP
    replace hD : va_D A (zS_80 cB cC cI cJ a0 a1 a2 a3 a4 a5 a6 a7 a8 a9 a10 x5 a11 a12 a13 a2 a14 (u_30.2.2.2.1 0) a14 (u_30.2.1 0)) := hD
    have hw_39 : ((r_37.toInt = (u_30.2.2.2.1 0).toInt)) := hw_38
    have rr_37 : zBd r_37.toInt (-2147483648) 2147483647 := n_rng r_37
    exact hret r_37 ((fun _ => 0), (fun k => [(u_30.2.1 0)].getD k (fun _ => 0)), (fun _ => (fun _ => 0)), (fun k => [(u_30.2.2.2.1 0)].getD k 0), (fun _ => 0)) dX11_feed_63 ⟨(show (((0 ≤ r_37.toInt ∧ r_37.toInt ≤ 1600)) ∨ (r_37.toInt = (-1) ∧ ((u_30.2.2.2.1 0) : Int32).toInt = x6.toInt)) from (by first | exact (om_1315 hw_39 hw_34.1 hw_34.2) | ((first | omega | (unfold zBd at *; omega))))), (show (0 ≤ ((u_30.2.2.2.1 0) : Int32).toInt ∧ ((u_30.2.2.2.1 0) : Int32).toInt ≤ 1600) from hw_34), (show ((r_37.toInt = -1 ∧ x6.toInt + 20 > 1600 ∧ ((u_30.2.2.2.1 0) : Int32).toInt = x6.toInt) ∨ (r_37.toInt = x6.toInt + 20 ∧ x6.toInt + 20 ≤ 1600 ∧ ((u_30.2.2.2.1 0) : Int32).toInt = x6.toInt + 20)) from (by first | exact (om_1316 hw_39 hw_34.1 h_x6.1 hw_9.2.2.2.2.2.2.2.2.2 hw_33.2.2.2.2.2.2.2.2.2 hw_15.2.2.2.2.2.2.2.2.2 hw_27.2.2.2.2.2.2.2.2.2 hw_21.2.2.2.2.2.2.2.2.2 hw_33.2.2.2.2.2.2.2.1) | ((first | omega | (unfold zBd at *; omega))))), (show fqQ r_37.toInt (taub (u_30.2.1 0) (u_30.2.2.2.1 0).toInt) (taub f0 x6.toInt) x6.toInt (bys x0 x1 x2 x3 x4) from fq_yes (by first | exact (om_1317 hw_39 hw_34.1) | ((first | omega | (unfold zBd at *; omega)))) (fd_5 hw_11 hw_17 hw_23 hw_29 hw_35 (by first | exact (om_1318 hw_9.2.2.2.2.2.2.2.2.2) | ((first | omega | (unfold zBd at *; omega)))) (by first | exact (om_1319 hw_15.2.2.2.2.2.2.2.2.2 hw_9.2.2.2.2.2.2.2.2.2) | ((first | omega | (unfold zBd at *; omega)))) (by first | exact (om_1320 hw_21.2.2.2.2.2.2.2.2.2 hw_9.2.2.2.2.2.2.2.2.2 hw_15.2.2.2.2.2.2.2.2.2) | ((first | omega | (unfold zBd at *; omega)))) (by first | exact (om_1321 hw_27.2.2.2.2.2.2.2.2.2 hw_9.2.2.2.2.2.2.2.2.2 hw_21.2.2.2.2.2.2.2.2.2 hw_15.2.2.2.2.2.2.2.2.2) | ((first | omega | (unfold zBd at *; omega))))))⟩ (g_psub (wc := (zS_80 cB cC cI cJ a0 a1 a2 a3 a4 a5 a6 a7 a8 a9 a10 x5 a11 a12 a13 a2 a14 (u_30.2.2.2.1 0) a14 (u_30.2.1 0))) hP [0, 1, 2] rfl) (hD.sub (ws' := (zS_80 cB cC cI cJ a0 a1 a2 a3 a4 a5 a6 a7 a8 a9 a10 x5 a11 a12 a13 a2 a14 (u_30.2.2.2.1 0) a14 (u_30.2.1 0))) [0, 1, 2] (by decide) rfl) hS
  ·
    refine lv_iconst (pc := 12) (v := (-1)) hx hb dX11_feed_12 (by decide) ?_
    have k9 := tI_m1
    exact hret (-1) ((fun _ => 0), (fun k => [f0].getD k (fun _ => 0)), (fun _ => (fun _ => 0)), (fun k => [x6].getD k 0), (fun _ => 0)) dX11_feed_13 ⟨(show (((0 ≤ ((-1) : Int32).toInt ∧ ((-1) : Int32).toInt ≤ 1600)) ∨ (((-1) : Int32).toInt = (-1) ∧ (x6 : Int32).toInt = x6.toInt)) from (by first | exact (om_1322 tI_m1) | (have k9 := tI_m1; (first | omega | (unfold zBd at *; omega))))), (show (0 ≤ (x6 : Int32).toInt ∧ (x6 : Int32).toInt ≤ 1600) from h_x6), (show ((((-1) : Int32).toInt = -1 ∧ x6.toInt + 20 > 1600 ∧ (x6 : Int32).toInt = x6.toInt) ∨ (((-1) : Int32).toInt = x6.toInt + 20 ∧ x6.toInt + 20 ≤ 1600 ∧ (x6 : Int32).toInt = x6.toInt + 20)) from (by first | exact (om_1323 tI_m1 hw_4 tI_20 c_5 h_x6.1) | (have k9 := tI_m1; (first | omega | (unfold zBd at *; omega))))), (show fqQ ((-1) : Int32).toInt (taub f0 x6.toInt) (taub f0 x6.toInt) x6.toInt (bys x0 x1 x2 x3 x4) from fq_no (by first | exact (om_65 tI_m1) | ((first | omega | (unfold zBd at *; omega)))))⟩ (g_psub (wc := (zS_80 cB cC cI cJ a0 a1 a2 a3 a4 a5 a6 a7 a8 a9 a10 x5 a11 a12 a13 a2 a14 x6 a14 f0)) hP [0, 1, 2] rfl) (hD.sub (ws' := (zS_80 cB cC cI cJ a0 a1 a2 a3 a4 a5 a6 a7 a8 a9 a10 x5 a11 a12 a13 a2 a14 x6 a14 f0)) [0, 1, 2] (by decide) rfl) hS
theorem om_1325 {a b c : Int} (h0 : (a ≥ 0)) (h1 : (a ≤ b)) (h2 : (b = c)) (h3 : (c ≤ 1600)) : ((0 ≤ a ∧ a ≤ 1600)) := by omega
theorem om_1328 {a b c d : Int} (h0 : (a = (-1))) (h1 : (¬ b = 0)) (h2 : (0 ≤ d)) (h3 : ((-1) ≤ c)) (h4 : (¬ b = 1)) : (((a = (-1) ∧ ¬ b = 0 ∧ ¬ b = 1) ∨ (a = c ∧ ¬ b = 0 ∧ b = 1) ∨ (a = d ∧ b = 0))) := by omega
theorem om_1329 {a b c : Int} (h0 : (b = 1)) : (((a = (-1) ∧ ¬ b = 0 ∧ ¬ b = 1) ∨ (a = a ∧ ¬ b = 0 ∧ b = 1) ∨ (a = c ∧ b = 0))) := by omega
theorem om_1330 {a b c : Int} (h0 : (b = 0)) : (((a = (-1) ∧ ¬ b = 0 ∧ ¬ b = 1) ∨ (a = c ∧ ¬ b = 0 ∧ b = 1) ∨ (a = a ∧ b = 0))) := by omega
set_option maxHeartbeats 4000000 in
set_option maxRecDepth 100000 in
theorem k_X11_fault (l : Launch) (D : va_G) (cB cC cI cJ : ClassId) (sz : Nat) (a0 a1 a2 a3 a4 a5 a6 a7 a8 a9 a10 a11 a12 a13 a14 : Nat) (x0 x1 x2 x3 x4 x5 x6 x7 : Int32) (h_x1 : zBd x1.toInt 0 14) (h_x2 : zBd x2.toInt 0 1600) (h_x3 : zBd x3.toInt (-1) 255) (h_x4 : zBd x4.toInt 0 1600) (h_x6 : zBd x6.toInt 0 4) (h_x7 : zBd x7.toInt (-1) 1600) : Met l yX11_fault (.code yX11_fault cX11_fault 2 (some .int) :: lw_gd) ({ frames := 0, cells := 0, slots := 0, locals := 0 }) (gPre D [(cB, .byte), (cC, .char), (cI, .int), (cJ, .long)] [.ref a0, .int x0] (zS_153 cB cC cI cJ a0 a1 a2 a3 a4 a5 a6 a7 a8 a9 a10 x1 a11 a12 a13 a1 a2 a14 x2 x3 x4 x5 x6 x7) sz) (va_Qi (fun r u => ((r.toInt = (-1) ∧ ¬ x0.toInt = 0 ∧ ¬ x0.toInt = 1) ∨ (r.toInt = x7.toInt ∧ ¬ x0.toInt = 0 ∧ x0.toInt = 1) ∨ (r.toInt = x6.toInt ∧ x0.toInt = 0))) (gB D (va_A (zS_153 cB cC cI cJ a0 a1 a2 a3 a4 a5 a6 a7 a8 a9 a10 x1 a11 a12 a13 a1 a2 a14 x2 x3 x4 x5 x6 x7) sz) (fun u : gEx => (zS_153 cB cC cI cJ a0 a1 a2 a3 a4 a5 a6 a7 a8 a9 a10 x1 a11 a12 a13 a1 a2 a14 x2 x3 x4 x5 x6 x7))) (va_A (zS_153 cB cC cI cJ a0 a1 a2 a3 a4 a5 a6 a7 a8 a9 a10 x1 a11 a12 a13 a1 a2 a14 x2 x3 x4 x5 x6 x7) sz)) 0 0 (va_A (zS_153 cB cC cI cJ a0 a1 a2 a3 a4 a5 a6 a7 a8 a9 a10 x1 a11 a12 a13 a1 a2 a14 x2 x3 x4 x5 x6 x7) sz) := by
  refine gOf_i (by decide +kernel) (Nat.le_of_ble_eq_true rfl) ?_
  intro p e s m args below meth c ls A Q hx hb hts hown hml hN hK hP hD hA hl hret
  replace hown : s.vm.findClass RX11 = some m.cls := hown
  have hS : va_S A s.heap s.heap [] := va_S.rf
  replace hP : va_P D gcl (zS_153 cB cC cI cJ a0 a1 a2 a3 a4 a5 a6 a7 a8 a9 a10 x1 a11 a12 a13 a1 a2 a14 x2 x3 x4 x5 x6 x7) s.heap := hP
  replace hl : lv_has ls 2 [(0, .ref a0), (1, .int x0)] := hl
  have rx0 : zBd x0.toInt (-2147483648) 2147483647 := n_rng x0
  have rx5 : zBd x5.toInt (-2147483648) 2147483647 := n_rng x5
  refine lv_iload_n (pc := 0) hx hb dX11_fault_0 rfl (lv_at hl 1 rfl) ?_
  refine b_if_ne (pc := 1) (tgt := 12) hx hb rfl  dX11_fault_1 (by decide) (fun c_1 => ?_) (fun c_1 => ?_)
  ·
    refine lv_iload_n (pc := 12) hx hb dX11_fault_12 rfl (lv_at hl 1 rfl) ?_
    refine lv_iconst (pc := 13) (v := 1) hx hb dX11_fault_13 (by decide) ?_
    refine b_icmp_ne (pc := 14) (tgt := 27) hx hb rfl tI_1  dX11_fault_14 (by decide) (fun c_2 => ?_) (fun c_2 => ?_)
    ·
      refine lv_iconst (pc := 27) (v := (-1)) hx hb dX11_fault_27 (by decide) ?_
      exact hret (-1) ((fun _ => 0), (fun _ => (fun _ => 0)), (fun _ => (fun _ => 0)), (fun _ => 0), (fun _ => 0)) dX11_fault_28 (show ((((-1) : Int32).toInt = (-1) ∧ ¬ x0.toInt = 0 ∧ ¬ x0.toInt = 1) ∨ (((-1) : Int32).toInt = x7.toInt ∧ ¬ x0.toInt = 0 ∧ x0.toInt = 1) ∨ (((-1) : Int32).toInt = x6.toInt ∧ x0.toInt = 0)) from (by first | exact (om_1328 tI_m1 c_1 h_x6.1 h_x7.1 c_2) | (have k9 := tI_m1; (first | omega | (unfold zBd at *; omega))))) (g_psub (wc := (zS_153 cB cC cI cJ a0 a1 a2 a3 a4 a5 a6 a7 a8 a9 a10 x1 a11 a12 a13 a1 a2 a14 x2 x3 x4 x5 x6 x7)) hP [0, 1] rfl) (hD.sub (ws' := (zS_153 cB cC cI cJ a0 a1 a2 a3 a4 a5 a6 a7 a8 a9 a10 x1 a11 a12 a13 a1 a2 a14 x2 x3 x4 x5 x6 x7)) [0, 1] (by decide) rfl) hS
    ·
      refine lv_aload_n (pc := 17) hx hb dX11_fault_17 rfl (lv_at hl 0 rfl) ?_
      refine va_get (pc := 18) (ci := 11) (v := .ref a1) (C := RX11) (T := TX11) (N := 14) hx hb hts iX11 hown hK hP 0 rfl rfl 0 (by decide) (hts _ tw_420) (fun _ h9 => h9) rfl dX11_fault_18 ?_
      refine va_getN (pc := 21) (ci := 4) (v := .int x7) (C := RX4) (T := TX4) (N := 8) hx hb hts iX4 hown hK hP 1 rfl rfl 7 (by decide) (va_Nw.use rfl (hN _ tn_177)) (fun _ h9 => h9) rfl dX11_fault_21 ?_
      refine lv_goto (pc := 24) (tgt := 28) hx hb dX11_fault_24 (by decide) ?_
      exact hret x7 ((fun _ => 0), (fun _ => (fun _ => 0)), (fun _ => (fun _ => 0)), (fun _ => 0), (fun _ => 0)) dX11_fault_28 (show ((x7.toInt = (-1) ∧ ¬ x0.toInt = 0 ∧ ¬ x0.toInt = 1) ∨ (x7.toInt = x7.toInt ∧ ¬ x0.toInt = 0 ∧ x0.toInt = 1) ∨ (x7.toInt = x6.toInt ∧ x0.toInt = 0)) from (by first | exact (om_1329 c_2) | ((first | omega | (unfold zBd at *; omega))))) (g_psub (wc := (zS_153 cB cC cI cJ a0 a1 a2 a3 a4 a5 a6 a7 a8 a9 a10 x1 a11 a12 a13 a1 a2 a14 x2 x3 x4 x5 x6 x7)) hP [0, 1] rfl) (hD.sub (ws' := (zS_153 cB cC cI cJ a0 a1 a2 a3 a4 a5 a6 a7 a8 a9 a10 x1 a11 a12 a13 a1 a2 a14 x2 x3 x4 x5 x6 x7)) [0, 1] (by decide) rfl) hS
  ·
    refine lv_aload_n (pc := 4) hx hb dX11_fault_4 rfl (lv_at hl 0 rfl) ?_
    refine va_get (pc := 5) (ci := 11) (v := .ref a1) (C := RX11) (T := TX11) (N := 14) hx hb hts iX11 hown hK hP 0 rfl rfl 0 (by decide) (hts _ tw_420) (fun _ h9 => h9) rfl dX11_fault_5 ?_
    refine va_getN (pc := 8) (ci := 4) (v := .int x6) (C := RX4) (T := TX4) (N := 8) hx hb hts iX4 hown hK hP 1 rfl rfl 6 (by decide) (va_Nw.use rfl (hN _ tn_175)) (fun _ h9 => h9) rfl dX11_fault_8 ?_
    exact hret x6 ((fun _ => 0), (fun _ => (fun _ => 0)), (fun _ => (fun _ => 0)), (fun _ => 0), (fun _ => 0)) dX11_fault_11 (show ((x6.toInt = (-1) ∧ ¬ x0.toInt = 0 ∧ ¬ x0.toInt = 1) ∨ (x6.toInt = x7.toInt ∧ ¬ x0.toInt = 0 ∧ x0.toInt = 1) ∨ (x6.toInt = x6.toInt ∧ x0.toInt = 0)) from (by first | exact (om_1330 c_1) | ((first | omega | (unfold zBd at *; omega))))) (g_psub (wc := (zS_153 cB cC cI cJ a0 a1 a2 a3 a4 a5 a6 a7 a8 a9 a10 x1 a11 a12 a13 a1 a2 a14 x2 x3 x4 x5 x6 x7)) hP [0, 1] rfl) (hD.sub (ws' := (zS_153 cB cC cI cJ a0 a1 a2 a3 a4 a5 a6 a7 a8 a9 a10 x1 a11 a12 a13 a1 a2 a14 x2 x3 x4 x5 x6 x7)) [0, 1] (by decide) rfl) hS
set_option maxHeartbeats 4000000 in
set_option maxRecDepth 100000 in
theorem k_X11_has (l : Launch) (D : va_G) (cB cC cI cJ : ClassId) (sz : Nat) (a0 a1 a2 a3 a4 a5 a6 a7 a8 a9 a10 a11 a12 a13 a14 a15 a16 a17 a18 a19 a20 a21 a22 a23 a24 : Nat) (x0 x1 x2 x3 x4 x5 x6 x7 x8 x9 x10 x11 x12 x13 x14 x15 : Int32) (h_x1 : zBd x1.toInt 0 14) (h_x2 : zBd x2.toInt (-1) 8) (h_x3 : zBd x3.toInt (-1) 5) (h_x4 : zBd x4.toInt (-1) 6) (h_x5 : zBd x5.toInt 0 6) (h_x6 : zBd x6.toInt 0 16) (h_x9 : zBd x9.toInt 0 1600) (h_x10 : zBd x10.toInt 0 8) (h_x11 : zBd x11.toInt (-1) 5) (h_x12 : zBd x12.toInt 0 39) (h_x13 : zBd x13.toInt 0 40) (h_x14 : zBd x14.toInt 0 40) (hr_a12_0 : (x13.toInt + x14.toInt ≤ 40)) : Met l yX11_has (.code yX11_has cX11_has 2 (some .int) :: lw_gd) ({ frames := 0, cells := 0, slots := 0, locals := 0 }) (gPre D [(cB, .byte), (cC, .char), (cI, .int), (cJ, .long)] [.ref a0, .int x0] (zS_67 cB cC cI cJ a0 a1 a2 a3 a4 a5 a6 a7 a8 a9 a10 x1 a11 a12 a13 a11 a14 a15 a16 x2 x3 x4 x5 x6 x7 x8 a15 a17 a18 a19 a20 a21 x9 x10 a12 a22 a23 a24 x11 x12 x13 x14 x15) sz) (va_Qi (fun r u => (haQ r.toInt x0.toInt x2.toInt x3.toInt x4.toInt x5.toInt x6.toInt x10.toInt x7.toInt x15.toInt x13.toInt x14.toInt)) (gB D (va_A (zS_67 cB cC cI cJ a0 a1 a2 a3 a4 a5 a6 a7 a8 a9 a10 x1 a11 a12 a13 a11 a14 a15 a16 x2 x3 x4 x5 x6 x7 x8 a15 a17 a18 a19 a20 a21 x9 x10 a12 a22 a23 a24 x11 x12 x13 x14 x15) sz) (fun u : gEx => (zS_67 cB cC cI cJ a0 a1 a2 a3 a4 a5 a6 a7 a8 a9 a10 x1 a11 a12 a13 a11 a14 a15 a16 x2 x3 x4 x5 x6 x7 x8 a15 a17 a18 a19 a20 a21 x9 x10 a12 a22 a23 a24 x11 x12 x13 x14 x15))) (va_A (zS_67 cB cC cI cJ a0 a1 a2 a3 a4 a5 a6 a7 a8 a9 a10 x1 a11 a12 a13 a11 a14 a15 a16 x2 x3 x4 x5 x6 x7 x8 a15 a17 a18 a19 a20 a21 x9 x10 a12 a22 a23 a24 x11 x12 x13 x14 x15) sz)) 0 0 (va_A (zS_67 cB cC cI cJ a0 a1 a2 a3 a4 a5 a6 a7 a8 a9 a10 x1 a11 a12 a13 a11 a14 a15 a16 x2 x3 x4 x5 x6 x7 x8 a15 a17 a18 a19 a20 a21 x9 x10 a12 a22 a23 a24 x11 x12 x13 x14 x15) sz) := by
  refine gOf_i (by decide +kernel) (Nat.le_of_ble_eq_true rfl) ?_
  intro p e s m args below meth c ls A Q hx hb hts hown hml hN hK hP hD hA hl hret
  replace hown : s.vm.findClass RX11 = some m.cls := hown
  have hS : va_S A s.heap s.heap [] := va_S.rf
  replace hP : va_P D gcl (zS_67 cB cC cI cJ a0 a1 a2 a3 a4 a5 a6 a7 a8 a9 a10 x1 a11 a12 a13 a11 a14 a15 a16 x2 x3 x4 x5 x6 x7 x8 a15 a17 a18 a19 a20 a21 x9 x10 a12 a22 a23 a24 x11 x12 x13 x14 x15) s.heap := hP
  replace hl : lv_has ls 2 [(0, .ref a0), (1, .int x0)] := hl
  have rx0 : zBd x0.toInt (-2147483648) 2147483647 := n_rng x0
  have rx7 : zBd x7.toInt (-2147483648) 2147483647 := n_rng x7
  have rx8 : zBd x8.toInt (-2147483648) 2147483647 := n_rng x8
  have rx15 : zBd x15.toInt (-2147483648) 2147483647 := n_rng x15
  refine lv_iload_n (pc := 0) hx hb dX11_has_0 rfl (lv_at hl 1 rfl) ?_
  by_cases h_1 : x0.toInt = 0
  ·
    refine lv_tableIn (pc := 1) (off := 55) (tgt := 56) hx hb dX11_has_1 (by rw [h_1]; decide) (by rw [h_1]; decide) (by rw [h_1]; decide +kernel) (by decide) ?_
    refine lv_aload_n (pc := 56) hx hb dX11_has_56 rfl (lv_at hl 0 rfl) ?_
    refine va_get (pc := 57) (ci := 11) (v := .ref a11) (C := RX11) (T := TX11) (N := 14) hx hb hts iX11 hown hK hP 0 rfl rfl 11 (by decide) (hts _ tw_431) (fun _ h9 => h9) rfl dX11_has_57 ?_
    refine va_getN (pc := 60) (ci := 1) (v := .int x2) (C := RX1) (T := TX1) (N := 10) hx hb hts iX1 hown hK hP 1 rfl rfl 3 (by decide) (va_Nw.use rfl (hN _ tn_114)) (fun _ h9 => h9) rfl dX11_has_60 ?_
    exact hret x2 ((fun _ => 0), (fun _ => (fun _ => 0)), (fun _ => (fun _ => 0)), (fun _ => 0), (fun _ => 0)) dX11_has_63 (show haQ x2.toInt x0.toInt x2.toInt x3.toInt x4.toInt x5.toInt x6.toInt x10.toInt x7.toInt x15.toInt x13.toInt x14.toInt from ⟨fun _ => by (first | omega | (unfold zBd at *; omega)), fun _ => by (first | omega | (unfold zBd at *; omega)), fun _ => by (first | omega | (unfold zBd at *; omega)), fun _ => by (first | omega | (unfold zBd at *; omega)), fun _ => by (first | omega | (unfold zBd at *; omega)), fun _ => by (first | omega | (unfold zBd at *; omega)), fun _ => by (first | omega | (unfold zBd at *; omega)), fun _ => by (first | omega | (unfold zBd at *; omega)), fun _ => by (first | omega | (unfold zBd at *; omega)), fun _ => by (first | omega | (unfold zBd at *; omega)), fun _ => by (first | omega | (unfold zBd at *; omega))⟩) (g_psub (wc := (zS_67 cB cC cI cJ a0 a1 a2 a3 a4 a5 a6 a7 a8 a9 a10 x1 a11 a12 a13 a11 a14 a15 a16 x2 x3 x4 x5 x6 x7 x8 a15 a17 a18 a19 a20 a21 x9 x10 a12 a22 a23 a24 x11 x12 x13 x14 x15)) hP [0, 1, 2, 3] rfl) (hD.sub (ws' := (zS_67 cB cC cI cJ a0 a1 a2 a3 a4 a5 a6 a7 a8 a9 a10 x1 a11 a12 a13 a11 a14 a15 a16 x2 x3 x4 x5 x6 x7 x8 a15 a17 a18 a19 a20 a21 x9 x10 a12 a22 a23 a24 x11 x12 x13 x14 x15)) [0, 1, 2, 3] (by decide) rfl) hS
  by_cases h_2 : x0.toInt = 1
  ·
    refine lv_tableIn (pc := 1) (off := 63) (tgt := 64) hx hb dX11_has_1 (by rw [h_2]; decide) (by rw [h_2]; decide) (by rw [h_2]; decide +kernel) (by decide) ?_
    refine lv_aload_n (pc := 64) hx hb dX11_has_64 rfl (lv_at hl 0 rfl) ?_
    refine va_get (pc := 65) (ci := 11) (v := .ref a11) (C := RX11) (T := TX11) (N := 14) hx hb hts iX11 hown hK hP 0 rfl rfl 11 (by decide) (hts _ tw_431) (fun _ h9 => h9) rfl dX11_has_65 ?_
    refine va_getN (pc := 68) (ci := 1) (v := .int x3) (C := RX1) (T := TX1) (N := 10) hx hb hts iX1 hown hK hP 1 rfl rfl 4 (by decide) (va_Nw.use rfl (hN _ tn_123)) (fun _ h9 => h9) rfl dX11_has_68 ?_
    exact hret x3 ((fun _ => 0), (fun _ => (fun _ => 0)), (fun _ => (fun _ => 0)), (fun _ => 0), (fun _ => 0)) dX11_has_71 (show haQ x3.toInt x0.toInt x2.toInt x3.toInt x4.toInt x5.toInt x6.toInt x10.toInt x7.toInt x15.toInt x13.toInt x14.toInt from ⟨fun _ => by (first | omega | (unfold zBd at *; omega)), fun _ => by (first | omega | (unfold zBd at *; omega)), fun _ => by (first | omega | (unfold zBd at *; omega)), fun _ => by (first | omega | (unfold zBd at *; omega)), fun _ => by (first | omega | (unfold zBd at *; omega)), fun _ => by (first | omega | (unfold zBd at *; omega)), fun _ => by (first | omega | (unfold zBd at *; omega)), fun _ => by (first | omega | (unfold zBd at *; omega)), fun _ => by (first | omega | (unfold zBd at *; omega)), fun _ => by (first | omega | (unfold zBd at *; omega)), fun _ => by (first | omega | (unfold zBd at *; omega))⟩) (g_psub (wc := (zS_67 cB cC cI cJ a0 a1 a2 a3 a4 a5 a6 a7 a8 a9 a10 x1 a11 a12 a13 a11 a14 a15 a16 x2 x3 x4 x5 x6 x7 x8 a15 a17 a18 a19 a20 a21 x9 x10 a12 a22 a23 a24 x11 x12 x13 x14 x15)) hP [0, 1, 2, 3] rfl) (hD.sub (ws' := (zS_67 cB cC cI cJ a0 a1 a2 a3 a4 a5 a6 a7 a8 a9 a10 x1 a11 a12 a13 a11 a14 a15 a16 x2 x3 x4 x5 x6 x7 x8 a15 a17 a18 a19 a20 a21 x9 x10 a12 a22 a23 a24 x11 x12 x13 x14 x15)) [0, 1, 2, 3] (by decide) rfl) hS
  by_cases h_3 : x0.toInt = 2
  ·
    refine lv_tableIn (pc := 1) (off := 71) (tgt := 72) hx hb dX11_has_1 (by rw [h_3]; decide) (by rw [h_3]; decide) (by rw [h_3]; decide +kernel) (by decide) ?_
    refine lv_aload_n (pc := 72) hx hb dX11_has_72 rfl (lv_at hl 0 rfl) ?_
    refine va_get (pc := 73) (ci := 11) (v := .ref a11) (C := RX11) (T := TX11) (N := 14) hx hb hts iX11 hown hK hP 0 rfl rfl 11 (by decide) (hts _ tw_431) (fun _ h9 => h9) rfl dX11_has_73 ?_
    refine va_getN (pc := 76) (ci := 1) (v := .int x4) (C := RX1) (T := TX1) (N := 10) hx hb hts iX1 hown hK hP 1 rfl rfl 5 (by decide) (va_Nw.use rfl (hN _ tn_128)) (fun _ h9 => h9) rfl dX11_has_76 ?_
    exact hret x4 ((fun _ => 0), (fun _ => (fun _ => 0)), (fun _ => (fun _ => 0)), (fun _ => 0), (fun _ => 0)) dX11_has_79 (show haQ x4.toInt x0.toInt x2.toInt x3.toInt x4.toInt x5.toInt x6.toInt x10.toInt x7.toInt x15.toInt x13.toInt x14.toInt from ⟨fun _ => by (first | omega | (unfold zBd at *; omega)), fun _ => by (first | omega | (unfold zBd at *; omega)), fun _ => by (first | omega | (unfold zBd at *; omega)), fun _ => by (first | omega | (unfold zBd at *; omega)), fun _ => by (first | omega | (unfold zBd at *; omega)), fun _ => by (first | omega | (unfold zBd at *; omega)), fun _ => by (first | omega | (unfold zBd at *; omega)), fun _ => by (first | omega | (unfold zBd at *; omega)), fun _ => by (first | omega | (unfold zBd at *; omega)), fun _ => by (first | omega | (unfold zBd at *; omega)), fun _ => by (first | omega | (unfold zBd at *; omega))⟩) (g_psub (wc := (zS_67 cB cC cI cJ a0 a1 a2 a3 a4 a5 a6 a7 a8 a9 a10 x1 a11 a12 a13 a11 a14 a15 a16 x2 x3 x4 x5 x6 x7 x8 a15 a17 a18 a19 a20 a21 x9 x10 a12 a22 a23 a24 x11 x12 x13 x14 x15)) hP [0, 1, 2, 3] rfl) (hD.sub (ws' := (zS_67 cB cC cI cJ a0 a1 a2 a3 a4 a5 a6 a7 a8 a9 a10 x1 a11 a12 a13 a11 a14 a15 a16 x2 x3 x4 x5 x6 x7 x8 a15 a17 a18 a19 a20 a21 x9 x10 a12 a22 a23 a24 x11 x12 x13 x14 x15)) [0, 1, 2, 3] (by decide) rfl) hS
  by_cases h_4 : x0.toInt = 3
  ·
    refine lv_tableIn (pc := 1) (off := 79) (tgt := 80) hx hb dX11_has_1 (by rw [h_4]; decide) (by rw [h_4]; decide) (by rw [h_4]; decide +kernel) (by decide) ?_
    refine lv_aload_n (pc := 80) hx hb dX11_has_80 rfl (lv_at hl 0 rfl) ?_
    refine va_get (pc := 81) (ci := 11) (v := .ref a11) (C := RX11) (T := TX11) (N := 14) hx hb hts iX11 hown hK hP 0 rfl rfl 11 (by decide) (hts _ tw_431) (fun _ h9 => h9) rfl dX11_has_81 ?_
    refine va_getN (pc := 84) (ci := 1) (v := .int x5) (C := RX1) (T := TX1) (N := 10) hx hb hts iX1 hown hK hP 1 rfl rfl 6 (by decide) (va_Nw.use rfl (hN _ tn_133)) (fun _ h9 => h9) rfl dX11_has_84 ?_
    exact hret x5 ((fun _ => 0), (fun _ => (fun _ => 0)), (fun _ => (fun _ => 0)), (fun _ => 0), (fun _ => 0)) dX11_has_87 (show haQ x5.toInt x0.toInt x2.toInt x3.toInt x4.toInt x5.toInt x6.toInt x10.toInt x7.toInt x15.toInt x13.toInt x14.toInt from ⟨fun _ => by (first | omega | (unfold zBd at *; omega)), fun _ => by (first | omega | (unfold zBd at *; omega)), fun _ => by (first | omega | (unfold zBd at *; omega)), fun _ => by (first | omega | (unfold zBd at *; omega)), fun _ => by (first | omega | (unfold zBd at *; omega)), fun _ => by (first | omega | (unfold zBd at *; omega)), fun _ => by (first | omega | (unfold zBd at *; omega)), fun _ => by (first | omega | (unfold zBd at *; omega)), fun _ => by (first | omega | (unfold zBd at *; omega)), fun _ => by (first | omega | (unfold zBd at *; omega)), fun _ => by (first | omega | (unfold zBd at *; omega))⟩) (g_psub (wc := (zS_67 cB cC cI cJ a0 a1 a2 a3 a4 a5 a6 a7 a8 a9 a10 x1 a11 a12 a13 a11 a14 a15 a16 x2 x3 x4 x5 x6 x7 x8 a15 a17 a18 a19 a20 a21 x9 x10 a12 a22 a23 a24 x11 x12 x13 x14 x15)) hP [0, 1, 2, 3] rfl) (hD.sub (ws' := (zS_67 cB cC cI cJ a0 a1 a2 a3 a4 a5 a6 a7 a8 a9 a10 x1 a11 a12 a13 a11 a14 a15 a16 x2 x3 x4 x5 x6 x7 x8 a15 a17 a18 a19 a20 a21 x9 x10 a12 a22 a23 a24 x11 x12 x13 x14 x15)) [0, 1, 2, 3] (by decide) rfl) hS
  by_cases h_5 : x0.toInt = 4
  ·
    refine lv_tableIn (pc := 1) (off := 87) (tgt := 88) hx hb dX11_has_1 (by rw [h_5]; decide) (by rw [h_5]; decide) (by rw [h_5]; decide +kernel) (by decide) ?_
    refine lv_aload_n (pc := 88) hx hb dX11_has_88 rfl (lv_at hl 0 rfl) ?_
    refine va_get (pc := 89) (ci := 11) (v := .ref a11) (C := RX11) (T := TX11) (N := 14) hx hb hts iX11 hown hK hP 0 rfl rfl 11 (by decide) (hts _ tw_431) (fun _ h9 => h9) rfl dX11_has_89 ?_
    refine va_getN (pc := 92) (ci := 1) (v := .int x6) (C := RX1) (T := TX1) (N := 10) hx hb hts iX1 hown hK hP 1 rfl rfl 7 (by decide) (va_Nw.use rfl (hN _ tn_137)) (fun _ h9 => h9) rfl dX11_has_92 ?_
    exact hret x6 ((fun _ => 0), (fun _ => (fun _ => 0)), (fun _ => (fun _ => 0)), (fun _ => 0), (fun _ => 0)) dX11_has_95 (show haQ x6.toInt x0.toInt x2.toInt x3.toInt x4.toInt x5.toInt x6.toInt x10.toInt x7.toInt x15.toInt x13.toInt x14.toInt from ⟨fun _ => by (first | omega | (unfold zBd at *; omega)), fun _ => by (first | omega | (unfold zBd at *; omega)), fun _ => by (first | omega | (unfold zBd at *; omega)), fun _ => by (first | omega | (unfold zBd at *; omega)), fun _ => by (first | omega | (unfold zBd at *; omega)), fun _ => by (first | omega | (unfold zBd at *; omega)), fun _ => by (first | omega | (unfold zBd at *; omega)), fun _ => by (first | omega | (unfold zBd at *; omega)), fun _ => by (first | omega | (unfold zBd at *; omega)), fun _ => by (first | omega | (unfold zBd at *; omega)), fun _ => by (first | omega | (unfold zBd at *; omega))⟩) (g_psub (wc := (zS_67 cB cC cI cJ a0 a1 a2 a3 a4 a5 a6 a7 a8 a9 a10 x1 a11 a12 a13 a11 a14 a15 a16 x2 x3 x4 x5 x6 x7 x8 a15 a17 a18 a19 a20 a21 x9 x10 a12 a22 a23 a24 x11 x12 x13 x14 x15)) hP [0, 1, 2, 3] rfl) (hD.sub (ws' := (zS_67 cB cC cI cJ a0 a1 a2 a3 a4 a5 a6 a7 a8 a9 a10 x1 a11 a12 a13 a11 a14 a15 a16 x2 x3 x4 x5 x6 x7 x8 a15 a17 a18 a19 a20 a21 x9 x10 a12 a22 a23 a24 x11 x12 x13 x14 x15)) [0, 1, 2, 3] (by decide) rfl) hS
  by_cases h_6 : x0.toInt = 5
  ·
    refine lv_tableIn (pc := 1) (off := 95) (tgt := 96) hx hb dX11_has_1 (by rw [h_6]; decide) (by rw [h_6]; decide) (by rw [h_6]; decide +kernel) (by decide) ?_
    refine lv_aload_n (pc := 96) hx hb dX11_has_96 rfl (lv_at hl 0 rfl) ?_
    refine va_get (pc := 97) (ci := 11) (v := .ref a11) (C := RX11) (T := TX11) (N := 14) hx hb hts iX11 hown hK hP 0 rfl rfl 11 (by decide) (hts _ tw_431) (fun _ h9 => h9) rfl dX11_has_97 ?_
    refine va_getN (pc := 100) (ci := 1) (v := .ref a15) (C := RX1) (T := TX1) (N := 10) hx hb hts iX1 hown hK hP 1 rfl rfl 1 (by decide) (va_Nw.use rfl (hN _ tn_106)) (fun _ h9 => h9) rfl dX11_has_100 ?_
    refine va_getN (pc := 103) (ci := 5) (v := .int x10) (C := RX5) (T := TX5) (N := 7) hx hb hts iX5 hown hK hP 2 rfl rfl 6 (by decide) (va_Nw.use rfl (hN _ tn_80)) (fun _ h9 => h9) rfl dX11_has_103 ?_
    exact hret x10 ((fun _ => 0), (fun _ => (fun _ => 0)), (fun _ => (fun _ => 0)), (fun _ => 0), (fun _ => 0)) dX11_has_106 (show haQ x10.toInt x0.toInt x2.toInt x3.toInt x4.toInt x5.toInt x6.toInt x10.toInt x7.toInt x15.toInt x13.toInt x14.toInt from ⟨fun _ => by (first | omega | (unfold zBd at *; omega)), fun _ => by (first | omega | (unfold zBd at *; omega)), fun _ => by (first | omega | (unfold zBd at *; omega)), fun _ => by (first | omega | (unfold zBd at *; omega)), fun _ => by (first | omega | (unfold zBd at *; omega)), fun _ => by (first | omega | (unfold zBd at *; omega)), fun _ => by (first | omega | (unfold zBd at *; omega)), fun _ => by (first | omega | (unfold zBd at *; omega)), fun _ => by (first | omega | (unfold zBd at *; omega)), fun _ => by (first | omega | (unfold zBd at *; omega)), fun _ => by (first | omega | (unfold zBd at *; omega))⟩) (g_psub (wc := (zS_67 cB cC cI cJ a0 a1 a2 a3 a4 a5 a6 a7 a8 a9 a10 x1 a11 a12 a13 a11 a14 a15 a16 x2 x3 x4 x5 x6 x7 x8 a15 a17 a18 a19 a20 a21 x9 x10 a12 a22 a23 a24 x11 x12 x13 x14 x15)) hP [0, 1, 2, 3] rfl) (hD.sub (ws' := (zS_67 cB cC cI cJ a0 a1 a2 a3 a4 a5 a6 a7 a8 a9 a10 x1 a11 a12 a13 a11 a14 a15 a16 x2 x3 x4 x5 x6 x7 x8 a15 a17 a18 a19 a20 a21 x9 x10 a12 a22 a23 a24 x11 x12 x13 x14 x15)) [0, 1, 2, 3] (by decide) rfl) hS
  by_cases h_7 : x0.toInt = 6
  ·
    refine lv_tableIn (pc := 1) (off := 106) (tgt := 107) hx hb dX11_has_1 (by rw [h_7]; decide) (by rw [h_7]; decide) (by rw [h_7]; decide +kernel) (by decide) ?_
    refine lv_aload_n (pc := 107) hx hb dX11_has_107 rfl (lv_at hl 0 rfl) ?_
    refine va_get (pc := 108) (ci := 11) (v := .ref a11) (C := RX11) (T := TX11) (N := 14) hx hb hts iX11 hown hK hP 0 rfl rfl 11 (by decide) (hts _ tw_431) (fun _ h9 => h9) rfl dX11_has_108 ?_
    refine va_getN (pc := 111) (ci := 1) (v := .int x7) (C := RX1) (T := TX1) (N := 10) hx hb hts iX1 hown hK hP 1 rfl rfl 8 (by decide) (va_Nw.use rfl (hN _ tn_141)) (fun _ h9 => h9) rfl dX11_has_111 ?_
    exact hret x7 ((fun _ => 0), (fun _ => (fun _ => 0)), (fun _ => (fun _ => 0)), (fun _ => 0), (fun _ => 0)) dX11_has_114 (show haQ x7.toInt x0.toInt x2.toInt x3.toInt x4.toInt x5.toInt x6.toInt x10.toInt x7.toInt x15.toInt x13.toInt x14.toInt from ⟨fun _ => by (first | omega | (unfold zBd at *; omega)), fun _ => by (first | omega | (unfold zBd at *; omega)), fun _ => by (first | omega | (unfold zBd at *; omega)), fun _ => by (first | omega | (unfold zBd at *; omega)), fun _ => by (first | omega | (unfold zBd at *; omega)), fun _ => by (first | omega | (unfold zBd at *; omega)), fun _ => by (first | omega | (unfold zBd at *; omega)), fun _ => by (first | omega | (unfold zBd at *; omega)), fun _ => by (first | omega | (unfold zBd at *; omega)), fun _ => by (first | omega | (unfold zBd at *; omega)), fun _ => by (first | omega | (unfold zBd at *; omega))⟩) (g_psub (wc := (zS_67 cB cC cI cJ a0 a1 a2 a3 a4 a5 a6 a7 a8 a9 a10 x1 a11 a12 a13 a11 a14 a15 a16 x2 x3 x4 x5 x6 x7 x8 a15 a17 a18 a19 a20 a21 x9 x10 a12 a22 a23 a24 x11 x12 x13 x14 x15)) hP [0, 1, 2, 3] rfl) (hD.sub (ws' := (zS_67 cB cC cI cJ a0 a1 a2 a3 a4 a5 a6 a7 a8 a9 a10 x1 a11 a12 a13 a11 a14 a15 a16 x2 x3 x4 x5 x6 x7 x8 a15 a17 a18 a19 a20 a21 x9 x10 a12 a22 a23 a24 x11 x12 x13 x14 x15)) [0, 1, 2, 3] (by decide) rfl) hS
  by_cases h_8 : x0.toInt = 7
  ·
    refine lv_tableIn (pc := 1) (off := 114) (tgt := 115) hx hb dX11_has_1 (by rw [h_8]; decide) (by rw [h_8]; decide) (by rw [h_8]; decide +kernel) (by decide) ?_
    refine lv_aload_n (pc := 115) hx hb dX11_has_115 rfl (lv_at hl 0 rfl) ?_
    refine va_get (pc := 116) (ci := 11) (v := .ref a12) (C := RX11) (T := TX11) (N := 14) hx hb hts iX11 hown hK hP 0 rfl rfl 12 (by decide) (hts _ tw_432) (fun _ h9 => h9) rfl dX11_has_116 ?_
    refine va_getN (pc := 119) (ci := 2) (v := .int x15) (C := RX2) (T := TX2) (N := 8) hx hb hts iX2 hown hK hP 3 rfl rfl 7 (by decide) (va_Nw.use rfl (hN _ tn_402)) (fun _ h9 => h9) rfl dX11_has_119 ?_
    exact hret x15 ((fun _ => 0), (fun _ => (fun _ => 0)), (fun _ => (fun _ => 0)), (fun _ => 0), (fun _ => 0)) dX11_has_122 (show haQ x15.toInt x0.toInt x2.toInt x3.toInt x4.toInt x5.toInt x6.toInt x10.toInt x7.toInt x15.toInt x13.toInt x14.toInt from ⟨fun _ => by (first | omega | (unfold zBd at *; omega)), fun _ => by (first | omega | (unfold zBd at *; omega)), fun _ => by (first | omega | (unfold zBd at *; omega)), fun _ => by (first | omega | (unfold zBd at *; omega)), fun _ => by (first | omega | (unfold zBd at *; omega)), fun _ => by (first | omega | (unfold zBd at *; omega)), fun _ => by (first | omega | (unfold zBd at *; omega)), fun _ => by (first | omega | (unfold zBd at *; omega)), fun _ => by (first | omega | (unfold zBd at *; omega)), fun _ => by (first | omega | (unfold zBd at *; omega)), fun _ => by (first | omega | (unfold zBd at *; omega))⟩) (g_psub (wc := (zS_67 cB cC cI cJ a0 a1 a2 a3 a4 a5 a6 a7 a8 a9 a10 x1 a11 a12 a13 a11 a14 a15 a16 x2 x3 x4 x5 x6 x7 x8 a15 a17 a18 a19 a20 a21 x9 x10 a12 a22 a23 a24 x11 x12 x13 x14 x15)) hP [0, 1, 2, 3] rfl) (hD.sub (ws' := (zS_67 cB cC cI cJ a0 a1 a2 a3 a4 a5 a6 a7 a8 a9 a10 x1 a11 a12 a13 a11 a14 a15 a16 x2 x3 x4 x5 x6 x7 x8 a15 a17 a18 a19 a20 a21 x9 x10 a12 a22 a23 a24 x11 x12 x13 x14 x15)) [0, 1, 2, 3] (by decide) rfl) hS
  by_cases h_9 : x0.toInt = 8
  ·
    refine lv_tableIn (pc := 1) (off := 122) (tgt := 123) hx hb dX11_has_1 (by rw [h_9]; decide) (by rw [h_9]; decide) (by rw [h_9]; decide +kernel) (by decide) ?_
    refine lv_aload_n (pc := 123) hx hb dX11_has_123 rfl (lv_at hl 0 rfl) ?_
    refine va_get (pc := 124) (ci := 11) (v := .ref a12) (C := RX11) (T := TX11) (N := 14) hx hb hts iX11 hown hK hP 0 rfl rfl 12 (by decide) (hts _ tw_432) (fun _ h9 => h9) rfl dX11_has_124 ?_
    refine va_getN (pc := 127) (ci := 2) (v := .int x13) (C := RX2) (T := TX2) (N := 8) hx hb hts iX2 hown hK hP 3 rfl rfl 5 (by decide) (va_Nw.use rfl (hN _ tn_398)) (fun _ h9 => h9) rfl dX11_has_127 ?_
    exact hret x13 ((fun _ => 0), (fun _ => (fun _ => 0)), (fun _ => (fun _ => 0)), (fun _ => 0), (fun _ => 0)) dX11_has_130 (show haQ x13.toInt x0.toInt x2.toInt x3.toInt x4.toInt x5.toInt x6.toInt x10.toInt x7.toInt x15.toInt x13.toInt x14.toInt from ⟨fun _ => by (first | omega | (unfold zBd at *; omega)), fun _ => by (first | omega | (unfold zBd at *; omega)), fun _ => by (first | omega | (unfold zBd at *; omega)), fun _ => by (first | omega | (unfold zBd at *; omega)), fun _ => by (first | omega | (unfold zBd at *; omega)), fun _ => by (first | omega | (unfold zBd at *; omega)), fun _ => by (first | omega | (unfold zBd at *; omega)), fun _ => by (first | omega | (unfold zBd at *; omega)), fun _ => by (first | omega | (unfold zBd at *; omega)), fun _ => by (first | omega | (unfold zBd at *; omega)), fun _ => by (first | omega | (unfold zBd at *; omega))⟩) (g_psub (wc := (zS_67 cB cC cI cJ a0 a1 a2 a3 a4 a5 a6 a7 a8 a9 a10 x1 a11 a12 a13 a11 a14 a15 a16 x2 x3 x4 x5 x6 x7 x8 a15 a17 a18 a19 a20 a21 x9 x10 a12 a22 a23 a24 x11 x12 x13 x14 x15)) hP [0, 1, 2, 3] rfl) (hD.sub (ws' := (zS_67 cB cC cI cJ a0 a1 a2 a3 a4 a5 a6 a7 a8 a9 a10 x1 a11 a12 a13 a11 a14 a15 a16 x2 x3 x4 x5 x6 x7 x8 a15 a17 a18 a19 a20 a21 x9 x10 a12 a22 a23 a24 x11 x12 x13 x14 x15)) [0, 1, 2, 3] (by decide) rfl) hS
  by_cases h_10 : x0.toInt = 9
  ·
    refine lv_tableIn (pc := 1) (off := 130) (tgt := 131) hx hb dX11_has_1 (by rw [h_10]; decide) (by rw [h_10]; decide) (by rw [h_10]; decide +kernel) (by decide) ?_
    refine lv_aload_n (pc := 131) hx hb dX11_has_131 rfl (lv_at hl 0 rfl) ?_
    refine va_get (pc := 132) (ci := 11) (v := .ref a12) (C := RX11) (T := TX11) (N := 14) hx hb hts iX11 hown hK hP 0 rfl rfl 12 (by decide) (hts _ tw_432) (fun _ h9 => h9) rfl dX11_has_132 ?_
    refine va_getN (pc := 135) (ci := 2) (v := .int x14) (C := RX2) (T := TX2) (N := 8) hx hb hts iX2 hown hK hP 3 rfl rfl 6 (by decide) (va_Nw.use rfl (hN _ tn_400)) (fun _ h9 => h9) rfl dX11_has_135 ?_
    exact hret x14 ((fun _ => 0), (fun _ => (fun _ => 0)), (fun _ => (fun _ => 0)), (fun _ => 0), (fun _ => 0)) dX11_has_138 (show haQ x14.toInt x0.toInt x2.toInt x3.toInt x4.toInt x5.toInt x6.toInt x10.toInt x7.toInt x15.toInt x13.toInt x14.toInt from ⟨fun _ => by (first | omega | (unfold zBd at *; omega)), fun _ => by (first | omega | (unfold zBd at *; omega)), fun _ => by (first | omega | (unfold zBd at *; omega)), fun _ => by (first | omega | (unfold zBd at *; omega)), fun _ => by (first | omega | (unfold zBd at *; omega)), fun _ => by (first | omega | (unfold zBd at *; omega)), fun _ => by (first | omega | (unfold zBd at *; omega)), fun _ => by (first | omega | (unfold zBd at *; omega)), fun _ => by (first | omega | (unfold zBd at *; omega)), fun _ => by (first | omega | (unfold zBd at *; omega)), fun _ => by (first | omega | (unfold zBd at *; omega))⟩) (g_psub (wc := (zS_67 cB cC cI cJ a0 a1 a2 a3 a4 a5 a6 a7 a8 a9 a10 x1 a11 a12 a13 a11 a14 a15 a16 x2 x3 x4 x5 x6 x7 x8 a15 a17 a18 a19 a20 a21 x9 x10 a12 a22 a23 a24 x11 x12 x13 x14 x15)) hP [0, 1, 2, 3] rfl) (hD.sub (ws' := (zS_67 cB cC cI cJ a0 a1 a2 a3 a4 a5 a6 a7 a8 a9 a10 x1 a11 a12 a13 a11 a14 a15 a16 x2 x3 x4 x5 x6 x7 x8 a15 a17 a18 a19 a20 a21 x9 x10 a12 a22 a23 a24 x11 x12 x13 x14 x15)) [0, 1, 2, 3] (by decide) rfl) hS
  refine lv_tableOut (pc := 1) (tgt := 139) hx hb dX11_has_1 (by (first | omega | (unfold zBd at *; omega))) (by decide) ?_
  refine lv_iconst (pc := 139) (v := (-1)) hx hb dX11_has_139 (by decide) ?_
  have k9 := tI_m1
  exact hret (-1) ((fun _ => 0), (fun _ => (fun _ => 0)), (fun _ => (fun _ => 0)), (fun _ => 0), (fun _ => 0)) dX11_has_140 (show haQ ((-1) : Int32).toInt x0.toInt x2.toInt x3.toInt x4.toInt x5.toInt x6.toInt x10.toInt x7.toInt x15.toInt x13.toInt x14.toInt from ⟨fun _ => by (first | omega | (unfold zBd at *; omega)), fun _ => by (first | omega | (unfold zBd at *; omega)), fun _ => by (first | omega | (unfold zBd at *; omega)), fun _ => by (first | omega | (unfold zBd at *; omega)), fun _ => by (first | omega | (unfold zBd at *; omega)), fun _ => by (first | omega | (unfold zBd at *; omega)), fun _ => by (first | omega | (unfold zBd at *; omega)), fun _ => by (first | omega | (unfold zBd at *; omega)), fun _ => by (first | omega | (unfold zBd at *; omega)), fun _ => by (first | omega | (unfold zBd at *; omega)), fun _ => by (first | omega | (unfold zBd at *; omega))⟩) (g_psub (wc := (zS_67 cB cC cI cJ a0 a1 a2 a3 a4 a5 a6 a7 a8 a9 a10 x1 a11 a12 a13 a11 a14 a15 a16 x2 x3 x4 x5 x6 x7 x8 a15 a17 a18 a19 a20 a21 x9 x10 a12 a22 a23 a24 x11 x12 x13 x14 x15)) hP [0, 1, 2, 3] rfl) (hD.sub (ws' := (zS_67 cB cC cI cJ a0 a1 a2 a3 a4 a5 a6 a7 a8 a9 a10 x1 a11 a12 a13 a11 a14 a15 a16 x2 x3 x4 x5 x6 x7 x8 a15 a17 a18 a19 a20 a21 x9 x10 a12 a22 a23 a24 x11 x12 x13 x14 x15)) [0, 1, 2, 3] (by decide) rfl) hS
theorem om_1331 : (((0 = 0))) := by omega
set_option maxHeartbeats 4000000 in
set_option maxRecDepth 100000 in
theorem k_X11_tableBy_0 (l : Launch) (D : va_G) (cB cC cI cJ : ClassId) (sz : Nat) (a0 a1 a2 a3 a4 a5 a6 a7 a8 a9 a10 a11 a12 a13 a14 a15 a16 : Nat) (x0 x1 x2 x3 x4 x5 x6 x7 : Int32) (h_x0 : zBd x0.toInt 0 14) (h_x1 : zBd x1.toInt (-1) 8) (h_x2 : zBd x2.toInt (-1) 5) (h_x3 : zBd x3.toInt (-1) 6) (h_x4 : zBd x4.toInt 0 6) (h_x5 : zBd x5.toInt 0 16) : Met l yX11_tableBy (.code yX11_tableBy cX11_tableBy 2 (some (.object "ManyOut$Table")) :: lw_gd) ({ frames := 0, cells := 0, slots := 0, locals := 0 }) (gPre D [(cB, .byte), (cC, .char), (cI, .int), (cJ, .long)] [.ref a0, .int 0] (zS_159 cB cC cI cJ a0 a1 a2 a3 a4 a5 a6 a7 a8 a9 a10 x0 a11 a12 a13 a11 a14 a15 a16 x1 x2 x3 x4 x5 x6 x7) sz) (va_Qr (fun u => ((0 = 0))) (gBr D (va_A (zS_159 cB cC cI cJ a0 a1 a2 a3 a4 a5 a6 a7 a8 a9 a10 x0 a11 a12 a13 a11 a14 a15 a16 x1 x2 x3 x4 x5 x6 x7) sz) (fun u : gEx => (zS_159 cB cC cI cJ a0 a1 a2 a3 a4 a5 a6 a7 a8 a9 a10 x0 a11 a12 a13 a11 a14 a15 a16 x1 x2 x3 x4 x5 x6 x7)) (fun u => a14)) (va_A (zS_159 cB cC cI cJ a0 a1 a2 a3 a4 a5 a6 a7 a8 a9 a10 x0 a11 a12 a13 a11 a14 a15 a16 x1 x2 x3 x4 x5 x6 x7) sz)) 0 0 (va_A (zS_159 cB cC cI cJ a0 a1 a2 a3 a4 a5 a6 a7 a8 a9 a10 x0 a11 a12 a13 a11 a14 a15 a16 x1 x2 x3 x4 x5 x6 x7) sz) := by
  refine gOf_r (by decide +kernel) (Nat.le_of_ble_eq_true rfl) ?_
  intro p e s m args below meth c ls A Q hx hb hts hown hml hN hK hP hD hA hl hret
  replace hown : s.vm.findClass RX11 = some m.cls := hown
  have hS : va_S A s.heap s.heap [] := va_S.rf
  replace hP : va_P D gcl (zS_159 cB cC cI cJ a0 a1 a2 a3 a4 a5 a6 a7 a8 a9 a10 x0 a11 a12 a13 a11 a14 a15 a16 x1 x2 x3 x4 x5 x6 x7) s.heap := hP
  replace hl : lv_has ls 2 [(0, .ref a0), (1, .int 0)] := hl
  have rx6 : zBd x6.toInt (-2147483648) 2147483647 := n_rng x6
  have rx7 : zBd x7.toInt (-2147483648) 2147483647 := n_rng x7
  refine lv_iload_n (pc := 0) hx hb dX11_tableBy_0 rfl (lv_at hl 1 rfl) ?_
  refine b_if_eq (pc := 1) (tgt := 14) hx hb tI_0  dX11_tableBy_1 (by decide) (fun c_1 => ?_) (fun c_1 => absurd c_1 (by first | exact (om_27) | ((first | omega | (unfold zBd at *; omega)))))
  refine lv_aload_n (pc := 14) hx hb dX11_tableBy_14 rfl (lv_at hl 0 rfl) ?_
  refine va_get (pc := 15) (ci := 11) (v := .ref a11) (C := RX11) (T := TX11) (N := 14) hx hb hts iX11 hown hK hP 0 rfl rfl 11 (by decide) (hts _ tw_431) (fun _ h9 => h9) rfl dX11_tableBy_15 ?_
  refine va_getN (pc := 18) (ci := 1) (v := .ref a14) (C := RX1) (T := TX1) (N := 10) hx hb hts iX1 hown hK hP 1 rfl rfl 0 (by decide) (va_Nw.use rfl (hN _ tn_102)) (fun _ h9 => h9) rfl dX11_tableBy_18 ?_
  exact hret a14 ((fun _ => 0), (fun _ => (fun _ => 0)), (fun _ => (fun _ => 0)), (fun _ => 0), (fun _ => 0)) dX11_tableBy_21 ⟨rfl, (show ((0 = 0)) from (by first | exact (om_1331) | ((first | omega | (unfold zBd at *; omega)))))⟩ (g_psub (wc := (zS_159 cB cC cI cJ a0 a1 a2 a3 a4 a5 a6 a7 a8 a9 a10 x0 a11 a12 a13 a11 a14 a15 a16 x1 x2 x3 x4 x5 x6 x7)) hP [0, 1] rfl) (hD.sub (ws' := (zS_159 cB cC cI cJ a0 a1 a2 a3 a4 a5 a6 a7 a8 a9 a10 x0 a11 a12 a13 a11 a14 a15 a16 x1 x2 x3 x4 x5 x6 x7)) [0, 1] (by decide) rfl) hS
theorem om_1332 : (((¬ 1 = 0))) := by omega
set_option maxHeartbeats 4000000 in
set_option maxRecDepth 100000 in
theorem k_X11_tableBy_1 (l : Launch) (D : va_G) (cB cC cI cJ : ClassId) (sz : Nat) (a0 a1 a2 a3 a4 a5 a6 a7 a8 a9 a10 a11 a12 a13 a14 a15 a16 : Nat) (x0 x1 x2 x3 x4 x5 : Int32) (h_x0 : zBd x0.toInt 0 14) (h_x1 : zBd x1.toInt (-1) 5) (h_x2 : zBd x2.toInt 0 39) (h_x3 : zBd x3.toInt 0 40) (h_x4 : zBd x4.toInt 0 40) (hr_a12_0 : (x3.toInt + x4.toInt ≤ 40)) : Met l yX11_tableBy (.code yX11_tableBy cX11_tableBy 2 (some (.object "ManyOut$Table")) :: lw_gd) ({ frames := 0, cells := 0, slots := 0, locals := 0 }) (gPre D [(cB, .byte), (cC, .char), (cI, .int), (cJ, .long)] [.ref a0, .int 1] (zS_160 cB cC cI cJ a0 a1 a2 a3 a4 a5 a6 a7 a8 a9 a10 x0 a11 a12 a13 a12 a14 a15 a16 x1 x2 x3 x4 x5) sz) (va_Qr (fun u => ((¬ 1 = 0))) (gBr D (va_A (zS_160 cB cC cI cJ a0 a1 a2 a3 a4 a5 a6 a7 a8 a9 a10 x0 a11 a12 a13 a12 a14 a15 a16 x1 x2 x3 x4 x5) sz) (fun u : gEx => (zS_160 cB cC cI cJ a0 a1 a2 a3 a4 a5 a6 a7 a8 a9 a10 x0 a11 a12 a13 a12 a14 a15 a16 x1 x2 x3 x4 x5)) (fun u => a14)) (va_A (zS_160 cB cC cI cJ a0 a1 a2 a3 a4 a5 a6 a7 a8 a9 a10 x0 a11 a12 a13 a12 a14 a15 a16 x1 x2 x3 x4 x5) sz)) 0 0 (va_A (zS_160 cB cC cI cJ a0 a1 a2 a3 a4 a5 a6 a7 a8 a9 a10 x0 a11 a12 a13 a12 a14 a15 a16 x1 x2 x3 x4 x5) sz) := by
  refine gOf_r (by decide +kernel) (Nat.le_of_ble_eq_true rfl) ?_
  intro p e s m args below meth c ls A Q hx hb hts hown hml hN hK hP hD hA hl hret
  replace hown : s.vm.findClass RX11 = some m.cls := hown
  have hS : va_S A s.heap s.heap [] := va_S.rf
  replace hP : va_P D gcl (zS_160 cB cC cI cJ a0 a1 a2 a3 a4 a5 a6 a7 a8 a9 a10 x0 a11 a12 a13 a12 a14 a15 a16 x1 x2 x3 x4 x5) s.heap := hP
  replace hl : lv_has ls 2 [(0, .ref a0), (1, .int 1)] := hl
  have rx5 : zBd x5.toInt (-2147483648) 2147483647 := n_rng x5
  refine lv_iload_n (pc := 0) hx hb dX11_tableBy_0 rfl (lv_at hl 1 rfl) ?_
  refine b_if_eq (pc := 1) (tgt := 14) hx hb tI_1  dX11_tableBy_1 (by decide) (fun c_1 => absurd c_1 (by first | exact (om_26) | ((first | omega | (unfold zBd at *; omega))))) (fun c_1 => ?_)
  refine lv_aload_n (pc := 4) hx hb dX11_tableBy_4 rfl (lv_at hl 0 rfl) ?_
  refine va_get (pc := 5) (ci := 11) (v := .ref a12) (C := RX11) (T := TX11) (N := 14) hx hb hts iX11 hown hK hP 0 rfl rfl 12 (by decide) (hts _ tw_432) (fun _ h9 => h9) rfl dX11_tableBy_5 ?_
  refine va_getN (pc := 8) (ci := 2) (v := .ref a14) (C := RX2) (T := TX2) (N := 8) hx hb hts iX2 hown hK hP 1 rfl rfl 0 (by decide) (va_Nw.use rfl (hN _ tn_392)) (fun _ h9 => h9) rfl dX11_tableBy_8 ?_
  refine lv_goto (pc := 11) (tgt := 21) hx hb dX11_tableBy_11 (by decide) ?_
  exact hret a14 ((fun _ => 0), (fun _ => (fun _ => 0)), (fun _ => (fun _ => 0)), (fun _ => 0), (fun _ => 0)) dX11_tableBy_21 ⟨rfl, (show ((¬ 1 = 0)) from (by first | exact (om_1332) | ((first | omega | (unfold zBd at *; omega)))))⟩ (g_psub (wc := (zS_160 cB cC cI cJ a0 a1 a2 a3 a4 a5 a6 a7 a8 a9 a10 x0 a11 a12 a13 a12 a14 a15 a16 x1 x2 x3 x4 x5)) hP [0, 1] rfl) (hD.sub (ws' := (zS_160 cB cC cI cJ a0 a1 a2 a3 a4 a5 a6 a7 a8 a9 a10 x0 a11 a12 a13 a12 a14 a15 a16 x1 x2 x3 x4 x5)) [0, 1] (by decide) rfl) hS
theorem om_1333 {a : Int} (h0 : (0 ≤ a)) (h1 : (a ≤ 1)) : (a = 0 ∨ a = 1) := by omega
theorem om_1334 {a b c : Int} (h0 : ((b = 0 ∧ a < 0) ∨ (b = 0 ∧ a ≥ 0 ∧ a ≥ c) ∨ (b = 1 ∧ a ≥ 0 ∧ a < c))) (h1 : (¬ b = 0)) (h2 : (c ≤ 6)) : ((0 ≤ a ∧ a ≤ 5)) := by omega
theorem om_1335 {a b c : Int} (h0 : ((b = 0 ∧ a < 0) ∨ (b = 0 ∧ a ≥ 0 ∧ a ≥ c) ∨ (b = 1 ∧ a ≥ 0 ∧ a < c))) (h1 : (¬ b = 0)) (h2 : (c ≤ 5)) : ((0 ≤ a ∧ a ≤ 4)) := by omega
set_option maxHeartbeats 4000000 in
set_option maxRecDepth 100000 in
theorem k_X11_table (l : Launch) (D : va_G) (cB cC cI cJ : ClassId) (sz : Nat) (a0 a1 a2 a3 a4 a5 a6 a7 a8 a9 a10 a11 a12 a13 a14 a15 a16 a17 a18 a19 a20 a21 : Nat) (x0 x1 x2 x3 x4 x5 x6 x7 x8 x9 x10 x11 x12 x13 x14 x15 : Int32) (f0 f1 : Nat → Int32) (hp3 : (0 ≤ x2.toInt ∧ x2.toInt ≤ 1)) (h_x3 : zBd x3.toInt 0 14) (h_x4 : zBd x4.toInt (-1) 8) (h_x5 : zBd x5.toInt (-1) 5) (h_x6 : zBd x6.toInt (-1) 6) (h_x7 : zBd x7.toInt 0 6) (h_x8 : zBd x8.toInt 0 16) (h_x11 : zBd x11.toInt (-1) 5) (h_x12 : zBd x12.toInt 0 39) (h_x13 : zBd x13.toInt 0 40) (h_x14 : zBd x14.toInt 0 40) (hr_a12_0 : (x13.toInt + x14.toInt ≤ 40)) : Met l yX11_table (.code yX11_table cX11_table 4 (some .int) :: lw_gd) ({ frames := 1, cells := 0, slots := 0, locals := 22 }) (gPre D [(cB, .byte), (cC, .char), (cI, .int), (cJ, .long)] [.ref a0, .int x0, .int x1, .int x2] (zS_9 cB cC cI cJ a0 a1 a2 a3 a4 a5 a6 a7 a8 a9 a10 x3 a11 a12 a13 a11 a14 a15 a16 x4 x5 x6 x7 x8 x9 x10 a14 a17 a17 f0 a12 a18 a19 a20 x11 x12 x13 x14 x15 a18 a21 a21 f1) sz) (va_Qi (fun r u => (cvQ r.toInt (rcP x0.toInt x1.toInt x6.toInt x5.toInt) x2.toInt ((f1 (6 * x1.toInt + x0.toInt).toNat).toInt) ((f0 (6 * x1.toInt + x0.toInt).toNat).toInt) (-1000000000))) (gB D (va_A (zS_9 cB cC cI cJ a0 a1 a2 a3 a4 a5 a6 a7 a8 a9 a10 x3 a11 a12 a13 a11 a14 a15 a16 x4 x5 x6 x7 x8 x9 x10 a14 a17 a17 f0 a12 a18 a19 a20 x11 x12 x13 x14 x15 a18 a21 a21 f1) sz) (fun u : gEx => (zS_9 cB cC cI cJ a0 a1 a2 a3 a4 a5 a6 a7 a8 a9 a10 x3 a11 a12 a13 a11 a14 a15 a16 x4 x5 x6 x7 x8 x9 x10 a14 a17 a17 f0 a12 a18 a19 a20 x11 x12 x13 x14 x15 a18 a21 a21 f1))) (va_A (zS_9 cB cC cI cJ a0 a1 a2 a3 a4 a5 a6 a7 a8 a9 a10 x3 a11 a12 a13 a11 a14 a15 a16 x4 x5 x6 x7 x8 x9 x10 a14 a17 a17 f0 a12 a18 a19 a20 x11 x12 x13 x14 x15 a18 a21 a21 f1) sz)) 0 0 (va_A (zS_9 cB cC cI cJ a0 a1 a2 a3 a4 a5 a6 a7 a8 a9 a10 x3 a11 a12 a13 a11 a14 a15 a16 x4 x5 x6 x7 x8 x9 x10 a14 a17 a17 f0 a12 a18 a19 a20 x11 x12 x13 x14 x15 a18 a21 a21 f1) sz) := by
  refine gOf_i (by decide +kernel) (Nat.le_of_ble_eq_true rfl) ?_
  intro p e s m args below meth c ls A Q hx hb hts hown hml hN hK hP hD hA hl hret
  replace hown : s.vm.findClass RX11 = some m.cls := hown
  have hS : va_S A s.heap s.heap [] := va_S.rf
  replace hP : va_P D gcl (zS_9 cB cC cI cJ a0 a1 a2 a3 a4 a5 a6 a7 a8 a9 a10 x3 a11 a12 a13 a11 a14 a15 a16 x4 x5 x6 x7 x8 x9 x10 a14 a17 a17 f0 a12 a18 a19 a20 x11 x12 x13 x14 x15 a18 a21 a21 f1) s.heap := hP
  replace hl : lv_has ls 4 [(0, .ref a0), (1, .int x0), (2, .int x1), (3, .int x2)] := hl
  have rx0 : zBd x0.toInt (-2147483648) 2147483647 := n_rng x0
  have rx1 : zBd x1.toInt (-2147483648) 2147483647 := n_rng x1
  have rx9 : zBd x9.toInt (-2147483648) 2147483647 := n_rng x9
  have rx10 : zBd x10.toInt (-2147483648) 2147483647 := n_rng x10
  have rx15 : zBd x15.toInt (-2147483648) 2147483647 := n_rng x15
  refine lv_aload_n (pc := 0) hx hb dX11_table_0 rfl (lv_at hl 0 rfl) ?_
  refine va_get (pc := 1) (ci := 11) (v := .ref a11) (C := RX11) (T := TX11) (N := 14) hx hb hts iX11 hown hK hP 0 rfl rfl 11 (by decide) (hts _ tw_431) (fun _ h9 => h9) rfl dX11_table_1 ?_
  refine lv_iload_n (pc := 4) hx hb dX11_table_4 rfl (lv_at hl 1 rfl) ?_
  refine gd_i (pc := 5) (wc := (zS_5 cB cC cI cJ a11 a14 a15 a16 x4 x5 x6 x7 x8 x9 x10)) hP hD hS hA [1] rfl (by decide +kernel) (fun _ => by rfl) (fun hPc hDc => va_runV (As := [.int x0]) (rest := []) ⟨hx, hb, hml, hown, hts⟩ (k_X1_isReceiver l D cB cC cI cJ _ a11 a14 a15 a16 x0 x4 x5 x6 x7 x8 x9 x10 h_x4 h_x5 h_x6 h_x7 h_x8) ⟨gcwB hts tw_778 tw_4 tw_775 hd_yX1_isReceiver ⟨Nat.le_of_ble_eq_true rfl, Nat.le_of_ble_eq_true rfl⟩, hts _ tw_776, hts _ tw_777⟩ ⟨gblind, va_recv hK hPc (ci := 1) (q0 := 0) rfl rfl, (gpreS hPc hK hDc hN).2⟩ rfl rfl hl.1 rfl (lv_room (Nat.le_of_ble_eq_true rfl)) dX11_table_5 ⟨Nat.le_of_ble_eq_true rfl, Nat.le_of_ble_eq_true rfl⟩) (fun r_2 u_1 H locs hw_3 hP hD hS => ?_)
  replace hP : va_P D gcl (zS_9 cB cC cI cJ a0 a1 a2 a3 a4 a5 a6 a7 a8 a9 a10 x3 a11 a12 a13 a11 a14 a15 a16 x4 x5 x6 x7 x8 x9 x10 a14 a17 a17 f0 a12 a18 a19 a20 x11 x12 x13 x14 x15 a18 a21 a21 f1) H := hP
  replace hD : va_D A (zS_9 cB cC cI cJ a0 a1 a2 a3 a4 a5 a6 a7 a8 a9 a10 x3 a11 a12 a13 a11 a14 a15 a16 x4 x5 x6 x7 x8 x9 x10 a14 a17 a17 f0 a12 a18 a19 a20 x11 x12 x13 x14 x15 a18 a21 a21 f1) := hD
  have hw_4 : ((r_2.toInt = 0 ∧ x0.toInt < 0) ∨ (r_2.toInt = 0 ∧ x0.toInt ≥ 0 ∧ x0.toInt ≥ x6.toInt) ∨ (r_2.toInt = 1 ∧ x0.toInt ≥ 0 ∧ x0.toInt < x6.toInt)) := hw_3
  have rr_2 : zBd r_2.toInt (-2147483648) 2147483647 := n_rng r_2
  refine b_if_eq (pc := 8) (tgt := 22) hx hb rfl  dX11_table_8 (by decide) (fun c_5 => ?_) (fun c_5 => ?_)
  ·
    refine lv_ldc (pc := 22) hx hb hown (hts _ tw_783) dX11_table_22 ?_
    have k9 := tI_m1000000000
    exact hret (-1000000000) ((fun _ => 0), (fun _ => (fun _ => 0)), (fun _ => (fun _ => 0)), (fun _ => 0), (fun _ => 0)) dX11_table_24 (show cvQ ((-1000000000) : Int32).toInt (rcP x0.toInt x1.toInt x6.toInt x5.toInt) x2.toInt ((f1 (6 * x1.toInt + x0.toInt).toNat).toInt) ((f0 (6 * x1.toInt + x0.toInt).toNat).toInt) (-1000000000) from cv_n (by unfold rcP; (first | omega | (unfold zBd at *; omega))) (by first | exact (om_320 tI_m1000000000) | ((first | omega | (unfold zBd at *; omega))))) (g_psub (wc := (zS_9 cB cC cI cJ a0 a1 a2 a3 a4 a5 a6 a7 a8 a9 a10 x3 a11 a12 a13 a11 a14 a15 a16 x4 x5 x6 x7 x8 x9 x10 a14 a17 a17 f0 a12 a18 a19 a20 x11 x12 x13 x14 x15 a18 a21 a21 f1)) hP [0, 1, 2, 3, 4, 5, 6] rfl) (hD.sub (ws' := (zS_9 cB cC cI cJ a0 a1 a2 a3 a4 a5 a6 a7 a8 a9 a10 x3 a11 a12 a13 a11 a14 a15 a16 x4 x5 x6 x7 x8 x9 x10 a14 a17 a17 f0 a12 a18 a19 a20 x11 x12 x13 x14 x15 a18 a21 a21 f1)) [0, 1, 2, 3, 4, 5, 6] (by decide) rfl) hS
  ·
    refine lv_aload_n (pc := 11) hx hb dX11_table_11 rfl (lv_at hl 0 rfl) ?_
    refine va_get (pc := 12) (ci := 11) (v := .ref a11) (C := RX11) (T := TX11) (N := 14) hx hb hts iX11 hown hK hP 0 rfl rfl 11 (by decide) (hts _ tw_431) (fun _ h9 => h9) rfl dX11_table_12 ?_
    refine lv_iload_n (pc := 15) hx hb dX11_table_15 rfl (lv_at hl 2 rfl) ?_
    refine gd_i (pc := 16) (wc := (zS_5 cB cC cI cJ a11 a14 a15 a16 x4 x5 x6 x7 x8 x9 x10)) hP hD hS hA [1] rfl (by decide +kernel) (fun _ => by rfl) (fun hPc hDc => va_runV (As := [.int x1]) (rest := []) ⟨hx, hb, hml, hown, hts⟩ (k_X1_isSender l D cB cC cI cJ _ a11 a14 a15 a16 x1 x4 x5 x6 x7 x8 x9 x10 h_x4 h_x5 h_x6 h_x7 h_x8) ⟨gcwB hts tw_782 tw_4 tw_779 hd_yX1_isSender ⟨Nat.le_of_ble_eq_true rfl, Nat.le_of_ble_eq_true rfl⟩, hts _ tw_780, hts _ tw_781⟩ ⟨gblind, va_recv hK hPc (ci := 1) (q0 := 0) rfl rfl, (gpreS hPc hK hDc hN).2⟩ rfl rfl hl.1 rfl (lv_room (Nat.le_of_ble_eq_true rfl)) dX11_table_16 ⟨Nat.le_of_ble_eq_true rfl, Nat.le_of_ble_eq_true rfl⟩) (fun r_7 u_6 H locs hw_8 hP hD hS => ?_)
    replace hP : va_P D gcl (zS_9 cB cC cI cJ a0 a1 a2 a3 a4 a5 a6 a7 a8 a9 a10 x3 a11 a12 a13 a11 a14 a15 a16 x4 x5 x6 x7 x8 x9 x10 a14 a17 a17 f0 a12 a18 a19 a20 x11 x12 x13 x14 x15 a18 a21 a21 f1) H := hP
    replace hD : va_D A (zS_9 cB cC cI cJ a0 a1 a2 a3 a4 a5 a6 a7 a8 a9 a10 x3 a11 a12 a13 a11 a14 a15 a16 x4 x5 x6 x7 x8 x9 x10 a14 a17 a17 f0 a12 a18 a19 a20 x11 x12 x13 x14 x15 a18 a21 a21 f1) := hD
    have hw_9 : ((r_7.toInt = 0 ∧ x1.toInt < 0) ∨ (r_7.toInt = 0 ∧ x1.toInt ≥ 0 ∧ x1.toInt ≥ x5.toInt) ∨ (r_7.toInt = 1 ∧ x1.toInt ≥ 0 ∧ x1.toInt < x5.toInt)) := hw_8
    have rr_7 : zBd r_7.toInt (-2147483648) 2147483647 := n_rng r_7
    refine b_if_ne (pc := 19) (tgt := 25) hx hb rfl  dX11_table_19 (by decide) (fun c_10 => ?_) (fun c_10 => ?_)
    ·
      refine lv_aload_n (pc := 25) hx hb dX11_table_25 rfl (lv_at hl 0 rfl) ?_
      refine lv_iload_n (pc := 26) hx hb dX11_table_26 rfl (lv_at hl 3 rfl) ?_
      rcases (show x2.toInt = 0 ∨ x2.toInt = 1 from (by first | exact (om_1333 hp3.1 hp3.2) | ((first | omega | (unfold zBd at *; omega))))) with h_11 | h_11
      ·
        refine gI (pc := 27) (y := 0) (Int32.toInt_inj.mp (h_11.trans tI_0.symm)) ?_
        refine gd_r (pc := 27) (wc := (zS_159 cB cC cI cJ a0 a1 a2 a3 a4 a5 a6 a7 a8 a9 a10 x3 a11 a12 a13 a11 a14 a15 a16 x4 x5 x6 x7 x8 x9 x10)) hP hD hS hA [0, 1] rfl (by decide +kernel) (fun _ => by rfl) (fun hPc hDc => va_runV (As := [.int 0]) (rest := []) ⟨hx, hb, hml, hown, hts⟩ (k_X11_tableBy_0 l D cB cC cI cJ _ a0 a1 a2 a3 a4 a5 a6 a7 a8 a9 a10 a11 a12 a13 a14 a15 a16 x3 x4 x5 x6 x7 x8 x9 x10 h_x3 h_x4 h_x5 h_x6 h_x7 h_x8) ⟨gcwB hts tw_787 tw_1 tw_784 hd_yX11_tableBy ⟨Nat.le_of_ble_eq_true rfl, Nat.le_of_ble_eq_true rfl⟩, hts _ tw_786, hts _ tp_28⟩ ⟨gblind, va_recv hK hPc (ci := 11) (q0 := 0) rfl rfl, (gpreS hPc hK hDc hN).2⟩ rfl rfl hl.1 rfl (lv_room (Nat.le_of_ble_eq_true rfl)) dX11_table_27 ⟨Nat.le_of_ble_eq_true rfl, Nat.le_of_ble_eq_true rfl⟩) (fun u_12 r_13 H locs hw_14 hP hD hS => ?_)
        replace hP : va_P D gcl (zS_9 cB cC cI cJ a0 a1 a2 a3 a4 a5 a6 a7 a8 a9 a10 x3 a11 a12 a13 a11 a14 a15 a16 x4 x5 x6 x7 x8 x9 x10 a14 a17 a17 f0 a12 a18 a19 a20 x11 x12 x13 x14 x15 a18 a21 a21 f1) H := hP
        replace hD : va_D A (zS_9 cB cC cI cJ a0 a1 a2 a3 a4 a5 a6 a7 a8 a9 a10 x3 a11 a12 a13 a11 a14 a15 a16 x4 x5 x6 x7 x8 x9 x10 a14 a17 a17 f0 a12 a18 a19 a20 x11 x12 x13 x14 x15 a18 a21 a21 f1) := hD
        replace hw_14 : r_13 = a14 := hw_14
        rw [hw_14]
        refine lv_iload_n (pc := 30) hx hb dX11_table_30 rfl (lv_at hl 1 rfl) ?_
        refine lv_iload_n (pc := 31) hx hb dX11_table_31 rfl (lv_at hl 2 rfl) ?_
        refine gd_i (pc := 32) (wc := [(a14, .inr (8, [.ref a17])), (a17, .inl (cI, 30, .inl f0))]) hP hD hS hA [2, 3] rfl (by decide +kernel) (fun _ => by rfl) (fun hPc hDc => va_runV (As := [.int x0, .int x1]) (rest := []) ⟨hx, hb, hml, hown, hts⟩ (k_X8_at_e l D cB cC cI cJ _ a14 a17 x0 x1 f0 (by first | exact (om_1334 hw_4 c_5 h_x6.2) | ((first | omega | (unfold zBd at *; omega)))) (by first | exact (om_1335 hw_9 c_10 h_x5.2) | ((first | omega | (unfold zBd at *; omega))))) ⟨gcwB hts tw_791 tw_5 tw_788 hd_yX8_at ⟨Nat.le_of_ble_eq_true rfl, Nat.le_of_ble_eq_true rfl⟩, hts _ tw_789, hts _ tw_790⟩ ⟨gblind, va_recv hK hPc (ci := 8) (q0 := 0) rfl rfl, (gpreS hPc hK hDc hN).2⟩ rfl rfl hl.1 rfl (lv_room (Nat.le_of_ble_eq_true rfl)) dX11_table_32 ⟨Nat.le_of_ble_eq_true rfl, Nat.le_of_ble_eq_true rfl⟩) (fun r_17 u_16 H locs hw_18 hP hD hS => ?_)
        replace hP : va_P D gcl (zS_9 cB cC cI cJ a0 a1 a2 a3 a4 a5 a6 a7 a8 a9 a10 x3 a11 a12 a13 a11 a14 a15 a16 x4 x5 x6 x7 x8 x9 x10 a14 a17 a17 f0 a12 a18 a19 a20 x11 x12 x13 x14 x15 a18 a21 a21 f1) H := hP
        replace hD : va_D A (zS_9 cB cC cI cJ a0 a1 a2 a3 a4 a5 a6 a7 a8 a9 a10 x3 a11 a12 a13 a11 a14 a15 a16 x4 x5 x6 x7 x8 x9 x10 a14 a17 a17 f0 a12 a18 a19 a20 x11 x12 x13 x14 x15 a18 a21 a21 f1) := hD
        have hw_19 : (r_17 = f0 (6 * x1.toInt + x0.toInt).toNat) := hw_18
        have rr_17 : zBd r_17.toInt (-2147483648) 2147483647 := n_rng r_17
        exact hret r_17 ((fun _ => 0), (fun _ => (fun _ => 0)), (fun _ => (fun _ => 0)), (fun _ => 0), (fun _ => 0)) dX11_table_35 (show cvQ r_17.toInt (rcP x0.toInt x1.toInt x6.toInt x5.toInt) x2.toInt ((f1 (6 * x1.toInt + x0.toInt).toNat).toInt) ((f0 (6 * x1.toInt + x0.toInt).toNat).toInt) (-1000000000) from cv_0 (by unfold rcP; (first | omega | (unfold zBd at *; omega))) (by first | exact (om_31 h_11) | ((first | omega | (unfold zBd at *; omega)))) (congrArg Int32.toInt hw_19)) (g_psub (wc := (zS_9 cB cC cI cJ a0 a1 a2 a3 a4 a5 a6 a7 a8 a9 a10 x3 a11 a12 a13 a11 a14 a15 a16 x4 x5 x6 x7 x8 x9 x10 a14 a17 a17 f0 a12 a18 a19 a20 x11 x12 x13 x14 x15 a18 a21 a21 f1)) hP [0, 1, 2, 3, 4, 5, 6] rfl) (hD.sub (ws' := (zS_9 cB cC cI cJ a0 a1 a2 a3 a4 a5 a6 a7 a8 a9 a10 x3 a11 a12 a13 a11 a14 a15 a16 x4 x5 x6 x7 x8 x9 x10 a14 a17 a17 f0 a12 a18 a19 a20 x11 x12 x13 x14 x15 a18 a21 a21 f1)) [0, 1, 2, 3, 4, 5, 6] (by decide) rfl) hS
      ·
        refine gI (pc := 27) (y := 1) (Int32.toInt_inj.mp (h_11.trans tI_1.symm)) ?_
        refine gd_r (pc := 27) (wc := (zS_160 cB cC cI cJ a0 a1 a2 a3 a4 a5 a6 a7 a8 a9 a10 x3 a11 a12 a13 a12 a18 a19 a20 x11 x12 x13 x14 x15)) hP hD hS hA [0, 4] rfl (by decide +kernel) (fun _ => by rfl) (fun hPc hDc => va_runV (As := [.int 1]) (rest := []) ⟨hx, hb, hml, hown, hts⟩ (k_X11_tableBy_1 l D cB cC cI cJ _ a0 a1 a2 a3 a4 a5 a6 a7 a8 a9 a10 a11 a12 a13 a18 a19 a20 x3 x11 x12 x13 x14 x15 h_x3 h_x11 h_x12 h_x13 h_x14 hr_a12_0) ⟨gcwB hts tw_787 tw_1 tw_784 hd_yX11_tableBy ⟨Nat.le_of_ble_eq_true rfl, Nat.le_of_ble_eq_true rfl⟩, hts _ tw_786, hts _ tp_28⟩ ⟨gblind, va_recv hK hPc (ci := 11) (q0 := 0) rfl rfl, (gpreS hPc hK hDc hN).2⟩ rfl rfl hl.1 rfl (lv_room (Nat.le_of_ble_eq_true rfl)) dX11_table_27 ⟨Nat.le_of_ble_eq_true rfl, Nat.le_of_ble_eq_true rfl⟩) (fun u_20 r_21 H locs hw_22 hP hD hS => ?_)
        replace hP : va_P D gcl (zS_9 cB cC cI cJ a0 a1 a2 a3 a4 a5 a6 a7 a8 a9 a10 x3 a11 a12 a13 a11 a14 a15 a16 x4 x5 x6 x7 x8 x9 x10 a14 a17 a17 f0 a12 a18 a19 a20 x11 x12 x13 x14 x15 a18 a21 a21 f1) H := hP
        replace hD : va_D A (zS_9 cB cC cI cJ a0 a1 a2 a3 a4 a5 a6 a7 a8 a9 a10 x3 a11 a12 a13 a11 a14 a15 a16 x4 x5 x6 x7 x8 x9 x10 a14 a17 a17 f0 a12 a18 a19 a20 x11 x12 x13 x14 x15 a18 a21 a21 f1) := hD
        replace hw_22 : r_21 = a18 := hw_22
        rw [hw_22]
        refine lv_iload_n (pc := 30) hx hb dX11_table_30 rfl (lv_at hl 1 rfl) ?_
        refine lv_iload_n (pc := 31) hx hb dX11_table_31 rfl (lv_at hl 2 rfl) ?_
        refine gd_i (pc := 32) (wc := [(a18, .inr (8, [.ref a21])), (a21, .inl (cI, 30, .inl f1))]) hP hD hS hA [5, 6] rfl (by decide +kernel) (fun _ => by rfl) (fun hPc hDc => va_runV (As := [.int x0, .int x1]) (rest := []) ⟨hx, hb, hml, hown, hts⟩ (k_X8_at_e l D cB cC cI cJ _ a18 a21 x0 x1 f1 (by first | exact (om_1334 hw_4 c_5 h_x6.2) | ((first | omega | (unfold zBd at *; omega)))) (by first | exact (om_1335 hw_9 c_10 h_x5.2) | ((first | omega | (unfold zBd at *; omega))))) ⟨gcwB hts tw_791 tw_5 tw_788 hd_yX8_at ⟨Nat.le_of_ble_eq_true rfl, Nat.le_of_ble_eq_true rfl⟩, hts _ tw_789, hts _ tw_790⟩ ⟨gblind, va_recv hK hPc (ci := 8) (q0 := 0) rfl rfl, (gpreS hPc hK hDc hN).2⟩ rfl rfl hl.1 rfl (lv_room (Nat.le_of_ble_eq_true rfl)) dX11_table_32 ⟨Nat.le_of_ble_eq_true rfl, Nat.le_of_ble_eq_true rfl⟩) (fun r_25 u_24 H locs hw_26 hP hD hS => ?_)
        replace hP : va_P D gcl (zS_9 cB cC cI cJ a0 a1 a2 a3 a4 a5 a6 a7 a8 a9 a10 x3 a11 a12 a13 a11 a14 a15 a16 x4 x5 x6 x7 x8 x9 x10 a14 a17 a17 f0 a12 a18 a19 a20 x11 x12 x13 x14 x15 a18 a21 a21 f1) H := hP
        replace hD : va_D A (zS_9 cB cC cI cJ a0 a1 a2 a3 a4 a5 a6 a7 a8 a9 a10 x3 a11 a12 a13 a11 a14 a15 a16 x4 x5 x6 x7 x8 x9 x10 a14 a17 a17 f0 a12 a18 a19 a20 x11 x12 x13 x14 x15 a18 a21 a21 f1) := hD
        have hw_27 : (r_25 = f1 (6 * x1.toInt + x0.toInt).toNat) := hw_26
        have rr_25 : zBd r_25.toInt (-2147483648) 2147483647 := n_rng r_25
        exact hret r_25 ((fun _ => 0), (fun _ => (fun _ => 0)), (fun _ => (fun _ => 0)), (fun _ => 0), (fun _ => 0)) dX11_table_35 (show cvQ r_25.toInt (rcP x0.toInt x1.toInt x6.toInt x5.toInt) x2.toInt ((f1 (6 * x1.toInt + x0.toInt).toNat).toInt) ((f0 (6 * x1.toInt + x0.toInt).toNat).toInt) (-1000000000) from cv_1 (by unfold rcP; (first | omega | (unfold zBd at *; omega))) (by first | exact (om_36 h_11) | ((first | omega | (unfold zBd at *; omega)))) (congrArg Int32.toInt hw_27)) (g_psub (wc := (zS_9 cB cC cI cJ a0 a1 a2 a3 a4 a5 a6 a7 a8 a9 a10 x3 a11 a12 a13 a11 a14 a15 a16 x4 x5 x6 x7 x8 x9 x10 a14 a17 a17 f0 a12 a18 a19 a20 x11 x12 x13 x14 x15 a18 a21 a21 f1)) hP [0, 1, 2, 3, 4, 5, 6] rfl) (hD.sub (ws' := (zS_9 cB cC cI cJ a0 a1 a2 a3 a4 a5 a6 a7 a8 a9 a10 x3 a11 a12 a13 a11 a14 a15 a16 x4 x5 x6 x7 x8 x9 x10 a14 a17 a17 f0 a12 a18 a19 a20 x11 x12 x13 x14 x15 a18 a21 a21 f1)) [0, 1, 2, 3, 4, 5, 6] (by decide) rfl) hS
    ·
      refine lv_ldc (pc := 22) hx hb hown (hts _ tw_783) dX11_table_22 ?_
      have k9 := tI_m1000000000
      exact hret (-1000000000) ((fun _ => 0), (fun _ => (fun _ => 0)), (fun _ => (fun _ => 0)), (fun _ => 0), (fun _ => 0)) dX11_table_24 (show cvQ ((-1000000000) : Int32).toInt (rcP x0.toInt x1.toInt x6.toInt x5.toInt) x2.toInt ((f1 (6 * x1.toInt + x0.toInt).toNat).toInt) ((f0 (6 * x1.toInt + x0.toInt).toNat).toInt) (-1000000000) from cv_n (by unfold rcP; (first | omega | (unfold zBd at *; omega))) (by first | exact (om_320 tI_m1000000000) | ((first | omega | (unfold zBd at *; omega))))) (g_psub (wc := (zS_9 cB cC cI cJ a0 a1 a2 a3 a4 a5 a6 a7 a8 a9 a10 x3 a11 a12 a13 a11 a14 a15 a16 x4 x5 x6 x7 x8 x9 x10 a14 a17 a17 f0 a12 a18 a19 a20 x11 x12 x13 x14 x15 a18 a21 a21 f1)) hP [0, 1, 2, 3, 4, 5, 6] rfl) (hD.sub (ws' := (zS_9 cB cC cI cJ a0 a1 a2 a3 a4 a5 a6 a7 a8 a9 a10 x3 a11 a12 a13 a11 a14 a15 a16 x4 x5 x6 x7 x8 x9 x10 a14 a17 a17 f0 a12 a18 a19 a20 x11 x12 x13 x14 x15 a18 a21 a21 f1)) [0, 1, 2, 3, 4, 5, 6] (by decide) rfl) hS
