set_option maxHeartbeats 4000000 in
set_option maxRecDepth 100000 in
theorem k_X7_leastWith (l : Launch) (D : va_G) (cB cC cI cJ : ClassId) (sz : Nat) (a0 a1 a2 a3 a4 a5 a6 a7 a8 : Nat) (x0 x1 x2 x3 : Int32) (y0 : Int64) (g0 : Nat → Int64) (hp1 : (0 ≤ x0.toInt ∧ x0.toInt ≤ 4)) (hp2 : (0 ≤ x1.toInt ∧ x1.toInt ≤ 7)) (h_x2 : zBd x2.toInt 0 10) (h_x3 : zBd x3.toInt 0 1) : Met l yX7_leastWith (.code yX7_leastWith cX7_leastWith 3 (some .long) :: lw_gd) ({ frames := 0, cells := 0, slots := 0, locals := 0 }) (gPre D [(cB, .byte), (cC, .char), (cI, .int), (cJ, .long)] [.ref a0, .int x0, .int x1] [(a0, .inr (7, [.ref a1, .ref a2, .ref a3, .ref a4, .ref a5, .ref a6, .ref a7, .ref a8, .int x2, .long y0, .int x3])), (a4, .inl (cJ, 40, .inr (.inl g0)))] sz) (va_Ql (fun r u => ((((-9223372036854775808) ≤ r.toInt ∧ r.toInt ≤ 9223372036854775807)))) (gB D (va_A [(a0, .inr (7, [.ref a1, .ref a2, .ref a3, .ref a4, .ref a5, .ref a6, .ref a7, .ref a8, .int x2, .long y0, .int x3])), (a4, .inl (cJ, 40, .inr (.inl g0)))] sz) (fun u : gEx => [(a0, .inr (7, [.ref a1, .ref a2, .ref a3, .ref a4, .ref a5, .ref a6, .ref a7, .ref a8, .int x2, .long y0, .int x3])), (a4, .inl (cJ, 40, .inr (.inl g0)))])) (va_A [(a0, .inr (7, [.ref a1, .ref a2, .ref a3, .ref a4, .ref a5, .ref a6, .ref a7, .ref a8, .int x2, .long y0, .int x3])), (a4, .inl (cJ, 40, .inr (.inl g0)))] sz)) 0 0 (va_A [(a0, .inr (7, [.ref a1, .ref a2, .ref a3, .ref a4, .ref a5, .ref a6, .ref a7, .ref a8, .int x2, .long y0, .int x3])), (a4, .inl (cJ, 40, .inr (.inl g0)))] sz) := by
  refine gOf_l (by decide +kernel) (Nat.le_of_ble_eq_true rfl) ?_
  intro p e s m args below meth c ls A Q hx hb hts hown hml hN hK hP hD hA hl hret
  replace hown : s.vm.findClass RX7 = some m.cls := hown
  have hS : va_S A s.heap s.heap [] := va_S.rf
  replace hP : va_P D gcl [(a0, .inr (7, [.ref a1, .ref a2, .ref a3, .ref a4, .ref a5, .ref a6, .ref a7, .ref a8, .int x2, .long y0, .int x3])), (a4, .inl (cJ, 40, .inr (.inl g0)))] s.heap := hP
  replace hl : lv_has ls 3 [(0, .ref a0), (1, .int x0), (2, .int x1)] := hl
  have ry0 := n_rngL y0
  refine lv_aload_n (pc := 0) hx hb dX7_leastWith_0 rfl (lv_at hl 0 rfl) ?_
  refine va_get (pc := 1) (ci := 7) (v := .ref a4) (C := RX7) (T := TX7) (N := 11) hx hb hts iX7 hown hK hP 0 rfl rfl 3 (by decide) (hts _ tw_247) (fun _ h9 => h9) rfl dX7_leastWith_1 ?_
  refine lv_iload_n (pc := 4) hx hb dX7_leastWith_4 rfl (lv_at hl 1 rfl) ?_
  refine lv_bipush (pc := 5) (v := 8) hx hb dX7_leastWith_5 (by decide) ?_
  refine b_imul (pc := 7) hx hb rfl tI_8 (by (first | omega | (unfold zBd at *; omega))) (by (first | omega | (unfold zBd at *; omega))) dX7_leastWith_7 (fun x_1 ex_1 => ?_)
  refine lv_iload_n (pc := 8) hx hb dX7_leastWith_8 rfl (lv_at hl 2 rfl) ?_
  refine b_iadd (pc := 9) hx hb rfl rfl (by (first | omega | (unfold zBd at *; omega))) (by (first | omega | (unfold zBd at *; omega))) dX7_leastWith_9 (fun x_2 ex_2 => ?_)
  refine va_lald (pc := 10) hx hb hK hP 1 3 rfl rfl (n_in rfl (by (first | omega | (unfold zBd at *; omega))) (by (first | omega | (unfold zBd at *; omega)))) dX7_leastWith_10 ?_
  refine lv_topl (fun y_3 ey_3 => ?_)
  have ry_3 := n_rngL y_3
  exact hret y_3 ((fun _ => 0), (fun _ => (fun _ => 0)), (fun _ => (fun _ => 0)), (fun _ => 0), (fun _ => 0)) dX7_leastWith_11 (show ((((-9223372036854775808) ≤ y_3.toInt ∧ y_3.toInt ≤ 9223372036854775807))) by (first | omega | (unfold zBd at *; omega))) (g_psub (wc := [(a0, .inr (7, [.ref a1, .ref a2, .ref a3, .ref a4, .ref a5, .ref a6, .ref a7, .ref a8, .int x2, .long y0, .int x3])), (a4, .inl (cJ, 40, .inr (.inl g0)))]) hP [0, 1] rfl) (hD.sub (ws' := [(a0, .inr (7, [.ref a1, .ref a2, .ref a3, .ref a4, .ref a5, .ref a6, .ref a7, .ref a8, .int x2, .long y0, .int x3])), (a4, .inl (cJ, 40, .inr (.inl g0)))]) [0, 1] (by decide) rfl) hS
set_option maxHeartbeats 4000000 in
set_option maxRecDepth 100000 in
theorem k_X7_shareOf (l : Launch) (D : va_G) (cB cC cI cJ : ClassId) (sz : Nat) (a0 a1 a2 a3 a4 a5 a6 a7 a8 : Nat) (x0 x1 x2 x3 : Int32) (y0 : Int64) (g0 : Nat → Int64) (hp1 : (0 ≤ x0.toInt ∧ x0.toInt ≤ 4)) (hp2 : (0 ≤ x1.toInt ∧ x1.toInt ≤ 7)) (h_x2 : zBd x2.toInt 0 10) (h_x3 : zBd x3.toInt 0 1) : Met l yX7_shareOf (.code yX7_shareOf cX7_shareOf 3 (some .int) :: lw_gd) ({ frames := 0, cells := 0, slots := 0, locals := 0 }) (gPre D [(cB, .byte), (cC, .char), (cI, .int), (cJ, .long)] [.ref a0, .int x0, .int x1] [(a0, .inr (7, [.ref a1, .ref a2, .ref a3, .ref a4, .ref a5, .ref a6, .ref a7, .ref a8, .int x2, .long y0, .int x3])), (a5, .inl (cJ, 40, .inr (.inl g0)))] sz) (va_Qi (fun r u => ((((-2147483648) ≤ r.toInt ∧ r.toInt ≤ 2147483647) ∧ y0.toInt > 0) ∨ (r.toInt = 0 ∧ y0.toInt ≤ 0))) (gB D (va_A [(a0, .inr (7, [.ref a1, .ref a2, .ref a3, .ref a4, .ref a5, .ref a6, .ref a7, .ref a8, .int x2, .long y0, .int x3])), (a5, .inl (cJ, 40, .inr (.inl g0)))] sz) (fun u : gEx => [(a0, .inr (7, [.ref a1, .ref a2, .ref a3, .ref a4, .ref a5, .ref a6, .ref a7, .ref a8, .int x2, .long y0, .int x3])), (a5, .inl (cJ, 40, .inr (.inl g0)))])) (va_A [(a0, .inr (7, [.ref a1, .ref a2, .ref a3, .ref a4, .ref a5, .ref a6, .ref a7, .ref a8, .int x2, .long y0, .int x3])), (a5, .inl (cJ, 40, .inr (.inl g0)))] sz)) 0 0 (va_A [(a0, .inr (7, [.ref a1, .ref a2, .ref a3, .ref a4, .ref a5, .ref a6, .ref a7, .ref a8, .int x2, .long y0, .int x3])), (a5, .inl (cJ, 40, .inr (.inl g0)))] sz) := by
  refine gOf_i (by decide +kernel) (Nat.le_of_ble_eq_true rfl) ?_
  intro p e s m args below meth c ls A Q hx hb hts hown hml hN hK hP hD hA hl hret
  replace hown : s.vm.findClass RX7 = some m.cls := hown
  have hS : va_S A s.heap s.heap [] := va_S.rf
  replace hP : va_P D gcl [(a0, .inr (7, [.ref a1, .ref a2, .ref a3, .ref a4, .ref a5, .ref a6, .ref a7, .ref a8, .int x2, .long y0, .int x3])), (a5, .inl (cJ, 40, .inr (.inl g0)))] s.heap := hP
  replace hl : lv_has ls 3 [(0, .ref a0), (1, .int x0), (2, .int x1)] := hl
  have ry0 := n_rngL y0
  refine lv_aload_n (pc := 0) hx hb dX7_shareOf_0 rfl (lv_at hl 0 rfl) ?_
  refine va_get (pc := 1) (ci := 7) (v := .long y0) (C := RX7) (T := TX7) (N := 11) hx hb hts iX7 hown hK hP 0 rfl rfl 9 (by decide) (hts _ tw_256) (fun _ h9 => h9) rfl dX7_shareOf_1 ?_
  refine lv_lconst (pc := 4) (v := 0) hx hb dX7_shareOf_4 (by decide) ?_
  refine b_lcmp_gt (pc := 5) (tgt := 11) hx hb rfl tL_0 dX7_shareOf_5 dX7_shareOf_6 (by decide) (fun c_1 => ?_) (fun c_1 => ?_)
  ·
    refine lv_ldc2 (pc := 11) hx hb hown (hts _ tw_1021) dX7_shareOf_11 ?_
    refine lv_aload_n (pc := 14) hx hb dX7_shareOf_14 rfl (lv_at hl 0 rfl) ?_
    refine va_get (pc := 15) (ci := 7) (v := .ref a5) (C := RX7) (T := TX7) (N := 11) hx hb hts iX7 hown hK hP 0 rfl rfl 4 (by decide) (hts _ tw_248) (fun _ h9 => h9) rfl dX7_shareOf_15 ?_
    refine lv_iload_n (pc := 18) hx hb dX7_shareOf_18 rfl (lv_at hl 1 rfl) ?_
    refine lv_bipush (pc := 19) (v := 8) hx hb dX7_shareOf_19 (by decide) ?_
    refine b_imul (pc := 21) hx hb rfl tI_8 (by (first | omega | (unfold zBd at *; omega))) (by (first | omega | (unfold zBd at *; omega))) dX7_shareOf_21 (fun x_2 ex_2 => ?_)
    refine lv_iload_n (pc := 22) hx hb dX7_shareOf_22 rfl (lv_at hl 2 rfl) ?_
    refine b_iadd (pc := 23) hx hb rfl rfl (by (first | omega | (unfold zBd at *; omega))) (by (first | omega | (unfold zBd at *; omega))) dX7_shareOf_23 (fun x_3 ex_3 => ?_)
    refine va_lald (pc := 24) hx hb hK hP 1 3 rfl rfl (n_in rfl (by (first | omega | (unfold zBd at *; omega))) (by (first | omega | (unfold zBd at *; omega)))) dX7_shareOf_24 ?_
    refine lv_topl (fun y_4 ey_4 => ?_)
    have ry_4 := n_rngL y_4
    refine lv_lmul (pc := 25) hx hb dX7_shareOf_25 ?_
    refine lv_topl (fun y_5 _ => ?_)
    have ry_5 := n_rngL y_5
    refine lv_aload_n (pc := 26) hx hb dX7_shareOf_26 rfl (lv_at hl 0 rfl) ?_
    refine va_get (pc := 27) (ci := 7) (v := .long y0) (C := RX7) (T := TX7) (N := 11) hx hb hts iX7 hown hK hP 0 rfl rfl 9 (by decide) (hts _ tw_256) (fun _ h9 => h9) rfl dX7_shareOf_27 ?_
    refine lv_ldiv (pc := 30) hx hb dX7_shareOf_30 (fun h => by have q := congrArg Int64.toInt h; have k := tL_0; (first | omega | (unfold zBd at *; omega))) ?_
    refine lv_topl (fun y_6 _ => ?_)
    have ry_6 := n_rngL y_6
    refine lv_l2i (pc := 31) hx hb dX7_shareOf_31 rfl ?_
    refine lv_topi (fun x_7 _ => ?_)
    have rx_7 : zBd x_7.toInt (-2147483648) 2147483647 := n_rng x_7
    exact hret x_7 ((fun _ => 0), (fun _ => (fun _ => 0)), (fun _ => (fun _ => 0)), (fun _ => 0), (fun _ => 0)) dX7_shareOf_32 (show ((((-2147483648) ≤ x_7.toInt ∧ x_7.toInt ≤ 2147483647) ∧ y0.toInt > 0) ∨ (x_7.toInt = 0 ∧ y0.toInt ≤ 0)) by (first | omega | (unfold zBd at *; omega))) (g_psub (wc := [(a0, .inr (7, [.ref a1, .ref a2, .ref a3, .ref a4, .ref a5, .ref a6, .ref a7, .ref a8, .int x2, .long y0, .int x3])), (a5, .inl (cJ, 40, .inr (.inl g0)))]) hP [0, 1] rfl) (hD.sub (ws' := [(a0, .inr (7, [.ref a1, .ref a2, .ref a3, .ref a4, .ref a5, .ref a6, .ref a7, .ref a8, .int x2, .long y0, .int x3])), (a5, .inl (cJ, 40, .inr (.inl g0)))]) [0, 1] (by decide) rfl) hS
  ·
    refine lv_iconst (pc := 9) (v := 0) hx hb dX7_shareOf_9 (by decide) ?_
    exact hret 0 ((fun _ => 0), (fun _ => (fun _ => 0)), (fun _ => (fun _ => 0)), (fun _ => 0), (fun _ => 0)) dX7_shareOf_10 (show ((((-2147483648) ≤ (0 : Int32).toInt ∧ (0 : Int32).toInt ≤ 2147483647) ∧ y0.toInt > 0) ∨ ((0 : Int32).toInt = 0 ∧ y0.toInt ≤ 0)) by have k9 := tI_0; (first | omega | (unfold zBd at *; omega))) (g_psub (wc := [(a0, .inr (7, [.ref a1, .ref a2, .ref a3, .ref a4, .ref a5, .ref a6, .ref a7, .ref a8, .int x2, .long y0, .int x3])), (a5, .inl (cJ, 40, .inr (.inl g0)))]) hP [0, 1] rfl) (hD.sub (ws' := [(a0, .inr (7, [.ref a1, .ref a2, .ref a3, .ref a4, .ref a5, .ref a6, .ref a7, .ref a8, .int x2, .long y0, .int x3])), (a5, .inl (cJ, 40, .inr (.inl g0)))]) [0, 1] (by decide) rfl) hS
set_option maxHeartbeats 4000000 in
set_option maxRecDepth 100000 in
theorem k_X7_leastWithout (l : Launch) (D : va_G) (cB cC cI cJ : ClassId) (sz : Nat) (a0 a1 a2 a3 a4 a5 a6 a7 a8 : Nat) (x0 x1 x2 x3 x4 : Int32) (y0 : Int64) (g0 : Nat → Int64) (hp1 : (0 ≤ x0.toInt ∧ x0.toInt ≤ 4)) (hp3 : ((-1) ≤ x2.toInt ∧ x2.toInt ≤ 8)) (h_x3 : zBd x3.toInt 0 10) (h_x4 : zBd x4.toInt 0 1) : Met l yX7_leastWithout (.code yX7_leastWithout cX7_leastWithout 7 (some .long) :: lw_gd) ({ frames := 1, cells := 0, slots := 0, locals := 22 }) (gPre D [(cB, .byte), (cC, .char), (cI, .int), (cJ, .long)] [.ref a0, .int x0, .int x1, .int x2] [(a0, .inr (7, [.ref a1, .ref a2, .ref a3, .ref a4, .ref a5, .ref a6, .ref a7, .ref a8, .int x3, .long y0, .int x4])), (a4, .inl (cJ, 40, .inr (.inl g0)))] sz) (va_Ql (fun r u => ((((-9223372036854775808) ≤ r.toInt ∧ r.toInt ≤ 9223372036854775807) ∧ ((-1) ≤ x2.toInt ∧ x2.toInt ≤ 8)))) (gB D (va_A [(a0, .inr (7, [.ref a1, .ref a2, .ref a3, .ref a4, .ref a5, .ref a6, .ref a7, .ref a8, .int x3, .long y0, .int x4])), (a4, .inl (cJ, 40, .inr (.inl g0)))] sz) (fun u : gEx => [(a0, .inr (7, [.ref a1, .ref a2, .ref a3, .ref a4, .ref a5, .ref a6, .ref a7, .ref a8, .int x3, .long y0, .int x4])), (a4, .inl (cJ, 40, .inr (.inl g0)))])) (va_A [(a0, .inr (7, [.ref a1, .ref a2, .ref a3, .ref a4, .ref a5, .ref a6, .ref a7, .ref a8, .int x3, .long y0, .int x4])), (a4, .inl (cJ, 40, .inr (.inl g0)))] sz)) 0 0 (va_A [(a0, .inr (7, [.ref a1, .ref a2, .ref a3, .ref a4, .ref a5, .ref a6, .ref a7, .ref a8, .int x3, .long y0, .int x4])), (a4, .inl (cJ, 40, .inr (.inl g0)))] sz) := by
  refine gOf_l (by decide +kernel) (Nat.le_of_ble_eq_true rfl) ?_
  intro p e s m args below meth c ls A Q hx hb hts hown hml hN hK hP hD hA hl hret
  replace hown : s.vm.findClass RX7 = some m.cls := hown
  have hS : va_S A s.heap s.heap [] := va_S.rf
  replace hP : va_P D gcl [(a0, .inr (7, [.ref a1, .ref a2, .ref a3, .ref a4, .ref a5, .ref a6, .ref a7, .ref a8, .int x3, .long y0, .int x4])), (a4, .inl (cJ, 40, .inr (.inl g0)))] s.heap := hP
  replace hl : lv_has ls 7 [(0, .ref a0), (1, .int x0), (2, .int x1), (3, .int x2)] := hl
  have rx1 : zBd x1.toInt (-2147483648) 2147483647 := n_rng x1
  have ry0 := n_rngL y0
  refine lv_ldc2 (pc := 0) hx hb hown (hts _ tw_874) dX7_leastWithout_0 ?_
  refine lv_lstore (pc := 3) (lv' := [(4, .long 1000000000000000), (0, .ref a0), (1, .int x0), (2, .int x1), (3, .int x2)]) hx hb dX7_leastWithout_3 hl (by decide) rfl (fun ls hl => ?_)
  refine lv_iconst (pc := 5) (v := 0) hx hb dX7_leastWithout_5 (by decide) ?_
  refine lv_istore (pc := 6) (lv' := [(6, .int 0), (4, .long 1000000000000000), (0, .ref a0), (1, .int x0), (2, .int x1), (3, .int x2)]) hx hb dX7_leastWithout_6 hl (by decide) rfl (fun ls hl => ?_)
  have lp_5 : ∀ (n : Nat) (x_1 : Int32) (y_3 : Int64) (H : Heap) (locs : List Loc) (ls : Array Slot), (0 ≤ x_1.toInt ∧ x_1.toInt ≤ 2147483647) → (2147483647 - x_1.toInt).toNat < n → va_P D gcl [(a0, .inr (7, [.ref a1, .ref a2, .ref a3, .ref a4, .ref a5, .ref a6, .ref a7, .ref a8, .int x3, .long y0, .int x4])), (a4, .inl (cJ, 40, .inr (.inl g0)))] H → va_D A [(a0, .inr (7, [.ref a1, .ref a2, .ref a3, .ref a4, .ref a5, .ref a6, .ref a7, .ref a8, .int x3, .long y0, .int x4])), (a4, .inl (cJ, 40, .inr (.inl g0)))] → va_S A s.heap H locs → lv_has ls 7 [(6, .int x_1), (4, .long y_3), (0, .ref a0), (1, .int x0), (2, .int x1), (3, .int x2)] → W p l e ({ frames := 1, cells := 0, slots := 0, locals := 22 }) s m args below meth c H locs 0 0 Q (F0 m 8 ls []) := by
    intro n
    induction n with
    | zero => intro x_1 y_3 H locs ls hi_2 hmu; exact absurd hmu (Nat.not_lt_zero _)
    | succ n ih_lp_5 =>
      intro x_1 y_3 H locs ls hi_2 hmu_lp_5 hP hD hS hl
      have hi_4 := n_rngL y_3
      refine lv_iload (pc := 8) hx hb dX7_leastWithout_8 (lv_at hl 0 rfl) ?_
      refine lv_iload_n (pc := 10) hx hb dX7_leastWithout_10 rfl (lv_at hl 5 rfl) ?_
      refine b_icmp_ge (pc := 11) (tgt := 40) hx hb rfl rfl  dX7_leastWithout_11 (by decide) (fun c_6 => ?_) (fun c_6 => ?_)
      ·
        refine lv_lload (pc := 40) hx hb dX7_leastWithout_40 (lv_at hl 1 rfl) ?_
        exact hret y_3 ((fun _ => 0), (fun _ => (fun _ => 0)), (fun _ => (fun _ => 0)), (fun _ => 0), (fun _ => 0)) dX7_leastWithout_42 (show ((((-9223372036854775808) ≤ y_3.toInt ∧ y_3.toInt ≤ 9223372036854775807) ∧ ((-1) ≤ x2.toInt ∧ x2.toInt ≤ 8))) by (first | omega | (unfold zBd at *; omega))) (g_psub (wc := [(a0, .inr (7, [.ref a1, .ref a2, .ref a3, .ref a4, .ref a5, .ref a6, .ref a7, .ref a8, .int x3, .long y0, .int x4])), (a4, .inl (cJ, 40, .inr (.inl g0)))]) hP [0, 1] rfl) (hD.sub (ws' := [(a0, .inr (7, [.ref a1, .ref a2, .ref a3, .ref a4, .ref a5, .ref a6, .ref a7, .ref a8, .int x3, .long y0, .int x4])), (a4, .inl (cJ, 40, .inr (.inl g0)))]) [0, 1] (by decide) rfl) hS
      ·
        refine lv_iload (pc := 14) hx hb dX7_leastWithout_14 (lv_at hl 0 rfl) ?_
        refine lv_iload_n (pc := 16) hx hb dX7_leastWithout_16 rfl (lv_at hl 4 rfl) ?_
        refine b_icmp_eq (pc := 17) (tgt := 34) hx hb rfl rfl  dX7_leastWithout_17 (by decide) (fun c_7 => ?_) (fun c_7 => ?_)
        ·
          refine b_iinc (pc := 34) hx hb dX7_leastWithout_34 hl (k := 0) rfl rfl tI_1 (by (first | omega | (unfold zBd at *; omega))) (by (first | omega | (unfold zBd at *; omega))) (by decide) (fun x_8 ex_8 ls hl => ?_)
          replace hl : lv_has ls 7 [(6, .int x_8), (4, .long y_3), (0, .ref a0), (1, .int x0), (2, .int x1), (3, .int x2)] := hl
          refine lv_goto (pc := 37) (tgt := 8) hx hb dX7_leastWithout_37 (by decide) ?_
          exact ih_lp_5 x_8 y_3 _ _ ls (by (first | omega | (unfold zBd at *; omega))) (by (first | omega | (unfold zBd at *; omega))) hP hD hS (lv_sub hl [0, 1, 2, 3, 4, 5] rfl)
        ·
          refine lv_lload (pc := 20) hx hb dX7_leastWithout_20 (lv_at hl 1 rfl) ?_
          refine lv_aload_n (pc := 22) hx hb dX7_leastWithout_22 rfl (lv_at hl 2 rfl) ?_
          refine lv_iload_n (pc := 23) hx hb dX7_leastWithout_23 rfl (lv_at hl 3 rfl) ?_
          refine lv_iload (pc := 24) hx hb dX7_leastWithout_24 (lv_at hl 0 rfl) ?_
          refine gc_l (pc := 26) (wc := [(a0, .inr (7, [.ref a1, .ref a2, .ref a3, .ref a4, .ref a5, .ref a6, .ref a7, .ref a8, .int x3, .long y0, .int x4])), (a4, .inl (cJ, 40, .inr (.inl g0)))]) (wr := []) hP hD hS hA [0, 1] [] rfl rfl (by decide) (by decide) (by decide) (fun hPc hDc => va_runV (As := [.int x0, .int x_1]) (rest := [.long y_3]) ⟨hx, hb, hml, hown, hts⟩ (k_X7_leastWith l D cB cC cI cJ _ a0 a1 a2 a3 a4 a5 a6 a7 a8 x0 x_1 x3 x4 y0 g0 hp1 (by  (first | omega | (unfold zBd at *; omega))) h_x3 h_x4) ⟨gcwB hts tw_1012 tw_7 tw_1031 hd_yX7_leastWith ⟨Nat.le_of_ble_eq_true rfl, Nat.le_of_ble_eq_true rfl⟩, hts _ tw_1010, hts _ tw_1011⟩ ⟨gblind, va_recv hK hPc (ci := 7) (q0 := 0) rfl rfl, (gpreS hPc hK hDc hN).2⟩ rfl rfl hl.1 rfl (lv_room (Nat.le_of_ble_eq_true rfl)) dX7_leastWithout_26 ⟨Nat.le_of_ble_eq_true rfl, Nat.le_of_ble_eq_true rfl⟩) (fun r_10 u_9 H locs hw_11 hP hD hS => ?_)
          replace hP : va_P D gcl [(a0, .inr (7, [.ref a1, .ref a2, .ref a3, .ref a4, .ref a5, .ref a6, .ref a7, .ref a8, .int x3, .long y0, .int x4])), (a4, .inl (cJ, 40, .inr (.inl g0)))] H := hP
          replace hD : va_D A [(a0, .inr (7, [.ref a1, .ref a2, .ref a3, .ref a4, .ref a5, .ref a6, .ref a7, .ref a8, .int x3, .long y0, .int x4])), (a4, .inl (cJ, 40, .inr (.inl g0)))] := hD
          have hw_12 : ((((-9223372036854775808) ≤ r_10.toInt ∧ r_10.toInt ≤ 9223372036854775807))) := hw_11
          have rr_10 := n_rngL r_10
          refine va_mmin_long (pc := 29) hx hb (hml.trans hl.1.symm) hown (hts _ tw_928) (hts _ tw_857) (hts _ tw_19) (hts _ tw_858) (Nat.le_of_ble_eq_true rfl) (Nat.le_of_ble_eq_true rfl) (Nat.le_of_ble_eq_true rfl) (Nat.le_of_ble_eq_true rfl) dX7_leastWithout_29 ?_
          refine lv_topl (fun y_13 ey_13 => ?_)
          have ey_13 := n_minL rfl rfl ey_13
          have ry_13 := n_rngL y_13
          refine lv_lstore (pc := 32) (lv' := [(4, .long y_13), (6, .int x_1), (0, .ref a0), (1, .int x0), (2, .int x1), (3, .int x2)]) hx hb dX7_leastWithout_32 hl (by decide) rfl (fun ls hl => ?_)
          refine b_iinc (pc := 34) hx hb dX7_leastWithout_34 hl (k := 1) rfl rfl tI_1 (by (first | omega | (unfold zBd at *; omega))) (by (first | omega | (unfold zBd at *; omega))) (by decide) (fun x_14 ex_14 ls hl => ?_)
          replace hl : lv_has ls 7 [(6, .int x_14), (4, .long y_13), (0, .ref a0), (1, .int x0), (2, .int x1), (3, .int x2)] := hl
          refine lv_goto (pc := 37) (tgt := 8) hx hb dX7_leastWithout_37 (by decide) ?_
          exact ih_lp_5 x_14 y_13 _ _ ls (by (first | omega | (unfold zBd at *; omega))) (by (first | omega | (unfold zBd at *; omega))) hP hD hS (lv_sub hl [0, 1, 2, 3, 4, 5] rfl)
  exact lp_5 _ 0 1000000000000000 _ _ ls (n_c tI_0 (by decide)) (Nat.lt_succ_self _) hP hD hS (lv_sub hl [0, 1, 2, 3, 4, 5] rfl)
set_option maxHeartbeats 4000000 in
set_option maxRecDepth 100000 in
theorem k_J7_fill_53178_5 (l : Launch) (D : va_G) (cB cC cI cJ : ClassId) (sz : Nat) (a0 : Nat) (x0 : Int32) (f0 : Nat → Int32) : Met l yJ7_fill_53178 (.code yJ7_fill_53178 cJ7_fill_53178 4 none :: lw_gd) ({ frames := 0, cells := 0, slots := 0, locals := 0 }) (gPre D [(cB, .byte), (cC, .char), (cI, .int), (cJ, .long)] [.ref a0, .int x0] [(a0, .inl (cI, 5, .inl f0))] sz) (va_Qv (fun u => True) (gB D (va_A [(a0, .inl (cI, 5, .inl f0))] sz) (fun u : gEx => [(a0, .inl (cI, 5, .inl (u.2.1 0)))])) (va_A [(a0, .inl (cI, 5, .inl f0))] sz)) 0 0 (va_A [(a0, .inl (cI, 5, .inl f0))] sz) := by
  refine gOf_v (by decide +kernel) (Nat.le_of_ble_eq_true rfl) ?_
  intro p e s m args below meth c ls A Q hx hb hts hown hml hN hK hP hD hA hl hret
  replace hown : s.vm.findClass RJ7 = some m.cls := hown
  have hS : va_S A s.heap s.heap [] := va_S.rf
  replace hP : va_P D gcl [(a0, .inl (cI, 5, .inl f0))] s.heap := hP
  replace hl : lv_has ls 4 [(0, .ref a0), (1, .int x0)] := hl
  have rx0 : zBd x0.toInt (-2147483648) 2147483647 := n_rng x0
  refine lv_iconst (pc := 0) (v := 0) hx hb dJ7_fill_53178_0 (by decide) ?_
  refine lv_istore_n (pc := 1) (lv' := [(2, .int 0), (0, .ref a0), (1, .int x0)]) hx hb dJ7_fill_53178_1 rfl hl (by decide) rfl (fun ls hl => ?_)
  refine lv_aload_n (pc := 2) hx hb dJ7_fill_53178_2 rfl (lv_at hl 1 rfl) ?_
  refine va_alen (pc := 3) (v := 5) hx hb hK hP 0 2 rfl rfl rfl dJ7_fill_53178_3 ?_
  refine lv_istore_n (pc := 4) (lv' := [(3, .int 5), (2, .int 0), (0, .ref a0), (1, .int x0)]) hx hb dJ7_fill_53178_4 rfl hl (by decide) rfl (fun ls hl => ?_)
  have lp_4 : ∀ (n : Nat) (x_1 : Int32) (f_3 : Nat → Int32) (H : Heap) (locs : List Loc) (ls : Array Slot), (0 ≤ x_1.toInt ∧ x_1.toInt ≤ 2147483647) → (2147483647 - x_1.toInt).toNat < n → va_P D gcl [(a0, .inl (cI, 5, .inl f_3))] H → va_D A [(a0, .inl (cI, 5, .inl f_3))] → va_S A s.heap H locs → lv_has ls 4 [(3, .int 5), (2, .int x_1), (0, .ref a0), (1, .int x0)] → W p l e ({ frames := 0, cells := 0, slots := 0, locals := 0 }) s m args below meth c H locs 0 0 Q (F0 m 5 ls []) := by
    intro n
    induction n with
    | zero => intro x_1 f_3 H locs ls hi_2 hmu; exact absurd hmu (Nat.not_lt_zero _)
    | succ n ih_lp_4 =>
      intro x_1 f_3 H locs ls hi_2 hmu_lp_4 hP hD hS hl
      refine lv_iload_n (pc := 5) hx hb dJ7_fill_53178_5 rfl (lv_at hl 1 rfl) ?_
      refine lv_iload_n (pc := 6) hx hb dJ7_fill_53178_6 rfl (lv_at hl 0 rfl) ?_
      refine b_icmp_ge (pc := 7) (tgt := 20) hx hb rfl tI_5  dJ7_fill_53178_7 (by decide) (fun c_5 => ?_) (fun c_5 => ?_)
      ·
        exact hret ((fun _ => 0), (fun k => [f_3].getD k (fun _ => 0)), (fun _ => (fun _ => 0)), (fun _ => 0), (fun _ => 0)) dJ7_fill_53178_20 trivial (g_psub (wc := [(a0, .inl (cI, 5, .inl f_3))]) hP [0] rfl) (hD.sub (ws' := [(a0, .inl (cI, 5, .inl f_3))]) [0] (by decide) rfl) hS
      ·
        refine lv_aload_n (pc := 10) hx hb dJ7_fill_53178_10 rfl (lv_at hl 2 rfl) ?_
        refine lv_iload_n (pc := 11) hx hb dJ7_fill_53178_11 rfl (lv_at hl 1 rfl) ?_
        refine lv_iload_n (pc := 12) hx hb dJ7_fill_53178_12 rfl (lv_at hl 3 rfl) ?_
        refine g_iastore (pc := 13) hx hb hK hP hD hS 0 2 rfl rfl (n_in rfl (by (first | omega | (unfold zBd at *; omega))) (by (first | omega | (unfold zBd at *; omega)))) dJ7_fill_53178_13 (fun f_6 H locs hP hD hS => ?_)
        replace hP : va_P D gcl [(a0, .inl (cI, 5, .inl f_6))] H := hP
        replace hD : va_D A [(a0, .inl (cI, 5, .inl f_6))] := hD
        refine b_iinc (pc := 14) hx hb dJ7_fill_53178_14 hl (k := 1) rfl rfl tI_1 (by (first | omega | (unfold zBd at *; omega))) (by (first | omega | (unfold zBd at *; omega))) (by decide) (fun x_7 ex_7 ls hl => ?_)
        replace hl : lv_has ls 4 [(2, .int x_7), (3, .int 5), (0, .ref a0), (1, .int x0)] := hl
        refine lv_goto (pc := 17) (tgt := 5) hx hb dJ7_fill_53178_17 (by decide) ?_
        exact ih_lp_4 x_7 f_6 _ _ ls (by (first | omega | (unfold zBd at *; omega))) (by (first | omega | (unfold zBd at *; omega))) hP hD hS (lv_sub hl [1, 0, 2, 3] rfl)
  exact lp_4 _ 0 f0 _ _ ls (n_c tI_0 (by decide)) (Nat.lt_succ_self _) hP hD hS (lv_sub hl [0, 1, 2, 3] rfl)
set_option maxHeartbeats 4000000 in
set_option maxRecDepth 100000 in
theorem k_J7_fill_d0a16_5 (l : Launch) (D : va_G) (cB cC cI cJ : ClassId) (sz : Nat) (a0 : Nat) (y0 : Int64) (g0 : Nat → Int64) : Met l yJ7_fill_d0a16 (.code yJ7_fill_d0a16 cJ7_fill_d0a16 5 none :: lw_gd) ({ frames := 0, cells := 0, slots := 0, locals := 0 }) (gPre D [(cB, .byte), (cC, .char), (cI, .int), (cJ, .long)] [.ref a0, .long y0] [(a0, .inl (cJ, 5, .inr (.inl g0)))] sz) (va_Qv (fun u => True) (gB D (va_A [(a0, .inl (cJ, 5, .inr (.inl g0)))] sz) (fun u : gEx => [(a0, .inl (cJ, 5, .inr (.inl (u.2.2.1 0))))])) (va_A [(a0, .inl (cJ, 5, .inr (.inl g0)))] sz)) 0 0 (va_A [(a0, .inl (cJ, 5, .inr (.inl g0)))] sz) := by
  refine gOf_v (by decide +kernel) (Nat.le_of_ble_eq_true rfl) ?_
  intro p e s m args below meth c ls A Q hx hb hts hown hml hN hK hP hD hA hl hret
  replace hown : s.vm.findClass RJ7 = some m.cls := hown
  have hS : va_S A s.heap s.heap [] := va_S.rf
  replace hP : va_P D gcl [(a0, .inl (cJ, 5, .inr (.inl g0)))] s.heap := hP
  replace hl : lv_has ls 5 [(0, .ref a0), (1, .long y0)] := hl
  have ry0 := n_rngL y0
  refine lv_iconst (pc := 0) (v := 0) hx hb dJ7_fill_d0a16_0 (by decide) ?_
  refine lv_istore_n (pc := 1) (lv' := [(3, .int 0), (0, .ref a0), (1, .long y0)]) hx hb dJ7_fill_d0a16_1 rfl hl (by decide) rfl (fun ls hl => ?_)
  refine lv_aload_n (pc := 2) hx hb dJ7_fill_d0a16_2 rfl (lv_at hl 1 rfl) ?_
  refine va_alen (pc := 3) (v := 5) hx hb hK hP 0 3 rfl rfl rfl dJ7_fill_d0a16_3 ?_
  refine lv_istore (pc := 4) (lv' := [(4, .int 5), (3, .int 0), (0, .ref a0), (1, .long y0)]) hx hb dJ7_fill_d0a16_4 hl (by decide) rfl (fun ls hl => ?_)
  have lp_4 : ∀ (n : Nat) (x_1 : Int32) (g_3 : Nat → Int64) (H : Heap) (locs : List Loc) (ls : Array Slot), (0 ≤ x_1.toInt ∧ x_1.toInt ≤ 2147483647) → (2147483647 - x_1.toInt).toNat < n → va_P D gcl [(a0, .inl (cJ, 5, .inr (.inl g_3)))] H → va_D A [(a0, .inl (cJ, 5, .inr (.inl g_3)))] → va_S A s.heap H locs → lv_has ls 5 [(4, .int 5), (3, .int x_1), (0, .ref a0), (1, .long y0)] → W p l e ({ frames := 0, cells := 0, slots := 0, locals := 0 }) s m args below meth c H locs 0 0 Q (F0 m 6 ls []) := by
    intro n
    induction n with
    | zero => intro x_1 g_3 H locs ls hi_2 hmu; exact absurd hmu (Nat.not_lt_zero _)
    | succ n ih_lp_4 =>
      intro x_1 g_3 H locs ls hi_2 hmu_lp_4 hP hD hS hl
      refine lv_iload_n (pc := 6) hx hb dJ7_fill_d0a16_6 rfl (lv_at hl 1 rfl) ?_
      refine lv_iload (pc := 7) hx hb dJ7_fill_d0a16_7 (lv_at hl 0 rfl) ?_
      refine b_icmp_ge (pc := 9) (tgt := 22) hx hb rfl tI_5  dJ7_fill_d0a16_9 (by decide) (fun c_5 => ?_) (fun c_5 => ?_)
      ·
        exact hret ((fun _ => 0), (fun _ => (fun _ => 0)), (fun k => [g_3].getD k (fun _ => 0)), (fun _ => 0), (fun _ => 0)) dJ7_fill_d0a16_22 trivial (g_psub (wc := [(a0, .inl (cJ, 5, .inr (.inl g_3)))]) hP [0] rfl) (hD.sub (ws' := [(a0, .inl (cJ, 5, .inr (.inl g_3)))]) [0] (by decide) rfl) hS
      ·
        refine lv_aload_n (pc := 12) hx hb dJ7_fill_d0a16_12 rfl (lv_at hl 2 rfl) ?_
        refine lv_iload_n (pc := 13) hx hb dJ7_fill_d0a16_13 rfl (lv_at hl 1 rfl) ?_
        refine lv_lload_n (pc := 14) hx hb dJ7_fill_d0a16_14 rfl (lv_at hl 3 rfl) ?_
        refine g_lastore (pc := 15) hx hb hK hP hD hS 0 3 rfl rfl (n_in rfl (by (first | omega | (unfold zBd at *; omega))) (by (first | omega | (unfold zBd at *; omega)))) dJ7_fill_d0a16_15 (fun g_6 H locs hP hD hS => ?_)
        replace hP : va_P D gcl [(a0, .inl (cJ, 5, .inr (.inl g_6)))] H := hP
        replace hD : va_D A [(a0, .inl (cJ, 5, .inr (.inl g_6)))] := hD
        refine b_iinc (pc := 16) hx hb dJ7_fill_d0a16_16 hl (k := 1) rfl rfl tI_1 (by (first | omega | (unfold zBd at *; omega))) (by (first | omega | (unfold zBd at *; omega))) (by decide) (fun x_7 ex_7 ls hl => ?_)
        replace hl : lv_has ls 5 [(3, .int x_7), (4, .int 5), (0, .ref a0), (1, .long y0)] := hl
        refine lv_goto (pc := 19) (tgt := 6) hx hb dJ7_fill_d0a16_19 (by decide) ?_
        exact ih_lp_4 x_7 g_6 _ _ ls (by (first | omega | (unfold zBd at *; omega))) (by (first | omega | (unfold zBd at *; omega))) hP hD hS (lv_sub hl [1, 0, 2, 3] rfl)
  exact lp_4 _ 0 g0 _ _ ls (n_c tI_0 (by decide)) (Nat.lt_succ_self _) hP hD hS (lv_sub hl [0, 1, 2, 3] rfl)
set_option maxHeartbeats 4000000 in
set_option maxRecDepth 100000 in
theorem k_X3_move (l : Launch) (D : va_G) (cB cC cI cJ : ClassId) (sz : Nat) (a0 a1 a2 a3 a4 a5 a6 a7 a8 a9 a10 a11 a12 a13 : Nat) (x0 x1 x2 : Int32) (y0 y1 y2 y3 : Int64) (g0 g1 : Nat → Int64) (hp1 : (0 ≤ x0.toInt ∧ x0.toInt ≤ 4)) (h_x1 : zBd x1.toInt 0 1) (h_x2 : zBd x2.toInt 0 4) : Met l yX3_move (.code yX3_move cX3_move 6 none :: lw_gd) ({ frames := 0, cells := 0, slots := 0, locals := 0 }) (gPre D [(cB, .byte), (cC, .char), (cI, .int), (cJ, .long)] [.ref a0, .int x0, .long y0] [(a0, .inr (3, [.ref a1, .ref a2, .ref a3, .ref a4, .ref a5, .ref a6, .long y1, .int x1, .long y2, .long y3])), (a6, .inl (cJ, 5, .inr (.inl g0))), (a1, .inr (10, [.ref a7, .ref a8, .ref a9, .ref a10, .ref a11, .ref a12, .ref a13, .int x2])), (a7, .inl (cJ, 25, .inr (.inl g1)))] sz) (va_Qv (fun u => (((0 ≤ x2.toInt ∧ x2.toInt ≤ 4)))) (gB D (va_A [(a0, .inr (3, [.ref a1, .ref a2, .ref a3, .ref a4, .ref a5, .ref a6, .long y1, .int x1, .long y2, .long y3])), (a6, .inl (cJ, 5, .inr (.inl g0))), (a1, .inr (10, [.ref a7, .ref a8, .ref a9, .ref a10, .ref a11, .ref a12, .ref a13, .int x2])), (a7, .inl (cJ, 25, .inr (.inl g1)))] sz) (fun u : gEx => [(a0, .inr (3, [.ref a1, .ref a2, .ref a3, .ref a4, .ref a5, .ref a6, .long (u.2.2.2.2 0), .int x1, .long y2, .long y3])), (a6, .inl (cJ, 5, .inr (.inl (u.2.2.1 0)))), (a1, .inr (10, [.ref a7, .ref a8, .ref a9, .ref a10, .ref a11, .ref a12, .ref a13, .int x2])), (a7, .inl (cJ, 25, .inr (.inl g1)))])) (va_A [(a0, .inr (3, [.ref a1, .ref a2, .ref a3, .ref a4, .ref a5, .ref a6, .long y1, .int x1, .long y2, .long y3])), (a6, .inl (cJ, 5, .inr (.inl g0))), (a1, .inr (10, [.ref a7, .ref a8, .ref a9, .ref a10, .ref a11, .ref a12, .ref a13, .int x2])), (a7, .inl (cJ, 25, .inr (.inl g1)))] sz)) 0 0 (va_A [(a0, .inr (3, [.ref a1, .ref a2, .ref a3, .ref a4, .ref a5, .ref a6, .long y1, .int x1, .long y2, .long y3])), (a6, .inl (cJ, 5, .inr (.inl g0))), (a1, .inr (10, [.ref a7, .ref a8, .ref a9, .ref a10, .ref a11, .ref a12, .ref a13, .int x2])), (a7, .inl (cJ, 25, .inr (.inl g1)))] sz) := by
  refine gOf_v (by decide +kernel) (Nat.le_of_ble_eq_true rfl) ?_
  intro p e s m args below meth c ls A Q hx hb hts hown hml hN hK hP hD hA hl hret
  replace hown : s.vm.findClass RX3 = some m.cls := hown
  have hS : va_S A s.heap s.heap [] := va_S.rf
  replace hP : va_P D gcl [(a0, .inr (3, [.ref a1, .ref a2, .ref a3, .ref a4, .ref a5, .ref a6, .long y1, .int x1, .long y2, .long y3])), (a6, .inl (cJ, 5, .inr (.inl g0))), (a1, .inr (10, [.ref a7, .ref a8, .ref a9, .ref a10, .ref a11, .ref a12, .ref a13, .int x2])), (a7, .inl (cJ, 25, .inr (.inl g1)))] s.heap := hP
  replace hl : lv_has ls 6 [(0, .ref a0), (1, .int x0), (2, .long y0)] := hl
  have ry0 := n_rngL y0
  have ry1 := n_rngL y1
  have ry2 := n_rngL y2
  have ry3 := n_rngL y3
  refine lv_iload_n (pc := 0) hx hb dX3_move_0 rfl (lv_at hl 1 rfl) ?_
  refine lv_iconst (pc := 1) (v := 5) hx hb dX3_move_1 (by decide) ?_
  refine b_imul (pc := 2) hx hb rfl tI_5 (by (first | omega | (unfold zBd at *; omega))) (by (first | omega | (unfold zBd at *; omega))) dX3_move_2 (fun x_1 ex_1 => ?_)
  refine lv_istore (pc := 3) (lv' := [(4, .int x_1), (0, .ref a0), (1, .int x0), (2, .long y0)]) hx hb dX3_move_3 hl (by decide) rfl (fun ls hl => ?_)
  refine lv_aload_n (pc := 5) hx hb dX3_move_5 rfl (lv_at hl 1 rfl) ?_
  refine lv_dup (pc := 6) hx hb dX3_move_6 rfl ?_
  refine va_get (pc := 7) (ci := 3) (v := .long y1) (C := RX3) (T := TX3) (N := 10) hx hb hts iX3 hown hK hP 0 rfl rfl 6 (by decide) (hts _ tw_355) (fun _ h9 => h9) rfl dX3_move_7 ?_
  refine lv_lload_n (pc := 10) hx hb dX3_move_10 rfl (lv_at hl 3 rfl) ?_
  refine lv_ldc2 (pc := 11) hx hb hown (hts _ tw_1255) dX3_move_11 ?_
  refine lv_aload_n (pc := 14) hx hb dX3_move_14 rfl (lv_at hl 1 rfl) ?_
  refine va_get (pc := 15) (ci := 3) (v := .ref a6) (C := RX3) (T := TX3) (N := 10) hx hb hts iX3 hown hK hP 0 rfl rfl 5 (by decide) (hts _ tw_354) (fun _ h9 => h9) rfl dX3_move_15 ?_
  refine lv_iload_n (pc := 18) hx hb dX3_move_18 rfl (lv_at hl 2 rfl) ?_
  refine va_lald (pc := 19) hx hb hK hP 1 3 rfl rfl (n_in rfl (by (first | omega | (unfold zBd at *; omega))) (by (first | omega | (unfold zBd at *; omega)))) dX3_move_19 ?_
  refine lv_topl (fun y_2 ey_2 => ?_)
  have ry_2 := n_rngL y_2
  refine lv_lmul (pc := 20) hx hb dX3_move_20 ?_
  refine lv_topl (fun y_3 _ => ?_)
  have ry_3 := n_rngL y_3
  refine lv_lload_n (pc := 21) hx hb dX3_move_21 rfl (lv_at hl 3 rfl) ?_
  refine lv_aload_n (pc := 22) hx hb dX3_move_22 rfl (lv_at hl 1 rfl) ?_
  refine va_get (pc := 23) (ci := 3) (v := .ref a1) (C := RX3) (T := TX3) (N := 10) hx hb hts iX3 hown hK hP 0 rfl rfl 0 (by decide) (hts _ tw_348) (fun _ h9 => h9) rfl dX3_move_23 ?_
  refine va_getN (pc := 26) (ci := 10) (v := .ref a7) (C := RX10) (T := TX10) (N := 8) hx hb hts iX10 hown hK hP 2 rfl rfl 0 (by decide) (va_Nw.use rfl (hN _ tn_208)) (fun _ h9 => h9) rfl dX3_move_26 ?_
  refine lv_iload (pc := 29) hx hb dX3_move_29 (lv_at hl 0 rfl) ?_
  refine lv_iload_n (pc := 31) hx hb dX3_move_31 rfl (lv_at hl 2 rfl) ?_
  refine b_iadd (pc := 32) hx hb rfl rfl (by (first | omega | (unfold zBd at *; omega))) (by (first | omega | (unfold zBd at *; omega))) dX3_move_32 (fun x_4 ex_4 => ?_)
  refine va_lald (pc := 33) hx hb hK hP 3 3 rfl rfl (n_in rfl (by (first | omega | (unfold zBd at *; omega))) (by (first | omega | (unfold zBd at *; omega)))) dX3_move_33 ?_
  refine lv_topl (fun y_5 ey_5 => ?_)
  have ry_5 := n_rngL y_5
  refine lv_lmul (pc := 34) hx hb dX3_move_34 ?_
  refine lv_topl (fun y_6 _ => ?_)
  have ry_6 := n_rngL y_6
  refine lv_ladd (pc := 35) hx hb dX3_move_35 ?_
  refine lv_topl (fun y_7 _ => ?_)
  have ry_7 := n_rngL y_7
  refine lv_lmul (pc := 36) hx hb dX3_move_36 ?_
  refine lv_topl (fun y_8 _ => ?_)
  have ry_8 := n_rngL y_8
  refine lv_ladd (pc := 37) hx hb dX3_move_37 ?_
  refine lv_topl (fun y_9 _ => ?_)
  have ry_9 := n_rngL y_9
  refine va_put (pc := 38) (ci := 3) (v := .long y_9) (ty := .long) (C := RX3) (T := TX3) (N := 10) hx hb hts iX3 tyX3 tyX3_ok nmX3 hown hK hP hD hS 0 rfl rfl 6 (by decide) (hts _ tw_355) (fun _ h9 => h9) rfl (by decide +kernel) rfl rfl (Nat.le_of_ble_eq_true rfl) dX3_move_38 (fun H locs hP hD hS => ?_)
  replace hP : va_P D gcl [(a0, .inr (3, [.ref a1, .ref a2, .ref a3, .ref a4, .ref a5, .ref a6, .long y_9, .int x1, .long y2, .long y3])), (a6, .inl (cJ, 5, .inr (.inl g0))), (a1, .inr (10, [.ref a7, .ref a8, .ref a9, .ref a10, .ref a11, .ref a12, .ref a13, .int x2])), (a7, .inl (cJ, 25, .inr (.inl g1)))] H := hP
  replace hD : va_D A [(a0, .inr (3, [.ref a1, .ref a2, .ref a3, .ref a4, .ref a5, .ref a6, .long y_9, .int x1, .long y2, .long y3])), (a6, .inl (cJ, 5, .inr (.inl g0))), (a1, .inr (10, [.ref a7, .ref a8, .ref a9, .ref a10, .ref a11, .ref a12, .ref a13, .int x2])), (a7, .inl (cJ, 25, .inr (.inl g1)))] := hD
  refine lv_iconst (pc := 41) (v := 0) hx hb dX3_move_41 (by decide) ?_
  refine lv_istore (pc := 42) (lv' := [(5, .int 0), (4, .int x_1), (0, .ref a0), (1, .int x0), (2, .long y0)]) hx hb dX3_move_42 hl (by decide) rfl (fun ls hl => ?_)
  have lp_13 : ∀ (n : Nat) (x_10 : Int32) (g_12 : Nat → Int64) (H : Heap) (locs : List Loc) (ls : Array Slot), (0 ≤ x_10.toInt ∧ x_10.toInt ≤ 2147483647) → (2147483647 - x_10.toInt).toNat < n → va_P D gcl [(a0, .inr (3, [.ref a1, .ref a2, .ref a3, .ref a4, .ref a5, .ref a6, .long y_9, .int x1, .long y2, .long y3])), (a6, .inl (cJ, 5, .inr (.inl g_12))), (a1, .inr (10, [.ref a7, .ref a8, .ref a9, .ref a10, .ref a11, .ref a12, .ref a13, .int x2])), (a7, .inl (cJ, 25, .inr (.inl g1)))] H → va_D A [(a0, .inr (3, [.ref a1, .ref a2, .ref a3, .ref a4, .ref a5, .ref a6, .long y_9, .int x1, .long y2, .long y3])), (a6, .inl (cJ, 5, .inr (.inl g_12))), (a1, .inr (10, [.ref a7, .ref a8, .ref a9, .ref a10, .ref a11, .ref a12, .ref a13, .int x2])), (a7, .inl (cJ, 25, .inr (.inl g1)))] → va_S A s.heap H locs → lv_has ls 6 [(5, .int x_10), (4, .int x_1), (0, .ref a0), (1, .int x0), (2, .long y0)] → W p l e ({ frames := 0, cells := 0, slots := 0, locals := 0 }) s m args below meth c H locs 0 0 Q (F0 m 44 ls []) := by
    intro n
    induction n with
    | zero => intro x_10 g_12 H locs ls hi_11 hmu; exact absurd hmu (Nat.not_lt_zero _)
    | succ n ih_lp_13 =>
      intro x_10 g_12 H locs ls hi_11 hmu_lp_13 hP hD hS hl
      refine lv_iload (pc := 44) hx hb dX3_move_44 (lv_at hl 0 rfl) ?_
      refine lv_aload_n (pc := 46) hx hb dX3_move_46 rfl (lv_at hl 2 rfl) ?_
      refine va_get (pc := 47) (ci := 3) (v := .ref a1) (C := RX3) (T := TX3) (N := 10) hx hb hts iX3 hown hK hP 0 rfl rfl 0 (by decide) (hts _ tw_348) (fun _ h9 => h9) rfl dX3_move_47 ?_
      refine va_getN (pc := 50) (ci := 10) (v := .int x2) (C := RX10) (T := TX10) (N := 8) hx hb hts iX10 hown hK hP 2 rfl rfl 7 (by decide) (va_Nw.use rfl (hN _ tn_223)) (fun _ h9 => h9) rfl dX3_move_50 ?_
      refine b_icmp_gt (pc := 53) (tgt := 87) hx hb rfl rfl  dX3_move_53 (by decide) (fun c_14 => ?_) (fun c_14 => ?_)
      ·
        exact hret ((fun _ => 0), (fun _ => (fun _ => 0)), (fun k => [g_12].getD k (fun _ => 0)), (fun _ => 0), (fun k => [y_9].getD k 0)) dX3_move_87 (show (((0 ≤ x2.toInt ∧ x2.toInt ≤ 4))) from h_x2) (g_psub (wc := [(a0, .inr (3, [.ref a1, .ref a2, .ref a3, .ref a4, .ref a5, .ref a6, .long y_9, .int x1, .long y2, .long y3])), (a6, .inl (cJ, 5, .inr (.inl g_12))), (a1, .inr (10, [.ref a7, .ref a8, .ref a9, .ref a10, .ref a11, .ref a12, .ref a13, .int x2])), (a7, .inl (cJ, 25, .inr (.inl g1)))]) hP [0, 1, 2, 3] rfl) (hD.sub (ws' := [(a0, .inr (3, [.ref a1, .ref a2, .ref a3, .ref a4, .ref a5, .ref a6, .long y_9, .int x1, .long y2, .long y3])), (a6, .inl (cJ, 5, .inr (.inl g_12))), (a1, .inr (10, [.ref a7, .ref a8, .ref a9, .ref a10, .ref a11, .ref a12, .ref a13, .int x2])), (a7, .inl (cJ, 25, .inr (.inl g1)))]) [0, 1, 2, 3] (by decide) rfl) hS
      ·
        refine lv_aload_n (pc := 56) hx hb dX3_move_56 rfl (lv_at hl 2 rfl) ?_
        refine va_get (pc := 57) (ci := 3) (v := .ref a6) (C := RX3) (T := TX3) (N := 10) hx hb hts iX3 hown hK hP 0 rfl rfl 5 (by decide) (hts _ tw_354) (fun _ h9 => h9) rfl dX3_move_57 ?_
        refine lv_iload (pc := 60) hx hb dX3_move_60 (lv_at hl 0 rfl) ?_
        refine lv_dup2_11 (pc := 62) hx hb dX3_move_62 rfl rfl ?_
        refine va_lald (pc := 63) hx hb hK hP 1 3 rfl rfl (n_in rfl (by (first | omega | (unfold zBd at *; omega))) (by (first | omega | (unfold zBd at *; omega)))) dX3_move_63 ?_
        refine lv_topl (fun y_15 ey_15 => ?_)
        have ry_15 := n_rngL y_15
        refine lv_lload_n (pc := 64) hx hb dX3_move_64 rfl (lv_at hl 4 rfl) ?_
        refine lv_aload_n (pc := 65) hx hb dX3_move_65 rfl (lv_at hl 2 rfl) ?_
        refine va_get (pc := 66) (ci := 3) (v := .ref a1) (C := RX3) (T := TX3) (N := 10) hx hb hts iX3 hown hK hP 0 rfl rfl 0 (by decide) (hts _ tw_348) (fun _ h9 => h9) rfl dX3_move_66 ?_
        refine va_getN (pc := 69) (ci := 10) (v := .ref a7) (C := RX10) (T := TX10) (N := 8) hx hb hts iX10 hown hK hP 2 rfl rfl 0 (by decide) (va_Nw.use rfl (hN _ tn_208)) (fun _ h9 => h9) rfl dX3_move_69 ?_
        refine lv_iload (pc := 72) hx hb dX3_move_72 (lv_at hl 1 rfl) ?_
        refine lv_iload (pc := 74) hx hb dX3_move_74 (lv_at hl 0 rfl) ?_
        refine b_iadd (pc := 76) hx hb rfl rfl (by (first | omega | (unfold zBd at *; omega))) (by (first | omega | (unfold zBd at *; omega))) dX3_move_76 (fun x_16 ex_16 => ?_)
        refine va_lald (pc := 77) hx hb hK hP 3 3 rfl rfl (n_in rfl (by (first | omega | (unfold zBd at *; omega))) (by (first | omega | (unfold zBd at *; omega)))) dX3_move_77 ?_
        refine lv_topl (fun y_17 ey_17 => ?_)
        have ry_17 := n_rngL y_17
        refine lv_lmul (pc := 78) hx hb dX3_move_78 ?_
        refine lv_topl (fun y_18 _ => ?_)
        have ry_18 := n_rngL y_18
        refine lv_ladd (pc := 79) hx hb dX3_move_79 ?_
        refine lv_topl (fun y_19 _ => ?_)
        have ry_19 := n_rngL y_19
        refine g_lastore (pc := 80) hx hb hK hP hD hS 1 3 rfl rfl (n_in rfl (by (first | omega | (unfold zBd at *; omega))) (by (first | omega | (unfold zBd at *; omega)))) dX3_move_80 (fun g_20 H locs hP hD hS => ?_)
        replace hP : va_P D gcl [(a0, .inr (3, [.ref a1, .ref a2, .ref a3, .ref a4, .ref a5, .ref a6, .long y_9, .int x1, .long y2, .long y3])), (a6, .inl (cJ, 5, .inr (.inl g_20))), (a1, .inr (10, [.ref a7, .ref a8, .ref a9, .ref a10, .ref a11, .ref a12, .ref a13, .int x2])), (a7, .inl (cJ, 25, .inr (.inl g1)))] H := hP
        replace hD : va_D A [(a0, .inr (3, [.ref a1, .ref a2, .ref a3, .ref a4, .ref a5, .ref a6, .long y_9, .int x1, .long y2, .long y3])), (a6, .inl (cJ, 5, .inr (.inl g_20))), (a1, .inr (10, [.ref a7, .ref a8, .ref a9, .ref a10, .ref a11, .ref a12, .ref a13, .int x2])), (a7, .inl (cJ, 25, .inr (.inl g1)))] := hD
        refine b_iinc (pc := 81) hx hb dX3_move_81 hl (k := 0) rfl rfl tI_1 (by (first | omega | (unfold zBd at *; omega))) (by (first | omega | (unfold zBd at *; omega))) (by decide) (fun x_21 ex_21 ls hl => ?_)
        replace hl : lv_has ls 6 [(5, .int x_21), (4, .int x_1), (0, .ref a0), (1, .int x0), (2, .long y0)] := hl
        refine lv_goto (pc := 84) (tgt := 44) hx hb dX3_move_84 (by decide) ?_
        exact ih_lp_13 x_21 g_20 _ _ ls (by (first | omega | (unfold zBd at *; omega))) (by (first | omega | (unfold zBd at *; omega))) hP hD hS (lv_sub hl [0, 1, 2, 3, 4] rfl)
  exact lp_13 _ 0 g0 _ _ ls (n_c tI_0 (by decide)) (Nat.lt_succ_self _) hP hD hS (lv_sub hl [0, 1, 2, 3, 4] rfl)
set_option maxHeartbeats 4000000 in
set_option maxRecDepth 100000 in
theorem k_X3_startTrying (l : Launch) (D : va_G) (cB cC cI cJ : ClassId) (sz : Nat) (a0 a1 a2 a3 a4 a5 a6 a7 a8 a9 a10 a11 a12 a13 a14 a15 a16 a17 : Nat) (x0 x1 x2 x3 x4 x5 x6 x7 x8 : Int32) (y0 y1 y2 : Int64) (f0 f1 : Nat → Int32) (g0 g1 : Nat → Int64) (h_x0 : zBd x0.toInt 0 1) (h_x1 : zBd x1.toInt (-1) 8) (h_x2 : zBd x2.toInt (-1) 5) (h_x3 : zBd x3.toInt (-1) 6) (h_x4 : zBd x4.toInt 0 6) (h_x5 : zBd x5.toInt 0 16) (h_x8 : zBd x8.toInt 0 4) : Met l yX3_startTrying (.code yX3_startTrying cX3_startTrying 3 none :: lw_gd) ({ frames := 1, cells := 0, slots := 0, locals := 25 }) (gPre D [(cB, .byte), (cC, .char), (cI, .int), (cJ, .long)] [.ref a0, .ref a1] [(a0, .inr (3, [.ref a2, .ref a3, .ref a4, .ref a5, .ref a6, .ref a7, .long y0, .int x0, .long y1, .long y2])), (a6, .inl (cI, 5, .inl f0)), (a7, .inl (cJ, 5, .inr (.inl g0))), (a1, .inr (1, [.ref a8, .ref a9, .ref a10, .int x1, .int x2, .int x3, .int x4, .int x5, .int x6, .int x7])), (a5, .inl (cI, 5, .inl f1)), (a2, .inr (10, [.ref a11, .ref a12, .ref a13, .ref a14, .ref a15, .ref a16, .ref a17, .int x8])), (a11, .inl (cJ, 25, .inr (.inl g1)))] sz) (va_Qv (fun u => ((((-1) ≤ x2.toInt ∧ x2.toInt ≤ 5)))) (gB D (va_A [(a0, .inr (3, [.ref a2, .ref a3, .ref a4, .ref a5, .ref a6, .ref a7, .long y0, .int x0, .long y1, .long y2])), (a6, .inl (cI, 5, .inl f0)), (a7, .inl (cJ, 5, .inr (.inl g0))), (a1, .inr (1, [.ref a8, .ref a9, .ref a10, .int x1, .int x2, .int x3, .int x4, .int x5, .int x6, .int x7])), (a5, .inl (cI, 5, .inl f1)), (a2, .inr (10, [.ref a11, .ref a12, .ref a13, .ref a14, .ref a15, .ref a16, .ref a17, .int x8])), (a11, .inl (cJ, 25, .inr (.inl g1)))] sz) (fun u : gEx => [(a0, .inr (3, [.ref a2, .ref a3, .ref a4, .ref a5, .ref a6, .ref a7, .long (u.2.2.2.2 0), .int x0, .long y1, .long y2])), (a6, .inl (cI, 5, .inl (u.2.1 0))), (a7, .inl (cJ, 5, .inr (.inl (u.2.2.1 0)))), (a1, .inr (1, [.ref a8, .ref a9, .ref a10, .int x1, .int x2, .int x3, .int x4, .int x5, .int x6, .int x7])), (a5, .inl (cI, 5, .inl (u.2.1 1))), (a2, .inr (10, [.ref a11, .ref a12, .ref a13, .ref a14, .ref a15, .ref a16, .ref a17, .int x8])), (a11, .inl (cJ, 25, .inr (.inl g1)))])) (va_A [(a0, .inr (3, [.ref a2, .ref a3, .ref a4, .ref a5, .ref a6, .ref a7, .long y0, .int x0, .long y1, .long y2])), (a6, .inl (cI, 5, .inl f0)), (a7, .inl (cJ, 5, .inr (.inl g0))), (a1, .inr (1, [.ref a8, .ref a9, .ref a10, .int x1, .int x2, .int x3, .int x4, .int x5, .int x6, .int x7])), (a5, .inl (cI, 5, .inl f1)), (a2, .inr (10, [.ref a11, .ref a12, .ref a13, .ref a14, .ref a15, .ref a16, .ref a17, .int x8])), (a11, .inl (cJ, 25, .inr (.inl g1)))] sz)) 0 0 (va_A [(a0, .inr (3, [.ref a2, .ref a3, .ref a4, .ref a5, .ref a6, .ref a7, .long y0, .int x0, .long y1, .long y2])), (a6, .inl (cI, 5, .inl f0)), (a7, .inl (cJ, 5, .inr (.inl g0))), (a1, .inr (1, [.ref a8, .ref a9, .ref a10, .int x1, .int x2, .int x3, .int x4, .int x5, .int x6, .int x7])), (a5, .inl (cI, 5, .inl f1)), (a2, .inr (10, [.ref a11, .ref a12, .ref a13, .ref a14, .ref a15, .ref a16, .ref a17, .int x8])), (a11, .inl (cJ, 25, .inr (.inl g1)))] sz) := by
  refine gOf_v (by decide +kernel) (Nat.le_of_ble_eq_true rfl) ?_
  intro p e s m args below meth c ls A Q hx hb hts hown hml hN hK hP hD hA hl hret
  replace hown : s.vm.findClass RX3 = some m.cls := hown
  have hS : va_S A s.heap s.heap [] := va_S.rf
  replace hP : va_P D gcl [(a0, .inr (3, [.ref a2, .ref a3, .ref a4, .ref a5, .ref a6, .ref a7, .long y0, .int x0, .long y1, .long y2])), (a6, .inl (cI, 5, .inl f0)), (a7, .inl (cJ, 5, .inr (.inl g0))), (a1, .inr (1, [.ref a8, .ref a9, .ref a10, .int x1, .int x2, .int x3, .int x4, .int x5, .int x6, .int x7])), (a5, .inl (cI, 5, .inl f1)), (a2, .inr (10, [.ref a11, .ref a12, .ref a13, .ref a14, .ref a15, .ref a16, .ref a17, .int x8])), (a11, .inl (cJ, 25, .inr (.inl g1)))] s.heap := hP
  replace hl : lv_has ls 3 [(0, .ref a0), (1, .ref a1)] := hl
  have ry0 := n_rngL y0
  have ry1 := n_rngL y1
  have ry2 := n_rngL y2
  have rx6 : zBd x6.toInt (-2147483648) 2147483647 := n_rng x6
  have rx7 : zBd x7.toInt (-2147483648) 2147483647 := n_rng x7
  refine lv_aload_n (pc := 0) hx hb dX3_startTrying_0 rfl (lv_at hl 0 rfl) ?_
  refine va_get (pc := 1) (ci := 3) (v := .ref a6) (C := RX3) (T := TX3) (N := 10) hx hb hts iX3 hown hK hP 0 rfl rfl 4 (by decide) (hts _ tw_353) (fun _ h9 => h9) rfl dX3_startTrying_1 ?_
  refine lv_iconst (pc := 4) (v := 0) hx hb dX3_startTrying_4 (by decide) ?_
  refine gc_v (pc := 5) (wc := [(a6, .inl (cI, 5, .inl f0))]) (wr := [(a0, .inr (3, [.ref a2, .ref a3, .ref a4, .ref a5, .ref a6, .ref a7, .long y0, .int x0, .long y1, .long y2])), (a7, .inl (cJ, 5, .inr (.inl g0))), (a1, .inr (1, [.ref a8, .ref a9, .ref a10, .int x1, .int x2, .int x3, .int x4, .int x5, .int x6, .int x7])), (a5, .inl (cI, 5, .inl f1)), (a2, .inr (10, [.ref a11, .ref a12, .ref a13, .ref a14, .ref a15, .ref a16, .ref a17, .int x8])), (a11, .inl (cJ, 25, .inr (.inl g1)))]) hP hD hS hA [1] [0, 2, 3, 4, 5, 6] rfl rfl (by decide) (by decide) (by decide) (fun hPc hDc => va_runS (As := [.ref a6, .int 0]) (rest := []) ⟨hx, hb, hml, hown, hts⟩ (k_J7_fill_53178_5 l D cB cC cI cJ _ a6 0 f0) ⟨gcwB hts tw_505 tw_10 tw_1249 hd_yJ7_fill_53178 ⟨Nat.le_of_ble_eq_true rfl, Nat.le_of_ble_eq_true rfl⟩, hts _ tw_504⟩ (gpreS hPc hK hDc hN) rfl rfl hl.1 rfl (lv_room (Nat.le_of_ble_eq_true rfl)) dX3_startTrying_5 ⟨Nat.le_of_ble_eq_true rfl, Nat.le_of_ble_eq_true rfl⟩) (fun u_1 H locs hw_3 hP hD hS => ?_)
  replace hP : va_P D gcl [(a0, .inr (3, [.ref a2, .ref a3, .ref a4, .ref a5, .ref a6, .ref a7, .long y0, .int x0, .long y1, .long y2])), (a7, .inl (cJ, 5, .inr (.inl g0))), (a1, .inr (1, [.ref a8, .ref a9, .ref a10, .int x1, .int x2, .int x3, .int x4, .int x5, .int x6, .int x7])), (a5, .inl (cI, 5, .inl f1)), (a2, .inr (10, [.ref a11, .ref a12, .ref a13, .ref a14, .ref a15, .ref a16, .ref a17, .int x8])), (a11, .inl (cJ, 25, .inr (.inl g1))), (a6, .inl (cI, 5, .inl (u_1.2.1 0)))] H := hP
  replace hD : va_D A [(a0, .inr (3, [.ref a2, .ref a3, .ref a4, .ref a5, .ref a6, .ref a7, .long y0, .int x0, .long y1, .long y2])), (a7, .inl (cJ, 5, .inr (.inl g0))), (a1, .inr (1, [.ref a8, .ref a9, .ref a10, .int x1, .int x2, .int x3, .int x4, .int x5, .int x6, .int x7])), (a5, .inl (cI, 5, .inl f1)), (a2, .inr (10, [.ref a11, .ref a12, .ref a13, .ref a14, .ref a15, .ref a16, .ref a17, .int x8])), (a11, .inl (cJ, 25, .inr (.inl g1))), (a6, .inl (cI, 5, .inl (u_1.2.1 0)))] := hD
  refine lv_aload_n (pc := 8) hx hb dX3_startTrying_8 rfl (lv_at hl 0 rfl) ?_
  refine va_get (pc := 9) (ci := 3) (v := .ref a7) (C := RX3) (T := TX3) (N := 10) hx hb hts iX3 hown hK hP 0 rfl rfl 5 (by decide) (hts _ tw_354) (fun _ h9 => h9) rfl dX3_startTrying_9 ?_
  refine lv_lconst (pc := 12) (v := 0) hx hb dX3_startTrying_12 (by decide) ?_
  refine gc_v (pc := 13) (wc := [(a7, .inl (cJ, 5, .inr (.inl g0)))]) (wr := [(a0, .inr (3, [.ref a2, .ref a3, .ref a4, .ref a5, .ref a6, .ref a7, .long y0, .int x0, .long y1, .long y2])), (a1, .inr (1, [.ref a8, .ref a9, .ref a10, .int x1, .int x2, .int x3, .int x4, .int x5, .int x6, .int x7])), (a5, .inl (cI, 5, .inl f1)), (a2, .inr (10, [.ref a11, .ref a12, .ref a13, .ref a14, .ref a15, .ref a16, .ref a17, .int x8])), (a11, .inl (cJ, 25, .inr (.inl g1))), (a6, .inl (cI, 5, .inl (u_1.2.1 0)))]) hP hD hS hA [1] [0, 2, 3, 4, 5, 6] rfl rfl (by decide) (by decide) (by decide) (fun hPc hDc => va_runS (As := [.ref a7, .long 0]) (rest := []) ⟨hx, hb, hml, hown, hts⟩ (k_J7_fill_d0a16_5 l D cB cC cI cJ _ a7 0 g0) ⟨gcwB hts tw_292 tw_10 tw_1250 hd_yJ7_fill_d0a16 ⟨Nat.le_of_ble_eq_true rfl, Nat.le_of_ble_eq_true rfl⟩, hts _ tw_291⟩ (gpreS hPc hK hDc hN) rfl rfl hl.1 rfl (lv_room (Nat.le_of_ble_eq_true rfl)) dX3_startTrying_13 ⟨Nat.le_of_ble_eq_true rfl, Nat.le_of_ble_eq_true rfl⟩) (fun u_4 H locs hw_6 hP hD hS => ?_)
  replace hP : va_P D gcl [(a0, .inr (3, [.ref a2, .ref a3, .ref a4, .ref a5, .ref a6, .ref a7, .long y0, .int x0, .long y1, .long y2])), (a1, .inr (1, [.ref a8, .ref a9, .ref a10, .int x1, .int x2, .int x3, .int x4, .int x5, .int x6, .int x7])), (a5, .inl (cI, 5, .inl f1)), (a2, .inr (10, [.ref a11, .ref a12, .ref a13, .ref a14, .ref a15, .ref a16, .ref a17, .int x8])), (a11, .inl (cJ, 25, .inr (.inl g1))), (a6, .inl (cI, 5, .inl (u_1.2.1 0))), (a7, .inl (cJ, 5, .inr (.inl (u_4.2.2.1 0))))] H := hP
  replace hD : va_D A [(a0, .inr (3, [.ref a2, .ref a3, .ref a4, .ref a5, .ref a6, .ref a7, .long y0, .int x0, .long y1, .long y2])), (a1, .inr (1, [.ref a8, .ref a9, .ref a10, .int x1, .int x2, .int x3, .int x4, .int x5, .int x6, .int x7])), (a5, .inl (cI, 5, .inl f1)), (a2, .inr (10, [.ref a11, .ref a12, .ref a13, .ref a14, .ref a15, .ref a16, .ref a17, .int x8])), (a11, .inl (cJ, 25, .inr (.inl g1))), (a6, .inl (cI, 5, .inl (u_1.2.1 0))), (a7, .inl (cJ, 5, .inr (.inl (u_4.2.2.1 0))))] := hD
  refine lv_aload_n (pc := 16) hx hb dX3_startTrying_16 rfl (lv_at hl 0 rfl) ?_
  refine lv_lconst (pc := 17) (v := 0) hx hb dX3_startTrying_17 (by decide) ?_
  refine va_put (pc := 18) (ci := 3) (v := .long 0) (ty := .long) (C := RX3) (T := TX3) (N := 10) hx hb hts iX3 tyX3 tyX3_ok nmX3 hown hK hP hD hS 0 rfl rfl 6 (by decide) (hts _ tw_355) (fun _ h9 => h9) rfl (by decide +kernel) (by decide +kernel) (by decide +kernel) (Nat.le_of_ble_eq_true rfl) dX3_startTrying_18 (fun H locs hP hD hS => ?_)
  replace hP : va_P D gcl [(a0, .inr (3, [.ref a2, .ref a3, .ref a4, .ref a5, .ref a6, .ref a7, .long 0, .int x0, .long y1, .long y2])), (a1, .inr (1, [.ref a8, .ref a9, .ref a10, .int x1, .int x2, .int x3, .int x4, .int x5, .int x6, .int x7])), (a5, .inl (cI, 5, .inl f1)), (a2, .inr (10, [.ref a11, .ref a12, .ref a13, .ref a14, .ref a15, .ref a16, .ref a17, .int x8])), (a11, .inl (cJ, 25, .inr (.inl g1))), (a6, .inl (cI, 5, .inl (u_1.2.1 0))), (a7, .inl (cJ, 5, .inr (.inl (u_4.2.2.1 0))))] H := hP
  replace hD : va_D A [(a0, .inr (3, [.ref a2, .ref a3, .ref a4, .ref a5, .ref a6, .ref a7, .long 0, .int x0, .long y1, .long y2])), (a1, .inr (1, [.ref a8, .ref a9, .ref a10, .int x1, .int x2, .int x3, .int x4, .int x5, .int x6, .int x7])), (a5, .inl (cI, 5, .inl f1)), (a2, .inr (10, [.ref a11, .ref a12, .ref a13, .ref a14, .ref a15, .ref a16, .ref a17, .int x8])), (a11, .inl (cJ, 25, .inr (.inl g1))), (a6, .inl (cI, 5, .inl (u_1.2.1 0))), (a7, .inl (cJ, 5, .inr (.inl (u_4.2.2.1 0))))] := hD
  refine lv_iconst (pc := 21) (v := 0) hx hb dX3_startTrying_21 (by decide) ?_
  refine lv_istore_n (pc := 22) (lv' := [(2, .int 0), (0, .ref a0), (1, .ref a1)]) hx hb dX3_startTrying_22 rfl hl (by decide) rfl (fun ls hl => ?_)
  have lp_13 : ∀ (n : Nat) (x_7 : Int32) (y_9 : Int64) (f_11 : Nat → Int32) (g_12 : Nat → Int64) (H : Heap) (locs : List Loc) (ls : Array Slot), (0 ≤ x_7.toInt ∧ x_7.toInt ≤ 2147483647) → (2147483647 - x_7.toInt).toNat < n → va_P D gcl [(a0, .inr (3, [.ref a2, .ref a3, .ref a4, .ref a5, .ref a6, .ref a7, .long y_9, .int x0, .long y1, .long y2])), (a1, .inr (1, [.ref a8, .ref a9, .ref a10, .int x1, .int x2, .int x3, .int x4, .int x5, .int x6, .int x7])), (a5, .inl (cI, 5, .inl f_11)), (a2, .inr (10, [.ref a11, .ref a12, .ref a13, .ref a14, .ref a15, .ref a16, .ref a17, .int x8])), (a11, .inl (cJ, 25, .inr (.inl g1))), (a6, .inl (cI, 5, .inl (u_1.2.1 0))), (a7, .inl (cJ, 5, .inr (.inl g_12)))] H → va_D A [(a0, .inr (3, [.ref a2, .ref a3, .ref a4, .ref a5, .ref a6, .ref a7, .long y_9, .int x0, .long y1, .long y2])), (a1, .inr (1, [.ref a8, .ref a9, .ref a10, .int x1, .int x2, .int x3, .int x4, .int x5, .int x6, .int x7])), (a5, .inl (cI, 5, .inl f_11)), (a2, .inr (10, [.ref a11, .ref a12, .ref a13, .ref a14, .ref a15, .ref a16, .ref a17, .int x8])), (a11, .inl (cJ, 25, .inr (.inl g1))), (a6, .inl (cI, 5, .inl (u_1.2.1 0))), (a7, .inl (cJ, 5, .inr (.inl g_12)))] → va_S A s.heap H locs → lv_has ls 3 [(2, .int x_7), (0, .ref a0), (1, .ref a1)] → W p l e ({ frames := 1, cells := 0, slots := 0, locals := 25 }) s m args below meth c H locs 0 0 Q (F0 m 23 ls []) := by
    intro n
    induction n with
    | zero => intro x_7 y_9 f_11 g_12 H locs ls hi_8 hmu; exact absurd hmu (Nat.not_lt_zero _)
    | succ n ih_lp_13 =>
      intro x_7 y_9 f_11 g_12 H locs ls hi_8 hmu_lp_13 hP hD hS hl
      have hi_10 := n_rngL y_9
      refine lv_iload_n (pc := 23) hx hb dX3_startTrying_23 rfl (lv_at hl 0 rfl) ?_
      refine lv_aload_n (pc := 24) hx hb dX3_startTrying_24 rfl (lv_at hl 2 rfl) ?_
      refine va_getN (pc := 25) (ci := 1) (v := .int x2) (C := RX1) (T := TX1) (N := 10) hx hb hts iX1 hown hK hP 1 rfl rfl 4 (by decide) (va_Nw.use rfl (hN _ tn_122)) (fun _ h9 => h9) rfl dX3_startTrying_25 ?_
      refine b_icmp_ge (pc := 28) (tgt := 61) hx hb rfl rfl  dX3_startTrying_28 (by decide) (fun c_14 => ?_) (fun c_14 => ?_)
      ·
        exact hret ((fun _ => 0), (fun k => [(u_1.2.1 0), f_11].getD k (fun _ => 0)), (fun k => [g_12].getD k (fun _ => 0)), (fun _ => 0), (fun k => [y_9].getD k 0)) dX3_startTrying_61 (show ((((-1) ≤ x2.toInt ∧ x2.toInt ≤ 5))) from h_x2) (g_psub (wc := [(a0, .inr (3, [.ref a2, .ref a3, .ref a4, .ref a5, .ref a6, .ref a7, .long y_9, .int x0, .long y1, .long y2])), (a6, .inl (cI, 5, .inl (u_1.2.1 0))), (a7, .inl (cJ, 5, .inr (.inl g_12))), (a1, .inr (1, [.ref a8, .ref a9, .ref a10, .int x1, .int x2, .int x3, .int x4, .int x5, .int x6, .int x7])), (a5, .inl (cI, 5, .inl f_11)), (a2, .inr (10, [.ref a11, .ref a12, .ref a13, .ref a14, .ref a15, .ref a16, .ref a17, .int x8])), (a11, .inl (cJ, 25, .inr (.inl g1)))]) hP [0, 5, 6, 1, 2, 3, 4] rfl) (hD.sub (ws' := [(a0, .inr (3, [.ref a2, .ref a3, .ref a4, .ref a5, .ref a6, .ref a7, .long y_9, .int x0, .long y1, .long y2])), (a6, .inl (cI, 5, .inl (u_1.2.1 0))), (a7, .inl (cJ, 5, .inr (.inl g_12))), (a1, .inr (1, [.ref a8, .ref a9, .ref a10, .int x1, .int x2, .int x3, .int x4, .int x5, .int x6, .int x7])), (a5, .inl (cI, 5, .inl f_11)), (a2, .inr (10, [.ref a11, .ref a12, .ref a13, .ref a14, .ref a15, .ref a16, .ref a17, .int x8])), (a11, .inl (cJ, 25, .inr (.inl g1)))]) [0, 5, 6, 1, 2, 3, 4] (by decide) rfl) hS
      ·
        refine lv_aload_n (pc := 31) hx hb dX3_startTrying_31 rfl (lv_at hl 1 rfl) ?_
        refine va_get (pc := 32) (ci := 3) (v := .ref a5) (C := RX3) (T := TX3) (N := 10) hx hb hts iX3 hown hK hP 0 rfl rfl 3 (by decide) (hts _ tw_352) (fun _ h9 => h9) rfl dX3_startTrying_32 ?_
        refine lv_iload_n (pc := 35) hx hb dX3_startTrying_35 rfl (lv_at hl 0 rfl) ?_
        refine lv_iconst (pc := 36) (v := 1) hx hb dX3_startTrying_36 (by decide) ?_
        refine lv_aload_n (pc := 37) hx hb dX3_startTrying_37 rfl (lv_at hl 2 rfl) ?_
        refine va_getN (pc := 38) (ci := 1) (v := .int x1) (C := RX1) (T := TX1) (N := 10) hx hb hts iX1 hown hK hP 1 rfl rfl 3 (by decide) (va_Nw.use rfl (hN _ tn_113)) (fun _ h9 => h9) rfl dX3_startTrying_38 ?_
        refine b_isub (pc := 41) hx hb tI_1 rfl (by (first | omega | (unfold zBd at *; omega))) (by (first | omega | (unfold zBd at *; omega))) dX3_startTrying_41 (fun x_15 ex_15 => ?_)
        refine g_iastore (pc := 42) hx hb hK hP hD hS 2 2 rfl rfl (n_in rfl (by (first | omega | (unfold zBd at *; omega))) (by (first | omega | (unfold zBd at *; omega)))) dX3_startTrying_42 (fun f_16 H locs hP hD hS => ?_)
        replace hP : va_P D gcl [(a0, .inr (3, [.ref a2, .ref a3, .ref a4, .ref a5, .ref a6, .ref a7, .long y_9, .int x0, .long y1, .long y2])), (a1, .inr (1, [.ref a8, .ref a9, .ref a10, .int x1, .int x2, .int x3, .int x4, .int x5, .int x6, .int x7])), (a5, .inl (cI, 5, .inl f_16)), (a2, .inr (10, [.ref a11, .ref a12, .ref a13, .ref a14, .ref a15, .ref a16, .ref a17, .int x8])), (a11, .inl (cJ, 25, .inr (.inl g1))), (a6, .inl (cI, 5, .inl (u_1.2.1 0))), (a7, .inl (cJ, 5, .inr (.inl g_12)))] H := hP
        replace hD : va_D A [(a0, .inr (3, [.ref a2, .ref a3, .ref a4, .ref a5, .ref a6, .ref a7, .long y_9, .int x0, .long y1, .long y2])), (a1, .inr (1, [.ref a8, .ref a9, .ref a10, .int x1, .int x2, .int x3, .int x4, .int x5, .int x6, .int x7])), (a5, .inl (cI, 5, .inl f_16)), (a2, .inr (10, [.ref a11, .ref a12, .ref a13, .ref a14, .ref a15, .ref a16, .ref a17, .int x8])), (a11, .inl (cJ, 25, .inr (.inl g1))), (a6, .inl (cI, 5, .inl (u_1.2.1 0))), (a7, .inl (cJ, 5, .inr (.inl g_12)))] := hD
        refine lv_aload_n (pc := 43) hx hb dX3_startTrying_43 rfl (lv_at hl 1 rfl) ?_
        refine lv_iload_n (pc := 44) hx hb dX3_startTrying_44 rfl (lv_at hl 0 rfl) ?_
        refine lv_aload_n (pc := 45) hx hb dX3_startTrying_45 rfl (lv_at hl 1 rfl) ?_
        refine va_get (pc := 46) (ci := 3) (v := .ref a5) (C := RX3) (T := TX3) (N := 10) hx hb hts iX3 hown hK hP 0 rfl rfl 3 (by decide) (hts _ tw_352) (fun _ h9 => h9) rfl dX3_startTrying_46 ?_
        refine lv_iload_n (pc := 49) hx hb dX3_startTrying_49 rfl (lv_at hl 0 rfl) ?_
        refine va_iald (pc := 50) hx hb hK hP 2 2 rfl rfl (n_in rfl (by (first | omega | (unfold zBd at *; omega))) (by (first | omega | (unfold zBd at *; omega)))) dX3_startTrying_50 ?_
        refine lv_topi (fun x_17 ex_17 => ?_)
        have rx_17 : zBd x_17.toInt (-2147483648) 2147483647 := n_rng x_17
        refine b_i2l (pc := 51) hx hb rfl dX3_startTrying_51 (fun y_18 ey_18 => ?_)
        have ry_18 : zBd x_17.toInt (-2147483648) 2147483647 := n_rng x_17
        refine gc_v (pc := 52) (wc := [(a0, .inr (3, [.ref a2, .ref a3, .ref a4, .ref a5, .ref a6, .ref a7, .long y_9, .int x0, .long y1, .long y2])), (a7, .inl (cJ, 5, .inr (.inl g_12))), (a2, .inr (10, [.ref a11, .ref a12, .ref a13, .ref a14, .ref a15, .ref a16, .ref a17, .int x8])), (a11, .inl (cJ, 25, .inr (.inl g1)))]) (wr := [(a1, .inr (1, [.ref a8, .ref a9, .ref a10, .int x1, .int x2, .int x3, .int x4, .int x5, .int x6, .int x7])), (a5, .inl (cI, 5, .inl f_16)), (a6, .inl (cI, 5, .inl (u_1.2.1 0)))]) hP hD hS hA [0, 6, 3, 4] [1, 2, 5] rfl rfl (by decide) (by decide) (by decide) (fun hPc hDc => va_runV (As := [.int x_7, .long y_18]) (rest := []) ⟨hx, hb, hml, hown, hts⟩ (k_X3_move l D cB cC cI cJ _ a0 a2 a3 a4 a5 a6 a7 a11 a12 a13 a14 a15 a16 a17 x_7 x0 x8 y_18 y_9 y1 y2 g_12 g1 (by  (first | omega | (unfold zBd at *; omega))) h_x0 h_x8) ⟨gcwB hts tw_1254 tw_12 tw_1251 hd_yX3_move ⟨Nat.le_of_ble_eq_true rfl, Nat.le_of_ble_eq_true rfl⟩, hts _ tw_1253, hts _ tp_49⟩ ⟨gblind, va_recv hK hPc (ci := 3) (q0 := 0) rfl rfl, (gpreS hPc hK hDc hN).2⟩ rfl rfl hl.1 rfl (lv_room (Nat.le_of_ble_eq_true rfl)) dX3_startTrying_52 ⟨Nat.le_of_ble_eq_true rfl, Nat.le_of_ble_eq_true rfl⟩) (fun u_19 H locs hw_21 hP hD hS => ?_)
        replace hP : va_P D gcl [(a1, .inr (1, [.ref a8, .ref a9, .ref a10, .int x1, .int x2, .int x3, .int x4, .int x5, .int x6, .int x7])), (a5, .inl (cI, 5, .inl f_16)), (a6, .inl (cI, 5, .inl (u_1.2.1 0))), (a0, .inr (3, [.ref a2, .ref a3, .ref a4, .ref a5, .ref a6, .ref a7, .long (u_19.2.2.2.2 0), .int x0, .long y1, .long y2])), (a7, .inl (cJ, 5, .inr (.inl (u_19.2.2.1 0)))), (a2, .inr (10, [.ref a11, .ref a12, .ref a13, .ref a14, .ref a15, .ref a16, .ref a17, .int x8])), (a11, .inl (cJ, 25, .inr (.inl g1)))] H := hP
        replace hD : va_D A [(a1, .inr (1, [.ref a8, .ref a9, .ref a10, .int x1, .int x2, .int x3, .int x4, .int x5, .int x6, .int x7])), (a5, .inl (cI, 5, .inl f_16)), (a6, .inl (cI, 5, .inl (u_1.2.1 0))), (a0, .inr (3, [.ref a2, .ref a3, .ref a4, .ref a5, .ref a6, .ref a7, .long (u_19.2.2.2.2 0), .int x0, .long y1, .long y2])), (a7, .inl (cJ, 5, .inr (.inl (u_19.2.2.1 0)))), (a2, .inr (10, [.ref a11, .ref a12, .ref a13, .ref a14, .ref a15, .ref a16, .ref a17, .int x8])), (a11, .inl (cJ, 25, .inr (.inl g1)))] := hD
        have ru_19_0 := n_rngL (u_19.2.2.2.2 0)
        have hw_22 : (((0 ≤ x8.toInt ∧ x8.toInt ≤ 4))) := hw_21
        refine b_iinc (pc := 55) hx hb dX3_startTrying_55 hl (k := 0) rfl rfl tI_1 (by (first | omega | (unfold zBd at *; omega))) (by (first | omega | (unfold zBd at *; omega))) (by decide) (fun x_23 ex_23 ls hl => ?_)
        replace hl : lv_has ls 3 [(2, .int x_23), (0, .ref a0), (1, .ref a1)] := hl
        refine lv_goto (pc := 58) (tgt := 23) hx hb dX3_startTrying_58 (by decide) ?_
        exact ih_lp_13 x_23 (u_19.2.2.2.2 0) f_16 (u_19.2.2.1 0) _ _ ls (by (first | omega | (unfold zBd at *; omega))) (by (first | omega | (unfold zBd at *; omega))) (g_psub hP [3, 0, 1, 5, 6, 2, 4] rfl) (hD.sub [3, 0, 1, 5, 6, 2, 4] (by decide) rfl) hS (lv_sub hl [0, 1, 2] rfl)
  exact lp_13 _ 0 0 f1 (u_4.2.2.1 0) _ _ ls (n_c tI_0 (by decide)) (Nat.lt_succ_self _) hP hD hS (lv_sub hl [0, 1, 2] rfl)
set_option maxHeartbeats 4000000 in
set_option maxRecDepth 100000 in
theorem k_X3_better (l : Launch) (D : va_G) (cB cC cI cJ : ClassId) (sz : Nat) (a0 a1 a2 a3 a4 a5 a6 a7 a8 a9 a10 a11 a12 a13 : Nat) (x0 x1 x2 x3 : Int32) (y0 y1 y2 : Int64) (f0 : Nat → Int32) (g0 g1 : Nat → Int64) (hp1 : (0 ≤ x0.toInt ∧ x0.toInt ≤ 4)) (h_x2 : zBd x2.toInt 0 1) (h_x3 : zBd x3.toInt 0 4) : Met l yX3_better (.code yX3_better cX3_better 6 none :: lw_gd) ({ frames := 1, cells := 0, slots := 0, locals := 25 }) (gPre D [(cB, .byte), (cC, .char), (cI, .int), (cJ, .long)] [.ref a0, .int x0, .int x1] [(a0, .inr (3, [.ref a1, .ref a2, .ref a3, .ref a4, .ref a5, .ref a6, .long y0, .int x2, .long y1, .long y2])), (a6, .inl (cJ, 5, .inr (.inl g0))), (a5, .inl (cI, 5, .inl f0)), (a1, .inr (10, [.ref a7, .ref a8, .ref a9, .ref a10, .ref a11, .ref a12, .ref a13, .int x3])), (a7, .inl (cJ, 25, .inr (.inl g1)))] sz) (va_Qv (fun u => True) (gB D (va_A [(a0, .inr (3, [.ref a1, .ref a2, .ref a3, .ref a4, .ref a5, .ref a6, .long y0, .int x2, .long y1, .long y2])), (a6, .inl (cJ, 5, .inr (.inl g0))), (a5, .inl (cI, 5, .inl f0)), (a1, .inr (10, [.ref a7, .ref a8, .ref a9, .ref a10, .ref a11, .ref a12, .ref a13, .int x3])), (a7, .inl (cJ, 25, .inr (.inl g1)))] sz) (fun u : gEx => [(a0, .inr (3, [.ref a1, .ref a2, .ref a3, .ref a4, .ref a5, .ref a6, .long (u.2.2.2.2 0), .int x2, .long y1, .long y2])), (a6, .inl (cJ, 5, .inr (.inl (u.2.2.1 0)))), (a5, .inl (cI, 5, .inl (u.2.1 0))), (a1, .inr (10, [.ref a7, .ref a8, .ref a9, .ref a10, .ref a11, .ref a12, .ref a13, .int x3])), (a7, .inl (cJ, 25, .inr (.inl g1)))])) (va_A [(a0, .inr (3, [.ref a1, .ref a2, .ref a3, .ref a4, .ref a5, .ref a6, .long y0, .int x2, .long y1, .long y2])), (a6, .inl (cJ, 5, .inr (.inl g0))), (a5, .inl (cI, 5, .inl f0)), (a1, .inr (10, [.ref a7, .ref a8, .ref a9, .ref a10, .ref a11, .ref a12, .ref a13, .int x3])), (a7, .inl (cJ, 25, .inr (.inl g1)))] sz)) 0 0 (va_A [(a0, .inr (3, [.ref a1, .ref a2, .ref a3, .ref a4, .ref a5, .ref a6, .long y0, .int x2, .long y1, .long y2])), (a6, .inl (cJ, 5, .inr (.inl g0))), (a5, .inl (cI, 5, .inl f0)), (a1, .inr (10, [.ref a7, .ref a8, .ref a9, .ref a10, .ref a11, .ref a12, .ref a13, .int x3])), (a7, .inl (cJ, 25, .inr (.inl g1)))] sz) := by
  refine gOf_v (by decide +kernel) (Nat.le_of_ble_eq_true rfl) ?_
  intro p e s m args below meth c ls A Q hx hb hts hown hml hN hK hP hD hA hl hret
  replace hown : s.vm.findClass RX3 = some m.cls := hown
  have hS : va_S A s.heap s.heap [] := va_S.rf
  replace hP : va_P D gcl [(a0, .inr (3, [.ref a1, .ref a2, .ref a3, .ref a4, .ref a5, .ref a6, .long y0, .int x2, .long y1, .long y2])), (a6, .inl (cJ, 5, .inr (.inl g0))), (a5, .inl (cI, 5, .inl f0)), (a1, .inr (10, [.ref a7, .ref a8, .ref a9, .ref a10, .ref a11, .ref a12, .ref a13, .int x3])), (a7, .inl (cJ, 25, .inr (.inl g1)))] s.heap := hP
  replace hl : lv_has ls 6 [(0, .ref a0), (1, .int x0), (2, .int x1)] := hl
  have rx1 : zBd x1.toInt (-2147483648) 2147483647 := n_rng x1
  have ry0 := n_rngL y0
  have ry1 := n_rngL y1
  have ry2 := n_rngL y2
  refine lv_aload_n (pc := 0) hx hb dX3_better_0 rfl (lv_at hl 0 rfl) ?_
  refine va_get (pc := 1) (ci := 3) (v := .ref a6) (C := RX3) (T := TX3) (N := 10) hx hb hts iX3 hown hK hP 0 rfl rfl 5 (by decide) (hts _ tw_354) (fun _ h9 => h9) rfl dX3_better_1 ?_
  refine lv_iload_n (pc := 4) hx hb dX3_better_4 rfl (lv_at hl 1 rfl) ?_
  refine va_lald (pc := 5) hx hb hK hP 1 3 rfl rfl (n_in rfl (by (first | omega | (unfold zBd at *; omega))) (by (first | omega | (unfold zBd at *; omega)))) dX3_better_5 ?_
  refine lv_topl (fun y_1 ey_1 => ?_)
  have ry_1 := n_rngL y_1
  refine lv_lconst (pc := 6) (v := 0) hx hb dX3_better_6 (by decide) ?_
  refine b_lcmp_le (pc := 7) (tgt := 15) hx hb rfl tL_0 dX3_better_7 dX3_better_8 (by decide) (fun c_2 => ?_) (fun c_2 => ?_)
  ·
    refine lv_iconst (pc := 15) (v := 1) hx hb dX3_better_15 (by decide) ?_
    refine lv_istore_n (pc := 16) (lv' := [(3, .int 1), (0, .ref a0), (1, .int x0), (2, .int x1)]) hx hb dX3_better_16 rfl hl (by decide) rfl (fun ls hl => ?_)
    refine lv_aload_n (pc := 17) hx hb dX3_better_17 rfl (lv_at hl 1 rfl) ?_
    refine va_get (pc := 18) (ci := 3) (v := .ref a5) (C := RX3) (T := TX3) (N := 10) hx hb hts iX3 hown hK hP 0 rfl rfl 4 (by decide) (hts _ tw_353) (fun _ h9 => h9) rfl dX3_better_18 ?_
    refine lv_iload_n (pc := 21) hx hb dX3_better_21 rfl (lv_at hl 2 rfl) ?_
    refine va_iald (pc := 22) hx hb hK hP 2 2 rfl rfl (n_in rfl (by (first | omega | (unfold zBd at *; omega))) (by (first | omega | (unfold zBd at *; omega)))) dX3_better_22 ?_
    refine lv_topi (fun x_3 ex_3 => ?_)
    have rx_3 : zBd x_3.toInt (-2147483648) 2147483647 := n_rng x_3
    refine lv_iload_n (pc := 23) hx hb dX3_better_23 rfl (lv_at hl 0 rfl) ?_
    refine lv_iadd (pc := 24) hx hb dX3_better_24 ?_
    refine lv_topi (fun x_4 _ => ?_)
    have rx_4 : zBd x_4.toInt (-2147483648) 2147483647 := n_rng x_4
    refine lv_iconst (pc := 25) (v := (-1)) hx hb dX3_better_25 (by decide) ?_
    refine b_icmp_lt (pc := 26) (tgt := 41) hx hb rfl tI_m1  dX3_better_26 (by decide) (fun c_5 => ?_) (fun c_5 => ?_)
    ·
      exact hret ((fun _ => 0), (fun k => [f0].getD k (fun _ => 0)), (fun k => [g0].getD k (fun _ => 0)), (fun _ => 0), (fun k => [y0].getD k 0)) dX3_better_41 trivial (g_psub (wc := [(a0, .inr (3, [.ref a1, .ref a2, .ref a3, .ref a4, .ref a5, .ref a6, .long y0, .int x2, .long y1, .long y2])), (a6, .inl (cJ, 5, .inr (.inl g0))), (a5, .inl (cI, 5, .inl f0)), (a1, .inr (10, [.ref a7, .ref a8, .ref a9, .ref a10, .ref a11, .ref a12, .ref a13, .int x3])), (a7, .inl (cJ, 25, .inr (.inl g1)))]) hP [0, 1, 2, 3, 4] rfl) (hD.sub (ws' := [(a0, .inr (3, [.ref a1, .ref a2, .ref a3, .ref a4, .ref a5, .ref a6, .long y0, .int x2, .long y1, .long y2])), (a6, .inl (cJ, 5, .inr (.inl g0))), (a5, .inl (cI, 5, .inl f0)), (a1, .inr (10, [.ref a7, .ref a8, .ref a9, .ref a10, .ref a11, .ref a12, .ref a13, .int x3])), (a7, .inl (cJ, 25, .inr (.inl g1)))]) [0, 1, 2, 3, 4] (by decide) rfl) hS
    ·
      refine lv_aload_n (pc := 29) hx hb dX3_better_29 rfl (lv_at hl 1 rfl) ?_
      refine va_get (pc := 30) (ci := 3) (v := .ref a5) (C := RX3) (T := TX3) (N := 10) hx hb hts iX3 hown hK hP 0 rfl rfl 4 (by decide) (hts _ tw_353) (fun _ h9 => h9) rfl dX3_better_30 ?_
      refine lv_iload_n (pc := 33) hx hb dX3_better_33 rfl (lv_at hl 2 rfl) ?_
      refine va_iald (pc := 34) hx hb hK hP 2 2 rfl rfl (n_in rfl (by (first | omega | (unfold zBd at *; omega))) (by (first | omega | (unfold zBd at *; omega)))) dX3_better_34 ?_
      refine gI (y := x_3) ex_3.symm ?_
      refine lv_iload_n (pc := 35) hx hb dX3_better_35 rfl (lv_at hl 0 rfl) ?_
      refine lv_iadd (pc := 36) hx hb dX3_better_36 ?_
      refine lv_topi (fun x_6 _ => ?_)
      have rx_6 : zBd x_6.toInt (-2147483648) 2147483647 := n_rng x_6
      refine lv_iconst (pc := 37) (v := 1) hx hb dX3_better_37 (by decide) ?_
      refine b_icmp_le (pc := 38) (tgt := 42) hx hb rfl tI_1  dX3_better_38 (by decide) (fun c_7 => ?_) (fun c_7 => ?_)
      ·
        refine lv_iload_n (pc := 42) hx hb dX3_better_42 rfl (lv_at hl 0 rfl) ?_
        refine lv_i2l (pc := 43) (v := 1) hx hb dX3_better_43 (by decide +kernel) ?_
        refine lv_iload_n (pc := 44) hx hb dX3_better_44 rfl (lv_at hl 3 rfl) ?_
        refine b_i2l (pc := 45) hx hb rfl dX3_better_45 (fun y_8 ey_8 => ?_)
        have ry_8 : zBd x1.toInt (-2147483648) 2147483647 := n_rng x1
        refine b_lmul (pc := 46) hx hb tL_1 rfl (by (first | omega | (unfold zBd at *; omega))) (by (first | omega | (unfold zBd at *; omega))) dX3_better_46 (fun y_9 ey_9 => ?_)
        refine lv_lstore (pc := 47) (lv' := [(4, .long y_9), (3, .int 1), (0, .ref a0), (1, .int x0), (2, .int x1)]) hx hb dX3_better_47 hl (by decide) rfl (fun ls hl => ?_)
        refine lv_lload (pc := 49) hx hb dX3_better_49 (lv_at hl 0 rfl) ?_
        refine lv_ldc2 (pc := 51) hx hb hown (hts _ tw_1255) dX3_better_51 ?_
        refine lv_aload_n (pc := 54) hx hb dX3_better_54 rfl (lv_at hl 2 rfl) ?_
        refine va_get (pc := 55) (ci := 3) (v := .ref a6) (C := RX3) (T := TX3) (N := 10) hx hb hts iX3 hown hK hP 0 rfl rfl 5 (by decide) (hts _ tw_354) (fun _ h9 => h9) rfl dX3_better_55 ?_
        refine lv_iload_n (pc := 58) hx hb dX3_better_58 rfl (lv_at hl 3 rfl) ?_
        refine va_lald (pc := 59) hx hb hK hP 1 3 rfl rfl (n_in rfl (by (first | omega | (unfold zBd at *; omega))) (by (first | omega | (unfold zBd at *; omega)))) dX3_better_59 ?_
        refine gL (y := y_1) ey_1.symm ?_
        refine lv_lmul (pc := 60) hx hb dX3_better_60 ?_
        refine lv_topl (fun y_10 _ => ?_)
        have ry_10 := n_rngL y_10
        refine lv_lload (pc := 61) hx hb dX3_better_61 (lv_at hl 0 rfl) ?_
        refine lv_aload_n (pc := 63) hx hb dX3_better_63 rfl (lv_at hl 2 rfl) ?_
        refine va_get (pc := 64) (ci := 3) (v := .ref a1) (C := RX3) (T := TX3) (N := 10) hx hb hts iX3 hown hK hP 0 rfl rfl 0 (by decide) (hts _ tw_348) (fun _ h9 => h9) rfl dX3_better_64 ?_
        refine va_getN (pc := 67) (ci := 10) (v := .ref a7) (C := RX10) (T := TX10) (N := 8) hx hb hts iX10 hown hK hP 3 rfl rfl 0 (by decide) (va_Nw.use rfl (hN _ tn_208)) (fun _ h9 => h9) rfl dX3_better_67 ?_
        refine lv_iload_n (pc := 70) hx hb dX3_better_70 rfl (lv_at hl 3 rfl) ?_
        refine lv_iconst (pc := 71) (v := 5) hx hb dX3_better_71 (by decide) ?_
        refine b_imul (pc := 72) hx hb rfl tI_5 (by (first | omega | (unfold zBd at *; omega))) (by (first | omega | (unfold zBd at *; omega))) dX3_better_72 (fun x_11 ex_11 => ?_)
        refine lv_iload_n (pc := 73) hx hb dX3_better_73 rfl (lv_at hl 3 rfl) ?_
        refine b_iadd (pc := 74) hx hb rfl rfl (by (first | omega | (unfold zBd at *; omega))) (by (first | omega | (unfold zBd at *; omega))) dX3_better_74 (fun x_12 ex_12 => ?_)
        refine va_lald (pc := 75) hx hb hK hP 4 3 rfl rfl (n_in rfl (by (first | omega | (unfold zBd at *; omega))) (by (first | omega | (unfold zBd at *; omega)))) dX3_better_75 ?_
        refine lv_topl (fun y_13 ey_13 => ?_)
        have ry_13 := n_rngL y_13
        refine lv_lmul (pc := 76) hx hb dX3_better_76 ?_
        refine lv_topl (fun y_14 _ => ?_)
        have ry_14 := n_rngL y_14
        refine lv_ladd (pc := 77) hx hb dX3_better_77 ?_
        refine lv_topl (fun y_15 _ => ?_)
        have ry_15 := n_rngL y_15
        refine lv_lmul (pc := 78) hx hb dX3_better_78 ?_
        refine lv_topl (fun y_16 _ => ?_)
        have ry_16 := n_rngL y_16
        refine lv_lconst (pc := 79) (v := 0) hx hb dX3_better_79 (by decide) ?_
        refine b_lcmp_ge (pc := 80) (tgt := 101) hx hb rfl tL_0 dX3_better_80 dX3_better_81 (by decide) (fun c_17 => ?_) (fun c_17 => ?_)
        ·
          exact hret ((fun _ => 0), (fun k => [f0].getD k (fun _ => 0)), (fun k => [g0].getD k (fun _ => 0)), (fun _ => 0), (fun k => [y0].getD k 0)) dX3_better_101 trivial (g_psub (wc := [(a0, .inr (3, [.ref a1, .ref a2, .ref a3, .ref a4, .ref a5, .ref a6, .long y0, .int x2, .long y1, .long y2])), (a6, .inl (cJ, 5, .inr (.inl g0))), (a5, .inl (cI, 5, .inl f0)), (a1, .inr (10, [.ref a7, .ref a8, .ref a9, .ref a10, .ref a11, .ref a12, .ref a13, .int x3])), (a7, .inl (cJ, 25, .inr (.inl g1)))]) hP [0, 1, 2, 3, 4] rfl) (hD.sub (ws' := [(a0, .inr (3, [.ref a1, .ref a2, .ref a3, .ref a4, .ref a5, .ref a6, .long y0, .int x2, .long y1, .long y2])), (a6, .inl (cJ, 5, .inr (.inl g0))), (a5, .inl (cI, 5, .inl f0)), (a1, .inr (10, [.ref a7, .ref a8, .ref a9, .ref a10, .ref a11, .ref a12, .ref a13, .int x3])), (a7, .inl (cJ, 25, .inr (.inl g1)))]) [0, 1, 2, 3, 4] (by decide) rfl) hS
        ·
          refine lv_aload_n (pc := 84) hx hb dX3_better_84 rfl (lv_at hl 2 rfl) ?_
          refine va_get (pc := 85) (ci := 3) (v := .ref a5) (C := RX3) (T := TX3) (N := 10) hx hb hts iX3 hown hK hP 0 rfl rfl 4 (by decide) (hts _ tw_353) (fun _ h9 => h9) rfl dX3_better_85 ?_
          refine lv_iload_n (pc := 88) hx hb dX3_better_88 rfl (lv_at hl 3 rfl) ?_
          refine lv_dup2_11 (pc := 89) hx hb dX3_better_89 rfl rfl ?_
          refine va_iald (pc := 90) hx hb hK hP 2 2 rfl rfl (n_in rfl (by (first | omega | (unfold zBd at *; omega))) (by (first | omega | (unfold zBd at *; omega)))) dX3_better_90 ?_
          refine gI (y := x_3) ex_3.symm ?_
          refine lv_iload_n (pc := 91) hx hb dX3_better_91 rfl (lv_at hl 1 rfl) ?_
          refine lv_iadd (pc := 92) hx hb dX3_better_92 ?_
          refine lv_topi (fun x_18 _ => ?_)
          have rx_18 : zBd x_18.toInt (-2147483648) 2147483647 := n_rng x_18
          refine g_iastore (pc := 93) hx hb hK hP hD hS 2 2 rfl rfl (n_in rfl (by (first | omega | (unfold zBd at *; omega))) (by (first | omega | (unfold zBd at *; omega)))) dX3_better_93 (fun f_19 H locs hP hD hS => ?_)
          replace hP : va_P D gcl [(a0, .inr (3, [.ref a1, .ref a2, .ref a3, .ref a4, .ref a5, .ref a6, .long y0, .int x2, .long y1, .long y2])), (a6, .inl (cJ, 5, .inr (.inl g0))), (a5, .inl (cI, 5, .inl f_19)), (a1, .inr (10, [.ref a7, .ref a8, .ref a9, .ref a10, .ref a11, .ref a12, .ref a13, .int x3])), (a7, .inl (cJ, 25, .inr (.inl g1)))] H := hP
          replace hD : va_D A [(a0, .inr (3, [.ref a1, .ref a2, .ref a3, .ref a4, .ref a5, .ref a6, .long y0, .int x2, .long y1, .long y2])), (a6, .inl (cJ, 5, .inr (.inl g0))), (a5, .inl (cI, 5, .inl f_19)), (a1, .inr (10, [.ref a7, .ref a8, .ref a9, .ref a10, .ref a11, .ref a12, .ref a13, .int x3])), (a7, .inl (cJ, 25, .inr (.inl g1)))] := hD
          refine lv_aload_n (pc := 94) hx hb dX3_better_94 rfl (lv_at hl 2 rfl) ?_
          refine lv_iload_n (pc := 95) hx hb dX3_better_95 rfl (lv_at hl 3 rfl) ?_
          refine lv_lload (pc := 96) hx hb dX3_better_96 (lv_at hl 0 rfl) ?_
          refine gc_v (pc := 98) (wc := [(a0, .inr (3, [.ref a1, .ref a2, .ref a3, .ref a4, .ref a5, .ref a6, .long y0, .int x2, .long y1, .long y2])), (a6, .inl (cJ, 5, .inr (.inl g0))), (a1, .inr (10, [.ref a7, .ref a8, .ref a9, .ref a10, .ref a11, .ref a12, .ref a13, .int x3])), (a7, .inl (cJ, 25, .inr (.inl g1)))]) (wr := [(a5, .inl (cI, 5, .inl f_19))]) hP hD hS hA [0, 1, 3, 4] [2] rfl rfl (by decide) (by decide) (by decide) (fun hPc hDc => va_runV (As := [.int x0, .long y_9]) (rest := []) ⟨hx, hb, hml, hown, hts⟩ (k_X3_move l D cB cC cI cJ _ a0 a1 a2 a3 a4 a5 a6 a7 a8 a9 a10 a11 a12 a13 x0 x2 x3 y_9 y0 y1 y2 g0 g1 hp1 h_x2 h_x3) ⟨gcwB hts tw_1254 tw_12 tw_1251 hd_yX3_move ⟨Nat.le_of_ble_eq_true rfl, Nat.le_of_ble_eq_true rfl⟩, hts _ tw_1253, hts _ tp_49⟩ ⟨gblind, va_recv hK hPc (ci := 3) (q0 := 0) rfl rfl, (gpreS hPc hK hDc hN).2⟩ rfl rfl hl.1 rfl (lv_room (Nat.le_of_ble_eq_true rfl)) dX3_better_98 ⟨Nat.le_of_ble_eq_true rfl, Nat.le_of_ble_eq_true rfl⟩) (fun u_20 H locs hw_22 hP hD hS => ?_)
          replace hP : va_P D gcl [(a5, .inl (cI, 5, .inl f_19)), (a0, .inr (3, [.ref a1, .ref a2, .ref a3, .ref a4, .ref a5, .ref a6, .long (u_20.2.2.2.2 0), .int x2, .long y1, .long y2])), (a6, .inl (cJ, 5, .inr (.inl (u_20.2.2.1 0)))), (a1, .inr (10, [.ref a7, .ref a8, .ref a9, .ref a10, .ref a11, .ref a12, .ref a13, .int x3])), (a7, .inl (cJ, 25, .inr (.inl g1)))] H := hP
          replace hD : va_D A [(a5, .inl (cI, 5, .inl f_19)), (a0, .inr (3, [.ref a1, .ref a2, .ref a3, .ref a4, .ref a5, .ref a6, .long (u_20.2.2.2.2 0), .int x2, .long y1, .long y2])), (a6, .inl (cJ, 5, .inr (.inl (u_20.2.2.1 0)))), (a1, .inr (10, [.ref a7, .ref a8, .ref a9, .ref a10, .ref a11, .ref a12, .ref a13, .int x3])), (a7, .inl (cJ, 25, .inr (.inl g1)))] := hD
          have ru_20_0 := n_rngL (u_20.2.2.2.2 0)
          have hw_23 : (((0 ≤ x3.toInt ∧ x3.toInt ≤ 4))) := hw_22
          exact hret ((fun _ => 0), (fun k => [f_19].getD k (fun _ => 0)), (fun k => [(u_20.2.2.1 0)].getD k (fun _ => 0)), (fun _ => 0), (fun k => [(u_20.2.2.2.2 0)].getD k 0)) dX3_better_101 trivial (g_psub (wc := [(a0, .inr (3, [.ref a1, .ref a2, .ref a3, .ref a4, .ref a5, .ref a6, .long (u_20.2.2.2.2 0), .int x2, .long y1, .long y2])), (a6, .inl (cJ, 5, .inr (.inl (u_20.2.2.1 0)))), (a5, .inl (cI, 5, .inl f_19)), (a1, .inr (10, [.ref a7, .ref a8, .ref a9, .ref a10, .ref a11, .ref a12, .ref a13, .int x3])), (a7, .inl (cJ, 25, .inr (.inl g1)))]) hP [1, 2, 0, 3, 4] rfl) (hD.sub (ws' := [(a0, .inr (3, [.ref a1, .ref a2, .ref a3, .ref a4, .ref a5, .ref a6, .long (u_20.2.2.2.2 0), .int x2, .long y1, .long y2])), (a6, .inl (cJ, 5, .inr (.inl (u_20.2.2.1 0)))), (a5, .inl (cI, 5, .inl f_19)), (a1, .inr (10, [.ref a7, .ref a8, .ref a9, .ref a10, .ref a11, .ref a12, .ref a13, .int x3])), (a7, .inl (cJ, 25, .inr (.inl g1)))]) [1, 2, 0, 3, 4] (by decide) rfl) hS
      ·
        exact hret ((fun _ => 0), (fun k => [f0].getD k (fun _ => 0)), (fun k => [g0].getD k (fun _ => 0)), (fun _ => 0), (fun k => [y0].getD k 0)) dX3_better_41 trivial (g_psub (wc := [(a0, .inr (3, [.ref a1, .ref a2, .ref a3, .ref a4, .ref a5, .ref a6, .long y0, .int x2, .long y1, .long y2])), (a6, .inl (cJ, 5, .inr (.inl g0))), (a5, .inl (cI, 5, .inl f0)), (a1, .inr (10, [.ref a7, .ref a8, .ref a9, .ref a10, .ref a11, .ref a12, .ref a13, .int x3])), (a7, .inl (cJ, 25, .inr (.inl g1)))]) hP [0, 1, 2, 3, 4] rfl) (hD.sub (ws' := [(a0, .inr (3, [.ref a1, .ref a2, .ref a3, .ref a4, .ref a5, .ref a6, .long y0, .int x2, .long y1, .long y2])), (a6, .inl (cJ, 5, .inr (.inl g0))), (a5, .inl (cI, 5, .inl f0)), (a1, .inr (10, [.ref a7, .ref a8, .ref a9, .ref a10, .ref a11, .ref a12, .ref a13, .int x3])), (a7, .inl (cJ, 25, .inr (.inl g1)))]) [0, 1, 2, 3, 4] (by decide) rfl) hS
  ·
    refine lv_iconst (pc := 11) (v := (-1)) hx hb dX3_better_11 (by decide) ?_
    refine lv_goto (pc := 12) (tgt := 16) hx hb dX3_better_12 (by decide) ?_
    refine lv_istore_n (pc := 16) (lv' := [(3, .int (-1)), (0, .ref a0), (1, .int x0), (2, .int x1)]) hx hb dX3_better_16 rfl hl (by decide) rfl (fun ls hl => ?_)
    refine lv_aload_n (pc := 17) hx hb dX3_better_17 rfl (lv_at hl 1 rfl) ?_
    refine va_get (pc := 18) (ci := 3) (v := .ref a5) (C := RX3) (T := TX3) (N := 10) hx hb hts iX3 hown hK hP 0 rfl rfl 4 (by decide) (hts _ tw_353) (fun _ h9 => h9) rfl dX3_better_18 ?_
    refine lv_iload_n (pc := 21) hx hb dX3_better_21 rfl (lv_at hl 2 rfl) ?_
    refine va_iald (pc := 22) hx hb hK hP 2 2 rfl rfl (n_in rfl (by (first | omega | (unfold zBd at *; omega))) (by (first | omega | (unfold zBd at *; omega)))) dX3_better_22 ?_
    refine lv_topi (fun x_24 ex_24 => ?_)
    have rx_24 : zBd x_24.toInt (-2147483648) 2147483647 := n_rng x_24
    refine lv_iload_n (pc := 23) hx hb dX3_better_23 rfl (lv_at hl 0 rfl) ?_
    refine lv_iadd (pc := 24) hx hb dX3_better_24 ?_
    refine lv_topi (fun x_25 _ => ?_)
    have rx_25 : zBd x_25.toInt (-2147483648) 2147483647 := n_rng x_25
    refine lv_iconst (pc := 25) (v := (-1)) hx hb dX3_better_25 (by decide) ?_
    refine b_icmp_lt (pc := 26) (tgt := 41) hx hb rfl tI_m1  dX3_better_26 (by decide) (fun c_26 => ?_) (fun c_26 => ?_)
    ·
      exact hret ((fun _ => 0), (fun k => [f0].getD k (fun _ => 0)), (fun k => [g0].getD k (fun _ => 0)), (fun _ => 0), (fun k => [y0].getD k 0)) dX3_better_41 trivial (g_psub (wc := [(a0, .inr (3, [.ref a1, .ref a2, .ref a3, .ref a4, .ref a5, .ref a6, .long y0, .int x2, .long y1, .long y2])), (a6, .inl (cJ, 5, .inr (.inl g0))), (a5, .inl (cI, 5, .inl f0)), (a1, .inr (10, [.ref a7, .ref a8, .ref a9, .ref a10, .ref a11, .ref a12, .ref a13, .int x3])), (a7, .inl (cJ, 25, .inr (.inl g1)))]) hP [0, 1, 2, 3, 4] rfl) (hD.sub (ws' := [(a0, .inr (3, [.ref a1, .ref a2, .ref a3, .ref a4, .ref a5, .ref a6, .long y0, .int x2, .long y1, .long y2])), (a6, .inl (cJ, 5, .inr (.inl g0))), (a5, .inl (cI, 5, .inl f0)), (a1, .inr (10, [.ref a7, .ref a8, .ref a9, .ref a10, .ref a11, .ref a12, .ref a13, .int x3])), (a7, .inl (cJ, 25, .inr (.inl g1)))]) [0, 1, 2, 3, 4] (by decide) rfl) hS
    ·
      refine lv_aload_n (pc := 29) hx hb dX3_better_29 rfl (lv_at hl 1 rfl) ?_
      refine va_get (pc := 30) (ci := 3) (v := .ref a5) (C := RX3) (T := TX3) (N := 10) hx hb hts iX3 hown hK hP 0 rfl rfl 4 (by decide) (hts _ tw_353) (fun _ h9 => h9) rfl dX3_better_30 ?_
      refine lv_iload_n (pc := 33) hx hb dX3_better_33 rfl (lv_at hl 2 rfl) ?_
      refine va_iald (pc := 34) hx hb hK hP 2 2 rfl rfl (n_in rfl (by (first | omega | (unfold zBd at *; omega))) (by (first | omega | (unfold zBd at *; omega)))) dX3_better_34 ?_
      refine gI (y := x_24) ex_24.symm ?_
      refine lv_iload_n (pc := 35) hx hb dX3_better_35 rfl (lv_at hl 0 rfl) ?_
      refine lv_iadd (pc := 36) hx hb dX3_better_36 ?_
      refine lv_topi (fun x_27 _ => ?_)
      have rx_27 : zBd x_27.toInt (-2147483648) 2147483647 := n_rng x_27
      refine lv_iconst (pc := 37) (v := 1) hx hb dX3_better_37 (by decide) ?_
      refine b_icmp_le (pc := 38) (tgt := 42) hx hb rfl tI_1  dX3_better_38 (by decide) (fun c_28 => ?_) (fun c_28 => ?_)
      ·
        refine lv_iload_n (pc := 42) hx hb dX3_better_42 rfl (lv_at hl 0 rfl) ?_
        refine lv_i2l (pc := 43) (v := (-1)) hx hb dX3_better_43 (by decide +kernel) ?_
        refine lv_iload_n (pc := 44) hx hb dX3_better_44 rfl (lv_at hl 3 rfl) ?_
        refine b_i2l (pc := 45) hx hb rfl dX3_better_45 (fun y_29 ey_29 => ?_)
        have ry_29 : zBd x1.toInt (-2147483648) 2147483647 := n_rng x1
        refine b_lmul (pc := 46) hx hb tL_m1 rfl (by (first | omega | (unfold zBd at *; omega))) (by (first | omega | (unfold zBd at *; omega))) dX3_better_46 (fun y_30 ey_30 => ?_)
        refine lv_lstore (pc := 47) (lv' := [(4, .long y_30), (3, .int (-1)), (0, .ref a0), (1, .int x0), (2, .int x1)]) hx hb dX3_better_47 hl (by decide) rfl (fun ls hl => ?_)
        refine lv_lload (pc := 49) hx hb dX3_better_49 (lv_at hl 0 rfl) ?_
        refine lv_ldc2 (pc := 51) hx hb hown (hts _ tw_1255) dX3_better_51 ?_
        refine lv_aload_n (pc := 54) hx hb dX3_better_54 rfl (lv_at hl 2 rfl) ?_
        refine va_get (pc := 55) (ci := 3) (v := .ref a6) (C := RX3) (T := TX3) (N := 10) hx hb hts iX3 hown hK hP 0 rfl rfl 5 (by decide) (hts _ tw_354) (fun _ h9 => h9) rfl dX3_better_55 ?_
        refine lv_iload_n (pc := 58) hx hb dX3_better_58 rfl (lv_at hl 3 rfl) ?_
        refine va_lald (pc := 59) hx hb hK hP 1 3 rfl rfl (n_in rfl (by (first | omega | (unfold zBd at *; omega))) (by (first | omega | (unfold zBd at *; omega)))) dX3_better_59 ?_
        refine gL (y := y_1) ey_1.symm ?_
        refine lv_lmul (pc := 60) hx hb dX3_better_60 ?_
        refine lv_topl (fun y_31 _ => ?_)
        have ry_31 := n_rngL y_31
        refine lv_lload (pc := 61) hx hb dX3_better_61 (lv_at hl 0 rfl) ?_
        refine lv_aload_n (pc := 63) hx hb dX3_better_63 rfl (lv_at hl 2 rfl) ?_
        refine va_get (pc := 64) (ci := 3) (v := .ref a1) (C := RX3) (T := TX3) (N := 10) hx hb hts iX3 hown hK hP 0 rfl rfl 0 (by decide) (hts _ tw_348) (fun _ h9 => h9) rfl dX3_better_64 ?_
        refine va_getN (pc := 67) (ci := 10) (v := .ref a7) (C := RX10) (T := TX10) (N := 8) hx hb hts iX10 hown hK hP 3 rfl rfl 0 (by decide) (va_Nw.use rfl (hN _ tn_208)) (fun _ h9 => h9) rfl dX3_better_67 ?_
        refine lv_iload_n (pc := 70) hx hb dX3_better_70 rfl (lv_at hl 3 rfl) ?_
        refine lv_iconst (pc := 71) (v := 5) hx hb dX3_better_71 (by decide) ?_
        refine b_imul (pc := 72) hx hb rfl tI_5 (by (first | omega | (unfold zBd at *; omega))) (by (first | omega | (unfold zBd at *; omega))) dX3_better_72 (fun x_32 ex_32 => ?_)
        refine lv_iload_n (pc := 73) hx hb dX3_better_73 rfl (lv_at hl 3 rfl) ?_
        refine b_iadd (pc := 74) hx hb rfl rfl (by (first | omega | (unfold zBd at *; omega))) (by (first | omega | (unfold zBd at *; omega))) dX3_better_74 (fun x_33 ex_33 => ?_)
        refine va_lald (pc := 75) hx hb hK hP 4 3 rfl rfl (n_in rfl (by (first | omega | (unfold zBd at *; omega))) (by (first | omega | (unfold zBd at *; omega)))) dX3_better_75 ?_
        refine lv_topl (fun y_34 ey_34 => ?_)
        have ry_34 := n_rngL y_34
        refine lv_lmul (pc := 76) hx hb dX3_better_76 ?_
        refine lv_topl (fun y_35 _ => ?_)
        have ry_35 := n_rngL y_35
        refine lv_ladd (pc := 77) hx hb dX3_better_77 ?_
        refine lv_topl (fun y_36 _ => ?_)
        have ry_36 := n_rngL y_36
        refine lv_lmul (pc := 78) hx hb dX3_better_78 ?_
        refine lv_topl (fun y_37 _ => ?_)
        have ry_37 := n_rngL y_37
        refine lv_lconst (pc := 79) (v := 0) hx hb dX3_better_79 (by decide) ?_
        refine b_lcmp_ge (pc := 80) (tgt := 101) hx hb rfl tL_0 dX3_better_80 dX3_better_81 (by decide) (fun c_38 => ?_) (fun c_38 => ?_)
        ·
          exact hret ((fun _ => 0), (fun k => [f0].getD k (fun _ => 0)), (fun k => [g0].getD k (fun _ => 0)), (fun _ => 0), (fun k => [y0].getD k 0)) dX3_better_101 trivial (g_psub (wc := [(a0, .inr (3, [.ref a1, .ref a2, .ref a3, .ref a4, .ref a5, .ref a6, .long y0, .int x2, .long y1, .long y2])), (a6, .inl (cJ, 5, .inr (.inl g0))), (a5, .inl (cI, 5, .inl f0)), (a1, .inr (10, [.ref a7, .ref a8, .ref a9, .ref a10, .ref a11, .ref a12, .ref a13, .int x3])), (a7, .inl (cJ, 25, .inr (.inl g1)))]) hP [0, 1, 2, 3, 4] rfl) (hD.sub (ws' := [(a0, .inr (3, [.ref a1, .ref a2, .ref a3, .ref a4, .ref a5, .ref a6, .long y0, .int x2, .long y1, .long y2])), (a6, .inl (cJ, 5, .inr (.inl g0))), (a5, .inl (cI, 5, .inl f0)), (a1, .inr (10, [.ref a7, .ref a8, .ref a9, .ref a10, .ref a11, .ref a12, .ref a13, .int x3])), (a7, .inl (cJ, 25, .inr (.inl g1)))]) [0, 1, 2, 3, 4] (by decide) rfl) hS
        ·
          refine lv_aload_n (pc := 84) hx hb dX3_better_84 rfl (lv_at hl 2 rfl) ?_
          refine va_get (pc := 85) (ci := 3) (v := .ref a5) (C := RX3) (T := TX3) (N := 10) hx hb hts iX3 hown hK hP 0 rfl rfl 4 (by decide) (hts _ tw_353) (fun _ h9 => h9) rfl dX3_better_85 ?_
          refine lv_iload_n (pc := 88) hx hb dX3_better_88 rfl (lv_at hl 3 rfl) ?_
          refine lv_dup2_11 (pc := 89) hx hb dX3_better_89 rfl rfl ?_
          refine va_iald (pc := 90) hx hb hK hP 2 2 rfl rfl (n_in rfl (by (first | omega | (unfold zBd at *; omega))) (by (first | omega | (unfold zBd at *; omega)))) dX3_better_90 ?_
          refine gI (y := x_24) ex_24.symm ?_
          refine lv_iload_n (pc := 91) hx hb dX3_better_91 rfl (lv_at hl 1 rfl) ?_
          refine lv_iadd (pc := 92) hx hb dX3_better_92 ?_
          refine lv_topi (fun x_39 _ => ?_)
          have rx_39 : zBd x_39.toInt (-2147483648) 2147483647 := n_rng x_39
          refine g_iastore (pc := 93) hx hb hK hP hD hS 2 2 rfl rfl (n_in rfl (by (first | omega | (unfold zBd at *; omega))) (by (first | omega | (unfold zBd at *; omega)))) dX3_better_93 (fun f_40 H locs hP hD hS => ?_)
          replace hP : va_P D gcl [(a0, .inr (3, [.ref a1, .ref a2, .ref a3, .ref a4, .ref a5, .ref a6, .long y0, .int x2, .long y1, .long y2])), (a6, .inl (cJ, 5, .inr (.inl g0))), (a5, .inl (cI, 5, .inl f_40)), (a1, .inr (10, [.ref a7, .ref a8, .ref a9, .ref a10, .ref a11, .ref a12, .ref a13, .int x3])), (a7, .inl (cJ, 25, .inr (.inl g1)))] H := hP
          replace hD : va_D A [(a0, .inr (3, [.ref a1, .ref a2, .ref a3, .ref a4, .ref a5, .ref a6, .long y0, .int x2, .long y1, .long y2])), (a6, .inl (cJ, 5, .inr (.inl g0))), (a5, .inl (cI, 5, .inl f_40)), (a1, .inr (10, [.ref a7, .ref a8, .ref a9, .ref a10, .ref a11, .ref a12, .ref a13, .int x3])), (a7, .inl (cJ, 25, .inr (.inl g1)))] := hD
          refine lv_aload_n (pc := 94) hx hb dX3_better_94 rfl (lv_at hl 2 rfl) ?_
          refine lv_iload_n (pc := 95) hx hb dX3_better_95 rfl (lv_at hl 3 rfl) ?_
          refine lv_lload (pc := 96) hx hb dX3_better_96 (lv_at hl 0 rfl) ?_
          refine gc_v (pc := 98) (wc := [(a0, .inr (3, [.ref a1, .ref a2, .ref a3, .ref a4, .ref a5, .ref a6, .long y0, .int x2, .long y1, .long y2])), (a6, .inl (cJ, 5, .inr (.inl g0))), (a1, .inr (10, [.ref a7, .ref a8, .ref a9, .ref a10, .ref a11, .ref a12, .ref a13, .int x3])), (a7, .inl (cJ, 25, .inr (.inl g1)))]) (wr := [(a5, .inl (cI, 5, .inl f_40))]) hP hD hS hA [0, 1, 3, 4] [2] rfl rfl (by decide) (by decide) (by decide) (fun hPc hDc => va_runV (As := [.int x0, .long y_30]) (rest := []) ⟨hx, hb, hml, hown, hts⟩ (k_X3_move l D cB cC cI cJ _ a0 a1 a2 a3 a4 a5 a6 a7 a8 a9 a10 a11 a12 a13 x0 x2 x3 y_30 y0 y1 y2 g0 g1 hp1 h_x2 h_x3) ⟨gcwB hts tw_1254 tw_12 tw_1251 hd_yX3_move ⟨Nat.le_of_ble_eq_true rfl, Nat.le_of_ble_eq_true rfl⟩, hts _ tw_1253, hts _ tp_49⟩ ⟨gblind, va_recv hK hPc (ci := 3) (q0 := 0) rfl rfl, (gpreS hPc hK hDc hN).2⟩ rfl rfl hl.1 rfl (lv_room (Nat.le_of_ble_eq_true rfl)) dX3_better_98 ⟨Nat.le_of_ble_eq_true rfl, Nat.le_of_ble_eq_true rfl⟩) (fun u_41 H locs hw_43 hP hD hS => ?_)
          replace hP : va_P D gcl [(a5, .inl (cI, 5, .inl f_40)), (a0, .inr (3, [.ref a1, .ref a2, .ref a3, .ref a4, .ref a5, .ref a6, .long (u_41.2.2.2.2 0), .int x2, .long y1, .long y2])), (a6, .inl (cJ, 5, .inr (.inl (u_41.2.2.1 0)))), (a1, .inr (10, [.ref a7, .ref a8, .ref a9, .ref a10, .ref a11, .ref a12, .ref a13, .int x3])), (a7, .inl (cJ, 25, .inr (.inl g1)))] H := hP
          replace hD : va_D A [(a5, .inl (cI, 5, .inl f_40)), (a0, .inr (3, [.ref a1, .ref a2, .ref a3, .ref a4, .ref a5, .ref a6, .long (u_41.2.2.2.2 0), .int x2, .long y1, .long y2])), (a6, .inl (cJ, 5, .inr (.inl (u_41.2.2.1 0)))), (a1, .inr (10, [.ref a7, .ref a8, .ref a9, .ref a10, .ref a11, .ref a12, .ref a13, .int x3])), (a7, .inl (cJ, 25, .inr (.inl g1)))] := hD
          have ru_41_0 := n_rngL (u_41.2.2.2.2 0)
          have hw_44 : (((0 ≤ x3.toInt ∧ x3.toInt ≤ 4))) := hw_43
          exact hret ((fun _ => 0), (fun k => [f_40].getD k (fun _ => 0)), (fun k => [(u_41.2.2.1 0)].getD k (fun _ => 0)), (fun _ => 0), (fun k => [(u_41.2.2.2.2 0)].getD k 0)) dX3_better_101 trivial (g_psub (wc := [(a0, .inr (3, [.ref a1, .ref a2, .ref a3, .ref a4, .ref a5, .ref a6, .long (u_41.2.2.2.2 0), .int x2, .long y1, .long y2])), (a6, .inl (cJ, 5, .inr (.inl (u_41.2.2.1 0)))), (a5, .inl (cI, 5, .inl f_40)), (a1, .inr (10, [.ref a7, .ref a8, .ref a9, .ref a10, .ref a11, .ref a12, .ref a13, .int x3])), (a7, .inl (cJ, 25, .inr (.inl g1)))]) hP [1, 2, 0, 3, 4] rfl) (hD.sub (ws' := [(a0, .inr (3, [.ref a1, .ref a2, .ref a3, .ref a4, .ref a5, .ref a6, .long (u_41.2.2.2.2 0), .int x2, .long y1, .long y2])), (a6, .inl (cJ, 5, .inr (.inl (u_41.2.2.1 0)))), (a5, .inl (cI, 5, .inl f_40)), (a1, .inr (10, [.ref a7, .ref a8, .ref a9, .ref a10, .ref a11, .ref a12, .ref a13, .int x3])), (a7, .inl (cJ, 25, .inr (.inl g1)))]) [1, 2, 0, 3, 4] (by decide) rfl) hS
      ·
        exact hret ((fun _ => 0), (fun k => [f0].getD k (fun _ => 0)), (fun k => [g0].getD k (fun _ => 0)), (fun _ => 0), (fun k => [y0].getD k 0)) dX3_better_41 trivial (g_psub (wc := [(a0, .inr (3, [.ref a1, .ref a2, .ref a3, .ref a4, .ref a5, .ref a6, .long y0, .int x2, .long y1, .long y2])), (a6, .inl (cJ, 5, .inr (.inl g0))), (a5, .inl (cI, 5, .inl f0)), (a1, .inr (10, [.ref a7, .ref a8, .ref a9, .ref a10, .ref a11, .ref a12, .ref a13, .int x3])), (a7, .inl (cJ, 25, .inr (.inl g1)))]) hP [0, 1, 2, 3, 4] rfl) (hD.sub (ws' := [(a0, .inr (3, [.ref a1, .ref a2, .ref a3, .ref a4, .ref a5, .ref a6, .long y0, .int x2, .long y1, .long y2])), (a6, .inl (cJ, 5, .inr (.inl g0))), (a5, .inl (cI, 5, .inl f0)), (a1, .inr (10, [.ref a7, .ref a8, .ref a9, .ref a10, .ref a11, .ref a12, .ref a13, .int x3])), (a7, .inl (cJ, 25, .inr (.inl g1)))]) [0, 1, 2, 3, 4] (by decide) rfl) hS
