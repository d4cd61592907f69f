set_option maxHeartbeats 4000000 in
set_option maxRecDepth 100000 in
theorem k_X10_aimAt (l : Launch) (D : va_G) (cB cC cI cJ : ClassId) (sz : Nat) (a0 a1 a2 a3 a4 a5 a6 a7 a8 a9 a10 a11 a12 a13 : Nat) (x0 x1 x2 x3 x4 x5 x6 x7 : Int32) (f0 f1 : Nat → Int32) (g0 g1 : Nat → Int64) (h_x0 : zBd x0.toInt 0 4) (h_x1 : zBd x1.toInt (-1) 8) (h_x2 : zBd x2.toInt (-1) 5) (h_x3 : zBd x3.toInt (-1) 6) (h_x4 : zBd x4.toInt 0 6) (h_x5 : zBd x5.toInt 0 16) : Met l yX10_aimAt (.code yX10_aimAt cX10_aimAt 9 none :: lw_gd) ({ frames := 1, cells := 0, slots := 0, locals := 22 }) (gPre D [(cB, .byte), (cC, .char), (cI, .int), (cJ, .long)] [.ref a0, .ref a1, .ref a2] [(a0, .inr (10, [.ref a3, .ref a4, .ref a5, .ref a6, .ref a7, .ref a8, .ref a9, .int x0])), (a1, .inr (1, [.ref a10, .ref a11, .ref a12, .int x1, .int x2, .int x3, .int x4, .int x5, .int x6, .int x7])), (a4, .inl (cJ, 5, .inr (.inl g0))), (a5, .inl (cJ, 25, .inr (.inl g1))), (a2, .inl (cI, 6, .inl f0)), (a10, .inr (8, [.ref a13])), (a13, .inl (cI, 30, .inl f1))] sz) (va_Qv (fun u => ((((-1) ≤ x3.toInt ∧ x3.toInt ≤ 6) ∧ (0 ≤ x0.toInt ∧ x0.toInt ≤ 4)))) (gB D (va_A [(a0, .inr (10, [.ref a3, .ref a4, .ref a5, .ref a6, .ref a7, .ref a8, .ref a9, .int x0])), (a1, .inr (1, [.ref a10, .ref a11, .ref a12, .int x1, .int x2, .int x3, .int x4, .int x5, .int x6, .int x7])), (a4, .inl (cJ, 5, .inr (.inl g0))), (a5, .inl (cJ, 25, .inr (.inl g1))), (a2, .inl (cI, 6, .inl f0)), (a10, .inr (8, [.ref a13])), (a13, .inl (cI, 30, .inl f1))] sz) (fun u : gEx => [(a0, .inr (10, [.ref a3, .ref a4, .ref a5, .ref a6, .ref a7, .ref a8, .ref a9, .int x0])), (a1, .inr (1, [.ref a10, .ref a11, .ref a12, .int x1, .int x2, .int x3, .int x4, .int x5, .int x6, .int x7])), (a4, .inl (cJ, 5, .inr (.inl (u.2.2.1 0)))), (a5, .inl (cJ, 25, .inr (.inl (u.2.2.1 1)))), (a2, .inl (cI, 6, .inl f0)), (a10, .inr (8, [.ref a13])), (a13, .inl (cI, 30, .inl f1))])) (va_A [(a0, .inr (10, [.ref a3, .ref a4, .ref a5, .ref a6, .ref a7, .ref a8, .ref a9, .int x0])), (a1, .inr (1, [.ref a10, .ref a11, .ref a12, .int x1, .int x2, .int x3, .int x4, .int x5, .int x6, .int x7])), (a4, .inl (cJ, 5, .inr (.inl g0))), (a5, .inl (cJ, 25, .inr (.inl g1))), (a2, .inl (cI, 6, .inl f0)), (a10, .inr (8, [.ref a13])), (a13, .inl (cI, 30, .inl f1))] sz)) 0 0 (va_A [(a0, .inr (10, [.ref a3, .ref a4, .ref a5, .ref a6, .ref a7, .ref a8, .ref a9, .int x0])), (a1, .inr (1, [.ref a10, .ref a11, .ref a12, .int x1, .int x2, .int x3, .int x4, .int x5, .int x6, .int x7])), (a4, .inl (cJ, 5, .inr (.inl g0))), (a5, .inl (cJ, 25, .inr (.inl g1))), (a2, .inl (cI, 6, .inl f0)), (a10, .inr (8, [.ref a13])), (a13, .inl (cI, 30, .inl f1))] sz) := by
  refine gOf_v (by decide +kernel) (Nat.le_of_ble_eq_true rfl) ?_
  intro p e s m args below meth c ls A Q hx hb hts hown hml hN hK hP hD hA hl hret
  replace hown : s.vm.findClass RX10 = some m.cls := hown
  have hS : va_S A s.heap s.heap [] := va_S.rf
  replace hP : va_P D gcl [(a0, .inr (10, [.ref a3, .ref a4, .ref a5, .ref a6, .ref a7, .ref a8, .ref a9, .int x0])), (a1, .inr (1, [.ref a10, .ref a11, .ref a12, .int x1, .int x2, .int x3, .int x4, .int x5, .int x6, .int x7])), (a4, .inl (cJ, 5, .inr (.inl g0))), (a5, .inl (cJ, 25, .inr (.inl g1))), (a2, .inl (cI, 6, .inl f0)), (a10, .inr (8, [.ref a13])), (a13, .inl (cI, 30, .inl f1))] s.heap := hP
  replace hl : lv_has ls 9 [(0, .ref a0), (1, .ref a1), (2, .ref a2)] := hl
  have rx6 : zBd x6.toInt (-2147483648) 2147483647 := n_rng x6
  have rx7 : zBd x7.toInt (-2147483648) 2147483647 := n_rng x7
  refine lv_lconst (pc := 0) (v := 0) hx hb dX10_aimAt_0 (by decide) ?_
  refine lv_lstore_n (pc := 1) (lv' := [(3, .long 0), (0, .ref a0), (1, .ref a1), (2, .ref a2)]) hx hb dX10_aimAt_1 rfl hl (by decide) rfl (fun ls hl => ?_)
  refine lv_iconst (pc := 2) (v := 0) hx hb dX10_aimAt_2 (by decide) ?_
  refine lv_istore (pc := 3) (lv' := [(5, .int 0), (3, .long 0), (0, .ref a0), (1, .ref a1), (2, .ref a2)]) hx hb dX10_aimAt_3 hl (by decide) rfl (fun ls hl => ?_)
  have lp_5 : ∀ (n : Nat) (x_1 : Int32) (y_3 : Int64) (H : Heap) (locs : List Loc) (ls : Array Slot), (0 ≤ x_1.toInt ∧ x_1.toInt ≤ 2147483647) → (2147483647 - x_1.toInt).toNat < n → va_P D gcl [(a0, .inr (10, [.ref a3, .ref a4, .ref a5, .ref a6, .ref a7, .ref a8, .ref a9, .int x0])), (a1, .inr (1, [.ref a10, .ref a11, .ref a12, .int x1, .int x2, .int x3, .int x4, .int x5, .int x6, .int x7])), (a4, .inl (cJ, 5, .inr (.inl g0))), (a5, .inl (cJ, 25, .inr (.inl g1))), (a2, .inl (cI, 6, .inl f0)), (a10, .inr (8, [.ref a13])), (a13, .inl (cI, 30, .inl f1))] H → va_D A [(a0, .inr (10, [.ref a3, .ref a4, .ref a5, .ref a6, .ref a7, .ref a8, .ref a9, .int x0])), (a1, .inr (1, [.ref a10, .ref a11, .ref a12, .int x1, .int x2, .int x3, .int x4, .int x5, .int x6, .int x7])), (a4, .inl (cJ, 5, .inr (.inl g0))), (a5, .inl (cJ, 25, .inr (.inl g1))), (a2, .inl (cI, 6, .inl f0)), (a10, .inr (8, [.ref a13])), (a13, .inl (cI, 30, .inl f1))] → va_S A s.heap H locs → lv_has ls 9 [(5, .int x_1), (3, .long y_3), (0, .ref a0), (1, .ref a1), (2, .ref a2)] → W p l e ({ frames := 1, cells := 0, slots := 0, locals := 22 }) s m args below meth c H locs 0 0 Q (F0 m 5 ls []) := by
    intro n
    induction n with
    | zero => intro x_1 y_3 H locs ls hi_2 hmu; exact absurd hmu (Nat.not_lt_zero _)
    | succ n ih_lp_5 =>
      intro x_1 y_3 H locs ls hi_2 hmu_lp_5 hP hD hS hl
      have hi_4 := n_rngL y_3
      refine lv_iload (pc := 5) hx hb dX10_aimAt_5 (lv_at hl 0 rfl) ?_
      refine lv_aload_n (pc := 7) hx hb dX10_aimAt_7 rfl (lv_at hl 3 rfl) ?_
      refine va_getN (pc := 8) (ci := 1) (v := .int x3) (C := RX1) (T := TX1) (N := 10) hx hb hts iX1 hown hK hP 1 rfl rfl 5 (by decide) (va_Nw.use rfl (hN _ tn_126)) (fun _ h9 => h9) rfl dX10_aimAt_8 ?_
      refine b_icmp_ge (pc := 11) (tgt := 34) hx hb rfl rfl  dX10_aimAt_11 (by decide) (fun c_6 => ?_) (fun c_6 => ?_)
      ·
        refine lv_aload_n (pc := 34) hx hb dX10_aimAt_34 rfl (lv_at hl 2 rfl) ?_
        refine va_get (pc := 35) (ci := 10) (v := .ref a4) (C := RX10) (T := TX10) (N := 8) hx hb hts iX10 hown hK hP 0 rfl rfl 1 (by decide) (hts _ tw_209) (fun _ h9 => h9) rfl dX10_aimAt_35 ?_
        refine lv_iconst (pc := 38) (v := 0) hx hb dX10_aimAt_38 (by decide) ?_
        refine lv_lload_n (pc := 39) hx hb dX10_aimAt_39 rfl (lv_at hl 1 rfl) ?_
        refine g_lastore (pc := 40) hx hb hK hP hD hS 2 3 rfl rfl (gin rfl) dX10_aimAt_40 (fun g_7 H locs hP hD hS => ?_)
        replace hP : va_P D gcl [(a0, .inr (10, [.ref a3, .ref a4, .ref a5, .ref a6, .ref a7, .ref a8, .ref a9, .int x0])), (a1, .inr (1, [.ref a10, .ref a11, .ref a12, .int x1, .int x2, .int x3, .int x4, .int x5, .int x6, .int x7])), (a4, .inl (cJ, 5, .inr (.inl g_7))), (a5, .inl (cJ, 25, .inr (.inl g1))), (a2, .inl (cI, 6, .inl f0)), (a10, .inr (8, [.ref a13])), (a13, .inl (cI, 30, .inl f1))] H := hP
        replace hD : va_D A [(a0, .inr (10, [.ref a3, .ref a4, .ref a5, .ref a6, .ref a7, .ref a8, .ref a9, .int x0])), (a1, .inr (1, [.ref a10, .ref a11, .ref a12, .int x1, .int x2, .int x3, .int x4, .int x5, .int x6, .int x7])), (a4, .inl (cJ, 5, .inr (.inl g_7))), (a5, .inl (cJ, 25, .inr (.inl g1))), (a2, .inl (cI, 6, .inl f0)), (a10, .inr (8, [.ref a13])), (a13, .inl (cI, 30, .inl f1))] := hD
        refine lv_iconst (pc := 41) (v := 0) hx hb dX10_aimAt_41 (by decide) ?_
        refine lv_istore (pc := 42) (lv' := [(5, .int 0), (3, .long y_3), (0, .ref a0), (1, .ref a1), (2, .ref a2)]) hx hb dX10_aimAt_42 hl (by decide) rfl (fun ls hl => ?_)
        have lp_11 : ∀ (n : Nat) (x_8 : Int32) (g_10 : Nat → Int64) (H : Heap) (locs : List Loc) (ls : Array Slot), (0 ≤ x_8.toInt ∧ x_8.toInt ≤ 2147483647) → (2147483647 - x_8.toInt).toNat < n → va_P D gcl [(a0, .inr (10, [.ref a3, .ref a4, .ref a5, .ref a6, .ref a7, .ref a8, .ref a9, .int x0])), (a1, .inr (1, [.ref a10, .ref a11, .ref a12, .int x1, .int x2, .int x3, .int x4, .int x5, .int x6, .int x7])), (a4, .inl (cJ, 5, .inr (.inl g_7))), (a5, .inl (cJ, 25, .inr (.inl g_10))), (a2, .inl (cI, 6, .inl f0)), (a10, .inr (8, [.ref a13])), (a13, .inl (cI, 30, .inl f1))] H → va_D A [(a0, .inr (10, [.ref a3, .ref a4, .ref a5, .ref a6, .ref a7, .ref a8, .ref a9, .int x0])), (a1, .inr (1, [.ref a10, .ref a11, .ref a12, .int x1, .int x2, .int x3, .int x4, .int x5, .int x6, .int x7])), (a4, .inl (cJ, 5, .inr (.inl g_7))), (a5, .inl (cJ, 25, .inr (.inl g_10))), (a2, .inl (cI, 6, .inl f0)), (a10, .inr (8, [.ref a13])), (a13, .inl (cI, 30, .inl f1))] → va_S A s.heap H locs → lv_has ls 9 [(5, .int x_8), (3, .long y_3), (0, .ref a0), (1, .ref a1), (2, .ref a2)] → W p l e ({ frames := 1, cells := 0, slots := 0, locals := 22 }) s m args below meth c H locs 0 0 Q (F0 m 44 ls []) := by
          intro n
          induction n with
          | zero => intro x_8 g_10 H locs ls hi_9 hmu; exact absurd hmu (Nat.not_lt_zero _)
          | succ n ih_lp_11 =>
            intro x_8 g_10 H locs ls hi_9 hmu_lp_11 hP hD hS hl
            refine lv_iload (pc := 44) hx hb dX10_aimAt_44 (lv_at hl 0 rfl) ?_
            refine lv_aload_n (pc := 46) hx hb dX10_aimAt_46 rfl (lv_at hl 2 rfl) ?_
            refine va_get (pc := 47) (ci := 10) (v := .int x0) (C := RX10) (T := TX10) (N := 8) hx hb hts iX10 hown hK hP 0 rfl rfl 7 (by decide) (hts _ tw_220) (fun _ h9 => h9) rfl dX10_aimAt_47 ?_
            have bd_h_x0 : 0 ≤ x0.toInt ∧ x0.toInt ≤ 4 := h_x0
            refine b_icmp_gt (pc := 50) (tgt := 112) hx hb rfl rfl  dX10_aimAt_50 (by decide) (fun c_12 => ?_) (fun c_12 => ?_)
            ·
              exact hret ((fun _ => 0), (fun _ => (fun _ => 0)), (fun k => [g_7, g_10].getD k (fun _ => 0)), (fun _ => 0), (fun _ => 0)) dX10_aimAt_112 (show ((((-1) ≤ x3.toInt ∧ x3.toInt ≤ 6) ∧ (0 ≤ x0.toInt ∧ x0.toInt ≤ 4))) by (first | omega | (unfold zBd at *; omega))) (g_psub (wc := [(a0, .inr (10, [.ref a3, .ref a4, .ref a5, .ref a6, .ref a7, .ref a8, .ref a9, .int x0])), (a1, .inr (1, [.ref a10, .ref a11, .ref a12, .int x1, .int x2, .int x3, .int x4, .int x5, .int x6, .int x7])), (a4, .inl (cJ, 5, .inr (.inl g_7))), (a5, .inl (cJ, 25, .inr (.inl g_10))), (a2, .inl (cI, 6, .inl f0)), (a10, .inr (8, [.ref a13])), (a13, .inl (cI, 30, .inl f1))]) hP [0, 1, 2, 3, 4, 5, 6] rfl) (hD.sub (ws' := [(a0, .inr (10, [.ref a3, .ref a4, .ref a5, .ref a6, .ref a7, .ref a8, .ref a9, .int x0])), (a1, .inr (1, [.ref a10, .ref a11, .ref a12, .int x1, .int x2, .int x3, .int x4, .int x5, .int x6, .int x7])), (a4, .inl (cJ, 5, .inr (.inl g_7))), (a5, .inl (cJ, 25, .inr (.inl g_10))), (a2, .inl (cI, 6, .inl f0)), (a10, .inr (8, [.ref a13])), (a13, .inl (cI, 30, .inl f1))]) [0, 1, 2, 3, 4, 5, 6] (by decide) rfl) hS
            ·
              refine lv_lconst (pc := 53) (v := 0) hx hb dX10_aimAt_53 (by decide) ?_
              refine lv_lstore (pc := 54) (lv' := [(6, .long 0), (5, .int x_8), (3, .long y_3), (0, .ref a0), (1, .ref a1), (2, .ref a2)]) hx hb dX10_aimAt_54 hl (by decide) rfl (fun ls hl => ?_)
              refine lv_iconst (pc := 56) (v := 0) hx hb dX10_aimAt_56 (by decide) ?_
              refine lv_istore (pc := 57) (lv' := [(8, .int 0), (6, .long 0), (5, .int x_8), (3, .long y_3), (0, .ref a0), (1, .ref a1), (2, .ref a2)]) hx hb dX10_aimAt_57 hl (by decide) rfl (fun ls hl => ?_)
              have lp_17 : ∀ (n : Nat) (x_13 : Int32) (y_15 : Int64) (H : Heap) (locs : List Loc) (ls : Array Slot), (0 ≤ x_13.toInt ∧ x_13.toInt ≤ 2147483647) → (2147483647 - x_13.toInt).toNat < n → va_P D gcl [(a0, .inr (10, [.ref a3, .ref a4, .ref a5, .ref a6, .ref a7, .ref a8, .ref a9, .int x0])), (a1, .inr (1, [.ref a10, .ref a11, .ref a12, .int x1, .int x2, .int x3, .int x4, .int x5, .int x6, .int x7])), (a4, .inl (cJ, 5, .inr (.inl g_7))), (a5, .inl (cJ, 25, .inr (.inl g_10))), (a2, .inl (cI, 6, .inl f0)), (a10, .inr (8, [.ref a13])), (a13, .inl (cI, 30, .inl f1))] H → va_D A [(a0, .inr (10, [.ref a3, .ref a4, .ref a5, .ref a6, .ref a7, .ref a8, .ref a9, .int x0])), (a1, .inr (1, [.ref a10, .ref a11, .ref a12, .int x1, .int x2, .int x3, .int x4, .int x5, .int x6, .int x7])), (a4, .inl (cJ, 5, .inr (.inl g_7))), (a5, .inl (cJ, 25, .inr (.inl g_10))), (a2, .inl (cI, 6, .inl f0)), (a10, .inr (8, [.ref a13])), (a13, .inl (cI, 30, .inl f1))] → va_S A s.heap H locs → lv_has ls 9 [(8, .int x_13), (6, .long y_15), (5, .int x_8), (3, .long y_3), (0, .ref a0), (1, .ref a1), (2, .ref a2)] → W p l e ({ frames := 1, cells := 0, slots := 0, locals := 22 }) s m args below meth c H locs 0 0 Q (F0 m 59 ls []) := by
                intro n
                induction n with
                | zero => intro x_13 y_15 H locs ls hi_14 hmu; exact absurd hmu (Nat.not_lt_zero _)
                | succ n ih_lp_17 =>
                  intro x_13 y_15 H locs ls hi_14 hmu_lp_17 hP hD hS hl
                  have hi_16 := n_rngL y_15
                  refine lv_iload (pc := 59) hx hb dX10_aimAt_59 (lv_at hl 0 rfl) ?_
                  refine lv_aload_n (pc := 61) hx hb dX10_aimAt_61 rfl (lv_at hl 5 rfl) ?_
                  refine va_getN (pc := 62) (ci := 1) (v := .int x3) (C := RX1) (T := TX1) (N := 10) hx hb hts iX1 hown hK hP 1 rfl rfl 5 (by decide) (va_Nw.use rfl (hN _ tn_126)) (fun _ h9 => h9) rfl dX10_aimAt_62 ?_
                  refine b_icmp_ge (pc := 65) (tgt := 97) hx hb rfl rfl  dX10_aimAt_65 (by decide) (fun c_18 => ?_) (fun c_18 => ?_)
                  ·
                    refine lv_aload_n (pc := 97) hx hb dX10_aimAt_97 rfl (lv_at hl 4 rfl) ?_
                    refine va_get (pc := 98) (ci := 10) (v := .ref a5) (C := RX10) (T := TX10) (N := 8) hx hb hts iX10 hown hK hP 0 rfl rfl 2 (by decide) (hts _ tw_210) (fun _ h9 => h9) rfl dX10_aimAt_98 ?_
                    refine lv_iload (pc := 101) hx hb dX10_aimAt_101 (lv_at hl 2 rfl) ?_
                    refine lv_lload (pc := 103) hx hb dX10_aimAt_103 (lv_at hl 1 rfl) ?_
                    refine g_lastore (pc := 105) hx hb hK hP hD hS 3 3 rfl rfl (n_in rfl (by (first | omega | (unfold zBd at *; omega))) (by (first | omega | (unfold zBd at *; omega)))) dX10_aimAt_105 (fun g_19 H locs hP hD hS => ?_)
                    replace hP : va_P D gcl [(a0, .inr (10, [.ref a3, .ref a4, .ref a5, .ref a6, .ref a7, .ref a8, .ref a9, .int x0])), (a1, .inr (1, [.ref a10, .ref a11, .ref a12, .int x1, .int x2, .int x3, .int x4, .int x5, .int x6, .int x7])), (a4, .inl (cJ, 5, .inr (.inl g_7))), (a5, .inl (cJ, 25, .inr (.inl g_19))), (a2, .inl (cI, 6, .inl f0)), (a10, .inr (8, [.ref a13])), (a13, .inl (cI, 30, .inl f1))] H := hP
                    replace hD : va_D A [(a0, .inr (10, [.ref a3, .ref a4, .ref a5, .ref a6, .ref a7, .ref a8, .ref a9, .int x0])), (a1, .inr (1, [.ref a10, .ref a11, .ref a12, .int x1, .int x2, .int x3, .int x4, .int x5, .int x6, .int x7])), (a4, .inl (cJ, 5, .inr (.inl g_7))), (a5, .inl (cJ, 25, .inr (.inl g_19))), (a2, .inl (cI, 6, .inl f0)), (a10, .inr (8, [.ref a13])), (a13, .inl (cI, 30, .inl f1))] := hD
                    refine b_iinc (pc := 106) hx hb dX10_aimAt_106 hl (k := 2) rfl rfl tI_1 (by (first | omega | (unfold zBd at *; omega))) (by (first | omega | (unfold zBd at *; omega))) (by decide) (fun x_20 ex_20 ls hl => ?_)
                    replace hl : lv_has ls 9 [(5, .int x_20), (8, .int x_13), (6, .long y_15), (3, .long y_3), (0, .ref a0), (1, .ref a1), (2, .ref a2)] := hl
                    refine lv_goto (pc := 109) (tgt := 44) hx hb dX10_aimAt_109 (by decide) ?_
                    exact ih_lp_11 x_20 g_19 _ _ ls (by (first | omega | (unfold zBd at *; omega))) (by (first | omega | (unfold zBd at *; omega))) hP hD hS (lv_sub hl [0, 3, 4, 5, 6] rfl)
                  ·
                    refine lv_lload (pc := 68) hx hb dX10_aimAt_68 (lv_at hl 1 rfl) ?_
                    refine lv_aload_n (pc := 70) hx hb dX10_aimAt_70 rfl (lv_at hl 6 rfl) ?_
                    refine lv_iload (pc := 71) hx hb dX10_aimAt_71 (lv_at hl 0 rfl) ?_
                    refine va_iald (pc := 73) hx hb hK hP 4 2 rfl rfl (n_in rfl (by (first | omega | (unfold zBd at *; omega))) (by (first | omega | (unfold zBd at *; omega)))) dX10_aimAt_73 ?_
                    refine lv_topi (fun x_21 ex_21 => ?_)
                    have rx_21 : zBd x_21.toInt (-2147483648) 2147483647 := n_rng x_21
                    refine b_i2l (pc := 74) hx hb rfl dX10_aimAt_74 (fun y_22 ey_22 => ?_)
                    have ry_22 : zBd x_21.toInt (-2147483648) 2147483647 := n_rng x_21
                    refine lv_aload_n (pc := 75) hx hb dX10_aimAt_75 rfl (lv_at hl 5 rfl) ?_
                    refine va_getN (pc := 76) (ci := 1) (v := .ref a10) (C := RX1) (T := TX1) (N := 10) hx hb hts iX1 hown hK hP 1 rfl rfl 0 (by decide) (va_Nw.use rfl (hN _ tn_99)) (fun _ h9 => h9) rfl dX10_aimAt_76 ?_
                    refine lv_iload (pc := 79) hx hb dX10_aimAt_79 (lv_at hl 0 rfl) ?_
                    refine lv_iload (pc := 81) hx hb dX10_aimAt_81 (lv_at hl 2 rfl) ?_
                    refine gc_i (pc := 83) (wc := [(a10, .inr (8, [.ref a13])), (a13, .inl (cI, 30, .inl f1))]) (wr := [(a0, .inr (10, [.ref a3, .ref a4, .ref a5, .ref a6, .ref a7, .ref a8, .ref a9, .int x0])), (a1, .inr (1, [.ref a10, .ref a11, .ref a12, .int x1, .int x2, .int x3, .int x4, .int x5, .int x6, .int x7])), (a4, .inl (cJ, 5, .inr (.inl g_7))), (a5, .inl (cJ, 25, .inr (.inl g_10))), (a2, .inl (cI, 6, .inl f0))]) hP hD hS hA [5, 6] [0, 1, 2, 3, 4] rfl rfl (by decide) (by decide) (by decide) (fun hPc hDc => va_runV (As := [.int x_13, .int x_8]) (rest := [.long y_22, .long y_15]) ⟨hx, hb, hml, hown, hts⟩ (k_X8_at l D cB cC cI cJ _ a10 a13 x_13 x_8 f1 (by  (first | omega | (unfold zBd at *; omega))) (by  (first | omega | (unfold zBd at *; omega)))) ⟨gcwB hts tw_791 tw_5 tw_892 hd_yX8_at ⟨Nat.le_of_ble_eq_true rfl, Nat.le_of_ble_eq_true rfl⟩, hts _ tw_789, hts _ tw_790⟩ ⟨gblind, va_recv hK hPc (ci := 8) (q0 := 0) rfl rfl, (gpreS hPc hK hDc hN).2⟩ rfl rfl hl.1 rfl (lv_room (Nat.le_of_ble_eq_true rfl)) dX10_aimAt_83 ⟨Nat.le_of_ble_eq_true rfl, Nat.le_of_ble_eq_true rfl⟩) (fun r_24 u_23 H locs hw_25 hP hD hS => ?_)
                    replace hP : va_P D gcl [(a0, .inr (10, [.ref a3, .ref a4, .ref a5, .ref a6, .ref a7, .ref a8, .ref a9, .int x0])), (a1, .inr (1, [.ref a10, .ref a11, .ref a12, .int x1, .int x2, .int x3, .int x4, .int x5, .int x6, .int x7])), (a4, .inl (cJ, 5, .inr (.inl g_7))), (a5, .inl (cJ, 25, .inr (.inl g_10))), (a2, .inl (cI, 6, .inl f0)), (a10, .inr (8, [.ref a13])), (a13, .inl (cI, 30, .inl f1))] H := hP
                    replace hD : va_D A [(a0, .inr (10, [.ref a3, .ref a4, .ref a5, .ref a6, .ref a7, .ref a8, .ref a9, .int x0])), (a1, .inr (1, [.ref a10, .ref a11, .ref a12, .int x1, .int x2, .int x3, .int x4, .int x5, .int x6, .int x7])), (a4, .inl (cJ, 5, .inr (.inl g_7))), (a5, .inl (cJ, 25, .inr (.inl g_10))), (a2, .inl (cI, 6, .inl f0)), (a10, .inr (8, [.ref a13])), (a13, .inl (cI, 30, .inl f1))] := hD
                    have hw_26 : ((((-2147483648) ≤ r_24.toInt ∧ r_24.toInt ≤ 2147483647))) := hw_25
                    have rr_24 : zBd r_24.toInt (-2147483648) 2147483647 := n_rng r_24
                    refine b_i2l (pc := 86) hx hb rfl dX10_aimAt_86 (fun y_27 ey_27 => ?_)
                    have ry_27 : zBd r_24.toInt (-2147483648) 2147483647 := n_rng r_24
                    refine lv_lmul (pc := 87) hx hb dX10_aimAt_87 ?_
                    refine lv_topl (fun y_28 _ => ?_)
                    have ry_28 := n_rngL y_28
                    refine lv_ladd (pc := 88) hx hb dX10_aimAt_88 ?_
                    refine lv_topl (fun y_29 _ => ?_)
                    have ry_29 := n_rngL y_29
                    refine lv_lstore (pc := 89) (lv' := [(6, .long y_29), (8, .int x_13), (5, .int x_8), (3, .long y_3), (0, .ref a0), (1, .ref a1), (2, .ref a2)]) hx hb dX10_aimAt_89 hl (by decide) rfl (fun ls hl => ?_)
                    refine b_iinc (pc := 91) hx hb dX10_aimAt_91 hl (k := 1) rfl rfl tI_1 (by (first | omega | (unfold zBd at *; omega))) (by (first | omega | (unfold zBd at *; omega))) (by decide) (fun x_30 ex_30 ls hl => ?_)
                    replace hl : lv_has ls 9 [(8, .int x_30), (6, .long y_29), (5, .int x_8), (3, .long y_3), (0, .ref a0), (1, .ref a1), (2, .ref a2)] := hl
                    refine lv_goto (pc := 94) (tgt := 59) hx hb dX10_aimAt_94 (by decide) ?_
                    exact ih_lp_17 x_30 y_29 _ _ ls (by (first | omega | (unfold zBd at *; omega))) (by (first | omega | (unfold zBd at *; omega))) hP hD hS (lv_sub hl [0, 1, 2, 3, 4, 5, 6] rfl)
              exact lp_17 _ 0 0 _ _ ls (n_c tI_0 (by decide)) (Nat.lt_succ_self _) hP hD hS (lv_sub hl [0, 1, 2, 3, 4, 5, 6] rfl)
        exact lp_11 _ 0 g1 _ _ ls (n_c tI_0 (by decide)) (Nat.lt_succ_self _) hP hD hS (lv_sub hl [0, 1, 2, 3, 4] rfl)
      ·
        refine lv_lload_n (pc := 14) hx hb dX10_aimAt_14 rfl (lv_at hl 1 rfl) ?_
        refine lv_aload_n (pc := 15) hx hb dX10_aimAt_15 rfl (lv_at hl 4 rfl) ?_
        refine lv_iload (pc := 16) hx hb dX10_aimAt_16 (lv_at hl 0 rfl) ?_
        refine va_iald (pc := 18) hx hb hK hP 4 2 rfl rfl (n_in rfl (by (first | omega | (unfold zBd at *; omega))) (by (first | omega | (unfold zBd at *; omega)))) dX10_aimAt_18 ?_
        refine lv_topi (fun x_31 ex_31 => ?_)
        have rx_31 : zBd x_31.toInt (-2147483648) 2147483647 := n_rng x_31
        refine b_i2l (pc := 19) hx hb rfl dX10_aimAt_19 (fun y_32 ey_32 => ?_)
        have ry_32 : zBd x_31.toInt (-2147483648) 2147483647 := n_rng x_31
        refine lv_aload_n (pc := 20) hx hb dX10_aimAt_20 rfl (lv_at hl 4 rfl) ?_
        refine lv_iload (pc := 21) hx hb dX10_aimAt_21 (lv_at hl 0 rfl) ?_
        refine va_iald (pc := 23) hx hb hK hP 4 2 rfl rfl (n_in rfl (by (first | omega | (unfold zBd at *; omega))) (by (first | omega | (unfold zBd at *; omega)))) dX10_aimAt_23 ?_
        refine gI (y := x_31) ex_31.symm ?_
        refine b_i2l (pc := 24) hx hb rfl dX10_aimAt_24 (fun y_33 ey_33 => ?_)
        have ry_33 : zBd x_31.toInt (-2147483648) 2147483647 := n_rng x_31
        refine lv_lmul (pc := 25) hx hb dX10_aimAt_25 ?_
        refine lv_topl (fun y_34 _ => ?_)
        have ry_34 := n_rngL y_34
        refine lv_ladd (pc := 26) hx hb dX10_aimAt_26 ?_
        refine lv_topl (fun y_35 _ => ?_)
        have ry_35 := n_rngL y_35
        refine lv_lstore_n (pc := 27) (lv' := [(3, .long y_35), (5, .int x_1), (0, .ref a0), (1, .ref a1), (2, .ref a2)]) hx hb dX10_aimAt_27 rfl hl (by decide) rfl (fun ls hl => ?_)
        refine b_iinc (pc := 28) hx hb dX10_aimAt_28 hl (k := 1) rfl rfl tI_1 (by (first | omega | (unfold zBd at *; omega))) (by (first | omega | (unfold zBd at *; omega))) (by decide) (fun x_36 ex_36 ls hl => ?_)
        replace hl : lv_has ls 9 [(5, .int x_36), (3, .long y_35), (0, .ref a0), (1, .ref a1), (2, .ref a2)] := hl
        refine lv_goto (pc := 31) (tgt := 5) hx hb dX10_aimAt_31 (by decide) ?_
        exact ih_lp_5 x_36 y_35 _ _ ls (by (first | omega | (unfold zBd at *; omega))) (by (first | omega | (unfold zBd at *; omega))) hP hD hS (lv_sub hl [0, 1, 2, 3, 4] rfl)
  exact lp_5 _ 0 0 _ _ ls (n_c tI_0 (by decide)) (Nat.lt_succ_self _) hP hD hS (lv_sub hl [0, 1, 2, 3, 4] rfl)
set_option maxHeartbeats 4000000 in
set_option maxRecDepth 100000 in
theorem k_X10_setNumbers (l : Launch) (D : va_G) (cB cC cI cJ : ClassId) (sz : Nat) (a0 a1 a2 a3 a4 a5 a6 a7 : Nat) (x0 x1 x2 x3 x4 : Int32) (f0 f1 f2 : Nat → Int32) (hp1 : (0 ≤ x0.toInt ∧ x0.toInt ≤ 4)) (hp4 : ((-3) ≤ x3.toInt ∧ x3.toInt ≤ 24)) (h_x4 : zBd x4.toInt 0 4) (hf_f2 : (∀ j, (-3) ≤ (f2 j).toInt ∧ (f2 j).toInt ≤ 24)) : Met l yX10_setNumbers (.code yX10_setNumbers cX10_setNumbers 5 none :: lw_gd) ({ frames := 0, cells := 0, slots := 0, locals := 0 }) (gPre D [(cB, .byte), (cC, .char), (cI, .int), (cJ, .long)] [.ref a0, .int x0, .int x1, .int x2, .int x3] [(a0, .inr (10, [.ref a1, .ref a2, .ref a3, .ref a4, .ref a5, .ref a6, .ref a7, .int x4])), (a4, .inl (cI, 5, .inl f0)), (a5, .inl (cI, 5, .inl f1)), (a6, .inl (cI, 5, .inl f2))] sz) (va_Qv (fun u => (∀ j, (-3) ≤ ((u.2.1 2) j).toInt ∧ ((u.2.1 2) j).toInt ≤ 24)) (gB D (va_A [(a0, .inr (10, [.ref a1, .ref a2, .ref a3, .ref a4, .ref a5, .ref a6, .ref a7, .int x4])), (a4, .inl (cI, 5, .inl f0)), (a5, .inl (cI, 5, .inl f1)), (a6, .inl (cI, 5, .inl f2))] sz) (fun u : gEx => [(a0, .inr (10, [.ref a1, .ref a2, .ref a3, .ref a4, .ref a5, .ref a6, .ref a7, .int x4])), (a4, .inl (cI, 5, .inl (u.2.1 0))), (a5, .inl (cI, 5, .inl (u.2.1 1))), (a6, .inl (cI, 5, .inl (u.2.1 2)))])) (va_A [(a0, .inr (10, [.ref a1, .ref a2, .ref a3, .ref a4, .ref a5, .ref a6, .ref a7, .int x4])), (a4, .inl (cI, 5, .inl f0)), (a5, .inl (cI, 5, .inl f1)), (a6, .inl (cI, 5, .inl f2))] sz)) 0 0 (va_A [(a0, .inr (10, [.ref a1, .ref a2, .ref a3, .ref a4, .ref a5, .ref a6, .ref a7, .int x4])), (a4, .inl (cI, 5, .inl f0)), (a5, .inl (cI, 5, .inl f1)), (a6, .inl (cI, 5, .inl f2))] sz) := by
  refine gOf_v (by decide +kernel) (Nat.le_of_ble_eq_true rfl) ?_
  intro p e s m args below meth c ls A Q hx hb hts hown hml hN hK hP hD hA hl hret
  replace hown : s.vm.findClass RX10 = some m.cls := hown
  have hS : va_S A s.heap s.heap [] := va_S.rf
  replace hP : va_P D gcl [(a0, .inr (10, [.ref a1, .ref a2, .ref a3, .ref a4, .ref a5, .ref a6, .ref a7, .int x4])), (a4, .inl (cI, 5, .inl f0)), (a5, .inl (cI, 5, .inl f1)), (a6, .inl (cI, 5, .inl f2))] s.heap := hP
  replace hl : lv_has ls 5 [(0, .ref a0), (1, .int x0), (2, .int x1), (3, .int x2), (4, .int x3)] := hl
  have rx1 : zBd x1.toInt (-2147483648) 2147483647 := n_rng x1
  have rx2 : zBd x2.toInt (-2147483648) 2147483647 := n_rng x2
  refine lv_aload_n (pc := 0) hx hb dX10_setNumbers_0 rfl (lv_at hl 0 rfl) ?_
  refine va_get (pc := 1) (ci := 10) (v := .ref a4) (C := RX10) (T := TX10) (N := 8) hx hb hts iX10 hown hK hP 0 rfl rfl 3 (by decide) (hts _ tw_211) (fun _ h9 => h9) rfl dX10_setNumbers_1 ?_
  refine lv_iload_n (pc := 4) hx hb dX10_setNumbers_4 rfl (lv_at hl 1 rfl) ?_
  refine lv_iload_n (pc := 5) hx hb dX10_setNumbers_5 rfl (lv_at hl 2 rfl) ?_
  refine g_iastore (pc := 6) hx hb hK hP hD hS 1 2 rfl rfl (n_in rfl (by (first | omega | (unfold zBd at *; omega))) (by (first | omega | (unfold zBd at *; omega)))) dX10_setNumbers_6 (fun f_1 H locs hP hD hS => ?_)
  replace hP : va_P D gcl [(a0, .inr (10, [.ref a1, .ref a2, .ref a3, .ref a4, .ref a5, .ref a6, .ref a7, .int x4])), (a4, .inl (cI, 5, .inl f_1)), (a5, .inl (cI, 5, .inl f1)), (a6, .inl (cI, 5, .inl f2))] H := hP
  replace hD : va_D A [(a0, .inr (10, [.ref a1, .ref a2, .ref a3, .ref a4, .ref a5, .ref a6, .ref a7, .int x4])), (a4, .inl (cI, 5, .inl f_1)), (a5, .inl (cI, 5, .inl f1)), (a6, .inl (cI, 5, .inl f2))] := hD
  refine lv_aload_n (pc := 7) hx hb dX10_setNumbers_7 rfl (lv_at hl 0 rfl) ?_
  refine va_get (pc := 8) (ci := 10) (v := .ref a5) (C := RX10) (T := TX10) (N := 8) hx hb hts iX10 hown hK hP 0 rfl rfl 4 (by decide) (hts _ tw_213) (fun _ h9 => h9) rfl dX10_setNumbers_8 ?_
  refine lv_iload_n (pc := 11) hx hb dX10_setNumbers_11 rfl (lv_at hl 1 rfl) ?_
  refine lv_iload_n (pc := 12) hx hb dX10_setNumbers_12 rfl (lv_at hl 3 rfl) ?_
  refine g_iastore (pc := 13) hx hb hK hP hD hS 2 2 rfl rfl (n_in rfl (by (first | omega | (unfold zBd at *; omega))) (by (first | omega | (unfold zBd at *; omega)))) dX10_setNumbers_13 (fun f_2 H locs hP hD hS => ?_)
  replace hP : va_P D gcl [(a0, .inr (10, [.ref a1, .ref a2, .ref a3, .ref a4, .ref a5, .ref a6, .ref a7, .int x4])), (a4, .inl (cI, 5, .inl f_1)), (a5, .inl (cI, 5, .inl f_2)), (a6, .inl (cI, 5, .inl f2))] H := hP
  replace hD : va_D A [(a0, .inr (10, [.ref a1, .ref a2, .ref a3, .ref a4, .ref a5, .ref a6, .ref a7, .int x4])), (a4, .inl (cI, 5, .inl f_1)), (a5, .inl (cI, 5, .inl f_2)), (a6, .inl (cI, 5, .inl f2))] := hD
  refine lv_aload_n (pc := 14) hx hb dX10_setNumbers_14 rfl (lv_at hl 0 rfl) ?_
  refine va_get (pc := 15) (ci := 10) (v := .ref a6) (C := RX10) (T := TX10) (N := 8) hx hb hts iX10 hown hK hP 0 rfl rfl 5 (by decide) (hts _ tw_214) (fun _ h9 => h9) rfl dX10_setNumbers_15 ?_
  refine lv_iload_n (pc := 18) hx hb dX10_setNumbers_18 rfl (lv_at hl 1 rfl) ?_
  refine lv_iload (pc := 19) hx hb dX10_setNumbers_19 (lv_at hl 4 rfl) ?_
  refine h_iastore (pc := 21) hx hb hK hP hD hS 3 2 rfl rfl (n_in rfl (by (first | omega | (unfold zBd at *; omega))) (by (first | omega | (unfold zBd at *; omega)))) dX10_setNumbers_21 hf_f2 (by (first | omega | (unfold zBd at *; omega))) (by (first | omega | (unfold zBd at *; omega))) (fun f_3 hf_3 H locs hP hD hS => ?_)
  replace hP : va_P D gcl [(a0, .inr (10, [.ref a1, .ref a2, .ref a3, .ref a4, .ref a5, .ref a6, .ref a7, .int x4])), (a4, .inl (cI, 5, .inl f_1)), (a5, .inl (cI, 5, .inl f_2)), (a6, .inl (cI, 5, .inl f_3))] H := hP
  replace hD : va_D A [(a0, .inr (10, [.ref a1, .ref a2, .ref a3, .ref a4, .ref a5, .ref a6, .ref a7, .int x4])), (a4, .inl (cI, 5, .inl f_1)), (a5, .inl (cI, 5, .inl f_2)), (a6, .inl (cI, 5, .inl f_3))] := hD
  exact hret ((fun _ => 0), (fun k => [f_1, f_2, f_3].getD k (fun _ => 0)), (fun _ => (fun _ => 0)), (fun _ => 0), (fun _ => 0)) dX10_setNumbers_22 hf_3 (g_psub (wc := [(a0, .inr (10, [.ref a1, .ref a2, .ref a3, .ref a4, .ref a5, .ref a6, .ref a7, .int x4])), (a4, .inl (cI, 5, .inl f_1)), (a5, .inl (cI, 5, .inl f_2)), (a6, .inl (cI, 5, .inl f_3))]) hP [0, 1, 2, 3] rfl) (hD.sub (ws' := [(a0, .inr (10, [.ref a1, .ref a2, .ref a3, .ref a4, .ref a5, .ref a6, .ref a7, .int x4])), (a4, .inl (cI, 5, .inl f_1)), (a5, .inl (cI, 5, .inl f_2)), (a6, .inl (cI, 5, .inl f_3))]) [0, 1, 2, 3] (by decide) rfl) hS
set_option maxHeartbeats 4000000 in
set_option maxRecDepth 100000 in
theorem k_X10_setAllNumbers (l : Launch) (D : va_G) (cB cC cI cJ : ClassId) (sz : Nat) (a0 a1 a2 a3 a4 a5 a6 a7 : Nat) (x0 x1 x2 x3 : Int32) (f0 f1 f2 : Nat → Int32) (hp3 : ((-3) ≤ x2.toInt ∧ x2.toInt ≤ 24)) (h_x3 : zBd x3.toInt 0 4) (hf_f2 : (∀ j, (-3) ≤ (f2 j).toInt ∧ (f2 j).toInt ≤ 24)) : Met l yX10_setAllNumbers (.code yX10_setAllNumbers cX10_setAllNumbers 5 none :: lw_gd) ({ frames := 1, cells := 0, slots := 0, locals := 24 }) (gPre D [(cB, .byte), (cC, .char), (cI, .int), (cJ, .long)] [.ref a0, .int x0, .int x1, .int x2] [(a0, .inr (10, [.ref a1, .ref a2, .ref a3, .ref a4, .ref a5, .ref a6, .ref a7, .int x3])), (a4, .inl (cI, 5, .inl f0)), (a5, .inl (cI, 5, .inl f1)), (a6, .inl (cI, 5, .inl f2))] sz) (va_Qv (fun u => (((0 ≤ x3.toInt ∧ x3.toInt ≤ 4))) ∧ (∀ j, (-3) ≤ ((u.2.1 2) j).toInt ∧ ((u.2.1 2) j).toInt ≤ 24)) (gB D (va_A [(a0, .inr (10, [.ref a1, .ref a2, .ref a3, .ref a4, .ref a5, .ref a6, .ref a7, .int x3])), (a4, .inl (cI, 5, .inl f0)), (a5, .inl (cI, 5, .inl f1)), (a6, .inl (cI, 5, .inl f2))] sz) (fun u : gEx => [(a0, .inr (10, [.ref a1, .ref a2, .ref a3, .ref a4, .ref a5, .ref a6, .ref a7, .int x3])), (a4, .inl (cI, 5, .inl (u.2.1 0))), (a5, .inl (cI, 5, .inl (u.2.1 1))), (a6, .inl (cI, 5, .inl (u.2.1 2)))])) (va_A [(a0, .inr (10, [.ref a1, .ref a2, .ref a3, .ref a4, .ref a5, .ref a6, .ref a7, .int x3])), (a4, .inl (cI, 5, .inl f0)), (a5, .inl (cI, 5, .inl f1)), (a6, .inl (cI, 5, .inl f2))] sz)) 0 0 (va_A [(a0, .inr (10, [.ref a1, .ref a2, .ref a3, .ref a4, .ref a5, .ref a6, .ref a7, .int x3])), (a4, .inl (cI, 5, .inl f0)), (a5, .inl (cI, 5, .inl f1)), (a6, .inl (cI, 5, .inl f2))] sz) := by
  refine gOf_v (by decide +kernel) (Nat.le_of_ble_eq_true rfl) ?_
  intro p e s m args below meth c ls A Q hx hb hts hown hml hN hK hP hD hA hl hret
  replace hown : s.vm.findClass RX10 = some m.cls := hown
  have hS : va_S A s.heap s.heap [] := va_S.rf
  replace hP : va_P D gcl [(a0, .inr (10, [.ref a1, .ref a2, .ref a3, .ref a4, .ref a5, .ref a6, .ref a7, .int x3])), (a4, .inl (cI, 5, .inl f0)), (a5, .inl (cI, 5, .inl f1)), (a6, .inl (cI, 5, .inl f2))] s.heap := hP
  replace hl : lv_has ls 5 [(0, .ref a0), (1, .int x0), (2, .int x1), (3, .int x2)] := hl
  have rx0 : zBd x0.toInt (-2147483648) 2147483647 := n_rng x0
  have rx1 : zBd x1.toInt (-2147483648) 2147483647 := n_rng x1
  refine lv_iconst (pc := 0) (v := 0) hx hb dX10_setAllNumbers_0 (by decide) ?_
  refine lv_istore (pc := 1) (lv' := [(4, .int 0), (0, .ref a0), (1, .int x0), (2, .int x1), (3, .int x2)]) hx hb dX10_setAllNumbers_1 hl (by decide) rfl (fun ls hl => ?_)
  have lp_7 : ∀ (n : Nat) (x_1 : Int32) (f_3 f_4 f_5 : Nat → Int32) (H : Heap) (locs : List Loc) (ls : Array Slot), (0 ≤ x_1.toInt ∧ x_1.toInt ≤ 2147483647) → (∀ j, (-3) ≤ (f_5 j).toInt ∧ (f_5 j).toInt ≤ 24) → (2147483647 - x_1.toInt).toNat < n → va_P D gcl [(a0, .inr (10, [.ref a1, .ref a2, .ref a3, .ref a4, .ref a5, .ref a6, .ref a7, .int x3])), (a4, .inl (cI, 5, .inl f_3)), (a5, .inl (cI, 5, .inl f_4)), (a6, .inl (cI, 5, .inl f_5))] H → va_D A [(a0, .inr (10, [.ref a1, .ref a2, .ref a3, .ref a4, .ref a5, .ref a6, .ref a7, .int x3])), (a4, .inl (cI, 5, .inl f_3)), (a5, .inl (cI, 5, .inl f_4)), (a6, .inl (cI, 5, .inl f_5))] → va_S A s.heap H locs → lv_has ls 5 [(4, .int x_1), (0, .ref a0), (1, .int x0), (2, .int x1), (3, .int x2)] → W p l e ({ frames := 1, cells := 0, slots := 0, locals := 24 }) s m args below meth c H locs 0 0 Q (F0 m 3 ls []) := by
    intro n
    induction n with
    | zero => intro x_1 f_3 f_4 f_5 H locs ls hi_2 hi_6 hmu; exact absurd hmu (Nat.not_lt_zero _)
    | succ n ih_lp_7 =>
      intro x_1 f_3 f_4 f_5 H locs ls hi_2 hi_6 hmu_lp_7 hP hD hS hl
      refine lv_iload (pc := 3) hx hb dX10_setAllNumbers_3 (lv_at hl 0 rfl) ?_
      refine lv_aload_n (pc := 5) hx hb dX10_setAllNumbers_5 rfl (lv_at hl 1 rfl) ?_
      refine va_get (pc := 6) (ci := 10) (v := .int x3) (C := RX10) (T := TX10) (N := 8) hx hb hts iX10 hown hK hP 0 rfl rfl 7 (by decide) (hts _ tw_220) (fun _ h9 => h9) rfl dX10_setAllNumbers_6 ?_
      have bd_h_x3 : 0 ≤ x3.toInt ∧ x3.toInt ≤ 4 := h_x3
      refine b_icmp_gt (pc := 9) (tgt := 27) hx hb rfl rfl  dX10_setAllNumbers_9 (by decide) (fun c_8 => ?_) (fun c_8 => ?_)
      ·
        exact hret ((fun _ => 0), (fun k => [f_3, f_4, f_5].getD k (fun _ => 0)), (fun _ => (fun _ => 0)), (fun _ => 0), (fun _ => 0)) dX10_setAllNumbers_27 ⟨(show (((0 ≤ x3.toInt ∧ x3.toInt ≤ 4))) from h_x3), hi_6⟩ (g_psub (wc := [(a0, .inr (10, [.ref a1, .ref a2, .ref a3, .ref a4, .ref a5, .ref a6, .ref a7, .int x3])), (a4, .inl (cI, 5, .inl f_3)), (a5, .inl (cI, 5, .inl f_4)), (a6, .inl (cI, 5, .inl f_5))]) hP [0, 1, 2, 3] rfl) (hD.sub (ws' := [(a0, .inr (10, [.ref a1, .ref a2, .ref a3, .ref a4, .ref a5, .ref a6, .ref a7, .int x3])), (a4, .inl (cI, 5, .inl f_3)), (a5, .inl (cI, 5, .inl f_4)), (a6, .inl (cI, 5, .inl f_5))]) [0, 1, 2, 3] (by decide) rfl) hS
      ·
        refine lv_aload_n (pc := 12) hx hb dX10_setAllNumbers_12 rfl (lv_at hl 1 rfl) ?_
        refine lv_iload (pc := 13) hx hb dX10_setAllNumbers_13 (lv_at hl 0 rfl) ?_
        refine lv_iload_n (pc := 15) hx hb dX10_setAllNumbers_15 rfl (lv_at hl 2 rfl) ?_
        refine lv_iload_n (pc := 16) hx hb dX10_setAllNumbers_16 rfl (lv_at hl 3 rfl) ?_
        refine lv_iload_n (pc := 17) hx hb dX10_setAllNumbers_17 rfl (lv_at hl 4 rfl) ?_
        refine gc_v (pc := 18) (wc := [(a0, .inr (10, [.ref a1, .ref a2, .ref a3, .ref a4, .ref a5, .ref a6, .ref a7, .int x3])), (a4, .inl (cI, 5, .inl f_3)), (a5, .inl (cI, 5, .inl f_4)), (a6, .inl (cI, 5, .inl f_5))]) (wr := []) hP hD hS hA [0, 1, 2, 3] [] rfl rfl (by decide) (by decide) (by decide) (fun hPc hDc => va_runV (As := [.int x_1, .int x0, .int x1, .int x2]) (rest := []) ⟨hx, hb, hml, hown, hts⟩ (k_X10_setNumbers l D cB cC cI cJ _ a0 a1 a2 a3 a4 a5 a6 a7 x_1 x0 x1 x2 x3 f_3 f_4 f_5 (by  (first | omega | (unfold zBd at *; omega))) hp3 h_x3 hi_6) ⟨gcwB hts tw_900 tw_8 tw_897 hd_yX10_setNumbers ⟨Nat.le_of_ble_eq_true rfl, Nat.le_of_ble_eq_true rfl⟩, hts _ tw_898, hts _ tw_899⟩ ⟨gblind, va_recv hK hPc (ci := 10) (q0 := 0) rfl rfl, (gpreS hPc hK hDc hN).2⟩ rfl rfl hl.1 rfl (lv_room (Nat.le_of_ble_eq_true rfl)) dX10_setAllNumbers_18 ⟨Nat.le_of_ble_eq_true rfl, Nat.le_of_ble_eq_true rfl⟩) (fun u_9 H locs hw_11 hP hD hS => ?_)
        replace hP : va_P D gcl [(a0, .inr (10, [.ref a1, .ref a2, .ref a3, .ref a4, .ref a5, .ref a6, .ref a7, .int x3])), (a4, .inl (cI, 5, .inl (u_9.2.1 0))), (a5, .inl (cI, 5, .inl (u_9.2.1 1))), (a6, .inl (cI, 5, .inl (u_9.2.1 2)))] H := hP
        replace hD : va_D A [(a0, .inr (10, [.ref a1, .ref a2, .ref a3, .ref a4, .ref a5, .ref a6, .ref a7, .int x3])), (a4, .inl (cI, 5, .inl (u_9.2.1 0))), (a5, .inl (cI, 5, .inl (u_9.2.1 1))), (a6, .inl (cI, 5, .inl (u_9.2.1 2)))] := hD
        have hw_12 : (∀ j, (-3) ≤ ((u_9.2.1 2) j).toInt ∧ ((u_9.2.1 2) j).toInt ≤ 24) := hw_11
        refine b_iinc (pc := 21) hx hb dX10_setAllNumbers_21 hl (k := 0) rfl rfl tI_1 (by (first | omega | (unfold zBd at *; omega))) (by (first | omega | (unfold zBd at *; omega))) (by decide) (fun x_13 ex_13 ls hl => ?_)
        replace hl : lv_has ls 5 [(4, .int x_13), (0, .ref a0), (1, .int x0), (2, .int x1), (3, .int x2)] := hl
        refine lv_goto (pc := 24) (tgt := 3) hx hb dX10_setAllNumbers_24 (by decide) ?_
        exact ih_lp_7 x_13 (u_9.2.1 0) (u_9.2.1 1) (u_9.2.1 2) _ _ ls (by (first | omega | (unfold zBd at *; omega))) hw_12 (by (first | omega | (unfold zBd at *; omega))) hP hD hS (lv_sub hl [0, 1, 2, 3, 4] rfl)
  exact lp_7 _ 0 f0 f1 f2 _ _ ls (n_c tI_0 (by decide)) hf_f2 (Nat.lt_succ_self _) hP hD hS (lv_sub hl [0, 1, 2, 3, 4] rfl)
set_option maxHeartbeats 4000000 in
set_option maxRecDepth 100000 in
theorem k_J7_fill_53178_5r0_23 (l : Launch) (D : va_G) (cB cC cI cJ : ClassId) (sz : Nat) (a0 : Nat) (x0 : Int32) (f0 : Nat → Int32) (hp1 : (0 ≤ x0.toInt ∧ x0.toInt ≤ 23)) (hf_f0 : (∀ j, 0 ≤ (f0 j).toInt ∧ (f0 j).toInt ≤ 23)) : Met l yJ7_fill_53178 (.code yJ7_fill_53178 cJ7_fill_53178 4 none :: lw_gd) ({ frames := 0, cells := 0, slots := 0, locals := 0 }) (gPre D [(cB, .byte), (cC, .char), (cI, .int), (cJ, .long)] [.ref a0, .int x0] [(a0, .inl (cI, 5, .inl f0))] sz) (va_Qv (fun u => (∀ j, 0 ≤ ((u.2.1 0) j).toInt ∧ ((u.2.1 0) j).toInt ≤ 23)) (gB D (va_A [(a0, .inl (cI, 5, .inl f0))] sz) (fun u : gEx => [(a0, .inl (cI, 5, .inl (u.2.1 0)))])) (va_A [(a0, .inl (cI, 5, .inl f0))] sz)) 0 0 (va_A [(a0, .inl (cI, 5, .inl f0))] sz) := by
  refine gOf_v (by decide +kernel) (Nat.le_of_ble_eq_true rfl) ?_
  intro p e s m args below meth c ls A Q hx hb hts hown hml hN hK hP hD hA hl hret
  replace hown : s.vm.findClass RJ7 = some m.cls := hown
  have hS : va_S A s.heap s.heap [] := va_S.rf
  replace hP : va_P D gcl [(a0, .inl (cI, 5, .inl f0))] s.heap := hP
  replace hl : lv_has ls 4 [(0, .ref a0), (1, .int x0)] := hl
  refine lv_iconst (pc := 0) (v := 0) hx hb dJ7_fill_53178_0 (by decide) ?_
  refine lv_istore_n (pc := 1) (lv' := [(2, .int 0), (0, .ref a0), (1, .int x0)]) hx hb dJ7_fill_53178_1 rfl hl (by decide) rfl (fun ls hl => ?_)
  refine lv_aload_n (pc := 2) hx hb dJ7_fill_53178_2 rfl (lv_at hl 1 rfl) ?_
  refine va_alen (pc := 3) (v := 5) hx hb hK hP 0 2 rfl rfl rfl dJ7_fill_53178_3 ?_
  refine lv_istore_n (pc := 4) (lv' := [(3, .int 5), (2, .int 0), (0, .ref a0), (1, .int x0)]) hx hb dJ7_fill_53178_4 rfl hl (by decide) rfl (fun ls hl => ?_)
  have lp_5 : ∀ (n : Nat) (x_1 : Int32) (f_3 : Nat → Int32) (H : Heap) (locs : List Loc) (ls : Array Slot), (0 ≤ x_1.toInt ∧ x_1.toInt ≤ 2147483647) → (∀ j, 0 ≤ (f_3 j).toInt ∧ (f_3 j).toInt ≤ 23) → (2147483647 - x_1.toInt).toNat < n → va_P D gcl [(a0, .inl (cI, 5, .inl f_3))] H → va_D A [(a0, .inl (cI, 5, .inl f_3))] → va_S A s.heap H locs → lv_has ls 4 [(3, .int 5), (2, .int x_1), (0, .ref a0), (1, .int x0)] → W p l e ({ frames := 0, cells := 0, slots := 0, locals := 0 }) s m args below meth c H locs 0 0 Q (F0 m 5 ls []) := by
    intro n
    induction n with
    | zero => intro x_1 f_3 H locs ls hi_2 hi_4 hmu; exact absurd hmu (Nat.not_lt_zero _)
    | succ n ih_lp_5 =>
      intro x_1 f_3 H locs ls hi_2 hi_4 hmu_lp_5 hP hD hS hl
      refine lv_iload_n (pc := 5) hx hb dJ7_fill_53178_5 rfl (lv_at hl 1 rfl) ?_
      refine lv_iload_n (pc := 6) hx hb dJ7_fill_53178_6 rfl (lv_at hl 0 rfl) ?_
      refine b_icmp_ge (pc := 7) (tgt := 20) hx hb rfl tI_5  dJ7_fill_53178_7 (by decide) (fun c_6 => ?_) (fun c_6 => ?_)
      ·
        exact hret ((fun _ => 0), (fun k => [f_3].getD k (fun _ => 0)), (fun _ => (fun _ => 0)), (fun _ => 0), (fun _ => 0)) dJ7_fill_53178_20 hi_4 (g_psub (wc := [(a0, .inl (cI, 5, .inl f_3))]) hP [0] rfl) (hD.sub (ws' := [(a0, .inl (cI, 5, .inl f_3))]) [0] (by decide) rfl) hS
      ·
        refine lv_aload_n (pc := 10) hx hb dJ7_fill_53178_10 rfl (lv_at hl 2 rfl) ?_
        refine lv_iload_n (pc := 11) hx hb dJ7_fill_53178_11 rfl (lv_at hl 1 rfl) ?_
        refine lv_iload_n (pc := 12) hx hb dJ7_fill_53178_12 rfl (lv_at hl 3 rfl) ?_
        refine h_iastore (pc := 13) hx hb hK hP hD hS 0 2 rfl rfl (n_in rfl (by (first | omega | (unfold zBd at *; omega))) (by (first | omega | (unfold zBd at *; omega)))) dJ7_fill_53178_13 hi_4 (by (first | omega | (unfold zBd at *; omega))) (by (first | omega | (unfold zBd at *; omega))) (fun f_7 hf_7 H locs hP hD hS => ?_)
        replace hP : va_P D gcl [(a0, .inl (cI, 5, .inl f_7))] H := hP
        replace hD : va_D A [(a0, .inl (cI, 5, .inl f_7))] := hD
        refine b_iinc (pc := 14) hx hb dJ7_fill_53178_14 hl (k := 1) rfl rfl tI_1 (by (first | omega | (unfold zBd at *; omega))) (by (first | omega | (unfold zBd at *; omega))) (by decide) (fun x_8 ex_8 ls hl => ?_)
        replace hl : lv_has ls 4 [(2, .int x_8), (3, .int 5), (0, .ref a0), (1, .int x0)] := hl
        refine lv_goto (pc := 17) (tgt := 5) hx hb dJ7_fill_53178_17 (by decide) ?_
        exact ih_lp_5 x_8 f_7 _ _ ls (by (first | omega | (unfold zBd at *; omega))) hf_7 (by (first | omega | (unfold zBd at *; omega))) hP hD hS (lv_sub hl [1, 0, 2, 3] rfl)
  exact lp_5 _ 0 f0 _ _ ls (n_c tI_0 (by decide)) hf_f0 (Nat.lt_succ_self _) hP hD hS (lv_sub hl [0, 1, 2, 3] rfl)
set_option maxHeartbeats 4000000 in
set_option maxRecDepth 100000 in
theorem k_X10_settle (l : Launch) (D : va_G) (cB cC cI cJ : ClassId) (sz : Nat) (a0 a1 a2 a3 a4 a5 a6 a7 : Nat) (x0 x1 : Int32) (f0 f1 f2 : Nat → Int32) (g0 g1 g2 : Nat → Int64) (hp1 : (0 ≤ x0.toInt ∧ x0.toInt ≤ 4)) (h_x1 : zBd x1.toInt 0 4) (hf_f2 : (∀ j, 0 ≤ (f2 j).toInt ∧ (f2 j).toInt ≤ 23)) : Met l yX10_settle (.code yX10_settle cX10_settle 7 none :: lw_gd) ({ frames := 0, cells := 0, slots := 0, locals := 0 }) (gPre D [(cB, .byte), (cC, .char), (cI, .int), (cJ, .long)] [.ref a0, .int x0] [(a0, .inr (10, [.ref a1, .ref a2, .ref a3, .ref a4, .ref a5, .ref a6, .ref a7, .int x1])), (a4, .inl (cI, 5, .inl f0)), (a5, .inl (cI, 5, .inl f1)), (a7, .inl (cI, 5, .inl f2)), (a2, .inl (cJ, 5, .inr (.inl g0))), (a1, .inl (cJ, 25, .inr (.inl g1))), (a3, .inl (cJ, 25, .inr (.inl g2)))] sz) (va_Qv (fun u => (((0 ≤ x1.toInt ∧ x1.toInt ≤ 4)))) (gB D (va_A [(a0, .inr (10, [.ref a1, .ref a2, .ref a3, .ref a4, .ref a5, .ref a6, .ref a7, .int x1])), (a4, .inl (cI, 5, .inl f0)), (a5, .inl (cI, 5, .inl f1)), (a7, .inl (cI, 5, .inl f2)), (a2, .inl (cJ, 5, .inr (.inl g0))), (a1, .inl (cJ, 25, .inr (.inl g1))), (a3, .inl (cJ, 25, .inr (.inl g2)))] sz) (fun u : gEx => [(a0, .inr (10, [.ref a1, .ref a2, .ref a3, .ref a4, .ref a5, .ref a6, .ref a7, .int x1])), (a4, .inl (cI, 5, .inl f0)), (a5, .inl (cI, 5, .inl f1)), (a7, .inl (cI, 5, .inl f2)), (a2, .inl (cJ, 5, .inr (.inl (u.2.2.1 0)))), (a1, .inl (cJ, 25, .inr (.inl g1))), (a3, .inl (cJ, 25, .inr (.inl (u.2.2.1 1))))])) (va_A [(a0, .inr (10, [.ref a1, .ref a2, .ref a3, .ref a4, .ref a5, .ref a6, .ref a7, .int x1])), (a4, .inl (cI, 5, .inl f0)), (a5, .inl (cI, 5, .inl f1)), (a7, .inl (cI, 5, .inl f2)), (a2, .inl (cJ, 5, .inr (.inl g0))), (a1, .inl (cJ, 25, .inr (.inl g1))), (a3, .inl (cJ, 25, .inr (.inl g2)))] sz)) 0 0 (va_A [(a0, .inr (10, [.ref a1, .ref a2, .ref a3, .ref a4, .ref a5, .ref a6, .ref a7, .int x1])), (a4, .inl (cI, 5, .inl f0)), (a5, .inl (cI, 5, .inl f1)), (a7, .inl (cI, 5, .inl f2)), (a2, .inl (cJ, 5, .inr (.inl g0))), (a1, .inl (cJ, 25, .inr (.inl g1))), (a3, .inl (cJ, 25, .inr (.inl g2)))] sz) := by
  refine gOf_v (by decide +kernel) (Nat.le_of_ble_eq_true rfl) ?_
  intro p e s m args below meth c ls A Q hx hb hts hown hml hN hK hP hD hA hl hret
  replace hown : s.vm.findClass RX10 = some m.cls := hown
  have hS : va_S A s.heap s.heap [] := va_S.rf
  replace hP : va_P D gcl [(a0, .inr (10, [.ref a1, .ref a2, .ref a3, .ref a4, .ref a5, .ref a6, .ref a7, .int x1])), (a4, .inl (cI, 5, .inl f0)), (a5, .inl (cI, 5, .inl f1)), (a7, .inl (cI, 5, .inl f2)), (a2, .inl (cJ, 5, .inr (.inl g0))), (a1, .inl (cJ, 25, .inr (.inl g1))), (a3, .inl (cJ, 25, .inr (.inl g2)))] s.heap := hP
  replace hl : lv_has ls 7 [(0, .ref a0), (1, .int x0)] := hl
  refine lv_iload_n (pc := 0) hx hb dX10_settle_0 rfl (lv_at hl 1 rfl) ?_
  refine lv_istore_n (pc := 1) (lv' := [(2, .int x0), (0, .ref a0), (1, .int x0)]) hx hb dX10_settle_1 rfl hl (by decide) rfl (fun ls hl => ?_)
  have lp_5 : ∀ (n : Nat) (x_1 : Int32) (g_3 g_4 : Nat → Int64) (H : Heap) (locs : List Loc) (ls : Array Slot), (0 ≤ x_1.toInt ∧ x_1.toInt ≤ 2147483647) → (2147483647 - x_1.toInt).toNat < n → va_P D gcl [(a0, .inr (10, [.ref a1, .ref a2, .ref a3, .ref a4, .ref a5, .ref a6, .ref a7, .int x1])), (a4, .inl (cI, 5, .inl f0)), (a5, .inl (cI, 5, .inl f1)), (a7, .inl (cI, 5, .inl f2)), (a2, .inl (cJ, 5, .inr (.inl g_3))), (a1, .inl (cJ, 25, .inr (.inl g1))), (a3, .inl (cJ, 25, .inr (.inl g_4)))] H → va_D A [(a0, .inr (10, [.ref a1, .ref a2, .ref a3, .ref a4, .ref a5, .ref a6, .ref a7, .int x1])), (a4, .inl (cI, 5, .inl f0)), (a5, .inl (cI, 5, .inl f1)), (a7, .inl (cI, 5, .inl f2)), (a2, .inl (cJ, 5, .inr (.inl g_3))), (a1, .inl (cJ, 25, .inr (.inl g1))), (a3, .inl (cJ, 25, .inr (.inl g_4)))] → va_S A s.heap H locs → lv_has ls 7 [(2, .int x_1), (0, .ref a0), (1, .int x0)] → W p l e ({ frames := 0, cells := 0, slots := 0, locals := 0 }) s m args below meth c H locs 0 0 Q (F0 m 2 ls []) := by
    intro n
    induction n with
    | zero => intro x_1 g_3 g_4 H locs ls hi_2 hmu; exact absurd hmu (Nat.not_lt_zero _)
    | succ n ih_lp_5 =>
      intro x_1 g_3 g_4 H locs ls hi_2 hmu_lp_5 hP hD hS hl
      refine lv_iload_n (pc := 2) hx hb dX10_settle_2 rfl (lv_at hl 0 rfl) ?_
      refine lv_aload_n (pc := 3) hx hb dX10_settle_3 rfl (lv_at hl 1 rfl) ?_
      refine va_get (pc := 4) (ci := 10) (v := .int x1) (C := RX10) (T := TX10) (N := 8) hx hb hts iX10 hown hK hP 0 rfl rfl 7 (by decide) (hts _ tw_220) (fun _ h9 => h9) rfl dX10_settle_4 ?_
      have bd_h_x1 : 0 ≤ x1.toInt ∧ x1.toInt ≤ 4 := h_x1
      refine b_icmp_ge (pc := 7) (tgt := 138) hx hb rfl rfl  dX10_settle_7 (by decide) (fun c_6 => ?_) (fun c_6 => ?_)
      ·
        exact hret ((fun _ => 0), (fun _ => (fun _ => 0)), (fun k => [g_3, g_4].getD k (fun _ => 0)), (fun _ => 0), (fun _ => 0)) dX10_settle_138 (show (((0 ≤ x1.toInt ∧ x1.toInt ≤ 4))) from h_x1) (g_psub (wc := [(a0, .inr (10, [.ref a1, .ref a2, .ref a3, .ref a4, .ref a5, .ref a6, .ref a7, .int x1])), (a4, .inl (cI, 5, .inl f0)), (a5, .inl (cI, 5, .inl f1)), (a7, .inl (cI, 5, .inl f2)), (a2, .inl (cJ, 5, .inr (.inl g_3))), (a1, .inl (cJ, 25, .inr (.inl g1))), (a3, .inl (cJ, 25, .inr (.inl g_4)))]) hP [0, 1, 2, 3, 4, 5, 6] rfl) (hD.sub (ws' := [(a0, .inr (10, [.ref a1, .ref a2, .ref a3, .ref a4, .ref a5, .ref a6, .ref a7, .int x1])), (a4, .inl (cI, 5, .inl f0)), (a5, .inl (cI, 5, .inl f1)), (a7, .inl (cI, 5, .inl f2)), (a2, .inl (cJ, 5, .inr (.inl g_3))), (a1, .inl (cJ, 25, .inr (.inl g1))), (a3, .inl (cJ, 25, .inr (.inl g_4)))]) [0, 1, 2, 3, 4, 5, 6] (by decide) rfl) hS
      ·
        refine lv_iload_n (pc := 10) hx hb dX10_settle_10 rfl (lv_at hl 0 rfl) ?_
        refine lv_iconst (pc := 11) (v := 5) hx hb dX10_settle_11 (by decide) ?_
        refine b_imul (pc := 12) hx hb rfl tI_5 (by (first | omega | (unfold zBd at *; omega))) (by (first | omega | (unfold zBd at *; omega))) dX10_settle_12 (fun x_7 ex_7 => ?_)
        refine lv_istore_n (pc := 13) (lv' := [(3, .int x_7), (2, .int x_1), (0, .ref a0), (1, .int x0)]) hx hb dX10_settle_13 rfl hl (by decide) rfl (fun ls hl => ?_)
        refine lv_aload_n (pc := 14) hx hb dX10_settle_14 rfl (lv_at hl 2 rfl) ?_
        refine va_get (pc := 15) (ci := 10) (v := .ref a4) (C := RX10) (T := TX10) (N := 8) hx hb hts iX10 hown hK hP 0 rfl rfl 3 (by decide) (hts _ tw_211) (fun _ h9 => h9) rfl dX10_settle_15 ?_
        refine lv_iload_n (pc := 18) hx hb dX10_settle_18 rfl (lv_at hl 1 rfl) ?_
        refine va_iald (pc := 19) hx hb hK hP 1 2 rfl rfl (n_in rfl (by (first | omega | (unfold zBd at *; omega))) (by (first | omega | (unfold zBd at *; omega)))) dX10_settle_19 ?_
        refine lv_topi (fun x_8 ex_8 => ?_)
        have rx_8 : zBd x_8.toInt (-2147483648) 2147483647 := n_rng x_8
        refine lv_aload_n (pc := 20) hx hb dX10_settle_20 rfl (lv_at hl 2 rfl) ?_
        refine va_get (pc := 21) (ci := 10) (v := .ref a5) (C := RX10) (T := TX10) (N := 8) hx hb hts iX10 hown hK hP 0 rfl rfl 4 (by decide) (hts _ tw_213) (fun _ h9 => h9) rfl dX10_settle_21 ?_
        refine lv_iload_n (pc := 24) hx hb dX10_settle_24 rfl (lv_at hl 1 rfl) ?_
        refine va_iald (pc := 25) hx hb hK hP 2 2 rfl rfl (n_in rfl (by (first | omega | (unfold zBd at *; omega))) (by (first | omega | (unfold zBd at *; omega)))) dX10_settle_25 ?_
        refine lv_topi (fun x_9 ex_9 => ?_)
        have rx_9 : zBd x_9.toInt (-2147483648) 2147483647 := n_rng x_9
        refine lv_aload_n (pc := 26) hx hb dX10_settle_26 rfl (lv_at hl 2 rfl) ?_
        refine va_get (pc := 27) (ci := 10) (v := .ref a7) (C := RX10) (T := TX10) (N := 8) hx hb hts iX10 hown hK hP 0 rfl rfl 6 (by decide) (hts _ tw_216) (fun _ h9 => h9) rfl dX10_settle_27 ?_
        refine lv_iload_n (pc := 30) hx hb dX10_settle_30 rfl (lv_at hl 1 rfl) ?_
        refine va_iald (pc := 31) hx hb hK hP 3 2 rfl rfl (n_in rfl (by (first | omega | (unfold zBd at *; omega))) (by (first | omega | (unfold zBd at *; omega)))) dX10_settle_31 ?_
        refine lv_topi (fun x_10 ex_10 => ?_)
        have rx_10 : (0 ≤ x_10.toInt ∧ x_10.toInt ≤ 23) := by rw [ex_10]; exact hf_f2 _
        refine lv_imul (pc := 32) hx hb dX10_settle_32 ?_
        refine lv_topi (fun x_11 _ => ?_)
        have rx_11 : zBd x_11.toInt (-2147483648) 2147483647 := n_rng x_11
        refine lv_iadd (pc := 33) hx hb dX10_settle_33 ?_
        refine lv_topi (fun x_12 _ => ?_)
        have rx_12 : zBd x_12.toInt (-2147483648) 2147483647 := n_rng x_12
        refine b_i2l (pc := 34) hx hb rfl dX10_settle_34 (fun y_13 ey_13 => ?_)
        have ry_13 : zBd x_12.toInt (-2147483648) 2147483647 := n_rng x_12
        refine lv_lstore (pc := 35) (lv' := [(4, .long y_13), (3, .int x_7), (2, .int x_1), (0, .ref a0), (1, .int x0)]) hx hb dX10_settle_35 hl (by decide) rfl (fun ls hl => ?_)
        refine lv_aload_n (pc := 37) hx hb dX10_settle_37 rfl (lv_at hl 3 rfl) ?_
        refine va_get (pc := 38) (ci := 10) (v := .ref a2) (C := RX10) (T := TX10) (N := 8) hx hb hts iX10 hown hK hP 0 rfl rfl 1 (by decide) (hts _ tw_209) (fun _ h9 => h9) rfl dX10_settle_38 ?_
        refine lv_iload_n (pc := 41) hx hb dX10_settle_41 rfl (lv_at hl 2 rfl) ?_
        refine lv_iconst (pc := 42) (v := 1) hx hb dX10_settle_42 (by decide) ?_
        refine b_iadd (pc := 43) hx hb rfl tI_1 (by (first | omega | (unfold zBd at *; omega))) (by (first | omega | (unfold zBd at *; omega))) dX10_settle_43 (fun x_14 ex_14 => ?_)
        refine lv_aload_n (pc := 44) hx hb dX10_settle_44 rfl (lv_at hl 3 rfl) ?_
        refine va_get (pc := 45) (ci := 10) (v := .ref a2) (C := RX10) (T := TX10) (N := 8) hx hb hts iX10 hown hK hP 0 rfl rfl 1 (by decide) (hts _ tw_209) (fun _ h9 => h9) rfl dX10_settle_45 ?_
        refine lv_iload_n (pc := 48) hx hb dX10_settle_48 rfl (lv_at hl 2 rfl) ?_
        refine va_lald (pc := 49) hx hb hK hP 4 3 rfl rfl (n_in rfl (by (first | omega | (unfold zBd at *; omega))) (by (first | omega | (unfold zBd at *; omega)))) dX10_settle_49 ?_
        refine lv_topl (fun y_15 ey_15 => ?_)
        have ry_15 := n_rngL y_15
        refine lv_lload (pc := 50) hx hb dX10_settle_50 (lv_at hl 0 rfl) ?_
        refine lv_lload (pc := 52) hx hb dX10_settle_52 (lv_at hl 0 rfl) ?_
        refine lv_aload_n (pc := 54) hx hb dX10_settle_54 rfl (lv_at hl 3 rfl) ?_
        refine va_get (pc := 55) (ci := 10) (v := .ref a1) (C := RX10) (T := TX10) (N := 8) hx hb hts iX10 hown hK hP 0 rfl rfl 0 (by decide) (hts _ tw_207) (fun _ h9 => h9) rfl dX10_settle_55 ?_
        refine lv_iload_n (pc := 58) hx hb dX10_settle_58 rfl (lv_at hl 1 rfl) ?_
        refine lv_iload_n (pc := 59) hx hb dX10_settle_59 rfl (lv_at hl 2 rfl) ?_
        refine b_iadd (pc := 60) hx hb rfl rfl (by (first | omega | (unfold zBd at *; omega))) (by (first | omega | (unfold zBd at *; omega))) dX10_settle_60 (fun x_16 ex_16 => ?_)
        refine va_lald (pc := 61) hx hb hK hP 5 3 rfl rfl (n_in rfl (by (first | omega | (unfold zBd at *; omega))) (by (first | omega | (unfold zBd at *; omega)))) dX10_settle_61 ?_
        refine lv_topl (fun y_17 ey_17 => ?_)
        have ry_17 := n_rngL y_17
        refine lv_lmul (pc := 62) hx hb dX10_settle_62 ?_
        refine lv_topl (fun y_18 _ => ?_)
        have ry_18 := n_rngL y_18
        refine lv_ldc2 (pc := 63) hx hb hown (hts _ tw_910) dX10_settle_63 ?_
        refine lv_aload_n (pc := 66) hx hb dX10_settle_66 rfl (lv_at hl 3 rfl) ?_
        refine va_get (pc := 67) (ci := 10) (v := .ref a3) (C := RX10) (T := TX10) (N := 8) hx hb hts iX10 hown hK hP 0 rfl rfl 2 (by decide) (hts _ tw_210) (fun _ h9 => h9) rfl dX10_settle_67 ?_
        refine lv_iload_n (pc := 70) hx hb dX10_settle_70 rfl (lv_at hl 1 rfl) ?_
        refine lv_iload_n (pc := 71) hx hb dX10_settle_71 rfl (lv_at hl 2 rfl) ?_
        refine b_iadd (pc := 72) hx hb rfl rfl (by (first | omega | (unfold zBd at *; omega))) (by (first | omega | (unfold zBd at *; omega))) dX10_settle_72 (fun x_19 ex_19 => ?_)
        refine va_lald (pc := 73) hx hb hK hP 6 3 rfl rfl (n_in rfl (by (first | omega | (unfold zBd at *; omega))) (by (first | omega | (unfold zBd at *; omega)))) dX10_settle_73 ?_
        refine lv_topl (fun y_20 ey_20 => ?_)
        have ry_20 := n_rngL y_20
        refine lv_lmul (pc := 74) hx hb dX10_settle_74 ?_
        refine lv_topl (fun y_21 _ => ?_)
        have ry_21 := n_rngL y_21
        refine lv_lsub (pc := 75) hx hb dX10_settle_75 ?_
        refine lv_topl (fun y_22 _ => ?_)
        have ry_22 := n_rngL y_22
        refine lv_lmul (pc := 76) hx hb dX10_settle_76 ?_
        refine lv_topl (fun y_23 _ => ?_)
        have ry_23 := n_rngL y_23
        refine lv_ladd (pc := 77) hx hb dX10_settle_77 ?_
        refine lv_topl (fun y_24 _ => ?_)
        have ry_24 := n_rngL y_24
        refine g_lastore (pc := 78) hx hb hK hP hD hS 4 3 rfl rfl (n_in rfl (by (first | omega | (unfold zBd at *; omega))) (by (first | omega | (unfold zBd at *; omega)))) dX10_settle_78 (fun g_25 H locs hP hD hS => ?_)
        replace hP : va_P D gcl [(a0, .inr (10, [.ref a1, .ref a2, .ref a3, .ref a4, .ref a5, .ref a6, .ref a7, .int x1])), (a4, .inl (cI, 5, .inl f0)), (a5, .inl (cI, 5, .inl f1)), (a7, .inl (cI, 5, .inl f2)), (a2, .inl (cJ, 5, .inr (.inl g_25))), (a1, .inl (cJ, 25, .inr (.inl g1))), (a3, .inl (cJ, 25, .inr (.inl g_4)))] H := hP
        replace hD : va_D A [(a0, .inr (10, [.ref a1, .ref a2, .ref a3, .ref a4, .ref a5, .ref a6, .ref a7, .int x1])), (a4, .inl (cI, 5, .inl f0)), (a5, .inl (cI, 5, .inl f1)), (a7, .inl (cI, 5, .inl f2)), (a2, .inl (cJ, 5, .inr (.inl g_25))), (a1, .inl (cJ, 25, .inr (.inl g1))), (a3, .inl (cJ, 25, .inr (.inl g_4)))] := hD
        refine lv_iload_n (pc := 79) hx hb dX10_settle_79 rfl (lv_at hl 2 rfl) ?_
        refine lv_iconst (pc := 80) (v := 1) hx hb dX10_settle_80 (by decide) ?_
        refine b_iadd (pc := 81) hx hb rfl tI_1 (by (first | omega | (unfold zBd at *; omega))) (by (first | omega | (unfold zBd at *; omega))) dX10_settle_81 (fun x_26 ex_26 => ?_)
        refine lv_istore (pc := 82) (lv' := [(6, .int x_26), (4, .long y_13), (3, .int x_7), (2, .int x_1), (0, .ref a0), (1, .int x0)]) hx hb dX10_settle_82 hl (by decide) rfl (fun ls hl => ?_)
        have lp_30 : ∀ (n : Nat) (x_27 : Int32) (g_29 : Nat → Int64) (H : Heap) (locs : List Loc) (ls : Array Slot), (1 ≤ x_27.toInt ∧ x_27.toInt ≤ 2147483647) → (2147483647 - x_27.toInt).toNat < n → va_P D gcl [(a0, .inr (10, [.ref a1, .ref a2, .ref a3, .ref a4, .ref a5, .ref a6, .ref a7, .int x1])), (a4, .inl (cI, 5, .inl f0)), (a5, .inl (cI, 5, .inl f1)), (a7, .inl (cI, 5, .inl f2)), (a2, .inl (cJ, 5, .inr (.inl g_25))), (a1, .inl (cJ, 25, .inr (.inl g1))), (a3, .inl (cJ, 25, .inr (.inl g_29)))] H → va_D A [(a0, .inr (10, [.ref a1, .ref a2, .ref a3, .ref a4, .ref a5, .ref a6, .ref a7, .int x1])), (a4, .inl (cI, 5, .inl f0)), (a5, .inl (cI, 5, .inl f1)), (a7, .inl (cI, 5, .inl f2)), (a2, .inl (cJ, 5, .inr (.inl g_25))), (a1, .inl (cJ, 25, .inr (.inl g1))), (a3, .inl (cJ, 25, .inr (.inl g_29)))] → va_S A s.heap H locs → lv_has ls 7 [(6, .int x_27), (4, .long y_13), (3, .int x_7), (2, .int x_1), (0, .ref a0), (1, .int x0)] → W p l e ({ frames := 0, cells := 0, slots := 0, locals := 0 }) s m args below meth c H locs 0 0 Q (F0 m 84 ls []) := by
          intro n
          induction n with
          | zero => intro x_27 g_29 H locs ls hi_28 hmu; exact absurd hmu (Nat.not_lt_zero _)
          | succ n ih_lp_30 =>
            intro x_27 g_29 H locs ls hi_28 hmu_lp_30 hP hD hS hl
            refine lv_iload (pc := 84) hx hb dX10_settle_84 (lv_at hl 0 rfl) ?_
            refine lv_aload_n (pc := 86) hx hb dX10_settle_86 rfl (lv_at hl 4 rfl) ?_
            refine va_get (pc := 87) (ci := 10) (v := .int x1) (C := RX10) (T := TX10) (N := 8) hx hb hts iX10 hown hK hP 0 rfl rfl 7 (by decide) (hts _ tw_220) (fun _ h9 => h9) rfl dX10_settle_87 ?_
            refine b_icmp_gt (pc := 90) (tgt := 132) hx hb rfl rfl  dX10_settle_90 (by decide) (fun c_31 => ?_) (fun c_31 => ?_)
            ·
              refine b_iinc (pc := 132) hx hb dX10_settle_132 hl (k := 3) rfl rfl tI_1 (by (first | omega | (unfold zBd at *; omega))) (by (first | omega | (unfold zBd at *; omega))) (by decide) (fun x_32 ex_32 ls hl => ?_)
              replace hl : lv_has ls 7 [(2, .int x_32), (6, .int x_27), (4, .long y_13), (3, .int x_7), (0, .ref a0), (1, .int x0)] := hl
              refine lv_goto (pc := 135) (tgt := 2) hx hb dX10_settle_135 (by decide) ?_
              exact ih_lp_5 x_32 g_25 g_29 _ _ ls (by (first | omega | (unfold zBd at *; omega))) (by (first | omega | (unfold zBd at *; omega))) hP hD hS (lv_sub hl [0, 4, 5] rfl)
            ·
              refine lv_aload_n (pc := 93) hx hb dX10_settle_93 rfl (lv_at hl 4 rfl) ?_
              refine va_get (pc := 94) (ci := 10) (v := .ref a3) (C := RX10) (T := TX10) (N := 8) hx hb hts iX10 hown hK hP 0 rfl rfl 2 (by decide) (hts _ tw_210) (fun _ h9 => h9) rfl dX10_settle_94 ?_
              refine lv_iload_n (pc := 97) hx hb dX10_settle_97 rfl (lv_at hl 2 rfl) ?_
              refine lv_iconst (pc := 98) (v := 5) hx hb dX10_settle_98 (by decide) ?_
              refine b_iadd (pc := 99) hx hb rfl tI_5 (by (first | omega | (unfold zBd at *; omega))) (by (first | omega | (unfold zBd at *; omega))) dX10_settle_99 (fun x_33 ex_33 => ?_)
              refine lv_iload (pc := 100) hx hb dX10_settle_100 (lv_at hl 0 rfl) ?_
              refine b_iadd (pc := 102) hx hb rfl rfl (by (first | omega | (unfold zBd at *; omega))) (by (first | omega | (unfold zBd at *; omega))) dX10_settle_102 (fun x_34 ex_34 => ?_)
              refine lv_aload_n (pc := 103) hx hb dX10_settle_103 rfl (lv_at hl 4 rfl) ?_
              refine va_get (pc := 104) (ci := 10) (v := .ref a3) (C := RX10) (T := TX10) (N := 8) hx hb hts iX10 hown hK hP 0 rfl rfl 2 (by decide) (hts _ tw_210) (fun _ h9 => h9) rfl dX10_settle_104 ?_
              refine lv_iload_n (pc := 107) hx hb dX10_settle_107 rfl (lv_at hl 2 rfl) ?_
              refine lv_iload (pc := 108) hx hb dX10_settle_108 (lv_at hl 0 rfl) ?_
              refine b_iadd (pc := 110) hx hb rfl rfl (by (first | omega | (unfold zBd at *; omega))) (by (first | omega | (unfold zBd at *; omega))) dX10_settle_110 (fun x_35 ex_35 => ?_)
              refine va_lald (pc := 111) hx hb hK hP 6 3 rfl rfl (n_in rfl (by (first | omega | (unfold zBd at *; omega))) (by (first | omega | (unfold zBd at *; omega)))) dX10_settle_111 ?_
              refine lv_topl (fun y_36 ey_36 => ?_)
              have ry_36 := n_rngL y_36
              refine lv_lload (pc := 112) hx hb dX10_settle_112 (lv_at hl 1 rfl) ?_
              refine lv_aload_n (pc := 114) hx hb dX10_settle_114 rfl (lv_at hl 4 rfl) ?_
              refine va_get (pc := 115) (ci := 10) (v := .ref a1) (C := RX10) (T := TX10) (N := 8) hx hb hts iX10 hown hK hP 0 rfl rfl 0 (by decide) (hts _ tw_207) (fun _ h9 => h9) rfl dX10_settle_115 ?_
              refine lv_iload_n (pc := 118) hx hb dX10_settle_118 rfl (lv_at hl 2 rfl) ?_
              refine lv_iload (pc := 119) hx hb dX10_settle_119 (lv_at hl 0 rfl) ?_
              refine b_iadd (pc := 121) hx hb rfl rfl (by (first | omega | (unfold zBd at *; omega))) (by (first | omega | (unfold zBd at *; omega))) dX10_settle_121 (fun x_37 ex_37 => ?_)
              refine va_lald (pc := 122) hx hb hK hP 5 3 rfl rfl (n_in rfl (by (first | omega | (unfold zBd at *; omega))) (by (first | omega | (unfold zBd at *; omega)))) dX10_settle_122 ?_
              refine lv_topl (fun y_38 ey_38 => ?_)
              have ry_38 := n_rngL y_38
              refine lv_lmul (pc := 123) hx hb dX10_settle_123 ?_
              refine lv_topl (fun y_39 _ => ?_)
              have ry_39 := n_rngL y_39
              refine lv_lsub (pc := 124) hx hb dX10_settle_124 ?_
              refine lv_topl (fun y_40 _ => ?_)
              have ry_40 := n_rngL y_40
              refine g_lastore (pc := 125) hx hb hK hP hD hS 6 3 rfl rfl (n_in rfl (by (first | omega | (unfold zBd at *; omega))) (by (first | omega | (unfold zBd at *; omega)))) dX10_settle_125 (fun g_41 H locs hP hD hS => ?_)
              replace hP : va_P D gcl [(a0, .inr (10, [.ref a1, .ref a2, .ref a3, .ref a4, .ref a5, .ref a6, .ref a7, .int x1])), (a4, .inl (cI, 5, .inl f0)), (a5, .inl (cI, 5, .inl f1)), (a7, .inl (cI, 5, .inl f2)), (a2, .inl (cJ, 5, .inr (.inl g_25))), (a1, .inl (cJ, 25, .inr (.inl g1))), (a3, .inl (cJ, 25, .inr (.inl g_41)))] H := hP
              replace hD : va_D A [(a0, .inr (10, [.ref a1, .ref a2, .ref a3, .ref a4, .ref a5, .ref a6, .ref a7, .int x1])), (a4, .inl (cI, 5, .inl f0)), (a5, .inl (cI, 5, .inl f1)), (a7, .inl (cI, 5, .inl f2)), (a2, .inl (cJ, 5, .inr (.inl g_25))), (a1, .inl (cJ, 25, .inr (.inl g1))), (a3, .inl (cJ, 25, .inr (.inl g_41)))] := hD
              refine b_iinc (pc := 126) hx hb dX10_settle_126 hl (k := 0) rfl rfl tI_1 (by (first | omega | (unfold zBd at *; omega))) (by (first | omega | (unfold zBd at *; omega))) (by decide) (fun x_42 ex_42 ls hl => ?_)
              replace hl : lv_has ls 7 [(6, .int x_42), (4, .long y_13), (3, .int x_7), (2, .int x_1), (0, .ref a0), (1, .int x0)] := hl
              refine lv_goto (pc := 129) (tgt := 84) hx hb dX10_settle_129 (by decide) ?_
              exact ih_lp_30 x_42 g_41 _ _ ls (by (first | omega | (unfold zBd at *; omega))) (by (first | omega | (unfold zBd at *; omega))) hP hD hS (lv_sub hl [0, 1, 2, 3, 4, 5] rfl)
        exact lp_30 _ x_26 g_4 _ _ ls (by (first | omega | (unfold zBd at *; omega))) (Nat.lt_succ_self _) hP hD hS (lv_sub hl [0, 1, 2, 3, 4, 5] rfl)
  exact lp_5 _ x0 g0 g2 _ _ ls (by (first | omega | (unfold zBd at *; omega))) (Nat.lt_succ_self _) hP hD hS (lv_sub hl [0, 1, 2] rfl)
set_option maxHeartbeats 4000000 in
set_option maxRecDepth 100000 in
theorem k_X10_firstLine (l : Launch) (D : va_G) (cB cC cI cJ : ClassId) (sz : Nat) (a0 a1 a2 a3 a4 a5 a6 a7 : Nat) (x0 : Int32) (f0 f1 f2 : Nat → Int32) (g0 g1 g2 : Nat → Int64) (h_x0 : zBd x0.toInt 0 4) (hf_f0 : (∀ j, 0 ≤ (f0 j).toInt ∧ (f0 j).toInt ≤ 23)) : Met l yX10_firstLine (.code yX10_firstLine cX10_firstLine 1 none :: lw_gd) ({ frames := 1, cells := 0, slots := 0, locals := 26 }) (gPre D [(cB, .byte), (cC, .char), (cI, .int), (cJ, .long)] [.ref a0] [(a0, .inr (10, [.ref a1, .ref a2, .ref a3, .ref a4, .ref a5, .ref a6, .ref a7, .int x0])), (a7, .inl (cI, 5, .inl f0)), (a4, .inl (cI, 5, .inl f1)), (a5, .inl (cI, 5, .inl f2)), (a2, .inl (cJ, 5, .inr (.inl g0))), (a1, .inl (cJ, 25, .inr (.inl g1))), (a3, .inl (cJ, 25, .inr (.inl g2)))] sz) (va_Qv (fun u => (∀ j, 0 ≤ ((u.2.1 0) j).toInt ∧ ((u.2.1 0) j).toInt ≤ 23)) (gB D (va_A [(a0, .inr (10, [.ref a1, .ref a2, .ref a3, .ref a4, .ref a5, .ref a6, .ref a7, .int x0])), (a7, .inl (cI, 5, .inl f0)), (a4, .inl (cI, 5, .inl f1)), (a5, .inl (cI, 5, .inl f2)), (a2, .inl (cJ, 5, .inr (.inl g0))), (a1, .inl (cJ, 25, .inr (.inl g1))), (a3, .inl (cJ, 25, .inr (.inl g2)))] sz) (fun u : gEx => [(a0, .inr (10, [.ref a1, .ref a2, .ref a3, .ref a4, .ref a5, .ref a6, .ref a7, .int x0])), (a7, .inl (cI, 5, .inl (u.2.1 0))), (a4, .inl (cI, 5, .inl f1)), (a5, .inl (cI, 5, .inl f2)), (a2, .inl (cJ, 5, .inr (.inl (u.2.2.1 0)))), (a1, .inl (cJ, 25, .inr (.inl g1))), (a3, .inl (cJ, 25, .inr (.inl (u.2.2.1 1))))])) (va_A [(a0, .inr (10, [.ref a1, .ref a2, .ref a3, .ref a4, .ref a5, .ref a6, .ref a7, .int x0])), (a7, .inl (cI, 5, .inl f0)), (a4, .inl (cI, 5, .inl f1)), (a5, .inl (cI, 5, .inl f2)), (a2, .inl (cJ, 5, .inr (.inl g0))), (a1, .inl (cJ, 25, .inr (.inl g1))), (a3, .inl (cJ, 25, .inr (.inl g2)))] sz)) 0 0 (va_A [(a0, .inr (10, [.ref a1, .ref a2, .ref a3, .ref a4, .ref a5, .ref a6, .ref a7, .int x0])), (a7, .inl (cI, 5, .inl f0)), (a4, .inl (cI, 5, .inl f1)), (a5, .inl (cI, 5, .inl f2)), (a2, .inl (cJ, 5, .inr (.inl g0))), (a1, .inl (cJ, 25, .inr (.inl g1))), (a3, .inl (cJ, 25, .inr (.inl g2)))] sz) := by
  refine gOf_v (by decide +kernel) (Nat.le_of_ble_eq_true rfl) ?_
  intro p e s m args below meth c ls A Q hx hb hts hown hml hN hK hP hD hA hl hret
  replace hown : s.vm.findClass RX10 = some m.cls := hown
  have hS : va_S A s.heap s.heap [] := va_S.rf
  replace hP : va_P D gcl [(a0, .inr (10, [.ref a1, .ref a2, .ref a3, .ref a4, .ref a5, .ref a6, .ref a7, .int x0])), (a7, .inl (cI, 5, .inl f0)), (a4, .inl (cI, 5, .inl f1)), (a5, .inl (cI, 5, .inl f2)), (a2, .inl (cJ, 5, .inr (.inl g0))), (a1, .inl (cJ, 25, .inr (.inl g1))), (a3, .inl (cJ, 25, .inr (.inl g2)))] s.heap := hP
  replace hl : lv_has ls 1 [(0, .ref a0)] := hl
  refine lv_aload_n (pc := 0) hx hb dX10_firstLine_0 rfl (lv_at hl 0 rfl) ?_
  refine va_get (pc := 1) (ci := 10) (v := .ref a7) (C := RX10) (T := TX10) (N := 8) hx hb hts iX10 hown hK hP 0 rfl rfl 6 (by decide) (hts _ tw_216) (fun _ h9 => h9) rfl dX10_firstLine_1 ?_
  refine lv_iconst (pc := 4) (v := 0) hx hb dX10_firstLine_4 (by decide) ?_
  refine gc_v (pc := 5) (wc := [(a7, .inl (cI, 5, .inl f0))]) (wr := [(a0, .inr (10, [.ref a1, .ref a2, .ref a3, .ref a4, .ref a5, .ref a6, .ref a7, .int x0])), (a4, .inl (cI, 5, .inl f1)), (a5, .inl (cI, 5, .inl f2)), (a2, .inl (cJ, 5, .inr (.inl g0))), (a1, .inl (cJ, 25, .inr (.inl g1))), (a3, .inl (cJ, 25, .inr (.inl g2)))]) hP hD hS hA [1] [0, 2, 3, 4, 5, 6] rfl rfl (by decide) (by decide) (by decide) (fun hPc hDc => va_runS (As := [.ref a7, .int 0]) (rest := []) ⟨hx, hb, hml, hown, hts⟩ (k_J7_fill_53178_5r0_23 l D cB cC cI cJ _ a7 0 f0 (n_c tI_0 (by decide)) hf_f0) ⟨gcwB hts tw_505 tw_10 tw_905 hd_yJ7_fill_53178 ⟨Nat.le_of_ble_eq_true rfl, Nat.le_of_ble_eq_true rfl⟩, hts _ tw_504⟩ (gpreS hPc hK hDc hN) rfl rfl hl.1 rfl (lv_room (Nat.le_of_ble_eq_true rfl)) dX10_firstLine_5 ⟨Nat.le_of_ble_eq_true rfl, Nat.le_of_ble_eq_true rfl⟩) (fun u_1 H locs hw_3 hP hD hS => ?_)
  replace hP : va_P D gcl [(a0, .inr (10, [.ref a1, .ref a2, .ref a3, .ref a4, .ref a5, .ref a6, .ref a7, .int x0])), (a4, .inl (cI, 5, .inl f1)), (a5, .inl (cI, 5, .inl f2)), (a2, .inl (cJ, 5, .inr (.inl g0))), (a1, .inl (cJ, 25, .inr (.inl g1))), (a3, .inl (cJ, 25, .inr (.inl g2))), (a7, .inl (cI, 5, .inl (u_1.2.1 0)))] H := hP
  replace hD : va_D A [(a0, .inr (10, [.ref a1, .ref a2, .ref a3, .ref a4, .ref a5, .ref a6, .ref a7, .int x0])), (a4, .inl (cI, 5, .inl f1)), (a5, .inl (cI, 5, .inl f2)), (a2, .inl (cJ, 5, .inr (.inl g0))), (a1, .inl (cJ, 25, .inr (.inl g1))), (a3, .inl (cJ, 25, .inr (.inl g2))), (a7, .inl (cI, 5, .inl (u_1.2.1 0)))] := hD
  have hw_4 : (∀ j, 0 ≤ ((u_1.2.1 0) j).toInt ∧ ((u_1.2.1 0) j).toInt ≤ 23) := hw_3
  have kk0_r_2 := tI_0
  refine lv_aload_n (pc := 8) hx hb dX10_firstLine_8 rfl (lv_at hl 0 rfl) ?_
  refine lv_iconst (pc := 9) (v := 0) hx hb dX10_firstLine_9 (by decide) ?_
  refine gc_v (pc := 10) (wc := [(a0, .inr (10, [.ref a1, .ref a2, .ref a3, .ref a4, .ref a5, .ref a6, .ref a7, .int x0])), (a4, .inl (cI, 5, .inl f1)), (a5, .inl (cI, 5, .inl f2)), (a7, .inl (cI, 5, .inl (u_1.2.1 0))), (a2, .inl (cJ, 5, .inr (.inl g0))), (a1, .inl (cJ, 25, .inr (.inl g1))), (a3, .inl (cJ, 25, .inr (.inl g2)))]) (wr := []) hP hD hS hA [0, 1, 2, 6, 3, 4, 5] [] rfl rfl (by decide) (by decide) (by decide) (fun hPc hDc => va_runV (As := [.int 0]) (rest := []) ⟨hx, hb, hml, hown, hts⟩ (k_X10_settle l D cB cC cI cJ _ a0 a1 a2 a3 a4 a5 a6 a7 0 x0 f1 f2 (u_1.2.1 0) g0 g1 g2 (n_c tI_0 (by decide)) h_x0 hw_4) ⟨gcwB hts tw_909 tw_8 tw_906 hd_yX10_settle ⟨Nat.le_of_ble_eq_true rfl, Nat.le_of_ble_eq_true rfl⟩, hts _ tw_908, hts _ tp_33⟩ ⟨gblind, va_recv hK hPc (ci := 10) (q0 := 0) rfl rfl, (gpreS hPc hK hDc hN).2⟩ rfl rfl hl.1 rfl (lv_room (Nat.le_of_ble_eq_true rfl)) dX10_firstLine_10 ⟨Nat.le_of_ble_eq_true rfl, Nat.le_of_ble_eq_true rfl⟩) (fun u_5 H locs hw_7 hP hD hS => ?_)
  replace hP : va_P D gcl [(a0, .inr (10, [.ref a1, .ref a2, .ref a3, .ref a4, .ref a5, .ref a6, .ref a7, .int x0])), (a4, .inl (cI, 5, .inl f1)), (a5, .inl (cI, 5, .inl f2)), (a7, .inl (cI, 5, .inl (u_1.2.1 0))), (a2, .inl (cJ, 5, .inr (.inl (u_5.2.2.1 0)))), (a1, .inl (cJ, 25, .inr (.inl g1))), (a3, .inl (cJ, 25, .inr (.inl (u_5.2.2.1 1))))] H := hP
  replace hD : va_D A [(a0, .inr (10, [.ref a1, .ref a2, .ref a3, .ref a4, .ref a5, .ref a6, .ref a7, .int x0])), (a4, .inl (cI, 5, .inl f1)), (a5, .inl (cI, 5, .inl f2)), (a7, .inl (cI, 5, .inl (u_1.2.1 0))), (a2, .inl (cJ, 5, .inr (.inl (u_5.2.2.1 0)))), (a1, .inl (cJ, 25, .inr (.inl g1))), (a3, .inl (cJ, 25, .inr (.inl (u_5.2.2.1 1))))] := hD
  have hw_8 : (((0 ≤ x0.toInt ∧ x0.toInt ≤ 4))) := hw_7
  have kk0_r_6 := tI_0
  exact hret ((fun _ => 0), (fun k => [(u_1.2.1 0)].getD k (fun _ => 0)), (fun k => [(u_5.2.2.1 0), (u_5.2.2.1 1)].getD k (fun _ => 0)), (fun _ => 0), (fun _ => 0)) dX10_firstLine_13 hw_4 (g_psub (wc := [(a0, .inr (10, [.ref a1, .ref a2, .ref a3, .ref a4, .ref a5, .ref a6, .ref a7, .int x0])), (a7, .inl (cI, 5, .inl (u_1.2.1 0))), (a4, .inl (cI, 5, .inl f1)), (a5, .inl (cI, 5, .inl f2)), (a2, .inl (cJ, 5, .inr (.inl (u_5.2.2.1 0)))), (a1, .inl (cJ, 25, .inr (.inl g1))), (a3, .inl (cJ, 25, .inr (.inl (u_5.2.2.1 1))))]) hP [0, 3, 1, 2, 4, 5, 6] rfl) (hD.sub (ws' := [(a0, .inr (10, [.ref a1, .ref a2, .ref a3, .ref a4, .ref a5, .ref a6, .ref a7, .int x0])), (a7, .inl (cI, 5, .inl (u_1.2.1 0))), (a4, .inl (cI, 5, .inl f1)), (a5, .inl (cI, 5, .inl f2)), (a2, .inl (cJ, 5, .inr (.inl (u_5.2.2.1 0)))), (a1, .inl (cJ, 25, .inr (.inl g1))), (a3, .inl (cJ, 25, .inr (.inl (u_5.2.2.1 1))))]) [0, 3, 1, 2, 4, 5, 6] (by decide) rfl) hS
