set_option maxHeartbeats 4000000 in
set_option maxRecDepth 100000 in
theorem k_X3_fallsTo (l : Launch) (D : va_G) (cB cC cI cJ : ClassId) (sz : Nat) (a0 a1 a2 a3 a4 a5 a6 a7 a8 a9 a10 a11 a12 a13 a14 a15 a16 a17 : Nat) (x0 x1 x2 x3 x4 x5 x6 x7 x8 : Int32) (y0 y1 y2 y3 : Int64) (f0 : Nat → Int32) (g0 g1 : Nat → Int64) (h_x0 : (0 ≤ x0.toInt ∧ x0.toInt ≤ 1)) (h_x1 : ((-1) ≤ x1.toInt ∧ x1.toInt ≤ 8)) (h_x2 : ((-1) ≤ x2.toInt ∧ x2.toInt ≤ 5)) (h_x3 : ((-1) ≤ x3.toInt ∧ x3.toInt ≤ 6)) (h_x4 : (0 ≤ x4.toInt ∧ x4.toInt ≤ 6)) (h_x5 : (0 ≤ x5.toInt ∧ x5.toInt ≤ 16)) (h_x8 : (0 ≤ x8.toInt ∧ x8.toInt ≤ 4)) : Met l yX3_fallsTo (.code yX3_fallsTo cX3_fallsTo 9 (some .boolean) :: lw_gd) ({ frames := 2, cells := 0, slots := 0, locals := 50 }) (gPre D [(cB, .byte), (cC, .char), (cI, .int), (cJ, .long)] [.ref a0, .long y0, .ref a1] [(a0, .inr (3, [.ref a2, .ref a3, .ref a4, .ref a5, .ref a6, .ref a7, .long y1, .int x0, .long y2, .long y3])), (a1, .inr (1, [.ref a8, .ref a9, .ref a10, .int x1, .int x2, .int x3, .int x4, .int x5, .int x6, .int x7])), (a2, .inr (10, [.ref a11, .ref a12, .ref a13, .ref a14, .ref a15, .ref a16, .ref a17, .int x8])), (a7, .inl (cJ, 5, .inr (.inl g0))), (a6, .inl (cI, 5, .inl f0)), (a11, .inl (cJ, 25, .inr (.inl g1)))] sz) (va_Qi (fun r u => ((r.toInt = 0) ∨ (r.toInt = 1))) (gB D (va_A [(a0, .inr (3, [.ref a2, .ref a3, .ref a4, .ref a5, .ref a6, .ref a7, .long y1, .int x0, .long y2, .long y3])), (a1, .inr (1, [.ref a8, .ref a9, .ref a10, .int x1, .int x2, .int x3, .int x4, .int x5, .int x6, .int x7])), (a2, .inr (10, [.ref a11, .ref a12, .ref a13, .ref a14, .ref a15, .ref a16, .ref a17, .int x8])), (a7, .inl (cJ, 5, .inr (.inl g0))), (a6, .inl (cI, 5, .inl f0)), (a11, .inl (cJ, 25, .inr (.inl g1)))] sz) (fun u : gEx => [(a0, .inr (3, [.ref a2, .ref a3, .ref a4, .ref a5, .ref a6, .ref a7, .long (u.2.2.2.2 0), .int x0, .long y2, .long y3])), (a1, .inr (1, [.ref a8, .ref a9, .ref a10, .int x1, .int x2, .int x3, .int x4, .int x5, .int x6, .int x7])), (a2, .inr (10, [.ref a11, .ref a12, .ref a13, .ref a14, .ref a15, .ref a16, .ref a17, .int x8])), (a7, .inl (cJ, 5, .inr (.inl (u.2.2.1 0)))), (a6, .inl (cI, 5, .inl (u.2.1 0))), (a11, .inl (cJ, 25, .inr (.inl g1)))])) (va_A [(a0, .inr (3, [.ref a2, .ref a3, .ref a4, .ref a5, .ref a6, .ref a7, .long y1, .int x0, .long y2, .long y3])), (a1, .inr (1, [.ref a8, .ref a9, .ref a10, .int x1, .int x2, .int x3, .int x4, .int x5, .int x6, .int x7])), (a2, .inr (10, [.ref a11, .ref a12, .ref a13, .ref a14, .ref a15, .ref a16, .ref a17, .int x8])), (a7, .inl (cJ, 5, .inr (.inl g0))), (a6, .inl (cI, 5, .inl f0)), (a11, .inl (cJ, 25, .inr (.inl g1)))] sz)) 0 0 (va_A [(a0, .inr (3, [.ref a2, .ref a3, .ref a4, .ref a5, .ref a6, .ref a7, .long y1, .int x0, .long y2, .long y3])), (a1, .inr (1, [.ref a8, .ref a9, .ref a10, .int x1, .int x2, .int x3, .int x4, .int x5, .int x6, .int x7])), (a2, .inr (10, [.ref a11, .ref a12, .ref a13, .ref a14, .ref a15, .ref a16, .ref a17, .int x8])), (a7, .inl (cJ, 5, .inr (.inl g0))), (a6, .inl (cI, 5, .inl f0)), (a11, .inl (cJ, 25, .inr (.inl g1)))] sz) := by
  refine gOf_z (by decide +kernel) (Nat.le_of_ble_eq_true rfl) ?_
  intro p e s m args below meth c ls A Q hx hb hts hown hml hN hK hP hD hA hl hret
  have hown : s.vm.findClass RX3 = some m.cls := hown
  have hS : va_S A s.heap s.heap [] := va_S.rf
  have hP : va_P D gcl [(a0, .inr (3, [.ref a2, .ref a3, .ref a4, .ref a5, .ref a6, .ref a7, .long y1, .int x0, .long y2, .long y3])), (a1, .inr (1, [.ref a8, .ref a9, .ref a10, .int x1, .int x2, .int x3, .int x4, .int x5, .int x6, .int x7])), (a2, .inr (10, [.ref a11, .ref a12, .ref a13, .ref a14, .ref a15, .ref a16, .ref a17, .int x8])), (a7, .inl (cJ, 5, .inr (.inl g0))), (a6, .inl (cI, 5, .inl f0)), (a11, .inl (cJ, 25, .inr (.inl g1)))] s.heap := hP
  have hl : lv_has ls 9 [(0, .ref a0), (1, .long y0), (3, .ref a1)] := hl
  have ry0 := n_rngL y0
  have ry1 := n_rngL y1
  have ry2 := n_rngL y2
  have ry3 := n_rngL y3
  have rx6 := n_rng x6
  have rx7 := n_rng x7
  refine lv_iconst (pc := 0) (v := 2) hx hb dX3_fallsTo_0 (by decide) ?_
  refine lv_aload_n (pc := 1) hx hb dX3_fallsTo_1 rfl (lv_at hl 2 rfl) ?_
  refine va_getN (pc := 2) (ci := 1) (v := .int x1) (C := RX1) (T := TX1) (N := 10) hx hb hts iX1 hown hK hP 1 rfl rfl 3 (by decide) (va_Nw.use rfl (hN _ tn_113)) (fun _ h9 => h9) rfl dX3_fallsTo_2 ?_
  refine b_imul (pc := 5) hx hb tI_2 rfl (by omega) (by omega) dX3_fallsTo_5 (fun x_1 ex_1 => ?_)
  refine lv_istore (pc := 6) (lv' := [(4, .int x_1), (0, .ref a0), (1, .long y0), (3, .ref a1)]) hx hb dX3_fallsTo_6 hl (by decide) rfl (fun ls hl => ?_)
  refine lv_iconst (pc := 8) (v := 0) hx hb dX3_fallsTo_8 (by decide) ?_
  refine lv_istore (pc := 9) (lv' := [(5, .int 0), (4, .int x_1), (0, .ref a0), (1, .long y0), (3, .ref a1)]) hx hb dX3_fallsTo_9 hl (by decide) rfl (fun ls hl => ?_)
  have lp_8 : ∀ (n : Nat) (x_2 : Int32) (y_4 : Int64) (f_7 : Nat → Int32) (g_6 : Nat → Int64) (H : Heap) (locs : List Loc) (ls : Array Slot), (0 ≤ x_2.toInt ∧ x_2.toInt ≤ 2147483647) → (2147483647 - x_2.toInt).toNat < n → va_P D gcl [(a0, .inr (3, [.ref a2, .ref a3, .ref a4, .ref a5, .ref a6, .ref a7, .long y_4, .int x0, .long y2, .long y3])), (a1, .inr (1, [.ref a8, .ref a9, .ref a10, .int x1, .int x2, .int x3, .int x4, .int x5, .int x6, .int x7])), (a2, .inr (10, [.ref a11, .ref a12, .ref a13, .ref a14, .ref a15, .ref a16, .ref a17, .int x8])), (a7, .inl (cJ, 5, .inr (.inl g_6))), (a6, .inl (cI, 5, .inl f_7)), (a11, .inl (cJ, 25, .inr (.inl g1)))] H → va_D A [(a0, .inr (3, [.ref a2, .ref a3, .ref a4, .ref a5, .ref a6, .ref a7, .long y_4, .int x0, .long y2, .long y3])), (a1, .inr (1, [.ref a8, .ref a9, .ref a10, .int x1, .int x2, .int x3, .int x4, .int x5, .int x6, .int x7])), (a2, .inr (10, [.ref a11, .ref a12, .ref a13, .ref a14, .ref a15, .ref a16, .ref a17, .int x8])), (a7, .inl (cJ, 5, .inr (.inl g_6))), (a6, .inl (cI, 5, .inl f_7)), (a11, .inl (cJ, 25, .inr (.inl g1)))] → va_S A s.heap H locs → lv_has ls 9 [(5, .int x_2), (4, .int x_1), (0, .ref a0), (1, .long y0), (3, .ref a1)] → W p l e ({ frames := 2, cells := 0, slots := 0, locals := 50 }) s m args below meth c H locs 0 0 Q (F0 m 11 ls []) := by
    intro n
    induction n with
    | zero => intro x_2 y_4 f_7 g_6 H locs ls hi_3 hmu; exact absurd hmu (Nat.not_lt_zero _)
    | succ n ih_lp_8 =>
      intro x_2 y_4 f_7 g_6 H locs ls hi_3 hmu_lp_8 hP hD hS hl
      have hi_5 := n_rngL y_4
      refine lv_iload (pc := 11) hx hb dX3_fallsTo_11 (lv_at hl 0 rfl) ?_
      refine lv_sipush (pc := 13) (v := 243) hx hb dX3_fallsTo_13 (by decide) ?_
      refine b_icmp_ge (pc := 16) (tgt := 90) hx hb rfl tI_243  dX3_fallsTo_16 (by decide) (fun c_9 => ?_) (fun c_9 => ?_)
      ·
        refine lv_aload_n (pc := 90) hx hb dX3_fallsTo_90 rfl (lv_at hl 2 rfl) ?_
        refine va_get (pc := 91) (ci := 3) (v := .long y_4) (C := RX3) (T := TX3) (N := 10) hx hb hts iX3 hown hK hP 0 rfl rfl 6 (by decide) (hts _ tw_355) (fun _ h9 => h9) rfl dX3_fallsTo_91 ?_
        refine lv_lload_n (pc := 94) hx hb dX3_fallsTo_94 rfl (lv_at hl 3 rfl) ?_
        refine b_lcmp_gt (pc := 95) (tgt := 103) hx hb rfl rfl dX3_fallsTo_95 dX3_fallsTo_96 (by decide) (fun c_10 => ?_) (fun c_10 => ?_)
        ·
          refine lv_iconst (pc := 103) (v := 0) hx hb dX3_fallsTo_103 (by decide) ?_
          exact hret 0 ((fun _ => 0), (fun k => [f_7].getD k (fun _ => 0)), (fun k => [g_6].getD k (fun _ => 0)), (fun _ => 0), (fun k => [y_4].getD k 0)) dX3_fallsTo_104 ⟨(by have k9 := tI_0; omega), (show (((0 : Int32).toInt = 0) ∨ ((0 : Int32).toInt = 1)) by have k9 := tI_0; omega)⟩ (g_psub (wc := [(a0, .inr (3, [.ref a2, .ref a3, .ref a4, .ref a5, .ref a6, .ref a7, .long y_4, .int x0, .long y2, .long y3])), (a1, .inr (1, [.ref a8, .ref a9, .ref a10, .int x1, .int x2, .int x3, .int x4, .int x5, .int x6, .int x7])), (a2, .inr (10, [.ref a11, .ref a12, .ref a13, .ref a14, .ref a15, .ref a16, .ref a17, .int x8])), (a7, .inl (cJ, 5, .inr (.inl g_6))), (a6, .inl (cI, 5, .inl f_7)), (a11, .inl (cJ, 25, .inr (.inl g1)))]) hP [0, 1, 2, 3, 4, 5] rfl) (hD.sub (ws' := [(a0, .inr (3, [.ref a2, .ref a3, .ref a4, .ref a5, .ref a6, .ref a7, .long y_4, .int x0, .long y2, .long y3])), (a1, .inr (1, [.ref a8, .ref a9, .ref a10, .int x1, .int x2, .int x3, .int x4, .int x5, .int x6, .int x7])), (a2, .inr (10, [.ref a11, .ref a12, .ref a13, .ref a14, .ref a15, .ref a16, .ref a17, .int x8])), (a7, .inl (cJ, 5, .inr (.inl g_6))), (a6, .inl (cI, 5, .inl f_7)), (a11, .inl (cJ, 25, .inr (.inl g1)))]) [0, 1, 2, 3, 4, 5] (by decide) rfl) hS
        ·
          refine lv_iconst (pc := 99) (v := 1) hx hb dX3_fallsTo_99 (by decide) ?_
          refine lv_goto (pc := 100) (tgt := 104) hx hb dX3_fallsTo_100 (by decide) ?_
          exact hret 1 ((fun _ => 0), (fun k => [f_7].getD k (fun _ => 0)), (fun k => [g_6].getD k (fun _ => 0)), (fun _ => 0), (fun k => [y_4].getD k 0)) dX3_fallsTo_104 ⟨(by have k9 := tI_1; omega), (show (((1 : Int32).toInt = 0) ∨ ((1 : Int32).toInt = 1)) by have k9 := tI_1; omega)⟩ (g_psub (wc := [(a0, .inr (3, [.ref a2, .ref a3, .ref a4, .ref a5, .ref a6, .ref a7, .long y_4, .int x0, .long y2, .long y3])), (a1, .inr (1, [.ref a8, .ref a9, .ref a10, .int x1, .int x2, .int x3, .int x4, .int x5, .int x6, .int x7])), (a2, .inr (10, [.ref a11, .ref a12, .ref a13, .ref a14, .ref a15, .ref a16, .ref a17, .int x8])), (a7, .inl (cJ, 5, .inr (.inl g_6))), (a6, .inl (cI, 5, .inl f_7)), (a11, .inl (cJ, 25, .inr (.inl g1)))]) hP [0, 1, 2, 3, 4, 5] rfl) (hD.sub (ws' := [(a0, .inr (3, [.ref a2, .ref a3, .ref a4, .ref a5, .ref a6, .ref a7, .long y_4, .int x0, .long y2, .long y3])), (a1, .inr (1, [.ref a8, .ref a9, .ref a10, .int x1, .int x2, .int x3, .int x4, .int x5, .int x6, .int x7])), (a2, .inr (10, [.ref a11, .ref a12, .ref a13, .ref a14, .ref a15, .ref a16, .ref a17, .int x8])), (a7, .inl (cJ, 5, .inr (.inl g_6))), (a6, .inl (cI, 5, .inl f_7)), (a11, .inl (cJ, 25, .inr (.inl g1)))]) [0, 1, 2, 3, 4, 5] (by decide) rfl) hS
      ·
        refine lv_aload_n (pc := 19) hx hb dX3_fallsTo_19 rfl (lv_at hl 2 rfl) ?_
        refine va_get (pc := 20) (ci := 3) (v := .long y_4) (C := RX3) (T := TX3) (N := 10) hx hb hts iX3 hown hK hP 0 rfl rfl 6 (by decide) (hts _ tw_355) (fun _ h9 => h9) rfl dX3_fallsTo_20 ?_
        refine lv_lload_n (pc := 23) hx hb dX3_fallsTo_23 rfl (lv_at hl 3 rfl) ?_
        refine b_lcmp_le (pc := 24) (tgt := 90) hx hb rfl rfl dX3_fallsTo_24 dX3_fallsTo_25 (by decide) (fun c_11 => ?_) (fun c_11 => ?_)
        ·
          refine lv_aload_n (pc := 90) hx hb dX3_fallsTo_90 rfl (lv_at hl 2 rfl) ?_
          refine va_get (pc := 91) (ci := 3) (v := .long y_4) (C := RX3) (T := TX3) (N := 10) hx hb hts iX3 hown hK hP 0 rfl rfl 6 (by decide) (hts _ tw_355) (fun _ h9 => h9) rfl dX3_fallsTo_91 ?_
          refine lv_lload_n (pc := 94) hx hb dX3_fallsTo_94 rfl (lv_at hl 3 rfl) ?_
          refine b_lcmp_gt (pc := 95) (tgt := 103) hx hb rfl rfl dX3_fallsTo_95 dX3_fallsTo_96 (by decide) (fun c_12 => ?_) (fun c_12 => ?_)
          ·
            refine lv_iconst (pc := 103) (v := 0) hx hb dX3_fallsTo_103 (by decide) ?_
            exact hret 0 ((fun _ => 0), (fun k => [f_7].getD k (fun _ => 0)), (fun k => [g_6].getD k (fun _ => 0)), (fun _ => 0), (fun k => [y_4].getD k 0)) dX3_fallsTo_104 ⟨(by have k9 := tI_0; omega), (show (((0 : Int32).toInt = 0) ∨ ((0 : Int32).toInt = 1)) by have k9 := tI_0; omega)⟩ (g_psub (wc := [(a0, .inr (3, [.ref a2, .ref a3, .ref a4, .ref a5, .ref a6, .ref a7, .long y_4, .int x0, .long y2, .long y3])), (a1, .inr (1, [.ref a8, .ref a9, .ref a10, .int x1, .int x2, .int x3, .int x4, .int x5, .int x6, .int x7])), (a2, .inr (10, [.ref a11, .ref a12, .ref a13, .ref a14, .ref a15, .ref a16, .ref a17, .int x8])), (a7, .inl (cJ, 5, .inr (.inl g_6))), (a6, .inl (cI, 5, .inl f_7)), (a11, .inl (cJ, 25, .inr (.inl g1)))]) hP [0, 1, 2, 3, 4, 5] rfl) (hD.sub (ws' := [(a0, .inr (3, [.ref a2, .ref a3, .ref a4, .ref a5, .ref a6, .ref a7, .long y_4, .int x0, .long y2, .long y3])), (a1, .inr (1, [.ref a8, .ref a9, .ref a10, .int x1, .int x2, .int x3, .int x4, .int x5, .int x6, .int x7])), (a2, .inr (10, [.ref a11, .ref a12, .ref a13, .ref a14, .ref a15, .ref a16, .ref a17, .int x8])), (a7, .inl (cJ, 5, .inr (.inl g_6))), (a6, .inl (cI, 5, .inl f_7)), (a11, .inl (cJ, 25, .inr (.inl g1)))]) [0, 1, 2, 3, 4, 5] (by decide) rfl) hS
          ·
            refine lv_iconst (pc := 99) (v := 1) hx hb dX3_fallsTo_99 (by decide) ?_
            refine lv_goto (pc := 100) (tgt := 104) hx hb dX3_fallsTo_100 (by decide) ?_
            exact hret 1 ((fun _ => 0), (fun k => [f_7].getD k (fun _ => 0)), (fun k => [g_6].getD k (fun _ => 0)), (fun _ => 0), (fun k => [y_4].getD k 0)) dX3_fallsTo_104 ⟨(by have k9 := tI_1; omega), (show (((1 : Int32).toInt = 0) ∨ ((1 : Int32).toInt = 1)) by have k9 := tI_1; omega)⟩ (g_psub (wc := [(a0, .inr (3, [.ref a2, .ref a3, .ref a4, .ref a5, .ref a6, .ref a7, .long y_4, .int x0, .long y2, .long y3])), (a1, .inr (1, [.ref a8, .ref a9, .ref a10, .int x1, .int x2, .int x3, .int x4, .int x5, .int x6, .int x7])), (a2, .inr (10, [.ref a11, .ref a12, .ref a13, .ref a14, .ref a15, .ref a16, .ref a17, .int x8])), (a7, .inl (cJ, 5, .inr (.inl g_6))), (a6, .inl (cI, 5, .inl f_7)), (a11, .inl (cJ, 25, .inr (.inl g1)))]) hP [0, 1, 2, 3, 4, 5] rfl) (hD.sub (ws' := [(a0, .inr (3, [.ref a2, .ref a3, .ref a4, .ref a5, .ref a6, .ref a7, .long y_4, .int x0, .long y2, .long y3])), (a1, .inr (1, [.ref a8, .ref a9, .ref a10, .int x1, .int x2, .int x3, .int x4, .int x5, .int x6, .int x7])), (a2, .inr (10, [.ref a11, .ref a12, .ref a13, .ref a14, .ref a15, .ref a16, .ref a17, .int x8])), (a7, .inl (cJ, 5, .inr (.inl g_6))), (a6, .inl (cI, 5, .inl f_7)), (a11, .inl (cJ, 25, .inr (.inl g1)))]) [0, 1, 2, 3, 4, 5] (by decide) rfl) hS
        ·
          refine lv_aload_n (pc := 28) hx hb dX3_fallsTo_28 rfl (lv_at hl 2 rfl) ?_
          refine va_get (pc := 29) (ci := 3) (v := .long y_4) (C := RX3) (T := TX3) (N := 10) hx hb hts iX3 hown hK hP 0 rfl rfl 6 (by decide) (hts _ tw_355) (fun _ h9 => h9) rfl dX3_fallsTo_29 ?_
          refine lv_lstore (pc := 32) (lv' := [(6, .long y_4), (5, .int x_2), (4, .int x_1), (0, .ref a0), (1, .long y0), (3, .ref a1)]) hx hb dX3_fallsTo_32 hl (by decide) rfl (fun ls hl => ?_)
          refine lv_iconst (pc := 34) (v := 0) hx hb dX3_fallsTo_34 (by decide) ?_
          refine lv_istore (pc := 35) (lv' := [(8, .int 0), (6, .long y_4), (5, .int x_2), (4, .int x_1), (0, .ref a0), (1, .long y0), (3, .ref a1)]) hx hb dX3_fallsTo_35 hl (by decide) rfl (fun ls hl => ?_)
          have lp_19 : ∀ (n : Nat) (x_13 : Int32) (y_15 : Int64) (f_18 : Nat → Int32) (g_17 : Nat → Int64) (H : Heap) (locs : List Loc) (ls : Array Slot), (0 ≤ x_13.toInt ∧ x_13.toInt ≤ 2147483647) → (2147483647 - x_13.toInt).toNat < n → va_P D gcl [(a0, .inr (3, [.ref a2, .ref a3, .ref a4, .ref a5, .ref a6, .ref a7, .long y_15, .int x0, .long y2, .long y3])), (a1, .inr (1, [.ref a8, .ref a9, .ref a10, .int x1, .int x2, .int x3, .int x4, .int x5, .int x6, .int x7])), (a2, .inr (10, [.ref a11, .ref a12, .ref a13, .ref a14, .ref a15, .ref a16, .ref a17, .int x8])), (a7, .inl (cJ, 5, .inr (.inl g_17))), (a6, .inl (cI, 5, .inl f_18)), (a11, .inl (cJ, 25, .inr (.inl g1)))] H → va_D A [(a0, .inr (3, [.ref a2, .ref a3, .ref a4, .ref a5, .ref a6, .ref a7, .long y_15, .int x0, .long y2, .long y3])), (a1, .inr (1, [.ref a8, .ref a9, .ref a10, .int x1, .int x2, .int x3, .int x4, .int x5, .int x6, .int x7])), (a2, .inr (10, [.ref a11, .ref a12, .ref a13, .ref a14, .ref a15, .ref a16, .ref a17, .int x8])), (a7, .inl (cJ, 5, .inr (.inl g_17))), (a6, .inl (cI, 5, .inl f_18)), (a11, .inl (cJ, 25, .inr (.inl g1)))] → va_S A s.heap H locs → lv_has ls 9 [(8, .int x_13), (6, .long y_4), (5, .int x_2), (4, .int x_1), (0, .ref a0), (1, .long y0), (3, .ref a1)] → W p l e ({ frames := 2, cells := 0, slots := 0, locals := 50 }) s m args below meth c H locs 0 0 Q (F0 m 37 ls []) := by
            intro n
            induction n with
            | zero => intro x_13 y_15 f_18 g_17 H locs ls hi_14 hmu; exact absurd hmu (Nat.not_lt_zero _)
            | succ n ih_lp_19 =>
              intro x_13 y_15 f_18 g_17 H locs ls hi_14 hmu_lp_19 hP hD hS hl
              have hi_16 := n_rngL y_15
              refine lv_iload (pc := 37) hx hb dX3_fallsTo_37 (lv_at hl 0 rfl) ?_
              refine lv_aload_n (pc := 39) hx hb dX3_fallsTo_39 rfl (lv_at hl 4 rfl) ?_
              refine va_get (pc := 40) (ci := 3) (v := .ref a2) (C := RX3) (T := TX3) (N := 10) hx hb hts iX3 hown hK hP 0 rfl rfl 0 (by decide) (hts _ tw_348) (fun _ h9 => h9) rfl dX3_fallsTo_40 ?_
              refine va_getN (pc := 43) (ci := 10) (v := .int x8) (C := RX10) (T := TX10) (N := 8) hx hb hts iX10 hown hK hP 2 rfl rfl 7 (by decide) (va_Nw.use rfl (hN _ tn_223)) (fun _ h9 => h9) rfl dX3_fallsTo_43 ?_
              refine b_icmp_gt (pc := 46) (tgt := 72) hx hb rfl rfl  dX3_fallsTo_46 (by decide) (fun c_20 => ?_) (fun c_20 => ?_)
              ·
                refine lv_aload_n (pc := 72) hx hb dX3_fallsTo_72 rfl (lv_at hl 4 rfl) ?_
                refine va_get (pc := 73) (ci := 3) (v := .long y_15) (C := RX3) (T := TX3) (N := 10) hx hb hts iX3 hown hK hP 0 rfl rfl 6 (by decide) (hts _ tw_355) (fun _ h9 => h9) rfl dX3_fallsTo_73 ?_
                refine lv_lload (pc := 76) hx hb dX3_fallsTo_76 (lv_at hl 1 rfl) ?_
                refine b_lcmp_ne (pc := 78) (tgt := 84) hx hb rfl rfl dX3_fallsTo_78 dX3_fallsTo_79 (by decide) (fun c_21 => ?_) (fun c_21 => ?_)
                ·
                  refine b_iinc (pc := 84) hx hb dX3_fallsTo_84 hl (k := 2) rfl rfl tI_1 (by omega) (by omega) (by decide) (fun x_22 ex_22 ls hl => ?_)
                  have hl : lv_has ls 9 [(5, .int x_22), (8, .int x_13), (6, .long y_4), (4, .int x_1), (0, .ref a0), (1, .long y0), (3, .ref a1)] := hl
                  refine lv_goto (pc := 87) (tgt := 11) hx hb dX3_fallsTo_87 (by decide) ?_
                  exact ih_lp_8 x_22 y_15 f_18 g_17 _ _ ls (by omega) (by omega) hP hD hS (lv_sub hl [0, 3, 4, 5, 6] rfl)
                ·
                  refine lv_iconst (pc := 82) (v := 0) hx hb dX3_fallsTo_82 (by decide) ?_
                  exact hret 0 ((fun _ => 0), (fun k => [f_18].getD k (fun _ => 0)), (fun k => [g_17].getD k (fun _ => 0)), (fun _ => 0), (fun k => [y_15].getD k 0)) dX3_fallsTo_83 ⟨(by have k9 := tI_0; omega), (show (((0 : Int32).toInt = 0) ∨ ((0 : Int32).toInt = 1)) by have k9 := tI_0; omega)⟩ (g_psub (wc := [(a0, .inr (3, [.ref a2, .ref a3, .ref a4, .ref a5, .ref a6, .ref a7, .long y_15, .int x0, .long y2, .long y3])), (a1, .inr (1, [.ref a8, .ref a9, .ref a10, .int x1, .int x2, .int x3, .int x4, .int x5, .int x6, .int x7])), (a2, .inr (10, [.ref a11, .ref a12, .ref a13, .ref a14, .ref a15, .ref a16, .ref a17, .int x8])), (a7, .inl (cJ, 5, .inr (.inl g_17))), (a6, .inl (cI, 5, .inl f_18)), (a11, .inl (cJ, 25, .inr (.inl g1)))]) hP [0, 1, 2, 3, 4, 5] rfl) (hD.sub (ws' := [(a0, .inr (3, [.ref a2, .ref a3, .ref a4, .ref a5, .ref a6, .ref a7, .long y_15, .int x0, .long y2, .long y3])), (a1, .inr (1, [.ref a8, .ref a9, .ref a10, .int x1, .int x2, .int x3, .int x4, .int x5, .int x6, .int x7])), (a2, .inr (10, [.ref a11, .ref a12, .ref a13, .ref a14, .ref a15, .ref a16, .ref a17, .int x8])), (a7, .inl (cJ, 5, .inr (.inl g_17))), (a6, .inl (cI, 5, .inl f_18)), (a11, .inl (cJ, 25, .inr (.inl g1)))]) [0, 1, 2, 3, 4, 5] (by decide) rfl) hS
              ·
                refine lv_aload_n (pc := 49) hx hb dX3_fallsTo_49 rfl (lv_at hl 4 rfl) ?_
                refine va_get (pc := 50) (ci := 3) (v := .long y_15) (C := RX3) (T := TX3) (N := 10) hx hb hts iX3 hown hK hP 0 rfl rfl 6 (by decide) (hts _ tw_355) (fun _ h9 => h9) rfl dX3_fallsTo_50 ?_
                refine lv_lload_n (pc := 53) hx hb dX3_fallsTo_53 rfl (lv_at hl 5 rfl) ?_
                refine b_lcmp_le (pc := 54) (tgt := 72) hx hb rfl rfl dX3_fallsTo_54 dX3_fallsTo_55 (by decide) (fun c_23 => ?_) (fun c_23 => ?_)
                ·
                  refine lv_aload_n (pc := 72) hx hb dX3_fallsTo_72 rfl (lv_at hl 4 rfl) ?_
                  refine va_get (pc := 73) (ci := 3) (v := .long y_15) (C := RX3) (T := TX3) (N := 10) hx hb hts iX3 hown hK hP 0 rfl rfl 6 (by decide) (hts _ tw_355) (fun _ h9 => h9) rfl dX3_fallsTo_73 ?_
                  refine lv_lload (pc := 76) hx hb dX3_fallsTo_76 (lv_at hl 1 rfl) ?_
                  refine b_lcmp_ne (pc := 78) (tgt := 84) hx hb rfl rfl dX3_fallsTo_78 dX3_fallsTo_79 (by decide) (fun c_24 => ?_) (fun c_24 => ?_)
                  ·
                    refine b_iinc (pc := 84) hx hb dX3_fallsTo_84 hl (k := 2) rfl rfl tI_1 (by omega) (by omega) (by decide) (fun x_25 ex_25 ls hl => ?_)
                    have hl : lv_has ls 9 [(5, .int x_25), (8, .int x_13), (6, .long y_4), (4, .int x_1), (0, .ref a0), (1, .long y0), (3, .ref a1)] := hl
                    refine lv_goto (pc := 87) (tgt := 11) hx hb dX3_fallsTo_87 (by decide) ?_
                    exact ih_lp_8 x_25 y_15 f_18 g_17 _ _ ls (by omega) (by omega) hP hD hS (lv_sub hl [0, 3, 4, 5, 6] rfl)
                  ·
                    refine lv_iconst (pc := 82) (v := 0) hx hb dX3_fallsTo_82 (by decide) ?_
                    exact hret 0 ((fun _ => 0), (fun k => [f_18].getD k (fun _ => 0)), (fun k => [g_17].getD k (fun _ => 0)), (fun _ => 0), (fun k => [y_15].getD k 0)) dX3_fallsTo_83 ⟨(by have k9 := tI_0; omega), (show (((0 : Int32).toInt = 0) ∨ ((0 : Int32).toInt = 1)) by have k9 := tI_0; omega)⟩ (g_psub (wc := [(a0, .inr (3, [.ref a2, .ref a3, .ref a4, .ref a5, .ref a6, .ref a7, .long y_15, .int x0, .long y2, .long y3])), (a1, .inr (1, [.ref a8, .ref a9, .ref a10, .int x1, .int x2, .int x3, .int x4, .int x5, .int x6, .int x7])), (a2, .inr (10, [.ref a11, .ref a12, .ref a13, .ref a14, .ref a15, .ref a16, .ref a17, .int x8])), (a7, .inl (cJ, 5, .inr (.inl g_17))), (a6, .inl (cI, 5, .inl f_18)), (a11, .inl (cJ, 25, .inr (.inl g1)))]) hP [0, 1, 2, 3, 4, 5] rfl) (hD.sub (ws' := [(a0, .inr (3, [.ref a2, .ref a3, .ref a4, .ref a5, .ref a6, .ref a7, .long y_15, .int x0, .long y2, .long y3])), (a1, .inr (1, [.ref a8, .ref a9, .ref a10, .int x1, .int x2, .int x3, .int x4, .int x5, .int x6, .int x7])), (a2, .inr (10, [.ref a11, .ref a12, .ref a13, .ref a14, .ref a15, .ref a16, .ref a17, .int x8])), (a7, .inl (cJ, 5, .inr (.inl g_17))), (a6, .inl (cI, 5, .inl f_18)), (a11, .inl (cJ, 25, .inr (.inl g1)))]) [0, 1, 2, 3, 4, 5] (by decide) rfl) hS
                ·
                  refine lv_aload_n (pc := 58) hx hb dX3_fallsTo_58 rfl (lv_at hl 4 rfl) ?_
                  refine lv_iload (pc := 59) hx hb dX3_fallsTo_59 (lv_at hl 0 rfl) ?_
                  refine lv_iload (pc := 61) hx hb dX3_fallsTo_61 (lv_at hl 3 rfl) ?_
                  refine gc_v (pc := 63) (wc := [(a0, .inr (3, [.ref a2, .ref a3, .ref a4, .ref a5, .ref a6, .ref a7, .long y_15, .int x0, .long y2, .long y3])), (a7, .inl (cJ, 5, .inr (.inl g_17))), (a6, .inl (cI, 5, .inl f_18)), (a2, .inr (10, [.ref a11, .ref a12, .ref a13, .ref a14, .ref a15, .ref a16, .ref a17, .int x8])), (a11, .inl (cJ, 25, .inr (.inl g1)))]) (wr := [(a1, .inr (1, [.ref a8, .ref a9, .ref a10, .int x1, .int x2, .int x3, .int x4, .int x5, .int x6, .int x7]))]) hP hD hS hA [0, 3, 4, 2, 5] [1] rfl rfl (by decide) (by decide) (by decide) (fun hPc hDc => va_runV (As := [.int x_13, .int x_1]) (rest := []) ⟨hx, hb, hml, hown, hts⟩ (k_X3_better l D cB cC cI cJ _ a0 a2 a3 a4 a5 a6 a7 a11 a12 a13 a14 a15 a16 a17 x_13 x_1 x0 x8 y_15 y2 y3 f_18 g_17 g1 (by  omega) (by  omega) (by  omega)) ⟨gcwB hts tw_1264 tw_12 tw_1261 hd_yX3_better ⟨Nat.le_of_ble_eq_true rfl, Nat.le_of_ble_eq_true rfl⟩, hts _ tw_1263, hts _ tp_51⟩ ⟨gblind, va_recv hK hPc (ci := 3) (q0 := 0) rfl rfl, (gpreS hPc hK hDc hN).2⟩ rfl rfl hl.1 rfl (lv_room (Nat.le_of_ble_eq_true rfl)) dX3_fallsTo_63 ⟨Nat.le_of_ble_eq_true rfl, Nat.le_of_ble_eq_true rfl⟩) (fun u_26 H locs hw_28 hP hD hS => ?_)
                  have hP : va_P D gcl [(a1, .inr (1, [.ref a8, .ref a9, .ref a10, .int x1, .int x2, .int x3, .int x4, .int x5, .int x6, .int x7])), (a0, .inr (3, [.ref a2, .ref a3, .ref a4, .ref a5, .ref a6, .ref a7, .long (u_26.2.2.2.2 0), .int x0, .long y2, .long y3])), (a7, .inl (cJ, 5, .inr (.inl (u_26.2.2.1 0)))), (a6, .inl (cI, 5, .inl (u_26.2.1 0))), (a2, .inr (10, [.ref a11, .ref a12, .ref a13, .ref a14, .ref a15, .ref a16, .ref a17, .int x8])), (a11, .inl (cJ, 25, .inr (.inl g1)))] H := hP
                  have hD : va_D A [(a1, .inr (1, [.ref a8, .ref a9, .ref a10, .int x1, .int x2, .int x3, .int x4, .int x5, .int x6, .int x7])), (a0, .inr (3, [.ref a2, .ref a3, .ref a4, .ref a5, .ref a6, .ref a7, .long (u_26.2.2.2.2 0), .int x0, .long y2, .long y3])), (a7, .inl (cJ, 5, .inr (.inl (u_26.2.2.1 0)))), (a6, .inl (cI, 5, .inl (u_26.2.1 0))), (a2, .inr (10, [.ref a11, .ref a12, .ref a13, .ref a14, .ref a15, .ref a16, .ref a17, .int x8])), (a11, .inl (cJ, 25, .inr (.inl g1)))] := hD
                  have ru_26_0 := n_rngL (u_26.2.2.2.2 0)
                  refine b_iinc (pc := 66) hx hb dX3_fallsTo_66 hl (k := 0) rfl rfl tI_1 (by omega) (by omega) (by decide) (fun x_29 ex_29 ls hl => ?_)
                  have hl : lv_has ls 9 [(8, .int x_29), (6, .long y_4), (5, .int x_2), (4, .int x_1), (0, .ref a0), (1, .long y0), (3, .ref a1)] := hl
                  refine lv_goto (pc := 69) (tgt := 37) hx hb dX3_fallsTo_69 (by decide) ?_
                  exact ih_lp_19 x_29 (u_26.2.2.2.2 0) (u_26.2.1 0) (u_26.2.2.1 0) _ _ ls (by omega) (by omega) (g_psub hP [1, 0, 4, 2, 3, 5] rfl) (hD.sub [1, 0, 4, 2, 3, 5] (by decide) rfl) hS (lv_sub hl [0, 1, 2, 3, 4, 5, 6] rfl)
          exact lp_19 _ 0 y_4 f_7 g_6 _ _ ls (by have k0 := tI_0; omega) (Nat.lt_succ_self _) hP hD hS (lv_sub hl [0, 1, 2, 3, 4, 5, 6] rfl)
  exact lp_8 _ 0 y1 f0 g0 _ _ ls (by have k0 := tI_0; omega) (Nat.lt_succ_self _) hP hD hS (lv_sub hl [0, 1, 2, 3, 4] rfl)
set_option maxHeartbeats 4000000 in
set_option maxRecDepth 100000 in
theorem k_X3_nextLetters (l : Launch) (D : va_G) (cB cC cI cJ : ClassId) (sz : Nat) (a0 a1 a2 a3 a4 a5 a6 a7 a8 a9 a10 a11 a12 a13 a14 a15 a16 a17 : Nat) (x0 x1 x2 x3 x4 x5 x6 x7 x8 : Int32) (y0 y1 y2 : Int64) (f0 : Nat → Int32) (g0 g1 : Nat → Int64) (h_x0 : (0 ≤ x0.toInt ∧ x0.toInt ≤ 1)) (h_x1 : (0 ≤ x1.toInt ∧ x1.toInt ≤ 4)) (h_x2 : ((-1) ≤ x2.toInt ∧ x2.toInt ≤ 8)) (h_x3 : ((-1) ≤ x3.toInt ∧ x3.toInt ≤ 5)) (h_x4 : ((-1) ≤ x4.toInt ∧ x4.toInt ≤ 6)) (h_x5 : (0 ≤ x5.toInt ∧ x5.toInt ≤ 6)) (h_x6 : (0 ≤ x6.toInt ∧ x6.toInt ≤ 16)) : Met l yX3_nextLetters (.code yX3_nextLetters cX3_nextLetters 3 none :: lw_gd) ({ frames := 1, cells := 0, slots := 0, locals := 25 }) (gPre D [(cB, .byte), (cC, .char), (cI, .int), (cJ, .long)] [.ref a0, .ref a1] [(a0, .inr (3, [.ref a2, .ref a3, .ref a4, .ref a5, .ref a6, .ref a7, .long y0, .int x0, .long y1, .long y2])), (a2, .inr (10, [.ref a8, .ref a9, .ref a10, .ref a11, .ref a12, .ref a13, .ref a14, .int x1])), (a5, .inl (cI, 5, .inl f0)), (a7, .inl (cJ, 5, .inr (.inl g0))), (a8, .inl (cJ, 25, .inr (.inl g1))), (a1, .inr (1, [.ref a15, .ref a16, .ref a17, .int x2, .int x3, .int x4, .int x5, .int x6, .int x7, .int x8]))] sz) (va_Qv (fun u => True) (gB D (va_A [(a0, .inr (3, [.ref a2, .ref a3, .ref a4, .ref a5, .ref a6, .ref a7, .long y0, .int x0, .long y1, .long y2])), (a2, .inr (10, [.ref a8, .ref a9, .ref a10, .ref a11, .ref a12, .ref a13, .ref a14, .int x1])), (a5, .inl (cI, 5, .inl f0)), (a7, .inl (cJ, 5, .inr (.inl g0))), (a8, .inl (cJ, 25, .inr (.inl g1))), (a1, .inr (1, [.ref a15, .ref a16, .ref a17, .int x2, .int x3, .int x4, .int x5, .int x6, .int x7, .int x8]))] sz) (fun u : gEx => [(a0, .inr (3, [.ref a2, .ref a3, .ref a4, .ref a5, .ref a6, .ref a7, .long (u.2.2.2.2 0), .int x0, .long y1, .long y2])), (a2, .inr (10, [.ref a8, .ref a9, .ref a10, .ref a11, .ref a12, .ref a13, .ref a14, .int x1])), (a5, .inl (cI, 5, .inl (u.2.1 0))), (a7, .inl (cJ, 5, .inr (.inl (u.2.2.1 0)))), (a8, .inl (cJ, 25, .inr (.inl g1))), (a1, .inr (1, [.ref a15, .ref a16, .ref a17, .int x2, .int x3, .int x4, .int x5, .int x6, .int x7, .int x8]))])) (va_A [(a0, .inr (3, [.ref a2, .ref a3, .ref a4, .ref a5, .ref a6, .ref a7, .long y0, .int x0, .long y1, .long y2])), (a2, .inr (10, [.ref a8, .ref a9, .ref a10, .ref a11, .ref a12, .ref a13, .ref a14, .int x1])), (a5, .inl (cI, 5, .inl f0)), (a7, .inl (cJ, 5, .inr (.inl g0))), (a8, .inl (cJ, 25, .inr (.inl g1))), (a1, .inr (1, [.ref a15, .ref a16, .ref a17, .int x2, .int x3, .int x4, .int x5, .int x6, .int x7, .int x8]))] sz)) 0 0 (va_A [(a0, .inr (3, [.ref a2, .ref a3, .ref a4, .ref a5, .ref a6, .ref a7, .long y0, .int x0, .long y1, .long y2])), (a2, .inr (10, [.ref a8, .ref a9, .ref a10, .ref a11, .ref a12, .ref a13, .ref a14, .int x1])), (a5, .inl (cI, 5, .inl f0)), (a7, .inl (cJ, 5, .inr (.inl g0))), (a8, .inl (cJ, 25, .inr (.inl g1))), (a1, .inr (1, [.ref a15, .ref a16, .ref a17, .int x2, .int x3, .int x4, .int x5, .int x6, .int x7, .int x8]))] sz) := by
  refine gOf_v (by decide +kernel) (Nat.le_of_ble_eq_true rfl) ?_
  intro p e s m args below meth c ls A Q hx hb hts hown hml hN hK hP hD hA hl hret
  have hown : s.vm.findClass RX3 = some m.cls := hown
  have hS : va_S A s.heap s.heap [] := va_S.rf
  have hP : va_P D gcl [(a0, .inr (3, [.ref a2, .ref a3, .ref a4, .ref a5, .ref a6, .ref a7, .long y0, .int x0, .long y1, .long y2])), (a2, .inr (10, [.ref a8, .ref a9, .ref a10, .ref a11, .ref a12, .ref a13, .ref a14, .int x1])), (a5, .inl (cI, 5, .inl f0)), (a7, .inl (cJ, 5, .inr (.inl g0))), (a8, .inl (cJ, 25, .inr (.inl g1))), (a1, .inr (1, [.ref a15, .ref a16, .ref a17, .int x2, .int x3, .int x4, .int x5, .int x6, .int x7, .int x8]))] s.heap := hP
  have hl : lv_has ls 3 [(0, .ref a0), (1, .ref a1)] := hl
  have ry0 := n_rngL y0
  have ry1 := n_rngL y1
  have ry2 := n_rngL y2
  have rx7 := n_rng x7
  have rx8 := n_rng x8
  refine lv_aload_n (pc := 0) hx hb dX3_nextLetters_0 rfl (lv_at hl 0 rfl) ?_
  refine va_get (pc := 1) (ci := 3) (v := .ref a2) (C := RX3) (T := TX3) (N := 10) hx hb hts iX3 hown hK hP 0 rfl rfl 0 (by decide) (hts _ tw_348) (fun _ h9 => h9) rfl dX3_nextLetters_1 ?_
  refine va_getN (pc := 4) (ci := 10) (v := .int x1) (C := RX10) (T := TX10) (N := 8) hx hb hts iX10 hown hK hP 1 rfl rfl 7 (by decide) (va_Nw.use rfl (hN _ tn_223)) (fun _ h9 => h9) rfl dX3_nextLetters_4 ?_
  refine lv_istore_n (pc := 7) (lv' := [(2, .int x1), (0, .ref a0), (1, .ref a1)]) hx hb dX3_nextLetters_7 rfl hl (by decide) rfl (fun ls hl => ?_)
  have lp_7 : ∀ (n : Nat) (x_1 : Int32) (y_3 : Int64) (f_5 : Nat → Int32) (g_6 : Nat → Int64) (H : Heap) (locs : List Loc) (ls : Array Slot), (0 ≤ x_1.toInt ∧ x_1.toInt ≤ 4) → (x_1.toInt + 2147483648).toNat < n → va_P D gcl [(a0, .inr (3, [.ref a2, .ref a3, .ref a4, .ref a5, .ref a6, .ref a7, .long y_3, .int x0, .long y1, .long y2])), (a2, .inr (10, [.ref a8, .ref a9, .ref a10, .ref a11, .ref a12, .ref a13, .ref a14, .int x1])), (a5, .inl (cI, 5, .inl f_5)), (a7, .inl (cJ, 5, .inr (.inl g_6))), (a8, .inl (cJ, 25, .inr (.inl g1))), (a1, .inr (1, [.ref a15, .ref a16, .ref a17, .int x2, .int x3, .int x4, .int x5, .int x6, .int x7, .int x8]))] H → va_D A [(a0, .inr (3, [.ref a2, .ref a3, .ref a4, .ref a5, .ref a6, .ref a7, .long y_3, .int x0, .long y1, .long y2])), (a2, .inr (10, [.ref a8, .ref a9, .ref a10, .ref a11, .ref a12, .ref a13, .ref a14, .int x1])), (a5, .inl (cI, 5, .inl f_5)), (a7, .inl (cJ, 5, .inr (.inl g_6))), (a8, .inl (cJ, 25, .inr (.inl g1))), (a1, .inr (1, [.ref a15, .ref a16, .ref a17, .int x2, .int x3, .int x4, .int x5, .int x6, .int x7, .int x8]))] → va_S A s.heap H locs → lv_has ls 3 [(2, .int x_1), (0, .ref a0), (1, .ref a1)] → W p l e ({ frames := 1, cells := 0, slots := 0, locals := 25 }) s m args below meth c H locs 0 0 Q (F0 m 8 ls []) := by
    intro n
    induction n with
    | zero => intro x_1 y_3 f_5 g_6 H locs ls hi_2 hmu; exact absurd hmu (Nat.not_lt_zero _)
    | succ n ih_lp_7 =>
      intro x_1 y_3 f_5 g_6 H locs ls hi_2 hmu_lp_7 hP hD hS hl
      have hi_4 := n_rngL y_3
      refine lv_iload_n (pc := 8) hx hb dX3_nextLetters_8 rfl (lv_at hl 0 rfl) ?_
      refine b_if_le (pc := 9) (tgt := 59) hx hb rfl  dX3_nextLetters_9 (by decide) (fun c_8 => ?_) (fun c_8 => ?_)
      ·
        refine lv_aload_n (pc := 59) hx hb dX3_nextLetters_59 rfl (lv_at hl 1 rfl) ?_
        refine va_get (pc := 60) (ci := 3) (v := .ref a5) (C := RX3) (T := TX3) (N := 10) hx hb hts iX3 hown hK hP 0 rfl rfl 3 (by decide) (hts _ tw_352) (fun _ h9 => h9) rfl dX3_nextLetters_60 ?_
        refine lv_iload_n (pc := 63) hx hb dX3_nextLetters_63 rfl (lv_at hl 0 rfl) ?_
        refine lv_dup2_11 (pc := 64) hx hb dX3_nextLetters_64 rfl rfl ?_
        refine va_iald (pc := 65) hx hb hK hP 2 2 rfl rfl (n_in rfl (by omega) (by omega)) dX3_nextLetters_65 ?_
        refine lv_topi (fun x_9 ex_9 => ?_)
        have rx_9 := n_rng x_9
        refine lv_iconst (pc := 66) (v := 2) hx hb dX3_nextLetters_66 (by decide) ?_
        refine lv_iadd (pc := 67) hx hb dX3_nextLetters_67 ?_
        refine lv_topi (fun x_10 _ => ?_)
        have rx_10 := n_rng x_10
        refine g_iastore (pc := 68) hx hb hK hP hD hS 2 2 rfl rfl (n_in rfl (by omega) (by omega)) dX3_nextLetters_68 (fun f_11 H locs hP hD hS => ?_)
        have hP : va_P D gcl [(a0, .inr (3, [.ref a2, .ref a3, .ref a4, .ref a5, .ref a6, .ref a7, .long y_3, .int x0, .long y1, .long y2])), (a2, .inr (10, [.ref a8, .ref a9, .ref a10, .ref a11, .ref a12, .ref a13, .ref a14, .int x1])), (a5, .inl (cI, 5, .inl f_11)), (a7, .inl (cJ, 5, .inr (.inl g_6))), (a8, .inl (cJ, 25, .inr (.inl g1))), (a1, .inr (1, [.ref a15, .ref a16, .ref a17, .int x2, .int x3, .int x4, .int x5, .int x6, .int x7, .int x8]))] H := hP
        have hD : va_D A [(a0, .inr (3, [.ref a2, .ref a3, .ref a4, .ref a5, .ref a6, .ref a7, .long y_3, .int x0, .long y1, .long y2])), (a2, .inr (10, [.ref a8, .ref a9, .ref a10, .ref a11, .ref a12, .ref a13, .ref a14, .int x1])), (a5, .inl (cI, 5, .inl f_11)), (a7, .inl (cJ, 5, .inr (.inl g_6))), (a8, .inl (cJ, 25, .inr (.inl g1))), (a1, .inr (1, [.ref a15, .ref a16, .ref a17, .int x2, .int x3, .int x4, .int x5, .int x6, .int x7, .int x8]))] := hD
        refine lv_aload_n (pc := 69) hx hb dX3_nextLetters_69 rfl (lv_at hl 1 rfl) ?_
        refine lv_iload_n (pc := 70) hx hb dX3_nextLetters_70 rfl (lv_at hl 0 rfl) ?_
        refine lv_ldc2 (pc := 71) hx hb hown (hts _ tw_1255) dX3_nextLetters_71 ?_
        refine gc_v (pc := 74) (wc := [(a0, .inr (3, [.ref a2, .ref a3, .ref a4, .ref a5, .ref a6, .ref a7, .long y_3, .int x0, .long y1, .long y2])), (a7, .inl (cJ, 5, .inr (.inl g_6))), (a2, .inr (10, [.ref a8, .ref a9, .ref a10, .ref a11, .ref a12, .ref a13, .ref a14, .int x1])), (a8, .inl (cJ, 25, .inr (.inl g1)))]) (wr := [(a5, .inl (cI, 5, .inl f_11)), (a1, .inr (1, [.ref a15, .ref a16, .ref a17, .int x2, .int x3, .int x4, .int x5, .int x6, .int x7, .int x8]))]) hP hD hS hA [0, 3, 1, 4] [2, 5] rfl rfl (by decide) (by decide) (by decide) (fun hPc hDc => va_runV (As := [.int x_1, .long 2]) (rest := []) ⟨hx, hb, hml, hown, hts⟩ (k_X3_move l D cB cC cI cJ _ a0 a2 a3 a4 a5 a6 a7 a8 a9 a10 a11 a12 a13 a14 x_1 x0 x1 2 y_3 y1 y2 g_6 g1 (by have k0 := tL_2; omega) (by have k0 := tL_2; omega) (by have k0 := tL_2; omega)) ⟨gcwB hts tw_1254 tw_12 tw_1251 hd_yX3_move ⟨Nat.le_of_ble_eq_true rfl, Nat.le_of_ble_eq_true rfl⟩, hts _ tw_1253, hts _ tp_49⟩ ⟨gblind, va_recv hK hPc (ci := 3) (q0 := 0) rfl rfl, (gpreS hPc hK hDc hN).2⟩ rfl rfl hl.1 rfl (lv_room (Nat.le_of_ble_eq_true rfl)) dX3_nextLetters_74 ⟨Nat.le_of_ble_eq_true rfl, Nat.le_of_ble_eq_true rfl⟩) (fun u_12 H locs hw_14 hP hD hS => ?_)
        have hP : va_P D gcl [(a5, .inl (cI, 5, .inl f_11)), (a1, .inr (1, [.ref a15, .ref a16, .ref a17, .int x2, .int x3, .int x4, .int x5, .int x6, .int x7, .int x8])), (a0, .inr (3, [.ref a2, .ref a3, .ref a4, .ref a5, .ref a6, .ref a7, .long (u_12.2.2.2.2 0), .int x0, .long y1, .long y2])), (a7, .inl (cJ, 5, .inr (.inl (u_12.2.2.1 0)))), (a2, .inr (10, [.ref a8, .ref a9, .ref a10, .ref a11, .ref a12, .ref a13, .ref a14, .int x1])), (a8, .inl (cJ, 25, .inr (.inl g1)))] H := hP
        have hD : va_D A [(a5, .inl (cI, 5, .inl f_11)), (a1, .inr (1, [.ref a15, .ref a16, .ref a17, .int x2, .int x3, .int x4, .int x5, .int x6, .int x7, .int x8])), (a0, .inr (3, [.ref a2, .ref a3, .ref a4, .ref a5, .ref a6, .ref a7, .long (u_12.2.2.2.2 0), .int x0, .long y1, .long y2])), (a7, .inl (cJ, 5, .inr (.inl (u_12.2.2.1 0)))), (a2, .inr (10, [.ref a8, .ref a9, .ref a10, .ref a11, .ref a12, .ref a13, .ref a14, .int x1])), (a8, .inl (cJ, 25, .inr (.inl g1)))] := hD
        have ru_12_0 := n_rngL (u_12.2.2.2.2 0)
        exact hret ((fun _ => 0), (fun k => [f_11].getD k (fun _ => 0)), (fun k => [(u_12.2.2.1 0)].getD k (fun _ => 0)), (fun _ => 0), (fun k => [(u_12.2.2.2.2 0)].getD k 0)) dX3_nextLetters_77 trivial (g_psub (wc := [(a0, .inr (3, [.ref a2, .ref a3, .ref a4, .ref a5, .ref a6, .ref a7, .long (u_12.2.2.2.2 0), .int x0, .long y1, .long y2])), (a2, .inr (10, [.ref a8, .ref a9, .ref a10, .ref a11, .ref a12, .ref a13, .ref a14, .int x1])), (a5, .inl (cI, 5, .inl f_11)), (a7, .inl (cJ, 5, .inr (.inl (u_12.2.2.1 0)))), (a8, .inl (cJ, 25, .inr (.inl g1))), (a1, .inr (1, [.ref a15, .ref a16, .ref a17, .int x2, .int x3, .int x4, .int x5, .int x6, .int x7, .int x8]))]) hP [2, 4, 0, 3, 5, 1] rfl) (hD.sub (ws' := [(a0, .inr (3, [.ref a2, .ref a3, .ref a4, .ref a5, .ref a6, .ref a7, .long (u_12.2.2.2.2 0), .int x0, .long y1, .long y2])), (a2, .inr (10, [.ref a8, .ref a9, .ref a10, .ref a11, .ref a12, .ref a13, .ref a14, .int x1])), (a5, .inl (cI, 5, .inl f_11)), (a7, .inl (cJ, 5, .inr (.inl (u_12.2.2.1 0)))), (a8, .inl (cJ, 25, .inr (.inl g1))), (a1, .inr (1, [.ref a15, .ref a16, .ref a17, .int x2, .int x3, .int x4, .int x5, .int x6, .int x7, .int x8]))]) [2, 4, 0, 3, 5, 1] (by decide) rfl) hS
      ·
        refine lv_aload_n (pc := 12) hx hb dX3_nextLetters_12 rfl (lv_at hl 1 rfl) ?_
        refine va_get (pc := 13) (ci := 3) (v := .ref a5) (C := RX3) (T := TX3) (N := 10) hx hb hts iX3 hown hK hP 0 rfl rfl 3 (by decide) (hts _ tw_352) (fun _ h9 => h9) rfl dX3_nextLetters_13 ?_
        refine lv_iload_n (pc := 16) hx hb dX3_nextLetters_16 rfl (lv_at hl 0 rfl) ?_
        refine va_iald (pc := 17) hx hb hK hP 2 2 rfl rfl (n_in rfl (by omega) (by omega)) dX3_nextLetters_17 ?_
        refine lv_topi (fun x_15 ex_15 => ?_)
        have rx_15 := n_rng x_15
        refine lv_aload_n (pc := 18) hx hb dX3_nextLetters_18 rfl (lv_at hl 2 rfl) ?_
        refine va_getN (pc := 19) (ci := 1) (v := .int x2) (C := RX1) (T := TX1) (N := 10) hx hb hts iX1 hown hK hP 5 rfl rfl 3 (by decide) (va_Nw.use rfl (hN _ tn_113)) (fun _ h9 => h9) rfl dX3_nextLetters_19 ?_
        refine lv_iconst (pc := 22) (v := 1) hx hb dX3_nextLetters_22 (by decide) ?_
        refine b_isub (pc := 23) hx hb rfl tI_1 (by omega) (by omega) dX3_nextLetters_23 (fun x_16 ex_16 => ?_)
        refine b_icmp_ne (pc := 24) (tgt := 59) hx hb rfl rfl  dX3_nextLetters_24 (by decide) (fun c_17 => ?_) (fun c_17 => ?_)
        ·
          refine lv_aload_n (pc := 59) hx hb dX3_nextLetters_59 rfl (lv_at hl 1 rfl) ?_
          refine va_get (pc := 60) (ci := 3) (v := .ref a5) (C := RX3) (T := TX3) (N := 10) hx hb hts iX3 hown hK hP 0 rfl rfl 3 (by decide) (hts _ tw_352) (fun _ h9 => h9) rfl dX3_nextLetters_60 ?_
          refine lv_iload_n (pc := 63) hx hb dX3_nextLetters_63 rfl (lv_at hl 0 rfl) ?_
          refine lv_dup2_11 (pc := 64) hx hb dX3_nextLetters_64 rfl rfl ?_
          refine va_iald (pc := 65) hx hb hK hP 2 2 rfl rfl (n_in rfl (by omega) (by omega)) dX3_nextLetters_65 ?_
          refine gI (y := x_15) ex_15.symm ?_
          refine lv_iconst (pc := 66) (v := 2) hx hb dX3_nextLetters_66 (by decide) ?_
          refine lv_iadd (pc := 67) hx hb dX3_nextLetters_67 ?_
          refine lv_topi (fun x_18 _ => ?_)
          have rx_18 := n_rng x_18
          refine g_iastore (pc := 68) hx hb hK hP hD hS 2 2 rfl rfl (n_in rfl (by omega) (by omega)) dX3_nextLetters_68 (fun f_19 H locs hP hD hS => ?_)
          have hP : va_P D gcl [(a0, .inr (3, [.ref a2, .ref a3, .ref a4, .ref a5, .ref a6, .ref a7, .long y_3, .int x0, .long y1, .long y2])), (a2, .inr (10, [.ref a8, .ref a9, .ref a10, .ref a11, .ref a12, .ref a13, .ref a14, .int x1])), (a5, .inl (cI, 5, .inl f_19)), (a7, .inl (cJ, 5, .inr (.inl g_6))), (a8, .inl (cJ, 25, .inr (.inl g1))), (a1, .inr (1, [.ref a15, .ref a16, .ref a17, .int x2, .int x3, .int x4, .int x5, .int x6, .int x7, .int x8]))] H := hP
          have hD : va_D A [(a0, .inr (3, [.ref a2, .ref a3, .ref a4, .ref a5, .ref a6, .ref a7, .long y_3, .int x0, .long y1, .long y2])), (a2, .inr (10, [.ref a8, .ref a9, .ref a10, .ref a11, .ref a12, .ref a13, .ref a14, .int x1])), (a5, .inl (cI, 5, .inl f_19)), (a7, .inl (cJ, 5, .inr (.inl g_6))), (a8, .inl (cJ, 25, .inr (.inl g1))), (a1, .inr (1, [.ref a15, .ref a16, .ref a17, .int x2, .int x3, .int x4, .int x5, .int x6, .int x7, .int x8]))] := hD
          refine lv_aload_n (pc := 69) hx hb dX3_nextLetters_69 rfl (lv_at hl 1 rfl) ?_
          refine lv_iload_n (pc := 70) hx hb dX3_nextLetters_70 rfl (lv_at hl 0 rfl) ?_
          refine lv_ldc2 (pc := 71) hx hb hown (hts _ tw_1255) dX3_nextLetters_71 ?_
          refine gc_v (pc := 74) (wc := [(a0, .inr (3, [.ref a2, .ref a3, .ref a4, .ref a5, .ref a6, .ref a7, .long y_3, .int x0, .long y1, .long y2])), (a7, .inl (cJ, 5, .inr (.inl g_6))), (a2, .inr (10, [.ref a8, .ref a9, .ref a10, .ref a11, .ref a12, .ref a13, .ref a14, .int x1])), (a8, .inl (cJ, 25, .inr (.inl g1)))]) (wr := [(a5, .inl (cI, 5, .inl f_19)), (a1, .inr (1, [.ref a15, .ref a16, .ref a17, .int x2, .int x3, .int x4, .int x5, .int x6, .int x7, .int x8]))]) hP hD hS hA [0, 3, 1, 4] [2, 5] rfl rfl (by decide) (by decide) (by decide) (fun hPc hDc => va_runV (As := [.int x_1, .long 2]) (rest := []) ⟨hx, hb, hml, hown, hts⟩ (k_X3_move l D cB cC cI cJ _ a0 a2 a3 a4 a5 a6 a7 a8 a9 a10 a11 a12 a13 a14 x_1 x0 x1 2 y_3 y1 y2 g_6 g1 (by have k0 := tL_2; omega) (by have k0 := tL_2; omega) (by have k0 := tL_2; omega)) ⟨gcwB hts tw_1254 tw_12 tw_1251 hd_yX3_move ⟨Nat.le_of_ble_eq_true rfl, Nat.le_of_ble_eq_true rfl⟩, hts _ tw_1253, hts _ tp_49⟩ ⟨gblind, va_recv hK hPc (ci := 3) (q0 := 0) rfl rfl, (gpreS hPc hK hDc hN).2⟩ rfl rfl hl.1 rfl (lv_room (Nat.le_of_ble_eq_true rfl)) dX3_nextLetters_74 ⟨Nat.le_of_ble_eq_true rfl, Nat.le_of_ble_eq_true rfl⟩) (fun u_20 H locs hw_22 hP hD hS => ?_)
          have hP : va_P D gcl [(a5, .inl (cI, 5, .inl f_19)), (a1, .inr (1, [.ref a15, .ref a16, .ref a17, .int x2, .int x3, .int x4, .int x5, .int x6, .int x7, .int x8])), (a0, .inr (3, [.ref a2, .ref a3, .ref a4, .ref a5, .ref a6, .ref a7, .long (u_20.2.2.2.2 0), .int x0, .long y1, .long y2])), (a7, .inl (cJ, 5, .inr (.inl (u_20.2.2.1 0)))), (a2, .inr (10, [.ref a8, .ref a9, .ref a10, .ref a11, .ref a12, .ref a13, .ref a14, .int x1])), (a8, .inl (cJ, 25, .inr (.inl g1)))] H := hP
          have hD : va_D A [(a5, .inl (cI, 5, .inl f_19)), (a1, .inr (1, [.ref a15, .ref a16, .ref a17, .int x2, .int x3, .int x4, .int x5, .int x6, .int x7, .int x8])), (a0, .inr (3, [.ref a2, .ref a3, .ref a4, .ref a5, .ref a6, .ref a7, .long (u_20.2.2.2.2 0), .int x0, .long y1, .long y2])), (a7, .inl (cJ, 5, .inr (.inl (u_20.2.2.1 0)))), (a2, .inr (10, [.ref a8, .ref a9, .ref a10, .ref a11, .ref a12, .ref a13, .ref a14, .int x1])), (a8, .inl (cJ, 25, .inr (.inl g1)))] := hD
          have ru_20_0 := n_rngL (u_20.2.2.2.2 0)
          exact hret ((fun _ => 0), (fun k => [f_19].getD k (fun _ => 0)), (fun k => [(u_20.2.2.1 0)].getD k (fun _ => 0)), (fun _ => 0), (fun k => [(u_20.2.2.2.2 0)].getD k 0)) dX3_nextLetters_77 trivial (g_psub (wc := [(a0, .inr (3, [.ref a2, .ref a3, .ref a4, .ref a5, .ref a6, .ref a7, .long (u_20.2.2.2.2 0), .int x0, .long y1, .long y2])), (a2, .inr (10, [.ref a8, .ref a9, .ref a10, .ref a11, .ref a12, .ref a13, .ref a14, .int x1])), (a5, .inl (cI, 5, .inl f_19)), (a7, .inl (cJ, 5, .inr (.inl (u_20.2.2.1 0)))), (a8, .inl (cJ, 25, .inr (.inl g1))), (a1, .inr (1, [.ref a15, .ref a16, .ref a17, .int x2, .int x3, .int x4, .int x5, .int x6, .int x7, .int x8]))]) hP [2, 4, 0, 3, 5, 1] rfl) (hD.sub (ws' := [(a0, .inr (3, [.ref a2, .ref a3, .ref a4, .ref a5, .ref a6, .ref a7, .long (u_20.2.2.2.2 0), .int x0, .long y1, .long y2])), (a2, .inr (10, [.ref a8, .ref a9, .ref a10, .ref a11, .ref a12, .ref a13, .ref a14, .int x1])), (a5, .inl (cI, 5, .inl f_19)), (a7, .inl (cJ, 5, .inr (.inl (u_20.2.2.1 0)))), (a8, .inl (cJ, 25, .inr (.inl g1))), (a1, .inr (1, [.ref a15, .ref a16, .ref a17, .int x2, .int x3, .int x4, .int x5, .int x6, .int x7, .int x8]))]) [2, 4, 0, 3, 5, 1] (by decide) rfl) hS
        ·
          refine lv_aload_n (pc := 27) hx hb dX3_nextLetters_27 rfl (lv_at hl 1 rfl) ?_
          refine va_get (pc := 28) (ci := 3) (v := .ref a5) (C := RX3) (T := TX3) (N := 10) hx hb hts iX3 hown hK hP 0 rfl rfl 3 (by decide) (hts _ tw_352) (fun _ h9 => h9) rfl dX3_nextLetters_28 ?_
          refine lv_iload_n (pc := 31) hx hb dX3_nextLetters_31 rfl (lv_at hl 0 rfl) ?_
          refine lv_iconst (pc := 32) (v := 1) hx hb dX3_nextLetters_32 (by decide) ?_
          refine lv_aload_n (pc := 33) hx hb dX3_nextLetters_33 rfl (lv_at hl 2 rfl) ?_
          refine va_getN (pc := 34) (ci := 1) (v := .int x2) (C := RX1) (T := TX1) (N := 10) hx hb hts iX1 hown hK hP 5 rfl rfl 3 (by decide) (va_Nw.use rfl (hN _ tn_113)) (fun _ h9 => h9) rfl dX3_nextLetters_34 ?_
          refine b_isub (pc := 37) hx hb tI_1 rfl (by omega) (by omega) dX3_nextLetters_37 (fun x_23 ex_23 => ?_)
          refine g_iastore (pc := 38) hx hb hK hP hD hS 2 2 rfl rfl (n_in rfl (by omega) (by omega)) dX3_nextLetters_38 (fun f_24 H locs hP hD hS => ?_)
          have hP : va_P D gcl [(a0, .inr (3, [.ref a2, .ref a3, .ref a4, .ref a5, .ref a6, .ref a7, .long y_3, .int x0, .long y1, .long y2])), (a2, .inr (10, [.ref a8, .ref a9, .ref a10, .ref a11, .ref a12, .ref a13, .ref a14, .int x1])), (a5, .inl (cI, 5, .inl f_24)), (a7, .inl (cJ, 5, .inr (.inl g_6))), (a8, .inl (cJ, 25, .inr (.inl g1))), (a1, .inr (1, [.ref a15, .ref a16, .ref a17, .int x2, .int x3, .int x4, .int x5, .int x6, .int x7, .int x8]))] H := hP
          have hD : va_D A [(a0, .inr (3, [.ref a2, .ref a3, .ref a4, .ref a5, .ref a6, .ref a7, .long y_3, .int x0, .long y1, .long y2])), (a2, .inr (10, [.ref a8, .ref a9, .ref a10, .ref a11, .ref a12, .ref a13, .ref a14, .int x1])), (a5, .inl (cI, 5, .inl f_24)), (a7, .inl (cJ, 5, .inr (.inl g_6))), (a8, .inl (cJ, 25, .inr (.inl g1))), (a1, .inr (1, [.ref a15, .ref a16, .ref a17, .int x2, .int x3, .int x4, .int x5, .int x6, .int x7, .int x8]))] := hD
          refine lv_aload_n (pc := 39) hx hb dX3_nextLetters_39 rfl (lv_at hl 1 rfl) ?_
          refine lv_iload_n (pc := 40) hx hb dX3_nextLetters_40 rfl (lv_at hl 0 rfl) ?_
          refine lv_iconst (pc := 41) (v := 2) hx hb dX3_nextLetters_41 (by decide) ?_
          refine lv_aload_n (pc := 42) hx hb dX3_nextLetters_42 rfl (lv_at hl 1 rfl) ?_
          refine va_get (pc := 43) (ci := 3) (v := .ref a5) (C := RX3) (T := TX3) (N := 10) hx hb hts iX3 hown hK hP 0 rfl rfl 3 (by decide) (hts _ tw_352) (fun _ h9 => h9) rfl dX3_nextLetters_43 ?_
          refine lv_iload_n (pc := 46) hx hb dX3_nextLetters_46 rfl (lv_at hl 0 rfl) ?_
          refine va_iald (pc := 47) hx hb hK hP 2 2 rfl rfl (n_in rfl (by omega) (by omega)) dX3_nextLetters_47 ?_
          refine lv_topi (fun x_25 ex_25 => ?_)
          have rx_25 := n_rng x_25
          refine lv_imul (pc := 48) hx hb dX3_nextLetters_48 ?_
          refine lv_topi (fun x_26 _ => ?_)
          have rx_26 := n_rng x_26
          refine b_i2l (pc := 49) hx hb rfl dX3_nextLetters_49 (fun y_27 ey_27 => ?_)
          have ry_27 := n_rng x_26
          refine gc_v (pc := 50) (wc := [(a0, .inr (3, [.ref a2, .ref a3, .ref a4, .ref a5, .ref a6, .ref a7, .long y_3, .int x0, .long y1, .long y2])), (a7, .inl (cJ, 5, .inr (.inl g_6))), (a2, .inr (10, [.ref a8, .ref a9, .ref a10, .ref a11, .ref a12, .ref a13, .ref a14, .int x1])), (a8, .inl (cJ, 25, .inr (.inl g1)))]) (wr := [(a5, .inl (cI, 5, .inl f_24)), (a1, .inr (1, [.ref a15, .ref a16, .ref a17, .int x2, .int x3, .int x4, .int x5, .int x6, .int x7, .int x8]))]) hP hD hS hA [0, 3, 1, 4] [2, 5] rfl rfl (by decide) (by decide) (by decide) (fun hPc hDc => va_runV (As := [.int x_1, .long y_27]) (rest := []) ⟨hx, hb, hml, hown, hts⟩ (k_X3_move l D cB cC cI cJ _ a0 a2 a3 a4 a5 a6 a7 a8 a9 a10 a11 a12 a13 a14 x_1 x0 x1 y_27 y_3 y1 y2 g_6 g1 (by  omega) (by  omega) (by  omega)) ⟨gcwB hts tw_1254 tw_12 tw_1251 hd_yX3_move ⟨Nat.le_of_ble_eq_true rfl, Nat.le_of_ble_eq_true rfl⟩, hts _ tw_1253, hts _ tp_49⟩ ⟨gblind, va_recv hK hPc (ci := 3) (q0 := 0) rfl rfl, (gpreS hPc hK hDc hN).2⟩ rfl rfl hl.1 rfl (lv_room (Nat.le_of_ble_eq_true rfl)) dX3_nextLetters_50 ⟨Nat.le_of_ble_eq_true rfl, Nat.le_of_ble_eq_true rfl⟩) (fun u_28 H locs hw_30 hP hD hS => ?_)
          have hP : va_P D gcl [(a5, .inl (cI, 5, .inl f_24)), (a1, .inr (1, [.ref a15, .ref a16, .ref a17, .int x2, .int x3, .int x4, .int x5, .int x6, .int x7, .int x8])), (a0, .inr (3, [.ref a2, .ref a3, .ref a4, .ref a5, .ref a6, .ref a7, .long (u_28.2.2.2.2 0), .int x0, .long y1, .long y2])), (a7, .inl (cJ, 5, .inr (.inl (u_28.2.2.1 0)))), (a2, .inr (10, [.ref a8, .ref a9, .ref a10, .ref a11, .ref a12, .ref a13, .ref a14, .int x1])), (a8, .inl (cJ, 25, .inr (.inl g1)))] H := hP
          have hD : va_D A [(a5, .inl (cI, 5, .inl f_24)), (a1, .inr (1, [.ref a15, .ref a16, .ref a17, .int x2, .int x3, .int x4, .int x5, .int x6, .int x7, .int x8])), (a0, .inr (3, [.ref a2, .ref a3, .ref a4, .ref a5, .ref a6, .ref a7, .long (u_28.2.2.2.2 0), .int x0, .long y1, .long y2])), (a7, .inl (cJ, 5, .inr (.inl (u_28.2.2.1 0)))), (a2, .inr (10, [.ref a8, .ref a9, .ref a10, .ref a11, .ref a12, .ref a13, .ref a14, .int x1])), (a8, .inl (cJ, 25, .inr (.inl g1)))] := hD
          have ru_28_0 := n_rngL (u_28.2.2.2.2 0)
          refine b_iinc (pc := 53) hx hb dX3_nextLetters_53 hl (k := 0) rfl rfl tI_m1 (by omega) (by omega) (by decide) (fun x_31 ex_31 ls hl => ?_)
          have hl : lv_has ls 3 [(2, .int x_31), (0, .ref a0), (1, .ref a1)] := hl
          refine lv_goto (pc := 56) (tgt := 8) hx hb dX3_nextLetters_56 (by decide) ?_
          exact ih_lp_7 x_31 (u_28.2.2.2.2 0) f_24 (u_28.2.2.1 0) _ _ ls (by omega) (by omega) (g_psub hP [2, 4, 0, 3, 5, 1] rfl) (hD.sub [2, 4, 0, 3, 5, 1] (by decide) rfl) hS (lv_sub hl [0, 1, 2] rfl)
  exact lp_7 _ x1 y0 f0 g0 _ _ ls (by omega) (Nat.lt_succ_self _) hP hD hS (lv_sub hl [0, 1, 2] rfl)
set_option maxHeartbeats 4000000 in
set_option maxRecDepth 100000 in
theorem k_X3_keepFound (l : Launch) (D : va_G) (cB cC cI cJ : ClassId) (sz : Nat) (a0 a1 a2 a3 a4 a5 a6 a7 a8 a9 a10 a11 a12 a13 : Nat) (x0 x1 x2 : Int32) (y0 y1 y2 : Int64) (f0 f1 : Nat → Int32) (h_x1 : (0 ≤ x1.toInt ∧ x1.toInt ≤ 1)) (h_x2 : (0 ≤ x2.toInt ∧ x2.toInt ≤ 4)) (hf_f1 : (∀ j, 0 ≤ (f1 j).toInt ∧ (f1 j).toInt ≤ 23)) : Met l yX3_keepFound (.code yX3_keepFound cX3_keepFound 3 none :: lw_gd) ({ frames := 0, cells := 0, slots := 0, locals := 0 }) (gPre D [(cB, .byte), (cC, .char), (cI, .int), (cJ, .long)] [.ref a0, .int x0] [(a0, .inr (3, [.ref a1, .ref a2, .ref a3, .ref a4, .ref a5, .ref a6, .long y0, .int x1, .long y1, .long y2])), (a1, .inr (10, [.ref a7, .ref a8, .ref a9, .ref a10, .ref a11, .ref a12, .ref a13, .int x2])), (a3, .inl (cI, 5, .inl f0)), (a13, .inl (cI, 5, .inl f1))] sz) (va_Qv (fun u => True) (gB D (va_A [(a0, .inr (3, [.ref a1, .ref a2, .ref a3, .ref a4, .ref a5, .ref a6, .long y0, .int x1, .long y1, .long y2])), (a1, .inr (10, [.ref a7, .ref a8, .ref a9, .ref a10, .ref a11, .ref a12, .ref a13, .int x2])), (a3, .inl (cI, 5, .inl f0)), (a13, .inl (cI, 5, .inl f1))] sz) (fun u : gEx => [(a0, .inr (3, [.ref a1, .ref a2, .ref a3, .ref a4, .ref a5, .ref a6, .long y0, .int x1, .long y1, .long y2])), (a1, .inr (10, [.ref a7, .ref a8, .ref a9, .ref a10, .ref a11, .ref a12, .ref a13, .int x2])), (a3, .inl (cI, 5, .inl (u.2.1 0))), (a13, .inl (cI, 5, .inl f1))])) (va_A [(a0, .inr (3, [.ref a1, .ref a2, .ref a3, .ref a4, .ref a5, .ref a6, .long y0, .int x1, .long y1, .long y2])), (a1, .inr (10, [.ref a7, .ref a8, .ref a9, .ref a10, .ref a11, .ref a12, .ref a13, .int x2])), (a3, .inl (cI, 5, .inl f0)), (a13, .inl (cI, 5, .inl f1))] sz)) 0 0 (va_A [(a0, .inr (3, [.ref a1, .ref a2, .ref a3, .ref a4, .ref a5, .ref a6, .long y0, .int x1, .long y1, .long y2])), (a1, .inr (10, [.ref a7, .ref a8, .ref a9, .ref a10, .ref a11, .ref a12, .ref a13, .int x2])), (a3, .inl (cI, 5, .inl f0)), (a13, .inl (cI, 5, .inl f1))] sz) := by
  refine gOf_v (by decide +kernel) (Nat.le_of_ble_eq_true rfl) ?_
  intro p e s m args below meth c ls A Q hx hb hts hown hml hN hK hP hD hA hl hret
  have hown : s.vm.findClass RX3 = some m.cls := hown
  have hS : va_S A s.heap s.heap [] := va_S.rf
  have hP : va_P D gcl [(a0, .inr (3, [.ref a1, .ref a2, .ref a3, .ref a4, .ref a5, .ref a6, .long y0, .int x1, .long y1, .long y2])), (a1, .inr (10, [.ref a7, .ref a8, .ref a9, .ref a10, .ref a11, .ref a12, .ref a13, .int x2])), (a3, .inl (cI, 5, .inl f0)), (a13, .inl (cI, 5, .inl f1))] s.heap := hP
  have hl : lv_has ls 3 [(0, .ref a0), (1, .int x0)] := hl
  have rx0 := n_rng x0
  have ry0 := n_rngL y0
  have ry1 := n_rngL y1
  have ry2 := n_rngL y2
  refine lv_iconst (pc := 0) (v := 0) hx hb dX3_keepFound_0 (by decide) ?_
  refine lv_istore_n (pc := 1) (lv' := [(2, .int 0), (0, .ref a0), (1, .int x0)]) hx hb dX3_keepFound_1 rfl hl (by decide) rfl (fun ls hl => ?_)
  have lp_4 : ∀ (n : Nat) (x_1 : Int32) (f_3 : Nat → Int32) (H : Heap) (locs : List Loc) (ls : Array Slot), (0 ≤ x_1.toInt ∧ x_1.toInt ≤ 2147483647) → (2147483647 - x_1.toInt).toNat < n → va_P D gcl [(a0, .inr (3, [.ref a1, .ref a2, .ref a3, .ref a4, .ref a5, .ref a6, .long y0, .int x1, .long y1, .long y2])), (a1, .inr (10, [.ref a7, .ref a8, .ref a9, .ref a10, .ref a11, .ref a12, .ref a13, .int x2])), (a3, .inl (cI, 5, .inl f_3)), (a13, .inl (cI, 5, .inl f1))] H → va_D A [(a0, .inr (3, [.ref a1, .ref a2, .ref a3, .ref a4, .ref a5, .ref a6, .long y0, .int x1, .long y1, .long y2])), (a1, .inr (10, [.ref a7, .ref a8, .ref a9, .ref a10, .ref a11, .ref a12, .ref a13, .int x2])), (a3, .inl (cI, 5, .inl f_3)), (a13, .inl (cI, 5, .inl f1))] → va_S A s.heap H locs → lv_has ls 3 [(2, .int x_1), (0, .ref a0), (1, .int x0)] → W p l e ({ frames := 0, cells := 0, slots := 0, locals := 0 }) s m args below meth c H locs 0 0 Q (F0 m 2 ls []) := by
    intro n
    induction n with
    | zero => intro x_1 f_3 H locs ls hi_2 hmu; exact absurd hmu (Nat.not_lt_zero _)
    | succ n ih_lp_4 =>
      intro x_1 f_3 H locs ls hi_2 hmu_lp_4 hP hD hS hl
      refine lv_iload_n (pc := 2) hx hb dX3_keepFound_2 rfl (lv_at hl 0 rfl) ?_
      refine lv_aload_n (pc := 3) hx hb dX3_keepFound_3 rfl (lv_at hl 1 rfl) ?_
      refine va_get (pc := 4) (ci := 3) (v := .ref a1) (C := RX3) (T := TX3) (N := 10) hx hb hts iX3 hown hK hP 0 rfl rfl 0 (by decide) (hts _ tw_348) (fun _ h9 => h9) rfl dX3_keepFound_4 ?_
      refine va_getN (pc := 7) (ci := 10) (v := .int x2) (C := RX10) (T := TX10) (N := 8) hx hb hts iX10 hown hK hP 1 rfl rfl 7 (by decide) (va_Nw.use rfl (hN _ tn_223)) (fun _ h9 => h9) rfl dX3_keepFound_7 ?_
      refine b_icmp_ge (pc := 10) (tgt := 36) hx hb rfl rfl  dX3_keepFound_10 (by decide) (fun c_5 => ?_) (fun c_5 => ?_)
      ·
        refine lv_aload_n (pc := 36) hx hb dX3_keepFound_36 rfl (lv_at hl 1 rfl) ?_
        refine va_get (pc := 37) (ci := 3) (v := .ref a3) (C := RX3) (T := TX3) (N := 10) hx hb hts iX3 hown hK hP 0 rfl rfl 2 (by decide) (hts _ tw_351) (fun _ h9 => h9) rfl dX3_keepFound_37 ?_
        refine lv_aload_n (pc := 40) hx hb dX3_keepFound_40 rfl (lv_at hl 1 rfl) ?_
        refine va_get (pc := 41) (ci := 3) (v := .ref a1) (C := RX3) (T := TX3) (N := 10) hx hb hts iX3 hown hK hP 0 rfl rfl 0 (by decide) (hts _ tw_348) (fun _ h9 => h9) rfl dX3_keepFound_41 ?_
        refine va_getN (pc := 44) (ci := 10) (v := .int x2) (C := RX10) (T := TX10) (N := 8) hx hb hts iX10 hown hK hP 1 rfl rfl 7 (by decide) (va_Nw.use rfl (hN _ tn_223)) (fun _ h9 => h9) rfl dX3_keepFound_44 ?_
        refine lv_iload_n (pc := 47) hx hb dX3_keepFound_47 rfl (lv_at hl 2 rfl) ?_
        refine lv_iconst (pc := 48) (v := 1) hx hb dX3_keepFound_48 (by decide) ?_
        refine lv_isub (pc := 49) hx hb dX3_keepFound_49 ?_
        refine lv_topi (fun x_6 _ => ?_)
        have rx_6 := n_rng x_6
        refine g_iastore (pc := 50) hx hb hK hP hD hS 2 2 rfl rfl (n_in rfl (by omega) (by omega)) dX3_keepFound_50 (fun f_7 H locs hP hD hS => ?_)
        have hP : va_P D gcl [(a0, .inr (3, [.ref a1, .ref a2, .ref a3, .ref a4, .ref a5, .ref a6, .long y0, .int x1, .long y1, .long y2])), (a1, .inr (10, [.ref a7, .ref a8, .ref a9, .ref a10, .ref a11, .ref a12, .ref a13, .int x2])), (a3, .inl (cI, 5, .inl f_7)), (a13, .inl (cI, 5, .inl f1))] H := hP
        have hD : va_D A [(a0, .inr (3, [.ref a1, .ref a2, .ref a3, .ref a4, .ref a5, .ref a6, .long y0, .int x1, .long y1, .long y2])), (a1, .inr (10, [.ref a7, .ref a8, .ref a9, .ref a10, .ref a11, .ref a12, .ref a13, .int x2])), (a3, .inl (cI, 5, .inl f_7)), (a13, .inl (cI, 5, .inl f1))] := hD
        exact hret ((fun _ => 0), (fun k => [f_7].getD k (fun _ => 0)), (fun _ => (fun _ => 0)), (fun _ => 0), (fun _ => 0)) dX3_keepFound_51 trivial (g_psub (wc := [(a0, .inr (3, [.ref a1, .ref a2, .ref a3, .ref a4, .ref a5, .ref a6, .long y0, .int x1, .long y1, .long y2])), (a1, .inr (10, [.ref a7, .ref a8, .ref a9, .ref a10, .ref a11, .ref a12, .ref a13, .int x2])), (a3, .inl (cI, 5, .inl f_7)), (a13, .inl (cI, 5, .inl f1))]) hP [0, 1, 2, 3] rfl) (hD.sub (ws' := [(a0, .inr (3, [.ref a1, .ref a2, .ref a3, .ref a4, .ref a5, .ref a6, .long y0, .int x1, .long y1, .long y2])), (a1, .inr (10, [.ref a7, .ref a8, .ref a9, .ref a10, .ref a11, .ref a12, .ref a13, .int x2])), (a3, .inl (cI, 5, .inl f_7)), (a13, .inl (cI, 5, .inl f1))]) [0, 1, 2, 3] (by decide) rfl) hS
      ·
        refine lv_aload_n (pc := 13) hx hb dX3_keepFound_13 rfl (lv_at hl 1 rfl) ?_
        refine va_get (pc := 14) (ci := 3) (v := .ref a3) (C := RX3) (T := TX3) (N := 10) hx hb hts iX3 hown hK hP 0 rfl rfl 2 (by decide) (hts _ tw_351) (fun _ h9 => h9) rfl dX3_keepFound_14 ?_
        refine lv_iload_n (pc := 17) hx hb dX3_keepFound_17 rfl (lv_at hl 0 rfl) ?_
        refine lv_aload_n (pc := 18) hx hb dX3_keepFound_18 rfl (lv_at hl 1 rfl) ?_
        refine va_get (pc := 19) (ci := 3) (v := .ref a1) (C := RX3) (T := TX3) (N := 10) hx hb hts iX3 hown hK hP 0 rfl rfl 0 (by decide) (hts _ tw_348) (fun _ h9 => h9) rfl dX3_keepFound_19 ?_
        refine va_getN (pc := 22) (ci := 10) (v := .ref a13) (C := RX10) (T := TX10) (N := 8) hx hb hts iX10 hown hK hP 1 rfl rfl 6 (by decide) (va_Nw.use rfl (hN _ tn_219)) (fun _ h9 => h9) rfl dX3_keepFound_22 ?_
        refine lv_iload_n (pc := 25) hx hb dX3_keepFound_25 rfl (lv_at hl 0 rfl) ?_
        refine va_iald (pc := 26) hx hb hK hP 3 2 rfl rfl (n_in rfl (by omega) (by omega)) dX3_keepFound_26 ?_
        refine lv_topi (fun x_8 ex_8 => ?_)
        have rx_8 : (0 ≤ x_8.toInt ∧ x_8.toInt ≤ 23) := by rw [ex_8]; exact hf_f1 _
        refine lv_iconst (pc := 27) (v := 1) hx hb dX3_keepFound_27 (by decide) ?_
        refine b_isub (pc := 28) hx hb rfl tI_1 (by omega) (by omega) dX3_keepFound_28 (fun x_9 ex_9 => ?_)
        refine g_iastore (pc := 29) hx hb hK hP hD hS 2 2 rfl rfl (n_in rfl (by omega) (by omega)) dX3_keepFound_29 (fun f_10 H locs hP hD hS => ?_)
        have hP : va_P D gcl [(a0, .inr (3, [.ref a1, .ref a2, .ref a3, .ref a4, .ref a5, .ref a6, .long y0, .int x1, .long y1, .long y2])), (a1, .inr (10, [.ref a7, .ref a8, .ref a9, .ref a10, .ref a11, .ref a12, .ref a13, .int x2])), (a3, .inl (cI, 5, .inl f_10)), (a13, .inl (cI, 5, .inl f1))] H := hP
        have hD : va_D A [(a0, .inr (3, [.ref a1, .ref a2, .ref a3, .ref a4, .ref a5, .ref a6, .long y0, .int x1, .long y1, .long y2])), (a1, .inr (10, [.ref a7, .ref a8, .ref a9, .ref a10, .ref a11, .ref a12, .ref a13, .int x2])), (a3, .inl (cI, 5, .inl f_10)), (a13, .inl (cI, 5, .inl f1))] := hD
        refine b_iinc (pc := 30) hx hb dX3_keepFound_30 hl (k := 0) rfl rfl tI_1 (by omega) (by omega) (by decide) (fun x_11 ex_11 ls hl => ?_)
        have hl : lv_has ls 3 [(2, .int x_11), (0, .ref a0), (1, .int x0)] := hl
        refine lv_goto (pc := 33) (tgt := 2) hx hb dX3_keepFound_33 (by decide) ?_
        exact ih_lp_4 x_11 f_10 _ _ ls (by omega) (by omega) hP hD hS (lv_sub hl [0, 1, 2] rfl)
  exact lp_4 _ 0 f0 _ _ ls (by have k0 := tI_0; omega) (Nat.lt_succ_self _) hP hD hS (lv_sub hl [0, 1, 2] rfl)
set_option maxHeartbeats 4000000 in
set_option maxRecDepth 100000 in
theorem k_X3_tryFound (l : Launch) (D : va_G) (cB cC cI cJ : ClassId) (sz : Nat) (a0 a1 a2 a3 a4 a5 a6 a7 a8 a9 a10 a11 a12 a13 a14 a15 a16 a17 : Nat) (x0 x1 x2 x3 x4 x5 x6 x7 x8 : Int32) (y0 y1 y2 : Int64) (f0 f1 : Nat → Int32) (g0 g1 : Nat → Int64) (h_x0 : (0 ≤ x0.toInt ∧ x0.toInt ≤ 1)) (h_x1 : ((-1) ≤ x1.toInt ∧ x1.toInt ≤ 8)) (h_x2 : ((-1) ≤ x2.toInt ∧ x2.toInt ≤ 5)) (h_x3 : ((-1) ≤ x3.toInt ∧ x3.toInt ≤ 6)) (h_x4 : (0 ≤ x4.toInt ∧ x4.toInt ≤ 6)) (h_x5 : (0 ≤ x5.toInt ∧ x5.toInt ≤ 16)) (h_x8 : (0 ≤ x8.toInt ∧ x8.toInt ≤ 4)) : Met l yX3_tryFound (.code yX3_tryFound cX3_tryFound 3 none :: lw_gd) ({ frames := 1, cells := 0, slots := 0, locals := 25 }) (gPre D [(cB, .byte), (cC, .char), (cI, .int), (cJ, .long)] [.ref a0, .ref a1] [(a0, .inr (3, [.ref a2, .ref a3, .ref a4, .ref a5, .ref a6, .ref a7, .long y0, .int x0, .long y1, .long y2])), (a1, .inr (1, [.ref a8, .ref a9, .ref a10, .int x1, .int x2, .int x3, .int x4, .int x5, .int x6, .int x7])), (a6, .inl (cI, 5, .inl f0)), (a4, .inl (cI, 5, .inl f1)), (a7, .inl (cJ, 5, .inr (.inl g0))), (a2, .inr (10, [.ref a11, .ref a12, .ref a13, .ref a14, .ref a15, .ref a16, .ref a17, .int x8])), (a11, .inl (cJ, 25, .inr (.inl g1)))] sz) (va_Qv (fun u => True) (gB D (va_A [(a0, .inr (3, [.ref a2, .ref a3, .ref a4, .ref a5, .ref a6, .ref a7, .long y0, .int x0, .long y1, .long y2])), (a1, .inr (1, [.ref a8, .ref a9, .ref a10, .int x1, .int x2, .int x3, .int x4, .int x5, .int x6, .int x7])), (a6, .inl (cI, 5, .inl f0)), (a4, .inl (cI, 5, .inl f1)), (a7, .inl (cJ, 5, .inr (.inl g0))), (a2, .inr (10, [.ref a11, .ref a12, .ref a13, .ref a14, .ref a15, .ref a16, .ref a17, .int x8])), (a11, .inl (cJ, 25, .inr (.inl g1)))] sz) (fun u : gEx => [(a0, .inr (3, [.ref a2, .ref a3, .ref a4, .ref a5, .ref a6, .ref a7, .long (u.2.2.2.2 0), .int x0, .long y1, .long y2])), (a1, .inr (1, [.ref a8, .ref a9, .ref a10, .int x1, .int x2, .int x3, .int x4, .int x5, .int x6, .int x7])), (a6, .inl (cI, 5, .inl (u.2.1 0))), (a4, .inl (cI, 5, .inl f1)), (a7, .inl (cJ, 5, .inr (.inl (u.2.2.1 0)))), (a2, .inr (10, [.ref a11, .ref a12, .ref a13, .ref a14, .ref a15, .ref a16, .ref a17, .int x8])), (a11, .inl (cJ, 25, .inr (.inl g1)))])) (va_A [(a0, .inr (3, [.ref a2, .ref a3, .ref a4, .ref a5, .ref a6, .ref a7, .long y0, .int x0, .long y1, .long y2])), (a1, .inr (1, [.ref a8, .ref a9, .ref a10, .int x1, .int x2, .int x3, .int x4, .int x5, .int x6, .int x7])), (a6, .inl (cI, 5, .inl f0)), (a4, .inl (cI, 5, .inl f1)), (a7, .inl (cJ, 5, .inr (.inl g0))), (a2, .inr (10, [.ref a11, .ref a12, .ref a13, .ref a14, .ref a15, .ref a16, .ref a17, .int x8])), (a11, .inl (cJ, 25, .inr (.inl g1)))] sz)) 0 0 (va_A [(a0, .inr (3, [.ref a2, .ref a3, .ref a4, .ref a5, .ref a6, .ref a7, .long y0, .int x0, .long y1, .long y2])), (a1, .inr (1, [.ref a8, .ref a9, .ref a10, .int x1, .int x2, .int x3, .int x4, .int x5, .int x6, .int x7])), (a6, .inl (cI, 5, .inl f0)), (a4, .inl (cI, 5, .inl f1)), (a7, .inl (cJ, 5, .inr (.inl g0))), (a2, .inr (10, [.ref a11, .ref a12, .ref a13, .ref a14, .ref a15, .ref a16, .ref a17, .int x8])), (a11, .inl (cJ, 25, .inr (.inl g1)))] sz) := by
  refine gOf_v (by decide +kernel) (Nat.le_of_ble_eq_true rfl) ?_
  intro p e s m args below meth c ls A Q hx hb hts hown hml hN hK hP hD hA hl hret
  have hown : s.vm.findClass RX3 = some m.cls := hown
  have hS : va_S A s.heap s.heap [] := va_S.rf
  have hP : va_P D gcl [(a0, .inr (3, [.ref a2, .ref a3, .ref a4, .ref a5, .ref a6, .ref a7, .long y0, .int x0, .long y1, .long y2])), (a1, .inr (1, [.ref a8, .ref a9, .ref a10, .int x1, .int x2, .int x3, .int x4, .int x5, .int x6, .int x7])), (a6, .inl (cI, 5, .inl f0)), (a4, .inl (cI, 5, .inl f1)), (a7, .inl (cJ, 5, .inr (.inl g0))), (a2, .inr (10, [.ref a11, .ref a12, .ref a13, .ref a14, .ref a15, .ref a16, .ref a17, .int x8])), (a11, .inl (cJ, 25, .inr (.inl g1)))] s.heap := hP
  have hl : lv_has ls 3 [(0, .ref a0), (1, .ref a1)] := hl
  have ry0 := n_rngL y0
  have ry1 := n_rngL y1
  have ry2 := n_rngL y2
  have rx6 := n_rng x6
  have rx7 := n_rng x7
  refine lv_iconst (pc := 0) (v := 0) hx hb dX3_tryFound_0 (by decide) ?_
  refine lv_istore_n (pc := 1) (lv' := [(2, .int 0), (0, .ref a0), (1, .ref a1)]) hx hb dX3_tryFound_1 rfl hl (by decide) rfl (fun ls hl => ?_)
  have lp_7 : ∀ (n : Nat) (x_1 : Int32) (y_3 : Int64) (f_5 : Nat → Int32) (g_6 : Nat → Int64) (H : Heap) (locs : List Loc) (ls : Array Slot), (0 ≤ x_1.toInt ∧ x_1.toInt ≤ 2147483647) → (2147483647 - x_1.toInt).toNat < n → va_P D gcl [(a0, .inr (3, [.ref a2, .ref a3, .ref a4, .ref a5, .ref a6, .ref a7, .long y_3, .int x0, .long y1, .long y2])), (a1, .inr (1, [.ref a8, .ref a9, .ref a10, .int x1, .int x2, .int x3, .int x4, .int x5, .int x6, .int x7])), (a6, .inl (cI, 5, .inl f_5)), (a4, .inl (cI, 5, .inl f1)), (a7, .inl (cJ, 5, .inr (.inl g_6))), (a2, .inr (10, [.ref a11, .ref a12, .ref a13, .ref a14, .ref a15, .ref a16, .ref a17, .int x8])), (a11, .inl (cJ, 25, .inr (.inl g1)))] H → va_D A [(a0, .inr (3, [.ref a2, .ref a3, .ref a4, .ref a5, .ref a6, .ref a7, .long y_3, .int x0, .long y1, .long y2])), (a1, .inr (1, [.ref a8, .ref a9, .ref a10, .int x1, .int x2, .int x3, .int x4, .int x5, .int x6, .int x7])), (a6, .inl (cI, 5, .inl f_5)), (a4, .inl (cI, 5, .inl f1)), (a7, .inl (cJ, 5, .inr (.inl g_6))), (a2, .inr (10, [.ref a11, .ref a12, .ref a13, .ref a14, .ref a15, .ref a16, .ref a17, .int x8])), (a11, .inl (cJ, 25, .inr (.inl g1)))] → va_S A s.heap H locs → lv_has ls 3 [(2, .int x_1), (0, .ref a0), (1, .ref a1)] → W p l e ({ frames := 1, cells := 0, slots := 0, locals := 25 }) s m args below meth c H locs 0 0 Q (F0 m 2 ls []) := by
    intro n
    induction n with
    | zero => intro x_1 y_3 f_5 g_6 H locs ls hi_2 hmu; exact absurd hmu (Nat.not_lt_zero _)
    | succ n ih_lp_7 =>
      intro x_1 y_3 f_5 g_6 H locs ls hi_2 hmu_lp_7 hP hD hS hl
      have hi_4 := n_rngL y_3
      refine lv_iload_n (pc := 2) hx hb dX3_tryFound_2 rfl (lv_at hl 0 rfl) ?_
      refine lv_aload_n (pc := 3) hx hb dX3_tryFound_3 rfl (lv_at hl 2 rfl) ?_
      refine va_getN (pc := 4) (ci := 1) (v := .int x2) (C := RX1) (T := TX1) (N := 10) hx hb hts iX1 hown hK hP 1 rfl rfl 4 (by decide) (va_Nw.use rfl (hN _ tn_122)) (fun _ h9 => h9) rfl dX3_tryFound_4 ?_
      refine b_icmp_ge (pc := 7) (tgt := 72) hx hb rfl rfl  dX3_tryFound_7 (by decide) (fun c_8 => ?_) (fun c_8 => ?_)
      ·
        exact hret ((fun _ => 0), (fun k => [f_5].getD k (fun _ => 0)), (fun k => [g_6].getD k (fun _ => 0)), (fun _ => 0), (fun k => [y_3].getD k 0)) dX3_tryFound_72 trivial (g_psub (wc := [(a0, .inr (3, [.ref a2, .ref a3, .ref a4, .ref a5, .ref a6, .ref a7, .long y_3, .int x0, .long y1, .long y2])), (a1, .inr (1, [.ref a8, .ref a9, .ref a10, .int x1, .int x2, .int x3, .int x4, .int x5, .int x6, .int x7])), (a6, .inl (cI, 5, .inl f_5)), (a4, .inl (cI, 5, .inl f1)), (a7, .inl (cJ, 5, .inr (.inl g_6))), (a2, .inr (10, [.ref a11, .ref a12, .ref a13, .ref a14, .ref a15, .ref a16, .ref a17, .int x8])), (a11, .inl (cJ, 25, .inr (.inl g1)))]) hP [0, 1, 2, 3, 4, 5, 6] rfl) (hD.sub (ws' := [(a0, .inr (3, [.ref a2, .ref a3, .ref a4, .ref a5, .ref a6, .ref a7, .long y_3, .int x0, .long y1, .long y2])), (a1, .inr (1, [.ref a8, .ref a9, .ref a10, .int x1, .int x2, .int x3, .int x4, .int x5, .int x6, .int x7])), (a6, .inl (cI, 5, .inl f_5)), (a4, .inl (cI, 5, .inl f1)), (a7, .inl (cJ, 5, .inr (.inl g_6))), (a2, .inr (10, [.ref a11, .ref a12, .ref a13, .ref a14, .ref a15, .ref a16, .ref a17, .int x8])), (a11, .inl (cJ, 25, .inr (.inl g1)))]) [0, 1, 2, 3, 4, 5, 6] (by decide) rfl) hS
      ·
        refine lv_aload_n (pc := 10) hx hb dX3_tryFound_10 rfl (lv_at hl 1 rfl) ?_
        refine va_get (pc := 11) (ci := 3) (v := .ref a6) (C := RX3) (T := TX3) (N := 10) hx hb hts iX3 hown hK hP 0 rfl rfl 4 (by decide) (hts _ tw_353) (fun _ h9 => h9) rfl dX3_tryFound_11 ?_
        refine lv_iload_n (pc := 14) hx hb dX3_tryFound_14 rfl (lv_at hl 0 rfl) ?_
        refine va_iald (pc := 15) hx hb hK hP 2 2 rfl rfl (n_in rfl (by omega) (by omega)) dX3_tryFound_15 ?_
        refine lv_topi (fun x_9 ex_9 => ?_)
        have rx_9 := n_rng x_9
        refine lv_aload_n (pc := 16) hx hb dX3_tryFound_16 rfl (lv_at hl 1 rfl) ?_
        refine va_get (pc := 17) (ci := 3) (v := .ref a4) (C := RX3) (T := TX3) (N := 10) hx hb hts iX3 hown hK hP 0 rfl rfl 2 (by decide) (hts _ tw_351) (fun _ h9 => h9) rfl dX3_tryFound_17 ?_
        refine lv_iload_n (pc := 20) hx hb dX3_tryFound_20 rfl (lv_at hl 0 rfl) ?_
        refine va_iald (pc := 21) hx hb hK hP 3 2 rfl rfl (n_in rfl (by omega) (by omega)) dX3_tryFound_21 ?_
        refine lv_topi (fun x_10 ex_10 => ?_)
        have rx_10 := n_rng x_10
        refine b_icmp_eq (pc := 22) (tgt := 66) hx hb rfl rfl  dX3_tryFound_22 (by decide) (fun c_11 => ?_) (fun c_11 => ?_)
        ·
          refine b_iinc (pc := 66) hx hb dX3_tryFound_66 hl (k := 0) rfl rfl tI_1 (by omega) (by omega) (by decide) (fun x_12 ex_12 ls hl => ?_)
          have hl : lv_has ls 3 [(2, .int x_12), (0, .ref a0), (1, .ref a1)] := hl
          refine lv_goto (pc := 69) (tgt := 2) hx hb dX3_tryFound_69 (by decide) ?_
          exact ih_lp_7 x_12 y_3 f_5 g_6 _ _ ls (by omega) (by omega) hP hD hS (lv_sub hl [0, 1, 2] rfl)
        ·
          refine lv_aload_n (pc := 25) hx hb dX3_tryFound_25 rfl (lv_at hl 1 rfl) ?_
          refine lv_iload_n (pc := 26) hx hb dX3_tryFound_26 rfl (lv_at hl 0 rfl) ?_
          refine lv_ldc2 (pc := 27) hx hb hown (hts _ tw_1255) dX3_tryFound_27 ?_
          refine lv_aload_n (pc := 30) hx hb dX3_tryFound_30 rfl (lv_at hl 2 rfl) ?_
          refine va_getN (pc := 31) (ci := 1) (v := .int x1) (C := RX1) (T := TX1) (N := 10) hx hb hts iX1 hown hK hP 1 rfl rfl 3 (by decide) (va_Nw.use rfl (hN _ tn_113)) (fun _ h9 => h9) rfl dX3_tryFound_31 ?_
          refine b_i2l (pc := 34) hx hb rfl dX3_tryFound_34 (fun y_13 ey_13 => ?_)
          have ry_13 := n_rng x1
          refine lv_lmul (pc := 35) hx hb dX3_tryFound_35 ?_
          refine lv_topl (fun y_14 _ => ?_)
          have ry_14 := n_rngL y_14
          refine lv_aload_n (pc := 36) hx hb dX3_tryFound_36 rfl (lv_at hl 1 rfl) ?_
          refine va_get (pc := 37) (ci := 3) (v := .ref a4) (C := RX3) (T := TX3) (N := 10) hx hb hts iX3 hown hK hP 0 rfl rfl 2 (by decide) (hts _ tw_351) (fun _ h9 => h9) rfl dX3_tryFound_37 ?_
          refine lv_iload_n (pc := 40) hx hb dX3_tryFound_40 rfl (lv_at hl 0 rfl) ?_
          refine va_iald (pc := 41) hx hb hK hP 3 2 rfl rfl (n_in rfl (by omega) (by omega)) dX3_tryFound_41 ?_
          refine gI (y := x_10) ex_10.symm ?_
          refine lv_aload_n (pc := 42) hx hb dX3_tryFound_42 rfl (lv_at hl 1 rfl) ?_
          refine va_get (pc := 43) (ci := 3) (v := .ref a6) (C := RX3) (T := TX3) (N := 10) hx hb hts iX3 hown hK hP 0 rfl rfl 4 (by decide) (hts _ tw_353) (fun _ h9 => h9) rfl dX3_tryFound_43 ?_
          refine lv_iload_n (pc := 46) hx hb dX3_tryFound_46 rfl (lv_at hl 0 rfl) ?_
          refine va_iald (pc := 47) hx hb hK hP 2 2 rfl rfl (n_in rfl (by omega) (by omega)) dX3_tryFound_47 ?_
          refine gI (y := x_9) ex_9.symm ?_
          refine lv_isub (pc := 48) hx hb dX3_tryFound_48 ?_
          refine lv_topi (fun x_15 _ => ?_)
          have rx_15 := n_rng x_15
          refine b_i2l (pc := 49) hx hb rfl dX3_tryFound_49 (fun y_16 ey_16 => ?_)
          have ry_16 := n_rng x_15
          refine lv_lmul (pc := 50) hx hb dX3_tryFound_50 ?_
          refine lv_topl (fun y_17 _ => ?_)
          have ry_17 := n_rngL y_17
          refine gc_v (pc := 51) (wc := [(a0, .inr (3, [.ref a2, .ref a3, .ref a4, .ref a5, .ref a6, .ref a7, .long y_3, .int x0, .long y1, .long y2])), (a7, .inl (cJ, 5, .inr (.inl g_6))), (a2, .inr (10, [.ref a11, .ref a12, .ref a13, .ref a14, .ref a15, .ref a16, .ref a17, .int x8])), (a11, .inl (cJ, 25, .inr (.inl g1)))]) (wr := [(a1, .inr (1, [.ref a8, .ref a9, .ref a10, .int x1, .int x2, .int x3, .int x4, .int x5, .int x6, .int x7])), (a6, .inl (cI, 5, .inl f_5)), (a4, .inl (cI, 5, .inl f1))]) hP hD hS hA [0, 4, 5, 6] [1, 2, 3] rfl rfl (by decide) (by decide) (by decide) (fun hPc hDc => va_runV (As := [.int x_1, .long y_17]) (rest := []) ⟨hx, hb, hml, hown, hts⟩ (k_X3_move l D cB cC cI cJ _ a0 a2 a3 a4 a5 a6 a7 a11 a12 a13 a14 a15 a16 a17 x_1 x0 x8 y_17 y_3 y1 y2 g_6 g1 (by  omega) (by  omega) (by  omega)) ⟨gcwB hts tw_1254 tw_12 tw_1251 hd_yX3_move ⟨Nat.le_of_ble_eq_true rfl, Nat.le_of_ble_eq_true rfl⟩, hts _ tw_1253, hts _ tp_49⟩ ⟨gblind, va_recv hK hPc (ci := 3) (q0 := 0) rfl rfl, (gpreS hPc hK hDc hN).2⟩ rfl rfl hl.1 rfl (lv_room (Nat.le_of_ble_eq_true rfl)) dX3_tryFound_51 ⟨Nat.le_of_ble_eq_true rfl, Nat.le_of_ble_eq_true rfl⟩) (fun u_18 H locs hw_20 hP hD hS => ?_)
          have hP : va_P D gcl [(a1, .inr (1, [.ref a8, .ref a9, .ref a10, .int x1, .int x2, .int x3, .int x4, .int x5, .int x6, .int x7])), (a6, .inl (cI, 5, .inl f_5)), (a4, .inl (cI, 5, .inl f1)), (a0, .inr (3, [.ref a2, .ref a3, .ref a4, .ref a5, .ref a6, .ref a7, .long (u_18.2.2.2.2 0), .int x0, .long y1, .long y2])), (a7, .inl (cJ, 5, .inr (.inl (u_18.2.2.1 0)))), (a2, .inr (10, [.ref a11, .ref a12, .ref a13, .ref a14, .ref a15, .ref a16, .ref a17, .int x8])), (a11, .inl (cJ, 25, .inr (.inl g1)))] H := hP
          have hD : va_D A [(a1, .inr (1, [.ref a8, .ref a9, .ref a10, .int x1, .int x2, .int x3, .int x4, .int x5, .int x6, .int x7])), (a6, .inl (cI, 5, .inl f_5)), (a4, .inl (cI, 5, .inl f1)), (a0, .inr (3, [.ref a2, .ref a3, .ref a4, .ref a5, .ref a6, .ref a7, .long (u_18.2.2.2.2 0), .int x0, .long y1, .long y2])), (a7, .inl (cJ, 5, .inr (.inl (u_18.2.2.1 0)))), (a2, .inr (10, [.ref a11, .ref a12, .ref a13, .ref a14, .ref a15, .ref a16, .ref a17, .int x8])), (a11, .inl (cJ, 25, .inr (.inl g1)))] := hD
          have ru_18_0 := n_rngL (u_18.2.2.2.2 0)
          refine lv_aload_n (pc := 54) hx hb dX3_tryFound_54 rfl (lv_at hl 1 rfl) ?_
          refine va_get (pc := 55) (ci := 3) (v := .ref a6) (C := RX3) (T := TX3) (N := 10) hx hb hts iX3 hown hK hP 3 rfl rfl 4 (by decide) (hts _ tw_353) (fun _ h9 => h9) rfl dX3_tryFound_55 ?_
          refine lv_iload_n (pc := 58) hx hb dX3_tryFound_58 rfl (lv_at hl 0 rfl) ?_
          refine lv_aload_n (pc := 59) hx hb dX3_tryFound_59 rfl (lv_at hl 1 rfl) ?_
          refine va_get (pc := 60) (ci := 3) (v := .ref a4) (C := RX3) (T := TX3) (N := 10) hx hb hts iX3 hown hK hP 3 rfl rfl 2 (by decide) (hts _ tw_351) (fun _ h9 => h9) rfl dX3_tryFound_60 ?_
          refine lv_iload_n (pc := 63) hx hb dX3_tryFound_63 rfl (lv_at hl 0 rfl) ?_
          refine va_iald (pc := 64) hx hb hK hP 2 2 rfl rfl (n_in rfl (by omega) (by omega)) dX3_tryFound_64 ?_
          refine gI (y := x_10) ex_10.symm ?_
          refine g_iastore (pc := 65) hx hb hK hP hD hS 1 2 rfl rfl (n_in rfl (by omega) (by omega)) dX3_tryFound_65 (fun f_21 H locs hP hD hS => ?_)
          have hP : va_P D gcl [(a1, .inr (1, [.ref a8, .ref a9, .ref a10, .int x1, .int x2, .int x3, .int x4, .int x5, .int x6, .int x7])), (a6, .inl (cI, 5, .inl f_21)), (a4, .inl (cI, 5, .inl f1)), (a0, .inr (3, [.ref a2, .ref a3, .ref a4, .ref a5, .ref a6, .ref a7, .long (u_18.2.2.2.2 0), .int x0, .long y1, .long y2])), (a7, .inl (cJ, 5, .inr (.inl (u_18.2.2.1 0)))), (a2, .inr (10, [.ref a11, .ref a12, .ref a13, .ref a14, .ref a15, .ref a16, .ref a17, .int x8])), (a11, .inl (cJ, 25, .inr (.inl g1)))] H := hP
          have hD : va_D A [(a1, .inr (1, [.ref a8, .ref a9, .ref a10, .int x1, .int x2, .int x3, .int x4, .int x5, .int x6, .int x7])), (a6, .inl (cI, 5, .inl f_21)), (a4, .inl (cI, 5, .inl f1)), (a0, .inr (3, [.ref a2, .ref a3, .ref a4, .ref a5, .ref a6, .ref a7, .long (u_18.2.2.2.2 0), .int x0, .long y1, .long y2])), (a7, .inl (cJ, 5, .inr (.inl (u_18.2.2.1 0)))), (a2, .inr (10, [.ref a11, .ref a12, .ref a13, .ref a14, .ref a15, .ref a16, .ref a17, .int x8])), (a11, .inl (cJ, 25, .inr (.inl g1)))] := hD
          refine b_iinc (pc := 66) hx hb dX3_tryFound_66 hl (k := 0) rfl rfl tI_1 (by omega) (by omega) (by decide) (fun x_22 ex_22 ls hl => ?_)
          have hl : lv_has ls 3 [(2, .int x_22), (0, .ref a0), (1, .ref a1)] := hl
          refine lv_goto (pc := 69) (tgt := 2) hx hb dX3_tryFound_69 (by decide) ?_
          exact ih_lp_7 x_22 (u_18.2.2.2.2 0) f_21 (u_18.2.2.1 0) _ _ ls (by omega) (by omega) (g_psub hP [3, 0, 1, 2, 4, 5, 6] rfl) (hD.sub [3, 0, 1, 2, 4, 5, 6] (by decide) rfl) hS (lv_sub hl [0, 1, 2] rfl)
  exact lp_7 _ 0 y0 f0 g0 _ _ ls (by have k0 := tI_0; omega) (Nat.lt_succ_self _) hP hD hS (lv_sub hl [0, 1, 2] rfl)
set_option maxHeartbeats 4000000 in
set_option maxRecDepth 100000 in
theorem k_X3_leastThinkable (l : Launch) (D : va_G) (cB cC cI cJ : ClassId) (sz : Nat) (a0 a1 a2 a3 a4 : Nat) (x0 x1 x2 x3 x4 x5 x6 : Int32) (f0 : Nat → Int32) (h_x0 : ((-1) ≤ x0.toInt ∧ x0.toInt ≤ 8)) (h_x1 : ((-1) ≤ x1.toInt ∧ x1.toInt ≤ 5)) (h_x2 : ((-1) ≤ x2.toInt ∧ x2.toInt ≤ 6)) (h_x3 : (0 ≤ x3.toInt ∧ x3.toInt ≤ 6)) (h_x4 : (0 ≤ x4.toInt ∧ x4.toInt ≤ 16)) : Met l yX3_leastThinkable (.code yX3_leastThinkable cX3_leastThinkable 5 (some .long) :: lw_gd) ({ frames := 1, cells := 0, slots := 0, locals := 22 }) (gPre D [(cB, .byte), (cC, .char), (cI, .int), (cJ, .long)] [.ref a0] [(a0, .inr (1, [.ref a1, .ref a2, .ref a3, .int x0, .int x1, .int x2, .int x3, .int x4, .int x5, .int x6])), (a1, .inr (8, [.ref a4])), (a4, .inl (cI, 30, .inl f0))] sz) (va_Ql (fun r u => ((((-2147483648) ≤ r.toInt ∧ r.toInt ≤ 2147483647)))) (gB D (va_A [(a0, .inr (1, [.ref a1, .ref a2, .ref a3, .int x0, .int x1, .int x2, .int x3, .int x4, .int x5, .int x6])), (a1, .inr (8, [.ref a4])), (a4, .inl (cI, 30, .inl f0))] sz) (fun u : gEx => [(a0, .inr (1, [.ref a1, .ref a2, .ref a3, .int x0, .int x1, .int x2, .int x3, .int x4, .int x5, .int x6])), (a1, .inr (8, [.ref a4])), (a4, .inl (cI, 30, .inl f0))])) (va_A [(a0, .inr (1, [.ref a1, .ref a2, .ref a3, .int x0, .int x1, .int x2, .int x3, .int x4, .int x5, .int x6])), (a1, .inr (8, [.ref a4])), (a4, .inl (cI, 30, .inl f0))] sz)) 0 0 (va_A [(a0, .inr (1, [.ref a1, .ref a2, .ref a3, .int x0, .int x1, .int x2, .int x3, .int x4, .int x5, .int x6])), (a1, .inr (8, [.ref a4])), (a4, .inl (cI, 30, .inl f0))] sz) := by
  refine gOf_l (by decide +kernel) (Nat.le_of_ble_eq_true rfl) ?_
  intro p e s m args below meth c ls A Q hx hb hts hown hml hN hK hP hD hA hl hret
  have hown : s.vm.findClass RX3 = some m.cls := hown
  have hS : va_S A s.heap s.heap [] := va_S.rf
  have hP : va_P D gcl [(a0, .inr (1, [.ref a1, .ref a2, .ref a3, .int x0, .int x1, .int x2, .int x3, .int x4, .int x5, .int x6])), (a1, .inr (8, [.ref a4])), (a4, .inl (cI, 30, .inl f0))] s.heap := hP
  have hl : lv_has ls 5 [(0, .ref a0)] := hl
  have rx5 := n_rng x5
  have rx6 := n_rng x6
  refine lv_iconst (pc := 0) (v := 0) hx hb dX3_leastThinkable_0 (by decide) ?_
  refine lv_istore_n (pc := 1) (lv' := [(1, .int 0), (0, .ref a0)]) hx hb dX3_leastThinkable_1 rfl hl (by decide) rfl (fun ls hl => ?_)
  refine lv_iconst (pc := 2) (v := 0) hx hb dX3_leastThinkable_2 (by decide) ?_
  refine lv_istore_n (pc := 3) (lv' := [(2, .int 0), (1, .int 0), (0, .ref a0)]) hx hb dX3_leastThinkable_3 rfl hl (by decide) rfl (fun ls hl => ?_)
  have lp_5 : ∀ (n : Nat) (x_1 x_3 : Int32) (H : Heap) (locs : List Loc) (ls : Array Slot), (0 ≤ x_1.toInt ∧ x_1.toInt ≤ 2147483647) → (2147483647 - x_1.toInt).toNat < n → va_P D gcl [(a0, .inr (1, [.ref a1, .ref a2, .ref a3, .int x0, .int x1, .int x2, .int x3, .int x4, .int x5, .int x6])), (a1, .inr (8, [.ref a4])), (a4, .inl (cI, 30, .inl f0))] H → va_D A [(a0, .inr (1, [.ref a1, .ref a2, .ref a3, .int x0, .int x1, .int x2, .int x3, .int x4, .int x5, .int x6])), (a1, .inr (8, [.ref a4])), (a4, .inl (cI, 30, .inl f0))] → va_S A s.heap H locs → lv_has ls 5 [(2, .int x_1), (1, .int x_3), (0, .ref a0)] → W p l e ({ frames := 1, cells := 0, slots := 0, locals := 22 }) s m args below meth c H locs 0 0 Q (F0 m 4 ls []) := by
    intro n
    induction n with
    | zero => intro x_1 x_3 H locs ls hi_2 hmu; exact absurd hmu (Nat.not_lt_zero _)
    | succ n ih_lp_5 =>
      intro x_1 x_3 H locs ls hi_2 hmu_lp_5 hP hD hS hl
      have hi_4 := n_rng x_3
      refine lv_iload_n (pc := 4) hx hb dX3_leastThinkable_4 rfl (lv_at hl 0 rfl) ?_
      refine lv_aload_n (pc := 5) hx hb dX3_leastThinkable_5 rfl (lv_at hl 2 rfl) ?_
      refine va_getN (pc := 6) (ci := 1) (v := .int x2) (C := RX1) (T := TX1) (N := 10) hx hb hts iX1 hown hK hP 0 rfl rfl 5 (by decide) (va_Nw.use rfl (hN _ tn_129)) (fun _ h9 => h9) rfl dX3_leastThinkable_6 ?_
      refine b_icmp_ge (pc := 9) (tgt := 66) hx hb rfl rfl  dX3_leastThinkable_9 (by decide) (fun c_6 => ?_) (fun c_6 => ?_)
      ·
        refine lv_iload_n (pc := 66) hx hb dX3_leastThinkable_66 rfl (lv_at hl 1 rfl) ?_
        refine b_i2l (pc := 67) hx hb rfl dX3_leastThinkable_67 (fun y_7 ey_7 => ?_)
        have ry_7 := n_rng x_3
        exact hret y_7 ((fun _ => 0), (fun _ => (fun _ => 0)), (fun _ => (fun _ => 0)), (fun _ => 0), (fun _ => 0)) dX3_leastThinkable_68 (show ((((-2147483648) ≤ y_7.toInt ∧ y_7.toInt ≤ 2147483647))) by omega) (g_psub (wc := [(a0, .inr (1, [.ref a1, .ref a2, .ref a3, .int x0, .int x1, .int x2, .int x3, .int x4, .int x5, .int x6])), (a1, .inr (8, [.ref a4])), (a4, .inl (cI, 30, .inl f0))]) hP [0, 1, 2] rfl) (hD.sub (ws' := [(a0, .inr (1, [.ref a1, .ref a2, .ref a3, .int x0, .int x1, .int x2, .int x3, .int x4, .int x5, .int x6])), (a1, .inr (8, [.ref a4])), (a4, .inl (cI, 30, .inl f0))]) [0, 1, 2] (by decide) rfl) hS
      ·
        refine lv_aload_n (pc := 12) hx hb dX3_leastThinkable_12 rfl (lv_at hl 2 rfl) ?_
        refine va_getN (pc := 13) (ci := 1) (v := .int x0) (C := RX1) (T := TX1) (N := 10) hx hb hts iX1 hown hK hP 0 rfl rfl 3 (by decide) (va_Nw.use rfl (hN _ tn_113)) (fun _ h9 => h9) rfl dX3_leastThinkable_13 ?_
        refine lv_iconst (pc := 16) (v := 2) hx hb dX3_leastThinkable_16 (by decide) ?_
        refine b_irem (pc := 17) hx hb rfl tI_2 (by omega) dX3_leastThinkable_17 (fun x_8 ex_8 => ?_)
        have rx_8 : ((-1) ≤ x_8.toInt ∧ x_8.toInt ≤ 1) := by omega
        refine b_if_ne (pc := 18) (tgt := 66) hx hb rfl  dX3_leastThinkable_18 (by decide) (fun c_9 => ?_) (fun c_9 => ?_)
        ·
          refine lv_iload_n (pc := 66) hx hb dX3_leastThinkable_66 rfl (lv_at hl 1 rfl) ?_
          refine b_i2l (pc := 67) hx hb rfl dX3_leastThinkable_67 (fun y_10 ey_10 => ?_)
          have ry_10 := n_rng x_3
          exact hret y_10 ((fun _ => 0), (fun _ => (fun _ => 0)), (fun _ => (fun _ => 0)), (fun _ => 0), (fun _ => 0)) dX3_leastThinkable_68 (show ((((-2147483648) ≤ y_10.toInt ∧ y_10.toInt ≤ 2147483647))) by omega) (g_psub (wc := [(a0, .inr (1, [.ref a1, .ref a2, .ref a3, .int x0, .int x1, .int x2, .int x3, .int x4, .int x5, .int x6])), (a1, .inr (8, [.ref a4])), (a4, .inl (cI, 30, .inl f0))]) hP [0, 1, 2] rfl) (hD.sub (ws' := [(a0, .inr (1, [.ref a1, .ref a2, .ref a3, .int x0, .int x1, .int x2, .int x3, .int x4, .int x5, .int x6])), (a1, .inr (8, [.ref a4])), (a4, .inl (cI, 30, .inl f0))]) [0, 1, 2] (by decide) rfl) hS
        ·
          refine lv_iconst (pc := 21) (v := 0) hx hb dX3_leastThinkable_21 (by decide) ?_
          refine lv_istore_n (pc := 22) (lv' := [(3, .int 0), (2, .int x_1), (1, .int x_3), (0, .ref a0)]) hx hb dX3_leastThinkable_22 rfl hl (by decide) rfl (fun ls hl => ?_)
          refine lv_iconst (pc := 23) (v := 0) hx hb dX3_leastThinkable_23 (by decide) ?_
          refine lv_istore (pc := 24) (lv' := [(4, .int 0), (3, .int 0), (2, .int x_1), (1, .int x_3), (0, .ref a0)]) hx hb dX3_leastThinkable_24 hl (by decide) rfl (fun ls hl => ?_)
          have lp_15 : ∀ (n : Nat) (x_11 x_13 : Int32) (H : Heap) (locs : List Loc) (ls : Array Slot), (0 ≤ x_11.toInt ∧ x_11.toInt ≤ 2147483647) → (2147483647 - x_11.toInt).toNat < n → va_P D gcl [(a0, .inr (1, [.ref a1, .ref a2, .ref a3, .int x0, .int x1, .int x2, .int x3, .int x4, .int x5, .int x6])), (a1, .inr (8, [.ref a4])), (a4, .inl (cI, 30, .inl f0))] H → va_D A [(a0, .inr (1, [.ref a1, .ref a2, .ref a3, .int x0, .int x1, .int x2, .int x3, .int x4, .int x5, .int x6])), (a1, .inr (8, [.ref a4])), (a4, .inl (cI, 30, .inl f0))] → va_S A s.heap H locs → lv_has ls 5 [(4, .int x_11), (3, .int x_13), (2, .int x_1), (1, .int x_3), (0, .ref a0)] → W p l e ({ frames := 1, cells := 0, slots := 0, locals := 22 }) s m args below meth c H locs 0 0 Q (F0 m 26 ls []) := by
            intro n
            induction n with
            | zero => intro x_11 x_13 H locs ls hi_12 hmu; exact absurd hmu (Nat.not_lt_zero _)
            | succ n ih_lp_15 =>
              intro x_11 x_13 H locs ls hi_12 hmu_lp_15 hP hD hS hl
              have hi_14 := n_rng x_13
              refine lv_iload (pc := 26) hx hb dX3_leastThinkable_26 (lv_at hl 0 rfl) ?_
              refine lv_aload_n (pc := 28) hx hb dX3_leastThinkable_28 rfl (lv_at hl 4 rfl) ?_
              refine va_getN (pc := 29) (ci := 1) (v := .int x1) (C := RX1) (T := TX1) (N := 10) hx hb hts iX1 hown hK hP 0 rfl rfl 4 (by decide) (va_Nw.use rfl (hN _ tn_122)) (fun _ h9 => h9) rfl dX3_leastThinkable_29 ?_
              refine b_icmp_ge (pc := 32) (tgt := 54) hx hb rfl rfl  dX3_leastThinkable_32 (by decide) (fun c_16 => ?_) (fun c_16 => ?_)
              ·
                refine lv_iload_n (pc := 54) hx hb dX3_leastThinkable_54 rfl (lv_at hl 3 rfl) ?_
                refine lv_iload_n (pc := 55) hx hb dX3_leastThinkable_55 rfl (lv_at hl 1 rfl) ?_
                refine lv_iconst (pc := 56) (v := 1) hx hb dX3_leastThinkable_56 (by decide) ?_
                refine b_iand (pc := 57) (M := 1) hx hb 1 (by decide +kernel) (by decide) (by decide) dX3_leastThinkable_57 (fun x_17 ex_17 => ?_)
                have rx_17 : (0 ≤ x_17.toInt ∧ x_17.toInt ≤ 1) := by omega
                refine lv_iadd (pc := 58) hx hb dX3_leastThinkable_58 ?_
                refine lv_topi (fun x_18 _ => ?_)
                have rx_18 := n_rng x_18
                refine lv_istore_n (pc := 59) (lv' := [(1, .int x_18), (4, .int x_11), (3, .int x_13), (2, .int x_1), (0, .ref a0)]) hx hb dX3_leastThinkable_59 rfl hl (by decide) rfl (fun ls hl => ?_)
                refine b_iinc (pc := 60) hx hb dX3_leastThinkable_60 hl (k := 3) rfl rfl tI_1 (by omega) (by omega) (by decide) (fun x_19 ex_19 ls hl => ?_)
                have hl : lv_has ls 5 [(2, .int x_19), (1, .int x_18), (4, .int x_11), (3, .int x_13), (0, .ref a0)] := hl
                refine lv_goto (pc := 63) (tgt := 4) hx hb dX3_leastThinkable_63 (by decide) ?_
                exact ih_lp_5 x_19 x_18 _ _ ls (by omega) (by omega) hP hD hS (lv_sub hl [0, 1, 4] rfl)
              ·
                refine lv_iload_n (pc := 35) hx hb dX3_leastThinkable_35 rfl (lv_at hl 1 rfl) ?_
                refine lv_aload_n (pc := 36) hx hb dX3_leastThinkable_36 rfl (lv_at hl 4 rfl) ?_
                refine va_getN (pc := 37) (ci := 1) (v := .ref a1) (C := RX1) (T := TX1) (N := 10) hx hb hts iX1 hown hK hP 0 rfl rfl 0 (by decide) (va_Nw.use rfl (hN _ tn_101)) (fun _ h9 => h9) rfl dX3_leastThinkable_37 ?_
                refine lv_iload_n (pc := 40) hx hb dX3_leastThinkable_40 rfl (lv_at hl 2 rfl) ?_
                refine lv_iload (pc := 41) hx hb dX3_leastThinkable_41 (lv_at hl 0 rfl) ?_
                refine gc_i (pc := 43) (wc := [(a1, .inr (8, [.ref a4])), (a4, .inl (cI, 30, .inl f0))]) (wr := [(a0, .inr (1, [.ref a1, .ref a2, .ref a3, .int x0, .int x1, .int x2, .int x3, .int x4, .int x5, .int x6]))]) hP hD hS hA [1, 2] [0] rfl rfl (by decide) (by decide) (by decide) (fun hPc hDc => va_runV (As := [.int x_1, .int x_11]) (rest := [.int x_13]) ⟨hx, hb, hml, hown, hts⟩ (k_X8_at l D cB cC cI cJ _ a1 a4 x_1 x_11 f0 (by  omega) (by  omega)) ⟨gcwB hts tw_791 tw_5 tw_1297 hd_yX8_at ⟨Nat.le_of_ble_eq_true rfl, Nat.le_of_ble_eq_true rfl⟩, hts _ tw_789, hts _ tw_790⟩ ⟨gblind, va_recv hK hPc (ci := 8) (q0 := 0) rfl rfl, (gpreS hPc hK hDc hN).2⟩ rfl rfl hl.1 rfl (lv_room (Nat.le_of_ble_eq_true rfl)) dX3_leastThinkable_43 ⟨Nat.le_of_ble_eq_true rfl, Nat.le_of_ble_eq_true rfl⟩) (fun r_21 u_20 H locs hw_22 hP hD hS => ?_)
                have hP : va_P D gcl [(a0, .inr (1, [.ref a1, .ref a2, .ref a3, .int x0, .int x1, .int x2, .int x3, .int x4, .int x5, .int x6])), (a1, .inr (8, [.ref a4])), (a4, .inl (cI, 30, .inl f0))] H := hP
                have hD : va_D A [(a0, .inr (1, [.ref a1, .ref a2, .ref a3, .int x0, .int x1, .int x2, .int x3, .int x4, .int x5, .int x6])), (a1, .inr (8, [.ref a4])), (a4, .inl (cI, 30, .inl f0))] := hD
                have hw_23 : ((((-2147483648) ≤ r_21.toInt ∧ r_21.toInt ≤ 2147483647))) := hw_22
                refine lv_iadd (pc := 46) hx hb dX3_leastThinkable_46 ?_
                refine lv_topi (fun x_24 _ => ?_)
                have rx_24 := n_rng x_24
                refine lv_istore_n (pc := 47) (lv' := [(3, .int x_24), (4, .int x_11), (2, .int x_1), (1, .int x_3), (0, .ref a0)]) hx hb dX3_leastThinkable_47 rfl hl (by decide) rfl (fun ls hl => ?_)
                refine b_iinc (pc := 48) hx hb dX3_leastThinkable_48 hl (k := 1) rfl rfl tI_1 (by omega) (by omega) (by decide) (fun x_25 ex_25 ls hl => ?_)
                have hl : lv_has ls 5 [(4, .int x_25), (3, .int x_24), (2, .int x_1), (1, .int x_3), (0, .ref a0)] := hl
                refine lv_goto (pc := 51) (tgt := 26) hx hb dX3_leastThinkable_51 (by decide) ?_
                exact ih_lp_15 x_25 x_24 _ _ ls (by omega) (by omega) hP hD hS (lv_sub hl [0, 1, 2, 3, 4] rfl)
          exact lp_15 _ 0 0 _ _ ls (by have k0 := tI_0; omega) (Nat.lt_succ_self _) hP hD hS (lv_sub hl [0, 1, 2, 3, 4] rfl)
  exact lp_5 _ 0 0 _ _ ls (by have k0 := tI_0; omega) (Nat.lt_succ_self _) hP hD hS (lv_sub hl [0, 1, 2] rfl)
set_option maxHeartbeats 4000000 in
set_option maxRecDepth 100000 in
theorem k_X3_refuse (l : Launch) (D : va_G) (cB cC cI cJ : ClassId) (sz : Nat) (a0 a1 a2 a3 a4 a5 a6 : Nat) (x0 : Int32) (y0 y1 y2 : Int64) (h_x0 : (0 ≤ x0.toInt ∧ x0.toInt ≤ 1)) : Met l yX3_refuse (.code yX3_refuse cX3_refuse 1 (some .long) :: lw_gd) ({ frames := 0, cells := 0, slots := 0, locals := 0 }) (gPre D [(cB, .byte), (cC, .char), (cI, .int), (cJ, .long)] [.ref a0] [(a0, .inr (3, [.ref a1, .ref a2, .ref a3, .ref a4, .ref a5, .ref a6, .long y0, .int x0, .long y1, .long y2]))] sz) (va_Ql (fun r u => ((r.toInt = (-1)))) (gB D (va_A [(a0, .inr (3, [.ref a1, .ref a2, .ref a3, .ref a4, .ref a5, .ref a6, .long y0, .int x0, .long y1, .long y2]))] sz) (fun u : gEx => [(a0, .inr (3, [.ref a1, .ref a2, .ref a3, .ref a4, .ref a5, .ref a6, .long y0, .int 0, .long y1, .long y2]))])) (va_A [(a0, .inr (3, [.ref a1, .ref a2, .ref a3, .ref a4, .ref a5, .ref a6, .long y0, .int x0, .long y1, .long y2]))] sz)) 0 0 (va_A [(a0, .inr (3, [.ref a1, .ref a2, .ref a3, .ref a4, .ref a5, .ref a6, .long y0, .int x0, .long y1, .long y2]))] sz) := by
  refine gOf_l (by decide +kernel) (Nat.le_of_ble_eq_true rfl) ?_
  intro p e s m args below meth c ls A Q hx hb hts hown hml hN hK hP hD hA hl hret
  have hown : s.vm.findClass RX3 = some m.cls := hown
  have hS : va_S A s.heap s.heap [] := va_S.rf
  have hP : va_P D gcl [(a0, .inr (3, [.ref a1, .ref a2, .ref a3, .ref a4, .ref a5, .ref a6, .long y0, .int x0, .long y1, .long y2]))] s.heap := hP
  have hl : lv_has ls 1 [(0, .ref a0)] := hl
  have ry0 := n_rngL y0
  have ry1 := n_rngL y1
  have ry2 := n_rngL y2
  refine lv_aload_n (pc := 0) hx hb dX3_refuse_0 rfl (lv_at hl 0 rfl) ?_
  refine lv_iconst (pc := 1) (v := 0) hx hb dX3_refuse_1 (by decide) ?_
  refine va_put (pc := 2) (ci := 3) (v := .int 0) (ty := .boolean) (C := RX3) (T := TX3) (N := 10) hx hb hts iX3 tyX3 tyX3_ok nmX3 hown hK hP hD hS 0 rfl rfl 7 (by decide) (hts _ tw_356) (fun _ h9 => h9) rfl (by decide +kernel) (by decide +kernel) (by decide +kernel) (Nat.le_of_ble_eq_true rfl) dX3_refuse_2 (fun H locs hP hD hS => ?_)
  have hP : va_P D gcl [(a0, .inr (3, [.ref a1, .ref a2, .ref a3, .ref a4, .ref a5, .ref a6, .long y0, .int 0, .long y1, .long y2]))] H := hP
  have hD : va_D A [(a0, .inr (3, [.ref a1, .ref a2, .ref a3, .ref a4, .ref a5, .ref a6, .long y0, .int 0, .long y1, .long y2]))] := hD
  refine lv_ldc2 (pc := 5) hx hb hown (hts _ tw_347) dX3_refuse_5 ?_
  exact hret (-1) ((fun _ => 0), (fun _ => (fun _ => 0)), (fun _ => (fun _ => 0)), (fun _ => 0), (fun _ => 0)) dX3_refuse_8 (show ((((-1) : Int64).toInt = (-1))) by have k9 := tL_m1; omega) (g_psub (wc := [(a0, .inr (3, [.ref a1, .ref a2, .ref a3, .ref a4, .ref a5, .ref a6, .long y0, .int 0, .long y1, .long y2]))]) hP [0] rfl) (hD.sub (ws' := [(a0, .inr (3, [.ref a1, .ref a2, .ref a3, .ref a4, .ref a5, .ref a6, .long y0, .int 0, .long y1, .long y2]))]) [0] (by decide) rfl) hS
