set_option maxHeartbeats 4000000 in
set_option maxRecDepth 100000 in
theorem k_X11_checkWith (l : Launch) (D : va_G) (cB cC cI cJ : ClassId) (sz : Nat) (x0 x1 : Int32) : Met l yX11_checkWith (.code yX11_checkWith cX11_checkWith 2 (some .int) :: lw_gd) ({ frames := 0, cells := 0, slots := 0, locals := 0 }) (gPre D [(cB, .byte), (cC, .char), (cI, .int), (cJ, .long)] [.int x0, .int x1] [] sz) (va_Qi (fun r u => ((((-252) ≤ r.toInt ∧ r.toInt ≤ 252)))) (gB D (va_A [] sz) (fun u : gEx => [])) (va_A [] sz)) 0 0 (va_A [] sz) := by
  refine gOf_i (by decide +kernel) (Nat.le_of_ble_eq_true rfl) ?_
  intro p e s m args below meth c ls A Q hx hb hts hown hml hN hK hP hD hA hl hret
  replace hown : s.vm.findClass RX11 = some m.cls := hown
  have hS : va_S A s.heap s.heap [] := va_S.rf
  replace hP : va_P D gcl [] s.heap := hP
  replace hl : lv_has ls 2 [(0, .int x0), (1, .int x1)] := hl
  have rx0 := n_rng x0
  have rx1 := n_rng x1
  refine lv_bipush (pc := 0) (v := 7) hx hb dX11_checkWith_0 (by decide) ?_
  refine lv_iload_n (pc := 2) hx hb dX11_checkWith_2 rfl (lv_at hl 0 rfl) ?_
  refine lv_imul (pc := 3) hx hb dX11_checkWith_3 ?_
  refine lv_topi (fun x_1 _ => ?_)
  have rx_1 := n_rng x_1
  refine lv_iload_n (pc := 4) hx hb dX11_checkWith_4 rfl (lv_at hl 1 rfl) ?_
  refine lv_iadd (pc := 5) hx hb dX11_checkWith_5 ?_
  refine lv_topi (fun x_2 _ => ?_)
  have rx_2 := n_rng x_2
  refine lv_sipush (pc := 6) (v := 253) hx hb dX11_checkWith_6 (by decide) ?_
  refine b_irem (pc := 9) hx hb rfl tI_253 (by omega) dX11_checkWith_9 (fun x_3 ex_3 => ?_)
  have rx_3 : ((-252) ≤ x_3.toInt ∧ x_3.toInt ≤ 252) := by omega
  exact hret x_3 ((fun _ => 0), (fun _ => (fun _ => 0)), (fun _ => (fun _ => 0)), (fun _ => 0), (fun _ => 0)) dX11_checkWith_10 (show ((((-252) ≤ x_3.toInt ∧ x_3.toInt ≤ 252))) by omega) (g_psub (wc := []) hP [] rfl) (hD.sub (ws' := []) [] (by decide) rfl) hS
set_option maxHeartbeats 4000000 in
set_option maxRecDepth 100000 in
theorem k_X11_image (l : Launch) (D : va_G) (cB cC cI cJ : ClassId) (sz : Nat) (a0 a1 a2 a3 a4 a5 a6 a7 a8 a9 a10 a11 a12 a13 a14 a15 a16 a17 a18 a19 : Nat) (x0 x1 x2 x3 x4 x5 x6 x7 x8 x9 x10 x11 x12 : Int32) (f0 f1 : Nat → Int32) (h_x0 : (0 ≤ x0.toInt ∧ x0.toInt ≤ 14)) (h_x1 : ((-1) ≤ x1.toInt ∧ x1.toInt ≤ 8)) (h_x2 : ((-1) ≤ x2.toInt ∧ x2.toInt ≤ 5)) (h_x3 : ((-1) ≤ x3.toInt ∧ x3.toInt ≤ 6)) (h_x4 : (0 ≤ x4.toInt ∧ x4.toInt ≤ 6)) (h_x5 : (0 ≤ x5.toInt ∧ x5.toInt ≤ 16)) (h_x8 : ((-1) ≤ x8.toInt ∧ x8.toInt ≤ 5)) (h_x9 : (0 ≤ x9.toInt ∧ x9.toInt ≤ 39)) (h_x10 : (0 ≤ x10.toInt ∧ x10.toInt ≤ 40)) (h_x11 : (0 ≤ x11.toInt ∧ x11.toInt ≤ 40)) (hr_a12_0 : (x10.toInt + x11.toInt ≤ 40)) : Met l yX11_image (.code yX11_image cX11_image 4 (some .int) :: lw_gd) ({ frames := 1, cells := 0, slots := 0, locals := 21 }) (gPre D [(cB, .byte), (cC, .char), (cI, .int), (cJ, .long)] [.ref a0] [(a0, .inr (11, [.ref a1, .ref a2, .ref a3, .ref a4, .ref a5, .ref a6, .ref a7, .ref a8, .ref a9, .ref a10, .int x0, .ref a11, .ref a12, .ref a13])), (a11, .inr (1, [.ref a14, .ref a15, .ref a16, .int x1, .int x2, .int x3, .int x4, .int x5, .int x6, .int x7])), (a12, .inr (2, [.ref a17, .ref a18, .ref a19, .int x8, .int x9, .int x10, .int x11, .int x12])), (a10, .inl (cI, 14, .inl f0)), (a7, .inl (cI, 6, .inl f1))] sz) (va_Qi (fun r u => (2 ≤ r.toInt ∧ r.toInt ≤ 14) ∧ (0 ≤ (u.2.2.2.1 0).toInt ∧ (u.2.2.2.1 0).toInt ≤ 14) ∧ (r.toInt = 2 * x3.toInt + 2 ∨ x3.toInt < 0)) (gB D (va_A [(a0, .inr (11, [.ref a1, .ref a2, .ref a3, .ref a4, .ref a5, .ref a6, .ref a7, .ref a8, .ref a9, .ref a10, .int x0, .ref a11, .ref a12, .ref a13])), (a11, .inr (1, [.ref a14, .ref a15, .ref a16, .int x1, .int x2, .int x3, .int x4, .int x5, .int x6, .int x7])), (a12, .inr (2, [.ref a17, .ref a18, .ref a19, .int x8, .int x9, .int x10, .int x11, .int x12])), (a10, .inl (cI, 14, .inl f0)), (a7, .inl (cI, 6, .inl f1))] sz) (fun u : gEx => [(a0, .inr (11, [.ref a1, .ref a2, .ref a3, .ref a4, .ref a5, .ref a6, .ref a7, .ref a8, .ref a9, .ref a10, .int (u.2.2.2.1 0), .ref a11, .ref a12, .ref a13])), (a11, .inr (1, [.ref a14, .ref a15, .ref a16, .int x1, .int x2, .int x3, .int x4, .int x5, .int x6, .int x7])), (a12, .inr (2, [.ref a17, .ref a18, .ref a19, .int x8, .int x9, .int x10, .int x11, .int x12])), (a10, .inl (cI, 14, .inl (u.2.1 0))), (a7, .inl (cI, 6, .inl f1))])) (va_A [(a0, .inr (11, [.ref a1, .ref a2, .ref a3, .ref a4, .ref a5, .ref a6, .ref a7, .ref a8, .ref a9, .ref a10, .int x0, .ref a11, .ref a12, .ref a13])), (a11, .inr (1, [.ref a14, .ref a15, .ref a16, .int x1, .int x2, .int x3, .int x4, .int x5, .int x6, .int x7])), (a12, .inr (2, [.ref a17, .ref a18, .ref a19, .int x8, .int x9, .int x10, .int x11, .int x12])), (a10, .inl (cI, 14, .inl f0)), (a7, .inl (cI, 6, .inl f1))] sz)) 0 0 (va_A [(a0, .inr (11, [.ref a1, .ref a2, .ref a3, .ref a4, .ref a5, .ref a6, .ref a7, .ref a8, .ref a9, .ref a10, .int x0, .ref a11, .ref a12, .ref a13])), (a11, .inr (1, [.ref a14, .ref a15, .ref a16, .int x1, .int x2, .int x3, .int x4, .int x5, .int x6, .int x7])), (a12, .inr (2, [.ref a17, .ref a18, .ref a19, .int x8, .int x9, .int x10, .int x11, .int x12])), (a10, .inl (cI, 14, .inl f0)), (a7, .inl (cI, 6, .inl f1))] sz) := by
  refine gOf_i (by decide +kernel) (Nat.le_of_ble_eq_true rfl) ?_
  intro p e s m args below meth c ls A Q hx hb hts hown hml hN hK hP hD hA hl hret
  replace hown : s.vm.findClass RX11 = some m.cls := hown
  have hS : va_S A s.heap s.heap [] := va_S.rf
  replace hP : va_P D gcl [(a0, .inr (11, [.ref a1, .ref a2, .ref a3, .ref a4, .ref a5, .ref a6, .ref a7, .ref a8, .ref a9, .ref a10, .int x0, .ref a11, .ref a12, .ref a13])), (a11, .inr (1, [.ref a14, .ref a15, .ref a16, .int x1, .int x2, .int x3, .int x4, .int x5, .int x6, .int x7])), (a12, .inr (2, [.ref a17, .ref a18, .ref a19, .int x8, .int x9, .int x10, .int x11, .int x12])), (a10, .inl (cI, 14, .inl f0)), (a7, .inl (cI, 6, .inl f1))] s.heap := hP
  replace hl : lv_has ls 4 [(0, .ref a0)] := hl
  have rx6 := n_rng x6
  have rx7 := n_rng x7
  have rx12 := n_rng x12
  refine lv_iconst (pc := 0) (v := 0) hx hb dX11_image_0 (by decide) ?_
  refine lv_istore_n (pc := 1) (lv' := [(1, .int 0), (0, .ref a0)]) hx hb dX11_image_1 rfl hl (by decide) rfl (fun ls hl => ?_)
  refine lv_iconst (pc := 2) (v := 0) hx hb dX11_image_2 (by decide) ?_
  refine lv_istore_n (pc := 3) (lv' := [(2, .int 0), (1, .int 0), (0, .ref a0)]) hx hb dX11_image_3 rfl hl (by decide) rfl (fun ls hl => ?_)
  have lp_9 : ∀ (n : Nat) (x_1 x_3 : Int32) (f_5 : Nat → Int32) (H : Heap) (locs : List Loc) (ls : Array Slot), (0 ≤ x_1.toInt ∧ x_1.toInt ≤ 2147483647) → (0 ≤ x_3.toInt ∧ x_3.toInt ≤ 12) → x_3.toInt = 2 * x_1.toInt → x_1.toInt ≤ 6 → (x_1.toInt ≤ x3.toInt ∨ x_1.toInt = 0) → (2147483647 - x_1.toInt).toNat < n → va_P D gcl [(a0, .inr (11, [.ref a1, .ref a2, .ref a3, .ref a4, .ref a5, .ref a6, .ref a7, .ref a8, .ref a9, .ref a10, .int x0, .ref a11, .ref a12, .ref a13])), (a11, .inr (1, [.ref a14, .ref a15, .ref a16, .int x1, .int x2, .int x3, .int x4, .int x5, .int x6, .int x7])), (a12, .inr (2, [.ref a17, .ref a18, .ref a19, .int x8, .int x9, .int x10, .int x11, .int x12])), (a10, .inl (cI, 14, .inl f_5)), (a7, .inl (cI, 6, .inl f1))] H → va_D A [(a0, .inr (11, [.ref a1, .ref a2, .ref a3, .ref a4, .ref a5, .ref a6, .ref a7, .ref a8, .ref a9, .ref a10, .int x0, .ref a11, .ref a12, .ref a13])), (a11, .inr (1, [.ref a14, .ref a15, .ref a16, .int x1, .int x2, .int x3, .int x4, .int x5, .int x6, .int x7])), (a12, .inr (2, [.ref a17, .ref a18, .ref a19, .int x8, .int x9, .int x10, .int x11, .int x12])), (a10, .inl (cI, 14, .inl f_5)), (a7, .inl (cI, 6, .inl f1))] → va_S A s.heap H locs → lv_has ls 4 [(2, .int x_1), (1, .int x_3), (0, .ref a0)] → W p l e ({ frames := 1, cells := 0, slots := 0, locals := 21 }) s m args below meth c H locs 0 0 Q (F0 m 4 ls []) := by
    intro n
    induction n with
    | zero => intro x_1 x_3 f_5 H locs ls hi_2 hi_4 hi_6 hi_7 hi_8 hmu; exact absurd hmu (Nat.not_lt_zero _)
    | succ n ih_lp_9 =>
      intro x_1 x_3 f_5 H locs ls hi_2 hi_4 hi_6 hi_7 hi_8 hmu_lp_9 hP hD hS hl
      refine lv_iload_n (pc := 4) hx hb dX11_image_4 rfl (lv_at hl 0 rfl) ?_
      refine lv_aload_n (pc := 5) hx hb dX11_image_5 rfl (lv_at hl 2 rfl) ?_
      refine va_get (pc := 6) (ci := 11) (v := .ref a11) (C := RX11) (T := TX11) (N := 14) hx hb hts iX11 hown hK hP 0 rfl rfl 11 (by decide) (hts _ tw_431) (fun _ h9 => h9) rfl dX11_image_6 ?_
      refine va_getN (pc := 9) (ci := 1) (v := .int x3) (C := RX1) (T := TX1) (N := 10) hx hb hts iX1 hown hK hP 1 rfl rfl 5 (by decide) (va_Nw.use rfl (hN _ tn_128)) (fun _ h9 => h9) rfl dX11_image_9 ?_
      refine b_icmp_ge (pc := 12) (tgt := 61) hx hb rfl rfl  dX11_image_12 (by decide) (fun c_10 => ?_) (fun c_10 => ?_)
      ·
        refine lv_aload_n (pc := 61) hx hb dX11_image_61 rfl (lv_at hl 2 rfl) ?_
        refine va_get (pc := 62) (ci := 11) (v := .ref a10) (C := RX11) (T := TX11) (N := 14) hx hb hts iX11 hown hK hP 0 rfl rfl 9 (by decide) (hts _ tw_429) (fun _ h9 => h9) rfl dX11_image_62 ?_
        refine lv_iload_n (pc := 65) hx hb dX11_image_65 rfl (lv_at hl 1 rfl) ?_
        refine lv_aload_n (pc := 66) hx hb dX11_image_66 rfl (lv_at hl 2 rfl) ?_
        refine va_get (pc := 67) (ci := 11) (v := .ref a12) (C := RX11) (T := TX11) (N := 14) hx hb hts iX11 hown hK hP 0 rfl rfl 12 (by decide) (hts _ tw_432) (fun _ h9 => h9) rfl dX11_image_67 ?_
        refine va_getN (pc := 70) (ci := 2) (v := .int x12) (C := RX2) (T := TX2) (N := 8) hx hb hts iX2 hown hK hP 2 rfl rfl 7 (by decide) (va_Nw.use rfl (hN _ tn_402)) (fun _ h9 => h9) rfl dX11_image_70 ?_
        refine g_iastore (pc := 73) hx hb hK hP hD hS 3 2 rfl rfl (n_in rfl (by omega) (by omega)) dX11_image_73 (fun f_11 H locs hP hD hS => ?_)
        replace hP : va_P D gcl [(a0, .inr (11, [.ref a1, .ref a2, .ref a3, .ref a4, .ref a5, .ref a6, .ref a7, .ref a8, .ref a9, .ref a10, .int x0, .ref a11, .ref a12, .ref a13])), (a11, .inr (1, [.ref a14, .ref a15, .ref a16, .int x1, .int x2, .int x3, .int x4, .int x5, .int x6, .int x7])), (a12, .inr (2, [.ref a17, .ref a18, .ref a19, .int x8, .int x9, .int x10, .int x11, .int x12])), (a10, .inl (cI, 14, .inl f_11)), (a7, .inl (cI, 6, .inl f1))] H := hP
        replace hD : va_D A [(a0, .inr (11, [.ref a1, .ref a2, .ref a3, .ref a4, .ref a5, .ref a6, .ref a7, .ref a8, .ref a9, .ref a10, .int x0, .ref a11, .ref a12, .ref a13])), (a11, .inr (1, [.ref a14, .ref a15, .ref a16, .int x1, .int x2, .int x3, .int x4, .int x5, .int x6, .int x7])), (a12, .inr (2, [.ref a17, .ref a18, .ref a19, .int x8, .int x9, .int x10, .int x11, .int x12])), (a10, .inl (cI, 14, .inl f_11)), (a7, .inl (cI, 6, .inl f1))] := hD
        refine b_iinc (pc := 74) hx hb dX11_image_74 hl (k := 1) rfl rfl tI_1 (by omega) (by omega) (by decide) (fun x_12 ex_12 ls hl => ?_)
        replace hl : lv_has ls 4 [(1, .int x_12), (2, .int x_1), (0, .ref a0)] := hl
        refine lv_bipush (pc := 77) (v := 51) hx hb dX11_image_77 (by decide) ?_
        refine lv_istore_n (pc := 79) (lv' := [(2, .int 51), (1, .int x_12), (0, .ref a0)]) hx hb dX11_image_79 rfl hl (by decide) rfl (fun ls hl => ?_)
        refine lv_iconst (pc := 80) (v := 0) hx hb dX11_image_80 (by decide) ?_
        refine lv_istore_n (pc := 81) (lv' := [(3, .int 0), (2, .int 51), (1, .int x_12), (0, .ref a0)]) hx hb dX11_image_81 rfl hl (by decide) rfl (fun ls hl => ?_)
        have lp_17 : ∀ (n : Nat) (x_13 x_15 : Int32) (H : Heap) (locs : List Loc) (ls : Array Slot), (0 ≤ x_13.toInt ∧ x_13.toInt ≤ 2147483647) → (2147483647 - x_13.toInt).toNat < n → va_P D gcl [(a0, .inr (11, [.ref a1, .ref a2, .ref a3, .ref a4, .ref a5, .ref a6, .ref a7, .ref a8, .ref a9, .ref a10, .int x0, .ref a11, .ref a12, .ref a13])), (a11, .inr (1, [.ref a14, .ref a15, .ref a16, .int x1, .int x2, .int x3, .int x4, .int x5, .int x6, .int x7])), (a12, .inr (2, [.ref a17, .ref a18, .ref a19, .int x8, .int x9, .int x10, .int x11, .int x12])), (a10, .inl (cI, 14, .inl f_11)), (a7, .inl (cI, 6, .inl f1))] H → va_D A [(a0, .inr (11, [.ref a1, .ref a2, .ref a3, .ref a4, .ref a5, .ref a6, .ref a7, .ref a8, .ref a9, .ref a10, .int x0, .ref a11, .ref a12, .ref a13])), (a11, .inr (1, [.ref a14, .ref a15, .ref a16, .int x1, .int x2, .int x3, .int x4, .int x5, .int x6, .int x7])), (a12, .inr (2, [.ref a17, .ref a18, .ref a19, .int x8, .int x9, .int x10, .int x11, .int x12])), (a10, .inl (cI, 14, .inl f_11)), (a7, .inl (cI, 6, .inl f1))] → va_S A s.heap H locs → lv_has ls 4 [(3, .int x_13), (2, .int x_15), (1, .int x_12), (0, .ref a0)] → W p l e ({ frames := 1, cells := 0, slots := 0, locals := 21 }) s m args below meth c H locs 0 0 Q (F0 m 82 ls []) := by
          intro n
          induction n with
          | zero => intro x_13 x_15 H locs ls hi_14 hmu; exact absurd hmu (Nat.not_lt_zero _)
          | succ n ih_lp_17 =>
            intro x_13 x_15 H locs ls hi_14 hmu_lp_17 hP hD hS hl
            have hi_16 := n_rng x_15
            refine lv_iload_n (pc := 82) hx hb dX11_image_82 rfl (lv_at hl 0 rfl) ?_
            refine lv_iload_n (pc := 83) hx hb dX11_image_83 rfl (lv_at hl 2 rfl) ?_
            refine b_icmp_ge (pc := 84) (tgt := 104) hx hb rfl rfl  dX11_image_84 (by decide) (fun c_18 => ?_) (fun c_18 => ?_)
            ·
              refine lv_aload_n (pc := 104) hx hb dX11_image_104 rfl (lv_at hl 3 rfl) ?_
              refine va_get (pc := 105) (ci := 11) (v := .ref a10) (C := RX11) (T := TX11) (N := 14) hx hb hts iX11 hown hK hP 0 rfl rfl 9 (by decide) (hts _ tw_429) (fun _ h9 => h9) rfl dX11_image_105 ?_
              refine lv_iload_n (pc := 108) hx hb dX11_image_108 rfl (lv_at hl 2 rfl) ?_
              refine lv_iload_n (pc := 109) hx hb dX11_image_109 rfl (lv_at hl 1 rfl) ?_
              refine g_iastore (pc := 110) hx hb hK hP hD hS 3 2 rfl rfl (n_in rfl (by omega) (by omega)) dX11_image_110 (fun f_19 H locs hP hD hS => ?_)
              replace hP : va_P D gcl [(a0, .inr (11, [.ref a1, .ref a2, .ref a3, .ref a4, .ref a5, .ref a6, .ref a7, .ref a8, .ref a9, .ref a10, .int x0, .ref a11, .ref a12, .ref a13])), (a11, .inr (1, [.ref a14, .ref a15, .ref a16, .int x1, .int x2, .int x3, .int x4, .int x5, .int x6, .int x7])), (a12, .inr (2, [.ref a17, .ref a18, .ref a19, .int x8, .int x9, .int x10, .int x11, .int x12])), (a10, .inl (cI, 14, .inl f_19)), (a7, .inl (cI, 6, .inl f1))] H := hP
              replace hD : va_D A [(a0, .inr (11, [.ref a1, .ref a2, .ref a3, .ref a4, .ref a5, .ref a6, .ref a7, .ref a8, .ref a9, .ref a10, .int x0, .ref a11, .ref a12, .ref a13])), (a11, .inr (1, [.ref a14, .ref a15, .ref a16, .int x1, .int x2, .int x3, .int x4, .int x5, .int x6, .int x7])), (a12, .inr (2, [.ref a17, .ref a18, .ref a19, .int x8, .int x9, .int x10, .int x11, .int x12])), (a10, .inl (cI, 14, .inl f_19)), (a7, .inl (cI, 6, .inl f1))] := hD
              refine lv_aload_n (pc := 111) hx hb dX11_image_111 rfl (lv_at hl 3 rfl) ?_
              refine lv_iload_n (pc := 112) hx hb dX11_image_112 rfl (lv_at hl 2 rfl) ?_
              refine lv_iconst (pc := 113) (v := 1) hx hb dX11_image_113 (by decide) ?_
              refine b_iadd (pc := 114) hx hb rfl tI_1 (by omega) (by omega) dX11_image_114 (fun x_20 ex_20 => ?_)
              refine va_put (pc := 115) (ci := 11) (v := .int x_20) (ty := .int) (C := RX11) (T := TX11) (N := 14) hx hb hts iX11 tyX11 tyX11_ok nmX11 hown hK hP hD hS 0 rfl rfl 10 (by decide) (hts _ tw_430) (fun _ h9 => h9) rfl (by decide +kernel) rfl rfl (Nat.le_of_ble_eq_true rfl) dX11_image_115 (fun H locs hP hD hS => ?_)
              replace hP : va_P D gcl [(a0, .inr (11, [.ref a1, .ref a2, .ref a3, .ref a4, .ref a5, .ref a6, .ref a7, .ref a8, .ref a9, .ref a10, .int x_20, .ref a11, .ref a12, .ref a13])), (a11, .inr (1, [.ref a14, .ref a15, .ref a16, .int x1, .int x2, .int x3, .int x4, .int x5, .int x6, .int x7])), (a12, .inr (2, [.ref a17, .ref a18, .ref a19, .int x8, .int x9, .int x10, .int x11, .int x12])), (a10, .inl (cI, 14, .inl f_19)), (a7, .inl (cI, 6, .inl f1))] H := hP
              replace hD : va_D A [(a0, .inr (11, [.ref a1, .ref a2, .ref a3, .ref a4, .ref a5, .ref a6, .ref a7, .ref a8, .ref a9, .ref a10, .int x_20, .ref a11, .ref a12, .ref a13])), (a11, .inr (1, [.ref a14, .ref a15, .ref a16, .int x1, .int x2, .int x3, .int x4, .int x5, .int x6, .int x7])), (a12, .inr (2, [.ref a17, .ref a18, .ref a19, .int x8, .int x9, .int x10, .int x11, .int x12])), (a10, .inl (cI, 14, .inl f_19)), (a7, .inl (cI, 6, .inl f1))] := hD
              refine lv_aload_n (pc := 118) hx hb dX11_image_118 rfl (lv_at hl 3 rfl) ?_
              refine va_get (pc := 119) (ci := 11) (v := .int x_20) (C := RX11) (T := TX11) (N := 14) hx hb hts iX11 hown hK hP 0 rfl rfl 10 (by decide) (hts _ tw_430) (fun _ h9 => h9) rfl dX11_image_119 ?_
              exact hret x_20 ((fun _ => 0), (fun k => [f_19].getD k (fun _ => 0)), (fun _ => (fun _ => 0)), (fun k => [x_20].getD k 0), (fun _ => 0)) dX11_image_122 ⟨(show (2 ≤ x_20.toInt ∧ x_20.toInt ≤ 14) by omega), (show (0 ≤ (x_20 : Int32).toInt ∧ (x_20 : Int32).toInt ≤ 14) by omega), (show x_20.toInt = 2 * x3.toInt + 2 ∨ x3.toInt < 0 by omega)⟩ (g_psub (wc := [(a0, .inr (11, [.ref a1, .ref a2, .ref a3, .ref a4, .ref a5, .ref a6, .ref a7, .ref a8, .ref a9, .ref a10, .int x_20, .ref a11, .ref a12, .ref a13])), (a11, .inr (1, [.ref a14, .ref a15, .ref a16, .int x1, .int x2, .int x3, .int x4, .int x5, .int x6, .int x7])), (a12, .inr (2, [.ref a17, .ref a18, .ref a19, .int x8, .int x9, .int x10, .int x11, .int x12])), (a10, .inl (cI, 14, .inl f_19)), (a7, .inl (cI, 6, .inl f1))]) hP [0, 1, 2, 3, 4] rfl) (hD.sub (ws' := [(a0, .inr (11, [.ref a1, .ref a2, .ref a3, .ref a4, .ref a5, .ref a6, .ref a7, .ref a8, .ref a9, .ref a10, .int x_20, .ref a11, .ref a12, .ref a13])), (a11, .inr (1, [.ref a14, .ref a15, .ref a16, .int x1, .int x2, .int x3, .int x4, .int x5, .int x6, .int x7])), (a12, .inr (2, [.ref a17, .ref a18, .ref a19, .int x8, .int x9, .int x10, .int x11, .int x12])), (a10, .inl (cI, 14, .inl f_19)), (a7, .inl (cI, 6, .inl f1))]) [0, 1, 2, 3, 4] (by decide) rfl) hS
            ·
              refine lv_iload_n (pc := 87) hx hb dX11_image_87 rfl (lv_at hl 1 rfl) ?_
              refine lv_aload_n (pc := 88) hx hb dX11_image_88 rfl (lv_at hl 3 rfl) ?_
              refine va_get (pc := 89) (ci := 11) (v := .ref a10) (C := RX11) (T := TX11) (N := 14) hx hb hts iX11 hown hK hP 0 rfl rfl 9 (by decide) (hts _ tw_429) (fun _ h9 => h9) rfl dX11_image_89 ?_
              refine lv_iload_n (pc := 92) hx hb dX11_image_92 rfl (lv_at hl 0 rfl) ?_
              refine va_iald (pc := 93) hx hb hK hP 3 2 rfl rfl (n_in rfl (by omega) (by omega)) dX11_image_93 ?_
              refine lv_topi (fun x_21 ex_21 => ?_)
              have rx_21 := n_rng x_21
              refine gc_i (pc := 94) (wc := []) (wr := [(a0, .inr (11, [.ref a1, .ref a2, .ref a3, .ref a4, .ref a5, .ref a6, .ref a7, .ref a8, .ref a9, .ref a10, .int x0, .ref a11, .ref a12, .ref a13])), (a11, .inr (1, [.ref a14, .ref a15, .ref a16, .int x1, .int x2, .int x3, .int x4, .int x5, .int x6, .int x7])), (a12, .inr (2, [.ref a17, .ref a18, .ref a19, .int x8, .int x9, .int x10, .int x11, .int x12])), (a10, .inl (cI, 14, .inl f_11)), (a7, .inl (cI, 6, .inl f1))]) hP hD hS hA [] [0, 1, 2, 3, 4] rfl rfl (by decide) (by decide) (by decide) (fun hPc hDc => va_runS (As := [.int x_15, .int x_21]) (rest := []) ⟨hx, hb, hml, hown, hts⟩ (k_X11_checkWith l D cB cC cI cJ _ x_15 x_21) ⟨gcwB hts tw_1381 tw_1 tw_1379 hd_yX11_checkWith ⟨Nat.le_of_ble_eq_true rfl, Nat.le_of_ble_eq_true rfl⟩, hts _ tw_1380⟩ (gpreS hPc hK hDc hN) rfl rfl hl.1 rfl (lv_room (Nat.le_of_ble_eq_true rfl)) dX11_image_94 ⟨Nat.le_of_ble_eq_true rfl, Nat.le_of_ble_eq_true rfl⟩) (fun r_23 u_22 H locs hw_24 hP hD hS => ?_)
              replace hP : va_P D gcl [(a0, .inr (11, [.ref a1, .ref a2, .ref a3, .ref a4, .ref a5, .ref a6, .ref a7, .ref a8, .ref a9, .ref a10, .int x0, .ref a11, .ref a12, .ref a13])), (a11, .inr (1, [.ref a14, .ref a15, .ref a16, .int x1, .int x2, .int x3, .int x4, .int x5, .int x6, .int x7])), (a12, .inr (2, [.ref a17, .ref a18, .ref a19, .int x8, .int x9, .int x10, .int x11, .int x12])), (a10, .inl (cI, 14, .inl f_11)), (a7, .inl (cI, 6, .inl f1))] H := hP
              replace hD : va_D A [(a0, .inr (11, [.ref a1, .ref a2, .ref a3, .ref a4, .ref a5, .ref a6, .ref a7, .ref a8, .ref a9, .ref a10, .int x0, .ref a11, .ref a12, .ref a13])), (a11, .inr (1, [.ref a14, .ref a15, .ref a16, .int x1, .int x2, .int x3, .int x4, .int x5, .int x6, .int x7])), (a12, .inr (2, [.ref a17, .ref a18, .ref a19, .int x8, .int x9, .int x10, .int x11, .int x12])), (a10, .inl (cI, 14, .inl f_11)), (a7, .inl (cI, 6, .inl f1))] := hD
              have hw_25 : ((((-252) ≤ r_23.toInt ∧ r_23.toInt ≤ 252))) := hw_24
              have rr_23 := n_rng r_23
              refine lv_istore_n (pc := 97) (lv' := [(2, .int r_23), (3, .int x_13), (1, .int x_12), (0, .ref a0)]) hx hb dX11_image_97 rfl hl (by decide) rfl (fun ls hl => ?_)
              refine b_iinc (pc := 98) hx hb dX11_image_98 hl (k := 1) rfl rfl tI_1 (by omega) (by omega) (by decide) (fun x_26 ex_26 ls hl => ?_)
              replace hl : lv_has ls 4 [(3, .int x_26), (2, .int r_23), (1, .int x_12), (0, .ref a0)] := hl
              refine lv_goto (pc := 101) (tgt := 82) hx hb dX11_image_101 (by decide) ?_
              exact ih_lp_17 x_26 r_23 _ _ ls (by omega) (by omega) hP hD hS (lv_sub hl [0, 1, 2, 3] rfl)
        exact lp_17 _ 0 51 _ _ ls (n_c tI_0 (by decide)) (Nat.lt_succ_self _) hP hD hS (lv_sub hl [0, 1, 2, 3] rfl)
      ·
        refine lv_aload_n (pc := 15) hx hb dX11_image_15 rfl (lv_at hl 2 rfl) ?_
        refine va_get (pc := 16) (ci := 11) (v := .ref a10) (C := RX11) (T := TX11) (N := 14) hx hb hts iX11 hown hK hP 0 rfl rfl 9 (by decide) (hts _ tw_429) (fun _ h9 => h9) rfl dX11_image_16 ?_
        refine lv_iload_n (pc := 19) hx hb dX11_image_19 rfl (lv_at hl 1 rfl) ?_
        refine lv_aload_n (pc := 20) hx hb dX11_image_20 rfl (lv_at hl 2 rfl) ?_
        refine va_get (pc := 21) (ci := 11) (v := .ref a7) (C := RX11) (T := TX11) (N := 14) hx hb hts iX11 hown hK hP 0 rfl rfl 6 (by decide) (hts _ tw_426) (fun _ h9 => h9) rfl dX11_image_21 ?_
        refine lv_iload_n (pc := 24) hx hb dX11_image_24 rfl (lv_at hl 0 rfl) ?_
        refine va_iald (pc := 25) hx hb hK hP 4 2 rfl rfl (n_in rfl (by omega) (by omega)) dX11_image_25 ?_
        refine lv_topi (fun x_27 ex_27 => ?_)
        have rx_27 := n_rng x_27
        refine lv_bipush (pc := 26) (v := 8) hx hb dX11_image_26 (by decide) ?_
        refine lv_ishr (pc := 28) hx hb dX11_image_28 ?_
        refine lv_topi (fun x_28 _ => ?_)
        have rx_28 := n_rng x_28
        refine lv_sipush (pc := 29) (v := 255) hx hb dX11_image_29 (by decide) ?_
        refine b_iand (pc := 32) (M := 255) hx hb 8 (by decide +kernel) (by decide) (by decide) dX11_image_32 (fun x_29 ex_29 => ?_)
        have rx_29 : (0 ≤ x_29.toInt ∧ x_29.toInt ≤ 255) := by omega
        refine g_iastore (pc := 33) hx hb hK hP hD hS 3 2 rfl rfl (n_in rfl (by omega) (by omega)) dX11_image_33 (fun f_30 H locs hP hD hS => ?_)
        replace hP : va_P D gcl [(a0, .inr (11, [.ref a1, .ref a2, .ref a3, .ref a4, .ref a5, .ref a6, .ref a7, .ref a8, .ref a9, .ref a10, .int x0, .ref a11, .ref a12, .ref a13])), (a11, .inr (1, [.ref a14, .ref a15, .ref a16, .int x1, .int x2, .int x3, .int x4, .int x5, .int x6, .int x7])), (a12, .inr (2, [.ref a17, .ref a18, .ref a19, .int x8, .int x9, .int x10, .int x11, .int x12])), (a10, .inl (cI, 14, .inl f_30)), (a7, .inl (cI, 6, .inl f1))] H := hP
        replace hD : va_D A [(a0, .inr (11, [.ref a1, .ref a2, .ref a3, .ref a4, .ref a5, .ref a6, .ref a7, .ref a8, .ref a9, .ref a10, .int x0, .ref a11, .ref a12, .ref a13])), (a11, .inr (1, [.ref a14, .ref a15, .ref a16, .int x1, .int x2, .int x3, .int x4, .int x5, .int x6, .int x7])), (a12, .inr (2, [.ref a17, .ref a18, .ref a19, .int x8, .int x9, .int x10, .int x11, .int x12])), (a10, .inl (cI, 14, .inl f_30)), (a7, .inl (cI, 6, .inl f1))] := hD
        refine lv_aload_n (pc := 34) hx hb dX11_image_34 rfl (lv_at hl 2 rfl) ?_
        refine va_get (pc := 35) (ci := 11) (v := .ref a10) (C := RX11) (T := TX11) (N := 14) hx hb hts iX11 hown hK hP 0 rfl rfl 9 (by decide) (hts _ tw_429) (fun _ h9 => h9) rfl dX11_image_35 ?_
        refine lv_iload_n (pc := 38) hx hb dX11_image_38 rfl (lv_at hl 1 rfl) ?_
        refine lv_iconst (pc := 39) (v := 1) hx hb dX11_image_39 (by decide) ?_
        refine b_iadd (pc := 40) hx hb rfl tI_1 (by omega) (by omega) dX11_image_40 (fun x_31 ex_31 => ?_)
        refine lv_aload_n (pc := 41) hx hb dX11_image_41 rfl (lv_at hl 2 rfl) ?_
        refine va_get (pc := 42) (ci := 11) (v := .ref a7) (C := RX11) (T := TX11) (N := 14) hx hb hts iX11 hown hK hP 0 rfl rfl 6 (by decide) (hts _ tw_426) (fun _ h9 => h9) rfl dX11_image_42 ?_
        refine lv_iload_n (pc := 45) hx hb dX11_image_45 rfl (lv_at hl 0 rfl) ?_
        refine va_iald (pc := 46) hx hb hK hP 4 2 rfl rfl (n_in rfl (by omega) (by omega)) dX11_image_46 ?_
        refine gI (y := x_27) ex_27.symm ?_
        refine lv_sipush (pc := 47) (v := 255) hx hb dX11_image_47 (by decide) ?_
        refine b_iand (pc := 50) (M := 255) hx hb 8 (by decide +kernel) (by decide) (by decide) dX11_image_50 (fun x_32 ex_32 => ?_)
        have rx_32 : (0 ≤ x_32.toInt ∧ x_32.toInt ≤ 255) := by omega
        refine g_iastore (pc := 51) hx hb hK hP hD hS 3 2 rfl rfl (n_in rfl (by omega) (by omega)) dX11_image_51 (fun f_33 H locs hP hD hS => ?_)
        replace hP : va_P D gcl [(a0, .inr (11, [.ref a1, .ref a2, .ref a3, .ref a4, .ref a5, .ref a6, .ref a7, .ref a8, .ref a9, .ref a10, .int x0, .ref a11, .ref a12, .ref a13])), (a11, .inr (1, [.ref a14, .ref a15, .ref a16, .int x1, .int x2, .int x3, .int x4, .int x5, .int x6, .int x7])), (a12, .inr (2, [.ref a17, .ref a18, .ref a19, .int x8, .int x9, .int x10, .int x11, .int x12])), (a10, .inl (cI, 14, .inl f_33)), (a7, .inl (cI, 6, .inl f1))] H := hP
        replace hD : va_D A [(a0, .inr (11, [.ref a1, .ref a2, .ref a3, .ref a4, .ref a5, .ref a6, .ref a7, .ref a8, .ref a9, .ref a10, .int x0, .ref a11, .ref a12, .ref a13])), (a11, .inr (1, [.ref a14, .ref a15, .ref a16, .int x1, .int x2, .int x3, .int x4, .int x5, .int x6, .int x7])), (a12, .inr (2, [.ref a17, .ref a18, .ref a19, .int x8, .int x9, .int x10, .int x11, .int x12])), (a10, .inl (cI, 14, .inl f_33)), (a7, .inl (cI, 6, .inl f1))] := hD
        refine b_iinc (pc := 52) hx hb dX11_image_52 hl (k := 1) rfl rfl tI_2 (by omega) (by omega) (by decide) (fun x_34 ex_34 ls hl => ?_)
        replace hl : lv_has ls 4 [(1, .int x_34), (2, .int x_1), (0, .ref a0)] := hl
        refine b_iinc (pc := 55) hx hb dX11_image_55 hl (k := 1) rfl rfl tI_1 (by omega) (by omega) (by decide) (fun x_35 ex_35 ls hl => ?_)
        replace hl : lv_has ls 4 [(2, .int x_35), (1, .int x_34), (0, .ref a0)] := hl
        refine lv_goto (pc := 58) (tgt := 4) hx hb dX11_image_58 (by decide) ?_
        exact ih_lp_9 x_35 x_34 f_33 _ _ ls (by omega) (by omega) (by omega) (by omega) (by omega) (by omega) hP hD hS (lv_sub hl [0, 1, 2] rfl)
  exact lp_9 _ 0 0 f0 _ _ ls (n_c tI_0 (by decide)) (n_c tI_0 (by decide)) (by have k0 := tI_0; omega) (by have k0 := tI_0; omega) (by have q := tI_0; omega) (Nat.lt_succ_self _) hP hD hS (lv_sub hl [0, 1, 2] rfl)
set_option maxHeartbeats 4000000 in
set_option maxRecDepth 100000 in
theorem k_X11_octet (l : Launch) (D : va_G) (cB cC cI cJ : ClassId) (sz : Nat) (a0 a1 a2 a3 a4 a5 a6 a7 a8 a9 a10 a11 a12 a13 : Nat) (x0 x1 : Int32) (f0 : Nat → Int32) (h_x1 : (0 ≤ x1.toInt ∧ x1.toInt ≤ 14)) : Met l yX11_octet (.code yX11_octet cX11_octet 2 (some .int) :: lw_gd) ({ frames := 0, cells := 0, slots := 0, locals := 0 }) (gPre D [(cB, .byte), (cC, .char), (cI, .int), (cJ, .long)] [.ref a0, .int x0] [(a0, .inr (11, [.ref a1, .ref a2, .ref a3, .ref a4, .ref a5, .ref a6, .ref a7, .ref a8, .ref a9, .ref a10, .int x1, .ref a11, .ref a12, .ref a13])), (a10, .inl (cI, 14, .inl f0))] sz) (va_Qi (fun r u => ((r.toInt = (-1) ∧ x0.toInt < 0) ∨ (r.toInt = (-1) ∧ x0.toInt ≥ 0 ∧ x0.toInt ≥ x1.toInt) ∨ (((-2147483648) ≤ r.toInt ∧ r.toInt ≤ 2147483647) ∧ x0.toInt ≥ 0 ∧ x0.toInt < x1.toInt))) (gB D (va_A [(a0, .inr (11, [.ref a1, .ref a2, .ref a3, .ref a4, .ref a5, .ref a6, .ref a7, .ref a8, .ref a9, .ref a10, .int x1, .ref a11, .ref a12, .ref a13])), (a10, .inl (cI, 14, .inl f0))] sz) (fun u : gEx => [(a0, .inr (11, [.ref a1, .ref a2, .ref a3, .ref a4, .ref a5, .ref a6, .ref a7, .ref a8, .ref a9, .ref a10, .int x1, .ref a11, .ref a12, .ref a13])), (a10, .inl (cI, 14, .inl f0))])) (va_A [(a0, .inr (11, [.ref a1, .ref a2, .ref a3, .ref a4, .ref a5, .ref a6, .ref a7, .ref a8, .ref a9, .ref a10, .int x1, .ref a11, .ref a12, .ref a13])), (a10, .inl (cI, 14, .inl f0))] sz)) 0 0 (va_A [(a0, .inr (11, [.ref a1, .ref a2, .ref a3, .ref a4, .ref a5, .ref a6, .ref a7, .ref a8, .ref a9, .ref a10, .int x1, .ref a11, .ref a12, .ref a13])), (a10, .inl (cI, 14, .inl f0))] sz) := by
  refine gOf_i (by decide +kernel) (Nat.le_of_ble_eq_true rfl) ?_
  intro p e s m args below meth c ls A Q hx hb hts hown hml hN hK hP hD hA hl hret
  replace hown : s.vm.findClass RX11 = some m.cls := hown
  have hS : va_S A s.heap s.heap [] := va_S.rf
  replace hP : va_P D gcl [(a0, .inr (11, [.ref a1, .ref a2, .ref a3, .ref a4, .ref a5, .ref a6, .ref a7, .ref a8, .ref a9, .ref a10, .int x1, .ref a11, .ref a12, .ref a13])), (a10, .inl (cI, 14, .inl f0))] s.heap := hP
  replace hl : lv_has ls 2 [(0, .ref a0), (1, .int x0)] := hl
  have rx0 := n_rng x0
  refine lv_iload_n (pc := 0) hx hb dX11_octet_0 rfl (lv_at hl 1 rfl) ?_
  refine b_if_lt (pc := 1) (tgt := 21) hx hb rfl  dX11_octet_1 (by decide) (fun c_1 => ?_) (fun c_1 => ?_)
  ·
    refine lv_iconst (pc := 21) (v := (-1)) hx hb dX11_octet_21 (by decide) ?_
    exact hret (-1) ((fun _ => 0), (fun _ => (fun _ => 0)), (fun _ => (fun _ => 0)), (fun _ => 0), (fun _ => 0)) dX11_octet_22 (show ((((-1) : Int32).toInt = (-1) ∧ x0.toInt < 0) ∨ (((-1) : Int32).toInt = (-1) ∧ x0.toInt ≥ 0 ∧ x0.toInt ≥ x1.toInt) ∨ (((-2147483648) ≤ ((-1) : Int32).toInt ∧ ((-1) : Int32).toInt ≤ 2147483647) ∧ x0.toInt ≥ 0 ∧ x0.toInt < x1.toInt)) by have k9 := tI_m1; omega) (g_psub (wc := [(a0, .inr (11, [.ref a1, .ref a2, .ref a3, .ref a4, .ref a5, .ref a6, .ref a7, .ref a8, .ref a9, .ref a10, .int x1, .ref a11, .ref a12, .ref a13])), (a10, .inl (cI, 14, .inl f0))]) hP [0, 1] rfl) (hD.sub (ws' := [(a0, .inr (11, [.ref a1, .ref a2, .ref a3, .ref a4, .ref a5, .ref a6, .ref a7, .ref a8, .ref a9, .ref a10, .int x1, .ref a11, .ref a12, .ref a13])), (a10, .inl (cI, 14, .inl f0))]) [0, 1] (by decide) rfl) hS
  ·
    refine lv_iload_n (pc := 4) hx hb dX11_octet_4 rfl (lv_at hl 1 rfl) ?_
    refine lv_aload_n (pc := 5) hx hb dX11_octet_5 rfl (lv_at hl 0 rfl) ?_
    refine va_get (pc := 6) (ci := 11) (v := .int x1) (C := RX11) (T := TX11) (N := 14) hx hb hts iX11 hown hK hP 0 rfl rfl 10 (by decide) (hts _ tw_430) (fun _ h9 => h9) rfl dX11_octet_6 ?_
    refine b_icmp_ge (pc := 9) (tgt := 21) hx hb rfl rfl  dX11_octet_9 (by decide) (fun c_2 => ?_) (fun c_2 => ?_)
    ·
      refine lv_iconst (pc := 21) (v := (-1)) hx hb dX11_octet_21 (by decide) ?_
      exact hret (-1) ((fun _ => 0), (fun _ => (fun _ => 0)), (fun _ => (fun _ => 0)), (fun _ => 0), (fun _ => 0)) dX11_octet_22 (show ((((-1) : Int32).toInt = (-1) ∧ x0.toInt < 0) ∨ (((-1) : Int32).toInt = (-1) ∧ x0.toInt ≥ 0 ∧ x0.toInt ≥ x1.toInt) ∨ (((-2147483648) ≤ ((-1) : Int32).toInt ∧ ((-1) : Int32).toInt ≤ 2147483647) ∧ x0.toInt ≥ 0 ∧ x0.toInt < x1.toInt)) by have k9 := tI_m1; omega) (g_psub (wc := [(a0, .inr (11, [.ref a1, .ref a2, .ref a3, .ref a4, .ref a5, .ref a6, .ref a7, .ref a8, .ref a9, .ref a10, .int x1, .ref a11, .ref a12, .ref a13])), (a10, .inl (cI, 14, .inl f0))]) hP [0, 1] rfl) (hD.sub (ws' := [(a0, .inr (11, [.ref a1, .ref a2, .ref a3, .ref a4, .ref a5, .ref a6, .ref a7, .ref a8, .ref a9, .ref a10, .int x1, .ref a11, .ref a12, .ref a13])), (a10, .inl (cI, 14, .inl f0))]) [0, 1] (by decide) rfl) hS
    ·
      refine lv_aload_n (pc := 12) hx hb dX11_octet_12 rfl (lv_at hl 0 rfl) ?_
      refine va_get (pc := 13) (ci := 11) (v := .ref a10) (C := RX11) (T := TX11) (N := 14) hx hb hts iX11 hown hK hP 0 rfl rfl 9 (by decide) (hts _ tw_429) (fun _ h9 => h9) rfl dX11_octet_13 ?_
      refine lv_iload_n (pc := 16) hx hb dX11_octet_16 rfl (lv_at hl 1 rfl) ?_
      refine va_iald (pc := 17) hx hb hK hP 1 2 rfl rfl (n_in rfl (by omega) (by omega)) dX11_octet_17 ?_
      refine lv_topi (fun x_3 ex_3 => ?_)
      have rx_3 := n_rng x_3
      refine lv_goto (pc := 18) (tgt := 22) hx hb dX11_octet_18 (by decide) ?_
      exact hret x_3 ((fun _ => 0), (fun _ => (fun _ => 0)), (fun _ => (fun _ => 0)), (fun _ => 0), (fun _ => 0)) dX11_octet_22 (show ((x_3.toInt = (-1) ∧ x0.toInt < 0) ∨ (x_3.toInt = (-1) ∧ x0.toInt ≥ 0 ∧ x0.toInt ≥ x1.toInt) ∨ (((-2147483648) ≤ x_3.toInt ∧ x_3.toInt ≤ 2147483647) ∧ x0.toInt ≥ 0 ∧ x0.toInt < x1.toInt)) by omega) (g_psub (wc := [(a0, .inr (11, [.ref a1, .ref a2, .ref a3, .ref a4, .ref a5, .ref a6, .ref a7, .ref a8, .ref a9, .ref a10, .int x1, .ref a11, .ref a12, .ref a13])), (a10, .inl (cI, 14, .inl f0))]) hP [0, 1] rfl) (hD.sub (ws' := [(a0, .inr (11, [.ref a1, .ref a2, .ref a3, .ref a4, .ref a5, .ref a6, .ref a7, .ref a8, .ref a9, .ref a10, .int x1, .ref a11, .ref a12, .ref a13])), (a10, .inl (cI, 14, .inl f0))]) [0, 1] (by decide) rfl) hS
set_option maxHeartbeats 4000000 in
set_option maxRecDepth 100000 in
theorem k_X11_checkWith_E (l : Launch) (D : va_G) (cB cC cI cJ : ClassId) (sz : Nat) (x0 x1 : Int32) (hp0 : (0 ≤ x0.toInt ∧ x0.toInt ≤ 252)) (hp1 : (0 ≤ x1.toInt ∧ x1.toInt ≤ 255)) : Met l yX11_checkWith (.code yX11_checkWith cX11_checkWith 2 (some .int) :: lw_gd) ({ frames := 0, cells := 0, slots := 0, locals := 0 }) (gPre D [(cB, .byte), (cC, .char), (cI, .int), (cJ, .long)] [.int x0, .int x1] [] sz) (va_Qi (fun r u => (0 ≤ r.toInt ∧ r.toInt ≤ 252) ∧ (r.toInt = (7 * x0.toInt + x1.toInt) % 253)) (gB D (va_A [] sz) (fun u : gEx => [])) (va_A [] sz)) 0 0 (va_A [] sz) := by
  refine gOf_i (by decide +kernel) (Nat.le_of_ble_eq_true rfl) ?_
  intro p e s m args below meth c ls A Q hx hb hts hown hml hN hK hP hD hA hl hret
  replace hown : s.vm.findClass RX11 = some m.cls := hown
  have hS : va_S A s.heap s.heap [] := va_S.rf
  replace hP : va_P D gcl [] s.heap := hP
  replace hl : lv_has ls 2 [(0, .int x0), (1, .int x1)] := hl
  refine lv_bipush (pc := 0) (v := 7) hx hb dX11_checkWith_0 (by decide) ?_
  refine lv_iload_n (pc := 2) hx hb dX11_checkWith_2 rfl (lv_at hl 0 rfl) ?_
  refine b_imul (pc := 3) hx hb tI_7 rfl (by omega) (by omega) dX11_checkWith_3 (fun x_1 ex_1 => ?_)
  refine lv_iload_n (pc := 4) hx hb dX11_checkWith_4 rfl (lv_at hl 1 rfl) ?_
  refine b_iadd (pc := 5) hx hb rfl rfl (by omega) (by omega) dX11_checkWith_5 (fun x_2 ex_2 => ?_)
  refine lv_sipush (pc := 6) (v := 253) hx hb dX11_checkWith_6 (by decide) ?_
  refine c_irem (pc := 9) hx hb rfl tI_253 (by omega) (by omega) dX11_checkWith_9 (fun x_3 ex_3 => ?_)
  exact hret x_3 ((fun _ => 0), (fun _ => (fun _ => 0)), (fun _ => (fun _ => 0)), (fun _ => 0), (fun _ => 0)) dX11_checkWith_10 ⟨(show (0 ≤ x_3.toInt ∧ x_3.toInt ≤ 252) by omega), (show x_3.toInt = (7 * x0.toInt + x1.toInt) % 253 by omega)⟩ (g_psub (wc := []) hP [] rfl) (hD.sub (ws' := []) [] (by decide) rfl) hS
set_option maxHeartbeats 4000000 in
set_option maxRecDepth 100000 in
theorem k_X11_isImage (l : Launch) (D : va_G) (cB cC cI cJ : ClassId) (sz : Nat) (a0 a1 a2 a3 a4 a5 a6 a7 a8 a9 a10 a11 a12 a13 a14 a15 a16 a17 : Nat) (x0 x1 x2 x3 x4 x5 x6 x7 x8 : Int32) (f0 : Nat → Int32) (h_x0 : (0 ≤ x0.toInt ∧ x0.toInt ≤ 14)) (h_x1 : ((-1) ≤ x1.toInt ∧ x1.toInt ≤ 8)) (h_x2 : ((-1) ≤ x2.toInt ∧ x2.toInt ≤ 5)) (h_x3 : ((-1) ≤ x3.toInt ∧ x3.toInt ≤ 6)) (h_x4 : (0 ≤ x4.toInt ∧ x4.toInt ≤ 6)) (h_x5 : (0 ≤ x5.toInt ∧ x5.toInt ≤ 16)) (h_x8 : (0 ≤ x8.toInt ∧ x8.toInt ≤ 1600)) : Met l yX11_isImage (.code yX11_isImage cX11_isImage 4 (some .boolean) :: lw_gd) ({ frames := 1, cells := 0, slots := 0, locals := 21 }) (gPre D [(cB, .byte), (cC, .char), (cI, .int), (cJ, .long)] [.ref a0] [(a0, .inr (11, [.ref a1, .ref a2, .ref a3, .ref a4, .ref a5, .ref a6, .ref a7, .ref a8, .ref a9, .ref a10, .int x0, .ref a11, .ref a12, .ref a13])), (a11, .inr (1, [.ref a14, .ref a15, .ref a16, .int x1, .int x2, .int x3, .int x4, .int x5, .int x6, .int x7])), (a2, .inr (9, [.ref a17, .int x8])), (a17, .inl (cB, 1600, .inl f0))] sz) (va_Qi (fun r u => (0 ≤ r.toInt ∧ r.toInt ≤ 1) ∧ ((r.toInt = 1 ∧ imgQ (taub f0 x8.toInt) x8.toInt x3.toInt) ∨ (r.toInt = 0 ∧ ¬ imgQ (taub f0 x8.toInt) x8.toInt x3.toInt))) (gB D (va_A [(a0, .inr (11, [.ref a1, .ref a2, .ref a3, .ref a4, .ref a5, .ref a6, .ref a7, .ref a8, .ref a9, .ref a10, .int x0, .ref a11, .ref a12, .ref a13])), (a11, .inr (1, [.ref a14, .ref a15, .ref a16, .int x1, .int x2, .int x3, .int x4, .int x5, .int x6, .int x7])), (a2, .inr (9, [.ref a17, .int x8])), (a17, .inl (cB, 1600, .inl f0))] sz) (fun u : gEx => [(a0, .inr (11, [.ref a1, .ref a2, .ref a3, .ref a4, .ref a5, .ref a6, .ref a7, .ref a8, .ref a9, .ref a10, .int x0, .ref a11, .ref a12, .ref a13])), (a11, .inr (1, [.ref a14, .ref a15, .ref a16, .int x1, .int x2, .int x3, .int x4, .int x5, .int x6, .int x7])), (a2, .inr (9, [.ref a17, .int x8])), (a17, .inl (cB, 1600, .inl f0))])) (va_A [(a0, .inr (11, [.ref a1, .ref a2, .ref a3, .ref a4, .ref a5, .ref a6, .ref a7, .ref a8, .ref a9, .ref a10, .int x0, .ref a11, .ref a12, .ref a13])), (a11, .inr (1, [.ref a14, .ref a15, .ref a16, .int x1, .int x2, .int x3, .int x4, .int x5, .int x6, .int x7])), (a2, .inr (9, [.ref a17, .int x8])), (a17, .inl (cB, 1600, .inl f0))] sz)) 0 0 (va_A [(a0, .inr (11, [.ref a1, .ref a2, .ref a3, .ref a4, .ref a5, .ref a6, .ref a7, .ref a8, .ref a9, .ref a10, .int x0, .ref a11, .ref a12, .ref a13])), (a11, .inr (1, [.ref a14, .ref a15, .ref a16, .int x1, .int x2, .int x3, .int x4, .int x5, .int x6, .int x7])), (a2, .inr (9, [.ref a17, .int x8])), (a17, .inl (cB, 1600, .inl f0))] sz) := by
  refine gOf_z (by decide +kernel) (Nat.le_of_ble_eq_true rfl) ?_
  intro p e s m args below meth c ls A Q hx hb hts hown hml hN hK hP hD hA hl hret
  replace hown : s.vm.findClass RX11 = some m.cls := hown
  have hS : va_S A s.heap s.heap [] := va_S.rf
  replace hP : va_P D gcl [(a0, .inr (11, [.ref a1, .ref a2, .ref a3, .ref a4, .ref a5, .ref a6, .ref a7, .ref a8, .ref a9, .ref a10, .int x0, .ref a11, .ref a12, .ref a13])), (a11, .inr (1, [.ref a14, .ref a15, .ref a16, .int x1, .int x2, .int x3, .int x4, .int x5, .int x6, .int x7])), (a2, .inr (9, [.ref a17, .int x8])), (a17, .inl (cB, 1600, .inl f0))] s.heap := hP
  replace hl : lv_has ls 4 [(0, .ref a0)] := hl
  have rx6 := n_rng x6
  have rx7 := n_rng x7
  refine lv_iconst (pc := 0) (v := 2) hx hb dX11_isImage_0 (by decide) ?_
  refine lv_aload_n (pc := 1) hx hb dX11_isImage_1 rfl (lv_at hl 0 rfl) ?_
  refine va_get (pc := 2) (ci := 11) (v := .ref a11) (C := RX11) (T := TX11) (N := 14) hx hb hts iX11 hown hK hP 0 rfl rfl 11 (by decide) (hts _ tw_431) (fun _ h9 => h9) rfl dX11_isImage_2 ?_
  refine va_getN (pc := 5) (ci := 1) (v := .int x3) (C := RX1) (T := TX1) (N := 10) hx hb hts iX1 hown hK hP 1 rfl rfl 5 (by decide) (va_Nw.use rfl (hN _ tn_128)) (fun _ h9 => h9) rfl dX11_isImage_5 ?_
  refine b_imul (pc := 8) hx hb tI_2 rfl (by omega) (by omega) dX11_isImage_8 (fun x_1 ex_1 => ?_)
  refine lv_iconst (pc := 9) (v := 1) hx hb dX11_isImage_9 (by decide) ?_
  refine b_iadd (pc := 10) hx hb rfl tI_1 (by omega) (by omega) dX11_isImage_10 (fun x_2 ex_2 => ?_)
  refine lv_istore_n (pc := 11) (lv' := [(1, .int x_2), (0, .ref a0)]) hx hb dX11_isImage_11 rfl hl (by decide) rfl (fun ls hl => ?_)
  refine lv_aload_n (pc := 12) hx hb dX11_isImage_12 rfl (lv_at hl 1 rfl) ?_
  refine va_get (pc := 13) (ci := 11) (v := .ref a2) (C := RX11) (T := TX11) (N := 14) hx hb hts iX11 hown hK hP 0 rfl rfl 1 (by decide) (hts _ tw_421) (fun _ h9 => h9) rfl dX11_isImage_13 ?_
  refine gc_i (pc := 16) (wc := [(a2, .inr (9, [.ref a17, .int x8]))]) (wr := [(a0, .inr (11, [.ref a1, .ref a2, .ref a3, .ref a4, .ref a5, .ref a6, .ref a7, .ref a8, .ref a9, .ref a10, .int x0, .ref a11, .ref a12, .ref a13])), (a11, .inr (1, [.ref a14, .ref a15, .ref a16, .int x1, .int x2, .int x3, .int x4, .int x5, .int x6, .int x7])), (a17, .inl (cB, 1600, .inl f0))]) hP hD hS hA [2] [0, 1, 3] rfl rfl (by decide) (by decide) (by decide) (fun hPc hDc => va_runV (As := []) (rest := []) ⟨hx, hb, hml, hown, hts⟩ (k_X9_length l D cB cC cI cJ _ a2 a17 x8 h_x8) ⟨gcwB hts tw_478 tw_3 tw_475 hd_yX9_length ⟨Nat.le_of_ble_eq_true rfl, Nat.le_of_ble_eq_true rfl⟩, hts _ tw_476, hts _ tw_477⟩ ⟨gblind, va_recv hK hPc (ci := 9) (q0 := 0) rfl rfl, (gpreS hPc hK hDc hN).2⟩ rfl rfl hl.1 rfl (lv_room (Nat.le_of_ble_eq_true rfl)) dX11_isImage_16 ⟨Nat.le_of_ble_eq_true rfl, Nat.le_of_ble_eq_true rfl⟩) (fun r_4 u_3 H locs hw_5 hP hD hS => ?_)
  replace hP : va_P D gcl [(a0, .inr (11, [.ref a1, .ref a2, .ref a3, .ref a4, .ref a5, .ref a6, .ref a7, .ref a8, .ref a9, .ref a10, .int x0, .ref a11, .ref a12, .ref a13])), (a11, .inr (1, [.ref a14, .ref a15, .ref a16, .int x1, .int x2, .int x3, .int x4, .int x5, .int x6, .int x7])), (a17, .inl (cB, 1600, .inl f0)), (a2, .inr (9, [.ref a17, .int x8]))] H := hP
  replace hD : va_D A [(a0, .inr (11, [.ref a1, .ref a2, .ref a3, .ref a4, .ref a5, .ref a6, .ref a7, .ref a8, .ref a9, .ref a10, .int x0, .ref a11, .ref a12, .ref a13])), (a11, .inr (1, [.ref a14, .ref a15, .ref a16, .int x1, .int x2, .int x3, .int x4, .int x5, .int x6, .int x7])), (a17, .inl (cB, 1600, .inl f0)), (a2, .inr (9, [.ref a17, .int x8]))] := hD
  have hw_6 : ((r_4.toInt = x8.toInt)) := hw_5
  have rr_4 := n_rng r_4
  refine lv_iload_n (pc := 19) hx hb dX11_isImage_19 rfl (lv_at hl 0 rfl) ?_
  refine lv_iconst (pc := 20) (v := 1) hx hb dX11_isImage_20 (by decide) ?_
  refine b_iadd (pc := 21) hx hb rfl tI_1 (by omega) (by omega) dX11_isImage_21 (fun x_7 ex_7 => ?_)
  refine b_icmp_eq (pc := 22) (tgt := 27) hx hb rfl rfl  dX11_isImage_22 (by decide) (fun c_8 => ?_) (fun c_8 => ?_)
  ·
    refine lv_bipush (pc := 27) (v := 51) hx hb dX11_isImage_27 (by decide) ?_
    refine lv_istore_n (pc := 29) (lv' := [(2, .int 51), (1, .int x_2), (0, .ref a0)]) hx hb dX11_isImage_29 rfl hl (by decide) rfl (fun ls hl => ?_)
    refine lv_iconst (pc := 30) (v := 0) hx hb dX11_isImage_30 (by decide) ?_
    refine lv_istore_n (pc := 31) (lv' := [(3, .int 0), (2, .int 51), (1, .int x_2), (0, .ref a0)]) hx hb dX11_isImage_31 rfl hl (by decide) rfl (fun ls hl => ?_)
    have lp_15 : ∀ (n : Nat) (x_9 x_11 : Int32) (H : Heap) (locs : List Loc) (ls : Array Slot), (0 ≤ x_9.toInt ∧ x_9.toInt ≤ 2147483647) → (0 ≤ x_11.toInt ∧ x_11.toInt ≤ 252) → (x_9.toInt ≤ x_2.toInt ∨ x_9.toInt = 0) → (x_11.toInt = ckF (taub f0 x8.toInt) (x_9.toInt).toNat) → (2147483647 - x_9.toInt).toNat < n → va_P D gcl [(a0, .inr (11, [.ref a1, .ref a2, .ref a3, .ref a4, .ref a5, .ref a6, .ref a7, .ref a8, .ref a9, .ref a10, .int x0, .ref a11, .ref a12, .ref a13])), (a11, .inr (1, [.ref a14, .ref a15, .ref a16, .int x1, .int x2, .int x3, .int x4, .int x5, .int x6, .int x7])), (a17, .inl (cB, 1600, .inl f0)), (a2, .inr (9, [.ref a17, .int x8]))] H → va_D A [(a0, .inr (11, [.ref a1, .ref a2, .ref a3, .ref a4, .ref a5, .ref a6, .ref a7, .ref a8, .ref a9, .ref a10, .int x0, .ref a11, .ref a12, .ref a13])), (a11, .inr (1, [.ref a14, .ref a15, .ref a16, .int x1, .int x2, .int x3, .int x4, .int x5, .int x6, .int x7])), (a17, .inl (cB, 1600, .inl f0)), (a2, .inr (9, [.ref a17, .int x8]))] → va_S A s.heap H locs → lv_has ls 4 [(3, .int x_9), (2, .int x_11), (1, .int x_2), (0, .ref a0)] → W p l e ({ frames := 1, cells := 0, slots := 0, locals := 21 }) s m args below meth c H locs 0 0 Q (F0 m 32 ls []) := by
      intro n
      induction n with
      | zero => intro x_9 x_11 H locs ls hi_10 hi_12 hi_13 hi_14 hmu; exact absurd hmu (Nat.not_lt_zero _)
      | succ n ih_lp_15 =>
        intro x_9 x_11 H locs ls hi_10 hi_12 hi_13 hi_14 hmu_lp_15 hP hD hS hl
        refine lv_iload_n (pc := 32) hx hb dX11_isImage_32 rfl (lv_at hl 0 rfl) ?_
        refine lv_iload_n (pc := 33) hx hb dX11_isImage_33 rfl (lv_at hl 2 rfl) ?_
        refine b_icmp_ge (pc := 34) (tgt := 56) hx hb rfl rfl  dX11_isImage_34 (by decide) (fun c_16 => ?_) (fun c_16 => ?_)
        ·
          have hh_17 : x_11.toInt = ckF (taub f0 x8.toInt) (x_2.toInt).toNat := (by have e9 : (x_9.toInt).toNat = (x_2.toInt).toNat := (by omega); have q9 := hi_14; rw [e9] at q9; exact q9)
          refine lv_aload_n (pc := 56) hx hb dX11_isImage_56 rfl (lv_at hl 3 rfl) ?_
          refine va_get (pc := 57) (ci := 11) (v := .ref a2) (C := RX11) (T := TX11) (N := 14) hx hb hts iX11 hown hK hP 0 rfl rfl 1 (by decide) (hts _ tw_421) (fun _ h9 => h9) rfl dX11_isImage_57 ?_
          refine lv_iload_n (pc := 60) hx hb dX11_isImage_60 rfl (lv_at hl 2 rfl) ?_
          refine gc_i (pc := 61) (wc := [(a2, .inr (9, [.ref a17, .int x8])), (a17, .inl (cB, 1600, .inl f0))]) (wr := [(a0, .inr (11, [.ref a1, .ref a2, .ref a3, .ref a4, .ref a5, .ref a6, .ref a7, .ref a8, .ref a9, .ref a10, .int x0, .ref a11, .ref a12, .ref a13])), (a11, .inr (1, [.ref a14, .ref a15, .ref a16, .int x1, .int x2, .int x3, .int x4, .int x5, .int x6, .int x7]))]) hP hD hS hA [3, 2] [0, 1] rfl rfl (by decide) (by decide) (by decide) (fun hPc hDc => va_runV (As := [.int x_2]) (rest := []) ⟨hx, hb, hml, hown, hts⟩ (k_X9_at_E l D cB cC cI cJ _ a2 a17 x_2 x8 f0 h_x8) ⟨gcwB hts tw_518 tw_3 tw_1394 hd_yX9_at ⟨Nat.le_of_ble_eq_true rfl, Nat.le_of_ble_eq_true rfl⟩, hts _ tw_516, hts _ tw_517⟩ ⟨gblind, va_recv hK hPc (ci := 9) (q0 := 0) rfl rfl, (gpreS hPc hK hDc hN).2⟩ rfl rfl hl.1 rfl (lv_room (Nat.le_of_ble_eq_true rfl)) dX11_isImage_61 ⟨Nat.le_of_ble_eq_true rfl, Nat.le_of_ble_eq_true rfl⟩) (fun r_19 u_18 H locs hw_20 hP hD hS => ?_)
          replace hP : va_P D gcl [(a0, .inr (11, [.ref a1, .ref a2, .ref a3, .ref a4, .ref a5, .ref a6, .ref a7, .ref a8, .ref a9, .ref a10, .int x0, .ref a11, .ref a12, .ref a13])), (a11, .inr (1, [.ref a14, .ref a15, .ref a16, .int x1, .int x2, .int x3, .int x4, .int x5, .int x6, .int x7])), (a2, .inr (9, [.ref a17, .int x8])), (a17, .inl (cB, 1600, .inl f0))] H := hP
          replace hD : va_D A [(a0, .inr (11, [.ref a1, .ref a2, .ref a3, .ref a4, .ref a5, .ref a6, .ref a7, .ref a8, .ref a9, .ref a10, .int x0, .ref a11, .ref a12, .ref a13])), (a11, .inr (1, [.ref a14, .ref a15, .ref a16, .int x1, .int x2, .int x3, .int x4, .int x5, .int x6, .int x7])), (a2, .inr (9, [.ref a17, .int x8])), (a17, .inl (cB, 1600, .inl f0))] := hD
          obtain ⟨hw_21, hw_22⟩ := hw_20
          replace hw_21 : ((r_19.toInt = (-1) ∧ x_2.toInt < 0) ∨ (r_19.toInt = (-1) ∧ x_2.toInt ≥ 0 ∧ x_2.toInt ≥ x8.toInt) ∨ ((0 ≤ r_19.toInt ∧ r_19.toInt ≤ 255) ∧ x_2.toInt ≥ 0 ∧ x_2.toInt < x8.toInt)) := hw_21
          replace hw_22 : (r_19.toInt = taub f0 x8.toInt x_2.toInt) := hw_22
          have rr_19 := n_rng r_19
          refine lv_iload_n (pc := 64) hx hb dX11_isImage_64 rfl (lv_at hl 1 rfl) ?_
          refine b_icmp_ne (pc := 65) (tgt := 72) hx hb rfl rfl  dX11_isImage_65 (by decide) (fun c_23 => ?_) (fun c_23 => ?_)
          ·
            refine lv_iconst (pc := 72) (v := 0) hx hb dX11_isImage_72 (by decide) ?_
            have k9 := tI_0
            exact hret 0 ((fun _ => 0), (fun _ => (fun _ => 0)), (fun _ => (fun _ => 0)), (fun _ => 0), (fun _ => 0)) dX11_isImage_73 ⟨(by have k9 := tI_0; omega), ⟨(show (0 ≤ (0 : Int32).toInt ∧ (0 : Int32).toInt ≤ 1) from (n_c tI_0 (by decide))), (show ((0 : Int32).toInt = 1 ∧ imgQ (taub f0 x8.toInt) x8.toInt x3.toInt) ∨ ((0 : Int32).toInt = 0 ∧ ¬ imgQ (taub f0 x8.toInt) x8.toInt x3.toInt) from Or.inr ⟨by omega, img_no (k := x_2.toInt) (by omega) hw_22 hh_17 (by omega)⟩)⟩⟩ (g_psub (wc := [(a0, .inr (11, [.ref a1, .ref a2, .ref a3, .ref a4, .ref a5, .ref a6, .ref a7, .ref a8, .ref a9, .ref a10, .int x0, .ref a11, .ref a12, .ref a13])), (a11, .inr (1, [.ref a14, .ref a15, .ref a16, .int x1, .int x2, .int x3, .int x4, .int x5, .int x6, .int x7])), (a2, .inr (9, [.ref a17, .int x8])), (a17, .inl (cB, 1600, .inl f0))]) hP [0, 1, 2, 3] rfl) (hD.sub (ws' := [(a0, .inr (11, [.ref a1, .ref a2, .ref a3, .ref a4, .ref a5, .ref a6, .ref a7, .ref a8, .ref a9, .ref a10, .int x0, .ref a11, .ref a12, .ref a13])), (a11, .inr (1, [.ref a14, .ref a15, .ref a16, .int x1, .int x2, .int x3, .int x4, .int x5, .int x6, .int x7])), (a2, .inr (9, [.ref a17, .int x8])), (a17, .inl (cB, 1600, .inl f0))]) [0, 1, 2, 3] (by decide) rfl) hS
          ·
            refine lv_iconst (pc := 68) (v := 1) hx hb dX11_isImage_68 (by decide) ?_
            refine lv_goto (pc := 69) (tgt := 73) hx hb dX11_isImage_69 (by decide) ?_
            have k9 := tI_1
            exact hret 1 ((fun _ => 0), (fun _ => (fun _ => 0)), (fun _ => (fun _ => 0)), (fun _ => 0), (fun _ => 0)) dX11_isImage_73 ⟨(by have k9 := tI_1; omega), ⟨(show (0 ≤ (1 : Int32).toInt ∧ (1 : Int32).toInt ≤ 1) from (n_c tI_1 (by decide))), (show ((1 : Int32).toInt = 1 ∧ imgQ (taub f0 x8.toInt) x8.toInt x3.toInt) ∨ ((1 : Int32).toInt = 0 ∧ ¬ imgQ (taub f0 x8.toInt) x8.toInt x3.toInt) from Or.inl ⟨by omega, img_yes (k := x_2.toInt) (by omega) (by omega) hw_22 hh_17 (by omega)⟩)⟩⟩ (g_psub (wc := [(a0, .inr (11, [.ref a1, .ref a2, .ref a3, .ref a4, .ref a5, .ref a6, .ref a7, .ref a8, .ref a9, .ref a10, .int x0, .ref a11, .ref a12, .ref a13])), (a11, .inr (1, [.ref a14, .ref a15, .ref a16, .int x1, .int x2, .int x3, .int x4, .int x5, .int x6, .int x7])), (a2, .inr (9, [.ref a17, .int x8])), (a17, .inl (cB, 1600, .inl f0))]) hP [0, 1, 2, 3] rfl) (hD.sub (ws' := [(a0, .inr (11, [.ref a1, .ref a2, .ref a3, .ref a4, .ref a5, .ref a6, .ref a7, .ref a8, .ref a9, .ref a10, .int x0, .ref a11, .ref a12, .ref a13])), (a11, .inr (1, [.ref a14, .ref a15, .ref a16, .int x1, .int x2, .int x3, .int x4, .int x5, .int x6, .int x7])), (a2, .inr (9, [.ref a17, .int x8])), (a17, .inl (cB, 1600, .inl f0))]) [0, 1, 2, 3] (by decide) rfl) hS
        ·
          refine lv_iload_n (pc := 37) hx hb dX11_isImage_37 rfl (lv_at hl 1 rfl) ?_
          refine lv_aload_n (pc := 38) hx hb dX11_isImage_38 rfl (lv_at hl 3 rfl) ?_
          refine va_get (pc := 39) (ci := 11) (v := .ref a2) (C := RX11) (T := TX11) (N := 14) hx hb hts iX11 hown hK hP 0 rfl rfl 1 (by decide) (hts _ tw_421) (fun _ h9 => h9) rfl dX11_isImage_39 ?_
          refine lv_iload_n (pc := 42) hx hb dX11_isImage_42 rfl (lv_at hl 0 rfl) ?_
          refine gc_i (pc := 43) (wc := [(a2, .inr (9, [.ref a17, .int x8])), (a17, .inl (cB, 1600, .inl f0))]) (wr := [(a0, .inr (11, [.ref a1, .ref a2, .ref a3, .ref a4, .ref a5, .ref a6, .ref a7, .ref a8, .ref a9, .ref a10, .int x0, .ref a11, .ref a12, .ref a13])), (a11, .inr (1, [.ref a14, .ref a15, .ref a16, .int x1, .int x2, .int x3, .int x4, .int x5, .int x6, .int x7]))]) hP hD hS hA [3, 2] [0, 1] rfl rfl (by decide) (by decide) (by decide) (fun hPc hDc => va_runV (As := [.int x_9]) (rest := [.int x_11]) ⟨hx, hb, hml, hown, hts⟩ (k_X9_at_E l D cB cC cI cJ _ a2 a17 x_9 x8 f0 h_x8) ⟨gcwB hts tw_518 tw_3 tw_1394 hd_yX9_at ⟨Nat.le_of_ble_eq_true rfl, Nat.le_of_ble_eq_true rfl⟩, hts _ tw_516, hts _ tw_517⟩ ⟨gblind, va_recv hK hPc (ci := 9) (q0 := 0) rfl rfl, (gpreS hPc hK hDc hN).2⟩ rfl rfl hl.1 rfl (lv_room (Nat.le_of_ble_eq_true rfl)) dX11_isImage_43 ⟨Nat.le_of_ble_eq_true rfl, Nat.le_of_ble_eq_true rfl⟩) (fun r_25 u_24 H locs hw_26 hP hD hS => ?_)
          replace hP : va_P D gcl [(a0, .inr (11, [.ref a1, .ref a2, .ref a3, .ref a4, .ref a5, .ref a6, .ref a7, .ref a8, .ref a9, .ref a10, .int x0, .ref a11, .ref a12, .ref a13])), (a11, .inr (1, [.ref a14, .ref a15, .ref a16, .int x1, .int x2, .int x3, .int x4, .int x5, .int x6, .int x7])), (a2, .inr (9, [.ref a17, .int x8])), (a17, .inl (cB, 1600, .inl f0))] H := hP
          replace hD : va_D A [(a0, .inr (11, [.ref a1, .ref a2, .ref a3, .ref a4, .ref a5, .ref a6, .ref a7, .ref a8, .ref a9, .ref a10, .int x0, .ref a11, .ref a12, .ref a13])), (a11, .inr (1, [.ref a14, .ref a15, .ref a16, .int x1, .int x2, .int x3, .int x4, .int x5, .int x6, .int x7])), (a2, .inr (9, [.ref a17, .int x8])), (a17, .inl (cB, 1600, .inl f0))] := hD
          obtain ⟨hw_27, hw_28⟩ := hw_26
          replace hw_27 : ((r_25.toInt = (-1) ∧ x_9.toInt < 0) ∨ (r_25.toInt = (-1) ∧ x_9.toInt ≥ 0 ∧ x_9.toInt ≥ x8.toInt) ∨ ((0 ≤ r_25.toInt ∧ r_25.toInt ≤ 255) ∧ x_9.toInt ≥ 0 ∧ x_9.toInt < x8.toInt)) := hw_27
          replace hw_28 : (r_25.toInt = taub f0 x8.toInt x_9.toInt) := hw_28
          have rr_25 := n_rng r_25
          have hh_29 : 0 ≤ r_25.toInt ∧ r_25.toInt ≤ 255 := by have q := hw_28; have q1 := taub_in (f := f0) (n := x8.toInt) (i := x_9.toInt) (by omega) (by omega); omega
          refine gc_i (pc := 46) (wc := []) (wr := [(a0, .inr (11, [.ref a1, .ref a2, .ref a3, .ref a4, .ref a5, .ref a6, .ref a7, .ref a8, .ref a9, .ref a10, .int x0, .ref a11, .ref a12, .ref a13])), (a11, .inr (1, [.ref a14, .ref a15, .ref a16, .int x1, .int x2, .int x3, .int x4, .int x5, .int x6, .int x7])), (a2, .inr (9, [.ref a17, .int x8])), (a17, .inl (cB, 1600, .inl f0))]) hP hD hS hA [] [0, 1, 2, 3] rfl rfl (by decide) (by decide) (by decide) (fun hPc hDc => va_runS (As := [.int x_11, .int r_25]) (rest := []) ⟨hx, hb, hml, hown, hts⟩ (k_X11_checkWith_E l D cB cC cI cJ _ x_11 r_25 hi_12 (by  omega)) ⟨gcwB hts tw_1381 tw_1 tw_1379 hd_yX11_checkWith ⟨Nat.le_of_ble_eq_true rfl, Nat.le_of_ble_eq_true rfl⟩, hts _ tw_1380⟩ (gpreS hPc hK hDc hN) rfl rfl hl.1 rfl (lv_room (Nat.le_of_ble_eq_true rfl)) dX11_isImage_46 ⟨Nat.le_of_ble_eq_true rfl, Nat.le_of_ble_eq_true rfl⟩) (fun r_31 u_30 H locs hw_32 hP hD hS => ?_)
          replace hP : va_P D gcl [(a0, .inr (11, [.ref a1, .ref a2, .ref a3, .ref a4, .ref a5, .ref a6, .ref a7, .ref a8, .ref a9, .ref a10, .int x0, .ref a11, .ref a12, .ref a13])), (a11, .inr (1, [.ref a14, .ref a15, .ref a16, .int x1, .int x2, .int x3, .int x4, .int x5, .int x6, .int x7])), (a2, .inr (9, [.ref a17, .int x8])), (a17, .inl (cB, 1600, .inl f0))] H := hP
          replace hD : va_D A [(a0, .inr (11, [.ref a1, .ref a2, .ref a3, .ref a4, .ref a5, .ref a6, .ref a7, .ref a8, .ref a9, .ref a10, .int x0, .ref a11, .ref a12, .ref a13])), (a11, .inr (1, [.ref a14, .ref a15, .ref a16, .int x1, .int x2, .int x3, .int x4, .int x5, .int x6, .int x7])), (a2, .inr (9, [.ref a17, .int x8])), (a17, .inl (cB, 1600, .inl f0))] := hD
          obtain ⟨hw_33, hw_34⟩ := hw_32
          replace hw_33 : (0 ≤ r_31.toInt ∧ r_31.toInt ≤ 252) := hw_33
          replace hw_34 : (r_31.toInt = (7 * x_11.toInt + r_25.toInt) % 253) := hw_34
          have rr_31 := n_rng r_31
          refine lv_istore_n (pc := 49) (lv' := [(2, .int r_31), (3, .int x_9), (1, .int x_2), (0, .ref a0)]) hx hb dX11_isImage_49 rfl hl (by decide) rfl (fun ls hl => ?_)
          refine b_iinc (pc := 50) hx hb dX11_isImage_50 hl (k := 1) rfl rfl tI_1 (by omega) (by omega) (by decide) (fun x_35 ex_35 ls hl => ?_)
          replace hl : lv_has ls 4 [(3, .int x_35), (2, .int r_31), (1, .int x_2), (0, .ref a0)] := hl
          refine lv_goto (pc := 53) (tgt := 32) hx hb dX11_isImage_53 (by decide) ?_
          exact ih_lp_15 x_35 r_31 _ _ ls (by omega) hw_33 (by omega) (ck_step hi_14 hw_28 hw_34 (by omega) (by omega)) (by omega) (g_psub hP [0, 1, 3, 2] rfl) (hD.sub [0, 1, 3, 2] (by decide) rfl) hS (lv_sub hl [0, 1, 2, 3] rfl)
    exact lp_15 _ 0 51 _ _ ls (n_c tI_0 (by decide)) (n_c tI_51 (by decide)) (by have q := tI_0; omega) (tI_51) (Nat.lt_succ_self _) hP hD hS (lv_sub hl [0, 1, 2, 3] rfl)
  ·
    refine lv_iconst (pc := 25) (v := 0) hx hb dX11_isImage_25 (by decide) ?_
    have k9 := tI_0
    exact hret 0 ((fun _ => 0), (fun _ => (fun _ => 0)), (fun _ => (fun _ => 0)), (fun _ => 0), (fun _ => 0)) dX11_isImage_26 ⟨(by have k9 := tI_0; omega), ⟨(show (0 ≤ (0 : Int32).toInt ∧ (0 : Int32).toInt ≤ 1) from (n_c tI_0 (by decide))), (show ((0 : Int32).toInt = 1 ∧ imgQ (taub f0 x8.toInt) x8.toInt x3.toInt) ∨ ((0 : Int32).toInt = 0 ∧ ¬ imgQ (taub f0 x8.toInt) x8.toInt x3.toInt) from Or.inr ⟨by omega, img_noN (by omega)⟩)⟩⟩ (g_psub (wc := [(a0, .inr (11, [.ref a1, .ref a2, .ref a3, .ref a4, .ref a5, .ref a6, .ref a7, .ref a8, .ref a9, .ref a10, .int x0, .ref a11, .ref a12, .ref a13])), (a11, .inr (1, [.ref a14, .ref a15, .ref a16, .int x1, .int x2, .int x3, .int x4, .int x5, .int x6, .int x7])), (a2, .inr (9, [.ref a17, .int x8])), (a17, .inl (cB, 1600, .inl f0))]) hP [0, 1, 3, 2] rfl) (hD.sub (ws' := [(a0, .inr (11, [.ref a1, .ref a2, .ref a3, .ref a4, .ref a5, .ref a6, .ref a7, .ref a8, .ref a9, .ref a10, .int x0, .ref a11, .ref a12, .ref a13])), (a11, .inr (1, [.ref a14, .ref a15, .ref a16, .int x1, .int x2, .int x3, .int x4, .int x5, .int x6, .int x7])), (a2, .inr (9, [.ref a17, .int x8])), (a17, .inl (cB, 1600, .inl f0))]) [0, 1, 3, 2] (by decide) rfl) hS
set_option maxHeartbeats 4000000 in
set_option maxRecDepth 100000 in
theorem k_X12_feed (l : Launch) (D : va_G) (cB cC cI cJ : ClassId) (sz : Nat) (a0 a1 a2 a3 a4 a5 a6 a7 a8 a9 a10 a11 a12 a13 a14 a15 a16 a17 a18 a19 a20 a21 a22 a23 a24 a25 a26 a27 a28 a29 a30 a31 a32 a33 a34 a35 a36 a37 a38 a39 a40 a41 a42 a43 : Nat) (x0 x1 x2 x3 x4 x5 x6 x7 x8 x9 x10 x11 x12 x13 x14 x15 x16 x17 x18 x19 x20 x21 x22 x23 x24 x25 x26 x27 x28 x29 x30 x31 x32 : Int32) (y0 y1 : Int64) (f0 : Nat → Int32) (h_x5 : (0 ≤ x5.toInt ∧ x5.toInt ≤ 1600)) (h_x6 : (0 ≤ x6.toInt ∧ x6.toInt ≤ 1600)) (h_x7 : (0 ≤ x7.toInt ∧ x7.toInt ≤ 1600)) (h_x8 : ((-1) ≤ x8.toInt ∧ x8.toInt ≤ 1600)) (h_x9 : (0 ≤ x9.toInt ∧ x9.toInt ≤ 4)) (h_x10 : ((-1) ≤ x10.toInt ∧ x10.toInt ≤ 1600)) (h_x13 : (0 ≤ x13.toInt ∧ x13.toInt ≤ 8)) (h_x14 : (0 ≤ x14.toInt ∧ x14.toInt ≤ 5)) (h_x15 : (0 ≤ x15.toInt ∧ x15.toInt ≤ 6)) (h_x16 : (0 ≤ x16.toInt ∧ x16.toInt ≤ 6)) (h_x17 : (0 ≤ x17.toInt ∧ x17.toInt ≤ 16)) (h_x19 : (0 ≤ x19.toInt ∧ x19.toInt ≤ 60)) (h_x20 : (0 ≤ x20.toInt ∧ x20.toInt ≤ 1600)) (h_x21 : (0 ≤ x21.toInt ∧ x21.toInt ≤ 1700)) (h_x23 : (0 ≤ x23.toInt ∧ x23.toInt ≤ 1700)) (h_x24 : (0 ≤ x24.toInt ∧ x24.toInt ≤ 1700)) (h_x25 : (0 ≤ x25.toInt ∧ x25.toInt ≤ 200)) (h_x26 : (0 ≤ x26.toInt ∧ x26.toInt ≤ 40)) (h_x27 : (0 ≤ x27.toInt ∧ x27.toInt ≤ 40)) (h_x28 : (0 ≤ x28.toInt ∧ x28.toInt ≤ 1)) (h_x29 : (0 ≤ x29.toInt ∧ x29.toInt ≤ 14)) (h_x30 : (0 ≤ x30.toInt ∧ x30.toInt ≤ 200)) (h_x31 : (0 ≤ x31.toInt ∧ x31.toInt ≤ 40)) (h_x32 : (0 ≤ x32.toInt ∧ x32.toInt ≤ 40)) (hr_a0_0 : (x26.toInt ≤ x25.toInt)) (hr_a0_1 : (x25.toInt + x27.toInt ≤ 200)) (hr_a0_2 : (x14.toInt = 0 ∨ 2 ≤ x13.toInt)) (hf_f0 : (∀ j, 0 ≤ (f0 j).toInt ∧ (f0 j).toInt ≤ 255)) : Met l yX12_feed (.code yX12_feed cX12_feed 8 (some .int) :: lw_gd) ({ frames := 0, cells := 0, slots := 0, locals := 0 }) (gPre D [(cB, .byte), (cC, .char), (cI, .int), (cJ, .long)] [.ref a0, .int x0, .int x1, .int x2, .int x3, .int x4] [(a0, .inr (12, [.ref a1, .int x5, .int x6, .int x7, .int x8, .int x9, .int x10, .int x11, .int x12, .ref a2, .ref a3, .ref a4, .ref a5, .ref a6, .ref a7, .ref a8, .ref a9, .ref a10, .ref a11, .ref a12, .ref a13, .ref a14, .ref a15, .ref a16, .int x13, .int x14, .int x15, .int x16, .int x17, .int x18, .ref a17, .ref a18, .ref a19, .int x19, .ref a20, .int x20, .ref a21, .int x21, .int x22, .ref a22, .ref a23, .ref a24, .ref a25, .int x23, .ref a26, .int x24, .ref a27, .ref a28, .ref a29, .long y0, .ref a30, .ref a31, .ref a32, .ref a33, .ref a34, .ref a35, .ref a36, .ref a37, .ref a38, .int x25, .int x26, .int x27, .long y1, .ref a39, .int x28, .ref a40, .ref a41, .ref a42, .ref a43, .int x29, .int x30, .int x31, .int x32])), (a1, .inl (cI, 1600, .inl f0))] sz) (va_Qi (fun r u => (((0 ≤ r.toInt ∧ r.toInt ≤ 1600) ∧ (x5.toInt) + (20) ≤ 1600) ∨ (r.toInt = (-1) ∧ (x5.toInt) + (20) > 1600 ∧ (u.2.2.2.1 0).toInt = x5.toInt)) ∧ (0 ≤ (u.2.2.2.1 0).toInt ∧ (u.2.2.2.1 0).toInt ≤ 1600) ∧ (∀ j, 0 ≤ ((u.2.1 0) j).toInt ∧ ((u.2.1 0) j).toInt ≤ 255) ∧ ((r.toInt = -1 ∧ x5.toInt + 20 > 1600 ∧ (u.2.2.2.1 0).toInt = x5.toInt) ∨ (r.toInt = x5.toInt + 20 ∧ x5.toInt + 20 ≤ 1600 ∧ (u.2.2.2.1 0).toInt = x5.toInt + 20)) ∧ (fqQ r.toInt (tau (u.2.1 0) (u.2.2.2.1 0).toInt) (tau f0 x5.toInt) x5.toInt (bys x0 x1 x2 x3 x4))) (gB D (va_A [(a0, .inr (12, [.ref a1, .int x5, .int x6, .int x7, .int x8, .int x9, .int x10, .int x11, .int x12, .ref a2, .ref a3, .ref a4, .ref a5, .ref a6, .ref a7, .ref a8, .ref a9, .ref a10, .ref a11, .ref a12, .ref a13, .ref a14, .ref a15, .ref a16, .int x13, .int x14, .int x15, .int x16, .int x17, .int x18, .ref a17, .ref a18, .ref a19, .int x19, .ref a20, .int x20, .ref a21, .int x21, .int x22, .ref a22, .ref a23, .ref a24, .ref a25, .int x23, .ref a26, .int x24, .ref a27, .ref a28, .ref a29, .long y0, .ref a30, .ref a31, .ref a32, .ref a33, .ref a34, .ref a35, .ref a36, .ref a37, .ref a38, .int x25, .int x26, .int x27, .long y1, .ref a39, .int x28, .ref a40, .ref a41, .ref a42, .ref a43, .int x29, .int x30, .int x31, .int x32])), (a1, .inl (cI, 1600, .inl f0))] sz) (fun u : gEx => [(a0, .inr (12, [.ref a1, .int (u.2.2.2.1 0), .int x6, .int x7, .int x8, .int x9, .int x10, .int x11, .int x12, .ref a2, .ref a3, .ref a4, .ref a5, .ref a6, .ref a7, .ref a8, .ref a9, .ref a10, .ref a11, .ref a12, .ref a13, .ref a14, .ref a15, .ref a16, .int x13, .int x14, .int x15, .int x16, .int x17, .int x18, .ref a17, .ref a18, .ref a19, .int x19, .ref a20, .int x20, .ref a21, .int x21, .int x22, .ref a22, .ref a23, .ref a24, .ref a25, .int x23, .ref a26, .int x24, .ref a27, .ref a28, .ref a29, .long y0, .ref a30, .ref a31, .ref a32, .ref a33, .ref a34, .ref a35, .ref a36, .ref a37, .ref a38, .int x25, .int x26, .int x27, .long y1, .ref a39, .int x28, .ref a40, .ref a41, .ref a42, .ref a43, .int x29, .int x30, .int x31, .int x32])), (a1, .inl (cI, 1600, .inl (u.2.1 0)))])) (va_A [(a0, .inr (12, [.ref a1, .int x5, .int x6, .int x7, .int x8, .int x9, .int x10, .int x11, .int x12, .ref a2, .ref a3, .ref a4, .ref a5, .ref a6, .ref a7, .ref a8, .ref a9, .ref a10, .ref a11, .ref a12, .ref a13, .ref a14, .ref a15, .ref a16, .int x13, .int x14, .int x15, .int x16, .int x17, .int x18, .ref a17, .ref a18, .ref a19, .int x19, .ref a20, .int x20, .ref a21, .int x21, .int x22, .ref a22, .ref a23, .ref a24, .ref a25, .int x23, .ref a26, .int x24, .ref a27, .ref a28, .ref a29, .long y0, .ref a30, .ref a31, .ref a32, .ref a33, .ref a34, .ref a35, .ref a36, .ref a37, .ref a38, .int x25, .int x26, .int x27, .long y1, .ref a39, .int x28, .ref a40, .ref a41, .ref a42, .ref a43, .int x29, .int x30, .int x31, .int x32])), (a1, .inl (cI, 1600, .inl f0))] sz)) 0 0 (va_A [(a0, .inr (12, [.ref a1, .int x5, .int x6, .int x7, .int x8, .int x9, .int x10, .int x11, .int x12, .ref a2, .ref a3, .ref a4, .ref a5, .ref a6, .ref a7, .ref a8, .ref a9, .ref a10, .ref a11, .ref a12, .ref a13, .ref a14, .ref a15, .ref a16, .int x13, .int x14, .int x15, .int x16, .int x17, .int x18, .ref a17, .ref a18, .ref a19, .int x19, .ref a20, .int x20, .ref a21, .int x21, .int x22, .ref a22, .ref a23, .ref a24, .ref a25, .int x23, .ref a26, .int x24, .ref a27, .ref a28, .ref a29, .long y0, .ref a30, .ref a31, .ref a32, .ref a33, .ref a34, .ref a35, .ref a36, .ref a37, .ref a38, .int x25, .int x26, .int x27, .long y1, .ref a39, .int x28, .ref a40, .ref a41, .ref a42, .ref a43, .int x29, .int x30, .int x31, .int x32])), (a1, .inl (cI, 1600, .inl f0))] sz) := by
  refine gOf_i (by decide +kernel) (Nat.le_of_ble_eq_true rfl) ?_
  intro p e s m args below meth c ls A Q hx hb hts hown hml hN hK hP hD hA hl hret
  replace hown : s.vm.findClass RX12 = some m.cls := hown
  have hS : va_S A s.heap s.heap [] := va_S.rf
  replace hP : va_P D gcl [(a0, .inr (12, [.ref a1, .int x5, .int x6, .int x7, .int x8, .int x9, .int x10, .int x11, .int x12, .ref a2, .ref a3, .ref a4, .ref a5, .ref a6, .ref a7, .ref a8, .ref a9, .ref a10, .ref a11, .ref a12, .ref a13, .ref a14, .ref a15, .ref a16, .int x13, .int x14, .int x15, .int x16, .int x17, .int x18, .ref a17, .ref a18, .ref a19, .int x19, .ref a20, .int x20, .ref a21, .int x21, .int x22, .ref a22, .ref a23, .ref a24, .ref a25, .int x23, .ref a26, .int x24, .ref a27, .ref a28, .ref a29, .long y0, .ref a30, .ref a31, .ref a32, .ref a33, .ref a34, .ref a35, .ref a36, .ref a37, .ref a38, .int x25, .int x26, .int x27, .long y1, .ref a39, .int x28, .ref a40, .ref a41, .ref a42, .ref a43, .int x29, .int x30, .int x31, .int x32])), (a1, .inl (cI, 1600, .inl f0))] s.heap := hP
  replace hl : lv_has ls 8 [(0, .ref a0), (1, .int x0), (2, .int x1), (3, .int x2), (4, .int x3), (5, .int x4)] := hl
  have rx0 := n_rng x0
  have rx1 := n_rng x1
  have rx2 := n_rng x2
  have rx3 := n_rng x3
  have rx4 := n_rng x4
  have rx11 := n_rng x11
  have rx12 := n_rng x12
  have rx18 := n_rng x18
  have rx22 := n_rng x22
  have ry0 := n_rngL y0
  have ry1 := n_rngL y1
  refine lv_aload_n (pc := 0) hx hb dX12_feed_0 rfl (lv_at hl 0 rfl) ?_
  refine va_get (pc := 1) (ci := 12) (v := .int x5) (C := RX12) (T := TX12) (N := 73) hx hb hts iX12 hown hK hP 0 rfl rfl 1 (by decide) (hts _ tw_1402) (fun _ h9 => h9) rfl dX12_feed_1 ?_
  refine lv_bipush (pc := 4) (v := 20) hx hb dX12_feed_4 (by decide) ?_
  refine b_iadd (pc := 6) hx hb rfl tI_20 (by omega) (by omega) dX12_feed_6 (fun x_1 ex_1 => ?_)
  refine lv_sipush (pc := 7) (v := 1600) hx hb dX12_feed_7 (by decide) ?_
  refine b_icmp_le (pc := 10) (tgt := 15) hx hb rfl tI_1600  dX12_feed_10 (by decide) (fun c_2 => ?_) (fun c_2 => ?_)
  ·
    refine lv_iconst (pc := 15) (v := 0) hx hb dX12_feed_15 (by decide) ?_
    refine lv_istore (pc := 16) (lv' := [(6, .int 0), (0, .ref a0), (1, .int x0), (2, .int x1), (3, .int x2), (4, .int x3), (5, .int x4)]) hx hb dX12_feed_16 hl (by decide) rfl (fun ls hl => ?_)
    have lp_11 : ∀ (n : Nat) (x_3 x_5 : Int32) (f_7 : Nat → Int32) (H : Heap) (locs : List Loc) (ls : Array Slot), (0 ≤ x_3.toInt ∧ x_3.toInt ≤ 20) → (0 ≤ x_5.toInt ∧ x_5.toInt ≤ 1600) → (∀ j, 0 ≤ (f_7 j).toInt ∧ (f_7 j).toInt ≤ 255) → (x_5.toInt = x5.toInt + x_3.toInt) → (fdQ9 (tau f_7 x_5.toInt) (tau f0 x5.toInt) x5.toInt (bys x0 x1 x2 x3 x4) x_3.toInt) → (2147483647 - x_3.toInt).toNat < n → va_P D gcl [(a0, .inr (12, [.ref a1, .int x_5, .int x6, .int x7, .int x8, .int x9, .int x10, .int x11, .int x12, .ref a2, .ref a3, .ref a4, .ref a5, .ref a6, .ref a7, .ref a8, .ref a9, .ref a10, .ref a11, .ref a12, .ref a13, .ref a14, .ref a15, .ref a16, .int x13, .int x14, .int x15, .int x16, .int x17, .int x18, .ref a17, .ref a18, .ref a19, .int x19, .ref a20, .int x20, .ref a21, .int x21, .int x22, .ref a22, .ref a23, .ref a24, .ref a25, .int x23, .ref a26, .int x24, .ref a27, .ref a28, .ref a29, .long y0, .ref a30, .ref a31, .ref a32, .ref a33, .ref a34, .ref a35, .ref a36, .ref a37, .ref a38, .int x25, .int x26, .int x27, .long y1, .ref a39, .int x28, .ref a40, .ref a41, .ref a42, .ref a43, .int x29, .int x30, .int x31, .int x32])), (a1, .inl (cI, 1600, .inl f_7))] H → va_D A [(a0, .inr (12, [.ref a1, .int x_5, .int x6, .int x7, .int x8, .int x9, .int x10, .int x11, .int x12, .ref a2, .ref a3, .ref a4, .ref a5, .ref a6, .ref a7, .ref a8, .ref a9, .ref a10, .ref a11, .ref a12, .ref a13, .ref a14, .ref a15, .ref a16, .int x13, .int x14, .int x15, .int x16, .int x17, .int x18, .ref a17, .ref a18, .ref a19, .int x19, .ref a20, .int x20, .ref a21, .int x21, .int x22, .ref a22, .ref a23, .ref a24, .ref a25, .int x23, .ref a26, .int x24, .ref a27, .ref a28, .ref a29, .long y0, .ref a30, .ref a31, .ref a32, .ref a33, .ref a34, .ref a35, .ref a36, .ref a37, .ref a38, .int x25, .int x26, .int x27, .long y1, .ref a39, .int x28, .ref a40, .ref a41, .ref a42, .ref a43, .int x29, .int x30, .int x31, .int x32])), (a1, .inl (cI, 1600, .inl f_7))] → va_S A s.heap H locs → lv_has ls 8 [(6, .int x_3), (0, .ref a0), (1, .int x0), (2, .int x1), (3, .int x2), (4, .int x3), (5, .int x4)] → W p l e ({ frames := 0, cells := 0, slots := 0, locals := 0 }) s m args below meth c H locs 0 0 Q (F0 m 18 ls []) := by
      intro n
      induction n with
      | zero => intro x_3 x_5 f_7 H locs ls hi_4 hi_6 hi_8 hi_9 hi_10 hmu; exact absurd hmu (Nat.not_lt_zero _)
      | succ n ih_lp_11 =>
        intro x_3 x_5 f_7 H locs ls hi_4 hi_6 hi_8 hi_9 hi_10 hmu_lp_11 hP hD hS hl
        refine lv_iload (pc := 18) hx hb dX12_feed_18 (lv_at hl 0 rfl) ?_
        refine lv_bipush (pc := 20) (v := 20) hx hb dX12_feed_20 (by decide) ?_
        refine b_icmp_ge (pc := 22) (tgt := 114) hx hb rfl tI_20  dX12_feed_22 (by decide) (fun c_12 => ?_) (fun c_12 => ?_)
        ·
          refine lv_aload_n (pc := 114) hx hb dX12_feed_114 rfl (lv_at hl 1 rfl) ?_
          refine va_get (pc := 115) (ci := 12) (v := .int x_5) (C := RX12) (T := TX12) (N := 73) hx hb hts iX12 hown hK hP 0 rfl rfl 1 (by decide) (hts _ tw_1402) (fun _ h9 => h9) rfl dX12_feed_115 ?_
          have hP9 : va_P D gcl [(a0, .inr (12, [.ref a1, .int x_5, .int x6, .int x7, .int x8, .int x9, .int x10, .int x11, .int x12, .ref a2, .ref a3, .ref a4, .ref a5, .ref a6, .ref a7, .ref a8, .ref a9, .ref a10, .ref a11, .ref a12, .ref a13, .ref a14, .ref a15, .ref a16, .int x13, .int x14, .int x15, .int x16, .int x17, .int x18, .ref a17, .ref a18, .ref a19, .int x19, .ref a20, .int x20, .ref a21, .int x21, .int x22, .ref a22, .ref a23, .ref a24, .ref a25, .int x23, .ref a26, .int x24, .ref a27, .ref a28, .ref a29, .long y0, .ref a30, .ref a31, .ref a32, .ref a33, .ref a34, .ref a35, .ref a36, .ref a37, .ref a38, .int x25, .int x26, .int x27, .long y1, .ref a39, .int x28, .ref a40, .ref a41, .ref a42, .ref a43, .int x29, .int x30, .int x31, .int x32])), (a1, .inl (cI, 1600, .inl f_7))] H := g_psub hP [0, 1] rfl
          have hD9 : va_D A [(a0, .inr (12, [.ref a1, .int x_5, .int x6, .int x7, .int x8, .int x9, .int x10, .int x11, .int x12, .ref a2, .ref a3, .ref a4, .ref a5, .ref a6, .ref a7, .ref a8, .ref a9, .ref a10, .ref a11, .ref a12, .ref a13, .ref a14, .ref a15, .ref a16, .int x13, .int x14, .int x15, .int x16, .int x17, .int x18, .ref a17, .ref a18, .ref a19, .int x19, .ref a20, .int x20, .ref a21, .int x21, .int x22, .ref a22, .ref a23, .ref a24, .ref a25, .int x23, .ref a26, .int x24, .ref a27, .ref a28, .ref a29, .long y0, .ref a30, .ref a31, .ref a32, .ref a33, .ref a34, .ref a35, .ref a36, .ref a37, .ref a38, .int x25, .int x26, .int x27, .long y1, .ref a39, .int x28, .ref a40, .ref a41, .ref a42, .ref a43, .int x29, .int x30, .int x31, .int x32])), (a1, .inl (cI, 1600, .inl f_7))] := hD.sub [0, 1] (by decide) rfl
          exact hret x_5 ((fun _ => 0), (fun k => [f_7].getD k (fun _ => 0)), (fun _ => (fun _ => 0)), (fun k => [x_5].getD k 0), (fun _ => 0)) dX12_feed_118 ⟨(show (((0 ≤ x_5.toInt ∧ x_5.toInt ≤ 1600) ∧ (x5.toInt) + (20) ≤ 1600) ∨ (x_5.toInt = (-1) ∧ (x5.toInt) + (20) > 1600 ∧ (x_5 : Int32).toInt = x5.toInt)) by omega), (show (0 ≤ (x_5 : Int32).toInt ∧ (x_5 : Int32).toInt ≤ 1600) from hi_6), hi_8, (show ((x_5.toInt = -1 ∧ x5.toInt + 20 > 1600 ∧ (x_5 : Int32).toInt = x5.toInt) ∨ (x_5.toInt = x5.toInt + 20 ∧ x5.toInt + 20 ≤ 1600 ∧ (x_5 : Int32).toInt = x5.toInt + 20)) by omega), (show fqQ x_5.toInt (tau f_7 x_5.toInt) (tau f0 x5.toInt) x5.toInt (bys x0 x1 x2 x3 x4) from (by have e9 : x_3.toInt = 20 := (by omega); have q9 := hi_10; rw [e9] at q9; exact fq_yes (by omega) q9))⟩ hP9 hD9 hS
        ·
          refine lv_iload (pc := 25) hx hb dX12_feed_25 (lv_at hl 0 rfl) ?_
          refine lv_iconst (pc := 27) (v := 4) hx hb dX12_feed_27 (by decide) ?_
          refine b_icmp_ge (pc := 28) (tgt := 35) hx hb rfl tI_4  dX12_feed_28 (by decide) (fun c_13 => ?_) (fun c_13 => ?_)
          ·
            refine lv_iload (pc := 35) hx hb dX12_feed_35 (lv_at hl 0 rfl) ?_
            refine lv_bipush (pc := 37) (v := 8) hx hb dX12_feed_37 (by decide) ?_
            refine b_icmp_ge (pc := 39) (tgt := 46) hx hb rfl tI_8  dX12_feed_39 (by decide) (fun c_14 => ?_) (fun c_14 => ?_)
            ·
              refine lv_iload (pc := 46) hx hb dX12_feed_46 (lv_at hl 0 rfl) ?_
              refine lv_bipush (pc := 48) (v := 12) hx hb dX12_feed_48 (by decide) ?_
              refine b_icmp_ge (pc := 50) (tgt := 57) hx hb rfl tI_12  dX12_feed_50 (by decide) (fun c_15 => ?_) (fun c_15 => ?_)
              ·
                refine lv_iload (pc := 57) hx hb dX12_feed_57 (lv_at hl 0 rfl) ?_
                refine lv_bipush (pc := 59) (v := 16) hx hb dX12_feed_59 (by decide) ?_
                refine b_icmp_ge (pc := 61) (tgt := 69) hx hb rfl tI_16  dX12_feed_61 (by decide) (fun c_16 => ?_) (fun c_16 => ?_)
                ·
                  refine lv_iload (pc := 69) hx hb dX12_feed_69 (lv_at hl 6 rfl) ?_
                  refine lv_istore (pc := 71) (lv' := [(7, .int x4), (6, .int x_3), (0, .ref a0), (1, .int x0), (2, .int x1), (3, .int x2), (4, .int x3), (5, .int x4)]) hx hb dX12_feed_71 hl (by decide) rfl (fun ls hl => ?_)
                  refine lv_aload_n (pc := 73) hx hb dX12_feed_73 rfl (lv_at hl 2 rfl) ?_
                  refine va_get (pc := 74) (ci := 12) (v := .ref a1) (C := RX12) (T := TX12) (N := 73) hx hb hts iX12 hown hK hP 0 rfl rfl 0 (by decide) (hts _ tw_1401) (fun _ h9 => h9) rfl dX12_feed_74 ?_
                  refine lv_aload_n (pc := 77) hx hb dX12_feed_77 rfl (lv_at hl 2 rfl) ?_
                  refine va_get (pc := 78) (ci := 12) (v := .int x_5) (C := RX12) (T := TX12) (N := 73) hx hb hts iX12 hown hK hP 0 rfl rfl 1 (by decide) (hts _ tw_1402) (fun _ h9 => h9) rfl dX12_feed_78 ?_
                  refine lv_iload (pc := 81) hx hb dX12_feed_81 (lv_at hl 0 rfl) ?_
                  refine lv_bipush (pc := 83) (v := 8) hx hb dX12_feed_83 (by decide) ?_
                  refine lv_iconst (pc := 85) (v := 3) hx hb dX12_feed_85 (by decide) ?_
                  refine lv_iload (pc := 86) hx hb dX12_feed_86 (lv_at hl 1 rfl) ?_
                  refine lv_iconst (pc := 88) (v := 4) hx hb dX12_feed_88 (by decide) ?_
                  refine c_irem (pc := 89) hx hb rfl tI_4 (by omega) (by omega) dX12_feed_89 (fun x_17 ex_17 => ?_)
                  refine b_isub (pc := 90) hx hb tI_3 rfl (by omega) (by omega) dX12_feed_90 (fun x_18 ex_18 => ?_)
                  refine b_imul (pc := 91) hx hb tI_8 rfl (by omega) (by omega) dX12_feed_91 (fun x_19 ex_19 => ?_)
                  refine lv_ishr (pc := 92) hx hb dX12_feed_92 ?_
                  refine lv_topi (fun x_20 ex_20 => ?_)
                  have rx_20 := n_rng x_20
                  refine lv_sipush (pc := 93) (v := 255) hx hb dX12_feed_93 (by decide) ?_
                  refine lv_iand (pc := 96) hx hb dX12_feed_96 ?_
                  refine lv_topi (fun x_21 ex_21 => ?_)
                  have tx_21 := and255 ex_21
                  refine e_iastore (pc := 97) hx hb hK hP hD hS 1 2 rfl rfl (n_in rfl (by omega) (by omega)) dX12_feed_97 (fun f_22 ef_22 H locs hP hD hS => ?_)
                  have hf_22 : (∀ j, 0 ≤ (f_22 j).toInt ∧ (f_22 j).toInt ≤ 255) := by rw [ef_22]; exact n_upd hi_8 (by omega) (by omega)
                  replace hP : va_P D gcl [(a0, .inr (12, [.ref a1, .int x_5, .int x6, .int x7, .int x8, .int x9, .int x10, .int x11, .int x12, .ref a2, .ref a3, .ref a4, .ref a5, .ref a6, .ref a7, .ref a8, .ref a9, .ref a10, .ref a11, .ref a12, .ref a13, .ref a14, .ref a15, .ref a16, .int x13, .int x14, .int x15, .int x16, .int x17, .int x18, .ref a17, .ref a18, .ref a19, .int x19, .ref a20, .int x20, .ref a21, .int x21, .int x22, .ref a22, .ref a23, .ref a24, .ref a25, .int x23, .ref a26, .int x24, .ref a27, .ref a28, .ref a29, .long y0, .ref a30, .ref a31, .ref a32, .ref a33, .ref a34, .ref a35, .ref a36, .ref a37, .ref a38, .int x25, .int x26, .int x27, .long y1, .ref a39, .int x28, .ref a40, .ref a41, .ref a42, .ref a43, .int x29, .int x30, .int x31, .int x32])), (a1, .inl (cI, 1600, .inl f_22))] H := hP
                  replace hD : va_D A [(a0, .inr (12, [.ref a1, .int x_5, .int x6, .int x7, .int x8, .int x9, .int x10, .int x11, .int x12, .ref a2, .ref a3, .ref a4, .ref a5, .ref a6, .ref a7, .ref a8, .ref a9, .ref a10, .ref a11, .ref a12, .ref a13, .ref a14, .ref a15, .ref a16, .int x13, .int x14, .int x15, .int x16, .int x17, .int x18, .ref a17, .ref a18, .ref a19, .int x19, .ref a20, .int x20, .ref a21, .int x21, .int x22, .ref a22, .ref a23, .ref a24, .ref a25, .int x23, .ref a26, .int x24, .ref a27, .ref a28, .ref a29, .long y0, .ref a30, .ref a31, .ref a32, .ref a33, .ref a34, .ref a35, .ref a36, .ref a37, .ref a38, .int x25, .int x26, .int x27, .long y1, .ref a39, .int x28, .ref a40, .ref a41, .ref a42, .ref a43, .int x29, .int x30, .int x31, .int x32])), (a1, .inl (cI, 1600, .inl f_22))] := hD
                  refine lv_aload_n (pc := 98) hx hb dX12_feed_98 rfl (lv_at hl 2 rfl) ?_
                  refine lv_dup (pc := 99) hx hb dX12_feed_99 rfl ?_
                  refine va_get (pc := 100) (ci := 12) (v := .int x_5) (C := RX12) (T := TX12) (N := 73) hx hb hts iX12 hown hK hP 0 rfl rfl 1 (by decide) (hts _ tw_1402) (fun _ h9 => h9) rfl dX12_feed_100 ?_
                  refine lv_iconst (pc := 103) (v := 1) hx hb dX12_feed_103 (by decide) ?_
                  refine b_iadd (pc := 104) hx hb rfl tI_1 (by omega) (by omega) dX12_feed_104 (fun x_23 ex_23 => ?_)
                  refine va_put (pc := 105) (ci := 12) (v := .int x_23) (ty := .int) (C := RX12) (T := TX12) (N := 73) hx hb hts iX12 tyX12 tyX12_ok nmX12 hown hK hP hD hS 0 rfl rfl 1 (by decide) (hts _ tw_1402) (fun _ h9 => h9) rfl (by decide +kernel) rfl rfl (Nat.le_of_ble_eq_true rfl) dX12_feed_105 (fun H locs hP hD hS => ?_)
                  replace hP : va_P D gcl [(a0, .inr (12, [.ref a1, .int x_23, .int x6, .int x7, .int x8, .int x9, .int x10, .int x11, .int x12, .ref a2, .ref a3, .ref a4, .ref a5, .ref a6, .ref a7, .ref a8, .ref a9, .ref a10, .ref a11, .ref a12, .ref a13, .ref a14, .ref a15, .ref a16, .int x13, .int x14, .int x15, .int x16, .int x17, .int x18, .ref a17, .ref a18, .ref a19, .int x19, .ref a20, .int x20, .ref a21, .int x21, .int x22, .ref a22, .ref a23, .ref a24, .ref a25, .int x23, .ref a26, .int x24, .ref a27, .ref a28, .ref a29, .long y0, .ref a30, .ref a31, .ref a32, .ref a33, .ref a34, .ref a35, .ref a36, .ref a37, .ref a38, .int x25, .int x26, .int x27, .long y1, .ref a39, .int x28, .ref a40, .ref a41, .ref a42, .ref a43, .int x29, .int x30, .int x31, .int x32])), (a1, .inl (cI, 1600, .inl f_22))] H := hP
                  replace hD : va_D A [(a0, .inr (12, [.ref a1, .int x_23, .int x6, .int x7, .int x8, .int x9, .int x10, .int x11, .int x12, .ref a2, .ref a3, .ref a4, .ref a5, .ref a6, .ref a7, .ref a8, .ref a9, .ref a10, .ref a11, .ref a12, .ref a13, .ref a14, .ref a15, .ref a16, .int x13, .int x14, .int x15, .int x16, .int x17, .int x18, .ref a17, .ref a18, .ref a19, .int x19, .ref a20, .int x20, .ref a21, .int x21, .int x22, .ref a22, .ref a23, .ref a24, .ref a25, .int x23, .ref a26, .int x24, .ref a27, .ref a28, .ref a29, .long y0, .ref a30, .ref a31, .ref a32, .ref a33, .ref a34, .ref a35, .ref a36, .ref a37, .ref a38, .int x25, .int x26, .int x27, .long y1, .ref a39, .int x28, .ref a40, .ref a41, .ref a42, .ref a43, .int x29, .int x30, .int x31, .int x32])), (a1, .inl (cI, 1600, .inl f_22))] := hD
                  refine b_iinc (pc := 108) hx hb dX12_feed_108 hl (k := 1) rfl rfl tI_1 (by omega) (by omega) (by decide) (fun x_24 ex_24 ls hl => ?_)
                  replace hl : lv_has ls 8 [(6, .int x_24), (7, .int x4), (0, .ref a0), (1, .int x0), (2, .int x1), (3, .int x2), (4, .int x3), (5, .int x4)] := hl
                  refine lv_goto (pc := 111) (tgt := 18) hx hb dX12_feed_111 (by decide) ?_
                  exact ih_lp_11 x_24 x_23 f_22 _ _ ls (by omega) (by omega) hf_22 (by omega) (fdm_step hi_10 (by omega) (by omega) (by omega) (by omega) (e_at ef_22 (by omega)) (by omega) (bm ex_20 tx_21) (bys_at (by omega) (by omega) (Or.inr (Or.inr (Or.inr (Or.inr (⟨by omega, rfl⟩))))))) (by omega) hP hD hS (lv_sub hl [0, 2, 3, 4, 5, 6, 7] rfl)
                ·
                  refine lv_iload (pc := 64) hx hb dX12_feed_64 (lv_at hl 5 rfl) ?_
                  refine lv_goto (pc := 66) (tgt := 71) hx hb dX12_feed_66 (by decide) ?_
                  refine lv_istore (pc := 71) (lv' := [(7, .int x3), (6, .int x_3), (0, .ref a0), (1, .int x0), (2, .int x1), (3, .int x2), (4, .int x3), (5, .int x4)]) hx hb dX12_feed_71 hl (by decide) rfl (fun ls hl => ?_)
                  refine lv_aload_n (pc := 73) hx hb dX12_feed_73 rfl (lv_at hl 2 rfl) ?_
                  refine va_get (pc := 74) (ci := 12) (v := .ref a1) (C := RX12) (T := TX12) (N := 73) hx hb hts iX12 hown hK hP 0 rfl rfl 0 (by decide) (hts _ tw_1401) (fun _ h9 => h9) rfl dX12_feed_74 ?_
                  refine lv_aload_n (pc := 77) hx hb dX12_feed_77 rfl (lv_at hl 2 rfl) ?_
                  refine va_get (pc := 78) (ci := 12) (v := .int x_5) (C := RX12) (T := TX12) (N := 73) hx hb hts iX12 hown hK hP 0 rfl rfl 1 (by decide) (hts _ tw_1402) (fun _ h9 => h9) rfl dX12_feed_78 ?_
                  refine lv_iload (pc := 81) hx hb dX12_feed_81 (lv_at hl 0 rfl) ?_
                  refine lv_bipush (pc := 83) (v := 8) hx hb dX12_feed_83 (by decide) ?_
                  refine lv_iconst (pc := 85) (v := 3) hx hb dX12_feed_85 (by decide) ?_
                  refine lv_iload (pc := 86) hx hb dX12_feed_86 (lv_at hl 1 rfl) ?_
                  refine lv_iconst (pc := 88) (v := 4) hx hb dX12_feed_88 (by decide) ?_
                  refine c_irem (pc := 89) hx hb rfl tI_4 (by omega) (by omega) dX12_feed_89 (fun x_25 ex_25 => ?_)
                  refine b_isub (pc := 90) hx hb tI_3 rfl (by omega) (by omega) dX12_feed_90 (fun x_26 ex_26 => ?_)
                  refine b_imul (pc := 91) hx hb tI_8 rfl (by omega) (by omega) dX12_feed_91 (fun x_27 ex_27 => ?_)
                  refine lv_ishr (pc := 92) hx hb dX12_feed_92 ?_
                  refine lv_topi (fun x_28 ex_28 => ?_)
                  have rx_28 := n_rng x_28
                  refine lv_sipush (pc := 93) (v := 255) hx hb dX12_feed_93 (by decide) ?_
                  refine lv_iand (pc := 96) hx hb dX12_feed_96 ?_
                  refine lv_topi (fun x_29 ex_29 => ?_)
                  have tx_29 := and255 ex_29
                  refine e_iastore (pc := 97) hx hb hK hP hD hS 1 2 rfl rfl (n_in rfl (by omega) (by omega)) dX12_feed_97 (fun f_30 ef_30 H locs hP hD hS => ?_)
                  have hf_30 : (∀ j, 0 ≤ (f_30 j).toInt ∧ (f_30 j).toInt ≤ 255) := by rw [ef_30]; exact n_upd hi_8 (by omega) (by omega)
                  replace hP : va_P D gcl [(a0, .inr (12, [.ref a1, .int x_5, .int x6, .int x7, .int x8, .int x9, .int x10, .int x11, .int x12, .ref a2, .ref a3, .ref a4, .ref a5, .ref a6, .ref a7, .ref a8, .ref a9, .ref a10, .ref a11, .ref a12, .ref a13, .ref a14, .ref a15, .ref a16, .int x13, .int x14, .int x15, .int x16, .int x17, .int x18, .ref a17, .ref a18, .ref a19, .int x19, .ref a20, .int x20, .ref a21, .int x21, .int x22, .ref a22, .ref a23, .ref a24, .ref a25, .int x23, .ref a26, .int x24, .ref a27, .ref a28, .ref a29, .long y0, .ref a30, .ref a31, .ref a32, .ref a33, .ref a34, .ref a35, .ref a36, .ref a37, .ref a38, .int x25, .int x26, .int x27, .long y1, .ref a39, .int x28, .ref a40, .ref a41, .ref a42, .ref a43, .int x29, .int x30, .int x31, .int x32])), (a1, .inl (cI, 1600, .inl f_30))] H := hP
                  replace hD : va_D A [(a0, .inr (12, [.ref a1, .int x_5, .int x6, .int x7, .int x8, .int x9, .int x10, .int x11, .int x12, .ref a2, .ref a3, .ref a4, .ref a5, .ref a6, .ref a7, .ref a8, .ref a9, .ref a10, .ref a11, .ref a12, .ref a13, .ref a14, .ref a15, .ref a16, .int x13, .int x14, .int x15, .int x16, .int x17, .int x18, .ref a17, .ref a18, .ref a19, .int x19, .ref a20, .int x20, .ref a21, .int x21, .int x22, .ref a22, .ref a23, .ref a24, .ref a25, .int x23, .ref a26, .int x24, .ref a27, .ref a28, .ref a29, .long y0, .ref a30, .ref a31, .ref a32, .ref a33, .ref a34, .ref a35, .ref a36, .ref a37, .ref a38, .int x25, .int x26, .int x27, .long y1, .ref a39, .int x28, .ref a40, .ref a41, .ref a42, .ref a43, .int x29, .int x30, .int x31, .int x32])), (a1, .inl (cI, 1600, .inl f_30))] := hD
                  refine lv_aload_n (pc := 98) hx hb dX12_feed_98 rfl (lv_at hl 2 rfl) ?_
                  refine lv_dup (pc := 99) hx hb dX12_feed_99 rfl ?_
                  refine va_get (pc := 100) (ci := 12) (v := .int x_5) (C := RX12) (T := TX12) (N := 73) hx hb hts iX12 hown hK hP 0 rfl rfl 1 (by decide) (hts _ tw_1402) (fun _ h9 => h9) rfl dX12_feed_100 ?_
                  refine lv_iconst (pc := 103) (v := 1) hx hb dX12_feed_103 (by decide) ?_
                  refine b_iadd (pc := 104) hx hb rfl tI_1 (by omega) (by omega) dX12_feed_104 (fun x_31 ex_31 => ?_)
                  refine va_put (pc := 105) (ci := 12) (v := .int x_31) (ty := .int) (C := RX12) (T := TX12) (N := 73) hx hb hts iX12 tyX12 tyX12_ok nmX12 hown hK hP hD hS 0 rfl rfl 1 (by decide) (hts _ tw_1402) (fun _ h9 => h9) rfl (by decide +kernel) rfl rfl (Nat.le_of_ble_eq_true rfl) dX12_feed_105 (fun H locs hP hD hS => ?_)
                  replace hP : va_P D gcl [(a0, .inr (12, [.ref a1, .int x_31, .int x6, .int x7, .int x8, .int x9, .int x10, .int x11, .int x12, .ref a2, .ref a3, .ref a4, .ref a5, .ref a6, .ref a7, .ref a8, .ref a9, .ref a10, .ref a11, .ref a12, .ref a13, .ref a14, .ref a15, .ref a16, .int x13, .int x14, .int x15, .int x16, .int x17, .int x18, .ref a17, .ref a18, .ref a19, .int x19, .ref a20, .int x20, .ref a21, .int x21, .int x22, .ref a22, .ref a23, .ref a24, .ref a25, .int x23, .ref a26, .int x24, .ref a27, .ref a28, .ref a29, .long y0, .ref a30, .ref a31, .ref a32, .ref a33, .ref a34, .ref a35, .ref a36, .ref a37, .ref a38, .int x25, .int x26, .int x27, .long y1, .ref a39, .int x28, .ref a40, .ref a41, .ref a42, .ref a43, .int x29, .int x30, .int x31, .int x32])), (a1, .inl (cI, 1600, .inl f_30))] H := hP
                  replace hD : va_D A [(a0, .inr (12, [.ref a1, .int x_31, .int x6, .int x7, .int x8, .int x9, .int x10, .int x11, .int x12, .ref a2, .ref a3, .ref a4, .ref a5, .ref a6, .ref a7, .ref a8, .ref a9, .ref a10, .ref a11, .ref a12, .ref a13, .ref a14, .ref a15, .ref a16, .int x13, .int x14, .int x15, .int x16, .int x17, .int x18, .ref a17, .ref a18, .ref a19, .int x19, .ref a20, .int x20, .ref a21, .int x21, .int x22, .ref a22, .ref a23, .ref a24, .ref a25, .int x23, .ref a26, .int x24, .ref a27, .ref a28, .ref a29, .long y0, .ref a30, .ref a31, .ref a32, .ref a33, .ref a34, .ref a35, .ref a36, .ref a37, .ref a38, .int x25, .int x26, .int x27, .long y1, .ref a39, .int x28, .ref a40, .ref a41, .ref a42, .ref a43, .int x29, .int x30, .int x31, .int x32])), (a1, .inl (cI, 1600, .inl f_30))] := hD
                  refine b_iinc (pc := 108) hx hb dX12_feed_108 hl (k := 1) rfl rfl tI_1 (by omega) (by omega) (by decide) (fun x_32 ex_32 ls hl => ?_)
                  replace hl : lv_has ls 8 [(6, .int x_32), (7, .int x3), (0, .ref a0), (1, .int x0), (2, .int x1), (3, .int x2), (4, .int x3), (5, .int x4)] := hl
                  refine lv_goto (pc := 111) (tgt := 18) hx hb dX12_feed_111 (by decide) ?_
                  exact ih_lp_11 x_32 x_31 f_30 _ _ ls (by omega) (by omega) hf_30 (by omega) (fdm_step hi_10 (by omega) (by omega) (by omega) (by omega) (e_at ef_30 (by omega)) (by omega) (bm ex_28 tx_29) (bys_at (by omega) (by omega) (Or.inr (Or.inr (Or.inr (Or.inl ⟨by omega, by omega, rfl⟩)))))) (by omega) hP hD hS (lv_sub hl [0, 2, 3, 4, 5, 6, 7] rfl)
              ·
                refine lv_iload_n (pc := 53) hx hb dX12_feed_53 rfl (lv_at hl 4 rfl) ?_
                refine lv_goto (pc := 54) (tgt := 71) hx hb dX12_feed_54 (by decide) ?_
                refine lv_istore (pc := 71) (lv' := [(7, .int x2), (6, .int x_3), (0, .ref a0), (1, .int x0), (2, .int x1), (3, .int x2), (4, .int x3), (5, .int x4)]) hx hb dX12_feed_71 hl (by decide) rfl (fun ls hl => ?_)
                refine lv_aload_n (pc := 73) hx hb dX12_feed_73 rfl (lv_at hl 2 rfl) ?_
                refine va_get (pc := 74) (ci := 12) (v := .ref a1) (C := RX12) (T := TX12) (N := 73) hx hb hts iX12 hown hK hP 0 rfl rfl 0 (by decide) (hts _ tw_1401) (fun _ h9 => h9) rfl dX12_feed_74 ?_
                refine lv_aload_n (pc := 77) hx hb dX12_feed_77 rfl (lv_at hl 2 rfl) ?_
                refine va_get (pc := 78) (ci := 12) (v := .int x_5) (C := RX12) (T := TX12) (N := 73) hx hb hts iX12 hown hK hP 0 rfl rfl 1 (by decide) (hts _ tw_1402) (fun _ h9 => h9) rfl dX12_feed_78 ?_
                refine lv_iload (pc := 81) hx hb dX12_feed_81 (lv_at hl 0 rfl) ?_
                refine lv_bipush (pc := 83) (v := 8) hx hb dX12_feed_83 (by decide) ?_
                refine lv_iconst (pc := 85) (v := 3) hx hb dX12_feed_85 (by decide) ?_
                refine lv_iload (pc := 86) hx hb dX12_feed_86 (lv_at hl 1 rfl) ?_
                refine lv_iconst (pc := 88) (v := 4) hx hb dX12_feed_88 (by decide) ?_
                refine c_irem (pc := 89) hx hb rfl tI_4 (by omega) (by omega) dX12_feed_89 (fun x_33 ex_33 => ?_)
                refine b_isub (pc := 90) hx hb tI_3 rfl (by omega) (by omega) dX12_feed_90 (fun x_34 ex_34 => ?_)
                refine b_imul (pc := 91) hx hb tI_8 rfl (by omega) (by omega) dX12_feed_91 (fun x_35 ex_35 => ?_)
                refine lv_ishr (pc := 92) hx hb dX12_feed_92 ?_
                refine lv_topi (fun x_36 ex_36 => ?_)
                have rx_36 := n_rng x_36
                refine lv_sipush (pc := 93) (v := 255) hx hb dX12_feed_93 (by decide) ?_
                refine lv_iand (pc := 96) hx hb dX12_feed_96 ?_
                refine lv_topi (fun x_37 ex_37 => ?_)
                have tx_37 := and255 ex_37
                refine e_iastore (pc := 97) hx hb hK hP hD hS 1 2 rfl rfl (n_in rfl (by omega) (by omega)) dX12_feed_97 (fun f_38 ef_38 H locs hP hD hS => ?_)
                have hf_38 : (∀ j, 0 ≤ (f_38 j).toInt ∧ (f_38 j).toInt ≤ 255) := by rw [ef_38]; exact n_upd hi_8 (by omega) (by omega)
                replace hP : va_P D gcl [(a0, .inr (12, [.ref a1, .int x_5, .int x6, .int x7, .int x8, .int x9, .int x10, .int x11, .int x12, .ref a2, .ref a3, .ref a4, .ref a5, .ref a6, .ref a7, .ref a8, .ref a9, .ref a10, .ref a11, .ref a12, .ref a13, .ref a14, .ref a15, .ref a16, .int x13, .int x14, .int x15, .int x16, .int x17, .int x18, .ref a17, .ref a18, .ref a19, .int x19, .ref a20, .int x20, .ref a21, .int x21, .int x22, .ref a22, .ref a23, .ref a24, .ref a25, .int x23, .ref a26, .int x24, .ref a27, .ref a28, .ref a29, .long y0, .ref a30, .ref a31, .ref a32, .ref a33, .ref a34, .ref a35, .ref a36, .ref a37, .ref a38, .int x25, .int x26, .int x27, .long y1, .ref a39, .int x28, .ref a40, .ref a41, .ref a42, .ref a43, .int x29, .int x30, .int x31, .int x32])), (a1, .inl (cI, 1600, .inl f_38))] H := hP
                replace hD : va_D A [(a0, .inr (12, [.ref a1, .int x_5, .int x6, .int x7, .int x8, .int x9, .int x10, .int x11, .int x12, .ref a2, .ref a3, .ref a4, .ref a5, .ref a6, .ref a7, .ref a8, .ref a9, .ref a10, .ref a11, .ref a12, .ref a13, .ref a14, .ref a15, .ref a16, .int x13, .int x14, .int x15, .int x16, .int x17, .int x18, .ref a17, .ref a18, .ref a19, .int x19, .ref a20, .int x20, .ref a21, .int x21, .int x22, .ref a22, .ref a23, .ref a24, .ref a25, .int x23, .ref a26, .int x24, .ref a27, .ref a28, .ref a29, .long y0, .ref a30, .ref a31, .ref a32, .ref a33, .ref a34, .ref a35, .ref a36, .ref a37, .ref a38, .int x25, .int x26, .int x27, .long y1, .ref a39, .int x28, .ref a40, .ref a41, .ref a42, .ref a43, .int x29, .int x30, .int x31, .int x32])), (a1, .inl (cI, 1600, .inl f_38))] := hD
                refine lv_aload_n (pc := 98) hx hb dX12_feed_98 rfl (lv_at hl 2 rfl) ?_
                refine lv_dup (pc := 99) hx hb dX12_feed_99 rfl ?_
                refine va_get (pc := 100) (ci := 12) (v := .int x_5) (C := RX12) (T := TX12) (N := 73) hx hb hts iX12 hown hK hP 0 rfl rfl 1 (by decide) (hts _ tw_1402) (fun _ h9 => h9) rfl dX12_feed_100 ?_
                refine lv_iconst (pc := 103) (v := 1) hx hb dX12_feed_103 (by decide) ?_
                refine b_iadd (pc := 104) hx hb rfl tI_1 (by omega) (by omega) dX12_feed_104 (fun x_39 ex_39 => ?_)
                refine va_put (pc := 105) (ci := 12) (v := .int x_39) (ty := .int) (C := RX12) (T := TX12) (N := 73) hx hb hts iX12 tyX12 tyX12_ok nmX12 hown hK hP hD hS 0 rfl rfl 1 (by decide) (hts _ tw_1402) (fun _ h9 => h9) rfl (by decide +kernel) rfl rfl (Nat.le_of_ble_eq_true rfl) dX12_feed_105 (fun H locs hP hD hS => ?_)
                replace hP : va_P D gcl [(a0, .inr (12, [.ref a1, .int x_39, .int x6, .int x7, .int x8, .int x9, .int x10, .int x11, .int x12, .ref a2, .ref a3, .ref a4, .ref a5, .ref a6, .ref a7, .ref a8, .ref a9, .ref a10, .ref a11, .ref a12, .ref a13, .ref a14, .ref a15, .ref a16, .int x13, .int x14, .int x15, .int x16, .int x17, .int x18, .ref a17, .ref a18, .ref a19, .int x19, .ref a20, .int x20, .ref a21, .int x21, .int x22, .ref a22, .ref a23, .ref a24, .ref a25, .int x23, .ref a26, .int x24, .ref a27, .ref a28, .ref a29, .long y0, .ref a30, .ref a31, .ref a32, .ref a33, .ref a34, .ref a35, .ref a36, .ref a37, .ref a38, .int x25, .int x26, .int x27, .long y1, .ref a39, .int x28, .ref a40, .ref a41, .ref a42, .ref a43, .int x29, .int x30, .int x31, .int x32])), (a1, .inl (cI, 1600, .inl f_38))] H := hP
                replace hD : va_D A [(a0, .inr (12, [.ref a1, .int x_39, .int x6, .int x7, .int x8, .int x9, .int x10, .int x11, .int x12, .ref a2, .ref a3, .ref a4, .ref a5, .ref a6, .ref a7, .ref a8, .ref a9, .ref a10, .ref a11, .ref a12, .ref a13, .ref a14, .ref a15, .ref a16, .int x13, .int x14, .int x15, .int x16, .int x17, .int x18, .ref a17, .ref a18, .ref a19, .int x19, .ref a20, .int x20, .ref a21, .int x21, .int x22, .ref a22, .ref a23, .ref a24, .ref a25, .int x23, .ref a26, .int x24, .ref a27, .ref a28, .ref a29, .long y0, .ref a30, .ref a31, .ref a32, .ref a33, .ref a34, .ref a35, .ref a36, .ref a37, .ref a38, .int x25, .int x26, .int x27, .long y1, .ref a39, .int x28, .ref a40, .ref a41, .ref a42, .ref a43, .int x29, .int x30, .int x31, .int x32])), (a1, .inl (cI, 1600, .inl f_38))] := hD
                refine b_iinc (pc := 108) hx hb dX12_feed_108 hl (k := 1) rfl rfl tI_1 (by omega) (by omega) (by decide) (fun x_40 ex_40 ls hl => ?_)
                replace hl : lv_has ls 8 [(6, .int x_40), (7, .int x2), (0, .ref a0), (1, .int x0), (2, .int x1), (3, .int x2), (4, .int x3), (5, .int x4)] := hl
                refine lv_goto (pc := 111) (tgt := 18) hx hb dX12_feed_111 (by decide) ?_
                exact ih_lp_11 x_40 x_39 f_38 _ _ ls (by omega) (by omega) hf_38 (by omega) (fdm_step hi_10 (by omega) (by omega) (by omega) (by omega) (e_at ef_38 (by omega)) (by omega) (bm ex_36 tx_37) (bys_at (by omega) (by omega) (Or.inr (Or.inr (Or.inl ⟨by omega, by omega, rfl⟩))))) (by omega) hP hD hS (lv_sub hl [0, 2, 3, 4, 5, 6, 7] rfl)
            ·
              refine lv_iload_n (pc := 42) hx hb dX12_feed_42 rfl (lv_at hl 3 rfl) ?_
              refine lv_goto (pc := 43) (tgt := 71) hx hb dX12_feed_43 (by decide) ?_
              refine lv_istore (pc := 71) (lv' := [(7, .int x1), (6, .int x_3), (0, .ref a0), (1, .int x0), (2, .int x1), (3, .int x2), (4, .int x3), (5, .int x4)]) hx hb dX12_feed_71 hl (by decide) rfl (fun ls hl => ?_)
              refine lv_aload_n (pc := 73) hx hb dX12_feed_73 rfl (lv_at hl 2 rfl) ?_
              refine va_get (pc := 74) (ci := 12) (v := .ref a1) (C := RX12) (T := TX12) (N := 73) hx hb hts iX12 hown hK hP 0 rfl rfl 0 (by decide) (hts _ tw_1401) (fun _ h9 => h9) rfl dX12_feed_74 ?_
              refine lv_aload_n (pc := 77) hx hb dX12_feed_77 rfl (lv_at hl 2 rfl) ?_
              refine va_get (pc := 78) (ci := 12) (v := .int x_5) (C := RX12) (T := TX12) (N := 73) hx hb hts iX12 hown hK hP 0 rfl rfl 1 (by decide) (hts _ tw_1402) (fun _ h9 => h9) rfl dX12_feed_78 ?_
              refine lv_iload (pc := 81) hx hb dX12_feed_81 (lv_at hl 0 rfl) ?_
              refine lv_bipush (pc := 83) (v := 8) hx hb dX12_feed_83 (by decide) ?_
              refine lv_iconst (pc := 85) (v := 3) hx hb dX12_feed_85 (by decide) ?_
              refine lv_iload (pc := 86) hx hb dX12_feed_86 (lv_at hl 1 rfl) ?_
              refine lv_iconst (pc := 88) (v := 4) hx hb dX12_feed_88 (by decide) ?_
              refine c_irem (pc := 89) hx hb rfl tI_4 (by omega) (by omega) dX12_feed_89 (fun x_41 ex_41 => ?_)
              refine b_isub (pc := 90) hx hb tI_3 rfl (by omega) (by omega) dX12_feed_90 (fun x_42 ex_42 => ?_)
              refine b_imul (pc := 91) hx hb tI_8 rfl (by omega) (by omega) dX12_feed_91 (fun x_43 ex_43 => ?_)
              refine lv_ishr (pc := 92) hx hb dX12_feed_92 ?_
              refine lv_topi (fun x_44 ex_44 => ?_)
              have rx_44 := n_rng x_44
              refine lv_sipush (pc := 93) (v := 255) hx hb dX12_feed_93 (by decide) ?_
              refine lv_iand (pc := 96) hx hb dX12_feed_96 ?_
              refine lv_topi (fun x_45 ex_45 => ?_)
              have tx_45 := and255 ex_45
              refine e_iastore (pc := 97) hx hb hK hP hD hS 1 2 rfl rfl (n_in rfl (by omega) (by omega)) dX12_feed_97 (fun f_46 ef_46 H locs hP hD hS => ?_)
              have hf_46 : (∀ j, 0 ≤ (f_46 j).toInt ∧ (f_46 j).toInt ≤ 255) := by rw [ef_46]; exact n_upd hi_8 (by omega) (by omega)
              replace hP : va_P D gcl [(a0, .inr (12, [.ref a1, .int x_5, .int x6, .int x7, .int x8, .int x9, .int x10, .int x11, .int x12, .ref a2, .ref a3, .ref a4, .ref a5, .ref a6, .ref a7, .ref a8, .ref a9, .ref a10, .ref a11, .ref a12, .ref a13, .ref a14, .ref a15, .ref a16, .int x13, .int x14, .int x15, .int x16, .int x17, .int x18, .ref a17, .ref a18, .ref a19, .int x19, .ref a20, .int x20, .ref a21, .int x21, .int x22, .ref a22, .ref a23, .ref a24, .ref a25, .int x23, .ref a26, .int x24, .ref a27, .ref a28, .ref a29, .long y0, .ref a30, .ref a31, .ref a32, .ref a33, .ref a34, .ref a35, .ref a36, .ref a37, .ref a38, .int x25, .int x26, .int x27, .long y1, .ref a39, .int x28, .ref a40, .ref a41, .ref a42, .ref a43, .int x29, .int x30, .int x31, .int x32])), (a1, .inl (cI, 1600, .inl f_46))] H := hP
              replace hD : va_D A [(a0, .inr (12, [.ref a1, .int x_5, .int x6, .int x7, .int x8, .int x9, .int x10, .int x11, .int x12, .ref a2, .ref a3, .ref a4, .ref a5, .ref a6, .ref a7, .ref a8, .ref a9, .ref a10, .ref a11, .ref a12, .ref a13, .ref a14, .ref a15, .ref a16, .int x13, .int x14, .int x15, .int x16, .int x17, .int x18, .ref a17, .ref a18, .ref a19, .int x19, .ref a20, .int x20, .ref a21, .int x21, .int x22, .ref a22, .ref a23, .ref a24, .ref a25, .int x23, .ref a26, .int x24, .ref a27, .ref a28, .ref a29, .long y0, .ref a30, .ref a31, .ref a32, .ref a33, .ref a34, .ref a35, .ref a36, .ref a37, .ref a38, .int x25, .int x26, .int x27, .long y1, .ref a39, .int x28, .ref a40, .ref a41, .ref a42, .ref a43, .int x29, .int x30, .int x31, .int x32])), (a1, .inl (cI, 1600, .inl f_46))] := hD
              refine lv_aload_n (pc := 98) hx hb dX12_feed_98 rfl (lv_at hl 2 rfl) ?_
              refine lv_dup (pc := 99) hx hb dX12_feed_99 rfl ?_
              refine va_get (pc := 100) (ci := 12) (v := .int x_5) (C := RX12) (T := TX12) (N := 73) hx hb hts iX12 hown hK hP 0 rfl rfl 1 (by decide) (hts _ tw_1402) (fun _ h9 => h9) rfl dX12_feed_100 ?_
              refine lv_iconst (pc := 103) (v := 1) hx hb dX12_feed_103 (by decide) ?_
              refine b_iadd (pc := 104) hx hb rfl tI_1 (by omega) (by omega) dX12_feed_104 (fun x_47 ex_47 => ?_)
              refine va_put (pc := 105) (ci := 12) (v := .int x_47) (ty := .int) (C := RX12) (T := TX12) (N := 73) hx hb hts iX12 tyX12 tyX12_ok nmX12 hown hK hP hD hS 0 rfl rfl 1 (by decide) (hts _ tw_1402) (fun _ h9 => h9) rfl (by decide +kernel) rfl rfl (Nat.le_of_ble_eq_true rfl) dX12_feed_105 (fun H locs hP hD hS => ?_)
              replace hP : va_P D gcl [(a0, .inr (12, [.ref a1, .int x_47, .int x6, .int x7, .int x8, .int x9, .int x10, .int x11, .int x12, .ref a2, .ref a3, .ref a4, .ref a5, .ref a6, .ref a7, .ref a8, .ref a9, .ref a10, .ref a11, .ref a12, .ref a13, .ref a14, .ref a15, .ref a16, .int x13, .int x14, .int x15, .int x16, .int x17, .int x18, .ref a17, .ref a18, .ref a19, .int x19, .ref a20, .int x20, .ref a21, .int x21, .int x22, .ref a22, .ref a23, .ref a24, .ref a25, .int x23, .ref a26, .int x24, .ref a27, .ref a28, .ref a29, .long y0, .ref a30, .ref a31, .ref a32, .ref a33, .ref a34, .ref a35, .ref a36, .ref a37, .ref a38, .int x25, .int x26, .int x27, .long y1, .ref a39, .int x28, .ref a40, .ref a41, .ref a42, .ref a43, .int x29, .int x30, .int x31, .int x32])), (a1, .inl (cI, 1600, .inl f_46))] H := hP
              replace hD : va_D A [(a0, .inr (12, [.ref a1, .int x_47, .int x6, .int x7, .int x8, .int x9, .int x10, .int x11, .int x12, .ref a2, .ref a3, .ref a4, .ref a5, .ref a6, .ref a7, .ref a8, .ref a9, .ref a10, .ref a11, .ref a12, .ref a13, .ref a14, .ref a15, .ref a16, .int x13, .int x14, .int x15, .int x16, .int x17, .int x18, .ref a17, .ref a18, .ref a19, .int x19, .ref a20, .int x20, .ref a21, .int x21, .int x22, .ref a22, .ref a23, .ref a24, .ref a25, .int x23, .ref a26, .int x24, .ref a27, .ref a28, .ref a29, .long y0, .ref a30, .ref a31, .ref a32, .ref a33, .ref a34, .ref a35, .ref a36, .ref a37, .ref a38, .int x25, .int x26, .int x27, .long y1, .ref a39, .int x28, .ref a40, .ref a41, .ref a42, .ref a43, .int x29, .int x30, .int x31, .int x32])), (a1, .inl (cI, 1600, .inl f_46))] := hD
              refine b_iinc (pc := 108) hx hb dX12_feed_108 hl (k := 1) rfl rfl tI_1 (by omega) (by omega) (by decide) (fun x_48 ex_48 ls hl => ?_)
              replace hl : lv_has ls 8 [(6, .int x_48), (7, .int x1), (0, .ref a0), (1, .int x0), (2, .int x1), (3, .int x2), (4, .int x3), (5, .int x4)] := hl
              refine lv_goto (pc := 111) (tgt := 18) hx hb dX12_feed_111 (by decide) ?_
              exact ih_lp_11 x_48 x_47 f_46 _ _ ls (by omega) (by omega) hf_46 (by omega) (fdm_step hi_10 (by omega) (by omega) (by omega) (by omega) (e_at ef_46 (by omega)) (by omega) (bm ex_44 tx_45) (bys_at (by omega) (by omega) (Or.inr (Or.inl ⟨by omega, by omega, rfl⟩)))) (by omega) hP hD hS (lv_sub hl [0, 2, 3, 4, 5, 6, 7] rfl)
          ·
            refine lv_iload_n (pc := 31) hx hb dX12_feed_31 rfl (lv_at hl 2 rfl) ?_
            refine lv_goto (pc := 32) (tgt := 71) hx hb dX12_feed_32 (by decide) ?_
            refine lv_istore (pc := 71) (lv' := [(7, .int x0), (6, .int x_3), (0, .ref a0), (1, .int x0), (2, .int x1), (3, .int x2), (4, .int x3), (5, .int x4)]) hx hb dX12_feed_71 hl (by decide) rfl (fun ls hl => ?_)
            refine lv_aload_n (pc := 73) hx hb dX12_feed_73 rfl (lv_at hl 2 rfl) ?_
            refine va_get (pc := 74) (ci := 12) (v := .ref a1) (C := RX12) (T := TX12) (N := 73) hx hb hts iX12 hown hK hP 0 rfl rfl 0 (by decide) (hts _ tw_1401) (fun _ h9 => h9) rfl dX12_feed_74 ?_
            refine lv_aload_n (pc := 77) hx hb dX12_feed_77 rfl (lv_at hl 2 rfl) ?_
            refine va_get (pc := 78) (ci := 12) (v := .int x_5) (C := RX12) (T := TX12) (N := 73) hx hb hts iX12 hown hK hP 0 rfl rfl 1 (by decide) (hts _ tw_1402) (fun _ h9 => h9) rfl dX12_feed_78 ?_
            refine lv_iload (pc := 81) hx hb dX12_feed_81 (lv_at hl 0 rfl) ?_
            refine lv_bipush (pc := 83) (v := 8) hx hb dX12_feed_83 (by decide) ?_
            refine lv_iconst (pc := 85) (v := 3) hx hb dX12_feed_85 (by decide) ?_
            refine lv_iload (pc := 86) hx hb dX12_feed_86 (lv_at hl 1 rfl) ?_
            refine lv_iconst (pc := 88) (v := 4) hx hb dX12_feed_88 (by decide) ?_
            refine c_irem (pc := 89) hx hb rfl tI_4 (by omega) (by omega) dX12_feed_89 (fun x_49 ex_49 => ?_)
            refine b_isub (pc := 90) hx hb tI_3 rfl (by omega) (by omega) dX12_feed_90 (fun x_50 ex_50 => ?_)
            refine b_imul (pc := 91) hx hb tI_8 rfl (by omega) (by omega) dX12_feed_91 (fun x_51 ex_51 => ?_)
            refine lv_ishr (pc := 92) hx hb dX12_feed_92 ?_
            refine lv_topi (fun x_52 ex_52 => ?_)
            have rx_52 := n_rng x_52
            refine lv_sipush (pc := 93) (v := 255) hx hb dX12_feed_93 (by decide) ?_
            refine lv_iand (pc := 96) hx hb dX12_feed_96 ?_
            refine lv_topi (fun x_53 ex_53 => ?_)
            have tx_53 := and255 ex_53
            refine e_iastore (pc := 97) hx hb hK hP hD hS 1 2 rfl rfl (n_in rfl (by omega) (by omega)) dX12_feed_97 (fun f_54 ef_54 H locs hP hD hS => ?_)
            have hf_54 : (∀ j, 0 ≤ (f_54 j).toInt ∧ (f_54 j).toInt ≤ 255) := by rw [ef_54]; exact n_upd hi_8 (by omega) (by omega)
            replace hP : va_P D gcl [(a0, .inr (12, [.ref a1, .int x_5, .int x6, .int x7, .int x8, .int x9, .int x10, .int x11, .int x12, .ref a2, .ref a3, .ref a4, .ref a5, .ref a6, .ref a7, .ref a8, .ref a9, .ref a10, .ref a11, .ref a12, .ref a13, .ref a14, .ref a15, .ref a16, .int x13, .int x14, .int x15, .int x16, .int x17, .int x18, .ref a17, .ref a18, .ref a19, .int x19, .ref a20, .int x20, .ref a21, .int x21, .int x22, .ref a22, .ref a23, .ref a24, .ref a25, .int x23, .ref a26, .int x24, .ref a27, .ref a28, .ref a29, .long y0, .ref a30, .ref a31, .ref a32, .ref a33, .ref a34, .ref a35, .ref a36, .ref a37, .ref a38, .int x25, .int x26, .int x27, .long y1, .ref a39, .int x28, .ref a40, .ref a41, .ref a42, .ref a43, .int x29, .int x30, .int x31, .int x32])), (a1, .inl (cI, 1600, .inl f_54))] H := hP
            replace hD : va_D A [(a0, .inr (12, [.ref a1, .int x_5, .int x6, .int x7, .int x8, .int x9, .int x10, .int x11, .int x12, .ref a2, .ref a3, .ref a4, .ref a5, .ref a6, .ref a7, .ref a8, .ref a9, .ref a10, .ref a11, .ref a12, .ref a13, .ref a14, .ref a15, .ref a16, .int x13, .int x14, .int x15, .int x16, .int x17, .int x18, .ref a17, .ref a18, .ref a19, .int x19, .ref a20, .int x20, .ref a21, .int x21, .int x22, .ref a22, .ref a23, .ref a24, .ref a25, .int x23, .ref a26, .int x24, .ref a27, .ref a28, .ref a29, .long y0, .ref a30, .ref a31, .ref a32, .ref a33, .ref a34, .ref a35, .ref a36, .ref a37, .ref a38, .int x25, .int x26, .int x27, .long y1, .ref a39, .int x28, .ref a40, .ref a41, .ref a42, .ref a43, .int x29, .int x30, .int x31, .int x32])), (a1, .inl (cI, 1600, .inl f_54))] := hD
            refine lv_aload_n (pc := 98) hx hb dX12_feed_98 rfl (lv_at hl 2 rfl) ?_
            refine lv_dup (pc := 99) hx hb dX12_feed_99 rfl ?_
            refine va_get (pc := 100) (ci := 12) (v := .int x_5) (C := RX12) (T := TX12) (N := 73) hx hb hts iX12 hown hK hP 0 rfl rfl 1 (by decide) (hts _ tw_1402) (fun _ h9 => h9) rfl dX12_feed_100 ?_
            refine lv_iconst (pc := 103) (v := 1) hx hb dX12_feed_103 (by decide) ?_
            refine b_iadd (pc := 104) hx hb rfl tI_1 (by omega) (by omega) dX12_feed_104 (fun x_55 ex_55 => ?_)
            refine va_put (pc := 105) (ci := 12) (v := .int x_55) (ty := .int) (C := RX12) (T := TX12) (N := 73) hx hb hts iX12 tyX12 tyX12_ok nmX12 hown hK hP hD hS 0 rfl rfl 1 (by decide) (hts _ tw_1402) (fun _ h9 => h9) rfl (by decide +kernel) rfl rfl (Nat.le_of_ble_eq_true rfl) dX12_feed_105 (fun H locs hP hD hS => ?_)
            replace hP : va_P D gcl [(a0, .inr (12, [.ref a1, .int x_55, .int x6, .int x7, .int x8, .int x9, .int x10, .int x11, .int x12, .ref a2, .ref a3, .ref a4, .ref a5, .ref a6, .ref a7, .ref a8, .ref a9, .ref a10, .ref a11, .ref a12, .ref a13, .ref a14, .ref a15, .ref a16, .int x13, .int x14, .int x15, .int x16, .int x17, .int x18, .ref a17, .ref a18, .ref a19, .int x19, .ref a20, .int x20, .ref a21, .int x21, .int x22, .ref a22, .ref a23, .ref a24, .ref a25, .int x23, .ref a26, .int x24, .ref a27, .ref a28, .ref a29, .long y0, .ref a30, .ref a31, .ref a32, .ref a33, .ref a34, .ref a35, .ref a36, .ref a37, .ref a38, .int x25, .int x26, .int x27, .long y1, .ref a39, .int x28, .ref a40, .ref a41, .ref a42, .ref a43, .int x29, .int x30, .int x31, .int x32])), (a1, .inl (cI, 1600, .inl f_54))] H := hP
            replace hD : va_D A [(a0, .inr (12, [.ref a1, .int x_55, .int x6, .int x7, .int x8, .int x9, .int x10, .int x11, .int x12, .ref a2, .ref a3, .ref a4, .ref a5, .ref a6, .ref a7, .ref a8, .ref a9, .ref a10, .ref a11, .ref a12, .ref a13, .ref a14, .ref a15, .ref a16, .int x13, .int x14, .int x15, .int x16, .int x17, .int x18, .ref a17, .ref a18, .ref a19, .int x19, .ref a20, .int x20, .ref a21, .int x21, .int x22, .ref a22, .ref a23, .ref a24, .ref a25, .int x23, .ref a26, .int x24, .ref a27, .ref a28, .ref a29, .long y0, .ref a30, .ref a31, .ref a32, .ref a33, .ref a34, .ref a35, .ref a36, .ref a37, .ref a38, .int x25, .int x26, .int x27, .long y1, .ref a39, .int x28, .ref a40, .ref a41, .ref a42, .ref a43, .int x29, .int x30, .int x31, .int x32])), (a1, .inl (cI, 1600, .inl f_54))] := hD
            refine b_iinc (pc := 108) hx hb dX12_feed_108 hl (k := 1) rfl rfl tI_1 (by omega) (by omega) (by decide) (fun x_56 ex_56 ls hl => ?_)
            replace hl : lv_has ls 8 [(6, .int x_56), (7, .int x0), (0, .ref a0), (1, .int x0), (2, .int x1), (3, .int x2), (4, .int x3), (5, .int x4)] := hl
            refine lv_goto (pc := 111) (tgt := 18) hx hb dX12_feed_111 (by decide) ?_
            exact ih_lp_11 x_56 x_55 f_54 _ _ ls (by omega) (by omega) hf_54 (by omega) (fdm_step hi_10 (by omega) (by omega) (by omega) (by omega) (e_at ef_54 (by omega)) (by omega) (bm ex_52 tx_53) (bys_at (by omega) (by omega) (Or.inl ⟨by omega, rfl⟩))) (by omega) hP hD hS (lv_sub hl [0, 2, 3, 4, 5, 6, 7] rfl)
    exact lp_11 _ 0 x5 f0 _ _ ls (n_c tI_0 (by decide)) h_x5 hf_f0 (by have q := tI_0; omega) (fd_0k tI_0) (Nat.lt_succ_self _) hP hD hS (lv_sub hl [0, 1, 2, 3, 4, 5, 6] rfl)
  ·
    refine lv_iconst (pc := 13) (v := (-1)) hx hb dX12_feed_13 (by decide) ?_
    have hP9 : va_P D gcl [(a0, .inr (12, [.ref a1, .int x5, .int x6, .int x7, .int x8, .int x9, .int x10, .int x11, .int x12, .ref a2, .ref a3, .ref a4, .ref a5, .ref a6, .ref a7, .ref a8, .ref a9, .ref a10, .ref a11, .ref a12, .ref a13, .ref a14, .ref a15, .ref a16, .int x13, .int x14, .int x15, .int x16, .int x17, .int x18, .ref a17, .ref a18, .ref a19, .int x19, .ref a20, .int x20, .ref a21, .int x21, .int x22, .ref a22, .ref a23, .ref a24, .ref a25, .int x23, .ref a26, .int x24, .ref a27, .ref a28, .ref a29, .long y0, .ref a30, .ref a31, .ref a32, .ref a33, .ref a34, .ref a35, .ref a36, .ref a37, .ref a38, .int x25, .int x26, .int x27, .long y1, .ref a39, .int x28, .ref a40, .ref a41, .ref a42, .ref a43, .int x29, .int x30, .int x31, .int x32])), (a1, .inl (cI, 1600, .inl f0))] s.heap := g_psub hP [0, 1] rfl
    have hD9 : va_D A [(a0, .inr (12, [.ref a1, .int x5, .int x6, .int x7, .int x8, .int x9, .int x10, .int x11, .int x12, .ref a2, .ref a3, .ref a4, .ref a5, .ref a6, .ref a7, .ref a8, .ref a9, .ref a10, .ref a11, .ref a12, .ref a13, .ref a14, .ref a15, .ref a16, .int x13, .int x14, .int x15, .int x16, .int x17, .int x18, .ref a17, .ref a18, .ref a19, .int x19, .ref a20, .int x20, .ref a21, .int x21, .int x22, .ref a22, .ref a23, .ref a24, .ref a25, .int x23, .ref a26, .int x24, .ref a27, .ref a28, .ref a29, .long y0, .ref a30, .ref a31, .ref a32, .ref a33, .ref a34, .ref a35, .ref a36, .ref a37, .ref a38, .int x25, .int x26, .int x27, .long y1, .ref a39, .int x28, .ref a40, .ref a41, .ref a42, .ref a43, .int x29, .int x30, .int x31, .int x32])), (a1, .inl (cI, 1600, .inl f0))] := hD.sub [0, 1] (by decide) rfl
    have k9 := tI_m1
    exact hret (-1) ((fun _ => 0), (fun k => [f0].getD k (fun _ => 0)), (fun _ => (fun _ => 0)), (fun k => [x5].getD k 0), (fun _ => 0)) dX12_feed_14 ⟨(show (((0 ≤ ((-1) : Int32).toInt ∧ ((-1) : Int32).toInt ≤ 1600) ∧ (x5.toInt) + (20) ≤ 1600) ∨ (((-1) : Int32).toInt = (-1) ∧ (x5.toInt) + (20) > 1600 ∧ (x5 : Int32).toInt = x5.toInt)) by have k9 := tI_m1; omega), (show (0 ≤ (x5 : Int32).toInt ∧ (x5 : Int32).toInt ≤ 1600) from h_x5), hf_f0, (show ((((-1) : Int32).toInt = -1 ∧ x5.toInt + 20 > 1600 ∧ (x5 : Int32).toInt = x5.toInt) ∨ (((-1) : Int32).toInt = x5.toInt + 20 ∧ x5.toInt + 20 ≤ 1600 ∧ (x5 : Int32).toInt = x5.toInt + 20)) by have k9 := tI_m1; omega), (show fqQ ((-1) : Int32).toInt (tau f0 x5.toInt) (tau f0 x5.toInt) x5.toInt (bys x0 x1 x2 x3 x4) from fq_no (by omega))⟩ hP9 hD9 hS
