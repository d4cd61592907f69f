theorem om_1442 : (0 < 253) := by omega
theorem om_1443 {a : Int} (h0 : (-253 < a)) (h1 : (a < 253)) : (((-252) ≤ a ∧ a ≤ 252)) := by omega
theorem om_1444 {a : Int} (h0 : ((-252) ≤ a)) (h1 : (a ≤ 252)) : (((((-252) ≤ a ∧ a ≤ 252)))) := by omega
set_option maxHeartbeats 4000000 in
set_option maxRecDepth 100000 in
theorem k_X11_checkWith (l : Launch) (D : va_G) (cB cC cI cJ : ClassId) (sz : Nat) (x0 x1 : Int32) : Met l yX11_checkWith (.code yX11_checkWith cX11_checkWith 2 (some .int) :: lw_gd) ({ frames := 0, cells := 0, slots := 0, locals := 0 }) (gPre D [(cB, .byte), (cC, .char), (cI, .int), (cJ, .long)] [.int x0, .int x1] [] sz) (va_Qi (fun r u => ((((-252) ≤ r.toInt ∧ r.toInt ≤ 252)))) (gB D (va_A [] sz) (fun u : gEx => [])) (va_A [] sz)) 0 0 (va_A [] sz) := by
  refine gOf_i (by decide +kernel) (Nat.le_of_ble_eq_true rfl) ?_
  intro p e s m args below meth c ls A Q hx hb hts hown hml hN hK hP hD hA hl hret
  replace hown : s.vm.findClass RX11 = some m.cls := hown
  have hS : va_S A s.heap s.heap [] := va_S.rf
  replace hP : va_P D gcl [] s.heap := hP
  replace hl : lv_has ls 2 [(0, .int x0), (1, .int x1)] := hl
  have rx0 : zBd x0.toInt (-2147483648) 2147483647 := n_rng x0
  have rx1 : zBd x1.toInt (-2147483648) 2147483647 := n_rng x1
  refine lv_bipush (pc := 0) (v := 7) hx hb dX11_checkWith_0 (by decide) ?_
  refine lv_iload_n (pc := 2) hx hb dX11_checkWith_2 rfl (lv_at hl 0 rfl) ?_
  refine lv_imul (pc := 3) hx hb dX11_checkWith_3 ?_
  refine lv_topi (fun x_1 _ => ?_)
  have rx_1 : zBd x_1.toInt (-2147483648) 2147483647 := n_rng x_1
  refine lv_iload_n (pc := 4) hx hb dX11_checkWith_4 rfl (lv_at hl 1 rfl) ?_
  refine lv_iadd (pc := 5) hx hb dX11_checkWith_5 ?_
  refine lv_topi (fun x_2 _ => ?_)
  have rx_2 : zBd x_2.toInt (-2147483648) 2147483647 := n_rng x_2
  refine lv_sipush (pc := 6) (v := 253) hx hb dX11_checkWith_6 (by decide) ?_
  refine b_irem (pc := 9) hx hb rfl tI_253 (by first | exact (om_1442) | ((first | omega | (unfold zBd at *; omega)))) dX11_checkWith_9 (fun x_3 ex_3 => ?_)
  have rx_3 : ((-252) ≤ x_3.toInt ∧ x_3.toInt ≤ 252) := (by first | exact (om_1443 ex_3.1 ex_3.2.1) | ((first | omega | (unfold zBd at *; omega))))
  exact hret x_3 ((fun _ => 0), (fun _ => (fun _ => 0)), (fun _ => (fun _ => 0)), (fun _ => 0), (fun _ => 0)) dX11_checkWith_10 (show ((((-252) ≤ x_3.toInt ∧ x_3.toInt ≤ 252))) from (by first | exact (om_1444 rx_3.1 rx_3.2) | ((first | omega | (unfold zBd at *; omega))))) (g_psub (wc := []) hP [] rfl) (hD.sub (ws' := []) [] (by decide) rfl) hS
theorem om_1445 {a : Int} (h0 : (a ≤ 12)) : (a < (14 : Nat)) := by omega
theorem om_1446 {a : Int} (h0 : (a ≤ 12)) : (a + 1 ≤ 2147483647) := by omega
theorem om_1447 {a b : Int} (h0 : (a = b + 1)) (h1 : (b ≤ 12)) : (a < (14 : Nat)) := by omega
theorem om_1448 {a b : Int} (h0 : (a = b + 1)) (h1 : (b ≤ 12)) : (a + 1 ≤ 2147483647) := by omega
theorem om_1449 {a b c : Int} (h0 : (a = b + 1)) (h1 : (b = c + 1)) (h2 : (0 ≤ c)) (h3 : (c ≤ 12)) : ((2 ≤ a ∧ a ≤ 14)) := by omega
theorem om_1450 {a b c : Int} (h0 : (a = b + 1)) (h1 : (b = c + 1)) (h2 : (0 ≤ c)) (h3 : (c ≤ 12)) : ((0 ≤ a ∧ a ≤ 14)) := by omega
theorem om_1451 {a b c d e : Int} (h0 : (a = c + 1)) (h1 : (d ≥ b)) (h2 : (c = e + 1)) (h3 : (e = 2 * d)) (h4 : (d ≤ b ∨ d = 0)) : (a = 2 * b + 2 ∨ b < 0) := by omega
theorem om_1452 {a b c : Int} (h0 : (a < b)) (h1 : (b = c + 1)) (h2 : (c ≤ 12)) : (a < (14 : Nat)) := by omega
theorem om_1453 {a b c : Int} (h0 : (a < b)) (h1 : (b = c + 1)) (h2 : (c ≤ 12)) : (a + 1 ≤ 2147483647) := by omega
theorem om_1454 {a b c d : Int} (h0 : (a = b + 1)) (h1 : (0 ≤ b)) (h2 : (b < c)) (h3 : (c = d + 1)) (h4 : (d ≤ 12)) : ((0 ≤ a ∧ a ≤ 2147483647)) := by omega
theorem om_1455 {a : Int} (h0 : (a ≤ 12)) : (a + 2 ≤ 2147483647) := by omega
theorem om_1456 {a b : Int} (h0 : (a = b + 1)) (h1 : (0 ≤ b)) (h2 : (b ≤ 6)) : ((0 ≤ a ∧ a ≤ 2147483647)) := by omega
theorem om_1457 {a b c d : Int} (h0 : (a = b + 2)) (h1 : (0 ≤ b)) (h2 : (b = 2 * c)) (h3 : (c < d)) (h4 : (d ≤ 6)) : ((0 ≤ a ∧ a ≤ 12)) := by omega
theorem om_1458 {a b c d : Int} (h0 : (b = c + 1)) (h1 : (a = d + 2)) (h2 : (d = 2 * c)) : (a = 2 * b) := by omega
theorem om_1459 {a b c : Int} (h0 : (a = b + 1)) (h1 : (b < c)) (h2 : (c ≤ 6)) : (a ≤ 6) := by omega
theorem om_1460 {a : Int} (h0 : (a = 0)) : (a = 2 * a) := by omega
theorem om_1461 {a : Int} (h0 : (a = 0)) : (a ≤ 6) := by omega
set_option maxHeartbeats 4000000 in
set_option maxRecDepth 100000 in
theorem k_X11_image (l : Launch) (D : va_G) (cB cC cI cJ : ClassId) (sz : Nat) (a0 a1 a2 a3 a4 a5 a6 a7 a8 a9 a10 a11 a12 a13 a14 a15 a16 a17 a18 a19 : Nat) (x0 x1 x2 x3 x4 x5 x6 x7 x8 x9 x10 x11 x12 : Int32) (f0 f1 : Nat → Int32) (h_x0 : zBd x0.toInt 0 14) (h_x1 : zBd x1.toInt (-1) 8) (h_x2 : zBd x2.toInt (-1) 5) (h_x3 : zBd x3.toInt (-1) 6) (h_x4 : zBd x4.toInt 0 6) (h_x5 : zBd x5.toInt 0 16) (h_x8 : zBd x8.toInt (-1) 5) (h_x9 : zBd x9.toInt 0 39) (h_x10 : zBd x10.toInt 0 40) (h_x11 : zBd x11.toInt 0 40) (hr_a12_0 : (x10.toInt + x11.toInt ≤ 40)) : Met l yX11_image (.code yX11_image cX11_image 4 (some .int) :: lw_gd) ({ frames := 1, cells := 0, slots := 0, locals := 21 }) (gPre D [(cB, .byte), (cC, .char), (cI, .int), (cJ, .long)] [.ref a0] (zS_85 cB cC cI cJ a0 a1 a2 a3 a4 a5 a6 a7 a8 a9 a10 x0 a11 a12 a13 a11 a14 a15 a16 x1 x2 x3 x4 x5 x6 x7 a12 a17 a18 a19 x8 x9 x10 x11 x12 a10 f0 a7 f1) sz) (va_Qi (fun r u => (2 ≤ r.toInt ∧ r.toInt ≤ 14) ∧ (0 ≤ (u.2.2.2.1 0).toInt ∧ (u.2.2.2.1 0).toInt ≤ 14) ∧ (r.toInt = 2 * x3.toInt + 2 ∨ x3.toInt < 0)) (gB D (va_A (zS_85 cB cC cI cJ a0 a1 a2 a3 a4 a5 a6 a7 a8 a9 a10 x0 a11 a12 a13 a11 a14 a15 a16 x1 x2 x3 x4 x5 x6 x7 a12 a17 a18 a19 x8 x9 x10 x11 x12 a10 f0 a7 f1) sz) (fun u : gEx => (zS_85 cB cC cI cJ a0 a1 a2 a3 a4 a5 a6 a7 a8 a9 a10 (u.2.2.2.1 0) a11 a12 a13 a11 a14 a15 a16 x1 x2 x3 x4 x5 x6 x7 a12 a17 a18 a19 x8 x9 x10 x11 x12 a10 (u.2.1 0) a7 f1))) (va_A (zS_85 cB cC cI cJ a0 a1 a2 a3 a4 a5 a6 a7 a8 a9 a10 x0 a11 a12 a13 a11 a14 a15 a16 x1 x2 x3 x4 x5 x6 x7 a12 a17 a18 a19 x8 x9 x10 x11 x12 a10 f0 a7 f1) sz)) 0 0 (va_A (zS_85 cB cC cI cJ a0 a1 a2 a3 a4 a5 a6 a7 a8 a9 a10 x0 a11 a12 a13 a11 a14 a15 a16 x1 x2 x3 x4 x5 x6 x7 a12 a17 a18 a19 x8 x9 x10 x11 x12 a10 f0 a7 f1) sz) := by
  refine gOf_i (by decide +kernel) (Nat.le_of_ble_eq_true rfl) ?_
  intro p e s m args below meth c ls A Q hx hb hts hown hml hN hK hP hD hA hl hret
  replace hown : s.vm.findClass RX11 = some m.cls := hown
  have hS : va_S A s.heap s.heap [] := va_S.rf
  replace hP : va_P D gcl (zS_85 cB cC cI cJ a0 a1 a2 a3 a4 a5 a6 a7 a8 a9 a10 x0 a11 a12 a13 a11 a14 a15 a16 x1 x2 x3 x4 x5 x6 x7 a12 a17 a18 a19 x8 x9 x10 x11 x12 a10 f0 a7 f1) s.heap := hP
  replace hl : lv_has ls 4 [(0, .ref a0)] := hl
  have rx6 : zBd x6.toInt (-2147483648) 2147483647 := n_rng x6
  have rx7 : zBd x7.toInt (-2147483648) 2147483647 := n_rng x7
  have rx12 : zBd x12.toInt (-2147483648) 2147483647 := n_rng x12
  refine lv_iconst (pc := 0) (v := 0) hx hb dX11_image_0 (by decide) ?_
  refine lv_istore_n (pc := 1) (lv' := [(1, .int 0), (0, .ref a0)]) hx hb dX11_image_1 rfl hl (by decide) rfl (fun ls hl => ?_)
  refine lv_iconst (pc := 2) (v := 0) hx hb dX11_image_2 (by decide) ?_
  refine lv_istore_n (pc := 3) (lv' := [(2, .int 0), (1, .int 0), (0, .ref a0)]) hx hb dX11_image_3 rfl hl (by decide) rfl (fun ls hl => ?_)
  have lp_9 : ∀ (n : Nat) (x_1 x_3 : Int32) (f_5 : Nat → Int32) (H : Heap) (locs : List Loc) (ls : Array Slot), (0 ≤ x_1.toInt ∧ x_1.toInt ≤ 2147483647) → (0 ≤ x_3.toInt ∧ x_3.toInt ≤ 12) → x_3.toInt = 2 * x_1.toInt → x_1.toInt ≤ 6 → (x_1.toInt ≤ x3.toInt ∨ x_1.toInt = 0) → (2147483647 - x_1.toInt).toNat < n → va_P D gcl (zS_85 cB cC cI cJ a0 a1 a2 a3 a4 a5 a6 a7 a8 a9 a10 x0 a11 a12 a13 a11 a14 a15 a16 x1 x2 x3 x4 x5 x6 x7 a12 a17 a18 a19 x8 x9 x10 x11 x12 a10 f_5 a7 f1) H → va_D A (zS_85 cB cC cI cJ a0 a1 a2 a3 a4 a5 a6 a7 a8 a9 a10 x0 a11 a12 a13 a11 a14 a15 a16 x1 x2 x3 x4 x5 x6 x7 a12 a17 a18 a19 x8 x9 x10 x11 x12 a10 f_5 a7 f1) → va_S A s.heap H locs → lv_has ls 4 [(2, .int x_1), (1, .int x_3), (0, .ref a0)] → W p l e ({ frames := 1, cells := 0, slots := 0, locals := 21 }) s m args below meth c H locs 0 0 Q (F0 m 4 ls []) := by
    intro n
    induction n with
    | zero => intro x_1 x_3 f_5 H locs ls hi_2 hi_4 hi_6 hi_7 hi_8 hmu; exact absurd hmu (Nat.not_lt_zero _)
    | succ n ih_lp_9 =>
      intro x_1 x_3 f_5 H locs ls hi_2 hi_4 hi_6 hi_7 hi_8 hmu_lp_9 hP hD hS hl
      refine lv_iload_n (pc := 4) hx hb dX11_image_4 rfl (lv_at hl 0 rfl) ?_
      refine lv_aload_n (pc := 5) hx hb dX11_image_5 rfl (lv_at hl 2 rfl) ?_
      refine va_get (pc := 6) (ci := 11) (v := .ref a11) (C := RX11) (T := TX11) (N := 14) hx hb hts iX11 hown hK hP 0 rfl rfl 11 (by decide) (hts _ tw_431) (fun _ h9 => h9) rfl dX11_image_6 ?_
      refine va_getN (pc := 9) (ci := 1) (v := .int x3) (C := RX1) (T := TX1) (N := 10) hx hb hts iX1 hown hK hP 1 rfl rfl 5 (by decide) (va_Nw.use rfl (hN _ tn_128)) (fun _ h9 => h9) rfl dX11_image_9 ?_
      refine b_icmp_ge (pc := 12) (tgt := 61) hx hb rfl rfl  dX11_image_12 (by decide) (fun c_10 => ?_) (fun c_10 => ?_)
      ·
        refine lv_aload_n (pc := 61) hx hb dX11_image_61 rfl (lv_at hl 2 rfl) ?_
        refine va_get (pc := 62) (ci := 11) (v := .ref a10) (C := RX11) (T := TX11) (N := 14) hx hb hts iX11 hown hK hP 0 rfl rfl 9 (by decide) (hts _ tw_429) (fun _ h9 => h9) rfl dX11_image_62 ?_
        refine lv_iload_n (pc := 65) hx hb dX11_image_65 rfl (lv_at hl 1 rfl) ?_
        refine lv_aload_n (pc := 66) hx hb dX11_image_66 rfl (lv_at hl 2 rfl) ?_
        refine va_get (pc := 67) (ci := 11) (v := .ref a12) (C := RX11) (T := TX11) (N := 14) hx hb hts iX11 hown hK hP 0 rfl rfl 12 (by decide) (hts _ tw_432) (fun _ h9 => h9) rfl dX11_image_67 ?_
        refine va_getN (pc := 70) (ci := 2) (v := .int x12) (C := RX2) (T := TX2) (N := 8) hx hb hts iX2 hown hK hP 2 rfl rfl 7 (by decide) (va_Nw.use rfl (hN _ tn_402)) (fun _ h9 => h9) rfl dX11_image_70 ?_
        refine g_iastore (pc := 73) hx hb hK hP hD hS 3 2 rfl rfl (n_in rfl (by first | exact (om_0 hi_4.1) | ((first | omega | (unfold zBd at *; omega)))) (by first | exact (om_1445 hi_4.2) | ((first | omega | (unfold zBd at *; omega))))) dX11_image_73 (fun f_11 H locs hP hD hS => ?_)
        replace hP : va_P D gcl (zS_85 cB cC cI cJ a0 a1 a2 a3 a4 a5 a6 a7 a8 a9 a10 x0 a11 a12 a13 a11 a14 a15 a16 x1 x2 x3 x4 x5 x6 x7 a12 a17 a18 a19 x8 x9 x10 x11 x12 a10 f_11 a7 f1) H := hP
        replace hD : va_D A (zS_85 cB cC cI cJ a0 a1 a2 a3 a4 a5 a6 a7 a8 a9 a10 x0 a11 a12 a13 a11 a14 a15 a16 x1 x2 x3 x4 x5 x6 x7 a12 a17 a18 a19 x8 x9 x10 x11 x12 a10 f_11 a7 f1) := hD
        refine b_iinc (pc := 74) hx hb dX11_image_74 hl (k := 1) rfl rfl tI_1 (by first | exact (om_2 hi_4.1) | ((first | omega | (unfold zBd at *; omega)))) (by first | exact (om_1446 hi_4.2) | ((first | omega | (unfold zBd at *; omega)))) (by decide) (fun x_12 ex_12 ls hl => ?_)
        replace hl : lv_has ls 4 [(1, .int x_12), (2, .int x_1), (0, .ref a0)] := hl
        refine lv_bipush (pc := 77) (v := 51) hx hb dX11_image_77 (by decide) ?_
        refine lv_istore_n (pc := 79) (lv' := [(2, .int 51), (1, .int x_12), (0, .ref a0)]) hx hb dX11_image_79 rfl hl (by decide) rfl (fun ls hl => ?_)
        refine lv_iconst (pc := 80) (v := 0) hx hb dX11_image_80 (by decide) ?_
        refine lv_istore_n (pc := 81) (lv' := [(3, .int 0), (2, .int 51), (1, .int x_12), (0, .ref a0)]) hx hb dX11_image_81 rfl hl (by decide) rfl (fun ls hl => ?_)
        have lp_17 : ∀ (n : Nat) (x_13 x_15 : Int32) (H : Heap) (locs : List Loc) (ls : Array Slot), (0 ≤ x_13.toInt ∧ x_13.toInt ≤ 2147483647) → (2147483647 - x_13.toInt).toNat < n → va_P D gcl (zS_85 cB cC cI cJ a0 a1 a2 a3 a4 a5 a6 a7 a8 a9 a10 x0 a11 a12 a13 a11 a14 a15 a16 x1 x2 x3 x4 x5 x6 x7 a12 a17 a18 a19 x8 x9 x10 x11 x12 a10 f_11 a7 f1) H → va_D A (zS_85 cB cC cI cJ a0 a1 a2 a3 a4 a5 a6 a7 a8 a9 a10 x0 a11 a12 a13 a11 a14 a15 a16 x1 x2 x3 x4 x5 x6 x7 a12 a17 a18 a19 x8 x9 x10 x11 x12 a10 f_11 a7 f1) → va_S A s.heap H locs → lv_has ls 4 [(3, .int x_13), (2, .int x_15), (1, .int x_12), (0, .ref a0)] → W p l e ({ frames := 1, cells := 0, slots := 0, locals := 21 }) s m args below meth c H locs 0 0 Q (F0 m 82 ls []) := by
          intro n
          induction n with
          | zero => intro x_13 x_15 H locs ls hi_14 hmu; exact absurd hmu (Nat.not_lt_zero _)
          | succ n ih_lp_17 =>
            intro x_13 x_15 H locs ls hi_14 hmu_lp_17 hP hD hS hl
            have hi_16 := n_rng x_15
            refine lv_iload_n (pc := 82) hx hb dX11_image_82 rfl (lv_at hl 0 rfl) ?_
            refine lv_iload_n (pc := 83) hx hb dX11_image_83 rfl (lv_at hl 2 rfl) ?_
            refine b_icmp_ge (pc := 84) (tgt := 104) hx hb rfl rfl  dX11_image_84 (by decide) (fun c_18 => ?_) (fun c_18 => ?_)
            ·
              refine lv_aload_n (pc := 104) hx hb dX11_image_104 rfl (lv_at hl 3 rfl) ?_
              refine va_get (pc := 105) (ci := 11) (v := .ref a10) (C := RX11) (T := TX11) (N := 14) hx hb hts iX11 hown hK hP 0 rfl rfl 9 (by decide) (hts _ tw_429) (fun _ h9 => h9) rfl dX11_image_105 ?_
              refine lv_iload_n (pc := 108) hx hb dX11_image_108 rfl (lv_at hl 2 rfl) ?_
              refine lv_iload_n (pc := 109) hx hb dX11_image_109 rfl (lv_at hl 1 rfl) ?_
              refine g_iastore (pc := 110) hx hb hK hP hD hS 3 2 rfl rfl (n_in rfl (by first | exact (om_917 ex_12 hi_4.1) | ((first | omega | (unfold zBd at *; omega)))) (by first | exact (om_1447 ex_12 hi_4.2) | ((first | omega | (unfold zBd at *; omega))))) dX11_image_110 (fun f_19 H locs hP hD hS => ?_)
              replace hP : va_P D gcl (zS_85 cB cC cI cJ a0 a1 a2 a3 a4 a5 a6 a7 a8 a9 a10 x0 a11 a12 a13 a11 a14 a15 a16 x1 x2 x3 x4 x5 x6 x7 a12 a17 a18 a19 x8 x9 x10 x11 x12 a10 f_19 a7 f1) H := hP
              replace hD : va_D A (zS_85 cB cC cI cJ a0 a1 a2 a3 a4 a5 a6 a7 a8 a9 a10 x0 a11 a12 a13 a11 a14 a15 a16 x1 x2 x3 x4 x5 x6 x7 a12 a17 a18 a19 x8 x9 x10 x11 x12 a10 f_19 a7 f1) := hD
              refine lv_aload_n (pc := 111) hx hb dX11_image_111 rfl (lv_at hl 3 rfl) ?_
              refine lv_iload_n (pc := 112) hx hb dX11_image_112 rfl (lv_at hl 2 rfl) ?_
              refine lv_iconst (pc := 113) (v := 1) hx hb dX11_image_113 (by decide) ?_
              refine b_iadd (pc := 114) hx hb rfl tI_1 (by first | exact (om_1006 ex_12 hi_4.1) | ((first | omega | (unfold zBd at *; omega)))) (by first | exact (om_1448 ex_12 hi_4.2) | ((first | omega | (unfold zBd at *; omega)))) dX11_image_114 (fun x_20 ex_20 => ?_)
              refine va_put (pc := 115) (ci := 11) (v := .int x_20) (ty := .int) (C := RX11) (T := TX11) (N := 14) hx hb hts iX11 tyX11 tyX11_ok nmX11 hown hK hP hD hS 0 rfl rfl 10 (by decide) (hts _ tw_430) (fun _ h9 => h9) rfl (by decide +kernel) rfl rfl (Nat.le_of_ble_eq_true rfl) dX11_image_115 (fun H locs hP hD hS => ?_)
              replace hP : va_P D gcl (zS_85 cB cC cI cJ a0 a1 a2 a3 a4 a5 a6 a7 a8 a9 a10 x_20 a11 a12 a13 a11 a14 a15 a16 x1 x2 x3 x4 x5 x6 x7 a12 a17 a18 a19 x8 x9 x10 x11 x12 a10 f_19 a7 f1) H := hP
              replace hD : va_D A (zS_85 cB cC cI cJ a0 a1 a2 a3 a4 a5 a6 a7 a8 a9 a10 x_20 a11 a12 a13 a11 a14 a15 a16 x1 x2 x3 x4 x5 x6 x7 a12 a17 a18 a19 x8 x9 x10 x11 x12 a10 f_19 a7 f1) := hD
              refine lv_aload_n (pc := 118) hx hb dX11_image_118 rfl (lv_at hl 3 rfl) ?_
              refine va_get (pc := 119) (ci := 11) (v := .int x_20) (C := RX11) (T := TX11) (N := 14) hx hb hts iX11 hown hK hP 0 rfl rfl 10 (by decide) (hts _ tw_430) (fun _ h9 => h9) rfl dX11_image_119 ?_
              exact hret x_20 ((fun _ => 0), (fun k => [f_19].getD k (fun _ => 0)), (fun _ => (fun _ => 0)), (fun k => [x_20].getD k 0), (fun _ => 0)) dX11_image_122 ⟨(show (2 ≤ x_20.toInt ∧ x_20.toInt ≤ 14) from (by first | exact (om_1449 ex_20 ex_12 hi_4.1 hi_4.2) | ((first | omega | (unfold zBd at *; omega))))), (show (0 ≤ (x_20 : Int32).toInt ∧ (x_20 : Int32).toInt ≤ 14) from (by first | exact (om_1450 ex_20 ex_12 hi_4.1 hi_4.2) | ((first | omega | (unfold zBd at *; omega))))), (show x_20.toInt = 2 * x3.toInt + 2 ∨ x3.toInt < 0 from (by first | exact (om_1451 ex_20 c_10 ex_12 hi_6 hi_8) | ((first | omega | (unfold zBd at *; omega)))))⟩ (g_psub (wc := (zS_85 cB cC cI cJ a0 a1 a2 a3 a4 a5 a6 a7 a8 a9 a10 x_20 a11 a12 a13 a11 a14 a15 a16 x1 x2 x3 x4 x5 x6 x7 a12 a17 a18 a19 x8 x9 x10 x11 x12 a10 f_19 a7 f1)) hP [0, 1, 2, 3, 4] rfl) (hD.sub (ws' := (zS_85 cB cC cI cJ a0 a1 a2 a3 a4 a5 a6 a7 a8 a9 a10 x_20 a11 a12 a13 a11 a14 a15 a16 x1 x2 x3 x4 x5 x6 x7 a12 a17 a18 a19 x8 x9 x10 x11 x12 a10 f_19 a7 f1)) [0, 1, 2, 3, 4] (by decide) rfl) hS
            ·
              refine lv_iload_n (pc := 87) hx hb dX11_image_87 rfl (lv_at hl 1 rfl) ?_
              refine lv_aload_n (pc := 88) hx hb dX11_image_88 rfl (lv_at hl 3 rfl) ?_
              refine va_get (pc := 89) (ci := 11) (v := .ref a10) (C := RX11) (T := TX11) (N := 14) hx hb hts iX11 hown hK hP 0 rfl rfl 9 (by decide) (hts _ tw_429) (fun _ h9 => h9) rfl dX11_image_89 ?_
              refine lv_iload_n (pc := 92) hx hb dX11_image_92 rfl (lv_at hl 0 rfl) ?_
              refine va_iald (pc := 93) hx hb hK hP 3 2 rfl rfl (n_in rfl (by first | exact (om_0 hi_14.1) | ((first | omega | (unfold zBd at *; omega)))) (by first | exact (om_1452 c_18 ex_12 hi_4.2) | ((first | omega | (unfold zBd at *; omega))))) dX11_image_93 ?_
              refine lv_topi (fun x_21 ex_21 => ?_)
              have rx_21 : zBd x_21.toInt (-2147483648) 2147483647 := n_rng x_21
              refine gd_i (pc := 94) (wc := []) hP hD hS hA [] rfl (by decide +kernel) (fun _ => by rfl) (fun hPc hDc => va_runS (As := [.int x_15, .int x_21]) (rest := []) ⟨hx, hb, hml, hown, hts⟩ (k_X11_checkWith l D cB cC cI cJ _ x_15 x_21) ⟨gcwB hts tw_1381 tw_1 tw_1379 hd_yX11_checkWith ⟨Nat.le_of_ble_eq_true rfl, Nat.le_of_ble_eq_true rfl⟩, hts _ tw_1380⟩ (gpreS hPc hK hDc hN) rfl rfl hl.1 rfl (lv_room (Nat.le_of_ble_eq_true rfl)) dX11_image_94 ⟨Nat.le_of_ble_eq_true rfl, Nat.le_of_ble_eq_true rfl⟩) (fun r_23 u_22 H locs hw_24 hP hD hS => ?_)
              replace hP : va_P D gcl (zS_85 cB cC cI cJ a0 a1 a2 a3 a4 a5 a6 a7 a8 a9 a10 x0 a11 a12 a13 a11 a14 a15 a16 x1 x2 x3 x4 x5 x6 x7 a12 a17 a18 a19 x8 x9 x10 x11 x12 a10 f_11 a7 f1) H := hP
              replace hD : va_D A (zS_85 cB cC cI cJ a0 a1 a2 a3 a4 a5 a6 a7 a8 a9 a10 x0 a11 a12 a13 a11 a14 a15 a16 x1 x2 x3 x4 x5 x6 x7 a12 a17 a18 a19 x8 x9 x10 x11 x12 a10 f_11 a7 f1) := hD
              have hw_25 : ((((-252) ≤ r_23.toInt ∧ r_23.toInt ≤ 252))) := hw_24
              have rr_23 : zBd r_23.toInt (-2147483648) 2147483647 := n_rng r_23
              refine lv_istore_n (pc := 97) (lv' := [(2, .int r_23), (3, .int x_13), (1, .int x_12), (0, .ref a0)]) hx hb dX11_image_97 rfl hl (by decide) rfl (fun ls hl => ?_)
              refine b_iinc (pc := 98) hx hb dX11_image_98 hl (k := 1) rfl rfl tI_1 (by first | exact (om_2 hi_14.1) | ((first | omega | (unfold zBd at *; omega)))) (by first | exact (om_1453 c_18 ex_12 hi_4.2) | ((first | omega | (unfold zBd at *; omega)))) (by decide) (fun x_26 ex_26 ls hl => ?_)
              replace hl : lv_has ls 4 [(3, .int x_26), (2, .int r_23), (1, .int x_12), (0, .ref a0)] := hl
              refine lv_goto (pc := 101) (tgt := 82) hx hb dX11_image_101 (by decide) ?_
              exact ih_lp_17 x_26 r_23 _ _ ls (by first | exact (om_1454 ex_26 hi_14.1 c_18 ex_12 hi_4.2) | ((first | omega | (unfold zBd at *; omega)))) (by (first | omega | (unfold zBd at *; omega))) hP hD hS (lv_sub hl [0, 1, 2, 3] rfl)
        exact lp_17 _ 0 51 _ _ ls (n_c tI_0 (by decide)) (Nat.lt_succ_self _) hP hD hS (lv_sub hl [0, 1, 2, 3] rfl)
      ·
        refine lv_aload_n (pc := 15) hx hb dX11_image_15 rfl (lv_at hl 2 rfl) ?_
        refine va_get (pc := 16) (ci := 11) (v := .ref a10) (C := RX11) (T := TX11) (N := 14) hx hb hts iX11 hown hK hP 0 rfl rfl 9 (by decide) (hts _ tw_429) (fun _ h9 => h9) rfl dX11_image_16 ?_
        refine lv_iload_n (pc := 19) hx hb dX11_image_19 rfl (lv_at hl 1 rfl) ?_
        refine lv_aload_n (pc := 20) hx hb dX11_image_20 rfl (lv_at hl 2 rfl) ?_
        refine va_get (pc := 21) (ci := 11) (v := .ref a7) (C := RX11) (T := TX11) (N := 14) hx hb hts iX11 hown hK hP 0 rfl rfl 6 (by decide) (hts _ tw_426) (fun _ h9 => h9) rfl dX11_image_21 ?_
        refine lv_iload_n (pc := 24) hx hb dX11_image_24 rfl (lv_at hl 0 rfl) ?_
        refine va_iald (pc := 25) hx hb hK hP 4 2 rfl rfl (n_in rfl (by first | exact (om_0 hi_2.1) | ((first | omega | (unfold zBd at *; omega)))) (by first | exact (om_1082 c_10 h_x3.2) | ((first | omega | (unfold zBd at *; omega))))) dX11_image_25 ?_
        refine lv_topi (fun x_27 ex_27 => ?_)
        have rx_27 : zBd x_27.toInt (-2147483648) 2147483647 := n_rng x_27
        refine lv_bipush (pc := 26) (v := 8) hx hb dX11_image_26 (by decide) ?_
        refine lv_ishr (pc := 28) hx hb dX11_image_28 ?_
        refine lv_topi (fun x_28 _ => ?_)
        have rx_28 : zBd x_28.toInt (-2147483648) 2147483647 := n_rng x_28
        refine lv_sipush (pc := 29) (v := 255) hx hb dX11_image_29 (by decide) ?_
        refine b_iand (pc := 32) (M := 255) hx hb 8 (by decide +kernel) (by decide) (by decide) dX11_image_32 (fun x_29 ex_29 => ?_)
        have rx_29 : (0 ≤ x_29.toInt ∧ x_29.toInt ≤ 255) := ex_29
        refine g_iastore (pc := 33) hx hb hK hP hD hS 3 2 rfl rfl (n_in rfl (by first | exact (om_0 hi_4.1) | ((first | omega | (unfold zBd at *; omega)))) (by first | exact (om_1445 hi_4.2) | ((first | omega | (unfold zBd at *; omega))))) dX11_image_33 (fun f_30 H locs hP hD hS => ?_)
        replace hP : va_P D gcl (zS_85 cB cC cI cJ a0 a1 a2 a3 a4 a5 a6 a7 a8 a9 a10 x0 a11 a12 a13 a11 a14 a15 a16 x1 x2 x3 x4 x5 x6 x7 a12 a17 a18 a19 x8 x9 x10 x11 x12 a10 f_30 a7 f1) H := hP
        replace hD : va_D A (zS_85 cB cC cI cJ a0 a1 a2 a3 a4 a5 a6 a7 a8 a9 a10 x0 a11 a12 a13 a11 a14 a15 a16 x1 x2 x3 x4 x5 x6 x7 a12 a17 a18 a19 x8 x9 x10 x11 x12 a10 f_30 a7 f1) := hD
        refine lv_aload_n (pc := 34) hx hb dX11_image_34 rfl (lv_at hl 2 rfl) ?_
        refine va_get (pc := 35) (ci := 11) (v := .ref a10) (C := RX11) (T := TX11) (N := 14) hx hb hts iX11 hown hK hP 0 rfl rfl 9 (by decide) (hts _ tw_429) (fun _ h9 => h9) rfl dX11_image_35 ?_
        refine lv_iload_n (pc := 38) hx hb dX11_image_38 rfl (lv_at hl 1 rfl) ?_
        refine lv_iconst (pc := 39) (v := 1) hx hb dX11_image_39 (by decide) ?_
        refine b_iadd (pc := 40) hx hb rfl tI_1 (by first | exact (om_2 hi_4.1) | ((first | omega | (unfold zBd at *; omega)))) (by first | exact (om_1446 hi_4.2) | ((first | omega | (unfold zBd at *; omega)))) dX11_image_40 (fun x_31 ex_31 => ?_)
        refine lv_aload_n (pc := 41) hx hb dX11_image_41 rfl (lv_at hl 2 rfl) ?_
        refine va_get (pc := 42) (ci := 11) (v := .ref a7) (C := RX11) (T := TX11) (N := 14) hx hb hts iX11 hown hK hP 0 rfl rfl 6 (by decide) (hts _ tw_426) (fun _ h9 => h9) rfl dX11_image_42 ?_
        refine lv_iload_n (pc := 45) hx hb dX11_image_45 rfl (lv_at hl 0 rfl) ?_
        refine va_iald (pc := 46) hx hb hK hP 4 2 rfl rfl (n_in rfl (by first | exact (om_0 hi_2.1) | ((first | omega | (unfold zBd at *; omega)))) (by first | exact (om_1082 c_10 h_x3.2) | ((first | omega | (unfold zBd at *; omega))))) dX11_image_46 ?_
        refine gI (y := x_27) ex_27.symm ?_
        refine lv_sipush (pc := 47) (v := 255) hx hb dX11_image_47 (by decide) ?_
        refine b_iand (pc := 50) (M := 255) hx hb 8 (by decide +kernel) (by decide) (by decide) dX11_image_50 (fun x_32 ex_32 => ?_)
        have rx_32 : (0 ≤ x_32.toInt ∧ x_32.toInt ≤ 255) := ex_32
        refine g_iastore (pc := 51) hx hb hK hP hD hS 3 2 rfl rfl (n_in rfl (by first | exact (om_917 ex_31 hi_4.1) | ((first | omega | (unfold zBd at *; omega)))) (by first | exact (om_1447 ex_31 hi_4.2) | ((first | omega | (unfold zBd at *; omega))))) dX11_image_51 (fun f_33 H locs hP hD hS => ?_)
        replace hP : va_P D gcl (zS_85 cB cC cI cJ a0 a1 a2 a3 a4 a5 a6 a7 a8 a9 a10 x0 a11 a12 a13 a11 a14 a15 a16 x1 x2 x3 x4 x5 x6 x7 a12 a17 a18 a19 x8 x9 x10 x11 x12 a10 f_33 a7 f1) H := hP
        replace hD : va_D A (zS_85 cB cC cI cJ a0 a1 a2 a3 a4 a5 a6 a7 a8 a9 a10 x0 a11 a12 a13 a11 a14 a15 a16 x1 x2 x3 x4 x5 x6 x7 a12 a17 a18 a19 x8 x9 x10 x11 x12 a10 f_33 a7 f1) := hD
        refine b_iinc (pc := 52) hx hb dX11_image_52 hl (k := 1) rfl rfl tI_2 (by first | exact (om_853 hi_4.1) | ((first | omega | (unfold zBd at *; omega)))) (by first | exact (om_1455 hi_4.2) | ((first | omega | (unfold zBd at *; omega)))) (by decide) (fun x_34 ex_34 ls hl => ?_)
        replace hl : lv_has ls 4 [(1, .int x_34), (2, .int x_1), (0, .ref a0)] := hl
        refine b_iinc (pc := 55) hx hb dX11_image_55 hl (k := 1) rfl rfl tI_1 (by first | exact (om_2 hi_2.1) | ((first | omega | (unfold zBd at *; omega)))) (by first | exact (om_38 hi_7) | ((first | omega | (unfold zBd at *; omega)))) (by decide) (fun x_35 ex_35 ls hl => ?_)
        replace hl : lv_has ls 4 [(2, .int x_35), (1, .int x_34), (0, .ref a0)] := hl
        refine lv_goto (pc := 58) (tgt := 4) hx hb dX11_image_58 (by decide) ?_
        exact ih_lp_9 x_35 x_34 f_33 _ _ ls (by first | exact (om_1456 ex_35 hi_2.1 hi_7) | ((first | omega | (unfold zBd at *; omega)))) (by first | exact (om_1457 ex_34 hi_4.1 hi_6 c_10 h_x3.2) | ((first | omega | (unfold zBd at *; omega)))) (by first | exact (om_1458 ex_35 ex_34 hi_6) | ((first | omega | (unfold zBd at *; omega)))) (by first | exact (om_1459 ex_35 c_10 h_x3.2) | ((first | omega | (unfold zBd at *; omega)))) (by first | exact (om_344 ex_35 c_10) | ((first | omega | (unfold zBd at *; omega)))) (by (first | omega | (unfold zBd at *; omega))) hP hD hS (lv_sub hl [0, 1, 2] rfl)
  exact lp_9 _ 0 0 f0 _ _ ls (n_c tI_0 (by decide)) (n_c tI_0 (by decide)) (by first | exact (om_1460 tI_0) | (have k0 := tI_0; (first | omega | (unfold zBd at *; omega)))) (by first | exact (om_1461 tI_0) | (have k0 := tI_0; (first | omega | (unfold zBd at *; omega)))) (by have q := tI_0; (first | omega | (unfold zBd at *; omega))) (Nat.lt_succ_self _) hP hD hS (lv_sub hl [0, 1, 2] rfl)
theorem om_1462 {a b c : Int} (h0 : (a = (-1))) : (((a = (-1) ∧ b < 0) ∨ (a = (-1) ∧ b ≥ 0 ∧ b ≥ c) ∨ (((-2147483648) ≤ a ∧ a ≤ 2147483647) ∧ b ≥ 0 ∧ b < c))) := by omega
theorem om_1463 {a b c : Int} (h0 : (a = (-1))) (h1 : (b ≥ c)) : (((a = (-1) ∧ b < 0) ∨ (a = (-1) ∧ b ≥ 0 ∧ b ≥ c) ∨ (((-2147483648) ≤ a ∧ a ≤ 2147483647) ∧ b ≥ 0 ∧ b < c))) := by omega
theorem om_1464 {a b : Int} (h0 : (a < b)) (h1 : (b ≤ 14)) : (a < (14 : Nat)) := by omega
theorem om_1465 {a b c : Int} (h0 : ((-2147483648) ≤ a)) (h1 : (b ≥ 0)) (h2 : (b < c)) (h3 : (a ≤ 2147483647)) : (((a = (-1) ∧ b < 0) ∨ (a = (-1) ∧ b ≥ 0 ∧ b ≥ c) ∨ (((-2147483648) ≤ a ∧ a ≤ 2147483647) ∧ b ≥ 0 ∧ b < c))) := by omega
set_option maxHeartbeats 4000000 in
set_option maxRecDepth 100000 in
theorem k_X11_octet (l : Launch) (D : va_G) (cB cC cI cJ : ClassId) (sz : Nat) (a0 a1 a2 a3 a4 a5 a6 a7 a8 a9 a10 a11 a12 a13 : Nat) (x0 x1 : Int32) (f0 : Nat → Int32) (h_x1 : zBd x1.toInt 0 14) : Met l yX11_octet (.code yX11_octet cX11_octet 2 (some .int) :: lw_gd) ({ frames := 0, cells := 0, slots := 0, locals := 0 }) (gPre D [(cB, .byte), (cC, .char), (cI, .int), (cJ, .long)] [.ref a0, .int x0] (zS_156 cB cC cI cJ a0 a1 a2 a3 a4 a5 a6 a7 a8 a9 a10 x1 a11 a12 a13 a10 f0) sz) (va_Qi (fun r u => ((r.toInt = (-1) ∧ x0.toInt < 0) ∨ (r.toInt = (-1) ∧ x0.toInt ≥ 0 ∧ x0.toInt ≥ x1.toInt) ∨ (((-2147483648) ≤ r.toInt ∧ r.toInt ≤ 2147483647) ∧ x0.toInt ≥ 0 ∧ x0.toInt < x1.toInt))) (gB D (va_A (zS_156 cB cC cI cJ a0 a1 a2 a3 a4 a5 a6 a7 a8 a9 a10 x1 a11 a12 a13 a10 f0) sz) (fun u : gEx => (zS_156 cB cC cI cJ a0 a1 a2 a3 a4 a5 a6 a7 a8 a9 a10 x1 a11 a12 a13 a10 f0))) (va_A (zS_156 cB cC cI cJ a0 a1 a2 a3 a4 a5 a6 a7 a8 a9 a10 x1 a11 a12 a13 a10 f0) sz)) 0 0 (va_A (zS_156 cB cC cI cJ a0 a1 a2 a3 a4 a5 a6 a7 a8 a9 a10 x1 a11 a12 a13 a10 f0) sz) := by
  refine gOf_i (by decide +kernel) (Nat.le_of_ble_eq_true rfl) ?_
  intro p e s m args below meth c ls A Q hx hb hts hown hml hN hK hP hD hA hl hret
  replace hown : s.vm.findClass RX11 = some m.cls := hown
  have hS : va_S A s.heap s.heap [] := va_S.rf
  replace hP : va_P D gcl (zS_156 cB cC cI cJ a0 a1 a2 a3 a4 a5 a6 a7 a8 a9 a10 x1 a11 a12 a13 a10 f0) s.heap := hP
  replace hl : lv_has ls 2 [(0, .ref a0), (1, .int x0)] := hl
  have rx0 : zBd x0.toInt (-2147483648) 2147483647 := n_rng x0
  refine lv_iload_n (pc := 0) hx hb dX11_octet_0 rfl (lv_at hl 1 rfl) ?_
  refine b_if_lt (pc := 1) (tgt := 21) hx hb rfl  dX11_octet_1 (by decide) (fun c_1 => ?_) (fun c_1 => ?_)
  ·
    refine lv_iconst (pc := 21) (v := (-1)) hx hb dX11_octet_21 (by decide) ?_
    exact hret (-1) ((fun _ => 0), (fun _ => (fun _ => 0)), (fun _ => (fun _ => 0)), (fun _ => 0), (fun _ => 0)) dX11_octet_22 (show ((((-1) : Int32).toInt = (-1) ∧ x0.toInt < 0) ∨ (((-1) : Int32).toInt = (-1) ∧ x0.toInt ≥ 0 ∧ x0.toInt ≥ x1.toInt) ∨ (((-2147483648) ≤ ((-1) : Int32).toInt ∧ ((-1) : Int32).toInt ≤ 2147483647) ∧ x0.toInt ≥ 0 ∧ x0.toInt < x1.toInt)) from (by first | exact (om_1462 tI_m1) | (have k9 := tI_m1; (first | omega | (unfold zBd at *; omega))))) (g_psub (wc := (zS_156 cB cC cI cJ a0 a1 a2 a3 a4 a5 a6 a7 a8 a9 a10 x1 a11 a12 a13 a10 f0)) hP [0, 1] rfl) (hD.sub (ws' := (zS_156 cB cC cI cJ a0 a1 a2 a3 a4 a5 a6 a7 a8 a9 a10 x1 a11 a12 a13 a10 f0)) [0, 1] (by decide) rfl) hS
  ·
    refine lv_iload_n (pc := 4) hx hb dX11_octet_4 rfl (lv_at hl 1 rfl) ?_
    refine lv_aload_n (pc := 5) hx hb dX11_octet_5 rfl (lv_at hl 0 rfl) ?_
    refine va_get (pc := 6) (ci := 11) (v := .int x1) (C := RX11) (T := TX11) (N := 14) hx hb hts iX11 hown hK hP 0 rfl rfl 10 (by decide) (hts _ tw_430) (fun _ h9 => h9) rfl dX11_octet_6 ?_
    have bd_h_x1 : 0 ≤ x1.toInt ∧ x1.toInt ≤ 14 := h_x1
    refine b_icmp_ge (pc := 9) (tgt := 21) hx hb rfl rfl  dX11_octet_9 (by decide) (fun c_2 => ?_) (fun c_2 => ?_)
    ·
      refine lv_iconst (pc := 21) (v := (-1)) hx hb dX11_octet_21 (by decide) ?_
      exact hret (-1) ((fun _ => 0), (fun _ => (fun _ => 0)), (fun _ => (fun _ => 0)), (fun _ => 0), (fun _ => 0)) dX11_octet_22 (show ((((-1) : Int32).toInt = (-1) ∧ x0.toInt < 0) ∨ (((-1) : Int32).toInt = (-1) ∧ x0.toInt ≥ 0 ∧ x0.toInt ≥ x1.toInt) ∨ (((-2147483648) ≤ ((-1) : Int32).toInt ∧ ((-1) : Int32).toInt ≤ 2147483647) ∧ x0.toInt ≥ 0 ∧ x0.toInt < x1.toInt)) from (by first | exact (om_1463 tI_m1 c_2) | (have k9 := tI_m1; (first | omega | (unfold zBd at *; omega))))) (g_psub (wc := (zS_156 cB cC cI cJ a0 a1 a2 a3 a4 a5 a6 a7 a8 a9 a10 x1 a11 a12 a13 a10 f0)) hP [0, 1] rfl) (hD.sub (ws' := (zS_156 cB cC cI cJ a0 a1 a2 a3 a4 a5 a6 a7 a8 a9 a10 x1 a11 a12 a13 a10 f0)) [0, 1] (by decide) rfl) hS
    ·
      refine lv_aload_n (pc := 12) hx hb dX11_octet_12 rfl (lv_at hl 0 rfl) ?_
      refine va_get (pc := 13) (ci := 11) (v := .ref a10) (C := RX11) (T := TX11) (N := 14) hx hb hts iX11 hown hK hP 0 rfl rfl 9 (by decide) (hts _ tw_429) (fun _ h9 => h9) rfl dX11_octet_13 ?_
      refine lv_iload_n (pc := 16) hx hb dX11_octet_16 rfl (lv_at hl 1 rfl) ?_
      refine va_iald (pc := 17) hx hb hK hP 1 2 rfl rfl (n_in rfl (by first | exact (om_10 c_1) | ((first | omega | (unfold zBd at *; omega)))) (by first | exact (om_1464 c_2 h_x1.2) | ((first | omega | (unfold zBd at *; omega))))) dX11_octet_17 ?_
      refine lv_topi (fun x_3 ex_3 => ?_)
      have rx_3 : zBd x_3.toInt (-2147483648) 2147483647 := n_rng x_3
      refine lv_goto (pc := 18) (tgt := 22) hx hb dX11_octet_18 (by decide) ?_
      exact hret x_3 ((fun _ => 0), (fun _ => (fun _ => 0)), (fun _ => (fun _ => 0)), (fun _ => 0), (fun _ => 0)) dX11_octet_22 (show ((x_3.toInt = (-1) ∧ x0.toInt < 0) ∨ (x_3.toInt = (-1) ∧ x0.toInt ≥ 0 ∧ x0.toInt ≥ x1.toInt) ∨ (((-2147483648) ≤ x_3.toInt ∧ x_3.toInt ≤ 2147483647) ∧ x0.toInt ≥ 0 ∧ x0.toInt < x1.toInt)) from (by first | exact (om_1465 rx_3.1 c_1 c_2 rx_3.2) | ((first | omega | (unfold zBd at *; omega))))) (g_psub (wc := (zS_156 cB cC cI cJ a0 a1 a2 a3 a4 a5 a6 a7 a8 a9 a10 x1 a11 a12 a13 a10 f0)) hP [0, 1] rfl) (hD.sub (ws' := (zS_156 cB cC cI cJ a0 a1 a2 a3 a4 a5 a6 a7 a8 a9 a10 x1 a11 a12 a13 a10 f0)) [0, 1] (by decide) rfl) hS
theorem om_1466 {a : Int} (h0 : (0 ≤ a)) : (-2147483648 ≤ 7 * a) := by omega
theorem om_1467 {a : Int} (h0 : (a ≤ 252)) : (7 * a ≤ 2147483647) := by omega
theorem om_1468 {a b c : Int} (h0 : (a = 7 * c)) (h1 : (0 ≤ b)) (h2 : (0 ≤ c)) : (-2147483648 ≤ a + b) := by omega
theorem om_1469 {a b c : Int} (h0 : (a = 7 * c)) (h1 : (b ≤ 255)) (h2 : (c ≤ 252)) : (a + b ≤ 2147483647) := by omega
theorem om_1470 {a b c d : Int} (h0 : (a = b + c)) (h1 : (b = 7 * d)) (h2 : (0 ≤ c)) (h3 : (0 ≤ d)) : (0 ≤ a) := by omega
set_option maxHeartbeats 4000000 in
set_option maxRecDepth 100000 in
theorem k_X11_checkWith_E (l : Launch) (D : va_G) (cB cC cI cJ : ClassId) (sz : Nat) (x0 x1 : Int32) (hp0 : (0 ≤ x0.toInt ∧ x0.toInt ≤ 252)) (hp1 : (0 ≤ x1.toInt ∧ x1.toInt ≤ 255)) : Met l yX11_checkWith (.code yX11_checkWith cX11_checkWith 2 (some .int) :: lw_gd) ({ frames := 0, cells := 0, slots := 0, locals := 0 }) (gPre D [(cB, .byte), (cC, .char), (cI, .int), (cJ, .long)] [.int x0, .int x1] [] sz) (va_Qi (fun r u => (0 ≤ r.toInt ∧ r.toInt ≤ 252) ∧ (r.toInt = (7 * x0.toInt + x1.toInt) % 253)) (gB D (va_A [] sz) (fun u : gEx => [])) (va_A [] sz)) 0 0 (va_A [] sz) := by
  refine gOf_i (by decide +kernel) (Nat.le_of_ble_eq_true rfl) ?_
  intro p e s m args below meth c ls A Q hx hb hts hown hml hN hK hP hD hA hl hret
  replace hown : s.vm.findClass RX11 = some m.cls := hown
  have hS : va_S A s.heap s.heap [] := va_S.rf
  replace hP : va_P D gcl [] s.heap := hP
  replace hl : lv_has ls 2 [(0, .int x0), (1, .int x1)] := hl
  refine lv_bipush (pc := 0) (v := 7) hx hb dX11_checkWith_0 (by decide) ?_
  refine lv_iload_n (pc := 2) hx hb dX11_checkWith_2 rfl (lv_at hl 0 rfl) ?_
  refine b_imul (pc := 3) hx hb tI_7 rfl (by first | exact (om_1466 hp0.1) | ((first | omega | (unfold zBd at *; omega)))) (by first | exact (om_1467 hp0.2) | ((first | omega | (unfold zBd at *; omega)))) dX11_checkWith_3 (fun x_1 ex_1 => ?_)
  refine lv_iload_n (pc := 4) hx hb dX11_checkWith_4 rfl (lv_at hl 1 rfl) ?_
  refine b_iadd (pc := 5) hx hb rfl rfl (by first | exact (om_1468 ex_1 hp1.1 hp0.1) | ((first | omega | (unfold zBd at *; omega)))) (by first | exact (om_1469 ex_1 hp1.2 hp0.2) | ((first | omega | (unfold zBd at *; omega)))) dX11_checkWith_5 (fun x_2 ex_2 => ?_)
  refine lv_sipush (pc := 6) (v := 253) hx hb dX11_checkWith_6 (by decide) ?_
  refine c_irem (pc := 9) hx hb rfl tI_253 (by first | exact (om_1442) | ((first | omega | (unfold zBd at *; omega)))) (by first | exact (om_1470 ex_2 ex_1 hp1.1 hp0.1) | ((first | omega | (unfold zBd at *; omega)))) dX11_checkWith_9 (fun x_3 ex_3 => ?_)
  exact hret x_3 ((fun _ => 0), (fun _ => (fun _ => 0)), (fun _ => (fun _ => 0)), (fun _ => 0), (fun _ => 0)) dX11_checkWith_10 ⟨(show (0 ≤ x_3.toInt ∧ x_3.toInt ≤ 252) from (by (first | omega | (unfold zBd at *; omega)))), (show x_3.toInt = (7 * x0.toInt + x1.toInt) % 253 from (by (first | omega | (unfold zBd at *; omega))))⟩ (g_psub (wc := []) hP [] rfl) (hD.sub (ws' := []) [] (by decide) rfl) hS
theorem om_1471 {a b : Int} (h0 : (a = 2 * b)) (h1 : ((-1) ≤ b)) : (-2147483648 ≤ a + 1) := by omega
theorem om_1472 {a b : Int} (h0 : (a = 2 * b)) (h1 : (b ≤ 6)) : (a + 1 ≤ 2147483647) := by omega
theorem om_1473 {a b c : Int} (h0 : (a = b + 1)) (h1 : (b = 2 * c)) (h2 : ((-1) ≤ c)) : (-2147483648 ≤ a + 1) := by omega
theorem om_1474 {a b c : Int} (h0 : (a = b + 1)) (h1 : (b = 2 * c)) (h2 : (c ≤ 6)) : (a + 1 ≤ 2147483647) := by omega
theorem om_1475 {a b c d e f : Int} (h0 : ((a = (-1) ∧ b < 0) ∨ (a = (-1) ∧ b ≥ 0 ∧ b ≥ c) ∨ ((0 ≤ a ∧ a ≤ 255) ∧ b ≥ 0 ∧ b < c))) (h1 : (0 ≤ b)) (h2 : (b < d)) (h3 : (e = c)) (h4 : (e = f)) (h5 : (f = d + 1)) : (0 ≤ a ∧ a ≤ 255) := by omega
theorem om_1476 {a : Int} (h0 : (0 ≤ a)) (h1 : (a ≤ 255)) : ((0 ≤ a ∧ a ≤ 255)) := by omega
theorem om_1477 {a b c d e : Int} (h0 : (a < b)) (h1 : (c = b + 1)) (h2 : (d = e)) (h3 : (e ≤ 1600)) (h4 : (d = c)) : (a + 1 ≤ 2147483647) := by omega
theorem om_1478 {a b c d e : Int} (h0 : (a = b + 1)) (h1 : (0 ≤ b)) (h2 : (b < c)) (h3 : (c = d + 1)) (h4 : (d = 2 * e)) (h5 : (e ≤ 6)) : ((0 ≤ a ∧ a ≤ 2147483647)) := by omega
theorem om_1479 {a b c d e f : Int} (h0 : (¬ c = d)) (h1 : (c = a)) (h2 : (e = 2 * b)) (h3 : (f = e + 1)) (h4 : (d = f + 1)) : (¬ a = 2 * b + 2) := by omega
set_option maxHeartbeats 4000000 in
set_option maxRecDepth 100000 in
theorem k_X11_isImage (l : Launch) (D : va_G) (cB cC cI cJ : ClassId) (sz : Nat) (a0 a1 a2 a3 a4 a5 a6 a7 a8 a9 a10 a11 a12 a13 a14 a15 a16 a17 : Nat) (x0 x1 x2 x3 x4 x5 x6 x7 x8 : Int32) (f0 : Nat → Int32) (h_x0 : zBd x0.toInt 0 14) (h_x1 : zBd x1.toInt (-1) 8) (h_x2 : zBd x2.toInt (-1) 5) (h_x3 : zBd x3.toInt (-1) 6) (h_x4 : zBd x4.toInt 0 6) (h_x5 : zBd x5.toInt 0 16) (h_x8 : zBd x8.toInt 0 1600) : Met l yX11_isImage (.code yX11_isImage cX11_isImage 4 (some .boolean) :: lw_gd) ({ frames := 1, cells := 0, slots := 0, locals := 21 }) (gPre D [(cB, .byte), (cC, .char), (cI, .int), (cJ, .long)] [.ref a0] (zS_104 cB cC cI cJ a0 a1 a2 a3 a4 a5 a6 a7 a8 a9 a10 x0 a11 a12 a13 a11 a14 a15 a16 x1 x2 x3 x4 x5 x6 x7 a2 a17 x8 a17 f0) sz) (va_Qi (fun r u => (0 ≤ r.toInt ∧ r.toInt ≤ 1) ∧ ((r.toInt = 1 ∧ imgQ (taub f0 x8.toInt) x8.toInt x3.toInt) ∨ (r.toInt = 0 ∧ ¬ imgQ (taub f0 x8.toInt) x8.toInt x3.toInt))) (gB D (va_A (zS_104 cB cC cI cJ a0 a1 a2 a3 a4 a5 a6 a7 a8 a9 a10 x0 a11 a12 a13 a11 a14 a15 a16 x1 x2 x3 x4 x5 x6 x7 a2 a17 x8 a17 f0) sz) (fun u : gEx => (zS_104 cB cC cI cJ a0 a1 a2 a3 a4 a5 a6 a7 a8 a9 a10 x0 a11 a12 a13 a11 a14 a15 a16 x1 x2 x3 x4 x5 x6 x7 a2 a17 x8 a17 f0))) (va_A (zS_104 cB cC cI cJ a0 a1 a2 a3 a4 a5 a6 a7 a8 a9 a10 x0 a11 a12 a13 a11 a14 a15 a16 x1 x2 x3 x4 x5 x6 x7 a2 a17 x8 a17 f0) sz)) 0 0 (va_A (zS_104 cB cC cI cJ a0 a1 a2 a3 a4 a5 a6 a7 a8 a9 a10 x0 a11 a12 a13 a11 a14 a15 a16 x1 x2 x3 x4 x5 x6 x7 a2 a17 x8 a17 f0) sz) := by
  refine gOf_z (by decide +kernel) (Nat.le_of_ble_eq_true rfl) ?_
  intro p e s m args below meth c ls A Q hx hb hts hown hml hN hK hP hD hA hl hret
  replace hown : s.vm.findClass RX11 = some m.cls := hown
  have hS : va_S A s.heap s.heap [] := va_S.rf
  replace hP : va_P D gcl (zS_104 cB cC cI cJ a0 a1 a2 a3 a4 a5 a6 a7 a8 a9 a10 x0 a11 a12 a13 a11 a14 a15 a16 x1 x2 x3 x4 x5 x6 x7 a2 a17 x8 a17 f0) s.heap := hP
  replace hl : lv_has ls 4 [(0, .ref a0)] := hl
  have rx6 : zBd x6.toInt (-2147483648) 2147483647 := n_rng x6
  have rx7 : zBd x7.toInt (-2147483648) 2147483647 := n_rng x7
  refine lv_iconst (pc := 0) (v := 2) hx hb dX11_isImage_0 (by decide) ?_
  refine lv_aload_n (pc := 1) hx hb dX11_isImage_1 rfl (lv_at hl 0 rfl) ?_
  refine va_get (pc := 2) (ci := 11) (v := .ref a11) (C := RX11) (T := TX11) (N := 14) hx hb hts iX11 hown hK hP 0 rfl rfl 11 (by decide) (hts _ tw_431) (fun _ h9 => h9) rfl dX11_isImage_2 ?_
  refine va_getN (pc := 5) (ci := 1) (v := .int x3) (C := RX1) (T := TX1) (N := 10) hx hb hts iX1 hown hK hP 1 rfl rfl 5 (by decide) (va_Nw.use rfl (hN _ tn_128)) (fun _ h9 => h9) rfl dX11_isImage_5 ?_
  refine b_imul (pc := 8) hx hb tI_2 rfl (by first | exact (om_1277 h_x3.1) | ((first | omega | (unfold zBd at *; omega)))) (by first | exact (om_1339 h_x3.2) | ((first | omega | (unfold zBd at *; omega)))) dX11_isImage_8 (fun x_1 ex_1 => ?_)
  refine lv_iconst (pc := 9) (v := 1) hx hb dX11_isImage_9 (by decide) ?_
  refine b_iadd (pc := 10) hx hb rfl tI_1 (by first | exact (om_1471 ex_1 h_x3.1) | ((first | omega | (unfold zBd at *; omega)))) (by first | exact (om_1472 ex_1 h_x3.2) | ((first | omega | (unfold zBd at *; omega)))) dX11_isImage_10 (fun x_2 ex_2 => ?_)
  refine lv_istore_n (pc := 11) (lv' := [(1, .int x_2), (0, .ref a0)]) hx hb dX11_isImage_11 rfl hl (by decide) rfl (fun ls hl => ?_)
  refine lv_aload_n (pc := 12) hx hb dX11_isImage_12 rfl (lv_at hl 1 rfl) ?_
  refine va_get (pc := 13) (ci := 11) (v := .ref a2) (C := RX11) (T := TX11) (N := 14) hx hb hts iX11 hown hK hP 0 rfl rfl 1 (by decide) (hts _ tw_421) (fun _ h9 => h9) rfl dX11_isImage_13 ?_
  refine gd_i (pc := 16) (wc := [(a2, .inr (9, [.ref a17, .int x8]))]) hP hD hS hA [2] rfl (by decide +kernel) (fun _ => by rfl) (fun hPc hDc => va_runV (As := []) (rest := []) ⟨hx, hb, hml, hown, hts⟩ (k_X9_length l D cB cC cI cJ _ a2 a17 x8 h_x8) ⟨gcwB hts tw_478 tw_3 tw_475 hd_yX9_length ⟨Nat.le_of_ble_eq_true rfl, Nat.le_of_ble_eq_true rfl⟩, hts _ tw_476, hts _ tw_477⟩ ⟨gblind, va_recv hK hPc (ci := 9) (q0 := 0) rfl rfl, (gpreS hPc hK hDc hN).2⟩ rfl rfl hl.1 rfl (lv_room (Nat.le_of_ble_eq_true rfl)) dX11_isImage_16 ⟨Nat.le_of_ble_eq_true rfl, Nat.le_of_ble_eq_true rfl⟩) (fun r_4 u_3 H locs hw_5 hP hD hS => ?_)
  replace hP : va_P D gcl (zS_104 cB cC cI cJ a0 a1 a2 a3 a4 a5 a6 a7 a8 a9 a10 x0 a11 a12 a13 a11 a14 a15 a16 x1 x2 x3 x4 x5 x6 x7 a2 a17 x8 a17 f0) H := hP
  replace hD : va_D A (zS_104 cB cC cI cJ a0 a1 a2 a3 a4 a5 a6 a7 a8 a9 a10 x0 a11 a12 a13 a11 a14 a15 a16 x1 x2 x3 x4 x5 x6 x7 a2 a17 x8 a17 f0) := hD
  have hw_6 : ((r_4.toInt = x8.toInt)) := hw_5
  have rr_4 : zBd r_4.toInt (-2147483648) 2147483647 := n_rng r_4
  refine lv_iload_n (pc := 19) hx hb dX11_isImage_19 rfl (lv_at hl 0 rfl) ?_
  refine lv_iconst (pc := 20) (v := 1) hx hb dX11_isImage_20 (by decide) ?_
  refine b_iadd (pc := 21) hx hb rfl tI_1 (by first | exact (om_1473 ex_2 ex_1 h_x3.1) | ((first | omega | (unfold zBd at *; omega)))) (by first | exact (om_1474 ex_2 ex_1 h_x3.2) | ((first | omega | (unfold zBd at *; omega)))) dX11_isImage_21 (fun x_7 ex_7 => ?_)
  refine b_icmp_eq (pc := 22) (tgt := 27) hx hb rfl rfl  dX11_isImage_22 (by decide) (fun c_8 => ?_) (fun c_8 => ?_)
  ·
    refine lv_bipush (pc := 27) (v := 51) hx hb dX11_isImage_27 (by decide) ?_
    refine lv_istore_n (pc := 29) (lv' := [(2, .int 51), (1, .int x_2), (0, .ref a0)]) hx hb dX11_isImage_29 rfl hl (by decide) rfl (fun ls hl => ?_)
    refine lv_iconst (pc := 30) (v := 0) hx hb dX11_isImage_30 (by decide) ?_
    refine lv_istore_n (pc := 31) (lv' := [(3, .int 0), (2, .int 51), (1, .int x_2), (0, .ref a0)]) hx hb dX11_isImage_31 rfl hl (by decide) rfl (fun ls hl => ?_)
    have lp_15 : ∀ (n : Nat) (x_9 x_11 : Int32) (H : Heap) (locs : List Loc) (ls : Array Slot), (0 ≤ x_9.toInt ∧ x_9.toInt ≤ 2147483647) → (0 ≤ x_11.toInt ∧ x_11.toInt ≤ 252) → (x_9.toInt ≤ x_2.toInt ∨ x_9.toInt = 0) → (x_11.toInt = ckF (taub f0 x8.toInt) (x_9.toInt).toNat) → (2147483647 - x_9.toInt).toNat < n → va_P D gcl (zS_104 cB cC cI cJ a0 a1 a2 a3 a4 a5 a6 a7 a8 a9 a10 x0 a11 a12 a13 a11 a14 a15 a16 x1 x2 x3 x4 x5 x6 x7 a2 a17 x8 a17 f0) H → va_D A (zS_104 cB cC cI cJ a0 a1 a2 a3 a4 a5 a6 a7 a8 a9 a10 x0 a11 a12 a13 a11 a14 a15 a16 x1 x2 x3 x4 x5 x6 x7 a2 a17 x8 a17 f0) → va_S A s.heap H locs → lv_has ls 4 [(3, .int x_9), (2, .int x_11), (1, .int x_2), (0, .ref a0)] → W p l e ({ frames := 1, cells := 0, slots := 0, locals := 21 }) s m args below meth c H locs 0 0 Q (F0 m 32 ls []) := by
      intro n
      induction n with
      | zero => intro x_9 x_11 H locs ls hi_10 hi_12 hi_13 hi_14 hmu; exact absurd hmu (Nat.not_lt_zero _)
      | succ n ih_lp_15 =>
        intro x_9 x_11 H locs ls hi_10 hi_12 hi_13 hi_14 hmu_lp_15 hP hD hS hl
        refine lv_iload_n (pc := 32) hx hb dX11_isImage_32 rfl (lv_at hl 0 rfl) ?_
        refine lv_iload_n (pc := 33) hx hb dX11_isImage_33 rfl (lv_at hl 2 rfl) ?_
        refine b_icmp_ge (pc := 34) (tgt := 56) hx hb rfl rfl  dX11_isImage_34 (by decide) (fun c_16 => ?_) (fun c_16 => ?_)
        ·
          have hh_17 : x_11.toInt = ckF (taub f0 x8.toInt) (x_2.toInt).toNat := (by have e9 : (x_9.toInt).toNat = (x_2.toInt).toNat := (by (first | omega | (unfold zBd at *; omega))); have q9 := hi_14; rw [e9] at q9; exact q9)
          refine lv_aload_n (pc := 56) hx hb dX11_isImage_56 rfl (lv_at hl 3 rfl) ?_
          refine va_get (pc := 57) (ci := 11) (v := .ref a2) (C := RX11) (T := TX11) (N := 14) hx hb hts iX11 hown hK hP 0 rfl rfl 1 (by decide) (hts _ tw_421) (fun _ h9 => h9) rfl dX11_isImage_57 ?_
          refine lv_iload_n (pc := 60) hx hb dX11_isImage_60 rfl (lv_at hl 2 rfl) ?_
          refine gd_i (pc := 61) (wc := [(a2, .inr (9, [.ref a17, .int x8])), (a17, .inl (cB, 1600, .inl f0))]) hP hD hS hA [2, 3] rfl (by decide +kernel) (fun _ => by rfl) (fun hPc hDc => va_runV (As := [.int x_2]) (rest := []) ⟨hx, hb, hml, hown, hts⟩ (k_X9_at_E l D cB cC cI cJ _ a2 a17 x_2 x8 f0 h_x8) ⟨gcwB hts tw_518 tw_3 tw_1394 hd_yX9_at ⟨Nat.le_of_ble_eq_true rfl, Nat.le_of_ble_eq_true rfl⟩, hts _ tw_516, hts _ tw_517⟩ ⟨gblind, va_recv hK hPc (ci := 9) (q0 := 0) rfl rfl, (gpreS hPc hK hDc hN).2⟩ rfl rfl hl.1 rfl (lv_room (Nat.le_of_ble_eq_true rfl)) dX11_isImage_61 ⟨Nat.le_of_ble_eq_true rfl, Nat.le_of_ble_eq_true rfl⟩) (fun r_19 u_18 H locs hw_20 hP hD hS => ?_)
          replace hP : va_P D gcl (zS_104 cB cC cI cJ a0 a1 a2 a3 a4 a5 a6 a7 a8 a9 a10 x0 a11 a12 a13 a11 a14 a15 a16 x1 x2 x3 x4 x5 x6 x7 a2 a17 x8 a17 f0) H := hP
          replace hD : va_D A (zS_104 cB cC cI cJ a0 a1 a2 a3 a4 a5 a6 a7 a8 a9 a10 x0 a11 a12 a13 a11 a14 a15 a16 x1 x2 x3 x4 x5 x6 x7 a2 a17 x8 a17 f0) := hD
          obtain ⟨hw_21, hw_22⟩ := hw_20
          replace hw_21 : ((r_19.toInt = (-1) ∧ x_2.toInt < 0) ∨ (r_19.toInt = (-1) ∧ x_2.toInt ≥ 0 ∧ x_2.toInt ≥ x8.toInt) ∨ ((0 ≤ r_19.toInt ∧ r_19.toInt ≤ 255) ∧ x_2.toInt ≥ 0 ∧ x_2.toInt < x8.toInt)) := hw_21
          replace hw_22 : (r_19.toInt = taub f0 x8.toInt x_2.toInt) := hw_22
          have rr_19 : zBd r_19.toInt (-2147483648) 2147483647 := n_rng r_19
          refine lv_iload_n (pc := 64) hx hb dX11_isImage_64 rfl (lv_at hl 1 rfl) ?_
          refine b_icmp_ne (pc := 65) (tgt := 72) hx hb rfl rfl  dX11_isImage_65 (by decide) (fun c_23 => ?_) (fun c_23 => ?_)
          ·
            refine lv_iconst (pc := 72) (v := 0) hx hb dX11_isImage_72 (by decide) ?_
            have k9 := tI_0
            exact hret 0 ((fun _ => 0), (fun _ => (fun _ => 0)), (fun _ => (fun _ => 0)), (fun _ => 0), (fun _ => 0)) dX11_isImage_73 ⟨(Or.inl tI_0), ⟨(show (0 ≤ (0 : Int32).toInt ∧ (0 : Int32).toInt ≤ 1) from (n_c tI_0 (by decide))), (show ((0 : Int32).toInt = 1 ∧ imgQ (taub f0 x8.toInt) x8.toInt x3.toInt) ∨ ((0 : Int32).toInt = 0 ∧ ¬ imgQ (taub f0 x8.toInt) x8.toInt x3.toInt) from Or.inr ⟨by (first | omega | (unfold zBd at *; omega)), img_no (k := x_2.toInt) (by (first | omega | (unfold zBd at *; omega))) hw_22 hh_17 (by (first | omega | (unfold zBd at *; omega)))⟩)⟩⟩ (g_psub (wc := (zS_104 cB cC cI cJ a0 a1 a2 a3 a4 a5 a6 a7 a8 a9 a10 x0 a11 a12 a13 a11 a14 a15 a16 x1 x2 x3 x4 x5 x6 x7 a2 a17 x8 a17 f0)) hP [0, 1, 2, 3] rfl) (hD.sub (ws' := (zS_104 cB cC cI cJ a0 a1 a2 a3 a4 a5 a6 a7 a8 a9 a10 x0 a11 a12 a13 a11 a14 a15 a16 x1 x2 x3 x4 x5 x6 x7 a2 a17 x8 a17 f0)) [0, 1, 2, 3] (by decide) rfl) hS
          ·
            refine lv_iconst (pc := 68) (v := 1) hx hb dX11_isImage_68 (by decide) ?_
            refine lv_goto (pc := 69) (tgt := 73) hx hb dX11_isImage_69 (by decide) ?_
            have k9 := tI_1
            exact hret 1 ((fun _ => 0), (fun _ => (fun _ => 0)), (fun _ => (fun _ => 0)), (fun _ => 0), (fun _ => 0)) dX11_isImage_73 ⟨(Or.inr tI_1), ⟨(show (0 ≤ (1 : Int32).toInt ∧ (1 : Int32).toInt ≤ 1) from (n_c tI_1 (by decide))), (show ((1 : Int32).toInt = 1 ∧ imgQ (taub f0 x8.toInt) x8.toInt x3.toInt) ∨ ((1 : Int32).toInt = 0 ∧ ¬ imgQ (taub f0 x8.toInt) x8.toInt x3.toInt) from Or.inl ⟨by (first | omega | (unfold zBd at *; omega)), img_yes (k := x_2.toInt) (by (first | omega | (unfold zBd at *; omega))) (by (first | omega | (unfold zBd at *; omega))) hw_22 hh_17 (by (first | omega | (unfold zBd at *; omega)))⟩)⟩⟩ (g_psub (wc := (zS_104 cB cC cI cJ a0 a1 a2 a3 a4 a5 a6 a7 a8 a9 a10 x0 a11 a12 a13 a11 a14 a15 a16 x1 x2 x3 x4 x5 x6 x7 a2 a17 x8 a17 f0)) hP [0, 1, 2, 3] rfl) (hD.sub (ws' := (zS_104 cB cC cI cJ a0 a1 a2 a3 a4 a5 a6 a7 a8 a9 a10 x0 a11 a12 a13 a11 a14 a15 a16 x1 x2 x3 x4 x5 x6 x7 a2 a17 x8 a17 f0)) [0, 1, 2, 3] (by decide) rfl) hS
        ·
          refine lv_iload_n (pc := 37) hx hb dX11_isImage_37 rfl (lv_at hl 1 rfl) ?_
          refine lv_aload_n (pc := 38) hx hb dX11_isImage_38 rfl (lv_at hl 3 rfl) ?_
          refine va_get (pc := 39) (ci := 11) (v := .ref a2) (C := RX11) (T := TX11) (N := 14) hx hb hts iX11 hown hK hP 0 rfl rfl 1 (by decide) (hts _ tw_421) (fun _ h9 => h9) rfl dX11_isImage_39 ?_
          refine lv_iload_n (pc := 42) hx hb dX11_isImage_42 rfl (lv_at hl 0 rfl) ?_
          refine gd_i (pc := 43) (wc := [(a2, .inr (9, [.ref a17, .int x8])), (a17, .inl (cB, 1600, .inl f0))]) hP hD hS hA [2, 3] rfl (by decide +kernel) (fun _ => by rfl) (fun hPc hDc => va_runV (As := [.int x_9]) (rest := [.int x_11]) ⟨hx, hb, hml, hown, hts⟩ (k_X9_at_E l D cB cC cI cJ _ a2 a17 x_9 x8 f0 h_x8) ⟨gcwB hts tw_518 tw_3 tw_1394 hd_yX9_at ⟨Nat.le_of_ble_eq_true rfl, Nat.le_of_ble_eq_true rfl⟩, hts _ tw_516, hts _ tw_517⟩ ⟨gblind, va_recv hK hPc (ci := 9) (q0 := 0) rfl rfl, (gpreS hPc hK hDc hN).2⟩ rfl rfl hl.1 rfl (lv_room (Nat.le_of_ble_eq_true rfl)) dX11_isImage_43 ⟨Nat.le_of_ble_eq_true rfl, Nat.le_of_ble_eq_true rfl⟩) (fun r_25 u_24 H locs hw_26 hP hD hS => ?_)
          replace hP : va_P D gcl (zS_104 cB cC cI cJ a0 a1 a2 a3 a4 a5 a6 a7 a8 a9 a10 x0 a11 a12 a13 a11 a14 a15 a16 x1 x2 x3 x4 x5 x6 x7 a2 a17 x8 a17 f0) H := hP
          replace hD : va_D A (zS_104 cB cC cI cJ a0 a1 a2 a3 a4 a5 a6 a7 a8 a9 a10 x0 a11 a12 a13 a11 a14 a15 a16 x1 x2 x3 x4 x5 x6 x7 a2 a17 x8 a17 f0) := hD
          obtain ⟨hw_27, hw_28⟩ := hw_26
          replace hw_27 : ((r_25.toInt = (-1) ∧ x_9.toInt < 0) ∨ (r_25.toInt = (-1) ∧ x_9.toInt ≥ 0 ∧ x_9.toInt ≥ x8.toInt) ∨ ((0 ≤ r_25.toInt ∧ r_25.toInt ≤ 255) ∧ x_9.toInt ≥ 0 ∧ x_9.toInt < x8.toInt)) := hw_27
          replace hw_28 : (r_25.toInt = taub f0 x8.toInt x_9.toInt) := hw_28
          have rr_25 : zBd r_25.toInt (-2147483648) 2147483647 := n_rng r_25
          have hh_29 : 0 ≤ r_25.toInt ∧ r_25.toInt ≤ 255 := (by first | exact (om_1475 hw_27 hi_10.1 c_16 hw_6 c_8 ex_7) | ((first | omega | (unfold zBd at *; omega))))
          refine gd_i (pc := 46) (wc := []) hP hD hS hA [] rfl (by decide +kernel) (fun _ => by rfl) (fun hPc hDc => va_runS (As := [.int x_11, .int r_25]) (rest := []) ⟨hx, hb, hml, hown, hts⟩ (k_X11_checkWith_E l D cB cC cI cJ _ x_11 r_25 hi_12 (by first | exact (om_1476 hh_29.1 hh_29.2) | ((first | omega | (unfold zBd at *; omega))))) ⟨gcwB hts tw_1381 tw_1 tw_1379 hd_yX11_checkWith ⟨Nat.le_of_ble_eq_true rfl, Nat.le_of_ble_eq_true rfl⟩, hts _ tw_1380⟩ (gpreS hPc hK hDc hN) rfl rfl hl.1 rfl (lv_room (Nat.le_of_ble_eq_true rfl)) dX11_isImage_46 ⟨Nat.le_of_ble_eq_true rfl, Nat.le_of_ble_eq_true rfl⟩) (fun r_31 u_30 H locs hw_32 hP hD hS => ?_)
          replace hP : va_P D gcl (zS_104 cB cC cI cJ a0 a1 a2 a3 a4 a5 a6 a7 a8 a9 a10 x0 a11 a12 a13 a11 a14 a15 a16 x1 x2 x3 x4 x5 x6 x7 a2 a17 x8 a17 f0) H := hP
          replace hD : va_D A (zS_104 cB cC cI cJ a0 a1 a2 a3 a4 a5 a6 a7 a8 a9 a10 x0 a11 a12 a13 a11 a14 a15 a16 x1 x2 x3 x4 x5 x6 x7 a2 a17 x8 a17 f0) := hD
          obtain ⟨hw_33, hw_34⟩ := hw_32
          replace hw_33 : (0 ≤ r_31.toInt ∧ r_31.toInt ≤ 252) := hw_33
          replace hw_34 : (r_31.toInt = (7 * x_11.toInt + r_25.toInt) % 253) := hw_34
          have rr_31 : zBd r_31.toInt (-2147483648) 2147483647 := n_rng r_31
          refine lv_istore_n (pc := 49) (lv' := [(2, .int r_31), (3, .int x_9), (1, .int x_2), (0, .ref a0)]) hx hb dX11_isImage_49 rfl hl (by decide) rfl (fun ls hl => ?_)
          refine b_iinc (pc := 50) hx hb dX11_isImage_50 hl (k := 1) rfl rfl tI_1 (by first | exact (om_2 hi_10.1) | ((first | omega | (unfold zBd at *; omega)))) (by first | exact (om_1477 c_16 ex_7 hw_6 h_x8.2 c_8) | ((first | omega | (unfold zBd at *; omega)))) (by decide) (fun x_35 ex_35 ls hl => ?_)
          replace hl : lv_has ls 4 [(3, .int x_35), (2, .int r_31), (1, .int x_2), (0, .ref a0)] := hl
          refine lv_goto (pc := 53) (tgt := 32) hx hb dX11_isImage_53 (by decide) ?_
          exact ih_lp_15 x_35 r_31 _ _ ls (by first | exact (om_1478 ex_35 hi_10.1 c_16 ex_2 ex_1 h_x3.2) | ((first | omega | (unfold zBd at *; omega)))) hw_33 (by first | exact (om_344 ex_35 c_16) | ((first | omega | (unfold zBd at *; omega)))) (ck_step hi_14 hw_28 hw_34 (by first | exact (om_0 hi_10.1) | ((first | omega | (unfold zBd at *; omega)))) (by first | exact (om_5 ex_35) | ((first | omega | (unfold zBd at *; omega))))) (by (first | omega | (unfold zBd at *; omega))) hP hD hS (lv_sub hl [0, 1, 2, 3] rfl)
    exact lp_15 _ 0 51 _ _ ls (n_c tI_0 (by decide)) (n_c tI_51 (by decide)) (by have q := tI_0; (first | omega | (unfold zBd at *; omega))) (tI_51) (Nat.lt_succ_self _) hP hD hS (lv_sub hl [0, 1, 2, 3] rfl)
  ·
    refine lv_iconst (pc := 25) (v := 0) hx hb dX11_isImage_25 (by decide) ?_
    have k9 := tI_0
    exact hret 0 ((fun _ => 0), (fun _ => (fun _ => 0)), (fun _ => (fun _ => 0)), (fun _ => 0), (fun _ => 0)) dX11_isImage_26 ⟨(Or.inl tI_0), ⟨(show (0 ≤ (0 : Int32).toInt ∧ (0 : Int32).toInt ≤ 1) from (n_c tI_0 (by decide))), (show ((0 : Int32).toInt = 1 ∧ imgQ (taub f0 x8.toInt) x8.toInt x3.toInt) ∨ ((0 : Int32).toInt = 0 ∧ ¬ imgQ (taub f0 x8.toInt) x8.toInt x3.toInt) from Or.inr ⟨by (first | omega | (unfold zBd at *; omega)), img_noN (by first | exact (om_1479 c_8 hw_6 ex_1 ex_2 ex_7) | ((first | omega | (unfold zBd at *; omega))))⟩)⟩⟩ (g_psub (wc := (zS_104 cB cC cI cJ a0 a1 a2 a3 a4 a5 a6 a7 a8 a9 a10 x0 a11 a12 a13 a11 a14 a15 a16 x1 x2 x3 x4 x5 x6 x7 a2 a17 x8 a17 f0)) hP [0, 1, 2, 3] rfl) (hD.sub (ws' := (zS_104 cB cC cI cJ a0 a1 a2 a3 a4 a5 a6 a7 a8 a9 a10 x0 a11 a12 a13 a11 a14 a15 a16 x1 x2 x3 x4 x5 x6 x7 a2 a17 x8 a17 f0)) [0, 1, 2, 3] (by decide) rfl) hS
theorem om_1480 {a : Int} (h0 : (0 ≤ a)) : (-2147483648 ≤ a + 20) := by omega
theorem om_1481 {a : Int} (h0 : (a ≤ 1600)) : (a + 20 ≤ 2147483647) := by omega
theorem om_1482 {a b c : Int} (h0 : (0 ≤ a)) (h1 : (a ≤ 1600)) (h2 : (c = b + 20)) (h3 : (c ≤ 1600)) : ((((0 ≤ a ∧ a ≤ 1600) ∧ (b) + (20) ≤ 1600) ∨ (a = (-1) ∧ (b) + (20) > 1600 ∧ a = b))) := by omega
theorem om_1483 {a b c d : Int} (h0 : (0 ≤ a)) (h1 : (a = b + c)) (h2 : (c ≥ 20)) (h3 : (c ≤ 20)) (h4 : (d = b + 20)) (h5 : (d ≤ 1600)) : (((a = -1 ∧ b + 20 > 1600 ∧ a = b) ∨ (a = b + 20 ∧ b + 20 ≤ 1600 ∧ a = b + 20))) := by omega
theorem om_1484 : (0 < 4) := by omega
theorem om_1485 {a : Int} (h0 : (a ≥ 16)) : (0 ≤ a) := by omega
theorem om_1486 {a b c d : Int} (h0 : (a = b + c)) (h1 : (c < 20)) (h2 : (d = b + 20)) (h3 : (d ≤ 1600)) : (a < (1600 : Nat)) := by omega
theorem om_1487 {a : Int} (h0 : (a ≥ 16)) : (-2147483648 ≤ a + 1) := by omega
theorem om_1488 {a : Int} (h0 : (a < 20)) : (a + 1 ≤ 2147483647) := by omega
theorem om_1489 {a b : Int} (h0 : (a = b + 1)) (h1 : (b ≥ 16)) (h2 : (b < 20)) : ((0 ≤ a ∧ a ≤ 20)) := by omega
theorem om_1490 {a b c d e : Int} (h0 : (a = b + 1)) (h1 : (0 ≤ b)) (h2 : (b = c + d)) (h3 : (d < 20)) (h4 : (e = c + 20)) (h5 : (e ≤ 1600)) : ((0 ≤ a ∧ a ≤ 1600)) := by omega
theorem om_1491 {a : Int} (h0 : (a ≥ 12)) : (0 ≤ a) := by omega
theorem om_1492 {a b c d : Int} (h0 : (a = b + c)) (h1 : (c < 16)) (h2 : (d = b + 20)) (h3 : (d ≤ 1600)) : (a < (1600 : Nat)) := by omega
theorem om_1493 {a : Int} (h0 : (a ≥ 12)) : (-2147483648 ≤ a + 1) := by omega
theorem om_1494 {a : Int} (h0 : (a < 16)) : (a + 1 ≤ 2147483647) := by omega
theorem om_1495 {a b : Int} (h0 : (a = b + 1)) (h1 : (b ≥ 12)) (h2 : (b < 16)) : ((0 ≤ a ∧ a ≤ 20)) := by omega
theorem om_1496 {a b c d e : Int} (h0 : (a = b + 1)) (h1 : (0 ≤ b)) (h2 : (b = c + d)) (h3 : (d < 16)) (h4 : (e = c + 20)) (h5 : (e ≤ 1600)) : ((0 ≤ a ∧ a ≤ 1600)) := by omega
theorem om_1497 {a : Int} (h0 : (a ≥ 8)) : (0 ≤ a) := by omega
theorem om_1498 {a b c d : Int} (h0 : (a = b + c)) (h1 : (c < 12)) (h2 : (d = b + 20)) (h3 : (d ≤ 1600)) : (a < (1600 : Nat)) := by omega
theorem om_1499 {a : Int} (h0 : (a ≥ 8)) : (-2147483648 ≤ a + 1) := by omega
theorem om_1500 {a : Int} (h0 : (a < 12)) : (a + 1 ≤ 2147483647) := by omega
theorem om_1501 {a b : Int} (h0 : (a = b + 1)) (h1 : (b ≥ 8)) (h2 : (b < 12)) : ((0 ≤ a ∧ a ≤ 20)) := by omega
theorem om_1502 {a b c d e : Int} (h0 : (a = b + 1)) (h1 : (0 ≤ b)) (h2 : (b = c + d)) (h3 : (d < 12)) (h4 : (e = c + 20)) (h5 : (e ≤ 1600)) : ((0 ≤ a ∧ a ≤ 1600)) := by omega
theorem om_1503 {a : Int} (h0 : (a ≥ 4)) : (0 ≤ a) := by omega
theorem om_1504 {a b c d : Int} (h0 : (a = b + c)) (h1 : (c < 8)) (h2 : (d = b + 20)) (h3 : (d ≤ 1600)) : (a < (1600 : Nat)) := by omega
theorem om_1505 {a : Int} (h0 : (a ≥ 4)) : (-2147483648 ≤ a + 1) := by omega
theorem om_1506 {a b : Int} (h0 : (a = b + 1)) (h1 : (b ≥ 4)) (h2 : (b < 8)) : ((0 ≤ a ∧ a ≤ 20)) := by omega
theorem om_1507 {a b c d e : Int} (h0 : (a = b + 1)) (h1 : (0 ≤ b)) (h2 : (b = c + d)) (h3 : (d < 8)) (h4 : (e = c + 20)) (h5 : (e ≤ 1600)) : ((0 ≤ a ∧ a ≤ 1600)) := by omega
theorem om_1508 {a b c d : Int} (h0 : (a = b + c)) (h1 : (c < 4)) (h2 : (d = b + 20)) (h3 : (d ≤ 1600)) : (a < (1600 : Nat)) := by omega
theorem om_1509 {a b : Int} (h0 : (a = b + 1)) (h1 : (0 ≤ b)) (h2 : (b < 4)) : ((0 ≤ a ∧ a ≤ 20)) := by omega
theorem om_1510 {a b c d e : Int} (h0 : (a = b + 1)) (h1 : (0 ≤ b)) (h2 : (b = c + d)) (h3 : (d < 4)) (h4 : (e = c + 20)) (h5 : (e ≤ 1600)) : ((0 ≤ a ∧ a ≤ 1600)) := by omega
theorem om_1511 {a b c : Int} (h0 : (a = (-1))) (h1 : (c = b + 20)) (h2 : (c > 1600)) : ((((0 ≤ a ∧ a ≤ 1600) ∧ (b) + (20) ≤ 1600) ∨ (a = (-1) ∧ (b) + (20) > 1600 ∧ b = b))) := by omega
theorem om_1512 {a b c : Int} (h0 : (a = (-1))) (h1 : (c = b + 20)) (h2 : (c > 1600)) (h3 : (0 ≤ b)) : (((a = -1 ∧ b + 20 > 1600 ∧ b = b) ∨ (a = b + 20 ∧ b + 20 ≤ 1600 ∧ b = b + 20))) := by omega
set_option maxHeartbeats 4000000 in
set_option maxRecDepth 100000 in
theorem k_X12_feed (l : Launch) (D : va_G) (cB cC cI cJ : ClassId) (sz : Nat) (a0 a1 a2 a3 a4 a5 a6 a7 a8 a9 a10 a11 a12 a13 a14 a15 a16 a17 a18 a19 a20 a21 a22 a23 a24 a25 a26 a27 a28 a29 a30 a31 a32 a33 a34 a35 a36 a37 a38 a39 a40 a41 a42 a43 : Nat) (x0 x1 x2 x3 x4 x5 x6 x7 x8 x9 x10 x11 x12 x13 x14 x15 x16 x17 x18 x19 x20 x21 x22 x23 x24 x25 x26 x27 x28 x29 x30 x31 x32 : Int32) (y0 y1 : Int64) (f0 : Nat → Int32) (h_x5 : zBd x5.toInt 0 1600) (h_x6 : zBd x6.toInt 0 1600) (h_x7 : zBd x7.toInt 0 1600) (h_x8 : zBd x8.toInt (-1) 1600) (h_x9 : zBd x9.toInt 0 4) (h_x10 : zBd x10.toInt (-1) 1600) (h_x13 : zBd x13.toInt 0 8) (h_x14 : zBd x14.toInt 0 5) (h_x15 : zBd x15.toInt 0 6) (h_x16 : zBd x16.toInt 0 6) (h_x17 : zBd x17.toInt 0 16) (h_x19 : zBd x19.toInt 0 60) (h_x20 : zBd x20.toInt 0 1600) (h_x21 : zBd x21.toInt 0 1700) (h_x23 : zBd x23.toInt 0 1700) (h_x24 : zBd x24.toInt 0 1700) (h_x25 : zBd x25.toInt 0 200) (h_x26 : zBd x26.toInt 0 40) (h_x27 : zBd x27.toInt 0 40) (h_x28 : zBd x28.toInt 0 1) (h_x29 : zBd x29.toInt 0 14) (h_x30 : zBd x30.toInt 0 200) (h_x31 : zBd x31.toInt 0 40) (h_x32 : zBd x32.toInt 0 40) (hr_a0_0 : (x26.toInt ≤ x25.toInt)) (hr_a0_1 : (x25.toInt + x27.toInt ≤ 200)) (hr_a0_2 : (x14.toInt = 0 ∨ 2 ≤ x13.toInt)) (hf_f0 : (∀ j, 0 ≤ (f0 j).toInt ∧ (f0 j).toInt ≤ 255)) : Met l yX12_feed (.code yX12_feed cX12_feed 8 (some .int) :: lw_gd) ({ frames := 0, cells := 0, slots := 0, locals := 0 }) (gPre D [(cB, .byte), (cC, .char), (cI, .int), (cJ, .long)] [.ref a0, .int x0, .int x1, .int x2, .int x3, .int x4] (zS_3 cB cC cI cJ a0 a1 x5 x6 x7 x8 x9 x10 x11 x12 a2 a3 a4 a5 a6 a7 a8 a9 a10 a11 a12 a13 a14 a15 a16 x13 x14 x15 x16 x17 x18 a17 a18 a19 x19 a20 x20 a21 x21 x22 a22 a23 a24 a25 x23 a26 x24 a27 a28 a29 y0 a30 a31 a32 a33 a34 a35 a36 a37 a38 x25 x26 x27 y1 a39 x28 a40 a41 a42 a43 x29 x30 x31 x32 a1 f0) sz) (va_Qi (fun r u => (((0 ≤ r.toInt ∧ r.toInt ≤ 1600) ∧ (x5.toInt) + (20) ≤ 1600) ∨ (r.toInt = (-1) ∧ (x5.toInt) + (20) > 1600 ∧ (u.2.2.2.1 0).toInt = x5.toInt)) ∧ (0 ≤ (u.2.2.2.1 0).toInt ∧ (u.2.2.2.1 0).toInt ≤ 1600) ∧ (∀ j, 0 ≤ ((u.2.1 0) j).toInt ∧ ((u.2.1 0) j).toInt ≤ 255) ∧ ((r.toInt = -1 ∧ x5.toInt + 20 > 1600 ∧ (u.2.2.2.1 0).toInt = x5.toInt) ∨ (r.toInt = x5.toInt + 20 ∧ x5.toInt + 20 ≤ 1600 ∧ (u.2.2.2.1 0).toInt = x5.toInt + 20)) ∧ (fqQ r.toInt (tau (u.2.1 0) (u.2.2.2.1 0).toInt) (tau f0 x5.toInt) x5.toInt (bys x0 x1 x2 x3 x4))) (gB D (va_A (zS_3 cB cC cI cJ a0 a1 x5 x6 x7 x8 x9 x10 x11 x12 a2 a3 a4 a5 a6 a7 a8 a9 a10 a11 a12 a13 a14 a15 a16 x13 x14 x15 x16 x17 x18 a17 a18 a19 x19 a20 x20 a21 x21 x22 a22 a23 a24 a25 x23 a26 x24 a27 a28 a29 y0 a30 a31 a32 a33 a34 a35 a36 a37 a38 x25 x26 x27 y1 a39 x28 a40 a41 a42 a43 x29 x30 x31 x32 a1 f0) sz) (fun u : gEx => (zS_3 cB cC cI cJ a0 a1 (u.2.2.2.1 0) x6 x7 x8 x9 x10 x11 x12 a2 a3 a4 a5 a6 a7 a8 a9 a10 a11 a12 a13 a14 a15 a16 x13 x14 x15 x16 x17 x18 a17 a18 a19 x19 a20 x20 a21 x21 x22 a22 a23 a24 a25 x23 a26 x24 a27 a28 a29 y0 a30 a31 a32 a33 a34 a35 a36 a37 a38 x25 x26 x27 y1 a39 x28 a40 a41 a42 a43 x29 x30 x31 x32 a1 (u.2.1 0)))) (va_A (zS_3 cB cC cI cJ a0 a1 x5 x6 x7 x8 x9 x10 x11 x12 a2 a3 a4 a5 a6 a7 a8 a9 a10 a11 a12 a13 a14 a15 a16 x13 x14 x15 x16 x17 x18 a17 a18 a19 x19 a20 x20 a21 x21 x22 a22 a23 a24 a25 x23 a26 x24 a27 a28 a29 y0 a30 a31 a32 a33 a34 a35 a36 a37 a38 x25 x26 x27 y1 a39 x28 a40 a41 a42 a43 x29 x30 x31 x32 a1 f0) sz)) 0 0 (va_A (zS_3 cB cC cI cJ a0 a1 x5 x6 x7 x8 x9 x10 x11 x12 a2 a3 a4 a5 a6 a7 a8 a9 a10 a11 a12 a13 a14 a15 a16 x13 x14 x15 x16 x17 x18 a17 a18 a19 x19 a20 x20 a21 x21 x22 a22 a23 a24 a25 x23 a26 x24 a27 a28 a29 y0 a30 a31 a32 a33 a34 a35 a36 a37 a38 x25 x26 x27 y1 a39 x28 a40 a41 a42 a43 x29 x30 x31 x32 a1 f0) sz) := by
  refine gOf_i (by decide +kernel) (Nat.le_of_ble_eq_true rfl) ?_
  intro p e s m args below meth c ls A Q hx hb hts hown hml hN hK hP hD hA hl hret
  replace hown : s.vm.findClass RX12 = some m.cls := hown
  have hS : va_S A s.heap s.heap [] := va_S.rf
  replace hP : va_P D gcl (zS_3 cB cC cI cJ a0 a1 x5 x6 x7 x8 x9 x10 x11 x12 a2 a3 a4 a5 a6 a7 a8 a9 a10 a11 a12 a13 a14 a15 a16 x13 x14 x15 x16 x17 x18 a17 a18 a19 x19 a20 x20 a21 x21 x22 a22 a23 a24 a25 x23 a26 x24 a27 a28 a29 y0 a30 a31 a32 a33 a34 a35 a36 a37 a38 x25 x26 x27 y1 a39 x28 a40 a41 a42 a43 x29 x30 x31 x32 a1 f0) s.heap := hP
  replace hl : lv_has ls 8 [(0, .ref a0), (1, .int x0), (2, .int x1), (3, .int x2), (4, .int x3), (5, .int x4)] := hl
  have rx0 : zBd x0.toInt (-2147483648) 2147483647 := n_rng x0
  have rx1 : zBd x1.toInt (-2147483648) 2147483647 := n_rng x1
  have rx2 : zBd x2.toInt (-2147483648) 2147483647 := n_rng x2
  have rx3 : zBd x3.toInt (-2147483648) 2147483647 := n_rng x3
  have rx4 : zBd x4.toInt (-2147483648) 2147483647 := n_rng x4
  have rx11 : zBd x11.toInt (-2147483648) 2147483647 := n_rng x11
  have rx12 : zBd x12.toInt (-2147483648) 2147483647 := n_rng x12
  have rx18 : zBd x18.toInt (-2147483648) 2147483647 := n_rng x18
  have rx22 : zBd x22.toInt (-2147483648) 2147483647 := n_rng x22
  have ry0 := n_rngL y0
  have ry1 := n_rngL y1
  refine lv_aload_n (pc := 0) hx hb dX12_feed_0 rfl (lv_at hl 0 rfl) ?_
  refine va_get (pc := 1) (ci := 12) (v := .int x5) (C := RX12) (T := TX12) (N := 73) hx hb hts iX12 hown hK hP 0 rfl rfl 1 (by decide) (hts _ tw_1402) (fun _ h9 => h9) rfl dX12_feed_1 ?_
  have bd_h_x5 : 0 ≤ x5.toInt ∧ x5.toInt ≤ 1600 := h_x5
  refine lv_bipush (pc := 4) (v := 20) hx hb dX12_feed_4 (by decide) ?_
  refine b_iadd (pc := 6) hx hb rfl tI_20 (by first | exact (om_1480 h_x5.1) | ((first | omega | (unfold zBd at *; omega)))) (by first | exact (om_1481 h_x5.2) | ((first | omega | (unfold zBd at *; omega)))) dX12_feed_6 (fun x_1 ex_1 => ?_)
  refine lv_sipush (pc := 7) (v := 1600) hx hb dX12_feed_7 (by decide) ?_
  refine b_icmp_le (pc := 10) (tgt := 15) hx hb rfl tI_1600  dX12_feed_10 (by decide) (fun c_2 => ?_) (fun c_2 => ?_)
  ·
    as_aux_lemma =>
      refine lv_iconst (pc := 15) (v := 0) hx hb dX12_feed_15 (by decide) ?_
      refine lv_istore (pc := 16) (lv' := [(6, .int 0), (0, .ref a0), (1, .int x0), (2, .int x1), (3, .int x2), (4, .int x3), (5, .int x4)]) hx hb dX12_feed_16 hl (by decide) rfl (fun ls hl => ?_)
      have lp_11 : ∀ (n : Nat) (x_3 x_5 : Int32) (f_7 : Nat → Int32) (H : Heap) (locs : List Loc) (ls : Array Slot), (0 ≤ x_3.toInt ∧ x_3.toInt ≤ 20) → (0 ≤ x_5.toInt ∧ x_5.toInt ≤ 1600) → (∀ j, 0 ≤ (f_7 j).toInt ∧ (f_7 j).toInt ≤ 255) → (x_5.toInt = x5.toInt + x_3.toInt) → (fdQ9 (tau f_7 x_5.toInt) (tau f0 x5.toInt) x5.toInt (bys x0 x1 x2 x3 x4) x_3.toInt) → (2147483647 - x_3.toInt).toNat < n → va_P D gcl (zS_3 cB cC cI cJ a0 a1 x_5 x6 x7 x8 x9 x10 x11 x12 a2 a3 a4 a5 a6 a7 a8 a9 a10 a11 a12 a13 a14 a15 a16 x13 x14 x15 x16 x17 x18 a17 a18 a19 x19 a20 x20 a21 x21 x22 a22 a23 a24 a25 x23 a26 x24 a27 a28 a29 y0 a30 a31 a32 a33 a34 a35 a36 a37 a38 x25 x26 x27 y1 a39 x28 a40 a41 a42 a43 x29 x30 x31 x32 a1 f_7) H → va_D A (zS_3 cB cC cI cJ a0 a1 x_5 x6 x7 x8 x9 x10 x11 x12 a2 a3 a4 a5 a6 a7 a8 a9 a10 a11 a12 a13 a14 a15 a16 x13 x14 x15 x16 x17 x18 a17 a18 a19 x19 a20 x20 a21 x21 x22 a22 a23 a24 a25 x23 a26 x24 a27 a28 a29 y0 a30 a31 a32 a33 a34 a35 a36 a37 a38 x25 x26 x27 y1 a39 x28 a40 a41 a42 a43 x29 x30 x31 x32 a1 f_7) → va_S A s.heap H locs → lv_has ls 8 [(6, .int x_3), (0, .ref a0), (1, .int x0), (2, .int x1), (3, .int x2), (4, .int x3), (5, .int x4)] → W p l e ({ frames := 0, cells := 0, slots := 0, locals := 0 }) s m args below meth c H locs 0 0 Q (F0 m 18 ls []) := by
        intro n
        induction n with
        | zero => intro x_3 x_5 f_7 H locs ls hi_4 hi_6 hi_8 hi_9 hi_10 hmu; exact absurd hmu (Nat.not_lt_zero _)
        | succ n ih_lp_11 =>
          intro x_3 x_5 f_7 H locs ls hi_4 hi_6 hi_8 hi_9 hi_10 hmu_lp_11 hP hD hS hl
          refine lv_iload (pc := 18) hx hb dX12_feed_18 (lv_at hl 0 rfl) ?_
          refine lv_bipush (pc := 20) (v := 20) hx hb dX12_feed_20 (by decide) ?_
          refine b_icmp_ge (pc := 22) (tgt := 114) hx hb rfl tI_20  dX12_feed_22 (by decide) (fun c_12 => ?_) (fun c_12 => ?_)
          ·
            as_aux_lemma =>
              refine lv_aload_n (pc := 114) hx hb dX12_feed_114 rfl (lv_at hl 1 rfl) ?_
              refine va_get (pc := 115) (ci := 12) (v := .int x_5) (C := RX12) (T := TX12) (N := 73) hx hb hts iX12 hown hK hP 0 rfl rfl 1 (by decide) (hts _ tw_1402) (fun _ h9 => h9) rfl dX12_feed_115 ?_
              have hP9 : va_P D gcl (zS_3 cB cC cI cJ a0 a1 x_5 x6 x7 x8 x9 x10 x11 x12 a2 a3 a4 a5 a6 a7 a8 a9 a10 a11 a12 a13 a14 a15 a16 x13 x14 x15 x16 x17 x18 a17 a18 a19 x19 a20 x20 a21 x21 x22 a22 a23 a24 a25 x23 a26 x24 a27 a28 a29 y0 a30 a31 a32 a33 a34 a35 a36 a37 a38 x25 x26 x27 y1 a39 x28 a40 a41 a42 a43 x29 x30 x31 x32 a1 f_7) H := g_psub hP [0, 1] rfl
              have hD9 : va_D A (zS_3 cB cC cI cJ a0 a1 x_5 x6 x7 x8 x9 x10 x11 x12 a2 a3 a4 a5 a6 a7 a8 a9 a10 a11 a12 a13 a14 a15 a16 x13 x14 x15 x16 x17 x18 a17 a18 a19 x19 a20 x20 a21 x21 x22 a22 a23 a24 a25 x23 a26 x24 a27 a28 a29 y0 a30 a31 a32 a33 a34 a35 a36 a37 a38 x25 x26 x27 y1 a39 x28 a40 a41 a42 a43 x29 x30 x31 x32 a1 f_7) := hD.sub [0, 1] (by decide) rfl
              exact hret x_5 ((fun _ => 0), (fun k => [f_7].getD k (fun _ => 0)), (fun _ => (fun _ => 0)), (fun k => [x_5].getD k 0), (fun _ => 0)) dX12_feed_118 ⟨(show (((0 ≤ x_5.toInt ∧ x_5.toInt ≤ 1600) ∧ (x5.toInt) + (20) ≤ 1600) ∨ (x_5.toInt = (-1) ∧ (x5.toInt) + (20) > 1600 ∧ (x_5 : Int32).toInt = x5.toInt)) from (by first | exact (om_1482 hi_6.1 hi_6.2 ex_1 c_2) | ((first | omega | (unfold zBd at *; omega))))), (show (0 ≤ (x_5 : Int32).toInt ∧ (x_5 : Int32).toInt ≤ 1600) from hi_6), hi_8, (show ((x_5.toInt = -1 ∧ x5.toInt + 20 > 1600 ∧ (x_5 : Int32).toInt = x5.toInt) ∨ (x_5.toInt = x5.toInt + 20 ∧ x5.toInt + 20 ≤ 1600 ∧ (x_5 : Int32).toInt = x5.toInt + 20)) from (by first | exact (om_1483 hi_6.1 hi_9 c_12 hi_4.2 ex_1 c_2) | ((first | omega | (unfold zBd at *; omega))))), (show fqQ x_5.toInt (tau f_7 x_5.toInt) (tau f0 x5.toInt) x5.toInt (bys x0 x1 x2 x3 x4) from (by have e9 : x_3.toInt = 20 := (by (first | omega | (unfold zBd at *; omega))); have q9 := hi_10; rw [e9] at q9; exact fq_yes (by (first | omega | (unfold zBd at *; omega))) q9))⟩ hP9 hD9 hS
          ·
            as_aux_lemma =>
              refine lv_iload (pc := 25) hx hb dX12_feed_25 (lv_at hl 0 rfl) ?_
              refine lv_iconst (pc := 27) (v := 4) hx hb dX12_feed_27 (by decide) ?_
              refine b_icmp_ge (pc := 28) (tgt := 35) hx hb rfl tI_4  dX12_feed_28 (by decide) (fun c_13 => ?_) (fun c_13 => ?_)
              ·
                as_aux_lemma =>
                  refine lv_iload (pc := 35) hx hb dX12_feed_35 (lv_at hl 0 rfl) ?_
                  refine lv_bipush (pc := 37) (v := 8) hx hb dX12_feed_37 (by decide) ?_
                  refine b_icmp_ge (pc := 39) (tgt := 46) hx hb rfl tI_8  dX12_feed_39 (by decide) (fun c_14 => ?_) (fun c_14 => ?_)
                  ·
                    as_aux_lemma =>
                      refine lv_iload (pc := 46) hx hb dX12_feed_46 (lv_at hl 0 rfl) ?_
                      refine lv_bipush (pc := 48) (v := 12) hx hb dX12_feed_48 (by decide) ?_
                      refine b_icmp_ge (pc := 50) (tgt := 57) hx hb rfl tI_12  dX12_feed_50 (by decide) (fun c_15 => ?_) (fun c_15 => ?_)
                      ·
                        as_aux_lemma =>
                          refine lv_iload (pc := 57) hx hb dX12_feed_57 (lv_at hl 0 rfl) ?_
                          refine lv_bipush (pc := 59) (v := 16) hx hb dX12_feed_59 (by decide) ?_
                          refine b_icmp_ge (pc := 61) (tgt := 69) hx hb rfl tI_16  dX12_feed_61 (by decide) (fun c_16 => ?_) (fun c_16 => ?_)
                          ·
                            as_aux_lemma =>
                              refine lv_iload (pc := 69) hx hb dX12_feed_69 (lv_at hl 6 rfl) ?_
                              refine lv_istore (pc := 71) (lv' := [(7, .int x4), (6, .int x_3), (0, .ref a0), (1, .int x0), (2, .int x1), (3, .int x2), (4, .int x3), (5, .int x4)]) hx hb dX12_feed_71 hl (by decide) rfl (fun ls hl => ?_)
                              refine lv_aload_n (pc := 73) hx hb dX12_feed_73 rfl (lv_at hl 2 rfl) ?_
                              refine va_get (pc := 74) (ci := 12) (v := .ref a1) (C := RX12) (T := TX12) (N := 73) hx hb hts iX12 hown hK hP 0 rfl rfl 0 (by decide) (hts _ tw_1401) (fun _ h9 => h9) rfl dX12_feed_74 ?_
                              refine lv_aload_n (pc := 77) hx hb dX12_feed_77 rfl (lv_at hl 2 rfl) ?_
                              refine va_get (pc := 78) (ci := 12) (v := .int x_5) (C := RX12) (T := TX12) (N := 73) hx hb hts iX12 hown hK hP 0 rfl rfl 1 (by decide) (hts _ tw_1402) (fun _ h9 => h9) rfl dX12_feed_78 ?_
                              refine lv_iload (pc := 81) hx hb dX12_feed_81 (lv_at hl 0 rfl) ?_
                              refine lv_bipush (pc := 83) (v := 8) hx hb dX12_feed_83 (by decide) ?_
                              refine lv_iconst (pc := 85) (v := 3) hx hb dX12_feed_85 (by decide) ?_
                              refine lv_iload (pc := 86) hx hb dX12_feed_86 (lv_at hl 1 rfl) ?_
                              as_aux_lemma =>
                                refine lv_iconst (pc := 88) (v := 4) hx hb dX12_feed_88 (by decide) ?_
                                refine c_irem (pc := 89) hx hb rfl tI_4 (by first | exact (om_1484) | ((first | omega | (unfold zBd at *; omega)))) (by first | exact (om_1485 c_16) | ((first | omega | (unfold zBd at *; omega)))) dX12_feed_89 (fun x_17 ex_17 => ?_)
                                refine b_isub (pc := 90) hx hb tI_3 rfl (by (first | omega | (unfold zBd at *; omega))) (by (first | omega | (unfold zBd at *; omega))) dX12_feed_90 (fun x_18 ex_18 => ?_)
                                refine b_imul (pc := 91) hx hb tI_8 rfl (by (first | omega | (unfold zBd at *; omega))) (by (first | omega | (unfold zBd at *; omega))) dX12_feed_91 (fun x_19 ex_19 => ?_)
                                refine lv_ishr (pc := 92) hx hb dX12_feed_92 ?_
                                refine lv_topi (fun x_20 ex_20 => ?_)
                                have rx_20 : zBd x_20.toInt (-2147483648) 2147483647 := n_rng x_20
                                refine lv_sipush (pc := 93) (v := 255) hx hb dX12_feed_93 (by decide) ?_
                                refine lv_iand (pc := 96) hx hb dX12_feed_96 ?_
                                refine lv_topi (fun x_21 ex_21 => ?_)
                                have tx_21 := and255 ex_21
                                refine e_iastore (pc := 97) hx hb hK hP hD hS 1 2 rfl rfl (n_in rfl (by first | exact (om_0 hi_6.1) | ((first | omega | (unfold zBd at *; omega)))) (by first | exact (om_1486 hi_9 c_12 ex_1 c_2) | ((first | omega | (unfold zBd at *; omega))))) dX12_feed_97 (fun f_22 ef_22 H locs hP hD hS => ?_)
                                have hf_22 : (∀ j, 0 ≤ (f_22 j).toInt ∧ (f_22 j).toInt ≤ 255) := (by rw [ef_22]; exact n_upd hi_8 (by (first | omega | (unfold zBd at *; omega))) (by (first | omega | (unfold zBd at *; omega))))
                                replace hP : va_P D gcl (zS_3 cB cC cI cJ a0 a1 x_5 x6 x7 x8 x9 x10 x11 x12 a2 a3 a4 a5 a6 a7 a8 a9 a10 a11 a12 a13 a14 a15 a16 x13 x14 x15 x16 x17 x18 a17 a18 a19 x19 a20 x20 a21 x21 x22 a22 a23 a24 a25 x23 a26 x24 a27 a28 a29 y0 a30 a31 a32 a33 a34 a35 a36 a37 a38 x25 x26 x27 y1 a39 x28 a40 a41 a42 a43 x29 x30 x31 x32 a1 f_22) H := hP
                                replace hD : va_D A (zS_3 cB cC cI cJ a0 a1 x_5 x6 x7 x8 x9 x10 x11 x12 a2 a3 a4 a5 a6 a7 a8 a9 a10 a11 a12 a13 a14 a15 a16 x13 x14 x15 x16 x17 x18 a17 a18 a19 x19 a20 x20 a21 x21 x22 a22 a23 a24 a25 x23 a26 x24 a27 a28 a29 y0 a30 a31 a32 a33 a34 a35 a36 a37 a38 x25 x26 x27 y1 a39 x28 a40 a41 a42 a43 x29 x30 x31 x32 a1 f_22) := hD
                                as_aux_lemma =>
                                  refine lv_aload_n (pc := 98) hx hb dX12_feed_98 rfl (lv_at hl 2 rfl) ?_
                                  refine lv_dup (pc := 99) hx hb dX12_feed_99 rfl ?_
                                  refine va_get (pc := 100) (ci := 12) (v := .int x_5) (C := RX12) (T := TX12) (N := 73) hx hb hts iX12 hown hK hP 0 rfl rfl 1 (by decide) (hts _ tw_1402) (fun _ h9 => h9) rfl dX12_feed_100 ?_
                                  refine lv_iconst (pc := 103) (v := 1) hx hb dX12_feed_103 (by decide) ?_
                                  refine b_iadd (pc := 104) hx hb rfl tI_1 (by first | exact (om_2 hi_6.1) | ((first | omega | (unfold zBd at *; omega)))) (by first | exact (om_24 hi_6.2) | ((first | omega | (unfold zBd at *; omega)))) dX12_feed_104 (fun x_23 ex_23 => ?_)
                                  refine va_put (pc := 105) (ci := 12) (v := .int x_23) (ty := .int) (C := RX12) (T := TX12) (N := 73) hx hb hts iX12 tyX12 tyX12_ok nmX12 hown hK hP hD hS 0 rfl rfl 1 (by decide) (hts _ tw_1402) (fun _ h9 => h9) rfl (by decide +kernel) rfl rfl (Nat.le_of_ble_eq_true rfl) dX12_feed_105 (fun H locs hP hD hS => ?_)
                                  replace hP : va_P D gcl (zS_3 cB cC cI cJ a0 a1 x_23 x6 x7 x8 x9 x10 x11 x12 a2 a3 a4 a5 a6 a7 a8 a9 a10 a11 a12 a13 a14 a15 a16 x13 x14 x15 x16 x17 x18 a17 a18 a19 x19 a20 x20 a21 x21 x22 a22 a23 a24 a25 x23 a26 x24 a27 a28 a29 y0 a30 a31 a32 a33 a34 a35 a36 a37 a38 x25 x26 x27 y1 a39 x28 a40 a41 a42 a43 x29 x30 x31 x32 a1 f_22) H := hP
                                  replace hD : va_D A (zS_3 cB cC cI cJ a0 a1 x_23 x6 x7 x8 x9 x10 x11 x12 a2 a3 a4 a5 a6 a7 a8 a9 a10 a11 a12 a13 a14 a15 a16 x13 x14 x15 x16 x17 x18 a17 a18 a19 x19 a20 x20 a21 x21 x22 a22 a23 a24 a25 x23 a26 x24 a27 a28 a29 y0 a30 a31 a32 a33 a34 a35 a36 a37 a38 x25 x26 x27 y1 a39 x28 a40 a41 a42 a43 x29 x30 x31 x32 a1 f_22) := hD
                                  refine b_iinc (pc := 108) hx hb dX12_feed_108 hl (k := 1) rfl rfl tI_1 (by first | exact (om_1487 c_16) | ((first | omega | (unfold zBd at *; omega)))) (by first | exact (om_1488 c_12) | ((first | omega | (unfold zBd at *; omega)))) (by decide) (fun x_24 ex_24 ls hl => ?_)
                                  replace hl : lv_has ls 8 [(6, .int x_24), (7, .int x4), (0, .ref a0), (1, .int x0), (2, .int x1), (3, .int x2), (4, .int x3), (5, .int x4)] := hl
                                  refine lv_goto (pc := 111) (tgt := 18) hx hb dX12_feed_111 (by decide) ?_
                                  exact ih_lp_11 x_24 x_23 f_22 _ _ ls (by first | exact (om_1489 ex_24 c_16 c_12) | ((first | omega | (unfold zBd at *; omega)))) (by first | exact (om_1490 ex_23 hi_6.1 hi_9 c_12 ex_1 c_2) | ((first | omega | (unfold zBd at *; omega)))) hf_22 (by first | exact (om_79 ex_24 ex_23 hi_9) | ((first | omega | (unfold zBd at *; omega)))) (fdm_step hi_10 (by first | exact (om_63 hi_9) | ((first | omega | (unfold zBd at *; omega)))) (by first | exact (om_0 h_x5.1) | ((first | omega | (unfold zBd at *; omega)))) (by first | exact (om_1485 c_16) | ((first | omega | (unfold zBd at *; omega)))) (by first | exact (om_5 ex_24) | ((first | omega | (unfold zBd at *; omega)))) (e_at ef_22 (by (first | omega | (unfold zBd at *; omega)))) (by first | exact (om_5 ex_23) | ((first | omega | (unfold zBd at *; omega)))) (bm ex_20 tx_21) (bys_at (by (first | omega | (unfold zBd at *; omega))) (by (first | omega | (unfold zBd at *; omega))) (Or.inr (Or.inr (Or.inr (Or.inr (⟨by (first | omega | (unfold zBd at *; omega)), rfl⟩))))))) (by (first | omega | (unfold zBd at *; omega))) hP hD hS (lv_sub hl [0, 2, 3, 4, 5, 6, 7] rfl)
                          ·
                            as_aux_lemma =>
                              refine lv_iload (pc := 64) hx hb dX12_feed_64 (lv_at hl 5 rfl) ?_
                              refine lv_goto (pc := 66) (tgt := 71) hx hb dX12_feed_66 (by decide) ?_
                              refine lv_istore (pc := 71) (lv' := [(7, .int x3), (6, .int x_3), (0, .ref a0), (1, .int x0), (2, .int x1), (3, .int x2), (4, .int x3), (5, .int x4)]) hx hb dX12_feed_71 hl (by decide) rfl (fun ls hl => ?_)
                              refine lv_aload_n (pc := 73) hx hb dX12_feed_73 rfl (lv_at hl 2 rfl) ?_
                              refine va_get (pc := 74) (ci := 12) (v := .ref a1) (C := RX12) (T := TX12) (N := 73) hx hb hts iX12 hown hK hP 0 rfl rfl 0 (by decide) (hts _ tw_1401) (fun _ h9 => h9) rfl dX12_feed_74 ?_
                              refine lv_aload_n (pc := 77) hx hb dX12_feed_77 rfl (lv_at hl 2 rfl) ?_
                              refine va_get (pc := 78) (ci := 12) (v := .int x_5) (C := RX12) (T := TX12) (N := 73) hx hb hts iX12 hown hK hP 0 rfl rfl 1 (by decide) (hts _ tw_1402) (fun _ h9 => h9) rfl dX12_feed_78 ?_
                              refine lv_iload (pc := 81) hx hb dX12_feed_81 (lv_at hl 0 rfl) ?_
                              refine lv_bipush (pc := 83) (v := 8) hx hb dX12_feed_83 (by decide) ?_
                              refine lv_iconst (pc := 85) (v := 3) hx hb dX12_feed_85 (by decide) ?_
                              as_aux_lemma =>
                                refine lv_iload (pc := 86) hx hb dX12_feed_86 (lv_at hl 1 rfl) ?_
                                refine lv_iconst (pc := 88) (v := 4) hx hb dX12_feed_88 (by decide) ?_
                                refine c_irem (pc := 89) hx hb rfl tI_4 (by first | exact (om_1484) | ((first | omega | (unfold zBd at *; omega)))) (by first | exact (om_1491 c_15) | ((first | omega | (unfold zBd at *; omega)))) dX12_feed_89 (fun x_25 ex_25 => ?_)
                                refine b_isub (pc := 90) hx hb tI_3 rfl (by (first | omega | (unfold zBd at *; omega))) (by (first | omega | (unfold zBd at *; omega))) dX12_feed_90 (fun x_26 ex_26 => ?_)
                                refine b_imul (pc := 91) hx hb tI_8 rfl (by (first | omega | (unfold zBd at *; omega))) (by (first | omega | (unfold zBd at *; omega))) dX12_feed_91 (fun x_27 ex_27 => ?_)
                                refine lv_ishr (pc := 92) hx hb dX12_feed_92 ?_
                                refine lv_topi (fun x_28 ex_28 => ?_)
                                have rx_28 : zBd x_28.toInt (-2147483648) 2147483647 := n_rng x_28
                                refine lv_sipush (pc := 93) (v := 255) hx hb dX12_feed_93 (by decide) ?_
                                refine lv_iand (pc := 96) hx hb dX12_feed_96 ?_
                                refine lv_topi (fun x_29 ex_29 => ?_)
                                have tx_29 := and255 ex_29
                                as_aux_lemma =>
                                  refine e_iastore (pc := 97) hx hb hK hP hD hS 1 2 rfl rfl (n_in rfl (by first | exact (om_0 hi_6.1) | ((first | omega | (unfold zBd at *; omega)))) (by first | exact (om_1492 hi_9 c_16 ex_1 c_2) | ((first | omega | (unfold zBd at *; omega))))) dX12_feed_97 (fun f_30 ef_30 H locs hP hD hS => ?_)
                                  have hf_30 : (∀ j, 0 ≤ (f_30 j).toInt ∧ (f_30 j).toInt ≤ 255) := (by rw [ef_30]; exact n_upd hi_8 (by (first | omega | (unfold zBd at *; omega))) (by (first | omega | (unfold zBd at *; omega))))
                                  replace hP : va_P D gcl (zS_3 cB cC cI cJ a0 a1 x_5 x6 x7 x8 x9 x10 x11 x12 a2 a3 a4 a5 a6 a7 a8 a9 a10 a11 a12 a13 a14 a15 a16 x13 x14 x15 x16 x17 x18 a17 a18 a19 x19 a20 x20 a21 x21 x22 a22 a23 a24 a25 x23 a26 x24 a27 a28 a29 y0 a30 a31 a32 a33 a34 a35 a36 a37 a38 x25 x26 x27 y1 a39 x28 a40 a41 a42 a43 x29 x30 x31 x32 a1 f_30) H := hP
                                  replace hD : va_D A (zS_3 cB cC cI cJ a0 a1 x_5 x6 x7 x8 x9 x10 x11 x12 a2 a3 a4 a5 a6 a7 a8 a9 a10 a11 a12 a13 a14 a15 a16 x13 x14 x15 x16 x17 x18 a17 a18 a19 x19 a20 x20 a21 x21 x22 a22 a23 a24 a25 x23 a26 x24 a27 a28 a29 y0 a30 a31 a32 a33 a34 a35 a36 a37 a38 x25 x26 x27 y1 a39 x28 a40 a41 a42 a43 x29 x30 x31 x32 a1 f_30) := hD
                                  refine lv_aload_n (pc := 98) hx hb dX12_feed_98 rfl (lv_at hl 2 rfl) ?_
                                  refine lv_dup (pc := 99) hx hb dX12_feed_99 rfl ?_
                                  refine va_get (pc := 100) (ci := 12) (v := .int x_5) (C := RX12) (T := TX12) (N := 73) hx hb hts iX12 hown hK hP 0 rfl rfl 1 (by decide) (hts _ tw_1402) (fun _ h9 => h9) rfl dX12_feed_100 ?_
                                  refine lv_iconst (pc := 103) (v := 1) hx hb dX12_feed_103 (by decide) ?_
                                  refine b_iadd (pc := 104) hx hb rfl tI_1 (by first | exact (om_2 hi_6.1) | ((first | omega | (unfold zBd at *; omega)))) (by first | exact (om_24 hi_6.2) | ((first | omega | (unfold zBd at *; omega)))) dX12_feed_104 (fun x_31 ex_31 => ?_)
                                  refine va_put (pc := 105) (ci := 12) (v := .int x_31) (ty := .int) (C := RX12) (T := TX12) (N := 73) hx hb hts iX12 tyX12 tyX12_ok nmX12 hown hK hP hD hS 0 rfl rfl 1 (by decide) (hts _ tw_1402) (fun _ h9 => h9) rfl (by decide +kernel) rfl rfl (Nat.le_of_ble_eq_true rfl) dX12_feed_105 (fun H locs hP hD hS => ?_)
                                  replace hP : va_P D gcl (zS_3 cB cC cI cJ a0 a1 x_31 x6 x7 x8 x9 x10 x11 x12 a2 a3 a4 a5 a6 a7 a8 a9 a10 a11 a12 a13 a14 a15 a16 x13 x14 x15 x16 x17 x18 a17 a18 a19 x19 a20 x20 a21 x21 x22 a22 a23 a24 a25 x23 a26 x24 a27 a28 a29 y0 a30 a31 a32 a33 a34 a35 a36 a37 a38 x25 x26 x27 y1 a39 x28 a40 a41 a42 a43 x29 x30 x31 x32 a1 f_30) H := hP
                                  replace hD : va_D A (zS_3 cB cC cI cJ a0 a1 x_31 x6 x7 x8 x9 x10 x11 x12 a2 a3 a4 a5 a6 a7 a8 a9 a10 a11 a12 a13 a14 a15 a16 x13 x14 x15 x16 x17 x18 a17 a18 a19 x19 a20 x20 a21 x21 x22 a22 a23 a24 a25 x23 a26 x24 a27 a28 a29 y0 a30 a31 a32 a33 a34 a35 a36 a37 a38 x25 x26 x27 y1 a39 x28 a40 a41 a42 a43 x29 x30 x31 x32 a1 f_30) := hD
                                  refine b_iinc (pc := 108) hx hb dX12_feed_108 hl (k := 1) rfl rfl tI_1 (by first | exact (om_1493 c_15) | ((first | omega | (unfold zBd at *; omega)))) (by first | exact (om_1494 c_16) | ((first | omega | (unfold zBd at *; omega)))) (by decide) (fun x_32 ex_32 ls hl => ?_)
                                  replace hl : lv_has ls 8 [(6, .int x_32), (7, .int x3), (0, .ref a0), (1, .int x0), (2, .int x1), (3, .int x2), (4, .int x3), (5, .int x4)] := hl
                                  refine lv_goto (pc := 111) (tgt := 18) hx hb dX12_feed_111 (by decide) ?_
                                  exact ih_lp_11 x_32 x_31 f_30 _ _ ls (by first | exact (om_1495 ex_32 c_15 c_16) | ((first | omega | (unfold zBd at *; omega)))) (by first | exact (om_1496 ex_31 hi_6.1 hi_9 c_16 ex_1 c_2) | ((first | omega | (unfold zBd at *; omega)))) hf_30 (by first | exact (om_79 ex_32 ex_31 hi_9) | ((first | omega | (unfold zBd at *; omega)))) (fdm_step hi_10 (by first | exact (om_63 hi_9) | ((first | omega | (unfold zBd at *; omega)))) (by first | exact (om_0 h_x5.1) | ((first | omega | (unfold zBd at *; omega)))) (by first | exact (om_1491 c_15) | ((first | omega | (unfold zBd at *; omega)))) (by first | exact (om_5 ex_32) | ((first | omega | (unfold zBd at *; omega)))) (e_at ef_30 (by (first | omega | (unfold zBd at *; omega)))) (by first | exact (om_5 ex_31) | ((first | omega | (unfold zBd at *; omega)))) (bm ex_28 tx_29) (bys_at (by (first | omega | (unfold zBd at *; omega))) (by (first | omega | (unfold zBd at *; omega))) (Or.inr (Or.inr (Or.inr (Or.inl ⟨by (first | omega | (unfold zBd at *; omega)), by (first | omega | (unfold zBd at *; omega)), rfl⟩)))))) (by (first | omega | (unfold zBd at *; omega))) hP hD hS (lv_sub hl [0, 2, 3, 4, 5, 6, 7] rfl)
                      ·
                        as_aux_lemma =>
                          refine lv_iload_n (pc := 53) hx hb dX12_feed_53 rfl (lv_at hl 4 rfl) ?_
                          refine lv_goto (pc := 54) (tgt := 71) hx hb dX12_feed_54 (by decide) ?_
                          refine lv_istore (pc := 71) (lv' := [(7, .int x2), (6, .int x_3), (0, .ref a0), (1, .int x0), (2, .int x1), (3, .int x2), (4, .int x3), (5, .int x4)]) hx hb dX12_feed_71 hl (by decide) rfl (fun ls hl => ?_)
                          refine lv_aload_n (pc := 73) hx hb dX12_feed_73 rfl (lv_at hl 2 rfl) ?_
                          refine va_get (pc := 74) (ci := 12) (v := .ref a1) (C := RX12) (T := TX12) (N := 73) hx hb hts iX12 hown hK hP 0 rfl rfl 0 (by decide) (hts _ tw_1401) (fun _ h9 => h9) rfl dX12_feed_74 ?_
                          refine lv_aload_n (pc := 77) hx hb dX12_feed_77 rfl (lv_at hl 2 rfl) ?_
                          refine va_get (pc := 78) (ci := 12) (v := .int x_5) (C := RX12) (T := TX12) (N := 73) hx hb hts iX12 hown hK hP 0 rfl rfl 1 (by decide) (hts _ tw_1402) (fun _ h9 => h9) rfl dX12_feed_78 ?_
                          refine lv_iload (pc := 81) hx hb dX12_feed_81 (lv_at hl 0 rfl) ?_
                          refine lv_bipush (pc := 83) (v := 8) hx hb dX12_feed_83 (by decide) ?_
                          refine lv_iconst (pc := 85) (v := 3) hx hb dX12_feed_85 (by decide) ?_
                          as_aux_lemma =>
                            refine lv_iload (pc := 86) hx hb dX12_feed_86 (lv_at hl 1 rfl) ?_
                            refine lv_iconst (pc := 88) (v := 4) hx hb dX12_feed_88 (by decide) ?_
                            refine c_irem (pc := 89) hx hb rfl tI_4 (by first | exact (om_1484) | ((first | omega | (unfold zBd at *; omega)))) (by first | exact (om_1497 c_14) | ((first | omega | (unfold zBd at *; omega)))) dX12_feed_89 (fun x_33 ex_33 => ?_)
                            refine b_isub (pc := 90) hx hb tI_3 rfl (by (first | omega | (unfold zBd at *; omega))) (by (first | omega | (unfold zBd at *; omega))) dX12_feed_90 (fun x_34 ex_34 => ?_)
                            refine b_imul (pc := 91) hx hb tI_8 rfl (by (first | omega | (unfold zBd at *; omega))) (by (first | omega | (unfold zBd at *; omega))) dX12_feed_91 (fun x_35 ex_35 => ?_)
                            refine lv_ishr (pc := 92) hx hb dX12_feed_92 ?_
                            refine lv_topi (fun x_36 ex_36 => ?_)
                            have rx_36 : zBd x_36.toInt (-2147483648) 2147483647 := n_rng x_36
                            refine lv_sipush (pc := 93) (v := 255) hx hb dX12_feed_93 (by decide) ?_
                            refine lv_iand (pc := 96) hx hb dX12_feed_96 ?_
                            refine lv_topi (fun x_37 ex_37 => ?_)
                            have tx_37 := and255 ex_37
                            as_aux_lemma =>
                              refine e_iastore (pc := 97) hx hb hK hP hD hS 1 2 rfl rfl (n_in rfl (by first | exact (om_0 hi_6.1) | ((first | omega | (unfold zBd at *; omega)))) (by first | exact (om_1498 hi_9 c_15 ex_1 c_2) | ((first | omega | (unfold zBd at *; omega))))) dX12_feed_97 (fun f_38 ef_38 H locs hP hD hS => ?_)
                              have hf_38 : (∀ j, 0 ≤ (f_38 j).toInt ∧ (f_38 j).toInt ≤ 255) := (by rw [ef_38]; exact n_upd hi_8 (by (first | omega | (unfold zBd at *; omega))) (by (first | omega | (unfold zBd at *; omega))))
                              replace hP : va_P D gcl (zS_3 cB cC cI cJ a0 a1 x_5 x6 x7 x8 x9 x10 x11 x12 a2 a3 a4 a5 a6 a7 a8 a9 a10 a11 a12 a13 a14 a15 a16 x13 x14 x15 x16 x17 x18 a17 a18 a19 x19 a20 x20 a21 x21 x22 a22 a23 a24 a25 x23 a26 x24 a27 a28 a29 y0 a30 a31 a32 a33 a34 a35 a36 a37 a38 x25 x26 x27 y1 a39 x28 a40 a41 a42 a43 x29 x30 x31 x32 a1 f_38) H := hP
                              replace hD : va_D A (zS_3 cB cC cI cJ a0 a1 x_5 x6 x7 x8 x9 x10 x11 x12 a2 a3 a4 a5 a6 a7 a8 a9 a10 a11 a12 a13 a14 a15 a16 x13 x14 x15 x16 x17 x18 a17 a18 a19 x19 a20 x20 a21 x21 x22 a22 a23 a24 a25 x23 a26 x24 a27 a28 a29 y0 a30 a31 a32 a33 a34 a35 a36 a37 a38 x25 x26 x27 y1 a39 x28 a40 a41 a42 a43 x29 x30 x31 x32 a1 f_38) := hD
                              refine lv_aload_n (pc := 98) hx hb dX12_feed_98 rfl (lv_at hl 2 rfl) ?_
                              refine lv_dup (pc := 99) hx hb dX12_feed_99 rfl ?_
                              refine va_get (pc := 100) (ci := 12) (v := .int x_5) (C := RX12) (T := TX12) (N := 73) hx hb hts iX12 hown hK hP 0 rfl rfl 1 (by decide) (hts _ tw_1402) (fun _ h9 => h9) rfl dX12_feed_100 ?_
                              refine lv_iconst (pc := 103) (v := 1) hx hb dX12_feed_103 (by decide) ?_
                              refine b_iadd (pc := 104) hx hb rfl tI_1 (by first | exact (om_2 hi_6.1) | ((first | omega | (unfold zBd at *; omega)))) (by first | exact (om_24 hi_6.2) | ((first | omega | (unfold zBd at *; omega)))) dX12_feed_104 (fun x_39 ex_39 => ?_)
                              refine va_put (pc := 105) (ci := 12) (v := .int x_39) (ty := .int) (C := RX12) (T := TX12) (N := 73) hx hb hts iX12 tyX12 tyX12_ok nmX12 hown hK hP hD hS 0 rfl rfl 1 (by decide) (hts _ tw_1402) (fun _ h9 => h9) rfl (by decide +kernel) rfl rfl (Nat.le_of_ble_eq_true rfl) dX12_feed_105 (fun H locs hP hD hS => ?_)
                              replace hP : va_P D gcl (zS_3 cB cC cI cJ a0 a1 x_39 x6 x7 x8 x9 x10 x11 x12 a2 a3 a4 a5 a6 a7 a8 a9 a10 a11 a12 a13 a14 a15 a16 x13 x14 x15 x16 x17 x18 a17 a18 a19 x19 a20 x20 a21 x21 x22 a22 a23 a24 a25 x23 a26 x24 a27 a28 a29 y0 a30 a31 a32 a33 a34 a35 a36 a37 a38 x25 x26 x27 y1 a39 x28 a40 a41 a42 a43 x29 x30 x31 x32 a1 f_38) H := hP
                              replace hD : va_D A (zS_3 cB cC cI cJ a0 a1 x_39 x6 x7 x8 x9 x10 x11 x12 a2 a3 a4 a5 a6 a7 a8 a9 a10 a11 a12 a13 a14 a15 a16 x13 x14 x15 x16 x17 x18 a17 a18 a19 x19 a20 x20 a21 x21 x22 a22 a23 a24 a25 x23 a26 x24 a27 a28 a29 y0 a30 a31 a32 a33 a34 a35 a36 a37 a38 x25 x26 x27 y1 a39 x28 a40 a41 a42 a43 x29 x30 x31 x32 a1 f_38) := hD
                              refine b_iinc (pc := 108) hx hb dX12_feed_108 hl (k := 1) rfl rfl tI_1 (by first | exact (om_1499 c_14) | ((first | omega | (unfold zBd at *; omega)))) (by first | exact (om_1500 c_15) | ((first | omega | (unfold zBd at *; omega)))) (by decide) (fun x_40 ex_40 ls hl => ?_)
                              replace hl : lv_has ls 8 [(6, .int x_40), (7, .int x2), (0, .ref a0), (1, .int x0), (2, .int x1), (3, .int x2), (4, .int x3), (5, .int x4)] := hl
                              refine lv_goto (pc := 111) (tgt := 18) hx hb dX12_feed_111 (by decide) ?_
                              exact ih_lp_11 x_40 x_39 f_38 _ _ ls (by first | exact (om_1501 ex_40 c_14 c_15) | ((first | omega | (unfold zBd at *; omega)))) (by first | exact (om_1502 ex_39 hi_6.1 hi_9 c_15 ex_1 c_2) | ((first | omega | (unfold zBd at *; omega)))) hf_38 (by first | exact (om_79 ex_40 ex_39 hi_9) | ((first | omega | (unfold zBd at *; omega)))) (fdm_step hi_10 (by first | exact (om_63 hi_9) | ((first | omega | (unfold zBd at *; omega)))) (by first | exact (om_0 h_x5.1) | ((first | omega | (unfold zBd at *; omega)))) (by first | exact (om_1497 c_14) | ((first | omega | (unfold zBd at *; omega)))) (by first | exact (om_5 ex_40) | ((first | omega | (unfold zBd at *; omega)))) (e_at ef_38 (by (first | omega | (unfold zBd at *; omega)))) (by first | exact (om_5 ex_39) | ((first | omega | (unfold zBd at *; omega)))) (bm ex_36 tx_37) (bys_at (by (first | omega | (unfold zBd at *; omega))) (by (first | omega | (unfold zBd at *; omega))) (Or.inr (Or.inr (Or.inl ⟨by (first | omega | (unfold zBd at *; omega)), by (first | omega | (unfold zBd at *; omega)), rfl⟩))))) (by (first | omega | (unfold zBd at *; omega))) hP hD hS (lv_sub hl [0, 2, 3, 4, 5, 6, 7] rfl)
                  ·
                    as_aux_lemma =>
                      refine lv_iload_n (pc := 42) hx hb dX12_feed_42 rfl (lv_at hl 3 rfl) ?_
                      refine lv_goto (pc := 43) (tgt := 71) hx hb dX12_feed_43 (by decide) ?_
                      refine lv_istore (pc := 71) (lv' := [(7, .int x1), (6, .int x_3), (0, .ref a0), (1, .int x0), (2, .int x1), (3, .int x2), (4, .int x3), (5, .int x4)]) hx hb dX12_feed_71 hl (by decide) rfl (fun ls hl => ?_)
                      refine lv_aload_n (pc := 73) hx hb dX12_feed_73 rfl (lv_at hl 2 rfl) ?_
                      refine va_get (pc := 74) (ci := 12) (v := .ref a1) (C := RX12) (T := TX12) (N := 73) hx hb hts iX12 hown hK hP 0 rfl rfl 0 (by decide) (hts _ tw_1401) (fun _ h9 => h9) rfl dX12_feed_74 ?_
                      refine lv_aload_n (pc := 77) hx hb dX12_feed_77 rfl (lv_at hl 2 rfl) ?_
                      refine va_get (pc := 78) (ci := 12) (v := .int x_5) (C := RX12) (T := TX12) (N := 73) hx hb hts iX12 hown hK hP 0 rfl rfl 1 (by decide) (hts _ tw_1402) (fun _ h9 => h9) rfl dX12_feed_78 ?_
                      refine lv_iload (pc := 81) hx hb dX12_feed_81 (lv_at hl 0 rfl) ?_
                      refine lv_bipush (pc := 83) (v := 8) hx hb dX12_feed_83 (by decide) ?_
                      refine lv_iconst (pc := 85) (v := 3) hx hb dX12_feed_85 (by decide) ?_
                      as_aux_lemma =>
                        refine lv_iload (pc := 86) hx hb dX12_feed_86 (lv_at hl 1 rfl) ?_
                        refine lv_iconst (pc := 88) (v := 4) hx hb dX12_feed_88 (by decide) ?_
                        refine c_irem (pc := 89) hx hb rfl tI_4 (by first | exact (om_1484) | ((first | omega | (unfold zBd at *; omega)))) (by first | exact (om_1503 c_13) | ((first | omega | (unfold zBd at *; omega)))) dX12_feed_89 (fun x_41 ex_41 => ?_)
                        refine b_isub (pc := 90) hx hb tI_3 rfl (by (first | omega | (unfold zBd at *; omega))) (by (first | omega | (unfold zBd at *; omega))) dX12_feed_90 (fun x_42 ex_42 => ?_)
                        refine b_imul (pc := 91) hx hb tI_8 rfl (by (first | omega | (unfold zBd at *; omega))) (by (first | omega | (unfold zBd at *; omega))) dX12_feed_91 (fun x_43 ex_43 => ?_)
                        refine lv_ishr (pc := 92) hx hb dX12_feed_92 ?_
                        refine lv_topi (fun x_44 ex_44 => ?_)
                        have rx_44 : zBd x_44.toInt (-2147483648) 2147483647 := n_rng x_44
                        refine lv_sipush (pc := 93) (v := 255) hx hb dX12_feed_93 (by decide) ?_
                        refine lv_iand (pc := 96) hx hb dX12_feed_96 ?_
                        refine lv_topi (fun x_45 ex_45 => ?_)
                        have tx_45 := and255 ex_45
                        as_aux_lemma =>
                          refine e_iastore (pc := 97) hx hb hK hP hD hS 1 2 rfl rfl (n_in rfl (by first | exact (om_0 hi_6.1) | ((first | omega | (unfold zBd at *; omega)))) (by first | exact (om_1504 hi_9 c_14 ex_1 c_2) | ((first | omega | (unfold zBd at *; omega))))) dX12_feed_97 (fun f_46 ef_46 H locs hP hD hS => ?_)
                          have hf_46 : (∀ j, 0 ≤ (f_46 j).toInt ∧ (f_46 j).toInt ≤ 255) := (by rw [ef_46]; exact n_upd hi_8 (by (first | omega | (unfold zBd at *; omega))) (by (first | omega | (unfold zBd at *; omega))))
                          replace hP : va_P D gcl (zS_3 cB cC cI cJ a0 a1 x_5 x6 x7 x8 x9 x10 x11 x12 a2 a3 a4 a5 a6 a7 a8 a9 a10 a11 a12 a13 a14 a15 a16 x13 x14 x15 x16 x17 x18 a17 a18 a19 x19 a20 x20 a21 x21 x22 a22 a23 a24 a25 x23 a26 x24 a27 a28 a29 y0 a30 a31 a32 a33 a34 a35 a36 a37 a38 x25 x26 x27 y1 a39 x28 a40 a41 a42 a43 x29 x30 x31 x32 a1 f_46) H := hP
                          replace hD : va_D A (zS_3 cB cC cI cJ a0 a1 x_5 x6 x7 x8 x9 x10 x11 x12 a2 a3 a4 a5 a6 a7 a8 a9 a10 a11 a12 a13 a14 a15 a16 x13 x14 x15 x16 x17 x18 a17 a18 a19 x19 a20 x20 a21 x21 x22 a22 a23 a24 a25 x23 a26 x24 a27 a28 a29 y0 a30 a31 a32 a33 a34 a35 a36 a37 a38 x25 x26 x27 y1 a39 x28 a40 a41 a42 a43 x29 x30 x31 x32 a1 f_46) := hD
                          refine lv_aload_n (pc := 98) hx hb dX12_feed_98 rfl (lv_at hl 2 rfl) ?_
                          refine lv_dup (pc := 99) hx hb dX12_feed_99 rfl ?_
                          refine va_get (pc := 100) (ci := 12) (v := .int x_5) (C := RX12) (T := TX12) (N := 73) hx hb hts iX12 hown hK hP 0 rfl rfl 1 (by decide) (hts _ tw_1402) (fun _ h9 => h9) rfl dX12_feed_100 ?_
                          refine lv_iconst (pc := 103) (v := 1) hx hb dX12_feed_103 (by decide) ?_
                          refine b_iadd (pc := 104) hx hb rfl tI_1 (by first | exact (om_2 hi_6.1) | ((first | omega | (unfold zBd at *; omega)))) (by first | exact (om_24 hi_6.2) | ((first | omega | (unfold zBd at *; omega)))) dX12_feed_104 (fun x_47 ex_47 => ?_)
                          refine va_put (pc := 105) (ci := 12) (v := .int x_47) (ty := .int) (C := RX12) (T := TX12) (N := 73) hx hb hts iX12 tyX12 tyX12_ok nmX12 hown hK hP hD hS 0 rfl rfl 1 (by decide) (hts _ tw_1402) (fun _ h9 => h9) rfl (by decide +kernel) rfl rfl (Nat.le_of_ble_eq_true rfl) dX12_feed_105 (fun H locs hP hD hS => ?_)
                          replace hP : va_P D gcl (zS_3 cB cC cI cJ a0 a1 x_47 x6 x7 x8 x9 x10 x11 x12 a2 a3 a4 a5 a6 a7 a8 a9 a10 a11 a12 a13 a14 a15 a16 x13 x14 x15 x16 x17 x18 a17 a18 a19 x19 a20 x20 a21 x21 x22 a22 a23 a24 a25 x23 a26 x24 a27 a28 a29 y0 a30 a31 a32 a33 a34 a35 a36 a37 a38 x25 x26 x27 y1 a39 x28 a40 a41 a42 a43 x29 x30 x31 x32 a1 f_46) H := hP
                          replace hD : va_D A (zS_3 cB cC cI cJ a0 a1 x_47 x6 x7 x8 x9 x10 x11 x12 a2 a3 a4 a5 a6 a7 a8 a9 a10 a11 a12 a13 a14 a15 a16 x13 x14 x15 x16 x17 x18 a17 a18 a19 x19 a20 x20 a21 x21 x22 a22 a23 a24 a25 x23 a26 x24 a27 a28 a29 y0 a30 a31 a32 a33 a34 a35 a36 a37 a38 x25 x26 x27 y1 a39 x28 a40 a41 a42 a43 x29 x30 x31 x32 a1 f_46) := hD
                          refine b_iinc (pc := 108) hx hb dX12_feed_108 hl (k := 1) rfl rfl tI_1 (by first | exact (om_1505 c_13) | ((first | omega | (unfold zBd at *; omega)))) (by first | exact (om_303 c_14) | ((first | omega | (unfold zBd at *; omega)))) (by decide) (fun x_48 ex_48 ls hl => ?_)
                          replace hl : lv_has ls 8 [(6, .int x_48), (7, .int x1), (0, .ref a0), (1, .int x0), (2, .int x1), (3, .int x2), (4, .int x3), (5, .int x4)] := hl
                          refine lv_goto (pc := 111) (tgt := 18) hx hb dX12_feed_111 (by decide) ?_
                          exact ih_lp_11 x_48 x_47 f_46 _ _ ls (by first | exact (om_1506 ex_48 c_13 c_14) | ((first | omega | (unfold zBd at *; omega)))) (by first | exact (om_1507 ex_47 hi_6.1 hi_9 c_14 ex_1 c_2) | ((first | omega | (unfold zBd at *; omega)))) hf_46 (by first | exact (om_79 ex_48 ex_47 hi_9) | ((first | omega | (unfold zBd at *; omega)))) (fdm_step hi_10 (by first | exact (om_63 hi_9) | ((first | omega | (unfold zBd at *; omega)))) (by first | exact (om_0 h_x5.1) | ((first | omega | (unfold zBd at *; omega)))) (by first | exact (om_1503 c_13) | ((first | omega | (unfold zBd at *; omega)))) (by first | exact (om_5 ex_48) | ((first | omega | (unfold zBd at *; omega)))) (e_at ef_46 (by (first | omega | (unfold zBd at *; omega)))) (by first | exact (om_5 ex_47) | ((first | omega | (unfold zBd at *; omega)))) (bm ex_44 tx_45) (bys_at (by (first | omega | (unfold zBd at *; omega))) (by (first | omega | (unfold zBd at *; omega))) (Or.inr (Or.inl ⟨by (first | omega | (unfold zBd at *; omega)), by (first | omega | (unfold zBd at *; omega)), rfl⟩)))) (by (first | omega | (unfold zBd at *; omega))) hP hD hS (lv_sub hl [0, 2, 3, 4, 5, 6, 7] rfl)
              ·
                as_aux_lemma =>
                  refine lv_iload_n (pc := 31) hx hb dX12_feed_31 rfl (lv_at hl 2 rfl) ?_
                  refine lv_goto (pc := 32) (tgt := 71) hx hb dX12_feed_32 (by decide) ?_
                  refine lv_istore (pc := 71) (lv' := [(7, .int x0), (6, .int x_3), (0, .ref a0), (1, .int x0), (2, .int x1), (3, .int x2), (4, .int x3), (5, .int x4)]) hx hb dX12_feed_71 hl (by decide) rfl (fun ls hl => ?_)
                  refine lv_aload_n (pc := 73) hx hb dX12_feed_73 rfl (lv_at hl 2 rfl) ?_
                  refine va_get (pc := 74) (ci := 12) (v := .ref a1) (C := RX12) (T := TX12) (N := 73) hx hb hts iX12 hown hK hP 0 rfl rfl 0 (by decide) (hts _ tw_1401) (fun _ h9 => h9) rfl dX12_feed_74 ?_
                  refine lv_aload_n (pc := 77) hx hb dX12_feed_77 rfl (lv_at hl 2 rfl) ?_
                  refine va_get (pc := 78) (ci := 12) (v := .int x_5) (C := RX12) (T := TX12) (N := 73) hx hb hts iX12 hown hK hP 0 rfl rfl 1 (by decide) (hts _ tw_1402) (fun _ h9 => h9) rfl dX12_feed_78 ?_
                  refine lv_iload (pc := 81) hx hb dX12_feed_81 (lv_at hl 0 rfl) ?_
                  refine lv_bipush (pc := 83) (v := 8) hx hb dX12_feed_83 (by decide) ?_
                  refine lv_iconst (pc := 85) (v := 3) hx hb dX12_feed_85 (by decide) ?_
                  as_aux_lemma =>
                    refine lv_iload (pc := 86) hx hb dX12_feed_86 (lv_at hl 1 rfl) ?_
                    refine lv_iconst (pc := 88) (v := 4) hx hb dX12_feed_88 (by decide) ?_
                    refine c_irem (pc := 89) hx hb rfl tI_4 (by first | exact (om_1484) | ((first | omega | (unfold zBd at *; omega)))) (by first | exact (om_0 hi_4.1) | ((first | omega | (unfold zBd at *; omega)))) dX12_feed_89 (fun x_49 ex_49 => ?_)
                    refine b_isub (pc := 90) hx hb tI_3 rfl (by (first | omega | (unfold zBd at *; omega))) (by (first | omega | (unfold zBd at *; omega))) dX12_feed_90 (fun x_50 ex_50 => ?_)
                    refine b_imul (pc := 91) hx hb tI_8 rfl (by (first | omega | (unfold zBd at *; omega))) (by (first | omega | (unfold zBd at *; omega))) dX12_feed_91 (fun x_51 ex_51 => ?_)
                    refine lv_ishr (pc := 92) hx hb dX12_feed_92 ?_
                    refine lv_topi (fun x_52 ex_52 => ?_)
                    have rx_52 : zBd x_52.toInt (-2147483648) 2147483647 := n_rng x_52
                    refine lv_sipush (pc := 93) (v := 255) hx hb dX12_feed_93 (by decide) ?_
                    refine lv_iand (pc := 96) hx hb dX12_feed_96 ?_
                    refine lv_topi (fun x_53 ex_53 => ?_)
                    have tx_53 := and255 ex_53
                    as_aux_lemma =>
                      refine e_iastore (pc := 97) hx hb hK hP hD hS 1 2 rfl rfl (n_in rfl (by first | exact (om_0 hi_6.1) | ((first | omega | (unfold zBd at *; omega)))) (by first | exact (om_1508 hi_9 c_13 ex_1 c_2) | ((first | omega | (unfold zBd at *; omega))))) dX12_feed_97 (fun f_54 ef_54 H locs hP hD hS => ?_)
                      have hf_54 : (∀ j, 0 ≤ (f_54 j).toInt ∧ (f_54 j).toInt ≤ 255) := (by rw [ef_54]; exact n_upd hi_8 (by (first | omega | (unfold zBd at *; omega))) (by (first | omega | (unfold zBd at *; omega))))
                      replace hP : va_P D gcl (zS_3 cB cC cI cJ a0 a1 x_5 x6 x7 x8 x9 x10 x11 x12 a2 a3 a4 a5 a6 a7 a8 a9 a10 a11 a12 a13 a14 a15 a16 x13 x14 x15 x16 x17 x18 a17 a18 a19 x19 a20 x20 a21 x21 x22 a22 a23 a24 a25 x23 a26 x24 a27 a28 a29 y0 a30 a31 a32 a33 a34 a35 a36 a37 a38 x25 x26 x27 y1 a39 x28 a40 a41 a42 a43 x29 x30 x31 x32 a1 f_54) H := hP
                      replace hD : va_D A (zS_3 cB cC cI cJ a0 a1 x_5 x6 x7 x8 x9 x10 x11 x12 a2 a3 a4 a5 a6 a7 a8 a9 a10 a11 a12 a13 a14 a15 a16 x13 x14 x15 x16 x17 x18 a17 a18 a19 x19 a20 x20 a21 x21 x22 a22 a23 a24 a25 x23 a26 x24 a27 a28 a29 y0 a30 a31 a32 a33 a34 a35 a36 a37 a38 x25 x26 x27 y1 a39 x28 a40 a41 a42 a43 x29 x30 x31 x32 a1 f_54) := hD
                      refine lv_aload_n (pc := 98) hx hb dX12_feed_98 rfl (lv_at hl 2 rfl) ?_
                      refine lv_dup (pc := 99) hx hb dX12_feed_99 rfl ?_
                      refine va_get (pc := 100) (ci := 12) (v := .int x_5) (C := RX12) (T := TX12) (N := 73) hx hb hts iX12 hown hK hP 0 rfl rfl 1 (by decide) (hts _ tw_1402) (fun _ h9 => h9) rfl dX12_feed_100 ?_
                      refine lv_iconst (pc := 103) (v := 1) hx hb dX12_feed_103 (by decide) ?_
                      refine b_iadd (pc := 104) hx hb rfl tI_1 (by first | exact (om_2 hi_6.1) | ((first | omega | (unfold zBd at *; omega)))) (by first | exact (om_24 hi_6.2) | ((first | omega | (unfold zBd at *; omega)))) dX12_feed_104 (fun x_55 ex_55 => ?_)
                      refine va_put (pc := 105) (ci := 12) (v := .int x_55) (ty := .int) (C := RX12) (T := TX12) (N := 73) hx hb hts iX12 tyX12 tyX12_ok nmX12 hown hK hP hD hS 0 rfl rfl 1 (by decide) (hts _ tw_1402) (fun _ h9 => h9) rfl (by decide +kernel) rfl rfl (Nat.le_of_ble_eq_true rfl) dX12_feed_105 (fun H locs hP hD hS => ?_)
                      replace hP : va_P D gcl (zS_3 cB cC cI cJ a0 a1 x_55 x6 x7 x8 x9 x10 x11 x12 a2 a3 a4 a5 a6 a7 a8 a9 a10 a11 a12 a13 a14 a15 a16 x13 x14 x15 x16 x17 x18 a17 a18 a19 x19 a20 x20 a21 x21 x22 a22 a23 a24 a25 x23 a26 x24 a27 a28 a29 y0 a30 a31 a32 a33 a34 a35 a36 a37 a38 x25 x26 x27 y1 a39 x28 a40 a41 a42 a43 x29 x30 x31 x32 a1 f_54) H := hP
                      replace hD : va_D A (zS_3 cB cC cI cJ a0 a1 x_55 x6 x7 x8 x9 x10 x11 x12 a2 a3 a4 a5 a6 a7 a8 a9 a10 a11 a12 a13 a14 a15 a16 x13 x14 x15 x16 x17 x18 a17 a18 a19 x19 a20 x20 a21 x21 x22 a22 a23 a24 a25 x23 a26 x24 a27 a28 a29 y0 a30 a31 a32 a33 a34 a35 a36 a37 a38 x25 x26 x27 y1 a39 x28 a40 a41 a42 a43 x29 x30 x31 x32 a1 f_54) := hD
                      refine b_iinc (pc := 108) hx hb dX12_feed_108 hl (k := 1) rfl rfl tI_1 (by first | exact (om_2 hi_4.1) | ((first | omega | (unfold zBd at *; omega)))) (by first | exact (om_77 c_13) | ((first | omega | (unfold zBd at *; omega)))) (by decide) (fun x_56 ex_56 ls hl => ?_)
                      replace hl : lv_has ls 8 [(6, .int x_56), (7, .int x0), (0, .ref a0), (1, .int x0), (2, .int x1), (3, .int x2), (4, .int x3), (5, .int x4)] := hl
                      refine lv_goto (pc := 111) (tgt := 18) hx hb dX12_feed_111 (by decide) ?_
                      exact ih_lp_11 x_56 x_55 f_54 _ _ ls (by first | exact (om_1509 ex_56 hi_4.1 c_13) | ((first | omega | (unfold zBd at *; omega)))) (by first | exact (om_1510 ex_55 hi_6.1 hi_9 c_13 ex_1 c_2) | ((first | omega | (unfold zBd at *; omega)))) hf_54 (by first | exact (om_79 ex_56 ex_55 hi_9) | ((first | omega | (unfold zBd at *; omega)))) (fdm_step hi_10 (by first | exact (om_63 hi_9) | ((first | omega | (unfold zBd at *; omega)))) (by first | exact (om_0 h_x5.1) | ((first | omega | (unfold zBd at *; omega)))) (by first | exact (om_0 hi_4.1) | ((first | omega | (unfold zBd at *; omega)))) (by first | exact (om_5 ex_56) | ((first | omega | (unfold zBd at *; omega)))) (e_at ef_54 (by (first | omega | (unfold zBd at *; omega)))) (by first | exact (om_5 ex_55) | ((first | omega | (unfold zBd at *; omega)))) (bm ex_52 tx_53) (bys_at (by (first | omega | (unfold zBd at *; omega))) (by (first | omega | (unfold zBd at *; omega))) (Or.inl ⟨by (first | omega | (unfold zBd at *; omega)), rfl⟩))) (by (first | omega | (unfold zBd at *; omega))) hP hD hS (lv_sub hl [0, 2, 3, 4, 5, 6, 7] rfl)
      exact lp_11 _ 0 x5 f0 _ _ ls (n_c tI_0 (by decide)) h_x5 hf_f0 (by have q := tI_0; (first | omega | (unfold zBd at *; omega))) (fd_0k tI_0) (Nat.lt_succ_self _) hP hD hS (lv_sub hl [0, 1, 2, 3, 4, 5, 6] rfl)
  ·
    as_aux_lemma =>
      refine lv_iconst (pc := 13) (v := (-1)) hx hb dX12_feed_13 (by decide) ?_
      have hP9 : va_P D gcl (zS_3 cB cC cI cJ a0 a1 x5 x6 x7 x8 x9 x10 x11 x12 a2 a3 a4 a5 a6 a7 a8 a9 a10 a11 a12 a13 a14 a15 a16 x13 x14 x15 x16 x17 x18 a17 a18 a19 x19 a20 x20 a21 x21 x22 a22 a23 a24 a25 x23 a26 x24 a27 a28 a29 y0 a30 a31 a32 a33 a34 a35 a36 a37 a38 x25 x26 x27 y1 a39 x28 a40 a41 a42 a43 x29 x30 x31 x32 a1 f0) s.heap := g_psub hP [0, 1] rfl
      have hD9 : va_D A (zS_3 cB cC cI cJ a0 a1 x5 x6 x7 x8 x9 x10 x11 x12 a2 a3 a4 a5 a6 a7 a8 a9 a10 a11 a12 a13 a14 a15 a16 x13 x14 x15 x16 x17 x18 a17 a18 a19 x19 a20 x20 a21 x21 x22 a22 a23 a24 a25 x23 a26 x24 a27 a28 a29 y0 a30 a31 a32 a33 a34 a35 a36 a37 a38 x25 x26 x27 y1 a39 x28 a40 a41 a42 a43 x29 x30 x31 x32 a1 f0) := hD.sub [0, 1] (by decide) rfl
      have k9 := tI_m1
      exact hret (-1) ((fun _ => 0), (fun k => [f0].getD k (fun _ => 0)), (fun _ => (fun _ => 0)), (fun k => [x5].getD k 0), (fun _ => 0)) dX12_feed_14 ⟨(show (((0 ≤ ((-1) : Int32).toInt ∧ ((-1) : Int32).toInt ≤ 1600) ∧ (x5.toInt) + (20) ≤ 1600) ∨ (((-1) : Int32).toInt = (-1) ∧ (x5.toInt) + (20) > 1600 ∧ (x5 : Int32).toInt = x5.toInt)) from (by first | exact (om_1511 tI_m1 ex_1 c_2) | (have k9 := tI_m1; (first | omega | (unfold zBd at *; omega))))), (show (0 ≤ (x5 : Int32).toInt ∧ (x5 : Int32).toInt ≤ 1600) from h_x5), hf_f0, (show ((((-1) : Int32).toInt = -1 ∧ x5.toInt + 20 > 1600 ∧ (x5 : Int32).toInt = x5.toInt) ∨ (((-1) : Int32).toInt = x5.toInt + 20 ∧ x5.toInt + 20 ≤ 1600 ∧ (x5 : Int32).toInt = x5.toInt + 20)) from (by first | exact (om_1512 tI_m1 ex_1 c_2 h_x5.1) | (have k9 := tI_m1; (first | omega | (unfold zBd at *; omega))))), (show fqQ ((-1) : Int32).toInt (tau f0 x5.toInt) (tau f0 x5.toInt) x5.toInt (bys x0 x1 x2 x3 x4) from fq_no (by first | exact (om_65 tI_m1) | ((first | omega | (unfold zBd at *; omega)))))⟩ hP9 hD9 hS
theorem om_1513 {a b c : Int} (h0 : (a = 0)) (h1 : (b < 0)) : (((a = 0 ∧ b < 0 ∧ c = c) ∨ (a = 1 ∧ b ≥ 0 ∧ b ≤ c ∧ c = b) ∨ (a = 0 ∧ b ≥ 0 ∧ b > c ∧ c = c))) := by omega
theorem om_1514 {a b c : Int} (h0 : (a = 1)) (h1 : (b ≥ 0)) (h2 : (b ≤ c)) : (((a = 0 ∧ b < 0 ∧ b = c) ∨ (a = 1 ∧ b ≥ 0 ∧ b ≤ c ∧ b = b) ∨ (a = 0 ∧ b ≥ 0 ∧ b > c ∧ b = c))) := by omega
theorem om_1515 {a b : Int} (h0 : (a ≥ 0)) (h1 : (a ≤ b)) (h2 : (b ≤ 1600)) : ((0 ≤ a ∧ a ≤ 1600)) := by omega
theorem om_1516 {a b c : Int} (h0 : (a = 0)) (h1 : (b > c)) : (((a = 0 ∧ b < 0 ∧ c = c) ∨ (a = 1 ∧ b ≥ 0 ∧ b ≤ c ∧ c = b) ∨ (a = 0 ∧ b ≥ 0 ∧ b > c ∧ c = c))) := by omega
set_option maxHeartbeats 4000000 in
set_option maxRecDepth 100000 in
theorem k_X12_end (l : Launch) (D : va_G) (cB cC cI cJ : ClassId) (sz : Nat) (a0 a1 a2 a3 a4 a5 a6 a7 a8 a9 a10 a11 a12 a13 a14 a15 a16 a17 a18 a19 a20 a21 a22 a23 a24 a25 a26 a27 a28 a29 a30 a31 a32 a33 a34 a35 a36 a37 a38 a39 a40 a41 a42 a43 : Nat) (x0 x1 x2 x3 x4 x5 x6 x7 x8 x9 x10 x11 x12 x13 x14 x15 x16 x17 x18 x19 x20 x21 x22 x23 x24 x25 x26 x27 x28 : Int32) (y0 y1 : Int64) (h_x1 : zBd x1.toInt 0 1600) (h_x2 : zBd x2.toInt 0 1600) (h_x3 : zBd x3.toInt 0 1600) (h_x4 : zBd x4.toInt (-1) 1600) (h_x5 : zBd x5.toInt 0 4) (h_x6 : zBd x6.toInt (-1) 1600) (h_x9 : zBd x9.toInt 0 8) (h_x10 : zBd x10.toInt 0 5) (h_x11 : zBd x11.toInt 0 6) (h_x12 : zBd x12.toInt 0 6) (h_x13 : zBd x13.toInt 0 16) (h_x15 : zBd x15.toInt 0 60) (h_x16 : zBd x16.toInt 0 1600) (h_x17 : zBd x17.toInt 0 1700) (h_x19 : zBd x19.toInt 0 1700) (h_x20 : zBd x20.toInt 0 1700) (h_x21 : zBd x21.toInt 0 200) (h_x22 : zBd x22.toInt 0 40) (h_x23 : zBd x23.toInt 0 40) (h_x24 : zBd x24.toInt 0 1) (h_x25 : zBd x25.toInt 0 14) (h_x26 : zBd x26.toInt 0 200) (h_x27 : zBd x27.toInt 0 40) (h_x28 : zBd x28.toInt 0 40) (hr_a0_0 : (x22.toInt ≤ x21.toInt)) (hr_a0_1 : (x21.toInt + x23.toInt ≤ 200)) (hr_a0_2 : (x10.toInt = 0 ∨ 2 ≤ x9.toInt)) : Met l yX12_end (.code yX12_end cX12_end 2 (some .boolean) :: lw_gd) ({ frames := 0, cells := 0, slots := 0, locals := 0 }) (gPre D [(cB, .byte), (cC, .char), (cI, .int), (cJ, .long)] [.ref a0, .int x0] (zS_4 cB cC cI cJ a0 a1 x1 x2 x3 x4 x5 x6 x7 x8 a2 a3 a4 a5 a6 a7 a8 a9 a10 a11 a12 a13 a14 a15 a16 x9 x10 x11 x12 x13 x14 a17 a18 a19 x15 a20 x16 a21 x17 x18 a22 a23 a24 a25 x19 a26 x20 a27 a28 a29 y0 a30 a31 a32 a33 a34 a35 a36 a37 a38 x21 x22 x23 y1 a39 x24 a40 a41 a42 a43 x25 x26 x27 x28) sz) (va_Qi (fun r u => ((r.toInt = 0 ∧ x0.toInt < 0 ∧ (u.2.2.2.1 0).toInt = x1.toInt) ∨ (r.toInt = 1 ∧ x0.toInt ≥ 0 ∧ x0.toInt ≤ x1.toInt ∧ (u.2.2.2.1 0).toInt = x0.toInt) ∨ (r.toInt = 0 ∧ x0.toInt ≥ 0 ∧ x0.toInt > x1.toInt ∧ (u.2.2.2.1 0).toInt = x1.toInt)) ∧ (0 ≤ (u.2.2.2.1 0).toInt ∧ (u.2.2.2.1 0).toInt ≤ 1600)) (gB D (va_A (zS_4 cB cC cI cJ a0 a1 x1 x2 x3 x4 x5 x6 x7 x8 a2 a3 a4 a5 a6 a7 a8 a9 a10 a11 a12 a13 a14 a15 a16 x9 x10 x11 x12 x13 x14 a17 a18 a19 x15 a20 x16 a21 x17 x18 a22 a23 a24 a25 x19 a26 x20 a27 a28 a29 y0 a30 a31 a32 a33 a34 a35 a36 a37 a38 x21 x22 x23 y1 a39 x24 a40 a41 a42 a43 x25 x26 x27 x28) sz) (fun u : gEx => (zS_4 cB cC cI cJ a0 a1 (u.2.2.2.1 0) x2 x3 x4 x5 x6 x7 x8 a2 a3 a4 a5 a6 a7 a8 a9 a10 a11 a12 a13 a14 a15 a16 x9 x10 x11 x12 x13 x14 a17 a18 a19 x15 a20 x16 a21 x17 x18 a22 a23 a24 a25 x19 a26 x20 a27 a28 a29 y0 a30 a31 a32 a33 a34 a35 a36 a37 a38 x21 x22 x23 y1 a39 x24 a40 a41 a42 a43 x25 x26 x27 x28))) (va_A (zS_4 cB cC cI cJ a0 a1 x1 x2 x3 x4 x5 x6 x7 x8 a2 a3 a4 a5 a6 a7 a8 a9 a10 a11 a12 a13 a14 a15 a16 x9 x10 x11 x12 x13 x14 a17 a18 a19 x15 a20 x16 a21 x17 x18 a22 a23 a24 a25 x19 a26 x20 a27 a28 a29 y0 a30 a31 a32 a33 a34 a35 a36 a37 a38 x21 x22 x23 y1 a39 x24 a40 a41 a42 a43 x25 x26 x27 x28) sz)) 0 0 (va_A (zS_4 cB cC cI cJ a0 a1 x1 x2 x3 x4 x5 x6 x7 x8 a2 a3 a4 a5 a6 a7 a8 a9 a10 a11 a12 a13 a14 a15 a16 x9 x10 x11 x12 x13 x14 a17 a18 a19 x15 a20 x16 a21 x17 x18 a22 a23 a24 a25 x19 a26 x20 a27 a28 a29 y0 a30 a31 a32 a33 a34 a35 a36 a37 a38 x21 x22 x23 y1 a39 x24 a40 a41 a42 a43 x25 x26 x27 x28) sz) := by
  refine gOf_z (by decide +kernel) (Nat.le_of_ble_eq_true rfl) ?_
  intro p e s m args below meth c ls A Q hx hb hts hown hml hN hK hP hD hA hl hret
  replace hown : s.vm.findClass RX12 = some m.cls := hown
  have hS : va_S A s.heap s.heap [] := va_S.rf
  replace hP : va_P D gcl (zS_4 cB cC cI cJ a0 a1 x1 x2 x3 x4 x5 x6 x7 x8 a2 a3 a4 a5 a6 a7 a8 a9 a10 a11 a12 a13 a14 a15 a16 x9 x10 x11 x12 x13 x14 a17 a18 a19 x15 a20 x16 a21 x17 x18 a22 a23 a24 a25 x19 a26 x20 a27 a28 a29 y0 a30 a31 a32 a33 a34 a35 a36 a37 a38 x21 x22 x23 y1 a39 x24 a40 a41 a42 a43 x25 x26 x27 x28) s.heap := hP
  replace hl : lv_has ls 2 [(0, .ref a0), (1, .int x0)] := hl
  have rx0 : zBd x0.toInt (-2147483648) 2147483647 := n_rng x0
  have rx7 : zBd x7.toInt (-2147483648) 2147483647 := n_rng x7
  have rx8 : zBd x8.toInt (-2147483648) 2147483647 := n_rng x8
  have rx14 : zBd x14.toInt (-2147483648) 2147483647 := n_rng x14
  have rx18 : zBd x18.toInt (-2147483648) 2147483647 := n_rng x18
  have ry0 := n_rngL y0
  have ry1 := n_rngL y1
  refine lv_iload_n (pc := 0) hx hb dX12_end_0 rfl (lv_at hl 1 rfl) ?_
  refine b_if_lt (pc := 1) (tgt := 12) hx hb rfl  dX12_end_1 (by decide) (fun c_1 => ?_) (fun c_1 => ?_)
  ·
    as_aux_lemma =>
      refine lv_iconst (pc := 12) (v := 0) hx hb dX12_end_12 (by decide) ?_
      have hP9 : va_P D gcl (zS_4 cB cC cI cJ a0 a1 x1 x2 x3 x4 x5 x6 x7 x8 a2 a3 a4 a5 a6 a7 a8 a9 a10 a11 a12 a13 a14 a15 a16 x9 x10 x11 x12 x13 x14 a17 a18 a19 x15 a20 x16 a21 x17 x18 a22 a23 a24 a25 x19 a26 x20 a27 a28 a29 y0 a30 a31 a32 a33 a34 a35 a36 a37 a38 x21 x22 x23 y1 a39 x24 a40 a41 a42 a43 x25 x26 x27 x28) s.heap := g_psub hP [0] rfl
      have hD9 : va_D A (zS_4 cB cC cI cJ a0 a1 x1 x2 x3 x4 x5 x6 x7 x8 a2 a3 a4 a5 a6 a7 a8 a9 a10 a11 a12 a13 a14 a15 a16 x9 x10 x11 x12 x13 x14 a17 a18 a19 x15 a20 x16 a21 x17 x18 a22 a23 a24 a25 x19 a26 x20 a27 a28 a29 y0 a30 a31 a32 a33 a34 a35 a36 a37 a38 x21 x22 x23 y1 a39 x24 a40 a41 a42 a43 x25 x26 x27 x28) := hD.sub [0] (by decide) rfl
      exact hret 0 ((fun _ => 0), (fun _ => (fun _ => 0)), (fun _ => (fun _ => 0)), (fun k => [x1].getD k 0), (fun _ => 0)) dX12_end_13 ⟨(Or.inl tI_0), ⟨(show (((0 : Int32).toInt = 0 ∧ x0.toInt < 0 ∧ (x1 : Int32).toInt = x1.toInt) ∨ ((0 : Int32).toInt = 1 ∧ x0.toInt ≥ 0 ∧ x0.toInt ≤ x1.toInt ∧ (x1 : Int32).toInt = x0.toInt) ∨ ((0 : Int32).toInt = 0 ∧ x0.toInt ≥ 0 ∧ x0.toInt > x1.toInt ∧ (x1 : Int32).toInt = x1.toInt)) from (by first | exact (om_1513 tI_0 c_1) | (have k9 := tI_0; (first | omega | (unfold zBd at *; omega))))), (show (0 ≤ (x1 : Int32).toInt ∧ (x1 : Int32).toInt ≤ 1600) from h_x1)⟩⟩ hP9 hD9 hS
  ·
    as_aux_lemma =>
      refine lv_iload_n (pc := 4) hx hb dX12_end_4 rfl (lv_at hl 1 rfl) ?_
      refine lv_aload_n (pc := 5) hx hb dX12_end_5 rfl (lv_at hl 0 rfl) ?_
      refine va_get (pc := 6) (ci := 12) (v := .int x1) (C := RX12) (T := TX12) (N := 73) hx hb hts iX12 hown hK hP 0 rfl rfl 1 (by decide) (hts _ tw_1402) (fun _ h9 => h9) rfl dX12_end_6 ?_
      have bd_h_x1 : 0 ≤ x1.toInt ∧ x1.toInt ≤ 1600 := h_x1
      refine b_icmp_le (pc := 9) (tgt := 14) hx hb rfl rfl  dX12_end_9 (by decide) (fun c_2 => ?_) (fun c_2 => ?_)
      ·
        as_aux_lemma =>
          refine lv_aload_n (pc := 14) hx hb dX12_end_14 rfl (lv_at hl 0 rfl) ?_
          refine lv_iload_n (pc := 15) hx hb dX12_end_15 rfl (lv_at hl 1 rfl) ?_
          refine va_put (pc := 16) (ci := 12) (v := .int x0) (ty := .int) (C := RX12) (T := TX12) (N := 73) hx hb hts iX12 tyX12 tyX12_ok nmX12 hown hK hP hD hS 0 rfl rfl 1 (by decide) (hts _ tw_1402) (fun _ h9 => h9) rfl (by decide +kernel) rfl rfl (Nat.le_of_ble_eq_true rfl) dX12_end_16 (fun H locs hP hD hS => ?_)
          replace hP : va_P D gcl (zS_4 cB cC cI cJ a0 a1 x0 x2 x3 x4 x5 x6 x7 x8 a2 a3 a4 a5 a6 a7 a8 a9 a10 a11 a12 a13 a14 a15 a16 x9 x10 x11 x12 x13 x14 a17 a18 a19 x15 a20 x16 a21 x17 x18 a22 a23 a24 a25 x19 a26 x20 a27 a28 a29 y0 a30 a31 a32 a33 a34 a35 a36 a37 a38 x21 x22 x23 y1 a39 x24 a40 a41 a42 a43 x25 x26 x27 x28) H := hP
          replace hD : va_D A (zS_4 cB cC cI cJ a0 a1 x0 x2 x3 x4 x5 x6 x7 x8 a2 a3 a4 a5 a6 a7 a8 a9 a10 a11 a12 a13 a14 a15 a16 x9 x10 x11 x12 x13 x14 a17 a18 a19 x15 a20 x16 a21 x17 x18 a22 a23 a24 a25 x19 a26 x20 a27 a28 a29 y0 a30 a31 a32 a33 a34 a35 a36 a37 a38 x21 x22 x23 y1 a39 x24 a40 a41 a42 a43 x25 x26 x27 x28) := hD
          refine lv_iconst (pc := 19) (v := 1) hx hb dX12_end_19 (by decide) ?_
          have hP9 : va_P D gcl (zS_4 cB cC cI cJ a0 a1 x0 x2 x3 x4 x5 x6 x7 x8 a2 a3 a4 a5 a6 a7 a8 a9 a10 a11 a12 a13 a14 a15 a16 x9 x10 x11 x12 x13 x14 a17 a18 a19 x15 a20 x16 a21 x17 x18 a22 a23 a24 a25 x19 a26 x20 a27 a28 a29 y0 a30 a31 a32 a33 a34 a35 a36 a37 a38 x21 x22 x23 y1 a39 x24 a40 a41 a42 a43 x25 x26 x27 x28) H := g_psub hP [0] rfl
          have hD9 : va_D A (zS_4 cB cC cI cJ a0 a1 x0 x2 x3 x4 x5 x6 x7 x8 a2 a3 a4 a5 a6 a7 a8 a9 a10 a11 a12 a13 a14 a15 a16 x9 x10 x11 x12 x13 x14 a17 a18 a19 x15 a20 x16 a21 x17 x18 a22 a23 a24 a25 x19 a26 x20 a27 a28 a29 y0 a30 a31 a32 a33 a34 a35 a36 a37 a38 x21 x22 x23 y1 a39 x24 a40 a41 a42 a43 x25 x26 x27 x28) := hD.sub [0] (by decide) rfl
          exact hret 1 ((fun _ => 0), (fun _ => (fun _ => 0)), (fun _ => (fun _ => 0)), (fun k => [x0].getD k 0), (fun _ => 0)) dX12_end_20 ⟨(Or.inr tI_1), ⟨(show (((1 : Int32).toInt = 0 ∧ x0.toInt < 0 ∧ (x0 : Int32).toInt = x1.toInt) ∨ ((1 : Int32).toInt = 1 ∧ x0.toInt ≥ 0 ∧ x0.toInt ≤ x1.toInt ∧ (x0 : Int32).toInt = x0.toInt) ∨ ((1 : Int32).toInt = 0 ∧ x0.toInt ≥ 0 ∧ x0.toInt > x1.toInt ∧ (x0 : Int32).toInt = x1.toInt)) from (by first | exact (om_1514 tI_1 c_1 c_2) | (have k9 := tI_1; (first | omega | (unfold zBd at *; omega))))), (show (0 ≤ (x0 : Int32).toInt ∧ (x0 : Int32).toInt ≤ 1600) from (by first | exact (om_1515 c_1 c_2 h_x1.2) | (have k9 := tI_1; (first | omega | (unfold zBd at *; omega)))))⟩⟩ hP9 hD9 hS
      ·
        as_aux_lemma =>
          refine lv_iconst (pc := 12) (v := 0) hx hb dX12_end_12 (by decide) ?_
          have hP9 : va_P D gcl (zS_4 cB cC cI cJ a0 a1 x1 x2 x3 x4 x5 x6 x7 x8 a2 a3 a4 a5 a6 a7 a8 a9 a10 a11 a12 a13 a14 a15 a16 x9 x10 x11 x12 x13 x14 a17 a18 a19 x15 a20 x16 a21 x17 x18 a22 a23 a24 a25 x19 a26 x20 a27 a28 a29 y0 a30 a31 a32 a33 a34 a35 a36 a37 a38 x21 x22 x23 y1 a39 x24 a40 a41 a42 a43 x25 x26 x27 x28) s.heap := g_psub hP [0] rfl
          have hD9 : va_D A (zS_4 cB cC cI cJ a0 a1 x1 x2 x3 x4 x5 x6 x7 x8 a2 a3 a4 a5 a6 a7 a8 a9 a10 a11 a12 a13 a14 a15 a16 x9 x10 x11 x12 x13 x14 a17 a18 a19 x15 a20 x16 a21 x17 x18 a22 a23 a24 a25 x19 a26 x20 a27 a28 a29 y0 a30 a31 a32 a33 a34 a35 a36 a37 a38 x21 x22 x23 y1 a39 x24 a40 a41 a42 a43 x25 x26 x27 x28) := hD.sub [0] (by decide) rfl
          exact hret 0 ((fun _ => 0), (fun _ => (fun _ => 0)), (fun _ => (fun _ => 0)), (fun k => [x1].getD k 0), (fun _ => 0)) dX12_end_13 ⟨(Or.inl tI_0), ⟨(show (((0 : Int32).toInt = 0 ∧ x0.toInt < 0 ∧ (x1 : Int32).toInt = x1.toInt) ∨ ((0 : Int32).toInt = 1 ∧ x0.toInt ≥ 0 ∧ x0.toInt ≤ x1.toInt ∧ (x1 : Int32).toInt = x0.toInt) ∨ ((0 : Int32).toInt = 0 ∧ x0.toInt ≥ 0 ∧ x0.toInt > x1.toInt ∧ (x1 : Int32).toInt = x1.toInt)) from (by first | exact (om_1516 tI_0 c_2) | (have k9 := tI_0; (first | omega | (unfold zBd at *; omega))))), (show (0 ≤ (x1 : Int32).toInt ∧ (x1 : Int32).toInt ≤ 1600) from h_x1)⟩⟩ hP9 hD9 hS
theorem om_1517 {a b c d : Int} (h0 : (a = (-1))) (h1 : (¬ b = 0)) (h2 : (¬ b = 1)) : (((a = (-1) ∧ ¬ b = 0 ∧ ¬ b = 1) ∨ (a = c ∧ ¬ b = 0 ∧ b = 1) ∨ (a = d ∧ b = 0))) := by omega
set_option maxHeartbeats 4000000 in
set_option maxRecDepth 100000 in
theorem k_X12_fault (l : Launch) (D : va_G) (cB cC cI cJ : ClassId) (sz : Nat) (a0 a1 a2 a3 a4 a5 a6 a7 a8 a9 a10 a11 a12 a13 a14 a15 a16 a17 a18 a19 a20 a21 a22 a23 a24 a25 a26 a27 a28 a29 a30 a31 a32 a33 a34 a35 a36 a37 a38 a39 a40 a41 a42 a43 : Nat) (x0 x1 x2 x3 x4 x5 x6 x7 x8 x9 x10 x11 x12 x13 x14 x15 x16 x17 x18 x19 x20 x21 x22 x23 x24 x25 x26 x27 x28 : Int32) (y0 y1 : Int64) (h_x1 : zBd x1.toInt 0 1600) (h_x2 : zBd x2.toInt 0 1600) (h_x3 : zBd x3.toInt 0 1600) (h_x4 : zBd x4.toInt (-1) 1600) (h_x5 : zBd x5.toInt 0 4) (h_x6 : zBd x6.toInt (-1) 1600) (h_x9 : zBd x9.toInt 0 8) (h_x10 : zBd x10.toInt 0 5) (h_x11 : zBd x11.toInt 0 6) (h_x12 : zBd x12.toInt 0 6) (h_x13 : zBd x13.toInt 0 16) (h_x15 : zBd x15.toInt 0 60) (h_x16 : zBd x16.toInt 0 1600) (h_x17 : zBd x17.toInt 0 1700) (h_x19 : zBd x19.toInt 0 1700) (h_x20 : zBd x20.toInt 0 1700) (h_x21 : zBd x21.toInt 0 200) (h_x22 : zBd x22.toInt 0 40) (h_x23 : zBd x23.toInt 0 40) (h_x24 : zBd x24.toInt 0 1) (h_x25 : zBd x25.toInt 0 14) (h_x26 : zBd x26.toInt 0 200) (h_x27 : zBd x27.toInt 0 40) (h_x28 : zBd x28.toInt 0 40) (hr_a0_0 : (x22.toInt ≤ x21.toInt)) (hr_a0_1 : (x21.toInt + x23.toInt ≤ 200)) (hr_a0_2 : (x10.toInt = 0 ∨ 2 ≤ x9.toInt)) : Met l yX12_fault (.code yX12_fault cX12_fault 2 (some .int) :: lw_gd) ({ frames := 0, cells := 0, slots := 0, locals := 0 }) (gPre D [(cB, .byte), (cC, .char), (cI, .int), (cJ, .long)] [.ref a0, .int x0] (zS_4 cB cC cI cJ a0 a1 x1 x2 x3 x4 x5 x6 x7 x8 a2 a3 a4 a5 a6 a7 a8 a9 a10 a11 a12 a13 a14 a15 a16 x9 x10 x11 x12 x13 x14 a17 a18 a19 x15 a20 x16 a21 x17 x18 a22 a23 a24 a25 x19 a26 x20 a27 a28 a29 y0 a30 a31 a32 a33 a34 a35 a36 a37 a38 x21 x22 x23 y1 a39 x24 a40 a41 a42 a43 x25 x26 x27 x28) sz) (va_Qi (fun r u => ((r.toInt = (-1) ∧ ¬ x0.toInt = 0 ∧ ¬ x0.toInt = 1) ∨ (r.toInt = x8.toInt ∧ ¬ x0.toInt = 0 ∧ x0.toInt = 1) ∨ (r.toInt = x7.toInt ∧ x0.toInt = 0))) (gB D (va_A (zS_4 cB cC cI cJ a0 a1 x1 x2 x3 x4 x5 x6 x7 x8 a2 a3 a4 a5 a6 a7 a8 a9 a10 a11 a12 a13 a14 a15 a16 x9 x10 x11 x12 x13 x14 a17 a18 a19 x15 a20 x16 a21 x17 x18 a22 a23 a24 a25 x19 a26 x20 a27 a28 a29 y0 a30 a31 a32 a33 a34 a35 a36 a37 a38 x21 x22 x23 y1 a39 x24 a40 a41 a42 a43 x25 x26 x27 x28) sz) (fun u : gEx => (zS_4 cB cC cI cJ a0 a1 x1 x2 x3 x4 x5 x6 x7 x8 a2 a3 a4 a5 a6 a7 a8 a9 a10 a11 a12 a13 a14 a15 a16 x9 x10 x11 x12 x13 x14 a17 a18 a19 x15 a20 x16 a21 x17 x18 a22 a23 a24 a25 x19 a26 x20 a27 a28 a29 y0 a30 a31 a32 a33 a34 a35 a36 a37 a38 x21 x22 x23 y1 a39 x24 a40 a41 a42 a43 x25 x26 x27 x28))) (va_A (zS_4 cB cC cI cJ a0 a1 x1 x2 x3 x4 x5 x6 x7 x8 a2 a3 a4 a5 a6 a7 a8 a9 a10 a11 a12 a13 a14 a15 a16 x9 x10 x11 x12 x13 x14 a17 a18 a19 x15 a20 x16 a21 x17 x18 a22 a23 a24 a25 x19 a26 x20 a27 a28 a29 y0 a30 a31 a32 a33 a34 a35 a36 a37 a38 x21 x22 x23 y1 a39 x24 a40 a41 a42 a43 x25 x26 x27 x28) sz)) 0 0 (va_A (zS_4 cB cC cI cJ a0 a1 x1 x2 x3 x4 x5 x6 x7 x8 a2 a3 a4 a5 a6 a7 a8 a9 a10 a11 a12 a13 a14 a15 a16 x9 x10 x11 x12 x13 x14 a17 a18 a19 x15 a20 x16 a21 x17 x18 a22 a23 a24 a25 x19 a26 x20 a27 a28 a29 y0 a30 a31 a32 a33 a34 a35 a36 a37 a38 x21 x22 x23 y1 a39 x24 a40 a41 a42 a43 x25 x26 x27 x28) sz) := by
  refine gOf_i (by decide +kernel) (Nat.le_of_ble_eq_true rfl) ?_
  intro p e s m args below meth c ls A Q hx hb hts hown hml hN hK hP hD hA hl hret
  replace hown : s.vm.findClass RX12 = some m.cls := hown
  have hS : va_S A s.heap s.heap [] := va_S.rf
  replace hP : va_P D gcl (zS_4 cB cC cI cJ a0 a1 x1 x2 x3 x4 x5 x6 x7 x8 a2 a3 a4 a5 a6 a7 a8 a9 a10 a11 a12 a13 a14 a15 a16 x9 x10 x11 x12 x13 x14 a17 a18 a19 x15 a20 x16 a21 x17 x18 a22 a23 a24 a25 x19 a26 x20 a27 a28 a29 y0 a30 a31 a32 a33 a34 a35 a36 a37 a38 x21 x22 x23 y1 a39 x24 a40 a41 a42 a43 x25 x26 x27 x28) s.heap := hP
  replace hl : lv_has ls 2 [(0, .ref a0), (1, .int x0)] := hl
  have rx0 : zBd x0.toInt (-2147483648) 2147483647 := n_rng x0
  have rx7 : zBd x7.toInt (-2147483648) 2147483647 := n_rng x7
  have rx8 : zBd x8.toInt (-2147483648) 2147483647 := n_rng x8
  have rx14 : zBd x14.toInt (-2147483648) 2147483647 := n_rng x14
  have rx18 : zBd x18.toInt (-2147483648) 2147483647 := n_rng x18
  have ry0 := n_rngL y0
  have ry1 := n_rngL y1
  refine lv_iload_n (pc := 0) hx hb dX12_fault_0 rfl (lv_at hl 1 rfl) ?_
  refine b_if_ne (pc := 1) (tgt := 11) hx hb rfl  dX12_fault_1 (by decide) (fun c_1 => ?_) (fun c_1 => ?_)
  ·
    refine lv_iload_n (pc := 11) hx hb dX12_fault_11 rfl (lv_at hl 1 rfl) ?_
    refine lv_iconst (pc := 12) (v := 1) hx hb dX12_fault_12 (by decide) ?_
    refine b_icmp_ne (pc := 13) (tgt := 23) hx hb rfl tI_1  dX12_fault_13 (by decide) (fun c_2 => ?_) (fun c_2 => ?_)
    ·
      refine lv_iconst (pc := 23) (v := (-1)) hx hb dX12_fault_23 (by decide) ?_
      have hP9 : va_P D gcl (zS_4 cB cC cI cJ a0 a1 x1 x2 x3 x4 x5 x6 x7 x8 a2 a3 a4 a5 a6 a7 a8 a9 a10 a11 a12 a13 a14 a15 a16 x9 x10 x11 x12 x13 x14 a17 a18 a19 x15 a20 x16 a21 x17 x18 a22 a23 a24 a25 x19 a26 x20 a27 a28 a29 y0 a30 a31 a32 a33 a34 a35 a36 a37 a38 x21 x22 x23 y1 a39 x24 a40 a41 a42 a43 x25 x26 x27 x28) s.heap := g_psub hP [0] rfl
      have hD9 : va_D A (zS_4 cB cC cI cJ a0 a1 x1 x2 x3 x4 x5 x6 x7 x8 a2 a3 a4 a5 a6 a7 a8 a9 a10 a11 a12 a13 a14 a15 a16 x9 x10 x11 x12 x13 x14 a17 a18 a19 x15 a20 x16 a21 x17 x18 a22 a23 a24 a25 x19 a26 x20 a27 a28 a29 y0 a30 a31 a32 a33 a34 a35 a36 a37 a38 x21 x22 x23 y1 a39 x24 a40 a41 a42 a43 x25 x26 x27 x28) := hD.sub [0] (by decide) rfl
      exact hret (-1) ((fun _ => 0), (fun _ => (fun _ => 0)), (fun _ => (fun _ => 0)), (fun _ => 0), (fun _ => 0)) dX12_fault_24 (show ((((-1) : Int32).toInt = (-1) ∧ ¬ x0.toInt = 0 ∧ ¬ x0.toInt = 1) ∨ (((-1) : Int32).toInt = x8.toInt ∧ ¬ x0.toInt = 0 ∧ x0.toInt = 1) ∨ (((-1) : Int32).toInt = x7.toInt ∧ x0.toInt = 0)) from (by first | exact (om_1517 tI_m1 c_1 c_2) | (have k9 := tI_m1; (first | omega | (unfold zBd at *; omega))))) hP9 hD9 hS
    ·
      refine lv_aload_n (pc := 16) hx hb dX12_fault_16 rfl (lv_at hl 0 rfl) ?_
      refine va_get (pc := 17) (ci := 12) (v := .int x8) (C := RX12) (T := TX12) (N := 73) hx hb hts iX12 hown hK hP 0 rfl rfl 8 (by decide) (hts _ tw_1409) (fun _ h9 => h9) rfl dX12_fault_17 ?_
      refine lv_goto (pc := 20) (tgt := 24) hx hb dX12_fault_20 (by decide) ?_
      have hP9 : va_P D gcl (zS_4 cB cC cI cJ a0 a1 x1 x2 x3 x4 x5 x6 x7 x8 a2 a3 a4 a5 a6 a7 a8 a9 a10 a11 a12 a13 a14 a15 a16 x9 x10 x11 x12 x13 x14 a17 a18 a19 x15 a20 x16 a21 x17 x18 a22 a23 a24 a25 x19 a26 x20 a27 a28 a29 y0 a30 a31 a32 a33 a34 a35 a36 a37 a38 x21 x22 x23 y1 a39 x24 a40 a41 a42 a43 x25 x26 x27 x28) s.heap := g_psub hP [0] rfl
      have hD9 : va_D A (zS_4 cB cC cI cJ a0 a1 x1 x2 x3 x4 x5 x6 x7 x8 a2 a3 a4 a5 a6 a7 a8 a9 a10 a11 a12 a13 a14 a15 a16 x9 x10 x11 x12 x13 x14 a17 a18 a19 x15 a20 x16 a21 x17 x18 a22 a23 a24 a25 x19 a26 x20 a27 a28 a29 y0 a30 a31 a32 a33 a34 a35 a36 a37 a38 x21 x22 x23 y1 a39 x24 a40 a41 a42 a43 x25 x26 x27 x28) := hD.sub [0] (by decide) rfl
      exact hret x8 ((fun _ => 0), (fun _ => (fun _ => 0)), (fun _ => (fun _ => 0)), (fun _ => 0), (fun _ => 0)) dX12_fault_24 (show ((x8.toInt = (-1) ∧ ¬ x0.toInt = 0 ∧ ¬ x0.toInt = 1) ∨ (x8.toInt = x8.toInt ∧ ¬ x0.toInt = 0 ∧ x0.toInt = 1) ∨ (x8.toInt = x7.toInt ∧ x0.toInt = 0)) from (by first | exact (om_1329 c_2) | ((first | omega | (unfold zBd at *; omega))))) hP9 hD9 hS
  ·
    refine lv_aload_n (pc := 4) hx hb dX12_fault_4 rfl (lv_at hl 0 rfl) ?_
    refine va_get (pc := 5) (ci := 12) (v := .int x7) (C := RX12) (T := TX12) (N := 73) hx hb hts iX12 hown hK hP 0 rfl rfl 7 (by decide) (hts _ tw_1408) (fun _ h9 => h9) rfl dX12_fault_5 ?_
    refine lv_goto (pc := 8) (tgt := 24) hx hb dX12_fault_8 (by decide) ?_
    have hP9 : va_P D gcl (zS_4 cB cC cI cJ a0 a1 x1 x2 x3 x4 x5 x6 x7 x8 a2 a3 a4 a5 a6 a7 a8 a9 a10 a11 a12 a13 a14 a15 a16 x9 x10 x11 x12 x13 x14 a17 a18 a19 x15 a20 x16 a21 x17 x18 a22 a23 a24 a25 x19 a26 x20 a27 a28 a29 y0 a30 a31 a32 a33 a34 a35 a36 a37 a38 x21 x22 x23 y1 a39 x24 a40 a41 a42 a43 x25 x26 x27 x28) s.heap := g_psub hP [0] rfl
    have hD9 : va_D A (zS_4 cB cC cI cJ a0 a1 x1 x2 x3 x4 x5 x6 x7 x8 a2 a3 a4 a5 a6 a7 a8 a9 a10 a11 a12 a13 a14 a15 a16 x9 x10 x11 x12 x13 x14 a17 a18 a19 x15 a20 x16 a21 x17 x18 a22 a23 a24 a25 x19 a26 x20 a27 a28 a29 y0 a30 a31 a32 a33 a34 a35 a36 a37 a38 x21 x22 x23 y1 a39 x24 a40 a41 a42 a43 x25 x26 x27 x28) := hD.sub [0] (by decide) rfl
    exact hret x7 ((fun _ => 0), (fun _ => (fun _ => 0)), (fun _ => (fun _ => 0)), (fun _ => 0), (fun _ => 0)) dX12_fault_24 (show ((x7.toInt = (-1) ∧ ¬ x0.toInt = 0 ∧ ¬ x0.toInt = 1) ∨ (x7.toInt = x8.toInt ∧ ¬ x0.toInt = 0 ∧ x0.toInt = 1) ∨ (x7.toInt = x7.toInt ∧ x0.toInt = 0)) from (by first | exact (om_1330 c_1) | ((first | omega | (unfold zBd at *; omega))))) hP9 hD9 hS
set_option maxHeartbeats 4000000 in
set_option maxRecDepth 100000 in
theorem k_X12_has (l : Launch) (D : va_G) (cB cC cI cJ : ClassId) (sz : Nat) (a0 a1 a2 a3 a4 a5 a6 a7 a8 a9 a10 a11 a12 a13 a14 a15 a16 a17 a18 a19 a20 a21 a22 a23 a24 a25 a26 a27 a28 a29 a30 a31 a32 a33 a34 a35 a36 a37 a38 a39 a40 a41 a42 a43 : Nat) (x0 x1 x2 x3 x4 x5 x6 x7 x8 x9 x10 x11 x12 x13 x14 x15 x16 x17 x18 x19 x20 x21 x22 x23 x24 x25 x26 x27 x28 : Int32) (y0 y1 : Int64) (f0 : Nat → Int32) (h_x1 : zBd x1.toInt 0 1600) (h_x2 : zBd x2.toInt 0 1600) (h_x3 : zBd x3.toInt 0 1600) (h_x4 : zBd x4.toInt (-1) 1600) (h_x5 : zBd x5.toInt 0 4) (h_x6 : zBd x6.toInt (-1) 1600) (h_x9 : zBd x9.toInt 0 8) (h_x10 : zBd x10.toInt 0 5) (h_x11 : zBd x11.toInt 0 6) (h_x12 : zBd x12.toInt 0 6) (h_x13 : zBd x13.toInt 0 16) (h_x15 : zBd x15.toInt 0 60) (h_x16 : zBd x16.toInt 0 1600) (h_x17 : zBd x17.toInt 0 1700) (h_x19 : zBd x19.toInt 0 1700) (h_x20 : zBd x20.toInt 0 1700) (h_x21 : zBd x21.toInt 0 200) (h_x22 : zBd x22.toInt 0 40) (h_x23 : zBd x23.toInt 0 40) (h_x24 : zBd x24.toInt 0 1) (h_x25 : zBd x25.toInt 0 14) (h_x26 : zBd x26.toInt 0 200) (h_x27 : zBd x27.toInt 0 40) (h_x28 : zBd x28.toInt 0 40) (hr_a0_0 : (x22.toInt ≤ x21.toInt)) (hr_a0_1 : (x21.toInt + x23.toInt ≤ 200)) (hr_a0_2 : (x10.toInt = 0 ∨ 2 ≤ x9.toInt)) (hf_f0 : (∀ j, 0 ≤ (f0 j).toInt ∧ (f0 j).toInt ≤ 8)) : Met l yX12_has (.code yX12_has cX12_has 2 (some .int) :: lw_gd) ({ frames := 0, cells := 0, slots := 0, locals := 0 }) (gPre D [(cB, .byte), (cC, .char), (cI, .int), (cJ, .long)] [.ref a0, .int x0] (zS_69 cB cC cI cJ a0 a1 x1 x2 x3 x4 x5 x6 x7 x8 a2 a3 a4 a5 a6 a7 a8 a9 a10 a11 a12 a13 a14 a15 a16 x9 x10 x11 x12 x13 x14 a17 a18 a19 x15 a20 x16 a21 x17 x18 a22 a23 a24 a25 x19 a26 x20 a27 a28 a29 y0 a30 a31 a32 a33 a34 a35 a36 a37 a38 x21 x22 x23 y1 a39 x24 a40 a41 a42 a43 x25 x26 x27 x28 a22 f0) sz) (va_Qi (fun r u => (haQ r.toInt x0.toInt x9.toInt x10.toInt x11.toInt x12.toInt x13.toInt ((f0 0).toInt) x14.toInt x21.toInt x22.toInt x23.toInt)) (gB D (va_A (zS_69 cB cC cI cJ a0 a1 x1 x2 x3 x4 x5 x6 x7 x8 a2 a3 a4 a5 a6 a7 a8 a9 a10 a11 a12 a13 a14 a15 a16 x9 x10 x11 x12 x13 x14 a17 a18 a19 x15 a20 x16 a21 x17 x18 a22 a23 a24 a25 x19 a26 x20 a27 a28 a29 y0 a30 a31 a32 a33 a34 a35 a36 a37 a38 x21 x22 x23 y1 a39 x24 a40 a41 a42 a43 x25 x26 x27 x28 a22 f0) sz) (fun u : gEx => (zS_69 cB cC cI cJ a0 a1 x1 x2 x3 x4 x5 x6 x7 x8 a2 a3 a4 a5 a6 a7 a8 a9 a10 a11 a12 a13 a14 a15 a16 x9 x10 x11 x12 x13 x14 a17 a18 a19 x15 a20 x16 a21 x17 x18 a22 a23 a24 a25 x19 a26 x20 a27 a28 a29 y0 a30 a31 a32 a33 a34 a35 a36 a37 a38 x21 x22 x23 y1 a39 x24 a40 a41 a42 a43 x25 x26 x27 x28 a22 f0))) (va_A (zS_69 cB cC cI cJ a0 a1 x1 x2 x3 x4 x5 x6 x7 x8 a2 a3 a4 a5 a6 a7 a8 a9 a10 a11 a12 a13 a14 a15 a16 x9 x10 x11 x12 x13 x14 a17 a18 a19 x15 a20 x16 a21 x17 x18 a22 a23 a24 a25 x19 a26 x20 a27 a28 a29 y0 a30 a31 a32 a33 a34 a35 a36 a37 a38 x21 x22 x23 y1 a39 x24 a40 a41 a42 a43 x25 x26 x27 x28 a22 f0) sz)) 0 0 (va_A (zS_69 cB cC cI cJ a0 a1 x1 x2 x3 x4 x5 x6 x7 x8 a2 a3 a4 a5 a6 a7 a8 a9 a10 a11 a12 a13 a14 a15 a16 x9 x10 x11 x12 x13 x14 a17 a18 a19 x15 a20 x16 a21 x17 x18 a22 a23 a24 a25 x19 a26 x20 a27 a28 a29 y0 a30 a31 a32 a33 a34 a35 a36 a37 a38 x21 x22 x23 y1 a39 x24 a40 a41 a42 a43 x25 x26 x27 x28 a22 f0) sz) := by
  refine gOf_i (by decide +kernel) (Nat.le_of_ble_eq_true rfl) ?_
  intro p e s m args below meth c ls A Q hx hb hts hown hml hN hK hP hD hA hl hret
  replace hown : s.vm.findClass RX12 = some m.cls := hown
  have hS : va_S A s.heap s.heap [] := va_S.rf
  replace hP : va_P D gcl (zS_69 cB cC cI cJ a0 a1 x1 x2 x3 x4 x5 x6 x7 x8 a2 a3 a4 a5 a6 a7 a8 a9 a10 a11 a12 a13 a14 a15 a16 x9 x10 x11 x12 x13 x14 a17 a18 a19 x15 a20 x16 a21 x17 x18 a22 a23 a24 a25 x19 a26 x20 a27 a28 a29 y0 a30 a31 a32 a33 a34 a35 a36 a37 a38 x21 x22 x23 y1 a39 x24 a40 a41 a42 a43 x25 x26 x27 x28 a22 f0) s.heap := hP
  replace hl : lv_has ls 2 [(0, .ref a0), (1, .int x0)] := hl
  have rx0 : zBd x0.toInt (-2147483648) 2147483647 := n_rng x0
  have rx7 : zBd x7.toInt (-2147483648) 2147483647 := n_rng x7
  have rx8 : zBd x8.toInt (-2147483648) 2147483647 := n_rng x8
  have rx14 : zBd x14.toInt (-2147483648) 2147483647 := n_rng x14
  have rx18 : zBd x18.toInt (-2147483648) 2147483647 := n_rng x18
  have ry0 := n_rngL y0
  have ry1 := n_rngL y1
  refine lv_iload_n (pc := 0) hx hb dX12_has_0 rfl (lv_at hl 1 rfl) ?_
  by_cases h_1 : x0.toInt = 0
  ·
    as_aux_lemma =>
      refine lv_tableIn (pc := 1) (off := 55) (tgt := 56) hx hb dX12_has_1 (by rw [h_1]; decide) (by rw [h_1]; decide) (by rw [h_1]; decide +kernel) (by decide) ?_
      refine lv_aload_n (pc := 56) hx hb dX12_has_56 rfl (lv_at hl 0 rfl) ?_
      refine va_get (pc := 57) (ci := 12) (v := .int x9) (C := RX12) (T := TX12) (N := 73) hx hb hts iX12 hown hK hP 0 rfl rfl 24 (by decide) (hts _ tw_1425) (fun _ h9 => h9) rfl dX12_has_57 ?_
      have bd_h_x9 : 0 ≤ x9.toInt ∧ x9.toInt ≤ 8 := h_x9
      have hP9 : va_P D gcl (zS_69 cB cC cI cJ a0 a1 x1 x2 x3 x4 x5 x6 x7 x8 a2 a3 a4 a5 a6 a7 a8 a9 a10 a11 a12 a13 a14 a15 a16 x9 x10 x11 x12 x13 x14 a17 a18 a19 x15 a20 x16 a21 x17 x18 a22 a23 a24 a25 x19 a26 x20 a27 a28 a29 y0 a30 a31 a32 a33 a34 a35 a36 a37 a38 x21 x22 x23 y1 a39 x24 a40 a41 a42 a43 x25 x26 x27 x28 a22 f0) s.heap := g_psub hP [0, 1] rfl
      have hD9 : va_D A (zS_69 cB cC cI cJ a0 a1 x1 x2 x3 x4 x5 x6 x7 x8 a2 a3 a4 a5 a6 a7 a8 a9 a10 a11 a12 a13 a14 a15 a16 x9 x10 x11 x12 x13 x14 a17 a18 a19 x15 a20 x16 a21 x17 x18 a22 a23 a24 a25 x19 a26 x20 a27 a28 a29 y0 a30 a31 a32 a33 a34 a35 a36 a37 a38 x21 x22 x23 y1 a39 x24 a40 a41 a42 a43 x25 x26 x27 x28 a22 f0) := hD.sub [0, 1] (by decide) rfl
      exact hret x9 ((fun _ => 0), (fun _ => (fun _ => 0)), (fun _ => (fun _ => 0)), (fun _ => 0), (fun _ => 0)) dX12_has_60 (show haQ x9.toInt x0.toInt x9.toInt x10.toInt x11.toInt x12.toInt x13.toInt ((f0 0).toInt) x14.toInt x21.toInt x22.toInt x23.toInt from ⟨fun _ => by (first | omega | (unfold zBd at *; omega)), fun _ => by (first | omega | (unfold zBd at *; omega)), fun _ => by (first | omega | (unfold zBd at *; omega)), fun _ => by (first | omega | (unfold zBd at *; omega)), fun _ => by (first | omega | (unfold zBd at *; omega)), fun _ => by (first | omega | (unfold zBd at *; omega)), fun _ => by (first | omega | (unfold zBd at *; omega)), fun _ => by (first | omega | (unfold zBd at *; omega)), fun _ => by (first | omega | (unfold zBd at *; omega)), fun _ => by (first | omega | (unfold zBd at *; omega)), fun _ => by (first | omega | (unfold zBd at *; omega))⟩) hP9 hD9 hS
  by_cases h_2 : x0.toInt = 1
  ·
    as_aux_lemma =>
      refine lv_tableIn (pc := 1) (off := 60) (tgt := 61) hx hb dX12_has_1 (by rw [h_2]; decide) (by rw [h_2]; decide) (by rw [h_2]; decide +kernel) (by decide) ?_
      refine lv_aload_n (pc := 61) hx hb dX12_has_61 rfl (lv_at hl 0 rfl) ?_
      refine va_get (pc := 62) (ci := 12) (v := .int x10) (C := RX12) (T := TX12) (N := 73) hx hb hts iX12 hown hK hP 0 rfl rfl 25 (by decide) (hts _ tw_1426) (fun _ h9 => h9) rfl dX12_has_62 ?_
      have bd_h_x10 : 0 ≤ x10.toInt ∧ x10.toInt ≤ 5 := h_x10
      have hP9 : va_P D gcl (zS_69 cB cC cI cJ a0 a1 x1 x2 x3 x4 x5 x6 x7 x8 a2 a3 a4 a5 a6 a7 a8 a9 a10 a11 a12 a13 a14 a15 a16 x9 x10 x11 x12 x13 x14 a17 a18 a19 x15 a20 x16 a21 x17 x18 a22 a23 a24 a25 x19 a26 x20 a27 a28 a29 y0 a30 a31 a32 a33 a34 a35 a36 a37 a38 x21 x22 x23 y1 a39 x24 a40 a41 a42 a43 x25 x26 x27 x28 a22 f0) s.heap := g_psub hP [0, 1] rfl
      have hD9 : va_D A (zS_69 cB cC cI cJ a0 a1 x1 x2 x3 x4 x5 x6 x7 x8 a2 a3 a4 a5 a6 a7 a8 a9 a10 a11 a12 a13 a14 a15 a16 x9 x10 x11 x12 x13 x14 a17 a18 a19 x15 a20 x16 a21 x17 x18 a22 a23 a24 a25 x19 a26 x20 a27 a28 a29 y0 a30 a31 a32 a33 a34 a35 a36 a37 a38 x21 x22 x23 y1 a39 x24 a40 a41 a42 a43 x25 x26 x27 x28 a22 f0) := hD.sub [0, 1] (by decide) rfl
      exact hret x10 ((fun _ => 0), (fun _ => (fun _ => 0)), (fun _ => (fun _ => 0)), (fun _ => 0), (fun _ => 0)) dX12_has_65 (show haQ x10.toInt x0.toInt x9.toInt x10.toInt x11.toInt x12.toInt x13.toInt ((f0 0).toInt) x14.toInt x21.toInt x22.toInt x23.toInt from ⟨fun _ => by (first | omega | (unfold zBd at *; omega)), fun _ => by (first | omega | (unfold zBd at *; omega)), fun _ => by (first | omega | (unfold zBd at *; omega)), fun _ => by (first | omega | (unfold zBd at *; omega)), fun _ => by (first | omega | (unfold zBd at *; omega)), fun _ => by (first | omega | (unfold zBd at *; omega)), fun _ => by (first | omega | (unfold zBd at *; omega)), fun _ => by (first | omega | (unfold zBd at *; omega)), fun _ => by (first | omega | (unfold zBd at *; omega)), fun _ => by (first | omega | (unfold zBd at *; omega)), fun _ => by (first | omega | (unfold zBd at *; omega))⟩) hP9 hD9 hS
  by_cases h_3 : x0.toInt = 2
  ·
    as_aux_lemma =>
      refine lv_tableIn (pc := 1) (off := 65) (tgt := 66) hx hb dX12_has_1 (by rw [h_3]; decide) (by rw [h_3]; decide) (by rw [h_3]; decide +kernel) (by decide) ?_
      refine lv_aload_n (pc := 66) hx hb dX12_has_66 rfl (lv_at hl 0 rfl) ?_
      refine va_get (pc := 67) (ci := 12) (v := .int x11) (C := RX12) (T := TX12) (N := 73) hx hb hts iX12 hown hK hP 0 rfl rfl 26 (by decide) (hts _ tw_1427) (fun _ h9 => h9) rfl dX12_has_67 ?_
      have bd_h_x11 : 0 ≤ x11.toInt ∧ x11.toInt ≤ 6 := h_x11
      have hP9 : va_P D gcl (zS_69 cB cC cI cJ a0 a1 x1 x2 x3 x4 x5 x6 x7 x8 a2 a3 a4 a5 a6 a7 a8 a9 a10 a11 a12 a13 a14 a15 a16 x9 x10 x11 x12 x13 x14 a17 a18 a19 x15 a20 x16 a21 x17 x18 a22 a23 a24 a25 x19 a26 x20 a27 a28 a29 y0 a30 a31 a32 a33 a34 a35 a36 a37 a38 x21 x22 x23 y1 a39 x24 a40 a41 a42 a43 x25 x26 x27 x28 a22 f0) s.heap := g_psub hP [0, 1] rfl
      have hD9 : va_D A (zS_69 cB cC cI cJ a0 a1 x1 x2 x3 x4 x5 x6 x7 x8 a2 a3 a4 a5 a6 a7 a8 a9 a10 a11 a12 a13 a14 a15 a16 x9 x10 x11 x12 x13 x14 a17 a18 a19 x15 a20 x16 a21 x17 x18 a22 a23 a24 a25 x19 a26 x20 a27 a28 a29 y0 a30 a31 a32 a33 a34 a35 a36 a37 a38 x21 x22 x23 y1 a39 x24 a40 a41 a42 a43 x25 x26 x27 x28 a22 f0) := hD.sub [0, 1] (by decide) rfl
      exact hret x11 ((fun _ => 0), (fun _ => (fun _ => 0)), (fun _ => (fun _ => 0)), (fun _ => 0), (fun _ => 0)) dX12_has_70 (show haQ x11.toInt x0.toInt x9.toInt x10.toInt x11.toInt x12.toInt x13.toInt ((f0 0).toInt) x14.toInt x21.toInt x22.toInt x23.toInt from ⟨fun _ => by (first | omega | (unfold zBd at *; omega)), fun _ => by (first | omega | (unfold zBd at *; omega)), fun _ => by (first | omega | (unfold zBd at *; omega)), fun _ => by (first | omega | (unfold zBd at *; omega)), fun _ => by (first | omega | (unfold zBd at *; omega)), fun _ => by (first | omega | (unfold zBd at *; omega)), fun _ => by (first | omega | (unfold zBd at *; omega)), fun _ => by (first | omega | (unfold zBd at *; omega)), fun _ => by (first | omega | (unfold zBd at *; omega)), fun _ => by (first | omega | (unfold zBd at *; omega)), fun _ => by (first | omega | (unfold zBd at *; omega))⟩) hP9 hD9 hS
  by_cases h_4 : x0.toInt = 3
  ·
    as_aux_lemma =>
      refine lv_tableIn (pc := 1) (off := 70) (tgt := 71) hx hb dX12_has_1 (by rw [h_4]; decide) (by rw [h_4]; decide) (by rw [h_4]; decide +kernel) (by decide) ?_
      refine lv_aload_n (pc := 71) hx hb dX12_has_71 rfl (lv_at hl 0 rfl) ?_
      refine va_get (pc := 72) (ci := 12) (v := .int x12) (C := RX12) (T := TX12) (N := 73) hx hb hts iX12 hown hK hP 0 rfl rfl 27 (by decide) (hts _ tw_1428) (fun _ h9 => h9) rfl dX12_has_72 ?_
      have bd_h_x12 : 0 ≤ x12.toInt ∧ x12.toInt ≤ 6 := h_x12
      have hP9 : va_P D gcl (zS_69 cB cC cI cJ a0 a1 x1 x2 x3 x4 x5 x6 x7 x8 a2 a3 a4 a5 a6 a7 a8 a9 a10 a11 a12 a13 a14 a15 a16 x9 x10 x11 x12 x13 x14 a17 a18 a19 x15 a20 x16 a21 x17 x18 a22 a23 a24 a25 x19 a26 x20 a27 a28 a29 y0 a30 a31 a32 a33 a34 a35 a36 a37 a38 x21 x22 x23 y1 a39 x24 a40 a41 a42 a43 x25 x26 x27 x28 a22 f0) s.heap := g_psub hP [0, 1] rfl
      have hD9 : va_D A (zS_69 cB cC cI cJ a0 a1 x1 x2 x3 x4 x5 x6 x7 x8 a2 a3 a4 a5 a6 a7 a8 a9 a10 a11 a12 a13 a14 a15 a16 x9 x10 x11 x12 x13 x14 a17 a18 a19 x15 a20 x16 a21 x17 x18 a22 a23 a24 a25 x19 a26 x20 a27 a28 a29 y0 a30 a31 a32 a33 a34 a35 a36 a37 a38 x21 x22 x23 y1 a39 x24 a40 a41 a42 a43 x25 x26 x27 x28 a22 f0) := hD.sub [0, 1] (by decide) rfl
      exact hret x12 ((fun _ => 0), (fun _ => (fun _ => 0)), (fun _ => (fun _ => 0)), (fun _ => 0), (fun _ => 0)) dX12_has_75 (show haQ x12.toInt x0.toInt x9.toInt x10.toInt x11.toInt x12.toInt x13.toInt ((f0 0).toInt) x14.toInt x21.toInt x22.toInt x23.toInt from ⟨fun _ => by (first | omega | (unfold zBd at *; omega)), fun _ => by (first | omega | (unfold zBd at *; omega)), fun _ => by (first | omega | (unfold zBd at *; omega)), fun _ => by (first | omega | (unfold zBd at *; omega)), fun _ => by (first | omega | (unfold zBd at *; omega)), fun _ => by (first | omega | (unfold zBd at *; omega)), fun _ => by (first | omega | (unfold zBd at *; omega)), fun _ => by (first | omega | (unfold zBd at *; omega)), fun _ => by (first | omega | (unfold zBd at *; omega)), fun _ => by (first | omega | (unfold zBd at *; omega)), fun _ => by (first | omega | (unfold zBd at *; omega))⟩) hP9 hD9 hS
  by_cases h_5 : x0.toInt = 4
  ·
    as_aux_lemma =>
      refine lv_tableIn (pc := 1) (off := 75) (tgt := 76) hx hb dX12_has_1 (by rw [h_5]; decide) (by rw [h_5]; decide) (by rw [h_5]; decide +kernel) (by decide) ?_
      refine lv_aload_n (pc := 76) hx hb dX12_has_76 rfl (lv_at hl 0 rfl) ?_
      refine va_get (pc := 77) (ci := 12) (v := .int x13) (C := RX12) (T := TX12) (N := 73) hx hb hts iX12 hown hK hP 0 rfl rfl 28 (by decide) (hts _ tw_1429) (fun _ h9 => h9) rfl dX12_has_77 ?_
      have bd_h_x13 : 0 ≤ x13.toInt ∧ x13.toInt ≤ 16 := h_x13
      have hP9 : va_P D gcl (zS_69 cB cC cI cJ a0 a1 x1 x2 x3 x4 x5 x6 x7 x8 a2 a3 a4 a5 a6 a7 a8 a9 a10 a11 a12 a13 a14 a15 a16 x9 x10 x11 x12 x13 x14 a17 a18 a19 x15 a20 x16 a21 x17 x18 a22 a23 a24 a25 x19 a26 x20 a27 a28 a29 y0 a30 a31 a32 a33 a34 a35 a36 a37 a38 x21 x22 x23 y1 a39 x24 a40 a41 a42 a43 x25 x26 x27 x28 a22 f0) s.heap := g_psub hP [0, 1] rfl
      have hD9 : va_D A (zS_69 cB cC cI cJ a0 a1 x1 x2 x3 x4 x5 x6 x7 x8 a2 a3 a4 a5 a6 a7 a8 a9 a10 a11 a12 a13 a14 a15 a16 x9 x10 x11 x12 x13 x14 a17 a18 a19 x15 a20 x16 a21 x17 x18 a22 a23 a24 a25 x19 a26 x20 a27 a28 a29 y0 a30 a31 a32 a33 a34 a35 a36 a37 a38 x21 x22 x23 y1 a39 x24 a40 a41 a42 a43 x25 x26 x27 x28 a22 f0) := hD.sub [0, 1] (by decide) rfl
      exact hret x13 ((fun _ => 0), (fun _ => (fun _ => 0)), (fun _ => (fun _ => 0)), (fun _ => 0), (fun _ => 0)) dX12_has_80 (show haQ x13.toInt x0.toInt x9.toInt x10.toInt x11.toInt x12.toInt x13.toInt ((f0 0).toInt) x14.toInt x21.toInt x22.toInt x23.toInt from ⟨fun _ => by (first | omega | (unfold zBd at *; omega)), fun _ => by (first | omega | (unfold zBd at *; omega)), fun _ => by (first | omega | (unfold zBd at *; omega)), fun _ => by (first | omega | (unfold zBd at *; omega)), fun _ => by (first | omega | (unfold zBd at *; omega)), fun _ => by (first | omega | (unfold zBd at *; omega)), fun _ => by (first | omega | (unfold zBd at *; omega)), fun _ => by (first | omega | (unfold zBd at *; omega)), fun _ => by (first | omega | (unfold zBd at *; omega)), fun _ => by (first | omega | (unfold zBd at *; omega)), fun _ => by (first | omega | (unfold zBd at *; omega))⟩) hP9 hD9 hS
  by_cases h_6 : x0.toInt = 5
  ·
    as_aux_lemma =>
      refine lv_tableIn (pc := 1) (off := 80) (tgt := 81) hx hb dX12_has_1 (by rw [h_6]; decide) (by rw [h_6]; decide) (by rw [h_6]; decide +kernel) (by decide) ?_
      refine lv_aload_n (pc := 81) hx hb dX12_has_81 rfl (lv_at hl 0 rfl) ?_
      refine va_get (pc := 82) (ci := 12) (v := .ref a22) (C := RX12) (T := TX12) (N := 73) hx hb hts iX12 hown hK hP 0 rfl rfl 39 (by decide) (hts _ tw_1440) (fun _ h9 => h9) rfl dX12_has_82 ?_
      refine lv_iconst (pc := 85) (v := 0) hx hb dX12_has_85 (by decide) ?_
      refine va_iald (pc := 86) hx hb hK hP 1 2 rfl rfl (gin rfl) dX12_has_86 ?_
      refine lv_topi (fun x_7 ex_7 => ?_)
      have rx_7 : (0 ≤ x_7.toInt ∧ x_7.toInt ≤ 8) := by rw [ex_7]; exact hf_f0 _
      replace ex_7 : x_7 = f0 0 := ex_7
      have tx_7 := congrArg Int32.toInt ex_7
      have hP9 : va_P D gcl (zS_69 cB cC cI cJ a0 a1 x1 x2 x3 x4 x5 x6 x7 x8 a2 a3 a4 a5 a6 a7 a8 a9 a10 a11 a12 a13 a14 a15 a16 x9 x10 x11 x12 x13 x14 a17 a18 a19 x15 a20 x16 a21 x17 x18 a22 a23 a24 a25 x19 a26 x20 a27 a28 a29 y0 a30 a31 a32 a33 a34 a35 a36 a37 a38 x21 x22 x23 y1 a39 x24 a40 a41 a42 a43 x25 x26 x27 x28 a22 f0) s.heap := g_psub hP [0, 1] rfl
      have hD9 : va_D A (zS_69 cB cC cI cJ a0 a1 x1 x2 x3 x4 x5 x6 x7 x8 a2 a3 a4 a5 a6 a7 a8 a9 a10 a11 a12 a13 a14 a15 a16 x9 x10 x11 x12 x13 x14 a17 a18 a19 x15 a20 x16 a21 x17 x18 a22 a23 a24 a25 x19 a26 x20 a27 a28 a29 y0 a30 a31 a32 a33 a34 a35 a36 a37 a38 x21 x22 x23 y1 a39 x24 a40 a41 a42 a43 x25 x26 x27 x28 a22 f0) := hD.sub [0, 1] (by decide) rfl
      exact hret x_7 ((fun _ => 0), (fun _ => (fun _ => 0)), (fun _ => (fun _ => 0)), (fun _ => 0), (fun _ => 0)) dX12_has_87 (show haQ x_7.toInt x0.toInt x9.toInt x10.toInt x11.toInt x12.toInt x13.toInt ((f0 0).toInt) x14.toInt x21.toInt x22.toInt x23.toInt from ⟨fun _ => by (first | omega | (unfold zBd at *; omega)), fun _ => by (first | omega | (unfold zBd at *; omega)), fun _ => by (first | omega | (unfold zBd at *; omega)), fun _ => by (first | omega | (unfold zBd at *; omega)), fun _ => by (first | omega | (unfold zBd at *; omega)), fun _ => congrArg Int32.toInt ex_7, fun _ => by (first | omega | (unfold zBd at *; omega)), fun _ => by (first | omega | (unfold zBd at *; omega)), fun _ => by (first | omega | (unfold zBd at *; omega)), fun _ => by (first | omega | (unfold zBd at *; omega)), fun _ => by (first | omega | (unfold zBd at *; omega))⟩) hP9 hD9 hS
  by_cases h_8 : x0.toInt = 6
  ·
    as_aux_lemma =>
      refine lv_tableIn (pc := 1) (off := 87) (tgt := 88) hx hb dX12_has_1 (by rw [h_8]; decide) (by rw [h_8]; decide) (by rw [h_8]; decide +kernel) (by decide) ?_
      refine lv_aload_n (pc := 88) hx hb dX12_has_88 rfl (lv_at hl 0 rfl) ?_
      refine va_get (pc := 89) (ci := 12) (v := .int x14) (C := RX12) (T := TX12) (N := 73) hx hb hts iX12 hown hK hP 0 rfl rfl 29 (by decide) (hts _ tw_1430) (fun _ h9 => h9) rfl dX12_has_89 ?_
      have hP9 : va_P D gcl (zS_69 cB cC cI cJ a0 a1 x1 x2 x3 x4 x5 x6 x7 x8 a2 a3 a4 a5 a6 a7 a8 a9 a10 a11 a12 a13 a14 a15 a16 x9 x10 x11 x12 x13 x14 a17 a18 a19 x15 a20 x16 a21 x17 x18 a22 a23 a24 a25 x19 a26 x20 a27 a28 a29 y0 a30 a31 a32 a33 a34 a35 a36 a37 a38 x21 x22 x23 y1 a39 x24 a40 a41 a42 a43 x25 x26 x27 x28 a22 f0) s.heap := g_psub hP [0, 1] rfl
      have hD9 : va_D A (zS_69 cB cC cI cJ a0 a1 x1 x2 x3 x4 x5 x6 x7 x8 a2 a3 a4 a5 a6 a7 a8 a9 a10 a11 a12 a13 a14 a15 a16 x9 x10 x11 x12 x13 x14 a17 a18 a19 x15 a20 x16 a21 x17 x18 a22 a23 a24 a25 x19 a26 x20 a27 a28 a29 y0 a30 a31 a32 a33 a34 a35 a36 a37 a38 x21 x22 x23 y1 a39 x24 a40 a41 a42 a43 x25 x26 x27 x28 a22 f0) := hD.sub [0, 1] (by decide) rfl
      exact hret x14 ((fun _ => 0), (fun _ => (fun _ => 0)), (fun _ => (fun _ => 0)), (fun _ => 0), (fun _ => 0)) dX12_has_92 (show haQ x14.toInt x0.toInt x9.toInt x10.toInt x11.toInt x12.toInt x13.toInt ((f0 0).toInt) x14.toInt x21.toInt x22.toInt x23.toInt from ⟨fun _ => by (first | omega | (unfold zBd at *; omega)), fun _ => by (first | omega | (unfold zBd at *; omega)), fun _ => by (first | omega | (unfold zBd at *; omega)), fun _ => by (first | omega | (unfold zBd at *; omega)), fun _ => by (first | omega | (unfold zBd at *; omega)), fun _ => by (first | omega | (unfold zBd at *; omega)), fun _ => by (first | omega | (unfold zBd at *; omega)), fun _ => by (first | omega | (unfold zBd at *; omega)), fun _ => by (first | omega | (unfold zBd at *; omega)), fun _ => by (first | omega | (unfold zBd at *; omega)), fun _ => by (first | omega | (unfold zBd at *; omega))⟩) hP9 hD9 hS
  by_cases h_9 : x0.toInt = 7
  ·
    as_aux_lemma =>
      refine lv_tableIn (pc := 1) (off := 92) (tgt := 93) hx hb dX12_has_1 (by rw [h_9]; decide) (by rw [h_9]; decide) (by rw [h_9]; decide +kernel) (by decide) ?_
      refine lv_aload_n (pc := 93) hx hb dX12_has_93 rfl (lv_at hl 0 rfl) ?_
      refine va_get (pc := 94) (ci := 12) (v := .int x21) (C := RX12) (T := TX12) (N := 73) hx hb hts iX12 hown hK hP 0 rfl rfl 59 (by decide) (hts _ tw_1460) (fun _ h9 => h9) rfl dX12_has_94 ?_
      have bd_h_x21 : 0 ≤ x21.toInt ∧ x21.toInt ≤ 200 := h_x21
      have hP9 : va_P D gcl (zS_69 cB cC cI cJ a0 a1 x1 x2 x3 x4 x5 x6 x7 x8 a2 a3 a4 a5 a6 a7 a8 a9 a10 a11 a12 a13 a14 a15 a16 x9 x10 x11 x12 x13 x14 a17 a18 a19 x15 a20 x16 a21 x17 x18 a22 a23 a24 a25 x19 a26 x20 a27 a28 a29 y0 a30 a31 a32 a33 a34 a35 a36 a37 a38 x21 x22 x23 y1 a39 x24 a40 a41 a42 a43 x25 x26 x27 x28 a22 f0) s.heap := g_psub hP [0, 1] rfl
      have hD9 : va_D A (zS_69 cB cC cI cJ a0 a1 x1 x2 x3 x4 x5 x6 x7 x8 a2 a3 a4 a5 a6 a7 a8 a9 a10 a11 a12 a13 a14 a15 a16 x9 x10 x11 x12 x13 x14 a17 a18 a19 x15 a20 x16 a21 x17 x18 a22 a23 a24 a25 x19 a26 x20 a27 a28 a29 y0 a30 a31 a32 a33 a34 a35 a36 a37 a38 x21 x22 x23 y1 a39 x24 a40 a41 a42 a43 x25 x26 x27 x28 a22 f0) := hD.sub [0, 1] (by decide) rfl
      exact hret x21 ((fun _ => 0), (fun _ => (fun _ => 0)), (fun _ => (fun _ => 0)), (fun _ => 0), (fun _ => 0)) dX12_has_97 (show haQ x21.toInt x0.toInt x9.toInt x10.toInt x11.toInt x12.toInt x13.toInt ((f0 0).toInt) x14.toInt x21.toInt x22.toInt x23.toInt from ⟨fun _ => by (first | omega | (unfold zBd at *; omega)), fun _ => by (first | omega | (unfold zBd at *; omega)), fun _ => by (first | omega | (unfold zBd at *; omega)), fun _ => by (first | omega | (unfold zBd at *; omega)), fun _ => by (first | omega | (unfold zBd at *; omega)), fun _ => by (first | omega | (unfold zBd at *; omega)), fun _ => by (first | omega | (unfold zBd at *; omega)), fun _ => by (first | omega | (unfold zBd at *; omega)), fun _ => by (first | omega | (unfold zBd at *; omega)), fun _ => by (first | omega | (unfold zBd at *; omega)), fun _ => by (first | omega | (unfold zBd at *; omega))⟩) hP9 hD9 hS
  by_cases h_10 : x0.toInt = 8
  ·
    as_aux_lemma =>
      refine lv_tableIn (pc := 1) (off := 97) (tgt := 98) hx hb dX12_has_1 (by rw [h_10]; decide) (by rw [h_10]; decide) (by rw [h_10]; decide +kernel) (by decide) ?_
      refine lv_aload_n (pc := 98) hx hb dX12_has_98 rfl (lv_at hl 0 rfl) ?_
      refine va_get (pc := 99) (ci := 12) (v := .int x22) (C := RX12) (T := TX12) (N := 73) hx hb hts iX12 hown hK hP 0 rfl rfl 60 (by decide) (hts _ tw_1461) (fun _ h9 => h9) rfl dX12_has_99 ?_
      have bd_h_x22 : 0 ≤ x22.toInt ∧ x22.toInt ≤ 40 := h_x22
      have hP9 : va_P D gcl (zS_69 cB cC cI cJ a0 a1 x1 x2 x3 x4 x5 x6 x7 x8 a2 a3 a4 a5 a6 a7 a8 a9 a10 a11 a12 a13 a14 a15 a16 x9 x10 x11 x12 x13 x14 a17 a18 a19 x15 a20 x16 a21 x17 x18 a22 a23 a24 a25 x19 a26 x20 a27 a28 a29 y0 a30 a31 a32 a33 a34 a35 a36 a37 a38 x21 x22 x23 y1 a39 x24 a40 a41 a42 a43 x25 x26 x27 x28 a22 f0) s.heap := g_psub hP [0, 1] rfl
      have hD9 : va_D A (zS_69 cB cC cI cJ a0 a1 x1 x2 x3 x4 x5 x6 x7 x8 a2 a3 a4 a5 a6 a7 a8 a9 a10 a11 a12 a13 a14 a15 a16 x9 x10 x11 x12 x13 x14 a17 a18 a19 x15 a20 x16 a21 x17 x18 a22 a23 a24 a25 x19 a26 x20 a27 a28 a29 y0 a30 a31 a32 a33 a34 a35 a36 a37 a38 x21 x22 x23 y1 a39 x24 a40 a41 a42 a43 x25 x26 x27 x28 a22 f0) := hD.sub [0, 1] (by decide) rfl
      exact hret x22 ((fun _ => 0), (fun _ => (fun _ => 0)), (fun _ => (fun _ => 0)), (fun _ => 0), (fun _ => 0)) dX12_has_102 (show haQ x22.toInt x0.toInt x9.toInt x10.toInt x11.toInt x12.toInt x13.toInt ((f0 0).toInt) x14.toInt x21.toInt x22.toInt x23.toInt from ⟨fun _ => by (first | omega | (unfold zBd at *; omega)), fun _ => by (first | omega | (unfold zBd at *; omega)), fun _ => by (first | omega | (unfold zBd at *; omega)), fun _ => by (first | omega | (unfold zBd at *; omega)), fun _ => by (first | omega | (unfold zBd at *; omega)), fun _ => by (first | omega | (unfold zBd at *; omega)), fun _ => by (first | omega | (unfold zBd at *; omega)), fun _ => by (first | omega | (unfold zBd at *; omega)), fun _ => by (first | omega | (unfold zBd at *; omega)), fun _ => by (first | omega | (unfold zBd at *; omega)), fun _ => by (first | omega | (unfold zBd at *; omega))⟩) hP9 hD9 hS
  by_cases h_11 : x0.toInt = 9
  ·
    as_aux_lemma =>
      refine lv_tableIn (pc := 1) (off := 102) (tgt := 103) hx hb dX12_has_1 (by rw [h_11]; decide) (by rw [h_11]; decide) (by rw [h_11]; decide +kernel) (by decide) ?_
      refine lv_aload_n (pc := 103) hx hb dX12_has_103 rfl (lv_at hl 0 rfl) ?_
      refine va_get (pc := 104) (ci := 12) (v := .int x23) (C := RX12) (T := TX12) (N := 73) hx hb hts iX12 hown hK hP 0 rfl rfl 61 (by decide) (hts _ tw_1462) (fun _ h9 => h9) rfl dX12_has_104 ?_
      have bd_h_x23 : 0 ≤ x23.toInt ∧ x23.toInt ≤ 40 := h_x23
      have hP9 : va_P D gcl (zS_69 cB cC cI cJ a0 a1 x1 x2 x3 x4 x5 x6 x7 x8 a2 a3 a4 a5 a6 a7 a8 a9 a10 a11 a12 a13 a14 a15 a16 x9 x10 x11 x12 x13 x14 a17 a18 a19 x15 a20 x16 a21 x17 x18 a22 a23 a24 a25 x19 a26 x20 a27 a28 a29 y0 a30 a31 a32 a33 a34 a35 a36 a37 a38 x21 x22 x23 y1 a39 x24 a40 a41 a42 a43 x25 x26 x27 x28 a22 f0) s.heap := g_psub hP [0, 1] rfl
      have hD9 : va_D A (zS_69 cB cC cI cJ a0 a1 x1 x2 x3 x4 x5 x6 x7 x8 a2 a3 a4 a5 a6 a7 a8 a9 a10 a11 a12 a13 a14 a15 a16 x9 x10 x11 x12 x13 x14 a17 a18 a19 x15 a20 x16 a21 x17 x18 a22 a23 a24 a25 x19 a26 x20 a27 a28 a29 y0 a30 a31 a32 a33 a34 a35 a36 a37 a38 x21 x22 x23 y1 a39 x24 a40 a41 a42 a43 x25 x26 x27 x28 a22 f0) := hD.sub [0, 1] (by decide) rfl
      exact hret x23 ((fun _ => 0), (fun _ => (fun _ => 0)), (fun _ => (fun _ => 0)), (fun _ => 0), (fun _ => 0)) dX12_has_107 (show haQ x23.toInt x0.toInt x9.toInt x10.toInt x11.toInt x12.toInt x13.toInt ((f0 0).toInt) x14.toInt x21.toInt x22.toInt x23.toInt from ⟨fun _ => by (first | omega | (unfold zBd at *; omega)), fun _ => by (first | omega | (unfold zBd at *; omega)), fun _ => by (first | omega | (unfold zBd at *; omega)), fun _ => by (first | omega | (unfold zBd at *; omega)), fun _ => by (first | omega | (unfold zBd at *; omega)), fun _ => by (first | omega | (unfold zBd at *; omega)), fun _ => by (first | omega | (unfold zBd at *; omega)), fun _ => by (first | omega | (unfold zBd at *; omega)), fun _ => by (first | omega | (unfold zBd at *; omega)), fun _ => by (first | omega | (unfold zBd at *; omega)), fun _ => by (first | omega | (unfold zBd at *; omega))⟩) hP9 hD9 hS
  refine lv_tableOut (pc := 1) (tgt := 108) hx hb dX12_has_1 (by (first | omega | (unfold zBd at *; omega))) (by decide) ?_
  refine lv_iconst (pc := 108) (v := (-1)) hx hb dX12_has_108 (by decide) ?_
  have hP9 : va_P D gcl (zS_69 cB cC cI cJ a0 a1 x1 x2 x3 x4 x5 x6 x7 x8 a2 a3 a4 a5 a6 a7 a8 a9 a10 a11 a12 a13 a14 a15 a16 x9 x10 x11 x12 x13 x14 a17 a18 a19 x15 a20 x16 a21 x17 x18 a22 a23 a24 a25 x19 a26 x20 a27 a28 a29 y0 a30 a31 a32 a33 a34 a35 a36 a37 a38 x21 x22 x23 y1 a39 x24 a40 a41 a42 a43 x25 x26 x27 x28 a22 f0) s.heap := g_psub hP [0, 1] rfl
  have hD9 : va_D A (zS_69 cB cC cI cJ a0 a1 x1 x2 x3 x4 x5 x6 x7 x8 a2 a3 a4 a5 a6 a7 a8 a9 a10 a11 a12 a13 a14 a15 a16 x9 x10 x11 x12 x13 x14 a17 a18 a19 x15 a20 x16 a21 x17 x18 a22 a23 a24 a25 x19 a26 x20 a27 a28 a29 y0 a30 a31 a32 a33 a34 a35 a36 a37 a38 x21 x22 x23 y1 a39 x24 a40 a41 a42 a43 x25 x26 x27 x28 a22 f0) := hD.sub [0, 1] (by decide) rfl
  have k9 := tI_m1
  exact hret (-1) ((fun _ => 0), (fun _ => (fun _ => 0)), (fun _ => (fun _ => 0)), (fun _ => 0), (fun _ => 0)) dX12_has_109 (show haQ ((-1) : Int32).toInt x0.toInt x9.toInt x10.toInt x11.toInt x12.toInt x13.toInt ((f0 0).toInt) x14.toInt x21.toInt x22.toInt x23.toInt from ⟨fun _ => by (first | omega | (unfold zBd at *; omega)), fun _ => by (first | omega | (unfold zBd at *; omega)), fun _ => by (first | omega | (unfold zBd at *; omega)), fun _ => by (first | omega | (unfold zBd at *; omega)), fun _ => by (first | omega | (unfold zBd at *; omega)), fun _ => by (first | omega | (unfold zBd at *; omega)), fun _ => by (first | omega | (unfold zBd at *; omega)), fun _ => by (first | omega | (unfold zBd at *; omega)), fun _ => by (first | omega | (unfold zBd at *; omega)), fun _ => by (first | omega | (unfold zBd at *; omega)), fun _ => by (first | omega | (unfold zBd at *; omega))⟩) hP9 hD9 hS
theorem om_1518 {a b c d : Int} (h0 : ((a = 0 ∧ b < c) ∨ (a = 0 ∧ b ≥ c ∧ b > d) ∨ (a = 1 ∧ b ≥ c ∧ b ≤ d))) : ((0 ≤ a ∧ a ≤ 1)) := by omega
theorem om_1519 {a b c d e f g : Int} (h0 : ((b = 0 ∧ d < e) ∨ (b = 0 ∧ d ≥ e ∧ d > f) ∨ (b = 1 ∧ d ≥ e ∧ d ≤ f))) (h1 : ((-2147483648) ≤ a)) (h2 : (d = a)) (h3 : (e = 0)) (h4 : (a ≤ 2147483647)) (h5 : (0 ≤ c)) (h6 : (g = c - 1)) (h7 : (f = g)) : (-a ≤ 4294967296 - 4294967296 * b ∧ a ≤ c - 1 + 4294967296 - 4294967296 * b) := by omega
theorem om_1520 {a b c d : Int} (h0 : ((a = 0 ∧ b < c) ∨ (a = 0 ∧ b ≥ c ∧ b > d) ∨ (a = 1 ∧ b ≥ c ∧ b ≤ d))) : ((a = 0 ∨ a = 1)) := by omega
set_option maxHeartbeats 4000000 in
set_option maxRecDepth 100000 in
theorem k_X12_isReceiver (l : Launch) (D : va_G) (cB cC cI cJ : ClassId) (sz : Nat) (a0 a1 a2 a3 a4 a5 a6 a7 a8 a9 a10 a11 a12 a13 a14 a15 a16 a17 a18 a19 a20 a21 a22 a23 a24 a25 a26 a27 a28 a29 a30 a31 a32 a33 a34 a35 a36 a37 a38 a39 a40 a41 a42 a43 : Nat) (x0 x1 x2 x3 x4 x5 x6 x7 x8 x9 x10 x11 x12 x13 x14 x15 x16 x17 x18 x19 x20 x21 x22 x23 x24 x25 x26 x27 x28 : Int32) (y0 y1 : Int64) (h_x1 : zBd x1.toInt 0 1600) (h_x2 : zBd x2.toInt 0 1600) (h_x3 : zBd x3.toInt 0 1600) (h_x4 : zBd x4.toInt (-1) 1600) (h_x5 : zBd x5.toInt 0 4) (h_x6 : zBd x6.toInt (-1) 1600) (h_x9 : zBd x9.toInt 0 8) (h_x10 : zBd x10.toInt 0 5) (h_x11 : zBd x11.toInt 0 6) (h_x12 : zBd x12.toInt 0 6) (h_x13 : zBd x13.toInt 0 16) (h_x15 : zBd x15.toInt 0 60) (h_x16 : zBd x16.toInt 0 1600) (h_x17 : zBd x17.toInt 0 1700) (h_x19 : zBd x19.toInt 0 1700) (h_x20 : zBd x20.toInt 0 1700) (h_x21 : zBd x21.toInt 0 200) (h_x22 : zBd x22.toInt 0 40) (h_x23 : zBd x23.toInt 0 40) (h_x24 : zBd x24.toInt 0 1) (h_x25 : zBd x25.toInt 0 14) (h_x26 : zBd x26.toInt 0 200) (h_x27 : zBd x27.toInt 0 40) (h_x28 : zBd x28.toInt 0 40) (hr_a0_0 : (x22.toInt ≤ x21.toInt)) (hr_a0_1 : (x21.toInt + x23.toInt ≤ 200)) (hr_a0_2 : (x10.toInt = 0 ∨ 2 ≤ x9.toInt)) : Met l yX12_isReceiver (.code yX12_isReceiver cX12_isReceiver 2 (some .boolean) :: lw_gd) ({ frames := 1, cells := 0, slots := 0, locals := 25 }) (gPre D [(cB, .byte), (cC, .char), (cI, .int), (cJ, .long)] [.ref a0, .int x0] (zS_4 cB cC cI cJ a0 a1 x1 x2 x3 x4 x5 x6 x7 x8 a2 a3 a4 a5 a6 a7 a8 a9 a10 a11 a12 a13 a14 a15 a16 x9 x10 x11 x12 x13 x14 a17 a18 a19 x15 a20 x16 a21 x17 x18 a22 a23 a24 a25 x19 a26 x20 a27 a28 a29 y0 a30 a31 a32 a33 a34 a35 a36 a37 a38 x21 x22 x23 y1 a39 x24 a40 a41 a42 a43 x25 x26 x27 x28) sz) (va_Qi (fun r u => (0 ≤ r.toInt ∧ r.toInt ≤ 1) ∧ (-x0.toInt ≤ 4294967296 - 4294967296 * r.toInt ∧ x0.toInt ≤ x11.toInt - 1 + 4294967296 - 4294967296 * r.toInt) ∧ (inQ r.toInt x0.toInt x11.toInt)) (gB D (va_A (zS_4 cB cC cI cJ a0 a1 x1 x2 x3 x4 x5 x6 x7 x8 a2 a3 a4 a5 a6 a7 a8 a9 a10 a11 a12 a13 a14 a15 a16 x9 x10 x11 x12 x13 x14 a17 a18 a19 x15 a20 x16 a21 x17 x18 a22 a23 a24 a25 x19 a26 x20 a27 a28 a29 y0 a30 a31 a32 a33 a34 a35 a36 a37 a38 x21 x22 x23 y1 a39 x24 a40 a41 a42 a43 x25 x26 x27 x28) sz) (fun u : gEx => (zS_4 cB cC cI cJ a0 a1 x1 x2 x3 x4 x5 x6 x7 x8 a2 a3 a4 a5 a6 a7 a8 a9 a10 a11 a12 a13 a14 a15 a16 x9 x10 x11 x12 x13 x14 a17 a18 a19 x15 a20 x16 a21 x17 x18 a22 a23 a24 a25 x19 a26 x20 a27 a28 a29 y0 a30 a31 a32 a33 a34 a35 a36 a37 a38 x21 x22 x23 y1 a39 x24 a40 a41 a42 a43 x25 x26 x27 x28))) (va_A (zS_4 cB cC cI cJ a0 a1 x1 x2 x3 x4 x5 x6 x7 x8 a2 a3 a4 a5 a6 a7 a8 a9 a10 a11 a12 a13 a14 a15 a16 x9 x10 x11 x12 x13 x14 a17 a18 a19 x15 a20 x16 a21 x17 x18 a22 a23 a24 a25 x19 a26 x20 a27 a28 a29 y0 a30 a31 a32 a33 a34 a35 a36 a37 a38 x21 x22 x23 y1 a39 x24 a40 a41 a42 a43 x25 x26 x27 x28) sz)) 0 0 (va_A (zS_4 cB cC cI cJ a0 a1 x1 x2 x3 x4 x5 x6 x7 x8 a2 a3 a4 a5 a6 a7 a8 a9 a10 a11 a12 a13 a14 a15 a16 x9 x10 x11 x12 x13 x14 a17 a18 a19 x15 a20 x16 a21 x17 x18 a22 a23 a24 a25 x19 a26 x20 a27 a28 a29 y0 a30 a31 a32 a33 a34 a35 a36 a37 a38 x21 x22 x23 y1 a39 x24 a40 a41 a42 a43 x25 x26 x27 x28) sz) := by
  refine gOf_z (by decide +kernel) (Nat.le_of_ble_eq_true rfl) ?_
  intro p e s m args below meth c ls A Q hx hb hts hown hml hN hK hP hD hA hl hret
  replace hown : s.vm.findClass RX12 = some m.cls := hown
  have hS : va_S A s.heap s.heap [] := va_S.rf
  replace hP : va_P D gcl (zS_4 cB cC cI cJ a0 a1 x1 x2 x3 x4 x5 x6 x7 x8 a2 a3 a4 a5 a6 a7 a8 a9 a10 a11 a12 a13 a14 a15 a16 x9 x10 x11 x12 x13 x14 a17 a18 a19 x15 a20 x16 a21 x17 x18 a22 a23 a24 a25 x19 a26 x20 a27 a28 a29 y0 a30 a31 a32 a33 a34 a35 a36 a37 a38 x21 x22 x23 y1 a39 x24 a40 a41 a42 a43 x25 x26 x27 x28) s.heap := hP
  replace hl : lv_has ls 2 [(0, .ref a0), (1, .int x0)] := hl
  have rx0 : zBd x0.toInt (-2147483648) 2147483647 := n_rng x0
  have rx7 : zBd x7.toInt (-2147483648) 2147483647 := n_rng x7
  have rx8 : zBd x8.toInt (-2147483648) 2147483647 := n_rng x8
  have rx14 : zBd x14.toInt (-2147483648) 2147483647 := n_rng x14
  have rx18 : zBd x18.toInt (-2147483648) 2147483647 := n_rng x18
  have ry0 := n_rngL y0
  have ry1 := n_rngL y1
  refine lv_iload_n (pc := 0) hx hb dX12_isReceiver_0 rfl (lv_at hl 1 rfl) ?_
  refine b_i2l (pc := 1) hx hb rfl dX12_isReceiver_1 (fun y_1 ey_1 => ?_)
  have ry_1 : zBd x0.toInt (-2147483648) 2147483647 := n_rng x0
  refine lv_lconst (pc := 2) (v := 0) hx hb dX12_isReceiver_2 (by decide) ?_
  refine lv_aload_n (pc := 3) hx hb dX12_isReceiver_3 rfl (lv_at hl 0 rfl) ?_
  refine va_get (pc := 4) (ci := 12) (v := .int x11) (C := RX12) (T := TX12) (N := 73) hx hb hts iX12 hown hK hP 0 rfl rfl 26 (by decide) (hts _ tw_1427) (fun _ h9 => h9) rfl dX12_isReceiver_4 ?_
  have bd_h_x11 : 0 ≤ x11.toInt ∧ x11.toInt ≤ 6 := h_x11
  refine lv_iconst (pc := 7) (v := 1) hx hb dX12_isReceiver_7 (by decide) ?_
  refine b_isub (pc := 8) hx hb rfl tI_1 (by first | exact (om_659 h_x11.1) | ((first | omega | (unfold zBd at *; omega)))) (by first | exact (om_185 h_x11.2) | ((first | omega | (unfold zBd at *; omega)))) dX12_isReceiver_8 (fun x_2 ex_2 => ?_)
  refine b_i2l (pc := 9) hx hb rfl dX12_isReceiver_9 (fun y_3 ey_3 => ?_)
  have ry_3 : zBd x_2.toInt (-2147483648) 2147483647 := n_rng x_2
  refine gd_i (pc := 10) (wc := []) hP hD hS hA [] rfl (by decide +kernel) (fun _ => by rfl) (fun hPc hDc => va_runS (As := [.long y_1, .long 0, .long y_3]) (rest := []) ⟨hx, hb, hml, hown, hts⟩ (k_X12_isIn l D cB cC cI cJ _ y_1 0 y_3) ⟨gcwB hts tw_1666 tw_14 tw_1664 hd_yX12_isIn ⟨Nat.le_of_ble_eq_true rfl, Nat.le_of_ble_eq_true rfl⟩, hts _ tw_1665⟩ (gpreS hPc hK hDc hN) rfl rfl hl.1 rfl (lv_room (Nat.le_of_ble_eq_true rfl)) dX12_isReceiver_10 ⟨Nat.le_of_ble_eq_true rfl, Nat.le_of_ble_eq_true rfl⟩) (fun r_5 u_4 H locs hw_6 hP hD hS => ?_)
  replace hP : va_P D gcl (zS_4 cB cC cI cJ a0 a1 x1 x2 x3 x4 x5 x6 x7 x8 a2 a3 a4 a5 a6 a7 a8 a9 a10 a11 a12 a13 a14 a15 a16 x9 x10 x11 x12 x13 x14 a17 a18 a19 x15 a20 x16 a21 x17 x18 a22 a23 a24 a25 x19 a26 x20 a27 a28 a29 y0 a30 a31 a32 a33 a34 a35 a36 a37 a38 x21 x22 x23 y1 a39 x24 a40 a41 a42 a43 x25 x26 x27 x28) H := hP
  replace hD : va_D A (zS_4 cB cC cI cJ a0 a1 x1 x2 x3 x4 x5 x6 x7 x8 a2 a3 a4 a5 a6 a7 a8 a9 a10 a11 a12 a13 a14 a15 a16 x9 x10 x11 x12 x13 x14 a17 a18 a19 x15 a20 x16 a21 x17 x18 a22 a23 a24 a25 x19 a26 x20 a27 a28 a29 y0 a30 a31 a32 a33 a34 a35 a36 a37 a38 x21 x22 x23 y1 a39 x24 a40 a41 a42 a43 x25 x26 x27 x28) := hD
  have hw_7 : ((r_5.toInt = 0 ∧ y_1.toInt < (0 : Int64).toInt) ∨ (r_5.toInt = 0 ∧ y_1.toInt ≥ (0 : Int64).toInt ∧ y_1.toInt > y_3.toInt) ∨ (r_5.toInt = 1 ∧ y_1.toInt ≥ (0 : Int64).toInt ∧ y_1.toInt ≤ y_3.toInt)) := hw_6
  have kk0_r_5 := tL_0
  have rr_5 : zBd r_5.toInt (-2147483648) 2147483647 := n_rng r_5
  have hP9 : va_P D gcl (zS_4 cB cC cI cJ a0 a1 x1 x2 x3 x4 x5 x6 x7 x8 a2 a3 a4 a5 a6 a7 a8 a9 a10 a11 a12 a13 a14 a15 a16 x9 x10 x11 x12 x13 x14 a17 a18 a19 x15 a20 x16 a21 x17 x18 a22 a23 a24 a25 x19 a26 x20 a27 a28 a29 y0 a30 a31 a32 a33 a34 a35 a36 a37 a38 x21 x22 x23 y1 a39 x24 a40 a41 a42 a43 x25 x26 x27 x28) H := g_psub hP [0] rfl
  have hD9 : va_D A (zS_4 cB cC cI cJ a0 a1 x1 x2 x3 x4 x5 x6 x7 x8 a2 a3 a4 a5 a6 a7 a8 a9 a10 a11 a12 a13 a14 a15 a16 x9 x10 x11 x12 x13 x14 a17 a18 a19 x15 a20 x16 a21 x17 x18 a22 a23 a24 a25 x19 a26 x20 a27 a28 a29 y0 a30 a31 a32 a33 a34 a35 a36 a37 a38 x21 x22 x23 y1 a39 x24 a40 a41 a42 a43 x25 x26 x27 x28) := hD.sub [0] (by decide) rfl
  exact hret r_5 ((fun _ => 0), (fun _ => (fun _ => 0)), (fun _ => (fun _ => 0)), (fun _ => 0), (fun _ => 0)) dX12_isReceiver_13 ⟨(by first | exact (om_1520 hw_7) | ((first | omega | (unfold zBd at *; omega)))), ⟨(show (0 ≤ r_5.toInt ∧ r_5.toInt ≤ 1) from (by first | exact (om_1518 hw_7) | ((first | omega | (unfold zBd at *; omega))))), (show -x0.toInt ≤ 4294967296 - 4294967296 * r_5.toInt ∧ x0.toInt ≤ x11.toInt - 1 + 4294967296 - 4294967296 * r_5.toInt from (by first | exact (om_1519 hw_7 ry_1.1 ey_1 tL_0 ry_1.2 h_x11.1 ex_2 ey_3) | ((first | omega | (unfold zBd at *; omega))))), (show inQ r_5.toInt x0.toInt x11.toInt from (by unfold inQ; (first | omega | (unfold zBd at *; omega))))⟩⟩ hP9 hD9 hS
set_option maxHeartbeats 4000000 in
set_option maxRecDepth 100000 in
theorem k_X12_isSender (l : Launch) (D : va_G) (cB cC cI cJ : ClassId) (sz : Nat) (a0 a1 a2 a3 a4 a5 a6 a7 a8 a9 a10 a11 a12 a13 a14 a15 a16 a17 a18 a19 a20 a21 a22 a23 a24 a25 a26 a27 a28 a29 a30 a31 a32 a33 a34 a35 a36 a37 a38 a39 a40 a41 a42 a43 : Nat) (x0 x1 x2 x3 x4 x5 x6 x7 x8 x9 x10 x11 x12 x13 x14 x15 x16 x17 x18 x19 x20 x21 x22 x23 x24 x25 x26 x27 x28 : Int32) (y0 y1 : Int64) (h_x1 : zBd x1.toInt 0 1600) (h_x2 : zBd x2.toInt 0 1600) (h_x3 : zBd x3.toInt 0 1600) (h_x4 : zBd x4.toInt (-1) 1600) (h_x5 : zBd x5.toInt 0 4) (h_x6 : zBd x6.toInt (-1) 1600) (h_x9 : zBd x9.toInt 0 8) (h_x10 : zBd x10.toInt 0 5) (h_x11 : zBd x11.toInt 0 6) (h_x12 : zBd x12.toInt 0 6) (h_x13 : zBd x13.toInt 0 16) (h_x15 : zBd x15.toInt 0 60) (h_x16 : zBd x16.toInt 0 1600) (h_x17 : zBd x17.toInt 0 1700) (h_x19 : zBd x19.toInt 0 1700) (h_x20 : zBd x20.toInt 0 1700) (h_x21 : zBd x21.toInt 0 200) (h_x22 : zBd x22.toInt 0 40) (h_x23 : zBd x23.toInt 0 40) (h_x24 : zBd x24.toInt 0 1) (h_x25 : zBd x25.toInt 0 14) (h_x26 : zBd x26.toInt 0 200) (h_x27 : zBd x27.toInt 0 40) (h_x28 : zBd x28.toInt 0 40) (hr_a0_0 : (x22.toInt ≤ x21.toInt)) (hr_a0_1 : (x21.toInt + x23.toInt ≤ 200)) (hr_a0_2 : (x10.toInt = 0 ∨ 2 ≤ x9.toInt)) : Met l yX12_isSender (.code yX12_isSender cX12_isSender 2 (some .boolean) :: lw_gd) ({ frames := 1, cells := 0, slots := 0, locals := 25 }) (gPre D [(cB, .byte), (cC, .char), (cI, .int), (cJ, .long)] [.ref a0, .int x0] (zS_4 cB cC cI cJ a0 a1 x1 x2 x3 x4 x5 x6 x7 x8 a2 a3 a4 a5 a6 a7 a8 a9 a10 a11 a12 a13 a14 a15 a16 x9 x10 x11 x12 x13 x14 a17 a18 a19 x15 a20 x16 a21 x17 x18 a22 a23 a24 a25 x19 a26 x20 a27 a28 a29 y0 a30 a31 a32 a33 a34 a35 a36 a37 a38 x21 x22 x23 y1 a39 x24 a40 a41 a42 a43 x25 x26 x27 x28) sz) (va_Qi (fun r u => (0 ≤ r.toInt ∧ r.toInt ≤ 1) ∧ (-x0.toInt ≤ 4294967296 - 4294967296 * r.toInt ∧ x0.toInt ≤ x10.toInt - 1 + 4294967296 - 4294967296 * r.toInt) ∧ (inQ r.toInt x0.toInt x10.toInt)) (gB D (va_A (zS_4 cB cC cI cJ a0 a1 x1 x2 x3 x4 x5 x6 x7 x8 a2 a3 a4 a5 a6 a7 a8 a9 a10 a11 a12 a13 a14 a15 a16 x9 x10 x11 x12 x13 x14 a17 a18 a19 x15 a20 x16 a21 x17 x18 a22 a23 a24 a25 x19 a26 x20 a27 a28 a29 y0 a30 a31 a32 a33 a34 a35 a36 a37 a38 x21 x22 x23 y1 a39 x24 a40 a41 a42 a43 x25 x26 x27 x28) sz) (fun u : gEx => (zS_4 cB cC cI cJ a0 a1 x1 x2 x3 x4 x5 x6 x7 x8 a2 a3 a4 a5 a6 a7 a8 a9 a10 a11 a12 a13 a14 a15 a16 x9 x10 x11 x12 x13 x14 a17 a18 a19 x15 a20 x16 a21 x17 x18 a22 a23 a24 a25 x19 a26 x20 a27 a28 a29 y0 a30 a31 a32 a33 a34 a35 a36 a37 a38 x21 x22 x23 y1 a39 x24 a40 a41 a42 a43 x25 x26 x27 x28))) (va_A (zS_4 cB cC cI cJ a0 a1 x1 x2 x3 x4 x5 x6 x7 x8 a2 a3 a4 a5 a6 a7 a8 a9 a10 a11 a12 a13 a14 a15 a16 x9 x10 x11 x12 x13 x14 a17 a18 a19 x15 a20 x16 a21 x17 x18 a22 a23 a24 a25 x19 a26 x20 a27 a28 a29 y0 a30 a31 a32 a33 a34 a35 a36 a37 a38 x21 x22 x23 y1 a39 x24 a40 a41 a42 a43 x25 x26 x27 x28) sz)) 0 0 (va_A (zS_4 cB cC cI cJ a0 a1 x1 x2 x3 x4 x5 x6 x7 x8 a2 a3 a4 a5 a6 a7 a8 a9 a10 a11 a12 a13 a14 a15 a16 x9 x10 x11 x12 x13 x14 a17 a18 a19 x15 a20 x16 a21 x17 x18 a22 a23 a24 a25 x19 a26 x20 a27 a28 a29 y0 a30 a31 a32 a33 a34 a35 a36 a37 a38 x21 x22 x23 y1 a39 x24 a40 a41 a42 a43 x25 x26 x27 x28) sz) := by
  refine gOf_z (by decide +kernel) (Nat.le_of_ble_eq_true rfl) ?_
  intro p e s m args below meth c ls A Q hx hb hts hown hml hN hK hP hD hA hl hret
  replace hown : s.vm.findClass RX12 = some m.cls := hown
  have hS : va_S A s.heap s.heap [] := va_S.rf
  replace hP : va_P D gcl (zS_4 cB cC cI cJ a0 a1 x1 x2 x3 x4 x5 x6 x7 x8 a2 a3 a4 a5 a6 a7 a8 a9 a10 a11 a12 a13 a14 a15 a16 x9 x10 x11 x12 x13 x14 a17 a18 a19 x15 a20 x16 a21 x17 x18 a22 a23 a24 a25 x19 a26 x20 a27 a28 a29 y0 a30 a31 a32 a33 a34 a35 a36 a37 a38 x21 x22 x23 y1 a39 x24 a40 a41 a42 a43 x25 x26 x27 x28) s.heap := hP
  replace hl : lv_has ls 2 [(0, .ref a0), (1, .int x0)] := hl
  have rx0 : zBd x0.toInt (-2147483648) 2147483647 := n_rng x0
  have rx7 : zBd x7.toInt (-2147483648) 2147483647 := n_rng x7
  have rx8 : zBd x8.toInt (-2147483648) 2147483647 := n_rng x8
  have rx14 : zBd x14.toInt (-2147483648) 2147483647 := n_rng x14
  have rx18 : zBd x18.toInt (-2147483648) 2147483647 := n_rng x18
  have ry0 := n_rngL y0
  have ry1 := n_rngL y1
  refine lv_iload_n (pc := 0) hx hb dX12_isSender_0 rfl (lv_at hl 1 rfl) ?_
  refine b_i2l (pc := 1) hx hb rfl dX12_isSender_1 (fun y_1 ey_1 => ?_)
  have ry_1 : zBd x0.toInt (-2147483648) 2147483647 := n_rng x0
  refine lv_lconst (pc := 2) (v := 0) hx hb dX12_isSender_2 (by decide) ?_
  refine lv_aload_n (pc := 3) hx hb dX12_isSender_3 rfl (lv_at hl 0 rfl) ?_
  refine va_get (pc := 4) (ci := 12) (v := .int x10) (C := RX12) (T := TX12) (N := 73) hx hb hts iX12 hown hK hP 0 rfl rfl 25 (by decide) (hts _ tw_1426) (fun _ h9 => h9) rfl dX12_isSender_4 ?_
  have bd_h_x10 : 0 ≤ x10.toInt ∧ x10.toInt ≤ 5 := h_x10
  refine lv_iconst (pc := 7) (v := 1) hx hb dX12_isSender_7 (by decide) ?_
  refine b_isub (pc := 8) hx hb rfl tI_1 (by first | exact (om_659 h_x10.1) | ((first | omega | (unfold zBd at *; omega)))) (by first | exact (om_207 h_x10.2) | ((first | omega | (unfold zBd at *; omega)))) dX12_isSender_8 (fun x_2 ex_2 => ?_)
  refine b_i2l (pc := 9) hx hb rfl dX12_isSender_9 (fun y_3 ey_3 => ?_)
  have ry_3 : zBd x_2.toInt (-2147483648) 2147483647 := n_rng x_2
  refine gd_i (pc := 10) (wc := []) hP hD hS hA [] rfl (by decide +kernel) (fun _ => by rfl) (fun hPc hDc => va_runS (As := [.long y_1, .long 0, .long y_3]) (rest := []) ⟨hx, hb, hml, hown, hts⟩ (k_X12_isIn l D cB cC cI cJ _ y_1 0 y_3) ⟨gcwB hts tw_1666 tw_14 tw_1664 hd_yX12_isIn ⟨Nat.le_of_ble_eq_true rfl, Nat.le_of_ble_eq_true rfl⟩, hts _ tw_1665⟩ (gpreS hPc hK hDc hN) rfl rfl hl.1 rfl (lv_room (Nat.le_of_ble_eq_true rfl)) dX12_isSender_10 ⟨Nat.le_of_ble_eq_true rfl, Nat.le_of_ble_eq_true rfl⟩) (fun r_5 u_4 H locs hw_6 hP hD hS => ?_)
  replace hP : va_P D gcl (zS_4 cB cC cI cJ a0 a1 x1 x2 x3 x4 x5 x6 x7 x8 a2 a3 a4 a5 a6 a7 a8 a9 a10 a11 a12 a13 a14 a15 a16 x9 x10 x11 x12 x13 x14 a17 a18 a19 x15 a20 x16 a21 x17 x18 a22 a23 a24 a25 x19 a26 x20 a27 a28 a29 y0 a30 a31 a32 a33 a34 a35 a36 a37 a38 x21 x22 x23 y1 a39 x24 a40 a41 a42 a43 x25 x26 x27 x28) H := hP
  replace hD : va_D A (zS_4 cB cC cI cJ a0 a1 x1 x2 x3 x4 x5 x6 x7 x8 a2 a3 a4 a5 a6 a7 a8 a9 a10 a11 a12 a13 a14 a15 a16 x9 x10 x11 x12 x13 x14 a17 a18 a19 x15 a20 x16 a21 x17 x18 a22 a23 a24 a25 x19 a26 x20 a27 a28 a29 y0 a30 a31 a32 a33 a34 a35 a36 a37 a38 x21 x22 x23 y1 a39 x24 a40 a41 a42 a43 x25 x26 x27 x28) := hD
  have hw_7 : ((r_5.toInt = 0 ∧ y_1.toInt < (0 : Int64).toInt) ∨ (r_5.toInt = 0 ∧ y_1.toInt ≥ (0 : Int64).toInt ∧ y_1.toInt > y_3.toInt) ∨ (r_5.toInt = 1 ∧ y_1.toInt ≥ (0 : Int64).toInt ∧ y_1.toInt ≤ y_3.toInt)) := hw_6
  have kk0_r_5 := tL_0
  have rr_5 : zBd r_5.toInt (-2147483648) 2147483647 := n_rng r_5
  have hP9 : va_P D gcl (zS_4 cB cC cI cJ a0 a1 x1 x2 x3 x4 x5 x6 x7 x8 a2 a3 a4 a5 a6 a7 a8 a9 a10 a11 a12 a13 a14 a15 a16 x9 x10 x11 x12 x13 x14 a17 a18 a19 x15 a20 x16 a21 x17 x18 a22 a23 a24 a25 x19 a26 x20 a27 a28 a29 y0 a30 a31 a32 a33 a34 a35 a36 a37 a38 x21 x22 x23 y1 a39 x24 a40 a41 a42 a43 x25 x26 x27 x28) H := g_psub hP [0] rfl
  have hD9 : va_D A (zS_4 cB cC cI cJ a0 a1 x1 x2 x3 x4 x5 x6 x7 x8 a2 a3 a4 a5 a6 a7 a8 a9 a10 a11 a12 a13 a14 a15 a16 x9 x10 x11 x12 x13 x14 a17 a18 a19 x15 a20 x16 a21 x17 x18 a22 a23 a24 a25 x19 a26 x20 a27 a28 a29 y0 a30 a31 a32 a33 a34 a35 a36 a37 a38 x21 x22 x23 y1 a39 x24 a40 a41 a42 a43 x25 x26 x27 x28) := hD.sub [0] (by decide) rfl
  exact hret r_5 ((fun _ => 0), (fun _ => (fun _ => 0)), (fun _ => (fun _ => 0)), (fun _ => 0), (fun _ => 0)) dX12_isSender_13 ⟨(by first | exact (om_1520 hw_7) | ((first | omega | (unfold zBd at *; omega)))), ⟨(show (0 ≤ r_5.toInt ∧ r_5.toInt ≤ 1) from (by first | exact (om_1518 hw_7) | ((first | omega | (unfold zBd at *; omega))))), (show -x0.toInt ≤ 4294967296 - 4294967296 * r_5.toInt ∧ x0.toInt ≤ x10.toInt - 1 + 4294967296 - 4294967296 * r_5.toInt from (by first | exact (om_1519 hw_7 ry_1.1 ey_1 tL_0 ry_1.2 h_x10.1 ex_2 ey_3) | ((first | omega | (unfold zBd at *; omega))))), (show inQ r_5.toInt x0.toInt x10.toInt from (by unfold inQ; (first | omega | (unfold zBd at *; omega))))⟩⟩ hP9 hD9 hS
theorem om_1521 {a b : Int} (h0 : (¬ b = 0)) (h1 : (0 ≤ b)) (h2 : (-a ≤ 4294967296 - 4294967296 * b)) : (-2147483648 ≤ 5 * a) := by omega
theorem om_1522 {a b c : Int} (h0 : (¬ b = 0)) (h1 : (0 ≤ b)) (h2 : (a ≤ c - 1 + 4294967296 - 4294967296 * b)) (h3 : (c ≤ 6)) : (5 * a ≤ 2147483647) := by omega
theorem om_1523 {a b c d : Int} (h0 : (¬ c = 0)) (h1 : (0 ≤ c)) (h2 : (a = 5 * d)) (h3 : ((-2147483648) ≤ b)) (h4 : (-d ≤ 4294967296 - 4294967296 * c)) : (-2147483648 ≤ a + b) := by omega
theorem om_1524 {a b c d e f g h : Int} (h0 : (¬ c = 0)) (h1 : (d = 0 ∨ 2 ≤ e)) (h2 : (¬ f = 0)) (h3 : (0 ≤ c)) (h4 : (0 ≤ f)) (h5 : (-b ≤ 4294967296 - 4294967296 * c)) (h6 : (b ≤ d - 1 + 4294967296 - 4294967296 * c)) (h7 : (a = 5 * g)) (h8 : (g ≤ h - 1 + 4294967296 - 4294967296 * f)) (h9 : (d ≤ 5)) (h10 : (h ≤ 6)) : (a + b ≤ 2147483647) := by omega
theorem om_1525 {a b c d e f g h : Int} (h0 : (¬ b = 0)) (h1 : (c = 0 ∨ 2 ≤ d)) (h2 : (¬ e = 0)) (h3 : (0 ≤ b)) (h4 : (0 ≤ e)) (h5 : (-f ≤ 4294967296 - 4294967296 * b)) (h6 : (f ≤ c - 1 + 4294967296 - 4294967296 * b)) (h7 : (a = g + f)) (h8 : (g = 5 * h)) (h9 : (-h ≤ 4294967296 - 4294967296 * e)) : (0 ≤ a) := by omega
theorem om_1526 {a b c d e f g h i : Int} (h0 : (¬ b = 0)) (h1 : (c = 0 ∨ 2 ≤ d)) (h2 : (¬ e = 0)) (h3 : (0 ≤ b)) (h4 : (0 ≤ e)) (h5 : (-f ≤ 4294967296 - 4294967296 * b)) (h6 : (f ≤ c - 1 + 4294967296 - 4294967296 * b)) (h7 : (a = g + f)) (h8 : (g = 5 * h)) (h9 : (h ≤ i - 1 + 4294967296 - 4294967296 * e)) (h10 : (c ≤ 5)) (h11 : (i ≤ 6)) : (a < (60 : Nat)) := by omega
theorem om_1527 {a b c d e f g h i : Int} (h0 : (¬ b = 0)) (h1 : (c = 0 ∨ 2 ≤ d)) (h2 : (¬ e = 0)) (h3 : (0 ≤ b)) (h4 : (0 ≤ e)) (h5 : (-f ≤ 4294967296 - 4294967296 * b)) (h6 : (f ≤ c - 1 + 4294967296 - 4294967296 * b)) (h7 : (a = g + f)) (h8 : (g = 5 * h)) (h9 : (h ≤ i - 1 + 4294967296 - 4294967296 * e)) (h10 : (c ≤ 5)) (h11 : (i ≤ 6)) : (a < (30 : Nat)) := by omega
set_option maxHeartbeats 4000000 in
set_option maxRecDepth 100000 in
theorem k_X12_table (l : Launch) (D : va_G) (cB cC cI cJ : ClassId) (sz : Nat) (a0 a1 a2 a3 a4 a5 a6 a7 a8 a9 a10 a11 a12 a13 a14 a15 a16 a17 a18 a19 a20 a21 a22 a23 a24 a25 a26 a27 a28 a29 a30 a31 a32 a33 a34 a35 a36 a37 a38 a39 a40 a41 a42 a43 : Nat) (x0 x1 x2 x3 x4 x5 x6 x7 x8 x9 x10 x11 x12 x13 x14 x15 x16 x17 x18 x19 x20 x21 x22 x23 x24 x25 x26 x27 x28 x29 x30 : Int32) (y0 y1 : Int64) (f0 f1 : Nat → Int32) (hp3 : (0 ≤ x2.toInt ∧ x2.toInt ≤ 1)) (h_x3 : zBd x3.toInt 0 1600) (h_x4 : zBd x4.toInt 0 1600) (h_x5 : zBd x5.toInt 0 1600) (h_x6 : zBd x6.toInt (-1) 1600) (h_x7 : zBd x7.toInt 0 4) (h_x8 : zBd x8.toInt (-1) 1600) (h_x11 : zBd x11.toInt 0 8) (h_x12 : zBd x12.toInt 0 5) (h_x13 : zBd x13.toInt 0 6) (h_x14 : zBd x14.toInt 0 6) (h_x15 : zBd x15.toInt 0 16) (h_x17 : zBd x17.toInt 0 60) (h_x18 : zBd x18.toInt 0 1600) (h_x19 : zBd x19.toInt 0 1700) (h_x21 : zBd x21.toInt 0 1700) (h_x22 : zBd x22.toInt 0 1700) (h_x23 : zBd x23.toInt 0 200) (h_x24 : zBd x24.toInt 0 40) (h_x25 : zBd x25.toInt 0 40) (h_x26 : zBd x26.toInt 0 1) (h_x27 : zBd x27.toInt 0 14) (h_x28 : zBd x28.toInt 0 200) (h_x29 : zBd x29.toInt 0 40) (h_x30 : zBd x30.toInt 0 40) (hr_a0_0 : (x24.toInt ≤ x23.toInt)) (hr_a0_1 : (x23.toInt + x25.toInt ≤ 200)) (hr_a0_2 : (x12.toInt = 0 ∨ 2 ≤ x11.toInt)) (hf_f1 : (∀ j, (-9999) ≤ (f1 j).toInt ∧ (f1 j).toInt ≤ 9999)) : Met l yX12_table (.code yX12_table cX12_table 4 (some .int) :: lw_gd) ({ frames := 2, cells := 0, slots := 0, locals := 46 }) (gPre D [(cB, .byte), (cC, .char), (cI, .int), (cJ, .long)] [.ref a0, .int x0, .int x1, .int x2] (zS_15 cB cC cI cJ a0 a1 x3 x4 x5 x6 x7 x8 x9 x10 a2 a3 a4 a5 a6 a7 a8 a9 a10 a11 a12 a13 a14 a15 a16 x11 x12 x13 x14 x15 x16 a17 a18 a19 x17 a20 x18 a21 x19 x20 a22 a23 a24 a25 x21 a26 x22 a27 a28 a29 y0 a30 a31 a32 a33 a34 a35 a36 a37 a38 x23 x24 x25 y1 a39 x26 a40 a41 a42 a43 x27 x28 x29 x30 a27 f0 a18 f1) sz) (va_Qi (fun r u => (cvQ r.toInt (rcP x0.toInt x1.toInt x13.toInt x12.toInt) x2.toInt ((f0 (5 * x0.toInt + x1.toInt).toNat).toInt) ((f1 (5 * x0.toInt + x1.toInt).toNat).toInt) (-1000000000))) (gB D (va_A (zS_15 cB cC cI cJ a0 a1 x3 x4 x5 x6 x7 x8 x9 x10 a2 a3 a4 a5 a6 a7 a8 a9 a10 a11 a12 a13 a14 a15 a16 x11 x12 x13 x14 x15 x16 a17 a18 a19 x17 a20 x18 a21 x19 x20 a22 a23 a24 a25 x21 a26 x22 a27 a28 a29 y0 a30 a31 a32 a33 a34 a35 a36 a37 a38 x23 x24 x25 y1 a39 x26 a40 a41 a42 a43 x27 x28 x29 x30 a27 f0 a18 f1) sz) (fun u : gEx => (zS_15 cB cC cI cJ a0 a1 x3 x4 x5 x6 x7 x8 x9 x10 a2 a3 a4 a5 a6 a7 a8 a9 a10 a11 a12 a13 a14 a15 a16 x11 x12 x13 x14 x15 x16 a17 a18 a19 x17 a20 x18 a21 x19 x20 a22 a23 a24 a25 x21 a26 x22 a27 a28 a29 y0 a30 a31 a32 a33 a34 a35 a36 a37 a38 x23 x24 x25 y1 a39 x26 a40 a41 a42 a43 x27 x28 x29 x30 a27 f0 a18 f1))) (va_A (zS_15 cB cC cI cJ a0 a1 x3 x4 x5 x6 x7 x8 x9 x10 a2 a3 a4 a5 a6 a7 a8 a9 a10 a11 a12 a13 a14 a15 a16 x11 x12 x13 x14 x15 x16 a17 a18 a19 x17 a20 x18 a21 x19 x20 a22 a23 a24 a25 x21 a26 x22 a27 a28 a29 y0 a30 a31 a32 a33 a34 a35 a36 a37 a38 x23 x24 x25 y1 a39 x26 a40 a41 a42 a43 x27 x28 x29 x30 a27 f0 a18 f1) sz)) 0 0 (va_A (zS_15 cB cC cI cJ a0 a1 x3 x4 x5 x6 x7 x8 x9 x10 a2 a3 a4 a5 a6 a7 a8 a9 a10 a11 a12 a13 a14 a15 a16 x11 x12 x13 x14 x15 x16 a17 a18 a19 x17 a20 x18 a21 x19 x20 a22 a23 a24 a25 x21 a26 x22 a27 a28 a29 y0 a30 a31 a32 a33 a34 a35 a36 a37 a38 x23 x24 x25 y1 a39 x26 a40 a41 a42 a43 x27 x28 x29 x30 a27 f0 a18 f1) sz) := by
  refine gOf_i (by decide +kernel) (Nat.le_of_ble_eq_true rfl) ?_
  intro p e s m args below meth c ls A Q hx hb hts hown hml hN hK hP hD hA hl hret
  replace hown : s.vm.findClass RX12 = some m.cls := hown
  have hS : va_S A s.heap s.heap [] := va_S.rf
  replace hP : va_P D gcl (zS_15 cB cC cI cJ a0 a1 x3 x4 x5 x6 x7 x8 x9 x10 a2 a3 a4 a5 a6 a7 a8 a9 a10 a11 a12 a13 a14 a15 a16 x11 x12 x13 x14 x15 x16 a17 a18 a19 x17 a20 x18 a21 x19 x20 a22 a23 a24 a25 x21 a26 x22 a27 a28 a29 y0 a30 a31 a32 a33 a34 a35 a36 a37 a38 x23 x24 x25 y1 a39 x26 a40 a41 a42 a43 x27 x28 x29 x30 a27 f0 a18 f1) s.heap := hP
  replace hl : lv_has ls 4 [(0, .ref a0), (1, .int x0), (2, .int x1), (3, .int x2)] := hl
  have rx0 : zBd x0.toInt (-2147483648) 2147483647 := n_rng x0
  have rx1 : zBd x1.toInt (-2147483648) 2147483647 := n_rng x1
  have rx9 : zBd x9.toInt (-2147483648) 2147483647 := n_rng x9
  have rx10 : zBd x10.toInt (-2147483648) 2147483647 := n_rng x10
  have rx16 : zBd x16.toInt (-2147483648) 2147483647 := n_rng x16
  have rx20 : zBd x20.toInt (-2147483648) 2147483647 := n_rng x20
  have ry0 := n_rngL y0
  have ry1 := n_rngL y1
  refine lv_aload_n (pc := 0) hx hb dX12_table_0 rfl (lv_at hl 0 rfl) ?_
  refine lv_iload_n (pc := 1) hx hb dX12_table_1 rfl (lv_at hl 1 rfl) ?_
  refine gd_i (pc := 2) (wc := (zS_4 cB cC cI cJ a0 a1 x3 x4 x5 x6 x7 x8 x9 x10 a2 a3 a4 a5 a6 a7 a8 a9 a10 a11 a12 a13 a14 a15 a16 x11 x12 x13 x14 x15 x16 a17 a18 a19 x17 a20 x18 a21 x19 x20 a22 a23 a24 a25 x21 a26 x22 a27 a28 a29 y0 a30 a31 a32 a33 a34 a35 a36 a37 a38 x23 x24 x25 y1 a39 x26 a40 a41 a42 a43 x27 x28 x29 x30)) hP hD hS hA [0] rfl (by decide +kernel) (fun _ => by rfl) (fun hPc hDc => va_runV (As := [.int x0]) (rest := []) ⟨hx, hb, hml, hown, hts⟩ (k_X12_isReceiver l D cB cC cI cJ _ a0 a1 a2 a3 a4 a5 a6 a7 a8 a9 a10 a11 a12 a13 a14 a15 a16 a17 a18 a19 a20 a21 a22 a23 a24 a25 a26 a27 a28 a29 a30 a31 a32 a33 a34 a35 a36 a37 a38 a39 a40 a41 a42 a43 x0 x3 x4 x5 x6 x7 x8 x9 x10 x11 x12 x13 x14 x15 x16 x17 x18 x19 x20 x21 x22 x23 x24 x25 x26 x27 x28 x29 x30 y0 y1 h_x3 h_x4 h_x5 h_x6 h_x7 h_x8 h_x11 h_x12 h_x13 h_x14 h_x15 h_x17 h_x18 h_x19 h_x21 h_x22 h_x23 h_x24 h_x25 h_x26 h_x27 h_x28 h_x29 h_x30 hr_a0_0 hr_a0_1 hr_a0_2) ⟨gcwB hts tw_1778 tw_14 tw_1775 hd_yX12_isReceiver ⟨Nat.le_of_ble_eq_true rfl, Nat.le_of_ble_eq_true rfl⟩, hts _ tw_1777, hts _ tp_89⟩ ⟨gblind, va_recv hK hPc (ci := 12) (q0 := 0) rfl rfl, (gpreS hPc hK hDc hN).2⟩ rfl rfl hl.1 rfl (lv_room (Nat.le_of_ble_eq_true rfl)) dX12_table_2 ⟨Nat.le_of_ble_eq_true rfl, Nat.le_of_ble_eq_true rfl⟩) (fun r_2 u_1 H locs hw_3 hP hD hS => ?_)
  replace hP : va_P D gcl (zS_15 cB cC cI cJ a0 a1 x3 x4 x5 x6 x7 x8 x9 x10 a2 a3 a4 a5 a6 a7 a8 a9 a10 a11 a12 a13 a14 a15 a16 x11 x12 x13 x14 x15 x16 a17 a18 a19 x17 a20 x18 a21 x19 x20 a22 a23 a24 a25 x21 a26 x22 a27 a28 a29 y0 a30 a31 a32 a33 a34 a35 a36 a37 a38 x23 x24 x25 y1 a39 x26 a40 a41 a42 a43 x27 x28 x29 x30 a27 f0 a18 f1) H := hP
  replace hD : va_D A (zS_15 cB cC cI cJ a0 a1 x3 x4 x5 x6 x7 x8 x9 x10 a2 a3 a4 a5 a6 a7 a8 a9 a10 a11 a12 a13 a14 a15 a16 x11 x12 x13 x14 x15 x16 a17 a18 a19 x17 a20 x18 a21 x19 x20 a22 a23 a24 a25 x21 a26 x22 a27 a28 a29 y0 a30 a31 a32 a33 a34 a35 a36 a37 a38 x23 x24 x25 y1 a39 x26 a40 a41 a42 a43 x27 x28 x29 x30 a27 f0 a18 f1) := hD
  obtain ⟨hw_4, hw_5, hw_6⟩ := hw_3
  replace hw_4 : (0 ≤ r_2.toInt ∧ r_2.toInt ≤ 1) := hw_4
  replace hw_5 : (-x0.toInt ≤ 4294967296 - 4294967296 * r_2.toInt ∧ x0.toInt ≤ x13.toInt - 1 + 4294967296 - 4294967296 * r_2.toInt) := hw_5
  replace hw_6 : (inQ r_2.toInt x0.toInt x13.toInt) := hw_6
  have rr_2 : zBd r_2.toInt (-2147483648) 2147483647 := n_rng r_2
  refine b_if_eq (pc := 5) (tgt := 16) hx hb rfl  dX12_table_5 (by decide) (fun c_7 => ?_) (fun c_7 => ?_)
  ·
    as_aux_lemma =>
      refine lv_ldcw (pc := 16) hx hb hown (hts _ tw_1783) dX12_table_16 ?_
      have hP9 : va_P D gcl (zS_15 cB cC cI cJ a0 a1 x3 x4 x5 x6 x7 x8 x9 x10 a2 a3 a4 a5 a6 a7 a8 a9 a10 a11 a12 a13 a14 a15 a16 x11 x12 x13 x14 x15 x16 a17 a18 a19 x17 a20 x18 a21 x19 x20 a22 a23 a24 a25 x21 a26 x22 a27 a28 a29 y0 a30 a31 a32 a33 a34 a35 a36 a37 a38 x23 x24 x25 y1 a39 x26 a40 a41 a42 a43 x27 x28 x29 x30 a27 f0 a18 f1) H := g_psub hP [0, 1, 2] rfl
      have hD9 : va_D A (zS_15 cB cC cI cJ a0 a1 x3 x4 x5 x6 x7 x8 x9 x10 a2 a3 a4 a5 a6 a7 a8 a9 a10 a11 a12 a13 a14 a15 a16 x11 x12 x13 x14 x15 x16 a17 a18 a19 x17 a20 x18 a21 x19 x20 a22 a23 a24 a25 x21 a26 x22 a27 a28 a29 y0 a30 a31 a32 a33 a34 a35 a36 a37 a38 x23 x24 x25 y1 a39 x26 a40 a41 a42 a43 x27 x28 x29 x30 a27 f0 a18 f1) := hD.sub [0, 1, 2] (by decide) rfl
      have k9 := tI_m1000000000
      exact hret (-1000000000) ((fun _ => 0), (fun _ => (fun _ => 0)), (fun _ => (fun _ => 0)), (fun _ => 0), (fun _ => 0)) dX12_table_19 (show cvQ ((-1000000000) : Int32).toInt (rcP x0.toInt x1.toInt x13.toInt x12.toInt) x2.toInt ((f0 (5 * x0.toInt + x1.toInt).toNat).toInt) ((f1 (5 * x0.toInt + x1.toInt).toNat).toInt) (-1000000000) from cv_n (rc_no1 hw_6 (by first | exact (om_31 c_7) | ((first | omega | (unfold zBd at *; omega))))) (by first | exact (om_320 tI_m1000000000) | ((first | omega | (unfold zBd at *; omega))))) hP9 hD9 hS
  ·
    as_aux_lemma =>
      refine lv_aload_n (pc := 8) hx hb dX12_table_8 rfl (lv_at hl 0 rfl) ?_
      refine lv_iload_n (pc := 9) hx hb dX12_table_9 rfl (lv_at hl 2 rfl) ?_
      refine gd_i (pc := 10) (wc := (zS_4 cB cC cI cJ a0 a1 x3 x4 x5 x6 x7 x8 x9 x10 a2 a3 a4 a5 a6 a7 a8 a9 a10 a11 a12 a13 a14 a15 a16 x11 x12 x13 x14 x15 x16 a17 a18 a19 x17 a20 x18 a21 x19 x20 a22 a23 a24 a25 x21 a26 x22 a27 a28 a29 y0 a30 a31 a32 a33 a34 a35 a36 a37 a38 x23 x24 x25 y1 a39 x26 a40 a41 a42 a43 x27 x28 x29 x30)) hP hD hS hA [0] rfl (by decide +kernel) (fun _ => by rfl) (fun hPc hDc => va_runV (As := [.int x1]) (rest := []) ⟨hx, hb, hml, hown, hts⟩ (k_X12_isSender l D cB cC cI cJ _ a0 a1 a2 a3 a4 a5 a6 a7 a8 a9 a10 a11 a12 a13 a14 a15 a16 a17 a18 a19 a20 a21 a22 a23 a24 a25 a26 a27 a28 a29 a30 a31 a32 a33 a34 a35 a36 a37 a38 a39 a40 a41 a42 a43 x1 x3 x4 x5 x6 x7 x8 x9 x10 x11 x12 x13 x14 x15 x16 x17 x18 x19 x20 x21 x22 x23 x24 x25 x26 x27 x28 x29 x30 y0 y1 h_x3 h_x4 h_x5 h_x6 h_x7 h_x8 h_x11 h_x12 h_x13 h_x14 h_x15 h_x17 h_x18 h_x19 h_x21 h_x22 h_x23 h_x24 h_x25 h_x26 h_x27 h_x28 h_x29 h_x30 hr_a0_0 hr_a0_1 hr_a0_2) ⟨gcwB hts tw_1782 tw_14 tw_1779 hd_yX12_isSender ⟨Nat.le_of_ble_eq_true rfl, Nat.le_of_ble_eq_true rfl⟩, hts _ tw_1781, hts _ tp_90⟩ ⟨gblind, va_recv hK hPc (ci := 12) (q0 := 0) rfl rfl, (gpreS hPc hK hDc hN).2⟩ rfl rfl hl.1 rfl (lv_room (Nat.le_of_ble_eq_true rfl)) dX12_table_10 ⟨Nat.le_of_ble_eq_true rfl, Nat.le_of_ble_eq_true rfl⟩) (fun r_9 u_8 H locs hw_10 hP hD hS => ?_)
      replace hP : va_P D gcl (zS_15 cB cC cI cJ a0 a1 x3 x4 x5 x6 x7 x8 x9 x10 a2 a3 a4 a5 a6 a7 a8 a9 a10 a11 a12 a13 a14 a15 a16 x11 x12 x13 x14 x15 x16 a17 a18 a19 x17 a20 x18 a21 x19 x20 a22 a23 a24 a25 x21 a26 x22 a27 a28 a29 y0 a30 a31 a32 a33 a34 a35 a36 a37 a38 x23 x24 x25 y1 a39 x26 a40 a41 a42 a43 x27 x28 x29 x30 a27 f0 a18 f1) H := hP
      replace hD : va_D A (zS_15 cB cC cI cJ a0 a1 x3 x4 x5 x6 x7 x8 x9 x10 a2 a3 a4 a5 a6 a7 a8 a9 a10 a11 a12 a13 a14 a15 a16 x11 x12 x13 x14 x15 x16 a17 a18 a19 x17 a20 x18 a21 x19 x20 a22 a23 a24 a25 x21 a26 x22 a27 a28 a29 y0 a30 a31 a32 a33 a34 a35 a36 a37 a38 x23 x24 x25 y1 a39 x26 a40 a41 a42 a43 x27 x28 x29 x30 a27 f0 a18 f1) := hD
      obtain ⟨hw_11, hw_12, hw_13⟩ := hw_10
      replace hw_11 : (0 ≤ r_9.toInt ∧ r_9.toInt ≤ 1) := hw_11
      replace hw_12 : (-x1.toInt ≤ 4294967296 - 4294967296 * r_9.toInt ∧ x1.toInt ≤ x12.toInt - 1 + 4294967296 - 4294967296 * r_9.toInt) := hw_12
      replace hw_13 : (inQ r_9.toInt x1.toInt x12.toInt) := hw_13
      have rr_9 : zBd r_9.toInt (-2147483648) 2147483647 := n_rng r_9
      refine b_if_ne (pc := 13) (tgt := 20) hx hb rfl  dX12_table_13 (by decide) (fun c_14 => ?_) (fun c_14 => ?_)
      ·
        as_aux_lemma =>
          refine lv_iload_n (pc := 20) hx hb dX12_table_20 rfl (lv_at hl 3 rfl) ?_
          refine b_if_eq (pc := 21) (tgt := 37) hx hb rfl  dX12_table_21 (by decide) (fun c_15 => ?_) (fun c_15 => ?_)
          ·
            as_aux_lemma =>
              refine lv_aload_n (pc := 37) hx hb dX12_table_37 rfl (lv_at hl 0 rfl) ?_
              refine va_get (pc := 38) (ci := 12) (v := .ref a18) (C := RX12) (T := TX12) (N := 73) hx hb hts iX12 hown hK hP 0 rfl rfl 31 (by decide) (hts _ tw_1432) (fun _ h9 => h9) rfl dX12_table_38 ?_
              refine lv_iconst (pc := 41) (v := 5) hx hb dX12_table_41 (by decide) ?_
              refine lv_iload_n (pc := 42) hx hb dX12_table_42 rfl (lv_at hl 1 rfl) ?_
              refine b_imul (pc := 43) hx hb tI_5 rfl (by first | exact (om_1521 c_7 hw_4.1 hw_5.1) | ((first | omega | (unfold zBd at *; omega)))) (by first | exact (om_1522 c_7 hw_4.1 hw_5.2 h_x13.2) | ((first | omega | (unfold zBd at *; omega)))) dX12_table_43 (fun x_16 ex_16 => ?_)
              refine lv_iload_n (pc := 44) hx hb dX12_table_44 rfl (lv_at hl 2 rfl) ?_
              refine b_iadd (pc := 45) hx hb rfl rfl (by first | exact (om_1523 c_7 hw_4.1 ex_16 rx1.1 hw_5.1) | ((first | omega | (unfold zBd at *; omega)))) (by first | exact (om_1524 c_14 hr_a0_2 c_7 hw_11.1 hw_4.1 hw_12.1 hw_12.2 ex_16 hw_5.2 h_x12.2 h_x13.2) | ((first | omega | (unfold zBd at *; omega)))) dX12_table_45 (fun x_17 ex_17 => ?_)
              refine va_iald (pc := 46) hx hb hK hP 2 2 rfl rfl (n_in rfl (by first | exact (om_1525 c_14 hr_a0_2 c_7 hw_11.1 hw_4.1 hw_12.1 hw_12.2 ex_17 ex_16 hw_5.1) | ((first | omega | (unfold zBd at *; omega)))) (by first | exact (om_1526 c_14 hr_a0_2 c_7 hw_11.1 hw_4.1 hw_12.1 hw_12.2 ex_17 ex_16 hw_5.2 h_x12.2 h_x13.2) | ((first | omega | (unfold zBd at *; omega))))) dX12_table_46 ?_
              refine lv_topi (fun x_18 ex_18 => ?_)
              have rx_18 : ((-9999) ≤ x_18.toInt ∧ x_18.toInt ≤ 9999) := by rw [ex_18]; exact hf_f1 _
              replace ex_18 : x_18 = f1 (x_17.toInt).toNat := ex_18
              have tx_18 := congrArg Int32.toInt ex_18
              have hP9 : va_P D gcl (zS_15 cB cC cI cJ a0 a1 x3 x4 x5 x6 x7 x8 x9 x10 a2 a3 a4 a5 a6 a7 a8 a9 a10 a11 a12 a13 a14 a15 a16 x11 x12 x13 x14 x15 x16 a17 a18 a19 x17 a20 x18 a21 x19 x20 a22 a23 a24 a25 x21 a26 x22 a27 a28 a29 y0 a30 a31 a32 a33 a34 a35 a36 a37 a38 x23 x24 x25 y1 a39 x26 a40 a41 a42 a43 x27 x28 x29 x30 a27 f0 a18 f1) H := g_psub hP [0, 1, 2] rfl
              have hD9 : va_D A (zS_15 cB cC cI cJ a0 a1 x3 x4 x5 x6 x7 x8 x9 x10 a2 a3 a4 a5 a6 a7 a8 a9 a10 a11 a12 a13 a14 a15 a16 x11 x12 x13 x14 x15 x16 a17 a18 a19 x17 a20 x18 a21 x19 x20 a22 a23 a24 a25 x21 a26 x22 a27 a28 a29 y0 a30 a31 a32 a33 a34 a35 a36 a37 a38 x23 x24 x25 y1 a39 x26 a40 a41 a42 a43 x27 x28 x29 x30 a27 f0 a18 f1) := hD.sub [0, 1, 2] (by decide) rfl
              exact hret x_18 ((fun _ => 0), (fun _ => (fun _ => 0)), (fun _ => (fun _ => 0)), (fun _ => 0), (fun _ => 0)) dX12_table_47 (show cvQ x_18.toInt (rcP x0.toInt x1.toInt x13.toInt x12.toInt) x2.toInt ((f0 (5 * x0.toInt + x1.toInt).toNat).toInt) ((f1 (5 * x0.toInt + x1.toInt).toNat).toInt) (-1000000000) from cv_0 (by unfold rcP; (first | omega | (unfold zBd at *; omega))) (by first | exact (om_31 c_15) | ((first | omega | (unfold zBd at *; omega)))) (congrArg Int32.toInt (e_ld ex_18 (show _ = 5 * x0.toInt + x1.toInt by (first | omega | (unfold zBd at *; omega)))).symm)) hP9 hD9 hS
          ·
            as_aux_lemma =>
              refine lv_aload_n (pc := 24) hx hb dX12_table_24 rfl (lv_at hl 0 rfl) ?_
              refine va_get (pc := 25) (ci := 12) (v := .ref a27) (C := RX12) (T := TX12) (N := 73) hx hb hts iX12 hown hK hP 0 rfl rfl 46 (by decide) (hts _ tw_1447) (fun _ h9 => h9) rfl dX12_table_25 ?_
              refine lv_iconst (pc := 28) (v := 5) hx hb dX12_table_28 (by decide) ?_
              refine lv_iload_n (pc := 29) hx hb dX12_table_29 rfl (lv_at hl 1 rfl) ?_
              refine b_imul (pc := 30) hx hb tI_5 rfl (by first | exact (om_1521 c_7 hw_4.1 hw_5.1) | ((first | omega | (unfold zBd at *; omega)))) (by first | exact (om_1522 c_7 hw_4.1 hw_5.2 h_x13.2) | ((first | omega | (unfold zBd at *; omega)))) dX12_table_30 (fun x_19 ex_19 => ?_)
              refine lv_iload_n (pc := 31) hx hb dX12_table_31 rfl (lv_at hl 2 rfl) ?_
              refine b_iadd (pc := 32) hx hb rfl rfl (by first | exact (om_1523 c_7 hw_4.1 ex_19 rx1.1 hw_5.1) | ((first | omega | (unfold zBd at *; omega)))) (by first | exact (om_1524 c_14 hr_a0_2 c_7 hw_11.1 hw_4.1 hw_12.1 hw_12.2 ex_19 hw_5.2 h_x12.2 h_x13.2) | ((first | omega | (unfold zBd at *; omega)))) dX12_table_32 (fun x_20 ex_20 => ?_)
              refine va_iald (pc := 33) hx hb hK hP 1 2 rfl rfl (n_in rfl (by first | exact (om_1525 c_14 hr_a0_2 c_7 hw_11.1 hw_4.1 hw_12.1 hw_12.2 ex_20 ex_19 hw_5.1) | ((first | omega | (unfold zBd at *; omega)))) (by first | exact (om_1527 c_14 hr_a0_2 c_7 hw_11.1 hw_4.1 hw_12.1 hw_12.2 ex_20 ex_19 hw_5.2 h_x12.2 h_x13.2) | ((first | omega | (unfold zBd at *; omega))))) dX12_table_33 ?_
              refine lv_topi (fun x_21 ex_21 => ?_)
              have rx_21 : zBd x_21.toInt (-2147483648) 2147483647 := n_rng x_21
              replace ex_21 : x_21 = f0 (x_20.toInt).toNat := ex_21
              have tx_21 := congrArg Int32.toInt ex_21
              refine lv_goto (pc := 34) (tgt := 47) hx hb dX12_table_34 (by decide) ?_
              have hP9 : va_P D gcl (zS_15 cB cC cI cJ a0 a1 x3 x4 x5 x6 x7 x8 x9 x10 a2 a3 a4 a5 a6 a7 a8 a9 a10 a11 a12 a13 a14 a15 a16 x11 x12 x13 x14 x15 x16 a17 a18 a19 x17 a20 x18 a21 x19 x20 a22 a23 a24 a25 x21 a26 x22 a27 a28 a29 y0 a30 a31 a32 a33 a34 a35 a36 a37 a38 x23 x24 x25 y1 a39 x26 a40 a41 a42 a43 x27 x28 x29 x30 a27 f0 a18 f1) H := g_psub hP [0, 1, 2] rfl
              have hD9 : va_D A (zS_15 cB cC cI cJ a0 a1 x3 x4 x5 x6 x7 x8 x9 x10 a2 a3 a4 a5 a6 a7 a8 a9 a10 a11 a12 a13 a14 a15 a16 x11 x12 x13 x14 x15 x16 a17 a18 a19 x17 a20 x18 a21 x19 x20 a22 a23 a24 a25 x21 a26 x22 a27 a28 a29 y0 a30 a31 a32 a33 a34 a35 a36 a37 a38 x23 x24 x25 y1 a39 x26 a40 a41 a42 a43 x27 x28 x29 x30 a27 f0 a18 f1) := hD.sub [0, 1, 2] (by decide) rfl
              exact hret x_21 ((fun _ => 0), (fun _ => (fun _ => 0)), (fun _ => (fun _ => 0)), (fun _ => 0), (fun _ => 0)) dX12_table_47 (show cvQ x_21.toInt (rcP x0.toInt x1.toInt x13.toInt x12.toInt) x2.toInt ((f0 (5 * x0.toInt + x1.toInt).toNat).toInt) ((f1 (5 * x0.toInt + x1.toInt).toNat).toInt) (-1000000000) from cv_1 (by unfold rcP; (first | omega | (unfold zBd at *; omega))) (by first | exact (om_34 c_15) | ((first | omega | (unfold zBd at *; omega)))) (congrArg Int32.toInt (e_ld ex_21 (show _ = 5 * x0.toInt + x1.toInt by (first | omega | (unfold zBd at *; omega)))).symm)) hP9 hD9 hS
      ·
        as_aux_lemma =>
          refine lv_ldcw (pc := 16) hx hb hown (hts _ tw_1783) dX12_table_16 ?_
          have hP9 : va_P D gcl (zS_15 cB cC cI cJ a0 a1 x3 x4 x5 x6 x7 x8 x9 x10 a2 a3 a4 a5 a6 a7 a8 a9 a10 a11 a12 a13 a14 a15 a16 x11 x12 x13 x14 x15 x16 a17 a18 a19 x17 a20 x18 a21 x19 x20 a22 a23 a24 a25 x21 a26 x22 a27 a28 a29 y0 a30 a31 a32 a33 a34 a35 a36 a37 a38 x23 x24 x25 y1 a39 x26 a40 a41 a42 a43 x27 x28 x29 x30 a27 f0 a18 f1) H := g_psub hP [0, 1, 2] rfl
          have hD9 : va_D A (zS_15 cB cC cI cJ a0 a1 x3 x4 x5 x6 x7 x8 x9 x10 a2 a3 a4 a5 a6 a7 a8 a9 a10 a11 a12 a13 a14 a15 a16 x11 x12 x13 x14 x15 x16 a17 a18 a19 x17 a20 x18 a21 x19 x20 a22 a23 a24 a25 x21 a26 x22 a27 a28 a29 y0 a30 a31 a32 a33 a34 a35 a36 a37 a38 x23 x24 x25 y1 a39 x26 a40 a41 a42 a43 x27 x28 x29 x30 a27 f0 a18 f1) := hD.sub [0, 1, 2] (by decide) rfl
          have k9 := tI_m1000000000
          exact hret (-1000000000) ((fun _ => 0), (fun _ => (fun _ => 0)), (fun _ => (fun _ => 0)), (fun _ => 0), (fun _ => 0)) dX12_table_19 (show cvQ ((-1000000000) : Int32).toInt (rcP x0.toInt x1.toInt x13.toInt x12.toInt) x2.toInt ((f0 (5 * x0.toInt + x1.toInt).toNat).toInt) ((f1 (5 * x0.toInt + x1.toInt).toNat).toInt) (-1000000000) from cv_n (rc_no2 hw_13 (by first | exact (om_31 c_14) | ((first | omega | (unfold zBd at *; omega))))) (by first | exact (om_320 tI_m1000000000) | ((first | omega | (unfold zBd at *; omega))))) hP9 hD9 hS
theorem om_1528 {a : Int} (h0 : (a ≤ 6)) : (5 * a ≤ 2147483647) := by omega
theorem om_1529 {a b c : Int} (h0 : (a = 5 * c)) (h1 : (0 ≤ b)) (h2 : (0 ≤ c)) : (-2147483648 ≤ a + b) := by omega
theorem om_1530 {a b c : Int} (h0 : (a = 5 * c)) (h1 : (b ≤ 4)) (h2 : (c ≤ 6)) : (a + b ≤ 2147483647) := by omega
theorem om_1531 {a b c d : Int} (h0 : (a = b + c)) (h1 : (b = 5 * d)) (h2 : (0 ≤ c)) (h3 : (0 ≤ d)) : (0 ≤ a) := by omega
theorem om_1532 {a b c d : Int} (h0 : (a = b + c)) (h1 : (b = 5 * d)) (h2 : (c ≤ 4)) (h3 : (d ≤ 6)) : (a < (60 : Nat)) := by omega
set_option maxHeartbeats 4000000 in
set_option maxRecDepth 100000 in
theorem k_X12_productOf_60rm9999_9999_x (l : Launch) (D : va_G) (cB cC cI cJ : ClassId) (sz : Nat) (a0 a1 a2 a3 a4 a5 a6 a7 a8 a9 a10 a11 a12 a13 a14 a15 a16 a17 a18 a19 a20 a21 a22 a23 a24 a25 a26 a27 a28 a29 a30 a31 a32 a33 a34 a35 a36 a37 a38 a39 a40 a41 a42 a43 a44 : Nat) (x0 x1 x2 x3 x4 x5 x6 x7 x8 x9 x10 x11 x12 x13 x14 x15 x16 x17 x18 x19 x20 x21 x22 x23 x24 x25 x26 x27 x28 x29 : Int32) (y0 y1 : Int64) (f0 : Nat → Int32) (hp1 : (0 ≤ x0.toInt ∧ x0.toInt ≤ 4)) (hp2 : (0 ≤ x1.toInt ∧ x1.toInt ≤ 4)) (h_x2 : zBd x2.toInt 0 1600) (h_x3 : zBd x3.toInt 0 1600) (h_x4 : zBd x4.toInt 0 1600) (h_x5 : zBd x5.toInt (-1) 1600) (h_x6 : zBd x6.toInt 0 4) (h_x7 : zBd x7.toInt (-1) 1600) (h_x10 : zBd x10.toInt 0 8) (h_x11 : zBd x11.toInt 0 5) (h_x12 : zBd x12.toInt 0 6) (h_x13 : zBd x13.toInt 0 6) (h_x14 : zBd x14.toInt 0 16) (h_x16 : zBd x16.toInt 0 60) (h_x17 : zBd x17.toInt 0 1600) (h_x18 : zBd x18.toInt 0 1700) (h_x20 : zBd x20.toInt 0 1700) (h_x21 : zBd x21.toInt 0 1700) (h_x22 : zBd x22.toInt 0 200) (h_x23 : zBd x23.toInt 0 40) (h_x24 : zBd x24.toInt 0 40) (h_x25 : zBd x25.toInt 0 1) (h_x26 : zBd x26.toInt 0 14) (h_x27 : zBd x27.toInt 0 200) (h_x28 : zBd x28.toInt 0 40) (h_x29 : zBd x29.toInt 0 40) (hr_a0_0 : (x23.toInt ≤ x22.toInt)) (hr_a0_1 : (x22.toInt + x24.toInt ≤ 200)) (hr_a0_2 : (x11.toInt = 0 ∨ 2 ≤ x10.toInt)) (hf_f0 : (∀ j, (-9999) ≤ (f0 j).toInt ∧ (f0 j).toInt ≤ 9999)) : Met l yX12_productOf (.code yX12_productOf cX12_productOf 6 (some .int) :: lw_gd) ({ frames := 0, cells := 0, slots := 0, locals := 0 }) (gPre D [(cB, .byte), (cC, .char), (cI, .int), (cJ, .long)] [.ref a0, .int x0, .int x1, .ref a1] (zS_30 cB cC cI cJ a0 a2 x2 x3 x4 x5 x6 x7 x8 x9 a3 a4 a5 a6 a7 a8 a9 a10 a11 a12 a13 a14 a15 a16 a17 x10 x11 x12 x13 x14 x15 a18 a19 a20 x16 a21 x17 a22 x18 x19 a23 a24 a25 a26 x20 a27 x21 a28 a29 a30 y0 a31 a32 a33 a34 a35 a36 a37 a38 a39 x22 x23 x24 y1 a40 x25 a41 a42 a43 a44 x26 x27 x28 x29 a1 f0) sz) (va_Qi (fun r u => (r = prn f0 x0.toInt x1.toInt (x12.toInt).toNat)) (gB D (va_A (zS_30 cB cC cI cJ a0 a2 x2 x3 x4 x5 x6 x7 x8 x9 a3 a4 a5 a6 a7 a8 a9 a10 a11 a12 a13 a14 a15 a16 a17 x10 x11 x12 x13 x14 x15 a18 a19 a20 x16 a21 x17 a22 x18 x19 a23 a24 a25 a26 x20 a27 x21 a28 a29 a30 y0 a31 a32 a33 a34 a35 a36 a37 a38 a39 x22 x23 x24 y1 a40 x25 a41 a42 a43 a44 x26 x27 x28 x29 a1 f0) sz) (fun u : gEx => (zS_30 cB cC cI cJ a0 a2 x2 x3 x4 x5 x6 x7 x8 x9 a3 a4 a5 a6 a7 a8 a9 a10 a11 a12 a13 a14 a15 a16 a17 x10 x11 x12 x13 x14 x15 a18 a19 a20 x16 a21 x17 a22 x18 x19 a23 a24 a25 a26 x20 a27 x21 a28 a29 a30 y0 a31 a32 a33 a34 a35 a36 a37 a38 a39 x22 x23 x24 y1 a40 x25 a41 a42 a43 a44 x26 x27 x28 x29 a1 f0))) (va_A (zS_30 cB cC cI cJ a0 a2 x2 x3 x4 x5 x6 x7 x8 x9 a3 a4 a5 a6 a7 a8 a9 a10 a11 a12 a13 a14 a15 a16 a17 x10 x11 x12 x13 x14 x15 a18 a19 a20 x16 a21 x17 a22 x18 x19 a23 a24 a25 a26 x20 a27 x21 a28 a29 a30 y0 a31 a32 a33 a34 a35 a36 a37 a38 a39 x22 x23 x24 y1 a40 x25 a41 a42 a43 a44 x26 x27 x28 x29 a1 f0) sz)) 0 0 (va_A (zS_30 cB cC cI cJ a0 a2 x2 x3 x4 x5 x6 x7 x8 x9 a3 a4 a5 a6 a7 a8 a9 a10 a11 a12 a13 a14 a15 a16 a17 x10 x11 x12 x13 x14 x15 a18 a19 a20 x16 a21 x17 a22 x18 x19 a23 a24 a25 a26 x20 a27 x21 a28 a29 a30 y0 a31 a32 a33 a34 a35 a36 a37 a38 a39 x22 x23 x24 y1 a40 x25 a41 a42 a43 a44 x26 x27 x28 x29 a1 f0) sz) := by
  refine gOf_i (by decide +kernel) (Nat.le_of_ble_eq_true rfl) ?_
  intro p e s m args below meth c ls A Q hx hb hts hown hml hN hK hP hD hA hl hret
  replace hown : s.vm.findClass RX12 = some m.cls := hown
  have hS : va_S A s.heap s.heap [] := va_S.rf
  replace hP : va_P D gcl (zS_30 cB cC cI cJ a0 a2 x2 x3 x4 x5 x6 x7 x8 x9 a3 a4 a5 a6 a7 a8 a9 a10 a11 a12 a13 a14 a15 a16 a17 x10 x11 x12 x13 x14 x15 a18 a19 a20 x16 a21 x17 a22 x18 x19 a23 a24 a25 a26 x20 a27 x21 a28 a29 a30 y0 a31 a32 a33 a34 a35 a36 a37 a38 a39 x22 x23 x24 y1 a40 x25 a41 a42 a43 a44 x26 x27 x28 x29 a1 f0) s.heap := hP
  replace hl : lv_has ls 6 [(0, .ref a0), (1, .int x0), (2, .int x1), (3, .ref a1)] := hl
  have rx8 : zBd x8.toInt (-2147483648) 2147483647 := n_rng x8
  have rx9 : zBd x9.toInt (-2147483648) 2147483647 := n_rng x9
  have rx15 : zBd x15.toInt (-2147483648) 2147483647 := n_rng x15
  have rx19 : zBd x19.toInt (-2147483648) 2147483647 := n_rng x19
  have ry0 := n_rngL y0
  have ry1 := n_rngL y1
  refine lv_iconst (pc := 0) (v := 0) hx hb dX12_productOf_0 (by decide) ?_
  refine lv_istore (pc := 1) (lv' := [(4, .int 0), (0, .ref a0), (1, .int x0), (2, .int x1), (3, .ref a1)]) hx hb dX12_productOf_1 hl (by decide) rfl (fun ls hl => ?_)
  refine lv_iconst (pc := 3) (v := 0) hx hb dX12_productOf_3 (by decide) ?_
  refine lv_istore (pc := 4) (lv' := [(5, .int 0), (4, .int 0), (0, .ref a0), (1, .int x0), (2, .int x1), (3, .ref a1)]) hx hb dX12_productOf_4 hl (by decide) rfl (fun ls hl => ?_)
  have lp_7 : ∀ (n : Nat) (x_1 x_3 : Int32) (H : Heap) (locs : List Loc) (ls : Array Slot), (0 ≤ x_1.toInt ∧ x_1.toInt ≤ 6) → (x_1.toInt ≤ x12.toInt) → (x_3 = prn f0 x0.toInt x1.toInt (x_1.toInt).toNat) → (2147483647 - x_1.toInt).toNat < n → va_P D gcl (zS_30 cB cC cI cJ a0 a2 x2 x3 x4 x5 x6 x7 x8 x9 a3 a4 a5 a6 a7 a8 a9 a10 a11 a12 a13 a14 a15 a16 a17 x10 x11 x12 x13 x14 x15 a18 a19 a20 x16 a21 x17 a22 x18 x19 a23 a24 a25 a26 x20 a27 x21 a28 a29 a30 y0 a31 a32 a33 a34 a35 a36 a37 a38 a39 x22 x23 x24 y1 a40 x25 a41 a42 a43 a44 x26 x27 x28 x29 a1 f0) H → va_D A (zS_30 cB cC cI cJ a0 a2 x2 x3 x4 x5 x6 x7 x8 x9 a3 a4 a5 a6 a7 a8 a9 a10 a11 a12 a13 a14 a15 a16 a17 x10 x11 x12 x13 x14 x15 a18 a19 a20 x16 a21 x17 a22 x18 x19 a23 a24 a25 a26 x20 a27 x21 a28 a29 a30 y0 a31 a32 a33 a34 a35 a36 a37 a38 a39 x22 x23 x24 y1 a40 x25 a41 a42 a43 a44 x26 x27 x28 x29 a1 f0) → va_S A s.heap H locs → lv_has ls 6 [(5, .int x_1), (4, .int x_3), (0, .ref a0), (1, .int x0), (2, .int x1), (3, .ref a1)] → W p l e ({ frames := 0, cells := 0, slots := 0, locals := 0 }) s m args below meth c H locs 0 0 Q (F0 m 6 ls []) := by
    intro n
    induction n with
    | zero => intro x_1 x_3 H locs ls hi_2 hi_5 hi_6 hmu; exact absurd hmu (Nat.not_lt_zero _)
    | succ n ih_lp_7 =>
      intro x_1 x_3 H locs ls hi_2 hi_5 hi_6 hmu_lp_7 hP hD hS hl
      have hi_4 := n_rng x_3
      refine lv_iload (pc := 6) hx hb dX12_productOf_6 (lv_at hl 0 rfl) ?_
      refine lv_aload_n (pc := 8) hx hb dX12_productOf_8 rfl (lv_at hl 2 rfl) ?_
      refine va_get (pc := 9) (ci := 12) (v := .int x12) (C := RX12) (T := TX12) (N := 73) hx hb hts iX12 hown hK hP 0 rfl rfl 26 (by decide) (hts _ tw_1427) (fun _ h9 => h9) rfl dX12_productOf_9 ?_
      have bd_h_x12 : 0 ≤ x12.toInt ∧ x12.toInt ≤ 6 := h_x12
      refine b_icmp_ge (pc := 12) (tgt := 43) hx hb rfl rfl  dX12_productOf_12 (by decide) (fun c_8 => ?_) (fun c_8 => ?_)
      ·
        as_aux_lemma =>
          refine lv_iload (pc := 43) hx hb dX12_productOf_43 (lv_at hl 1 rfl) ?_
          have hP9 : va_P D gcl (zS_30 cB cC cI cJ a0 a2 x2 x3 x4 x5 x6 x7 x8 x9 a3 a4 a5 a6 a7 a8 a9 a10 a11 a12 a13 a14 a15 a16 a17 x10 x11 x12 x13 x14 x15 a18 a19 a20 x16 a21 x17 a22 x18 x19 a23 a24 a25 a26 x20 a27 x21 a28 a29 a30 y0 a31 a32 a33 a34 a35 a36 a37 a38 a39 x22 x23 x24 y1 a40 x25 a41 a42 a43 a44 x26 x27 x28 x29 a1 f0) H := g_psub hP [0, 1] rfl
          have hD9 : va_D A (zS_30 cB cC cI cJ a0 a2 x2 x3 x4 x5 x6 x7 x8 x9 a3 a4 a5 a6 a7 a8 a9 a10 a11 a12 a13 a14 a15 a16 a17 x10 x11 x12 x13 x14 x15 a18 a19 a20 x16 a21 x17 a22 x18 x19 a23 a24 a25 a26 x20 a27 x21 a28 a29 a30 y0 a31 a32 a33 a34 a35 a36 a37 a38 a39 x22 x23 x24 y1 a40 x25 a41 a42 a43 a44 x26 x27 x28 x29 a1 f0) := hD.sub [0, 1] (by decide) rfl
          exact hret x_3 ((fun _ => 0), (fun _ => (fun _ => 0)), (fun _ => (fun _ => 0)), (fun _ => 0), (fun _ => 0)) dX12_productOf_45 (show x_3 = prn f0 x0.toInt x1.toInt (x12.toInt).toNat from (by have e9 : x_1.toInt = x12.toInt := (by (first | omega | (unfold zBd at *; omega))); have q9 := hi_6; rw [e9] at q9; exact q9)) hP9 hD9 hS
      ·
        as_aux_lemma =>
          refine lv_iload (pc := 15) hx hb dX12_productOf_15 (lv_at hl 1 rfl) ?_
          refine lv_aload_n (pc := 17) hx hb dX12_productOf_17 rfl (lv_at hl 5 rfl) ?_
          refine lv_iconst (pc := 18) (v := 5) hx hb dX12_productOf_18 (by decide) ?_
          refine lv_iload (pc := 19) hx hb dX12_productOf_19 (lv_at hl 0 rfl) ?_
          refine b_imul (pc := 21) hx hb tI_5 rfl (by first | exact (om_941 hi_2.1) | ((first | omega | (unfold zBd at *; omega)))) (by first | exact (om_1528 hi_2.2) | ((first | omega | (unfold zBd at *; omega)))) dX12_productOf_21 (fun x_9 ex_9 => ?_)
          refine lv_iload_n (pc := 22) hx hb dX12_productOf_22 rfl (lv_at hl 3 rfl) ?_
          refine b_iadd (pc := 23) hx hb rfl rfl (by first | exact (om_1529 ex_9 hp1.1 hi_2.1) | ((first | omega | (unfold zBd at *; omega)))) (by first | exact (om_1530 ex_9 hp1.2 hi_2.2) | ((first | omega | (unfold zBd at *; omega)))) dX12_productOf_23 (fun x_10 ex_10 => ?_)
          refine va_iald (pc := 24) hx hb hK hP 1 2 rfl rfl (n_in rfl (by first | exact (om_1531 ex_10 ex_9 hp1.1 hi_2.1) | ((first | omega | (unfold zBd at *; omega)))) (by first | exact (om_1532 ex_10 ex_9 hp1.2 hi_2.2) | ((first | omega | (unfold zBd at *; omega))))) dX12_productOf_24 ?_
          refine lv_topi (fun x_11 ex_11 => ?_)
          have rx_11 : ((-9999) ≤ x_11.toInt ∧ x_11.toInt ≤ 9999) := by rw [ex_11]; exact hf_f0 _
          replace ex_11 : x_11 = f0 (x_10.toInt).toNat := ex_11
          have tx_11 := congrArg Int32.toInt ex_11
          refine lv_aload_n (pc := 25) hx hb dX12_productOf_25 rfl (lv_at hl 5 rfl) ?_
          as_aux_lemma =>
            refine lv_iconst (pc := 26) (v := 5) hx hb dX12_productOf_26 (by decide) ?_
            refine lv_iload (pc := 27) hx hb dX12_productOf_27 (lv_at hl 0 rfl) ?_
            refine b_imul (pc := 29) hx hb tI_5 rfl (by first | exact (om_941 hi_2.1) | ((first | omega | (unfold zBd at *; omega)))) (by first | exact (om_1528 hi_2.2) | ((first | omega | (unfold zBd at *; omega)))) dX12_productOf_29 (fun x_12 ex_12 => ?_)
            refine lv_iload_n (pc := 30) hx hb dX12_productOf_30 rfl (lv_at hl 4 rfl) ?_
            refine b_iadd (pc := 31) hx hb rfl rfl (by first | exact (om_1529 ex_12 hp2.1 hi_2.1) | ((first | omega | (unfold zBd at *; omega)))) (by first | exact (om_1530 ex_12 hp2.2 hi_2.2) | ((first | omega | (unfold zBd at *; omega)))) dX12_productOf_31 (fun x_13 ex_13 => ?_)
            refine va_iald (pc := 32) hx hb hK hP 1 2 rfl rfl (n_in rfl (by first | exact (om_1531 ex_13 ex_12 hp2.1 hi_2.1) | ((first | omega | (unfold zBd at *; omega)))) (by first | exact (om_1532 ex_13 ex_12 hp2.2 hi_2.2) | ((first | omega | (unfold zBd at *; omega))))) dX12_productOf_32 ?_
            refine lv_topi (fun x_14 ex_14 => ?_)
            have rx_14 : ((-9999) ≤ x_14.toInt ∧ x_14.toInt ≤ 9999) := by rw [ex_14]; exact hf_f0 _
            replace ex_14 : x_14 = f0 (x_13.toInt).toNat := ex_14
            have tx_14 := congrArg Int32.toInt ex_14
            refine lv_imul (pc := 33) hx hb dX12_productOf_33 ?_
            refine lv_topi (fun x_15 ex_15 => ?_)
            have rx_15 : zBd x_15.toInt (-2147483648) 2147483647 := n_rng x_15
            refine lv_iadd (pc := 34) hx hb dX12_productOf_34 ?_
            as_aux_lemma =>
              refine lv_topi (fun x_16 ex_16 => ?_)
              have rx_16 : zBd x_16.toInt (-2147483648) 2147483647 := n_rng x_16
              refine lv_istore (pc := 35) (lv' := [(4, .int x_16), (5, .int x_1), (0, .ref a0), (1, .int x0), (2, .int x1), (3, .ref a1)]) hx hb dX12_productOf_35 hl (by decide) rfl (fun ls hl => ?_)
              refine b_iinc (pc := 37) hx hb dX12_productOf_37 hl (k := 1) rfl rfl tI_1 (by first | exact (om_2 hi_2.1) | ((first | omega | (unfold zBd at *; omega)))) (by first | exact (om_38 hi_2.2) | ((first | omega | (unfold zBd at *; omega)))) (by decide) (fun x_17 ex_17 ls hl => ?_)
              replace hl : lv_has ls 6 [(5, .int x_17), (4, .int x_16), (0, .ref a0), (1, .int x0), (2, .int x1), (3, .ref a1)] := hl
              refine lv_goto (pc := 40) (tgt := 6) hx hb dX12_productOf_40 (by decide) ?_
              exact ih_lp_7 x_17 x_16 _ _ ls (by first | exact (om_39 ex_17 hi_2.1 c_8 h_x12.2) | ((first | omega | (unfold zBd at *; omega)))) (by first | exact (om_40 ex_17 c_8) | ((first | omega | (unfold zBd at *; omega)))) (prn_step hi_6 (e_ld ex_11 (by (first | omega | (unfold zBd at *; omega)))).symm (e_ld ex_14 (by (first | omega | (unfold zBd at *; omega)))).symm ex_15 ex_16 (by first | exact (om_0 hi_2.1) | ((first | omega | (unfold zBd at *; omega)))) (by first | exact (om_5 ex_17) | ((first | omega | (unfold zBd at *; omega))))) (by (first | omega | (unfold zBd at *; omega))) hP hD hS (lv_sub hl [0, 1, 2, 3, 4, 5] rfl)
  exact lp_7 _ 0 0 _ _ ls (n_c tI_0 (by decide)) (by have q := tI_0; (first | omega | (unfold zBd at *; omega))) (rfl) (Nat.lt_succ_self _) hP hD hS (lv_sub hl [0, 1, 2, 3, 4, 5] rfl)
theorem om_1533 {a b c d e : Int} (h0 : (a = b + c)) (h1 : (b = 5 * d)) (h2 : (c ≤ 4)) (h3 : (d < e)) (h4 : (e ≤ 6)) : (a < (30 : Nat)) := by omega
set_option maxHeartbeats 4000000 in
set_option maxRecDepth 100000 in
theorem k_X12_productOf_30_x (l : Launch) (D : va_G) (cB cC cI cJ : ClassId) (sz : Nat) (a0 a1 a2 a3 a4 a5 a6 a7 a8 a9 a10 a11 a12 a13 a14 a15 a16 a17 a18 a19 a20 a21 a22 a23 a24 a25 a26 a27 a28 a29 a30 a31 a32 a33 a34 a35 a36 a37 a38 a39 a40 a41 a42 a43 a44 : Nat) (x0 x1 x2 x3 x4 x5 x6 x7 x8 x9 x10 x11 x12 x13 x14 x15 x16 x17 x18 x19 x20 x21 x22 x23 x24 x25 x26 x27 x28 x29 : Int32) (y0 y1 : Int64) (f0 : Nat → Int32) (hp1 : (0 ≤ x0.toInt ∧ x0.toInt ≤ 4)) (hp2 : (0 ≤ x1.toInt ∧ x1.toInt ≤ 4)) (h_x2 : zBd x2.toInt 0 1600) (h_x3 : zBd x3.toInt 0 1600) (h_x4 : zBd x4.toInt 0 1600) (h_x5 : zBd x5.toInt (-1) 1600) (h_x6 : zBd x6.toInt 0 4) (h_x7 : zBd x7.toInt (-1) 1600) (h_x10 : zBd x10.toInt 0 8) (h_x11 : zBd x11.toInt 0 5) (h_x12 : zBd x12.toInt 0 6) (h_x13 : zBd x13.toInt 0 6) (h_x14 : zBd x14.toInt 0 16) (h_x16 : zBd x16.toInt 0 60) (h_x17 : zBd x17.toInt 0 1600) (h_x18 : zBd x18.toInt 0 1700) (h_x20 : zBd x20.toInt 0 1700) (h_x21 : zBd x21.toInt 0 1700) (h_x22 : zBd x22.toInt 0 200) (h_x23 : zBd x23.toInt 0 40) (h_x24 : zBd x24.toInt 0 40) (h_x25 : zBd x25.toInt 0 1) (h_x26 : zBd x26.toInt 0 14) (h_x27 : zBd x27.toInt 0 200) (h_x28 : zBd x28.toInt 0 40) (h_x29 : zBd x29.toInt 0 40) (hr_a0_0 : (x23.toInt ≤ x22.toInt)) (hr_a0_1 : (x22.toInt + x24.toInt ≤ 200)) (hr_a0_2 : (x11.toInt = 0 ∨ 2 ≤ x10.toInt)) : Met l yX12_productOf (.code yX12_productOf cX12_productOf 6 (some .int) :: lw_gd) ({ frames := 0, cells := 0, slots := 0, locals := 0 }) (gPre D [(cB, .byte), (cC, .char), (cI, .int), (cJ, .long)] [.ref a0, .int x0, .int x1, .ref a1] (zS_51 cB cC cI cJ a0 a2 x2 x3 x4 x5 x6 x7 x8 x9 a3 a4 a5 a6 a7 a8 a9 a10 a11 a12 a13 a14 a15 a16 a17 x10 x11 x12 x13 x14 x15 a18 a19 a20 x16 a21 x17 a22 x18 x19 a23 a24 a25 a26 x20 a27 x21 a28 a29 a30 y0 a31 a32 a33 a34 a35 a36 a37 a38 a39 x22 x23 x24 y1 a40 x25 a41 a42 a43 a44 x26 x27 x28 x29 a1 f0) sz) (va_Qi (fun r u => (r = prn f0 x0.toInt x1.toInt (x12.toInt).toNat)) (gB D (va_A (zS_51 cB cC cI cJ a0 a2 x2 x3 x4 x5 x6 x7 x8 x9 a3 a4 a5 a6 a7 a8 a9 a10 a11 a12 a13 a14 a15 a16 a17 x10 x11 x12 x13 x14 x15 a18 a19 a20 x16 a21 x17 a22 x18 x19 a23 a24 a25 a26 x20 a27 x21 a28 a29 a30 y0 a31 a32 a33 a34 a35 a36 a37 a38 a39 x22 x23 x24 y1 a40 x25 a41 a42 a43 a44 x26 x27 x28 x29 a1 f0) sz) (fun u : gEx => (zS_51 cB cC cI cJ a0 a2 x2 x3 x4 x5 x6 x7 x8 x9 a3 a4 a5 a6 a7 a8 a9 a10 a11 a12 a13 a14 a15 a16 a17 x10 x11 x12 x13 x14 x15 a18 a19 a20 x16 a21 x17 a22 x18 x19 a23 a24 a25 a26 x20 a27 x21 a28 a29 a30 y0 a31 a32 a33 a34 a35 a36 a37 a38 a39 x22 x23 x24 y1 a40 x25 a41 a42 a43 a44 x26 x27 x28 x29 a1 f0))) (va_A (zS_51 cB cC cI cJ a0 a2 x2 x3 x4 x5 x6 x7 x8 x9 a3 a4 a5 a6 a7 a8 a9 a10 a11 a12 a13 a14 a15 a16 a17 x10 x11 x12 x13 x14 x15 a18 a19 a20 x16 a21 x17 a22 x18 x19 a23 a24 a25 a26 x20 a27 x21 a28 a29 a30 y0 a31 a32 a33 a34 a35 a36 a37 a38 a39 x22 x23 x24 y1 a40 x25 a41 a42 a43 a44 x26 x27 x28 x29 a1 f0) sz)) 0 0 (va_A (zS_51 cB cC cI cJ a0 a2 x2 x3 x4 x5 x6 x7 x8 x9 a3 a4 a5 a6 a7 a8 a9 a10 a11 a12 a13 a14 a15 a16 a17 x10 x11 x12 x13 x14 x15 a18 a19 a20 x16 a21 x17 a22 x18 x19 a23 a24 a25 a26 x20 a27 x21 a28 a29 a30 y0 a31 a32 a33 a34 a35 a36 a37 a38 a39 x22 x23 x24 y1 a40 x25 a41 a42 a43 a44 x26 x27 x28 x29 a1 f0) sz) := by
  refine gOf_i (by decide +kernel) (Nat.le_of_ble_eq_true rfl) ?_
  intro p e s m args below meth c ls A Q hx hb hts hown hml hN hK hP hD hA hl hret
  replace hown : s.vm.findClass RX12 = some m.cls := hown
  have hS : va_S A s.heap s.heap [] := va_S.rf
  replace hP : va_P D gcl (zS_51 cB cC cI cJ a0 a2 x2 x3 x4 x5 x6 x7 x8 x9 a3 a4 a5 a6 a7 a8 a9 a10 a11 a12 a13 a14 a15 a16 a17 x10 x11 x12 x13 x14 x15 a18 a19 a20 x16 a21 x17 a22 x18 x19 a23 a24 a25 a26 x20 a27 x21 a28 a29 a30 y0 a31 a32 a33 a34 a35 a36 a37 a38 a39 x22 x23 x24 y1 a40 x25 a41 a42 a43 a44 x26 x27 x28 x29 a1 f0) s.heap := hP
  replace hl : lv_has ls 6 [(0, .ref a0), (1, .int x0), (2, .int x1), (3, .ref a1)] := hl
  have rx8 : zBd x8.toInt (-2147483648) 2147483647 := n_rng x8
  have rx9 : zBd x9.toInt (-2147483648) 2147483647 := n_rng x9
  have rx15 : zBd x15.toInt (-2147483648) 2147483647 := n_rng x15
  have rx19 : zBd x19.toInt (-2147483648) 2147483647 := n_rng x19
  have ry0 := n_rngL y0
  have ry1 := n_rngL y1
  refine lv_iconst (pc := 0) (v := 0) hx hb dX12_productOf_0 (by decide) ?_
  refine lv_istore (pc := 1) (lv' := [(4, .int 0), (0, .ref a0), (1, .int x0), (2, .int x1), (3, .ref a1)]) hx hb dX12_productOf_1 hl (by decide) rfl (fun ls hl => ?_)
  refine lv_iconst (pc := 3) (v := 0) hx hb dX12_productOf_3 (by decide) ?_
  refine lv_istore (pc := 4) (lv' := [(5, .int 0), (4, .int 0), (0, .ref a0), (1, .int x0), (2, .int x1), (3, .ref a1)]) hx hb dX12_productOf_4 hl (by decide) rfl (fun ls hl => ?_)
  have lp_7 : ∀ (n : Nat) (x_1 x_3 : Int32) (H : Heap) (locs : List Loc) (ls : Array Slot), (0 ≤ x_1.toInt ∧ x_1.toInt ≤ 6) → (x_1.toInt ≤ x12.toInt) → (x_3 = prn f0 x0.toInt x1.toInt (x_1.toInt).toNat) → (2147483647 - x_1.toInt).toNat < n → va_P D gcl (zS_51 cB cC cI cJ a0 a2 x2 x3 x4 x5 x6 x7 x8 x9 a3 a4 a5 a6 a7 a8 a9 a10 a11 a12 a13 a14 a15 a16 a17 x10 x11 x12 x13 x14 x15 a18 a19 a20 x16 a21 x17 a22 x18 x19 a23 a24 a25 a26 x20 a27 x21 a28 a29 a30 y0 a31 a32 a33 a34 a35 a36 a37 a38 a39 x22 x23 x24 y1 a40 x25 a41 a42 a43 a44 x26 x27 x28 x29 a1 f0) H → va_D A (zS_51 cB cC cI cJ a0 a2 x2 x3 x4 x5 x6 x7 x8 x9 a3 a4 a5 a6 a7 a8 a9 a10 a11 a12 a13 a14 a15 a16 a17 x10 x11 x12 x13 x14 x15 a18 a19 a20 x16 a21 x17 a22 x18 x19 a23 a24 a25 a26 x20 a27 x21 a28 a29 a30 y0 a31 a32 a33 a34 a35 a36 a37 a38 a39 x22 x23 x24 y1 a40 x25 a41 a42 a43 a44 x26 x27 x28 x29 a1 f0) → va_S A s.heap H locs → lv_has ls 6 [(5, .int x_1), (4, .int x_3), (0, .ref a0), (1, .int x0), (2, .int x1), (3, .ref a1)] → W p l e ({ frames := 0, cells := 0, slots := 0, locals := 0 }) s m args below meth c H locs 0 0 Q (F0 m 6 ls []) := by
    intro n
    induction n with
    | zero => intro x_1 x_3 H locs ls hi_2 hi_5 hi_6 hmu; exact absurd hmu (Nat.not_lt_zero _)
    | succ n ih_lp_7 =>
      intro x_1 x_3 H locs ls hi_2 hi_5 hi_6 hmu_lp_7 hP hD hS hl
      have hi_4 := n_rng x_3
      refine lv_iload (pc := 6) hx hb dX12_productOf_6 (lv_at hl 0 rfl) ?_
      refine lv_aload_n (pc := 8) hx hb dX12_productOf_8 rfl (lv_at hl 2 rfl) ?_
      refine va_get (pc := 9) (ci := 12) (v := .int x12) (C := RX12) (T := TX12) (N := 73) hx hb hts iX12 hown hK hP 0 rfl rfl 26 (by decide) (hts _ tw_1427) (fun _ h9 => h9) rfl dX12_productOf_9 ?_
      have bd_h_x12 : 0 ≤ x12.toInt ∧ x12.toInt ≤ 6 := h_x12
      refine b_icmp_ge (pc := 12) (tgt := 43) hx hb rfl rfl  dX12_productOf_12 (by decide) (fun c_8 => ?_) (fun c_8 => ?_)
      ·
        as_aux_lemma =>
          refine lv_iload (pc := 43) hx hb dX12_productOf_43 (lv_at hl 1 rfl) ?_
          have hP9 : va_P D gcl (zS_51 cB cC cI cJ a0 a2 x2 x3 x4 x5 x6 x7 x8 x9 a3 a4 a5 a6 a7 a8 a9 a10 a11 a12 a13 a14 a15 a16 a17 x10 x11 x12 x13 x14 x15 a18 a19 a20 x16 a21 x17 a22 x18 x19 a23 a24 a25 a26 x20 a27 x21 a28 a29 a30 y0 a31 a32 a33 a34 a35 a36 a37 a38 a39 x22 x23 x24 y1 a40 x25 a41 a42 a43 a44 x26 x27 x28 x29 a1 f0) H := g_psub hP [0, 1] rfl
          have hD9 : va_D A (zS_51 cB cC cI cJ a0 a2 x2 x3 x4 x5 x6 x7 x8 x9 a3 a4 a5 a6 a7 a8 a9 a10 a11 a12 a13 a14 a15 a16 a17 x10 x11 x12 x13 x14 x15 a18 a19 a20 x16 a21 x17 a22 x18 x19 a23 a24 a25 a26 x20 a27 x21 a28 a29 a30 y0 a31 a32 a33 a34 a35 a36 a37 a38 a39 x22 x23 x24 y1 a40 x25 a41 a42 a43 a44 x26 x27 x28 x29 a1 f0) := hD.sub [0, 1] (by decide) rfl
          exact hret x_3 ((fun _ => 0), (fun _ => (fun _ => 0)), (fun _ => (fun _ => 0)), (fun _ => 0), (fun _ => 0)) dX12_productOf_45 (show x_3 = prn f0 x0.toInt x1.toInt (x12.toInt).toNat from (by have e9 : x_1.toInt = x12.toInt := (by (first | omega | (unfold zBd at *; omega))); have q9 := hi_6; rw [e9] at q9; exact q9)) hP9 hD9 hS
      ·
        as_aux_lemma =>
          refine lv_iload (pc := 15) hx hb dX12_productOf_15 (lv_at hl 1 rfl) ?_
          refine lv_aload_n (pc := 17) hx hb dX12_productOf_17 rfl (lv_at hl 5 rfl) ?_
          refine lv_iconst (pc := 18) (v := 5) hx hb dX12_productOf_18 (by decide) ?_
          refine lv_iload (pc := 19) hx hb dX12_productOf_19 (lv_at hl 0 rfl) ?_
          refine b_imul (pc := 21) hx hb tI_5 rfl (by first | exact (om_941 hi_2.1) | ((first | omega | (unfold zBd at *; omega)))) (by first | exact (om_1528 hi_2.2) | ((first | omega | (unfold zBd at *; omega)))) dX12_productOf_21 (fun x_9 ex_9 => ?_)
          refine lv_iload_n (pc := 22) hx hb dX12_productOf_22 rfl (lv_at hl 3 rfl) ?_
          refine b_iadd (pc := 23) hx hb rfl rfl (by first | exact (om_1529 ex_9 hp1.1 hi_2.1) | ((first | omega | (unfold zBd at *; omega)))) (by first | exact (om_1530 ex_9 hp1.2 hi_2.2) | ((first | omega | (unfold zBd at *; omega)))) dX12_productOf_23 (fun x_10 ex_10 => ?_)
          refine va_iald (pc := 24) hx hb hK hP 1 2 rfl rfl (n_in rfl (by first | exact (om_1531 ex_10 ex_9 hp1.1 hi_2.1) | ((first | omega | (unfold zBd at *; omega)))) (by first | exact (om_1533 ex_10 ex_9 hp1.2 c_8 h_x12.2) | ((first | omega | (unfold zBd at *; omega))))) dX12_productOf_24 ?_
          refine lv_topi (fun x_11 ex_11 => ?_)
          have rx_11 : zBd x_11.toInt (-2147483648) 2147483647 := n_rng x_11
          replace ex_11 : x_11 = f0 (x_10.toInt).toNat := ex_11
          have tx_11 := congrArg Int32.toInt ex_11
          refine lv_aload_n (pc := 25) hx hb dX12_productOf_25 rfl (lv_at hl 5 rfl) ?_
          as_aux_lemma =>
            refine lv_iconst (pc := 26) (v := 5) hx hb dX12_productOf_26 (by decide) ?_
            refine lv_iload (pc := 27) hx hb dX12_productOf_27 (lv_at hl 0 rfl) ?_
            refine b_imul (pc := 29) hx hb tI_5 rfl (by first | exact (om_941 hi_2.1) | ((first | omega | (unfold zBd at *; omega)))) (by first | exact (om_1528 hi_2.2) | ((first | omega | (unfold zBd at *; omega)))) dX12_productOf_29 (fun x_12 ex_12 => ?_)
            refine lv_iload_n (pc := 30) hx hb dX12_productOf_30 rfl (lv_at hl 4 rfl) ?_
            refine b_iadd (pc := 31) hx hb rfl rfl (by first | exact (om_1529 ex_12 hp2.1 hi_2.1) | ((first | omega | (unfold zBd at *; omega)))) (by first | exact (om_1530 ex_12 hp2.2 hi_2.2) | ((first | omega | (unfold zBd at *; omega)))) dX12_productOf_31 (fun x_13 ex_13 => ?_)
            refine va_iald (pc := 32) hx hb hK hP 1 2 rfl rfl (n_in rfl (by first | exact (om_1531 ex_13 ex_12 hp2.1 hi_2.1) | ((first | omega | (unfold zBd at *; omega)))) (by first | exact (om_1533 ex_13 ex_12 hp2.2 c_8 h_x12.2) | ((first | omega | (unfold zBd at *; omega))))) dX12_productOf_32 ?_
            refine lv_topi (fun x_14 ex_14 => ?_)
            have rx_14 : zBd x_14.toInt (-2147483648) 2147483647 := n_rng x_14
            replace ex_14 : x_14 = f0 (x_13.toInt).toNat := ex_14
            have tx_14 := congrArg Int32.toInt ex_14
            refine lv_imul (pc := 33) hx hb dX12_productOf_33 ?_
            refine lv_topi (fun x_15 ex_15 => ?_)
            have rx_15 : zBd x_15.toInt (-2147483648) 2147483647 := n_rng x_15
            refine lv_iadd (pc := 34) hx hb dX12_productOf_34 ?_
            as_aux_lemma =>
              refine lv_topi (fun x_16 ex_16 => ?_)
              have rx_16 : zBd x_16.toInt (-2147483648) 2147483647 := n_rng x_16
              refine lv_istore (pc := 35) (lv' := [(4, .int x_16), (5, .int x_1), (0, .ref a0), (1, .int x0), (2, .int x1), (3, .ref a1)]) hx hb dX12_productOf_35 hl (by decide) rfl (fun ls hl => ?_)
              refine b_iinc (pc := 37) hx hb dX12_productOf_37 hl (k := 1) rfl rfl tI_1 (by first | exact (om_2 hi_2.1) | ((first | omega | (unfold zBd at *; omega)))) (by first | exact (om_38 hi_2.2) | ((first | omega | (unfold zBd at *; omega)))) (by decide) (fun x_17 ex_17 ls hl => ?_)
              replace hl : lv_has ls 6 [(5, .int x_17), (4, .int x_16), (0, .ref a0), (1, .int x0), (2, .int x1), (3, .ref a1)] := hl
              refine lv_goto (pc := 40) (tgt := 6) hx hb dX12_productOf_40 (by decide) ?_
              exact ih_lp_7 x_17 x_16 _ _ ls (by first | exact (om_39 ex_17 hi_2.1 c_8 h_x12.2) | ((first | omega | (unfold zBd at *; omega)))) (by first | exact (om_40 ex_17 c_8) | ((first | omega | (unfold zBd at *; omega)))) (prn_step hi_6 (e_ld ex_11 (by (first | omega | (unfold zBd at *; omega)))).symm (e_ld ex_14 (by (first | omega | (unfold zBd at *; omega)))).symm ex_15 ex_16 (by first | exact (om_0 hi_2.1) | ((first | omega | (unfold zBd at *; omega)))) (by first | exact (om_5 ex_17) | ((first | omega | (unfold zBd at *; omega))))) (by (first | omega | (unfold zBd at *; omega))) hP hD hS (lv_sub hl [0, 1, 2, 3, 4, 5] rfl)
  exact lp_7 _ 0 0 _ _ ls (n_c tI_0 (by decide)) (by have q := tI_0; (first | omega | (unfold zBd at *; omega))) (rfl) (Nat.lt_succ_self _) hP hD hS (lv_sub hl [0, 1, 2, 3, 4, 5] rfl)
theorem om_1534 {a b c : Int} (h0 : (¬ b = 0)) (h1 : (0 ≤ b)) (h2 : (-a ≤ 4294967296 - 4294967296 * b)) (h3 : (a ≤ c - 1 + 4294967296 - 4294967296 * b)) (h4 : (c ≤ 5)) : ((0 ≤ a ∧ a ≤ 4)) := by omega
set_option maxHeartbeats 4000000 in
set_option maxRecDepth 100000 in
theorem k_X12_product (l : Launch) (D : va_G) (cB cC cI cJ : ClassId) (sz : Nat) (a0 a1 a2 a3 a4 a5 a6 a7 a8 a9 a10 a11 a12 a13 a14 a15 a16 a17 a18 a19 a20 a21 a22 a23 a24 a25 a26 a27 a28 a29 a30 a31 a32 a33 a34 a35 a36 a37 a38 a39 a40 a41 a42 a43 : Nat) (x0 x1 x2 x3 x4 x5 x6 x7 x8 x9 x10 x11 x12 x13 x14 x15 x16 x17 x18 x19 x20 x21 x22 x23 x24 x25 x26 x27 x28 x29 x30 : Int32) (y0 y1 : Int64) (f0 f1 : Nat → Int32) (hp3 : (0 ≤ x2.toInt ∧ x2.toInt ≤ 1)) (h_x3 : zBd x3.toInt 0 1600) (h_x4 : zBd x4.toInt 0 1600) (h_x5 : zBd x5.toInt 0 1600) (h_x6 : zBd x6.toInt (-1) 1600) (h_x7 : zBd x7.toInt 0 4) (h_x8 : zBd x8.toInt (-1) 1600) (h_x11 : zBd x11.toInt 0 8) (h_x12 : zBd x12.toInt 0 5) (h_x13 : zBd x13.toInt 0 6) (h_x14 : zBd x14.toInt 0 6) (h_x15 : zBd x15.toInt 0 16) (h_x17 : zBd x17.toInt 0 60) (h_x18 : zBd x18.toInt 0 1600) (h_x19 : zBd x19.toInt 0 1700) (h_x21 : zBd x21.toInt 0 1700) (h_x22 : zBd x22.toInt 0 1700) (h_x23 : zBd x23.toInt 0 200) (h_x24 : zBd x24.toInt 0 40) (h_x25 : zBd x25.toInt 0 40) (h_x26 : zBd x26.toInt 0 1) (h_x27 : zBd x27.toInt 0 14) (h_x28 : zBd x28.toInt 0 200) (h_x29 : zBd x29.toInt 0 40) (h_x30 : zBd x30.toInt 0 40) (hr_a0_0 : (x24.toInt ≤ x23.toInt)) (hr_a0_1 : (x23.toInt + x25.toInt ≤ 200)) (hr_a0_2 : (x12.toInt = 0 ∨ 2 ≤ x11.toInt)) (hf_f1 : (∀ j, (-9999) ≤ (f1 j).toInt ∧ (f1 j).toInt ≤ 9999)) : Met l yX12_product (.code yX12_product cX12_product 4 (some .int) :: lw_gd) ({ frames := 2, cells := 0, slots := 0, locals := 46 }) (gPre D [(cB, .byte), (cC, .char), (cI, .int), (cJ, .long)] [.ref a0, .int x0, .int x1, .int x2] (zS_15 cB cC cI cJ a0 a1 x3 x4 x5 x6 x7 x8 x9 x10 a2 a3 a4 a5 a6 a7 a8 a9 a10 a11 a12 a13 a14 a15 a16 x11 x12 x13 x14 x15 x16 a17 a18 a19 x17 a20 x18 a21 x19 x20 a22 a23 a24 a25 x21 a26 x22 a27 a28 a29 y0 a30 a31 a32 a33 a34 a35 a36 a37 a38 x23 x24 x25 y1 a39 x26 a40 a41 a42 a43 x27 x28 x29 x30 a27 f0 a18 f1) sz) (va_Qi (fun r u => (cvQ r.toInt (rcP x0.toInt x1.toInt x12.toInt x12.toInt) x2.toInt ((prn f0 x0.toInt x1.toInt (x13.toInt).toNat).toInt) ((prn f1 x0.toInt x1.toInt (x13.toInt).toNat).toInt) (-1000000000))) (gB D (va_A (zS_15 cB cC cI cJ a0 a1 x3 x4 x5 x6 x7 x8 x9 x10 a2 a3 a4 a5 a6 a7 a8 a9 a10 a11 a12 a13 a14 a15 a16 x11 x12 x13 x14 x15 x16 a17 a18 a19 x17 a20 x18 a21 x19 x20 a22 a23 a24 a25 x21 a26 x22 a27 a28 a29 y0 a30 a31 a32 a33 a34 a35 a36 a37 a38 x23 x24 x25 y1 a39 x26 a40 a41 a42 a43 x27 x28 x29 x30 a27 f0 a18 f1) sz) (fun u : gEx => (zS_15 cB cC cI cJ a0 a1 x3 x4 x5 x6 x7 x8 x9 x10 a2 a3 a4 a5 a6 a7 a8 a9 a10 a11 a12 a13 a14 a15 a16 x11 x12 x13 x14 x15 x16 a17 a18 a19 x17 a20 x18 a21 x19 x20 a22 a23 a24 a25 x21 a26 x22 a27 a28 a29 y0 a30 a31 a32 a33 a34 a35 a36 a37 a38 x23 x24 x25 y1 a39 x26 a40 a41 a42 a43 x27 x28 x29 x30 a27 f0 a18 f1))) (va_A (zS_15 cB cC cI cJ a0 a1 x3 x4 x5 x6 x7 x8 x9 x10 a2 a3 a4 a5 a6 a7 a8 a9 a10 a11 a12 a13 a14 a15 a16 x11 x12 x13 x14 x15 x16 a17 a18 a19 x17 a20 x18 a21 x19 x20 a22 a23 a24 a25 x21 a26 x22 a27 a28 a29 y0 a30 a31 a32 a33 a34 a35 a36 a37 a38 x23 x24 x25 y1 a39 x26 a40 a41 a42 a43 x27 x28 x29 x30 a27 f0 a18 f1) sz)) 0 0 (va_A (zS_15 cB cC cI cJ a0 a1 x3 x4 x5 x6 x7 x8 x9 x10 a2 a3 a4 a5 a6 a7 a8 a9 a10 a11 a12 a13 a14 a15 a16 x11 x12 x13 x14 x15 x16 a17 a18 a19 x17 a20 x18 a21 x19 x20 a22 a23 a24 a25 x21 a26 x22 a27 a28 a29 y0 a30 a31 a32 a33 a34 a35 a36 a37 a38 x23 x24 x25 y1 a39 x26 a40 a41 a42 a43 x27 x28 x29 x30 a27 f0 a18 f1) sz) := by
  refine gOf_i (by decide +kernel) (Nat.le_of_ble_eq_true rfl) ?_
  intro p e s m args below meth c ls A Q hx hb hts hown hml hN hK hP hD hA hl hret
  replace hown : s.vm.findClass RX12 = some m.cls := hown
  have hS : va_S A s.heap s.heap [] := va_S.rf
  replace hP : va_P D gcl (zS_15 cB cC cI cJ a0 a1 x3 x4 x5 x6 x7 x8 x9 x10 a2 a3 a4 a5 a6 a7 a8 a9 a10 a11 a12 a13 a14 a15 a16 x11 x12 x13 x14 x15 x16 a17 a18 a19 x17 a20 x18 a21 x19 x20 a22 a23 a24 a25 x21 a26 x22 a27 a28 a29 y0 a30 a31 a32 a33 a34 a35 a36 a37 a38 x23 x24 x25 y1 a39 x26 a40 a41 a42 a43 x27 x28 x29 x30 a27 f0 a18 f1) s.heap := hP
  replace hl : lv_has ls 4 [(0, .ref a0), (1, .int x0), (2, .int x1), (3, .int x2)] := hl
  have rx0 : zBd x0.toInt (-2147483648) 2147483647 := n_rng x0
  have rx1 : zBd x1.toInt (-2147483648) 2147483647 := n_rng x1
  have rx9 : zBd x9.toInt (-2147483648) 2147483647 := n_rng x9
  have rx10 : zBd x10.toInt (-2147483648) 2147483647 := n_rng x10
  have rx16 : zBd x16.toInt (-2147483648) 2147483647 := n_rng x16
  have rx20 : zBd x20.toInt (-2147483648) 2147483647 := n_rng x20
  have ry0 := n_rngL y0
  have ry1 := n_rngL y1
  refine lv_aload_n (pc := 0) hx hb dX12_product_0 rfl (lv_at hl 0 rfl) ?_
  refine lv_iload_n (pc := 1) hx hb dX12_product_1 rfl (lv_at hl 1 rfl) ?_
  refine gd_i (pc := 2) (wc := (zS_4 cB cC cI cJ a0 a1 x3 x4 x5 x6 x7 x8 x9 x10 a2 a3 a4 a5 a6 a7 a8 a9 a10 a11 a12 a13 a14 a15 a16 x11 x12 x13 x14 x15 x16 a17 a18 a19 x17 a20 x18 a21 x19 x20 a22 a23 a24 a25 x21 a26 x22 a27 a28 a29 y0 a30 a31 a32 a33 a34 a35 a36 a37 a38 x23 x24 x25 y1 a39 x26 a40 a41 a42 a43 x27 x28 x29 x30)) hP hD hS hA [0] rfl (by decide +kernel) (fun _ => by rfl) (fun hPc hDc => va_runV (As := [.int x0]) (rest := []) ⟨hx, hb, hml, hown, hts⟩ (k_X12_isSender l D cB cC cI cJ _ a0 a1 a2 a3 a4 a5 a6 a7 a8 a9 a10 a11 a12 a13 a14 a15 a16 a17 a18 a19 a20 a21 a22 a23 a24 a25 a26 a27 a28 a29 a30 a31 a32 a33 a34 a35 a36 a37 a38 a39 a40 a41 a42 a43 x0 x3 x4 x5 x6 x7 x8 x9 x10 x11 x12 x13 x14 x15 x16 x17 x18 x19 x20 x21 x22 x23 x24 x25 x26 x27 x28 x29 x30 y0 y1 h_x3 h_x4 h_x5 h_x6 h_x7 h_x8 h_x11 h_x12 h_x13 h_x14 h_x15 h_x17 h_x18 h_x19 h_x21 h_x22 h_x23 h_x24 h_x25 h_x26 h_x27 h_x28 h_x29 h_x30 hr_a0_0 hr_a0_1 hr_a0_2) ⟨gcwB hts tw_1782 tw_14 tw_1779 hd_yX12_isSender ⟨Nat.le_of_ble_eq_true rfl, Nat.le_of_ble_eq_true rfl⟩, hts _ tw_1781, hts _ tp_90⟩ ⟨gblind, va_recv hK hPc (ci := 12) (q0 := 0) rfl rfl, (gpreS hPc hK hDc hN).2⟩ rfl rfl hl.1 rfl (lv_room (Nat.le_of_ble_eq_true rfl)) dX12_product_2 ⟨Nat.le_of_ble_eq_true rfl, Nat.le_of_ble_eq_true rfl⟩) (fun r_2 u_1 H locs hw_3 hP hD hS => ?_)
  replace hP : va_P D gcl (zS_15 cB cC cI cJ a0 a1 x3 x4 x5 x6 x7 x8 x9 x10 a2 a3 a4 a5 a6 a7 a8 a9 a10 a11 a12 a13 a14 a15 a16 x11 x12 x13 x14 x15 x16 a17 a18 a19 x17 a20 x18 a21 x19 x20 a22 a23 a24 a25 x21 a26 x22 a27 a28 a29 y0 a30 a31 a32 a33 a34 a35 a36 a37 a38 x23 x24 x25 y1 a39 x26 a40 a41 a42 a43 x27 x28 x29 x30 a27 f0 a18 f1) H := hP
  replace hD : va_D A (zS_15 cB cC cI cJ a0 a1 x3 x4 x5 x6 x7 x8 x9 x10 a2 a3 a4 a5 a6 a7 a8 a9 a10 a11 a12 a13 a14 a15 a16 x11 x12 x13 x14 x15 x16 a17 a18 a19 x17 a20 x18 a21 x19 x20 a22 a23 a24 a25 x21 a26 x22 a27 a28 a29 y0 a30 a31 a32 a33 a34 a35 a36 a37 a38 x23 x24 x25 y1 a39 x26 a40 a41 a42 a43 x27 x28 x29 x30 a27 f0 a18 f1) := hD
  obtain ⟨hw_4, hw_5, hw_6⟩ := hw_3
  replace hw_4 : (0 ≤ r_2.toInt ∧ r_2.toInt ≤ 1) := hw_4
  replace hw_5 : (-x0.toInt ≤ 4294967296 - 4294967296 * r_2.toInt ∧ x0.toInt ≤ x12.toInt - 1 + 4294967296 - 4294967296 * r_2.toInt) := hw_5
  replace hw_6 : (inQ r_2.toInt x0.toInt x12.toInt) := hw_6
  have rr_2 : zBd r_2.toInt (-2147483648) 2147483647 := n_rng r_2
  refine b_if_eq (pc := 5) (tgt := 16) hx hb rfl  dX12_product_5 (by decide) (fun c_7 => ?_) (fun c_7 => ?_)
  ·
    as_aux_lemma =>
      refine lv_ldcw (pc := 16) hx hb hown (hts _ tw_1783) dX12_product_16 ?_
      have hP9 : va_P D gcl (zS_15 cB cC cI cJ a0 a1 x3 x4 x5 x6 x7 x8 x9 x10 a2 a3 a4 a5 a6 a7 a8 a9 a10 a11 a12 a13 a14 a15 a16 x11 x12 x13 x14 x15 x16 a17 a18 a19 x17 a20 x18 a21 x19 x20 a22 a23 a24 a25 x21 a26 x22 a27 a28 a29 y0 a30 a31 a32 a33 a34 a35 a36 a37 a38 x23 x24 x25 y1 a39 x26 a40 a41 a42 a43 x27 x28 x29 x30 a27 f0 a18 f1) H := g_psub hP [0, 1, 2] rfl
      have hD9 : va_D A (zS_15 cB cC cI cJ a0 a1 x3 x4 x5 x6 x7 x8 x9 x10 a2 a3 a4 a5 a6 a7 a8 a9 a10 a11 a12 a13 a14 a15 a16 x11 x12 x13 x14 x15 x16 a17 a18 a19 x17 a20 x18 a21 x19 x20 a22 a23 a24 a25 x21 a26 x22 a27 a28 a29 y0 a30 a31 a32 a33 a34 a35 a36 a37 a38 x23 x24 x25 y1 a39 x26 a40 a41 a42 a43 x27 x28 x29 x30 a27 f0 a18 f1) := hD.sub [0, 1, 2] (by decide) rfl
      have k9 := tI_m1000000000
      exact hret (-1000000000) ((fun _ => 0), (fun _ => (fun _ => 0)), (fun _ => (fun _ => 0)), (fun _ => 0), (fun _ => 0)) dX12_product_19 (show cvQ ((-1000000000) : Int32).toInt (rcP x0.toInt x1.toInt x12.toInt x12.toInt) x2.toInt ((prn f0 x0.toInt x1.toInt (x13.toInt).toNat).toInt) ((prn f1 x0.toInt x1.toInt (x13.toInt).toNat).toInt) (-1000000000) from cv_n (by unfold rcP; have q := hw_6; unfold inQ at q; (first | omega | (unfold zBd at *; omega))) (by first | exact (om_320 tI_m1000000000) | ((first | omega | (unfold zBd at *; omega))))) hP9 hD9 hS
  ·
    as_aux_lemma =>
      refine lv_aload_n (pc := 8) hx hb dX12_product_8 rfl (lv_at hl 0 rfl) ?_
      refine lv_iload_n (pc := 9) hx hb dX12_product_9 rfl (lv_at hl 2 rfl) ?_
      refine gd_i (pc := 10) (wc := (zS_4 cB cC cI cJ a0 a1 x3 x4 x5 x6 x7 x8 x9 x10 a2 a3 a4 a5 a6 a7 a8 a9 a10 a11 a12 a13 a14 a15 a16 x11 x12 x13 x14 x15 x16 a17 a18 a19 x17 a20 x18 a21 x19 x20 a22 a23 a24 a25 x21 a26 x22 a27 a28 a29 y0 a30 a31 a32 a33 a34 a35 a36 a37 a38 x23 x24 x25 y1 a39 x26 a40 a41 a42 a43 x27 x28 x29 x30)) hP hD hS hA [0] rfl (by decide +kernel) (fun _ => by rfl) (fun hPc hDc => va_runV (As := [.int x1]) (rest := []) ⟨hx, hb, hml, hown, hts⟩ (k_X12_isSender l D cB cC cI cJ _ a0 a1 a2 a3 a4 a5 a6 a7 a8 a9 a10 a11 a12 a13 a14 a15 a16 a17 a18 a19 a20 a21 a22 a23 a24 a25 a26 a27 a28 a29 a30 a31 a32 a33 a34 a35 a36 a37 a38 a39 a40 a41 a42 a43 x1 x3 x4 x5 x6 x7 x8 x9 x10 x11 x12 x13 x14 x15 x16 x17 x18 x19 x20 x21 x22 x23 x24 x25 x26 x27 x28 x29 x30 y0 y1 h_x3 h_x4 h_x5 h_x6 h_x7 h_x8 h_x11 h_x12 h_x13 h_x14 h_x15 h_x17 h_x18 h_x19 h_x21 h_x22 h_x23 h_x24 h_x25 h_x26 h_x27 h_x28 h_x29 h_x30 hr_a0_0 hr_a0_1 hr_a0_2) ⟨gcwB hts tw_1782 tw_14 tw_1779 hd_yX12_isSender ⟨Nat.le_of_ble_eq_true rfl, Nat.le_of_ble_eq_true rfl⟩, hts _ tw_1781, hts _ tp_90⟩ ⟨gblind, va_recv hK hPc (ci := 12) (q0 := 0) rfl rfl, (gpreS hPc hK hDc hN).2⟩ rfl rfl hl.1 rfl (lv_room (Nat.le_of_ble_eq_true rfl)) dX12_product_10 ⟨Nat.le_of_ble_eq_true rfl, Nat.le_of_ble_eq_true rfl⟩) (fun r_9 u_8 H locs hw_10 hP hD hS => ?_)
      replace hP : va_P D gcl (zS_15 cB cC cI cJ a0 a1 x3 x4 x5 x6 x7 x8 x9 x10 a2 a3 a4 a5 a6 a7 a8 a9 a10 a11 a12 a13 a14 a15 a16 x11 x12 x13 x14 x15 x16 a17 a18 a19 x17 a20 x18 a21 x19 x20 a22 a23 a24 a25 x21 a26 x22 a27 a28 a29 y0 a30 a31 a32 a33 a34 a35 a36 a37 a38 x23 x24 x25 y1 a39 x26 a40 a41 a42 a43 x27 x28 x29 x30 a27 f0 a18 f1) H := hP
      replace hD : va_D A (zS_15 cB cC cI cJ a0 a1 x3 x4 x5 x6 x7 x8 x9 x10 a2 a3 a4 a5 a6 a7 a8 a9 a10 a11 a12 a13 a14 a15 a16 x11 x12 x13 x14 x15 x16 a17 a18 a19 x17 a20 x18 a21 x19 x20 a22 a23 a24 a25 x21 a26 x22 a27 a28 a29 y0 a30 a31 a32 a33 a34 a35 a36 a37 a38 x23 x24 x25 y1 a39 x26 a40 a41 a42 a43 x27 x28 x29 x30 a27 f0 a18 f1) := hD
      obtain ⟨hw_11, hw_12, hw_13⟩ := hw_10
      replace hw_11 : (0 ≤ r_9.toInt ∧ r_9.toInt ≤ 1) := hw_11
      replace hw_12 : (-x1.toInt ≤ 4294967296 - 4294967296 * r_9.toInt ∧ x1.toInt ≤ x12.toInt - 1 + 4294967296 - 4294967296 * r_9.toInt) := hw_12
      replace hw_13 : (inQ r_9.toInt x1.toInt x12.toInt) := hw_13
      have rr_9 : zBd r_9.toInt (-2147483648) 2147483647 := n_rng r_9
      refine b_if_ne (pc := 13) (tgt := 20) hx hb rfl  dX12_product_13 (by decide) (fun c_14 => ?_) (fun c_14 => ?_)
      ·
        as_aux_lemma =>
          refine lv_iload_n (pc := 20) hx hb dX12_product_20 rfl (lv_at hl 3 rfl) ?_
          refine b_if_eq (pc := 21) (tgt := 37) hx hb rfl  dX12_product_21 (by decide) (fun c_15 => ?_) (fun c_15 => ?_)
          ·
            as_aux_lemma =>
              refine lv_aload_n (pc := 37) hx hb dX12_product_37 rfl (lv_at hl 0 rfl) ?_
              refine lv_iload_n (pc := 38) hx hb dX12_product_38 rfl (lv_at hl 1 rfl) ?_
              refine lv_iload_n (pc := 39) hx hb dX12_product_39 rfl (lv_at hl 2 rfl) ?_
              refine lv_aload_n (pc := 40) hx hb dX12_product_40 rfl (lv_at hl 0 rfl) ?_
              refine va_get (pc := 41) (ci := 12) (v := .ref a18) (C := RX12) (T := TX12) (N := 73) hx hb hts iX12 hown hK hP 0 rfl rfl 31 (by decide) (hts _ tw_1432) (fun _ h9 => h9) rfl dX12_product_41 ?_
              refine gd_i (pc := 44) (wc := (zS_30 cB cC cI cJ a0 a1 x3 x4 x5 x6 x7 x8 x9 x10 a2 a3 a4 a5 a6 a7 a8 a9 a10 a11 a12 a13 a14 a15 a16 x11 x12 x13 x14 x15 x16 a17 a18 a19 x17 a20 x18 a21 x19 x20 a22 a23 a24 a25 x21 a26 x22 a27 a28 a29 y0 a30 a31 a32 a33 a34 a35 a36 a37 a38 x23 x24 x25 y1 a39 x26 a40 a41 a42 a43 x27 x28 x29 x30 a18 f1)) hP hD hS hA [0, 2] rfl (by decide +kernel) (fun _ => by rfl) (fun hPc hDc => va_runV (As := [.int x0, .int x1, .ref a18]) (rest := []) ⟨hx, hb, hml, hown, hts⟩ (k_X12_productOf_60rm9999_9999_x l D cB cC cI cJ _ a0 a18 a1 a2 a3 a4 a5 a6 a7 a8 a9 a10 a11 a12 a13 a14 a15 a16 a17 a18 a19 a20 a21 a22 a23 a24 a25 a26 a27 a28 a29 a30 a31 a32 a33 a34 a35 a36 a37 a38 a39 a40 a41 a42 a43 x0 x1 x3 x4 x5 x6 x7 x8 x9 x10 x11 x12 x13 x14 x15 x16 x17 x18 x19 x20 x21 x22 x23 x24 x25 x26 x27 x28 x29 x30 y0 y1 f1 (by first | exact (om_1534 c_7 hw_4.1 hw_5.1 hw_5.2 h_x12.2) | ((first | omega | (unfold zBd at *; omega)))) (by first | exact (om_1534 c_14 hw_11.1 hw_12.1 hw_12.2 h_x12.2) | ((first | omega | (unfold zBd at *; omega)))) h_x3 h_x4 h_x5 h_x6 h_x7 h_x8 h_x11 h_x12 h_x13 h_x14 h_x15 h_x17 h_x18 h_x19 h_x21 h_x22 h_x23 h_x24 h_x25 h_x26 h_x27 h_x28 h_x29 h_x30 hr_a0_0 hr_a0_1 hr_a0_2 hf_f1) ⟨gcwB hts tw_1791 tw_14 tw_1788 hd_yX12_productOf ⟨Nat.le_of_ble_eq_true rfl, Nat.le_of_ble_eq_true rfl⟩, hts _ tw_1790, hts _ tp_91⟩ ⟨gblind, va_recv hK hPc (ci := 12) (q0 := 0) rfl rfl, (gpreS hPc hK hDc hN).2⟩ rfl rfl hl.1 rfl (lv_room (Nat.le_of_ble_eq_true rfl)) dX12_product_44 ⟨Nat.le_of_ble_eq_true rfl, Nat.le_of_ble_eq_true rfl⟩) (fun r_17 u_16 H locs hw_18 hP hD hS => ?_)
              replace hP : va_P D gcl (zS_15 cB cC cI cJ a0 a1 x3 x4 x5 x6 x7 x8 x9 x10 a2 a3 a4 a5 a6 a7 a8 a9 a10 a11 a12 a13 a14 a15 a16 x11 x12 x13 x14 x15 x16 a17 a18 a19 x17 a20 x18 a21 x19 x20 a22 a23 a24 a25 x21 a26 x22 a27 a28 a29 y0 a30 a31 a32 a33 a34 a35 a36 a37 a38 x23 x24 x25 y1 a39 x26 a40 a41 a42 a43 x27 x28 x29 x30 a27 f0 a18 f1) H := hP
              replace hD : va_D A (zS_15 cB cC cI cJ a0 a1 x3 x4 x5 x6 x7 x8 x9 x10 a2 a3 a4 a5 a6 a7 a8 a9 a10 a11 a12 a13 a14 a15 a16 x11 x12 x13 x14 x15 x16 a17 a18 a19 x17 a20 x18 a21 x19 x20 a22 a23 a24 a25 x21 a26 x22 a27 a28 a29 y0 a30 a31 a32 a33 a34 a35 a36 a37 a38 x23 x24 x25 y1 a39 x26 a40 a41 a42 a43 x27 x28 x29 x30 a27 f0 a18 f1) := hD
              have hw_19 : (r_17 = prn f1 x0.toInt x1.toInt (x13.toInt).toNat) := hw_18
              have rr_17 : zBd r_17.toInt (-2147483648) 2147483647 := n_rng r_17
              have hP9 : va_P D gcl (zS_15 cB cC cI cJ a0 a1 x3 x4 x5 x6 x7 x8 x9 x10 a2 a3 a4 a5 a6 a7 a8 a9 a10 a11 a12 a13 a14 a15 a16 x11 x12 x13 x14 x15 x16 a17 a18 a19 x17 a20 x18 a21 x19 x20 a22 a23 a24 a25 x21 a26 x22 a27 a28 a29 y0 a30 a31 a32 a33 a34 a35 a36 a37 a38 x23 x24 x25 y1 a39 x26 a40 a41 a42 a43 x27 x28 x29 x30 a27 f0 a18 f1) H := g_psub hP [0, 1, 2] rfl
              have hD9 : va_D A (zS_15 cB cC cI cJ a0 a1 x3 x4 x5 x6 x7 x8 x9 x10 a2 a3 a4 a5 a6 a7 a8 a9 a10 a11 a12 a13 a14 a15 a16 x11 x12 x13 x14 x15 x16 a17 a18 a19 x17 a20 x18 a21 x19 x20 a22 a23 a24 a25 x21 a26 x22 a27 a28 a29 y0 a30 a31 a32 a33 a34 a35 a36 a37 a38 x23 x24 x25 y1 a39 x26 a40 a41 a42 a43 x27 x28 x29 x30 a27 f0 a18 f1) := hD.sub [0, 1, 2] (by decide) rfl
              exact hret r_17 ((fun _ => 0), (fun _ => (fun _ => 0)), (fun _ => (fun _ => 0)), (fun _ => 0), (fun _ => 0)) dX12_product_47 (show cvQ r_17.toInt (rcP x0.toInt x1.toInt x12.toInt x12.toInt) x2.toInt ((prn f0 x0.toInt x1.toInt (x13.toInt).toNat).toInt) ((prn f1 x0.toInt x1.toInt (x13.toInt).toNat).toInt) (-1000000000) from cv_0 (by unfold rcP; (first | omega | (unfold zBd at *; omega))) (by first | exact (om_31 c_15) | ((first | omega | (unfold zBd at *; omega)))) (congrArg Int32.toInt hw_19)) hP9 hD9 hS
          ·
            as_aux_lemma =>
              refine lv_aload_n (pc := 24) hx hb dX12_product_24 rfl (lv_at hl 0 rfl) ?_
              refine lv_iload_n (pc := 25) hx hb dX12_product_25 rfl (lv_at hl 1 rfl) ?_
              refine lv_iload_n (pc := 26) hx hb dX12_product_26 rfl (lv_at hl 2 rfl) ?_
              refine lv_aload_n (pc := 27) hx hb dX12_product_27 rfl (lv_at hl 0 rfl) ?_
              refine va_get (pc := 28) (ci := 12) (v := .ref a27) (C := RX12) (T := TX12) (N := 73) hx hb hts iX12 hown hK hP 0 rfl rfl 46 (by decide) (hts _ tw_1447) (fun _ h9 => h9) rfl dX12_product_28 ?_
              refine gd_i (pc := 31) (wc := (zS_51 cB cC cI cJ a0 a1 x3 x4 x5 x6 x7 x8 x9 x10 a2 a3 a4 a5 a6 a7 a8 a9 a10 a11 a12 a13 a14 a15 a16 x11 x12 x13 x14 x15 x16 a17 a18 a19 x17 a20 x18 a21 x19 x20 a22 a23 a24 a25 x21 a26 x22 a27 a28 a29 y0 a30 a31 a32 a33 a34 a35 a36 a37 a38 x23 x24 x25 y1 a39 x26 a40 a41 a42 a43 x27 x28 x29 x30 a27 f0)) hP hD hS hA [0, 1] rfl (by decide +kernel) (fun _ => by rfl) (fun hPc hDc => va_runV (As := [.int x0, .int x1, .ref a27]) (rest := []) ⟨hx, hb, hml, hown, hts⟩ (k_X12_productOf_30_x l D cB cC cI cJ _ a0 a27 a1 a2 a3 a4 a5 a6 a7 a8 a9 a10 a11 a12 a13 a14 a15 a16 a17 a18 a19 a20 a21 a22 a23 a24 a25 a26 a27 a28 a29 a30 a31 a32 a33 a34 a35 a36 a37 a38 a39 a40 a41 a42 a43 x0 x1 x3 x4 x5 x6 x7 x8 x9 x10 x11 x12 x13 x14 x15 x16 x17 x18 x19 x20 x21 x22 x23 x24 x25 x26 x27 x28 x29 x30 y0 y1 f0 (by first | exact (om_1534 c_7 hw_4.1 hw_5.1 hw_5.2 h_x12.2) | ((first | omega | (unfold zBd at *; omega)))) (by first | exact (om_1534 c_14 hw_11.1 hw_12.1 hw_12.2 h_x12.2) | ((first | omega | (unfold zBd at *; omega)))) h_x3 h_x4 h_x5 h_x6 h_x7 h_x8 h_x11 h_x12 h_x13 h_x14 h_x15 h_x17 h_x18 h_x19 h_x21 h_x22 h_x23 h_x24 h_x25 h_x26 h_x27 h_x28 h_x29 h_x30 hr_a0_0 hr_a0_1 hr_a0_2) ⟨gcwB hts tw_1791 tw_14 tw_1788 hd_yX12_productOf ⟨Nat.le_of_ble_eq_true rfl, Nat.le_of_ble_eq_true rfl⟩, hts _ tw_1790, hts _ tp_91⟩ ⟨gblind, va_recv hK hPc (ci := 12) (q0 := 0) rfl rfl, (gpreS hPc hK hDc hN).2⟩ rfl rfl hl.1 rfl (lv_room (Nat.le_of_ble_eq_true rfl)) dX12_product_31 ⟨Nat.le_of_ble_eq_true rfl, Nat.le_of_ble_eq_true rfl⟩) (fun r_21 u_20 H locs hw_22 hP hD hS => ?_)
              replace hP : va_P D gcl (zS_15 cB cC cI cJ a0 a1 x3 x4 x5 x6 x7 x8 x9 x10 a2 a3 a4 a5 a6 a7 a8 a9 a10 a11 a12 a13 a14 a15 a16 x11 x12 x13 x14 x15 x16 a17 a18 a19 x17 a20 x18 a21 x19 x20 a22 a23 a24 a25 x21 a26 x22 a27 a28 a29 y0 a30 a31 a32 a33 a34 a35 a36 a37 a38 x23 x24 x25 y1 a39 x26 a40 a41 a42 a43 x27 x28 x29 x30 a27 f0 a18 f1) H := hP
              replace hD : va_D A (zS_15 cB cC cI cJ a0 a1 x3 x4 x5 x6 x7 x8 x9 x10 a2 a3 a4 a5 a6 a7 a8 a9 a10 a11 a12 a13 a14 a15 a16 x11 x12 x13 x14 x15 x16 a17 a18 a19 x17 a20 x18 a21 x19 x20 a22 a23 a24 a25 x21 a26 x22 a27 a28 a29 y0 a30 a31 a32 a33 a34 a35 a36 a37 a38 x23 x24 x25 y1 a39 x26 a40 a41 a42 a43 x27 x28 x29 x30 a27 f0 a18 f1) := hD
              have hw_23 : (r_21 = prn f0 x0.toInt x1.toInt (x13.toInt).toNat) := hw_22
              have rr_21 : zBd r_21.toInt (-2147483648) 2147483647 := n_rng r_21
              refine lv_goto (pc := 34) (tgt := 47) hx hb dX12_product_34 (by decide) ?_
              have hP9 : va_P D gcl (zS_15 cB cC cI cJ a0 a1 x3 x4 x5 x6 x7 x8 x9 x10 a2 a3 a4 a5 a6 a7 a8 a9 a10 a11 a12 a13 a14 a15 a16 x11 x12 x13 x14 x15 x16 a17 a18 a19 x17 a20 x18 a21 x19 x20 a22 a23 a24 a25 x21 a26 x22 a27 a28 a29 y0 a30 a31 a32 a33 a34 a35 a36 a37 a38 x23 x24 x25 y1 a39 x26 a40 a41 a42 a43 x27 x28 x29 x30 a27 f0 a18 f1) H := g_psub hP [0, 1, 2] rfl
              have hD9 : va_D A (zS_15 cB cC cI cJ a0 a1 x3 x4 x5 x6 x7 x8 x9 x10 a2 a3 a4 a5 a6 a7 a8 a9 a10 a11 a12 a13 a14 a15 a16 x11 x12 x13 x14 x15 x16 a17 a18 a19 x17 a20 x18 a21 x19 x20 a22 a23 a24 a25 x21 a26 x22 a27 a28 a29 y0 a30 a31 a32 a33 a34 a35 a36 a37 a38 x23 x24 x25 y1 a39 x26 a40 a41 a42 a43 x27 x28 x29 x30 a27 f0 a18 f1) := hD.sub [0, 1, 2] (by decide) rfl
              exact hret r_21 ((fun _ => 0), (fun _ => (fun _ => 0)), (fun _ => (fun _ => 0)), (fun _ => 0), (fun _ => 0)) dX12_product_47 (show cvQ r_21.toInt (rcP x0.toInt x1.toInt x12.toInt x12.toInt) x2.toInt ((prn f0 x0.toInt x1.toInt (x13.toInt).toNat).toInt) ((prn f1 x0.toInt x1.toInt (x13.toInt).toNat).toInt) (-1000000000) from cv_1 (by unfold rcP; (first | omega | (unfold zBd at *; omega))) (by first | exact (om_34 c_15) | ((first | omega | (unfold zBd at *; omega)))) (congrArg Int32.toInt hw_23)) hP9 hD9 hS
      ·
        as_aux_lemma =>
          refine lv_ldcw (pc := 16) hx hb hown (hts _ tw_1783) dX12_product_16 ?_
          have hP9 : va_P D gcl (zS_15 cB cC cI cJ a0 a1 x3 x4 x5 x6 x7 x8 x9 x10 a2 a3 a4 a5 a6 a7 a8 a9 a10 a11 a12 a13 a14 a15 a16 x11 x12 x13 x14 x15 x16 a17 a18 a19 x17 a20 x18 a21 x19 x20 a22 a23 a24 a25 x21 a26 x22 a27 a28 a29 y0 a30 a31 a32 a33 a34 a35 a36 a37 a38 x23 x24 x25 y1 a39 x26 a40 a41 a42 a43 x27 x28 x29 x30 a27 f0 a18 f1) H := g_psub hP [0, 1, 2] rfl
          have hD9 : va_D A (zS_15 cB cC cI cJ a0 a1 x3 x4 x5 x6 x7 x8 x9 x10 a2 a3 a4 a5 a6 a7 a8 a9 a10 a11 a12 a13 a14 a15 a16 x11 x12 x13 x14 x15 x16 a17 a18 a19 x17 a20 x18 a21 x19 x20 a22 a23 a24 a25 x21 a26 x22 a27 a28 a29 y0 a30 a31 a32 a33 a34 a35 a36 a37 a38 x23 x24 x25 y1 a39 x26 a40 a41 a42 a43 x27 x28 x29 x30 a27 f0 a18 f1) := hD.sub [0, 1, 2] (by decide) rfl
          have k9 := tI_m1000000000
          exact hret (-1000000000) ((fun _ => 0), (fun _ => (fun _ => 0)), (fun _ => (fun _ => 0)), (fun _ => 0), (fun _ => 0)) dX12_product_19 (show cvQ ((-1000000000) : Int32).toInt (rcP x0.toInt x1.toInt x12.toInt x12.toInt) x2.toInt ((prn f0 x0.toInt x1.toInt (x13.toInt).toNat).toInt) ((prn f1 x0.toInt x1.toInt (x13.toInt).toNat).toInt) (-1000000000) from cv_n (by unfold rcP; have q := hw_13; unfold inQ at q; (first | omega | (unfold zBd at *; omega))) (by first | exact (om_320 tI_m1000000000) | ((first | omega | (unfold zBd at *; omega))))) hP9 hD9 hS
theorem om_1535 {a b : Int} (h0 : (a = b)) (h1 : ((-2147483648) ≤ b)) (h2 : (b ≤ 2147483647)) : (-2147483648 ≤ a ∧ a ≤ 2147483648) := by omega
set_option maxHeartbeats 4000000 in
set_option maxRecDepth 100000 in
theorem k_X12_clashOf_60rm9999_9999_E (l : Launch) (D : va_G) (cB cC cI cJ : ClassId) (sz : Nat) (a0 a1 a2 a3 a4 a5 a6 a7 a8 a9 a10 a11 a12 a13 a14 a15 a16 a17 a18 a19 a20 a21 a22 a23 a24 a25 a26 a27 a28 a29 a30 a31 a32 a33 a34 a35 a36 a37 a38 a39 a40 a41 a42 a43 a44 : Nat) (x0 x1 x2 x3 x4 x5 x6 x7 x8 x9 x10 x11 x12 x13 x14 x15 x16 x17 x18 x19 x20 x21 x22 x23 x24 x25 x26 x27 x28 x29 : Int32) (y0 y1 : Int64) (f0 : Nat → Int32) (hp1 : (0 ≤ x0.toInt ∧ x0.toInt ≤ 4)) (hp2 : (0 ≤ x1.toInt ∧ x1.toInt ≤ 4)) (h_x2 : zBd x2.toInt 0 1600) (h_x3 : zBd x3.toInt 0 1600) (h_x4 : zBd x4.toInt 0 1600) (h_x5 : zBd x5.toInt (-1) 1600) (h_x6 : zBd x6.toInt 0 4) (h_x7 : zBd x7.toInt (-1) 1600) (h_x10 : zBd x10.toInt 0 8) (h_x11 : zBd x11.toInt 0 5) (h_x12 : zBd x12.toInt 0 6) (h_x13 : zBd x13.toInt 0 6) (h_x14 : zBd x14.toInt 0 16) (h_x16 : zBd x16.toInt 0 60) (h_x17 : zBd x17.toInt 0 1600) (h_x18 : zBd x18.toInt 0 1700) (h_x20 : zBd x20.toInt 0 1700) (h_x21 : zBd x21.toInt 0 1700) (h_x22 : zBd x22.toInt 0 200) (h_x23 : zBd x23.toInt 0 40) (h_x24 : zBd x24.toInt 0 40) (h_x25 : zBd x25.toInt 0 1) (h_x26 : zBd x26.toInt 0 14) (h_x27 : zBd x27.toInt 0 200) (h_x28 : zBd x28.toInt 0 40) (h_x29 : zBd x29.toInt 0 40) (hr_a0_0 : (x23.toInt ≤ x22.toInt)) (hr_a0_1 : (x22.toInt + x24.toInt ≤ 200)) (hr_a0_2 : (x11.toInt = 0 ∨ 2 ≤ x10.toInt)) (hf_f0 : (∀ j, (-9999) ≤ (f0 j).toInt ∧ (f0 j).toInt ≤ 9999)) : Met l yX12_clashOf (.code yX12_clashOf cX12_clashOf 10 (some .int) :: lw_gd) ({ frames := 1, cells := 0, slots := 0, locals := 25 }) (gPre D [(cB, .byte), (cC, .char), (cI, .int), (cJ, .long)] [.ref a0, .int x0, .int x1, .ref a1] (zS_30 cB cC cI cJ a0 a2 x2 x3 x4 x5 x6 x7 x8 x9 a3 a4 a5 a6 a7 a8 a9 a10 a11 a12 a13 a14 a15 a16 a17 x10 x11 x12 x13 x14 x15 a18 a19 a20 x16 a21 x17 a22 x18 x19 a23 a24 a25 a26 x20 a27 x21 a28 a29 a30 y0 a31 a32 a33 a34 a35 a36 a37 a38 a39 x22 x23 x24 y1 a40 x25 a41 a42 a43 a44 x26 x27 x28 x29 a1 f0) sz) (va_Qi (fun r u => (r = clF (prn f0 x0.toInt x1.toInt (x12.toInt).toNat) (prn f0 x0.toInt x0.toInt (x12.toInt).toNat) (prn f0 x1.toInt x1.toInt (x12.toInt).toNat))) (gB D (va_A (zS_30 cB cC cI cJ a0 a2 x2 x3 x4 x5 x6 x7 x8 x9 a3 a4 a5 a6 a7 a8 a9 a10 a11 a12 a13 a14 a15 a16 a17 x10 x11 x12 x13 x14 x15 a18 a19 a20 x16 a21 x17 a22 x18 x19 a23 a24 a25 a26 x20 a27 x21 a28 a29 a30 y0 a31 a32 a33 a34 a35 a36 a37 a38 a39 x22 x23 x24 y1 a40 x25 a41 a42 a43 a44 x26 x27 x28 x29 a1 f0) sz) (fun u : gEx => (zS_30 cB cC cI cJ a0 a2 x2 x3 x4 x5 x6 x7 x8 x9 a3 a4 a5 a6 a7 a8 a9 a10 a11 a12 a13 a14 a15 a16 a17 x10 x11 x12 x13 x14 x15 a18 a19 a20 x16 a21 x17 a22 x18 x19 a23 a24 a25 a26 x20 a27 x21 a28 a29 a30 y0 a31 a32 a33 a34 a35 a36 a37 a38 a39 x22 x23 x24 y1 a40 x25 a41 a42 a43 a44 x26 x27 x28 x29 a1 f0))) (va_A (zS_30 cB cC cI cJ a0 a2 x2 x3 x4 x5 x6 x7 x8 x9 a3 a4 a5 a6 a7 a8 a9 a10 a11 a12 a13 a14 a15 a16 a17 x10 x11 x12 x13 x14 x15 a18 a19 a20 x16 a21 x17 a22 x18 x19 a23 a24 a25 a26 x20 a27 x21 a28 a29 a30 y0 a31 a32 a33 a34 a35 a36 a37 a38 a39 x22 x23 x24 y1 a40 x25 a41 a42 a43 a44 x26 x27 x28 x29 a1 f0) sz)) 0 0 (va_A (zS_30 cB cC cI cJ a0 a2 x2 x3 x4 x5 x6 x7 x8 x9 a3 a4 a5 a6 a7 a8 a9 a10 a11 a12 a13 a14 a15 a16 a17 x10 x11 x12 x13 x14 x15 a18 a19 a20 x16 a21 x17 a22 x18 x19 a23 a24 a25 a26 x20 a27 x21 a28 a29 a30 y0 a31 a32 a33 a34 a35 a36 a37 a38 a39 x22 x23 x24 y1 a40 x25 a41 a42 a43 a44 x26 x27 x28 x29 a1 f0) sz) := by
  refine gOf_i (by decide +kernel) (Nat.le_of_ble_eq_true rfl) ?_
  intro p e s m args below meth c ls A Q hx hb hts hown hml hN hK hP hD hA hl hret
  replace hown : s.vm.findClass RX12 = some m.cls := hown
  have hS : va_S A s.heap s.heap [] := va_S.rf
  replace hP : va_P D gcl (zS_30 cB cC cI cJ a0 a2 x2 x3 x4 x5 x6 x7 x8 x9 a3 a4 a5 a6 a7 a8 a9 a10 a11 a12 a13 a14 a15 a16 a17 x10 x11 x12 x13 x14 x15 a18 a19 a20 x16 a21 x17 a22 x18 x19 a23 a24 a25 a26 x20 a27 x21 a28 a29 a30 y0 a31 a32 a33 a34 a35 a36 a37 a38 a39 x22 x23 x24 y1 a40 x25 a41 a42 a43 a44 x26 x27 x28 x29 a1 f0) s.heap := hP
  replace hl : lv_has ls 10 [(0, .ref a0), (1, .int x0), (2, .int x1), (3, .ref a1)] := hl
  have rx8 : zBd x8.toInt (-2147483648) 2147483647 := n_rng x8
  have rx9 : zBd x9.toInt (-2147483648) 2147483647 := n_rng x9
  have rx15 : zBd x15.toInt (-2147483648) 2147483647 := n_rng x15
  have rx19 : zBd x19.toInt (-2147483648) 2147483647 := n_rng x19
  have ry0 := n_rngL y0
  have ry1 := n_rngL y1
  refine lv_aload_n (pc := 0) hx hb dX12_clashOf_0 rfl (lv_at hl 0 rfl) ?_
  refine lv_iload_n (pc := 1) hx hb dX12_clashOf_1 rfl (lv_at hl 1 rfl) ?_
  refine lv_iload_n (pc := 2) hx hb dX12_clashOf_2 rfl (lv_at hl 1 rfl) ?_
  refine lv_aload_n (pc := 3) hx hb dX12_clashOf_3 rfl (lv_at hl 3 rfl) ?_
  refine gd_i (pc := 4) (wc := (zS_30 cB cC cI cJ a0 a2 x2 x3 x4 x5 x6 x7 x8 x9 a3 a4 a5 a6 a7 a8 a9 a10 a11 a12 a13 a14 a15 a16 a17 x10 x11 x12 x13 x14 x15 a18 a19 a20 x16 a21 x17 a22 x18 x19 a23 a24 a25 a26 x20 a27 x21 a28 a29 a30 y0 a31 a32 a33 a34 a35 a36 a37 a38 a39 x22 x23 x24 y1 a40 x25 a41 a42 a43 a44 x26 x27 x28 x29 a1 f0)) hP hD hS hA [0, 1] rfl (by decide +kernel) (fun _ => by rfl) (fun hPc hDc => va_runV (As := [.int x0, .int x0, .ref a1]) (rest := []) ⟨hx, hb, hml, hown, hts⟩ (k_X12_productOf_60rm9999_9999_x l D cB cC cI cJ _ a0 a1 a2 a3 a4 a5 a6 a7 a8 a9 a10 a11 a12 a13 a14 a15 a16 a17 a18 a19 a20 a21 a22 a23 a24 a25 a26 a27 a28 a29 a30 a31 a32 a33 a34 a35 a36 a37 a38 a39 a40 a41 a42 a43 a44 x0 x0 x2 x3 x4 x5 x6 x7 x8 x9 x10 x11 x12 x13 x14 x15 x16 x17 x18 x19 x20 x21 x22 x23 x24 x25 x26 x27 x28 x29 y0 y1 f0 hp1 hp1 h_x2 h_x3 h_x4 h_x5 h_x6 h_x7 h_x10 h_x11 h_x12 h_x13 h_x14 h_x16 h_x17 h_x18 h_x20 h_x21 h_x22 h_x23 h_x24 h_x25 h_x26 h_x27 h_x28 h_x29 hr_a0_0 hr_a0_1 hr_a0_2 hf_f0) ⟨gcwB hts tw_1791 tw_14 tw_1788 hd_yX12_productOf ⟨Nat.le_of_ble_eq_true rfl, Nat.le_of_ble_eq_true rfl⟩, hts _ tw_1790, hts _ tp_91⟩ ⟨gblind, va_recv hK hPc (ci := 12) (q0 := 0) rfl rfl, (gpreS hPc hK hDc hN).2⟩ rfl rfl hl.1 rfl (lv_room (Nat.le_of_ble_eq_true rfl)) dX12_clashOf_4 ⟨Nat.le_of_ble_eq_true rfl, Nat.le_of_ble_eq_true rfl⟩) (fun r_2 u_1 H locs hw_3 hP hD hS => ?_)
  replace hP : va_P D gcl (zS_30 cB cC cI cJ a0 a2 x2 x3 x4 x5 x6 x7 x8 x9 a3 a4 a5 a6 a7 a8 a9 a10 a11 a12 a13 a14 a15 a16 a17 x10 x11 x12 x13 x14 x15 a18 a19 a20 x16 a21 x17 a22 x18 x19 a23 a24 a25 a26 x20 a27 x21 a28 a29 a30 y0 a31 a32 a33 a34 a35 a36 a37 a38 a39 x22 x23 x24 y1 a40 x25 a41 a42 a43 a44 x26 x27 x28 x29 a1 f0) H := hP
  replace hD : va_D A (zS_30 cB cC cI cJ a0 a2 x2 x3 x4 x5 x6 x7 x8 x9 a3 a4 a5 a6 a7 a8 a9 a10 a11 a12 a13 a14 a15 a16 a17 x10 x11 x12 x13 x14 x15 a18 a19 a20 x16 a21 x17 a22 x18 x19 a23 a24 a25 a26 x20 a27 x21 a28 a29 a30 y0 a31 a32 a33 a34 a35 a36 a37 a38 a39 x22 x23 x24 y1 a40 x25 a41 a42 a43 a44 x26 x27 x28 x29 a1 f0) := hD
  have hw_4 : (r_2 = prn f0 x0.toInt x0.toInt (x12.toInt).toNat) := hw_3
  have rr_2 : zBd r_2.toInt (-2147483648) 2147483647 := n_rng r_2
  refine b_i2l (pc := 7) hx hb rfl dX12_clashOf_7 (fun y_5 ey_5 => ?_)
  have ry_5 : zBd r_2.toInt (-2147483648) 2147483647 := n_rng r_2
  refine lv_lstore (pc := 8) (lv' := [(4, .long y_5), (0, .ref a0), (1, .int x0), (2, .int x1), (3, .ref a1)]) hx hb dX12_clashOf_8 hl (by decide) rfl (fun ls hl => ?_)
  refine lv_aload_n (pc := 10) hx hb dX12_clashOf_10 rfl (lv_at hl 1 rfl) ?_
  refine lv_iload_n (pc := 11) hx hb dX12_clashOf_11 rfl (lv_at hl 3 rfl) ?_
  as_aux_lemma =>
    refine lv_iload_n (pc := 12) hx hb dX12_clashOf_12 rfl (lv_at hl 3 rfl) ?_
    refine lv_aload_n (pc := 13) hx hb dX12_clashOf_13 rfl (lv_at hl 4 rfl) ?_
    refine gd_i (pc := 14) (wc := (zS_30 cB cC cI cJ a0 a2 x2 x3 x4 x5 x6 x7 x8 x9 a3 a4 a5 a6 a7 a8 a9 a10 a11 a12 a13 a14 a15 a16 a17 x10 x11 x12 x13 x14 x15 a18 a19 a20 x16 a21 x17 a22 x18 x19 a23 a24 a25 a26 x20 a27 x21 a28 a29 a30 y0 a31 a32 a33 a34 a35 a36 a37 a38 a39 x22 x23 x24 y1 a40 x25 a41 a42 a43 a44 x26 x27 x28 x29 a1 f0)) hP hD hS hA [0, 1] rfl (by decide +kernel) (fun _ => by rfl) (fun hPc hDc => va_runV (As := [.int x1, .int x1, .ref a1]) (rest := []) ⟨hx, hb, hml, hown, hts⟩ (k_X12_productOf_60rm9999_9999_x l D cB cC cI cJ _ a0 a1 a2 a3 a4 a5 a6 a7 a8 a9 a10 a11 a12 a13 a14 a15 a16 a17 a18 a19 a20 a21 a22 a23 a24 a25 a26 a27 a28 a29 a30 a31 a32 a33 a34 a35 a36 a37 a38 a39 a40 a41 a42 a43 a44 x1 x1 x2 x3 x4 x5 x6 x7 x8 x9 x10 x11 x12 x13 x14 x15 x16 x17 x18 x19 x20 x21 x22 x23 x24 x25 x26 x27 x28 x29 y0 y1 f0 hp2 hp2 h_x2 h_x3 h_x4 h_x5 h_x6 h_x7 h_x10 h_x11 h_x12 h_x13 h_x14 h_x16 h_x17 h_x18 h_x20 h_x21 h_x22 h_x23 h_x24 h_x25 h_x26 h_x27 h_x28 h_x29 hr_a0_0 hr_a0_1 hr_a0_2 hf_f0) ⟨gcwB hts tw_1791 tw_14 tw_1788 hd_yX12_productOf ⟨Nat.le_of_ble_eq_true rfl, Nat.le_of_ble_eq_true rfl⟩, hts _ tw_1790, hts _ tp_91⟩ ⟨gblind, va_recv hK hPc (ci := 12) (q0 := 0) rfl rfl, (gpreS hPc hK hDc hN).2⟩ rfl rfl hl.1 rfl (lv_room (Nat.le_of_ble_eq_true rfl)) dX12_clashOf_14 ⟨Nat.le_of_ble_eq_true rfl, Nat.le_of_ble_eq_true rfl⟩) (fun r_7 u_6 H locs hw_8 hP hD hS => ?_)
    replace hP : va_P D gcl (zS_30 cB cC cI cJ a0 a2 x2 x3 x4 x5 x6 x7 x8 x9 a3 a4 a5 a6 a7 a8 a9 a10 a11 a12 a13 a14 a15 a16 a17 x10 x11 x12 x13 x14 x15 a18 a19 a20 x16 a21 x17 a22 x18 x19 a23 a24 a25 a26 x20 a27 x21 a28 a29 a30 y0 a31 a32 a33 a34 a35 a36 a37 a38 a39 x22 x23 x24 y1 a40 x25 a41 a42 a43 a44 x26 x27 x28 x29 a1 f0) H := hP
    replace hD : va_D A (zS_30 cB cC cI cJ a0 a2 x2 x3 x4 x5 x6 x7 x8 x9 a3 a4 a5 a6 a7 a8 a9 a10 a11 a12 a13 a14 a15 a16 a17 x10 x11 x12 x13 x14 x15 a18 a19 a20 x16 a21 x17 a22 x18 x19 a23 a24 a25 a26 x20 a27 x21 a28 a29 a30 y0 a31 a32 a33 a34 a35 a36 a37 a38 a39 x22 x23 x24 y1 a40 x25 a41 a42 a43 a44 x26 x27 x28 x29 a1 f0) := hD
    have hw_9 : (r_7 = prn f0 x1.toInt x1.toInt (x12.toInt).toNat) := hw_8
    have rr_7 : zBd r_7.toInt (-2147483648) 2147483647 := n_rng r_7
    refine b_i2l (pc := 17) hx hb rfl dX12_clashOf_17 (fun y_10 ey_10 => ?_)
    have ry_10 : zBd r_7.toInt (-2147483648) 2147483647 := n_rng r_7
    refine lv_lstore (pc := 18) (lv' := [(6, .long y_10), (4, .long y_5), (0, .ref a0), (1, .int x0), (2, .int x1), (3, .ref a1)]) hx hb dX12_clashOf_18 hl (by decide) rfl (fun ls hl => ?_)
    refine lv_aload_n (pc := 20) hx hb dX12_clashOf_20 rfl (lv_at hl 2 rfl) ?_
    refine lv_iload_n (pc := 21) hx hb dX12_clashOf_21 rfl (lv_at hl 3 rfl) ?_
    refine lv_iload_n (pc := 22) hx hb dX12_clashOf_22 rfl (lv_at hl 4 rfl) ?_
    refine lv_aload_n (pc := 23) hx hb dX12_clashOf_23 rfl (lv_at hl 5 rfl) ?_
    refine gd_i (pc := 24) (wc := (zS_30 cB cC cI cJ a0 a2 x2 x3 x4 x5 x6 x7 x8 x9 a3 a4 a5 a6 a7 a8 a9 a10 a11 a12 a13 a14 a15 a16 a17 x10 x11 x12 x13 x14 x15 a18 a19 a20 x16 a21 x17 a22 x18 x19 a23 a24 a25 a26 x20 a27 x21 a28 a29 a30 y0 a31 a32 a33 a34 a35 a36 a37 a38 a39 x22 x23 x24 y1 a40 x25 a41 a42 a43 a44 x26 x27 x28 x29 a1 f0)) hP hD hS hA [0, 1] rfl (by decide +kernel) (fun _ => by rfl) (fun hPc hDc => va_runV (As := [.int x0, .int x1, .ref a1]) (rest := []) ⟨hx, hb, hml, hown, hts⟩ (k_X12_productOf_60rm9999_9999_x l D cB cC cI cJ _ a0 a1 a2 a3 a4 a5 a6 a7 a8 a9 a10 a11 a12 a13 a14 a15 a16 a17 a18 a19 a20 a21 a22 a23 a24 a25 a26 a27 a28 a29 a30 a31 a32 a33 a34 a35 a36 a37 a38 a39 a40 a41 a42 a43 a44 x0 x1 x2 x3 x4 x5 x6 x7 x8 x9 x10 x11 x12 x13 x14 x15 x16 x17 x18 x19 x20 x21 x22 x23 x24 x25 x26 x27 x28 x29 y0 y1 f0 hp1 hp2 h_x2 h_x3 h_x4 h_x5 h_x6 h_x7 h_x10 h_x11 h_x12 h_x13 h_x14 h_x16 h_x17 h_x18 h_x20 h_x21 h_x22 h_x23 h_x24 h_x25 h_x26 h_x27 h_x28 h_x29 hr_a0_0 hr_a0_1 hr_a0_2 hf_f0) ⟨gcwB hts tw_1791 tw_14 tw_1788 hd_yX12_productOf ⟨Nat.le_of_ble_eq_true rfl, Nat.le_of_ble_eq_true rfl⟩, hts _ tw_1790, hts _ tp_91⟩ ⟨gblind, va_recv hK hPc (ci := 12) (q0 := 0) rfl rfl, (gpreS hPc hK hDc hN).2⟩ rfl rfl hl.1 rfl (lv_room (Nat.le_of_ble_eq_true rfl)) dX12_clashOf_24 ⟨Nat.le_of_ble_eq_true rfl, Nat.le_of_ble_eq_true rfl⟩) (fun r_12 u_11 H locs hw_13 hP hD hS => ?_)
    replace hP : va_P D gcl (zS_30 cB cC cI cJ a0 a2 x2 x3 x4 x5 x6 x7 x8 x9 a3 a4 a5 a6 a7 a8 a9 a10 a11 a12 a13 a14 a15 a16 a17 x10 x11 x12 x13 x14 x15 a18 a19 a20 x16 a21 x17 a22 x18 x19 a23 a24 a25 a26 x20 a27 x21 a28 a29 a30 y0 a31 a32 a33 a34 a35 a36 a37 a38 a39 x22 x23 x24 y1 a40 x25 a41 a42 a43 a44 x26 x27 x28 x29 a1 f0) H := hP
    replace hD : va_D A (zS_30 cB cC cI cJ a0 a2 x2 x3 x4 x5 x6 x7 x8 x9 a3 a4 a5 a6 a7 a8 a9 a10 a11 a12 a13 a14 a15 a16 a17 x10 x11 x12 x13 x14 x15 a18 a19 a20 x16 a21 x17 a22 x18 x19 a23 a24 a25 a26 x20 a27 x21 a28 a29 a30 y0 a31 a32 a33 a34 a35 a36 a37 a38 a39 x22 x23 x24 y1 a40 x25 a41 a42 a43 a44 x26 x27 x28 x29 a1 f0) := hD
    have hw_14 : (r_12 = prn f0 x0.toInt x1.toInt (x12.toInt).toNat) := hw_13
    have rr_12 : zBd r_12.toInt (-2147483648) 2147483647 := n_rng r_12
    as_aux_lemma =>
      refine b_i2l (pc := 27) hx hb rfl dX12_clashOf_27 (fun y_15 ey_15 => ?_)
      have ry_15 : zBd r_12.toInt (-2147483648) 2147483647 := n_rng r_12
      refine lv_lstore (pc := 28) (lv' := [(8, .long y_15), (6, .long y_10), (4, .long y_5), (0, .ref a0), (1, .int x0), (2, .int x1), (3, .ref a1)]) hx hb dX12_clashOf_28 hl (by decide) rfl (fun ls hl => ?_)
      refine lv_lload (pc := 30) hx hb dX12_clashOf_30 (lv_at hl 2 rfl) ?_
      refine lv_lconst (pc := 32) (v := 0) hx hb dX12_clashOf_32 (by decide) ?_
      refine b_lcmp_eq (pc := 33) (tgt := 44) hx hb rfl tL_0 dX12_clashOf_33 dX12_clashOf_34 (by decide) (fun c_16 => ?_) (fun c_16 => ?_)
      ·
        as_aux_lemma =>
          refine lv_iconst (pc := 44) (v := 0) hx hb dX12_clashOf_44 (by decide) ?_
          refine lv_goto (pc := 45) (tgt := 64) hx hb dX12_clashOf_45 (by decide) ?_
          have hP9 : va_P D gcl (zS_30 cB cC cI cJ a0 a2 x2 x3 x4 x5 x6 x7 x8 x9 a3 a4 a5 a6 a7 a8 a9 a10 a11 a12 a13 a14 a15 a16 a17 x10 x11 x12 x13 x14 x15 a18 a19 a20 x16 a21 x17 a22 x18 x19 a23 a24 a25 a26 x20 a27 x21 a28 a29 a30 y0 a31 a32 a33 a34 a35 a36 a37 a38 a39 x22 x23 x24 y1 a40 x25 a41 a42 a43 a44 x26 x27 x28 x29 a1 f0) H := g_psub hP [0, 1] rfl
          have hD9 : va_D A (zS_30 cB cC cI cJ a0 a2 x2 x3 x4 x5 x6 x7 x8 x9 a3 a4 a5 a6 a7 a8 a9 a10 a11 a12 a13 a14 a15 a16 a17 x10 x11 x12 x13 x14 x15 a18 a19 a20 x16 a21 x17 a22 x18 x19 a23 a24 a25 a26 x20 a27 x21 a28 a29 a30 y0 a31 a32 a33 a34 a35 a36 a37 a38 a39 x22 x23 x24 y1 a40 x25 a41 a42 a43 a44 x26 x27 x28 x29 a1 f0) := hD.sub [0, 1] (by decide) rfl
          have k9 := tI_0
          exact hret 0 ((fun _ => 0), (fun _ => (fun _ => 0)), (fun _ => (fun _ => 0)), (fun _ => 0), (fun _ => 0)) dX12_clashOf_64 (show 0 = clF (prn f0 x0.toInt x1.toInt (x12.toInt).toNat) (prn f0 x0.toInt x0.toInt (x12.toInt).toNat) (prn f0 x1.toInt x1.toInt (x12.toInt).toNat) from cl_noM (by rw [← hw_4]; exact ey_5) (by rw [← hw_9]; exact ey_10) (by (first | omega | (unfold zBd at *; omega))) rfl) hP9 hD9 hS
      ·
        as_aux_lemma =>
          refine lv_lload (pc := 37) hx hb dX12_clashOf_37 (lv_at hl 1 rfl) ?_
          refine lv_lconst (pc := 39) (v := 0) hx hb dX12_clashOf_39 (by decide) ?_
          refine b_lcmp_ne (pc := 40) (tgt := 48) hx hb rfl tL_0 dX12_clashOf_40 dX12_clashOf_41 (by decide) (fun c_17 => ?_) (fun c_17 => ?_)
          ·
            as_aux_lemma =>
              refine lv_ldc2 (pc := 48) hx hb hown (hts _ tw_1800) dX12_clashOf_48 ?_
              refine lv_lload (pc := 51) hx hb dX12_clashOf_51 (lv_at hl 0 rfl) ?_
              refine b_lmul (pc := 53) hx hb tL_1000 rfl (by first | exact (om_1021 ey_15 ry_15.1) | ((first | omega | (unfold zBd at *; omega)))) (by first | exact (om_1022 ey_15 ry_15.2) | ((first | omega | (unfold zBd at *; omega)))) dX12_clashOf_53 (fun y_18 ey_18 => ?_)
              refine lv_lload (pc := 54) hx hb dX12_clashOf_54 (lv_at hl 0 rfl) ?_
              refine lv_lmul (pc := 56) hx hb dX12_clashOf_56 ?_
              refine lv_topl (fun y_19 ey_19 => ?_)
              have ry_19 := n_rngL y_19
              refine lv_lload (pc := 57) hx hb dX12_clashOf_57 (lv_at hl 2 rfl) ?_
              refine lv_lload (pc := 59) hx hb dX12_clashOf_59 (lv_at hl 1 rfl) ?_
              refine lv_lmul (pc := 61) hx hb dX12_clashOf_61 ?_
              refine lv_topl (fun y_20 ey_20 => ?_)
              have ry_20 := n_rngL y_20
              have ny_20 : ¬ y_20.toInt = 0 := (by rw [ey_20]; exact n_mulnz (by first | exact (om_34 c_16) | ((first | omega | (unfold zBd at *; omega)))) (by first | exact (om_34 c_17) | ((first | omega | (unfold zBd at *; omega)))) (by first | exact (om_1535 ey_5 ry_5.1 ry_5.2) | ((first | omega | (unfold zBd at *; omega)))) (by first | exact (om_1535 ey_10 ry_10.1 ry_10.2) | ((first | omega | (unfold zBd at *; omega)))))
              as_aux_lemma =>
                refine lv_ldiv (pc := 62) hx hb dX12_clashOf_62 (fun h => by have q := congrArg Int64.toInt h; have k := tL_0; (first | omega | (unfold zBd at *; omega))) ?_
                refine lv_topl (fun y_21 ey_21 => ?_)
                have ry_21 := n_rngL y_21
                refine lv_l2i (pc := 63) hx hb dX12_clashOf_63 rfl ?_
                refine lv_topi (fun x_22 ex_22 => ?_)
                have rx_22 : zBd x_22.toInt (-2147483648) 2147483647 := n_rng x_22
                have hP9 : va_P D gcl (zS_30 cB cC cI cJ a0 a2 x2 x3 x4 x5 x6 x7 x8 x9 a3 a4 a5 a6 a7 a8 a9 a10 a11 a12 a13 a14 a15 a16 a17 x10 x11 x12 x13 x14 x15 a18 a19 a20 x16 a21 x17 a22 x18 x19 a23 a24 a25 a26 x20 a27 x21 a28 a29 a30 y0 a31 a32 a33 a34 a35 a36 a37 a38 a39 x22 x23 x24 y1 a40 x25 a41 a42 a43 a44 x26 x27 x28 x29 a1 f0) H := g_psub hP [0, 1] rfl
                have hD9 : va_D A (zS_30 cB cC cI cJ a0 a2 x2 x3 x4 x5 x6 x7 x8 x9 a3 a4 a5 a6 a7 a8 a9 a10 a11 a12 a13 a14 a15 a16 a17 x10 x11 x12 x13 x14 x15 a18 a19 a20 x16 a21 x17 a22 x18 x19 a23 a24 a25 a26 x20 a27 x21 a28 a29 a30 y0 a31 a32 a33 a34 a35 a36 a37 a38 a39 x22 x23 x24 y1 a40 x25 a41 a42 a43 a44 x26 x27 x28 x29 a1 f0) := hD.sub [0, 1] (by decide) rfl
                exact hret x_22 ((fun _ => 0), (fun _ => (fun _ => 0)), (fun _ => (fun _ => 0)), (fun _ => 0), (fun _ => 0)) dX12_clashOf_64 (show x_22 = clF (prn f0 x0.toInt x1.toInt (x12.toInt).toNat) (prn f0 x0.toInt x0.toInt (x12.toInt).toNat) (prn f0 x1.toInt x1.toInt (x12.toInt).toNat) from cl_yes (by rw [← hw_14]; exact ey_15) (by rw [← hw_4]; exact ey_5) (by rw [← hw_9]; exact ey_10) ey_18 ey_19 ey_20 (by (first | omega | (unfold zBd at *; omega))) ey_21 ex_22) hP9 hD9 hS
          ·
            as_aux_lemma =>
              refine lv_iconst (pc := 44) (v := 0) hx hb dX12_clashOf_44 (by decide) ?_
              refine lv_goto (pc := 45) (tgt := 64) hx hb dX12_clashOf_45 (by decide) ?_
              have hP9 : va_P D gcl (zS_30 cB cC cI cJ a0 a2 x2 x3 x4 x5 x6 x7 x8 x9 a3 a4 a5 a6 a7 a8 a9 a10 a11 a12 a13 a14 a15 a16 a17 x10 x11 x12 x13 x14 x15 a18 a19 a20 x16 a21 x17 a22 x18 x19 a23 a24 a25 a26 x20 a27 x21 a28 a29 a30 y0 a31 a32 a33 a34 a35 a36 a37 a38 a39 x22 x23 x24 y1 a40 x25 a41 a42 a43 a44 x26 x27 x28 x29 a1 f0) H := g_psub hP [0, 1] rfl
              have hD9 : va_D A (zS_30 cB cC cI cJ a0 a2 x2 x3 x4 x5 x6 x7 x8 x9 a3 a4 a5 a6 a7 a8 a9 a10 a11 a12 a13 a14 a15 a16 a17 x10 x11 x12 x13 x14 x15 a18 a19 a20 x16 a21 x17 a22 x18 x19 a23 a24 a25 a26 x20 a27 x21 a28 a29 a30 y0 a31 a32 a33 a34 a35 a36 a37 a38 a39 x22 x23 x24 y1 a40 x25 a41 a42 a43 a44 x26 x27 x28 x29 a1 f0) := hD.sub [0, 1] (by decide) rfl
              have k9 := tI_0
              exact hret 0 ((fun _ => 0), (fun _ => (fun _ => 0)), (fun _ => (fun _ => 0)), (fun _ => 0), (fun _ => 0)) dX12_clashOf_64 (show 0 = clF (prn f0 x0.toInt x1.toInt (x12.toInt).toNat) (prn f0 x0.toInt x0.toInt (x12.toInt).toNat) (prn f0 x1.toInt x1.toInt (x12.toInt).toNat) from cl_noM (by rw [← hw_4]; exact ey_5) (by rw [← hw_9]; exact ey_10) (by (first | omega | (unfold zBd at *; omega))) rfl) hP9 hD9 hS
set_option maxHeartbeats 4000000 in
set_option maxRecDepth 100000 in
theorem k_X12_clashOf_30_E (l : Launch) (D : va_G) (cB cC cI cJ : ClassId) (sz : Nat) (a0 a1 a2 a3 a4 a5 a6 a7 a8 a9 a10 a11 a12 a13 a14 a15 a16 a17 a18 a19 a20 a21 a22 a23 a24 a25 a26 a27 a28 a29 a30 a31 a32 a33 a34 a35 a36 a37 a38 a39 a40 a41 a42 a43 a44 : Nat) (x0 x1 x2 x3 x4 x5 x6 x7 x8 x9 x10 x11 x12 x13 x14 x15 x16 x17 x18 x19 x20 x21 x22 x23 x24 x25 x26 x27 x28 x29 : Int32) (y0 y1 : Int64) (f0 : Nat → Int32) (hp1 : (0 ≤ x0.toInt ∧ x0.toInt ≤ 4)) (hp2 : (0 ≤ x1.toInt ∧ x1.toInt ≤ 4)) (h_x2 : zBd x2.toInt 0 1600) (h_x3 : zBd x3.toInt 0 1600) (h_x4 : zBd x4.toInt 0 1600) (h_x5 : zBd x5.toInt (-1) 1600) (h_x6 : zBd x6.toInt 0 4) (h_x7 : zBd x7.toInt (-1) 1600) (h_x10 : zBd x10.toInt 0 8) (h_x11 : zBd x11.toInt 0 5) (h_x12 : zBd x12.toInt 0 6) (h_x13 : zBd x13.toInt 0 6) (h_x14 : zBd x14.toInt 0 16) (h_x16 : zBd x16.toInt 0 60) (h_x17 : zBd x17.toInt 0 1600) (h_x18 : zBd x18.toInt 0 1700) (h_x20 : zBd x20.toInt 0 1700) (h_x21 : zBd x21.toInt 0 1700) (h_x22 : zBd x22.toInt 0 200) (h_x23 : zBd x23.toInt 0 40) (h_x24 : zBd x24.toInt 0 40) (h_x25 : zBd x25.toInt 0 1) (h_x26 : zBd x26.toInt 0 14) (h_x27 : zBd x27.toInt 0 200) (h_x28 : zBd x28.toInt 0 40) (h_x29 : zBd x29.toInt 0 40) (hr_a0_0 : (x23.toInt ≤ x22.toInt)) (hr_a0_1 : (x22.toInt + x24.toInt ≤ 200)) (hr_a0_2 : (x11.toInt = 0 ∨ 2 ≤ x10.toInt)) : Met l yX12_clashOf (.code yX12_clashOf cX12_clashOf 10 (some .int) :: lw_gd) ({ frames := 1, cells := 0, slots := 0, locals := 25 }) (gPre D [(cB, .byte), (cC, .char), (cI, .int), (cJ, .long)] [.ref a0, .int x0, .int x1, .ref a1] (zS_51 cB cC cI cJ a0 a2 x2 x3 x4 x5 x6 x7 x8 x9 a3 a4 a5 a6 a7 a8 a9 a10 a11 a12 a13 a14 a15 a16 a17 x10 x11 x12 x13 x14 x15 a18 a19 a20 x16 a21 x17 a22 x18 x19 a23 a24 a25 a26 x20 a27 x21 a28 a29 a30 y0 a31 a32 a33 a34 a35 a36 a37 a38 a39 x22 x23 x24 y1 a40 x25 a41 a42 a43 a44 x26 x27 x28 x29 a1 f0) sz) (va_Qi (fun r u => (r = clF (prn f0 x0.toInt x1.toInt (x12.toInt).toNat) (prn f0 x0.toInt x0.toInt (x12.toInt).toNat) (prn f0 x1.toInt x1.toInt (x12.toInt).toNat))) (gB D (va_A (zS_51 cB cC cI cJ a0 a2 x2 x3 x4 x5 x6 x7 x8 x9 a3 a4 a5 a6 a7 a8 a9 a10 a11 a12 a13 a14 a15 a16 a17 x10 x11 x12 x13 x14 x15 a18 a19 a20 x16 a21 x17 a22 x18 x19 a23 a24 a25 a26 x20 a27 x21 a28 a29 a30 y0 a31 a32 a33 a34 a35 a36 a37 a38 a39 x22 x23 x24 y1 a40 x25 a41 a42 a43 a44 x26 x27 x28 x29 a1 f0) sz) (fun u : gEx => (zS_51 cB cC cI cJ a0 a2 x2 x3 x4 x5 x6 x7 x8 x9 a3 a4 a5 a6 a7 a8 a9 a10 a11 a12 a13 a14 a15 a16 a17 x10 x11 x12 x13 x14 x15 a18 a19 a20 x16 a21 x17 a22 x18 x19 a23 a24 a25 a26 x20 a27 x21 a28 a29 a30 y0 a31 a32 a33 a34 a35 a36 a37 a38 a39 x22 x23 x24 y1 a40 x25 a41 a42 a43 a44 x26 x27 x28 x29 a1 f0))) (va_A (zS_51 cB cC cI cJ a0 a2 x2 x3 x4 x5 x6 x7 x8 x9 a3 a4 a5 a6 a7 a8 a9 a10 a11 a12 a13 a14 a15 a16 a17 x10 x11 x12 x13 x14 x15 a18 a19 a20 x16 a21 x17 a22 x18 x19 a23 a24 a25 a26 x20 a27 x21 a28 a29 a30 y0 a31 a32 a33 a34 a35 a36 a37 a38 a39 x22 x23 x24 y1 a40 x25 a41 a42 a43 a44 x26 x27 x28 x29 a1 f0) sz)) 0 0 (va_A (zS_51 cB cC cI cJ a0 a2 x2 x3 x4 x5 x6 x7 x8 x9 a3 a4 a5 a6 a7 a8 a9 a10 a11 a12 a13 a14 a15 a16 a17 x10 x11 x12 x13 x14 x15 a18 a19 a20 x16 a21 x17 a22 x18 x19 a23 a24 a25 a26 x20 a27 x21 a28 a29 a30 y0 a31 a32 a33 a34 a35 a36 a37 a38 a39 x22 x23 x24 y1 a40 x25 a41 a42 a43 a44 x26 x27 x28 x29 a1 f0) sz) := by
  refine gOf_i (by decide +kernel) (Nat.le_of_ble_eq_true rfl) ?_
  intro p e s m args below meth c ls A Q hx hb hts hown hml hN hK hP hD hA hl hret
  replace hown : s.vm.findClass RX12 = some m.cls := hown
  have hS : va_S A s.heap s.heap [] := va_S.rf
  replace hP : va_P D gcl (zS_51 cB cC cI cJ a0 a2 x2 x3 x4 x5 x6 x7 x8 x9 a3 a4 a5 a6 a7 a8 a9 a10 a11 a12 a13 a14 a15 a16 a17 x10 x11 x12 x13 x14 x15 a18 a19 a20 x16 a21 x17 a22 x18 x19 a23 a24 a25 a26 x20 a27 x21 a28 a29 a30 y0 a31 a32 a33 a34 a35 a36 a37 a38 a39 x22 x23 x24 y1 a40 x25 a41 a42 a43 a44 x26 x27 x28 x29 a1 f0) s.heap := hP
  replace hl : lv_has ls 10 [(0, .ref a0), (1, .int x0), (2, .int x1), (3, .ref a1)] := hl
  have rx8 : zBd x8.toInt (-2147483648) 2147483647 := n_rng x8
  have rx9 : zBd x9.toInt (-2147483648) 2147483647 := n_rng x9
  have rx15 : zBd x15.toInt (-2147483648) 2147483647 := n_rng x15
  have rx19 : zBd x19.toInt (-2147483648) 2147483647 := n_rng x19
  have ry0 := n_rngL y0
  have ry1 := n_rngL y1
  refine lv_aload_n (pc := 0) hx hb dX12_clashOf_0 rfl (lv_at hl 0 rfl) ?_
  refine lv_iload_n (pc := 1) hx hb dX12_clashOf_1 rfl (lv_at hl 1 rfl) ?_
  refine lv_iload_n (pc := 2) hx hb dX12_clashOf_2 rfl (lv_at hl 1 rfl) ?_
  refine lv_aload_n (pc := 3) hx hb dX12_clashOf_3 rfl (lv_at hl 3 rfl) ?_
  refine gd_i (pc := 4) (wc := (zS_51 cB cC cI cJ a0 a2 x2 x3 x4 x5 x6 x7 x8 x9 a3 a4 a5 a6 a7 a8 a9 a10 a11 a12 a13 a14 a15 a16 a17 x10 x11 x12 x13 x14 x15 a18 a19 a20 x16 a21 x17 a22 x18 x19 a23 a24 a25 a26 x20 a27 x21 a28 a29 a30 y0 a31 a32 a33 a34 a35 a36 a37 a38 a39 x22 x23 x24 y1 a40 x25 a41 a42 a43 a44 x26 x27 x28 x29 a1 f0)) hP hD hS hA [0, 1] rfl (by decide +kernel) (fun _ => by rfl) (fun hPc hDc => va_runV (As := [.int x0, .int x0, .ref a1]) (rest := []) ⟨hx, hb, hml, hown, hts⟩ (k_X12_productOf_30_x l D cB cC cI cJ _ a0 a1 a2 a3 a4 a5 a6 a7 a8 a9 a10 a11 a12 a13 a14 a15 a16 a17 a18 a19 a20 a21 a22 a23 a24 a25 a26 a27 a28 a29 a30 a31 a32 a33 a34 a35 a36 a37 a38 a39 a40 a41 a42 a43 a44 x0 x0 x2 x3 x4 x5 x6 x7 x8 x9 x10 x11 x12 x13 x14 x15 x16 x17 x18 x19 x20 x21 x22 x23 x24 x25 x26 x27 x28 x29 y0 y1 f0 hp1 hp1 h_x2 h_x3 h_x4 h_x5 h_x6 h_x7 h_x10 h_x11 h_x12 h_x13 h_x14 h_x16 h_x17 h_x18 h_x20 h_x21 h_x22 h_x23 h_x24 h_x25 h_x26 h_x27 h_x28 h_x29 hr_a0_0 hr_a0_1 hr_a0_2) ⟨gcwB hts tw_1791 tw_14 tw_1788 hd_yX12_productOf ⟨Nat.le_of_ble_eq_true rfl, Nat.le_of_ble_eq_true rfl⟩, hts _ tw_1790, hts _ tp_91⟩ ⟨gblind, va_recv hK hPc (ci := 12) (q0 := 0) rfl rfl, (gpreS hPc hK hDc hN).2⟩ rfl rfl hl.1 rfl (lv_room (Nat.le_of_ble_eq_true rfl)) dX12_clashOf_4 ⟨Nat.le_of_ble_eq_true rfl, Nat.le_of_ble_eq_true rfl⟩) (fun r_2 u_1 H locs hw_3 hP hD hS => ?_)
  replace hP : va_P D gcl (zS_51 cB cC cI cJ a0 a2 x2 x3 x4 x5 x6 x7 x8 x9 a3 a4 a5 a6 a7 a8 a9 a10 a11 a12 a13 a14 a15 a16 a17 x10 x11 x12 x13 x14 x15 a18 a19 a20 x16 a21 x17 a22 x18 x19 a23 a24 a25 a26 x20 a27 x21 a28 a29 a30 y0 a31 a32 a33 a34 a35 a36 a37 a38 a39 x22 x23 x24 y1 a40 x25 a41 a42 a43 a44 x26 x27 x28 x29 a1 f0) H := hP
  replace hD : va_D A (zS_51 cB cC cI cJ a0 a2 x2 x3 x4 x5 x6 x7 x8 x9 a3 a4 a5 a6 a7 a8 a9 a10 a11 a12 a13 a14 a15 a16 a17 x10 x11 x12 x13 x14 x15 a18 a19 a20 x16 a21 x17 a22 x18 x19 a23 a24 a25 a26 x20 a27 x21 a28 a29 a30 y0 a31 a32 a33 a34 a35 a36 a37 a38 a39 x22 x23 x24 y1 a40 x25 a41 a42 a43 a44 x26 x27 x28 x29 a1 f0) := hD
  have hw_4 : (r_2 = prn f0 x0.toInt x0.toInt (x12.toInt).toNat) := hw_3
  have rr_2 : zBd r_2.toInt (-2147483648) 2147483647 := n_rng r_2
  refine b_i2l (pc := 7) hx hb rfl dX12_clashOf_7 (fun y_5 ey_5 => ?_)
  have ry_5 : zBd r_2.toInt (-2147483648) 2147483647 := n_rng r_2
  refine lv_lstore (pc := 8) (lv' := [(4, .long y_5), (0, .ref a0), (1, .int x0), (2, .int x1), (3, .ref a1)]) hx hb dX12_clashOf_8 hl (by decide) rfl (fun ls hl => ?_)
  refine lv_aload_n (pc := 10) hx hb dX12_clashOf_10 rfl (lv_at hl 1 rfl) ?_
  refine lv_iload_n (pc := 11) hx hb dX12_clashOf_11 rfl (lv_at hl 3 rfl) ?_
  as_aux_lemma =>
    refine lv_iload_n (pc := 12) hx hb dX12_clashOf_12 rfl (lv_at hl 3 rfl) ?_
    refine lv_aload_n (pc := 13) hx hb dX12_clashOf_13 rfl (lv_at hl 4 rfl) ?_
    refine gd_i (pc := 14) (wc := (zS_51 cB cC cI cJ a0 a2 x2 x3 x4 x5 x6 x7 x8 x9 a3 a4 a5 a6 a7 a8 a9 a10 a11 a12 a13 a14 a15 a16 a17 x10 x11 x12 x13 x14 x15 a18 a19 a20 x16 a21 x17 a22 x18 x19 a23 a24 a25 a26 x20 a27 x21 a28 a29 a30 y0 a31 a32 a33 a34 a35 a36 a37 a38 a39 x22 x23 x24 y1 a40 x25 a41 a42 a43 a44 x26 x27 x28 x29 a1 f0)) hP hD hS hA [0, 1] rfl (by decide +kernel) (fun _ => by rfl) (fun hPc hDc => va_runV (As := [.int x1, .int x1, .ref a1]) (rest := []) ⟨hx, hb, hml, hown, hts⟩ (k_X12_productOf_30_x l D cB cC cI cJ _ a0 a1 a2 a3 a4 a5 a6 a7 a8 a9 a10 a11 a12 a13 a14 a15 a16 a17 a18 a19 a20 a21 a22 a23 a24 a25 a26 a27 a28 a29 a30 a31 a32 a33 a34 a35 a36 a37 a38 a39 a40 a41 a42 a43 a44 x1 x1 x2 x3 x4 x5 x6 x7 x8 x9 x10 x11 x12 x13 x14 x15 x16 x17 x18 x19 x20 x21 x22 x23 x24 x25 x26 x27 x28 x29 y0 y1 f0 hp2 hp2 h_x2 h_x3 h_x4 h_x5 h_x6 h_x7 h_x10 h_x11 h_x12 h_x13 h_x14 h_x16 h_x17 h_x18 h_x20 h_x21 h_x22 h_x23 h_x24 h_x25 h_x26 h_x27 h_x28 h_x29 hr_a0_0 hr_a0_1 hr_a0_2) ⟨gcwB hts tw_1791 tw_14 tw_1788 hd_yX12_productOf ⟨Nat.le_of_ble_eq_true rfl, Nat.le_of_ble_eq_true rfl⟩, hts _ tw_1790, hts _ tp_91⟩ ⟨gblind, va_recv hK hPc (ci := 12) (q0 := 0) rfl rfl, (gpreS hPc hK hDc hN).2⟩ rfl rfl hl.1 rfl (lv_room (Nat.le_of_ble_eq_true rfl)) dX12_clashOf_14 ⟨Nat.le_of_ble_eq_true rfl, Nat.le_of_ble_eq_true rfl⟩) (fun r_7 u_6 H locs hw_8 hP hD hS => ?_)
    replace hP : va_P D gcl (zS_51 cB cC cI cJ a0 a2 x2 x3 x4 x5 x6 x7 x8 x9 a3 a4 a5 a6 a7 a8 a9 a10 a11 a12 a13 a14 a15 a16 a17 x10 x11 x12 x13 x14 x15 a18 a19 a20 x16 a21 x17 a22 x18 x19 a23 a24 a25 a26 x20 a27 x21 a28 a29 a30 y0 a31 a32 a33 a34 a35 a36 a37 a38 a39 x22 x23 x24 y1 a40 x25 a41 a42 a43 a44 x26 x27 x28 x29 a1 f0) H := hP
    replace hD : va_D A (zS_51 cB cC cI cJ a0 a2 x2 x3 x4 x5 x6 x7 x8 x9 a3 a4 a5 a6 a7 a8 a9 a10 a11 a12 a13 a14 a15 a16 a17 x10 x11 x12 x13 x14 x15 a18 a19 a20 x16 a21 x17 a22 x18 x19 a23 a24 a25 a26 x20 a27 x21 a28 a29 a30 y0 a31 a32 a33 a34 a35 a36 a37 a38 a39 x22 x23 x24 y1 a40 x25 a41 a42 a43 a44 x26 x27 x28 x29 a1 f0) := hD
    have hw_9 : (r_7 = prn f0 x1.toInt x1.toInt (x12.toInt).toNat) := hw_8
    have rr_7 : zBd r_7.toInt (-2147483648) 2147483647 := n_rng r_7
    refine b_i2l (pc := 17) hx hb rfl dX12_clashOf_17 (fun y_10 ey_10 => ?_)
    have ry_10 : zBd r_7.toInt (-2147483648) 2147483647 := n_rng r_7
    refine lv_lstore (pc := 18) (lv' := [(6, .long y_10), (4, .long y_5), (0, .ref a0), (1, .int x0), (2, .int x1), (3, .ref a1)]) hx hb dX12_clashOf_18 hl (by decide) rfl (fun ls hl => ?_)
    refine lv_aload_n (pc := 20) hx hb dX12_clashOf_20 rfl (lv_at hl 2 rfl) ?_
    refine lv_iload_n (pc := 21) hx hb dX12_clashOf_21 rfl (lv_at hl 3 rfl) ?_
    refine lv_iload_n (pc := 22) hx hb dX12_clashOf_22 rfl (lv_at hl 4 rfl) ?_
    refine lv_aload_n (pc := 23) hx hb dX12_clashOf_23 rfl (lv_at hl 5 rfl) ?_
    refine gd_i (pc := 24) (wc := (zS_51 cB cC cI cJ a0 a2 x2 x3 x4 x5 x6 x7 x8 x9 a3 a4 a5 a6 a7 a8 a9 a10 a11 a12 a13 a14 a15 a16 a17 x10 x11 x12 x13 x14 x15 a18 a19 a20 x16 a21 x17 a22 x18 x19 a23 a24 a25 a26 x20 a27 x21 a28 a29 a30 y0 a31 a32 a33 a34 a35 a36 a37 a38 a39 x22 x23 x24 y1 a40 x25 a41 a42 a43 a44 x26 x27 x28 x29 a1 f0)) hP hD hS hA [0, 1] rfl (by decide +kernel) (fun _ => by rfl) (fun hPc hDc => va_runV (As := [.int x0, .int x1, .ref a1]) (rest := []) ⟨hx, hb, hml, hown, hts⟩ (k_X12_productOf_30_x l D cB cC cI cJ _ a0 a1 a2 a3 a4 a5 a6 a7 a8 a9 a10 a11 a12 a13 a14 a15 a16 a17 a18 a19 a20 a21 a22 a23 a24 a25 a26 a27 a28 a29 a30 a31 a32 a33 a34 a35 a36 a37 a38 a39 a40 a41 a42 a43 a44 x0 x1 x2 x3 x4 x5 x6 x7 x8 x9 x10 x11 x12 x13 x14 x15 x16 x17 x18 x19 x20 x21 x22 x23 x24 x25 x26 x27 x28 x29 y0 y1 f0 hp1 hp2 h_x2 h_x3 h_x4 h_x5 h_x6 h_x7 h_x10 h_x11 h_x12 h_x13 h_x14 h_x16 h_x17 h_x18 h_x20 h_x21 h_x22 h_x23 h_x24 h_x25 h_x26 h_x27 h_x28 h_x29 hr_a0_0 hr_a0_1 hr_a0_2) ⟨gcwB hts tw_1791 tw_14 tw_1788 hd_yX12_productOf ⟨Nat.le_of_ble_eq_true rfl, Nat.le_of_ble_eq_true rfl⟩, hts _ tw_1790, hts _ tp_91⟩ ⟨gblind, va_recv hK hPc (ci := 12) (q0 := 0) rfl rfl, (gpreS hPc hK hDc hN).2⟩ rfl rfl hl.1 rfl (lv_room (Nat.le_of_ble_eq_true rfl)) dX12_clashOf_24 ⟨Nat.le_of_ble_eq_true rfl, Nat.le_of_ble_eq_true rfl⟩) (fun r_12 u_11 H locs hw_13 hP hD hS => ?_)
    replace hP : va_P D gcl (zS_51 cB cC cI cJ a0 a2 x2 x3 x4 x5 x6 x7 x8 x9 a3 a4 a5 a6 a7 a8 a9 a10 a11 a12 a13 a14 a15 a16 a17 x10 x11 x12 x13 x14 x15 a18 a19 a20 x16 a21 x17 a22 x18 x19 a23 a24 a25 a26 x20 a27 x21 a28 a29 a30 y0 a31 a32 a33 a34 a35 a36 a37 a38 a39 x22 x23 x24 y1 a40 x25 a41 a42 a43 a44 x26 x27 x28 x29 a1 f0) H := hP
    replace hD : va_D A (zS_51 cB cC cI cJ a0 a2 x2 x3 x4 x5 x6 x7 x8 x9 a3 a4 a5 a6 a7 a8 a9 a10 a11 a12 a13 a14 a15 a16 a17 x10 x11 x12 x13 x14 x15 a18 a19 a20 x16 a21 x17 a22 x18 x19 a23 a24 a25 a26 x20 a27 x21 a28 a29 a30 y0 a31 a32 a33 a34 a35 a36 a37 a38 a39 x22 x23 x24 y1 a40 x25 a41 a42 a43 a44 x26 x27 x28 x29 a1 f0) := hD
    have hw_14 : (r_12 = prn f0 x0.toInt x1.toInt (x12.toInt).toNat) := hw_13
    have rr_12 : zBd r_12.toInt (-2147483648) 2147483647 := n_rng r_12
    as_aux_lemma =>
      refine b_i2l (pc := 27) hx hb rfl dX12_clashOf_27 (fun y_15 ey_15 => ?_)
      have ry_15 : zBd r_12.toInt (-2147483648) 2147483647 := n_rng r_12
      refine lv_lstore (pc := 28) (lv' := [(8, .long y_15), (6, .long y_10), (4, .long y_5), (0, .ref a0), (1, .int x0), (2, .int x1), (3, .ref a1)]) hx hb dX12_clashOf_28 hl (by decide) rfl (fun ls hl => ?_)
      refine lv_lload (pc := 30) hx hb dX12_clashOf_30 (lv_at hl 2 rfl) ?_
      refine lv_lconst (pc := 32) (v := 0) hx hb dX12_clashOf_32 (by decide) ?_
      refine b_lcmp_eq (pc := 33) (tgt := 44) hx hb rfl tL_0 dX12_clashOf_33 dX12_clashOf_34 (by decide) (fun c_16 => ?_) (fun c_16 => ?_)
      ·
        as_aux_lemma =>
          refine lv_iconst (pc := 44) (v := 0) hx hb dX12_clashOf_44 (by decide) ?_
          refine lv_goto (pc := 45) (tgt := 64) hx hb dX12_clashOf_45 (by decide) ?_
          have hP9 : va_P D gcl (zS_51 cB cC cI cJ a0 a2 x2 x3 x4 x5 x6 x7 x8 x9 a3 a4 a5 a6 a7 a8 a9 a10 a11 a12 a13 a14 a15 a16 a17 x10 x11 x12 x13 x14 x15 a18 a19 a20 x16 a21 x17 a22 x18 x19 a23 a24 a25 a26 x20 a27 x21 a28 a29 a30 y0 a31 a32 a33 a34 a35 a36 a37 a38 a39 x22 x23 x24 y1 a40 x25 a41 a42 a43 a44 x26 x27 x28 x29 a1 f0) H := g_psub hP [0, 1] rfl
          have hD9 : va_D A (zS_51 cB cC cI cJ a0 a2 x2 x3 x4 x5 x6 x7 x8 x9 a3 a4 a5 a6 a7 a8 a9 a10 a11 a12 a13 a14 a15 a16 a17 x10 x11 x12 x13 x14 x15 a18 a19 a20 x16 a21 x17 a22 x18 x19 a23 a24 a25 a26 x20 a27 x21 a28 a29 a30 y0 a31 a32 a33 a34 a35 a36 a37 a38 a39 x22 x23 x24 y1 a40 x25 a41 a42 a43 a44 x26 x27 x28 x29 a1 f0) := hD.sub [0, 1] (by decide) rfl
          have k9 := tI_0
          exact hret 0 ((fun _ => 0), (fun _ => (fun _ => 0)), (fun _ => (fun _ => 0)), (fun _ => 0), (fun _ => 0)) dX12_clashOf_64 (show 0 = clF (prn f0 x0.toInt x1.toInt (x12.toInt).toNat) (prn f0 x0.toInt x0.toInt (x12.toInt).toNat) (prn f0 x1.toInt x1.toInt (x12.toInt).toNat) from cl_noM (by rw [← hw_4]; exact ey_5) (by rw [← hw_9]; exact ey_10) (by (first | omega | (unfold zBd at *; omega))) rfl) hP9 hD9 hS
      ·
        as_aux_lemma =>
          refine lv_lload (pc := 37) hx hb dX12_clashOf_37 (lv_at hl 1 rfl) ?_
          refine lv_lconst (pc := 39) (v := 0) hx hb dX12_clashOf_39 (by decide) ?_
          refine b_lcmp_ne (pc := 40) (tgt := 48) hx hb rfl tL_0 dX12_clashOf_40 dX12_clashOf_41 (by decide) (fun c_17 => ?_) (fun c_17 => ?_)
          ·
            as_aux_lemma =>
              refine lv_ldc2 (pc := 48) hx hb hown (hts _ tw_1800) dX12_clashOf_48 ?_
              refine lv_lload (pc := 51) hx hb dX12_clashOf_51 (lv_at hl 0 rfl) ?_
              refine b_lmul (pc := 53) hx hb tL_1000 rfl (by first | exact (om_1021 ey_15 ry_15.1) | ((first | omega | (unfold zBd at *; omega)))) (by first | exact (om_1022 ey_15 ry_15.2) | ((first | omega | (unfold zBd at *; omega)))) dX12_clashOf_53 (fun y_18 ey_18 => ?_)
              refine lv_lload (pc := 54) hx hb dX12_clashOf_54 (lv_at hl 0 rfl) ?_
              refine lv_lmul (pc := 56) hx hb dX12_clashOf_56 ?_
              refine lv_topl (fun y_19 ey_19 => ?_)
              have ry_19 := n_rngL y_19
              refine lv_lload (pc := 57) hx hb dX12_clashOf_57 (lv_at hl 2 rfl) ?_
              refine lv_lload (pc := 59) hx hb dX12_clashOf_59 (lv_at hl 1 rfl) ?_
              refine lv_lmul (pc := 61) hx hb dX12_clashOf_61 ?_
              refine lv_topl (fun y_20 ey_20 => ?_)
              have ry_20 := n_rngL y_20
              have ny_20 : ¬ y_20.toInt = 0 := (by rw [ey_20]; exact n_mulnz (by first | exact (om_34 c_16) | ((first | omega | (unfold zBd at *; omega)))) (by first | exact (om_34 c_17) | ((first | omega | (unfold zBd at *; omega)))) (by first | exact (om_1535 ey_5 ry_5.1 ry_5.2) | ((first | omega | (unfold zBd at *; omega)))) (by first | exact (om_1535 ey_10 ry_10.1 ry_10.2) | ((first | omega | (unfold zBd at *; omega)))))
              as_aux_lemma =>
                refine lv_ldiv (pc := 62) hx hb dX12_clashOf_62 (fun h => by have q := congrArg Int64.toInt h; have k := tL_0; (first | omega | (unfold zBd at *; omega))) ?_
                refine lv_topl (fun y_21 ey_21 => ?_)
                have ry_21 := n_rngL y_21
                refine lv_l2i (pc := 63) hx hb dX12_clashOf_63 rfl ?_
                refine lv_topi (fun x_22 ex_22 => ?_)
                have rx_22 : zBd x_22.toInt (-2147483648) 2147483647 := n_rng x_22
                have hP9 : va_P D gcl (zS_51 cB cC cI cJ a0 a2 x2 x3 x4 x5 x6 x7 x8 x9 a3 a4 a5 a6 a7 a8 a9 a10 a11 a12 a13 a14 a15 a16 a17 x10 x11 x12 x13 x14 x15 a18 a19 a20 x16 a21 x17 a22 x18 x19 a23 a24 a25 a26 x20 a27 x21 a28 a29 a30 y0 a31 a32 a33 a34 a35 a36 a37 a38 a39 x22 x23 x24 y1 a40 x25 a41 a42 a43 a44 x26 x27 x28 x29 a1 f0) H := g_psub hP [0, 1] rfl
                have hD9 : va_D A (zS_51 cB cC cI cJ a0 a2 x2 x3 x4 x5 x6 x7 x8 x9 a3 a4 a5 a6 a7 a8 a9 a10 a11 a12 a13 a14 a15 a16 a17 x10 x11 x12 x13 x14 x15 a18 a19 a20 x16 a21 x17 a22 x18 x19 a23 a24 a25 a26 x20 a27 x21 a28 a29 a30 y0 a31 a32 a33 a34 a35 a36 a37 a38 a39 x22 x23 x24 y1 a40 x25 a41 a42 a43 a44 x26 x27 x28 x29 a1 f0) := hD.sub [0, 1] (by decide) rfl
                exact hret x_22 ((fun _ => 0), (fun _ => (fun _ => 0)), (fun _ => (fun _ => 0)), (fun _ => 0), (fun _ => 0)) dX12_clashOf_64 (show x_22 = clF (prn f0 x0.toInt x1.toInt (x12.toInt).toNat) (prn f0 x0.toInt x0.toInt (x12.toInt).toNat) (prn f0 x1.toInt x1.toInt (x12.toInt).toNat) from cl_yes (by rw [← hw_14]; exact ey_15) (by rw [← hw_4]; exact ey_5) (by rw [← hw_9]; exact ey_10) ey_18 ey_19 ey_20 (by (first | omega | (unfold zBd at *; omega))) ey_21 ex_22) hP9 hD9 hS
          ·
            as_aux_lemma =>
              refine lv_iconst (pc := 44) (v := 0) hx hb dX12_clashOf_44 (by decide) ?_
              refine lv_goto (pc := 45) (tgt := 64) hx hb dX12_clashOf_45 (by decide) ?_
              have hP9 : va_P D gcl (zS_51 cB cC cI cJ a0 a2 x2 x3 x4 x5 x6 x7 x8 x9 a3 a4 a5 a6 a7 a8 a9 a10 a11 a12 a13 a14 a15 a16 a17 x10 x11 x12 x13 x14 x15 a18 a19 a20 x16 a21 x17 a22 x18 x19 a23 a24 a25 a26 x20 a27 x21 a28 a29 a30 y0 a31 a32 a33 a34 a35 a36 a37 a38 a39 x22 x23 x24 y1 a40 x25 a41 a42 a43 a44 x26 x27 x28 x29 a1 f0) H := g_psub hP [0, 1] rfl
              have hD9 : va_D A (zS_51 cB cC cI cJ a0 a2 x2 x3 x4 x5 x6 x7 x8 x9 a3 a4 a5 a6 a7 a8 a9 a10 a11 a12 a13 a14 a15 a16 a17 x10 x11 x12 x13 x14 x15 a18 a19 a20 x16 a21 x17 a22 x18 x19 a23 a24 a25 a26 x20 a27 x21 a28 a29 a30 y0 a31 a32 a33 a34 a35 a36 a37 a38 a39 x22 x23 x24 y1 a40 x25 a41 a42 a43 a44 x26 x27 x28 x29 a1 f0) := hD.sub [0, 1] (by decide) rfl
              have k9 := tI_0
              exact hret 0 ((fun _ => 0), (fun _ => (fun _ => 0)), (fun _ => (fun _ => 0)), (fun _ => 0), (fun _ => 0)) dX12_clashOf_64 (show 0 = clF (prn f0 x0.toInt x1.toInt (x12.toInt).toNat) (prn f0 x0.toInt x0.toInt (x12.toInt).toNat) (prn f0 x1.toInt x1.toInt (x12.toInt).toNat) from cl_noM (by rw [← hw_4]; exact ey_5) (by rw [← hw_9]; exact ey_10) (by (first | omega | (unfold zBd at *; omega))) rfl) hP9 hD9 hS
set_option maxHeartbeats 4000000 in
set_option maxRecDepth 100000 in
theorem k_X12_clash (l : Launch) (D : va_G) (cB cC cI cJ : ClassId) (sz : Nat) (a0 a1 a2 a3 a4 a5 a6 a7 a8 a9 a10 a11 a12 a13 a14 a15 a16 a17 a18 a19 a20 a21 a22 a23 a24 a25 a26 a27 a28 a29 a30 a31 a32 a33 a34 a35 a36 a37 a38 a39 a40 a41 a42 a43 : Nat) (x0 x1 x2 x3 x4 x5 x6 x7 x8 x9 x10 x11 x12 x13 x14 x15 x16 x17 x18 x19 x20 x21 x22 x23 x24 x25 x26 x27 x28 x29 x30 : Int32) (y0 y1 : Int64) (f0 f1 : Nat → Int32) (hp3 : (0 ≤ x2.toInt ∧ x2.toInt ≤ 1)) (h_x3 : zBd x3.toInt 0 1600) (h_x4 : zBd x4.toInt 0 1600) (h_x5 : zBd x5.toInt 0 1600) (h_x6 : zBd x6.toInt (-1) 1600) (h_x7 : zBd x7.toInt 0 4) (h_x8 : zBd x8.toInt (-1) 1600) (h_x11 : zBd x11.toInt 0 8) (h_x12 : zBd x12.toInt 0 5) (h_x13 : zBd x13.toInt 0 6) (h_x14 : zBd x14.toInt 0 6) (h_x15 : zBd x15.toInt 0 16) (h_x17 : zBd x17.toInt 0 60) (h_x18 : zBd x18.toInt 0 1600) (h_x19 : zBd x19.toInt 0 1700) (h_x21 : zBd x21.toInt 0 1700) (h_x22 : zBd x22.toInt 0 1700) (h_x23 : zBd x23.toInt 0 200) (h_x24 : zBd x24.toInt 0 40) (h_x25 : zBd x25.toInt 0 40) (h_x26 : zBd x26.toInt 0 1) (h_x27 : zBd x27.toInt 0 14) (h_x28 : zBd x28.toInt 0 200) (h_x29 : zBd x29.toInt 0 40) (h_x30 : zBd x30.toInt 0 40) (hr_a0_0 : (x24.toInt ≤ x23.toInt)) (hr_a0_1 : (x23.toInt + x25.toInt ≤ 200)) (hr_a0_2 : (x12.toInt = 0 ∨ 2 ≤ x11.toInt)) (hf_f1 : (∀ j, (-9999) ≤ (f1 j).toInt ∧ (f1 j).toInt ≤ 9999)) : Met l yX12_clash (.code yX12_clash cX12_clash 4 (some .int) :: lw_gd) ({ frames := 2, cells := 0, slots := 0, locals := 54 }) (gPre D [(cB, .byte), (cC, .char), (cI, .int), (cJ, .long)] [.ref a0, .int x0, .int x1, .int x2] (zS_15 cB cC cI cJ a0 a1 x3 x4 x5 x6 x7 x8 x9 x10 a2 a3 a4 a5 a6 a7 a8 a9 a10 a11 a12 a13 a14 a15 a16 x11 x12 x13 x14 x15 x16 a17 a18 a19 x17 a20 x18 a21 x19 x20 a22 a23 a24 a25 x21 a26 x22 a27 a28 a29 y0 a30 a31 a32 a33 a34 a35 a36 a37 a38 x23 x24 x25 y1 a39 x26 a40 a41 a42 a43 x27 x28 x29 x30 a27 f0 a18 f1) sz) (va_Qi (fun r u => (cvQ r.toInt (clP x0.toInt x1.toInt x12.toInt) x2.toInt (clM f0 x13.toInt x0.toInt x1.toInt) (clM f1 x13.toInt x0.toInt x1.toInt) (-1))) (gB D (va_A (zS_15 cB cC cI cJ a0 a1 x3 x4 x5 x6 x7 x8 x9 x10 a2 a3 a4 a5 a6 a7 a8 a9 a10 a11 a12 a13 a14 a15 a16 x11 x12 x13 x14 x15 x16 a17 a18 a19 x17 a20 x18 a21 x19 x20 a22 a23 a24 a25 x21 a26 x22 a27 a28 a29 y0 a30 a31 a32 a33 a34 a35 a36 a37 a38 x23 x24 x25 y1 a39 x26 a40 a41 a42 a43 x27 x28 x29 x30 a27 f0 a18 f1) sz) (fun u : gEx => (zS_15 cB cC cI cJ a0 a1 x3 x4 x5 x6 x7 x8 x9 x10 a2 a3 a4 a5 a6 a7 a8 a9 a10 a11 a12 a13 a14 a15 a16 x11 x12 x13 x14 x15 x16 a17 a18 a19 x17 a20 x18 a21 x19 x20 a22 a23 a24 a25 x21 a26 x22 a27 a28 a29 y0 a30 a31 a32 a33 a34 a35 a36 a37 a38 x23 x24 x25 y1 a39 x26 a40 a41 a42 a43 x27 x28 x29 x30 a27 f0 a18 f1))) (va_A (zS_15 cB cC cI cJ a0 a1 x3 x4 x5 x6 x7 x8 x9 x10 a2 a3 a4 a5 a6 a7 a8 a9 a10 a11 a12 a13 a14 a15 a16 x11 x12 x13 x14 x15 x16 a17 a18 a19 x17 a20 x18 a21 x19 x20 a22 a23 a24 a25 x21 a26 x22 a27 a28 a29 y0 a30 a31 a32 a33 a34 a35 a36 a37 a38 x23 x24 x25 y1 a39 x26 a40 a41 a42 a43 x27 x28 x29 x30 a27 f0 a18 f1) sz)) 0 0 (va_A (zS_15 cB cC cI cJ a0 a1 x3 x4 x5 x6 x7 x8 x9 x10 a2 a3 a4 a5 a6 a7 a8 a9 a10 a11 a12 a13 a14 a15 a16 x11 x12 x13 x14 x15 x16 a17 a18 a19 x17 a20 x18 a21 x19 x20 a22 a23 a24 a25 x21 a26 x22 a27 a28 a29 y0 a30 a31 a32 a33 a34 a35 a36 a37 a38 x23 x24 x25 y1 a39 x26 a40 a41 a42 a43 x27 x28 x29 x30 a27 f0 a18 f1) sz) := by
  refine gOf_i (by decide +kernel) (Nat.le_of_ble_eq_true rfl) ?_
  intro p e s m args below meth c ls A Q hx hb hts hown hml hN hK hP hD hA hl hret
  replace hown : s.vm.findClass RX12 = some m.cls := hown
  have hS : va_S A s.heap s.heap [] := va_S.rf
  replace hP : va_P D gcl (zS_15 cB cC cI cJ a0 a1 x3 x4 x5 x6 x7 x8 x9 x10 a2 a3 a4 a5 a6 a7 a8 a9 a10 a11 a12 a13 a14 a15 a16 x11 x12 x13 x14 x15 x16 a17 a18 a19 x17 a20 x18 a21 x19 x20 a22 a23 a24 a25 x21 a26 x22 a27 a28 a29 y0 a30 a31 a32 a33 a34 a35 a36 a37 a38 x23 x24 x25 y1 a39 x26 a40 a41 a42 a43 x27 x28 x29 x30 a27 f0 a18 f1) s.heap := hP
  replace hl : lv_has ls 4 [(0, .ref a0), (1, .int x0), (2, .int x1), (3, .int x2)] := hl
  have rx0 : zBd x0.toInt (-2147483648) 2147483647 := n_rng x0
  have rx1 : zBd x1.toInt (-2147483648) 2147483647 := n_rng x1
  have rx9 : zBd x9.toInt (-2147483648) 2147483647 := n_rng x9
  have rx10 : zBd x10.toInt (-2147483648) 2147483647 := n_rng x10
  have rx16 : zBd x16.toInt (-2147483648) 2147483647 := n_rng x16
  have rx20 : zBd x20.toInt (-2147483648) 2147483647 := n_rng x20
  have ry0 := n_rngL y0
  have ry1 := n_rngL y1
  refine lv_aload_n (pc := 0) hx hb dX12_clash_0 rfl (lv_at hl 0 rfl) ?_
  refine lv_iload_n (pc := 1) hx hb dX12_clash_1 rfl (lv_at hl 1 rfl) ?_
  refine gd_i (pc := 2) (wc := (zS_4 cB cC cI cJ a0 a1 x3 x4 x5 x6 x7 x8 x9 x10 a2 a3 a4 a5 a6 a7 a8 a9 a10 a11 a12 a13 a14 a15 a16 x11 x12 x13 x14 x15 x16 a17 a18 a19 x17 a20 x18 a21 x19 x20 a22 a23 a24 a25 x21 a26 x22 a27 a28 a29 y0 a30 a31 a32 a33 a34 a35 a36 a37 a38 x23 x24 x25 y1 a39 x26 a40 a41 a42 a43 x27 x28 x29 x30)) hP hD hS hA [0] rfl (by decide +kernel) (fun _ => by rfl) (fun hPc hDc => va_runV (As := [.int x0]) (rest := []) ⟨hx, hb, hml, hown, hts⟩ (k_X12_isSender l D cB cC cI cJ _ a0 a1 a2 a3 a4 a5 a6 a7 a8 a9 a10 a11 a12 a13 a14 a15 a16 a17 a18 a19 a20 a21 a22 a23 a24 a25 a26 a27 a28 a29 a30 a31 a32 a33 a34 a35 a36 a37 a38 a39 a40 a41 a42 a43 x0 x3 x4 x5 x6 x7 x8 x9 x10 x11 x12 x13 x14 x15 x16 x17 x18 x19 x20 x21 x22 x23 x24 x25 x26 x27 x28 x29 x30 y0 y1 h_x3 h_x4 h_x5 h_x6 h_x7 h_x8 h_x11 h_x12 h_x13 h_x14 h_x15 h_x17 h_x18 h_x19 h_x21 h_x22 h_x23 h_x24 h_x25 h_x26 h_x27 h_x28 h_x29 h_x30 hr_a0_0 hr_a0_1 hr_a0_2) ⟨gcwB hts tw_1782 tw_14 tw_1779 hd_yX12_isSender ⟨Nat.le_of_ble_eq_true rfl, Nat.le_of_ble_eq_true rfl⟩, hts _ tw_1781, hts _ tp_90⟩ ⟨gblind, va_recv hK hPc (ci := 12) (q0 := 0) rfl rfl, (gpreS hPc hK hDc hN).2⟩ rfl rfl hl.1 rfl (lv_room (Nat.le_of_ble_eq_true rfl)) dX12_clash_2 ⟨Nat.le_of_ble_eq_true rfl, Nat.le_of_ble_eq_true rfl⟩) (fun r_2 u_1 H locs hw_3 hP hD hS => ?_)
  replace hP : va_P D gcl (zS_15 cB cC cI cJ a0 a1 x3 x4 x5 x6 x7 x8 x9 x10 a2 a3 a4 a5 a6 a7 a8 a9 a10 a11 a12 a13 a14 a15 a16 x11 x12 x13 x14 x15 x16 a17 a18 a19 x17 a20 x18 a21 x19 x20 a22 a23 a24 a25 x21 a26 x22 a27 a28 a29 y0 a30 a31 a32 a33 a34 a35 a36 a37 a38 x23 x24 x25 y1 a39 x26 a40 a41 a42 a43 x27 x28 x29 x30 a27 f0 a18 f1) H := hP
  replace hD : va_D A (zS_15 cB cC cI cJ a0 a1 x3 x4 x5 x6 x7 x8 x9 x10 a2 a3 a4 a5 a6 a7 a8 a9 a10 a11 a12 a13 a14 a15 a16 x11 x12 x13 x14 x15 x16 a17 a18 a19 x17 a20 x18 a21 x19 x20 a22 a23 a24 a25 x21 a26 x22 a27 a28 a29 y0 a30 a31 a32 a33 a34 a35 a36 a37 a38 x23 x24 x25 y1 a39 x26 a40 a41 a42 a43 x27 x28 x29 x30 a27 f0 a18 f1) := hD
  obtain ⟨hw_4, hw_5, hw_6⟩ := hw_3
  replace hw_4 : (0 ≤ r_2.toInt ∧ r_2.toInt ≤ 1) := hw_4
  replace hw_5 : (-x0.toInt ≤ 4294967296 - 4294967296 * r_2.toInt ∧ x0.toInt ≤ x12.toInt - 1 + 4294967296 - 4294967296 * r_2.toInt) := hw_5
  replace hw_6 : (inQ r_2.toInt x0.toInt x12.toInt) := hw_6
  have rr_2 : zBd r_2.toInt (-2147483648) 2147483647 := n_rng r_2
  refine b_if_eq (pc := 5) (tgt := 21) hx hb rfl  dX12_clash_5 (by decide) (fun c_7 => ?_) (fun c_7 => ?_)
  ·
    as_aux_lemma =>
      refine lv_iconst (pc := 21) (v := (-1)) hx hb dX12_clash_21 (by decide) ?_
      have hP9 : va_P D gcl (zS_15 cB cC cI cJ a0 a1 x3 x4 x5 x6 x7 x8 x9 x10 a2 a3 a4 a5 a6 a7 a8 a9 a10 a11 a12 a13 a14 a15 a16 x11 x12 x13 x14 x15 x16 a17 a18 a19 x17 a20 x18 a21 x19 x20 a22 a23 a24 a25 x21 a26 x22 a27 a28 a29 y0 a30 a31 a32 a33 a34 a35 a36 a37 a38 x23 x24 x25 y1 a39 x26 a40 a41 a42 a43 x27 x28 x29 x30 a27 f0 a18 f1) H := g_psub hP [0, 1, 2] rfl
      have hD9 : va_D A (zS_15 cB cC cI cJ a0 a1 x3 x4 x5 x6 x7 x8 x9 x10 a2 a3 a4 a5 a6 a7 a8 a9 a10 a11 a12 a13 a14 a15 a16 x11 x12 x13 x14 x15 x16 a17 a18 a19 x17 a20 x18 a21 x19 x20 a22 a23 a24 a25 x21 a26 x22 a27 a28 a29 y0 a30 a31 a32 a33 a34 a35 a36 a37 a38 x23 x24 x25 y1 a39 x26 a40 a41 a42 a43 x27 x28 x29 x30 a27 f0 a18 f1) := hD.sub [0, 1, 2] (by decide) rfl
      have k9 := tI_m1
      exact hret (-1) ((fun _ => 0), (fun _ => (fun _ => 0)), (fun _ => (fun _ => 0)), (fun _ => 0), (fun _ => 0)) dX12_clash_22 (show cvQ ((-1) : Int32).toInt (clP x0.toInt x1.toInt x12.toInt) x2.toInt (clM f0 x13.toInt x0.toInt x1.toInt) (clM f1 x13.toInt x0.toInt x1.toInt) (-1) from cv_n (by have q := hw_6; unfold inQ at q; unfold clP; (first | omega | (unfold zBd at *; omega))) (by first | exact (om_65 tI_m1) | ((first | omega | (unfold zBd at *; omega))))) hP9 hD9 hS
  ·
    as_aux_lemma =>
      refine lv_aload_n (pc := 8) hx hb dX12_clash_8 rfl (lv_at hl 0 rfl) ?_
      refine lv_iload_n (pc := 9) hx hb dX12_clash_9 rfl (lv_at hl 2 rfl) ?_
      refine gd_i (pc := 10) (wc := (zS_4 cB cC cI cJ a0 a1 x3 x4 x5 x6 x7 x8 x9 x10 a2 a3 a4 a5 a6 a7 a8 a9 a10 a11 a12 a13 a14 a15 a16 x11 x12 x13 x14 x15 x16 a17 a18 a19 x17 a20 x18 a21 x19 x20 a22 a23 a24 a25 x21 a26 x22 a27 a28 a29 y0 a30 a31 a32 a33 a34 a35 a36 a37 a38 x23 x24 x25 y1 a39 x26 a40 a41 a42 a43 x27 x28 x29 x30)) hP hD hS hA [0] rfl (by decide +kernel) (fun _ => by rfl) (fun hPc hDc => va_runV (As := [.int x1]) (rest := []) ⟨hx, hb, hml, hown, hts⟩ (k_X12_isSender l D cB cC cI cJ _ a0 a1 a2 a3 a4 a5 a6 a7 a8 a9 a10 a11 a12 a13 a14 a15 a16 a17 a18 a19 a20 a21 a22 a23 a24 a25 a26 a27 a28 a29 a30 a31 a32 a33 a34 a35 a36 a37 a38 a39 a40 a41 a42 a43 x1 x3 x4 x5 x6 x7 x8 x9 x10 x11 x12 x13 x14 x15 x16 x17 x18 x19 x20 x21 x22 x23 x24 x25 x26 x27 x28 x29 x30 y0 y1 h_x3 h_x4 h_x5 h_x6 h_x7 h_x8 h_x11 h_x12 h_x13 h_x14 h_x15 h_x17 h_x18 h_x19 h_x21 h_x22 h_x23 h_x24 h_x25 h_x26 h_x27 h_x28 h_x29 h_x30 hr_a0_0 hr_a0_1 hr_a0_2) ⟨gcwB hts tw_1782 tw_14 tw_1779 hd_yX12_isSender ⟨Nat.le_of_ble_eq_true rfl, Nat.le_of_ble_eq_true rfl⟩, hts _ tw_1781, hts _ tp_90⟩ ⟨gblind, va_recv hK hPc (ci := 12) (q0 := 0) rfl rfl, (gpreS hPc hK hDc hN).2⟩ rfl rfl hl.1 rfl (lv_room (Nat.le_of_ble_eq_true rfl)) dX12_clash_10 ⟨Nat.le_of_ble_eq_true rfl, Nat.le_of_ble_eq_true rfl⟩) (fun r_9 u_8 H locs hw_10 hP hD hS => ?_)
      replace hP : va_P D gcl (zS_15 cB cC cI cJ a0 a1 x3 x4 x5 x6 x7 x8 x9 x10 a2 a3 a4 a5 a6 a7 a8 a9 a10 a11 a12 a13 a14 a15 a16 x11 x12 x13 x14 x15 x16 a17 a18 a19 x17 a20 x18 a21 x19 x20 a22 a23 a24 a25 x21 a26 x22 a27 a28 a29 y0 a30 a31 a32 a33 a34 a35 a36 a37 a38 x23 x24 x25 y1 a39 x26 a40 a41 a42 a43 x27 x28 x29 x30 a27 f0 a18 f1) H := hP
      replace hD : va_D A (zS_15 cB cC cI cJ a0 a1 x3 x4 x5 x6 x7 x8 x9 x10 a2 a3 a4 a5 a6 a7 a8 a9 a10 a11 a12 a13 a14 a15 a16 x11 x12 x13 x14 x15 x16 a17 a18 a19 x17 a20 x18 a21 x19 x20 a22 a23 a24 a25 x21 a26 x22 a27 a28 a29 y0 a30 a31 a32 a33 a34 a35 a36 a37 a38 x23 x24 x25 y1 a39 x26 a40 a41 a42 a43 x27 x28 x29 x30 a27 f0 a18 f1) := hD
      obtain ⟨hw_11, hw_12, hw_13⟩ := hw_10
      replace hw_11 : (0 ≤ r_9.toInt ∧ r_9.toInt ≤ 1) := hw_11
      replace hw_12 : (-x1.toInt ≤ 4294967296 - 4294967296 * r_9.toInt ∧ x1.toInt ≤ x12.toInt - 1 + 4294967296 - 4294967296 * r_9.toInt) := hw_12
      replace hw_13 : (inQ r_9.toInt x1.toInt x12.toInt) := hw_13
      have rr_9 : zBd r_9.toInt (-2147483648) 2147483647 := n_rng r_9
      refine b_if_eq (pc := 13) (tgt := 21) hx hb rfl  dX12_clash_13 (by decide) (fun c_14 => ?_) (fun c_14 => ?_)
      ·
        as_aux_lemma =>
          refine lv_iconst (pc := 21) (v := (-1)) hx hb dX12_clash_21 (by decide) ?_
          have hP9 : va_P D gcl (zS_15 cB cC cI cJ a0 a1 x3 x4 x5 x6 x7 x8 x9 x10 a2 a3 a4 a5 a6 a7 a8 a9 a10 a11 a12 a13 a14 a15 a16 x11 x12 x13 x14 x15 x16 a17 a18 a19 x17 a20 x18 a21 x19 x20 a22 a23 a24 a25 x21 a26 x22 a27 a28 a29 y0 a30 a31 a32 a33 a34 a35 a36 a37 a38 x23 x24 x25 y1 a39 x26 a40 a41 a42 a43 x27 x28 x29 x30 a27 f0 a18 f1) H := g_psub hP [0, 1, 2] rfl
          have hD9 : va_D A (zS_15 cB cC cI cJ a0 a1 x3 x4 x5 x6 x7 x8 x9 x10 a2 a3 a4 a5 a6 a7 a8 a9 a10 a11 a12 a13 a14 a15 a16 x11 x12 x13 x14 x15 x16 a17 a18 a19 x17 a20 x18 a21 x19 x20 a22 a23 a24 a25 x21 a26 x22 a27 a28 a29 y0 a30 a31 a32 a33 a34 a35 a36 a37 a38 x23 x24 x25 y1 a39 x26 a40 a41 a42 a43 x27 x28 x29 x30 a27 f0 a18 f1) := hD.sub [0, 1, 2] (by decide) rfl
          have k9 := tI_m1
          exact hret (-1) ((fun _ => 0), (fun _ => (fun _ => 0)), (fun _ => (fun _ => 0)), (fun _ => 0), (fun _ => 0)) dX12_clash_22 (show cvQ ((-1) : Int32).toInt (clP x0.toInt x1.toInt x12.toInt) x2.toInt (clM f0 x13.toInt x0.toInt x1.toInt) (clM f1 x13.toInt x0.toInt x1.toInt) (-1) from cv_n (by have q := hw_13; unfold inQ at q; unfold clP; (first | omega | (unfold zBd at *; omega))) (by first | exact (om_65 tI_m1) | ((first | omega | (unfold zBd at *; omega))))) hP9 hD9 hS
      ·
        as_aux_lemma =>
          refine lv_iload_n (pc := 16) hx hb dX12_clash_16 rfl (lv_at hl 1 rfl) ?_
          refine lv_iload_n (pc := 17) hx hb dX12_clash_17 rfl (lv_at hl 2 rfl) ?_
          refine b_icmp_ne (pc := 18) (tgt := 23) hx hb rfl rfl  dX12_clash_18 (by decide) (fun c_15 => ?_) (fun c_15 => ?_)
          ·
            as_aux_lemma =>
              refine lv_iload_n (pc := 23) hx hb dX12_clash_23 rfl (lv_at hl 3 rfl) ?_
              refine b_if_eq (pc := 24) (tgt := 40) hx hb rfl  dX12_clash_24 (by decide) (fun c_16 => ?_) (fun c_16 => ?_)
              ·
                as_aux_lemma =>
                  refine lv_aload_n (pc := 40) hx hb dX12_clash_40 rfl (lv_at hl 0 rfl) ?_
                  refine lv_iload_n (pc := 41) hx hb dX12_clash_41 rfl (lv_at hl 1 rfl) ?_
                  refine lv_iload_n (pc := 42) hx hb dX12_clash_42 rfl (lv_at hl 2 rfl) ?_
                  refine lv_aload_n (pc := 43) hx hb dX12_clash_43 rfl (lv_at hl 0 rfl) ?_
                  refine va_get (pc := 44) (ci := 12) (v := .ref a18) (C := RX12) (T := TX12) (N := 73) hx hb hts iX12 hown hK hP 0 rfl rfl 31 (by decide) (hts _ tw_1432) (fun _ h9 => h9) rfl dX12_clash_44 ?_
                  refine gd_i (pc := 47) (wc := (zS_30 cB cC cI cJ a0 a1 x3 x4 x5 x6 x7 x8 x9 x10 a2 a3 a4 a5 a6 a7 a8 a9 a10 a11 a12 a13 a14 a15 a16 x11 x12 x13 x14 x15 x16 a17 a18 a19 x17 a20 x18 a21 x19 x20 a22 a23 a24 a25 x21 a26 x22 a27 a28 a29 y0 a30 a31 a32 a33 a34 a35 a36 a37 a38 x23 x24 x25 y1 a39 x26 a40 a41 a42 a43 x27 x28 x29 x30 a18 f1)) hP hD hS hA [0, 2] rfl (by decide +kernel) (fun _ => by rfl) (fun hPc hDc => va_runV (As := [.int x0, .int x1, .ref a18]) (rest := []) ⟨hx, hb, hml, hown, hts⟩ (k_X12_clashOf_60rm9999_9999_E l D cB cC cI cJ _ a0 a18 a1 a2 a3 a4 a5 a6 a7 a8 a9 a10 a11 a12 a13 a14 a15 a16 a17 a18 a19 a20 a21 a22 a23 a24 a25 a26 a27 a28 a29 a30 a31 a32 a33 a34 a35 a36 a37 a38 a39 a40 a41 a42 a43 x0 x1 x3 x4 x5 x6 x7 x8 x9 x10 x11 x12 x13 x14 x15 x16 x17 x18 x19 x20 x21 x22 x23 x24 x25 x26 x27 x28 x29 x30 y0 y1 f1 (by first | exact (om_1534 c_7 hw_4.1 hw_5.1 hw_5.2 h_x12.2) | ((first | omega | (unfold zBd at *; omega)))) (by first | exact (om_1534 c_14 hw_11.1 hw_12.1 hw_12.2 h_x12.2) | ((first | omega | (unfold zBd at *; omega)))) h_x3 h_x4 h_x5 h_x6 h_x7 h_x8 h_x11 h_x12 h_x13 h_x14 h_x15 h_x17 h_x18 h_x19 h_x21 h_x22 h_x23 h_x24 h_x25 h_x26 h_x27 h_x28 h_x29 h_x30 hr_a0_0 hr_a0_1 hr_a0_2 hf_f1) ⟨gcwB hts tw_1799 tw_14 tw_1796 hd_yX12_clashOf ⟨Nat.le_of_ble_eq_true rfl, Nat.le_of_ble_eq_true rfl⟩, hts _ tw_1798, hts _ tp_92⟩ ⟨gblind, va_recv hK hPc (ci := 12) (q0 := 0) rfl rfl, (gpreS hPc hK hDc hN).2⟩ rfl rfl hl.1 rfl (lv_room (Nat.le_of_ble_eq_true rfl)) dX12_clash_47 ⟨Nat.le_of_ble_eq_true rfl, Nat.le_of_ble_eq_true rfl⟩) (fun r_18 u_17 H locs hw_19 hP hD hS => ?_)
                  replace hP : va_P D gcl (zS_15 cB cC cI cJ a0 a1 x3 x4 x5 x6 x7 x8 x9 x10 a2 a3 a4 a5 a6 a7 a8 a9 a10 a11 a12 a13 a14 a15 a16 x11 x12 x13 x14 x15 x16 a17 a18 a19 x17 a20 x18 a21 x19 x20 a22 a23 a24 a25 x21 a26 x22 a27 a28 a29 y0 a30 a31 a32 a33 a34 a35 a36 a37 a38 x23 x24 x25 y1 a39 x26 a40 a41 a42 a43 x27 x28 x29 x30 a27 f0 a18 f1) H := hP
                  replace hD : va_D A (zS_15 cB cC cI cJ a0 a1 x3 x4 x5 x6 x7 x8 x9 x10 a2 a3 a4 a5 a6 a7 a8 a9 a10 a11 a12 a13 a14 a15 a16 x11 x12 x13 x14 x15 x16 a17 a18 a19 x17 a20 x18 a21 x19 x20 a22 a23 a24 a25 x21 a26 x22 a27 a28 a29 y0 a30 a31 a32 a33 a34 a35 a36 a37 a38 x23 x24 x25 y1 a39 x26 a40 a41 a42 a43 x27 x28 x29 x30 a27 f0 a18 f1) := hD
                  have hw_20 : (r_18 = clF (prn f1 x0.toInt x1.toInt (x13.toInt).toNat) (prn f1 x0.toInt x0.toInt (x13.toInt).toNat) (prn f1 x1.toInt x1.toInt (x13.toInt).toNat)) := hw_19
                  have rr_18 : zBd r_18.toInt (-2147483648) 2147483647 := n_rng r_18
                  have hP9 : va_P D gcl (zS_15 cB cC cI cJ a0 a1 x3 x4 x5 x6 x7 x8 x9 x10 a2 a3 a4 a5 a6 a7 a8 a9 a10 a11 a12 a13 a14 a15 a16 x11 x12 x13 x14 x15 x16 a17 a18 a19 x17 a20 x18 a21 x19 x20 a22 a23 a24 a25 x21 a26 x22 a27 a28 a29 y0 a30 a31 a32 a33 a34 a35 a36 a37 a38 x23 x24 x25 y1 a39 x26 a40 a41 a42 a43 x27 x28 x29 x30 a27 f0 a18 f1) H := g_psub hP [0, 1, 2] rfl
                  have hD9 : va_D A (zS_15 cB cC cI cJ a0 a1 x3 x4 x5 x6 x7 x8 x9 x10 a2 a3 a4 a5 a6 a7 a8 a9 a10 a11 a12 a13 a14 a15 a16 x11 x12 x13 x14 x15 x16 a17 a18 a19 x17 a20 x18 a21 x19 x20 a22 a23 a24 a25 x21 a26 x22 a27 a28 a29 y0 a30 a31 a32 a33 a34 a35 a36 a37 a38 x23 x24 x25 y1 a39 x26 a40 a41 a42 a43 x27 x28 x29 x30 a27 f0 a18 f1) := hD.sub [0, 1, 2] (by decide) rfl
                  exact hret r_18 ((fun _ => 0), (fun _ => (fun _ => 0)), (fun _ => (fun _ => 0)), (fun _ => 0), (fun _ => 0)) dX12_clash_50 (show cvQ r_18.toInt (clP x0.toInt x1.toInt x12.toInt) x2.toInt (clM f0 x13.toInt x0.toInt x1.toInt) (clM f1 x13.toInt x0.toInt x1.toInt) (-1) from cv_0 (by unfold clP; (first | omega | (unfold zBd at *; omega))) (by first | exact (om_31 c_16) | ((first | omega | (unfold zBd at *; omega)))) (congrArg Int32.toInt hw_20)) hP9 hD9 hS
              ·
                as_aux_lemma =>
                  refine lv_aload_n (pc := 27) hx hb dX12_clash_27 rfl (lv_at hl 0 rfl) ?_
                  refine lv_iload_n (pc := 28) hx hb dX12_clash_28 rfl (lv_at hl 1 rfl) ?_
                  refine lv_iload_n (pc := 29) hx hb dX12_clash_29 rfl (lv_at hl 2 rfl) ?_
                  refine lv_aload_n (pc := 30) hx hb dX12_clash_30 rfl (lv_at hl 0 rfl) ?_
                  refine va_get (pc := 31) (ci := 12) (v := .ref a27) (C := RX12) (T := TX12) (N := 73) hx hb hts iX12 hown hK hP 0 rfl rfl 46 (by decide) (hts _ tw_1447) (fun _ h9 => h9) rfl dX12_clash_31 ?_
                  refine gd_i (pc := 34) (wc := (zS_51 cB cC cI cJ a0 a1 x3 x4 x5 x6 x7 x8 x9 x10 a2 a3 a4 a5 a6 a7 a8 a9 a10 a11 a12 a13 a14 a15 a16 x11 x12 x13 x14 x15 x16 a17 a18 a19 x17 a20 x18 a21 x19 x20 a22 a23 a24 a25 x21 a26 x22 a27 a28 a29 y0 a30 a31 a32 a33 a34 a35 a36 a37 a38 x23 x24 x25 y1 a39 x26 a40 a41 a42 a43 x27 x28 x29 x30 a27 f0)) hP hD hS hA [0, 1] rfl (by decide +kernel) (fun _ => by rfl) (fun hPc hDc => va_runV (As := [.int x0, .int x1, .ref a27]) (rest := []) ⟨hx, hb, hml, hown, hts⟩ (k_X12_clashOf_30_E l D cB cC cI cJ _ a0 a27 a1 a2 a3 a4 a5 a6 a7 a8 a9 a10 a11 a12 a13 a14 a15 a16 a17 a18 a19 a20 a21 a22 a23 a24 a25 a26 a27 a28 a29 a30 a31 a32 a33 a34 a35 a36 a37 a38 a39 a40 a41 a42 a43 x0 x1 x3 x4 x5 x6 x7 x8 x9 x10 x11 x12 x13 x14 x15 x16 x17 x18 x19 x20 x21 x22 x23 x24 x25 x26 x27 x28 x29 x30 y0 y1 f0 (by first | exact (om_1534 c_7 hw_4.1 hw_5.1 hw_5.2 h_x12.2) | ((first | omega | (unfold zBd at *; omega)))) (by first | exact (om_1534 c_14 hw_11.1 hw_12.1 hw_12.2 h_x12.2) | ((first | omega | (unfold zBd at *; omega)))) h_x3 h_x4 h_x5 h_x6 h_x7 h_x8 h_x11 h_x12 h_x13 h_x14 h_x15 h_x17 h_x18 h_x19 h_x21 h_x22 h_x23 h_x24 h_x25 h_x26 h_x27 h_x28 h_x29 h_x30 hr_a0_0 hr_a0_1 hr_a0_2) ⟨gcwB hts tw_1799 tw_14 tw_1796 hd_yX12_clashOf ⟨Nat.le_of_ble_eq_true rfl, Nat.le_of_ble_eq_true rfl⟩, hts _ tw_1798, hts _ tp_92⟩ ⟨gblind, va_recv hK hPc (ci := 12) (q0 := 0) rfl rfl, (gpreS hPc hK hDc hN).2⟩ rfl rfl hl.1 rfl (lv_room (Nat.le_of_ble_eq_true rfl)) dX12_clash_34 ⟨Nat.le_of_ble_eq_true rfl, Nat.le_of_ble_eq_true rfl⟩) (fun r_22 u_21 H locs hw_23 hP hD hS => ?_)
                  replace hP : va_P D gcl (zS_15 cB cC cI cJ a0 a1 x3 x4 x5 x6 x7 x8 x9 x10 a2 a3 a4 a5 a6 a7 a8 a9 a10 a11 a12 a13 a14 a15 a16 x11 x12 x13 x14 x15 x16 a17 a18 a19 x17 a20 x18 a21 x19 x20 a22 a23 a24 a25 x21 a26 x22 a27 a28 a29 y0 a30 a31 a32 a33 a34 a35 a36 a37 a38 x23 x24 x25 y1 a39 x26 a40 a41 a42 a43 x27 x28 x29 x30 a27 f0 a18 f1) H := hP
                  replace hD : va_D A (zS_15 cB cC cI cJ a0 a1 x3 x4 x5 x6 x7 x8 x9 x10 a2 a3 a4 a5 a6 a7 a8 a9 a10 a11 a12 a13 a14 a15 a16 x11 x12 x13 x14 x15 x16 a17 a18 a19 x17 a20 x18 a21 x19 x20 a22 a23 a24 a25 x21 a26 x22 a27 a28 a29 y0 a30 a31 a32 a33 a34 a35 a36 a37 a38 x23 x24 x25 y1 a39 x26 a40 a41 a42 a43 x27 x28 x29 x30 a27 f0 a18 f1) := hD
                  have hw_24 : (r_22 = clF (prn f0 x0.toInt x1.toInt (x13.toInt).toNat) (prn f0 x0.toInt x0.toInt (x13.toInt).toNat) (prn f0 x1.toInt x1.toInt (x13.toInt).toNat)) := hw_23
                  have rr_22 : zBd r_22.toInt (-2147483648) 2147483647 := n_rng r_22
                  refine lv_goto (pc := 37) (tgt := 50) hx hb dX12_clash_37 (by decide) ?_
                  have hP9 : va_P D gcl (zS_15 cB cC cI cJ a0 a1 x3 x4 x5 x6 x7 x8 x9 x10 a2 a3 a4 a5 a6 a7 a8 a9 a10 a11 a12 a13 a14 a15 a16 x11 x12 x13 x14 x15 x16 a17 a18 a19 x17 a20 x18 a21 x19 x20 a22 a23 a24 a25 x21 a26 x22 a27 a28 a29 y0 a30 a31 a32 a33 a34 a35 a36 a37 a38 x23 x24 x25 y1 a39 x26 a40 a41 a42 a43 x27 x28 x29 x30 a27 f0 a18 f1) H := g_psub hP [0, 1, 2] rfl
                  have hD9 : va_D A (zS_15 cB cC cI cJ a0 a1 x3 x4 x5 x6 x7 x8 x9 x10 a2 a3 a4 a5 a6 a7 a8 a9 a10 a11 a12 a13 a14 a15 a16 x11 x12 x13 x14 x15 x16 a17 a18 a19 x17 a20 x18 a21 x19 x20 a22 a23 a24 a25 x21 a26 x22 a27 a28 a29 y0 a30 a31 a32 a33 a34 a35 a36 a37 a38 x23 x24 x25 y1 a39 x26 a40 a41 a42 a43 x27 x28 x29 x30 a27 f0 a18 f1) := hD.sub [0, 1, 2] (by decide) rfl
                  exact hret r_22 ((fun _ => 0), (fun _ => (fun _ => 0)), (fun _ => (fun _ => 0)), (fun _ => 0), (fun _ => 0)) dX12_clash_50 (show cvQ r_22.toInt (clP x0.toInt x1.toInt x12.toInt) x2.toInt (clM f0 x13.toInt x0.toInt x1.toInt) (clM f1 x13.toInt x0.toInt x1.toInt) (-1) from cv_1 (by unfold clP; (first | omega | (unfold zBd at *; omega))) (by first | exact (om_34 c_16) | ((first | omega | (unfold zBd at *; omega)))) (congrArg Int32.toInt hw_24)) hP9 hD9 hS
          ·
            as_aux_lemma =>
              refine lv_iconst (pc := 21) (v := (-1)) hx hb dX12_clash_21 (by decide) ?_
              have hP9 : va_P D gcl (zS_15 cB cC cI cJ a0 a1 x3 x4 x5 x6 x7 x8 x9 x10 a2 a3 a4 a5 a6 a7 a8 a9 a10 a11 a12 a13 a14 a15 a16 x11 x12 x13 x14 x15 x16 a17 a18 a19 x17 a20 x18 a21 x19 x20 a22 a23 a24 a25 x21 a26 x22 a27 a28 a29 y0 a30 a31 a32 a33 a34 a35 a36 a37 a38 x23 x24 x25 y1 a39 x26 a40 a41 a42 a43 x27 x28 x29 x30 a27 f0 a18 f1) H := g_psub hP [0, 1, 2] rfl
              have hD9 : va_D A (zS_15 cB cC cI cJ a0 a1 x3 x4 x5 x6 x7 x8 x9 x10 a2 a3 a4 a5 a6 a7 a8 a9 a10 a11 a12 a13 a14 a15 a16 x11 x12 x13 x14 x15 x16 a17 a18 a19 x17 a20 x18 a21 x19 x20 a22 a23 a24 a25 x21 a26 x22 a27 a28 a29 y0 a30 a31 a32 a33 a34 a35 a36 a37 a38 x23 x24 x25 y1 a39 x26 a40 a41 a42 a43 x27 x28 x29 x30 a27 f0 a18 f1) := hD.sub [0, 1, 2] (by decide) rfl
              have k9 := tI_m1
              exact hret (-1) ((fun _ => 0), (fun _ => (fun _ => 0)), (fun _ => (fun _ => 0)), (fun _ => 0), (fun _ => 0)) dX12_clash_22 (show cvQ ((-1) : Int32).toInt (clP x0.toInt x1.toInt x12.toInt) x2.toInt (clM f0 x13.toInt x0.toInt x1.toInt) (clM f1 x13.toInt x0.toInt x1.toInt) (-1) from cv_n (by have q := hw_13; unfold inQ at q; unfold clP; (first | omega | (unfold zBd at *; omega))) (by first | exact (om_65 tI_m1) | ((first | omega | (unfold zBd at *; omega))))) hP9 hD9 hS
theorem om_1536 {a b : Int} (h0 : (a ≤ b)) : (a ≤ b ∨ a = 0) := by omega
theorem om_1537 {a : Int} (h0 : (a = 0)) : (¬ ¬ a = 0) := by omega
set_option maxHeartbeats 4000000 in
set_option maxRecDepth 100000 in
theorem k_X12_worst (l : Launch) (D : va_G) (cB cC cI cJ : ClassId) (sz : Nat) (a0 a1 a2 a3 a4 a5 a6 a7 a8 a9 a10 a11 a12 a13 a14 a15 a16 a17 a18 a19 a20 a21 a22 a23 a24 a25 a26 a27 a28 a29 a30 a31 a32 a33 a34 a35 a36 a37 a38 a39 a40 a41 a42 a43 : Nat) (x0 x1 x2 x3 x4 x5 x6 x7 x8 x9 x10 x11 x12 x13 x14 x15 x16 x17 x18 x19 x20 x21 x22 x23 x24 x25 x26 x27 x28 : Int32) (y0 y1 : Int64) (f0 f1 : Nat → Int32) (hp1 : (0 ≤ x0.toInt ∧ x0.toInt ≤ 1)) (h_x1 : zBd x1.toInt 0 1600) (h_x2 : zBd x2.toInt 0 1600) (h_x3 : zBd x3.toInt 0 1600) (h_x4 : zBd x4.toInt (-1) 1600) (h_x5 : zBd x5.toInt 0 4) (h_x6 : zBd x6.toInt (-1) 1600) (h_x9 : zBd x9.toInt 0 8) (h_x10 : zBd x10.toInt 0 5) (h_x11 : zBd x11.toInt 0 6) (h_x12 : zBd x12.toInt 0 6) (h_x13 : zBd x13.toInt 0 16) (h_x15 : zBd x15.toInt 0 60) (h_x16 : zBd x16.toInt 0 1600) (h_x17 : zBd x17.toInt 0 1700) (h_x19 : zBd x19.toInt 0 1700) (h_x20 : zBd x20.toInt 0 1700) (h_x21 : zBd x21.toInt 0 200) (h_x22 : zBd x22.toInt 0 40) (h_x23 : zBd x23.toInt 0 40) (h_x24 : zBd x24.toInt 0 1) (h_x25 : zBd x25.toInt 0 14) (h_x26 : zBd x26.toInt 0 200) (h_x27 : zBd x27.toInt 0 40) (h_x28 : zBd x28.toInt 0 40) (hr_a0_0 : (x22.toInt ≤ x21.toInt)) (hr_a0_1 : (x21.toInt + x23.toInt ≤ 200)) (hr_a0_2 : (x10.toInt = 0 ∨ 2 ≤ x9.toInt)) (hf_f1 : (∀ j, (-9999) ≤ (f1 j).toInt ∧ (f1 j).toInt ≤ 9999)) : Met l yX12_worst (.code yX12_worst cX12_worst 7 (some .int) :: lw_gd) ({ frames := 2, cells := 0, slots := 0, locals := 54 }) (gPre D [(cB, .byte), (cC, .char), (cI, .int), (cJ, .long)] [.ref a0, .int x0] (zS_15 cB cC cI cJ a0 a1 x1 x2 x3 x4 x5 x6 x7 x8 a2 a3 a4 a5 a6 a7 a8 a9 a10 a11 a12 a13 a14 a15 a16 x9 x10 x11 x12 x13 x14 a17 a18 a19 x15 a20 x16 a21 x17 x18 a22 a23 a24 a25 x19 a26 x20 a27 a28 a29 y0 a30 a31 a32 a33 a34 a35 a36 a37 a38 x21 x22 x23 y1 a39 x24 a40 a41 a42 a43 x25 x26 x27 x28 a27 f0 a18 f1) sz) (va_Qi (fun r u => ((-1) ≤ r.toInt ∧ r.toInt ≤ 500) ∧ (cvQ r.toInt True x0.toInt (wsW (clM f0 x11.toInt) x10.toInt) (wsW (clM f1 x11.toInt) x10.toInt) 0)) (gB D (va_A (zS_15 cB cC cI cJ a0 a1 x1 x2 x3 x4 x5 x6 x7 x8 a2 a3 a4 a5 a6 a7 a8 a9 a10 a11 a12 a13 a14 a15 a16 x9 x10 x11 x12 x13 x14 a17 a18 a19 x15 a20 x16 a21 x17 x18 a22 a23 a24 a25 x19 a26 x20 a27 a28 a29 y0 a30 a31 a32 a33 a34 a35 a36 a37 a38 x21 x22 x23 y1 a39 x24 a40 a41 a42 a43 x25 x26 x27 x28 a27 f0 a18 f1) sz) (fun u : gEx => (zS_15 cB cC cI cJ a0 a1 x1 x2 x3 x4 x5 x6 x7 x8 a2 a3 a4 a5 a6 a7 a8 a9 a10 a11 a12 a13 a14 a15 a16 x9 x10 x11 x12 x13 x14 a17 a18 a19 x15 a20 x16 a21 x17 x18 a22 a23 a24 a25 x19 a26 x20 a27 a28 a29 y0 a30 a31 a32 a33 a34 a35 a36 a37 a38 x21 x22 x23 y1 a39 x24 a40 a41 a42 a43 x25 x26 x27 x28 a27 f0 a18 f1))) (va_A (zS_15 cB cC cI cJ a0 a1 x1 x2 x3 x4 x5 x6 x7 x8 a2 a3 a4 a5 a6 a7 a8 a9 a10 a11 a12 a13 a14 a15 a16 x9 x10 x11 x12 x13 x14 a17 a18 a19 x15 a20 x16 a21 x17 x18 a22 a23 a24 a25 x19 a26 x20 a27 a28 a29 y0 a30 a31 a32 a33 a34 a35 a36 a37 a38 x21 x22 x23 y1 a39 x24 a40 a41 a42 a43 x25 x26 x27 x28 a27 f0 a18 f1) sz)) 0 0 (va_A (zS_15 cB cC cI cJ a0 a1 x1 x2 x3 x4 x5 x6 x7 x8 a2 a3 a4 a5 a6 a7 a8 a9 a10 a11 a12 a13 a14 a15 a16 x9 x10 x11 x12 x13 x14 a17 a18 a19 x15 a20 x16 a21 x17 x18 a22 a23 a24 a25 x19 a26 x20 a27 a28 a29 y0 a30 a31 a32 a33 a34 a35 a36 a37 a38 x21 x22 x23 y1 a39 x24 a40 a41 a42 a43 x25 x26 x27 x28 a27 f0 a18 f1) sz) := by
  refine gOf_i (by decide +kernel) (Nat.le_of_ble_eq_true rfl) ?_
  intro p e s m args below meth c ls A Q hx hb hts hown hml hN hK hP hD hA hl hret
  replace hown : s.vm.findClass RX12 = some m.cls := hown
  have hS : va_S A s.heap s.heap [] := va_S.rf
  replace hP : va_P D gcl (zS_15 cB cC cI cJ a0 a1 x1 x2 x3 x4 x5 x6 x7 x8 a2 a3 a4 a5 a6 a7 a8 a9 a10 a11 a12 a13 a14 a15 a16 x9 x10 x11 x12 x13 x14 a17 a18 a19 x15 a20 x16 a21 x17 x18 a22 a23 a24 a25 x19 a26 x20 a27 a28 a29 y0 a30 a31 a32 a33 a34 a35 a36 a37 a38 x21 x22 x23 y1 a39 x24 a40 a41 a42 a43 x25 x26 x27 x28 a27 f0 a18 f1) s.heap := hP
  replace hl : lv_has ls 7 [(0, .ref a0), (1, .int x0)] := hl
  have rx7 : zBd x7.toInt (-2147483648) 2147483647 := n_rng x7
  have rx8 : zBd x8.toInt (-2147483648) 2147483647 := n_rng x8
  have rx14 : zBd x14.toInt (-2147483648) 2147483647 := n_rng x14
  have rx18 : zBd x18.toInt (-2147483648) 2147483647 := n_rng x18
  have ry0 := n_rngL y0
  have ry1 := n_rngL y1
  refine lv_iconst (pc := 0) (v := (-1)) hx hb dX12_worst_0 (by decide) ?_
  refine lv_istore_n (pc := 1) (lv' := [(2, .int (-1)), (0, .ref a0), (1, .int x0)]) hx hb dX12_worst_1 rfl hl (by decide) rfl (fun ls hl => ?_)
  refine lv_iconst (pc := 2) (v := (-1)) hx hb dX12_worst_2 (by decide) ?_
  refine lv_istore_n (pc := 3) (lv' := [(3, .int (-1)), (2, .int (-1)), (0, .ref a0), (1, .int x0)]) hx hb dX12_worst_3 rfl hl (by decide) rfl (fun ls hl => ?_)
  refine lv_iconst (pc := 4) (v := 0) hx hb dX12_worst_4 (by decide) ?_
  refine lv_istore (pc := 5) (lv' := [(4, .int 0), (3, .int (-1)), (2, .int (-1)), (0, .ref a0), (1, .int x0)]) hx hb dX12_worst_5 hl (by decide) rfl (fun ls hl => ?_)
  have lp_10 : ∀ (n : Nat) (x_1 x_3 x_5 : Int32) (H : Heap) (locs : List Loc) (ls : Array Slot), (0 ≤ x_1.toInt ∧ x_1.toInt ≤ 5) → ((-1) ≤ x_5.toInt ∧ x_5.toInt ≤ 500) → (x_1.toInt ≤ x10.toInt) → (¬ x0.toInt = 0 → wsE x_5.toInt x_3.toInt (clM f0 x11.toInt) x10.toInt (5 * x_1.toInt)) → (x0.toInt = 0 → wsE x_5.toInt x_3.toInt (clM f1 x11.toInt) x10.toInt (5 * x_1.toInt)) → (2147483647 - x_1.toInt).toNat < n → va_P D gcl (zS_15 cB cC cI cJ a0 a1 x1 x2 x3 x4 x5 x6 x7 x8 a2 a3 a4 a5 a6 a7 a8 a9 a10 a11 a12 a13 a14 a15 a16 x9 x10 x11 x12 x13 x14 a17 a18 a19 x15 a20 x16 a21 x17 x18 a22 a23 a24 a25 x19 a26 x20 a27 a28 a29 y0 a30 a31 a32 a33 a34 a35 a36 a37 a38 x21 x22 x23 y1 a39 x24 a40 a41 a42 a43 x25 x26 x27 x28 a27 f0 a18 f1) H → va_D A (zS_15 cB cC cI cJ a0 a1 x1 x2 x3 x4 x5 x6 x7 x8 a2 a3 a4 a5 a6 a7 a8 a9 a10 a11 a12 a13 a14 a15 a16 x9 x10 x11 x12 x13 x14 a17 a18 a19 x15 a20 x16 a21 x17 x18 a22 a23 a24 a25 x19 a26 x20 a27 a28 a29 y0 a30 a31 a32 a33 a34 a35 a36 a37 a38 x21 x22 x23 y1 a39 x24 a40 a41 a42 a43 x25 x26 x27 x28 a27 f0 a18 f1) → va_S A s.heap H locs → lv_has ls 7 [(4, .int x_1), (3, .int x_3), (2, .int x_5), (0, .ref a0), (1, .int x0)] → W p l e ({ frames := 2, cells := 0, slots := 0, locals := 54 }) s m args below meth c H locs 0 0 Q (F0 m 7 ls []) := by
    intro n
    induction n with
    | zero => intro x_1 x_3 x_5 H locs ls hi_2 hi_6 hi_7 hi_8 hi_9 hmu; exact absurd hmu (Nat.not_lt_zero _)
    | succ n ih_lp_10 =>
      intro x_1 x_3 x_5 H locs ls hi_2 hi_6 hi_7 hi_8 hi_9 hmu_lp_10 hP hD hS hl
      have hi_4 := n_rng x_3
      refine lv_iload (pc := 7) hx hb dX12_worst_7 (lv_at hl 0 rfl) ?_
      refine lv_aload_n (pc := 9) hx hb dX12_worst_9 rfl (lv_at hl 3 rfl) ?_
      refine va_get (pc := 10) (ci := 12) (v := .int x10) (C := RX12) (T := TX12) (N := 73) hx hb hts iX12 hown hK hP 0 rfl rfl 25 (by decide) (hts _ tw_1426) (fun _ h9 => h9) rfl dX12_worst_10 ?_
      have bd_h_x10 : 0 ≤ x10.toInt ∧ x10.toInt ≤ 5 := h_x10
      refine b_icmp_ge (pc := 13) (tgt := 97) hx hb rfl rfl  dX12_worst_13 (by decide) (fun c_11 => ?_) (fun c_11 => ?_)
      ·
        as_aux_lemma =>
          refine lv_iload_n (pc := 97) hx hb dX12_worst_97 rfl (lv_at hl 2 rfl) ?_
          have hP9 : va_P D gcl (zS_15 cB cC cI cJ a0 a1 x1 x2 x3 x4 x5 x6 x7 x8 a2 a3 a4 a5 a6 a7 a8 a9 a10 a11 a12 a13 a14 a15 a16 x9 x10 x11 x12 x13 x14 a17 a18 a19 x15 a20 x16 a21 x17 x18 a22 a23 a24 a25 x19 a26 x20 a27 a28 a29 y0 a30 a31 a32 a33 a34 a35 a36 a37 a38 x21 x22 x23 y1 a39 x24 a40 a41 a42 a43 x25 x26 x27 x28 a27 f0 a18 f1) H := g_psub hP [0, 1, 2] rfl
          have hD9 : va_D A (zS_15 cB cC cI cJ a0 a1 x1 x2 x3 x4 x5 x6 x7 x8 a2 a3 a4 a5 a6 a7 a8 a9 a10 a11 a12 a13 a14 a15 a16 x9 x10 x11 x12 x13 x14 a17 a18 a19 x15 a20 x16 a21 x17 x18 a22 a23 a24 a25 x19 a26 x20 a27 a28 a29 y0 a30 a31 a32 a33 a34 a35 a36 a37 a38 x21 x22 x23 y1 a39 x24 a40 a41 a42 a43 x25 x26 x27 x28 a27 f0 a18 f1) := hD.sub [0, 1, 2] (by decide) rfl
          exact hret x_5 ((fun _ => 0), (fun _ => (fun _ => 0)), (fun _ => (fun _ => 0)), (fun _ => 0), (fun _ => 0)) dX12_worst_98 ⟨(show ((-1) ≤ x_5.toInt ∧ x_5.toInt ≤ 500) from hi_6), (show cvQ x_5.toInt True x0.toInt (wsW (clM f0 x11.toInt) x10.toInt) (wsW (clM f1 x11.toInt) x10.toInt) 0 from ⟨fun _ => ⟨fun hl => ws_end (hi_8 hl) (by first | exact (om_0 hi_2.1) | ((first | omega | (unfold zBd at *; omega)))) (by first | exact (om_503 c_11) | ((first | omega | (unfold zBd at *; omega)))) (by first | exact (om_1536 hi_7) | ((first | omega | (unfold zBd at *; omega)))) rfl, fun hl => ws_end (hi_9 hl) (by first | exact (om_0 hi_2.1) | ((first | omega | (unfold zBd at *; omega)))) (by first | exact (om_503 c_11) | ((first | omega | (unfold zBd at *; omega)))) (by first | exact (om_1536 hi_7) | ((first | omega | (unfold zBd at *; omega)))) rfl⟩, fun h => absurd trivial h⟩)⟩ hP9 hD9 hS
      ·
        as_aux_lemma =>
          refine lv_iload (pc := 16) hx hb dX12_worst_16 (lv_at hl 0 rfl) ?_
          refine lv_iconst (pc := 18) (v := 1) hx hb dX12_worst_18 (by decide) ?_
          refine b_iadd (pc := 19) hx hb rfl tI_1 (by first | exact (om_2 hi_2.1) | ((first | omega | (unfold zBd at *; omega)))) (by first | exact (om_357 hi_2.2) | ((first | omega | (unfold zBd at *; omega)))) dX12_worst_19 (fun x_12 ex_12 => ?_)
          refine lv_istore (pc := 20) (lv' := [(5, .int x_12), (4, .int x_1), (3, .int x_3), (2, .int x_5), (0, .ref a0), (1, .int x0)]) hx hb dX12_worst_20 hl (by decide) rfl (fun ls hl => ?_)
          have lp_22 : ∀ (n : Nat) (x_13 x_15 x_17 : Int32) (H : Heap) (locs : List Loc) (ls : Array Slot), (0 ≤ x_13.toInt ∧ x_13.toInt ≤ 5) → ((-1) ≤ x_17.toInt ∧ x_17.toInt ≤ 500) → (x_1.toInt < x_13.toInt ∧ (x_13.toInt ≤ x10.toInt ∨ x_13.toInt = x_1.toInt + 1)) → (¬ x0.toInt = 0 → wsE x_17.toInt x_15.toInt (clM f0 x11.toInt) x10.toInt (5 * x_1.toInt + x_13.toInt)) → (x0.toInt = 0 → wsE x_17.toInt x_15.toInt (clM f1 x11.toInt) x10.toInt (5 * x_1.toInt + x_13.toInt)) → (2147483647 - x_13.toInt).toNat < n → va_P D gcl (zS_15 cB cC cI cJ a0 a1 x1 x2 x3 x4 x5 x6 x7 x8 a2 a3 a4 a5 a6 a7 a8 a9 a10 a11 a12 a13 a14 a15 a16 x9 x10 x11 x12 x13 x14 a17 a18 a19 x15 a20 x16 a21 x17 x18 a22 a23 a24 a25 x19 a26 x20 a27 a28 a29 y0 a30 a31 a32 a33 a34 a35 a36 a37 a38 x21 x22 x23 y1 a39 x24 a40 a41 a42 a43 x25 x26 x27 x28 a27 f0 a18 f1) H → va_D A (zS_15 cB cC cI cJ a0 a1 x1 x2 x3 x4 x5 x6 x7 x8 a2 a3 a4 a5 a6 a7 a8 a9 a10 a11 a12 a13 a14 a15 a16 x9 x10 x11 x12 x13 x14 a17 a18 a19 x15 a20 x16 a21 x17 x18 a22 a23 a24 a25 x19 a26 x20 a27 a28 a29 y0 a30 a31 a32 a33 a34 a35 a36 a37 a38 x21 x22 x23 y1 a39 x24 a40 a41 a42 a43 x25 x26 x27 x28 a27 f0 a18 f1) → va_S A s.heap H locs → lv_has ls 7 [(5, .int x_13), (4, .int x_1), (3, .int x_15), (2, .int x_17), (0, .ref a0), (1, .int x0)] → W p l e ({ frames := 2, cells := 0, slots := 0, locals := 54 }) s m args below meth c H locs 0 0 Q (F0 m 22 ls []) := by
            intro n
            induction n with
            | zero => intro x_13 x_15 x_17 H locs ls hi_14 hi_18 hi_19 hi_20 hi_21 hmu; exact absurd hmu (Nat.not_lt_zero _)
            | succ n ih_lp_22 =>
              intro x_13 x_15 x_17 H locs ls hi_14 hi_18 hi_19 hi_20 hi_21 hmu_lp_22 hP hD hS hl
              have hi_16 := n_rng x_15
              refine lv_iload (pc := 22) hx hb dX12_worst_22 (lv_at hl 0 rfl) ?_
              refine lv_aload_n (pc := 24) hx hb dX12_worst_24 rfl (lv_at hl 4 rfl) ?_
              refine va_get (pc := 25) (ci := 12) (v := .int x10) (C := RX12) (T := TX12) (N := 73) hx hb hts iX12 hown hK hP 0 rfl rfl 25 (by decide) (hts _ tw_1426) (fun _ h9 => h9) rfl dX12_worst_25 ?_
              refine b_icmp_ge (pc := 28) (tgt := 91) hx hb rfl rfl  dX12_worst_28 (by decide) (fun c_23 => ?_) (fun c_23 => ?_)
              ·
                as_aux_lemma =>
                  refine b_iinc (pc := 91) hx hb dX12_worst_91 hl (k := 1) rfl rfl tI_1 (by first | exact (om_2 hi_2.1) | ((first | omega | (unfold zBd at *; omega)))) (by first | exact (om_357 hi_2.2) | ((first | omega | (unfold zBd at *; omega)))) (by decide) (fun x_24 ex_24 ls hl => ?_)
                  replace hl : lv_has ls 7 [(4, .int x_24), (5, .int x_13), (3, .int x_15), (2, .int x_17), (0, .ref a0), (1, .int x0)] := hl
                  refine lv_goto (pc := 94) (tgt := 7) hx hb dX12_worst_94 (by decide) ?_
                  exact ih_lp_10 x_24 x_15 x_17 _ _ ls (by first | exact (om_1026 ex_24 hi_2.1 hi_19.1 hi_14.2) | ((first | omega | (unfold zBd at *; omega)))) hi_18 (by first | exact (om_40 ex_24 c_11) | ((first | omega | (unfold zBd at *; omega)))) (fun hl => ws_out (hi_20 hl) (by first | exact (om_0 hi_2.1) | ((first | omega | (unfold zBd at *; omega)))) (by first | exact (om_503 c_23) | ((first | omega | (unfold zBd at *; omega)))) (by first | exact (om_0 hi_14.1) | ((first | omega | (unfold zBd at *; omega)))) (by first | exact (om_372 hi_14.2) | ((first | omega | (unfold zBd at *; omega)))) rfl (by first | exact (om_1027 ex_24) | ((first | omega | (unfold zBd at *; omega))))) (fun hl => ws_out (hi_21 hl) (by first | exact (om_0 hi_2.1) | ((first | omega | (unfold zBd at *; omega)))) (by first | exact (om_503 c_23) | ((first | omega | (unfold zBd at *; omega)))) (by first | exact (om_0 hi_14.1) | ((first | omega | (unfold zBd at *; omega)))) (by first | exact (om_372 hi_14.2) | ((first | omega | (unfold zBd at *; omega)))) rfl (by first | exact (om_1027 ex_24) | ((first | omega | (unfold zBd at *; omega))))) (by (first | omega | (unfold zBd at *; omega))) hP hD hS (lv_sub hl [0, 2, 3, 4, 5] rfl)
              ·
                as_aux_lemma =>
                  refine lv_iload_n (pc := 31) hx hb dX12_worst_31 rfl (lv_at hl 5 rfl) ?_
                  refine b_if_eq (pc := 32) (tgt := 50) hx hb rfl  dX12_worst_32 (by decide) (fun c_25 => ?_) (fun c_25 => ?_)
                  ·
                    as_aux_lemma =>
                      refine lv_aload_n (pc := 50) hx hb dX12_worst_50 rfl (lv_at hl 4 rfl) ?_
                      refine lv_iload (pc := 51) hx hb dX12_worst_51 (lv_at hl 1 rfl) ?_
                      refine lv_iload (pc := 53) hx hb dX12_worst_53 (lv_at hl 0 rfl) ?_
                      refine lv_aload_n (pc := 55) hx hb dX12_worst_55 rfl (lv_at hl 4 rfl) ?_
                      refine va_get (pc := 56) (ci := 12) (v := .ref a18) (C := RX12) (T := TX12) (N := 73) hx hb hts iX12 hown hK hP 0 rfl rfl 31 (by decide) (hts _ tw_1432) (fun _ h9 => h9) rfl dX12_worst_56 ?_
                      refine gd_i (pc := 59) (wc := (zS_30 cB cC cI cJ a0 a1 x1 x2 x3 x4 x5 x6 x7 x8 a2 a3 a4 a5 a6 a7 a8 a9 a10 a11 a12 a13 a14 a15 a16 x9 x10 x11 x12 x13 x14 a17 a18 a19 x15 a20 x16 a21 x17 x18 a22 a23 a24 a25 x19 a26 x20 a27 a28 a29 y0 a30 a31 a32 a33 a34 a35 a36 a37 a38 x21 x22 x23 y1 a39 x24 a40 a41 a42 a43 x25 x26 x27 x28 a18 f1)) hP hD hS hA [0, 2] rfl (by decide +kernel) (fun _ => by rfl) (fun hPc hDc => va_runV (As := [.int x_1, .int x_13, .ref a18]) (rest := []) ⟨hx, hb, hml, hown, hts⟩ (k_X12_clashOf_60rm9999_9999_E l D cB cC cI cJ _ a0 a18 a1 a2 a3 a4 a5 a6 a7 a8 a9 a10 a11 a12 a13 a14 a15 a16 a17 a18 a19 a20 a21 a22 a23 a24 a25 a26 a27 a28 a29 a30 a31 a32 a33 a34 a35 a36 a37 a38 a39 a40 a41 a42 a43 x_1 x_13 x1 x2 x3 x4 x5 x6 x7 x8 x9 x10 x11 x12 x13 x14 x15 x16 x17 x18 x19 x20 x21 x22 x23 x24 x25 x26 x27 x28 y0 y1 f1 (by first | exact (om_360 hi_2.1 c_11 h_x10.2) | ((first | omega | (unfold zBd at *; omega)))) (by first | exact (om_360 hi_14.1 c_23 h_x10.2) | ((first | omega | (unfold zBd at *; omega)))) h_x1 h_x2 h_x3 h_x4 h_x5 h_x6 h_x9 h_x10 h_x11 h_x12 h_x13 h_x15 h_x16 h_x17 h_x19 h_x20 h_x21 h_x22 h_x23 h_x24 h_x25 h_x26 h_x27 h_x28 hr_a0_0 hr_a0_1 hr_a0_2 hf_f1) ⟨gcwB hts tw_1799 tw_14 tw_1796 hd_yX12_clashOf ⟨Nat.le_of_ble_eq_true rfl, Nat.le_of_ble_eq_true rfl⟩, hts _ tw_1798, hts _ tp_92⟩ ⟨gblind, va_recv hK hPc (ci := 12) (q0 := 0) rfl rfl, (gpreS hPc hK hDc hN).2⟩ rfl rfl hl.1 rfl (lv_room (Nat.le_of_ble_eq_true rfl)) dX12_worst_59 ⟨Nat.le_of_ble_eq_true rfl, Nat.le_of_ble_eq_true rfl⟩) (fun r_27 u_26 H locs hw_28 hP hD hS => ?_)
                      replace hP : va_P D gcl (zS_15 cB cC cI cJ a0 a1 x1 x2 x3 x4 x5 x6 x7 x8 a2 a3 a4 a5 a6 a7 a8 a9 a10 a11 a12 a13 a14 a15 a16 x9 x10 x11 x12 x13 x14 a17 a18 a19 x15 a20 x16 a21 x17 x18 a22 a23 a24 a25 x19 a26 x20 a27 a28 a29 y0 a30 a31 a32 a33 a34 a35 a36 a37 a38 x21 x22 x23 y1 a39 x24 a40 a41 a42 a43 x25 x26 x27 x28 a27 f0 a18 f1) H := hP
                      replace hD : va_D A (zS_15 cB cC cI cJ a0 a1 x1 x2 x3 x4 x5 x6 x7 x8 a2 a3 a4 a5 a6 a7 a8 a9 a10 a11 a12 a13 a14 a15 a16 x9 x10 x11 x12 x13 x14 a17 a18 a19 x15 a20 x16 a21 x17 x18 a22 a23 a24 a25 x19 a26 x20 a27 a28 a29 y0 a30 a31 a32 a33 a34 a35 a36 a37 a38 x21 x22 x23 y1 a39 x24 a40 a41 a42 a43 x25 x26 x27 x28 a27 f0 a18 f1) := hD
                      have hw_29 : (r_27 = clF (prn f1 x_1.toInt x_13.toInt (x11.toInt).toNat) (prn f1 x_1.toInt x_1.toInt (x11.toInt).toNat) (prn f1 x_13.toInt x_13.toInt (x11.toInt).toNat)) := hw_28
                      have rr_27 : zBd r_27.toInt (-2147483648) 2147483647 := n_rng r_27
                      refine lv_istore (pc := 62) (lv' := [(6, .int r_27), (5, .int x_13), (4, .int x_1), (3, .int x_15), (2, .int x_17), (0, .ref a0), (1, .int x0)]) hx hb dX12_worst_62 hl (by decide) rfl (fun ls hl => ?_)
                      refine lv_iload (pc := 64) hx hb dX12_worst_64 (lv_at hl 0 rfl) ?_
                      refine lv_iload_n (pc := 66) hx hb dX12_worst_66 rfl (lv_at hl 3 rfl) ?_
                      refine b_icmp_gt (pc := 67) (tgt := 73) hx hb rfl rfl  dX12_worst_67 (by decide) (fun c_30 => ?_) (fun c_30 => ?_)
                      ·
                        as_aux_lemma =>
                          refine lv_bipush (pc := 73) (v := 100) hx hb dX12_worst_73 (by decide) ?_
                          refine lv_iload (pc := 75) hx hb dX12_worst_75 (lv_at hl 2 rfl) ?_
                          refine b_imul (pc := 77) hx hb tI_100 rfl (by first | exact (om_1031 hi_2.1) | ((first | omega | (unfold zBd at *; omega)))) (by first | exact (om_1032 hi_2.2) | ((first | omega | (unfold zBd at *; omega)))) dX12_worst_77 (fun x_31 ex_31 => ?_)
                          refine lv_iload (pc := 78) hx hb dX12_worst_78 (lv_at hl 1 rfl) ?_
                          refine b_iadd (pc := 80) hx hb rfl rfl (by first | exact (om_1033 ex_31 hi_14.1 hi_2.1) | ((first | omega | (unfold zBd at *; omega)))) (by first | exact (om_1034 ex_31 hi_19.1 hi_14.2) | ((first | omega | (unfold zBd at *; omega)))) dX12_worst_80 (fun x_32 ex_32 => ?_)
                          refine lv_istore_n (pc := 81) (lv' := [(2, .int x_32), (6, .int r_27), (5, .int x_13), (4, .int x_1), (3, .int x_15), (0, .ref a0), (1, .int x0)]) hx hb dX12_worst_81 rfl hl (by decide) rfl (fun ls hl => ?_)
                          refine lv_iload (pc := 82) hx hb dX12_worst_82 (lv_at hl 1 rfl) ?_
                          refine lv_istore_n (pc := 84) (lv' := [(3, .int r_27), (2, .int x_32), (6, .int r_27), (5, .int x_13), (4, .int x_1), (0, .ref a0), (1, .int x0)]) hx hb dX12_worst_84 rfl hl (by decide) rfl (fun ls hl => ?_)
                          refine b_iinc (pc := 85) hx hb dX12_worst_85 hl (k := 3) rfl rfl tI_1 (by first | exact (om_2 hi_14.1) | ((first | omega | (unfold zBd at *; omega)))) (by first | exact (om_357 hi_14.2) | ((first | omega | (unfold zBd at *; omega)))) (by decide) (fun x_33 ex_33 ls hl => ?_)
                          replace hl : lv_has ls 7 [(5, .int x_33), (3, .int r_27), (2, .int x_32), (6, .int r_27), (4, .int x_1), (0, .ref a0), (1, .int x0)] := hl
                          refine lv_goto (pc := 88) (tgt := 22) hx hb dX12_worst_88 (by decide) ?_
                          exact ih_lp_22 x_33 r_27 x_32 _ _ ls (by first | exact (om_1026 ex_33 hi_14.1 c_23 h_x10.2) | ((first | omega | (unfold zBd at *; omega)))) (by first | exact (om_1035 ex_32 ex_31 hi_14.1 hi_2.1 hi_19.1 hi_14.2) | ((first | omega | (unfold zBd at *; omega)))) (by first | exact (om_1028 ex_33 hi_19.1 c_23) | ((first | omega | (unfold zBd at *; omega)))) (fun hl => absurd hl (by first | exact (om_1537 c_25) | ((first | omega | (unfold zBd at *; omega))))) (fun hl => ws_yes (hi_21 hl) (by first | exact (om_0 hi_2.1) | ((first | omega | (unfold zBd at *; omega)))) (by first | exact (om_1029 hi_19.1) | ((first | omega | (unfold zBd at *; omega)))) (by first | exact (om_1029 c_23) | ((first | omega | (unfold zBd at *; omega)))) (by first | exact (om_372 h_x10.2) | ((first | omega | (unfold zBd at *; omega)))) (congrArg Int32.toInt hw_29) (by first | exact (om_1036 c_30) | ((first | omega | (unfold zBd at *; omega)))) (by first | exact (om_1037 ex_32 ex_31) | ((first | omega | (unfold zBd at *; omega)))) rfl (by first | exact (om_1030 ex_33) | ((first | omega | (unfold zBd at *; omega))))) (by (first | omega | (unfold zBd at *; omega))) hP hD hS (lv_sub hl [0, 4, 1, 2, 5, 6] rfl)
                      ·
                        as_aux_lemma =>
                          refine lv_goto (pc := 70) (tgt := 85) hx hb dX12_worst_70 (by decide) ?_
                          refine b_iinc (pc := 85) hx hb dX12_worst_85 hl (k := 1) rfl rfl tI_1 (by first | exact (om_2 hi_14.1) | ((first | omega | (unfold zBd at *; omega)))) (by first | exact (om_357 hi_14.2) | ((first | omega | (unfold zBd at *; omega)))) (by decide) (fun x_34 ex_34 ls hl => ?_)
                          replace hl : lv_has ls 7 [(5, .int x_34), (6, .int r_27), (4, .int x_1), (3, .int x_15), (2, .int x_17), (0, .ref a0), (1, .int x0)] := hl
                          refine lv_goto (pc := 88) (tgt := 22) hx hb dX12_worst_88 (by decide) ?_
                          exact ih_lp_22 x_34 x_15 x_17 _ _ ls (by first | exact (om_1026 ex_34 hi_14.1 c_23 h_x10.2) | ((first | omega | (unfold zBd at *; omega)))) hi_18 (by first | exact (om_1028 ex_34 hi_19.1 c_23) | ((first | omega | (unfold zBd at *; omega)))) (fun hl => absurd hl (by first | exact (om_1537 c_25) | ((first | omega | (unfold zBd at *; omega))))) (fun hl => ws_no (hi_21 hl) (by first | exact (om_0 hi_2.1) | ((first | omega | (unfold zBd at *; omega)))) (by first | exact (om_1029 hi_19.1) | ((first | omega | (unfold zBd at *; omega)))) (by first | exact (om_1029 c_23) | ((first | omega | (unfold zBd at *; omega)))) (by first | exact (om_372 h_x10.2) | ((first | omega | (unfold zBd at *; omega)))) (congrArg Int32.toInt hw_29) (by (first | omega | (unfold zBd at *; omega))) rfl (by first | exact (om_1030 ex_34) | ((first | omega | (unfold zBd at *; omega))))) (by (first | omega | (unfold zBd at *; omega))) hP hD hS (lv_sub hl [0, 2, 3, 4, 5, 6] rfl)
                  ·
                    as_aux_lemma =>
                      refine lv_aload_n (pc := 35) hx hb dX12_worst_35 rfl (lv_at hl 4 rfl) ?_
                      refine lv_iload (pc := 36) hx hb dX12_worst_36 (lv_at hl 1 rfl) ?_
                      refine lv_iload (pc := 38) hx hb dX12_worst_38 (lv_at hl 0 rfl) ?_
                      refine lv_aload_n (pc := 40) hx hb dX12_worst_40 rfl (lv_at hl 4 rfl) ?_
                      refine va_get (pc := 41) (ci := 12) (v := .ref a27) (C := RX12) (T := TX12) (N := 73) hx hb hts iX12 hown hK hP 0 rfl rfl 46 (by decide) (hts _ tw_1447) (fun _ h9 => h9) rfl dX12_worst_41 ?_
                      refine gd_i (pc := 44) (wc := (zS_51 cB cC cI cJ a0 a1 x1 x2 x3 x4 x5 x6 x7 x8 a2 a3 a4 a5 a6 a7 a8 a9 a10 a11 a12 a13 a14 a15 a16 x9 x10 x11 x12 x13 x14 a17 a18 a19 x15 a20 x16 a21 x17 x18 a22 a23 a24 a25 x19 a26 x20 a27 a28 a29 y0 a30 a31 a32 a33 a34 a35 a36 a37 a38 x21 x22 x23 y1 a39 x24 a40 a41 a42 a43 x25 x26 x27 x28 a27 f0)) hP hD hS hA [0, 1] rfl (by decide +kernel) (fun _ => by rfl) (fun hPc hDc => va_runV (As := [.int x_1, .int x_13, .ref a27]) (rest := []) ⟨hx, hb, hml, hown, hts⟩ (k_X12_clashOf_30_E l D cB cC cI cJ _ a0 a27 a1 a2 a3 a4 a5 a6 a7 a8 a9 a10 a11 a12 a13 a14 a15 a16 a17 a18 a19 a20 a21 a22 a23 a24 a25 a26 a27 a28 a29 a30 a31 a32 a33 a34 a35 a36 a37 a38 a39 a40 a41 a42 a43 x_1 x_13 x1 x2 x3 x4 x5 x6 x7 x8 x9 x10 x11 x12 x13 x14 x15 x16 x17 x18 x19 x20 x21 x22 x23 x24 x25 x26 x27 x28 y0 y1 f0 (by first | exact (om_360 hi_2.1 c_11 h_x10.2) | ((first | omega | (unfold zBd at *; omega)))) (by first | exact (om_360 hi_14.1 c_23 h_x10.2) | ((first | omega | (unfold zBd at *; omega)))) h_x1 h_x2 h_x3 h_x4 h_x5 h_x6 h_x9 h_x10 h_x11 h_x12 h_x13 h_x15 h_x16 h_x17 h_x19 h_x20 h_x21 h_x22 h_x23 h_x24 h_x25 h_x26 h_x27 h_x28 hr_a0_0 hr_a0_1 hr_a0_2) ⟨gcwB hts tw_1799 tw_14 tw_1796 hd_yX12_clashOf ⟨Nat.le_of_ble_eq_true rfl, Nat.le_of_ble_eq_true rfl⟩, hts _ tw_1798, hts _ tp_92⟩ ⟨gblind, va_recv hK hPc (ci := 12) (q0 := 0) rfl rfl, (gpreS hPc hK hDc hN).2⟩ rfl rfl hl.1 rfl (lv_room (Nat.le_of_ble_eq_true rfl)) dX12_worst_44 ⟨Nat.le_of_ble_eq_true rfl, Nat.le_of_ble_eq_true rfl⟩) (fun r_36 u_35 H locs hw_37 hP hD hS => ?_)
                      replace hP : va_P D gcl (zS_15 cB cC cI cJ a0 a1 x1 x2 x3 x4 x5 x6 x7 x8 a2 a3 a4 a5 a6 a7 a8 a9 a10 a11 a12 a13 a14 a15 a16 x9 x10 x11 x12 x13 x14 a17 a18 a19 x15 a20 x16 a21 x17 x18 a22 a23 a24 a25 x19 a26 x20 a27 a28 a29 y0 a30 a31 a32 a33 a34 a35 a36 a37 a38 x21 x22 x23 y1 a39 x24 a40 a41 a42 a43 x25 x26 x27 x28 a27 f0 a18 f1) H := hP
                      replace hD : va_D A (zS_15 cB cC cI cJ a0 a1 x1 x2 x3 x4 x5 x6 x7 x8 a2 a3 a4 a5 a6 a7 a8 a9 a10 a11 a12 a13 a14 a15 a16 x9 x10 x11 x12 x13 x14 a17 a18 a19 x15 a20 x16 a21 x17 x18 a22 a23 a24 a25 x19 a26 x20 a27 a28 a29 y0 a30 a31 a32 a33 a34 a35 a36 a37 a38 x21 x22 x23 y1 a39 x24 a40 a41 a42 a43 x25 x26 x27 x28 a27 f0 a18 f1) := hD
                      have hw_38 : (r_36 = clF (prn f0 x_1.toInt x_13.toInt (x11.toInt).toNat) (prn f0 x_1.toInt x_1.toInt (x11.toInt).toNat) (prn f0 x_13.toInt x_13.toInt (x11.toInt).toNat)) := hw_37
                      have rr_36 : zBd r_36.toInt (-2147483648) 2147483647 := n_rng r_36
                      refine lv_goto (pc := 47) (tgt := 62) hx hb dX12_worst_47 (by decide) ?_
                      refine lv_istore (pc := 62) (lv' := [(6, .int r_36), (5, .int x_13), (4, .int x_1), (3, .int x_15), (2, .int x_17), (0, .ref a0), (1, .int x0)]) hx hb dX12_worst_62 hl (by decide) rfl (fun ls hl => ?_)
                      refine lv_iload (pc := 64) hx hb dX12_worst_64 (lv_at hl 0 rfl) ?_
                      refine lv_iload_n (pc := 66) hx hb dX12_worst_66 rfl (lv_at hl 3 rfl) ?_
                      as_aux_lemma =>
                        refine b_icmp_gt (pc := 67) (tgt := 73) hx hb rfl rfl  dX12_worst_67 (by decide) (fun c_39 => ?_) (fun c_39 => ?_)
                        ·
                          as_aux_lemma =>
                            refine lv_bipush (pc := 73) (v := 100) hx hb dX12_worst_73 (by decide) ?_
                            refine lv_iload (pc := 75) hx hb dX12_worst_75 (lv_at hl 2 rfl) ?_
                            refine b_imul (pc := 77) hx hb tI_100 rfl (by first | exact (om_1031 hi_2.1) | ((first | omega | (unfold zBd at *; omega)))) (by first | exact (om_1032 hi_2.2) | ((first | omega | (unfold zBd at *; omega)))) dX12_worst_77 (fun x_40 ex_40 => ?_)
                            refine lv_iload (pc := 78) hx hb dX12_worst_78 (lv_at hl 1 rfl) ?_
                            refine b_iadd (pc := 80) hx hb rfl rfl (by first | exact (om_1033 ex_40 hi_14.1 hi_2.1) | ((first | omega | (unfold zBd at *; omega)))) (by first | exact (om_1034 ex_40 hi_19.1 hi_14.2) | ((first | omega | (unfold zBd at *; omega)))) dX12_worst_80 (fun x_41 ex_41 => ?_)
                            refine lv_istore_n (pc := 81) (lv' := [(2, .int x_41), (6, .int r_36), (5, .int x_13), (4, .int x_1), (3, .int x_15), (0, .ref a0), (1, .int x0)]) hx hb dX12_worst_81 rfl hl (by decide) rfl (fun ls hl => ?_)
                            refine lv_iload (pc := 82) hx hb dX12_worst_82 (lv_at hl 1 rfl) ?_
                            refine lv_istore_n (pc := 84) (lv' := [(3, .int r_36), (2, .int x_41), (6, .int r_36), (5, .int x_13), (4, .int x_1), (0, .ref a0), (1, .int x0)]) hx hb dX12_worst_84 rfl hl (by decide) rfl (fun ls hl => ?_)
                            refine b_iinc (pc := 85) hx hb dX12_worst_85 hl (k := 3) rfl rfl tI_1 (by first | exact (om_2 hi_14.1) | ((first | omega | (unfold zBd at *; omega)))) (by first | exact (om_357 hi_14.2) | ((first | omega | (unfold zBd at *; omega)))) (by decide) (fun x_42 ex_42 ls hl => ?_)
                            replace hl : lv_has ls 7 [(5, .int x_42), (3, .int r_36), (2, .int x_41), (6, .int r_36), (4, .int x_1), (0, .ref a0), (1, .int x0)] := hl
                            refine lv_goto (pc := 88) (tgt := 22) hx hb dX12_worst_88 (by decide) ?_
                            exact ih_lp_22 x_42 r_36 x_41 _ _ ls (by first | exact (om_1026 ex_42 hi_14.1 c_23 h_x10.2) | ((first | omega | (unfold zBd at *; omega)))) (by first | exact (om_1035 ex_41 ex_40 hi_14.1 hi_2.1 hi_19.1 hi_14.2) | ((first | omega | (unfold zBd at *; omega)))) (by first | exact (om_1028 ex_42 hi_19.1 c_23) | ((first | omega | (unfold zBd at *; omega)))) (fun hl => ws_yes (hi_20 hl) (by first | exact (om_0 hi_2.1) | ((first | omega | (unfold zBd at *; omega)))) (by first | exact (om_1029 hi_19.1) | ((first | omega | (unfold zBd at *; omega)))) (by first | exact (om_1029 c_23) | ((first | omega | (unfold zBd at *; omega)))) (by first | exact (om_372 h_x10.2) | ((first | omega | (unfold zBd at *; omega)))) (congrArg Int32.toInt hw_38) (by first | exact (om_1036 c_39) | ((first | omega | (unfold zBd at *; omega)))) (by first | exact (om_1037 ex_41 ex_40) | ((first | omega | (unfold zBd at *; omega)))) rfl (by first | exact (om_1030 ex_42) | ((first | omega | (unfold zBd at *; omega))))) (fun hl => absurd hl (by first | exact (om_34 c_25) | ((first | omega | (unfold zBd at *; omega))))) (by (first | omega | (unfold zBd at *; omega))) hP hD hS (lv_sub hl [0, 4, 1, 2, 5, 6] rfl)
                        ·
                          as_aux_lemma =>
                            refine lv_goto (pc := 70) (tgt := 85) hx hb dX12_worst_70 (by decide) ?_
                            refine b_iinc (pc := 85) hx hb dX12_worst_85 hl (k := 1) rfl rfl tI_1 (by first | exact (om_2 hi_14.1) | ((first | omega | (unfold zBd at *; omega)))) (by first | exact (om_357 hi_14.2) | ((first | omega | (unfold zBd at *; omega)))) (by decide) (fun x_43 ex_43 ls hl => ?_)
                            replace hl : lv_has ls 7 [(5, .int x_43), (6, .int r_36), (4, .int x_1), (3, .int x_15), (2, .int x_17), (0, .ref a0), (1, .int x0)] := hl
                            refine lv_goto (pc := 88) (tgt := 22) hx hb dX12_worst_88 (by decide) ?_
                            exact ih_lp_22 x_43 x_15 x_17 _ _ ls (by first | exact (om_1026 ex_43 hi_14.1 c_23 h_x10.2) | ((first | omega | (unfold zBd at *; omega)))) hi_18 (by first | exact (om_1028 ex_43 hi_19.1 c_23) | ((first | omega | (unfold zBd at *; omega)))) (fun hl => ws_no (hi_20 hl) (by first | exact (om_0 hi_2.1) | ((first | omega | (unfold zBd at *; omega)))) (by first | exact (om_1029 hi_19.1) | ((first | omega | (unfold zBd at *; omega)))) (by first | exact (om_1029 c_23) | ((first | omega | (unfold zBd at *; omega)))) (by first | exact (om_372 h_x10.2) | ((first | omega | (unfold zBd at *; omega)))) (congrArg Int32.toInt hw_38) (by (first | omega | (unfold zBd at *; omega))) rfl (by first | exact (om_1030 ex_43) | ((first | omega | (unfold zBd at *; omega))))) (fun hl => absurd hl (by first | exact (om_34 c_25) | ((first | omega | (unfold zBd at *; omega))))) (by (first | omega | (unfold zBd at *; omega))) hP hD hS (lv_sub hl [0, 2, 3, 4, 5, 6] rfl)
          exact lp_22 _ x_12 x_3 x_5 _ _ ls (by first | exact (om_1026 ex_12 hi_2.1 c_11 h_x10.2) | ((first | omega | (unfold zBd at *; omega)))) hi_6 (by have q := tI_0; (first | omega | (unfold zBd at *; omega))) (fun hl => ws_in (hi_8 hl) (by first | exact (om_0 hi_2.1) | ((first | omega | (unfold zBd at *; omega)))) (by first | exact (om_1038 c_11 h_x10.2) | ((first | omega | (unfold zBd at *; omega)))) rfl rfl (by first | exact (om_5 ex_12) | ((first | omega | (unfold zBd at *; omega))))) (fun hl => ws_in (hi_9 hl) (by first | exact (om_0 hi_2.1) | ((first | omega | (unfold zBd at *; omega)))) (by first | exact (om_1038 c_11 h_x10.2) | ((first | omega | (unfold zBd at *; omega)))) rfl rfl (by first | exact (om_5 ex_12) | ((first | omega | (unfold zBd at *; omega))))) (Nat.lt_succ_self _) hP hD hS (lv_sub hl [0, 1, 2, 3, 4, 5] rfl)
  exact lp_10 _ 0 (-1) (-1) _ _ ls (n_c tI_0 (by decide)) (n_c tI_m1 (by decide)) (by have q := tI_0; (first | omega | (unfold zBd at *; omega))) (fun _ => ws_0 tI_m1 tI_m1 (by first | exact (om_1039 tI_0) | (have q := tI_0; (first | omega | (unfold zBd at *; omega))))) (fun _ => ws_0 tI_m1 tI_m1 (by first | exact (om_1039 tI_0) | (have q := tI_0; (first | omega | (unfold zBd at *; omega))))) (Nat.lt_succ_self _) hP hD hS (lv_sub hl [0, 1, 2, 3, 4] rfl)
theorem om_1538 {a b c d : Int} (h0 : (a = 1)) (h1 : (b = d)) (h2 : (d = 2 * c)) : ((a = 1 ∧ b = 2 * c) ∨ (a = 0 ∧ ¬ b = 2 * c)) := by omega
theorem om_1539 {a b : Int} (h0 : (a = 2 * b)) (h1 : (0 ≤ b)) : (0 ≤ a) := by omega
theorem om_1540 {a b c : Int} (h0 : (a = 2 * b)) (h1 : (b < c)) (h2 : (c ≤ 6)) : (a < (1600 : Nat)) := by omega
theorem om_1541 {a : Int} (h0 : (0 ≤ a)) : (-2147483648 ≤ 256 * a) := by omega
theorem om_1542 {a : Int} (h0 : (a ≤ 255)) : (256 * a ≤ 2147483647) := by omega
theorem om_1543 {a b : Int} (h0 : (a = 2 * b)) (h1 : (0 ≤ b)) : (-2147483648 ≤ a + 1) := by omega
theorem om_1544 {a b c : Int} (h0 : (a = 2 * b)) (h1 : (b < c)) (h2 : (c ≤ 6)) : (a + 1 ≤ 2147483647) := by omega
theorem om_1545 {a b c : Int} (h0 : (a = b + 1)) (h1 : (b = 2 * c)) (h2 : (0 ≤ c)) : (0 ≤ a) := by omega
theorem om_1546 {a b c d : Int} (h0 : (a = b + 1)) (h1 : (b = 2 * c)) (h2 : (c < d)) (h3 : (d ≤ 6)) : (a < (1600 : Nat)) := by omega
theorem om_1547 {a b c : Int} (h0 : (0 ≤ b)) (h1 : (a = 256 * c)) (h2 : (0 ≤ c)) : (-2147483648 ≤ a + b) := by omega
theorem om_1548 {a b c : Int} (h0 : (b ≤ 255)) (h1 : (a = 256 * c)) (h2 : (c ≤ 255)) : (a + b ≤ 2147483647) := by omega
theorem om_1549 {a b c d : Int} (h0 : (a = b + c)) (h1 : (0 ≤ c)) (h2 : (b = 256 * d)) (h3 : (0 ≤ d)) : ((-1100000) ≤ a) := by omega
theorem om_1550 {a : Int} (h0 : (a ≤ 32767)) : (a ≤ 1100000) := by omega
theorem om_1551 {a : Int} (h0 : (a > 32767)) : (-2147483648 ≤ a - 65536) := by omega
theorem om_1552 {a b c d : Int} (h0 : (a = b + c)) (h1 : (c ≤ 255)) (h2 : (b = 256 * d)) (h3 : (d ≤ 255)) : (a - 65536 ≤ 2147483647) := by omega
theorem om_1553 {a b : Int} (h0 : (a = b - 65536)) (h1 : (b > 32767)) : ((-1100000) ≤ a) := by omega
theorem om_1554 {a b c d e : Int} (h0 : (a = b - 65536)) (h1 : (b = c + d)) (h2 : (d ≤ 255)) (h3 : (c = 256 * e)) (h4 : (e ≤ 255)) : (a ≤ 1100000) := by omega
theorem om_1555 {a b c d : Int} (h0 : (a = 0)) (h1 : (¬ b = d)) (h2 : (d = 2 * c)) : ((a = 1 ∧ b = 2 * c) ∨ (a = 0 ∧ ¬ b = 2 * c)) := by omega
set_option maxHeartbeats 4000000 in
set_option maxRecDepth 100000 in
theorem k_X12_hear (l : Launch) (D : va_G) (cB cC cI cJ : ClassId) (sz : Nat) (a0 a1 a2 a3 a4 a5 a6 a7 a8 a9 a10 a11 a12 a13 a14 a15 a16 a17 a18 a19 a20 a21 a22 a23 a24 a25 a26 a27 a28 a29 a30 a31 a32 a33 a34 a35 a36 a37 a38 a39 a40 a41 a42 a43 : Nat) (x0 x1 x2 x3 x4 x5 x6 x7 x8 x9 x10 x11 x12 x13 x14 x15 x16 x17 x18 x19 x20 x21 x22 x23 x24 x25 x26 x27 : Int32) (y0 y1 : Int64) (f0 f1 : Nat → Int32) (h_x0 : zBd x0.toInt 0 1600) (h_x1 : zBd x1.toInt 0 1600) (h_x2 : zBd x2.toInt 0 1600) (h_x3 : zBd x3.toInt (-1) 1600) (h_x4 : zBd x4.toInt 0 4) (h_x5 : zBd x5.toInt (-1) 1600) (h_x8 : zBd x8.toInt 0 8) (h_x9 : zBd x9.toInt 0 5) (h_x10 : zBd x10.toInt 0 6) (h_x11 : zBd x11.toInt 0 6) (h_x12 : zBd x12.toInt 0 16) (h_x14 : zBd x14.toInt 0 60) (h_x15 : zBd x15.toInt 0 1600) (h_x16 : zBd x16.toInt 0 1700) (h_x18 : zBd x18.toInt 0 1700) (h_x19 : zBd x19.toInt 0 1700) (h_x20 : zBd x20.toInt 0 200) (h_x21 : zBd x21.toInt 0 40) (h_x22 : zBd x22.toInt 0 40) (h_x23 : zBd x23.toInt 0 1) (h_x24 : zBd x24.toInt 0 14) (h_x25 : zBd x25.toInt 0 200) (h_x26 : zBd x26.toInt 0 40) (h_x27 : zBd x27.toInt 0 40) (hr_a0_0 : (x21.toInt ≤ x20.toInt)) (hr_a0_1 : (x20.toInt + x22.toInt ≤ 200)) (hr_a0_2 : (x9.toInt = 0 ∨ 2 ≤ x8.toInt)) (hf_f0 : (∀ j, 0 ≤ (f0 j).toInt ∧ (f0 j).toInt ≤ 255)) (hf_f1 : (∀ j, (-1100000) ≤ (f1 j).toInt ∧ (f1 j).toInt ≤ 1100000)) : Met l yX12_hear (.code yX12_hear cX12_hear 4 (some .boolean) :: lw_gd) ({ frames := 0, cells := 0, slots := 0, locals := 0 }) (gPre D [(cB, .byte), (cC, .char), (cI, .int), (cJ, .long)] [.ref a0] (zS_121 cB cC cI cJ a0 a1 x0 x1 x2 x3 x4 x5 x6 x7 a2 a3 a4 a5 a6 a7 a8 a9 a10 a11 a12 a13 a14 a15 a16 x8 x9 x10 x11 x12 x13 a17 a18 a19 x14 a20 x15 a21 x16 x17 a22 a23 a24 a25 x18 a26 x19 a27 a28 a29 y0 a30 a31 a32 a33 a34 a35 a36 a37 a38 x20 x21 x22 y1 a39 x23 a40 a41 a42 a43 x24 x25 x26 x27 a1 f0 a28 f1) sz) (va_Qi (fun r u => (0 ≤ r.toInt ∧ r.toInt ≤ 1) ∧ (∀ j, (-1100000) ≤ ((u.2.1 0) j).toInt ∧ ((u.2.1 0) j).toInt ≤ 1100000) ∧ ((r.toInt = 1 ∧ x0.toInt = 2 * x10.toInt) ∨ (r.toInt = 0 ∧ ¬ x0.toInt = 2 * x10.toInt)) ∧ ((0 : Int32).toInt = 0)) (gB D (va_A (zS_121 cB cC cI cJ a0 a1 x0 x1 x2 x3 x4 x5 x6 x7 a2 a3 a4 a5 a6 a7 a8 a9 a10 a11 a12 a13 a14 a15 a16 x8 x9 x10 x11 x12 x13 a17 a18 a19 x14 a20 x15 a21 x16 x17 a22 a23 a24 a25 x18 a26 x19 a27 a28 a29 y0 a30 a31 a32 a33 a34 a35 a36 a37 a38 x20 x21 x22 y1 a39 x23 a40 a41 a42 a43 x24 x25 x26 x27 a1 f0 a28 f1) sz) (fun u : gEx => (zS_121 cB cC cI cJ a0 a1 0 x1 x2 x3 x4 x5 x6 x7 a2 a3 a4 a5 a6 a7 a8 a9 a10 a11 a12 a13 a14 a15 a16 x8 x9 x10 x11 x12 x13 a17 a18 a19 x14 a20 x15 a21 x16 x17 a22 a23 a24 a25 x18 a26 x19 a27 a28 a29 y0 a30 a31 a32 a33 a34 a35 a36 a37 a38 x20 x21 x22 y1 a39 x23 a40 a41 a42 a43 x24 x25 x26 x27 a1 f0 a28 (u.2.1 0)))) (va_A (zS_121 cB cC cI cJ a0 a1 x0 x1 x2 x3 x4 x5 x6 x7 a2 a3 a4 a5 a6 a7 a8 a9 a10 a11 a12 a13 a14 a15 a16 x8 x9 x10 x11 x12 x13 a17 a18 a19 x14 a20 x15 a21 x16 x17 a22 a23 a24 a25 x18 a26 x19 a27 a28 a29 y0 a30 a31 a32 a33 a34 a35 a36 a37 a38 x20 x21 x22 y1 a39 x23 a40 a41 a42 a43 x24 x25 x26 x27 a1 f0 a28 f1) sz)) 0 0 (va_A (zS_121 cB cC cI cJ a0 a1 x0 x1 x2 x3 x4 x5 x6 x7 a2 a3 a4 a5 a6 a7 a8 a9 a10 a11 a12 a13 a14 a15 a16 x8 x9 x10 x11 x12 x13 a17 a18 a19 x14 a20 x15 a21 x16 x17 a22 a23 a24 a25 x18 a26 x19 a27 a28 a29 y0 a30 a31 a32 a33 a34 a35 a36 a37 a38 x20 x21 x22 y1 a39 x23 a40 a41 a42 a43 x24 x25 x26 x27 a1 f0 a28 f1) sz) := by
  refine gOf_z (by decide +kernel) (Nat.le_of_ble_eq_true rfl) ?_
  intro p e s m args below meth c ls A Q hx hb hts hown hml hN hK hP hD hA hl hret
  replace hown : s.vm.findClass RX12 = some m.cls := hown
  have hS : va_S A s.heap s.heap [] := va_S.rf
  replace hP : va_P D gcl (zS_121 cB cC cI cJ a0 a1 x0 x1 x2 x3 x4 x5 x6 x7 a2 a3 a4 a5 a6 a7 a8 a9 a10 a11 a12 a13 a14 a15 a16 x8 x9 x10 x11 x12 x13 a17 a18 a19 x14 a20 x15 a21 x16 x17 a22 a23 a24 a25 x18 a26 x19 a27 a28 a29 y0 a30 a31 a32 a33 a34 a35 a36 a37 a38 x20 x21 x22 y1 a39 x23 a40 a41 a42 a43 x24 x25 x26 x27 a1 f0 a28 f1) s.heap := hP
  replace hl : lv_has ls 4 [(0, .ref a0)] := hl
  have rx6 : zBd x6.toInt (-2147483648) 2147483647 := n_rng x6
  have rx7 : zBd x7.toInt (-2147483648) 2147483647 := n_rng x7
  have rx13 : zBd x13.toInt (-2147483648) 2147483647 := n_rng x13
  have rx17 : zBd x17.toInt (-2147483648) 2147483647 := n_rng x17
  have ry0 := n_rngL y0
  have ry1 := n_rngL y1
  refine lv_aload_n (pc := 0) hx hb dX12_hear_0 rfl (lv_at hl 0 rfl) ?_
  refine va_get (pc := 1) (ci := 12) (v := .int x0) (C := RX12) (T := TX12) (N := 73) hx hb hts iX12 hown hK hP 0 rfl rfl 1 (by decide) (hts _ tw_1402) (fun _ h9 => h9) rfl dX12_hear_1 ?_
  have bd_h_x0 : 0 ≤ x0.toInt ∧ x0.toInt ≤ 1600 := h_x0
  refine lv_istore_n (pc := 4) (lv' := [(1, .int x0), (0, .ref a0)]) hx hb dX12_hear_4 rfl hl (by decide) rfl (fun ls hl => ?_)
  refine lv_aload_n (pc := 5) hx hb dX12_hear_5 rfl (lv_at hl 1 rfl) ?_
  refine lv_iconst (pc := 6) (v := 0) hx hb dX12_hear_6 (by decide) ?_
  refine va_put (pc := 7) (ci := 12) (v := .int 0) (ty := .int) (C := RX12) (T := TX12) (N := 73) hx hb hts iX12 tyX12 tyX12_ok nmX12 hown hK hP hD hS 0 rfl rfl 1 (by decide) (hts _ tw_1402) (fun _ h9 => h9) rfl (by decide +kernel) (by decide +kernel) (by decide +kernel) (Nat.le_of_ble_eq_true rfl) dX12_hear_7 (fun H locs hP hD hS => ?_)
  replace hP : va_P D gcl (zS_121 cB cC cI cJ a0 a1 0 x1 x2 x3 x4 x5 x6 x7 a2 a3 a4 a5 a6 a7 a8 a9 a10 a11 a12 a13 a14 a15 a16 x8 x9 x10 x11 x12 x13 a17 a18 a19 x14 a20 x15 a21 x16 x17 a22 a23 a24 a25 x18 a26 x19 a27 a28 a29 y0 a30 a31 a32 a33 a34 a35 a36 a37 a38 x20 x21 x22 y1 a39 x23 a40 a41 a42 a43 x24 x25 x26 x27 a1 f0 a28 f1) H := hP
  replace hD : va_D A (zS_121 cB cC cI cJ a0 a1 0 x1 x2 x3 x4 x5 x6 x7 a2 a3 a4 a5 a6 a7 a8 a9 a10 a11 a12 a13 a14 a15 a16 x8 x9 x10 x11 x12 x13 a17 a18 a19 x14 a20 x15 a21 x16 x17 a22 a23 a24 a25 x18 a26 x19 a27 a28 a29 y0 a30 a31 a32 a33 a34 a35 a36 a37 a38 x20 x21 x22 y1 a39 x23 a40 a41 a42 a43 x24 x25 x26 x27 a1 f0 a28 f1) := hD
  refine lv_iload_n (pc := 10) hx hb dX12_hear_10 rfl (lv_at hl 0 rfl) ?_
  refine lv_iconst (pc := 11) (v := 2) hx hb dX12_hear_11 (by decide) ?_
  refine lv_aload_n (pc := 12) hx hb dX12_hear_12 rfl (lv_at hl 1 rfl) ?_
  as_aux_lemma =>
    refine va_get (pc := 13) (ci := 12) (v := .int x10) (C := RX12) (T := TX12) (N := 73) hx hb hts iX12 hown hK hP 0 rfl rfl 26 (by decide) (hts _ tw_1427) (fun _ h9 => h9) rfl dX12_hear_13 ?_
    have bd_h_x10 : 0 ≤ x10.toInt ∧ x10.toInt ≤ 6 := h_x10
    refine b_imul (pc := 16) hx hb tI_2 rfl (by first | exact (om_1336 h_x10.1) | ((first | omega | (unfold zBd at *; omega)))) (by first | exact (om_1339 h_x10.2) | ((first | omega | (unfold zBd at *; omega)))) dX12_hear_16 (fun x_1 ex_1 => ?_)
    refine b_icmp_eq (pc := 17) (tgt := 22) hx hb rfl rfl  dX12_hear_17 (by decide) (fun c_2 => ?_) (fun c_2 => ?_)
    ·
      as_aux_lemma =>
        refine lv_iconst (pc := 22) (v := 0) hx hb dX12_hear_22 (by decide) ?_
        refine lv_istore_n (pc := 23) (lv' := [(2, .int 0), (1, .int x0), (0, .ref a0)]) hx hb dX12_hear_23 rfl hl (by decide) rfl (fun ls hl => ?_)
        have lp_7 : ∀ (n : Nat) (x_3 : Int32) (f_5 : Nat → Int32) (H : Heap) (locs : List Loc) (ls : Array Slot), (0 ≤ x_3.toInt ∧ x_3.toInt ≤ 2147483647) → (∀ j, (-1100000) ≤ (f_5 j).toInt ∧ (f_5 j).toInt ≤ 1100000) → (2147483647 - x_3.toInt).toNat < n → va_P D gcl (zS_121 cB cC cI cJ a0 a1 0 x1 x2 x3 x4 x5 x6 x7 a2 a3 a4 a5 a6 a7 a8 a9 a10 a11 a12 a13 a14 a15 a16 x8 x9 x10 x11 x12 x13 a17 a18 a19 x14 a20 x15 a21 x16 x17 a22 a23 a24 a25 x18 a26 x19 a27 a28 a29 y0 a30 a31 a32 a33 a34 a35 a36 a37 a38 x20 x21 x22 y1 a39 x23 a40 a41 a42 a43 x24 x25 x26 x27 a1 f0 a28 f_5) H → va_D A (zS_121 cB cC cI cJ a0 a1 0 x1 x2 x3 x4 x5 x6 x7 a2 a3 a4 a5 a6 a7 a8 a9 a10 a11 a12 a13 a14 a15 a16 x8 x9 x10 x11 x12 x13 a17 a18 a19 x14 a20 x15 a21 x16 x17 a22 a23 a24 a25 x18 a26 x19 a27 a28 a29 y0 a30 a31 a32 a33 a34 a35 a36 a37 a38 x20 x21 x22 y1 a39 x23 a40 a41 a42 a43 x24 x25 x26 x27 a1 f0 a28 f_5) → va_S A s.heap H locs → lv_has ls 4 [(2, .int x_3), (1, .int x0), (0, .ref a0)] → W p l e ({ frames := 0, cells := 0, slots := 0, locals := 0 }) s m args below meth c H locs 0 0 Q (F0 m 24 ls []) := by
          intro n
          induction n with
          | zero => intro x_3 f_5 H locs ls hi_4 hi_6 hmu; exact absurd hmu (Nat.not_lt_zero _)
          | succ n ih_lp_7 =>
            intro x_3 f_5 H locs ls hi_4 hi_6 hmu_lp_7 hP hD hS hl
            refine lv_iload_n (pc := 24) hx hb dX12_hear_24 rfl (lv_at hl 0 rfl) ?_
            refine lv_aload_n (pc := 25) hx hb dX12_hear_25 rfl (lv_at hl 2 rfl) ?_
            refine va_get (pc := 26) (ci := 12) (v := .int x10) (C := RX12) (T := TX12) (N := 73) hx hb hts iX12 hown hK hP 0 rfl rfl 26 (by decide) (hts _ tw_1427) (fun _ h9 => h9) rfl dX12_hear_26 ?_
            refine b_icmp_ge (pc := 29) (tgt := 84) hx hb rfl rfl  dX12_hear_29 (by decide) (fun c_8 => ?_) (fun c_8 => ?_)
            ·
              as_aux_lemma =>
                refine lv_iconst (pc := 84) (v := 1) hx hb dX12_hear_84 (by decide) ?_
                have hP9 : va_P D gcl (zS_121 cB cC cI cJ a0 a1 0 x1 x2 x3 x4 x5 x6 x7 a2 a3 a4 a5 a6 a7 a8 a9 a10 a11 a12 a13 a14 a15 a16 x8 x9 x10 x11 x12 x13 a17 a18 a19 x14 a20 x15 a21 x16 x17 a22 a23 a24 a25 x18 a26 x19 a27 a28 a29 y0 a30 a31 a32 a33 a34 a35 a36 a37 a38 x20 x21 x22 y1 a39 x23 a40 a41 a42 a43 x24 x25 x26 x27 a1 f0 a28 f_5) H := g_psub hP [0, 1, 2] rfl
                have hD9 : va_D A (zS_121 cB cC cI cJ a0 a1 0 x1 x2 x3 x4 x5 x6 x7 a2 a3 a4 a5 a6 a7 a8 a9 a10 a11 a12 a13 a14 a15 a16 x8 x9 x10 x11 x12 x13 a17 a18 a19 x14 a20 x15 a21 x16 x17 a22 a23 a24 a25 x18 a26 x19 a27 a28 a29 y0 a30 a31 a32 a33 a34 a35 a36 a37 a38 x20 x21 x22 y1 a39 x23 a40 a41 a42 a43 x24 x25 x26 x27 a1 f0 a28 f_5) := hD.sub [0, 1, 2] (by decide) rfl
                have k9 := tI_1
                have k8_0 := tI_0
                exact hret 1 ((fun _ => 0), (fun k => [f_5].getD k (fun _ => 0)), (fun _ => (fun _ => 0)), (fun _ => 0), (fun _ => 0)) dX12_hear_85 ⟨(Or.inr tI_1), ⟨(show (0 ≤ (1 : Int32).toInt ∧ (1 : Int32).toInt ≤ 1) from (n_c tI_1 (by decide))), hi_6, (show ((1 : Int32).toInt = 1 ∧ x0.toInt = 2 * x10.toInt) ∨ ((1 : Int32).toInt = 0 ∧ ¬ x0.toInt = 2 * x10.toInt) from (by first | exact (om_1538 tI_1 c_2 ex_1) | (have k9 := tI_1; have k8_0 := tI_0; (first | omega | (unfold zBd at *; omega))))), (show (0 : Int32).toInt = 0 from (by first | exact (om_31 tI_0) | (have k9 := tI_1; have k8_0 := tI_0; (first | omega | (unfold zBd at *; omega)))))⟩⟩ hP9 hD9 hS
            ·
              as_aux_lemma =>
                refine lv_sipush (pc := 32) (v := 256) hx hb dX12_hear_32 (by decide) ?_
                refine lv_aload_n (pc := 35) hx hb dX12_hear_35 rfl (lv_at hl 2 rfl) ?_
                refine va_get (pc := 36) (ci := 12) (v := .ref a1) (C := RX12) (T := TX12) (N := 73) hx hb hts iX12 hown hK hP 0 rfl rfl 0 (by decide) (hts _ tw_1401) (fun _ h9 => h9) rfl dX12_hear_36 ?_
                refine lv_iconst (pc := 39) (v := 2) hx hb dX12_hear_39 (by decide) ?_
                refine lv_iload_n (pc := 40) hx hb dX12_hear_40 rfl (lv_at hl 0 rfl) ?_
                refine b_imul (pc := 41) hx hb tI_2 rfl (by first | exact (om_1336 hi_4.1) | ((first | omega | (unfold zBd at *; omega)))) (by first | exact (om_1337 c_8 h_x10.2) | ((first | omega | (unfold zBd at *; omega)))) dX12_hear_41 (fun x_9 ex_9 => ?_)
                refine va_iald (pc := 42) hx hb hK hP 1 2 rfl rfl (n_in rfl (by first | exact (om_1539 ex_9 hi_4.1) | ((first | omega | (unfold zBd at *; omega)))) (by first | exact (om_1540 ex_9 c_8 h_x10.2) | ((first | omega | (unfold zBd at *; omega))))) dX12_hear_42 ?_
                refine lv_topi (fun x_10 ex_10 => ?_)
                have rx_10 : (0 ≤ x_10.toInt ∧ x_10.toInt ≤ 255) := by rw [ex_10]; exact hf_f0 _
                refine b_imul (pc := 43) hx hb tI_256 rfl (by first | exact (om_1541 rx_10.1) | ((first | omega | (unfold zBd at *; omega)))) (by first | exact (om_1542 rx_10.2) | ((first | omega | (unfold zBd at *; omega)))) dX12_hear_43 (fun x_11 ex_11 => ?_)
                refine lv_aload_n (pc := 44) hx hb dX12_hear_44 rfl (lv_at hl 2 rfl) ?_
                as_aux_lemma =>
                  refine va_get (pc := 45) (ci := 12) (v := .ref a1) (C := RX12) (T := TX12) (N := 73) hx hb hts iX12 hown hK hP 0 rfl rfl 0 (by decide) (hts _ tw_1401) (fun _ h9 => h9) rfl dX12_hear_45 ?_
                  refine lv_iconst (pc := 48) (v := 2) hx hb dX12_hear_48 (by decide) ?_
                  refine lv_iload_n (pc := 49) hx hb dX12_hear_49 rfl (lv_at hl 0 rfl) ?_
                  refine b_imul (pc := 50) hx hb tI_2 rfl (by first | exact (om_1336 hi_4.1) | ((first | omega | (unfold zBd at *; omega)))) (by first | exact (om_1337 c_8 h_x10.2) | ((first | omega | (unfold zBd at *; omega)))) dX12_hear_50 (fun x_12 ex_12 => ?_)
                  refine lv_iconst (pc := 51) (v := 1) hx hb dX12_hear_51 (by decide) ?_
                  refine b_iadd (pc := 52) hx hb rfl tI_1 (by first | exact (om_1543 ex_12 hi_4.1) | ((first | omega | (unfold zBd at *; omega)))) (by first | exact (om_1544 ex_12 c_8 h_x10.2) | ((first | omega | (unfold zBd at *; omega)))) dX12_hear_52 (fun x_13 ex_13 => ?_)
                  refine va_iald (pc := 53) hx hb hK hP 1 2 rfl rfl (n_in rfl (by first | exact (om_1545 ex_13 ex_12 hi_4.1) | ((first | omega | (unfold zBd at *; omega)))) (by first | exact (om_1546 ex_13 ex_12 c_8 h_x10.2) | ((first | omega | (unfold zBd at *; omega))))) dX12_hear_53 ?_
                  refine lv_topi (fun x_14 ex_14 => ?_)
                  have rx_14 : (0 ≤ x_14.toInt ∧ x_14.toInt ≤ 255) := by rw [ex_14]; exact hf_f0 _
                  refine b_iadd (pc := 54) hx hb rfl rfl (by first | exact (om_1547 rx_14.1 ex_11 rx_10.1) | ((first | omega | (unfold zBd at *; omega)))) (by first | exact (om_1548 rx_14.2 ex_11 rx_10.2) | ((first | omega | (unfold zBd at *; omega)))) dX12_hear_54 (fun x_15 ex_15 => ?_)
                  refine lv_istore_n (pc := 55) (lv' := [(3, .int x_15), (2, .int x_3), (1, .int x0), (0, .ref a0)]) hx hb dX12_hear_55 rfl hl (by decide) rfl (fun ls hl => ?_)
                  as_aux_lemma =>
                    refine lv_aload_n (pc := 56) hx hb dX12_hear_56 rfl (lv_at hl 3 rfl) ?_
                    refine va_get (pc := 57) (ci := 12) (v := .ref a28) (C := RX12) (T := TX12) (N := 73) hx hb hts iX12 hown hK hP 0 rfl rfl 47 (by decide) (hts _ tw_1448) (fun _ h9 => h9) rfl dX12_hear_57 ?_
                    refine lv_iload_n (pc := 60) hx hb dX12_hear_60 rfl (lv_at hl 1 rfl) ?_
                    refine lv_iload_n (pc := 61) hx hb dX12_hear_61 rfl (lv_at hl 0 rfl) ?_
                    refine lv_sipush (pc := 62) (v := 32767) hx hb dX12_hear_62 (by decide) ?_
                    refine b_icmp_le (pc := 65) (tgt := 76) hx hb rfl tI_32767  dX12_hear_65 (by decide) (fun c_16 => ?_) (fun c_16 => ?_)
                    ·
                      as_aux_lemma =>
                        refine lv_iload_n (pc := 76) hx hb dX12_hear_76 rfl (lv_at hl 0 rfl) ?_
                        refine h_iastore (pc := 77) hx hb hK hP hD hS 2 2 rfl rfl (n_in rfl (by first | exact (om_0 hi_4.1) | ((first | omega | (unfold zBd at *; omega)))) (by first | exact (om_1082 c_8 h_x10.2) | ((first | omega | (unfold zBd at *; omega))))) dX12_hear_77 hi_6 (by first | exact (om_1549 ex_15 rx_14.1 ex_11 rx_10.1) | ((first | omega | (unfold zBd at *; omega)))) (by first | exact (om_1550 c_16) | ((first | omega | (unfold zBd at *; omega)))) (fun f_17 hf_17 H locs hP hD hS => ?_)
                        replace hP : va_P D gcl (zS_121 cB cC cI cJ a0 a1 0 x1 x2 x3 x4 x5 x6 x7 a2 a3 a4 a5 a6 a7 a8 a9 a10 a11 a12 a13 a14 a15 a16 x8 x9 x10 x11 x12 x13 a17 a18 a19 x14 a20 x15 a21 x16 x17 a22 a23 a24 a25 x18 a26 x19 a27 a28 a29 y0 a30 a31 a32 a33 a34 a35 a36 a37 a38 x20 x21 x22 y1 a39 x23 a40 a41 a42 a43 x24 x25 x26 x27 a1 f0 a28 f_17) H := hP
                        replace hD : va_D A (zS_121 cB cC cI cJ a0 a1 0 x1 x2 x3 x4 x5 x6 x7 a2 a3 a4 a5 a6 a7 a8 a9 a10 a11 a12 a13 a14 a15 a16 x8 x9 x10 x11 x12 x13 a17 a18 a19 x14 a20 x15 a21 x16 x17 a22 a23 a24 a25 x18 a26 x19 a27 a28 a29 y0 a30 a31 a32 a33 a34 a35 a36 a37 a38 x20 x21 x22 y1 a39 x23 a40 a41 a42 a43 x24 x25 x26 x27 a1 f0 a28 f_17) := hD
                        refine b_iinc (pc := 78) hx hb dX12_hear_78 hl (k := 1) rfl rfl tI_1 (by first | exact (om_2 hi_4.1) | ((first | omega | (unfold zBd at *; omega)))) (by first | exact (om_1084 c_8 h_x10.2) | ((first | omega | (unfold zBd at *; omega)))) (by decide) (fun x_18 ex_18 ls hl => ?_)
                        replace hl : lv_has ls 4 [(2, .int x_18), (3, .int x_15), (1, .int x0), (0, .ref a0)] := hl
                        refine lv_goto (pc := 81) (tgt := 24) hx hb dX12_hear_81 (by decide) ?_
                        exact ih_lp_7 x_18 f_17 _ _ ls (by first | exact (om_1085 ex_18 hi_4.1 c_8 h_x10.2) | ((first | omega | (unfold zBd at *; omega)))) hf_17 (by (first | omega | (unfold zBd at *; omega))) hP hD hS (lv_sub hl [0, 2, 3] rfl)
                    ·
                      as_aux_lemma =>
                        refine lv_iload_n (pc := 68) hx hb dX12_hear_68 rfl (lv_at hl 0 rfl) ?_
                        refine lv_ldcw (pc := 69) hx hb hown (hts _ tw_1809) dX12_hear_69 ?_
                        refine b_isub (pc := 72) hx hb rfl tI_65536 (by first | exact (om_1551 c_16) | ((first | omega | (unfold zBd at *; omega)))) (by first | exact (om_1552 ex_15 rx_14.2 ex_11 rx_10.2) | ((first | omega | (unfold zBd at *; omega)))) dX12_hear_72 (fun x_19 ex_19 => ?_)
                        refine lv_goto (pc := 73) (tgt := 77) hx hb dX12_hear_73 (by decide) ?_
                        refine h_iastore (pc := 77) hx hb hK hP hD hS 2 2 rfl rfl (n_in rfl (by first | exact (om_0 hi_4.1) | ((first | omega | (unfold zBd at *; omega)))) (by first | exact (om_1082 c_8 h_x10.2) | ((first | omega | (unfold zBd at *; omega))))) dX12_hear_77 hi_6 (by first | exact (om_1553 ex_19 c_16) | ((first | omega | (unfold zBd at *; omega)))) (by first | exact (om_1554 ex_19 ex_15 rx_14.2 ex_11 rx_10.2) | ((first | omega | (unfold zBd at *; omega)))) (fun f_20 hf_20 H locs hP hD hS => ?_)
                        replace hP : va_P D gcl (zS_121 cB cC cI cJ a0 a1 0 x1 x2 x3 x4 x5 x6 x7 a2 a3 a4 a5 a6 a7 a8 a9 a10 a11 a12 a13 a14 a15 a16 x8 x9 x10 x11 x12 x13 a17 a18 a19 x14 a20 x15 a21 x16 x17 a22 a23 a24 a25 x18 a26 x19 a27 a28 a29 y0 a30 a31 a32 a33 a34 a35 a36 a37 a38 x20 x21 x22 y1 a39 x23 a40 a41 a42 a43 x24 x25 x26 x27 a1 f0 a28 f_20) H := hP
                        replace hD : va_D A (zS_121 cB cC cI cJ a0 a1 0 x1 x2 x3 x4 x5 x6 x7 a2 a3 a4 a5 a6 a7 a8 a9 a10 a11 a12 a13 a14 a15 a16 x8 x9 x10 x11 x12 x13 a17 a18 a19 x14 a20 x15 a21 x16 x17 a22 a23 a24 a25 x18 a26 x19 a27 a28 a29 y0 a30 a31 a32 a33 a34 a35 a36 a37 a38 x20 x21 x22 y1 a39 x23 a40 a41 a42 a43 x24 x25 x26 x27 a1 f0 a28 f_20) := hD
                        refine b_iinc (pc := 78) hx hb dX12_hear_78 hl (k := 1) rfl rfl tI_1 (by first | exact (om_2 hi_4.1) | ((first | omega | (unfold zBd at *; omega)))) (by first | exact (om_1084 c_8 h_x10.2) | ((first | omega | (unfold zBd at *; omega)))) (by decide) (fun x_21 ex_21 ls hl => ?_)
                        replace hl : lv_has ls 4 [(2, .int x_21), (3, .int x_15), (1, .int x0), (0, .ref a0)] := hl
                        refine lv_goto (pc := 81) (tgt := 24) hx hb dX12_hear_81 (by decide) ?_
                        exact ih_lp_7 x_21 f_20 _ _ ls (by first | exact (om_1085 ex_21 hi_4.1 c_8 h_x10.2) | ((first | omega | (unfold zBd at *; omega)))) hf_20 (by (first | omega | (unfold zBd at *; omega))) hP hD hS (lv_sub hl [0, 2, 3] rfl)
        exact lp_7 _ 0 f1 _ _ ls (n_c tI_0 (by decide)) hf_f1 (Nat.lt_succ_self _) hP hD hS (lv_sub hl [0, 1, 2] rfl)
    ·
      as_aux_lemma =>
        refine lv_iconst (pc := 20) (v := 0) hx hb dX12_hear_20 (by decide) ?_
        have hP9 : va_P D gcl (zS_121 cB cC cI cJ a0 a1 0 x1 x2 x3 x4 x5 x6 x7 a2 a3 a4 a5 a6 a7 a8 a9 a10 a11 a12 a13 a14 a15 a16 x8 x9 x10 x11 x12 x13 a17 a18 a19 x14 a20 x15 a21 x16 x17 a22 a23 a24 a25 x18 a26 x19 a27 a28 a29 y0 a30 a31 a32 a33 a34 a35 a36 a37 a38 x20 x21 x22 y1 a39 x23 a40 a41 a42 a43 x24 x25 x26 x27 a1 f0 a28 f1) H := g_psub hP [0, 1, 2] rfl
        have hD9 : va_D A (zS_121 cB cC cI cJ a0 a1 0 x1 x2 x3 x4 x5 x6 x7 a2 a3 a4 a5 a6 a7 a8 a9 a10 a11 a12 a13 a14 a15 a16 x8 x9 x10 x11 x12 x13 a17 a18 a19 x14 a20 x15 a21 x16 x17 a22 a23 a24 a25 x18 a26 x19 a27 a28 a29 y0 a30 a31 a32 a33 a34 a35 a36 a37 a38 x20 x21 x22 y1 a39 x23 a40 a41 a42 a43 x24 x25 x26 x27 a1 f0 a28 f1) := hD.sub [0, 1, 2] (by decide) rfl
        have k9 := tI_0
        have k8_0 := tI_0
        exact hret 0 ((fun _ => 0), (fun k => [f1].getD k (fun _ => 0)), (fun _ => (fun _ => 0)), (fun _ => 0), (fun _ => 0)) dX12_hear_21 ⟨(Or.inl tI_0), ⟨(show (0 ≤ (0 : Int32).toInt ∧ (0 : Int32).toInt ≤ 1) from (n_c tI_0 (by decide))), hf_f1, (show ((0 : Int32).toInt = 1 ∧ x0.toInt = 2 * x10.toInt) ∨ ((0 : Int32).toInt = 0 ∧ ¬ x0.toInt = 2 * x10.toInt) from (by first | exact (om_1555 tI_0 c_2 ex_1) | (have k9 := tI_0; have k8_0 := tI_0; (first | omega | (unfold zBd at *; omega))))), (show (0 : Int32).toInt = 0 from (by first | exact (om_31 tI_0) | (have k9 := tI_0; have k8_0 := tI_0; (first | omega | (unfold zBd at *; omega)))))⟩⟩ hP9 hD9 hS
