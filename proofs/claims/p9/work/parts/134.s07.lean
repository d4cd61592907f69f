set_option maxHeartbeats 4000000 in
set_option maxRecDepth 100000 in
theorem k_X0_learn (l : Launch) (D : va_G) (cB cC cI cJ : ClassId) (sz : Nat) (a0 a1 a2 a3 a4 a5 a6 a7 : Nat) (x0 x1 x2 x3 x4 x5 x6 x7 x8 x9 x10 : Int32) (y0 : Int64) (f0 f1 f2 : Nat → Int32) (g0 : Nat → Int64) (h_x0 : zBd x0.toInt 0 16) (h_x1 : zBd x1.toInt 0 1) (h_x2 : zBd x2.toInt 0 256) (h_x4 : zBd x4.toInt (-1) 8) (h_x5 : zBd x5.toInt (-1) 5) (h_x6 : zBd x6.toInt (-1) 6) (h_x7 : zBd x7.toInt 0 6) (h_x8 : zBd x8.toInt 0 16) (hf_f0 : (∀ j, (-7) ≤ (f0 j).toInt ∧ (f0 j).toInt ≤ 7)) (hg_kn : knQ x1.toInt x0.toInt g0 f1 f0 x5.toInt x6.toInt x8.toInt) : Met l yX0_learn (.code yX0_learn cX0_learn 4 none :: lw_gd) ({ frames := 3, cells := 0, slots := 0, locals := 75 }) (gPre D [(cB, .byte), (cC, .char), (cI, .int), (cJ, .long)] [.ref a0, .ref a1] [(a0, .inr (0, [.ref a2, .ref a3, .int x0, .int x1, .long y0, .int x2, .int x3])), (a2, .inl (cJ, 256, .inr (.inl g0))), (a1, .inr (1, [.ref a4, .ref a5, .ref a6, .int x4, .int x5, .int x6, .int x7, .int x8, .int x9, .int x10])), (a6, .inl (cI, 80, .inl f0)), (a4, .inr (8, [.ref a7])), (a7, .inl (cI, 30, .inl f1)), (a3, .inl (cI, 5, .inl f2))] sz) (va_Qv (fun u => (0 ≤ (u.2.2.2.1 0).toInt ∧ (u.2.2.2.1 0).toInt ≤ 16) ∧ (0 ≤ (u.2.2.2.1 1).toInt ∧ (u.2.2.2.1 1).toInt ≤ 1) ∧ ((u.2.2.2.1 0).toInt = x8.toInt ∧ wlQ (u.2.2.1 0) f1 f0 x5.toInt x6.toInt x8.toInt x8.toInt 0)) (gB D (va_A [(a0, .inr (0, [.ref a2, .ref a3, .int x0, .int x1, .long y0, .int x2, .int x3])), (a2, .inl (cJ, 256, .inr (.inl g0))), (a1, .inr (1, [.ref a4, .ref a5, .ref a6, .int x4, .int x5, .int x6, .int x7, .int x8, .int x9, .int x10])), (a6, .inl (cI, 80, .inl f0)), (a4, .inr (8, [.ref a7])), (a7, .inl (cI, 30, .inl f1)), (a3, .inl (cI, 5, .inl f2))] sz) (fun u : gEx => [(a0, .inr (0, [.ref a2, .ref a3, .int (u.2.2.2.1 0), .int (u.2.2.2.1 1), .long y0, .int x2, .int x3])), (a2, .inl (cJ, 256, .inr (.inl (u.2.2.1 0)))), (a1, .inr (1, [.ref a4, .ref a5, .ref a6, .int x4, .int x5, .int x6, .int x7, .int x8, .int x9, .int x10])), (a6, .inl (cI, 80, .inl f0)), (a4, .inr (8, [.ref a7])), (a7, .inl (cI, 30, .inl f1)), (a3, .inl (cI, 5, .inl (u.2.1 0)))])) (va_A [(a0, .inr (0, [.ref a2, .ref a3, .int x0, .int x1, .long y0, .int x2, .int x3])), (a2, .inl (cJ, 256, .inr (.inl g0))), (a1, .inr (1, [.ref a4, .ref a5, .ref a6, .int x4, .int x5, .int x6, .int x7, .int x8, .int x9, .int x10])), (a6, .inl (cI, 80, .inl f0)), (a4, .inr (8, [.ref a7])), (a7, .inl (cI, 30, .inl f1)), (a3, .inl (cI, 5, .inl f2))] sz)) 0 0 (va_A [(a0, .inr (0, [.ref a2, .ref a3, .int x0, .int x1, .long y0, .int x2, .int x3])), (a2, .inl (cJ, 256, .inr (.inl g0))), (a1, .inr (1, [.ref a4, .ref a5, .ref a6, .int x4, .int x5, .int x6, .int x7, .int x8, .int x9, .int x10])), (a6, .inl (cI, 80, .inl f0)), (a4, .inr (8, [.ref a7])), (a7, .inl (cI, 30, .inl f1)), (a3, .inl (cI, 5, .inl f2))] sz) := by
  refine gOf_v (by decide +kernel) (Nat.le_of_ble_eq_true rfl) ?_
  intro p e s m args below meth c ls A Q hx hb hts hown hml hN hK hP hD hA hl hret
  replace hown : s.vm.findClass RX0 = some m.cls := hown
  have hS : va_S A s.heap s.heap [] := va_S.rf
  replace hP : va_P D gcl [(a0, .inr (0, [.ref a2, .ref a3, .int x0, .int x1, .long y0, .int x2, .int x3])), (a2, .inl (cJ, 256, .inr (.inl g0))), (a1, .inr (1, [.ref a4, .ref a5, .ref a6, .int x4, .int x5, .int x6, .int x7, .int x8, .int x9, .int x10])), (a6, .inl (cI, 80, .inl f0)), (a4, .inr (8, [.ref a7])), (a7, .inl (cI, 30, .inl f1)), (a3, .inl (cI, 5, .inl f2))] s.heap := hP
  replace hl : lv_has ls 4 [(0, .ref a0), (1, .ref a1)] := hl
  have ry0 := n_rngL y0
  have rx3 : zBd x3.toInt (-2147483648) 2147483647 := n_rng x3
  have rx9 : zBd x9.toInt (-2147483648) 2147483647 := n_rng x9
  have rx10 : zBd x10.toInt (-2147483648) 2147483647 := n_rng x10
  refine lv_aload_n (pc := 0) hx hb dX0_learn_0 rfl (lv_at hl 0 rfl) ?_
  refine va_get (pc := 1) (ci := 0) (v := .int x1) (C := RX0) (T := TX0) (N := 7) hx hb hts iX0 hown hK hP 0 rfl rfl 3 (by decide) (hts _ tw_317) (fun _ h9 => h9) rfl dX0_learn_1 ?_
  have bd_h_x1 : 0 ≤ x1.toInt ∧ x1.toInt ≤ 1 := h_x1
  refine b_if_eq (pc := 4) (tgt := 8) hx hb rfl  dX0_learn_4 (by decide) (fun c_1 => ?_) (fun c_1 => ?_)
  ·
    refine lv_aload_n (pc := 8) hx hb dX0_learn_8 rfl (lv_at hl 0 rfl) ?_
    refine lv_iconst (pc := 9) (v := 1) hx hb dX0_learn_9 (by decide) ?_
    refine va_put (pc := 10) (ci := 0) (v := .int 1) (ty := .boolean) (C := RX0) (T := TX0) (N := 7) hx hb hts iX0 tyX0 tyX0_ok nmX0 hown hK hP hD hS 0 rfl rfl 3 (by decide) (hts _ tw_317) (fun _ h9 => h9) rfl (by decide +kernel) (by decide +kernel) (by decide +kernel) (Nat.le_of_ble_eq_true rfl) dX0_learn_10 (fun H locs hP hD hS => ?_)
    replace hP : va_P D gcl [(a0, .inr (0, [.ref a2, .ref a3, .int x0, .int 1, .long y0, .int x2, .int x3])), (a2, .inl (cJ, 256, .inr (.inl g0))), (a1, .inr (1, [.ref a4, .ref a5, .ref a6, .int x4, .int x5, .int x6, .int x7, .int x8, .int x9, .int x10])), (a6, .inl (cI, 80, .inl f0)), (a4, .inr (8, [.ref a7])), (a7, .inl (cI, 30, .inl f1)), (a3, .inl (cI, 5, .inl f2))] H := hP
    replace hD : va_D A [(a0, .inr (0, [.ref a2, .ref a3, .int x0, .int 1, .long y0, .int x2, .int x3])), (a2, .inl (cJ, 256, .inr (.inl g0))), (a1, .inr (1, [.ref a4, .ref a5, .ref a6, .int x4, .int x5, .int x6, .int x7, .int x8, .int x9, .int x10])), (a6, .inl (cI, 80, .inl f0)), (a4, .inr (8, [.ref a7])), (a7, .inl (cI, 30, .inl f1)), (a3, .inl (cI, 5, .inl f2))] := hD
    refine lv_aload_n (pc := 13) hx hb dX0_learn_13 rfl (lv_at hl 0 rfl) ?_
    refine lv_aload_n (pc := 14) hx hb dX0_learn_14 rfl (lv_at hl 1 rfl) ?_
    refine va_getN (pc := 15) (ci := 1) (v := .int x8) (C := RX1) (T := TX1) (N := 10) hx hb hts iX1 hown hK hP 2 rfl rfl 7 (by decide) (va_Nw.use rfl (hN _ tn_136)) (fun _ h9 => h9) rfl dX0_learn_15 ?_
    refine va_put (pc := 18) (ci := 0) (v := .int x8) (ty := .int) (C := RX0) (T := TX0) (N := 7) hx hb hts iX0 tyX0 tyX0_ok nmX0 hown hK hP hD hS 0 rfl rfl 2 (by decide) (hts _ tw_316) (fun _ h9 => h9) rfl (by decide +kernel) rfl rfl (Nat.le_of_ble_eq_true rfl) dX0_learn_18 (fun H locs hP hD hS => ?_)
    replace hP : va_P D gcl [(a0, .inr (0, [.ref a2, .ref a3, .int x8, .int 1, .long y0, .int x2, .int x3])), (a2, .inl (cJ, 256, .inr (.inl g0))), (a1, .inr (1, [.ref a4, .ref a5, .ref a6, .int x4, .int x5, .int x6, .int x7, .int x8, .int x9, .int x10])), (a6, .inl (cI, 80, .inl f0)), (a4, .inr (8, [.ref a7])), (a7, .inl (cI, 30, .inl f1)), (a3, .inl (cI, 5, .inl f2))] H := hP
    replace hD : va_D A [(a0, .inr (0, [.ref a2, .ref a3, .int x8, .int 1, .long y0, .int x2, .int x3])), (a2, .inl (cJ, 256, .inr (.inl g0))), (a1, .inr (1, [.ref a4, .ref a5, .ref a6, .int x4, .int x5, .int x6, .int x7, .int x8, .int x9, .int x10])), (a6, .inl (cI, 80, .inl f0)), (a4, .inr (8, [.ref a7])), (a7, .inl (cI, 30, .inl f1)), (a3, .inl (cI, 5, .inl f2))] := hD
    refine lv_iconst (pc := 21) (v := 0) hx hb dX0_learn_21 (by decide) ?_
    refine lv_istore_n (pc := 22) (lv' := [(2, .int 0), (0, .ref a0), (1, .ref a1)]) hx hb dX0_learn_22 rfl hl (by decide) rfl (fun ls hl => ?_)
    have lp_8 : ∀ (n : Nat) (x_2 : Int32) (f_5 : Nat → Int32) (g_4 : Nat → Int64) (H : Heap) (locs : List Loc) (ls : Array Slot), (0 ≤ x_2.toInt ∧ x_2.toInt ≤ 16) → (x_2.toInt ≤ x8.toInt ∨ x_2.toInt = 0) → (wlQ g_4 f1 f0 x5.toInt x6.toInt x8.toInt x_2.toInt 0) → (2147483647 - x_2.toInt).toNat < n → va_P D gcl [(a0, .inr (0, [.ref a2, .ref a3, .int x8, .int 1, .long y0, .int x2, .int x3])), (a2, .inl (cJ, 256, .inr (.inl g_4))), (a1, .inr (1, [.ref a4, .ref a5, .ref a6, .int x4, .int x5, .int x6, .int x7, .int x8, .int x9, .int x10])), (a6, .inl (cI, 80, .inl f0)), (a4, .inr (8, [.ref a7])), (a7, .inl (cI, 30, .inl f1)), (a3, .inl (cI, 5, .inl f_5))] H → va_D A [(a0, .inr (0, [.ref a2, .ref a3, .int x8, .int 1, .long y0, .int x2, .int x3])), (a2, .inl (cJ, 256, .inr (.inl g_4))), (a1, .inr (1, [.ref a4, .ref a5, .ref a6, .int x4, .int x5, .int x6, .int x7, .int x8, .int x9, .int x10])), (a6, .inl (cI, 80, .inl f0)), (a4, .inr (8, [.ref a7])), (a7, .inl (cI, 30, .inl f1)), (a3, .inl (cI, 5, .inl f_5))] → va_S A s.heap H locs → lv_has ls 4 [(2, .int x_2), (0, .ref a0), (1, .ref a1)] → W p l e ({ frames := 3, cells := 0, slots := 0, locals := 75 }) s m args below meth c H locs 0 0 Q (F0 m 23 ls []) := by
      intro n
      induction n with
      | zero => intro x_2 f_5 g_4 H locs ls hi_3 hi_6 hi_7 hmu; exact absurd hmu (Nat.not_lt_zero _)
      | succ n ih_lp_8 =>
        intro x_2 f_5 g_4 H locs ls hi_3 hi_6 hi_7 hmu_lp_8 hP hD hS hl
        refine lv_iload_n (pc := 23) hx hb dX0_learn_23 rfl (lv_at hl 0 rfl) ?_
        refine lv_aload_n (pc := 24) hx hb dX0_learn_24 rfl (lv_at hl 1 rfl) ?_
        refine va_get (pc := 25) (ci := 0) (v := .int x8) (C := RX0) (T := TX0) (N := 7) hx hb hts iX0 hown hK hP 0 rfl rfl 2 (by decide) (hts _ tw_316) (fun _ h9 => h9) rfl dX0_learn_25 ?_
        have bd_h_x8 : 0 ≤ x8.toInt ∧ x8.toInt ≤ 16 := h_x8
        refine b_icmp_ge (pc := 28) (tgt := 73) hx hb rfl rfl  dX0_learn_28 (by decide) (fun c_9 => ?_) (fun c_9 => ?_)
        ·
          have k8_0 := tI_1
          exact hret ((fun _ => 0), (fun k => [f_5].getD k (fun _ => 0)), (fun k => [g_4].getD k (fun _ => 0)), (fun k => [x8, 1].getD k 0), (fun _ => 0)) dX0_learn_73 ⟨(show (0 ≤ (x8 : Int32).toInt ∧ (x8 : Int32).toInt ≤ 16) from h_x8), (show (0 ≤ (1 : Int32).toInt ∧ (1 : Int32).toInt ≤ 1) from (n_c tI_1 (by decide))), (show x8.toInt = x8.toInt ∧ wlQ g_4 f1 f0 x5.toInt x6.toInt x8.toInt x8.toInt 0 from kn_end (kn := 0) hi_7 (by (first | omega | (unfold zBd at *; omega))) rfl)⟩ (g_psub (wc := [(a0, .inr (0, [.ref a2, .ref a3, .int x8, .int 1, .long y0, .int x2, .int x3])), (a2, .inl (cJ, 256, .inr (.inl g_4))), (a1, .inr (1, [.ref a4, .ref a5, .ref a6, .int x4, .int x5, .int x6, .int x7, .int x8, .int x9, .int x10])), (a6, .inl (cI, 80, .inl f0)), (a4, .inr (8, [.ref a7])), (a7, .inl (cI, 30, .inl f1)), (a3, .inl (cI, 5, .inl f_5))]) hP [0, 1, 2, 3, 4, 5, 6] rfl) (hD.sub (ws' := [(a0, .inr (0, [.ref a2, .ref a3, .int x8, .int 1, .long y0, .int x2, .int x3])), (a2, .inl (cJ, 256, .inr (.inl g_4))), (a1, .inr (1, [.ref a4, .ref a5, .ref a6, .int x4, .int x5, .int x6, .int x7, .int x8, .int x9, .int x10])), (a6, .inl (cI, 80, .inl f0)), (a4, .inr (8, [.ref a7])), (a7, .inl (cI, 30, .inl f1)), (a3, .inl (cI, 5, .inl f_5))]) [0, 1, 2, 3, 4, 5, 6] (by decide) rfl) hS
        ·
          refine lv_iload_n (pc := 31) hx hb dX0_learn_31 rfl (lv_at hl 0 rfl) ?_
          refine lv_iconst (pc := 32) (v := 1) hx hb dX0_learn_32 (by decide) ?_
          refine b_iadd (pc := 33) hx hb rfl tI_1 (by (first | omega | (unfold zBd at *; omega))) (by (first | omega | (unfold zBd at *; omega))) dX0_learn_33 (fun x_10 ex_10 => ?_)
          refine lv_istore_n (pc := 34) (lv' := [(3, .int x_10), (2, .int x_2), (0, .ref a0), (1, .ref a1)]) hx hb dX0_learn_34 rfl hl (by decide) rfl (fun ls hl => ?_)
          have lp_17 : ∀ (n : Nat) (x_11 : Int32) (f_14 : Nat → Int32) (g_13 : Nat → Int64) (H : Heap) (locs : List Loc) (ls : Array Slot), (0 ≤ x_11.toInt ∧ x_11.toInt ≤ 16) → (x_2.toInt < x_11.toInt ∧ (x_11.toInt ≤ x8.toInt ∨ x_11.toInt = x_2.toInt + 1)) → (wlQ g_13 f1 f0 x5.toInt x6.toInt x8.toInt x_2.toInt x_11.toInt) → (2147483647 - x_11.toInt).toNat < n → va_P D gcl [(a0, .inr (0, [.ref a2, .ref a3, .int x8, .int 1, .long y0, .int x2, .int x3])), (a2, .inl (cJ, 256, .inr (.inl g_13))), (a1, .inr (1, [.ref a4, .ref a5, .ref a6, .int x4, .int x5, .int x6, .int x7, .int x8, .int x9, .int x10])), (a6, .inl (cI, 80, .inl f0)), (a4, .inr (8, [.ref a7])), (a7, .inl (cI, 30, .inl f1)), (a3, .inl (cI, 5, .inl f_14))] H → va_D A [(a0, .inr (0, [.ref a2, .ref a3, .int x8, .int 1, .long y0, .int x2, .int x3])), (a2, .inl (cJ, 256, .inr (.inl g_13))), (a1, .inr (1, [.ref a4, .ref a5, .ref a6, .int x4, .int x5, .int x6, .int x7, .int x8, .int x9, .int x10])), (a6, .inl (cI, 80, .inl f0)), (a4, .inr (8, [.ref a7])), (a7, .inl (cI, 30, .inl f1)), (a3, .inl (cI, 5, .inl f_14))] → va_S A s.heap H locs → lv_has ls 4 [(3, .int x_11), (2, .int x_2), (0, .ref a0), (1, .ref a1)] → W p l e ({ frames := 3, cells := 0, slots := 0, locals := 75 }) s m args below meth c H locs 0 0 Q (F0 m 35 ls []) := by
            intro n
            induction n with
            | zero => intro x_11 f_14 g_13 H locs ls hi_12 hi_15 hi_16 hmu; exact absurd hmu (Nat.not_lt_zero _)
            | succ n ih_lp_17 =>
              intro x_11 f_14 g_13 H locs ls hi_12 hi_15 hi_16 hmu_lp_17 hP hD hS hl
              refine lv_iload_n (pc := 35) hx hb dX0_learn_35 rfl (lv_at hl 0 rfl) ?_
              refine lv_aload_n (pc := 36) hx hb dX0_learn_36 rfl (lv_at hl 2 rfl) ?_
              refine va_get (pc := 37) (ci := 0) (v := .int x8) (C := RX0) (T := TX0) (N := 7) hx hb hts iX0 hown hK hP 0 rfl rfl 2 (by decide) (hts _ tw_316) (fun _ h9 => h9) rfl dX0_learn_37 ?_
              refine b_icmp_ge (pc := 40) (tgt := 67) hx hb rfl rfl  dX0_learn_40 (by decide) (fun c_18 => ?_) (fun c_18 => ?_)
              ·
                refine b_iinc (pc := 67) hx hb dX0_learn_67 hl (k := 1) rfl rfl tI_1 (by (first | omega | (unfold zBd at *; omega))) (by (first | omega | (unfold zBd at *; omega))) (by decide) (fun x_19 ex_19 ls hl => ?_)
                replace hl : lv_has ls 4 [(2, .int x_19), (3, .int x_11), (0, .ref a0), (1, .ref a1)] := hl
                refine lv_goto (pc := 70) (tgt := 23) hx hb dX0_learn_70 (by decide) ?_
                exact ih_lp_8 x_19 f_14 g_13 _ _ ls (by (first | omega | (unfold zBd at *; omega))) (by (first | omega | (unfold zBd at *; omega))) (wl_out hi_16 (by (first | omega | (unfold zBd at *; omega))) (by (first | omega | (unfold zBd at *; omega))) (by (first | omega | (unfold zBd at *; omega)))) (by (first | omega | (unfold zBd at *; omega))) hP hD hS (lv_sub hl [0, 2, 3] rfl)
              ·
                refine lv_aload_n (pc := 43) hx hb dX0_learn_43 rfl (lv_at hl 2 rfl) ?_
                refine va_get (pc := 44) (ci := 0) (v := .ref a2) (C := RX0) (T := TX0) (N := 7) hx hb hts iX0 hown hK hP 0 rfl rfl 0 (by decide) (hts _ tw_314) (fun _ h9 => h9) rfl dX0_learn_44 ?_
                refine lv_iload_n (pc := 47) hx hb dX0_learn_47 rfl (lv_at hl 1 rfl) ?_
                refine lv_bipush (pc := 48) (v := 16) hx hb dX0_learn_48 (by decide) ?_
                refine b_imul (pc := 50) hx hb rfl tI_16 (by (first | omega | (unfold zBd at *; omega))) (by (first | omega | (unfold zBd at *; omega))) dX0_learn_50 (fun x_20 ex_20 => ?_)
                refine lv_iload_n (pc := 51) hx hb dX0_learn_51 rfl (lv_at hl 0 rfl) ?_
                refine b_iadd (pc := 52) hx hb rfl rfl (by (first | omega | (unfold zBd at *; omega))) (by (first | omega | (unfold zBd at *; omega))) dX0_learn_52 (fun x_21 ex_21 => ?_)
                refine lv_aload_n (pc := 53) hx hb dX0_learn_53 rfl (lv_at hl 2 rfl) ?_
                refine lv_aload_n (pc := 54) hx hb dX0_learn_54 rfl (lv_at hl 3 rfl) ?_
                refine lv_iload_n (pc := 55) hx hb dX0_learn_55 rfl (lv_at hl 1 rfl) ?_
                refine lv_iload_n (pc := 56) hx hb dX0_learn_56 rfl (lv_at hl 0 rfl) ?_
                refine gc_l (pc := 57) (wc := [(a0, .inr (0, [.ref a2, .ref a3, .int x8, .int 1, .long y0, .int x2, .int x3])), (a3, .inl (cI, 5, .inl f_14)), (a1, .inr (1, [.ref a4, .ref a5, .ref a6, .int x4, .int x5, .int x6, .int x7, .int x8, .int x9, .int x10])), (a6, .inl (cI, 80, .inl f0)), (a4, .inr (8, [.ref a7])), (a7, .inl (cI, 30, .inl f1))]) (wr := [(a2, .inl (cJ, 256, .inr (.inl g_13)))]) hP hD hS hA [0, 6, 2, 3, 4, 5] [1] rfl rfl (by decide) (by decide) (by decide) (fun hPc hDc => va_runV (As := [.ref a1, .int x_2, .int x_11]) (rest := [.int x_21, .ref a2]) ⟨hx, hb, hml, hown, hts⟩ (k_X0_worthOfPair l D cB cC cI cJ _ a0 a1 a2 a3 a4 a5 a6 a7 x_2 x_11 x8 1 x2 x3 x4 x5 x6 x7 x8 x9 x10 y0 f_14 f0 f1 (by have k0 := tI_1; (first | omega | (unfold zBd at *; omega))) (by have k0 := tI_1; (first | omega | (unfold zBd at *; omega))) h_x8 (n_c tI_1 (by decide)) h_x2 h_x4 h_x5 h_x6 h_x7 h_x8 hf_f0) ⟨gcwB hts tw_1199 tw_11 tw_1196 hd_yX0_worthOfPair ⟨Nat.le_of_ble_eq_true rfl, Nat.le_of_ble_eq_true rfl⟩, hts _ tw_1198, hts _ tp_46⟩ ⟨gblind, va_recv hK hPc (ci := 0) (q0 := 0) rfl rfl, (gpreS hPc hK hDc hN).2⟩ rfl rfl hl.1 rfl (lv_room (Nat.le_of_ble_eq_true rfl)) dX0_learn_57 ⟨Nat.le_of_ble_eq_true rfl, Nat.le_of_ble_eq_true rfl⟩) (fun r_23 u_22 H locs hw_24 hP hD hS => ?_)
                replace hP : va_P D gcl [(a2, .inl (cJ, 256, .inr (.inl g_13))), (a0, .inr (0, [.ref a2, .ref a3, .int x8, .int 1, .long y0, .int x2, .int x3])), (a3, .inl (cI, 5, .inl (u_22.2.1 0))), (a1, .inr (1, [.ref a4, .ref a5, .ref a6, .int x4, .int x5, .int x6, .int x7, .int x8, .int x9, .int x10])), (a6, .inl (cI, 80, .inl f0)), (a4, .inr (8, [.ref a7])), (a7, .inl (cI, 30, .inl f1))] H := hP
                replace hD : va_D A [(a2, .inl (cJ, 256, .inr (.inl g_13))), (a0, .inr (0, [.ref a2, .ref a3, .int x8, .int 1, .long y0, .int x2, .int x3])), (a3, .inl (cI, 5, .inl (u_22.2.1 0))), (a1, .inr (1, [.ref a4, .ref a5, .ref a6, .int x4, .int x5, .int x6, .int x7, .int x8, .int x9, .int x10])), (a6, .inl (cI, 80, .inl f0)), (a4, .inr (8, [.ref a7])), (a7, .inl (cI, 30, .inl f1))] := hD
                have hw_25 : (r_23 = pX9 f1 f0 x5.toInt x6.toInt x_2.toInt x_11.toInt) := hw_24
                have kk0_r_23 := tI_1
                have rr_23 := n_rngL r_23
                refine e_lastore (pc := 60) hx hb hK hP hD hS 0 3 rfl rfl (n_in rfl (by (first | omega | (unfold zBd at *; omega))) (by (first | omega | (unfold zBd at *; omega)))) dX0_learn_60 (fun g_26 eg_26 H locs hP hD hS => ?_)
                replace hP : va_P D gcl [(a2, .inl (cJ, 256, .inr (.inl g_26))), (a0, .inr (0, [.ref a2, .ref a3, .int x8, .int 1, .long y0, .int x2, .int x3])), (a3, .inl (cI, 5, .inl (u_22.2.1 0))), (a1, .inr (1, [.ref a4, .ref a5, .ref a6, .int x4, .int x5, .int x6, .int x7, .int x8, .int x9, .int x10])), (a6, .inl (cI, 80, .inl f0)), (a4, .inr (8, [.ref a7])), (a7, .inl (cI, 30, .inl f1))] H := hP
                replace hD : va_D A [(a2, .inl (cJ, 256, .inr (.inl g_26))), (a0, .inr (0, [.ref a2, .ref a3, .int x8, .int 1, .long y0, .int x2, .int x3])), (a3, .inl (cI, 5, .inl (u_22.2.1 0))), (a1, .inr (1, [.ref a4, .ref a5, .ref a6, .int x4, .int x5, .int x6, .int x7, .int x8, .int x9, .int x10])), (a6, .inl (cI, 80, .inl f0)), (a4, .inr (8, [.ref a7])), (a7, .inl (cI, 30, .inl f1))] := hD
                refine b_iinc (pc := 61) hx hb dX0_learn_61 hl (k := 0) rfl rfl tI_1 (by (first | omega | (unfold zBd at *; omega))) (by (first | omega | (unfold zBd at *; omega))) (by decide) (fun x_27 ex_27 ls hl => ?_)
                replace hl : lv_has ls 4 [(3, .int x_27), (2, .int x_2), (0, .ref a0), (1, .ref a1)] := hl
                refine lv_goto (pc := 64) (tgt := 35) hx hb dX0_learn_64 (by decide) ?_
                exact ih_lp_17 x_27 (u_22.2.1 0) g_26 _ _ ls (by (first | omega | (unfold zBd at *; omega))) (by (first | omega | (unfold zBd at *; omega))) (wl_put hi_16 eg_26 (by (first | omega | (unfold zBd at *; omega))) hw_25 (by (first | omega | (unfold zBd at *; omega))) (by (first | omega | (unfold zBd at *; omega))) (by (first | omega | (unfold zBd at *; omega))) (by (first | omega | (unfold zBd at *; omega)))) (by (first | omega | (unfold zBd at *; omega))) (g_psub hP [1, 0, 3, 4, 5, 6, 2] rfl) (hD.sub [1, 0, 3, 4, 5, 6, 2] (by decide) rfl) hS (lv_sub hl [0, 1, 2, 3] rfl)
          exact lp_17 _ x_10 f_5 g_4 _ _ ls (by (first | omega | (unfold zBd at *; omega))) (by have q := tI_0; (first | omega | (unfold zBd at *; omega))) (wl_in hi_7 (by (first | omega | (unfold zBd at *; omega)))) (Nat.lt_succ_self _) hP hD hS (lv_sub hl [0, 1, 2, 3] rfl)
    exact lp_8 _ 0 f2 g0 _ _ ls (n_c tI_0 (by decide)) (by have q := tI_0; (first | omega | (unfold zBd at *; omega))) (wl_0 tI_0 (by (first | omega | (unfold zBd at *; omega)))) (Nat.lt_succ_self _) hP hD hS (lv_sub hl [0, 1, 2] rfl)
  ·
    exact hret ((fun _ => 0), (fun k => [f2].getD k (fun _ => 0)), (fun k => [g0].getD k (fun _ => 0)), (fun k => [x0, x1].getD k 0), (fun _ => 0)) dX0_learn_7 ⟨(show (0 ≤ (x0 : Int32).toInt ∧ (x0 : Int32).toInt ≤ 16) from h_x0), (show (0 ≤ (x1 : Int32).toInt ∧ (x1 : Int32).toInt ≤ 1) from h_x1), (show x0.toInt = x8.toInt ∧ wlQ g0 f1 f0 x5.toInt x6.toInt x8.toInt x8.toInt 0 from kn_yes hg_kn (by (first | omega | (unfold zBd at *; omega))))⟩ (g_psub (wc := [(a0, .inr (0, [.ref a2, .ref a3, .int x0, .int x1, .long y0, .int x2, .int x3])), (a2, .inl (cJ, 256, .inr (.inl g0))), (a1, .inr (1, [.ref a4, .ref a5, .ref a6, .int x4, .int x5, .int x6, .int x7, .int x8, .int x9, .int x10])), (a6, .inl (cI, 80, .inl f0)), (a4, .inr (8, [.ref a7])), (a7, .inl (cI, 30, .inl f1)), (a3, .inl (cI, 5, .inl f2))]) hP [0, 1, 2, 3, 4, 5, 6] rfl) (hD.sub (ws' := [(a0, .inr (0, [.ref a2, .ref a3, .int x0, .int x1, .long y0, .int x2, .int x3])), (a2, .inl (cJ, 256, .inr (.inl g0))), (a1, .inr (1, [.ref a4, .ref a5, .ref a6, .int x4, .int x5, .int x6, .int x7, .int x8, .int x9, .int x10])), (a6, .inl (cI, 80, .inl f0)), (a4, .inr (8, [.ref a7])), (a7, .inl (cI, 30, .inl f1)), (a3, .inl (cI, 5, .inl f2))]) [0, 1, 2, 3, 4, 5, 6] (by decide) rfl) hS
set_option maxHeartbeats 4000000 in
set_option maxRecDepth 100000 in
theorem k_X0_weighPair (l : Launch) (D : va_G) (cB cC cI cJ : ClassId) (sz : Nat) (a0 a1 a2 : Nat) (x0 x1 x2 x3 x4 x5 : Int32) (y0 : Int64) (g0 : Nat → Int64) (hp1 : (0 ≤ x0.toInt ∧ x0.toInt ≤ 15)) (hp2 : (0 ≤ x1.toInt ∧ x1.toInt ≤ 15)) (h_x2 : zBd x2.toInt 0 16) (h_x3 : zBd x3.toInt 0 1) (h_x4 : zBd x4.toInt 0 256) (hg__lp : x4.toInt ≤ 240) : Met l yX0_weighPair (.code yX0_weighPair cX0_weighPair 5 none :: lw_gd) ({ frames := 0, cells := 0, slots := 0, locals := 0 }) (gPre D [(cB, .byte), (cC, .char), (cI, .int), (cJ, .long)] [.ref a0, .int x0, .int x1] [(a0, .inr (0, [.ref a1, .ref a2, .int x2, .int x3, .long y0, .int x4, .int x5])), (a1, .inl (cJ, 256, .inr (.inl g0)))] sz) (va_Qv (fun u => (0 ≤ (u.2.2.2.1 0).toInt ∧ (u.2.2.2.1 0).toInt ≤ 256) ∧ (wgQ (wrC g0 x0.toInt x1.toInt) y0.toInt x4.toInt x5.toInt (u.2.2.2.2 0).toInt (u.2.2.2.1 0).toInt (u.2.2.2.1 1).toInt x0.toInt x1.toInt) ∧ ((u.2.2.2.1 0).toInt ≤ x4.toInt + 1)) (gB D (va_A [(a0, .inr (0, [.ref a1, .ref a2, .int x2, .int x3, .long y0, .int x4, .int x5])), (a1, .inl (cJ, 256, .inr (.inl g0)))] sz) (fun u : gEx => [(a0, .inr (0, [.ref a1, .ref a2, .int x2, .int x3, .long (u.2.2.2.2 0), .int (u.2.2.2.1 0), .int (u.2.2.2.1 1)])), (a1, .inl (cJ, 256, .inr (.inl g0)))])) (va_A [(a0, .inr (0, [.ref a1, .ref a2, .int x2, .int x3, .long y0, .int x4, .int x5])), (a1, .inl (cJ, 256, .inr (.inl g0)))] sz)) 0 0 (va_A [(a0, .inr (0, [.ref a1, .ref a2, .int x2, .int x3, .long y0, .int x4, .int x5])), (a1, .inl (cJ, 256, .inr (.inl g0)))] sz) := by
  refine gOf_v (by decide +kernel) (Nat.le_of_ble_eq_true rfl) ?_
  intro p e s m args below meth c ls A Q hx hb hts hown hml hN hK hP hD hA hl hret
  replace hown : s.vm.findClass RX0 = some m.cls := hown
  have hS : va_S A s.heap s.heap [] := va_S.rf
  replace hP : va_P D gcl [(a0, .inr (0, [.ref a1, .ref a2, .int x2, .int x3, .long y0, .int x4, .int x5])), (a1, .inl (cJ, 256, .inr (.inl g0)))] s.heap := hP
  replace hl : lv_has ls 5 [(0, .ref a0), (1, .int x0), (2, .int x1)] := hl
  have ry0 := n_rngL y0
  have rx5 : zBd x5.toInt (-2147483648) 2147483647 := n_rng x5
  refine lv_aload_n (pc := 0) hx hb dX0_weighPair_0 rfl (lv_at hl 0 rfl) ?_
  refine va_get (pc := 1) (ci := 0) (v := .ref a1) (C := RX0) (T := TX0) (N := 7) hx hb hts iX0 hown hK hP 0 rfl rfl 0 (by decide) (hts _ tw_314) (fun _ h9 => h9) rfl dX0_weighPair_1 ?_
  refine lv_iload_n (pc := 4) hx hb dX0_weighPair_4 rfl (lv_at hl 1 rfl) ?_
  refine lv_bipush (pc := 5) (v := 16) hx hb dX0_weighPair_5 (by decide) ?_
  refine b_imul (pc := 7) hx hb rfl tI_16 (by (first | omega | (unfold zBd at *; omega))) (by (first | omega | (unfold zBd at *; omega))) dX0_weighPair_7 (fun x_1 ex_1 => ?_)
  refine lv_iload_n (pc := 8) hx hb dX0_weighPair_8 rfl (lv_at hl 2 rfl) ?_
  refine b_iadd (pc := 9) hx hb rfl rfl (by (first | omega | (unfold zBd at *; omega))) (by (first | omega | (unfold zBd at *; omega))) dX0_weighPair_9 (fun x_2 ex_2 => ?_)
  refine va_lald (pc := 10) hx hb hK hP 1 3 rfl rfl (n_in rfl (by (first | omega | (unfold zBd at *; omega))) (by (first | omega | (unfold zBd at *; omega)))) dX0_weighPair_10 ?_
  refine lv_topl (fun y_3 ey_3 => ?_)
  have ry_3 := n_rngL y_3
  replace ey_3 : y_3 = g0 (x_2.toInt).toNat := ey_3
  have ty_3 := congrArg Int64.toInt ey_3
  refine lv_lstore_n (pc := 11) (lv' := [(3, .long y_3), (0, .ref a0), (1, .int x0), (2, .int x1)]) hx hb dX0_weighPair_11 rfl hl (by decide) rfl (fun ls hl => ?_)
  refine lv_lload_n (pc := 12) hx hb dX0_weighPair_12 rfl (lv_at hl 0 rfl) ?_
  refine lv_aload_n (pc := 13) hx hb dX0_weighPair_13 rfl (lv_at hl 1 rfl) ?_
  refine va_get (pc := 14) (ci := 0) (v := .long y0) (C := RX0) (T := TX0) (N := 7) hx hb hts iX0 hown hK hP 0 rfl rfl 4 (by decide) (hts _ tw_318) (fun _ h9 => h9) rfl dX0_weighPair_14 ?_
  refine b_lcmp_ge (pc := 17) (tgt := 41) hx hb rfl rfl dX0_weighPair_17 dX0_weighPair_18 (by decide) (fun c_4 => ?_) (fun c_4 => ?_)
  ·
    refine lv_lload_n (pc := 41) hx hb dX0_weighPair_41 rfl (lv_at hl 0 rfl) ?_
    refine lv_aload_n (pc := 42) hx hb dX0_weighPair_42 rfl (lv_at hl 1 rfl) ?_
    refine va_get (pc := 43) (ci := 0) (v := .long y0) (C := RX0) (T := TX0) (N := 7) hx hb hts iX0 hown hK hP 0 rfl rfl 4 (by decide) (hts _ tw_318) (fun _ h9 => h9) rfl dX0_weighPair_43 ?_
    refine b_lcmp_ne (pc := 46) (tgt := 60) hx hb rfl rfl dX0_weighPair_46 dX0_weighPair_47 (by decide) (fun c_5 => ?_) (fun c_5 => ?_)
    ·
      exact hret ((fun _ => 0), (fun _ => (fun _ => 0)), (fun _ => (fun _ => 0)), (fun k => [x4, x5].getD k 0), (fun k => [y0].getD k 0)) dX0_weighPair_60 ⟨(show (0 ≤ (x4 : Int32).toInt ∧ (x4 : Int32).toInt ≤ 256) from h_x4), (show wgQ (wrC g0 x0.toInt x1.toInt) y0.toInt x4.toInt x5.toInt y0.toInt x4.toInt x5.toInt x0.toInt x1.toInt from (by have q := wr_e (a := x0.toInt) (b := x1.toInt) ey_3 (by (first | omega | (unfold zBd at *; omega))); unfold wgQ; (first | omega | (unfold zBd at *; omega)))), (show x4.toInt ≤ x4.toInt + 1 by (first | omega | (unfold zBd at *; omega)))⟩ (g_psub (wc := [(a0, .inr (0, [.ref a1, .ref a2, .int x2, .int x3, .long y0, .int x4, .int x5])), (a1, .inl (cJ, 256, .inr (.inl g0)))]) hP [0, 1] rfl) (hD.sub (ws' := [(a0, .inr (0, [.ref a1, .ref a2, .int x2, .int x3, .long y0, .int x4, .int x5])), (a1, .inl (cJ, 256, .inr (.inl g0)))]) [0, 1] (by decide) rfl) hS
    ·
      refine lv_aload_n (pc := 50) hx hb dX0_weighPair_50 rfl (lv_at hl 1 rfl) ?_
      refine lv_dup (pc := 51) hx hb dX0_weighPair_51 rfl ?_
      refine va_get (pc := 52) (ci := 0) (v := .int x4) (C := RX0) (T := TX0) (N := 7) hx hb hts iX0 hown hK hP 0 rfl rfl 5 (by decide) (hts _ tw_320) (fun _ h9 => h9) rfl dX0_weighPair_52 ?_
      have bd_h_x4 : 0 ≤ x4.toInt ∧ x4.toInt ≤ 256 := h_x4
      refine lv_iconst (pc := 55) (v := 1) hx hb dX0_weighPair_55 (by decide) ?_
      refine b_iadd (pc := 56) hx hb rfl tI_1 (by (first | omega | (unfold zBd at *; omega))) (by (first | omega | (unfold zBd at *; omega))) dX0_weighPair_56 (fun x_6 ex_6 => ?_)
      refine va_put (pc := 57) (ci := 0) (v := .int x_6) (ty := .int) (C := RX0) (T := TX0) (N := 7) hx hb hts iX0 tyX0 tyX0_ok nmX0 hown hK hP hD hS 0 rfl rfl 5 (by decide) (hts _ tw_320) (fun _ h9 => h9) rfl (by decide +kernel) rfl rfl (Nat.le_of_ble_eq_true rfl) dX0_weighPair_57 (fun H locs hP hD hS => ?_)
      replace hP : va_P D gcl [(a0, .inr (0, [.ref a1, .ref a2, .int x2, .int x3, .long y0, .int x_6, .int x5])), (a1, .inl (cJ, 256, .inr (.inl g0)))] H := hP
      replace hD : va_D A [(a0, .inr (0, [.ref a1, .ref a2, .int x2, .int x3, .long y0, .int x_6, .int x5])), (a1, .inl (cJ, 256, .inr (.inl g0)))] := hD
      exact hret ((fun _ => 0), (fun _ => (fun _ => 0)), (fun _ => (fun _ => 0)), (fun k => [x_6, x5].getD k 0), (fun k => [y0].getD k 0)) dX0_weighPair_60 ⟨(show (0 ≤ (x_6 : Int32).toInt ∧ (x_6 : Int32).toInt ≤ 256) by (first | omega | (unfold zBd at *; omega))), (show wgQ (wrC g0 x0.toInt x1.toInt) y0.toInt x4.toInt x5.toInt y0.toInt x_6.toInt x5.toInt x0.toInt x1.toInt from (by have q := wr_e (a := x0.toInt) (b := x1.toInt) ey_3 (by (first | omega | (unfold zBd at *; omega))); unfold wgQ; (first | omega | (unfold zBd at *; omega)))), (show x_6.toInt ≤ x4.toInt + 1 by (first | omega | (unfold zBd at *; omega)))⟩ (g_psub (wc := [(a0, .inr (0, [.ref a1, .ref a2, .int x2, .int x3, .long y0, .int x_6, .int x5])), (a1, .inl (cJ, 256, .inr (.inl g0)))]) hP [0, 1] rfl) (hD.sub (ws' := [(a0, .inr (0, [.ref a1, .ref a2, .int x2, .int x3, .long y0, .int x_6, .int x5])), (a1, .inl (cJ, 256, .inr (.inl g0)))]) [0, 1] (by decide) rfl) hS
  ·
    refine lv_aload_n (pc := 21) hx hb dX0_weighPair_21 rfl (lv_at hl 1 rfl) ?_
    refine lv_lload_n (pc := 22) hx hb dX0_weighPair_22 rfl (lv_at hl 0 rfl) ?_
    refine va_put (pc := 23) (ci := 0) (v := .long y_3) (ty := .long) (C := RX0) (T := TX0) (N := 7) hx hb hts iX0 tyX0 tyX0_ok nmX0 hown hK hP hD hS 0 rfl rfl 4 (by decide) (hts _ tw_318) (fun _ h9 => h9) rfl (by decide +kernel) rfl rfl (Nat.le_of_ble_eq_true rfl) dX0_weighPair_23 (fun H locs hP hD hS => ?_)
    replace hP : va_P D gcl [(a0, .inr (0, [.ref a1, .ref a2, .int x2, .int x3, .long y_3, .int x4, .int x5])), (a1, .inl (cJ, 256, .inr (.inl g0)))] H := hP
    replace hD : va_D A [(a0, .inr (0, [.ref a1, .ref a2, .int x2, .int x3, .long y_3, .int x4, .int x5])), (a1, .inl (cJ, 256, .inr (.inl g0)))] := hD
    refine lv_aload_n (pc := 26) hx hb dX0_weighPair_26 rfl (lv_at hl 1 rfl) ?_
    refine lv_iconst (pc := 27) (v := 0) hx hb dX0_weighPair_27 (by decide) ?_
    refine va_put (pc := 28) (ci := 0) (v := .int 0) (ty := .int) (C := RX0) (T := TX0) (N := 7) hx hb hts iX0 tyX0 tyX0_ok nmX0 hown hK hP hD hS 0 rfl rfl 5 (by decide) (hts _ tw_320) (fun _ h9 => h9) rfl (by decide +kernel) (by decide +kernel) (by decide +kernel) (Nat.le_of_ble_eq_true rfl) dX0_weighPair_28 (fun H locs hP hD hS => ?_)
    replace hP : va_P D gcl [(a0, .inr (0, [.ref a1, .ref a2, .int x2, .int x3, .long y_3, .int 0, .int x5])), (a1, .inl (cJ, 256, .inr (.inl g0)))] H := hP
    replace hD : va_D A [(a0, .inr (0, [.ref a1, .ref a2, .int x2, .int x3, .long y_3, .int 0, .int x5])), (a1, .inl (cJ, 256, .inr (.inl g0)))] := hD
    refine lv_aload_n (pc := 31) hx hb dX0_weighPair_31 rfl (lv_at hl 1 rfl) ?_
    refine lv_bipush (pc := 32) (v := 100) hx hb dX0_weighPair_32 (by decide) ?_
    refine lv_iload_n (pc := 34) hx hb dX0_weighPair_34 rfl (lv_at hl 2 rfl) ?_
    refine b_imul (pc := 35) hx hb tI_100 rfl (by (first | omega | (unfold zBd at *; omega))) (by (first | omega | (unfold zBd at *; omega))) dX0_weighPair_35 (fun x_7 ex_7 => ?_)
    refine lv_iload_n (pc := 36) hx hb dX0_weighPair_36 rfl (lv_at hl 3 rfl) ?_
    refine b_iadd (pc := 37) hx hb rfl rfl (by (first | omega | (unfold zBd at *; omega))) (by (first | omega | (unfold zBd at *; omega))) dX0_weighPair_37 (fun x_8 ex_8 => ?_)
    refine va_put (pc := 38) (ci := 0) (v := .int x_8) (ty := .int) (C := RX0) (T := TX0) (N := 7) hx hb hts iX0 tyX0 tyX0_ok nmX0 hown hK hP hD hS 0 rfl rfl 6 (by decide) (hts _ tw_322) (fun _ h9 => h9) rfl (by decide +kernel) rfl rfl (Nat.le_of_ble_eq_true rfl) dX0_weighPair_38 (fun H locs hP hD hS => ?_)
    replace hP : va_P D gcl [(a0, .inr (0, [.ref a1, .ref a2, .int x2, .int x3, .long y_3, .int 0, .int x_8])), (a1, .inl (cJ, 256, .inr (.inl g0)))] H := hP
    replace hD : va_D A [(a0, .inr (0, [.ref a1, .ref a2, .int x2, .int x3, .long y_3, .int 0, .int x_8])), (a1, .inl (cJ, 256, .inr (.inl g0)))] := hD
    refine lv_lload_n (pc := 41) hx hb dX0_weighPair_41 rfl (lv_at hl 0 rfl) ?_
    refine lv_aload_n (pc := 42) hx hb dX0_weighPair_42 rfl (lv_at hl 1 rfl) ?_
    refine va_get (pc := 43) (ci := 0) (v := .long y_3) (C := RX0) (T := TX0) (N := 7) hx hb hts iX0 hown hK hP 0 rfl rfl 4 (by decide) (hts _ tw_318) (fun _ h9 => h9) rfl dX0_weighPair_43 ?_
    refine b_lcmp_ne (pc := 46) (tgt := 60) hx hb rfl rfl dX0_weighPair_46 dX0_weighPair_47 (by decide) (fun c_9 => absurd c_9 (by (first | omega | (unfold zBd at *; omega)))) (fun c_9 => ?_)
    refine lv_aload_n (pc := 50) hx hb dX0_weighPair_50 rfl (lv_at hl 1 rfl) ?_
    refine lv_dup (pc := 51) hx hb dX0_weighPair_51 rfl ?_
    refine va_get (pc := 52) (ci := 0) (v := .int 0) (C := RX0) (T := TX0) (N := 7) hx hb hts iX0 hown hK hP 0 rfl rfl 5 (by decide) (hts _ tw_320) (fun _ h9 => h9) rfl dX0_weighPair_52 ?_
    refine lv_iconst (pc := 55) (v := 1) hx hb dX0_weighPair_55 (by decide) ?_
    refine lv_iadd (pc := 56) hx hb dX0_weighPair_56 ?_
    refine gI (y := 1) (by decide +kernel) ?_
    refine va_put (pc := 57) (ci := 0) (v := .int 1) (ty := .int) (C := RX0) (T := TX0) (N := 7) hx hb hts iX0 tyX0 tyX0_ok nmX0 hown hK hP hD hS 0 rfl rfl 5 (by decide) (hts _ tw_320) (fun _ h9 => h9) rfl (by decide +kernel) (by decide +kernel) (by decide +kernel) (Nat.le_of_ble_eq_true rfl) dX0_weighPair_57 (fun H locs hP hD hS => ?_)
    replace hP : va_P D gcl [(a0, .inr (0, [.ref a1, .ref a2, .int x2, .int x3, .long y_3, .int 1, .int x_8])), (a1, .inl (cJ, 256, .inr (.inl g0)))] H := hP
    replace hD : va_D A [(a0, .inr (0, [.ref a1, .ref a2, .int x2, .int x3, .long y_3, .int 1, .int x_8])), (a1, .inl (cJ, 256, .inr (.inl g0)))] := hD
    have k8_0 := tI_1
    exact hret ((fun _ => 0), (fun _ => (fun _ => 0)), (fun _ => (fun _ => 0)), (fun k => [1, x_8].getD k 0), (fun k => [y_3].getD k 0)) dX0_weighPair_60 ⟨(show (0 ≤ (1 : Int32).toInt ∧ (1 : Int32).toInt ≤ 256) from (n_c tI_1 (by decide))), (show wgQ (wrC g0 x0.toInt x1.toInt) y0.toInt x4.toInt x5.toInt y_3.toInt (1 : Int32).toInt x_8.toInt x0.toInt x1.toInt from (by have q := wr_e (a := x0.toInt) (b := x1.toInt) ey_3 (by (first | omega | (unfold zBd at *; omega))); unfold wgQ; (first | omega | (unfold zBd at *; omega)))), (show (1 : Int32).toInt ≤ x4.toInt + 1 by have k8_0 := tI_1; (first | omega | (unfold zBd at *; omega)))⟩ (g_psub (wc := [(a0, .inr (0, [.ref a1, .ref a2, .int x2, .int x3, .long y_3, .int 1, .int x_8])), (a1, .inl (cJ, 256, .inr (.inl g0)))]) hP [0, 1] rfl) (hD.sub (ws' := [(a0, .inr (0, [.ref a1, .ref a2, .int x2, .int x3, .long y_3, .int 1, .int x_8])), (a1, .inl (cJ, 256, .inr (.inl g0)))]) [0, 1] (by decide) rfl) hS
set_option maxHeartbeats 4000000 in
set_option maxRecDepth 100000 in
theorem k_X0_findLeast (l : Launch) (D : va_G) (cB cC cI cJ : ClassId) (sz : Nat) (a0 a1 a2 : Nat) (x0 x1 x2 x3 x4 : Int32) (y0 : Int64) (g0 : Nat → Int64) (h_x1 : zBd x1.toInt 0 16) (h_x2 : zBd x2.toInt 0 1) (h_x3 : zBd x3.toInt 0 256) : Met l yX0_findLeast (.code yX0_findLeast cX0_findLeast 4 none :: lw_gd) ({ frames := 1, cells := 0, slots := 0, locals := 24 }) (gPre D [(cB, .byte), (cC, .char), (cI, .int), (cJ, .long)] [.ref a0, .int x0] [(a0, .inr (0, [.ref a1, .ref a2, .int x1, .int x2, .long y0, .int x3, .int x4])), (a1, .inl (cJ, 256, .inr (.inl g0)))] sz) (va_Qv (fun u => (0 ≤ (u.2.2.2.1 0).toInt ∧ (u.2.2.2.1 0).toInt ≤ 256) ∧ (flE (flX (wrC g0) x1.toInt x0.toInt (1000000000000000, 0, x4.toInt)) (u.2.2.2.2 0).toInt (u.2.2.2.1 0).toInt (u.2.2.2.1 1).toInt (16 * x1.toInt))) (gB D (va_A [(a0, .inr (0, [.ref a1, .ref a2, .int x1, .int x2, .long y0, .int x3, .int x4])), (a1, .inl (cJ, 256, .inr (.inl g0)))] sz) (fun u : gEx => [(a0, .inr (0, [.ref a1, .ref a2, .int x1, .int x2, .long (u.2.2.2.2 0), .int (u.2.2.2.1 0), .int (u.2.2.2.1 1)])), (a1, .inl (cJ, 256, .inr (.inl g0)))])) (va_A [(a0, .inr (0, [.ref a1, .ref a2, .int x1, .int x2, .long y0, .int x3, .int x4])), (a1, .inl (cJ, 256, .inr (.inl g0)))] sz)) 0 0 (va_A [(a0, .inr (0, [.ref a1, .ref a2, .int x1, .int x2, .long y0, .int x3, .int x4])), (a1, .inl (cJ, 256, .inr (.inl g0)))] sz) := by
  refine gOf_v (by decide +kernel) (Nat.le_of_ble_eq_true rfl) ?_
  intro p e s m args below meth c ls A Q hx hb hts hown hml hN hK hP hD hA hl hret
  replace hown : s.vm.findClass RX0 = some m.cls := hown
  have hS : va_S A s.heap s.heap [] := va_S.rf
  replace hP : va_P D gcl [(a0, .inr (0, [.ref a1, .ref a2, .int x1, .int x2, .long y0, .int x3, .int x4])), (a1, .inl (cJ, 256, .inr (.inl g0)))] s.heap := hP
  replace hl : lv_has ls 4 [(0, .ref a0), (1, .int x0)] := hl
  have rx0 : zBd x0.toInt (-2147483648) 2147483647 := n_rng x0
  have ry0 := n_rngL y0
  have rx4 : zBd x4.toInt (-2147483648) 2147483647 := n_rng x4
  refine lv_aload_n (pc := 0) hx hb dX0_findLeast_0 rfl (lv_at hl 0 rfl) ?_
  refine lv_ldc2 (pc := 1) hx hb hown (hts _ tw_1206) dX0_findLeast_1 ?_
  refine va_put (pc := 4) (ci := 0) (v := .long 1000000000000000) (ty := .long) (C := RX0) (T := TX0) (N := 7) hx hb hts iX0 tyX0 tyX0_ok nmX0 hown hK hP hD hS 0 rfl rfl 4 (by decide) (hts _ tw_318) (fun _ h9 => h9) rfl (by decide +kernel) (by decide +kernel) (by decide +kernel) (Nat.le_of_ble_eq_true rfl) dX0_findLeast_4 (fun H locs hP hD hS => ?_)
  replace hP : va_P D gcl [(a0, .inr (0, [.ref a1, .ref a2, .int x1, .int x2, .long 1000000000000000, .int x3, .int x4])), (a1, .inl (cJ, 256, .inr (.inl g0)))] H := hP
  replace hD : va_D A [(a0, .inr (0, [.ref a1, .ref a2, .int x1, .int x2, .long 1000000000000000, .int x3, .int x4])), (a1, .inl (cJ, 256, .inr (.inl g0)))] := hD
  refine lv_aload_n (pc := 7) hx hb dX0_findLeast_7 rfl (lv_at hl 0 rfl) ?_
  refine lv_iconst (pc := 8) (v := 0) hx hb dX0_findLeast_8 (by decide) ?_
  refine va_put (pc := 9) (ci := 0) (v := .int 0) (ty := .int) (C := RX0) (T := TX0) (N := 7) hx hb hts iX0 tyX0 tyX0_ok nmX0 hown hK hP hD hS 0 rfl rfl 5 (by decide) (hts _ tw_320) (fun _ h9 => h9) rfl (by decide +kernel) (by decide +kernel) (by decide +kernel) (Nat.le_of_ble_eq_true rfl) dX0_findLeast_9 (fun H locs hP hD hS => ?_)
  replace hP : va_P D gcl [(a0, .inr (0, [.ref a1, .ref a2, .int x1, .int x2, .long 1000000000000000, .int 0, .int x4])), (a1, .inl (cJ, 256, .inr (.inl g0)))] H := hP
  replace hD : va_D A [(a0, .inr (0, [.ref a1, .ref a2, .int x1, .int x2, .long 1000000000000000, .int 0, .int x4])), (a1, .inl (cJ, 256, .inr (.inl g0)))] := hD
  refine lv_iconst (pc := 12) (v := 0) hx hb dX0_findLeast_12 (by decide) ?_
  refine lv_istore_n (pc := 13) (lv' := [(2, .int 0), (0, .ref a0), (1, .int x0)]) hx hb dX0_findLeast_13 rfl hl (by decide) rfl (fun ls hl => ?_)
  have lp_12 : ∀ (n : Nat) (x_1 x_5 x_7 : Int32) (y_3 : Int64) (H : Heap) (locs : List Loc) (ls : Array Slot), (0 ≤ x_1.toInt ∧ x_1.toInt ≤ 16) → (0 ≤ x_5.toInt ∧ x_5.toInt ≤ 256) → (x_1.toInt ≤ x1.toInt ∨ x_1.toInt = 0) → (x_5.toInt ≤ 16 * x_1.toInt) → (flE (flX (wrC g0) x1.toInt x0.toInt (1000000000000000, 0, x4.toInt)) y_3.toInt x_5.toInt x_7.toInt (16 * x_1.toInt)) → (2147483647 - x_1.toInt).toNat < n → va_P D gcl [(a0, .inr (0, [.ref a1, .ref a2, .int x1, .int x2, .long y_3, .int x_5, .int x_7])), (a1, .inl (cJ, 256, .inr (.inl g0)))] H → va_D A [(a0, .inr (0, [.ref a1, .ref a2, .int x1, .int x2, .long y_3, .int x_5, .int x_7])), (a1, .inl (cJ, 256, .inr (.inl g0)))] → va_S A s.heap H locs → lv_has ls 4 [(2, .int x_1), (0, .ref a0), (1, .int x0)] → W p l e ({ frames := 1, cells := 0, slots := 0, locals := 24 }) s m args below meth c H locs 0 0 Q (F0 m 14 ls []) := by
    intro n
    induction n with
    | zero => intro x_1 x_5 x_7 y_3 H locs ls hi_2 hi_6 hi_9 hi_10 hi_11 hmu; exact absurd hmu (Nat.not_lt_zero _)
    | succ n ih_lp_12 =>
      intro x_1 x_5 x_7 y_3 H locs ls hi_2 hi_6 hi_9 hi_10 hi_11 hmu_lp_12 hP hD hS hl
      have hi_4 := n_rngL y_3
      have hi_8 := n_rng x_7
      refine lv_iload_n (pc := 14) hx hb dX0_findLeast_14 rfl (lv_at hl 0 rfl) ?_
      refine lv_aload_n (pc := 15) hx hb dX0_findLeast_15 rfl (lv_at hl 1 rfl) ?_
      refine va_get (pc := 16) (ci := 0) (v := .int x1) (C := RX0) (T := TX0) (N := 7) hx hb hts iX0 hown hK hP 0 rfl rfl 2 (by decide) (hts _ tw_316) (fun _ h9 => h9) rfl dX0_findLeast_16 ?_
      have bd_h_x1 : 0 ≤ x1.toInt ∧ x1.toInt ≤ 16 := h_x1
      refine b_icmp_ge (pc := 19) (tgt := 62) hx hb rfl rfl  dX0_findLeast_19 (by decide) (fun c_13 => ?_) (fun c_13 => ?_)
      ·
        exact hret ((fun _ => 0), (fun _ => (fun _ => 0)), (fun _ => (fun _ => 0)), (fun k => [x_5, x_7].getD k 0), (fun k => [y_3].getD k 0)) dX0_findLeast_62 ⟨(show (0 ≤ (x_5 : Int32).toInt ∧ (x_5 : Int32).toInt ≤ 256) from hi_6), (show flE (flX (wrC g0) x1.toInt x0.toInt (1000000000000000, 0, x4.toInt)) y_3.toInt x_5.toInt x_7.toInt (16 * x1.toInt) from flE_end hi_11 (by (first | omega | (unfold zBd at *; omega))) (by (first | omega | (unfold zBd at *; omega))) (by (first | omega | (unfold zBd at *; omega))) rfl)⟩ (g_psub (wc := [(a0, .inr (0, [.ref a1, .ref a2, .int x1, .int x2, .long y_3, .int x_5, .int x_7])), (a1, .inl (cJ, 256, .inr (.inl g0)))]) hP [0, 1] rfl) (hD.sub (ws' := [(a0, .inr (0, [.ref a1, .ref a2, .int x1, .int x2, .long y_3, .int x_5, .int x_7])), (a1, .inl (cJ, 256, .inr (.inl g0)))]) [0, 1] (by decide) rfl) hS
      ·
        refine lv_iload_n (pc := 22) hx hb dX0_findLeast_22 rfl (lv_at hl 0 rfl) ?_
        refine lv_iconst (pc := 23) (v := 1) hx hb dX0_findLeast_23 (by decide) ?_
        refine b_iadd (pc := 24) hx hb rfl tI_1 (by (first | omega | (unfold zBd at *; omega))) (by (first | omega | (unfold zBd at *; omega))) dX0_findLeast_24 (fun x_14 ex_14 => ?_)
        refine lv_istore_n (pc := 25) (lv' := [(3, .int x_14), (2, .int x_1), (0, .ref a0), (1, .int x0)]) hx hb dX0_findLeast_25 rfl hl (by decide) rfl (fun ls hl => ?_)
        have lp_26 : ∀ (n : Nat) (x_15 x_19 x_21 : Int32) (y_17 : Int64) (H : Heap) (locs : List Loc) (ls : Array Slot), (0 ≤ x_15.toInt ∧ x_15.toInt ≤ 16) → (0 ≤ x_19.toInt ∧ x_19.toInt ≤ 256) → (x_1.toInt < x_15.toInt ∧ (x_15.toInt ≤ x1.toInt ∨ x_15.toInt = x_1.toInt + 1)) → (x_19.toInt ≤ 16 * x_1.toInt + x_15.toInt) → (flE (flX (wrC g0) x1.toInt x0.toInt (1000000000000000, 0, x4.toInt)) y_17.toInt x_19.toInt x_21.toInt (16 * x_1.toInt + x_15.toInt)) → (2147483647 - x_15.toInt).toNat < n → va_P D gcl [(a0, .inr (0, [.ref a1, .ref a2, .int x1, .int x2, .long y_17, .int x_19, .int x_21])), (a1, .inl (cJ, 256, .inr (.inl g0)))] H → va_D A [(a0, .inr (0, [.ref a1, .ref a2, .int x1, .int x2, .long y_17, .int x_19, .int x_21])), (a1, .inl (cJ, 256, .inr (.inl g0)))] → va_S A s.heap H locs → lv_has ls 4 [(3, .int x_15), (2, .int x_1), (0, .ref a0), (1, .int x0)] → W p l e ({ frames := 1, cells := 0, slots := 0, locals := 24 }) s m args below meth c H locs 0 0 Q (F0 m 26 ls []) := by
          intro n
          induction n with
          | zero => intro x_15 x_19 x_21 y_17 H locs ls hi_16 hi_20 hi_23 hi_24 hi_25 hmu; exact absurd hmu (Nat.not_lt_zero _)
          | succ n ih_lp_26 =>
            intro x_15 x_19 x_21 y_17 H locs ls hi_16 hi_20 hi_23 hi_24 hi_25 hmu_lp_26 hP hD hS hl
            have hi_18 := n_rngL y_17
            have hi_22 := n_rng x_21
            refine lv_iload_n (pc := 26) hx hb dX0_findLeast_26 rfl (lv_at hl 0 rfl) ?_
            refine lv_aload_n (pc := 27) hx hb dX0_findLeast_27 rfl (lv_at hl 2 rfl) ?_
            refine va_get (pc := 28) (ci := 0) (v := .int x1) (C := RX0) (T := TX0) (N := 7) hx hb hts iX0 hown hK hP 0 rfl rfl 2 (by decide) (hts _ tw_316) (fun _ h9 => h9) rfl dX0_findLeast_28 ?_
            refine b_icmp_ge (pc := 31) (tgt := 56) hx hb rfl rfl  dX0_findLeast_31 (by decide) (fun c_27 => ?_) (fun c_27 => ?_)
            ·
              refine b_iinc (pc := 56) hx hb dX0_findLeast_56 hl (k := 1) rfl rfl tI_1 (by (first | omega | (unfold zBd at *; omega))) (by (first | omega | (unfold zBd at *; omega))) (by decide) (fun x_28 ex_28 ls hl => ?_)
              replace hl : lv_has ls 4 [(2, .int x_28), (3, .int x_15), (0, .ref a0), (1, .int x0)] := hl
              refine lv_goto (pc := 59) (tgt := 14) hx hb dX0_findLeast_59 (by decide) ?_
              exact ih_lp_12 x_28 x_19 x_21 y_17 _ _ ls (by (first | omega | (unfold zBd at *; omega))) hi_20 (by (first | omega | (unfold zBd at *; omega))) (by (first | omega | (unfold zBd at *; omega))) (fl_out flS_X hi_25 (by (first | omega | (unfold zBd at *; omega))) (by (first | omega | (unfold zBd at *; omega))) (by (first | omega | (unfold zBd at *; omega))) (by (first | omega | (unfold zBd at *; omega))) rfl (by (first | omega | (unfold zBd at *; omega)))) (by (first | omega | (unfold zBd at *; omega))) hP hD hS (lv_sub hl [0, 2, 3] rfl)
            ·
              refine lv_iload_n (pc := 34) hx hb dX0_findLeast_34 rfl (lv_at hl 1 rfl) ?_
              refine lv_iload_n (pc := 35) hx hb dX0_findLeast_35 rfl (lv_at hl 3 rfl) ?_
              refine b_icmp_eq (pc := 36) (tgt := 50) hx hb rfl rfl  dX0_findLeast_36 (by decide) (fun c_29 => ?_) (fun c_29 => ?_)
              ·
                refine b_iinc (pc := 50) hx hb dX0_findLeast_50 hl (k := 0) rfl rfl tI_1 (by (first | omega | (unfold zBd at *; omega))) (by (first | omega | (unfold zBd at *; omega))) (by decide) (fun x_30 ex_30 ls hl => ?_)
                replace hl : lv_has ls 4 [(3, .int x_30), (2, .int x_1), (0, .ref a0), (1, .int x0)] := hl
                refine lv_goto (pc := 53) (tgt := 26) hx hb dX0_findLeast_53 (by decide) ?_
                exact ih_lp_26 x_30 x_19 x_21 y_17 _ _ ls (by (first | omega | (unfold zBd at *; omega))) hi_20 (by (first | omega | (unfold zBd at *; omega))) (by (first | omega | (unfold zBd at *; omega))) (fl_skip flS_X hi_25 (by (first | omega | (unfold zBd at *; omega))) (by (first | omega | (unfold zBd at *; omega))) (by (first | omega | (unfold zBd at *; omega))) (by (first | omega | (unfold zBd at *; omega))) rfl (by (first | omega | (unfold zBd at *; omega)))) (by (first | omega | (unfold zBd at *; omega))) hP hD hS (lv_sub hl [0, 1, 2, 3] rfl)
              ·
                refine lv_iload_n (pc := 39) hx hb dX0_findLeast_39 rfl (lv_at hl 0 rfl) ?_
                refine lv_iload_n (pc := 40) hx hb dX0_findLeast_40 rfl (lv_at hl 3 rfl) ?_
                refine b_icmp_eq (pc := 41) (tgt := 50) hx hb rfl rfl  dX0_findLeast_41 (by decide) (fun c_31 => ?_) (fun c_31 => ?_)
                ·
                  refine b_iinc (pc := 50) hx hb dX0_findLeast_50 hl (k := 0) rfl rfl tI_1 (by (first | omega | (unfold zBd at *; omega))) (by (first | omega | (unfold zBd at *; omega))) (by decide) (fun x_32 ex_32 ls hl => ?_)
                  replace hl : lv_has ls 4 [(3, .int x_32), (2, .int x_1), (0, .ref a0), (1, .int x0)] := hl
                  refine lv_goto (pc := 53) (tgt := 26) hx hb dX0_findLeast_53 (by decide) ?_
                  exact ih_lp_26 x_32 x_19 x_21 y_17 _ _ ls (by (first | omega | (unfold zBd at *; omega))) hi_20 (by (first | omega | (unfold zBd at *; omega))) (by (first | omega | (unfold zBd at *; omega))) (fl_skip flS_X hi_25 (by (first | omega | (unfold zBd at *; omega))) (by (first | omega | (unfold zBd at *; omega))) (by (first | omega | (unfold zBd at *; omega))) (by (first | omega | (unfold zBd at *; omega))) rfl (by (first | omega | (unfold zBd at *; omega)))) (by (first | omega | (unfold zBd at *; omega))) hP hD hS (lv_sub hl [0, 1, 2, 3] rfl)
                ·
                  refine lv_aload_n (pc := 44) hx hb dX0_findLeast_44 rfl (lv_at hl 2 rfl) ?_
                  refine lv_iload_n (pc := 45) hx hb dX0_findLeast_45 rfl (lv_at hl 1 rfl) ?_
                  refine lv_iload_n (pc := 46) hx hb dX0_findLeast_46 rfl (lv_at hl 0 rfl) ?_
                  refine gc_v (pc := 47) (wc := [(a0, .inr (0, [.ref a1, .ref a2, .int x1, .int x2, .long y_17, .int x_19, .int x_21])), (a1, .inl (cJ, 256, .inr (.inl g0)))]) (wr := []) hP hD hS hA [0, 1] [] rfl rfl (by decide) (by decide) (by decide) (fun hPc hDc => va_runV (As := [.int x_1, .int x_15]) (rest := []) ⟨hx, hb, hml, hown, hts⟩ (k_X0_weighPair l D cB cC cI cJ _ a0 a1 a2 x_1 x_15 x1 x2 x_19 x_21 y_17 g0 (by  (first | omega | (unfold zBd at *; omega))) (by  (first | omega | (unfold zBd at *; omega))) h_x1 h_x2 hi_20 (by  (first | omega | (unfold zBd at *; omega)))) ⟨gcwB hts tw_1210 tw_11 tw_1207 hd_yX0_weighPair ⟨Nat.le_of_ble_eq_true rfl, Nat.le_of_ble_eq_true rfl⟩, hts _ tw_1209, hts _ tp_47⟩ ⟨gblind, va_recv hK hPc (ci := 0) (q0 := 0) rfl rfl, (gpreS hPc hK hDc hN).2⟩ rfl rfl hl.1 rfl (lv_room (Nat.le_of_ble_eq_true rfl)) dX0_findLeast_47 ⟨Nat.le_of_ble_eq_true rfl, Nat.le_of_ble_eq_true rfl⟩) (fun u_33 H locs hw_35 hP hD hS => ?_)
                  replace hP : va_P D gcl [(a0, .inr (0, [.ref a1, .ref a2, .int x1, .int x2, .long (u_33.2.2.2.2 0), .int (u_33.2.2.2.1 0), .int (u_33.2.2.2.1 1)])), (a1, .inl (cJ, 256, .inr (.inl g0)))] H := hP
                  replace hD : va_D A [(a0, .inr (0, [.ref a1, .ref a2, .int x1, .int x2, .long (u_33.2.2.2.2 0), .int (u_33.2.2.2.1 0), .int (u_33.2.2.2.1 1)])), (a1, .inl (cJ, 256, .inr (.inl g0)))] := hD
                  have ru_33_0 := n_rngL (u_33.2.2.2.2 0)
                  have ru_33_1 : zBd (u_33.2.2.2.1 1).toInt (-2147483648) 2147483647 := n_rng (u_33.2.2.2.1 1)
                  obtain ⟨hw_36, hw_37, hw_38⟩ := hw_35
                  replace hw_36 : zBd (u_33.2.2.2.1 0).toInt 0 256 := hw_36
                  replace hw_37 : (wgQ (wrC g0 x_1.toInt x_15.toInt) y_17.toInt x_19.toInt x_21.toInt (u_33.2.2.2.2 0).toInt (u_33.2.2.2.1 0).toInt (u_33.2.2.2.1 1).toInt x_1.toInt x_15.toInt) := hw_37
                  replace hw_38 : ((u_33.2.2.2.1 0).toInt ≤ x_19.toInt + 1) := hw_38
                  refine b_iinc (pc := 50) hx hb dX0_findLeast_50 hl (k := 0) rfl rfl tI_1 (by (first | omega | (unfold zBd at *; omega))) (by (first | omega | (unfold zBd at *; omega))) (by decide) (fun x_39 ex_39 ls hl => ?_)
                  replace hl : lv_has ls 4 [(3, .int x_39), (2, .int x_1), (0, .ref a0), (1, .int x0)] := hl
                  refine lv_goto (pc := 53) (tgt := 26) hx hb dX0_findLeast_53 (by decide) ?_
                  exact ih_lp_26 x_39 (u_33.2.2.2.1 0) (u_33.2.2.2.1 1) (u_33.2.2.2.2 0) _ _ ls (by (first | omega | (unfold zBd at *; omega))) hw_36 (by (first | omega | (unfold zBd at *; omega))) (by (first | omega | (unfold zBd at *; omega))) (fl_weigh hi_25 hw_37 rfl (by (first | omega | (unfold zBd at *; omega))) (by (first | omega | (unfold zBd at *; omega))) (by (first | omega | (unfold zBd at *; omega))) rfl (by (first | omega | (unfold zBd at *; omega)))) (by (first | omega | (unfold zBd at *; omega))) hP hD hS (lv_sub hl [0, 1, 2, 3] rfl)
        exact lp_26 _ x_14 x_5 x_7 y_3 _ _ ls (by (first | omega | (unfold zBd at *; omega))) hi_6 (by have q := tI_0; (first | omega | (unfold zBd at *; omega))) (by have q := tI_0; (first | omega | (unfold zBd at *; omega))) (fl_in flS_X hi_11 (by (first | omega | (unfold zBd at *; omega))) (by (first | omega | (unfold zBd at *; omega))) rfl rfl (by (first | omega | (unfold zBd at *; omega)))) (Nat.lt_succ_self _) hP hD hS (lv_sub hl [0, 1, 2, 3] rfl)
  exact lp_12 _ 0 0 x4 1000000000000000 _ _ ls (n_c tI_0 (by decide)) (n_c tI_0 (by decide)) (by have q := tI_0; (first | omega | (unfold zBd at *; omega))) (by have q := tI_0; (first | omega | (unfold zBd at *; omega))) (flE_0 tL_1000000000000000 tI_0 rfl (by have q := tI_0; (first | omega | (unfold zBd at *; omega)))) (Nat.lt_succ_self _) hP hD hS (lv_sub hl [0, 1, 2] rfl)
set_option maxHeartbeats 4000000 in
set_option maxRecDepth 100000 in
theorem k_X6_lookAtLine (l : Launch) (D : va_G) (cB cC cI cJ : ClassId) (sz : Nat) (a0 a1 a2 a3 a4 a5 a6 a7 a8 a9 a10 : Nat) (x0 x1 : Int32) (y0 : Int64) (f0 f1 f2 f3 : Nat → Int32) (g0 g1 g2 : Nat → Int64) (h_x1 : zBd x1.toInt 0 4) (hf_f3 : (∀ j, 0 ≤ (f3 j).toInt ∧ (f3 j).toInt ≤ 23)) : Met l yX6_lookAtLine (.code yX6_lookAtLine cX6_lookAtLine 6 none :: lw_gd) ({ frames := 2, cells := 0, slots := 0, locals := 52 }) (gPre D [(cB, .byte), (cC, .char), (cI, .int), (cJ, .long)] [.ref a0, .int x0] [(a0, .inr (6, [.ref a1, .ref a2, .ref a3, .long y0])), (a1, .inr (10, [.ref a4, .ref a5, .ref a6, .ref a7, .ref a8, .ref a9, .ref a10, .int x1])), (a4, .inl (cJ, 25, .inr (.inl g0))), (a8, .inl (cI, 5, .inl f0)), (a6, .inl (cJ, 25, .inr (.inl g1))), (a7, .inl (cI, 5, .inl f1)), (a5, .inl (cJ, 5, .inr (.inl g2))), (a2, .inl (cI, 5, .inl f2)), (a10, .inl (cI, 5, .inl f3))] sz) (va_Qv (fun u => ((((-9223372036854775808) ≤ y0.toInt ∧ y0.toInt ≤ 9223372036854775807)) ∨ (((-9223372036854775807) ≤ y0.toInt ∧ y0.toInt ≤ 9223372036854775807) ∧ (0 ≤ x1.toInt ∧ x1.toInt ≤ 4)))) (gB D (va_A [(a0, .inr (6, [.ref a1, .ref a2, .ref a3, .long y0])), (a1, .inr (10, [.ref a4, .ref a5, .ref a6, .ref a7, .ref a8, .ref a9, .ref a10, .int x1])), (a4, .inl (cJ, 25, .inr (.inl g0))), (a8, .inl (cI, 5, .inl f0)), (a6, .inl (cJ, 25, .inr (.inl g1))), (a7, .inl (cI, 5, .inl f1)), (a5, .inl (cJ, 5, .inr (.inl g2))), (a2, .inl (cI, 5, .inl f2)), (a10, .inl (cI, 5, .inl f3))] sz) (fun u : gEx => [(a0, .inr (6, [.ref a1, .ref a2, .ref a3, .long (u.2.2.2.2 0)])), (a1, .inr (10, [.ref a4, .ref a5, .ref a6, .ref a7, .ref a8, .ref a9, .ref a10, .int x1])), (a4, .inl (cJ, 25, .inr (.inl g0))), (a8, .inl (cI, 5, .inl f0)), (a6, .inl (cJ, 25, .inr (.inl g1))), (a7, .inl (cI, 5, .inl f1)), (a5, .inl (cJ, 5, .inr (.inl g2))), (a2, .inl (cI, 5, .inl (u.2.1 0))), (a10, .inl (cI, 5, .inl f3))])) (va_A [(a0, .inr (6, [.ref a1, .ref a2, .ref a3, .long y0])), (a1, .inr (10, [.ref a4, .ref a5, .ref a6, .ref a7, .ref a8, .ref a9, .ref a10, .int x1])), (a4, .inl (cJ, 25, .inr (.inl g0))), (a8, .inl (cI, 5, .inl f0)), (a6, .inl (cJ, 25, .inr (.inl g1))), (a7, .inl (cI, 5, .inl f1)), (a5, .inl (cJ, 5, .inr (.inl g2))), (a2, .inl (cI, 5, .inl f2)), (a10, .inl (cI, 5, .inl f3))] sz)) 0 0 (va_A [(a0, .inr (6, [.ref a1, .ref a2, .ref a3, .long y0])), (a1, .inr (10, [.ref a4, .ref a5, .ref a6, .ref a7, .ref a8, .ref a9, .ref a10, .int x1])), (a4, .inl (cJ, 25, .inr (.inl g0))), (a8, .inl (cI, 5, .inl f0)), (a6, .inl (cJ, 25, .inr (.inl g1))), (a7, .inl (cI, 5, .inl f1)), (a5, .inl (cJ, 5, .inr (.inl g2))), (a2, .inl (cI, 5, .inl f2)), (a10, .inl (cI, 5, .inl f3))] sz) := by
  refine gOf_v (by decide +kernel) (Nat.le_of_ble_eq_true rfl) ?_
  intro p e s m args below meth c ls A Q hx hb hts hown hml hN hK hP hD hA hl hret
  replace hown : s.vm.findClass RX6 = some m.cls := hown
  have hS : va_S A s.heap s.heap [] := va_S.rf
  replace hP : va_P D gcl [(a0, .inr (6, [.ref a1, .ref a2, .ref a3, .long y0])), (a1, .inr (10, [.ref a4, .ref a5, .ref a6, .ref a7, .ref a8, .ref a9, .ref a10, .int x1])), (a4, .inl (cJ, 25, .inr (.inl g0))), (a8, .inl (cI, 5, .inl f0)), (a6, .inl (cJ, 25, .inr (.inl g1))), (a7, .inl (cI, 5, .inl f1)), (a5, .inl (cJ, 5, .inr (.inl g2))), (a2, .inl (cI, 5, .inl f2)), (a10, .inl (cI, 5, .inl f3))] s.heap := hP
  replace hl : lv_has ls 6 [(0, .ref a0), (1, .int x0)] := hl
  have rx0 : zBd x0.toInt (-2147483648) 2147483647 := n_rng x0
  have ry0 := n_rngL y0
  refine lv_aload_n (pc := 0) hx hb dX6_lookAtLine_0 rfl (lv_at hl 0 rfl) ?_
  refine va_get (pc := 1) (ci := 6) (v := .ref a1) (C := RX6) (T := TX6) (N := 4) hx hb hts iX6 hown hK hP 0 rfl rfl 0 (by decide) (hts _ tw_293) (fun _ h9 => h9) rfl dX6_lookAtLine_1 ?_
  refine lv_iload_n (pc := 4) hx hb dX6_lookAtLine_4 rfl (lv_at hl 1 rfl) ?_
  refine gc_i (pc := 5) (wc := [(a1, .inr (10, [.ref a4, .ref a5, .ref a6, .ref a7, .ref a8, .ref a9, .ref a10, .int x1])), (a4, .inl (cJ, 25, .inr (.inl g0))), (a8, .inl (cI, 5, .inl f0)), (a6, .inl (cJ, 25, .inr (.inl g1))), (a7, .inl (cI, 5, .inl f1)), (a5, .inl (cJ, 5, .inr (.inl g2)))]) (wr := [(a0, .inr (6, [.ref a1, .ref a2, .ref a3, .long y0])), (a2, .inl (cI, 5, .inl f2)), (a10, .inl (cI, 5, .inl f3))]) hP hD hS hA [1, 2, 3, 4, 5, 6] [0, 7, 8] rfl rfl (by decide) (by decide) (by decide) (fun hPc hDc => va_runV (As := [.int x0]) (rest := []) ⟨hx, hb, hml, hown, hts⟩ (k_X10_bestDigit l D cB cC cI cJ _ a1 a4 a5 a6 a7 a8 a9 a10 x0 x1 f0 f1 g0 g1 g2 h_x1) ⟨gcwB hts tw_1151 tw_8 tw_1148 hd_yX10_bestDigit ⟨Nat.le_of_ble_eq_true rfl, Nat.le_of_ble_eq_true rfl⟩, hts _ tw_1149, hts _ tw_1150⟩ ⟨gblind, va_recv hK hPc (ci := 10) (q0 := 0) rfl rfl, (gpreS hPc hK hDc hN).2⟩ rfl rfl hl.1 rfl (lv_room (Nat.le_of_ble_eq_true rfl)) dX6_lookAtLine_5 ⟨Nat.le_of_ble_eq_true rfl, Nat.le_of_ble_eq_true rfl⟩) (fun r_2 u_1 H locs hw_3 hP hD hS => ?_)
  replace hP : va_P D gcl [(a0, .inr (6, [.ref a1, .ref a2, .ref a3, .long y0])), (a2, .inl (cI, 5, .inl f2)), (a10, .inl (cI, 5, .inl f3)), (a1, .inr (10, [.ref a4, .ref a5, .ref a6, .ref a7, .ref a8, .ref a9, .ref a10, .int x1])), (a4, .inl (cJ, 25, .inr (.inl g0))), (a8, .inl (cI, 5, .inl f0)), (a6, .inl (cJ, 25, .inr (.inl g1))), (a7, .inl (cI, 5, .inl f1)), (a5, .inl (cJ, 5, .inr (.inl g2)))] H := hP
  replace hD : va_D A [(a0, .inr (6, [.ref a1, .ref a2, .ref a3, .long y0])), (a2, .inl (cI, 5, .inl f2)), (a10, .inl (cI, 5, .inl f3)), (a1, .inr (10, [.ref a4, .ref a5, .ref a6, .ref a7, .ref a8, .ref a9, .ref a10, .int x1])), (a4, .inl (cJ, 25, .inr (.inl g0))), (a8, .inl (cI, 5, .inl f0)), (a6, .inl (cJ, 25, .inr (.inl g1))), (a7, .inl (cI, 5, .inl f1)), (a5, .inl (cJ, 5, .inr (.inl g2)))] := hD
  have hw_4 : ((((-2147483648) ≤ r_2.toInt ∧ r_2.toInt ≤ 2147483647) ∧ ((-2147483648) ≤ x0.toInt ∧ x0.toInt ≤ 2147483647)) ∨ (((-2147483648) ≤ r_2.toInt ∧ r_2.toInt ≤ 2147483647) ∧ ((-2147483647) ≤ x0.toInt ∧ x0.toInt ≤ 2147483647)) ∨ (r_2.toInt = 0)) := hw_3
  have rr_2 : zBd r_2.toInt (-2147483648) 2147483647 := n_rng r_2
  refine lv_istore_n (pc := 8) (lv' := [(2, .int r_2), (0, .ref a0), (1, .int x0)]) hx hb dX6_lookAtLine_8 rfl hl (by decide) rfl (fun ls hl => ?_)
  refine lv_aload_n (pc := 9) hx hb dX6_lookAtLine_9 rfl (lv_at hl 1 rfl) ?_
  refine va_get (pc := 10) (ci := 6) (v := .ref a1) (C := RX6) (T := TX6) (N := 4) hx hb hts iX6 hown hK hP 0 rfl rfl 0 (by decide) (hts _ tw_293) (fun _ h9 => h9) rfl dX6_lookAtLine_10 ?_
  refine lv_iload_n (pc := 13) hx hb dX6_lookAtLine_13 rfl (lv_at hl 0 rfl) ?_
  refine gc_l (pc := 14) (wc := [(a1, .inr (10, [.ref a4, .ref a5, .ref a6, .ref a7, .ref a8, .ref a9, .ref a10, .int x1])), (a7, .inl (cI, 5, .inl f1)), (a8, .inl (cI, 5, .inl f0)), (a5, .inl (cJ, 5, .inr (.inl g2))), (a4, .inl (cJ, 25, .inr (.inl g0))), (a6, .inl (cJ, 25, .inr (.inl g1)))]) (wr := [(a0, .inr (6, [.ref a1, .ref a2, .ref a3, .long y0])), (a2, .inl (cI, 5, .inl f2)), (a10, .inl (cI, 5, .inl f3))]) hP hD hS hA [3, 7, 5, 8, 4, 6] [0, 1, 2] rfl rfl (by decide) (by decide) (by decide) (fun hPc hDc => va_runV (As := [.int r_2]) (rest := []) ⟨hx, hb, hml, hown, hts⟩ (k_X10_squaresAt l D cB cC cI cJ _ a1 a4 a5 a6 a7 a8 a9 a10 r_2 x1 f1 f0 g2 g0 g1 h_x1) ⟨gcwB hts tw_922 tw_8 tw_1158 hd_yX10_squaresAt ⟨Nat.le_of_ble_eq_true rfl, Nat.le_of_ble_eq_true rfl⟩, hts _ tw_920, hts _ tw_921⟩ ⟨gblind, va_recv hK hPc (ci := 10) (q0 := 0) rfl rfl, (gpreS hPc hK hDc hN).2⟩ rfl rfl hl.1 rfl (lv_room (Nat.le_of_ble_eq_true rfl)) dX6_lookAtLine_14 ⟨Nat.le_of_ble_eq_true rfl, Nat.le_of_ble_eq_true rfl⟩) (fun r_6 u_5 H locs hw_7 hP hD hS => ?_)
  replace hP : va_P D gcl [(a0, .inr (6, [.ref a1, .ref a2, .ref a3, .long y0])), (a2, .inl (cI, 5, .inl f2)), (a10, .inl (cI, 5, .inl f3)), (a1, .inr (10, [.ref a4, .ref a5, .ref a6, .ref a7, .ref a8, .ref a9, .ref a10, .int x1])), (a7, .inl (cI, 5, .inl f1)), (a8, .inl (cI, 5, .inl f0)), (a5, .inl (cJ, 5, .inr (.inl g2))), (a4, .inl (cJ, 25, .inr (.inl g0))), (a6, .inl (cJ, 25, .inr (.inl g1)))] H := hP
  replace hD : va_D A [(a0, .inr (6, [.ref a1, .ref a2, .ref a3, .long y0])), (a2, .inl (cI, 5, .inl f2)), (a10, .inl (cI, 5, .inl f3)), (a1, .inr (10, [.ref a4, .ref a5, .ref a6, .ref a7, .ref a8, .ref a9, .ref a10, .int x1])), (a7, .inl (cI, 5, .inl f1)), (a8, .inl (cI, 5, .inl f0)), (a5, .inl (cJ, 5, .inr (.inl g2))), (a4, .inl (cJ, 25, .inr (.inl g0))), (a6, .inl (cJ, 25, .inr (.inl g1)))] := hD
  have hw_8 : ((((-9223372036854775808) ≤ r_6.toInt ∧ r_6.toInt ≤ 9223372036854775807))) := hw_7
  have rr_6 := n_rngL r_6
  refine lv_lstore_n (pc := 17) (lv' := [(3, .long r_6), (2, .int r_2), (0, .ref a0), (1, .int x0)]) hx hb dX6_lookAtLine_17 rfl hl (by decide) rfl (fun ls hl => ?_)
  refine lv_lload_n (pc := 18) hx hb dX6_lookAtLine_18 rfl (lv_at hl 0 rfl) ?_
  refine lv_aload_n (pc := 19) hx hb dX6_lookAtLine_19 rfl (lv_at hl 2 rfl) ?_
  refine va_get (pc := 20) (ci := 6) (v := .long y0) (C := RX6) (T := TX6) (N := 4) hx hb hts iX6 hown hK hP 0 rfl rfl 3 (by decide) (hts _ tw_297) (fun _ h9 => h9) rfl dX6_lookAtLine_20 ?_
  refine b_lcmp_ge (pc := 23) (tgt := 110) hx hb rfl rfl dX6_lookAtLine_23 dX6_lookAtLine_24 (by decide) (fun c_9 => ?_) (fun c_9 => ?_)
  ·
    exact hret ((fun _ => 0), (fun k => [f2].getD k (fun _ => 0)), (fun _ => (fun _ => 0)), (fun _ => 0), (fun k => [y0].getD k 0)) dX6_lookAtLine_110 (show ((((-9223372036854775808) ≤ y0.toInt ∧ y0.toInt ≤ 9223372036854775807)) ∨ (((-9223372036854775807) ≤ y0.toInt ∧ y0.toInt ≤ 9223372036854775807) ∧ (0 ≤ x1.toInt ∧ x1.toInt ≤ 4))) by (first | omega | (unfold zBd at *; omega))) (g_psub (wc := [(a0, .inr (6, [.ref a1, .ref a2, .ref a3, .long y0])), (a1, .inr (10, [.ref a4, .ref a5, .ref a6, .ref a7, .ref a8, .ref a9, .ref a10, .int x1])), (a4, .inl (cJ, 25, .inr (.inl g0))), (a8, .inl (cI, 5, .inl f0)), (a6, .inl (cJ, 25, .inr (.inl g1))), (a7, .inl (cI, 5, .inl f1)), (a5, .inl (cJ, 5, .inr (.inl g2))), (a2, .inl (cI, 5, .inl f2)), (a10, .inl (cI, 5, .inl f3))]) hP [0, 3, 7, 5, 8, 4, 6, 1, 2] rfl) (hD.sub (ws' := [(a0, .inr (6, [.ref a1, .ref a2, .ref a3, .long y0])), (a1, .inr (10, [.ref a4, .ref a5, .ref a6, .ref a7, .ref a8, .ref a9, .ref a10, .int x1])), (a4, .inl (cJ, 25, .inr (.inl g0))), (a8, .inl (cI, 5, .inl f0)), (a6, .inl (cJ, 25, .inr (.inl g1))), (a7, .inl (cI, 5, .inl f1)), (a5, .inl (cJ, 5, .inr (.inl g2))), (a2, .inl (cI, 5, .inl f2)), (a10, .inl (cI, 5, .inl f3))]) [0, 3, 7, 5, 8, 4, 6, 1, 2] (by decide) rfl) hS
  ·
    refine lv_aload_n (pc := 27) hx hb dX6_lookAtLine_27 rfl (lv_at hl 2 rfl) ?_
    refine lv_lload_n (pc := 28) hx hb dX6_lookAtLine_28 rfl (lv_at hl 0 rfl) ?_
    refine va_put (pc := 29) (ci := 6) (v := .long r_6) (ty := .long) (C := RX6) (T := TX6) (N := 4) hx hb hts iX6 tyX6 tyX6_ok nmX6 hown hK hP hD hS 0 rfl rfl 3 (by decide) (hts _ tw_297) (fun _ h9 => h9) rfl (by decide +kernel) rfl rfl (Nat.le_of_ble_eq_true rfl) dX6_lookAtLine_29 (fun H locs hP hD hS => ?_)
    replace hP : va_P D gcl [(a0, .inr (6, [.ref a1, .ref a2, .ref a3, .long r_6])), (a2, .inl (cI, 5, .inl f2)), (a10, .inl (cI, 5, .inl f3)), (a1, .inr (10, [.ref a4, .ref a5, .ref a6, .ref a7, .ref a8, .ref a9, .ref a10, .int x1])), (a7, .inl (cI, 5, .inl f1)), (a8, .inl (cI, 5, .inl f0)), (a5, .inl (cJ, 5, .inr (.inl g2))), (a4, .inl (cJ, 25, .inr (.inl g0))), (a6, .inl (cJ, 25, .inr (.inl g1)))] H := hP
    replace hD : va_D A [(a0, .inr (6, [.ref a1, .ref a2, .ref a3, .long r_6])), (a2, .inl (cI, 5, .inl f2)), (a10, .inl (cI, 5, .inl f3)), (a1, .inr (10, [.ref a4, .ref a5, .ref a6, .ref a7, .ref a8, .ref a9, .ref a10, .int x1])), (a7, .inl (cI, 5, .inl f1)), (a8, .inl (cI, 5, .inl f0)), (a5, .inl (cJ, 5, .inr (.inl g2))), (a4, .inl (cJ, 25, .inr (.inl g0))), (a6, .inl (cJ, 25, .inr (.inl g1)))] := hD
    refine lv_iconst (pc := 32) (v := 0) hx hb dX6_lookAtLine_32 (by decide) ?_
    refine lv_istore (pc := 33) (lv' := [(5, .int 0), (3, .long r_6), (2, .int r_2), (0, .ref a0), (1, .int x0)]) hx hb dX6_lookAtLine_33 hl (by decide) rfl (fun ls hl => ?_)
    have lp_13 : ∀ (n : Nat) (x_10 : Int32) (f_12 : Nat → Int32) (H : Heap) (locs : List Loc) (ls : Array Slot), (0 ≤ x_10.toInt ∧ x_10.toInt ≤ 2147483647) → (2147483647 - x_10.toInt).toNat < n → va_P D gcl [(a0, .inr (6, [.ref a1, .ref a2, .ref a3, .long r_6])), (a2, .inl (cI, 5, .inl f_12)), (a10, .inl (cI, 5, .inl f3)), (a1, .inr (10, [.ref a4, .ref a5, .ref a6, .ref a7, .ref a8, .ref a9, .ref a10, .int x1])), (a7, .inl (cI, 5, .inl f1)), (a8, .inl (cI, 5, .inl f0)), (a5, .inl (cJ, 5, .inr (.inl g2))), (a4, .inl (cJ, 25, .inr (.inl g0))), (a6, .inl (cJ, 25, .inr (.inl g1)))] H → va_D A [(a0, .inr (6, [.ref a1, .ref a2, .ref a3, .long r_6])), (a2, .inl (cI, 5, .inl f_12)), (a10, .inl (cI, 5, .inl f3)), (a1, .inr (10, [.ref a4, .ref a5, .ref a6, .ref a7, .ref a8, .ref a9, .ref a10, .int x1])), (a7, .inl (cI, 5, .inl f1)), (a8, .inl (cI, 5, .inl f0)), (a5, .inl (cJ, 5, .inr (.inl g2))), (a4, .inl (cJ, 25, .inr (.inl g0))), (a6, .inl (cJ, 25, .inr (.inl g1)))] → va_S A s.heap H locs → lv_has ls 6 [(5, .int x_10), (3, .long r_6), (2, .int r_2), (0, .ref a0), (1, .int x0)] → W p l e ({ frames := 2, cells := 0, slots := 0, locals := 52 }) s m args below meth c H locs 0 0 Q (F0 m 35 ls []) := by
      intro n
      induction n with
      | zero => intro x_10 f_12 H locs ls hi_11 hmu; exact absurd hmu (Nat.not_lt_zero _)
      | succ n ih_lp_13 =>
        intro x_10 f_12 H locs ls hi_11 hmu_lp_13 hP hD hS hl
        refine lv_iload (pc := 35) hx hb dX6_lookAtLine_35 (lv_at hl 0 rfl) ?_
        refine lv_aload_n (pc := 37) hx hb dX6_lookAtLine_37 rfl (lv_at hl 3 rfl) ?_
        refine va_get (pc := 38) (ci := 6) (v := .ref a1) (C := RX6) (T := TX6) (N := 4) hx hb hts iX6 hown hK hP 0 rfl rfl 0 (by decide) (hts _ tw_293) (fun _ h9 => h9) rfl dX6_lookAtLine_38 ?_
        refine va_getN (pc := 41) (ci := 10) (v := .int x1) (C := RX10) (T := TX10) (N := 8) hx hb hts iX10 hown hK hP 3 rfl rfl 7 (by decide) (va_Nw.use rfl (hN _ tn_221)) (fun _ h9 => h9) rfl dX6_lookAtLine_41 ?_
        refine b_icmp_ge (pc := 44) (tgt := 81) hx hb rfl rfl  dX6_lookAtLine_44 (by decide) (fun c_14 => ?_) (fun c_14 => ?_)
        ·
          refine lv_aload_n (pc := 81) hx hb dX6_lookAtLine_81 rfl (lv_at hl 3 rfl) ?_
          refine va_get (pc := 82) (ci := 6) (v := .ref a2) (C := RX6) (T := TX6) (N := 4) hx hb hts iX6 hown hK hP 0 rfl rfl 1 (by decide) (hts _ tw_294) (fun _ h9 => h9) rfl dX6_lookAtLine_82 ?_
          refine lv_aload_n (pc := 85) hx hb dX6_lookAtLine_85 rfl (lv_at hl 3 rfl) ?_
          refine va_get (pc := 86) (ci := 6) (v := .ref a1) (C := RX6) (T := TX6) (N := 4) hx hb hts iX6 hown hK hP 0 rfl rfl 0 (by decide) (hts _ tw_293) (fun _ h9 => h9) rfl dX6_lookAtLine_86 ?_
          refine va_getN (pc := 89) (ci := 10) (v := .int x1) (C := RX10) (T := TX10) (N := 8) hx hb hts iX10 hown hK hP 3 rfl rfl 7 (by decide) (va_Nw.use rfl (hN _ tn_221)) (fun _ h9 => h9) rfl dX6_lookAtLine_89 ?_
          refine lv_aload_n (pc := 92) hx hb dX6_lookAtLine_92 rfl (lv_at hl 3 rfl) ?_
          refine va_get (pc := 93) (ci := 6) (v := .ref a1) (C := RX6) (T := TX6) (N := 4) hx hb hts iX6 hown hK hP 0 rfl rfl 0 (by decide) (hts _ tw_293) (fun _ h9 => h9) rfl dX6_lookAtLine_93 ?_
          refine va_getN (pc := 96) (ci := 10) (v := .ref a7) (C := RX10) (T := TX10) (N := 8) hx hb hts iX10 hown hK hP 3 rfl rfl 3 (by decide) (va_Nw.use rfl (hN _ tn_212)) (fun _ h9 => h9) rfl dX6_lookAtLine_96 ?_
          refine lv_aload_n (pc := 99) hx hb dX6_lookAtLine_99 rfl (lv_at hl 3 rfl) ?_
          refine va_get (pc := 100) (ci := 6) (v := .ref a1) (C := RX6) (T := TX6) (N := 4) hx hb hts iX6 hown hK hP 0 rfl rfl 0 (by decide) (hts _ tw_293) (fun _ h9 => h9) rfl dX6_lookAtLine_100 ?_
          refine va_getN (pc := 103) (ci := 10) (v := .int x1) (C := RX10) (T := TX10) (N := 8) hx hb hts iX10 hown hK hP 3 rfl rfl 7 (by decide) (va_Nw.use rfl (hN _ tn_221)) (fun _ h9 => h9) rfl dX6_lookAtLine_103 ?_
          refine va_iald (pc := 106) hx hb hK hP 4 2 rfl rfl (n_in rfl (by (first | omega | (unfold zBd at *; omega))) (by (first | omega | (unfold zBd at *; omega)))) dX6_lookAtLine_106 ?_
          refine lv_topi (fun x_15 ex_15 => ?_)
          have rx_15 : zBd x_15.toInt (-2147483648) 2147483647 := n_rng x_15
          refine lv_iload_n (pc := 107) hx hb dX6_lookAtLine_107 rfl (lv_at hl 2 rfl) ?_
          refine lv_iadd (pc := 108) hx hb dX6_lookAtLine_108 ?_
          refine lv_topi (fun x_16 _ => ?_)
          have rx_16 : zBd x_16.toInt (-2147483648) 2147483647 := n_rng x_16
          refine g_iastore (pc := 109) hx hb hK hP hD hS 1 2 rfl rfl (n_in rfl (by (first | omega | (unfold zBd at *; omega))) (by (first | omega | (unfold zBd at *; omega)))) dX6_lookAtLine_109 (fun f_17 H locs hP hD hS => ?_)
          replace hP : va_P D gcl [(a0, .inr (6, [.ref a1, .ref a2, .ref a3, .long r_6])), (a2, .inl (cI, 5, .inl f_17)), (a10, .inl (cI, 5, .inl f3)), (a1, .inr (10, [.ref a4, .ref a5, .ref a6, .ref a7, .ref a8, .ref a9, .ref a10, .int x1])), (a7, .inl (cI, 5, .inl f1)), (a8, .inl (cI, 5, .inl f0)), (a5, .inl (cJ, 5, .inr (.inl g2))), (a4, .inl (cJ, 25, .inr (.inl g0))), (a6, .inl (cJ, 25, .inr (.inl g1)))] H := hP
          replace hD : va_D A [(a0, .inr (6, [.ref a1, .ref a2, .ref a3, .long r_6])), (a2, .inl (cI, 5, .inl f_17)), (a10, .inl (cI, 5, .inl f3)), (a1, .inr (10, [.ref a4, .ref a5, .ref a6, .ref a7, .ref a8, .ref a9, .ref a10, .int x1])), (a7, .inl (cI, 5, .inl f1)), (a8, .inl (cI, 5, .inl f0)), (a5, .inl (cJ, 5, .inr (.inl g2))), (a4, .inl (cJ, 25, .inr (.inl g0))), (a6, .inl (cJ, 25, .inr (.inl g1)))] := hD
          exact hret ((fun _ => 0), (fun k => [f_17].getD k (fun _ => 0)), (fun _ => (fun _ => 0)), (fun _ => 0), (fun k => [r_6].getD k 0)) dX6_lookAtLine_110 (show ((((-9223372036854775808) ≤ y0.toInt ∧ y0.toInt ≤ 9223372036854775807)) ∨ (((-9223372036854775807) ≤ y0.toInt ∧ y0.toInt ≤ 9223372036854775807) ∧ (0 ≤ x1.toInt ∧ x1.toInt ≤ 4))) by (first | omega | (unfold zBd at *; omega))) (g_psub (wc := [(a0, .inr (6, [.ref a1, .ref a2, .ref a3, .long r_6])), (a1, .inr (10, [.ref a4, .ref a5, .ref a6, .ref a7, .ref a8, .ref a9, .ref a10, .int x1])), (a4, .inl (cJ, 25, .inr (.inl g0))), (a8, .inl (cI, 5, .inl f0)), (a6, .inl (cJ, 25, .inr (.inl g1))), (a7, .inl (cI, 5, .inl f1)), (a5, .inl (cJ, 5, .inr (.inl g2))), (a2, .inl (cI, 5, .inl f_17)), (a10, .inl (cI, 5, .inl f3))]) hP [0, 3, 7, 5, 8, 4, 6, 1, 2] rfl) (hD.sub (ws' := [(a0, .inr (6, [.ref a1, .ref a2, .ref a3, .long r_6])), (a1, .inr (10, [.ref a4, .ref a5, .ref a6, .ref a7, .ref a8, .ref a9, .ref a10, .int x1])), (a4, .inl (cJ, 25, .inr (.inl g0))), (a8, .inl (cI, 5, .inl f0)), (a6, .inl (cJ, 25, .inr (.inl g1))), (a7, .inl (cI, 5, .inl f1)), (a5, .inl (cJ, 5, .inr (.inl g2))), (a2, .inl (cI, 5, .inl f_17)), (a10, .inl (cI, 5, .inl f3))]) [0, 3, 7, 5, 8, 4, 6, 1, 2] (by decide) rfl) hS
        ·
          refine lv_aload_n (pc := 47) hx hb dX6_lookAtLine_47 rfl (lv_at hl 3 rfl) ?_
          refine va_get (pc := 48) (ci := 6) (v := .ref a2) (C := RX6) (T := TX6) (N := 4) hx hb hts iX6 hown hK hP 0 rfl rfl 1 (by decide) (hts _ tw_294) (fun _ h9 => h9) rfl dX6_lookAtLine_48 ?_
          refine lv_iload (pc := 51) hx hb dX6_lookAtLine_51 (lv_at hl 0 rfl) ?_
          refine lv_aload_n (pc := 53) hx hb dX6_lookAtLine_53 rfl (lv_at hl 3 rfl) ?_
          refine va_get (pc := 54) (ci := 6) (v := .ref a1) (C := RX6) (T := TX6) (N := 4) hx hb hts iX6 hown hK hP 0 rfl rfl 0 (by decide) (hts _ tw_293) (fun _ h9 => h9) rfl dX6_lookAtLine_54 ?_
          refine va_getN (pc := 57) (ci := 10) (v := .ref a7) (C := RX10) (T := TX10) (N := 8) hx hb hts iX10 hown hK hP 3 rfl rfl 3 (by decide) (va_Nw.use rfl (hN _ tn_212)) (fun _ h9 => h9) rfl dX6_lookAtLine_57 ?_
          refine lv_iload (pc := 60) hx hb dX6_lookAtLine_60 (lv_at hl 0 rfl) ?_
          refine va_iald (pc := 62) hx hb hK hP 4 2 rfl rfl (n_in rfl (by (first | omega | (unfold zBd at *; omega))) (by (first | omega | (unfold zBd at *; omega)))) dX6_lookAtLine_62 ?_
          refine lv_topi (fun x_18 ex_18 => ?_)
          have rx_18 : zBd x_18.toInt (-2147483648) 2147483647 := n_rng x_18
          refine lv_aload_n (pc := 63) hx hb dX6_lookAtLine_63 rfl (lv_at hl 3 rfl) ?_
          refine va_get (pc := 64) (ci := 6) (v := .ref a1) (C := RX6) (T := TX6) (N := 4) hx hb hts iX6 hown hK hP 0 rfl rfl 0 (by decide) (hts _ tw_293) (fun _ h9 => h9) rfl dX6_lookAtLine_64 ?_
          refine va_getN (pc := 67) (ci := 10) (v := .ref a10) (C := RX10) (T := TX10) (N := 8) hx hb hts iX10 hown hK hP 3 rfl rfl 6 (by decide) (va_Nw.use rfl (hN _ tn_217)) (fun _ h9 => h9) rfl dX6_lookAtLine_67 ?_
          refine lv_iload (pc := 70) hx hb dX6_lookAtLine_70 (lv_at hl 0 rfl) ?_
          refine va_iald (pc := 72) hx hb hK hP 2 2 rfl rfl (n_in rfl (by (first | omega | (unfold zBd at *; omega))) (by (first | omega | (unfold zBd at *; omega)))) dX6_lookAtLine_72 ?_
          refine lv_topi (fun x_19 ex_19 => ?_)
          have rx_19 : (0 ≤ x_19.toInt ∧ x_19.toInt ≤ 23) := by rw [ex_19]; exact hf_f3 _
          refine lv_iadd (pc := 73) hx hb dX6_lookAtLine_73 ?_
          refine lv_topi (fun x_20 _ => ?_)
          have rx_20 : zBd x_20.toInt (-2147483648) 2147483647 := n_rng x_20
          refine g_iastore (pc := 74) hx hb hK hP hD hS 1 2 rfl rfl (n_in rfl (by (first | omega | (unfold zBd at *; omega))) (by (first | omega | (unfold zBd at *; omega)))) dX6_lookAtLine_74 (fun f_21 H locs hP hD hS => ?_)
          replace hP : va_P D gcl [(a0, .inr (6, [.ref a1, .ref a2, .ref a3, .long r_6])), (a2, .inl (cI, 5, .inl f_21)), (a10, .inl (cI, 5, .inl f3)), (a1, .inr (10, [.ref a4, .ref a5, .ref a6, .ref a7, .ref a8, .ref a9, .ref a10, .int x1])), (a7, .inl (cI, 5, .inl f1)), (a8, .inl (cI, 5, .inl f0)), (a5, .inl (cJ, 5, .inr (.inl g2))), (a4, .inl (cJ, 25, .inr (.inl g0))), (a6, .inl (cJ, 25, .inr (.inl g1)))] H := hP
          replace hD : va_D A [(a0, .inr (6, [.ref a1, .ref a2, .ref a3, .long r_6])), (a2, .inl (cI, 5, .inl f_21)), (a10, .inl (cI, 5, .inl f3)), (a1, .inr (10, [.ref a4, .ref a5, .ref a6, .ref a7, .ref a8, .ref a9, .ref a10, .int x1])), (a7, .inl (cI, 5, .inl f1)), (a8, .inl (cI, 5, .inl f0)), (a5, .inl (cJ, 5, .inr (.inl g2))), (a4, .inl (cJ, 25, .inr (.inl g0))), (a6, .inl (cJ, 25, .inr (.inl g1)))] := hD
          refine b_iinc (pc := 75) hx hb dX6_lookAtLine_75 hl (k := 0) rfl rfl tI_1 (by (first | omega | (unfold zBd at *; omega))) (by (first | omega | (unfold zBd at *; omega))) (by decide) (fun x_22 ex_22 ls hl => ?_)
          replace hl : lv_has ls 6 [(5, .int x_22), (3, .long r_6), (2, .int r_2), (0, .ref a0), (1, .int x0)] := hl
          refine lv_goto (pc := 78) (tgt := 35) hx hb dX6_lookAtLine_78 (by decide) ?_
          exact ih_lp_13 x_22 f_21 _ _ ls (by (first | omega | (unfold zBd at *; omega))) (by (first | omega | (unfold zBd at *; omega))) hP hD hS (lv_sub hl [0, 1, 2, 3, 4] rfl)
    exact lp_13 _ 0 f2 _ _ ls (n_c tI_0 (by decide)) (Nat.lt_succ_self _) hP hD hS (lv_sub hl [0, 1, 2, 3, 4] rfl)
